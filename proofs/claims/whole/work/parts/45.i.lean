section
/- JUMPS of the reference that wait for their aim -/
def fl_L (l : Int) : List (Int × Int) → List (Int × Int)
  | [] => []
  | e :: R => if e.2 = l then fl_L l R else e :: fl_L l R
def hs_L (l : Int) : List (Int × Int) → Prop
  | [] => False
  | e :: R => e.2 = l ∨ hs_L l R
def b2_L (a p : Int) (B : Nat → Int) : Nat → Int := fun x => if x = (p + 2).toNat then oq_and (a - p) 255 else if x = (p + 1).toNat then oq_and (oq_shr (a - p) 8) 255 else B x
def am_L (l a : Int) : List (Int × Int) → (Nat → Int) → Nat → Int
  | [], B => B
  | e :: R, B => am_L l a R (if e.2 = l ∧ e.1 + 2 < 12000 then b2_L a e.1 B else B)
/-- the jumps that wait: place and label -/
def JLs (m : ms_M) (L : List (Int × Int)) : Prop := m 160 87 = (L.length : Int) ∧ ∀ k : Nat, k < L.length → m 217 k = (L.getD k (0, 0)).1 ∧ m 218 k = (L.getD k (0, 0)).2
section
variable {nn : Nat} {h g u r m w : ms_M}
theorem gp_l {e d : Int × Int} : ∀ (A : List (Int × Int)) (k : Nat), k < A.length → (A ++ [e]).getD k d = A.getD k d := by
  intro A
  induction A with
  | nil => intro k hk; exact absurd hk (Nat.not_lt_zero k)
  | cons a A ih =>
    intro k hk
    cases k with
    | zero => rfl
    | succ k =>
      show (A ++ [e]).getD k d = A.getD k d
      exact ih k (Nat.lt_of_succ_lt_succ hk)
theorem gp_e {e d : Int × Int} : ∀ A : List (Int × Int), (A ++ [e]).getD A.length d = e := by
  intro A
  induction A with
  | nil => rfl
  | cons a A ih =>
    show (A ++ [e]).getD A.length d = e
    exact ih
theorem fl_app {l : Int} : ∀ A C : List (Int × Int), fl_L l (A ++ C) = fl_L l A ++ fl_L l C := by
  intro A C
  induction A with
  | nil => rfl
  | cons e A ih =>
    show (if e.2 = l then fl_L l (A ++ C) else e :: fl_L l (A ++ C)) = (if e.2 = l then fl_L l A else e :: fl_L l A) ++ fl_L l C
    by_cases q : e.2 = l
    · rw [if_pos q, if_pos q]; exact ih
    · rw [if_neg q, if_neg q, ih]; rfl
theorem hs_app {l : Int} : ∀ A C : List (Int × Int), hs_L l (A ++ C) ↔ (hs_L l A ∨ hs_L l C) := by
  intro A C
  induction A with
  | nil => exact ⟨fun z => .inr z, fun z => z.elim (fun y => y.elim) id⟩
  | cons e A ih =>
    show (e.2 = l ∨ hs_L l (A ++ C)) ↔ ((e.2 = l ∨ hs_L l A) ∨ hs_L l C)
    rw [ih]
    exact ⟨fun z => z.elim (fun y => .inl (.inl y)) (fun y => y.elim (fun x => .inl (.inr x)) .inr), fun z => z.elim (fun y => y.elim .inl (fun x => .inr (.inl x))) (fun y => .inr (.inr y))⟩
theorem fl_no {l : Int} : ∀ A : List (Int × Int), ¬ hs_L l A → fl_L l A = A := by
  intro A
  induction A with
  | nil => intro _; rfl
  | cons e A ih =>
    intro z
    show (if e.2 = l then fl_L l A else e :: fl_L l A) = e :: A
    rw [if_neg (fun y => z (.inl y)), ih (fun y => z (.inr y))]
theorem am_app {l a : Int} : ∀ (A C : List (Int × Int)) (B : Nat → Int), am_L l a (A ++ C) B = am_L l a C (am_L l a A B) := by
  intro A C
  induction A with
  | nil => intro B; rfl
  | cons e A ih => intro B; exact ih _
theorem am_no {l a : Int} : ∀ (A : List (Int × Int)) (B : Nat → Int), ¬ hs_L l A → am_L l a A B = B := by
  intro A
  induction A with
  | nil => intro B _; rfl
  | cons e A ih =>
    intro B z
    show am_L l a A (if e.2 = l ∧ e.1 + 2 < 12000 then b2_L a e.1 B else B) = B
    rw [if_neg (fun y => z (.inl y.1))]
    exact ih B (fun y => z (.inr y))
theorem st_8 {l a : Int} {Q : ms_M → Prop} (ha : 0 ≤ a ∧ a ≤ 1000000) : ∀ (f : Nat) (R Kd : List (Int × Int)) (l5 : Nat) (any : Int) (B : Nat → Int) (g : ms_M), g 160 87 = ((l5 + R.length : Nat) : Int) → Kd.length ≤ l5 → l5 + R.length ≤ 3000 → (∀ i : Nat, i < R.length → g 217 (l5 + i) = (R.getD i (0, 0)).1 ∧ g 218 (l5 + i) = (R.getD i (0, 0)).2) → (∀ i : Nat, i < Kd.length → g 217 i = (Kd.getD i (0, 0)).1 ∧ g 218 i = (Kd.getD i (0, 0)).2) → (∀ x : Nat, g 206 x = B x) → (∀ cc x : Nat, ¬ (cc = 206 ∨ cc = 217 ∨ cc = 218) → g cc x = m cc x) → (∀ i : Nat, i < R.length → 0 ≤ (R.getD i (0, 0)).1 ∧ (R.getD i (0, 0)).1 ≤ 1000000) → (∀ (w : ms_M) (any2 : Int), (any2 = 0 ↔ (any = 0 ∧ ¬ hs_L l R)) → JLs w (Kd ++ fl_L l R) → (∀ x : Nat, w 206 x = am_L l a R B x) → (∀ cc x : Nat, ¬ (cc = 206 ∨ cc = 217 ∨ cc = 218) → ¬ (cc = 160 ∧ x = 87) → w cc x = m cc x) → Pc (if any2 = 0 then qj_X13_stands_154 nn w else mx_sv (qf_X13_frame nn a w) fun u4 => qj_X13_stands_154 nn u4) Q) → Pc (qw_X13_stands_8 nn f l a any (Kd.length : Int) (l5 : Int) g) Q := by
  intro f
  induction f with
  | zero => intros; exact pc_none
  | succ f ih =>
    intro R Kd l5 any B g h87 hk h30 rR rK hB G bR T
    unfold qw_X13_stands_8
    cases R with
    | nil =>
      have h87 : g 160 87 = (l5 : Int) := h87
      refine pc_if (fun _ => ?_) (fun z => absurd (by omega) z)
      refine pc_xl ?_; intro h2 e2
      refine T h2 any ⟨fun z => ⟨z, id⟩, fun z => z.1⟩ ?_ (fun x => by rw [e2, up_n (by omega)]; exact hB x) (fun cc x z1 z2 => by rw [e2, up_n z2]; exact G cc x z1)
      show JLs h2 (Kd ++ [])
      rw [List.append_nil]
      exact ⟨by rw [e2, up_s], fun k hk => by rw [e2, up_n (by omega), up_n (by omega)]; exact rK k hk⟩
    | cons e R =>
      have c0 : (e :: R).length = R.length + 1 := rfl
      rw [c0] at h87 h30
      refine pc_if (fun z => absurd z (by omega)) (fun _ => ?_)
      have r0 := rR 0 (by rw [c0]; omega)
      have a1 : g 217 l5 = e.1 := r0.1
      have a2 : g 218 l5 = e.2 := r0.2
      have be : 0 ≤ e.1 ∧ e.1 ≤ 1000000 := bR 0 (by rw [c0]; omega)
      refine pc_rA ?_; intro _ _ v7 e7
      rw [Int.toNat_natCast, a2] at e7
      refine pc_if (fun z => ?_) (fun z => ?_)
      · have nl : ¬ e.2 = l := by rw [← e7]; exact z
        refine pc_rA ?_; intro _ _ v10 e10
        rw [Int.toNat_natCast, a1] at e10
        refine pc_wA ?_; intro _ _ h11 e11
        rw [Int.toNat_natCast] at e11
        refine pc_rA ?_; intro _ _ v14 e14
        have e14' : v14 = e.2 := by rw [e14, Int.toNat_natCast, e11, up_n (by omega)]; exact a2
        refine pc_wA ?_; intro _ _ h15 e15
        rw [Int.toNat_natCast] at e15
        refine pc_add (by omega) ?_; intro v16 e16
        refine pc_add (by omega) ?_; intro v17 e17
        have k15 : ∀ cc x : Nat, ¬ ((cc = 217 ∨ cc = 218) ∧ x = Kd.length) → h15 cc x = g cc x := fun cc x y => by rw [e15, up_n (by omega), e11, up_n (by omega)]
        have n17 : h15 217 Kd.length = e.1 := by rw [e15, up_n (by omega), e11, up_s]; exact e10
        have n18 : h15 218 Kd.length = e.2 := by rw [e15, up_s]; exact e14'
        have lk : (Kd ++ [e]).length = Kd.length + 1 := by rw [List.length_append]; rfl
        have fe : fl_L l (e :: R) = e :: fl_L l R := by
          show (if e.2 = l then fl_L l R else e :: fl_L l R) = _
          rw [if_neg nl]
        have ae : am_L l a (e :: R) B = am_L l a R B := by
          show am_L l a R (if e.2 = l ∧ e.1 + 2 < 12000 then b2_L a e.1 B else B) = _
          rw [if_neg (fun y => nl y.1)]
        have X := ih R (Kd ++ [e]) (l5 + 1) any B h15 (by rw [k15 160 87 (by omega)]; omega) (by rw [lk]; omega) (by omega) (fun i hi => by
          have r := rR (i + 1) (by rw [c0]; omega)
          rw [show l5 + (i + 1) = l5 + 1 + i by omega] at r
          rw [k15 217 _ (by omega), k15 218 _ (by omega)]; exact r) (fun i hi => by
          rw [lk] at hi
          by_cases q : i = Kd.length
          · rw [q, gp_e]; exact ⟨n17, n18⟩
          · rw [gp_l Kd i (by omega), k15 217 _ (by omega), k15 218 _ (by omega)]; exact rK i (by omega)) (fun x => by rw [k15 206 x (by omega)]; exact hB x) (fun cc x y => by rw [k15 cc x (by omega)]; exact G cc x y) (fun i hi => bR (i + 1) (by rw [c0]; omega)) (fun w any2 p j b k => T w any2 ⟨fun y => ⟨(p.mp y).1, fun x => x.elim nl (p.mp y).2⟩, fun y => p.mpr ⟨y.1, fun x => y.2 (.inr x)⟩⟩ (by rw [fe]; rw [List.append_assoc] at j; exact j) (fun x => by rw [ae]; exact b x) k)
        rw [lk] at X
        rw [show v16 = ((Kd.length + 1 : Nat) : Int) by omega, show v17 = ((l5 + 1 : Nat) : Int) by omega]
        exact X
      · have yl : e.2 = l := by rw [← e7]; exact Classical.byContradiction z
        refine pc_rA ?_; intro _ _ v19 e19
        rw [Int.toNat_natCast, a1] at e19
        refine pc_sub (by omega) ?_; intro v20 e20
        refine pc_rA ?_; intro _ _ v22 e22
        rw [Int.toNat_natCast, a1] at e22
        refine pc_add (by omega) ?_; intro v23 e23
        have fe : fl_L l (e :: R) = fl_L l R := by
          show (if e.2 = l then fl_L l R else e :: fl_L l R) = _
          rw [if_pos yl]
        have STEP : ∀ (B2 : Nat → Int) (g2 : ms_M), (∀ x : Nat, g2 206 x = B2 x) → (∀ cc x : Nat, ¬ cc = 206 → g2 cc x = g cc x) → am_L l a (e :: R) B = am_L l a R B2 → ∀ v : Int, v = (l5 : Int) + 1 → Pc (qw_X13_stands_8 nn f l a 1 (Kd.length : Int) v g2) Q := fun B2 g2 b1 b2 b3 v ev => by
          rw [show v = ((l5 + 1 : Nat) : Int) by omega]
          refine ih R Kd (l5 + 1) 1 B2 g2 (by rw [b2 160 87 (by omega)]; omega) (by omega) (by omega) (fun i hi => ?_) (fun i hi => by rw [b2 217 _ (by omega), b2 218 _ (by omega)]; exact rK i hi) b1 (fun cc x y => by rw [b2 cc x (by omega)]; exact G cc x y) (fun i hi => bR (i + 1) (by rw [c0]; omega)) (fun w any2 p j b k => T w any2 ⟨fun y => absurd (p.mp y).1 (by decide), fun y => absurd (.inl yl) y.2⟩ (by rw [fe]; exact j) (fun x => by rw [b3]; exact b x) k)
          have r := rR (i + 1) (by rw [c0]; omega)
          rw [show l5 + (i + 1) = l5 + 1 + i by omega] at r
          rw [b2 217 _ (by omega), b2 218 _ (by omega)]; exact r
        refine pc_if (fun z2 => ?_) (fun z2 => ?_)
        · refine pc_add (by omega) ?_; intro v24 e24
          refine STEP B g hB (fun _ _ _ => rfl) ?_ v24 e24
          show am_L l a R (if e.2 = l ∧ e.1 + 2 < 12000 then b2_L a e.1 B else B) = _
          rw [if_neg (fun y => absurd y.2 (by omega))]
        · refine pc_rA ?_; intro _ _ v27 e27
          rw [Int.toNat_natCast, a1] at e27
          refine pc_add (by omega) ?_; intro v28 e28
          refine pc_xl ?_; intro v29 e29
          refine pc_xl ?_; intro v30 e30
          refine pc_wA ?_; intro _ _ h31 e31
          rw [show v28.toNat = (e.1 + 1).toNat by omega] at e31
          refine pc_rA ?_; intro _ _ v34 e34
          have e34' : v34 = e.1 := by rw [e34, Int.toNat_natCast, e31, up_n (by omega)]; exact a1
          refine pc_add (by omega) ?_; intro v35 e35
          refine pc_xl ?_; intro v36 e36
          refine pc_wA ?_; intro _ _ h37 e37
          rw [show v35.toNat = (e.1 + 2).toNat by omega] at e37
          refine pc_add (by omega) ?_; intro v38 e38
          refine STEP (b2_L a e.1 B) h37 (fun x => ?_) (fun cc x q => by rw [e37, up_n (by omega), e31, up_n (by omega)]) ?_ v38 e38
          · show h37 206 x = if x = (e.1 + 2).toNat then oq_and (a - e.1) 255 else if x = (e.1 + 1).toNat then oq_and (oq_shr (a - e.1) 8) 255 else B x
            by_cases q2 : x = (e.1 + 2).toNat
            · rw [if_pos q2, q2, e37, up_s, e36, e20, e19]
            · rw [if_neg q2, e37, up_n (by omega)]
              by_cases q1 : x = (e.1 + 1).toNat
              · rw [if_pos q1, q1, e31, up_s, e30, e29, e20, e19]
              · rw [if_neg q1, e31, up_n (by omega)]; exact hB x
          · show am_L l a R (if e.2 = l ∧ e.1 + 2 < 12000 then b2_L a e.1 B else B) = _
            rw [if_pos ⟨yl, by omega⟩]
theorem r_stands {l a : Int} {Q : ms_M → Prop} {L : List (Int × Int)} (J : JLs m L) (ha : 0 ≤ a ∧ a ≤ 1000000) (hl : L.length ≤ 3000) (bL : ∀ i : Nat, i < L.length → 0 ≤ (L.getD i (0, 0)).1 ∧ (L.getD i (0, 0)).1 ≤ 1000000) (T : ∀ w : ms_M, JLs w (fl_L l L) → (∀ x : Nat, w 206 x = am_L l a L (m 206) x) → (∀ cc x : Nat, ¬ (cc = 206 ∨ cc = 217 ∨ cc = 218) → ¬ (cc = 160 ∧ x = 87) → w cc x = m cc x) → (¬ hs_L l L ∧ Q w) ∨ (hs_L l L ∧ Pc (qf_X13_frame nn a w) Q)) : Pc (qf_X13_stands nn l a m) Q := by
  unfold qf_X13_stands
  refine st_8 (m := m) ha nn L [] 0 0 (m 206) m (by rw [J.1, Nat.zero_add]) (Nat.le_refl 0) (by omega) (fun i hi => by rw [Nat.zero_add]; exact J.2 i hi) (fun i hi => absurd hi (Nat.not_lt_zero i)) (fun _ => rfl) (fun _ _ _ => rfl) bL (fun w any2 p j b k => ?_)
  rcases T w j b k with ⟨t1, t2⟩ | ⟨t1, t2⟩
  · refine pc_if (fun _ => ?_) (fun z => absurd (p.mpr ⟨rfl, t1⟩) z)
    unfold qj_X13_stands_154
    exact pc_ret t2
  · refine pc_if (fun z => absurd t1 (p.mp z).2) (fun _ => ?_)
    refine pc_sv t2 ?_; intro u4 q4
    unfold qj_X13_stands_154
    exact pc_ret q4
end
end
section
/- variables in sight, both sides -/
/-- F: 1 where this has the place 0 -/
def SGV (K V : Nat → Int) (F : Nat) (own : Int) (h r : ms_M) : Prop := (h 34 7 = r 160 50 + (F : Int) ∧ 0 ≤ r 160 50 ∧ h 34 7 ≤ 750) ∧ (F = 0 ∨ (F = 1 ∧ h 37 0 = -1 ∧ h 38 0 = own)) ∧ ∀ s : Nat, (s : Int) < r 160 50 → 0 ≤ r 196 s ∧ K (r 196 s).toNat = 2 ∧ h 37 (s + F) = V (r 196 s).toNat ∧ r 197 s = ty_T (h 38 (s + F))
/-- the nearest one of that name: its place in the class and in the reference -/
def LOJ (F : Nat) (h r : ms_M) (u v : Int) : Prop := (u = -1 ∧ v = -1) ∨ ∃ s : Nat, (s : Int) < r 160 50 ∧ v = (s : Int) ∧ u = ((s + F : Nat) : Int)
section
variable {nn : Nat} {K P V : Nat → Int} {C : Nat → Nat} {c n N F : Nat} {own : Int} {h g r w u v : ms_M}
theorem sgv_k (H : SGV K V F own h r) (e1 : ∀ cc x : Nat, (cc = 34 ∧ x = 7) ∨ cc = 37 ∨ cc = 38 → g cc x = h cc x) (e2 : ∀ cc x : Nat, (cc = 160 ∧ x = 50) ∨ cc = 196 ∨ cc = 197 → w cc x = r cc x) : SGV K V F own g w := by
  obtain ⟨⟨a1, a2, a3⟩, b, d⟩ := H
  refine ⟨by rw [e1 34 7 (by omega), e2 160 50 (by omega)]; exact ⟨a1, a2, a3⟩, by rw [e1 37 0 (by omega), e1 38 0 (by omega)]; exact b, fun s hs => ?_⟩
  rw [e2 160 50 (by omega)] at hs
  rw [e2 196 s (by omega), e2 197 s (by omega), e1 37 _ (by omega), e1 38 _ (by omega)]
  exact d s hs
theorem c_loc15 {x : Int} (h7 : h 34 7 ≤ 750) : ∀ (f k : Nat), (k : Int) ≤ h 34 7 → (∀ j : Nat, k ≤ j → (j : Int) < h 34 7 → ¬ h 37 j = x) → Pc (qw_X1_localOf_15 nn f x ((k : Int) - 1) h) (fun u => (u = -1 ∧ ∀ j : Nat, (j : Int) < h 34 7 → ¬ h 37 j = x) ∨ ∃ j : Nat, u = (j : Int) ∧ (j : Int) < h 34 7 ∧ h 37 j = x ∧ ∀ i : Nat, j < i → (i : Int) < h 34 7 → ¬ h 37 i = x) := by
  intro f
  induction f with
  | zero => intros; exact pc_none
  | succ f ih =>
    intro k hk A
    unfold qw_X1_localOf_15
    refine pc_if (fun z => pc_ret (.inl ⟨rfl, fun j hj => A j (by omega) hj⟩)) (fun z => ?_)
    refine pc_rA ?_; intro _ _ v2 e2
    rw [show ((k : Int) - 1).toNat = k - 1 by omega] at e2
    refine pc_if (fun y => ?_) (fun y => ?_)
    · refine pc_add (by omega) ?_; intro v3 e3
      rw [show v3 = ((k - 1 : Nat) : Int) - 1 by omega]
      refine ih (k - 1) (by omega) (fun j j1 j2 => ?_)
      by_cases q : j = k - 1
      · rw [q, ← e2]; exact y
      · exact A j (by omega) j2
    · exact pc_ret (.inr ⟨k - 1, by omega, by omega, by rw [← e2]; exact Classical.byContradiction y, fun i i1 i2 => A i (by omega) i2⟩)
theorem c_localOf {x : Int} (h7 : 0 ≤ h 34 7 ∧ h 34 7 ≤ 750) : Pc (qf_X1_localOf nn x h) (fun u => (u = -1 ∧ ∀ j : Nat, (j : Int) < h 34 7 → ¬ h 37 j = x) ∨ ∃ j : Nat, u = (j : Int) ∧ (j : Int) < h 34 7 ∧ h 37 j = x ∧ ∀ i : Nat, j < i → (i : Int) < h 34 7 → ¬ h 37 i = x) := by
  unfold qf_X1_localOf
  refine pc_xl ?_; intro v9 e9
  rw [if_neg (by omega)] at e9
  refine pc_sub (by omega) ?_; intro v10 e10
  rw [show v10 = (((h 34 7).toNat : Nat) : Int) - 1 by omega]
  exact c_loc15 h7.2 nn _ (by omega) (fun j j1 j2 => absurd j2 (by omega))
theorem r_si7 (BK : TBn K c) (M : NMr K V c r) {t : Nat} (kt : K t = 2) (H : ∀ s : Nat, (s : Int) < r 160 50 → 0 ≤ r 196 s ∧ K (r 196 s).toNat = 2) : ∀ (f k : Nat), (k : Int) ≤ r 160 50 → (∀ j : Nat, k ≤ j → (j : Int) < r 160 50 → ¬ V (r 196 j).toNat = V t) → Pc (qw_X13_sightOf_7 nn f (t : Int) ((k : Int) - 1) r) (fun u => (u = -1 ∧ ∀ j : Nat, (j : Int) < r 160 50 → ¬ V (r 196 j).toNat = V t) ∨ ∃ j : Nat, u = (j : Int) ∧ (j : Int) < r 160 50 ∧ V (r 196 j).toNat = V t ∧ ∀ i : Nat, j < i → (i : Int) < r 160 50 → ¬ V (r 196 i).toNat = V t) := by
  intro f
  induction f with
  | zero => intros; exact pc_none
  | succ f ih =>
    intro k hk A
    unfold qw_X13_sightOf_7
    refine pc_if (fun z => pc_ret (.inl ⟨rfl, fun j hj => A j (by omega) hj⟩)) (fun z => ?_)
    refine pc_rA ?_; intro _ _ v2 e2
    rw [show ((k : Int) - 1).toNat = k - 1 by omega] at e2
    obtain ⟨s1, s2⟩ := H (k - 1) (by omega)
    refine pc_sv (r_like M (i := (r 196 (k - 1)).toNat) (j := t) (tb_lt BK (by omega)) (tb_lt BK (by omega)) s2 kt (by omega) rfl) ?_; intro u4 q4
    refine pc_if (fun y => ?_) (fun y => ?_)
    · refine pc_add (by omega) ?_; intro v5 e5
      rw [show v5 = ((k - 1 : Nat) : Int) - 1 by omega]
      refine ih (k - 1) (by omega) (fun j j1 j2 => ?_)
      by_cases q : j = k - 1
      · rw [q]; rcases q4 with ⟨x1, x2⟩ | ⟨x1, x2⟩
        · omega
        · exact x2
      · exact A j (by omega) j2
    · rcases q4 with ⟨x1, x2⟩ | ⟨x1, x2⟩
      · exact pc_ret (.inr ⟨k - 1, by omega, by omega, x2, fun i i1 i2 => A i (by omega) i2⟩)
      · exact absurd x1 y
theorem r_sightOf (BK : TBn K c) (M : NMr K V c r) {t : Nat} (kt : K t = 2) (b50 : 0 ≤ r 160 50 ∧ r 160 50 ≤ 3000) (H : ∀ s : Nat, (s : Int) < r 160 50 → 0 ≤ r 196 s ∧ K (r 196 s).toNat = 2) {x : Int} (hx : x = (t : Int)) : Pc (qf_X13_sightOf nn x r) (fun u => (u = -1 ∧ ∀ j : Nat, (j : Int) < r 160 50 → ¬ V (r 196 j).toNat = V t) ∨ ∃ j : Nat, u = (j : Int) ∧ (j : Int) < r 160 50 ∧ V (r 196 j).toNat = V t ∧ ∀ i : Nat, j < i → (i : Int) < r 160 50 → ¬ V (r 196 i).toNat = V t) := by
  subst hx
  unfold qf_X13_sightOf
  refine pc_sub (by omega) ?_; intro v9 e9
  rw [show v9 = (((r 160 50).toNat : Nat) : Int) - 1 by omega]
  exact r_si7 BK M kt H nn _ (by omega) (fun j j1 j2 => absurd j2 (by omega))
/-- the same variable on both sides -/
theorem j_loc (BK : TBn K c) (M : NMr K V c r) (H : SGV K V F own h r) {t : Nat} (kt : K t = 2) {x y : Int} (hx : x = V t) (hy : y = (t : Int)) : Pc (qf_X1_localOf nn x h) (fun u => Pc (qf_X13_sightOf nn y r) (fun v => LOJ F h r u v)) := by
  obtain ⟨⟨a1, a2, a3⟩, b, d⟩ := H
  have v0 := (M.1 t (tb_lt BK (by omega)) kt).1.1
  refine pc_imp (c_localOf (by omega)) (fun u q => ?_)
  refine pc_imp (r_sightOf BK M kt (by omega) (fun s hs => ⟨(d s hs).1, (d s hs).2.1⟩) hy) (fun v q2 => ?_)
  have D : ∀ s : Nat, (s : Int) < r 160 50 → (h 37 (s + F) = x ↔ V (r 196 s).toNat = V t) := fun s hs => by rw [(d s hs).2.2.1, hx]
  rcases q with ⟨u1, no⟩ | ⟨j, u1, j2, j3, j4⟩
  · rcases q2 with ⟨v1, _⟩ | ⟨s, v1, s2, s3, s4⟩
    · exact .inl ⟨u1, v1⟩
    · exact absurd ((D s s2).mpr s3) (no (s + F) (by omega))
  · have jF : F ≤ j := by
      rcases b with b | ⟨b1, b2, _⟩
      · omega
      · by_cases z : j = 0
        · rw [z, b2] at j3; omega
        · omega
    have ej : j - F + F = j := by omega
    have Dj := D (j - F) (by omega)
    rw [ej] at Dj
    rcases q2 with ⟨v1, no⟩ | ⟨s, v1, s2, s3, s4⟩
    · exact absurd (Dj.mp j3) (no (j - F) (by omega))
    · by_cases lt : s < j - F
      · exact absurd (Dj.mp j3) (s4 (j - F) lt (by omega))
      · by_cases gt : j - F < s
        · exact absurd ((D s s2).mpr s3) (j4 (s + F) (by omega) (by omega))
        · exact .inr ⟨s, s2, v1, by omega⟩
theorem c_typeOfLocal {k : Nat} {x : Int} (hx : x = (k : Int)) (hk : k < 750) : Pc (qf_X1_typeOfLocal nn x h) (fun u => u = h 38 k) := by
  subst hx
  unfold qf_X1_typeOfLocal
  refine pc_if (fun z => absurd z (by omega)) (fun _ => ?_)
  refine pc_if (fun z => absurd z (by omega)) (fun _ => ?_)
  refine pc_rA ?_; intro _ _ v4 e4
  rw [Int.toNat_natCast] at e4
  exact pc_ret e4
theorem r_local {s : Int} (hF : (r 160 53 = 0 ∧ F = 1) ∨ (¬ r 160 53 = 0 ∧ F = 0)) (hs : 0 ≤ s ∧ s ≤ 100000) : Pc (qf_X13_local nn s r) (fun u => u = s + (F : Int)) := by
  unfold qf_X13_local
  refine pc_if (fun z => ?_) (fun z => pc_ret (by omega))
  refine pc_add (by omega) ?_; intro v2 e2
  exact pc_ret (by omega)
/-- one more -/
def CLa (x t : Int) (h u : ms_M) : Prop := u 34 7 = h 34 7 + 1 ∧ (u 34 8 = if h 34 8 < h 34 7 + 1 then h 34 7 + 1 else h 34 8) ∧ (h 34 7 < 750 → u 37 (h 34 7).toNat = x ∧ u 38 (h 34 7).toNat = t) ∧ ∀ cc y : Nat, ¬ (cc = 34 ∧ (y = 7 ∨ y = 8)) → ¬ ((cc = 37 ∨ cc = 38) ∧ y = (h 34 7).toNat) → u cc y = h cc y
def RCm (x t : Int) (r w : ms_M) : Prop := (0 ≤ r 160 50 ∧ r 160 50 < 3000) ∧ w 160 50 = r 160 50 + 1 ∧ w 196 (r 160 50).toNat = x ∧ w 197 (r 160 50).toNat = t ∧ ∀ cc y : Nat, ¬ (cc = 160 ∧ y = 50) → ¬ ((cc = 196 ∨ cc = 197) ∧ y = (r 160 50).toNat) → w cc y = r cc y
theorem c_addLocal {x t : Int} (hl : 0 ≤ h 34 7 ∧ h 34 7 ≤ 100000) : Pc (qf_X1_addLocal nn x t h) (fun u => u.1 = h 34 7 ∧ CLa x t h u.2) := by
  have E : ∀ g : ms_M, (∀ cc y : Nat, ¬ ((cc = 37 ∨ cc = 38) ∧ y = (h 34 7).toNat) → g cc y = h cc y) → (h 34 7 < 750 → g 37 (h 34 7).toNat = x ∧ g 38 (h 34 7).toNat = t) → Pc (qj_X1_addLocal_28 nn (h 34 7) g) (fun u => u.1 = h 34 7 ∧ CLa x t h u.2) := fun g G G2 => by
    have g7 := G 34 7 (by omega)
    have g8 := G 34 8 (by omega)
    unfold qj_X1_addLocal_28
    refine pc_add (by omega) ?_; intro v2 e2
    refine pc_xl ?_; intro h3 e3
    have a7 : h3 34 7 = h 34 7 + 1 := by rw [e3, up_s]; omega
    have a8 : h3 34 8 = h 34 8 := by rw [e3, up_n (by omega)]; exact g8
    refine pc_xl ?_; intro v6 e6
    rw [a7, a8] at e6
    refine pc_xl ?_; intro h7 e7
    refine pc_ret ?_
    show h 34 7 = h 34 7 ∧ CLa x t h h7
    refine ⟨rfl, by rw [e7, up_n (by omega)]; exact a7, by rw [e7, up_s]; exact e6, fun q => ?_, fun cc y z1 z2 => ?_⟩
    · rw [e7, up_n (by omega), e3, up_n (by omega), up_n (by omega), up_n (by omega)]; exact G2 q
    · rw [e7, up_n (by omega), e3, up_n (by omega)]; exact G cc y z2
  unfold qf_X1_addLocal
  refine pc_if (fun z => E h (fun _ _ _ => rfl) (fun q => absurd q (by omega))) (fun z => ?_)
  refine pc_wA ?_; intro _ _ h12 e12
  refine pc_wA ?_; intro _ _ h14 e14
  exact E h14 (fun cc y q => by rw [e14, up_n (by omega), e12, up_n (by omega)]) (fun _ => ⟨by rw [e14, up_n (by omega), e12, up_s], by rw [e14, up_s]⟩)
theorem r_come {x t : Int} : Pc (qf_X13_come nn x t r) (fun w => RCm x t r w) := by
  unfold qf_X13_come
  refine pc_wA ?_; intro b1 b2 h3 e3
  have a3 : h3 160 50 = r 160 50 := by rw [e3, up_n (by omega)]
  refine pc_wA ?_; intro _ _ h6 e6
  rw [a3] at e6
  have a6 : h6 160 50 = r 160 50 := by rw [e6, up_n (by omega)]; exact a3
  refine pc_add (by omega) ?_; intro v8 e8
  refine pc_xl ?_; intro h9 e9
  exact pc_ret ⟨⟨b1, b2⟩, by rw [e9, up_s]; omega, by rw [e9, up_n (by omega), e6, up_n (by omega), e3, up_s], by rw [e9, up_n (by omega), e6, up_s], fun cc y z1 z2 => by rw [e9, up_n z1, e6, up_n (by omega), e3, up_n (by omega)]⟩
theorem sgv_a (H : SGV K V F own h r) {t : Nat} {x ty ty2 : Int} (kt : K t = 2) (A : CLa (V t) ty h g) (B : RCm (t : Int) ty2 r w) (e2 : ty2 = ty_T ty) (h7 : h 34 7 < 750) : SGV K V F own g w := by
  obtain ⟨⟨a1, a2, a3⟩, b, d⟩ := H
  obtain ⟨c1, -, c3, c4⟩ := A
  obtain ⟨-, r1, r2, r3, r4⟩ := B
  obtain ⟨c5, c6⟩ := c3 h7
  refine ⟨by omega, ?_, fun s hs => ?_⟩
  · rcases b with b | ⟨b1, b2, b3⟩
    · exact .inl b
    · exact .inr ⟨b1, by rw [c4 37 0 (by omega) (by omega)]; exact b2, by rw [c4 38 0 (by omega) (by omega)]; exact b3⟩
  · by_cases q : (s : Int) = r 160 50
    · have es : s = (r 160 50).toNat := by omega
      rw [es, r2, r3, show (r 160 50).toNat + F = (h 34 7).toNat by omega, c5, c6, Int.toNat_natCast]
      exact ⟨by omega, kt, rfl, e2⟩
    · rw [r4 196 s (by omega) (by omega), r4 197 s (by omega) (by omega), c4 37 _ (by omega) (by omega), c4 38 _ (by omega) (by omega)]
      exact d s (by omega)
end
end
section
/- the reference goes down the left side of an E and up again -/
def RKp (h u : ms_M) : Prop := u 160 57 = h 160 57 ∧ ∀ j : Nat, (j : Int) < h 160 57 → u 199 j = h 199 j
section
variable {nn : Nat} {h g u r m w : ms_M}
theorem pi_rA {α : Type} {Q : α → Prop} {n : Int} {c : Nat} {j : Int} {M : ms_M} {G : Int → Option α} (H : Pc (rd_A n c j M G) Q) (a : 0 ≤ j) (b : j < n) : Pc (G (M c j.toNat)) Q := by
  unfold rd_A at H
  rw [if_pos ⟨a, b⟩] at H
  exact H
theorem pi_wA {α : Type} {Q : α → Prop} {n : Int} {c : Nat} {j v : Int} {M : ms_M} {G : ms_M → Option α} (H : Pc (wr_A n c j v M G) Q) (a : 0 ≤ j) (b : j < n) : Pc (G (up_M M c j.toNat v)) Q := by
  unfold wr_A at H
  rw [if_pos ⟨a, b⟩] at H
  exact H
theorem pi_sv {α β : Type} {Q : α → Prop} {x : Option β} {F : β → Option α} {a : β} (H : Pc (mx_sv x F) Q) (e : x = some a) : Pc (F a) Q := by
  rw [e, mx_svs] at H
  exact H
theorem pi_xl {α β : Type} {Q : α → Prop} {v : β} {F : β → Option α} (H : Pc (xl v F) Q) : Pc (F v) Q := H
theorem pi_p {α : Type} {Q : α → Prop} {c : Prop} {d : Decidable c} {x y : Option α} (H : Pc (if c then x else y) Q) (z : c) : Pc x Q := by rw [if_pos z] at H; exact H
theorem pi_n {α : Type} {Q : α → Prop} {c : Prop} {d : Decidable c} {x y : Option α} (H : Pc (if c then x else y) Q) (z : ¬ c) : Pc y Q := by rw [if_neg z] at H; exact H
theorem up_id {c k : Nat} {v : Int} (e : v = h c k) : up_M h c k v = h := by
  funext cc x
  by_cases q : cc = c ∧ x = k
  · rw [q.1, q.2, up_s]; exact e
  · rw [up_n q]
theorem wk_65 {rc : tq_X13_condition} (HR : ∀ (e : Int) (h : ms_M), 0 ≤ h 160 57 ∧ h 160 57 ≤ 10000 → Pc (rc.2.2.2.1 e h) (fun u => RKp h u.2)) {Q R : Int × ms_M → Prop} {l1 l2 x b : Int} (hR : ∀ z : Int × ms_M, R z → ∀ k2 : Nat, Pc (qw_X13_worked_65 nn rc k2 l1 l2 z.2) Q) (hx : 0 ≤ x ∧ x < 9000) (lb : 0 ≤ l2 ∧ l2 ≤ b) : ∀ (k : Nat) (h : ms_M), b ≤ h 160 57 → h 160 57 ≤ 10000 → Pc (qw_X13_worked_65 nn rc k x b h) R → Pc (qw_X13_worked_65 nn rc k l1 l2 h) Q := by
  intro k
  induction k with
  | zero => intros; exact pc_none
  | succ k ih =>
    intro h hb h6 HA
    by_cases c : h 160 57 ≤ b
    · have R2 : ∀ k2 : Nat, Pc (qw_X13_worked_65 nn rc k2 l1 l2 h) Q := by
        unfold qw_X13_worked_65 at HA
        have H2 := pi_xl (pi_p HA c)
        rw [up_id (show b = h 160 57 by omega)] at H2
        by_cases f : h 160 9 = 0
        · have H3 := pi_rA (pi_p H2 f) hx.1 hx.2
          exact hR _ (H3 _ rfl)
        · have H3 := pi_n H2 f
          exact hR _ (H3 _ rfl)
      exact R2 (k + 1)
    · unfold qw_X13_worked_65 at HA ⊢
      have HA := pi_n HA c
      refine pc_if (fun z => absurd z (by omega)) (fun _ => ?_)
      have HA := pi_xl (pi_xl HA)
      refine pc_xl ?_; intro v8 e8
      refine pc_xl ?_; intro h9 e9
      rw [← e8, ← e9] at HA
      rw [oq_sub_eq (by omega) (by omega) (by omega)] at e8
      have t9 : h9 160 57 = h 160 57 - 1 := by rw [e9, up_s]; exact e8
      refine pc_rA ?_; intro a1 a2 v12 e12
      have HA := pi_rA HA a1 a2
      rw [← e12] at HA
      refine pc_if (fun f => ?_) (fun f => ?_)
      · have HA := pi_p HA f
        refine pc_se ?_; intro u16 e16
        have HA := pi_sv HA e16
        have K := HR v12 h9 (by omega) _ e16
        refine pc_wA ?_; intro b1 b2 h17 e17
        have HA := pi_wA HA b1 b2
        rw [← e17] at HA
        have t17 : h17 160 57 = h 160 57 - 1 := by rw [e17, up_n (by omega), K.1]; exact t9
        exact ih h17 (by omega) (by omega) HA
      · have HA := pi_n HA f
        refine pc_wA ?_; intro b1 b2 h18 e18
        have HA := pi_wA HA b1 b2
        rw [← e18] at HA
        have t18 : h18 160 57 = h 160 57 - 1 := by rw [e18, up_n (by omega)]; exact t9
        exact ih h18 (by omega) (by omega) HA
theorem wk_16 {rc : tq_X13_condition} (HR : ∀ (e : Int) (h : ms_M), 0 ≤ h 160 57 ∧ h 160 57 ≤ 10000 → Pc (rc.2.2.2.1 e h) (fun u => RKp h u.2)) {Q R : Int × ms_M → Prop} {l1 l2 x b : Int} (hR : ∀ z : Int × ms_M, R z → ∀ k2 : Nat, Pc (qw_X13_worked_65 nn rc k2 l1 l2 z.2) Q) (hx : 0 ≤ x ∧ x < 9000) (lb : 0 ≤ l2 ∧ l2 ≤ b) : ∀ (f : Nat) (at_ : Int) (h : ms_M), b ≤ h 160 57 → h 160 57 ≤ 10000 → Pc (qw_X13_worked_16 nn rc (f + 1) x b at_ h) R → Pc (qw_X13_worked_16 nn rc f l1 l2 at_ h) Q := by
  intro f
  induction f with
  | zero => intros; exact pc_none
  | succ f ih =>
    intro at_ h hb h6 HA
    unfold qw_X13_worked_16 at HA ⊢
    refine pc_se ?_; intro u22 e22
    have HA := pi_sv HA e22
    refine pc_if (fun z => ?_) (fun z => ?_)
    · have HA := pi_p HA z
      refine pc_se ?_; intro u25 e25
      have HA := pi_sv HA e25
      have K := HR at_ h (by omega) _ e25
      refine pc_wA ?_; intro b1 b2 h26 e26
      have HA := pi_wA HA b1 b2
      rw [← e26] at HA
      have t26 : h26 160 57 = h 160 57 := by rw [e26, up_n (by omega)]; exact K.1
      exact wk_65 HR hR hx lb nn h26 (by omega) (by omega) HA
    · have HA := pi_n HA z
      refine pc_wA ?_; intro b1 b2 h29 e29
      have HA := pi_wA HA b1 b2
      rw [← e29] at HA
      have t29 : h29 160 57 = h 160 57 := by rw [e29, up_n (by omega)]
      have HA := pi_xl (pi_xl HA)
      refine pc_xl ?_; intro v31 e31
      refine pc_xl ?_; intro h32 e32
      rw [← e31, ← e32] at HA
      rw [oq_add_eq (by omega) (by omega) (by omega)] at e31
      have t32 : h32 160 57 = h 160 57 + 1 := by rw [e32, up_s]; omega
      refine pc_rA ?_; intro a1 a2 v34 e34
      have HA := pi_rA HA a1 a2
      rw [← e34] at HA
      exact ih v34 h32 (by omega) (by omega) HA
/-- an E that is led: first its left side -/
theorem wk_ldd {rc : tq_X13_condition} (HR : ∀ (e : Int) (h : ms_M), 0 ≤ h 160 57 ∧ h 160 57 ≤ 10000 → Pc (rc.2.2.2.1 e h) (fun u => RKp h u.2)) {Q R : Int × ms_M → Prop} {e top : Int} (hR : ∀ z : Int × ms_M, R z → ∀ k2 : Nat, Pc (qw_X13_worked_65 nn rc k2 e top z.2) Q) (h57 : h 160 57 = top) (ht : 0 ≤ top ∧ top < 9000) (hf : h 160 9 = 0) (hl : Pc (qf_X13_isLed nn e h) (fun u => ¬ u = 0)) (hx : 0 ≤ h 170 e.toNat ∧ h 170 e.toNat < 9000) (HA : ∀ g : ms_M, g = up_M (up_M h 199 top.toNat e) 160 57 (top + 1) → Pc (qo_X13_worked nn rc (h 170 e.toNat) g) R) : Pc (qo_X13_worked nn rc e h) Q := by
  unfold qo_X13_worked
  refine pc_if (fun _ => ?_) (fun z => absurd hf z)
  rw [h57]
  cases nn with
  | zero => exact pc_none
  | succ f =>
    unfold qw_X13_worked_16
    refine pc_sv hl ?_; intro u22 q22
    refine pc_if (fun z => absurd z q22) (fun _ => ?_)
    rw [h57]
    refine pc_wA ?_; intro _ _ h29 e29
    have t29 : h29 160 57 = top := by rw [e29, up_n (by omega)]; exact h57
    refine pc_add (by omega) ?_; intro v31 e31
    refine pc_xl ?_; intro h32 e32
    refine pc_rA ?_; intro _ _ v34 e34
    have ev : v34 = h 170 e.toNat := by rw [e34, e32, up_n (by omega), e29, up_n (by omega)]
    have G := HA h32 (by rw [e32, e29, e31, t29])
    have f32 : h32 160 9 = 0 := by rw [e32, up_n (by omega), e29, up_n (by omega)]; exact hf
    have t32 : h32 160 57 = top + 1 := by rw [e32, up_s]; omega
    unfold qo_X13_worked at G
    have G := pi_p G f32
    rw [t32] at G
    rw [ev]
    exact wk_16 HR hR hx (by omega) f _ h32 (by omega) (by omega) G
/-- .. then itself -/
theorem wk_pop {rc : tq_X13_condition} (HR : ∀ (e : Int) (h : ms_M), 0 ≤ h 160 57 ∧ h 160 57 ≤ 10000 → Pc (rc.2.2.2.1 e h) (fun u => RKp h u.2)) {Q : Int × ms_M → Prop} {e top : Int} (ht : 0 ≤ top ∧ top < 9000) (he : 0 ≤ e ∧ e < 9000) (g57 : g 160 57 = top + 1) (gr : g 199 top.toNat = e) (T0 : ¬ g 160 9 = 0 → ∀ z : ms_M, z = up_M (up_M g 160 57 top) 174 e.toNat 0 → Q (0, z)) (T1 : g 160 9 = 0 → Pc (rc.2.2.2.1 e (up_M g 160 57 top)) (fun u => ∀ z : ms_M, z = up_M u.2 174 e.toNat u.1 → (z 160 9 = 0 → Q (u.1, z)) ∧ (¬ z 160 9 = 0 → Q (0, z)))) : ∀ k : Nat, Pc (qw_X13_worked_65 nn rc k e top g) Q := by
  have E : ∀ (k : Nat) (z : ms_M), z 160 57 = top → (z 160 9 = 0 → Q (z 174 e.toNat, z)) → (¬ z 160 9 = 0 → Q (0, z)) → Pc (qw_X13_worked_65 nn rc k e top z) Q := fun k z z7 z1 z2 => by
    cases k with
    | zero => exact pc_none
    | succ k =>
      unfold qw_X13_worked_65
      refine pc_if (fun _ => ?_) (fun y => absurd (by omega) y)
      rw [up_id z7.symm]
      refine pc_xl ?_; intro h2 e2
      rw [e2]
      refine pc_if (fun f => ?_) (fun f => pc_ret (z2 f))
      refine pc_rA ?_; intro _ _ v5 e5
      rw [e5]
      exact pc_ret (z1 f)
  intro k
  cases k with
  | zero => exact pc_none
  | succ k =>
    unfold qw_X13_worked_65
    refine pc_if (fun y => absurd y (by omega)) (fun _ => ?_)
    refine pc_sub (by omega) ?_; intro v8 e8
    refine pc_xl ?_; intro h9 e9
    rw [show v8 = top by omega] at e9
    have t9 : h9 160 57 = top := by rw [e9, up_s]
    refine pc_rA ?_; intro _ _ v12 e12
    rw [t9, e9, up_n (by omega), gr] at e12
    rw [e12]
    have f9 : h9 160 9 = g 160 9 := by rw [e9, up_n (by omega)]
    refine pc_if (fun f => ?_) (fun f => ?_)
    · have T := T1 (by rw [← f9]; exact f)
      rw [← e9] at T
      refine pc_se ?_; intro u16 e16
      have K := HR e h9 (by omega) _ e16
      have T := T _ e16
      refine pc_wA ?_; intro _ _ h17 e17
      obtain ⟨x1, x2⟩ := T h17 e17
      refine E k h17 (by rw [e17, up_n (by omega), K.1]; exact t9) (fun y => ?_) x2
      rw [show h17 174 e.toNat = u16.1 by rw [e17, up_s]]
      exact x1 y
    · refine pc_wA ?_; intro _ _ h18 e18
      refine E k h18 (by rw [e18, up_n (by omega)]; exact t9) (fun y => ?_) (fun _ => T0 (by rw [← f9]; exact f) h18 (by rw [e18, e9]))
      exact absurd (by rw [e18, up_n (by omega)] at y; exact y) f
end
end
section
/- the group of rule keeps rowTop and the rows below it -/
section
variable {nn : Nat} {h g r : ms_M}
theorem rk_r : RKp h h := ⟨rfl, fun _ _ => rfl⟩
theorem rk_t (A : RKp h g) (B : RKp g r) : RKp h r := ⟨B.1.trans A.1, fun j hj => (B.2 j (by rw [A.1]; exact hj)).trans (A.2 j hj)⟩
theorem rk_n (S : 0 ≤ h 160 57 ∧ h 160 57 ≤ 10000) (F : RKp h g) : 0 ≤ g 160 57 ∧ g 160 57 ≤ 10000 := by rw [F.1]; exact S
theorem rk_u {c k : Nat} {v : Int} (A : RKp h g) (q : ¬ (c = 160 ∧ k = 57) ∧ ¬ c = 199) : RKp h (up_M g c k v) := ⟨by rw [up_n (by omega)]; exact A.1, fun j hj => by rw [up_n (by omega)]; exact A.2 j hj⟩
def RKpG_X13_condition (rc : tq_X13_condition) : Prop := (∀ {a1 : Int} {h : ms_M}, (0 ≤ h 160 57 ∧ h 160 57 ≤ 10000) → Pc (rc.1 a1 h) (fun u => RKp h u)) ∧ (∀ {a1 : Int} {h : ms_M}, (0 ≤ h 160 57 ∧ h 160 57 ≤ 10000) → Pc (rc.2.1 a1 h) (fun u => RKp h u.2)) ∧ (∀ {a1 : Int} {h : ms_M}, (0 ≤ h 160 57 ∧ h 160 57 ≤ 10000) → Pc (rc.2.2.1 a1 h) (fun u => RKp h u.2)) ∧ (∀ {a1 : Int} {h : ms_M}, (0 ≤ h 160 57 ∧ h 160 57 ≤ 10000) → Pc (rc.2.2.2.1 a1 h) (fun u => RKp h u.2)) ∧ (∀ {a1 : Int} {h : ms_M}, (0 ≤ h 160 57 ∧ h 160 57 ≤ 10000) → Pc (rc.2.2.2.2.1 a1 h) (fun u => RKp h u.2)) ∧ (∀ {a1 : Int} {h : ms_M}, (0 ≤ h 160 57 ∧ h 160 57 ≤ 10000) → Pc (rc.2.2.2.2.2.1 a1 h) (fun u => RKp h u.2)) ∧ (∀ {a1 : Int} {a2 : Int} {a3 : Int} {h : ms_M}, (0 ≤ h 160 57 ∧ h 160 57 ≤ 10000) → Pc (rc.2.2.2.2.2.2 a1 a2 a3 h) (fun u => RKp h u.2))
theorem rk_qf_X13_wrong {a1 : Int} {a2 : Int} {h : ms_M} (S : 0 ≤ h 160 57 ∧ h 160 57 ≤ 10000) : Pc (qf_X13_wrong nn a1 a2 h) (fun u => RKp h u) := fun u e => ⟨ff_X13_wrong nn u e 160 57 rfl, fun j _ => ff_X13_wrong nn u e 199 j (nw_ar rfl j)⟩
theorem rk_qf_X13_led {a1 : Int} {h : ms_M} (S : 0 ≤ h 160 57 ∧ h 160 57 ≤ 10000) : Pc (qf_X13_led nn a1 h) (fun u => RKp h u.2) := fun u e => ⟨ff_X13_led nn u e 160 57 rfl, fun j _ => ff_X13_led nn u e 199 j (nw_ar rfl j)⟩
theorem rk_qf_X13_side {a1 : Int} {a2 : Int} {h : ms_M} (S : 0 ≤ h 160 57 ∧ h 160 57 ≤ 10000) : Pc (qf_X13_side nn a1 a2 h) (fun u => RKp h u.2) := fun u e => ⟨ff_X13_side nn u e 160 57 rfl, fun j _ => ff_X13_side nn u e 199 j (nw_ar rfl j)⟩
theorem rk_qf_X13_field {a1 : Int} {h : ms_M} (S : 0 ≤ h 160 57 ∧ h 160 57 ≤ 10000) : Pc (qf_X13_field nn a1 h) (fun u => RKp h u.2) := fun u e => ⟨ff_X13_field nn u e 160 57 rfl, fun j _ => ff_X13_field nn u e 199 j (nw_ar rfl j)⟩
theorem rk_qf_X13_named {a1 : Int} {h : ms_M} (S : 0 ≤ h 160 57 ∧ h 160 57 ≤ 10000) : Pc (qf_X13_named nn a1 h) (fun u => RKp h u.2) := fun u e => ⟨ff_X13_named nn u e 160 57 rfl, fun j _ => ff_X13_named nn u e 199 j (nw_ar rfl j)⟩
theorem rk_qo_X13_condition {rc : tq_X13_condition} {a1 : Int} (G : RKpG_X13_condition rc) {h : ms_M} (S : (0 ≤ h 160 57 ∧ h 160 57 ≤ 10000)) : Pc (qo_X13_condition nn rc a1 h) (fun u => RKp h u) := by
  have F : RKp h h := rk_r
  unfold qo_X13_condition
  refine pc_sv (G.2.1 (rk_n S F)) ?_; intro u2 Qu2
  have Fu2 : RKp h u2.2 := rk_t F Qu2
  refine pc_if (fun _ => ?_) (fun _ => ?_)
  · exact pc_ret Fu2
  · refine pc_rA ?_; intro _ _ v4 _
    refine pc_sv (rk_qf_X13_wrong (rk_n S Fu2)) ?_; intro u6 Qu6
    have Fu6 : RKp h u6 := rk_t Fu2 Qu6
    exact pc_ret Fu6
theorem rk_qo_X13_given {rc : tq_X13_condition} {a1 : Int} (G : RKpG_X13_condition rc) {h : ms_M} (S : (0 ≤ h 160 57 ∧ h 160 57 ≤ 10000)) : Pc (qo_X13_given nn rc a1 h) (fun u => RKp h u.2) := by
  have F : RKp h h := rk_r
  unfold qo_X13_given
  refine pc_sv (G.2.2.1 (rk_n S F)) ?_; intro u2 Qu2
  have Fu2 : RKp h u2.2 := rk_t F Qu2
  refine pc_if (fun _ => ?_) (fun _ => ?_)
  · exact pc_ret Fu2
  · refine pc_rA ?_; intro _ _ v4 _
    refine pc_sv (rk_qf_X13_wrong (rk_n S Fu2)) ?_; intro u6 Qu6
    have Fu6 : RKp h u6 := rk_t Fu2 Qu6
    exact pc_ret Fu6
theorem rk_qj_X13_rule_657 {rc : tq_X13_condition} {l2 : Int} {l3 : Int} (G : RKpG_X13_condition rc) {h : ms_M} (S : (0 ≤ h 160 57 ∧ h 160 57 ≤ 10000)) : Pc (qj_X13_rule_657 nn rc l2 l3 h) (fun u => RKp h u.2) := by
  have F : RKp h h := rk_r
  unfold qj_X13_rule_657
  refine pc_se ?_; intro u2 _
  refine pc_if (fun _ => ?_) (fun _ => ?_)
  · exact pc_ret F
  · exact pc_ret F
theorem rk_qj_X13_rule_574 {rc : tq_X13_condition} {l1 : Int} {l3 : Int} (G : RKpG_X13_condition rc) {h : ms_M} (S : (0 ≤ h 160 57 ∧ h 160 57 ≤ 10000)) : Pc (qj_X13_rule_574 nn rc l1 l3 h) (fun u => RKp h u.2) := by
  have F : RKp h h := rk_r
  unfold qj_X13_rule_574
  refine pc_wA ?_; intro _ _ h5 Eh5
  have Fh5 : RKp h h5 := by rw [Eh5]; exact rk_u F (by omega)
  refine pc_rA ?_; intro _ _ v7 _
  refine pc_if (fun _ => ?_) (fun _ => ?_)
  · exact pc_ret Fh5
  · exact pc_ret Fh5
theorem rk_qj_X13_rule_562 {rc : tq_X13_condition} {l1 : Int} {l3 : Int} (G : RKpG_X13_condition rc) {h : ms_M} (S : (0 ≤ h 160 57 ∧ h 160 57 ≤ 10000)) : Pc (qj_X13_rule_562 nn rc l1 l3 h) (fun u => RKp h u.2) := by
  have F : RKp h h := rk_r
  unfold qj_X13_rule_562
  refine pc_rA ?_; intro _ _ v10 _
  refine pc_sv (rk_qf_X13_wrong (rk_n S F)) ?_; intro u12 Qu12
  have Fu12 : RKp h u12 := rk_t F Qu12
  exact pc_imp (rk_qj_X13_rule_574 G (rk_n S Fu12)) (fun _ q => rk_t Fu12 q)
theorem rk_qj_X13_rule_539 {rc : tq_X13_condition} {l1 : Int} {l2 : Int} {l3 : Int} (G : RKpG_X13_condition rc) {h : ms_M} (S : (0 ≤ h 160 57 ∧ h 160 57 ≤ 10000)) : Pc (qj_X13_rule_539 nn rc l1 l2 l3 h) (fun u => RKp h u.2) := by
  have F : RKp h h := rk_r
  unfold qj_X13_rule_539
  refine pc_xl ?_; intro v13 _
  refine pc_xl ?_; intro v14 _
  refine pc_se ?_; intro u15 _
  refine pc_if (fun _ => ?_) (fun _ => ?_)
  · exact pc_imp (rk_qj_X13_rule_562 G (rk_n S F)) (fun _ q => rk_t F q)
  · refine pc_se ?_; intro u17 _
    refine pc_if (fun _ => ?_) (fun _ => ?_)
    · exact pc_imp (rk_qj_X13_rule_574 G (rk_n S F)) (fun _ q => rk_t F q)
    · exact pc_imp (rk_qj_X13_rule_562 G (rk_n S F)) (fun _ q => rk_t F q)
theorem rk_qj_X13_rule_522 {rc : tq_X13_condition} {l1 : Int} {l3 : Int} {s0 : Int} (G : RKpG_X13_condition rc) {h : ms_M} (S : (0 ≤ h 160 57 ∧ h 160 57 ≤ 10000)) : Pc (qj_X13_rule_522 nn rc l1 l3 s0 h) (fun u => RKp h u.2) := by
  have F : RKp h h := rk_r
  unfold qj_X13_rule_522
  refine pc_if (fun _ => ?_) (fun _ => ?_)
  · exact pc_imp (rk_qj_X13_rule_539 G (rk_n S F)) (fun _ q => rk_t F q)
  · refine pc_rA ?_; intro _ _ v21 _
    refine pc_sv (rk_qf_X13_wrong (rk_n S F)) ?_; intro u23 Qu23
    have Fu23 : RKp h u23 := rk_t F Qu23
    exact pc_imp (rk_qj_X13_rule_539 G (rk_n S Fu23)) (fun _ q => rk_t Fu23 q)
theorem rk_qj_X13_rule_493 {rc : tq_X13_condition} {l1 : Int} {l3 : Int} (G : RKpG_X13_condition rc) {h : ms_M} (S : (0 ≤ h 160 57 ∧ h 160 57 ≤ 10000)) : Pc (qj_X13_rule_493 nn rc l1 l3 h) (fun u => RKp h u.2) := by
  have F : RKp h h := rk_r
  unfold qj_X13_rule_493
  refine pc_rA ?_; intro _ _ v26 _
  refine pc_if (fun _ => ?_) (fun _ => ?_)
  · refine pc_sv (rk_qf_X13_led (rk_n S F)) ?_; intro u28 Qu28
    have Fu28 : RKp h u28.2 := rk_t F Qu28
    exact pc_imp (rk_qj_X13_rule_522 G (rk_n S Fu28)) (fun _ q => rk_t Fu28 q)
  · refine pc_rA ?_; intro _ _ v30 _
    refine pc_sv (G.2.1 (rk_n S F)) ?_; intro u32 Qu32
    have Fu32 : RKp h u32.2 := rk_t F Qu32
    exact pc_imp (rk_qj_X13_rule_522 G (rk_n S Fu32)) (fun _ q => rk_t Fu32 q)
theorem rk_qj_X13_rule_455 {rc : tq_X13_condition} {l1 : Int} (G : RKpG_X13_condition rc) {h : ms_M} (S : (0 ≤ h 160 57 ∧ h 160 57 ≤ 10000)) : Pc (qj_X13_rule_455 nn rc l1 h) (fun u => RKp h u.2) := by
  have F : RKp h h := rk_r
  unfold qj_X13_rule_455
  refine pc_rA ?_; intro _ _ v35 _
  refine pc_se ?_; intro u37 _
  refine pc_if (fun _ => ?_) (fun _ => ?_)
  · exact pc_imp (rk_qj_X13_rule_493 G (rk_n S F)) (fun _ q => rk_t F q)
  · refine pc_rA ?_; intro _ _ v39 _
    refine pc_if (fun _ => ?_) (fun _ => ?_)
    · exact pc_imp (rk_qj_X13_rule_493 G (rk_n S F)) (fun _ q => rk_t F q)
    · refine pc_rA ?_; intro _ _ v41 _
      refine pc_sv (rk_qf_X13_wrong (rk_n S F)) ?_; intro u43 Qu43
      have Fu43 : RKp h u43 := rk_t F Qu43
      exact pc_imp (rk_qj_X13_rule_493 G (rk_n S Fu43)) (fun _ q => rk_t Fu43 q)
theorem rk_qj_X13_rule_416 {rc : tq_X13_condition} {l1 : Int} (G : RKpG_X13_condition rc) {h : ms_M} (S : (0 ≤ h 160 57 ∧ h 160 57 ≤ 10000)) : Pc (qj_X13_rule_416 nn rc l1 h) (fun u => RKp h u.2) := by
  have F : RKp h h := rk_r
  unfold qj_X13_rule_416
  refine pc_rA ?_; intro _ _ v47 _
  refine pc_sv (G.2.1 (rk_n S F)) ?_; intro u49 Qu49
  have Fu49 : RKp h u49.2 := rk_t F Qu49
  refine pc_if (fun _ => ?_) (fun _ => ?_)
  · exact pc_ret Fu49
  · refine pc_rA ?_; intro _ _ v51 _
    refine pc_sv (rk_qf_X13_wrong (rk_n S Fu49)) ?_; intro u53 Qu53
    have Fu53 : RKp h u53 := rk_t Fu49 Qu53
    exact pc_ret Fu53
theorem rk_qj_X13_rule_403 {rc : tq_X13_condition} {l2 : Int} (G : RKpG_X13_condition rc) {h : ms_M} (S : (0 ≤ h 160 57 ∧ h 160 57 ≤ 10000)) : Pc (qj_X13_rule_403 nn rc l2 h) (fun u => RKp h u.2) := by
  have F : RKp h h := rk_r
  unfold qj_X13_rule_403
  refine pc_if (fun _ => ?_) (fun _ => ?_)
  · refine pc_xl ?_; intro v55 _
    exact pc_ret F
  · exact pc_ret F
theorem rk_qj_X13_rule_391 {rc : tq_X13_condition} {l1 : Int} {l2 : Int} (G : RKpG_X13_condition rc) {h : ms_M} (S : (0 ≤ h 160 57 ∧ h 160 57 ≤ 10000)) : Pc (qj_X13_rule_391 nn rc l1 l2 h) (fun u => RKp h u.2) := by
  have F : RKp h h := rk_r
  unfold qj_X13_rule_391
  refine pc_rA ?_; intro _ _ v58 _
  refine pc_sv (rk_qf_X13_wrong (rk_n S F)) ?_; intro u60 Qu60
  have Fu60 : RKp h u60 := rk_t F Qu60
  exact pc_imp (rk_qj_X13_rule_403 G (rk_n S Fu60)) (fun _ q => rk_t Fu60 q)
theorem rk_qj_X13_rule_342 {rc : tq_X13_condition} {l2 : Int} (G : RKpG_X13_condition rc) {h : ms_M} (S : (0 ≤ h 160 57 ∧ h 160 57 ≤ 10000)) : Pc (qj_X13_rule_342 nn rc l2 h) (fun u => RKp h u.2) := by
  have F : RKp h h := rk_r
  unfold qj_X13_rule_342
  refine pc_xl ?_; intro v61 _
  refine pc_xl ?_; intro v62 _
  refine pc_xl ?_; intro v63 _
  exact pc_ret F
theorem rk_qj_X13_rule_317 {rc : tq_X13_condition} {l1 : Int} {l2 : Int} (G : RKpG_X13_condition rc) {h : ms_M} (S : (0 ≤ h 160 57 ∧ h 160 57 ≤ 10000)) : Pc (qj_X13_rule_317 nn rc l1 l2 h) (fun u => RKp h u.2) := by
  have F : RKp h h := rk_r
  unfold qj_X13_rule_317
  refine pc_rA ?_; intro _ _ v65 _
  refine pc_sv (G.2.1 (rk_n S F)) ?_; intro u67 Qu67
  have Fu67 : RKp h u67.2 := rk_t F Qu67
  refine pc_if (fun _ => ?_) (fun _ => ?_)
  · exact pc_imp (rk_qj_X13_rule_342 G (rk_n S Fu67)) (fun _ q => rk_t Fu67 q)
  · refine pc_rA ?_; intro _ _ v69 _
    refine pc_sv (rk_qf_X13_wrong (rk_n S Fu67)) ?_; intro u71 Qu71
    have Fu71 : RKp h u71 := rk_t Fu67 Qu71
    exact pc_imp (rk_qj_X13_rule_342 G (rk_n S Fu71)) (fun _ q => rk_t Fu71 q)
theorem rk_qj_X13_rule_256 {rc : tq_X13_condition} {l2 : Int} (G : RKpG_X13_condition rc) {h : ms_M} (S : (0 ≤ h 160 57 ∧ h 160 57 ≤ 10000)) : Pc (qj_X13_rule_256 nn rc l2 h) (fun u => RKp h u.2) := by
  have F : RKp h h := rk_r
  unfold qj_X13_rule_256
  refine pc_xl ?_; intro v73 _
  refine pc_xl ?_; intro v74 _
  exact pc_ret F
theorem rk_qj_X13_rule_216 {rc : tq_X13_condition} {l1 : Int} (G : RKpG_X13_condition rc) {h : ms_M} (S : (0 ≤ h 160 57 ∧ h 160 57 ≤ 10000)) : Pc (qj_X13_rule_216 nn rc l1 h) (fun u => RKp h u.2) := by
  have F : RKp h h := rk_r
  unfold qj_X13_rule_216
  refine pc_rA ?_; intro _ _ v76 _
  refine pc_sv (G.2.2.2.2.2.2 (rk_n S F)) ?_; intro u78 Qu78
  have Fu78 : RKp h u78.2 := rk_t F Qu78
  exact pc_ret Fu78
theorem rk_qj_X13_rule_121 {rc : tq_X13_condition} (G : RKpG_X13_condition rc) {h : ms_M} (S : (0 ≤ h 160 57 ∧ h 160 57 ≤ 10000)) : Pc (qj_X13_rule_121 nn rc h) (fun u => RKp h u.2) := by
  have F : RKp h h := rk_r
  unfold qj_X13_rule_121
  refine pc_xl ?_; intro v80 _
  refine pc_xl ?_; intro v81 _
  exact pc_ret F
theorem rk_qj_X13_rule_98 {rc : tq_X13_condition} (G : RKpG_X13_condition rc) {h : ms_M} (S : (0 ≤ h 160 57 ∧ h 160 57 ≤ 10000)) : Pc (qj_X13_rule_98 nn rc h) (fun u => RKp h u.2) := by
  have F : RKp h h := rk_r
  unfold qj_X13_rule_98
  exact pc_ret F
theorem rk_qo_X13_rule {rc : tq_X13_condition} {a1 : Int} (G : RKpG_X13_condition rc) {h : ms_M} (S : (0 ≤ h 160 57 ∧ h 160 57 ≤ 10000)) : Pc (qo_X13_rule nn rc a1 h) (fun u => RKp h u.2) := by
  have F : RKp h h := rk_r
  unfold qo_X13_rule
  refine pc_rA ?_; intro _ _ v83 _
  refine pc_if (fun _ => ?_) (fun _ => ?_)
  · exact pc_ret F
  · refine pc_if (fun _ => ?_) (fun _ => ?_)
    · exact pc_imp (rk_qj_X13_rule_98 G (rk_n S F)) (fun _ q => rk_t F q)
    · refine pc_if (fun _ => ?_) (fun _ => ?_)
      · exact pc_imp (rk_qj_X13_rule_98 G (rk_n S F)) (fun _ q => rk_t F q)
      · refine pc_if (fun _ => ?_) (fun _ => ?_)
        · exact pc_ret F
        · refine pc_if (fun _ => ?_) (fun _ => ?_)
          · refine pc_if (fun _ => ?_) (fun _ => ?_)
            · exact pc_imp (rk_qj_X13_rule_121 G (rk_n S F)) (fun _ q => rk_t F q)
            · refine pc_rA ?_; intro _ _ v105 _
              refine pc_sv (rk_qf_X13_wrong (rk_n S F)) ?_; intro u107 Qu107
              have Fu107 : RKp h u107 := rk_t F Qu107
              exact pc_imp (rk_qj_X13_rule_121 G (rk_n S Fu107)) (fun _ q => rk_t Fu107 q)
          · refine pc_if (fun _ => ?_) (fun _ => ?_)
            · refine pc_sv (rk_qf_X13_named (rk_n S F)) ?_; intro u110 Qu110
              have Fu110 : RKp h u110.2 := rk_t F Qu110
              exact pc_ret Fu110
            · refine pc_if (fun _ => ?_) (fun _ => ?_)
              · refine pc_rA ?_; intro _ _ v114 _
                refine pc_se ?_; intro u116 _
                refine pc_wA ?_; intro _ _ h117 Eh117
                have Fh117 : RKp h h117 := by rw [Eh117]; exact rk_u F (by omega)
                refine pc_rA ?_; intro _ _ v119 _
                refine pc_if (fun _ => ?_) (fun _ => ?_)
                · refine pc_if (fun _ => ?_) (fun _ => ?_)
                  · exact pc_imp (rk_qj_X13_rule_216 G (rk_n S Fh117)) (fun _ q => rk_t Fh117 q)
                  · refine pc_rA ?_; intro _ _ v123 _
                    refine pc_rA ?_; intro _ _ v124 _
                    refine pc_if (fun _ => ?_) (fun _ => ?_)
                    · exact pc_imp (rk_qj_X13_rule_216 G (rk_n S Fh117)) (fun _ q => rk_t Fh117 q)
                    · refine pc_rA ?_; intro _ _ v126 _
                      refine pc_sv (rk_qf_X13_wrong (rk_n S Fh117)) ?_; intro u128 Qu128
                      have Fu128 : RKp h u128 := rk_t Fh117 Qu128
                      exact pc_imp (rk_qj_X13_rule_216 G (rk_n S Fu128)) (fun _ q => rk_t Fu128 q)
                · refine pc_rA ?_; intro _ _ v132 _
                  refine pc_sv (rk_qf_X13_wrong (rk_n S Fh117)) ?_; intro u134 Qu134
                  have Fu134 : RKp h u134 := rk_t Fh117 Qu134
                  exact pc_imp (rk_qj_X13_rule_216 G (rk_n S Fu134)) (fun _ q => rk_t Fu134 q)
              · refine pc_if (fun _ => ?_) (fun _ => ?_)
                · refine pc_rA ?_; intro _ _ v137 _
                  refine pc_se ?_; intro u139 _
                  refine pc_if (fun _ => ?_) (fun _ => ?_)
                  · exact pc_imp (rk_qj_X13_rule_256 G (rk_n S F)) (fun _ q => rk_t F q)
                  · refine pc_rA ?_; intro _ _ v141 _
                    refine pc_sv (rk_qf_X13_wrong (rk_n S F)) ?_; intro u143 Qu143
                    have Fu143 : RKp h u143 := rk_t F Qu143
                    exact pc_imp (rk_qj_X13_rule_256 G (rk_n S Fu143)) (fun _ q => rk_t Fu143 q)
                · refine pc_if (fun _ => ?_) (fun _ => ?_)
                  · refine pc_rA ?_; intro _ _ v146 _
                    refine pc_sv (G.2.1 (rk_n S F)) ?_; intro u148 Qu148
                    have Fu148 : RKp h u148.2 := rk_t F Qu148
                    refine pc_if (fun _ => ?_) (fun _ => ?_)
                    · exact pc_ret Fu148
                    · refine pc_rA ?_; intro _ _ v150 _
                      refine pc_sv (rk_qf_X13_wrong (rk_n S Fu148)) ?_; intro u152 Qu152
                      have Fu152 : RKp h u152 := rk_t Fu148 Qu152
                      exact pc_ret Fu152
                  · refine pc_if (fun _ => ?_) (fun _ => ?_)
                    · refine pc_rA ?_; intro _ _ v155 _
                      refine pc_se ?_; intro u157 _
                      refine pc_if (fun _ => ?_) (fun _ => ?_)
                      · exact pc_imp (rk_qj_X13_rule_317 G (rk_n S F)) (fun _ q => rk_t F q)
                      · refine pc_rA ?_; intro _ _ v159 _
                        refine pc_sv (rk_qf_X13_wrong (rk_n S F)) ?_; intro u161 Qu161
                        have Fu161 : RKp h u161 := rk_t F Qu161
                        exact pc_imp (rk_qj_X13_rule_317 G (rk_n S Fu161)) (fun _ q => rk_t Fu161 q)
                    · refine pc_if (fun _ => ?_) (fun _ => ?_)
                      · refine pc_sv (rk_qf_X13_field (rk_n S F)) ?_; intro u164 Qu164
                        have Fu164 : RKp h u164.2 := rk_t F Qu164
                        exact pc_ret Fu164
                      · refine pc_if (fun _ => ?_) (fun _ => ?_)
                        · refine pc_sv (G.2.2.2.2.2.1 (rk_n S F)) ?_; intro u166 Qu166
                          have Fu166 : RKp h u166.2 := rk_t F Qu166
                          exact pc_ret Fu166
                        · refine pc_if (fun _ => ?_) (fun _ => ?_)
                          · refine pc_sv (rk_qf_X13_led (rk_n S F)) ?_; intro u168 Qu168
                            have Fu168 : RKp h u168.2 := rk_t F Qu168
                            refine pc_rA ?_; intro _ _ v170 _
                            refine pc_sv (G.2.1 (rk_n S Fu168)) ?_; intro u172 Qu172
                            have Fu172 : RKp h u172.2 := rk_t Fu168 Qu172
                            refine pc_se ?_; intro u173 _
                            refine pc_if (fun _ => ?_) (fun _ => ?_)
                            · exact pc_imp (rk_qj_X13_rule_391 G (rk_n S Fu172)) (fun _ q => rk_t Fu172 q)
                            · refine pc_if (fun _ => ?_) (fun _ => ?_)
                              · exact pc_imp (rk_qj_X13_rule_403 G (rk_n S Fu172)) (fun _ q => rk_t Fu172 q)
                              · exact pc_imp (rk_qj_X13_rule_391 G (rk_n S Fu172)) (fun _ q => rk_t Fu172 q)
                          · refine pc_if (fun _ => ?_) (fun _ => ?_)
                            · exact pc_imp (rk_qj_X13_rule_416 G (rk_n S F)) (fun _ q => rk_t F q)
                            · refine pc_if (fun _ => ?_) (fun _ => ?_)
                              · refine pc_rA ?_; intro _ _ v177 _
                                refine pc_sv (G.1 (rk_n S F)) ?_; intro u179 Qu179
                                have Fu179 : RKp h u179 := rk_t F Qu179
                                exact pc_ret Fu179
                              · refine pc_if (fun _ => ?_) (fun _ => ?_)
                                · exact pc_imp (rk_qj_X13_rule_416 G (rk_n S F)) (fun _ q => rk_t F q)
                                · refine pc_if (fun _ => ?_) (fun _ => ?_)
                                  · exact pc_imp (rk_qj_X13_rule_455 G (rk_n S F)) (fun _ q => rk_t F q)
                                  · refine pc_if (fun _ => ?_) (fun _ => ?_)
                                    · refine pc_sv (G.2.2.2.2.1 (rk_n S F)) ?_; intro u181 Qu181
                                      have Fu181 : RKp h u181.2 := rk_t F Qu181
                                      exact pc_ret Fu181
                                    · refine pc_if (fun _ => ?_) (fun _ => ?_)
                                      · exact pc_imp (rk_qj_X13_rule_455 G (rk_n S F)) (fun _ q => rk_t F q)
                                      · refine pc_rA ?_; intro _ _ v85 _
                                        refine pc_sv (G.1 (rk_n S F)) ?_; intro u87 Qu87
                                        have Fu87 : RKp h u87 := rk_t F Qu87
                                        refine pc_rA ?_; intro _ _ v89 _
                                        refine pc_sv (G.2.1 (rk_n S Fu87)) ?_; intro u91 Qu91
                                        have Fu91 : RKp h u91.2 := rk_t Fu87 Qu91
                                        refine pc_rA ?_; intro _ _ v93 _
                                        refine pc_sv (G.2.1 (rk_n S Fu91)) ?_; intro u95 Qu95
                                        have Fu95 : RKp h u95.2 := rk_t Fu91 Qu95
                                        refine pc_se ?_; intro u97 _
                                        refine pc_if (fun _ => ?_) (fun _ => ?_)
                                        · exact pc_imp (rk_qj_X13_rule_657 G (rk_n S Fu95)) (fun _ q => rk_t Fu95 q)
                                        · refine pc_rA ?_; intro _ _ v99 _
                                          refine pc_sv (rk_qf_X13_wrong (rk_n S Fu95)) ?_; intro u101 Qu101
                                          have Fu101 : RKp h u101 := rk_t Fu95 Qu101
                                          exact pc_imp (rk_qj_X13_rule_657 G (rk_n S Fu101)) (fun _ q => rk_t Fu101 q)
theorem rk_qj_X13_both_247 {rc : tq_X13_condition} {l1 : Int} {l3 : Int} (G : RKpG_X13_condition rc) {h : ms_M} (S : (0 ≤ h 160 57 ∧ h 160 57 ≤ 10000)) : Pc (qj_X13_both_247 nn rc l1 l3 h) (fun u => RKp h u.2) := by
  have F : RKp h h := rk_r
  unfold qj_X13_both_247
  refine pc_rA ?_; intro _ _ v2 _
  refine pc_se ?_; intro u4 _
  refine pc_if (fun _ => ?_) (fun _ => ?_)
  · exact pc_ret F
  · exact pc_ret F
theorem rk_qj_X13_both_235 {rc : tq_X13_condition} {l1 : Int} {l3 : Int} (G : RKpG_X13_condition rc) {h : ms_M} (S : (0 ≤ h 160 57 ∧ h 160 57 ≤ 10000)) : Pc (qj_X13_both_235 nn rc l1 l3 h) (fun u => RKp h u.2) := by
  have F : RKp h h := rk_r
  unfold qj_X13_both_235
  refine pc_rA ?_; intro _ _ v7 _
  refine pc_sv (rk_qf_X13_wrong (rk_n S F)) ?_; intro u9 Qu9
  have Fu9 : RKp h u9 := rk_t F Qu9
  exact pc_imp (rk_qj_X13_both_247 G (rk_n S Fu9)) (fun _ q => rk_t Fu9 q)
theorem rk_qj_X13_both_213 {rc : tq_X13_condition} {l1 : Int} {l3 : Int} {l4 : Int} {s0 : Int} (G : RKpG_X13_condition rc) {h : ms_M} (S : (0 ≤ h 160 57 ∧ h 160 57 ≤ 10000)) : Pc (qj_X13_both_213 nn rc l1 l3 l4 s0 h) (fun u => RKp h u.2) := by
  have F : RKp h h := rk_r
  unfold qj_X13_both_213
  refine pc_if (fun _ => ?_) (fun _ => ?_)
  · exact pc_imp (rk_qj_X13_both_235 G (rk_n S F)) (fun _ q => rk_t F q)
  · refine pc_if (fun _ => ?_) (fun _ => ?_)
    · exact pc_imp (rk_qj_X13_both_247 G (rk_n S F)) (fun _ q => rk_t F q)
    · refine pc_if (fun _ => ?_) (fun _ => ?_)
      · exact pc_imp (rk_qj_X13_both_235 G (rk_n S F)) (fun _ q => rk_t F q)
      · refine pc_if (fun _ => ?_) (fun _ => ?_)
        · exact pc_imp (rk_qj_X13_both_247 G (rk_n S F)) (fun _ q => rk_t F q)
        · exact pc_imp (rk_qj_X13_both_235 G (rk_n S F)) (fun _ q => rk_t F q)
theorem rk_qj_X13_both_208 {rc : tq_X13_condition} {l1 : Int} {l3 : Int} {l4 : Int} (G : RKpG_X13_condition rc) {h : ms_M} (S : (0 ≤ h 160 57 ∧ h 160 57 ≤ 10000)) : Pc (qj_X13_both_208 nn rc l1 l3 l4 h) (fun u => RKp h u.2) := by
  have F : RKp h h := rk_r
  unfold qj_X13_both_208
  exact pc_imp (rk_qj_X13_both_213 G (rk_n S F)) (fun _ q => rk_t F q)
theorem rk_qj_X13_both_166 {rc : tq_X13_condition} {l1 : Int} {l3 : Int} {l4 : Int} (G : RKpG_X13_condition rc) {h : ms_M} (S : (0 ≤ h 160 57 ∧ h 160 57 ≤ 10000)) : Pc (qj_X13_both_166 nn rc l1 l3 l4 h) (fun u => RKp h u.2) := by
  have F : RKp h h := rk_r
  unfold qj_X13_both_166
  refine pc_se ?_; intro u15 _
  refine pc_if (fun _ => ?_) (fun _ => ?_)
  · exact pc_ret F
  · refine pc_rA ?_; intro _ _ v17 _
    refine pc_sv (rk_qf_X13_wrong (rk_n S F)) ?_; intro u19 Qu19
    have Fu19 : RKp h u19 := rk_t F Qu19
    exact pc_ret Fu19
theorem rk_qj_X13_both_62 {rc : tq_X13_condition} {l1 : Int} (G : RKpG_X13_condition rc) {h : ms_M} (S : (0 ≤ h 160 57 ∧ h 160 57 ≤ 10000)) : Pc (qj_X13_both_62 nn rc l1 h) (fun u => RKp h u.2) := by
  have F : RKp h h := rk_r
  unfold qj_X13_both_62
  refine pc_rA ?_; intro _ _ v22 _
  refine pc_rA ?_; intro _ _ v24 _
  refine pc_sv (G.2.2.1 (rk_n S F)) ?_; intro u26 Qu26
  have Fu26 : RKp h u26.2 := rk_t F Qu26
  refine pc_sv (rk_qf_X13_side (rk_n S Fu26)) ?_; intro u28 Qu28
  have Fu28 : RKp h u28.2 := rk_t Fu26 Qu28
  refine pc_if (fun _ => ?_) (fun _ => ?_)
  · exact pc_ret Fu28
  · refine pc_rA ?_; intro _ _ v31 _
    refine pc_rA ?_; intro _ _ v32 _
    refine pc_sv (rk_qf_X13_wrong (rk_n S Fu28)) ?_; intro u34 Qu34
    have Fu34 : RKp h u34 := rk_t Fu28 Qu34
    exact pc_ret Fu34
theorem rk_qj_X13_both_36 {rc : tq_X13_condition} {l1 : Int} (G : RKpG_X13_condition rc) {h : ms_M} (S : (0 ≤ h 160 57 ∧ h 160 57 ≤ 10000)) : Pc (qj_X13_both_36 nn rc l1 h) (fun u => RKp h u.2) := by
  have F : RKp h h := rk_r
  unfold qj_X13_both_36
  refine pc_sv (rk_qf_X13_led (rk_n S F)) ?_; intro u37 Qu37
  have Fu37 : RKp h u37.2 := rk_t F Qu37
  refine pc_if (fun _ => ?_) (fun _ => ?_)
  · exact pc_imp (rk_qj_X13_both_62 G (rk_n S Fu37)) (fun _ q => rk_t Fu37 q)
  · refine pc_rA ?_; intro _ _ v40 _
    refine pc_rA ?_; intro _ _ v41 _
    refine pc_sv (rk_qf_X13_wrong (rk_n S Fu37)) ?_; intro u43 Qu43
    have Fu43 : RKp h u43 := rk_t Fu37 Qu43
    exact pc_imp (rk_qj_X13_both_62 G (rk_n S Fu43)) (fun _ q => rk_t Fu43 q)
theorem rk_qo_X13_both {rc : tq_X13_condition} {a1 : Int} (G : RKpG_X13_condition rc) {h : ms_M} (S : (0 ≤ h 160 57 ∧ h 160 57 ≤ 10000)) : Pc (qo_X13_both nn rc a1 h) (fun u => RKp h u.2) := by
  have F : RKp h h := rk_r
  unfold qo_X13_both
  refine pc_rA ?_; intro _ _ v47 _
  refine pc_rA ?_; intro _ _ v48 _
  refine pc_se ?_; intro u49 _
  refine pc_if (fun _ => ?_) (fun _ => ?_)
  · exact pc_imp (rk_qj_X13_both_36 G (rk_n S F)) (fun _ q => rk_t F q)
  · refine pc_se ?_; intro u50 _
    refine pc_if (fun _ => ?_) (fun _ => ?_)
    · refine pc_sv (rk_qf_X13_led (rk_n S F)) ?_; intro u52 Qu52
      have Fu52 : RKp h u52.2 := rk_t F Qu52
      refine pc_rA ?_; intro _ _ v54 _
      refine pc_rA ?_; intro _ _ v56 _
      refine pc_sv (G.2.2.1 (rk_n S Fu52)) ?_; intro u58 Qu58
      have Fu58 : RKp h u58.2 := rk_t Fu52 Qu58
      refine pc_sv (rk_qf_X13_side (rk_n S Fu58)) ?_; intro u60 Qu60
      have Fu60 : RKp h u60.2 := rk_t Fu58 Qu60
      refine pc_if (fun _ => ?_) (fun _ => ?_)
      · refine pc_se ?_; intro u62 _
        refine pc_if (fun _ => ?_) (fun _ => ?_)
        · exact pc_imp (rk_qj_X13_both_166 G (rk_n S Fu60)) (fun _ q => rk_t Fu60 q)
        · refine pc_se ?_; intro u63 _
          refine pc_if (fun _ => ?_) (fun _ => ?_)
          · refine pc_if (fun _ => ?_) (fun _ => ?_)
            · exact pc_imp (rk_qj_X13_both_208 G (rk_n S Fu60)) (fun _ q => rk_t Fu60 q)
            · refine pc_if (fun _ => ?_) (fun _ => ?_)
              · exact pc_imp (rk_qj_X13_both_208 G (rk_n S Fu60)) (fun _ q => rk_t Fu60 q)
              · refine pc_if (fun _ => ?_) (fun _ => ?_)
                · exact pc_imp (rk_qj_X13_both_213 G (rk_n S Fu60)) (fun _ q => rk_t Fu60 q)
                · exact pc_imp (rk_qj_X13_both_208 G (rk_n S Fu60)) (fun _ q => rk_t Fu60 q)
          · exact pc_imp (rk_qj_X13_both_166 G (rk_n S Fu60)) (fun _ q => rk_t Fu60 q)
      · exact pc_ret Fu60
    · exact pc_imp (rk_qj_X13_both_36 G (rk_n S F)) (fun _ q => rk_t F q)
theorem rk_qj_X13_invoked_237 {rc : tq_X13_condition} {s0 : Int} {s1 : Int} {s2 : Int} (G : RKpG_X13_condition rc) {h : ms_M} (S : (0 ≤ h 160 57 ∧ h 160 57 ≤ 10000)) : Pc (qj_X13_invoked_237 nn rc s0 s1 s2 h) (fun u => RKp h u.2) := by
  have F : RKp h h := rk_r
  unfold qj_X13_invoked_237
  refine pc_sv (G.2.2.2.2.2.2 (rk_n S F)) ?_; intro u2 Qu2
  have Fu2 : RKp h u2.2 := rk_t F Qu2
  exact pc_ret Fu2
theorem rk_qj_X13_invoked_232 {rc : tq_X13_condition} {s0 : Int} {s1 : Int} (G : RKpG_X13_condition rc) {h : ms_M} (S : (0 ≤ h 160 57 ∧ h 160 57 ≤ 10000)) : Pc (qj_X13_invoked_232 nn rc s0 s1 h) (fun u => RKp h u.2) := by
  have F : RKp h h := rk_r
  unfold qj_X13_invoked_232
  exact pc_imp (rk_qj_X13_invoked_237 G (rk_n S F)) (fun _ q => rk_t F q)
theorem rk_qj_X13_invoked_228 {rc : tq_X13_condition} {l3 : Int} {s0 : Int} {s1 : Int} {s2 : Int} (G : RKpG_X13_condition rc) {h : ms_M} (S : (0 ≤ h 160 57 ∧ h 160 57 ≤ 10000)) : Pc (qj_X13_invoked_228 nn rc l3 s0 s1 s2 h) (fun u => RKp h u.2) := by
  have F : RKp h h := rk_r
  unfold qj_X13_invoked_228
  refine pc_if (fun _ => ?_) (fun _ => ?_)
  · exact pc_imp (rk_qj_X13_invoked_237 G (rk_n S F)) (fun _ q => rk_t F q)
  · exact pc_imp (rk_qj_X13_invoked_232 G (rk_n S F)) (fun _ q => rk_t F q)
theorem rk_qj_X13_invoked_193 {rc : tq_X13_condition} {l1 : Int} {l3 : Int} (G : RKpG_X13_condition rc) {h : ms_M} (S : (0 ≤ h 160 57 ∧ h 160 57 ≤ 10000)) : Pc (qj_X13_invoked_193 nn rc l1 l3 h) (fun u => RKp h u.2) := by
  have F : RKp h h := rk_r
  unfold qj_X13_invoked_193
  refine pc_rA ?_; intro _ _ v5 _
  refine pc_if (fun _ => ?_) (fun _ => ?_)
  · exact pc_imp (rk_qj_X13_invoked_232 G (rk_n S F)) (fun _ q => rk_t F q)
  · refine pc_rA ?_; intro _ _ v9 _
    refine pc_rA ?_; intro _ _ v10 _
    refine pc_if (fun _ => ?_) (fun _ => ?_)
    · exact pc_imp (rk_qj_X13_invoked_228 G (rk_n S F)) (fun _ q => rk_t F q)
    · exact pc_imp (rk_qj_X13_invoked_228 G (rk_n S F)) (fun _ q => rk_t F q)
theorem rk_qj_X13_invoked_152 {rc : tq_X13_condition} {l1 : Int} {l3 : Int} {l4 : Int} {s0 : Int} {s1 : Int} (G : RKpG_X13_condition rc) {h : ms_M} (S : (0 ≤ h 160 57 ∧ h 160 57 ≤ 10000)) : Pc (qj_X13_invoked_152 nn rc l1 l3 l4 s0 s1 h) (fun u => RKp h u.2) := by
  have F : RKp h h := rk_r
  unfold qj_X13_invoked_152
  refine pc_wA ?_; intro _ _ h13 Eh13
  have Fh13 : RKp h h13 := by rw [Eh13]; exact rk_u F (by omega)
  refine pc_rA ?_; intro _ _ v16 _
  refine pc_se ?_; intro u18 _
  refine pc_wA ?_; intro _ _ h19 Eh19
  have Fh19 : RKp h h19 := by rw [Eh19]; exact rk_u Fh13 (by omega)
  refine pc_rA ?_; intro _ _ v21 _
  refine pc_if (fun _ => ?_) (fun _ => ?_)
  · exact pc_imp (rk_qj_X13_invoked_193 G (rk_n S Fh19)) (fun _ q => rk_t Fh19 q)
  · refine pc_rA ?_; intro _ _ v23 _
    refine pc_sv (rk_qf_X13_wrong (rk_n S Fh19)) ?_; intro u25 Qu25
    have Fu25 : RKp h u25 := rk_t Fh19 Qu25
    exact pc_imp (rk_qj_X13_invoked_193 G (rk_n S Fu25)) (fun _ q => rk_t Fu25 q)
theorem rk_qj_X13_invoked_128 {rc : tq_X13_condition} {l1 : Int} {l3 : Int} {l4 : Int} (G : RKpG_X13_condition rc) {h : ms_M} (S : (0 ≤ h 160 57 ∧ h 160 57 ≤ 10000)) : Pc (qj_X13_invoked_128 nn rc l1 l3 l4 h) (fun u => RKp h u.2) := by
  have F : RKp h h := rk_r
  unfold qj_X13_invoked_128
  refine pc_if (fun _ => ?_) (fun _ => ?_)
  · refine pc_if (fun _ => ?_) (fun _ => ?_)
    · exact pc_imp (rk_qj_X13_invoked_152 G (rk_n S F)) (fun _ q => rk_t F q)
    · exact pc_imp (rk_qj_X13_invoked_152 G (rk_n S F)) (fun _ q => rk_t F q)
  · exact pc_ret F
theorem rk_qj_X13_invoked_119 {rc : tq_X13_condition} {l1 : Int} {l3 : Int} {l5 : Int} (G : RKpG_X13_condition rc) {h : ms_M} (S : (0 ≤ h 160 57 ∧ h 160 57 ≤ 10000)) : Pc (qj_X13_invoked_119 nn rc l1 l3 l5 h) (fun u => RKp h u.2) := by
  have F : RKp h h := rk_r
  unfold qj_X13_invoked_119
  refine pc_xl ?_; intro v31 _
  refine pc_xl ?_; intro v32 _
  exact pc_imp (rk_qj_X13_invoked_128 G (rk_n S F)) (fun _ q => rk_t F q)
theorem rk_qj_X13_invoked_86 {rc : tq_X13_condition} {l1 : Int} (G : RKpG_X13_condition rc) {h : ms_M} (S : (0 ≤ h 160 57 ∧ h 160 57 ≤ 10000)) : Pc (qj_X13_invoked_86 nn rc l1 h) (fun u => RKp h u.2) := by
  have F : RKp h h := rk_r
  unfold qj_X13_invoked_86
  refine pc_rA ?_; intro _ _ v34 _
  refine pc_sv (rk_qf_X13_wrong (rk_n S F)) ?_; intro u36 Qu36
  have Fu36 : RKp h u36 := rk_t F Qu36
  exact pc_ret Fu36
theorem rk_qj_X13_invoked_46 {rc : tq_X13_condition} {l1 : Int} {l2 : Int} {l3 : Int} {l4 : Int} (G : RKpG_X13_condition rc) {h : ms_M} (S : (0 ≤ h 160 57 ∧ h 160 57 ≤ 10000)) : Pc (qj_X13_invoked_46 nn rc l1 l2 l3 l4 h) (fun u => RKp h u.2) := by
  have F : RKp h h := rk_r
  unfold qj_X13_invoked_46
  refine pc_wA ?_; intro _ _ h38 Eh38
  have Fh38 : RKp h h38 := by rw [Eh38]; exact rk_u F (by omega)
  exact pc_imp (rk_qj_X13_invoked_128 G (rk_n S Fh38)) (fun _ q => rk_t Fh38 q)
theorem rk_qo_X13_invoked {rc : tq_X13_condition} {a1 : Int} (G : RKpG_X13_condition rc) {h : ms_M} (S : (0 ≤ h 160 57 ∧ h 160 57 ≤ 10000)) : Pc (qo_X13_invoked nn rc a1 h) (fun u => RKp h u.2) := by
  have F : RKp h h := rk_r
  unfold qo_X13_invoked
  refine pc_rA ?_; intro _ _ v40 _
  refine pc_se ?_; intro u42 _
  refine pc_if (fun _ => ?_) (fun _ => ?_)
  · refine pc_sv (rk_qf_X13_led (rk_n S F)) ?_; intro u44 Qu44
    have Fu44 : RKp h u44.2 := rk_t F Qu44
    refine pc_if (fun _ => ?_) (fun _ => ?_)
    · refine pc_if (fun _ => ?_) (fun _ => ?_)
      · exact pc_imp (rk_qj_X13_invoked_86 G (rk_n S Fu44)) (fun _ q => rk_t Fu44 q)
      · refine pc_se ?_; intro u46 _
        refine pc_if (fun _ => ?_) (fun _ => ?_)
        · refine pc_se ?_; intro u47 _
          refine pc_if (fun _ => ?_) (fun _ => ?_)
          · exact pc_imp (rk_qj_X13_invoked_119 G (rk_n S Fu44)) (fun _ q => rk_t Fu44 q)
          · refine pc_rA ?_; intro _ _ v49 _
            refine pc_sv (rk_qf_X13_wrong (rk_n S Fu44)) ?_; intro u51 Qu51
            have Fu51 : RKp h u51 := rk_t Fu44 Qu51
            exact pc_imp (rk_qj_X13_invoked_119 G (rk_n S Fu51)) (fun _ q => rk_t Fu51 q)
        · exact pc_imp (rk_qj_X13_invoked_86 G (rk_n S Fu44)) (fun _ q => rk_t Fu44 q)
    · exact pc_ret Fu44
  · refine pc_rA ?_; intro _ _ v57 _
    refine pc_se ?_; intro u59 _
    refine pc_if (fun _ => ?_) (fun _ => ?_)
    · exact pc_imp (rk_qj_X13_invoked_46 G (rk_n S F)) (fun _ q => rk_t F q)
    · refine pc_rA ?_; intro _ _ v61 _
      refine pc_sv (rk_qf_X13_wrong (rk_n S F)) ?_; intro u63 Qu63
      have Fu63 : RKp h u63 := rk_t F Qu63
      exact pc_imp (rk_qj_X13_invoked_46 G (rk_n S Fu63)) (fun _ q => rk_t Fu63 q)
theorem rk_qj_X13_called_138 {rc : tq_X13_condition} {l2 : Int} (G : RKpG_X13_condition rc) {h : ms_M} (S : (0 ≤ h 160 57 ∧ h 160 57 ≤ 10000)) : Pc (qj_X13_called_138 nn rc l2 h) (fun u => RKp h u.2) := by
  have F : RKp h h := rk_r
  unfold qj_X13_called_138
  refine pc_rA ?_; intro _ _ v2 _
  exact pc_ret F
theorem rk_qj_X13_called_126 {rc : tq_X13_condition} {l1 : Int} {l2 : Int} (G : RKpG_X13_condition rc) {h : ms_M} (S : (0 ≤ h 160 57 ∧ h 160 57 ≤ 10000)) : Pc (qj_X13_called_126 nn rc l1 l2 h) (fun u => RKp h u.2) := by
  have F : RKp h h := rk_r
  unfold qj_X13_called_126
  refine pc_rA ?_; intro _ _ v4 _
  refine pc_sv (rk_qf_X13_wrong (rk_n S F)) ?_; intro u6 Qu6
  have Fu6 : RKp h u6 := rk_t F Qu6
  exact pc_imp (rk_qj_X13_called_138 G (rk_n S Fu6)) (fun _ q => rk_t Fu6 q)
theorem rk_qj_X13_called_110 {rc : tq_X13_condition} {l1 : Int} {l2 : Int} {l4 : Int} {l5 : Int} (G : RKpG_X13_condition rc) {h : ms_M} (S : (0 ≤ h 160 57 ∧ h 160 57 ≤ 10000)) : Pc (qj_X13_called_110 nn rc l1 l2 l4 l5 h) (fun u => RKp h u.2) := by
  have F : RKp h h := rk_r
  unfold qj_X13_called_110
  refine pc_if (fun _ => ?_) (fun _ => ?_)
  · exact pc_imp (rk_qj_X13_called_126 G (rk_n S F)) (fun _ q => rk_t F q)
  · refine pc_rA ?_; intro _ _ v8 _
    refine pc_if (fun _ => ?_) (fun _ => ?_)
    · exact pc_imp (rk_qj_X13_called_138 G (rk_n S F)) (fun _ q => rk_t F q)
    · exact pc_imp (rk_qj_X13_called_126 G (rk_n S F)) (fun _ q => rk_t F q)
theorem rk_qj_X13_called_93 {rc : tq_X13_condition} {l1 : Int} {l2 : Int} {l5 : Int} {l6 : Int} {s0 : Int} (G : RKpG_X13_condition rc) {qkk_23 : Int → Int → Int → Int → Int → ms_M → Option (Int × ms_M)} (Hqkk_23 : ∀ (z0 : Int) (z1 : Int) (z2 : Int) (z3 : Int) (z4 : Int) (z5 : ms_M), (0 ≤ z5 160 57 ∧ z5 160 57 ≤ 10000) → Pc (qkk_23 z0 z1 z2 z3 z4 z5) (fun u => RKp z5 u.2)) {h : ms_M} (S : (0 ≤ h 160 57 ∧ h 160 57 ≤ 10000)) : Pc (qj_X13_called_93 nn rc qkk_23 l1 l2 l5 l6 s0 h) (fun u => RKp h u.2) := by
  have F : RKp h h := rk_r
  unfold qj_X13_called_93
  refine pc_xl ?_; intro v11 _
  refine pc_rA ?_; intro _ _ v13 _
  exact pc_imp (Hqkk_23 _ _ _ _ _ _ (rk_n S F)) (fun _ q => rk_t F q)
theorem rk_qj_X13_called_92 {rc : tq_X13_condition} {l1 : Int} {l2 : Int} {l5 : Int} {l6 : Int} (G : RKpG_X13_condition rc) {qkk_23 : Int → Int → Int → Int → Int → ms_M → Option (Int × ms_M)} (Hqkk_23 : ∀ (z0 : Int) (z1 : Int) (z2 : Int) (z3 : Int) (z4 : Int) (z5 : ms_M), (0 ≤ z5 160 57 ∧ z5 160 57 ≤ 10000) → Pc (qkk_23 z0 z1 z2 z3 z4 z5) (fun u => RKp z5 u.2)) {h : ms_M} (S : (0 ≤ h 160 57 ∧ h 160 57 ≤ 10000)) : Pc (qj_X13_called_92 nn rc qkk_23 l1 l2 l5 l6 h) (fun u => RKp h u.2) := by
  have F : RKp h h := rk_r
  unfold qj_X13_called_92
  exact pc_imp (rk_qj_X13_called_93 G Hqkk_23 (rk_n S F)) (fun _ q => rk_t F q)
theorem rk_qw_X13_called_23 {rc : tq_X13_condition} (G : RKpG_X13_condition rc) : ∀ (k : Nat) (l1 : Int) (l2 : Int) (l4 : Int) (l5 : Int) (l6 : Int) (h : ms_M), (0 ≤ h 160 57 ∧ h 160 57 ≤ 10000) → Pc (qw_X13_called_23 nn rc k l1 l2 l4 l5 l6 h) (fun u => RKp h u.2) := by
  intro k
  induction k with
  | zero => intros; exact pc_none
  | succ k ih =>
    intro l1 l2 l4 l5 l6 h S
    have F : RKp h h := rk_r
    unfold qw_X13_called_23
    refine pc_if (fun _ => ?_) (fun _ => ?_)
    · exact pc_imp (rk_qj_X13_called_110 G (rk_n S F)) (fun _ q => rk_t F q)
    · refine pc_if (fun _ => ?_) (fun _ => ?_)
      · exact pc_imp (rk_qj_X13_called_110 G (rk_n S F)) (fun _ q => rk_t F q)
      · refine pc_rA ?_; intro _ _ v16 _
        refine pc_sv (G.2.1 (rk_n S F)) ?_; intro u18 Qu18
        have Fu18 : RKp h u18.2 := rk_t F Qu18
        refine pc_if (fun _ => ?_) (fun _ => ?_)
        · exact pc_imp (rk_qj_X13_called_92 G (fun _ _ _ _ _ _ S => ih _ _ _ _ _ _ S) (rk_n S Fu18)) (fun _ q => rk_t Fu18 q)
        · refine pc_rA ?_; intro _ _ v20 _
          refine pc_if (fun _ => ?_) (fun _ => ?_)
          · exact pc_imp (rk_qj_X13_called_92 G (fun _ _ _ _ _ _ S => ih _ _ _ _ _ _ S) (rk_n S Fu18)) (fun _ q => rk_t Fu18 q)
          · refine pc_rA ?_; intro _ _ v23 _
            refine pc_xl ?_; intro v24 _
            refine pc_rA ?_; intro _ _ v25 _
            refine pc_se ?_; intro u27 _
            refine pc_if (fun _ => ?_) (fun _ => ?_)
            · exact pc_imp (rk_qj_X13_called_92 G (fun _ _ _ _ _ _ S => ih _ _ _ _ _ _ S) (rk_n S Fu18)) (fun _ q => rk_t Fu18 q)
            · exact pc_imp (rk_qj_X13_called_93 G (fun _ _ _ _ _ _ S => ih _ _ _ _ _ _ S) (rk_n S Fu18)) (fun _ q => rk_t Fu18 q)
theorem rk_qo_X13_called {rc : tq_X13_condition} {a1 : Int} {a2 : Int} {a3 : Int} (G : RKpG_X13_condition rc) {h : ms_M} (S : (0 ≤ h 160 57 ∧ h 160 57 ≤ 10000)) : Pc (qo_X13_called nn rc a1 a2 a3 h) (fun u => RKp h u.2) := by
  have F : RKp h h := rk_r
  unfold qo_X13_called
  refine pc_if (fun _ => ?_) (fun _ => ?_)
  · refine pc_rA ?_; intro _ _ v35 _
    exact pc_imp (rk_qw_X13_called_23 G _ _ _ _ _ _ _ (rk_n S F)) (fun _ q => rk_t F q)
  · exact pc_ret F
theorem rk_65 {rc : tq_X13_condition} (G : RKpG_X13_condition rc) {l1 l2 : Int} (l0 : 0 ≤ l2) : ∀ (k : Nat) (h : ms_M), l2 ≤ h 160 57 → h 160 57 ≤ 10000 → Pc (qw_X13_worked_65 nn rc k l1 l2 h) (fun u => u.2 160 57 = l2 ∧ ∀ j : Nat, (j : Int) < l2 → u.2 199 j = h 199 j) := by
  intro k
  induction k with
  | zero => intros; exact pc_none
  | succ k ih =>
    intro h hb h6
    unfold qw_X13_worked_65
    refine pc_if (fun z => ?_) (fun z => ?_)
    · refine pc_xl ?_; intro h2 e2
      have E : h2 160 57 = l2 ∧ ∀ j : Nat, (j : Int) < l2 → h2 199 j = h 199 j := ⟨by rw [e2, up_s], fun j _ => by rw [e2, up_n (by omega)]⟩
      refine pc_if (fun _ => ?_) (fun _ => pc_ret E)
      refine pc_rA ?_; intro _ _ v5 _
      exact pc_ret E
    · refine pc_sub (by omega) ?_; intro v8 e8
      refine pc_xl ?_; intro h9 e9
      have t9 : h9 160 57 = h 160 57 - 1 := by rw [e9, up_s]; exact e8
      have k9 : ∀ j : Nat, h9 199 j = h 199 j := fun j => by rw [e9, up_n (by omega)]
      refine pc_rA ?_; intro _ _ v12 _
      refine pc_if (fun f => ?_) (fun f => ?_)
      · refine pc_sv (G.2.2.2.1 (by omega)) ?_; intro u16 q16
        refine pc_wA ?_; intro _ _ h17 e17
        have t17 : h17 160 57 = h 160 57 - 1 := by rw [e17, up_n (by omega), q16.1]; exact t9
        refine pc_imp (ih h17 (by omega) (by omega)) (fun u q => ⟨q.1, fun j hj => ?_⟩)
        rw [q.2 j hj, e17, up_n (by omega), q16.2 j (by omega)]; exact k9 j
      · refine pc_wA ?_; intro _ _ h18 e18
        have t18 : h18 160 57 = h 160 57 - 1 := by rw [e18, up_n (by omega)]; exact t9
        refine pc_imp (ih h18 (by omega) (by omega)) (fun u q => ⟨q.1, fun j hj => ?_⟩)
        rw [q.2 j hj, e18, up_n (by omega)]; exact k9 j
theorem rk_16 {rc : tq_X13_condition} (G : RKpG_X13_condition rc) {l1 l2 : Int} (l0 : 0 ≤ l2) : ∀ (k : Nat) (a : Int) (h : ms_M), l2 ≤ h 160 57 → h 160 57 ≤ 10000 → Pc (qw_X13_worked_16 nn rc k l1 l2 a h) (fun u => u.2 160 57 = l2 ∧ ∀ j : Nat, (j : Int) < l2 → u.2 199 j = h 199 j) := by
  intro k
  induction k with
  | zero => intros; exact pc_none
  | succ k ih =>
    intro a h hb h6
    unfold qw_X13_worked_16
    refine pc_se ?_; intro u22 _
    refine pc_if (fun z => ?_) (fun z => ?_)
    · refine pc_sv (G.2.2.2.1 (by omega)) ?_; intro u25 q25
      refine pc_wA ?_; intro _ _ h26 e26
      have t26 : h26 160 57 = h 160 57 := by rw [e26, up_n (by omega), q25.1]
      refine pc_imp (rk_65 G l0 nn h26 (by omega) (by omega)) (fun u q => ⟨q.1, fun j hj => ?_⟩)
      rw [q.2 j hj, e26, up_n (by omega), q25.2 j (by omega)]
    · refine pc_wA ?_; intro b1 b2 h29 e29
      have t29 : h29 160 57 = h 160 57 := by rw [e29, up_n (by omega)]
      refine pc_add (by omega) ?_; intro v31 e31
      refine pc_xl ?_; intro h32 e32
      have t32 : h32 160 57 = h 160 57 + 1 := by rw [e32, up_s]; omega
      refine pc_rA ?_; intro _ _ v34 _
      refine pc_imp (ih v34 h32 (by omega) (by omega)) (fun u q => ⟨q.1, fun j hj => ?_⟩)
      rw [q.2 j hj, e32, up_n (by omega), e29, up_n (by omega)]
theorem rk_qo_X13_worked {rc : tq_X13_condition} (G : RKpG_X13_condition rc) {a1 : Int} {h : ms_M} (S : 0 ≤ h 160 57 ∧ h 160 57 ≤ 10000) : Pc (qo_X13_worked nn rc a1 h) (fun u => RKp h u.2) := by
  unfold qo_X13_worked
  refine pc_if (fun _ => ?_) (fun _ => pc_ret rk_r)
  exact rk_16 G S.1 nn _ h (by omega) S.2
theorem rkg_condition (nn : Nat) : ∀ d : Nat, RKpG_X13_condition (qg_X13_condition nn d) := by
  intro d
  induction d with
  | zero => exact ⟨fun _ => pc_none, fun _ => pc_none, fun _ => pc_none, fun _ => pc_none, fun _ => pc_none, fun _ => pc_none, fun _ => pc_none⟩
  | succ d ih => exact ⟨fun S => rk_qo_X13_condition ih S, fun S => rk_qo_X13_given ih S, fun S => rk_qo_X13_worked ih S, fun S => rk_qo_X13_rule ih S, fun S => rk_qo_X13_both ih S, fun S => rk_qo_X13_invoked ih S, fun S => rk_qo_X13_called ih S⟩
end
end
section
/- the making of an E that is led: its left side first -/
section
variable {nn : Nat} {h g u r m w : ms_M}
theorem mw_50 {rc : tq_X13_work} (HR : ∀ (e : Int) (h : ms_M), 0 ≤ h 160 57 ∧ h 160 57 ≤ 10000 → Pc (rc.2.1 e h) (fun u => RKp h u)) {Q R : ms_M → Prop} {l2 b : Int} (hR : ∀ z : ms_M, R z → ∀ k2 : Nat, Pc (qw_X13_work_50 nn rc k2 l2 z) Q) (lb : 0 ≤ l2 ∧ l2 ≤ b) : ∀ (k : Nat) (h : ms_M), b ≤ h 160 57 → h 160 57 ≤ 10000 → Pc (qw_X13_work_50 nn rc k b h) R → Pc (qw_X13_work_50 nn rc k l2 h) Q := by
  intro k
  induction k with
  | zero => intros; exact pc_none
  | succ k ih =>
    intro h hb h6 HA
    by_cases c : h 160 57 ≤ b
    · have R2 : ∀ k2 : Nat, Pc (qw_X13_work_50 nn rc k2 l2 h) Q := by
        unfold qw_X13_work_50 at HA
        exact hR _ (pi_p HA c _ rfl)
      exact R2 (k + 1)
    · unfold qw_X13_work_50 at HA ⊢
      have HA := pi_n HA c
      refine pc_if (fun z => absurd z (by omega)) (fun _ => ?_)
      have HA := pi_xl (pi_xl HA)
      refine pc_xl ?_; intro v8 e8
      refine pc_xl ?_; intro h9 e9
      rw [← e8, ← e9] at HA
      rw [oq_sub_eq (by omega) (by omega) (by omega)] at e8
      have t9 : h9 160 57 = h 160 57 - 1 := by rw [e9, up_s]; exact e8
      refine pc_rA ?_; intro a1 a2 v12 e12
      have HA := pi_rA HA a1 a2
      rw [← e12] at HA
      refine pc_se ?_; intro u16 e16
      have HA := pi_sv HA e16
      have K := HR v12 h9 (by omega) _ e16
      have t17 : u16 160 57 = h 160 57 - 1 := K.1.trans t9
      exact ih u16 (by omega) (by omega) HA
theorem mw_7 {rc : tq_X13_work} (HR : ∀ (e : Int) (h : ms_M), 0 ≤ h 160 57 ∧ h 160 57 ≤ 10000 → Pc (rc.2.1 e h) (fun u => RKp h u)) {Q R : ms_M → Prop} {l2 b : Int} (hR : ∀ z : ms_M, R z → ∀ k2 : Nat, Pc (qw_X13_work_50 nn rc k2 l2 z) Q) (lb : 0 ≤ l2 ∧ l2 ≤ b) : ∀ (f : Nat) (at_ : Int) (h : ms_M), b ≤ h 160 57 → h 160 57 ≤ 10000 → Pc (qw_X13_work_7 nn rc (f + 1) b at_ h) R → Pc (qw_X13_work_7 nn rc f l2 at_ h) Q := by
  intro f
  induction f with
  | zero => intros; exact pc_none
  | succ f ih =>
    intro at_ h hb h6 HA
    unfold qw_X13_work_7 at HA ⊢
    refine pc_se ?_; intro u22 e22
    have HA := pi_sv HA e22
    refine pc_if (fun z => ?_) (fun z => ?_)
    · have HA := pi_p HA z
      refine pc_se ?_; intro u25 e25
      have HA := pi_sv HA e25
      have K := HR at_ h (by omega) _ e25
      have t26 : u25 160 57 = h 160 57 := K.1
      exact mw_50 HR hR lb nn u25 (by omega) (by omega) HA
    · have HA := pi_n HA z
      refine pc_wA ?_; intro b1 b2 h29 e29
      have HA := pi_wA HA b1 b2
      rw [← e29] at HA
      have t29 : h29 160 57 = h 160 57 := by rw [e29, up_n (by omega)]
      have HA := pi_xl (pi_xl HA)
      refine pc_xl ?_; intro v31 e31
      refine pc_xl ?_; intro h32 e32
      rw [← e31, ← e32] at HA
      rw [oq_add_eq (by omega) (by omega) (by omega)] at e31
      have t32 : h32 160 57 = h 160 57 + 1 := by rw [e32, up_s]; omega
      refine pc_rA ?_; intro a1 a2 v34 e34
      have HA := pi_rA HA a1 a2
      rw [← e34] at HA
      exact ih v34 h32 (by omega) (by omega) HA
theorem mw_ldd {rc : tq_X13_work} (HR : ∀ (e : Int) (h : ms_M), 0 ≤ h 160 57 ∧ h 160 57 ≤ 10000 → Pc (rc.2.1 e h) (fun u => RKp h u)) {Q R : ms_M → Prop} {e top : Int} (hR : ∀ z : ms_M, R z → ∀ k2 : Nat, Pc (qw_X13_work_50 nn rc k2 top z) Q) (h57 : h 160 57 = top) (ht : 0 ≤ top ∧ top < 9000) (hl : Pc (qf_X13_isLedInWords nn e h) (fun u => ¬ u = 0)) (HA : ∀ g : ms_M, g = up_M (up_M h 199 top.toNat e) 160 57 (top + 1) → Pc (qo_X13_work nn rc (h 170 e.toNat) g) R) : Pc (qo_X13_work nn rc e h) Q := by
  unfold qo_X13_work
  rw [h57]
  cases nn with
  | zero => exact pc_none
  | succ f =>
    unfold qw_X13_work_7
    refine pc_sv hl ?_; intro u22 q22
    refine pc_if (fun z => absurd z q22) (fun _ => ?_)
    rw [h57]
    refine pc_wA ?_; intro _ _ h29 e29
    have t29 : h29 160 57 = top := by rw [e29, up_n (by omega)]; exact h57
    refine pc_add (by omega) ?_; intro v31 e31
    refine pc_xl ?_; intro h32 e32
    refine pc_rA ?_; intro _ _ v34 e34
    have ev : v34 = h 170 e.toNat := by rw [e34, e32, up_n (by omega), e29, up_n (by omega)]
    have G := HA h32 (by rw [e32, e29, e31, t29])
    have t32 : h32 160 57 = top + 1 := by rw [e32, up_s]; omega
    unfold qo_X13_work at G
    rw [t32] at G
    rw [ev]
    exact mw_7 HR hR (by omega) f _ h32 (by omega) (by omega) G
theorem mw_pop {rc : tq_X13_work} (HR : ∀ (e : Int) (h : ms_M), 0 ≤ h 160 57 ∧ h 160 57 ≤ 10000 → Pc (rc.2.1 e h) (fun u => RKp h u)) {Q : ms_M → Prop} {e top : Int} (ht : 0 ≤ top ∧ top < 9000) (g57 : g 160 57 = top + 1) (gr : g 199 top.toNat = e) (T : Pc (rc.2.1 e (up_M g 160 57 top)) Q) : ∀ k : Nat, Pc (qw_X13_work_50 nn rc k top g) Q := by
  intro k
  cases k with
  | zero => exact pc_none
  | succ k =>
    unfold qw_X13_work_50
    refine pc_if (fun y => absurd y (by omega)) (fun _ => ?_)
    refine pc_sub (by omega) ?_; intro v8 e8
    refine pc_xl ?_; intro h9 e9
    rw [show v8 = top by omega] at e9
    have t9 : h9 160 57 = top := by rw [e9, up_s]
    refine pc_rA ?_; intro _ _ v12 e12
    rw [t9, e9, up_n (by omega), gr] at e12
    rw [e12]
    rw [← e9] at T
    refine pc_se ?_; intro u16 e16
    have K := HR e h9 (by omega) _ e16
    have q := T _ e16
    cases k with
    | zero => exact pc_none
    | succ k =>
      unfold qw_X13_work_50
      refine pc_if (fun _ => pc_ret q) (fun y => absurd (by rw [K.1, t9]; exact Int.le_refl _) y)
/-- an E that is not led -/
theorem mw_one {rc : tq_X13_work} (HR : ∀ (e : Int) (h : ms_M), 0 ≤ h 160 57 ∧ h 160 57 ≤ 10000 → Pc (rc.2.1 e h) (fun u => RKp h u)) {Q : ms_M → Prop} {e : Int} (b : 0 ≤ h 160 57 ∧ h 160 57 ≤ 10000) (hl : Pc (qf_X13_isLedInWords nn e h) (fun u => u = 0)) (T : Pc (rc.2.1 e h) Q) : Pc (qo_X13_work nn rc e h) Q := by
  unfold qo_X13_work
  cases nn with
  | zero => exact pc_none
  | succ f =>
    unfold qw_X13_work_7
    refine pc_sv hl ?_; intro u22 q22
    refine pc_if (fun _ => ?_) (fun z => absurd q22 z)
    refine pc_se ?_; intro u16 e16
    have K := HR e h b _ e16
    have q := T _ e16
    unfold qw_X13_work_50
    refine pc_if (fun _ => pc_ret q) (fun y => absurd (by rw [K.1]; exact Int.le_refl _) y)
end
end
section
/- the group of work keeps rowTop and the rows below it -/
section
variable {nn : Nat} {h g r : ms_M}
def RKpG_X13_work (rc : tq_X13_work) : Prop := (∀ {a1 : Int} {h : ms_M}, (0 ≤ h 160 57 ∧ h 160 57 ≤ 10000) → Pc (rc.1 a1 h) (fun u => RKp h u)) ∧ (∀ {a1 : Int} {h : ms_M}, (0 ≤ h 160 57 ∧ h 160 57 ≤ 10000) → Pc (rc.2.1 a1 h) (fun u => RKp h u)) ∧ (∀ {a1 : Int} {a2 : Int} {a3 : Int} {h : ms_M}, (0 ≤ h 160 57 ∧ h 160 57 ≤ 10000) → Pc (rc.2.2.1 a1 a2 a3 h) (fun u => RKp h u)) ∧ (∀ {a1 : Int} {h : ms_M}, (0 ≤ h 160 57 ∧ h 160 57 ≤ 10000) → Pc (rc.2.2.2 a1 h) (fun u => RKp h u))
theorem rk_qf_X13_classConstant {a1 : Int} {h : ms_M} (S : 0 ≤ h 160 57 ∧ h 160 57 ≤ 10000) : Pc (qf_X13_classConstant nn a1 h) (fun u => RKp h u.2) := fun u e => ⟨ff_X13_classConstant nn u e 160 57 rfl, fun j _ => ff_X13_classConstant nn u e 199 j (nw_ar rfl j)⟩
theorem rk_qf_X13_memberConstant {a1 : Int} {a2 : Int} {h : ms_M} (S : 0 ≤ h 160 57 ∧ h 160 57 ≤ 10000) : Pc (qf_X13_memberConstant nn a1 a2 h) (fun u => RKp h u.2) := fun u e => ⟨ff_X13_memberConstant nn u e 160 57 rfl, fun j _ => ff_X13_memberConstant nn u e 199 j (nw_ar rfl j)⟩
theorem rk_qf_X13_put {a1 : Int} {h : ms_M} (S : 0 ≤ h 160 57 ∧ h 160 57 ≤ 10000) : Pc (qf_X13_put nn a1 h) (fun u => RKp h u) := fun u e => ⟨ff_X13_put nn u e 160 57 rfl, fun j _ => ff_X13_put nn u e 199 j (nw_ar rfl j)⟩
theorem rk_qf_X13_push {a1 : Int} {h : ms_M} (S : 0 ≤ h 160 57 ∧ h 160 57 ≤ 10000) : Pc (qf_X13_push nn a1 h) (fun u => RKp h u) := fun u e => ⟨ff_X13_push nn u e 160 57 rfl, fun j _ => ff_X13_push nn u e 199 j (nw_ar rfl j)⟩
theorem rk_qf_X13_self {h : ms_M} (S : 0 ≤ h 160 57 ∧ h 160 57 ≤ 10000) : Pc (qf_X13_self nn h) (fun u => RKp h u) := fun u e => ⟨ff_X13_self nn u e 160 57 rfl, fun j _ => ff_X13_self nn u e 199 j (nw_ar rfl j)⟩
theorem rk_qf_X13_jump {a1 : Int} {a2 : Int} {h : ms_M} (S : 0 ≤ h 160 57 ∧ h 160 57 ≤ 10000) : Pc (qf_X13_jump nn a1 a2 h) (fun u => RKp h u) := fun u e => ⟨ff_X13_jump nn u e 160 57 rfl, fun j _ => ff_X13_jump nn u e 199 j (nw_ar rfl j)⟩
theorem rk_qf_X13_label {h : ms_M} (S : 0 ≤ h 160 57 ∧ h 160 57 ≤ 10000) : Pc (qf_X13_label nn h) (fun u => RKp h u.2) := fun u e => ⟨ff_X13_label nn u e 160 57 rfl, fun j _ => ff_X13_label nn u e 199 j (nw_ar rfl j)⟩
theorem rk_qf_X13_number {a1 : Int} {h : ms_M} (S : 0 ≤ h 160 57 ∧ h 160 57 ≤ 10000) : Pc (qf_X13_number nn a1 h) (fun u => RKp h u) := fun u e => ⟨ff_X13_number nn u e 160 57 rfl, fun j _ => ff_X13_number nn u e 199 j (nw_ar rfl j)⟩
theorem rk_qf_X13_stands {a1 : Int} {a2 : Int} {h : ms_M} (S : 0 ≤ h 160 57 ∧ h 160 57 ≤ 10000) : Pc (qf_X13_stands nn a1 a2 h) (fun u => RKp h u) := fun u e => ⟨ff_X13_stands nn u e 160 57 rfl, fun j _ => ff_X13_stands nn u e 199 j (nw_ar rfl j)⟩
theorem rk_qf_X13_truth {a1 : Int} {a2 : Int} {h : ms_M} (S : 0 ≤ h 160 57 ∧ h 160 57 ≤ 10000) : Pc (qf_X13_truth nn a1 a2 h) (fun u => RKp h u) := fun u e => ⟨ff_X13_truth nn u e 160 57 rfl, fun j _ => ff_X13_truth nn u e 199 j (nw_ar rfl j)⟩
theorem rk_qf_X13_turn {a1 : Int} {a2 : Int} {h : ms_M} (S : 0 ≤ h 160 57 ∧ h 160 57 ≤ 10000) : Pc (qf_X13_turn nn a1 a2 h) (fun u => RKp h u) := fun u e => ⟨ff_X13_turn nn u e 160 57 rfl, fun j _ => ff_X13_turn nn u e 199 j (nw_ar rfl j)⟩
theorem rk_qj_X13_workOne_775 {rc : tq_X13_work} (G : RKpG_X13_work rc) {h : ms_M} (S : (0 ≤ h 160 57 ∧ h 160 57 ≤ 10000)) : Pc (qj_X13_workOne_775 nn rc h) (fun u => RKp h u) := by
  have F : RKp h h := rk_r
  unfold qj_X13_workOne_775
  exact pc_ret F
theorem rk_qj_X13_workOne_630 {rc : tq_X13_work} {l1 : Int} {l2 : Int} {s0 : Int} (G : RKpG_X13_work rc) {h : ms_M} (S : (0 ≤ h 160 57 ∧ h 160 57 ≤ 10000)) : Pc (qj_X13_workOne_630 nn rc l1 l2 s0 h) (fun u => RKp h u) := by
  have F : RKp h h := rk_r
  unfold qj_X13_workOne_630
  refine pc_sv (rk_qf_X13_put (rk_n S F)) ?_; intro u2 Qu2
  have Fu2 : RKp h u2 := rk_t F Qu2
  refine pc_rA ?_; intro _ _ v4 _
  refine pc_sv (rk_qf_X13_classConstant (rk_n S Fu2)) ?_; intro u6 Qu6
  have Fu6 : RKp h u6.2 := rk_t Fu2 Qu6
  refine pc_sv (rk_qf_X13_put (rk_n S Fu6)) ?_; intro u8 Qu8
  have Fu8 : RKp h u8 := rk_t Fu6 Qu8
  refine pc_sv (rk_qf_X13_turn (rk_n S Fu8)) ?_; intro u10 Qu10
  have Fu10 : RKp h u10 := rk_t Fu8 Qu10
  exact pc_ret Fu10
theorem rk_qj_X13_workOne_609 {rc : tq_X13_work} {l1 : Int} {l2 : Int} (G : RKpG_X13_work rc) {h : ms_M} (S : (0 ≤ h 160 57 ∧ h 160 57 ≤ 10000)) : Pc (qj_X13_workOne_609 nn rc l1 l2 h) (fun u => RKp h u) := by
  have F : RKp h h := rk_r
  unfold qj_X13_workOne_609
  refine pc_rA ?_; intro _ _ v12 _
  refine pc_if (fun _ => ?_) (fun _ => ?_)
  · exact pc_imp (rk_qj_X13_workOne_630 G (rk_n S F)) (fun _ q => rk_t F q)
  · exact pc_imp (rk_qj_X13_workOne_630 G (rk_n S F)) (fun _ q => rk_t F q)
theorem rk_qj_X13_workOne_588 {rc : tq_X13_work} {l1 : Int} {l2 : Int} (G : RKpG_X13_work rc) {h : ms_M} (S : (0 ≤ h 160 57 ∧ h 160 57 ≤ 10000)) : Pc (qj_X13_workOne_588 nn rc l1 l2 h) (fun u => RKp h u) := by
  have F : RKp h h := rk_r
  unfold qj_X13_workOne_588
  refine pc_rA ?_; intro _ _ v15 _
  refine pc_if (fun _ => ?_) (fun _ => ?_)
  · exact pc_imp (rk_qj_X13_workOne_609 G (rk_n S F)) (fun _ q => rk_t F q)
  · refine pc_rA ?_; intro _ _ v17 _
    refine pc_sv (G.1 (rk_n S F)) ?_; intro u19 Qu19
    have Fu19 : RKp h u19 := rk_t F Qu19
    exact pc_imp (rk_qj_X13_workOne_609 G (rk_n S Fu19)) (fun _ q => rk_t Fu19 q)
theorem rk_qj_X13_workOne_508 {rc : tq_X13_work} {l2 : Int} {s0 : Int} (G : RKpG_X13_work rc) {h : ms_M} (S : (0 ≤ h 160 57 ∧ h 160 57 ≤ 10000)) : Pc (qj_X13_workOne_508 nn rc l2 s0 h) (fun u => RKp h u) := by
  have F : RKp h h := rk_r
  unfold qj_X13_workOne_508
  refine pc_sv (rk_qf_X13_put (rk_n S F)) ?_; intro u22 Qu22
  have Fu22 : RKp h u22 := rk_t F Qu22
  refine pc_sv (rk_qf_X13_turn (rk_n S Fu22)) ?_; intro u24 Qu24
  have Fu24 : RKp h u24 := rk_t Fu22 Qu24
  exact pc_ret Fu24
theorem rk_qj_X13_workOne_479 {rc : tq_X13_work} {l2 : Int} (G : RKpG_X13_work rc) {h : ms_M} (S : (0 ≤ h 160 57 ∧ h 160 57 ≤ 10000)) : Pc (qj_X13_workOne_479 nn rc l2 h) (fun u => RKp h u) := by
  have F : RKp h h := rk_r
  unfold qj_X13_workOne_479
  refine pc_sv (rk_qf_X13_turn (rk_n S F)) ?_; intro u26 Qu26
  have Fu26 : RKp h u26 := rk_t F Qu26
  exact pc_ret Fu26
theorem rk_qj_X13_workOne_316 {rc : tq_X13_work} {l1 : Int} {s0 : Int} {s1 : Int} (G : RKpG_X13_work rc) {h : ms_M} (S : (0 ≤ h 160 57 ∧ h 160 57 ≤ 10000)) : Pc (qj_X13_workOne_316 nn rc l1 s0 s1 h) (fun u => RKp h u) := by
  have F : RKp h h := rk_r
  unfold qj_X13_workOne_316
  refine pc_rA ?_; intro _ _ v28 _
  refine pc_if (fun _ => ?_) (fun _ => ?_)
  · refine pc_sv (G.2.2.1 (rk_n S F)) ?_; intro u30 Qu30
    have Fu30 : RKp h u30 := rk_t F Qu30
    exact pc_ret Fu30
  · refine pc_sv (G.2.2.1 (rk_n S F)) ?_; intro u32 Qu32
    have Fu32 : RKp h u32 := rk_t F Qu32
    exact pc_ret Fu32
theorem rk_qj_X13_workOne_268 {rc : tq_X13_work} {l1 : Int} {l3 : Int} (G : RKpG_X13_work rc) {h : ms_M} (S : (0 ≤ h 160 57 ∧ h 160 57 ≤ 10000)) : Pc (qj_X13_workOne_268 nn rc l1 l3 h) (fun u => RKp h u) := by
  have F : RKp h h := rk_r
  unfold qj_X13_workOne_268
  refine pc_sv (G.2.2.1 (rk_n S F)) ?_; intro u36 Qu36
  have Fu36 : RKp h u36 := rk_t F Qu36
  exact pc_ret Fu36
theorem rk_qj_X13_workOne_259 {rc : tq_X13_work} {l1 : Int} {s0 : Int} (G : RKpG_X13_work rc) {h : ms_M} (S : (0 ≤ h 160 57 ∧ h 160 57 ≤ 10000)) : Pc (qj_X13_workOne_259 nn rc l1 s0 h) (fun u => RKp h u) := by
  have F : RKp h h := rk_r
  unfold qj_X13_workOne_259
  refine pc_if (fun _ => ?_) (fun _ => ?_)
  · exact pc_imp (rk_qj_X13_workOne_268 G (rk_n S F)) (fun _ q => rk_t F q)
  · refine pc_sv (rk_qf_X13_self (rk_n S F)) ?_; intro u38 Qu38
    have Fu38 : RKp h u38 := rk_t F Qu38
    exact pc_imp (rk_qj_X13_workOne_268 G (rk_n S Fu38)) (fun _ q => rk_t Fu38 q)
theorem rk_qj_X13_workOne_184 {rc : tq_X13_work} {l1 : Int} {l2 : Int} {s0 : Int} (G : RKpG_X13_work rc) {h : ms_M} (S : (0 ≤ h 160 57 ∧ h 160 57 ≤ 10000)) : Pc (qj_X13_workOne_184 nn rc l1 l2 s0 h) (fun u => RKp h u) := by
  have F : RKp h h := rk_r
  unfold qj_X13_workOne_184
  refine pc_sv (rk_qf_X13_put (rk_n S F)) ?_; intro u41 Qu41
  have Fu41 : RKp h u41 := rk_t F Qu41
  refine pc_rA ?_; intro _ _ v43 _
  refine pc_sv (rk_qf_X13_put (rk_n S Fu41)) ?_; intro u45 Qu45
  have Fu45 : RKp h u45 := rk_t Fu41 Qu45
  refine pc_sv (rk_qf_X13_push (rk_n S Fu45)) ?_; intro u47 Qu47
  have Fu47 : RKp h u47 := rk_t Fu45 Qu47
  exact pc_ret Fu47
theorem rk_qj_X13_workOne_147 {rc : tq_X13_work} {l2 : Int} {s0 : Int} (G : RKpG_X13_work rc) {h : ms_M} (S : (0 ≤ h 160 57 ∧ h 160 57 ≤ 10000)) : Pc (qj_X13_workOne_147 nn rc l2 s0 h) (fun u => RKp h u) := by
  have F : RKp h h := rk_r
  unfold qj_X13_workOne_147
  refine pc_sv (rk_qf_X13_put (rk_n S F)) ?_; intro u49 Qu49
  have Fu49 : RKp h u49 := rk_t F Qu49
  refine pc_sv (rk_qf_X13_push (rk_n S Fu49)) ?_; intro u51 Qu51
  have Fu51 : RKp h u51 := rk_t Fu49 Qu51
  exact pc_ret Fu51
theorem rk_qj_X13_workOne_115 {rc : tq_X13_work} {l1 : Int} {l2 : Int} (G : RKpG_X13_work rc) {h : ms_M} (S : (0 ≤ h 160 57 ∧ h 160 57 ≤ 10000)) : Pc (qj_X13_workOne_115 nn rc l1 l2 h) (fun u => RKp h u) := by
  have F : RKp h h := rk_r
  unfold qj_X13_workOne_115
  refine pc_rA ?_; intro _ _ v53 _
  refine pc_if (fun _ => ?_) (fun _ => ?_)
  · refine pc_rA ?_; intro _ _ v55 _
    refine pc_if (fun _ => ?_) (fun _ => ?_)
    · exact pc_imp (rk_qj_X13_workOne_147 G (rk_n S F)) (fun _ q => rk_t F q)
    · exact pc_imp (rk_qj_X13_workOne_147 G (rk_n S F)) (fun _ q => rk_t F q)
  · exact pc_imp (rk_qj_X13_workOne_147 G (rk_n S F)) (fun _ q => rk_t F q)
theorem rk_qo_X13_workOne {rc : tq_X13_work} {a1 : Int} (G : RKpG_X13_work rc) {h : ms_M} (S : (0 ≤ h 160 57 ∧ h 160 57 ≤ 10000)) : Pc (qo_X13_workOne nn rc a1 h) (fun u => RKp h u) := by
  have F : RKp h h := rk_r
  unfold qo_X13_workOne
  refine pc_rA ?_; intro _ _ v59 _
  refine pc_rA ?_; intro _ _ v61 _
  refine pc_if (fun _ => ?_) (fun _ => ?_)
  · refine pc_rA ?_; intro _ _ v100 _
    refine pc_sv (rk_qf_X13_number (rk_n S F)) ?_; intro u102 Qu102
    have Fu102 : RKp h u102 := rk_t F Qu102
    exact pc_ret Fu102
  · refine pc_if (fun _ => ?_) (fun _ => ?_)
    · exact pc_imp (rk_qj_X13_workOne_115 G (rk_n S F)) (fun _ q => rk_t F q)
    · refine pc_if (fun _ => ?_) (fun _ => ?_)
      · exact pc_imp (rk_qj_X13_workOne_115 G (rk_n S F)) (fun _ q => rk_t F q)
      · refine pc_if (fun _ => ?_) (fun _ => ?_)
        · exact pc_imp (rk_qj_X13_workOne_115 G (rk_n S F)) (fun _ q => rk_t F q)
        · refine pc_if (fun _ => ?_) (fun _ => ?_)
          · refine pc_sv (rk_qf_X13_self (rk_n S F)) ?_; intro u104 Qu104
            have Fu104 : RKp h u104 := rk_t F Qu104
            exact pc_ret Fu104
          · refine pc_if (fun _ => ?_) (fun _ => ?_)
            · refine pc_rA ?_; intro _ _ v106 _
              refine pc_if (fun _ => ?_) (fun _ => ?_)
              · refine pc_sv (rk_qf_X13_self (rk_n S F)) ?_; intro u108 Qu108
                have Fu108 : RKp h u108 := rk_t F Qu108
                refine pc_sv (rk_qf_X13_put (rk_n S Fu108)) ?_; intro u110 Qu110
                have Fu110 : RKp h u110 := rk_t Fu108 Qu110
                refine pc_rA ?_; intro _ _ v113 _
                refine pc_sv (rk_qf_X13_memberConstant (rk_n S Fu110)) ?_; intro u115 Qu115
                have Fu115 : RKp h u115.2 := rk_t Fu110 Qu115
                refine pc_sv (rk_qf_X13_put (rk_n S Fu115)) ?_; intro u117 Qu117
                have Fu117 : RKp h u117 := rk_t Fu115 Qu117
                refine pc_sv (rk_qf_X13_turn (rk_n S Fu117)) ?_; intro u119 Qu119
                have Fu119 : RKp h u119 := rk_t Fu117 Qu119
                exact pc_ret Fu119
              · refine pc_if (fun _ => ?_) (fun _ => ?_)
                · exact pc_imp (rk_qj_X13_workOne_184 G (rk_n S F)) (fun _ q => rk_t F q)
                · exact pc_imp (rk_qj_X13_workOne_184 G (rk_n S F)) (fun _ q => rk_t F q)
            · refine pc_if (fun _ => ?_) (fun _ => ?_)
              · refine pc_rA ?_; intro _ _ v124 _
                refine pc_rA ?_; intro _ _ v125 _
                refine pc_if (fun _ => ?_) (fun _ => ?_)
                · exact pc_imp (rk_qj_X13_workOne_259 G (rk_n S F)) (fun _ q => rk_t F q)
                · exact pc_imp (rk_qj_X13_workOne_259 G (rk_n S F)) (fun _ q => rk_t F q)
              · refine pc_if (fun _ => ?_) (fun _ => ?_)
                · refine pc_sv (rk_qf_X13_put (rk_n S F)) ?_; intro u128 Qu128
                  have Fu128 : RKp h u128 := rk_t F Qu128
                  refine pc_sv (rk_qf_X13_classConstant (rk_n S Fu128)) ?_; intro u130 Qu130
                  have Fu130 : RKp h u130.2 := rk_t Fu128 Qu130
                  refine pc_sv (rk_qf_X13_put (rk_n S Fu130)) ?_; intro u132 Qu132
                  have Fu132 : RKp h u132 := rk_t Fu130 Qu132
                  refine pc_sv (rk_qf_X13_push (rk_n S Fu132)) ?_; intro u134 Qu134
                  have Fu134 : RKp h u134 := rk_t Fu132 Qu134
                  exact pc_ret Fu134
                · refine pc_if (fun _ => ?_) (fun _ => ?_)
                  · refine pc_rA ?_; intro _ _ v136 _
                    refine pc_sv (G.1 (rk_n S F)) ?_; intro u138 Qu138
                    have Fu138 : RKp h u138 := rk_t F Qu138
                    refine pc_sv (rk_qf_X13_put (rk_n S Fu138)) ?_; intro u140 Qu140
                    have Fu140 : RKp h u140 := rk_t Fu138 Qu140
                    refine pc_sv (rk_qf_X13_put (rk_n S Fu140)) ?_; intro u142 Qu142
                    have Fu142 : RKp h u142 := rk_t Fu140 Qu142
                    refine pc_sv (rk_qf_X13_turn (rk_n S Fu142)) ?_; intro u144 Qu144
                    have Fu144 : RKp h u144 := rk_t Fu142 Qu144
                    exact pc_ret Fu144
                  · refine pc_if (fun _ => ?_) (fun _ => ?_)
                    · refine pc_rA ?_; intro _ _ v146 _
                      refine pc_sv (G.1 (rk_n S F)) ?_; intro u148 Qu148
                      have Fu148 : RKp h u148 := rk_t F Qu148
                      refine pc_sv (rk_qf_X13_put (rk_n S Fu148)) ?_; intro u150 Qu150
                      have Fu150 : RKp h u150 := rk_t Fu148 Qu150
                      refine pc_xl ?_; intro v151 _
                      refine pc_sv (rk_qf_X13_classConstant (rk_n S Fu150)) ?_; intro u153 Qu153
                      have Fu153 : RKp h u153.2 := rk_t Fu150 Qu153
                      refine pc_sv (rk_qf_X13_put (rk_n S Fu153)) ?_; intro u155 Qu155
                      have Fu155 : RKp h u155 := rk_t Fu153 Qu155
                      refine pc_sv (rk_qf_X13_turn (rk_n S Fu155)) ?_; intro u157 Qu157
                      have Fu157 : RKp h u157 := rk_t Fu155 Qu157
                      exact pc_ret Fu157
                    · refine pc_if (fun _ => ?_) (fun _ => ?_)
                      · refine pc_rA ?_; intro _ _ v159 _
                        refine pc_if (fun _ => ?_) (fun _ => ?_)
                        · refine pc_sv (rk_qf_X13_put (rk_n S F)) ?_; intro u161 Qu161
                          have Fu161 : RKp h u161 := rk_t F Qu161
                          refine pc_rA ?_; intro _ _ v164 _
                          refine pc_rA ?_; intro _ _ v165 _
                          refine pc_xl ?_; intro v166 _
                          refine pc_xl ?_; intro v167 _
                          refine pc_rA ?_; intro _ _ v169 _
                          refine pc_sv (rk_qf_X13_memberConstant (rk_n S Fu161)) ?_; intro u171 Qu171
                          have Fu171 : RKp h u171.2 := rk_t Fu161 Qu171
                          refine pc_sv (rk_qf_X13_put (rk_n S Fu171)) ?_; intro u173 Qu173
                          have Fu173 : RKp h u173 := rk_t Fu171 Qu173
                          exact pc_imp (rk_qj_X13_workOne_479 G (rk_n S Fu173)) (fun _ q => rk_t Fu173 q)
                        · refine pc_sv (rk_qf_X13_put (rk_n S F)) ?_; intro u175 Qu175
                          have Fu175 : RKp h u175 := rk_t F Qu175
                          exact pc_imp (rk_qj_X13_workOne_479 G (rk_n S Fu175)) (fun _ q => rk_t Fu175 q)
                      · refine pc_if (fun _ => ?_) (fun _ => ?_)
                        · refine pc_rA ?_; intro _ _ v178 _
                          refine pc_if (fun _ => ?_) (fun _ => ?_)
                          · refine pc_rA ?_; intro _ _ v180 _
                            exact pc_imp (rk_qj_X13_workOne_316 G (rk_n S F)) (fun _ q => rk_t F q)
                          · refine pc_rA ?_; intro _ _ v183 _
                            refine pc_rA ?_; intro _ _ v184 _
                            refine pc_xl ?_; intro v185 _
                            refine pc_xl ?_; intro v186 _
                            exact pc_imp (rk_qj_X13_workOne_316 G (rk_n S F)) (fun _ q => rk_t F q)
                        · refine pc_if (fun _ => ?_) (fun _ => ?_)
                          · refine pc_rA ?_; intro _ _ v189 _
                            refine pc_sv (G.1 (rk_n S F)) ?_; intro u191 Qu191
                            have Fu191 : RKp h u191 := rk_t F Qu191
                            refine pc_if (fun _ => ?_) (fun _ => ?_)
                            · exact pc_imp (rk_qj_X13_workOne_508 G (rk_n S Fu191)) (fun _ q => rk_t Fu191 q)
                            · exact pc_imp (rk_qj_X13_workOne_508 G (rk_n S Fu191)) (fun _ q => rk_t Fu191 q)
                          · refine pc_if (fun _ => ?_) (fun _ => ?_)
                            · refine pc_rA ?_; intro _ _ v194 _
                              refine pc_sv (G.1 (rk_n S F)) ?_; intro u196 Qu196
                              have Fu196 : RKp h u196 := rk_t F Qu196
                              refine pc_sv (rk_qf_X13_put (rk_n S Fu196)) ?_; intro u198 Qu198
                              have Fu198 : RKp h u198 := rk_t Fu196 Qu198
                              exact pc_ret Fu198
                            · refine pc_if (fun _ => ?_) (fun _ => ?_)
                              · refine pc_rA ?_; intro _ _ v200 _
                                refine pc_sv (G.1 (rk_n S F)) ?_; intro u202 Qu202
                                have Fu202 : RKp h u202 := rk_t F Qu202
                                refine pc_sv (rk_qf_X13_truth (rk_n S Fu202)) ?_; intro u204 Qu204
                                have Fu204 : RKp h u204 := rk_t Fu202 Qu204
                                exact pc_ret Fu204
                              · refine pc_if (fun _ => ?_) (fun _ => ?_)
                                · refine pc_rA ?_; intro _ _ v206 _
                                  refine pc_sv (G.1 (rk_n S F)) ?_; intro u208 Qu208
                                  have Fu208 : RKp h u208 := rk_t F Qu208
                                  refine pc_sv (rk_qf_X13_put (rk_n S Fu208)) ?_; intro u210 Qu210
                                  have Fu210 : RKp h u210 := rk_t Fu208 Qu210
                                  refine pc_sv (rk_qf_X13_push (rk_n S Fu210)) ?_; intro u212 Qu212
                                  have Fu212 : RKp h u212 := rk_t Fu210 Qu212
                                  refine pc_sv (rk_qf_X13_put (rk_n S Fu212)) ?_; intro u214 Qu214
                                  have Fu214 : RKp h u214 := rk_t Fu212 Qu214
                                  refine pc_sv (rk_qf_X13_turn (rk_n S Fu214)) ?_; intro u216 Qu216
                                  have Fu216 : RKp h u216 := rk_t Fu214 Qu216
                                  exact pc_ret Fu216
                                · refine pc_if (fun _ => ?_) (fun _ => ?_)
                                  · exact pc_imp (rk_qj_X13_workOne_588 G (rk_n S F)) (fun _ q => rk_t F q)
                                  · refine pc_if (fun _ => ?_) (fun _ => ?_)
                                    · refine pc_sv (G.2.2.2 (rk_n S F)) ?_; intro u218 Qu218
                                      have Fu218 : RKp h u218 := rk_t F Qu218
                                      exact pc_ret Fu218
                                    · refine pc_if (fun _ => ?_) (fun _ => ?_)
                                      · exact pc_imp (rk_qj_X13_workOne_588 G (rk_n S F)) (fun _ q => rk_t F q)
                                      · refine pc_sv (rk_qf_X13_label (rk_n S F)) ?_; intro u63 Qu63
                                        have Fu63 : RKp h u63.2 := rk_t F Qu63
                                        refine pc_sv (rk_qf_X13_label (rk_n S Fu63)) ?_; intro u65 Qu65
                                        have Fu65 : RKp h u65.2 := rk_t Fu63 Qu65
                                        refine pc_rA ?_; intro _ _ v67 _
                                        refine pc_sv (G.1 (rk_n S Fu65)) ?_; intro u69 Qu69
                                        have Fu69 : RKp h u69 := rk_t Fu65 Qu69
                                        refine pc_xl ?_; intro v71 _
                                        refine pc_xl ?_; intro h72 Eh72
                                        have Fh72 : RKp h h72 := by rw [Eh72]; exact rk_u Fu69 (by omega)
                                        refine pc_sv (rk_qf_X13_jump (rk_n S Fh72)) ?_; intro u74 Qu74
                                        have Fu74 : RKp h u74 := rk_t Fh72 Qu74
                                        refine pc_rA ?_; intro _ _ v76 _
                                        refine pc_sv (G.1 (rk_n S Fu74)) ?_; intro u78 Qu78
                                        have Fu78 : RKp h u78 := rk_t Fu74 Qu78
                                        refine pc_xl ?_; intro v80 _
                                        refine pc_xl ?_; intro h81 Eh81
                                        have Fh81 : RKp h h81 := by rw [Eh81]; exact rk_u Fu78 (by omega)
                                        refine pc_sv (rk_qf_X13_jump (rk_n S Fh81)) ?_; intro u83 Qu83
                                        have Fu83 : RKp h u83 := rk_t Fh81 Qu83
                                        refine pc_sv (rk_qf_X13_stands (rk_n S Fu83)) ?_; intro u86 Qu86
                                        have Fu86 : RKp h u86 := rk_t Fu83 Qu86
                                        refine pc_rA ?_; intro _ _ v88 _
                                        refine pc_sv (G.1 (rk_n S Fu86)) ?_; intro u90 Qu90
                                        have Fu90 : RKp h u90 := rk_t Fu86 Qu90
                                        refine pc_xl ?_; intro v92 _
                                        refine pc_xl ?_; intro h93 Eh93
                                        have Fh93 : RKp h h93 := by rw [Eh93]; exact rk_u Fu90 (by omega)
                                        refine pc_sv (rk_qf_X13_push (rk_n S Fh93)) ?_; intro u95 Qu95
                                        have Fu95 : RKp h u95 := rk_t Fh93 Qu95
                                        refine pc_sv (rk_qf_X13_stands (rk_n S Fu95)) ?_; intro u98 Qu98
                                        have Fu98 : RKp h u98 := rk_t Fu95 Qu98
                                        exact pc_imp (rk_qj_X13_workOne_775 G (rk_n S Fu98)) (fun _ q => rk_t Fu98 q)
theorem rk_qj_X13_workCall_65 {rc : tq_X13_work} {l1 : Int} {l2 : Int} {l4 : Int} {s0 : Int} (G : RKpG_X13_work rc) {h : ms_M} (S : (0 ≤ h 160 57 ∧ h 160 57 ≤ 10000)) : Pc (qj_X13_workCall_65 nn rc l1 l2 l4 s0 h) (fun u => RKp h u) := by
  have F : RKp h h := rk_r
  unfold qj_X13_workCall_65
  refine pc_sv (rk_qf_X13_put (rk_n S F)) ?_; intro u2 Qu2
  have Fu2 : RKp h u2 := rk_t F Qu2
  refine pc_rA ?_; intro _ _ v4 _
  refine pc_sv (rk_qf_X13_memberConstant (rk_n S Fu2)) ?_; intro u6 Qu6
  have Fu6 : RKp h u6.2 := rk_t Fu2 Qu6
  refine pc_sv (rk_qf_X13_put (rk_n S Fu6)) ?_; intro u8 Qu8
  have Fu8 : RKp h u8 := rk_t Fu6 Qu8
  refine pc_rA ?_; intro _ _ v10 _
  refine pc_sv (rk_qf_X13_turn (rk_n S Fu8)) ?_; intro u12 Qu12
  have Fu12 : RKp h u12 := rk_t Fu8 Qu12
  exact pc_ret Fu12
theorem rk_qw_X13_workCall_19 {rc : tq_X13_work} (G : RKpG_X13_work rc) : ∀ (k : Nat) (l1 : Int) (l2 : Int) (l3 : Int) (l4 : Int) (l5 : Int) (h : ms_M), (0 ≤ h 160 57 ∧ h 160 57 ≤ 10000) → Pc (qw_X13_workCall_19 nn rc k l1 l2 l3 l4 l5 h) (fun u => RKp h u) := by
  intro k
  induction k with
  | zero => intros; exact pc_none
  | succ k ih =>
    intro l1 l2 l3 l4 l5 h S
    have F : RKp h h := rk_r
    unfold qw_X13_workCall_19
    refine pc_if (fun _ => ?_) (fun _ => ?_)
    · refine pc_if (fun _ => ?_) (fun _ => ?_)
      · exact pc_imp (rk_qj_X13_workCall_65 G (rk_n S F)) (fun _ q => rk_t F q)
      · exact pc_imp (rk_qj_X13_workCall_65 G (rk_n S F)) (fun _ q => rk_t F q)
    · refine pc_rA ?_; intro _ _ v15 _
      refine pc_sv (G.1 (rk_n S F)) ?_; intro u17 Qu17
      have Fu17 : RKp h u17 := rk_t F Qu17
      refine pc_xl ?_; intro v18 _
      refine pc_rA ?_; intro _ _ v20 _
      exact pc_imp (ih _ _ _ _ _ _ (rk_n S Fu17)) (fun _ q => rk_t Fu17 q)
theorem rk_qj_X13_workCall_9 {rc : tq_X13_work} {l1 : Int} {l2 : Int} {l3 : Int} {s0 : Int} (G : RKpG_X13_work rc) {h : ms_M} (S : (0 ≤ h 160 57 ∧ h 160 57 ≤ 10000)) : Pc (qj_X13_workCall_9 nn rc l1 l2 l3 s0 h) (fun u => RKp h u) := by
  have F : RKp h h := rk_r
  unfold qj_X13_workCall_9
  refine pc_rA ?_; intro _ _ v23 _
  exact pc_imp (rk_qw_X13_workCall_19 G _ _ _ _ _ _ _ (rk_n S F)) (fun _ q => rk_t F q)
theorem rk_qo_X13_workCall {rc : tq_X13_work} {a1 : Int} {a2 : Int} {a3 : Int} (G : RKpG_X13_work rc) {h : ms_M} (S : (0 ≤ h 160 57 ∧ h 160 57 ≤ 10000)) : Pc (qo_X13_workCall nn rc a1 a2 a3 h) (fun u => RKp h u) := by
  have F : RKp h h := rk_r
  unfold qo_X13_workCall
  refine pc_if (fun _ => ?_) (fun _ => ?_)
  · exact pc_imp (rk_qj_X13_workCall_9 G (rk_n S F)) (fun _ q => rk_t F q)
  · exact pc_imp (rk_qj_X13_workCall_9 G (rk_n S F)) (fun _ q => rk_t F q)
theorem rk_qj_X13_workBoth_315 {rc : tq_X13_work} {s0 : Int} (G : RKpG_X13_work rc) {h : ms_M} (S : (0 ≤ h 160 57 ∧ h 160 57 ≤ 10000)) : Pc (qj_X13_workBoth_315 nn rc s0 h) (fun u => RKp h u) := by
  have F : RKp h h := rk_r
  unfold qj_X13_workBoth_315
  refine pc_sv (rk_qf_X13_truth (rk_n S F)) ?_; intro u2 Qu2
  have Fu2 : RKp h u2 := rk_t F Qu2
  exact pc_ret Fu2
theorem rk_qj_X13_workBoth_210 {rc : tq_X13_work} {l2 : Int} {s0 : Int} (G : RKpG_X13_work rc) {h : ms_M} (S : (0 ≤ h 160 57 ∧ h 160 57 ≤ 10000)) : Pc (qj_X13_workBoth_210 nn rc l2 s0 h) (fun u => RKp h u) := by
  have F : RKp h h := rk_r
  unfold qj_X13_workBoth_210
  refine pc_se ?_; intro u3 _
  refine pc_if (fun _ => ?_) (fun _ => ?_)
  · refine pc_se ?_; intro u4 _
    refine pc_if (fun _ => ?_) (fun _ => ?_)
    · refine pc_if (fun _ => ?_) (fun _ => ?_)
      · refine pc_se ?_; intro u5 _
        refine pc_if (fun _ => ?_) (fun _ => ?_)
        · refine pc_if (fun _ => ?_) (fun _ => ?_)
          · exact pc_imp (rk_qj_X13_workBoth_315 G (rk_n S F)) (fun _ q => rk_t F q)
          · exact pc_imp (rk_qj_X13_workBoth_315 G (rk_n S F)) (fun _ q => rk_t F q)
        · exact pc_imp (rk_qj_X13_workBoth_315 G (rk_n S F)) (fun _ q => rk_t F q)
      · exact pc_imp (rk_qj_X13_workBoth_315 G (rk_n S F)) (fun _ q => rk_t F q)
    · refine pc_if (fun _ => ?_) (fun _ => ?_)
      · exact pc_imp (rk_qj_X13_workBoth_315 G (rk_n S F)) (fun _ q => rk_t F q)
      · exact pc_imp (rk_qj_X13_workBoth_315 G (rk_n S F)) (fun _ q => rk_t F q)
  · refine pc_if (fun _ => ?_) (fun _ => ?_)
    · exact pc_imp (rk_qj_X13_workBoth_315 G (rk_n S F)) (fun _ q => rk_t F q)
    · exact pc_imp (rk_qj_X13_workBoth_315 G (rk_n S F)) (fun _ q => rk_t F q)
theorem rk_qj_X13_workBoth_190 {rc : tq_X13_work} {l1 : Int} {l2 : Int} (G : RKpG_X13_work rc) {h : ms_M} (S : (0 ≤ h 160 57 ∧ h 160 57 ≤ 10000)) : Pc (qj_X13_workBoth_190 nn rc l1 l2 h) (fun u => RKp h u) := by
  have F : RKp h h := rk_r
  unfold qj_X13_workBoth_190
  refine pc_rA ?_; intro _ _ v15 _
  refine pc_rA ?_; intro _ _ v16 _
  refine pc_if (fun _ => ?_) (fun _ => ?_)
  · exact pc_imp (rk_qj_X13_workBoth_210 G (rk_n S F)) (fun _ q => rk_t F q)
  · exact pc_imp (rk_qj_X13_workBoth_210 G (rk_n S F)) (fun _ q => rk_t F q)
theorem rk_qj_X13_workBoth_136 {rc : tq_X13_work} {l5 : Int} {s0 : Int} (G : RKpG_X13_work rc) {h : ms_M} (S : (0 ≤ h 160 57 ∧ h 160 57 ≤ 10000)) : Pc (qj_X13_workBoth_136 nn rc l5 s0 h) (fun u => RKp h u) := by
  have F : RKp h h := rk_r
  unfold qj_X13_workBoth_136
  refine pc_sv (rk_qf_X13_put (rk_n S F)) ?_; intro u19 Qu19
  have Fu19 : RKp h u19 := rk_t F Qu19
  refine pc_sv (rk_qf_X13_push (rk_n S Fu19)) ?_; intro u21 Qu21
  have Fu21 : RKp h u21 := rk_t Fu19 Qu21
  refine pc_sv (rk_qf_X13_stands (rk_n S Fu21)) ?_; intro u24 Qu24
  have Fu24 : RKp h u24 := rk_t Fu21 Qu24
  exact pc_ret Fu24
theorem rk_qj_X13_workBoth_82 {rc : tq_X13_work} {l1 : Int} {l3 : Int} {l4 : Int} {l5 : Int} {s0 : Int} (G : RKpG_X13_work rc) {h : ms_M} (S : (0 ≤ h 160 57 ∧ h 160 57 ≤ 10000)) : Pc (qj_X13_workBoth_82 nn rc l1 l3 l4 l5 s0 h) (fun u => RKp h u) := by
  have F : RKp h h := rk_r
  unfold qj_X13_workBoth_82
  refine pc_sv (rk_qf_X13_jump (rk_n S F)) ?_; intro u26 Qu26
  have Fu26 : RKp h u26 := rk_t F Qu26
  refine pc_rA ?_; intro _ _ v28 _
  refine pc_sv (G.1 (rk_n S Fu26)) ?_; intro u30 Qu30
  have Fu30 : RKp h u30 := rk_t Fu26 Qu30
  refine pc_xl ?_; intro v32 _
  refine pc_xl ?_; intro h33 Eh33
  have Fh33 : RKp h h33 := by rw [Eh33]; exact rk_u Fu30 (by omega)
  refine pc_sv (rk_qf_X13_jump (rk_n S Fh33)) ?_; intro u35 Qu35
  have Fu35 : RKp h u35 := rk_t Fh33 Qu35
  refine pc_sv (rk_qf_X13_stands (rk_n S Fu35)) ?_; intro u38 Qu38
  have Fu38 : RKp h u38 := rk_t Fu35 Qu38
  refine pc_if (fun _ => ?_) (fun _ => ?_)
  · exact pc_imp (rk_qj_X13_workBoth_136 G (rk_n S Fu38)) (fun _ q => rk_t Fu38 q)
  · exact pc_imp (rk_qj_X13_workBoth_136 G (rk_n S Fu38)) (fun _ q => rk_t Fu38 q)
theorem rk_qj_X13_workBoth_46 {rc : tq_X13_work} {l1 : Int} {l3 : Int} (G : RKpG_X13_work rc) {h : ms_M} (S : (0 ≤ h 160 57 ∧ h 160 57 ≤ 10000)) : Pc (qj_X13_workBoth_46 nn rc l1 l3 h) (fun u => RKp h u) := by
  have F : RKp h h := rk_r
  unfold qj_X13_workBoth_46
  refine pc_sv (rk_qf_X13_label (rk_n S F)) ?_; intro u41 Qu41
  have Fu41 : RKp h u41.2 := rk_t F Qu41
  refine pc_sv (rk_qf_X13_label (rk_n S Fu41)) ?_; intro u43 Qu43
  have Fu43 : RKp h u43.2 := rk_t Fu41 Qu43
  refine pc_xl ?_; intro v45 _
  refine pc_xl ?_; intro h46 Eh46
  have Fh46 : RKp h h46 := by rw [Eh46]; exact rk_u Fu43 (by omega)
  refine pc_if (fun _ => ?_) (fun _ => ?_)
  · exact pc_imp (rk_qj_X13_workBoth_82 G (rk_n S Fh46)) (fun _ q => rk_t Fh46 q)
  · exact pc_imp (rk_qj_X13_workBoth_82 G (rk_n S Fh46)) (fun _ q => rk_t Fh46 q)
theorem rk_qj_X13_workBoth_29 {rc : tq_X13_work} {l1 : Int} {l2 : Int} {s0 : Int} (G : RKpG_X13_work rc) {h : ms_M} (S : (0 ≤ h 160 57 ∧ h 160 57 ≤ 10000)) : Pc (qj_X13_workBoth_29 nn rc l1 l2 s0 h) (fun u => RKp h u) := by
  have F : RKp h h := rk_r
  unfold qj_X13_workBoth_29
  refine pc_if (fun _ => ?_) (fun _ => ?_)
  · exact pc_imp (rk_qj_X13_workBoth_46 G (rk_n S F)) (fun _ q => rk_t F q)
  · refine pc_se ?_; intro u48 _
    refine pc_if (fun _ => ?_) (fun _ => ?_)
    · refine pc_rA ?_; intro _ _ v50 _
      refine pc_sv (G.1 (rk_n S F)) ?_; intro u52 Qu52
      have Fu52 : RKp h u52 := rk_t F Qu52
      refine pc_rA ?_; intro _ _ v54 _
      refine pc_se ?_; intro u56 _
      refine pc_if (fun _ => ?_) (fun _ => ?_)
      · exact pc_imp (rk_qj_X13_workBoth_190 G (rk_n S Fu52)) (fun _ q => rk_t Fu52 q)
      · refine pc_if (fun _ => ?_) (fun _ => ?_)
        · refine pc_se ?_; intro u57 _
          refine pc_sv (rk_qf_X13_put (rk_n S Fu52)) ?_; intro u59 Qu59
          have Fu59 : RKp h u59 := rk_t Fu52 Qu59
          refine pc_rA ?_; intro _ _ v61 _
          refine pc_sv (rk_qf_X13_turn (rk_n S Fu59)) ?_; intro u63 Qu63
          have Fu63 : RKp h u63 := rk_t Fu59 Qu63
          exact pc_ret Fu63
        · exact pc_imp (rk_qj_X13_workBoth_190 G (rk_n S Fu52)) (fun _ q => rk_t Fu52 q)
    · exact pc_imp (rk_qj_X13_workBoth_46 G (rk_n S F)) (fun _ q => rk_t F q)
theorem rk_qo_X13_workBoth {rc : tq_X13_work} {a1 : Int} (G : RKpG_X13_work rc) {h : ms_M} (S : (0 ≤ h 160 57 ∧ h 160 57 ≤ 10000)) : Pc (qo_X13_workBoth nn rc a1 h) (fun u => RKp h u) := by
  have F : RKp h h := rk_r
  unfold qo_X13_workBoth
  refine pc_rA ?_; intro _ _ v70 _
  refine pc_rA ?_; intro _ _ v71 _
  refine pc_se ?_; intro u72 _
  refine pc_if (fun _ => ?_) (fun _ => ?_)
  · exact pc_imp (rk_qj_X13_workBoth_29 G (rk_n S F)) (fun _ q => rk_t F q)
  · exact pc_imp (rk_qj_X13_workBoth_29 G (rk_n S F)) (fun _ q => rk_t F q)
theorem rk_50 {rc : tq_X13_work} (G : RKpG_X13_work rc) {l2 : Int} (l0 : 0 ≤ l2) : ∀ (k : Nat) (h : ms_M), l2 ≤ h 160 57 → h 160 57 ≤ 10000 → Pc (qw_X13_work_50 nn rc k l2 h) (fun u => u 160 57 = l2 ∧ ∀ j : Nat, (j : Int) < l2 → u 199 j = h 199 j) := by
  intro k
  induction k with
  | zero => intros; exact pc_none
  | succ k ih =>
    intro h hb h6
    unfold qw_X13_work_50
    refine pc_if (fun z => pc_ret ⟨by omega, fun _ _ => rfl⟩) (fun z => ?_)
    refine pc_sub (by omega) ?_; intro v8 e8
    refine pc_xl ?_; intro h9 e9
    have t9 : h9 160 57 = h 160 57 - 1 := by rw [e9, up_s]; exact e8
    have k9 : ∀ j : Nat, h9 199 j = h 199 j := fun j => by rw [e9, up_n (by omega)]
    refine pc_rA ?_; intro _ _ v12 _
    refine pc_sv (G.2.1 (by omega)) ?_; intro u16 q16
    have t17 : u16 160 57 = h 160 57 - 1 := q16.1.trans t9
    refine pc_imp (ih u16 (by omega) (by omega)) (fun u q => ⟨q.1, fun j hj => ?_⟩)
    rw [q.2 j hj, q16.2 j (by omega)]; exact k9 j
theorem rk_7 {rc : tq_X13_work} (G : RKpG_X13_work rc) {l2 : Int} (l0 : 0 ≤ l2) : ∀ (k : Nat) (a : Int) (h : ms_M), l2 ≤ h 160 57 → h 160 57 ≤ 10000 → Pc (qw_X13_work_7 nn rc k l2 a h) (fun u => u 160 57 = l2 ∧ ∀ j : Nat, (j : Int) < l2 → u 199 j = h 199 j) := by
  intro k
  induction k with
  | zero => intros; exact pc_none
  | succ k ih =>
    intro a h hb h6
    unfold qw_X13_work_7
    refine pc_se ?_; intro u22 _
    refine pc_if (fun z => ?_) (fun z => ?_)
    · refine pc_sv (G.2.1 (by omega)) ?_; intro u25 q25
      have t26 : u25 160 57 = h 160 57 := q25.1
      refine pc_imp (rk_50 G l0 nn u25 (by omega) (by omega)) (fun u q => ⟨q.1, fun j hj => ?_⟩)
      rw [q.2 j hj, q25.2 j (by omega)]
    · refine pc_wA ?_; intro b1 b2 h29 e29
      have t29 : h29 160 57 = h 160 57 := by rw [e29, up_n (by omega)]
      refine pc_add (by omega) ?_; intro v31 e31
      refine pc_xl ?_; intro h32 e32
      have t32 : h32 160 57 = h 160 57 + 1 := by rw [e32, up_s]; omega
      refine pc_rA ?_; intro _ _ v34 _
      refine pc_imp (ih v34 h32 (by omega) (by omega)) (fun u q => ⟨q.1, fun j hj => ?_⟩)
      rw [q.2 j hj, e32, up_n (by omega), e29, up_n (by omega)]
theorem rk_qo_X13_work {rc : tq_X13_work} (G : RKpG_X13_work rc) {a1 : Int} {h : ms_M} (S : 0 ≤ h 160 57 ∧ h 160 57 ≤ 10000) : Pc (qo_X13_work nn rc a1 h) (fun u => RKp h u) := by
  unfold qo_X13_work
  exact rk_7 G S.1 nn _ h (by omega) S.2
theorem rkg_work (nn : Nat) : ∀ d : Nat, RKpG_X13_work (qg_X13_work nn d) := by
  intro d
  induction d with
  | zero => exact ⟨fun _ => pc_none, fun _ => pc_none, fun _ => pc_none, fun _ => pc_none⟩
  | succ d ih => exact ⟨fun S => rk_qo_X13_work ih S, fun S => rk_qo_X13_workOne ih S, fun S => rk_qo_X13_workCall ih S, fun S => rk_qo_X13_workBoth ih S⟩
end
end
