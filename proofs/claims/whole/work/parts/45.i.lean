/- JUMPS of the reference that wait for their aim -/
def fl_L (l : Int) : List (Int × Int) → List (Int × Int)
  | [] => []
  | e :: R => if e.2 = l then fl_L l R else e :: fl_L l R
def hs_L (l : Int) : List (Int × Int) → Prop
  | [] => False
  | e :: R => e.2 = l ∨ hs_L l R
def b2_L (a p : Int) (B : Nat → Int) : Nat → Int := fun x => if x = (p + 2).toNat then oq_and (a - p) 255 else if x = (p + 1).toNat then oq_and (oq_shr (a - p) 8) 255 else B x
def am_L (l a : Int) : List (Int × Int) → (Nat → Int) → Nat → Int
  | [], B => B
  | e :: R, B => am_L l a R (if e.2 = l ∧ e.1 + 2 < 12000 then b2_L a e.1 B else B)
/-- the jumps that wait: place and label -/
def JLs (m : ms_M) (L : List (Int × Int)) : Prop := m 160 87 = (L.length : Int) ∧ ∀ k : Nat, k < L.length → m 217 k = (L.getD k (0, 0)).1 ∧ m 218 k = (L.getD k (0, 0)).2
section
variable {nn : Nat} {h g u r m w : ms_M}
theorem gp_l {e d : Int × Int} : ∀ (A : List (Int × Int)) (k : Nat), k < A.length → (A ++ [e]).getD k d = A.getD k d := by
  intro A
  induction A with
  | nil => intro k hk; exact absurd hk (Nat.not_lt_zero k)
  | cons a A ih =>
    intro k hk
    cases k with
    | zero => rfl
    | succ k =>
      show (A ++ [e]).getD k d = A.getD k d
      exact ih k (Nat.lt_of_succ_lt_succ hk)
theorem gp_e {e d : Int × Int} : ∀ A : List (Int × Int), (A ++ [e]).getD A.length d = e := by
  intro A
  induction A with
  | nil => rfl
  | cons a A ih =>
    show (A ++ [e]).getD A.length d = e
    exact ih
theorem fl_app {l : Int} : ∀ A C : List (Int × Int), fl_L l (A ++ C) = fl_L l A ++ fl_L l C := by
  intro A C
  induction A with
  | nil => rfl
  | cons e A ih =>
    show (if e.2 = l then fl_L l (A ++ C) else e :: fl_L l (A ++ C)) = (if e.2 = l then fl_L l A else e :: fl_L l A) ++ fl_L l C
    by_cases q : e.2 = l
    · rw [if_pos q, if_pos q]; exact ih
    · rw [if_neg q, if_neg q, ih]; rfl
theorem hs_app {l : Int} : ∀ A C : List (Int × Int), hs_L l (A ++ C) ↔ (hs_L l A ∨ hs_L l C) := by
  intro A C
  induction A with
  | nil => exact ⟨fun z => .inr z, fun z => z.elim (fun y => y.elim) id⟩
  | cons e A ih =>
    show (e.2 = l ∨ hs_L l (A ++ C)) ↔ ((e.2 = l ∨ hs_L l A) ∨ hs_L l C)
    rw [ih]
    exact ⟨fun z => z.elim (fun y => .inl (.inl y)) (fun y => y.elim (fun x => .inl (.inr x)) .inr), fun z => z.elim (fun y => y.elim .inl (fun x => .inr (.inl x))) (fun y => .inr (.inr y))⟩
theorem fl_no {l : Int} : ∀ A : List (Int × Int), ¬ hs_L l A → fl_L l A = A := by
  intro A
  induction A with
  | nil => intro _; rfl
  | cons e A ih =>
    intro z
    show (if e.2 = l then fl_L l A else e :: fl_L l A) = e :: A
    rw [if_neg (fun y => z (.inl y)), ih (fun y => z (.inr y))]
theorem am_app {l a : Int} : ∀ (A C : List (Int × Int)) (B : Nat → Int), am_L l a (A ++ C) B = am_L l a C (am_L l a A B) := by
  intro A C
  induction A with
  | nil => intro B; rfl
  | cons e A ih => intro B; exact ih _
theorem am_no {l a : Int} : ∀ (A : List (Int × Int)) (B : Nat → Int), ¬ hs_L l A → am_L l a A B = B := by
  intro A
  induction A with
  | nil => intro B _; rfl
  | cons e A ih =>
    intro B z
    show am_L l a A (if e.2 = l ∧ e.1 + 2 < 12000 then b2_L a e.1 B else B) = B
    rw [if_neg (fun y => z (.inl y.1))]
    exact ih B (fun y => z (.inr y))
theorem st_8 {l a : Int} {Q : ms_M → Prop} (ha : 0 ≤ a ∧ a ≤ 1000000) : ∀ (f : Nat) (R Kd : List (Int × Int)) (l5 : Nat) (any : Int) (B : Nat → Int) (g : ms_M), g 160 87 = ((l5 + R.length : Nat) : Int) → Kd.length ≤ l5 → l5 + R.length ≤ 3000 → (∀ i : Nat, i < R.length → g 217 (l5 + i) = (R.getD i (0, 0)).1 ∧ g 218 (l5 + i) = (R.getD i (0, 0)).2) → (∀ i : Nat, i < Kd.length → g 217 i = (Kd.getD i (0, 0)).1 ∧ g 218 i = (Kd.getD i (0, 0)).2) → (∀ x : Nat, g 206 x = B x) → (∀ cc x : Nat, ¬ (cc = 206 ∨ cc = 217 ∨ cc = 218) → g cc x = m cc x) → (∀ i : Nat, i < R.length → 0 ≤ (R.getD i (0, 0)).1 ∧ (R.getD i (0, 0)).1 ≤ 1000000) → (∀ (w : ms_M) (any2 : Int), (any2 = 0 ↔ (any = 0 ∧ ¬ hs_L l R)) → JLs w (Kd ++ fl_L l R) → (∀ x : Nat, w 206 x = am_L l a R B x) → (∀ cc x : Nat, ¬ (cc = 206 ∨ cc = 217 ∨ cc = 218) → ¬ (cc = 160 ∧ x = 87) → w cc x = m cc x) → Pc (if any2 = 0 then qj_X13_stands_154 nn w else mx_sv (qf_X13_frame nn a w) fun u4 => qj_X13_stands_154 nn u4) Q) → Pc (qw_X13_stands_8 nn f l a any (Kd.length : Int) (l5 : Int) g) Q := by
  intro f
  induction f with
  | zero => intros; exact pc_none
  | succ f ih =>
    intro R Kd l5 any B g h87 hk h30 rR rK hB G bR T
    unfold qw_X13_stands_8
    cases R with
    | nil =>
      have h87 : g 160 87 = (l5 : Int) := h87
      refine pc_if (fun _ => ?_) (fun z => absurd (by omega) z)
      refine pc_xl ?_; intro h2 e2
      refine T h2 any ⟨fun z => ⟨z, id⟩, fun z => z.1⟩ ?_ (fun x => by rw [e2, up_n (by omega)]; exact hB x) (fun cc x z1 z2 => by rw [e2, up_n z2]; exact G cc x z1)
      show JLs h2 (Kd ++ [])
      rw [List.append_nil]
      exact ⟨by rw [e2, up_s], fun k hk => by rw [e2, up_n (by omega), up_n (by omega)]; exact rK k hk⟩
    | cons e R =>
      have c0 : (e :: R).length = R.length + 1 := rfl
      rw [c0] at h87 h30
      refine pc_if (fun z => absurd z (by omega)) (fun _ => ?_)
      have r0 := rR 0 (by rw [c0]; omega)
      have a1 : g 217 l5 = e.1 := r0.1
      have a2 : g 218 l5 = e.2 := r0.2
      have be : 0 ≤ e.1 ∧ e.1 ≤ 1000000 := bR 0 (by rw [c0]; omega)
      refine pc_rA ?_; intro _ _ v7 e7
      rw [Int.toNat_natCast, a2] at e7
      refine pc_if (fun z => ?_) (fun z => ?_)
      · have nl : ¬ e.2 = l := by rw [← e7]; exact z
        refine pc_rA ?_; intro _ _ v10 e10
        rw [Int.toNat_natCast, a1] at e10
        refine pc_wA ?_; intro _ _ h11 e11
        rw [Int.toNat_natCast] at e11
        refine pc_rA ?_; intro _ _ v14 e14
        have e14' : v14 = e.2 := by rw [e14, Int.toNat_natCast, e11, up_n (by omega)]; exact a2
        refine pc_wA ?_; intro _ _ h15 e15
        rw [Int.toNat_natCast] at e15
        refine pc_add (by omega) ?_; intro v16 e16
        refine pc_add (by omega) ?_; intro v17 e17
        have k15 : ∀ cc x : Nat, ¬ ((cc = 217 ∨ cc = 218) ∧ x = Kd.length) → h15 cc x = g cc x := fun cc x y => by rw [e15, up_n (by omega), e11, up_n (by omega)]
        have n17 : h15 217 Kd.length = e.1 := by rw [e15, up_n (by omega), e11, up_s]; exact e10
        have n18 : h15 218 Kd.length = e.2 := by rw [e15, up_s]; exact e14'
        have lk : (Kd ++ [e]).length = Kd.length + 1 := by rw [List.length_append]; rfl
        have fe : fl_L l (e :: R) = e :: fl_L l R := by
          show (if e.2 = l then fl_L l R else e :: fl_L l R) = _
          rw [if_neg nl]
        have ae : am_L l a (e :: R) B = am_L l a R B := by
          show am_L l a R (if e.2 = l ∧ e.1 + 2 < 12000 then b2_L a e.1 B else B) = _
          rw [if_neg (fun y => nl y.1)]
        have X := ih R (Kd ++ [e]) (l5 + 1) any B h15 (by rw [k15 160 87 (by omega)]; omega) (by rw [lk]; omega) (by omega) (fun i hi => by
          have r := rR (i + 1) (by rw [c0]; omega)
          rw [show l5 + (i + 1) = l5 + 1 + i by omega] at r
          rw [k15 217 _ (by omega), k15 218 _ (by omega)]; exact r) (fun i hi => by
          rw [lk] at hi
          by_cases q : i = Kd.length
          · rw [q, gp_e]; exact ⟨n17, n18⟩
          · rw [gp_l Kd i (by omega), k15 217 _ (by omega), k15 218 _ (by omega)]; exact rK i (by omega)) (fun x => by rw [k15 206 x (by omega)]; exact hB x) (fun cc x y => by rw [k15 cc x (by omega)]; exact G cc x y) (fun i hi => bR (i + 1) (by rw [c0]; omega)) (fun w any2 p j b k => T w any2 ⟨fun y => ⟨(p.mp y).1, fun x => x.elim nl (p.mp y).2⟩, fun y => p.mpr ⟨y.1, fun x => y.2 (.inr x)⟩⟩ (by rw [fe]; rw [List.append_assoc] at j; exact j) (fun x => by rw [ae]; exact b x) k)
        rw [lk] at X
        rw [show v16 = ((Kd.length + 1 : Nat) : Int) by omega, show v17 = ((l5 + 1 : Nat) : Int) by omega]
        exact X
      · have yl : e.2 = l := by rw [← e7]; exact Classical.byContradiction z
        refine pc_rA ?_; intro _ _ v19 e19
        rw [Int.toNat_natCast, a1] at e19
        refine pc_sub (by omega) ?_; intro v20 e20
        refine pc_rA ?_; intro _ _ v22 e22
        rw [Int.toNat_natCast, a1] at e22
        refine pc_add (by omega) ?_; intro v23 e23
        have fe : fl_L l (e :: R) = fl_L l R := by
          show (if e.2 = l then fl_L l R else e :: fl_L l R) = _
          rw [if_pos yl]
        have STEP : ∀ (B2 : Nat → Int) (g2 : ms_M), (∀ x : Nat, g2 206 x = B2 x) → (∀ cc x : Nat, ¬ cc = 206 → g2 cc x = g cc x) → am_L l a (e :: R) B = am_L l a R B2 → ∀ v : Int, v = (l5 : Int) + 1 → Pc (qw_X13_stands_8 nn f l a 1 (Kd.length : Int) v g2) Q := fun B2 g2 b1 b2 b3 v ev => by
          rw [show v = ((l5 + 1 : Nat) : Int) by omega]
          refine ih R Kd (l5 + 1) 1 B2 g2 (by rw [b2 160 87 (by omega)]; omega) (by omega) (by omega) (fun i hi => ?_) (fun i hi => by rw [b2 217 _ (by omega), b2 218 _ (by omega)]; exact rK i hi) b1 (fun cc x y => by rw [b2 cc x (by omega)]; exact G cc x y) (fun i hi => bR (i + 1) (by rw [c0]; omega)) (fun w any2 p j b k => T w any2 ⟨fun y => absurd (p.mp y).1 (by decide), fun y => absurd (.inl yl) y.2⟩ (by rw [fe]; exact j) (fun x => by rw [b3]; exact b x) k)
          have r := rR (i + 1) (by rw [c0]; omega)
          rw [show l5 + (i + 1) = l5 + 1 + i by omega] at r
          rw [b2 217 _ (by omega), b2 218 _ (by omega)]; exact r
        refine pc_if (fun z2 => ?_) (fun z2 => ?_)
        · refine pc_add (by omega) ?_; intro v24 e24
          refine STEP B g hB (fun _ _ _ => rfl) ?_ v24 e24
          show am_L l a R (if e.2 = l ∧ e.1 + 2 < 12000 then b2_L a e.1 B else B) = _
          rw [if_neg (fun y => absurd y.2 (by omega))]
        · refine pc_rA ?_; intro _ _ v27 e27
          rw [Int.toNat_natCast, a1] at e27
          refine pc_add (by omega) ?_; intro v28 e28
          refine pc_xl ?_; intro v29 e29
          refine pc_xl ?_; intro v30 e30
          refine pc_wA ?_; intro _ _ h31 e31
          rw [show v28.toNat = (e.1 + 1).toNat by omega] at e31
          refine pc_rA ?_; intro _ _ v34 e34
          have e34' : v34 = e.1 := by rw [e34, Int.toNat_natCast, e31, up_n (by omega)]; exact a1
          refine pc_add (by omega) ?_; intro v35 e35
          refine pc_xl ?_; intro v36 e36
          refine pc_wA ?_; intro _ _ h37 e37
          rw [show v35.toNat = (e.1 + 2).toNat by omega] at e37
          refine pc_add (by omega) ?_; intro v38 e38
          refine STEP (b2_L a e.1 B) h37 (fun x => ?_) (fun cc x q => by rw [e37, up_n (by omega), e31, up_n (by omega)]) ?_ v38 e38
          · show h37 206 x = if x = (e.1 + 2).toNat then oq_and (a - e.1) 255 else if x = (e.1 + 1).toNat then oq_and (oq_shr (a - e.1) 8) 255 else B x
            by_cases q2 : x = (e.1 + 2).toNat
            · rw [if_pos q2, q2, e37, up_s, e36, e20, e19]
            · rw [if_neg q2, e37, up_n (by omega)]
              by_cases q1 : x = (e.1 + 1).toNat
              · rw [if_pos q1, q1, e31, up_s, e30, e29, e20, e19]
              · rw [if_neg q1, e31, up_n (by omega)]; exact hB x
          · show am_L l a R (if e.2 = l ∧ e.1 + 2 < 12000 then b2_L a e.1 B else B) = _
            rw [if_pos ⟨yl, by omega⟩]
theorem r_stands {l a : Int} {Q : ms_M → Prop} {L : List (Int × Int)} (J : JLs m L) (ha : 0 ≤ a ∧ a ≤ 1000000) (hl : L.length ≤ 3000) (bL : ∀ i : Nat, i < L.length → 0 ≤ (L.getD i (0, 0)).1 ∧ (L.getD i (0, 0)).1 ≤ 1000000) (T : ∀ w : ms_M, JLs w (fl_L l L) → (∀ x : Nat, w 206 x = am_L l a L (m 206) x) → (∀ cc x : Nat, ¬ (cc = 206 ∨ cc = 217 ∨ cc = 218) → ¬ (cc = 160 ∧ x = 87) → w cc x = m cc x) → (¬ hs_L l L ∧ Q w) ∨ (hs_L l L ∧ Pc (qf_X13_frame nn a w) Q)) : Pc (qf_X13_stands nn l a m) Q := by
  unfold qf_X13_stands
  refine st_8 (m := m) ha nn L [] 0 0 (m 206) m (by rw [J.1, Nat.zero_add]) (Nat.le_refl 0) (by omega) (fun i hi => by rw [Nat.zero_add]; exact J.2 i hi) (fun i hi => absurd hi (Nat.not_lt_zero i)) (fun _ => rfl) (fun _ _ _ => rfl) bL (fun w any2 p j b k => ?_)
  rcases T w j b k with ⟨t1, t2⟩ | ⟨t1, t2⟩
  · refine pc_if (fun _ => ?_) (fun z => absurd (p.mpr ⟨rfl, t1⟩) z)
    unfold qj_X13_stands_154
    exact pc_ret t2
  · refine pc_if (fun z => absurd t1 (p.mp z).2) (fun _ => ?_)
    refine pc_sv t2 ?_; intro u4 q4
    unfold qj_X13_stands_154
    exact pc_ret q4
end
