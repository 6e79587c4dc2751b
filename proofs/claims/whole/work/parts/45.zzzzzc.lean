/- the image of a class: the reference's side, whole -/
section
variable {nn : Nat} {cn i pos k : Nat} {h g u m w : ms_M} {Z : ms_M → Prop}
theorem cl_k (e : ∀ cc y : Nat, 200 ≤ cc ∧ cc ≤ 204 → g cc y = m cc y) : cl_T g i = cl_T m i := by
  unfold cl_T
  rw [e 200 i (by omega), e 202 i (by omega)]
theorem cb_k {x : Nat} (e : ∀ cc y : Nat, 200 ≤ cc ∧ cc ≤ 204 → g cc y = m cc y) : cb_T g i x = cb_T m i x := by
  unfold cb_T
  rw [e 200 i (by omega), e 201 i (by omega), e 202 i (by omega), e 203 i (by omega), e 204 _ (by omega)]
theorem pci_r (P : PCi h m i) (e : ∀ cc y : Nat, 200 ≤ cc ∧ cc ≤ 204 → g cc y = m cc y) : PCi h g i := by
  unfold PCi at *
  rw [e 200 i (by omega), e 201 i (by omega), e 202 i (by omega), e 203 i (by omega)]
  refine ⟨P.1, ?_⟩
  rcases P.2 with ⟨a1, a2, a3, a4, a5, a6⟩ | p
  · refine .inl ⟨a1, a2, a3, a4, a5, fun k hk => ?_⟩
    rw [e 204 _ (by omega)]; exact a6 k hk
  · exact .inr p
/-- constants are bytes -/
theorem cb_r {x : Nat} (P : PCi h m i) (hx : x < cl_T m i) : 0 ≤ cb_T m i x ∧ cb_T m i x ≤ 255 := by
  unfold cl_T at hx
  unfold cb_T
  by_cases x0 : x = 0
  · rw [if_pos x0]
    rcases P.2 with ⟨c1, -⟩ | ⟨c1, -⟩ | ⟨c1, -⟩ | ⟨c1, -⟩
    · omega
    · omega
    · omega
    · omega
  rw [if_neg x0]
  rcases P.2 with ⟨c1, c2, c3, c4, c5, c6⟩ | ⟨c1, c2⟩ | ⟨c1, c2, c3⟩ | ⟨c1, c2, c3⟩
  · rw [if_pos c1] at hx ⊢
    by_cases x1 : x = 1
    · rw [if_pos x1]; exact c4
    · rw [if_neg x1]
      exact (c6 (x - 2) (by omega)).2
  · rw [if_neg (by omega), if_pos c1]; omega
  · rw [if_neg (by omega), if_neg (by omega), if_pos c1] at hx
    rw [if_neg (by omega), if_neg (by omega), if_pos (by omega)]; omega
  · rw [if_neg (by omega), if_neg (by omega)]
    by_cases x1 : x = 1
    · rw [if_pos x1]; omega
    · rw [if_neg x1]
      by_cases x2 : x = 2
      · rw [if_pos x2]; omega
      · rw [if_neg x2]; omega
theorem r_440 {l2 : Int} {pb : Nat} (pb6 : pb ≤ 100000) (l7 : 0 ≤ m 160 97 ∧ m 160 97 ≤ 6000) : ∀ (f l : Nat) (g : ms_M), (l : Int) ≤ m 160 97 → (∀ cc y : Nat, ¬ (cc = 223 ∧ pb ≤ y ∧ y < pb + (m 160 97).toNat) → g cc y = m cc y) → (∀ x : Nat, x < l → g 223 (pb + x) = m 225 x) → Pc (qw_X13_makeClass_440 nn f (k : Int) l2 (pb : Int) (l : Int) g) (fun u => u 224 k = l2 ∧ (∀ cc y : Nat, ¬ (cc = 223 ∧ pb ≤ y ∧ y < pb + (m 160 97).toNat) → ¬ (cc = 224 ∧ y = k) → u cc y = m cc y) ∧ ∀ x : Nat, (x : Int) < m 160 97 → u 223 (pb + x) = m 225 x) := by
  intro f
  induction f with
  | zero => intro l g _ _ _; exact fun _ z => nomatch z
  | succ f ih =>
    intro l g hl E B
    unfold qw_X13_makeClass_440
    have e97 := E 160 97 (by omega)
    refine pc_if (fun z => ?_) (fun z => ?_)
    · refine pc_wA ?_; intro _ _ h3 e3
      rw [Int.toNat_natCast] at e3
      refine pc_ret ⟨by rw [e3, up_s], fun cc y z1 z2 => by rw [e3, up_n z2]; exact E cc y z1, fun x hx => ?_⟩
      rw [e3, up_n (by omega)]; exact B x (by omega)
    · refine pc_add (by omega) ?_; intro v5 e5
      refine pc_rA ?_; intro _ _ v7 e7
      rw [Int.toNat_natCast, E 225 _ (by omega)] at e7
      refine pc_wA ?_; intro _ _ h8 e8
      rw [show v5.toNat = pb + l by omega] at e8
      refine pc_add (by omega) ?_; intro v9 e9
      rw [show v9 = ((l + 1 : Nat) : Int) by omega]
      refine ih (l + 1) h8 (by omega) (fun cc y z => by rw [e8, up_n (by omega)]; exact E cc y z) (fun x hx => ?_)
      by_cases q : x = l
      · rw [q, e8, up_s]; exact e7
      · rw [e8, up_n (by omega)]; exact B x (by omega)
/-- the image is written -/
theorem r_414 {sz : Int} (P : ∀ i : Nat, 1 ≤ i → i ≤ cn → PCi h m i) (c2 : cn ≤ 200) (m62 : m 160 62 = (cn : Int)) (l7 : 0 ≤ m 160 97) (k8 : k < 8) (hs : sz = 3 + m 160 97 + (sm_T m cn : Int)) (s6 : sz ≤ 6000) : ∀ (f i : Nat) (g : ms_M), i ≤ cn → (∀ cc y : Nat, ¬ (cc = 223 ∧ 6000 * k ≤ y ∧ y < 6000 * k + sz.toNat) → g cc y = m cc y) → (g 223 (6000 * k) = 74 ∧ g 223 (6000 * k + 1) = 77 ∧ g 223 (6000 * k + 2) = (cn : Int)) → (∀ i2 : Nat, i2 < i → ∀ x : Nat, x < cl_T m (i2 + 1) → g 223 (6000 * k + (3 + sm_T m i2 + x)) = cb_T m (i2 + 1) x) → Pc (qw_X13_makeClass_414 nn f (k : Int) sz ((6000 * k + (3 + sm_T m i) : Nat) : Int) ((i + 1 : Nat) : Int) g) (fun u => u 224 k = sz ∧ RIM m cn (m 160 97) (m 225) (fun x => u 223 (6000 * k + x)) ∧ ∀ cc y : Nat, ¬ (cc = 223 ∧ 6000 * k ≤ y ∧ y < 6000 * k + sz.toNat) → ¬ (cc = 224 ∧ y = k) → u cc y = m cc y) := by
  intro f
  induction f with
  | zero => intro i g _ _ _ _; exact fun _ z => nomatch z
  | succ f ih =>
    intro i g hi E G0 G1
    have e62 := E 160 62 (by omega)
    have e97 := E 160 97 (by omega)
    unfold qw_X13_makeClass_414
    refine pc_if (fun z => ?_) (fun z => ?_)
    · have ic : i = cn := by omega
      rw [ic] at G1 ⊢
      rw [show (0 : Int) = ((0 : Nat) : Int) from rfl]
      refine pc_imp (r_440 (nn := nn) (k := k) (m := g) (l2 := sz) (pb := 6000 * k + (3 + sm_T m cn)) (by omega) (by omega) nn 0 g (by omega) (fun _ _ _ => rfl) (fun x hx => absurd hx (by omega))) (fun u ⟨a1, a2, a3⟩ => ⟨a1, ⟨⟨?_, ?_, ?_⟩, fun i2 h2 x hx => ?_, fun x hx => ?_⟩, fun cc y z1 z2 => ?_⟩)
      · show u 223 (6000 * k + 0) = 74
        rw [a2 223 _ (by omega) (by omega)]; exact G0.1
      · show u 223 (6000 * k + 1) = 77
        rw [a2 223 _ (by omega) (by omega)]; exact G0.2.1
      · show u 223 (6000 * k + 2) = _
        rw [a2 223 _ (by omega) (by omega)]; exact G0.2.2
      · show u 223 (6000 * k + (3 + sm_T m i2 + x)) = _
        have a : sm_T m i2 + cl_T m (i2 + 1) ≤ sm_T m cn := smi_le (m := m) (i := i2 + 1) (j := cn) (by omega)
        rw [a2 223 _ (by omega) (by omega)]; exact G1 i2 h2 x hx
      · show u 223 (6000 * k + (3 + sm_T m cn + x)) = _
        have b := a3 x (by omega)
        rw [show 6000 * k + (3 + sm_T m cn + x) = 6000 * k + (3 + sm_T m cn) + x by omega, b, E 225 _ (by omega)]
      · rw [a2 cc y (by omega) z2]; exact E cc y z1
    · have pi := P (i + 1) (by omega) (by omega)
      have eg : ∀ cc y : Nat, 200 ≤ cc ∧ cc ≤ 204 → g cc y = m cc y := fun cc y z => E cc y (by omega)
      have a : sm_T m i + cl_T m (i + 1) ≤ sm_T m cn := smi_le (m := m) (i := i + 1) (j := cn) (by omega)
      refine pc_sv (r_wcn (pos := 6000 * k + (3 + sm_T m i)) (pci_r pi eg) (by omega) (by omega)) ?_; intro u13 ⟨q1, q2, q3⟩
      rw [cl_k (i := i + 1) eg] at q1 q2 q3
      refine pc_add (by omega) ?_; intro v14 e14
      have ev : u13.1 = ((6000 * k + (3 + sm_T m (i + 1)) : Nat) : Int) := by
        show u13.1 = ((6000 * k + (3 + (sm_T m i + cl_T m (i + 1))) : Nat) : Int)
        omega
      rw [ev, show v14 = ((i + 1 + 1 : Nat) : Int) by omega]
      refine ih (i + 1) u13.2 (by omega) (fun cc y z => by rw [q2 cc y (by omega)]; exact E cc y z) ⟨?_, ?_, ?_⟩ (fun i2 h2 x hx => ?_)
      · rw [q2 223 _ (by omega)]; exact G0.1
      · rw [q2 223 _ (by omega)]; exact G0.2.1
      · rw [q2 223 _ (by omega)]; exact G0.2.2
      · by_cases q : i2 = i
        · rw [q] at hx ⊢
          rw [show 6000 * k + (3 + sm_T m i + x) = 6000 * k + (3 + sm_T m i) + x by omega, q3 x hx]; exact cb_k eg
        · have b : sm_T m i2 + cl_T m (i2 + 1) ≤ sm_T m i := smi_le (m := m) (i := i2 + 1) (j := i) (by omega)
          rw [q2 223 _ (by omega)]; exact G1 i2 (by omega) x hx
theorem r_364 {sz : Int} (P : ∀ i : Nat, 1 ≤ i → i ≤ cn → PCi h m i) (c2 : cn ≤ 200) (m62 : m 160 62 = (cn : Int)) (m9 : m 160 9 = 0) (l7 : 0 ≤ m 160 97) (k8 : k < 8) (hs : sz = 3 + m 160 97 + (sm_T m cn : Int)) (s6 : sz ≤ 6000) : Pc (qj_X13_makeClass_364 nn (k : Int) sz m) (fun u => u 224 k = sz ∧ RIM m cn (m 160 97) (m 225) (fun x => u 223 (6000 * k + x)) ∧ ∀ cc y : Nat, ¬ (cc = 223 ∧ 6000 * k ≤ y ∧ y < 6000 * k + sz.toNat) → ¬ (cc = 224 ∧ y = k) → u cc y = m cc y) := by
  unfold qj_X13_makeClass_364
  refine pc_if (fun _ => ?_) (fun z => absurd m9 z)
  refine pc_xl ?_; intro v17 e17
  rw [oq_mul_eq (by omega) (by omega) (by omega)] at e17
  refine pc_wA ?_; intro _ _ h19 e19
  rw [show v17.toNat = 6000 * k by omega] at e19
  refine pc_add (by omega) ?_; intro v21 e21
  refine pc_wA ?_; intro _ _ h22 e22
  rw [show v21.toNat = 6000 * k + 1 by omega] at e22
  refine pc_add (by omega) ?_; intro v24 e24
  refine pc_wA ?_; intro _ _ h26 e26
  rw [show v24.toNat = 6000 * k + 2 by omega] at e26
  refine pc_add (by omega) ?_; intro v27 e27
  rw [show v27 = ((6000 * k + (3 + sm_T m 0) : Nat) : Int) by show v27 = ((6000 * k + (3 + 0) : Nat) : Int); omega, show (1 : Int) = ((0 + 1 : Nat) : Int) from rfl]
  refine r_414 P c2 m62 l7 k8 hs s6 nn 0 h26 (Nat.zero_le _) (fun cc y z => by rw [e26, up_n (by omega), e22, up_n (by omega), e19, up_n (by omega)]) ⟨?_, ?_, ?_⟩ (fun i2 h2 => absurd h2 (by omega))
  · rw [e26, up_n (by omega), e22, up_n (by omega), e19, up_s]
  · rw [e26, up_n (by omega), e22, up_s]
  · rw [e26, up_s, e22, up_n (by omega), e19, up_n (by omega)]; exact m62
/-- the size, the reference's side -/
theorem r_261 (P : ∀ i : Nat, 1 ≤ i → i ≤ cn → PCi h m i) (c2 : cn ≤ 200) (m62 : m 160 62 = (cn : Int)) (m9 : m 160 9 = 0) (l7 : 0 ≤ m 160 97 ∧ m 160 97 ≤ 100000000) (H1 : 3 + m 160 97 + (sm_T m cn : Int) ≤ 6000 → Pc (qj_X13_makeClass_364 nn (k : Int) (3 + m 160 97 + (sm_T m cn : Int)) m) Z) (H2 : 6000 < 3 + m 160 97 + (sm_T m cn : Int) → Pc (qj_X13_makeClass_352 nn (k : Int) (3 + m 160 97 + (sm_T m cn : Int)) m) Z) : ∀ (f i : Nat), i ≤ cn → Pc (qw_X13_makeClass_261 nn f (k : Int) (3 + m 160 97 + (sm_T m i : Int)) ((i + 1 : Nat) : Int) m) Z := by
  intro f
  induction f with
  | zero => intro i _; exact fun _ z => nomatch z
  | succ f ih =>
    intro i hi
    unfold qw_X13_makeClass_261
    refine pc_if (fun z => ?_) (fun z => ?_)
    · rw [show i = cn by omega]
      refine pc_if (fun z9 => absurd m9 z9) (fun _ => ?_)
      refine pc_if (fun z2 => absurd z2 (by omega)) (fun _ => ?_)
      exact pc_if (fun y => H1 y) (fun y => H2 (by omega))
    · have pi := P (i + 1) (by omega) (by omega)
      have sb := sm_b P i (by omega)
      have cb := cl_b pi
      have N : ∀ s0 : Int, s0 = (cl_T m (i + 1) : Int) → Pc (qj_X13_makeClass_320 nn (qw_X13_makeClass_261 nn f) (k : Int) ((i + 1 : Nat) : Int) s0 (3 + m 160 97 + (sm_T m i : Int)) m) Z := fun s0 e0 => by
        unfold qj_X13_makeClass_320
        refine pc_add (by omega) ?_; intro v33 e33
        refine pc_add (by omega) ?_; intro v34 e34
        have e : v33 = 3 + m 160 97 + (sm_T m (i + 1) : Int) := by
          show v33 = 3 + m 160 97 + ((sm_T m i + cl_T m (i + 1) : Nat) : Int)
          omega
        rw [e, show v34 = ((i + 1 + 1 : Nat) : Int) by omega]
        exact ih (i + 1) (by omega)
      refine pc_rA ?_; intro _ _ v42 e42
      rw [Int.toNat_natCast] at e42
      have cl : cl_T m (i + 1) = if m 200 (i + 1) = 1 then 2 + (m 202 (i + 1)).toNat else if m 200 (i + 1) = 2 then 5 else if m 200 (i + 1) = 3 then 2 else 4 := rfl
      refine pc_if (fun y => ?_) (fun y => ?_)
      · rw [if_neg (by omega)] at cl
        refine pc_rA ?_; intro _ _ v44 e44
        rw [Int.toNat_natCast] at e44
        refine pc_if (fun y2 => ?_) (fun y2 => ?_)
        · rw [if_neg (by omega)] at cl
          refine pc_rA ?_; intro _ _ v46 e46
          rw [Int.toNat_natCast] at e46
          refine pc_if (fun y3 => ?_) (fun y3 => ?_)
          · rw [if_neg (by omega)] at cl
            exact N 4 (by omega)
          · rw [if_pos (by omega)] at cl
            exact N 2 (by omega)
        · rw [if_pos (by omega)] at cl
          exact N 5 (by omega)
      · have k1 : m 200 (i + 1) = 1 := by omega
        rw [if_pos k1] at cl
        refine pc_rA ?_; intro _ _ v50 e50
        rw [Int.toNat_natCast] at e50
        have b2 : 0 ≤ m 202 (i + 1) ∧ m 202 (i + 1) ≤ 255 := by
          rcases pi.2 with ⟨-, -, -, c4, -⟩ | ⟨c1, -⟩ | ⟨c1, -⟩ | ⟨c1, -⟩
          · exact c4
          · omega
          · omega
          · omega
        refine pc_add (by omega) ?_; intro v51 e51
        exact N v51 (by omega)
theorem r_261o (o : 200 < m 160 62) (m9 : m 160 9 = 0) {l1 : Int} (H2 : ∀ l2 : Int, Pc (qj_X13_makeClass_352 nn l1 l2 m) Z) : ∀ (f : Nat) (l2 l3 : Int), Pc (qw_X13_makeClass_261 nn f l1 l2 l3 m) Z := by
  intro f
  induction f with
  | zero => intro l2 l3; exact fun _ z => nomatch z
  | succ f ih =>
    intro l2 l3
    have N : ∀ s0 s1 : Int, Pc (qj_X13_makeClass_320 nn (qw_X13_makeClass_261 nn f) l1 l3 s0 s1 m) Z := fun s0 s1 => by
      unfold qj_X13_makeClass_320
      refine pc_xl ?_; intro v33 _
      refine pc_xl ?_; intro v34 _
      exact ih v33 v34
    unfold qw_X13_makeClass_261
    refine pc_if (fun _ => pc_if (fun z => absurd m9 z) (fun _ => pc_if (fun _ => H2 l2) (fun z => absurd o z))) (fun _ => ?_)
    refine pc_rA ?_; intro _ _ v42 _
    refine pc_if (fun _ => ?_) (fun _ => ?_)
    · refine pc_rA ?_; intro _ _ v44 _
      refine pc_if (fun _ => ?_) (fun _ => N 5 l2)
      refine pc_rA ?_; intro _ _ v46 _
      exact pc_if (fun _ => N 4 l2) (fun _ => N 2 l2)
    · refine pc_rA ?_; intro _ _ v50 _
      refine pc_xl ?_; intro v51 _
      exact N v51 l2
theorem r_352 {X : BCx} {t : Nat} {l2 : Int} (TQ : TBq (bK X) (bP X) (bc X) m) (ht : t < bc X) (m178 : m 178 k = (t : Int)) (m9 : m 160 9 = 0) : Pc (qj_X13_makeClass_352 nn (k : Int) l2 m) (fun u => u 160 9 = 11 ∧ u 160 10 = bP X t) := by
  unfold qj_X13_makeClass_352
  refine pc_rA ?_; intro _ _ v30 e30
  rw [Int.toNat_natCast, m178] at e30
  refine pc_sv (r_wrong TQ ht m9 e30) ?_; intro u32 w1
  unfold qj_X13_makeClass_364
  exact pc_if (fun z => absurd z (by omega)) (fun _ => pc_ret w1)
/-- a place of the image is in one of the constants -/
theorem sm_dec : ∀ (n x : Nat), x < sm_T m n → ∃ (i y : Nat), i < n ∧ y < cl_T m (i + 1) ∧ x = sm_T m i + y := by
  intro n
  induction n with
  | zero => intro x hx; exact absurd hx (Nat.not_lt_zero _)
  | succ n ih =>
    intro x hx
    by_cases q : x < sm_T m n
    · obtain ⟨i, y, h1, h2, h3⟩ := ih x q
      exact ⟨i, y, by omega, h2, h3⟩
    · have hx2 : x < sm_T m n + cl_T m (n + 1) := hx
      exact ⟨n, x - sm_T m n, by omega, by omega, by omega⟩
/-- both images are the same -/
theorem im_eq {l7 : Int} {src srcr b rb : Nat → Int} (P : ∀ i : Nat, 1 ≤ i → i ≤ cn → PCi h m i) (c2 : cn ≤ 200) (C : CIM m cn l7 src b) (R : RIM m cn l7 srcr rb) (e : ∀ x : Nat, (x : Int) < l7 → srcr x = src x % 256) {x : Nat} (hx : (x : Int) < 3 + l7 + (sm_T m cn : Int)) : rb x = b x % 256 := by
  obtain ⟨⟨c0, c1, c22⟩, c3, c4⟩ := C
  obtain ⟨⟨r0, r1, r2⟩, r3, r4⟩ := R
  by_cases x3 : x < 3
  · by_cases x0 : x = 0
    · rw [x0, r0, c0]
    by_cases x1 : x = 1
    · rw [x1, r1, c1]
    · rw [show x = 2 by omega, r2, c22]; omega
  by_cases xs : x < 3 + sm_T m cn
  · obtain ⟨i, y, h1, h2, h3⟩ := sm_dec (m := m) cn (x - 3) (by omega)
    have a := c3 i h1 y h2
    have b' := r3 i h1 y h2
    have cr := cb_r (P (i + 1) (by omega) (by omega)) h2
    rw [show x = 3 + sm_T m i + y by omega, b', a]; omega
  · have a := c4 (x - (3 + sm_T m cn)) (by omega)
    have b' := r4 (x - (3 + sm_T m cn)) (by omega)
    have e' := e (x - (3 + sm_T m cn)) (by omega)
    rw [show 3 + sm_T m cn + (x - (3 + sm_T m cn)) = x by omega] at a b'
    rw [b', a, e']
end
