section
/- NAMES OF BOTH SIDES: the eight that are known -/
set_option maxRecDepth 100000 in
theorem xt_1 {j : Int} (h0 : 0 ≤ j) (hj : j < 76) (G : Int → Option Int) : rd_X (1000000000 + 1) j G = G (cx_ (1000000000 + 1) j) := xt_rd (n := 76) (by decide +kernel) j h0 hj G
set_option maxRecDepth 100000 in
theorem xt_3 {j : Int} (h0 : 0 ≤ j) (hj : j < 77) (G : Int → Option Int) : rd_X (1000000000 + 3) j G = G (cx_ (1000000000 + 3) j) := xt_rd (n := 77) (by decide +kernel) j h0 hj G
/-- letter j of the known names -/
def kn_C (j : Nat) : Int := cx_ (1000000000 + 1) (j : Int)
/-- where the name c begins, and how long it is -/
def kn_A : Nat → Nat
  | 0 => 0
  | 1 => 7
  | 2 => 13
  | 3 => 23
  | 4 => 34
  | 5 => 45
  | 6 => 55
  | 7 => 65
  | _ => 76
def kn_L (c : Nat) : Nat := kn_A (c + 1) - kn_A c - 1
set_option maxRecDepth 100000 in
theorem kn_sp : (List.range 8).all (fun c => (decide (kn_A c + kn_L c + 1 = kn_A (c + 1)) && decide (kn_A (c + 1) ≤ 76)) && (decide (kn_C (kn_A c + kn_L c) = 32) && (List.range (kn_L c)).all (fun i => decide (33 ≤ kn_C (kn_A c + i) ∧ kn_C (kn_A c + i) ≤ 126)))) = true := by decide +kernel
set_option maxRecDepth 100000 in
theorem kn_3 : (List.range 76).all (fun j => decide (cx_ (1000000000 + 3) ((j + 1 : Nat) : Int) = kn_C j)) = true := by decide +kernel
set_option maxRecDepth 100000 in
theorem kn_30 : cx_ (1000000000 + 3) 0 = 32 := by decide +kernel
set_option maxRecDepth 100000 in
theorem kn_di : (List.range 8).all (fun c => (List.range 8).all (fun d => Nat.beq c d || (!(Nat.beq (kn_L c) (kn_L d)) || !((List.range (kn_L c)).all (fun i => decide (kn_C (kn_A c + i) = kn_C (kn_A d + i))))))) = true := by decide +kernel
/-- the text f, m bytes long, is the name c -/
def KNm (f : Nat → Int) (m c : Nat) : Prop := m = kn_L c ∧ ∀ i, i < m → f i = kn_C (kn_A c + i)
section
variable {nn : Nat} {M : ms_M} {b : Nat} {B : Nat → Int} {n : Nat} {f : Nat → Int} {m : Nat}
theorem kn_w {c : Nat} (hc : c < 8) : kn_A c + kn_L c + 1 = kn_A (c + 1) ∧ kn_A (c + 1) ≤ 76 ∧ kn_C (kn_A c + kn_L c) = 32 ∧ ∀ i, i < kn_L c → 33 ≤ kn_C (kn_A c + i) ∧ kn_C (kn_A c + i) ≤ 126 := by
  have h := List.all_eq_true.mp kn_sp c (List.mem_range.mpr hc)
  rw [Bool.and_eq_true, Bool.and_eq_true, Bool.and_eq_true, decide_eq_true_iff, decide_eq_true_iff, decide_eq_true_iff] at h
  exact ⟨h.1.1, h.1.2, h.2.1, fun i hi => of_decide_eq_true (List.all_eq_true.mp h.2.2 i (List.mem_range.mpr hi))⟩
set_option maxRecDepth 100000 in
theorem kn_l1 : (List.range 8).all (fun c => Nat.ble 1 (kn_L c)) = true := by decide +kernel
theorem kn_eq {c d : Nat} (hc : c < 8) (hd : d < 8) (a : KNm f m c) (e : KNm f m d) : c = d := by
  have h := List.all_eq_true.mp (List.all_eq_true.mp kn_di c (List.mem_range.mpr hc)) d (List.mem_range.mpr hd)
  rw [Bool.or_eq_true, Bool.or_eq_true] at h
  rcases h with h | h | h
  · exact Nat.eq_of_beq_eq_true h
  · rw [← a.1, ← e.1, Nat.beq_refl] at h; cases h
  · exfalso
    have k : (List.range (kn_L c)).all (fun i => decide (kn_C (kn_A c + i) = kn_C (kn_A d + i))) = true := by
      refine List.all_eq_true.mpr (fun i hi => decide_eq_true ?_)
      have hi := List.mem_range.mp hi
      rw [← a.2 i (by have := a.1; omega), ← e.2 i (by have := a.1; omega)]
    rw [k] at h; cases h
theorem kn_c3 {j : Nat} (hj : j < 76) : cx_ (1000000000 + 3) ((j + 1 : Nat) : Int) = kn_C j := of_decide_eq_true (List.all_eq_true.mp kn_3 j (List.mem_range.mpr hj))
/-- the first j letters are those of the name c -/
def GDm (f : Nat → Int) (m c j : Nat) : Prop := j ≤ m ∧ ∀ i, i < j → f i = kn_C (kn_A c + i)
/-- what builtIn answers -/
def QBi (f : Nat → Int) (m : Nat) (u : Int) : Prop := (∃ c : Nat, c < 8 ∧ u = (c : Int) ∧ KNm f m c) ∨ (u = -1 ∧ ∀ c : Nat, c < 8 → ¬ KNm f m c)
theorem bi_8 (I : sr_I M b B n) {a s : Nat} (ha : a ≤ s) (hs : s ≤ n) : ∀ (k c j : Nat) (l4 : Int), c < 8 → j ≤ kn_L c → (∀ d, d < c → ¬ KNm (fun i => B (a + i)) (s - a) d) → ((GDm (fun i => B (a + i)) (s - a) c j ∧ l4 = ((a + j : Nat) : Int)) ∨ (¬ GDm (fun i => B (a + i)) (s - a) c j ∧ l4 = -1)) → Pc (qw_X3_builtIn_8 nn k b (a : Int) (s : Int) (c : Int) l4 ((kn_A c + j : Nat) : Int) M) (QBi (fun i => B (a + i)) (s - a)) := by
  intro k
  induction k with
  | zero => intros; exact pc_none
  | succ k ih =>
    intro c j l4 hc hj hd hl
    have w := kn_w hc
    have n6 := I.2.1
    unfold qw_X3_builtIn_8
    show Pc (if (76 : Int) ≤ ((kn_A c + j : Nat) : Int) then _ else _) _
    refine pc_if (fun z => absurd z (by omega)) (fun _ => ?_)
    rw [xt_1 (by omega) (by omega)]
    show Pc (if kn_C (kn_A c + j) = 32 then _ else _) _
    by_cases q : j = kn_L c
    · rw [q] at hl ⊢
      rw [if_pos w.2.2.1]
      have K : KNm (fun i => B (a + i)) (s - a) c ↔ l4 = (s : Int) := by
        rcases hl with ⟨g, e⟩ | ⟨g, e⟩
        · refine ⟨fun z => ?_, fun z => ⟨by omega, fun i hi => g.2 i (by omega)⟩⟩
          have := z.1; omega
        · refine ⟨fun z => absurd ⟨by have := z.1; omega, fun i hi => z.2 i (by have := z.1; omega)⟩ g, fun z => by omega⟩
      refine pc_if (fun y => ?_) (fun y => pc_ret (.inl ⟨c, hc, rfl, K.2 (Decidable.not_not.1 y)⟩))
      have no : ¬ KNm (fun i => B (a + i)) (s - a) c := fun z => y (K.1 z)
      refine pc_add (by omega) ?_; intro v6 e6
      refine pc_add (by omega) ?_; intro v7 e7
      by_cases c7 : c = 7
      · -- behind the last name
        have e76 : v7 = 76 := by
          have : kn_A (c + 1) = 76 := by rw [c7]; rfl
          omega
        cases k with
        | zero => exact pc_none
        | succ k =>
          unfold qw_X3_builtIn_8
          rw [e76]
          show Pc (some (-1 : Int)) _
          refine pc_ret (.inr ⟨rfl, fun d d8 => ?_⟩)
          by_cases qd : d = c
          · rw [qd]; exact no
          · exact hd d (by omega)
      · rw [show v6 = ((c + 1 : Nat) : Int) by omega, show v7 = ((kn_A (c + 1) + 0 : Nat) : Int) by omega]
        refine ih (c + 1) 0 (a : Int) (by omega) (Nat.zero_le _) (fun d d8 => ?_) (.inl ⟨⟨Nat.zero_le _, fun i hi => absurd hi (Nat.not_lt_zero i)⟩, by omega⟩)
        by_cases qd : d = c
        · rw [qd]; exact no
        · exact hd d (by omega)
    · have lt := w.2.2.2 j (by omega)
      rw [if_neg (by omega)]
      have bad : ¬ GDm (fun i => B (a + i)) (s - a) c (j + 1) → Pc (qj_X3_builtIn_70 nn (qw_X3_builtIn_8 nn k) b (a : Int) (s : Int) (c : Int) l4 ((kn_A c + j : Nat) : Int) M) (QBi (fun i => B (a + i)) (s - a)) := fun z => by
        unfold qj_X3_builtIn_70 qj_X3_builtIn_71
        rw [if_pos rfl]
        unfold qj_X3_builtIn_86
        refine pc_add (by omega) ?_; intro v1 e1
        rw [show v1 = ((kn_A c + (j + 1) : Nat) : Int) by omega]
        exact ih c (j + 1) (-1) hc (by omega) hd (.inr ⟨z, rfl⟩)
      have up : ∀ z : GDm (fun i => B (a + i)) (s - a) c (j + 1), GDm (fun i => B (a + i)) (s - a) c j := fun z => ⟨by have := z.1; omega, fun i hi => z.2 i (by omega)⟩
      refine pc_if (fun z => bad ?_) (fun z => pc_if (fun z2 => bad ?_) (fun z2 => ?_))
      · rcases hl with ⟨g, e⟩ | ⟨g, e⟩
        · omega
        · exact fun y => g (up y)
      · rcases hl with ⟨g, e⟩ | ⟨g, e⟩
        · intro y; have := y.1; omega
        · exact fun y => g (up y)
      · rcases hl with ⟨g, e⟩ | ⟨g, e⟩
        · rw [I.2.2.1]
          refine pc_if (fun z3 => absurd z3 (by omega)) (fun _ => pc_ck (fun _ => pc_rT (fun v11 e11 => ?_)))
          have e11 : v11 = M (M b 0).toNat (a + j) := by rw [e11, e]; rfl
          have r8 := I.2.2.2.2.2.2.2 (a + j) (by omega)
          rw [← e11] at r8
          refine pc_if (fun y => bad (fun x => y ?_)) (fun y => ?_)
          · have := x.2 j (by omega)
            show v11 = kn_C (kn_A c + j)
            have t : B (a + j) = kn_C (kn_A c + j) := this
            omega
          · have y : v11 = kn_C (kn_A c + j) := Decidable.not_not.1 y
            unfold qj_X3_builtIn_71
            rw [if_neg (by decide)]
            refine pc_add (by omega) ?_; intro v2 e2
            unfold qj_X3_builtIn_86
            refine pc_add (by omega) ?_; intro v1 e1
            rw [show v1 = ((kn_A c + (j + 1) : Nat) : Int) by omega]
            refine ih c (j + 1) v2 hc (by omega) hd (.inl ⟨⟨by have := g.1; omega, fun i hi => ?_⟩, by omega⟩)
            by_cases qi : i = j
            · rw [qi]; show B (a + j) = _; omega
            · exact g.2 i (by omega)
        · omega
theorem c_builtIn (I : sr_I M b B n) {a s : Nat} (ha : a ≤ s) (hs : s ≤ n) : Pc (qf_X3_builtIn nn b (a : Int) (s : Int) M) (QBi (fun i => B (a + i)) (s - a)) := by
  unfold qf_X3_builtIn
  exact bi_8 I ha hs nn 0 0 (a : Int) (by omega) (Nat.zero_le _) (fun d hd => absurd hd (Nat.not_lt_zero d)) (.inl ⟨⟨Nat.zero_le _, fun i hi => absurd hi (Nat.not_lt_zero i)⟩, by omega⟩)
theorem qb_det {u v : Int} (a : QBi f m u) (e : QBi f m v) : u = v := by
  rcases a with ⟨c, c8, rfl, k⟩ | ⟨rfl, k⟩
  · rcases e with ⟨d, d8, rfl, k2⟩ | ⟨rfl, k2⟩
    · rw [kn_eq c8 d8 k k2]
    · exact absurd k (k2 c c8)
  · rcases e with ⟨d, d8, rfl, k2⟩ | ⟨rfl, k2⟩
    · exact absurd k2 (k d d8)
    · rfl
/-- the reference's row x from a on is f -/
def RWt (M : ms_M) (x : Nat) (a : Int) (m : Nat) (f : Nat → Int) : Prop := 0 ≤ a ∧ a ≤ 100000 ∧ m ≤ 255 ∧ ∀ i, i < m → M x (a.toNat + i) = f i
theorem pc_rS {α : Type} {Q : α → Prop} {c : Nat} {j : Int} {G : Int → Option α} (q : ∀ v, v = M c j.toNat → Pc (G v) Q) : Pc (rd_S c j M G) Q := by
  intro r e
  unfold rd_S at e
  split at e
  · exact q _ rfl r e
  · cases e
theorem n_97 {x : Nat} {a : Int} (R : RWt M x a m f) {o : Nat} (ho : o + m + 1 ≤ 76) : ∀ (k : Nat) (l7 : Int) (j : Nat), j ≤ m → ((l7 = 1 ∧ ∀ i, i < j → f i = kn_C (o + i)) ∨ (l7 = 0 ∧ ¬ ∀ i, i < m → f i = kn_C (o + i))) → Pc (qw_X13_isNamed_97 nn k x a (m : Int) (o : Int) l7 (j : Int) M) (fun u => (u = 1 ∧ ∀ i, i < m → f i = kn_C (o + i)) ∨ (u = 0 ∧ ¬ ∀ i, i < m → f i = kn_C (o + i))) := by
  intro k
  induction k with
  | zero => intros; exact pc_none
  | succ k ih =>
    intro l7 j hj hl
    unfold qw_X13_isNamed_97
    refine pc_if (fun z => pc_ck (fun _ => pc_ret ?_)) (fun z => pc_if (fun z2 => pc_ck (fun _ => pc_ret ?_)) (fun z2 => ?_))
    · rcases hl with ⟨e, g⟩ | ⟨e, g⟩
      · exact .inl ⟨e, fun i hi => g i (by omega)⟩
      · exact .inr ⟨e, g⟩
    · rcases hl with ⟨e, g⟩ | ⟨e, g⟩
      · omega
      · exact .inr ⟨e, g⟩
    · rcases hl with ⟨e, g⟩ | ⟨e, g⟩
      · refine pc_add (by omega) ?_; intro v16 e16
        refine pc_add (by omega) ?_; intro v17 e17
        rw [xt_3 (by omega) (by omega), show v17 = ((o + j + 1 : Nat) : Int) by omega, kn_c3 (by omega)]
        refine pc_add (by have := R.1; have := R.2.1; have := R.2.2.1; omega) ?_; intro v19 e19
        refine pc_rS (fun v20 e20 => ?_)
        have e20 : v20 = f j := by
          rw [e20, show v19.toNat = a.toNat + j by have := R.1; omega]; exact R.2.2.2 j (by omega)
        refine pc_if (fun y => ?_) (fun y => ?_)
        · refine pc_add (by have := R.2.2.1; omega) ?_; intro v21 e21
          rw [show v21 = ((j + 1 : Nat) : Int) by omega]
          exact ih 0 (j + 1) (by omega) (.inr ⟨rfl, fun x => y (by have := x j (by omega); omega)⟩)
        · refine pc_add (by have := R.2.2.1; omega) ?_; intro v21 e21
          rw [show v21 = ((j + 1 : Nat) : Int) by omega]
          refine ih 1 (j + 1) (by omega) (.inl ⟨rfl, fun i hi => ?_⟩)
          by_cases qi : i = j
          · rw [qi]; omega
          · exact g i (by omega)
      · omega
theorem n_97z {x : Nat} {a l4 l6 : Int} {k : Nat} {l8 : Int} : Pc (qw_X13_isNamed_97 nn k x a l4 l6 0 l8 M) (fun u => u = 0) := by
  cases k with
  | zero => exact pc_none
  | succ k =>
    unfold qw_X13_isNamed_97
    exact pc_if (fun _ => pc_ck (fun _ => pc_ret rfl)) (fun _ => pc_if (fun _ => pc_ck (fun _ => pc_ret rfl)) (fun z => absurd rfl z))
/-- the known name c of the reference, the text without blanks -/
theorem nk_12 {x : Nat} {a : Int} (R : RWt M x a m f) (hf : ∀ i, i < m → ¬ f i = 32) {c : Nat} (hc : c < 8) : ∀ (k d j : Nat) (l5 : Int), d ≤ c → (j = 0 ∧ l5 = (d : Int) - 1 ∨ 1 ≤ j ∧ j ≤ kn_L d ∧ l5 = (d : Int) ∧ d < c) → Pc (qw_X13_isNamed_12 nn k (c : Int) x a (m : Int) l5 ((kn_A d + j : Nat) : Int) M) (fun u => (u = 1 ∧ KNm f m c) ∨ (u = 0 ∧ ¬ KNm f m c)) := by
  intro k
  induction k with
  | zero => intros; exact pc_none
  | succ k ih =>
    intro d j l5 hd hj
    have w := kn_w (c := d) (by omega)
    have wc := kn_w hc
    have m255 := R.2.2.1
    have jl : j ≤ kn_L d := by omega
    unfold qw_X13_isNamed_12
    refine pc_add (by omega) ?_; intro v26 e26
    show Pc (if (77 : Int) ≤ v26 then _ else _) _
    refine pc_if (fun z => absurd z (by omega)) (fun _ => ?_)
    rw [xt_3 (by omega) (by omega)]
    by_cases j0 : j = 0
    · -- the blank ahead of the name d
      have l5e : l5 = (d : Int) - 1 := by omega
      have bl : cx_ (1000000000 + 3) ((kn_A d + j : Nat) : Int) = 32 := by
        rw [j0]
        by_cases d0 : d = 0
        · rw [d0]; exact kn_30
        · have w2 := kn_w (c := d - 1) (by omega)
          rw [show kn_A d + 0 = kn_A (d - 1) + kn_L (d - 1) + 1 by rw [Nat.add_zero, w2.1, show d - 1 + 1 = d by omega], kn_c3 (by omega)]
          exact w2.2.2.1
      rw [bl]
      refine pc_if (fun _ => ?_) (fun z => absurd rfl z)
      refine pc_add (by omega) ?_; intro v29 e29
      refine pc_if (fun y => ?_) (fun y => ?_)
      · have dc : d = c := by omega
        rw [j0, dc]
        refine pc_add (by omega) ?_; intro v30 e30
        refine pc_add (by omega) ?_; intro v31 e31
        show Pc (if (77 : Int) ≤ v31 then _ else _) _
        have noK : ¬ kn_A c + m ≤ 75 → ¬ KNm f m c := fun z y2 => by have := y2.1; omega
        refine pc_if (fun z => ?_) (fun z => ?_)
        · unfold qj_X13_isNamed_91
          exact pc_imp n_97z (fun u q => .inr ⟨q, noK (by omega)⟩)
        · refine pc_add (by omega) ?_; intro v33 e33
          refine pc_add (by omega) ?_; intro v34 e34
          rw [xt_3 (by omega) (by omega), show v34 = ((kn_A c + m + 1 : Nat) : Int) by omega, kn_c3 (by omega)]
          refine pc_if (fun y2 => ?_) (fun y2 => ?_)
          · unfold qj_X13_isNamed_91
            exact pc_imp n_97z (fun u q => .inr ⟨q, fun y3 => y2 (by rw [y3.1]; exact wc.2.2.1)⟩)
          · have y2 := Decidable.not_not.1 y2
            rw [show (((kn_A c + 0 : Nat)) : Int) = (kn_A c : Int) by omega]
            refine pc_imp (n_97 R (o := kn_A c) (by omega) nn 1 0 (Nat.zero_le _) (.inl ⟨rfl, fun i hi => absurd hi (Nat.not_lt_zero i)⟩)) (fun u q => ?_)
            have key : (∀ i, i < m → f i = kn_C (kn_A c + i)) ↔ KNm f m c := by
              refine ⟨fun z3 => ⟨?_, z3⟩, fun z3 => z3.2⟩
              rcases Nat.lt_trichotomy m (kn_L c) with lt | eq | gt
              · have := wc.2.2.2 m lt; omega
              · exact eq
              · exfalso
                have := z3 (kn_L c) gt
                rw [wc.2.2.1] at this
                exact hf _ gt this
            rcases q with ⟨q1, q2⟩ | ⟨q1, q2⟩
            · exact .inl ⟨q1, key.1 q2⟩
            · exact .inr ⟨q1, fun z3 => q2 (key.2 z3)⟩
      · refine pc_add (by omega) ?_; intro v38 e38
        have l1 : 1 ≤ kn_L d := Nat.le_of_ble_eq_true (List.all_eq_true.mp kn_l1 d (List.mem_range.mpr (by omega)))
        rw [j0] at e38
        rw [show v38 = ((kn_A d + 1 : Nat) : Int) by omega]
        exact ih d 1 v29 hd (.inr ⟨by omega, l1, by omega, by omega⟩)
    · have l5e : l5 = (d : Int) ∧ d < c := by omega
      have ch : cx_ (1000000000 + 3) ((kn_A d + j : Nat) : Int) = kn_C (kn_A d + (j - 1)) := by
        rw [show kn_A d + j = kn_A d + (j - 1) + 1 by omega]; exact kn_c3 (by omega)
      have ne := w.2.2.2 (j - 1) (by omega)
      rw [ch]
      refine pc_if (fun z => absurd z (by omega)) (fun _ => ?_)
      refine pc_add (by omega) ?_; intro v40 e40
      by_cases je : j = kn_L d
      · rw [show v40 = ((kn_A (d + 1) + 0 : Nat) : Int) by omega]
        exact ih (d + 1) 0 l5 (by omega) (.inl ⟨rfl, by omega⟩)
      · rw [show v40 = ((kn_A d + (j + 1) : Nat) : Int) by omega]
        exact ih d (j + 1) l5 hd (.inr ⟨by omega, by omega, by omega, by omega⟩)
theorem r_known {x : Nat} {a : Int} (R : RWt M x a m f) (hf : ∀ i, i < m → ¬ f i = 32) {c : Nat} (hc : c < 8) : Pc (qf_X13_isNamed nn (c : Int) x a (m : Int) M) (fun u => (u = 1 ∧ KNm f m c) ∨ (u = 0 ∧ ¬ KNm f m c)) := by
  unfold qf_X13_isNamed
  refine pc_if (fun z => absurd z (by omega)) (fun _ => ?_)
  exact nk_12 R hf hc nn 0 0 (-1) (Nat.zero_le _) (.inl ⟨rfl, by omega⟩)
end
end
section
/- NAMES OF BOTH SIDES: the classes of the space -/
section
variable {nn : Nat} {M M2 : ms_M} {b b2 : Nat} {B C : Nat → Int} {n n2 : Nat} {f : Nat → Int} {m : Nat} {c : Int}
/-- the reference's tables of class c -/
def TBr (c : Int) (n : Nat) (B : Nat → Int) (M : ms_M) : Prop := (M 227 c.toNat = (n : Int) ∧ n ≤ 6000 ∧ (∀ i, i < n → M 226 (6000 * c.toNat + i) = B i) ∧ (∀ i, i < n → 0 ≤ B i ∧ B i ≤ 255)) ∧ (M 229 c.toNat = B 2 ∧ (0 ≤ B 2 ∧ B 2 ≤ 255) ∧ (∀ k : Int, 1 ≤ k → k ≤ B 2 → M 228 (256 * c + k).toNat = (pl_S B n k : Int)) ∧ ∀ k : Int, 1 ≤ k → k ≤ B 2 → KVs B n k) ∧ ∃ p q, kk_S B n = .inr p ∧ (by_S B n (pc_S B n) p = .inr (p + 1) ∧ by_S B n (pc_S B n) (p + 1) = .inr (p + 2) ∧ fs_S B n (p + 2) = .inr q ∧ mm_S B n q = .inr n) ∧ (M 230 c.toNat = B p ∧ M 231 c.toNat = B (p + 1)) ∧ (M 232 c.toNat = B (p + 2) ∧ FAt c (p + 3) (B (p + 2)) M) ∧ (M 234 c.toNat = B q ∧ ∀ i : Nat, (i : Int) < B q → ∃ x y h f, mq_S B n (q + 1) i = some x ∧ MPl B n x h f y ∧ M 235 (12 * c + i).toNat = (x : Int) ∧ M 236 (12 * c + i).toNat = (h : Int) ∧ M 237 (12 * c + i).toNat = (f : Int))
/-- the TEXT of its own name, of the one above; where the name's bytes are, how many -/
def own_S (B : Nat → Int) (n : Nat) : Int := match kk_S B n with
  | .inr p => pt_S B n (B p) 0
  | .inl _ => 0
def nu_S (B : Nat → Int) (n : Nat) : Int := match kk_S B n with
  | .inr p => pt_S B n (B (p + 1)) 0
  | .inl _ => 0
def na_S (B : Nat → Int) (n : Nat) (k : Int) : Nat := pl_S B n k + 2
/-- the text f is that of constant k -/
def UNm (f : Nat → Int) (m : Nat) (B : Nat → Int) (n : Nat) (k : Int) : Prop := m = tl_S B n k ∧ ∀ i, i < m → f i = B (na_S B n k + i)
/-- constants were checked -/
theorem kk_ck {p : Nat} (zk : kk_S B n = .inr p) (h2 : 0 ≤ B 2) {k : Int} (h : 1 ≤ k ∧ k ≤ B 2) : ck_S B n k = none := by
  unfold kk_S at zk
  obtain ⟨x, -, zk⟩ := bd_inr zk
  cases z : cks_S B n (B 2).toNat 1 with
  | some e => rw [z] at zk; cases zk
  | none => exact csa_S _ _ z k h.1 (by omega)
/-- a class that is no array has a name: its text -/
theorem pc_tx {p x : Nat} {k : Int} (zk : kk_S B n = .inr x) (h2 : 0 ≤ B 2) (h : pc_S B n k = true) : tg_S B n (pt_S B n k 0) = 1 ∧ nm_S B n (pt_S B n k 0) = true := by
  unfold pc_S cl_S at h
  rw [Bool.and_eq_true, decide_eq_true_iff, Bool.not_eq_true'] at h
  have w := tg_in (B := B) (n := n) (k := k) (by omega)
  have ck := kk_ck zk h2 ⟨w.1, w.2.1⟩
  refine ⟨ck_cl ck h.1, ?_⟩
  unfold ck_S at ck
  rw [if_pos h.1] at ck
  by_cases y : (nm_S B n (pt_S B n k 0) || (ar_S B n (pt_S B n k 0) && fk_S B n (pt_S B n k 0))) = true
  · rw [h.2, Bool.false_and, Bool.or_false] at y; exact y
  · rw [if_neg y] at ck; cases ck
theorem c_same (I : sr_I M b B n) (J : sr_I M b2 C n2) {p s p2 s2 : Nat} (h1 : p ≤ s ∧ s ≤ n) (h2 : p2 ≤ s2 ∧ s2 ≤ n2) : Pc (qf_X3_sameBytes nn b (p : Int) (s : Int) b2 (p2 : Int) (s2 : Int) M) (fun u => (u = 1 ∧ (s - p = s2 - p2 ∧ ∀ i, i < s - p → B (p + i) = C (p2 + i))) ∨ (u = 0 ∧ ¬ (s - p = s2 - p2 ∧ ∀ i, i < s - p → B (p + i) = C (p2 + i)))) := by
  have n6 := I.2.1
  have n7 := J.2.1
  have lz : ∀ k j, Pc (qw_X3_sameBytes_47 nn k b (p : Int) (s : Int) b2 (p2 : Int) 0 j M) (fun u => u = 0) := fun k j => by
    cases k with
    | zero => exact pc_none
    | succ k =>
      unfold qw_X3_sameBytes_47
      exact pc_xl (fun _ _ => pc_if (fun _ => pc_ck (fun _ => pc_ret rfl)) (fun _ => pc_if (fun _ => pc_ck (fun _ => pc_ret rfl)) (fun z => absurd rfl z)))
  have l1 : s - p = s2 - p2 → ∀ (k j : Nat), j ≤ s - p → (∀ i, i < j → B (p + i) = C (p2 + i)) → Pc (qw_X3_sameBytes_47 nn k b (p : Int) (s : Int) b2 (p2 : Int) 1 (j : Int) M) (fun u => (u = 1 ∧ ∀ i, i < s - p → B (p + i) = C (p2 + i)) ∨ (u = 0 ∧ ¬ ∀ i, i < s - p → B (p + i) = C (p2 + i))) := by
    intro el k
    induction k with
    | zero => intros; exact pc_none
    | succ k ih =>
      intro j hj hg
      unfold qw_X3_sameBytes_47
      refine pc_sub (by omega) ?_; intro v1 e1
      refine pc_if (fun z => pc_ck (fun _ => pc_ret (.inl ⟨rfl, fun i hi => hg i (by omega)⟩))) (fun z => pc_if (fun z2 => absurd z2 (by decide)) (fun _ => ?_))
      refine pc_ck (fun _ => pc_add (by omega) ?_); intro v5 e5
      refine pc_rT (fun v6 e6 => pc_ck (fun _ => pc_ck (fun _ => pc_add (by omega) ?_))); intro v8 e8
      refine pc_rT (fun v9 e9 => ?_)
      have r1 := I.2.2.2.2.2.2.2 (p + j) (by omega)
      have r2 := J.2.2.2.2.2.2.2 (p2 + j) (by omega)
      have e6 : v6 = M (M b 0).toNat (p + j) := by rw [e6, show v5.toNat = p + j by omega]
      have e9 : v9 = M (M b2 0).toNat (p2 + j) := by rw [e9, show v8.toNat = p2 + j by omega]
      rw [← e6] at r1
      rw [← e9] at r2
      refine pc_if (fun y => ?_) (fun y => ?_)
      · refine pc_xl (fun v10 _ => pc_imp (lz _ _) (fun u q => .inr ⟨q, fun x => ?_⟩))
        have := x j (by omega)
        omega
      · refine pc_add (by omega) ?_; intro v11 e11
        rw [show v11 = ((j + 1 : Nat) : Int) by omega]
        refine ih (j + 1) (by omega) (fun i hi => ?_)
        by_cases qi : i = j
        · rw [qi]; omega
        · exact hg i (by omega)
  unfold qf_X3_sameBytes
  refine pc_sub (by omega) ?_; intro v15 e15
  refine pc_sub (by omega) ?_; intro v16 e16
  rw [I.2.2.1, J.2.2.1]
  refine pc_if (fun z => ?_) (fun z => pc_if (fun z1 => absurd z1 (by omega)) (fun _ => pc_if (fun z2 => absurd z2 (by omega)) (fun _ => pc_if (fun z3 => absurd z3 (by omega)) (fun _ => pc_ck (fun _ => pc_if (fun z4 => absurd z4 (by omega)) (fun _ => ?_))))))
  · unfold qj_X3_sameBytes_41
    exact pc_imp (lz _ _) (fun u q => .inr ⟨q, fun y => z (by have := y.1; omega)⟩)
  · have el : s - p = s2 - p2 := by omega
    refine pc_imp (l1 el nn 0 (Nat.zero_le _) (fun i hi => absurd hi (Nat.not_lt_zero i))) (fun u q => ?_)
    rcases q with ⟨q1, q2⟩ | ⟨q1, q2⟩
    · exact .inl ⟨q1, el, q2⟩
    · exact .inr ⟨q1, fun y => q2 y.2⟩
/-- the text of constant k, of the class's side -/
theorem c_text (T : TTc b n B M) {k : Int} (q : tg_S B n k = 1) : qf_X3_textAt nn b k M = some ((na_S B n k : Nat) : Int) ∧ qf_X3_textEnd nn b k M = some ((na_S B n k + tl_S B n k : Nat) : Int) ∧ na_S B n k + tl_S B n k ≤ n := by
  obtain ⟨x, y, z⟩ := c_tx T q
  have hc : M b 7 ≤ 255 := x.1.2.2
  unfold na_S
  refine ⟨?_, ?_, z⟩
  · rw [textAt_ok hc, if_pos ⟨x.1.1, x.1.2.1⟩, x.2.2.1]
  · rw [textEnd_ok hc, if_pos ⟨x.1.1, x.1.2.1⟩, x.2.2.2]
/-- the classes of the space, on both sides: bytes Bf k, nf k of them -/
def SPf (Bf : Nat → Nat → Int) (nf : Nat → Nat) (M : ms_M) : Prop := ∀ k : Nat, (k : Int) < M 56 3 → IMc (M 60 k).toNat (nf k) (Bf k) M ∧ TBr (k : Int) (nf k) (Bf k) M
/-- what the class's lookup gives -/
def CLo (Bf : Nat → Nat → Int) (nf : Nat → Nat) (cnt : Int) (f : Nat → Int) (m : Nat) (u : Int) : Prop := (∃ k : Nat, (k : Int) < cnt ∧ u = 8 + (k : Int) ∧ UNm f m (Bf k) (nf k) (own_S (Bf k) (nf k)) ∧ ∀ j : Nat, j < k → ¬ UNm f m (Bf j) (nf j) (own_S (Bf j) (nf j))) ∨ (QBi f m u ∧ ∀ j : Nat, (j : Int) < cnt → ¬ UNm f m (Bf j) (nf j) (own_S (Bf j) (nf j)))
/-- what the reference's lookup gives -/
def CNo (Bf : Nat → Nat → Int) (nf : Nat → Nat) (cnt : Int) (f : Nat → Int) (m : Nat) (u : Int) : Prop := (∃ k : Nat, k < 8 ∧ u = (k : Int) ∧ KNm f m k) ∨ ((∀ k : Nat, k < 8 → ¬ KNm f m k) ∧ ((∃ k : Nat, (k : Int) < cnt ∧ u = 8 + (k : Int) ∧ UNm f m (Bf k) (nf k) (own_S (Bf k) (nf k)) ∧ ∀ j : Nat, j < k → ¬ UNm f m (Bf j) (nf j) (own_S (Bf j) (nf j))) ∨ (u = -1 ∧ ∀ j : Nat, (j : Int) < cnt → ¬ UNm f m (Bf j) (nf j) (own_S (Bf j) (nf j)))))
/-- no class of the space has a known name -/
def NKn (Bf : Nat → Nat → Int) (nf : Nat → Nat) (cnt : Int) : Prop := ∀ j : Nat, (j : Int) < cnt → ∀ k : Nat, k < 8 → ¬ KNm (fun i => Bf j (na_S (Bf j) (nf j) (own_S (Bf j) (nf j)) + i)) (tl_S (Bf j) (nf j) (own_S (Bf j) (nf j))) k
theorem kn_un {k : Nat} {t : Int} (a : KNm f m k) (e : UNm f m B n t) : KNm (fun i => B (na_S B n t + i)) (tl_S B n t) k := by
  refine ⟨by rw [← e.1]; exact a.1, fun i hi => ?_⟩
  have := e.2 i (by rw [e.1]; exact hi)
  dsimp only; rw [← this]; exact a.2 i (by rw [e.1]; exact hi)
theorem cl_cn {Bf : Nat → Nat → Int} {nf : Nat → Nat} {cnt u v : Int} (N : NKn Bf nf cnt) (a : CLo Bf nf cnt f m u) (e : CNo Bf nf cnt f m v) : u = v := by
  rcases a with ⟨k, k1, rfl, k2, k3⟩ | ⟨q, k1⟩
  · rcases e with ⟨d, d8, rfl, d2⟩ | ⟨d1, ⟨j, j1, rfl, j2, j3⟩ | ⟨rfl, j2⟩⟩
    · exact absurd (kn_un d2 k2) (N k k1 d d8)
    · rcases Nat.lt_trichotomy k j with lt | rfl | gt
      · exact absurd k2 (j3 k lt)
      · rfl
      · exact absurd j2 (k3 j gt)
    · exact absurd k2 (j2 k k1)
  · rcases e with ⟨d, d8, rfl, d2⟩ | ⟨d1, ⟨j, j1, rfl, j2, j3⟩ | ⟨rfl, j2⟩⟩
    · rcases q with ⟨x, x8, rfl, x2⟩ | ⟨rfl, x2⟩
      · rw [kn_eq x8 d8 x2 d2]
      · exact absurd d2 (x2 d d8)
    · exact absurd j2 (k1 j j1)
    · rcases q with ⟨x, x8, rfl, x2⟩ | ⟨rfl, x2⟩
      · exact absurd x2 (d1 x x8)
      · rfl
/-- its own name: what IMc tells -/
theorem im_no (X : IMc b n B M) : tg_S B n (own_S B n) = 1 ∧ M b 8 = own_S B n ∧ tg_S B n (nu_S B n) = 1 ∧ M b 9 = nu_S B n ∧ nm_S B n (own_S B n) = true := by
  obtain ⟨T, p, q, zk, ⟨y1, y2, -, -⟩, ⟨e8, e9⟩, -⟩ := X
  have a1 := (by_le y1).2.2
  have a2 := (by_le y2).2.2
  have h2 := T.2.2.1.1
  have n1 : own_S B n = pt_S B n (B p) 0 := by unfold own_S; rw [zk]
  have n2 : nu_S B n = pt_S B n (B (p + 1)) 0 := by unfold nu_S; rw [zk]
  have w1 := pc_tx (p := p) zk h2 a1
  have w2 := pc_tx (p := p) zk h2 a2
  rw [n1, n2]
  exact ⟨w1.1, e8, w2.1, e9, w1.2⟩
theorem un_eq {p s : Nat} (hp : p ≤ s) {k : Int} : (na_S B n k + tl_S B n k - na_S B n k = s - p ∧ ∀ i, i < na_S B n k + tl_S B n k - na_S B n k → B (na_S B n k + i) = C (p + i)) ↔ UNm (fun i => C (p + i)) (s - p) B n k := by
  have e : na_S B n k + tl_S B n k - na_S B n k = tl_S B n k := by omega
  rw [e]
  refine ⟨fun z => ⟨z.1.symm, fun i hi => (z.2 i (by omega)).symm⟩, fun z => ⟨z.1.symm, fun i hi => (z.2 i (by have := z.1; omega)).symm⟩⟩
/-- THE CLASS'S LOOKUP -/
theorem c_classOf {Bf : Nat → Nat → Int} {nf : Nat → Nat} (S : ∀ k : Nat, (k : Int) < M 56 3 → IMc (M 60 k).toNat (nf k) (Bf k) M) (g3 : 0 ≤ M 56 3 ∧ M 56 3 ≤ 8) (J : sr_I M b2 C n2) {p s : Nat} (hp : p ≤ s ∧ s ≤ n2) : ∀ (f k : Nat), (∀ j : Nat, j < k → ¬ UNm (fun i => C (p + i)) (s - p) (Bf j) (nf j) (own_S (Bf j) (nf j))) → (k : Int) ≤ M 56 3 → Pc (qw_X7_classOf_3 nn f b2 (p : Int) (s : Int) (k : Int) M) (CLo Bf nf (M 56 3) (fun i => C (p + i)) (s - p)) := by
  intro f
  induction f with
  | zero => intros; exact pc_none
  | succ f ih =>
    intro k hk hl
    unfold qw_X7_classOf_3
    refine pc_if (fun z => pc_ck (fun _ => ?_)) (fun z => ?_)
    · refine pc_sv (c_builtIn J hp.1 hp.2) ?_; intro u3 q3
      exact pc_ret (.inr ⟨q3, fun j hj => hk j (by omega)⟩)
    · have X := S k (by omega)
      obtain ⟨t1, e8, -⟩ := im_no X
      obtain ⟨a1, a2, a3⟩ := c_text (nn := nn) X.1 t1
      refine pc_rA ?_; intro i1 i2 v5 e5
      rw [Int.toNat_natCast] at e5
      refine pc_ck (fun _ => pc_ck (fun _ => pc_rA (fun _ _ v9 e9 => pc_rA (fun _ _ v11 e11 => pc_ck (fun _ => pc_ck (fun _ => ?_))))))
      rw [Int.toNat_natCast] at e9 e11
      rw [e5, e11, e8, a1, mx_svs]
      refine pc_rA (fun _ _ v16 e16 => pc_ck (fun _ => pc_ck (fun _ => ?_)))
      rw [Int.toNat_natCast] at e16
      rw [e16, a2, mx_svs, e9]
      refine pc_ck (fun _ => pc_ck (fun _ => ?_))
      refine pc_sv (c_same X.1.1 J ⟨by omega, a3⟩ hp) ?_; intro u22 q22
      rw [un_eq hp.1] at q22
      refine pc_if (fun y => ?_) (fun y => ?_)
      · refine pc_add (by omega) ?_; intro v23 e23
        rw [show v23 = ((k + 1 : Nat) : Int) by omega]
        refine ih (k + 1) (fun j hj => ?_) (by omega)
        by_cases qj : j = k
        · rw [qj]
          rcases q22 with ⟨q1, -⟩ | ⟨-, q2⟩
          · omega
          · exact q2
        · exact hk j (by omega)
      · refine pc_add (by omega) ?_; intro v24 e24
        refine pc_ret (.inl ⟨k, by omega, e24, ?_, hk⟩)
        rcases q22 with ⟨-, q2⟩ | ⟨q1, -⟩
        · exact q2
        · exact absurd q1 y
/- the reference's -/
theorem n_184 {x : Nat} {a : Int} (R : RWt M x a m f) {o : Nat} (ho : o + 1 + m ≤ 100000) : ∀ (k : Nat) (l6 : Int) (j : Nat), j ≤ m → ((l6 = 1 ∧ ∀ i, i < j → f i = M 226 (o + 1 + i)) ∨ (l6 = 0 ∧ ¬ ∀ i, i < m → f i = M 226 (o + 1 + i))) → Pc (qw_X13_isNamed_184 nn k x a (m : Int) (o : Int) l6 (j : Int) M) (fun u => (u = 1 ∧ ∀ i, i < m → f i = M 226 (o + 1 + i)) ∨ (u = 0 ∧ ¬ ∀ i, i < m → f i = M 226 (o + 1 + i))) := by
  intro k
  induction k with
  | zero => intros; exact pc_none
  | succ k ih =>
    intro l7 j hj hl
    unfold qw_X13_isNamed_184
    refine pc_if (fun z => pc_ck (fun _ => pc_ret ?_)) (fun z => pc_if (fun z2 => pc_ck (fun _ => pc_ret ?_)) (fun z2 => ?_))
    · rcases hl with ⟨e, g⟩ | ⟨e, g⟩
      · exact .inl ⟨e, fun i hi => g i (by omega)⟩
      · exact .inr ⟨e, g⟩
    · rcases hl with ⟨e, g⟩ | ⟨e, g⟩
      · omega
      · exact .inr ⟨e, g⟩
    · rcases hl with ⟨e, g⟩ | ⟨e, g⟩
      · refine pc_add (by omega) ?_; intro v4 e4
        refine pc_add (by omega) ?_; intro v5 e5
        refine pc_rA ?_; intro i1 i2 v6 e6
        rw [show v5.toNat = o + 1 + j by omega] at e6
        refine pc_add (by have := R.1; have := R.2.1; have := R.2.2.1; omega) ?_; intro v7 e7
        refine pc_rS (fun v8 e8 => ?_)
        have e8 : v8 = f j := by
          rw [e8, show v7.toNat = a.toNat + j by have := R.1; omega]; exact R.2.2.2 j (by omega)
        refine pc_if (fun y => ?_) (fun y => ?_)
        · refine pc_add (by have := R.2.2.1; omega) ?_; intro v21 e21
          rw [show v21 = ((j + 1 : Nat) : Int) by omega]
          exact ih 0 (j + 1) (by omega) (.inr ⟨rfl, fun x => y (by have := x j (by omega); omega)⟩)
        · refine pc_add (by have := R.2.2.1; omega) ?_; intro v21 e21
          rw [show v21 = ((j + 1 : Nat) : Int) by omega]
          refine ih 1 (j + 1) (by omega) (.inl ⟨rfl, fun i hi => ?_⟩)
          by_cases qi : i = j
          · rw [qi]; omega
          · exact g i (by omega)
      · omega
theorem n_184z {x : Nat} {a l4 l5 : Int} {k : Nat} {l7 : Int} : Pc (qw_X13_isNamed_184 nn k x a l4 l5 0 l7 M) (fun u => u = 0) := by
  cases k with
  | zero => exact pc_none
  | succ k =>
    unfold qw_X13_isNamed_184
    exact pc_if (fun _ => pc_ck (fun _ => pc_ret rfl)) (fun _ => pc_if (fun _ => pc_ck (fun _ => pc_ret rfl)) (fun z => absurd rfl z))
/-- what TBr tells of the own name -/
theorem tb_no (X : TBr c n B M) : ∃ p, kk_S B n = .inr p ∧ (p < n ∧ p + 1 < n) ∧ M 230 c.toNat = B p ∧ M 231 c.toNat = B (p + 1) ∧ (1 ≤ B p ∧ B p ≤ 255 ∧ B p ≤ B 2) ∧ (1 ≤ B (p + 1) ∧ B (p + 1) ≤ 255 ∧ B (p + 1) ≤ B 2) ∧ own_S B n = pt_S B n (B p) 0 ∧ nu_S B n = pt_S B n (B (p + 1)) 0 ∧ tg_S B n (B p) = 3 ∧ tg_S B n (B (p + 1)) = 3 ∧ tg_S B n (own_S B n) = 1 ∧ tg_S B n (nu_S B n) = 1 ∧ nm_S B n (own_S B n) = true := by
  obtain ⟨-, ⟨x1, x2, x3, x4⟩, p, q, zk, ⟨y1, y2, -, -⟩, ⟨e8, e9⟩, -⟩ := X
  have a1 := by_le y1
  have a2 := by_le y2
  have n1 : own_S B n = pt_S B n (B p) 0 := by unfold own_S; rw [zk]
  have n2 : nu_S B n = pt_S B n (B (p + 1)) 0 := by unfold nu_S; rw [zk]
  have w1 := pc_tx (p := p) zk x2.1 a1.2.2
  have w2 := pc_tx (p := p) zk x2.1 a2.2.2
  have c1 : tg_S B n (B p) = 3 := by
    have z := a1.2.2; unfold pc_S cl_S at z; rw [Bool.and_eq_true, decide_eq_true_iff] at z; exact z.1
  have c2 : tg_S B n (B (p + 1)) = 3 := by
    have z := a2.2.2; unfold pc_S cl_S at z; rw [Bool.and_eq_true, decide_eq_true_iff] at z; exact z.1
  have t1 := tg_in (B := B) (n := n) (k := B p) (by omega)
  have t2 := tg_in (B := B) (n := n) (k := B (p + 1)) (by omega)
  rw [n1, n2]
  exact ⟨p, zk, ⟨a1.2.1, a2.2.1⟩, e8, e9, ⟨t1.1, by omega, t1.2.1⟩, ⟨t2.1, by omega, t2.2.1⟩, rfl, rfl, c1, c2, w1.1, w2.1, w1.2⟩
theorem r_nameAt {k : Nat} (hk : k < 8) (X : TBr (k : Int) n B M) : Pc (qf_X13_nameAt nn (8 + (k : Int)) M) (fun u => u = ((6000 * k + pl_S B n (own_S B n) + 1 : Nat) : Int)) := by
  obtain ⟨p, zk, hp, h230, h231, b1, b2, n1, n2, c1, c2, t1, t2, -⟩ := tb_no X
  obtain ⟨⟨s1, s2, s3, s4⟩, ⟨x1, x2, x3, x4⟩, -⟩ := X
  have w1 := x4 (B p) b1.1 b1.2.2
  have tp : B (pl_S B n (B p)) = 3 := by have := tg_in (B := B) (n := n) (k := B p) (by omega); omega
  have v3 := w1.2.2.1 tp
  have no := tg_in (B := B) (n := n) (k := own_S B n) (by omega)
  have w2 := x4 (own_S B n) no.1 no.2.1
  rw [Int.toNat_natCast] at h230 s3
  unfold qf_X13_nameAt
  refine pc_sub (by omega) ?_; intro v1 e1
  have e1 : v1 = (k : Int) := by omega
  rw [e1]
  refine pc_xl ?_; intro v2 e2
  rw [oq_mul_eq (by omega) (by omega) (by omega)] at e2
  refine pc_xl ?_; intro v4 e4
  rw [oq_mul_eq (by omega) (by omega) (by omega)] at e4
  refine pc_rA ?_; intro i1 i2 v6 e6
  rw [Int.toNat_natCast, h230] at e6
  refine pc_add (by omega) ?_; intro v7 e7
  refine pc_rA ?_; intro j1 j2 v8 e8
  have e8 : v8 = (pl_S B n (B p) : Int) := by
    rw [e8, show v7.toNat = (256 * (k : Int) + B p).toNat by omega]; exact x3 (B p) b1.1 b1.2.2
  refine pc_add (by omega) ?_; intro v9 e9
  refine pc_xl ?_; intro v10 e10
  rw [oq_mul_eq (by omega) (by omega) (by omega)] at e10
  refine pc_xl ?_; intro v12 e12
  rw [oq_mul_eq (by omega) (by omega) (by omega)] at e12
  refine pc_add (by omega) ?_; intro v14 e14
  refine pc_rA ?_; intro k1 k2 v15 e15
  have e15 : v15 = own_S B n := by
    rw [e15, show v14.toNat = 6000 * k + (pl_S B n (B p) + 1) by omega, s3 _ (by omega), n1]; rfl
  refine pc_add (by omega) ?_; intro v16 e16
  refine pc_rA ?_; intro l1 l2 v17 e17
  have e17 : v17 = (pl_S B n (own_S B n) : Int) := by
    rw [e17, show v16.toNat = (256 * (k : Int) + own_S B n).toNat by omega]; exact x3 _ no.1 no.2.1
  have := w2.1
  refine pc_add (by omega) ?_; intro v18 e18
  refine pc_add (by omega) ?_; intro v19 e19
  refine pc_ret ?_
  show v19 = _
  omega
theorem r_user {x : Nat} {a : Int} (R : RWt M x a m f) {k : Nat} (hk : k < 8) (X : TBr (k : Int) n B M) : Pc (qf_X13_isNamed nn (8 + (k : Int)) x a (m : Int) M) (fun u => (u = 1 ∧ UNm f m B n (own_S B n)) ∨ (u = 0 ∧ ¬ UNm f m B n (own_S B n))) := by
  obtain ⟨p, zk, hp, h230, h231, b1, b2, n1, n2, c1, c2, t1, t2, -⟩ := tb_no X
  have X0 := X
  obtain ⟨⟨s1, s2, s3, s4⟩, ⟨x1, x2, x3, x4⟩, -⟩ := X
  have no := tg_in (B := B) (n := n) (k := own_S B n) (by omega)
  obtain ⟨w1, w2, -⟩ := x4 (own_S B n) no.1 no.2.1
  have w2 := w2 (by omega)
  rw [Int.toNat_natCast] at s3
  have m255 := R.2.2.1
  unfold qf_X13_isNamed
  refine pc_if (fun _ => ?_) (fun z => absurd (by omega) z)
  refine pc_sv (r_nameAt hk X0) ?_; intro u44 q44
  rw [q44]
  refine pc_rA ?_; intro i1 i2 v46 e46
  have e46 : v46 = (tl_S B n (own_S B n) : Int) := by
    rw [e46, Int.toNat_natCast, show 6000 * k + pl_S B n (own_S B n) + 1 = 6000 * k + (pl_S B n (own_S B n) + 1) by omega, s3 _ (by omega)]; exact w2.2.2.2
  have key : m = tl_S B n (own_S B n) → ((∀ i, i < m → f i = M 226 (6000 * k + pl_S B n (own_S B n) + 1 + 1 + i)) ↔ UNm f m B n (own_S B n)) := fun em => by
    have r : ∀ i, i < m → M 226 (6000 * k + pl_S B n (own_S B n) + 1 + 1 + i) = B (na_S B n (own_S B n) + i) := fun i hi => by
      rw [show 6000 * k + pl_S B n (own_S B n) + 1 + 1 + i = 6000 * k + (na_S B n (own_S B n) + i) by unfold na_S; omega]
      exact s3 _ (by unfold na_S; omega)
    exact ⟨fun z => ⟨em, fun i hi => by rw [z i hi]; exact r i hi⟩, fun z i hi => by rw [z.2 i hi]; exact (r i hi).symm⟩
  refine pc_if (fun y => ?_) (fun y => ?_)
  · exact pc_imp n_184z (fun u q => .inr ⟨q, fun z => y (by rw [e46, ← z.1])⟩)
  · have em : m = tl_S B n (own_S B n) := by omega
    refine pc_imp (n_184 R (o := 6000 * k + pl_S B n (own_S B n) + 1) (by omega) nn 1 0 (Nat.zero_le _) (.inl ⟨rfl, fun i hi => absurd hi (Nat.not_lt_zero i)⟩)) (fun u q => ?_)
    rw [key em] at q
    exact q
/-- THE REFERENCE'S LOOKUP -/
theorem r_classNamed {Bf : Nat → Nat → Int} {nf : Nat → Nat} (S : ∀ k : Nat, (k : Int) < M 160 98 → TBr (k : Int) (nf k) (Bf k) M) (h98 : 0 ≤ M 160 98 ∧ M 160 98 ≤ 8) {x : Nat} {a : Int} (R : RWt M x a m f) (hf : ∀ i, i < m → ¬ f i = 32) : ∀ (fu k : Nat), (∀ j : Nat, j < 8 → j < k → ¬ KNm f m j) → (∀ j : Nat, 8 + j < k → ¬ UNm f m (Bf j) (nf j) (own_S (Bf j) (nf j))) → (k : Int) ≤ 8 + M 160 98 → Pc (qw_X13_classNamed_3 nn fu x a (m : Int) (k : Int) M) (CNo Bf nf (M 160 98) f m) := by
  intro fu
  induction fu with
  | zero => intros; exact pc_none
  | succ fu ih =>
    intro k h1 h2 h3
    unfold qw_X13_classNamed_3
    refine pc_add (by omega) ?_; intro v2 e2
    refine pc_if (fun z => pc_ret (.inr ⟨fun j hj => h1 j hj (by omega), .inr ⟨rfl, fun j hj => h2 j (by omega)⟩⟩)) (fun z => ?_)
    by_cases k8 : k < 8
    · refine pc_sv (r_known R hf k8) ?_; intro u4 q4
      refine pc_if (fun y => ?_) (fun y => pc_ret (.inl ⟨k, k8, rfl, ?_⟩))
      · refine pc_add (by omega) ?_; intro v5 e5
        rw [show v5 = ((k + 1 : Nat) : Int) by omega]
        refine ih (k + 1) (fun j j8 jk => ?_) (fun j jk => h2 j (by omega)) (by omega)
        by_cases qj : j = k
        · rw [qj]
          rcases q4 with ⟨q1, -⟩ | ⟨-, q2⟩
          · omega
          · exact q2
        · exact h1 j j8 (by omega)
      · rcases q4 with ⟨-, q2⟩ | ⟨q1, -⟩
        · exact q2
        · exact absurd q1 y
    · obtain ⟨d, hd⟩ : ∃ d : Nat, k = 8 + d := ⟨k - 8, by omega⟩
      have X := S d (by omega)
      have ek : (k : Int) = 8 + (d : Int) := by omega
      rw [ek]
      refine pc_sv (r_user R (by omega) X) ?_; intro u4 q4
      refine pc_if (fun y => ?_) (fun y => pc_ret (.inr ⟨fun j hj => h1 j hj (by omega), .inl ⟨d, by omega, rfl, ?_, fun j hj => h2 j (by omega)⟩⟩))
      · refine pc_add (by omega) ?_; intro v5 e5
        rw [show v5 = ((k + 1 : Nat) : Int) by omega]
        refine ih (k + 1) (fun j j8 jk => h1 j j8 (by omega)) (fun j jk => ?_) (by omega)
        by_cases qj : j = d
        · rw [qj]
          rcases q4 with ⟨q1, -⟩ | ⟨-, q2⟩
          · omega
          · exact q2
        · exact h2 j (by omega)
      · rcases q4 with ⟨-, q2⟩ | ⟨q1, -⟩
        · exact q2
        · exact absurd q1 y
end
end
section
/- THE CLASS BRINGS AN IMAGE -/
section
variable {nn : Nat} {M M2 h : ms_M} {b : Nat} {B : Nat → Int} {n : Nat}
/-- an Image is as it was -/
def SMi (b : Nat) (M M2 : ms_M) : Prop := (∀ c k, b ≤ c → c ≤ b + 6 → M2 c k = M c k) ∧ (∀ k, M2 (M b 0).toNat k = M (M b 0).toNat k) ∧ cn_M M ≤ cn_M M2 ∧ ln_I M2 (M b 0).toNat = ln_I M (M b 0).toNat
theorem ttc_s (S : SMi b M M2) (T : TTc b n B M) : TTc b n B M2 := by
  obtain ⟨s1, s2, s3, s4⟩ := S
  obtain ⟨⟨h1, h2, h3, h4, h5, h6, h7, h8⟩, t2, t3, t4⟩ := T
  have e0 : M2 b 0 = M b 0 := s1 b 0 (Nat.le_refl _) (by omega)
  refine ⟨⟨h1, h2, by rw [s1 b 1 (Nat.le_refl _) (by omega)]; exact h3, by rw [e0]; exact h4, by rw [e0]; omega, by rw [e0]; exact h6, by rw [e0, s4]; exact h7, fun i hi => by rw [e0, s2]; exact h8 i hi⟩, by rw [s1 b 7 (Nat.le_refl _) (by omega)]; exact t2, t3, ttj_k (fun k => s1 _ _ (by omega) (by omega)) (fun k => s1 _ _ (by omega) (by omega)) (fun k => s1 _ _ (by omega) (by omega)) t4⟩
theorem imc_s (S : SMi b M M2) (X : IMc b n B M) : IMc b n B M2 := by
  have s1 := S.1
  obtain ⟨T, p, q, zk, y, ⟨e8, e9⟩, ⟨e10, F⟩, e12, G⟩ := X
  refine ⟨ttc_s S T, p, q, zk, y, ⟨by rw [s1 b 8 (Nat.le_refl _) (by omega)]; exact e8, by rw [s1 b 9 (Nat.le_refl _) (by omega)]; exact e9⟩, ⟨by rw [s1 b 10 (Nat.le_refl _) (by omega)]; exact e10, fun j j1 j2 => ?_⟩, by rw [s1 b 12 (Nat.le_refl _) (by omega)]; exact e12, fun i hi => ?_⟩
  · rw [s1 _ _ (by omega) (by omega), s1 _ _ (by omega) (by omega)]; exact F j j1 j2
  · obtain ⟨x, y, hh, ff, y1, y2, y3⟩ := G i hi
    exact ⟨x, y, hh, ff, y1, y2, md_k (fun k _ _ => s1 _ _ (by omega) (by omega)) y3⟩
/-- cells of the space and its rows are as they were but for the spare Image -/
theorem smi_of (V : VS_ M) {k : Nat} (hk : k < 8) {s : Nat} (hs : kc_O s = 3) (ne : (M 60 k).toNat ≠ s) (J : 256 ≤ (M (M 60 k).toNat 0).toNat ∧ (M (M 60 k).toNat 0).toNat < cn_M M) (F : ∀ c k, (61 ≤ c ∧ (c < s ∨ s + 6 < c)) → c < 900000 → ¬ c = cn_M M → M2 c k = M c k) (hc : cn_M M ≤ cn_M M2 ∧ cn_M M ≤ 700000) (hl : ∀ c, c < cn_M M → M2 900001 c = M 900001 c) : SMi (M 60 k).toNat M M2 := by
  have hd := (V.2.2.2.2.1 k hk).2
  have d := im_dis hs hd ne
  have is := im_at hs
  have id := im_at hd
  have c256 := vi_c V
  refine ⟨fun c j c1 c2 => F c j (by omega) (by omega) (by omega), fun j => F _ j (by omega) (by omega) (by omega), hc.1, ?_⟩
  unfold ln_I
  split
  · rfl
  · exact hl _ J.2
/-- lookups depend on counts and Images alone -/
theorem relate_ok (hn : 1000000 ≤ nn) {Bf : Nat → Nat → Int} {nf : Nat → Nat} (V : VS_ M) (S : ∀ k : Nat, (k : Int) < M 56 3 → IMc (M 60 k).toNat (nf k) (Bf k) M) : Pc (qf_X7_relate nn M) (fun r => (∀ c k, c ≠ 58 → c ≠ 59 → ¬ (c = 56 ∧ k = 4) → r c k = M c k) ∧ r 56 4 = 0 ∧ un_R 57 r ∧ (∀ j : Nat, j < 8 → r 58 j = bi_A j) ∧ (∀ j : Nat, j < 16 → 8 + M 56 3 ≤ (j : Int) → r 58 j = -1) ∧ ∀ k : Nat, (k : Int) < M 56 3 → CLo Bf nf (M 56 3) (fun i => Bf k (na_S (Bf k) (nf k) (nu_S (Bf k) (nf k)) + i)) (tl_S (Bf k) (nf k) (nu_S (Bf k) (nf k))) (r 58 (8 + k))) := by
  have g3 := gF_56_3 V
  have c256 := vi_c V
  unfold qf_X7_relate
  refine pc_xl ?_; intro h30 e30
  have V30 : VS_ h30 := by rw [e30]; exact wF_56_4 V (by omega)
  obtain ⟨u33, e33, f33, k33, -⟩ := kforget_ok (nn := nn) (by omega) (.inr rfl : (57 : Nat) = 12 ∨ (57 : Nat) = 57) (h := h30) (vi_c V30)
  rw [e33, mx_svs]
  have F33 : ∀ c k, c ≠ 58 → c ≠ 59 → ¬ (c = 56 ∧ k = 4) → u33 c k = M c k := fun c k a1 a2 a3 => by rw [f33 c k (by omega) (by omega), e30, up_n a3]
  have z33 : u33 56 4 = 0 := by rw [f33 _ _ (by omega) (by omega), e30, up_s]
  have L : ∀ (f k : Nat) (g : ms_M), (k : Int) ≤ M 56 3 → (∀ c j, c ≠ 58 → c ≠ 59 → g c j = u33 c j) → (∀ j : Nat, j < 8 → g 58 j = bi_A j) → (∀ j : Nat, j < 16 → 8 + M 56 3 ≤ (j : Int) → g 58 j = -1) → (∀ i : Nat, i < k → CLo Bf nf (M 56 3) (fun x => Bf i (na_S (Bf i) (nf i) (nu_S (Bf i) (nf i)) + x)) (tl_S (Bf i) (nf i) (nu_S (Bf i) (nf i))) (g 58 (8 + i))) → Pc (qw_X7_relate_14 nn f (k : Int) g) (fun r => (∀ c j, c ≠ 58 → c ≠ 59 → r c j = u33 c j) ∧ un_R 57 r ∧ (∀ j : Nat, j < 8 → r 58 j = bi_A j) ∧ (∀ j : Nat, j < 16 → 8 + M 56 3 ≤ (j : Int) → r 58 j = -1) ∧ ∀ i : Nat, (i : Int) < M 56 3 → CLo Bf nf (M 56 3) (fun x => Bf i (na_S (Bf i) (nf i) (nu_S (Bf i) (nf i)) + x)) (tl_S (Bf i) (nf i) (nu_S (Bf i) (nf i))) (r 58 (8 + i))) := by
    intro f
    induction f with
    | zero => intros; exact pc_none
    | succ f ih =>
      intro k g hk Fg a8 a16 aK
      have e3 : g 56 3 = M 56 3 := by rw [Fg _ _ (by decide) (by decide), F33 _ _ (by decide) (by decide) (by omega)]
      have e60 : ∀ j, g 60 j = M 60 j := fun j => by rw [Fg _ _ (by decide) (by decide), F33 _ _ (by decide) (by decide) (by omega)]
      have Sg : ∀ j : Nat, (j : Int) < g 56 3 → IMc (g 60 j).toNat (nf j) (Bf j) g := fun j hj => by
        rw [e60]
        have X := S j (by omega)
        have hd := (V.2.2.2.2.1 j (by omega)).2
        have id := im_at hd
        have t1 : ly_T (M (M 60 j).toNat 0).toNat = 1 := X.1.1.2.2.2.2.2.1
        have n8 : ∀ c j, c ≠ 58 → c ≠ 59 → c ≠ 56 → g c j = M c j := fun c j q1 q2 q3 => by rw [Fg _ _ q1 q2, F33 _ _ q1 q2 (by omega)]
        have ec : cn_M g = cn_M M := by unfold cn_M; rw [n8 _ _ (by omega) (by omega) (by omega)]
        have nr : (M (M 60 j).toNat 0).toNat ≠ 58 ∧ (M (M 60 j).toNat 0).toNat ≠ 59 ∧ (M (M 60 j).toNat 0).toNat ≠ 56 := ⟨fun z => by rw [z] at t1; exact absurd t1 (by decide), fun z => by rw [z] at t1; exact absurd t1 (by decide), fun z => by rw [z] at t1; exact absurd t1 (by decide)⟩
        refine imc_s ⟨fun c i c1 c2 => n8 _ _ (by omega) (by omega) (by omega), fun i => n8 _ _ nr.1 nr.2.1 nr.2.2, by omega, ?_⟩ X
        unfold ln_I
        split
        · rfl
        · exact n8 _ _ (by omega) (by omega) (by omega)
      unfold qw_X7_relate_14
      refine pc_if (fun z => ?_) (fun z => ?_)
      · obtain ⟨u4, e4, f4, w4⟩ := settle_ok (nn := nn) (by omega) (l0 := 57) (h := g)
        rw [e4, mx_svs]
        refine pc_ret ⟨fun c j a1 a2 => by rw [f4 c j (by omega)]; exact Fg c j a1 a2, w4, fun j hj => by rw [f4 _ _ (by omega)]; exact a8 j hj, fun j hj h2 => by rw [f4 _ _ (by omega)]; exact a16 j hj h2, fun i hi => by rw [f4 _ _ (by omega)]; exact aK i (by omega)⟩
      · have X := Sg k (by omega)
        obtain ⟨-, -, t1, e9, -⟩ := im_no X
        obtain ⟨a1, a2, a3⟩ := c_text (nn := nn) X.1 t1
        refine pc_rA ?_; intro i1 i2 v6 e6
        rw [Int.toNat_natCast] at e6
        refine pc_ck (fun _ => pc_ck (fun _ => ?_))
        refine pc_add (by omega) ?_; intro v10 e10
        refine pc_rA ?_; intro j1 j2 v12 e12
        rw [Int.toNat_natCast] at e12
        refine pc_rA ?_; intro k1 k2 v14 e14
        rw [Int.toNat_natCast] at e14
        refine pc_ck (fun _ => pc_ck (fun _ => ?_))
        rw [e6, e14, e9, a1, mx_svs]
        refine pc_rA ?_; intro l1 l2 v19 e19
        rw [Int.toNat_natCast] at e19
        refine pc_ck (fun _ => pc_ck (fun _ => ?_))
        rw [e19, a2, mx_svs]
        refine pc_ck (fun _ => ?_)
        rw [e12]
        refine pc_sv (P := CLo Bf nf (M 56 3) (fun x => Bf k (na_S (Bf k) (nf k) (nu_S (Bf k) (nf k)) + x)) (tl_S (Bf k) (nf k) (nu_S (Bf k) (nf k)))) ?_ ?_
        · unfold qf_X7_classOf
          have q := c_classOf (nn := nn) Sg (by omega) X.1.1 (p := na_S (Bf k) (nf k) (nu_S (Bf k) (nf k))) (s := na_S (Bf k) (nf k) (nu_S (Bf k) (nf k)) + tl_S (Bf k) (nf k) (nu_S (Bf k) (nf k))) ⟨by omega, a3⟩ nn 0 (fun j hj => absurd hj (Nat.not_lt_zero j)) (by omega)
          rw [e3, show na_S (Bf k) (nf k) (nu_S (Bf k) (nf k)) + tl_S (Bf k) (nf k) (nu_S (Bf k) (nf k)) - na_S (Bf k) (nf k) (nu_S (Bf k) (nf k)) = tl_S (Bf k) (nf k) (nu_S (Bf k) (nf k)) by omega] at q
          exact q
        · intro u25 q25
          refine pc_se ?_; intro u27 e27
          have E27 : u27 = up_M g 58 (8 + k) u25 := by
            unfold qf_X4_setAbove qf_X4_isClass at e27
            rw [if_neg (by omega), if_neg (by omega), mx_svs, if_neg (by decide)] at e27
            replace e27 := wa_i e27
            have e27 := Option.some.inj e27
            rw [← e27, show v10.toNat = 8 + k by omega]
          refine pc_add (by omega) ?_; intro v28 e28
          rw [show v28 = ((k + 1 : Nat) : Int) by omega]
          refine ih (k + 1) u27 (by omega) (fun c j q1 q2 => by rw [E27, up_n (by omega)]; exact Fg c j q1 q2) (fun j hj => by rw [E27, up_n (by omega)]; exact a8 j hj) (fun j hj h2 => by rw [E27, up_n (by omega)]; exact a16 j hj h2) (fun i hi => ?_)
          by_cases qi : i = k
          · rw [qi, E27, up_s]; exact q25
          · rw [E27, up_n (by omega)]; exact aK i (by omega)
  refine pc_imp (L nn 0 u33 (by omega) (fun _ _ _ _ => rfl) (fun j hj => k33 j (by omega)) (fun j hj h2 => ?_) (fun i hi => absurd hi (Nat.not_lt_zero i))) (fun r q => ⟨fun c k a1 a2 a3 => by rw [q.1 c k a1 a2]; exact F33 c k a1 a2 a3, by rw [q.1 _ _ (by decide) (by decide)]; exact z33, q.2.1, q.2.2.1, q.2.2.2.1, q.2.2.2.2⟩)
  have := k33 j hj
  rw [this]
  unfold bi_A
  rw [if_neg (by omega), if_neg (by omega)]
end
section
variable {nn : Nat} {M M2 h : ms_M} {b : Nat} {B : Nat → Int} {n : Nat}
/-- the class's side of the space: Images, lookups upwards -/
def KNr (Bf : Nat → Nat → Int) (nf : Nat → Nat) (M : ms_M) : Prop := un_R 57 M ∧ (∀ j : Nat, j < 8 → M 58 j = bi_A j) ∧ (∀ j : Nat, j < 16 → 8 + M 56 3 ≤ (j : Int) → M 58 j = -1) ∧ ∀ k : Nat, (k : Int) < M 56 3 → CLo Bf nf (M 56 3) (fun i => Bf k (na_S (Bf k) (nf k) (nu_S (Bf k) (nf k)) + i)) (tl_S (Bf k) (nf k) (nu_S (Bf k) (nf k))) (M 58 (8 + k))
/-- every Image has bytes of its own -/
def RDs (M : ms_M) : Prop := ∀ j k : Nat, (j : Int) < M 56 3 → (k : Int) < M 56 3 → j ≠ k → (M (M 60 j).toNat 0).toNat ≠ (M (M 60 k).toNat 0).toNat
def CSp (Bf : Nat → Nat → Int) (nf : Nat → Nat) (M : ms_M) : Prop := (∀ k : Nat, (k : Int) < M 56 3 → IMc (M 60 k).toNat (nf k) (Bf k) M) ∧ KNr Bf nf M ∧ RDs M
/-- one class more -/
def ext_B (Bf : Nat → Nat → Int) (c : Nat) (B : Nat → Int) : Nat → Nat → Int := fun k => if k = c then B else Bf k
def ext_n (nf : Nat → Nat) (c n : Nat) : Nat → Nat := fun k => if k = c then n else nf k
theorem clo_k {Bf Bg : Nat → Nat → Int} {nf ng : Nat → Nat} {cnt u : Int} {f : Nat → Int} {m : Nat} (e : ∀ j : Nat, (j : Int) < cnt → Bg j = Bf j ∧ ng j = nf j) (C : CLo Bf nf cnt f m u) : CLo Bg ng cnt f m u := by
  rcases C with ⟨k, k1, k2, k3, k4⟩ | ⟨q, k1⟩
  · refine .inl ⟨k, k1, k2, ?_, fun j hj => ?_⟩
    · rw [(e k k1).1, (e k k1).2]; exact k3
    · rw [(e j (by omega)).1, (e j (by omega)).2]; exact k4 j hj
  · refine .inr ⟨q, fun j hj => ?_⟩
    rw [(e j hj).1, (e j hj).2]; exact k1 j hj
/-- THE CLASS'S BRING -/
theorem c_bring (hn : 1000000 ≤ nn) {Bf : Nat → Nat → Int} {nf : Nat → Nat} {a1 : Nat} {a2 : Int} (V : VS_ M) (SI : SI_ M) (J : OJ M) (S : CSp Bf nf M) (ta : a1 < cn_M M ∧ ly_T a1 = 1) (hs : a2 = (n : Int) ∧ n ≤ 6000 ∧ (n : Int) ≤ ln_I M a1) (hB : ∀ i : Nat, i < n → M a1 i % 256 = B i) (hc : M 900000 0 < 700000) : Pc (qf_X7_bring nn a1 a2 M) (fun u => (∀ e, rdi_S B n = .inl e → u.1 = -2 - (e : Int) ∧ CSp Bf nf u.2.1 ∧ u.2.1 56 3 = M 56 3 ∧ u.2.1 56 4 = M 56 4) ∧ ∀ q, rdi_S B n = .inr q → (M 56 3 = 8 → u.1 = -1 ∧ CSp Bf nf u.2.1 ∧ u.2.1 56 3 = M 56 3 ∧ u.2.1 56 4 = M 56 4) ∧ (M 56 3 < 8 → ∃ v, CLo Bf nf (M 56 3) (fun i => B (na_S B n (own_S B n) + i)) (tl_S B n (own_S B n)) v ∧ (¬ v = -1 → u.1 = -1 ∧ CSp Bf nf u.2.1 ∧ u.2.1 56 3 = M 56 3 ∧ u.2.1 56 4 = M 56 4) ∧ (v = -1 → u.1 = 8 + M 56 3 ∧ CSp (ext_B Bf (M 56 3).toNat B) (ext_n nf (M 56 3).toNat n) u.2.1 ∧ u.2.1 56 3 = M 56 3 + 1 ∧ u.2.1 56 4 = 0))) := by
  have hb := (vi_r V).1.2
  have h0 := (vi_r V).1.1
  have g3 := gF_56_3 V
  have ib := im_at hb
  have c256 := vi_c V
  have cm : cn_M M ≤ 700000 := by unfold cn_M; omega
  unfold qf_X7_bring
  refine pc_ck (fun _ => pc_ck (fun _ => pc_se (fun u3 e3 => ?_)))
  have F : ∀ c k, (c < (M 56 2).toNat ∨ (M 56 2).toNat + 6 < c) → u3.2 c k = M c k := fun c k q => (of_X3_read nn hb) _ e3 c k q
  obtain ⟨R0, R1, R2⟩ := c_read hn hb V ta hs hB _ e3
  have V3 := (okof (vf_X3_read hn hb (by omega) (by omega) V ta (by omega)) e3).1
  have s2 : u3.2 56 2 = M 56 2 := F 56 2 (by omega)
  have s3 : u3.2 56 3 = M 56 3 := F 56 3 (by omega)
  have s4 : u3.2 56 4 = M 56 4 := F 56 4 (by omega)
  have s60 : ∀ k, u3.2 60 k = M 60 k := fun k => F 60 k (by omega)
  have s9 : u3.2 900000 0 = M 900000 0 := F 900000 0 (by omega)
  have cn3 : cn_M u3.2 = cn_M M := by unfold cn_M; rw [s9]
  have row : ∀ k : Nat, (k : Int) < M 56 3 → 256 ≤ (M (M 60 k).toNat 0).toNat ∧ (M (M 60 k).toNat 0).toNat < cn_M M := fun k hk => ⟨(J k hk).1, (S.1 k hk).1.1.2.2.2.2.1⟩
  have ne : ∀ k : Nat, (k : Int) < M 56 3 → (M 60 k).toNat ≠ (M 56 2).toNat := fun k hk => by
    have := SI.2.2 k (by omega)
    have := (V.2.2.2.2.1 k (by omega)).1
    omega
  have K3 : ∀ k : Nat, (k : Int) < M 56 3 → IMc (u3.2 60 k).toNat (nf k) (Bf k) u3.2 := fun k hk => by
    rw [s60]
    exact imc_s (smi_of V (by omega) hb (ne k hk) (row k hk) (fun c j q _ _ => F c j q.2) (by omega) (fun c _ => F _ _ (by omega))) (S.1 k hk)
  have N3 : KNr Bf nf u3.2 := by
    obtain ⟨n1, n2, n3, n4⟩ := S.2.1
    have e58 : ∀ j, u3.2 58 j = M 58 j := fun j => F 58 j (by omega)
    have e59 : ∀ j, u3.2 59 j = M 59 j := fun j => F 59 j (by omega)
    refine ⟨?_, fun j hj => by rw [e58]; exact n2 j hj, fun j hj h2 => by rw [e58]; exact n3 j hj (by omega), fun k hk => by rw [e58, s3]; exact n4 k (by omega)⟩
    have ef : u3.2 (57 + 1) = M (57 + 1) := funext e58
    unfold un_R
    rw [ef]
    intro x y hx hy
    rw [show u3.2 (57 + 2) (16 * x + y) = M (57 + 2) (16 * x + y) from e59 _]
    exact n1 x y hx hy
  have w0 : ∀ k : Nat, (k : Int) < M 56 3 → u3.2 (M 60 k).toNat 0 = M (M 60 k).toNat 0 := fun k hk => by
    have d := im_dis hb (V.2.2.2.2.1 k (by omega)).2 (ne k hk)
    exact F _ _ (by omega)
  have D3 : RDs u3.2 := fun j k hj hk jk => by
    rw [s60, s60, w0 j (by omega), w0 k (by omega)]
    exact S.2.2 j k (by omega) (by omega) jk
  have same : CSp Bf nf u3.2 := ⟨fun k hk => K3 k (by omega), N3, D3⟩
  refine pc_if (fun c => ?_) (fun c => pc_xl (fun v32 e32 => pc_ret ⟨fun e he => ?_, fun q hq => absurd (R2 q hq).1 c⟩))
  · have good : ∃ q, rdi_S B n = .inr q := by
      cases z : rdi_S B n with
      | inl e => have := R1 e z; omega
      | inr q => exact ⟨q, rfl⟩
    obtain ⟨q0, z0⟩ := good
    have X := (R2 q0 z0).2
    have nol : ∀ {P : Prop} {e : Nat}, rdi_S B n = .inl e → P := fun he => by rw [z0] at he; cases he
    refine pc_ck (fun _ => pc_ck (fun _ => pc_if (fun c8 => pc_ret ⟨fun e he => nol he, fun q hq => ⟨fun _ => ⟨rfl, same, s3, s4⟩, fun lt => by omega⟩⟩) (fun c8 => ?_)))
    obtain ⟨t1, e8, -⟩ := im_no X
    obtain ⟨x1, x2, x3⟩ := c_text (nn := nn) X.1 t1
    refine pc_ck (fun _ => pc_ck (fun _ => ?_))
    rw [s2, e8, x1, mx_svs]
    refine pc_ck (fun _ => ?_)
    rw [x2, mx_svs]
    refine pc_sv (P := CLo Bf nf (M 56 3) (fun i => B (na_S B n (own_S B n) + i)) (tl_S B n (own_S B n))) ?_ ?_
    · unfold qf_X7_classOf
      have q := c_classOf (nn := nn) (M := u3.2) (fun k hk => K3 k (by omega)) (by omega) X.1.1 (p := na_S B n (own_S B n)) (s := na_S B n (own_S B n) + tl_S B n (own_S B n)) ⟨by omega, x3⟩ nn 0 (fun j hj => absurd hj (Nat.not_lt_zero j)) (by omega)
      rw [s3, show na_S B n (own_S B n) + tl_S B n (own_S B n) - na_S B n (own_S B n) = tl_S B n (own_S B n) by omega] at q
      exact q
    · intro u15 q15
      refine pc_if (fun y => ?_) (fun y => pc_ret ⟨fun e he => nol he, fun q hq => ⟨fun h8 => by omega, fun lt => ⟨u15, q15, fun _ => ⟨rfl, same, s3, s4⟩, fun z => absurd z y⟩⟩⟩)
      refine pc_ck (fun _ => pc_se (fun u18 e18 => pc_se (fun u21 e21 => ?_)))
      -- the copy
      have hc3 : u3.2 900000 0 < 700000 := by omega
      have B3 := X.1.1
      have K18 : (∀ c k, c ≠ cn_M M → c < 900000 → ¬ (c = (M 56 2).toNat ∧ k = 0) → u18.1 c k = u3.2 c k) ∧ u18.1 (M 56 2).toNat 0 = (cn_M M : Int) ∧ (∀ i : Nat, i < n → u18.1 (cn_M M) i = u3.2 (u3.2 (M 56 2).toNat 0).toNat i) ∧ cn_M u18.1 = cn_M M + 1 ∧ u18.1 900001 (cn_M M) = (n : Int) ∧ ∀ c, c < cn_M M → u18.1 900001 c = M 900001 c := by
        unfold qf_X3_keepOwn at e18
        obtain ⟨-, e18⟩ := ck_i e18
        obtain ⟨w, ew, e18⟩ := sv_i e18
        unfold qf_J7_copyOf_9075b at ew
        split at ew
        · have ew := Option.some.inj ew
          unfold wr_R at e18
          split at e18
          · have e18 := Option.some.inj e18
            have e1n : u3.2 (M 56 2).toNat 1 = (n : Int) := B3.2.2.1
            have ln : (n : Int) ≤ ln_I u3.2 (u3.2 (M 56 2).toNat 0).toNat := B3.2.2.2.2.2.2.1
            rw [← e18, ← ew]
            rw [cn3]
            refine ⟨fun c k q1 q2 q3 => ?_, up_s, fun i hi => ?_, ?_, ?_, fun c hcc => ?_⟩
            · dsimp only
              rw [up_n q3]
              unfold nw_M
              rw [cn3, if_neg q1, if_neg (by omega), if_neg (by omega)]
            · dsimp only
              rw [up_n (by omega)]
              unfold nw_M
              rw [cn3, if_pos rfl]
              dsimp only
              rw [if_pos (.inr (by omega))]
            · dsimp only
              unfold cn_M
              rw [up_n (by omega)]
              unfold nw_M
              rw [cn3, if_neg (by omega), if_pos ⟨rfl, rfl⟩, s9]
              have vc := vi_c V; unfold cn_M at vc; omega
            · dsimp only
              rw [up_n (by omega)]
              unfold nw_M
              rw [cn3, if_neg (by omega), if_neg (by omega), if_pos ⟨rfl, rfl⟩]; exact e1n
            · dsimp only
              rw [up_n (by omega)]
              unfold nw_M
              rw [cn3, if_neg (by omega), if_neg (by omega), if_neg (by omega)]
              exact F _ _ (by omega)
          · cases e18
        · cases ew
      obtain ⟨k1, k2, k3, k4, k5, k6⟩ := K18
      have t2 : u18.1 56 2 = M 56 2 := (k1 _ _ (by omega) (by omega) (by omega)).trans s2
      have t3 : u18.1 56 3 = M 56 3 := (k1 _ _ (by omega) (by omega) (by omega)).trans s3
      have i21 := (sw_i e21).2
      rw [t3, t2] at i21
      refine pc_xl ?_; intro v23 e23
      have y3 : u21 56 3 = M 56 3 := by rw [i21, up_n (by omega), up_n (by omega)]; exact t3
      rw [y3, oq_add_eq (by omega) (by omega) (by omega)] at e23
      refine pc_xl ?_; intro h24 e24
      have G24 : ∀ c k, c ≠ 56 → ¬ (c = 60 ∧ k = (M 56 3).toNat) → h24 c k = u18.1 c k := fun c k q1 q2 => by
        rw [e24, up_n (by omega), i21, up_n (by omega), up_n q2]
      have z60 : h24 60 (M 56 3).toNat = M 56 2 := by rw [e24, up_n (by omega), i21, up_n (by omega), up_s]
      have z3 : h24 56 3 = M 56 3 + 1 := by rw [e24, up_s]; exact e23
      have V24 : VS_ h24 := by
        have V18 := (okof (vf_X3_keepOwn hb V3 (by omega)) e18).1
        have V21 := okof (vf_X7_swapSpare (a1 := u18.1 56 3) (by omega) (by omega) V18) e21
        rw [e24]; exact wF_56_3 V21 (by omega)
      -- the Images behind
      have new : IMc (M 56 2).toNat n B h24 := by
        have SM : ∀ c k, ¬ (c = (M 56 2).toNat ∧ k = 0) → (M 56 2).toNat ≤ c → c ≤ (M 56 2).toNat + 6 → h24 c k = u3.2 c k := fun c k q1 q2 q3 => by
          rw [G24 c k (by omega) (by omega)]; exact k1 c k (by omega) (by omega) q1
        have n0 : h24 (M 56 2).toNat 0 = (cn_M M : Int) := by rw [G24 _ _ (by omega) (by omega)]; exact k2
        obtain ⟨⟨⟨w1, w2, w3, w4, w5, w6, w7, w8⟩, w9, w10, w11⟩, p, q, zk, yy, ⟨v8, v9⟩, ⟨v10, FL⟩, v12, MS⟩ := X
        have cn24 : cn_M h24 = cn_M M + 1 := by
          have : h24 900000 0 = u18.1 900000 0 := G24 _ _ (by omega) (by omega)
          rw [← k4]; unfold cn_M; rw [this]
        refine ⟨⟨⟨w1, w2, by rw [SM _ _ (by omega) (Nat.le_refl _) (by omega)]; exact w3, by rw [n0]; omega, by rw [n0, cn24]; omega, by rw [n0, Int.toNat_natCast]; exact ly_Tbig c256, ?_, fun i hi => ?_⟩, by rw [SM _ _ (by omega) (Nat.le_refl _) (by omega)]; exact w9, w10, ttj_k (fun k => SM _ _ (by omega) (by omega) (by omega)) (fun k => SM _ _ (by omega) (by omega) (by omega)) (fun k => SM _ _ (by omega) (by omega) (by omega)) w11⟩, p, q, zk, yy, ⟨by rw [SM _ _ (by omega) (Nat.le_refl _) (by omega)]; exact v8, by rw [SM _ _ (by omega) (Nat.le_refl _) (by omega)]; exact v9⟩, ⟨by rw [SM _ _ (by omega) (Nat.le_refl _) (by omega)]; exact v10, fun j j1 j2 => ?_⟩, by rw [SM _ _ (by omega) (Nat.le_refl _) (by omega)]; exact v12, fun i hi => ?_⟩
        · rw [n0, Int.toNat_natCast]
          unfold ln_I
          rw [if_neg (by omega), G24 _ _ (by omega) (by omega), k5]; omega
        · rw [n0, Int.toNat_natCast, G24 _ _ (by omega) (by omega), k3 i hi]; exact w8 i hi
        · rw [SM _ _ (by omega) (by omega) (by omega), SM _ _ (by omega) (by omega) (by omega)]; exact FL j j1 j2
        · obtain ⟨x, y, hh, ff, y1, y2, y3⟩ := MS i hi
          exact ⟨x, y, hh, ff, y1, y2, md_k (fun k _ _ => SM _ _ (by omega) (by omega) (by omega)) y3⟩
      have cn24 : cn_M h24 = cn_M M + 1 := by
        have : h24 900000 0 = u18.1 900000 0 := G24 _ _ (by omega) (by omega)
        rw [← k4]; unfold cn_M; rw [this]
      have old : ∀ k : Nat, (k : Int) < M 56 3 → IMc (M 60 k).toNat (nf k) (Bf k) h24 := fun k hk => by
        refine imc_s (smi_of V (by omega) hb (ne k hk) (row k hk) (fun c j q q2 q3 => ?_) (by omega) (fun c hcc => ?_)) (S.1 k hk)
        · rw [G24 c j (by omega) (by omega), k1 c j q3 q2 (by omega)]; exact F c j (by omega)
        · rw [G24 _ _ (by omega) (by omega)]; exact k6 c hcc
      have S24 : ∀ k : Nat, (k : Int) < h24 56 3 → IMc (h24 60 k).toNat (ext_n nf (M 56 3).toNat n k) (ext_B Bf (M 56 3).toNat B k) h24 := fun k hk => by
        unfold ext_n ext_B
        by_cases qk : k = (M 56 3).toNat
        · rw [if_pos qk, if_pos qk, qk, z60]; exact new
        · rw [if_neg qk, if_neg qk, G24 60 k (by decide) (by omega), k1 _ _ (by omega) (by omega) (by omega), s60]
          exact old k (by omega)
      refine pc_sv (relate_ok hn V24 S24) ?_; intro u26 q26
      obtain ⟨r1, r2, r3, r4, r5, r6⟩ := q26
      have r3c : u26 56 3 = M 56 3 + 1 := by rw [r1 _ _ (by decide) (by decide) (by omega)]; exact z3
      refine pc_xl ?_; intro v28 e28
      refine pc_xl ?_; intro v29 e29
      refine pc_ret ⟨fun e he => nol he, fun q hq => ⟨fun h8 => by omega, fun lt => ⟨u15, q15, fun z => absurd y z, fun _ => ⟨?_, ⟨fun k hk => ?_, ⟨r3, r4, fun j hj h2 => r5 j hj (by dsimp only at h2; omega), fun k hk => ?_⟩, fun j k hj hk jk => ?_⟩, r3c, r2⟩⟩⟩⟩
      · show v29 = _
        rw [r3c, oq_add_eq (by omega) (by omega) (by omega)] at e28
        rw [e28, oq_sub_eq (by omega) (by omega) (by omega)] at e29
        omega
      · have hk : (k : Int) < h24 56 3 := by rw [z3, ← r3c]; exact hk
        have X := S24 k hk
        dsimp only; rw [show u26 60 k = h24 60 k from r1 _ _ (by decide) (by decide) (by omega)]
        have hd := (V24.2.2.2.2.1 k (by omega)).2
        have id := im_at hd
        have t1 : ly_T (h24 (h24 60 k).toNat 0).toNat = 1 := X.1.1.2.2.2.2.2.1
        have nr : (h24 (h24 60 k).toNat 0).toNat ≠ 58 ∧ (h24 (h24 60 k).toNat 0).toNat ≠ 59 ∧ (h24 (h24 60 k).toNat 0).toNat ≠ 56 := ⟨fun z => by rw [z] at t1; exact absurd t1 (by decide), fun z => by rw [z] at t1; exact absurd t1 (by decide), fun z => by rw [z] at t1; exact absurd t1 (by decide)⟩
        refine imc_s ⟨fun c i c1 c2 => r1 _ _ (by omega) (by omega) (by omega), fun i => r1 _ _ nr.1 nr.2.1 (by omega), ?_, ?_⟩ X
        · unfold cn_M; rw [r1 _ _ (by omega) (by omega) (by omega)]; omega
        · unfold ln_I
          split
          · rfl
          · exact r1 _ _ (by omega) (by omega) (by omega)
      · have hk : (k : Int) < h24 56 3 := by rw [z3, ← r3c]; exact hk
        have w := r6 k hk
        rw [z3] at w
        dsimp only; rw [show u26 56 3 = M 56 3 + 1 from r3c]; exact w
      · have rowk : ∀ k : Nat, (k : Int) < M 56 3 + 1 → (u26 (u26 60 k).toNat 0).toNat = (if k = (M 56 3).toNat then cn_M M else (M (M 60 k).toNat 0).toNat) := fun k hk => by
          rw [show u26 60 k = h24 60 k from r1 _ _ (by decide) (by decide) (by omega)]
          by_cases qk : k = (M 56 3).toNat
          · rw [if_pos qk, qk, z60, r1 _ _ (by omega) (by omega) (by omega), G24 _ _ (by omega) (by omega), k2, Int.toNat_natCast]
          · have hd := (V.2.2.2.2.1 k (by omega)).2
            have id := im_at hd
            have d := im_dis hb hd (ne k (by omega))
            rw [if_neg qk, G24 60 k (by decide) (by omega), k1 60 k (by omega) (by omega) (by omega), s60, r1 _ _ (by omega) (by omega) (by omega), G24 _ _ (by omega) (by omega), k1 _ _ (by omega) (by omega) (by omega), w0 k (by omega)]
        have hj : (j : Int) < M 56 3 + 1 := by rw [← r3c]; exact hj
        have hk : (k : Int) < M 56 3 + 1 := by rw [← r3c]; exact hk
        show (u26 (u26 60 j).toNat 0).toNat ≠ (u26 (u26 60 k).toNat 0).toNat
        rw [rowk j hj, rowk k hk]
        by_cases qj : j = (M 56 3).toNat
        · rw [if_pos qj, if_neg (by omega)]
          have := (row k (by omega)).2
          omega
        · rw [if_neg qj]
          by_cases qk : k = (M 56 3).toNat
          · rw [if_pos qk]
            have := (row j (by omega)).2
            omega
          · rw [if_neg qk]; exact S.2.2 j k (by omega) (by omega) jk
  · have z := R1 e he
    refine ⟨?_, same, s3, s4⟩
    show v32 = _
    have n6 := hs.2.1
    have g3f := gI_3 V3 hb
    rw [R0] at g3f
    rw [z] at g3f
    rw [z, oq_sub_eq (by omega) (by omega) (by omega)] at e32
    omega
end
end
section
/- THE REFERENCE LOADS AN IMAGE -/
section
variable {nn : Nat} {h r g M M2 : ms_M} {c : Int} {B : Nat → Int} {n : Nat}
theorem tb_k (hc : 0 ≤ c ∧ c ≤ 7) (A : ∀ x k : Nat, TAB c x k → M2 x k = M x k) (e6 : ∀ k : Nat, 6000 * c ≤ (k : Int) → (k : Int) < 6000 * c + 6000 → M2 226 k = M 226 k) (e7 : M2 227 c.toNat = M 227 c.toNat) (X : TBr c n B M) : TBr c n B M2 := by
  unfold TAB at A
  obtain ⟨⟨s1, s2, s3, s4⟩, ⟨x1, x2, x3, x4⟩, p, q, zk, y, ⟨e30, e31⟩, ⟨e32, F⟩, e34, G⟩ := X
  have b12 : B (p + 2) ≤ 12 := by
    have z := y.2.2.1
    unfold fs_S at z
    obtain ⟨w, hw, -⟩ := bd_inr z
    exact (up_Tt (by_le hw).2.2).2
  have q12 : B q ≤ 12 := by
    have z := y.2.2.2
    unfold mm_S at z
    obtain ⟨w, hw, -⟩ := bd_inr z
    exact (up_Tt (by_le hw).2.2).2
  refine ⟨⟨by rw [e7]; exact s1, s2, fun i hi => by rw [e6 _ (by omega) (by omega)]; exact s3 i hi, s4⟩, ⟨by rw [A _ _ (by omega)]; exact x1, x2, fun k k1 k2 => by rw [A _ _ (by omega)]; exact x3 k k1 k2, x4⟩, p, q, zk, y, ⟨by rw [A _ _ (by omega)]; exact e30, by rw [A _ _ (by omega)]; exact e31⟩, ⟨by rw [A _ _ (by omega)]; exact e32, fun j j1 j2 => by rw [A _ _ (by omega)]; exact F j j1 j2⟩, by rw [A _ _ (by omega)]; exact e34, fun i hi => ?_⟩
  obtain ⟨a1, a2, a3, a4, a5, a6, a7, a8, a9⟩ := G i hi
  exact ⟨a1, a2, a3, a4, a5, a6, by rw [A _ _ (by omega)]; exact a7, by rw [A _ _ (by omega)]; exact a8, by rw [A _ _ (by omega)]; exact a9⟩
theorem im_tb (X : IMr c n B M) (e7 : M 227 c.toNat = (n : Int)) (e6 : ∀ i, i < n → M 226 (6000 * c.toNat + i) = B i) : TBr c n B M := by
  obtain ⟨⟨t1, t2, t3, t4, t5⟩, y⟩ := X
  exact ⟨⟨e7, t1.2.2.2.1, e6, t1.2.2.2.2.2.2⟩, ⟨t2, t3, t4, t5⟩, y⟩
theorem al_at {p : Nat → Bool} : ∀ (m i : Nat), al_N p i m = true → ∀ j, i ≤ j → j < i + m → p j = true := by
  intro m
  induction m with
  | zero => intro i _ j h1 h2; omega
  | succ m ih =>
    intro i e j h1 h2
    unfold al_N at e
    rw [Bool.and_eq_true] at e
    by_cases q : j = i
    · rw [q]; exact e.1
    · exact ih (i + 1) e.2 j (by omega) (by omega)
theorem np_32 {j : Nat} {x : Int} (e : np_N j x = true) : ¬ x = 32 := by
  intro z
  rw [z] at e
  unfold np_N lt_N at e
  rw [Bool.or_eq_true, Bool.and_eq_true] at e
  rcases e with e | e
  · exact absurd e (by decide)
  · exact absurd e.2 (by decide)
theorem nm_32 {f : Nat → Int} {m : Nat} (e : nm_N f m = true) : ∀ i, i < m → ¬ f i = 32 := by
  unfold nm_N at e
  rw [Bool.and_eq_true] at e
  intro i hi
  exact np_32 (al_at m 0 e.2 i (Nat.zero_le _) (by omega))
/-- rows 226, 227 and the numbers of the space may change -/
theorem imr_z (F : ∀ x k, x ≠ 160 → x ≠ 226 ∧ x ≠ 227 → M2 x k = M x k) (F0 : ∀ k, k ≠ 98 ∧ k ≠ 99 ∧ k ≠ 138 → M2 160 k = M 160 k) (X : IMr c n B M) : IMr c n B M2 := by
  obtain ⟨⟨t1, t2, t3, t4, t5⟩, p, q, zk, y, ⟨e30, e31⟩, ⟨e32, FA⟩, e34, G⟩ := X
  refine ⟨⟨er_k (F0 _ (by decide)) (F0 _ (by decide)) (fun i => F _ _ (by decide) (by decide)) (F _ _ (by decide) (by decide)) t1, by rw [F _ _ (by decide) (by decide)]; exact t2, t3, fun k k1 k2 => by rw [F _ _ (by decide) (by decide)]; exact t4 k k1 k2, t5⟩, p, q, zk, y, ⟨by rw [F _ _ (by decide) (by decide)]; exact e30, by rw [F _ _ (by decide) (by decide)]; exact e31⟩, ⟨by rw [F _ _ (by decide) (by decide)]; exact e32, fun j j1 j2 => by rw [F _ _ (by decide) (by decide)]; exact FA j j1 j2⟩, by rw [F _ _ (by decide) (by decide)]; exact e34, fun i hi => ?_⟩
  obtain ⟨a1, a2, a3, a4, a5, a6, a7, a8, a9⟩ := G i hi
  exact ⟨a1, a2, a3, a4, a5, a6, by rw [F _ _ (by decide) (by decide)]; exact a7, by rw [F _ _ (by decide) (by decide)]; exact a8, by rw [F _ _ (by decide) (by decide)]; exact a9⟩
/-- its tables of the space are as they were -/
def KPs (Bf : Nat → Nat → Int) (nf : Nat → Nat) (h r : ms_M) : Prop := r 160 98 = h 160 98 ∧ r 160 99 = h 160 99 ∧ r 160 138 = h 160 138 ∧ ∀ k : Nat, (k : Int) < h 160 98 → TBr (k : Int) (nf k) (Bf k) r
/-- THE REFERENCE'S LOADED -/
theorem r_loaded (hn : 1000000 ≤ nn) {Bf : Nat → Nat → Int} {nf : Nat → Nat} (V : VS_ h) (hs : h 160 113 = (n : Int) ∧ n ≤ 6000) (h8 : ∀ i, h 238 i = B i) (hB : ∀ i, i < n → 0 ≤ B i ∧ B i ≤ 255) (S : ∀ k : Nat, (k : Int) < h 160 98 → TBr (k : Int) (nf k) (Bf k) h) : Pc (qf_X13_loaded nn h) (fun u => (∀ e, rdi_S B n = .inl e → u.1 = -2 - (e : Int) ∧ KPs Bf nf h u.2) ∧ ∀ q, rdi_S B n = .inr q → (h 160 98 = 8 → u.1 = -1 ∧ KPs Bf nf h u.2) ∧ (h 160 98 < 8 → ∃ v, CNo Bf nf (h 160 98) (fun i => B (na_S B n (own_S B n) + i)) (tl_S B n (own_S B n)) v ∧ (¬ v = -1 → u.1 = -1 ∧ KPs Bf nf h u.2) ∧ (v = -1 → u.1 = 8 + h 160 98 ∧ u.2 160 98 = h 160 98 + 1 ∧ u.2 160 99 = 0 ∧ u.2 160 138 = 0 ∧ TBr (h 160 98) n B u.2 ∧ ∀ k : Nat, (k : Int) < h 160 98 → TBr (k : Int) (nf k) (Bf k) u.2))) := by
  have g98 := gF_160_98 V
  have c256 := vi_c V
  unfold qf_X13_loaded
  refine pc_if (fun C => ?_) (fun C => ?_)
  · refine pc_se ?_; intro u4 e4
    have RF := r_scan (B := B) (n := n) hn (c := h 160 98) (by omega) hs h8 (by omega) hB _ e4
    obtain ⟨⟨V4, N4, -⟩, -⟩ := okof (sr_scan hn (c := h 160 98) (by omega) V) e4
    have e98 : u4 160 98 = h 160 98 := N4 160 98 (by omega) (by omega) (by omega) (by omega)
    have S4 : ∀ k : Nat, (k : Int) < h 160 98 → TBr (k : Int) (nf k) (Bf k) u4 := fun k hk => by
      refine tb_k (by omega) (fun x j T => ?_) (fun j j1 j2 => N4 _ _ (by omega) (by omega) (by omega) (by omega)) (N4 _ _ (by omega) (by omega) (by omega) (by omega)) (S k hk)
      unfold TAB at T
      exact N4 _ _ (by omega) (by omega) (by omega) (by omega)
    have K4 : KPs Bf nf h u4 := ⟨e98, N4 160 99 (by omega) (by omega) (by omega) (by omega), N4 160 138 (by omega) (by omega) (by omega) (by omega), S4⟩
    have g114 := gF_160_114 V4
    refine pc_if (fun D => ?_) (fun D => ?_)
    · have good : ∃ q, rdi_S B n = .inr q := by
        cases z : rdi_S B n with
        | inl e =>
          have := RF.1; rw [z] at this
          exact absurd D (rs_l this)
        | inr q => exact ⟨q, rfl⟩
      obtain ⟨q0, z0⟩ := good
      have X := RF.2 q0 z0
      have nol : ∀ {P : Prop} {e : Nat}, rdi_S B n = .inl e → P := fun he => by rw [z0] at he; cases he
      -- the name
      have X2 := X
      obtain ⟨⟨t1, t2, t3, t4, t5⟩, p, q, zk, ⟨y1, y2, -, -⟩, ⟨e30, e31⟩, -⟩ := X2
      have a1 := by_le y1
      have n1 : own_S B n = pt_S B n (B p) 0 := by unfold own_S; rw [zk]
      have w1 := pc_tx (p := p) zk t3.1 a1.2.2
      rw [← n1] at w1
      have c1 : tg_S B n (B p) = 3 := by
        have z := a1.2.2; unfold pc_S cl_S at z; rw [Bool.and_eq_true, decide_eq_true_iff] at z; exact z.1
      have k1 := tg_in (B := B) (n := n) (k := B p) (by omega)
      have k2 := tg_in (B := B) (n := n) (k := own_S B n) (by omega)
      have kv1 := t5 (B p) k1.1 k1.2.1
      have kv1b := kv1.2.2.1 (by omega)
      have kv2 := t5 (own_S B n) k2.1 k2.2.1
      have kv2b := kv2.2.1 (by omega)
      have L : ∀ i, u4 238 i = B i := t1.2.2.2.2.1
      rw [e98]
      have hc : 0 ≤ h 160 98 ∧ h 160 98 ≤ 7 := by omega
      refine pc_xl ?_; intro v8 e8
      rw [oq_mul_eq (by omega) (by omega) (by omega)] at e8
      refine pc_xl ?_; intro v12 e12
      rw [oq_mul_eq (by omega) (by omega) (by omega)] at e12
      refine pc_rA ?_; intro i1 i2 v15 e15
      rw [e30] at e15
      refine pc_add (by omega) ?_; intro v16 e16
      refine pc_rA ?_; intro j1 j2 v17 e17
      have e17 : v17 = (pl_S B n (B p) : Int) := by
        rw [e17, show v16.toNat = (256 * h 160 98 + B p).toNat by omega]; exact t4 _ k1.1 k1.2.1
      refine pc_add (by omega) ?_; intro v18 e18
      refine pc_rA ?_; intro l1 l2 v19 e19
      have e19 : v19 = own_S B n := by
        rw [e19, L, n1]; unfold pt_S; congr 1; omega
      refine pc_add (by omega) ?_; intro v20 e20
      refine pc_rA ?_; intro m1 m2 v21 e21
      have e21 : v21 = (pl_S B n (own_S B n) : Int) := by
        rw [e21, show v20.toNat = (256 * h 160 98 + own_S B n).toNat by omega]; exact t4 _ k2.1 k2.2.1
      refine pc_add (by omega) ?_; intro v23 e23
      refine pc_add (by omega) ?_; intro v25 e25
      refine pc_rA ?_; intro o1 o2 v26 e26
      have e26 : v26 = (tl_S B n (own_S B n) : Int) := by
        rw [e26, L, show v25.toNat = pl_S B n (own_S B n) + 1 by omega]; exact kv2b.2.2.2
      rw [e26, show v23 = ((na_S B n (own_S B n) : Nat) : Int) by unfold na_S; omega]
      have RW : RWt u4 238 ((na_S B n (own_S B n) : Nat) : Int) (tl_S B n (own_S B n)) (fun i => B (na_S B n (own_S B n) + i)) := by
        refine ⟨by omega, by unfold na_S; omega, by omega, fun i hi => ?_⟩
        rw [Int.toNat_natCast]; exact L _
      have nm : nm_N (fun i => B (na_S B n (own_S B n) + i)) (tl_S B n (own_S B n)) = true := by
        have z := w1.2; unfold nm_S at z; rw [Bool.and_eq_true] at z; exact z.2
      refine pc_sv (P := CNo Bf nf (h 160 98) (fun i => B (na_S B n (own_S B n) + i)) (tl_S B n (own_S B n))) ?_ ?_
      · unfold qf_X13_classNamed
        have w := r_classNamed (nn := nn) (M := u4) (fun k hk => S4 k (by omega)) (by omega) RW (nm_32 nm) nn 0 (fun j _ hj => absurd hj (Nat.not_lt_zero j)) (fun j hj => absurd hj (Nat.not_lt_zero _)) (by omega)
        rw [e98] at w
        exact w
      · intro u28 q28
        refine pc_if (fun y => ?_) (fun y => ?_)
        · refine pc_se ?_; intro u31 e31b
          obtain ⟨QI, a31⟩ := okof (nm_install hn hc V4) e31b
          obtain ⟨qi1, qi2, qi3, qi4⟩ := QI
          refine pc_xl ?_; intro v33 e33
          refine pc_xl ?_; intro h34 e34
          refine pc_xl ?_; intro h35 e35
          refine pc_xl ?_; intro h36 e36
          have W : ∀ x k, x ≠ 160 → h36 x k = u31.2 x k := fun x k a => by rw [e36, up_n (fun y => a y.1), e35, up_n (fun y => a y.1), e34, up_n (fun y => a y.1)]
          have n98 : u31.2 160 98 = h 160 98 := by rw [qi2 160 98 (by omega) (by omega)]; exact e98
          rw [n98, oq_add_eq (by omega) (by omega) (by omega)] at e33
          refine pc_ret ⟨fun e he => nol he, fun q hq => ⟨fun h8 => absurd h8 C, fun lt => ⟨u28, q28, fun z => absurd y z, fun _ => ⟨a31, ?_, ?_, ?_, ?_, fun k hk => ?_⟩⟩⟩⟩
          · show h36 160 98 = _
            rw [e36, up_n (by omega), e35, up_n (by omega), e34, up_s]; exact e33
          · show h36 160 99 = 0
            rw [e36, up_n (by omega), e35, up_s]
          · show h36 160 138 = 0
            rw [e36, up_s]
          · refine im_tb (M := h36) ?_ ?_ (fun i hi => ?_)
            · have ez : ∀ x k : Nat, x ≠ 160 → ¬ (x = 226 ∧ 6000 * h 160 98 ≤ (k : Int) ∧ (k : Int) < 6000 * h 160 98 + 6000) → ¬ (x = 227 ∧ (k : Int) = h 160 98) → h36 x k = u4 x k := fun x k a b d => by rw [W x k a]; exact qi2 x k b d
              refine imr_z (fun x k a b => ?_) (fun k a => ?_) X
              · exact ez x k a (by omega) (by omega)
              · rw [e36, up_n (by omega), e35, up_n (by omega), e34, up_n (by omega)]; exact qi2 160 k (by omega) (by omega)
            · try dsimp only
              rw [W _ _ (by decide), qi4, t1.2.2.1]
            · try dsimp only
              rw [W _ _ (by decide), qi3 i (by rw [t1.2.2.1]; omega), L]
          · refine tb_k (by omega) (fun x j T => ?_) (fun j j1 j2 => ?_) ?_ (S4 k hk)
            · unfold TAB at T
              try dsimp only
              rw [W _ _ (by omega)]; exact qi2 _ _ (by omega) (by omega)
            · try dsimp only
              rw [W _ _ (by decide)]; exact qi2 _ _ (by omega) (by omega)
            · try dsimp only
              rw [W _ _ (by decide)]; exact qi2 _ _ (by omega) (by omega)
        · unfold qj_X13_loaded_138
          exact pc_ret ⟨fun e he => nol he, fun q hq => ⟨fun h8 => absurd h8 C, fun lt => ⟨u28, q28, fun _ => ⟨rfl, K4⟩, fun z => absurd z y⟩⟩⟩
    · refine pc_sub (by omega) ?_; intro v39 e39
      have bad : ∃ e, rdi_S B n = .inl e := by
        cases z : rdi_S B n with
        | inl e => exact ⟨e, rfl⟩
        | inr q =>
          have := RF.1; rw [z] at this
          exact absurd this D
      obtain ⟨e0, z0⟩ := bad
      have w := RF.1
      rw [z0] at w
      have w : u4 160 114 = (e0 : Int) := w
      refine pc_ret ⟨fun e he => ?_, fun q hq => by rw [z0] at hq; cases hq⟩
      rw [z0] at he; cases he
      exact ⟨by show v39 = _; omega, K4⟩
  · have C : h 160 98 = 8 := Decidable.not_not.1 C
    refine pc_se ?_; intro u42 e42
    obtain ⟨V42, N42, T42⟩ := okof (as_aside hn (c := 7) (by omega) V) e42
    refine pc_se ?_; intro u44 e44
    have RF := r_scan (B := B) (n := n) hn (c := 7) (M := u42) (by omega) ⟨by rw [N42 _ _ (by decide)]; exact hs.1, hs.2⟩ (fun i => by rw [N42 _ _ (by decide)]; exact h8 i) (by have := vi_c V42; omega) hB _ e44
    obtain ⟨⟨V44, N44, -⟩, -⟩ := okof (sr_scan hn (c := 7) (by omega) V42) e44
    have T44 : TBk u44 h 7 := by
      have e : ∀ k : Nat, u44 239 k = u42 239 k := fun k => N44 239 k (by omega) (by omega) (by omega) (by omega)
      refine ⟨fun i hi => by rw [e]; exact T42.1 i hi, ?_, fun j hj => by rw [e, e, e, e]; exact T42.2.2 j hj⟩
      unfold TB2
      rw [e, e, e, e, e]; exact T42.2.1
    refine pc_se ?_; intro u47 e47
    obtain ⟨V47, A, B7⟩ := okof (ag_again hn (c := 7) (by omega) V44 V T44) e47
    have W : SW h u47 := fun x k w1 w2 w3 => by
      by_cases y : TAB 7 x k
      · exact B7 x k y
      · rw [A x k y, N44 x k (by omega) (fun z => y (.inl z)) (fun z => y (.inr (.inl z))) (fun z => y (.inr (.inr z)))]
        exact N42 x k w3
    have q : ∀ j : Nat, j = 98 ∨ j = 99 ∨ j = 138 → u47 160 j = h 160 j := fun j hj => by
      rw [A 160 j (by unfold TAB; omega), N44 160 j (by omega) (by omega) (by omega) (by omega)]
      exact N42 160 j (by decide)
    have K : KPs Bf nf h u47 := ⟨q 98 (by omega), q 99 (by omega), q 138 (by omega), fun k hk => tb_k (by omega) (fun x j T => W x j (by unfold TAB at T; omega) (by unfold TAB at T; omega) (by unfold TAB at T; omega)) (fun j _ _ => W _ _ (by decide) (by decide) (by decide)) (W _ _ (by decide) (by decide) (by decide)) (S k hk)⟩
    have g114 := gF_160_114 V44
    refine pc_if (fun D => pc_ret ⟨fun e he => ?_, fun x hx => ⟨fun _ => ⟨rfl, K⟩, fun lt => by omega⟩⟩) (fun D => ?_)
    · have := RF.1; rw [he] at this
      exact absurd D (rs_l this)
    · refine pc_sub (by omega) ?_; intro v48 e48
      refine pc_ret ⟨fun e he => ?_, fun x hx => ?_⟩
      · have w := RF.1; rw [he] at w
        have w : u44 160 114 = (e : Int) := w
        exact ⟨by show v48 = _; omega, K⟩
      · have w := RF.1; rw [hx] at w
        exact absurd w D
end
end
section
/- LOAD AND KEEP OF BOTH SIDES -/
section
variable {nn : Nat} {h r g M M2 : ms_M} {c : Int} {B : Nat → Int} {n : Nat}
/-- the tape goes to the look: what loaded finds -/
theorem r_ldcopy (V : VS_ h) : Pc (qf_X13_load nn h) (fun u => ∃ g, VS_ g ∧ qf_X13_loaded nn g = some u ∧ (∀ i : Nat, g 238 i = if (i : Int) < h 160 1 then h 161 i else h 238 i) ∧ g 160 113 = h 160 1 ∧ ∀ x k, x ≠ 238 → ¬ (x = 160 ∧ (k = 113 ∨ k = 1)) → g x k = h x k) := by
  have g1 := gF_160_1 V
  have L : ∀ (f j : Nat) (g : ms_M), VS_ g → (j : Int) ≤ h 160 1 → (∀ i : Nat, g 238 i = if i < j then h 161 i else h 238 i) → g 160 113 = h 160 1 → (∀ x k, x ≠ 238 → ¬ (x = 160 ∧ k = 113) → g x k = h x k) → Pc (qw_X13_load_10 nn f (j : Int) g) (fun u => ∃ g, VS_ g ∧ qf_X13_loaded nn g = some u ∧ (∀ i : Nat, g 238 i = if (i : Int) < h 160 1 then h 161 i else h 238 i) ∧ g 160 113 = h 160 1 ∧ ∀ x k, x ≠ 238 → ¬ (x = 160 ∧ (k = 113 ∨ k = 1)) → g x k = h x k) := by
    intro f
    induction f with
    | zero => intros; exact pc_none
    | succ f ih =>
      intro j g Vg hj G e13 N
      have e1 : g 160 1 = h 160 1 := N 160 1 (by decide) (by decide)
      unfold qw_X13_load_10
      refine pc_if (fun C => ?_) (fun C => ?_)
      · refine pc_xl ?_; intro h2 e2
        refine pc_se ?_; intro u4 e4
        refine pc_ret ⟨h2, by rw [e2]; exact wF_160_1 Vg (by omega), e4, fun i => ?_, by rw [e2, up_n (by omega)]; exact e13, fun x k a b => by rw [e2, up_n (by omega)]; exact N x k a (by omega)⟩
        rw [e2, up_n (by omega), G i]
        by_cases q : i < j
        · rw [if_pos q, if_pos (by omega)]
        · rw [if_neg q, if_neg (by omega)]
      · refine pc_rA ?_; intro i1 i2 v7 e7
        have r7 := gA_161 Vg j (by omega)
        rw [Int.toNat_natCast] at e7
        refine pc_wA ?_; intro j1 j2 h8 e8
        refine pc_add (by omega) ?_; intro v9 e9
        rw [show v9 = ((j + 1 : Nat) : Int) by omega]
        refine ih (j + 1) h8 (by rw [e8]; exact wA_238 Vg (by omega)) (by omega) (fun i => ?_) (by rw [e8, up_n (by omega)]; exact e13) (fun x k a b => by rw [e8, up_n (by omega)]; exact N x k a b)
        rw [e8]
        by_cases q : i = j
        · rw [q, if_pos (by omega)]
          show up_M g 238 ((j : Int)).toNat v7 238 j = _
          rw [Int.toNat_natCast, up_s, e7]; exact N 161 j (by decide) (by omega)
        · rw [up_n (by omega), G i]
          by_cases q2 : i < j
          · rw [if_pos q2, if_pos (by omega)]
          · rw [if_neg q2, if_neg (by omega)]
  unfold qf_X13_load
  refine pc_xl ?_; intro h12 e12
  exact L nn 0 h12 (by rw [e12]; exact wF_160_113 V (by omega)) (by omega) (fun i => by rw [if_neg (Nat.not_lt_zero i), e12, up_n (by omega)]) (by rw [e12, up_s]) (fun x k a b => by rw [e12, up_n b])
/-- an IMAGE that was made goes to the look -/
theorem r_kpcopy (V : VS_ h) {a : Nat} (ha : (a : Int) < h 160 93) (h93 : h 160 93 ≤ 8) : Pc (qf_X13_keep nn (a : Int) h) (fun u => ∃ g, VS_ g ∧ qf_X13_loaded nn g = some u ∧ (∀ i : Nat, g 238 i = if (i : Int) < h 222 a then h 221 (6000 * a + i) else h 238 i) ∧ g 160 113 = h 222 a ∧ ∀ x k, x ≠ 238 → ¬ (x = 160 ∧ k = 113) → g x k = h x k) := by
  have g222 := gA_222 V a (by omega)
  have L : ∀ (f j : Nat) (g : ms_M), VS_ g → (j : Int) ≤ h 222 a → (∀ i : Nat, g 238 i = if i < j then h 221 (6000 * a + i) else h 238 i) → g 160 113 = h 222 a → (∀ x k, x ≠ 238 → ¬ (x = 160 ∧ k = 113) → g x k = h x k) → Pc (qw_X13_keep_26 nn f (a : Int) (j : Int) g) (fun u => ∃ g, VS_ g ∧ qf_X13_loaded nn g = some u ∧ (∀ i : Nat, g 238 i = if (i : Int) < h 222 a then h 221 (6000 * a + i) else h 238 i) ∧ g 160 113 = h 222 a ∧ ∀ x k, x ≠ 238 → ¬ (x = 160 ∧ k = 113) → g x k = h x k) := by
    intro f
    induction f with
    | zero => intros; exact pc_none
    | succ f ih =>
      intro j g Vg hj G e13 N
      unfold qw_X13_keep_26
      refine pc_if (fun C => ?_) (fun C => ?_)
      · refine pc_se ?_; intro u4 e4
        refine pc_ret ⟨g, Vg, e4, fun i => ?_, e13, N⟩
        rw [G i]
        by_cases q : i < j
        · rw [if_pos q, if_pos (by omega)]
        · rw [if_neg q, if_neg (by omega)]
      · refine pc_xl ?_; intro v6 e6
        rw [oq_mul_eq (by omega) (by omega) (by omega)] at e6
        refine pc_add (by omega) ?_; intro v7 e7
        refine pc_rA ?_; intro i1 i2 v8 e8
        have r8 := gA_221 Vg v7.toNat (by omega)
        rw [← e8] at r8
        rw [show v7.toNat = 6000 * a + j by omega, N 221 _ (by decide) (by omega)] at e8
        refine pc_wA ?_; intro j1 j2 h9 e9
        refine pc_add (by omega) ?_; intro v10 e10
        rw [show v10 = ((j + 1 : Nat) : Int) by omega]
        refine ih (j + 1) h9 (by rw [e9]; exact wA_238 Vg (by omega)) (by omega) (fun i => ?_) (by rw [e9, up_n (by omega)]; exact e13) (fun x k a b => by rw [e9, up_n (by omega)]; exact N x k a b)
        rw [e9]
        by_cases q : i = j
        · rw [q, if_pos (by omega)]
          show up_M g 238 ((j : Int)).toNat v8 238 j = _
          rw [Int.toNat_natCast, up_s, e8]
        · rw [up_n (by omega), G i]
          by_cases q2 : i < j
          · rw [if_pos q2, if_pos (by omega)]
          · rw [if_neg q2, if_neg (by omega)]
  unfold qf_X13_keep
  refine pc_if (fun z => absurd z (by omega)) (fun _ => pc_if (fun _ => ?_) (fun z => absurd ha z))
  refine pc_rA ?_; intro i1 i2 v14 e14
  rw [Int.toNat_natCast] at e14
  refine pc_xl ?_; intro h15 e15
  exact L nn 0 h15 (by rw [e15, e14]; exact wF_160_113 V (by omega)) (by omega) (fun i => by rw [if_neg (Nat.not_lt_zero i), e15, up_n (by omega)]) (by rw [e15, up_s]; exact e14) (fun x k a b => by rw [e15, up_n b])
/-- THE SPACE OF BOTH SIDES -/
def SPE (Bf : Nat → Nat → Int) (nf : Nat → Nat) (M : ms_M) : Prop := sp_R M ∧ CSp Bf nf M ∧ (∀ k : Nat, (k : Int) < M 160 98 → TBr (k : Int) (nf k) (Bf k) M) ∧ NKn Bf nf (M 56 3)
/-- a step that leaves what the class's space is -/
def ACs (M M2 : ms_M) : Prop := ∀ c k, (c < 160 ∨ 256 ≤ c) → c ≠ 143 → c ≠ 0 → M2 c k = M c k
theorem ly_1r {c : Nat} (t : ly_T c = 1) : c < 160 ∨ 256 ≤ c := by
  by_cases h1 : c < 160
  · exact .inl h1
  by_cases h2 : 256 ≤ c
  · exact .inr h2
  exfalso
  have w : (!(Nat.beq (ly_T (160 + (c - 160))) 1) && !(is_I (160 + (c - 160)))) = true := List.all_eq_true.mp T_ref (c - 160) (List.mem_range.mpr (by omega))
  rw [show 160 + (c - 160) = c by omega, t, Bool.and_eq_true] at w
  exact absurd w.1 (by decide)
theorem csp_a {Bf : Nat → Nat → Int} {nf : Nat → Nat} (V : VS_ M) (A : ACs M M2) (S : CSp Bf nf M) : CSp Bf nf M2 := by
  have g3 := gF_56_3 V
  have e3 : M2 56 3 = M 56 3 := A _ _ (by omega) (by omega) (by omega)
  have ec : cn_M M2 = cn_M M := by unfold cn_M; rw [A _ _ (by omega) (by omega) (by omega)]
  obtain ⟨S1, ⟨n1, n2, n3, n4⟩, RD⟩ := S
  have rk : ∀ k : Nat, (k : Int) < M 56 3 → M2 (M2 60 k).toNat 0 = M (M 60 k).toNat 0 := fun k hk => by
    have id := im_at (V.2.2.2.2.1 k (by omega)).2
    rw [A 60 k (by omega) (by omega) (by omega)]
    exact A _ _ (by omega) (by omega) (by omega)
  refine ⟨fun k hk => ?_, ⟨?_, fun j hj => by rw [A _ _ (by omega) (by omega) (by omega)]; exact n2 j hj, fun j hj h2 => by rw [A _ _ (by omega) (by omega) (by omega)]; exact n3 j hj (by omega), fun k hk => by rw [A 58 _ (by omega) (by omega) (by omega), e3]; exact n4 k (by omega)⟩, fun j k hj hk jk => by rw [rk j (by omega), rk k (by omega)]; exact RD j k (by omega) (by omega) jk⟩
  · rw [A 60 k (by omega) (by omega) (by omega)]
    have X := S1 k (by omega)
    have hd := (V.2.2.2.2.1 k (by omega)).2
    have id := im_at hd
    have t1 : ly_T (M (M 60 k).toNat 0).toNat = 1 := X.1.1.2.2.2.2.2.1
    have lt : (M (M 60 k).toNat 0).toNat < 160 ∨ 256 ≤ (M (M 60 k).toNat 0).toNat := ly_1r t1
    have nr : (M (M 60 k).toNat 0).toNat ≠ 143 ∧ (M (M 60 k).toNat 0).toNat ≠ 0 := ⟨fun z => by rw [z] at t1; exact absurd t1 (by decide), fun z => by rw [z] at t1; exact absurd t1 (by decide)⟩
    refine imc_s ⟨fun c i c1 c2 => A _ _ (by omega) (by omega) (by omega), fun i => A _ _ lt nr.1 nr.2, by omega, ?_⟩ X
    unfold ln_I
    split
    · rfl
    · exact A _ _ (by omega) (by omega) (by omega)
  · have ef : M2 (57 + 1) = M (57 + 1) := funext (fun j => A _ _ (by omega) (by omega) (by omega))
    unfold un_R
    rw [ef]
    intro x y hx hy
    rw [show M2 (57 + 2) (16 * x + y) = M (57 + 2) (16 * x + y) from A _ _ (by omega) (by omega) (by omega)]
    exact n1 x y hx hy
/-- what both sides do with the same bytes: the same answer, the same space -/
theorem ld_2 (hn : 1000000 ≤ nn) {Bf : Nat → Nat → Int} {nf : Nat → Nat} (V : VS_ M) (SI : SI_ M) (J : OJ M) (E : SPE Bf nf M) {a1 : Nat} {a2 : Int} (ta : a1 < cn_M M ∧ ly_T a1 = 1) (hs : a2 = (n : Int) ∧ n ≤ 6000 ∧ (n : Int) ≤ ln_I M a1) (hB : ∀ i : Nat, i < n → M a1 i % 256 = B i) (hc : M 900000 0 < 700000) {u : Int × ms_M × Nat × Nat} (e : qf_X7_bring nn a1 a2 M = some u) (g : ms_M) (Vg : VS_ g) (g113 : g 160 113 = (n : Int)) (g238 : ∀ i, g 238 i = B i) (gT : ∀ x k, 226 ≤ x → x ≤ 237 → g x k = M x k) (g98 : g 160 98 = M 160 98) {z : Int × ms_M} (e2 : qf_X13_loaded nn g = some z) : u.1 = z.1 ∧ ∃ Bg ng, CSp Bg ng u.2.1 ∧ (∀ k : Nat, (k : Int) < z.2 160 98 → TBr (k : Int) (ng k) (Bg k) z.2) ∧ u.2.1 56 3 = z.2 160 98 ∧ NKn Bg ng (u.2.1 56 3) ∧ (((Bg = Bf ∧ ng = nf) ∧ u.1 < 0 ∧ u.2.1 56 4 = M 56 4 ∧ z.2 160 99 = g 160 99 ∧ z.2 160 138 = g 160 138) ∨ (0 ≤ u.1 ∧ u.2.1 56 4 = 0 ∧ z.2 160 99 = 0 ∧ z.2 160 138 = 0)) := by
  obtain ⟨⟨p1, p2, p3⟩, S, T, N⟩ := E
  have hB2 : ∀ i, i < n → 0 ≤ B i ∧ B i ≤ 255 := fun i hi => by have := hB i hi; omega
  have Tg : ∀ k : Nat, (k : Int) < g 160 98 → TBr (k : Int) (nf k) (Bf k) g := fun k hk => tb_k (by omega) (fun x j q => gT _ _ (by unfold TAB at q; omega) (by unfold TAB at q; omega)) (fun j _ _ => gT _ _ (by decide) (by decide)) (gT _ _ (by decide) (by decide)) (T k (by omega))
  obtain ⟨C1, C2⟩ := c_bring hn V SI J S ta hs hB hc _ e
  obtain ⟨R1, R2⟩ := r_loaded hn Vg ⟨g113, hs.2.1⟩ g238 hB2 Tg _ e2
  have keep : u.1 = z.1 → u.1 < 0 → CSp Bf nf u.2.1 → u.2.1 56 3 = M 56 3 → u.2.1 56 4 = M 56 4 → KPs Bf nf g z.2 → u.1 = z.1 ∧ ∃ Bg ng, CSp Bg ng u.2.1 ∧ (∀ k : Nat, (k : Int) < z.2 160 98 → TBr (k : Int) (ng k) (Bg k) z.2) ∧ u.2.1 56 3 = z.2 160 98 ∧ NKn Bg ng (u.2.1 56 3) ∧ (((Bg = Bf ∧ ng = nf) ∧ u.1 < 0 ∧ u.2.1 56 4 = M 56 4 ∧ z.2 160 99 = g 160 99 ∧ z.2 160 138 = g 160 138) ∨ (0 ≤ u.1 ∧ u.2.1 56 4 = 0 ∧ z.2 160 99 = 0 ∧ z.2 160 138 = 0)) := fun a1 a2 a3 a4 a5 K => by
    obtain ⟨k1, k2, k3, k4⟩ := K
    exact ⟨a1, Bf, nf, a3, fun k hk => k4 k (by omega), by omega, by rw [a4]; exact N, .inl ⟨⟨rfl, rfl⟩, a2, a5, k2, k3⟩⟩
  cases zr : rdi_S B n with
  | inl x =>
    obtain ⟨c1, c2, c3, c4⟩ := C1 x zr
    obtain ⟨r1, r2⟩ := R1 x zr
    exact keep (by rw [c1, r1]) (by omega) c2 c3 c4 r2
  | inr x =>
    obtain ⟨C3, C4⟩ := C2 x zr
    obtain ⟨R3, R4⟩ := R2 x zr
    by_cases h8 : M 56 3 = 8
    · obtain ⟨c1, c2, c3, c4⟩ := C3 h8
      obtain ⟨r1, r2⟩ := R3 (by omega)
      exact keep (by rw [c1, r1]) (by omega) c2 c3 c4 r2
    · obtain ⟨v, cv, c5, c6⟩ := C4 (by omega)
      obtain ⟨y, ry, r5, r6⟩ := R4 (by omega)
      have vy : v = y := cl_cn N cv (by rw [g98, p1] at ry; exact ry)
      by_cases hv : v = -1
      · obtain ⟨c1, c2, c3, c4⟩ := c6 hv
        obtain ⟨r1, r2, r3, r4, r7, r8⟩ := r6 (by omega)
        have g3 : 0 ≤ M 56 3 := p2.1
        refine ⟨by omega, _, _, c2, fun k hk => ?_, by omega, ?_, .inr ⟨by omega, c4, r3, r4⟩⟩
        · unfold ext_n ext_B
          by_cases qk : k = (M 56 3).toNat
          · rw [if_pos qk, if_pos qk, show (k : Int) = g 160 98 by omega]; exact r7
          · rw [if_neg qk, if_neg qk]; exact r8 k (by omega)
        · rw [c3]
          intro j hj d d8
          unfold ext_n ext_B
          by_cases qj : j = (M 56 3).toNat
          · rw [if_pos qj, if_pos qj]
            rcases cv with ⟨k, k1, k2, -⟩ | ⟨q, -⟩
            · omega
            · rcases q with ⟨k, k8, k2, -⟩ | ⟨-, q⟩
              · omega
              · exact q d d8
          · rw [if_neg qj, if_neg qj]; exact N j (by omega) d d8
      · obtain ⟨c1, c2, c3, c4⟩ := c5 hv
        obtain ⟨r1, r2⟩ := r5 (by omega)
        exact keep (by rw [c1, r1]) (by omega) c2 c3 c4 r2
end
end
section
/- TYPE OF BOTH SIDES -/
section
variable {nn : Nat} {M : ms_M} {B : Nat → Int} {n : Nat}
theorem r_super {Bf : Nat → Nat → Int} {nf : Nat → Nat} (h98 : 0 ≤ M 160 98 ∧ M 160 98 ≤ 8) (S : ∀ k : Nat, (k : Int) < M 160 98 → TBr (k : Int) (nf k) (Bf k) M) {k : Nat} (hk : (k : Int) < M 160 98) : Pc (qf_X13_superOf nn (8 + (k : Int)) M) (CNo Bf nf (M 160 98) (fun i => Bf k (na_S (Bf k) (nf k) (nu_S (Bf k) (nf k)) + i)) (tl_S (Bf k) (nf k) (nu_S (Bf k) (nf k)))) := by
  have X := S k hk
  obtain ⟨p, zk, hp, h230, h231, b1, b2, n1, n2, c1, c2, t1, t2, -⟩ := tb_no X
  obtain ⟨⟨s1, s2, s3, s4⟩, ⟨x1, x2, x3, x4⟩, p', q', zk', y', -⟩ := X
  generalize hBk : Bf k = B at *
  generalize hnk : nf k = n at *
  rw [Int.toNat_natCast] at h231 s3
  have k1 := tg_in (B := B) (n := n) (k := B (p + 1)) (by omega)
  have k2 := tg_in (B := B) (n := n) (k := nu_S B n) (by omega)
  have kv1 := x4 (B (p + 1)) k1.1 k1.2.1
  have kv1b := kv1.2.2.1 (by omega)
  have kv2 := x4 (nu_S B n) k2.1 k2.2.1
  have kv2b := kv2.2.1 (by omega)
  unfold qf_X13_superOf
  refine pc_if (fun _ => ?_) (fun z => absurd (by omega) z)
  refine pc_sub (by omega) ?_; intro v1 e1
  refine pc_sub (by omega) ?_; intro v2 e2
  refine pc_sub (by omega) ?_; intro v4 e4
  refine pc_rA ?_; intro i1 i2 v5 e5
  have e5 : v5 = B (p + 1) := by rw [e5, show v4.toNat = k by omega]; exact h231
  rw [show v1 = (k : Int) by omega, show v2 = (k : Int) by omega, e5]
  refine pc_sv (P := fun u => u = nu_S B n) ?_ ?_
  · unfold qf_X13_textOfClass qf_X13_byteAt
    refine pc_xl ?_; intro w1 f1
    rw [oq_mul_eq (by omega) (by omega) (by omega)] at f1
    refine pc_add (by omega) ?_; intro w2 f2
    refine pc_rA ?_; intro j1 j2 w3 f3
    have f3 : w3 = (pl_S B n (B (p + 1)) : Int) := by
      rw [f3, show w2.toNat = (256 * (k : Int) + B (p + 1)).toNat by omega]; exact x3 _ k1.1 k1.2.1
    refine pc_add (by omega) ?_; intro w4 f4
    refine pc_sv (P := fun u => u = nu_S B n) ?_ (fun u q => pc_ret q)
    refine pc_xl ?_; intro w5 f5
    rw [oq_mul_eq (by omega) (by omega) (by omega)] at f5
    refine pc_add (by omega) ?_; intro w6 f6
    refine pc_rA ?_; intro l1 l2 w7 f7
    refine pc_ret ?_
    show w7 = _
    rw [f7, show w6.toNat = 6000 * k + (pl_S B n (B (p + 1)) + 1) by omega, s3 _ (by omega), n2]; rfl
  intro u7 q7
  rw [q7]
  refine pc_sv (P := CNo Bf nf (M 160 98) (fun i => B (na_S B n (nu_S B n) + i)) (tl_S B n (nu_S B n))) ?_ (fun u q => pc_ret q)
  unfold qf_X13_classAtText
  refine pc_xl ?_; intro w1 f1
  rw [oq_mul_eq (by omega) (by omega) (by omega)] at f1
  refine pc_xl ?_; intro w2 f2
  rw [oq_mul_eq (by omega) (by omega) (by omega)] at f2
  refine pc_add (by omega) ?_; intro w3 f3
  refine pc_rA ?_; intro j1 j2 w4 f4
  have f4 : w4 = (pl_S B n (nu_S B n) : Int) := by
    rw [f4, show w3.toNat = (256 * (k : Int) + nu_S B n).toNat by omega]; exact x3 _ k2.1 k2.2.1
  refine pc_add (by omega) ?_; intro w5 f5
  refine pc_add (by omega) ?_; intro w6 f6
  refine pc_add (by omega) ?_; intro w7 f7
  refine pc_rA ?_; intro l1 l2 w8 f8
  have f8 : w8 = (tl_S B n (nu_S B n) : Int) := by
    rw [f8, show w7.toNat = 6000 * k + (pl_S B n (nu_S B n) + 1) by omega, s3 _ (by omega)]; exact kv2b.2.2.2
  rw [f8, show w6 = ((6000 * k + na_S B n (nu_S B n) : Nat) : Int) by unfold na_S; omega]
  have RW : RWt M 226 ((6000 * k + na_S B n (nu_S B n) : Nat) : Int) (tl_S B n (nu_S B n)) (fun i => B (na_S B n (nu_S B n) + i)) := by
    refine ⟨by omega, by unfold na_S; omega, by omega, fun i hi => ?_⟩
    rw [Int.toNat_natCast, Nat.add_assoc]; exact s3 _ (by unfold na_S; omega)
  have nm : ∀ i, i < tl_S B n (nu_S B n) → ¬ B (na_S B n (nu_S B n) + i) = 32 := by
    have a2 := (by_le y'.2.1).2.2
    have zz : p' = p := by rw [zk] at zk'; cases zk'; rfl
    rw [zz] at a2
    have w := (pc_tx (p := p) zk x2.1 a2).2
    rw [← n2] at w
    unfold nm_S at w
    rw [Bool.and_eq_true] at w
    exact nm_32 w.2
  refine pc_sv (P := CNo Bf nf (M 160 98) (fun i => B (na_S B n (nu_S B n) + i)) (tl_S B n (nu_S B n))) ?_ (fun u q => pc_ret q)
  unfold qf_X13_classNamed
  exact r_classNamed (nn := nn) S h98 RW nm nn 0 (fun j _ hj => absurd hj (Nat.not_lt_zero j)) (fun j hj => absurd hj (Nat.not_lt_zero _)) (by omega)
theorem type_2 {Bf : Nat → Nat → Int} {nf : Nat → Nat} (V : VS_ M) (E : SPE Bf nf M) {a b x y : Int} (e1 : qf_X12_type nn a b M = some x) (e2 : qf_X13_type_ nn a b M = some y) : x = y := by
  obtain ⟨⟨p1, p2, p3⟩, ⟨S1, ⟨n1, n2, n3, n4⟩, -⟩, T, N⟩ := E
  unfold qf_X12_type at e1
  unfold qf_X13_type_ at e2
  by_cases a0 : a < 0
  · rw [if_pos a0] at e1 e2; cases e1; cases e2; rfl
  rw [if_neg a0, xl_eq, oq_add_eq (by omega) (by omega) (by omega)] at e1 e2
  by_cases a1 : a < 8 + M 56 3
  · rw [if_pos a1] at e1
    rw [if_neg (by omega)] at e2
    by_cases b0 : b = 0
    · rw [if_neg (fun z => z b0)] at e1
      rw [if_neg (by omega), if_pos (by omega), if_neg (fun z => z b0)] at e2
      obtain ⟨u, eu, e1⟩ := sv_i e1
      cases e1
      obtain ⟨w, ew, e2⟩ := sv_i e2
      cases e2
      have eu : x = M 58 a.toNat := by
        unfold qf_X4_above qf_X4_isClass at eu
        rw [if_neg a0, if_neg (by omega), mx_svs, if_neg (by decide)] at eu
        replace eu := rd_i eu
        exact (Option.some.inj eu).symm
      by_cases a8 : 8 ≤ a
      · obtain ⟨k, hk⟩ : ∃ k : Nat, a = 8 + (k : Int) := ⟨(a - 8).toNat, by omega⟩
        rw [hk] at ew eu
        have c := n4 k (by omega)
        rw [show (8 + (k : Int)).toNat = 8 + k by omega] at eu
        rw [← eu] at c
        have d := r_super (nn := nn) (by omega) T (k := k) (by omega) _ ew
        rw [p1] at d
        exact cl_cn N c d
      · have z := n2 a.toNat (by omega)
        rw [eu, z]
        unfold qf_X13_superOf at ew
        rw [if_neg a8] at ew
        unfold bi_A
        by_cases q0 : a = 0
        · rw [if_neg (fun z => z q0)] at ew
          cases ew
          rw [if_neg (by omega), if_neg (by omega)]
        · rw [if_pos q0] at ew
          by_cases q1 : a = 1
          · rw [if_neg (fun z => z q1)] at ew
            cases ew
            rw [if_pos (by omega)]
          · rw [if_pos q1] at ew
            cases ew
            rw [if_neg (by omega), if_pos (by omega)]
    · rw [if_pos b0] at e1
      obtain ⟨u, eu, e1⟩ := sv_i e1
      unfold qf_X7_imageOf at eu
      by_cases a8 : a < 8
      · rw [if_pos a8] at eu
        cases eu
        rw [if_pos (by decide)] at e1
        by_cases b1 : b < 1
        · rw [if_pos b1] at e1
          rw [if_pos (by omega)] at e2
          cases e1; cases e2; rfl
        · rw [if_neg b1] at e1
          rw [if_neg (by omega)] at e2
          by_cases b4 : 4 < b
          · rw [if_pos b4] at e1
            rw [if_neg (by omega)] at e2
            cases e1; cases e2; rfl
          · rw [if_neg b4] at e1
            rw [if_pos (by omega), if_pos b0, xl_eq, oq_sub_eq (by omega) (by omega) (by omega), if_neg (by omega)] at e2
            cases e1; cases e2; rfl
      · rw [if_neg a8, xl_eq, oq_add_eq (by omega) (by omega) (by omega), if_neg (by omega), xl_eq, oq_sub_eq (by omega) (by omega) (by omega)] at eu
        replace eu := rd_i eu
        have eu := Option.some.inj eu
        obtain ⟨k, hk⟩ : ∃ k : Nat, a = 8 + (k : Int) := ⟨(a - 8).toNat, by omega⟩
        rw [show (a - 8).toNat = k by omega] at eu
        have hd := V.2.2.2.2.1 k (by omega)
        have X := S1 k (by omega)
        have Y := T k (by omega)
        obtain ⟨TT, q1, q2, z1, y1, -, ⟨f10, -⟩, f12, -⟩ := X
        obtain ⟨⟨s1, -⟩, ⟨s2, -⟩, r1, r2, z2, y2, -, ⟨g10, -⟩, g12, -⟩ := Y
        have q12 : q1 = r1 := by rw [z1] at z2; cases z2; rfl
        have q22 : q2 = r2 := by
          have w1 := y1.2.2.1
          have w2 := y2.2.2.1
          rw [← q12, w1] at w2; cases w2; rfl
        rw [Int.toNat_natCast] at s1 s2 g10 g12
        rw [if_neg (by omega)] at e1
        by_cases b1 : b < 0
        · rw [if_pos b1] at e2; cases e2
          rw [if_neg (by omega), if_neg (by omega), if_neg (by omega), if_neg (by omega)] at e1
          cases e1; rfl
        rw [if_neg b1] at e2
        by_cases b4 : b ≤ 4
        · rw [if_pos b4, if_pos b0, xl_eq, oq_sub_eq (by omega) (by omega) (by omega), if_pos (by omega)] at e2
          by_cases c1 : b = 1
          · rw [if_pos c1] at e1 e2
            obtain ⟨-, e1⟩ := ck_i e1
            replace e2 := rd_i e2
            cases e1; cases e2
            rw [← eu, f10, show (a - 8).toNat = k by omega, g10, q12]
          rw [if_neg c1] at e1 e2
          by_cases c2 : b = 2
          · rw [if_pos c2] at e1 e2
            obtain ⟨-, e1⟩ := ck_i e1
            replace e2 := rd_i e2
            cases e1; cases e2
            rw [← eu, f12, show (a - 8).toNat = k by omega, g12, q22]
          rw [if_neg c2] at e1 e2
          by_cases c3 : b = 3
          · rw [if_pos c3] at e1 e2
            obtain ⟨-, e1⟩ := ck_i e1
            replace e2 := rd_i e2
            cases e1; cases e2
            rw [← eu, TT.1.2.2.1, show (a - 8).toNat = k by omega, s1]
          rw [if_neg c3] at e1 e2
          rw [if_pos (by omega)] at e1
          obtain ⟨-, e1⟩ := ck_i e1
          replace e2 := rd_i e2
          cases e1; cases e2
          rw [← eu, TT.2.1, show (a - 8).toNat = k by omega, s2]
        · rw [if_neg b4] at e2; cases e2
          rw [if_neg (by omega), if_neg (by omega), if_neg (by omega), if_neg (by omega)] at e1
          cases e1; rfl
  · rw [if_neg a1] at e1
    rw [if_pos (by omega)] at e2
    cases e1; cases e2; rfl
end
end
section
/- PATCH OF BOTH SIDES: is the name another's? -/
section
variable {nn : Nat} {M : ms_M} {b2 : Nat} {B C : Nat → Int} {n n2 : Nat} {f : Nat → Int} {m : Nat}
/-- the name f is known, or that of another class than c -/
def OTh (Bf : Nat → Nat → Int) (nf : Nat → Nat) (cnt : Int) (c : Nat) (f : Nat → Int) (m : Nat) : Prop := (∃ k : Nat, k < 8 ∧ KNm f m k) ∨ ∃ k : Nat, (k : Int) < cnt ∧ k ≠ c ∧ UNm f m (Bf k) (nf k) (own_S (Bf k) (nf k))
theorem c_44 {Bf : Nat → Nat → Int} {nf : Nat → Nat} {c : Nat} (S : ∀ k : Nat, (k : Int) < M 56 3 → k ≠ c → IMc (M 60 k).toNat (nf k) (Bf k) M) (g3 : 0 ≤ M 56 3 ∧ M 56 3 ≤ 8) (X2 : TTc (M 56 2).toNat n2 C M) {t : Int} (ht : tg_S C n2 t = 1) : ∀ (fu k : Nat) (l3 : Int), (k : Int) ≤ M 56 3 → ((l3 = 1 ∧ OTh Bf nf (k : Int) c (fun i => C (na_S C n2 t + i)) (tl_S C n2 t)) ∨ (l3 = 0 ∧ ¬ OTh Bf nf (k : Int) c (fun i => C (na_S C n2 t + i)) (tl_S C n2 t))) → Pc (qw_X7_isNamedAsOther_44 nn fu (8 + (c : Int)) t l3 (k : Int) M) (fun u => (u = 1 ∧ OTh Bf nf (M 56 3) c (fun i => C (na_S C n2 t + i)) (tl_S C n2 t)) ∨ (u = 0 ∧ ¬ OTh Bf nf (M 56 3) c (fun i => C (na_S C n2 t + i)) (tl_S C n2 t))) := by
  have up : ∀ k : Nat, OTh Bf nf (k : Int) c (fun i => C (na_S C n2 t + i)) (tl_S C n2 t) → OTh Bf nf ((k + 1 : Nat) : Int) c (fun i => C (na_S C n2 t + i)) (tl_S C n2 t) := fun k z => by
    rcases z with z | ⟨j, j1, j2, j3⟩
    · exact .inl z
    · exact .inr ⟨j, by omega, j2, j3⟩
  intro fu
  induction fu with
  | zero => intros; exact pc_none
  | succ fu ih =>
    intro k l3 hk hl
    unfold qw_X7_isNamedAsOther_44
    refine pc_if (fun z => pc_ck (fun _ => pc_ret ?_)) (fun z => ?_)
    · rw [show M 56 3 = (k : Int) by omega]; exact hl
    have one : OTh Bf nf ((k + 1 : Nat) : Int) c (fun i => C (na_S C n2 t + i)) (tl_S C n2 t) → Pc (qj_X7_isNamedAsOther_94 nn (qw_X7_isNamedAsOther_44 nn fu) (8 + (c : Int)) t (k : Int) M) (fun u => (u = 1 ∧ OTh Bf nf (M 56 3) c (fun i => C (na_S C n2 t + i)) (tl_S C n2 t)) ∨ (u = 0 ∧ ¬ OTh Bf nf (M 56 3) c (fun i => C (na_S C n2 t + i)) (tl_S C n2 t))) := fun z => by
      unfold qj_X7_isNamedAsOther_94
      refine pc_add (by omega) ?_; intro v2 e2
      rw [show v2 = ((k + 1 : Nat) : Int) by omega]
      exact ih (k + 1) 1 (by omega) (.inl ⟨rfl, z⟩)
    have zero : ¬ OTh Bf nf ((k + 1 : Nat) : Int) c (fun i => C (na_S C n2 t + i)) (tl_S C n2 t) → Pc (qj_X7_isNamedAsOther_98 nn (qw_X7_isNamedAsOther_44 nn fu) (8 + (c : Int)) t (k : Int) M) (fun u => (u = 1 ∧ OTh Bf nf (M 56 3) c (fun i => C (na_S C n2 t + i)) (tl_S C n2 t)) ∨ (u = 0 ∧ ¬ OTh Bf nf (M 56 3) c (fun i => C (na_S C n2 t + i)) (tl_S C n2 t))) := fun z => by
      unfold qj_X7_isNamedAsOther_98
      refine pc_add (by omega) ?_; intro v2 e2
      rw [show v2 = ((k + 1 : Nat) : Int) by omega]
      exact ih (k + 1) 0 (by omega) (.inr ⟨rfl, z⟩)
    refine pc_if (fun y => one ?_) (fun y => ?_)
    · rcases hl with ⟨-, q⟩ | ⟨q, -⟩
      · exact up k q
      · exact absurd q y
    have no : ¬ OTh Bf nf (k : Int) c (fun i => C (na_S C n2 t + i)) (tl_S C n2 t) := by
      rcases hl with ⟨q, -⟩ | ⟨-, q⟩
      · exact absurd q (by have := Decidable.not_not.1 y; omega)
      · exact q
    refine pc_add (by omega) ?_; intro v5 e5
    refine pc_if (fun q => zero ?_) (fun q => ?_)
    · rintro (z1 | ⟨j, j1, j2, j3⟩)
      · exact no (.inl z1)
      · by_cases qj : j = k
        · omega
        · exact no (.inr ⟨j, by omega, j2, j3⟩)
    · have X := S k (by omega) (by omega)
      obtain ⟨t1, e8, -⟩ := im_no X
      obtain ⟨a1, a2, a3⟩ := c_text (nn := nn) X.1 t1
      obtain ⟨b1, b2', b3⟩ := c_text (nn := nn) X2 ht
      refine pc_rA ?_; intro i1 i2 v7 e7
      rw [Int.toNat_natCast] at e7
      refine pc_rA ?_; intro j1 j2 v9 e9
      rw [Int.toNat_natCast] at e9
      refine pc_ck (fun _ => pc_ck (fun _ => pc_ck (fun _ => pc_ck (fun _ => pc_ck (fun _ => ?_)))))
      rw [e7, e9, e8]
      refine pc_sv (P := fun u => (u = 1 ∧ UNm (fun i => C (na_S C n2 t + i)) (tl_S C n2 t) (Bf k) (nf k) (own_S (Bf k) (nf k))) ∨ (u = 0 ∧ ¬ UNm (fun i => C (na_S C n2 t + i)) (tl_S C n2 t) (Bf k) (nf k) (own_S (Bf k) (nf k)))) ?_ ?_
      · unfold qf_X3_sameText
        rw [a1, mx_svs, a2, mx_svs]
        refine pc_ck (fun _ => ?_)
        rw [b1, mx_svs, b2', mx_svs]
        refine pc_sv (c_same X.1.1 X2.1 ⟨by omega, a3⟩ ⟨by omega, b3⟩) ?_; intro u10 q10
        rw [un_eq (by omega), show na_S C n2 t + tl_S C n2 t - na_S C n2 t = tl_S C n2 t by omega] at q10
        exact pc_ck (fun _ => pc_ret q10)
      · intro u15 q15
        refine pc_if (fun y2 => zero ?_) (fun y2 => one ?_)
        · rintro (z1 | ⟨j, j1, j2, j3⟩)
          · exact no (.inl z1)
          · by_cases qj : j = k
            · rcases q15 with ⟨q1, -⟩ | ⟨-, q2⟩
              · omega
              · rw [qj] at j3; exact q2 j3
            · exact no (.inr ⟨j, by omega, j2, j3⟩)
        · refine .inr ⟨k, by omega, by omega, ?_⟩
          rcases q15 with ⟨-, q2⟩ | ⟨q1, -⟩
          · exact q2
          · exact absurd q1 y2
theorem c_other {Bf : Nat → Nat → Int} {nf : Nat → Nat} {c : Nat} (S : ∀ k : Nat, (k : Int) < M 56 3 → k ≠ c → IMc (M 60 k).toNat (nf k) (Bf k) M) (g3 : 0 ≤ M 56 3 ∧ M 56 3 ≤ 8) (X : IMc (M 56 2).toNat n2 C M) : Pc (qf_X7_isNamedAsOther nn (8 + (c : Int)) M) (fun u => (u = 1 ∧ OTh Bf nf (M 56 3) c (fun i => C (na_S C n2 (own_S C n2) + i)) (tl_S C n2 (own_S C n2))) ∨ (u = 0 ∧ ¬ OTh Bf nf (M 56 3) c (fun i => C (na_S C n2 (own_S C n2) + i)) (tl_S C n2 (own_S C n2)))) := by
  obtain ⟨t1, e8, -⟩ := im_no X
  obtain ⟨a1, a2, a3⟩ := c_text (nn := nn) X.1 t1
  unfold qf_X7_isNamedAsOther
  refine pc_ck (fun _ => pc_ck (fun _ => pc_ck (fun _ => pc_ck (fun _ => ?_))))
  rw [e8, a1, mx_svs]
  refine pc_ck (fun _ => ?_)
  rw [a2, mx_svs]
  refine pc_sv (c_builtIn X.1.1 (a := na_S C n2 (own_S C n2)) (s := na_S C n2 (own_S C n2) + tl_S C n2 (own_S C n2)) (by omega) a3) ?_; intro u30 q30
  rw [show na_S C n2 (own_S C n2) + tl_S C n2 (own_S C n2) - na_S C n2 (own_S C n2) = tl_S C n2 (own_S C n2) by omega] at q30
  refine pc_if (fun y => ?_) (fun y => ?_)
  · refine c_44 S g3 X.1 t1 nn 0 0 (by omega) (.inr ⟨rfl, ?_⟩)
    rintro (⟨k, k8, k2⟩ | ⟨j, j1, -⟩)
    · rcases q30 with ⟨d, d8, d1, -⟩ | ⟨-, q⟩
      · omega
      · exact q k k8 k2
    · omega
  · refine c_44 S g3 X.1 t1 nn 0 1 (by omega) (.inl ⟨rfl, .inl ?_⟩)
    rcases q30 with ⟨d, d8, -, d2⟩ | ⟨q, -⟩
    · exact ⟨d, d8, d2⟩
    · exact absurd q y
end
end
