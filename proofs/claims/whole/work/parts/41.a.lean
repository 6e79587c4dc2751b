/- NAMES OF BOTH SIDES: the eight that are known -/
set_option maxRecDepth 100000 in
theorem xt_1 {j : Int} (h0 : 0 ≤ j) (hj : j < 76) (G : Int → Option Int) : rd_X (1000000000 + 1) j G = G (cx_ (1000000000 + 1) j) := xt_rd (n := 76) (by decide +kernel) j h0 hj G
set_option maxRecDepth 100000 in
theorem xt_3 {j : Int} (h0 : 0 ≤ j) (hj : j < 77) (G : Int → Option Int) : rd_X (1000000000 + 3) j G = G (cx_ (1000000000 + 3) j) := xt_rd (n := 77) (by decide +kernel) j h0 hj G
/-- letter j of the known names -/
def kn_C (j : Nat) : Int := cx_ (1000000000 + 1) (j : Int)
/-- where the name c begins, and how long it is -/
def kn_A : Nat → Nat
  | 0 => 0
  | 1 => 7
  | 2 => 13
  | 3 => 23
  | 4 => 34
  | 5 => 45
  | 6 => 55
  | 7 => 65
  | _ => 76
def kn_L (c : Nat) : Nat := kn_A (c + 1) - kn_A c - 1
set_option maxRecDepth 100000 in
theorem kn_sp : (List.range 8).all (fun c => (decide (kn_A c + kn_L c + 1 = kn_A (c + 1)) && decide (kn_A (c + 1) ≤ 76)) && (decide (kn_C (kn_A c + kn_L c) = 32) && (List.range (kn_L c)).all (fun i => decide (33 ≤ kn_C (kn_A c + i) ∧ kn_C (kn_A c + i) ≤ 126)))) = true := by decide +kernel
set_option maxRecDepth 100000 in
theorem kn_3 : (List.range 76).all (fun j => decide (cx_ (1000000000 + 3) ((j + 1 : Nat) : Int) = kn_C j)) = true := by decide +kernel
set_option maxRecDepth 100000 in
theorem kn_30 : cx_ (1000000000 + 3) 0 = 32 := by decide +kernel
set_option maxRecDepth 100000 in
theorem kn_di : (List.range 8).all (fun c => (List.range 8).all (fun d => Nat.beq c d || (!(Nat.beq (kn_L c) (kn_L d)) || !((List.range (kn_L c)).all (fun i => decide (kn_C (kn_A c + i) = kn_C (kn_A d + i))))))) = true := by decide +kernel
/-- the text f, m bytes long, is the name c -/
def KNm (f : Nat → Int) (m c : Nat) : Prop := m = kn_L c ∧ ∀ i, i < m → f i = kn_C (kn_A c + i)
section
variable {nn : Nat} {M : ms_M} {b : Nat} {B : Nat → Int} {n : Nat} {f : Nat → Int} {m : Nat}
theorem kn_w {c : Nat} (hc : c < 8) : kn_A c + kn_L c + 1 = kn_A (c + 1) ∧ kn_A (c + 1) ≤ 76 ∧ kn_C (kn_A c + kn_L c) = 32 ∧ ∀ i, i < kn_L c → 33 ≤ kn_C (kn_A c + i) ∧ kn_C (kn_A c + i) ≤ 126 := by
  have h := List.all_eq_true.mp kn_sp c (List.mem_range.mpr hc)
  rw [Bool.and_eq_true, Bool.and_eq_true, Bool.and_eq_true, decide_eq_true_iff, decide_eq_true_iff, decide_eq_true_iff] at h
  exact ⟨h.1.1, h.1.2, h.2.1, fun i hi => of_decide_eq_true (List.all_eq_true.mp h.2.2 i (List.mem_range.mpr hi))⟩
set_option maxRecDepth 100000 in
theorem kn_l1 : (List.range 8).all (fun c => Nat.ble 1 (kn_L c)) = true := by decide +kernel
theorem kn_eq {c d : Nat} (hc : c < 8) (hd : d < 8) (a : KNm f m c) (e : KNm f m d) : c = d := by
  have h := List.all_eq_true.mp (List.all_eq_true.mp kn_di c (List.mem_range.mpr hc)) d (List.mem_range.mpr hd)
  rw [Bool.or_eq_true, Bool.or_eq_true] at h
  rcases h with h | h | h
  · exact Nat.eq_of_beq_eq_true h
  · rw [← a.1, ← e.1, Nat.beq_refl] at h; cases h
  · exfalso
    have k : (List.range (kn_L c)).all (fun i => decide (kn_C (kn_A c + i) = kn_C (kn_A d + i))) = true := by
      refine List.all_eq_true.mpr (fun i hi => decide_eq_true ?_)
      have hi := List.mem_range.mp hi
      rw [← a.2 i (by have := a.1; omega), ← e.2 i (by have := a.1; omega)]
    rw [k] at h; cases h
theorem kn_c3 {j : Nat} (hj : j < 76) : cx_ (1000000000 + 3) ((j + 1 : Nat) : Int) = kn_C j := of_decide_eq_true (List.all_eq_true.mp kn_3 j (List.mem_range.mpr hj))
/-- the first j letters are those of the name c -/
def GDm (f : Nat → Int) (m c j : Nat) : Prop := j ≤ m ∧ ∀ i, i < j → f i = kn_C (kn_A c + i)
/-- what builtIn answers -/
def QBi (f : Nat → Int) (m : Nat) (u : Int) : Prop := (∃ c : Nat, c < 8 ∧ u = (c : Int) ∧ KNm f m c) ∨ (u = -1 ∧ ∀ c : Nat, c < 8 → ¬ KNm f m c)
theorem bi_8 (I : sr_I M b B n) {a s : Nat} (ha : a ≤ s) (hs : s ≤ n) : ∀ (k c j : Nat) (l4 : Int), c < 8 → j ≤ kn_L c → (∀ d, d < c → ¬ KNm (fun i => B (a + i)) (s - a) d) → ((GDm (fun i => B (a + i)) (s - a) c j ∧ l4 = ((a + j : Nat) : Int)) ∨ (¬ GDm (fun i => B (a + i)) (s - a) c j ∧ l4 = -1)) → Pc (qw_X3_builtIn_8 nn k b (a : Int) (s : Int) (c : Int) l4 ((kn_A c + j : Nat) : Int) M) (QBi (fun i => B (a + i)) (s - a)) := by
  intro k
  induction k with
  | zero => intros; exact pc_none
  | succ k ih =>
    intro c j l4 hc hj hd hl
    have w := kn_w hc
    have n6 := I.2.1
    unfold qw_X3_builtIn_8
    show Pc (if (76 : Int) ≤ ((kn_A c + j : Nat) : Int) then _ else _) _
    refine pc_if (fun z => absurd z (by omega)) (fun _ => ?_)
    rw [xt_1 (by omega) (by omega)]
    show Pc (if kn_C (kn_A c + j) = 32 then _ else _) _
    by_cases q : j = kn_L c
    · rw [q] at hl ⊢
      rw [if_pos w.2.2.1]
      have K : KNm (fun i => B (a + i)) (s - a) c ↔ l4 = (s : Int) := by
        rcases hl with ⟨g, e⟩ | ⟨g, e⟩
        · refine ⟨fun z => ?_, fun z => ⟨by omega, fun i hi => g.2 i (by omega)⟩⟩
          have := z.1; omega
        · refine ⟨fun z => absurd ⟨by have := z.1; omega, fun i hi => z.2 i (by have := z.1; omega)⟩ g, fun z => by omega⟩
      refine pc_if (fun y => ?_) (fun y => pc_ret (.inl ⟨c, hc, rfl, K.2 (Decidable.not_not.1 y)⟩))
      have no : ¬ KNm (fun i => B (a + i)) (s - a) c := fun z => y (K.1 z)
      refine pc_add (by omega) ?_; intro v6 e6
      refine pc_add (by omega) ?_; intro v7 e7
      by_cases c7 : c = 7
      · -- behind the last name
        have e76 : v7 = 76 := by
          have : kn_A (c + 1) = 76 := by rw [c7]; rfl
          omega
        cases k with
        | zero => exact pc_none
        | succ k =>
          unfold qw_X3_builtIn_8
          rw [e76]
          show Pc (some (-1 : Int)) _
          refine pc_ret (.inr ⟨rfl, fun d d8 => ?_⟩)
          by_cases qd : d = c
          · rw [qd]; exact no
          · exact hd d (by omega)
      · rw [show v6 = ((c + 1 : Nat) : Int) by omega, show v7 = ((kn_A (c + 1) + 0 : Nat) : Int) by omega]
        refine ih (c + 1) 0 (a : Int) (by omega) (Nat.zero_le _) (fun d d8 => ?_) (.inl ⟨⟨Nat.zero_le _, fun i hi => absurd hi (Nat.not_lt_zero i)⟩, by omega⟩)
        by_cases qd : d = c
        · rw [qd]; exact no
        · exact hd d (by omega)
    · have lt := w.2.2.2 j (by omega)
      rw [if_neg (by omega)]
      have bad : ¬ GDm (fun i => B (a + i)) (s - a) c (j + 1) → Pc (qj_X3_builtIn_70 nn (qw_X3_builtIn_8 nn k) b (a : Int) (s : Int) (c : Int) l4 ((kn_A c + j : Nat) : Int) M) (QBi (fun i => B (a + i)) (s - a)) := fun z => by
        unfold qj_X3_builtIn_70 qj_X3_builtIn_71
        rw [if_pos rfl]
        unfold qj_X3_builtIn_86
        refine pc_add (by omega) ?_; intro v1 e1
        rw [show v1 = ((kn_A c + (j + 1) : Nat) : Int) by omega]
        exact ih c (j + 1) (-1) hc (by omega) hd (.inr ⟨z, rfl⟩)
      have up : ∀ z : GDm (fun i => B (a + i)) (s - a) c (j + 1), GDm (fun i => B (a + i)) (s - a) c j := fun z => ⟨by have := z.1; omega, fun i hi => z.2 i (by omega)⟩
      refine pc_if (fun z => bad ?_) (fun z => pc_if (fun z2 => bad ?_) (fun z2 => ?_))
      · rcases hl with ⟨g, e⟩ | ⟨g, e⟩
        · omega
        · exact fun y => g (up y)
      · rcases hl with ⟨g, e⟩ | ⟨g, e⟩
        · intro y; have := y.1; omega
        · exact fun y => g (up y)
      · rcases hl with ⟨g, e⟩ | ⟨g, e⟩
        · rw [I.2.2.1]
          refine pc_if (fun z3 => absurd z3 (by omega)) (fun _ => pc_ck (fun _ => pc_rT (fun v11 e11 => ?_)))
          have e11 : v11 = M (M b 0).toNat (a + j) := by rw [e11, e]; rfl
          have r8 := I.2.2.2.2.2.2.2 (a + j) (by omega)
          rw [← e11] at r8
          refine pc_if (fun y => bad (fun x => y ?_)) (fun y => ?_)
          · have := x.2 j (by omega)
            show v11 = kn_C (kn_A c + j)
            have t : B (a + j) = kn_C (kn_A c + j) := this
            omega
          · have y : v11 = kn_C (kn_A c + j) := Decidable.not_not.1 y
            unfold qj_X3_builtIn_71
            rw [if_neg (by decide)]
            refine pc_add (by omega) ?_; intro v2 e2
            unfold qj_X3_builtIn_86
            refine pc_add (by omega) ?_; intro v1 e1
            rw [show v1 = ((kn_A c + (j + 1) : Nat) : Int) by omega]
            refine ih c (j + 1) v2 hc (by omega) hd (.inl ⟨⟨by have := g.1; omega, fun i hi => ?_⟩, by omega⟩)
            by_cases qi : i = j
            · rw [qi]; show B (a + j) = _; omega
            · exact g.2 i (by omega)
        · omega
theorem c_builtIn (I : sr_I M b B n) {a s : Nat} (ha : a ≤ s) (hs : s ≤ n) : Pc (qf_X3_builtIn nn b (a : Int) (s : Int) M) (QBi (fun i => B (a + i)) (s - a)) := by
  unfold qf_X3_builtIn
  exact bi_8 I ha hs nn 0 0 (a : Int) (by omega) (Nat.zero_le _) (fun d hd => absurd hd (Nat.not_lt_zero d)) (.inl ⟨⟨Nat.zero_le _, fun i hi => absurd hi (Nat.not_lt_zero i)⟩, by omega⟩)
theorem qb_det {u v : Int} (a : QBi f m u) (e : QBi f m v) : u = v := by
  rcases a with ⟨c, c8, rfl, k⟩ | ⟨rfl, k⟩
  · rcases e with ⟨d, d8, rfl, k2⟩ | ⟨rfl, k2⟩
    · rw [kn_eq c8 d8 k k2]
    · exact absurd k (k2 c c8)
  · rcases e with ⟨d, d8, rfl, k2⟩ | ⟨rfl, k2⟩
    · exact absurd k2 (k d d8)
    · rfl
/-- the reference's row x from a on is f -/
def RWt (M : ms_M) (x : Nat) (a : Int) (m : Nat) (f : Nat → Int) : Prop := 0 ≤ a ∧ a ≤ 100000 ∧ m ≤ 255 ∧ ∀ i, i < m → M x (a.toNat + i) = f i
theorem pc_rS {α : Type} {Q : α → Prop} {c : Nat} {j : Int} {G : Int → Option α} (q : ∀ v, v = M c j.toNat → Pc (G v) Q) : Pc (rd_S c j M G) Q := by
  intro r e
  unfold rd_S at e
  split at e
  · exact q _ rfl r e
  · cases e
theorem n_97 {x : Nat} {a : Int} (R : RWt M x a m f) {o : Nat} (ho : o + m + 1 ≤ 76) : ∀ (k : Nat) (l7 : Int) (j : Nat), j ≤ m → ((l7 = 1 ∧ ∀ i, i < j → f i = kn_C (o + i)) ∨ (l7 = 0 ∧ ¬ ∀ i, i < m → f i = kn_C (o + i))) → Pc (qw_X13_isNamed_97 nn k x a (m : Int) (o : Int) l7 (j : Int) M) (fun u => (u = 1 ∧ ∀ i, i < m → f i = kn_C (o + i)) ∨ (u = 0 ∧ ¬ ∀ i, i < m → f i = kn_C (o + i))) := by
  intro k
  induction k with
  | zero => intros; exact pc_none
  | succ k ih =>
    intro l7 j hj hl
    unfold qw_X13_isNamed_97
    refine pc_if (fun z => pc_ck (fun _ => pc_ret ?_)) (fun z => pc_if (fun z2 => pc_ck (fun _ => pc_ret ?_)) (fun z2 => ?_))
    · rcases hl with ⟨e, g⟩ | ⟨e, g⟩
      · exact .inl ⟨e, fun i hi => g i (by omega)⟩
      · exact .inr ⟨e, g⟩
    · rcases hl with ⟨e, g⟩ | ⟨e, g⟩
      · omega
      · exact .inr ⟨e, g⟩
    · rcases hl with ⟨e, g⟩ | ⟨e, g⟩
      · refine pc_add (by omega) ?_; intro v16 e16
        refine pc_add (by omega) ?_; intro v17 e17
        rw [xt_3 (by omega) (by omega), show v17 = ((o + j + 1 : Nat) : Int) by omega, kn_c3 (by omega)]
        refine pc_add (by have := R.1; have := R.2.1; have := R.2.2.1; omega) ?_; intro v19 e19
        refine pc_rS (fun v20 e20 => ?_)
        have e20 : v20 = f j := by
          rw [e20, show v19.toNat = a.toNat + j by have := R.1; omega]; exact R.2.2.2 j (by omega)
        refine pc_if (fun y => ?_) (fun y => ?_)
        · refine pc_add (by have := R.2.2.1; omega) ?_; intro v21 e21
          rw [show v21 = ((j + 1 : Nat) : Int) by omega]
          exact ih 0 (j + 1) (by omega) (.inr ⟨rfl, fun x => y (by have := x j (by omega); omega)⟩)
        · refine pc_add (by have := R.2.2.1; omega) ?_; intro v21 e21
          rw [show v21 = ((j + 1 : Nat) : Int) by omega]
          refine ih 1 (j + 1) (by omega) (.inl ⟨rfl, fun i hi => ?_⟩)
          by_cases qi : i = j
          · rw [qi]; omega
          · exact g i (by omega)
      · omega
theorem n_97z {x : Nat} {a l4 l6 : Int} {k : Nat} {l8 : Int} : Pc (qw_X13_isNamed_97 nn k x a l4 l6 0 l8 M) (fun u => u = 0) := by
  cases k with
  | zero => exact pc_none
  | succ k =>
    unfold qw_X13_isNamed_97
    exact pc_if (fun _ => pc_ck (fun _ => pc_ret rfl)) (fun _ => pc_if (fun _ => pc_ck (fun _ => pc_ret rfl)) (fun z => absurd rfl z))
/-- the known name c of the reference, the text without blanks -/
theorem nk_12 {x : Nat} {a : Int} (R : RWt M x a m f) (hf : ∀ i, i < m → ¬ f i = 32) {c : Nat} (hc : c < 8) : ∀ (k d j : Nat) (l5 : Int), d ≤ c → (j = 0 ∧ l5 = (d : Int) - 1 ∨ 1 ≤ j ∧ j ≤ kn_L d ∧ l5 = (d : Int) ∧ d < c) → Pc (qw_X13_isNamed_12 nn k (c : Int) x a (m : Int) l5 ((kn_A d + j : Nat) : Int) M) (fun u => (u = 1 ∧ KNm f m c) ∨ (u = 0 ∧ ¬ KNm f m c)) := by
  intro k
  induction k with
  | zero => intros; exact pc_none
  | succ k ih =>
    intro d j l5 hd hj
    have w := kn_w (c := d) (by omega)
    have wc := kn_w hc
    have m255 := R.2.2.1
    have jl : j ≤ kn_L d := by omega
    unfold qw_X13_isNamed_12
    refine pc_add (by omega) ?_; intro v26 e26
    show Pc (if (77 : Int) ≤ v26 then _ else _) _
    refine pc_if (fun z => absurd z (by omega)) (fun _ => ?_)
    rw [xt_3 (by omega) (by omega)]
    by_cases j0 : j = 0
    · -- the blank ahead of the name d
      have l5e : l5 = (d : Int) - 1 := by omega
      have bl : cx_ (1000000000 + 3) ((kn_A d + j : Nat) : Int) = 32 := by
        rw [j0]
        by_cases d0 : d = 0
        · rw [d0]; exact kn_30
        · have w2 := kn_w (c := d - 1) (by omega)
          rw [show kn_A d + 0 = kn_A (d - 1) + kn_L (d - 1) + 1 by rw [Nat.add_zero, w2.1, show d - 1 + 1 = d by omega], kn_c3 (by omega)]
          exact w2.2.2.1
      rw [bl]
      refine pc_if (fun _ => ?_) (fun z => absurd rfl z)
      refine pc_add (by omega) ?_; intro v29 e29
      refine pc_if (fun y => ?_) (fun y => ?_)
      · have dc : d = c := by omega
        rw [j0, dc]
        refine pc_add (by omega) ?_; intro v30 e30
        refine pc_add (by omega) ?_; intro v31 e31
        show Pc (if (77 : Int) ≤ v31 then _ else _) _
        have noK : ¬ kn_A c + m ≤ 75 → ¬ KNm f m c := fun z y2 => by have := y2.1; omega
        refine pc_if (fun z => ?_) (fun z => ?_)
        · unfold qj_X13_isNamed_91
          exact pc_imp n_97z (fun u q => .inr ⟨q, noK (by omega)⟩)
        · refine pc_add (by omega) ?_; intro v33 e33
          refine pc_add (by omega) ?_; intro v34 e34
          rw [xt_3 (by omega) (by omega), show v34 = ((kn_A c + m + 1 : Nat) : Int) by omega, kn_c3 (by omega)]
          refine pc_if (fun y2 => ?_) (fun y2 => ?_)
          · unfold qj_X13_isNamed_91
            exact pc_imp n_97z (fun u q => .inr ⟨q, fun y3 => y2 (by rw [y3.1]; exact wc.2.2.1)⟩)
          · have y2 := Decidable.not_not.1 y2
            rw [show (((kn_A c + 0 : Nat)) : Int) = (kn_A c : Int) by omega]
            refine pc_imp (n_97 R (o := kn_A c) (by omega) nn 1 0 (Nat.zero_le _) (.inl ⟨rfl, fun i hi => absurd hi (Nat.not_lt_zero i)⟩)) (fun u q => ?_)
            have key : (∀ i, i < m → f i = kn_C (kn_A c + i)) ↔ KNm f m c := by
              refine ⟨fun z3 => ⟨?_, z3⟩, fun z3 => z3.2⟩
              rcases Nat.lt_trichotomy m (kn_L c) with lt | eq | gt
              · have := wc.2.2.2 m lt; omega
              · exact eq
              · exfalso
                have := z3 (kn_L c) gt
                rw [wc.2.2.1] at this
                exact hf _ gt this
            rcases q with ⟨q1, q2⟩ | ⟨q1, q2⟩
            · exact .inl ⟨q1, key.1 q2⟩
            · exact .inr ⟨q1, fun z3 => q2 (key.2 z3)⟩
      · refine pc_add (by omega) ?_; intro v38 e38
        have l1 : 1 ≤ kn_L d := Nat.le_of_ble_eq_true (List.all_eq_true.mp kn_l1 d (List.mem_range.mpr (by omega)))
        rw [j0] at e38
        rw [show v38 = ((kn_A d + 1 : Nat) : Int) by omega]
        exact ih d 1 v29 hd (.inr ⟨by omega, l1, by omega, by omega⟩)
    · have l5e : l5 = (d : Int) ∧ d < c := by omega
      have ch : cx_ (1000000000 + 3) ((kn_A d + j : Nat) : Int) = kn_C (kn_A d + (j - 1)) := by
        rw [show kn_A d + j = kn_A d + (j - 1) + 1 by omega]; exact kn_c3 (by omega)
      have ne := w.2.2.2 (j - 1) (by omega)
      rw [ch]
      refine pc_if (fun z => absurd z (by omega)) (fun _ => ?_)
      refine pc_add (by omega) ?_; intro v40 e40
      by_cases je : j = kn_L d
      · rw [show v40 = ((kn_A (d + 1) + 0 : Nat) : Int) by omega]
        exact ih (d + 1) 0 l5 (by omega) (.inl ⟨rfl, by omega⟩)
      · rw [show v40 = ((kn_A d + (j + 1) : Nat) : Int) by omega]
        exact ih d (j + 1) l5 hd (.inr ⟨by omega, by omega, by omega, by omega⟩)
theorem r_known {x : Nat} {a : Int} (R : RWt M x a m f) (hf : ∀ i, i < m → ¬ f i = 32) {c : Nat} (hc : c < 8) : Pc (qf_X13_isNamed nn (c : Int) x a (m : Int) M) (fun u => (u = 1 ∧ KNm f m c) ∨ (u = 0 ∧ ¬ KNm f m c)) := by
  unfold qf_X13_isNamed
  refine pc_if (fun z => absurd z (by omega)) (fun _ => ?_)
  exact nk_12 R hf hc nn 0 0 (-1) (Nat.zero_le _) (.inl ⟨rfl, by omega⟩)
end
