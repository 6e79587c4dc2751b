/- TOKENS: the class's table of names -/
def bo_T (x y l : Int) : Int := oq_and (oq_add (oq_add (oq_mul x 5) (oq_mul y 3)) l) 63
/-- how long name i is, its bucket -/
def ln_T (h : ms_M) (i : Nat) : Int := h 7 (i + 1) - h 7 i
def bn_T (h : ms_M) (i : Nat) : Int := bo_T (h 6 (h 7 i).toNat) (h 6 (h 7 (i + 1) - 1).toNat) (ln_T h i)
/-- the last one before m with bucket b -/
def pv_T (β : Nat → Int) (b : Int) : Nat → Int
  | 0 => -1
  | m + 1 => if β m = b then (m : Int) else pv_T β b m
/-- name i is the text t, of length l -/
def NMt (h : ms_M) (i : Nat) (l : Int) (t : Nat → Int) : Prop := ln_T h i = l ∧ ∀ k : Nat, (k : Int) < l → h 6 ((h 7 i).toNat + k) = t k
/-- the table is as it must be -/
def NTB (h : ms_M) : Prop := ((32 ≤ h 2 9 ∧ h 2 9 ≤ 1740) ∧ h 7 (h 2 9).toNat ≤ 6400) ∧ (0 ≤ h 7 0 ∧ ∀ i : Nat, (i : Int) < h 2 9 → h 7 i + 1 ≤ h 7 (i + 1)) ∧ (∀ b : Nat, b < 64 → h 9 b = pv_T (bn_T h) (b : Int) (h 2 9).toNat) ∧ (∀ i : Nat, (i : Int) < h 2 9 → h 8 i = pv_T (bn_T h) (bn_T h i) i) ∧ ∀ (i j : Nat) (l : Int) (t : Nat → Int), i < j → (j : Int) < h 2 9 → NMt h i l t → NMt h j l t → False
/-- r has the names of h, and perhaps more -/
def NXt (h r : ms_M) : Prop := h 2 9 ≤ r 2 9 ∧ (∀ i : Nat, (i : Int) ≤ h 2 9 → r 7 i = h 7 i) ∧ (∀ k : Nat, (k : Int) < h 7 (h 2 9).toNat → r 6 k = h 6 k) ∧ ∀ i : Nat, (i : Int) < h 2 9 → r 8 i = h 8 i
section
variable {nn : Nat} {h g r : ms_M} {α : Type} {Q : α → Prop} {β γ : Nat → Int} {b : Int}
theorem pvt_c : ∀ m : Nat, (pv_T β b m = -1 ∧ ∀ i, i < m → ¬ β i = b) ∨ ∃ i : Nat, pv_T β b m = (i : Int) ∧ i < m ∧ β i = b ∧ ∀ j, i < j → j < m → ¬ β j = b := by
  intro m
  induction m with
  | zero => exact .inl ⟨rfl, fun i a => by omega⟩
  | succ m ih =>
    have e : pv_T β b (m + 1) = if β m = b then (m : Int) else pv_T β b m := rfl
    by_cases a : β m = b
    · rw [if_pos a] at e
      exact .inr ⟨m, e, by omega, a, fun j c d => by omega⟩
    · rw [if_neg a] at e
      rcases ih with ⟨x, y⟩ | ⟨i, x, y, z, w⟩
      · refine .inl ⟨by rw [e]; exact x, fun i c => ?_⟩
        by_cases d : i = m
        · rw [d]; exact a
        · exact y i (by omega)
      · refine .inr ⟨i, by rw [e]; exact x, by omega, z, fun j c d => ?_⟩
        by_cases f : j = m
        · rw [f]; exact a
        · exact w j c (by omega)
theorem pv_e : ∀ m : Nat, (∀ i, i < m → β i = γ i) → pv_T β b m = pv_T γ b m := by
  intro m
  induction m with
  | zero => intro _; rfl
  | succ m ih =>
    intro H
    show (if β m = b then (m : Int) else pv_T β b m) = (if γ m = b then (m : Int) else pv_T γ b m)
    rw [H m (by omega), ih (fun i a => H i (by omega))]
theorem nx_r : NXt h h := ⟨Int.le_refl _, fun _ _ => rfl, fun _ _ => rfl, fun _ _ => rfl⟩
theorem ntb_7 (T : NTB h) : ∀ i j : Nat, i ≤ j → (j : Int) ≤ h 2 9 → 0 ≤ h 7 i ∧ h 7 i + ((j : Int) - i) ≤ h 7 j := by
  obtain ⟨t0, ⟨t1, t2⟩, -⟩ := T
  intro i j
  have Z : ∀ i : Nat, (i : Int) ≤ h 2 9 → 0 ≤ h 7 i := by
    intro i
    induction i with
    | zero => intro _; exact t1
    | succ i ih => intro a; have := ih (by omega); have := t2 i (by omega); omega
  induction j with
  | zero => intro a c; have := Z i (by omega); have : i = 0 := by omega
            subst this; omega
  | succ j ih =>
    intro a c
    by_cases d : i = j + 1
    · have := Z i (by omega); subst d; omega
    · have := ih (by omega) (by omega); have := t2 j (by omega); omega
theorem nx_t (T : NTB h) (Tg : NTB g) (X : NXt h g) (Y : NXt g r) : NXt h r := by
  obtain ⟨x1, x2, x3, x4⟩ := X
  obtain ⟨y1, y2, y3, y4⟩ := Y
  have t0 := T.1.1
  have e7 : g 7 (h 2 9).toNat = h 7 (h 2 9).toNat := x2 _ (by omega)
  refine ⟨by omega, fun i a => by rw [y2 i (by omega)]; exact x2 i a, fun k a => ?_, fun i a => by rw [y4 i (by omega)]; exact x4 i a⟩
  rw [← x3 k a]
  refine y3 k ?_
  have a7 := ntb_7 Tg (h 2 9).toNat (g 2 9).toNat (by omega) (by have := Tg.1.1; omega)
  rw [e7] at a7
  omega
theorem nmt_x (T : NTB h) (X : NXt h r) {i : Nat} {l : Int} {t : Nat → Int} (hi : (i : Int) < h 2 9) (N : NMt h i l t) : NMt r i l t := by
  obtain ⟨x1, x2, x3, x4⟩ := X
  obtain ⟨n1, n2⟩ := N
  have e0 := x2 i (by omega)
  have e1 := x2 (i + 1) (by omega)
  have a := ntb_7 T i (i + 1) (by omega) (by omega)
  have c := ntb_7 T (i + 1) (h 2 9).toNat (by omega) (by omega)
  unfold ln_T at n1
  refine ⟨by unfold ln_T; rw [e0, e1]; exact n1, fun k hk => ?_⟩
  rw [e0, x3 _ (by omega)]
  exact n2 k hk
theorem bo_c {a0 : Nat} {a1 a2 : Int} (h1 : 0 ≤ a1 ∧ a1 ≤ 7000) (h2 : 1 ≤ a2 ∧ a2 ≤ 200) : Pc (qf_X9_bucketOf nn a0 a1 a2 h) (fun u => u = bo_T (h a0 a1.toNat) (h a0 (a1 + a2 - 1).toNat) a2) := by
  unfold qf_X9_bucketOf
  refine pc_rT ?_; intro v1 e1
  refine pc_xl ?_; intro v2 e2
  refine pc_add (by omega) ?_; intro v3 e3
  refine pc_sub (by omega) ?_; intro v4 e4
  refine pc_rT ?_; intro v5 e5
  refine pc_xl ?_; intro v6 e6
  refine pc_xl ?_; intro v7 e7
  refine pc_xl ?_; intro v8 e8
  refine pc_xl ?_; intro v9 e9
  refine pc_ret ?_
  show v9 = _
  unfold bo_T
  rw [e9, e8, e7, e6, e5, e2, e1, show v4 = a1 + a2 - 1 by omega]
theorem bn_n {i : Nat} {l : Int} {t : Nat → Int} (h0 : 0 ≤ h 7 i) (hl : 1 ≤ l) (N : NMt h i l t) : bn_T h i = bo_T (t 0) (t (l - 1).toNat) l := by
  obtain ⟨n1, n2⟩ := N
  unfold bn_T
  have a := n2 0 (by omega)
  have c := n2 (l - 1).toNat (by omega)
  rw [Nat.add_zero] at a
  unfold ln_T at n1
  rw [a, show (h 7 (i + 1) - 1).toNat = (h 7 i).toNat + (l - 1).toNat by omega, c]
  unfold ln_T
  rw [n1]
theorem in_29 {i a2 : Nat} {a3 l : Int} {t : Nat → Int} (hi : 0 ≤ h 7 i ∧ h 7 i ≤ 6400) (h3 : 0 ≤ a3 ∧ a3 ≤ 7000) (hl : l ≤ 200) (ht : ∀ k : Nat, (k : Int) < l → h a2 (a3.toNat + k) = t k) : ∀ (f k : Nat), (∀ j : Nat, j < k → (j : Int) < l → h 6 ((h 7 i).toNat + j) = t j) → Pc (qw_X9_isNamed_29 nn f a2 a3 l (h 7 i) (k : Int) h) (fun u => (u = 1 ∧ ∀ j : Nat, (j : Int) < l → h 6 ((h 7 i).toNat + j) = t j) ∨ (u = 0 ∧ ¬ ∀ j : Nat, (j : Int) < l → h 6 ((h 7 i).toNat + j) = t j)) := by
  intro f
  induction f with
  | zero => intro k _; exact pc_none
  | succ f ih =>
    intro k H
    unfold qw_X9_isNamed_29
    refine pc_if (fun c => pc_ret (.inl ⟨rfl, fun j a => H j (by omega) a⟩)) (fun c => ?_)
    refine pc_add (by omega) ?_; intro v2 e2
    refine pc_rA ?_; intro i1 i2 v3 e3
    refine pc_add (by omega) ?_; intro v4 e4
    refine pc_rT ?_; intro v5 e5
    have e3 : v3 = h 6 ((h 7 i).toNat + k) := by rw [e3]; congr 1; omega
    have e5 : v5 = t k := by rw [e5, ← ht k (by omega)]; congr 1; omega
    refine pc_if (fun d => ?_) (fun d => ?_)
    · refine pc_add (by omega) ?_; intro v6 e6
      rw [show v6 = ((k + 1 : Nat) : Int) by omega]
      refine ih (k + 1) (fun j a c2 => ?_)
      by_cases z : j = k
      · rw [z, ← e3, ← e5]; exact d
      · exact H j (by omega) c2
    · exact pc_ret (.inr ⟨rfl, fun z => d (by rw [e3, e5]; exact z k (by omega))⟩)
theorem in_c (T : NTB h) {i a2 : Nat} {x a3 l : Int} {t : Nat → Int} (hx : x = (i : Int)) (hi : (i : Int) < h 2 9) (h3 : 0 ≤ a3 ∧ a3 ≤ 7000) (hl : l ≤ 200) (ht : ∀ k : Nat, (k : Int) < l → h a2 (a3.toNat + k) = t k) : Pc (qf_X9_isNamed nn x a2 a3 l h) (fun u => (u = 1 ∧ NMt h i l t) ∨ (u = 0 ∧ ¬ NMt h i l t)) := by
  subst hx
  have a := ntb_7 T i (i + 1) (by omega) (by omega)
  have c := ntb_7 T (i + 1) (h 2 9).toNat (by omega) (by omega)
  have t0 := T.1
  unfold qf_X9_isNamed
  refine pc_rA ?_; intro i1 i2 v10 e10
  refine pc_add (by omega) ?_; intro v12 e12
  refine pc_rA ?_; intro j1 j2 v13 e13
  rw [Int.toNat_natCast] at e10
  rw [show v12.toNat = i + 1 by omega] at e13
  refine pc_sub (by omega) ?_; intro v14 e14
  refine pc_if (fun d => ?_) (fun d => ?_)
  · rw [e10]
    refine pc_imp (in_29 (t := t) (by omega) h3 hl ht nn 0 (fun j z => by omega)) (fun u q => ?_)
    have el : ln_T h i = l := by unfold ln_T; omega
    rcases q with ⟨q1, q2⟩ | ⟨q1, q2⟩
    · exact .inl ⟨q1, el, q2⟩
    · exact .inr ⟨q1, fun z => q2 z.2⟩
  · refine pc_ret (.inr ⟨rfl, fun z => d ?_⟩)
    have := z.1
    unfold ln_T at this
    omega
/-- a name more -/
theorem nt_add (T : NTB h) {l v : Int} {t : Nat → Int} (hN : h 2 9 < 1740) (hl : 1 ≤ l ∧ l ≤ 200) (hs : h 7 (h 2 9).toNat + l ≤ 6400) (e9 : r 2 9 = h 2 9 + 1) (e7 : ∀ i : Nat, (i : Int) ≤ h 2 9 → r 7 i = h 7 i) (e7n : r 7 ((h 2 9).toNat + 1) = h 7 (h 2 9).toNat + l) (e6 : ∀ k : Nat, (k : Int) < h 7 (h 2 9).toNat → r 6 k = h 6 k) (e6n : ∀ k : Nat, (k : Int) < l → r 6 ((h 7 (h 2 9).toNat).toNat + k) = t k) (e8 : ∀ i : Nat, (i : Int) < h 2 9 → r 8 i = h 8 i) (hv : 0 ≤ v ∧ v < 64) (ev : v = bo_T (t 0) (t (l - 1).toNat) l) (e8n : r 8 (h 2 9).toNat = h 9 v.toNat) (eb : ∀ b : Nat, ¬ b = v.toNat → r 9 b = h 9 b) (ebn : r 9 v.toNat = h 2 9) (no : ∀ i : Nat, (i : Int) < h 2 9 → ¬ NMt h i l t) : NTB r ∧ NXt h r ∧ NMt r (h 2 9).toNat l t := by
  have X : NXt h r := ⟨by omega, e7, e6, e8⟩
  obtain ⟨N, hNN⟩ : ∃ N : Nat, h 2 9 = (N : Int) := ⟨(h 2 9).toNat, by have := T.1.1; omega⟩
  have nN : (h 2 9).toNat = N := by omega
  rw [nN] at hs e7n e6n e6 e8n
  have a := ntb_7 T N N (by omega) (by omega)
  have NN : NMt r N l t := by
    refine ⟨?_, fun k hk => ?_⟩
    · unfold ln_T; rw [e7n, e7 N (by omega)]; omega
    · rw [e7 N (by omega)]; exact e6n k hk
  have bN : bn_T r N = v := by
    rw [bn_n (by rw [e7 N (by omega)]; omega) hl.1 NN, ← ev]
  have bE : ∀ i : Nat, i < N → bn_T r i = bn_T h i := by
    intro i hi
    have c := ntb_7 T i (i + 1) (by omega) (by omega)
    have d := ntb_7 T (i + 1) N (by omega) (by omega)
    unfold bn_T ln_T
    rw [e7 i (by omega), e7 (i + 1) (by omega), e6 _ (by omega), e6 _ (by omega)]
  refine ⟨⟨⟨by have := T.1.1; omega, ?_⟩, ⟨?_, fun i hi => ?_⟩, fun c hc => ?_, fun i hi => ?_, fun i j l2 t2 ij hj M1 M2 => ?_⟩, X, by rw [nN]; exact NN⟩
  · rw [e9, show (h 2 9 + 1).toNat = N + 1 by omega, e7n]; exact hs
  · rw [e7 0 (by omega)]; exact T.2.1.1
  · by_cases z : i = N
    · rw [z, e7n, e7 N (by omega)]; omega
    · rw [e7 i (by omega), e7 (i + 1) (by omega)]; exact T.2.1.2 i (by omega)
  · rw [e9, show (h 2 9 + 1).toNat = N + 1 by omega]
    show r 9 c = if bn_T r N = (c : Int) then (N : Int) else pv_T (bn_T r) (c : Int) N
    rw [bN]
    by_cases z : v = (c : Int)
    · rw [if_pos z, show c = v.toNat by omega, ebn]; exact hNN
    · rw [if_neg z, eb c (by omega), T.2.2.1 c hc, nN]
      exact (pv_e N (fun i hi => (bE i hi))).symm
  · by_cases z : i = N
    · rw [z, e8n, bN, T.2.2.1 v.toNat (by omega), nN, show ((v.toNat : Nat) : Int) = v by omega]
      exact (pv_e N (fun i hi => (bE i hi))).symm
    · rw [e8 i (by omega), T.2.2.2.1 i (by omega), bE i (by omega)]
      exact (pv_e i (fun j hj => (bE j (by omega)))).symm
  · have back : ∀ i : Nat, i < N → NMt r i l2 t2 → NMt h i l2 t2 := by
      intro i hi M
      have c := ntb_7 T i (i + 1) (by omega) (by omega)
      have d := ntb_7 T (i + 1) N (by omega) (by omega)
      obtain ⟨m1, m2⟩ := M
      unfold ln_T at m1
      rw [e7 i (by omega), e7 (i + 1) (by omega)] at m1
      refine ⟨m1, fun k hk => ?_⟩
      have := m2 k hk
      rw [e7 i (by omega), e6 _ (by omega)] at this
      exact this
    have I := back i (by omega) M1
    by_cases z : j = N
    · rw [z] at M2
      refine no i (by omega) ⟨?_, fun k hk => ?_⟩
      · rw [I.1, ← M2.1]; exact NN.1
      · have l3 : l2 = l := by rw [← M2.1]; exact NN.1
        rw [I.2 k (by omega), ← M2.2 k (by omega)]; exact NN.2 k hk
    · exact T.2.2.2.2 i j l2 t2 ij (by omega) I (back j (by omega) M2)
/-- what nameOf leaves -/
def NO_ (h : ms_M) (l : Int) (t : Nat → Int) (u : Int × ms_M) : Prop := ∃ i : Nat, u.1 = (i : Int) ∧ (i : Int) < u.2 2 9 ∧ NMt u.2 i l t ∧ NTB u.2 ∧ NXt h u.2 ∧ u.2 2 9 ≤ h 2 9 + 1 ∧ u.2 7 (u.2 2 9).toNat ≤ h 7 (h 2 9).toNat + l
theorem no_79 (T : NTB h) {a1 : Nat} {a2 l : Int} {t : Nat → Int} (hN : h 2 9 < 1740) (h2 : 0 ≤ a2 ∧ a2 ≤ 6000) (hl : 1 ≤ l ∧ l ≤ 200) (hs : h 7 (h 2 9).toNat + l ≤ 6400) (ht : ∀ k : Nat, (k : Int) < l → h a1 (a2.toNat + k) = t k) (hb : 0 ≤ bo_T (t 0) (t (l - 1).toNat) l ∧ bo_T (t 0) (t (l - 1).toNat) l < 64) (no : ∀ i : Nat, (i : Int) < h 2 9 → ¬ NMt h i l t) : Pc (qj_X9_nameOf_79 nn a1 a2 l h) (NO_ h l t) := by
  have t0 := T.1
  have a := ntb_7 T (h 2 9).toNat (h 2 9).toNat (by omega) (by omega)
  unfold qj_X9_nameOf_79
  refine pc_rA ?_; intro i1 i2 v3 e3
  refine pc_if (fun c => absurd c (by omega)) (fun _ => ?_)
  refine pc_add (by omega) ?_; intro v5 e5
  refine pc_if (fun _ => ?_) (fun c => absurd (by omega) c)
  refine pc_cpS ?_; intro h9 e9
  refine pc_add (by omega) ?_; intro v10 e10
  have r9 : ∀ c k : Nat, ¬ c = 6 → h9 c k = h c k := fun c k z => by rw [e9]; exact cp_ne z
  have r6 : ∀ k : Nat, (k : Int) < h 7 (h 2 9).toNat → h9 6 k = h 6 k := fun k z => by
    rw [e9]; unfold cp_M; rw [if_neg (by omega)]
  have r6n : ∀ k : Nat, (k : Int) < l → h9 6 ((h 7 (h 2 9).toNat).toNat + k) = t k := fun k z => by
    rw [e9]; unfold cp_M
    rw [if_pos ⟨rfl, by omega, by omega⟩, ← ht k z]; congr 1; omega
  refine pc_se ?_; intro u12 e12
  have P : Pc (qf_X9_closeName nn v10 h9) (fun r => r 2 9 = h 2 9 + 1 ∧ (∀ i : Nat, (i : Int) ≤ h 2 9 → r 7 i = h 7 i) ∧ r 7 ((h 2 9).toNat + 1) = h 7 (h 2 9).toNat + l ∧ (∀ k : Nat, r 6 k = h9 6 k) ∧ (∀ i : Nat, (i : Int) < h 2 9 → r 8 i = h 8 i) ∧ r 8 (h 2 9).toNat = h 9 (bo_T (t 0) (t (l - 1).toNat) l).toNat ∧ (∀ b : Nat, ¬ b = (bo_T (t 0) (t (l - 1).toNat) l).toNat → r 9 b = h 9 b) ∧ r 9 (bo_T (t 0) (t (l - 1).toNat) l).toNat = h 2 9) := by
    unfold qf_X9_closeName
    have q29 : h9 2 9 = h 2 9 := r9 2 9 (by decide)
    rw [q29]
    refine pc_rA ?_; intro i1 i2 w3 f3
    rw [r9 7 _ (by decide)] at f3
    refine pc_sub (by omega) ?_; intro w5 f5
    refine pc_sv (bo_c (by omega) (by omega)) ?_; intro w6 f6
    have w5l : w5 = l := by omega
    have x0 := r6n 0 (by omega)
    have x1 := r6n (l - 1).toNat (by omega)
    rw [Nat.add_zero] at x0
    rw [w5l, f3, x0, show (h 7 (h 2 9).toNat + l - 1).toNat = (h 7 (h 2 9).toNat).toNat + (l - 1).toNat by omega, x1] at f6
    refine pc_rA ?_; intro j1 j2 w10 f10
    rw [r9 9 _ (by decide)] at f10
    refine pc_wA ?_; intro k1 k2 h11 g11
    have q11 : h11 2 9 = h 2 9 := by rw [g11, up_n (by omega)]; exact q29
    rw [q11]
    refine pc_wA ?_; intro m1 m2 h14 g14
    have q14 : h14 2 9 = h 2 9 := by rw [g14, up_n (by omega)]; exact q11
    rw [q14]
    refine pc_add (by omega) ?_; intro w16 f16
    refine pc_xl ?_; intro h17 g17
    have q17 : h17 2 9 = h 2 9 + 1 := by rw [g17, up_s]; omega
    refine pc_wA ?_; intro n1 n2 h20 g20
    rw [q17] at g20
    refine pc_ret ⟨?_, fun i hi => ?_, ?_, fun k => ?_, fun i hi => ?_, ?_, fun b hb => ?_, ?_⟩
    · rw [g20, up_n (by omega)]; exact q17
    · rw [g20, up_n (by omega), g17, up_n (by omega), g14, up_n (by omega), g11, up_n (by omega)]; exact r9 7 i (by decide)
    · rw [g20, show (h 2 9 + 1).toNat = (h 2 9).toNat + 1 by omega, up_s]; omega
    · rw [g20, up_n (by omega), g17, up_n (by omega), g14, up_n (by omega), g11, up_n (by omega)]
    · rw [g20, up_n (by omega), g17, up_n (by omega), g14, up_n (by omega), g11, up_n (by omega)]; exact r9 8 i (by decide)
    · rw [g20, up_n (by omega), g17, up_n (by omega), g14, up_n (by omega), g11, up_s, f10, f6]
    · rw [g20, up_n (by omega), g17, up_n (by omega), g14, up_n (by rw [f6]; omega), g11, up_n (by omega)]; exact r9 9 b (by decide)
    · rw [g20, up_n (by omega), g17, up_n (by omega), g14, ← f6, up_s]
  obtain ⟨p1, p2, p3, p4, p5, p6, p7, p8⟩ := P _ e12
  refine pc_sub (by omega) ?_; intro v14 e14
  obtain ⟨A1, A2, A3⟩ := nt_add T hN hl hs p1 p2 p3 (fun k hk => by rw [p4]; exact r6 k hk) (fun k hk => by rw [p4]; exact r6n k hk) p5 hb rfl p6 p7 p8 no
  refine pc_ret ⟨(h 2 9).toNat, ?_, ?_, A3, A1, A2, ?_, ?_⟩
  · show v14 = _; omega
  · show _ < u12 2 9; omega
  · show u12 2 9 ≤ _; omega
  · show u12 7 (u12 2 9).toNat ≤ _
    rw [p1, show (h 2 9 + 1).toNat = (h 2 9).toNat + 1 by omega, p3]; omega
theorem no_35 (T : NTB h) {a1 : Nat} {a2 l : Int} {t : Nat → Int} (hN : h 2 9 < 1740) (h2 : 0 ≤ a2 ∧ a2 ≤ 6000) (hl : 1 ≤ l ∧ l ≤ 200) (hs : h 7 (h 2 9).toNat + l ≤ 6400) (ht : ∀ k : Nat, (k : Int) < l → h a1 (a2.toNat + k) = t k) (hb : 0 ≤ bo_T (t 0) (t (l - 1).toNat) l ∧ bo_T (t 0) (t (l - 1).toNat) l < 64) : ∀ (f m : Nat) (x c : Int), (m : Int) ≤ h 2 9 → x = pv_T (bn_T h) (bo_T (t 0) (t (l - 1).toNat) l) m → 0 ≤ c → c ≤ h 2 9 - m → (∀ i : Nat, m ≤ i → (i : Int) < h 2 9 → ¬ NMt h i l t) → Pc (qw_X9_nameOf_35 nn f a1 a2 l x c h) (NO_ h l t) := by
  intro f
  induction f with
  | zero => intro m x c _ _ _ _ _; exact pc_none
  | succ f ih =>
    intro m x c hm hx c0 hc no
    have t0 := T.1
    have D := fun no => no_79 (nn := nn) T hN h2 hl hs ht hb no
    unfold qw_X9_nameOf_35
    refine pc_if (fun z => ?_) (fun z => ?_)
    · exact D (fun i hi => no i (by omega) hi)
    rcases pvt_c (β := bn_T h) (b := bo_T (t 0) (t (l - 1).toNat) l) m with ⟨p1, p2⟩ | ⟨i, p1, p2, p3, p4⟩
    · refine pc_if (fun _ => ?_) (fun y => absurd (by omega) y)
      refine D (fun i hi N => ?_)
      by_cases y : m ≤ i
      · exact no i y hi N
      · have b7 := ntb_7 T i i (by omega) (by omega)
        exact p2 i (by omega) (bn_n b7.1 hl.1 N)
    · refine pc_if (fun y => absurd y (by omega)) (fun _ => ?_)
      refine pc_sv (in_c T (i := i) (t := t) (by omega) (by omega) (by omega) (by omega) ht) ?_; intro u18 q18
      refine pc_if (fun y => ?_) (fun y => ?_)
      · refine pc_rA ?_; intro i1 i2 v20 e20
        refine pc_add (by omega) ?_; intro v21 e21
        rw [hx, p1, Int.toNat_natCast, T.2.2.2.1 i (by omega), p3] at e20
        refine ih i v20 v21 (by omega) e20 (by omega) (by omega) (fun j a b N => ?_)
        by_cases w : j = i
        · rw [w] at N
          rcases q18 with q | q
          · omega
          · exact q.2 N
        · by_cases w2 : m ≤ j
          · exact no j w2 b N
          · have b7 := ntb_7 T j j (by omega) (by omega)
            exact p4 j (by omega) (by omega) (bn_n b7.1 hl.1 N)
      · rcases q18 with q | q
        · refine pc_ret ⟨i, ?_, ?_, q.2, T, nx_r, ?_, ?_⟩
          · show x = _; omega
          · show _ < h 2 9; omega
          · show h 2 9 ≤ _; omega
          · show h 7 (h 2 9).toNat ≤ _; omega
        · exact absurd q.1 y
theorem bo_b {x y l : Int} : 0 ≤ bo_T x y l ∧ bo_T x y l < 64 := by
  unfold bo_T
  have := oq_and_rg (x := oq_add (oq_add (oq_mul x 5) (oq_mul y 3)) l) (c := 63) (by decide)
  omega
/-- nameOf finds a name, or makes it -/
theorem no_c (T : NTB h) {a1 : Nat} {a2 l : Int} {t : Nat → Int} (hN : h 2 9 < 1740) (h2 : 0 ≤ a2 ∧ a2 ≤ 6000) (hl : 1 ≤ l ∧ l ≤ 200) (hs : h 7 (h 2 9).toNat + l ≤ 6400) (hr : a2 + l ≤ ln_I h a1) (ht : ∀ k : Nat, (k : Int) < l → h a1 (a2.toNat + k) = t k) : Pc (qf_X9_nameOf nn a1 a2 l h) (NO_ h l t) := by
  have t0 := T.1
  have b0 := bo_b (x := t 0) (y := t (l - 1).toNat) (l := l)
  unfold qf_X9_nameOf
  refine pc_if (fun c => absurd c (by omega)) (fun _ => ?_)
  refine pc_if (fun c => absurd c (by omega)) (fun _ => ?_)
  refine pc_add (by omega) ?_; intro v25 e25
  refine pc_lS ?_; intro v26 e26
  refine pc_if (fun _ => ?_) (fun c => absurd (by omega) c)
  refine pc_sv (bo_c (by omega) (by omega)) ?_; intro u28 q28
  have x0 := ht 0 (by omega)
  have x1 := ht (l - 1).toNat (by omega)
  rw [Nat.add_zero] at x0
  rw [x0, show (a2 + l - 1).toNat = a2.toNat + (l - 1).toNat by omega, x1] at q28
  refine pc_rA ?_; intro i1 i2 v29 e29
  rw [T.2.2.1 u28.toNat (by omega), show ((u28.toNat : Nat) : Int) = u28 by omega, q28] at e29
  exact no_35 T hN h2 hl hs ht b0 nn (h 2 9).toNat v29 0 (by omega) e29 (by omega) (by omega) (fun i a b => by omega)
/-- two numbers are the same where the texts are -/
theorem nt_eq (T : NTB h) {i j : Nat} {l : Int} {t : Nat → Int} (hi : (i : Int) < h 2 9) (hj : (j : Int) < h 2 9) (M : NMt h i l t) (N : NMt h j l t) : i = j := by
  by_cases a : i < j
  · exact (T.2.2.2.2 i j l t a hj M N).elim
  · by_cases b : j < i
    · exact (T.2.2.2.2 j i l t b hi N M).elim
    · omega
end
