/- VERIFY: the way up; members looked up, the class's side -/
/-- the i-th class on the way up from c -/
noncomputable def ch_F (Bf : Nat → Nat → Int) (nf : Nat → Nat) (cnt c : Int) : Nat → Int
  | 0 => c
  | i + 1 => if ch_F Bf nf cnt c i = -1 then -1 else sp_F Bf nf cnt (ch_F Bf nf cnt c i)
/-- member j (s: 0 field, 1 method) of class d has the name that text t of image o says -/
def NAm (Bf : Nat → Nat → Int) (nf : Nat → Nat) (o : Nat) (t s d : Int) (j : Nat) : Prop := TXq (Bf (d - 8).toNat) (nf (d - 8).toNat) (nt_S (Bf (d - 8).toNat) (nf (d - 8).toNat) j s) (Bf o) (nf o) t
/-- no member of class d has it -/
def NOm (Bf : Nat → Nat → Int) (nf : Nat → Nat) (o : Nat) (t s d : Int) : Prop := ∀ j : Nat, (j : Int) < mb_S (Bf (d - 8).toNat) (nf (d - 8).toNat) s → ¬ NAm Bf nf o t s d j
/-- looked up from class c: found in class d, member j -/
def HFd (Bf : Nat → Nat → Int) (nf : Nat → Nat) (cnt : Int) (o : Nat) (t s c d : Int) (j : Nat) : Prop := ∃ i : Nat, ch_F Bf nf cnt c i = d ∧ (∀ x : Nat, x ≤ i → 8 ≤ ch_F Bf nf cnt c x) ∧ ((j : Int) < mb_S (Bf (d - 8).toNat) (nf (d - 8).toNat) s ∧ NAm Bf nf o t s d j ∧ ∀ y : Nat, y < j → ¬ NAm Bf nf o t s d y) ∧ ∀ x : Nat, x < i → NOm Bf nf o t s (ch_F Bf nf cnt c x)
/-- not found -/
def HNo (Bf : Nat → Nat → Int) (nf : Nat → Nat) (cnt : Int) (o : Nat) (t s c : Int) : Prop := ∀ i : Nat, (∀ x : Nat, x ≤ i → 8 ≤ ch_F Bf nf cnt c x) → NOm Bf nf o t s (ch_F Bf nf cnt c i)
section
variable {nn : Nat} {Bf : Nat → Nat → Int} {nf : Nat → Nat} {cnt : Int} {B C : Nat → Int} {n m b d k o : Nat} {M h g r h0 : ms_M} {t s c : Int}
theorem hfd_u {d e : Int} {i j : Nat} (A : HFd Bf nf cnt o t s c d i) (D : HFd Bf nf cnt o t s c e j) : d = e ∧ i = j := by
  obtain ⟨x, x1, x2, ⟨x3, x4, x5⟩, x6⟩ := A
  obtain ⟨y, y1, y2, ⟨y3, y4, y5⟩, y6⟩ := D
  have e1 : x = y := by
    rcases Nat.lt_trichotomy x y with q | q | q
    · exfalso
      have z := y6 x q
      rw [x1] at z
      exact z i x3 x4
    · exact q
    · exfalso
      have z := x6 y q
      rw [y1] at z
      exact z j y3 y4
  have e2 : d = e := by rw [← x1, ← y1, e1]
  subst e2
  refine ⟨rfl, ?_⟩
  rcases Nat.lt_trichotomy i j with q | q | q
  · exact absurd x4 (y5 i q)
  · exact q
  · exact absurd y4 (x5 j q)
theorem hfd_n {d : Int} {i : Nat} (A : HFd Bf nf cnt o t s c d i) (D : HNo Bf nf cnt o t s c) : False := by
  obtain ⟨x, x1, x2, ⟨x3, x4, x5⟩, x6⟩ := A
  have z := D x x2
  rw [x1] at z
  exact z i x3 x4
theorem chv_s {i : Nat} (z : 0 ≤ ch_F Bf nf cnt c i) : ch_F Bf nf cnt c (i + 1) = sp_F Bf nf cnt (ch_F Bf nf cnt c i) := by
  show (if ch_F Bf nf cnt c i = -1 then -1 else sp_F Bf nf cnt (ch_F Bf nf cnt c i)) = _
  rw [if_neg (by omega)]
theorem ch_is (c0 : 0 ≤ cnt) (hc : c = -1 ∨ ISc cnt c) : ∀ i : Nat, ch_F Bf nf cnt c i = -1 ∨ ISc cnt (ch_F Bf nf cnt c i) := by
  intro i
  induction i with
  | zero => exact hc
  | succ i ih =>
    rcases ih with z | z
    · refine .inl ?_
      show (if ch_F Bf nf cnt c i = -1 then -1 else sp_F Bf nf cnt (ch_F Bf nf cnt c i)) = -1
      rw [if_pos z]
    · rw [chv_s z.1]; exact sp_is c0 z.1
theorem pg_41 : ∀ (n : Nat) (s : Nat → Nat), (∀ i : Nat, i ≤ n → s i < n) → ∃ i j : Nat, i < j ∧ j ≤ n ∧ s i = s j := by
  intro n
  induction n with
  | zero => intro s H; exact absurd (H 0 (by omega)) (by omega)
  | succ n ih =>
    intro s H
    by_cases q : ∃ i : Nat, i ≤ n ∧ s i = s (n + 1)
    · obtain ⟨i, q1, q2⟩ := q
      exact ⟨i, n + 1, by omega, by omega, q2⟩
    · have q2 : ∀ i : Nat, i ≤ n → ¬ s i = s (n + 1) := fun i hi z => q ⟨i, hi, z⟩
      have a := H (n + 1) (by omega)
      obtain ⟨i, j, h1, h2, h3⟩ := ih (fun i => if s i = n then s (n + 1) else s i) (fun i hi => by
        have b := H i (by omega)
        have d := q2 i hi
        show (if s i = n then s (n + 1) else s i) < n
        by_cases z : s i = n
        · rw [if_pos z]; omega
        · rw [if_neg z]; omega)
      have h4 : (if s i = n then s (n + 1) else s i) = (if s j = n then s (n + 1) else s j) := h3
      refine ⟨i, j, h1, by omega, ?_⟩
      have d1 := q2 i (by omega)
      have d2 := q2 j h2
      by_cases z1 : s i = n
      · by_cases z2 : s j = n
        · omega
        · rw [if_pos z1, if_neg z2] at h4; omega
      · by_cases z2 : s j = n
        · rw [if_neg z1, if_pos z2] at h4; omega
        · rw [if_neg z1, if_neg z2] at h4; exact h4
theorem ch_add {i j : Nat} (e : ch_F Bf nf cnt c i = ch_F Bf nf cnt c j) : ∀ x : Nat, ch_F Bf nf cnt c (i + x) = ch_F Bf nf cnt c (j + x) := by
  intro x
  induction x with
  | zero => exact e
  | succ x ih =>
    show (if ch_F Bf nf cnt c (i + x) = -1 then -1 else sp_F Bf nf cnt (ch_F Bf nf cnt c (i + x))) = (if ch_F Bf nf cnt c (j + x) = -1 then -1 else sp_F Bf nf cnt (ch_F Bf nf cnt c (j + x)))
    rw [ih]
/-- a way that ends passes at most eight classes of the space -/
theorem ch_8 (c0 : 0 ≤ cnt ∧ cnt ≤ 8) (hc : c = -1 ∨ ISc cnt c) {f : Nat} (E : ch_F Bf nf cnt c f = -1) : ∃ i : Nat, i ≤ 8 ∧ ch_F Bf nf cnt c i < 8 := Classical.byContradiction fun q => by
  have A : ∀ i : Nat, i ≤ 8 → 8 ≤ ch_F Bf nf cnt c i := fun i hi => Classical.byContradiction fun z => q ⟨i, hi, by omega⟩
  have I := ch_is (Bf := Bf) (nf := nf) c0.1 hc
  obtain ⟨i, j, h1, h2, h3⟩ := pg_41 8 (fun i => (ch_F Bf nf cnt c i - 8).toNat) (fun i hi => by
    have a := A i hi
    show (ch_F Bf nf cnt c i - 8).toNat < 8
    rcases I i with z | z
    · omega
    · unfold ISc at z; omega)
  have h3' : (ch_F Bf nf cnt c i - 8).toNat = (ch_F Bf nf cnt c j - 8).toNat := h3
  have a1 := A i (by omega)
  have a2 := A j h2
  have e : ch_F Bf nf cnt c i = ch_F Bf nf cnt c j := by omega
  have ALL : ∀ y x : Nat, x ≤ y → 8 ≤ ch_F Bf nf cnt c x := by
    intro y
    induction y with
    | zero => intro x hx; exact A x (by omega)
    | succ y ih =>
      intro x hx
      by_cases w : x ≤ 8
      · exact A x w
      · have z := ch_add e (x - j)
        rw [show j + (x - j) = x by omega] at z
        rw [← z]; exact ih _ (by omega)
  have := ALL f f (Nat.le_refl _)
  omega
theorem vc_img (S : CSv Bf nf h) {c : Int} (hc : 8 ≤ c) (h2 : c < 8 + h 56 3) : Pc (qf_X7_imageOf nn c h) (fun u => u = h 60 (c - 8).toNat) := by
  have := S.1
  unfold qf_X7_imageOf
  refine pc_if (fun z => absurd z (by omega)) (fun _ => ?_)
  refine pc_add (by omega) ?_; intro v2 e2
  refine pc_if (fun z => absurd z (by omega)) (fun _ => ?_)
  refine pc_sub (by omega) ?_; intro v4 e4
  refine pc_rA ?_; intro _ _ v5 e5
  exact pc_ret (by rw [e5, e4])
theorem vc_im0 {c : Int} (hc : c < 8) : Pc (qf_X7_imageOf nn c h) (fun u => u = -1) := by
  unfold qf_X7_imageOf
  exact pc_if (fun _ => pc_ret rfl) (fun z => absurd hc z)
theorem nm_t1 {t : Int} (e : nm_S B n t = true) : tg_S B n t = 1 := by
  unfold nm_S at e
  rw [Bool.and_eq_true] at e
  exact of_decide_eq_true e.1
theorem nt_1 (G : GIM B n) {j : Nat} {s : Int} (hj : (j : Int) < mb_S B n s) : tg_S B n (nt_S B n j s) = 1 := by
  unfold mb_S at hj
  unfold nt_S
  by_cases s0 : s = 0
  · rw [if_pos s0] at hj ⊢; exact nm_t1 (G.2.1 j hj).2.1
  · rw [if_neg s0] at hj ⊢; exact nm_t1 (G.2.2.2 j hj).1.2
/-- THE CLASS LOOKS A METHOD UP -/
theorem vc_m31 (S : CSw Bf nf h) (hk : (o : Int) < h 56 3) (t1 : tg_S (Bf o) (nf o) t = 1) {i : Nat} {qk : Nat → Int → Int → Int → ms_M → Option Int} {Q : Int → Prop} (c8 : 8 ≤ ch_F Bf nf (h 56 3) c i) (cI : ISc (h 56 3) (ch_F Bf nf (h 56 3) c i)) (i16 : i < 16) (Hk : NOm Bf nf o t 1 (ch_F Bf nf (h 56 3) c i) → Pc (qk (h 60 o).toNat t (ch_F Bf nf (h 56 3) c (i + 1)) ((i + 1 : Nat) : Int) h) Q) (Hf : ∀ j : Nat, (j : Int) < mb_S (Bf (ch_F Bf nf (h 56 3) c i - 8).toNat) (nf (ch_F Bf nf (h 56 3) c i - 8).toNat) 1 → NAm Bf nf o t 1 (ch_F Bf nf (h 56 3) c i) j → (∀ y : Nat, y < j → ¬ NAm Bf nf o t 1 (ch_F Bf nf (h 56 3) c i) y) → Q ((ch_F Bf nf (h 56 3) c i - 8) * 12 + j)) : ∀ (f j : Nat), (∀ y : Nat, y < j → ¬ NAm Bf nf o t 1 (ch_F Bf nf (h 56 3) c i) y) → Pc (qw_X7_methodOf_31 nn qk f (h 60 o).toNat t (ch_F Bf nf (h 56 3) c i) (i : Int) (((h 60 (ch_F Bf nf (h 56 3) c i - 8).toNat).toNat : Nat) : Int) (j : Int) h) Q := by
  have g3 := S.1.1
  unfold ISc at cI
  have hd : (((ch_F Bf nf (h 56 3) c i - 8).toNat : Nat) : Int) < h 56 3 := by omega
  have X := S.1.2 _ hd
  obtain ⟨G, ⟨e10, -⟩, e12, MD⟩ := cg_im X
  have gf := G.1
  have gm := G.2.2.1
  generalize hD : (ch_F Bf nf (h 56 3) c i - 8).toNat = D at *
  intro f
  induction f with
  | zero => intro j _; exact pc_none
  | succ f ih =>
    intro j hj
    unfold qw_X7_methodOf_31
    refine pc_ck (fun _ => ?_)
    refine pc_ck (fun _ => ?_)
    rw [Int.toNat_natCast]
    refine pc_if (fun z => ?_) (fun z => ?_)
    · refine pc_sv (vc_above S (c := ch_F Bf nf (h 56 3) c i) (by unfold ISc; omega)) ?_; intro u5 q5
      refine pc_add (by omega) ?_; intro v6 e6
      rw [q5, ← chv_s (by omega), show v6 = ((i + 1 : Nat) : Int) by omega]
      refine Hk (fun y hy => hj y ?_)
      rw [hD] at hy
      unfold mb_S at hy
      rw [if_neg (by decide)] at hy
      omega
    · have jm : (j : Int) < mb_S (Bf D) (nf D) 1 := by
        unfold mb_S
        rw [if_neg (by decide)]
        omega
      refine pc_sv (P := fun u => u = nt_S (Bf D) (nf D) j 1) ?_ ?_
      · exact vq_of (nn := nn) X (by unfold mb_S at jm; rw [if_neg (by decide)] at jm; exact jm) (w := 1) (x := nt_S (Bf D) (nf D) j 1) (by decide) (by rw [(MD j (by unfold mb_S at jm; rw [if_neg (by decide)] at jm; exact jm)).1.2.1]; unfold nt_S; rw [if_neg (by decide)])
      intro u8 q8
      rw [q8]
      refine pc_sv (vc_same S.1 hd hk (nt_1 G jm) t1) ?_; intro u10 q10
      have EQ : TXq (Bf D) (nf D) (nt_S (Bf D) (nf D) j 1) (Bf o) (nf o) t ↔ NAm Bf nf o t 1 (ch_F Bf nf (h 56 3) c i) j := by unfold NAm; rw [hD]
      rw [EQ] at q10
      refine pc_if (fun y => ?_) (fun y => ?_)
      · refine pc_add (by omega) ?_; intro v11 e11
        rw [show v11 = ((j + 1 : Nat) : Int) by omega]
        refine ih (j + 1) (fun x hx => ?_)
        by_cases xj : x = j
        · rw [xj]
          rcases q10 with q10 | q10
          · omega
          · exact q10.2
        · exact hj x (by omega)
      · unfold qf_X7_numberOf
        refine pc_sv (P := fun u => u = (ch_F Bf nf (h 56 3) c i - 8) * 12 + j) ?_ ?_
        · refine pc_sub (by omega) ?_; intro v1 e1
          refine pc_xl ?_; intro v2 e2
          rw [oq_mul_eq (by omega) (by omega) (by omega)] at e2
          refine pc_add (by omega) ?_; intro v3 e3
          exact pc_ret (by rw [e3, e2, e1])
        intro u13 q13
        refine pc_ret ?_
        rw [q13]
        refine Hf j jm ?_ hj
        rcases q10 with q10 | q10
        · exact q10.2
        · omega
theorem vc_m6 (S : CSw Bf nf h) (hk : (o : Int) < h 56 3) (t1 : tg_S (Bf o) (nf o) t = 1) (hc : c = -1 ∨ ISc (h 56 3) c) {fe : Nat} (E : ch_F Bf nf (h 56 3) c fe = -1) : ∀ (f i : Nat), (∀ x : Nat, x < i → 8 ≤ ch_F Bf nf (h 56 3) c x ∧ NOm Bf nf o t 1 (ch_F Bf nf (h 56 3) c x)) → Pc (qw_X7_methodOf_6 nn f (h 60 o).toNat t (ch_F Bf nf (h 56 3) c i) (i : Int) h) (fun u => (u = -1 ∧ HNo Bf nf (h 56 3) o t 1 c) ∨ ∃ (d : Int) (j : Nat), HFd Bf nf (h 56 3) o t 1 c d j ∧ u = (d - 8) * 12 + j) := by
  have g3 := S.1.1
  obtain ⟨e, e1, e2⟩ := ch_8 (Bf := Bf) (nf := nf) g3 hc E
  have I := ch_is (Bf := Bf) (nf := nf) g3.1 hc
  intro f
  induction f with
  | zero => intro i _; exact pc_none
  | succ f ih =>
    intro i A
    have ie : i ≤ e := Classical.byContradiction fun z => by have := (A e (by omega)).1; omega
    unfold qw_X7_methodOf_6
    refine pc_if (fun z => absurd z (by omega)) (fun _ => ?_)
    by_cases q : ch_F Bf nf (h 56 3) c i < 8
    · refine pc_sv (vc_im0 q) ?_; intro u17 q17
      refine pc_if (fun _ => pc_ret (.inl ⟨rfl, fun x hx => ?_⟩)) (fun z => absurd (show u17 < 0 by omega) z)
      have xi : x < i := Classical.byContradiction fun w => by have := hx i (by omega); omega
      exact (A x xi).2
    · have cI : ISc (h 56 3) (ch_F Bf nf (h 56 3) c i) := by
        rcases I i with z | z
        · omega
        · exact z
      refine pc_sv (vc_img S.1 (c := ch_F Bf nf (h 56 3) c i) (by omega) cI.2) ?_; intro u17 q17
      have k3 : kc_O (h 60 (ch_F Bf nf (h 56 3) c i - 8).toNat).toNat = 3 := by
        have cI' := cI
        unfold ISc at cI'
        exact (S.1.2 _ (by omega)).1.1.1
      rw [q17]
      refine pc_if (fun z => ?_) (fun z => ?_)
      · exfalso
        have e0 : (h 60 (ch_F Bf nf (h 56 3) c i - 8).toNat).toNat = 0 := by omega
        rw [e0] at k3
        exact absurd k3 (by decide)
      · refine vc_m31 S hk t1 (by omega) cI (by omega) (fun z => ?_) (fun j j1 j2 j3 => ?_) nn 0 (fun y hy => absurd hy (by omega))
        · refine ih (i + 1) (fun x hx => ?_)
          by_cases xi : x = i
          · rw [xi]; exact ⟨by omega, z⟩
          · exact A x (by omega)
        · refine .inr ⟨_, j, ⟨i, rfl, fun x hx => ?_, ⟨j1, j2, j3⟩, fun x hx => (A x hx).2⟩, rfl⟩
          by_cases xi : x = i
          · rw [xi]; omega
          · exact (A x (by omega)).1
theorem vc_mo (S : CSw Bf nf h) (hk : (o : Int) < h 56 3) (t1 : tg_S (Bf o) (nf o) t = 1) (hc : c = -1 ∨ ISc (h 56 3) c) {fe : Nat} (E : ch_F Bf nf (h 56 3) c fe = -1) : Pc (qf_X7_methodOf nn c (h 60 o).toNat t h) (fun u => (u = -1 ∧ HNo Bf nf (h 56 3) o t 1 c) ∨ ∃ (d : Int) (j : Nat), HFd Bf nf (h 56 3) o t 1 c d j ∧ u = (d - 8) * 12 + j) := by
  unfold qf_X7_methodOf
  exact vc_m6 S hk t1 hc E nn 0 (fun x hx => absurd hx (by omega))
/-- THE CLASS LOOKS A FIELD UP -/
theorem vc_f31 (S : CSw Bf nf h) (hk : (o : Int) < h 56 3) (t1 : tg_S (Bf o) (nf o) t = 1) {i : Nat} {qk : Nat → Int → Int → Int → ms_M → Option Int} {Q : Int → Prop} (c8 : 8 ≤ ch_F Bf nf (h 56 3) c i) (cI : ISc (h 56 3) (ch_F Bf nf (h 56 3) c i)) (i16 : i < 16) (Hk : NOm Bf nf o t 0 (ch_F Bf nf (h 56 3) c i) → Pc (qk (h 60 o).toNat t (ch_F Bf nf (h 56 3) c (i + 1)) ((i + 1 : Nat) : Int) h) Q) (Hf : ∀ j : Nat, (j : Int) < mb_S (Bf (ch_F Bf nf (h 56 3) c i - 8).toNat) (nf (ch_F Bf nf (h 56 3) c i - 8).toNat) 0 → NAm Bf nf o t 0 (ch_F Bf nf (h 56 3) c i) j → (∀ y : Nat, y < j → ¬ NAm Bf nf o t 0 (ch_F Bf nf (h 56 3) c i) y) → Q ((ch_F Bf nf (h 56 3) c i - 8) * 12 + j)) : ∀ (f j : Nat), (∀ y : Nat, y < j → ¬ NAm Bf nf o t 0 (ch_F Bf nf (h 56 3) c i) y) → Pc (qw_X7_fieldOf_31 nn qk f (h 60 o).toNat t (ch_F Bf nf (h 56 3) c i) (i : Int) (((h 60 (ch_F Bf nf (h 56 3) c i - 8).toNat).toNat : Nat) : Int) (j : Int) h) Q := by
  have g3 := S.1.1
  unfold ISc at cI
  have hd : (((ch_F Bf nf (h 56 3) c i - 8).toNat : Nat) : Int) < h 56 3 := by omega
  have X := S.1.2 _ hd
  obtain ⟨G, ⟨e10, -⟩, e12, MD⟩ := cg_im X
  have gf := G.1
  have gm := G.2.2.1
  generalize hD : (ch_F Bf nf (h 56 3) c i - 8).toNat = D at *
  intro f
  induction f with
  | zero => intro j _; exact pc_none
  | succ f ih =>
    intro j hj
    unfold qw_X7_fieldOf_31
    refine pc_ck (fun _ => ?_)
    refine pc_ck (fun _ => ?_)
    rw [Int.toNat_natCast]
    refine pc_if (fun z => ?_) (fun z => ?_)
    · refine pc_sv (vc_above S (c := ch_F Bf nf (h 56 3) c i) (by unfold ISc; omega)) ?_; intro u5 q5
      refine pc_add (by omega) ?_; intro v6 e6
      rw [q5, ← chv_s (by omega), show v6 = ((i + 1 : Nat) : Int) by omega]
      refine Hk (fun y hy => hj y ?_)
      rw [hD] at hy
      unfold mb_S at hy
      rw [if_pos rfl] at hy
      omega
    · have jm : (j : Int) < mb_S (Bf D) (nf D) 0 := by
        unfold mb_S
        rw [if_pos rfl]
        omega
      refine pc_sv (P := fun u => u = nt_S (Bf D) (nf D) j 0) ?_ ?_
      · exact pc_imp ((vq_cfn (nn := nn) X (by unfold mb_S at jm; rw [if_pos rfl] at jm; exact jm)).1) (fun u z => by rw [z]; unfold nt_S; rw [if_pos rfl])
      intro u8 q8
      rw [q8]
      refine pc_sv (vc_same S.1 hd hk (nt_1 G jm) t1) ?_; intro u10 q10
      have EQ : TXq (Bf D) (nf D) (nt_S (Bf D) (nf D) j 0) (Bf o) (nf o) t ↔ NAm Bf nf o t 0 (ch_F Bf nf (h 56 3) c i) j := by unfold NAm; rw [hD]
      rw [EQ] at q10
      refine pc_if (fun y => ?_) (fun y => ?_)
      · refine pc_add (by omega) ?_; intro v11 e11
        rw [show v11 = ((j + 1 : Nat) : Int) by omega]
        refine ih (j + 1) (fun x hx => ?_)
        by_cases xj : x = j
        · rw [xj]
          rcases q10 with q10 | q10
          · omega
          · exact q10.2
        · exact hj x (by omega)
      · unfold qf_X7_numberOf
        refine pc_sv (P := fun u => u = (ch_F Bf nf (h 56 3) c i - 8) * 12 + j) ?_ ?_
        · refine pc_sub (by omega) ?_; intro v1 e1
          refine pc_xl ?_; intro v2 e2
          rw [oq_mul_eq (by omega) (by omega) (by omega)] at e2
          refine pc_add (by omega) ?_; intro v3 e3
          exact pc_ret (by rw [e3, e2, e1])
        intro u13 q13
        refine pc_ret ?_
        rw [q13]
        refine Hf j jm ?_ hj
        rcases q10 with q10 | q10
        · exact q10.2
        · omega
theorem vc_f6 (S : CSw Bf nf h) (hk : (o : Int) < h 56 3) (t1 : tg_S (Bf o) (nf o) t = 1) (hc : c = -1 ∨ ISc (h 56 3) c) {fe : Nat} (E : ch_F Bf nf (h 56 3) c fe = -1) : ∀ (f i : Nat), (∀ x : Nat, x < i → 8 ≤ ch_F Bf nf (h 56 3) c x ∧ NOm Bf nf o t 0 (ch_F Bf nf (h 56 3) c x)) → Pc (qw_X7_fieldOf_6 nn f (h 60 o).toNat t (ch_F Bf nf (h 56 3) c i) (i : Int) h) (fun u => (u = -1 ∧ HNo Bf nf (h 56 3) o t 0 c) ∨ ∃ (d : Int) (j : Nat), HFd Bf nf (h 56 3) o t 0 c d j ∧ u = (d - 8) * 12 + j) := by
  have g3 := S.1.1
  obtain ⟨e, e1, e2⟩ := ch_8 (Bf := Bf) (nf := nf) g3 hc E
  have I := ch_is (Bf := Bf) (nf := nf) g3.1 hc
  intro f
  induction f with
  | zero => intro i _; exact pc_none
  | succ f ih =>
    intro i A
    have ie : i ≤ e := Classical.byContradiction fun z => by have := (A e (by omega)).1; omega
    unfold qw_X7_fieldOf_6
    refine pc_if (fun z => absurd z (by omega)) (fun _ => ?_)
    by_cases q : ch_F Bf nf (h 56 3) c i < 8
    · refine pc_sv (vc_im0 q) ?_; intro u17 q17
      refine pc_if (fun _ => pc_ret (.inl ⟨rfl, fun x hx => ?_⟩)) (fun z => absurd (show u17 < 0 by omega) z)
      have xi : x < i := Classical.byContradiction fun w => by have := hx i (by omega); omega
      exact (A x xi).2
    · have cI : ISc (h 56 3) (ch_F Bf nf (h 56 3) c i) := by
        rcases I i with z | z
        · omega
        · exact z
      refine pc_sv (vc_img S.1 (c := ch_F Bf nf (h 56 3) c i) (by omega) cI.2) ?_; intro u17 q17
      have k3 : kc_O (h 60 (ch_F Bf nf (h 56 3) c i - 8).toNat).toNat = 3 := by
        have cI' := cI
        unfold ISc at cI'
        exact (S.1.2 _ (by omega)).1.1.1
      rw [q17]
      refine pc_if (fun z => ?_) (fun z => ?_)
      · exfalso
        have e0 : (h 60 (ch_F Bf nf (h 56 3) c i - 8).toNat).toNat = 0 := by omega
        rw [e0] at k3
        exact absurd k3 (by decide)
      · refine vc_f31 S hk t1 (by omega) cI (by omega) (fun z => ?_) (fun j j1 j2 j3 => ?_) nn 0 (fun y hy => absurd hy (by omega))
        · refine ih (i + 1) (fun x hx => ?_)
          by_cases xi : x = i
          · rw [xi]; exact ⟨by omega, z⟩
          · exact A x (by omega)
        · refine .inr ⟨_, j, ⟨i, rfl, fun x hx => ?_, ⟨j1, j2, j3⟩, fun x hx => (A x hx).2⟩, rfl⟩
          by_cases xi : x = i
          · rw [xi]; omega
          · exact (A x (by omega)).1
theorem vc_fo (S : CSw Bf nf h) (hk : (o : Int) < h 56 3) (t1 : tg_S (Bf o) (nf o) t = 1) (hc : c = -1 ∨ ISc (h 56 3) c) {fe : Nat} (E : ch_F Bf nf (h 56 3) c fe = -1) : Pc (qf_X7_fieldOf nn c (h 60 o).toNat t h) (fun u => (u = -1 ∧ HNo Bf nf (h 56 3) o t 0 c) ∨ ∃ (d : Int) (j : Nat), HFd Bf nf (h 56 3) o t 0 c d j ∧ u = (d - 8) * 12 + j) := by
  unfold qf_X7_fieldOf
  exact vc_f6 S hk t1 hc E nn 0 (fun x hx => absurd hx (by omega))
end
