section
variable {nn : Nat} {s h r z : ms_M} {w : Int} {T : List Int}
/-- what making wants of names and kinds -/
def SP (s : ms_M) : Prop := HW_ s ∧ s 160 24 ≤ 8 ∧ (∀ c : Nat, (c : Int) < s 160 24 → s 165 (s 178 c).toNat ≤ 12) ∧ s 160 28 ≤ 192 ∧ (∀ m : Nat, (m : Int) < s 160 28 → s 165 (s 186 m).toNat ≤ 12 ∧ s 187 m < 24 + 2 * s 160 24 ∧ s 189 m ≤ 6 ∧ ∀ k : Nat, (k : Int) < s 189 m → s 195 ((s 188 m).toNat + k) < 24 + 2 * s 160 24)
theorem cls_len {c : Int} (P : SP s) (V : VS_ s) (hc : c < 8 + s 160 24) : ((clsL s c).length : Int) ≤ 12 := by
  unfold clsL
  by_cases q : c < 8
  · rw [if_pos q]; have := kn_len q; omega
  · rw [if_neg q, tokL_len]
    have := P.2.2.1 (c - 8).toNat (by omega)
    omega
theorem td_lt {t n : Int} (h : t < 24 + 2 * n) (hn : 0 ≤ n) : Int.tdiv (t - 8) 2 < 8 + n := by
  by_cases q : 8 ≤ t
  · rw [Int.tdiv_eq_ediv_of_nonneg (by omega)]; omega
  · rw [show t - 8 = -(8 - t) by omega, Int.neg_tdiv, Int.tdiv_eq_ediv_of_nonneg (by omega)]; omega
theorem knd_len {t : Int} (P : SP s) (V : VS_ s) (ht : t < 24 + 2 * s 160 24) : ((kndL s t).length : Int) ≤ 15 := by
  have g := gF_160_24 V
  unfold kndL
  split; · decide
  split; · decide
  split; · decide
  split; · decide
  rename_i n1 n2 n3 n4
  have c := cls_len (c := Int.tdiv (t - 8) 2) P V (td_lt ht g.1)
  rw [List.length_append, List.length_append, List.length_append]
  split
  · simp only [List.length_cons, List.length_nil]; omega
  · simp only [List.length_cons, List.length_nil]; omega
theorem par_len (P : SP s) (V : VS_ s) : ∀ (n f : Nat), (∀ k : Nat, k < n → s 195 (f + k) < 24 + 2 * s 160 24) → ((parL s f n).length : Int) ≤ 15 * n := by
  intro n
  induction n with
  | zero => intro f _; exact Int.le_refl _
  | succ n ih =>
    intro f H
    unfold parL
    rw [List.length_append]
    have a := knd_len P V (H 0 (by omega))
    have b := ih (f + 1) (fun k hk => by rw [show f + 1 + k = f + (k + 1) by omega]; exact H (k + 1) (by omega))
    have e : s 195 (f + 0) = s 195 f := rfl
    rw [e] at a
    omega
theorem mk_len {m : Nat} (P : SP s) (V : VS_ s) (hm : (m : Int) < s 160 28) : ((mkL s m).length : Int) ≤ 107 := by
  obtain ⟨p1, p2, p3, p4⟩ := P.2.2.2.2 m hm
  have g := gF_160_28 V
  have g9 := gA_189 V m (by omega)
  have a := knd_len P V p2
  unfold mkL
  rw [List.length_append]
  split
  · simp only [List.length_nil]; omega
  · rw [List.length_append, List.length_append]
    have b := par_len P V (s 189 m).toNat (s 188 m).toNat (fun k hk => p4 k (by omega))
    simp only [List.length_cons, List.length_nil]
    omega
/-- what stands for a source -/
def SI (s : ms_M) (i : Nat) : Prop := i < 424 ∧ ((srcL s i).length : Int) ≤ wS i
theorem si_t {t : Int} (P : SP s) (V : VS_ s) (ht : t < 24 + 2 * s 160 24) : SI s t.toNat := by
  have g24 := gF_160_24 V
  have p2 := P.2.1
  refine ⟨by omega, ?_⟩
  unfold srcL wS
  rw [if_pos (show t.toNat < 40 by omega), if_pos (show t.toNat < 40 by omega)]
  have g := gF_160_24 V
  split
  · exact knd_len P V (by omega)
  · split
    · exact knd_len P V (by omega)
    · have := cls_len (c := Int.tdiv (((t.toNat : Nat) : Int) - 8) 2) P V (td_lt (by omega) g.1)
      omega
theorem si_n {m : Nat} (P : SP s) (hm : (m : Int) < s 160 28) : SI s (40 + m) := by
  have p4 := P.2.2.2.1
  have := (P.2.2.2.2 m hm).1
  refine ⟨by omega, ?_⟩
  unfold srcL wS
  rw [if_neg (show ¬ 40 + m < 40 by omega), if_neg (show ¬ 40 + m < 40 by omega), if_pos (show 40 + m < 232 by omega), if_pos (show 40 + m < 232 by omega), tokL_len, show 40 + m - 40 = m by omega]
  omega
theorem si_k {m : Nat} (P : SP s) (V : VS_ s) (hm : (m : Int) < s 160 28) : SI s (232 + m) := by
  have p4 := P.2.2.2.1
  refine ⟨by omega, ?_⟩
  unfold srcL wS
  rw [if_neg (show ¬ 232 + m < 40 by omega), if_neg (show ¬ 232 + m < 40 by omega), if_neg (show ¬ 232 + m < 232 by omega), if_neg (show ¬ 232 + m < 232 by omega), show 232 + m - 232 = m by omega]
  exact mk_len P V hm
/-- a text of the pool -/
def isT (h : ms_M) (c : Int) (T : List Int) : Prop := (1 ≤ c ∧ c ≤ h 160 62) ∧ h 200 c.toNat = 1 ∧ h 202 c.toNat = (T.length : Int) ∧ ∀ (j : Nat) (v : Int), T[j]? = some v → h 204 ((h 201 c.toNat).toNat + j) = v
def isC (h : ms_M) (c k a b d : Int) : Prop := (1 ≤ c ∧ c ≤ h 160 62) ∧ h 200 c.toNat = k ∧ h 201 c.toNat = a ∧ h 202 c.toNat = b ∧ h 203 c.toNat = d
/-- what a row of the pool holds -/
def KV (h : ms_M) (c : Nat) : Prop := 1 ≤ h 200 c ∧ (h 200 c = 1 → h 202 c ≤ 107) ∧ (h 200 c = 3 → h 201 c ≤ h 160 62) ∧ (h 200 c = 4 → h 201 c ≤ h 160 62 ∧ h 202 c ≤ h 160 62 ∧ h 203 c ≤ h 160 62)
theorem kv_eq {c : Nat} (K : KV h c) (e0 : r 200 c = h 200 c) (e1 : r 201 c = h 201 c) (e2 : r 202 c = h 202 c) (e3 : r 203 c = h 203 c) (e : h 160 62 ≤ r 160 62) : KV r c := by
  obtain ⟨k1, k2, k3, k4⟩ := K
  unfold KV
  rw [e0, e1, e2, e3]
  exact ⟨k1, k2, fun z => by have := k3 z; omega, fun z => by have := k4 z; omega⟩
def KW1 (h : ms_M) : Prop := (∀ c : Nat, 1 ≤ c → (c : Int) ≤ h 160 62 → KV h c ∧ (h 200 c = 1 → h 201 c + h 202 c ≤ h 160 64)) ∧ (∀ c d T, isT h c T → isT h d T → c = d)
/-- the pool: w half words -/
def KP (s : ms_M) (w : Int) (h : ms_M) : Prop := KW1 h ∧ ∃ b1 b3 : Nat → Bool, (∀ i, b1 i = true → i < 424 → ∃ c, isT h c (srcL s i)) ∧ (∀ i, b3 i = true → i < 40 → ∃ c d, isT h d (srcL s i) ∧ isC h c 3 d 0 0) ∧ 2 * h 160 62 ≤ 2 * (cs w1 b1 424 + cs w1 b3 40) + w ∧ h 160 64 ≤ cs wS b1 424
theorem kp_room (K : KP s w h) (hw : w ≤ 3001) : h 160 62 ≤ 1970 ∧ h 160 64 ≤ 23448 := by
  obtain ⟨_, b1, b3, _, _, k1, k2⟩ := K
  have a1 := cs_le (f := w1) (b := b1) (fun _ => show (0 : Int) ≤ 1 by decide) 424
  have a3 := cs_le (f := w1) (b := b3) (fun _ => show (0 : Int) ≤ 1 by decide) 40
  have a4 := cs_le (f := wS) (b := b1) wS_0 424
  rw [cs_1] at a1; rw [cs_3] at a3; rw [cs_S] at a4
  omega
theorem kp_le {v : Int} (K : KP s w h) (hv : w ≤ v) : KP s v h := by
  obtain ⟨k0, b1, b3, k1, k2, k3, k4⟩ := K
  exact ⟨k0, b1, b3, k1, k2, by omega, k4⟩
/-- a step that leaves what is in the pool, and adds at most one -/
def PG (h r : ms_M) : Prop := h 160 62 ≤ r 160 62 ∧ h 160 64 ≤ r 160 64 ∧ (∀ c k : Nat, 200 ≤ c → c ≤ 203 → (k : Int) ≤ h 160 62 → r c k = h c k) ∧ (∀ k : Nat, (k : Int) < h 160 64 → r 204 k = h 204 k)
theorem pg_T {c : Int} (G : PG h r) (K : KW1 h) (V : VS_ h) (x : isT h c T) : isT r c T := by
  obtain ⟨x1, x2, x3, x4⟩ := x
  obtain ⟨g1, g2, g3, g4⟩ := G
  have q := (K.1 c.toNat (by omega) (by omega)).2 x2
  have v62 := gF_160_62 V
  have v1 := gA_201 V c.toNat (by omega)
  refine ⟨by omega, by rw [g3 200 _ (by decide) (by decide) (by omega)]; exact x2, by rw [g3 202 _ (by decide) (by decide) (by omega)]; exact x3, fun j v hj => ?_⟩
  have hl : j < T.length := by
    by_cases p : j < T.length
    · exact p
    · rw [List.getElem?_eq_none (by omega)] at hj; cases hj
  rw [g3 201 _ (by decide) (by decide) (by omega), g4 _ (by omega)]
  exact x4 j v hj
theorem pg_Ti {c : Int} (G : PG h r) (K : KW1 h) (V : VS_ h) (hc : c ≤ h 160 62) (x : isT r c T) : isT h c T := by
  obtain ⟨x1, x2, x3, x4⟩ := x
  obtain ⟨g1, g2, g3, g4⟩ := G
  rw [g3 200 _ (by decide) (by decide) (by omega)] at x2
  rw [g3 202 _ (by decide) (by decide) (by omega)] at x3
  rw [g3 201 _ (by decide) (by decide) (by omega)] at x4
  have q := (K.1 c.toNat (by omega) (by omega)).2 x2
  have v62 := gF_160_62 V
  have v1 := gA_201 V c.toNat (by omega)
  refine ⟨by omega, x2, x3, fun j v hj => ?_⟩
  have hl : j < T.length := by
    by_cases p : j < T.length
    · exact p
    · rw [List.getElem?_eq_none (by omega)] at hj; cases hj
  rw [← g4 _ (by omega)]
  exact x4 j v hj
theorem pg_C {c k a b d : Int} (G : PG h r) (x : isC h c k a b d) : isC r c k a b d := by
  obtain ⟨x1, x2, x3, x4, x5⟩ := x
  obtain ⟨g1, g2, g3, g4⟩ := G
  exact ⟨by omega, by rw [g3 200 _ (by decide) (by decide) (by omega)]; exact x2, by rw [g3 201 _ (by decide) (by decide) (by omega)]; exact x3, by rw [g3 202 _ (by decide) (by decide) (by omega)]; exact x4, by rw [g3 203 _ (by decide) (by decide) (by omega)]; exact x5⟩
/-- a new row that is no text -/
theorem kw_other (G : PG h r) (V : VS_ h) (K : KW1 h) (e62 : r 160 62 = h 160 62 + 1) (hk : ¬ r 200 (h 160 62 + 1).toNat = 1 ∧ KV r (h 160 62 + 1).toNat) : KW1 r := by
  refine ⟨fun c c1 c2 => ?_, fun c d T x y => ?_⟩
  · by_cases q : (c : Int) ≤ h 160 62
    · have := K.1 c c1 q
      refine ⟨kv_eq this.1 (G.2.2.1 200 c (by decide) (by decide) q) (G.2.2.1 201 c (by decide) (by decide) q) (G.2.2.1 202 c (by decide) (by decide) q) (G.2.2.1 203 c (by decide) (by decide) q) G.1, ?_⟩
      rw [G.2.2.1 200 c (by decide) (by decide) q, G.2.2.1 201 c (by decide) (by decide) q, G.2.2.1 202 c (by decide) (by decide) q]
      exact fun z => by have := this.2 z; have := G.2.1; omega
    · rw [show c = (h 160 62 + 1).toNat by omega]
      exact ⟨hk.2, fun z => absurd z hk.1⟩
  · have o : ∀ e, isT r e T → e ≤ h 160 62 := fun e z => by
      by_cases q : e ≤ h 160 62
      · exact q
      · have := z.1
        have z2 := z.2.1
        rw [show e = h 160 62 + 1 by omega] at z2
        exact absurd z2 hk.1
    exact K.2 c d T (pg_Ti G K V (o c x) x) (pg_Ti G K V (o d y) y)
theorem kp_pg {v : Int} (G : PG h r) (V : VS_ h) (K : KP s w h) (K1 : KW1 r) (h1 : r 160 62 ≤ h 160 62 + 1) (hv : 2 * r 160 62 - 2 * h 160 62 + w ≤ v) (h4 : r 160 64 = h 160 64) : KP s v r := by
  obtain ⟨k0, b1, b3, k1, k2, k3, k4⟩ := K
  refine ⟨K1, b1, b3, fun i x y => ?_, fun i x y => ?_, by omega, by omega⟩
  · obtain ⟨c, z⟩ := k1 i x y
    exact ⟨c, pg_T G k0 V z⟩
  · obtain ⟨c, d, z1, z2⟩ := k2 i x y
    exact ⟨c, d, pg_T G k0 V z1, pg_C G z2⟩
/-- a new row -/
theorem kc_71 {l1 l2 l3 l4 : Int} (V : VS_ h) (r1 : 0 ≤ l1 ∧ l1 ≤ 4) (r2 : 0 ≤ l2 ∧ l2 ≤ 2147483647) (r3 : 0 ≤ l3 ∧ l3 ≤ 2000) (r4 : 0 ≤ l4 ∧ l4 ≤ 2000) (hr : h 160 62 ≤ 1998) : Ok_ (qj_X13_constant_71 nn l1 l2 l3 l4 h) (fun u => VS_ u.2 ∧ u.1 = h 160 62 + 1 ∧ u.2 160 62 = h 160 62 + 1 ∧ (u.2 200 u.1.toNat = l1 ∧ u.2 201 u.1.toNat = l2 ∧ u.2 202 u.1.toNat = l3 ∧ u.2 203 u.1.toNat = l4) ∧ (∀ c k : Nat, ¬ (c = 160 ∧ k = 62) → ¬ (200 ≤ c ∧ c ≤ 203 ∧ k = u.1.toNat) → u.2 c k = h c k)) := by
  have g := gF_160_62 V
  unfold qj_X13_constant_71
  refine ok_add (by omega) ?_; intro v2 e2
  refine ok_xl ?_; intro h3 E3
  have V3 : VS_ h3 := by rw [E3]; exact wF_160_62 V (by omega)
  have q3 : h3 160 62 = v2 := by rw [E3]; exact up_s
  refine ok_wA (by omega) ?_; intro h6 E6
  have V6 : VS_ h6 := by rw [E6]; exact wA_200 V3 (by omega)
  have q6 : h6 160 62 = v2 := by rw [E6, up_n (by omega)]; exact q3
  refine ok_wA (by omega) ?_; intro h9 E9
  have V9 : VS_ h9 := by rw [E9]; exact wA_201 V6 (by omega)
  have q9 : h9 160 62 = v2 := by rw [E9, up_n (by omega)]; exact q6
  refine ok_wA (by omega) ?_; intro h12 E12
  have V12 : VS_ h12 := by rw [E12]; exact wA_202 V9 (by omega)
  have q12 : h12 160 62 = v2 := by rw [E12, up_n (by omega)]; exact q9
  refine ok_wA (by omega) ?_; intro h15 E15
  have V15 : VS_ h15 := by rw [E15]; exact wA_203 V12 (by omega)
  have q15 : h15 160 62 = v2 := by rw [E15, up_n (by omega)]; exact q12
  rw [q3] at E6; rw [q6] at E9; rw [q9] at E12; rw [q12] at E15
  refine ok_ret ⟨V15, by show h15 160 62 = _; omega, by show h15 160 62 = _; omega, ?_, fun c k n1 n2 => ?_⟩
  · show h15 200 (h15 160 62).toNat = l1 ∧ h15 201 (h15 160 62).toNat = l2 ∧ h15 202 (h15 160 62).toNat = l3 ∧ h15 203 (h15 160 62).toNat = l4
    rw [q15]
    refine ⟨?_, ?_, ?_, ?_⟩
    · rw [E15, up_n (by omega), E12, up_n (by omega), E9, up_n (by omega), E6, up_s]
    · rw [E15, up_n (by omega), E12, up_n (by omega), E9, up_s]
    · rw [E15, up_n (by omega), E12, up_s]
    · rw [E15, up_s]
  · have n2 : ¬ (200 ≤ c ∧ c ≤ 203 ∧ k = (h15 160 62).toNat) := n2
    rw [q15] at n2
    show h15 c k = h c k
    rw [E15, up_n (by omega), E12, up_n (by omega), E9, up_n (by omega), E6, up_n (by omega), E3, up_n (by omega)]
/-- a row that is looked for, or a new one -/
theorem kc_8 {l1 l2 l3 l4 : Int} (V : VS_ h) (r1 : 0 ≤ l1 ∧ l1 ≤ 4) (r2 : 0 ≤ l2 ∧ l2 ≤ 2147483647) (r3 : 0 ≤ l3 ∧ l3 ≤ 2000) (r4 : 0 ≤ l4 ∧ l4 ≤ 2000) (hr : h 160 62 ≤ 1998) : ∀ (k : Nat) (l5 : Int), 1 ≤ l5 → l5 ≤ h 160 62 + 1 → h 160 62 + 1 - l5 < (k : Int) → (∀ c : Int, c < l5 → ¬ isC h c l1 l2 l3 l4) → Ok_ (qw_X13_constant_8 nn k l1 l2 l3 l4 l5 h) (fun u => (u.2 = h ∧ isC h u.1 l1 l2 l3 l4) ∨ ((∀ c : Int, ¬ isC h c l1 l2 l3 l4) ∧ VS_ u.2 ∧ u.1 = h 160 62 + 1 ∧ u.2 160 62 = h 160 62 + 1 ∧ (u.2 200 u.1.toNat = l1 ∧ u.2 201 u.1.toNat = l2 ∧ u.2 202 u.1.toNat = l3 ∧ u.2 203 u.1.toNat = l4) ∧ (∀ c k : Nat, ¬ (c = 160 ∧ k = 62) → ¬ (200 ≤ c ∧ c ≤ 203 ∧ k = u.1.toNat) → u.2 c k = h c k))) := by
  have g := gF_160_62 V
  intro k
  induction k with
  | zero => intro l5 a1 a2 hm; exfalso; omega
  | succ k ih =>
    intro l5 a1 a2 hm H
    unfold qw_X13_constant_8
    have nx : ∀ v : Int, v = l5 + 1 → ¬ isC h l5 l1 l2 l3 l4 → ∀ c : Int, c < v → ¬ isC h c l1 l2 l3 l4 := fun v ev nc c hc x => by
      by_cases q : c = l5
      · rw [q] at x; exact nc x
      · exact H c (by omega) x
    refine ok_if (fun C => ?_) (fun C => ?_)
    · refine ok_im (kc_71 V r1 r2 r3 r4 hr) (fun u P => .inr ⟨fun c x => H c (by have := x.1; omega) x, P⟩)
    · refine ok_rd (by omega) (gA_200 V) ?_; intro v19 e19 _ _
      refine ok_if (fun C1 => ?_) (fun C1 => ?_)
      · refine ok_add (by omega) ?_; intro v e
        exact ih v (by omega) (by omega) (by omega) (nx v e (fun x => C1 (e19.trans x.2.1)))
      refine ok_rd (by omega) (gA_201 V) ?_; intro v22 e22 _ _
      refine ok_if (fun C2 => ?_) (fun C2 => ?_)
      · refine ok_add (by omega) ?_; intro v e
        exact ih v (by omega) (by omega) (by omega) (nx v e (fun x => C2 (e22.trans x.2.2.1)))
      refine ok_rd (by omega) (gA_202 V) ?_; intro v25 e25 _ _
      refine ok_if (fun C3 => ?_) (fun C3 => ?_)
      · refine ok_add (by omega) ?_; intro v e
        exact ih v (by omega) (by omega) (by omega) (nx v e (fun x => C3 (e25.trans x.2.2.2.1)))
      refine ok_rd (by omega) (gA_203 V) ?_; intro v28 e28 _ _
      refine ok_if (fun C4 => ?_) (fun C4 => ?_)
      · refine ok_add (by omega) ?_; intro v e
        exact ih v (by omega) (by omega) (by omega) (nx v e (fun x => C4 (e28.trans x.2.2.2.2)))
      exact ok_ret (.inl ⟨rfl, ⟨by show 1 ≤ l5; omega, by show l5 ≤ _; omega⟩, by show h 200 l5.toNat = _; omega, by show h 201 l5.toNat = _; omega, by show h 202 l5.toNat = _; omega, by show h 203 l5.toNat = _; omega⟩)
theorem pg_new {u : Int × ms_M} (V : VS_ h) (e1 : u.1 = h 160 62 + 1) (e2 : u.2 160 62 = h 160 62 + 1) (N : ∀ c k : Nat, ¬ (c = 160 ∧ k = 62) → ¬ (200 ≤ c ∧ c ≤ 203 ∧ k = u.1.toNat) → u.2 c k = h c k) : PG h u.2 := by
  have g := gF_160_62 V
  exact ⟨by omega, by rw [N 160 64 (by decide) (by omega)]; exact Int.le_refl _, fun c k a b hk => N c k (by omega) (by omega), fun k _ => N 204 k (by omega) (by omega)⟩
/-- a number or a member -/
theorem kp_word (hn : 1000000 ≤ nn) {l1 l2 l3 l4 : Int} (V : VS_ h) (K : KP s w h) (hw : w ≤ 3000) (r1 : l1 = 2 ∨ l1 = 4) (r2 : 0 ≤ l2 ∧ l2 ≤ 2147483647) (r3 : 0 ≤ l3 ∧ l3 ≤ 2000) (r4 : 0 ≤ l4 ∧ l4 ≤ 2000) (r5 : l1 = 2 ∨ (l2 ≤ h 160 62 ∧ l3 ≤ h 160 62 ∧ l4 ≤ h 160 62)) : Ok_ (qf_X13_constant nn l1 l2 l3 l4 h) (fun u => VS_ u.2 ∧ NP h u.2 ∧ KP s (w + 2) u.2 ∧ (u.2 160 66 = h 160 66 ∧ h 160 62 ≤ u.2 160 62) ∧ (1 ≤ u.1 ∧ u.1 ≤ 1999 ∧ u.1 ≤ u.2 160 62)) := by
  have rm := kp_room K (by omega)
  have g := gF_160_62 V
  unfold qf_X13_constant
  refine ok_if (fun C => by exfalso; omega) (fun C => ?_)
  refine ok_im (kc_8 V (by omega) r2 r3 r4 (by omega) nn 1 (by omega) (by omega) (by omega) (fun c hc x => by have := x.1; omega)) (fun u P => ?_)
  rcases P with ⟨P1, P2⟩ | ⟨_, V2, e1, e2, ⟨e3, e4, e5, e6⟩, N⟩
  · have := P2.1
    rw [P1]
    exact ⟨V, np_rf, kp_le K (by omega), ⟨rfl, by omega⟩, by omega⟩
  · have G := pg_new V e1 e2 N
    refine ⟨V2, fun c k a b => N c k (by omega) (by omega), kp_pg G V K (kw_other G V K.1 e2 ?_) (by omega) (by omega) (N 160 64 (by decide) (by omega)), ⟨N 160 66 (by decide) (by omega), by omega⟩, by omega⟩
    rw [← e1]
    unfold KV
    rw [e3, e4, e5, e6, e2]
    omega
/-- a class -/
theorem kp_class (hn : 1000000 ≤ nn) {a : Int} {i : Nat} (V : VS_ h) (K : KP s w h) (hw : w ≤ 3001) (hi : i < 40) (x : isT h a (srcL s i)) : Ok_ (qf_X13_constant nn 3 a 0 0 h) (fun u => VS_ u.2 ∧ NP h u.2 ∧ KP s w u.2 ∧ (u.2 160 66 = h 160 66 ∧ h 160 62 ≤ u.2 160 62) ∧ (1 ≤ u.1 ∧ u.1 ≤ 1999 ∧ u.1 ≤ u.2 160 62)) := by
  have rm := kp_room K (by omega)
  have g := gF_160_62 V
  have xa := x.1
  unfold qf_X13_constant
  refine ok_if (fun C => by exfalso; omega) (fun C => ?_)
  refine ok_im (kc_8 V (by omega) (by omega) (by omega) (by omega) (by omega) nn 1 (by omega) (by omega) (by omega) (fun c hc x => by have := x.1; omega)) (fun u P => ?_)
  rcases P with ⟨P1, P2⟩ | ⟨no, V2, e1, e2, ⟨e3, e4, e5, e6⟩, N⟩
  · have := P2.1
    rw [P1]
    exact ⟨V, np_rf, K, ⟨rfl, by omega⟩, by omega⟩
  · have G := pg_new V e1 e2 N
    have K1 := kw_other G V K.1 e2 (by rw [← e1]; unfold KV; rw [e3, e4, e5, e6, e2]; omega)
    refine ⟨V2, fun c k a b => N c k (by omega) (by omega), ?_, ⟨N 160 66 (by decide) (by omega), by omega⟩, by omega⟩
    obtain ⟨k0, b1, b3, k1, k2, k3, k4⟩ := K
    have nb : ¬ b3 i = true := fun y => by
      obtain ⟨c, d, z1, z2⟩ := k2 i y hi
      rw [k0.2 d a _ z1 x] at z2
      exact no c z2
    have q := cs_up (f := w1) nb 40
    rw [if_pos hi] at q
    have q1 : w1 i = 1 := rfl
    refine ⟨K1, b1, bu b3 i, fun j y z => ?_, fun j y z => ?_, by omega, by rw [N 160 64 (by decide) (by omega)]; exact k4⟩
    · obtain ⟨c, z⟩ := k1 j y z
      exact ⟨c, pg_T G k0 V z⟩
    · by_cases p : j = i
      · rw [p]
        exact ⟨u.1, a, pg_T G k0 V x, by omega, e3, e4, e5, e6⟩
      · unfold bu at y
        rw [if_neg p] at y
        obtain ⟨c, d, z1, z2⟩ := k2 j y z
        exact ⟨c, d, pg_T G k0 V z1, pg_C G z2⟩
/-- a text that is new -/
theorem kp_109 (hn : 1000000 ≤ nn) {i : Nat} (V : VS_ h) (K : KP s w h) (hw : w ≤ 3001) (I : SI s i) (S : ∀ (j : Nat) (v : Int), (srcL s i)[j]? = some v → h 205 j = v) (no : ∀ c : Int, ¬ isT h c (srcL s i)) : ∀ (k : Nat) (l2 : Int) (g : ms_M), VS_ g → (∀ c k : Nat, c ≠ 204 → g c k = h c k) → (∀ k : Nat, (k : Int) < h 160 64 → g 204 k = h 204 k) → (∀ j : Nat, (j : Int) < l2 → g 204 ((h 160 64).toNat + j) = h 205 j) → 0 ≤ l2 → l2 ≤ ((srcL s i).length : Int) → ((srcL s i).length : Int) - l2 < (k : Int) → Ok_ (qw_X13_spelling_109 nn k ((srcL s i).length : Int) l2 g) (fun u => VS_ u.2 ∧ NP h u.2 ∧ KP s w u.2 ∧ (u.2 160 66 = h 160 66 ∧ h 160 62 ≤ u.2 160 62) ∧ isT u.2 u.1 (srcL s i)) := by
  have rm := kp_room K hw
  have g62 := gF_160_62 V
  have g64 := gF_160_64 V
  have w107 : wS i ≤ 107 := by unfold wS; split; omega; split <;> omega
  have I2 := I.2
  intro k
  induction k with
  | zero => intro l2 g Vg A B D a1 a2 hm; exfalso; omega
  | succ k ih =>
    intro l2 g Vg A B D a1 a2 hm
    have q64 := A 160 64 (by decide)
    have q62 := A 160 62 (by decide)
    unfold qw_X13_spelling_109
    refine ok_if (fun C => ?_) (fun C => ?_)
    · unfold qf_X13_constant
      rw [if_pos (show (1 : Int) ≤ 1 by decide)]
      refine ok_sv (kc_71 Vg (by omega) (by omega) (by omega) (by omega) (by omega)) ?_; intro u3 P
      obtain ⟨V3, e1, e2, ⟨e3, e4, e5, e6⟩, N⟩ := P
      have q3 : u3.2 160 64 = h 160 64 := (N 160 64 (by decide) (by omega)).trans q64
      refine ok_add (by omega) ?_; intro v5 e5'
      refine ok_xl ?_; intro h6 E6
      have N6 : ∀ c k : Nat, ¬ (c = 160 ∧ k = 64) → h6 c k = u3.2 c k := fun c k n => by rw [E6]; exact up_n n
      have V6 : VS_ h6 := by rw [E6]; exact wF_160_64 V3 (by omega)
      have p64 : h6 160 64 = v5 := by rw [E6]; exact up_s
      have p62 : h6 160 62 = h 160 62 + 1 := by rw [N6 160 62 (by decide)]; omega
      have F : ∀ c k : Nat, ¬ (c = 160 ∧ (k = 62 ∨ k = 64)) → ¬ (200 ≤ c ∧ c ≤ 203 ∧ k = u3.1.toNat) → c ≠ 204 → h6 c k = h c k := fun c k a b d => by rw [N6 c k (by omega), N c k (by omega) (by omega), A c k (by omega)]
      have G : PG h h6 := ⟨by omega, by omega, fun c k a b hk => F c k (by omega) (by omega) (by omega), fun k hk => by rw [N6 204 k (by omega), N 204 k (by omega) (by omega)]; exact B k hk⟩
      have new : isT h6 u3.1 (srcL s i) := by
        refine ⟨by omega, by rw [N6 200 _ (by omega)]; exact e3, by rw [N6 202 _ (by omega)]; exact e5, fun j v hj => ?_⟩
        have hl : j < (srcL s i).length := by
          by_cases p : j < (srcL s i).length
          · exact p
          · rw [List.getElem?_eq_none (by omega)] at hj; cases hj
        rw [N6 201 _ (by omega), e4, q64, N6 204 _ (by omega), N 204 _ (by omega) (by omega), D j (by omega)]
        exact S j v hj
      obtain ⟨k0, b1, b3, k1, k2, k3, k4⟩ := K
      have K1 : KW1 h6 := by
        refine ⟨fun c c1 c2 => ?_, fun c d T x y => ?_⟩
        · by_cases q : (c : Int) ≤ h 160 62
          · have := k0.1 c c1 q
            refine ⟨kv_eq this.1 (G.2.2.1 200 c (by decide) (by decide) q) (G.2.2.1 201 c (by decide) (by decide) q) (G.2.2.1 202 c (by decide) (by decide) q) (G.2.2.1 203 c (by decide) (by decide) q) G.1, ?_⟩
            rw [G.2.2.1 200 c (by decide) (by decide) q, G.2.2.1 201 c (by decide) (by decide) q, G.2.2.1 202 c (by decide) (by decide) q]
            exact fun z => by have := this.2 z; omega
          · have ec : c = u3.1.toNat := by omega
            unfold KV
            rw [ec, N6 200 _ (by omega), N6 201 _ (by omega), N6 202 _ (by omega), e3, e4, e5]
            exact ⟨⟨by omega, fun _ => by omega, fun z => by exfalso; omega, fun z => by exfalso; omega⟩, fun _ => by omega⟩
        · have o : ∀ e, isT h6 e T → e ≤ h 160 62 ∨ e = u3.1 := fun e z => by have := z.1; omega
          have m : ∀ e, isT h6 e T → e = u3.1 → T = srcL s i := fun e z ez => by
            rw [ez] at z
            have l1 : T.length = (srcL s i).length := by have := z.2.2.1; have := new.2.2.1; omega
            refine List.ext_getElem? (fun j => ?_)
            by_cases p : j < T.length
            · have t1 : T[j]? = some T[j] := List.getElem?_eq_getElem p
              have t2 : (srcL s i)[j]? = some (srcL s i)[j] := List.getElem?_eq_getElem (by omega)
              rw [t1, t2, ← z.2.2.2 j _ t1, ← new.2.2.2 j _ t2]
            · rw [List.getElem?_eq_none (by omega), List.getElem?_eq_none (by omega)]
          rcases o c x with oc | oc
          · rcases o d y with od | od
            · exact k0.2 c d T (pg_Ti G k0 V oc x) (pg_Ti G k0 V od y)
            · exfalso
              have := m d y od
              rw [this] at x
              exact no c (pg_Ti G k0 V oc x)
          · rcases o d y with od | od
            · exfalso
              have := m c x oc
              rw [this] at y
              exact no d (pg_Ti G k0 V od y)
            · omega
      refine ok_ret ⟨V6, fun c k a b => F c k (by omega) (by omega) (by omega), ?_, ⟨F 160 66 (by decide) (by omega) (by decide), by show h 160 62 ≤ h6 160 62; omega⟩, new⟩
      have nb : ¬ b1 i = true := fun y => by
        obtain ⟨c, z⟩ := k1 i y I.1
        exact no c z
      have q := cs_up (f := w1) nb 424
      have qS := cs_up (f := wS) nb 424
      rw [if_pos I.1] at q qS
      have q1 : w1 i = 1 := rfl
      refine ⟨K1, bu b1 i, b3, fun j y z => ?_, fun j y z => ?_, by show 2 * h6 160 62 ≤ _; omega, by show h6 160 64 ≤ _; omega⟩
      · by_cases p : j = i
        · rw [p]; exact ⟨u3.1, new⟩
        · unfold bu at y
          rw [if_neg p] at y
          obtain ⟨c, z⟩ := k1 j y z
          exact ⟨c, pg_T G k0 V z⟩
      · obtain ⟨c, d, z1, z2⟩ := k2 j y z
        exact ⟨c, d, pg_T G k0 V z1, pg_C G z2⟩
    · refine ok_add (by omega) ?_; intro v9 e9
      refine ok_rd (by omega) (gA_205 Vg) ?_; intro v11 e11 a11 b11
      refine ok_wA (by omega) ?_; intro h12 E12
      refine ok_add (by omega) ?_; intro v13 e13
      refine ih v13 h12 (by rw [E12]; exact wA_204 Vg (by omega)) (fun c k n => by rw [E12, up_n (by omega)]; exact A c k n) (fun k hk => by rw [E12, up_n (by omega)]; exact B k hk) (fun j hj => ?_) (by omega) (by omega) (by omega)
      by_cases p : (j : Int) < l2
      · rw [E12, up_n (by omega)]; exact D j p
      · rw [E12, show (h 160 64).toNat + j = v9.toNat by omega, up_s, e11, A 205 _ (by decide), show l2.toNat = j by omega]
/-- is it this one? -/
theorem kp_49 {Q : Int × ms_M → Prop} {qk : Int → Int → ms_M → Option (Int × ms_M)} {i : Nat} (V : VS_ h) (K : KW1 h) (I : SI s i) (S : ∀ (j : Nat) (v : Int), (srcL s i)[j]? = some v → h 205 j = v) {l2 : Int} (r2 : 1 ≤ l2 ∧ l2 ≤ h 160 62) (hy : isT h l2 (srcL s i) → Q (l2, h)) (hno : ¬ isT h l2 (srcL s i) → Ok_ (qk ((srcL s i).length : Int) (l2 + 1) h) Q) : ∀ (k : Nat) (l3 l4 : Int), 0 ≤ l4 → l4 ≤ ((srcL s i).length : Int) → ((srcL s i).length : Int) - l4 < (k : Int) → ((l3 = 0 ∧ ¬ isT h l2 (srcL s i)) ∨ (l3 = 1 ∧ h 200 l2.toNat = 1 ∧ h 202 l2.toNat = ((srcL s i).length : Int) ∧ ∀ j : Nat, (j : Int) < l4 → h 204 ((h 201 l2.toNat).toNat + j) = h 205 j)) → Ok_ (qw_X13_spelling_49 nn qk k ((srcL s i).length : Int) l2 l3 l4 h) Q := by
  have g62 := gF_160_62 V
  have g64 := gF_160_64 V
  have w107 : wS i ≤ 107 := by unfold wS; split; omega; split <;> omega
  have I2 := I.2
  intro k
  induction k with
  | zero => intro l3 l4 a1 a2 hm; exfalso; omega
  | succ k ih =>
    intro l3 l4 a1 a2 hm D
    have N95 : l3 = 0 → Ok_ (qj_X13_spelling_95 nn qk ((srcL s i).length : Int) l2 l3 h) Q := fun z => by
      unfold qj_X13_spelling_95
      rw [if_pos z]
      refine ok_add (by omega) ?_; intro v e
      rw [e]
      rcases D with D | D
      · exact hno D.2
      · exfalso; omega
    unfold qw_X13_spelling_49
    refine ok_if (fun C => ?_) (fun C => ?_)
    · rcases D with D | ⟨D1, D2, D3, D4⟩
      · exact N95 D.1
      · unfold qj_X13_spelling_95
        rw [if_neg (by omega)]
        refine ok_ret (hy ⟨r2, D2, D3, fun j v hj => ?_⟩)
        have hl : j < (srcL s i).length := by
          by_cases p : j < (srcL s i).length
          · exact p
          · rw [List.getElem?_eq_none (by omega)] at hj; cases hj
        rw [D4 j (by omega)]; exact S j v hj
    · refine ok_if (fun C2 => N95 C2) (fun C2 => ?_)
      rcases D with D | ⟨D1, D2, D3, D4⟩
      · exfalso; omega
      have kq := (K.1 l2.toNat (by omega) (by omega)).2 D2
      refine ok_rd (by omega) (gA_201 V) ?_; intro v19 e19 _ _
      refine ok_add (by omega) ?_; intro v20 e20
      refine ok_rd (by omega) (gA_204 V) ?_; intro v21 e21 _ _
      refine ok_rd (by omega) (gA_205 V) ?_; intro v23 e23 _ _
      have e : v20.toNat = (h 201 l2.toNat).toNat + l4.toNat := by omega
      refine ok_if (fun C3 => ?_) (fun C3 => ?_)
      · refine ok_add (by omega) ?_; intro v24 e24
        refine ih 0 v24 (by omega) (by omega) (by omega) (.inl ⟨rfl, fun x => C3 ?_⟩)
        have t : (srcL s i)[l4.toNat]? = some (srcL s i)[l4.toNat] := List.getElem?_eq_getElem (by omega)
        rw [e21, e23, e, x.2.2.2 _ _ t, S _ _ t]
      · refine ok_add (by omega) ?_; intro v25 e25
        refine ih 1 v25 (by omega) (by omega) (by omega) (.inr ⟨rfl, D2, D3, fun j hj => ?_⟩)
        by_cases p : (j : Int) < l4
        · exact D4 j p
        · rw [show j = l4.toNat by omega, ← e, ← e21, ← e23]; exact Classical.not_not.mp C3
theorem kp_12 (hn : 1000000 ≤ nn) {i : Nat} (V : VS_ h) (K : KP s w h) (hw : w ≤ 3001) (I : SI s i) (S : ∀ (j : Nat) (v : Int), (srcL s i)[j]? = some v → h 205 j = v) : ∀ (k : Nat) (l2 : Int), 1 ≤ l2 → l2 ≤ h 160 62 + 1 → h 160 62 + 1 - l2 < (k : Int) → (∀ c : Int, c < l2 → ¬ isT h c (srcL s i)) → Ok_ (qw_X13_spelling_12 nn k ((srcL s i).length : Int) l2 h) (fun u => VS_ u.2 ∧ NP h u.2 ∧ KP s w u.2 ∧ (u.2 160 66 = h 160 66 ∧ h 160 62 ≤ u.2 160 62) ∧ isT u.2 u.1 (srcL s i)) := by
  have g62 := gF_160_62 V
  have w107 : wS i ≤ 107 := by unfold wS; split; omega; split <;> omega
  have I2 := I.2
  intro k
  induction k with
  | zero => intro l2 a1 a2 hm; exfalso; omega
  | succ k ih =>
    intro l2 a1 a2 hm H
    unfold qw_X13_spelling_12
    refine ok_if (fun C => ?_) (fun C => ?_)
    · exact kp_109 hn V K hw I S (fun c x => H c (by have := x.1; omega) x) nn 0 h V (fun _ _ _ => rfl) (fun _ _ => rfl) (fun j hj => by exfalso; omega) (by omega) (by omega) (by omega)
    · have hy : isT h l2 (srcL s i) → VS_ (l2, h).2 ∧ NP h (l2, h).2 ∧ KP s w (l2, h).2 ∧ ((l2, h).2 160 66 = h 160 66 ∧ h 160 62 ≤ (l2, h).2 160 62) ∧ isT (l2, h).2 (l2, h).1 (srcL s i) := fun x => ⟨V, np_rf, K, ⟨rfl, Int.le_refl _⟩, x⟩
      have hno : ¬ isT h l2 (srcL s i) → Ok_ (qw_X13_spelling_12 nn k ((srcL s i).length : Int) (l2 + 1) h) (fun u => VS_ u.2 ∧ NP h u.2 ∧ KP s w u.2 ∧ (u.2 160 66 = h 160 66 ∧ h 160 62 ≤ u.2 160 62) ∧ isT u.2 u.1 (srcL s i)) := fun x => by
        refine ih (l2 + 1) (by omega) (by omega) (by omega) (fun c hc y => ?_)
        by_cases p : c = l2
        · rw [p] at y; exact x y
        · exact H c (by omega) y
      refine ok_rd (by omega) (gA_200 V) ?_; intro v31 e31 _ _
      refine ok_if (fun C1 => ?_) (fun C1 => ?_)
      · unfold qj_X13_spelling_44
        exact kp_49 V K.1 I S (by omega) hy hno nn 0 0 (by omega) (by omega) (by omega) (.inl ⟨rfl, fun x => C1 (e31.trans x.2.1)⟩)
      refine ok_rd (by omega) (gA_202 V) ?_; intro v33 e33 _ _
      refine ok_if (fun C2 => ?_) (fun C2 => ?_)
      · unfold qj_X13_spelling_44
        exact kp_49 V K.1 I S (by omega) hy hno nn 0 0 (by omega) (by omega) (by omega) (.inl ⟨rfl, fun x => C2 (e33.trans x.2.2.1)⟩)
      · exact kp_49 V K.1 I S (by omega) hy hno nn 1 0 (by omega) (by omega) (by omega) (.inr ⟨rfl, by omega, by omega, fun j hj => by exfalso; omega⟩)
end
