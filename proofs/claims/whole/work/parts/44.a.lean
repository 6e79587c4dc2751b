/- HEADS: names and classes of both sides -/
/-- the tokens' names in the reference: V numbers them -/
def NMr (K V : Nat → Int) (c : Nat) (r : ms_M) : Prop := (∀ i : Nat, i < c → K i = 2 → (0 ≤ V i ∧ V i < 1532) ∧ (1 ≤ r 165 i ∧ r 165 i ≤ 12) ∧ (0 ≤ r 164 i ∧ r 164 i + r 165 i ≤ 3000) ∧ (∀ u : Int, AMS (1000000000 + 3) 77 (r 164 i) (r 165 i) r u → (u = -1 ∧ 8 ≤ V i) ∨ (u = V i ∧ V i < 8)) ∧ (∀ u : Int, AMS (1000000000 + 4) 8 (r 164 i) (r 165 i) r u → (u = -1 ∧ ¬ V i = 8) ∨ (u = 0 ∧ V i = 8))) ∧ ∀ i j : Nat, i < c → j < c → K i = 2 → K j = 2 → (V i = V j ↔ (r 165 i = r 165 j ∧ ∀ k : Nat, (k : Int) < r 165 i → r 162 ((r 164 i).toNat + k) = r 162 ((r 164 j).toNat + k)))
/-- .. and in the class -/
def VLc (K V : Nat → Int) (c : Nat) (h : ms_M) : Prop := ∀ i : Nat, i < c → K i = 2 → h 5 i = V i
/-- two tokens of the reference spell the same -/
def LKE (r : ms_M) (i j : Nat) : Prop := r 165 i = r 165 j ∧ ∀ k : Nat, (k : Int) < r 165 i → r 162 ((r 164 i).toNat + k) = r 162 ((r 164 j).toNat + k)
/-- the class (its number or -1) that a name x means; W: the classes' names -/
def CLz (W : Nat → Int) (n : Nat) (x u : Int) : Prop := (x < 8 ∧ u = x) ∨ (8 ≤ x ∧ ((∃ k : Nat, k < n ∧ W k = x ∧ (∀ j : Nat, j < k → ¬ W j = x) ∧ u = 8 + (k : Int)) ∨ (u = -1 ∧ ∀ k : Nat, k < n → ¬ W k = x)))
/-- the classes of the text: C their names' tokens -/
def CKd (K V : Nat → Int) (C : Nat → Nat) (n N : Nat) : Prop := ((1 ≤ n ∧ n ≤ 334) ∧ 32 ≤ N ∧ N ≤ 1532) ∧ (∀ k : Nat, k < n → K (C k) = 2 ∧ (K (C k + 1) = 16 → K (C k + 2) = 2)) ∧ ∀ i : Nat, K i = 2 → 0 ≤ V i ∧ V i < (N : Int)
def HDr (K P V : Nat → Int) (C : Nat → Nat) (c n : Nat) (r : ms_M) : Prop := TBq K P c r ∧ NMr K V c r ∧ r 160 24 = (n : Int) ∧ ∀ k : Nat, k < n → r 178 k = (C k : Int) ∧ ((K (C k + 1) = 16 ∧ r 179 k = ((C k + 2 : Nat) : Int)) ∨ (¬ K (C k + 1) = 16 ∧ r 179 k = -1))
def HDc (K P V : Nat → Int) (C : Nat → Nat) (c n : Nat) (h : ms_M) : Prop := TBc K P c h ∧ VLc K V c h ∧ h 11 2 = (n : Int) ∧ ∀ k : Nat, k < n → h 15 k = (C k : Int)
/-- what the names mean: row 16 of the class -/
def NCl (V : Nat → Int) (C : Nat → Nat) (n N : Nat) (h : ms_M) : Prop := ∀ x : Nat, x < N → CLz (fun k => V (C k)) n (x : Int) (h 16 x)
section
variable {nn : Nat} {K P V : Nat → Int} {C : Nat → Nat} {c n N : Nat} {h g r w u v : ms_M}
theorem nmr_of {A : Nat → Int} {n : Nat} (H : TKFn A n u v) : NMr (kn_T u) (u 5) (u 2 3).toNat v ∧ VLc (kn_T u) (u 5) (u 2 3).toNat u ∧ ∀ i : Nat, i < (u 2 3).toNat → kn_T u i = 2 → 0 ≤ u 5 i ∧ u 5 i < u 2 9 := by
  obtain ⟨T, KT, ⟨t1, t2⟩, ⟨⟨c1, c2⟩, c3⟩, e4, tr, ⟨n1, n2⟩, po⟩ := H
  have ki : ∀ i : Nat, i < (u 2 3).toNat → kn_T u i = u 3 i := fun i hi => by unfold kn_T; rw [if_pos (by omega)]
  have G : ∀ i : Nat, i < (u 2 3).toNat → kn_T u i = 2 → ∃ j : Nat, u 5 i = (j : Int) ∧ (j : Int) < u 2 9 ∧ NMt u j (v 165 i) (fun k => v 162 ((v 164 i).toNat + k)) ∧ (1 ≤ v 165 i ∧ v 165 i ≤ 12) ∧ (0 ≤ v 164 i ∧ v 164 i + v 165 i ≤ 3000) ∧ ∀ k : Nat, (k : Int) < v 165 i → ¬ v 162 ((v 164 i).toNat + k) = 32 := fun i hi k2 => (t2 i (by omega)).2.2.2.2.2.2 (by rw [← ki i hi]; exact k2)
  refine ⟨⟨fun i hi k2 => ?_, fun i j hi hj k2 k3 => ?_⟩, fun i hi k2 => rfl, fun i hi k2 => by obtain ⟨j, e, lj, -⟩ := G i hi k2; omega⟩
  · obtain ⟨j, e, lj, N, b1, b2, ns⟩ := G i hi k2
    refine ⟨by omega, b1, b2, fun w S => ?_, fun w S => ?_⟩
    · rcases am_id kw_3 (by decide) T KT b1.1 lj N ns S with ⟨a, b⟩ | ⟨y, a, b, d⟩
      · exact .inl ⟨a, by omega⟩
      · exact .inr ⟨by omega, by omega⟩
    · rcases am_id kw_4 (by decide) T KT b1.1 lj N ns S with ⟨a, b⟩ | ⟨y, a, b, d⟩
      · exact .inl ⟨a, by omega⟩
      · exact .inr ⟨by omega, by omega⟩
  · obtain ⟨x, ex, lx, Nx, -, -, -⟩ := G i hi k2
    obtain ⟨y, ey, ly, Ny, -, -, -⟩ := G j hj k3
    refine ⟨fun q => ?_, fun q => ?_⟩
    · have xy : x = y := by omega
      subst xy
      have l2 : v 165 i = v 165 j := Nx.1.symm.trans Ny.1
      exact ⟨l2, fun k hk => (Nx.2 k hk).symm.trans (Ny.2 k (by omega))⟩
    · have N2 : NMt u y (v 165 i) (fun k => v 162 ((v 164 i).toNat + k)) := ⟨by rw [q.1]; exact Ny.1, fun k hk => by
        have a := Ny.2 k (by rw [← q.1]; exact hk)
        have b := q.2 k hk
        exact a.trans b.symm⟩
      rw [ex, ey, nt_eq T lx ly Nx N2]
theorem ams_k {a n0 : Nat} {p m x : Int} (e : ∀ k, v 162 k = r 162 k) (S : AMS a n0 p m v x) : AMS a n0 p m r x := by
  have E : v 162 = r 162 := funext e
  have M : ∀ k, MA_ a n0 p m v k → MA_ a n0 p m r k := fun k q => by
    unfold MA_ at q ⊢
    rw [E] at q
    exact q
  have M2 : ∀ k, MA_ a n0 p m r k → MA_ a n0 p m v k := fun k q => by
    unfold MA_ at q ⊢
    rw [E]
    exact q
  rcases S with ⟨a1, a2⟩ | ⟨k, a1, a2⟩
  · exact .inl ⟨a1, fun k q => a2 k (M2 k q)⟩
  · exact .inr ⟨k, M k a1, a2⟩
theorem nmr_k (H : NMr K V c r) (e : ∀ cc x : Nat, cc = 162 ∨ cc = 164 ∨ cc = 165 → v cc x = r cc x) : NMr K V c v := by
  refine ⟨fun i hi ki => ?_, fun i j hi hj ki kj => ?_⟩
  · obtain ⟨a1, a2, a3, a4, a5⟩ := H.1 i hi ki
    rw [e 164 i (by omega), e 165 i (by omega)]
    exact ⟨a1, a2, a3, fun x S => a4 x (ams_k (fun k => e 162 k (by omega)) S), fun x S => a5 x (ams_k (fun k => e 162 k (by omega)) S)⟩
  · rw [e 164 i (by omega), e 165 i (by omega), e 164 j (by omega), e 165 j (by omega)]
    refine (H.2 i j hi hj ki kj).trans ⟨fun q => ⟨q.1, fun k hk => ?_⟩, fun q => ⟨q.1, fun k hk => ?_⟩⟩
    · rw [e 162 _ (by omega), e 162 _ (by omega)]; exact q.2 k hk
    · have z := q.2 k hk
      rw [e 162 _ (by omega), e 162 _ (by omega)] at z; exact z
theorem like_24 {i j : Nat} (b1 : 0 ≤ r 164 i ∧ r 164 i ≤ 3000) (b2 : 0 ≤ r 164 j ∧ r 164 j ≤ 3000) (b3 : r 165 i ≤ 12) : ∀ (f l : Nat) (l3 : Int), ((l3 = 1 ∧ r 165 i = r 165 j ∧ ∀ k : Nat, k < l → (k : Int) < r 165 i → r 162 ((r 164 i).toNat + k) = r 162 ((r 164 j).toNat + k)) ∨ (l3 = 0 ∧ ¬ LKE r i j)) → Pc (qw_X13_isLike_24 nn f (i : Int) (j : Int) l3 (l : Int) r) (fun u => (u = 1 ∧ LKE r i j) ∨ (u = 0 ∧ ¬ LKE r i j)) := by
  intro f
  induction f with
  | zero => intros; exact pc_none
  | succ f ih =>
    intro l l3 H
    unfold qw_X13_isLike_24
    refine pc_rA ?_; intro _ _ v2 e2
    rw [Int.toNat_natCast] at e2
    refine pc_if (fun z => ?_) (fun z => ?_)
    · refine pc_ck (fun _ => pc_ret ?_)
      rcases H with ⟨a, b, d⟩ | ⟨a, b⟩
      · exact .inl ⟨a, b, fun k hk => d k (by omega) hk⟩
      · exact .inr ⟨a, b⟩
    · refine pc_if (fun z2 => ?_) (fun z2 => ?_)
      · refine pc_ck (fun _ => pc_ret ?_)
        rcases H with ⟨a, b, d⟩ | ⟨a, b⟩
        · exact absurd z2 (by omega)
        · exact .inr ⟨a, b⟩
      · rcases H with ⟨a, b, d⟩ | ⟨a, _⟩
        · refine pc_rA ?_; intro _ _ v7 e7
          rw [Int.toNat_natCast] at e7
          refine pc_add (by omega) ?_; intro v8 e8
          refine pc_rA ?_; intro _ _ v9 e9
          refine pc_rA ?_; intro _ _ v12 e12
          rw [Int.toNat_natCast] at e12
          refine pc_add (by omega) ?_; intro v13 e13
          refine pc_rA ?_; intro _ _ v14 e14
          rw [show v8.toNat = (r 164 i).toNat + l by omega] at e9
          rw [show v13.toNat = (r 164 j).toNat + l by omega] at e14
          refine pc_if (fun y => ?_) (fun y => ?_)
          · refine pc_add (by omega) ?_; intro v15 e15
            rw [show v15 = ((l + 1 : Nat) : Int) by omega]
            refine ih (l + 1) 0 (.inr ⟨rfl, fun q => y ?_⟩)
            rw [e9, e14]; exact q.2 l (by omega)
          · refine pc_add (by omega) ?_; intro v15 e15
            rw [show v15 = ((l + 1 : Nat) : Int) by omega]
            refine ih (l + 1) 1 (.inl ⟨rfl, b, fun k hk hk2 => ?_⟩)
            by_cases kl : k = l
            · rw [kl, ← e9, ← e14]; exact Classical.byContradiction y
            · exact d k (by omega) hk2
        · exact absurd a z2
theorem r_like (H : NMr K V c r) {i j : Nat} (hi : i < c) (hj : j < c) (ki : K i = 2) (kj : K j = 2) {x y : Int} (hx : x = (i : Int)) (hy : y = (j : Int)) : Pc (qf_X13_isLike nn x y r) (fun u => (u = 1 ∧ V i = V j) ∨ (u = 0 ∧ ¬ V i = V j)) := by
  subst hx; subst hy
  obtain ⟨-, a2, a3, -, -⟩ := H.1 i hi ki
  obtain ⟨-, b2, b3, -, -⟩ := H.1 j hj kj
  have E : V i = V j ↔ LKE r i j := H.2 i j hi hj ki kj
  have Z : ∀ x : Int, ((x = 1 ∧ LKE r i j) ∨ (x = 0 ∧ ¬ LKE r i j)) → (x = 1 ∧ V i = V j) ∨ (x = 0 ∧ ¬ V i = V j) := fun x q => by
    rcases q with ⟨q1, q2⟩ | ⟨q1, q2⟩
    · exact .inl ⟨q1, E.mpr q2⟩
    · exact .inr ⟨q1, fun z => q2 (E.mp z)⟩
  unfold qf_X13_isLike
  refine pc_rA ?_; intro _ _ v21 e21
  refine pc_rA ?_; intro _ _ v23 e23
  rw [Int.toNat_natCast] at e21 e23
  refine pc_if (fun z => ?_) (fun z => ?_)
  · exact pc_imp (like_24 (i := i) (j := j) (by omega) (by omega) (by omega) nn 0 0 (.inr ⟨rfl, fun q => z (by rw [e21, e23]; exact q.1)⟩)) (fun x q => Z x q)
  · exact pc_imp (like_24 (i := i) (j := j) (by omega) (by omega) (by omega) nn 0 1 (.inl ⟨rfl, by omega, fun k hk => absurd hk (by omega)⟩)) (fun x q => Z x q)
theorem cls_d {W : Nat → Int} {x y z : Int} (A : CLz W n x y) (B : CLz W n x z) : y = z := by
  rcases A with ⟨a1, a2⟩ | ⟨a1, ⟨k, a2, a3, a4, a5⟩ | ⟨a2, a3⟩⟩
  · rcases B with ⟨b1, b2⟩ | ⟨b1, _⟩
    · omega
    · omega
  · rcases B with ⟨b1, b2⟩ | ⟨b1, ⟨j, b2, b3, b4, b5⟩ | ⟨b2, b3⟩⟩
    · omega
    · by_cases q : k = j
      · omega
      · by_cases q2 : k < j
        · exact absurd a3 (b4 k q2)
        · exact absurd b3 (a4 j (by omega))
    · exact absurd a3 (b3 k a2)
  · rcases B with ⟨b1, b2⟩ | ⟨b1, ⟨j, b2, b3, b4, b5⟩ | ⟨b2, b3⟩⟩
    · omega
    · exact absurd b3 (a3 j b2)
    · omega
theorem cls_b {W : Nat → Int} {x y : Int} (A : CLz W n x y) (hx : 0 ≤ x) : -1 ≤ y ∧ y < 8 + (n : Int) := by
  rcases A with ⟨a1, a2⟩ | ⟨a1, ⟨k, a2, a3, a4, a5⟩ | ⟨a2, a3⟩⟩ <;> omega
theorem cls_s {W : Nat → Int} {k : Nat} {x y : Int} (A : CLz W k x y) (q : ¬ W k = x ∨ ¬ y = -1) : CLz W (k + 1) x y := by
  rcases A with ⟨a1, a2⟩ | ⟨a1, ⟨j, a2, a3, a4, a5⟩ | ⟨a2, a3⟩⟩
  · exact .inl ⟨a1, a2⟩
  · exact .inr ⟨a1, .inl ⟨j, by omega, a3, a4, a5⟩⟩
  · refine .inr ⟨a1, .inr ⟨a2, fun j hj => ?_⟩⟩
    by_cases jk : j = k
    · rw [jk]; rcases q with q | q
      · exact q
      · exact absurd a2 q
    · exact a3 j (by omega)
theorem cls_n {W : Nat → Int} {k : Nat} {x : Int} (A : CLz W k x (-1)) (h0 : 0 ≤ x) (q : W k = x) : CLz W (k + 1) x (8 + (k : Int)) := by
  rcases A with ⟨a1, a2⟩ | ⟨a1, ⟨j, a2, a3, a4, a5⟩ | ⟨a2, a3⟩⟩
  · omega
  · omega
  · exact .inr ⟨a1, .inl ⟨k, by omega, q, fun j hj => a3 j hj, rfl⟩⟩
theorem hdr_k (H : HDr K P V C c n r) (e : ∀ cc x : Nat, (162 ≤ cc ∧ cc ≤ 166) ∨ cc = 178 ∨ cc = 179 ∨ (cc = 160 ∧ x = 24) → v cc x = r cc x) : HDr K P V C c n v := by
  obtain ⟨⟨b1, b2, b3, b4⟩, H2, H3, H4⟩ := H
  refine ⟨⟨fun i hi => by rw [e 163 i (by omega)]; exact b1 i hi, fun i hi => by rw [e 164 i (by omega)]; exact b2 i hi, fun i i1 i2 => by rw [e 166 i (by omega)]; exact b3 i i1 i2, fun i i1 => by rw [e 166 i (by omega)]; exact b4 i i1⟩, nmr_k H2 (fun cc x q => e cc x (by omega)), by rw [e 160 24 (by omega)]; exact H3, fun k hk => by rw [e 178 k (by omega), e 179 k (by omega)]; exact H4 k hk⟩
theorem hdc_k (H : HDc K P V C c n h) (e : ∀ cc x : Nat, cc = 3 ∨ cc = 4 ∨ cc = 5 ∨ cc = 15 ∨ (cc = 2 ∧ x = 3) ∨ (cc = 11 ∧ x = 2) → g cc x = h cc x) : HDc K P V C c n g := by
  obtain ⟨⟨b1, b2⟩, H2, H3, H4⟩ := H
  exact ⟨⟨by rw [e 2 3 (by omega)]; exact b1, fun i hi => by rw [e 3 i (by omega), e 4 i (by omega)]; exact b2 i hi⟩, fun i hi ki => by rw [e 5 i (by omega)]; exact H2 i hi ki, by rw [e 11 2 (by omega)]; exact H3, fun k hk => by rw [e 15 k (by omega)]; exact H4 k hk⟩
/-- a token that is something lies ahead of the end -/
theorem tb_lt (BK : TBn K c) {i : Nat} (q : ¬ K i = 0) : i < c := Classical.byContradiction fun z => q (BK.1 i (by omega))
theorem r_28 (BK : TBn K c) (S : CKd K V C n N) (H : HDr K P V C c n r) {t : Nat} (kt : K t = 2) (v8 : 8 ≤ V t) : ∀ (f k : Nat), k ≤ n → (∀ j : Nat, j < k → ¬ V (C j) = V t) → Pc (qw_X13_classOf_28 nn f (t : Int) (k : Int) r) (fun u => CLz (fun k => V (C k)) n (V t) u) := by
  intro f
  induction f with
  | zero => intros; exact pc_none
  | succ f ih =>
    intro k hk A
    unfold qw_X13_classOf_28
    have e24 := H.2.2.1
    have s1 := S.1
    refine pc_if (fun z => ?_) (fun z => ?_)
    · refine pc_ret (.inr ⟨v8, .inr ⟨rfl, fun j hj => A j (by omega)⟩⟩)
    · refine pc_rA ?_; intro _ _ v3 e3
      rw [Int.toNat_natCast, (H.2.2.2 k (by omega)).1] at e3
      have kk := (S.2.1 k (by omega)).1
      refine pc_sv (r_like H.2.1 (tb_lt BK (by omega)) (tb_lt BK (by omega)) kk kt e3 rfl) ?_; intro u5 q5
      refine pc_if (fun z5 => ?_) (fun z5 => ?_)
      · refine pc_add (by omega) ?_; intro v6 e6
        rw [show v6 = ((k + 1 : Nat) : Int) by omega]
        refine ih (k + 1) (by omega) (fun j hj => ?_)
        by_cases jk : j = k
        · rw [jk]; rcases q5 with ⟨a, b⟩ | ⟨a, b⟩
          · omega
          · exact b
        · exact A j (by omega)
      · refine pc_add (by omega) ?_; intro v7 e7
        refine pc_ret (.inr ⟨v8, .inl ⟨k, by omega, ?_, A, e7⟩⟩)
        rcases q5 with ⟨a, b⟩ | ⟨a, b⟩
        · exact b
        · exact absurd a z5
theorem r_classOf (BK : TBn K c) (S : CKd K V C n N) (H : HDr K P V C c n r) {t : Nat} (kt : K t = 2) {x : Int} (hx : x = (t : Int)) : Pc (qf_X13_classOf nn x r) (fun u => CLz (fun k => V (C k)) n (V t) u) := by
  subst hx
  obtain ⟨a1, a2, a3, a4, -⟩ := H.2.1.1 t (tb_lt BK (by omega)) kt
  unfold qf_X13_classOf
  refine pc_rA ?_; intro _ _ v11 e11
  refine pc_rA ?_; intro _ _ v13 e13
  rw [Int.toNat_natCast] at e11 e13
  refine pc_sv (aq_c XT_3 (by omega) (by omega)) ?_; intro u15 q15
  rw [e11, e13] at q15
  rcases a4 u15 q15 with ⟨b1, b2⟩ | ⟨b1, b2⟩
  · refine pc_if (fun _ => ?_) (fun z => absurd z (by omega))
    exact r_28 BK S H kt b2 nn 0 (by omega) (fun j hj => absurd hj (by omega))
  · refine pc_if (fun z => absurd z (by omega)) (fun _ => ?_)
    exact pc_ret (.inl ⟨b2, b1⟩)
/- the class -/
theorem c_valueAt (BK : TBn K c) (B : TBc K P c h) (L : VLc K V c h) {t : Nat} (kt : K t = 2) {x : Int} (hx : x = (t : Int)) : Pc (qf_X9_valueAt nn x h) (fun u => u = V t) := by
  subst hx
  have b1 := B.1
  have tc := tb_lt BK (i := t) (by omega)
  unfold qf_X9_valueAt
  refine pc_if (fun z => absurd z (by omega)) (fun _ => ?_)
  refine pc_if (fun z => absurd z (by omega)) (fun _ => ?_)
  refine pc_rA ?_; intro _ _ v3 e3
  rw [Int.toNat_natCast, L t tc kt] at e3
  exact pc_ret e3
theorem c_classAt (BK : TBn K c) (S : CKd K V C n N) (B : TBc K P c h) (L : VLc K V c h) (NC : NCl V C n N h) {t : Nat} (kt : K t = 2) {x : Int} (hx : x = (t : Int)) : Pc (qf_X2_classAt nn x h) (fun u => CLz (fun k => V (C k)) n (V t) u) := by
  unfold qf_X2_classAt
  have s1 := S.1
  have vt := S.2.2 t kt
  refine pc_sv (c_valueAt BK B L kt hx) ?_; intro u3 q3
  refine pc_sv (c_kindAt BK B hx) ?_; intro u6 q6
  refine pc_if (fun z => absurd (q6.trans kt) z) (fun _ => ?_)
  refine pc_if (fun z => absurd z (by omega)) (fun _ => ?_)
  refine pc_rA ?_; intro _ _ v10 e10
  have E := NC (V t).toNat (by omega)
  rw [show u3.toNat = (V t).toNat by omega] at e10
  rw [← e10, show (((V t).toNat : Nat) : Int) = V t by omega] at E
  exact pc_ret E
theorem nc_47 (BK : TBn K c) (S : CKd K V C n N) : ∀ (f k : Nat) (h : ms_M), HDc K P V C c n h → k ≤ n → (∀ x : Nat, x < N → CLz (fun k => V (C k)) k (x : Int) (h 16 x)) → Pc (qw_X2_nameClasses_47 nn f (k : Int) h) (fun u => NCl V C n N u ∧ ∀ cc x : Nat, ¬ cc = 16 → u cc x = h cc x) := by
  intro f
  induction f with
  | zero => intros; exact pc_none
  | succ f ih =>
    intro k h H hk A
    unfold qw_X2_nameClasses_47
    have e2 := H.2.2.1
    have s1 := S.1
    refine pc_if (fun z => ?_) (fun z => ?_)
    · have kn : k = n := by omega
      exact pc_ret ⟨fun x hx => by have z := A x hx; rw [kn] at z; exact z, fun _ _ _ => rfl⟩
    · refine pc_rA ?_; intro _ _ v4 e4
      rw [Int.toNat_natCast, H.2.2.2 k (by omega)] at e4
      have kk := (S.2.1 k (by omega)).1
      have vk := S.2.2 _ kk
      refine pc_sv (c_valueAt BK H.1 H.2.1 kk e4) ?_; intro u6 q6
      refine pc_if (fun z => absurd z (by omega)) (fun _ => ?_)
      refine pc_rA ?_; intro _ _ v11 e11
      have A0 := A u6.toNat (by omega)
      rw [← e11, show ((u6.toNat : Nat) : Int) = V (C k) by omega] at A0
      refine pc_if (fun z11 => ?_) (fun z11 => ?_)
      · refine pc_add (by omega) ?_; intro v12 e12
        rw [show v12 = ((k + 1 : Nat) : Int) by omega]
        refine ih (k + 1) h H (by omega) (fun x hx => cls_s (A x hx) ?_)
        by_cases q : (x : Int) = V (C k)
        · refine .inr ?_
          rw [show x = u6.toNat by omega, ← e11]; exact z11
        · exact .inl (fun z => q z.symm)
      · have m1 : v11 = -1 := Classical.byContradiction z11
        refine pc_add (by omega) ?_; intro v14 e14
        refine pc_wA ?_; intro _ _ h15 e15
        refine pc_add (by omega) ?_; intro v16 e16
        rw [show v16 = ((k + 1 : Nat) : Int) by omega]
        refine pc_imp (ih (k + 1) h15 (hdc_k H (fun cc x q => by rw [e15, up_n (by omega)])) (by omega) (fun x hx => ?_)) (fun u q => ⟨q.1, fun cc x z => by rw [q.2 cc x z, e15, up_n (by omega)]⟩)
        by_cases q : x = u6.toNat
        · rw [q, e15, up_s, e14, show ((u6.toNat : Nat) : Int) = V (C k) by omega]
          rw [m1] at A0
          exact cls_n A0 vk.1 rfl
        · rw [e15, up_n (by omega)]
          exact cls_s (A x hx) (.inl (fun z => q (by omega)))
theorem nc_2 (BK : TBn K c) (S : CKd K V C n N) : ∀ (f l : Nat) (h : ms_M), HDc K P V C c n h → h 2 9 = (N : Int) → l ≤ N → (∀ x : Nat, x < l → h 16 x = if x < 8 then (x : Int) else -1) → Pc (qw_X2_nameClasses_2 nn f (l : Int) h) (fun u => NCl V C n N u ∧ ∀ cc x : Nat, ¬ cc = 16 → u cc x = h cc x) := by
  intro f
  induction f with
  | zero => intros; exact pc_none
  | succ f ih =>
    intro l h H h9 hl A
    unfold qw_X2_nameClasses_2
    have s1 := S.1
    have E : l = N → Pc (qw_X2_nameClasses_47 nn nn 0 h) (fun u => NCl V C n N u ∧ ∀ cc x : Nat, ¬ cc = 16 → u cc x = h cc x) := fun lN => by
      refine nc_47 BK S nn 0 h H (by omega) (fun x hx => ?_)
      rw [A x (by omega)]
      by_cases q : x < 8
      · rw [if_pos q]; exact .inl ⟨by omega, rfl⟩
      · rw [if_neg q]; exact .inr ⟨by omega, .inr ⟨rfl, fun k hk => absurd hk (by omega)⟩⟩
    refine pc_if (fun z => E (by omega)) (fun z => ?_)
    refine pc_if (fun z => absurd z (by omega)) (fun _ => ?_)
    refine pc_if (fun z8 => ?_) (fun z8 => ?_)
    · refine pc_wA ?_; intro _ _ h25 e25
      rw [Int.toNat_natCast] at e25
      refine pc_add (by omega) ?_; intro v26 e26
      rw [show v26 = ((l + 1 : Nat) : Int) by omega]
      refine pc_imp (ih (l + 1) h25 (hdc_k H (fun cc x q => by rw [e25, up_n (by omega)])) (by rw [e25, up_n (by omega)]; exact h9) (by omega) (fun x hx => ?_)) (fun u q => ⟨q.1, fun cc x z => by rw [q.2 cc x z, e25, up_n (by omega)]⟩)
      by_cases q : x = l
      · rw [q, e25, up_s, if_neg (by omega)]
      · rw [e25, up_n (by omega)]; exact A x (by omega)
    · refine pc_wA ?_; intro _ _ h25 e25
      rw [Int.toNat_natCast] at e25
      refine pc_add (by omega) ?_; intro v26 e26
      rw [show v26 = ((l + 1 : Nat) : Int) by omega]
      refine pc_imp (ih (l + 1) h25 (hdc_k H (fun cc x q => by rw [e25, up_n (by omega)])) (by rw [e25, up_n (by omega)]; exact h9) (by omega) (fun x hx => ?_)) (fun u q => ⟨q.1, fun cc x z => by rw [q.2 cc x z, e25, up_n (by omega)]⟩)
      by_cases q : x = l
      · rw [q, e25, up_s, if_pos (by omega)]
      · rw [e25, up_n (by omega)]; exact A x (by omega)
theorem c_nameClasses (BK : TBn K c) (S : CKd K V C n N) (H : HDc K P V C c n h) (h9 : h 2 9 = (N : Int)) : Pc (qf_X2_nameClasses nn h) (fun u => NCl V C n N u ∧ ∀ cc x : Nat, ¬ cc = 16 → u cc x = h cc x) := by
  unfold qf_X2_nameClasses
  exact nc_2 BK S nn 0 h H h9 (by omega) (fun x hx => absurd hx (by omega))
end
