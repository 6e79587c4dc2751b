section
/- HEADS: names and classes of both sides -/
/-- the tokens' names in the reference: V numbers them -/
def NMr (K V : Nat → Int) (c : Nat) (r : ms_M) : Prop := (∀ i : Nat, i < c → K i = 2 → (0 ≤ V i ∧ V i < 1532) ∧ (1 ≤ r 165 i ∧ r 165 i ≤ 12) ∧ (0 ≤ r 164 i ∧ r 164 i + r 165 i ≤ 3000) ∧ (∀ u : Int, AMS (1000000000 + 3) 77 (r 164 i) (r 165 i) r u → (u = -1 ∧ 8 ≤ V i) ∨ (u = V i ∧ V i < 8)) ∧ (∀ u : Int, AMS (1000000000 + 4) 8 (r 164 i) (r 165 i) r u → (u = -1 ∧ ¬ V i = 8) ∨ (u = 0 ∧ V i = 8))) ∧ ∀ i j : Nat, i < c → j < c → K i = 2 → K j = 2 → (V i = V j ↔ (r 165 i = r 165 j ∧ ∀ k : Nat, (k : Int) < r 165 i → r 162 ((r 164 i).toNat + k) = r 162 ((r 164 j).toNat + k)))
/-- .. and in the class -/
def VLc (K V : Nat → Int) (c : Nat) (h : ms_M) : Prop := ∀ i : Nat, i < c → K i = 2 → h 5 i = V i
/-- two tokens of the reference spell the same -/
def LKE (r : ms_M) (i j : Nat) : Prop := r 165 i = r 165 j ∧ ∀ k : Nat, (k : Int) < r 165 i → r 162 ((r 164 i).toNat + k) = r 162 ((r 164 j).toNat + k)
/-- the class (its number or -1) that a name x means; W: the classes' names -/
def CLz (W : Nat → Int) (n : Nat) (x u : Int) : Prop := (x < 8 ∧ u = x) ∨ (8 ≤ x ∧ ((∃ k : Nat, k < n ∧ W k = x ∧ (∀ j : Nat, j < k → ¬ W j = x) ∧ u = 8 + (k : Int)) ∨ (u = -1 ∧ ∀ k : Nat, k < n → ¬ W k = x)))
/-- the classes of the text: C their names' tokens -/
def CKd (K V : Nat → Int) (C : Nat → Nat) (n N : Nat) : Prop := ((1 ≤ n ∧ n ≤ 334) ∧ 32 ≤ N ∧ N ≤ 1532) ∧ (∀ k : Nat, k < n → K (C k) = 2 ∧ (K (C k + 1) = 16 → K (C k + 2) = 2)) ∧ ∀ i : Nat, K i = 2 → 0 ≤ V i ∧ V i < (N : Int)
def HDr (K P V : Nat → Int) (C : Nat → Nat) (c n : Nat) (r : ms_M) : Prop := TBq K P c r ∧ NMr K V c r ∧ r 160 24 = (n : Int) ∧ ∀ k : Nat, k < n → r 178 k = (C k : Int) ∧ ((K (C k + 1) = 16 ∧ r 179 k = ((C k + 2 : Nat) : Int)) ∨ (¬ K (C k + 1) = 16 ∧ r 179 k = -1))
def HDc (K P V : Nat → Int) (C : Nat → Nat) (c n : Nat) (h : ms_M) : Prop := TBc K P c h ∧ VLc K V c h ∧ h 11 2 = (n : Int) ∧ ∀ k : Nat, k < n → h 15 k = (C k : Int)
/-- what the names mean: row 16 of the class -/
def NCl (V : Nat → Int) (C : Nat → Nat) (n N : Nat) (h : ms_M) : Prop := ∀ x : Nat, x < N → CLz (fun k => V (C k)) n (x : Int) (h 16 x)
section
variable {nn : Nat} {K P V : Nat → Int} {C : Nat → Nat} {c n N : Nat} {h g r w u v : ms_M}
theorem nmr_of {A : Nat → Int} {n : Nat} (H : TKFn A n u v) : NMr (kn_T u) (u 5) (u 2 3).toNat v ∧ VLc (kn_T u) (u 5) (u 2 3).toNat u ∧ ∀ i : Nat, i < (u 2 3).toNat → kn_T u i = 2 → 0 ≤ u 5 i ∧ u 5 i < u 2 9 := by
  obtain ⟨T, KT, ⟨t1, t2⟩, ⟨⟨c1, c2⟩, c3⟩, e4, tr, ⟨n1, n2⟩, po⟩ := H
  have ki : ∀ i : Nat, i < (u 2 3).toNat → kn_T u i = u 3 i := fun i hi => by unfold kn_T; rw [if_pos (by omega)]
  have G : ∀ i : Nat, i < (u 2 3).toNat → kn_T u i = 2 → ∃ j : Nat, u 5 i = (j : Int) ∧ (j : Int) < u 2 9 ∧ NMt u j (v 165 i) (fun k => v 162 ((v 164 i).toNat + k)) ∧ (1 ≤ v 165 i ∧ v 165 i ≤ 12) ∧ (0 ≤ v 164 i ∧ v 164 i + v 165 i ≤ 3000) ∧ ∀ k : Nat, (k : Int) < v 165 i → ¬ v 162 ((v 164 i).toNat + k) = 32 := fun i hi k2 => (t2 i (by omega)).2.2.2.2.2.2 (by rw [← ki i hi]; exact k2)
  refine ⟨⟨fun i hi k2 => ?_, fun i j hi hj k2 k3 => ?_⟩, fun i hi k2 => rfl, fun i hi k2 => by obtain ⟨j, e, lj, -⟩ := G i hi k2; omega⟩
  · obtain ⟨j, e, lj, N, b1, b2, ns⟩ := G i hi k2
    refine ⟨by omega, b1, b2, fun w S => ?_, fun w S => ?_⟩
    · rcases am_id kw_3 (by decide) T KT b1.1 lj N ns S with ⟨a, b⟩ | ⟨y, a, b, d⟩
      · exact .inl ⟨a, by omega⟩
      · exact .inr ⟨by omega, by omega⟩
    · rcases am_id kw_4 (by decide) T KT b1.1 lj N ns S with ⟨a, b⟩ | ⟨y, a, b, d⟩
      · exact .inl ⟨a, by omega⟩
      · exact .inr ⟨by omega, by omega⟩
  · obtain ⟨x, ex, lx, Nx, -, -, -⟩ := G i hi k2
    obtain ⟨y, ey, ly, Ny, -, -, -⟩ := G j hj k3
    refine ⟨fun q => ?_, fun q => ?_⟩
    · have xy : x = y := by omega
      subst xy
      have l2 : v 165 i = v 165 j := Nx.1.symm.trans Ny.1
      exact ⟨l2, fun k hk => (Nx.2 k hk).symm.trans (Ny.2 k (by omega))⟩
    · have N2 : NMt u y (v 165 i) (fun k => v 162 ((v 164 i).toNat + k)) := ⟨by rw [q.1]; exact Ny.1, fun k hk => by
        have a := Ny.2 k (by rw [← q.1]; exact hk)
        have b := q.2 k hk
        exact a.trans b.symm⟩
      rw [ex, ey, nt_eq T lx ly Nx N2]
theorem ams_k {a n0 : Nat} {p m x : Int} (e : ∀ k, v 162 k = r 162 k) (S : AMS a n0 p m v x) : AMS a n0 p m r x := by
  have E : v 162 = r 162 := funext e
  have M : ∀ k, MA_ a n0 p m v k → MA_ a n0 p m r k := fun k q => by
    unfold MA_ at q ⊢
    rw [E] at q
    exact q
  have M2 : ∀ k, MA_ a n0 p m r k → MA_ a n0 p m v k := fun k q => by
    unfold MA_ at q ⊢
    rw [E]
    exact q
  rcases S with ⟨a1, a2⟩ | ⟨k, a1, a2⟩
  · exact .inl ⟨a1, fun k q => a2 k (M2 k q)⟩
  · exact .inr ⟨k, M k a1, a2⟩
theorem nmr_k (H : NMr K V c r) (e : ∀ cc x : Nat, cc = 162 ∨ cc = 164 ∨ cc = 165 → v cc x = r cc x) : NMr K V c v := by
  refine ⟨fun i hi ki => ?_, fun i j hi hj ki kj => ?_⟩
  · obtain ⟨a1, a2, a3, a4, a5⟩ := H.1 i hi ki
    rw [e 164 i (by omega), e 165 i (by omega)]
    exact ⟨a1, a2, a3, fun x S => a4 x (ams_k (fun k => e 162 k (by omega)) S), fun x S => a5 x (ams_k (fun k => e 162 k (by omega)) S)⟩
  · rw [e 164 i (by omega), e 165 i (by omega), e 164 j (by omega), e 165 j (by omega)]
    refine (H.2 i j hi hj ki kj).trans ⟨fun q => ⟨q.1, fun k hk => ?_⟩, fun q => ⟨q.1, fun k hk => ?_⟩⟩
    · rw [e 162 _ (by omega), e 162 _ (by omega)]; exact q.2 k hk
    · have z := q.2 k hk
      rw [e 162 _ (by omega), e 162 _ (by omega)] at z; exact z
theorem like_24 {i j : Nat} (b1 : 0 ≤ r 164 i ∧ r 164 i ≤ 3000) (b2 : 0 ≤ r 164 j ∧ r 164 j ≤ 3000) (b3 : r 165 i ≤ 12) : ∀ (f l : Nat) (l3 : Int), ((l3 = 1 ∧ r 165 i = r 165 j ∧ ∀ k : Nat, k < l → (k : Int) < r 165 i → r 162 ((r 164 i).toNat + k) = r 162 ((r 164 j).toNat + k)) ∨ (l3 = 0 ∧ ¬ LKE r i j)) → Pc (qw_X13_isLike_24 nn f (i : Int) (j : Int) l3 (l : Int) r) (fun u => (u = 1 ∧ LKE r i j) ∨ (u = 0 ∧ ¬ LKE r i j)) := by
  intro f
  induction f with
  | zero => intros; exact pc_none
  | succ f ih =>
    intro l l3 H
    unfold qw_X13_isLike_24
    refine pc_rA ?_; intro _ _ v2 e2
    rw [Int.toNat_natCast] at e2
    refine pc_if (fun z => ?_) (fun z => ?_)
    · refine pc_ck (fun _ => pc_ret ?_)
      rcases H with ⟨a, b, d⟩ | ⟨a, b⟩
      · exact .inl ⟨a, b, fun k hk => d k (by omega) hk⟩
      · exact .inr ⟨a, b⟩
    · refine pc_if (fun z2 => ?_) (fun z2 => ?_)
      · refine pc_ck (fun _ => pc_ret ?_)
        rcases H with ⟨a, b, d⟩ | ⟨a, b⟩
        · exact absurd z2 (by omega)
        · exact .inr ⟨a, b⟩
      · rcases H with ⟨a, b, d⟩ | ⟨a, _⟩
        · refine pc_rA ?_; intro _ _ v7 e7
          rw [Int.toNat_natCast] at e7
          refine pc_add (by omega) ?_; intro v8 e8
          refine pc_rA ?_; intro _ _ v9 e9
          refine pc_rA ?_; intro _ _ v12 e12
          rw [Int.toNat_natCast] at e12
          refine pc_add (by omega) ?_; intro v13 e13
          refine pc_rA ?_; intro _ _ v14 e14
          rw [show v8.toNat = (r 164 i).toNat + l by omega] at e9
          rw [show v13.toNat = (r 164 j).toNat + l by omega] at e14
          refine pc_if (fun y => ?_) (fun y => ?_)
          · refine pc_add (by omega) ?_; intro v15 e15
            rw [show v15 = ((l + 1 : Nat) : Int) by omega]
            refine ih (l + 1) 0 (.inr ⟨rfl, fun q => y ?_⟩)
            rw [e9, e14]; exact q.2 l (by omega)
          · refine pc_add (by omega) ?_; intro v15 e15
            rw [show v15 = ((l + 1 : Nat) : Int) by omega]
            refine ih (l + 1) 1 (.inl ⟨rfl, b, fun k hk hk2 => ?_⟩)
            by_cases kl : k = l
            · rw [kl, ← e9, ← e14]; exact Classical.byContradiction y
            · exact d k (by omega) hk2
        · exact absurd a z2
theorem r_like (H : NMr K V c r) {i j : Nat} (hi : i < c) (hj : j < c) (ki : K i = 2) (kj : K j = 2) {x y : Int} (hx : x = (i : Int)) (hy : y = (j : Int)) : Pc (qf_X13_isLike nn x y r) (fun u => (u = 1 ∧ V i = V j) ∨ (u = 0 ∧ ¬ V i = V j)) := by
  subst hx; subst hy
  obtain ⟨-, a2, a3, -, -⟩ := H.1 i hi ki
  obtain ⟨-, b2, b3, -, -⟩ := H.1 j hj kj
  have E : V i = V j ↔ LKE r i j := H.2 i j hi hj ki kj
  have Z : ∀ x : Int, ((x = 1 ∧ LKE r i j) ∨ (x = 0 ∧ ¬ LKE r i j)) → (x = 1 ∧ V i = V j) ∨ (x = 0 ∧ ¬ V i = V j) := fun x q => by
    rcases q with ⟨q1, q2⟩ | ⟨q1, q2⟩
    · exact .inl ⟨q1, E.mpr q2⟩
    · exact .inr ⟨q1, fun z => q2 (E.mp z)⟩
  unfold qf_X13_isLike
  refine pc_rA ?_; intro _ _ v21 e21
  refine pc_rA ?_; intro _ _ v23 e23
  rw [Int.toNat_natCast] at e21 e23
  refine pc_if (fun z => ?_) (fun z => ?_)
  · exact pc_imp (like_24 (i := i) (j := j) (by omega) (by omega) (by omega) nn 0 0 (.inr ⟨rfl, fun q => z (by rw [e21, e23]; exact q.1)⟩)) (fun x q => Z x q)
  · exact pc_imp (like_24 (i := i) (j := j) (by omega) (by omega) (by omega) nn 0 1 (.inl ⟨rfl, by omega, fun k hk => absurd hk (by omega)⟩)) (fun x q => Z x q)
theorem cls_d {W : Nat → Int} {x y z : Int} (A : CLz W n x y) (B : CLz W n x z) : y = z := by
  rcases A with ⟨a1, a2⟩ | ⟨a1, ⟨k, a2, a3, a4, a5⟩ | ⟨a2, a3⟩⟩
  · rcases B with ⟨b1, b2⟩ | ⟨b1, _⟩
    · omega
    · omega
  · rcases B with ⟨b1, b2⟩ | ⟨b1, ⟨j, b2, b3, b4, b5⟩ | ⟨b2, b3⟩⟩
    · omega
    · by_cases q : k = j
      · omega
      · by_cases q2 : k < j
        · exact absurd a3 (b4 k q2)
        · exact absurd b3 (a4 j (by omega))
    · exact absurd a3 (b3 k a2)
  · rcases B with ⟨b1, b2⟩ | ⟨b1, ⟨j, b2, b3, b4, b5⟩ | ⟨b2, b3⟩⟩
    · omega
    · exact absurd b3 (a3 j b2)
    · omega
theorem cls_b {W : Nat → Int} {x y : Int} (A : CLz W n x y) (hx : 0 ≤ x) : -1 ≤ y ∧ y < 8 + (n : Int) := by
  rcases A with ⟨a1, a2⟩ | ⟨a1, ⟨k, a2, a3, a4, a5⟩ | ⟨a2, a3⟩⟩ <;> omega
theorem cls_s {W : Nat → Int} {k : Nat} {x y : Int} (A : CLz W k x y) (q : ¬ W k = x ∨ ¬ y = -1) : CLz W (k + 1) x y := by
  rcases A with ⟨a1, a2⟩ | ⟨a1, ⟨j, a2, a3, a4, a5⟩ | ⟨a2, a3⟩⟩
  · exact .inl ⟨a1, a2⟩
  · exact .inr ⟨a1, .inl ⟨j, by omega, a3, a4, a5⟩⟩
  · refine .inr ⟨a1, .inr ⟨a2, fun j hj => ?_⟩⟩
    by_cases jk : j = k
    · rw [jk]; rcases q with q | q
      · exact q
      · exact absurd a2 q
    · exact a3 j (by omega)
theorem cls_n {W : Nat → Int} {k : Nat} {x : Int} (A : CLz W k x (-1)) (h0 : 0 ≤ x) (q : W k = x) : CLz W (k + 1) x (8 + (k : Int)) := by
  rcases A with ⟨a1, a2⟩ | ⟨a1, ⟨j, a2, a3, a4, a5⟩ | ⟨a2, a3⟩⟩
  · omega
  · omega
  · exact .inr ⟨a1, .inl ⟨k, by omega, q, fun j hj => a3 j hj, rfl⟩⟩
theorem hdr_k (H : HDr K P V C c n r) (e : ∀ cc x : Nat, (162 ≤ cc ∧ cc ≤ 166) ∨ cc = 178 ∨ cc = 179 ∨ (cc = 160 ∧ x = 24) → v cc x = r cc x) : HDr K P V C c n v := by
  obtain ⟨⟨b1, b2, b3, b4⟩, H2, H3, H4⟩ := H
  refine ⟨⟨fun i hi => by rw [e 163 i (by omega)]; exact b1 i hi, fun i hi => by rw [e 164 i (by omega)]; exact b2 i hi, fun i i1 i2 => by rw [e 166 i (by omega)]; exact b3 i i1 i2, fun i i1 => by rw [e 166 i (by omega)]; exact b4 i i1⟩, nmr_k H2 (fun cc x q => e cc x (by omega)), by rw [e 160 24 (by omega)]; exact H3, fun k hk => by rw [e 178 k (by omega), e 179 k (by omega)]; exact H4 k hk⟩
theorem hdc_k (H : HDc K P V C c n h) (e : ∀ cc x : Nat, cc = 3 ∨ cc = 4 ∨ cc = 5 ∨ cc = 15 ∨ (cc = 2 ∧ x = 3) ∨ (cc = 11 ∧ x = 2) → g cc x = h cc x) : HDc K P V C c n g := by
  obtain ⟨⟨b1, b2⟩, H2, H3, H4⟩ := H
  exact ⟨⟨by rw [e 2 3 (by omega)]; exact b1, fun i hi => by rw [e 3 i (by omega), e 4 i (by omega)]; exact b2 i hi⟩, fun i hi ki => by rw [e 5 i (by omega)]; exact H2 i hi ki, by rw [e 11 2 (by omega)]; exact H3, fun k hk => by rw [e 15 k (by omega)]; exact H4 k hk⟩
/-- a token that is something lies ahead of the end -/
theorem tb_lt (BK : TBn K c) {i : Nat} (q : ¬ K i = 0) : i < c := Classical.byContradiction fun z => q (BK.1 i (by omega))
theorem r_28 (BK : TBn K c) (S : CKd K V C n N) (H : HDr K P V C c n r) {t : Nat} (kt : K t = 2) (v8 : 8 ≤ V t) : ∀ (f k : Nat), k ≤ n → (∀ j : Nat, j < k → ¬ V (C j) = V t) → Pc (qw_X13_classOf_28 nn f (t : Int) (k : Int) r) (fun u => CLz (fun k => V (C k)) n (V t) u) := by
  intro f
  induction f with
  | zero => intros; exact pc_none
  | succ f ih =>
    intro k hk A
    unfold qw_X13_classOf_28
    have e24 := H.2.2.1
    have s1 := S.1
    refine pc_if (fun z => ?_) (fun z => ?_)
    · refine pc_ret (.inr ⟨v8, .inr ⟨rfl, fun j hj => A j (by omega)⟩⟩)
    · refine pc_rA ?_; intro _ _ v3 e3
      rw [Int.toNat_natCast, (H.2.2.2 k (by omega)).1] at e3
      have kk := (S.2.1 k (by omega)).1
      refine pc_sv (r_like H.2.1 (tb_lt BK (by omega)) (tb_lt BK (by omega)) kk kt e3 rfl) ?_; intro u5 q5
      refine pc_if (fun z5 => ?_) (fun z5 => ?_)
      · refine pc_add (by omega) ?_; intro v6 e6
        rw [show v6 = ((k + 1 : Nat) : Int) by omega]
        refine ih (k + 1) (by omega) (fun j hj => ?_)
        by_cases jk : j = k
        · rw [jk]; rcases q5 with ⟨a, b⟩ | ⟨a, b⟩
          · omega
          · exact b
        · exact A j (by omega)
      · refine pc_add (by omega) ?_; intro v7 e7
        refine pc_ret (.inr ⟨v8, .inl ⟨k, by omega, ?_, A, e7⟩⟩)
        rcases q5 with ⟨a, b⟩ | ⟨a, b⟩
        · exact b
        · exact absurd a z5
theorem r_classOf (BK : TBn K c) (S : CKd K V C n N) (H : HDr K P V C c n r) {t : Nat} (kt : K t = 2) {x : Int} (hx : x = (t : Int)) : Pc (qf_X13_classOf nn x r) (fun u => CLz (fun k => V (C k)) n (V t) u) := by
  subst hx
  obtain ⟨a1, a2, a3, a4, -⟩ := H.2.1.1 t (tb_lt BK (by omega)) kt
  unfold qf_X13_classOf
  refine pc_rA ?_; intro _ _ v11 e11
  refine pc_rA ?_; intro _ _ v13 e13
  rw [Int.toNat_natCast] at e11 e13
  refine pc_sv (aq_c XT_3 (by omega) (by omega)) ?_; intro u15 q15
  rw [e11, e13] at q15
  rcases a4 u15 q15 with ⟨b1, b2⟩ | ⟨b1, b2⟩
  · refine pc_if (fun _ => ?_) (fun z => absurd z (by omega))
    exact r_28 BK S H kt b2 nn 0 (by omega) (fun j hj => absurd hj (by omega))
  · refine pc_if (fun z => absurd z (by omega)) (fun _ => ?_)
    exact pc_ret (.inl ⟨b2, b1⟩)
/- the class -/
theorem c_valueAt (BK : TBn K c) (B : TBc K P c h) (L : VLc K V c h) {t : Nat} (kt : K t = 2) {x : Int} (hx : x = (t : Int)) : Pc (qf_X9_valueAt nn x h) (fun u => u = V t) := by
  subst hx
  have b1 := B.1
  have tc := tb_lt BK (i := t) (by omega)
  unfold qf_X9_valueAt
  refine pc_if (fun z => absurd z (by omega)) (fun _ => ?_)
  refine pc_if (fun z => absurd z (by omega)) (fun _ => ?_)
  refine pc_rA ?_; intro _ _ v3 e3
  rw [Int.toNat_natCast, L t tc kt] at e3
  exact pc_ret e3
theorem c_classAt (BK : TBn K c) (S : CKd K V C n N) (B : TBc K P c h) (L : VLc K V c h) (NC : NCl V C n N h) {t : Nat} (kt : K t = 2) {x : Int} (hx : x = (t : Int)) : Pc (qf_X2_classAt nn x h) (fun u => CLz (fun k => V (C k)) n (V t) u) := by
  unfold qf_X2_classAt
  have s1 := S.1
  have vt := S.2.2 t kt
  refine pc_sv (c_valueAt BK B L kt hx) ?_; intro u3 q3
  refine pc_sv (c_kindAt BK B hx) ?_; intro u6 q6
  refine pc_if (fun z => absurd (q6.trans kt) z) (fun _ => ?_)
  refine pc_if (fun z => absurd z (by omega)) (fun _ => ?_)
  refine pc_rA ?_; intro _ _ v10 e10
  have E := NC (V t).toNat (by omega)
  rw [show u3.toNat = (V t).toNat by omega] at e10
  rw [← e10, show (((V t).toNat : Nat) : Int) = V t by omega] at E
  exact pc_ret E
theorem nc_47 (BK : TBn K c) (S : CKd K V C n N) : ∀ (f k : Nat) (h : ms_M), HDc K P V C c n h → k ≤ n → (∀ x : Nat, x < N → CLz (fun k => V (C k)) k (x : Int) (h 16 x)) → Pc (qw_X2_nameClasses_47 nn f (k : Int) h) (fun u => NCl V C n N u ∧ ∀ cc x : Nat, ¬ cc = 16 → u cc x = h cc x) := by
  intro f
  induction f with
  | zero => intros; exact pc_none
  | succ f ih =>
    intro k h H hk A
    unfold qw_X2_nameClasses_47
    have e2 := H.2.2.1
    have s1 := S.1
    refine pc_if (fun z => ?_) (fun z => ?_)
    · have kn : k = n := by omega
      exact pc_ret ⟨fun x hx => by have z := A x hx; rw [kn] at z; exact z, fun _ _ _ => rfl⟩
    · refine pc_rA ?_; intro _ _ v4 e4
      rw [Int.toNat_natCast, H.2.2.2 k (by omega)] at e4
      have kk := (S.2.1 k (by omega)).1
      have vk := S.2.2 _ kk
      refine pc_sv (c_valueAt BK H.1 H.2.1 kk e4) ?_; intro u6 q6
      refine pc_if (fun z => absurd z (by omega)) (fun _ => ?_)
      refine pc_rA ?_; intro _ _ v11 e11
      have A0 := A u6.toNat (by omega)
      rw [← e11, show ((u6.toNat : Nat) : Int) = V (C k) by omega] at A0
      refine pc_if (fun z11 => ?_) (fun z11 => ?_)
      · refine pc_add (by omega) ?_; intro v12 e12
        rw [show v12 = ((k + 1 : Nat) : Int) by omega]
        refine ih (k + 1) h H (by omega) (fun x hx => cls_s (A x hx) ?_)
        by_cases q : (x : Int) = V (C k)
        · refine .inr ?_
          rw [show x = u6.toNat by omega, ← e11]; exact z11
        · exact .inl (fun z => q z.symm)
      · have m1 : v11 = -1 := Classical.byContradiction z11
        refine pc_add (by omega) ?_; intro v14 e14
        refine pc_wA ?_; intro _ _ h15 e15
        refine pc_add (by omega) ?_; intro v16 e16
        rw [show v16 = ((k + 1 : Nat) : Int) by omega]
        refine pc_imp (ih (k + 1) h15 (hdc_k H (fun cc x q => by rw [e15, up_n (by omega)])) (by omega) (fun x hx => ?_)) (fun u q => ⟨q.1, fun cc x z => by rw [q.2 cc x z, e15, up_n (by omega)]⟩)
        by_cases q : x = u6.toNat
        · rw [q, e15, up_s, e14, show ((u6.toNat : Nat) : Int) = V (C k) by omega]
          rw [m1] at A0
          exact cls_n A0 vk.1 rfl
        · rw [e15, up_n (by omega)]
          exact cls_s (A x hx) (.inl (fun z => q (by omega)))
theorem nc_2 (BK : TBn K c) (S : CKd K V C n N) : ∀ (f l : Nat) (h : ms_M), HDc K P V C c n h → h 2 9 = (N : Int) → l ≤ N → (∀ x : Nat, x < l → h 16 x = if x < 8 then (x : Int) else -1) → Pc (qw_X2_nameClasses_2 nn f (l : Int) h) (fun u => NCl V C n N u ∧ ∀ cc x : Nat, ¬ cc = 16 → u cc x = h cc x) := by
  intro f
  induction f with
  | zero => intros; exact pc_none
  | succ f ih =>
    intro l h H h9 hl A
    unfold qw_X2_nameClasses_2
    have s1 := S.1
    have E : l = N → Pc (qw_X2_nameClasses_47 nn nn 0 h) (fun u => NCl V C n N u ∧ ∀ cc x : Nat, ¬ cc = 16 → u cc x = h cc x) := fun lN => by
      refine nc_47 BK S nn 0 h H (by omega) (fun x hx => ?_)
      rw [A x (by omega)]
      by_cases q : x < 8
      · rw [if_pos q]; exact .inl ⟨by omega, rfl⟩
      · rw [if_neg q]; exact .inr ⟨by omega, .inr ⟨rfl, fun k hk => absurd hk (by omega)⟩⟩
    refine pc_if (fun z => E (by omega)) (fun z => ?_)
    refine pc_if (fun z => absurd z (by omega)) (fun _ => ?_)
    refine pc_if (fun z8 => ?_) (fun z8 => ?_)
    · refine pc_wA ?_; intro _ _ h25 e25
      rw [Int.toNat_natCast] at e25
      refine pc_add (by omega) ?_; intro v26 e26
      rw [show v26 = ((l + 1 : Nat) : Int) by omega]
      refine pc_imp (ih (l + 1) h25 (hdc_k H (fun cc x q => by rw [e25, up_n (by omega)])) (by rw [e25, up_n (by omega)]; exact h9) (by omega) (fun x hx => ?_)) (fun u q => ⟨q.1, fun cc x z => by rw [q.2 cc x z, e25, up_n (by omega)]⟩)
      by_cases q : x = l
      · rw [q, e25, up_s, if_neg (by omega)]
      · rw [e25, up_n (by omega)]; exact A x (by omega)
    · refine pc_wA ?_; intro _ _ h25 e25
      rw [Int.toNat_natCast] at e25
      refine pc_add (by omega) ?_; intro v26 e26
      rw [show v26 = ((l + 1 : Nat) : Int) by omega]
      refine pc_imp (ih (l + 1) h25 (hdc_k H (fun cc x q => by rw [e25, up_n (by omega)])) (by rw [e25, up_n (by omega)]; exact h9) (by omega) (fun x hx => ?_)) (fun u q => ⟨q.1, fun cc x z => by rw [q.2 cc x z, e25, up_n (by omega)]⟩)
      by_cases q : x = l
      · rw [q, e25, up_s, if_pos (by omega)]
      · rw [e25, up_n (by omega)]; exact A x (by omega)
theorem c_nameClasses (BK : TBn K c) (S : CKd K V C n N) (H : HDc K P V C c n h) (h9 : h 2 9 = (N : Int)) : Pc (qf_X2_nameClasses nn h) (fun u => NCl V C n N u ∧ ∀ cc x : Nat, ¬ cc = 16 → u cc x = h cc x) := by
  unfold qf_X2_nameClasses
  exact nc_2 BK S nn 0 h H h9 (by omega) (fun x hx => absurd hx (by omega))
end
end
section
/- HEADS: extends of both sides -/
/-- the class above class k -/
def UPk (K V : Nat → Int) (C : Nat → Nat) (n k : Nat) (u : Int) : Prop := (K (C k + 1) = 16 ∧ CLz (fun k => V (C k)) n (V (C k + 2)) u) ∨ (¬ K (C k + 1) = 16 ∧ u = 0)
def uq_T (U : Nat → Int) (x : Int) : Int := if x = 0 then -1 else if x = 1 then 0 else if 8 ≤ x then U (x - 8).toNat else 1
def ui_T (U : Nat → Int) (x : Int) : Nat → Int
  | 0 => x
  | i + 1 => uq_T U (ui_T U x i)
/-- the way up from class k ends -/
def ENDS (U : Nat → Int) (n k : Nat) : Prop := ∃ i : Nat, i ≤ n + 1 ∧ ui_T U (8 + (k : Int)) i < 8
/-- the first FAULT of class k's head (0: none) -/
def FCH (P V : Nat → Int) (C : Nat → Nat) (U : Nat → Int) (n k : Nat) (e p : Int) : Prop := (8 ≤ k ∧ e = 11 ∧ p = P (C k)) ∨ (k < 8 ∧ ((¬ CLz (fun k => V (C k)) n (V (C k)) (8 + (k : Int)) ∧ e = 4 ∧ p = P (C k)) ∨ (CLz (fun k => V (C k)) n (V (C k)) (8 + (k : Int)) ∧ ((U k = -1 ∧ e = 5 ∧ p = P (C k + 2)) ∨ (¬ U k = -1 ∧ ((¬ ENDS U n k ∧ e = 6 ∧ p = P (C k + 2)) ∨ (ENDS U n k ∧ e = 0)))))))
section
variable {nn : Nat} {K P V U : Nat → Int} {C : Nat → Nat} {c n N : Nat} {h g r w u v : ms_M}
theorem fch_d {k : Nat} {e p e2 p2 : Int} (A : FCH P V C U n k e p) (B : FCH P V C U n k e2 p2) : e = e2 ∧ (¬ e = 0 → p = p2) := by
  rcases A with ⟨a0, a1, a2⟩ | ⟨a0, ⟨a1, a2, a3⟩ | ⟨a1, ⟨a2, a3, a4⟩ | ⟨a2, ⟨a3, a4, a5⟩ | ⟨a3, a4⟩⟩⟩⟩
  · rcases B with ⟨b0, b1, b2⟩ | ⟨b0, _⟩
    · exact ⟨by omega, fun _ => by omega⟩
    · omega
  · rcases B with ⟨b0, b1, b2⟩ | ⟨b0, ⟨b1, b2, b3⟩ | ⟨b1, _⟩⟩
    · omega
    · exact ⟨by omega, fun _ => by omega⟩
    · exact absurd b1 a1
  · rcases B with ⟨b0, b1, b2⟩ | ⟨b0, ⟨b1, b2, b3⟩ | ⟨b1, ⟨b2, b3, b4⟩ | ⟨b2, _⟩⟩⟩
    · omega
    · exact absurd a1 b1
    · exact ⟨by omega, fun _ => by omega⟩
    · exact absurd a2 b2
  · rcases B with ⟨b0, b1, b2⟩ | ⟨b0, ⟨b1, b2, b3⟩ | ⟨b1, ⟨b2, b3, b4⟩ | ⟨b2, ⟨b3, b4, b5⟩ | ⟨b3, b4⟩⟩⟩⟩
    · omega
    · exact absurd a1 b1
    · exact absurd b2 a2
    · exact ⟨by omega, fun _ => by omega⟩
    · exact absurd b3 a3
  · rcases B with ⟨b0, b1, b2⟩ | ⟨b0, ⟨b1, b2, b3⟩ | ⟨b1, ⟨b2, b3, b4⟩ | ⟨b2, ⟨b3, b4, b5⟩ | ⟨b3, b4⟩⟩⟩⟩
    · omega
    · exact absurd a1 b1
    · exact absurd b2 a2
    · exact absurd a3 b3
    · exact ⟨by omega, fun z => absurd a4 z⟩
theorem upk_d {k : Nat} {x y : Int} (A : UPk K V C n k x) (B : UPk K V C n k y) : x = y := by
  rcases A with ⟨a1, a2⟩ | ⟨a1, a2⟩
  · rcases B with ⟨b1, b2⟩ | ⟨b1, b2⟩
    · exact cls_d a2 b2
    · exact absurd a1 b1
  · rcases B with ⟨b1, b2⟩ | ⟨b1, b2⟩
    · exact absurd b1 a1
    · omega
theorem upk_b (S : CKd K V C n N) {k : Nat} (hk : k < n) {x : Int} (A : UPk K V C n k x) : -1 ≤ x ∧ x < 8 + (n : Int) := by
  rcases A with ⟨a1, a2⟩ | ⟨a1, a2⟩
  · exact cls_b a2 (S.2.2 _ ((S.2.1 k hk).2 a1)).1
  · omega
/-- seven pigeons .. -/
theorem pigeon : ∀ (n : Nat) (s : Nat → Nat), (∀ i : Nat, i ≤ n → s i < n) → ∃ i j : Nat, i < j ∧ j ≤ n ∧ s i = s j := by
  intro n
  induction n with
  | zero => intro s H; exact absurd (H 0 (by omega)) (by omega)
  | succ n ih =>
    intro s H
    by_cases q : ∃ i : Nat, i ≤ n ∧ s i = s (n + 1)
    · obtain ⟨i, q1, q2⟩ := q
      exact ⟨i, n + 1, by omega, by omega, q2⟩
    · have q2 : ∀ i : Nat, i ≤ n → ¬ s i = s (n + 1) := fun i hi z => q ⟨i, hi, z⟩
      have a := H (n + 1) (by omega)
      obtain ⟨i, j, h1, h2, h3⟩ := ih (fun i => if s i = n then s (n + 1) else s i) (fun i hi => by
        have b := H i (by omega)
        have d := q2 i hi
        show (if s i = n then s (n + 1) else s i) < n
        by_cases z : s i = n
        · rw [if_pos z]; omega
        · rw [if_neg z]; omega)
      have h4 : (if s i = n then s (n + 1) else s i) = (if s j = n then s (n + 1) else s j) := h3
      refine ⟨i, j, h1, by omega, ?_⟩
      have d1 := q2 i (by omega)
      have d2 := q2 j h2
      by_cases z1 : s i = n
      · by_cases z2 : s j = n
        · omega
        · rw [if_pos z1, if_neg z2] at h4; omega
      · by_cases z2 : s j = n
        · rw [if_neg z1, if_pos z2] at h4; omega
        · rw [if_neg z1, if_neg z2] at h4; exact h4
theorem ui_a {x : Int} : ∀ (d i : Nat), ui_T U x (i + d) = ui_T U (ui_T U x i) d := by
  intro d
  induction d with
  | zero => intro i; rfl
  | succ d ih => intro i; show uq_T U (ui_T U x (i + d)) = uq_T U (ui_T U (ui_T U x i) d); rw [ih]
theorem uq_8 {x : Int} (hx : 8 ≤ x) : uq_T U x = U (x - 8).toNat := by
  unfold uq_T
  rw [if_neg (by omega), if_neg (by omega), if_pos hx]
theorem ui_b (B : ∀ k : Nat, k < n → -1 ≤ U k ∧ U k < 8 + (n : Int)) {x : Int} (hx : x < 8 + (n : Int)) : ∀ i : Nat, (∀ j : Nat, j < i → 8 ≤ ui_T U x j) → ui_T U x i < 8 + (n : Int) := by
  intro i
  induction i with
  | zero => intro _; exact hx
  | succ i ih =>
    intro A
    have a := A i (by omega)
    have b := ih (fun j hj => A j (by omega))
    show uq_T U (ui_T U x i) < _
    rw [uq_8 a]
    exact (B _ (by omega)).2
theorem ui_per {x : Int} {i d : Nat} (e : ui_T U x (i + d) = ui_T U x i) (t : Nat) : ui_T U x (i + d + t) = ui_T U x (i + t) := by
  rw [ui_a t (i + d), e, ← ui_a t i]
/-- if the way up has not left the classes of the text by n + 1 steps it never does -/
theorem ui_8 (B : ∀ k : Nat, k < n → -1 ≤ U k ∧ U k < 8 + (n : Int)) {x : Int} (hx : x < 8 + (n : Int)) (A : ∀ j : Nat, j ≤ n → 8 ≤ ui_T U x j) : ∀ m : Nat, 8 ≤ ui_T U x m := by
  obtain ⟨i, j, h1, h2, h3⟩ := pigeon n (fun i => (ui_T U x i - 8).toNat) (fun i hi => by
    have a := A i hi
    have b := ui_b B hx i (fun j hj => A j (by omega))
    show (ui_T U x i - 8).toNat < n
    omega)
  have a1 := A i (by omega)
  have a2 := A j h2
  have h4 : (ui_T U x i - 8).toNat = (ui_T U x j - 8).toNat := h3
  have e : ui_T U x (i + (j - i)) = ui_T U x i := by rw [show i + (j - i) = j by omega]; omega
  have Z : ∀ (f m : Nat), m ≤ f → 8 ≤ ui_T U x m := by
    intro f
    induction f with
    | zero => intro m hm; exact A m (by omega)
    | succ f ih =>
      intro m hm
      by_cases q : m ≤ n
      · exact A m q
      · have p := ui_per e (m - j)
        rw [show i + (j - i) + (m - j) = m by omega] at p
        rw [p]; exact ih _ (by omega)
  exact fun m => Z m m (by omega)
/-- below 8 the way up ends within three steps -/
theorem ui_3 {x : Int} {i : Nat} (a : ui_T U x i < 8) (b : -1 ≤ ui_T U x i) : ∃ j : Nat, j ≤ i + 3 ∧ ui_T U x j = -1 := by
  have st : ∀ y : Int, y < 8 → uq_T U y = if y = 0 then -1 else if y = 1 then 0 else 1 := fun y hy => by
    unfold uq_T
    by_cases q0 : y = 0
    · rw [if_pos q0, if_pos q0]
    · rw [if_neg q0, if_neg q0]
      by_cases q1 : y = 1
      · rw [if_pos q1, if_pos q1]
      · rw [if_neg q1, if_neg q1, if_neg (by omega)]
  have s1 : ui_T U x (i + 1) = uq_T U (ui_T U x i) := rfl
  have s2 : ui_T U x (i + 2) = uq_T U (ui_T U x (i + 1)) := rfl
  have s3 : ui_T U x (i + 3) = uq_T U (ui_T U x (i + 2)) := rfl
  by_cases q : ui_T U x i = -1
  · exact ⟨i, by omega, q⟩
  · by_cases q0 : ui_T U x i = 0
    · refine ⟨i + 1, by omega, ?_⟩
      rw [s1, q0]; rfl
    · by_cases q1 : ui_T U x i = 1
      · refine ⟨i + 2, by omega, ?_⟩
        rw [s2, s1, q1]; rfl
      · have e1 : ui_T U x (i + 1) = 1 := by rw [s1, st _ a, if_neg q0, if_neg q1]
        refine ⟨i + 3, by omega, ?_⟩
        rw [s3, s2, e1]; rfl
theorem ends_iff (B : ∀ k : Nat, k < n → -1 ≤ U k ∧ U k < 8 + (n : Int)) {k : Nat} (hk : k < n) : ENDS U n k ↔ ∃ i : Nat, i ≤ n + 10 ∧ ui_T U (8 + (k : Int)) i = -1 := by
  constructor
  · intro E
    -- the first place below 8
    have F : ∀ (f i : Nat), i ≤ f → ui_T U (8 + (k : Int)) i < 8 → ∃ j : Nat, j ≤ i ∧ ui_T U (8 + (k : Int)) j < 8 ∧ ∀ t : Nat, t < j → 8 ≤ ui_T U (8 + (k : Int)) t := by
      intro f
      induction f with
      | zero => intro i hi a; exact ⟨i, by omega, a, fun t ht => absurd ht (by omega)⟩
      | succ f ih =>
        intro i hi a
        by_cases q : ∃ t : Nat, t < i ∧ ui_T U (8 + (k : Int)) t < 8
        · obtain ⟨t, t1, t2⟩ := q
          obtain ⟨j, j1, j2, j3⟩ := ih t (by omega) t2
          exact ⟨j, by omega, j2, j3⟩
        · refine ⟨i, by omega, a, fun t ht => ?_⟩
          exact Classical.byContradiction fun z => q ⟨t, ht, by omega⟩
    obtain ⟨i, i1, i2⟩ := E
    obtain ⟨j, j1, j2, j3⟩ := F i i (by omega) i2
    have b : -1 ≤ ui_T U (8 + (k : Int)) j := by
      cases j with
      | zero => show -1 ≤ 8 + (k : Int); omega
      | succ j =>
        have a := j3 j (by omega)
        have b := ui_b B (x := 8 + (k : Int)) (by omega) j (fun t ht => j3 t (by omega))
        show -1 ≤ uq_T U (ui_T U (8 + (k : Int)) j)
        rw [uq_8 a]
        exact (B _ (by omega)).1
    obtain ⟨m, m1, m2⟩ := ui_3 j2 b
    exact ⟨m, by omega, m2⟩
  · intro E
    obtain ⟨i, i1, i2⟩ := E
    exact Classical.byContradiction fun z => by
      have A : ∀ j : Nat, j ≤ n → 8 ≤ ui_T U (8 + (k : Int)) j := fun j hj => Classical.byContradiction fun y => z ⟨j, by omega, by omega⟩
      have b := ui_8 B (x := 8 + (k : Int)) (by omega) A i
      omega
/- the class -/
theorem c_token (H : HDc K P V C c n h) {k : Nat} (hk : k < n) {x : Int} (hx : x = (k : Int)) : Pc (qf_X2_tokenOfClass nn x h) (fun u => u = (C k : Int)) := by
  subst hx
  have e2 := H.2.2.1
  unfold qf_X2_tokenOfClass
  refine pc_if (fun z => absurd z (by omega)) (fun _ => ?_)
  refine pc_if (fun z => absurd z (by omega)) (fun _ => ?_)
  refine pc_rA ?_; intro _ _ v3 e3
  rw [Int.toNat_natCast, H.2.2.2 k hk] at e3
  exact pc_ret e3
theorem c_above (BK : TBn K c) (S : CKd K V C n N) (H : HDc K P V C c n h) (NC : NCl V C n N h) (UP : ∀ k : Nat, k < n → UPk K V C n k (U k)) {k : Nat} (hk : k < n) {x : Int} (hx : x = (k : Int)) : Pc (qf_X2_classAbove nn x h) (fun u => u = U k) := by
  have s1 := S.1
  have n3 := BK.2.1
  have s2 := S.2.1 k hk
  have lt := tb_lt BK (i := C k) (by omega)
  unfold qf_X2_classAbove
  refine pc_sv (c_token H hk hx) ?_; intro u2 q2
  refine pc_add (by omega) ?_; intro v4 e4
  refine pc_sv (c_kindAt BK H.1 (t := C k + 1) (by omega)) ?_; intro u6 q6
  refine pc_if (fun z => ?_) (fun z => ?_)
  · exact pc_ret (upk_d (.inr ⟨by omega, rfl⟩) (UP k hk))
  · refine pc_add (by omega) ?_; intro v7 e7
    have z6 : K (C k + 1) = 16 := by omega
    refine pc_sv (c_classAt BK S H.1 H.2.1 NC (t := C k + 2) (s2.2 z6) (by omega)) ?_; intro u9 q9
    exact pc_ret (upk_d (.inl ⟨z6, q9⟩) (UP k hk))
theorem c_ends7 (BK : TBn K c) (S : CKd K V C n N) (H : HDc K P V C c n h) (NC : NCl V C n N h) (UP : ∀ k : Nat, k < n → UPk K V C n k (U k)) {k : Nat} (hk : k < n) : ∀ (f i : Nat), i ≤ n + 1 → (∀ j : Nat, j < i → 8 ≤ ui_T U (8 + (k : Int)) j) → Pc (qw_X2_endsAbove_7 nn f (ui_T U (8 + (k : Int)) i) (i : Int) h) (fun u => (u = 1 ∧ ENDS U n k) ∨ (u = 0 ∧ ¬ ENDS U n k)) := by
  have B : ∀ k : Nat, k < n → -1 ≤ U k ∧ U k < 8 + (n : Int) := fun k hk => upk_b S hk (UP k hk)
  have e2 := H.2.2.1
  have s1 := S.1
  intro f
  induction f with
  | zero => intros; exact pc_none
  | succ f ih =>
    intro i hi A
    have b := ui_b B (x := 8 + (k : Int)) (by omega) i A
    have L : ui_T U (8 + (k : Int)) i < 8 → Pc (qj_X2_endsAbove_36 nn (ui_T U (8 + (k : Int)) i) h) (fun u => (u = 1 ∧ ENDS U n k) ∨ (u = 0 ∧ ¬ ENDS U n k)) := fun a => by
      unfold qj_X2_endsAbove_36
      refine pc_if (fun z => absurd z (by omega)) (fun _ => pc_ret (.inl ⟨rfl, i, hi, a⟩))
    unfold qw_X2_endsAbove_7
    refine pc_if (fun z => ?_) (fun z => ?_)
    · by_cases a : ui_T U (8 + (k : Int)) i < 8
      · exact L a
      · unfold qj_X2_endsAbove_36
        refine pc_if (fun _ => pc_ret (.inr ⟨rfl, fun E => ?_⟩)) (fun z => absurd (by omega) z)
        obtain ⟨j, j1, j2⟩ := E
        by_cases q : j = i
        · rw [q] at j2; exact a j2
        · have := A j (by omega); omega
    · refine pc_if (fun a => L a) (fun a => ?_)
      refine pc_sub (by omega) ?_; intro v3 e3
      refine pc_sv (c_above BK S H NC UP (k := (ui_T U (8 + (k : Int)) i - 8).toNat) (by omega) (by omega)) ?_; intro u5 q5
      refine pc_add (by omega) ?_; intro v6 e6
      have q : u5 = ui_T U (8 + (k : Int)) (i + 1) := by
        rw [q5]
        show _ = uq_T U (ui_T U (8 + (k : Int)) i)
        rw [uq_8 (by omega)]
      rw [q, show v6 = ((i + 1 : Nat) : Int) by omega]
      refine ih (i + 1) (by omega) (fun j hj => ?_)
      by_cases ji : j = i
      · rw [ji]; omega
      · exact A j (by omega)
theorem c_ends (BK : TBn K c) (S : CKd K V C n N) (H : HDc K P V C c n h) (NC : NCl V C n N h) (UP : ∀ k : Nat, k < n → UPk K V C n k (U k)) {k : Nat} (hk : k < n) {x : Int} (hx : x = (k : Int)) : Pc (qf_X2_endsAbove nn x h) (fun u => (u = 1 ∧ ENDS U n k) ∨ (u = 0 ∧ ¬ ENDS U n k)) := by
  have s1 := S.1
  unfold qf_X2_endsAbove
  refine pc_add (by omega) ?_; intro v9 e9
  rw [show v9 = 8 + (k : Int) by omega]
  exact c_ends7 BK S H NC UP hk nn 0 (by omega) (fun j hj => absurd hj (by omega))
/-- the class tells a FAULT at a token -/
theorem c_tell (B : TBc K P c h) (hf : h 2 11 = 0) {t : Nat} (ht : t < c) {k x : Int} (hx : x = (t : Int)) : Pc (qf_X9_tell nn k x h) (fun u => (u 2 11 = k ∧ u 2 12 = P t) ∧ ∀ cc y : Nat, ¬ (cc = 2 ∧ (y = 11 ∨ y = 12)) → u cc y = h cc y) := by
  subst hx
  have b1 := B.1
  unfold qf_X9_tell
  refine pc_if (fun z => absurd hf z) (fun _ => ?_)
  refine pc_if (fun z => absurd z (by omega)) (fun _ => ?_)
  refine pc_if (fun z => absurd z (by omega)) (fun _ => ?_)
  refine pc_xl ?_; intro h3 e3
  refine pc_rA ?_; intro _ _ v5 e5
  rw [Int.toNat_natCast, e3, up_n (by omega), (B.2 t ht).2] at e5
  refine pc_xl ?_; intro h6 e6
  exact pc_ret ⟨⟨by rw [e6, up_n (by omega), e3, up_s], by rw [e6, up_s]; exact e5⟩, fun cc y z => by rw [e6, up_n (by omega), e3, up_n (by omega)]⟩
/-- behind a FAULT the class's telling changes nothing -/
theorem c_tell2 (hf : ¬ h 2 11 = 0) {k x : Int} : Pc (qf_X9_tell nn k x h) (fun u => u = h) := by
  unfold qf_X9_tell
  exact pc_if (fun _ => pc_ret rfl) (fun z => absurd hf z)
/-- what is left of a class's head behind a FAULT -/
theorem c_64f {l1 l2 : Int} (hf : ¬ h 2 11 = 0) : Pc (qj_X2_checkClassHead_64 nn l1 l2 h) (fun u => u = h) := by
  unfold qj_X2_checkClassHead_64
  refine pc_se ?_; intro u2 _
  refine pc_if (fun _ => pc_ret rfl) (fun _ => ?_)
  refine pc_xl ?_; intro v4 _
  exact pc_sv (c_tell2 hf) (fun a q => pc_ret q)
theorem c_44f {l1 l2 : Int} (hf : ¬ h 2 11 = 0) : Pc (qj_X2_checkClassHead_44 nn l1 l2 h) (fun u => u = h) := by
  unfold qj_X2_checkClassHead_44
  refine pc_se ?_; intro u9 _
  refine pc_if (fun _ => c_64f hf) (fun _ => ?_)
  refine pc_xl ?_; intro v11 _
  exact pc_sv (c_tell2 hf) (fun a q => by rw [q]; exact c_64f hf)
theorem c_23f {l1 l2 : Int} (hf : ¬ h 2 11 = 0) : Pc (qj_X2_checkClassHead_23 nn l1 l2 h) (fun u => u = h) := by
  unfold qj_X2_checkClassHead_23
  refine pc_se ?_; intro u16 _
  refine pc_xl ?_; intro v17 _
  refine pc_if (fun _ => c_44f hf) (fun _ => ?_)
  exact pc_sv (c_tell2 hf) (fun a q => by rw [q]; exact c_44f hf)
theorem c_head (BK : TBn K c) (S : CKd K V C n N) (H : HDc K P V C c n h) (NC : NCl V C n N h) (UP : ∀ k : Nat, k < n → UPk K V C n k (U k)) (hf : h 2 11 = 0) {k : Nat} (hk : k < n) : Pc (qf_X2_checkClassHead nn (k : Int) h) (fun u => FCH P V C U n k (u 2 11) (u 2 12) ∧ ∀ cc y : Nat, ¬ (cc = 2 ∧ (y = 11 ∨ y = 12)) → u cc y = h cc y) := by
  have s1 := S.1
  have n3 := BK.2.1
  have s2 := S.2.1 k hk
  have B : ∀ k : Nat, k < n → -1 ≤ U k ∧ U k < 8 + (n : Int) := fun k hk => upk_b S hk (UP k hk)
  have lt := tb_lt BK (i := C k) (by omega)
  -- where it extends, the token is there
  have lt2 : ¬ U k = 0 → C k + 2 < c := fun z => by
    rcases UP k hk with ⟨a1, a2⟩ | ⟨a1, a2⟩
    · exact tb_lt BK (by have := s2.2 a1; omega)
    · exact absurd a2 z
  unfold qf_X2_checkClassHead
  refine pc_rA ?_; intro _ _ v23 e23
  rw [Int.toNat_natCast, H.2.2.2 k hk] at e23
  refine pc_if (fun z8 => ?_) (fun z8 => ?_)
  · unfold qj_X2_checkClassHead_23
    refine pc_sv (c_classAt BK S H.1 H.2.1 NC s2.1 e23) ?_; intro u16 q16
    refine pc_add (by omega) ?_; intro v17 e17
    refine pc_if (fun z => ?_) (fun z => ?_)
    · have G : CLz (fun k => V (C k)) n (V (C k)) (8 + (k : Int)) := by rw [← e17, ← z]; exact q16
      unfold qj_X2_checkClassHead_44
      refine pc_sv (c_above BK S H NC UP hk rfl) ?_; intro u9 q9
      refine pc_if (fun z9 => ?_) (fun z9 => ?_)
      · unfold qj_X2_checkClassHead_64
        refine pc_sv (c_ends BK S H NC UP hk rfl) ?_; intro u2 q2
        refine pc_if (fun z2 => ?_) (fun z2 => ?_)
        · refine pc_ret ⟨.inr ⟨by omega, .inr ⟨G, .inr ⟨by omega, .inr ⟨?_, hf⟩⟩⟩⟩, fun _ _ _ => rfl⟩
          rcases q2 with ⟨a, b⟩ | ⟨a, b⟩
          · exact b
          · exact absurd a z2
        · refine pc_add (by omega) ?_; intro v4 e4
          have ne : ¬ ENDS U n k := by
            rcases q2 with ⟨a, b⟩ | ⟨a, b⟩
            · omega
            · exact b
          have lc : C k + 2 < c := lt2 (fun z0 => ne ⟨1, by omega, by
            show uq_T U (8 + (k : Int)) < 8
            rw [uq_8 (by omega), show (8 + (k : Int) - 8).toNat = k by omega]; omega⟩)
          refine pc_sv (c_tell H.1 hf lc (by omega)) ?_; intro u6 q6
          exact pc_ret ⟨.inr ⟨by omega, .inr ⟨G, .inr ⟨by omega, .inl ⟨ne, q6.1⟩⟩⟩⟩, q6.2⟩
      · have m1 : U k = -1 := by omega
        refine pc_add (by omega) ?_; intro v11 e11
        refine pc_sv (c_tell H.1 hf (t := C k + 2) (lt2 (by omega)) (by omega)) ?_; intro u13 q13
        refine pc_imp (c_64f (by rw [q13.1.1]; decide)) (fun u q => ?_)
        rw [q]
        exact ⟨.inr ⟨by omega, .inr ⟨G, .inl ⟨m1, q13.1⟩⟩⟩, q13.2⟩
    · refine pc_sv (c_tell H.1 hf lt e23) ?_; intro u20 q20
      refine pc_imp (c_44f (by rw [q20.1.1]; decide)) (fun u q => ?_)
      rw [q]
      refine ⟨.inr ⟨by omega, .inl ⟨fun G => z ?_, q20.1⟩⟩, q20.2⟩
      rw [e17]; exact cls_d q16 G
  · refine pc_sv (c_tell H.1 hf lt e23) ?_; intro u26 q26
    refine pc_imp (c_23f (by rw [q26.1.1]; decide)) (fun u q => ?_)
    rw [q]
    exact ⟨.inl ⟨by omega, q26.1⟩, q26.2⟩
end
end
section
/- HEADS: the heads of classes, both sides -/
/-- the class's Kin behind readClasses -/
def KNc (U : Nat → Int) (n : Nat) (h : ms_M) : Prop := (∀ j : Nat, j < 16 → h 13 j = if j < 8 then bi_A j else if j < 8 + n then U (j - 8) else -1) ∧ un_R 12 h
/-- all is right with the classes below k -/
def OKc (V : Nat → Int) (C : Nat → Nat) (U : Nat → Int) (n k : Nat) : Prop := ∀ j : Nat, j < k → CLz (fun k => V (C k)) n (V (C j)) (8 + (j : Int)) ∧ ¬ U j = -1 ∧ ENDS U n j
section
variable {nn : Nat} {K P V U : Nat → Int} {C : Nat → Nat} {c n N : Nat} {h g r w u v h0 r0 : ms_M}
theorem r_wrg (B : TBq K P c r) (hf : r 160 9 = 0) {t : Nat} (ht : t < c) {k x : Int} (hx : x = (t : Int)) : Pc (qf_X13_wrong nn k x r) (fun v => (v 160 9 = k ∧ v 160 10 = P t) ∧ ∀ cc y : Nat, ¬ (cc = 160 ∧ (y = 9 ∨ y = 10)) → v cc y = r cc y) := by
  subst hx
  unfold qf_X13_wrong
  refine pc_if (fun _ => ?_) (fun z => absurd hf z)
  refine pc_xl ?_; intro h2 e2
  refine pc_rA ?_; intro _ _ v4 e4
  rw [Int.toNat_natCast, e2, up_n (by omega), B.2.1 t ht] at e4
  refine pc_xl ?_; intro h5 e5
  exact pc_ret ⟨⟨by rw [e5, up_n (by omega), e2, up_s], by rw [e5, up_s]; exact e4⟩, fun cc y z => by rw [e5, up_n (by omega), e2, up_n (by omega)]⟩
theorem r_wrg2 (hf : ¬ r 160 9 = 0) {k x : Int} : Pc (qf_X13_wrong nn k x r) (fun v => v = r) := by
  unfold qf_X13_wrong
  exact pc_if (fun z => absurd z hf) (fun _ => pc_ret rfl)
theorem r_up {x : Int} (hx : -1 ≤ x ∧ x ≤ 1000) : Pc (qf_X13_upperOf nn x r) (fun u => u = uq_T (r 180) x) := by
  unfold qf_X13_upperOf uq_T
  refine pc_if (fun z => ?_) (fun z => ?_)
  · rw [if_neg z]
    refine pc_if (fun z1 => ?_) (fun z1 => ?_)
    · rw [if_neg z1]
      refine pc_if (fun z2 => ?_) (fun z2 => ?_)
      · rw [if_pos z2]
        refine pc_sub (by omega) ?_; intro v2 e2
        refine pc_rA ?_; intro _ _ v3 e3
        exact pc_ret (by rw [e3, e2])
      · rw [if_neg z2]; exact pc_ret rfl
    · rw [if_pos (Classical.byContradiction z1)]; exact pc_ret rfl
  · rw [if_pos (Classical.byContradiction z)]; exact pc_ret rfl
/- behind a FAULT -/
theorem r_167f {k : Nat} {l2 : Int} {qk : Int → ms_M → Option ms_M} {Q : ms_M → Prop} (hf : ¬ r 160 9 = 0) (hk : k ≤ 1000) (Z : Pc (qk ((k + 1 : Nat) : Int) r) Q) : Pc (qj_X13_heads_167 nn qk (k : Int) l2 r) Q := by
  unfold qj_X13_heads_167
  refine pc_if (fun _ => ?_) (fun _ => ?_)
  · refine pc_add (by omega) ?_; intro v19 e19
    rw [show v19 = ((k + 1 : Nat) : Int) by omega]; exact Z
  · refine pc_rA ?_; intro _ _ v21 _
    refine pc_sv (r_wrg2 hf) ?_; intro u23 q23
    rw [q23]
    refine pc_add (by omega) ?_; intro v24 e24
    rw [show v24 = ((k + 1 : Nat) : Int) by omega]; exact Z
theorem r_139f {k : Nat} {qk : Int → ms_M → Option ms_M} {Q : ms_M → Prop} (hf : ¬ r 160 9 = 0) (hk : k ≤ 1000) (Z : Pc (qk ((k + 1 : Nat) : Int) r) Q) : ∀ (f : Nat) (l2 l3 : Int), Pc (qw_X13_heads_139 nn qk f (k : Int) l2 l3 r) Q := by
  intro f
  induction f with
  | zero => intros; exact pc_none
  | succ f ih =>
    intro l2 l3
    unfold qw_X13_heads_139
    refine pc_xl ?_; intro v27 _
    refine pc_if (fun _ => r_167f hf hk Z) (fun _ => ?_)
    refine pc_if (fun _ => r_167f hf hk Z) (fun _ => ?_)
    refine pc_se ?_; intro u29 _
    refine pc_xl ?_; intro v30 _
    exact ih u29 v30
theorem r_132f {k : Nat} {qk : Int → ms_M → Option ms_M} {Q : ms_M → Prop} (hf : ¬ r 160 9 = 0) (hk : k ≤ 1000) (Z : Pc (qk ((k + 1 : Nat) : Int) r) Q) : Pc (qj_X13_heads_132 nn qk (k : Int) r) Q := by
  unfold qj_X13_heads_132
  refine pc_xl ?_; intro v33 _
  exact r_139f hf hk Z nn v33 0
theorem r_111f {k : Nat} {qk : Int → ms_M → Option ms_M} {Q : ms_M → Prop} (hf : ¬ r 160 9 = 0) (hk : k ≤ 1000) (Z : Pc (qk ((k + 1 : Nat) : Int) r) Q) : Pc (qj_X13_heads_111 nn qk (k : Int) r) Q := by
  unfold qj_X13_heads_111
  refine pc_rA ?_; intro _ _ v35 _
  refine pc_if (fun _ => r_132f hf hk Z) (fun _ => ?_)
  refine pc_rA ?_; intro _ _ v37 _
  refine pc_sv (r_wrg2 hf) ?_; intro u39 q39
  rw [q39]; exact r_132f hf hk Z
theorem r_83f {k : Nat} {qk : Int → ms_M → Option ms_M} {Q : ms_M → Prop} (hf : ¬ r 160 9 = 0) (hk : k ≤ 1000) (Z : Pc (qk ((k + 1 : Nat) : Int) r) Q) : Pc (qj_X13_heads_83 nn qk (k : Int) r) Q := by
  unfold qj_X13_heads_83
  refine pc_rA ?_; intro _ _ v42 _
  refine pc_se ?_; intro u44 _
  refine pc_xl ?_; intro v45 _
  refine pc_if (fun _ => r_111f hf hk Z) (fun _ => ?_)
  refine pc_rA ?_; intro _ _ v47 _
  refine pc_sv (r_wrg2 hf) ?_; intro u49 q49
  rw [q49]; exact r_111f hf hk Z
theorem ui_b2 (B : ∀ k : Nat, k < n → -1 ≤ U k ∧ U k < 8 + (n : Int)) {x : Int} (hx : 8 ≤ x ∧ x < 8 + (n : Int)) : ∀ i : Nat, (∀ j : Nat, j < i → ¬ ui_T U x j = -1) → -1 ≤ ui_T U x i ∧ ui_T U x i < 8 + (n : Int) := by
  intro i
  induction i with
  | zero => intro _; show -1 ≤ x ∧ x < 8 + (n : Int); omega
  | succ i ih =>
    intro A
    have a := A i (by omega)
    have b := ih (fun j hj => A j (by omega))
    show -1 ≤ uq_T U (ui_T U x i) ∧ uq_T U (ui_T U x i) < 8 + (n : Int)
    unfold uq_T
    by_cases q0 : ui_T U x i = 0
    · rw [if_pos q0]; omega
    · rw [if_neg q0]
      by_cases q1 : ui_T U x i = 1
      · rw [if_pos q1]; omega
      · rw [if_neg q1]
        by_cases q8 : 8 ≤ ui_T U x i
        · rw [if_pos q8]; exact B _ (by omega)
        · rw [if_neg q8]; omega
theorem r_139 (e24 : r 160 24 = (n : Int)) (hn : n ≤ 334) (B : ∀ k : Nat, k < n → -1 ≤ r 180 k ∧ r 180 k < 8 + (n : Int)) {k : Nat} (hk : k < n) {qk : Int → ms_M → Option ms_M} {Q : ms_M → Prop} (HE : (∃ i : Nat, i ≤ n + 10 ∧ ui_T (r 180) (8 + (k : Int)) i = -1) → Pc (qj_X13_heads_167 nn qk (k : Int) (-1) r) Q) (HN : (¬ ∃ i : Nat, i ≤ n + 10 ∧ ui_T (r 180) (8 + (k : Int)) i = -1) → ∀ l2 : Int, ¬ l2 = -1 → Pc (qj_X13_heads_167 nn qk (k : Int) l2 r) Q) : ∀ (f i : Nat), i ≤ n + 10 → (∀ j : Nat, j < i → ¬ ui_T (r 180) (8 + (k : Int)) j = -1) → Pc (qw_X13_heads_139 nn qk f (k : Int) (ui_T (r 180) (8 + (k : Int)) i) (i : Int) r) Q := by
  intro f
  induction f with
  | zero => intros; exact pc_none
  | succ f ih =>
    intro i hi A
    have b := ui_b2 B (x := 8 + (k : Int)) (by omega) i A
    have L : ui_T (r 180) (8 + (k : Int)) i = -1 → Pc (qj_X13_heads_167 nn qk (k : Int) (ui_T (r 180) (8 + (k : Int)) i) r) Q := fun a => by
      rw [a]; exact HE ⟨i, hi, a⟩
    unfold qw_X13_heads_139
    refine pc_add (by omega) ?_; intro v27 e27
    refine pc_if (fun z => ?_) (fun z => ?_)
    · by_cases a : ui_T (r 180) (8 + (k : Int)) i = -1
      · exact L a
      · refine HN (fun E => ?_) _ a
        obtain ⟨j, j1, j2⟩ := E
        by_cases q : j = i
        · rw [q] at j2; exact a j2
        · exact A j (by omega) j2
    · refine pc_if (fun a => L a) (fun a => ?_)
      refine pc_sv (r_up (by omega)) ?_; intro u29 q29
      refine pc_add (by omega) ?_; intro v30 e30
      rw [show v30 = ((i + 1 : Nat) : Int) by omega, show u29 = ui_T (r 180) (8 + (k : Int)) (i + 1) from q29]
      refine ih (i + 1) (by omega) (fun j hj => ?_)
      by_cases ji : j = i
      · rw [ji]; exact a
      · exact A j (by omega)
theorem r_head (BK : TBn K c) (S : CKd K V C n N) (H : HDr K P V C c n r) (UP : ∀ k : Nat, k < n → UPk K V C n k (r 180 k)) (hf : r 160 9 = 0) {k : Nat} (hk : k < n) (k8 : k ≤ 8) {qk : Int → ms_M → Option ms_M} {Q : ms_M → Prop} (Z : ∀ v : ms_M, FCH P V C (r 180) n k (v 160 9) (v 160 10) → (∀ cc y : Nat, ¬ (cc = 160 ∧ (y = 9 ∨ y = 10)) → v cc y = r cc y) → Pc (qk ((k + 1 : Nat) : Int) v) Q) : Pc (if ¬ (k : Int) = 8 then (qj_X13_heads_83 nn qk (k : Int) r) else (rd_A 400 178 (k : Int) r fun v54 => mx_sv (qf_X13_wrong nn 11 v54 r) fun u56 => qj_X13_heads_83 nn qk (k : Int) u56)) Q := by
  have s1 := S.1
  have n3 := BK.2.1
  have s2 := S.2.1 k hk
  have B : ∀ k : Nat, k < n → -1 ≤ r 180 k ∧ r 180 k < 8 + (n : Int) := fun k hk => upk_b S hk (UP k hk)
  have lt := tb_lt BK (i := C k) (by omega)
  have e1 := (H.2.2.2 k hk).1
  have ex : ¬ r 180 k = 0 → C k + 2 < c ∧ r 179 k = ((C k + 2 : Nat) : Int) := fun z => by
    rcases UP k hk with ⟨a1, a2⟩ | ⟨a1, a2⟩
    · refine ⟨tb_lt BK (by have := s2.2 a1; omega), ?_⟩
      rcases (H.2.2.2 k hk).2 with ⟨b1, b2⟩ | ⟨b1, b2⟩
      · exact b2
      · exact absurd a1 b1
    · exact absurd a2 z
  refine pc_if (fun z8 => ?_) (fun z8 => ?_)
  · unfold qj_X13_heads_83
    refine pc_rA ?_; intro _ _ v42 e42
    rw [Int.toNat_natCast, e1] at e42
    refine pc_sv (r_classOf BK S H s2.1 e42) ?_; intro u44 q44
    refine pc_add (by omega) ?_; intro v45 e45
    refine pc_if (fun z => ?_) (fun z => ?_)
    · have G : CLz (fun k => V (C k)) n (V (C k)) (8 + (k : Int)) := by rw [← e45, ← z]; exact q44
      unfold qj_X13_heads_111
      refine pc_rA ?_; intro _ _ v35 e35
      rw [Int.toNat_natCast] at e35
      refine pc_if (fun z35 => ?_) (fun z35 => ?_)
      · unfold qj_X13_heads_132
        refine pc_add (by omega) ?_; intro v33 e33
        rw [show v33 = ui_T (r 180) (8 + (k : Int)) 0 by show v33 = 8 + (k : Int); omega]
        refine r_139 H.2.2.1 (by omega) B hk (fun E => ?_) (fun E l2 hl => ?_) nn 0 (by omega) (fun j hj => absurd hj (by omega))
        · unfold qj_X13_heads_167
          refine pc_if (fun _ => ?_) (fun y => absurd rfl y)
          refine pc_add (by omega) ?_; intro v19 e19
          rw [show v19 = ((k + 1 : Nat) : Int) by omega]
          exact Z r (.inr ⟨by omega, .inr ⟨G, .inr ⟨by rw [← e35]; exact z35, .inr ⟨(ends_iff B hk).mpr E, hf⟩⟩⟩⟩) (fun _ _ _ => rfl)
        · unfold qj_X13_heads_167
          refine pc_if (fun y => absurd y hl) (fun _ => ?_)
          have ne : ¬ ENDS (r 180) n k := fun y => E ((ends_iff B hk).mp y)
          have x := ex (fun z0 => ne ⟨1, by omega, by
            show uq_T (r 180) (8 + (k : Int)) < 8
            rw [uq_8 (by omega), show (8 + (k : Int) - 8).toNat = k by omega]; omega⟩)
          refine pc_rA ?_; intro _ _ v21 e21
          rw [Int.toNat_natCast, x.2] at e21
          refine pc_sv (r_wrg H.1 hf x.1 e21) ?_; intro u23 q23
          refine pc_add (by omega) ?_; intro v24 e24
          rw [show v24 = ((k + 1 : Nat) : Int) by omega]
          exact Z u23 (.inr ⟨by omega, .inr ⟨G, .inr ⟨by rw [← e35]; exact z35, .inl ⟨ne, q23.1⟩⟩⟩⟩) q23.2
      · have m1 : r 180 k = -1 := by omega
        have x := ex (by omega)
        refine pc_rA ?_; intro _ _ v37 e37
        rw [Int.toNat_natCast, x.2] at e37
        refine pc_sv (r_wrg H.1 hf x.1 e37) ?_; intro u39 q39
        exact r_132f (by rw [q39.1.1]; decide) (by omega) (Z u39 (.inr ⟨by omega, .inr ⟨G, .inl ⟨m1, q39.1⟩⟩⟩) q39.2)
    · refine pc_rA ?_; intro _ _ v47 e47
      rw [Int.toNat_natCast, e1] at e47
      refine pc_sv (r_wrg H.1 hf lt e47) ?_; intro u49 q49
      refine r_111f (by rw [q49.1.1]; decide) (by omega) (Z u49 (.inr ⟨by omega, .inl ⟨fun G => z ?_, q49.1⟩⟩) q49.2)
      rw [e45]; exact cls_d q44 G
  · refine pc_rA ?_; intro _ _ v54 e54
    rw [Int.toNat_natCast, e1] at e54
    refine pc_sv (r_wrg H.1 hf lt e54) ?_; intro u56 q56
    exact r_83f (by rw [q56.1.1]; decide) (by omega) (Z u56 (.inl ⟨by omega, q56.1⟩) q56.2)
/- the reference's row of uppers -/
theorem r_heads2 (BK : TBn K c) (S : CKd K V C n N) {Q : ms_M → Prop} (H0 : HDr K P V C c n r0) (Z : ∀ r : ms_M, (∀ cc y : Nat, ¬ cc = 180 → r cc y = r0 cc y) → (∀ k : Nat, k < n → UPk K V C n k (r 180 k)) → Pc (qw_X13_heads_50 nn nn 0 r) Q) : ∀ (f k : Nat) (r : ms_M), k ≤ n → (∀ cc y : Nat, ¬ cc = 180 → r cc y = r0 cc y) → (∀ j : Nat, j < k → UPk K V C n j (r 180 j)) → Pc (qw_X13_heads_2 nn f (k : Int) r) Q := by
  intro f
  induction f with
  | zero => intros; exact pc_none
  | succ f ih =>
    intro k r hk A U
    have s1 := S.1
    have H := hdr_k H0 (fun cc y q => A cc y (by omega))
    have e24 := H.2.2.1
    unfold qw_X13_heads_2
    refine pc_if (fun z => Z r A (fun j hj => U j (by omega))) (fun z => ?_)
    have s2 := S.2.1 k (by omega)
    have F : ∀ x : Int, UPk K V C n k x → Pc (qj_X13_heads_34 nn (qw_X13_heads_2 nn f) (k : Int) x r) Q := fun x q => by
      unfold qj_X13_heads_34
      refine pc_wA ?_; intro _ _ h61 e61
      rw [Int.toNat_natCast] at e61
      refine pc_add (by omega) ?_; intro v62 e62
      rw [show v62 = ((k + 1 : Nat) : Int) by omega]
      refine ih (k + 1) h61 (by omega) (fun cc y q => by rw [e61, up_n (by omega)]; exact A cc y q) (fun j hj => ?_)
      by_cases jk : j = k
      · rw [jk, e61, up_s]; exact q
      · rw [e61, up_n (by omega)]; exact U j (by omega)
    refine pc_rA ?_; intro _ _ v65 e65
    rw [Int.toNat_natCast] at e65
    rcases (H.2.2.2 k (by omega)).2 with ⟨b1, b2⟩ | ⟨b1, b2⟩
    · refine pc_if (fun _ => ?_) (fun y => absurd (fun y2 => by omega) y)
      refine pc_rA ?_; intro _ _ v67 e67
      rw [Int.toNat_natCast, b2] at e67
      refine pc_sv (r_classOf BK S H (s2.2 b1) e67) ?_; intro u69 q69
      exact F u69 (.inl ⟨b1, q69⟩)
    · refine pc_if (fun y => absurd (by omega) y) (fun _ => ?_)
      exact F 0 (.inr ⟨b1, rfl⟩)
/- the class's Kin -/
theorem c_48 (h17 : 17 ≤ nn) (BK : TBn K c) (S : CKd K V C n N) (n8 : n ≤ 8) (UP : ∀ k : Nat, k < n → UPk K V C n k (U k)) (H0 : HDc K P V C c n h0) (NC : NCl V C n N h0) (f0 : h0 2 11 = 0) : ∀ (f k : Nat) (h : ms_M), k ≤ n → (∀ cc y : Nat, ¬ cc = 13 → h cc y = h0 cc y) → (∀ j : Nat, j < 16 → h 13 j = if j < 8 then bi_A j else if j < 8 + k then U (j - 8) else -1) → Pc (qw_X2_readClasses_48 nn f (k : Int) h) (fun u => KNc U n u ∧ ∀ cc y : Nat, ¬ cc = 13 → ¬ cc = 14 → u cc y = h0 cc y) := by
  intro f
  induction f with
  | zero => intros; exact pc_none
  | succ f ih =>
    intro k h hk A R
    have s1 := S.1
    have H := hdc_k H0 (fun cc y q => A cc y (by omega))
    have NC1 : NCl V C n N h := fun x hx => by rw [A 16 x (by omega)]; exact NC x hx
    have e2 := H.2.2.1
    unfold qw_X2_readClasses_48
    refine pc_if (fun z => ?_) (fun z => ?_)
    · have kn : k = n := by omega
      unfold qj_X2_readClasses_88
      obtain ⟨h2, e, fr, un⟩ := settle_ok h17 (l0 := 12) (h := h)
      refine pc_sv (P := fun a => a = h2) (fun a ea => by rw [e] at ea; exact (Option.some.inj ea).symm) ?_; intro a ea
      refine pc_ret ?_
      rw [ea]
      refine ⟨⟨fun j hj => ?_, un⟩, fun cc y z1 z2 => ?_⟩
      · rw [fr 13 j (by omega), R j hj, kn]
      · rw [fr cc y (by omega)]; exact A cc y z1
    · refine pc_if (fun y => absurd (by rw [A 2 11 (by omega)]; exact f0) y) (fun _ => ?_)
      refine pc_add (by omega) ?_; intro v8 e8
      refine pc_sv (c_above BK S H NC1 UP (k := k) (by omega) rfl) ?_; intro u10 q10
      refine pc_sv (P := fun a => a = up_M h 13 (8 + k) (U k)) ?_ ?_
      · unfold qf_X4_setAbove qf_X4_isClass
        refine pc_sv (P := fun a => a = 1) ?_ ?_
        · refine pc_if (fun y => absurd y (by omega)) (fun _ => ?_)
          exact pc_if (fun y => absurd y (by omega)) (fun _ => pc_ret rfl)
        · intro a ea
          refine pc_if (fun y => absurd y (by omega)) (fun _ => ?_)
          refine pc_wA ?_; intro _ _ h3 e3
          refine pc_ret ?_
          rw [e3, q10, show v8.toNat = 8 + k by omega]
      · intro u12 e12
        refine pc_add (by omega) ?_; intro v13 e13
        rw [show v13 = ((k + 1 : Nat) : Int) by omega]
        refine ih (k + 1) u12 (by omega) (fun cc y q => by rw [e12, up_n (by omega)]; exact A cc y q) (fun j hj => ?_)
        rw [e12]
        by_cases jk : j = 8 + k
        · rw [jk, up_s, if_neg (by omega), if_pos (by omega), show 8 + k - 8 = k by omega]
        · rw [up_n (by omega), R j hj]
          by_cases q8 : j < 8
          · rw [if_pos q8, if_pos q8]
          · rw [if_neg q8, if_neg q8]
            by_cases qk : j < 8 + k
            · rw [if_pos qk, if_pos (by omega)]
            · rw [if_neg qk, if_neg (by omega)]
theorem j_cl17 (h17 : 17 ≤ nn) (BK : TBn K c) (S : CKd K V C n N) (UP : ∀ k : Nat, k < n → UPk K V C n k (r0 180 k)) (H0 : HDc K P V C c n h0) (NC : NCl V C n N h0) (D0 : HDr K P V C c n r0) (I0 : ∀ j : Nat, j < 16 → h0 13 j = bi_A j) {Z : ms_M → ms_M → Prop} (HS : ∀ u v, SFj u v → Z u v) (HO : ∀ u r : ms_M, (∀ cc y : Nat, ¬ (cc = 2 ∧ (y = 11 ∨ y = 12)) → ¬ cc = 13 → ¬ cc = 14 → u cc y = h0 cc y) → (∀ cc y : Nat, ¬ (cc = 160 ∧ (y = 9 ∨ y = 10)) → r cc y = r0 cc y) → u 2 11 = 0 → r 160 9 = 0 → n ≤ 8 → OKc V C (r0 180) n n → KNc (r0 180) n u → Pc (qw_X13_heads_192 nn nn 0 r) (fun v => Z u v)) : ∀ (f f2 k : Nat) (h r : ms_M), (∀ cc y : Nat, ¬ (cc = 2 ∧ (y = 11 ∨ y = 12)) → h cc y = h0 cc y) → (∀ cc y : Nat, ¬ (cc = 160 ∧ (y = 9 ∨ y = 10)) → r cc y = r0 cc y) → h 2 11 = 0 → r 160 9 = 0 → k ≤ n → k ≤ 8 → OKc V C (r0 180) n k → Pc (qw_X2_readClasses_17 nn f (k : Int) h) (fun u => Pc (qw_X13_heads_50 nn f2 (k : Int) r) (fun v => Z u v)) := by
  intro f
  induction f with
  | zero => intros; exact pc_none
  | succ f ih =>
    intro f2 k h r Ah Ar hf rf hk k8 OK
    cases f2 with
    | zero => exact fun _ _ => pc_none
    | succ f2 =>
      have s1 := S.1
      have H := hdc_k H0 (fun cc y q => Ah cc y (by omega))
      have NC1 : NCl V C n N h := fun x hx => by rw [Ah 16 x (by omega)]; exact NC x hx
      have D := hdr_k D0 (fun cc y q => Ar cc y (by omega))
      have r180 : r 180 = r0 180 := funext (fun x => Ar 180 x (by omega))
      have e2 := H.2.2.1
      have e24 := D.2.2.1
      unfold qw_X2_readClasses_17
      refine pc_if (fun z => ?_) (fun z => ?_)
      · have kn : k = n := by omega
        refine pc_imp (c_48 (U := r0 180) h17 BK S (by omega) UP H NC1 hf nn 0 h (by omega) (fun _ _ _ => rfl) (fun j hj => ?_)) (fun u q => ?_)
        · rw [Ah 13 j (by omega), I0 j hj]
          by_cases q8 : j < 8
          · rw [if_pos q8]
          · rw [if_neg q8, if_neg (by omega)]
            unfold bi_A
            rw [if_neg (by omega), if_neg (by omega)]
        · unfold qw_X13_heads_50
          refine pc_if (fun _ => ?_) (fun y => absurd (by omega) y)
          refine HO u r (fun cc y z1 z2 z3 => ?_) Ar ?_ rf (by omega) (by rw [kn] at OK; exact OK) q.1
          · rw [q.2 cc y z2 z3]; exact Ah cc y z1
          · rw [q.2 2 11 (by omega) (by omega)]; exact hf
      · refine pc_if (fun y => absurd hf y) (fun _ => ?_)
        refine pc_sv (c_head BK S H NC1 UP hf (k := k) (by omega)) ?_; intro u20 q20
        refine pc_add (by omega) ?_; intro v21 e21
        refine pc_fl ?_
        unfold qw_X13_heads_50
        refine pc_if (fun y => absurd y (by omega)) (fun _ => ?_)
        refine pc_if (fun y => absurd rf y) (fun _ => ?_)
        refine r_head BK S D (by rw [r180]; exact UP) rf (by omega) k8 (fun v F fr => ?_)
        rw [r180] at F
        have E := fch_d q20.1 F
        rw [show v21 = ((k + 1 : Nat) : Int) by omega]
        by_cases q : u20 2 11 = 0
        · have OKk : k < 8 ∧ CLz (fun k => V (C k)) n (V (C k)) (8 + (k : Int)) ∧ ¬ r0 180 k = -1 ∧ ENDS (r0 180) n k := by
            rcases q20.1 with ⟨a0, a1, a2⟩ | ⟨a0, ⟨a1, a2, a3⟩ | ⟨a1, ⟨a2, a3, a4⟩ | ⟨a2, ⟨a3, a4, a5⟩ | ⟨a3, a4⟩⟩⟩⟩
            · omega
            · omega
            · omega
            · omega
            · exact ⟨a0, a1, a2, a3⟩
          refine pc_fl (ih f2 (k + 1) u20 v (fun cc y z => by rw [q20.2 cc y z]; exact Ah cc y z) (fun cc y z => by rw [fr cc y z]; exact Ar cc y z) q (by rw [← E.1]; exact q) (by omega) (by omega) (fun j hj => ?_))
          by_cases jk : j = k
          · rw [jk]; exact OKk.2
          · exact OK j (by omega)
        · have SF : SFj u20 v := ⟨q, E.1.symm, (E.2 q).symm⟩
          refine pc_fl (pj_sf (o := fun a => a) (q := fun b => b) SF (fs_qw_X2_readClasses_17 f _ _ q) (ft_qw_X13_heads_50 f2 _ _ (sf_r SF)) (fun a b s => HS a b s))
/-- both sides: readClasses, and heads up to the members -/
theorem j_classes (h17 : 17 ≤ nn) (BK : TBn K c) (S : CKd K V C n N) (H0 : HDc K P V C c n h) (h9 : h 2 9 = (N : Int)) (D0 : HDr K P V C c n r) (I0 : ∀ j : Nat, j < 16 → h 13 j = bi_A j) (hf : h 2 11 = 0) (rf : r 160 9 = 0) {Z : ms_M → ms_M → Prop} (HS : ∀ u v, SFj u v → Z u v) (HO : ∀ u v : ms_M, (∀ cc y : Nat, ¬ (cc = 2 ∧ (y = 11 ∨ y = 12)) → ¬ cc = 13 → ¬ cc = 14 → ¬ cc = 16 → u cc y = h cc y) → (∀ cc y : Nat, ¬ (cc = 160 ∧ (y = 9 ∨ y = 10)) → ¬ cc = 180 → v cc y = r cc y) → u 2 11 = 0 → v 160 9 = 0 → n ≤ 8 → NCl V C n N u → (∀ k : Nat, k < n → UPk K V C n k (v 180 k)) → OKc V C (v 180) n n → KNc (v 180) n u → Pc (qw_X13_heads_192 nn nn 0 v) (fun v2 => Z u v2)) : Pc (qf_X2_readClasses nn h) (fun u => Pc (qf_X13_heads nn r) (fun v => Z u v)) := by
  unfold qf_X2_readClasses
  refine pc_if (fun _ => ?_) (fun y => absurd hf y)
  refine pc_sv (c_nameClasses BK S H0 h9) ?_; intro u27 q27
  refine pc_fl ?_
  unfold qf_X13_heads
  refine r_heads2 BK S D0 (fun r1 A U => ?_) nn 0 r (by omega) (fun _ _ _ => rfl) (fun j hj => absurd hj (by omega))
  refine pc_fl ?_
  refine j_cl17 h17 BK S U (hdc_k H0 (fun cc y q => q27.2 cc y (by omega))) q27.1 (hdr_k D0 (fun cc y q => A cc y (by omega))) (fun j hj => by rw [q27.2 13 j (by omega)]; exact I0 j hj) HS (fun u v Au Av uf vf n8 OK KN => ?_) nn nn 0 u27 r1 (fun _ _ _ => rfl) (fun _ _ _ => rfl) (by rw [q27.2 2 11 (by omega)]; exact hf) (by rw [A 160 9 (by omega)]; exact rf) (by omega) (by omega) (fun j hj => absurd hj (by omega))
  have v180 : v 180 = r1 180 := funext (fun x => Av 180 x (by omega))
  refine HO u v (fun cc y z1 z2 z3 z4 => ?_) (fun cc y z1 z2 => ?_) uf vf n8 (fun x hx => ?_) (by rw [v180]; exact U) (by rw [v180]; exact OK) (by rw [v180]; exact KN)
  · rw [Au cc y z1 z2 z3]; exact q27.2 cc y z4
  · rw [Av cc y z1]; exact A cc y z2
  · rw [Au 16 x (by omega) (by omega) (by omega)]; exact q27.1 x hx
end
end
section
/- HEADS: over a BLOCK -/
def BCl (K : Nat → Int) (X : Int → Int → Prop) : Prop := ∀ x o : Int, 0 ≤ x → (1 ≤ o ∧ o ≤ x) → ¬ K x.toNat = 0 → ((K x.toNat = 42 → X (x + 1) (o + 1)) ∧ (K x.toNat = 43 → X (x + 1) (o - 1)) ∧ (¬ K x.toNat = 42 → ¬ K x.toNat = 43 → X (x + 1) o)) → X x o
/-- tokens [p, q): as many { as }, and never more } than { -/
def BLz (K : Nat → Int) (p q : Int) : Prop := p ≤ q ∧ ∀ X : Int → Int → Prop, BCl K X → 0 ≤ p → ∀ o : Int, (1 ≤ o ∧ o ≤ p) → X q o → X p o
def BKz (K : Nat → Int) (p q : Int) : Prop := K p.toNat = 42 ∧ ∃ t : Int, BLz K (p + 1) t ∧ K t.toNat = 43 ∧ q = t + 1
def OKk (k : Int) : Prop := ¬ k = 0 ∧ ¬ k = 42 ∧ ¬ k = 43
section
variable {nn : Nat} {K P V U : Nat → Int} {C : Nat → Nat} {c n N : Nat} {h g r w u v T : ms_M} {x y z t : Int}
theorem bl_t (A : BLz K x y) (B : BLz K y z) : BLz K x z := ⟨by have := A.1; have := B.1; omega, fun X cl h o ho q => A.2 X cl h o ho (B.2 X cl (by have := A.1; omega) o (by have := A.1; omega) q)⟩
theorem bl_0 : BLz K x x := ⟨by omega, fun X cl h o ho q => q⟩
theorem bl_e (e : z = y) (A : BLz K x y) : BLz K x z := by rw [e]; exact A
theorem bl_1 (k : OKk (K x.toNat)) : BLz K x (x + 1) := ⟨by omega, fun X cl h o ho q => cl x o h ho k.1 ⟨fun z => absurd z k.2.1, fun z => absurd z k.2.2, fun _ _ => q⟩⟩
theorem bl_s (k : OKk (K x.toNat)) (B : BLz K (x + 1) y) : BLz K x y := bl_t (bl_1 k) B
theorem bl_2 (a : OKk (K x.toNat)) (b : OKk (K (x + 1).toNat)) : BLz K x (x + 2) := bl_e (by omega) (bl_t (bl_1 a) (bl_1 b))
theorem bl_3 (a : OKk (K x.toNat)) (b : OKk (K (x + 1).toNat)) (d : OKk (K (x + 2).toNat)) : BLz K x (x + 3) := bl_e (by omega) (bl_t (bl_2 a b) (bl_1 d))
theorem bl_b (k1 : K x.toNat = 42) (A : BLz K (x + 1) t) (k2 : K t.toNat = 43) : BLz K x (t + 1) := ⟨by have := A.1; omega, fun X cl h o ho q => by
  have a1 := A.1
  refine cl x o h ho (by omega) ⟨fun _ => ?_, fun z => absurd z (by omega), fun z => absurd k1 z⟩
  refine A.2 X cl (by omega) (o + 1) (by omega) ?_
  refine cl t (o + 1) (by omega) (by omega) (by omega) ⟨fun z => absurd z (by omega), fun _ => ?_, fun _ z => absurd k2 z⟩
  rw [show o + 1 - 1 = o by omega]; exact q⟩
theorem ok_k {k : Int} (q : ¬ k = 0 ∧ ¬ k = 42 ∧ ¬ k = 43) : OKk k := q
theorem st_ok {k : Int} (q : 0 ≤ st_T k) : OKk k := ⟨fun z => by rw [z] at q; exact absurd q (by decide), fun z => by rw [z] at q; exact absurd q (by decide), fun z => by rw [z] at q; exact absurd q (by decide)⟩
theorem bl_ty {bs rw : Int} (H : TYk K x t bs rw) : BLz K x t := by
  rcases H with ⟨a, b, d, e⟩ | ⟨a, ⟨b1, b2, b3, b4⟩ | ⟨b1, b2, b3⟩⟩
  · exact bl_e e (bl_1 (ok_k (by omega)))
  · exact bl_e b4 (bl_3 (ok_k (by omega)) (ok_k (by omega)) (ok_k (by omega)))
  · exact bl_e b3 (bl_1 (ok_k (by omega)))
theorem lk_bl {s : Nat} {d i l a b p q e : Int} (H : LKn d K T s i l a b p q e) : BLz K p q ∧ (s = 8 → BKz K p q ∧ T 169 e.toNat = p) := by
  refine lk_ind (fun d s i l a b p q e => BLz K p q ∧ (s = 8 → BKz K p q ∧ T 169 e.toNat = p)) ?_ ?_ ?_ ?_ ?_ ?_ ?_ ?_ ?_ ?_ ?_ ?_ ?_ ?_ ?_ ?_ ?_ ?_ ?_ ?_ ?_ ?_ ?_ ?_ ?_ ?_ ?_ ?_ ?_ ?_ ?_ ?_ ?_ ?_ ?_ ?_ ?_ ?_ H
  · intro d i a b p q e x _; exact ⟨x.2.1, fun z => absurd z (by decide)⟩
  · intro d ix iy iz t u y a b p q e _ _ _ x1 _ k1 x2 _ k2 x3 _
    exact ⟨bl_t x1.2.1 (bl_s (ok_k (by omega)) (bl_t x2.2.1 (bl_s (ok_k (by omega)) x3.2.1))), fun z => absurd z (by decide)⟩
  · intro d i l a b p q e x; exact ⟨x.2.1, fun z => absurd z (by decide)⟩
  · intro d ix iy l s t a b p q e _ _ ks x1 _ x2 _
    exact ⟨bl_t x1.2.1 (bl_s (st_ok (by omega)) x2.2.1), fun z => absurd z (by decide)⟩
  · intro d ix l t a b p q e _ _ k x _
    exact ⟨bl_t x.2.1 (bl_e k.2.2.2 (bl_2 (ok_k (by omega)) (ok_k (by omega)))), fun z => absurd z (by decide)⟩
  · intro d ix a b p q e _ k x _
    exact ⟨bl_s (ok_k (by omega)) x.2.1, fun z => absurd z (by decide)⟩
  · intro d ix a b p q e _ k x _
    obtain ⟨⟨k1, k2, k3, -⟩, -⟩ := k
    exact ⟨bl_t (bl_3 (ok_k (by omega)) (ok_k (by omega)) (ok_k (by omega))) x.2.1, fun z => absurd z (by decide)⟩
  · intro d i a b p q e x _; exact ⟨x.2.1, fun z => absurd z (by decide)⟩
  · intro d a b p q e _ k _
    exact ⟨bl_e k.2.2 (bl_1 (ok_k (by omega))), fun z => absurd z (by decide)⟩
  · intro d a b p q e _ _ k _
    exact ⟨bl_e k.2.2 (bl_1 (ok_k (by omega))), fun z => absurd z (by decide)⟩
  · intro d a b p q e _ _ k x _
    exact ⟨bl_s (ok_k (by omega)) x.2.1, fun z => absurd z (by decide)⟩
  · intro d i t a b p q e k x
    exact ⟨bl_s (ok_k (by omega)) (bl_t x.2.1 (bl_e k.2.2 (bl_1 (ok_k (by omega))))), fun z => absurd z (by decide)⟩
  · intro d ix t a b p q e _ _ k x _ k2
    exact ⟨bl_t (bl_3 (ok_k (by omega)) (ok_k (by omega)) (ok_k (by omega))) (bl_t x.2.1 (bl_e k2.2 (bl_1 (ok_k (by omega))))), fun z => absurd z (by decide)⟩
  · intro d a b p q e _ _ k _
    exact ⟨bl_e (by omega) (bl_t (bl_3 (x := p) (ok_k (by omega)) (ok_k (by omega)) (ok_k (by omega))) (bl_1 (ok_k (by omega)))), fun z => absurd z (by decide)⟩
  · intro d ix t a b p q e _ _ k x _ k2
    exact ⟨bl_t (bl_3 (ok_k (by omega)) (ok_k (by omega)) (ok_k (by omega))) (bl_t x.2.1 (bl_e k2.2 (bl_1 (ok_k (by omega))))), fun z => absurd z (by decide)⟩
  · intro d ix t a b p q e _ _ k x _
    exact ⟨bl_t x.2.1 (bl_e k.2.2.2 (bl_2 (ok_k (by omega)) (ok_k (by omega)))), fun z => absurd z (by decide)⟩
  · intro d ix t a b p q e _ _ k x _ x2
    exact ⟨bl_t x.2.1 (bl_t (bl_2 (ok_k (by omega)) (ok_k (by omega))) x2.2.1), fun z => absurd z (by decide)⟩
  · intro d ix iy t u a b p q e _ _ k x _ x2 _
    exact ⟨bl_t x.2.1 (bl_s (ok_k (by omega)) (bl_t x2.2.1 (bl_e k.2.2 (bl_1 (ok_k (by omega)))))), fun z => absurd z (by decide)⟩
  · intro d a b p q k
    exact ⟨bl_e k.2.2 (bl_2 (ok_k (by omega)) (ok_k (by omega))), fun z => absurd z (by decide)⟩
  · intro d a b p q e k x
    exact ⟨bl_s (ok_k (by omega)) x.2.1, fun z => absurd z (by decide)⟩
  · intro d ix t a b p q e _ x _ k
    exact ⟨bl_t x.2.1 (bl_e k.2.2 (bl_1 (ok_k (by omega)))), fun z => absurd z (by decide)⟩
  · intro d ix t a b p q e _ x _ k x2
    exact ⟨bl_t x.2.1 (bl_s (ok_k (by omega)) x2.2.1), fun z => absurd z (by decide)⟩
  · intro d a b p q e x; exact ⟨x.2.1, fun z => absurd z (by decide)⟩
  · intro d ix t u bs rw a b p q e _ _ k x _ k2
    exact ⟨bl_t (bl_ty k.1) (bl_t (bl_2 (ok_k (by omega)) (ok_k (by omega))) (bl_t x.2.1 (bl_e k2.2 (bl_1 (ok_k (by omega)))))), fun z => absurd z (by decide)⟩
  · intro d ix t y a b p q e _ _ _ k x _ k2 x2
    exact ⟨bl_t (bl_2 (ok_k (by omega)) (ok_k (by omega))) (bl_t x.2.1 (bl_s (ok_k (by omega)) x2.2.1)), fun z => absurd z (by decide)⟩
  · intro d ix t u y z a b p q e _ _ _ k x _ k2 x2 x3
    exact ⟨bl_t (bl_2 (ok_k (by omega)) (ok_k (by omega))) (bl_t x.2.1 (bl_s (ok_k (by omega)) (bl_t x2.2.1 (bl_s (ok_k (by omega)) x3.2.1)))), fun z => absurd z (by decide)⟩
  · intro d ix t y a b p q e _ _ _ k _ x _ k2 x2
    exact ⟨bl_t (bl_2 (ok_k (by omega)) (ok_k (by omega))) (bl_t x.2.1 (bl_s (ok_k (by omega)) x2.2.1)), fun z => absurd z (by decide)⟩
  · intro d a b p q e _ k k2 _
    exact ⟨bl_e k2.2 (bl_2 (ok_k (by omega)) (ok_k (by omega))), fun z => absurd z (by decide)⟩
  · intro d a b p q e _ _ k _
    exact ⟨bl_e k.2.2 (bl_2 (ok_k (by omega)) (ok_k (by omega))), fun z => absurd z (by decide)⟩
  · intro d ix t a b p q e _ _ k x _ k2
    exact ⟨bl_s (ok_k (by omega)) (bl_t x.2.1 (bl_e k2.2 (bl_1 (ok_k (by omega))))), fun z => absurd z (by decide)⟩
  · intro d ix t a b p q e _ _ k x _ k2
    exact ⟨bl_s (ok_k (by omega)) (bl_t x.2.1 (bl_e k2.2 (bl_1 (ok_k (by omega))))), fun z => absurd z (by decide)⟩
  · intro d ix t a b p q e _ _ k x _ k2
    exact ⟨bl_t (bl_2 (ok_k (by omega)) (ok_k (by omega))) (bl_t x.2.1 (bl_e k2.2.2 (bl_2 (ok_k (by omega)) (ok_k (by omega))))), fun z => absurd z (by decide)⟩
  · intro d t y a b p q e _ _ _ k x k2 x2
    exact ⟨bl_s (ok_k (by omega)) (bl_t x.2.1 (bl_t (bl_3 (ok_k (by omega)) (ok_k (by omega)) (ok_k (by omega))) (bl_t (bl_e (y := t + 3 + 2) (z := t + 5) (by omega) (bl_2 (x := t + 3) (ok_k (by omega)) (ok_k (by rw [show t + 3 + 1 = t + 4 by omega]; omega)))) x2.2.1))), fun z => absurd z (by decide)⟩
  · intro d ix t a b p q e _ _ _ x _ k
    exact ⟨bl_t x.2.1 (bl_e k.2 (bl_1 (ok_k (by omega)))), fun z => absurd z (by decide)⟩
  · intro d ix iy t u y a b p q e _ _ _ _ x _ k x2 _ k2
    exact ⟨bl_t x.2.1 (bl_s (ok_k (by omega)) (bl_t x2.2.1 (bl_e k2.2 (bl_1 (ok_k (by omega)))))), fun z => absurd z (by decide)⟩
  · intro d a b p _ _; exact ⟨bl_0, fun z => absurd z (by decide)⟩
  · intro d t y a b p q e _ _ x x2; exact ⟨bl_t x.2.1 x2.2.1, fun z => absurd z (by decide)⟩
  · intro d t a b p q e _ k0 k x k2
    exact ⟨bl_e k2.2 (bl_b k x.2.1 k2.1), fun _ => ⟨⟨k, t, x.2.1, k2⟩, k0.2⟩⟩
theorem tbc_k (B : TBc K P c h) (e : ∀ cc y : Nat, cc = 3 ∨ cc = 4 ∨ (cc = 2 ∧ y = 3) → g cc y = h cc y) : TBc K P c g := ⟨by rw [e 2 3 (by omega)]; exact B.1, fun i hi => by rw [e 3 i (by omega), e 4 i (by omega)]; exact B.2 i hi⟩
/-- the class goes over a BLOCK -/
theorem c_skp (BK : TBn K c) (B : TBc K P c h) (hf : h 2 11 = 0) {p : Nat} {q : Int} (p1 : 1 ≤ p) (h10 : h 2 10 = (p : Int)) (H : BKz K (p : Int) q) : Pc (qf_X2_skipBlock nn h) (fun u => u 2 10 = q ∧ ∀ cc y : Nat, ¬ (cc = 2 ∧ y = 10) → u cc y = h cc y) := by
  have n3 := BK.2.1
  obtain ⟨k42, t, bl, k43, qe⟩ := H
  rw [Int.toNat_natCast] at k42
  have pt := bl.1
  have plc := tb_lt BK (i := p) (by omega)
  have S6 : ∀ (X : Int → Int → Prop), X = (fun x o => ∀ (f : Nat) (g : ms_M), (∀ cc y : Nat, ¬ (cc = 2 ∧ y = 10) → g cc y = h cc y) → g 2 10 = x → Pc (qw_X2_skipBlock_6 nn f o (if o ≤ 0 then 0 else 1) (x - p) g) (fun u => u 2 10 = q ∧ ∀ cc y : Nat, ¬ (cc = 2 ∧ y = 10) → u cc y = h cc y)) → ∀ (x o : Int) (f : Nat) (g : ms_M), (0 ≤ x ∧ x ≤ 3001) → (∀ cc y : Nat, ¬ (cc = 2 ∧ y = 10) → g cc y = h cc y) → g 2 10 = x → X (x + 1) o → Pc (qj_X2_skipBlock_60 nn (qw_X2_skipBlock_6 nn f) o (x - p) g) (fun u => u 2 10 = q ∧ ∀ cc y : Nat, ¬ (cc = 2 ∧ y = 10) → u cc y = h cc y) := by
    intro X eX x o f g bx Ag gx HX
    rw [eX] at HX
    unfold qj_X2_skipBlock_60
    rw [gx]
    refine pc_add (by omega) ?_; intro v3 e3
    refine pc_xl ?_; intro h4 e4
    have A4 : ∀ cc y : Nat, ¬ (cc = 2 ∧ y = 10) → h4 cc y = h cc y := fun cc y z => by rw [e4, up_n z]; exact Ag cc y z
    have R := HX f h4 A4 (by rw [e4, up_s]; exact e3)
    rw [show x + 1 - (p : Int) = x - p + 1 by omega] at R
    refine pc_if (fun z => ?_) (fun z => ?_)
    · refine pc_add (by omega) ?_; intro v5 e5
      rw [if_pos z] at R
      rw [e5]; exact R
    · refine pc_add (by omega) ?_; intro v5 e5
      rw [if_neg z] at R
      rw [e5]; exact R
  have cl : BCl K (fun x o => ∀ (f : Nat) (g : ms_M), (∀ cc y : Nat, ¬ (cc = 2 ∧ y = 10) → g cc y = h cc y) → g 2 10 = x → Pc (qw_X2_skipBlock_6 nn f o (if o ≤ 0 then 0 else 1) (x - p) g) (fun u => u 2 10 = q ∧ ∀ cc y : Nat, ¬ (cc = 2 ∧ y = 10) → u cc y = h cc y)) := by
    intro x o hx ho kx ⟨a42, a43, an⟩ f g Ag gx
    have xc := tb_lt BK kx
    have gB := tbc_k B (fun cc y z => Ag cc y (by omega))
    have gf : g 2 11 = 0 := by rw [Ag 2 11 (by omega)]; exact hf
    rw [if_neg (show ¬ o ≤ 0 by omega)]
    cases f with
    | zero => exact pc_none
    | succ f =>
      unfold qw_X2_skipBlock_6
      refine pc_if (fun z => absurd z (by omega)) (fun _ => ?_)
      refine pc_if (fun z => absurd z (by decide)) (fun _ => ?_)
      refine pc_sv (c_kind BK gB xc (by omega) gf) ?_; intro u10 q10
      refine pc_if (fun z => absurd (q10.symm.trans z) kx) (fun _ => ?_)
      refine pc_sv (c_kind BK gB xc (by omega) gf) ?_; intro u13 q13
      refine pc_if (fun z => ?_) (fun z => ?_)
      · refine pc_sv (c_kind BK gB xc (by omega) gf) ?_; intro u16 q16
        refine pc_if (fun z2 => ?_) (fun z2 => ?_)
        · exact S6 _ rfl x o f g (by omega) Ag gx (an (by omega) (by omega))
        · refine pc_add (by omega) ?_; intro v17 e17
          rw [show v17 = o - 1 by omega]
          exact S6 _ rfl x (o - 1) f g (by omega) Ag gx (a43 (by omega))
      · refine pc_add (by omega) ?_; intro v19 e19
        rw [e19]
        exact S6 _ rfl x (o + 1) f g (by omega) Ag gx (a42 (by omega))
  unfold qf_X2_skipBlock
  cases hn : nn with
  | zero => exact pc_none
  | succ m =>
    rw [← hn]
    have pc := tb_lt BK (i := p) (by omega)
    have E : qw_X2_skipBlock_6 nn nn 0 1 0 h = qw_X2_skipBlock_6 nn (m + 1) 0 1 0 h := by rw [← hn]
    rw [E]
    unfold qw_X2_skipBlock_6
    refine pc_if (fun z => absurd z (by decide)) (fun _ => ?_)
    refine pc_if (fun z => absurd z (by decide)) (fun _ => ?_)
    refine pc_sv (c_kind BK B pc h10 hf) ?_; intro u10 q10
    refine pc_if (fun z => absurd z (by omega)) (fun _ => ?_)
    refine pc_sv (c_kind BK B pc h10 hf) ?_; intro u13 q13
    refine pc_if (fun z => absurd (q13.trans k42) z) (fun _ => ?_)
    refine pc_add (by omega) ?_; intro v19 e19
    rw [show v19 = 1 by omega]
    have XQ : ∀ (f : Nat) (g : ms_M), (∀ cc y : Nat, ¬ (cc = 2 ∧ y = 10) → g cc y = h cc y) → g 2 10 = t + 1 → Pc (qw_X2_skipBlock_6 nn f (1 - 1) (if (1 : Int) - 1 ≤ 0 then 0 else 1) (t + 1 - p) g) (fun u => u 2 10 = q ∧ ∀ cc y : Nat, ¬ (cc = 2 ∧ y = 10) → u cc y = h cc y) := by
      intro f g Ag gx
      rw [show (1 : Int) - 1 = 0 by omega, if_pos (show (0 : Int) ≤ 0 by decide)]
      cases f with
      | zero => exact pc_none
      | succ f =>
        unfold qw_X2_skipBlock_6
        refine pc_if (fun _ => pc_ret ⟨by omega, Ag⟩) (fun _ => ?_)
        exact pc_if (fun _ => pc_ret ⟨by omega, Ag⟩) (fun z => absurd rfl z)
    have ST := S6 _ rfl (p : Int) 1 m h (by omega) (fun _ _ _ => rfl) h10 (bl.2 _ cl (by omega) 1 (by omega) (cl t 1 (by omega) (by omega) (by omega) ⟨fun z => absurd z (by omega), fun _ => XQ, fun _ z => absurd k43 z⟩))
    rw [show (p : Int) - p = 0 by omega] at ST
    exact ST
end
end
section
/- HEADS: types of both sides -/
/-- the reference's number of a class's type -/
def ty_T (t : Int) : Int := if t = 301 then 0 else if t = 302 then 1 else if t = 300 then 2 else if t = 303 then 3 else if t = 200 then 4 else if t < 100 then 8 + 2 * t else 2 * t - 191
def VTy (t : Int) : Prop := t = 301 ∨ t = 302 ∨ t = 303 ∨ t = 300 ∨ t = 200 ∨ (0 ≤ t ∧ t < 16) ∨ (100 ≤ t ∧ t < 116)
/-- the type that is spelled at token p -/
def TYS (V : Nat → Int) (C : Nat → Nat) (n : Nat) (p bs rw ty : Int) : Prop := (bs = 1 ∧ ty = 302) ∨ (bs = 0 ∧ rw = 0 ∧ ty = 301) ∨ (bs = 0 ∧ rw = 1 ∧ ty = 200) ∨ (bs = 2 ∧ ty = 303) ∨ (bs = 3 ∧ ∃ cl : Int, CLz (fun k => V (C k)) n (V p.toNat) cl ∧ ¬ cl = -1 ∧ ((rw = 0 ∧ ty = cl) ∨ (rw = 1 ∧ ty = 100 + cl)))
section
variable {nn : Nat} {K P V U : Nat → Int} {C : Nat → Nat} {c n N : Nat} {h g r w u v : ms_M}
theorem ty_c {t : Int} (H : VTy t) : (t = 301 ∧ ty_T t = 0) ∨ (t = 302 ∧ ty_T t = 1) ∨ (t = 300 ∧ ty_T t = 2) ∨ (t = 303 ∧ ty_T t = 3) ∨ (t = 200 ∧ ty_T t = 4) ∨ ((0 ≤ t ∧ t < 16) ∧ ty_T t = 8 + 2 * t) ∨ ((100 ≤ t ∧ t < 116) ∧ ty_T t = 2 * t - 191) := by
  rcases H with e | e | e | e | e | e | e
  · rw [e]; exact .inl ⟨rfl, rfl⟩
  · rw [e]; exact .inr (.inl ⟨rfl, rfl⟩)
  · rw [e]; exact .inr (.inr (.inr (.inl ⟨rfl, rfl⟩)))
  · rw [e]; exact .inr (.inr (.inl ⟨rfl, rfl⟩))
  · rw [e]; exact .inr (.inr (.inr (.inr (.inl ⟨rfl, rfl⟩))))
  · refine .inr (.inr (.inr (.inr (.inr (.inl ⟨e, ?_⟩)))))
    unfold ty_T
    rw [if_neg (by omega), if_neg (by omega), if_neg (by omega), if_neg (by omega), if_neg (by omega), if_pos (by omega)]
  · refine .inr (.inr (.inr (.inr (.inr (.inr ⟨e, ?_⟩)))))
    unfold ty_T
    rw [if_neg (by omega), if_neg (by omega), if_neg (by omega), if_neg (by omega), if_neg (by omega), if_neg (by omega)]
theorem ty_i {a b : Int} (A : VTy a) (B : VTy b) : ty_T a = ty_T b ↔ a = b := by
  have x := ty_c A
  have y := ty_c B
  constructor
  · intro e; omega
  · intro e; rw [e]
theorem tys_d {p bs rw a b : Int} (A : TYS V C n p bs rw a) (B : TYS V C n p bs rw b) : a = b := by
  rcases A with ⟨a1, a2⟩ | ⟨a1, a2, a3⟩ | ⟨a1, a2, a3⟩ | ⟨a1, a2⟩ | ⟨a1, x, a2, a3, a4⟩
  · rcases B with ⟨b1, b2⟩ | ⟨b1, b2, b3⟩ | ⟨b1, b2, b3⟩ | ⟨b1, b2⟩ | ⟨b1, _⟩ <;> omega
  · rcases B with ⟨b1, b2⟩ | ⟨b1, b2, b3⟩ | ⟨b1, b2, b3⟩ | ⟨b1, b2⟩ | ⟨b1, _⟩ <;> omega
  · rcases B with ⟨b1, b2⟩ | ⟨b1, b2, b3⟩ | ⟨b1, b2, b3⟩ | ⟨b1, b2⟩ | ⟨b1, _⟩ <;> omega
  · rcases B with ⟨b1, b2⟩ | ⟨b1, b2, b3⟩ | ⟨b1, b2, b3⟩ | ⟨b1, b2⟩ | ⟨b1, _⟩ <;> omega
  · rcases B with ⟨b1, b2⟩ | ⟨b1, b2, b3⟩ | ⟨b1, b2, b3⟩ | ⟨b1, b2⟩ | ⟨b1, y, b2, b3, b4⟩
    · omega
    · omega
    · omega
    · omega
    · have e := cls_d a2 b2
      omega
theorem tys_v (S : CKd K V C n N) (n8 : n ≤ 8) {p bs rw a : Int} (kp : bs = 3 → K p.toNat = 2) (A : TYS V C n p bs rw a) : VTy a ∧ (bs = 2 ∨ ¬ a = 303) ∧ ¬ a = 300 := by
  rcases A with ⟨a1, a2⟩ | ⟨a1, a2, a3⟩ | ⟨a1, a2, a3⟩ | ⟨a1, a2⟩ | ⟨a1, x, a2, a3, a4⟩
  · exact ⟨.inr (.inl a2), .inr (by omega), by omega⟩
  · exact ⟨.inl a3, .inr (by omega), by omega⟩
  · exact ⟨.inr (.inr (.inr (.inr (.inl a3)))), .inr (by omega), by omega⟩
  · exact ⟨.inr (.inr (.inl a2)), .inl a1, by omega⟩
  · have b := cls_b a2 (S.2.2 _ (kp a1)).1
    rcases a4 with ⟨d1, d2⟩ | ⟨d1, d2⟩
    · exact ⟨.inr (.inr (.inr (.inr (.inr (.inl (by omega)))))), .inr (by omega), by omega⟩
    · exact ⟨.inr (.inr (.inr (.inr (.inr (.inr (by omega)))))), .inr (by omega), by omega⟩
theorem cy_109 {l1 l3 l4 : Int} (hl : -1 ≤ l3 ∧ l3 ≤ 1000) : Pc (qj_X2_readType_109 nn l1 l3 l4 h) (fun u => u.2 = h ∧ ((l1 = 20 ∧ l4 = 0 ∧ u.1 = 301) ∨ (l1 = 20 ∧ ¬ l4 = 0 ∧ u.1 = 200) ∨ (¬ l1 = 20 ∧ l4 = 0 ∧ u.1 = l3) ∨ (¬ l1 = 20 ∧ ¬ l4 = 0 ∧ u.1 = 100 + l3))) := by
  unfold qj_X2_readType_109
  refine pc_if (fun z => ?_) (fun z => ?_)
  · refine pc_if (fun y => ?_) (fun y => ?_)
    · exact pc_ret ⟨rfl, .inr (.inr (.inl ⟨z, y, rfl⟩))⟩
    · refine pc_add (by omega) ?_; intro v1 e1
      exact pc_ret ⟨rfl, .inr (.inr (.inr ⟨z, y, e1⟩))⟩
  · have z1 : l1 = 20 := Classical.byContradiction z
    refine pc_if (fun y => ?_) (fun y => ?_)
    · exact pc_ret ⟨rfl, .inl ⟨z1, y, rfl⟩⟩
    · exact pc_ret ⟨rfl, .inr (.inl ⟨z1, y, rfl⟩)⟩
/-- behind the NAME: [ ] or nothing -/
theorem cy_53 (BK : TBn K c) (B : TBc K P c h) (hf : h 2 11 = 0) {p : Nat} {l1 l2 s0 : Int} (hp : p + 1 < c) (h10 : h 2 10 = ((p + 1 : Nat) : Int)) (hs : -1 ≤ s0 ∧ s0 ≤ 1000) (s1 : ¬ s0 = -1) : Pc (qj_X2_readType_53 nn l1 l2 s0 h) (fun u => (∀ cc y : Nat, ¬ (cc = 2 ∧ y = 10) → u.2 cc y = h cc y) ∧ ((K (p + 1) = 44 ∧ u.2 2 10 = ((p + 3 : Nat) : Int) ∧ ((l1 = 20 ∧ u.1 = 200) ∨ (¬ l1 = 20 ∧ u.1 = 100 + s0))) ∨ (¬ K (p + 1) = 44 ∧ u.2 2 10 = ((p + 1 : Nat) : Int) ∧ ((l1 = 20 ∧ u.1 = 301) ∨ (¬ l1 = 20 ∧ u.1 = s0))))) := by
  have n3 := BK.2.1
  unfold qj_X2_readType_53
  refine pc_if (fun _ => ?_) (fun z => absurd s1 z)
  refine pc_sv (c_kind BK B hp h10 hf) ?_; intro u12 q12
  refine pc_if (fun z => ?_) (fun z => ?_)
  · unfold qj_X2_readType_89
    refine pc_if (fun _ => ?_) (fun y => absurd rfl y)
    refine pc_imp (cy_109 hs) (fun u q => ⟨fun cc y _ => by rw [q.1], .inr ⟨by omega, by rw [q.1]; exact h10, ?_⟩⟩)
    rcases q.2 with ⟨a, b, d⟩ | ⟨a, b, d⟩ | ⟨a, b, d⟩ | ⟨a, b, d⟩
    · exact .inl ⟨a, d⟩
    · exact absurd rfl b
    · exact .inr ⟨a, d⟩
    · exact absurd rfl b
  · unfold qj_X2_readType_89
    refine pc_if (fun y => absurd y (by decide)) (fun _ => ?_)
    rw [h10]
    refine pc_add (by omega) ?_; intro v7 e7
    refine pc_xl ?_; intro h8 e8
    refine pc_imp (cy_109 hs) (fun u q => ⟨fun cc y y2 => by rw [q.1, e8, up_n y2], .inl ⟨by omega, by rw [q.1, e8, up_s]; omega, ?_⟩⟩)
    rcases q.2 with ⟨a, b, d⟩ | ⟨a, b, d⟩ | ⟨a, b, d⟩ | ⟨a, b, d⟩
    · exact absurd b (by decide)
    · exact .inl ⟨a, d⟩
    · exact absurd b (by decide)
    · exact .inr ⟨a, d⟩
theorem c_type (BK : TBn K c) (S : CKd K V C n N) (n8 : n ≤ 8) (B : TBc K P c h) (L : VLc K V c h) (NC : NCl V C n N h) (hf : h 2 11 = 0) {p : Nat} {t bs rw : Int} (h10 : h 2 10 = (p : Int)) (T : TYk K (p : Int) t bs rw) (hc : p + 1 < c) : Pc (qf_X2_readType nn h) (fun u => (TYS V C n (p : Int) bs rw u.1 ∧ u.2 2 10 = t ∧ ∀ cc y : Nat, ¬ (cc = 2 ∧ y = 10) → u.2 cc y = h cc y) ∨ (bs = 3 ∧ CLz (fun k => V (C k)) n (V p) (-1) ∧ u.2 2 11 = 5 ∧ u.2 2 12 = P p)) := by
  have n3 := BK.2.1
  unfold qf_X2_readType
  refine pc_sv (c_kind BK B (p := p) (by omega) h10 hf) ?_; intro u20 q20
  rw [h10]
  refine pc_add (by omega) ?_; intro v25 e25
  refine pc_xl ?_; intro h26 e26
  have F : ∀ cc y : Nat, ¬ (cc = 2 ∧ y = 10) → h26 cc y = h cc y := fun cc y z => by rw [e26, up_n z]
  have F10 : h26 2 10 = ((p + 1 : Nat) : Int) := by rw [e26, up_s]; omega
  have B2 := tbc_k B (fun cc y z => F cc y (by omega))
  have f2 : h26 2 11 = 0 := by rw [F 2 11 (by omega)]; exact hf
  have L2 : VLc K V c h26 := fun i hi ki => by rw [F 5 i (by omega)]; exact L i hi ki
  have NC2 : NCl V C n N h26 := fun x hx => by rw [F 16 x (by omega)]; exact NC x hx
  unfold TYk at T
  rw [show ((p : Int)).toNat = p by omega, show ((p : Int) + 1).toNat = p + 1 by omega, show ((p : Int) + 2).toNat = p + 2 by omega] at T
  rcases T with ⟨k10, a1, a2, a3⟩ | ⟨k, T⟩
  · refine pc_if (fun z => absurd (q20.trans k10) z) (fun _ => ?_)
    exact pc_ret (.inl ⟨.inl ⟨a1, rfl⟩, by show h26 2 10 = t; omega, F⟩)
  · refine pc_if (fun _ => ?_) (fun z => absurd (fun y => by omega) z)
    rcases k with ⟨k20, b0⟩ | ⟨k2, b0⟩
    · refine pc_if (fun _ => ?_) (fun z => absurd (fun y => by omega) z)
      refine pc_imp (cy_53 BK B2 f2 hc F10 (by decide) (by decide)) (fun u q => .inl ?_)
      refine ⟨?_, ?_, fun cc y z => by rw [q.1 cc y z]; exact F cc y z⟩
      · rcases T with ⟨t1, t2, t3, t4⟩ | ⟨t1, t2, t3⟩
        · rcases q.2 with ⟨_, _, ⟨_, d⟩ | ⟨d, _⟩⟩ | ⟨d, _⟩
          · exact .inr (.inr (.inl ⟨b0, t3, d⟩))
          · exact absurd (q20.trans k20) d
          · exact absurd t1 d
        · rcases q.2 with ⟨d, _⟩ | ⟨_, _, ⟨_, d⟩ | ⟨d, _⟩⟩
          · exact absurd d t1
          · exact .inr (.inl ⟨b0, t2, d⟩)
          · exact absurd (q20.trans k20) d
      · rcases q.2 with ⟨d, e, _⟩ | ⟨d, e, _⟩ <;> omega
    · refine pc_if (fun z => absurd (q20.trans k2) z) (fun _ => ?_)
      refine pc_sv (c_classAt BK S B2 L2 NC2 k2 rfl) ?_; intro u28 q28
      have vb := S.2.2 p k2
      have cb := cls_b q28 vb.1
      by_cases m1 : u28 = -1
      · unfold qj_X2_readType_53
        refine pc_if (fun z => absurd m1 z) (fun _ => ?_)
        refine pc_sv (c_tell B2 f2 (t := p) (by omega) rfl) ?_; intro u16 q16
        refine pc_ret (.inr ⟨b0, by rw [← m1]; exact q28, q16.1⟩)
      · refine pc_imp (cy_53 BK B2 f2 hc F10 (by omega) m1) (fun u q => .inl ?_)
        refine ⟨.inr (.inr (.inr (.inr ⟨b0, u28, by rw [Int.toNat_natCast]; exact q28, m1, ?_⟩))), ?_, fun cc y z => by rw [q.1 cc y z]; exact F cc y z⟩
        · rcases T with ⟨t1, t2, t3, t4⟩ | ⟨t1, t2, t3⟩
          · rcases q.2 with ⟨_, _, ⟨d, _⟩ | ⟨_, d⟩⟩ | ⟨d, _⟩
            · omega
            · exact .inr ⟨t3, d⟩
            · exact absurd t1 d
          · rcases q.2 with ⟨d, _⟩ | ⟨_, _, ⟨d, _⟩ | ⟨_, d⟩⟩
            · exact absurd d t1
            · omega
            · exact .inl ⟨t2, d⟩
        · rcases q.2 with ⟨d, e, _⟩ | ⟨d, e, _⟩ <;> omega
theorem r_56 {l3 l4 : Int} (hl : -1 ≤ l4 ∧ l4 ≤ 1000) : Pc (qj_X13_typeOf_56 nn l3 l4 r) (fun v => v.2 = r ∧ ((l3 = 0 ∧ v.1 = 8 + 2 * l4) ∨ (¬ l3 = 0 ∧ v.1 = 9 + 2 * l4))) := by
  unfold qj_X13_typeOf_56
  refine pc_xl ?_; intro v1 e1
  rw [oq_mul_eq (by omega) (by omega) (by omega)] at e1
  refine pc_add (by omega) ?_; intro v2 e2
  refine pc_if (fun z => ?_) (fun z => ?_)
  · refine pc_add (by omega) ?_; intro v3 e3
    exact pc_ret ⟨rfl, .inl ⟨z, by omega⟩⟩
  · refine pc_add (by omega) ?_; intro v4 e4
    exact pc_ret ⟨rfl, .inr ⟨z, by omega⟩⟩
theorem r_type (BK : TBn K c) (S : CKd K V C n N) (n8 : n ≤ 8) (D : HDr K P V C c n r) (rf : r 160 9 = 0) {p : Nat} {bs rw : Int} (hb : bs = 0 ∨ bs = 1 ∨ bs = 2 ∨ (bs = 3 ∧ K p = 2)) (hr : rw = 0 ∨ rw = 1) : Pc (qf_X13_typeOf nn bs (p : Int) rw r) (fun v => ((∃ ty : Int, TYS V C n (p : Int) bs rw ty ∧ v.1 = ty_T ty) ∧ v.2 = r) ∨ (bs = 3 ∧ CLz (fun k => V (C k)) n (V p) (-1) ∧ v.2 160 9 = 5 ∧ v.2 160 10 = P p)) := by
  unfold qf_X13_typeOf
  refine pc_if (fun _ => ?_) (fun z => absurd rf z)
  refine pc_if (fun z0 => ?_) (fun z0 => ?_)
  · refine pc_if (fun z1 => ?_) (fun z1 => ?_)
    · refine pc_if (fun z2 => ?_) (fun z2 => ?_)
      · have k2 : bs = 3 ∧ K p = 2 := by omega
        have vb := S.2.2 p k2.2
        refine pc_sv (r_classOf BK S D k2.2 rfl) ?_; intro u8 q8
        have cb := cls_b q8 vb.1
        refine pc_if (fun m1 => ?_) (fun m1 => ?_)
        · refine pc_imp (r_56 (by omega)) (fun v q => .inl ⟨?_, q.1⟩)
          rcases hr with e | e
          · refine ⟨u8, .inr (.inr (.inr (.inr ⟨k2.1, u8, by rw [Int.toNat_natCast]; exact q8, m1, .inl ⟨e, rfl⟩⟩))), ?_⟩
            have t := ty_c (t := u8) (.inr (.inr (.inr (.inr (.inr (.inl (by omega)))))))
            rcases q.2 with ⟨a, b⟩ | ⟨a, b⟩ <;> omega
          · refine ⟨100 + u8, .inr (.inr (.inr (.inr ⟨k2.1, u8, by rw [Int.toNat_natCast]; exact q8, m1, .inr ⟨e, rfl⟩⟩))), ?_⟩
            have t := ty_c (t := 100 + u8) (.inr (.inr (.inr (.inr (.inr (.inr (by omega)))))))
            rcases q.2 with ⟨a, b⟩ | ⟨a, b⟩ <;> omega
        · have m2 : u8 = -1 := Classical.byContradiction m1
          refine pc_sv (r_wrg D.1 rf (t := p) (tb_lt BK (by omega)) rfl) ?_; intro u10 q10
          refine pc_imp (r_56 (by omega)) (fun v q => .inr ⟨k2.1, by rw [← m2]; exact q8, by rw [q.1]; exact q10.1⟩)
      · exact pc_ret (.inl ⟨⟨303, .inr (.inr (.inr (.inl ⟨by omega, rfl⟩))), rfl⟩, rfl⟩)
    · exact pc_ret (.inl ⟨⟨302, .inl ⟨by omega, rfl⟩, rfl⟩, rfl⟩)
  · refine pc_if (fun z => ?_) (fun z => ?_)
    · exact pc_ret (.inl ⟨⟨301, .inr (.inl ⟨by omega, z, rfl⟩), rfl⟩, rfl⟩)
    · exact pc_ret (.inl ⟨⟨200, .inr (.inr (.inl ⟨by omega, by omega, rfl⟩)), rfl⟩, rfl⟩)
theorem tyk_b {p t bs rw : Int} (T : TYk K p t bs rw) : (bs = 0 ∨ bs = 1 ∨ (bs = 3 ∧ K p.toNat = 2)) ∧ (rw = 0 ∨ rw = 1) ∧ (t = p + 1 ∨ t = p + 3) := by
  rcases T with ⟨a, b, d, e⟩ | ⟨a, ⟨b1, b2, b3, b4⟩ | ⟨b1, b2, b3⟩⟩ <;> omega
end
end
section
/- HEADS: members, how they are numbered -/
/-- member j is of class k, a field (s = 0) or a method (s = 1) -/
abbrev MSm (r : ms_M) (k s : Int) (j : Nat) : Prop := r 181 j = k ∧ ((0 < r 182 j ∧ s = 1) ∨ (r 182 j ≤ 0 ∧ s = 0))
def mcn_T (r : ms_M) (k s : Int) : Nat → Nat
  | 0 => 0
  | j + 1 => mcn_T r k s j + (if MSm r k s j then 1 else 0)
/-- a type of both sides -/
def TYR (a b : Int) : Prop := VTy a ∧ ¬ a = 300 ∧ b = ty_T a
/-- a field, a method j of the reference in the class's rows at x -/
def MBf (V : Nat → Int) (C : Nat → Nat) (n : Nat) (h r : ms_M) (j x : Nat) : Prop := h 18 x = V (r 186 j).toNat ∧ TYR (h 19 x) (r 187 j) ∧ ¬ h 19 x = 303 ∧ TYS V C n (r 184 j) (r 183 j) (r 185 j) (h 19 x)
def MBm (V : Nat → Int) (C : Nat → Nat) (n : Nat) (h r : ms_M) (j x : Nat) : Prop := (h 22 x = r 186 j ∧ TYR (h 24 x) (r 187 j)) ∧ ((r 182 j = 2 ∧ h 25 x = 1) ∨ (r 182 j = 1 ∧ h 25 x = 0)) ∧ (h 27 x = r 189 j ∧ 0 ≤ r 189 j ∧ r 189 j ≤ 6 ∧ 0 ≤ r 188 j) ∧ (∀ i : Nat, (i : Int) < r 189 j → h 28 (6 * x + i) = V (r 194 ((r 188 j).toNat + i)).toNat ∧ TYR (h 29 (6 * x + i)) (r 195 ((r 188 j).toNat + i)) ∧ ¬ h 29 (6 * x + i) = 303 ∧ TYS V C n (r 192 ((r 188 j).toNat + i)) (r 191 ((r 188 j).toNat + i)) (r 193 ((r 188 j).toNat + i)) (h 29 (6 * x + i))) ∧ h 23 x = r 169 (r 190 j).toNat ∧ TYS V C n (r 184 j) (r 183 j) (r 185 j) (h 24 x)
/-- the first m members; their parameters' names stand ahead of token q -/
def MTB (V : Nat → Int) (C : Nat → Nat) (n : Nat) (m : Nat) (q : Int) (h r : ms_M) : Prop := (∀ k : Nat, k < 8 → (h 17 k = (mcn_T r k 0 m : Int) ∧ h 21 k = (mcn_T r k 1 m : Int)) ∧ mcn_T r k 0 m ≤ 12 ∧ mcn_T r k 1 m ≤ 12) ∧ (∀ j k : Nat, j < m → k < 8 → MSm r k 0 j → MBf V C n h r j (12 * k + mcn_T r k 0 j)) ∧ (∀ j k : Nat, j < m → k < 8 → MSm r k 1 j → MBm V C n h r j (12 * k + mcn_T r k 1 j)) ∧ (∀ (i j : Nat) (k s : Int), i < j → j < m → MSm r k s i → MSm r k s j → ¬ V (r 186 i).toNat = V (r 186 j).toNat) ∧ ∀ (j i : Nat), j < m → (i : Int) < r 189 j → r 194 ((r 188 j).toNat + i) < q
/-- a member of that name is among the first m -/
def TWm (V : Nat → Int) (r : ms_M) (m : Nat) (k s x : Int) : Prop := ∃ j : Nat, j < m ∧ MSm r k s j ∧ V (r 186 j).toNat = x
section
variable {nn : Nat} {K P V U : Nat → Int} {C : Nat → Nat} {c n N : Nat} {h g r w u v : ms_M}
theorem mcn_s {k s : Int} {m : Nat} (q : MSm r k s m) : mcn_T r k s (m + 1) = mcn_T r k s m + 1 := by
  show mcn_T r k s m + (if MSm r k s m then 1 else 0) = _
  rw [if_pos q]
theorem mcn_n {k s : Int} {m : Nat} (q : ¬ MSm r k s m) : mcn_T r k s (m + 1) = mcn_T r k s m := by
  show mcn_T r k s m + (if MSm r k s m then 1 else 0) = _
  rw [if_neg q]; rfl
theorem mcn_1 {k s : Int} {m : Nat} : mcn_T r k s m ≤ mcn_T r k s (m + 1) ∧ mcn_T r k s (m + 1) ≤ mcn_T r k s m + 1 := by
  by_cases q : MSm r k s m
  · rw [mcn_s q]; omega
  · rw [mcn_n q]; omega
theorem mcn_m {k s : Int} {i : Nat} : ∀ d : Nat, mcn_T r k s i ≤ mcn_T r k s (i + d) := by
  intro d
  induction d with
  | zero => exact Nat.le_refl _
  | succ d ih =>
    have a := mcn_1 (r := r) (k := k) (s := s) (m := i + d)
    show _ ≤ mcn_T r k s (i + d + 1)
    omega
theorem mcn_lt {k s : Int} {i j : Nat} (ij : i < j) (q : MSm r k s i) : mcn_T r k s i < mcn_T r k s j := by
  have a := mcn_m (r := r) (k := k) (s := s) (i := i + 1) (j - (i + 1))
  rw [show i + 1 + (j - (i + 1)) = j by omega, mcn_s q] at a
  omega
theorem mcn_sur {k s : Int} : ∀ (m i : Nat), i < mcn_T r k s m → ∃ j : Nat, j < m ∧ MSm r k s j ∧ mcn_T r k s j = i := by
  intro m
  induction m with
  | zero => intro i hi; exact absurd hi (Nat.not_lt_zero _)
  | succ m ih =>
    intro i hi
    by_cases q : MSm r k s m
    · rw [mcn_s q] at hi
      by_cases z : i < mcn_T r k s m
      · obtain ⟨j, a, b, d⟩ := ih i z
        exact ⟨j, by omega, b, d⟩
      · exact ⟨m, by omega, q, by omega⟩
    · rw [mcn_n q] at hi
      obtain ⟨j, a, b, d⟩ := ih i hi
      exact ⟨j, by omega, b, d⟩
theorem msm_k {k s : Int} {j : Nat} (e1 : v 181 j = r 181 j) (e2 : v 182 j = r 182 j) : MSm v k s j ↔ MSm r k s j := by
  show (v 181 j = k ∧ _) ↔ (r 181 j = k ∧ _)
  rw [e1, e2]
theorem mcn_k (e : ∀ cc x : Nat, cc = 181 ∨ cc = 182 → v cc x = r cc x) {k s : Int} : ∀ m : Nat, mcn_T v k s m = mcn_T r k s m := by
  intro m
  induction m with
  | zero => rfl
  | succ m ih =>
    have q := msm_k (k := k) (s := s) (j := m) (e 181 m (by omega)) (e 182 m (by omega))
    by_cases z : MSm r k s m
    · rw [mcn_s z, mcn_s (q.mpr z), ih]
    · rw [mcn_n z, mcn_n (fun y => z (q.mp y)), ih]
theorem msm_c {j : Nat} {k : Int} (e : r 181 j = k) : MSm r k 0 j ∨ MSm r k 1 j := by
  by_cases z : 0 < r 182 j
  · exact .inr ⟨e, .inl ⟨z, rfl⟩⟩
  · exact .inl ⟨e, .inr ⟨by omega, rfl⟩⟩
theorem msm_u {j : Nat} {k k2 s s2 : Int} (A : MSm r k s j) (B : MSm r k2 s2 j) : k = k2 ∧ s = s2 := by
  obtain ⟨a1, a2⟩ := A
  obtain ⟨b1, b2⟩ := B
  omega
theorem msm_s {j : Nat} {k s : Int} (A : MSm r k s j) : s = 0 ∨ s = 1 := by
  obtain ⟨a1, a2⟩ := A
  omega
/-- where a member stands in the class's rows, and who stands there -/
theorem mix_i {i j : Nat} {k k2 : Nat} {s : Int} (A : MSm r k s i) (B : MSm r k2 s j) (a : mcn_T r k s i < 12) (b : mcn_T r k2 s j < 12) (e : 12 * k + mcn_T r k s i = 12 * k2 + mcn_T r k2 s j) : i = j := by
  have kk : k = k2 := by omega
  subst kk
  by_cases q : i < j
  · have := mcn_lt q A; omega
  · by_cases q2 : j < i
    · have := mcn_lt q2 B; omega
    · omega
/- the class looks for a field, a method of class k -/
theorem c_fieldIn {k : Nat} {x : Int} {cn : Nat} (hk : k < 8) (e : h 17 k = (cn : Int)) (hc : cn ≤ 12) : Pc (qf_X2_fieldIn nn (k : Int) x h) (fun u => (u = -1 ∧ ∀ i : Nat, i < cn → ¬ h 18 (12 * k + i) = x) ∨ ∃ i : Nat, i < cn ∧ h 18 (12 * k + i) = x ∧ u = ((12 * k + i : Nat) : Int)) := by
  have L : ∀ (f l : Nat), l ≤ cn → (∀ i : Nat, i < l → ¬ h 18 (12 * k + i) = x) → Pc (qw_X2_fieldIn_2 nn f (k : Int) x (l : Int) h) (fun u => (u = -1 ∧ ∀ i : Nat, i < cn → ¬ h 18 (12 * k + i) = x) ∨ ∃ i : Nat, i < cn ∧ h 18 (12 * k + i) = x ∧ u = ((12 * k + i : Nat) : Int)) := by
    intro f
    induction f with
    | zero => intros; exact pc_none
    | succ f ih =>
      intro l hl A
      unfold qw_X2_fieldIn_2
      refine pc_rA ?_; intro _ _ v2 e2
      rw [Int.toNat_natCast, e] at e2
      refine pc_if (fun z => pc_ret (.inl ⟨rfl, fun i hi => A i (by omega)⟩)) (fun z => ?_)
      refine pc_xl ?_; intro v4 e4
      rw [oq_mul_eq (by omega) (by omega) (by omega)] at e4
      refine pc_add (by omega) ?_; intro v5 e5
      refine pc_rA ?_; intro _ _ v6 e6
      rw [show v5.toNat = 12 * k + l by omega] at e6
      refine pc_if (fun y => ?_) (fun y => ?_)
      · refine pc_add (by omega) ?_; intro v7 e7
        rw [show v7 = ((l + 1 : Nat) : Int) by omega]
        refine ih (l + 1) (by omega) (fun i hi => ?_)
        by_cases il : i = l
        · rw [il, ← e6]; exact y
        · exact A i (by omega)
      · refine pc_xl ?_; intro v8 e8
        rw [oq_mul_eq (by omega) (by omega) (by omega)] at e8
        refine pc_add (by omega) ?_; intro v9 e9
        exact pc_ret (.inr ⟨l, by omega, by rw [← e6]; exact Classical.byContradiction y, by omega⟩)
  exact L nn 0 (by omega) (fun i hi => absurd hi (by omega))
theorem c_methodIn (BK : TBn K c) (B : TBc K P c h) (LV : VLc K V c h) {k : Nat} {x : Int} {cn : Nat} (hk : k < 8) (e : h 21 k = (cn : Int)) (hc : cn ≤ 12) (HT : ∀ i : Nat, i < cn → 0 ≤ h 22 (12 * k + i) ∧ K (h 22 (12 * k + i)).toNat = 2) : Pc (qf_X2_methodIn nn (k : Int) x h) (fun u => (u = -1 ∧ ∀ i : Nat, i < cn → ¬ V (h 22 (12 * k + i)).toNat = x) ∨ ∃ i : Nat, i < cn ∧ V (h 22 (12 * k + i)).toNat = x ∧ u = ((12 * k + i : Nat) : Int)) := by
  have L : ∀ (f l : Nat), l ≤ cn → (∀ i : Nat, i < l → ¬ V (h 22 (12 * k + i)).toNat = x) → Pc (qw_X2_methodIn_2 nn f (k : Int) x (l : Int) h) (fun u => (u = -1 ∧ ∀ i : Nat, i < cn → ¬ V (h 22 (12 * k + i)).toNat = x) ∨ ∃ i : Nat, i < cn ∧ V (h 22 (12 * k + i)).toNat = x ∧ u = ((12 * k + i : Nat) : Int)) := by
    intro f
    induction f with
    | zero => intros; exact pc_none
    | succ f ih =>
      intro l hl A
      unfold qw_X2_methodIn_2
      refine pc_rA ?_; intro _ _ v2 e2
      rw [Int.toNat_natCast, e] at e2
      refine pc_if (fun z => pc_ret (.inl ⟨rfl, fun i hi => A i (by omega)⟩)) (fun z => ?_)
      refine pc_xl ?_; intro v5 e5
      rw [oq_mul_eq (by omega) (by omega) (by omega)] at e5
      refine pc_add (by omega) ?_; intro v6 e6
      refine pc_rA ?_; intro _ _ v7 e7
      rw [show v6.toNat = 12 * k + l by omega] at e7
      have t := HT l (by omega)
      refine pc_sv (c_valueAt BK B LV (t := (h 22 (12 * k + l)).toNat) t.2 (by omega)) ?_; intro u9 q9
      refine pc_if (fun y => ?_) (fun y => ?_)
      · refine pc_add (by omega) ?_; intro v10 e10
        rw [show v10 = ((l + 1 : Nat) : Int) by omega]
        refine ih (l + 1) (by omega) (fun i hi => ?_)
        by_cases il : i = l
        · rw [il, ← q9]; exact y
        · exact A i (by omega)
      · refine pc_xl ?_; intro v11 e11
        rw [oq_mul_eq (by omega) (by omega) (by omega)] at e11
        refine pc_add (by omega) ?_; intro v12 e12
        exact pc_ret (.inr ⟨l, by omega, by rw [← q9]; exact Classical.byContradiction y, by omega⟩)
  exact L nn 0 (by omega) (fun i hi => absurd hi (by omega))
/-- .. with the members of both sides -/
theorem c_fIn {m k : Nat} {q x : Int} (M : MTB V C n m q h r) (hk : k < 8) : Pc (qf_X2_fieldIn nn (k : Int) x h) (fun u => (u = -1 ∧ ¬ TWm V r m k 0 x) ∨ ∃ j : Nat, j < m ∧ MSm r k 0 j ∧ V (r 186 j).toNat = x ∧ u = ((12 * k + mcn_T r k 0 j : Nat) : Int)) := by
  obtain ⟨⟨m1, m2⟩, m3, m4⟩ := M.1 k hk
  refine pc_imp (c_fieldIn hk m1 m3) (fun u z => ?_)
  rcases z with ⟨a, b⟩ | ⟨i, a, b, d⟩
  · refine .inl ⟨a, fun z => ?_⟩
    obtain ⟨j, j1, j2, j3⟩ := z
    have y := b (mcn_T r k 0 j) (mcn_lt j1 j2)
    rw [(M.2.1 j k j1 hk j2).1] at y
    exact y j3
  · obtain ⟨j, j1, j2, j3⟩ := mcn_sur m i a
    rw [← j3] at b d
    refine .inr ⟨j, j1, j2, ?_, d⟩
    rw [← b, (M.2.1 j k j1 hk j2).1]
theorem c_mIn (BK : TBn K c) (B : TBc K P c h) (LV : VLc K V c h) {m k : Nat} {q x : Int} (M : MTB V C n m q h r) (HN : ∀ j : Nat, j < m → 0 ≤ r 186 j ∧ K (r 186 j).toNat = 2) (hk : k < 8) : Pc (qf_X2_methodIn nn (k : Int) x h) (fun u => (u = -1 ∧ ¬ TWm V r m k 1 x) ∨ ∃ j : Nat, j < m ∧ MSm r k 1 j ∧ V (r 186 j).toNat = x ∧ u = ((12 * k + mcn_T r k 1 j : Nat) : Int)) := by
  obtain ⟨⟨m1, m2⟩, m3, m4⟩ := M.1 k hk
  refine pc_imp (c_methodIn BK B LV hk m2 m4 (fun i hi => ?_)) (fun u z => ?_)
  · obtain ⟨j, j1, j2, j3⟩ := mcn_sur m i hi
    rw [← j3, (M.2.2.1 j k j1 hk j2).1.1]
    exact HN j j1
  · rcases z with ⟨a, b⟩ | ⟨i, a, b, d⟩
    · refine .inl ⟨a, fun z => ?_⟩
      obtain ⟨j, j1, j2, j3⟩ := z
      have y := b (mcn_T r k 1 j) (mcn_lt j1 j2)
      rw [(M.2.2.1 j k j1 hk j2).1.1] at y
      exact y j3
    · obtain ⟨j, j1, j2, j3⟩ := mcn_sur m i a
      rw [← j3] at b d
      refine .inr ⟨j, j1, j2, ?_, d⟩
      rw [← b, (M.2.2.1 j k j1 hk j2).1.1]
end
end
section
/- HEADS: one member, pieces of both sides -/
section
variable {nn : Nat} {K P V U : Nat → Int} {C : Nat → Nat} {c n N : Nat} {h g r w u v : ms_M}
theorem twm_s {k s x : Int} {l : Nat} (q : MSm r k s l) : TWm V r (l + 1) k s x ↔ (TWm V r l k s x ∨ V (r 186 l).toNat = x) := by
  constructor
  · intro z
    obtain ⟨j, j1, j2, j3⟩ := z
    by_cases jl : j = l
    · rw [jl] at j3; exact .inr j3
    · exact .inl ⟨j, by omega, j2, j3⟩
  · intro z
    rcases z with ⟨j, j1, j2, j3⟩ | z
    · exact ⟨j, by omega, j2, j3⟩
    · exact ⟨l, by omega, q, z⟩
theorem twm_n {k s x : Int} {l : Nat} (q : ¬ MSm r k s l) : TWm V r (l + 1) k s x ↔ TWm V r l k s x := by
  constructor
  · intro z
    obtain ⟨j, j1, j2, j3⟩ := z
    by_cases jl : j = l
    · rw [jl] at j2; exact absurd j2 q
    · exact ⟨j, by omega, j2, j3⟩
  · intro z
    obtain ⟨j, j1, j2, j3⟩ := z
    exact ⟨j, by omega, j2, j3⟩
/-- the reference counts the members like member m ahead of it -/
theorem rh_35 (BK : TBn K c) (NM : NMr K V c r) {m : Nat} {k s : Int} (m8 : m ≤ 800) (HN : ∀ j : Nat, j ≤ m → 0 ≤ r 186 j ∧ K (r 186 j).toNat = 2) (A : MSm r k s m) {Q : ms_M → Prop} (Z : ∀ fl : Int, ((fl = 1 ∧ TWm V r m k s (V (r 186 m).toNat)) ∨ (fl = 0 ∧ ¬ TWm V r m k s (V (r 186 m).toNat))) → Pc (if ¬ (mcn_T r k s m : Int) = 12 then (qj_X13_memberHead_139 nn (m : Int) fl r) else (rd_A 800 186 (m : Int) r fun v59 => mx_sv (qf_X13_wrong nn 11 v59 r) fun u61 => qj_X13_memberHead_139 nn (m : Int) fl u61)) Q) : ∀ (f l : Nat) (fl : Int), l ≤ m → (mcn_T r k s l : Int) ≤ l → ((fl = 1 ∧ TWm V r l k s (V (r 186 m).toNat)) ∨ (fl = 0 ∧ ¬ TWm V r l k s (V (r 186 m).toNat))) → Pc (qw_X13_memberHead_35 nn f (m : Int) (mcn_T r k s l : Int) fl (l : Int) r) Q := by
  intro f
  induction f with
  | zero => intros; exact pc_none
  | succ f ih =>
    intro l fl hl hc F
    unfold qw_X13_memberHead_35
    refine pc_if (fun z => ?_) (fun z => ?_)
    · have lm : l = m := by omega
      rw [lm] at F ⊢
      exact Z fl F
    · have nm := HN m (by omega)
      have nl := HN l (by omega)
      have am := A.1
      -- another member
      have NX : ¬ MSm r k s l → ∀ v53 : Int, v53 = (l : Int) + 1 → Pc (qw_X13_memberHead_35 nn f (m : Int) (mcn_T r k s l : Int) fl v53 r) Q := fun y v53 e53 => by
        rw [show v53 = ((l + 1 : Nat) : Int) by omega, ← mcn_n y]
        refine ih (l + 1) fl (by omega) (by rw [mcn_n y]; omega) ?_
        rcases F with ⟨a, b⟩ | ⟨a, b⟩
        · exact .inl ⟨a, (twm_n y).mpr b⟩
        · exact .inr ⟨a, fun y2 => b ((twm_n y).mp y2)⟩
      have SM : MSm r k s l → Pc (xl (oq_add (mcn_T r k s l : Int) 1) fun v44 => rd_A 800 186 (l : Int) r fun v46 => rd_A 800 186 (m : Int) r fun v48 => mx_sv (qf_X13_isLike nn v46 v48 r) fun u50 => xl (oq_or fl u50) fun v51 => xl (oq_add (l : Int) 1) fun v52 => qw_X13_memberHead_35 nn f (m : Int) v44 v51 v52 r) Q := fun y => by
        refine pc_add (by omega) ?_; intro v44 e44
        refine pc_rA ?_; intro _ _ v46 e46
        refine pc_rA ?_; intro _ _ v48 e48
        rw [Int.toNat_natCast] at e46 e48
        refine pc_sv (r_like NM (i := (r 186 l).toNat) (j := (r 186 m).toNat) (tb_lt BK (by omega)) (tb_lt BK (by omega)) nl.2 nm.2 (by omega) (by omega)) ?_; intro u50 q50
        refine pc_xl ?_; intro v51 e51
        refine pc_add (by omega) ?_; intro v52 e52
        rw [show v52 = ((l + 1 : Nat) : Int) by omega, show v44 = (mcn_T r k s (l + 1) : Int) by rw [mcn_s y]; omega]
        refine ih (l + 1) v51 (by omega) (by rw [mcn_s y]; omega) ?_
        rcases F with ⟨a, b⟩ | ⟨a, b⟩
        · refine .inl ⟨?_, (twm_s y).mpr (.inl b)⟩
          rcases q50 with ⟨a5, b5⟩ | ⟨a5, b5⟩
          · rw [e51, a, a5]; decide +kernel
          · rw [e51, a, a5]; decide +kernel
        · rcases q50 with ⟨a5, b5⟩ | ⟨a5, b5⟩
          · refine .inl ⟨?_, (twm_s y).mpr (.inr b5)⟩
            rw [e51, a, a5]; decide +kernel
          · refine .inr ⟨?_, fun y2 => ?_⟩
            · rw [e51, a, a5]; decide +kernel
            · rcases (twm_s y).mp y2 with y3 | y3
              · exact b y3
              · exact b5 y3
      refine pc_rA ?_; intro _ _ v64 e64
      refine pc_rA ?_; intro _ _ v66 e66
      rw [Int.toNat_natCast] at e64 e66
      refine pc_if (fun y => ?_) (fun y => ?_)
      · refine pc_add (by omega) ?_; intro v67 e67
        exact NX (fun y2 => y (by rw [e64, e66, am]; exact y2.1)) v67 e67
      · have cl : r 181 l = k := by omega
        refine pc_rA ?_; intro _ _ v69 e69
        rw [Int.toNat_natCast] at e69
        have a2 := A.2
        refine pc_if (fun y9 => ?_) (fun y9 => ?_)
        · unfold qj_X13_memberHead_72
          refine pc_rA ?_; intro _ _ v56 e56
          rw [Int.toNat_natCast] at e56
          refine pc_if (fun y6 => ?_) (fun y6 => ?_)
          · unfold qj_X13_memberHead_86
            refine pc_if (fun _ => SM ⟨cl, by omega⟩) (fun y0 => absurd rfl y0)
          · unfold qj_X13_memberHead_86
            refine pc_if (fun y0 => absurd y0 (by decide)) (fun _ => ?_)
            refine pc_add (by omega) ?_; intro v53 e53
            exact NX (fun y2 => by have := y2.2; omega) v53 e53
        · unfold qj_X13_memberHead_72
          refine pc_rA ?_; intro _ _ v56 e56
          rw [Int.toNat_natCast] at e56
          refine pc_if (fun y6 => ?_) (fun y6 => ?_)
          · unfold qj_X13_memberHead_86
            refine pc_if (fun y0 => absurd y0 (by decide)) (fun _ => ?_)
            refine pc_add (by omega) ?_; intro v53 e53
            exact NX (fun y2 => by have := y2.2; omega) v53 e53
          · unfold qj_X13_memberHead_86
            refine pc_if (fun _ => SM ⟨cl, by omega⟩) (fun y0 => absurd rfl y0)
/-- a field of the class -/
theorem c_addField (BK : TBn K c) (B : TBc K P c g) (LV : VLc K V c g) (gf : g 2 11 = 0) {m k t : Nat} {q ty : Int} (M : MTB V C n m q g r) (hk : k < 8) (kt : K t = 2) : Pc (qf_X2_addField nn (k : Int) (t : Int) ty g) (fun u => (mcn_T r k 0 m = 12 ∧ u 2 11 = 11 ∧ u 2 12 = P t) ∨ (mcn_T r k 0 m < 12 ∧ TWm V r m k 0 (V t) ∧ u 2 11 = 4 ∧ u 2 12 = P t) ∨ (mcn_T r k 0 m < 12 ∧ ¬ TWm V r m k 0 (V t) ∧ (u 17 k = (mcn_T r k 0 m : Int) + 1 ∧ u 18 (12 * k + mcn_T r k 0 m) = V t ∧ u 19 (12 * k + mcn_T r k 0 m) = ty) ∧ ∀ cc y : Nat, ¬ (cc = 17 ∧ y = k) → ¬ ((cc = 18 ∨ cc = 19) ∧ y = 12 * k + mcn_T r k 0 m) → u cc y = g cc y)) := by
  obtain ⟨⟨m1, m2⟩, m3, m4⟩ := M.1 k hk
  have tc := tb_lt BK (i := t) (by omega)
  unfold qf_X2_addField
  refine pc_rA ?_; intro _ _ v14 e14
  rw [Int.toNat_natCast, m1] at e14
  refine pc_if (fun z => ?_) (fun z => ?_)
  · refine pc_sv (c_valueAt BK B LV kt rfl) ?_; intro u17 q17
    refine pc_sv (c_fIn M hk) ?_; intro u19 q19
    rw [q17] at q19 ⊢
    refine pc_if (fun y => ?_) (fun y => ?_)
    · have nt : ¬ TWm V r m k 0 (V t) := by
        rcases q19 with ⟨a, b⟩ | ⟨j, j1, j2, j3, j4⟩
        · exact b
        · omega
      unfold qj_X2_addField_52
      refine pc_xl ?_; intro v1 e1
      rw [oq_mul_eq (by omega) (by omega) (by omega)] at e1
      refine pc_rA ?_; intro _ _ v3 e3
      rw [Int.toNat_natCast, m1] at e3
      refine pc_add (by omega) ?_; intro v4 e4
      have x4 : v4.toNat = 12 * k + mcn_T r k 0 m := by omega
      refine pc_wA ?_; intro _ _ h6 e6
      rw [x4] at e6
      refine pc_wA ?_; intro _ _ h8 e8
      rw [x4] at e8
      refine pc_rA ?_; intro _ _ v10 e10
      rw [Int.toNat_natCast, e8, up_n (by omega), e6, up_n (by omega), m1] at e10
      refine pc_add (by omega) ?_; intro v11 e11
      refine pc_wA ?_; intro _ _ h12 e12
      rw [Int.toNat_natCast] at e12
      refine pc_ret (.inr (.inr ⟨by omega, nt, ⟨?_, ?_, ?_⟩, fun cc y z1 z2 => ?_⟩))
      · rw [e12, up_s]; omega
      · rw [e12, up_n (by omega), e8, up_n (by omega), e6, up_s]
      · rw [e12, up_n (by omega), e8, up_s]
      · rw [e12, up_n (by omega), e8, up_n (by omega), e6, up_n (by omega)]
    · refine pc_sv (c_tell B gf tc rfl) ?_; intro u22 q22
      refine pc_imp (fs_qj_X2_addField_52 (by rw [q22.1.1]; decide)) (fun u F => .inr (.inl ⟨by omega, ?_, by rw [F.1]; exact q22.1.1, by rw [F.2]; exact q22.1.2⟩))
      rcases q19 with ⟨a, b⟩ | ⟨j, j1, j2, j3, j4⟩
      · exact absurd a y
      · exact ⟨j, j1, j2, j3⟩
  · refine pc_sv (c_tell B gf tc rfl) ?_; intro u26 q26
    exact pc_ret (.inl ⟨by omega, q26.1⟩)
/-- a method of the class, as far as its parameters -/
theorem c_addMethod (BK : TBn K c) (B : TBc K P c g) (LV : VLc K V c g) (gf : g 2 11 = 0) {m k t p : Nat} {q ty fx : Int} (M : MTB V C n m q g r) (HN : ∀ j : Nat, j < m → 0 ≤ r 186 j ∧ K (r 186 j).toNat = 2) (hk : k < 8) (kt : K t = 2) (g10 : g 2 10 = (p : Int)) (p3 : p ≤ 3001) {Q : ms_M → Prop} (Z11 : mcn_T r k 1 m = 12 → ∀ u : ms_M, u 2 11 = 11 → u 2 12 = P t → Q u) (Z4 : mcn_T r k 1 m < 12 → TWm V r m k 1 (V t) → ∀ u : ms_M, u 2 11 = 4 → u 2 12 = P t → Q u) (Z0 : mcn_T r k 1 m < 12 → ¬ TWm V r m k 1 (V t) → ∀ u : ms_M, (u 2 10 = ((p + 1 : Nat) : Int) ∧ u 21 k = (mcn_T r k 1 m : Int) + 1 ∧ u 22 (12 * k + mcn_T r k 1 m) = (t : Int) ∧ u 24 (12 * k + mcn_T r k 1 m) = ty ∧ u 25 (12 * k + mcn_T r k 1 m) = fx ∧ u 27 (12 * k + mcn_T r k 1 m) = 0) → (∀ cc y : Nat, ¬ (cc = 2 ∧ y = 10) → ¬ (cc = 21 ∧ y = k) → ¬ ((cc = 22 ∨ cc = 24 ∨ cc = 25 ∨ cc = 27) ∧ y = 12 * k + mcn_T r k 1 m) → u cc y = g cc y) → Pc (qw_X2_addMethod_120 nn nn ((12 * k + mcn_T r k 1 m : Nat) : Int) 0 u) Q) : Pc (qf_X2_addMethod nn (k : Int) (t : Int) ty fx g) Q := by
  obtain ⟨⟨m1, m2⟩, m3, m4⟩ := M.1 k hk
  have tc := tb_lt BK (i := t) (by omega)
  unfold qf_X2_addMethod
  refine pc_rA ?_; intro _ _ v43 e43
  rw [Int.toNat_natCast, m2] at e43
  refine pc_if (fun z => ?_) (fun z => ?_)
  · refine pc_sv (c_valueAt BK B LV kt rfl) ?_; intro u46 q46
    refine pc_sv (c_mIn BK B LV M HN hk) ?_; intro u48 q48
    rw [q46] at q48
    refine pc_if (fun y => ?_) (fun y => ?_)
    · have nt : ¬ TWm V r m k 1 (V t) := by
        rcases q48 with ⟨a, b⟩ | ⟨j, j1, j2, j3, j4⟩
        · exact b
        · omega
      unfold qj_X2_addMethod_48
      refine pc_xl ?_; intro v22 e22
      rw [oq_mul_eq (by omega) (by omega) (by omega)] at e22
      refine pc_rA ?_; intro _ _ v24 e24
      rw [Int.toNat_natCast, m2] at e24
      refine pc_add (by omega) ?_; intro v25 e25
      have x4 : v25.toNat = 12 * k + mcn_T r k 1 m := by omega
      refine pc_wA ?_; intro _ _ h27 e27
      refine pc_wA ?_; intro _ _ h29 e29
      refine pc_wZ ?_; intro _ _ h31 e31
      refine pc_wA ?_; intro _ _ h33 e33
      rw [x4] at e27 e29 e31 e33
      refine pc_rA ?_; intro _ _ v35 e35
      rw [Int.toNat_natCast, e33, up_n (by omega), e31, up_n (by omega), e29, up_n (by omega), e27, up_n (by omega), m2] at e35
      refine pc_add (by omega) ?_; intro v36 e36
      refine pc_wA ?_; intro _ _ h37 e37
      rw [Int.toNat_natCast] at e37
      have e10 : h37 2 10 = (p : Int) := by rw [e37, up_n (by omega), e33, up_n (by omega), e31, up_n (by omega), e29, up_n (by omega), e27, up_n (by omega)]; exact g10
      rw [e10]
      refine pc_add (by omega) ?_; intro v40 e40
      refine pc_xl ?_; intro h41 e41
      rw [show v25 = ((12 * k + mcn_T r k 1 m : Nat) : Int) by omega]
      refine Z0 (by omega) nt h41 ⟨?_, ?_, ?_, ?_, ?_, ?_⟩ (fun cc y z1 z2 z3 => ?_)
      · rw [e41, up_s]; omega
      · rw [e41, up_n (by omega), e37, up_s]; omega
      · rw [e41, up_n (by omega), e37, up_n (by omega), e33, up_n (by omega), e31, up_n (by omega), e29, up_n (by omega), e27, up_s]
      · rw [e41, up_n (by omega), e37, up_n (by omega), e33, up_n (by omega), e31, up_n (by omega), e29, up_s]
      · rw [e41, up_n (by omega), e37, up_n (by omega), e33, up_n (by omega), e31, up_s]
      · rw [e41, up_n (by omega), e37, up_n (by omega), e33, up_s]
      · rw [e41, up_n (by omega), e37, up_n (by omega), e33, up_n (by omega), e31, up_n (by omega), e29, up_n (by omega), e27, up_n (by omega)]
    · refine pc_sv (c_tell B gf tc rfl) ?_; intro u51 q51
      refine pc_imp (fs_qj_X2_addMethod_48 (by rw [q51.1.1]; decide)) (fun u F => Z4 (by omega) ?_ u (by rw [F.1]; exact q51.1.1) (by rw [F.2]; exact q51.1.2))
      rcases q48 with ⟨a, b⟩ | ⟨j, j1, j2, j3, j4⟩
      · exact absurd a y
      · exact ⟨j, j1, j2, j3⟩
  · refine pc_sv (c_tell B gf tc rfl) ?_; intro u55 q55
    exact pc_ret (Z11 (by omega) u55 q55.1.1 q55.1.2)
/-- a parameter of the class: its name against those ahead of it -/
theorem c_54 (BK : TBn K c) (B : TBc K P c g) (gf : g 2 11 = 0) {x t cn : Nat} {ty vt : Int} (hx : x < 96) (kt : K t = 2) (g10 : g 2 10 = (t : Int)) (e27 : g 27 x = (cn : Int)) (c6 : cn < 6) {Q : ms_M → Prop} (Zd : (∃ i : Nat, i < cn ∧ g 28 (6 * x + i) = vt) → ∀ u : ms_M, u 2 11 = 4 → u 2 12 = P t → Q u) (Z0 : (∀ i : Nat, i < cn → ¬ g 28 (6 * x + i) = vt) → ∀ u : ms_M, ((K (t + 1) = 47 ∧ u 2 10 = ((t + 2 : Nat) : Int)) ∨ (¬ K (t + 1) = 47 ∧ u 2 10 = ((t + 1 : Nat) : Int))) → (u 27 x = (cn : Int) + 1 ∧ u 28 (6 * x + cn) = vt ∧ u 29 (6 * x + cn) = ty) → (∀ cc y : Nat, ¬ (cc = 2 ∧ y = 10) → ¬ (cc = 27 ∧ y = x) → ¬ ((cc = 28 ∨ cc = 29) ∧ y = 6 * x + cn) → u cc y = g cc y) → Q u) : ∀ (f l : Nat), l ≤ cn → (∀ i : Nat, i < l → ¬ g 28 (6 * x + i) = vt) → Pc (qw_X2_addParameter_54 nn f (x : Int) ty (t : Int) vt (6 * (x : Int)) (l : Int) g) Q := by
  have n3 := BK.2.1
  have tc := tb_lt BK (i := t) (by omega)
  intro f
  induction f with
  | zero => intros; exact pc_none
  | succ f ih =>
    intro l hl A
    unfold qw_X2_addParameter_54
    refine pc_rA ?_; intro _ _ v2 e2
    rw [Int.toNat_natCast, e27] at e2
    refine pc_if (fun z => ?_) (fun z => ?_)
    · refine pc_rA ?_; intro _ _ v5 e5
      rw [Int.toNat_natCast, e27] at e5
      refine pc_add (by omega) ?_; intro v6 e6
      refine pc_wA ?_; intro _ _ h7 e7
      rw [show v6.toNat = 6 * x + cn by omega] at e7
      refine pc_rA ?_; intro _ _ v10 e10
      rw [Int.toNat_natCast, e7, up_n (by omega), e27] at e10
      refine pc_add (by omega) ?_; intro v11 e11
      refine pc_wA ?_; intro _ _ h12 e12
      rw [show v11.toNat = 6 * x + cn by omega] at e12
      refine pc_rA ?_; intro _ _ v14 e14
      rw [Int.toNat_natCast, e12, up_n (by omega), e7, up_n (by omega), e27] at e14
      refine pc_add (by omega) ?_; intro v15 e15
      refine pc_wA ?_; intro _ _ h16 e16
      rw [Int.toNat_natCast] at e16
      have q10 : h16 2 10 = (t : Int) := by rw [e16, up_n (by omega), e12, up_n (by omega), e7, up_n (by omega)]; exact g10
      rw [q10]
      refine pc_add (by omega) ?_; intro v19 e19
      refine pc_xl ?_; intro h20 e20
      have F : ∀ cc y : Nat, ¬ (cc = 2 ∧ y = 10) → ¬ (cc = 27 ∧ y = x) → ¬ ((cc = 28 ∨ cc = 29) ∧ y = 6 * x + cn) → h20 cc y = g cc y := fun cc y z1 z2 z3 => by rw [e20, up_n (by omega), e16, up_n (by omega), e12, up_n (by omega), e7, up_n (by omega)]
      have G : h20 27 x = (cn : Int) + 1 ∧ h20 28 (6 * x + cn) = vt ∧ h20 29 (6 * x + cn) = ty := ⟨by rw [e20, up_n (by omega), e16, up_s]; omega, by rw [e20, up_n (by omega), e16, up_n (by omega), e12, up_n (by omega), e7, up_s], by rw [e20, up_n (by omega), e16, up_n (by omega), e12, up_s]⟩
      have G10 : h20 2 10 = ((t + 1 : Nat) : Int) := by rw [e20, up_s]; omega
      have B2 : TBc K P c h20 := tbc_k B (fun cc y q => F cc y (by omega) (by omega) (by omega))
      by_cases tl : t + 1 < c
      · refine pc_sv (c_kind BK B2 tl G10 (by rw [F 2 11 (by omega) (by omega) (by omega)]; exact gf)) ?_; intro u23 q23
        refine pc_if (fun y => ?_) (fun y => ?_)
        · exact pc_ret (Z0 (fun i hi => A i (by omega)) h20 (.inr ⟨by omega, G10⟩) G F)
        · rw [G10]
          refine pc_add (by omega) ?_; intro v26 e26
          refine pc_xl ?_; intro h27 e27'
          exact pc_ret (Z0 (fun i hi => A i (by omega)) h27 (.inl ⟨by omega, by rw [e27', up_s]; omega⟩) ⟨by rw [e27', up_n (by omega)]; exact G.1, by rw [e27', up_n (by omega)]; exact G.2.1, by rw [e27', up_n (by omega)]; exact G.2.2⟩ (fun cc y z1 z2 z3 => by rw [e27', up_n (by omega)]; exact F cc y z1 z2 z3))
      · -- no token behind: its kind is 0
        have k0 : K (t + 1) = 0 := BK.1 (t + 1) (by omega)
        refine pc_sv (P := fun a => a = 0) ?_ ?_
        · unfold qf_X9_kind
          have b1 := B2.1
          refine pc_if (fun _ => pc_ret rfl) (fun _ => ?_)
          refine pc_if (fun _ => pc_ret rfl) (fun _ => ?_)
          refine pc_if (fun _ => pc_ret rfl) (fun y => absurd (by omega) y)
        · intro u23 q23
          refine pc_if (fun y => ?_) (fun y => absurd (by omega) y)
          exact pc_ret (Z0 (fun i hi => A i (by omega)) h20 (.inr ⟨by omega, G10⟩) G F)
    · refine pc_add (by omega) ?_; intro v30 e30
      refine pc_rA ?_; intro _ _ v31 e31
      rw [show v30.toNat = 6 * x + l by omega] at e31
      refine pc_if (fun y => ?_) (fun y => ?_)
      · refine pc_add (by omega) ?_; intro v32 e32
        rw [show v32 = ((l + 1 : Nat) : Int) by omega]
        refine ih (l + 1) (by omega) (fun i hi => ?_)
        by_cases il : i = l
        · rw [il, ← e31]; exact y
        · exact A i (by omega)
      · refine pc_sv (c_tell B gf tc rfl) ?_; intro u35 q35
        refine pc_xl ?_; intro v36 _
        refine pc_imp (fs_qw_X2_addParameter_54 _ _ _ _ _ _ _ _ (by rw [q35.1.1]; decide)) (fun u F => Zd ⟨l, by omega, ?_⟩ u (by rw [F.1]; exact q35.1.1) (by rw [F.2]; exact q35.1.2))
        rw [← e31]; exact Classical.byContradiction y
/-- .. and of the reference -/
theorem r_239 (BK : TBn K c) (B : TBq K P c r) (NM : NMr K V c r) (rf : r 160 9 = 0) {m i b t : Nat} {qk : Int → Int → ms_M → Option ms_M} {Q : ms_M → Prop} (ib : i ≤ 1500 ∧ b ≤ 1500) (et : r 194 (b + i) = (t : Int)) (kt : K t = 2) (HP : ∀ j : Nat, j < i → 0 ≤ r 194 (b + j) ∧ K (r 194 (b + j)).toNat = 2) (Zd : (∃ j : Nat, j < i ∧ V (r 194 (b + j)).toNat = V t) → ∀ v : ms_M, v 160 9 = 4 → v 160 10 = P t → Q v) (Hk : ∀ (x y : Int) (z : ms_M), ¬ z 160 9 = 0 → Pc (qk x y z) (fun u => FSr z u)) (Z0 : (∀ j : Nat, j < i → ¬ V (r 194 (b + j)).toNat = V t) → Pc (qk (m : Int) ((i + 1 : Nat) : Int) r) Q) : ∀ (f l : Nat), l ≤ i → (∀ j : Nat, j < l → ¬ V (r 194 (b + j)).toNat = V t) → Pc (qw_X13_memberHead_239 nn qk f (m : Int) (i : Int) ((b + i : Nat) : Int) ((b + l : Nat) : Int) r) Q := by
  have tc := tb_lt BK (i := t) (by omega)
  intro f
  induction f with
  | zero => intros; exact pc_none
  | succ f ih =>
    intro l hl A
    unfold qw_X13_memberHead_239
    refine pc_if (fun z => ?_) (fun z => ?_)
    · refine pc_add (by omega) ?_; intro v1 e1
      rw [show v1 = ((i + 1 : Nat) : Int) by omega]
      exact Z0 (fun j hj => A j (by omega))
    · refine pc_rA ?_; intro _ _ v3 e3
      refine pc_rA ?_; intro _ _ v5 e5
      rw [Int.toNat_natCast] at e3 e5
      have q := HP l (by omega)
      refine pc_sv (r_like NM (i := (r 194 (b + l)).toNat) (j := t) (tb_lt BK (by omega)) tc q.2 kt (by omega) (by omega)) ?_; intro u7 q7
      refine pc_if (fun y => ?_) (fun y => ?_)
      · refine pc_add (by omega) ?_; intro v8 e8
        rw [show v8 = ((b + (l + 1) : Nat) : Int) by omega]
        refine ih (l + 1) (by omega) (fun j hj => ?_)
        by_cases jl : j = l
        · rw [jl]; rcases q7 with ⟨a, d⟩ | ⟨a, d⟩
          · omega
          · exact d
        · exact A j (by omega)
      · refine pc_rA ?_; intro _ _ v10 e10
        rw [Int.toNat_natCast, et] at e10
        refine pc_sv (r_wrg B rf tc e10) ?_; intro u12 q12
        refine pc_xl ?_; intro v13 _
        refine pc_imp (ft_qw_X13_memberHead_239 Hk _ _ _ _ _ _ (by rw [q12.1.1]; decide)) (fun v F => Zd ⟨l, by omega, ?_⟩ v (by rw [F.1]; exact q12.1.1) (by rw [F.2]; exact q12.1.2))
        rcases q7 with ⟨a, d⟩ | ⟨a, d⟩
        · exact d
        · exact absurd a y
end
end
