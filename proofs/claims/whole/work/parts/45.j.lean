/- variables in sight, both sides -/
/-- F: 1 where this has the place 0 -/
def SGV (K V : Nat → Int) (F : Nat) (own : Int) (h r : ms_M) : Prop := (h 34 7 = r 160 50 + (F : Int) ∧ 0 ≤ r 160 50 ∧ h 34 7 ≤ 750) ∧ (F = 0 ∨ (F = 1 ∧ h 37 0 = -1 ∧ h 38 0 = own)) ∧ ∀ s : Nat, (s : Int) < r 160 50 → 0 ≤ r 196 s ∧ K (r 196 s).toNat = 2 ∧ h 37 (s + F) = V (r 196 s).toNat ∧ r 197 s = ty_T (h 38 (s + F))
/-- the nearest one of that name: its place in the class and in the reference -/
def LOJ (F : Nat) (h r : ms_M) (u v : Int) : Prop := (u = -1 ∧ v = -1) ∨ ∃ s : Nat, (s : Int) < r 160 50 ∧ v = (s : Int) ∧ u = ((s + F : Nat) : Int)
section
variable {nn : Nat} {K P V : Nat → Int} {C : Nat → Nat} {c n N F : Nat} {own : Int} {h g r w u v : ms_M}
theorem sgv_k (H : SGV K V F own h r) (e1 : ∀ cc x : Nat, (cc = 34 ∧ x = 7) ∨ cc = 37 ∨ cc = 38 → g cc x = h cc x) (e2 : ∀ cc x : Nat, (cc = 160 ∧ x = 50) ∨ cc = 196 ∨ cc = 197 → w cc x = r cc x) : SGV K V F own g w := by
  obtain ⟨⟨a1, a2, a3⟩, b, d⟩ := H
  refine ⟨by rw [e1 34 7 (by omega), e2 160 50 (by omega)]; exact ⟨a1, a2, a3⟩, by rw [e1 37 0 (by omega), e1 38 0 (by omega)]; exact b, fun s hs => ?_⟩
  rw [e2 160 50 (by omega)] at hs
  rw [e2 196 s (by omega), e2 197 s (by omega), e1 37 _ (by omega), e1 38 _ (by omega)]
  exact d s hs
theorem c_loc15 {x : Int} (h7 : h 34 7 ≤ 750) : ∀ (f k : Nat), (k : Int) ≤ h 34 7 → (∀ j : Nat, k ≤ j → (j : Int) < h 34 7 → ¬ h 37 j = x) → Pc (qw_X1_localOf_15 nn f x ((k : Int) - 1) h) (fun u => (u = -1 ∧ ∀ j : Nat, (j : Int) < h 34 7 → ¬ h 37 j = x) ∨ ∃ j : Nat, u = (j : Int) ∧ (j : Int) < h 34 7 ∧ h 37 j = x ∧ ∀ i : Nat, j < i → (i : Int) < h 34 7 → ¬ h 37 i = x) := by
  intro f
  induction f with
  | zero => intros; exact pc_none
  | succ f ih =>
    intro k hk A
    unfold qw_X1_localOf_15
    refine pc_if (fun z => pc_ret (.inl ⟨rfl, fun j hj => A j (by omega) hj⟩)) (fun z => ?_)
    refine pc_rA ?_; intro _ _ v2 e2
    rw [show ((k : Int) - 1).toNat = k - 1 by omega] at e2
    refine pc_if (fun y => ?_) (fun y => ?_)
    · refine pc_add (by omega) ?_; intro v3 e3
      rw [show v3 = ((k - 1 : Nat) : Int) - 1 by omega]
      refine ih (k - 1) (by omega) (fun j j1 j2 => ?_)
      by_cases q : j = k - 1
      · rw [q, ← e2]; exact y
      · exact A j (by omega) j2
    · exact pc_ret (.inr ⟨k - 1, by omega, by omega, by rw [← e2]; exact Classical.byContradiction y, fun i i1 i2 => A i (by omega) i2⟩)
theorem c_localOf {x : Int} (h7 : 0 ≤ h 34 7 ∧ h 34 7 ≤ 750) : Pc (qf_X1_localOf nn x h) (fun u => (u = -1 ∧ ∀ j : Nat, (j : Int) < h 34 7 → ¬ h 37 j = x) ∨ ∃ j : Nat, u = (j : Int) ∧ (j : Int) < h 34 7 ∧ h 37 j = x ∧ ∀ i : Nat, j < i → (i : Int) < h 34 7 → ¬ h 37 i = x) := by
  unfold qf_X1_localOf
  refine pc_xl ?_; intro v9 e9
  rw [if_neg (by omega)] at e9
  refine pc_sub (by omega) ?_; intro v10 e10
  rw [show v10 = (((h 34 7).toNat : Nat) : Int) - 1 by omega]
  exact c_loc15 h7.2 nn _ (by omega) (fun j j1 j2 => absurd j2 (by omega))
theorem r_si7 (BK : TBn K c) (M : NMr K V c r) {t : Nat} (kt : K t = 2) (H : ∀ s : Nat, (s : Int) < r 160 50 → 0 ≤ r 196 s ∧ K (r 196 s).toNat = 2) : ∀ (f k : Nat), (k : Int) ≤ r 160 50 → (∀ j : Nat, k ≤ j → (j : Int) < r 160 50 → ¬ V (r 196 j).toNat = V t) → Pc (qw_X13_sightOf_7 nn f (t : Int) ((k : Int) - 1) r) (fun u => (u = -1 ∧ ∀ j : Nat, (j : Int) < r 160 50 → ¬ V (r 196 j).toNat = V t) ∨ ∃ j : Nat, u = (j : Int) ∧ (j : Int) < r 160 50 ∧ V (r 196 j).toNat = V t ∧ ∀ i : Nat, j < i → (i : Int) < r 160 50 → ¬ V (r 196 i).toNat = V t) := by
  intro f
  induction f with
  | zero => intros; exact pc_none
  | succ f ih =>
    intro k hk A
    unfold qw_X13_sightOf_7
    refine pc_if (fun z => pc_ret (.inl ⟨rfl, fun j hj => A j (by omega) hj⟩)) (fun z => ?_)
    refine pc_rA ?_; intro _ _ v2 e2
    rw [show ((k : Int) - 1).toNat = k - 1 by omega] at e2
    obtain ⟨s1, s2⟩ := H (k - 1) (by omega)
    refine pc_sv (r_like M (i := (r 196 (k - 1)).toNat) (j := t) (tb_lt BK (by omega)) (tb_lt BK (by omega)) s2 kt (by omega) rfl) ?_; intro u4 q4
    refine pc_if (fun y => ?_) (fun y => ?_)
    · refine pc_add (by omega) ?_; intro v5 e5
      rw [show v5 = ((k - 1 : Nat) : Int) - 1 by omega]
      refine ih (k - 1) (by omega) (fun j j1 j2 => ?_)
      by_cases q : j = k - 1
      · rw [q]; rcases q4 with ⟨x1, x2⟩ | ⟨x1, x2⟩
        · omega
        · exact x2
      · exact A j (by omega) j2
    · rcases q4 with ⟨x1, x2⟩ | ⟨x1, x2⟩
      · exact pc_ret (.inr ⟨k - 1, by omega, by omega, x2, fun i i1 i2 => A i (by omega) i2⟩)
      · exact absurd x1 y
theorem r_sightOf (BK : TBn K c) (M : NMr K V c r) {t : Nat} (kt : K t = 2) (b50 : 0 ≤ r 160 50 ∧ r 160 50 ≤ 3000) (H : ∀ s : Nat, (s : Int) < r 160 50 → 0 ≤ r 196 s ∧ K (r 196 s).toNat = 2) {x : Int} (hx : x = (t : Int)) : Pc (qf_X13_sightOf nn x r) (fun u => (u = -1 ∧ ∀ j : Nat, (j : Int) < r 160 50 → ¬ V (r 196 j).toNat = V t) ∨ ∃ j : Nat, u = (j : Int) ∧ (j : Int) < r 160 50 ∧ V (r 196 j).toNat = V t ∧ ∀ i : Nat, j < i → (i : Int) < r 160 50 → ¬ V (r 196 i).toNat = V t) := by
  subst hx
  unfold qf_X13_sightOf
  refine pc_sub (by omega) ?_; intro v9 e9
  rw [show v9 = (((r 160 50).toNat : Nat) : Int) - 1 by omega]
  exact r_si7 BK M kt H nn _ (by omega) (fun j j1 j2 => absurd j2 (by omega))
/-- the same variable on both sides -/
theorem j_loc (BK : TBn K c) (M : NMr K V c r) (H : SGV K V F own h r) {t : Nat} (kt : K t = 2) {x y : Int} (hx : x = V t) (hy : y = (t : Int)) : Pc (qf_X1_localOf nn x h) (fun u => Pc (qf_X13_sightOf nn y r) (fun v => LOJ F h r u v)) := by
  obtain ⟨⟨a1, a2, a3⟩, b, d⟩ := H
  have v0 := (M.1 t (tb_lt BK (by omega)) kt).1.1
  refine pc_imp (c_localOf (by omega)) (fun u q => ?_)
  refine pc_imp (r_sightOf BK M kt (by omega) (fun s hs => ⟨(d s hs).1, (d s hs).2.1⟩) hy) (fun v q2 => ?_)
  have D : ∀ s : Nat, (s : Int) < r 160 50 → (h 37 (s + F) = x ↔ V (r 196 s).toNat = V t) := fun s hs => by rw [(d s hs).2.2.1, hx]
  rcases q with ⟨u1, no⟩ | ⟨j, u1, j2, j3, j4⟩
  · rcases q2 with ⟨v1, _⟩ | ⟨s, v1, s2, s3, s4⟩
    · exact .inl ⟨u1, v1⟩
    · exact absurd ((D s s2).mpr s3) (no (s + F) (by omega))
  · have jF : F ≤ j := by
      rcases b with b | ⟨b1, b2, _⟩
      · omega
      · by_cases z : j = 0
        · rw [z, b2] at j3; omega
        · omega
    have ej : j - F + F = j := by omega
    have Dj := D (j - F) (by omega)
    rw [ej] at Dj
    rcases q2 with ⟨v1, no⟩ | ⟨s, v1, s2, s3, s4⟩
    · exact absurd (Dj.mp j3) (no (j - F) (by omega))
    · by_cases lt : s < j - F
      · exact absurd (Dj.mp j3) (s4 (j - F) lt (by omega))
      · by_cases gt : j - F < s
        · exact absurd ((D s s2).mpr s3) (j4 (s + F) (by omega) (by omega))
        · exact .inr ⟨s, s2, v1, by omega⟩
theorem c_typeOfLocal {k : Nat} {x : Int} (hx : x = (k : Int)) (hk : k < 750) : Pc (qf_X1_typeOfLocal nn x h) (fun u => u = h 38 k) := by
  subst hx
  unfold qf_X1_typeOfLocal
  refine pc_if (fun z => absurd z (by omega)) (fun _ => ?_)
  refine pc_if (fun z => absurd z (by omega)) (fun _ => ?_)
  refine pc_rA ?_; intro _ _ v4 e4
  rw [Int.toNat_natCast] at e4
  exact pc_ret e4
theorem r_local {s : Int} (hF : (r 160 53 = 0 ∧ F = 1) ∨ (¬ r 160 53 = 0 ∧ F = 0)) (hs : 0 ≤ s ∧ s ≤ 100000) : Pc (qf_X13_local nn s r) (fun u => u = s + (F : Int)) := by
  unfold qf_X13_local
  refine pc_if (fun z => ?_) (fun z => pc_ret (by omega))
  refine pc_add (by omega) ?_; intro v2 e2
  exact pc_ret (by omega)
/-- one more -/
def CLa (x t : Int) (h u : ms_M) : Prop := u 34 7 = h 34 7 + 1 ∧ (u 34 8 = if h 34 8 < h 34 7 + 1 then h 34 7 + 1 else h 34 8) ∧ (h 34 7 < 750 → u 37 (h 34 7).toNat = x ∧ u 38 (h 34 7).toNat = t) ∧ ∀ cc y : Nat, ¬ (cc = 34 ∧ (y = 7 ∨ y = 8)) → ¬ ((cc = 37 ∨ cc = 38) ∧ y = (h 34 7).toNat) → u cc y = h cc y
def RCm (x t : Int) (r w : ms_M) : Prop := (0 ≤ r 160 50 ∧ r 160 50 < 3000) ∧ w 160 50 = r 160 50 + 1 ∧ w 196 (r 160 50).toNat = x ∧ w 197 (r 160 50).toNat = t ∧ ∀ cc y : Nat, ¬ (cc = 160 ∧ y = 50) → ¬ ((cc = 196 ∨ cc = 197) ∧ y = (r 160 50).toNat) → w cc y = r cc y
theorem c_addLocal {x t : Int} (hl : 0 ≤ h 34 7 ∧ h 34 7 ≤ 100000) : Pc (qf_X1_addLocal nn x t h) (fun u => u.1 = h 34 7 ∧ CLa x t h u.2) := by
  have E : ∀ g : ms_M, (∀ cc y : Nat, ¬ ((cc = 37 ∨ cc = 38) ∧ y = (h 34 7).toNat) → g cc y = h cc y) → (h 34 7 < 750 → g 37 (h 34 7).toNat = x ∧ g 38 (h 34 7).toNat = t) → Pc (qj_X1_addLocal_28 nn (h 34 7) g) (fun u => u.1 = h 34 7 ∧ CLa x t h u.2) := fun g G G2 => by
    have g7 := G 34 7 (by omega)
    have g8 := G 34 8 (by omega)
    unfold qj_X1_addLocal_28
    refine pc_add (by omega) ?_; intro v2 e2
    refine pc_xl ?_; intro h3 e3
    have a7 : h3 34 7 = h 34 7 + 1 := by rw [e3, up_s]; omega
    have a8 : h3 34 8 = h 34 8 := by rw [e3, up_n (by omega)]; exact g8
    refine pc_xl ?_; intro v6 e6
    rw [a7, a8] at e6
    refine pc_xl ?_; intro h7 e7
    refine pc_ret ?_
    show h 34 7 = h 34 7 ∧ CLa x t h h7
    refine ⟨rfl, by rw [e7, up_n (by omega)]; exact a7, by rw [e7, up_s]; exact e6, fun q => ?_, fun cc y z1 z2 => ?_⟩
    · rw [e7, up_n (by omega), e3, up_n (by omega), up_n (by omega), up_n (by omega)]; exact G2 q
    · rw [e7, up_n (by omega), e3, up_n (by omega)]; exact G cc y z2
  unfold qf_X1_addLocal
  refine pc_if (fun z => E h (fun _ _ _ => rfl) (fun q => absurd q (by omega))) (fun z => ?_)
  refine pc_wA ?_; intro _ _ h12 e12
  refine pc_wA ?_; intro _ _ h14 e14
  exact E h14 (fun cc y q => by rw [e14, up_n (by omega), e12, up_n (by omega)]) (fun _ => ⟨by rw [e14, up_n (by omega), e12, up_s], by rw [e14, up_s]⟩)
theorem r_come {x t : Int} : Pc (qf_X13_come nn x t r) (fun w => RCm x t r w) := by
  unfold qf_X13_come
  refine pc_wA ?_; intro b1 b2 h3 e3
  have a3 : h3 160 50 = r 160 50 := by rw [e3, up_n (by omega)]
  refine pc_wA ?_; intro _ _ h6 e6
  rw [a3] at e6
  have a6 : h6 160 50 = r 160 50 := by rw [e6, up_n (by omega)]; exact a3
  refine pc_add (by omega) ?_; intro v8 e8
  refine pc_xl ?_; intro h9 e9
  exact pc_ret ⟨⟨b1, b2⟩, by rw [e9, up_s]; omega, by rw [e9, up_n (by omega), e6, up_n (by omega), e3, up_s], by rw [e9, up_n (by omega), e6, up_s], fun cc y z1 z2 => by rw [e9, up_n z1, e6, up_n (by omega), e3, up_n (by omega)]⟩
theorem sgv_a (H : SGV K V F own h r) {t : Nat} {x ty ty2 : Int} (kt : K t = 2) (A : CLa (V t) ty h g) (B : RCm (t : Int) ty2 r w) (e2 : ty2 = ty_T ty) (h7 : h 34 7 < 750) : SGV K V F own g w := by
  obtain ⟨⟨a1, a2, a3⟩, b, d⟩ := H
  obtain ⟨c1, -, c3, c4⟩ := A
  obtain ⟨-, r1, r2, r3, r4⟩ := B
  obtain ⟨c5, c6⟩ := c3 h7
  refine ⟨by omega, ?_, fun s hs => ?_⟩
  · rcases b with b | ⟨b1, b2, b3⟩
    · exact .inl b
    · exact .inr ⟨b1, by rw [c4 37 0 (by omega) (by omega)]; exact b2, by rw [c4 38 0 (by omega) (by omega)]; exact b3⟩
  · by_cases q : (s : Int) = r 160 50
    · have es : s = (r 160 50).toNat := by omega
      rw [es, r2, r3, show (r 160 50).toNat + F = (h 34 7).toNat by omega, c5, c6, Int.toNat_natCast]
      exact ⟨by omega, kt, rfl, e2⟩
    · rw [r4 196 s (by omega) (by omega), r4 197 s (by omega) (by omega), c4 37 _ (by omega) (by omega), c4 38 _ (by omega) (by omega)]
      exact d s (by omega)
end
