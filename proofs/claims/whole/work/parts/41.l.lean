/- VERIFY: types of both sides, the reference's -/
/-- the space, as the reference has it -/
def RSv (Bf : Nat → Nat → Int) (nf : Nat → Nat) (h : ms_M) : Prop := (0 ≤ h 160 98 ∧ h 160 98 ≤ 8) ∧ ∀ k : Nat, (k : Int) < h 160 98 → TBr (k : Int) (nf k) (Bf k) h
/-- .. as the class has it -/
def CSv (Bf : Nat → Nat → Int) (nf : Nat → Nat) (h : ms_M) : Prop := (0 ≤ h 56 3 ∧ h 56 3 ≤ 8) ∧ ∀ k : Nat, (k : Int) < h 56 3 → IMc (h 60 k).toNat (nf k) (Bf k) h
section
variable {nn : Nat} {Bf : Nat → Nat → Int} {nf : Nat → Nat} {cnt : Int} {B : Nat → Int} {n b k : Nat} {M h g r : ms_M}
theorem rsv_k (S : RSv Bf nf h) (A : ∀ x j : Nat, 226 ≤ x ∧ x ≤ 237 → g x j = h x j) (e : g 160 98 = h 160 98) : RSv Bf nf g := by
  refine ⟨by rw [e]; exact S.1, fun k hk => ?_⟩
  rw [e] at hk
  have := S.1
  exact tb_k (by omega) (fun x j t => A x j (by unfold TAB at t; omega)) (fun j _ _ => A 226 j (by omega)) (A 227 _ (by omega)) (S.2 k hk)
theorem rsv_o (S : RSv Bf nf h) (A : OTH h g) : RSv Bf nf g := rsv_k S (fun x j z => A.1 x j (by omega) (by omega) (by omega)) (A.1 160 98 (by omega) (by omega) (by omega))
theorem np_59 {j : Nat} {x : Int} (e : np_N j x = true) : ¬ x = 59 := by
  intro z
  rw [z] at e
  unfold np_N lt_N at e
  rw [Bool.or_eq_true, Bool.and_eq_true] at e
  rcases e with e | e
  · exact absurd e (by decide)
  · exact absurd e.2 (by decide)
theorem nm_59 {f : Nat → Int} {m : Nat} (e : nm_N f m = true) : ∀ i, i < m → ¬ f i = 59 := by
  unfold nm_N at e
  rw [Bool.and_eq_true] at e
  intro i hi
  exact np_59 (al_at m 0 e.2 i (Nat.zero_le _) (by omega))
theorem nm_ln {f : Nat → Int} {m : Nat} (e : nm_N f m = true) : 1 ≤ m ∧ m ≤ 12 := by
  unfold nm_N at e
  rw [Bool.and_eq_true, Bool.and_eq_true] at e
  exact ⟨of_decide_eq_true e.1.1, of_decide_eq_true e.1.2⟩
theorem fi_at {f : Nat → Int} {x : Int} : ∀ (n p : Nat), fi_N f x p n < p + n → f (fi_N f x p n) = x := by
  intro n
  induction n with
  | zero => intro p z; unfold fi_N at z; omega
  | succ n ih =>
    intro p z
    unfold fi_N at z ⊢
    by_cases q : f p = x
    · rw [if_pos q]; exact q
    · rw [if_neg q] at z ⊢
      exact ih (p + 1) (by omega)
theorem kn_s {p s e : Nat} (H : kn_N B p s = some e) : B p = 76 ∧ NMk B (p + 1) e ∧ e ≤ s := by
  unfold kn_N at H
  by_cases q : p < s ∧ B p = 76
  · rw [if_pos q] at H
    generalize hx : fi_N B 59 (p + 1) (s - (p + 1)) = x at H
    by_cases w : x < s ∧ nm_N (fun i => B (p + 1 + i)) (x - (p + 1)) = true
    · rw [if_pos w] at H
      have e1 : x + 1 = e := Option.some.inj H
      have rg := fi_rg (f := B) (x := 59) (s - (p + 1)) (p + 1)
      have a1 := fi_at (f := B) (x := 59) (s - (p + 1)) (p + 1) (by omega)
      rw [hx] at a1 rg
      have l := nm_ln w.2
      refine ⟨q.2, ⟨by omega, ?_, ?_⟩, by omega⟩
      · rw [show e - 1 = x by omega]; exact a1
      · rw [show e - 1 - (p + 1) = x - (p + 1) by omega]; exact w.2
    · rw [if_neg w] at H; exact nomatch H
  · rw [if_neg q] at H; exact nomatch H
/-- what a kind is -/
theorem kd_s {p s e : Nat} (H : kd_N B p s = some e) : KDs B p e ∧ p < e ∧ e ≤ s ∧ ¬ B p = 86 := by
  have rg := kd_rg H
  unfold kd_N at H
  by_cases q : p < s ∧ (B p = 73 ∨ B p = 90)
  · rw [if_pos q] at H
    have e1 : p + 1 = e := Option.some.inj H
    exact ⟨.inl ⟨by omega, by omega⟩, rg.1, rg.2, by omega⟩
  rw [if_neg q] at H
  by_cases w : p < s ∧ B p = 91
  · rw [if_pos w] at H
    unfold kp_N at H
    by_cases t : p + 1 < s ∧ B (p + 1) = 73
    · rw [if_pos t] at H
      have e1 : p + 1 + 1 = e := Option.some.inj H
      exact ⟨.inr (.inl ⟨w.2, t.2, by omega⟩), rg.1, rg.2, by omega⟩
    · rw [if_neg t] at H
      obtain ⟨a1, a2, -⟩ := kn_s H
      exact ⟨.inr (.inr (.inl ⟨w.2, a1, a2⟩)), rg.1, rg.2, by omega⟩
  · rw [if_neg w] at H
    unfold kp_N at H
    by_cases t : p < s ∧ B p = 73
    · exact absurd ⟨t.1, .inl t.2⟩ q
    · rw [if_neg t] at H
      obtain ⟨a1, a2, -⟩ := kn_s H
      exact ⟨.inr (.inr (.inr ⟨a1, a2⟩)), rg.1, rg.2, by omega⟩
/-- numbers of names that are no class's -/
theorem r_51 {qk : Int → Int → Int → ms_M → Option (Int × ms_M)} {l1 l2 l4 : Int} (h4 : 0 ≤ l4 ∧ l4 < 2100) (Hk : ∀ l : Int, 0 ≤ l → Pc (qk l1 l2 l h) (fun u => OTH h u.2 ∧ 16 ≤ u.1 ∧ u.1 ≤ 2200)) : ∀ (f : Nat) (l5 l6 : Int), Pc (qw_X13_nameNumber_51 nn qk f l1 l2 l4 l5 l6 h) (fun u => OTH h u.2 ∧ 16 ≤ u.1 ∧ u.1 ≤ 2200) := by
  have E : ∀ l5 : Int, Pc (qj_X13_nameNumber_102 nn qk l1 l2 l4 l5 h) (fun u => OTH h u.2 ∧ 16 ≤ u.1 ∧ u.1 ≤ 2200) := fun l5 => by
    unfold qj_X13_nameNumber_102
    refine pc_if (fun _ => ?_) (fun _ => ?_)
    · refine pc_add (by omega) ?_; intro v1 e1
      exact Hk v1 (by omega)
    · refine pc_add (by omega) ?_; intro v2 e2
      exact pc_ret ⟨oth_r, by dsimp only; omega, by dsimp only; omega⟩
  intro f
  induction f with
  | zero => intro l5 l6; exact pc_none
  | succ f ih =>
    intro l5 l6
    unfold qw_X13_nameNumber_51
    refine pc_if (fun _ => E l5) (fun z => pc_if (fun _ => E l5) (fun _ => ?_))
    refine pc_rA ?_; intro _ _ v6 _
    refine pc_xl ?_; intro v7 _
    refine pc_rA ?_; intro _ _ v8 _
    refine pc_xl ?_; intro v10 _
    refine pc_rA ?_; intro _ _ v11 _
    refine pc_if (fun _ => ?_) (fun _ => ?_)
    · refine pc_xl ?_; intro v12 _
      exact ih 0 v12
    · refine pc_xl ?_; intro v13 _
      exact ih 1 v13
theorem r_21 {l1 l2 : Int} (h7 : 0 ≤ h 160 117) : ∀ (f : Nat) (l4 : Int), 0 ≤ l4 → Pc (qw_X13_nameNumber_21 nn f l1 l2 l4 h) (fun u => OTH h u.2 ∧ 16 ≤ u.1 ∧ u.1 ≤ 2200) := by
  intro f
  induction f with
  | zero => intro l4 _; exact pc_none
  | succ f ih =>
    intro l4 h4
    unfold qw_X13_nameNumber_21
    refine pc_if (fun _ => ?_) (fun _ => ?_)
    · refine pc_wA ?_; intro i1 i2 h20 e20
      refine pc_wA ?_; intro _ _ h23 e23
      have q7 : h23 160 117 = h 160 117 := by rw [e23, up_n (by omega), e20, up_n (by omega)]
      rw [q7]
      refine pc_add (by omega) ?_; intro v25 e25
      refine pc_xl ?_; intro h26 e26
      have q6 : h26 160 117 = h 160 117 + 1 := by rw [e26, up_s, e25]
      rw [q6]
      refine pc_add (by omega) ?_; intro v28 e28
      refine pc_sub (by omega) ?_; intro v29 e29
      refine pc_ret ⟨⟨fun x k z1 z2 z3 => ?_, fun z => ?_⟩, ?_, ?_⟩
      · show h26 x k = h x k
        rw [e26, up_n (by omega), e23, up_n (by omega), e20, up_n (by omega)]
      · show 0 ≤ h26 160 117
        omega
      · show 16 ≤ v29
        omega
      · show v29 ≤ 2200
        omega
    · refine pc_rA ?_; intro j1 j2 v31 _
      exact pc_if (fun _ => r_51 ⟨j1, j2⟩ (fun l hl => ih l hl) nn 0 0) (fun _ => r_51 ⟨j1, j2⟩ (fun l hl => ih l hl) nn 1 0)
/-- THE REFERENCE'S NUMBER OF A NAME -/
theorem r_number (S : RSv Bf nf h) (h7 : 0 ≤ h 160 117) {a : Int} {m : Nat} {f : Nat → Int} (R : RWt h 226 a m f) (hf : ∀ i, i < m → ¬ f i = 32) : Pc (qf_X13_nameNumber nn a (m : Int) h) (fun u => OTH h u.2 ∧ u.2 160 120 = h 160 120 ∧ ∃ v : Int, CNo Bf nf (h 160 98) f m v ∧ ((¬ v = -1 ∧ u.1 = v) ∨ (v = -1 ∧ 16 ≤ u.1 ∧ u.1 ≤ 2200)) ∧ -1 ≤ v ∧ v < 16) := by
  intro u eu
  have F20 : u.2 160 120 = h 160 120 := ff_X13_nameNumber nn u eu 160 120 rfl
  revert u
  unfold qf_X13_nameNumber qf_X13_classNamed
  intro u eu F20
  revert eu
  suffices H : Pc (mx_sv (qw_X13_classNamed_3 nn nn 226 a (m : Int) 0 h) fun u36 => if u36 = (-1) then (qw_X13_nameNumber_21 nn nn a (m : Int) 0 h) else (some (u36, h))) (fun u => OTH h u.2 ∧ ∃ v : Int, CNo Bf nf (h 160 98) f m v ∧ ((¬ v = -1 ∧ u.1 = v) ∨ (v = -1 ∧ 16 ≤ u.1 ∧ u.1 ≤ 2200)) ∧ -1 ≤ v ∧ v < 16) from fun eu => ⟨(H u eu).1, F20, (H u eu).2⟩
  refine pc_sv (r_classNamed S.2 S.1 R hf nn 0 (fun j _ hj => absurd hj (by omega)) (fun j hj => absurd hj (by omega)) (by have := S.1; show ((0 : Nat) : Int) ≤ _; omega)) ?_
  intro v C
  have rg : -1 ≤ v ∧ v < 16 := by
    have := S.1
    rcases C with ⟨k, k1, k2, -⟩ | ⟨-, ⟨k, k1, k2, -⟩ | ⟨k1, -⟩⟩
    · omega
    · omega
    · omega
  refine pc_if (fun z => ?_) (fun z => pc_ret ⟨oth_r, v, C, .inl ⟨z, rfl⟩, rg⟩)
  exact pc_imp (r_21 h7 nn 0 (Int.le_refl _)) (fun u q => ⟨q.1, v, C, .inr ⟨z, q.2⟩, rg⟩)
/-- the byte of image k -/
theorem tb_by (S : RSv Bf nf h) (hk : (k : Int) < h 160 98) {i : Nat} (hi : i < nf k) : h 226 (6000 * k + i) = Bf k i := by
  have X := (S.2 k hk).1.2.2.1 i hi
  rw [Int.toNat_natCast] at X
  exact X
theorem tb_n6 (S : RSv Bf nf h) (hk : (k : Int) < h 160 98) : nf k ≤ 6000 ∧ k < 8 := ⟨(S.2 k hk).1.2.1, by have := S.1; omega⟩
/-- a name in a kind -/
theorem r_75 (S : RSv Bf nf h) (h7 : 0 ≤ h 160 117) (hk : (k : Int) < h 160 98) {p e : Nat} (N : NMk (Bf k) (p + 1) e) (he : e ≤ nf k) {l2 : Int} : ∀ (f i : Nat), p < i → i ≤ e - 1 → Pc (qw_X13_typeAt_75 nn f l2 ((6000 * k + p : Nat) : Int) ((6000 * k + i : Nat) : Int) h) (fun u => OTH h u.2 ∧ u.2 160 120 = ((6000 * k + e : Nat) : Int) ∧ ∃ v : Int, CNo Bf nf (h 160 98) (fun i => Bf k (p + 1 + i)) (e - 1 - (p + 1)) v ∧ NRv (if l2 = 91 then 5 else 4) v u.1) := by
  obtain ⟨n6, k8⟩ := tb_n6 S hk
  obtain ⟨N1, N2, N3⟩ := N
  have ln := nm_ln N3
  intro f
  induction f with
  | zero => intro i _ _; exact pc_none
  | succ f ih =>
    intro i hi1 hi2
    unfold qw_X13_typeAt_75
    refine pc_rA ?_; intro _ _ v2 e2
    rw [Int.toNat_natCast, tb_by S hk (by omega)] at e2
    refine pc_if (fun z => ?_) (fun z => ?_)
    · have ie : i = e - 1 := Classical.byContradiction fun q => by
        have := nm_59 N3 (i - (p + 1)) (by omega)
        rw [show p + 1 + (i - (p + 1)) = i by omega] at this
        omega
      refine pc_add (by omega) ?_; intro v3 e3
      refine pc_xl ?_; intro h4 e4
      refine pc_add (by omega) ?_; intro v5 e5
      refine pc_sub (by omega) ?_; intro v6 e6
      refine pc_sub (by omega) ?_; intro v7 e7
      have O4 : OTH h h4 := ⟨fun x j z1 z2 z3 => by rw [e4, up_n (by omega)], fun z => by rw [e4, up_n (by omega)]; exact z⟩
      have S4 := rsv_o S O4
      rw [show v7 = ((e - 1 - (p + 1) : Nat) : Int) by omega]
      refine pc_sv (r_number S4 (O4.2 h7) (f := fun i => Bf k (p + 1 + i)) ⟨by omega, by omega, by omega, fun j hj => ?_⟩ (nm_32 N3)) ?_
      · have q := tb_by S4 (k := k) (by rw [O4.1 160 98 (by omega) (by omega) (by omega)]; exact hk) (i := p + 1 + j) (by omega)
        rw [show v5.toNat + j = 6000 * k + (p + 1 + j) by omega]; exact q
      intro u9 ⟨O9, q9, v, C, qv, rv⟩
      rw [O4.1 160 98 (by omega) (by omega) (by omega)] at C
      have O := oth_t O4 O9
      have k20 : u9.2 160 120 = ((6000 * k + e : Nat) : Int) := by rw [q9, e4, up_s]; omega
      refine pc_xl ?_; intro v10 e10
      rw [oq_mul_eq (by omega) (by omega) (by omega)] at e10
      refine pc_add (by omega) ?_; intro v11 e11
      refine pc_if (fun w => ?_) (fun w => ?_)
      · refine pc_add (by omega) ?_; intro v12 e12
        refine pc_ret ⟨O, k20, v, C, ?_⟩
        rw [if_neg w]
        unfold NRv
        dsimp only
        omega
      · refine pc_add (by omega) ?_; intro v13 e13
        refine pc_ret ⟨O, k20, v, C, ?_⟩
        rw [if_pos (by omega)]
        unfold NRv
        dsimp only
        omega
    · have ie : ¬ i = e - 1 := fun q => z (by rw [e2, q]; exact N2)
      refine pc_add (by omega) ?_; intro v15 e15
      rw [show v15 = ((6000 * k + (i + 1) : Nat) : Int) by omega]
      exact ih (i + 1) (by omega) (by omega)
/-- THE REFERENCE'S TYPE OF A KIND -/
theorem vq_rkind (S : RSv Bf nf h) (h7 : 0 ≤ h 160 117) (hk : (k : Int) < h 160 98) {p e : Nat} (K : KDs (Bf k) p e) (he : e ≤ nf k) : Pc (qf_X13_typeAt nn ((6000 * k + p : Nat) : Int) h) (fun u => OTH h u.2 ∧ u.2 160 120 = ((6000 * k + e : Nat) : Int) ∧ KTr Bf nf (h 160 98) (Bf k) p e u.1) := by
  obtain ⟨n6, k8⟩ := tb_n6 S hk
  have pe : p < e := by unfold KDs NMk at K; omega
  unfold qf_X13_typeAt
  refine pc_rA ?_; intro _ _ v24 e24
  rw [Int.toNat_natCast, tb_by S hk (by omega)] at e24
  refine pc_add (by omega) ?_; intro v25 e25
  refine pc_xl ?_; intro h26 e26
  have O6 : OTH h h26 := ⟨fun x j z1 z2 z3 => by rw [e26, up_n (by omega)], fun z => by rw [e26, up_n (by omega)]; exact z⟩
  have S6 := rsv_o S O6
  have hk6 : (k : Int) < h26 160 98 := by rw [O6.1 160 98 (by omega) (by omega) (by omega)]; exact hk
  have c6 : h26 160 98 = h 160 98 := O6.1 160 98 (by omega) (by omega) (by omega)
  have k20 : h26 160 120 = ((6000 * k + (p + 1) : Nat) : Int) := by rw [e26, up_s]; omega
  refine pc_if (fun z => pc_ret ⟨O6, by dsimp only; rw [k20]; unfold KDs at K; omega, .inl ⟨.inl (by omega), rfl⟩⟩) (fun z73 => ?_)
  refine pc_if (fun z90 => ?_) (fun z => pc_ret ⟨O6, by dsimp only; rw [k20]; unfold KDs at K; omega, .inl ⟨.inr (by omega), rfl⟩⟩)
  refine pc_if (fun z86 => ?_) (fun z => pc_ret ⟨O6, by dsimp only; rw [k20]; unfold KDs at K; omega, .inr (.inl ⟨by omega, rfl⟩)⟩)
  refine pc_if (fun z91 => ?_) (fun z91 => ?_)
  · have b0 : Bf k p = 76 ∧ NMk (Bf k) (p + 1) e := by
      rcases K with ⟨q, -⟩ | ⟨q, -⟩ | ⟨q, -⟩ | q
      · omega
      · omega
      · omega
      · exact q
    unfold qj_X13_typeAt_49
    refine pc_rA ?_; intro _ _ v18 e18
    rw [Int.toNat_natCast, tb_by S6 hk6 (by omega)] at e18
    refine pc_if (fun _ => ?_) (fun z => absurd (show ¬ v18 = 73 by omega) z)
    refine pc_add (by omega) ?_; intro v19 e19
    rw [show v19 = ((6000 * k + (p + 1) : Nat) : Int) by omega]
    have l := b0.2.1
    refine pc_imp (r_75 S6 (O6.2 h7) hk6 b0.2 he nn (p + 1) (by omega) (by omega)) ?_
    intro u ⟨q1, q2, v, C, q3⟩
    rw [c6] at C
    rw [if_neg (by omega)] at q3
    exact ⟨oth_t O6 q1, q2, .inr (.inr (.inr (.inr ⟨b0.1, v, C, q3⟩)))⟩
  · have b91 : Bf k p = 91 := by omega
    have p1 : p + 1 < e := by unfold KDs NMk at K; omega
    refine pc_add (by omega) ?_; intro v27 e27
    rw [show v27 = ((6000 * k + (p + 1) : Nat) : Int) by omega]
    unfold qj_X13_typeAt_49
    refine pc_rA ?_; intro _ _ v18 e18
    rw [Int.toNat_natCast, tb_by S6 hk6 (by omega)] at e18
    refine pc_if (fun z => ?_) (fun z => ?_)
    · have b0 : Bf k (p + 1) = 76 ∧ NMk (Bf k) (p + 2) e := by
        rcases K with ⟨q, -⟩ | ⟨q, q2, -⟩ | ⟨q, q2⟩ | ⟨q, -⟩
        · omega
        · omega
        · exact q2
        · omega
      refine pc_add (by omega) ?_; intro v19 e19
      rw [show v19 = ((6000 * k + (p + 1 + 1) : Nat) : Int) by omega]
      have l := b0.2.1
      refine pc_imp (r_75 (p := p + 1) S6 (O6.2 h7) hk6 b0.2 he nn (p + 1 + 1) (by omega) (by omega)) ?_
      intro u ⟨q1, q2, v, C, q3⟩
      rw [c6] at C
      rw [if_pos (by omega)] at q3
      exact ⟨oth_t O6 q1, q2, .inr (.inr (.inr (.inl ⟨b91, b0.1, v, C, q3⟩)))⟩
    · refine pc_add (by omega) ?_; intro v20 e20
      refine pc_xl ?_; intro h21 e21
      have ee : e = p + 2 := by
        rcases K with ⟨q, -⟩ | ⟨q, q2, q3⟩ | ⟨q, q2, -⟩ | ⟨q, -⟩
        · omega
        · exact q3
        · omega
        · omega
      refine pc_ret ⟨oth_t O6 ⟨fun x j z1 z2 z3 => by dsimp only; rw [e21, up_n (by omega)], fun y => by dsimp only; rw [e21, up_n (by omega)]; exact y⟩, ?_, .inr (.inr (.inl ⟨b91, by omega, rfl⟩))⟩
      dsimp only
      rw [e21, up_s]
      omega
end
