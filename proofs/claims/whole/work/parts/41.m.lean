/- VERIFY: types of class constants; kinds of methods -/
/-- the type of class constant i -/
def CTp (Bf : Nat → Nat → Int) (nf : Nat → Nat) (cnt : Int) (B : Nat → Int) (n : Nat) (i x : Int) : Prop := (B (na_S B n (pt_S B n i 0)) = 91 ∧ KTc Bf nf cnt B (na_S B n (pt_S B n i 0)) (na_S B n (pt_S B n i 0) + tl_S B n (pt_S B n i 0)) x) ∨ (¬ B (na_S B n (pt_S B n i 0)) = 91 ∧ CLo Bf nf cnt (fun j => B (na_S B n (pt_S B n i 0) + j)) (tl_S B n (pt_S B n i 0)) x)
def CTq (Bf : Nat → Nat → Int) (nf : Nat → Nat) (cnt : Int) (B : Nat → Int) (n : Nat) (i y : Int) : Prop := (B (na_S B n (pt_S B n i 0)) = 91 ∧ KTr Bf nf cnt B (na_S B n (pt_S B n i 0)) (na_S B n (pt_S B n i 0) + tl_S B n (pt_S B n i 0)) y) ∨ (¬ B (na_S B n (pt_S B n i 0)) = 91 ∧ ∃ v : Int, CNo Bf nf cnt (fun j => B (na_S B n (pt_S B n i 0) + j)) (tl_S B n (pt_S B n i 0)) v ∧ NRv 4 v y)
/-- a method's kind from a to s: m parameters, where they begin -/
def MKd (B : Nat → Int) (a s m : Nat) (ps : Nat → Nat) : Prop := (B a = 40 ∧ ps 0 = a + 1 ∧ m ≤ 6) ∧ (∀ j : Nat, j < m → kd_N B (ps j) s = some (ps (j + 1)) ∧ ¬ B (ps j) = 41) ∧ (B (ps m) = 41 ∧ ps m + 1 < s) ∧ KDs B (ps m + 1) s
section
variable {nn : Nat} {Bf : Nat → Nat → Int} {nf : Nat → Nat} {cnt : Int} {B : Nat → Int} {n b k : Nat} {M h g r : ms_M}
theorem ly_vf {c : Nat} (t : ly_T c = 1) : ¬ (127 ≤ c ∧ c ≤ 135) := fun z => by
  rcases (show c = 127 ∨ c = 128 ∨ c = 129 ∨ c = 130 ∨ c = 131 ∨ c = 132 ∨ c = 133 ∨ c = 134 ∨ c = 135 by omega) with e | e | e | e | e | e | e | e | e
  all_goals (rw [e] at t; exact absurd t (by decide))
/-- the verifier's own cells do not matter -/
theorem csv_k (S : CSv Bf nf h) (A : ∀ c j : Nat, c < 160 ∨ 256 ≤ c → ¬ (127 ≤ c ∧ c ≤ 135) → g c j = h c j) : CSv Bf nf g := by
  have e3 : g 56 3 = h 56 3 := A _ _ (by omega) (by omega)
  have ec : cn_M g = cn_M h := by unfold cn_M; rw [A _ _ (by omega) (by omega)]
  refine ⟨by rw [e3]; exact S.1, fun k hk => ?_⟩
  rw [A 60 k (by omega) (by omega)]
  have X := S.2 k (by omega)
  have id := im_at X.1.1.1
  have t1 : ly_T (h (h 60 k).toNat 0).toNat = 1 := X.1.1.2.2.2.2.2.1
  refine imc_s ⟨fun c i c1 c2 => A _ _ (by omega) (by omega), fun i => A _ _ (ly_1r t1) (ly_vf t1), by omega, ?_⟩ X
  unfold ln_I
  split
  · rfl
  · exact A _ _ (by omega) (by omega)
/-- the text that a class constant names -/
theorem cl_tx {x : Nat} (zk : kk_S B n = .inr x) (h2 : 0 ≤ B 2) {i : Int} (t3 : tg_S B n i = 3) : tg_S B n (pt_S B n i 0) = 1 ∧ ((nm_N (fun j => B (na_S B n (pt_S B n i 0) + j)) (tl_S B n (pt_S B n i 0)) = true ∧ ¬ B (na_S B n (pt_S B n i 0)) = 91) ∨ (B (na_S B n (pt_S B n i 0)) = 91 ∧ KDs B (na_S B n (pt_S B n i 0)) (na_S B n (pt_S B n i 0) + tl_S B n (pt_S B n i 0)))) := by
  obtain ⟨i1, i2, -⟩ := tg_in (B := B) (n := n) (k := i) (by omega)
  have c := kk_ck zk h2 ⟨i1, i2⟩
  unfold ck_S at c
  rw [if_pos t3] at c
  by_cases q : (nm_S B n (pt_S B n i 0) || (ar_S B n (pt_S B n i 0) && fk_S B n (pt_S B n i 0))) = true
  · rw [Bool.or_eq_true, Bool.and_eq_true] at q
    rcases q with q | ⟨q1, q2⟩
    · unfold nm_S at q
      rw [Bool.and_eq_true] at q
      refine ⟨of_decide_eq_true q.1, .inl ⟨q.2, ?_⟩⟩
      exact nm_91 q.2
    · unfold ar_S at q1
      unfold fk_S at q2
      rw [Bool.and_eq_true] at q1 q2
      have a := of_decide_eq_true q1.2
      have b := of_decide_eq_true q2.2
      exact ⟨of_decide_eq_true q1.1, .inr ⟨a, (kd_s b).1⟩⟩
  · rw [if_neg q] at c; exact nomatch c
theorem ct_cr (N : NKn Bf nf cnt) (h8 : cnt ≤ 8) {i x y : Int} (X : CTp Bf nf cnt B n i x) (Y : CTq Bf nf cnt B n i y) : TYo x y ∧ ((x = -1 ∧ 36 ≤ y) ∨ ((0 ≤ x ∧ x < 16) ∧ y = 4 + 2 * x) ∨ ((100 ≤ x ∧ x < 116) ∧ y = 5 + 2 * (x - 100)) ∨ (x = 200 ∧ y = 3)) := by
  rcases X with ⟨x1, x2⟩ | ⟨x1, x2⟩
  · rcases Y with ⟨y1, y2⟩ | ⟨y1, y2⟩
    · rcases kt_cr N h8 x2 y2 with z | ⟨-, z1, z2, z3, z4, z5⟩
      · omega
      · refine ⟨z2, ?_⟩
        unfold TYo TYj at z2
        omega
    · exact absurd x1 y1
  · rcases Y with ⟨y1, y2⟩ | ⟨y1, v, C, y2⟩
    · exact absurd y1 x1
    · have rg := clo_rg h8 x2
      have e := cl_cn N x2 C
      unfold TYo TYj
      unfold NRv at y2
      clear x2 C
      omega
/-- THE CLASS'S TYPE OF A CLASS CONSTANT -/
theorem vq_cclass (S : CSv Bf nf h) (hk : (k : Int) < h 56 3) {i : Int} (t3 : tg_S (Bf k) (nf k) i = 3) : Pc (qf_X7_typeOfClass nn (h 60 k).toNat i h) (CTp Bf nf (h 56 3) (Bf k) (nf k) i) := by
  have X := S.2 k hk
  obtain ⟨T, p, q, zk, -⟩ := X
  obtain ⟨t1, tx⟩ := cl_tx zk T.2.2.1.1 t3
  obtain ⟨c1, c2, c3⟩ := c_text (nn := nn) T t1
  have J := T.1
  have ln : 1 ≤ tl_S (Bf k) (nf k) (pt_S (Bf k) (nf k) i 0) := by
    rcases tx with ⟨w, -⟩ | ⟨-, w⟩
    · exact (nm_ln w).1
    · unfold KDs NMk at w; omega
  unfold qf_X7_typeOfClass
  refine pc_ck (fun _ => ?_)
  refine pc_sv (P := fun u => u = pt_S (Bf k) (nf k) i 0) (fun u eu => by
    have z := c_part (nn := nn) T (k := i) (i := 0) (.inl ⟨t3, rfl⟩)
    rw [show ((0 : Nat) : Int) = 0 from rfl] at z
    rw [z] at eu; exact (Option.some.inj eu).symm) ?_; intro u2 q2
  rw [q2]
  refine pc_sv (P := fun u => u = ((na_S (Bf k) (nf k) (pt_S (Bf k) (nf k) i 0) : Nat) : Int)) (fun u eu => by rw [c1] at eu; exact (Option.some.inj eu).symm) ?_; intro u4 q4
  refine pc_sv (P := fun u => u = ((na_S (Bf k) (nf k) (pt_S (Bf k) (nf k) i 0) + tl_S (Bf k) (nf k) (pt_S (Bf k) (nf k) i 0) : Nat) : Int)) (fun u eu => by rw [c2] at eu; exact (Option.some.inj eu).symm) ?_; intro u6 q6
  rw [q4, q6]
  refine pc_sv (P := fun u => u = Bf k (na_S (Bf k) (nf k) (pt_S (Bf k) (nf k) i 0))) (fun u eu => by rw [byteAt_in J (by omega)] at eu; exact (Option.some.inj eu).symm) ?_; intro u8 q8
  rw [q8]
  refine pc_if (fun z => ?_) (fun z => ?_)
  · refine pc_sv (c_look S.2 S.1 J (by omega)) ?_; intro u10 C
    rw [show na_S (Bf k) (nf k) (pt_S (Bf k) (nf k) i 0) + tl_S (Bf k) (nf k) (pt_S (Bf k) (nf k) i 0) - na_S (Bf k) (nf k) (pt_S (Bf k) (nf k) i 0) = tl_S (Bf k) (nf k) (pt_S (Bf k) (nf k) i 0) by omega] at C
    exact pc_ret (.inr ⟨z, C⟩)
  · have z91 : Bf k (na_S (Bf k) (nf k) (pt_S (Bf k) (nf k) i 0)) = 91 := by omega
    rcases tx with ⟨-, w⟩ | ⟨-, w⟩
    · exact absurd z91 w
    · refine pc_sv (vq_ckind S.2 S.1 J w c3) ?_; intro u12 C
      exact pc_ret (.inl ⟨z91, C⟩)
/-- the reference's bytes of image k -/
theorem vq_rbyte (S : RSv Bf nf h) (hk : (k : Int) < h 160 98) {p : Nat} (hp : p < nf k) : Pc (qf_X13_byteAt nn (k : Int) (p : Int) h) (fun u => u = Bf k p) := by
  obtain ⟨n6, k8⟩ := tb_n6 S hk
  unfold qf_X13_byteAt
  refine pc_xl ?_; intro v2 e2
  rw [oq_mul_eq (by omega) (by omega) (by omega)] at e2
  refine pc_add (by omega) ?_; intro v3 e3
  refine pc_rA ?_; intro _ _ v4 e4
  rw [show v3.toNat = 6000 * k + p by omega, tb_by S hk hp] at e4
  exact pc_ret e4
/-- where the reference's constant i of image k is -/
theorem tb_pl (S : RSv Bf nf h) (hk : (k : Int) < h 160 98) {i : Int} (h1 : 1 ≤ i) (h2 : i ≤ Bf k 2) : h 228 (256 * (k : Int) + i).toNat = (pl_S (Bf k) (nf k) i : Int) ∧ KVs (Bf k) (nf k) i ∧ Bf k 2 ≤ 255 := ⟨(S.2 k hk).2.1.2.2.1 i h1 h2, (S.2 k hk).2.1.2.2.2 i h1 h2, (S.2 k hk).2.1.2.1.2⟩
/-- THE REFERENCE'S TYPE OF A CLASS CONSTANT -/
theorem vq_rclass (S : RSv Bf nf h) (h7 : 0 ≤ h 160 117) (hk : (k : Int) < h 160 98) {i : Int} (t3 : tg_S (Bf k) (nf k) i = 3) : Pc (qf_X13_typeOfClass nn (k : Int) i h) (fun u => OTH h u.2 ∧ CTq Bf nf (h 160 98) (Bf k) (nf k) i u.1) := by
  obtain ⟨n6, k8⟩ := tb_n6 S hk
  obtain ⟨-, ⟨-, x2, -⟩, p, q, zk, -⟩ := S.2 k hk
  obtain ⟨t1, tx⟩ := cl_tx zk x2.1 t3
  obtain ⟨i1, i2, i3⟩ := tg_in (B := Bf k) (n := nf k) (k := i) (by omega)
  obtain ⟨j1, j2, j3⟩ := tg_in (B := Bf k) (n := nf k) (k := pt_S (Bf k) (nf k) i 0) (by omega)
  obtain ⟨a1, a2, a3⟩ := tb_pl S hk i1 i2
  obtain ⟨b1, b2, -⟩ := tb_pl S hk j1 j2
  have b3 := b2.2.1 (by omega)
  have a4 := a2.2.2.1 (by omega)
  have epl : pt_S (Bf k) (nf k) i 0 = Bf k (pl_S (Bf k) (nf k) i + 1) := rfl
  have ena : na_S (Bf k) (nf k) (pt_S (Bf k) (nf k) i 0) = pl_S (Bf k) (nf k) (pt_S (Bf k) (nf k) i 0) + 2 := rfl
  unfold qf_X13_typeOfClass qf_X13_textOfClass
  refine pc_sv (P := fun u => u = pt_S (Bf k) (nf k) i 0) ?_ ?_
  · refine pc_xl ?_; intro v2 e2
    rw [oq_mul_eq (by omega) (by omega) (by omega)] at e2
    refine pc_add (by omega) ?_; intro v3 e3
    refine pc_rA ?_; intro _ _ v4 e4
    rw [show v3 = 256 * (k : Int) + i by omega, a1] at e4
    refine pc_add (by omega) ?_; intro v5 e5
    rw [show v5 = ((pl_S (Bf k) (nf k) i + 1 : Nat) : Int) by omega]
    refine pc_sv (vq_rbyte S hk (by omega)) ?_; intro u7 q7
    exact pc_ret (q7.trans epl.symm)
  intro u2 q2
  rw [q2]
  generalize ht : pt_S (Bf k) (nf k) i 0 = t at *
  refine pc_xl ?_; intro v3 e3
  rw [oq_mul_eq (by omega) (by omega) (by omega)] at e3
  refine pc_xl ?_; intro v5 e5
  rw [oq_mul_eq (by omega) (by omega) (by omega)] at e5
  refine pc_add (by omega) ?_; intro v6 e6
  refine pc_rA ?_; intro _ _ v7 e7
  rw [show v6 = 256 * (k : Int) + t by omega, b1] at e7
  refine pc_add (by omega) ?_; intro v8 e8
  refine pc_add (by omega) ?_; intro v10 e10
  refine pc_rA ?_; intro _ _ v11 e11
  rw [show v10.toNat = 6000 * k + na_S (Bf k) (nf k) t by omega, tb_by S hk (by omega)] at e11
  refine pc_if (fun z => ?_) (fun z => ?_)
  · have w : nm_N (fun j => Bf k (na_S (Bf k) (nf k) t + j)) (tl_S (Bf k) (nf k) t) = true := by
      rcases tx with ⟨w, -⟩ | ⟨w, -⟩
      · exact w
      · omega
    have ln := nm_ln w
    refine pc_add (by omega) ?_; intro v12 e12
    refine pc_add (by omega) ?_; intro v14 e14
    refine pc_rA ?_; intro _ _ v15 e15
    rw [show v14.toNat = 6000 * k + (pl_S (Bf k) (nf k) t + 1) by omega, tb_by S hk (by omega)] at e15
    rw [show v15 = ((tl_S (Bf k) (nf k) t : Nat) : Int) by omega]
    refine pc_sv (r_number S h7 (f := fun j => Bf k (na_S (Bf k) (nf k) t + j)) ⟨by omega, by omega, by omega, fun j hj => ?_⟩ (nm_32 w)) ?_
    · rw [show v12.toNat + j = 6000 * k + (na_S (Bf k) (nf k) t + j) by omega]; exact tb_by S hk (by omega)
    intro u17 ⟨O, _, v, C, qv, rv⟩
    refine pc_xl ?_; intro v18 e18
    rw [oq_mul_eq (by omega) (by omega) (by omega)] at e18
    refine pc_add (by omega) ?_; intro v19 e19
    refine pc_ret ⟨O, .inr ⟨by rw [ht]; omega, v, by rw [ht]; exact C, ?_⟩⟩
    unfold NRv
    dsimp only
    omega
  · have w : KDs (Bf k) (na_S (Bf k) (nf k) t) (na_S (Bf k) (nf k) t + tl_S (Bf k) (nf k) t) := by
      rcases tx with ⟨-, w⟩ | ⟨-, w⟩
      · omega
      · exact w
    refine pc_add (by omega) ?_; intro v20 e20
    rw [show v20 = ((6000 * k + na_S (Bf k) (nf k) t : Nat) : Int) by omega]
    refine pc_sv (vq_rkind S h7 hk w (by omega)) ?_; intro u22 ⟨O, _, C⟩
    exact pc_ret ⟨O, .inl ⟨by rw [ht]; omega, by rw [ht]; exact C⟩⟩
theorem pl_ps {s : Nat} : ∀ (f p c q : Nat), pl_N B f p s = some (c, q) → ∃ ps : Nat → Nat, ps 0 = p ∧ ps c = q ∧ (∀ j : Nat, j < c → kd_N B (ps j) s = some (ps (j + 1)) ∧ ¬ B (ps j) = 41) ∧ (q < s → B q = 41) := by
  intro f
  induction f with
  | zero => intro p c q H; exact nomatch H
  | succ f ih =>
    intro p c q H
    unfold pl_N at H
    by_cases w : p < s ∧ B p ≠ 41
    · rw [if_pos w] at H
      cases hk : kd_N B p s with
      | none => rw [hk] at H; exact nomatch H
      | some e =>
        rw [hk] at H
        dsimp only at H
        cases hp : pl_N B f e s with
        | none => rw [hp] at H; exact nomatch H
        | some x =>
          rw [hp] at H
          have e1 : (x.1 + 1, x.2) = (c, q) := Option.some.inj H
          have e2 : x.1 + 1 = c := congrArg Prod.fst e1
          have e3 : x.2 = q := congrArg Prod.snd e1
          obtain ⟨ps, p0, p1, p2, p3⟩ := ih e x.1 x.2 hp
          refine ⟨fun j => if j = 0 then p else ps (j - 1), rfl, ?_, fun j hj => ?_, by rw [← e3]; exact p3⟩
          · show (if c = 0 then p else ps (c - 1)) = q
            rw [if_neg (by omega), show c - 1 = x.1 by omega, p1, e3]
          · show kd_N B (if j = 0 then p else ps (j - 1)) s = some (if j + 1 = 0 then p else ps (j + 1 - 1)) ∧ ¬ B (if j = 0 then p else ps (j - 1)) = 41
            rw [if_neg (show ¬ j + 1 = 0 by omega)]
            by_cases j0 : j = 0
            · rw [if_pos j0, j0, show 0 + 1 - 1 = 0 from rfl, p0]; exact ⟨hk, w.2⟩
            · rw [if_neg j0]
              have a := p2 (j - 1) (by omega)
              rw [show j - 1 + 1 = j + 1 - 1 by omega] at a
              exact a
    · rw [if_neg w] at H
      have e1 : (0, p) = (c, q) := Option.some.inj H
      have e2 : 0 = c := congrArg Prod.fst e1
      have e3 : p = q := congrArg Prod.snd e1
      refine ⟨fun _ => p, rfl, e3, fun j hj => absurd hj (by omega), fun z => Classical.byContradiction fun y => w ⟨by omega, by rw [e3]; exact y⟩⟩
/-- a text that is a method's kind -/
theorem pi_ps {k : Int} {m : Nat} (H : pi_S B n k = some m) : tg_S B n k = 1 ∧ ∃ ps : Nat → Nat, MKd B (na_S B n k) (na_S B n k + tl_S B n k) m ps := by
  unfold pi_S at H
  by_cases t : tg_S B n k = 1
  · rw [if_pos t] at H
    refine ⟨t, ?_⟩
    unfold up_6 at H
    cases hp : pi_N B (pl_S B n k + 2) (pl_S B n k + 2 + tl_S B n k) with
    | none => rw [hp] at H; exact nomatch H
    | some c =>
      rw [hp] at H
      dsimp only at H
      by_cases c6 : c ≤ 6
      · rw [if_pos c6] at H
        have ec : c = m := Option.some.inj H
        unfold pi_N at hp
        by_cases w : pl_S B n k + 2 < pl_S B n k + 2 + tl_S B n k ∧ B (pl_S B n k + 2) = 40
        · rw [if_pos w] at hp
          cases hq : pl_N B (pl_S B n k + 2 + tl_S B n k + 1) (pl_S B n k + 2 + 1) (pl_S B n k + 2 + tl_S B n k) with
          | none => rw [hq] at hp; exact nomatch hp
          | some x =>
            rw [hq] at hp
            dsimp only at hp
            by_cases e : pe_N B x.2 (pl_S B n k + 2 + tl_S B n k) = true
            · rw [if_pos e] at hp
              have ex : x.1 = c := Option.some.inj hp
              obtain ⟨ps, p0, p1, p2, p3⟩ := pl_ps _ _ x.1 x.2 hq
              unfold pe_N at e
              rw [Bool.and_eq_true, Bool.or_eq_true, Bool.and_eq_true] at e
              have e1 := of_decide_eq_true e.1
              refine ⟨ps, ⟨w.2, p0, by omega⟩, fun j hj => p2 j (by omega), ⟨?_, ?_⟩, ?_⟩
              · rw [← ec, ← ex, p1]; exact p3 e1
              · rw [← ec, ← ex, p1]
                show x.2 + 1 < pl_S B n k + 2 + tl_S B n k
                rcases e.2 with ⟨z1, z2⟩ | z
                · have := of_decide_eq_true z1; omega
                · have := (kd_rg (of_decide_eq_true z)).1; omega
              · rw [← ec, ← ex, p1]
                show KDs B (x.2 + 1) (pl_S B n k + 2 + tl_S B n k)
                rcases e.2 with ⟨z1, z2⟩ | z
                · have a := of_decide_eq_true z1
                  have b := of_decide_eq_true z2
                  exact .inl ⟨.inr (.inr b), by omega⟩
                · exact (kd_s (of_decide_eq_true z)).1
            · rw [if_neg e] at hp; exact nomatch hp
        · rw [if_neg w] at hp; exact nomatch hp
      · rw [if_neg c6] at H; exact nomatch H
  · rw [if_neg t] at H; exact nomatch H
end
