/- TOKENS: numbers, signs -/
section
variable {nn : Nat} {h g r h2 r2 : ms_M} {A : Nat → Int} {n p : Nat} {qk : Int → ms_M → Option ms_M}
/-- a token without a name: both have gone on -/
theorem jt_s (J : JT A n p h r) {q : Nat} (hq : p < q ∧ q ≤ n) {k v a w y : Int} (A2 : AT_ k (p : Int) v h h2) (R : RT_ a (p : Int) w y r r2) (N1 : TK1 h2 r2 (h 2 3).toNat) (hk : ¬ k = 13 ∧ ¬ k = 2 ∧ ¬ k = 11) : JT A n q h2 r2 := by
  obtain ⟨Tc, Tr, NT, KT, TK, ⟨c0, pn⟩, C⟩ := J
  have f9 : h2 2 9 = h 2 9 := A2.2.2.2 2 9 (by omega)
  have f7 : ∀ k, h2 7 k = h 7 k := fun k => A2.2.2.2 7 k (by omega)
  refine ⟨tc_k Tc (fun i => A2.2.2.2 1 i (by omega)), tr_k Tr R, ntb_k NT A2.2.2.2, kt_k KT A2.2.2.2, tks_a NT nx_r rfl (fun _ _ _ => rfl) c0.1 TK A2 R N1, ⟨by have := A2.1; omega, hq.2⟩, ?_⟩
  refine ⟨⟨by rw [f9, f7]; have := C.1; omega, pos_s C.1.2 c0.1 rfl (fun _ => rfl) (fun _ => rfl) A2 (by omega) (fun z => absurd z hk.2.1) (by omega) (fun z => absurd z hk.1) (fun z => absurd z hk.2.2)⟩, .inl ?_⟩
  rw [f9]
  have := C.2
  omega
theorem l2i_e {x : Int} (hx : 0 ≤ x ∧ x ≤ 2147483647) : oq_l2i x = x := by
  have H : Ok_ (xl (oq_l2i x) (fun v => some v)) (fun v => v = x) := ok_l2i (fun v _ _ h3 => ok_ret (by omega))
  obtain ⟨v, e, q⟩ := H
  have e : some (oq_l2i x) = some v := e
  cases e
  exact q
theorem ts_num (J : JT A n p h r) (hp : p < n) (hl : dg_T (A p)) : Pc (qf_X9_scanNumber nn (n : Int) (p : Int) h) (TSP nn A n p h r qk) := by
  have J0 := J
  obtain ⟨Tc, Tr, NT, KT, TK, ⟨c0, pn⟩, C⟩ := J
  have n3 := Tc.1
  have tk0 := TK.1
  have hr8 : 0 ≤ r 160 8 ∧ r 160 8 ≤ 3001 := by omega
  obtain ⟨⟨q1, q2⟩, q3, q4⟩ := de_q (A := A) (n := n) n p (by omega) pn
  have qp : p < de_T A n n p := by
    by_cases z : de_T A n n p = p
    · exfalso; rw [z] at q3; omega
    · omega
  have tp := Tc.2 p hp
  unfold qf_X9_scanNumber
  refine nc_6 Tc (a := p) nn 0 n (by omega) (Int.le_refl _) ?_
  rw [Nat.add_zero]
  intro v0
  generalize hv : nv_T A p (de_T A n n p - p) = V at *
  generalize hq : de_T A n n p = q at *
  -- the reference up to the test
  have RF : ∀ {Q : ms_M → Prop}, (∀ x2 : Int, nr_T V x2 → Pc (xl (oq_cmp x2 2147483647) fun v47 => if 0 < v47 then (qj_X13_tokenize_292 nn qk (p : Int) ((q : Int) - p) x2 r) else (if (q : Int) - p = 1 then (qj_X13_tokenize_263 nn qk (p : Int) ((q : Int) - p) x2 r) else (if A p = 48 then (qj_X13_tokenize_292 nn qk (p : Int) ((q : Int) - p) x2 r) else (qj_X13_tokenize_263 nn qk (p : Int) ((q : Int) - p) x2 r)))) Q) → Pc (qj_X13_tokenize_83 nn qk (p : Int) (A p) r) Q := fun {Q} H => by
    unfold qj_X13_tokenize_83
    refine pc_sv r_letter ?_; intro u86 q86
    refine pc_if (fun _ => ?_) (fun z => absurd (by omega) z)
    refine pc_sv r_digit ?_; intro u87 q87
    refine pc_if (fun z => absurd z (by omega)) (fun _ => ?_)
    refine nr_189 Tr (a := p) nn 0 n 0 0 (by omega) (by omega) rfl (Int.le_refl _) ⟨by omega, fun _ => rfl, fun z => absurd z (by show ¬ (2147483647 : Int) < 0; decide)⟩ (fun x2 c2 hx hc => ?_)
    rw [Nat.add_zero, hq] at hx hc
    rw [hv] at hx
    rw [show c2 = (q : Int) - p by omega]
    exact H x2 hx
  -- BAD
  have RB : ∀ {x2 : Int} {Q : ms_M → Prop}, (∀ r2 w v, RT_ 6 (p : Int) w v r r2 → Pc (qw_X13_tokenize_400 nn nn (r2 160 8) r2) Q) → Pc (qj_X13_tokenize_292 nn qk (p : Int) ((q : Int) - p) x2 r) Q := fun {x2 Q} H => by
    unfold qj_X13_tokenize_292 qj_X13_tokenize_293
    refine pc_if (fun _ => ?_) (fun z => absurd rfl z)
    unfold qj_X13_tokenize_307
    refine pc_xl ?_; intro v30 e30
    refine pc_sv (rt_c hr8) ?_; intro u32 R
    exact r378b R hr8 (H u32 _ _ R)
  have BD : ¬ (¬ (A p = 48 ∧ p + 1 < q) ∧ (q = n ∨ ¬ np_T (A q)) ∧ V ≤ 2147483647) → TSP nn A n p h r qk (0, h) := fun nz => .inr ⟨rfl, rfl, fun Q H => RF (fun x2 hx => by
    obtain ⟨x0, x1, x3⟩ := hx
    refine pc_cmp ?_; intro v47 e47
    refine pc_if (fun _ => RB H) (fun z => ?_)
    have T263 : (¬ q = n ∧ np_T (A q)) → Pc (qj_X13_tokenize_263 nn qk (p : Int) ((q : Int) - p) x2 r) Q := fun w => by
      unfold qj_X13_tokenize_263
      refine pc_add (by omega) ?_; intro v34 e34
      refine pc_sv (r_at Tr (x := q) (by omega)) ?_; intro u36 q36
      refine pc_sv r_letter ?_; intro u37 q37
      refine pc_if (fun _ => RB H) (fun y => ?_)
      refine pc_add (by omega) ?_; intro v38 e38
      refine pc_sv (r_at Tr (x := q) (by omega)) ?_; intro u40 q40
      exact pc_if (fun _ => RB H) (fun y2 => absurd (by omega) y2)
    have V1 : V ≤ 2147483647 := by
      by_cases y : V ≤ 2147483647
      · exact y
      · have := x3 (by omega); omega
    refine pc_if (fun y => T263 (by omega)) (fun y => pc_if (fun y2 => RB H) (fun y2 => T263 (by omega))))⟩
  have GD : (¬ (A p = 48 ∧ p + 1 < q) ∧ (q = n ∨ ¬ np_T (A q)) ∧ V ≤ 2147483647) → Pc (xl (oq_l2i (nc_T V)) fun v2 => mx_sv (qf_X9_addToken nn 3 (p : Int) v2 h) fun u4 => xl (oq_sub (q : Int) (p : Int)) fun v5 => some (v5, u4)) (TSP nn A n p h r qk) := fun gd => by
    refine pc_xl ?_; intro v2 e2
    have ec : nc_T V = V := by unfold nc_T; rw [if_neg (by omega)]
    rw [ec, l2i_e ⟨v0, gd.2.2⟩] at e2
    refine pc_se ?_; intro u4 e4
    have A2 := at_c (h := h) (by omega) _ e4
    refine pc_sub (by omega) ?_; intro v5 e5
    refine pc_ret (.inl ⟨q, ⟨qp, q2⟩, e5, tc_k Tc (fun i => A2.2.2.2 1 i (by omega)), fun Q H => RF (fun x2 hx => ?_)⟩)
    obtain ⟨x0, x1, x3⟩ := hx
    have ex := x1 gd.2.2
    refine pc_cmp ?_; intro v47 e47
    refine pc_if (fun z => absurd z (by omega)) (fun _ => ?_)
    have T263 : Pc (qj_X13_tokenize_263 nn qk (p : Int) ((q : Int) - p) x2 r) Q := by
      unfold qj_X13_tokenize_263
      refine pc_add (by omega) ?_; intro v34 e34
      refine pc_sv (r_at Tr (x := q) (by omega)) ?_; intro u36 q36
      refine pc_sv r_letter ?_; intro u37 q37
      refine pc_if (fun y => absurd y (by omega)) (fun _ => ?_)
      refine pc_add (by omega) ?_; intro v38 e38
      refine pc_sv (r_at Tr (x := q) (by omega)) ?_; intro u40 q40
      refine pc_if (fun y => absurd y (by omega)) (fun _ => ?_)
      unfold qj_X13_tokenize_293
      refine pc_if (fun y => absurd y (by decide)) (fun _ => ?_)
      unfold qj_X13_tokenize_307
      refine pc_xl ?_; intro v30 e30
      rw [l2i_e (by omega)] at e30
      refine pc_sv (rt_c hr8) ?_; intro u32 R
      refine r378 R hr8 (by omega) (by decide) ?_
      rw [show (p : Int) + ((q : Int) - p) = (q : Int) by omega]
      refine H u32 (jt_s J0 ⟨qp, q2⟩ A2 R ?_ (by decide))
      have eR : (r 160 8).toNat = (h 2 3).toNat := by rw [TK.1]
      obtain ⟨w1, w2, w3⟩ := A2.2.1
      obtain ⟨y1, y2, y3, y4⟩ := R.2.1
      rw [eR] at y1 y2 y3 y4
      unfold TK1
      dsimp only
      rw [w1, w2, w3, y1, y2, y3, y4]
      refine ⟨by decide, rfl, by omega, fun z => by omega, fun z1 z2 => by omega, fun z => by omega, fun z => absurd z (by decide)⟩
    refine pc_if (fun y => T263) (fun y => pc_if (fun y2 => absurd y2 (by omega)) (fun y2 => T263))
  -- the class
  have C96 : ∀ {l7 s0 : Int}, ((l7 = 0 ∧ ¬ (A p = 48 ∧ p + 1 < q)) ∨ (l7 = 1 ∧ A p = 48 ∧ p + 1 < q)) → ((s0 = 0 ∧ (q = n ∨ ¬ np_T (A q))) ∨ (s0 = 1 ∧ ¬ q = n ∧ np_T (A q))) → Pc (qj_X9_scanNumber_96 nn (p : Int) (nc_T V) (q : Int) l7 s0 h) (TSP nn A n p h r qk) := fun {l7 s0} a b => by
    unfold qj_X9_scanNumber_96
    refine pc_if (fun z => pc_ret (BD (fun y => by omega))) (fun z => ?_)
    refine pc_if (fun z2 => pc_ret (BD (fun y => by omega))) (fun z2 => ?_)
    refine pc_cmp ?_; intro v1 e1
    have ev : (V ≤ 2147483647 ∧ nc_T V = V) ∨ (2147483647 < V ∧ nc_T V = 2147483648) := by
      unfold nc_T
      by_cases y : 2147483647 < V
      · rw [if_pos y]; omega
      · rw [if_neg y]; omega
    refine pc_if (fun z3 => GD (by omega)) (fun z3 => pc_ret (BD (fun y => by omega)))
  have C73 : ∀ {s0 : Int}, ((s0 = 0 ∧ ¬ (A p = 48 ∧ p + 1 < q)) ∨ (s0 = 1 ∧ A p = 48 ∧ p + 1 < q)) → Pc (qj_X9_scanNumber_73 nn (n : Int) (p : Int) (nc_T V) (q : Int) s0 h) (TSP nn A n p h r qk) := fun {s0} a => by
    unfold qj_X9_scanNumber_73 qj_X9_scanNumber_95
    refine pc_if (fun z => C96 a (.inl ⟨rfl, by omega⟩)) (fun z => ?_)
    have tq := Tc.2 q (by omega)
    refine pc_rA ?_; intro i1 i2 v9 e9
    rw [Int.toNat_natCast] at e9
    refine pc_sv ct_part ?_; intro u10 q10
    refine pc_if (fun z2 => C96 a (.inl ⟨rfl, by omega⟩)) (fun z2 => C96 a (.inr ⟨rfl, by omega, by omega⟩))
  unfold qj_X9_scanNumber_52 qj_X9_scanNumber_72
  refine pc_rA ?_; intro i1 i2 v13 e13
  rw [Int.toNat_natCast] at e13
  refine pc_if (fun z => C73 (.inl ⟨rfl, by omega⟩)) (fun z => ?_)
  refine pc_add (by omega) ?_; intro v14 e14
  exact pc_if (fun z2 => C73 (.inl ⟨rfl, by omega⟩)) (fun z2 => C73 (.inr ⟨rfl, by omega, by omega⟩))
/-- the reference's value of a sign -/
theorem rv_330 (Tr : TXr r A n) {w a d e : Int} {Q : ms_M → Prop} (hp : p < n) (ha : a = A p) (hd : (p + 1 < n ∧ d = A (p + 1)) ∨ (¬ p + 1 < n ∧ d = 0)) (he : (p + 2 < n ∧ e = A (p + 2)) ∨ (¬ p + 2 < n ∧ e = 0)) (hw : w = 0 ∨ w = 1 ∨ w = 2 ∨ w = 3) (H0 : w = 0 → ∀ v, Pc (qj_X13_tokenize_371 nn qk (p : Int) 0 v 6 r) Q) (H1 : w = 1 → Pc (qj_X13_tokenize_371 nn qk (p : Int) 1 a 4 r) Q) (H2 : w = 2 → p + 1 < n → Pc (qj_X13_tokenize_371 nn qk (p : Int) 2 (128 * a + d) 4 r) Q) (H3 : w = 3 → p + 2 < n → Pc (qj_X13_tokenize_371 nn qk (p : Int) 3 (128 * (128 * a + d) + e) 4 r) Q) (kk : Nat) (hh : ∀ i : Nat, i < 3 → (i : Int) < w → p + i < n) : Pc (qw_X13_tokenize_330 nn qk kk (p : Int) w 0 0 r) Q := by
  have n3 := Tr.1
  have t0 := Tr.2.2 p hp
  have L0 : oq_mul 128 0 = 0 := by decide
  cases kk with
  | zero => exact pc_none
  | succ kk =>
    unfold qw_X13_tokenize_330
    refine pc_if (fun z => pc_if (fun z2 => ?_) (fun z2 => absurd z2 (by omega))) (fun z => ?_)
    · rw [show w = 0 by omega]; exact H0 (by omega) _
    refine pc_xl ?_; intro v23 e23
    rw [L0] at e23
    refine pc_add (by omega) ?_; intro v25 e25
    refine pc_rA ?_; intro i1 i2 v26 e26
    rw [show v25.toNat = p by omega, t0.2] at e26
    refine pc_add (by omega) ?_; intro v27 e27
    refine pc_add (by omega) ?_; intro v28 e28
    rw [show v27 = a by omega, e28]
    cases kk with
    | zero => exact pc_none
    | succ kk =>
      unfold qw_X13_tokenize_330
      refine pc_if (fun z => pc_if (fun z2 => absurd z2 (by omega)) (fun z2 => ?_)) (fun z => ?_)
      · rw [show w = 1 by omega]; exact H1 (by omega)
      have p1 := hh 1 (by omega) (by omega)
      have t1 := Tr.2.2 (p + 1) p1
      refine pc_xl ?_; intro v23 e23
      rw [oq_mul_eq (by omega) (by omega) (by omega)] at e23
      refine pc_add (by omega) ?_; intro v25 e25
      refine pc_rA ?_; intro i1 i2 v26 e26
      rw [show v25.toNat = p + 1 by omega, t1.2] at e26
      refine pc_add (by omega) ?_; intro v27 e27
      refine pc_add (by omega) ?_; intro v28 e28
      rw [show v27 = 128 * a + d by omega, e28]
      cases kk with
      | zero => exact pc_none
      | succ kk =>
        unfold qw_X13_tokenize_330
        refine pc_if (fun z => pc_if (fun z2 => absurd z2 (by omega)) (fun z2 => ?_)) (fun z => ?_)
        · rw [show w = 2 by omega]; exact H2 (by omega) p1
        have p2 := hh 2 (by omega) (by omega)
        have t2 := Tr.2.2 (p + 2) p2
        refine pc_xl ?_; intro v23 e23
        rw [oq_mul_eq (by omega) (by omega) (by omega)] at e23
        refine pc_add (by omega) ?_; intro v25 e25
        refine pc_rA ?_; intro i1 i2 v26 e26
        rw [show v25.toNat = p + 2 by omega, t2.2] at e26
        refine pc_add (by omega) ?_; intro v27 e27
        refine pc_add (by omega) ?_; intro v28 e28
        rw [show v27 = 128 * (128 * a + d) + e by omega, e28]
        cases kk with
        | zero => exact pc_none
        | succ kk =>
          unfold qw_X13_tokenize_330
          refine pc_if (fun z => pc_if (fun z2 => absurd z2 (by omega)) (fun z2 => ?_)) (fun z => absurd (by omega) z)
          rw [show w = 3 by omega]; exact H3 (by omega) p2
theorem ts_sign (J : JT A n p h r) (hp : p < n) (nl : ¬ lt_T (A p)) (nd : ¬ dg_T (A p)) {v d' : Int} {d e : Int} (hv : v = h 1 p) (hd' : (p + 1 < n ∧ d' = h 1 (p + 1)) ∨ (¬ p + 1 < n ∧ d' = 0)) (hd : (p + 1 < n ∧ d = A (p + 1)) ∨ (¬ p + 1 < n ∧ d = 0)) (he : (p + 2 < n ∧ e = A (p + 2)) ∨ (¬ p + 2 < n ∧ e = 0)) : Pc (qj_X9_scanToken_53 nn (n : Int) (p : Int) v d' h) (TSP nn A n p h r qk) := by
  have J0 := J
  obtain ⟨Tc, Tr, NT, KT, TK, ⟨c0, pn⟩, C⟩ := J
  have n3 := Tc.1
  have tk0 := TK.1
  have hr8 : 0 ≤ r 160 8 ∧ r 160 8 ≤ 3001 := by omega
  have tp := Tc.2 p hp
  have hva : (0 ≤ v ∧ v = A p) ∨ (v < 0 ∧ 128 ≤ A p) := by omega
  have hda : (0 ≤ d' ∧ d' = d) ∨ (d' < 0 ∧ 128 ≤ d) := by
    rcases hd' with ⟨a, b⟩ | ⟨a, b⟩
    · have := Tc.2 (p + 1) a; omega
    · omega
  obtain ⟨y, -, -, S3, S4, S5⟩ := sw_all (A p) d e
  -- the reference
  have RF : ∀ {Q : ms_M → Prop}, (sl_T (sg_T (A p) d e) = 0 → ∀ v, Pc (qj_X13_tokenize_371 nn qk (p : Int) 0 v 6 r) Q) → (∀ w, w = sl_T (sg_T (A p) d e) → 1 ≤ w → w ≤ 3 → (p : Int) + w ≤ n → Pc (qj_X13_tokenize_371 nn qk (p : Int) w y 4 r) Q) → Pc (qj_X13_tokenize_83 nn qk (p : Int) (A p) r) Q := fun {Q} H0 H => by
    unfold qj_X13_tokenize_83
    refine pc_sv r_letter ?_; intro u86 q86
    refine pc_if (fun _ => ?_) (fun z => absurd (by omega) z)
    refine pc_sv r_digit ?_; intro u87 q87
    refine pc_if (fun _ => ?_) (fun z => absurd (by omega) z)
    refine pc_sv (sa_r Tr hp rfl hd he) ?_; intro u89 q89
    have W2 : u89 = 2 ∨ u89 = 3 → p + 1 < n := fun z => by
      by_cases w : p + 1 < n
      · exact w
      · exfalso; exact sg_w2 (a := A p) (d := d) (e := e) (by omega) (by omega)
    have W3 : u89 = 3 → p + 2 < n := fun z => by
      by_cases w : p + 2 < n
      · exact w
      · exfalso; exact sg_w3 (a := A p) (d := d) (e := e) (by omega) (by omega)
    refine rv_330 Tr hp rfl hd he (by omega) (fun z => H0 (by omega)) (fun z => ?_) (fun z z1 => ?_) (fun z z1 => ?_) nn (fun i a b => ?_)
    · have := H 1 (by omega) (by omega) (by omega) (by omega)
      rw [show y = A p by omega] at this; exact this
    · have := H 2 (by omega) (by omega) (by omega) (by omega)
      rw [show y = 128 * A p + d by omega] at this; exact this
    · have := H 3 (by omega) (by omega) (by omega) (by omega)
      rw [show y = 128 * (128 * A p + d) + e by omega] at this; exact this
    · by_cases i2 : i = 2
      · have := W3 (by omega); omega
      · by_cases i1 : i = 1
        · have := W2 (by omega); omega
        · omega
  -- the class, with its sign
  have C110 : ∀ {k : Int}, k = sg_T (A p) d e → Pc (qj_X9_scanToken_110 nn (p : Int) k h) (TSP nn A n p h r qk) := fun {k} ek => by
    unfold qj_X9_scanToken_110
    rw [ek]
    refine pc_if (fun z => ?_) (fun z => ?_)
    · refine pc_sv sl_c ?_; intro u1 q1
      have e0 := S4.1 z
      rw [e0] at q1
      rw [q1]
      refine pc_ret (.inr ⟨rfl, rfl, fun Q H => RF (fun _ v => ?_) (fun w a b => by omega)⟩)
      unfold qj_X13_tokenize_371
      refine pc_sv (rt_c hr8) ?_; intro u21 R
      exact r378b R hr8 (H u21 _ _ R)
    · refine pc_se ?_; intro u3 e3
      have A2 := at_c (h := h) (by omega) _ e3
      refine pc_sv sl_c ?_; intro u4 q4
      have S5 := S5 z
      have w1 : 1 ≤ sl_T (sg_T (A p) d e) ∧ sl_T (sg_T (A p) d e) ≤ 3 := by
        have : ¬ sl_T (sg_T (A p) d e) = 0 := fun w => z (S4.2 w)
        omega
      have w2 : (p : Int) + sl_T (sg_T (A p) d e) ≤ n := by
        by_cases a1 : sl_T (sg_T (A p) d e) = 1
        · omega
        · by_cases b2 : p + 1 < n
          · by_cases a3 : sl_T (sg_T (A p) d e) = 2
            · omega
            · by_cases b3 : p + 2 < n
              · omega
              · exfalso; exact sg_w3 (a := A p) (d := d) (e := e) (by omega) (by omega)
          · exfalso; exact sg_w2 (a := A p) (d := d) (e := e) (by omega) (by omega)
      refine pc_ret (.inl ⟨p + (sl_T (sg_T (A p) d e)).toNat, by omega, ?_, tc_k Tc (fun i => A2.2.2.2 1 i (by omega)), fun Q H => RF (fun w => absurd w (by omega)) (fun w ew w3 w4 w5 => ?_)⟩)
      · show u4 = _; omega
      unfold qj_X13_tokenize_371
      refine pc_sv (rt_c hr8) ?_; intro u21 R
      refine r378 R hr8 (by omega) (by decide) ?_
      rw [show (p : Int) + w = ((p + (sl_T (sg_T (A p) d e)).toNat : Nat) : Int) by omega]
      refine H u21 (jt_s J0 (by omega) A2 R ?_ (by omega))
      have eR : (r 160 8).toNat = (h 2 3).toNat := by rw [TK.1]
      obtain ⟨x1, x2, x3⟩ := A2.2.1
      obtain ⟨y1, y2, y3, y4⟩ := R.2.1
      rw [eR] at y1 y2 y3 y4
      unfold TK1
      dsimp only
      rw [x1, x2, x3, y1, y2, y3, y4]
      refine ⟨?_, rfl, by omega, fun z => by omega, fun z1 z2 => by omega, fun _ => S5.1, fun z => by omega⟩
      unfold kd_T
      rw [if_neg (by omega), if_neg (by omega), if_neg (by omega), if_neg (by omega), if_neg (by omega)]
  have C103 : ¬ (A p = 62 ∧ d = 62 ∧ e = 62) → Pc (qj_X9_scanToken_103 nn (p : Int) v d' h) (TSP nn A n p h r qk) := fun ne => by
    unfold qj_X9_scanToken_103
    refine pc_sv (so_c hva hda) ?_; intro u6 q6
    refine C110 ?_
    rw [q6]; unfold sg_T; rw [if_neg ne]
  have C83 : ¬ (A p = 62 ∧ d = 62 ∧ e = 62) → Pc (qj_X9_scanToken_83 nn (p : Int) v d' h) (TSP nn A n p h r qk) := fun ne => by
    unfold qj_X9_scanToken_83 qj_X9_scanToken_84
    exact pc_if (fun _ => C103 ne) (fun _ => pc_if (fun _ => C103 ne) (fun z => absurd rfl z))
  unfold qj_X9_scanToken_53
  refine pc_if (fun z => C83 (by omega)) (fun z => ?_)
  refine pc_add (by omega) ?_; intro v9 e9
  refine pc_if (fun z2 => C83 (by omega)) (fun z2 => ?_)
  refine pc_add (by omega) ?_; intro v10 e10
  refine pc_rA ?_; intro i1 i2 v11 e11
  rw [show v10.toNat = p + 2 by omega] at e11
  have t2 := Tc.2 (p + 2) (by omega)
  refine pc_if (fun z3 => C83 (by omega)) (fun z3 => ?_)
  unfold qj_X9_scanToken_84
  refine pc_if (fun z4 => C103 (by omega)) (fun z4 => ?_)
  refine pc_if (fun z5 => absurd z5 (by decide)) (fun _ => ?_)
  refine C110 ?_
  unfold sg_T
  rw [if_pos (by omega)]
theorem ts_all (J : JT A n p h r) (hp : p < n) : Pc (qf_X9_scanToken nn (n : Int) (p : Int) h) (TSP nn A n p h r qk) := by
  have Tc := J.1
  have n3 := Tc.1
  have tp := Tc.2 p hp
  unfold qf_X9_scanToken
  refine pc_rA ?_; intro i1 i2 v15 e15
  rw [Int.toNat_natCast] at e15
  refine pc_sv c_letter ?_; intro u16 q16
  refine pc_if (fun z => ?_) (fun z => ?_)
  · refine pc_sv c_digit ?_; intro u17 q17
    refine pc_if (fun z2 => ?_) (fun z2 => ?_)
    · have D : ∃ d : Int, (p + 1 < n ∧ d = A (p + 1)) ∨ (¬ p + 1 < n ∧ d = 0) := by
        by_cases w : p + 1 < n
        · exact ⟨_, .inl ⟨w, rfl⟩⟩
        · exact ⟨_, .inr ⟨w, rfl⟩⟩
      have E : ∃ d : Int, (p + 2 < n ∧ d = A (p + 2)) ∨ (¬ p + 2 < n ∧ d = 0) := by
        by_cases w : p + 2 < n
        · exact ⟨_, .inl ⟨w, rfl⟩⟩
        · exact ⟨_, .inr ⟨w, rfl⟩⟩
      obtain ⟨d, hd⟩ := D
      obtain ⟨e, he⟩ := E
      refine pc_add (by omega) ?_; intro v18 e18
      refine pc_if (fun z3 => ?_) (fun z3 => ?_)
      · exact ts_sign J hp (by omega) (by omega) e15 (.inr ⟨by omega, rfl⟩) hd he
      · refine pc_add (by omega) ?_; intro v19 e19
        refine pc_rA ?_; intro j1 j2 v20 e20
        rw [show v19.toNat = p + 1 by omega] at e20
        exact ts_sign J hp (by omega) (by omega) e15 (.inl ⟨by omega, e20⟩) hd he
    · refine pc_sv (ts_num (qk := qk) J hp (by omega)) ?_; intro u23 q23
      exact pc_ret q23
  · refine pc_sv (ts_word (qk := qk) J hp (by omega)) ?_; intro u26 q26
    exact pc_ret q26
end
