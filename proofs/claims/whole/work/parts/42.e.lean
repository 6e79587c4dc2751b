section
/- TOKENS: class and reference, token by token -/
def kd_T (c : Int) : Int := if c = 0 then 5 else if c = 1 then 6 else if c = 2 then 1 else if c = 3 then 2 else if c < 40 then 3 else 4
/-- token i of both sides -/
def TK1 (h r : ms_M) (i : Nat) : Prop := r 163 i = kd_T (h 3 i) ∧ r 164 i = h 4 i ∧ (h 3 i = 0 ∨ h 3 i = 1 ∨ h 3 i = 2 ∨ h 3 i = 3 ∨ (10 ≤ h 3 i ∧ h 3 i ≤ 31) ∨ (40 ≤ h 3 i ∧ h 3 i ≤ 72)) ∧ (h 3 i = 3 → r 166 i = h 5 i ∧ 0 ≤ h 5 i) ∧ (10 ≤ h 3 i → h 3 i ≤ 31 → r 166 i = h 3 i - 10) ∧ (40 ≤ h 3 i → r 166 i = sv_T (h 3 i)) ∧ (h 3 i = 2 → ∃ j : Nat, h 5 i = (j : Int) ∧ (j : Int) < h 2 9 ∧ NMt h j (r 165 i) (fun k => r 162 ((r 164 i).toNat + k)) ∧ (1 ≤ r 165 i ∧ r 165 i ≤ 12) ∧ (0 ≤ r 164 i ∧ r 164 i + r 165 i ≤ 3000) ∧ ∀ k : Nat, (k : Int) < r 165 i → ¬ r 162 ((r 164 i).toNat + k) = 32)
def TKs (h r : ms_M) : Prop := h 2 3 = r 160 8 ∧ ∀ i : Nat, (i : Int) < h 2 3 → TK1 h r i
/-- one token more: class, reference -/
def AT_ (k p v : Int) (h u : ms_M) : Prop := u 2 3 = h 2 3 + 1 ∧ (u 3 (h 2 3).toNat = k ∧ u 4 (h 2 3).toNat = p ∧ u 5 (h 2 3).toNat = v) ∧ (∀ c i : Nat, (c = 3 ∨ c = 4 ∨ c = 5) → ¬ i = (h 2 3).toNat → u c i = h c i) ∧ ∀ c i : Nat, ¬ (c = 3 ∨ c = 4 ∨ c = 5 ∨ (c = 2 ∧ i = 3)) → u c i = h c i
def RT_ (k b w v : Int) (r u : ms_M) : Prop := u 160 8 = r 160 8 + 1 ∧ (u 163 (r 160 8).toNat = k ∧ u 164 (r 160 8).toNat = b ∧ u 165 (r 160 8).toNat = w ∧ u 166 (r 160 8).toNat = v) ∧ (∀ c i : Nat, (163 ≤ c ∧ c ≤ 166) → ¬ i = (r 160 8).toNat → u c i = r c i) ∧ ∀ c i : Nat, ¬ ((163 ≤ c ∧ c ≤ 166) ∨ (c = 160 ∧ i = 8)) → u c i = r c i
/-- the tokens' places rise; behind the word class no part of a name follows at once -/
def POS (A : Nat → Int) (n p : Nat) (h : ms_M) : Prop := (∀ i : Nat, (i : Int) + 1 < h 2 3 → 0 ≤ h 4 i ∧ h 4 i + 1 ≤ h 4 (i + 1) ∧ (h 3 i = 13 → h 3 (i + 1) = 2 → h 4 i + 6 ≤ h 4 (i + 1)) ∧ (h 3 i = 11 → h 4 i + 5 ≤ h 4 (i + 1))) ∧ ∀ i : Nat, (i : Int) + 1 = h 2 3 → 0 ≤ h 4 i ∧ h 4 i + 1 ≤ (p : Int) ∧ (h 3 i = 13 → h 4 i + 6 ≤ (p : Int) ∨ (h 4 i + 5 ≤ (p : Int) ∧ (p = n ∨ ¬ np_T (A p)))) ∧ (h 3 i = 11 → h 4 i + 5 ≤ (p : Int))
/-- room for names -/
def CAP (A : Nat → Int) (n p : Nat) (h : ms_M) : Prop := (h 7 (h 2 9).toNat ≤ 186 + (p : Int) ∧ POS A n p h) ∧ (2 * (h 2 9 - 32) ≤ (p : Int) ∨ (2 * (h 2 9 - 32) ≤ (p : Int) + 1 ∧ (p = n ∨ ¬ np_T (A p))))
/-- both have read the text up to p -/
def JT (A : Nat → Int) (n p : Nat) (h r : ms_M) : Prop := TXc h A n ∧ TXr r A n ∧ NTB h ∧ KT_ h ∧ TKs h r ∧ ((0 ≤ h 2 3 ∧ h 2 3 ≤ (p : Int)) ∧ p ≤ n) ∧ CAP A n p h
/-- what the class's token at p tells of the reference's: a token and on, or BAD -/
def TSP (nn : Nat) (A : Nat → Int) (n p : Nat) (h r : ms_M) (qk : Int → ms_M → Option ms_M) (u : Int × ms_M) : Prop := (∃ q : Nat, (p < q ∧ q ≤ n) ∧ u.1 = (q : Int) - p ∧ TXc u.2 A n ∧ ∀ Q : ms_M → Prop, (∀ r2, JT A n q u.2 r2 → Pc (qk (q : Int) r2) Q) → Pc (qj_X13_tokenize_83 nn qk (p : Int) (A p) r) Q) ∨ (u.1 = 0 ∧ u.2 = h ∧ ∀ Q : ms_M → Prop, (∀ r2 w v, RT_ 6 (p : Int) w v r r2 → Pc (qw_X13_tokenize_400 nn nn (r2 160 8) r2) Q) → Pc (qj_X13_tokenize_83 nn qk (p : Int) (A p) r) Q)
section
variable {nn : Nat} {h g r h2 r2 : ms_M} {A : Nat → Int} {n p : Nat} {qk : Int → ms_M → Option ms_M}
theorem pos_s {h g h2 : ms_M} {A : Nat → Int} {n p : Nat} {k b v : Int} (H : POS A n p h) (h0 : 0 ≤ h 2 3) (e2 : g 2 3 = h 2 3) (e3 : ∀ i, g 3 i = h 3 i) (e4 : ∀ i, g 4 i = h 4 i) (A2 : AT_ k b v g h2) (hb : (p : Int) ≤ b) (hk : k = 2 → p < n ∧ np_T (A p)) {q : Nat} (hq : b < (q : Int)) (hk2 : k = 13 → b + 5 ≤ (q : Int) ∧ (q = n ∨ ¬ np_T (A q))) (hk3 : k = 11 → b + 5 ≤ (q : Int)) : POS A n q h2 := by
  obtain ⟨a1, ⟨a2, a3, -⟩, a4, -⟩ := A2
  rw [e2] at a1 a2 a3 a4
  have S : ∀ i : Nat, (i : Int) < h 2 3 → h2 3 i = h 3 i ∧ h2 4 i = h 4 i := fun i hi => ⟨by rw [a4 3 i (by omega) (by omega), e3], by rw [a4 4 i (by omega) (by omega), e4]⟩
  refine ⟨fun i hi => ?_, fun i hi => ?_⟩
  · by_cases z : (i : Int) + 1 < h 2 3
    · rw [(S i (by omega)).1, (S i (by omega)).2, (S (i + 1) (by omega)).1, (S (i + 1) (by omega)).2]
      exact H.1 i z
    · have L := H.2 i (by omega)
      rw [(S i (by omega)).1, (S i (by omega)).2, show i + 1 = (h 2 3).toNat by omega, a2, a3]
      refine ⟨L.1, by omega, fun k13 k2 => ?_, fun k11 => by have := L.2.2.2 k11; omega⟩
      have L3 := hk k2
      rcases L.2.2.1 k13 with L2 | ⟨L2, L4⟩
      · omega
      · rcases L4 with L4 | L4
        · omega
        · exact absurd L3.2 L4
  · rw [show i = (h 2 3).toNat by omega, a2, a3]
    exact ⟨by omega, by omega, fun k13 => .inr (hk2 k13), hk3⟩
theorem at_c {k p v : Int} (hc : 0 ≤ h 2 3 ∧ h 2 3 ≤ 3000) : Pc (qf_X9_addToken nn k p v h) (AT_ k p v h) := by
  unfold qf_X9_addToken
  refine pc_if (fun c => absurd c (by omega)) (fun _ => ?_)
  refine pc_wA ?_; intro i1 i2 h6 e6
  have c6 : h6 2 3 = h 2 3 := by rw [e6]; exact up_n (by omega)
  rw [c6]
  refine pc_wA ?_; intro j1 j2 h9 e9
  have c9 : h9 2 3 = h 2 3 := by rw [e9, up_n (by omega)]; exact c6
  rw [c9]
  refine pc_wA ?_; intro k1 k2 h12 e12
  have c12 : h12 2 3 = h 2 3 := by rw [e12, up_n (by omega)]; exact c9
  rw [c12]
  refine pc_add (by omega) ?_; intro v14 e14
  refine pc_xl ?_; intro h15 e15
  refine pc_ret ⟨by rw [e15, up_s]; exact e14, ⟨?_, ?_, ?_⟩, fun c i hc hi => ?_, fun c i hc => ?_⟩
  · rw [e15, up_n (by omega), e12, up_n (by omega), e9, up_n (by omega), e6, up_s]
  · rw [e15, up_n (by omega), e12, up_n (by omega), e9, up_s]
  · rw [e15, up_n (by omega), e12, up_s]
  · rw [e15, up_n (by omega), e12, up_n (by omega), e9, up_n (by omega), e6, up_n (by omega)]
  · rw [e15, up_n (by omega), e12, up_n (by omega), e9, up_n (by omega), e6, up_n (by omega)]
theorem rt_c {k b w v : Int} (hr : 0 ≤ r 160 8 ∧ r 160 8 ≤ 3001) : Pc (qf_X13_token nn k b w v r) (RT_ k b w v r) := by
  unfold qf_X13_token
  refine pc_wA ?_; intro i1 i2 h3 e3
  have c3 : h3 160 8 = r 160 8 := by rw [e3]; exact up_n (by omega)
  rw [c3]
  refine pc_wA ?_; intro j1 j2 h6 e6
  have c6 : h6 160 8 = r 160 8 := by rw [e6, up_n (by omega)]; exact c3
  rw [c6]
  refine pc_wA ?_; intro k1 k2 h9 e9
  have c9 : h9 160 8 = r 160 8 := by rw [e9, up_n (by omega)]; exact c6
  rw [c9]
  refine pc_wA ?_; intro l1 l2 h12 e12
  have c12 : h12 160 8 = r 160 8 := by rw [e12, up_n (by omega)]; exact c9
  rw [c12]
  refine pc_add (by omega) ?_; intro v14 e14
  refine pc_xl ?_; intro h15 e15
  refine pc_ret ⟨by rw [e15, up_s]; exact e14, ⟨?_, ?_, ?_, ?_⟩, fun c i hc hi => ?_, fun c i hc => ?_⟩
  · rw [e15, up_n (by omega), e12, up_n (by omega), e9, up_n (by omega), e6, up_n (by omega), e3, up_s]
  · rw [e15, up_n (by omega), e12, up_n (by omega), e9, up_n (by omega), e6, up_s]
  · rw [e15, up_n (by omega), e12, up_n (by omega), e9, up_s]
  · rw [e15, up_n (by omega), e12, up_s]
  · rw [e15, up_n (by omega), e12, up_n (by omega), e9, up_n (by omega), e6, up_n (by omega), e3, up_n (by omega)]
  · rw [e15, up_n (by omega), e12, up_n (by omega), e9, up_n (by omega), e6, up_n (by omega), e3, up_n (by omega)]
theorem kt_x (T : NTB h) (K : KT_ h) (X : NXt h g) : KT_ g := by
  have t0 := T.1.1
  have a := ntb_7 T 32 (h 2 9).toNat (by omega) (by omega)
  rw [K.1 32 (by omega), show ka_T 32 = 186 by decide] at a
  exact ⟨fun i hi => by rw [X.2.1 i (by omega)]; exact K.1 i hi, fun k hk => by rw [X.2.2.1 k (by omega)]; exact K.2 k hk⟩
/-- an earlier token stays -/
theorem tk1_k (T : NTB h) (X : NXt h h2) {i : Nat} (e3 : h2 3 i = h 3 i) (e4 : h2 4 i = h 4 i) (e5 : h2 5 i = h 5 i) (f3 : r2 163 i = r 163 i) (f4 : r2 164 i = r 164 i) (f5 : r2 165 i = r 165 i) (f6 : r2 166 i = r 166 i) (f2 : ∀ k, r2 162 k = r 162 k) (K : TK1 h r i) : TK1 h2 r2 i := by
  obtain ⟨k1, k2, k3, k4, k5, k6, k7⟩ := K
  unfold TK1
  rw [e3, e4, e5, f3, f4, f5, f6]
  refine ⟨k1, k2, k3, k4, k5, k6, fun z => ?_⟩
  obtain ⟨j, j1, j2, j3, j4, j5, j6⟩ := k7 z
  have F : (fun k => r2 162 ((r 164 i).toNat + k)) = (fun k => r 162 ((r 164 i).toNat + k)) := funext (fun k => f2 _)
  refine ⟨j, j1, by have := X.1; omega, by rw [F]; exact nmt_x T X j2 j3, j4, j5, fun k hk => by rw [f2]; exact j6 k hk⟩
theorem tks_a (T : NTB h) (X : NXt h g) (e23 : g 2 3 = h 2 3) (eg : ∀ c i : Nat, (c = 3 ∨ c = 4 ∨ c = 5) → g c i = h c i) {k p v a b w y : Int} (h0 : 0 ≤ h 2 3) (K : TKs h r) (A1 : AT_ k p v g h2) (R1 : RT_ a b w y r r2) (n1 : TK1 h2 r2 (h 2 3).toNat) : TKs h2 r2 := by
  obtain ⟨k1, k2⟩ := K
  obtain ⟨a1, a2, a3, a4⟩ := A1
  obtain ⟨b1, b2, b3, b4⟩ := R1
  refine ⟨by omega, fun i hi => ?_⟩
  by_cases z : i = (h 2 3).toNat
  · rw [z]; exact n1
  · have X2 : NXt h h2 := by
      obtain ⟨x1, x2, x3, x4⟩ := X
      refine ⟨by rw [a4 2 9 (by omega)]; exact x1, fun i hi => by rw [a4 7 i (by omega)]; exact x2 i hi, fun i hi => by rw [a4 6 i (by omega)]; exact x3 i hi, fun i hi => by rw [a4 8 i (by omega)]; exact x4 i hi⟩
    refine tk1_k T X2 ?_ ?_ ?_ (b3 163 i (by omega) (by omega)) (b3 164 i (by omega) (by omega)) (b3 165 i (by omega) (by omega)) (b3 166 i (by omega) (by omega)) (fun k => b4 162 k (by omega)) (k2 i (by omega))
    · rw [a3 3 i (by omega) (by omega)]; exact eg 3 i (by omega)
    · rw [a3 4 i (by omega) (by omega)]; exact eg 4 i (by omega)
    · rw [a3 5 i (by omega) (by omega)]; exact eg 5 i (by omega)
theorem ntb_k (T : NTB g) (e : ∀ c i : Nat, ¬ (c = 3 ∨ c = 4 ∨ c = 5 ∨ (c = 2 ∧ i = 3)) → h2 c i = g c i) : NTB h2 := by
  have f7 : h2 7 = g 7 := funext (fun i => e 7 i (by omega))
  have f6 : h2 6 = g 6 := funext (fun i => e 6 i (by omega))
  have f8 : h2 8 = g 8 := funext (fun i => e 8 i (by omega))
  have f9 : h2 9 = g 9 := funext (fun i => e 9 i (by omega))
  have f2 : h2 2 9 = g 2 9 := e 2 9 (by omega)
  have fb : bn_T h2 = bn_T g := funext (fun i => by unfold bn_T ln_T; rw [f7, f6])
  have fn : ∀ i l t, NMt h2 i l t → NMt g i l t := fun i l t N => by
    unfold NMt ln_T at *; rw [f7, f6] at N; exact N
  obtain ⟨t1, t2, t3, t4, t5⟩ := T
  refine ⟨by rw [f2, f7]; exact t1, by rw [f2, f7]; exact t2, by rw [f2, f9, fb]; exact t3, by rw [f2, f8, fb]; exact t4, fun i j l t a b c d => t5 i j l t a (by rw [← f2]; exact b) (fn _ _ _ c) (fn _ _ _ d)⟩
theorem kt_k (K : KT_ g) (e : ∀ c i : Nat, ¬ (c = 3 ∨ c = 4 ∨ c = 5 ∨ (c = 2 ∧ i = 3)) → h2 c i = g c i) : KT_ h2 := ⟨fun i hi => by rw [e 7 i (by omega)]; exact K.1 i hi, fun k hk => by rw [e 6 k (by omega)]; exact K.2 k hk⟩
/-- behind the reference's token -/
theorem r378 {l1 l3 : Int} {k b w v : Int} {Q : ms_M → Prop} (R : RT_ k b w v r r2) (hr : 0 ≤ r 160 8 ∧ r 160 8 ≤ 3001) (hl : (0 ≤ l1 ∧ l1 ≤ 3000) ∧ (0 ≤ l3 ∧ l3 ≤ 3000)) (hk : ¬ k = 6) (H : Pc (qk (l1 + l3) r2) Q) : Pc (qj_X13_tokenize_378 nn qk l1 l3 r2) Q := by
  obtain ⟨b1, b2, b3, b4⟩ := R
  unfold qj_X13_tokenize_378
  refine pc_sub (by omega) ?_; intro v15 e15
  refine pc_rA ?_; intro i1 i2 v16 e16
  rw [show v15.toNat = (r 160 8).toNat by omega, b2.1] at e16
  refine pc_if (fun _ => ?_) (fun z => absurd (by omega) z)
  refine pc_add (by omega) ?_; intro v17 e17
  rw [e17]; exact H
theorem r378b {l1 l3 : Int} {b w v : Int} {Q : ms_M → Prop} (R : RT_ 6 b w v r r2) (hr : 0 ≤ r 160 8 ∧ r 160 8 ≤ 3001) (H : Pc (qw_X13_tokenize_400 nn nn (r2 160 8) r2) Q) : Pc (qj_X13_tokenize_378 nn qk l1 l3 r2) Q := by
  obtain ⟨b1, b2, b3, b4⟩ := R
  unfold qj_X13_tokenize_378
  refine pc_sub (by omega) ?_; intro v15 e15
  refine pc_rA ?_; intro i1 i2 v16 e16
  rw [show v15.toNat = (r 160 8).toNat by omega, b2.1] at e16
  exact pc_if (fun z => absurd e16 z) (fun _ => H)
theorem kl_12 : (List.range 32).all (fun i => decide ((kl_T i).length ≤ 12)) = true := by decide
/-- a long word is none of the list -/
theorem am_l {a n0 o m : Nat} {p n : Int} (K : kw_T a n0 o m = true) (ho : o + m ≤ 32) {u : Int} (hn : 12 < n) (hs : ∀ k : Nat, (k : Int) < n → ¬ r 162 (p.toNat + k) = 32) (S : AMS a n0 p n r u) : u = -1 := by
  rcases S with ⟨s1, -⟩ | ⟨k, ⟨s1, s2, s3, s4⟩, s5⟩
  · exact s1
  · exfalso
    obtain ⟨j, j1, j2, j3, j4, j5⟩ := kw_k K (k := k) (by omega) s1
    have l12 := of_decide_eq_true (List.all_eq_true.1 kl_12 (o + j) (List.mem_range.2 (by omega)))
    have y : ((kl_T (o + j)).length : Int) < n := by omega
    refine hs _ y ?_
    rw [← s4 _ y, show (k : Int) + 1 + (kl_T (o + j)).length = (k : Int) + (kl_T (o + j)).length + 1 by omega]; exact j4
theorem tc_k (T : TXc h A n) (e : ∀ i, g 1 i = h 1 i) : TXc g A n := ⟨T.1, fun i hi => by rw [e]; exact T.2 i hi⟩
theorem tr_k {k b w v : Int} (T : TXr r A n) (R : RT_ k b w v r r2) : TXr r2 A n := ⟨T.1, by rw [R.2.2.2 160 3 (by omega)]; exact T.2.1, fun i hi => by rw [R.2.2.2 162 i (by omega)]; exact T.2.2 i hi⟩
theorem ln_h1 : ln_I h 1 = 6000 := rfl
/-- words -/
theorem ts_word (J : JT A n p h r) (hp : p < n) (hl : lt_T (A p)) : Pc (qf_X9_scanWord nn (n : Int) (p : Int) h) (TSP nn A n p h r qk) := by
  obtain ⟨Tc, Tr, NT, KT, TK, ⟨c0, pn⟩, C⟩ := J
  have n3 := Tc.1
  have nt0 := NT.1
  have tk0 := TK.1
  obtain ⟨⟨q1, q2⟩, q3, q4⟩ := we_q (A := A) (n := n) n p (by omega) pn
  have qp : p < we_T A n n p := by
    by_cases z : we_T A n n p = p
    · exfalso; rw [z] at q3; omega
    · omega
  unfold qf_X9_scanWord
  refine wc_3 Tc nn p n (by omega) ?_
  generalize hq : we_T A n n p = q at *
  -- the text of both sides
  have tx : ∀ k : Nat, (k : Int) < (q : Int) - p → h 1 (((p : Int)).toNat + k) = r 162 (((p : Int)).toNat + k) ∧ np_T (r 162 (((p : Int)).toNat + k)) := fun k hk => by
    rw [Int.toNat_natCast]
    have a := Tc.2 (p + k) (by omega)
    have b := Tr.2.2 (p + k) (by omega)
    have c := q4 (p + k) (by omega) (by omega)
    rw [b.2]
    exact ⟨by omega, c⟩
  have sp : ∀ k : Nat, (k : Int) < (q : Int) - p → ¬ r 162 (((p : Int)).toNat + k) = 32 := fun k hk => by
    have := (tx k hk).2; omega
  -- the reference up to among
  have RF : ∀ {Q : ms_M → Prop}, (∀ u79, AMS (1000000000 + 2) 133 (p : Int) ((q : Int) - p) r u79 → Pc (if u79 < 0 then (if 12 < (q : Int) - p then (qj_X13_tokenize_169 nn qk (p : Int) ((q : Int) - p) u79 6 r) else (qj_X13_tokenize_169 nn qk (p : Int) ((q : Int) - p) u79 1 r)) else (qj_X13_tokenize_169 nn qk (p : Int) ((q : Int) - p) u79 3 r)) Q) → Pc (qj_X13_tokenize_83 nn qk (p : Int) (A p) r) Q := fun {Q} H => by
    unfold qj_X13_tokenize_83
    refine pc_sv r_letter ?_; intro u86 q86
    refine pc_if (fun z => absurd z (by omega)) (fun _ => ?_)
    refine wr_92 Tr nn p n 0 (by omega) (by omega) pn (by omega) (fun c2 hc2 => ?_)
    rw [hq] at hc2
    rw [show c2 = (q : Int) - p by omega]
    refine pc_sv (aq_c XT_2 (by omega) (by omega)) ?_; intro u79 q79
    exact H u79 q79
  unfold qj_X9_scanWord_25
  refine pc_sub (by omega) ?_; intro v6 e6
  rw [e6]
  refine pc_if (fun c12 => ?_) (fun c12 => ?_)
  · refine pc_se ?_; intro u8 e8
    have N8 := no_c (nn := nn) NT (a1 := 1) (a2 := (p : Int)) (l := (q : Int) - p) (t := fun k => r 162 (((p : Int)).toNat + k)) (by have := C.2; omega) (by omega) (by omega) (by have := C.1; omega) (by rw [ln_h1]; omega) (fun k hk => (tx k hk).1) _ e8
    obtain ⟨i, i1, i2, i3, i4, i5, i6, i7⟩ := N8
    have s23 : u8.2 2 3 = h 2 3 := (ff_X9_nameOf nn) _ e8 2 3 rfl
    have s3 : ∀ i : Nat, u8.2 3 i = h 3 i := fun i => (ff_X9_nameOf nn) _ e8 3 i (nw_ar rfl i)
    have s4 : ∀ i : Nat, u8.2 4 i = h 4 i := fun i => (ff_X9_nameOf nn) _ e8 4 i (nw_ar rfl i)
    have s5 : ∀ i : Nat, u8.2 5 i = h 5 i := fun i => (ff_X9_nameOf nn) _ e8 5 i (nw_ar rfl i)
    have s1 : ∀ i : Nat, u8.2 1 i = h 1 i := fun i => (ff_X9_nameOf nn) _ e8 1 i (nw_ar rfl i)
    have G : ∀ s0 : Int, ((s0 = 2 ∧ ¬ (9 ≤ i ∧ i < 9 + 22)) ∨ ((9 ≤ i ∧ i < 9 + 22) ∧ s0 = (i : Int) + 1)) → Pc (qj_X9_scanWord_89 nn (p : Int) ((q : Int) - p) u8.1 s0 u8.2) (TSP nn A n p h r qk) := fun s0 hs0 => by
      unfold qj_X9_scanWord_89
      refine pc_se ?_; intro u2 e2
      have A2 := at_c (h := u8.2) (by omega) _ e2
      refine pc_ret (.inl ⟨q, ⟨qp, q2⟩, rfl, tc_k (tc_k Tc s1) (fun i => A2.2.2.2 1 i (by omega)), fun Q H => RF (fun u79 S => ?_)⟩)
      have I := am_id kw_2 (by decide) i4 (kt_x NT KT i5) (by omega) i2 i3 sp S
      -- the token
      have FIN : ∀ (a y : Int) (rr : ms_M), ((a = 1 ∧ s0 = 2) ∨ (a = 3 ∧ 10 ≤ s0 ∧ s0 ≤ 31 ∧ y = s0 - 10)) → RT_ a (p : Int) ((q : Int) - p) y r rr → JT A n q u2 rr := fun a y rr ha R => by
        clear I S
        have X2 : NXt h u2 := by
          obtain ⟨x1, x2, x3, x4⟩ := i5
          exact ⟨by rw [A2.2.2.2 2 9 (by omega)]; exact x1, fun i hi => by rw [A2.2.2.2 7 i (by omega)]; exact x2 i hi, fun i hi => by rw [A2.2.2.2 6 i (by omega)]; exact x3 i hi, fun i hi => by rw [A2.2.2.2 8 i (by omega)]; exact x4 i hi⟩
        have eN : (u8.2 2 3).toNat = (h 2 3).toNat := by rw [s23]
        have eR : (r 160 8).toNat = (h 2 3).toNat := by rw [TK.1]
        obtain ⟨w1, w2, w3⟩ := A2.2.1
        obtain ⟨y1, y2, y3, y4⟩ := R.2.1
        rw [eN] at w1 w2 w3
        rw [eR] at y1 y2 y3 y4
        have f9 : u2 2 9 = u8.2 2 9 := A2.2.2.2 2 9 (by omega)
        have f7 : ∀ k, u2 7 k = u8.2 7 k := fun k => A2.2.2.2 7 k (by omega)
        have f6 : ∀ k, u2 6 k = u8.2 6 k := fun k => A2.2.2.2 6 k (by omega)
        have N1 : TK1 u2 rr (h 2 3).toNat := by
          unfold TK1
          rw [w1, w2, w3, y1, y2, y3, y4]
          refine ⟨?_, rfl, by omega, fun z => by omega, fun z1 z2 => by omega, fun z => by omega, fun z => ?_⟩
          · unfold kd_T
            rcases ha with ⟨ha1, ha2⟩ | ⟨ha1, ha2, ha3, ha4⟩
            · rw [if_neg (by omega), if_neg (by omega), if_pos ha2]; exact ha1
            · rw [if_neg (by omega), if_neg (by omega), if_neg (by omega), if_neg (by omega), if_pos (by omega)]; exact ha1
          · refine ⟨i, i1, by omega, ⟨?_, fun k hk => ?_⟩, by omega, by omega, fun k hk => ?_⟩
            · have := i3.1; unfold ln_T at *; rw [f7, f7]; exact this
            · have := i3.2 k hk; show u2 6 ((u2 7 i).toNat + k) = rr 162 (((p : Int)).toNat + k); rw [f7, f6, R.2.2.2 162 _ (by omega)]; exact this
            · rw [R.2.2.2 162 _ (by omega)]; exact sp k hk
        refine ⟨tc_k (tc_k Tc s1) (fun i => A2.2.2.2 1 i (by omega)), tr_k Tr R, ntb_k i4 A2.2.2.2, kt_k (kt_x NT KT i5) A2.2.2.2, tks_a NT i5 s23 (fun c k hc => ?_) c0.1 TK A2 R N1, ⟨by have := A2.1; omega, q2⟩, ?_⟩
        · rcases hc with hc | hc | hc
          · rw [hc]; exact s3 k
          · rw [hc]; exact s4 k
          · rw [hc]; exact s5 k
        · refine ⟨⟨by rw [f9, f7]; have := C.1; omega, pos_s C.1.2 c0.1 s23 s3 s4 A2 (by omega) (fun _ => ⟨hp, by omega⟩) (by omega) (fun z13 => ?_) (fun z11 => ?_)⟩, .inr ⟨?_, q3⟩⟩
          · have KU := kt_x NT KT i5
            have l3 := i3.1
            unfold ln_T at l3
            rw [show i = 12 by omega, KU.1 (12 + 1) (by decide), KU.1 12 (by decide), show ka_T (12 + 1) = 96 by decide, show ka_T 12 = 91 by decide] at l3
            exact ⟨by omega, q3⟩
          · have KU := kt_x NT KT i5
            have l3 := i3.1
            unfold ln_T at l3
            rw [show i = 10 by omega, KU.1 (10 + 1) (by decide), KU.1 10 (by decide), show ka_T (10 + 1) = 86 by decide, show ka_T 10 = 81 by decide] at l3
            omega
          rw [f9]
          have := C.2
          omega
      have hr8 : 0 ≤ r 160 8 ∧ r 160 8 ≤ 3001 := by omega
      unfold qj_X13_tokenize_169
      rcases I with ⟨I1, I2⟩ | ⟨j, I1, I2, I3⟩
      · refine pc_if (fun _ => ?_) (fun z => absurd (by omega) z)
        refine pc_if (fun z => absurd z (by omega)) (fun _ => ?_)
        refine pc_sv (rt_c hr8) ?_; intro u64 R
        refine r378 R hr8 (by omega) (by decide) ?_
        rw [show (p : Int) + ((q : Int) - p) = (q : Int) by omega]
        exact H u64 (FIN 1 _ u64 (.inl ⟨rfl, by omega⟩) R)
      · refine pc_if (fun z => absurd z (by omega)) (fun _ => ?_)
        refine pc_sv (rt_c hr8) ?_; intro u64 R
        refine r378 R hr8 (by omega) (by decide) ?_
        rw [show (p : Int) + ((q : Int) - p) = (q : Int) by omega]
        exact H u64 (FIN 3 _ u64 (.inr ⟨rfl, by omega, by omega, by omega⟩) R)
    refine pc_if (fun z => ?_) (fun z => ?_)
    · unfold qj_X9_scanWord_68 qj_X9_scanWord_69
      exact pc_if (fun _ => G 2 (.inl ⟨rfl, by omega⟩)) (fun y => absurd rfl y)
    · refine pc_if (fun z2 => ?_) (fun z2 => ?_)
      · unfold qj_X9_scanWord_68 qj_X9_scanWord_69
        exact pc_if (fun _ => G 2 (.inl ⟨rfl, by omega⟩)) (fun y => absurd rfl y)
      · unfold qj_X9_scanWord_69
        refine pc_if (fun y => absurd y (by decide)) (fun _ => ?_)
        refine pc_add (by omega) ?_; intro v3 e3
        refine pc_sub (by omega) ?_; intro v4 e4
        exact G v4 (.inr ⟨by omega, by omega⟩)
  · refine pc_ret (.inr ⟨rfl, rfl, fun Q H => RF (fun u79 S => ?_)⟩)
    have I := am_l kw_2 (by decide) (by omega) sp S
    have hr8 : 0 ≤ r 160 8 ∧ r 160 8 ≤ 3001 := by omega
    refine pc_if (fun _ => ?_) (fun z => absurd (by omega) z)
    refine pc_if (fun _ => ?_) (fun z => absurd (by omega) z)
    unfold qj_X13_tokenize_169
    refine pc_sv (rt_c hr8) ?_; intro u64 R
    exact r378b R hr8 (H u64 _ _ R)
end
end
section
/- TOKENS: numbers, signs -/
section
variable {nn : Nat} {h g r h2 r2 : ms_M} {A : Nat → Int} {n p : Nat} {qk : Int → ms_M → Option ms_M}
/-- a token without a name: both have gone on -/
theorem jt_s (J : JT A n p h r) {q : Nat} (hq : p < q ∧ q ≤ n) {k v a w y : Int} (A2 : AT_ k (p : Int) v h h2) (R : RT_ a (p : Int) w y r r2) (N1 : TK1 h2 r2 (h 2 3).toNat) (hk : ¬ k = 13 ∧ ¬ k = 2 ∧ ¬ k = 11) : JT A n q h2 r2 := by
  obtain ⟨Tc, Tr, NT, KT, TK, ⟨c0, pn⟩, C⟩ := J
  have f9 : h2 2 9 = h 2 9 := A2.2.2.2 2 9 (by omega)
  have f7 : ∀ k, h2 7 k = h 7 k := fun k => A2.2.2.2 7 k (by omega)
  refine ⟨tc_k Tc (fun i => A2.2.2.2 1 i (by omega)), tr_k Tr R, ntb_k NT A2.2.2.2, kt_k KT A2.2.2.2, tks_a NT nx_r rfl (fun _ _ _ => rfl) c0.1 TK A2 R N1, ⟨by have := A2.1; omega, hq.2⟩, ?_⟩
  refine ⟨⟨by rw [f9, f7]; have := C.1; omega, pos_s C.1.2 c0.1 rfl (fun _ => rfl) (fun _ => rfl) A2 (by omega) (fun z => absurd z hk.2.1) (by omega) (fun z => absurd z hk.1) (fun z => absurd z hk.2.2)⟩, .inl ?_⟩
  rw [f9]
  have := C.2
  omega
theorem l2i_e {x : Int} (hx : 0 ≤ x ∧ x ≤ 2147483647) : oq_l2i x = x := by
  have H : Ok_ (xl (oq_l2i x) (fun v => some v)) (fun v => v = x) := ok_l2i (fun v _ _ h3 => ok_ret (by omega))
  obtain ⟨v, e, q⟩ := H
  have e : some (oq_l2i x) = some v := e
  cases e
  exact q
theorem ts_num (J : JT A n p h r) (hp : p < n) (hl : dg_T (A p)) : Pc (qf_X9_scanNumber nn (n : Int) (p : Int) h) (TSP nn A n p h r qk) := by
  have J0 := J
  obtain ⟨Tc, Tr, NT, KT, TK, ⟨c0, pn⟩, C⟩ := J
  have n3 := Tc.1
  have tk0 := TK.1
  have hr8 : 0 ≤ r 160 8 ∧ r 160 8 ≤ 3001 := by omega
  obtain ⟨⟨q1, q2⟩, q3, q4⟩ := de_q (A := A) (n := n) n p (by omega) pn
  have qp : p < de_T A n n p := by
    by_cases z : de_T A n n p = p
    · exfalso; rw [z] at q3; omega
    · omega
  have tp := Tc.2 p hp
  unfold qf_X9_scanNumber
  refine nc_6 Tc (a := p) nn 0 n (by omega) (Int.le_refl _) ?_
  rw [Nat.add_zero]
  intro v0
  generalize hv : nv_T A p (de_T A n n p - p) = V at *
  generalize hq : de_T A n n p = q at *
  -- the reference up to the test
  have RF : ∀ {Q : ms_M → Prop}, (∀ x2 : Int, nr_T V x2 → Pc (xl (oq_cmp x2 2147483647) fun v47 => if 0 < v47 then (qj_X13_tokenize_292 nn qk (p : Int) ((q : Int) - p) x2 r) else (if (q : Int) - p = 1 then (qj_X13_tokenize_263 nn qk (p : Int) ((q : Int) - p) x2 r) else (if A p = 48 then (qj_X13_tokenize_292 nn qk (p : Int) ((q : Int) - p) x2 r) else (qj_X13_tokenize_263 nn qk (p : Int) ((q : Int) - p) x2 r)))) Q) → Pc (qj_X13_tokenize_83 nn qk (p : Int) (A p) r) Q := fun {Q} H => by
    unfold qj_X13_tokenize_83
    refine pc_sv r_letter ?_; intro u86 q86
    refine pc_if (fun _ => ?_) (fun z => absurd (by omega) z)
    refine pc_sv r_digit ?_; intro u87 q87
    refine pc_if (fun z => absurd z (by omega)) (fun _ => ?_)
    refine nr_189 Tr (a := p) nn 0 n 0 0 (by omega) (by omega) rfl (Int.le_refl _) ⟨by omega, fun _ => rfl, fun z => absurd z (by show ¬ (2147483647 : Int) < 0; decide)⟩ (fun x2 c2 hx hc => ?_)
    rw [Nat.add_zero, hq] at hx hc
    rw [hv] at hx
    rw [show c2 = (q : Int) - p by omega]
    exact H x2 hx
  -- BAD
  have RB : ∀ {x2 : Int} {Q : ms_M → Prop}, (∀ r2 w v, RT_ 6 (p : Int) w v r r2 → Pc (qw_X13_tokenize_400 nn nn (r2 160 8) r2) Q) → Pc (qj_X13_tokenize_292 nn qk (p : Int) ((q : Int) - p) x2 r) Q := fun {x2 Q} H => by
    unfold qj_X13_tokenize_292 qj_X13_tokenize_293
    refine pc_if (fun _ => ?_) (fun z => absurd rfl z)
    unfold qj_X13_tokenize_307
    refine pc_xl ?_; intro v30 e30
    refine pc_sv (rt_c hr8) ?_; intro u32 R
    exact r378b R hr8 (H u32 _ _ R)
  have BD : ¬ (¬ (A p = 48 ∧ p + 1 < q) ∧ (q = n ∨ ¬ np_T (A q)) ∧ V ≤ 2147483647) → TSP nn A n p h r qk (0, h) := fun nz => .inr ⟨rfl, rfl, fun Q H => RF (fun x2 hx => by
    obtain ⟨x0, x1, x3⟩ := hx
    refine pc_cmp ?_; intro v47 e47
    refine pc_if (fun _ => RB H) (fun z => ?_)
    have T263 : (¬ q = n ∧ np_T (A q)) → Pc (qj_X13_tokenize_263 nn qk (p : Int) ((q : Int) - p) x2 r) Q := fun w => by
      unfold qj_X13_tokenize_263
      refine pc_add (by omega) ?_; intro v34 e34
      refine pc_sv (r_at Tr (x := q) (by omega)) ?_; intro u36 q36
      refine pc_sv r_letter ?_; intro u37 q37
      refine pc_if (fun _ => RB H) (fun y => ?_)
      refine pc_add (by omega) ?_; intro v38 e38
      refine pc_sv (r_at Tr (x := q) (by omega)) ?_; intro u40 q40
      exact pc_if (fun _ => RB H) (fun y2 => absurd (by omega) y2)
    have V1 : V ≤ 2147483647 := by
      by_cases y : V ≤ 2147483647
      · exact y
      · have := x3 (by omega); omega
    refine pc_if (fun y => T263 (by omega)) (fun y => pc_if (fun y2 => RB H) (fun y2 => T263 (by omega))))⟩
  have GD : (¬ (A p = 48 ∧ p + 1 < q) ∧ (q = n ∨ ¬ np_T (A q)) ∧ V ≤ 2147483647) → Pc (xl (oq_l2i (nc_T V)) fun v2 => mx_sv (qf_X9_addToken nn 3 (p : Int) v2 h) fun u4 => xl (oq_sub (q : Int) (p : Int)) fun v5 => some (v5, u4)) (TSP nn A n p h r qk) := fun gd => by
    refine pc_xl ?_; intro v2 e2
    have ec : nc_T V = V := by unfold nc_T; rw [if_neg (by omega)]
    rw [ec, l2i_e ⟨v0, gd.2.2⟩] at e2
    refine pc_se ?_; intro u4 e4
    have A2 := at_c (h := h) (by omega) _ e4
    refine pc_sub (by omega) ?_; intro v5 e5
    refine pc_ret (.inl ⟨q, ⟨qp, q2⟩, e5, tc_k Tc (fun i => A2.2.2.2 1 i (by omega)), fun Q H => RF (fun x2 hx => ?_)⟩)
    obtain ⟨x0, x1, x3⟩ := hx
    have ex := x1 gd.2.2
    refine pc_cmp ?_; intro v47 e47
    refine pc_if (fun z => absurd z (by omega)) (fun _ => ?_)
    have T263 : Pc (qj_X13_tokenize_263 nn qk (p : Int) ((q : Int) - p) x2 r) Q := by
      unfold qj_X13_tokenize_263
      refine pc_add (by omega) ?_; intro v34 e34
      refine pc_sv (r_at Tr (x := q) (by omega)) ?_; intro u36 q36
      refine pc_sv r_letter ?_; intro u37 q37
      refine pc_if (fun y => absurd y (by omega)) (fun _ => ?_)
      refine pc_add (by omega) ?_; intro v38 e38
      refine pc_sv (r_at Tr (x := q) (by omega)) ?_; intro u40 q40
      refine pc_if (fun y => absurd y (by omega)) (fun _ => ?_)
      unfold qj_X13_tokenize_293
      refine pc_if (fun y => absurd y (by decide)) (fun _ => ?_)
      unfold qj_X13_tokenize_307
      refine pc_xl ?_; intro v30 e30
      rw [l2i_e (by omega)] at e30
      refine pc_sv (rt_c hr8) ?_; intro u32 R
      refine r378 R hr8 (by omega) (by decide) ?_
      rw [show (p : Int) + ((q : Int) - p) = (q : Int) by omega]
      refine H u32 (jt_s J0 ⟨qp, q2⟩ A2 R ?_ (by decide))
      have eR : (r 160 8).toNat = (h 2 3).toNat := by rw [TK.1]
      obtain ⟨w1, w2, w3⟩ := A2.2.1
      obtain ⟨y1, y2, y3, y4⟩ := R.2.1
      rw [eR] at y1 y2 y3 y4
      unfold TK1
      dsimp only
      rw [w1, w2, w3, y1, y2, y3, y4]
      refine ⟨by decide, rfl, by omega, fun z => by omega, fun z1 z2 => by omega, fun z => by omega, fun z => absurd z (by decide)⟩
    refine pc_if (fun y => T263) (fun y => pc_if (fun y2 => absurd y2 (by omega)) (fun y2 => T263))
  -- the class
  have C96 : ∀ {l7 s0 : Int}, ((l7 = 0 ∧ ¬ (A p = 48 ∧ p + 1 < q)) ∨ (l7 = 1 ∧ A p = 48 ∧ p + 1 < q)) → ((s0 = 0 ∧ (q = n ∨ ¬ np_T (A q))) ∨ (s0 = 1 ∧ ¬ q = n ∧ np_T (A q))) → Pc (qj_X9_scanNumber_96 nn (p : Int) (nc_T V) (q : Int) l7 s0 h) (TSP nn A n p h r qk) := fun {l7 s0} a b => by
    unfold qj_X9_scanNumber_96
    refine pc_if (fun z => pc_ret (BD (fun y => by omega))) (fun z => ?_)
    refine pc_if (fun z2 => pc_ret (BD (fun y => by omega))) (fun z2 => ?_)
    refine pc_cmp ?_; intro v1 e1
    have ev : (V ≤ 2147483647 ∧ nc_T V = V) ∨ (2147483647 < V ∧ nc_T V = 2147483648) := by
      unfold nc_T
      by_cases y : 2147483647 < V
      · rw [if_pos y]; omega
      · rw [if_neg y]; omega
    refine pc_if (fun z3 => GD (by omega)) (fun z3 => pc_ret (BD (fun y => by omega)))
  have C73 : ∀ {s0 : Int}, ((s0 = 0 ∧ ¬ (A p = 48 ∧ p + 1 < q)) ∨ (s0 = 1 ∧ A p = 48 ∧ p + 1 < q)) → Pc (qj_X9_scanNumber_73 nn (n : Int) (p : Int) (nc_T V) (q : Int) s0 h) (TSP nn A n p h r qk) := fun {s0} a => by
    unfold qj_X9_scanNumber_73 qj_X9_scanNumber_95
    refine pc_if (fun z => C96 a (.inl ⟨rfl, by omega⟩)) (fun z => ?_)
    have tq := Tc.2 q (by omega)
    refine pc_rA ?_; intro i1 i2 v9 e9
    rw [Int.toNat_natCast] at e9
    refine pc_sv ct_part ?_; intro u10 q10
    refine pc_if (fun z2 => C96 a (.inl ⟨rfl, by omega⟩)) (fun z2 => C96 a (.inr ⟨rfl, by omega, by omega⟩))
  unfold qj_X9_scanNumber_52 qj_X9_scanNumber_72
  refine pc_rA ?_; intro i1 i2 v13 e13
  rw [Int.toNat_natCast] at e13
  refine pc_if (fun z => C73 (.inl ⟨rfl, by omega⟩)) (fun z => ?_)
  refine pc_add (by omega) ?_; intro v14 e14
  exact pc_if (fun z2 => C73 (.inl ⟨rfl, by omega⟩)) (fun z2 => C73 (.inr ⟨rfl, by omega, by omega⟩))
/-- the reference's value of a sign -/
theorem rv_330 (Tr : TXr r A n) {w a d e : Int} {Q : ms_M → Prop} (hp : p < n) (ha : a = A p) (hd : (p + 1 < n ∧ d = A (p + 1)) ∨ (¬ p + 1 < n ∧ d = 0)) (he : (p + 2 < n ∧ e = A (p + 2)) ∨ (¬ p + 2 < n ∧ e = 0)) (hw : w = 0 ∨ w = 1 ∨ w = 2 ∨ w = 3) (H0 : w = 0 → ∀ v, Pc (qj_X13_tokenize_371 nn qk (p : Int) 0 v 6 r) Q) (H1 : w = 1 → Pc (qj_X13_tokenize_371 nn qk (p : Int) 1 a 4 r) Q) (H2 : w = 2 → p + 1 < n → Pc (qj_X13_tokenize_371 nn qk (p : Int) 2 (128 * a + d) 4 r) Q) (H3 : w = 3 → p + 2 < n → Pc (qj_X13_tokenize_371 nn qk (p : Int) 3 (128 * (128 * a + d) + e) 4 r) Q) (kk : Nat) (hh : ∀ i : Nat, i < 3 → (i : Int) < w → p + i < n) : Pc (qw_X13_tokenize_330 nn qk kk (p : Int) w 0 0 r) Q := by
  have n3 := Tr.1
  have t0 := Tr.2.2 p hp
  have L0 : oq_mul 128 0 = 0 := by decide
  cases kk with
  | zero => exact pc_none
  | succ kk =>
    unfold qw_X13_tokenize_330
    refine pc_if (fun z => pc_if (fun z2 => ?_) (fun z2 => absurd z2 (by omega))) (fun z => ?_)
    · rw [show w = 0 by omega]; exact H0 (by omega) _
    refine pc_xl ?_; intro v23 e23
    rw [L0] at e23
    refine pc_add (by omega) ?_; intro v25 e25
    refine pc_rA ?_; intro i1 i2 v26 e26
    rw [show v25.toNat = p by omega, t0.2] at e26
    refine pc_add (by omega) ?_; intro v27 e27
    refine pc_add (by omega) ?_; intro v28 e28
    rw [show v27 = a by omega, e28]
    cases kk with
    | zero => exact pc_none
    | succ kk =>
      unfold qw_X13_tokenize_330
      refine pc_if (fun z => pc_if (fun z2 => absurd z2 (by omega)) (fun z2 => ?_)) (fun z => ?_)
      · rw [show w = 1 by omega]; exact H1 (by omega)
      have p1 := hh 1 (by omega) (by omega)
      have t1 := Tr.2.2 (p + 1) p1
      refine pc_xl ?_; intro v23 e23
      rw [oq_mul_eq (by omega) (by omega) (by omega)] at e23
      refine pc_add (by omega) ?_; intro v25 e25
      refine pc_rA ?_; intro i1 i2 v26 e26
      rw [show v25.toNat = p + 1 by omega, t1.2] at e26
      refine pc_add (by omega) ?_; intro v27 e27
      refine pc_add (by omega) ?_; intro v28 e28
      rw [show v27 = 128 * a + d by omega, e28]
      cases kk with
      | zero => exact pc_none
      | succ kk =>
        unfold qw_X13_tokenize_330
        refine pc_if (fun z => pc_if (fun z2 => absurd z2 (by omega)) (fun z2 => ?_)) (fun z => ?_)
        · rw [show w = 2 by omega]; exact H2 (by omega) p1
        have p2 := hh 2 (by omega) (by omega)
        have t2 := Tr.2.2 (p + 2) p2
        refine pc_xl ?_; intro v23 e23
        rw [oq_mul_eq (by omega) (by omega) (by omega)] at e23
        refine pc_add (by omega) ?_; intro v25 e25
        refine pc_rA ?_; intro i1 i2 v26 e26
        rw [show v25.toNat = p + 2 by omega, t2.2] at e26
        refine pc_add (by omega) ?_; intro v27 e27
        refine pc_add (by omega) ?_; intro v28 e28
        rw [show v27 = 128 * (128 * a + d) + e by omega, e28]
        cases kk with
        | zero => exact pc_none
        | succ kk =>
          unfold qw_X13_tokenize_330
          refine pc_if (fun z => pc_if (fun z2 => absurd z2 (by omega)) (fun z2 => ?_)) (fun z => absurd (by omega) z)
          rw [show w = 3 by omega]; exact H3 (by omega) p2
theorem ts_sign (J : JT A n p h r) (hp : p < n) (nl : ¬ lt_T (A p)) (nd : ¬ dg_T (A p)) {v d' : Int} {d e : Int} (hv : v = h 1 p) (hd' : (p + 1 < n ∧ d' = h 1 (p + 1)) ∨ (¬ p + 1 < n ∧ d' = 0)) (hd : (p + 1 < n ∧ d = A (p + 1)) ∨ (¬ p + 1 < n ∧ d = 0)) (he : (p + 2 < n ∧ e = A (p + 2)) ∨ (¬ p + 2 < n ∧ e = 0)) : Pc (qj_X9_scanToken_53 nn (n : Int) (p : Int) v d' h) (TSP nn A n p h r qk) := by
  have J0 := J
  obtain ⟨Tc, Tr, NT, KT, TK, ⟨c0, pn⟩, C⟩ := J
  have n3 := Tc.1
  have tk0 := TK.1
  have hr8 : 0 ≤ r 160 8 ∧ r 160 8 ≤ 3001 := by omega
  have tp := Tc.2 p hp
  have hva : (0 ≤ v ∧ v = A p) ∨ (v < 0 ∧ 128 ≤ A p) := by omega
  have hda : (0 ≤ d' ∧ d' = d) ∨ (d' < 0 ∧ 128 ≤ d) := by
    rcases hd' with ⟨a, b⟩ | ⟨a, b⟩
    · have := Tc.2 (p + 1) a; omega
    · omega
  obtain ⟨y, -, -, S3, S4, S5⟩ := sw_all (A p) d e
  -- the reference
  have RF : ∀ {Q : ms_M → Prop}, (sl_T (sg_T (A p) d e) = 0 → ∀ v, Pc (qj_X13_tokenize_371 nn qk (p : Int) 0 v 6 r) Q) → (∀ w, w = sl_T (sg_T (A p) d e) → 1 ≤ w → w ≤ 3 → (p : Int) + w ≤ n → Pc (qj_X13_tokenize_371 nn qk (p : Int) w y 4 r) Q) → Pc (qj_X13_tokenize_83 nn qk (p : Int) (A p) r) Q := fun {Q} H0 H => by
    unfold qj_X13_tokenize_83
    refine pc_sv r_letter ?_; intro u86 q86
    refine pc_if (fun _ => ?_) (fun z => absurd (by omega) z)
    refine pc_sv r_digit ?_; intro u87 q87
    refine pc_if (fun _ => ?_) (fun z => absurd (by omega) z)
    refine pc_sv (sa_r Tr hp rfl hd he) ?_; intro u89 q89
    have W2 : u89 = 2 ∨ u89 = 3 → p + 1 < n := fun z => by
      by_cases w : p + 1 < n
      · exact w
      · exfalso; exact sg_w2 (a := A p) (d := d) (e := e) (by omega) (by omega)
    have W3 : u89 = 3 → p + 2 < n := fun z => by
      by_cases w : p + 2 < n
      · exact w
      · exfalso; exact sg_w3 (a := A p) (d := d) (e := e) (by omega) (by omega)
    refine rv_330 Tr hp rfl hd he (by omega) (fun z => H0 (by omega)) (fun z => ?_) (fun z z1 => ?_) (fun z z1 => ?_) nn (fun i a b => ?_)
    · have := H 1 (by omega) (by omega) (by omega) (by omega)
      rw [show y = A p by omega] at this; exact this
    · have := H 2 (by omega) (by omega) (by omega) (by omega)
      rw [show y = 128 * A p + d by omega] at this; exact this
    · have := H 3 (by omega) (by omega) (by omega) (by omega)
      rw [show y = 128 * (128 * A p + d) + e by omega] at this; exact this
    · by_cases i2 : i = 2
      · have := W3 (by omega); omega
      · by_cases i1 : i = 1
        · have := W2 (by omega); omega
        · omega
  -- the class, with its sign
  have C110 : ∀ {k : Int}, k = sg_T (A p) d e → Pc (qj_X9_scanToken_110 nn (p : Int) k h) (TSP nn A n p h r qk) := fun {k} ek => by
    unfold qj_X9_scanToken_110
    rw [ek]
    refine pc_if (fun z => ?_) (fun z => ?_)
    · refine pc_sv sl_c ?_; intro u1 q1
      have e0 := S4.1 z
      rw [e0] at q1
      rw [q1]
      refine pc_ret (.inr ⟨rfl, rfl, fun Q H => RF (fun _ v => ?_) (fun w a b => by omega)⟩)
      unfold qj_X13_tokenize_371
      refine pc_sv (rt_c hr8) ?_; intro u21 R
      exact r378b R hr8 (H u21 _ _ R)
    · refine pc_se ?_; intro u3 e3
      have A2 := at_c (h := h) (by omega) _ e3
      refine pc_sv sl_c ?_; intro u4 q4
      have S5 := S5 z
      have w1 : 1 ≤ sl_T (sg_T (A p) d e) ∧ sl_T (sg_T (A p) d e) ≤ 3 := by
        have : ¬ sl_T (sg_T (A p) d e) = 0 := fun w => z (S4.2 w)
        omega
      have w2 : (p : Int) + sl_T (sg_T (A p) d e) ≤ n := by
        by_cases a1 : sl_T (sg_T (A p) d e) = 1
        · omega
        · by_cases b2 : p + 1 < n
          · by_cases a3 : sl_T (sg_T (A p) d e) = 2
            · omega
            · by_cases b3 : p + 2 < n
              · omega
              · exfalso; exact sg_w3 (a := A p) (d := d) (e := e) (by omega) (by omega)
          · exfalso; exact sg_w2 (a := A p) (d := d) (e := e) (by omega) (by omega)
      refine pc_ret (.inl ⟨p + (sl_T (sg_T (A p) d e)).toNat, by omega, ?_, tc_k Tc (fun i => A2.2.2.2 1 i (by omega)), fun Q H => RF (fun w => absurd w (by omega)) (fun w ew w3 w4 w5 => ?_)⟩)
      · show u4 = _; omega
      unfold qj_X13_tokenize_371
      refine pc_sv (rt_c hr8) ?_; intro u21 R
      refine r378 R hr8 (by omega) (by decide) ?_
      rw [show (p : Int) + w = ((p + (sl_T (sg_T (A p) d e)).toNat : Nat) : Int) by omega]
      refine H u21 (jt_s J0 (by omega) A2 R ?_ (by omega))
      have eR : (r 160 8).toNat = (h 2 3).toNat := by rw [TK.1]
      obtain ⟨x1, x2, x3⟩ := A2.2.1
      obtain ⟨y1, y2, y3, y4⟩ := R.2.1
      rw [eR] at y1 y2 y3 y4
      unfold TK1
      dsimp only
      rw [x1, x2, x3, y1, y2, y3, y4]
      refine ⟨?_, rfl, by omega, fun z => by omega, fun z1 z2 => by omega, fun _ => S5.1, fun z => by omega⟩
      unfold kd_T
      rw [if_neg (by omega), if_neg (by omega), if_neg (by omega), if_neg (by omega), if_neg (by omega)]
  have C103 : ¬ (A p = 62 ∧ d = 62 ∧ e = 62) → Pc (qj_X9_scanToken_103 nn (p : Int) v d' h) (TSP nn A n p h r qk) := fun ne => by
    unfold qj_X9_scanToken_103
    refine pc_sv (so_c hva hda) ?_; intro u6 q6
    refine C110 ?_
    rw [q6]; unfold sg_T; rw [if_neg ne]
  have C83 : ¬ (A p = 62 ∧ d = 62 ∧ e = 62) → Pc (qj_X9_scanToken_83 nn (p : Int) v d' h) (TSP nn A n p h r qk) := fun ne => by
    unfold qj_X9_scanToken_83 qj_X9_scanToken_84
    exact pc_if (fun _ => C103 ne) (fun _ => pc_if (fun _ => C103 ne) (fun z => absurd rfl z))
  unfold qj_X9_scanToken_53
  refine pc_if (fun z => C83 (by omega)) (fun z => ?_)
  refine pc_add (by omega) ?_; intro v9 e9
  refine pc_if (fun z2 => C83 (by omega)) (fun z2 => ?_)
  refine pc_add (by omega) ?_; intro v10 e10
  refine pc_rA ?_; intro i1 i2 v11 e11
  rw [show v10.toNat = p + 2 by omega] at e11
  have t2 := Tc.2 (p + 2) (by omega)
  refine pc_if (fun z3 => C83 (by omega)) (fun z3 => ?_)
  unfold qj_X9_scanToken_84
  refine pc_if (fun z4 => C103 (by omega)) (fun z4 => ?_)
  refine pc_if (fun z5 => absurd z5 (by decide)) (fun _ => ?_)
  refine C110 ?_
  unfold sg_T
  rw [if_pos (by omega)]
theorem ts_all (J : JT A n p h r) (hp : p < n) : Pc (qf_X9_scanToken nn (n : Int) (p : Int) h) (TSP nn A n p h r qk) := by
  have Tc := J.1
  have n3 := Tc.1
  have tp := Tc.2 p hp
  unfold qf_X9_scanToken
  refine pc_rA ?_; intro i1 i2 v15 e15
  rw [Int.toNat_natCast] at e15
  refine pc_sv c_letter ?_; intro u16 q16
  refine pc_if (fun z => ?_) (fun z => ?_)
  · refine pc_sv c_digit ?_; intro u17 q17
    refine pc_if (fun z2 => ?_) (fun z2 => ?_)
    · have D : ∃ d : Int, (p + 1 < n ∧ d = A (p + 1)) ∨ (¬ p + 1 < n ∧ d = 0) := by
        by_cases w : p + 1 < n
        · exact ⟨_, .inl ⟨w, rfl⟩⟩
        · exact ⟨_, .inr ⟨w, rfl⟩⟩
      have E : ∃ d : Int, (p + 2 < n ∧ d = A (p + 2)) ∨ (¬ p + 2 < n ∧ d = 0) := by
        by_cases w : p + 2 < n
        · exact ⟨_, .inl ⟨w, rfl⟩⟩
        · exact ⟨_, .inr ⟨w, rfl⟩⟩
      obtain ⟨d, hd⟩ := D
      obtain ⟨e, he⟩ := E
      refine pc_add (by omega) ?_; intro v18 e18
      refine pc_if (fun z3 => ?_) (fun z3 => ?_)
      · exact ts_sign J hp (by omega) (by omega) e15 (.inr ⟨by omega, rfl⟩) hd he
      · refine pc_add (by omega) ?_; intro v19 e19
        refine pc_rA ?_; intro j1 j2 v20 e20
        rw [show v19.toNat = p + 1 by omega] at e20
        exact ts_sign J hp (by omega) (by omega) e15 (.inl ⟨by omega, e20⟩) hd he
    · refine pc_sv (ts_num (qk := qk) J hp (by omega)) ?_; intro u23 q23
      exact pc_ret q23
  · refine pc_sv (ts_word (qk := qk) J hp (by omega)) ?_; intro u26 q26
    exact pc_ret q26
end
end
section
/- TOKENS: all of them -/
/-- both have read the whole text -/
def TKFn (A : Nat → Int) (n : Nat) (u v : ms_M) : Prop := NTB u ∧ KT_ u ∧ TKs u v ∧ ((1 ≤ u 2 3 ∧ u 2 3 ≤ 3001) ∧ u 3 (u 2 3 - 1).toNat ≤ 1) ∧ (∀ i : Nat, u 2 3 ≤ (i : Int) → (i : Int) < u 2 3 + 4 → v 163 i = 5) ∧ TXr v A n ∧ (u 2 9 ≤ 1532 ∧ u 7 (u 2 9).toNat ≤ 3186) ∧ POS A n (n + 1) u
section
variable {nn : Nat} {h g r h2 r2 : ms_M} {A : Nat → Int} {n p : Nat}
theorem fl4_449 : ∀ (k i : Nat) (r : ms_M), (0 ≤ r 160 8 ∧ r 160 8 ≤ 3002) → r 160 8 ≤ (i : Int) → (i : Int) ≤ r 160 8 + 4 → Pc (qw_X13_tokenize_449 nn k (i : Int) r) (fun v => (∀ c j : Nat, ¬ (c = 163 ∧ i ≤ j) → v c j = r c j) ∧ ∀ j : Nat, i ≤ j → (j : Int) < r 160 8 + 4 → v 163 j = 5) := by
  intro k
  induction k with
  | zero => intro i r h1 h2 h3; exact pc_none
  | succ k ih =>
    intro i r h1 h2 h3
    unfold qw_X13_tokenize_449
    refine pc_add (by omega) ?_; intro v2 e2
    refine pc_if (fun c => pc_ret ⟨fun _ _ _ => rfl, fun j a b => by omega⟩) (fun c => ?_)
    refine pc_wA ?_; intro i1 i2 h4 e4
    rw [Int.toNat_natCast] at e4
    refine pc_add (by omega) ?_; intro v5 e5
    have q8 : h4 160 8 = r 160 8 := by rw [e4]; exact up_n (by omega)
    rw [show v5 = ((i + 1 : Nat) : Int) by omega]
    refine pc_imp (ih (i + 1) h4 (by omega) (by omega) (by omega)) (fun v q => ⟨fun c j z => ?_, fun j a b => ?_⟩)
    · rw [q.1 c j (by omega), e4, up_n (by omega)]
    · by_cases z : j = i
      · rw [q.1 163 j (by omega), e4, z, up_s]
      · exact q.2 j (by omega) (by omega)
theorem fl4_400 : ∀ (k i : Nat) (r : ms_M), (0 ≤ r 160 8 ∧ r 160 8 ≤ 3002) → r 160 8 ≤ (i : Int) → (i : Int) ≤ r 160 8 + 4 → Pc (qw_X13_tokenize_400 nn k (i : Int) r) (fun v => (∀ c j : Nat, ¬ (c = 163 ∧ i ≤ j) → v c j = r c j) ∧ ∀ j : Nat, i ≤ j → (j : Int) < r 160 8 + 4 → v 163 j = 5) := by
  intro k
  induction k with
  | zero => intro i r h1 h2 h3; exact pc_none
  | succ k ih =>
    intro i r h1 h2 h3
    unfold qw_X13_tokenize_400
    refine pc_add (by omega) ?_; intro v2 e2
    refine pc_if (fun c => pc_ret ⟨fun _ _ _ => rfl, fun j a b => by omega⟩) (fun c => ?_)
    refine pc_wA ?_; intro i1 i2 h4 e4
    rw [Int.toNat_natCast] at e4
    refine pc_add (by omega) ?_; intro v5 e5
    have q8 : h4 160 8 = r 160 8 := by rw [e4]; exact up_n (by omega)
    rw [show v5 = ((i + 1 : Nat) : Int) by omega]
    refine pc_imp (ih (i + 1) h4 (by omega) (by omega) (by omega)) (fun v q => ⟨fun c j z => ?_, fun j a b => ?_⟩)
    · rw [q.1 c j (by omega), e4, up_n (by omega)]
    · by_cases z : j = i
      · rw [q.1 163 j (by omega), e4, z, up_s]
      · exact q.2 j (by omega) (by omega)
/-- the last token of both -/
theorem tk_end (J : JT A n p h r) {k a w y v b : Int} {u rr z : ms_M} (hk : (k = 0 ∧ a = 5) ∨ (k = 1 ∧ a = 6)) (hb : (p : Int) ≤ b ∧ b ≤ (n : Int)) (A2 : AT_ k b v h u) (R : RT_ a b w y r rr) (F : ∀ c j : Nat, ¬ (c = 163 ∧ (rr 160 8).toNat ≤ j) → z c j = rr c j) (E : ∀ j : Nat, (rr 160 8).toNat ≤ j → (j : Int) < rr 160 8 + 4 → z 163 j = 5) : TKFn A n u z := by
  obtain ⟨Tc, Tr, NT, KT, TK, ⟨c0, pn⟩, C⟩ := J
  have n3 := Tc.1
  have tk0 := TK.1
  have f9 : u 2 9 = h 2 9 := A2.2.2.2 2 9 (by omega)
  have f7 : ∀ k, u 7 k = h 7 k := fun k => A2.2.2.2 7 k (by omega)
  have a1 := A2.1
  have b1 := R.1
  have eR : (r 160 8).toNat = (h 2 3).toNat := by rw [TK.1]
  obtain ⟨x1, x2, x3⟩ := A2.2.1
  obtain ⟨y1, y2, y3, y4⟩ := R.2.1
  rw [eR] at y1 y2 y3 y4
  have N1 : TK1 u rr (h 2 3).toNat := by
    unfold TK1
    rw [x1, x2, x3, y1, y2, y3, y4]
    refine ⟨?_, rfl, by omega, fun z => by omega, fun z1 z2 => by omega, fun z => by omega, fun z => by omega⟩
    unfold kd_T
    rcases hk with ⟨k1, k2⟩ | ⟨k1, k2⟩
    · rw [if_pos k1]; exact k2
    · rw [if_neg (by omega), if_pos k1]; exact k2
  have K2 := tks_a NT nx_r rfl (fun _ _ _ => rfl) c0.1 TK A2 R N1
  have TR := tr_k Tr R
  have zz : z 160 8 = rr 160 8 := F 160 8 (by omega)
  refine ⟨ntb_k NT A2.2.2.2, kt_k KT A2.2.2.2, ⟨by rw [K2.1, zz], fun i hi => ?_⟩, ⟨by omega, ?_⟩, fun i a c => E i (by omega) (by omega), ⟨TR.1, by rw [F 160 3 (by omega)]; exact TR.2.1, fun i hi => by rw [F 162 i (by omega)]; exact TR.2.2 i hi⟩, ?_, pos_s C.1.2 c0.1 rfl (fun _ => rfl) (fun _ => rfl) A2 hb.1 (fun z => by omega) (by omega) (fun z => by omega) (fun z => by omega)⟩
  · have Q := K2.2 i hi
    have X0 : NXt u u := nx_r
    exact tk1_k (ntb_k NT A2.2.2.2) nx_r rfl rfl rfl (F 163 i (by omega)) (F 164 i (by omega)) (F 165 i (by omega)) (F 166 i (by omega)) (fun k => F 162 k (by omega)) Q
  · rw [a1, show (h 2 3 + 1 - 1).toNat = (h 2 3).toNat by omega, x1]; omega
  · rw [f9, f7]
    have := C.1
    have := C.2
    omega
/-- at a byte that is no blank -/
theorem r_83 (Tr : TXr r A n) (hp : p < n) (nb : ¬ A p = 32 ∧ ¬ A p = 10 ∧ ¬ (A p = 47 ∧ p + 1 < n ∧ A (p + 1) = 47)) {j : Nat} {Q : ms_M → Prop} (H : Pc (qj_X13_tokenize_83 nn (qw_X13_tokenize_7 nn j) (p : Int) (A p) r) Q) : Pc (qw_X13_tokenize_7 nn (j + 1) (p : Int) r) Q := by
  have n3 := Tr.1
  have t1 := Tr.2.1
  have t2 := Tr.2.2 p hp
  unfold qw_X13_tokenize_7
  refine pc_if (fun z => absurd z (by omega)) (fun _ => ?_)
  refine pc_rA ?_; intro i1 i2 v e
  rw [Int.toNat_natCast, t2.2] at e
  rw [e]
  refine pc_if (fun z => absurd z nb.1) (fun _ => ?_)
  refine pc_if (fun _ => ?_) (fun z => absurd nb.2.1 z)
  refine pc_if (fun _ => H) (fun z => ?_)
  refine pc_add (by omega) ?_; intro v6 e6
  refine pc_sv (r_at Tr (x := p + 1) (by omega)) ?_; intro u8 q8
  exact pc_if (fun _ => H) (fun y => absurd (by omega) y)
theorem jt_b (J : JT A n p h r) : JT A n (bk_T A n n 0 p) h r := by
  obtain ⟨Tc, Tr, NT, KT, TK, ⟨c0, pn⟩, C⟩ := J
  obtain ⟨⟨b1, b2⟩, b3⟩ := bk_q (A := A) (n := n) n 0 p (by omega) pn
  refine ⟨Tc, Tr, NT, KT, TK, ⟨by omega, b2⟩, ⟨by have := C.1; omega, C.1.2.1, fun i hi => ?_⟩, ?_⟩
  · have L := C.1.2.2 i hi
    refine ⟨L.1, by omega, fun k13 => ?_, fun k11 => by have := L.2.2.2 k11; omega⟩
    rcases L.2.2.1 k13 with M | ⟨M1, M2⟩
    · left; omega
    · by_cases z : bk_T A n n 0 p = p
      · rw [z]; exact .inr ⟨M1, M2⟩
      · left; omega
  have C2 := C.2
  by_cases z : bk_T A n n 0 p = p
  · rw [z]; exact C2
  · left; omega
theorem tk_loop : ∀ (k j p : Nat) (t : Int) (h r : ms_M), JT A n p h r → (p = n ∨ (¬ A p = 32 ∧ ¬ A p = 10 ∧ ¬ (A p = 47 ∧ p + 1 < n ∧ A (p + 1) = 47))) → (0 ≤ t ∧ t ≤ (p : Int)) → Pc (qw_X9_scan_51 nn k (n : Int) (p : Int) t h) (fun u => Pc (qw_X13_tokenize_7 nn j (p : Int) r) (fun v => TKFn A n u v)) := by
  intro k
  induction k with
  | zero => intro j p t h r J nb ht; exact pc_none
  | succ k ih =>
    intro j p t h r J nb ht
    have n3 := J.1.1
    have pn := J.2.2.2.2.2.1
    have tk0 := J.2.2.2.2.1.1
    have Tr := J.2.1
    cases j with
    | zero => exact fun u _ => pc_none
    | succ j =>
      have hr8 : 0 ≤ r 160 8 ∧ r 160 8 ≤ 3001 := by omega
      have E : p = n → Pc (qj_X9_scan_102 nn (n : Int) h) (fun u => Pc (qw_X13_tokenize_7 nn (j + 1) (p : Int) r) (fun v => TKFn A n u v)) := fun z => by
        have t1 := Tr.2.1
        unfold qj_X9_scan_102
        refine pc_se ?_; intro u2 e2
        have A2 := at_c (h := h) (by omega) _ e2
        refine pc_ret ?_
        unfold qw_X13_tokenize_7
        refine pc_if (fun _ => ?_) (fun y => absurd (by omega) y)
        rw [t1]
        refine pc_sv (rt_c hr8) ?_; intro u1 R
        have r8 := R.1
        rw [show u1 160 8 = (((u1 160 8).toNat : Nat) : Int) by omega]
        refine pc_imp (fl4_449 nn (u1 160 8).toNat u1 (by omega) (by omega) (by omega)) (fun v q => ?_)
        exact tk_end J (.inl ⟨rfl, rfl⟩) (by omega) A2 R q.1 q.2
      unfold qw_X9_scan_51
      refine pc_if (fun c => E (by omega)) (fun c => ?_)
      refine pc_if (fun c2 => E (by omega)) (fun c2 => ?_)
      have hp : p < n := by omega
      have nb : ¬ A p = 32 ∧ ¬ A p = 10 ∧ ¬ (A p = 47 ∧ p + 1 < n ∧ A (p + 1) = 47) := by
        rcases nb with q | q
        · omega
        · exact q
      refine pc_sv (ts_all (qk := qw_X13_tokenize_7 nn j) J hp) ?_; intro u4 q4
      refine pc_if (fun c3 => ?_) (fun c3 => ?_)
      · rcases q4 with ⟨q, ⟨q1, q2⟩, q3, qt, q5⟩ | ⟨q, -⟩
        · refine pc_add (by omega) ?_; intro v5 e5
          refine pc_sv (bb_c qt (p := q) (by omega)) ?_; intro u6 e6
          refine pc_add (by omega) ?_; intro v7 e7
          rw [e6]
          intro u eu
          refine r_83 Tr hp nb (q5 _ (fun r2 J2 => ?_))
          have B := bk_q (A := A) (n := n) n 0 q (by omega) q2
          refine rb_7 J2.2.1 j q n (by omega) q2 (fun j2 => ?_)
          exact ih j2 _ v7 u4.2 r2 (jt_b J2) B.2 (by omega) u eu
        · exact absurd q c3
      · rcases q4 with ⟨q, ⟨q1, q2⟩, q3, qt, q5⟩ | ⟨-, q2, q3⟩
        · exfalso; omega
        · rw [q2]
          refine pc_se ?_; intro u9 e9
          have A2 := at_c (h := h) (by omega) _ e9
          refine pc_ret ?_
          refine r_83 Tr hp nb (q3 _ (fun r2 w v R => ?_))
          have r8 := R.1
          rw [show r2 160 8 = (((r2 160 8).toNat : Nat) : Int) by omega]
          refine pc_imp (fl4_400 nn (r2 160 8).toNat r2 (by omega) (by omega) (by omega)) (fun v q => ?_)
          exact tk_end J (.inr ⟨rfl, rfl⟩) (by omega) A2 R q.1 q.2
end
end
section
/- TOKENS: the table as a text begins; scan and tokenize -/
def kn_b (i : Nat) : Int := bo_T (kb_T (ka_T i).toNat) (kb_T (ka_T (i + 1) - 1).toNat) (ka_T (i + 1) - ka_T i)
set_option maxRecDepth 100000 in
theorem kn_2 : (List.range 64).all (fun b => decide (kk_T b = pv_T kn_b (b : Int) 32)) = true := by decide +kernel
set_option maxRecDepth 100000 in
theorem knt_3 : (List.range 32).all (fun i => decide (ks_T i = pv_T kn_b (kn_b i) i) && decide (ka_T i + 1 ≤ ka_T (i + 1)) && decide (0 ≤ ka_T i) && decide (ka_T (i + 1) ≤ 186)) = true := by decide +kernel
set_option maxRecDepth 100000 in
theorem kn_4 : (List.range 32).all (fun j => (List.range j).all (fun i => !(decide (ka_T (i + 1) - ka_T i = ka_T (j + 1) - ka_T j)) || (List.range (ka_T (i + 1) - ka_T i).toNat).any (fun k => !(decide (kb_T ((ka_T i).toNat + k) = kb_T ((ka_T j).toNat + k)))))) = true := by decide +kernel
section
variable {nn : Nat} {h g r h2 r2 : ms_M} {A : Nat → Int} {n p : Nat}
theorem kn_ntb (K : KT_ h) (e9 : h 2 9 = 32) (e8 : ∀ i : Nat, i < 32 → h 8 i = ks_T i) (eb : ∀ b : Nat, b < 64 → h 9 b = kk_T b) : NTB h := by
  have L : ∀ i : Nat, i < 32 → ks_T i = pv_T kn_b (kn_b i) i ∧ ka_T i + 1 ≤ ka_T (i + 1) ∧ 0 ≤ ka_T i ∧ ka_T (i + 1) ≤ 186 := fun i hi => by
    have q := List.all_eq_true.1 knt_3 i (List.mem_range.2 hi)
    simp only [Bool.and_eq_true, decide_eq_true_eq] at q
    exact ⟨q.1.1.1, q.1.1.2, q.1.2, q.2⟩
  have B : ∀ i : Nat, i < 32 → bn_T h i = kn_b i := fun i hi => by
    have l := L i hi
    unfold bn_T kn_b ln_T
    rw [K.1 i (by omega), K.1 (i + 1) (by omega), K.2 _ (by omega), K.2 _ (by omega)]
  refine ⟨⟨by omega, ?_⟩, ⟨?_, fun i hi => ?_⟩, fun b hb => ?_, fun i hi => ?_, fun i j l t ij hj M N => ?_⟩
  · rw [e9, show (32 : Int).toNat = 32 by decide, K.1 32 (by omega), show ka_T 32 = 186 by decide]; decide
  · rw [K.1 0 (by omega)]; exact (L 0 (by omega)).2.2.1
  · rw [K.1 i (by omega), K.1 (i + 1) (by omega)]; exact (L i (by omega)).2.1
  · rw [eb b hb, e9, show (32 : Int).toNat = 32 by decide]
    have q := of_decide_eq_true (List.all_eq_true.1 kn_2 b (List.mem_range.2 hb))
    rw [q]
    exact pv_e 32 (fun i hi => (B i hi).symm)
  · rw [e8 i (by omega), (L i (by omega)).1, B i (by omega)]
    exact pv_e i (fun j hj => (B j (by omega)).symm)
  · have li := L i (by omega)
    have lj := L j (by omega)
    have q := List.all_eq_true.1 (List.all_eq_true.1 kn_4 j (List.mem_range.2 (by omega))) i (List.mem_range.2 ij)
    have m1 := M.1
    have n1 := N.1
    unfold ln_T at m1 n1
    rw [K.1 i (by omega), K.1 (i + 1) (by omega)] at m1
    rw [K.1 j (by omega), K.1 (j + 1) (by omega)] at n1
    rw [decide_eq_true (show ka_T (i + 1) - ka_T i = ka_T (j + 1) - ka_T j by omega)] at q
    simp only [Bool.not_true, Bool.false_or, List.any_eq_true, List.mem_range, Bool.not_eq_true', decide_eq_false_iff_not] at q
    obtain ⟨k, k1, k2⟩ := q
    apply k2
    have a := M.2 k (by omega)
    have b := N.2 k (by omega)
    rw [K.1 i (by omega), K.2 _ (by omega)] at a
    rw [K.1 j (by omega), K.2 _ (by omega)] at b
    rw [a, b]
theorem sp_51 : ∀ (k : Nat) (l2 l3 l4 : Int) (h : ms_M), Pc (qw_X9_scan_51 nn k l2 l3 l4 h) (fun u => u 2 10 = h 2 10 ∧ u 2 11 = h 2 11 ∧ u 2 12 = h 2 12) := by
  intro k
  induction k with
  | zero => intros; exact pc_none
  | succ k ih =>
    intro l2 l3 l4 h
    have E : Pc (qj_X9_scan_102 nn l2 h) (fun u => u 2 10 = h 2 10 ∧ u 2 11 = h 2 11 ∧ u 2 12 = h 2 12) := by
      unfold qj_X9_scan_102
      refine pc_se ?_; intro u2 e2
      exact pc_ret ⟨(ff_X9_addToken nn) _ e2 2 10 rfl, (ff_X9_addToken nn) _ e2 2 11 rfl, (ff_X9_addToken nn) _ e2 2 12 rfl⟩
    unfold qw_X9_scan_51
    refine pc_if (fun _ => E) (fun _ => pc_if (fun _ => E) (fun _ => ?_))
    refine pc_se ?_; intro u4 e4
    have a : u4.2 2 10 = h 2 10 := (ff_X9_scanToken nn) _ e4 2 10 rfl
    have b : u4.2 2 11 = h 2 11 := (ff_X9_scanToken nn) _ e4 2 11 rfl
    have c : u4.2 2 12 = h 2 12 := (ff_X9_scanToken nn) _ e4 2 12 rfl
    refine pc_if (fun _ => ?_) (fun _ => ?_)
    · refine pc_xl ?_; intro v5 _
      refine pc_se ?_; intro u6 _
      refine pc_xl ?_; intro v7 _
      exact pc_imp (ih _ _ _ _) (fun u q => ⟨q.1.trans a, q.2.1.trans b, q.2.2.trans c⟩)
    · refine pc_se ?_; intro u9 e9
      exact pc_ret ⟨((ff_X9_addToken nn) _ e9 2 10 rfl).trans a, ((ff_X9_addToken nn) _ e9 2 11 rfl).trans b, ((ff_X9_addToken nn) _ e9 2 12 rfl).trans c⟩
/-- what scan and tokenize leave -/
theorem tk_scan (K : KNB h) (Tc : TXc h A n) (Tr : TXr r A n) : Pc (qf_X9_scan nn (n : Int) h) (fun u => (u 2 10 = 0 ∧ u 2 11 = 0 ∧ u 2 12 = -1) ∧ Pc (qf_X13_tokenize nn r) (fun v => TKFn A n u v)) := by
  have n3 := Tc.1
  unfold qf_X9_scan
  refine pc_xl ?_; intro h13 e13
  refine pc_cpS ?_; intro h16 e16
  refine pc_xl ?_; intro h17 e17
  refine pc_xl ?_; intro h18 e18
  refine pc_xl ?_; intro h19 e19
  refine pc_xl ?_; intro h20 e20
  have F : ∀ c k : Nat, ¬ c = 2 → ¬ c = 9 → h20 c k = h c k := fun c k a b => by
    rw [e20, up_n (by omega), e19, up_n (by omega), e18, up_n (by omega), e17, up_n (by omega), e16, cp_ne b, e13, up_n (by omega)]
  have f9 : h20 2 9 = 32 := by
    rw [e20, up_n (by omega), e19, up_n (by omega), e18, up_n (by omega), e17, up_n (by omega), e16, cp_ne (by omega), e13, up_s]
  have f3 : h20 2 3 = 0 := by
    rw [e20, up_n (by omega), e19, up_n (by omega), e18, up_n (by omega), e17, up_s]
  have fp : h20 2 10 = 0 ∧ h20 2 11 = 0 ∧ h20 2 12 = -1 := by
    refine ⟨?_, ?_, ?_⟩
    · rw [e20, up_n (by omega), e19, up_n (by omega), e18, up_s]
    · rw [e20, up_n (by omega), e19, up_s]
    · rw [e20, up_s]
  have fb : ∀ b : Nat, b < 64 → h20 9 b = kk_T b := fun b hb => by
    rw [e20, up_n (by omega), e19, up_n (by omega), e18, up_n (by omega), e17, up_n (by omega), e16]
    unfold cp_M
    rw [if_pos ⟨rfl, Nat.zero_le _, by show b < (0 : Int).toNat + (64 : Int).toNat; omega⟩, e13, up_n (by omega)]
    have := K.2.2 b hb
    rw [show (0 : Int).toNat + (b - (0 : Int).toNat) = b by omega]; exact this
  have KT : KT_ h20 := ⟨fun i hi => by rw [F 7 i (by omega) (by omega)]; exact K.1.1 i hi, fun k hk => by rw [F 6 k (by omega) (by omega)]; exact K.1.2 k hk⟩
  have NT : NTB h20 := kn_ntb KT f9 (fun i hi => by rw [F 8 i (by omega) (by omega)]; exact K.2.1 i hi) fb
  have Tc2 : TXc h20 A n := tc_k Tc (fun i => F 1 i (by omega) (by omega))
  refine pc_sv (bb_c Tc2 (p := 0) rfl) ?_; intro u21 e21
  rw [e21]
  intro u eu
  refine ⟨?_, ?_⟩
  · have w := sp_51 _ _ _ _ _ u eu
    exact ⟨w.1.trans fp.1, w.2.1.trans fp.2.1, w.2.2.trans fp.2.2⟩
  unfold qf_X13_tokenize
  refine pc_xl ?_; intro h5 e5
  have Tr2 : TXr h5 A n := ⟨Tr.1, by rw [e5, up_n (by omega)]; exact Tr.2.1, fun i hi => by rw [e5, up_n (by omega)]; exact Tr.2.2 i hi⟩
  have J : JT A n 0 h20 h5 := by
    refine ⟨Tc2, Tr2, NT, KT, ⟨by rw [f3, e5, up_s], fun i hi => by omega⟩, ⟨by omega, by omega⟩, ⟨?_, fun i hi => by omega, fun i hi => by omega⟩, .inl (by omega)⟩
    rw [f9, show (32 : Int).toNat = 32 by decide, KT.1 32 (by omega), show ka_T 32 = 186 by decide]; omega
  have B := bk_q (A := A) (n := n) n 0 0 (by omega) (by omega)
  have R := rb_7 (nn := nn) (Q := fun v => TKFn A n u v) Tr2 nn 0 n (by omega) (by omega) (fun j2 => tk_loop nn j2 _ 0 h20 h5 (jt_b J) B.2 (by omega) u eu)
  exact R
end
end
