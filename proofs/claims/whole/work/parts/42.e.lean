/- TOKENS: class and reference, token by token -/
def kd_T (c : Int) : Int := if c = 0 then 5 else if c = 1 then 6 else if c = 2 then 1 else if c = 3 then 2 else if c < 40 then 3 else 4
/-- token i of both sides -/
def TK1 (h r : ms_M) (i : Nat) : Prop := r 163 i = kd_T (h 3 i) ∧ r 164 i = h 4 i ∧ (h 3 i = 0 ∨ h 3 i = 1 ∨ h 3 i = 2 ∨ h 3 i = 3 ∨ (10 ≤ h 3 i ∧ h 3 i ≤ 31) ∨ (40 ≤ h 3 i ∧ h 3 i ≤ 72)) ∧ (h 3 i = 3 → r 166 i = h 5 i ∧ 0 ≤ h 5 i) ∧ (10 ≤ h 3 i → h 3 i ≤ 31 → r 166 i = h 3 i - 10) ∧ (40 ≤ h 3 i → r 166 i = sv_T (h 3 i)) ∧ (h 3 i = 2 → ∃ j : Nat, h 5 i = (j : Int) ∧ (j : Int) < h 2 9 ∧ NMt h j (r 165 i) (fun k => r 162 ((r 164 i).toNat + k)) ∧ (1 ≤ r 165 i ∧ r 165 i ≤ 12) ∧ (0 ≤ r 164 i ∧ r 164 i + r 165 i ≤ 3000) ∧ ∀ k : Nat, (k : Int) < r 165 i → ¬ r 162 ((r 164 i).toNat + k) = 32)
def TKs (h r : ms_M) : Prop := h 2 3 = r 160 8 ∧ ∀ i : Nat, (i : Int) < h 2 3 → TK1 h r i
/-- one token more: class, reference -/
def AT_ (k p v : Int) (h u : ms_M) : Prop := u 2 3 = h 2 3 + 1 ∧ (u 3 (h 2 3).toNat = k ∧ u 4 (h 2 3).toNat = p ∧ u 5 (h 2 3).toNat = v) ∧ (∀ c i : Nat, (c = 3 ∨ c = 4 ∨ c = 5) → ¬ i = (h 2 3).toNat → u c i = h c i) ∧ ∀ c i : Nat, ¬ (c = 3 ∨ c = 4 ∨ c = 5 ∨ (c = 2 ∧ i = 3)) → u c i = h c i
def RT_ (k b w v : Int) (r u : ms_M) : Prop := u 160 8 = r 160 8 + 1 ∧ (u 163 (r 160 8).toNat = k ∧ u 164 (r 160 8).toNat = b ∧ u 165 (r 160 8).toNat = w ∧ u 166 (r 160 8).toNat = v) ∧ (∀ c i : Nat, (163 ≤ c ∧ c ≤ 166) → ¬ i = (r 160 8).toNat → u c i = r c i) ∧ ∀ c i : Nat, ¬ ((163 ≤ c ∧ c ≤ 166) ∨ (c = 160 ∧ i = 8)) → u c i = r c i
/-- the tokens' places rise; behind the word class no part of a name follows at once -/
def POS (A : Nat → Int) (n p : Nat) (h : ms_M) : Prop := (∀ i : Nat, (i : Int) + 1 < h 2 3 → 0 ≤ h 4 i ∧ h 4 i + 1 ≤ h 4 (i + 1) ∧ (h 3 i = 13 → h 3 (i + 1) = 2 → h 4 i + 6 ≤ h 4 (i + 1)) ∧ (h 3 i = 11 → h 4 i + 5 ≤ h 4 (i + 1))) ∧ ∀ i : Nat, (i : Int) + 1 = h 2 3 → 0 ≤ h 4 i ∧ h 4 i + 1 ≤ (p : Int) ∧ (h 3 i = 13 → h 4 i + 6 ≤ (p : Int) ∨ (h 4 i + 5 ≤ (p : Int) ∧ (p = n ∨ ¬ np_T (A p)))) ∧ (h 3 i = 11 → h 4 i + 5 ≤ (p : Int))
/-- room for names -/
def CAP (A : Nat → Int) (n p : Nat) (h : ms_M) : Prop := (h 7 (h 2 9).toNat ≤ 186 + (p : Int) ∧ POS A n p h) ∧ (2 * (h 2 9 - 32) ≤ (p : Int) ∨ (2 * (h 2 9 - 32) ≤ (p : Int) + 1 ∧ (p = n ∨ ¬ np_T (A p))))
/-- both have read the text up to p -/
def JT (A : Nat → Int) (n p : Nat) (h r : ms_M) : Prop := TXc h A n ∧ TXr r A n ∧ NTB h ∧ KT_ h ∧ TKs h r ∧ ((0 ≤ h 2 3 ∧ h 2 3 ≤ (p : Int)) ∧ p ≤ n) ∧ CAP A n p h
/-- what the class's token at p tells of the reference's: a token and on, or BAD -/
def TSP (nn : Nat) (A : Nat → Int) (n p : Nat) (h r : ms_M) (qk : Int → ms_M → Option ms_M) (u : Int × ms_M) : Prop := (∃ q : Nat, (p < q ∧ q ≤ n) ∧ u.1 = (q : Int) - p ∧ TXc u.2 A n ∧ ∀ Q : ms_M → Prop, (∀ r2, JT A n q u.2 r2 → Pc (qk (q : Int) r2) Q) → Pc (qj_X13_tokenize_83 nn qk (p : Int) (A p) r) Q) ∨ (u.1 = 0 ∧ u.2 = h ∧ ∀ Q : ms_M → Prop, (∀ r2 w v, RT_ 6 (p : Int) w v r r2 → Pc (qw_X13_tokenize_400 nn nn (r2 160 8) r2) Q) → Pc (qj_X13_tokenize_83 nn qk (p : Int) (A p) r) Q)
section
variable {nn : Nat} {h g r h2 r2 : ms_M} {A : Nat → Int} {n p : Nat} {qk : Int → ms_M → Option ms_M}
theorem pos_s {h g h2 : ms_M} {A : Nat → Int} {n p : Nat} {k b v : Int} (H : POS A n p h) (h0 : 0 ≤ h 2 3) (e2 : g 2 3 = h 2 3) (e3 : ∀ i, g 3 i = h 3 i) (e4 : ∀ i, g 4 i = h 4 i) (A2 : AT_ k b v g h2) (hb : (p : Int) ≤ b) (hk : k = 2 → p < n ∧ np_T (A p)) {q : Nat} (hq : b < (q : Int)) (hk2 : k = 13 → b + 5 ≤ (q : Int) ∧ (q = n ∨ ¬ np_T (A q))) (hk3 : k = 11 → b + 5 ≤ (q : Int)) : POS A n q h2 := by
  obtain ⟨a1, ⟨a2, a3, -⟩, a4, -⟩ := A2
  rw [e2] at a1 a2 a3 a4
  have S : ∀ i : Nat, (i : Int) < h 2 3 → h2 3 i = h 3 i ∧ h2 4 i = h 4 i := fun i hi => ⟨by rw [a4 3 i (by omega) (by omega), e3], by rw [a4 4 i (by omega) (by omega), e4]⟩
  refine ⟨fun i hi => ?_, fun i hi => ?_⟩
  · by_cases z : (i : Int) + 1 < h 2 3
    · rw [(S i (by omega)).1, (S i (by omega)).2, (S (i + 1) (by omega)).1, (S (i + 1) (by omega)).2]
      exact H.1 i z
    · have L := H.2 i (by omega)
      rw [(S i (by omega)).1, (S i (by omega)).2, show i + 1 = (h 2 3).toNat by omega, a2, a3]
      refine ⟨L.1, by omega, fun k13 k2 => ?_, fun k11 => by have := L.2.2.2 k11; omega⟩
      have L3 := hk k2
      rcases L.2.2.1 k13 with L2 | ⟨L2, L4⟩
      · omega
      · rcases L4 with L4 | L4
        · omega
        · exact absurd L3.2 L4
  · rw [show i = (h 2 3).toNat by omega, a2, a3]
    exact ⟨by omega, by omega, fun k13 => .inr (hk2 k13), hk3⟩
theorem at_c {k p v : Int} (hc : 0 ≤ h 2 3 ∧ h 2 3 ≤ 3000) : Pc (qf_X9_addToken nn k p v h) (AT_ k p v h) := by
  unfold qf_X9_addToken
  refine pc_if (fun c => absurd c (by omega)) (fun _ => ?_)
  refine pc_wA ?_; intro i1 i2 h6 e6
  have c6 : h6 2 3 = h 2 3 := by rw [e6]; exact up_n (by omega)
  rw [c6]
  refine pc_wA ?_; intro j1 j2 h9 e9
  have c9 : h9 2 3 = h 2 3 := by rw [e9, up_n (by omega)]; exact c6
  rw [c9]
  refine pc_wA ?_; intro k1 k2 h12 e12
  have c12 : h12 2 3 = h 2 3 := by rw [e12, up_n (by omega)]; exact c9
  rw [c12]
  refine pc_add (by omega) ?_; intro v14 e14
  refine pc_xl ?_; intro h15 e15
  refine pc_ret ⟨by rw [e15, up_s]; exact e14, ⟨?_, ?_, ?_⟩, fun c i hc hi => ?_, fun c i hc => ?_⟩
  · rw [e15, up_n (by omega), e12, up_n (by omega), e9, up_n (by omega), e6, up_s]
  · rw [e15, up_n (by omega), e12, up_n (by omega), e9, up_s]
  · rw [e15, up_n (by omega), e12, up_s]
  · rw [e15, up_n (by omega), e12, up_n (by omega), e9, up_n (by omega), e6, up_n (by omega)]
  · rw [e15, up_n (by omega), e12, up_n (by omega), e9, up_n (by omega), e6, up_n (by omega)]
theorem rt_c {k b w v : Int} (hr : 0 ≤ r 160 8 ∧ r 160 8 ≤ 3001) : Pc (qf_X13_token nn k b w v r) (RT_ k b w v r) := by
  unfold qf_X13_token
  refine pc_wA ?_; intro i1 i2 h3 e3
  have c3 : h3 160 8 = r 160 8 := by rw [e3]; exact up_n (by omega)
  rw [c3]
  refine pc_wA ?_; intro j1 j2 h6 e6
  have c6 : h6 160 8 = r 160 8 := by rw [e6, up_n (by omega)]; exact c3
  rw [c6]
  refine pc_wA ?_; intro k1 k2 h9 e9
  have c9 : h9 160 8 = r 160 8 := by rw [e9, up_n (by omega)]; exact c6
  rw [c9]
  refine pc_wA ?_; intro l1 l2 h12 e12
  have c12 : h12 160 8 = r 160 8 := by rw [e12, up_n (by omega)]; exact c9
  rw [c12]
  refine pc_add (by omega) ?_; intro v14 e14
  refine pc_xl ?_; intro h15 e15
  refine pc_ret ⟨by rw [e15, up_s]; exact e14, ⟨?_, ?_, ?_, ?_⟩, fun c i hc hi => ?_, fun c i hc => ?_⟩
  · rw [e15, up_n (by omega), e12, up_n (by omega), e9, up_n (by omega), e6, up_n (by omega), e3, up_s]
  · rw [e15, up_n (by omega), e12, up_n (by omega), e9, up_n (by omega), e6, up_s]
  · rw [e15, up_n (by omega), e12, up_n (by omega), e9, up_s]
  · rw [e15, up_n (by omega), e12, up_s]
  · rw [e15, up_n (by omega), e12, up_n (by omega), e9, up_n (by omega), e6, up_n (by omega), e3, up_n (by omega)]
  · rw [e15, up_n (by omega), e12, up_n (by omega), e9, up_n (by omega), e6, up_n (by omega), e3, up_n (by omega)]
theorem kt_x (T : NTB h) (K : KT_ h) (X : NXt h g) : KT_ g := by
  have t0 := T.1.1
  have a := ntb_7 T 32 (h 2 9).toNat (by omega) (by omega)
  rw [K.1 32 (by omega), show ka_T 32 = 186 by decide] at a
  exact ⟨fun i hi => by rw [X.2.1 i (by omega)]; exact K.1 i hi, fun k hk => by rw [X.2.2.1 k (by omega)]; exact K.2 k hk⟩
/-- an earlier token stays -/
theorem tk1_k (T : NTB h) (X : NXt h h2) {i : Nat} (e3 : h2 3 i = h 3 i) (e4 : h2 4 i = h 4 i) (e5 : h2 5 i = h 5 i) (f3 : r2 163 i = r 163 i) (f4 : r2 164 i = r 164 i) (f5 : r2 165 i = r 165 i) (f6 : r2 166 i = r 166 i) (f2 : ∀ k, r2 162 k = r 162 k) (K : TK1 h r i) : TK1 h2 r2 i := by
  obtain ⟨k1, k2, k3, k4, k5, k6, k7⟩ := K
  unfold TK1
  rw [e3, e4, e5, f3, f4, f5, f6]
  refine ⟨k1, k2, k3, k4, k5, k6, fun z => ?_⟩
  obtain ⟨j, j1, j2, j3, j4, j5, j6⟩ := k7 z
  have F : (fun k => r2 162 ((r 164 i).toNat + k)) = (fun k => r 162 ((r 164 i).toNat + k)) := funext (fun k => f2 _)
  refine ⟨j, j1, by have := X.1; omega, by rw [F]; exact nmt_x T X j2 j3, j4, j5, fun k hk => by rw [f2]; exact j6 k hk⟩
theorem tks_a (T : NTB h) (X : NXt h g) (e23 : g 2 3 = h 2 3) (eg : ∀ c i : Nat, (c = 3 ∨ c = 4 ∨ c = 5) → g c i = h c i) {k p v a b w y : Int} (h0 : 0 ≤ h 2 3) (K : TKs h r) (A1 : AT_ k p v g h2) (R1 : RT_ a b w y r r2) (n1 : TK1 h2 r2 (h 2 3).toNat) : TKs h2 r2 := by
  obtain ⟨k1, k2⟩ := K
  obtain ⟨a1, a2, a3, a4⟩ := A1
  obtain ⟨b1, b2, b3, b4⟩ := R1
  refine ⟨by omega, fun i hi => ?_⟩
  by_cases z : i = (h 2 3).toNat
  · rw [z]; exact n1
  · have X2 : NXt h h2 := by
      obtain ⟨x1, x2, x3, x4⟩ := X
      refine ⟨by rw [a4 2 9 (by omega)]; exact x1, fun i hi => by rw [a4 7 i (by omega)]; exact x2 i hi, fun i hi => by rw [a4 6 i (by omega)]; exact x3 i hi, fun i hi => by rw [a4 8 i (by omega)]; exact x4 i hi⟩
    refine tk1_k T X2 ?_ ?_ ?_ (b3 163 i (by omega) (by omega)) (b3 164 i (by omega) (by omega)) (b3 165 i (by omega) (by omega)) (b3 166 i (by omega) (by omega)) (fun k => b4 162 k (by omega)) (k2 i (by omega))
    · rw [a3 3 i (by omega) (by omega)]; exact eg 3 i (by omega)
    · rw [a3 4 i (by omega) (by omega)]; exact eg 4 i (by omega)
    · rw [a3 5 i (by omega) (by omega)]; exact eg 5 i (by omega)
theorem ntb_k (T : NTB g) (e : ∀ c i : Nat, ¬ (c = 3 ∨ c = 4 ∨ c = 5 ∨ (c = 2 ∧ i = 3)) → h2 c i = g c i) : NTB h2 := by
  have f7 : h2 7 = g 7 := funext (fun i => e 7 i (by omega))
  have f6 : h2 6 = g 6 := funext (fun i => e 6 i (by omega))
  have f8 : h2 8 = g 8 := funext (fun i => e 8 i (by omega))
  have f9 : h2 9 = g 9 := funext (fun i => e 9 i (by omega))
  have f2 : h2 2 9 = g 2 9 := e 2 9 (by omega)
  have fb : bn_T h2 = bn_T g := funext (fun i => by unfold bn_T ln_T; rw [f7, f6])
  have fn : ∀ i l t, NMt h2 i l t → NMt g i l t := fun i l t N => by
    unfold NMt ln_T at *; rw [f7, f6] at N; exact N
  obtain ⟨t1, t2, t3, t4, t5⟩ := T
  refine ⟨by rw [f2, f7]; exact t1, by rw [f2, f7]; exact t2, by rw [f2, f9, fb]; exact t3, by rw [f2, f8, fb]; exact t4, fun i j l t a b c d => t5 i j l t a (by rw [← f2]; exact b) (fn _ _ _ c) (fn _ _ _ d)⟩
theorem kt_k (K : KT_ g) (e : ∀ c i : Nat, ¬ (c = 3 ∨ c = 4 ∨ c = 5 ∨ (c = 2 ∧ i = 3)) → h2 c i = g c i) : KT_ h2 := ⟨fun i hi => by rw [e 7 i (by omega)]; exact K.1 i hi, fun k hk => by rw [e 6 k (by omega)]; exact K.2 k hk⟩
/-- behind the reference's token -/
theorem r378 {l1 l3 : Int} {k b w v : Int} {Q : ms_M → Prop} (R : RT_ k b w v r r2) (hr : 0 ≤ r 160 8 ∧ r 160 8 ≤ 3001) (hl : (0 ≤ l1 ∧ l1 ≤ 3000) ∧ (0 ≤ l3 ∧ l3 ≤ 3000)) (hk : ¬ k = 6) (H : Pc (qk (l1 + l3) r2) Q) : Pc (qj_X13_tokenize_378 nn qk l1 l3 r2) Q := by
  obtain ⟨b1, b2, b3, b4⟩ := R
  unfold qj_X13_tokenize_378
  refine pc_sub (by omega) ?_; intro v15 e15
  refine pc_rA ?_; intro i1 i2 v16 e16
  rw [show v15.toNat = (r 160 8).toNat by omega, b2.1] at e16
  refine pc_if (fun _ => ?_) (fun z => absurd (by omega) z)
  refine pc_add (by omega) ?_; intro v17 e17
  rw [e17]; exact H
theorem r378b {l1 l3 : Int} {b w v : Int} {Q : ms_M → Prop} (R : RT_ 6 b w v r r2) (hr : 0 ≤ r 160 8 ∧ r 160 8 ≤ 3001) (H : Pc (qw_X13_tokenize_400 nn nn (r2 160 8) r2) Q) : Pc (qj_X13_tokenize_378 nn qk l1 l3 r2) Q := by
  obtain ⟨b1, b2, b3, b4⟩ := R
  unfold qj_X13_tokenize_378
  refine pc_sub (by omega) ?_; intro v15 e15
  refine pc_rA ?_; intro i1 i2 v16 e16
  rw [show v15.toNat = (r 160 8).toNat by omega, b2.1] at e16
  exact pc_if (fun z => absurd e16 z) (fun _ => H)
theorem kl_12 : (List.range 32).all (fun i => decide ((kl_T i).length ≤ 12)) = true := by decide
/-- a long word is none of the list -/
theorem am_l {a n0 o m : Nat} {p n : Int} (K : kw_T a n0 o m = true) (ho : o + m ≤ 32) {u : Int} (hn : 12 < n) (hs : ∀ k : Nat, (k : Int) < n → ¬ r 162 (p.toNat + k) = 32) (S : AMS a n0 p n r u) : u = -1 := by
  rcases S with ⟨s1, -⟩ | ⟨k, ⟨s1, s2, s3, s4⟩, s5⟩
  · exact s1
  · exfalso
    obtain ⟨j, j1, j2, j3, j4, j5⟩ := kw_k K (k := k) (by omega) s1
    have l12 := of_decide_eq_true (List.all_eq_true.1 kl_12 (o + j) (List.mem_range.2 (by omega)))
    have y : ((kl_T (o + j)).length : Int) < n := by omega
    refine hs _ y ?_
    rw [← s4 _ y, show (k : Int) + 1 + (kl_T (o + j)).length = (k : Int) + (kl_T (o + j)).length + 1 by omega]; exact j4
theorem tc_k (T : TXc h A n) (e : ∀ i, g 1 i = h 1 i) : TXc g A n := ⟨T.1, fun i hi => by rw [e]; exact T.2 i hi⟩
theorem tr_k {k b w v : Int} (T : TXr r A n) (R : RT_ k b w v r r2) : TXr r2 A n := ⟨T.1, by rw [R.2.2.2 160 3 (by omega)]; exact T.2.1, fun i hi => by rw [R.2.2.2 162 i (by omega)]; exact T.2.2 i hi⟩
theorem ln_h1 : ln_I h 1 = 6000 := rfl
/-- words -/
theorem ts_word (J : JT A n p h r) (hp : p < n) (hl : lt_T (A p)) : Pc (qf_X9_scanWord nn (n : Int) (p : Int) h) (TSP nn A n p h r qk) := by
  obtain ⟨Tc, Tr, NT, KT, TK, ⟨c0, pn⟩, C⟩ := J
  have n3 := Tc.1
  have nt0 := NT.1
  have tk0 := TK.1
  obtain ⟨⟨q1, q2⟩, q3, q4⟩ := we_q (A := A) (n := n) n p (by omega) pn
  have qp : p < we_T A n n p := by
    by_cases z : we_T A n n p = p
    · exfalso; rw [z] at q3; omega
    · omega
  unfold qf_X9_scanWord
  refine wc_3 Tc nn p n (by omega) ?_
  generalize hq : we_T A n n p = q at *
  -- the text of both sides
  have tx : ∀ k : Nat, (k : Int) < (q : Int) - p → h 1 (((p : Int)).toNat + k) = r 162 (((p : Int)).toNat + k) ∧ np_T (r 162 (((p : Int)).toNat + k)) := fun k hk => by
    rw [Int.toNat_natCast]
    have a := Tc.2 (p + k) (by omega)
    have b := Tr.2.2 (p + k) (by omega)
    have c := q4 (p + k) (by omega) (by omega)
    rw [b.2]
    exact ⟨by omega, c⟩
  have sp : ∀ k : Nat, (k : Int) < (q : Int) - p → ¬ r 162 (((p : Int)).toNat + k) = 32 := fun k hk => by
    have := (tx k hk).2; omega
  -- the reference up to among
  have RF : ∀ {Q : ms_M → Prop}, (∀ u79, AMS (1000000000 + 2) 133 (p : Int) ((q : Int) - p) r u79 → Pc (if u79 < 0 then (if 12 < (q : Int) - p then (qj_X13_tokenize_169 nn qk (p : Int) ((q : Int) - p) u79 6 r) else (qj_X13_tokenize_169 nn qk (p : Int) ((q : Int) - p) u79 1 r)) else (qj_X13_tokenize_169 nn qk (p : Int) ((q : Int) - p) u79 3 r)) Q) → Pc (qj_X13_tokenize_83 nn qk (p : Int) (A p) r) Q := fun {Q} H => by
    unfold qj_X13_tokenize_83
    refine pc_sv r_letter ?_; intro u86 q86
    refine pc_if (fun z => absurd z (by omega)) (fun _ => ?_)
    refine wr_92 Tr nn p n 0 (by omega) (by omega) pn (by omega) (fun c2 hc2 => ?_)
    rw [hq] at hc2
    rw [show c2 = (q : Int) - p by omega]
    refine pc_sv (aq_c XT_2 (by omega) (by omega)) ?_; intro u79 q79
    exact H u79 q79
  unfold qj_X9_scanWord_25
  refine pc_sub (by omega) ?_; intro v6 e6
  rw [e6]
  refine pc_if (fun c12 => ?_) (fun c12 => ?_)
  · refine pc_se ?_; intro u8 e8
    have N8 := no_c (nn := nn) NT (a1 := 1) (a2 := (p : Int)) (l := (q : Int) - p) (t := fun k => r 162 (((p : Int)).toNat + k)) (by have := C.2; omega) (by omega) (by omega) (by have := C.1; omega) (by rw [ln_h1]; omega) (fun k hk => (tx k hk).1) _ e8
    obtain ⟨i, i1, i2, i3, i4, i5, i6, i7⟩ := N8
    have s23 : u8.2 2 3 = h 2 3 := (ff_X9_nameOf nn) _ e8 2 3 rfl
    have s3 : ∀ i : Nat, u8.2 3 i = h 3 i := fun i => (ff_X9_nameOf nn) _ e8 3 i (nw_ar rfl i)
    have s4 : ∀ i : Nat, u8.2 4 i = h 4 i := fun i => (ff_X9_nameOf nn) _ e8 4 i (nw_ar rfl i)
    have s5 : ∀ i : Nat, u8.2 5 i = h 5 i := fun i => (ff_X9_nameOf nn) _ e8 5 i (nw_ar rfl i)
    have s1 : ∀ i : Nat, u8.2 1 i = h 1 i := fun i => (ff_X9_nameOf nn) _ e8 1 i (nw_ar rfl i)
    have G : ∀ s0 : Int, ((s0 = 2 ∧ ¬ (9 ≤ i ∧ i < 9 + 22)) ∨ ((9 ≤ i ∧ i < 9 + 22) ∧ s0 = (i : Int) + 1)) → Pc (qj_X9_scanWord_89 nn (p : Int) ((q : Int) - p) u8.1 s0 u8.2) (TSP nn A n p h r qk) := fun s0 hs0 => by
      unfold qj_X9_scanWord_89
      refine pc_se ?_; intro u2 e2
      have A2 := at_c (h := u8.2) (by omega) _ e2
      refine pc_ret (.inl ⟨q, ⟨qp, q2⟩, rfl, tc_k (tc_k Tc s1) (fun i => A2.2.2.2 1 i (by omega)), fun Q H => RF (fun u79 S => ?_)⟩)
      have I := am_id kw_2 (by decide) i4 (kt_x NT KT i5) (by omega) i2 i3 sp S
      -- the token
      have FIN : ∀ (a y : Int) (rr : ms_M), ((a = 1 ∧ s0 = 2) ∨ (a = 3 ∧ 10 ≤ s0 ∧ s0 ≤ 31 ∧ y = s0 - 10)) → RT_ a (p : Int) ((q : Int) - p) y r rr → JT A n q u2 rr := fun a y rr ha R => by
        clear I S
        have X2 : NXt h u2 := by
          obtain ⟨x1, x2, x3, x4⟩ := i5
          exact ⟨by rw [A2.2.2.2 2 9 (by omega)]; exact x1, fun i hi => by rw [A2.2.2.2 7 i (by omega)]; exact x2 i hi, fun i hi => by rw [A2.2.2.2 6 i (by omega)]; exact x3 i hi, fun i hi => by rw [A2.2.2.2 8 i (by omega)]; exact x4 i hi⟩
        have eN : (u8.2 2 3).toNat = (h 2 3).toNat := by rw [s23]
        have eR : (r 160 8).toNat = (h 2 3).toNat := by rw [TK.1]
        obtain ⟨w1, w2, w3⟩ := A2.2.1
        obtain ⟨y1, y2, y3, y4⟩ := R.2.1
        rw [eN] at w1 w2 w3
        rw [eR] at y1 y2 y3 y4
        have f9 : u2 2 9 = u8.2 2 9 := A2.2.2.2 2 9 (by omega)
        have f7 : ∀ k, u2 7 k = u8.2 7 k := fun k => A2.2.2.2 7 k (by omega)
        have f6 : ∀ k, u2 6 k = u8.2 6 k := fun k => A2.2.2.2 6 k (by omega)
        have N1 : TK1 u2 rr (h 2 3).toNat := by
          unfold TK1
          rw [w1, w2, w3, y1, y2, y3, y4]
          refine ⟨?_, rfl, by omega, fun z => by omega, fun z1 z2 => by omega, fun z => by omega, fun z => ?_⟩
          · unfold kd_T
            rcases ha with ⟨ha1, ha2⟩ | ⟨ha1, ha2, ha3, ha4⟩
            · rw [if_neg (by omega), if_neg (by omega), if_pos ha2]; exact ha1
            · rw [if_neg (by omega), if_neg (by omega), if_neg (by omega), if_neg (by omega), if_pos (by omega)]; exact ha1
          · refine ⟨i, i1, by omega, ⟨?_, fun k hk => ?_⟩, by omega, by omega, fun k hk => ?_⟩
            · have := i3.1; unfold ln_T at *; rw [f7, f7]; exact this
            · have := i3.2 k hk; show u2 6 ((u2 7 i).toNat + k) = rr 162 (((p : Int)).toNat + k); rw [f7, f6, R.2.2.2 162 _ (by omega)]; exact this
            · rw [R.2.2.2 162 _ (by omega)]; exact sp k hk
        refine ⟨tc_k (tc_k Tc s1) (fun i => A2.2.2.2 1 i (by omega)), tr_k Tr R, ntb_k i4 A2.2.2.2, kt_k (kt_x NT KT i5) A2.2.2.2, tks_a NT i5 s23 (fun c k hc => ?_) c0.1 TK A2 R N1, ⟨by have := A2.1; omega, q2⟩, ?_⟩
        · rcases hc with hc | hc | hc
          · rw [hc]; exact s3 k
          · rw [hc]; exact s4 k
          · rw [hc]; exact s5 k
        · refine ⟨⟨by rw [f9, f7]; have := C.1; omega, pos_s C.1.2 c0.1 s23 s3 s4 A2 (by omega) (fun _ => ⟨hp, by omega⟩) (by omega) (fun z13 => ?_) (fun z11 => ?_)⟩, .inr ⟨?_, q3⟩⟩
          · have KU := kt_x NT KT i5
            have l3 := i3.1
            unfold ln_T at l3
            rw [show i = 12 by omega, KU.1 (12 + 1) (by decide), KU.1 12 (by decide), show ka_T (12 + 1) = 96 by decide, show ka_T 12 = 91 by decide] at l3
            exact ⟨by omega, q3⟩
          · have KU := kt_x NT KT i5
            have l3 := i3.1
            unfold ln_T at l3
            rw [show i = 10 by omega, KU.1 (10 + 1) (by decide), KU.1 10 (by decide), show ka_T (10 + 1) = 86 by decide, show ka_T 10 = 81 by decide] at l3
            omega
          rw [f9]
          have := C.2
          omega
      have hr8 : 0 ≤ r 160 8 ∧ r 160 8 ≤ 3001 := by omega
      unfold qj_X13_tokenize_169
      rcases I with ⟨I1, I2⟩ | ⟨j, I1, I2, I3⟩
      · refine pc_if (fun _ => ?_) (fun z => absurd (by omega) z)
        refine pc_if (fun z => absurd z (by omega)) (fun _ => ?_)
        refine pc_sv (rt_c hr8) ?_; intro u64 R
        refine r378 R hr8 (by omega) (by decide) ?_
        rw [show (p : Int) + ((q : Int) - p) = (q : Int) by omega]
        exact H u64 (FIN 1 _ u64 (.inl ⟨rfl, by omega⟩) R)
      · refine pc_if (fun z => absurd z (by omega)) (fun _ => ?_)
        refine pc_sv (rt_c hr8) ?_; intro u64 R
        refine r378 R hr8 (by omega) (by decide) ?_
        rw [show (p : Int) + ((q : Int) - p) = (q : Int) by omega]
        exact H u64 (FIN 3 _ u64 (.inr ⟨rfl, by omega, by omega, by omega⟩) R)
    refine pc_if (fun z => ?_) (fun z => ?_)
    · unfold qj_X9_scanWord_68 qj_X9_scanWord_69
      exact pc_if (fun _ => G 2 (.inl ⟨rfl, by omega⟩)) (fun y => absurd rfl y)
    · refine pc_if (fun z2 => ?_) (fun z2 => ?_)
      · unfold qj_X9_scanWord_68 qj_X9_scanWord_69
        exact pc_if (fun _ => G 2 (.inl ⟨rfl, by omega⟩)) (fun y => absurd rfl y)
      · unfold qj_X9_scanWord_69
        refine pc_if (fun y => absurd y (by decide)) (fun _ => ?_)
        refine pc_add (by omega) ?_; intro v3 e3
        refine pc_sub (by omega) ?_; intro v4 e4
        exact G v4 (.inr ⟨by omega, by omega⟩)
  · refine pc_ret (.inr ⟨rfl, rfl, fun Q H => RF (fun u79 S => ?_)⟩)
    have I := am_l kw_2 (by decide) (by omega) sp S
    have hr8 : 0 ≤ r 160 8 ∧ r 160 8 ≤ 3001 := by omega
    refine pc_if (fun _ => ?_) (fun z => absurd (by omega) z)
    refine pc_if (fun _ => ?_) (fun z => absurd (by omega) z)
    unfold qj_X13_tokenize_169
    refine pc_sv (rt_c hr8) ?_; intro u64 R
    exact r378b R hr8 (H u64 _ _ R)
end
