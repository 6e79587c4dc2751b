/- TOKENS: all of them -/
/-- both have read the whole text -/
def TKFn (A : Nat → Int) (n : Nat) (u v : ms_M) : Prop := NTB u ∧ KT_ u ∧ TKs u v ∧ ((1 ≤ u 2 3 ∧ u 2 3 ≤ 3001) ∧ u 3 (u 2 3 - 1).toNat ≤ 1) ∧ (∀ i : Nat, u 2 3 ≤ (i : Int) → (i : Int) < u 2 3 + 4 → v 163 i = 5) ∧ TXr v A n ∧ (u 2 9 ≤ 1532 ∧ u 7 (u 2 9).toNat ≤ 3186) ∧ POS A n (n + 1) u
section
variable {nn : Nat} {h g r h2 r2 : ms_M} {A : Nat → Int} {n p : Nat}
theorem fl4_449 : ∀ (k i : Nat) (r : ms_M), (0 ≤ r 160 8 ∧ r 160 8 ≤ 3002) → r 160 8 ≤ (i : Int) → (i : Int) ≤ r 160 8 + 4 → Pc (qw_X13_tokenize_449 nn k (i : Int) r) (fun v => (∀ c j : Nat, ¬ (c = 163 ∧ i ≤ j) → v c j = r c j) ∧ ∀ j : Nat, i ≤ j → (j : Int) < r 160 8 + 4 → v 163 j = 5) := by
  intro k
  induction k with
  | zero => intro i r h1 h2 h3; exact pc_none
  | succ k ih =>
    intro i r h1 h2 h3
    unfold qw_X13_tokenize_449
    refine pc_add (by omega) ?_; intro v2 e2
    refine pc_if (fun c => pc_ret ⟨fun _ _ _ => rfl, fun j a b => by omega⟩) (fun c => ?_)
    refine pc_wA ?_; intro i1 i2 h4 e4
    rw [Int.toNat_natCast] at e4
    refine pc_add (by omega) ?_; intro v5 e5
    have q8 : h4 160 8 = r 160 8 := by rw [e4]; exact up_n (by omega)
    rw [show v5 = ((i + 1 : Nat) : Int) by omega]
    refine pc_imp (ih (i + 1) h4 (by omega) (by omega) (by omega)) (fun v q => ⟨fun c j z => ?_, fun j a b => ?_⟩)
    · rw [q.1 c j (by omega), e4, up_n (by omega)]
    · by_cases z : j = i
      · rw [q.1 163 j (by omega), e4, z, up_s]
      · exact q.2 j (by omega) (by omega)
theorem fl4_400 : ∀ (k i : Nat) (r : ms_M), (0 ≤ r 160 8 ∧ r 160 8 ≤ 3002) → r 160 8 ≤ (i : Int) → (i : Int) ≤ r 160 8 + 4 → Pc (qw_X13_tokenize_400 nn k (i : Int) r) (fun v => (∀ c j : Nat, ¬ (c = 163 ∧ i ≤ j) → v c j = r c j) ∧ ∀ j : Nat, i ≤ j → (j : Int) < r 160 8 + 4 → v 163 j = 5) := by
  intro k
  induction k with
  | zero => intro i r h1 h2 h3; exact pc_none
  | succ k ih =>
    intro i r h1 h2 h3
    unfold qw_X13_tokenize_400
    refine pc_add (by omega) ?_; intro v2 e2
    refine pc_if (fun c => pc_ret ⟨fun _ _ _ => rfl, fun j a b => by omega⟩) (fun c => ?_)
    refine pc_wA ?_; intro i1 i2 h4 e4
    rw [Int.toNat_natCast] at e4
    refine pc_add (by omega) ?_; intro v5 e5
    have q8 : h4 160 8 = r 160 8 := by rw [e4]; exact up_n (by omega)
    rw [show v5 = ((i + 1 : Nat) : Int) by omega]
    refine pc_imp (ih (i + 1) h4 (by omega) (by omega) (by omega)) (fun v q => ⟨fun c j z => ?_, fun j a b => ?_⟩)
    · rw [q.1 c j (by omega), e4, up_n (by omega)]
    · by_cases z : j = i
      · rw [q.1 163 j (by omega), e4, z, up_s]
      · exact q.2 j (by omega) (by omega)
/-- the last token of both -/
theorem tk_end (J : JT A n p h r) {k a w y v b : Int} {u rr z : ms_M} (hk : (k = 0 ∧ a = 5) ∨ (k = 1 ∧ a = 6)) (hb : (p : Int) ≤ b ∧ b ≤ (n : Int)) (A2 : AT_ k b v h u) (R : RT_ a b w y r rr) (F : ∀ c j : Nat, ¬ (c = 163 ∧ (rr 160 8).toNat ≤ j) → z c j = rr c j) (E : ∀ j : Nat, (rr 160 8).toNat ≤ j → (j : Int) < rr 160 8 + 4 → z 163 j = 5) : TKFn A n u z := by
  obtain ⟨Tc, Tr, NT, KT, TK, ⟨c0, pn⟩, C⟩ := J
  have n3 := Tc.1
  have tk0 := TK.1
  have f9 : u 2 9 = h 2 9 := A2.2.2.2 2 9 (by omega)
  have f7 : ∀ k, u 7 k = h 7 k := fun k => A2.2.2.2 7 k (by omega)
  have a1 := A2.1
  have b1 := R.1
  have eR : (r 160 8).toNat = (h 2 3).toNat := by rw [TK.1]
  obtain ⟨x1, x2, x3⟩ := A2.2.1
  obtain ⟨y1, y2, y3, y4⟩ := R.2.1
  rw [eR] at y1 y2 y3 y4
  have N1 : TK1 u rr (h 2 3).toNat := by
    unfold TK1
    rw [x1, x2, x3, y1, y2, y3, y4]
    refine ⟨?_, rfl, by omega, fun z => by omega, fun z1 z2 => by omega, fun z => by omega, fun z => by omega⟩
    unfold kd_T
    rcases hk with ⟨k1, k2⟩ | ⟨k1, k2⟩
    · rw [if_pos k1]; exact k2
    · rw [if_neg (by omega), if_pos k1]; exact k2
  have K2 := tks_a NT nx_r rfl (fun _ _ _ => rfl) c0.1 TK A2 R N1
  have TR := tr_k Tr R
  have zz : z 160 8 = rr 160 8 := F 160 8 (by omega)
  refine ⟨ntb_k NT A2.2.2.2, kt_k KT A2.2.2.2, ⟨by rw [K2.1, zz], fun i hi => ?_⟩, ⟨by omega, ?_⟩, fun i a c => E i (by omega) (by omega), ⟨TR.1, by rw [F 160 3 (by omega)]; exact TR.2.1, fun i hi => by rw [F 162 i (by omega)]; exact TR.2.2 i hi⟩, ?_, pos_s C.1.2 c0.1 rfl (fun _ => rfl) (fun _ => rfl) A2 hb.1 (fun z => by omega) (by omega) (fun z => by omega) (fun z => by omega)⟩
  · have Q := K2.2 i hi
    have X0 : NXt u u := nx_r
    exact tk1_k (ntb_k NT A2.2.2.2) nx_r rfl rfl rfl (F 163 i (by omega)) (F 164 i (by omega)) (F 165 i (by omega)) (F 166 i (by omega)) (fun k => F 162 k (by omega)) Q
  · rw [a1, show (h 2 3 + 1 - 1).toNat = (h 2 3).toNat by omega, x1]; omega
  · rw [f9, f7]
    have := C.1
    have := C.2
    omega
/-- at a byte that is no blank -/
theorem r_83 (Tr : TXr r A n) (hp : p < n) (nb : ¬ A p = 32 ∧ ¬ A p = 10 ∧ ¬ (A p = 47 ∧ p + 1 < n ∧ A (p + 1) = 47)) {j : Nat} {Q : ms_M → Prop} (H : Pc (qj_X13_tokenize_83 nn (qw_X13_tokenize_7 nn j) (p : Int) (A p) r) Q) : Pc (qw_X13_tokenize_7 nn (j + 1) (p : Int) r) Q := by
  have n3 := Tr.1
  have t1 := Tr.2.1
  have t2 := Tr.2.2 p hp
  unfold qw_X13_tokenize_7
  refine pc_if (fun z => absurd z (by omega)) (fun _ => ?_)
  refine pc_rA ?_; intro i1 i2 v e
  rw [Int.toNat_natCast, t2.2] at e
  rw [e]
  refine pc_if (fun z => absurd z nb.1) (fun _ => ?_)
  refine pc_if (fun _ => ?_) (fun z => absurd nb.2.1 z)
  refine pc_if (fun _ => H) (fun z => ?_)
  refine pc_add (by omega) ?_; intro v6 e6
  refine pc_sv (r_at Tr (x := p + 1) (by omega)) ?_; intro u8 q8
  exact pc_if (fun _ => H) (fun y => absurd (by omega) y)
theorem jt_b (J : JT A n p h r) : JT A n (bk_T A n n 0 p) h r := by
  obtain ⟨Tc, Tr, NT, KT, TK, ⟨c0, pn⟩, C⟩ := J
  obtain ⟨⟨b1, b2⟩, b3⟩ := bk_q (A := A) (n := n) n 0 p (by omega) pn
  refine ⟨Tc, Tr, NT, KT, TK, ⟨by omega, b2⟩, ⟨by have := C.1; omega, C.1.2.1, fun i hi => ?_⟩, ?_⟩
  · have L := C.1.2.2 i hi
    refine ⟨L.1, by omega, fun k13 => ?_, fun k11 => by have := L.2.2.2 k11; omega⟩
    rcases L.2.2.1 k13 with M | ⟨M1, M2⟩
    · left; omega
    · by_cases z : bk_T A n n 0 p = p
      · rw [z]; exact .inr ⟨M1, M2⟩
      · left; omega
  have C2 := C.2
  by_cases z : bk_T A n n 0 p = p
  · rw [z]; exact C2
  · left; omega
theorem tk_loop : ∀ (k j p : Nat) (t : Int) (h r : ms_M), JT A n p h r → (p = n ∨ (¬ A p = 32 ∧ ¬ A p = 10 ∧ ¬ (A p = 47 ∧ p + 1 < n ∧ A (p + 1) = 47))) → (0 ≤ t ∧ t ≤ (p : Int)) → Pc (qw_X9_scan_51 nn k (n : Int) (p : Int) t h) (fun u => Pc (qw_X13_tokenize_7 nn j (p : Int) r) (fun v => TKFn A n u v)) := by
  intro k
  induction k with
  | zero => intro j p t h r J nb ht; exact pc_none
  | succ k ih =>
    intro j p t h r J nb ht
    have n3 := J.1.1
    have pn := J.2.2.2.2.2.1
    have tk0 := J.2.2.2.2.1.1
    have Tr := J.2.1
    cases j with
    | zero => exact fun u _ => pc_none
    | succ j =>
      have hr8 : 0 ≤ r 160 8 ∧ r 160 8 ≤ 3001 := by omega
      have E : p = n → Pc (qj_X9_scan_102 nn (n : Int) h) (fun u => Pc (qw_X13_tokenize_7 nn (j + 1) (p : Int) r) (fun v => TKFn A n u v)) := fun z => by
        have t1 := Tr.2.1
        unfold qj_X9_scan_102
        refine pc_se ?_; intro u2 e2
        have A2 := at_c (h := h) (by omega) _ e2
        refine pc_ret ?_
        unfold qw_X13_tokenize_7
        refine pc_if (fun _ => ?_) (fun y => absurd (by omega) y)
        rw [t1]
        refine pc_sv (rt_c hr8) ?_; intro u1 R
        have r8 := R.1
        rw [show u1 160 8 = (((u1 160 8).toNat : Nat) : Int) by omega]
        refine pc_imp (fl4_449 nn (u1 160 8).toNat u1 (by omega) (by omega) (by omega)) (fun v q => ?_)
        exact tk_end J (.inl ⟨rfl, rfl⟩) (by omega) A2 R q.1 q.2
      unfold qw_X9_scan_51
      refine pc_if (fun c => E (by omega)) (fun c => ?_)
      refine pc_if (fun c2 => E (by omega)) (fun c2 => ?_)
      have hp : p < n := by omega
      have nb : ¬ A p = 32 ∧ ¬ A p = 10 ∧ ¬ (A p = 47 ∧ p + 1 < n ∧ A (p + 1) = 47) := by
        rcases nb with q | q
        · omega
        · exact q
      refine pc_sv (ts_all (qk := qw_X13_tokenize_7 nn j) J hp) ?_; intro u4 q4
      refine pc_if (fun c3 => ?_) (fun c3 => ?_)
      · rcases q4 with ⟨q, ⟨q1, q2⟩, q3, qt, q5⟩ | ⟨q, -⟩
        · refine pc_add (by omega) ?_; intro v5 e5
          refine pc_sv (bb_c qt (p := q) (by omega)) ?_; intro u6 e6
          refine pc_add (by omega) ?_; intro v7 e7
          rw [e6]
          intro u eu
          refine r_83 Tr hp nb (q5 _ (fun r2 J2 => ?_))
          have B := bk_q (A := A) (n := n) n 0 q (by omega) q2
          refine rb_7 J2.2.1 j q n (by omega) q2 (fun j2 => ?_)
          exact ih j2 _ v7 u4.2 r2 (jt_b J2) B.2 (by omega) u eu
        · exact absurd q c3
      · rcases q4 with ⟨q, ⟨q1, q2⟩, q3, qt, q5⟩ | ⟨-, q2, q3⟩
        · exfalso; omega
        · rw [q2]
          refine pc_se ?_; intro u9 e9
          have A2 := at_c (h := h) (by omega) _ e9
          refine pc_ret ?_
          refine r_83 Tr hp nb (q3 _ (fun r2 w v R => ?_))
          have r8 := R.1
          rw [show r2 160 8 = (((r2 160 8).toNat : Nat) : Int) by omega]
          refine pc_imp (fl4_400 nn (r2 160 8).toNat r2 (by omega) (by omega) (by omega)) (fun v q => ?_)
          exact tk_end J (.inr ⟨rfl, rfl⟩) (by omega) A2 R q.1 q.2
end
