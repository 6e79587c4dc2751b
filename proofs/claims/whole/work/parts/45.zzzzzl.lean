/- THE LAW'S LEVEL: compile keeps the known names -/
/-- the known names stand, more may follow -/
def KNQ (h : ms_M) : Prop := 32 ≤ h 2 9 ∧ (186 ≤ h 7 (h 2 9).toNat ∧ h 7 (h 2 9).toNat ≤ 6400) ∧ KNB h
section
variable {nn : Nat} {h g r : ms_M}
theorem kQ_e (K : KNQ h) (a : r 2 9 = h 2 9) (b : ∀ k : Nat, r 6 k = h 6 k) (c : ∀ k : Nat, r 7 k = h 7 k) (d : ∀ k : Nat, r 8 k = h 8 k) (e : ∀ k : Nat, r 10 k = h 10 k) : KNQ r := by
  obtain ⟨k1, k2, ⟨k3, k4⟩, k5, k6⟩ := K
  refine ⟨by rw [a]; exact k1, by rw [a, c]; exact k2, ⟨fun i hi => by rw [c]; exact k3 i hi, fun k hk => by rw [b]; exact k4 k hk⟩, fun i hi => by rw [d]; exact k5 i hi, fun b hb => by rw [e]; exact k6 b hb⟩
theorem kQ_up {c k : Nat} {v : Int} (hc : ¬ (c = 2 ∧ k = 9) ∧ c ≠ 6 ∧ c ≠ 7 ∧ c ≠ 8 ∧ c ≠ 10) (K : KNQ h) : KNQ (up_M h c k v) :=
  kQ_e K (up_n (by omega)) (fun _ => up_n (by omega)) (fun _ => up_n (by omega)) (fun _ => up_n (by omega)) (fun _ => up_n (by omega))
theorem kQ_f {X : List Nat} {XF : List (Nat × Nat)} (F : ∀ c k, nw_F X XF false false c k = true → r c k = h c k) (q : (XF.contains (2, 9) || X.contains 2 || X.contains 6 || X.contains 7 || X.contains 8 || X.contains 10 || XF.any (fun p => p.1 == 6 || p.1 == 7 || p.1 == 8 || p.1 == 10)) = false) (K : KNQ h) : KNQ r := by
  have N : ∀ c k : Nat, (c = 2 ∧ k = 9) ∨ c = 6 ∨ c = 7 ∨ c = 8 ∨ c = 10 → nw_F X XF false false c k = true := fun c k w => by
    simp only [Bool.or_eq_false_iff] at q
    obtain ⟨⟨⟨⟨⟨⟨q1, q2⟩, q3⟩, q4⟩, q5⟩, q6⟩, q7⟩ := q
    unfold nw_F
    simp only [Bool.and_eq_true]
    refine ⟨?_, ?_, rfl, rfl⟩
    · rcases w with ⟨e, _⟩ | e | e | e | e <;> (rw [e]; simp_all)
    · cases hq : XF.contains (c, k) with
      | false => rfl
      | true =>
        exfalso
        rcases w with ⟨e, e2⟩ | w
        · rw [e, e2, q1] at hq; exact absurd hq (by decide)
        · have m := List.contains_iff_mem.mp hq
          have := List.any_eq_false.mp q7 _ m
          apply this
          rcases w with e | e | e | e <;> (rw [e]; rfl)
  exact kQ_e K (F 2 9 (N 2 9 (.inl ⟨rfl, rfl⟩))) (fun k => F 6 k (N 6 k (by omega))) (fun k => F 7 k (N 7 k (by omega))) (fun k => F 8 k (N 8 k (by omega))) (fun k => F 10 k (N 10 k (by omega)))
theorem pc_cs3 {α : Type} {Q : α → Prop} {M : ms_M} {a b : Nat} {sp dp n : Int} {G : ms_M → Option α} (q : 0 ≤ sp → 0 ≤ dp → 0 ≤ n → dp + n ≤ ln_I M b → ∀ z, z = cp_M M a sp.toNat b dp.toNat n.toNat → Pc (G z) Q) : Pc (cp_S a sp b dp n M G) Q := by
  unfold cp_S
  split
  · rename_i w
    exact q w.2.1 w.2.2.1 w.2.2.2.1 w.2.2.2.2.2 _ rfl
  · exact pc_none
theorem kQ_cl {a : Int} (K : KNQ h) (ha : 186 ≤ a ∧ a ≤ 6400) : Pc (qf_X9_closeName nn a h) KNQ := by
  obtain ⟨k1, k2, ⟨k3, k4⟩, k5, k6⟩ := K
  unfold qf_X9_closeName
  refine pc_rA ?_; intro i1 i2 v3 e3
  refine pc_xl ?_; intro v5 e5
  refine pc_se ?_; intro u6 e6
  refine pc_rA ?_; intro j1 j2 v10 e10
  refine pc_wA ?_; intro l1 l2 h11 e11
  have a11 : h11 2 9 = h 2 9 := by rw [e11, up_n (by omega)]
  rw [a11]
  refine pc_wA ?_; intro m1 m2 h14 e14
  have a14 : h14 2 9 = h 2 9 := by rw [e14, up_n (by omega)]; exact a11
  rw [a14]
  refine pc_add (by omega) ?_; intro v16 e16
  refine pc_xl ?_; intro h17 e17
  have a17 : h17 2 9 = h 2 9 + 1 := by rw [e17, up_s, e16]
  rw [a17]
  refine pc_wA ?_; intro n1 n2 h20 e20
  have a20 : h20 2 9 = h 2 9 + 1 := by rw [e20, up_n (by omega)]; exact a17
  have O : ∀ c k : Nat, ¬ (c = 2 ∧ k = 9) → ¬ (c = 8 ∧ k = (h 2 9).toNat) → ¬ c = 9 → ¬ (c = 7 ∧ k = (h 2 9 + 1).toNat) → h20 c k = h c k := fun c k w1 w2 w3 w4 => by rw [e20, up_n w4, e17, up_n w1, e14, up_n (by omega), e11, up_n w2]
  refine pc_ret ⟨by omega, ?_, ⟨fun i hi => ?_, fun k hk => ?_⟩, fun i hi => ?_, fun b hb => ?_⟩
  · rw [a20, e20, up_s]; exact ha
  · rw [O 7 i (by omega) (by omega) (by omega) (by omega)]; exact k3 i hi
  · rw [O 6 k (by omega) (by omega) (by omega) (by omega)]; exact k4 k hk
  · rw [O 8 i (by omega) (by omega) (by omega) (by omega)]; exact k5 i hi
  · rw [O 10 b (by omega) (by omega) (by omega) (by omega)]; exact k6 b hb
theorem kQ_79 {l1 : Nat} {l2 l3 : Int} (K : KNQ h) : Pc (qj_X9_nameOf_79 nn l1 l2 l3 h) (fun u => KNQ u.2) := by
  unfold qj_X9_nameOf_79
  refine pc_rA ?_; intro i1 i2 v3 e3
  have k2 := K.2.1
  rw [← e3] at k2
  refine pc_if (fun _ => pc_ret K) (fun _ => ?_)
  refine pc_xl ?_; intro v5 _
  refine pc_if (fun _ => ?_) (fun _ => pc_ret K)
  refine pc_cs3 ?_; intro c1 c2 c3 c4 h9 e9
  have c4 : v3 + l3 ≤ 6400 := c4
  refine pc_add (by omega) ?_; intro v10 e10
  have K9 : KNQ h9 := by
    have N : ∀ c k : Nat, ¬ (c = 6 ∧ 186 ≤ k) → h9 c k = h c k := fun c k w => by
      rw [e9]
      show (if c = 6 ∧ v3.toNat ≤ k ∧ k < v3.toNat + l3.toNat then _ else h c k) = _
      rw [if_neg (by omega)]
    obtain ⟨k1, k2, ⟨k3, k4⟩, k5, k6⟩ := K
    refine ⟨by rw [N 2 9 (by omega)]; exact k1, by rw [N 2 9 (by omega), N 7 _ (by omega)]; exact k2, ⟨fun i hi => by rw [N 7 i (by omega)]; exact k3 i hi, fun k hk => by rw [N 6 k (by omega)]; exact k4 k hk⟩, fun i hi => by rw [N 8 i (by omega)]; exact k5 i hi, fun b hb => by rw [N 10 b (by omega)]; exact k6 b hb⟩
  refine pc_sv (kQ_cl K9 (a := v10) (by omega)) ?_; intro u12 q12
  exact pc_xl (fun _ _ => pc_ret q12)
theorem kQ_35 {l1 : Nat} {l2 l3 : Int} (K : KNQ h) : ∀ (k : Nat) (l4 l5 : Int), Pc (qw_X9_nameOf_35 nn k l1 l2 l3 l4 l5 h) (fun u => KNQ u.2) := by
  intro k
  induction k with
  | zero => intros; exact pc_none
  | succ k ih =>
    intro l4 l5
    unfold qw_X9_nameOf_35
    refine pc_if (fun _ => kQ_79 K) (fun _ => pc_if (fun _ => kQ_79 K) (fun _ => ?_))
    refine pc_se ?_; intro u18 _
    refine pc_if (fun _ => ?_) (fun _ => pc_ret K)
    refine pc_rA ?_; intro _ _ v20 _
    exact pc_xl (fun _ _ => ih _ _)
theorem kQ_no {a1 : Nat} {a2 a3 : Int} (K : KNQ h) : Pc (qf_X9_nameOf nn a1 a2 a3 h) (fun u => KNQ u.2) := by
  unfold qf_X9_nameOf
  refine pc_if (fun _ => pc_ret K) (fun _ => pc_if (fun _ => pc_ret K) (fun _ => ?_))
  refine pc_xl ?_; intro v25 _
  refine pc_lS ?_; intro v26 _
  refine pc_if (fun _ => ?_) (fun _ => pc_ret K)
  refine pc_se ?_; intro u28 _
  refine pc_rA ?_; intro _ _ v29 _
  exact kQ_35 K _ _ _
theorem kQ_add {k p v : Int} (K : KNQ h) : Pc (qf_X9_addToken nn k p v h) KNQ := fun r e => kQ_f (fun c k w => (ff_X9_addToken nn) _ e c k w) rfl K
theorem kQ_w89 {l3 l5 l6 s0 : Int} (K : KNQ h) : Pc (qj_X9_scanWord_89 nn l3 l5 l6 s0 h) (fun u => KNQ u.2) := by
  unfold qj_X9_scanWord_89
  exact pc_sv (kQ_add K) (fun _ q => pc_ret q)
theorem kQ_w69 {l3 l5 l6 s0 : Int} (K : KNQ h) : Pc (qj_X9_scanWord_69 nn l3 l5 l6 s0 h) (fun u => KNQ u.2) := by
  unfold qj_X9_scanWord_69
  exact pc_if (fun _ => kQ_w89 K) (fun _ => pc_xl (fun _ _ => pc_xl (fun _ _ => kQ_w89 K)))
theorem kQ_w25 {l3 l4 : Int} (K : KNQ h) : Pc (qj_X9_scanWord_25 nn l3 l4 h) (fun u => KNQ u.2) := by
  unfold qj_X9_scanWord_25 qj_X9_scanWord_68
  refine pc_xl ?_; intro v6 _
  refine pc_if (fun _ => ?_) (fun _ => pc_ret K)
  refine pc_sv (kQ_no K) ?_; intro u8 q8
  exact pc_if (fun _ => kQ_w69 q8) (fun _ => pc_if (fun _ => kQ_w69 q8) (fun _ => kQ_w69 q8))
theorem kQ_w3 {l2 l3 : Int} (K : KNQ h) : ∀ (k : Nat) (l4 : Int), Pc (qw_X9_scanWord_3 nn k l2 l3 l4 h) (fun u => KNQ u.2) := by
  intro k
  induction k with
  | zero => intros; exact pc_none
  | succ k ih =>
    intro l4
    unfold qw_X9_scanWord_3
    refine pc_if (fun _ => kQ_w25 K) (fun _ => ?_)
    refine pc_rA ?_; intro _ _ v12 _
    refine pc_se ?_; intro u13 _
    exact pc_if (fun _ => kQ_w25 K) (fun _ => pc_xl (fun _ _ => ih _))
theorem kQ_t110 {l3 s0 : Int} (K : KNQ h) : Pc (qj_X9_scanToken_110 nn l3 s0 h) (fun u => KNQ u.2) := by
  unfold qj_X9_scanToken_110
  refine pc_if (fun _ => pc_se (fun _ _ => pc_ret K)) (fun _ => ?_)
  refine pc_sv (kQ_add K) ?_; intro u3 q3
  exact pc_se (fun _ _ => pc_ret q3)
theorem kQ_t103 {l3 l4 l5 : Int} (K : KNQ h) : Pc (qj_X9_scanToken_103 nn l3 l4 l5 h) (fun u => KNQ u.2) := by
  unfold qj_X9_scanToken_103
  exact pc_se (fun _ _ => kQ_t110 K)
theorem kQ_t84 {l3 l4 l5 s0 : Int} (K : KNQ h) : Pc (qj_X9_scanToken_84 nn l3 l4 l5 s0 h) (fun u => KNQ u.2) := by
  unfold qj_X9_scanToken_84
  exact pc_if (fun _ => kQ_t103 K) (fun _ => pc_if (fun _ => kQ_t103 K) (fun _ => kQ_t110 K))
theorem kQ_t53 {l2 l3 l4 s0 : Int} (K : KNQ h) : Pc (qj_X9_scanToken_53 nn l2 l3 l4 s0 h) (fun u => KNQ u.2) := by
  unfold qj_X9_scanToken_53 qj_X9_scanToken_83
  refine pc_if (fun _ => kQ_t84 K) (fun _ => pc_xl (fun _ _ => pc_if (fun _ => kQ_t84 K) (fun _ => pc_xl (fun _ _ => pc_rA (fun _ _ _ _ => pc_if (fun _ => kQ_t84 K) (fun _ => kQ_t84 K))))))
theorem kQ_tok {a2 a3 : Int} (K : KNQ h) : Pc (qf_X9_scanToken nn a2 a3 h) (fun u => KNQ u.2) := by
  unfold qf_X9_scanToken
  refine pc_rA ?_; intro _ _ v15 _
  refine pc_se ?_; intro u16 _
  refine pc_if (fun _ => ?_) (fun _ => ?_)
  · refine pc_se ?_; intro u17 _
    refine pc_if (fun _ => ?_) (fun _ => ?_)
    · refine pc_xl ?_; intro v18 _
      refine pc_if (fun _ => kQ_t53 K) (fun _ => pc_xl (fun _ _ => pc_rA (fun _ _ _ _ => kQ_t53 K)))
    · refine pc_se ?_; intro u23 e23
      exact pc_ret (kQ_f (fun c k w => (ff_X9_scanNumber nn) _ e23 c k w) rfl K)
  · unfold qf_X9_scanWord
    refine pc_sv (kQ_w3 K _ _) ?_; intro u26 q26
    exact pc_ret q26
theorem kQ_51 {l2 : Int} : ∀ (k : Nat) (l3 l4 : Int) (h : ms_M), KNQ h → Pc (qw_X9_scan_51 nn k l2 l3 l4 h) KNQ := by
  intro k
  induction k with
  | zero => intros; exact pc_none
  | succ k ih =>
    intro l3 l4 h K
    have E : Pc (qj_X9_scan_102 nn l2 h) KNQ := by
      unfold qj_X9_scan_102
      exact pc_sv (kQ_add K) (fun _ q => pc_ret q)
    unfold qw_X9_scan_51
    refine pc_if (fun _ => E) (fun _ => pc_if (fun _ => E) (fun _ => ?_))
    refine pc_sv (kQ_tok K) ?_; intro u4 q4
    refine pc_if (fun _ => ?_) (fun _ => ?_)
    · refine pc_xl ?_; intro v5 _
      refine pc_se ?_; intro u6 _
      exact pc_xl (fun _ _ => ih _ _ _ q4)
    · exact pc_sv (kQ_add q4) (fun _ q => pc_ret q)
theorem kQ_scan {a2 : Int} (K : KNB h) : Pc (qf_X9_scan nn a2 h) KNQ := by
  unfold qf_X9_scan
  refine pc_xl ?_; intro h13 e13
  have K13 : KNQ h13 := by
    obtain ⟨⟨k3, k4⟩, k5, k6⟩ := K
    have e9 : h13 2 9 = 32 := by rw [e13, up_s]
    have N : ∀ c k : Nat, ¬ (c = 2 ∧ k = 9) → h13 c k = h c k := fun c k w => by rw [e13, up_n w]
    have e7 : h13 7 32 = 186 := by rw [N 7 32 (by omega), k3 32 (by omega)]; decide
    refine ⟨by omega, by rw [e9]; show 186 ≤ h13 7 32 ∧ h13 7 32 ≤ 6400; omega, ⟨fun i hi => by rw [N 7 i (by omega)]; exact k3 i hi, fun k hk => by rw [N 6 k (by omega)]; exact k4 k hk⟩, fun i hi => by rw [N 8 i (by omega)]; exact k5 i hi, fun b hb => by rw [N 10 b (by omega)]; exact k6 b hb⟩
  refine pc_cs3 ?_; intro _ _ _ _ h16 e16
  have K16 : KNQ h16 := by
    have N : ∀ c k : Nat, ¬ c = 9 → h16 c k = h13 c k := fun c k w => by
      rw [e16]
      show (if c = 9 ∧ _ then _ else h13 c k) = _
      rw [if_neg (fun q => w q.1)]
    exact kQ_e K13 (N 2 9 (by omega)) (fun k => N 6 k (by omega)) (fun k => N 7 k (by omega)) (fun k => N 8 k (by omega)) (fun k => N 10 k (by omega))
  refine pc_xl ?_; intro h17 e17
  refine pc_xl ?_; intro h18 e18
  refine pc_xl ?_; intro h19 e19
  refine pc_xl ?_; intro h20 e20
  refine pc_se ?_; intro u21 _
  refine kQ_51 _ _ _ _ ?_
  rw [e20, e19, e18, e17]
  exact kQ_up (by omega) (kQ_up (by omega) (kQ_up (by omega) (kQ_up (by omega) K16)))
theorem kQ_byte {l : Int} (e : qf_X2_addKindByte nn l h = some r) (K : KNQ h) : KNQ r := kQ_f (X := wl_X2_addKindByte) (XF := wf_X2_addKindByte) (fun c k w => (ff_X2_addKindByte nn) _ e c k w) rfl K
theorem kQ_cp {a b : Int} (K : KNQ h) : Pc (qf_X9_copyName nn a 31 b h) KNQ := by
  unfold qf_X9_copyName
  refine pc_se ?_; intro u2 _
  refine pc_if (fun _ => pc_ret K) (fun _ => ?_)
  refine pc_xl ?_; intro v3 _
  refine pc_lS ?_; intro v4 _
  refine pc_if (fun _ => pc_ret K) (fun _ => pc_if (fun _ => pc_ret K) (fun _ => ?_))
  refine pc_rA ?_; intro _ _ v7 _
  refine pc_cs3 ?_; intro _ _ _ _ h8 e8
  have N : ∀ c k : Nat, ¬ c = 31 → h8 c k = h c k := fun c k w => by
    rw [e8]
    show (if c = 31 ∧ _ then _ else h c k) = _
    rw [if_neg (fun q => w q.1)]
  exact pc_ret (kQ_e K (N 2 9 (by omega)) (fun k => N 6 k (by omega)) (fun k => N 7 k (by omega)) (fun k => N 8 k (by omega)) (fun k => N 10 k (by omega)))
theorem kQ_k20 {l : Int} (K : KNQ h) : Pc (qj_X2_addKind_20 nn l h) KNQ := by
  unfold qj_X2_addKind_20
  refine pc_se ?_; intro u1 _
  refine pc_if (fun _ => ?_) (fun _ => ?_)
  · refine pc_se ?_; intro u3 e3
    refine pc_rA ?_; intro _ _ v5 _
    refine pc_sv (kQ_cp (kQ_byte e3 K)) ?_; intro u10 q10
    refine pc_se ?_; intro u14 _
    refine pc_xl ?_; intro v15 _
    refine pc_xl ?_; intro v18 _
    refine pc_xl ?_; intro h19 e19
    refine pc_se ?_; intro u21 e21
    exact pc_ret (kQ_byte e21 (by rw [e19]; exact kQ_up (by omega) q10))
  · refine pc_if (fun _ => ?_) (fun _ => pc_se (fun _ e => pc_ret (kQ_byte e K)))
    exact pc_if (fun _ => pc_se (fun _ e => pc_ret (kQ_byte e K))) (fun _ => pc_se (fun _ e => pc_ret (kQ_byte e K)))
theorem kQ_kind {l : Int} (e : qf_X2_addKind nn l h = some r) (K : KNQ h) : KNQ r := by
  refine (show Pc (qf_X2_addKind nn l h) KNQ from ?_) r e
  unfold qf_X2_addKind
  refine pc_se ?_; intro u31 _
  refine pc_if (fun _ => kQ_k20 K) (fun _ => ?_)
  refine pc_se ?_; intro u33 e33
  refine pc_se ?_; intro u34 _
  exact kQ_k20 (kQ_byte e33 K)
theorem kQ_nk {l : Int} (K : KNQ h) : Pc (qf_X2_nameKind nn l h) (fun u => KNQ u.2) := by
  unfold qf_X2_nameKind
  refine pc_xl ?_; intro h1 e1
  refine pc_se ?_; intro u3 e3
  refine pc_sv (kQ_no (kQ_kind e3 (by rw [e1]; exact kQ_up (by omega) K))) ?_; intro u8 q8
  exact pc_ret q8
theorem kQ_13 : ∀ (k : Nat) (l1 l2 : Int) (h : ms_M), KNQ h → Pc (qw_X2_nameMethodKind_13 nn k l1 l2 h) (fun u => KNQ u.2) := by
  intro k
  induction k with
  | zero => intros; exact pc_none
  | succ k ih =>
    intro l1 l2 h K
    unfold qw_X2_nameMethodKind_13
    refine pc_rA ?_; intro i1 i2 v2 e2
    refine pc_if (fun _ => ?_) (fun _ => ?_)
    · refine pc_se ?_; intro u4 e4
      refine pc_rA ?_; intro j1 j2 v6 e6
      refine pc_se ?_; intro u8 e8
      refine pc_sv (kQ_no (kQ_kind e8 (kQ_byte e4 K))) ?_; intro u13 q13
      exact pc_ret q13
    · refine pc_se ?_; intro u15 e15
      refine pc_se ?_; intro u17 e17
      refine pc_xl ?_; intro v18 e18
      exact ih _ _ _ (kQ_kind e17 K)
theorem kQ_mk {l : Int} (K : KNQ h) : Pc (qf_X2_nameMethodKind nn l h) (fun u => KNQ u.2) := by
  unfold qf_X2_nameMethodKind
  refine pc_xl ?_; intro h1 e1
  refine pc_se ?_; intro u3 e3
  exact kQ_13 _ _ _ _ (kQ_byte e3 (by rw [e1]; exact kQ_up (by omega) K))
theorem kQ_144 : ∀ (k : Nat) (l1 : Int) (h : ms_M), KNQ h → Pc (qw_X2_nameKinds_144 nn k l1 h) KNQ := by
  intro k
  induction k with
  | zero => intros; exact pc_none
  | succ k ih =>
    intro l1 h K
    unfold qw_X2_nameKinds_144
    refine pc_if (fun _ => pc_ret K) (fun _ => pc_if (fun _ => pc_ret K) (fun _ => ?_))
    refine pc_se ?_; intro u6 e6
    refine pc_if (fun _ => ?_) (fun _ => ?_)
    · refine pc_xl ?_; intro v7 e7
      exact ih _ _ K
    · refine pc_sv (kQ_mk K) ?_; intro u10 q10
      refine pc_wA ?_; intro i1 i2 h11 e11
      refine pc_xl ?_; intro v12 e12
      exact ih _ _ (by rw [e11]; exact kQ_up (by omega) q10)
theorem kQ_85 : ∀ (k : Nat) (l1 : Int) (h : ms_M), KNQ h → Pc (qw_X2_nameKinds_85 nn k l1 h) KNQ := by
  intro k
  induction k with
  | zero => intros; exact pc_none
  | succ k ih =>
    intro l1 h K
    unfold qw_X2_nameKinds_85
    refine pc_if (fun _ => kQ_144 _ _ _ K) (fun _ => pc_if (fun _ => kQ_144 _ _ _ K) (fun _ => ?_))
    refine pc_xl ?_; intro v20 e20
    refine pc_xl ?_; intro v22 e22
    refine pc_rA ?_; intro i1 i2 v23 e23
    refine pc_if (fun _ => ?_) (fun _ => ?_)
    · refine pc_xl ?_; intro v24 e24
      exact ih _ _ K
    · refine pc_rA ?_; intro j1 j2 v27 e27
      refine pc_sv (kQ_nk K) ?_; intro u29 q29
      refine pc_wA ?_; intro l1 l2 h30 e30
      refine pc_xl ?_; intro v31 e31
      exact ih _ _ (by rw [e30]; exact kQ_up (by omega) q29)
theorem kQ_59 {qk : Int → ms_M → Option ms_M} (hk : ∀ (v : Int) (g : ms_M), KNQ g → Pc (qk v g) KNQ) {l1 s0 s1 : Int} (K : KNQ h) : Pc (qj_X2_nameKinds_59 nn qk l1 s0 s1 h) KNQ := by
  unfold qj_X2_nameKinds_59
  refine pc_wA ?_; intro i1 i2 h35 e35
  refine pc_xl ?_; intro v37 e37
  refine pc_xl ?_; intro v38 e38
  refine pc_sv (kQ_nk (h := h35) (by rw [e35]; exact kQ_up (by omega) K)) ?_; intro u40 q40
  refine pc_wA ?_; intro j1 j2 h41 e41
  refine pc_xl ?_; intro v42 e42
  exact hk _ _ (by rw [e41]; exact kQ_up (by omega) q40)
theorem kQ_2 : ∀ (k : Nat) (l1 : Int) (h : ms_M), KNQ h → Pc (qw_X2_nameKinds_2 nn k l1 h) KNQ := by
  intro k
  induction k with
  | zero => intros; exact pc_none
  | succ k ih =>
    intro l1 h K
    have H : ∀ (v : Int) (g : ms_M), KNQ g → Pc (qw_X2_nameKinds_2 nn k v g) KNQ := fun v g q => ih v g q
    unfold qw_X2_nameKinds_2
    refine pc_xl ?_; intro v44 e44
    refine pc_if (fun _ => kQ_85 _ _ _ K) (fun _ => pc_if (fun _ => kQ_85 _ _ _ K) (fun _ => pc_if (fun _ => kQ_85 _ _ _ K) (fun _ => pc_if (fun _ => ?_) (fun _ => kQ_59 H K))))
    refine pc_xl ?_; intro v49 e49
    refine pc_se ?_; intro u51 e51
    refine pc_se ?_; intro u53 e53
    exact kQ_59 H K
end
