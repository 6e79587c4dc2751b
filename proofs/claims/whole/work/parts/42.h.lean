/- TOKENS: the table as a text begins; scan and tokenize -/
def kn_b (i : Nat) : Int := bo_T (kb_T (ka_T i).toNat) (kb_T (ka_T (i + 1) - 1).toNat) (ka_T (i + 1) - ka_T i)
set_option maxRecDepth 100000 in
theorem kn_2 : (List.range 64).all (fun b => decide (kk_T b = pv_T kn_b (b : Int) 32)) = true := by decide +kernel
set_option maxRecDepth 100000 in
theorem knt_3 : (List.range 32).all (fun i => decide (ks_T i = pv_T kn_b (kn_b i) i) && decide (ka_T i + 1 ≤ ka_T (i + 1)) && decide (0 ≤ ka_T i) && decide (ka_T (i + 1) ≤ 186)) = true := by decide +kernel
set_option maxRecDepth 100000 in
theorem kn_4 : (List.range 32).all (fun j => (List.range j).all (fun i => !(decide (ka_T (i + 1) - ka_T i = ka_T (j + 1) - ka_T j)) || (List.range (ka_T (i + 1) - ka_T i).toNat).any (fun k => !(decide (kb_T ((ka_T i).toNat + k) = kb_T ((ka_T j).toNat + k)))))) = true := by decide +kernel
section
variable {nn : Nat} {h g r h2 r2 : ms_M} {A : Nat → Int} {n p : Nat}
theorem kn_ntb (K : KT_ h) (e9 : h 2 9 = 32) (e8 : ∀ i : Nat, i < 32 → h 8 i = ks_T i) (eb : ∀ b : Nat, b < 64 → h 9 b = kk_T b) : NTB h := by
  have L : ∀ i : Nat, i < 32 → ks_T i = pv_T kn_b (kn_b i) i ∧ ka_T i + 1 ≤ ka_T (i + 1) ∧ 0 ≤ ka_T i ∧ ka_T (i + 1) ≤ 186 := fun i hi => by
    have q := List.all_eq_true.1 knt_3 i (List.mem_range.2 hi)
    simp only [Bool.and_eq_true, decide_eq_true_eq] at q
    exact ⟨q.1.1.1, q.1.1.2, q.1.2, q.2⟩
  have B : ∀ i : Nat, i < 32 → bn_T h i = kn_b i := fun i hi => by
    have l := L i hi
    unfold bn_T kn_b ln_T
    rw [K.1 i (by omega), K.1 (i + 1) (by omega), K.2 _ (by omega), K.2 _ (by omega)]
  refine ⟨⟨by omega, ?_⟩, ⟨?_, fun i hi => ?_⟩, fun b hb => ?_, fun i hi => ?_, fun i j l t ij hj M N => ?_⟩
  · rw [e9, show (32 : Int).toNat = 32 by decide, K.1 32 (by omega), show ka_T 32 = 186 by decide]; decide
  · rw [K.1 0 (by omega)]; exact (L 0 (by omega)).2.2.1
  · rw [K.1 i (by omega), K.1 (i + 1) (by omega)]; exact (L i (by omega)).2.1
  · rw [eb b hb, e9, show (32 : Int).toNat = 32 by decide]
    have q := of_decide_eq_true (List.all_eq_true.1 kn_2 b (List.mem_range.2 hb))
    rw [q]
    exact pv_e 32 (fun i hi => (B i hi).symm)
  · rw [e8 i (by omega), (L i (by omega)).1, B i (by omega)]
    exact pv_e i (fun j hj => (B j (by omega)).symm)
  · have li := L i (by omega)
    have lj := L j (by omega)
    have q := List.all_eq_true.1 (List.all_eq_true.1 kn_4 j (List.mem_range.2 (by omega))) i (List.mem_range.2 ij)
    have m1 := M.1
    have n1 := N.1
    unfold ln_T at m1 n1
    rw [K.1 i (by omega), K.1 (i + 1) (by omega)] at m1
    rw [K.1 j (by omega), K.1 (j + 1) (by omega)] at n1
    rw [decide_eq_true (show ka_T (i + 1) - ka_T i = ka_T (j + 1) - ka_T j by omega)] at q
    simp only [Bool.not_true, Bool.false_or, List.any_eq_true, List.mem_range, Bool.not_eq_true', decide_eq_false_iff_not] at q
    obtain ⟨k, k1, k2⟩ := q
    apply k2
    have a := M.2 k (by omega)
    have b := N.2 k (by omega)
    rw [K.1 i (by omega), K.2 _ (by omega)] at a
    rw [K.1 j (by omega), K.2 _ (by omega)] at b
    rw [a, b]
theorem sp_51 : ∀ (k : Nat) (l2 l3 l4 : Int) (h : ms_M), Pc (qw_X9_scan_51 nn k l2 l3 l4 h) (fun u => u 2 10 = h 2 10 ∧ u 2 11 = h 2 11 ∧ u 2 12 = h 2 12) := by
  intro k
  induction k with
  | zero => intros; exact pc_none
  | succ k ih =>
    intro l2 l3 l4 h
    have E : Pc (qj_X9_scan_102 nn l2 h) (fun u => u 2 10 = h 2 10 ∧ u 2 11 = h 2 11 ∧ u 2 12 = h 2 12) := by
      unfold qj_X9_scan_102
      refine pc_se ?_; intro u2 e2
      exact pc_ret ⟨(ff_X9_addToken nn) _ e2 2 10 rfl, (ff_X9_addToken nn) _ e2 2 11 rfl, (ff_X9_addToken nn) _ e2 2 12 rfl⟩
    unfold qw_X9_scan_51
    refine pc_if (fun _ => E) (fun _ => pc_if (fun _ => E) (fun _ => ?_))
    refine pc_se ?_; intro u4 e4
    have a : u4.2 2 10 = h 2 10 := (ff_X9_scanToken nn) _ e4 2 10 rfl
    have b : u4.2 2 11 = h 2 11 := (ff_X9_scanToken nn) _ e4 2 11 rfl
    have c : u4.2 2 12 = h 2 12 := (ff_X9_scanToken nn) _ e4 2 12 rfl
    refine pc_if (fun _ => ?_) (fun _ => ?_)
    · refine pc_xl ?_; intro v5 _
      refine pc_se ?_; intro u6 _
      refine pc_xl ?_; intro v7 _
      exact pc_imp (ih _ _ _ _) (fun u q => ⟨q.1.trans a, q.2.1.trans b, q.2.2.trans c⟩)
    · refine pc_se ?_; intro u9 e9
      exact pc_ret ⟨((ff_X9_addToken nn) _ e9 2 10 rfl).trans a, ((ff_X9_addToken nn) _ e9 2 11 rfl).trans b, ((ff_X9_addToken nn) _ e9 2 12 rfl).trans c⟩
/-- what scan and tokenize leave -/
theorem tk_scan (K : KNB h) (Tc : TXc h A n) (Tr : TXr r A n) : Pc (qf_X9_scan nn (n : Int) h) (fun u => (u 2 10 = 0 ∧ u 2 11 = 0 ∧ u 2 12 = -1) ∧ Pc (qf_X13_tokenize nn r) (fun v => TKFn A n u v)) := by
  have n3 := Tc.1
  unfold qf_X9_scan
  refine pc_xl ?_; intro h13 e13
  refine pc_cpS ?_; intro h16 e16
  refine pc_xl ?_; intro h17 e17
  refine pc_xl ?_; intro h18 e18
  refine pc_xl ?_; intro h19 e19
  refine pc_xl ?_; intro h20 e20
  have F : ∀ c k : Nat, ¬ c = 2 → ¬ c = 9 → h20 c k = h c k := fun c k a b => by
    rw [e20, up_n (by omega), e19, up_n (by omega), e18, up_n (by omega), e17, up_n (by omega), e16, cp_ne b, e13, up_n (by omega)]
  have f9 : h20 2 9 = 32 := by
    rw [e20, up_n (by omega), e19, up_n (by omega), e18, up_n (by omega), e17, up_n (by omega), e16, cp_ne (by omega), e13, up_s]
  have f3 : h20 2 3 = 0 := by
    rw [e20, up_n (by omega), e19, up_n (by omega), e18, up_n (by omega), e17, up_s]
  have fp : h20 2 10 = 0 ∧ h20 2 11 = 0 ∧ h20 2 12 = -1 := by
    refine ⟨?_, ?_, ?_⟩
    · rw [e20, up_n (by omega), e19, up_n (by omega), e18, up_s]
    · rw [e20, up_n (by omega), e19, up_s]
    · rw [e20, up_s]
  have fb : ∀ b : Nat, b < 64 → h20 9 b = kk_T b := fun b hb => by
    rw [e20, up_n (by omega), e19, up_n (by omega), e18, up_n (by omega), e17, up_n (by omega), e16]
    unfold cp_M
    rw [if_pos ⟨rfl, Nat.zero_le _, by show b < (0 : Int).toNat + (64 : Int).toNat; omega⟩, e13, up_n (by omega)]
    have := K.2.2 b hb
    rw [show (0 : Int).toNat + (b - (0 : Int).toNat) = b by omega]; exact this
  have KT : KT_ h20 := ⟨fun i hi => by rw [F 7 i (by omega) (by omega)]; exact K.1.1 i hi, fun k hk => by rw [F 6 k (by omega) (by omega)]; exact K.1.2 k hk⟩
  have NT : NTB h20 := kn_ntb KT f9 (fun i hi => by rw [F 8 i (by omega) (by omega)]; exact K.2.1 i hi) fb
  have Tc2 : TXc h20 A n := tc_k Tc (fun i => F 1 i (by omega) (by omega))
  refine pc_sv (bb_c Tc2 (p := 0) rfl) ?_; intro u21 e21
  rw [e21]
  intro u eu
  refine ⟨?_, ?_⟩
  · have w := sp_51 _ _ _ _ _ u eu
    exact ⟨w.1.trans fp.1, w.2.1.trans fp.2.1, w.2.2.trans fp.2.2⟩
  unfold qf_X13_tokenize
  refine pc_xl ?_; intro h5 e5
  have Tr2 : TXr h5 A n := ⟨Tr.1, by rw [e5, up_n (by omega)]; exact Tr.2.1, fun i hi => by rw [e5, up_n (by omega)]; exact Tr.2.2 i hi⟩
  have J : JT A n 0 h20 h5 := by
    refine ⟨Tc2, Tr2, NT, KT, ⟨by rw [f3, e5, up_s], fun i hi => by omega⟩, ⟨by omega, by omega⟩, ⟨?_, fun i hi => by omega, fun i hi => by omega⟩, .inl (by omega)⟩
    rw [f9, show (32 : Int).toNat = 32 by decide, KT.1 32 (by omega), show ka_T 32 = 186 by decide]; omega
  have B := bk_q (A := A) (n := n) n 0 0 (by omega) (by omega)
  have R := rb_7 (nn := nn) (Q := fun v => TKFn A n u v) Tr2 nn 0 n (by omega) (by omega) (fun j2 => tk_loop nn j2 _ 0 h20 h5 (jt_b J) B.2 (by omega) u eu)
  exact R
end
