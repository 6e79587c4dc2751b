/- a method: what its head gives to both sides -/
/-- method j of the reference is one of class k -/
def MTm (X : BCx) (k j : Nat) : Prop := (j < bM X ∧ k < 8) ∧ MSm (bB X) k 1 j ∧ bo X = 8 + (k : Int) ∧ ((bB X 182 j = 1 ∧ bF X = 1) ∨ (bB X 182 j = 2 ∧ bF X = 0)) ∧ ∀ i : Nat, (i : Int) < bB X 189 j → 0 ≤ bB X 194 ((bB X 188 j).toNat + i) ∧ bK X (bB X 194 ((bB X 188 j).toNat + i)).toNat = 2
/-- .. its number in the class -/
abbrev mx_X (X : BCx) (k j : Nat) : Nat := 12 * k + mcn_T (bB X) k 1 j
/-- between two methods: class and rules -/
def JBw (X : BCx) (h r : ms_M) : Prop := HDS (bK X) (bP X) (bV X) (bC X) (bc X) (bn X) (bNN X) (bM X) (bq X) h r ∧ (h 2 11 = 0 ∧ r 160 9 = 0) ∧ (∀ i : Nat, i < bc X → bK X i = 3 → h 5 i = bT X 166 i) ∧ (∀ cc x : Nat, ((163 ≤ cc ∧ cc ≤ 173) ∨ cc = 177) → r cc x = bT X cc x) ∧ (∀ cc x : Nat, (178 ≤ cc ∧ cc ≤ 195) → r cc x = bB X cc x) ∧ ∀ cc x : Nat, (17 ≤ cc ∧ cc ≤ 29) → h cc x = bA X cc x
/-- the class's begin of a method -/
def CBm (nn : Nat) (X : BCx) (x tok : Nat) (h u : ms_M) : Prop := ∃ (u2 : ms_M) (u7 : Int × ms_M) (u9 : ms_M) (u14 : Int × ms_M), CPt (1 - (bF X : Int)) h u2 ∧ qf_X6_constant nn 1 (bV X tok) u2 = some u7 ∧ CPt u7.1 u7.2 u9 ∧ qf_X6_constant nn 1 (u9 26 x) u9 = some u14 ∧ CPt u14.1 u14.2 u
/-- variables that come one after the other -/
def CPR (nm ty : Nat → Int) (n : Nat) (h g : ms_M) : Prop := ∃ f : Nat → ms_M, f 0 = h ∧ f n = g ∧ ∀ i : Nat, i < n → CLa (nm i) (ty i) (f i) (f (i + 1))
section
variable {nn : Nat} {X : BCx} {k j i n : Nat} {h g u r m w : ms_M} {v : Int}
theorem jb_bx (B : BX X h r) (f1 : h 2 11 = 0) (f2 : r 160 9 = 0) : JBw X h r := ⟨B.1, ⟨f1, f2⟩, B.2.2.2.2.1, B.2.2.2.2.2.1, B.2.2.2.2.2.2.1, B.2.2.2.2.2.2.2.1⟩
theorem jb_k (J : JBw X h r) (e1 : ∀ cc x : Nat, (3 ≤ cc ∧ cc ≤ 5) ∨ (13 ≤ cc ∧ cc ≤ 29) ∨ (cc = 2 ∧ (x = 3 ∨ x = 11)) ∨ (cc = 11 ∧ x = 2) → g cc x = h cc x) (e2 : ∀ cc x : Nat, (162 ≤ cc ∧ cc ≤ 173) ∨ (177 ≤ cc ∧ cc ≤ 195) ∨ (cc = 160 ∧ (x = 9 ∨ x = 24 ∨ x = 28)) → w cc x = r cc x) : JBw X g w := by
  obtain ⟨j1, j2, j3, j4, j5, j6⟩ := J
  exact ⟨hds_k j1 (fun cc x z => e1 cc x (by omega)) (fun cc x z => e2 cc x (by omega)), ⟨by rw [e1 2 11 (by omega)]; exact j2.1, by rw [e2 160 9 (by omega)]; exact j2.2⟩, fun i hi ki => by rw [e1 5 i (by omega)]; exact j3 i hi ki, fun cc x z => by rw [e2 cc x (by omega)]; exact j4 cc x z, fun cc x z => by rw [e2 cc x (by omega)]; exact j5 cc x z, fun cc x z => by rw [e1 cc x (by omega)]; exact j6 cc x z⟩
/-- the rows of the method -/
theorem mt_row (Y : CXs X) (M : MTm X k j) : (mx_X X k j < 96 ∧ (((mx_X X k j) % 12 : Nat) : Int) < bA X 21 ((mx_X X k j) / 12)) ∧ MBm (bV X) (bC X) (bn X) (bA X) (bB X) j (mx_X X k j) ∧ (0 ≤ bB X 186 j ∧ bK X (bB X 186 j).toNat = 2) ∧ VTn (bn X) (bA X 24 (mx_X X k j)) ∧ bB X 188 j ≤ 1500 ∧ ∀ i : Nat, (i : Int) < bB X 189 j → VTn (bn X) (bA X 29 (6 * (mx_X X k j) + i)) := by
  obtain ⟨-, -, n8, -, -, -, HD, s0, -, TM⟩ := Y
  obtain ⟨⟨j1, k8⟩, ms, -, -⟩ := M
  have MT := HD.2.2.1
  obtain ⟨i1, i2⟩ := mb_ix MT j1 k8 (.inr rfl) ms
  have c21 := (MT.1 k k8).1.2
  obtain ⟨vt, v188, vp⟩ := TM j k j1 k8 ms
  have exx : mx_X X k j = 12 * k + mcn_T (bB X) k 1 j := rfl
  refine ⟨⟨by omega, ?_⟩, MT.2.2.1 j k j1 k8 ms, HD.2.2.2.2.1 j j1, vt, v188, vp⟩
  rw [show (mx_X X k j) / 12 = k by omega, show (mx_X X k j) % 12 = mcn_T (bB X) k 1 j by omega, c21]
  omega
theorem c_mIs (Y : CXs X) (M : MTm X k j) (G : ∀ cc x : Nat, (17 ≤ cc ∧ cc ≤ 29) → g cc x = bA X cc x) : Pc (qf_X2_isMethod nn ((mx_X X k j : Nat) : Int) g) (fun y => y = 1) := by
  obtain ⟨⟨a1, a2⟩, -⟩ := mt_row Y M
  exact c_isMt ⟨a1, by rw [G 21 _ (by omega)]; exact a2⟩
theorem c_mFix (Y : CXs X) (M : MTm X k j) (G : ∀ cc x : Nat, (17 ≤ cc ∧ cc ≤ 29) → g cc x = bA X cc x) : Pc (qf_X2_isFixed nn ((mx_X X k j : Nat) : Int) g) (fun y => y = 1 - (bF X : Int)) := by
  obtain ⟨-, MB, -⟩ := mt_row Y M
  have m4 := M.2.2.2
  have f := MB.2.1
  unfold qf_X2_isFixed
  refine pc_sv (c_mIs Y M G) ?_; intro u2 q2
  refine pc_if (fun z => absurd z (by omega)) (fun _ => ?_)
  refine pc_rA ?_; intro _ _ v4 e4
  rw [Int.toNat_natCast, G 25 _ (by omega)] at e4
  exact pc_if (fun z => pc_ret (by omega)) (fun z => pc_ret (by omega))
theorem c_mPar (Y : CXs X) (M : MTm X k j) (G : ∀ cc x : Nat, (17 ≤ cc ∧ cc ≤ 29) → g cc x = bA X cc x) : Pc (qf_X2_parametersOf nn ((mx_X X k j : Nat) : Int) g) (fun y => y = bB X 189 j) := by
  obtain ⟨-, MB, -⟩ := mt_row Y M
  unfold qf_X2_parametersOf
  refine pc_sv (c_mIs Y M G) ?_; intro u2 q2
  refine pc_if (fun z => absurd z (by omega)) (fun _ => ?_)
  refine pc_rA ?_; intro _ _ v4 e4
  rw [Int.toNat_natCast, G 27 _ (by omega), MB.2.2.1.1] at e4
  exact pc_ret e4
theorem c_mRes (Y : CXs X) (M : MTm X k j) (G : ∀ cc x : Nat, (17 ≤ cc ∧ cc ≤ 29) → g cc x = bA X cc x) : Pc (qf_X2_resultOf nn ((mx_X X k j : Nat) : Int) g) (fun y => y = bA X 24 (mx_X X k j)) := by
  unfold qf_X2_resultOf
  refine pc_sv (c_mIs Y M G) ?_; intro u2 q2
  refine pc_if (fun z => absurd z (by omega)) (fun _ => ?_)
  refine pc_rA ?_; intro _ _ v4 e4
  rw [Int.toNat_natCast, G 24 _ (by omega)] at e4
  exact pc_ret e4
theorem c_mBod (Y : CXs X) (M : MTm X k j) (G : ∀ cc x : Nat, (17 ≤ cc ∧ cc ≤ 29) → g cc x = bA X cc x) : Pc (qf_X2_bodyOf nn ((mx_X X k j : Nat) : Int) g) (fun y => y = bA X 23 (mx_X X k j)) := by
  unfold qf_X2_bodyOf
  refine pc_sv (c_mIs Y M G) ?_; intro u2 q2
  refine pc_if (fun z => absurd z (by omega)) (fun _ => ?_)
  refine pc_rA ?_; intro _ _ v4 e4
  rw [Int.toNat_natCast, G 23 _ (by omega)] at e4
  exact pc_ret e4
theorem c_mTok (Y : CXs X) (M : MTm X k j) (G : ∀ cc x : Nat, (17 ≤ cc ∧ cc ≤ 29) → g cc x = bA X cc x) : Pc (qf_X2_tokenOfMethod nn ((mx_X X k j : Nat) : Int) g) (fun y => y = bB X 186 j) := by
  obtain ⟨-, MB, -⟩ := mt_row Y M
  unfold qf_X2_tokenOfMethod
  refine pc_sv (c_mIs Y M G) ?_; intro u2 q2
  refine pc_if (fun z => absurd z (by omega)) (fun _ => ?_)
  refine pc_rA ?_; intro _ _ v4 e4
  rw [Int.toNat_natCast, G 22 _ (by omega), MB.1.1] at e4
  exact pc_ret e4
theorem c_mNam (Y : CXs X) (M : MTm X k j) (G : ∀ cc x : Nat, (17 ≤ cc ∧ cc ≤ 29) → g cc x = bA X cc x) (TB : TBc (bK X) (bP X) (bc X) g) (VL : VLc (bK X) (bV X) (bc X) g) : Pc (qf_X2_nameOfMethod nn ((mx_X X k j : Nat) : Int) g) (fun y => y = bV X (bB X 186 j).toNat) := by
  obtain ⟨-, MB, T2, -⟩ := mt_row Y M
  unfold qf_X2_nameOfMethod
  refine pc_sv (c_mIs Y M G) ?_; intro u2 q2
  refine pc_if (fun z => absurd z (by omega)) (fun _ => ?_)
  refine pc_rA ?_; intro _ _ v5 e5
  rw [Int.toNat_natCast, G 22 _ (by omega), MB.1.1] at e5
  refine pc_sv (c_valueAt Y.1 TB VL (t := (bB X 186 j).toNat) T2.2 (by omega)) ?_; intro u7 q7
  exact pc_ret q7
theorem c_mKnd (Y : CXs X) (M : MTm X k j) : Pc (qf_X2_kindOfMethod nn ((mx_X X k j : Nat) : Int) g) (fun y => y = g 26 (mx_X X k j)) := by
  obtain ⟨⟨a1, a2⟩, -⟩ := mt_row Y M
  unfold qf_X2_kindOfMethod
  refine pc_if (fun z => absurd z (by omega)) (fun _ => ?_)
  refine pc_if (fun z => absurd z (by omega)) (fun _ => ?_)
  refine pc_rA ?_; intro _ _ v4 e4
  rw [Int.toNat_natCast] at e4
  exact pc_ret e4
theorem c_mPnm (Y : CXs X) (M : MTm X k j) (G : ∀ cc x : Nat, (17 ≤ cc ∧ cc ≤ 29) → g cc x = bA X cc x) (hi : (i : Int) < bB X 189 j) : Pc (qf_X2_parameterName nn ((mx_X X k j : Nat) : Int) (i : Int) g) (fun y => y = bV X (bB X 194 ((bB X 188 j).toNat + i)).toNat) := by
  obtain ⟨⟨a1, a2⟩, MB, -⟩ := mt_row Y M
  unfold qf_X2_parameterName
  refine pc_if (fun z => absurd z (by omega)) (fun _ => ?_)
  refine pc_sv (c_mPar Y M G) ?_; intro u2 q2
  refine pc_if (fun z => absurd z (by omega)) (fun _ => ?_)
  refine pc_xl ?_; intro v4 e4
  rw [oq_mul_eq (by omega) (by omega) (by omega)] at e4
  have p6 := MB.2.2.1.2.2.1
  refine pc_add (by omega) ?_; intro v5 e5
  refine pc_rA ?_; intro _ _ v6 e6
  rw [show v5.toNat = 6 * (mx_X X k j) + i by omega, G 28 _ (by omega), (MB.2.2.2.1 i hi).1] at e6
  exact pc_ret e6
theorem c_mPty (Y : CXs X) (M : MTm X k j) (G : ∀ cc x : Nat, (17 ≤ cc ∧ cc ≤ 29) → g cc x = bA X cc x) (hi : (i : Int) < bB X 189 j) : Pc (qf_X2_parameterType nn ((mx_X X k j : Nat) : Int) (i : Int) g) (fun y => y = bA X 29 (6 * (mx_X X k j) + i)) := by
  obtain ⟨⟨a1, a2⟩, MB, -⟩ := mt_row Y M
  unfold qf_X2_parameterType
  refine pc_if (fun z => absurd z (by omega)) (fun _ => ?_)
  refine pc_sv (c_mPar Y M G) ?_; intro u2 q2
  refine pc_if (fun z => absurd z (by omega)) (fun _ => ?_)
  refine pc_xl ?_; intro v4 e4
  rw [oq_mul_eq (by omega) (by omega) (by omega)] at e4
  have p6 := MB.2.2.1.2.2.1
  refine pc_add (by omega) ?_; intro v5 e5
  refine pc_rA ?_; intro _ _ v6 e6
  rw [show v5.toNat = 6 * (mx_X X k j) + i by omega, G 29 _ (by omega)] at e6
  exact pc_ret e6
/-- name, kind and whether it is static -/
theorem c_begM (Y : CXs X) (M : MTm X k j) (G : ∀ cc x : Nat, (17 ≤ cc ∧ cc ≤ 29) → h cc x = bA X cc x) (TB : TBc (bK X) (bP X) (bc X) h) (VL : VLc (bK X) (bV X) (bc X) h) (l7 : 0 ≤ h 45 7 ∧ h 45 7 ≤ 1000000000) : Pc (qf_X6_beginMethod nn ((mx_X X k j : Nat) : Int) h) (fun u => CBm nn X (mx_X X k j) (bB X 186 j).toNat h u ∧ u 45 7 = h 45 7 + 3 ∧ WFc h u) := by
  have m4 := M.2.2.2
  have T : ∀ s0 : Int, s0 = 1 - (bF X : Int) → Pc (qj_X6_beginMethod_17 nn ((mx_X X k j : Nat) : Int) s0 h) (fun u => CBm nn X (mx_X X k j) (bB X 186 j).toNat h u ∧ u 45 7 = h 45 7 + 3 ∧ WFc h u) := fun s0 es => by
    unfold qj_X6_beginMethod_17
    refine pc_sv (c_put (by omega)) ?_; intro u2 A2
    have W2 := wfc_p A2
    refine pc_sv (c_mNam Y M (fun cc x z => by rw [W2.2 cc x (by omega) (by omega)]; exact G cc x z) (tbc_k TB (fun cc y z => W2.2 cc y (by omega) (by omega))) (fun i hi ki => by rw [W2.2 5 i (by omega) (by omega)]; exact VL i hi ki)) ?_; intro u5 q5
    rw [q5]
    refine pc_se ?_; intro u7 e7
    have E7 := c_cfr u7 e7
    have W7 : WFc u2 u7.2 := wfc_c E7 (c_k5 u7 e7)
    have l72 := E7 45 7 (by omega) (by omega) (by omega)
    have l2 := A2.1
    refine pc_sv (c_put (by omega)) ?_; intro u9 A9
    have l9 := A9.1
    refine pc_sv (c_mKnd Y M) ?_; intro u12 q12
    rw [q12]
    refine pc_se ?_; intro u14 e14
    have E14 := c_cfr u14 e14
    have W14 : WFc u9 u14.2 := wfc_c E14 (c_k5 u14 e14)
    have l14 := E14 45 7 (by omega) (by omega) (by omega)
    refine pc_sv (c_put (by omega)) ?_; intro u16 A16
    have l16 := A16.1
    exact pc_ret ⟨⟨u2, u7, u9, u14, by rw [← es]; exact A2, e7, A9, e14, A16⟩, by omega, wfc_t W2 (wfc_t W7 (wfc_t (wfc_p A9) (wfc_t W14 (wfc_p A16))))⟩
  unfold qf_X6_beginMethod
  refine pc_sv (c_mFix Y M G) ?_; intro u19 q19
  exact pc_if (fun z => T 0 (by omega)) (fun z => T 1 (by omega))
theorem cpr_0 {nm ty : Nat → Int} : CPR nm ty 0 h h := ⟨fun _ => h, rfl, rfl, fun i hi => absurd hi (by omega)⟩
theorem cpr_s {nm ty : Nat → Int} (C : CPR nm ty n h g) (A : CLa (nm n) (ty n) g u) : CPR nm ty (n + 1) h u := by
  obtain ⟨f, f0, f1, f2⟩ := C
  refine ⟨fun s => if s ≤ n then f s else u, ?_, ?_, fun i hi => ?_⟩
  · show (if 0 ≤ n then f 0 else u) = h
    rw [if_pos (by omega)]; exact f0
  · show (if n + 1 ≤ n then f (n + 1) else u) = u
    rw [if_neg (by omega)]
  · show CLa (nm i) (ty i) (if i ≤ n then f i else u) (if i + 1 ≤ n then f (i + 1) else u)
    by_cases q : i = n
    · rw [q, if_pos (Nat.le_refl _), if_neg (by omega), f1]; exact A
    · rw [if_pos (by omega), if_pos (by omega)]; exact f2 i (by omega)
theorem cpr_f {nm ty : Nat → Int} : ∀ (n : Nat) (h g : ms_M), CPR nm ty n h g → g 34 7 = h 34 7 + n ∧ ∀ cc y : Nat, ¬ (cc = 34 ∧ (y = 7 ∨ y = 8)) → ¬ (cc = 37 ∨ cc = 38) → g cc y = h cc y := by
  intro n
  induction n with
  | zero =>
    intro h g ⟨f, f0, f1, _⟩
    rw [← f1, f0]
    exact ⟨by show _ = _ + ((0 : Nat) : Int); omega, fun _ _ _ _ => rfl⟩
  | succ n ih =>
    intro h g ⟨f, f0, f1, f2⟩
    obtain ⟨a1, a2⟩ := ih h (f n) ⟨f, f0, rfl, fun i hi => f2 i (by omega)⟩
    have A := f2 n (by omega)
    rw [f1] at A
    exact ⟨by rw [A.1, a1]; omega, fun cc y z1 z2 => by rw [A.2.2.2 cc y z1 (by omega)]; exact a2 cc y z1 z2⟩
/-- the class's parameters -/
theorem c_pars (Y : CXs X) (M : MTm X k j) {h0 : ms_M} {Z : ms_M → Prop} (G : ∀ cc x : Nat, (17 ≤ cc ∧ cc ≤ 29) → h0 cc x = bA X cc x) (s7 : 0 ≤ h0 34 7 ∧ h0 34 7 ≤ 10) (HK : ∀ g, CPR (fun i => bV X (bB X 194 ((bB X 188 j).toNat + i)).toNat) (fun i => bA X 29 (6 * (mx_X X k j) + i)) (bB X 189 j).toNat h0 g → Pc (mx_sv (qf_X2_resultOf nn ((mx_X X k j : Nat) : Int) g) fun u21 => xl (up_M g 33 8 u21) fun h22 => xl (up_M h22 33 9 (-1)) fun h23 => xl (up_M h23 33 12 0) fun h24 => mx_sv (qf_X2_bodyOf nn ((mx_X X k j : Nat) : Int) h24) fun u28 => xl (up_M h24 2 10 u28) fun h29 => mx_sv (qf_X0_readBlock nn 0 h29) fun u31 => if u31.1 = 0 then (qj_X0_makeMethod_199 nn ((mx_X X k j : Nat) : Int) u31.2) else (if (u31.2 33 8) = 303 then (qj_X0_makeMethod_189 nn ((mx_X X k j : Nat) : Int) u31.2) else (mx_sv (qf_X2_tokenOfMethod nn ((mx_X X k j : Nat) : Int) u31.2) fun u36 => mx_sv (qf_X9_tell nn 8 u36 u31.2) fun u38 => qj_X0_makeMethod_189 nn ((mx_X X k j : Nat) : Int) u38))) Z) : ∀ (f i : Nat) (h : ms_M), (i : Int) ≤ bB X 189 j → CPR (fun i => bV X (bB X 194 ((bB X 188 j).toNat + i)).toNat) (fun i => bA X 29 (6 * (mx_X X k j) + i)) i h0 h → Pc (qw_X0_makeMethod_70 nn f ((mx_X X k j : Nat) : Int) (i : Int) h) Z := by
  obtain ⟨-, MB, -⟩ := mt_row Y M
  have p6 := MB.2.2.1
  intro f
  induction f with
  | zero => intro i h hi C; exact fun _ z => nomatch z
  | succ f ih =>
    intro i h hi C
    obtain ⟨c7, CF⟩ := cpr_f i h0 h C
    have GH : ∀ cc x : Nat, (17 ≤ cc ∧ cc ≤ 29) → h cc x = bA X cc x := fun cc x z => by rw [CF cc x (by omega) (by omega)]; exact G cc x z
    unfold qw_X0_makeMethod_70
    refine pc_sv (c_mPar Y M GH) ?_; intro u18 q18
    refine pc_if (fun z => ?_) (fun z => ?_)
    · rw [show i = (bB X 189 j).toNat by omega] at C
      exact HK h C
    · refine pc_sv (c_mPnm Y M GH (by omega)) ?_; intro u44 q44
      refine pc_sv (c_mPty Y M GH (by omega)) ?_; intro u47 q47
      refine pc_sv (c_addLocal (by omega)) ?_; intro u49 ⟨_, A⟩
      refine pc_add (by omega) ?_; intro v50 e50
      rw [show v50 = ((i + 1 : Nat) : Int) by omega]
      rw [q44, q47] at A
      exact ih (i + 1) u49.2 (by omega) (cpr_s C A)
end
