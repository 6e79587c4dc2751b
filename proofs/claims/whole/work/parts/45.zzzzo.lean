/- a method: class and rules, up to its BLOCK -/
def UZm (X : BCx) (u57 u66 : ms_M) : Prop := (u66 34 1 = 0 ∧ u66 34 3 = 0 ∧ u66 34 4 = 0 ∧ u66 34 7 = 0 ∧ u66 34 8 = 0 ∧ u66 34 10 = 0 ∧ u66 34 14 = 0 ∧ u66 34 15 = 0) ∧ (u66 49 16 = bo X ∧ u66 49 17 = 1 - (bF X : Int) ∧ u66 49 18 = -1 ∧ u66 49 10 = 0) ∧ ∀ cc y : Nat, ¬ (cc = 34 ∧ (y = 1 ∨ y = 3 ∨ y = 4 ∨ y = 7 ∨ y = 8 ∨ y = 10 ∨ y = 14 ∨ y = 15)) → ¬ (cc = 49 ∧ (y = 10 ∨ y = 16 ∨ y = 17 ∨ y = 18)) → u66 cc y = u57 cc y
abbrev pn_X (X : BCx) (j : Nat) : Nat → Int := fun i => bV X (bB X 194 ((bB X 188 j).toNat + i)).toNat
abbrev pt_X (X : BCx) (k j : Nat) : Nat → Int := fun i => bA X 29 (6 * (mx_X X k j) + i)
/-- the class ahead of a method's BLOCK -/
def CMb (nn : Nat) (X : BCx) (k j : Nat) (h h0 g hB : ms_M) : Prop := ∃ u57 u66 : ms_M, qf_X6_beginMethod nn ((mx_X X k j : Nat) : Int) h = some u57 ∧ WFc h u57 ∧ UZm X u57 u66 ∧ ((bF X = 1 ∧ CLa (-1) (bo X) u66 h0) ∨ (bF X = 0 ∧ h0 = u66)) ∧ CPR (pn_X X j) (pt_X X k j) (bB X 189 j).toNat h0 g ∧ hB = up_M (up_M (up_M (up_M g 33 8 (bA X 24 (mx_X X k j))) 33 9 (-1)) 33 12 0) 2 10 (bA X 23 (mx_X X k j))
def RZm (X : BCx) (j : Nat) (r r0 : ms_M) : Prop := (r0 160 51 = (j : Int) ∧ r0 160 52 = bo X ∧ r0 160 53 = 1 - (bF X : Int) ∧ r0 160 50 = 0 ∧ r0 160 54 = 0 ∧ r0 160 57 = 0) ∧ ∀ cc y : Nat, ¬ (cc = 160 ∧ (y = 50 ∨ y = 51 ∨ y = 52 ∨ y = 53 ∨ y = 54 ∨ y = 57)) → r0 cc y = r cc y
section
variable {nn : Nat} {X : BCx} {k j i n : Nat} {h h0 g u r r0 m w hB : ms_M} {v : Int}
theorem c_bgf {x : Int} : Pc (qf_X6_beginMethod nn x h) (fun u => ∀ cc y : Nat, ¬ (cc = 45 ∧ (y = 4 ∨ y = 5 ∨ y = 7)) → ¬ (46 ≤ cc ∧ cc ≤ 48) → u cc y = h cc y) := fun u eu cc y z1 z2 => ff_X6_beginMethod nn u eu cc y (nw_of (by unfold wl_X6_beginMethod; simp only [List.mem_cons, List.not_mem_nil, or_false]; omega) (by unfold wf_X6_beginMethod; simp only [List.mem_cons, List.not_mem_nil, or_false, Prod.mk.injEq]; omega))
theorem c_bg5 {x : Int} : Pc (qf_X6_beginMethod nn x h) (fun u => h 45 5 = 1 → u 45 5 = 1) := by
  have T : ∀ s0 : Int, Pc (qj_X6_beginMethod_17 nn x s0 h) (fun u => h 45 5 = 1 → u 45 5 = 1) := fun s0 => by
    unfold qj_X6_beginMethod_17
    refine pc_sv c_ptf ?_; intro u2 W2
    refine pc_se ?_; intro u5 _
    refine pc_sv c_k5 ?_; intro u7 q7
    refine pc_sv c_ptf ?_; intro u9 W9
    refine pc_se ?_; intro u12 _
    refine pc_sv c_k5 ?_; intro u14 q14
    refine pc_sv c_ptf ?_; intro u16 W16
    exact pc_ret (fun z => W16.1 (q14 (W9.1 (q7 (W2.1 z)))))
  unfold qf_X6_beginMethod
  refine pc_se ?_; intro u19 _
  exact pc_if (fun _ => T 0) (fun _ => T 1)
/-- the class's way to the BLOCK -/
theorem c_mbeg (Y : CXs X) (M : MTm X k j) (J : JBw X h r) {Z : ms_M → Prop} (HK : ∀ h0 g hB, CMb nn X k j h h0 g hB → Pc (mx_sv (qf_X0_readBlock nn 0 hB) fun u31 => if u31.1 = 0 then (qj_X0_makeMethod_199 nn ((mx_X X k j : Nat) : Int) u31.2) else (if (u31.2 33 8) = 303 then (qj_X0_makeMethod_189 nn ((mx_X X k j : Nat) : Int) u31.2) else (mx_sv (qf_X2_tokenOfMethod nn ((mx_X X k j : Nat) : Int) u31.2) fun u36 => mx_sv (qf_X9_tell nn 8 u36 u31.2) fun u38 => qj_X0_makeMethod_189 nn ((mx_X X k j : Nat) : Int) u38))) Z) : Pc (qf_X0_makeMethod nn (k : Int) ((mcn_T (bB X) k 1 j : Nat) : Int) h) Z := by
  have k8 := M.1.2
  have m3 := M.2.2.1
  have m4 := M.2.2.2
  have exx : mx_X X k j = 12 * k + mcn_T (bB X) k 1 j := rfl
  obtain ⟨⟨x96, -⟩, MB, -⟩ := mt_row Y M
  unfold qf_X0_makeMethod
  refine pc_xl ?_; intro v52 e52
  rw [oq_mul_eq (by omega) (by omega) (by omega)] at e52
  refine pc_add (by omega) ?_; intro v53 e53
  rw [show v53 = ((mx_X X k j : Nat) : Int) by omega]
  refine pc_add (by omega) ?_; intro v54 e54
  rw [show v54 = bo X by omega]
  refine pc_se ?_; intro u57 e57
  have W57 : WFc h u57 := ⟨c_bg5 u57 e57, c_bgf u57 e57⟩
  have G57 : ∀ cc x : Nat, (17 ≤ cc ∧ cc ≤ 29) → u57 cc x = bA X cc x := fun cc x z => by rw [W57.2 cc x (by omega) (by omega)]; exact J.2.2.2.2.2 cc x z
  refine pc_sv (P := fun u60 => (u60 34 1 = 0 ∧ u60 34 3 = 0 ∧ u60 34 4 = 0 ∧ u60 34 7 = 0 ∧ u60 34 8 = 0 ∧ u60 34 10 = 0 ∧ u60 34 14 = 0 ∧ u60 34 15 = 0) ∧ ∀ cc y : Nat, ¬ (cc = 34 ∧ (y = 1 ∨ y = 3 ∨ y = 4 ∨ y = 7 ∨ y = 8 ∨ y = 10 ∨ y = 14 ∨ y = 15)) → u60 cc y = u57 cc y) ?_ ?_
  · unfold qf_X1_beginMethod
    refine pc_xl ?_; intro h1 e1
    refine pc_xl ?_; intro h2 e2
    refine pc_xl ?_; intro h3 e3
    refine pc_xl ?_; intro h4 e4
    refine pc_xl ?_; intro h5 e5
    refine pc_xl ?_; intro h6 e6
    refine pc_xl ?_; intro h7 e7
    refine pc_xl ?_; intro h8 e8
    refine pc_ret ⟨⟨?_, ?_, ?_, ?_, ?_, ?_, ?_, by rw [e8, up_s]⟩, fun cc y z => by rw [e8, up_n (by omega), e7, up_n (by omega), e6, up_n (by omega), e5, up_n (by omega), e4, up_n (by omega), e3, up_n (by omega), e2, up_n (by omega), e1, up_n (by omega)]⟩
    · rw [e8, up_n (by omega), e7, up_n (by omega), e6, up_n (by omega), e5, up_n (by omega), e4, up_n (by omega), e3, up_n (by omega), e2, up_n (by omega), e1, up_s]
    · rw [e8, up_n (by omega), e7, up_n (by omega), e6, up_n (by omega), e5, up_n (by omega), e4, up_n (by omega), e3, up_n (by omega), e2, up_s]
    · rw [e8, up_n (by omega), e7, up_n (by omega), e6, up_n (by omega), e5, up_n (by omega), e4, up_n (by omega), e3, up_s]
    · rw [e8, up_n (by omega), e7, up_n (by omega), e6, up_n (by omega), e5, up_n (by omega), e4, up_s]
    · rw [e8, up_n (by omega), e7, up_n (by omega), e6, up_n (by omega), e5, up_s]
    · rw [e8, up_n (by omega), e7, up_n (by omega), e6, up_s]
    · rw [e8, up_n (by omega), e7, up_s]
  intro u60 ⟨Z60, E60⟩
  refine pc_sv (c_mFix Y M (fun cc x z => by rw [E60 cc x (by omega)]; exact G57 cc x z)) ?_; intro u64 q64
  refine pc_sv (P := fun u66 => UZm X u57 u66) ?_ ?_
  · unfold qf_X10_beginMethod
    refine pc_xl ?_; intro h1 e1
    refine pc_ck (fun _ => ?_)
    refine pc_xl ?_; intro h3 e3
    refine pc_xl ?_; intro h4 e4
    refine pc_xl ?_; intro h5 e5
    have E : ∀ cc y : Nat, ¬ (cc = 49 ∧ (y = 10 ∨ y = 16 ∨ y = 17 ∨ y = 18)) → h5 cc y = u60 cc y := fun cc y z => by rw [e5, up_n (by omega), e4, up_n (by omega), e3, up_n (by omega), e1, up_n (by omega)]
    refine pc_ret ⟨by rw [E 34 1 (by omega), E 34 3 (by omega), E 34 4 (by omega), E 34 7 (by omega), E 34 8 (by omega), E 34 10 (by omega), E 34 14 (by omega), E 34 15 (by omega)]; exact Z60, ⟨?_, ?_, ?_, by rw [e5, up_s]⟩, fun cc y z1 z2 => by rw [E cc y z2]; exact E60 cc y z1⟩
    · rw [e5, up_n (by omega), e4, up_n (by omega), e3, up_n (by omega), e1, up_s]
    · rw [e5, up_n (by omega), e4, up_n (by omega), e3, up_s, q64]
    · rw [e5, up_n (by omega), e4, up_s]
  intro u66 U66
  have G66 : ∀ cc x : Nat, (17 ≤ cc ∧ cc ≤ 29) → u66 cc x = bA X cc x := fun cc x z => by rw [U66.2.2 cc x (by omega) (by omega)]; exact G57 cc x z
  refine pc_sv (c_mFix Y M G66) ?_; intro u69 q69
  -- behind the local this
  have GO : ∀ h0 : ms_M, ((bF X = 1 ∧ CLa (-1) (bo X) u66 h0) ∨ (bF X = 0 ∧ h0 = u66)) → Pc (qw_X0_makeMethod_70 nn nn ((mx_X X k j : Nat) : Int) 0 h0) Z := fun h0 hh => by
    have z7 := U66.1.2.2.2.1
    have G0 : ∀ cc x : Nat, (17 ≤ cc ∧ cc ≤ 29) → h0 cc x = bA X cc x := fun cc x z => by
      rcases hh with ⟨-, A⟩ | ⟨-, e⟩
      · rw [A.2.2.2 cc x (by omega) (by omega)]; exact G66 cc x z
      · rw [e]; exact G66 cc x z
    have s7 : 0 ≤ h0 34 7 ∧ h0 34 7 ≤ 10 := by
      rcases hh with ⟨-, A⟩ | ⟨-, e⟩
      · rw [A.1]; omega
      · rw [e]; omega
    refine c_pars Y M G0 s7 (fun g C => ?_) nn 0 h0 (by have := MB.2.2.1.2.1; omega) cpr_0
    obtain ⟨-, CF⟩ := cpr_f _ _ _ C
    have GG : ∀ cc x : Nat, (17 ≤ cc ∧ cc ≤ 29) → g cc x = bA X cc x := fun cc x z => by rw [CF cc x (by omega) (by omega)]; exact G0 cc x z
    refine pc_sv (c_mRes Y M GG) ?_; intro u21 q21
    refine pc_xl ?_; intro h22 e22
    refine pc_xl ?_; intro h23 e23
    refine pc_xl ?_; intro h24 e24
    refine pc_sv (c_mBod Y M (fun cc x z => by rw [e24, up_n (by omega), e23, up_n (by omega), e22, up_n (by omega)]; exact GG cc x z)) ?_; intro u28 q28
    refine pc_xl ?_; intro h29 e29
    exact HK h0 g h29 ⟨u57, u66, e57, W57, U66, hh, C, by rw [e29, e24, e23, e22, q28, q21]⟩
  refine pc_if (fun z => GO u66 (.inr ⟨by omega, rfl⟩)) (fun z => ?_)
  have z7 := U66.1.2.2.2.1
  refine pc_sv (c_addLocal (by omega)) ?_; intro u72 ⟨_, A⟩
  exact GO u72.2 (.inl ⟨by omega, A⟩)
/-- the rules' way to the parameters -/
theorem r_mrul (M : MTm X k j) (J : JBw X h r) {fuel : Nat} {Z : ms_M → Prop} (HK : ∀ r0, RZm X j r r0 → (j : Int) < 800 → Pc (qw_X13_bodies_83 nn (qw_X13_bodies_2 nn fuel) nn (j : Int) 0 r0) Z) : Pc (qw_X13_bodies_2 nn (fuel + 1) (j : Int) r) Z := by
  obtain ⟨⟨j1, k8⟩, ms, m3, m4⟩ := M
  have m28 := J.1.2.2.2.1
  have B := J.2.2.2.2.1
  have k1 := ms.1
  unfold qw_X13_bodies_2
  refine pc_if (fun z => absurd z (by omega)) (fun _ => ?_)
  refine pc_if (fun z => absurd J.2.1.2 z) (fun _ => ?_)
  refine pc_rA ?_; intro _ j8 v40 e40
  rw [Int.toNat_natCast, B 182 _ (by omega)] at e40
  refine pc_if (fun _ => ?_) (fun z => absurd (show ¬ v40 = 0 by omega) z)
  refine pc_xl ?_; intro h41 e41
  refine pc_rA ?_; intro _ _ v43 e43
  rw [Int.toNat_natCast, e41, up_n (by omega), B 181 _ (by omega)] at e43
  refine pc_add (by omega) ?_; intro v44 e44
  refine pc_xl ?_; intro h45 e45
  refine pc_rA ?_; intro _ _ v47 e47
  rw [Int.toNat_natCast, e45, up_n (by omega), e41, up_n (by omega), B 182 _ (by omega)] at e47
  have T63 : ∀ s0 : Int, s0 = 1 - (bF X : Int) → Pc (qj_X13_bodies_63 nn (qw_X13_bodies_2 nn fuel) (j : Int) s0 h45) Z := fun s0 es => by
    unfold qj_X13_bodies_63
    refine pc_ck (fun _ => ?_)
    refine pc_xl ?_; intro h33 e33
    refine pc_xl ?_; intro h34 e34
    refine pc_xl ?_; intro h35 e35
    refine pc_xl ?_; intro h36 e36
    refine HK h36 ⟨⟨?_, ?_, ?_, ?_, ?_, by rw [e36, up_s]⟩, fun cc y z => by rw [e36, up_n (by omega), e35, up_n (by omega), e34, up_n (by omega), e33, up_n (by omega), e45, up_n (by omega), e41, up_n (by omega)]⟩ j8
    · rw [e36, up_n (by omega), e35, up_n (by omega), e34, up_n (by omega), e33, up_n (by omega), e45, up_n (by omega), e41, up_s]
    · rw [e36, up_n (by omega), e35, up_n (by omega), e34, up_n (by omega), e33, up_n (by omega), e45, up_s]; omega
    · rw [e36, up_n (by omega), e35, up_n (by omega), e34, up_n (by omega), e33, up_s]; exact es
    · rw [e36, up_n (by omega), e35, up_n (by omega), e34, up_s]
    · rw [e36, up_n (by omega), e35, up_s]
  exact pc_if (fun z => T63 0 (by omega)) (fun z => T63 1 (by omega))
theorem bx_m0 (Y : CXs X) (M : MTm X k j) (J : JBw X h r) {u57 u66 : ms_M} (W : WFc h u57) (U : UZm X u57 u66) (hh : (bF X = 1 ∧ CLa (-1) (bo X) u66 h0) ∨ (bF X = 0 ∧ h0 = u66)) (R : RZm X j r r0) : BX X h0 r0 := by
  obtain ⟨j1, j2, j3, j4, j5, j6⟩ := J
  have n8 := Y.2.2.1
  have ow := Y.2.2.2.1
  have z7 := U.1.2.2.2.1
  have E : ∀ cc y : Nat, ¬ (cc = 34 ∨ cc = 37 ∨ cc = 38) → ¬ (cc = 49 ∧ (y = 10 ∨ y = 16 ∨ y = 17 ∨ y = 18)) → ¬ (cc = 45 ∧ (y = 4 ∨ y = 5 ∨ y = 7)) → ¬ (46 ≤ cc ∧ cc ≤ 48) → h0 cc y = h cc y := fun cc y z1 z2 z3 z4 => by
    have e1 : u66 cc y = h cc y := by rw [U.2.2 cc y (by omega) z2]; exact W.2 cc y z3 z4
    rcases hh with ⟨-, A⟩ | ⟨-, e⟩
    · rw [A.2.2.2 cc y (by omega) (by omega)]; exact e1
    · rw [e]; exact e1
  have E49 : ∀ y : Nat, h0 49 y = u66 49 y := fun y => by
    rcases hh with ⟨-, A⟩ | ⟨-, e⟩
    · exact A.2.2.2 49 y (by omega) (by omega)
    · rw [e]
  have s7 : h0 34 7 = (bF X : Int) ∧ (bF X = 1 → h0 37 0 = -1 ∧ h0 38 0 = bo X) ∧ (bF X = 0 ∨ bF X = 1) := by
    rcases hh with ⟨f, A⟩ | ⟨f, e⟩
    · have a := A.2.2.1 (by omega)
      rw [show (u66 34 7).toNat = 0 by omega] at a
      exact ⟨by rw [A.1]; omega, fun _ => a, .inr f⟩
    · exact ⟨by rw [e]; omega, fun q => by omega, .inl f⟩
  obtain ⟨s7, s8, s9⟩ := s7
  obtain ⟨⟨r1, r2, r3, r4, r5, r6⟩, RF⟩ := R
  refine ⟨hds_k j1 (fun cc x z => E cc x (by omega) (by omega) (by omega) (by omega)) (fun cc x z => RF cc x (by omega)), ⟨⟨by omega, by omega, by omega⟩, ?_, fun s hs => by omega⟩, ⟨by rw [E49 16]; exact U.2.1.1, r2⟩, ?_, fun i hi ki => by rw [E 5 i (by omega) (by omega) (by omega) (by omega)]; exact j3 i hi ki, fun cc x z => by rw [RF cc x (by omega)]; exact j4 cc x z, fun cc x z => by rw [RF cc x (by omega)]; exact j5 cc x z, fun cc x z => by rw [E cc x (by omega) (by omega) (by omega) (by omega)]; exact j6 cc x z, fun s hs => ?_⟩
  · rcases s9 with f | f
    · exact .inl f
    · exact .inr ⟨f, s8 f⟩
  · have u17 := U.2.1.2.1
    rw [E49 17, u17, r3]
    rcases s9 with f | f
    · right; rw [f]; exact ⟨by decide, by decide, rfl⟩
    · left; rw [f]; exact ⟨by decide, by decide, rfl⟩
  · have f1 : bF X = 1 := by omega
    rw [show s = 0 by omega, (s8 f1).2]
    exact ⟨.inr (.inr (.inr (.inr (.inr (.inl (by omega)))))), by omega⟩
/-- the rules' parameters -/
theorem r_pars (Y : CXs X) (M : MTm X k j) (BX0 : BX X h0 r0) {fuel0 : Nat} {Z : ms_M → Prop} (C : CPR (pn_X X j) (pt_X X k j) (bB X 189 j).toNat h0 g) (s7 : h0 34 7 ≤ 10) (HK : ∀ r1, BX X g r1 → (∀ cc y : Nat, ¬ (cc = 160 ∧ y = 50) → ¬ (cc = 196 ∨ cc = 197) → r1 cc y = r0 cc y) → Pc (rd_A 800 190 (j : Int) r1 fun v4 => mx_sv (qf_X13_ruled nn v4 r1) fun u6 => if u6.1 = 0 then (xl (oq_add (j : Int) 1) fun v7 => qw_X13_bodies_2 nn fuel0 v7 u6.2) else (rd_A 800 187 (j : Int) u6.2 fun v9 => if v9 = 3 then (xl (oq_add (j : Int) 1) fun v10 => qw_X13_bodies_2 nn fuel0 v10 u6.2) else (rd_A 800 186 (j : Int) u6.2 fun v12 => mx_sv (qf_X13_wrong nn 8 v12 u6.2) fun u14 => xl (oq_add (j : Int) 1) fun v15 => qw_X13_bodies_2 nn fuel0 v15 u14))) Z) : Pc (qw_X13_bodies_83 nn (qw_X13_bodies_2 nn fuel0) nn (j : Int) 0 r0) Z := by
  obtain ⟨-, MB, -, -, b188, vp⟩ := mt_row Y M
  have p6 := MB.2.2.1
  obtain ⟨f, f0, f1, f2⟩ := C
  have L : ∀ (fu i : Nat) (r : ms_M), (i : Int) ≤ bB X 189 j → BX X (f i) r → (∀ cc y : Nat, ¬ (cc = 160 ∧ y = 50) → ¬ (cc = 196 ∨ cc = 197) → r cc y = r0 cc y) → Pc (qw_X13_bodies_83 nn (qw_X13_bodies_2 nn fuel0) fu (j : Int) (i : Int) r) Z := by
    intro fu
    induction fu with
    | zero => intro i r hi Bi E; exact fun _ z => nomatch z
    | succ fu ih =>
      intro i r hi Bi E
      have T := Bi.2.2.2.2.2.2.1
      obtain ⟨c7, -⟩ := cpr_f i h0 (f i) ⟨f, f0, rfl, fun t ht => f2 t (by omega)⟩
      unfold qw_X13_bodies_83
      refine pc_rA ?_; intro _ _ v2 e2
      rw [Int.toNat_natCast, T 189 _ (by omega)] at e2
      refine pc_if (fun z => ?_) (fun z => ?_)
      · rw [show i = (bB X 189 j).toNat by omega, f1] at Bi
        exact HK r Bi E
      · obtain ⟨p1, ⟨p2, p3, p4⟩, p5, -⟩ := MB.2.2.2.1 i (by omega)
        refine pc_rA ?_; intro _ _ v20 e20
        rw [Int.toNat_natCast, T 188 _ (by omega)] at e20
        refine pc_add (by omega) ?_; intro v21 e21
        refine pc_rA ?_; intro _ _ v22 e22
        rw [show v21.toNat = (bB X 188 j).toNat + i by omega, T 194 _ (by omega)] at e22
        refine pc_rA ?_; intro _ _ v25 e25
        rw [Int.toNat_natCast, T 188 _ (by omega)] at e25
        refine pc_add (by omega) ?_; intro v26 e26
        refine pc_rA ?_; intro _ _ v27 e27
        rw [show v26.toNat = (bB X 188 j).toNat + i by omega, T 195 _ (by omega), p4] at e27
        rw [e22, e27]
        refine pc_sv r_come ?_; intro u29 RC
        have A := f2 i (by omega)
        have tk := M.2.2.2.2 i (by omega)
        have ec : bB X 194 ((bB X 188 j).toNat + i) = (((bB X 194 ((bB X 188 j).toNat + i)).toNat : Nat) : Int) := by omega
        rw [ec] at RC
        have B2 : BX X (f (i + 1)) u29 := bx_loc Bi A RC rfl tk.2 (by omega) ⟨vp i (by omega), p5⟩
        refine pc_add (by omega) ?_; intro v30 e30
        rw [show v30 = ((i + 1 : Nat) : Int) by omega]
        exact ih (i + 1) u29 (by omega) B2 (fun cc y z1 z2 => by rw [RC.2.2.2.2 cc y z1 (by omega)]; exact E cc y z1 z2)
  exact L nn 0 r0 (by omega) (by rw [f0]; exact BX0) (fun _ _ _ _ => rfl)
end
