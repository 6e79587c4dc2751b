/- calls: a method of both sides -/
/-- what is known of method x of the class, j of the reference -/
def MTf (X : BCx) (h r : ms_M) (x j : Nat) : Prop := (x < 96 ∧ ((x % 12 : Nat) : Int) < h 21 (x / 12)) ∧ ((r 182 j = 2 ∧ h 25 x = 1) ∨ (r 182 j = 1 ∧ h 25 x = 0)) ∧ (h 27 x = r 189 j ∧ 0 ≤ r 189 j ∧ r 189 j ≤ 6 ∧ 0 ≤ r 188 j ∧ r 188 j ≤ 1500) ∧ (∀ i : Nat, (i : Int) < r 189 j → VTn (bn X) (h 29 (6 * x + i)) ∧ ¬ h 29 (6 * x + i) = 303 ∧ r 195 ((r 188 j).toNat + i) = ty_T (h 29 (6 * x + i))) ∧ VTn (bn X) (h 24 x) ∧ ¬ h 24 x = 300 ∧ r 187 j = ty_T (h 24 x)
section
variable {nn : Nat} {X : BCx} {dp i l a b e s k : Int} {p q t : Nat} {h g u r w m : ms_M} {v : Int × ms_M}
theorem mtf_of (Y : CXs X) (B : BX X h r) {x j : Int} (MB : MBx X 1 x j) : ∃ xn jn : Nat, x = (xn : Int) ∧ j = (jn : Int) ∧ MTf X h r xn jn := by
  obtain ⟨BK, -, n8, -, -, -, HD, s0, -, TM⟩ := Y
  obtain ⟨ji, kk, ⟨j1, k8⟩, ms, ej, ex⟩ := MB
  have MT := HD.2.2.1
  obtain ⟨i1, i2⟩ := mb_ix MT j1 k8 (.inr rfl) ms
  obtain ⟨⟨f1, f2⟩, f3, ⟨f4, f5, f6, f7⟩, f8, -, -⟩ := MT.2.2.1 ji kk j1 k8 ms
  have c21 := (MT.1 kk k8).1.2
  obtain ⟨vt, v188, vp⟩ := TM ji kk j1 k8 ms
  have HA := B.2.2.2.2.2.2.2.1
  have HB := B.2.2.2.2.2.2.1
  generalize ec : mcn_T (bB X) kk 1 ji = cn at *
  refine ⟨12 * kk + cn, ji, ex, ej, ⟨by omega, ?_⟩, ?_, ⟨?_, ?_⟩, fun i hi => ?_, ?_, ?_, ?_⟩
  · rw [show (12 * kk + cn) / 12 = kk by omega, show (12 * kk + cn) % 12 = cn by omega, HA 21 _ (by omega), c21]; omega
  · rw [HB 182 _ (by omega), HA 25 _ (by omega)]; exact f3
  · rw [HA 27 _ (by omega), HB 189 _ (by omega)]; exact f4
  · rw [HB 189 _ (by omega), HB 188 _ (by omega)]; exact ⟨f5, f6, f7, v188⟩
  · rw [HB 189 _ (by omega)] at hi
    rw [HA 29 _ (by omega), HB 188 _ (by omega), HB 195 _ (by omega)]
    exact ⟨vp i hi, (f8 i hi).2.2.1, (f8 i hi).2.1.2.2⟩
  · rw [HA 24 _ (by omega)]; exact vt
  · rw [HA 24 _ (by omega)]; exact f2.2.1
  · rw [HA 24 _ (by omega), HB 187 _ (by omega)]; exact f2.2.2
theorem mtf_k {x j : Nat} (M : MTf X h r x j) (e1 : ∀ cc y : Nat, 21 ≤ cc ∧ cc ≤ 29 → g cc y = h cc y) (e2 : ∀ cc y : Nat, 182 ≤ cc ∧ cc ≤ 195 → w cc y = r cc y) : MTf X g w x j := by
  obtain ⟨m1, m2, m3, m4, m5, m6, m7⟩ := M
  refine ⟨⟨m1.1, by rw [e1 21 _ (by omega)]; exact m1.2⟩, by rw [e1 25 _ (by omega), e2 182 _ (by omega)]; exact m2, by rw [e1 27 _ (by omega), e2 189 _ (by omega), e2 188 _ (by omega)]; exact m3, fun i hi => ?_, by rw [e1 24 _ (by omega)]; exact m5, by rw [e1 24 _ (by omega)]; exact m6, by rw [e1 24 _ (by omega), e2 187 _ (by omega)]; exact m7⟩
  rw [e2 189 _ (by omega)] at hi
  rw [e1 29 _ (by omega), e2 188 _ (by omega), e2 195 _ (by omega)]
  exact m4 i hi
theorem c_isMt {x : Nat} (h1 : x < 96 ∧ ((x % 12 : Nat) : Int) < h 21 (x / 12)) : Pc (qf_X2_isMethod nn (x : Int) h) (fun y => y = 1) := by
  unfold qf_X2_isMethod
  refine pc_if (fun z => absurd z (by omega)) (fun _ => ?_)
  refine pc_if (fun z => absurd z (by omega)) (fun _ => ?_)
  refine pc_xl ?_; intro v3 e3
  refine pc_xl ?_; intro v5 e5
  have y3 : v3 = ((x % 12 : Nat) : Int) := by rw [e3, Int.tmod_eq_emod_of_nonneg (by omega)]; omega
  have y5 : v5 = ((x / 12 : Nat) : Int) := by rw [e5, Int.tdiv_eq_ediv_of_nonneg (by omega)]; omega
  refine pc_rA ?_; intro _ _ v6 e6
  rw [y5, Int.toNat_natCast] at e6
  exact pc_if (fun z => absurd z (by omega)) (fun _ => pc_ret rfl)
theorem c_fixd {x j : Nat} (M : MTf X h r x j) : Pc (qf_X2_isFixed nn (x : Int) h) (fun y => (y = 1 ∧ r 182 j = 2) ∨ (y = 0 ∧ r 182 j = 1)) := by
  unfold qf_X2_isFixed
  refine pc_sv (c_isMt M.1) ?_; intro u2 q2
  refine pc_if (fun z => absurd z (by omega)) (fun _ => ?_)
  refine pc_rA ?_; intro _ _ v4 e4
  rw [Int.toNat_natCast] at e4
  have := M.2.1
  exact pc_if (fun z => pc_ret (.inr ⟨rfl, by omega⟩)) (fun z => pc_ret (.inl ⟨rfl, by omega⟩))
theorem c_parN {x j : Nat} (M : MTf X h r x j) : Pc (qf_X2_parametersOf nn (x : Int) h) (fun y => y = r 189 j) := by
  unfold qf_X2_parametersOf
  refine pc_sv (c_isMt M.1) ?_; intro u2 q2
  refine pc_if (fun z => absurd z (by omega)) (fun _ => ?_)
  refine pc_rA ?_; intro _ _ v4 e4
  rw [Int.toNat_natCast] at e4
  exact pc_ret (by rw [e4]; exact M.2.2.1.1)
theorem c_parTy {x j n : Nat} (M : MTf X h r x j) : Pc (qf_X2_parameterType nn (x : Int) (n : Int) h) (fun y => ((n : Int) < r 189 j ∧ y = h 29 (6 * x + n)) ∨ (¬ (n : Int) < r 189 j ∧ y = 305)) := by
  unfold qf_X2_parameterType
  refine pc_if (fun z => absurd z (by omega)) (fun _ => ?_)
  refine pc_sv (c_parN M) ?_; intro u2 q2
  refine pc_if (fun z => pc_ret (.inr ⟨by omega, rfl⟩)) (fun z => ?_)
  have := M.1.1
  have := M.2.2.1
  refine pc_xl ?_; intro v4 e4
  rw [oq_mul_eq (by omega) (by omega) (by omega)] at e4
  refine pc_add (by omega) ?_; intro v5 e5
  refine pc_rA ?_; intro _ _ v6 e6
  rw [show v5.toNat = 6 * x + n by omega] at e6
  exact pc_ret (.inl ⟨by omega, e6⟩)
theorem c_resO {x j : Nat} (M : MTf X h r x j) : Pc (qf_X2_resultOf nn (x : Int) h) (fun y => y = h 24 x) := by
  unfold qf_X2_resultOf
  refine pc_sv (c_isMt M.1) ?_; intro u2 q2
  refine pc_if (fun z => absurd z (by omega)) (fun _ => ?_)
  refine pc_rA ?_; intro _ _ v4 e4
  rw [Int.toNat_natCast] at e4
  exact pc_ret e4
/-- nothing fits what is not there -/
theorem c_fit5 {s : Int} (vs : VTn (bn X) s) (n8 : bn X ≤ 8) : Pc (qf_X4_fits nn 12 s 305 h) (fun u => u = 0) := by
  have V := vtn_v n8 vs
  unfold VTy at V
  unfold qf_X4_fits
  refine pc_if (fun _ => ?_) (fun z => absurd (show ¬ s = 305 by omega) z)
  have P71 : Pc (qj_X4_fits_71 nn 12 s 305 h) (fun u => u = 0) := by
    have P122 : Pc (qj_X4_fits_122 nn 12 s 305 h) (fun u => u = 0) := by
      unfold qj_X4_fits_122 qj_X4_fits_123
      exact pc_if (fun _ => pc_ret rfl) (fun z => absurd rfl z)
    unfold qj_X4_fits_71
    refine pc_if (fun _ => ?_) (fun z => absurd (show ¬ (305 : Int) = 0 by decide) z)
    refine pc_if (fun _ => P122) (fun _ => ?_)
    refine pc_if (fun _ => P122) (fun _ => ?_)
    refine pc_if (fun _ => P122) (fun _ => ?_)
    exact pc_if (fun _ => P122) (fun z => absurd (show (116 : Int) ≤ 305 by decide) z)
  refine pc_if (fun _ => ?_) (fun _ => ?_)
  · refine pc_if (fun _ => P71) (fun _ => ?_)
    refine pc_if (fun _ => P71) (fun _ => ?_)
    refine pc_if (fun z => absurd z (by decide)) (fun _ => ?_)
    exact pc_if (fun _ => pc_ret rfl) (fun z => absurd (by decide) z)
  · refine pc_if (fun z => absurd z (by decide)) (fun _ => ?_)
    exact pc_if (fun _ => pc_ret rfl) (fun z => absurd (by decide) z)
end
