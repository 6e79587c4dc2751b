/- MEMBER of the pool, both sides -/
section
variable {nn : Nat} {X : BCx} {h g u r v w m : ms_M}
theorem mb_ix {s : Int} {j k : Nat} (M : MTB (bV X) (bC X) (bn X) (bM X) (bq X) (bA X) (bB X)) (hj : j < bM X) (hk : k < 8) (hs : s = 0 ∨ s = 1) (A : MSm (bB X) k s j) : mcn_T (bB X) k s j < mcn_T (bB X) k s (bM X) ∧ mcn_T (bB X) k s (bM X) ≤ 12 := by
  have lt := mcn_lt (r := bB X) hj A
  have q := (M.1 k hk).2
  rcases hs with z | z
  · rw [z] at lt ⊢; exact ⟨lt, q.1⟩
  · rw [z] at lt ⊢; exact ⟨lt, q.2⟩
theorem j_fieldC (Y : CXs X) (H : TXE (bK X) (bV X) (bC X) (bW X) (bn X) (bA X) (bB X) h m) (S : SPL m []) (R : PLR h m) (MB : MBd m) {x j k : Int} (B : MBx X 0 x j) (hk : 0 ≤ k ∧ k < 8 + (bn X : Int)) : Pc (qf_X6_fieldOf nn k x h) (fun u => Pc (qf_X13_memberConstant nn k j m) (fun w => PCo h m u w ∧ SPL w.2 [])) := by
  obtain ⟨-, -, n8, -, -, -, HD, s0, TF, -⟩ := Y
  obtain ⟨ji, kk, ⟨j1, k8⟩, ms, ej, ex⟩ := B
  have MT := HD.2.2.1
  obtain ⟨i1, i2⟩ := mb_ix MT j1 k8 (.inl rfl) ms
  obtain ⟨f1, f2, f3, f4⟩ := MT.2.1 ji kk j1 k8 ms
  have d2 := HD.2.2.2.2.1 ji j1
  have c17 := (MT.1 kk k8).1.1
  have vt := TF ji kk j1 k8 ms
  have s1 := s0 ji j1
  have b182 : bB X 182 ji = 0 := by
    rcases ms.2 with ⟨-, z⟩ | ⟨z, -⟩
    · exact absurd z (by decide)
    · omega
  generalize ec : mcn_T (bB X) kk 0 ji = cn at *
  subst ex; subst ej
  have x96 : 12 * kk + cn < 96 := by omega
  have hx : (((12 * kk + cn) % 12 : Nat) : Int) < bA X 17 ((12 * kk + cn) / 12) := by
    rw [show (12 * kk + cn) / 12 = kk by omega, show (12 * kk + cn) % 12 = cn by omega, c17]; omega
  have ek : k = ((k.toNat : Nat) : Int) := by omega
  rw [ek]
  unfold qf_X6_fieldOf
  refine j_mb3 n8 H S R MB (j := ji) (t := (bB X 186 ji).toNat) (k := k.toNat) (by omega) d2.2 (by omega) (F1 := fun g => qf_X2_nameOfField nn ((12 * kk + cn : Nat) : Int) g) (F2 := fun g => qf_X2_kindOfField nn ((12 * kk + cn : Nat) : Int) g) (fun g w G GF => ?_) (fun g w G S2 R2 B2 y ey => ?_)
  · unfold qf_X2_nameOfField
    refine pc_if (fun z => absurd z (by omega)) (fun _ => ?_)
    refine pc_if (fun z => absurd z (by omega)) (fun _ => ?_)
    refine pc_rA ?_; intro _ _ v4 e4
    rw [Int.toNat_natCast, G.2.1 18 _ (by omega), f1] at e4
    exact pc_ret e4
  · have K : Pc (qf_X2_kindOfField nn ((12 * kk + cn : Nat) : Int) g) (fun y => y = g 20 (12 * kk + cn)) := by
      unfold qf_X2_kindOfField
      refine pc_if (fun z => absurd z (by omega)) (fun _ => ?_)
      refine pc_if (fun z => absurd z (by omega)) (fun _ => ?_)
      refine pc_rA ?_; intro _ _ v4 e4
      rw [Int.toNat_natCast] at e4
      exact pc_ret e4
    rw [K y ey]
    exact j_kindF n8 G S2 R2 B2 x96 hx b182 ⟨vt, f2.2.1⟩ f2.2.2
theorem j_methC (Y : CXs X) (H : TXE (bK X) (bV X) (bC X) (bW X) (bn X) (bA X) (bB X) h m) (TB0 : TBc (bK X) (bP X) (bc X) h) (VL0 : VLc (bK X) (bV X) (bc X) h) (S : SPL m []) (R : PLR h m) (MB : MBd m) {x j k : Int} (B : MBx X 1 x j) (hk : 0 ≤ k ∧ k < 8 + (bn X : Int)) : Pc (qf_X6_methodOf nn k x h) (fun u => Pc (qf_X13_memberConstant nn k j m) (fun w => PCo h m u w ∧ SPL w.2 [])) := by
  obtain ⟨BK, -, n8, -, -, -, HD, s0, -, TM⟩ := Y
  obtain ⟨ji, kk, ⟨j1, k8⟩, ms, ej, ex⟩ := B
  have MT := HD.2.2.1
  obtain ⟨i1, i2⟩ := mb_ix MT j1 k8 (.inr rfl) ms
  obtain ⟨⟨f1, f2⟩, f3, ⟨f4, f5, f6, f7⟩, f8, -, -⟩ := MT.2.2.1 ji kk j1 k8 ms
  have d2 := HD.2.2.2.2.1 ji j1
  have c21 := (MT.1 kk k8).1.2
  obtain ⟨vt, v188, vp⟩ := TM ji kk j1 k8 ms
  have b182 : 0 < bB X 182 ji := by
    rcases ms.2 with ⟨z, -⟩ | ⟨-, z⟩
    · exact z
    · exact absurd z (by decide)
  generalize ec : mcn_T (bB X) kk 1 ji = cn at *
  subst ex; subst ej
  have x96 : 12 * kk + cn < 96 := by omega
  have hx : (((12 * kk + cn) % 12 : Nat) : Int) < bA X 21 ((12 * kk + cn) / 12) := by
    rw [show (12 * kk + cn) / 12 = kk by omega, show (12 * kk + cn) % 12 = cn by omega, c21]; omega
  have ek : k = ((k.toNat : Nat) : Int) := by omega
  rw [ek]
  unfold qf_X6_methodOf
  refine j_mb3 n8 H S R MB (j := ji) (t := (bB X 186 ji).toNat) (k := k.toNat) (by omega) d2.2 (by omega) (F1 := fun g => qf_X2_nameOfMethod nn ((12 * kk + cn : Nat) : Int) g) (F2 := fun g => qf_X2_kindOfMethod nn ((12 * kk + cn : Nat) : Int) g) (fun g w G GF => ?_) (fun g w G S2 R2 B2 y ey => ?_)
  · have TB : TBc (bK X) (bP X) (bc X) g := tbc_k TB0 (fun cc y z => GF cc y (by omega) (by omega) (by omega))
    have VL : VLc (bK X) (bV X) (bc X) g := fun i hi ki => by rw [GF 5 i (by omega) (by omega) (by omega)]; exact VL0 i hi ki
    unfold qf_X2_nameOfMethod
    have IM : Pc (qf_X2_isMethod nn ((12 * kk + cn : Nat) : Int) g) (fun y => y = 1) := by
      unfold qf_X2_isMethod
      refine pc_if (fun z => absurd z (by omega)) (fun _ => ?_)
      refine pc_if (fun z => absurd z (by omega)) (fun _ => ?_)
      refine pc_xl ?_; intro v3 e3
      refine pc_xl ?_; intro v5 e5
      have y3 : v3 = (cn : Int) := by rw [e3, Int.tmod_eq_emod_of_nonneg (by omega)]; omega
      have y5 : v5 = (kk : Int) := by rw [e5, Int.tdiv_eq_ediv_of_nonneg (by omega)]; omega
      refine pc_rA ?_; intro _ _ v6 e6
      rw [y5, Int.toNat_natCast, G.2.1 21 _ (by omega), c21] at e6
      exact pc_if (fun z => absurd z (by omega)) (fun _ => pc_ret rfl)
    refine pc_sv IM ?_; intro u2 q2
    refine pc_if (fun z => absurd z (by omega)) (fun _ => ?_)
    refine pc_rA ?_; intro _ _ v5 e5
    rw [Int.toNat_natCast, G.2.1 22 _ (by omega), f1] at e5
    refine pc_sv (c_valueAt BK TB VL (t := (bB X 186 ji).toNat) d2.2 (by omega)) ?_; intro u7 q7
    exact pc_ret q7
  · have K : Pc (qf_X2_kindOfMethod nn ((12 * kk + cn : Nat) : Int) g) (fun y => y = g 26 (12 * kk + cn)) := by
      unfold qf_X2_kindOfMethod
      refine pc_if (fun z => absurd z (by omega)) (fun _ => ?_)
      refine pc_if (fun z => absurd z (by omega)) (fun _ => ?_)
      refine pc_rA ?_; intro _ _ v4 e4
      rw [Int.toNat_natCast] at e4
      exact pc_ret e4
    rw [K y ey]
    refine j_kindM n8 G S2 R2 B2 (pn := (bB X 189 ji).toNat) (bp := (bB X 188 ji).toNat) x96 hx b182 ⟨vt, f2.2.1⟩ f2.2.2 (by omega) (by omega) (by omega) (by omega) (fun i hi => ?_)
    obtain ⟨-, p2, p3, -⟩ := f8 i (by omega)
    exact ⟨⟨vp i (by omega), p2.2.1⟩, p2.2.2⟩
end
