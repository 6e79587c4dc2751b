/- ALL METHODS OF THE SPACE -/
section
variable {nn : Nat} {h g : ms_M}
/-- the space and all Images are the same in both -/
def SPF (h g : ms_M) : Prop := (∀ k, g 60 k = h 60 k) ∧ g 56 3 = h 56 3 ∧ ∀ b, VBb h b → IMQ h g b
theorem spf_refl : SPF h h := ⟨fun _ => rfl, rfl, fun _ _ => imq_refl⟩
theorem spf_tr {z : ms_M} (A : SPF h g) (B : SPF g z) : SPF h z :=
  ⟨fun k => (B.1 k).trans (A.1 k), B.2.1.trans A.2.1, fun b V => imq_tr (A.2.2 b V) (B.2.2 b (vbb_q (A.2.2 b V) V))⟩
theorem spf_fr {L : List Nat} {LF : List (Nat × Nat)} (F : ∀ c k, nw_F L LF false false c k = true → g c k = h c k) (hc : ((L.all (fun x => !(is_I x) && !(Nat.beq (ly_T x) 1)) && LF.all (fun q => !(is_I q.1) && !(Nat.beq (ly_T q.1) 1))) && (nw_F L LF false false 56 3 && (!(L.contains 60) && LF.all (fun q => !(Nat.beq q.1 60))))) = true) : SPF h g := by
  rw [Bool.and_eq_true, Bool.and_eq_true (nw_F L LF false false 56 3)] at hc
  refine ⟨fun k => F _ _ (nw_ar ?_ k), F _ _ hc.2.1, fun b V => imq_fr V F hc.1⟩
  have z := hc.2.2
  rw [Bool.and_eq_true] at z
  simp only [Bool.and_eq_true]
  exact ⟨z.1, z.2, rfl, rfl⟩
theorem spf_up {c k : Nat} {v : Int} (hc : ((!(is_I c) && !(Nat.beq (ly_T c) 1)) && !(Nat.beq c 60)) = true) (h3 : ¬ (c = 56 ∧ k = 3)) : SPF h (up_M h c k v) := by
  rw [Bool.and_eq_true] at hc
  refine ⟨fun j => up_n ?_, up_n (by omega), fun b V => imq_up V hc.1⟩
  rintro ⟨rfl, -⟩; cases hc.2
theorem imq_sy {b : Nat} (A : IMQ h g b) : IMQ g h b := by
  refine ⟨fun i k q => (A.1 i k q).symm, fun k => ?_⟩
  rw [show g b 0 = h b 0 from A.1 0 0 (by omega)]
  exact (A.2 k).symm
section
variable {q3 : Int → ms_M → Option (Int × ms_M)} {q28 : Int → Int → ms_M → Option (Int × ms_M)} {l1 l2 : Int} {Q : Int × ms_M → Prop}
theorem ne_118 (hQ : ∀ r : Int × ms_M, ¬ r.1 = 0 → Q r) {s0 : Int} (hs : ¬ s0 = 0) : Pc (qj_X11_proveMethods_118 nn q3 q28 l1 l2 s0 h) Q := by
  unfold qj_X11_proveMethods_118
  refine pc_if (fun z => absurd z hs) (fun _ => ?_)
  intro r e
  unfold qf_X11_tellNumber at e
  simp only [xl_v] at e
  obtain ⟨u, e1, e⟩ := sv_i e
  cases e1; cases e
  exact hQ _ hs
theorem ne_100 (hQ : ∀ r : Int × ms_M, ¬ r.1 = 0 → Q r) {s0 : Int} (hs : ¬ s0 = 0) : Pc (qj_X11_proveMethods_100 nn q3 q28 l1 l2 s0 h) Q := by
  unfold qj_X11_proveMethods_100
  exact pc_se (fun u _ => pc_if (fun z => absurd z hs) (fun _ => ne_118 hQ hs))
theorem ne_87 (hQ : ∀ r : Int × ms_M, ¬ r.1 = 0 → Q r) {s0 : Int} (hs : ¬ s0 = 0) : Pc (qj_X11_proveMethods_87 nn q3 q28 l1 l2 s0 h) Q := by
  unfold qj_X11_proveMethods_87
  exact pc_if (fun z => absurd z hs) (fun _ => ne_100 hQ hs)
theorem ne_61 (hQ : ∀ r : Int × ms_M, ¬ r.1 = 0 → Q r) {s0 : Int} (hs : ¬ s0 = 0) : Pc (qj_X11_proveMethods_61 nn q3 q28 l1 l2 s0 h) Q := by
  unfold qj_X11_proveMethods_61
  refine pc_if (fun _ => ?_) (fun z => absurd hs z)
  unfold qj_X11_proveMethods_72
  exact pc_se (fun u _ => pc_if (fun z => absurd z hs) (fun _ => ne_87 hQ hs))
/-- a method whose check gives 0 goes well -/
theorem pm_61 (hQ : ∀ r : Int × ms_M, ¬ r.1 = 0 → Q r) (V : VBv h) (P : PIr h) (J : JOK h) (hh : mo h (h 127 5).toNat (h 127 6) 7 ≤ 20) (hk : ∀ g : ms_M, SPF h g → g 127 5 = h 127 5 → BGo h (h 127 5).toNat (h 127 6) (BGm h) → Pc (xl (oq_add l2 1) fun v1 => q28 l1 v1 g) Q) : Pc (qj_X11_proveMethods_61 nn q3 q28 l1 l2 0 h) Q := by
  unfold qj_X11_proveMethods_61
  refine pc_if (fun z => absurd rfl z) (fun _ => ?_)
  unfold qj_X11_proveMethods_72
  refine pc_se (fun u15 e15 => ?_)
  have T15 : TFR h u15 := tf_m V _ e15
  have F15 : SPF h u15 := spf_fr (fun c k w => (ff_X11_takeFrames nn) _ e15 c k w) rfl
  have V15 := vbv_q T15.1 V
  have hh15 : mo u15 (u15 127 5).toNat (u15 127 6) 7 ≤ 20 := by rw [T15.1.1.1, T15.1.1.2.1, mo_q T15.1.2]; exact hh
  refine pc_if (fun _ => ?_) (fun z => absurd rfl z)
  refine pc_se (fun u17 e17 => ?_)
  have H17 := ph_all _ e17 hh15
  by_cases z17 : ¬ u17.1 = 0
  · exact ne_87 hQ z17
  have z17 := Decidable.not_not.1 z17
  obtain ⟨H0, H⟩ := H17 z17
  rw [z17, H0]
  unfold qj_X11_proveMethods_87
  refine pc_if (fun _ => ?_) (fun z => absurd rfl z)
  refine pc_se (fun u12 e12 => ?_)
  have T12 : TFR u15 u12.2 := tfr_fr V15 (fun c k w => (ff_X11_proveFrames nn) _ e12 c k w) rfl rfl
  have F12 : SPF u15 u12.2 := spf_fr (fun c k w => (ff_X11_proveFrames nn) _ e12 c k w) rfl
  have V12 := vbv_q T12.1 V15
  by_cases z12 : ¬ u12.1 = 0
  · exact ne_100 hQ z12
  have z12 := Decidable.not_not.1 z12
  rw [z12]
  unfold qj_X11_proveMethods_100
  refine pc_se (fun u7 e7 => ?_)
  have T7 : TFR u12.2 u7 := tfr_fr V12 (fun c k w => (ff_X11_beginState nn) _ e7 c k w) rfl rfl
  have F7 : SPF u12.2 u7 := spf_fr (fun c k w => (ff_X11_beginState nn) _ e7 c k w) rfl
  have V7 := vbv_q T7.1 V12
  refine pc_if (fun _ => ?_) (fun z => absurd rfl z)
  refine pc_se (fun u9 e9 => ?_)
  have T : TFR h u7 := tfr_tr T15 (tfr_tr T12 T7)
  have L : u7 127 16 = h 127 16 := T.1.1.2.2
  have Q9 := ps_all V7 (by rw [L]; exact P.2.1) (by rw [L]; exact P.2.2.imp id (fun z => chn2_q T z)) _ e9
  by_cases z9 : ¬ u9.1 = 0
  · exact ne_118 hQ z9
  have z9 := Decidable.not_not.1 z9
  obtain ⟨T9, S9⟩ := Q9 z9
  have F9 : SPF u7 u9.2 := spf_fr (fun c k w => (ff_X11_proveStates nn) _ e9 c k w) rfl
  have TT : TFR h u9.2 := tfr_tr T T9
  have Tb : TFR u9.2 h := by
    refine ⟨⟨⟨TT.1.1.1.symm, TT.1.1.2.1.symm, TT.1.1.2.2.symm⟩, ?_⟩, fun q => (TT.2 q).symm⟩
    rw [TT.1.1.1]; exact imq_sy TT.1.2
  have S : STv h := stv_q Tb S9
  have Hh : HOK h := by
    intro x x0 x1
    have := H x x0 (by rw [T15.1.1.1, T15.1.1.2.1, mo_q T15.1.2]; exact x1)
    rw [T15.1.1.1, T15.1.1.2.1, hdv_q T15.1.2] at this
    exact (T15.2 _).1 this
  rw [z9]
  unfold qj_X11_proveMethods_118
  refine pc_if (fun _ => ?_) (fun z => absurd rfl z)
  exact hk u9.2 (spf_tr F15 (spf_tr F12 (spf_tr F7 F9))) TT.1.1.1 (bgo_of P J Hh S)
end
/-- every method of the first n classes goes well -/
def SPo (h : ms_M) (n : Int) : Prop := ∀ k : Nat, (k : Int) < n → MGo h (h 60 k).toNat (h (h 60 k).toNat 12)
theorem pm_28 {h0 : ms_M} {b : Nat} {q3 : Int → ms_M → Option (Int × ms_M)} {l1 : Int} {Q : Int × ms_M → Prop} (hQ : ∀ r : Int × ms_M, ¬ r.1 = 0 → Q r) (V0 : VBb h0 b) (hm : ∀ m : Int, mo h0 b m 7 ≤ 20) (h12 : h0 b 12 ≤ 12) (hk : ∀ g : ms_M, SPF h0 g → MGo h0 b (h0 b 12) → Pc (xl (oq_add l1 1) fun v22 => q3 v22 g) Q) : ∀ (k : Nat) (l2 : Int) {h : ms_M}, SPF h0 h → (h 127 5).toNat = b → 0 ≤ l2 → MGo h0 b l2 → Pc (qw_X11_proveMethods_28 nn q3 k l1 l2 h) Q := by
  intro k
  induction k with
  | zero => intro l2 h F e r0 G; exact pc_none
  | succ k ih =>
    intro l2 h F e r0 G
    have A : IMQ h0 h b := F.2.2 b V0
    unfold qw_X11_proveMethods_28
    refine pc_ck (fun _ => pc_ck (fun _ => ?_))
    refine pc_if (fun c => ?_) (fun c => ?_)
    · refine hk h F (fun i i0 i1 => G i i0 ?_)
      rw [e, show h b 12 = h0 b 12 from A.1 0 12 (by omega)] at c
      omega
    · have hc : l2 < 12 := by
        rw [e, show h b 12 = h0 b 12 from A.1 0 12 (by omega)] at c; omega
      refine pc_xl (fun h23 e23 => ?_)
      have F23 : SPF h h23 := by rw [e23]; exact spf_up rfl (by omega)
      have b23 : (h23 127 5).toNat = b := by rw [e23, up_n (by omega)]; exact e
      have m23 : h23 127 6 = l2 := by rw [e23]; exact up_s
      have A23 : IMQ h0 h23 b := (spf_tr F F23).2.2 b V0
      have V23 : VBv h23 := by unfold VBv; rw [b23]; exact vbb_q A23 V0
      refine pc_se (fun u25 e25 => ?_)
      have P := pi_all V23 _ e25
      have F25 : SPF h23 u25.2 := spf_fr (fun c k w => (ff_X11_proveInstructions nn) _ e25 c k w) rfl
      refine pc_if (fun z25 => ?_) (fun z25 => ne_61 hQ z25)
      have P := P z25
      refine pc_se (fun u27 e27 => ?_)
      by_cases z27 : ¬ u27.1 = 0
      · exact ne_61 hQ z27
      have z27 := Decidable.not_not.1 z27
      obtain ⟨J0, J⟩ := pj_all P.2.1 _ e27 z27
      rw [z27, J0]
      have e5 : u25.2 127 5 = h23 127 5 := (ff_X11_proveInstructions nn) _ e25 127 5 rfl
      have e6 : u25.2 127 6 = h23 127 6 := (ff_X11_proveInstructions nn) _ e25 127 6 rfl
      have F0 : SPF h0 u25.2 := spf_tr F (spf_tr F23 F25)
      have A25 : IMQ h0 u25.2 b := F0.2.2 b V0
      refine pm_61 hQ P.1 P J (by rw [e5, b23, mo_q A25]; exact hm _) (fun g Fg eg K => ?_)
      rw [e5, b23, e6, m23] at K
      refine pc_add (by omega) (fun v ev => ih v (spf_tr F0 Fg) (by rw [eg, e5, b23]) (by omega) (fun i i0 i1 => ?_))
      by_cases z : i = l2
      · rw [z]; exact ⟨_, bgo_q (imq_sy A25) K⟩
      · exact G i i0 (by omega)
theorem pm_3 {h0 : ms_M} (V : ∀ k : Nat, k < 8 → VBb h0 (h0 60 k).toNat) (hm : ∀ k : Nat, k < 8 → (∀ m : Int, mo h0 (h0 60 k).toNat m 7 ≤ 20) ∧ h0 (h0 60 k).toNat 12 ≤ 12) (h3 : h0 56 3 ≤ 8) (hn : ∀ k : Nat, k < 8 → 0 ≤ h0 60 k) : ∀ (k : Nat) (l1 : Int) {h : ms_M}, SPF h0 h → 8 ≤ l1 → SPo h0 (l1 - 8) → Pc (qw_X11_proveMethods_3 nn k l1 h) (fun r => r.1 = 0 → SPo h0 (h0 56 3)) := by
  intro k
  induction k with
  | zero => intro l1 h F r1 G; exact pc_none
  | succ k ih =>
    intro l1 h F r1 G
    unfold qw_X11_proveMethods_3
    have f3 := F.2.1
    by_cases hneg : h 56 3 < -2000000000
    · intro r _ _ i hi; omega
    refine pc_add (by omega) (fun v e => ?_)
    refine pc_if (fun c => pc_ret (fun _ i hi => G i (by omega))) (fun c => ?_)
    refine pc_se (fun u34 e34 => pc_se (fun u36 e36 => ?_))
    have T : u34 = up_M h 127 5 (h 60 (l1 - 8).toNat) := by
      have k0 := hn (l1 - 8).toNat (by omega)
      rw [← F.1] at k0
      unfold qf_X11_takeImage qf_X7_imageOf at e34
      rw [if_neg (by omega), xl_eq, oq_add_eq (by omega) (by omega) (by omega), if_neg (by omega), xl_eq, oq_sub_eq (by omega) (by omega) (by omega)] at e34
      unfold rd_A at e34
      rw [if_pos (by omega), mx_svs, if_neg (by omega)] at e34
      unfold wr_R at e34
      split at e34
      · have e34 := Option.some.inj e34
        rw [← e34, Int.toNat_of_nonneg k0]
      · cases e34
    have F34 : SPF h u34 := by rw [T]; exact spf_up rfl (by omega)
    have F36 : SPF u34 u36 := spf_fr (fun c k w => (ff_X11_takeConstants nn) _ e36 c k w) rfl
    have b36 : (u36 127 5).toNat = (h0 60 (l1 - 8).toNat).toNat := by
      rw [show u36 127 5 = u34 127 5 from (ff_X11_takeConstants nn) _ e36 127 5 rfl, T, up_s, F.1]
    have kk := hm (l1 - 8).toNat (by omega)
    refine pm_28 (fun r z w => absurd w z) (V _ (by omega)) kk.1 kk.2 (fun g Fg K => ?_) nn 0 (spf_tr F (spf_tr F34 F36)) b36 (by omega) (fun i i0 i1 => by omega)
    refine pc_add (by omega) (fun v ev => ih v Fg (by omega) (fun i hi => ?_))
    by_cases z : i = (l1 - 8).toNat
    · rw [z]; exact K
    · exact G i (by omega)
theorem mo7_le {b : Nat} {m : Int} (V : VS_ h) (hb : kc_O b = 3) (I : IG_ h b) : mo h b m 7 ≤ 20 := by
  have g2 := gI_12 V hb
  unfold mo
  split
  · omega
  · split
    · omega
    · split
      · omega
      · have := (I m.toNat (by omega)).2.2.1
        rw [oq_mul_eq (by omega) (by omega) (by omega), oq_add_eq (by omega) (by omega) (by omega), show (m * 12 + 7).toNat = 12 * m.toNat + 7 by omega]
        omega
/-- proveMethods that gives 0 tells that all code goes well -/
theorem pm_all (V : VS_ h) (S : SI_ h) : Pc (qf_X11_proveMethods nn h) (fun r => SPF h r.2 ∧ (r.1 = 0 → SPo h (h 56 3))) := by
  intro r e
  refine ⟨spf_fr (fun c k w => (ff_X11_proveMethods nn) _ e c k w) rfl, ?_⟩
  have I : ∀ k : Nat, k < 8 → 0 ≤ h 60 k ∧ kc_O (h 60 k).toNat = 3 := V.2.2.2.2.1
  have g3 := gF_56_3 V
  exact pm_3 (fun k hk => vbb_of V (I k hk).2) (fun k hk => ⟨fun m => mo7_le V (I k hk).2 (S.1 k hk), (gI_12 V (I k hk).2).2⟩) (by omega) (fun k hk => (I k hk).1) nn 8 spf_refl (by omega) (fun i hi => by omega) r e
end
