/- the image of a class: the class's bytes -/
/-- the class's pool, known -/
def PLK (cn : Nat) (h m : ms_M) : Prop := h 45 5 = 0 ∧ h 45 4 = (cn : Int) ∧ m 160 62 = (cn : Int) ∧ cn ≤ 200 ∧ ∀ i : Nat, 1 ≤ i → i ≤ cn → PCi h m i
section
variable {nn : Nat} {cn i id pos k : Nat} {h g u m w : ms_M}
theorem b_256 {v : Int} : oq_b v % 256 = v % 256 := by rw [← oq_b_b]; exact bb_256
theorem c_40v {sz : Int} (T : NTB h) (K : PLK cn h m) (l7 : 0 ≤ h 45 7) (I : 256 ≤ id ∧ id < 900000) (hs : sz = 3 + h 45 7 + (sm_T m cn : Int)) (s6 : sz ≤ 6000) : ∀ (f i : Nat) (g : ms_M) (c s : Nat), i ≤ cn → (∀ cc y : Nat, cc < 256 → g cc y = h cc y) → ln_I g id = sz → (g id 0 % 256 = 74 ∧ g id 1 % 256 = 77 ∧ g id 2 % 256 = (cn : Int) % 256) → (∀ i2 : Nat, i2 < i → ∀ x : Nat, x < cl_T m (i2 + 1) → g id (3 + sm_T m i2 + x) % 256 = cb_T m (i2 + 1) x % 256) → Pc (qw_X6_closeImage_40 nn f id ((3 + sm_T m i : Nat) : Int) ((i + 1 : Nat) : Int) g c s) (fun A => CIM m cn (h 45 7) (h 48) (A.2.1 id)) := by
  obtain ⟨k5, k4, -, k2, P⟩ := K
  intro f
  induction f with
  | zero => intro i g c s _ _ _ _ _; exact fun _ z => nomatch z
  | succ f ih =>
    intro i g c s hi G L G0 G1
    have e4 := G 45 4 (by omega)
    have e7 := G 45 7 (by omega)
    unfold qw_X6_closeImage_40
    refine pc_if (fun z => ?_) (fun z => ?_)
    · refine pc_cpS ?_; intro h4 eh4
      have ic : i = cn := by omega
      rw [ic] at eh4 G1
      have E8 : ∀ y : Nat, h4 id y = if 3 + sm_T m cn ≤ y ∧ y < 3 + sm_T m cn + (h 45 7).toNat then h 48 (0 + (y - (3 + sm_T m cn))) else g id y := fun y => by
        rw [eh4]; unfold cp_M
        rw [Int.toNat_natCast, e7]
        by_cases q : 3 + sm_T m cn ≤ y ∧ y < 3 + sm_T m cn + (h 45 7).toNat
        · rw [if_pos ⟨rfl, q⟩, if_pos q, G 48 _ (by omega)]; rfl
        · rw [if_neg (fun z => q z.2), if_neg q]
      refine pc_ret ⟨⟨?_, ?_, ?_⟩, fun i2 h2 x hx => ?_, fun x hx => ?_⟩
      · show h4 id 0 % 256 = 74
        rw [E8, if_neg (by omega)]; exact G0.1
      · show h4 id 1 % 256 = 77
        rw [E8, if_neg (by omega)]; exact G0.2.1
      · show h4 id 2 % 256 = _
        rw [E8, if_neg (by omega)]; exact G0.2.2
      · show h4 id _ % 256 = _
        have a : sm_T m i2 + cl_T m (i2 + 1) ≤ sm_T m cn := smi_le (m := m) (i := i2 + 1) (j := cn) (by omega)
        rw [E8, if_neg (by omega)]; exact G1 i2 h2 x hx
      · show h4 id _ % 256 = _
        rw [E8, if_pos (by omega), show 0 + (3 + sm_T m cn + x - (3 + sm_T m cn)) = x by omega]
    · have pi := P (i + 1) (by omega) (by omega)
      have pg := pci_k pi G
      have TG : NTB g := ntb_f T (fun cc y z => G cc y (by omega))
      have a : sm_T m i + cl_T m (i + 1) ≤ sm_T m cn := smi_le (m := m) (i := i + 1) (j := cn) (by omega)
      refine pc_sv (c_wcn (pos := 3 + sm_T m i) TG pg (by omega) I (by omega) (by omega)) ?_; intro u6 ⟨E6, B6⟩
      have U : ∀ cc y : Nat, cc < 256 → u6 cc y = h cc y := fun cc y z => by rw [E6 cc y (by omega)]; exact G cc y z
      refine pc_rA ?_; intro _ _ v8 e8
      rw [Int.toNat_natCast] at e8
      refine pc_rA ?_; intro _ _ v10 e10
      rw [Int.toNat_natCast] at e10
      refine pc_sv (c_byt (m := m) (i := i + 1) (ntb_f T (fun cc y z => U cc y (by omega))) (pci_k pi U) e8 e10) ?_; intro u12 q12
      refine pc_add (by omega) ?_; intro v13 e13
      refine pc_add (by omega) ?_; intro v14 e14
      have ev : v13 = ((3 + sm_T m (i + 1) : Nat) : Int) := by
        show v13 = ((3 + (sm_T m i + cl_T m (i + 1)) : Nat) : Int)
        omega
      rw [ev, show v14 = ((i + 1 + 1 : Nat) : Int) by omega]
      refine ih (i + 1) u6 c s (by omega) U ?_ ⟨?_, ?_, ?_⟩ (fun i2 h2 x hx => ?_)
      · rw [← L]; unfold ln_I; rw [if_neg (by omega), if_neg (by omega)]; exact E6 900001 id (by omega)
      · rw [E6 id 0 (by omega)]; exact G0.1
      · rw [E6 id 1 (by omega)]; exact G0.2.1
      · rw [E6 id 2 (by omega)]; exact G0.2.2
      · by_cases q : i2 = i
        · rw [q] at hx ⊢; exact B6 x hx
        · have b : sm_T m i2 + cl_T m (i2 + 1) ≤ sm_T m i := smi_le (m := m) (i := i2 + 1) (j := i) (by omega)
          rw [E6 id _ (by omega)]; exact G1 i2 (by omega) x hx
/-- is the class's image too much -/
theorem c_tooM (T : NTB h) (l7 : 0 ≤ h 45 7 ∧ h 45 7 ≤ 100000000) (K : PLK cn h m) : Pc (qf_X6_isTooMuch nn h) (fun y => (y = 1 ∧ 6000 < 3 + h 45 7 + (sm_T m cn : Int)) ∨ (y = 0 ∧ 3 + h 45 7 + (sm_T m cn : Int) ≤ 6000)) := by
  unfold qf_X6_isTooMuch
  refine pc_if (fun z => absurd K.1 z) (fun _ => ?_)
  refine pc_sv (c_size T K.2.2.2.1 K.2.1 K.2.2.2.2 l7) ?_; intro u3 q3
  exact pc_if (fun z => pc_ret (.inr ⟨rfl, by omega⟩)) (fun z => pc_ret (.inl ⟨rfl, by omega⟩))
theorem c_ciV (T : NTB h) (l7 : 0 ≤ h 45 7 ∧ h 45 7 ≤ 100000000) (K : PLK cn h m) (s6 : 3 + h 45 7 + (sm_T m cn : Int) ≤ 6000) : Pc (qf_X6_closeImage nn h) (fun A => ln_I A.2.1 (cn_M h) = 3 + h 45 7 + (sm_T m cn : Int) ∧ CIM m cn (h 45 7) (h 48) (A.2.1 (cn_M h))) := by
  unfold qf_X6_closeImage
  refine pc_sv (c_tooM T l7 K) ?_; intro u17 q17
  refine pc_if (fun z => ?_) (fun z => absurd (show u17 = 0 by omega) z)
  refine pc_sv (c_size T K.2.2.2.1 K.2.1 K.2.2.2.2 l7) ?_; intro u19 q19
  refine pc_ck ?_; intro _
  refine pc_nB ?_; intro z hM ez
  obtain ⟨F, LZ⟩ := nw_cn hM ez
  have c1 := F.1
  refine pc_wT ?_; intro h22 e22
  refine pc_wT ?_; intro h23 e23
  refine pc_xl ?_; intro v25 e25
  refine pc_wT ?_; intro h26 e26
  have E : ∀ cc y : Nat, ¬ cc = cn_M h → h26 cc y = z cc y := fun cc y q => by rw [e26, up_n (by omega), e23, up_n (by omega), e22, up_n (by omega)]
  have Z2 : ∀ cc y : Nat, cc < 256 → h26 cc y = h cc y := fun cc y q => by rw [E cc y (by omega)]; exact F.2.2 cc y (by omega) (by omega) (by omega)
  have L6 : ln_I h26 (cn_M h) = 3 + h 45 7 + (sm_T m cn : Int) := by
    rw [← q19, ← LZ]; unfold ln_I; rw [if_neg (by omega), if_neg (by omega)]; exact E 900001 _ (by omega)
  have V := c_40v (nn := nn) (id := cn_M h) T K l7.1 (by omega) rfl s6 nn 0 h26 (0 + 1) (0 + (u19).toNat) (Nat.zero_le _) Z2 L6 ⟨by rw [e26, up_n (by omega), e23, up_n (by omega), e22]; show up_M z (cn_M h) 0 _ (cn_M h) 0 % 256 = 74; rw [up_s, b_256]; rfl, by rw [e26, up_n (by omega), e23]; show up_M h22 (cn_M h) 1 _ (cn_M h) 1 % 256 = 77; rw [up_s, b_256]; rfl, by
    rw [e26]
    show up_M h23 (cn_M h) 2 _ (cn_M h) 2 % 256 = _
    rw [up_s, e25, bb_256]
    have e : h23 45 4 = h 45 4 := by rw [e23, up_n (by omega), e22, up_n (by omega)]; exact F.2.2 45 4 (by omega) (by omega) (by omega)
    rw [e, K.2.1]⟩ (fun i2 h2 => absurd h2 (by omega))
  refine pc_imp (pc_and V (fr_40 nn 3 1 h26 (0 + 1) (0 + (u19).toNat))) (fun A ⟨a, b⟩ => ⟨?_, a⟩)
  rw [← L6]; unfold ln_I; rw [if_neg (by omega), if_neg (by omega)]; exact b.2 900001 _ (by omega)
theorem plk_e (R : PLR h m) : (∃ cn : Nat, PLK cn h m) ∨ (h 45 5 = 1 ∧ 200 < m 160 62) := by
  rcases R with ⟨r5, r64, cn, r4, r62, c2, E⟩ | r
  · exact .inl ⟨cn, r5, r4, r62, c2, fun i h1 h2 => pci_e r64.2 (E i h1 h2)⟩
  · exact .inr r
/-- a class is closed -/
theorem c_ccV (T : NTB h) (l7 : 0 ≤ h 45 7 ∧ h 45 7 ≤ 100000000) (R : PLR h m) (f11 : h 2 11 = 0) (z7 : h 33 7 = -1) (k8 : k < 8) (tk : ∀ t : Int, qf_X2_tokenOfClass nn (k : Int) h = some t → ¬ t = -1) : Pc (qf_X0_closeClass nn (k : Int) h) (fun A => ((h 45 5 = 1 ∧ 200 < m 160 62) ∨ ∃ cn : Nat, PLK cn h m ∧ 6000 < 3 + h 45 7 + (sm_T m cn : Int)) ∧ qf_X2_tokenOfClass nn (k : Int) h = some (A.1 33 7) ∨ (A.1 33 7 = -1 ∧ ∃ (cn : Nat) (v : ms_M), PLK cn h m ∧ 3 + h 45 7 + (sm_T m cn : Int) ≤ 6000 ∧ FCI h v ∧ A.1 = up_M v 43 k (cn_M h : Int) ∧ ln_I v (cn_M h) = 3 + h 45 7 + (sm_T m cn : Int) ∧ CIM m cn (h 45 7) (h 48) (v (cn_M h)))) := by
  unfold qf_X0_closeClass
  have TM : Pc (qf_X6_isTooMuch nn h) (fun y => (¬ y = 0 ∧ ((h 45 5 = 1 ∧ 200 < m 160 62) ∨ ∃ cn : Nat, PLK cn h m ∧ 6000 < 3 + h 45 7 + (sm_T m cn : Int))) ∨ (y = 0 ∧ ∃ cn : Nat, PLK cn h m ∧ 3 + h 45 7 + (sm_T m cn : Int) ≤ 6000)) := by
    rcases plk_e R with ⟨cn, K⟩ | r
    · refine pc_imp (c_tooM T l7 K) (fun y hy => ?_)
      rcases hy with ⟨a, b⟩ | ⟨a, b⟩
      · exact .inl ⟨by omega, .inr ⟨cn, K, b⟩⟩
      · exact .inr ⟨a, cn, K, b⟩
    · unfold qf_X6_isTooMuch
      exact pc_if (fun _ => pc_ret (.inl ⟨by decide, .inl r⟩)) (fun z => absurd (show ¬ h 45 5 = 0 by omega) z)
  refine pc_sv TM ?_; intro u3 q3
  refine pc_se ?_; intro u6 e6
  unfold qf_X0_noteMuch
  rcases q3 with ⟨y, tm⟩ | ⟨y, cn, K, s6⟩
  · refine pc_sv (P := fun u8 => u8 = up_M h 33 7 u6) ?_ ?_
    · refine pc_if (fun z => absurd z y) (fun _ => pc_if (fun z => absurd z7 z) (fun _ => ?_))
      refine pc_xl ?_; intro h2 e2
      exact pc_ret e2
    intro u8 q8
    have e7 : u8 33 7 = u6 := by rw [q8, up_s]
    have R8 : Pc (some (u8, 0, 0) : Option (ms_M × Nat × Nat)) (fun A => ((h 45 5 = 1 ∧ 200 < m 160 62) ∨ ∃ cn : Nat, PLK cn h m ∧ 6000 < 3 + h 45 7 + (sm_T m cn : Int)) ∧ qf_X2_tokenOfClass nn (k : Int) h = some (A.1 33 7) ∨ (A.1 33 7 = -1 ∧ ∃ (cn : Nat) (v : ms_M), PLK cn h m ∧ 3 + h 45 7 + (sm_T m cn : Int) ≤ 6000 ∧ FCI h v ∧ A.1 = up_M v 43 k (cn_M h : Int) ∧ ln_I v (cn_M h) = 3 + h 45 7 + (sm_T m cn : Int) ∧ CIM m cn (h 45 7) (h 48) (v (cn_M h)))) := pc_ret (.inl ⟨tm, by rw [e6]; show some u6 = some (u8 33 7); rw [e7]⟩)
    exact pc_if (fun _ => R8) (fun _ => pc_if (fun _ => R8) (fun z => absurd (show ¬ u8 33 7 = -1 by rw [e7]; exact tk u6 e6) z))
  · refine pc_sv (P := fun u8 => u8 = h) (pc_if (fun _ => pc_ret rfl) (fun z => absurd y z)) ?_
    intro u8 q8
    rw [q8]
    refine pc_if (fun z => absurd f11 z) (fun _ => pc_if (fun z => absurd z7 z) (fun _ => pc_if (fun z => absurd z (by omega)) (fun _ => pc_if (fun z => absurd z (by omega)) (fun _ => ?_))))
    refine pc_sv (pc_and (c_ciV T l7 K s6) fr_ci) ?_; intro u17 ⟨⟨a1, a2⟩, a3, a4⟩
    unfold wr_QB
    refine pc_if (fun _ => ?_) (fun _ => fun _ z => nomatch z)
    refine pc_ret (.inr ⟨?_, cn, u17.2.1, K, s6, a4, ?_, a1, a2⟩)
    · have c1 := a4.1
      show up_M u17.2.1 43 (k : Int).toNat u17.1 33 7 = -1
      rw [up_n (by omega), a4.2.2 33 7 (by omega) (by omega) (by omega)]; exact z7
    · show up_M u17.2.1 43 (k : Int).toNat u17.1 = _
      rw [a3, Int.toNat_natCast]
end
