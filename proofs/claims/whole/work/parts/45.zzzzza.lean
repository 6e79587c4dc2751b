section
/- the image of a class: the class's bytes -/
/-- the class's pool, known -/
def PLK (cn : Nat) (h m : ms_M) : Prop := h 45 5 = 0 ∧ h 45 4 = (cn : Int) ∧ m 160 62 = (cn : Int) ∧ cn ≤ 200 ∧ ∀ i : Nat, 1 ≤ i → i ≤ cn → PCi h m i
section
variable {nn : Nat} {cn i id pos k : Nat} {h g u m w : ms_M}
theorem b_256 {v : Int} : oq_b v % 256 = v % 256 := by rw [← oq_b_b]; exact bb_256
theorem c_40v {sz : Int} (T : NTB h) (K : PLK cn h m) (l7 : 0 ≤ h 45 7) (I : 256 ≤ id ∧ id < 900000) (hs : sz = 3 + h 45 7 + (sm_T m cn : Int)) (s6 : sz ≤ 6000) : ∀ (f i : Nat) (g : ms_M) (c s : Nat), i ≤ cn → (∀ cc y : Nat, cc < 256 → g cc y = h cc y) → ln_I g id = sz → (g id 0 % 256 = 74 ∧ g id 1 % 256 = 77 ∧ g id 2 % 256 = (cn : Int) % 256) → (∀ i2 : Nat, i2 < i → ∀ x : Nat, x < cl_T m (i2 + 1) → g id (3 + sm_T m i2 + x) % 256 = cb_T m (i2 + 1) x % 256) → Pc (qw_X6_closeImage_40 nn f id ((3 + sm_T m i : Nat) : Int) ((i + 1 : Nat) : Int) g c s) (fun A => CIM m cn (h 45 7) (h 48) (A.2.1 id)) := by
  obtain ⟨k5, k4, -, k2, P⟩ := K
  intro f
  induction f with
  | zero => intro i g c s _ _ _ _ _; exact fun _ z => nomatch z
  | succ f ih =>
    intro i g c s hi G L G0 G1
    have e4 := G 45 4 (by omega)
    have e7 := G 45 7 (by omega)
    unfold qw_X6_closeImage_40
    refine pc_if (fun z => ?_) (fun z => ?_)
    · refine pc_cpS ?_; intro h4 eh4
      have ic : i = cn := by omega
      rw [ic] at eh4 G1
      have E8 : ∀ y : Nat, h4 id y = if 3 + sm_T m cn ≤ y ∧ y < 3 + sm_T m cn + (h 45 7).toNat then h 48 (0 + (y - (3 + sm_T m cn))) else g id y := fun y => by
        rw [eh4]; unfold cp_M
        rw [Int.toNat_natCast, e7]
        by_cases q : 3 + sm_T m cn ≤ y ∧ y < 3 + sm_T m cn + (h 45 7).toNat
        · rw [if_pos ⟨rfl, q⟩, if_pos q, G 48 _ (by omega)]; rfl
        · rw [if_neg (fun z => q z.2), if_neg q]
      refine pc_ret ⟨⟨?_, ?_, ?_⟩, fun i2 h2 x hx => ?_, fun x hx => ?_⟩
      · show h4 id 0 % 256 = 74
        rw [E8, if_neg (by omega)]; exact G0.1
      · show h4 id 1 % 256 = 77
        rw [E8, if_neg (by omega)]; exact G0.2.1
      · show h4 id 2 % 256 = _
        rw [E8, if_neg (by omega)]; exact G0.2.2
      · show h4 id _ % 256 = _
        have a : sm_T m i2 + cl_T m (i2 + 1) ≤ sm_T m cn := smi_le (m := m) (i := i2 + 1) (j := cn) (by omega)
        rw [E8, if_neg (by omega)]; exact G1 i2 h2 x hx
      · show h4 id _ % 256 = _
        rw [E8, if_pos (by omega), show 0 + (3 + sm_T m cn + x - (3 + sm_T m cn)) = x by omega]
    · have pi := P (i + 1) (by omega) (by omega)
      have pg := pci_k pi G
      have TG : NTB g := ntb_f T (fun cc y z => G cc y (by omega))
      have a : sm_T m i + cl_T m (i + 1) ≤ sm_T m cn := smi_le (m := m) (i := i + 1) (j := cn) (by omega)
      refine pc_sv (c_wcn (pos := 3 + sm_T m i) TG pg (by omega) I (by omega) (by omega)) ?_; intro u6 ⟨E6, B6⟩
      have U : ∀ cc y : Nat, cc < 256 → u6 cc y = h cc y := fun cc y z => by rw [E6 cc y (by omega)]; exact G cc y z
      refine pc_rA ?_; intro _ _ v8 e8
      rw [Int.toNat_natCast] at e8
      refine pc_rA ?_; intro _ _ v10 e10
      rw [Int.toNat_natCast] at e10
      refine pc_sv (c_byt (m := m) (i := i + 1) (ntb_f T (fun cc y z => U cc y (by omega))) (pci_k pi U) e8 e10) ?_; intro u12 q12
      refine pc_add (by omega) ?_; intro v13 e13
      refine pc_add (by omega) ?_; intro v14 e14
      have ev : v13 = ((3 + sm_T m (i + 1) : Nat) : Int) := by
        show v13 = ((3 + (sm_T m i + cl_T m (i + 1)) : Nat) : Int)
        omega
      rw [ev, show v14 = ((i + 1 + 1 : Nat) : Int) by omega]
      refine ih (i + 1) u6 c s (by omega) U ?_ ⟨?_, ?_, ?_⟩ (fun i2 h2 x hx => ?_)
      · rw [← L]; unfold ln_I; rw [if_neg (by omega), if_neg (by omega)]; exact E6 900001 id (by omega)
      · rw [E6 id 0 (by omega)]; exact G0.1
      · rw [E6 id 1 (by omega)]; exact G0.2.1
      · rw [E6 id 2 (by omega)]; exact G0.2.2
      · by_cases q : i2 = i
        · rw [q] at hx ⊢; exact B6 x hx
        · have b : sm_T m i2 + cl_T m (i2 + 1) ≤ sm_T m i := smi_le (m := m) (i := i2 + 1) (j := i) (by omega)
          rw [E6 id _ (by omega)]; exact G1 i2 (by omega) x hx
/-- is the class's image too much -/
theorem c_tooM (T : NTB h) (l7 : 0 ≤ h 45 7 ∧ h 45 7 ≤ 100000000) (K : PLK cn h m) : Pc (qf_X6_isTooMuch nn h) (fun y => (y = 1 ∧ 6000 < 3 + h 45 7 + (sm_T m cn : Int)) ∨ (y = 0 ∧ 3 + h 45 7 + (sm_T m cn : Int) ≤ 6000)) := by
  unfold qf_X6_isTooMuch
  refine pc_if (fun z => absurd K.1 z) (fun _ => ?_)
  refine pc_sv (c_size T K.2.2.2.1 K.2.1 K.2.2.2.2 l7) ?_; intro u3 q3
  exact pc_if (fun z => pc_ret (.inr ⟨rfl, by omega⟩)) (fun z => pc_ret (.inl ⟨rfl, by omega⟩))
theorem c_ciV (T : NTB h) (l7 : 0 ≤ h 45 7 ∧ h 45 7 ≤ 100000000) (K : PLK cn h m) (s6 : 3 + h 45 7 + (sm_T m cn : Int) ≤ 6000) : Pc (qf_X6_closeImage nn h) (fun A => ln_I A.2.1 (cn_M h) = 3 + h 45 7 + (sm_T m cn : Int) ∧ CIM m cn (h 45 7) (h 48) (A.2.1 (cn_M h))) := by
  unfold qf_X6_closeImage
  refine pc_sv (c_tooM T l7 K) ?_; intro u17 q17
  refine pc_if (fun z => ?_) (fun z => absurd (show u17 = 0 by omega) z)
  refine pc_sv (c_size T K.2.2.2.1 K.2.1 K.2.2.2.2 l7) ?_; intro u19 q19
  refine pc_ck ?_; intro _
  refine pc_nB ?_; intro z hM ez
  obtain ⟨F, LZ⟩ := nw_cn hM ez
  have c1 := F.1
  refine pc_wT ?_; intro h22 e22
  refine pc_wT ?_; intro h23 e23
  refine pc_xl ?_; intro v25 e25
  refine pc_wT ?_; intro h26 e26
  have E : ∀ cc y : Nat, ¬ cc = cn_M h → h26 cc y = z cc y := fun cc y q => by rw [e26, up_n (by omega), e23, up_n (by omega), e22, up_n (by omega)]
  have Z2 : ∀ cc y : Nat, cc < 256 → h26 cc y = h cc y := fun cc y q => by rw [E cc y (by omega)]; exact F.2.2 cc y (by omega) (by omega) (by omega)
  have L6 : ln_I h26 (cn_M h) = 3 + h 45 7 + (sm_T m cn : Int) := by
    rw [← q19, ← LZ]; unfold ln_I; rw [if_neg (by omega), if_neg (by omega)]; exact E 900001 _ (by omega)
  have V := c_40v (nn := nn) (id := cn_M h) T K l7.1 (by omega) rfl s6 nn 0 h26 (0 + 1) (0 + (u19).toNat) (Nat.zero_le _) Z2 L6 ⟨by rw [e26, up_n (by omega), e23, up_n (by omega), e22]; show up_M z (cn_M h) 0 _ (cn_M h) 0 % 256 = 74; rw [up_s, b_256]; rfl, by rw [e26, up_n (by omega), e23]; show up_M h22 (cn_M h) 1 _ (cn_M h) 1 % 256 = 77; rw [up_s, b_256]; rfl, by
    rw [e26]
    show up_M h23 (cn_M h) 2 _ (cn_M h) 2 % 256 = _
    rw [up_s, e25, bb_256]
    have e : h23 45 4 = h 45 4 := by rw [e23, up_n (by omega), e22, up_n (by omega)]; exact F.2.2 45 4 (by omega) (by omega) (by omega)
    rw [e, K.2.1]⟩ (fun i2 h2 => absurd h2 (by omega))
  refine pc_imp (pc_and V (fr_40 nn 3 1 h26 (0 + 1) (0 + (u19).toNat))) (fun A ⟨a, b⟩ => ⟨?_, a⟩)
  rw [← L6]; unfold ln_I; rw [if_neg (by omega), if_neg (by omega)]; exact b.2 900001 _ (by omega)
theorem plk_e (R : PLR h m) : (∃ cn : Nat, PLK cn h m) ∨ (h 45 5 = 1 ∧ 200 < m 160 62) := by
  rcases R with ⟨r5, r64, cn, r4, r62, c2, E⟩ | r
  · exact .inl ⟨cn, r5, r4, r62, c2, fun i h1 h2 => pci_e r64.2 (E i h1 h2)⟩
  · exact .inr r
/-- a class is closed -/
theorem c_ccV (T : NTB h) (l7 : 0 ≤ h 45 7 ∧ h 45 7 ≤ 100000000) (R : PLR h m) (f11 : h 2 11 = 0) (z7 : h 33 7 = -1) (k8 : k < 8) (tk : ∀ t : Int, qf_X2_tokenOfClass nn (k : Int) h = some t → ¬ t = -1) : Pc (qf_X0_closeClass nn (k : Int) h) (fun A => ((h 45 5 = 1 ∧ 200 < m 160 62) ∨ ∃ cn : Nat, PLK cn h m ∧ 6000 < 3 + h 45 7 + (sm_T m cn : Int)) ∧ qf_X2_tokenOfClass nn (k : Int) h = some (A.1 33 7) ∨ (A.1 33 7 = -1 ∧ ∃ (cn : Nat) (v : ms_M), PLK cn h m ∧ 3 + h 45 7 + (sm_T m cn : Int) ≤ 6000 ∧ FCI h v ∧ A.1 = up_M v 43 k (cn_M h : Int) ∧ ln_I v (cn_M h) = 3 + h 45 7 + (sm_T m cn : Int) ∧ CIM m cn (h 45 7) (h 48) (v (cn_M h)))) := by
  unfold qf_X0_closeClass
  have TM : Pc (qf_X6_isTooMuch nn h) (fun y => (¬ y = 0 ∧ ((h 45 5 = 1 ∧ 200 < m 160 62) ∨ ∃ cn : Nat, PLK cn h m ∧ 6000 < 3 + h 45 7 + (sm_T m cn : Int))) ∨ (y = 0 ∧ ∃ cn : Nat, PLK cn h m ∧ 3 + h 45 7 + (sm_T m cn : Int) ≤ 6000)) := by
    rcases plk_e R with ⟨cn, K⟩ | r
    · refine pc_imp (c_tooM T l7 K) (fun y hy => ?_)
      rcases hy with ⟨a, b⟩ | ⟨a, b⟩
      · exact .inl ⟨by omega, .inr ⟨cn, K, b⟩⟩
      · exact .inr ⟨a, cn, K, b⟩
    · unfold qf_X6_isTooMuch
      exact pc_if (fun _ => pc_ret (.inl ⟨by decide, .inl r⟩)) (fun z => absurd (show ¬ h 45 5 = 0 by omega) z)
  refine pc_sv TM ?_; intro u3 q3
  refine pc_se ?_; intro u6 e6
  unfold qf_X0_noteMuch
  rcases q3 with ⟨y, tm⟩ | ⟨y, cn, K, s6⟩
  · refine pc_sv (P := fun u8 => u8 = up_M h 33 7 u6) ?_ ?_
    · refine pc_if (fun z => absurd z y) (fun _ => pc_if (fun z => absurd z7 z) (fun _ => ?_))
      refine pc_xl ?_; intro h2 e2
      exact pc_ret e2
    intro u8 q8
    have e7 : u8 33 7 = u6 := by rw [q8, up_s]
    have R8 : Pc (some (u8, 0, 0) : Option (ms_M × Nat × Nat)) (fun A => ((h 45 5 = 1 ∧ 200 < m 160 62) ∨ ∃ cn : Nat, PLK cn h m ∧ 6000 < 3 + h 45 7 + (sm_T m cn : Int)) ∧ qf_X2_tokenOfClass nn (k : Int) h = some (A.1 33 7) ∨ (A.1 33 7 = -1 ∧ ∃ (cn : Nat) (v : ms_M), PLK cn h m ∧ 3 + h 45 7 + (sm_T m cn : Int) ≤ 6000 ∧ FCI h v ∧ A.1 = up_M v 43 k (cn_M h : Int) ∧ ln_I v (cn_M h) = 3 + h 45 7 + (sm_T m cn : Int) ∧ CIM m cn (h 45 7) (h 48) (v (cn_M h)))) := pc_ret (.inl ⟨tm, by rw [e6]; show some u6 = some (u8 33 7); rw [e7]⟩)
    exact pc_if (fun _ => R8) (fun _ => pc_if (fun _ => R8) (fun z => absurd (show ¬ u8 33 7 = -1 by rw [e7]; exact tk u6 e6) z))
  · refine pc_sv (P := fun u8 => u8 = h) (pc_if (fun _ => pc_ret rfl) (fun z => absurd y z)) ?_
    intro u8 q8
    rw [q8]
    refine pc_if (fun z => absurd f11 z) (fun _ => pc_if (fun z => absurd z7 z) (fun _ => pc_if (fun z => absurd z (by omega)) (fun _ => pc_if (fun z => absurd z (by omega)) (fun _ => ?_))))
    refine pc_sv (pc_and (c_ciV T l7 K s6) fr_ci) ?_; intro u17 ⟨⟨a1, a2⟩, a3, a4⟩
    unfold wr_QB
    refine pc_if (fun _ => ?_) (fun _ => fun _ z => nomatch z)
    refine pc_ret (.inr ⟨?_, cn, u17.2.1, K, s6, a4, ?_, a1, a2⟩)
    · have c1 := a4.1
      show up_M u17.2.1 43 (k : Int).toNat u17.1 33 7 = -1
      rw [up_n (by omega), a4.2.2 33 7 (by omega) (by omega) (by omega)]; exact z7
    · show up_M u17.2.1 43 (k : Int).toNat u17.1 = _
      rw [a3, Int.toNat_natCast]
end
end
section
/- the image of a class: the reference's bytes -/
/-- the bytes of an image, the reference's -/
def RIM (m : ms_M) (cn : Nat) (l7 : Int) (src b : Nat → Int) : Prop := (b 0 = 74 ∧ b 1 = 77 ∧ b 2 = (cn : Int)) ∧ (∀ i : Nat, i < cn → ∀ x : Nat, x < cl_T m (i + 1) → b (3 + sm_T m i + x) = cb_T m (i + 1) x) ∧ ∀ x : Nat, (x : Int) < l7 → b (3 + sm_T m cn + x) = src x
section
variable {nn : Nat} {cn i pos k : Nat} {h g u m w : ms_M}
theorem r_wc63 (P : PCi h m i) (k1 : m 200 i = 1) (i2 : i ≤ 200) (pb : pos ≤ 100000) : ∀ (f l : Nat) (g : ms_M), (l : Int) ≤ m 202 i → (∀ cc y : Nat, ¬ (cc = 223 ∧ pos ≤ y ∧ y < pos + cl_T m i) → g cc y = m cc y) → (∀ x : Nat, x < 2 + l → g 223 (pos + x) = cb_T m i x) → Pc (qw_X13_writeConstant_63 nn f (i : Int) ((pos + 1 : Nat) : Int) (l : Int) g) (fun v => v.1 = ((pos + cl_T m i : Nat) : Int) ∧ (∀ cc y : Nat, ¬ (cc = 223 ∧ pos ≤ y ∧ y < pos + cl_T m i) → v.2 cc y = m cc y) ∧ ∀ x : Nat, x < cl_T m i → v.2 223 (pos + x) = cb_T m i x) := by
  have cl : cl_T m i = 2 + (m 202 i).toNat := by unfold cl_T; rw [if_pos k1]
  have b2 : 0 ≤ m 202 i ∧ m 202 i ≤ 255 ∧ 0 ≤ m 201 i ∧ m 201 i ≤ 100000 := by
    rcases P.2 with ⟨-, -, -, c4, c5, -⟩ | ⟨c1, -⟩ | ⟨c1, -⟩ | ⟨c1, -⟩
    · omega
    · omega
    · omega
    · omega
  intro f
  induction f with
  | zero => intro l g _ _ _; exact fun _ z => nomatch z
  | succ f ih =>
    intro l g hl E B
    unfold qw_X13_writeConstant_63
    refine pc_rA ?_; intro _ _ v14 e14
    rw [Int.toNat_natCast, E 202 _ (by omega)] at e14
    refine pc_if (fun z => ?_) (fun z => ?_)
    · refine pc_add (by omega) ?_; intro v15 e15
      refine pc_rA ?_; intro _ _ v17 e17
      rw [Int.toNat_natCast, E 202 _ (by omega)] at e17
      refine pc_add (by omega) ?_; intro v18 e18
      exact pc_ret ⟨by show v18 = _; omega, E, fun x hx => B x (by omega)⟩
    · refine pc_add (by omega) ?_; intro v20 e20
      refine pc_add (by omega) ?_; intro v21 e21
      refine pc_rA ?_; intro _ _ v24 e24
      rw [Int.toNat_natCast, E 201 _ (by omega)] at e24
      refine pc_add (by omega) ?_; intro v25 e25
      refine pc_rA ?_; intro n1 n2 v26 e26
      refine pc_wA ?_; intro _ _ h27 e27
      rw [show v21.toNat = pos + (2 + l) by omega] at e27
      refine pc_add (by omega) ?_; intro v28 e28
      rw [show v28 = ((l + 1 : Nat) : Int) by omega]
      refine ih (l + 1) h27 (by omega) (fun cc y z => by rw [e27, up_n (by omega)]; exact E cc y z) (fun x hx => ?_)
      by_cases q : x = 2 + l
      · rw [q, e27, up_s, e26]
        unfold cb_T
        rw [if_neg (by omega), if_pos k1, if_neg (by omega)]
        rw [E 204 _ (by omega), show v25.toNat = (m 201 i).toNat + (2 + l - 2) by omega]
      · rw [e27, up_n (by omega)]; exact B x (by omega)
theorem r_wc119 (k2 : m 200 i = 2) (i2 : i ≤ 200) (pb : pos ≤ 100000) : ∀ (f l : Nat) (g : ms_M), l ≤ 4 → (∀ cc y : Nat, ¬ (cc = 223 ∧ pos ≤ y ∧ y < pos + cl_T m i) → g cc y = m cc y) → (∀ x : Nat, x < 1 + l → g 223 (pos + x) = cb_T m i x) → Pc (qw_X13_writeConstant_119 nn f (i : Int) ((pos + 1 : Nat) : Int) (l : Int) g) (fun v => v.1 = ((pos + cl_T m i : Nat) : Int) ∧ (∀ cc y : Nat, ¬ (cc = 223 ∧ pos ≤ y ∧ y < pos + cl_T m i) → v.2 cc y = m cc y) ∧ ∀ x : Nat, x < cl_T m i → v.2 223 (pos + x) = cb_T m i x) := by
  have cl : cl_T m i = 5 := by unfold cl_T; rw [if_neg (by omega), if_pos k2]
  intro f
  induction f with
  | zero => intro l g _ _ _; exact fun _ z => nomatch z
  | succ f ih =>
    intro l g hl E B
    unfold qw_X13_writeConstant_119
    refine pc_if (fun z => ?_) (fun z => ?_)
    · refine pc_add (by omega) ?_; intro v1 e1
      exact pc_ret ⟨by show v1 = _; omega, E, fun x hx => B x (by omega)⟩
    · refine pc_add (by omega) ?_; intro v3 e3
      refine pc_rA ?_; intro _ _ v5 e5
      rw [Int.toNat_natCast, E 201 _ (by omega)] at e5
      refine pc_xl ?_; intro v6 e6
      rw [oq_mul_eq (by omega) (by omega) (by omega)] at e6
      refine pc_xl ?_; intro v7 e7
      rw [oq_sub_eq (by omega) (by omega) (by omega)] at e7
      refine pc_xl ?_; intro v8 e8
      refine pc_xl ?_; intro v9 e9
      refine pc_wA ?_; intro _ _ h10 e10
      rw [show v3.toNat = pos + (1 + l) by omega] at e10
      refine pc_add (by omega) ?_; intro v11 e11
      rw [show v11 = ((l + 1 : Nat) : Int) by omega]
      refine ih (l + 1) h10 (by omega) (fun cc y z => by rw [e10, up_n (by omega)]; exact E cc y z) (fun x hx => ?_)
      by_cases q : x = 1 + l
      · rw [q, e10, up_s, e9, oq_and_al, e8, e7, e6, e5]
        unfold cb_T
        rw [if_neg (by omega), if_neg (by omega), if_pos k2, show (24 : Int) - 8 * (l : Int) = 8 * (4 - ((1 + l : Nat) : Int)) by omega]
      · rw [e10, up_n (by omega)]; exact B x (by omega)
theorem r_wcn (P : PCi h m i) (i2 : i ≤ 200) (pb : pos ≤ 100000) : Pc (qf_X13_writeConstant nn (i : Int) (pos : Int) m) (fun v => v.1 = ((pos + cl_T m i : Nat) : Int) ∧ (∀ cc y : Nat, ¬ (cc = 223 ∧ pos ≤ y ∧ y < pos + cl_T m i) → v.2 cc y = m cc y) ∧ ∀ x : Nat, x < cl_T m i → v.2 223 (pos + x) = cb_T m i x) := by
  have cb := cl_b P
  unfold qf_X13_writeConstant
  refine pc_rA ?_; intro _ _ v32 e32
  rw [Int.toNat_natCast] at e32
  refine pc_wA ?_; intro _ _ h33 e33
  rw [Int.toNat_natCast] at e33
  refine pc_add (by omega) ?_; intro v34 e34
  rw [show v34 = ((pos + 1 : Nat) : Int) by omega]
  refine pc_rA ?_; intro _ _ v36 e36
  rw [Int.toNat_natCast, e33, up_n (by omega)] at e36
  have E33 : ∀ cc y : Nat, ¬ (cc = 223 ∧ y = pos) → h33 cc y = m cc y := fun cc y z => by rw [e33, up_n z]
  have b0 : h33 223 pos = cb_T m i 0 := by
    rw [e33, up_s, e32]
    unfold cb_T; rw [if_pos rfl]
  refine pc_if (fun z => ?_) (fun z => ?_)
  · have k1 : m 200 i = 1 := by omega
    have cl : cl_T m i = 2 + (m 202 i).toNat := by unfold cl_T; rw [if_pos k1]
    refine pc_rA ?_; intro _ _ v54 e54
    rw [Int.toNat_natCast, E33 202 _ (by omega)] at e54
    refine pc_wA ?_; intro _ _ h55 e55
    rw [Int.toNat_natCast] at e55
    rw [show (0 : Int) = ((0 : Nat) : Int) from rfl]
    refine r_wc63 P k1 i2 pb nn 0 h55 ?_ (fun cc y z => by rw [e55, up_n (by omega)]; exact E33 cc y (by omega)) (fun x hx => ?_)
    · rcases P.2 with ⟨-, -, -, c4, -⟩ | ⟨c1, -⟩ | ⟨c1, -⟩ | ⟨c1, -⟩
      · omega
      · omega
      · omega
      · omega
    · by_cases x0 : x = 0
      · rw [x0, e55, up_n (by omega)]; exact b0
      · rw [show x = 1 by omega, e55, up_s, e54]
        unfold cb_T; rw [if_neg (by omega), if_pos k1, if_pos rfl]
  refine pc_if (fun z2 => ?_) (fun z2 => ?_)
  · have k2 : m 200 i = 2 := by omega
    have cl : cl_T m i = 5 := by unfold cl_T; rw [if_neg (by omega), if_pos k2]
    rw [show (0 : Int) = ((0 : Nat) : Int) from rfl]
    exact r_wc119 k2 i2 pb nn 0 h33 (by omega) (fun cc y z => E33 cc y (by omega)) (fun x hx => by rw [show x = 0 by omega]; exact b0)
  refine pc_if (fun z3 => ?_) (fun z3 => ?_)
  · have k3 : m 200 i = 3 := by omega
    have cl : cl_T m i = 2 := by unfold cl_T; rw [if_neg (by omega), if_neg (by omega), if_pos k3]
    refine pc_rA ?_; intro _ _ v58 e58
    rw [Int.toNat_natCast, E33 201 _ (by omega)] at e58
    refine pc_wA ?_; intro _ _ h59 e59
    rw [Int.toNat_natCast] at e59
    refine pc_add (by omega) ?_; intro v60 e60
    refine pc_ret ⟨by show v60 = _; omega, fun cc y z => ?_, fun x hx => ?_⟩
    · show h59 cc y = _
      rw [e59, up_n (by omega)]; exact E33 cc y (by omega)
    · show h59 223 _ = _
      by_cases x0 : x = 0
      · rw [x0, e59, up_n (by omega)]; exact b0
      · rw [show x = 1 by omega, e59, up_s, e58]
        unfold cb_T; rw [if_neg (by omega), if_neg (by omega), if_neg (by omega), if_pos rfl]
  · have k4 : m 200 i = 4 := by
      rcases P.2 with ⟨c1, -⟩ | ⟨c1, -⟩ | ⟨c1, -⟩ | ⟨c1, -⟩
      · omega
      · omega
      · omega
      · omega
    have cl : cl_T m i = 4 := by unfold cl_T; rw [if_neg (by omega), if_neg (by omega), if_neg (by omega)]
    refine pc_rA ?_; intro _ _ v39 e39
    rw [Int.toNat_natCast, E33 201 _ (by omega)] at e39
    refine pc_wA ?_; intro _ _ h40 e40
    rw [Int.toNat_natCast] at e40
    refine pc_add (by omega) ?_; intro v42 e42
    refine pc_rA ?_; intro _ _ v44 e44
    rw [Int.toNat_natCast, e40, up_n (by omega), E33 202 _ (by omega)] at e44
    refine pc_wA ?_; intro _ _ h45 e45
    rw [show v42.toNat = pos + 2 by omega] at e45
    refine pc_add (by omega) ?_; intro v47 e47
    refine pc_rA ?_; intro _ _ v49 e49
    rw [Int.toNat_natCast, e45, up_n (by omega), e40, up_n (by omega), E33 203 _ (by omega)] at e49
    refine pc_wA ?_; intro _ _ h50 e50
    rw [show v47.toNat = pos + 3 by omega] at e50
    refine pc_add (by omega) ?_; intro v51 e51
    refine pc_ret ⟨by show v51 = _; omega, fun cc y z => ?_, fun x hx => ?_⟩
    · show h50 cc y = _
      rw [e50, up_n (by omega), e45, up_n (by omega), e40, up_n (by omega)]; exact E33 cc y (by omega)
    · show h50 223 _ = _
      have cbx : ∀ x : Nat, ¬ x = 0 → cb_T m i x = if x = 1 then m 201 i else if x = 2 then m 202 i else m 203 i := fun x x0 => by
        unfold cb_T; rw [if_neg x0, if_neg (by omega), if_neg (by omega)]
      by_cases x0 : x = 0
      · rw [x0, e50, up_n (by omega), e45, up_n (by omega), e40, up_n (by omega)]; exact b0
      rw [cbx x x0]
      by_cases x1 : x = 1
      · rw [x1, e50, up_n (by omega), e45, up_n (by omega), e40, up_s, if_pos rfl]; exact e39
      by_cases x2 : x = 2
      · rw [x2, e50, up_n (by omega), e45, up_s, if_neg (by omega), if_pos rfl]; exact e44
      · rw [show x = 3 by omega, e50, up_s, if_neg (by omega), if_neg (by omega)]; exact e49
end
end
section
/- the image of a class: the reference's side, whole -/
section
variable {nn : Nat} {cn i pos k : Nat} {h g u m w : ms_M} {Z : ms_M → Prop}
theorem cl_k (e : ∀ cc y : Nat, 200 ≤ cc ∧ cc ≤ 204 → g cc y = m cc y) : cl_T g i = cl_T m i := by
  unfold cl_T
  rw [e 200 i (by omega), e 202 i (by omega)]
theorem cb_k {x : Nat} (e : ∀ cc y : Nat, 200 ≤ cc ∧ cc ≤ 204 → g cc y = m cc y) : cb_T g i x = cb_T m i x := by
  unfold cb_T
  rw [e 200 i (by omega), e 201 i (by omega), e 202 i (by omega), e 203 i (by omega), e 204 _ (by omega)]
theorem pci_r (P : PCi h m i) (e : ∀ cc y : Nat, 200 ≤ cc ∧ cc ≤ 204 → g cc y = m cc y) : PCi h g i := by
  unfold PCi at *
  rw [e 200 i (by omega), e 201 i (by omega), e 202 i (by omega), e 203 i (by omega)]
  refine ⟨P.1, ?_⟩
  rcases P.2 with ⟨a1, a2, a3, a4, a5, a6⟩ | p
  · refine .inl ⟨a1, a2, a3, a4, a5, fun k hk => ?_⟩
    rw [e 204 _ (by omega)]; exact a6 k hk
  · exact .inr p
/-- constants are bytes -/
theorem cb_r {x : Nat} (P : PCi h m i) (hx : x < cl_T m i) : 0 ≤ cb_T m i x ∧ cb_T m i x ≤ 255 := by
  unfold cl_T at hx
  unfold cb_T
  by_cases x0 : x = 0
  · rw [if_pos x0]
    rcases P.2 with ⟨c1, -⟩ | ⟨c1, -⟩ | ⟨c1, -⟩ | ⟨c1, -⟩
    · omega
    · omega
    · omega
    · omega
  rw [if_neg x0]
  rcases P.2 with ⟨c1, c2, c3, c4, c5, c6⟩ | ⟨c1, c2⟩ | ⟨c1, c2, c3⟩ | ⟨c1, c2, c3⟩
  · rw [if_pos c1] at hx ⊢
    by_cases x1 : x = 1
    · rw [if_pos x1]; exact c4
    · rw [if_neg x1]
      exact (c6 (x - 2) (by omega)).2
  · rw [if_neg (by omega), if_pos c1]; omega
  · rw [if_neg (by omega), if_neg (by omega), if_pos c1] at hx
    rw [if_neg (by omega), if_neg (by omega), if_pos (by omega)]; omega
  · rw [if_neg (by omega), if_neg (by omega)]
    by_cases x1 : x = 1
    · rw [if_pos x1]; omega
    · rw [if_neg x1]
      by_cases x2 : x = 2
      · rw [if_pos x2]; omega
      · rw [if_neg x2]; omega
theorem r_440 {l2 : Int} {pb : Nat} (pb6 : pb ≤ 100000) (l7 : 0 ≤ m 160 97 ∧ m 160 97 ≤ 6000) : ∀ (f l : Nat) (g : ms_M), (l : Int) ≤ m 160 97 → (∀ cc y : Nat, ¬ (cc = 223 ∧ pb ≤ y ∧ y < pb + (m 160 97).toNat) → g cc y = m cc y) → (∀ x : Nat, x < l → g 223 (pb + x) = m 225 x) → Pc (qw_X13_makeClass_440 nn f (k : Int) l2 (pb : Int) (l : Int) g) (fun u => u 224 k = l2 ∧ (∀ cc y : Nat, ¬ (cc = 223 ∧ pb ≤ y ∧ y < pb + (m 160 97).toNat) → ¬ (cc = 224 ∧ y = k) → u cc y = m cc y) ∧ ∀ x : Nat, (x : Int) < m 160 97 → u 223 (pb + x) = m 225 x) := by
  intro f
  induction f with
  | zero => intro l g _ _ _; exact fun _ z => nomatch z
  | succ f ih =>
    intro l g hl E B
    unfold qw_X13_makeClass_440
    have e97 := E 160 97 (by omega)
    refine pc_if (fun z => ?_) (fun z => ?_)
    · refine pc_wA ?_; intro _ _ h3 e3
      rw [Int.toNat_natCast] at e3
      refine pc_ret ⟨by rw [e3, up_s], fun cc y z1 z2 => by rw [e3, up_n z2]; exact E cc y z1, fun x hx => ?_⟩
      rw [e3, up_n (by omega)]; exact B x (by omega)
    · refine pc_add (by omega) ?_; intro v5 e5
      refine pc_rA ?_; intro _ _ v7 e7
      rw [Int.toNat_natCast, E 225 _ (by omega)] at e7
      refine pc_wA ?_; intro _ _ h8 e8
      rw [show v5.toNat = pb + l by omega] at e8
      refine pc_add (by omega) ?_; intro v9 e9
      rw [show v9 = ((l + 1 : Nat) : Int) by omega]
      refine ih (l + 1) h8 (by omega) (fun cc y z => by rw [e8, up_n (by omega)]; exact E cc y z) (fun x hx => ?_)
      by_cases q : x = l
      · rw [q, e8, up_s]; exact e7
      · rw [e8, up_n (by omega)]; exact B x (by omega)
/-- the image is written -/
theorem r_414 {sz : Int} (P : ∀ i : Nat, 1 ≤ i → i ≤ cn → PCi h m i) (c2 : cn ≤ 200) (m62 : m 160 62 = (cn : Int)) (l7 : 0 ≤ m 160 97) (k8 : k < 8) (hs : sz = 3 + m 160 97 + (sm_T m cn : Int)) (s6 : sz ≤ 6000) : ∀ (f i : Nat) (g : ms_M), i ≤ cn → (∀ cc y : Nat, ¬ (cc = 223 ∧ 6000 * k ≤ y ∧ y < 6000 * k + sz.toNat) → g cc y = m cc y) → (g 223 (6000 * k) = 74 ∧ g 223 (6000 * k + 1) = 77 ∧ g 223 (6000 * k + 2) = (cn : Int)) → (∀ i2 : Nat, i2 < i → ∀ x : Nat, x < cl_T m (i2 + 1) → g 223 (6000 * k + (3 + sm_T m i2 + x)) = cb_T m (i2 + 1) x) → Pc (qw_X13_makeClass_414 nn f (k : Int) sz ((6000 * k + (3 + sm_T m i) : Nat) : Int) ((i + 1 : Nat) : Int) g) (fun u => u 224 k = sz ∧ RIM m cn (m 160 97) (m 225) (fun x => u 223 (6000 * k + x)) ∧ ∀ cc y : Nat, ¬ (cc = 223 ∧ 6000 * k ≤ y ∧ y < 6000 * k + sz.toNat) → ¬ (cc = 224 ∧ y = k) → u cc y = m cc y) := by
  intro f
  induction f with
  | zero => intro i g _ _ _ _; exact fun _ z => nomatch z
  | succ f ih =>
    intro i g hi E G0 G1
    have e62 := E 160 62 (by omega)
    have e97 := E 160 97 (by omega)
    unfold qw_X13_makeClass_414
    refine pc_if (fun z => ?_) (fun z => ?_)
    · have ic : i = cn := by omega
      rw [ic] at G1 ⊢
      rw [show (0 : Int) = ((0 : Nat) : Int) from rfl]
      refine pc_imp (r_440 (nn := nn) (k := k) (m := g) (l2 := sz) (pb := 6000 * k + (3 + sm_T m cn)) (by omega) (by omega) nn 0 g (by omega) (fun _ _ _ => rfl) (fun x hx => absurd hx (by omega))) (fun u ⟨a1, a2, a3⟩ => ⟨a1, ⟨⟨?_, ?_, ?_⟩, fun i2 h2 x hx => ?_, fun x hx => ?_⟩, fun cc y z1 z2 => ?_⟩)
      · show u 223 (6000 * k + 0) = 74
        rw [a2 223 _ (by omega) (by omega)]; exact G0.1
      · show u 223 (6000 * k + 1) = 77
        rw [a2 223 _ (by omega) (by omega)]; exact G0.2.1
      · show u 223 (6000 * k + 2) = _
        rw [a2 223 _ (by omega) (by omega)]; exact G0.2.2
      · show u 223 (6000 * k + (3 + sm_T m i2 + x)) = _
        have a : sm_T m i2 + cl_T m (i2 + 1) ≤ sm_T m cn := smi_le (m := m) (i := i2 + 1) (j := cn) (by omega)
        rw [a2 223 _ (by omega) (by omega)]; exact G1 i2 h2 x hx
      · show u 223 (6000 * k + (3 + sm_T m cn + x)) = _
        have b := a3 x (by omega)
        rw [show 6000 * k + (3 + sm_T m cn + x) = 6000 * k + (3 + sm_T m cn) + x by omega, b, E 225 _ (by omega)]
      · rw [a2 cc y (by omega) z2]; exact E cc y z1
    · have pi := P (i + 1) (by omega) (by omega)
      have eg : ∀ cc y : Nat, 200 ≤ cc ∧ cc ≤ 204 → g cc y = m cc y := fun cc y z => E cc y (by omega)
      have a : sm_T m i + cl_T m (i + 1) ≤ sm_T m cn := smi_le (m := m) (i := i + 1) (j := cn) (by omega)
      refine pc_sv (r_wcn (pos := 6000 * k + (3 + sm_T m i)) (pci_r pi eg) (by omega) (by omega)) ?_; intro u13 ⟨q1, q2, q3⟩
      rw [cl_k (i := i + 1) eg] at q1 q2 q3
      refine pc_add (by omega) ?_; intro v14 e14
      have ev : u13.1 = ((6000 * k + (3 + sm_T m (i + 1)) : Nat) : Int) := by
        show u13.1 = ((6000 * k + (3 + (sm_T m i + cl_T m (i + 1))) : Nat) : Int)
        omega
      rw [ev, show v14 = ((i + 1 + 1 : Nat) : Int) by omega]
      refine ih (i + 1) u13.2 (by omega) (fun cc y z => by rw [q2 cc y (by omega)]; exact E cc y z) ⟨?_, ?_, ?_⟩ (fun i2 h2 x hx => ?_)
      · rw [q2 223 _ (by omega)]; exact G0.1
      · rw [q2 223 _ (by omega)]; exact G0.2.1
      · rw [q2 223 _ (by omega)]; exact G0.2.2
      · by_cases q : i2 = i
        · rw [q] at hx ⊢
          rw [show 6000 * k + (3 + sm_T m i + x) = 6000 * k + (3 + sm_T m i) + x by omega, q3 x hx]; exact cb_k eg
        · have b : sm_T m i2 + cl_T m (i2 + 1) ≤ sm_T m i := smi_le (m := m) (i := i2 + 1) (j := i) (by omega)
          rw [q2 223 _ (by omega)]; exact G1 i2 (by omega) x hx
theorem r_364 {sz : Int} (P : ∀ i : Nat, 1 ≤ i → i ≤ cn → PCi h m i) (c2 : cn ≤ 200) (m62 : m 160 62 = (cn : Int)) (m9 : m 160 9 = 0) (l7 : 0 ≤ m 160 97) (k8 : k < 8) (hs : sz = 3 + m 160 97 + (sm_T m cn : Int)) (s6 : sz ≤ 6000) : Pc (qj_X13_makeClass_364 nn (k : Int) sz m) (fun u => u 224 k = sz ∧ RIM m cn (m 160 97) (m 225) (fun x => u 223 (6000 * k + x)) ∧ ∀ cc y : Nat, ¬ (cc = 223 ∧ 6000 * k ≤ y ∧ y < 6000 * k + sz.toNat) → ¬ (cc = 224 ∧ y = k) → u cc y = m cc y) := by
  unfold qj_X13_makeClass_364
  refine pc_if (fun _ => ?_) (fun z => absurd m9 z)
  refine pc_xl ?_; intro v17 e17
  rw [oq_mul_eq (by omega) (by omega) (by omega)] at e17
  refine pc_wA ?_; intro _ _ h19 e19
  rw [show v17.toNat = 6000 * k by omega] at e19
  refine pc_add (by omega) ?_; intro v21 e21
  refine pc_wA ?_; intro _ _ h22 e22
  rw [show v21.toNat = 6000 * k + 1 by omega] at e22
  refine pc_add (by omega) ?_; intro v24 e24
  refine pc_wA ?_; intro _ _ h26 e26
  rw [show v24.toNat = 6000 * k + 2 by omega] at e26
  refine pc_add (by omega) ?_; intro v27 e27
  rw [show v27 = ((6000 * k + (3 + sm_T m 0) : Nat) : Int) by show v27 = ((6000 * k + (3 + 0) : Nat) : Int); omega, show (1 : Int) = ((0 + 1 : Nat) : Int) from rfl]
  refine r_414 P c2 m62 l7 k8 hs s6 nn 0 h26 (Nat.zero_le _) (fun cc y z => by rw [e26, up_n (by omega), e22, up_n (by omega), e19, up_n (by omega)]) ⟨?_, ?_, ?_⟩ (fun i2 h2 => absurd h2 (by omega))
  · rw [e26, up_n (by omega), e22, up_n (by omega), e19, up_s]
  · rw [e26, up_n (by omega), e22, up_s]
  · rw [e26, up_s, e22, up_n (by omega), e19, up_n (by omega)]; exact m62
/-- the size, the reference's side -/
theorem r_261 (P : ∀ i : Nat, 1 ≤ i → i ≤ cn → PCi h m i) (c2 : cn ≤ 200) (m62 : m 160 62 = (cn : Int)) (m9 : m 160 9 = 0) (l7 : 0 ≤ m 160 97 ∧ m 160 97 ≤ 100000000) (H1 : 3 + m 160 97 + (sm_T m cn : Int) ≤ 6000 → Pc (qj_X13_makeClass_364 nn (k : Int) (3 + m 160 97 + (sm_T m cn : Int)) m) Z) (H2 : 6000 < 3 + m 160 97 + (sm_T m cn : Int) → Pc (qj_X13_makeClass_352 nn (k : Int) (3 + m 160 97 + (sm_T m cn : Int)) m) Z) : ∀ (f i : Nat), i ≤ cn → Pc (qw_X13_makeClass_261 nn f (k : Int) (3 + m 160 97 + (sm_T m i : Int)) ((i + 1 : Nat) : Int) m) Z := by
  intro f
  induction f with
  | zero => intro i _; exact fun _ z => nomatch z
  | succ f ih =>
    intro i hi
    unfold qw_X13_makeClass_261
    refine pc_if (fun z => ?_) (fun z => ?_)
    · rw [show i = cn by omega]
      refine pc_if (fun z9 => absurd m9 z9) (fun _ => ?_)
      refine pc_if (fun z2 => absurd z2 (by omega)) (fun _ => ?_)
      exact pc_if (fun y => H1 y) (fun y => H2 (by omega))
    · have pi := P (i + 1) (by omega) (by omega)
      have sb := sm_b P i (by omega)
      have cb := cl_b pi
      have N : ∀ s0 : Int, s0 = (cl_T m (i + 1) : Int) → Pc (qj_X13_makeClass_320 nn (qw_X13_makeClass_261 nn f) (k : Int) ((i + 1 : Nat) : Int) s0 (3 + m 160 97 + (sm_T m i : Int)) m) Z := fun s0 e0 => by
        unfold qj_X13_makeClass_320
        refine pc_add (by omega) ?_; intro v33 e33
        refine pc_add (by omega) ?_; intro v34 e34
        have e : v33 = 3 + m 160 97 + (sm_T m (i + 1) : Int) := by
          show v33 = 3 + m 160 97 + ((sm_T m i + cl_T m (i + 1) : Nat) : Int)
          omega
        rw [e, show v34 = ((i + 1 + 1 : Nat) : Int) by omega]
        exact ih (i + 1) (by omega)
      refine pc_rA ?_; intro _ _ v42 e42
      rw [Int.toNat_natCast] at e42
      have cl : cl_T m (i + 1) = if m 200 (i + 1) = 1 then 2 + (m 202 (i + 1)).toNat else if m 200 (i + 1) = 2 then 5 else if m 200 (i + 1) = 3 then 2 else 4 := rfl
      refine pc_if (fun y => ?_) (fun y => ?_)
      · rw [if_neg (by omega)] at cl
        refine pc_rA ?_; intro _ _ v44 e44
        rw [Int.toNat_natCast] at e44
        refine pc_if (fun y2 => ?_) (fun y2 => ?_)
        · rw [if_neg (by omega)] at cl
          refine pc_rA ?_; intro _ _ v46 e46
          rw [Int.toNat_natCast] at e46
          refine pc_if (fun y3 => ?_) (fun y3 => ?_)
          · rw [if_neg (by omega)] at cl
            exact N 4 (by omega)
          · rw [if_pos (by omega)] at cl
            exact N 2 (by omega)
        · rw [if_pos (by omega)] at cl
          exact N 5 (by omega)
      · have k1 : m 200 (i + 1) = 1 := by omega
        rw [if_pos k1] at cl
        refine pc_rA ?_; intro _ _ v50 e50
        rw [Int.toNat_natCast] at e50
        have b2 : 0 ≤ m 202 (i + 1) ∧ m 202 (i + 1) ≤ 255 := by
          rcases pi.2 with ⟨-, -, -, c4, -⟩ | ⟨c1, -⟩ | ⟨c1, -⟩ | ⟨c1, -⟩
          · exact c4
          · omega
          · omega
          · omega
        refine pc_add (by omega) ?_; intro v51 e51
        exact N v51 (by omega)
theorem r_261o (o : 200 < m 160 62) (m9 : m 160 9 = 0) {l1 : Int} (H2 : ∀ l2 : Int, Pc (qj_X13_makeClass_352 nn l1 l2 m) Z) : ∀ (f : Nat) (l2 l3 : Int), Pc (qw_X13_makeClass_261 nn f l1 l2 l3 m) Z := by
  intro f
  induction f with
  | zero => intro l2 l3; exact fun _ z => nomatch z
  | succ f ih =>
    intro l2 l3
    have N : ∀ s0 s1 : Int, Pc (qj_X13_makeClass_320 nn (qw_X13_makeClass_261 nn f) l1 l3 s0 s1 m) Z := fun s0 s1 => by
      unfold qj_X13_makeClass_320
      refine pc_xl ?_; intro v33 _
      refine pc_xl ?_; intro v34 _
      exact ih v33 v34
    unfold qw_X13_makeClass_261
    refine pc_if (fun _ => pc_if (fun z => absurd m9 z) (fun _ => pc_if (fun _ => H2 l2) (fun z => absurd o z))) (fun _ => ?_)
    refine pc_rA ?_; intro _ _ v42 _
    refine pc_if (fun _ => ?_) (fun _ => ?_)
    · refine pc_rA ?_; intro _ _ v44 _
      refine pc_if (fun _ => ?_) (fun _ => N 5 l2)
      refine pc_rA ?_; intro _ _ v46 _
      exact pc_if (fun _ => N 4 l2) (fun _ => N 2 l2)
    · refine pc_rA ?_; intro _ _ v50 _
      refine pc_xl ?_; intro v51 _
      exact N v51 l2
theorem r_352 {X : BCx} {t : Nat} {l2 : Int} (TQ : TBq (bK X) (bP X) (bc X) m) (ht : t < bc X) (m178 : m 178 k = (t : Int)) (m9 : m 160 9 = 0) : Pc (qj_X13_makeClass_352 nn (k : Int) l2 m) (fun u => u 160 9 = 11 ∧ u 160 10 = bP X t) := by
  unfold qj_X13_makeClass_352
  refine pc_rA ?_; intro _ _ v30 e30
  rw [Int.toNat_natCast, m178] at e30
  refine pc_sv (r_wrong TQ ht m9 e30) ?_; intro u32 w1
  unfold qj_X13_makeClass_364
  exact pc_if (fun z => absurd z (by omega)) (fun _ => pc_ret w1)
/-- a place of the image is in one of the constants -/
theorem sm_dec : ∀ (n x : Nat), x < sm_T m n → ∃ (i y : Nat), i < n ∧ y < cl_T m (i + 1) ∧ x = sm_T m i + y := by
  intro n
  induction n with
  | zero => intro x hx; exact absurd hx (Nat.not_lt_zero _)
  | succ n ih =>
    intro x hx
    by_cases q : x < sm_T m n
    · obtain ⟨i, y, h1, h2, h3⟩ := ih x q
      exact ⟨i, y, by omega, h2, h3⟩
    · have hx2 : x < sm_T m n + cl_T m (n + 1) := hx
      exact ⟨n, x - sm_T m n, by omega, by omega, by omega⟩
/-- both images are the same -/
theorem im_eq {l7 : Int} {src srcr b rb : Nat → Int} (P : ∀ i : Nat, 1 ≤ i → i ≤ cn → PCi h m i) (c2 : cn ≤ 200) (C : CIM m cn l7 src b) (R : RIM m cn l7 srcr rb) (e : ∀ x : Nat, (x : Int) < l7 → srcr x = src x % 256) {x : Nat} (hx : (x : Int) < 3 + l7 + (sm_T m cn : Int)) : rb x = b x % 256 := by
  obtain ⟨⟨c0, c1, c22⟩, c3, c4⟩ := C
  obtain ⟨⟨r0, r1, r2⟩, r3, r4⟩ := R
  by_cases x3 : x < 3
  · by_cases x0 : x = 0
    · rw [x0, r0, c0]
    by_cases x1 : x = 1
    · rw [x1, r1, c1]
    · rw [show x = 2 by omega, r2, c22]; omega
  by_cases xs : x < 3 + sm_T m cn
  · obtain ⟨i, y, h1, h2, h3⟩ := sm_dec (m := m) cn (x - 3) (by omega)
    have a := c3 i h1 y h2
    have b' := r3 i h1 y h2
    have cr := cb_r (P (i + 1) (by omega) (by omega)) h2
    rw [show x = 3 + sm_T m i + y by omega, b', a]; omega
  · have a := c4 (x - (3 + sm_T m cn)) (by omega)
    have b' := r4 (x - (3 + sm_T m cn)) (by omega)
    have e' := e (x - (3 + sm_T m cn)) (by omega)
    rw [show 3 + sm_T m cn + (x - (3 + sm_T m cn)) = x by omega] at a b'
    rw [b', a, e']
end
end
section
/- a class is closed, both sides -/
section
variable {nn : Nat} {X : BCx} {a b : Nat → Int} {p q : Nat → Nat} {L0 : Int} {k j i n : Nat} {h g u r v m m0 w y R0 : ms_M}
theorem c_tokC (Y : CXs X) (kn : k < bn X) (J : JBw X h r) : Pc (qf_X2_tokenOfClass nn (k : Int) h) (fun t => t = ((bC X k : Nat) : Int)) := by
  have n8 := Y.2.2.1
  obtain ⟨-, -, h11, h15⟩ := J.1.1.1
  unfold qf_X2_tokenOfClass
  refine pc_if (fun z => absurd z (by omega)) (fun _ => pc_if (fun z => absurd z (by omega)) (fun _ => ?_))
  refine pc_rA ?_; intro _ _ v3 e3
  rw [Int.toNat_natCast, h15 k kn] at e3
  exact pc_ret e3
theorem m_rest {qkk : Int → Int → ms_M → Option ms_M} {u28 : ms_M} (w9 : w 160 9 = 0) (w28 : w 160 28 = (bM X : Int)) (T : ∀ cc x : Nat, (178 ≤ cc ∧ cc ≤ 195) → w cc x = bB X cc x) (zN : ∀ i : Nat, j ≤ i → i < bM X → ¬ MSm (bB X) k 1 i) : ∀ (d f2 : Nat) (j2 : Nat), j ≤ j2 → j2 + d = bM X → qw_X13_makeClass_143 nn qkk f2 (k : Int) 1 (j2 : Int) w = some u28 → qkk (k : Int) 2 w = some u28 := by
  intro d
  induction d with
  | zero =>
    intro f2 j2 h1 h2 e
    rcases m_143 (X := X) w9 w28 T (by omega) f2 u28 e with ⟨-, z⟩ | ⟨z, -⟩ | ⟨z, -⟩
    · exact z
    · omega
    · omega
  | succ d ih =>
    intro f2 j2 h1 h2 e
    rcases m_143 (X := X) w9 w28 T (by omega) f2 u28 e with ⟨z, -⟩ | ⟨-, -, f3, e3⟩ | ⟨-, z, -⟩
    · omega
    · exact ih f3 (j2 + 1) (by omega) (by omega) e3
    · exact absurd z (zN j2 h1 (by omega))
theorem rs_close (Y : CXs X) (kn : k < bn X) (R0f : R0F X R0) (J : JBw X h r) (hj : j ≤ bM X) (zN : ∀ i : Nat, j ≤ i → i < bM X → ¬ MSm (bB X) k 1 i) (R : RST nn X a b p L0 R0 k j h r) : Pc (qf_X0_closeClass nn (k : Int) h) (fun A => RSB nn X a b p L0 R0 (k + 1) j A.1 r ∧ JBw X A.1 r) := by
  have n8 := Y.2.2.1
  have k8 : k < 8 := by omega
  have BK := Y.1
  have CK := Y.2.1.2.1 k kn
  have HD := Y.2.2.2.2.2.2.1
  have tkc : bC X k < bc X := tb_lt BK (by rw [CK.1]; decide)
  have f11 := J.2.1.1
  have TK := c_tokC (nn := nn) Y kn J
  intro A eA
  obtain ⟨A7, AE⟩ := fr_cc A eA
  have A7' : A.1 33 7 = h 33 7 ∨ (h 33 7 = -1 ∧ A.1 33 7 = ((bC X k : Nat) : Int)) := by
    rcases A7 with z | ⟨z, e⟩
    · exact .inl z
    · exact .inr ⟨z, TK _ e⟩
  refine ⟨⟨?_, fun y B F e => ?_⟩, jb_k J (fun cc x z => AE cc x (by omega) (by omega) (by omega)) (fun _ _ _ => rfl)⟩
  · rcases A7' with z | ⟨-, z⟩
    · rw [z]; exact R.1
    · rw [z]; exact .inr ⟨by omega, by rw [Int.toNat_natCast]; exact tkc⟩
  rcases R.2 y B F e with T | ⟨z7, f, f1, f2, w, u28, ⟨W1, W2, W3, W4, W5⟩, e1, e2⟩
  · refine .inl (tmf_k T ?_)
    rcases A7' with z | ⟨z, -⟩
    · exact z
    · exact absurd z T.1.1
  have T := W1.2.1.2.2.2.2.2
  obtain ⟨y28, y24, yT⟩ := fin_28 F R0f
  have w28 : w 160 28 = (bM X : Int) := by rw [W4 160 28 (by omega)]; exact y28
  have e3 := m_rest (X := X) W2.1 w28 T zN (bM X - j) f2 j (Nat.le_refl _) (by omega) e1
  have TQ : TBq (bK X) (bP X) (bc X) w := tbq_f Y.2.2.2.2.1 (fun cc x z => by rw [W4 cc x (by omega)]; exact yT cc x (by omega))
  have m178 : w 178 k = ((bC X k : Nat) : Int) := by rw [T 178 _ (by omega)]; exact (HD.1.2.2.2.2.2 k kn).1
  have NT : NTB h := W1.2.1.1.1
  obtain ⟨⟨by1, by2⟩, by3⟩ := W1.2.2
  have L12 := (HD.2.2.1.1 k k8).2.2
  have mm : mcn_T (bB X) k 1 j ≤ mcn_T (bB X) k 1 (bM X) := by
    have := mcn_m (r := bB X) (k := k) (s := 1) (i := j) (bM X - j)
    rw [show j + (bM X - j) = bM X by omega] at this; exact this
  have l7 : 0 ≤ h 45 7 ∧ h 45 7 ≤ 100000000 := by omega
  have l97 : 0 ≤ w 160 97 ∧ w 160 97 ≤ 100000000 := by omega
  have V := c_ccV (m := w) NT l7 W1.1.1 f11 z7 k8 (fun t et => by rw [TK t et]; omega) A eA
  have K1 : ∀ v29 : Int, v29 = oq_add (k : Int) 1 → v29 = ((k + 1 : Nat) : Int) := fun v29 ev => by
    rw [ev, oq_add_eq (by omega) (by omega) (by omega)]; omega
  have e2' : qw_X13_compile_110 nn f ((k + 1 : Nat) : Int) u28 = some B := by
    rw [← K1 _ rfl]; exact e2
  have ST : ∀ {Z : ms_M → Prop} (g1 : Nat), Pc (qw_X13_makeClass_261 nn nn (k : Int) (3 + w 160 97) 1 w) Z → Pc (qw_X13_makeClass_68 nn g1 (k : Int) 2 w) Z := fun {Z} g1 H => by
    cases g1 with
    | zero => exact fun _ z => nomatch z
    | succ g1 =>
      unfold qw_X13_makeClass_68
      refine pc_if (fun _ => ?_) (fun z => absurd (show (2 : Int) ≤ 2 by omega) z)
      refine pc_add (by omega) ?_; intro v102 e102
      rw [e102]; exact H
  have MUCH : A.1 33 7 = ((bC X k : Nat) : Int) → u28 160 9 = 11 ∧ u28 160 10 = bP X (bC X k) → TMF X A.1 B := fun q7 w1 => by
    obtain ⟨B1, B2⟩ := r_F110 (by omega) f _ B e2'
    refine ⟨⟨by omega, by omega, by rw [q7, Int.toNat_natCast]; exact tkc⟩, B1, by rw [B2]; exact w1.1, ?_⟩
    rw [B2, q7, Int.toNat_natCast]; exact w1.2
  rcases V with ⟨tm, tk⟩ | ⟨q7, cn, v, K, s6, FC, EA, LN, CI⟩
  · refine .inl (MUCH (TK _ tk) ?_)
    rcases tm with ⟨o5, o62⟩ | ⟨cn, K, s6⟩
    · exact ST f1 (r_261o o62 W2.1 (fun l2 => r_352 TQ tkc m178 W2.1) nn _ _) u28 e3
    · have e7 := (by3 K.1).1
      have a := r_261 (nn := nn) (k := k) (Z := fun u => u 160 9 = 11 ∧ u 160 10 = bP X (bC X k)) K.2.2.2.2 K.2.2.2.1 K.2.2.1 W2.1 l97 (fun z => absurd z (by omega)) (fun _ => r_352 TQ tkc m178 W2.1) nn 0 (Nat.zero_le _)
      rw [show 3 + w 160 97 + ((sm_T w 0 : Nat) : Int) = 3 + w 160 97 by show 3 + w 160 97 + ((0 : Nat) : Int) = _; omega] at a
      exact ST f1 a u28 e3
  · refine .inr ⟨q7, f, u28, ?_, e2'⟩
    have e7 := (by3 K.1).1
    have a := r_261 (nn := nn) (k := k) (Z := fun u => u 224 k = 3 + w 160 97 + (sm_T w cn : Int) ∧ RIM w cn (w 160 97) (w 225) (fun x => u 223 (6000 * k + x)) ∧ ∀ cc y : Nat, ¬ (cc = 223 ∧ 6000 * k ≤ y ∧ y < 6000 * k + (3 + w 160 97 + (sm_T w cn : Int)).toNat) → ¬ (cc = 224 ∧ y = k) → u cc y = w cc y) K.2.2.2.2 K.2.2.2.1 K.2.2.1 W2.1 l97 (fun _ => r_364 K.2.2.2.2 K.2.2.2.1 K.2.2.1 W2.1 l97.1 k8 rfl (by omega)) (fun z => absurd z (by omega)) nn 0 (Nat.zero_le _)
    rw [show 3 + w 160 97 + ((sm_T w 0 : Nat) : Int) = 3 + w 160 97 by show 3 + w 160 97 + ((0 : Nat) : Int) = _; omega] at a
    obtain ⟨u224, RI, UE⟩ := ST f1 a u28 e3
    have c1 := FC.1
    refine ⟨⟨by rw [UE 160 9 (by omega) (by omega)]; exact W2.1, txe_k W1.2.1 (fun cc x z => AE cc x (by omega) (by omega) (by omega)) (fun cc x z => UE cc x (by omega) (by omega))⟩, ?_, fun cc x z => by rw [UE cc x (by omega) (by omega)]; exact W4 cc x z, fun c hc => ?_⟩
    · obtain ⟨l1, D, l2, l3⟩ := W3
      have e88 := UE 160 88 (by omega) (by omega)
      exact ⟨by omega, D, by omega, l3⟩
    have AC : ∀ cc x : Nat, ¬ (cc = 43 ∧ x = k) → A.1 cc x = v cc x := fun cc x z => by rw [EA, up_n z]
    have cnA : cn_M A.1 = cn_M h + 1 := by
      have := FC.2.1
      unfold cn_M at *
      rw [AC 900000 0 (by omega)]; exact this
    by_cases ck : c = k
    · refine ⟨cn_M h, by rw [ck, EA, up_s], by omega, ?_, by rw [ck, u224]; omega, fun x hx => ?_⟩
      · rw [ck, u224, ← e7, ← LN]
        unfold ln_I
        rw [if_neg (by omega), if_neg (by omega)]
        exact AC 900001 _ (by omega)
      · rw [ck, u224] at hx
        rw [ck, AC (cn_M h) x (by omega)]
        refine im_eq (h := h) (m := w) K.2.2.2.2 K.2.2.2.1 CI (by rw [e7]; exact RI) (fun x hx => ?_) (by rw [e7]; exact hx)
        exact (by3 K.1).2 x hx (by omega)
    · obtain ⟨id, i1, i2, i3, i4, i5⟩ := W5 c (by omega)
      have VE : ∀ x : Nat, v id x = h id x := fun x => FC.2.2 id x (by omega) (by omega) (by omega)
      refine ⟨id, ?_, by omega, ?_, by rw [UE 224 c (by omega) (by omega)]; exact i4, fun x hx => ?_⟩
      · rw [AC 43 c (by omega), FC.2.2 43 c (by omega) (by omega) (by omega)]; exact i1
      · rw [UE 224 c (by omega) (by omega), ← i3]
        unfold ln_I
        rw [if_neg (by omega), if_neg (by omega), AC 900001 id (by omega)]
        exact FC.2.2 900001 id (by omega) (by omega) (by omega)
      · rw [UE 224 c (by omega) (by omega)] at hx
        rw [UE 223 _ (by omega) (by omega), AC id x (by omega), VE x]
        exact i5 x hx
end
end
section
/- compile, whole: the end of both sides -/
/-- the images of both sides, as they can be asked for -/
def OIM (n : Nat) (h w : ms_M) : Prop := (h 0 7 = (n : Int) ∧ w 160 93 = (n : Int) ∧ n ≤ 8) ∧ ∀ c : Nat, c < n → ∃ id : Nat, h 55 c = (id : Int) ∧ (256 ≤ id ∧ id < cn_M h ∧ id < 900000) ∧ ln_I h id = w 222 c ∧ (0 ≤ w 222 c ∧ w 222 c ≤ 6000) ∧ ∀ x : Nat, (x : Int) < w 222 c → w 221 (6000 * c + x) = h id x % 256
/-- what compile gives, both sides -/
def FNL (n : Nat) (A : Int × ms_M × Nat × Nat) (B : Int × ms_M) : Prop := (A.1 = -1 ∧ B.1 = -1 ∧ SFj A.2.1 B.2) ∨ ((A.1 = (n : Int) ∧ B.1 = (n : Int)) ∧ (A.2.1 2 11 = 0 ∧ B.2 160 9 = 0) ∧ OIM n A.2.1 B.2)
section
variable {nn : Nat} {X : BCx} {a b : Nat → Int} {p q : Nat → Nat} {L0 : Int} {k j i n : Nat} {h g u r v m m0 w y R0 : ms_M}
theorem c_take (e11 : h 11 2 = (n : Int)) (n8 : n ≤ 8) : Pc (qf_X12_takeImages nn h) (fun A => A.1 = (n : Int) ∧ A.2 0 7 = (n : Int) ∧ (∀ c : Nat, c < n → A.2 55 c = h 43 c) ∧ ∀ cc x : Nat, ¬ (cc = 0 ∧ x = 7) → ¬ cc = 55 → A.2 cc x = h cc x) := by
  unfold qf_X12_takeImages
  refine pc_xl ?_; intro h16 e16
  have L : ∀ (f c : Nat) (g : ms_M), c ≤ n → g 0 7 = (n : Int) → (∀ c2 : Nat, c2 < c → g 55 c2 = h 43 c2) → (∀ cc x : Nat, ¬ (cc = 0 ∧ x = 7) → ¬ cc = 55 → g cc x = h cc x) → Pc (qw_X12_takeImages_13 nn f (c : Int) g) (fun A => A.1 = (n : Int) ∧ A.2 0 7 = (n : Int) ∧ (∀ c : Nat, c < n → A.2 55 c = h 43 c) ∧ ∀ cc x : Nat, ¬ (cc = 0 ∧ x = 7) → ¬ cc = 55 → A.2 cc x = h cc x) := by
    intro f
    induction f with
    | zero => intro c g _ _ _ _; exact fun _ z => nomatch z
    | succ f ih =>
      intro c g hc g7 g55 G
      unfold qw_X12_takeImages_13
      refine pc_if (fun z => ?_) (fun z => ?_)
      · refine pc_ret ⟨g7, g7, fun c2 h2 => g55 c2 (by omega), G⟩
      · refine pc_if (fun z => absurd z (by omega)) (fun _ => ?_)
        refine pc_sv (P := fun v => v = h 43 c) ?_ ?_
        · unfold qf_X0_made
          refine pc_if (fun z => absurd z (by omega)) (fun _ => pc_if (fun z => absurd z (by omega)) (fun _ => ?_))
          refine pc_rA ?_; intro _ _ v4 e4
          rw [Int.toNat_natCast, G 43 _ (by omega) (by omega)] at e4
          exact pc_ret e4
        intro u9 q9
        unfold wr_QB
        refine pc_if (fun _ => ?_) (fun _ => fun _ z => nomatch z)
        refine pc_add (by omega) ?_; intro v11 e11
        rw [show v11 = ((c + 1 : Nat) : Int) by omega, Int.toNat_natCast]
        refine ih (c + 1) _ (by omega) (by rw [up_n (by omega)]; exact g7) (fun c2 h2 => ?_) (fun cc x z1 z2 => by rw [up_n (by omega)]; exact G cc x z1 z2)
        by_cases q : c2 = c
        · rw [q, up_s]; exact q9
        · rw [up_n (by omega)]; exact g55 c2 (by omega)
  exact L nn 0 h16 (Nat.zero_le _) (by rw [e16, up_s]; exact e11) (fun c2 h2 => absurd h2 (by omega)) (fun cc x z1 z2 => by rw [e16, up_n z1])
/-- the reference takes its images over -/
def T147 (n : Nat) (m : ms_M) (B : Int × ms_M) : Prop := B.1 = (n : Int) ∧ B.2 160 93 = (n : Int) ∧ (∀ c : Nat, c < n → B.2 222 c = m 224 c ∧ ∀ x : Nat, (x : Int) < m 224 c → B.2 221 (6000 * c + x) = m 223 (6000 * c + x)) ∧ ∀ cc x : Nat, ¬ (cc = 160 ∧ x = 93) → ¬ cc = 221 → ¬ cc = 222 → B.2 cc x = m cc x
def T147i (c : Nat) (m g : ms_M) : Prop := (∀ c2 : Nat, c2 < c → g 222 c2 = m 224 c2 ∧ ∀ x : Nat, (x : Int) < m 224 c2 → g 221 (6000 * c2 + x) = m 223 (6000 * c2 + x)) ∧ ∀ cc x : Nat, ¬ cc = 221 → ¬ cc = 222 → g cc x = m cc x
theorem r_147 (n8 : n ≤ 8) (m24 : m 160 24 = (n : Int)) (L : ∀ c : Nat, c < n → 0 ≤ m 224 c ∧ m 224 c ≤ 6000) : ∀ (f c : Nat) (g : ms_M), c ≤ n → T147i c m g → Pc (qw_X13_compile_147 nn f (c : Int) g) (fun B => T147 n m B) := by
  intro f
  induction f with
  | zero => intro c g _ _; exact fun _ z => nomatch z
  | succ f ih =>
    intro c g hc ⟨G1, G2⟩
    have g24 : g 160 24 = (n : Int) := by rw [G2 160 24 (by omega) (by omega)]; exact m24
    rw [show qw_X13_compile_147 nn (f + 1) (c : Int) g = (if (g 160 24) ≤ (c : Int) then (xl (up_M g 160 93 (g 160 24)) fun h16 => some ((h16 160 24), h16)) else (rd_A 8 224 (c : Int) g fun v20 => wr_A 8 222 (c : Int) v20 g fun h21 => qw_X13_compile_169 nn (qw_X13_compile_147 nn f) nn (c : Int) 0 h21)) from rfl]
    refine pc_if (fun z => ?_) (fun z => ?_)
    · refine pc_xl ?_; intro h16 e16
      refine pc_ret ⟨?_, ?_, fun c2 h2 => ?_, fun cc x z1 z2 z3 => ?_⟩
      · show h16 160 24 = _
        rw [e16, up_n (by omega)]; exact g24
      · show h16 160 93 = _
        rw [e16, up_s]; exact g24
      · show h16 222 c2 = _ ∧ ∀ x : Nat, _ → h16 221 _ = _
        rw [e16, up_n (by omega)]
        refine ⟨(G1 c2 (by omega)).1, fun x hx => ?_⟩
        rw [up_n (by omega)]; exact (G1 c2 (by omega)).2 x hx
      · show h16 cc x = _
        rw [e16, up_n z1]; exact G2 cc x z2 z3
    · have lc := L c (by omega)
      refine pc_rA ?_; intro _ _ v20 e20
      rw [Int.toNat_natCast, G2 224 _ (by omega) (by omega)] at e20
      refine pc_wA ?_; intro _ _ h21 e21
      rw [Int.toNat_natCast] at e21
      have I : ∀ (f2 l : Nat) (g2 : ms_M), (l : Int) ≤ m 224 c → (∀ c2 : Nat, c2 < c → g2 222 c2 = m 224 c2 ∧ ∀ x : Nat, (x : Int) < m 224 c2 → g2 221 (6000 * c2 + x) = m 223 (6000 * c2 + x)) → g2 222 c = m 224 c → (∀ x : Nat, x < l → g2 221 (6000 * c + x) = m 223 (6000 * c + x)) → (∀ cc x : Nat, ¬ cc = 221 → ¬ cc = 222 → g2 cc x = m cc x) → Pc (qw_X13_compile_169 nn (qw_X13_compile_147 nn f) f2 (c : Int) (l : Int) g2) (fun B => T147 n m B) := by
        intro f2
        induction f2 with
        | zero => intro l g2 _ _ _ _ _; exact fun _ z => nomatch z
        | succ f2 ih2 =>
          intro l g2 hl H1 H2 H3 H4
          unfold qw_X13_compile_169
          refine pc_rA ?_; intro _ _ v2 e2
          rw [Int.toNat_natCast, H4 224 _ (by omega) (by omega)] at e2
          refine pc_if (fun z => ?_) (fun z => ?_)
          · refine pc_add (by omega) ?_; intro v3 e3
            rw [show v3 = ((c + 1 : Nat) : Int) by omega]
            refine ih (c + 1) g2 (by omega) ⟨fun c2 h2 => ?_, H4⟩
            by_cases q : c2 = c
            · rw [q]; exact ⟨H2, fun x hx => H3 x (by omega)⟩
            · exact H1 c2 (by omega)
          · refine pc_xl ?_; intro v5 e5
            rw [oq_mul_eq (by omega) (by omega) (by omega)] at e5
            refine pc_add (by omega) ?_; intro v6 e6
            refine pc_xl ?_; intro v8 e8
            rw [oq_mul_eq (by omega) (by omega) (by omega)] at e8
            refine pc_add (by omega) ?_; intro v9 e9
            refine pc_rA ?_; intro _ _ v10 e10
            rw [show v9.toNat = 6000 * c + l by omega, H4 223 _ (by omega) (by omega)] at e10
            refine pc_wA ?_; intro _ _ h11 e11
            rw [show v6.toNat = 6000 * c + l by omega] at e11
            refine pc_add (by omega) ?_; intro v12 e12
            rw [show v12 = ((l + 1 : Nat) : Int) by omega]
            refine ih2 (l + 1) h11 (by omega) (fun c2 h2 => ?_) (by rw [e11, up_n (by omega)]; exact H2) (fun x hx => ?_) (fun cc x z1 z2 => by rw [e11, up_n (by omega)]; exact H4 cc x z1 z2)
            · rw [e11, up_n (by omega)]
              refine ⟨(H1 c2 h2).1, fun x hx => ?_⟩
              have l2 := L c2 (by omega)
              rw [up_n (by omega)]; exact (H1 c2 h2).2 x hx
            · by_cases q : x = l
              · rw [q, e11, up_s]; exact e10
              · rw [e11, up_n (by omega)]; exact H3 x (by omega)
      rw [show (0 : Int) = ((0 : Nat) : Int) from rfl]
      refine I nn 0 h21 (by omega) (fun c2 h2 => ?_) (by rw [e21, up_s]; exact e20) (fun x hx => absurd hx (by omega)) (fun cc x z1 z2 => by rw [e21, up_n (by omega)]; exact G2 cc x z1 z2)
      rw [e21, up_n (by omega)]
      refine ⟨(G1 c2 h2).1, fun x hx => ?_⟩
      rw [up_n (by omega)]; exact (G1 c2 h2).2 x hx
end
end
section
/- compile, whole: classes and methods, both sides -/
/-- class, rules and their members so far -/
def INV (X : BCx) (a b : Nat → Int) (R0 : ms_M) (k1 k j : Nat) (h r : ms_M) : Prop := JBw X h r ∧ (∀ cc x : Nat, ¬ (cc = 160 ∧ (x = 10 ∨ x = 50 ∨ x = 51 ∨ x = 52 ∨ x = 53 ∨ x = 54 ∨ x = 57)) → ¬ (174 ≤ cc ∧ cc ≤ 176) → ¬ (196 ≤ cc ∧ cc ≤ 199) → r cc x = R0 cc x) ∧ (∀ i : Nat, j ≤ i → i < bM X → 0 < bB X 182 i → UNr X (a i) (b i) r) ∧ j ≤ bM X ∧ (∀ i : Nat, i < j → bB X 181 i < (k1 : Int)) ∧ ∀ i : Nat, j ≤ i → i < bM X → (k : Int) ≤ bB X 181 i
section
variable {nn : Nat} {X : BCx} {a b : Nat → Int} {p q : Nat → Nat} {L0 : Int} {k j i n : Nat} {h g u r v m m0 w y R0 : ms_M}
/-- the end of both sides -/
theorem g_end (Y : CXs X) (R0f : R0F X R0) (V : INV X a b R0 (bn X) (bn X) j h r) (R : RSB nn X a b p L0 R0 (bn X) j h r) {c s : Nat} : Pc (qj_X12_compile_175 nn h c s) (fun A => ∀ g : Nat, Pc (qw_X13_bodies_2 nn g (j : Int) r) (fun y => Pc (qw_X13_compile_110 nn nn 0 y) (fun B => FNL (bn X) A B))) := by
  obtain ⟨J, RF, -, hj, -, hk⟩ := V
  have n8 := Y.2.2.1
  have HD := Y.2.2.2.2.2.2.1
  have jM : j = bM X := Classical.byContradiction fun z => by
    have a1 := hk j (Nat.le_refl _) (by omega)
    have a2 := (HD.2.2.2.2.2.1 j (by omega)).2
    omega
  have h11 : h 11 2 = (bn X : Int) := J.1.1.1.2.2.1
  have r28 : r 160 28 = (bM X : Int) := J.1.2.2.2.1
  have RU : ∀ {A : Int × ms_M × Nat × Nat} (g : Nat), (Pc (qw_X13_compile_110 nn nn 0 r) (fun B => FNL (bn X) A B)) → Pc (qw_X13_bodies_2 nn g (j : Int) r) (fun y => Pc (qw_X13_compile_110 nn nn 0 y) (fun B => FNL (bn X) A B)) := fun {A} g H => by
    cases g with
    | zero => exact fun _ z => nomatch z
    | succ g =>
      unfold qw_X13_bodies_2
      exact pc_if (fun _ => pc_ret H) (fun z => absurd (show r 160 28 ≤ (j : Int) by omega) z)
  have FI : FIN X a b R0 j r r := ⟨RF, fun _ _ _ _ _ _ _ _ _ _ => rfl⟩
  obtain ⟨-, y24, -⟩ := fin_28 FI R0f
  unfold qj_X12_compile_175 qf_X0_closeProgram
  by_cases z7 : h 33 7 = -1
  · refine pc_sv (P := fun u => u = h) (pc_if (fun _ => pc_ret rfl) (fun z => absurd z7 z)) ?_; intro u3 q3
    rw [q3]
    refine pc_if (fun z => absurd J.2.1.1 z) (fun _ => ?_)
    refine pc_sv (c_take h11 n8) ?_; intro u7 ⟨t1, t2, t3, t4⟩
    refine pc_ret (fun g => RU g (fun B eB => ?_))
    rcases R.2 r B FI eB with T | ⟨-, f, w, ⟨⟨w9, -⟩, -, W4, W5⟩, e2⟩
    · exact absurd z7 T.1.1
    have w24 : w 160 24 = (bn X : Int) := by rw [W4 160 24 (by omega)]; exact y24
    have EN : ∀ f : Nat, Pc (qw_X13_compile_110 nn f ((bn X : Nat) : Int) w) (fun B => T147 (bn X) w B) := fun f => by
      cases f with
      | zero => exact fun _ z => nomatch z
      | succ f =>
        unfold qw_X13_compile_110
        refine pc_if (fun _ => ?_) (fun z => absurd (show w 160 24 ≤ ((bn X : Nat) : Int) by omega) z)
        unfold qj_X13_compile_136
        refine pc_if (fun _ => ?_) (fun z => absurd w9 z)
        exact r_147 n8 w24 (fun c hc => by obtain ⟨id, -, -, -, i4, -⟩ := W5 c hc; exact i4) nn 0 w (Nat.zero_le _) ⟨fun c2 h2 => absurd h2 (by omega), fun _ _ _ _ => rfl⟩
    obtain ⟨B1, B2, B3, B4⟩ := EN f B e2
    refine .inr ⟨⟨t1, B1⟩, ⟨?_, ?_⟩, ⟨t2, B2, n8⟩, fun c hc => ?_⟩
    · show u7.2 2 11 = 0
      rw [t4 2 11 (by omega) (by omega)]; exact J.2.1.1
    · rw [B4 160 9 (by omega) (by omega) (by omega)]; exact w9
    · show ∃ id : Nat, u7.2 55 c = (id : Int) ∧ (256 ≤ id ∧ id < cn_M u7.2 ∧ id < 900000) ∧ ln_I u7.2 id = B.2 222 c ∧ (0 ≤ B.2 222 c ∧ B.2 222 c ≤ 6000) ∧ ∀ x : Nat, (x : Int) < B.2 222 c → B.2 221 (6000 * c + x) = u7.2 id x % 256
      obtain ⟨id, i1, i2, i3, i4, i5⟩ := W5 c hc
      obtain ⟨b1, b2⟩ := B3 c hc
      refine ⟨id, by rw [t3 c hc]; exact i1, ⟨i2.1, ?_, i2.2.2⟩, ?_, by rw [b1]; exact i4, fun x hx => ?_⟩
      · have := i2.2.1
        unfold cn_M at *
        rw [t4 900000 0 (by omega) (by omega)]; exact this
      · rw [b1, ← i3]; unfold ln_I; rw [if_neg (by omega), if_neg (by omega)]; exact t4 900001 id (by omega) (by omega)
      · rw [b1] at hx
        rw [b2 x hx, t4 id x (by omega) (by omega)]; exact i5 x hx
  · have R1 : 0 ≤ h 33 7 ∧ (h 33 7).toNat < bc X := by
      rcases R.1 with z | z
      · exact absurd z z7
      · exact z
    refine pc_sv (P := fun u => u 2 11 = 11 ∧ u 2 12 = bP X (h 33 7).toNat) ?_ ?_
    · refine pc_if (fun z => absurd z z7) (fun _ => ?_)
      refine pc_sv (c_tell J.1.1.1.1 J.2.1.1 (t := (h 33 7).toNat) R1.2 (by omega)) ?_; intro u5 ⟨s1, _⟩
      exact pc_ret s1
    intro u3 ⟨s1, s2⟩
    refine pc_if (fun _ => ?_) (fun z => absurd (show ¬ u3 2 11 = 0 by omega) z)
    refine pc_ret (fun g => RU g (fun B eB => ?_))
    rcases R.2 r B FI eB with ⟨-, T1, T2, T3⟩ | ⟨z, -⟩
    · exact .inl ⟨rfl, T1, sf_mk (c := 11) (pl := bP X (h 33 7).toNat) (by decide) s1 s2 T2 T3⟩
    · exact absurd z z7
/-- behind a FAULT, both sides end -/
theorem c_F124 (hf : ¬ h 2 11 = 0) {f93 : Nat} {l2 : Int} {c s : Nat} : ∀ (f : Nat) (l3 : Int), Pc (qw_X12_compile_124 nn (qw_X12_compile_93 nn f93) f l2 l3 h c s) (fun A => A.1 = -1 ∧ FSc h A.2.1) := by
  have E : Pc (qj_X12_compile_161 nn (qw_X12_compile_93 nn f93) l2 h c s) (fun A => A.1 = -1 ∧ FSc h A.2.1) := by
    unfold qj_X12_compile_161 qf_X0_closeClass
    refine pc_sv (P := fun A => FSc h A.1) ?_ ?_
    · refine pc_se ?_; intro u3 _
      refine pc_se ?_; intro u6 _
      refine pc_sv (fs_qf_X0_noteMuch hf) ?_; intro u8 F
      exact pc_if (fun _ => pc_ret F) (fun z => absurd (fs_n hf F) z)
    intro u11 F
    refine pc_xl ?_; intro v12 _
    exact pc_imp (c_F93 (fs_n hf F) f93 v12 _ _) (fun A y => ⟨y.1, fs_t F y.2⟩)
  intro f l3
  cases f with
  | zero => exact fun _ z => nomatch z
  | succ f =>
    unfold qw_X12_compile_124
    refine pc_se ?_; intro u15 _
    exact pc_if (fun _ => E) (fun _ => pc_if (fun _ => E) (fun z => absurd hf z))
theorem r_stop (hf : ¬ v 160 9 = 0) {l : Int} : ∀ g : Nat, Pc (qw_X13_bodies_2 nn g l v) (fun y => y = v) := fun g => by
  cases g with
  | zero => exact fun _ z => nomatch z
  | succ g =>
    unfold qw_X13_bodies_2
    exact pc_if (fun _ => pc_ret rfl) (fun _ => pc_if (fun _ => pc_ret rfl) (fun z => absurd hf z))
/-- the rules pass a field by -/
theorem r_fld (J : JBw X h r) (hj : j < bM X) (b182 : bB X 182 j = 0) {Z : ms_M → Prop} (H : ∀ g : Nat, Pc (qw_X13_bodies_2 nn g ((j + 1 : Nat) : Int) r) Z) : ∀ g : Nat, Pc (qw_X13_bodies_2 nn g (j : Int) r) Z := fun g => by
  have r28 : r 160 28 = (bM X : Int) := J.1.2.2.2.1
  cases g with
  | zero => exact fun _ z => nomatch z
  | succ g =>
    unfold qw_X13_bodies_2
    refine pc_if (fun z => absurd z (by omega)) (fun _ => pc_if (fun z => absurd J.2.1.2 z) (fun _ => ?_))
    refine pc_rA ?_; intro _ j8 v40 e40
    rw [Int.toNat_natCast, J.2.2.2.2.1 182 _ (by omega)] at e40
    refine pc_if (fun z => absurd (show v40 = 0 by omega) z) (fun _ => ?_)
    refine pc_add (by omega) ?_; intro v49 e49
    rw [show v49 = ((j + 1 : Nat) : Int) by omega]
    exact H g
/-- the methods of class k -/
theorem g_124 (Y : CXs X) (Wb : BRw X) (R0f : R0F X R0) (L1 : L0 ≤ 1600000000) (MB : MBO X a b p q) (kn : k < bn X) {f93 : Nat} (IH : ∀ (j : Nat) (h r : ms_M) (c s : Nat), INV X a b R0 (k + 1) (k + 1) j h r → RSB nn X a b p L0 R0 (k + 1) j h r → Pc (qw_X12_compile_93 nn f93 ((k + 1 : Nat) : Int) h c s) (fun A => ∀ g : Nat, Pc (qw_X13_bodies_2 nn g (j : Int) r) (fun y => Pc (qw_X13_compile_110 nn nn 0 y) (fun B => FNL (bn X) A B)))) : ∀ (f d j : Nat) (h r : ms_M) (c s : Nat), j + d = bM X → INV X a b R0 (k + 1) k j h r → RST nn X a b p L0 R0 k j h r → Pc (qw_X12_compile_124 nn (qw_X12_compile_93 nn f93) f (k : Int) ((mcn_T (bB X) k 1 j : Nat) : Int) h c s) (fun A => ∀ g : Nat, Pc (qw_X13_bodies_2 nn g (j : Int) r) (fun y => Pc (qw_X13_compile_110 nn nn 0 y) (fun B => FNL (bn X) A B))) := by
  have n8 := Y.2.2.1
  have k8 : k < 8 := by omega
  have HD := Y.2.2.2.2.2.2.1
  have s0 := Y.2.2.2.2.2.2.2.1
  obtain ⟨⟨-, c21⟩, -, L12⟩ := HD.2.2.1.1 k k8
  intro f
  induction f with
  | zero => intro d j h r c s _ _ _; exact fun _ z => nomatch z
  | succ f ihf =>
    have MO : ∀ h : ms_M, (∀ cc x : Nat, (17 ≤ cc ∧ cc ≤ 29) → h cc x = bA X cc x) → Pc (qf_X2_methodsOf nn (k : Int) h) (fun y => y = ((mcn_T (bB X) k 1 (bM X) : Nat) : Int)) := fun h G => by
      unfold qf_X2_methodsOf qf_X2_isOwn
      refine pc_add (by omega) ?_; intro v1 e1
      refine pc_sv (P := fun y => y = 1) (pc_if (fun z => absurd z (by omega)) (fun _ => pc_if (fun z => absurd z (by omega)) (fun _ => pc_ret rfl))) ?_; intro u2 q2
      refine pc_if (fun z => absurd z (by omega)) (fun _ => ?_)
      refine pc_rA ?_; intro _ _ v4 e4
      rw [Int.toNat_natCast, G 21 _ (by omega), c21] at e4
      exact pc_ret e4
    -- no member of the class is left
    have CL : ∀ (j : Nat) (h r : ms_M) (c s : Nat), INV X a b R0 (k + 1) k j h r → RST nn X a b p L0 R0 k j h r → (∀ i : Nat, j ≤ i → i < bM X → ¬ bB X 181 i = (k : Int)) → Pc (qw_X12_compile_124 nn (qw_X12_compile_93 nn f93) (f + 1) (k : Int) ((mcn_T (bB X) k 1 j : Nat) : Int) h c s) (fun A => ∀ g : Nat, Pc (qw_X13_bodies_2 nn g (j : Int) r) (fun y => Pc (qw_X13_compile_110 nn nn 0 y) (fun B => FNL (bn X) A B))) := fun j h r c s V R z => by
      have V0 := V
      obtain ⟨J, RF, UN, hj, lo, hi⟩ := V
      have zN : ∀ i : Nat, j ≤ i → i < bM X → ¬ MSm (bB X) k 1 i := fun i h1 h2 q => z i h1 h2 q.1
      have mE : ∀ d : Nat, j + d ≤ bM X → mcn_T (bB X) k 1 (j + d) = mcn_T (bB X) k 1 j := by
        intro d
        induction d with
        | zero => intro _; rfl
        | succ d ih => intro hd; rw [show j + (d + 1) = j + d + 1 from rfl, mcn_n (zN (j + d) (by omega) (by omega))]; exact ih (by omega)
      have mB := mE (bM X - j) (by omega)
      rw [show j + (bM X - j) = bM X by omega] at mB
      unfold qw_X12_compile_124
      refine pc_sv (MO h J.2.2.2.2.2) ?_; intro u15 q15
      refine pc_if (fun _ => ?_) (fun y => absurd (show u15 ≤ ((mcn_T (bB X) k 1 j : Nat) : Int) by omega) y)
      unfold qj_X12_compile_161
      refine pc_sv (rs_close Y kn R0f J hj zN R) ?_; intro u11 ⟨RB, JA⟩
      refine pc_add (by omega) ?_; intro v12 e12
      rw [show v12 = ((k + 1 : Nat) : Int) by omega]
      refine IH j u11.1 r _ _ ⟨JA, RF, UN, hj, lo, fun i h1 h2 => ?_⟩ RB
      have a1 := hi i h1 h2
      have a2 := z i h1 h2
      omega
    intro d
    induction d with
    | zero =>
      intro j h r c s hd V R
      exact CL j h r c s V R (fun i h1 h2 => absurd h2 (by omega))
    | succ d ihd =>
      intro j h r c s hd V R
      have V0 := V
      obtain ⟨J, RF, UN, hj, lo, hi⟩ := V
      have hj2 : j < bM X := by omega
      by_cases c1 : bB X 181 j = (k : Int)
      · have LO : ∀ i : Nat, i < j + 1 → bB X 181 i < ((k + 1 : Nat) : Int) := fun i h1 => by
          by_cases q : i = j
          · rw [q, c1]; omega
          · exact lo i (by omega)
        by_cases ms : MSm (bB X) k 1 j
        · -- a method
          have b182 : 0 < bB X 182 j := by
            rcases ms.2 with ⟨z, z2⟩ | ⟨-, z2⟩
            · omega
            · exact absurd z2 (by decide)
          obtain ⟨LK, A1, P1, b2, e23, PR⟩ := MB.1 j hj2 b182
          obtain ⟨i1, i2⟩ := mb_ix HD.2.2.1 hj2 k8 (.inr rfl) ms
          have Y' : CXs (xm_X X k j) := ⟨Y.1, Y.2.1, Y.2.2.1, ⟨by show (8 : Int) ≤ 8 + (k : Int); omega, by show 8 + (k : Int) < 8 + (bn X : Int); omega⟩, Y.2.2.2.2⟩
          have M' : MTm (xm_X X k j) k j := by
            refine ⟨⟨hj2, k8⟩, ms, rfl, ?_, PR⟩
            by_cases q1 : bB X 182 j = 1
            · exact .inl ⟨q1, by show (if bB X 182 j = 1 then 1 else 0) = 1; rw [if_pos q1]⟩
            · exact .inr ⟨by show bB X 182 j = 2; omega, by show (if bB X 182 j = 1 then 1 else 0) = 0; rw [if_neg q1]⟩
          unfold qw_X12_compile_124
          refine pc_sv (MO h J.2.2.2.2.2) ?_; intro u15 q15
          refine pc_if (fun z => absurd z (by omega)) (fun _ => ?_)
          refine pc_if (fun z => absurd J.2.1.1 z) (fun _ => ?_)
          intro A eA g
          obtain ⟨u20, e20, eF⟩ := sv_i eA
          cases g with
          | zero => exact fun _ z => nomatch z
          | succ g =>
            have JM := j_meth (nn := nn) (X := xm_X X k j) (h := h) (r := r) (fuel := g) (Z := fun u y => Pc (xl (oq_add ((mcn_T (bB X) k 1 j : Nat) : Int) 1) fun v21 => qw_X12_compile_124 nn (qw_X12_compile_93 nn f93) f (k : Int) v21 u c s) (fun A => Pc (qw_X13_compile_110 nn nn 0 y) (fun B => FNL (bn X) A B))) Y' Wb M' LK A1.2.2 (e23 k k8 ms) J (UN j (Nat.le_refl _) hj2 b182) (fun u v eu hs => ?_)
            · exact pc_imp (JM u20 e20) (fun y hy => hy A eF)
            rcases hs with S | JR
            · refine pc_imp (r_stop (sf_r S) g) (fun y hy => ?_)
              rw [hy]
              refine pc_xl ?_; intro v21 _
              refine pc_imp (c_F124 S.1 f v21) (fun A y2 => ?_)
              refine pc_imp (r_F110 (sf_r S) nn 0) (fun B y3 => ?_)
              exact .inl ⟨y2.1, y3.1, by rw [y3.2]; exact sf_c S y2.2⟩
            · have R2 := rs_meth Y k8 R0f L1 MB hj2 ms eu JR R
              obtain ⟨J2, RF2, -⟩ := JR
              have V2 : INV X a b R0 (k + 1) k (j + 1) u v := by
                refine ⟨J2, fun cc x z1 z2 z3 => by rw [RF2 cc x (by omega) (by omega) (by omega) (by omega)]; exact RF cc x z1 z2 z3, fun i h1 h2 h3 x x1 x2 => ?_, by omega, LO, fun i h1 h2 => hi i (by omega) h2⟩
                have o := (MB.2 j i (by omega) h2 b182 h3).1
                rw [RF2 175 x (by omega) (by omega) (by omega) (by omega), RF2 176 x (by omega) (by omega) (by omega) (by omega)]
                exact UN i (by omega) h2 h3 x x1 x2
              refine pc_fl ?_
              refine pc_add (by omega) ?_; intro v21 e21
              have e : v21 = ((mcn_T (bB X) k 1 (j + 1) : Nat) : Int) := by rw [mcn_s ms]; omega
              rw [e]
              exact pc_imp (ihf d (j + 1) u v c s (by omega) V2 R2) (fun A hA => hA g)
        · -- a field
          have b182 : bB X 182 j = 0 := by
            have a1 := s0 j hj2
            rcases msm_c (r := bB X) c1 with z | z
            · rcases z.2 with ⟨-, z2⟩ | ⟨z2, -⟩
              · exact absurd z2 (by decide)
              · omega
            · exact absurd z ms
          have W := ihd (j + 1) h r c s (by omega) ⟨J, RF, fun i h1 => UN i (by omega), by omega, LO, fun i h1 h2 => hi i (by omega) h2⟩ (rs_skip R0f hj2 ms R)
          rw [mcn_n ms] at W
          exact pc_imp W (fun A hA => r_fld J hj2 b182 hA)
      · refine CL j h r c s V0 R (fun i h1 h2 => ?_)
        have a1 := hi j (Nat.le_refl _) hj2
        by_cases q : i = j
        · rw [q]; exact c1
        · have a2 := HD.2.2.2.2.2.2 j i (by omega) h2
          omega
/-- all classes -/
theorem g_93 (Y : CXs X) (Wb : BRw X) (R0f : R0F X R0) (L1 : L0 ≤ 1600000000) (M8 : bM X ≤ 100000) (MB : MBO X a b p q) : ∀ (f k j : Nat) (h r : ms_M) (c s : Nat), k ≤ bn X → INV X a b R0 k k j h r → RSB nn X a b p L0 R0 k j h r → Pc (qw_X12_compile_93 nn f (k : Int) h c s) (fun A => ∀ g : Nat, Pc (qw_X13_bodies_2 nn g (j : Int) r) (fun y => Pc (qw_X13_compile_110 nn nn 0 y) (fun B => FNL (bn X) A B))) := by
  intro f
  induction f with
  | zero => intro k j h r c s _ _ _; exact fun _ z => nomatch z
  | succ f ih =>
    intro k j h r c s hk V R
    have V0 := V
    obtain ⟨J, RF, UN, hj, lo, hi⟩ := V
    have h11 : h 11 2 = (bn X : Int) := J.1.1.1.2.2.1
    rw [show qw_X12_compile_93 nn (f + 1) (k : Int) h c s = (if (h 11 2) ≤ (k : Int) then (qj_X12_compile_175 nn h c s) else (if ¬ (h 2 11) = 0 then (qj_X12_compile_175 nn h c s) else (mx_sv (qf_X0_beginClass nn (k : Int) h) fun u30 => qw_X12_compile_124 nn (qw_X12_compile_93 nn f) nn (k : Int) 0 u30 c s))) from rfl]
    refine pc_if (fun z => ?_) (fun z => ?_)
    · have e : k = bn X := by omega
      rw [e] at V0 R
      exact g_end Y R0f V0 R
    refine pc_if (fun z => absurd J.2.1.1 z) (fun _ => ?_)
    have kn : k < bn X := by omega
    have z0 : ∀ i : Nat, i < j → ¬ MSm (bB X) k 1 i := fun i h1 q => by
      have a1 := lo i h1
      have a2 := q.1
      omega
    have mc0 : ∀ i : Nat, i ≤ j → mcn_T (bB X) k 1 i = 0 := by
      intro i
      induction i with
      | zero => intro _; rfl
      | succ i ih => intro hi; rw [mcn_n (z0 i (by omega))]; exact ih (by omega)
    intro A eA
    obtain ⟨u30, e30, eF⟩ := sv_i eA
    obtain ⟨R2, J2⟩ := rs_begin Y kn M8 R0f J hj z0 R u30 e30
    have G := g_124 Y Wb R0f L1 MB kn (f93 := f) (fun j h r c s V R => ih (k + 1) j h r c s (by omega) V R) nn (bM X - j) j u30 r c s (by omega) ⟨J2, RF, UN, hj, fun i h1 => by have := lo i h1; omega, hi⟩ R2
    rw [mc0 j (Nat.le_refl _)] at G
    exact G A eF
end
end
section
/- compile, whole: names and widths of tokens -/
/-- the letters of token t -/
def tk_L (v : ms_M) (t : Nat) : List Int := (List.range (v 165 t).toNat).map (fun k => v 162 ((v 164 t).toNat + k))
/-- how the classes are spelled -/
def W_T (C : Nat → Nat) (n : Nat) (v : ms_M) (x : Nat) : List Int := if x < 8 then kl_T x else if x < 8 + n then tk_L v (C (x - 8)) else []
section
variable {nn : Nat} {T : Nat → Int} {m n t k : Nat} {C : Nat → Nat} {u v a b h g : ms_M}
theorem tk_len : (tk_L v t).length = (v 165 t).toNat := by unfold tk_L; rw [List.length_map, List.length_range]
theorem tk_lr (H : ∀ i : Nat, i < 3000 → 0 ≤ v 162 i ∧ v 162 i ≤ 255) (h1 : 0 ≤ v 164 t) (h2 : v 164 t + v 165 t ≤ 3000) : LRg (tk_L v t) := fun x hx => by
  unfold tk_L at hx
  obtain ⟨k, hk, e⟩ := List.mem_map.1 hx
  have hk2 := List.mem_range.1 hk
  rw [← e]; exact H _ (by omega)
theorem tk_get (hk : k < (v 165 t).toNat) : (tk_L v t).getD k 0 = v 162 ((v 164 t).toNat + k) := by
  unfold tk_L
  rw [List.getD_eq_getElem?_getD, List.getElem?_map, List.getElem?_range hk]
  all_goals rfl
theorem g_tok (H : TKFn T m u v) (kt : kn_T u t = 2) : (t < (u 2 3).toNat ∧ v 164 t = u 4 t) ∧ ∃ j : Nat, u 5 t = (j : Int) ∧ (j : Int) < u 2 9 ∧ NMt u j (v 165 t) (fun k => v 162 ((v 164 t).toNat + k)) ∧ (1 ≤ v 165 t ∧ v 165 t ≤ 12) ∧ (0 ≤ v 164 t ∧ v 164 t + v 165 t ≤ 3000) := by
  obtain ⟨-, -, ⟨t1, t2⟩, -⟩ := H
  have hi : (t : Int) < u 2 3 := Classical.byContradiction fun z => by unfold kn_T at kt; rw [if_neg z] at kt; omega
  have k3 : u 3 t = 2 := by unfold kn_T at kt; rw [if_pos hi] at kt; exact kt
  have q := t2 t hi
  obtain ⟨j, j1, j2, j3, j4, j5, -⟩ := q.2.2.2.2.2.2 k3
  exact ⟨⟨by omega, q.2.1⟩, j, j1, j2, j3, j4, j5⟩
theorem g_nm (H : TKFn T m u v) (kt : kn_T u t = 2) : NMz u (u 5 t) (tk_L v t) ∧ ((tk_L v t).length : Int) = v 165 t ∧ (tk_L v t).length ≤ 12 ∧ 1 ≤ (tk_L v t).length := by
  obtain ⟨-, j, j1, j2, j3, j4, j5⟩ := g_tok H kt
  have l : ((tk_L v t).length : Int) = v 165 t := by rw [tk_len]; omega
  refine ⟨⟨by omega, ?_, fun k hk => ?_⟩, l, by omega, by omega⟩
  · rw [j1, Int.toNat_natCast, l]; exact j3.1
  · show _ = (tk_L v t).getD k 0
    rw [tk_get (by omega), j1, Int.toNat_natCast]
    exact j3.2 k (by omega)
/-- tokens' widths -/
theorem g_wpo (H : TKFn T m u v) (PO : PO_ v) : WPo (kn_T u) (u 4) (v 165) (u 2 3).toNat := fun i hi => by
  obtain ⟨-, -, ⟨t1, t2⟩, -⟩ := H
  have q := PO.1 i (by omega)
  have a1 := t2 i (by omega)
  have a2 := t2 (i + 1) (by omega)
  have e1 := a1.2.1
  have e2 := a2.2.1
  have k1 : kn_T u i = u 3 i := by unfold kn_T; rw [if_pos (by omega)]
  have k2 : kn_T u (i + 1) = u 3 (i + 1) := by unfold kn_T; rw [if_pos (by omega)]
  have KD : ∀ c : Int, WRD c → kd_T c ≤ 3 := fun c w => by
    unfold WRD at w
    unfold kd_T
    by_cases c0 : c = 2
    · rw [if_neg (by omega), if_neg (by omega), if_pos c0]; omega
    by_cases c3 : c = 3
    · rw [if_neg (by omega), if_neg (by omega), if_neg (by omega), if_pos c3]; omega
    · rw [if_neg (by omega), if_neg (by omega), if_neg (by omega), if_neg (by omega), if_pos (by omega)]; omega
  refine ⟨q.1, by omega, fun w1 w2 => ?_⟩
  have b1 := q.2.2 (by rw [a1.1, ← k1]; exact KD _ w1) (by rw [a2.1, ← k2]; exact KD _ w2)
  omega
theorem g_kl (k8 : k < 8) : (kl_T k).length ≤ 12 := by
  have h : (List.range 8).all (fun k => decide ((kl_T k).length ≤ 12)) = true := by decide
  exact of_decide_eq_true (List.all_eq_true.1 h k (List.mem_range.2 k8))
theorem g_HW (H : TKFn T m u v) (KC : ∀ k : Nat, k < n → kn_T u (C k) = 2) : ∀ k : Nat, k < 16 → (W_T C n v k).length ≤ 12 := fun k hk => by
  unfold W_T
  by_cases c1 : k < 8
  · rw [if_pos c1]; exact g_kl c1
  rw [if_neg c1]
  by_cases c2 : k < 8 + n
  · rw [if_pos c2]; exact (g_nm H (KC (k - 8) (by omega))).2.2.1
  · rw [if_neg c2]; exact Nat.zero_le _
theorem w_8 (k8 : k < 8) : W_T C n v k = kl_T k := by unfold W_T; rw [if_pos k8]
theorem w_C (kn : k < n) : W_T C n v (8 + k) = tk_L v (C k) := by
  unfold W_T
  rw [if_neg (by omega), if_pos (by omega), show 8 + k - 8 = k by omega]
/-- how wide a name of a class is -/
theorem g_HL (H : TKFn T m u v) (n8 : n ≤ 8) (KC : ∀ k : Nat, k < n → kn_T u (C k) = 2) : ∀ i : Nat, kn_T u i = 2 → ∀ cl : Int, CLz (fun k => u 5 (C k)) n (u 5 i) cl → ¬ cl = -1 → ((W_T C n v cl.toNat).length : Int) = v 165 i ∧ 0 ≤ cl ∧ cl < 16 := fun i ki cl Z nz => by
  obtain ⟨-, j, j1, j2, j3, j4, j5⟩ := g_tok H ki
  rcases Z with ⟨x8, e⟩ | ⟨x8, ⟨k, kn, e1, -, e2⟩ | ⟨e, -⟩⟩
  · have ej : cl.toNat = j := by omega
    refine ⟨?_, by omega, by omega⟩
    rw [ej, w_8 (by omega)]
    have a1 := (kt_n H.2.1 (i := j) (by omega)).1
    have a2 := j3.1
    omega
  · refine ⟨?_, by omega, by omega⟩
    rw [show cl.toNat = 8 + k by omega, w_C kn]
    obtain ⟨-, j', q1, q2, q3, q4, q5⟩ := g_tok H (KC k kn)
    have e1' : u 5 (C k) = u 5 i := e1
    have ej : j' = j := by omega
    have a1 := q3.1
    have a2 := j3.1
    rw [ej] at a1
    rw [(g_nm H (KC k kn)).2.1]
    omega
  · exact absurd e nz
theorem nmz_f {x : Int} {L : List Int} (M : NMz u x L) (e : ∀ cc y : Nat, cc = 6 ∨ cc = 7 ∨ (cc = 2 ∧ y = 9) → a cc y = u cc y) : NMz a x L := nmz_k M e
theorem g_W8 (H : TKFn T m u v) : ∀ k : Nat, k < 32 → NMz u (k : Int) (kl_T k) := fun k hk => by
  have a := H.1.1.1.1
  exact ⟨by omega, by rw [Int.toNat_natCast]; exact kt_n H.2.1 hk⟩
/-- texts of both sides, when bodies begin -/
theorem g_txe {K V : Nat → Int} (H : TKFn T m u v) (H2 : ∀ i : Nat, i < 3000 → 0 ≤ v 162 i ∧ v 162 i ≤ 255) (eK : K = kn_T u) (eV : V = u 5) (KC : ∀ k : Nat, k < n → kn_T u (C k) = 2) (NKd : NKD (W_T C n v) n a h) (TA : NTB a) (ea : ∀ cc y : Nat, cc = 6 ∨ cc = 7 ∨ (cc = 2 ∧ y = 9) → a cc y = u cc y) (eb : ∀ cc y : Nat, (162 ≤ cc ∧ cc ≤ 166) → b cc y = v cc y) (b178 : ∀ k : Nat, k < n → b 178 k = (C k : Int)) (e17 : ∀ cc y : Nat, cc = 17 ∨ cc = 19 ∨ cc = 21 ∨ cc = 24 ∨ cc = 27 ∨ cc = 29 → h cc y = a cc y) : TXE K V C (W_T C n v) n h b h b := by
  obtain ⟨⟨T1, NX, -⟩, N2, N3, N4⟩ := NKd
  have LT : ∀ t : Nat, kn_T u t = 2 → TLt b t (tk_L v t) := fun t kt => by
    obtain ⟨⟨-, e4⟩, j, j1, j2, j3, j4, j5⟩ := g_tok H kt
    refine ⟨⟨by rw [eb 165 t (by omega), tk_len]; omega, (g_nm H kt).2.2.1, tk_lr H2 (by omega) (by omega)⟩, by rw [eb 164 t (by omega)]; omega, fun k hk => ?_⟩
    rw [tk_len] at hk
    rw [eb 164 t (by omega), eb 162 _ (by omega), tk_get hk]
  refine ⟨⟨T1, N2, nmz_x TA NX (nmz_k (g_W8 H 31 (by omega)) ea)⟩, fun _ _ _ => rfl, ⟨fun i hi z => ?_, fun i hi z => ?_⟩, fun t kt => ?_, ⟨fun k hk => w_8 hk, fun k hk => ⟨b178 k hk, ?_⟩⟩, fun _ _ _ => rfl⟩
  · rw [e17 17 _ (by omega)] at z
    rw [e17 19 _ (by omega)]; exact N3 i hi z
  · rw [e17 21 _ (by omega)] at z
    have em : mk_L (W_T C n v) h i = mk_L (W_T C n v) a i := by
      unfold mk_L
      rw [e17 27 _ (by omega), e17 24 _ (by omega)]
      have ef : (fun j => h 29 (6 * i + j)) = fun j => a 29 (6 * i + j) := funext fun j => e17 29 _ (by omega)
      rw [ef]
    rw [em]; exact N4 i hi z
  · rw [eK] at kt
    rw [eV]
    exact ⟨tk_L v t, LT t kt, nmz_x TA NX (nmz_k (g_nm H kt).1 ea)⟩
  · rw [w_C hk]; exact LT _ (KC k hk)
end
end
section
/- compile, whole: the members of the program -/
section
variable {K : Nat → Int} {T : ms_M} {N : Int}
/-- the parameters' tokens -/
theorem prl_t : ∀ (n : Nat) (i p x : Int), 0 ≤ i → 0 ≤ p → PRL K T n i p x → p ≤ x ∧ ∀ j : Nat, j < n → 0 ≤ T 194 (i.toNat + j) ∧ K (T 194 (i.toNat + j)).toNat = 2 := by
  intro n
  induction n with
  | zero => intro i p x _ _ H; have e : x = p := H; exact ⟨by omega, fun j hj => absurd hj (by omega)⟩
  | succ n ih =>
    intro i p x hi hp H
    obtain ⟨t, bs, rw', TY, ⟨-, -, -, e194⟩, kt, H2⟩ := H
    have tp : p + 1 ≤ t := by unfold TYk at TY; omega
    rcases H2 with ⟨n0, e⟩ | ⟨-, -, H3⟩
    · refine ⟨by omega, fun j hj => ?_⟩
      rw [show i.toNat + j = i.toNat by omega, e194]; exact ⟨by omega, kt⟩
    · obtain ⟨h1, h2⟩ := ih (i + 1) (t + 2) x (by omega) (by omega) H3
      refine ⟨by omega, fun j hj => ?_⟩
      by_cases j0 : j = 0
      · rw [j0, Nat.add_zero, e194]; exact ⟨by omega, kt⟩
      · have a := h2 (j - 1) (by omega)
        rw [show (i + 1).toNat + (j - 1) = i.toNat + j by omega] at a
        exact a
/-- all members: their tokens [p, q), their nodes [a, b) -/
def MEM (K : Nat → Int) (T : ms_M) (N : Int) (m0 m1 : Nat) (p0 q0 a0 b0 : Int) (p q a b : Nat → Int) : Prop := ∀ j : Nat, m0 ≤ j → j < m1 → RMB K T (j : Int) (p j) (q j) (a j) (b j) ∧ (p0 ≤ p j ∧ p j < q j ∧ q j ≤ q0) ∧ (a0 ≤ a j ∧ a j ≤ b j ∧ b j ≤ b0) ∧ (0 ≤ T 188 j ∧ 0 ≤ T 189 j ∧ T 188 j + T 189 j ≤ N) ∧ ∀ i : Nat, m0 ≤ i → i < j → q i ≤ p j ∧ b i ≤ a j
theorem mem_mml : ∀ (n m : Nat) (p0 q0 a0 b0 : Int), MML K T N n (m : Int) p0 q0 a0 b0 → ∃ p q a b : Nat → Int, MEM K T N m (m + n) p0 q0 a0 b0 p q a b := by
  intro n
  induction n with
  | zero => intro m p0 q0 a0 b0 _; exact ⟨fun _ => 0, fun _ => 0, fun _ => 0, fun _ => 0, fun j h1 h2 => absurd h2 (by omega)⟩
  | succ n ih =>
    intro m p0 q0 a0 b0 H
    obtain ⟨-, p2, a2, ⟨h1, h2⟩, R, B8, H3⟩ := H
    rw [Int.toNat_natCast] at B8
    obtain ⟨o1, o2⟩ := mml_ab _ _ _ _ _ _ H3
    rw [show ((m : Int) + 1) = ((m + 1 : Nat) : Int) by omega] at H3
    obtain ⟨p, q, a, b, M⟩ := ih (m + 1) p2 q0 a2 b0 H3
    refine ⟨fun j => if j = m then p0 else p j, fun j => if j = m then p2 else q j, fun j => if j = m then a0 else a j, fun j => if j = m then a2 else b j, fun j j1 j2 => ?_⟩
    by_cases jm : j = m
    · rw [jm]
      show RMB K T (m : Int) (if m = m then p0 else p m) (if m = m then p2 else q m) (if m = m then a0 else a m) (if m = m then a2 else b m) ∧ (p0 ≤ (if m = m then p0 else p m) ∧ (if m = m then p0 else p m) < (if m = m then p2 else q m) ∧ (if m = m then p2 else q m) ≤ q0) ∧ (a0 ≤ (if m = m then a0 else a m) ∧ (if m = m then a0 else a m) ≤ (if m = m then a2 else b m) ∧ (if m = m then a2 else b m) ≤ b0) ∧ (0 ≤ T 188 m ∧ 0 ≤ T 189 m ∧ T 188 m + T 189 m ≤ N) ∧ ∀ i : Nat, m ≤ i → i < m → (if i = m then p2 else q i) ≤ (if m = m then p0 else p m) ∧ (if i = m then a2 else b i) ≤ (if m = m then a0 else a m)
      rw [if_pos rfl, if_pos rfl, if_pos rfl, if_pos rfl]
      exact ⟨R, by omega, by omega, B8, fun i i1 i2 => absurd i2 (by omega)⟩
    · obtain ⟨m1, m2, m3, m4, m5⟩ := M j (by omega) (by omega)
      show RMB K T (j : Int) (if j = m then p0 else p j) (if j = m then p2 else q j) (if j = m then a0 else a j) (if j = m then a2 else b j) ∧ (p0 ≤ (if j = m then p0 else p j) ∧ (if j = m then p0 else p j) < (if j = m then p2 else q j) ∧ (if j = m then p2 else q j) ≤ q0) ∧ (a0 ≤ (if j = m then a0 else a j) ∧ (if j = m then a0 else a j) ≤ (if j = m then a2 else b j) ∧ (if j = m then a2 else b j) ≤ b0) ∧ (0 ≤ T 188 j ∧ 0 ≤ T 189 j ∧ T 188 j + T 189 j ≤ N) ∧ ∀ i : Nat, m ≤ i → i < j → (if i = m then p2 else q i) ≤ (if j = m then p0 else p j) ∧ (if i = m then a2 else b i) ≤ (if j = m then a0 else a j)
      rw [if_neg jm, if_neg jm, if_neg jm, if_neg jm]
      refine ⟨m1, by omega, by omega, m4, fun i i1 i2 => ?_⟩
      by_cases im : i = m
      · rw [if_pos im, if_pos im]; exact ⟨m2.1, m3.1⟩
      · rw [if_neg im, if_neg im]; exact m5 i (by omega) i2
theorem mem_pgm : ∀ (d k m : Nat) (mE : Int) (p0 q0 a0 b0 : Int), PGM K T N d (k : Int) (m : Int) mE p0 q0 a0 b0 → ((m : Int) ≤ mE ∧ p0 ≤ q0 ∧ a0 ≤ b0) ∧ ∃ p q a b : Nat → Int, MEM K T N m mE.toNat p0 q0 a0 b0 p q a b := by
  intro d
  induction d with
  | zero =>
    intro k m mE p0 q0 a0 b0 H
    obtain ⟨e1, e2, e3⟩ := H
    exact ⟨by omega, fun _ => 0, fun _ => 0, fun _ => 0, fun _ => 0, fun j h1 h2 => absurd h2 (by omega)⟩
  | succ d ih =>
    intro k m mE p0 q0 a0 b0 H
    obtain ⟨n, p2, a2, h1, ⟨-, s, e, hs, MM, -, -, eq⟩, H3⟩ := H
    rw [show ((k : Int) + 1) = ((k + 1 : Nat) : Int) by omega, show ((m : Int) + (n : Int)) = ((m + n : Nat) : Int) by omega] at H3
    obtain ⟨⟨o1, o2, o3⟩, p', q', a', b', M'⟩ := ih (k + 1) (m + n) mE p2 q0 a2 b0 H3
    obtain ⟨c1, c2⟩ := mml_ab _ _ _ _ _ _ MM
    obtain ⟨p, q, a, b, M⟩ := mem_mml n m s e a0 a2 MM
    have s1 : p0 ≤ s := by omega
    refine ⟨by omega, fun j => if j < m + n then p j else p' j, fun j => if j < m + n then q j else q' j, fun j => if j < m + n then a j else a' j, fun j => if j < m + n then b j else b' j, fun j j1 j2 => ?_⟩
    show RMB K T (j : Int) (if j < m + n then p j else p' j) (if j < m + n then q j else q' j) (if j < m + n then a j else a' j) (if j < m + n then b j else b' j) ∧ (p0 ≤ (if j < m + n then p j else p' j) ∧ (if j < m + n then p j else p' j) < (if j < m + n then q j else q' j) ∧ (if j < m + n then q j else q' j) ≤ q0) ∧ (a0 ≤ (if j < m + n then a j else a' j) ∧ (if j < m + n then a j else a' j) ≤ (if j < m + n then b j else b' j) ∧ (if j < m + n then b j else b' j) ≤ b0) ∧ (0 ≤ T 188 j ∧ 0 ≤ T 189 j ∧ T 188 j + T 189 j ≤ N) ∧ ∀ i : Nat, m ≤ i → i < j → (if i < m + n then q i else q' i) ≤ (if j < m + n then p j else p' j) ∧ (if i < m + n then b i else b' i) ≤ (if j < m + n then a j else a' j)
    by_cases jm : j < m + n
    · obtain ⟨m1, m2, m3, m4, m5⟩ := M j j1 jm
      rw [if_pos jm, if_pos jm, if_pos jm, if_pos jm]
      refine ⟨m1, by omega, by omega, m4, fun i i1 i2 => ?_⟩
      rw [if_pos (by omega), if_pos (by omega)]; exact m5 i i1 i2
    · obtain ⟨m1, m2, m3, m4, m5⟩ := M' j (by omega) j2
      rw [if_neg jm, if_neg jm, if_neg jm, if_neg jm]
      refine ⟨m1, by omega, by omega, m4, fun i i1 i2 => ?_⟩
      by_cases im : i < m + n
      · obtain ⟨x1, x2, x3, -⟩ := M i i1 im
        rw [if_pos im, if_pos im]; omega
      · rw [if_neg im, if_neg im]; exact m5 i (by omega) i2
/-- a member that is a method: its body -/
theorem rmb_m {j : Nat} {p q a b : Int} (hp : 0 ≤ p) (R : RMB K T (j : Int) p q a b) (h8 : 0 ≤ T 188 j) (m : 0 < T 182 j) : T 182 j ≤ 2 ∧ (∀ i : Nat, (i : Int) < T 189 j → 0 ≤ T 194 ((T 188 j).toNat + i) ∧ K (T 194 ((T 188 j).toNat + i)).toNat = 2) ∧ ∃ x : Int, p ≤ x ∧ x ≤ q ∧ LKn 0 K T 8 0 0 a b x q (T 190 j) ∧ T 169 (T 190 j).toNat = x := by
  obtain ⟨p1, t, bs, rw', hp1, ht, ⟨-, -, -, e186, kt⟩, R2⟩ := R
  rw [Int.toNat_natCast] at R2
  have p1b : p ≤ p1 := by omega
  have tb : p1 + 1 ≤ t := by
    rcases ht with ⟨-, -, -, e⟩ | ⟨-, TY⟩
    · omega
    · unfold TYk at TY; omega
  rcases R2 with ⟨-, -, e, -⟩ | ⟨n, x, -, h182, -, e189, PR, -, LK⟩
  · omega
  · obtain ⟨x1, x2⟩ := prl_t n (T 188 j) (t + 2) x h8 (by omega) PR
    obtain ⟨bl, bk⟩ := lk_bl LK
    refine ⟨by omega, fun i hi => x2 i (by omega), x + 1, by omega, ?_, LK, (bk rfl).2⟩
    exact bl.1
/-- types of members: what tokens they stand on -/
theorem rmb_t {j : Nat} {p q a b : Int} (hp : 0 ≤ p) (R : RMB K T (j : Int) p q a b) (h8 : 0 ≤ T 188 j) : (T 183 j = 3 → K (T 184 j).toNat = 2) ∧ 0 ≤ T 182 j ∧ ∀ i : Nat, (i : Int) < T 189 j → T 191 ((T 188 j).toNat + i) = 3 → K (T 192 ((T 188 j).toNat + i)).toNat = 2 := by
  obtain ⟨p1, t, bs, rw', hp1, ht, ⟨e183, e184, -, e186, kt⟩, R2⟩ := R
  rw [Int.toNat_natCast] at R2 e183 e184
  refine ⟨fun z => ?_, ?_, ?_⟩
  · rw [e184]
    rcases ht with ⟨-, e, -⟩ | ⟨-, TY⟩
    · omega
    · unfold TYk at TY
      rcases TY with ⟨-, e, -⟩ | ⟨⟨-, e⟩ | ⟨e, -⟩, -⟩
      · omega
      · omega
      · exact e
  · rcases R2 with ⟨-, -, e, -⟩ | ⟨n, x, -, h182, -⟩
    · omega
    · omega
  · rcases R2 with ⟨-, -, -, e, -⟩ | ⟨n, x, -, -, -, e189, PR, -⟩
    · intro i hi; omega
    · have PT : ∀ (n : Nat) (i p : Int), 0 ≤ i → PRL K T n i p x → ∀ j : Nat, j < n → T 191 (i.toNat + j) = 3 → K (T 192 (i.toNat + j)).toNat = 2 := by
        intro n
        induction n with
        | zero => intro i p _ _ j hj; exact absurd hj (by omega)
        | succ n ih =>
          intro i p hi H j hj z
          obtain ⟨t, bs, rw', TY, ⟨e1, e2, -, -⟩, kt, H2⟩ := H
          by_cases j0 : j = 0
          · rw [j0, Nat.add_zero] at z ⊢
            rw [e2]
            unfold TYk at TY
            rcases TY with ⟨-, e, -⟩ | ⟨⟨-, e⟩ | ⟨e, -⟩, -⟩
            · omega
            · omega
            · exact e
          · rcases H2 with ⟨n0, -⟩ | ⟨-, -, H3⟩
            · omega
            · have a := ih (i + 1) (t + 2) (by omega) H3 (j - 1) (by omega)
              rw [show (i + 1).toNat + (j - 1) = i.toNat + j by omega] at a
              exact a z
      exact fun i hi => PT n (T 188 j) (t + 2) h8 PR i (by omega)
end
end
section
/- compile, whole: from heads to bodies -/
section
variable {nn : Nat} {K P V : Nat → Int} {C : Nat → Nat} {c n N mt : Nat} {q : Int} {h g u r v w m : ms_M} {T : Nat → Int}
/-- heads do not look at the kinds' names (rows 20, 26) -/
theorem hds_n (H : HDS K P V C c n N mt q h r) (e1 : ∀ cc x : Nat, (3 ≤ cc ∧ cc ≤ 5) ∨ (13 ≤ cc ∧ cc ≤ 29 ∧ ¬ cc = 20 ∧ ¬ cc = 26) ∨ (cc = 2 ∧ x = 3) ∨ (cc = 11 ∧ x = 2) → g cc x = h cc x) : HDS K P V C c n N mt q g r := by
  have H' : HDS K P V C c n N mt q (fun cc y => if cc = 20 ∨ cc = 26 then h cc y else g cc y) r := hds_k H (fun cc x z => by
    show (if cc = 20 ∨ cc = 26 then h cc x else g cc x) = h cc x
    by_cases y : cc = 20 ∨ cc = 26
    · rw [if_pos y]
    · rw [if_neg y]; exact e1 cc x (by omega)) (fun _ _ _ => rfl)
  exact H'
/-- a break takes six bytes -/
theorem g_brw {X : BCx} (H : TKFn T mt u v) (eK : bK X = kn_T u) (eP : bP X = u 4) (ec : bc X = (u 2 3).toNat) : BRw X := by
  obtain ⟨-, -, -, ⟨GP0, GP1, GP2⟩⟩ := tkf_b H
  obtain ⟨-, -, -, ⟨⟨c1, c2⟩, -⟩, -, -, -, po⟩ := H
  have mo : ∀ i : Nat, i < (u 2 3).toNat → 0 ≤ u 4 i := fun i hi => by
    by_cases z : (i : Int) + 1 < u 2 3
    · exact (po.1 i z).1
    · exact (po.2 i (by omega)).1
  unfold BRw
  rw [eK, eP, ec]
  refine ⟨fun i hi => by have := (po.1 i (by omega)).2.1; omega, fun i hi ki => ?_, fun i hi => ⟨mo i hi, GP2 i hi⟩⟩
  have k3 : u 3 i = 11 := by unfold kn_T at ki; rw [if_pos (by omega)] at ki; exact ki
  have a1 := (po.1 i (by omega)).2.2.2 k3
  have a2 := (po.1 (i + 1) (by omega)).2.1
  rw [show i + 2 = i + 1 + 1 from rfl]
  omega
/-- types of members are valid -/
theorem g_vtn {a b : ms_M} {N0 p0 q0 a0 b0 : Int} {pp qq aa bb : Nat → Int} (S : CKd K V C n N) (n8 : n ≤ 8) (M : MTB V C n mt q a b) (ME : MEM K b N0 0 mt p0 q0 a0 b0 pp qq aa bb) (hp : 0 ≤ p0) : (∀ j k : Nat, j < mt → k < 8 → MSm b k 0 j → VTn n (a 19 (12 * k + mcn_T b k 0 j))) ∧ ∀ j k : Nat, j < mt → k < 8 → MSm b k 1 j → VTn n (a 24 (12 * k + mcn_T b k 1 j)) ∧ ∀ i : Nat, (i : Int) < b 189 j → VTn n (a 29 (6 * (12 * k + mcn_T b k 1 j) + i)) := by
  refine ⟨fun j k hj hk ms => ?_, fun j k hj hk ms => ?_⟩
  · obtain ⟨m1, m2, m3, m4, -⟩ := ME j (Nat.zero_le _) hj
    obtain ⟨t1, -, -⟩ := rmb_t (by omega) m1 m4.1
    exact (tys_n S n8 t1 (M.2.1 j k hj hk ms).2.2.2).1
  · obtain ⟨m1, m2, m3, m4, -⟩ := ME j (Nat.zero_le _) hj
    obtain ⟨t1, -, t3⟩ := rmb_t (by omega) m1 m4.1
    obtain ⟨x1, x2, x3, x4, x5, x6⟩ := M.2.2.1 j k hj hk ms
    refine ⟨(tys_n S n8 t1 x6).1, fun i hi => ?_⟩
    exact (tys_n S n8 (t3 i hi) (x4 i hi).2.2.2).1
end
end
section
/- compile, whole: the bodies of all methods -/
section
variable {X : BCx} {N0 q0 b0 : Int} {pp qq aa bb : Nat → Int}
theorem g_mbo (ME : MEM (bK X) (bB X) N0 0 (bM X) 0 q0 0 b0 pp qq aa bb) (b9 : b0 ≤ 8999) (q4 : q0 ≤ 4000) (eT : bT X = bB X) (M : MTB (bV X) (bC X) (bn X) (bM X) (bq X) (bA X) (bB X)) : ∃ p q : Nat → Nat, MBO X aa bb p q := by
  have C0 : ∀ j : Nat, ∃ x : Nat, j < bM X → 0 < bB X 182 j → pp j ≤ (x : Int) ∧ (x : Int) ≤ qq j ∧ LKn 0 (bK X) (bB X) 8 0 0 (aa j) (bb j) (x : Int) (qq j) (bB X 190 j) ∧ bB X 169 (bB X 190 j).toNat = (x : Int) := fun j => by
    by_cases z : j < bM X ∧ 0 < bB X 182 j
    · obtain ⟨m1, m2, m3, m4, -⟩ := ME j (Nat.zero_le _) z.1
      obtain ⟨-, -, x, x1, x2, x3, x4⟩ := rmb_m (by omega) m1 m4.1 z.2
      have e : x = ((x.toNat : Nat) : Int) := by omega
      refine ⟨x.toNat, fun _ _ => ?_⟩
      rw [← e]; exact ⟨x1, x2, x3, x4⟩
    · exact ⟨0, fun h1 h2 => absurd ⟨h1, h2⟩ z⟩
  obtain ⟨p, hp⟩ := Classical.axiomOfChoice C0
  refine ⟨p, fun j => (qq j).toNat, fun j hj m => ?_, fun i j ij hj mi mj => ?_⟩
  · obtain ⟨m1, m2, m3, m4, -⟩ := ME j (Nat.zero_le _) hj
    obtain ⟨a1, a2, -⟩ := rmb_m (by omega) m1 m4.1 m
    obtain ⟨x1, x2, x3, x4⟩ := hp j hj m
    have e : (((qq j).toNat : Nat) : Int) = qq j := by omega
    refine ⟨?_, by omega, ⟨?_, ?_⟩, a1, fun k hk ms => ?_, a2⟩
    · show LKn 0 (bK X) (bT X) 8 0 0 (aa j) (bb j) (p j : Int) (((qq j).toNat : Nat) : Int) (bB X 190 j)
      rw [eT, e]; exact x3
    · show p j ≤ (qq j).toNat
      omega
    · show (qq j).toNat ≤ 4000
      omega
    · obtain ⟨y1, y2, y3, y4, y5, y6⟩ := M.2.2.1 j k hj hk ms
      exact y5.trans x4
  · obtain ⟨-, n2, -⟩ := ME i (Nat.zero_le _) (by omega)
    obtain ⟨m1, m2, m3, m4, m5⟩ := ME j (Nat.zero_le _) hj
    obtain ⟨x1, x2, x3, x4⟩ := hp j hj mj
    obtain ⟨o1, o2⟩ := m5 i (Nat.zero_le _) ij
    refine ⟨o2, ?_⟩
    show (qq i).toNat ≤ p j
    omega
end
end
section
/- compile, whole: heads and bodies joined -/
section
variable {nn : Nat} {T : Nat → Int} {C : Nat → Nat} {m n mt : Nat} {q q2 : Int} {a b u0 v0 v1 h r : ms_M}
theorem g_su0 {f : Nat → Nat} (H : ∀ i, f i = 0) : ∀ k : Nat, su_T f k = 0 := by
  intro k
  induction k with
  | zero => rfl
  | succ k ih => show su_T f k + f k = 0; rw [ih, H]
theorem g_su8 : su_T (fun i => (W_T C n v0 i).length + 3) 8 ≤ 92 := by
  rw [su_e (g := fun i => (kl_T i).length + 3) 8 (fun i hi => by show (W_T C n v0 i).length + 3 = _; rw [w_8 hi])]
  decide
/-- the letters of all kinds -/
theorem g_xb (TF : TKFn T m u0 v0) (PO : PO_ v0) (n8 : n ≤ 8) (KC : ∀ k : Nat, k < n → kn_T u0 (C k) = 2) (q20 : 0 ≤ q2) (q2c : q2.toNat < (u0 2 3).toNat) (HD : HDS (kn_T u0) (u0 4) (u0 5) C (u0 2 3).toNat n (u0 2 9).toNat mt q a b) {nN b0 : Int} (PG : PGM (kn_T u0) b nN n 0 0 (mt : Int) 0 q2 0 b0) : (su_T (fun i => (W_T C n v0 i).length + 3) (8 + n) : Int) + (su_T (fl_T (W_T C n v0) a b mt) 96 : Int) + (su_T (ml_T (W_T C n v0) a b mt) 96 : Int) ≤ 3214 := by
  obtain ⟨BK, B0, D0, GP⟩ := tkf_b TF
  have A := (a_pgm (W := W_T C n v0) (h := a) BK (g_wpo TF PO) (g_HL TF n8 KC) HD.2.2.1 n8 HD.1.2.2 HD.2.1.2.2.1 (fun i hi k1 k2 => (GP.2.1 i hi).2 k1 k2) n 0 0 0 q2 0 b0 (Int.le_refl _) PG (by omega) q2c).2
  have z1 : su_T (fl_T (W_T C n v0) a b 0) 96 = 0 := g_su0 (fun i => by unfold fl_T; rw [if_neg (by show ¬ i % 12 < 0; omega)]) 96
  have z2 : su_T (ml_T (W_T C n v0) a b 0) 96 = 0 := g_su0 (fun i => by unfold ml_T; rw [if_neg (by show ¬ i % 12 < 0; omega)]) 96
  have z3 : su_T (al_T (W_T C n v0)) 0 = 0 := rfl
  have z4 : su_T (fun k => (W_T C n v0 (8 + k)).length + 3) n = su_T (al_T (W_T C n v0)) n := su_e n (fun _ _ => rfl)
  have z5 := g_su8 (C := C) (n := n) (v0 := v0)
  have z6 := GP.2.2 q2.toNat q2c
  have z7 := GP.1
  rw [su_8, z4]
  rw [z1, z2, z3] at A
  have z8 : (0 : Int).toNat = 0 := rfl
  rw [z8] at A
  omega
theorem mem_cnt {K : Nat → Int} {N0 q0 a0 b0 : Int} {pp qq aa bb : Nat → Int} (ME : MEM K b N0 0 mt 0 q0 a0 b0 pp qq aa bb) : ∀ j : Nat, j < mt → (j : Int) ≤ pp j ∧ (j : Int) < q0 := by
  intro j
  induction j with
  | zero => intro hj; have z := (ME 0 (Nat.le_refl _) hj).2.1; omega
  | succ j ih =>
    intro hj
    have z := ih (by omega)
    have z2 := (ME j (Nat.zero_le _) (by omega)).2.1
    have z3 := (ME (j + 1) (Nat.zero_le _) hj).2
    have z4 := (z3.2.2.2 j (Nat.zero_le _) (by omega)).1
    have z5 := z3.1
    omega
/-- behind heads -/
theorem g_tail (TF : TKFn T m u0 v0) (PO : PO_ v0) (V0 : VS_ v0) (H2 : ∀ i : Nat, i < 3000 → 0 ≤ v0 162 i ∧ v0 162 i ≤ 255) (L88 : 0 ≤ v1 160 88 ∧ v1 160 88 ≤ 1600000000) (NB : 0 ≤ v1 160 22 ∧ v1 160 22 ≤ 3001 ∧ v1 160 39 ≤ 1500) (n1 : 1 ≤ n) (q20 : 0 ≤ q2) (q2c : q2.toNat < (u0 2 3).toNat) (PG : PGM (kn_T u0) v1 (v1 160 39) n 0 0 (v1 160 28) 0 q2 0 (v1 160 22)) (HD : HDS (kn_T u0) (u0 4) (u0 5) C (u0 2 3).toNat n (u0 2 9).toNat mt q a b) (af : a 2 11 = 0) (bf : b 160 9 = 0) (Fa : ∀ cc y : Nat, cc = 5 ∨ cc = 6 ∨ cc = 7 ∨ cc = 8 ∨ cc = 9 ∨ (cc = 2 ∧ y = 9) → a cc y = u0 cc y) (Fv : ∀ cc y : Nat, (162 ≤ cc ∧ cc ≤ 166) → b cc y = v0 cc y) (Fb : ∀ cc y : Nat, ¬ (cc = 160 ∧ (y = 9 ∨ y = 10)) → ¬ cc = 180 → ¬ cc = 187 → ¬ cc = 195 → b cc y = v1 cc y) : Pc (mx_sv (qf_X2_nameKinds nn a) fun u56 => mx_sv (qf_X0_beginProgram nn u56) fun u59 => qw_X12_compile_93 nn nn 0 u59 0 0) (fun A => Pc (qj_X13_compile_97 nn b) (fun B => FNL n A B)) := by
  obtain ⟨BK, B0, D0, GP⟩ := tkf_b TF
  obtain ⟨NM, VL, VN⟩ := nmr_of TF
  have n8 := HD.2.1.1
  have HC := HD.1.1
  have HR := HD.1.2.2
  have MT := HD.2.2.1
  have mt28 : b 160 28 = (mt : Int) := HD.2.2.2.1
  have PGb : PGM (kn_T u0) b (v1 160 39) n 0 0 (mt : Int) 0 q2 0 (v1 160 22) := by
    have e : v1 160 28 = (mt : Int) := by rw [← mt28]; exact (Fb 160 28 (by omega) (by omega) (by omega) (by omega)).symm
    rw [e] at PG
    exact pgm_f (fun cc y z => Fb cc y (by omega) (by omega) (by omega) (by omega)) n 0 0 _ 0 q2 0 _ PG (Int.le_refl _)
  have KC2 : ∀ k : Nat, k < n → kn_T u0 (C k) = 2 ∧ (kn_T u0 (C k + 1) = 16 → kn_T u0 (C k + 2) = 2) := fun k hk => by
    obtain ⟨x1, x2, x3⟩ := pgm_k n 0 0 _ 0 q2 0 _ (Int.le_refl _) PGb k (Nat.zero_le _) (by omega)
    rw [(HR.2.2.2 k hk).1, Int.toNat_natCast] at x2 x3
    refine ⟨x2, fun z => ?_⟩
    rcases x3 with y | y
    · exact y.2.1
    · exact absurd z y.1
  have KC : ∀ k : Nat, k < n → kn_T u0 (C k) = 2 := fun k hk => (KC2 k hk).1
  have N9 : 32 ≤ u0 2 9 ∧ u0 2 9 ≤ 1532 := ⟨TF.1.1.1.1, TF.2.2.2.2.2.2.1.1⟩
  have CK : CKd (kn_T u0) (u0 5) C n (u0 2 9).toNat := ⟨⟨⟨n1, by omega⟩, by omega, by omega⟩, KC2, fun i ki => by
    have := VN i (tb_lt BK (by omega)) ki
    omega⟩
  obtain ⟨-, pp, qq, aa, bb, ME⟩ := mem_pgm n 0 0 (mt : Int) 0 q2 0 (v1 160 22) PGb
  rw [Int.toNat_natCast] at ME
  obtain ⟨VTf, VTm⟩ := g_vtn CK n8 MT ME (Int.le_refl _)
  have Ta : NTB a := ntb_f TF.1 (fun cc y z => Fa cc y (by omega))
  have a29 : a 2 9 = u0 2 9 := Fa 2 9 (by omega)
  have Fn : ∀ cc y : Nat, cc = 6 ∨ cc = 7 ∨ (cc = 2 ∧ y = 9) → a cc y = u0 cc y := fun cc y z => Fa cc y (by omega)
  refine pc_sv (c_kinds (W := W_T C n v0) (b := b) BK CK n8 Ta HC.1 HC.2.1 (by omega) (by rw [a29, Fa 7 _ (by omega)]; exact TF.2.2.2.2.2.2.1.2) af HC.2.2.1 HC.2.2.2 MT (g_HW TF KC) (fun k hk => by rw [w_8 hk]; exact nmz_k (g_W8 TF k (by omega)) Fn) (fun k hk => by rw [w_C hk]; exact nmz_k (g_nm TF (KC k hk)).1 Fn) VTm VTf (g_xb TF PO n8 KC q20 q2c HD PGb)) ?_
  intro u56 NK
  have AK := NK.1.2.2
  have H56 : HDS (kn_T u0) (u0 4) (u0 5) C (u0 2 3).toNat n (u0 2 9).toNat mt q u56 b := hds_n HD (fun cc x z => AK cc x (by omega) (by omega) (by omega) (by omega) (by omega) (by omega) (by omega))
  have TX : TXE (kn_T u0) (u0 5) C (W_T C n v0) n u56 b u56 b := g_txe TF H2 rfl rfl KC NK Ta Fn Fv (fun k hk => (HR.2.2.2 k hk).1) (fun cc y z => AK cc y (by omega) (by omega) (by omega) (by omega) (by omega) (by omega) (by omega))
  unfold qf_X0_beginProgram
  refine pc_sv (P := fun u59 => u59 = up_M u56 33 7 (-1)) (pc_xl (fun h1 e1 => pc_ret e1)) ?_
  intro u59 e59
  have F59 : ∀ cc y : Nat, ¬ cc = 33 → u59 cc y = u56 cc y := fun cc y z => by rw [e59, up_n (by omega)]
  have NU : ∀ i : Nat, i < (u0 2 3).toNat → kn_T u0 i = 3 → a 5 i = b 166 i ∧ 0 ≤ b 166 i ∧ b 166 i ≤ 2147483647 := fun i hi ki => by
    have k3 : u0 3 i = 3 := by unfold kn_T at ki; rw [if_pos (by omega)] at ki; exact ki
    obtain ⟨x1, x2⟩ := (TF.2.2.1.2 i (by omega)).2.2.2.1 k3
    have x3 := (gA_166 V0 i (by have := BK.2.1.2; omega)).2
    rw [Fa 5 i (by omega), Fv 166 i (by omega)]
    omega
  have M182 : ∀ j : Nat, j < mt → 0 ≤ b 182 j := fun j hj => by
    obtain ⟨m1, m2, m3, m4, -⟩ := ME j (Nat.zero_le _) hj
    exact (rmb_t (by omega) m1 m4.1).2.1
  have M800 : mt ≤ 100000 := by
    have e := mem_cnt ME (mt - 1)
    have e2 := BK.2.1.2
    by_cases z : mt = 0
    · omega
    · have e3 := e (by omega)
      omega
  let X : BCx := ((kn_T u0, u0 4, u0 5, C, W_T C n v0), ((u0 2 3).toNat, n, (u0 2 9).toNat, mt, 0), (q, 8), (b, u56, b))
  have Y : CXs X := by
    refine ⟨BK, CK, n8, ⟨Int.le_refl _, by show (8 : Int) < 8 + (n : Int); omega⟩, HR.1, fun i hi ki => (NU i hi ki).2, H56, M182, fun j k hj hk ms => ?_, fun j k hj hk ms => ⟨?_, ?_, fun i hi => ?_⟩⟩
    · show VTn n (u56 19 (12 * k + mcn_T b k 0 j))
      rw [AK 19 _ (by omega) (by omega) (by omega) (by omega) (by omega) (by omega) (by omega)]; exact VTf j k hj hk ms
    · show VTn n (u56 24 (12 * k + mcn_T b k 1 j))
      rw [AK 24 _ (by omega) (by omega) (by omega) (by omega) (by omega) (by omega) (by omega)]; exact (VTm j k hj hk ms).1
    · show b 188 j ≤ 1500
      obtain ⟨m1, m2, m3, m4, -⟩ := ME j (Nat.zero_le _) hj
      omega
    · show VTn n (u56 29 (6 * (12 * k + mcn_T b k 1 j) + i))
      rw [AK 29 _ (by omega) (by omega) (by omega) (by omega) (by omega) (by omega) (by omega)]; exact (VTm j k hj hk ms).2 i hi
  have Wb : BRw X := g_brw (X := X) TF rfl rfl rfl
  have R0f : R0F X b := ⟨⟨bf, HR.2.2.1, mt28⟩, fun _ _ _ => rfl⟩
  obtain ⟨p, q', MB⟩ := g_mbo (X := X) ME (by omega) (by have := BK.2.1.2; omega) rfl H56.2.2.1
  have J : JBw X u59 b := by
    refine ⟨hds_n H56 (fun cc x z => F59 cc x (by omega)), ⟨?_, bf⟩, fun i hi ki => ?_, fun _ _ _ => rfl, fun _ _ _ => rfl, fun cc x z => F59 cc x (by omega)⟩
    · rw [F59 2 11 (by omega), AK 2 11 (by omega) (by omega) (by omega) (by omega) (by omega) (by omega) (by omega)]; exact af
    · rw [F59 5 i (by omega), AK 5 i (by omega) (by omega) (by omega) (by omega) (by omega) (by omega) (by omega)]; exact (NU i hi ki).1
  have IV : INV X aa bb b 0 0 0 u59 b := ⟨J, fun _ _ _ _ _ => rfl, fun _ _ _ _ _ _ _ => ⟨rfl, rfl⟩, Nat.zero_le _, fun i hi => absurd hi (by omega), fun i _ hi => (H56.2.2.2.2.2.1 i hi).1⟩
  have h7 : u59 33 7 = -1 := by rw [e59, up_s]
  have RB : RSB nn X aa bb p (v1 160 88) b 0 0 u59 b := by
    refine ⟨.inl h7, fun y B FI eB => .inr ⟨h7, nn, y, ⟨⟨?_, ?_⟩, ⟨?_, 0, ?_, fun _ _ _ _ => Nat.zero_le _⟩, fun _ _ _ => rfl, fun c hc => absurd hc (by omega)⟩, eB⟩⟩
    · rw [FI.1 160 9 (by omega) (by omega) (by omega)]; exact bf
    · exact txe_k TX (fun cc y z => F59 cc y (by omega)) (fun cc y z => FI.1 cc y (by omega) (by omega) (by omega))
    · rw [FI.1 160 88 (by omega) (by omega) (by omega), Fb 160 88 (by omega) (by omega) (by omega) (by omega)]; exact L88.1
    · rw [FI.1 160 88 (by omega) (by omega) (by omega), Fb 160 88 (by omega) (by omega) (by omega) (by omega)]; omega
  refine pc_imp (g_93 (nn := nn) Y Wb R0f L88.2 M800 MB nn 0 0 u59 b 0 0 (Nat.zero_le _) IV RB) (fun A hA => ?_)
  unfold qj_X13_compile_97 qf_X13_bodies
  refine pc_if (fun z => absurd bf z) (fun _ => ?_)
  exact pc_sv (hA nn) (fun y hy => hy)
/-- COMPILE of both sides is alike -/
theorem j_compile (hn : 100001 ≤ nn) (hn6 : 1000000 ≤ nn) (VR : VS_ r) (WR : ∀ t : Nat, (t : Int) < 3002 → r 164 t + r 165 t ≤ 3000) (hc : 256 ≤ cn_M h) (KB : KNB h) (L88 : r 160 88 ≤ 1600000000) (e1 : h 0 1 = (m : Int)) (e2 : r 160 1 = (m : Int)) (m6 : m ≤ 6000) (HA : ∀ i : Nat, i < m → (-128 ≤ h 1 i ∧ h 1 i ≤ 127) ∧ r 161 i = h 1 i % 256) : Pc (qf_X12_compile nn h) (fun A => Pc (qf_X13_compile nn r) (fun B => ∃ n : Nat, FNL n A B)) := by
  refine j_front hn hn6 VR WR hc KB e1 e2 m6 HA (Z := fun A B => ∃ n : Nat, FNL n A B) (fun A B z1 z2 z3 => ⟨0, .inl ⟨z1, z2, z3⟩⟩) ?_
  intro a b u0 v0 v1 n mt q q2 T m3 TF PV H2 e88 NB n1 PG HD af bf Fa Fv Fb
  have l := gF_160_88 VR
  exact pc_imp (g_tail TF PV.1 PV.2 H2 (by rw [e88]; exact ⟨l.1, L88⟩) NB n1.1 n1.2.1 n1.2.2 PG HD af bf Fa Fv Fb) (fun A hA => pc_imp hA (fun B hB => ⟨n, hB⟩))
end
end
section
/- THE LAW'S LEVEL: compile keeps the known names -/
/-- the known names stand, more may follow -/
def KNQ (h : ms_M) : Prop := 32 ≤ h 2 9 ∧ (186 ≤ h 7 (h 2 9).toNat ∧ h 7 (h 2 9).toNat ≤ 6400) ∧ KNB h
section
variable {nn : Nat} {h g r : ms_M}
theorem kQ_e (K : KNQ h) (a : r 2 9 = h 2 9) (b : ∀ k : Nat, r 6 k = h 6 k) (c : ∀ k : Nat, r 7 k = h 7 k) (d : ∀ k : Nat, r 8 k = h 8 k) (e : ∀ k : Nat, r 10 k = h 10 k) : KNQ r := by
  obtain ⟨k1, k2, ⟨k3, k4⟩, k5, k6⟩ := K
  refine ⟨by rw [a]; exact k1, by rw [a, c]; exact k2, ⟨fun i hi => by rw [c]; exact k3 i hi, fun k hk => by rw [b]; exact k4 k hk⟩, fun i hi => by rw [d]; exact k5 i hi, fun b hb => by rw [e]; exact k6 b hb⟩
theorem kQ_up {c k : Nat} {v : Int} (hc : ¬ (c = 2 ∧ k = 9) ∧ c ≠ 6 ∧ c ≠ 7 ∧ c ≠ 8 ∧ c ≠ 10) (K : KNQ h) : KNQ (up_M h c k v) :=
  kQ_e K (up_n (by omega)) (fun _ => up_n (by omega)) (fun _ => up_n (by omega)) (fun _ => up_n (by omega)) (fun _ => up_n (by omega))
theorem kQ_f {X : List Nat} {XF : List (Nat × Nat)} (F : ∀ c k, nw_F X XF false false c k = true → r c k = h c k) (q : (XF.contains (2, 9) || X.contains 2 || X.contains 6 || X.contains 7 || X.contains 8 || X.contains 10 || XF.any (fun p => p.1 == 6 || p.1 == 7 || p.1 == 8 || p.1 == 10)) = false) (K : KNQ h) : KNQ r := by
  have N : ∀ c k : Nat, (c = 2 ∧ k = 9) ∨ c = 6 ∨ c = 7 ∨ c = 8 ∨ c = 10 → nw_F X XF false false c k = true := fun c k w => by
    simp only [Bool.or_eq_false_iff] at q
    obtain ⟨⟨⟨⟨⟨⟨q1, q2⟩, q3⟩, q4⟩, q5⟩, q6⟩, q7⟩ := q
    unfold nw_F
    simp only [Bool.and_eq_true]
    refine ⟨?_, ?_, rfl, rfl⟩
    · rcases w with ⟨e, _⟩ | e | e | e | e <;> (rw [e]; simp_all)
    · cases hq : XF.contains (c, k) with
      | false => rfl
      | true =>
        exfalso
        rcases w with ⟨e, e2⟩ | w
        · rw [e, e2, q1] at hq; exact absurd hq (by decide)
        · have m := List.contains_iff_mem.mp hq
          have := List.any_eq_false.mp q7 _ m
          apply this
          rcases w with e | e | e | e <;> (rw [e]; rfl)
  exact kQ_e K (F 2 9 (N 2 9 (.inl ⟨rfl, rfl⟩))) (fun k => F 6 k (N 6 k (by omega))) (fun k => F 7 k (N 7 k (by omega))) (fun k => F 8 k (N 8 k (by omega))) (fun k => F 10 k (N 10 k (by omega)))
theorem pc_cs3 {α : Type} {Q : α → Prop} {M : ms_M} {a b : Nat} {sp dp n : Int} {G : ms_M → Option α} (q : 0 ≤ sp → 0 ≤ dp → 0 ≤ n → dp + n ≤ ln_I M b → ∀ z, z = cp_M M a sp.toNat b dp.toNat n.toNat → Pc (G z) Q) : Pc (cp_S a sp b dp n M G) Q := by
  unfold cp_S
  split
  · rename_i w
    exact q w.2.1 w.2.2.1 w.2.2.2.1 w.2.2.2.2.2 _ rfl
  · exact pc_none
theorem kQ_cl {a : Int} (K : KNQ h) (ha : 186 ≤ a ∧ a ≤ 6400) : Pc (qf_X9_closeName nn a h) KNQ := by
  obtain ⟨k1, k2, ⟨k3, k4⟩, k5, k6⟩ := K
  unfold qf_X9_closeName
  refine pc_rA ?_; intro i1 i2 v3 e3
  refine pc_xl ?_; intro v5 e5
  refine pc_se ?_; intro u6 e6
  refine pc_rA ?_; intro j1 j2 v10 e10
  refine pc_wA ?_; intro l1 l2 h11 e11
  have a11 : h11 2 9 = h 2 9 := by rw [e11, up_n (by omega)]
  rw [a11]
  refine pc_wA ?_; intro m1 m2 h14 e14
  have a14 : h14 2 9 = h 2 9 := by rw [e14, up_n (by omega)]; exact a11
  rw [a14]
  refine pc_add (by omega) ?_; intro v16 e16
  refine pc_xl ?_; intro h17 e17
  have a17 : h17 2 9 = h 2 9 + 1 := by rw [e17, up_s, e16]
  rw [a17]
  refine pc_wA ?_; intro n1 n2 h20 e20
  have a20 : h20 2 9 = h 2 9 + 1 := by rw [e20, up_n (by omega)]; exact a17
  have O : ∀ c k : Nat, ¬ (c = 2 ∧ k = 9) → ¬ (c = 8 ∧ k = (h 2 9).toNat) → ¬ c = 9 → ¬ (c = 7 ∧ k = (h 2 9 + 1).toNat) → h20 c k = h c k := fun c k w1 w2 w3 w4 => by rw [e20, up_n w4, e17, up_n w1, e14, up_n (by omega), e11, up_n w2]
  refine pc_ret ⟨by omega, ?_, ⟨fun i hi => ?_, fun k hk => ?_⟩, fun i hi => ?_, fun b hb => ?_⟩
  · rw [a20, e20, up_s]; exact ha
  · rw [O 7 i (by omega) (by omega) (by omega) (by omega)]; exact k3 i hi
  · rw [O 6 k (by omega) (by omega) (by omega) (by omega)]; exact k4 k hk
  · rw [O 8 i (by omega) (by omega) (by omega) (by omega)]; exact k5 i hi
  · rw [O 10 b (by omega) (by omega) (by omega) (by omega)]; exact k6 b hb
theorem kQ_79 {l1 : Nat} {l2 l3 : Int} (K : KNQ h) : Pc (qj_X9_nameOf_79 nn l1 l2 l3 h) (fun u => KNQ u.2) := by
  unfold qj_X9_nameOf_79
  refine pc_rA ?_; intro i1 i2 v3 e3
  have k2 := K.2.1
  rw [← e3] at k2
  refine pc_if (fun _ => pc_ret K) (fun _ => ?_)
  refine pc_xl ?_; intro v5 _
  refine pc_if (fun _ => ?_) (fun _ => pc_ret K)
  refine pc_cs3 ?_; intro c1 c2 c3 c4 h9 e9
  have c4 : v3 + l3 ≤ 6400 := c4
  refine pc_add (by omega) ?_; intro v10 e10
  have K9 : KNQ h9 := by
    have N : ∀ c k : Nat, ¬ (c = 6 ∧ 186 ≤ k) → h9 c k = h c k := fun c k w => by
      rw [e9]
      show (if c = 6 ∧ v3.toNat ≤ k ∧ k < v3.toNat + l3.toNat then _ else h c k) = _
      rw [if_neg (by omega)]
    obtain ⟨k1, k2, ⟨k3, k4⟩, k5, k6⟩ := K
    refine ⟨by rw [N 2 9 (by omega)]; exact k1, by rw [N 2 9 (by omega), N 7 _ (by omega)]; exact k2, ⟨fun i hi => by rw [N 7 i (by omega)]; exact k3 i hi, fun k hk => by rw [N 6 k (by omega)]; exact k4 k hk⟩, fun i hi => by rw [N 8 i (by omega)]; exact k5 i hi, fun b hb => by rw [N 10 b (by omega)]; exact k6 b hb⟩
  refine pc_sv (kQ_cl K9 (a := v10) (by omega)) ?_; intro u12 q12
  exact pc_xl (fun _ _ => pc_ret q12)
theorem kQ_35 {l1 : Nat} {l2 l3 : Int} (K : KNQ h) : ∀ (k : Nat) (l4 l5 : Int), Pc (qw_X9_nameOf_35 nn k l1 l2 l3 l4 l5 h) (fun u => KNQ u.2) := by
  intro k
  induction k with
  | zero => intros; exact pc_none
  | succ k ih =>
    intro l4 l5
    unfold qw_X9_nameOf_35
    refine pc_if (fun _ => kQ_79 K) (fun _ => pc_if (fun _ => kQ_79 K) (fun _ => ?_))
    refine pc_se ?_; intro u18 _
    refine pc_if (fun _ => ?_) (fun _ => pc_ret K)
    refine pc_rA ?_; intro _ _ v20 _
    exact pc_xl (fun _ _ => ih _ _)
theorem kQ_no {a1 : Nat} {a2 a3 : Int} (K : KNQ h) : Pc (qf_X9_nameOf nn a1 a2 a3 h) (fun u => KNQ u.2) := by
  unfold qf_X9_nameOf
  refine pc_if (fun _ => pc_ret K) (fun _ => pc_if (fun _ => pc_ret K) (fun _ => ?_))
  refine pc_xl ?_; intro v25 _
  refine pc_lS ?_; intro v26 _
  refine pc_if (fun _ => ?_) (fun _ => pc_ret K)
  refine pc_se ?_; intro u28 _
  refine pc_rA ?_; intro _ _ v29 _
  exact kQ_35 K _ _ _
theorem kQ_add {k p v : Int} (K : KNQ h) : Pc (qf_X9_addToken nn k p v h) KNQ := fun r e => kQ_f (fun c k w => (ff_X9_addToken nn) _ e c k w) rfl K
theorem kQ_w89 {l3 l5 l6 s0 : Int} (K : KNQ h) : Pc (qj_X9_scanWord_89 nn l3 l5 l6 s0 h) (fun u => KNQ u.2) := by
  unfold qj_X9_scanWord_89
  exact pc_sv (kQ_add K) (fun _ q => pc_ret q)
theorem kQ_w69 {l3 l5 l6 s0 : Int} (K : KNQ h) : Pc (qj_X9_scanWord_69 nn l3 l5 l6 s0 h) (fun u => KNQ u.2) := by
  unfold qj_X9_scanWord_69
  exact pc_if (fun _ => kQ_w89 K) (fun _ => pc_xl (fun _ _ => pc_xl (fun _ _ => kQ_w89 K)))
theorem kQ_w25 {l3 l4 : Int} (K : KNQ h) : Pc (qj_X9_scanWord_25 nn l3 l4 h) (fun u => KNQ u.2) := by
  unfold qj_X9_scanWord_25 qj_X9_scanWord_68
  refine pc_xl ?_; intro v6 _
  refine pc_if (fun _ => ?_) (fun _ => pc_ret K)
  refine pc_sv (kQ_no K) ?_; intro u8 q8
  exact pc_if (fun _ => kQ_w69 q8) (fun _ => pc_if (fun _ => kQ_w69 q8) (fun _ => kQ_w69 q8))
theorem kQ_w3 {l2 l3 : Int} (K : KNQ h) : ∀ (k : Nat) (l4 : Int), Pc (qw_X9_scanWord_3 nn k l2 l3 l4 h) (fun u => KNQ u.2) := by
  intro k
  induction k with
  | zero => intros; exact pc_none
  | succ k ih =>
    intro l4
    unfold qw_X9_scanWord_3
    refine pc_if (fun _ => kQ_w25 K) (fun _ => ?_)
    refine pc_rA ?_; intro _ _ v12 _
    refine pc_se ?_; intro u13 _
    exact pc_if (fun _ => kQ_w25 K) (fun _ => pc_xl (fun _ _ => ih _))
theorem kQ_t110 {l3 s0 : Int} (K : KNQ h) : Pc (qj_X9_scanToken_110 nn l3 s0 h) (fun u => KNQ u.2) := by
  unfold qj_X9_scanToken_110
  refine pc_if (fun _ => pc_se (fun _ _ => pc_ret K)) (fun _ => ?_)
  refine pc_sv (kQ_add K) ?_; intro u3 q3
  exact pc_se (fun _ _ => pc_ret q3)
theorem kQ_t103 {l3 l4 l5 : Int} (K : KNQ h) : Pc (qj_X9_scanToken_103 nn l3 l4 l5 h) (fun u => KNQ u.2) := by
  unfold qj_X9_scanToken_103
  exact pc_se (fun _ _ => kQ_t110 K)
theorem kQ_t84 {l3 l4 l5 s0 : Int} (K : KNQ h) : Pc (qj_X9_scanToken_84 nn l3 l4 l5 s0 h) (fun u => KNQ u.2) := by
  unfold qj_X9_scanToken_84
  exact pc_if (fun _ => kQ_t103 K) (fun _ => pc_if (fun _ => kQ_t103 K) (fun _ => kQ_t110 K))
theorem kQ_t53 {l2 l3 l4 s0 : Int} (K : KNQ h) : Pc (qj_X9_scanToken_53 nn l2 l3 l4 s0 h) (fun u => KNQ u.2) := by
  unfold qj_X9_scanToken_53 qj_X9_scanToken_83
  refine pc_if (fun _ => kQ_t84 K) (fun _ => pc_xl (fun _ _ => pc_if (fun _ => kQ_t84 K) (fun _ => pc_xl (fun _ _ => pc_rA (fun _ _ _ _ => pc_if (fun _ => kQ_t84 K) (fun _ => kQ_t84 K))))))
theorem kQ_tok {a2 a3 : Int} (K : KNQ h) : Pc (qf_X9_scanToken nn a2 a3 h) (fun u => KNQ u.2) := by
  unfold qf_X9_scanToken
  refine pc_rA ?_; intro _ _ v15 _
  refine pc_se ?_; intro u16 _
  refine pc_if (fun _ => ?_) (fun _ => ?_)
  · refine pc_se ?_; intro u17 _
    refine pc_if (fun _ => ?_) (fun _ => ?_)
    · refine pc_xl ?_; intro v18 _
      refine pc_if (fun _ => kQ_t53 K) (fun _ => pc_xl (fun _ _ => pc_rA (fun _ _ _ _ => kQ_t53 K)))
    · refine pc_se ?_; intro u23 e23
      exact pc_ret (kQ_f (fun c k w => (ff_X9_scanNumber nn) _ e23 c k w) rfl K)
  · unfold qf_X9_scanWord
    refine pc_sv (kQ_w3 K _ _) ?_; intro u26 q26
    exact pc_ret q26
theorem kQ_51 {l2 : Int} : ∀ (k : Nat) (l3 l4 : Int) (h : ms_M), KNQ h → Pc (qw_X9_scan_51 nn k l2 l3 l4 h) KNQ := by
  intro k
  induction k with
  | zero => intros; exact pc_none
  | succ k ih =>
    intro l3 l4 h K
    have E : Pc (qj_X9_scan_102 nn l2 h) KNQ := by
      unfold qj_X9_scan_102
      exact pc_sv (kQ_add K) (fun _ q => pc_ret q)
    unfold qw_X9_scan_51
    refine pc_if (fun _ => E) (fun _ => pc_if (fun _ => E) (fun _ => ?_))
    refine pc_sv (kQ_tok K) ?_; intro u4 q4
    refine pc_if (fun _ => ?_) (fun _ => ?_)
    · refine pc_xl ?_; intro v5 _
      refine pc_se ?_; intro u6 _
      exact pc_xl (fun _ _ => ih _ _ _ q4)
    · exact pc_sv (kQ_add q4) (fun _ q => pc_ret q)
theorem kQ_scan {a2 : Int} (K : KNB h) : Pc (qf_X9_scan nn a2 h) KNQ := by
  unfold qf_X9_scan
  refine pc_xl ?_; intro h13 e13
  have K13 : KNQ h13 := by
    obtain ⟨⟨k3, k4⟩, k5, k6⟩ := K
    have e9 : h13 2 9 = 32 := by rw [e13, up_s]
    have N : ∀ c k : Nat, ¬ (c = 2 ∧ k = 9) → h13 c k = h c k := fun c k w => by rw [e13, up_n w]
    have e7 : h13 7 32 = 186 := by rw [N 7 32 (by omega), k3 32 (by omega)]; decide
    refine ⟨by omega, by rw [e9]; show 186 ≤ h13 7 32 ∧ h13 7 32 ≤ 6400; omega, ⟨fun i hi => by rw [N 7 i (by omega)]; exact k3 i hi, fun k hk => by rw [N 6 k (by omega)]; exact k4 k hk⟩, fun i hi => by rw [N 8 i (by omega)]; exact k5 i hi, fun b hb => by rw [N 10 b (by omega)]; exact k6 b hb⟩
  refine pc_cs3 ?_; intro _ _ _ _ h16 e16
  have K16 : KNQ h16 := by
    have N : ∀ c k : Nat, ¬ c = 9 → h16 c k = h13 c k := fun c k w => by
      rw [e16]
      show (if c = 9 ∧ _ then _ else h13 c k) = _
      rw [if_neg (fun q => w q.1)]
    exact kQ_e K13 (N 2 9 (by omega)) (fun k => N 6 k (by omega)) (fun k => N 7 k (by omega)) (fun k => N 8 k (by omega)) (fun k => N 10 k (by omega))
  refine pc_xl ?_; intro h17 e17
  refine pc_xl ?_; intro h18 e18
  refine pc_xl ?_; intro h19 e19
  refine pc_xl ?_; intro h20 e20
  refine pc_se ?_; intro u21 _
  refine kQ_51 _ _ _ _ ?_
  rw [e20, e19, e18, e17]
  exact kQ_up (by omega) (kQ_up (by omega) (kQ_up (by omega) (kQ_up (by omega) K16)))
theorem kQ_byte {l : Int} (e : qf_X2_addKindByte nn l h = some r) (K : KNQ h) : KNQ r := kQ_f (X := wl_X2_addKindByte) (XF := wf_X2_addKindByte) (fun c k w => (ff_X2_addKindByte nn) _ e c k w) rfl K
theorem kQ_cp {a b : Int} (K : KNQ h) : Pc (qf_X9_copyName nn a 31 b h) KNQ := by
  unfold qf_X9_copyName
  refine pc_se ?_; intro u2 _
  refine pc_if (fun _ => pc_ret K) (fun _ => ?_)
  refine pc_xl ?_; intro v3 _
  refine pc_lS ?_; intro v4 _
  refine pc_if (fun _ => pc_ret K) (fun _ => pc_if (fun _ => pc_ret K) (fun _ => ?_))
  refine pc_rA ?_; intro _ _ v7 _
  refine pc_cs3 ?_; intro _ _ _ _ h8 e8
  have N : ∀ c k : Nat, ¬ c = 31 → h8 c k = h c k := fun c k w => by
    rw [e8]
    show (if c = 31 ∧ _ then _ else h c k) = _
    rw [if_neg (fun q => w q.1)]
  exact pc_ret (kQ_e K (N 2 9 (by omega)) (fun k => N 6 k (by omega)) (fun k => N 7 k (by omega)) (fun k => N 8 k (by omega)) (fun k => N 10 k (by omega)))
theorem kQ_k20 {l : Int} (K : KNQ h) : Pc (qj_X2_addKind_20 nn l h) KNQ := by
  unfold qj_X2_addKind_20
  refine pc_se ?_; intro u1 _
  refine pc_if (fun _ => ?_) (fun _ => ?_)
  · refine pc_se ?_; intro u3 e3
    refine pc_rA ?_; intro _ _ v5 _
    refine pc_sv (kQ_cp (kQ_byte e3 K)) ?_; intro u10 q10
    refine pc_se ?_; intro u14 _
    refine pc_xl ?_; intro v15 _
    refine pc_xl ?_; intro v18 _
    refine pc_xl ?_; intro h19 e19
    refine pc_se ?_; intro u21 e21
    exact pc_ret (kQ_byte e21 (by rw [e19]; exact kQ_up (by omega) q10))
  · refine pc_if (fun _ => ?_) (fun _ => pc_se (fun _ e => pc_ret (kQ_byte e K)))
    exact pc_if (fun _ => pc_se (fun _ e => pc_ret (kQ_byte e K))) (fun _ => pc_se (fun _ e => pc_ret (kQ_byte e K)))
theorem kQ_kind {l : Int} (e : qf_X2_addKind nn l h = some r) (K : KNQ h) : KNQ r := by
  refine (show Pc (qf_X2_addKind nn l h) KNQ from ?_) r e
  unfold qf_X2_addKind
  refine pc_se ?_; intro u31 _
  refine pc_if (fun _ => kQ_k20 K) (fun _ => ?_)
  refine pc_se ?_; intro u33 e33
  refine pc_se ?_; intro u34 _
  exact kQ_k20 (kQ_byte e33 K)
theorem kQ_nk {l : Int} (K : KNQ h) : Pc (qf_X2_nameKind nn l h) (fun u => KNQ u.2) := by
  unfold qf_X2_nameKind
  refine pc_xl ?_; intro h1 e1
  refine pc_se ?_; intro u3 e3
  refine pc_sv (kQ_no (kQ_kind e3 (by rw [e1]; exact kQ_up (by omega) K))) ?_; intro u8 q8
  exact pc_ret q8
theorem kQ_13 : ∀ (k : Nat) (l1 l2 : Int) (h : ms_M), KNQ h → Pc (qw_X2_nameMethodKind_13 nn k l1 l2 h) (fun u => KNQ u.2) := by
  intro k
  induction k with
  | zero => intros; exact pc_none
  | succ k ih =>
    intro l1 l2 h K
    unfold qw_X2_nameMethodKind_13
    refine pc_rA ?_; intro i1 i2 v2 e2
    refine pc_if (fun _ => ?_) (fun _ => ?_)
    · refine pc_se ?_; intro u4 e4
      refine pc_rA ?_; intro j1 j2 v6 e6
      refine pc_se ?_; intro u8 e8
      refine pc_sv (kQ_no (kQ_kind e8 (kQ_byte e4 K))) ?_; intro u13 q13
      exact pc_ret q13
    · refine pc_se ?_; intro u15 e15
      refine pc_se ?_; intro u17 e17
      refine pc_xl ?_; intro v18 e18
      exact ih _ _ _ (kQ_kind e17 K)
theorem kQ_mk {l : Int} (K : KNQ h) : Pc (qf_X2_nameMethodKind nn l h) (fun u => KNQ u.2) := by
  unfold qf_X2_nameMethodKind
  refine pc_xl ?_; intro h1 e1
  refine pc_se ?_; intro u3 e3
  exact kQ_13 _ _ _ _ (kQ_byte e3 (by rw [e1]; exact kQ_up (by omega) K))
theorem kQ_144 : ∀ (k : Nat) (l1 : Int) (h : ms_M), KNQ h → Pc (qw_X2_nameKinds_144 nn k l1 h) KNQ := by
  intro k
  induction k with
  | zero => intros; exact pc_none
  | succ k ih =>
    intro l1 h K
    unfold qw_X2_nameKinds_144
    refine pc_if (fun _ => pc_ret K) (fun _ => pc_if (fun _ => pc_ret K) (fun _ => ?_))
    refine pc_se ?_; intro u6 e6
    refine pc_if (fun _ => ?_) (fun _ => ?_)
    · refine pc_xl ?_; intro v7 e7
      exact ih _ _ K
    · refine pc_sv (kQ_mk K) ?_; intro u10 q10
      refine pc_wA ?_; intro i1 i2 h11 e11
      refine pc_xl ?_; intro v12 e12
      exact ih _ _ (by rw [e11]; exact kQ_up (by omega) q10)
theorem kQ_85 : ∀ (k : Nat) (l1 : Int) (h : ms_M), KNQ h → Pc (qw_X2_nameKinds_85 nn k l1 h) KNQ := by
  intro k
  induction k with
  | zero => intros; exact pc_none
  | succ k ih =>
    intro l1 h K
    unfold qw_X2_nameKinds_85
    refine pc_if (fun _ => kQ_144 _ _ _ K) (fun _ => pc_if (fun _ => kQ_144 _ _ _ K) (fun _ => ?_))
    refine pc_xl ?_; intro v20 e20
    refine pc_xl ?_; intro v22 e22
    refine pc_rA ?_; intro i1 i2 v23 e23
    refine pc_if (fun _ => ?_) (fun _ => ?_)
    · refine pc_xl ?_; intro v24 e24
      exact ih _ _ K
    · refine pc_rA ?_; intro j1 j2 v27 e27
      refine pc_sv (kQ_nk K) ?_; intro u29 q29
      refine pc_wA ?_; intro l1 l2 h30 e30
      refine pc_xl ?_; intro v31 e31
      exact ih _ _ (by rw [e30]; exact kQ_up (by omega) q29)
theorem kQ_59 {qk : Int → ms_M → Option ms_M} (hk : ∀ (v : Int) (g : ms_M), KNQ g → Pc (qk v g) KNQ) {l1 s0 s1 : Int} (K : KNQ h) : Pc (qj_X2_nameKinds_59 nn qk l1 s0 s1 h) KNQ := by
  unfold qj_X2_nameKinds_59
  refine pc_wA ?_; intro i1 i2 h35 e35
  refine pc_xl ?_; intro v37 e37
  refine pc_xl ?_; intro v38 e38
  refine pc_sv (kQ_nk (h := h35) (by rw [e35]; exact kQ_up (by omega) K)) ?_; intro u40 q40
  refine pc_wA ?_; intro j1 j2 h41 e41
  refine pc_xl ?_; intro v42 e42
  exact hk _ _ (by rw [e41]; exact kQ_up (by omega) q40)
theorem kQ_2 : ∀ (k : Nat) (l1 : Int) (h : ms_M), KNQ h → Pc (qw_X2_nameKinds_2 nn k l1 h) KNQ := by
  intro k
  induction k with
  | zero => intros; exact pc_none
  | succ k ih =>
    intro l1 h K
    have H : ∀ (v : Int) (g : ms_M), KNQ g → Pc (qw_X2_nameKinds_2 nn k v g) KNQ := fun v g q => ih v g q
    unfold qw_X2_nameKinds_2
    refine pc_xl ?_; intro v44 e44
    refine pc_if (fun _ => kQ_85 _ _ _ K) (fun _ => pc_if (fun _ => kQ_85 _ _ _ K) (fun _ => pc_if (fun _ => kQ_85 _ _ _ K) (fun _ => pc_if (fun _ => ?_) (fun _ => kQ_59 H K))))
    refine pc_xl ?_; intro v49 e49
    refine pc_se ?_; intro u51 e51
    refine pc_se ?_; intro u53 e53
    exact kQ_59 H K
end
end
