/- the image of a class: the class's side -/
/-- bytes of constant i: how many, which -/
def cl_T (m : ms_M) (i : Nat) : Nat := if m 200 i = 1 then 2 + (m 202 i).toNat else if m 200 i = 2 then 5 else if m 200 i = 3 then 2 else 4
def cb_T (m : ms_M) (i x : Nat) : Int := if x = 0 then m 200 i else if m 200 i = 1 then (if x = 1 then m 202 i else m 204 ((m 201 i).toNat + (x - 2))) else if m 200 i = 2 then oq_shr (m 201 i) (8 * (4 - (x : Int))) % 256 else if x = 1 then m 201 i else if x = 2 then m 202 i else m 203 i
def sm_T (m : ms_M) : Nat → Nat
  | 0 => 0
  | i + 1 => sm_T m i + cl_T m (i + 1)
/-- a constant, for the image -/
def PCi (h m : ms_M) (i : Nat) : Prop := h 46 i = m 200 i ∧ ((m 200 i = 1 ∧ (0 ≤ h 47 i ∧ h 47 i < h 2 9) ∧ ln_T h (h 47 i).toNat = m 202 i ∧ (0 ≤ m 202 i ∧ m 202 i ≤ 255) ∧ (0 ≤ m 201 i ∧ m 201 i ≤ 100000) ∧ ∀ k : Nat, (k : Int) < m 202 i → m 204 ((m 201 i).toNat + k) = h 6 ((h 7 (h 47 i).toNat).toNat + k) ∧ 0 ≤ m 204 ((m 201 i).toNat + k) ∧ m 204 ((m 201 i).toNat + k) ≤ 255) ∨ (m 200 i = 2 ∧ h 47 i = m 201 i) ∨ (m 200 i = 3 ∧ (1 ≤ m 201 i ∧ m 201 i ≤ 200) ∧ h 47 i = m 201 i) ∨ (m 200 i = 4 ∧ ((1 ≤ m 201 i ∧ m 201 i ≤ 200) ∧ (1 ≤ m 202 i ∧ m 202 i ≤ 200) ∧ (1 ≤ m 203 i ∧ m 203 i ≤ 200)) ∧ h 47 i = m 201 i * 65536 + m 202 i * 256 + m 203 i))
section
variable {nn : Nat} {cn i id : Nat} {h g u m w : ms_M}
theorem pci_e (m64 : m 160 64 ≤ 100000) (P : PCe h m i) : PCi h m i := by
  obtain ⟨p1, p2⟩ := P
  refine ⟨p1, ?_⟩
  rcases p2 with ⟨a1, L, ⟨a2, a3, a4⟩, ⟨a5, a51, a52⟩, a6, a7⟩ | ⟨a1 | ⟨a1, a2⟩, a3, -⟩ | ⟨a1, a2, a3⟩
  · have e : ln_T h (h 47 i).toNat = m 202 i := by rw [a3, a5]
    refine .inl ⟨a1, a2, e, by omega, by omega, fun k hk => ?_⟩
    have b := lr_g a52 (k := k) (by omega)
    have c : h 6 ((h 7 (h 47 i).toNat).toNat + k) = L.getD k 0 := a4 k (by omega)
    have d := a7 k (by omega)
    rw [d, c]
    exact ⟨rfl, b⟩
  · exact .inr (.inl ⟨a1, a3⟩)
  · exact .inr (.inr (.inl ⟨a1, a2, a3⟩))
  · exact .inr (.inr (.inr ⟨a1, a2, a3⟩))
theorem pci_k (P : PCi h m i) (e : ∀ cc x : Nat, cc < 256 → g cc x = h cc x) : PCi g m i := by
  unfold PCi ln_T at *
  rw [e 46 _ (by omega), e 47 _ (by omega), e 2 _ (by omega), e 7 _ (by omega), e 7 _ (by omega)]
  refine ⟨P.1, ?_⟩
  rcases P.2 with ⟨a1, a2, a3, a4, a5, a6⟩ | p
  · refine .inl ⟨a1, a2, a3, a4, a5, fun k hk => ?_⟩
    rw [e 6 _ (by omega)]; exact a6 k hk
  · exact .inr p
theorem cl_b (P : PCi h m i) : 2 ≤ cl_T m i ∧ cl_T m i ≤ 257 := by
  unfold cl_T
  rcases P.2 with ⟨a1, -, -, a4, -⟩ | ⟨a1, -⟩ | ⟨a1, -⟩ | ⟨a1, -⟩
  · rw [if_pos a1]; omega
  · rw [if_neg (by omega), if_pos a1]; omega
  · rw [if_neg (by omega), if_neg (by omega), if_pos a1]; omega
  · rw [if_neg (by omega), if_neg (by omega), if_neg (by omega)]; omega
theorem sm_b (P : ∀ i : Nat, 1 ≤ i → i ≤ cn → PCi h m i) : ∀ i : Nat, i ≤ cn → sm_T m i ≤ 257 * i := by
  intro i
  induction i with
  | zero => intro _; exact Nat.le_refl _
  | succ i ih =>
    intro hi
    have a := ih (by omega)
    have b := cl_b (P (i + 1) (by omega) hi)
    show sm_T m i + cl_T m (i + 1) ≤ _
    omega
theorem sm_m : ∀ d i : Nat, sm_T m i ≤ sm_T m (i + d) := by
  intro d
  induction d with
  | zero => intro i; exact Nat.le_refl _
  | succ d ih => intro i; have a := ih i; show _ ≤ sm_T m (i + d) + cl_T m (i + d + 1); omega
theorem smi_le {i j : Nat} (ij : i ≤ j) : sm_T m i ≤ sm_T m j := by
  have a := sm_m (m := m) (j - i) i
  rw [show i + (j - i) = j by omega] at a; exact a
/-- how many bytes a constant takes -/
theorem c_byt (T : NTB h) (P : PCi h m i) {a1 a2 : Int} (e1 : a1 = h 46 i) (e2 : a2 = h 47 i) : Pc (qf_X6_bytesOf nn a1 a2 h) (fun y => y = (cl_T m i : Int)) := by
  unfold qf_X6_bytesOf
  obtain ⟨p1, p2⟩ := P
  rcases p2 with ⟨b1, b2, b3, b4, -⟩ | ⟨b1, -⟩ | ⟨b1, -⟩ | ⟨b1, -⟩
  · have cl : cl_T m i = 2 + (m 202 i).toNat := by unfold cl_T; rw [if_pos b1]
    rw [cl, e2]
    refine pc_if (fun _ => ?_) (fun z => absurd (show a1 = 1 by omega) z)
    refine pc_sv (c_nameLen T b2 (l := ln_T h (h 47 i).toNat) (t := fun k => h 6 ((h 7 (h 47 i).toNat).toNat + k)) ⟨rfl, fun _ _ => rfl⟩) ?_; intro u3 q3
    refine pc_add (by omega) ?_; intro v4 e4
    exact pc_ret (by omega)
  · have cl : cl_T m i = 5 := by unfold cl_T; rw [if_neg (by omega), if_pos b1]
    rw [cl]
    exact pc_if (fun z => absurd z (by omega)) (fun _ => pc_if (fun _ => pc_ret rfl) (fun z => absurd (show a1 = 2 by omega) z))
  · have cl : cl_T m i = 2 := by unfold cl_T; rw [if_neg (by omega), if_neg (by omega), if_pos b1]
    rw [cl]
    exact pc_if (fun z => absurd z (by omega)) (fun _ => pc_if (fun z => absurd z (by omega)) (fun _ => pc_if (fun _ => pc_ret rfl) (fun z => absurd (show a1 = 3 by omega) z)))
  · have cl : cl_T m i = 4 := by unfold cl_T; rw [if_neg (by omega), if_neg (by omega), if_neg (by omega)]
    rw [cl]
    exact pc_if (fun z => absurd z (by omega)) (fun _ => pc_if (fun z => absurd z (by omega)) (fun _ => pc_if (fun z => absurd z (by omega)) (fun _ => pc_ret rfl)))
/-- the size of the image -/
theorem c_size (T : NTB h) (c2 : cn ≤ 200) (e4 : h 45 4 = (cn : Int)) (P : ∀ i : Nat, 1 ≤ i → i ≤ cn → PCi h m i) (l7 : 0 ≤ h 45 7 ∧ h 45 7 ≤ 100000000) : Pc (qf_X6_imageSize nn h) (fun y => y = 3 + h 45 7 + (sm_T m cn : Int)) := by
  have L : ∀ (f i : Nat), i ≤ cn → Pc (qw_X6_imageSize_9 nn f (3 + h 45 7 + (sm_T m i : Int)) ((i + 1 : Nat) : Int) h) (fun y => y = 3 + h 45 7 + (sm_T m cn : Int)) := by
    intro f
    induction f with
    | zero => intro i hi; exact fun _ z => nomatch z
    | succ f ih =>
      intro i hi
      unfold qw_X6_imageSize_9
      refine pc_if (fun z => ?_) (fun z => ?_)
      · rw [show i = cn by omega]; exact pc_ret rfl
      · have pi := P (i + 1) (by omega) (by omega)
        have sb := sm_b P i (by omega)
        have cb := cl_b pi
        refine pc_rA ?_; intro _ _ v3 e3
        rw [Int.toNat_natCast] at e3
        refine pc_rA ?_; intro _ _ v5 e5
        rw [Int.toNat_natCast] at e5
        refine pc_sv (c_byt T pi e3 e5) ?_; intro u7 q7
        refine pc_add (by omega) ?_; intro v8 e8
        refine pc_add (by omega) ?_; intro v9 e9
        have e : v8 = 3 + h 45 7 + (sm_T m (i + 1) : Int) := by
          show v8 = 3 + h 45 7 + ((sm_T m i + cl_T m (i + 1) : Nat) : Int)
          omega
        rw [e, show v9 = ((i + 1 + 1 : Nat) : Int) by omega]
        exact ih (i + 1) (by omega)
  unfold qf_X6_imageSize
  refine pc_add (by omega) ?_; intro v12 e12
  have a := L nn 0 (Nat.zero_le _)
  rw [show v12 = 3 + h 45 7 + ((sm_T m 0 : Nat) : Int) by show v12 = 3 + h 45 7 + ((0 : Nat) : Int); omega]
  exact a
theorem shr_0 {v : Int} (hv : -2147483648 ≤ v ∧ v ≤ 2147483647) : oq_shr v 0 = v := by
  unfold oq_shr
  rw [show (Int32.ofInt 0 &&& 31 : Int32) = 0 by decide]
  rw [show (Int32.ofInt v >>> (0 : Int32)) = Int32.ofInt v by simp]
  exact Int32.toInt_ofInt_of_le (by omega) (by omega)
theorem shr_p {v : Int} {y : Int} {n : Nat} (hn : (Int32.ofInt y &&& 31 : Int32).toBitVec.smod 32 = BitVec.ofNat 32 n) (n32 : n < 32) (hv : -2147483648 ≤ v ∧ v ≤ 2147483647) : oq_shr v y = v / ((2 ^ n : Nat) : Int) := by
  unfold oq_shr
  rw [← Int32.toInt_toBitVec, Int32.toBitVec_shiftRight, hn]
  show ((Int32.ofInt v).toBitVec.sshiftRight (BitVec.ofNat 32 n).toNat).toInt = _
  rw [BitVec.toInt_sshiftRight, BitVec.toNat_ofNat, Nat.mod_eq_of_lt (by omega), Int32.toInt_toBitVec, Int32.toInt_ofInt_of_le (by omega) (by omega), Int.shiftRight_eq_div_pow]
theorem shr_8 {v : Int} (hv : 0 ≤ v ∧ v ≤ 2147483647) : oq_shr v 8 = v / 256 := shr_p (y := 8) (n := 8) (by decide) (by omega) (by omega)
theorem shr_16 {v : Int} (hv : 0 ≤ v ∧ v ≤ 2147483647) : oq_shr v 16 = v / 65536 := shr_p (y := 16) (n := 16) (by decide) (by omega) (by omega)
theorem bb_256 {v : Int} : oq_b (oq_b v) % 256 = v % 256 := by
  rw [oq_b_b, oq_b_al]
  exact Int.bmod_emod
end
