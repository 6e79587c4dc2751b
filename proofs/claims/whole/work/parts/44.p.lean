/- COMPILE of both sides, as far as heads -/
section
variable {nn : Nat} {K P V U : Nat → Int} {C : Nat → Nat} {c n N mt : Nat} {q : Int} {h g r w u v h0 r0 : ms_M}
theorem b_sign {x : Int} : Pc (qf_X13_sign_ nn x h) (fun u => u 160 39 = h 160 39) := fun u e => ff_X13_sign_ nn u e 160 39 rfl
theorem b_word {x : Int} : Pc (qf_X13_word nn x h) (fun u => u 160 39 = h 160 39) := fun u e => ff_X13_word nn u e 160 39 rfl
theorem b_type : Pc (qf_X13_type nn h) (fun u => u 160 39 = h 160 39) := fun u e => ff_X13_type nn u e 160 39 rfl
theorem b_name : Pc (qf_X13_name nn h) (fun u => u.2 160 39 = h 160 39) := fun u e => ff_X13_name nn u e 160 39 rfl
theorem b_block {x : Int} : Pc (qf_X13_block nn x h) (fun u => u.2 160 39 = h 160 39) := fun u e => ff_X13_block nn u e 160 39 rfl
theorem b_360 {l3 : Int} (H : h 160 39 ≤ 1500) : Pc (qj_X13_member_360 nn l3 h) (fun u => u 160 39 ≤ 1500) := by
  unfold qj_X13_member_360
  refine pc_sv b_sign ?_; intro u2 e2
  refine pc_sv b_block ?_; intro u5 e5
  refine pc_wA ?_; intro _ _ h6 e6
  exact pc_ret (by rw [e6, up_n (by omega)]; omega)
theorem b_269 {qk : Int → ms_M → Option ms_M} {l3 : Int} (Hk : ∀ (l : Int) (z : ms_M), z 160 39 ≤ 1500 → Pc (qk l z) (fun u => u 160 39 ≤ 1500)) (H : h 160 39 ≤ 1500) : Pc (qj_X13_member_269 nn qk l3 h) (fun u => u 160 39 ≤ 1500) := by
  unfold qj_X13_member_269
  refine pc_sv b_type ?_; intro u8 e8
  refine pc_sv b_name ?_; intro u10 e10
  refine pc_if (fun _ => ?_) (fun _ => pc_ret (by omega))
  refine pc_wA ?_; intro i1 i2 h15 e15
  refine pc_wA ?_; intro _ _ h19 e19
  refine pc_wZ ?_; intro _ _ h23 e23
  refine pc_wA ?_; intro _ _ h26 e26
  have e39 : h26 160 39 = u10.2 160 39 := by rw [e26, up_n (by omega), e23, up_n (by omega), e19, up_n (by omega), e15, up_n (by omega)]
  refine pc_add (by omega) ?_; intro v28 e28
  refine pc_xl ?_; intro h29 e29
  refine pc_rA ?_; intro _ _ v31 _
  refine pc_xl ?_; intro v32 _
  refine pc_wA ?_; intro _ _ h33 e33
  exact Hk l3 h33 (by rw [e33, up_n (by omega), e29, up_s]; omega)
theorem b_234 : ∀ (f : Nat) (l3 : Int) (h : ms_M), h 160 39 ≤ 1500 → Pc (qw_X13_member_234 nn f l3 h) (fun u => u 160 39 ≤ 1500) := by
  intro f
  induction f with
  | zero => intros; exact pc_none
  | succ f ih =>
    intro l3 h H
    unfold qw_X13_member_234
    refine pc_if (fun _ => b_360 H) (fun _ => ?_)
    refine pc_se ?_; intro u38 _
    refine pc_if (fun _ => b_360 H) (fun _ => ?_)
    refine pc_rA ?_; intro _ _ v40 _
    refine pc_if (fun _ => b_269 (fun l z y => ih l z y) H) (fun _ => ?_)
    refine pc_sv b_sign ?_; intro u42 e42
    exact b_269 (fun l z y => ih l z y) (by omega)
theorem b_170 {l1 l2 l3 s0 s1 : Int} (H : h 160 39 ≤ 1500) : Pc (qj_X13_member_170 nn l1 l2 l3 s0 s1 h) (fun u => u 160 39 ≤ 1500) := by
  unfold qj_X13_member_170
  refine pc_wA ?_; intro _ _ h46 e46
  have H46 : h46 160 39 ≤ 1500 := by rw [e46, up_n (by omega)]; exact H
  refine pc_if (fun _ => ?_) (fun _ => pc_ret H46)
  refine pc_xl ?_; intro v49 _
  refine pc_xl ?_; intro h50 e50
  have H50 : h50 160 39 ≤ 1500 := by rw [e50, up_n (by omega)]; exact H46
  have G : Pc (mx_sv (qf_X13_sign_ nn 40 h50) fun u52 => qw_X13_member_234 nn nn l3 u52) (fun u => u 160 39 ≤ 1500) := by
    refine pc_sv b_sign ?_; intro u52 e52
    exact b_234 nn l3 u52 (by omega)
  refine pc_if (fun _ => G) (fun _ => ?_)
  refine pc_if (fun _ => G) (fun _ => ?_)
  refine pc_se ?_; intro u57 _
  refine pc_if (fun _ => G) (fun _ => ?_)
  refine pc_xl ?_; intro v61 _
  refine pc_xl ?_; intro h62 e62
  refine pc_wA ?_; intro _ _ h64 e64
  exact pc_ret (by rw [e64, up_n (by omega), e62, up_n (by omega)]; exact H50)
theorem b_75 {l1 l2 : Int} (H : h 160 39 ≤ 1500) : Pc (qj_X13_member_75 nn l1 l2 h) (fun u => u 160 39 ≤ 1500) := by
  unfold qj_X13_member_75
  refine pc_wA ?_; intro _ _ h72 e72
  refine pc_wA ?_; intro _ _ h75 e75
  refine pc_wZ ?_; intro _ _ h78 e78
  have H78 : h78 160 39 ≤ 1500 := by rw [e78, up_n (by omega), e75, up_n (by omega), e72, up_n (by omega)]; exact H
  refine pc_sv b_name ?_; intro u81 e81
  refine pc_wA ?_; intro _ _ h82 e82
  refine pc_xl ?_; intro v85 _
  refine pc_wA ?_; intro _ _ h86 e86
  refine pc_wA ?_; intro _ _ h89 e89
  refine pc_wA ?_; intro _ _ h91 e91
  refine pc_wA ?_; intro _ _ h93 e93
  have H93 : h93 160 39 ≤ 1500 := by rw [e93, up_n (by omega), e91, up_n (by omega), e89, up_n (by omega), e86, up_n (by omega), e82, up_n (by omega)]; omega
  exact pc_if (fun _ => b_170 H93) (fun _ => b_170 H93)
theorem b_25 {l1 : Int} (H : h 160 39 ≤ 1500) : Pc (qj_X13_member_25 nn l1 h) (fun u => u 160 39 ≤ 1500) := by
  unfold qj_X13_member_25
  refine pc_se ?_; intro u98 _
  refine pc_if (fun _ => ?_) (fun _ => ?_)
  · refine pc_sv b_type ?_; intro u100 e100
    exact b_75 (by omega)
  · refine pc_xl ?_; intro h101 e101
    refine pc_xl ?_; intro h102 e102
    refine pc_xl ?_; intro h104 e104
    refine pc_xl ?_; intro v106 _
    refine pc_xl ?_; intro h107 e107
    exact b_75 (by rw [e107, up_n (by omega), e104, up_n (by omega), e102, up_n (by omega), e101, up_n (by omega)]; exact H)
theorem b_mem (H : h 160 39 ≤ 1500) : Pc (qf_X13_member nn h) (fun u => u 160 39 ≤ 1500) := by
  unfold qf_X13_member
  refine pc_se ?_; intro u111 _
  refine pc_if (fun _ => b_25 H) (fun _ => ?_)
  refine pc_xl ?_; intro v113 _
  refine pc_xl ?_; intro h114 e114
  exact b_25 (by rw [e114, up_n (by omega)]; exact H)
theorem b_143 {qk : ms_M → Option ms_M} (Hk : ∀ z : ms_M, z 160 39 ≤ 1500 → Pc (qk z) (fun u => u 160 39 ≤ 1500)) (H : h 160 39 ≤ 1500) : Pc (qj_X13_program_143 nn qk h) (fun u => u 160 39 ≤ 1500) := by
  unfold qj_X13_program_143
  refine pc_sv b_sign ?_; intro u2 e2
  refine pc_if (fun _ => pc_ret (by omega)) (fun _ => ?_)
  refine pc_rA ?_; intro _ _ v6 _
  exact pc_if (fun _ => Hk u2 (by omega)) (fun _ => pc_ret (by omega))
theorem b_116 {qk : ms_M → Option ms_M} (Hk : ∀ z : ms_M, z 160 39 ≤ 1500 → Pc (qk z) (fun u => u 160 39 ≤ 1500)) : ∀ (f : Nat) (h : ms_M), h 160 39 ≤ 1500 → Pc (qw_X13_program_116 nn qk f h) (fun u => u 160 39 ≤ 1500) := by
  intro f
  induction f with
  | zero => intros; exact pc_none
  | succ f ih =>
    intro h H
    unfold qw_X13_program_116
    refine pc_if (fun _ => b_143 Hk H) (fun _ => ?_)
    refine pc_se ?_; intro u12 _
    refine pc_if (fun _ => b_143 Hk H) (fun _ => ?_)
    refine pc_sv (b_mem H) ?_; intro u14 e14
    exact ih u14 e14
theorem b_72 {qk : ms_M → Option ms_M} {l1 l2 : Int} (Hk : ∀ z : ms_M, z 160 39 ≤ 1500 → Pc (qk z) (fun u => u 160 39 ≤ 1500)) (H : h 160 39 ≤ 1500) : Pc (qj_X13_program_72 nn qk l1 l2 h) (fun u => u 160 39 ≤ 1500) := by
  unfold qj_X13_program_72
  refine pc_if (fun _ => ?_) (fun _ => pc_ret H)
  refine pc_wA ?_; intro _ _ h20 e20
  refine pc_wA ?_; intro _ _ h23 e23
  refine pc_xl ?_; intro v25 _
  refine pc_xl ?_; intro h26 e26
  have H26 : h26 160 39 ≤ 1500 := by rw [e26, up_n (by omega), e23, up_n (by omega), e20, up_n (by omega)]; exact H
  refine pc_sv b_sign ?_; intro u28 e28
  exact b_116 Hk nn u28 (by omega)
theorem b_p25 : ∀ (f : Nat) (h : ms_M), h 160 39 ≤ 1500 → Pc (qw_X13_program_25 nn f h) (fun u => u 160 39 ≤ 1500) := by
  intro f
  induction f with
  | zero => intros; exact pc_none
  | succ f ih =>
    intro h H
    unfold qw_X13_program_25
    refine pc_sv b_word ?_; intro u31 e31
    refine pc_sv b_name ?_; intro u33 e33
    refine pc_if (fun _ => b_72 (fun z y => ih z y) (by omega)) (fun _ => ?_)
    refine pc_se ?_; intro u37 _
    refine pc_if (fun _ => b_72 (fun z y => ih z y) (by omega)) (fun _ => ?_)
    refine pc_xl ?_; intro v39 _
    refine pc_xl ?_; intro h40 e40
    have H40 : h40 160 39 ≤ 1500 := by rw [e40, up_n (by omega)]; omega
    refine pc_sv b_name ?_; intro u42 e42
    exact b_72 (fun z y => ih z y) (by omega)
/-- the reference has at most 1500 parameters -/
theorem b_pgm : Pc (qf_X13_program nn h) (fun u => u 160 39 ≤ 1500) := by
  unfold qf_X13_program
  refine pc_xl ?_; intro h45 e45
  refine pc_xl ?_; intro h46 e46
  refine pc_xl ?_; intro h47 e47
  refine pc_xl ?_; intro h48 e48
  refine pc_xl ?_; intro h49 e49
  exact b_p25 nn h49 (by rw [e49, up_n (by omega), e48, up_n (by omega), e47, up_s]; decide)
/- behind a FAULT both give -1 -/
theorem c_F175 {x y : Nat} (hf : ¬ h 2 11 = 0) : Pc (qj_X12_compile_175 nn h x y) (fun A => A.1 = -1 ∧ FSc h A.2.1) := by
  unfold qj_X12_compile_175 qf_X0_closeProgram
  refine pc_sv (P := fun u => u = h) ?_ ?_
  · refine pc_if (fun _ => pc_ret rfl) (fun _ => ?_)
    exact pc_sv (c_tell2 hf) (fun a e => pc_ret e)
  · intro u3 e3
    rw [e3]
    exact pc_if (fun _ => pc_ret ⟨rfl, fs_r⟩) (fun z => absurd hf z)
theorem c_F93 (hf : ¬ h 2 11 = 0) : ∀ (f : Nat) (l2 : Int) (x y : Nat), Pc (qw_X12_compile_93 nn f l2 h x y) (fun A => A.1 = -1 ∧ FSc h A.2.1) := by
  intro f l2 x y
  cases f with
  | zero => exact pc_none
  | succ f =>
    unfold qw_X12_compile_93
    refine pc_if (fun _ => c_F175 hf) (fun _ => ?_)
    exact pc_if (fun _ => c_F175 hf) (fun z => absurd hf z)
theorem c_Ftail (hf : ¬ h 2 11 = 0) : Pc (mx_sv (qf_X2_nameKinds nn h) fun u56 => mx_sv (qf_X0_beginProgram nn u56) fun u59 => qw_X12_compile_93 nn nn 0 u59 0 0) (fun A => A.1 = -1 ∧ FSc h A.2.1) := by
  refine pc_sv (fs_qf_X2_nameKinds hf) ?_; intro u56 F56
  refine pc_sv (P := fun a => FSc u56 a) ?_ ?_
  · unfold qf_X0_beginProgram
    refine pc_xl ?_; intro h1 e1
    exact pc_ret (by rw [e1]; exact fs_u fs_r (by omega))
  · intro u59 F59
    have n9 : ¬ u59 2 11 = 0 := fs_n (fs_n hf F56) F59
    exact pc_imp (c_F93 n9 nn 0 0 0) (fun A z => ⟨z.1, fs_t (fs_t F56 F59) z.2⟩)
theorem r_F110 (hf : ¬ r 160 9 = 0) : ∀ (f : Nat) (l : Int), Pc (qw_X13_compile_110 nn f l r) (fun B => B.1 = -1 ∧ B.2 = r) := by
  intro f l
  have G : Pc (qj_X13_compile_136 nn r) (fun B => B.1 = -1 ∧ B.2 = r) := by
    unfold qj_X13_compile_136
    exact pc_if (fun z => absurd z hf) (fun _ => pc_ret ⟨rfl, rfl⟩)
  cases f with
  | zero => exact pc_none
  | succ f =>
    unfold qw_X13_compile_110
    refine pc_if (fun _ => G) (fun _ => ?_)
    exact pc_if (fun _ => G) (fun z => absurd hf z)
theorem r_F97 (hf : ¬ r 160 9 = 0) : Pc (qj_X13_compile_97 nn r) (fun B => B.1 = -1 ∧ B.2 = r) := by
  unfold qj_X13_compile_97
  exact pc_if (fun _ => r_F110 hf nn 0) (fun z => absurd hf z)
theorem r_F86 (hf : ¬ r 160 9 = 0) : Pc (qj_X13_compile_86 nn r) (fun B => B.1 = -1 ∧ B.2 = r) := by
  unfold qj_X13_compile_86
  exact pc_if (fun _ => r_F97 hf) (fun z => absurd hf z)
/-- forget of the class's heads -/
theorem c_forget (hn : 100001 ≤ nn) (hc : 256 ≤ cn_M h) : Pc (qf_X2_forget nn h) (fun u => (u 11 2 = 0 ∧ (∀ k : Nat, k < 8 → u 17 k = 0 ∧ u 21 k = 0) ∧ (∀ j : Nat, j < 16 → u 13 j = bi_A j)) ∧ ∀ cc y : Nat, ¬ (cc = 11 ∧ y = 2) → ¬ cc = 13 → ¬ cc = 14 → ¬ cc = 17 → ¬ cc = 21 → u cc y = h cc y) := by
  unfold qf_X2_forget
  refine pc_xl ?_; intro h1 e1
  have c1 : 256 ≤ cn_M h1 := by unfold cn_M at hc ⊢; rw [e1, up_n (by omega)]; exact hc
  obtain ⟨h2, q2, f2, g2⟩ := fill_ok (nn := nn) (c := 17) (v := 0) (h := h1) (by decide) rfl (by decide) hn (by omega)
  refine pc_sv (P := fun a => a = h2) (fun a ea => by rw [q2] at ea; exact (Option.some.inj ea).symm) ?_; intro a ea
  rw [ea]
  have c2 : 256 ≤ cn_M h2 := by unfold cn_M at c1 ⊢; rw [f2 900000 0 (by decide)]; exact c1
  obtain ⟨h3, q3, f3, g3⟩ := fill_ok (nn := nn) (c := 21) (v := 0) (h := h2) (by decide) rfl (by decide) hn (by omega)
  refine pc_sv (P := fun a => a = h3) (fun a ea => by rw [q3] at ea; exact (Option.some.inj ea).symm) ?_; intro b eb
  rw [eb]
  have c3 : 256 ≤ cn_M h3 := by unfold cn_M at c2 ⊢; rw [f3 900000 0 (by decide)]; exact c2
  obtain ⟨h4, q4, f4, g4, _⟩ := kforget_ok (nn := nn) hn (l0 := 12) (.inl rfl) (h := h3) c3
  refine pc_sv (P := fun a => a = h4) (fun a ea => by rw [q4] at ea; exact (Option.some.inj ea).symm) ?_; intro d ed
  refine pc_ret ?_
  rw [ed]
  refine ⟨⟨?_, fun k hk => ⟨?_, ?_⟩, fun j hj => g4 j hj⟩, fun cc y z1 z2 z3 z4 z5 => ?_⟩
  · rw [f4 11 2 (by decide) (by decide), f3 11 2 (by decide), f2 11 2 (by decide), e1, up_s]
  · rw [f4 17 k (by decide) (by decide), f3 17 k (by decide)]; exact g2 k (by show k < 8; exact hk)
  · rw [f4 21 k (by decide) (by decide)]; exact g3 k (by show k < 8; exact hk)
  · rw [f4 cc y (by omega) (by omega), f3 cc y (by omega), f2 cc y (by omega), e1, up_n z1]
/-- the reference copies the tape -/
theorem r_43 {A : Nat → Int} {m : Nat} (m3 : m ≤ 3000) {Q : Int × ms_M → Prop} (HA : ∀ i : Nat, i < m → (0 ≤ A i ∧ A i ≤ 255) ∧ r0 161 i = A i) (Z : ∀ b : ms_M, TXr b A m → (∀ cc y : Nat, ¬ cc = 162 → ¬ (cc = 160 ∧ y = 3) → b cc y = r0 cc y) → VS_ b → Pc (mx_sv (qf_X13_tokenize nn b) fun u42 => if ¬ (u42 160 9) = 0 then (qj_X13_compile_86 nn u42) else (mx_sv (qf_X13_program nn u42) fun u45 => qj_X13_compile_86 nn u45)) Q) : ∀ (f i : Nat) (r : ms_M), i ≤ m → (∀ cc y : Nat, ¬ cc = 162 → r cc y = r0 cc y) → (∀ j : Nat, j < i → r 162 j = A j) → VS_ r → Pc (qw_X13_compile_43 nn f (m : Int) (i : Int) r) Q := by
  intro f
  induction f with
  | zero => intros; exact pc_none
  | succ f ih =>
    intro i r hi Ar T V
    unfold qw_X13_compile_43
    refine pc_if (fun z => ?_) (fun z => ?_)
    · refine pc_xl ?_; intro h40 e40
      refine Z h40 ⟨m3, by rw [e40, up_s], fun j hj => ⟨(HA j hj).1, by rw [e40, up_n (by omega)]; exact T j (by omega)⟩⟩ (fun cc y z1 z2 => by rw [e40, up_n z2]; exact Ar cc y z1) (by rw [e40]; exact wF_160_3 V (by omega))
    · refine pc_rA ?_; intro _ _ v49 e49
      rw [Int.toNat_natCast, Ar 161 i (by omega), (HA i (by omega)).2] at e49
      refine pc_wA ?_; intro _ _ h50 e50
      rw [Int.toNat_natCast] at e50
      refine pc_add (by omega) ?_; intro v51 e51
      rw [show v51 = ((i + 1 : Nat) : Int) by omega]
      refine ih (i + 1) h50 (by omega) (fun cc y z => by rw [e50, up_n (by omega)]; exact Ar cc y z) (fun j hj => ?_) (by rw [e50, e49]; exact wA_162 V (HA i (by omega)).1)
      by_cases ji : j = i
      · rw [ji, e50, up_s]; exact e49
      · rw [e50, up_n (by omega)]; exact T j (by omega)
/-- COMPILE of both sides: the same FAULT, or what heads leave -/
theorem j_front (hn : 100001 ≤ nn) (hn6 : 1000000 ≤ nn) (VR : VS_ r) (WR : ∀ t : Nat, (t : Int) < 3002 → r 164 t + r 165 t ≤ 3000) (hc : 256 ≤ cn_M h) (KB : KNB h) {m : Nat} (e1 : h 0 1 = (m : Int)) (e2 : r 160 1 = (m : Int)) (m6 : m ≤ 6000) (HA : ∀ i : Nat, i < m → (-128 ≤ h 1 i ∧ h 1 i ≤ 127) ∧ r 161 i = h 1 i % 256) {Z : Int × ms_M × Nat × Nat → Int × ms_M → Prop} (HF : ∀ A B, A.1 = -1 → B.1 = -1 → SFj A.2.1 B.2 → Z A B) (HB : ∀ (a b u0 v0 v1 : ms_M) (n mt : Nat) (q q2 : Int) (T : Nat → Int), m ≤ 3000 → TKFn T m u0 v0 → PO_ v0 ∧ VS_ v0 → (∀ i : Nat, i < 3000 → 0 ≤ v0 162 i ∧ v0 162 i ≤ 255) → v1 160 88 = r 160 88 → (0 ≤ v1 160 22 ∧ v1 160 22 ≤ 3001 ∧ v1 160 39 ≤ 1500) → (1 ≤ n ∧ 0 ≤ q2 ∧ q2.toNat < (u0 2 3).toNat) → PGM (kn_T u0) v1 (v1 160 39) n 0 0 (v1 160 28) 0 q2 0 (v1 160 22) → HDS (kn_T u0) (u0 4) (u0 5) (fun k => (v1 178 k).toNat) (u0 2 3).toNat n (u0 2 9).toNat mt q a b → a 2 11 = 0 → b 160 9 = 0 → (∀ cc y : Nat, cc = 5 ∨ cc = 6 ∨ cc = 7 ∨ cc = 8 ∨ cc = 9 ∨ (cc = 2 ∧ y = 9) → a cc y = u0 cc y) → (∀ cc y : Nat, (162 ≤ cc ∧ cc ≤ 166) → b cc y = v0 cc y) → (∀ cc y : Nat, ¬ (cc = 160 ∧ (y = 9 ∨ y = 10)) → ¬ cc = 180 → ¬ cc = 187 → ¬ cc = 195 → b cc y = v1 cc y) → Pc (mx_sv (qf_X2_nameKinds nn a) fun u56 => mx_sv (qf_X0_beginProgram nn u56) fun u59 => qw_X12_compile_93 nn nn 0 u59 0 0) (fun A => Pc (qj_X13_compile_97 nn b) (fun B => Z A B))) : Pc (qf_X12_compile nn h) (fun A => Pc (qf_X13_compile nn r) (fun B => Z A B)) := by
  unfold qf_X12_compile qf_X13_compile
  rw [e1, e2]
  refine pc_xl ?_; intro h34 e34
  refine pc_fl ?_
  refine pc_xl ?_; intro r54 f54
  refine pc_xl ?_; intro r55 f55
  refine pc_xl ?_; intro r56 f56
  have A56 : ∀ cc y : Nat, ¬ (cc = 160 ∧ (y = 1 ∨ y = 9 ∨ y = 10)) → r56 cc y = r cc y := fun cc y z => by rw [f56, up_n (by omega), f55, up_n (by omega), f54, up_n (by omega)]
  have z9 : r56 160 9 = 0 := by rw [f56, up_n (by omega), f55, up_s]
  have V56 : VS_ r56 := by rw [f56, f55, f54]; exact wF_160_10 (wF_160_9 (wF_160_1 VR (by omega)) (by omega)) (by omega)
  have A34 : ∀ cc y : Nat, ¬ (cc = 0 ∧ y = 1) → h34 cc y = h cc y := fun cc y z => by rw [e34, up_n z]
  refine pc_if (fun m3 => ?_) (fun m3 => ?_)
  · refine pc_fl ?_
    refine pc_if (fun _ => ?_) (fun y => absurd m3 y)
    have K34 : KNB h34 := ⟨⟨fun i hi => by rw [A34 7 i (by omega)]; exact KB.1.1 i hi, fun k hk => by rw [A34 6 k (by omega)]; exact KB.1.2 k hk⟩, fun i hi => by rw [A34 8 i (by omega)]; exact KB.2.1 i hi, fun b hb => by rw [A34 10 b (by omega)]; exact KB.2.2 b hb⟩
    have Tc : TXc h34 (fun i => h 1 i % 256) m := ⟨by omega, fun i hi => by rw [A34 1 i (by omega)]; exact ⟨(HA i hi).1, rfl⟩⟩
    -- the reference copies, then both read tokens
    refine pc_fl ?_
    refine r_43 (A := fun i => h 1 i % 256) (m := m) (r0 := r56) (by omega) (fun i hi => ⟨by show 0 ≤ h 1 i % 256 ∧ h 1 i % 256 ≤ 255; omega, by rw [A56 161 i (by omega)]; exact (HA i hi).2⟩) (fun b Tb Ab Vb => ?_) nn 0 r56 (by omega) (fun _ _ _ => rfl) (fun j hj => absurd hj (by omega)) V56
    have b9 : b 160 9 = 0 := by rw [Ab 160 9 (by omega) (by omega)]; exact z9
    refine pc_fl ?_
    refine pc_se ?_; intro u0 eu0
    obtain ⟨⟨p1, p2, p3⟩, TK⟩ := tk_scan (nn := nn) K34 Tc Tb u0 eu0
    refine pc_fl ?_
    refine pc_se ?_; intro v0 ev0
    have TF := TK v0 ev0
    have PV : (PO_ v0 ∧ VS_ v0) ∧ ∀ i : Nat, i < 3000 → 0 ≤ v0 162 i ∧ v0 162 i ≤ 255 := by
      obtain ⟨x, ex, T⟩ := tz_ok hn6 Vb (fun t ht => by rw [Ab 164 t (by omega) (by omega), Ab 165 t (by omega) (by omega), A56 164 t (by omega), A56 165 t (by omega)]; exact WR t ht)
      rw [ev0] at ex
      rw [Option.some.inj ex]; exact ⟨⟨T.2.2, T.1⟩, fun i hi => gA_162 T.1 i (by omega)⟩
    have v09 : v0 160 9 = 0 := by rw [show v0 160 9 = b 160 9 from ff_X13_tokenize nn v0 ev0 160 9 rfl]; exact b9
    refine pc_if (fun y => absurd v09 y) (fun _ => ?_)
    refine pc_fl ?_
    -- forget
    have c0 : 256 ≤ cn_M u0 := by
      unfold cn_M at hc ⊢
      rw [show u0 900000 0 = h34 900000 0 from ff_X9_scan nn u0 eu0 900000 0 rfl, A34 900000 0 (by omega)]; exact hc
    refine pc_sv (c_forget hn c0) ?_; intro u41 q41
    obtain ⟨⟨o1, o2, o3⟩, F41⟩ := q41
    obtain ⟨BK, B, D, GP⟩ := tkf_b TF
    obtain ⟨NM, VL, VN⟩ := nmr_of TF
    have B41 := tbc_k B (fun cc y z => F41 cc y (by omega) (by omega) (by omega) (by omega) (by omega))
    -- parse
    refine p2_se (R := fun u v => ∃ r0 : ms_M, (r0 160 22 = 0 ∧ r0 160 28 = 0 ∧ r0 160 39 = 0 ∧ ∀ c x : Nat, ¬ c = 160 → r0 c x = v0 c x) ∧ JPg (kn_T u0) (u0 4) (u0 2 3).toNat 0 0 u41 r0 u v) (j_pgm BK GP B41 D (by rw [F41 2 10 (by omega) (by omega) (by omega) (by omega) (by omega)]; exact p1) (by rw [F41 2 11 (by omega) (by omega) (by omega) (by omega) (by omega)]; exact p2) v09 o1) ?_
    intro u44 v45 eu44 ev45 J
    obtain ⟨r0, ⟨s22, s28, s39, _⟩, J⟩ := J
    have Fv : ∀ cc y : Nat, (162 ≤ cc ∧ cc ≤ 166) → v45 cc y = v0 cc y := fun cc y z => by
      have k := ff_X13_program nn v45 ev45 cc y
      rcases (show cc = 162 ∨ cc = 163 ∨ cc = 164 ∨ cc = 165 ∨ cc = 166 by omega) with e | e | e | e | e
      · rw [e] at k ⊢; exact k (nw_ar rfl y)
      · rw [e] at k ⊢; exact k (nw_ar rfl y)
      · rw [e] at k ⊢; exact k (nw_ar rfl y)
      · rw [e] at k ⊢; exact k (nw_ar rfl y)
      · rw [e] at k ⊢; exact k (nw_ar rfl y)
    rcases J with s | ⟨j, pq, ⟨JP, kq, _⟩, PG, ⟨j1, e24, e11, j3⟩, e15, FU, PF⟩
    · -- a FAULT of the parse
      refine pc_sv (fs_qf_X2_readClasses s.1) ?_; intro u47 F47
      refine pc_sv (fs_qf_X2_readMembers (fs_n s.1 F47)) ?_; intro u50 F50
      have n5 := fs_n (fs_n s.1 F47) F50
      refine pc_sv (fs_qf_X2_checkOverrides n5) ?_; intro u53 F53
      refine pc_imp (c_Ftail (fs_n n5 F53)) (fun A zA => ?_)
      refine pc_imp (r_F86 (sf_r s)) (fun B zB => ?_)
      refine HF A B zA.1 zB.1 ?_
      rw [zB.2]
      exact sf_k s (fs_t (fs_t (fs_t F47 F50) F53) zA.2) ft_r
    · have eN : u0 2 9 = (((u0 2 9).toNat : Nat) : Int) := by have := TF.1.1.1.1; omega
      have NBv : 0 ≤ v45 160 22 ∧ v45 160 22 ≤ 3001 := by
        have MPv : MP v45 := mg_program v45 ev45
        have c1 : Cn v45 (v45 160 22).toNat ≤ v45 160 23 := (MPv.2.2 JP.2.2.2.2).2.2
        have c2 := cn_mono (s := v45) (v45 160 22).toNat 0
        rw [Nat.zero_add] at c2
        have c3 : Cn v45 0 = 0 := rfl
        have c4 := JP.2.2.1.2.1
        have c5 := JP.2.2.1.2.2
        have c6 := BK.2.1
        have c7 := MPv.2.1
        omega
      rw [s28, s22] at PG
      have A44 : ∀ cc y : Nat, ¬ cc = 2 → ¬ (cc = 11 ∧ y = 2) → ¬ cc = 15 → ¬ cc = 13 → ¬ cc = 14 → ¬ cc = 17 → ¬ cc = 21 → u44 cc y = u0 cc y := fun cc y z1 z2 z3 z4 z5 z6 z7 => by rw [FU cc y z1 z2 (by omega)]; exact F41 cc y z2 z4 z5 z6 z7
      have u9 : u44 2 9 = u0 2 9 := by
        rw [show u44 2 9 = u41 2 9 from ff_X8_readProgram nn u44 eu44 2 9 rfl]
        exact F41 2 9 (by omega) (by omega) (by omega) (by omega) (by omega)
      unfold qj_X13_compile_86
      refine pc_fl ?_
      refine pc_if (fun y => absurd JP.2.2.2.2 y) (fun _ => ?_)
      refine pc_fl ?_
      refine pc_imp (j_heads (nn := nn) (V := u0 5) (N := (u0 2 9).toNat) (n := j) (by omega) BK JP PG (by omega) (by omega) (by omega) (fun i hi => e15 i (by omega) (by omega)) (nmr_k NM (fun cc x z => Fv cc x (by omega))) (fun i hi ki => by rw [A44 5 i (by omega) (by omega) (by omega) (by omega) (by omega) (by omega) (by omega)]) (fun i ki => by have := VN i (tb_lt BK (by omega)) ki; omega) (by rw [u9]; exact eN) (by have a := TF.1.1.1.1; have b := TF.2.2.2.2.2.2.1.1; omega) (fun j hj => by rw [FU 13 j (by omega) (by omega) (by omega)]; exact o3 j hj) (fun k hk => by rw [FU 17 k (by omega) (by omega) (by omega), FU 21 k (by omega) (by omega) (by omega)]; exact o2 k hk) (b_pgm v45 ev45) (F := fun u53 => mx_sv (qf_X2_nameKinds nn u53) fun u56 => mx_sv (qf_X0_beginProgram nn u56) fun u59 => qw_X12_compile_93 nn nn 0 u59 0 0) (Z := fun A b => Pc (qj_X13_compile_97 nn b) (fun B => Z A B)) (fun a b s => ?_) (fun a b q mt HD af bf Fa Fb => ?_)) (fun A zA => pc_sv zA (fun b y => y))
      · refine pc_imp (c_Ftail s.1) (fun A zA => pc_imp (r_F97 (sf_r s)) (fun B zB => HF A B zA.1 zB.1 ?_))
        rw [zB.2]; exact sf_k s zA.2 ft_r
      · exact HB a b u0 v0 v45 j mt q _ _ (by omega) TF PV.1 PV.2 ((ff_X13_program nn v45 ev45 160 88 rfl).trans ((ff_X13_tokenize nn v0 ev0 160 88 rfl).trans ((Ab 160 88 (by omega) (by omega)).trans (A56 160 88 (by omega))))) ⟨NBv.1, NBv.2, b_pgm v45 ev45⟩ ⟨j1, Int.natCast_nonneg _, by rw [Int.toNat_natCast]; exact JP.2.2.1.2.2⟩ PG HD af bf (fun cc y z => by
          by_cases c2 : cc = 2
          · rw [show a cc y = u44 cc y from Fa cc y (by omega) (by omega) (by omega) (by omega) (by omega), c2, show y = 9 by omega]; exact u9
          · rw [Fa cc y (by omega) (by omega) (by omega) (by omega) (by omega)]; exact A44 cc y (by omega) (by omega) (by omega) (by omega) (by omega) (by omega) (by omega)) (fun cc y z => by rw [Fb cc y (by omega) (by omega) (by omega) (by omega)]; exact Fv cc y z) Fb
  · -- a TEXT of more than 3000 bytes
    refine pc_xl ?_; intro r57 f57
    refine pc_xl ?_; intro r58 f58
    refine pc_ret ?_
    refine pc_if (fun y => absurd y m3) (fun _ => ?_)
    refine pc_sv (P := fun a => a 2 11 = 1 ∧ a 2 12 = 3000) ?_ ?_
    · unfold qf_X9_refuse
      refine pc_xl ?_; intro g1 e1
      refine pc_xl ?_; intro g2 e2
      exact pc_ret ⟨by rw [e2, up_n (by omega), e1, up_s], by rw [e2, up_s]⟩
    · intro u62 q62
      refine pc_ret (HF _ _ rfl rfl ⟨?_, ?_, ?_⟩)
      · show ¬ u62 2 11 = 0; rw [q62.1]; decide
      · show r58 160 9 = u62 2 11; rw [f58, up_n (by omega), f57, up_s, q62.1]
      · show r58 160 10 = u62 2 12; rw [f58, up_s, q62.2]
end
