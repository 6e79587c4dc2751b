/- a class: its head on both sides -/
/-- what the making wants of the reference's memory -/
def BAm (X : BCx) (h m : ms_M) : Prop := TXE (bK X) (bV X) (bC X) (bW X) (bn X) (bA X) (bB X) h m ∧ (m 160 9 = 0 ∧ m 160 24 = (bn X : Int) ∧ m 160 28 = (bM X : Int)) ∧ ∀ cc x : Nat, ((163 ≤ cc ∧ cc ≤ 173) ∨ cc = 177) → m cc x = bT X cc x
/-- what the making of a class leaves -/
def MCf (m w : ms_M) : Prop := ∀ cc y : Nat, ¬ (cc = 160 ∧ (y = 52 ∨ y = 62 ∨ y = 64 ∨ y = 66 ∨ y = 97)) → ¬ (200 ≤ cc ∧ cc ≤ 205) → ¬ cc = 225 → w cc y = m cc y
/-- a field of the class: name and kind -/
def FDm (nn : Nat) (X : BCx) (x : Nat) (h g : ms_M) : Prop := ∃ (u15 : Int × ms_M) (u17 : ms_M) (u22 : Int × ms_M), qf_X6_constant nn 1 (bA X 18 x) h = some u15 ∧ CPt u15.1 u15.2 u17 ∧ qf_X6_constant nn 1 (u17 20 x) u17 = some u22 ∧ CPt u22.1 u22.2 g
def CFL (nn : Nat) (X : BCx) (k n : Nat) (h g : ms_M) : Prop := ∃ f : Nat → ms_M, f 0 = h ∧ f n = g ∧ ∀ i : Nat, i < n → FDm nn X (12 * k + i) (f i) (f (i + 1))
section
variable {nn : Nat} {X : BCx} {B v v2 : Int} {k j i n : Nat} {h g u r m m0 w : ms_M}
theorem cfl_0 : CFL nn X k 0 h h := ⟨fun _ => h, rfl, rfl, fun i hi => absurd hi (by omega)⟩
theorem cfl_s (C : CFL nn X k n h g) (A : FDm nn X (12 * k + n) g u) : CFL nn X k (n + 1) h u := by
  obtain ⟨f, f0, f1, f2⟩ := C
  refine ⟨fun s => if s ≤ n then f s else u, ?_, ?_, fun i hi => ?_⟩
  · show (if 0 ≤ n then f 0 else u) = h
    rw [if_pos (by omega)]; exact f0
  · show (if n + 1 ≤ n then f (n + 1) else u) = u
    rw [if_neg (by omega)]
  · show FDm nn X (12 * k + i) (if i ≤ n then f i else u) (if i + 1 ≤ n then f (i + 1) else u)
    by_cases q : i = n
    · rw [q, if_pos (Nat.le_refl _), if_neg (by omega), f1]; exact A
    · rw [if_pos (by omega), if_pos (by omega)]; exact f2 i (by omega)
theorem fld_f {x : Nat} (F : FDm nn X x h g) : WFc h g ∧ g 45 7 = h 45 7 + 2 := by
  obtain ⟨u15, u17, u22, e15, A17, e22, A24⟩ := F
  have E15 := c_cfr u15 e15
  have E22 := c_cfr u22 e22
  refine ⟨wfc_t (wfc_c E15 (c_k5 u15 e15)) (wfc_t (wfc_p A17) (wfc_t (wfc_c E22 (c_k5 u22 e22)) (wfc_p A24))), ?_⟩
  rw [A24.1, E22 45 7 (by omega) (by omega) (by omega), A17.1, E15 45 7 (by omega) (by omega) (by omega)]
  omega
theorem cfl_f : ∀ (n : Nat) (h g : ms_M), CFL nn X k n h g → WFc h g ∧ g 45 7 = h 45 7 + 2 * n := by
  intro n
  induction n with
  | zero =>
    intro h g ⟨f, f0, f1, _⟩
    rw [← f1, f0]
    exact ⟨wfc_r, by show _ = _ + 2 * ((0 : Nat) : Int); omega⟩
  | succ n ih =>
    intro h g ⟨f, f0, f1, f2⟩
    obtain ⟨a1, a2⟩ := ih h (f n) ⟨f, f0, rfl, fun i hi => f2 i (by omega)⟩
    obtain ⟨b1, b2⟩ := fld_f (f2 n (by omega))
    rw [f1] at b1 b2
    exact ⟨wfc_t a1 b1, by rw [b2, a2]; omega⟩
/-- the class's fields -/
theorem c_flds (G : ∀ cc x : Nat, (17 ≤ cc ∧ cc ≤ 29) → ¬ cc = 20 → g cc x = bA X cc x) (k8 : k < 8) (n12 : n ≤ 12) (e17 : bA X 17 k = (n : Int)) {Z : ms_M → Prop} (l7 : 0 ≤ g 45 7 ∧ g 45 7 ≤ 1000) (HK : ∀ u, CFL nn X k n g u → Pc (mx_sv (qf_X2_methodsOf nn (k : Int) u) fun u6 => mx_sv (qf_X6_put nn u6 u) fun u8 => some u8) Z) : ∀ (f i : Nat) (h : ms_M), i ≤ n → CFL nn X k i g h → Pc (qw_X6_beginClass_62 nn f (k : Int) (i : Int) h) Z := by
  intro f
  induction f with
  | zero => intro i h hi C; exact fun _ z => nomatch z
  | succ f ih =>
    intro i h hi C
    obtain ⟨W, l⟩ := cfl_f i g h C
    have GH : ∀ cc x : Nat, (17 ≤ cc ∧ cc ≤ 29) → ¬ cc = 20 → h cc x = bA X cc x := fun cc x z z2 => by rw [W.2 cc x (by omega) (by omega)]; exact G cc x z z2
    unfold qw_X6_beginClass_62
    refine pc_sv (P := fun y => y = (n : Int)) ?_ ?_
    · unfold qf_X2_fieldsOf qf_X2_isOwn
      refine pc_add (by omega) ?_; intro v1 e1
      refine pc_sv (P := fun y => y = 1) (pc_if (fun z => absurd z (by omega)) (fun _ => pc_if (fun z => absurd z (by omega)) (fun _ => pc_ret rfl))) ?_; intro u2 q2
      refine pc_if (fun z => absurd z (by omega)) (fun _ => ?_)
      refine pc_rA ?_; intro _ _ v4 e4
      rw [Int.toNat_natCast, GH 17 _ (by omega) (by omega), e17] at e4
      exact pc_ret e4
    intro u3 q3
    refine pc_if (fun z => ?_) (fun z => ?_)
    · rw [show i = n by omega] at C
      exact HK h C
    · refine pc_xl ?_; intro v9 e9
      rw [oq_mul_eq (by omega) (by omega) (by omega)] at e9
      refine pc_add (by omega) ?_; intro v10 e10
      refine pc_sv (P := fun y => y = bA X 18 (12 * k + i)) ?_ ?_
      · unfold qf_X2_nameOfField
        refine pc_if (fun z => absurd z (by omega)) (fun _ => ?_)
        refine pc_if (fun z => absurd z (by omega)) (fun _ => ?_)
        refine pc_rA ?_; intro _ _ v4 e4
        rw [show v10.toNat = 12 * k + i by omega, GH 18 _ (by omega) (by omega)] at e4
        exact pc_ret e4
      intro u13 q13
      rw [q13]
      refine pc_se ?_; intro u15 e15
      have E15 := c_cfr u15 e15
      have l15 := E15 45 7 (by omega) (by omega) (by omega)
      refine pc_sv (c_put (by omega)) ?_; intro u17 A17
      refine pc_sv (P := fun y => y = u17 20 (12 * k + i)) ?_ ?_
      · unfold qf_X2_kindOfField
        refine pc_if (fun z => absurd z (by omega)) (fun _ => ?_)
        refine pc_if (fun z => absurd z (by omega)) (fun _ => ?_)
        refine pc_rA ?_; intro _ _ v4 e4
        rw [show v10.toNat = 12 * k + i by omega] at e4
        exact pc_ret e4
      intro u20 q20
      rw [q20]
      refine pc_se ?_; intro u22 e22
      have E22 := c_cfr u22 e22
      have l22 := E22 45 7 (by omega) (by omega) (by omega)
      have l17 := A17.1
      refine pc_sv (c_put (by omega)) ?_; intro u24 A24
      refine pc_add (by omega) ?_; intro v25 e25
      rw [show v25 = ((i + 1 : Nat) : Int) by omega]
      exact ih (i + 1) u24 (by omega) (cfl_s C ⟨u15, u17, u22, e15, A17, e22, A24⟩)
/-- members of one sort are counted -/
theorem r_w78 {qkk : Int → Int → ms_M → Option ms_M} {s : Nat} (s1 : s = 0 ∨ s = 1) (m28 : m 160 28 = (bM X : Int)) (T : ∀ cc x : Nat, (178 ≤ cc ∧ cc ≤ 195) → m cc x = bB X cc x) (M8 : bM X ≤ 100000) {Z : ms_M → Prop} (HK : Pc (mx_sv (qf_X13_tell nn ((mcn_T (bB X) k s (bM X) : Nat) : Int) m) fun u92 => qw_X13_makeClass_143 nn qkk nn (k : Int) (s : Int) 0 u92) Z) : ∀ (f j : Nat), j ≤ bM X → Pc (qw_X13_makeClass_78 nn qkk f (k : Int) (s : Int) ((mcn_T (bB X) k s j : Nat) : Int) (j : Int) m) Z := by
  have ML : ∀ j : Nat, mcn_T (bB X) k s j ≤ j := by
    intro j
    induction j with
    | zero => exact Nat.le_refl _
    | succ j ih => have := (mcn_1 (r := bB X) (k := k) (s := s) (m := j)).2; omega
  intro f
  induction f with
  | zero => intro j hj; exact fun _ z => nomatch z
  | succ f ih =>
    intro j hj
    unfold qw_X13_makeClass_78
    have ml := ML j
    refine pc_if (fun z => ?_) (fun z => ?_)
    · rw [show j = bM X by omega]; exact HK
    · refine pc_rA ?_; intro _ _ v94 e94
      rw [Int.toNat_natCast, T 181 _ (by omega)] at e94
      have GO : ∀ q : Prop, (q ↔ MSm (bB X) k s j) → q → Pc (xl (oq_add ((mcn_T (bB X) k s j : Nat) : Int) 1) fun v86 => xl (oq_add (j : Int) 1) fun v87 => qw_X13_makeClass_78 nn qkk f (k : Int) (s : Int) v86 v87 m) Z := fun q hq y => by
        refine pc_add (by omega) ?_; intro v86 e86
        refine pc_add (by omega) ?_; intro v87 e87
        have a := mcn_s (hq.mp y)
        rw [show v86 = ((mcn_T (bB X) k s (j + 1) : Nat) : Int) by omega, show v87 = ((j + 1 : Nat) : Int) by omega]
        exact ih (j + 1) (by omega)
      have NO : ¬ MSm (bB X) k s j → Pc (xl (oq_add (j : Int) 1) fun v85 => qw_X13_makeClass_78 nn qkk f (k : Int) (s : Int) ((mcn_T (bB X) k s j : Nat) : Int) v85 m) Z := fun y => by
        refine pc_add (by omega) ?_; intro v85 e85
        have a := mcn_n y
        rw [← a, show v85 = ((j + 1 : Nat) : Int) by omega]
        exact ih (j + 1) (by omega)
      refine pc_if (fun z2 => NO (fun y => z2 (by rw [e94]; exact y.1))) (fun z2 => ?_)
      have e1 : bB X 181 j = (k : Int) := by rw [← e94]; exact Classical.byContradiction z2
      refine pc_rA ?_; intro _ _ v97 e97
      rw [Int.toNat_natCast, T 182 _ (by omega)] at e97
      have C123 : ∀ (t s0 : Int), (MSm (bB X) k s j ↔ s0 = t) → Pc (qj_X13_makeClass_123 nn qkk (qw_X13_makeClass_78 nn qkk f) (k : Int) (s : Int) ((mcn_T (bB X) k s j : Nat) : Int) (j : Int) t s0 m) Z := fun t s0 hq => by
        unfold qj_X13_makeClass_123
        refine pc_if (fun y => NO (fun z => y (hq.mp z))) (fun y => ?_)
        have e : s0 = t := Classical.byContradiction y
        exact GO (s0 = t) hq.symm e
      have C113 : ∀ s0 : Int, (s0 = 0 ∧ bB X 182 j ≤ 0) ∨ (s0 = 1 ∧ 0 < bB X 182 j) → Pc (qj_X13_makeClass_113 nn qkk (qw_X13_makeClass_78 nn qkk f) (k : Int) (s : Int) ((mcn_T (bB X) k s j : Nat) : Int) (j : Int) s0 m) Z := fun s0 hs => by
        unfold qj_X13_makeClass_113
        refine pc_if (fun y => C123 0 s0 ⟨fun z => ?_, fun z => ?_⟩) (fun y => C123 1 s0 ⟨fun z => ?_, fun z => ?_⟩)
        · have := z.2; omega
        · exact ⟨e1, by omega⟩
        · have := z.2; omega
        · exact ⟨e1, by omega⟩
      exact pc_if (fun y => C113 0 (.inl ⟨rfl, by omega⟩)) (fun y => C113 1 (.inr ⟨rfl, by omega⟩))
end
