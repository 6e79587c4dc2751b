/- the methods of a class: making, rules and class side by side -/
/-- the bodies of all methods: nodes [a, b), tokens [p, q) -/
def MBO (X : BCx) (a b : Nat → Int) (p q : Nat → Nat) : Prop := (∀ j : Nat, j < bM X → 0 < bB X 182 j → LKn 0 (bK X) (bT X) 8 0 0 (a j) (b j) (p j : Int) (q j : Int) (bB X 190 j) ∧ (0 ≤ a j ∧ a j ≤ b j ∧ b j ≤ 8999) ∧ (p j ≤ q j ∧ q j ≤ 4000) ∧ bB X 182 j ≤ 2 ∧ (∀ k : Nat, k < 8 → MSm (bB X) k 1 j → bA X 23 (mx_X X k j) = (p j : Int)) ∧ ∀ i : Nat, (i : Int) < bB X 189 j → 0 ≤ bB X 194 ((bB X 188 j).toNat + i) ∧ bK X (bB X 194 ((bB X 188 j).toNat + i)).toNat = 2) ∧ ∀ i j : Nat, i < j → j < bM X → 0 < bB X 182 i → 0 < bB X 182 j → b i ≤ a j ∧ q i ≤ p j
/-- X, of method j of class k -/
def xm_X (X : BCx) (k j : Nat) : BCx := (X.1, (bc X, bn X, bNN X, bM X, if bB X 182 j = 1 then 1 else 0), (bq X, 8 + (k : Int)), X.2.2.2)
/-- y: what the rules leave in the end; R0: what they began with; members below j are ruled in r -/
def FIN (X : BCx) (a b : Nat → Int) (R0 : ms_M) (j : Nat) (r y : ms_M) : Prop := (∀ cc x : Nat, ¬ (cc = 160 ∧ (x = 10 ∨ x = 50 ∨ x = 51 ∨ x = 52 ∨ x = 53 ∨ x = 54 ∨ x = 57)) → ¬ (174 ≤ cc ∧ cc ≤ 176) → ¬ (196 ≤ cc ∧ cc ≤ 199) → y cc x = R0 cc x) ∧ ∀ i : Nat, i < j → i < bM X → 0 < bB X 182 i → AN (a i) (b i) r y
/-- the images of classes below k -/
def IMJ (k : Nat) (h w : ms_M) : Prop := ∀ c : Nat, c < k → ∃ id : Nat, h 43 c = (id : Int) ∧ (256 ≤ id ∧ id < cn_M h ∧ id < 900000) ∧ ln_I h id = w 224 c ∧ (0 ≤ w 224 c ∧ w 224 c ≤ 6000) ∧ ∀ x : Nat, (x : Int) < w 224 c → w 223 (6000 * c + x) = h id x % 256
/-- the labels given out so far -/
def LBB (X : BCx) (p : Nat → Nat) (L0 : Int) (j : Nat) (w : ms_M) : Prop := 0 ≤ w 160 88 ∧ ∃ D : Nat, w 160 88 ≤ L0 + 4 * (D : Int) ∧ ∀ i : Nat, j ≤ i → i < bM X → 0 < bB X 182 i → D ≤ p i
/-- the making, within a class -/
def WST (X : BCx) (p : Nat → Nat) (L0 : Int) (k j : Nat) (h y w : ms_M) : Prop := PBX X (100 + 20000 * (mcn_T (bB X) k 1 j : Nat)) h w ∧ (w 160 9 = 0 ∧ w 160 52 = 8 + (k : Int)) ∧ LBB X p L0 j w ∧ (∀ cc x : Nat, (162 ≤ cc ∧ cc ≤ 195) ∨ (cc = 160 ∧ (x = 24 ∨ x = 28)) → w cc x = y cc x) ∧ IMJ k h w
/-- the making, between classes -/
def WSB (X : BCx) (p : Nat → Nat) (L0 : Int) (k j : Nat) (h y w : ms_M) : Prop := (w 160 9 = 0 ∧ TXE (bK X) (bV X) (bC X) (bW X) (bn X) (bA X) (bB X) h w) ∧ LBB X p L0 j w ∧ (∀ cc x : Nat, (162 ≤ cc ∧ cc ≤ 195) ∨ (cc = 160 ∧ (x = 24 ∨ x = 28)) → w cc x = y cc x) ∧ IMJ k h w
/-- too much was found -/
def TMF (X : BCx) (h : ms_M) (B : Int × ms_M) : Prop := (¬ h 33 7 = -1 ∧ 0 ≤ h 33 7 ∧ (h 33 7).toNat < bc X) ∧ B.1 = -1 ∧ B.2 160 9 = 11 ∧ B.2 160 10 = bP X (h 33 7).toNat
def RST (nn : Nat) (X : BCx) (a b : Nat → Int) (p : Nat → Nat) (L0 : Int) (R0 : ms_M) (k j : Nat) (h r : ms_M) : Prop := (h 33 7 = -1 ∨ (0 ≤ h 33 7 ∧ (h 33 7).toNat < bc X)) ∧ ∀ (y : ms_M) (B : Int × ms_M), FIN X a b R0 j r y → qw_X13_compile_110 nn nn 0 y = some B → TMF X h B ∨ (h 33 7 = -1 ∧ ∃ (f f1 f2 : Nat) (w u28 : ms_M), WST X p L0 k j h y w ∧ qw_X13_makeClass_143 nn (qw_X13_makeClass_68 nn f1) f2 (k : Int) 1 (j : Int) w = some u28 ∧ (xl (oq_add (k : Int) 1) fun v29 => qw_X13_compile_110 nn f v29 u28) = some B)
def RSB (nn : Nat) (X : BCx) (a b : Nat → Int) (p : Nat → Nat) (L0 : Int) (R0 : ms_M) (k j : Nat) (h r : ms_M) : Prop := (h 33 7 = -1 ∨ (0 ≤ h 33 7 ∧ (h 33 7).toNat < bc X)) ∧ ∀ (y : ms_M) (B : Int × ms_M), FIN X a b R0 j r y → qw_X13_compile_110 nn nn 0 y = some B → TMF X h B ∨ (h 33 7 = -1 ∧ ∃ (f : Nat) (w : ms_M), WSB X p L0 k j h y w ∧ qw_X13_compile_110 nn f (k : Int) w = some B)
/-- a step of the making's methods: what it may be -/
def N143 (nn : Nat) (X : BCx) (qkk : Int → Int → ms_M → Option ms_M) (k j : Nat) (w y : ms_M) : Prop := (j = bM X ∧ qkk (k : Int) 2 w = some y) ∨ (j < bM X ∧ ¬ MSm (bB X) k 1 j ∧ ∃ f3, qw_X13_makeClass_143 nn qkk f3 (k : Int) 1 ((j + 1 : Nat) : Int) w = some y) ∨ (j < bM X ∧ MSm (bB X) k 1 j ∧ ∃ (f3 : Nat) (u66 : ms_M), qf_X13_makeMethod nn (j : Int) w = some u66 ∧ qw_X13_makeClass_143 nn qkk f3 (k : Int) 1 ((j + 1 : Nat) : Int) u66 = some y)
section
variable {nn : Nat} {X : BCx} {a b : Nat → Int} {p q : Nat → Nat} {L0 B v : Int} {k j i n : Nat} {h g u r m m0 w y R0 : ms_M}
theorem m_f261 (w9 : ¬ w 160 9 = 0) {l1 : Int} : ∀ (f : Nat) (l2 l3 : Int), Pc (qw_X13_makeClass_261 nn f l1 l2 l3 w) (fun u => u = w) := by
  have E : ∀ l2 : Int, Pc (qj_X13_makeClass_364 nn l1 l2 w) (fun u => u = w) := fun l2 => by
    unfold qj_X13_makeClass_364
    exact pc_if (fun z => absurd z w9) (fun _ => pc_ret rfl)
  intro f
  induction f with
  | zero => intro l2 l3; exact fun _ z => nomatch z
  | succ f ih =>
    intro l2 l3
    have N : ∀ s0 s1 : Int, Pc (qj_X13_makeClass_320 nn (qw_X13_makeClass_261 nn f) l1 l3 s0 s1 w) (fun u => u = w) := fun s0 s1 => by
      unfold qj_X13_makeClass_320
      refine pc_xl ?_; intro v33 _
      refine pc_xl ?_; intro v34 _
      exact ih v33 v34
    unfold qw_X13_makeClass_261
    refine pc_if (fun _ => pc_if (fun _ => E l2) (fun z => absurd w9 z)) (fun _ => ?_)
    refine pc_rA ?_; intro _ _ v42 _
    refine pc_if (fun _ => ?_) (fun _ => ?_)
    · refine pc_rA ?_; intro _ _ v44 _
      refine pc_if (fun _ => ?_) (fun _ => N 5 l2)
      refine pc_rA ?_; intro _ _ v46 _
      exact pc_if (fun _ => N 4 l2) (fun _ => N 2 l2)
    · refine pc_rA ?_; intro _ _ v50 _
      refine pc_xl ?_; intro v51 _
      exact N v51 l2
theorem m_f68 (w9 : ¬ w 160 9 = 0) {l1 : Int} : ∀ f : Nat, Pc (qw_X13_makeClass_68 nn f l1 2 w) (fun u => u = w) := by
  intro f
  cases f with
  | zero => exact fun _ z => nomatch z
  | succ f =>
    unfold qw_X13_makeClass_68
    refine pc_if (fun _ => ?_) (fun z => absurd (show (2 : Int) ≤ 2 by omega) z)
    refine pc_xl ?_; intro v102 _
    exact m_f261 w9 nn v102 1
/-- behind a FAULT the making of a class ends -/
theorem m_f143 (w9 : ¬ w 160 9 = 0) {l1 l4 : Int} {f1 : Nat} : ∀ f : Nat, Pc (qw_X13_makeClass_143 nn (qw_X13_makeClass_68 nn f1) f l1 1 l4 w) (fun u => u = w) := by
  intro f
  cases f with
  | zero => exact fun _ z => nomatch z
  | succ f =>
    unfold qw_X13_makeClass_143
    refine pc_if (fun _ => ?_) (fun _ => ?_)
    · refine pc_add (by omega) ?_; intro v73 e73
      rw [show v73 = 2 by omega]
      exact m_f68 w9 f1
    · refine pc_if (fun _ => ?_) (fun z => absurd w9 z)
      refine pc_add (by omega) ?_; intro v73 e73
      rw [show v73 = 2 by omega]
      exact m_f68 w9 f1
/-- a step of the making's methods -/
theorem m_143 {qkk : Int → Int → ms_M → Option ms_M} (w9 : w 160 9 = 0) (w28 : w 160 28 = (bM X : Int)) (T : ∀ cc x : Nat, (178 ≤ cc ∧ cc ≤ 195) → w cc x = bB X cc x) (hj : j ≤ bM X) : ∀ f : Nat, Pc (qw_X13_makeClass_143 nn qkk f (k : Int) 1 (j : Int) w) (fun y => N143 nn X qkk k j w y) := by
  intro f
  cases f with
  | zero => exact fun _ z => nomatch z
  | succ f =>
    unfold qw_X13_makeClass_143
    refine pc_if (fun z => ?_) (fun z => ?_)
    · refine pc_add (by omega) ?_; intro v73 e73
      rw [show v73 = 2 by omega]
      exact fun y ey => .inl ⟨by omega, ey⟩
    refine pc_if (fun z9 => absurd w9 z9) (fun _ => ?_)
    refine pc_rA ?_; intro _ j8 v77 e77
    rw [Int.toNat_natCast, T 181 _ (by omega)] at e77
    have SK : ∀ v : Int, v = (j : Int) + 1 → v = ((j + 1 : Nat) : Int) := fun v e => by omega
    refine pc_if (fun z1 => ?_) (fun z1 => ?_)
    · refine pc_add (by omega) ?_; intro v78 e78
      rw [SK v78 e78]
      exact fun y ey => .inr (.inl ⟨by omega, fun q => z1 (by rw [e77]; exact q.1), f, ey⟩)
    have e1 : bB X 181 j = (k : Int) := by rw [← e77]; exact Classical.byContradiction z1
    refine pc_rA ?_; intro _ _ v80 e80
    rw [Int.toNat_natCast, T 182 _ (by omega)] at e80
    have C195 : ∀ s0 : Int, (s0 = 0 ∧ bB X 182 j ≤ 0) ∨ (s0 = 1 ∧ 0 < bB X 182 j) → Pc (qj_X13_makeClass_185 nn qkk (qw_X13_makeClass_143 nn qkk f) (k : Int) 1 (j : Int) s0 w) (fun y => N143 nn X qkk k j w y) := fun s0 hs => by
      unfold qj_X13_makeClass_185
      refine pc_if (fun z => absurd rfl z) (fun _ => ?_)
      unfold qj_X13_makeClass_195
      refine pc_if (fun z0 => ?_) (fun z0 => ?_)
      · refine pc_if (fun z => absurd rfl z) (fun _ => ?_)
        refine pc_se ?_; intro u66 g66
        refine pc_add (by omega) ?_; intro v67 e67
        rw [SK v67 e67]
        exact fun y ey => .inr (.inr ⟨by omega, ⟨e1, by omega⟩, f, u66, g66, ey⟩)
      · refine pc_add (by omega) ?_; intro v78 e78
        rw [SK v78 e78]
        exact fun y ey => .inr (.inl ⟨by omega, fun q => by have := q.2; omega, f, ey⟩)
    exact pc_if (fun y => C195 0 (.inl ⟨rfl, by omega⟩)) (fun y => C195 1 (.inr ⟨rfl, by omega⟩))
theorem img_k (I : IMJ k h w) (e1 : ∀ cc x : Nat, cc = 43 ∨ 256 ≤ cc → g cc x = h cc x) (e2 : ∀ cc x : Nat, cc = 223 ∨ cc = 224 → m cc x = w cc x) : IMJ k g m := fun c hc => by
  obtain ⟨id, i1, i2, i3, i4, i5⟩ := I c hc
  refine ⟨id, by rw [e1 43 c (by omega)]; exact i1, ⟨i2.1, ?_, i2.2.2⟩, ?_, by rw [e2 224 c (by omega)]; exact i4, fun x hx => ?_⟩
  · have := i2.2.1
    unfold cn_M at *
    rw [e1 900000 0 (by omega)]; exact this
  · rw [e2 224 c (by omega), ← i3]
    unfold ln_I
    rw [if_neg (by omega), if_neg (by omega)]
    exact e1 900001 id (by omega)
  · rw [e2 224 c (by omega)] at hx
    rw [e2 223 _ (by omega), e1 id x (by omega)]
    exact i5 x hx
theorem fin_k (F : FIN X a b R0 (j + 1) r y) : FIN X a b R0 j r y := ⟨F.1, fun i hi => F.2 i (by omega)⟩
end
