/- HEADS: extends of both sides -/
/-- the class above class k -/
def UPk (K V : Nat → Int) (C : Nat → Nat) (n k : Nat) (u : Int) : Prop := (K (C k + 1) = 16 ∧ CLz (fun k => V (C k)) n (V (C k + 2)) u) ∨ (¬ K (C k + 1) = 16 ∧ u = 0)
def uq_T (U : Nat → Int) (x : Int) : Int := if x = 0 then -1 else if x = 1 then 0 else if 8 ≤ x then U (x - 8).toNat else 1
def ui_T (U : Nat → Int) (x : Int) : Nat → Int
  | 0 => x
  | i + 1 => uq_T U (ui_T U x i)
/-- the way up from class k ends -/
def ENDS (U : Nat → Int) (n k : Nat) : Prop := ∃ i : Nat, i ≤ n + 1 ∧ ui_T U (8 + (k : Int)) i < 8
/-- the first FAULT of class k's head (0: none) -/
def FCH (P V : Nat → Int) (C : Nat → Nat) (U : Nat → Int) (n k : Nat) (e p : Int) : Prop := (8 ≤ k ∧ e = 11 ∧ p = P (C k)) ∨ (k < 8 ∧ ((¬ CLz (fun k => V (C k)) n (V (C k)) (8 + (k : Int)) ∧ e = 4 ∧ p = P (C k)) ∨ (CLz (fun k => V (C k)) n (V (C k)) (8 + (k : Int)) ∧ ((U k = -1 ∧ e = 5 ∧ p = P (C k + 2)) ∨ (¬ U k = -1 ∧ ((¬ ENDS U n k ∧ e = 6 ∧ p = P (C k + 2)) ∨ (ENDS U n k ∧ e = 0)))))))
section
variable {nn : Nat} {K P V U : Nat → Int} {C : Nat → Nat} {c n N : Nat} {h g r w u v : ms_M}
theorem fch_d {k : Nat} {e p e2 p2 : Int} (A : FCH P V C U n k e p) (B : FCH P V C U n k e2 p2) : e = e2 ∧ (¬ e = 0 → p = p2) := by
  rcases A with ⟨a0, a1, a2⟩ | ⟨a0, ⟨a1, a2, a3⟩ | ⟨a1, ⟨a2, a3, a4⟩ | ⟨a2, ⟨a3, a4, a5⟩ | ⟨a3, a4⟩⟩⟩⟩
  · rcases B with ⟨b0, b1, b2⟩ | ⟨b0, _⟩
    · exact ⟨by omega, fun _ => by omega⟩
    · omega
  · rcases B with ⟨b0, b1, b2⟩ | ⟨b0, ⟨b1, b2, b3⟩ | ⟨b1, _⟩⟩
    · omega
    · exact ⟨by omega, fun _ => by omega⟩
    · exact absurd b1 a1
  · rcases B with ⟨b0, b1, b2⟩ | ⟨b0, ⟨b1, b2, b3⟩ | ⟨b1, ⟨b2, b3, b4⟩ | ⟨b2, _⟩⟩⟩
    · omega
    · exact absurd a1 b1
    · exact ⟨by omega, fun _ => by omega⟩
    · exact absurd a2 b2
  · rcases B with ⟨b0, b1, b2⟩ | ⟨b0, ⟨b1, b2, b3⟩ | ⟨b1, ⟨b2, b3, b4⟩ | ⟨b2, ⟨b3, b4, b5⟩ | ⟨b3, b4⟩⟩⟩⟩
    · omega
    · exact absurd a1 b1
    · exact absurd b2 a2
    · exact ⟨by omega, fun _ => by omega⟩
    · exact absurd b3 a3
  · rcases B with ⟨b0, b1, b2⟩ | ⟨b0, ⟨b1, b2, b3⟩ | ⟨b1, ⟨b2, b3, b4⟩ | ⟨b2, ⟨b3, b4, b5⟩ | ⟨b3, b4⟩⟩⟩⟩
    · omega
    · exact absurd a1 b1
    · exact absurd b2 a2
    · exact absurd a3 b3
    · exact ⟨by omega, fun z => absurd a4 z⟩
theorem upk_d {k : Nat} {x y : Int} (A : UPk K V C n k x) (B : UPk K V C n k y) : x = y := by
  rcases A with ⟨a1, a2⟩ | ⟨a1, a2⟩
  · rcases B with ⟨b1, b2⟩ | ⟨b1, b2⟩
    · exact cls_d a2 b2
    · exact absurd a1 b1
  · rcases B with ⟨b1, b2⟩ | ⟨b1, b2⟩
    · exact absurd b1 a1
    · omega
theorem upk_b (S : CKd K V C n N) {k : Nat} (hk : k < n) {x : Int} (A : UPk K V C n k x) : -1 ≤ x ∧ x < 8 + (n : Int) := by
  rcases A with ⟨a1, a2⟩ | ⟨a1, a2⟩
  · exact cls_b a2 (S.2.2 _ ((S.2.1 k hk).2 a1)).1
  · omega
/-- seven pigeons .. -/
theorem pigeon : ∀ (n : Nat) (s : Nat → Nat), (∀ i : Nat, i ≤ n → s i < n) → ∃ i j : Nat, i < j ∧ j ≤ n ∧ s i = s j := by
  intro n
  induction n with
  | zero => intro s H; exact absurd (H 0 (by omega)) (by omega)
  | succ n ih =>
    intro s H
    by_cases q : ∃ i : Nat, i ≤ n ∧ s i = s (n + 1)
    · obtain ⟨i, q1, q2⟩ := q
      exact ⟨i, n + 1, by omega, by omega, q2⟩
    · have q2 : ∀ i : Nat, i ≤ n → ¬ s i = s (n + 1) := fun i hi z => q ⟨i, hi, z⟩
      have a := H (n + 1) (by omega)
      obtain ⟨i, j, h1, h2, h3⟩ := ih (fun i => if s i = n then s (n + 1) else s i) (fun i hi => by
        have b := H i (by omega)
        have d := q2 i hi
        show (if s i = n then s (n + 1) else s i) < n
        by_cases z : s i = n
        · rw [if_pos z]; omega
        · rw [if_neg z]; omega)
      have h4 : (if s i = n then s (n + 1) else s i) = (if s j = n then s (n + 1) else s j) := h3
      refine ⟨i, j, h1, by omega, ?_⟩
      have d1 := q2 i (by omega)
      have d2 := q2 j h2
      by_cases z1 : s i = n
      · by_cases z2 : s j = n
        · omega
        · rw [if_pos z1, if_neg z2] at h4; omega
      · by_cases z2 : s j = n
        · rw [if_neg z1, if_pos z2] at h4; omega
        · rw [if_neg z1, if_neg z2] at h4; exact h4
theorem ui_a {x : Int} : ∀ (d i : Nat), ui_T U x (i + d) = ui_T U (ui_T U x i) d := by
  intro d
  induction d with
  | zero => intro i; rfl
  | succ d ih => intro i; show uq_T U (ui_T U x (i + d)) = uq_T U (ui_T U (ui_T U x i) d); rw [ih]
theorem uq_8 {x : Int} (hx : 8 ≤ x) : uq_T U x = U (x - 8).toNat := by
  unfold uq_T
  rw [if_neg (by omega), if_neg (by omega), if_pos hx]
theorem ui_b (B : ∀ k : Nat, k < n → -1 ≤ U k ∧ U k < 8 + (n : Int)) {x : Int} (hx : x < 8 + (n : Int)) : ∀ i : Nat, (∀ j : Nat, j < i → 8 ≤ ui_T U x j) → ui_T U x i < 8 + (n : Int) := by
  intro i
  induction i with
  | zero => intro _; exact hx
  | succ i ih =>
    intro A
    have a := A i (by omega)
    have b := ih (fun j hj => A j (by omega))
    show uq_T U (ui_T U x i) < _
    rw [uq_8 a]
    exact (B _ (by omega)).2
theorem ui_per {x : Int} {i d : Nat} (e : ui_T U x (i + d) = ui_T U x i) (t : Nat) : ui_T U x (i + d + t) = ui_T U x (i + t) := by
  rw [ui_a t (i + d), e, ← ui_a t i]
/-- if the way up has not left the classes of the text by n + 1 steps it never does -/
theorem ui_8 (B : ∀ k : Nat, k < n → -1 ≤ U k ∧ U k < 8 + (n : Int)) {x : Int} (hx : x < 8 + (n : Int)) (A : ∀ j : Nat, j ≤ n → 8 ≤ ui_T U x j) : ∀ m : Nat, 8 ≤ ui_T U x m := by
  obtain ⟨i, j, h1, h2, h3⟩ := pigeon n (fun i => (ui_T U x i - 8).toNat) (fun i hi => by
    have a := A i hi
    have b := ui_b B hx i (fun j hj => A j (by omega))
    show (ui_T U x i - 8).toNat < n
    omega)
  have a1 := A i (by omega)
  have a2 := A j h2
  have h4 : (ui_T U x i - 8).toNat = (ui_T U x j - 8).toNat := h3
  have e : ui_T U x (i + (j - i)) = ui_T U x i := by rw [show i + (j - i) = j by omega]; omega
  have Z : ∀ (f m : Nat), m ≤ f → 8 ≤ ui_T U x m := by
    intro f
    induction f with
    | zero => intro m hm; exact A m (by omega)
    | succ f ih =>
      intro m hm
      by_cases q : m ≤ n
      · exact A m q
      · have p := ui_per e (m - j)
        rw [show i + (j - i) + (m - j) = m by omega] at p
        rw [p]; exact ih _ (by omega)
  exact fun m => Z m m (by omega)
/-- below 8 the way up ends within three steps -/
theorem ui_3 {x : Int} {i : Nat} (a : ui_T U x i < 8) (b : -1 ≤ ui_T U x i) : ∃ j : Nat, j ≤ i + 3 ∧ ui_T U x j = -1 := by
  have st : ∀ y : Int, y < 8 → uq_T U y = if y = 0 then -1 else if y = 1 then 0 else 1 := fun y hy => by
    unfold uq_T
    by_cases q0 : y = 0
    · rw [if_pos q0, if_pos q0]
    · rw [if_neg q0, if_neg q0]
      by_cases q1 : y = 1
      · rw [if_pos q1, if_pos q1]
      · rw [if_neg q1, if_neg q1, if_neg (by omega)]
  have s1 : ui_T U x (i + 1) = uq_T U (ui_T U x i) := rfl
  have s2 : ui_T U x (i + 2) = uq_T U (ui_T U x (i + 1)) := rfl
  have s3 : ui_T U x (i + 3) = uq_T U (ui_T U x (i + 2)) := rfl
  by_cases q : ui_T U x i = -1
  · exact ⟨i, by omega, q⟩
  · by_cases q0 : ui_T U x i = 0
    · refine ⟨i + 1, by omega, ?_⟩
      rw [s1, q0]; rfl
    · by_cases q1 : ui_T U x i = 1
      · refine ⟨i + 2, by omega, ?_⟩
        rw [s2, s1, q1]; rfl
      · have e1 : ui_T U x (i + 1) = 1 := by rw [s1, st _ a, if_neg q0, if_neg q1]
        refine ⟨i + 3, by omega, ?_⟩
        rw [s3, s2, e1]; rfl
theorem ends_iff (B : ∀ k : Nat, k < n → -1 ≤ U k ∧ U k < 8 + (n : Int)) {k : Nat} (hk : k < n) : ENDS U n k ↔ ∃ i : Nat, i ≤ n + 10 ∧ ui_T U (8 + (k : Int)) i = -1 := by
  constructor
  · intro E
    -- the first place below 8
    have F : ∀ (f i : Nat), i ≤ f → ui_T U (8 + (k : Int)) i < 8 → ∃ j : Nat, j ≤ i ∧ ui_T U (8 + (k : Int)) j < 8 ∧ ∀ t : Nat, t < j → 8 ≤ ui_T U (8 + (k : Int)) t := by
      intro f
      induction f with
      | zero => intro i hi a; exact ⟨i, by omega, a, fun t ht => absurd ht (by omega)⟩
      | succ f ih =>
        intro i hi a
        by_cases q : ∃ t : Nat, t < i ∧ ui_T U (8 + (k : Int)) t < 8
        · obtain ⟨t, t1, t2⟩ := q
          obtain ⟨j, j1, j2, j3⟩ := ih t (by omega) t2
          exact ⟨j, by omega, j2, j3⟩
        · refine ⟨i, by omega, a, fun t ht => ?_⟩
          exact Classical.byContradiction fun z => q ⟨t, ht, by omega⟩
    obtain ⟨i, i1, i2⟩ := E
    obtain ⟨j, j1, j2, j3⟩ := F i i (by omega) i2
    have b : -1 ≤ ui_T U (8 + (k : Int)) j := by
      cases j with
      | zero => show -1 ≤ 8 + (k : Int); omega
      | succ j =>
        have a := j3 j (by omega)
        have b := ui_b B (x := 8 + (k : Int)) (by omega) j (fun t ht => j3 t (by omega))
        show -1 ≤ uq_T U (ui_T U (8 + (k : Int)) j)
        rw [uq_8 a]
        exact (B _ (by omega)).1
    obtain ⟨m, m1, m2⟩ := ui_3 j2 b
    exact ⟨m, by omega, m2⟩
  · intro E
    obtain ⟨i, i1, i2⟩ := E
    exact Classical.byContradiction fun z => by
      have A : ∀ j : Nat, j ≤ n → 8 ≤ ui_T U (8 + (k : Int)) j := fun j hj => Classical.byContradiction fun y => z ⟨j, by omega, by omega⟩
      have b := ui_8 B (x := 8 + (k : Int)) (by omega) A i
      omega
/- the class -/
theorem c_token (H : HDc K P V C c n h) {k : Nat} (hk : k < n) {x : Int} (hx : x = (k : Int)) : Pc (qf_X2_tokenOfClass nn x h) (fun u => u = (C k : Int)) := by
  subst hx
  have e2 := H.2.2.1
  unfold qf_X2_tokenOfClass
  refine pc_if (fun z => absurd z (by omega)) (fun _ => ?_)
  refine pc_if (fun z => absurd z (by omega)) (fun _ => ?_)
  refine pc_rA ?_; intro _ _ v3 e3
  rw [Int.toNat_natCast, H.2.2.2 k hk] at e3
  exact pc_ret e3
theorem c_above (BK : TBn K c) (S : CKd K V C n N) (H : HDc K P V C c n h) (NC : NCl V C n N h) (UP : ∀ k : Nat, k < n → UPk K V C n k (U k)) {k : Nat} (hk : k < n) {x : Int} (hx : x = (k : Int)) : Pc (qf_X2_classAbove nn x h) (fun u => u = U k) := by
  have s1 := S.1
  have n3 := BK.2.1
  have s2 := S.2.1 k hk
  have lt := tb_lt BK (i := C k) (by omega)
  unfold qf_X2_classAbove
  refine pc_sv (c_token H hk hx) ?_; intro u2 q2
  refine pc_add (by omega) ?_; intro v4 e4
  refine pc_sv (c_kindAt BK H.1 (t := C k + 1) (by omega)) ?_; intro u6 q6
  refine pc_if (fun z => ?_) (fun z => ?_)
  · exact pc_ret (upk_d (.inr ⟨by omega, rfl⟩) (UP k hk))
  · refine pc_add (by omega) ?_; intro v7 e7
    have z6 : K (C k + 1) = 16 := by omega
    refine pc_sv (c_classAt BK S H.1 H.2.1 NC (t := C k + 2) (s2.2 z6) (by omega)) ?_; intro u9 q9
    exact pc_ret (upk_d (.inl ⟨z6, q9⟩) (UP k hk))
theorem c_ends7 (BK : TBn K c) (S : CKd K V C n N) (H : HDc K P V C c n h) (NC : NCl V C n N h) (UP : ∀ k : Nat, k < n → UPk K V C n k (U k)) {k : Nat} (hk : k < n) : ∀ (f i : Nat), i ≤ n + 1 → (∀ j : Nat, j < i → 8 ≤ ui_T U (8 + (k : Int)) j) → Pc (qw_X2_endsAbove_7 nn f (ui_T U (8 + (k : Int)) i) (i : Int) h) (fun u => (u = 1 ∧ ENDS U n k) ∨ (u = 0 ∧ ¬ ENDS U n k)) := by
  have B : ∀ k : Nat, k < n → -1 ≤ U k ∧ U k < 8 + (n : Int) := fun k hk => upk_b S hk (UP k hk)
  have e2 := H.2.2.1
  have s1 := S.1
  intro f
  induction f with
  | zero => intros; exact pc_none
  | succ f ih =>
    intro i hi A
    have b := ui_b B (x := 8 + (k : Int)) (by omega) i A
    have L : ui_T U (8 + (k : Int)) i < 8 → Pc (qj_X2_endsAbove_36 nn (ui_T U (8 + (k : Int)) i) h) (fun u => (u = 1 ∧ ENDS U n k) ∨ (u = 0 ∧ ¬ ENDS U n k)) := fun a => by
      unfold qj_X2_endsAbove_36
      refine pc_if (fun z => absurd z (by omega)) (fun _ => pc_ret (.inl ⟨rfl, i, hi, a⟩))
    unfold qw_X2_endsAbove_7
    refine pc_if (fun z => ?_) (fun z => ?_)
    · by_cases a : ui_T U (8 + (k : Int)) i < 8
      · exact L a
      · unfold qj_X2_endsAbove_36
        refine pc_if (fun _ => pc_ret (.inr ⟨rfl, fun E => ?_⟩)) (fun z => absurd (by omega) z)
        obtain ⟨j, j1, j2⟩ := E
        by_cases q : j = i
        · rw [q] at j2; exact a j2
        · have := A j (by omega); omega
    · refine pc_if (fun a => L a) (fun a => ?_)
      refine pc_sub (by omega) ?_; intro v3 e3
      refine pc_sv (c_above BK S H NC UP (k := (ui_T U (8 + (k : Int)) i - 8).toNat) (by omega) (by omega)) ?_; intro u5 q5
      refine pc_add (by omega) ?_; intro v6 e6
      have q : u5 = ui_T U (8 + (k : Int)) (i + 1) := by
        rw [q5]
        show _ = uq_T U (ui_T U (8 + (k : Int)) i)
        rw [uq_8 (by omega)]
      rw [q, show v6 = ((i + 1 : Nat) : Int) by omega]
      refine ih (i + 1) (by omega) (fun j hj => ?_)
      by_cases ji : j = i
      · rw [ji]; omega
      · exact A j (by omega)
theorem c_ends (BK : TBn K c) (S : CKd K V C n N) (H : HDc K P V C c n h) (NC : NCl V C n N h) (UP : ∀ k : Nat, k < n → UPk K V C n k (U k)) {k : Nat} (hk : k < n) {x : Int} (hx : x = (k : Int)) : Pc (qf_X2_endsAbove nn x h) (fun u => (u = 1 ∧ ENDS U n k) ∨ (u = 0 ∧ ¬ ENDS U n k)) := by
  have s1 := S.1
  unfold qf_X2_endsAbove
  refine pc_add (by omega) ?_; intro v9 e9
  rw [show v9 = 8 + (k : Int) by omega]
  exact c_ends7 BK S H NC UP hk nn 0 (by omega) (fun j hj => absurd hj (by omega))
/-- the class tells a FAULT at a token -/
theorem c_tell (B : TBc K P c h) (hf : h 2 11 = 0) {t : Nat} (ht : t < c) {k x : Int} (hx : x = (t : Int)) : Pc (qf_X9_tell nn k x h) (fun u => (u 2 11 = k ∧ u 2 12 = P t) ∧ ∀ cc y : Nat, ¬ (cc = 2 ∧ (y = 11 ∨ y = 12)) → u cc y = h cc y) := by
  subst hx
  have b1 := B.1
  unfold qf_X9_tell
  refine pc_if (fun z => absurd hf z) (fun _ => ?_)
  refine pc_if (fun z => absurd z (by omega)) (fun _ => ?_)
  refine pc_if (fun z => absurd z (by omega)) (fun _ => ?_)
  refine pc_xl ?_; intro h3 e3
  refine pc_rA ?_; intro _ _ v5 e5
  rw [Int.toNat_natCast, e3, up_n (by omega), (B.2 t ht).2] at e5
  refine pc_xl ?_; intro h6 e6
  exact pc_ret ⟨⟨by rw [e6, up_n (by omega), e3, up_s], by rw [e6, up_s]; exact e5⟩, fun cc y z => by rw [e6, up_n (by omega), e3, up_n (by omega)]⟩
/-- behind a FAULT the class's telling changes nothing -/
theorem c_tell2 (hf : ¬ h 2 11 = 0) {k x : Int} : Pc (qf_X9_tell nn k x h) (fun u => u = h) := by
  unfold qf_X9_tell
  exact pc_if (fun _ => pc_ret rfl) (fun z => absurd hf z)
/-- what is left of a class's head behind a FAULT -/
theorem c_64f {l1 l2 : Int} (hf : ¬ h 2 11 = 0) : Pc (qj_X2_checkClassHead_64 nn l1 l2 h) (fun u => u = h) := by
  unfold qj_X2_checkClassHead_64
  refine pc_se ?_; intro u2 _
  refine pc_if (fun _ => pc_ret rfl) (fun _ => ?_)
  refine pc_xl ?_; intro v4 _
  exact pc_sv (c_tell2 hf) (fun a q => pc_ret q)
theorem c_44f {l1 l2 : Int} (hf : ¬ h 2 11 = 0) : Pc (qj_X2_checkClassHead_44 nn l1 l2 h) (fun u => u = h) := by
  unfold qj_X2_checkClassHead_44
  refine pc_se ?_; intro u9 _
  refine pc_if (fun _ => c_64f hf) (fun _ => ?_)
  refine pc_xl ?_; intro v11 _
  exact pc_sv (c_tell2 hf) (fun a q => by rw [q]; exact c_64f hf)
theorem c_23f {l1 l2 : Int} (hf : ¬ h 2 11 = 0) : Pc (qj_X2_checkClassHead_23 nn l1 l2 h) (fun u => u = h) := by
  unfold qj_X2_checkClassHead_23
  refine pc_se ?_; intro u16 _
  refine pc_xl ?_; intro v17 _
  refine pc_if (fun _ => c_44f hf) (fun _ => ?_)
  exact pc_sv (c_tell2 hf) (fun a q => by rw [q]; exact c_44f hf)
theorem c_head (BK : TBn K c) (S : CKd K V C n N) (H : HDc K P V C c n h) (NC : NCl V C n N h) (UP : ∀ k : Nat, k < n → UPk K V C n k (U k)) (hf : h 2 11 = 0) {k : Nat} (hk : k < n) : Pc (qf_X2_checkClassHead nn (k : Int) h) (fun u => FCH P V C U n k (u 2 11) (u 2 12) ∧ ∀ cc y : Nat, ¬ (cc = 2 ∧ (y = 11 ∨ y = 12)) → u cc y = h cc y) := by
  have s1 := S.1
  have n3 := BK.2.1
  have s2 := S.2.1 k hk
  have B : ∀ k : Nat, k < n → -1 ≤ U k ∧ U k < 8 + (n : Int) := fun k hk => upk_b S hk (UP k hk)
  have lt := tb_lt BK (i := C k) (by omega)
  -- where it extends, the token is there
  have lt2 : ¬ U k = 0 → C k + 2 < c := fun z => by
    rcases UP k hk with ⟨a1, a2⟩ | ⟨a1, a2⟩
    · exact tb_lt BK (by have := s2.2 a1; omega)
    · exact absurd a2 z
  unfold qf_X2_checkClassHead
  refine pc_rA ?_; intro _ _ v23 e23
  rw [Int.toNat_natCast, H.2.2.2 k hk] at e23
  refine pc_if (fun z8 => ?_) (fun z8 => ?_)
  · unfold qj_X2_checkClassHead_23
    refine pc_sv (c_classAt BK S H.1 H.2.1 NC s2.1 e23) ?_; intro u16 q16
    refine pc_add (by omega) ?_; intro v17 e17
    refine pc_if (fun z => ?_) (fun z => ?_)
    · have G : CLz (fun k => V (C k)) n (V (C k)) (8 + (k : Int)) := by rw [← e17, ← z]; exact q16
      unfold qj_X2_checkClassHead_44
      refine pc_sv (c_above BK S H NC UP hk rfl) ?_; intro u9 q9
      refine pc_if (fun z9 => ?_) (fun z9 => ?_)
      · unfold qj_X2_checkClassHead_64
        refine pc_sv (c_ends BK S H NC UP hk rfl) ?_; intro u2 q2
        refine pc_if (fun z2 => ?_) (fun z2 => ?_)
        · refine pc_ret ⟨.inr ⟨by omega, .inr ⟨G, .inr ⟨by omega, .inr ⟨?_, hf⟩⟩⟩⟩, fun _ _ _ => rfl⟩
          rcases q2 with ⟨a, b⟩ | ⟨a, b⟩
          · exact b
          · exact absurd a z2
        · refine pc_add (by omega) ?_; intro v4 e4
          have ne : ¬ ENDS U n k := by
            rcases q2 with ⟨a, b⟩ | ⟨a, b⟩
            · omega
            · exact b
          have lc : C k + 2 < c := lt2 (fun z0 => ne ⟨1, by omega, by
            show uq_T U (8 + (k : Int)) < 8
            rw [uq_8 (by omega), show (8 + (k : Int) - 8).toNat = k by omega]; omega⟩)
          refine pc_sv (c_tell H.1 hf lc (by omega)) ?_; intro u6 q6
          exact pc_ret ⟨.inr ⟨by omega, .inr ⟨G, .inr ⟨by omega, .inl ⟨ne, q6.1⟩⟩⟩⟩, q6.2⟩
      · have m1 : U k = -1 := by omega
        refine pc_add (by omega) ?_; intro v11 e11
        refine pc_sv (c_tell H.1 hf (t := C k + 2) (lt2 (by omega)) (by omega)) ?_; intro u13 q13
        refine pc_imp (c_64f (by rw [q13.1.1]; decide)) (fun u q => ?_)
        rw [q]
        exact ⟨.inr ⟨by omega, .inr ⟨G, .inl ⟨m1, q13.1⟩⟩⟩, q13.2⟩
    · refine pc_sv (c_tell H.1 hf lt e23) ?_; intro u20 q20
      refine pc_imp (c_44f (by rw [q20.1.1]; decide)) (fun u q => ?_)
      rw [q]
      refine ⟨.inr ⟨by omega, .inl ⟨fun G => z ?_, q20.1⟩⟩, q20.2⟩
      rw [e17]; exact cls_d q16 G
  · refine pc_sv (c_tell H.1 hf lt e23) ?_; intro u26 q26
    refine pc_imp (c_23f (by rw [q26.1.1]; decide)) (fun u q => ?_)
    rw [q]
    exact ⟨.inl ⟨by omega, q26.1⟩, q26.2⟩
end
