section
variable {nn : Nat} {h g r : ms_M}
/-- a step of the reader that makes no class -/
def MRk (h r : ms_M) : Prop := r 2 3 = h 2 3 ∧ (∀ i : Nat, r 3 i = h 3 i ∧ r 4 i = h 4 i) ∧ r 11 2 = h 11 2 ∧ h 2 10 ≤ r 2 10 ∧ (h 2 11 = 0 ∨ ¬ r 2 11 = 0)
theorem mr_rfl : MRk h h := ⟨rfl, fun _ => ⟨rfl, rfl⟩, rfl, Int.le_refl _, by omega⟩
theorem mr_tr (A : MRk h g) (B : MRk g r) : MRk h r := by
  obtain ⟨a1, a2, a3, a4, a5⟩ := A
  obtain ⟨b1, b2, b3, b4, b5⟩ := B
  refine ⟨by omega, fun i => ?_, by omega, by omega, by omega⟩
  rw [(b2 i).1, (b2 i).2]; exact a2 i
theorem mr_need (hn : 1000000 ≤ nn) {a : Int} (ha : 2 ≤ a ∧ a ≤ 51) (V : VS_ h) (e : qf_X8_need nn a h = some r) : MRk h r ∧ VS_ r := by
  have q := okof (vf_X8_need hn ha.1 ha.2 V) e
  obtain ⟨q1, q2, q3⟩ := q
  have f : r 11 2 = h 11 2 := (ff_X8_need nn) _ e 11 2 rfl
  exact ⟨⟨q2, fun i => ⟨(ff_X8_need nn) _ e 3 i (nw_ar rfl i), (ff_X8_need nn) _ e 4 i (nw_ar rfl i)⟩, f, by omega, by omega⟩, q1⟩
theorem mr_accept (hn : 1000000 ≤ nn) {a : Int} (ha : 10 ≤ a ∧ a ≤ 51) (V : VS_ h) {u : Int × ms_M} (e : qf_X8_accept nn a h = some u) : MRk h u.2 ∧ VS_ u.2 := by
  have q := okof (vf_X8_accept hn ha.1 ha.2 V) e
  obtain ⟨q1, q2, q3, q4, q5, q6⟩ := q
  have f : u.2 11 2 = h 11 2 := (ff_X8_accept nn) _ e 11 2 rfl
  exact ⟨⟨q4, fun i => ⟨(ff_X8_accept nn) _ e 3 i (nw_ar rfl i), (ff_X8_accept nn) _ e 4 i (nw_ar rfl i)⟩, f, by omega, by omega⟩, q1⟩
theorem mr_member (hn : 1000000 ≤ nn) (V : VS_ h) (e : qf_X8_readMember nn h = some r) : MRk h r ∧ VS_ r := by
  have q := okof (vf_X8_readMember hn V) e
  obtain ⟨q1, q2, q3, q4, q5, q6⟩ := q
  have f : r 11 2 = h 11 2 := (ff_X8_readMember nn) _ e 11 2 rfl
  exact ⟨⟨q2, fun i => ⟨(ff_X8_readMember nn) _ e 3 i (nw_ar rfl i), (ff_X8_readMember nn) _ e 4 i (nw_ar rfl i)⟩, f, q3, q4⟩, q1⟩
theorem mr_86 (hn : 1000000 ≤ nn) (V : VS_ h) : Pc (qj_X8_readClass_86 nn h) (fun r => MRk h r ∧ VS_ r) := by
  unfold qj_X8_readClass_86
  refine pc_se ?_; intro u2 e2
  exact pc_ret (mr_need hn (by omega) V e2)
theorem mr_47 (hn : 1000000 ≤ nn) : ∀ (k : Nat) (l1 : Int) (h : ms_M), VS_ h → Pc (qw_X8_readClass_47 nn k l1 h) (fun r => MRk h r ∧ VS_ r) := by
  intro k
  induction k with
  | zero => intros; exact pc_none
  | succ k ih =>
    intro l1 h V
    unfold qw_X8_readClass_47
    refine pc_if (fun _ => mr_86 hn V) (fun _ => ?_)
    refine pc_if (fun _ => mr_86 hn V) (fun _ => ?_)
    refine pc_se ?_; intro u7 e7
    refine pc_if (fun _ => mr_86 hn V) (fun _ => ?_)
    refine pc_se ?_; intro u9 e9
    obtain ⟨m9, V9⟩ := mr_member hn V e9
    refine pc_xl ?_; intro v10 e10
    exact pc_imp (ih v10 u9 V9) (fun r q => ⟨mr_tr m9 q.1, q.2⟩)
theorem mr_39 (hn : 1000000 ≤ nn) (V : VS_ h) : Pc (qj_X8_readClass_39 nn h) (fun r => MRk h r ∧ VS_ r) := by
  unfold qj_X8_readClass_39
  refine pc_se ?_; intro u15 e15
  obtain ⟨m, V15⟩ := mr_need hn (by omega) V e15
  exact pc_imp (mr_47 hn _ _ _ V15) (fun r q => ⟨mr_tr m q.1, q.2⟩)
theorem rm_need (hn : 1000000 ≤ nn) {a : Int} (ha : 2 ≤ a ∧ a ≤ 51) (V : VS_ h) (N : EI_ h) (L : h 2 10 < h 2 3) (e : qf_X8_need nn a h = some r) : ¬ r 2 11 = 0 ∨ (h 2 11 = 0 ∧ h 3 (h 2 10).toNat = a ∧ r 2 10 = h 2 10 + 1 ∧ r 2 10 < r 2 3) := by
  have g := gF_2_10 V
  have q := okof (vf_X8_need hn ha.1 ha.2 V) e
  obtain ⟨q1, q2, q3⟩ := q
  have l := lm_X8_need N (by omega) e
  by_cases z : r 2 11 = 0
  · right
    have z1 : h 2 11 = 0 ∧ r 2 10 = h 2 10 + 1 := by omega
    refine ⟨z1.1, ?_, z1.2, by omega⟩
    clear q3 l
    unfold qf_X8_need at e
    obtain ⟨b, e1, e2⟩ := sv_i e
    by_cases w : b = a
    · unfold qf_X9_kind at e1
      rw [if_neg (by omega), if_neg (by omega), if_neg (by omega)] at e1
      replace e1 := rd_i e1
      have e1 := Option.some.inj e1
      omega
    · rw [if_pos w] at e2
      obtain ⟨c, e3, e4⟩ := sv_i e2
      cases e4
      have y : r 2 10 = h 2 10 := (ff_X9_tellHere nn) _ e3 2 10 rfl
      omega
  · exact .inl z
/-- six bytes a class: as far as the reader has come, and in all -/
def IRk (z : Int) (h : ms_M) : Prop := (¬ h 2 11 = 0 ∨ 6 * h 11 2 ≤ z) ∧ (¬ h 2 11 = 0 ∨ h 2 3 ≤ h 2 10 ∨ 6 * h 11 2 ≤ h 4 (h 2 10).toNat)
/-- the tokens' order -/
def TRk (z : Int) (h : ms_M) : Prop := EI_ h ∧ TPt h ∧ TQt h z
theorem tr_mono (P : TPt h) : ∀ (d i : Nat), (i : Int) + d < h 2 3 → h 4 i ≤ h 4 (i + d) := by
  intro d
  induction d with
  | zero => intro i _; exact Int.le_refl _
  | succ d ih =>
    intro i hi
    have a := ih i (by omega)
    have b := P (i + d) (by omega)
    have w := wk_0 (k := h 3 (i + d))
    have e : i + (d + 1) = i + d + 1 := by omega
    rw [e]; omega
theorem tr_keep {z : Int} (c : r 2 3 = h 2 3) (s : ∀ i : Nat, r 3 i = h 3 i ∧ r 4 i = h 4 i) (T : TRk z h) : TRk z r := by
  obtain ⟨t1, t2, t3⟩ := T
  refine ⟨ei_eq t1 (fun k => (s k).1) c, fun i hi => ?_, fun i hi => ?_⟩
  · rw [(s i).1, (s i).2, (s (i + 1)).2]; exact t2 i (by omega)
  · rw [(s i).1, (s i).2]; exact t3 i (by omega)
theorem ir_keep {z : Int} (T : TRk z h) (g0 : 0 ≤ h 2 10) (A : MRk h r) (I : IRk z h) : IRk z r := by
  obtain ⟨a1, a2, a3, a4, a5⟩ := A
  obtain ⟨i1, i2⟩ := I
  refine ⟨by omega, ?_⟩
  by_cases q : r 2 11 = 0
  · right
    by_cases w : h 2 3 ≤ r 2 10
    · left; omega
    · right
      have m := tr_mono T.2.1 (r 2 10 - h 2 10).toNat (h 2 10).toNat (by omega)
      have e : (h 2 10).toNat + (r 2 10 - h 2 10).toNat = (r 2 10).toNat := by omega
      rw [e] at m
      rw [(a2 _).2]
      omega
  · exact .inl q
theorem rm_class (hn : 1000000 ≤ nn) {z : Int} (V : VS_ h) (T : TRk z h) (L : h 2 10 < h 2 3) (F : h 2 11 = 0) (I : IRk z h) : Pc (qf_X8_readClass nn h) (fun r => VS_ r ∧ TRk z r ∧ IRk z r) := by
  have g0 := gF_2_10 V
  unfold qf_X8_readClass
  refine pc_se ?_; intro u17 e17
  obtain ⟨m17, V17⟩ := mr_need hn (by omega) V e17
  have n17 := rm_need hn (by omega) V T.1 L e17
  have T17 := tr_keep m17.1 m17.2.1 T
  have g17 := gF_2_10 V17
  refine pc_se ?_; intro u22 e22
  have gh := gF_2_3 V
  have b17 : u17 2 10 ≤ h 2 10 + 1 := by
    have q := okof (vf_X8_need hn (a1 := 13) (by omega) (by omega) V) e17
    obtain ⟨-, q2, q3⟩ := q
    omega
  have q22 := okof (vf_X2_addClass hn (a1 := u17 2 10) (by omega) (by omega) V17) e22
  obtain ⟨V22, c22⟩ := q22
  have p22 : u22 2 10 = u17 2 10 := (ff_X2_addClass nn) _ e22 2 10 rfl
  have f22 : u22 2 11 = u17 2 11 := (ff_X2_addClass nn) _ e22 2 11 rfl
  have k22 : u22 2 3 = u17 2 3 := (ff_X2_addClass nn) _ e22 2 3 rfl
  have s22 : ∀ i : Nat, u22 3 i = u17 3 i ∧ u22 4 i = u17 4 i := fun i => ⟨(ff_X2_addClass nn) _ e22 3 i (nw_ar rfl i), (ff_X2_addClass nn) _ e22 4 i (nw_ar rfl i)⟩
  have T22 := tr_keep k22 s22 T17
  refine pc_se ?_; intro u24 e24
  obtain ⟨m24, V24⟩ := mr_need hn (by omega) V22 e24
  have T24 := tr_keep m24.1 m24.2.1 T22
  have g22 := gF_2_10 V22
  have I24 : IRk z u24 := by
    by_cases w : u24 2 11 = 0
    · have w22 : u22 2 11 = 0 := by have := m24.2.2.2.2; omega
      have w17 : u17 2 11 = 0 := by omega
      obtain ⟨y1, y2, y3, y4⟩ : h 2 11 = 0 ∧ h 3 (h 2 10).toNat = 13 ∧ u17 2 10 = h 2 10 + 1 ∧ u17 2 10 < u17 2 3 := by
        rcases n17 with q | q
        · exact absurd w17 q
        · exact q
      have n24 := rm_need hn (by omega) V22 T22.1 (by omega) e24
      obtain ⟨x1, x2, x3, x4⟩ : u22 2 11 = 0 ∧ u22 3 (u22 2 10).toNat = 2 ∧ u24 2 10 = u22 2 10 + 1 ∧ u24 2 10 < u24 2 3 := by
        rcases n24 with q | q
        · exact absurd w q
        · exact q
      have k17 := m17.1
      have k24 := m24.1
      have c17 := m17.2.2.1
      have c24 := m24.2.2.1
      have b0 : 6 * h 11 2 ≤ h 4 (h 2 10).toNat := by have := I.2; omega
      have b1 := T.2.1 (h 2 10).toNat (by omega)
      rw [y2, wk_13] at b1
      have b2 := T.2.1 ((h 2 10).toNat + 1) (by omega)
      have e2 : u22 3 (u22 2 10).toNat = h 3 ((h 2 10).toNat + 1) := by
        rw [(s22 _).1, (m17.2.1 _).1]
        have : (u22 2 10).toNat = (h 2 10).toNat + 1 := by omega
        rw [this]
      rw [← e2, x2, wk_2] at b2
      have e4 : u24 4 (u24 2 10).toNat = h 4 ((h 2 10).toNat + 1 + 1) := by
        rw [(m24.2.1 _).2, (s22 _).2, (m17.2.1 _).2]
        have : (u24 2 10).toNat = (h 2 10).toNat + 1 + 1 := by omega
        rw [this]
      have b3 := T24.2.2 (u24 2 10).toNat (by omega)
      have w0 := wk_0 (k := u24 3 (u24 2 10).toNat)
      have b4 : 6 * u24 11 2 ≤ u24 4 (u24 2 10).toNat := by rw [e4]; omega
      exact ⟨.inr (by omega), .inr (.inr b4)⟩
    · exact ⟨.inl w, .inl w⟩
  refine pc_se ?_; intro u26 e26
  obtain ⟨m26, V26⟩ := mr_accept hn (by omega) V24 e26
  have g24 := gF_2_10 V24
  have g26 := gF_2_10 V26
  have T26 := tr_keep m26.1 m26.2.1 T24
  have I26 := ir_keep T24 g24.1 m26 I24
  refine pc_if (fun _ => ?_) (fun _ => ?_)
  · refine pc_imp (mr_39 hn V26) (fun r q => ⟨q.2, tr_keep q.1.1 q.1.2.1 T26, ir_keep T26 g26.1 q.1 I26⟩)
  · refine pc_se ?_; intro u28 e28
    obtain ⟨m28, V28⟩ := mr_need hn (by omega) V26 e28
    have g28 := gF_2_10 V28
    have T28 := tr_keep m28.1 m28.2.1 T26
    have I28 := ir_keep T26 g26.1 m28 I26
    exact pc_imp (mr_39 hn V28) (fun r q => ⟨q.2, tr_keep q.1.1 q.1.2.1 T28, ir_keep T28 g28.1 q.1 I28⟩)
theorem rm_33 (hn : 1000000 ≤ nn) {z : Int} {qk : Int → ms_M → Option ms_M} {l1 : Int} (hk : ∀ (v : Int) (g : ms_M), v = l1 + 1 → VS_ g → TRk z g → IRk z g → Pc (qk v g) (IRk z)) (hl : 0 ≤ l1 ∧ l1 ≤ 3000) (V : VS_ h) (T : TRk z h) (L : h 2 10 < h 2 3) (F : h 2 11 = 0) (I : IRk z h) : Pc (qj_X8_readProgram_33 nn qk l1 h) (IRk z) := by
  unfold qj_X8_readProgram_33
  refine pc_sv (rm_class hn V T L F I) ?_; intro u2 q2
  refine pc_add (by omega) ?_; intro v3 e3
  exact hk v3 u2 e3 q2.1 q2.2.1 q2.2.2
theorem rm_prog (hn : 1000000 ≤ nn) {z : Int} : ∀ (k : Nat) (l1 : Int) (h : ms_M), (0 ≤ l1 ∧ l1 ≤ 3000) → (¬ l1 = 0 ∨ h 2 10 < h 2 3) → VS_ h → TRk z h → IRk z h → Pc (qw_X8_readProgram_2 nn k l1 h) (IRk z) := by
  intro k
  induction k with
  | zero => intros; exact pc_none
  | succ k ih =>
    intro l1 h hl h0 V T I
    have g0 := gF_2_10 V
    unfold qw_X8_readProgram_2
    refine pc_if (fun _ => pc_ret I) (fun c1 => ?_)
    refine pc_if (fun _ => pc_ret I) (fun c2 => ?_)
    have F : h 2 11 = 0 := by omega
    have H : ∀ (v : Int) (g : ms_M), v = l1 + 1 → VS_ g → TRk z g → IRk z g → Pc (qw_X8_readProgram_2 nn k v g) (IRk z) := fun v g e Vg Tg Ig => ih v g (by omega) (by omega) Vg Tg Ig
    refine pc_if (fun c3 => rm_33 hn H hl V T (by omega) F I) (fun c3 => ?_)
    refine pc_se ?_; intro u8 e8
    refine pc_if (fun _ => pc_ret I) (fun c4 => ?_)
    have L : h 2 10 < h 2 3 := by
      by_cases w : h 2 3 ≤ h 2 10
      · unfold qf_X9_kind at e8
        rw [if_neg (by omega), if_neg (by omega), if_pos w] at e8
        cases e8; exact absurd rfl c4
      · omega
    exact rm_33 hn H hl V T L F I
/-- compile's memory behind the reader: the word 'class' stays -/
def KCl (h : ms_M) : Prop := h 7 12 = 91 ∧ h 7 13 = 96
theorem k7_eq (K : K7 h) (a : r 2 9 = h 2 9) (b : r 7 12 = h 7 12) (c : r 7 13 = h 7 13) : K7 r := by
  unfold K7; rw [a, b, c]; exact K
theorem k7_addKind {l : Int} (e : qf_X2_addKind nn l h = some r) (K : K7 h) : K7 r :=
  k7_eq K ((ff_X2_addKind nn) _ e 2 9 rfl) ((ff_X2_addKind nn) _ e 7 12 (nw_ar rfl _)) ((ff_X2_addKind nn) _ e 7 13 (nw_ar rfl _))
theorem k7_addByte {l : Int} (e : qf_X2_addKindByte nn l h = some r) (K : K7 h) : K7 r :=
  k7_eq K ((ff_X2_addKindByte nn) _ e 2 9 rfl) ((ff_X2_addKindByte nn) _ e 7 12 (nw_ar rfl _)) ((ff_X2_addKindByte nn) _ e 7 13 (nw_ar rfl _))
theorem k7_up {c k : Nat} {v : Int} (hc : c ≠ 2 ∧ c ≠ 7) (K : K7 h) : K7 (up_M h c k v) :=
  k7_eq K (up_n (by omega)) (up_n (by omega)) (up_n (by omega))
theorem k7_nameKind {l : Int} (K : K7 h) : Pc (qf_X2_nameKind nn l h) (fun u => K7 u.2) := by
  unfold qf_X2_nameKind
  refine pc_xl ?_; intro h1 e1
  refine pc_se ?_; intro u3 e3
  refine pc_sv (k7_nameOf (k7_addKind e3 (by rw [e1]; exact k7_up (by decide) K))) ?_; intro u8 q8
  exact pc_ret q8.1
theorem k7_M13 : ∀ (k : Nat) (l1 l2 : Int) (h : ms_M), K7 h → Pc (qw_X2_nameMethodKind_13 nn k l1 l2 h) (fun u => K7 u.2) := by
  intro k
  induction k with
  | zero => intros; exact pc_none
  | succ k ih =>
    intro l1 l2 h K
    unfold qw_X2_nameMethodKind_13
    refine pc_rA ?_; intro i1 i2 v2 e2
    refine pc_if (fun _ => ?_) (fun _ => ?_)
    · refine pc_se ?_; intro u4 e4
      refine pc_rA ?_; intro j1 j2 v6 e6
      refine pc_se ?_; intro u8 e8
      refine pc_sv (k7_nameOf (k7_addKind e8 (k7_addByte e4 K))) ?_; intro u13 q13
      exact pc_ret q13.1
    · refine pc_se ?_; intro u15 e15
      refine pc_se ?_; intro u17 e17
      refine pc_xl ?_; intro v18 e18
      exact ih _ _ _ (k7_addKind e17 K)
theorem k7_nameMethodKind {l : Int} (K : K7 h) : Pc (qf_X2_nameMethodKind nn l h) (fun u => K7 u.2) := by
  unfold qf_X2_nameMethodKind
  refine pc_xl ?_; intro h1 e1
  refine pc_se ?_; intro u3 e3
  exact k7_M13 _ _ _ _ (k7_addByte e3 (by rw [e1]; exact k7_up (by decide) K))
theorem k7_144 : ∀ (k : Nat) (l1 : Int) (h : ms_M), K7 h → Pc (qw_X2_nameKinds_144 nn k l1 h) K7 := by
  intro k
  induction k with
  | zero => intros; exact pc_none
  | succ k ih =>
    intro l1 h K
    unfold qw_X2_nameKinds_144
    refine pc_if (fun _ => pc_ret K) (fun _ => pc_if (fun _ => pc_ret K) (fun _ => ?_))
    refine pc_se ?_; intro u6 e6
    refine pc_if (fun _ => ?_) (fun _ => ?_)
    · refine pc_xl ?_; intro v7 e7
      exact ih _ _ K
    · refine pc_sv (k7_nameMethodKind K) ?_; intro u10 q10
      refine pc_wA ?_; intro i1 i2 h11 e11
      refine pc_xl ?_; intro v12 e12
      exact ih _ _ (by rw [e11]; exact k7_up (by decide) q10)
theorem k7_85 : ∀ (k : Nat) (l1 : Int) (h : ms_M), K7 h → Pc (qw_X2_nameKinds_85 nn k l1 h) K7 := by
  intro k
  induction k with
  | zero => intros; exact pc_none
  | succ k ih =>
    intro l1 h K
    unfold qw_X2_nameKinds_85
    refine pc_if (fun _ => k7_144 _ _ _ K) (fun _ => pc_if (fun _ => k7_144 _ _ _ K) (fun _ => ?_))
    refine pc_xl ?_; intro v20 e20
    refine pc_xl ?_; intro v22 e22
    refine pc_rA ?_; intro i1 i2 v23 e23
    refine pc_if (fun _ => ?_) (fun _ => ?_)
    · refine pc_xl ?_; intro v24 e24
      exact ih _ _ K
    · refine pc_rA ?_; intro j1 j2 v27 e27
      refine pc_sv (k7_nameKind K) ?_; intro u29 q29
      refine pc_wA ?_; intro l1 l2 h30 e30
      refine pc_xl ?_; intro v31 e31
      exact ih _ _ (by rw [e30]; exact k7_up (by decide) q29)
theorem k7_59 {qk : Int → ms_M → Option ms_M} (hk : ∀ (v : Int) (g : ms_M), K7 g → Pc (qk v g) K7) {l1 s0 s1 : Int} (K : K7 h) : Pc (qj_X2_nameKinds_59 nn qk l1 s0 s1 h) K7 := by
  unfold qj_X2_nameKinds_59
  refine pc_wA ?_; intro i1 i2 h35 e35
  refine pc_xl ?_; intro v37 e37
  refine pc_xl ?_; intro v38 e38
  refine pc_sv (k7_nameKind (h := h35) (by rw [e35]; exact k7_up (by decide) K)) ?_; intro u40 q40
  refine pc_wA ?_; intro j1 j2 h41 e41
  refine pc_xl ?_; intro v42 e42
  exact hk _ _ (by rw [e41]; exact k7_up (by decide) q40)
theorem k7_2 : ∀ (k : Nat) (l1 : Int) (h : ms_M), K7 h → Pc (qw_X2_nameKinds_2 nn k l1 h) K7 := by
  intro k
  induction k with
  | zero => intros; exact pc_none
  | succ k ih =>
    intro l1 h K
    have H : ∀ (v : Int) (g : ms_M), K7 g → Pc (qw_X2_nameKinds_2 nn k v g) K7 := fun v g q => ih v g q
    unfold qw_X2_nameKinds_2
    refine pc_xl ?_; intro v44 e44
    refine pc_if (fun _ => k7_85 _ _ _ K) (fun _ => pc_if (fun _ => k7_85 _ _ _ K) (fun _ => pc_if (fun _ => k7_85 _ _ _ K) (fun _ => pc_if (fun _ => ?_) (fun _ => k7_59 H K))))
    refine pc_xl ?_; intro v49 e49
    refine pc_se ?_; intro u51 e51
    refine pc_se ?_; intro u53 e53
    exact k7_59 H K
end
