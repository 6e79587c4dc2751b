section
variable {nn : Nat} {t : ms_M}
/-- what the last node that was seen is to the row -/
def LK (t : ms_M) (l1 b l2 : Int) (h : ms_M) (p bp : Int) : Prop := (h 160 57 = l2 ∧ p = l1 ∧ bp = b) ∨ (l2 < h 160 57 ∧ p = t 170 (h 199 (h 160 57 - 1).toNat).toNat ∧ bp = h 199 (h 160 57 - 1).toNat)
/-- the row of led nodes -/
def RO (t : ms_M) (d a b B base l1 : Int) (h : ms_M) : Prop := ∀ j : Nat, base ≤ (j : Int) → (j : Int) < h 160 57 → ∃ c, TE 1 t 0 d a c (h 199 j) ∧ (c + (j : Int) ≤ B ∧ c ≤ b) ∧ (((j : Int) = base ∧ h 199 j = l1 ∧ c = b) ∨ (base < (j : Int) ∧ h 199 j = t 170 (h 199 (j - 1)).toNat ∧ c = h 199 (j - 1)))
/-- what stays behind worked's loops: the row goes back to l -/
def KW (l : Int) (h r : ms_M) : Prop := (r 160 50 = h 160 50 ∧ r 160 51 = h 160 51 ∧ r 160 52 = h 160 52 ∧ r 160 53 = h 160 53 ∧ r 160 54 = h 160 54 ∧ r 160 57 = l ∧ (r 160 9 = 0 → h 160 9 = 0)) ∧ ∀ j : Nat, (j : Int) < l → r 199 j = h 199 j
theorem kw_tr {l : Int} {h g r : ms_M} (h1 : g 160 50 = h 160 50 ∧ g 160 51 = h 160 51 ∧ g 160 52 = h 160 52 ∧ g 160 53 = h 160 53 ∧ g 160 54 = h 160 54 ∧ (g 160 9 = 0 → h 160 9 = 0)) (h2 : ∀ j : Nat, (j : Int) < l → g 199 j = h 199 j) (y : KW l g r) : KW l h r := ⟨⟨by rw [y.1.1, h1.1], by rw [y.1.2.1, h1.2.1], by rw [y.1.2.2.1, h1.2.2.1], by rw [y.1.2.2.2.1, h1.2.2.2.1], by rw [y.1.2.2.2.2.1, h1.2.2.2.2.1], y.1.2.2.2.2.2.1, fun w => h1.2.2.2.2.2 (y.1.2.2.2.2.2.2 w)⟩, fun j hj => by rw [y.2 j hj, h2 j hj]⟩
/-- what worked's loops leave -/
def QW (t : ms_M) (a b l1 l2 : Int) (h : ms_M) (u : Int × ms_M) : Prop := YI t u.2 ∧ MI t u.2 ∧ KW l2 h u.2 ∧ (-1 ≤ u.1 ∧ u.1 ≤ 900 ∧ u.1 < 24 + 2 * t 160 24 ∧ (u.2 160 9 = 0 → 0 ≤ u.1)) ∧ FG a b h u.2 ∧ (u.2 160 9 = 0 → YT u.2 0 a b l1 ∧ u.2 174 l1.toNat = u.1)
theorem qw_tr {a b l1 l2 c d : Int} {h g : ms_M} {u : Int × ms_M} (h1 : g 160 50 = h 160 50 ∧ g 160 51 = h 160 51 ∧ g 160 52 = h 160 52 ∧ g 160 53 = h 160 53 ∧ g 160 54 = h 160 54 ∧ (g 160 9 = 0 → h 160 9 = 0)) (h2 : ∀ j : Nat, (j : Int) < l2 → g 199 j = h 199 j) (f : FG c d h g) (w : d ≤ c ∨ (a ≤ c ∧ d ≤ b)) (y : QW t a b l1 l2 g u) : QW t a b l1 l2 h u := ⟨y.1, y.2.1, kw_tr h1 h2 y.2.2.1, y.2.2.2.1, fg_tr f y.2.2.2.2.1 (by omega), y.2.2.2.2.2⟩
theorem vz_w65 {g : Int} {rc : tq_X13_condition} (G : GR nn t g rc) {d a b B : Int} (hd : d ≤ g) (hB : B ≤ 9000) (hb : b ≤ t 160 22) {l1 l2 : Int} (r1 : 0 ≤ l1 ∧ l1 < t 160 22) (r2 : 0 ≤ l2) : ∀ (k : Nat) (p bp : Int) (h : ms_M), YI t h → MI t h → RO t d a b B l2 l1 h → LK t l1 b l2 h p bp → (h 160 9 = 0 → YT h 0 a bp p) → l2 ≤ h 160 57 → h 160 57 - l2 < (k : Int) → Ok_ (qw_X13_worked_65 nn rc k l1 l2 h) (QW t a b l1 l2 h) := by
  intro k
  induction k with
  | zero => intro p bp h Y N R L T r3 hm; exfalso; omega
  | succ k ih =>
    intro p bp h Y N R L T r3 hm
    have g57 := gF_160_57 Y.1
    have g22 := gF_160_22 Y.1
    have q22 : h 160 22 = t 160 22 := Y.2.1 160 22 rfl
    have g24 := gF_160_24 Y.1
    have q24 : h 160 24 = t 160 24 := Y.2.1 160 24 rfl
    unfold qw_X13_worked_65
    refine ok_if (fun C => ?_) (fun C => ?_)
    · refine ok_xl ?_; intro h2 E2
      obtain ⟨Y2, ⟨k1, k2, k3, k4, k5, k6, k7⟩, j2⟩ := yi_57 Y (by omega) E2
      have N2 := mi_fd N E2 (by decide)
      have W : KW l2 h h2 := ⟨⟨k1, k2, k3, k4, k5, k6, fun w => by omega⟩, fun j _ => j2 j⟩
      have f2 : FG a b h h2 := fg_tr (fg_rf (a := 0) (b := 0)) (fg_fd E2) (by omega)
      refine ok_if (fun C2 => ?_) (fun C2 => ok_ret ⟨Y2, N2, W, ⟨by show (-1 : Int) ≤ 0; omega, by show (0 : Int) ≤ 900; omega, by show (0 : Int) < _; omega, fun _ => Int.le_refl 0⟩, f2, fun y => absurd y C2⟩)
      refine ok_rd (by omega) (gA_174 Y2.1) ?_; intro v5 e5 a5 b5
      have l5 : v5 < 24 + 2 * t 160 24 := by rw [e5]; exact Y2.2.2.1 _ (by omega)
      refine ok_ret ⟨Y2, N2, W, ⟨a5, b5, l5, fun y => by show 0 ≤ v5; rw [e5]; exact (N2 y _ (by omega)).1⟩, f2, fun y => ⟨?_, e5.symm⟩⟩
      rcases L with ⟨_, L1, L2⟩ | ⟨L0, _⟩
      · have q := T (by omega)
        rw [L1, L2] at q
        exact yt_fg (bf_tc Y.2.1) (bf_tc Y2.2.1) (fg_fd E2) (by omega) q
      · exfalso; omega
    · refine ok_sub (by omega) ?_; intro v8 e8
      refine ok_xl ?_; intro h9 E9
      obtain ⟨Y9, ⟨k1, k2, k3, k4, k5, k6, k7⟩, j9⟩ := yi_57 Y (by omega) E9
      have N9 := mi_fd N E9 (by decide)
      refine ok_rd (by omega) (gA_199 Y9.1) ?_; intro v12 e12 a12 b12
      rw [k6, j9] at e12
      obtain ⟨c, Tc, ⟨w1, w2⟩, w3⟩ := R v8.toNat (by omega) (by omega)
      rw [← e12] at Tc
      have o := te_rg Tc
      have Lp : p = t 170 v12.toNat ∧ bp = v12 := by
        rcases L with ⟨L0, _⟩ | ⟨_, L1, L2⟩
        · exfalso; omega
        · rw [show h 160 57 - 1 = v8 by omega, ← e12] at L1 L2
          exact ⟨L1, L2⟩
      have R9 : RO t d a b B l2 l1 h9 := fun j x y => by
        obtain ⟨b, T, z1, z2⟩ := R j x (by omega)
        exact ⟨b, by rw [j9]; exact T, z1, by rw [j9, j9]; exact z2⟩
      have H9 : HR nn t h9 a v12 := fun y => by
        have q := T (by omega)
        rw [Lp.1, Lp.2] at q
        have q2 := yt_fg (bf_tc Y.2.1) (bf_tc Y9.2.1) (fg_fd E9) (by omega) q
        exact ⟨fun _ => q2, fun _ => .inr q2⟩
      have L2 : ∀ z : ms_M, z 160 57 = v8 → (∀ j : Nat, (j : Int) < v8 → z 199 j = h 199 j) → LK t l1 b l2 z v12 c := fun z z1 z2 => by
        rcases w3 with ⟨x1, x2, x3⟩ | ⟨x1, x2, x3⟩
        · refine .inl ⟨by omega, by rw [e12]; exact x2, x3⟩
        · refine .inr ⟨by omega, ?_, ?_⟩
          · rw [z1, z2 _ (by omega), e12, x2, show v8.toNat - 1 = (v8 - 1).toNat by omega]
          · rw [z1, z2 _ (by omega), x3, show v8.toNat - 1 = (v8 - 1).toNat by omega]
      refine ok_if (fun C9 => ?_) (fun C9 => ?_)
      · refine ok_sv (G.2.2.2.1 v12 _ _ _ h9 Y9 N9 Tc (by omega) hd (by omega) H9) ?_; intro u16 P
        obtain ⟨⟨Y16, N16, K16, ⟨p1, p2, p3, p4⟩, f16⟩, z16⟩ := P
        obtain ⟨m1, m2, m3, m4, m5, m6, m7⟩ := K16.1
        refine ok_wA (by omega) ?_; intro h17 E17
        obtain ⟨Y17, K17⟩ := yi_174 Y16 (by omega) (by omega) E17
        have N17 := mi_174 N16 E17 p4
        obtain ⟨n1, n2, n3, n4, n5, n6, n7⟩ := K17.1
        have R17 : RO t d a b B l2 l1 h17 := fun j x y => by
          obtain ⟨b, T, z1, z2⟩ := R9 j x (by omega)
          refine ⟨b, by rw [K17.2 j (by omega), K16.2 j (by omega)]; exact T, z1, ?_⟩
          rw [K17.2 j (by omega), K16.2 j (by omega)]
          rcases z2 with z2 | z2
          · exact .inl z2
          · rw [K17.2 (j - 1) (by omega), K16.2 (j - 1) (by omega)]; exact .inr z2
        have T17 : h17 160 9 = 0 → YT h17 0 a c v12 := fun y => yt_i0 (yr_up (z16 (n7 y)) E17)
        have r17 : ∀ j : Nat, (j : Int) < v8 → h17 199 j = h 199 j := fun j hj => by rw [K17.2 j (by omega), K16.2 j (by omega), j9]
        refine ok_im (ih v12 c h17 Y17 N17 R17 (L2 h17 (by omega) r17) T17 (by omega) (by omega)) (fun u P => qw_tr (c := a) (d := c) ⟨by omega, by omega, by omega, by omega, by omega, fun w => ?_⟩ (fun j hj => r17 j (by omega)) ?_ (by omega) P)
        · have := m7 (n7 w); omega
        · exact fg_tr (fg_fd E9) (fg_tr (a := a) (b := c) f16 (fg_up (j := v12) E17 (by omega)) (by omega)) (by omega)
      · refine ok_wA (by omega) ?_; intro h18 E18
        obtain ⟨Y17, K17⟩ := yi_174 Y9 (by omega) (by omega) E18
        have N17 := mi_174 N9 E18 (by omega)
        obtain ⟨n1, n2, n3, n4, n5, n6, n7⟩ := K17.1
        have R17 : RO t d a b B l2 l1 h18 := fun j x y => by
          obtain ⟨b, T, z1, z2⟩ := R9 j x (by omega)
          refine ⟨b, by rw [K17.2 j (by omega)]; exact T, z1, ?_⟩
          rw [K17.2 j (by omega)]
          rcases z2 with z2 | z2
          · exact .inl z2
          · rw [K17.2 (j - 1) (by omega)]; exact .inr z2
        have r17 : ∀ j : Nat, (j : Int) < v8 → h18 199 j = h 199 j := fun j hj => by rw [K17.2 j (by omega), j9]
        refine ok_im (ih v12 c h18 Y17 N17 R17 (L2 h18 (by omega) r17) (fun y => absurd (n7 y) C9) (by omega) (by omega)) (fun u P => qw_tr (c := a) (d := c) ⟨by omega, by omega, by omega, by omega, by omega, fun w => ?_⟩ (fun j hj => r17 j (by omega)) ?_ (by omega) P)
        · have := n7 w; omega
        · exact fg_tr (fg_fd E9) (fg_up (j := v12) E18 (by omega)) (by omega)
theorem pc_isLed {e : Int} {h : ms_M} : Pc (qf_X13_isLed nn e h) (fun u => u = 0 → ¬ (h 167 e.toNat = 30 ∨ h 167 e.toNat = 32 ∨ h 167 e.toNat = 37 ∨ h 167 e.toNat = 38) ∧ (h 167 e.toNat = 31 → ∃ w, qf_X13_isByClass nn e h = some w ∧ ¬ w = 0)) := by
  unfold qf_X13_isLed
  refine pc_rA ?_; intro _ _ v2 e2
  refine pc_if (fun C => pc_ret (fun z => absurd z (by decide))) (fun C1 => ?_)
  refine pc_if (fun C => pc_ret (fun z => absurd z (by decide))) (fun C2 => ?_)
  refine pc_if (fun C => pc_ret (fun z => absurd z (by decide))) (fun C3 => ?_)
  refine pc_if (fun C => pc_ret (fun z => absurd z (by decide))) (fun C4 => ?_)
  refine pc_if (fun C => pc_ret (fun _ => ⟨by omega, fun k => by exfalso; omega⟩)) (fun C5 => ?_)
  refine pc_se ?_; intro u4 e4
  exact pc_if (fun C => pc_ret (fun _ => ⟨by omega, fun _ => ⟨u4, e4, C⟩⟩)) (fun C => pc_ret (fun z => absurd z (by decide)))
theorem vz_w16 (hn : 1000000 ≤ nn) (S : SF t) {g : Int} {rc : tq_X13_condition} (G : GR nn t g rc) {d a b B : Int} (hd : d ≤ g) (hB : B ≤ 9000) (hb : b ≤ t 160 22) {l1 l2 : Int} (r1 : 0 ≤ l1 ∧ l1 < t 160 22) (r2 : 0 ≤ l2) : ∀ (k : Nat) (l3 c : Int) (h : ms_M), YI t h → MI t h → RO t d a b B l2 l1 h → TE 1 t 0 d a c l3 → c ≤ b → c + h 160 57 ≤ B → LK t l1 b l2 h l3 c → l2 ≤ h 160 57 → l3 < (k : Int) → Ok_ (qw_X13_worked_16 nn rc k l1 l2 l3 h) (QW t a b l1 l2 h) := by
  intro k
  induction k with
  | zero => intro l3 c h Y N R T hc w1 L w2 hm; have := te_rg T; exfalso; omega
  | succ k ih =>
    intro l3 c h Y N R T hc w1 L w2 hm
    have o := te_rg T
    have g57 := gF_160_57 Y.1
    have g22 := gF_160_22 Y.1
    have q22 : h 160 22 = t 160 22 := Y.2.1 160 22 rfl
    unfold qw_X13_worked_16
    refine ok_sv (ok_pc (vy_isLed hn S Y T (by omega)) pc_isLed) ?_; intro u22 P
    obtain ⟨P22, P23⟩ := P
    refine ok_if (fun C => ?_) (fun C => ?_)
    · have H : HR nn t h a l3 := fun y => by
        have q := P23 C
        rw [(bf_tc Y.2.1) 167 l3.toNat (by decide)] at q
        exact ⟨fun k => absurd k q.1, fun k => .inl (q.2 k)⟩
      refine ok_sv (G.2.2.2.1 l3 _ _ _ h Y N T (by omega) hd (by omega) H) ?_; intro u25 P
      obtain ⟨⟨Y16, N16, K16, ⟨p1, p2, p3, p4⟩, f16⟩, z16⟩ := P
      obtain ⟨m1, m2, m3, m4, m5, m6, m7⟩ := K16.1
      refine ok_wA (by omega) ?_; intro h26 E26
      obtain ⟨Y17, K17⟩ := yi_174 Y16 (by omega) (by omega) E26
      have N17 := mi_174 N16 E26 p4
      obtain ⟨n1, n2, n3, n4, n5, n6, n7⟩ := K17.1
      have r17 : ∀ j : Nat, (j : Int) < h 160 57 → h26 199 j = h 199 j := fun j hj => by rw [K17.2 j (by omega), K16.2 j (by omega)]
      have R17 : RO t d a b B l2 l1 h26 := fun j x y => by
        obtain ⟨b, T, z1, z2⟩ := R j x (by omega)
        refine ⟨b, by rw [r17 j (by omega)]; exact T, z1, ?_⟩
        rw [r17 j (by omega)]
        rcases z2 with z2 | z2
        · exact .inl z2
        · rw [r17 (j - 1) (by omega)]; exact .inr z2
      have L17 : LK t l1 b l2 h26 l3 c := by
        rcases L with ⟨x1, x2, x3⟩ | ⟨x1, x2, x3⟩
        · exact .inl ⟨by omega, x2, x3⟩
        · refine .inr ⟨by omega, ?_, ?_⟩
          · rw [n6, m6, r17 _ (by omega)]; exact x2
          · rw [n6, m6, r17 _ (by omega)]; exact x3
      refine ok_im (vz_w65 G hd hB hb r1 r2 nn l3 c h26 Y17 N17 R17 L17 (fun y => yt_i0 (yr_up (z16 (n7 y)) E26)) (by omega) (by omega)) (fun u P => qw_tr (c := a) (d := c) ⟨by omega, by omega, by omega, by omega, by omega, fun w => m7 (n7 w)⟩ (fun j hj => r17 j (by omega)) ?_ (by omega) P)
      exact fg_tr f16 (fg_up (j := l3) E26 (by omega)) (by omega)
    · clear P23
      have T1 := te_led T (by omega)
      have o1 := te_rg T1
      refine ok_wA (by omega) ?_; intro h29 E29
      obtain ⟨Y29, k1, k2, k3, k4, k5, k6, k7⟩ := yi_199 Y (by omega) E29
      refine ok_add (by omega) ?_; intro v31 e31
      refine ok_xl ?_; intro h32 E32
      obtain ⟨Y32, ⟨m1, m2, m3, m4, m5, m6, m7⟩, j32⟩ := yi_57 Y29 (by omega) E32
      refine ok_rd (by omega) (gA_170 Y32.1) ?_; intro v34 e34 a34 b34
      have t34 : v34 = t 170 l3.toNat := by rw [e34]; exact Y32.2.1 170 _ (nw_ar rfl _)
      rw [← t34] at T1 o1
      have N32 := mi_fd (mi_up N E29 (by decide)) E32 (by decide)
      have r32 : ∀ j : Nat, (j : Int) < h 160 57 → h32 199 j = h 199 j := fun j hj => by rw [j32, E29, up_n (by omega)]
      have s32 : h32 199 (h 160 57).toNat = l3 := by rw [j32, E29, up_s]
      have R32 : RO t d a b B l2 l1 h32 := fun j x y => by
        by_cases q : (j : Int) = h 160 57
        · have q2 : j = (h 160 57).toNat := by omega
          rw [q2, s32]
          refine ⟨c, T, ⟨by omega, hc⟩, ?_⟩
          rcases L with ⟨x1, x2, x3⟩ | ⟨x1, x2, x3⟩
          · exact .inl ⟨by omega, x2, x3⟩
          · refine .inr ⟨by omega, ?_, ?_⟩
            · rw [r32 _ (by omega), show (h 160 57).toNat - 1 = (h 160 57 - 1).toNat by omega]; exact x2
            · rw [r32 _ (by omega), show (h 160 57).toNat - 1 = (h 160 57 - 1).toNat by omega]; exact x3
        · obtain ⟨b, T, z1, z2⟩ := R j x (by omega)
          refine ⟨b, by rw [r32 j (by omega)]; exact T, z1, ?_⟩
          rw [r32 j (by omega)]
          rcases z2 with z2 | z2
          · exact .inl z2
          · rw [r32 (j - 1) (by omega)]; exact .inr z2
      have L32 : LK t l1 b l2 h32 v34 l3 := .inr ⟨by omega, by rw [m6, show v31 - 1 = h 160 57 by omega, s32]; exact t34, by rw [m6, show v31 - 1 = h 160 57 by omega, s32]⟩
      refine ok_im (ih v34 l3 h32 Y32 N32 R32 T1 (by omega) (by omega) L32 (by omega) (by omega)) (fun u P => qw_tr (c := 0) (d := 0) ⟨by omega, by omega, by omega, by omega, by omega, fun w => by omega⟩ (fun j hj => r32 j (by omega)) ?_ (by omega) P)
      intro x _
      rw [E32, up_n (by omega), up_n (by omega), up_n (by omega), E29, up_n (by omega), up_n (by omega), up_n (by omega)]
      exact ⟨rfl, rfl, rfl⟩
theorem vz_worked (hn : 1000000 ≤ nn) {h : ms_M} (S : SF t) (Y0 : YI t h) (N0 : MI t h) {g : Int} {rc : tq_X13_condition} (G : GR nn t g rc) {a1 d a b : Int} (T : TE 1 t 0 d a b a1) (hb : b ≤ t 160 22) (hg : d + 1 ≤ g + 1) (h57 : h 160 57 + b ≤ 9000) : Ok_ (qo_X13_worked nn rc a1 h) (fun u => QY t h a b u ∧ (u.2 160 9 = 0 → YT u.2 0 a b a1 ∧ u.2 174 a1.toNat = u.1)) := by
  have o := te_rg T
  have g57 := gF_160_57 Y0.1
  have g24 := gF_160_24 Y0.1
  have g22 := gF_160_22 Y0.1
  have q22 : h 160 22 = t 160 22 := Y0.2.1 160 22 rfl
  have q24 : h 160 24 = t 160 24 := Y0.2.1 160 24 rfl
  unfold qo_X13_worked
  refine ok_if (fun C => ?_) (fun C => ok_ret ⟨⟨Y0, N0, ke_rf, ⟨by show (-1 : Int) ≤ 0; omega, by show (0 : Int) ≤ 900; omega, by show (0 : Int) < _; omega, fun _ => Int.le_refl 0⟩, fg_rf⟩, fun y => absurd y C⟩)
  exact ok_im (vz_w16 (B := h 160 57 + b) hn S G (by omega) h57 hb (by omega) (by omega) nn a1 b h Y0 N0 (fun j x y => by exfalso; omega) T (by omega) (by omega) (.inl ⟨rfl, rfl, rfl⟩) (by omega) (by omega)) (fun u P => ⟨⟨P.1, P.2.1, ⟨P.2.2.1.1, fun j hj => P.2.2.1.2 j hj⟩, P.2.2.2.1, P.2.2.2.2.1⟩, P.2.2.2.2.2⟩)
/-- the end of called -/
def QC (t h0 : ms_M) (a b l : Int) (h : ms_M) (u : Int × ms_M) : Prop := YI t u.2 ∧ MI t u.2 ∧ Ke h0 u.2 ∧ (-1 ≤ u.1 ∧ u.1 ≤ 900 ∧ u.1 < 24 + 2 * t 160 24 ∧ (u.2 160 9 = 0 → 0 ≤ u.1)) ∧ FG a b h u.2 ∧ (u.2 160 9 = 0 → h 160 9 = 0) ∧ (u.2 160 9 = 0 → YT u.2 1 a b l)
theorem vz_c138 {h0 h h1 : ms_M} {a b l : Int} (S : SF t) (Y : YI t h) (N : MI t h) (K : Ke h0 h) {l2 : Int} (r : 0 ≤ l2 ∧ l2 < t 160 28) {rc : tq_X13_condition} (f : FG a b h1 h) (d : h 160 9 = 0 → h1 160 9 = 0) (e : h 160 9 = 0 → l = -1) : Ok_ (qj_X13_called_138 nn rc l2 h) (QC t h0 a b l h1) := by
  have g28 := gF_160_28 Y.1
  have q28 : h 160 28 = t 160 28 := Y.2.1 160 28 rfl
  unfold qj_X13_called_138
  refine ok_rd (by omega) (gA_187 Y.1) ?_; intro v2 e2 a2 b2
  have t2 : v2 = t 187 l2.toNat := by rw [e2]; exact Y.2.1 187 _ (nw_ar rfl _)
  have l : v2 < 24 + 2 * t 160 24 := by rw [t2]; exact (S.2.2.1 _ (by omega)).1
  exact ok_ret ⟨Y, N, K, ⟨by show -1 ≤ v2; omega, b2, l, fun _ => a2⟩, f, d, fun y => yt_i1 (.inl (e y))⟩
theorem vz_c126 (hn : 1000000 ≤ nn) {h0 h : ms_M} {a b l : Int} (S : SF t) (Y : YI t h) (N : MI t h) (K : Ke h0 h) {l1 l2 : Int} (r1 : 0 ≤ l1 ∧ l1 < t 160 22) (r : 0 ≤ l2 ∧ l2 < t 160 28) {rc : tq_X13_condition} : Ok_ (qj_X13_called_126 nn rc l1 l2 h) (QC t h0 a b l h) := by
  have g22 := gF_160_22 Y.1
  have q22 : h 160 22 = t 160 22 := Y.2.1 160 22 rfl
  unfold qj_X13_called_126
  refine ok_rd (by omega) (gA_168 Y.1) ?_; intro v4 e4 a4 b4
  refine ok_sv (vy_wrong hn Y (by omega) (by omega)) ?_; intro u6 P
  exact vz_c138 S P.1 (mi_dead P.2.2.1) (ke_tr K P.2.1) r (fg_tr (fg_rf (a := 0) (b := 0)) P.2.2.2 (by omega)) (fun y => absurd y P.2.2.1) (fun y => absurd y P.2.2.1)
theorem vz_c110 (hn : 1000000 ≤ nn) {h0 h : ms_M} {a b l : Int} (S : SF t) (Y : YI t h) (N : MI t h) (K : Ke h0 h) {l1 l2 l4 l5 : Int} (r1 : 0 ≤ l1 ∧ l1 < t 160 22) (r : 0 ≤ l2 ∧ l2 < t 160 28) {rc : tq_X13_condition} (e : h 160 9 = 0 → l = -1) : Ok_ (qj_X13_called_110 nn rc l1 l2 l4 l5 h) (QC t h0 a b l h) := by
  have g28 := gF_160_28 Y.1
  have q28 : h 160 28 = t 160 28 := Y.2.1 160 28 rfl
  unfold qj_X13_called_110
  refine ok_if (fun _ => vz_c126 hn S Y N K r1 r) (fun _ => ?_)
  refine ok_rd (by omega) (gA_189 Y.1) ?_; intro v8 e8 a8 b8
  exact ok_if (fun _ => vz_c138 S Y N K r fg_rf id e) (fun _ => vz_c126 hn S Y N K r1 r)
theorem vz_c23 (hn : 1000000 ≤ nn) {h0 : ms_M} (S : SF t) {g : Int} {rc : tq_X13_condition} (G : GR nn t g rc) {d b : Int} (hd : d + 2 ≤ g) (hb : b ≤ t 160 22) {l1 l2 : Int} (r1 : 0 ≤ l1 ∧ l1 < t 160 22) (r2 : 0 ≤ l2 ∧ l2 < t 160 28) (h57 : h0 160 57 + b ≤ 9000) : ∀ (k : Nat) (a l4 l5 l6 : Int) (h : ms_M), YI t h → MI t h → Ke h0 h → TE 1 t 1 d a b l6 → (l4 = 0 ∨ l4 = 1) → (0 ≤ l5 ∧ l5 ≤ a) → a ≤ 9000 → 9001 - a < (k : Int) → Ok_ (qw_X13_called_23 nn rc k l1 l2 l4 l5 l6 h) (QC t h0 a b l6 h) := by
  intro k
  induction k with
  | zero => intro a l4 l5 l6 h Y N K T r4 r5 ra hm; exfalso; omega
  | succ k ih =>
    intro a l4 l5 l6 h Y N K T r4 r5 ra hm
    have g22 := gF_160_22 Y.1
    have q22 : h 160 22 = t 160 22 := Y.2.1 160 22 rfl
    have g28 := gF_160_28 Y.1
    have q28 : h 160 28 = t 160 28 := Y.2.1 160 28 rfl
    have k57 := K.1.2.2.2.2.2.1
    unfold qw_X13_called_23
    refine ok_if (fun C => vz_c110 hn S Y N K r1 r2 (fun _ => C)) (fun C => ?_)
    refine ok_if (fun C2 => vz_c110 hn S Y N K r1 r2 (fun y => absurd y C2)) (fun C2 => ?_)
    rcases te_o1 T with z | ⟨q, T1, T2⟩
    · exact absurd z C
    have o1 := te_rg T1
    refine ok_rd (by omega) (gA_170 Y.1) ?_; intro v16 e16 a16 b16
    have t16 : v16 = t 170 l6.toNat := by rw [e16]; exact Y.2.1 170 _ (nw_ar rfl _)
    rw [← t16] at T1
    refine ok_sv (G.2.1 v16 _ _ _ h Y N T1 (by omega) hd (by omega)) ?_; intro u18 P
    obtain ⟨⟨Y18, N18, K18, ⟨p1, p2, p3, p4⟩, f18⟩, z18⟩ := P
    have Kn := ke_tr K K18
    have k7 := K18.1.2.2.2.2.2.2
    have J : ∀ s : Int, (s = 0 ∨ s = 1) → Ok_ (qj_X13_called_93 nn rc (qw_X13_called_23 nn rc k) l1 l2 l5 l6 s u18.2) (QC t h0 a b l6 h) := by
      intro s hs
      unfold qj_X13_called_93
      refine ok_add (by omega) ?_; intro v11 e11
      refine ok_rd (by omega) (gA_173 Y18.1) ?_; intro v13 e13 a13 b13
      have t13 : v13 = t 173 l6.toNat := by rw [e13]; exact Y18.2.1 173 _ (nw_ar rfl _)
      rw [← t13] at T2
      refine ok_im (ih (l6 + 1) s v11 v13 u18.2 Y18 N18 Kn T2 hs (by omega) (by omega) (by omega)) (fun u P => ?_)
      obtain ⟨x1, x2, x3, x4, x5, x6, x7⟩ := P
      refine ⟨x1, x2, x3, x4, fg_tr f18 x5 (by omega), fun y => k7 (x6 y), fun y => ?_⟩
      have B := bf_tc x1.2.1
      refine yt_i1 (.inr ⟨⟨by omega, by omega, by omega⟩, ?_, ?_⟩)
      · rw [B 170 _ (by decide), ← t16]
        exact ov_fg (bf_tc Y18.2.1) B x5 (by omega) (by omega) (z18 (x6 y))
      · rw [B 173 _ (by decide), ← t13]
        exact x7 y
    have J0 : Ok_ (qj_X13_called_92 nn rc (qw_X13_called_23 nn rc k) l1 l2 l5 l6 u18.2) (QC t h0 a b l6 h) := by
      unfold qj_X13_called_92
      exact J 0 (.inl rfl)
    refine ok_if (fun _ => J0) (fun _ => ?_)
    refine ok_rd (by omega) (gA_189 Y18.1) ?_; intro v20 e20 a20 b20
    have t20 : v20 = t 189 l2.toNat := by rw [e20]; exact Y18.2.1 189 _ (nw_ar rfl _)
    refine ok_if (fun _ => J0) (fun C20 => ?_)
    refine ok_rd (by omega) (gA_188 Y18.1) ?_; intro v23 e23 a23 b23
    have t23 : v23 = t 188 l2.toNat := by rw [e23]; exact Y18.2.1 188 _ (nw_ar rfl _)
    refine ok_add (by omega) ?_; intro v24 e24
    have w := S.1.2 l2.toNat (by omega)
    refine ok_rd (by omega) (gA_195 Y18.1) ?_; intro v25 e25 a25 b25
    have t25 : v25 = t 195 v24.toNat := by rw [e25]; exact Y18.2.1 195 _ (nw_ar rfl _)
    have l25 : v25 < 24 + 2 * t 160 24 := by
      rw [t25, show v24.toNat = (t 188 l2.toNat).toNat + l5.toNat by omega]
      exact (S.2.2.1 l2.toNat (by omega)).2 l5.toNat (by omega)
    refine ok_sv (vy_fits hn Y18 S (by omega) (by omega)) ?_; intro u27 P27
    exact ok_if (fun _ => J0) (fun _ => J 1 (.inr rfl))
theorem vz_called (hn : 1000000 ≤ nn) {h : ms_M} (S : SF t) (Y0 : YI t h) (N0 : MI t h) {g : Int} {rc : tq_X13_condition} (G : GR nn t g rc) {a1 a2 a3 d a b : Int} (T : TE 1 t 1 d a b (t 171 a1.toNat)) (hb : b ≤ t 160 22) (hg : d + 3 ≤ g + 1) (h57 : h 160 57 + b ≤ 9000) (r1 : 0 ≤ a1 ∧ a1 < t 160 22) (r2 : ¬ h 160 9 = 0 ∨ (0 ≤ a2 ∧ a2 < t 160 28)) (r3 : a3 = 0 ∨ a3 = 1) (ha : 0 ≤ a ∧ a ≤ 9000) : Ok_ (qo_X13_called nn rc a1 a2 a3 h) (fun u => QY t h a b u ∧ (u.2 160 9 = 0 → YT u.2 1 a b (t 171 a1.toNat))) := by
  have g24 := gF_160_24 Y0.1
  have q24 : h 160 24 = t 160 24 := Y0.2.1 160 24 rfl
  have g22 := gF_160_22 Y0.1
  have q22 : h 160 22 = t 160 22 := Y0.2.1 160 22 rfl
  unfold qo_X13_called
  refine ok_if (fun C => ?_) (fun C => ok_ret ⟨⟨Y0, N0, ke_rf, ⟨by show (-1 : Int) ≤ 0; omega, by show (0 : Int) ≤ 900; omega, by show (0 : Int) < _; omega, fun _ => Int.le_refl 0⟩, fg_rf⟩, fun y => absurd y C⟩)
  refine ok_rd (by omega) (gA_171 Y0.1) ?_; intro v35 e35 a35 b35
  have t35 : v35 = t 171 a1.toNat := by rw [e35]; exact Y0.2.1 171 _ (nw_ar rfl _)
  rw [← t35] at T ⊢
  exact ok_im (vz_c23 hn S G (by omega) hb r1 (by omega) h57 nn a a3 0 v35 h Y0 N0 ke_rf T r3 (by omega) (by omega) (by omega)) (fun u P => ⟨⟨P.1, P.2.1, P.2.2.1, P.2.2.2.1, P.2.2.2.2.1⟩, P.2.2.2.2.2.2⟩)
end
theorem gr_all {nn : Nat} (hn : 1000000 ≤ nn) {t : ms_M} (S : SF t) : ∀ n : Nat, GR nn t (n : Int) (qg_X13_condition nn n) := by
  intro n
  induction n with
  | zero =>
    refine ⟨fun e d a b h _ _ T => ?_, fun e d a b h _ _ T => ?_, fun e d a b h _ _ T => ?_, fun e d a b h _ _ T => ?_, fun e d a b h _ _ T => ?_, fun e d a b h _ _ T => ?_, fun e m f d a b h _ _ _ _ _ _ z => ?_⟩
    · have := te_rg T; intros; exfalso; omega
    · have := te_rg T; intros; exfalso; omega
    · have := te_rg T; intros; exfalso; omega
    · have := te_rg T; intros; exfalso; omega
    · intro _ _ _ k; have := te_rg (te_k37 T (.inr k)).2; exfalso; omega
    · intro _ _ _ k; have := (te_k31 T k).1; exfalso; omega
    · exfalso; omega
  | succ n G =>
    have z : ((n + 1 : Nat) : Int) = (n : Int) + 1 := by omega
    rw [z]
    exact ⟨fun e d a b h Y N T hb hg h57 => vz_condition hn S Y N G T hb hg h57, fun e d a b h Y N T hb hg h57 => vz_given hn S Y N G T hb hg h57, fun e d a b h Y N T hb hg h57 => vz_worked hn S Y N G T hb hg h57, fun e d a b h Y N T hb hg h57 r => vz_rule hn S Y N G T hb hg h57 r, fun e d a b h Y N T hb hg h57 k r => vz_both hn S Y N G T hb hg h57 k r, fun e d a b h Y N T hb hg h57 k r => vz_invoked hn S Y N G T hb hg h57 k r, fun e m f d a b h Y N T hb hg h57 _ r1 r2 r3 ra => vz_called hn S Y N G T hb hg h57 r1 r2 r3 ra⟩
