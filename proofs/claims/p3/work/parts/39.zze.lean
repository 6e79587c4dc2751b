section
variable {nn : Nat} {t h : ms_M}
theorem pc_sub {α : Type} {Q : α → Prop} {x y : Int} {F : Int → Option α} (r : (-2147483648 ≤ x ∧ x ≤ 2147483647) ∧ (-2147483648 ≤ y ∧ y ≤ 2147483647) ∧ (-2147483648 ≤ x - y ∧ x - y ≤ 2147483647)) (h : ∀ v, v = x - y → Pc (F v) Q) : Pc (xl (oq_sub x y) F) Q := h _ (oq_sub_eq r.1 r.2.1 r.2.2)
theorem pc_sight7 {l1 : Int} : ∀ (k : Nat) (l2 : Int), Pc (qw_X13_sightOf_7 nn k l1 l2 h) (fun u => u = -1 ∨ u ≤ l2) := by
  intro k
  induction k with
  | zero => intros; exact pc_none
  | succ k ih =>
    intro l2
    unfold qw_X13_sightOf_7
    refine pc_if (fun _ => pc_ret (.inl rfl)) (fun C => ?_)
    refine pc_rA ?_; intro b0 b1 v2 _
    refine pc_se ?_; intro u4 _
    refine pc_if (fun _ => ?_) (fun _ => pc_ret (.inr (Int.le_refl _)))
    refine pc_add (by omega) ?_; intro v5 e5
    exact pc_imp (ih v5) (fun u p => by omega)
theorem pc_sightOf {a : Int} (V : VS_ h) : Pc (qf_X13_sightOf nn a h) (fun u => u = -1 ∨ u < h 160 50) := by
  have g := gF_160_50 V
  unfold qf_X13_sightOf
  refine pc_sub (by omega) ?_; intro v9 e9
  exact pc_imp (pc_sight7 nn v9) (fun u p => by omega)
theorem pc_mo12 {qk : Int → Int → Int → ms_M → Option Int} (hk : ∀ a b c, Pc (qk a b c h) (fun u => u = -1 ∨ u < h 160 28)) : ∀ (k : Nat) (l2 l3 l4 l5 : Int), Pc (qw_X13_memberOf_12 nn qk k l2 l3 l4 l5 h) (fun u => u = -1 ∨ u < h 160 28) := by
  intro k
  induction k with
  | zero => intros; exact pc_none
  | succ k ih =>
    intro l2 l3 l4 l5
    have J : ∀ s, l5 < h 160 28 → Pc (qj_X13_memberOf_51 nn qk (qw_X13_memberOf_12 nn qk k) l2 l3 l4 l5 s h) (fun u => u = -1 ∨ u < h 160 28) := by
      intro s hl
      unfold qj_X13_memberOf_51
      refine pc_if (fun _ => ?_) (fun _ => ?_)
      · refine pc_xl ?_; intro v1 _
        exact ih _ _ _ _
      · refine pc_rA ?_; intro _ _ v3 _
        refine pc_se ?_; intro u5 _
        refine pc_if (fun _ => ?_) (fun _ => pc_ret (.inr hl))
        refine pc_xl ?_; intro v1 _
        exact ih _ _ _ _
    unfold qw_X13_memberOf_12
    refine pc_if (fun _ => ?_) (fun C => ?_)
    · refine pc_se ?_; intro u11 _
      exact hk _ _ _
    · refine pc_rA ?_; intro _ _ v13 _
      refine pc_xl ?_; intro v14 _
      refine pc_if (fun _ => ?_) (fun _ => ?_)
      · refine pc_xl ?_; intro v15 _
        exact ih _ _ _ _
      · refine pc_rA ?_; intro _ _ v17 _
        exact pc_if (fun _ => J _ (by omega)) (fun _ => J _ (by omega))
theorem pc_mo3 : ∀ (k : Nat) (l2 l3 l4 : Int), Pc (qw_X13_memberOf_3 nn k l2 l3 l4 h) (fun u => u = -1 ∨ u < h 160 28) := by
  intro k
  induction k with
  | zero => intros; exact pc_none
  | succ k ih =>
    intro l2 l3 l4
    unfold qw_X13_memberOf_3
    exact pc_if (fun _ => pc_ret (.inl rfl)) (fun _ => pc_mo12 (fun a b c => ih a b c) nn _ _ _ _)
theorem pc_memberOf {a b c : Int} : Pc (qf_X13_memberOf nn a b c h) (fun u => u = -1 ∨ u < h 160 28) := by
  unfold qf_X13_memberOf
  exact pc_mo3 nn _ _ _
theorem pc_class28 {l1 : Int} : ∀ (k : Nat) (l3 : Int), Pc (qw_X13_classOf_28 nn k l1 l3 h) (fun u => u = -1 ∨ u < 8 + h 160 24) := by
  intro k
  induction k with
  | zero => intros; exact pc_none
  | succ k ih =>
    intro l3
    unfold qw_X13_classOf_28
    refine pc_if (fun _ => pc_ret (.inl rfl)) (fun C => ?_)
    refine pc_rA ?_; intro b0 b1 v3 _
    refine pc_se ?_; intro u5 _
    refine pc_if (fun _ => ?_) (fun _ => ?_)
    · refine pc_xl ?_; intro v6 _
      exact ih v6
    · refine pc_add (by omega) ?_; intro v7 e7
      exact pc_ret (.inr (by omega))
theorem vy_classOf (hn : 1000000 ≤ nn) (Y : YI t h) (S : SF t) {a : Int} (ha : 0 ≤ a ∧ a ≤ 3001) : Ok_ (qf_X13_classOf nn a h) (fun u => -1 ≤ u ∧ u ≤ 407 ∧ u < 8 + t 160 24) := by
  have N := yi_hw Y S.1
  have z := N.1 a.toNat (by omega)
  have g := gF_160_24 Y.1
  have q24 : h 160 24 = t 160 24 := Y.2.1 160 24 rfl
  unfold qf_X13_classOf
  refine ok_rd (by omega) (gA_164 Y.1) ?_; intro v11 e11 a11 b11
  refine ok_rd (by omega) (gA_165 Y.1) ?_; intro v13 e13 a13 b13
  obtain ⟨u, eu, qu⟩ := am_ok (nn := nn) (p := v11) (n := v13) hn XT_3 Y.1 (by omega) (by omega) (by omega)
  have q := qa_3 (by omega) qu
  rw [eu, mx_svs]
  refine ok_if (fun C => ?_) (fun C => ok_ret ⟨by omega, by omega, by omega⟩)
  refine ok_im (ok_pc (vw_X13_classOf_28 hn (l1 := a) (by omega) Y.1 N nn 0 (by omega) (by omega)) (pc_class28 nn 0)) (fun w p => ?_)
  have p1 : -1 ≤ w ∧ w ≤ 407 := p.1
  have p2 := p.2
  exact ⟨by omega, by omega, by omega⟩
theorem vy_sightOf (hn : 1000000 ≤ nn) (Y : YI t h) (S : SF t) {a : Int} (ha : 0 ≤ a ∧ a ≤ 3001) : Ok_ (qf_X13_sightOf nn a h) (fun u => -1 ≤ u ∧ u ≤ 2999 ∧ (u = -1 ∨ u < h 160 50)) := by
  refine ok_im (ok_pc (vf_X13_sightOf hn ha.1 ha.2 Y.1 (yi_hw Y S.1)) (pc_sightOf Y.1)) (fun w p => ?_)
  have p1 : -1 ≤ w ∧ w ≤ 2999 := p.1
  exact ⟨by omega, by omega, p.2⟩
theorem vy_memberOf (hn : 1000000 ≤ nn) (Y : YI t h) (S : SF t) {a b c : Int} (ha : -1 ≤ a ∧ a < 8 + t 160 24) (hb : 0 ≤ b ∧ b ≤ 3001) : Ok_ (qf_X13_memberOf nn a b c h) (fun u => -1 ≤ u ∧ u ≤ 799 ∧ (u = -1 ∨ u < t 160 28)) := by
  have q24 : h 160 24 = t 160 24 := Y.2.1 160 24 rfl
  have q28 : h 160 28 = t 160 28 := Y.2.1 160 28 rfl
  refine ok_im (ok_pc (vf_X13_memberOf hn Y.1 (yi_hw Y S.1) (yi_ac Y S.2.1) (by omega) hb) pc_memberOf) (fun w p => ?_)
  have p1 : -1 ≤ w ∧ w ≤ 799 := p.1
  have p2 := p.2
  exact ⟨by omega, by omega, by omega⟩
theorem vy_fits (hn : 1000000 ≤ nn) (Y : YI t h) (S : SF t) {a b : Int} (ha : -1 ≤ a ∧ a ≤ 900 ∧ a < 24 + 2 * t 160 24) (hb : -1 ≤ b ∧ b ≤ 900) : Ok_ (qf_X13_fits nn a b h) (fun u => 0 ≤ u ∧ u ≤ 1) := by
  have q24 : h 160 24 = t 160 24 := Y.2.1 160 24 rfl
  exact vf_X13_fits hn Y.1 (yi_ac Y S.2.1) (by omega) hb
theorem vy_goTogether (hn : 1000000 ≤ nn) (Y : YI t h) (S : SF t) {a b : Int} (ha : -1 ≤ a ∧ a ≤ 900 ∧ a < 24 + 2 * t 160 24) (hb : -1 ≤ b ∧ b ≤ 900 ∧ b < 24 + 2 * t 160 24) : Ok_ (qf_X13_goTogether nn a b h) (fun u => 0 ≤ u ∧ u ≤ 1) := by
  have q24 : h 160 24 = t 160 24 := Y.2.1 160 24 rfl
  exact vf_X13_goTogether hn Y.1 (yi_ac Y S.2.1) (by omega) (by omega)
theorem vy_isThing {a : Int} : Ok_ (qf_X13_isThing nn a h) (fun u => (0 ≤ u ∧ u ≤ 1) ∧ (u = 0 ∨ a = 2 ∨ a = 4 ∨ 8 ≤ a)) := by
  unfold qf_X13_isThing
  refine ok_if (fun C => ok_ret ⟨by decide, by omega⟩) (fun C => ?_)
  refine ok_if (fun C2 => ok_ret ⟨by decide, by omega⟩) (fun C2 => ?_)
  exact ok_if (fun C3 => ok_ret ⟨by decide, by omega⟩) (fun C3 => ok_ret ⟨by decide, by omega⟩)
theorem vy_isArray {a : Int} : Ok_ (qf_X13_isArray nn a h) (fun u => (0 ≤ u ∧ u ≤ 1) ∧ (¬ u = 0 ∨ ¬ a = 4) ∧ (u = 0 ∨ a = 4 ∨ 9 ≤ a)) := by
  unfold qf_X13_isArray
  refine ok_if (fun C => ok_ret ⟨by decide, by omega⟩) (fun C => ?_)
  refine ok_if (fun C2 => ok_ret ⟨by decide, by omega⟩) (fun C2 => ?_)
  refine ok_xl ?_; intro v1 e1
  refine ok_if (fun C3 => ok_ret ⟨by decide, by omega⟩) (fun C3 => ok_ret ⟨by decide, ?_⟩)
  by_cases q : a = 8
  · exfalso; apply C3; rw [e1, q]; decide
  · omega
theorem vy_local (Y : YI t h) {a : Int} (ha : 0 ≤ a ∧ a ≤ 2999) : Ok_ (qf_X13_local nn a h) (fun u => 0 ≤ u ∧ u ≤ 3000) := by
  unfold qf_X13_local
  refine ok_if (fun C => ?_) (fun C => ok_ret (by omega))
  refine ok_add (by omega) ?_; intro v e
  exact ok_ret (by omega)
theorem vy_among4 (hn : 1000000 ≤ nn) (Y : YI t h) {p : Int} (hp : 0 ≤ p ∧ p + 6 ≤ 3000) : Ok_ (qf_X13_among nn (1000000000 + 4) p 6 h) (fun _ => True) := ok_im (am_ok (nn := nn) (p := p) (n := 6) hn XT_4 Y.1 (by omega) (by omega) (by omega)) (fun _ _ => trivial)
theorem vy_strength (hn : 1000000 ≤ nn) (Y : YI t h) {a : Int} (ha : 0 ≤ a ∧ a ≤ 3001) : Ok_ (qf_X13_strength nn a h) (fun u => -1 ≤ u ∧ u ≤ 9) := vf_X13_strength hn ha.1 ha.2 Y.1
theorem vy_sign (hn : 1000000 ≤ nn) (Y : YI t h) {a b c : Int} (ha : (0 ≤ a ∧ a ≤ 62) ∧ (33 ≤ b ∧ b ≤ 124) ∧ (38 ≤ c ∧ c ≤ 124)) : Ok_ (qf_X13_sign nn a b c h) (fun _ => True) := ok_im (vf_X13_sign hn ha.1.1 ha.1.2 ha.2.1.1 ha.2.1.2 ha.2.2.1 ha.2.2.2 Y.1) (fun _ _ => trivial)
/-- what an expression's rules leave: its type, and the same sight, loops, rows; types are written between a and b -/
def QY (t h : ms_M) (a b : Int) (u : Int × ms_M) : Prop := YI t u.2 ∧ MI t u.2 ∧ Ke h u.2 ∧ (-1 ≤ u.1 ∧ u.1 ≤ 900 ∧ u.1 < 24 + 2 * t 160 24 ∧ (u.2 160 9 = 0 → 0 ≤ u.1)) ∧ FG a b h u.2
def QZ (t h : ms_M) (a b : Int) (r : ms_M) : Prop := YI t r ∧ MI t r ∧ Ke h r ∧ FG a b h r
/-- what a led node's rule wants: what it is led by has been seen -/
def HR (nn : Nat) (t h : ms_M) (a e : Int) : Prop := h 160 9 = 0 → ((t 167 e.toNat = 30 ∨ t 167 e.toNat = 32 ∨ t 167 e.toNat = 37 ∨ t 167 e.toNat = 38) → YT h 0 a e (t 170 e.toNat)) ∧ (t 167 e.toNat = 31 → (∃ w, qf_X13_isByClass nn e h = some w ∧ ¬ w = 0) ∨ YT h 0 a e (t 170 e.toNat))
def GR (nn : Nat) (t : ms_M) (g : Int) (rc : tq_X13_condition) : Prop :=
  (∀ e d a b h, YI t h → MI t h → TE 1 t 0 d a b e → b ≤ t 160 22 → d + 3 ≤ g → h 160 57 + b ≤ 9000 → Ok_ (rc.1 e h) (fun r => QZ t h a b r ∧ (r 160 9 = 0 → OV r a b e))) ∧
  (∀ e d a b h, YI t h → MI t h → TE 1 t 0 d a b e → b ≤ t 160 22 → d + 2 ≤ g → h 160 57 + b ≤ 9000 → Ok_ (rc.2.1 e h) (fun u => QY t h a b u ∧ (u.2 160 9 = 0 → OV u.2 a b e))) ∧
  (∀ e d a b h, YI t h → MI t h → TE 1 t 0 d a b e → b ≤ t 160 22 → d + 1 ≤ g → h 160 57 + b ≤ 9000 → Ok_ (rc.2.2.1 e h) (fun u => QY t h a b u ∧ (u.2 160 9 = 0 → YT u.2 0 a b e ∧ u.2 174 e.toNat = u.1))) ∧
  (∀ e d a b h, YI t h → MI t h → TE 1 t 0 d a b e → b ≤ t 160 22 → d ≤ g → h 160 57 + b ≤ 9000 → HR nn t h a e → Ok_ (rc.2.2.2.1 e h) (fun u => QY t h a b u ∧ (u.2 160 9 = 0 → y0 u.2 (YT u.2) a b e))) ∧
  (∀ e d a b h, YI t h → MI t h → TE 1 t 0 d a b e → b ≤ t 160 22 → d - 1 ≤ g → h 160 57 + b ≤ 9000 → t 167 e.toNat = 37 → HR nn t h a e → Ok_ (rc.2.2.2.2.1 e h) (fun u => QY t h a b u ∧ (u.2 160 9 = 0 → y0 u.2 (YT u.2) a b e))) ∧
  (∀ e d a b h, YI t h → MI t h → TE 1 t 0 d a b e → b ≤ t 160 22 → d - 1 ≤ g → h 160 57 + b ≤ 9000 → t 167 e.toNat = 31 → HR nn t h a e → Ok_ (rc.2.2.2.2.2.1 e h) (fun u => QY t h a b u ∧ (u.2 160 9 = 0 → y0 u.2 (YT u.2) a b e))) ∧
  (∀ e m f d a b h, YI t h → MI t h → TE 1 t 1 d a b (t 171 e.toNat) → b ≤ t 160 22 → d + 3 ≤ g → h 160 57 + b ≤ 9000 → 1 ≤ g → (0 ≤ e ∧ e < t 160 22) → (¬ h 160 9 = 0 ∨ (0 ≤ m ∧ m < t 160 28)) → (f = 0 ∨ f = 1) → (0 ≤ a ∧ a ≤ 9000) → Ok_ (rc.2.2.2.2.2.2 e m f h) (fun u => QY t h a b u ∧ (u.2 160 9 = 0 → YT u.2 1 a b (t 171 e.toNat))))
end
