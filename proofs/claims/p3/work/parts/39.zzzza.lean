section
variable {nn : Nat} {h g r z w v : ms_M} {c d : Int}
theorem sub8 {a : Int} (r : -2147483648 ≤ a ∧ a ≤ 2147483647) (y : a - 8 < -2147483648) : 2147483640 ≤ oq_sub a 8 := by
  unfold oq_sub
  rw [Int32.toInt_sub, to_of r, to_of (by omega)]
  unfold Int.bmod
  dsimp only
  split <;> omega
theorem lw_patch2 (hn : 1000000 ≤ nn) (V : VS_ h) (S : SPD h) {a b d : Int} (ra : -2147483648 ≤ a ∧ a ≤ 2147483647) : Ok_ (qf_X13_patch nn a b d h) (QLD h) := by
  by_cases y : -2147483648 ≤ a - 8
  · exact lw_patch hn V S ⟨y, ra.2⟩
  · have g98 := gF_160_98 V
    have s := sub8 ra (by omega)
    unfold qf_X13_patch
    refine ok_xl ?_; intro v55 e55
    rw [← e55] at s
    refine ok_if (fun C => by exfalso; omega) (fun C => ?_)
    exact ok_if (fun _ => ok_ret ⟨V, S, nl_rf⟩) (fun D => by exfalso; omega)
theorem mkn_len {f : Nat → Int} {m : Nat} {a e : Int} (k : MKn f m a e) : a + 3 ≤ e := by
  obtain ⟨_, q, p, _, t⟩ := k
  have := pr_le _ _ _ p
  rcases t with t | t
  · omega
  · have := kd_lt t; omega
/-- a method's own texts -/
theorem mth_tx {k : Int} (m : MTH w c h k) : TS 0 w c (w 238 (h 235 (12 * c + k).toNat + 1).toNat) ∧ TS 2 w c (w 238 (h 235 (12 * c + k).toNat + 2).toNat) := by
  obtain ⟨q, _, m⟩ := m
  unfold XM XI XG at m
  exact ⟨m.2.1, m.2.2.1⟩
theorem wi_fd (W : WI h c w) (hc : 0 ≤ c ∧ c ≤ 7) {k : Int} (hk : 0 ≤ k ∧ k < h 232 c.toNat) : k < 12 ∧ FLD w c h k (h 233 (12 * c + k).toNat) := by
  have F := W.2.2.2.2.2.2.1
  have f12 := F.1
  obtain ⟨p, P⟩ := F.2 k hk.1 hk.2
  refine ⟨by omega, ?_⟩
  have e := P.1
  rw [e]; exact P
/-- which members there are, by sort -/
def mem (h : ms_M) (c s : Int) : Int := if s = 0 then h 232 c.toNat else h 234 c.toNat
theorem rv_name (V : VS_ h) (hc : 0 ≤ c ∧ c ≤ 7) (W : WI h c w) {k s : Int} (hk : 0 ≤ k ∧ k < mem h c s) : Ok_ (qf_X13_nameText nn c k s h) (TS 0 w c) := by
  unfold qf_X13_nameText
  refine ok_if (fun C => ?_) (fun C => ?_)
  · rw [show mem h c s = h 232 c.toNat from if_pos C] at hk
    obtain ⟨k12, e, p, t0, t1⟩ := wi_fd W hc hk
    have g3 := gF_160_113 W.1
    refine ok_mul (by omega) ?_; intro v2 e2
    refine ok_add (by omega) ?_; intro v3 e3
    refine ok_rd (by omega) (gA_233 V) ?_; intro v4 e4 _ _
    rw [e3, e2] at e4
    rw [← e4] at p t0 t1
    refine ok_sv (rv_byte V hc (by omega)) ?_; intro u6 P6
    refine ok_ret ?_
    rw [P6.1, W.2.2.1 v4 (by omega) (by omega)]; exact t0
  · rw [show mem h c s = h 234 c.toNat from if_neg C] at hk
    obtain ⟨k12, b, m⟩ := wi_mt W hc hk
    have t := (mth_tx m).1
    refine ok_mul (by omega) ?_; intro v8 e8
    refine ok_add (by omega) ?_; intro v9 e9
    refine ok_rd (by omega) (gA_235 V) ?_; intro v10 e10 _ _
    rw [e9, e8] at e10
    rw [← e10] at b t
    refine ok_add (by omega) ?_; intro v11 e11
    refine ok_sv (rv_byte V hc (by omega)) ?_; intro u13 P13
    refine ok_ret ?_
    rw [P13.1, W.2.2.1 v11 (by omega) (by omega), e11]; exact t
theorem rv_kind (V : VS_ h) (hc : 0 ≤ c ∧ c ≤ 7) (W : WI h c w) {k s : Int} (hk : 0 ≤ k ∧ k < mem h c s) : Ok_ (qf_X13_kindText nn c k s h) (fun u => (s = 0 → TS 1 w c u) ∧ (¬ s = 0 → TS 2 w c u)) := by
  unfold qf_X13_kindText
  refine ok_if (fun C => ?_) (fun C => ?_)
  · rw [show mem h c s = h 232 c.toNat from if_pos C] at hk
    obtain ⟨k12, e, p, t0, t1⟩ := wi_fd W hc hk
    have g3 := gF_160_113 W.1
    refine ok_mul (by omega) ?_; intro v2 e2
    refine ok_add (by omega) ?_; intro v3 e3
    refine ok_rd (by omega) (gA_233 V) ?_; intro v4 e4 _ _
    rw [e3, e2] at e4
    rw [← e4] at p t0 t1
    refine ok_add (by omega) ?_; intro v5 e5
    refine ok_sv (rv_byte V hc (by omega)) ?_; intro u6 P6
    refine ok_ret ⟨fun _ => ?_, fun y => absurd C y⟩
    rw [P6.1, W.2.2.1 v5 (by omega) (by omega), e5]; exact t1
  · rw [show mem h c s = h 234 c.toNat from if_neg C] at hk
    obtain ⟨k12, b, m⟩ := wi_mt W hc hk
    have t := (mth_tx m).2
    refine ok_mul (by omega) ?_; intro v8 e8
    refine ok_add (by omega) ?_; intro v9 e9
    refine ok_rd (by omega) (gA_235 V) ?_; intro v10 e10 _ _
    rw [e9, e8] at e10
    rw [← e10] at b t
    refine ok_add (by omega) ?_; intro v11 e11
    refine ok_sv (rv_byte V hc (by omega)) ?_; intro u13 P13
    refine ok_ret ⟨fun y => absurd y C, fun _ => ?_⟩
    rw [P13.1, W.2.2.1 v11 (by omega) (by omega), e11]; exact t
theorem rv_type (hn : 1000000 ≤ nn) (V : VS_ h) (S : SPD h) {a b : Int} (ra : -2147483648 ≤ a ∧ a ≤ 2147483647) : Ok_ (qf_X13_type_ nn a b h) (fun _ => True) := by
  have g98 := gF_160_98 V
  unfold qf_X13_type_
  refine ok_if (fun _ => ok_ret trivial) (fun A => ?_)
  refine ok_add (by omega) ?_; intro v2 e2
  refine ok_if (fun _ => ok_ret trivial) (fun B => ?_)
  refine ok_if (fun _ => ok_ret trivial) (fun C => ?_)
  refine ok_if (fun D => ?_) (fun _ => ok_ret trivial)
  refine ok_if (fun E => ?_) (fun _ => ?_)
  · refine ok_sub (by omega) ?_; intro v3 e3
    refine ok_if (fun F => ?_) (fun _ => ok_ret trivial)
    refine ok_if (fun _ => ?_) (fun _ => ?_)
    · refine ok_rd (by omega) (gA_232 V) ?_; intro v7 _ _ _; exact ok_ret trivial
    refine ok_if (fun _ => ?_) (fun _ => ?_)
    · refine ok_rd (by omega) (gA_234 V) ?_; intro v7 _ _ _; exact ok_ret trivial
    refine ok_if (fun _ => ?_) (fun _ => ?_)
    · refine ok_rd (by omega) (gA_227 V) ?_; intro v7 _ _ _; exact ok_ret trivial
    · refine ok_rd (by omega) (gA_229 V) ?_; intro v7 _ _ _; exact ok_ret trivial
  · refine ok_sv (rv_super hn V S (by omega)) ?_; intro u14 _
    exact ok_ret trivial
/-- what the machine's own calls leave -/
def NMc (h r : ms_M) : Prop := ∀ x k : Nat, x < 246 → ¬ (x = 160 ∧ 138 ≤ k) → r x k = h x k
theorem rn_enter (hn : 1000000 ≤ nn) (V : VS_ h) {a b : Int} (ra : -1 ≤ a ∧ a ≤ 2117) (rb : 0 ≤ b ∧ b ≤ 254) (hd : h 160 149 ≤ 59) : Ok_ (qf_X13_enter nn a b h) (fun r => VS_ r ∧ (∀ x k : Nat, x < 251 → ¬ (x = 160 ∧ k = 149) → r x k = h x k) ∧ r 160 149 = h 160 149 + 1) := by
  have g149 := gF_160_149 V
  have L : ∀ (k : Nat) (l : Int) (g : ms_M), VS_ g → (∀ x k : Nat, x < 251 → g x k = h x k) → (0 ≤ l ∧ l ≤ 60) → 61 - l < (k : Int) → Ok_ (qw_X13_enter_42 nn k l g) (fun r => VS_ r ∧ (∀ x k : Nat, x < 251 → ¬ (x = 160 ∧ k = 149) → r x k = h x k) ∧ r 160 149 = h 160 149 + 1) := by
    intro k
    induction k with
    | zero => intro l g V N a hm; exfalso; omega
    | succ k ih =>
      intro l g V' N a hm
      have e := N 160 149 (by decide)
      unfold qw_X13_enter_42
      refine ok_if (fun _ => ?_) (fun C => ?_)
      · refine ok_add (by omega) ?_; intro v2 e2
        refine ok_xl ?_; intro h3 E3
        exact ok_ret ⟨by rw [E3]; exact wF_160_149 V' (by omega), fun x k w1 w2 => by rw [E3, up_n w2]; exact N x k w1, by rw [E3, up_s]; omega⟩
      · refine ok_mul (by omega) ?_; intro v6 e6
        refine ok_add (by omega) ?_; intro v7 e7
        refine ok_wA (by omega) ?_; intro h8 E8
        refine ok_add (by omega) ?_; intro v9 e9
        exact ih v9 h8 (by rw [E8]; exact wA_255 V' (by omega)) (fun x k w => by rw [E8, up_n (by omega)]; exact N x k w) (by omega) (by omega)
  unfold qf_X13_enter
  refine ok_wA (by omega) ?_; intro h13 E13
  have V13 : VS_ h13 := by rw [E13]; exact wA_251 V ra
  have N13 : ∀ x k : Nat, x < 251 → h13 x k = h x k := fun x k w => by rw [E13, up_n (by omega)]
  have e13 := N13 160 149 (by decide)
  refine ok_wA (by omega) ?_; intro h16 E16
  have V16 : VS_ h16 := by rw [E16]; exact wA_252 V13 rb
  have N16 : ∀ x k : Nat, x < 251 → h16 x k = h x k := fun x k w => by rw [E16, up_n (by omega)]; exact N13 x k w
  have e16 := N16 160 149 (by decide)
  refine ok_wA (by omega) ?_; intro h19 E19
  have V19 : VS_ h19 := by rw [E19]; exact wA_253 V16 (by omega)
  have N19 : ∀ x k : Nat, x < 251 → h19 x k = h x k := fun x k w => by rw [E19, up_n (by omega)]; exact N16 x k w
  have e19 := N19 160 149 (by decide)
  refine ok_wA (by omega) ?_; intro h22 E22
  have V22 : VS_ h22 := by rw [E22]; exact wA_254 V19 (by omega)
  have N22 : ∀ x k : Nat, x < 251 → h22 x k = h x k := fun x k w => by rw [E22, up_n (by omega)]; exact N19 x k w
  exact L nn 0 h22 V22 N22 (by omega) (by omega)
/-- start is safe -/
theorem rn_start (hn : 1000000 ≤ nn) (V : VS_ h) (S : SPD h) {a b : Int} (ra : -2147483648 ≤ a ∧ a ≤ 2147483647) : Ok_ (qf_X13_start nn a b h) (fun u => VS_ u.2 ∧ NMc h u.2 ∧ (u.2 = h ∨ (u.1 = 1 ∧ u.2 160 149 = 1))) := by
  have g98 := gF_160_98 V
  have Z : ∀ y : Int, Ok_ (some (y, h)) (fun u : Int × ms_M => VS_ u.2 ∧ NMc h u.2 ∧ (u.2 = h ∨ (u.1 = 1 ∧ u.2 160 149 = 1))) := fun y => ok_ret ⟨V, fun _ _ _ _ => rfl, .inl rfl⟩
  unfold qf_X13_start
  refine ok_xl ?_; intro v4 e4
  refine ok_if (fun _ => Z 0) (fun _ => ?_)
  refine ok_if (fun _ => Z 0) (fun A => ?_)
  refine ok_if (fun _ => Z 0) (fun B => ?_)
  have ea : v4 = a - 8 := by
    by_cases y : -2147483648 ≤ a - 8
    · rw [e4]; exact oq_sub_eq ra (by omega) (by omega)
    · have s := sub8 ra (by omega)
      exfalso; omega
  have hc : 0 ≤ v4 ∧ v4 ≤ 7 := by omega
  obtain ⟨w, W⟩ := wi_of hc (S v4 (by omega) (by omega)).2
  refine ok_if (fun _ => Z 0) (fun C => ?_)
  refine ok_rd (by omega) (gA_234 V) ?_; intro v8 e8 _ _
  refine ok_if (fun D => ?_) (fun _ => Z 0)
  obtain ⟨k12, bb, m⟩ := wi_mt W hc (k := b) (by omega)
  refine ok_mul (by omega) ?_; intro v9 e9
  refine ok_mul (by omega) ?_; intro v11 e11
  refine ok_sv (rv_kind V hc W (s := 1) (k := b) (by rw [show mem h v4 1 = h 234 v4.toNat from rfl]; omega)) ?_; intro u13 P13
  have t := P13.2 (by decide)
  obtain ⟨a1, a2, a3, a4, a5⟩ := wi_tx W hc t.1
  have l3 : 3 ≤ w 238 (pl w v4 u13 + 1).toNat := by
    obtain ⟨m, _, k⟩ := t.2.2.2.1 rfl
    have := mkn_len k
    omega
  refine ok_add (by omega) ?_; intro v14 e14
  refine ok_rd (by omega) (gA_228 V) ?_; intro v15 e15 _ _
  rw [e14, e11, a2] at e15
  refine ok_add (by omega) ?_; intro v16 e16
  refine ok_add (by omega) ?_; intro v17 e17
  refine ok_mul (by omega) ?_; intro v19 e19
  refine ok_add (by omega) ?_; intro v20 e20
  refine ok_rd (by omega) (gA_235 V) ?_; intro v21 e21 _ _
  rw [e20, e19] at e21
  rw [← e21] at bb
  refine ok_sv (rv_byte V hc (by omega)) ?_; intro u23 _
  refine ok_if (fun _ => Z 0) (fun _ => ?_)
  refine ok_add (by omega) ?_; intro v25 e25
  refine ok_rd (by omega) (gA_226 V) ?_; intro v26 _ _ _
  refine ok_if (fun _ => ?_) (fun _ => Z 0)
  refine ok_xl ?_; intro h27 E27
  have V27 : VS_ h27 := by rw [E27]; exact wF_160_138 V (by omega)
  refine ok_xl ?_; intro h28 E28
  have V28 : VS_ h28 := by rw [E28]; exact wF_160_139 V27 (by omega)
  refine ok_xl ?_; intro h29 E29
  have V29 : VS_ h29 := by rw [E29]; exact wF_160_140 V28 (by omega)
  refine ok_xl ?_; intro h30 E30
  have V30 : VS_ h30 := by rw [E30]; exact wF_160_141 V29 (by omega)
  refine ok_xl ?_; intro h31 E31
  have V31 : VS_ h31 := by rw [E31]; exact wF_160_142 V30 (by omega)
  refine ok_xl ?_; intro h32 E32
  have V32 : VS_ h32 := by rw [E32]; exact wF_160_143 V31 (by omega)
  have N32 : ∀ x k : Nat, ¬ (x = 160 ∧ 138 ≤ k) → h32 x k = h x k := fun x k y => by
    rw [E32, up_n (by omega), E31, up_n (by omega), E30, up_n (by omega), E29, up_n (by omega), E28, up_n (by omega), E27, up_n (by omega)]
  unfold qj_X13_start_133
  refine ok_xl ?_; intro h1 E1
  have V1 : VS_ h1 := by rw [E1]; exact wF_160_149 V32 (by omega)
  have f1 : h1 160 149 = 0 := by rw [E1, up_s]
  refine ok_sv (rn_enter hn V1 (by omega) (by omega) (by omega)) ?_; intro u3 P3
  refine ok_ret ⟨P3.1, fun x k w1 w2 => ?_, .inr ⟨rfl, ?_⟩⟩
  · show u3 x k = h x k
    rw [P3.2.1 x k (by omega) (by omega), E1, up_n (by omega)]; exact N32 x k w2
  · show u3 160 149 = 1
    rw [P3.2.2, f1]; rfl
theorem nmc_spd (V : VS_ h) (N : NMc h r) (S : SPD h) : SPD r := by
  have e : ∀ x k : Nat, 226 ≤ x → x ≤ 237 → r x k = h x k := fun x k a b => N x k (by omega) (by omega)
  have e98 : r 160 98 = h 160 98 := N 160 98 (by decide) (by omega)
  have g98 := gF_160_98 V
  intro d a b
  have I := S d a (by omega)
  have A : ∀ x k : Nat, 226 ≤ x → x ≤ 237 → r x k = h x k := e
  refine ⟨img_eq (by omega) I.1 (fun i hi => A _ _ (by decide) (by decide)) V (A _ _ (by decide) (by decide)) (fun i _ _ => A _ _ (by decide) (by decide)) (A _ _ (by decide) (by decide)) (A _ _ (by decide) (by decide)) (A _ _ (by decide) (by decide)), ?_⟩
  obtain ⟨w, Vw, I9, a1, a2, a3⟩ := I.2
  refine ⟨w, Vw, I9, fun i hi => ?_, ?_, fun x k y => ?_⟩
  · rw [A 226 _ (by decide) (by decide)]; exact a1 i hi
  · rw [A 227 _ (by decide) (by decide)]; exact a2
  · have y2 := y
    unfold TAB at y2
    rw [A x k (by omega) (by omega)]; exact a3 x k y
end
