section
variable {nn : Nat} {M : ms_M}
/-- a row handed over: the one that is read in (238), the images (226) -/
def RW_ (c : Nat) (n : Int) : Prop := (c = 238 ∧ n = 6000) ∨ (c = 226 ∧ n = 48000)
theorem ok_rS {α : Type} {Q : α → Prop} {c : Nat} {n j : Int} {G : Int → Option α} (R : RW_ c n) (V : VS_ M) (hj : 0 ≤ j ∧ j < n) (h : ∀ v, v = M c j.toNat → 0 ≤ v → v ≤ 255 → Ok_ (G v) Q) : Ok_ (rd_S c j M G) Q := by
  have g := V.2.1.1.1
  unfold rd_S
  rcases R with ⟨rfl, rfl⟩ | ⟨rfl, rfl⟩
  · rw [if_pos ⟨⟨by unfold cn_M; omega, rfl⟩, hj.1, by show j < 6000; exact hj.2⟩]
    have a := gA_238 V j.toNat (by omega)
    exact h _ rfl a.1 a.2
  · rw [if_pos ⟨⟨by unfold cn_M; omega, rfl⟩, hj.1, by show j < 48000; exact hj.2⟩]
    have a := gA_226 V j.toNat (by omega)
    exact h _ rfl a.1 a.2
variable {c : Nat} {n : Int}
theorem sc_part (hn : 1000000 ≤ nn) (V : VS_ M) {a b : Int} (ra : 0 ≤ a ∧ a ≤ 255) : Ok_ (qf_X13_isNamePart nn a b M) (fun u => u = 0 ∨ u = 1) := by
  unfold qf_X13_isNamePart
  refine ok_sv (vf_X13_isLetter hn (by omega) (by omega) V) ?_; intro u1 _
  refine ok_if (fun _ => ok_ret (.inr rfl)) (fun _ => ?_)
  refine ok_if (fun _ => ok_ret (.inl rfl)) (fun _ => ?_)
  refine ok_sv (vf_X13_isDigit hn (by omega) (by omega) V) ?_; intro u2 _
  refine ok_if (fun _ => ok_ret (.inr rfl)) (fun _ => ?_)
  exact ok_if (fun _ => ok_ret (.inl rfl)) (fun _ => ok_ret (.inr rfl))
theorem sc_name20 (hn : 1000000 ≤ nn) (R : RW_ c n) (V : VS_ M) {l1 l2 : Int} (r1 : 0 ≤ l1 ∧ l1 + l2 ≤ n) : ∀ (k : Nat) (l3 l4 : Int), (l3 = 0 ∨ l3 = 1) → 0 ≤ l4 → (l4 ≤ l2 ∨ l4 = 0) → 48001 - l4 < (k : Int) → Ok_ (qw_X13_isName_20 nn k c l1 l2 l3 l4 M) (fun u => u = 0 ∨ u = 1) := by
  have hn' : n ≤ 48000 := by rcases R with ⟨_, e⟩ | ⟨_, e⟩ <;> omega
  intro k
  induction k with
  | zero => intro l3 l4 a b d hm; exfalso; omega
  | succ k ih =>
    intro l3 l4 a b d hm
    unfold qw_X13_isName_20
    refine ok_if (fun _ => ok_ck a (ok_ret a)) (fun C => ?_)
    refine ok_if (fun _ => ok_ck a (ok_ret a)) (fun C2 => ?_)
    refine ok_add (by omega) ?_; intro v5 e5
    refine ok_rS R V (by omega) ?_; intro v6 e6 a6 b6
    have J : ∀ s0 : Int, Ok_ (qj_X13_isName_46 nn (qw_X13_isName_20 nn k) c l1 l2 l4 s0 v6 M) (fun u => u = 0 ∨ u = 1) := fun s0 => by
      unfold qj_X13_isName_46
      refine ok_sv (sc_part hn V ⟨a6, b6⟩) ?_; intro u1 P1
      refine ok_add (by omega) ?_; intro v2 e2
      exact ih u1 v2 P1 (by omega) (by omega) (by omega)
    exact ok_if (fun _ => J 0) (fun _ => J 1)
theorem sc_name (hn : 1000000 ≤ nn) (R : RW_ c n) (V : VS_ M) {l1 l2 : Int} (r1 : 0 ≤ l1 ∧ l1 + l2 ≤ n) : Ok_ (qf_X13_isName nn c l1 l2 M) (fun u => u = 0 ∨ u = 1) := by
  have J : Ok_ (qj_X13_isName_15 nn c l1 l2 M) (fun u => u = 0 ∨ u = 1) := by
    unfold qj_X13_isName_15
    exact sc_name20 hn R V r1 nn 0 0 (.inl rfl) (by omega) (.inr rfl) (by omega)
  unfold qf_X13_isName
  refine ok_if (fun _ => J) (fun _ => ?_)
  exact ok_if (fun _ => J) (fun _ => sc_name20 hn R V r1 nn 1 0 (.inr rfl) (by omega) (.inr rfl) (by omega))
/-- how long a kind is, or 0 -/
def KB (a e u : Int) : Prop := u = 0 ∨ (1 ≤ u ∧ a + u ≤ e)
theorem sc_93 (hn : 1000000 ≤ nn) (R : RW_ c n) (V : VS_ M) {l1 l2 l3 l4 : Int} (r1 : 0 ≤ l1 ∧ l1 ≤ l3 ∧ l3 < l4 ∧ l2 ≤ n) : Ok_ (qj_X13_kindBytes_93 nn c l1 l2 l3 l4 M) (KB l1 l2) := by
  have hn' : n ≤ 48000 := by rcases R with ⟨_, e⟩ | ⟨_, e⟩ <;> omega
  unfold qj_X13_kindBytes_93
  refine ok_if (fun _ => ok_ret (.inl rfl)) (fun C => ?_)
  refine ok_add (by omega) ?_; intro v1 e1
  refine ok_sub (by omega) ?_; intro v2 e2
  refine ok_sub (by omega) ?_; intro v3 e3
  refine ok_sv (sc_name hn R V (by omega)) ?_; intro u4 _
  refine ok_if (fun _ => ok_ret (.inl rfl)) (fun _ => ?_)
  refine ok_add (by omega) ?_; intro v5 e5
  refine ok_sub (by omega) ?_; intro v6 e6
  exact ok_ret (.inr ⟨by omega, by omega⟩)
theorem sc_72 (hn : 1000000 ≤ nn) (R : RW_ c n) (V : VS_ M) {l1 l2 l3 : Int} (r1 : 0 ≤ l1 ∧ l1 ≤ l3 ∧ l2 ≤ n) : ∀ (k : Nat) (l4 : Int), l3 < l4 → l4 ≤ 48001 → 48002 - l4 < (k : Int) → Ok_ (qw_X13_kindBytes_72 nn k c l1 l2 l3 l4 M) (KB l1 l2) := by
  have hn' : n ≤ 48000 := by rcases R with ⟨_, e⟩ | ⟨_, e⟩ <;> omega
  intro k
  induction k with
  | zero => intro l4 a b hm; exfalso; omega
  | succ k ih =>
    intro l4 a b hm
    unfold qw_X13_kindBytes_72
    refine ok_if (fun _ => sc_93 hn R V (by omega)) (fun C => ?_)
    refine ok_rS R V (by omega) ?_; intro v9 _ _ _
    refine ok_if (fun _ => sc_93 hn R V (by omega)) (fun _ => ?_)
    refine ok_add (by omega) ?_; intro v10 e10
    exact ih v10 (by omega) (by omega) (by omega)
theorem sc_52 (hn : 1000000 ≤ nn) (R : RW_ c n) (V : VS_ M) {l1 l2 l3 : Int} (r1 : 0 ≤ l1 ∧ l1 ≤ l3 ∧ l2 ≤ n) (r3 : l3 ≤ 48000) : Ok_ (qj_X13_kindBytes_52 nn c l1 l2 l3 M) (KB l1 l2) := by
  unfold qj_X13_kindBytes_52
  refine ok_if (fun _ => ok_ret (.inl rfl)) (fun C => ?_)
  refine ok_rS R V (by omega) ?_; intro v13 _ _ _
  refine ok_if (fun _ => ?_) (fun _ => ok_ret (.inl rfl))
  refine ok_add (by omega) ?_; intro v14 e14
  exact sc_72 hn R V r1 nn v14 (by omega) (by omega) (by omega)
theorem sc_33 (hn : 1000000 ≤ nn) (R : RW_ c n) (V : VS_ M) {l1 l2 l3 : Int} (r1 : 0 ≤ l1 ∧ l1 ≤ l3 ∧ l2 ≤ n) (r3 : l3 ≤ 48000) : Ok_ (qj_X13_kindBytes_33 nn c l1 l2 l3 M) (KB l1 l2) := by
  have hn' : n ≤ 48000 := by rcases R with ⟨_, e⟩ | ⟨_, e⟩ <;> omega
  unfold qj_X13_kindBytes_33
  refine ok_if (fun _ => sc_52 hn R V r1 r3) (fun C => ?_)
  refine ok_rS R V (by omega) ?_; intro v17 _ _ _
  refine ok_if (fun _ => sc_52 hn R V r1 r3) (fun _ => ?_)
  refine ok_add (by omega) ?_; intro v18 e18
  refine ok_sub (by omega) ?_; intro v19 e19
  exact ok_ret (.inr ⟨by omega, by omega⟩)
theorem sc_17 (hn : 1000000 ≤ nn) (R : RW_ c n) (V : VS_ M) {l1 l2 l3 : Int} (r1 : 0 ≤ l1 ∧ l1 ≤ l3 ∧ l2 ≤ n) (r3 : l3 ≤ 48000) : Ok_ (qj_X13_kindBytes_17 nn c l1 l2 l3 M) (KB l1 l2) := by
  have hn' : n ≤ 48000 := by rcases R with ⟨_, e⟩ | ⟨_, e⟩ <;> omega
  unfold qj_X13_kindBytes_17
  refine ok_if (fun _ => sc_33 hn R V r1 r3) (fun C => ?_)
  refine ok_rS R V (by omega) ?_; intro v22 _ _ _
  refine ok_if (fun _ => sc_33 hn R V r1 r3) (fun _ => ?_)
  refine ok_add (by omega) ?_; intro v23 e23
  exact sc_33 hn R V (by omega) (by omega)
theorem sc_kind (hn : 1000000 ≤ nn) (R : RW_ c n) (V : VS_ M) {a e : Int} (r1 : 0 ≤ a ∧ a ≤ 48000 ∧ e ≤ n) : Ok_ (qf_X13_kindBytes nn c a e M) (KB a e) := by
  unfold qf_X13_kindBytes
  refine ok_if (fun _ => sc_17 hn R V (by omega) (by omega)) (fun C => ?_)
  refine ok_rS R V (by omega) ?_; intro v26 _ _ _
  exact ok_if (fun _ => sc_17 hn R V (by omega) (by omega)) (fun _ => ok_ret (.inr ⟨by omega, by omega⟩))
theorem sc_field (hn : 1000000 ≤ nn) (R : RW_ c n) (V : VS_ M) {a l : Int} (r1 : 0 ≤ a ∧ a ≤ 48000 ∧ a + l ≤ n) (r2 : -60000 ≤ l) : Ok_ (qf_X13_isFieldKind nn c a l M) (fun u => u = 0 ∨ u = 1) := by
  have hn' : n ≤ 48000 := by rcases R with ⟨_, e⟩ | ⟨_, e⟩ <;> omega
  unfold qf_X13_isFieldKind
  refine ok_if (fun _ => ok_ret (.inl rfl)) (fun C => ?_)
  refine ok_add (by omega) ?_; intro v1 e1
  refine ok_sv (sc_kind hn R V (by omega)) ?_; intro u2 _
  exact ok_if (fun _ => ok_ret (.inl rfl)) (fun _ => ok_ret (.inr rfl))
theorem sc_71 (hn : 1000000 ≤ nn) (R : RW_ c n) (V : VS_ M) {l3 l4 l5 : Int} (r1 : 0 ≤ l4 ∧ l4 ≤ l3 ∧ l3 ≤ n) (r5 : 0 ≤ l5 ∧ l5 ≤ 48000) : Ok_ (qj_X13_parametersIn_71 nn c l3 l4 l5 M) (fun u => -1 ≤ u ∧ u ≤ 48000) := by
  have hn' : n ≤ 48000 := by rcases R with ⟨_, e⟩ | ⟨_, e⟩ <;> omega
  have J : ∀ s0 : Int, Ok_ (qj_X13_parametersIn_117 nn l5 s0 M) (fun u => -1 ≤ u ∧ u ≤ 48000) := fun s0 => by
    unfold qj_X13_parametersIn_117
    exact ok_if (fun _ => ok_ret (by omega)) (fun _ => ok_ret (by omega))
  have J2 : Ok_ (qj_X13_parametersIn_112 nn l5 M) (fun u => -1 ≤ u ∧ u ≤ 48000) := by
    unfold qj_X13_parametersIn_112
    exact J 1
  unfold qj_X13_parametersIn_71
  refine ok_if (fun C => ?_) (fun _ => ok_ret (by omega))
  refine ok_add (by omega) ?_; intro v5 e5
  refine ok_add (by omega) ?_; intro v6 e6
  have K : Ok_ (qj_X13_parametersIn_99 nn c l3 v5 l5 M) (fun u => -1 ≤ u ∧ u ≤ 48000) := by
    unfold qj_X13_parametersIn_99
    refine ok_sub (by omega) ?_; intro v2 e2
    refine ok_sv (sc_field hn R V (by omega) (by omega)) ?_; intro u3 _
    exact ok_if (fun _ => J 0) (fun _ => J2)
  refine ok_if (fun _ => K) (fun D => ?_)
  refine ok_rS R V (by omega) ?_; intro v7 _ _ _
  exact ok_if (fun _ => J2) (fun _ => K)
theorem sc_27 (hn : 1000000 ≤ nn) (R : RW_ c n) (V : VS_ M) {l3 : Int} (r3 : l3 ≤ n) : ∀ (k : Nat) (l4 l5 : Int), (0 ≤ l4 ∧ l4 ≤ l3) → (0 ≤ l5 ∧ l5 ≤ l4) → l3 - l4 < (k : Int) → Ok_ (qw_X13_parametersIn_27 nn k c l3 l4 l5 M) (fun u => -1 ≤ u ∧ u ≤ 48000) := by
  have hn' : n ≤ 48000 := by rcases R with ⟨_, e⟩ | ⟨_, e⟩ <;> omega
  intro k
  induction k with
  | zero => intro l4 l5 a b hm; exfalso; omega
  | succ k ih =>
    intro l4 l5 a b hm
    unfold qw_X13_parametersIn_27
    refine ok_if (fun _ => sc_71 hn R V (by omega) (by omega)) (fun C => ?_)
    refine ok_rS R V (by omega) ?_; intro v11 _ _ _
    refine ok_if (fun _ => sc_71 hn R V (by omega) (by omega)) (fun _ => ?_)
    refine ok_sv (sc_kind hn R V (by omega)) ?_; intro u12 P12
    refine ok_if (fun D => ?_) (fun _ => ok_ret (by omega))
    rcases P12 with P12 | P12
    · exact absurd P12 D
    · refine ok_add (by omega) ?_; intro v13 e13
      refine ok_add (by omega) ?_; intro v14 e14
      exact ih v13 v14 (by omega) (by omega) (by omega)
theorem sc_pars (hn : 1000000 ≤ nn) (R : RW_ c n) (V : VS_ M) {a l : Int} (r1 : 0 ≤ a ∧ a + l ≤ n) (r2 : -60000 ≤ l) (r3 : a ≤ 48000) : Ok_ (qf_X13_parametersIn nn c a l M) (fun u => -1 ≤ u ∧ u ≤ 48000) := by
  have hn' : n ≤ 48000 := by rcases R with ⟨_, e⟩ | ⟨_, e⟩ <;> omega
  unfold qf_X13_parametersIn
  refine ok_add (by omega) ?_; intro v18 e18
  refine ok_if (fun _ => ok_ret (by omega)) (fun C => ?_)
  refine ok_rS R V (by omega) ?_; intro v19 _ _ _
  refine ok_if (fun _ => ?_) (fun _ => ok_ret (by omega))
  refine ok_add (by omega) ?_; intro v20 e20
  exact sc_27 hn R V (by omega) nn v20 0 (by omega) (by omega) (by omega)
theorem sc_method (hn : 1000000 ≤ nn) (V : VS_ M) {a l : Int} (r1 : 0 ≤ a ∧ a + l ≤ 6000) (r2 : -6000 ≤ l) : Ok_ (qf_X13_isMethodKind nn a l M) (fun u => u = 0 ∨ u = 1) := by
  unfold qf_X13_isMethodKind
  refine ok_sv (sc_pars hn (.inl ⟨rfl, rfl⟩) V r1 (by omega) (by omega)) ?_; intro u1 _
  refine ok_if (fun _ => ok_ret (.inl rfl)) (fun _ => ?_)
  exact ok_if (fun _ => ok_ret (.inl rfl)) (fun _ => ok_ret (.inr rfl))
theorem sc_ctext (hn : 1000000 ≤ nn) (V : VS_ M) {a l : Int} (r1 : 0 ≤ a ∧ a + l ≤ 6000) (r2 : 0 ≤ l) : Ok_ (qf_X13_isClassText nn a l M) (fun u => u = 0 ∨ u = 1) := by
  have J : Ok_ (qj_X13_isClassText_19 nn a l M) (fun u => u = 0 ∨ u = 1) := by
    unfold qj_X13_isClassText_19
    refine ok_sv (sc_name hn (.inl ⟨rfl, rfl⟩) V r1) ?_; intro u1 P1
    exact ok_ck P1 (ok_ret P1)
  unfold qf_X13_isClassText
  refine ok_if (fun _ => J) (fun C => ?_)
  refine ok_rd (by omega) (gA_238 V) ?_; intro v3 _ _ _
  refine ok_if (fun _ => J) (fun _ => ?_)
  refine ok_sv (sc_field hn (.inl ⟨rfl, rfl⟩) V (by omega) (by omega)) ?_; intro u4 P4
  exact ok_ck P4 (ok_ret P4)
end
section
variable {nn : Nat} {h r z : ms_M} {c : Int}
/-- no FORM yet -/
def Live (h : ms_M) : Prop := h 160 114 = -1
/-- a constant that lies whole within what is read -/
def CP (h : ms_M) (p : Int) : Prop := 3 ≤ p ∧ ((h 238 p.toNat = 1 ∧ (1 ≤ h 238 (p + 1).toNat ∧ h 238 (p + 1).toNat ≤ 120) ∧ p + 2 + h 238 (p + 1).toNat ≤ h 160 113) ∨ (h 238 p.toNat = 2 ∧ p + 5 ≤ h 160 113) ∨ (h 238 p.toNat = 3 ∧ p + 2 ≤ h 160 113) ∨ (h 238 p.toNat = 4 ∧ p + 4 ≤ h 160 113))
def pl (h : ms_M) (c i : Int) : Int := h 228 (256 * c + i).toNat
def CSn (h : ms_M) (c k : Int) : Prop := ∀ i : Int, 1 ≤ i → i ≤ k → CP h (pl h c i)
/-- only the mark moves -/
def NB (h r : ms_M) : Prop := ∀ x k : Nat, ¬ (x = 160 ∧ k = 114) → r x k = h x k
theorem nb_rf : NB h h := fun _ _ _ => rfl
theorem nb_tr (a : NB h z) (b : NB z r) : NB h r := fun x k w => (b x k w).trans (a x k w)
theorem sq_byte (V : VS_ h) {p : Int} : Ok_ (qf_X13_isByte nn p h) (fun u => VS_ u.2 ∧ NB h u.2 ∧ ((u.1 = 1 ∧ u.2 = h ∧ Live h ∧ p < h 160 113) ∨ (u.1 = 0 ∧ ¬ Live u.2))) := by
  have g := gF_160_113 V
  unfold qf_X13_isByte Live
  refine ok_if (fun C => ?_) (fun C => ok_ret ⟨V, nb_rf, .inr ⟨rfl, C⟩⟩)
  refine ok_if (fun D => ?_) (fun D => ?_)
  · unfold qj_X13_isByte_26
    rw [if_neg (fun y => y C)]
    exact ok_ret ⟨V, nb_rf, .inl ⟨rfl, rfl, C, D⟩⟩
  · refine ok_xl ?_; intro h6 E6
    have q : h6 160 114 = h 160 113 := by rw [E6, up_s]
    unfold qj_X13_isByte_26
    rw [if_pos (show ¬ h6 160 114 = -1 by omega)]
    exact ok_ret ⟨by show VS_ h6; rw [E6]; exact wF_160_114 V (by omega), fun x k w => by show h6 x k = h x k; rw [E6, up_n w], .inr ⟨rfl, by show ¬ h6 160 114 = -1; omega⟩⟩
theorem sq_unfit (V : VS_ h) {p : Int} (hp : 0 ≤ p ∧ p ≤ 6010) : Ok_ (qf_X13_unfit nn p h) (fun r => VS_ r ∧ NB h r ∧ ¬ Live r) := by
  unfold qf_X13_unfit Live
  refine ok_if (fun C => ok_ret ⟨V, nb_rf, C⟩) (fun _ => ?_)
  refine ok_xl ?_; intro h2 E2
  exact ok_ret ⟨by rw [E2]; exact wF_160_114 V (by omega), fun x k w => by rw [E2, up_n w], by rw [E2, up_s]; omega⟩
theorem cp_nb {p : Int} (N : NB h r) (C : CP h p) : CP r p := by
  unfold CP at C ⊢
  rw [N 238 _ (by omega), N 238 _ (by omega), N 160 113 (by decide)]; exact C
/-- a constant's place, or -1 -/
theorem sq_const (V : VS_ h) (hc : 0 ≤ c ∧ c ≤ 7) {i : Int} : Ok_ (qf_X13_constantOf nn c i h) (fun u => (u = -1 ∧ ¬ (1 ≤ i ∧ i ≤ h 229 c.toNat)) ∨ ((1 ≤ i ∧ i ≤ h 229 c.toNat) ∧ u = pl h c i ∧ 0 ≤ u ∧ u ≤ 6000)) := by
  unfold qf_X13_constantOf
  refine ok_if (fun _ => ok_ret (.inl ⟨rfl, by omega⟩)) (fun C => ?_)
  refine ok_rd (by omega) (gA_229 V) ?_; intro v2 e2 a2 b2
  refine ok_if (fun _ => ok_ret (.inl ⟨rfl, by omega⟩)) (fun D => ?_)
  refine ok_mul (by omega) ?_; intro v4 e4
  refine ok_add (by omega) ?_; intro v5 e5
  refine ok_rd (by omega) (gA_228 V) ?_; intro v6 e6 a6 b6
  exact ok_ret (.inr ⟨by omega, by rw [e6, e5, e4]; rfl, a6, b6⟩)
/-- is it a text of this sort? -/
theorem sq_text (hn : 1000000 ≤ nn) (V : VS_ h) (hc : h 160 115 = c) (S : CSn h c (h 229 c.toNat)) {i k : Int} : Ok_ (qf_X13_isText nn i k h) (fun u => (u = 0 ∨ u = 1) ∧ (¬ u = 0 → (1 ≤ i ∧ i ≤ h 229 c.toNat) ∧ h 238 (pl h c i).toNat = 1)) := by
  have g := gF_160_115 V
  have g3 := gF_160_113 V
  unfold qf_X13_isText
  refine ok_sv (sq_const V (c := h 160 115) (by omega)) ?_; intro u3 P3
  refine ok_if (fun _ => ok_ret ⟨.inl rfl, fun y => absurd rfl y⟩) (fun C => ?_)
  rcases P3 with P3 | ⟨P3, P4, P5, P6⟩
  · exfalso; omega
  rw [hc] at P3 P4
  have K := S i P3.1 P3.2
  rw [← P4] at K
  obtain ⟨K0, K⟩ := K
  refine ok_rd (by omega) (gA_238 V) ?_; intro v5 e5 _ _
  refine ok_if (fun D => ?_) (fun _ => ok_ret ⟨.inl rfl, fun y => absurd rfl y⟩)
  have K : (1 ≤ h 238 (u3 + 1).toNat ∧ h 238 (u3 + 1).toNat ≤ 120) ∧ u3 + 2 + h 238 (u3 + 1).toNat ≤ h 160 113 := by
    rcases K with K | K | K | K
    · exact K.2
    · exfalso; omega
    · exfalso; omega
    · exfalso; omega
  refine ok_add (by omega) ?_; intro v7 e7
  refine ok_rd (by omega) (gA_238 V) ?_; intro v8 e8 _ _
  rw [e7] at e8
  have F : ∀ u : Int, (u = 0 ∨ u = 1) → (u = 0 ∨ u = 1) ∧ (¬ u = 0 → (1 ≤ i ∧ i ≤ h 229 c.toNat) ∧ h 238 (pl h c i).toNat = 1) := fun u hu => ⟨hu, fun _ => ⟨P3, by rw [← P4]; omega⟩⟩
  refine ok_if (fun _ => ?_) (fun _ => ?_)
  · refine ok_add (by omega) ?_; intro v14 e14
    refine ok_sv (sc_name hn (.inl ⟨rfl, rfl⟩) V (by omega)) ?_; intro u P
    exact ok_ck P (ok_ret (F u P))
  refine ok_if (fun _ => ?_) (fun _ => ?_)
  · refine ok_add (by omega) ?_; intro v14 e14
    refine ok_sv (sc_field hn (.inl ⟨rfl, rfl⟩) V (by omega) (by omega)) ?_; intro u P
    exact ok_ck P (ok_ret (F u P))
  refine ok_if (fun _ => ?_) (fun _ => ?_)
  · refine ok_add (by omega) ?_; intro v14 e14
    refine ok_sv (sc_method hn V (by omega) (by omega)) ?_; intro u P
    exact ok_ck P (ok_ret (F u P))
  refine ok_if (fun _ => ?_) (fun _ => ?_)
  · refine ok_add (by omega) ?_; intro v26 e26
    refine ok_sv (sc_field hn (.inl ⟨rfl, rfl⟩) V (by omega) (by omega)) ?_; intro u27 P
    refine ok_if (fun _ => ok_ret (F 1 (.inr rfl))) (fun _ => ?_)
    refine ok_add (by omega) ?_; intro v29 e29
    refine ok_sv (sc_method hn V (by omega) (by omega)) ?_; intro u30 P
    exact ok_if (fun _ => ok_ret (F 0 (.inl rfl))) (fun _ => ok_ret (F 1 (.inr rfl)))
  · refine ok_add (by omega) ?_; intro v14 e14
    refine ok_sv (sc_ctext hn V (by omega) (by omega)) ?_; intro u P
    exact ok_ck P (ok_ret (F u P))
/-- is it a class? -/
theorem sq_class (V : VS_ h) (hc : h 160 115 = c) (S : CSn h c (h 229 c.toNat)) {i k : Int} : Ok_ (qf_X13_isClassConstant nn i k h) (fun u => (u = 0 ∨ u = 1) ∧ (¬ u = 0 → (1 ≤ i ∧ i ≤ h 229 c.toNat) ∧ h 238 (pl h c i).toNat = 3)) := by
  have g := gF_160_115 V
  have g3 := gF_160_113 V
  unfold qf_X13_isClassConstant
  refine ok_sv (sq_const V (c := h 160 115) (by omega)) ?_; intro u3 P3
  refine ok_if (fun _ => ok_ret ⟨.inl rfl, fun y => absurd rfl y⟩) (fun C => ?_)
  rcases P3 with P3 | ⟨P3, P4, P5, P6⟩
  · exfalso; omega
  rw [hc] at P3 P4
  have K := S i P3.1 P3.2
  rw [← P4] at K
  obtain ⟨K0, K⟩ := K
  refine ok_rd (by omega) (gA_238 V) ?_; intro v5 e5 _ _
  refine ok_if (fun D => ?_) (fun _ => ok_ret ⟨.inl rfl, fun y => absurd rfl y⟩)
  have K : u3 + 2 ≤ h 160 113 := by
    rcases K with K | K | K | K
    · exfalso; omega
    · exfalso; omega
    · exact K.2
    · exfalso; omega
  have F : ∀ u : Int, (u = 0 ∨ u = 1) → (u = 0 ∨ u = 1) ∧ (¬ u = 0 → (1 ≤ i ∧ i ≤ h 229 c.toNat) ∧ h 238 (pl h c i).toNat = 3) := fun u hu => ⟨hu, fun _ => ⟨P3, by rw [← P4]; omega⟩⟩
  refine ok_add (by omega) ?_; intro v8 e8
  refine ok_rd (by omega) (gA_238 V) ?_; intro v9 e9 _ _
  refine ok_sv (sq_const V (c := h 160 115) (by omega)) ?_; intro u11 P11
  refine ok_if (fun _ => ok_ret (F 1 (.inr rfl))) (fun _ => ?_)
  refine ok_if (fun _ => ok_ret (F 0 (.inl rfl))) (fun E => ?_)
  rcases P11 with P11 | ⟨P11, P12, P13, P14⟩
  · exfalso; omega
  rw [hc] at P11 P12
  have K2 := S v9 P11.1 P11.2
  rw [← P12] at K2
  obtain ⟨L0, L⟩ := K2
  refine ok_rd (by omega) (gA_238 V) ?_; intro v13 e13 _ _
  refine ok_if (fun _ => ok_ret (F 0 (.inl rfl))) (fun G => ?_)
  have L : u11 + 2 < h 160 113 := by
    rcases L with L | L | L | L
    · omega
    · exfalso; omega
    · exfalso; omega
    · exfalso; omega
  refine ok_add (by omega) ?_; intro v15 e15
  refine ok_rd (by omega) (gA_238 V) ?_; intro v16 _ _ _
  exact ok_if (fun _ => ok_ret (F 0 (.inl rfl))) (fun _ => ok_ret (F 1 (.inr rfl)))
end
