section
section
variable {nn : Nat} {M : ms_M}
/-- a row handed over: the one that is read in (238), the images (226) -/
def RW_ (c : Nat) (n : Int) : Prop := (c = 238 ∧ n = 6000) ∨ (c = 226 ∧ n = 48000)
theorem ok_rS {α : Type} {Q : α → Prop} {c : Nat} {n j : Int} {G : Int → Option α} (R : RW_ c n) (V : VS_ M) (hj : 0 ≤ j ∧ j < n) (h : ∀ v, v = M c j.toNat → 0 ≤ v → v ≤ 255 → Ok_ (G v) Q) : Ok_ (rd_S c j M G) Q := by
  have g := V.2.1.1.1
  unfold rd_S
  rcases R with ⟨rfl, rfl⟩ | ⟨rfl, rfl⟩
  · rw [if_pos ⟨⟨by unfold cn_M; omega, rfl⟩, hj.1, by show j < 6000; exact hj.2⟩]
    have a := gA_238 V j.toNat (by omega)
    exact h _ rfl a.1 a.2
  · rw [if_pos ⟨⟨by unfold cn_M; omega, rfl⟩, hj.1, by show j < 48000; exact hj.2⟩]
    have a := gA_226 V j.toNat (by omega)
    exact h _ rfl a.1 a.2
variable {c : Nat} {n : Int}
theorem sc_part (hn : 1000000 ≤ nn) (V : VS_ M) {a b : Int} (ra : 0 ≤ a ∧ a ≤ 255) : Ok_ (qf_X13_isNamePart nn a b M) (fun u => u = 0 ∨ u = 1) := by
  unfold qf_X13_isNamePart
  refine ok_sv (vf_X13_isLetter hn (by omega) (by omega) V) ?_; intro u1 _
  refine ok_if (fun _ => ok_ret (.inr rfl)) (fun _ => ?_)
  refine ok_if (fun _ => ok_ret (.inl rfl)) (fun _ => ?_)
  refine ok_sv (vf_X13_isDigit hn (by omega) (by omega) V) ?_; intro u2 _
  refine ok_if (fun _ => ok_ret (.inr rfl)) (fun _ => ?_)
  exact ok_if (fun _ => ok_ret (.inl rfl)) (fun _ => ok_ret (.inr rfl))
theorem sc_name20 (hn : 1000000 ≤ nn) (R : RW_ c n) (V : VS_ M) {l1 l2 : Int} (r1 : 0 ≤ l1 ∧ l1 + l2 ≤ n) : ∀ (k : Nat) (l3 l4 : Int), (l3 = 0 ∨ l3 = 1) → 0 ≤ l4 → (l4 ≤ l2 ∨ l4 = 0) → 48001 - l4 < (k : Int) → Ok_ (qw_X13_isName_20 nn k c l1 l2 l3 l4 M) (fun u => u = 0 ∨ u = 1) := by
  have hn' : n ≤ 48000 := by rcases R with ⟨_, e⟩ | ⟨_, e⟩ <;> omega
  intro k
  induction k with
  | zero => intro l3 l4 a b d hm; exfalso; omega
  | succ k ih =>
    intro l3 l4 a b d hm
    unfold qw_X13_isName_20
    refine ok_if (fun _ => ok_ck a (ok_ret a)) (fun C => ?_)
    refine ok_if (fun _ => ok_ck a (ok_ret a)) (fun C2 => ?_)
    refine ok_add (by omega) ?_; intro v5 e5
    refine ok_rS R V (by omega) ?_; intro v6 e6 a6 b6
    have J : ∀ s0 : Int, Ok_ (qj_X13_isName_46 nn (qw_X13_isName_20 nn k) c l1 l2 l4 s0 v6 M) (fun u => u = 0 ∨ u = 1) := fun s0 => by
      unfold qj_X13_isName_46
      refine ok_sv (sc_part hn V ⟨a6, b6⟩) ?_; intro u1 P1
      refine ok_add (by omega) ?_; intro v2 e2
      exact ih u1 v2 P1 (by omega) (by omega) (by omega)
    exact ok_if (fun _ => J 0) (fun _ => J 1)
theorem sc_name (hn : 1000000 ≤ nn) (R : RW_ c n) (V : VS_ M) {l1 l2 : Int} (r1 : 0 ≤ l1 ∧ l1 + l2 ≤ n) : Ok_ (qf_X13_isName nn c l1 l2 M) (fun u => u = 0 ∨ u = 1) := by
  have J : Ok_ (qj_X13_isName_15 nn c l1 l2 M) (fun u => u = 0 ∨ u = 1) := by
    unfold qj_X13_isName_15
    exact sc_name20 hn R V r1 nn 0 0 (.inl rfl) (by omega) (.inr rfl) (by omega)
  unfold qf_X13_isName
  refine ok_if (fun _ => J) (fun _ => ?_)
  exact ok_if (fun _ => J) (fun _ => sc_name20 hn R V r1 nn 1 0 (.inr rfl) (by omega) (.inr rfl) (by omega))
/-- how long a kind is, or 0 -/
def KB (a e u : Int) : Prop := u = 0 ∨ (1 ≤ u ∧ a + u ≤ e)
theorem sc_93 (hn : 1000000 ≤ nn) (R : RW_ c n) (V : VS_ M) {l1 l2 l3 l4 : Int} (r1 : 0 ≤ l1 ∧ l1 ≤ l3 ∧ l3 < l4 ∧ l2 ≤ n) : Ok_ (qj_X13_kindBytes_93 nn c l1 l2 l3 l4 M) (KB l1 l2) := by
  have hn' : n ≤ 48000 := by rcases R with ⟨_, e⟩ | ⟨_, e⟩ <;> omega
  unfold qj_X13_kindBytes_93
  refine ok_if (fun _ => ok_ret (.inl rfl)) (fun C => ?_)
  refine ok_add (by omega) ?_; intro v1 e1
  refine ok_sub (by omega) ?_; intro v2 e2
  refine ok_sub (by omega) ?_; intro v3 e3
  refine ok_sv (sc_name hn R V (by omega)) ?_; intro u4 _
  refine ok_if (fun _ => ok_ret (.inl rfl)) (fun _ => ?_)
  refine ok_add (by omega) ?_; intro v5 e5
  refine ok_sub (by omega) ?_; intro v6 e6
  exact ok_ret (.inr ⟨by omega, by omega⟩)
theorem sc_72 (hn : 1000000 ≤ nn) (R : RW_ c n) (V : VS_ M) {l1 l2 l3 : Int} (r1 : 0 ≤ l1 ∧ l1 ≤ l3 ∧ l2 ≤ n) : ∀ (k : Nat) (l4 : Int), l3 < l4 → l4 ≤ 48001 → 48002 - l4 < (k : Int) → Ok_ (qw_X13_kindBytes_72 nn k c l1 l2 l3 l4 M) (KB l1 l2) := by
  have hn' : n ≤ 48000 := by rcases R with ⟨_, e⟩ | ⟨_, e⟩ <;> omega
  intro k
  induction k with
  | zero => intro l4 a b hm; exfalso; omega
  | succ k ih =>
    intro l4 a b hm
    unfold qw_X13_kindBytes_72
    refine ok_if (fun _ => sc_93 hn R V (by omega)) (fun C => ?_)
    refine ok_rS R V (by omega) ?_; intro v9 _ _ _
    refine ok_if (fun _ => sc_93 hn R V (by omega)) (fun _ => ?_)
    refine ok_add (by omega) ?_; intro v10 e10
    exact ih v10 (by omega) (by omega) (by omega)
theorem sc_52 (hn : 1000000 ≤ nn) (R : RW_ c n) (V : VS_ M) {l1 l2 l3 : Int} (r1 : 0 ≤ l1 ∧ l1 ≤ l3 ∧ l2 ≤ n) (r3 : l3 ≤ 48000) : Ok_ (qj_X13_kindBytes_52 nn c l1 l2 l3 M) (KB l1 l2) := by
  unfold qj_X13_kindBytes_52
  refine ok_if (fun _ => ok_ret (.inl rfl)) (fun C => ?_)
  refine ok_rS R V (by omega) ?_; intro v13 _ _ _
  refine ok_if (fun _ => ?_) (fun _ => ok_ret (.inl rfl))
  refine ok_add (by omega) ?_; intro v14 e14
  exact sc_72 hn R V r1 nn v14 (by omega) (by omega) (by omega)
theorem sc_33 (hn : 1000000 ≤ nn) (R : RW_ c n) (V : VS_ M) {l1 l2 l3 : Int} (r1 : 0 ≤ l1 ∧ l1 ≤ l3 ∧ l2 ≤ n) (r3 : l3 ≤ 48000) : Ok_ (qj_X13_kindBytes_33 nn c l1 l2 l3 M) (KB l1 l2) := by
  have hn' : n ≤ 48000 := by rcases R with ⟨_, e⟩ | ⟨_, e⟩ <;> omega
  unfold qj_X13_kindBytes_33
  refine ok_if (fun _ => sc_52 hn R V r1 r3) (fun C => ?_)
  refine ok_rS R V (by omega) ?_; intro v17 _ _ _
  refine ok_if (fun _ => sc_52 hn R V r1 r3) (fun _ => ?_)
  refine ok_add (by omega) ?_; intro v18 e18
  refine ok_sub (by omega) ?_; intro v19 e19
  exact ok_ret (.inr ⟨by omega, by omega⟩)
theorem sc_17 (hn : 1000000 ≤ nn) (R : RW_ c n) (V : VS_ M) {l1 l2 l3 : Int} (r1 : 0 ≤ l1 ∧ l1 ≤ l3 ∧ l2 ≤ n) (r3 : l3 ≤ 48000) : Ok_ (qj_X13_kindBytes_17 nn c l1 l2 l3 M) (KB l1 l2) := by
  have hn' : n ≤ 48000 := by rcases R with ⟨_, e⟩ | ⟨_, e⟩ <;> omega
  unfold qj_X13_kindBytes_17
  refine ok_if (fun _ => sc_33 hn R V r1 r3) (fun C => ?_)
  refine ok_rS R V (by omega) ?_; intro v22 _ _ _
  refine ok_if (fun _ => sc_33 hn R V r1 r3) (fun _ => ?_)
  refine ok_add (by omega) ?_; intro v23 e23
  exact sc_33 hn R V (by omega) (by omega)
theorem sc_kind (hn : 1000000 ≤ nn) (R : RW_ c n) (V : VS_ M) {a e : Int} (r1 : 0 ≤ a ∧ a ≤ 48000 ∧ e ≤ n) : Ok_ (qf_X13_kindBytes nn c a e M) (KB a e) := by
  unfold qf_X13_kindBytes
  refine ok_if (fun _ => sc_17 hn R V (by omega) (by omega)) (fun C => ?_)
  refine ok_rS R V (by omega) ?_; intro v26 _ _ _
  exact ok_if (fun _ => sc_17 hn R V (by omega) (by omega)) (fun _ => ok_ret (.inr ⟨by omega, by omega⟩))
theorem sc_field (hn : 1000000 ≤ nn) (R : RW_ c n) (V : VS_ M) {a l : Int} (r1 : 0 ≤ a ∧ a ≤ 48000 ∧ a + l ≤ n) (r2 : -60000 ≤ l) : Ok_ (qf_X13_isFieldKind nn c a l M) (fun u => u = 0 ∨ u = 1) := by
  have hn' : n ≤ 48000 := by rcases R with ⟨_, e⟩ | ⟨_, e⟩ <;> omega
  unfold qf_X13_isFieldKind
  refine ok_if (fun _ => ok_ret (.inl rfl)) (fun C => ?_)
  refine ok_add (by omega) ?_; intro v1 e1
  refine ok_sv (sc_kind hn R V (by omega)) ?_; intro u2 _
  exact ok_if (fun _ => ok_ret (.inl rfl)) (fun _ => ok_ret (.inr rfl))
theorem sc_71 (hn : 1000000 ≤ nn) (R : RW_ c n) (V : VS_ M) {l3 l4 l5 : Int} (r1 : 0 ≤ l4 ∧ l4 ≤ l3 ∧ l3 ≤ n) (r5 : 0 ≤ l5 ∧ l5 ≤ 48000) : Ok_ (qj_X13_parametersIn_71 nn c l3 l4 l5 M) (fun u => -1 ≤ u ∧ u ≤ 48000) := by
  have hn' : n ≤ 48000 := by rcases R with ⟨_, e⟩ | ⟨_, e⟩ <;> omega
  have J : ∀ s0 : Int, Ok_ (qj_X13_parametersIn_117 nn l5 s0 M) (fun u => -1 ≤ u ∧ u ≤ 48000) := fun s0 => by
    unfold qj_X13_parametersIn_117
    exact ok_if (fun _ => ok_ret (by omega)) (fun _ => ok_ret (by omega))
  have J2 : Ok_ (qj_X13_parametersIn_112 nn l5 M) (fun u => -1 ≤ u ∧ u ≤ 48000) := by
    unfold qj_X13_parametersIn_112
    exact J 1
  unfold qj_X13_parametersIn_71
  refine ok_if (fun C => ?_) (fun _ => ok_ret (by omega))
  refine ok_add (by omega) ?_; intro v5 e5
  refine ok_add (by omega) ?_; intro v6 e6
  have K : Ok_ (qj_X13_parametersIn_99 nn c l3 v5 l5 M) (fun u => -1 ≤ u ∧ u ≤ 48000) := by
    unfold qj_X13_parametersIn_99
    refine ok_sub (by omega) ?_; intro v2 e2
    refine ok_sv (sc_field hn R V (by omega) (by omega)) ?_; intro u3 _
    exact ok_if (fun _ => J 0) (fun _ => J2)
  refine ok_if (fun _ => K) (fun D => ?_)
  refine ok_rS R V (by omega) ?_; intro v7 _ _ _
  exact ok_if (fun _ => J2) (fun _ => K)
theorem sc_27 (hn : 1000000 ≤ nn) (R : RW_ c n) (V : VS_ M) {l3 : Int} (r3 : l3 ≤ n) : ∀ (k : Nat) (l4 l5 : Int), (0 ≤ l4 ∧ l4 ≤ l3) → (0 ≤ l5 ∧ l5 ≤ l4) → l3 - l4 < (k : Int) → Ok_ (qw_X13_parametersIn_27 nn k c l3 l4 l5 M) (fun u => -1 ≤ u ∧ u ≤ 48000) := by
  have hn' : n ≤ 48000 := by rcases R with ⟨_, e⟩ | ⟨_, e⟩ <;> omega
  intro k
  induction k with
  | zero => intro l4 l5 a b hm; exfalso; omega
  | succ k ih =>
    intro l4 l5 a b hm
    unfold qw_X13_parametersIn_27
    refine ok_if (fun _ => sc_71 hn R V (by omega) (by omega)) (fun C => ?_)
    refine ok_rS R V (by omega) ?_; intro v11 _ _ _
    refine ok_if (fun _ => sc_71 hn R V (by omega) (by omega)) (fun _ => ?_)
    refine ok_sv (sc_kind hn R V (by omega)) ?_; intro u12 P12
    refine ok_if (fun D => ?_) (fun _ => ok_ret (by omega))
    rcases P12 with P12 | P12
    · exact absurd P12 D
    · refine ok_add (by omega) ?_; intro v13 e13
      refine ok_add (by omega) ?_; intro v14 e14
      exact ih v13 v14 (by omega) (by omega) (by omega)
theorem sc_pars (hn : 1000000 ≤ nn) (R : RW_ c n) (V : VS_ M) {a l : Int} (r1 : 0 ≤ a ∧ a + l ≤ n) (r2 : -60000 ≤ l) (r3 : a ≤ 48000) : Ok_ (qf_X13_parametersIn nn c a l M) (fun u => -1 ≤ u ∧ u ≤ 48000) := by
  have hn' : n ≤ 48000 := by rcases R with ⟨_, e⟩ | ⟨_, e⟩ <;> omega
  unfold qf_X13_parametersIn
  refine ok_add (by omega) ?_; intro v18 e18
  refine ok_if (fun _ => ok_ret (by omega)) (fun C => ?_)
  refine ok_rS R V (by omega) ?_; intro v19 _ _ _
  refine ok_if (fun _ => ?_) (fun _ => ok_ret (by omega))
  refine ok_add (by omega) ?_; intro v20 e20
  exact sc_27 hn R V (by omega) nn v20 0 (by omega) (by omega) (by omega)
theorem sc_method (hn : 1000000 ≤ nn) (V : VS_ M) {a l : Int} (r1 : 0 ≤ a ∧ a + l ≤ 6000) (r2 : -6000 ≤ l) : Ok_ (qf_X13_isMethodKind nn a l M) (fun u => u = 0 ∨ u = 1) := by
  unfold qf_X13_isMethodKind
  refine ok_sv (sc_pars hn (.inl ⟨rfl, rfl⟩) V r1 (by omega) (by omega)) ?_; intro u1 _
  refine ok_if (fun _ => ok_ret (.inl rfl)) (fun _ => ?_)
  exact ok_if (fun _ => ok_ret (.inl rfl)) (fun _ => ok_ret (.inr rfl))
theorem sc_ctext (hn : 1000000 ≤ nn) (V : VS_ M) {a l : Int} (r1 : 0 ≤ a ∧ a + l ≤ 6000) (r2 : 0 ≤ l) : Ok_ (qf_X13_isClassText nn a l M) (fun u => u = 0 ∨ u = 1) := by
  have J : Ok_ (qj_X13_isClassText_19 nn a l M) (fun u => u = 0 ∨ u = 1) := by
    unfold qj_X13_isClassText_19
    refine ok_sv (sc_name hn (.inl ⟨rfl, rfl⟩) V r1) ?_; intro u1 P1
    exact ok_ck P1 (ok_ret P1)
  unfold qf_X13_isClassText
  refine ok_if (fun _ => J) (fun C => ?_)
  refine ok_rd (by omega) (gA_238 V) ?_; intro v3 _ _ _
  refine ok_if (fun _ => J) (fun _ => ?_)
  refine ok_sv (sc_field hn (.inl ⟨rfl, rfl⟩) V (by omega) (by omega)) ?_; intro u4 P4
  exact ok_ck P4 (ok_ret P4)
end
section
variable {nn : Nat} {h r z : ms_M} {c : Int}
/-- no FORM yet -/
def Live (h : ms_M) : Prop := h 160 114 = -1
/-- a constant that lies whole within what is read -/
def CP (h : ms_M) (p : Int) : Prop := 3 ≤ p ∧ ((h 238 p.toNat = 1 ∧ (1 ≤ h 238 (p + 1).toNat ∧ h 238 (p + 1).toNat ≤ 120) ∧ p + 2 + h 238 (p + 1).toNat ≤ h 160 113) ∨ (h 238 p.toNat = 2 ∧ p + 5 ≤ h 160 113) ∨ (h 238 p.toNat = 3 ∧ p + 2 ≤ h 160 113) ∨ (h 238 p.toNat = 4 ∧ p + 4 ≤ h 160 113))
def pl (h : ms_M) (c i : Int) : Int := h 228 (256 * c + i).toNat
def CSn (h : ms_M) (c k : Int) : Prop := ∀ i : Int, 1 ≤ i → i ≤ k → CP h (pl h c i)
/-- only the mark moves -/
def NB (h r : ms_M) : Prop := ∀ x k : Nat, ¬ (x = 160 ∧ k = 114) → r x k = h x k
theorem nb_rf : NB h h := fun _ _ _ => rfl
theorem nb_tr (a : NB h z) (b : NB z r) : NB h r := fun x k w => (b x k w).trans (a x k w)
theorem sq_byte (V : VS_ h) {p : Int} : Ok_ (qf_X13_isByte nn p h) (fun u => VS_ u.2 ∧ NB h u.2 ∧ ((u.1 = 1 ∧ u.2 = h ∧ Live h ∧ p < h 160 113) ∨ (u.1 = 0 ∧ ¬ Live u.2))) := by
  have g := gF_160_113 V
  unfold qf_X13_isByte Live
  refine ok_if (fun C => ?_) (fun C => ok_ret ⟨V, nb_rf, .inr ⟨rfl, C⟩⟩)
  refine ok_if (fun D => ?_) (fun D => ?_)
  · unfold qj_X13_isByte_26
    rw [if_neg (fun y => y C)]
    exact ok_ret ⟨V, nb_rf, .inl ⟨rfl, rfl, C, D⟩⟩
  · refine ok_xl ?_; intro h6 E6
    have q : h6 160 114 = h 160 113 := by rw [E6, up_s]
    unfold qj_X13_isByte_26
    rw [if_pos (show ¬ h6 160 114 = -1 by omega)]
    exact ok_ret ⟨by show VS_ h6; rw [E6]; exact wF_160_114 V (by omega), fun x k w => by show h6 x k = h x k; rw [E6, up_n w], .inr ⟨rfl, by show ¬ h6 160 114 = -1; omega⟩⟩
theorem sq_unfit (V : VS_ h) {p : Int} (hp : 0 ≤ p ∧ p ≤ 6010) : Ok_ (qf_X13_unfit nn p h) (fun r => VS_ r ∧ NB h r ∧ ¬ Live r) := by
  unfold qf_X13_unfit Live
  refine ok_if (fun C => ok_ret ⟨V, nb_rf, C⟩) (fun _ => ?_)
  refine ok_xl ?_; intro h2 E2
  exact ok_ret ⟨by rw [E2]; exact wF_160_114 V (by omega), fun x k w => by rw [E2, up_n w], by rw [E2, up_s]; omega⟩
theorem cp_nb {p : Int} (N : NB h r) (C : CP h p) : CP r p := by
  unfold CP at C ⊢
  rw [N 238 _ (by omega), N 238 _ (by omega), N 160 113 (by decide)]; exact C
/-- a constant's place, or -1 -/
theorem sq_const (V : VS_ h) (hc : 0 ≤ c ∧ c ≤ 7) {i : Int} : Ok_ (qf_X13_constantOf nn c i h) (fun u => (u = -1 ∧ ¬ (1 ≤ i ∧ i ≤ h 229 c.toNat)) ∨ ((1 ≤ i ∧ i ≤ h 229 c.toNat) ∧ u = pl h c i ∧ 0 ≤ u ∧ u ≤ 6000)) := by
  unfold qf_X13_constantOf
  refine ok_if (fun _ => ok_ret (.inl ⟨rfl, by omega⟩)) (fun C => ?_)
  refine ok_rd (by omega) (gA_229 V) ?_; intro v2 e2 a2 b2
  refine ok_if (fun _ => ok_ret (.inl ⟨rfl, by omega⟩)) (fun D => ?_)
  refine ok_mul (by omega) ?_; intro v4 e4
  refine ok_add (by omega) ?_; intro v5 e5
  refine ok_rd (by omega) (gA_228 V) ?_; intro v6 e6 a6 b6
  exact ok_ret (.inr ⟨by omega, by rw [e6, e5, e4]; rfl, a6, b6⟩)
/-- is it a text of this sort? -/
theorem sq_text (hn : 1000000 ≤ nn) (V : VS_ h) (hc : h 160 115 = c) (S : CSn h c (h 229 c.toNat)) {i k : Int} : Ok_ (qf_X13_isText nn i k h) (fun u => (u = 0 ∨ u = 1) ∧ (¬ u = 0 → (1 ≤ i ∧ i ≤ h 229 c.toNat) ∧ h 238 (pl h c i).toNat = 1)) := by
  have g := gF_160_115 V
  have g3 := gF_160_113 V
  unfold qf_X13_isText
  refine ok_sv (sq_const V (c := h 160 115) (by omega)) ?_; intro u3 P3
  refine ok_if (fun _ => ok_ret ⟨.inl rfl, fun y => absurd rfl y⟩) (fun C => ?_)
  rcases P3 with P3 | ⟨P3, P4, P5, P6⟩
  · exfalso; omega
  rw [hc] at P3 P4
  have K := S i P3.1 P3.2
  rw [← P4] at K
  obtain ⟨K0, K⟩ := K
  refine ok_rd (by omega) (gA_238 V) ?_; intro v5 e5 _ _
  refine ok_if (fun D => ?_) (fun _ => ok_ret ⟨.inl rfl, fun y => absurd rfl y⟩)
  have K : (1 ≤ h 238 (u3 + 1).toNat ∧ h 238 (u3 + 1).toNat ≤ 120) ∧ u3 + 2 + h 238 (u3 + 1).toNat ≤ h 160 113 := by
    rcases K with K | K | K | K
    · exact K.2
    · exfalso; omega
    · exfalso; omega
    · exfalso; omega
  refine ok_add (by omega) ?_; intro v7 e7
  refine ok_rd (by omega) (gA_238 V) ?_; intro v8 e8 _ _
  rw [e7] at e8
  have F : ∀ u : Int, (u = 0 ∨ u = 1) → (u = 0 ∨ u = 1) ∧ (¬ u = 0 → (1 ≤ i ∧ i ≤ h 229 c.toNat) ∧ h 238 (pl h c i).toNat = 1) := fun u hu => ⟨hu, fun _ => ⟨P3, by rw [← P4]; omega⟩⟩
  refine ok_if (fun _ => ?_) (fun _ => ?_)
  · refine ok_add (by omega) ?_; intro v14 e14
    refine ok_sv (sc_name hn (.inl ⟨rfl, rfl⟩) V (by omega)) ?_; intro u P
    exact ok_ck P (ok_ret (F u P))
  refine ok_if (fun _ => ?_) (fun _ => ?_)
  · refine ok_add (by omega) ?_; intro v14 e14
    refine ok_sv (sc_field hn (.inl ⟨rfl, rfl⟩) V (by omega) (by omega)) ?_; intro u P
    exact ok_ck P (ok_ret (F u P))
  refine ok_if (fun _ => ?_) (fun _ => ?_)
  · refine ok_add (by omega) ?_; intro v14 e14
    refine ok_sv (sc_method hn V (by omega) (by omega)) ?_; intro u P
    exact ok_ck P (ok_ret (F u P))
  refine ok_if (fun _ => ?_) (fun _ => ?_)
  · refine ok_add (by omega) ?_; intro v26 e26
    refine ok_sv (sc_field hn (.inl ⟨rfl, rfl⟩) V (by omega) (by omega)) ?_; intro u27 P
    refine ok_if (fun _ => ok_ret (F 1 (.inr rfl))) (fun _ => ?_)
    refine ok_add (by omega) ?_; intro v29 e29
    refine ok_sv (sc_method hn V (by omega) (by omega)) ?_; intro u30 P
    exact ok_if (fun _ => ok_ret (F 0 (.inl rfl))) (fun _ => ok_ret (F 1 (.inr rfl)))
  · refine ok_add (by omega) ?_; intro v14 e14
    refine ok_sv (sc_ctext hn V (by omega) (by omega)) ?_; intro u P
    exact ok_ck P (ok_ret (F u P))
/-- is it a class? -/
theorem sq_class (V : VS_ h) (hc : h 160 115 = c) (S : CSn h c (h 229 c.toNat)) {i k : Int} : Ok_ (qf_X13_isClassConstant nn i k h) (fun u => (u = 0 ∨ u = 1) ∧ (¬ u = 0 → (1 ≤ i ∧ i ≤ h 229 c.toNat) ∧ h 238 (pl h c i).toNat = 3)) := by
  have g := gF_160_115 V
  have g3 := gF_160_113 V
  unfold qf_X13_isClassConstant
  refine ok_sv (sq_const V (c := h 160 115) (by omega)) ?_; intro u3 P3
  refine ok_if (fun _ => ok_ret ⟨.inl rfl, fun y => absurd rfl y⟩) (fun C => ?_)
  rcases P3 with P3 | ⟨P3, P4, P5, P6⟩
  · exfalso; omega
  rw [hc] at P3 P4
  have K := S i P3.1 P3.2
  rw [← P4] at K
  obtain ⟨K0, K⟩ := K
  refine ok_rd (by omega) (gA_238 V) ?_; intro v5 e5 _ _
  refine ok_if (fun D => ?_) (fun _ => ok_ret ⟨.inl rfl, fun y => absurd rfl y⟩)
  have K : u3 + 2 ≤ h 160 113 := by
    rcases K with K | K | K | K
    · exfalso; omega
    · exfalso; omega
    · exact K.2
    · exfalso; omega
  have F : ∀ u : Int, (u = 0 ∨ u = 1) → (u = 0 ∨ u = 1) ∧ (¬ u = 0 → (1 ≤ i ∧ i ≤ h 229 c.toNat) ∧ h 238 (pl h c i).toNat = 3) := fun u hu => ⟨hu, fun _ => ⟨P3, by rw [← P4]; omega⟩⟩
  refine ok_add (by omega) ?_; intro v8 e8
  refine ok_rd (by omega) (gA_238 V) ?_; intro v9 e9 _ _
  refine ok_sv (sq_const V (c := h 160 115) (by omega)) ?_; intro u11 P11
  refine ok_if (fun _ => ok_ret (F 1 (.inr rfl))) (fun _ => ?_)
  refine ok_if (fun _ => ok_ret (F 0 (.inl rfl))) (fun E => ?_)
  rcases P11 with P11 | ⟨P11, P12, P13, P14⟩
  · exfalso; omega
  rw [hc] at P11 P12
  have K2 := S v9 P11.1 P11.2
  rw [← P12] at K2
  obtain ⟨L0, L⟩ := K2
  refine ok_rd (by omega) (gA_238 V) ?_; intro v13 e13 _ _
  refine ok_if (fun _ => ok_ret (F 0 (.inl rfl))) (fun G => ?_)
  have L : u11 + 2 < h 160 113 := by
    rcases L with L | L | L | L
    · omega
    · exfalso; omega
    · exfalso; omega
    · exfalso; omega
  refine ok_add (by omega) ?_; intro v15 e15
  refine ok_rd (by omega) (gA_238 V) ?_; intro v16 _ _ _
  exact ok_if (fun _ => ok_ret (F 0 (.inl rfl))) (fun _ => ok_ret (F 1 (.inr rfl)))
end
end
section
section
variable {nn : Nat} {h r z : ms_M} {c : Int}
def TX (h : ms_M) (c i : Int) : Prop := (1 ≤ i ∧ i ≤ h 229 c.toNat) ∧ h 238 (pl h c i).toNat = 1
def CL (h : ms_M) (c i : Int) : Prop := (1 ≤ i ∧ i ≤ h 229 c.toNat) ∧ h 238 (pl h c i).toNat = 3
/-- what a constant names is there -/
def CK8 (h : ms_M) (c p : Int) : Prop := (h 238 p.toNat = 3 → TX h c (h 238 (p + 1).toNat)) ∧ (h 238 p.toNat = 4 → CL h c (h 238 (p + 1).toNat) ∧ TX h c (h 238 (p + 2).toNat) ∧ TX h c (h 238 (p + 3).toNat))
/-- all constants of image c are there -/
def SI8 (h : ms_M) (c : Int) : Prop := h 160 115 = c ∧ CSn h c (h 229 c.toNat) ∧ ∀ i : Int, 1 ≤ i → i ≤ h 229 c.toNat → CK8 h c (pl h c i)
/-- what these readers leave -/
def KE8 (h r : ms_M) (c : Int) : Prop := (∀ k : Nat, r 238 k = h 238 k ∧ r 228 k = h 228 k) ∧ r 160 113 = h 160 113 ∧ r 160 115 = h 160 115 ∧ r 229 c.toNat = h 229 c.toNat
theorem ke_nb (N : NB h r) : KE8 h r c := ⟨fun k => ⟨N 238 k (by omega), N 228 k (by omega)⟩, N 160 113 (by decide), N 160 115 (by decide), N 229 _ (by omega)⟩
theorem ke8_rf : KE8 h h c := ⟨fun _ => ⟨rfl, rfl⟩, rfl, rfl, rfl⟩
theorem ke8_tr (a : KE8 h z c) (b : KE8 z r c) : KE8 h r c := ⟨fun k => ⟨(b.1 k).1.trans (a.1 k).1, (b.1 k).2.trans (a.1 k).2⟩, b.2.1.trans a.2.1, b.2.2.1.trans a.2.2.1, b.2.2.2.trans a.2.2.2⟩
theorem ke8_up {x k : Nat} {v : Int} (E : z = up_M h x k v) (hx : 230 ≤ x ∧ x ≤ 237) : KE8 h z c := ⟨fun j => ⟨by rw [E, up_n (by omega)], by rw [E, up_n (by omega)]⟩, by rw [E, up_n (by omega)], by rw [E, up_n (by omega)], by rw [E, up_n (by omega)]⟩
theorem pl_ke {i : Int} (K : KE8 h r c) : pl r c i = pl h c i := (K.1 _).2
theorem tx_ke {i : Int} (K : KE8 h r c) (x : TX h c i) : TX r c i := by
  unfold TX at x ⊢
  rw [pl_ke K, (K.1 _).1, K.2.2.2]; exact x
theorem cl_ke {i : Int} (K : KE8 h r c) (x : CL h c i) : CL r c i := by
  unfold CL at x ⊢
  rw [pl_ke K, (K.1 _).1, K.2.2.2]; exact x
theorem cp_ke {p : Int} (K : KE8 h r c) (x : CP h p) : CP r p := by
  unfold CP at x ⊢
  rw [(K.1 _).1, (K.1 _).1, K.2.1]; exact x
theorem cs_ke (K : KE8 h r c) {n : Int} (x : CSn h c n) : CSn r c n := fun i a b => by rw [pl_ke K]; exact cp_ke K (x i a b)
theorem ck_ke {p : Int} (K : KE8 h r c) (x : CK8 h c p) : CK8 r c p := by
  unfold CK8
  rw [(K.1 _).1, (K.1 _).1, (K.1 _).1, (K.1 _).1]
  exact ⟨fun y => tx_ke K (x.1 y), fun y => ⟨cl_ke K (x.2 y).1, tx_ke K (x.2 y).2.1, tx_ke K (x.2 y).2.2⟩⟩
theorem si8_ke (K : KE8 h r c) (x : SI8 h c) : SI8 r c := ⟨K.2.2.1.trans x.1, by rw [K.2.2.2]; exact cs_ke K x.2.1, fun i a b => by rw [pl_ke K]; rw [K.2.2.2] at b; exact ck_ke K (x.2.2 i a b)⟩
theorem live_nb (N : NB h r) (e : r = h) (L : Live h) : Live r := by rw [e]; exact L
/-- the letters of a text -/
theorem sq_77 {p L : Int} (hp : 0 ≤ p ∧ p ≤ 6000) (hL : 0 ≤ L ∧ L ≤ 255) : ∀ (k : Nat) (l3 : Int) (g : ms_M), VS_ g → NB h g → (Live g → p + 2 + l3 ≤ h 160 113) → (0 ≤ l3 ∧ l3 ≤ L) → L - l3 < (k : Int) → Ok_ (qw_X13_scanConstant_77 nn k p L l3 g) (fun u => VS_ u.2 ∧ NB h u.2 ∧ u.1 = p + 2 + L ∧ (Live u.2 → Live g ∧ p + 2 + L ≤ h 160 113)) := by
  intro k
  induction k with
  | zero => intro l3 g V N l a hm; exfalso; omega
  | succ k ih =>
    intro l3 g V N l a hm
    have E : (Live g → p + 2 + L ≤ h 160 113) → Ok_ (qj_X13_scanConstant_147 nn p L g) (fun u => VS_ u.2 ∧ NB h u.2 ∧ u.1 = p + 2 + L ∧ (Live u.2 → Live g ∧ p + 2 + L ≤ h 160 113)) := fun w => by
      unfold qj_X13_scanConstant_147
      refine ok_add (by omega) ?_; intro v1 e1
      refine ok_add (by omega) ?_; intro v2 e2
      exact ok_ret ⟨V, N, by show v2 = _; omega, fun y => ⟨y, w y⟩⟩
    have g113 := gF_160_113 V
    have e113 := N 160 113 (by decide)
    unfold qw_X13_scanConstant_77
    refine ok_if (fun C => E (fun y => by have := l y; omega)) (fun C => ?_)
    refine ok_if (fun D => E (fun y => absurd y D)) (fun D => ?_)
    have D : Live g := Classical.not_not.1 D
    have l := l D
    refine ok_add (by omega) ?_; intro v9 e9
    refine ok_add (by omega) ?_; intro v10 e10
    refine ok_sv (sq_byte V) ?_; intro u12 P12
    obtain ⟨V12, N12, P12⟩ := P12
    refine ok_if (fun F => ?_) (fun F => ?_)
    · refine ok_add (by omega) ?_; intro v13 e13
      rcases P12 with ⟨q, _⟩ | ⟨_, q⟩
      · exfalso; omega
      · exact ok_im (ih v13 u12.2 V12 (nb_tr N N12) (fun y => absurd y q) (by omega) (by omega)) (fun u w => ⟨w.1, w.2.1, w.2.2.1, fun y => absurd (w.2.2.2 y).1 q⟩)
    · rcases P12 with ⟨_, q2, _, q4⟩ | ⟨q, _⟩
      · rw [q2]
        have bad : Ok_ (qj_X13_scanConstant_132 nn (qw_X13_scanConstant_77 nn k) p L l3 g) (fun u => VS_ u.2 ∧ NB h u.2 ∧ u.1 = p + 2 + L ∧ (Live u.2 → Live g ∧ p + 2 + L ≤ h 160 113)) := by
          unfold qj_X13_scanConstant_132
          refine ok_add (by omega) ?_; intro v3 e3
          refine ok_add (by omega) ?_; intro v4 e4
          refine ok_sv (sq_unfit V (by omega)) ?_; intro u6 P6
          refine ok_add (by omega) ?_; intro v7 e7
          exact ok_im (ih v7 u6 P6.1 (nb_tr N P6.2.1) (fun y => absurd y P6.2.2) (by omega) (by omega)) (fun u w => ⟨w.1, w.2.1, w.2.2.1, fun y => absurd (w.2.2.2 y).1 P6.2.2⟩)
        refine ok_add (by omega) ?_; intro v15 e15
        refine ok_add (by omega) ?_; intro v16 e16
        refine ok_rd (by omega) (gA_238 V) ?_; intro v17 _ _ _
        refine ok_if (fun _ => bad) (fun _ => ?_)
        refine ok_add (by omega) ?_; intro v19 e19
        refine ok_add (by omega) ?_; intro v20 e20
        refine ok_rd (by omega) (gA_238 V) ?_; intro v21 _ _ _
        refine ok_if (fun _ => ?_) (fun _ => bad)
        refine ok_add (by omega) ?_; intro v22 e22
        exact ih v22 g V N (fun _ => by omega) (by omega) (by omega)
      · exfalso; omega
theorem sq_scanC (hn : 1000000 ≤ nn) (V : VS_ h) {p : Int} (hp : 3 ≤ p ∧ p < h 160 113) : Ok_ (qf_X13_scanConstant nn p h) (fun u => VS_ u.2 ∧ NB h u.2 ∧ (p ≤ u.1 ∧ u.1 ≤ 6300) ∧ (Live u.2 → Live h ∧ CP h p ∧ 3 ≤ u.1 ∧ u.1 ≤ h 160 113)) := by
  have g113 := gF_160_113 V
  unfold qf_X13_scanConstant
  refine ok_rd (by omega) (gA_238 V) ?_; intro v32 e32 _ _
  refine ok_if (fun C1 => ?_) (fun C1 => ?_)
  · refine ok_add (by omega) ?_; intro v35 e35
    refine ok_sv (sq_byte V) ?_; intro u37 P
    obtain ⟨V37, N37, P⟩ := P
    refine ok_if (fun F => ?_) (fun F => ?_)
    · rcases P with ⟨_, q2, q3, q4⟩ | ⟨q, _⟩
      · rw [q2]
        refine ok_add (by omega) ?_; intro v39 e39
        refine ok_rd (by omega) (gA_238 V) ?_; intro v40 e40 a40 b40
        rw [e39] at e40
        have bad : Ok_ (qj_X13_scanConstant_68 nn p v40 h) (fun u => VS_ u.2 ∧ NB h u.2 ∧ (p ≤ u.1 ∧ u.1 ≤ 6300) ∧ (Live u.2 → Live h ∧ CP h p ∧ 3 ≤ u.1 ∧ u.1 ≤ h 160 113)) := by
          unfold qj_X13_scanConstant_68
          refine ok_add (by omega) ?_; intro v28 e28
          refine ok_sv (sq_unfit V (by omega)) ?_; intro u30 P30
          exact ok_im (sq_77 (h := u30) (by omega) (by omega) nn 0 u30 P30.1 nb_rf (fun y => absurd y P30.2.2) (by omega) (by omega)) (fun u w => ⟨w.1, nb_tr P30.2.1 w.2.1, by have := w.2.2.1; omega, fun y => absurd (w.2.2.2 y).1 P30.2.2⟩)
        refine ok_if (fun _ => bad) (fun D1 => ?_)
        refine ok_if (fun D2 => ?_) (fun _ => bad)
        refine ok_im (sq_77 (h := h) (by omega) (by omega) nn 0 h V nb_rf (fun _ => by omega) (by omega) (by omega)) (fun u w => ⟨w.1, w.2.1, by have := w.2.2.1; omega, fun y => ?_⟩)
        obtain ⟨y1, y2⟩ := w.2.2.2 y
        have := w.2.2.1
        exact ⟨y1, ⟨hp.1, .inl ⟨by omega, by omega, by omega⟩⟩, by omega, by omega⟩
      · exfalso; omega
    · exact ok_ret ⟨V37, N37, by show p ≤ p ∧ p ≤ 6300; omega, fun y => by
        rcases P with ⟨q, _⟩ | ⟨_, q⟩
        · exfalso; omega
        · exact absurd y q⟩
  · refine ok_if (fun C2 => ?_) (fun C2 => ?_)
    · refine ok_add (by omega) ?_; intro v44 e44
      refine ok_sv (sq_byte V) ?_; intro u46 P
      obtain ⟨V46, N46, P⟩ := P
      refine ok_add (by omega) ?_; intro v47 e47
      refine ok_ret ⟨V46, N46, by show p ≤ v47 ∧ v47 ≤ 6300; omega, fun y => ?_⟩
      rcases P with ⟨_, _, q3, q4⟩ | ⟨_, q⟩
      · exact ⟨q3, ⟨hp.1, .inr (.inl ⟨by omega, by omega⟩)⟩, by show 3 ≤ v47; omega, by show v47 ≤ _; omega⟩
      · exact absurd y q
    · refine ok_if (fun C3 => ?_) (fun C3 => ?_)
      · refine ok_add (by omega) ?_; intro v48 e48
        refine ok_sv (sq_byte V) ?_; intro u46 P
        obtain ⟨V46, N46, P⟩ := P
        refine ok_add (by omega) ?_; intro v47 e47
        refine ok_ret ⟨V46, N46, by show p ≤ v47 ∧ v47 ≤ 6300; omega, fun y => ?_⟩
        rcases P with ⟨_, _, q3, q4⟩ | ⟨_, q⟩
        · exact ⟨q3, ⟨hp.1, .inr (.inr (.inl ⟨by omega, by omega⟩))⟩, by show 3 ≤ v47; omega, by show v47 ≤ _; omega⟩
        · exact absurd y q
      · refine ok_if (fun C4 => ?_) (fun C4 => ?_)
        · refine ok_add (by omega) ?_; intro v48 e48
          refine ok_sv (sq_byte V) ?_; intro u46 P
          obtain ⟨V46, N46, P⟩ := P
          refine ok_add (by omega) ?_; intro v47 e47
          refine ok_ret ⟨V46, N46, by show p ≤ v47 ∧ v47 ≤ 6300; omega, fun y => ?_⟩
          rcases P with ⟨_, _, q3, q4⟩ | ⟨_, q⟩
          · exact ⟨q3, ⟨hp.1, .inr (.inr (.inr ⟨by omega, by omega⟩))⟩, by show 3 ≤ v47; omega, by show v47 ≤ _; omega⟩
          · exact absurd y q
        · refine ok_sv (sq_unfit V (by omega)) ?_; intro u34 P34
          exact ok_ret ⟨P34.1, P34.2.1, by show p ≤ p ∧ p ≤ 6300; omega, fun y => absurd y P34.2.2⟩
/-- what a constant names -/
theorem sq_check (hn : 1000000 ≤ nn) (V : VS_ h) (hc : h 160 115 = c) (S : CSn h c (h 229 c.toNat)) {p : Int} (P : CP h p) : Ok_ (qf_X13_checkConstant nn p h) (fun r => VS_ r ∧ NB h r ∧ (Live r → Live h ∧ CK8 h c p)) := by
  have g113 := gF_160_113 V
  obtain ⟨P0, P⟩ := P
  have pn : p + 2 ≤ h 160 113 := by
    rcases P with P | P | P | P <;> omega
  -- the end: the member's kind
  have J105 : ∀ g : ms_M, VS_ g → NB h g → h 238 p.toNat = 4 → (Live g → Live h ∧ CL h c (h 238 (p + 1).toNat) ∧ TX h c (h 238 (p + 2).toNat)) → Ok_ (qj_X13_checkConstant_105 nn p g) (fun r => VS_ r ∧ NB h r ∧ (Live r → Live h ∧ CK8 h c p)) := fun g Vg N k4 lg => by
    have pn4 : p + 4 ≤ h 160 113 := by
      rcases P with P | P | P | P
      · exfalso; omega
      · exfalso; omega
      · exfalso; omega
      · exact P.2
    have K : KE8 h g c := ke_nb N
    unfold qj_X13_checkConstant_105
    refine ok_add (by omega) ?_; intro v2 e2
    refine ok_rd (by omega) (gA_238 Vg) ?_; intro v3 e3 _ _
    rw [e2, N 238 _ (by omega)] at e3
    refine ok_sv (sq_text hn Vg (c := c) (by rw [K.2.2.1]; exact hc) (by rw [K.2.2.2]; exact cs_ke K S)) ?_; intro u5 P5
    refine ok_if (fun F => ?_) (fun F => ?_)
    · refine ok_ret ⟨Vg, N, fun y => ?_⟩
      obtain ⟨y1, y2, y3⟩ := lg y
      have t := P5.2 F
      rw [K.2.2.2, pl_ke K, (K.1 _).1, e3] at t
      exact ⟨y1, fun k => by exfalso; omega, fun _ => ⟨y2, y3, t⟩⟩
    · refine ok_add (by omega) ?_; intro v6 e6
      refine ok_sv (sq_unfit Vg (by omega)) ?_; intro u8 P8
      exact ok_ret ⟨P8.1, nb_tr N P8.2.1, fun y => absurd y P8.2.2⟩
  have J82 : ∀ g : ms_M, VS_ g → NB h g → h 238 p.toNat = 4 → (Live g → Live h ∧ CL h c (h 238 (p + 1).toNat)) → Ok_ (qj_X13_checkConstant_82 nn p g) (fun r => VS_ r ∧ NB h r ∧ (Live r → Live h ∧ CK8 h c p)) := fun g Vg N k4 lg => by
    have pn4 : p + 4 ≤ h 160 113 := by
      rcases P with P | P | P | P
      · exfalso; omega
      · exfalso; omega
      · exfalso; omega
      · exact P.2
    have K : KE8 h g c := ke_nb N
    unfold qj_X13_checkConstant_82
    refine ok_add (by omega) ?_; intro v2 e2
    refine ok_rd (by omega) (gA_238 Vg) ?_; intro v3 e3 _ _
    rw [e2, N 238 _ (by omega)] at e3
    refine ok_sv (sq_text hn Vg (c := c) (by rw [K.2.2.1]; exact hc) (by rw [K.2.2.2]; exact cs_ke K S)) ?_; intro u5 P5
    refine ok_if (fun F => ?_) (fun F => ?_)
    · refine J105 g Vg N k4 (fun y => ?_)
      obtain ⟨y1, y2⟩ := lg y
      have t := P5.2 F
      rw [K.2.2.2, pl_ke K, (K.1 _).1, e3] at t
      exact ⟨y1, y2, t⟩
    · refine ok_add (by omega) ?_; intro v6 e6
      refine ok_sv (sq_unfit Vg (by omega)) ?_; intro u8 P8
      exact J105 u8 P8.1 (nb_tr N P8.2.1) k4 (fun y => absurd y P8.2.2)
  have J75 : ∀ g : ms_M, VS_ g → NB h g → h 238 p.toNat = 4 → Ok_ (qj_X13_checkConstant_75 nn p g) (fun r => VS_ r ∧ NB h r ∧ (Live r → Live h ∧ CK8 h c p)) := fun g Vg N k4 => by
    unfold qj_X13_checkConstant_75
    refine ok_add (by omega) ?_; intro v6 e6
    refine ok_sv (sq_unfit Vg (by omega)) ?_; intro u8 P8
    exact J82 u8 P8.1 (nb_tr N P8.2.1) k4 (fun y => absurd y P8.2.2)
  have J33 : ∀ g : ms_M, VS_ g → NB h g → (Live g → Live h ∧ (h 238 p.toNat = 3 → TX h c (h 238 (p + 1).toNat))) → Ok_ (qj_X13_checkConstant_33 nn p g) (fun r => VS_ r ∧ NB h r ∧ (Live r → Live h ∧ CK8 h c p)) := fun g Vg N lg => by
    have K : KE8 h g c := ke_nb N
    unfold qj_X13_checkConstant_33
    refine ok_rd (by omega) (gA_238 Vg) ?_; intro v23 e23 _ _
    rw [N 238 _ (by omega)] at e23
    refine ok_if (fun F => ?_) (fun F => ok_ret ⟨Vg, N, fun y => ⟨(lg y).1, (lg y).2, fun k => by exfalso; omega⟩⟩)
    have k4 : h 238 p.toNat = 4 := by omega
    refine ok_add (by omega) ?_; intro v26 e26
    refine ok_rd (by omega) (gA_238 Vg) ?_; intro v27 e27 _ _
    rw [e26, N 238 _ (by omega)] at e27
    have g115 := gF_160_115 Vg
    refine ok_sv (sq_const Vg (c := g 160 115) (by omega)) ?_; intro u29 P29
    refine ok_if (fun _ => J75 g Vg N k4) (fun D => ?_)
    rcases P29 with P29 | ⟨P29, P30, P31, P32⟩
    · exfalso; omega
    have ec : g 160 115 = c := by rw [K.2.2.1]; exact hc
    rw [ec] at P29 P30
    rw [K.2.2.2] at P29
    have s := S v27 P29.1 P29.2
    rw [← pl_ke K, ← P30] at s
    have sb : u29 < h 160 113 := by
      obtain ⟨s0, s⟩ := s
      rcases s with s | s | s | s <;> omega
    refine ok_rd (by omega) (gA_238 Vg) ?_; intro v31 e31 _ _
    refine ok_if (fun E => ?_) (fun _ => J75 g Vg N k4)
    refine J82 g Vg N k4 (fun y => ⟨(lg y).1, ?_⟩)
    rw [← e27]
    exact ⟨P29, by rw [← pl_ke K, ← P30, ← N 238 _ (by omega)]; omega⟩
  unfold qf_X13_checkConstant
  refine ok_rd (by omega) (gA_238 V) ?_; intro v36 e36 _ _
  refine ok_if (fun F => J33 h V nb_rf (fun y => ⟨y, fun k => by exfalso; omega⟩)) (fun F => ?_)
  refine ok_add (by omega) ?_; intro v38 e38
  refine ok_rd (by omega) (gA_238 V) ?_; intro v39 e39 _ _
  rw [e38] at e39
  refine ok_sv (sq_text hn V hc S) ?_; intro u41 P41
  refine ok_if (fun G => ?_) (fun G => ?_)
  · refine J33 h V nb_rf (fun y => ⟨y, fun _ => ?_⟩)
    rw [← e39]; exact P41.2 G
  · refine ok_add (by omega) ?_; intro v42 e42
    refine ok_sv (sq_unfit V (by omega)) ?_; intro u44 P44
    exact J33 u44 P44.1 P44.2.1 (fun y => absurd y P44.2.2)
end
end
section
section
variable {nn : Nat} {h g r z : ms_M} {c : Int}
/-- what reading image c leaves -/
def NT8 (c : Int) (h r : ms_M) : Prop := ∀ x k : Nat, ¬ (x = 160 ∧ k = 114) → ¬ (x = 228 ∧ 256 * c ≤ (k : Int) ∧ (k : Int) < 256 * c + 256) → ¬ ((x = 229 ∨ x = 232 ∨ x = 234) ∧ (k : Int) = c) → ¬ ((x = 233 ∨ x = 235 ∨ x = 236 ∨ x = 237) ∧ 12 * c ≤ (k : Int) ∧ (k : Int) < 12 * c + 12) → r x k = h x k
theorem nt8_rf : NT8 c h h := fun _ _ _ _ _ _ => rfl
theorem nt8_tr (a : NT8 c h z) (b : NT8 c z r) : NT8 c h r := fun x k w1 w2 w3 w4 => (b x k w1 w2 w3 w4).trans (a x k w1 w2 w3 w4)
theorem nt8_nb (N : NB h r) : NT8 c h r := fun x k w _ _ _ => N x k w
/-- where reading stands, behind the constants -/
def ST8 (h g : ms_M) (c : Int) : Prop := VS_ g ∧ KE8 h g c ∧ NT8 c h g ∧ (Live g → Live h)
theorem st8_0 (V : VS_ h) : ST8 h h c := ⟨V, ke8_rf, nt8_rf, id⟩
theorem st8_byte (S : ST8 h g c) {p : Int} : Ok_ (qf_X13_isByte nn p g) (fun u => ST8 h u.2 c ∧ ((u.1 = 1 ∧ u.2 = g ∧ Live g ∧ p < h 160 113) ∨ (u.1 = 0 ∧ ¬ Live u.2))) := by
  obtain ⟨s1, s2, s3, s4⟩ := S
  refine ok_im (sq_byte s1) (fun u P => ?_)
  obtain ⟨V, N, P⟩ := P
  have K : KE8 g u.2 c := ke_nb N
  refine ⟨⟨V, ke8_tr s2 K, nt8_tr s3 (nt8_nb N), fun y => ?_⟩, ?_⟩
  · rcases P with ⟨_, _, q, _⟩ | ⟨_, q⟩
    · exact s4 q
    · exact absurd y q
  · rcases P with ⟨q1, q2, q3, q4⟩ | q
    · exact .inl ⟨q1, q2, q3, by rw [← s2.2.1]; exact q4⟩
    · exact .inr q
theorem st8_unfit (S : ST8 h g c) {p : Int} (hp : 0 ≤ p ∧ p ≤ 6010) : Ok_ (qf_X13_unfit nn p g) (fun r => ST8 h r c ∧ ¬ Live r) := by
  obtain ⟨s1, s2, s3, s4⟩ := S
  refine ok_im (sq_unfit s1 hp) (fun u P => ?_)
  exact ⟨⟨P.1, ke8_tr s2 (ke_nb P.2.1), nt8_tr s3 (nt8_nb P.2.1), fun y => absurd y P.2.2⟩, P.2.2⟩
theorem st8_up {x k : Nat} {v : Int} (S : ST8 h g c) (E : z = up_M g x k v) (V : VS_ z) (hx : 230 ≤ x ∧ x ≤ 237) (hk : ((x = 232 ∨ x = 234) ∧ (k : Int) = c) ∨ ((x = 233 ∨ x = 235 ∨ x = 236 ∨ x = 237) ∧ 12 * c ≤ (k : Int) ∧ (k : Int) < 12 * c + 12)) : ST8 h z c ∧ (Live z → Live g) := by
  obtain ⟨s1, s2, s3, s4⟩ := S
  have e : z 160 114 = g 160 114 := by rw [E, up_n (by omega)]
  have l : Live z → Live g := fun y => by unfold Live at y ⊢; omega
  refine ⟨⟨V, ke8_tr s2 (ke8_up E hx), nt8_tr s3 (fun x2 k2 w1 w2 w3 w4 => ?_), fun y => s4 (l y)⟩, l⟩
  rw [E, up_n (by omega)]
theorem st8_text (hn : 1000000 ≤ nn) (S : ST8 h g c) (B : SI8 h c) {i k : Int} : Ok_ (qf_X13_isText nn i k g) (fun u => (u = 0 ∨ u = 1) ∧ (¬ u = 0 → TX h c i)) := by
  have K := S.2.1
  have Bg := si8_ke K B
  refine ok_im (sq_text hn S.1 Bg.1 Bg.2.1) (fun u P => ⟨P.1, fun y => ?_⟩)
  have t := P.2 y
  rw [K.2.2.2, pl_ke K, (K.1 _).1] at t
  exact t
theorem st8_class (S : ST8 h g c) (B : SI8 h c) {i k : Int} : Ok_ (qf_X13_isClassConstant nn i k g) (fun u => (u = 0 ∨ u = 1) ∧ (¬ u = 0 → CL h c i)) := by
  have K := S.2.1
  have Bg := si8_ke K B
  refine ok_im (sq_class S.1 Bg.1 Bg.2.1) (fun u P => ⟨P.1, fun y => ?_⟩)
  have t := P.2 y
  rw [K.2.2.2, pl_ke K, (K.1 _).1] at t
  exact t
/-- a place behind which reading goes on -/
def QP8 (h : ms_M) (c : Int) (g : ms_M) (u : Int × ms_M) : Prop := ST8 h u.2 c ∧ (0 ≤ u.1 ∧ u.1 ≤ 80000) ∧ (Live u.2 → Live g ∧ u.1 ≤ h 160 113)
theorem qp_dead {f : ms_M} {u : Int × ms_M} (d : ¬ Live f) (P : QP8 h c f u) : QP8 h c g u := ⟨P.1, P.2.1, fun y => absurd (P.2.2 y).1 d⟩
theorem qp_live {f : ms_M} {u : Int × ms_M} (d : Live f → Live g) (P : QP8 h c f u) : QP8 h c g u := ⟨P.1, P.2.1, fun y => ⟨d (P.2.2 y).1, (P.2.2 y).2⟩⟩
/-- types, one behind the other -/
theorem sq_24 (hn : 1000000 ≤ nn) (V0 : VS_ h) (B : Live h → SI8 h c) {l2 : Int} (h2 : 0 ≤ l2 ∧ l2 ≤ 255) : ∀ (k : Nat) (l3 l4 : Int) (g : ms_M), ST8 h g c → (0 ≤ l3 ∧ l3 ≤ 80000) → (Live g → l3 ≤ h 160 113) → (0 ≤ l4 ∧ l4 ≤ l2) → l2 - l4 < (k : Int) → Ok_ (qw_X13_scanTypes_24 nn k l2 l3 l4 g) (QP8 h c g) := by
  have g113 := gF_160_113 V0
  intro k
  induction k with
  | zero => intro l3 l4 g S a l b hm; exfalso; omega
  | succ k ih =>
    intro l3 l4 g S a l b hm
    unfold qw_X13_scanTypes_24
    refine ok_if (fun _ => ok_ret ⟨S, a, fun y => ⟨y, l y⟩⟩) (fun C => ?_)
    refine ok_sv (st8_byte S) ?_; intro u24 P
    obtain ⟨S24, P⟩ := P
    rcases P with ⟨p1, p2, p3, p4⟩ | ⟨p1, p2⟩
    · rw [if_pos (show ¬ u24.1 = 0 by omega), p2]
      have V := S.1
      have Bh := B (S.2.2.2 p3)
      refine ok_rd (by omega) (gA_238 V) ?_; intro v26 e26 _ _
      have J : ∀ f : ms_M, ST8 h f c → (Live f → Live g) → Ok_ (qj_X13_scanTypes_55 nn (qw_X13_scanTypes_24 nn k) l2 l3 l4 f) (QP8 h c g) := fun f Sf lf => by
        unfold qj_X13_scanTypes_55
        refine ok_rd (by omega) (gA_238 Sf.1) ?_; intro v2 e2 _ _
        refine ok_if (fun _ => ?_) (fun _ => ?_)
        · refine ok_add (by omega) ?_; intro v3 e3
          refine ok_add (by omega) ?_; intro v4 e4
          exact ok_im (ih v3 v4 f Sf (by omega) (fun _ => by omega) (by omega) (by omega)) (fun u q => qp_live lf q)
        · refine ok_add (by omega) ?_; intro v5 e5
          refine ok_sv (st8_byte Sf) ?_; intro u7 P7
          obtain ⟨S7, P7⟩ := P7
          rcases P7 with ⟨q1, q2, q3, q4⟩ | ⟨q1, q2⟩
          · rw [if_neg (show ¬ u7.1 = 0 by omega), q2]
            refine ok_rd (by omega) (gA_238 Sf.1) ?_; intro v11 _ _ _
            refine ok_sv (st8_class Sf Bh) ?_; intro u13 _
            refine ok_if (fun _ => ?_) (fun _ => ?_)
            · refine ok_add (by omega) ?_; intro v14 e14
              refine ok_add (by omega) ?_; intro v15 e15
              exact ok_im (ih v14 v15 f Sf (by omega) (fun _ => by omega) (by omega) (by omega)) (fun u q => qp_live lf q)
            · refine ok_sv (st8_unfit Sf (by omega)) ?_; intro u17 P17
              refine ok_add (by omega) ?_; intro v18 e18
              refine ok_add (by omega) ?_; intro v19 e19
              exact ok_im (ih v18 v19 u17 P17.1 (by omega) (fun y => absurd y P17.2) (by omega) (by omega)) (fun u q => qp_dead P17.2 q)
          · rw [if_pos q1]
            refine ok_add (by omega) ?_; intro v8 e8
            refine ok_add (by omega) ?_; intro v9 e9
            exact ok_im (ih v8 v9 u7.2 S7 (by omega) (fun y => absurd y q2) (by omega) (by omega)) (fun u q => qp_dead q2 q)
      refine ok_if (fun _ => J g S id) (fun _ => ?_)
      refine ok_sv (st8_unfit S (by omega)) ?_; intro u28 P28
      exact J u28 P28.1 (fun y => absurd y P28.2)
    · rw [if_neg (show ¬ ¬ u24.1 = 0 by omega)]
      exact ok_ret ⟨S24, a, fun y => absurd y p2⟩
theorem sq_types (hn : 1000000 ≤ nn) (V0 : VS_ h) (B : Live h → SI8 h c) {p : Int} (S : ST8 h g c) (a : 0 ≤ p ∧ p ≤ 80000) : Ok_ (qf_X13_scanTypes nn p g) (QP8 h c g) := by
  have g113 := gF_160_113 V0
  unfold qf_X13_scanTypes
  refine ok_sv (st8_byte S) ?_; intro u33 P
  obtain ⟨S33, P⟩ := P
  rcases P with ⟨p1, p2, p3, p4⟩ | ⟨p1, p2⟩
  · rw [if_pos (show ¬ u33.1 = 0 by omega), p2]
    refine ok_rd (by omega) (gA_238 S.1) ?_; intro v35 e35 a35 b35
    refine ok_add (by omega) ?_; intro v36 e36
    exact sq_24 hn V0 B ⟨a35, b35⟩ nn v36 0 g S (by omega) (fun _ => by omega) (by omega) (by omega)
  · rw [if_neg (show ¬ ¬ u33.1 = 0 by omega)]
    exact ok_ret ⟨S33, a, fun y => absurd y p2⟩
/-- the frames -/
theorem sq_497 (hn : 1000000 ≤ nn) (V0 : VS_ h) (B : Live h → SI8 h c) {l9 : Int} (h9 : 0 ≤ l9 ∧ l9 ≤ 255) : ∀ (k : Nat) (l4 l10 : Int) (g : ms_M), ST8 h g c → (0 ≤ l4 ∧ l4 ≤ 80000) → (Live g → l4 ≤ h 160 113) → (0 ≤ l10 ∧ l10 ≤ l9) → l9 - l10 < (k : Int) → Ok_ (qw_X13_scanMethod_497 nn k l4 l9 l10 g) (QP8 h c g) := by
  have g113 := gF_160_113 V0
  intro k
  induction k with
  | zero => intro l4 l10 g S a l b hm; exfalso; omega
  | succ k ih =>
    intro l4 l10 g S a l b hm
    unfold qw_X13_scanMethod_497
    refine ok_if (fun _ => ok_ret ⟨S, a, fun y => ⟨y, l y⟩⟩) (fun C => ?_)
    refine ok_if (fun D => ok_ret ⟨S, a, fun y => absurd y D⟩) (fun D => ?_)
    refine ok_add (by omega) ?_; intro v2 e2
    refine ok_sv (st8_byte S) ?_; intro u4 P
    obtain ⟨S4, P⟩ := P
    rcases P with ⟨p1, p2, p3, p4⟩ | ⟨p1, p2⟩
    · rw [if_pos (show ¬ u4.1 = 0 by omega), p2]
      refine ok_add (by omega) ?_; intro v5 e5
      refine ok_sv (sq_types hn V0 B S (by omega)) ?_; intro u7 P7
      refine ok_sv (sq_types hn V0 B P7.1 P7.2.1) ?_; intro u9 P9
      refine ok_add (by omega) ?_; intro v10 e10
      refine ok_im (ih u9.1 v10 u9.2 P9.1 P9.2.1 (fun y => (P9.2.2 y).2) (by omega) (by omega)) (fun u q => qp_live (fun y => (P7.2.2 (P9.2.2 y).1).1) q)
    · rw [if_neg (show ¬ ¬ u4.1 = 0 by omega)]
      exact ok_ret ⟨S4, a, fun y => absurd y p2⟩
theorem sq_444 (hn : 1000000 ≤ nn) (V0 : VS_ h) (hc : 0 ≤ c ∧ c ≤ 7) (B : Live h → SI8 h c) {l2 l4 : Int} (h2 : 0 ≤ l2 ∧ l2 < 12) (S : ST8 h g c) (a : 0 ≤ l4 ∧ l4 ≤ 80000) : Ok_ (qj_X13_scanMethod_444 nn c l2 l4 g) (QP8 h c g) := by
  have g113 := gF_160_113 V0
  unfold qj_X13_scanMethod_444
  refine ok_sv (st8_byte S) ?_; intro u15 P
  obtain ⟨S15, P⟩ := P
  rcases P with ⟨p1, p2, p3, p4⟩ | ⟨p1, p2⟩
  · rw [if_pos (show ¬ u15.1 = 0 by omega), p2]
    refine ok_mul (by omega) ?_; intro v17 e17
    refine ok_add (by omega) ?_; intro v18 e18
    refine ok_wA (by omega) ?_; intro h19 E19
    have V19 : VS_ h19 := by rw [E19]; exact wA_237 S.1 (by omega)
    obtain ⟨S19, L19⟩ := st8_up S E19 V19 (by decide) (.inr ⟨by decide, by omega, by omega⟩)
    refine ok_rd (by omega) (gA_238 V19) ?_; intro v21 _ a21 b21
    refine ok_if (fun _ => ?_) (fun _ => ?_)
    · refine ok_add (by omega) ?_; intro v22 e22
      exact ok_im (sq_497 hn V0 B ⟨a21, b21⟩ nn v22 0 h19 S19 (by omega) (fun _ => by omega) (by omega) (by omega)) (fun u q => qp_live L19 q)
    · refine ok_sv (st8_unfit S19 (by omega)) ?_; intro u24 P24
      refine ok_add (by omega) ?_; intro v25 e25
      exact ok_im (sq_497 hn V0 B ⟨a21, b21⟩ nn v25 0 u24 P24.1 (by omega) (fun y => absurd y P24.2) (by omega) (by omega)) (fun u q => qp_dead P24.2 q)
  · rw [if_neg (show ¬ ¬ u15.1 = 0 by omega)]
    exact ok_ret ⟨S15, a, fun y => absurd y p2⟩
/-- the handlers -/
theorem sq_381 (hn : 1000000 ≤ nn) (V0 : VS_ h) (hc : 0 ≤ c ∧ c ≤ 7) (B : Live h → SI8 h c) {l2 l8 : Int} (h2 : 0 ≤ l2 ∧ l2 < 12) (h8 : 0 ≤ l8 ∧ l8 ≤ 255) : ∀ (k : Nat) (l4 l9 : Int) (g : ms_M), ST8 h g c → (0 ≤ l4 ∧ l4 ≤ 80000) → (Live g → l4 ≤ h 160 113) → (0 ≤ l9 ∧ l9 ≤ l8) → l8 - l9 < (k : Int) → Ok_ (qw_X13_scanMethod_381 nn k c l2 l4 l8 l9 g) (QP8 h c g) := by
  have g113 := gF_160_113 V0
  intro k
  induction k with
  | zero => intro l4 l9 g S a l b hm; exfalso; omega
  | succ k ih =>
    intro l4 l9 g S a l b hm
    unfold qw_X13_scanMethod_381
    refine ok_if (fun _ => sq_444 hn V0 hc B h2 S a) (fun C => ?_)
    refine ok_if (fun D => sq_444 hn V0 hc B h2 S a) (fun D => ?_)
    have l := l (Classical.not_not.1 D)
    refine ok_add (by omega) ?_; intro v29 e29
    refine ok_sv (st8_byte S) ?_; intro u31 P
    obtain ⟨S31, P⟩ := P
    rcases P with ⟨p1, p2, p3, p4⟩ | ⟨p1, p2⟩
    · rw [if_neg (show ¬ u31.1 = 0 by omega), p2]
      have Bh := B (S.2.2.2 p3)
      refine ok_add (by omega) ?_; intro v35 e35
      refine ok_rd (by omega) (gA_238 S.1) ?_; intro v36 _ _ _
      refine ok_sv (st8_class S Bh) ?_; intro u38 _
      refine ok_if (fun _ => ?_) (fun _ => ?_)
      · refine ok_add (by omega) ?_; intro v39 e39
        refine ok_add (by omega) ?_; intro v40 e40
        exact ih v39 v40 g S (by omega) (fun _ => by omega) (by omega) (by omega)
      · refine ok_add (by omega) ?_; intro v41 e41
        refine ok_sv (st8_unfit S (by omega)) ?_; intro u43 P43
        refine ok_add (by omega) ?_; intro v44 e44
        refine ok_add (by omega) ?_; intro v45 e45
        exact ok_im (ih v44 v45 u43 P43.1 (by omega) (fun y => absurd y P43.2) (by omega) (by omega)) (fun u q => qp_dead P43.2 q)
    · rw [if_pos p1]
      refine ok_add (by omega) ?_; intro v32 e32
      refine ok_add (by omega) ?_; intro v33 e33
      exact ok_im (ih v32 v33 u31.2 S31 (by omega) (fun y => absurd y p2) (by omega) (by omega)) (fun u q => qp_dead p2 q)
theorem sq_328 (hn : 1000000 ≤ nn) (V0 : VS_ h) (hc : 0 ≤ c ∧ c ≤ 7) (B : Live h → SI8 h c) {l2 l4 : Int} (h2 : 0 ≤ l2 ∧ l2 < 12) (S : ST8 h g c) (a : 0 ≤ l4 ∧ l4 ≤ 80000) : Ok_ (qj_X13_scanMethod_328 nn c l2 l4 g) (QP8 h c g) := by
  have g113 := gF_160_113 V0
  unfold qj_X13_scanMethod_328
  refine ok_sv (st8_byte S) ?_; intro u15 P
  obtain ⟨S15, P⟩ := P
  rcases P with ⟨p1, p2, p3, p4⟩ | ⟨p1, p2⟩
  · rw [if_pos (show ¬ u15.1 = 0 by omega), p2]
    refine ok_mul (by omega) ?_; intro v17 e17
    refine ok_add (by omega) ?_; intro v18 e18
    refine ok_wA (by omega) ?_; intro h19 E19
    have V19 : VS_ h19 := by rw [E19]; exact wA_236 S.1 (by omega)
    obtain ⟨S19, L19⟩ := st8_up S E19 V19 (by decide) (.inr ⟨by decide, by omega, by omega⟩)
    refine ok_rd (by omega) (gA_238 V19) ?_; intro v21 _ a21 b21
    refine ok_if (fun _ => ?_) (fun _ => ?_)
    · refine ok_add (by omega) ?_; intro v22 e22
      exact ok_im (sq_381 hn V0 hc B h2 ⟨a21, b21⟩ nn v22 0 h19 S19 (by omega) (fun _ => by omega) (by omega) (by omega)) (fun u q => qp_live L19 q)
    · refine ok_sv (st8_unfit S19 (by omega)) ?_; intro u24 P24
      refine ok_add (by omega) ?_; intro v25 e25
      exact ok_im (sq_381 hn V0 hc B h2 ⟨a21, b21⟩ nn v25 0 u24 P24.1 (by omega) (fun y => absurd y P24.2) (by omega) (by omega)) (fun u q => qp_dead P24.2 q)
  · rw [if_neg (show ¬ ¬ u15.1 = 0 by omega)]
    exact ok_ret ⟨S15, a, fun y => absurd y p2⟩
theorem sq_293 (hn : 1000000 ≤ nn) (V0 : VS_ h) (hc : 0 ≤ c ∧ c ≤ 7) (B : Live h → SI8 h c) {l2 l4 l7 : Int} (h2 : 0 ≤ l2 ∧ l2 < 12) (h7 : 0 ≤ l7 ∧ l7 ≤ 65535) (S : ST8 h g c) (a : 0 ≤ l4 ∧ l4 ≤ 6000) : Ok_ (qj_X13_scanMethod_293 nn c l2 l4 l7 g) (QP8 h c g) := by
  have g113 := gF_160_113 S.1
  unfold qj_X13_scanMethod_293
  refine ok_add (by omega) ?_; intro v64 e64
  refine ok_add (by omega) ?_; intro v65 e65
  refine ok_if (fun _ => sq_328 hn V0 hc B h2 S (by omega)) (fun D => ?_)
  refine ok_if (fun _ => sq_328 hn V0 hc B h2 S (by omega)) (fun _ => ?_)
  refine ok_xl ?_; intro h69 E69
  have q : h69 160 114 = g 160 113 := by rw [E69, up_s]
  have d : ¬ Live h69 := by unfold Live; omega
  have N : NB g h69 := fun x k w => by rw [E69, up_n w]
  have S69 : ST8 h h69 c := ⟨by rw [E69]; exact wF_160_114 S.1 (by omega), ke8_tr S.2.1 (ke_nb N), nt8_tr S.2.2.1 (nt8_nb N), fun y => absurd y d⟩
  exact ok_im (sq_328 hn V0 hc B h2 S69 (by omega)) (fun u w => qp_dead d w)
end
end
section
section
variable {nn : Nat} {h g r z : ms_M} {c : Int}
theorem sq_pair (V : VS_ g) {p : Int} (hp : 0 ≤ p ∧ p + 1 < 6000) : Ok_ (qf_X13_pairAt nn p g) (fun u => 0 ≤ u ∧ u ≤ 65535) := by
  unfold qf_X13_pairAt
  refine ok_rd (by omega) (gA_238 V) ?_; intro v2 _ a2 b2
  refine ok_shl8 ⟨a2, b2⟩ ?_; intro v3 e3
  refine ok_add (by omega) ?_; intro v5 e5
  refine ok_rd (by omega) (gA_238 V) ?_; intro v6 _ a6 b6
  refine ok_or (by omega) (by omega) ?_; intro v7 a7 b7
  exact ok_ret ⟨a7, b7⟩
theorem sq_285 (hn : 1000000 ≤ nn) (V0 : VS_ h) (hc : 0 ≤ c ∧ c ≤ 7) (B : Live h → SI8 h c) {l2 l4 l7 : Int} (h2 : 0 ≤ l2 ∧ l2 < 12) (h7 : 0 ≤ l7 ∧ l7 ≤ 65535) (S : ST8 h g c) (a : 0 ≤ l4 ∧ l4 ≤ 6000) : Ok_ (qj_X13_scanMethod_285 nn c l2 l4 l7 g) (QP8 h c g) := by
  unfold qj_X13_scanMethod_285
  refine ok_add (by omega) ?_; intro v72 e72
  refine ok_sv (st8_unfit S (by omega)) ?_; intro u74 P
  exact ok_im (sq_293 hn V0 hc B h2 h7 P.1 a) (fun u w => qp_dead P.2 w)
theorem sq_232 (hn : 1000000 ≤ nn) (V0 : VS_ h) (hc : 0 ≤ c ∧ c ≤ 7) (B : Live h → SI8 h c) {l2 l4 : Int} (h2 : 0 ≤ l2 ∧ l2 < 12) (S : ST8 h g c) (a : 0 ≤ l4 ∧ l4 ≤ 6000) : Ok_ (qj_X13_scanMethod_232 nn c l2 l4 g) (QP8 h c g) := by
  have g113 := gF_160_113 V0
  unfold qj_X13_scanMethod_232
  refine ok_add (by omega) ?_; intro v75 e75
  refine ok_sv (st8_byte S) ?_; intro u77 P
  obtain ⟨S77, P⟩ := P
  rcases P with ⟨p1, p2, p3, p4⟩ | ⟨p1, p2⟩
  · rw [if_pos (show ¬ u77.1 = 0 by omega), p2]
    refine ok_add (by omega) ?_; intro v78 e78
    refine ok_sv (st8_byte S) ?_; intro u80 P
    obtain ⟨S80, P⟩ := P
    rcases P with ⟨q1, q2, q3, q4⟩ | ⟨q1, q2⟩
    · rw [if_pos (show ¬ u80.1 = 0 by omega), q2]
      refine ok_add (by omega) ?_; intro v81 e81
      refine ok_sv (sq_pair S.1 (by omega)) ?_; intro u83 P83
      refine ok_if (fun _ => sq_285 hn V0 hc B h2 P83 S a) (fun _ => ?_)
      exact ok_if (fun _ => sq_293 hn V0 hc B h2 P83 S a) (fun _ => sq_285 hn V0 hc B h2 P83 S a)
    · rw [if_neg (show ¬ ¬ u80.1 = 0 by omega)]
      exact ok_ret ⟨S80, by show 0 ≤ l4 ∧ l4 ≤ 80000; omega, fun y => absurd y q2⟩
  · rw [if_neg (show ¬ ¬ u77.1 = 0 by omega)]
    exact ok_ret ⟨S77, by show 0 ≤ l4 ∧ l4 ≤ 80000; omega, fun y => absurd y p2⟩
theorem sq_134 (hn : 1000000 ≤ nn) (V0 : VS_ h) (hc : 0 ≤ c ∧ c ≤ 7) (B : Live h → SI8 h c) {l2 l4 : Int} (h2 : 0 ≤ l2 ∧ l2 < 12) (S : ST8 h g c) (a : 0 ≤ l4 ∧ l4 ≤ 6000) (t : Live g → TX h c (h 238 (l4 + 2).toNat)) : Ok_ (qj_X13_scanMethod_134 nn c l2 l4 g) (QP8 h c g) := by
  have g113 := gF_160_113 V0
  have K := S.2.1
  unfold qj_X13_scanMethod_134
  refine ok_add (by omega) ?_; intro v91 e91
  refine ok_sv (st8_byte S) ?_; intro u93 P
  obtain ⟨S93, P⟩ := P
  rcases P with ⟨p1, p2, p3, p4⟩ | ⟨p1, p2⟩
  · rw [if_pos (show ¬ u93.1 = 0 by omega), p2]
    have Bh := B (S.2.2.2 p3)
    have t := t p3
    refine ok_add (by omega) ?_; intro v95 e95
    refine ok_rd (by omega) (gA_238 S.1) ?_; intro v96 e96 _ _
    rw [e95, (K.1 _).1] at e96
    rw [← e96] at t
    refine ok_sv (sq_const S.1 hc) ?_; intro u98 P98
    have P98 : u98 = pl h c v96 ∧ 0 ≤ u98 ∧ u98 ≤ 6000 := by
      rcases P98 with P98 | P98
      · exfalso; have := t.1; rw [K.2.2.2] at P98; exact P98.2 this
      · exact ⟨by rw [P98.2.1, pl_ke K], P98.2.2⟩
    have cp := Bh.2.1 v96 t.1.1 t.1.2
    rw [← P98.1] at cp
    have tg : h 238 u98.toNat = 1 := by rw [P98.1]; exact t.2
    have cp2 : (1 ≤ h 238 (u98 + 1).toNat ∧ h 238 (u98 + 1).toNat ≤ 120) ∧ u98 + 2 + h 238 (u98 + 1).toNat ≤ h 160 113 := by
      obtain ⟨_, x⟩ := cp
      rcases x with x | x | x | x
      · exact x.2
      · exfalso; omega
      · exfalso; omega
      · exfalso; omega
    refine ok_add (by omega) ?_; intro v100 e100
    refine ok_add (by omega) ?_; intro v102 e102
    refine ok_rd (by omega) (gA_238 S.1) ?_; intro v103 e103 _ _
    rw [e102, (K.1 _).1] at e103
    refine ok_sv (sc_pars hn (.inl ⟨rfl, rfl⟩) S.1 (by omega) (by omega) (by omega)) ?_; intro u104 P104
    refine ok_add (by omega) ?_; intro v105 e105
    refine ok_rd (by omega) (gA_238 S.1) ?_; intro v107 _ _ _
    refine ok_sub (by omega) ?_; intro v108 e108
    refine ok_add (by omega) ?_; intro v110 e110
    refine ok_rd (by omega) (gA_238 S.1) ?_; intro v111 _ _ _
    have bad : Ok_ (qj_X13_scanMethod_224 nn c l2 l4 g) (QP8 h c g) := by
      unfold qj_X13_scanMethod_224
      refine ok_add (by omega) ?_; intro v88 e88
      refine ok_sv (st8_unfit S (by omega)) ?_; intro u90 P90
      exact ok_im (sq_232 hn V0 hc B h2 P90.1 a) (fun u w => qp_dead P90.2 w)
    refine ok_if (fun _ => bad) (fun _ => ?_)
    refine ok_add (by omega) ?_; intro v113 e113
    refine ok_rd (by omega) (gA_238 S.1) ?_; intro v114 _ _ _
    exact ok_if (fun _ => sq_232 hn V0 hc B h2 S a) (fun _ => bad)
  · rw [if_neg (show ¬ ¬ u93.1 = 0 by omega)]
    exact ok_ret ⟨S93, by show 0 ≤ l4 ∧ l4 ≤ 80000; omega, fun y => absurd y p2⟩
theorem sq_101 (hn : 1000000 ≤ nn) (V0 : VS_ h) (hc : 0 ≤ c ∧ c ≤ 7) (B : Live h → SI8 h c) {l2 l4 : Int} (h2 : 0 ≤ l2 ∧ l2 < 12) (S : ST8 h g c) (a : 0 ≤ l4 ∧ l4 ≤ 6000) (t : Live g → TX h c (h 238 (l4 + 2).toNat)) : Ok_ (qj_X13_scanMethod_101 nn c l2 l4 g) (QP8 h c g) := by
  have g113 := gF_160_113 V0
  unfold qj_X13_scanMethod_101
  refine ok_add (by omega) ?_; intro v118 e118
  refine ok_sv (st8_byte S) ?_; intro u120 P
  obtain ⟨S120, P⟩ := P
  rcases P with ⟨p1, p2, p3, p4⟩ | ⟨p1, p2⟩
  · rw [if_neg (show ¬ u120.1 = 0 by omega), p2]
    refine ok_add (by omega) ?_; intro v122 e122
    refine ok_rd (by omega) (gA_238 S.1) ?_; intro v123 _ _ _
    refine ok_if (fun _ => sq_134 hn V0 hc B h2 S a t) (fun _ => ?_)
    refine ok_add (by omega) ?_; intro v124 e124
    refine ok_sv (st8_unfit S (by omega)) ?_; intro u126 P126
    exact ok_im (sq_134 hn V0 hc B h2 P126.1 a (fun y => absurd y P126.2)) (fun u w => qp_dead P126.2 w)
  · rw [if_pos p1]
    exact ok_im (sq_134 hn V0 hc B h2 S120 a (fun y => absurd y p2)) (fun u w => qp_dead p2 w)
theorem sq_65 (hn : 1000000 ≤ nn) (V0 : VS_ h) (hc : 0 ≤ c ∧ c ≤ 7) (B : Live h → SI8 h c) {l2 l4 : Int} (h2 : 0 ≤ l2 ∧ l2 < 12) (S : ST8 h g c) (a : 0 ≤ l4 ∧ l4 ≤ 6000) : Ok_ (qj_X13_scanMethod_65 nn c l2 l4 g) (QP8 h c g) := by
  have g113 := gF_160_113 V0
  have K := S.2.1
  unfold qj_X13_scanMethod_65
  refine ok_add (by omega) ?_; intro v118 e118
  refine ok_sv (st8_byte S) ?_; intro u120 P
  obtain ⟨S120, P⟩ := P
  rcases P with ⟨p1, p2, p3, p4⟩ | ⟨p1, p2⟩
  · rw [if_neg (show ¬ u120.1 = 0 by omega), p2]
    have Bh := B (S.2.2.2 p3)
    refine ok_add (by omega) ?_; intro v122 e122
    refine ok_rd (by omega) (gA_238 S.1) ?_; intro v123 e123 _ _
    rw [e122, (K.1 _).1] at e123
    refine ok_sv (st8_text hn S Bh) ?_; intro u136 P136
    refine ok_if (fun F => sq_101 hn V0 hc B h2 S a (fun _ => by rw [← e123]; exact P136.2 F)) (fun _ => ?_)
    refine ok_add (by omega) ?_; intro v124 e124
    refine ok_sv (st8_unfit S (by omega)) ?_; intro u126 P126
    exact ok_im (sq_101 hn V0 hc B h2 P126.1 a (fun y => absurd y P126.2)) (fun u w => qp_dead P126.2 w)
  · rw [if_pos p1]
    exact ok_im (sq_101 hn V0 hc B h2 S120 a (fun y => absurd y p2)) (fun u w => qp_dead p2 w)
theorem sq_29 (hn : 1000000 ≤ nn) (V0 : VS_ h) (hc : 0 ≤ c ∧ c ≤ 7) (B : Live h → SI8 h c) {l2 l4 : Int} (h2 : 0 ≤ l2 ∧ l2 < 12) (S : ST8 h g c) (a : 0 ≤ l4 ∧ l4 ≤ 6000) : Ok_ (qj_X13_scanMethod_29 nn c l2 l4 g) (QP8 h c g) := by
  have g113 := gF_160_113 V0
  unfold qj_X13_scanMethod_29
  refine ok_add (by omega) ?_; intro v118 e118
  refine ok_sv (st8_byte S) ?_; intro u120 P
  obtain ⟨S120, P⟩ := P
  rcases P with ⟨p1, p2, p3, p4⟩ | ⟨p1, p2⟩
  · rw [if_neg (show ¬ u120.1 = 0 by omega), p2]
    have Bh := B (S.2.2.2 p3)
    refine ok_add (by omega) ?_; intro v122 e122
    refine ok_rd (by omega) (gA_238 S.1) ?_; intro v123 e123 _ _
    refine ok_sv (st8_text hn S Bh) ?_; intro u136 P136
    refine ok_if (fun F => sq_65 hn V0 hc B h2 S a) (fun _ => ?_)
    refine ok_add (by omega) ?_; intro v124 e124
    refine ok_sv (st8_unfit S (by omega)) ?_; intro u126 P126
    exact ok_im (sq_65 hn V0 hc B h2 P126.1 a) (fun u w => qp_dead P126.2 w)
  · rw [if_pos p1]
    exact ok_im (sq_65 hn V0 hc B h2 S120 a) (fun u w => qp_dead p2 w)
theorem sq_method (hn : 1000000 ≤ nn) (V0 : VS_ h) (hc : 0 ≤ c ∧ c ≤ 7) (B : Live h → SI8 h c) {l2 l4 : Int} (h2 : 0 ≤ l2 ∧ l2 < 12) (S : ST8 h g c) (a : 0 ≤ l4 ∧ l4 ≤ 6000) : Ok_ (qf_X13_scanMethod nn c l2 l4 g) (QP8 h c g) := by
  have g113 := gF_160_113 V0
  unfold qf_X13_scanMethod
  refine ok_sv (st8_byte S) ?_; intro u120 P
  obtain ⟨S120, P⟩ := P
  rcases P with ⟨p1, p2, p3, p4⟩ | ⟨p1, p2⟩
  · rw [if_neg (show ¬ u120.1 = 0 by omega), p2]
    refine ok_rd (by omega) (gA_238 S.1) ?_; intro v158 _ _ _
    refine ok_if (fun F => sq_29 hn V0 hc B h2 S a) (fun _ => ?_)
    refine ok_sv (st8_unfit S (by omega)) ?_; intro u126 P126
    exact ok_im (sq_29 hn V0 hc B h2 P126.1 a) (fun u w => qp_dead P126.2 w)
  · rw [if_pos p1]
    exact ok_im (sq_29 hn V0 hc B h2 S120 a) (fun u w => qp_dead p2 w)
/-- the fields -/
theorem sq_35 (hn : 1000000 ≤ nn) (V0 : VS_ h) (hc : 0 ≤ c ∧ c ≤ 7) (B : Live h → SI8 h c) {l2 : Int} (h2 : 0 ≤ l2 ∧ l2 < 6000) : ∀ (k : Nat) (l3 l4 : Int) (g : ms_M), ST8 h g c → (0 ≤ l3 ∧ l3 ≤ 80000) → (Live g → l3 ≤ h 160 113 ∧ h 238 l2.toNat ≤ 12) → (0 ≤ l4 ∧ l4 ≤ 255) → 256 - l4 < (k : Int) → Ok_ (qw_X13_scanFields_35 nn k c l2 l3 l4 g) (QP8 h c g) := by
  have g113 := gF_160_113 V0
  intro k
  induction k with
  | zero => intro l3 l4 g S a l b hm; exfalso; omega
  | succ k ih =>
    intro l3 l4 g S a l b hm
    have K := S.2.1
    unfold qw_X13_scanFields_35
    refine ok_rd (by omega) (gA_238 S.1) ?_; intro v21 e21 a21 b21
    rw [(K.1 _).1] at e21
    refine ok_if (fun _ => ok_ret ⟨S, a, fun y => ⟨y, (l y).1⟩⟩) (fun C => ?_)
    refine ok_if (fun D => ok_ret ⟨S, a, fun y => absurd y D⟩) (fun D => ?_)
    have D : Live g := Classical.not_not.1 D
    have l := l D
    have Bh := B (S.2.2.2 D)
    refine ok_mul (by omega) ?_; intro v24 e24
    refine ok_add (by omega) ?_; intro v25 e25
    refine ok_wA (by omega) ?_; intro h26 E26
    have V26 : VS_ h26 := by rw [E26]; exact wA_233 S.1 (by omega)
    obtain ⟨S26, L26⟩ := st8_up S E26 V26 (by decide) (.inr ⟨by decide, by omega, by omega⟩)
    have J : ∀ f : ms_M, ST8 h f c → (Live f → Live g) → Ok_ (qj_X13_scanFields_94 nn (qw_X13_scanFields_35 nn k) c l2 l3 l4 f) (QP8 h c g) := fun f Sf lf => by
      unfold qj_X13_scanFields_94
      refine ok_add (by omega) ?_; intro v1 e1
      refine ok_sv (st8_byte Sf) ?_; intro u3 P3
      obtain ⟨S3, P3⟩ := P3
      rcases P3 with ⟨q1, q2, q3, q4⟩ | ⟨q1, q2⟩
      · rw [if_neg (show ¬ u3.1 = 0 by omega), q2]
        refine ok_add (by omega) ?_; intro v7 e7
        refine ok_rd (by omega) (gA_238 Sf.1) ?_; intro v8 _ _ _
        refine ok_sv (st8_text hn Sf Bh) ?_; intro u10 _
        refine ok_if (fun _ => ?_) (fun _ => ?_)
        · refine ok_add (by omega) ?_; intro v11 e11
          refine ok_add (by omega) ?_; intro v12 e12
          exact ok_im (ih v11 v12 f Sf (by omega) (fun _ => by omega) (by omega) (by omega)) (fun u q => qp_live lf q)
        · refine ok_add (by omega) ?_; intro v13 e13
          refine ok_sv (st8_unfit Sf (by omega)) ?_; intro u15 P15
          refine ok_add (by omega) ?_; intro v16 e16
          refine ok_add (by omega) ?_; intro v17 e17
          exact ok_im (ih v16 v17 u15 P15.1 (by omega) (fun y => absurd y P15.2) (by omega) (by omega)) (fun u q => qp_dead P15.2 q)
      · rw [if_pos q1]
        refine ok_add (by omega) ?_; intro v4 e4
        refine ok_add (by omega) ?_; intro v5 e5
        exact ok_im (ih v4 v5 u3.2 S3 (by omega) (fun y => absurd y q2) (by omega) (by omega)) (fun u q => qp_dead q2 q)
    refine ok_sv (st8_byte S26) ?_; intro u28 P
    obtain ⟨S28, P⟩ := P
    rcases P with ⟨p1, p2, p3, p4⟩ | ⟨p1, p2⟩
    · rw [if_neg (show ¬ u28.1 = 0 by omega), p2]
      refine ok_rd (by omega) (gA_238 V26) ?_; intro v30 _ _ _
      refine ok_sv (st8_text hn S26 Bh) ?_; intro u32 _
      refine ok_if (fun _ => J h26 S26 L26) (fun _ => ?_)
      refine ok_sv (st8_unfit S26 (by omega)) ?_; intro u34 P34
      exact J u34 P34.1 (fun y => absurd y P34.2)
    · rw [if_pos p1]
      exact J u28.2 S28 (fun y => absurd y p2)
theorem sq_fields (hn : 1000000 ≤ nn) (V0 : VS_ h) (hc : 0 ≤ c ∧ c ≤ 7) (B : Live h → SI8 h c) {l2 : Int} (h2 : 0 ≤ l2 ∧ l2 < h 160 113) (S : ST8 h g c) : Ok_ (qf_X13_scanFields nn c l2 g) (QP8 h c g) := by
  have g113 := gF_160_113 V0
  have K := S.2.1
  have J : ∀ f : ms_M, ST8 h f c → (Live f → Live g ∧ h 238 l2.toNat ≤ 12) → Ok_ (qj_X13_scanFields_16 nn c l2 f) (QP8 h c g) := fun f Sf lf => by
    unfold qj_X13_scanFields_16
    refine ok_rd (by omega) (gA_238 Sf.1) ?_; intro v41 _ a41 b41
    refine ok_wA (by omega) ?_; intro h42 E42
    have V42 : VS_ h42 := by rw [E42]; exact wA_232 Sf.1 (by omega)
    obtain ⟨S42, L42⟩ := st8_up Sf E42 V42 (by decide) (.inl ⟨by decide, by omega⟩)
    refine ok_add (by omega) ?_; intro v43 e43
    exact ok_im (sq_35 hn V0 hc B (by omega) nn v43 0 h42 S42 (by omega) (fun y => ⟨by omega, (lf (L42 y)).2⟩) (by omega) (by omega)) (fun u q => qp_live (fun y => (lf (L42 y)).1) q)
  unfold qf_X13_scanFields
  refine ok_rd (by omega) (gA_238 S.1) ?_; intro v45 e45 _ _
  rw [(K.1 _).1] at e45
  refine ok_if (fun F => J g S (fun y => ⟨y, by omega⟩)) (fun _ => ?_)
  refine ok_sv (st8_unfit S (by omega)) ?_; intro u47 P47
  exact J u47 P47.1 (fun y => absurd y P47.2)
end
end
section
section
variable {nn : Nat} {h g r z : ms_M} {c : Int}
/-- where reading ends, from h on -/
def QE8 (h : ms_M) (c : Int) (g r : ms_M) : Prop := ST8 h r c ∧ (Live r → Live g)
theorem sq_379 {l3 : Int} (V0 : VS_ h) (S : ST8 h g c) (a : 0 ≤ l3) : Ok_ (qj_X13_scan_379 nn l3 g) (QE8 h c g) := by
  have g113 := gF_160_113 S.1
  unfold qj_X13_scan_379
  refine ok_if (fun D => ok_ret ⟨S, id⟩) (fun _ => ?_)
  refine ok_if (fun _ => ok_ret ⟨S, id⟩) (fun _ => ?_)
  refine ok_sv (st8_unfit S (by omega)) ?_; intro u4 P4
  exact ok_ret ⟨P4.1, fun y => absurd y P4.2⟩
theorem sq_332 (hn : 1000000 ≤ nn) (V0 : VS_ h) (hc : 0 ≤ c ∧ c ≤ 7) (B : Live h → SI8 h c) : ∀ (k : Nat) (l3 l4 : Int) (g : ms_M), ST8 h g c → (0 ≤ l3 ∧ l3 ≤ 80000) → (Live g → l3 ≤ h 160 113 ∧ g 234 c.toNat ≤ 12) → (0 ≤ l4 ∧ l4 ≤ 255) → 256 - l4 < (k : Int) → Ok_ (qw_X13_scan_332 nn k c l3 l4 g) (QE8 h c g) := by
  have g113 := gF_160_113 V0
  intro k
  induction k with
  | zero => intro l3 l4 g S a l b hm; exfalso; omega
  | succ k ih =>
    intro l3 l4 g S a l b hm
    have g234 := gA_234 S.1 c.toNat (by omega)
    unfold qw_X13_scan_332
    refine ok_if (fun D => sq_379 V0 S a.1) (fun D => ?_)
    have D : Live g := Classical.not_not.1 D
    have l := l D
    refine ok_rd (by omega) (gA_234 S.1) ?_; intro v9 e9 _ _
    refine ok_if (fun _ => sq_379 V0 S a.1) (fun C => ?_)
    refine ok_mul (by omega) ?_; intro v11 e11
    refine ok_add (by omega) ?_; intro v12 e12
    refine ok_wA (by omega) ?_; intro h13 E13
    have V13 : VS_ h13 := by rw [E13]; exact wA_235 S.1 (by omega)
    obtain ⟨S13, L13⟩ := st8_up S E13 V13 (by decide) (.inr ⟨by decide, by omega, by omega⟩)
    obtain ⟨u15, e15, P15⟩ := sq_method hn V0 hc B (l2 := l4) (l4 := l3) (by omega) S13 (by omega)
    rw [e15, mx_svs]
    have f : u15.2 234 c.toNat = h13 234 c.toNat := (ff_X13_scanMethod nn) _ e15 234 _ (nw_ar rfl _)
    have f2 : h13 234 c.toNat = g 234 c.toNat := by rw [E13, up_n (by omega)]
    refine ok_add (by omega) ?_; intro v16 e16
    refine ok_im (ih u15.1 v16 u15.2 P15.1 P15.2.1 (fun y => ⟨(P15.2.2 y).2, by omega⟩) (by omega) (by omega)) (fun r w => ⟨w.1, fun y => L13 (P15.2.2 (w.2 y)).1⟩)
theorem sq_314 (hn : 1000000 ≤ nn) (V0 : VS_ h) (hc : 0 ≤ c ∧ c ≤ 7) (B : Live h → SI8 h c) {l3 : Int} (S : ST8 h g c) (a : 0 ≤ l3 ∧ l3 < h 160 113) (l : Live g → h 238 l3.toNat ≤ 12) : Ok_ (qj_X13_scan_314 nn c l3 g) (QE8 h c g) := by
  have g113 := gF_160_113 V0
  have K := S.2.1
  unfold qj_X13_scan_314
  refine ok_rd (by omega) (gA_238 S.1) ?_; intro v21 e21 a21 b21
  rw [(K.1 _).1] at e21
  refine ok_wA (by omega) ?_; intro h22 E22
  have V22 : VS_ h22 := by rw [E22]; exact wA_234 S.1 (by omega)
  obtain ⟨S22, L22⟩ := st8_up S E22 V22 (by decide) (.inl ⟨by decide, by omega⟩)
  have f : h22 234 c.toNat = v21 := by rw [E22, up_s]
  refine ok_add (by omega) ?_; intro v23 e23
  exact ok_im (sq_332 hn V0 hc B nn v23 0 h22 S22 (by omega) (fun y => ⟨by omega, by have := l (L22 y); omega⟩) (by omega) (by omega)) (fun r w => ⟨w.1, fun y => L22 (w.2 y)⟩)
/-- what reading leaves of all else, from begin to end -/
def NTa (c : Int) (h r : ms_M) : Prop := ∀ x k : Nat, ¬ (x = 160 ∧ (k = 114 ∨ k = 115)) → ¬ (x = 228 ∧ 256 * c ≤ (k : Int) ∧ (k : Int) < 256 * c + 256) → ¬ ((x = 229 ∨ x = 230 ∨ x = 231 ∨ x = 232 ∨ x = 234) ∧ (k : Int) = c) → ¬ ((x = 233 ∨ x = 235 ∨ x = 236 ∨ x = 237) ∧ 12 * c ≤ (k : Int) ∧ (k : Int) < 12 * c + 12) → r x k = h x k
theorem nta_rf : NTa c h h := fun _ _ _ _ _ _ => rfl
theorem nta_tr (a : NTa c h z) (b : NTa c z r) : NTa c h r := fun x k w1 w2 w3 w4 => (b x k w1 w2 w3 w4).trans (a x k w1 w2 w3 w4)
theorem nta_8 (a : NT8 c h r) : NTa c h r := fun x k w1 w2 w3 w4 => a x k (by omega) w2 (by omega) w4
/-- an image that was read without FORM -/
def IM8 (r : ms_M) (c : Int) : Prop := SI8 r c ∧ CL r c (r 230 c.toNat) ∧ CL r c (r 231 c.toNat)
def QR8 (c : Int) (h r : ms_M) : Prop := VS_ r ∧ NTa c h r ∧ (Live r → IM8 r c)
theorem sq_243 (hn : 1000000 ≤ nn) (V0 : VS_ h) (hc : 0 ≤ c ∧ c ≤ 7) (B : Live h → SI8 h c) {l3 : Int} (S : ST8 h g c) (a : 3 ≤ l3 ∧ l3 ≤ 6300) (l : Live g → CL h c (h 238 l3.toNat) ∧ CL h c (h 238 (l3 + 1).toNat)) : Ok_ (qj_X13_scan_243 nn c l3 g) (QR8 c h) := by
  have g113 := gF_160_113 V0
  have K := S.2.1
  unfold qj_X13_scan_243
  refine ok_add (by omega) ?_; intro v24 e24
  refine ok_sv (st8_byte S) ?_; intro u26 P
  obtain ⟨S26, P⟩ := P
  rcases P with ⟨p1, p2, p3, p4⟩ | ⟨p1, p2⟩
  · rw [if_pos (show ¬ u26.1 = 0 by omega), p2]
    have Bh := B (S.2.2.2 p3)
    obtain ⟨c1, c2⟩ := l p3
    refine ok_rd (by omega) (gA_238 S.1) ?_; intro v29 e29 a29 b29
    rw [(K.1 _).1] at e29
    refine ok_wA (by omega) ?_; intro h30 E30
    have V30 : VS_ h30 := by rw [E30]; exact wA_230 S.1 (by omega)
    refine ok_add (by omega) ?_; intro v33 e33
    refine ok_rd (by omega) (gA_238 V30) ?_; intro v34 e34 a34 b34
    rw [e33, E30, up_n (by omega), (K.1 _).1] at e34
    refine ok_wA (by omega) ?_; intro h35 E35
    have V35 : VS_ h35 := by rw [E35]; exact wA_231 V30 (by omega)
    -- from here the base is h35
    have K35 : KE8 h h35 c := ke8_tr K (ke8_tr (ke8_up E30 (by decide)) (ke8_up E35 (by decide)))
    have q0 : h35 230 c.toNat = v29 := by rw [E35, up_n (by omega), E30, up_s]
    have q1 : h35 231 c.toNat = v34 := by rw [E35, up_s]
    have I35 : IM8 h35 c := by
      refine ⟨si8_ke K35 Bh, ?_, ?_⟩
      · rw [q0, e29]; exact cl_ke K35 c1
      · rw [q1, e34]; exact cl_ke K35 c2
    have N35 : NTa c h h35 := nta_tr (nta_8 S.2.2.1) (fun x k w1 w2 w3 w4 => by rw [E35, up_n (by omega), E30, up_n (by omega)])
    have e113 : h35 160 113 = h 160 113 := K35.2.1
    have S35 : ST8 h35 h35 c := st8_0 V35
    have fin : ∀ r : ms_M, ST8 h35 r c → QR8 c h r := fun r Sr => by
      have K8 := Sr.2.1
      have w0 : r 230 c.toNat = h35 230 c.toNat := Sr.2.2.1 230 _ (by omega) (by omega) (by omega) (by omega)
      have w1 : r 231 c.toNat = h35 231 c.toNat := Sr.2.2.1 231 _ (by omega) (by omega) (by omega) (by omega)
      exact ⟨Sr.1, nta_tr N35 (nta_8 Sr.2.2.1), fun _ => ⟨si8_ke K8 I35.1, by rw [w0]; exact cl_ke K8 I35.2.1, by rw [w1]; exact cl_ke K8 I35.2.2⟩⟩
    refine ok_add (by omega) ?_; intro v36 e36
    refine ok_sv (sq_fields hn V35 hc (fun _ => I35.1) (by omega) S35) ?_; intro u38 P38
    refine ok_sv (st8_byte P38.1) ?_; intro u40 P40
    obtain ⟨S40, P40⟩ := P40
    rcases P40 with ⟨r1, r2, r3, r4⟩ | ⟨r1, r2⟩
    · rw [if_pos (show ¬ u40.1 = 0 by omega), r2]
      have b38 := P38.2.1
      have K38 := P38.1.2.1
      refine ok_rd (by omega) (gA_238 P38.1.1) ?_; intro v42 e42 _ _
      rw [(K38.1 _).1] at e42
      refine ok_if (fun F => ?_) (fun _ => ?_)
      · exact ok_im (sq_314 hn V35 hc (fun _ => I35.1) P38.1 (by omega) (fun _ => by omega)) (fun r w => fin r w.1)
      · refine ok_sv (st8_unfit P38.1 (by omega)) ?_; intro u44 P44
        exact ok_im (sq_314 hn V35 hc (fun _ => I35.1) P44.1 (by omega) (fun y => absurd y P44.2)) (fun r w => fin r w.1)
    · rw [if_neg (show ¬ ¬ u40.1 = 0 by omega)]
      exact ok_ret (fin u40.2 S40)
  · rw [if_neg (show ¬ ¬ u26.1 = 0 by omega)]
    exact ok_ret ⟨S26.1, nta_8 S26.2.2.1, fun y => absurd y p2⟩
theorem sq_210 (hn : 1000000 ≤ nn) (V0 : VS_ h) (hc : 0 ≤ c ∧ c ≤ 7) (B : Live h → SI8 h c) {l3 : Int} (S : ST8 h g c) (a : 3 ≤ l3 ∧ l3 ≤ 6300) (l : Live g → CL h c (h 238 l3.toNat)) : Ok_ (qj_X13_scan_210 nn c l3 g) (QR8 c h) := by
  have g113 := gF_160_113 V0
  have K := S.2.1
  unfold qj_X13_scan_210
  refine ok_add (by omega) ?_; intro v48 e48
  refine ok_sv (st8_byte S) ?_; intro u50 P
  obtain ⟨S50, P⟩ := P
  rcases P with ⟨p1, p2, p3, p4⟩ | ⟨p1, p2⟩
  · rw [if_neg (show ¬ u50.1 = 0 by omega), p2]
    have Bh := B (S.2.2.2 p3)
    refine ok_add (by omega) ?_; intro v52 e52
    refine ok_rd (by omega) (gA_238 S.1) ?_; intro v53 e53 _ _
    rw [e52, (K.1 _).1] at e53
    refine ok_sv (st8_class S Bh) ?_; intro u55 P55
    refine ok_if (fun F => sq_243 hn V0 hc B S a (fun y => ⟨l y, by rw [← e53]; exact P55.2 F⟩)) (fun _ => ?_)
    refine ok_add (by omega) ?_; intro v56 e56
    refine ok_sv (st8_unfit S (by omega)) ?_; intro u58 P58
    exact sq_243 hn V0 hc B P58.1 a (fun y => absurd y P58.2)
  · rw [if_pos p1]
    exact sq_243 hn V0 hc B S50 a (fun y => absurd y p2)
theorem sq_183 (hn : 1000000 ≤ nn) (V0 : VS_ h) (hc : 0 ≤ c ∧ c ≤ 7) (B : Live h → SI8 h c) {l3 : Int} (a : 3 ≤ l3 ∧ l3 ≤ 6300) : Ok_ (qj_X13_scan_183 nn c l3 h) (QR8 c h) := by
  have g113 := gF_160_113 V0
  have S : ST8 h h c := st8_0 V0
  unfold qj_X13_scan_183
  refine ok_sv (st8_byte S) ?_; intro u62 P
  obtain ⟨S62, P⟩ := P
  rcases P with ⟨p1, p2, p3, p4⟩ | ⟨p1, p2⟩
  · rw [if_neg (show ¬ u62.1 = 0 by omega), p2]
    have Bh := B p3
    refine ok_rd (by omega) (gA_238 S.1) ?_; intro v64 e64 _ _
    refine ok_sv (st8_class S Bh) ?_; intro u66 P66
    refine ok_if (fun F => sq_210 hn V0 hc B S a (fun _ => by rw [← e64]; exact P66.2 F)) (fun _ => ?_)
    refine ok_sv (st8_unfit S (by omega)) ?_; intro u68 P68
    exact sq_210 hn V0 hc B P68.1 a (fun y => absurd y P68.2)
  · rw [if_pos p1]
    exact sq_210 hn V0 hc B S62 a (fun y => absurd y p2)
/-- all constants name what is there -/
theorem sq_146 (hn : 1000000 ≤ nn) (V0 : VS_ h) (hc : 0 ≤ c ∧ c ≤ 7) {l2 l3 : Int} (h2 : 0 ≤ l2 ∧ l2 ≤ 255) (a : 3 ≤ l3 ∧ l3 ≤ 6300) (B : Live h → h 160 115 = c ∧ CSn h c (h 229 c.toNat) ∧ h 229 c.toNat = l2) : ∀ (k : Nat) (l4 : Int) (g : ms_M), VS_ g → NB h g → (Live g → Live h ∧ ∀ i : Int, 1 ≤ i → i < l4 → CK8 h c (pl h c i)) → (1 ≤ l4 ∧ l4 ≤ l2 + 1) → l2 + 1 - l4 < (k : Int) → Ok_ (qw_X13_scan_146 nn k c l2 l3 l4 g) (QR8 c h) := by
  intro k
  induction k with
  | zero => intro l4 g V N l b hm; exfalso; omega
  | succ k ih =>
    intro l4 g V N l b hm
    have K : KE8 h g c := ke_nb N
    have E : (Live g → SI8 g c) → Ok_ (qj_X13_scan_183 nn c l3 g) (QR8 c h) := fun w => ok_im (sq_183 hn V hc w a) (fun r q => ⟨q.1, nta_tr (nta_8 (nt8_nb N)) q.2.1, q.2.2⟩)
    unfold qw_X13_scan_146
    refine ok_if (fun C => E (fun y => ?_)) (fun C => ?_)
    · obtain ⟨y1, y2⟩ := l y
      obtain ⟨b1, b2, b3⟩ := B y1
      exact si8_ke K ⟨b1, b2, fun i i1 i2 => y2 i i1 (by omega)⟩
    · refine ok_if (fun D => E (fun y => absurd y D)) (fun D => ?_)
      have D : Live g := Classical.not_not.1 D
      obtain ⟨y1, y2⟩ := l D
      obtain ⟨b1, b2, b3⟩ := B y1
      refine ok_mul (by omega) ?_; intro v73 e73
      refine ok_add (by omega) ?_; intro v74 e74
      refine ok_rd (by omega) (gA_228 V) ?_; intro v75 e75 _ _
      have ep : v75 = pl g c l4 := by rw [e75, e74, e73]; rfl
      have cp := b2 l4 (by omega) (by omega)
      refine ok_sv (sq_check hn V (c := c) (by rw [K.2.2.1]; exact b1) (by rw [K.2.2.2]; exact cs_ke K b2) (by rw [ep, pl_ke K]; exact cp_ke K cp)) ?_; intro u77 P77
      obtain ⟨V77, N77, P77⟩ := P77
      refine ok_add (by omega) ?_; intro v78 e78
      refine ih v78 u77 V77 (nb_tr N N77) (fun y => ⟨y1, fun i i1 i2 => ?_⟩) (by omega) (by omega)
      by_cases q : i = l4
      · have ck := (P77 y).2
        rw [q]
        have kk : KE8 g h c := ⟨fun k => ⟨((K.1 k).1).symm, ((K.1 k).2).symm⟩, K.2.1.symm, K.2.2.1.symm, K.2.2.2.symm⟩
        rw [ep, pl_ke K] at ck
        exact ck_ke kk ck
      · exact y2 i i1 (by omega)
/-- the constants, one behind the other -/
theorem sq_86 (hn : 1000000 ≤ nn) (hc : 0 ≤ c ∧ c ≤ 7) {l2 : Int} (h2 : 0 ≤ l2 ∧ l2 ≤ 255) : ∀ (k : Nat) (l3 l4 : Int) (g : ms_M), VS_ g → g 160 115 = c → (3 ≤ l3 ∧ l3 ≤ 6300) → (Live g → CSn g c (g 229 c.toNat) ∧ g 229 c.toNat = l4 - 1 ∧ l3 ≤ g 160 113) → (1 ≤ l4 ∧ l4 ≤ l2 + 1) → l2 + 1 - l4 < (k : Int) → Ok_ (qw_X13_scan_86 nn k c l2 l3 l4 g) (QR8 c g) := by
  intro k
  induction k with
  | zero => intro l3 l4 g V e a l b hm; exfalso; omega
  | succ k ih =>
    intro l3 l4 g V e5 a l b hm
    have g113 := gF_160_113 V
    unfold qw_X13_scan_86
    refine ok_if (fun C => ?_) (fun C => ?_)
    · exact sq_146 hn V hc h2 a (fun y => ⟨e5, (l y).1, by have := (l y).2.1; omega⟩) nn 1 g V nb_rf (fun y => ⟨y, fun i i1 i2 => by exfalso; omega⟩) (by omega) (by omega)
    · refine ok_if (fun D => ?_) (fun D => ?_)
      · exact sq_146 hn V hc h2 a (fun y => absurd y D) nn 1 g V nb_rf (fun y => absurd y D) (by omega) (by omega)
      · have D : Live g := Classical.not_not.1 D
        obtain ⟨s1, s2, s3⟩ := l D
        refine ok_sv (sq_byte V) ?_; intro u83 P
        obtain ⟨V83, N83, P⟩ := P
        rcases P with ⟨p1, p2, p3, p4⟩ | ⟨p1, p2⟩
        · rw [if_pos (show ¬ u83.1 = 0 by omega), p2]
          refine ok_mul (by omega) ?_; intro v85 e85
          refine ok_add (by omega) ?_; intro v86 e86
          refine ok_wA (by omega) ?_; intro h87 E87
          have V87 : VS_ h87 := by rw [E87]; exact wA_228 V (by omega)
          refine ok_wA (by omega) ?_; intro h89 E89
          have V89 : VS_ h89 := by rw [E89]; exact wA_229 V87 (by omega)
          have f : ∀ x k : Nat, ¬ (x = 228 ∧ k = v86.toNat) → ¬ (x = 229 ∧ k = c.toNat) → h89 x k = g x k := fun x k w1 w2 => by rw [E89, up_n w2, E87, up_n w1]
          have f1 : h89 228 v86.toNat = l3 := by rw [E89, up_n (by omega), E87, up_s]
          have f2 : h89 229 c.toNat = l4 := by rw [E89, up_s]
          have f3 : h89 160 113 = g 160 113 := f 160 113 (by omega) (by omega)
          refine ok_sv (sq_scanC hn V89 (by omega)) ?_; intro u91 P91
          obtain ⟨V91, N91, b91, P91⟩ := P91
          have f4 : u91.2 160 113 = g 160 113 := (N91 160 113 (by decide)).trans f3
          have f5 : u91.2 229 c.toNat = l4 := (N91 229 _ (by omega)).trans f2
          have f6 : u91.2 160 115 = c := (N91 160 115 (by decide)).trans ((f 160 115 (by omega) (by omega)).trans e5)
          refine ok_add (by omega) ?_; intro v92 e92
          have Nf : NTa c g u91.2 := fun x k w1 w2 w3 w4 => by rw [N91 x k (by omega), f x k (by omega) (by omega)]
          have go : ∀ w : Int, (3 ≤ w ∧ w ≤ 6300) → (Live u91.2 → w = u91.1) → Ok_ (qw_X13_scan_86 nn k c l2 w v92 u91.2) (QR8 c g) := fun w hw ew => by
            refine ok_im (ih w v92 u91.2 V91 f6 hw (fun y => ?_) (by omega) (by omega)) (fun r q => ⟨q.1, nta_tr Nf q.2.1, q.2.2⟩)
            obtain ⟨_, c1, c2, c3⟩ := P91 y
            have := ew y
            refine ⟨fun i i1 i2 => ?_, by omega, by omega⟩
            rw [f5] at i2
            refine cp_nb N91 ?_
            have ei : pl u91.2 c i = pl h89 c i := N91 228 _ (by omega)
            rw [ei]
            by_cases q : i = l4
            · have : pl h89 c i = l3 := by
                unfold pl
                rw [q, show 256 * c + l4 = v86 by omega]; exact f1
              rw [this]; exact c1
            · have e2 : pl h89 c i = pl g c i := f 228 _ (by omega) (by omega)
              rw [e2]
              have cp := s1 i i1 (by omega)
              unfold CP at cp ⊢
              rw [f 238 _ (by omega) (by omega), f 238 _ (by omega) (by omega), f3]; exact cp
          exact go u91.1 (by omega) (fun _ => rfl)
        · rw [if_neg (show ¬ ¬ u83.1 = 0 by omega)]
          exact ok_ret ⟨V83, nta_8 (nt8_nb N83), fun y => absurd y p2⟩
theorem sq_65b (hn : 1000000 ≤ nn) (hc : 0 ≤ c ∧ c ≤ 7) (V : VS_ h) (e5 : h 160 115 = c) (e9 : h 229 c.toNat = 0) : Ok_ (qj_X13_scan_65 nn c h) (QR8 c h) := by
  have g113 := gF_160_113 V
  unfold qj_X13_scan_65
  refine ok_sv (sq_byte V) ?_; intro u97 P
  obtain ⟨V97, N97, P⟩ := P
  rcases P with ⟨p1, p2, p3, p4⟩ | ⟨p1, p2⟩
  · rw [if_pos (show ¬ u97.1 = 0 by omega), p2]
    refine ok_rd (by omega) (gA_238 V) ?_; intro v99 _ a99 b99
    exact sq_86 hn hc ⟨a99, b99⟩ nn 3 1 h V e5 (by omega) (fun _ => ⟨fun i i1 i2 => by exfalso; omega, by omega, by omega⟩) (by omega) (by omega)
  · rw [if_neg (show ¬ ¬ u97.1 = 0 by omega)]
    exact ok_ret ⟨V97, nta_8 (nt8_nb N97), fun y => absurd y p2⟩
theorem qr_nb {f : ms_M} (N : NB h f) (q : QR8 c f r) : QR8 c h r := ⟨q.1, nta_tr (nta_8 (nt8_nb N)) q.2.1, q.2.2⟩
theorem sq_41b (hn : 1000000 ≤ nn) (hc : 0 ≤ c ∧ c ≤ 7) (V : VS_ h) (e5 : h 160 115 = c) (e9 : h 229 c.toNat = 0) : Ok_ (qj_X13_scan_41 nn c h) (QR8 c h) := by
  have g113 := gF_160_113 V
  unfold qj_X13_scan_41
  refine ok_sv (sq_byte V) ?_; intro u102 P
  obtain ⟨V2, N2, P⟩ := P
  have J : ∀ f : ms_M, VS_ f → NB h f → Ok_ (qj_X13_scan_65 nn c f) (QR8 c h) := fun f Vf Nf => ok_im (sq_65b hn hc Vf (by rw [Nf 160 115 (by decide)]; exact e5) (by rw [Nf 229 _ (by omega)]; exact e9)) (fun r q => qr_nb Nf q)
  refine ok_if (fun F => J u102.2 V2 N2) (fun F => ?_)
  rcases P with ⟨p1, p2, p3, p4⟩ | ⟨p1, p2⟩
  · rw [p2]
    refine ok_rd (by omega) (gA_238 V) ?_; intro v104 _ _ _
    refine ok_if (fun _ => J h V nb_rf) (fun _ => ?_)
    refine ok_sv (sq_unfit V (by omega)) ?_; intro u106 P6
    exact J u106 P6.1 P6.2.1
  · exact absurd p1 F
/-- an image is read -/
theorem sq_scan (hn : 1000000 ≤ nn) (hc : 0 ≤ c ∧ c ≤ 7) (V : VS_ h) : Ok_ (qf_X13_scan nn c h) (QR8 c h) := by
  unfold qf_X13_scan
  refine ok_xl ?_; intro h109 E109
  have V109 : VS_ h109 := by rw [E109]; exact wF_160_115 V (by omega)
  refine ok_xl ?_; intro h110 E110
  have V110 : VS_ h110 := by rw [E110]; exact wF_160_114 V109 (by omega)
  refine ok_wA (by omega) ?_; intro h112 E112
  have V112 : VS_ h112 := by rw [E112]; exact wA_229 V110 (by omega)
  have N : NTa c h h112 := fun x k w1 w2 w3 w4 => by rw [E112, up_n (by omega), E110, up_n (by omega), E109, up_n (by omega)]
  have e5 : h112 160 115 = c := by rw [E112, up_n (by omega), E110, up_n (by decide), E109, up_s]
  have e9 : h112 229 c.toNat = 0 := by rw [E112, up_s]
  have g113 := gF_160_113 V112
  have J : ∀ f : ms_M, VS_ f → NB h112 f → Ok_ (qj_X13_scan_41 nn c f) (QR8 c h) := fun f Vf Nf => ok_im (sq_41b hn hc Vf (by rw [Nf 160 115 (by decide)]; exact e5) (by rw [Nf 229 _ (by omega)]; exact e9)) (fun r q => ⟨q.1, nta_tr N (qr_nb Nf q).2.1, q.2.2⟩)
  refine ok_sv (sq_byte V112) ?_; intro u114 P
  obtain ⟨V2, N2, P⟩ := P
  refine ok_if (fun F => J u114.2 V2 N2) (fun F => ?_)
  rcases P with ⟨p1, p2, p3, p4⟩ | ⟨p1, p2⟩
  · rw [p2]
    refine ok_rd (by omega) (gA_238 V112) ?_; intro v116 _ _ _
    refine ok_if (fun _ => J h112 V112 nb_rf) (fun _ => ?_)
    refine ok_sv (sq_unfit V112 (by omega)) ?_; intro u118 P6
    exact J u118 P6.1 P6.2.1
  · exact absurd p1 F
end
end
section
section
variable {nn : Nat} {h g r z t : ms_M} {c : Int}
/-- image c as if it were being read -/
def vw (h : ms_M) (c : Int) : ms_M := fun x k => if x = 238 then h 226 (6000 * c.toNat + k) else if x = 160 then (if k = 113 then h 227 c.toNat else c) else h x k
theorem vw_238 {k : Nat} : vw h c 238 k = h 226 (6000 * c.toNat + k) := if_pos rfl
theorem vw_113 : vw h c 160 113 = h 227 c.toNat := rfl
theorem vw_115 : vw h c 160 115 = c := rfl
theorem vw_o {x k : Nat} (a : x ≠ 238) (b : x ≠ 160) : vw h c x k = h x k := by unfold vw; rw [if_neg a, if_neg b]
theorem cp_eq {p : Int} (C : CP h p) (e : r 160 113 = h 160 113) (A : ∀ i : Nat, (i : Int) < h 160 113 → r 238 i = h 238 i) : CP r p := by
  have C0 := C
  obtain ⟨c0, c1⟩ := C
  have b : p + 2 ≤ h 160 113 := by rcases c1 with x | x | x | x <;> omega
  unfold CP
  rw [A p.toNat (by omega), A (p + 1).toNat (by omega), e]
  exact C0
/-- what was read without FORM stays so where its bytes and rows stay -/
theorem im8_eq (hc : 0 ≤ c) (I : IM8 h c) (V : VS_ h) (h7 : c ≤ 7) (e113 : r 160 113 = h 160 113) (e115 : r 160 115 = c) (T : ∀ i : Int, 0 ≤ i → i ≤ 255 → pl r c i = pl h c i) (e9 : r 229 c.toNat = h 229 c.toNat) (e0 : r 230 c.toNat = h 230 c.toNat) (e1 : r 231 c.toNat = h 231 c.toNat) (A : ∀ i : Nat, (i : Int) < h 160 113 → r 238 i = h 238 i) : IM8 r c := by
  obtain ⟨⟨_, s2, s3⟩, i2, i3⟩ := I
  have g9 := gA_229 V c.toNat (by omega)
  have lt : ∀ i : Int, 1 ≤ i → i ≤ h 229 c.toNat → 3 ≤ pl h c i ∧ pl h c i + 2 ≤ h 160 113 := fun i a b => by
    obtain ⟨c0, c1⟩ := s2 i a b
    refine ⟨c0, ?_⟩
    rcases c1 with x | x | x | x <;> omega
  have tag : ∀ i : Int, 1 ≤ i → i ≤ h 229 c.toNat → r 238 (pl r c i).toNat = h 238 (pl h c i).toNat := fun i a b => by
    have := lt i a b
    rw [T i (by omega) (by omega)]; exact A _ (by omega)
  have tx : ∀ i, TX h c i → TX r c i := fun i x => ⟨by rw [e9]; exact x.1, by rw [tag i x.1.1 x.1.2]; exact x.2⟩
  have cl : ∀ i, CL h c i → CL r c i := fun i x => ⟨by rw [e9]; exact x.1, by rw [tag i x.1.1 x.1.2]; exact x.2⟩
  refine ⟨⟨e115, fun i a b => ?_, fun i a b => ?_⟩, by rw [e0]; exact cl _ i2, by rw [e1]; exact cl _ i3⟩
  · rw [e9] at b
    rw [T i (by omega) (by omega)]
    exact cp_eq (s2 i a b) e113 A
  · rw [e9] at b
    have l := lt i a b
    have ck := s3 i a b
    obtain ⟨_, cp⟩ := s2 i a b
    rw [T i (by omega) (by omega)]
    unfold CK8
    rw [A _ (by omega), A _ (by omega)]
    refine ⟨fun y => tx _ (ck.1 y), fun y => ?_⟩
    have l4 : pl h c i + 4 ≤ h 160 113 := by
      rcases cp with x | x | x | x
      · exfalso; omega
      · exfalso; omega
      · exfalso; omega
      · exact x.2
    rw [A (pl h c i + 2).toNat (by omega), A (pl h c i + 3).toNat (by omega)]
    exact ⟨cl _ (ck.2 y).1, tx _ (ck.2 y).2.1, tx _ (ck.2 y).2.2⟩
/-- an image of the space -/
def IMG (h : ms_M) (c : Int) : Prop := IM8 (vw h c) c
def SPC (h : ms_M) : Prop := ∀ c : Int, 0 ≤ c → c < h 160 98 → IMG h c
/-- the places of a class's name -/
theorem nm_at (V : VS_ h) (hc : 0 ≤ c ∧ c ≤ 7) (I : IMG h c) : Ok_ (qf_X13_nameAt nn (8 + c) h) (fun u => (6000 * c ≤ u ∧ u + 1 + h 226 u.toNat ≤ 6000 * c + 6000) ∧ (1 ≤ h 226 u.toNat ∧ h 226 u.toNat ≤ 120)) := by
  obtain ⟨⟨_, s2, s3⟩, i2, _⟩ := I
  have o : ∀ x k : Nat, x ≠ 238 → x ≠ 160 → vw h c x k = h x k := fun x k a b => vw_o a b
  have n6 := gA_227 V c.toNat (by omega)
  have e113 : vw h c 160 113 = h 227 c.toNat := vw_113
  have e9 := o 229 c.toNat (by decide) (by decide)
  have e0 := o 230 c.toNat (by decide) (by decide)
  have g9 := gA_229 V c.toNat (by omega)
  obtain ⟨i21, i22⟩ := i2
  have cp := s2 _ i21.1 i21.2
  have ck := (s3 _ i21.1 i21.2).1 i22
  rw [e0] at cp ck i21 i22
  rw [e9] at i21
  have ep : pl (vw h c) c (h 230 c.toNat) = h 228 (256 * c + h 230 c.toNat).toNat := o 228 _ (by decide) (by decide)
  rw [ep] at cp ck i22
  obtain ⟨p0, p1⟩ := cp
  have p2 : h 228 (256 * c + h 230 c.toNat).toNat + 2 ≤ h 227 c.toNat := by
    rw [← e113]
    rcases p1 with x | x | x | x <;> omega
  rw [vw_238] at ck
  obtain ⟨j1, j2⟩ := ck
  have cq := s2 _ j1.1 j1.2
  rw [e9] at j1
  have eq : pl (vw h c) c (h 226 (6000 * c.toNat + (h 228 (256 * c + h 230 c.toNat).toNat + 1).toNat)) = h 228 (256 * c + h 226 (6000 * c.toNat + (h 228 (256 * c + h 230 c.toNat).toNat + 1).toNat)).toNat := o 228 _ (by decide) (by decide)
  rw [eq] at cq j2
  unfold qf_X13_nameAt
  refine ok_sub (by omega) ?_; intro v1 e1
  rw [show v1 = c by omega]
  refine ok_mul (by omega) ?_; intro v2 e2
  refine ok_mul (by omega) ?_; intro v4 e4
  refine ok_rd (by omega) (gA_230 V) ?_; intro v6 e6 a6 b6
  refine ok_add (by omega) ?_; intro v7 e7
  refine ok_rd (by omega) (gA_228 V) ?_; intro v8 e8 a8 b8
  have w8 : v8 = h 228 (256 * c + h 230 c.toNat).toNat := by rw [e8, e7, e4, e6]
  refine ok_add (by omega) ?_; intro v9 e9'
  refine ok_mul (by omega) ?_; intro v10 e10
  refine ok_mul (by omega) ?_; intro v12 e12
  refine ok_add (by omega) ?_; intro v14 e14
  refine ok_rd (by omega) (gA_226 V) ?_; intro v15 e15 a15 b15
  have w15 : v15 = h 226 (6000 * c.toNat + (h 228 (256 * c + h 230 c.toNat).toNat + 1).toNat) := by rw [e15, show v14.toNat = 6000 * c.toNat + (h 228 (256 * c + h 230 c.toNat).toNat + 1).toNat by omega]
  rw [← w15] at j1 j2 cq
  refine ok_add (by omega) ?_; intro v16 e16
  refine ok_rd (by omega) (gA_228 V) ?_; intro v17 e17 a17 b17
  have w17 : v17 = h 228 (256 * c + v15).toNat := by rw [e17, e16, e12]
  rw [← w17] at j2 cq
  refine ok_add (by omega) ?_; intro v18 e18
  refine ok_add (by omega) ?_; intro v19 e19
  obtain ⟨q0, q1⟩ := cq
  have q2 : (1 ≤ vw h c 238 (v17 + 1).toNat ∧ vw h c 238 (v17 + 1).toNat ≤ 120) ∧ v17 + 2 + vw h c 238 (v17 + 1).toNat ≤ h 227 c.toNat := by
    rw [← e113]
    rcases q1 with x | x | x | x
    · exact x.2
    · exfalso; omega
    · exfalso; omega
    · exfalso; omega
  rw [vw_238, show 6000 * c.toNat + (v17 + 1).toNat = v19.toNat by omega] at q2
  exact ok_ret ⟨⟨by omega, by omega⟩, q2.1⟩
theorem nm_184 {x : Nat} {n : Int} (R : RW_ x n) (V : VS_ h) {l3 l4 l5 : Int} (r3 : 0 ≤ l3 ∧ l3 + l4 ≤ n) (r4 : 0 ≤ l4 ∧ l4 ≤ 255) (r5 : 0 ≤ l5 ∧ l5 < 48000) : ∀ (k : Nat) (l6 l7 : Int), (l6 = 0 ∨ (l6 = 1 ∧ l5 + 1 + l4 ≤ 48000)) → (0 ≤ l7 ∧ l7 ≤ l4) → l4 - l7 < (k : Int) → Ok_ (qw_X13_isNamed_184 nn k x l3 l4 l5 l6 l7 h) (fun u => u = 0 ∨ u = 1) := by
  have hn' : n ≤ 48000 := by rcases R with ⟨_, e⟩ | ⟨_, e⟩ <;> omega
  intro k
  induction k with
  | zero => intro l6 l7 a b hm; exfalso; omega
  | succ k ih =>
    intro l6 l7 a b hm
    have a' : l6 = 0 ∨ l6 = 1 := by omega
    unfold qw_X13_isNamed_184
    refine ok_if (fun _ => ok_ck a' (ok_ret a')) (fun C => ?_)
    refine ok_if (fun _ => ok_ck a' (ok_ret a')) (fun D => ?_)
    refine ok_add (by omega) ?_; intro v4 e4
    refine ok_add (by omega) ?_; intro v5 e5
    refine ok_rd (by omega) (gA_226 V) ?_; intro v6 _ _ _
    refine ok_add (by omega) ?_; intro v7 e7
    refine ok_rS R V (by omega) ?_; intro v8 _ _ _
    refine ok_if (fun _ => ?_) (fun _ => ?_)
    · refine ok_add (by omega) ?_; intro v9 e9
      exact ih 0 v9 (.inl rfl) (by omega) (by omega)
    · refine ok_add (by omega) ?_; intro v10 e10
      exact ih 1 v10 (.inr ⟨rfl, by omega⟩) (by omega) (by omega)
end
end
section
section
variable {nn : Nat} {h g r z t : ms_M} {c : Int}
theorem ok_lX3 {α : Type} {Q : α → Prop} {G : Int → Option α} (h : Ok_ (G 77) Q) : Ok_ (ln_X (1000000000 + 3) G) Q := h
theorem ok_rX3 {α : Type} {Q : α → Prop} {j : Int} {G : Int → Option α} (hj : 0 ≤ j ∧ j < 77) (k : ∀ v, Ok_ (G v) Q) : Ok_ (rd_X (1000000000 + 3) j G) Q := by
  have h : (List.range 77).all (xt_ck (1000000000 + 3)) = true := by decide +kernel
  have h1 := List.all_eq_true.1 h j.toNat (List.mem_range.2 (by omega))
  unfold xt_ck at h1
  have e : ((j.toNat : Nat) : Int) = j := by omega
  rw [e] at h1
  unfold rd_X
  revert h1
  cases xsc (1000000000 + 3) (Int32.ofInt j) with
  | none => intro h1; cases h1
  | some v => intro _; exact k _
theorem nm_97 {x : Nat} {n : Int} (R : RW_ x n) (V : VS_ h) {l3 l4 l6 : Int} (r3 : 0 ≤ l3 ∧ l3 + l4 ≤ n) (r4 : 0 ≤ l4 ∧ l4 ≤ 255) (r6 : 0 ≤ l6 ∧ l6 < 77) : ∀ (k : Nat) (l7 l8 : Int), (l7 = 0 ∨ (l7 = 1 ∧ l6 + 1 + l4 ≤ 77)) → (0 ≤ l8 ∧ l8 ≤ l4) → l4 - l8 < (k : Int) → Ok_ (qw_X13_isNamed_97 nn k x l3 l4 l6 l7 l8 h) (fun u => u = 0 ∨ u = 1) := by
  have hn' : n ≤ 48000 := by rcases R with ⟨_, e⟩ | ⟨_, e⟩ <;> omega
  intro k
  induction k with
  | zero => intro l7 l8 a b hm; exfalso; omega
  | succ k ih =>
    intro l7 l8 a b hm
    have a' : l7 = 0 ∨ l7 = 1 := by omega
    unfold qw_X13_isNamed_97
    refine ok_if (fun _ => ok_ck a' (ok_ret a')) (fun C => ?_)
    refine ok_if (fun _ => ok_ck a' (ok_ret a')) (fun D => ?_)
    refine ok_add (by omega) ?_; intro v16 e16
    refine ok_add (by omega) ?_; intro v17 e17
    refine ok_rX3 (by omega) ?_; intro v18
    refine ok_add (by omega) ?_; intro v19 e19
    refine ok_rS R V (by omega) ?_; intro v20 _ _ _
    refine ok_if (fun _ => ?_) (fun _ => ?_)
    · refine ok_add (by omega) ?_; intro v21 e21
      exact ih 0 v21 (.inl rfl) (by omega) (by omega)
    · refine ok_add (by omega) ?_; intro v22 e22
      exact ih 1 v22 (.inr ⟨rfl, by omega⟩) (by omega) (by omega)
theorem nm_12 (hn : 1000000 ≤ nn) {x : Nat} {n : Int} (R : RW_ x n) (V : VS_ h) {l1 l3 l4 : Int} (r3 : 0 ≤ l3 ∧ l3 + l4 ≤ n) (r4 : 0 ≤ l4 ∧ l4 ≤ 255) : ∀ (k : Nat) (l5 l6 : Int), (-1 ≤ l5 ∧ l5 ≤ l6) → (0 ≤ l6 ∧ l6 ≤ 77) → 78 - l6 < (k : Int) → Ok_ (qw_X13_isNamed_12 nn k l1 x l3 l4 l5 l6 h) (fun u => u = 0 ∨ u = 1) := by
  intro k
  induction k with
  | zero => intro l5 l6 a b hm; exfalso; omega
  | succ k ih =>
    intro l5 l6 a b hm
    unfold qw_X13_isNamed_12
    refine ok_add (by omega) ?_; intro v26 e26
    refine ok_lX3 ?_
    refine ok_if (fun _ => ok_ret (.inl rfl)) (fun C => ?_)
    refine ok_rX3 (by omega) ?_; intro v28
    refine ok_if (fun _ => ?_) (fun _ => ?_)
    · refine ok_add (by omega) ?_; intro v29 e29
      refine ok_if (fun _ => ?_) (fun _ => ?_)
      · have J : Ok_ (qj_X13_isNamed_91 nn x l3 l4 l6 h) (fun u => u = 0 ∨ u = 1) := by
          unfold qj_X13_isNamed_91
          exact nm_97 R V r3 r4 (by omega) nn 0 0 (.inl rfl) (by omega) (by omega)
        refine ok_add (by omega) ?_; intro v30 e30
        refine ok_add (by omega) ?_; intro v31 e31
        refine ok_lX3 ?_
        refine ok_if (fun _ => J) (fun D => ?_)
        refine ok_add (by omega) ?_; intro v33 e33
        refine ok_add (by omega) ?_; intro v34 e34
        refine ok_rX3 (by omega) ?_; intro v35
        exact ok_if (fun _ => J) (fun _ => nm_97 R V r3 r4 (by omega) nn 1 0 (.inr ⟨rfl, by omega⟩) (by omega) (by omega))
      · refine ok_add (by omega) ?_; intro v38 e38
        exact ih v29 v38 (by omega) (by omega) (by omega)
    · refine ok_add (by omega) ?_; intro v40 e40
      exact ih l5 v40 (by omega) (by omega) (by omega)
theorem nm_is (hn : 1000000 ≤ nn) {x : Nat} {n : Int} (R : RW_ x n) (V : VS_ h) {a l3 l4 : Int} (r1 : 0 ≤ a ∧ a ≤ 15) (r3 : 0 ≤ l3 ∧ l3 + l4 ≤ n) (r4 : 0 ≤ l4 ∧ l4 ≤ 255) (I : 8 ≤ a → IMG h (a - 8)) : Ok_ (qf_X13_isNamed nn a x l3 l4 h) (fun u => u = 0 ∨ u = 1) := by
  unfold qf_X13_isNamed
  refine ok_if (fun C => ?_) (fun _ => nm_12 hn R V r3 r4 nn (-1) 0 (by omega) (by omega) (by omega))
  have N := nm_at (nn := nn) (c := a - 8) V (by omega) (I C)
  rw [show 8 + (a - 8) = a by omega] at N
  refine ok_sv N ?_; intro u44 P
  refine ok_rd (by omega) (gA_226 V) ?_; intro v46 e46 _ _
  refine ok_if (fun _ => nm_184 R V r3 r4 (by omega) nn 0 0 (.inl rfl) (by omega) (by omega)) (fun D => ?_)
  have D : v46 = l4 := Decidable.not_not.1 D
  exact nm_184 R V r3 r4 (by omega) nn 1 0 (.inr ⟨rfl, by omega⟩) (by omega) (by omega)
theorem nm_class (hn : 1000000 ≤ nn) {x : Nat} {n : Int} (R : RW_ x n) (V : VS_ h) {l3 l4 : Int} (r3 : 0 ≤ l3 ∧ l3 + l4 ≤ n) (r4 : 0 ≤ l4 ∧ l4 ≤ 255) (I : SPC h) : Ok_ (qf_X13_classNamed nn x l3 l4 h) (fun u => -1 ≤ u ∧ u < 8 + h 160 98) := by
  have g98 := gF_160_98 V
  have L : ∀ (k : Nat) (l : Int), (0 ≤ l ∧ l ≤ 16) → 17 - l < (k : Int) → Ok_ (qw_X13_classNamed_3 nn k x l3 l4 l h) (fun u => -1 ≤ u ∧ u < 8 + h 160 98) := by
    intro k
    induction k with
    | zero => intro l a hm; exfalso; omega
    | succ k ih =>
      intro l a hm
      unfold qw_X13_classNamed_3
      refine ok_add (by omega) ?_; intro v2 e2
      refine ok_if (fun _ => ok_ret (by omega)) (fun C => ?_)
      refine ok_sv (nm_is hn R V (by omega) r3 r4 (fun y => I (l - 8) (by omega) (by omega))) ?_; intro u4 _
      refine ok_if (fun _ => ?_) (fun _ => ok_ret (by omega))
      refine ok_add (by omega) ?_; intro v5 e5
      exact ih v5 (by omega) (by omega)
  unfold qf_X13_classNamed
  exact L nn 0 (by omega) (by omega)
/-- what is read is put into the space -/
def QI8 (c : Int) (h r : ms_M) : Prop := VS_ r ∧ (∀ x k : Nat, ¬ (x = 226 ∧ 6000 * c ≤ (k : Int) ∧ (k : Int) < 6000 * c + 6000) → ¬ (x = 227 ∧ (k : Int) = c) → r x k = h x k) ∧ (∀ i : Nat, (i : Int) < h 160 113 → r 226 (6000 * c.toNat + i) = h 238 i) ∧ r 227 c.toNat = h 160 113
theorem nm_install (hn : 1000000 ≤ nn) (hc : 0 ≤ c ∧ c ≤ 7) (V0 : VS_ h) : Ok_ (qf_X13_install nn c h) (fun u => QI8 c h u.2 ∧ u.1 = 8 + c) := by
  have g113 := gF_160_113 V0
  have L : ∀ (k : Nat) (l : Int) (g : ms_M), VS_ g → (∀ x k : Nat, ¬ (x = 226 ∧ 6000 * c ≤ (k : Int) ∧ (k : Int) < 6000 * c + 6000) → g x k = h x k) → (∀ i : Nat, (i : Int) < l → g 226 (6000 * c.toNat + i) = h 238 i) → (0 ≤ l ∧ l ≤ h 160 113) → h 160 113 - l < (k : Int) → Ok_ (qw_X13_install_2 nn k c l g) (fun u => QI8 c h u.2 ∧ u.1 = 8 + c) := by
    intro k
    induction k with
    | zero => intro l g V N A a hm; exfalso; omega
    | succ k ih =>
      intro l g V N A a hm
      have e113 := N 160 113 (by omega)
      unfold qw_X13_install_2
      refine ok_if (fun C => ?_) (fun C => ?_)
      · refine ok_wA (by omega) ?_; intro h4 E4
        refine ok_add (by omega) ?_; intro v5 e5
        refine ok_ret ⟨⟨by show VS_ h4; rw [E4]; exact wA_227 V (by omega), fun x k w1 w2 => ?_, fun i hi => ?_, ?_⟩, by show v5 = _; omega⟩
        · show h4 x k = h x k
          rw [E4, up_n (by omega)]; exact N x k w1
        · show h4 226 _ = h 238 i
          rw [E4, up_n (by omega)]; exact A i (by omega)
        · show h4 227 _ = _
          rw [E4, up_s]; exact e113
      · refine ok_mul (by omega) ?_; intro v7 e7
        refine ok_add (by omega) ?_; intro v8 e8
        refine ok_rd (by omega) (gA_238 V) ?_; intro v10 e10 a10 b10
        rw [N 238 _ (by omega)] at e10
        refine ok_wA (by omega) ?_; intro h11 E11
        refine ok_add (by omega) ?_; intro v12 e12
        refine ih v12 h11 (by rw [E11]; exact wA_226 V (by omega)) (fun x k w1 => by rw [E11, up_n (by omega)]; exact N x k w1) (fun i hi => ?_) (by omega) (by omega)
        by_cases q : (i : Int) = l
        · rw [E11, show 6000 * c.toNat + i = v8.toNat by omega, up_s, e10, show l.toNat = i by omega]
        · rw [E11, up_n (by omega)]; exact A i (by omega)
  unfold qf_X13_install
  exact L nn 0 h V0 (fun _ _ _ => rfl) (fun i hi => by exfalso; omega) (by omega) (by omega)
/-- an image that was read without FORM is one of the space then -/
theorem img_new (hc : 0 ≤ c ∧ c ≤ 7) (V : VS_ h) (I : IM8 h c) (Q : QI8 c h r) : IMG r c := by
  obtain ⟨_, N, A, e7⟩ := Q
  have o : ∀ x k : Nat, x ≠ 226 → x ≠ 227 → x ≠ 238 → x ≠ 160 → vw r c x k = h x k := fun x k a b d e => by rw [vw_o d e]; exact N x k (by omega) (by omega)
  exact im8_eq hc.1 I V hc.2 (by rw [vw_113]; exact e7) vw_115 (fun i _ _ => o 228 _ (by decide) (by decide) (by decide) (by decide)) (o 229 _ (by decide) (by decide) (by decide) (by decide)) (o 230 _ (by decide) (by decide) (by decide) (by decide)) (o 231 _ (by decide) (by decide) (by decide) (by decide)) (fun i hi => by rw [vw_238]; exact A i hi)
/-- an image of the space stays where its bytes and rows stay -/
theorem img_eq {d : Int} (hd : 0 ≤ d ∧ d ≤ 7) (I : IMG h d) (A6 : ∀ i : Nat, (i : Int) < 6000 → r 226 (6000 * d.toNat + i) = h 226 (6000 * d.toNat + i)) (V : VS_ h) (A7 : r 227 d.toNat = h 227 d.toNat) (A8 : ∀ i : Int, 0 ≤ i → i ≤ 255 → pl r d i = pl h d i) (A9 : r 229 d.toNat = h 229 d.toNat) (A0 : r 230 d.toNat = h 230 d.toNat) (A1 : r 231 d.toNat = h 231 d.toNat) : IMG r d := by
  have g7 := gA_227 V d.toNat (by omega)
  have g9 := gA_229 V d.toNat (by omega)
  obtain ⟨⟨_, s2, s3⟩, i2, i3⟩ := I
  have o : ∀ (m : ms_M) (x k : Nat), x ≠ 238 → x ≠ 160 → vw m d x k = m x k := fun m x k a b => vw_o a b
  have e9 : vw r d 229 d.toNat = vw h d 229 d.toNat := by rw [o r _ _ (by decide) (by decide), o h _ _ (by decide) (by decide)]; exact A9
  have T : ∀ i : Int, 0 ≤ i → i ≤ 255 → pl (vw r d) d i = pl (vw h d) d i := fun i a b => by
    show vw r d 228 _ = vw h d 228 _
    rw [o r _ _ (by decide) (by decide), o h _ _ (by decide) (by decide)]; exact A8 i a b
  have K : ∀ k : Nat, (k : Int) < h 227 d.toNat → vw r d 238 k = vw h d 238 k := fun k hk => by rw [vw_238, vw_238]; exact A6 k (by omega)
  have e113 : vw r d 160 113 = vw h d 160 113 := by rw [vw_113, vw_113]; exact A7
  have b9 : vw h d 229 d.toNat ≤ 255 := by rw [o h _ _ (by decide) (by decide)]; exact g9.2
  have lt : ∀ i : Int, 1 ≤ i → i ≤ vw h d 229 d.toNat → 3 ≤ pl (vw h d) d i ∧ pl (vw h d) d i + 2 ≤ h 227 d.toNat := fun i a b => by
    obtain ⟨c0, c1⟩ := s2 i a b
    rw [vw_113] at c1
    refine ⟨c0, ?_⟩
    rcases c1 with x | x | x | x <;> omega
  have tag : ∀ i : Int, 1 ≤ i → i ≤ vw h d 229 d.toNat → vw r d 238 (pl (vw r d) d i).toNat = vw h d 238 (pl (vw h d) d i).toNat := fun i a b => by
    have := lt i a b
    rw [T i (by omega) (by omega)]; exact K _ (by omega)
  have tx : ∀ i, TX (vw h d) d i → TX (vw r d) d i := fun i x => ⟨by rw [e9]; exact x.1, by rw [tag i x.1.1 x.1.2]; exact x.2⟩
  have cl : ∀ i, CL (vw h d) d i → CL (vw r d) d i := fun i x => ⟨by rw [e9]; exact x.1, by rw [tag i x.1.1 x.1.2]; exact x.2⟩
  refine ⟨⟨vw_115, fun i a b => ?_, fun i a b => ?_⟩, ?_, ?_⟩
  · rw [e9] at b
    rw [T i (by omega) (by omega)]
    exact cp_eq (s2 i a b) e113 (fun k hk => K k (by rw [vw_113] at hk; exact hk))
  · rw [e9] at b
    have l := lt i a b
    have ck := s3 i a b
    obtain ⟨_, cp⟩ := s2 i a b
    rw [vw_113] at cp
    rw [T i (by omega) (by omega)]
    unfold CK8
    rw [K _ (by omega), K _ (by omega)]
    refine ⟨fun y => tx _ (ck.1 y), fun y => ?_⟩
    have l4 : pl (vw h d) d i + 4 ≤ h 227 d.toNat := by
      rcases cp with x | x | x | x
      · exfalso; omega
      · exfalso; omega
      · exfalso; omega
      · exact x.2
    rw [K (pl (vw h d) d i + 2).toNat (by omega), K (pl (vw h d) d i + 3).toNat (by omega)]
    exact ⟨cl _ (ck.2 y).1, tx _ (ck.2 y).2.1, tx _ (ck.2 y).2.2⟩
  · rw [show vw r d 230 d.toNat = vw h d 230 d.toNat by rw [o r _ _ (by decide) (by decide), o h _ _ (by decide) (by decide)]; exact A0]; exact cl _ i2
  · rw [show vw r d 231 d.toNat = vw h d 231 d.toNat by rw [o r _ _ (by decide) (by decide), o h _ _ (by decide) (by decide)]; exact A1]; exact cl _ i3
end
end
