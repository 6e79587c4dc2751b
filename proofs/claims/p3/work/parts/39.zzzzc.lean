section
variable {nn : Nat} {h g r z w v : ms_M} {c d : Int}
/-- what a type's reading leaves -/
def TR (h : ms_M) (u : Int × ms_M) : Prop := VS_ u.2 ∧ NY h u.2 ∧ OI u.2 ∧ ((0 ≤ u.1 ∧ u.1 < 20 + 2 * h 160 98 ∧ u.2 160 117 = h 160 117) ∨ (36 ≤ u.1 ∧ u.1 ≤ 4235 ∧ u.2 160 117 ≤ h 160 117 + 1))
theorem tr_q {e : Int} {u : Int × ms_M} (q : TQ h e u) : TR h u := ⟨q.1, q.2.1, q.2.2.1, q.2.2.2.2⟩
theorem rv_typeOf (hn : 1000000 ≤ nn) (V : VS_ h) (S : SPD h) (O : OI h) (room : h 160 117 ≤ 2099) (hc : 0 ≤ c ∧ c ≤ 7) (W : WI h c w) {i : Int} (t : CL w c i) : Ok_ (qf_X13_typeOfClass nn c i h) (TR h) := by
  have g98 := gF_160_98 V
  unfold qf_X13_typeOfClass
  refine ok_sv (rv_textOf V hc W t) ?_; intro u2 P2
  obtain ⟨_, t1, t2⟩ := P2
  obtain ⟨a1, a2, a3, a4, a5⟩ := wi_tx W hc t1
  have ct := t2.2.2.2.2 rfl
  refine ok_mul (by omega) ?_; intro v3 e3
  refine ok_mul (by omega) ?_; intro v5 e5
  refine ok_add (by omega) ?_; intro v6 e6
  refine ok_rd (by omega) (gA_228 V) ?_; intro v7 e7 _ _
  rw [e6, e5, a2] at e7
  refine ok_add (by omega) ?_; intro v8 e8
  refine ok_add (by omega) ?_; intro v10 e10
  refine ok_rd (by omega) (gA_226 V) ?_; intro v11 e11 _ _
  rw [show v10 = 6000 * c + (pl w c u2 + 2) by omega, W.2.2.1 _ (by omega) (by omega)] at e11
  refine ok_if (fun C => ?_) (fun C => ?_)
  · refine ok_add (by omega) ?_; intro v12 e12
    refine ok_add (by omega) ?_; intro v14 e14
    refine ok_rd (by omega) (gA_226 V) ?_; intro v15 e15 _ _
    rw [show v14 = 6000 * c + pl w c u2 + 1 by omega, a5] at e15
    refine ok_sv (rv_number hn V S O room (by omega) (by omega)) ?_; intro u17 P17
    obtain ⟨q1, q2, q3, q4, q5⟩ := P17
    refine ok_mul (by omega) ?_; intro v18 e18
    refine ok_add (by omega) ?_; intro v19 e19
    exact ok_ret ⟨q1, q2, q3, by show (0 ≤ v19 ∧ v19 < 20 + 2 * h 160 98 ∧ u17.2 160 117 = h 160 117) ∨ (36 ≤ v19 ∧ v19 ≤ 4235 ∧ u17.2 160 117 ≤ h 160 117 + 1); omega⟩
  · have C : v11 = 91 := Decidable.not_not.1 C
    refine ok_add (by omega) ?_; intro v20 e20
    rw [show v20 = 6000 * c + (pl w c u2 + 2) by omega]
    have kd : KD (w 238) (pl w c u2 + 2) (pl w c u2 + 2 + w 238 (pl w c u2 + 1).toNat) := by
      rcases ct with y | y
      · exact y.2
      · exact absurd (e11.symm.trans C) y.1
    refine ok_sv (rv_typeAt hn V S O room hc W (by omega) (by omega) (.inr kd)) ?_; intro u22 P22
    exact ok_ret (tr_q P22)
theorem rv_kindType (hn : 1000000 ≤ nn) (V : VS_ h) (S : SPD h) (O : OI h) (room : h 160 117 ≤ 2099) (hc : 0 ≤ c ∧ c ≤ 7) (W : WI h c w) {i : Int} (t : TX w c i) (k : KD (w 238) (pl w c i + 2) (pl w c i + 2 + w 238 (pl w c i + 1).toNat)) : Ok_ (qf_X13_kindType nn c i h) (TR h) := by
  obtain ⟨a1, a2, a3, a4, a5⟩ := wi_tx W hc t
  unfold qf_X13_kindType
  refine ok_mul (by omega) ?_; intro v1 e1
  refine ok_mul (by omega) ?_; intro v3 e3
  refine ok_add (by omega) ?_; intro v4 e4
  refine ok_rd (by omega) (gA_228 V) ?_; intro v5 e5 _ _
  rw [e4, e3, a2] at e5
  refine ok_add (by omega) ?_; intro v6 e6
  refine ok_add (by omega) ?_; intro v7 e7
  rw [show v7 = 6000 * c + (pl w c i + 2) by omega]
  refine ok_sv (rv_typeAt hn V S O room hc W (by omega) (by omega) (.inr k)) ?_; intro u9 P9
  exact ok_ret (tr_q P9)
theorem rv_there {t : Int} (ht : 0 ≤ t ∧ t ≤ 4235) : Ok_ (qf_X13_isThere nn t h) (fun u => (u = 1 ∧ t < 36) ∨ (u = 0 ∧ 36 ≤ t)) := by
  unfold qf_X13_isThere
  refine ok_if (fun _ => ok_ret (.inl ⟨rfl, by omega⟩)) (fun C => ?_)
  refine ok_sub (by omega) ?_; intro v1 e1
  refine ok_xl ?_; intro v2 e2
  have e : v2 = v1 / 2 := by rw [e2]; exact Int.tdiv_eq_ediv_of_nonneg (by omega)
  exact ok_if (fun _ => ok_ret (.inr ⟨rfl, by omega⟩)) (fun _ => ok_ret (.inl ⟨rfl, by omega⟩))
theorem rv_row {t : Int} (ht : 0 ≤ t) : Ok_ (qf_X13_isRow nn t h) (fun u => (u = 0 ∨ u = 1) ∧ (¬ u = 0 → t = 3 ∨ (4 ≤ t ∧ t % 2 = 1))) := by
  unfold qf_X13_isRow
  refine ok_if (fun y => ok_ret ⟨.inr rfl, fun _ => .inl y⟩) (fun C => ?_)
  refine ok_if (fun _ => ok_ret ⟨.inl rfl, fun y => absurd rfl y⟩) (fun D => ?_)
  refine ok_xl ?_; intro v1 e1
  have e : v1 = t % 2 := by rw [e1]; exact Int.tmod_eq_emod_of_nonneg (by omega)
  exact ok_if (fun _ => ok_ret ⟨.inl rfl, fun y => absurd rfl y⟩) (fun E => ok_ret ⟨.inr rfl, fun _ => .inr ⟨by omega, by omega⟩⟩)
/-- a type whose class, if it has a number below 16, is there -/
def GTy (h : ms_M) (t : Int) : Prop := (0 ≤ t ∧ t ≤ 2147483647) ∧ (t < 20 + 2 * h 160 98 ∨ 36 ≤ t)
theorem rv_goes (hn : 1000000 ≤ nn) (V : VS_ h) (S : SPD h) {a b : Int} (ga : GTy h a) (gb : 0 ≤ b ∧ b ≤ 2147483647) : Ok_ (qf_X13_goes nn a b h) (fun u => u = 0 ∨ u = 1) := by
  have g98 := gF_160_98 V
  obtain ⟨g1, g2⟩ := ga
  have J : Ok_ (qj_X13_goes_53 nn a b h) (fun u => u = 0 ∨ u = 1) := by
    unfold qj_X13_goes_53
    refine ok_if (fun _ => ok_ret (.inl rfl)) (fun A => ?_)
    refine ok_if (fun _ => ok_ret (.inl rfl)) (fun B => ?_)
    refine ok_xl ?_; intro v1 _
    refine ok_xl ?_; intro v2 _
    refine ok_if (fun _ => ?_) (fun _ => ok_ret (.inl rfl))
    refine ok_sub (by omega) ?_; intro v3 e3
    refine ok_xl ?_; intro v4 e4
    have e : v4 = v3 / 2 := by rw [e4]; exact Int.tdiv_eq_ediv_of_nonneg (by omega)
    refine ok_sub (by omega) ?_; intro v5 e5
    refine ok_xl ?_; intro v6 e6
    refine ok_if (fun _ => ok_ret (.inl rfl)) (fun C => ?_)
    refine ok_if (fun _ => ok_ret (.inl rfl)) (fun D => ?_)
    refine ok_sv (rv_under hn V S (by omega)) ?_; intro u8 _
    exact ok_if (fun _ => ok_ret (.inl rfl)) (fun _ => ok_ret (.inr rfl))
  unfold qf_X13_goes
  refine ok_if (fun _ => ok_ret (.inr rfl)) (fun _ => ?_)
  refine ok_if (fun _ => ?_) (fun _ => ok_ret (.inr rfl))
  refine ok_if (fun _ => ok_ret (.inl rfl)) (fun _ => ?_)
  refine ok_if (fun _ => ok_ret (.inl rfl)) (fun _ => ?_)
  refine ok_if (fun _ => ok_ret (.inl rfl)) (fun _ => ?_)
  refine ok_if (fun _ => ?_) (fun _ => ok_ret (.inl rfl))
  refine ok_if (fun _ => ?_) (fun _ => ok_ret (.inr rfl))
  refine ok_sv (rv_row (by omega)) ?_; intro u15 _
  refine ok_if (fun _ => J) (fun _ => ?_)
  exact ok_if (fun _ => J) (fun _ => ok_ret (.inr rfl))
/-- where a member is found -/
def QH9 (h : ms_M) (s : Int) (u : Int × ms_M) : Prop := (u.1 = -1 ∧ u.2 = h) ∨ ((8 ≤ u.1 ∧ u.1 < 8 + h 160 98) ∧ ∃ k : Int, (0 ≤ k ∧ k < mem h (u.1 - 8) s) ∧ u.2 = up_M h 160 121 k)
theorem rv_holder (hn : 1000000 ≤ nn) (V : VS_ h) (S : SPD h) (hc : 0 ≤ c ∧ c ≤ 7) (W : WI h c w) {f i s : Int} (hf : -1 ≤ f ∧ f < 8 + h 160 98) (t : TX w c i) : Ok_ (qf_X13_holder nn f c i s h) (QH9 h s) := by
  have g98 := gF_160_98 V
  have L : ∀ (k : Nat) (l5 l6 : Int), (-1 ≤ l5 ∧ l5 < 8 + h 160 98) → (0 ≤ l6 ∧ l6 ≤ 17) → 18 - l6 < (k : Int) → Ok_ (qw_X13_holder_6 nn k c i s l5 l6 h) (QH9 h s) := by
    intro k
    induction k with
    | zero => intro l5 l6 a b hm; exfalso; omega
    | succ k ih =>
      intro l5 l6 a b hm
      unfold qw_X13_holder_6
      refine ok_if (fun _ => ok_ret (.inl ⟨rfl, rfl⟩)) (fun A => ?_)
      refine ok_if (fun _ => ok_ret (.inl ⟨rfl, rfl⟩)) (fun B => ?_)
      have J : Ok_ (qj_X13_holder_148 nn (qw_X13_holder_6 nn k) c i s l5 l6 h) (QH9 h s) := by
        unfold qj_X13_holder_148
        refine ok_sv (rv_super hn V S (by omega)) ?_; intro u2 P2
        refine ok_add (by omega) ?_; intro v3 e3
        exact ih u2 v3 P2 (by omega) (by omega)
      refine ok_if (fun _ => J) (fun C => ?_)
      refine ok_sub (by omega) ?_; intro v24 e24
      have hd : 0 ≤ v24 ∧ v24 ≤ 7 := by omega
      obtain ⟨x, X⟩ := wi_of hd (S v24 (by omega) (by omega)).2
      have M : ∀ (m : Nat) (l8 l9 : Int), l8 = mem h v24 s → (0 ≤ l9 ∧ l9 ≤ 255) → 256 - l9 < (m : Int) → Ok_ (qw_X13_holder_60 nn (qw_X13_holder_6 nn k) m c i s l5 l6 v24 l8 l9 h) (QH9 h s) := by
        intro m
        induction m with
        | zero => intro l8 l9 p q hm2; exfalso; omega
        | succ m ih2 =>
          intro l8 l9 p q hm2
          unfold qw_X13_holder_60
          refine ok_if (fun _ => J) (fun D => ?_)
          have T : ∀ y : Int, TS 0 x v24 y → l9 < 12 → Ok_ (qj_X13_holder_115 nn (qw_X13_holder_6 nn k) (qw_X13_holder_60 nn (qw_X13_holder_6 nn k) m) c i s l5 l6 v24 l8 l9 y h) (QH9 h s) := fun y ty l12 => by
            unfold qj_X13_holder_115
            refine ok_sv (rv_same hn V hd hc X W ty.1 t) ?_; intro u5 _
            refine ok_if (fun _ => ?_) (fun _ => ?_)
            · refine ok_xl ?_; intro h6 E6
              exact ok_ret (.inr ⟨by show 8 ≤ l5 ∧ l5 < _; omega, l9, by show 0 ≤ l9 ∧ l9 < mem h (l5 - 8) s; rw [← e24, ← p]; omega, E6⟩)
            · refine ok_add (by omega) ?_; intro v7 e7
              exact ih2 l8 v7 p (by omega) (by omega)
          refine ok_if (fun E => ?_) (fun E => ?_)
          · have p2 : l8 = h 232 v24.toNat := p.trans (if_pos E)
            obtain ⟨k12, e, pb, t0, t1⟩ := wi_fd X hd (k := l9) (by omega)
            have g3 := gF_160_113 X.1
            refine ok_mul (by omega) ?_; intro v10 e10
            refine ok_add (by omega) ?_; intro v11 e11
            refine ok_rd (by omega) (gA_233 V) ?_; intro v12 e12 _ _
            rw [e11, e10] at e12
            rw [← e12] at pb t0
            refine ok_sv (rv_byte V hd (by omega)) ?_; intro u14 P14
            refine T u14 ?_ k12
            rw [P14.1, X.2.2.1 v12 (by omega) (by omega)]; exact t0
          · have p2 : l8 = h 234 v24.toNat := p.trans (if_neg E)
            obtain ⟨k12, bb, mm⟩ := wi_mt X hd (k := l9) (by omega)
            have t0 := (mth_tx mm).1
            refine ok_mul (by omega) ?_; intro v10 e10
            refine ok_add (by omega) ?_; intro v11 e11
            refine ok_rd (by omega) (gA_235 V) ?_; intro v12 e12 _ _
            rw [e11, e10] at e12
            rw [← e12] at bb t0
            refine ok_add (by omega) ?_; intro v19 e19
            refine ok_sv (rv_byte V hd (by omega)) ?_; intro u14 P14
            refine T u14 ?_ k12
            rw [P14.1, X.2.2.1 v19 (by omega) (by omega), e19]; exact t0
      refine ok_if (fun E => ?_) (fun E => ?_)
      · refine ok_rd (by omega) (gA_232 V) ?_; intro v26 e26 _ _
        exact M nn v26 0 (by rw [e26]; exact (if_pos E).symm) (by omega) (by omega)
      · refine ok_rd (by omega) (gA_234 V) ?_; intro v26 e26 _ _
        exact M nn v26 0 (by rw [e26]; exact (if_neg E).symm) (by omega) (by omega)
  unfold qf_X13_holder
  exact L nn f 0 hf (by omega) (by omega)
end
