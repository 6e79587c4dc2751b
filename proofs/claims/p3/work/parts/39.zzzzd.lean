section
variable {nn : Nat} {h g r z w v : ms_M} {c d : Int}
/-- good so far (l = 1: no name without a class was met) -/
def GK (h : ms_M) (l : Int) (g : ms_M) : Prop := VS_ g ∧ NY h g ∧ OI g ∧ ((l = 1 ∧ g 160 117 = h 160 117) ∨ (l = 0 ∧ g 160 117 ≤ h 160 117 + 1))
theorem gk_ty {u : Int × ms_M} {t : Int} (G : GK h 1 g) (q : TR g u) (T : (t = 1 ∧ u.1 < 36) ∨ (t = 0 ∧ 36 ≤ u.1)) : GK h t u.2 := by
  obtain ⟨a1, a2, a3, a4⟩ := G
  obtain ⟨b1, b2, b3, b4⟩ := q
  have g98 := gF_160_98 a1
  refine ⟨b1, ny_tr a2 b2, b3, ?_⟩
  omega
theorem gk_01 {l : Int} (G : GK h l g) : l = 0 ∨ l = 1 := by have := G.2.2.2; omega
theorem gk_1 {l : Int} (G : GK h l g) (n : ¬ l = 0) : GK h 1 g ∧ g 160 117 = h 160 117 := by
  obtain ⟨a1, a2, a3, a4⟩ := G
  exact ⟨⟨a1, a2, a3, by omega⟩, by omega⟩
theorem tr_rg {u : Int × ms_M} (V : VS_ h) (q : TR h u) : 0 ≤ u.1 ∧ u.1 ≤ 4235 := by
  have g98 := gF_160_98 V
  have := q.2.2.2
  omega
theorem kr_42 (hn : 1000000 ≤ nn) (V : VS_ h) (S : SPD h) (room : h 160 117 ≤ 2090) (hc : 0 ≤ c ∧ c ≤ 7) (W : WI h c w) : ∀ (k : Nat) (l2 l3 : Int) (g : ms_M), GK h l2 g → (0 ≤ l3 ∧ l3 ≤ 255) → 256 - l3 < (k : Int) → Ok_ (qw_X13_kindsAreThere_42 nn k c l2 l3 g) (fun u => GK h u.1 u.2) := by
  intro k
  induction k with
  | zero => intro l2 l3 g G a hm; exfalso; omega
  | succ k ih =>
    intro l2 l3 g G a hm
    have g01 := gk_01 G
    have Vg := G.1
    have Ng := G.2.1
    have Wg : WI g c w := wi_k (ny_k Ng) W
    unfold qw_X13_kindsAreThere_42
    refine ok_rd (by omega) (gA_234 Vg) ?_; intro v18 e18 _ _
    refine ok_if (fun _ => ok_ck g01 (ok_ret G)) (fun C => ?_)
    refine ok_if (fun _ => ok_ck g01 (ok_ret G)) (fun D => ?_)
    obtain ⟨k12, bb, mm⟩ := wi_mt Wg hc (k := l3) (by omega)
    refine ok_mul (by omega) ?_; intro v21 e21
    refine ok_mul (by omega) ?_; intro v23 e23
    refine ok_sv (rv_kind Vg hc Wg (s := 1) (k := l3) (by rw [show mem g c 1 = g 234 c.toNat from rfl]; omega)) ?_; intro u25 P25
    have t := P25.2 (by decide)
    obtain ⟨a1, a2, a3, a4, a5⟩ := wi_tx Wg hc t.1
    obtain ⟨m, m6, _, q, pr, fq, rt⟩ := t.2.2.2.1 rfl
    refine ok_add (by omega) ?_; intro v26 e26
    refine ok_rd (by omega) (gA_228 Vg) ?_; intro v27 e27 _ _
    rw [e26, e23, a2] at e27
    refine ok_add (by omega) ?_; intro v28 e28
    refine ok_add (by omega) ?_; intro v29 e29
    have ql : q + 2 ≤ pl w c u25 + 2 + w 238 (pl w c u25 + 1).toNat := by
      rcases rt with y | y
      · omega
      · have := kd_lt y; omega
    have J141 : ∀ f : ms_M, GK h 0 f → Ok_ (qj_X13_kindsAreThere_141 nn (qw_X13_kindsAreThere_42 nn k) c l3 f) (fun u => GK h u.1 u.2) := fun f Gf => by
      unfold qj_X13_kindsAreThere_141
      refine ok_add (by omega) ?_; intro v1 e1
      exact ih 0 v1 f Gf (by omega) (by omega)
    have L : ∀ (j : Nat) (x : Int) (n : Nat) (p : Int) (f : ms_M), GK h x f → 0 ≤ p → PRn (w 238) n p q → (n : Int) < j → Ok_ (qw_X13_kindsAreThere_84 nn (qw_X13_kindsAreThere_42 nn k) j c x l3 (6000 * c + p) f) (fun u => GK h u.1 u.2) := by
      intro j
      induction j with
      | zero => intro x n p f Gf p0 pr hm2; exfalso; omega
      | succ j ih2 =>
        intro x n p f Gf p0 pr hm2
        have Vf := Gf.1
        have Wf : WI f c w := wi_k (ny_k Gf.2.1) W
        have Sf : SPD f := ny_spd V Gf.2.1 S
        have le := pr_le _ _ _ pr
        unfold qw_X13_kindsAreThere_84
        refine ok_rd (by omega) (gA_226 Vf) ?_; intro v10 e10 _ _
        rw [Wf.2.2.1 p (by omega) (by omega)] at e10
        have J119 : (¬ x = 0 → p = q) → Ok_ (qj_X13_kindsAreThere_119 nn (qw_X13_kindsAreThere_42 nn k) c x l3 (6000 * c + p) f) (fun u => GK h u.1 u.2) := fun pq => by
          unfold qj_X13_kindsAreThere_119
          refine ok_if (fun y => J141 f (by rw [← y]; exact Gf)) (fun y => ?_)
          obtain ⟨G1, e117⟩ := gk_1 Gf y
          have pq := pq y
          refine ok_add (by omega) ?_; intro v2 e2
          rw [show v2 = 6000 * c + (q + 1) by omega]
          refine ok_sv (rv_typeAt hn Vf Sf Gf.2.2.1 (by omega) hc Wf (by omega) (by omega) rt) ?_; intro u4 P4
          have tr := tr_q P4
          refine ok_sv (rv_there (tr_rg Vf tr)) ?_; intro u5 P5
          refine ok_if (fun z => J141 u4.2 (gk_ty G1 tr (by omega))) (fun z => ?_)
          refine ok_add (by omega) ?_; intro v6 e6
          exact ih 1 v6 u4.2 (gk_ty G1 tr (by omega)) (by omega) (by omega)
        cases n with
        | zero =>
          have pr : p = q := pr
          have e41 : v10 = 41 := by rw [e10, pr]; exact fq
          rw [if_pos e41]
          exact J119 (fun _ => pr)
        | succ n =>
          obtain ⟨e1, kd, pr2⟩ := pr
          have n41 := kd_no kd
          have lt := kd_lt kd
          have le2 := pr_le _ _ _ pr2
          rw [if_neg (show ¬ v10 = 41 by rw [e10]; exact n41)]
          refine ok_if (fun y => J119 (fun z => absurd y z)) (fun y => ?_)
          obtain ⟨G1, e117⟩ := gk_1 Gf y
          refine ok_sv (rv_typeAt hn Vf Sf Gf.2.2.1 (by omega) hc Wf p0 (by omega) (.inr kd)) ?_; intro u12 P12
          have tr := tr_q P12
          refine ok_sv (rv_there (tr_rg Vf tr)) ?_; intro u13 P13
          rw [P12.2.2.2.1]
          exact ih2 u13 n e1 u12.2 (gk_ty G1 tr (by omega)) (by omega) pr2 (by omega)
    rw [show v29 = 6000 * c + (pl w c u25 + 2 + 1) by omega]
    exact L nn l2 m _ g G (by omega) pr (by omega)
theorem kr_kinds (hn : 1000000 ≤ nn) (V : VS_ h) (S : SPD h) (O : OI h) (room : h 160 117 ≤ 2090) (hc : 0 ≤ c ∧ c ≤ 7) (W : WI h c w) : Ok_ (qf_X13_kindsAreThere nn c h) (fun u => GK h u.1 u.2) := by
  have L : ∀ (k : Nat) (l2 l3 : Int) (g : ms_M), GK h l2 g → (0 ≤ l3 ∧ l3 ≤ 255) → 256 - l3 < (k : Int) → Ok_ (qw_X13_kindsAreThere_4 nn k c l2 l3 g) (fun u => GK h u.1 u.2) := by
    intro k
    induction k with
    | zero => intro l2 l3 g G a hm; exfalso; omega
    | succ k ih =>
      intro l2 l3 g G a hm
      have Vg := G.1
      have Wg : WI g c w := wi_k (ny_k G.2.1) W
      have Sg : SPD g := ny_spd V G.2.1 S
      unfold qw_X13_kindsAreThere_4
      refine ok_rd (by omega) (gA_232 Vg) ?_; intro v33 e33 _ _
      refine ok_if (fun _ => kr_42 hn V S room hc W nn l2 0 g G (by omega) (by omega)) (fun C => ?_)
      refine ok_if (fun _ => kr_42 hn V S room hc W nn l2 0 g G (by omega) (by omega)) (fun D => ?_)
      obtain ⟨G1, e117⟩ := gk_1 G D
      have k12 := (wi_fd Wg hc (k := l3) (by omega)).1
      refine ok_sv (rv_kind Vg hc Wg (s := 0) (k := l3) (by rw [show mem g c 0 = g 232 c.toNat from rfl]; omega)) ?_; intro u35 P35
      have t := P35.1 rfl
      refine ok_sv (rv_kindType hn Vg Sg G.2.2.1 (by omega) hc Wg t.1 (t.2.2.1 rfl)) ?_; intro u37 P37
      refine ok_sv (rv_there (tr_rg Vg P37)) ?_; intro u38 P38
      refine ok_add (by omega) ?_; intro v39 e39
      exact ih u38 v39 u37.2 (gk_ty G1 P37 P38) (by omega) (by omega)
  unfold qf_X13_kindsAreThere
  exact L nn 1 0 h ⟨V, ny_rf, O, .inl ⟨rfl, rfl⟩⟩ (by omega) (by omega)
end
