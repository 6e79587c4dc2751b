section
variable {nn : Nat} {h g r z w v : ms_M} {c d : Int}
theorem rv_kindv (V : VS_ h) (hc : 0 ≤ c ∧ c ≤ 7) (W : WI h c w) {k s : Int} (hk : 0 ≤ k ∧ k < mem h c s) : Ok_ (qf_X13_kindText nn c k s h) (fun u => (s = 0 → u = w 238 (h 233 (12 * c + k).toNat + 1).toNat) ∧ (¬ s = 0 → u = w 238 (h 235 (12 * c + k).toNat + 2).toNat)) := by
  unfold qf_X13_kindText
  refine ok_if (fun C => ?_) (fun C => ?_)
  · rw [show mem h c s = h 232 c.toNat from if_pos C] at hk
    obtain ⟨k12, e, p, t0, t1⟩ := wi_fd W hc hk
    have g3 := gF_160_113 W.1
    refine ok_mul (by omega) ?_; intro v2 e2
    refine ok_add (by omega) ?_; intro v3 e3
    refine ok_rd (by omega) (gA_233 V) ?_; intro v4 e4 _ _
    rw [e3, e2] at e4
    rw [← e4] at p
    refine ok_add (by omega) ?_; intro v5 e5
    refine ok_sv (rv_byte V hc (by omega)) ?_; intro u6 P6
    refine ok_ret ⟨fun _ => ?_, fun y => absurd C y⟩
    rw [P6.1, W.2.2.1 v5 (by omega) (by omega), e5, e4]
  · rw [show mem h c s = h 234 c.toNat from if_neg C] at hk
    obtain ⟨k12, b, m⟩ := wi_mt W hc hk
    refine ok_mul (by omega) ?_; intro v8 e8
    refine ok_add (by omega) ?_; intro v9 e9
    refine ok_rd (by omega) (gA_235 V) ?_; intro v10 e10 _ _
    rw [e9, e8] at e10
    rw [← e10] at b
    refine ok_add (by omega) ?_; intro v11 e11
    refine ok_sv (rv_byte V hc (by omega)) ?_; intro u13 P13
    refine ok_ret ⟨fun y => absurd y C, fun _ => ?_⟩
    rw [P13.1, W.2.2.1 v11 (by omega) (by omega), e11, e10]
/-- k kinds one behind the other, with names of classes -/
def PFn (nn : Nat) (h : ms_M) (c : Int) (f : Nat → Int) : Nat → Int → Int → Prop
  | 0, p, q => p = q
  | k + 1, p, q => ∃ e : Int, (KD f p e ∧ KF nn h c f p e) ∧ PFn nn h c f k e q
/-- a method's kind from a to e, all its names are classes' -/
def MKF (nn : Nat) (h : ms_M) (c : Int) (f : Nat → Int) (a e : Int) : Prop := ∃ (m : Nat) (q : Int), m ≤ 6 ∧ PFn nn h c f m (a + 1) q ∧ f q.toNat = 41 ∧ RTk f (q + 1) e ∧ KF nn h c f (q + 1) e
theorem pf_c {f : Nat → Int} (A : AGc h g) : ∀ (k : Nat) (p q : Int), PFn nn h c f k p q → PFn nn g c f k p q := by
  intro k
  induction k with
  | zero => intro p q y; exact y
  | succ k ih =>
    intro p q y
    obtain ⟨e, a, b⟩ := y
    exact ⟨e, ⟨a.1, kf_c A a.2⟩, ih _ _ b⟩
theorem mkf_c {f : Nat → Int} {a e : Int} (A : AGc h g) (F : MKF nn h c f a e) : MKF nn g c f a e := by
  obtain ⟨m, q, x1, x2, x3, x4, x5⟩ := F
  exact ⟨m, q, x1, pf_c A _ _ _ x2, x3, x4, kf_c A x5⟩
/-- text i of image c is the kind of a method, all its names are classes' -/
def TKF (nn : Nat) (h : ms_M) (c : Int) (w : ms_M) (i : Int) : Prop := MKF nn h c (w 238) (pl w c i + 2) (pl w c i + 2 + w 238 (pl w c i + 1).toNat)
/-- the same of a field's kind -/
def TKG (nn : Nat) (h : ms_M) (c : Int) (w : ms_M) (i : Int) : Prop := KF nn h c (w 238) (pl w c i + 2) (pl w c i + 2 + w 238 (pl w c i + 1).toNat)
theorem ks_42 (hn : 1000000 ≤ nn) (V : VS_ h) (S : SPD h) (room : h 160 117 ≤ 2090) (hc : 0 ≤ c ∧ c ≤ 7) (W : WI h c w) : ∀ (k : Nat) (l2 l3 : Int) (g : ms_M), GK h l2 g → (0 ≤ l3 ∧ l3 ≤ 255) → 256 - l3 < (k : Int) → Ok_ (qw_X13_kindsAreThere_42 nn k c l2 l3 g) (fun u => GK h u.1 u.2 ∧ (l2 = 0 → u.1 = 0) ∧ (¬ u.1 = 0 → ∀ j : Int, l3 ≤ j → j < h 234 c.toNat → TKF nn h c w (w 238 (h 235 (12 * c + j).toNat + 2).toNat))) := by
  intro k
  induction k with
  | zero => intro l2 l3 g G a hm; exfalso; omega
  | succ k ih =>
    intro l2 l3 g G a hm
    have g01 := gk_01 G
    have Vg := G.1
    have Ng := G.2.1
    have Wg : WI g c w := wi_k (ny_k Ng) W
    have f234 : g 234 c.toNat = h 234 c.toNat := ny_k Ng 234 _ (by decide) (by decide)
    unfold qw_X13_kindsAreThere_42
    refine ok_rd (by omega) (gA_234 Vg) ?_; intro v18 e18 _ _
    refine ok_if (fun C => ok_ck g01 (ok_ret ⟨G, id, fun _ j j1 j2 => by exfalso; omega⟩)) (fun C => ?_)
    refine ok_if (fun D => ok_ck g01 (ok_ret ⟨G, id, fun y => absurd D y⟩)) (fun D => ?_)
    obtain ⟨k12, bb, mm⟩ := wi_mt Wg hc (k := l3) (by omega)
    refine ok_mul (by omega) ?_; intro v21 e21
    refine ok_mul (by omega) ?_; intro v23 e23
    have hk : 0 ≤ l3 ∧ l3 < mem g c 1 := by rw [show mem g c 1 = g 234 c.toNat from rfl]; omega
    refine ok_sv (ok_both (rv_kind Vg hc Wg hk) (rv_kindv Vg hc Wg hk)) ?_; intro u25 P25
    have t := P25.1.2 (by decide)
    have ev := P25.2.2 (by decide)
    rw [ny_k Ng 235 _ (by decide) (by decide)] at ev
    obtain ⟨a1, a2, a3, a4, a5⟩ := wi_tx Wg hc t.1
    obtain ⟨m, m6, _, q, pr, fq, rt⟩ := t.2.2.2.1 rfl
    refine ok_add (by omega) ?_; intro v26 e26
    refine ok_rd (by omega) (gA_228 Vg) ?_; intro v27 e27 _ _
    rw [e26, e23, a2] at e27
    refine ok_add (by omega) ?_; intro v28 e28
    refine ok_add (by omega) ?_; intro v29 e29
    have ql : q + 2 ≤ pl w c u25 + 2 + w 238 (pl w c u25 + 1).toNat := by
      rcases rt with y | y
      · omega
      · have := kd_lt y; omega
    -- what is told from place p on
    have J141 : ∀ (X : Prop) (f : ms_M), GK h 0 f → Ok_ (qj_X13_kindsAreThere_141 nn (qw_X13_kindsAreThere_42 nn k) c l3 f) (fun u => GK h u.1 u.2 ∧ (¬ u.1 = 0 → X)) := fun X f Gf => by
      unfold qj_X13_kindsAreThere_141
      refine ok_add (by omega) ?_; intro v1 e1
      exact ok_im (ih 0 v1 f Gf (by omega) (by omega)) (fun u q => ⟨q.1, fun y => absurd (q.2.1 rfl) y⟩)
    have L : ∀ (j : Nat) (x : Int) (n : Nat) (p : Int) (f : ms_M), GK h x f → 0 ≤ p → PRn (w 238) n p q → (n : Int) < j → Ok_ (qw_X13_kindsAreThere_84 nn (qw_X13_kindsAreThere_42 nn k) j c x l3 (6000 * c + p) f) (fun u => GK h u.1 u.2 ∧ (¬ u.1 = 0 → (PFn nn h c (w 238) n p q ∧ KF nn h c (w 238) (q + 1) (pl w c u25 + 2 + w 238 (pl w c u25 + 1).toNat)) ∧ ∀ j : Int, l3 + 1 ≤ j → j < h 234 c.toNat → TKF nn h c w (w 238 (h 235 (12 * c + j).toNat + 2).toNat))) := by
      intro j
      induction j with
      | zero => intro x n p f Gf p0 pr hm2; exfalso; omega
      | succ j ih2 =>
        intro x n p f Gf p0 pr hm2
        have Vf := Gf.1
        have Nf := Gf.2.1
        have Wf : WI f c w := wi_k (ny_k Nf) W
        have Sf : SPD f := ny_spd V Nf S
        have le := pr_le _ _ _ pr
        have back := ag_sy (ny_ag Nf)
        unfold qw_X13_kindsAreThere_84
        refine ok_rd (by omega) (gA_226 Vf) ?_; intro v10 e10 _ _
        rw [Wf.2.2.1 p (by omega) (by omega)] at e10
        cases n with
        | zero =>
          have pr : p = q := pr
          have e41 : v10 = 41 := by rw [e10, pr]; exact fq
          rw [if_pos e41]
          unfold qj_X13_kindsAreThere_119
          refine ok_if (fun y => J141 _ f (by rw [← y]; exact Gf)) (fun y => ?_)
          obtain ⟨G1, e117⟩ := gk_1 Gf y
          refine ok_add (by omega) ?_; intro v2 e2
          rw [show v2 = 6000 * c + (q + 1) by omega]
          refine ok_sv (ro_typeAt hn Vf Sf Gf.2.2.1 (by omega) hc Wf (by omega) (by omega) rt) ?_; intro u4 P4
          have tr := tr_q P4.1
          refine ok_sv (rv_there (tr_rg Vf tr)) ?_; intro u5 P5
          refine ok_if (fun z => J141 _ u4.2 (gk_ty G1 tr (by omega))) (fun z => ?_)
          refine ok_add (by omega) ?_; intro v6 e6
          refine ok_im (ih 1 v6 u4.2 (gk_ty G1 tr (by omega)) (by omega) (by omega)) (fun u w2 => ⟨w2.1, fun y => ⟨⟨pr, kf_c back (P4.2 (by omega))⟩, fun j j1 j2 => w2.2.2 y j (by omega) j2⟩⟩)
        | succ n =>
          obtain ⟨e1, kd, pr2⟩ := pr
          have n41 := kd_no kd
          have lt := kd_lt kd
          have le2 := pr_le _ _ _ pr2
          rw [if_neg (show ¬ v10 = 41 by rw [e10]; exact n41)]
          refine ok_if (fun y => ?_) (fun y => ?_)
          · unfold qj_X13_kindsAreThere_119
            rw [if_pos y]
            exact J141 _ f (by rw [← y]; exact Gf)
          obtain ⟨G1, e117⟩ := gk_1 Gf y
          refine ok_sv (ro_typeAt hn Vf Sf Gf.2.2.1 (by omega) hc Wf p0 (by omega) (.inr kd)) ?_; intro u12 P12
          have tr := tr_q P12.1
          refine ok_sv (rv_there (tr_rg Vf tr)) ?_; intro u13 P13
          rw [P12.1.2.2.2.1]
          by_cases z : u12.1 < 36
          · exact ok_im (ih2 u13 n e1 u12.2 (gk_ty G1 tr (by omega)) (by omega) pr2 (by omega)) (fun u w2 => ⟨w2.1, fun y => ⟨⟨⟨e1, ⟨kd, kf_c back (P12.2 z)⟩, (w2.2 y).1.1⟩, (w2.2 y).1.2⟩, (w2.2 y).2⟩⟩)
          · have u0 : u13 = 0 := by omega
            rw [u0]
            have G2 : GK h 0 u12.2 := gk_ty G1 tr (by omega)
            cases j with
            | zero => exfalso; omega
            | succ j =>
              unfold qw_X13_kindsAreThere_84
              refine ok_rd (by omega) (gA_226 G2.1) ?_; intro v11 _ _ _
              have J : ∀ X : Prop, Ok_ (qj_X13_kindsAreThere_119 nn (qw_X13_kindsAreThere_42 nn k) c 0 l3 (6000 * c + e1) u12.2) (fun u => GK h u.1 u.2 ∧ (¬ u.1 = 0 → X)) := fun X => by
                unfold qj_X13_kindsAreThere_119
                rw [if_pos rfl]
                exact J141 X u12.2 G2
              exact ok_if (fun _ => J _) (fun _ => ok_if (fun _ => J _) (fun y => absurd rfl y))
    rw [show v29 = 6000 * c + (pl w c u25 + 2 + 1) by omega]
    refine ok_im (L nn l2 m _ g G (by omega) pr (by omega)) (fun u y => ⟨y.1, fun z => absurd z D, fun z j j1 j2 => ?_⟩)
    by_cases e : j = l3
    · rw [e, ← ev]
      exact ⟨m, q, m6, (y.2 z).1.1, fq, rt, (y.2 z).1.2⟩
    · exact (y.2 z).2 j (by omega) j2
/-- all kinds of class c name classes -/
def KAF (nn : Nat) (h : ms_M) (c : Int) (w : ms_M) : Prop := (∀ j : Int, 0 ≤ j → j < h 232 c.toNat → TKG nn h c w (w 238 (h 233 (12 * c + j).toNat + 1).toNat)) ∧ (∀ j : Int, 0 ≤ j → j < h 234 c.toNat → TKF nn h c w (w 238 (h 235 (12 * c + j).toNat + 2).toNat))
theorem ks_kinds (hn : 1000000 ≤ nn) (V : VS_ h) (S : SPD h) (O : OI h) (room : h 160 117 ≤ 2090) (hc : 0 ≤ c ∧ c ≤ 7) (W : WI h c w) : Ok_ (qf_X13_kindsAreThere nn c h) (fun u => GK h u.1 u.2 ∧ (¬ u.1 = 0 → KAF nn h c w)) := by
  have L : ∀ (k : Nat) (l2 l3 : Int) (g : ms_M), GK h l2 g → (¬ l2 = 0 → ∀ j : Int, 0 ≤ j → j < l3 → TKG nn h c w (w 238 (h 233 (12 * c + j).toNat + 1).toNat)) → (0 ≤ l3 ∧ l3 ≤ 255) → 256 - l3 < (k : Int) → Ok_ (qw_X13_kindsAreThere_4 nn k c l2 l3 g) (fun u => GK h u.1 u.2 ∧ (¬ u.1 = 0 → KAF nn h c w)) := by
    intro k
    induction k with
    | zero => intro l2 l3 g G T a hm; exfalso; omega
    | succ k ih =>
      intro l2 l3 g G T a hm
      have Vg := G.1
      have Ng := G.2.1
      have Wg : WI g c w := wi_k (ny_k Ng) W
      have Sg : SPD g := ny_spd V Ng S
      have f232 : g 232 c.toNat = h 232 c.toNat := ny_k Ng 232 _ (by decide) (by decide)
      unfold qw_X13_kindsAreThere_4
      refine ok_rd (by omega) (gA_232 Vg) ?_; intro v33 e33 _ _
      refine ok_if (fun C => ?_) (fun C => ?_)
      · refine ok_im (ks_42 hn V S room hc W nn l2 0 g G (by omega) (by omega)) (fun u q => ⟨q.1, fun y => ⟨fun j j1 j2 => T (fun z => y (q.2.1 z)) j j1 (by omega), fun j j1 j2 => q.2.2 y j j1 j2⟩⟩)
      refine ok_if (fun D => ?_) (fun D => ?_)
      · exact ok_im (ks_42 hn V S room hc W nn l2 0 g G (by omega) (by omega)) (fun u q => ⟨q.1, fun y => absurd (q.2.1 D) y⟩)
      obtain ⟨G1, e117⟩ := gk_1 G D
      have k12 := (wi_fd Wg hc (k := l3) (by omega)).1
      have hk : 0 ≤ l3 ∧ l3 < mem g c 0 := by rw [show mem g c 0 = g 232 c.toNat from rfl]; omega
      refine ok_sv (ok_both (rv_kind Vg hc Wg hk) (rv_kindv Vg hc Wg hk)) ?_; intro u35 P35
      have t := P35.1.1 rfl
      have ev := P35.2.1 rfl
      rw [ny_k Ng 233 _ (by decide) (by decide)] at ev
      obtain ⟨a1, a2, a3, a4, a5⟩ := wi_tx Wg hc t.1
      have kt : Ok_ (qf_X13_kindType nn c u35 g) (fun u => TR g u ∧ (u.1 < 36 → TKG nn g c w u35)) := by
        unfold qf_X13_kindType
        refine ok_mul (by omega) ?_; intro v1 e1
        refine ok_mul (by omega) ?_; intro v3 e3
        refine ok_add (by omega) ?_; intro v4 e4
        refine ok_rd (by omega) (gA_228 Vg) ?_; intro v5 e5 _ _
        rw [e4, e3, a2] at e5
        refine ok_add (by omega) ?_; intro v6 e6
        refine ok_add (by omega) ?_; intro v7 e7
        rw [show v7 = 6000 * c + (pl w c u35 + 2) by omega]
        refine ok_sv (ro_typeAt hn Vg Sg G.2.2.1 (by omega) hc Wg (by omega) (by omega) (.inr (t.2.2.1 rfl))) ?_; intro u9 P9
        exact ok_ret ⟨tr_q P9.1, P9.2⟩
      refine ok_sv kt ?_; intro u37 P37
      refine ok_sv (rv_there (tr_rg Vg P37.1)) ?_; intro u38 P38
      refine ok_add (by omega) ?_; intro v39 e39
      refine ih u38 v39 u37.2 (gk_ty G1 P37.1 P38) (fun y j j1 j2 => ?_) (by omega) (by omega)
      by_cases e : j = l3
      · rw [e, ← ev]
        exact kf_c (ag_sy (ny_ag Ng)) (P37.2 (by omega))
      · exact T D j j1 (by omega)
  unfold qf_X13_kindsAreThere
  exact L nn 1 0 h ⟨V, ny_rf, O, .inl ⟨rfl, rfl⟩⟩ (fun _ j j1 j2 => by exfalso; omega) (by omega) (by omega)
end
