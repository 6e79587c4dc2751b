/-- what a reader of an expression tells of the tree -/
def CE (m K : Int) (h : ms_M) (u : Int × ms_M) : Prop := Fr h u.2 (h 160 22) ∧ (u.2 160 9 = 0 → TE m u.2 0 K (h 160 22) (u.2 160 22) u.1)
def CA (m K : Int) (h : ms_M) (u : Int × ms_M) : Prop := Fr h u.2 (h 160 22) ∧ (u.2 160 9 = 0 → TE m u.2 1 K (h 160 22) (u.2 160 22) u.1)
def GT (m : Int) (rc : tq_X13_expression) : Prop :=
  (∀ d h, 0 ≤ d → d ≤ 40 → 0 ≤ h 160 22 → Pc (rc.1 d h) (CE m (RE m d) h)) ∧
  (∀ l d h, 0 ≤ l → l ≤ 10 → 0 ≤ d → d ≤ 40 → 0 ≤ h 160 22 → Pc (rc.2.1 l d h) (CE m (RE m d + 3 + 2 * m + 3 * (10 - l)) h)) ∧
  (∀ d h, 0 ≤ d → d ≤ 40 → 0 ≤ h 160 22 → Pc (rc.2.2.1 d h) (CE m (RE m d + 3 + 2 * m) h)) ∧
  (∀ d h, 0 ≤ d → d ≤ 40 → 0 ≤ h 160 22 → Pc (rc.2.2.2.1 d h) (CA m (RE m d) h)) ∧
  (∀ d h, 0 ≤ d → d ≤ 40 → 0 ≤ h 160 22 → Pc (rc.2.2.2.2.1 d h) (CE m (RE m d + 3 + 2 * m) h)) ∧
  (∀ d h, 0 ≤ d → d ≤ 40 → 0 ≤ h 160 22 → Pc (rc.2.2.2.2.2.1 d h) (CE m (RE m d + 3 + 2 * m) h)) ∧
  (∀ d h, 0 ≤ d → d ≤ 40 → 0 ≤ h 160 22 → (0 ≤ h 160 23 ∧ h 160 23 < 3008) → Pc (rc.2.2.2.2.2.2 d h) (CE m (RE m d + 3 + 2 * m) h))
theorem go_expression {nn : Nat} {m : Int} (hm : m = 0 ∨ m = 1) {rc : tq_X13_expression} (G : GT m rc) {a1 : Int} {h : ms_M} (ha : 0 ≤ a1 ∧ a1 ≤ 40) (hh : 0 ≤ h 160 22) : Pc (qo_X13_expression nn rc a1 h) (CE m (RE m a1) h) := by
  unfold qo_X13_expression CE
  generalize hn0 : h 160 22 = n0
  have F0 : Fr h h n0 := fr_rf
  have r0 := re_s (m := m) (d := a1) hm
  have r1 := re_1 (m := m) (d := a1)
  have r2 := re_1 (m := m) (d := a1 + 1)
  refine pc_sv pc_isDeep ?_; intro u2 P_u2
  rcases P_u2.2 with ⟨d1, d2, d3, d4⟩ | ⟨d1, d2⟩
  · rw [if_pos d1, d4]
    refine pc_add (by omega) ?_; intro v4 e_v4
    subst e_v4
    refine pc_sv (G.2.1 0 (a1 + 1) h (by omega) (by omega) (by omega) (by omega) (by omega)) ?_; intro u6 P_u6
    have F_u6 := P_u6.1; have z_u6 := F_u6.1.1; have c_u6 := F_u6.1.2.2
    have F1 : Fr h u6.2 n0 := fr_tr F0 F_u6 (by omega)
    refine pc_if (fun C2 => ?_) (fun C2 => ?_)
    · skip
      exact pc_ret ⟨F1, fun y => (C2 y).elim⟩
    · skip
      refine pc_sv pc_isSign ?_; intro u10 b_u10
      refine pc_if (fun C3 => ?_) (fun C3 => ?_)
      · skip
        refine pc_sv pc_ad ?_; intro u13 A_u13
        obtain ⟨⟨a0_u13, a1_u13, a2_u13, a3_u13, a4_u13, a5_u13, a6_u13⟩, F_u13, O_u13⟩ := A_u13
        have F4 : Fr h u13.2 n0 := fr_tr F1 F_u13 (by omega)
        have N5 : u13.2 160 9 = 0 → TE m u13.2 0 (RE m (a1 + 1) + 3 + 2 * m + 3 * (10 - 0)) (h 160 22) (u6.2 160 22) u6.1 := fun y => te_F F_u13 (by omega) (by omega) (P_u6.2 (F_u13.1.2.1 y))
        refine pc_add (by omega) ?_; intro v15 e_v15
        refine pc_xl ?_; intro h16 E_h16
        obtain ⟨S_h16, c_h16, f_h16⟩ := sm_cur E_h16 (by omega)
        have z_h16 := S_h16.1
        have F6 : Fr h h16 n0 := fr_tr F4 (sm_fr (n := n0) S_h16) (by omega)
        have O7 : ON h16 u13.1 39 (-1) (-1) (-1) (-1) (h 160 23) 0 := on_sm S_h16 O_u13
        have N8 : h16 160 9 = 0 → TE m h16 0 (RE m (a1 + 1) + 3 + 2 * m + 3 * (10 - 0)) (h 160 22) (u6.2 160 22) u6.1 := fun y => te_sm S_h16 (by omega) (N5 (S_h16.2.1 y))
        refine pc_wA ?_; intro p_h18 q_h18 h18 E_h18
        obtain ⟨x_h18, y_h18, z_h18⟩ := w_nd E_h18 (by decide)
        have F9 : Fr h h18 n0 := fr_tr F6 (fr_w (n := n0) E_h18 (by decide) (by omega) (by omega) (gi_o E_h18 (by decide))) (by omega)
        have O10 : ON h18 u13.1 39 u6.1 (-1) (-1) (-1) (h 160 23) 0 := on_w0 E_h18 O7
        have N11 : h18 160 9 = 0 → TE m h18 0 (RE m (a1 + 1) + 3 + 2 * m + 3 * (10 - 0)) (h 160 22) (u6.2 160 22) u6.1 := fun y => te_w E_h18 (by omega) (by omega) (by omega) (N8 (by omega))
        refine pc_add (by omega) ?_; intro v20 e_v20
        subst e_v20
        refine pc_sv (G.1 (a1 + 1) h18 (by omega) (by omega) (by omega)) ?_; intro u22 P_u22
        have F_u22 := P_u22.1; have z_u22 := F_u22.1.1; have c_u22 := F_u22.1.2.2
        have F12 : Fr h u22.2 n0 := fr_tr F9 F_u22 (by omega)
        have O13 : ON u22.2 u13.1 39 u6.1 (-1) (-1) (-1) (h 160 23) 0 := on_F F_u22 (by omega) (by omega) O10
        have N14 : u22.2 160 9 = 0 → TE m u22.2 0 (RE m (a1 + 1) + 3 + 2 * m + 3 * (10 - 0)) (h 160 22) (u6.2 160 22) u6.1 := fun y => te_F F_u22 (by omega) (by omega) (N11 (F_u22.1.2.1 y))
        refine pc_wA ?_; intro p_h23 q_h23 h23 E_h23
        obtain ⟨x_h23, y_h23, z_h23⟩ := w_nd E_h23 (by decide)
        have F15 : Fr h h23 n0 := fr_tr F12 (fr_w (n := n0) E_h23 (by decide) (by omega) (by omega) (gi_o E_h23 (by decide))) (by omega)
        have O16 : ON h23 u13.1 39 u6.1 u22.1 (-1) (-1) (h 160 23) 0 := on_w1 E_h23 O13
        have N17 : h23 160 9 = 0 → TE m h23 0 (RE m (a1 + 1) + 3 + 2 * m + 3 * (10 - 0)) (h 160 22) (u6.2 160 22) u6.1 := fun y => te_w E_h23 (by omega) (by omega) (by omega) (N14 (by omega))
        have N18 : h23 160 9 = 0 → TE m h23 0 (RE m (a1 + 1)) (h18 160 22) (u22.2 160 22) u22.1 := fun y => te_w E_h23 (by omega) (by omega) (by omega) (P_u22.2 (by omega))
        refine pc_sv pc_sign_ ?_; intro u25 P_u25
        have S_u25 := P_u25.1
        have z_u25 := S_u25.1; have c_u25 := S_u25.2.2.1
        have F19 : Fr h u25 n0 := fr_tr F15 (sm_fr (n := n0) S_u25) (by omega)
        have O20 : ON u25 u13.1 39 u6.1 u22.1 (-1) (-1) (h 160 23) 0 := on_sm S_u25 O16
        have N21 : u25 160 9 = 0 → TE m u25 0 (RE m (a1 + 1) + 3 + 2 * m + 3 * (10 - 0)) (h 160 22) (u6.2 160 22) u6.1 := fun y => te_sm S_u25 (by omega) (N17 (S_u25.2.1 y))
        have N22 : u25 160 9 = 0 → TE m u25 0 (RE m (a1 + 1)) (h18 160 22) (u22.2 160 22) u22.1 := fun y => te_sm S_u25 (by omega) (N18 (S_u25.2.1 y))
        refine pc_add (by omega) ?_; intro v27 e_v27
        subst e_v27
        refine pc_sv (G.1 (a1 + 1) u25 (by omega) (by omega) (by omega)) ?_; intro u29 P_u29
        have F_u29 := P_u29.1; have z_u29 := F_u29.1.1; have c_u29 := F_u29.1.2.2
        have F23 : Fr h u29.2 n0 := fr_tr F19 F_u29 (by omega)
        have O24 : ON u29.2 u13.1 39 u6.1 u22.1 (-1) (-1) (h 160 23) 0 := on_F F_u29 (by omega) (by omega) O20
        have N25 : u29.2 160 9 = 0 → TE m u29.2 0 (RE m (a1 + 1) + 3 + 2 * m + 3 * (10 - 0)) (h 160 22) (u6.2 160 22) u6.1 := fun y => te_F F_u29 (by omega) (by omega) (N21 (F_u29.1.2.1 y))
        have N26 : u29.2 160 9 = 0 → TE m u29.2 0 (RE m (a1 + 1)) (h18 160 22) (u22.2 160 22) u22.1 := fun y => te_F F_u29 (by omega) (by omega) (N22 (F_u29.1.2.1 y))
        have N27 : u29.2 160 9 = 0 → u25 160 23 = h23 160 23 + 1 ∧ h23 160 23 < 3002 := fun y => P_u25.2 (F_u29.1.2.1 y)
        refine pc_wA ?_; intro p_h30 q_h30 h30 E_h30
        obtain ⟨x_h30, y_h30, z_h30⟩ := w_nd E_h30 (by decide)
        have F28 : Fr h h30 n0 := fr_tr F23 (fr_w (n := n0) E_h30 (by decide) (by omega) (by omega) (gi_o E_h30 (by decide))) (by omega)
        have O29 : ON h30 u13.1 39 u6.1 u22.1 u29.1 (-1) (h 160 23) 0 := on_w2 E_h30 O24
        have N30 : h30 160 9 = 0 → TE m h30 0 (RE m (a1 + 1) + 3 + 2 * m + 3 * (10 - 0)) (h 160 22) (u6.2 160 22) u6.1 := fun y => te_w E_h30 (by omega) (by omega) (by omega) (N25 (by omega))
        have N31 : h30 160 9 = 0 → TE m h30 0 (RE m (a1 + 1)) (h18 160 22) (u22.2 160 22) u22.1 := fun y => te_w E_h30 (by omega) (by omega) (by omega) (N26 (by omega))
        have N32 : h30 160 9 = 0 → u25 160 23 = h23 160 23 + 1 ∧ h23 160 23 < 3002 := fun y => N27 (by omega)
        have N33 : h30 160 9 = 0 → TE m h30 0 (RE m (a1 + 1)) (u25 160 22) (u29.2 160 22) u29.1 := fun y => te_w E_h30 (by omega) (by omega) (by omega) (P_u29.2 (by omega))
        refine pc_ret ⟨F28, fun y => ?_⟩
        have y : h30 160 9 = 0 := y
        have A34 := N32 y
        show TE m h30 0 (RE m a1) n0 (h30 160 22) u13.1
        exact on_else O29 (by omega) ⟨by omega, by omega, by omega, by omega⟩ (te_wd (N30 y) (by omega) (by omega) (by omega) (by omega)) (te_wd (N31 y) (by omega) (by omega) (by omega) (by omega)) (te_wd (N33 y) (by omega) (by omega) (by omega) (by omega))
      · skip
        refine pc_ret ⟨F1, fun y => ?_⟩
        have y : u6.2 160 9 = 0 := y
        show TE m u6.2 0 (RE m a1) n0 (u6.2 160 22) u6.1
        exact te_wd (P_u6.2 y) (by omega) (by omega) (by omega) (by omega)
  · rw [if_neg d1]
    have S_u2 := P_u2.1
    have z_u2 := S_u2.1
    have F35 : Fr h u2.2 n0 := fr_tr F0 (sm_fr (n := n0) S_u2) (by omega)
    exact pc_ret ⟨F35, fun y => (d2 y).elim⟩
theorem gl_sides_37 {nn : Nat} {m : Int} (hm : m = 0 ∨ m = 1) {rc : tq_X13_expression} (G : GT m rc) : ∀ (k : Nat) (l1 l2 l3 l4 l5 l6 : Int) (h : ms_M) (n0 : Int), 0 ≤ l1 → 0 ≤ l2 → l2 ≤ 40 → l6 ≤ 9 → 0 ≤ n0 → n0 ≤ h 160 22 → (l5 < 0 ∨ (0 ≤ h 160 23 ∧ h 160 23 < 3008)) → (h 160 9 = 0 → TE m h 0 (RE m l2 + 3 + 2 * m + 3 * (10 - l1)) n0 (h 160 22) l4) → Pc (qw_X13_sides_37 nn rc k l1 l2 l3 l4 l5 l6 h) (fun u => Fr h u.2 n0 ∧ (u.2 160 9 = 0 → TE m u.2 0 (RE m l2 + 3 + 2 * m + 3 * (10 - l1)) n0 (u.2 160 22) u.1)) := by
  intro k
  induction k with
  | zero => intros; exact pc_none
  | succ k ih =>
    intro l1 l2 l3 l4 l5 l6 h n0 g1 g2 g3 g4 g5 g6 g7 T0
    have r1 := re_1 (m := m) (d := l2)
    unfold qw_X13_sides_37
    have F0 : Fr h h n0 := fr_rf
    refine pc_if (fun C1 => ?_) (fun C1 => ?_)
    · skip
      exact pc_ret ⟨F0, fun y => (C1 y).elim⟩
    · skip
      refine pc_if (fun C2 => ?_) (fun C2 => ?_)
      · skip
        refine pc_ret ⟨F0, fun y => ?_⟩
        have y : h 160 9 = 0 := y
        show TE m h 0 (RE m l2 + 3 + 2 * m + 3 * (10 - l1)) n0 (h 160 22) l4
        exact te_wd (T0 y) (by omega) (by omega) (by omega) (by omega)
      · skip
        refine pc_if (fun C3 => ?_) (fun C3 => ?_)
        · skip
          refine pc_ret ⟨F0, fun y => ?_⟩
          have y : h 160 9 = 0 := y
          show TE m h 0 (RE m l2 + 3 + 2 * m + 3 * (10 - l1)) n0 (h 160 22) l4
          exact te_wd (T0 y) (by omega) (by omega) (by omega) (by omega)
        · skip
          refine pc_add (by omega) ?_; intro v9 e_v9
          refine pc_xl ?_; intro h10 E_h10
          obtain ⟨S_h10, c_h10, f_h10⟩ := sm_cur E_h10 (by omega)
          have z_h10 := S_h10.1
          have F4 : Fr h h10 n0 := fr_tr F0 (sm_fr (n := n0) S_h10) (by omega)
          have N5 : h10 160 9 = 0 → TE m h10 0 (RE m l2 + 3 + 2 * m + 3 * (10 - l1)) n0 (h 160 22) l4 := fun y => te_sm S_h10 (by omega) (T0 (S_h10.2.1 y))
          refine pc_sv pc_isWord ?_; intro u12 b_u12
          refine pc_if (fun C6 => ?_) (fun C6 => ?_)
          · skip
            refine pc_sv pc_ad ?_; intro u14 A_u14
            obtain ⟨⟨a0_u14, a1_u14, a2_u14, a3_u14, a4_u14, a5_u14, a6_u14⟩, F_u14, O_u14⟩ := A_u14
            have F7 : Fr h u14.2 n0 := fr_tr F4 F_u14 (by omega)
            have N8 : u14.2 160 9 = 0 → TE m u14.2 0 (RE m l2 + 3 + 2 * m + 3 * (10 - l1)) n0 (h 160 22) l4 := fun y => te_F F_u14 (by omega) (by omega) (N5 (F_u14.1.2.1 y))
            refine pc_wA ?_; intro p_h16 q_h16 h16 E_h16
            obtain ⟨x_h16, y_h16, z_h16⟩ := w_nd E_h16 (by decide)
            have F9 : Fr h h16 n0 := fr_tr F7 (fr_w (n := n0) E_h16 (by decide) (by omega) (by omega) (gi_o E_h16 (by decide))) (by omega)
            have O10 : ON h16 u14.1 37 l4 (-1) (-1) (-1) l3 0 := on_w0 E_h16 O_u14
            have N11 : h16 160 9 = 0 → TE m h16 0 (RE m l2 + 3 + 2 * m + 3 * (10 - l1)) n0 (h 160 22) l4 := fun y => te_w E_h16 (by omega) (by omega) (by omega) (N8 (by omega))
            refine pc_add (by omega) ?_; intro v18 e_v18
            refine pc_sv (G.2.1 v18 l2 h16 (by omega) (by omega) (by omega) (by omega) (by omega)) ?_; intro u20 P_u20
            have F_u20 := P_u20.1; have z_u20 := F_u20.1.1; have c_u20 := F_u20.1.2.2
            have F12 : Fr h u20.2 n0 := fr_tr F9 F_u20 (by omega)
            have O13 : ON u20.2 u14.1 37 l4 (-1) (-1) (-1) l3 0 := on_F F_u20 (by omega) (by omega) O10
            have N14 : u20.2 160 9 = 0 → TE m u20.2 0 (RE m l2 + 3 + 2 * m + 3 * (10 - l1)) n0 (h 160 22) l4 := fun y => te_F F_u20 (by omega) (by omega) (N11 (F_u20.1.2.1 y))
            refine pc_wA ?_; intro p_h21 q_h21 h21 E_h21
            obtain ⟨x_h21, y_h21, z_h21⟩ := w_nd E_h21 (by decide)
            have F15 : Fr h h21 n0 := fr_tr F12 (fr_w (n := n0) E_h21 (by decide) (by omega) (by omega) (gi_o E_h21 (by decide))) (by omega)
            have O16 : ON h21 u14.1 37 l4 u20.1 (-1) (-1) l3 0 := on_w1 E_h21 O13
            have N17 : h21 160 9 = 0 → TE m h21 0 (RE m l2 + 3 + 2 * m + 3 * (10 - l1)) n0 (h 160 22) l4 := fun y => te_w E_h21 (by omega) (by omega) (by omega) (N14 (by omega))
            have N18 : h21 160 9 = 0 → TE m h21 0 (RE m l2 + 3 + 2 * m + 3 * (10 - v18)) (h16 160 22) (u20.2 160 22) u20.1 := fun y => te_w E_h21 (by omega) (by omega) (by omega) (P_u20.2 (by omega))
            unfold qj_X13_sides_157
            refine pc_if (fun C19 => ?_) (fun C19 => ?_)
            · skip
              have T20 : h21 160 9 = 0 → TE m h21 0 (RE m l2 + 3 + 2 * m + 3 * (10 - l1)) n0 (h21 160 22) u14.1 := by
                intro y; exact (C19 y).elim
              exact pc_imp (ih l1 l2 l3 u14.1 (-1) l5 h21 n0 (by omega) (by omega) (by omega) (by omega) (by omega) (by omega) (by omega) T20) (fun _ P => ⟨fr_tr F15 P.1 (by omega), P.2⟩)
            · skip
              refine pc_sv pc_strength ?_; intro u4 b_u4
              have T21 : h21 160 9 = 0 → TE m h21 0 (RE m l2 + 3 + 2 * m + 3 * (10 - l1)) n0 (h21 160 22) u14.1 := by
                intro y
                have y : h21 160 9 = 0 := y
                show TE m h21 0 (RE m l2 + 3 + 2 * m + 3 * (10 - l1)) n0 (h21 160 22) u14.1
                exact on_two O16 (by omega) ⟨by omega, by omega, by omega, by omega⟩ (te_wd (N17 y) (by omega) (by omega) (by omega) (by omega)) (te_wd (N18 y) (by omega) (by omega) (by omega) (by omega))
              exact pc_imp (ih l1 l2 l3 u14.1 u4 l5 h21 n0 (by omega) (by omega) (by omega) (by omega) (by omega) (by omega) (by omega) T21) (fun _ P => ⟨fr_tr F15 P.1 (by omega), P.2⟩)
          · skip
            refine pc_sv pc_name ?_; intro u23 P_u23
            have S_u23 := P_u23.1
            have z_u23 := S_u23.1; have c_u23 := S_u23.2.2.1
            have n_u23 := P_u23.2.1
            have F22 : Fr h u23.2 n0 := fr_tr F4 (sm_fr (n := n0) S_u23) (by omega)
            have N23 : u23.2 160 9 = 0 → TE m u23.2 0 (RE m l2 + 3 + 2 * m + 3 * (10 - l1)) n0 (h 160 22) l4 := fun y => te_sm S_u23 (by omega) (N5 (S_u23.2.1 y))
            refine pc_sv pc_ad ?_; intro u25 A_u25
            obtain ⟨⟨a0_u25, a1_u25, a2_u25, a3_u25, a4_u25, a5_u25, a6_u25⟩, F_u25, O_u25⟩ := A_u25
            have F24 : Fr h u25.2 n0 := fr_tr F22 F_u25 (by omega)
            have N25 : u25.2 160 9 = 0 → TE m u25.2 0 (RE m l2 + 3 + 2 * m + 3 * (10 - l1)) n0 (h 160 22) l4 := fun y => te_F F_u25 (by omega) (by omega) (N23 (F_u25.1.2.1 y))
            have N26 : u25.2 160 9 = 0 → u23.2 160 23 = h10 160 23 + 1 ∧ u23.1 = h10 160 23 := fun y => P_u23.2.2 (F_u25.1.2.1 y)
            refine pc_wA ?_; intro p_h27 q_h27 h27 E_h27
            obtain ⟨x_h27, y_h27, z_h27⟩ := w_nd E_h27 (by decide)
            have F27 : Fr h h27 n0 := fr_tr F24 (fr_w (n := n0) E_h27 (by decide) (by omega) (by omega) (gi_o E_h27 (by decide))) (by omega)
            have O28 : ON h27 u25.1 38 l4 (-1) (-1) (-1) l3 0 := on_w0 E_h27 O_u25
            have N29 : h27 160 9 = 0 → TE m h27 0 (RE m l2 + 3 + 2 * m + 3 * (10 - l1)) n0 (h 160 22) l4 := fun y => te_w E_h27 (by omega) (by omega) (by omega) (N25 (by omega))
            have N30 : h27 160 9 = 0 → u23.2 160 23 = h10 160 23 + 1 ∧ u23.1 = h10 160 23 := fun y => N26 (by omega)
            unfold qj_X13_sides_157
            refine pc_if (fun C31 => ?_) (fun C31 => ?_)
            · skip
              have T32 : h27 160 9 = 0 → TE m h27 0 (RE m l2 + 3 + 2 * m + 3 * (10 - l1)) n0 (h27 160 22) u25.1 := by
                intro y; exact (C31 y).elim
              exact pc_imp (ih l1 l2 l3 u25.1 (-1) l5 h27 n0 (by omega) (by omega) (by omega) (by omega) (by omega) (by omega) (by omega) T32) (fun _ P => ⟨fr_tr F27 P.1 (by omega), P.2⟩)
            · skip
              refine pc_sv pc_strength ?_; intro u4 b_u4
              have T33 : h27 160 9 = 0 → TE m h27 0 (RE m l2 + 3 + 2 * m + 3 * (10 - l1)) n0 (h27 160 22) u25.1 := by
                intro y
                have y : h27 160 9 = 0 := y
                have A34 := N30 y
                show TE m h27 0 (RE m l2 + 3 + 2 * m + 3 * (10 - l1)) n0 (h27 160 22) u25.1
                exact on_is O28 (by omega) ⟨by omega, by omega, by omega, by omega⟩ (te_wd (N29 y) (by omega) (by omega) (by omega) (by omega))
              exact pc_imp (ih l1 l2 l3 u25.1 u4 l5 h27 n0 (by omega) (by omega) (by omega) (by omega) (by omega) (by omega) (by omega) T33) (fun _ P => ⟨fr_tr F27 P.1 (by omega), P.2⟩)
theorem go_sides {nn : Nat} {m : Int} (hm : m = 0 ∨ m = 1) {rc : tq_X13_expression} (G : GT m rc) {a1 a2 : Int} {h : ms_M} (hl : 0 ≤ a1 ∧ a1 ≤ 10) (ha : 0 ≤ a2 ∧ a2 ≤ 40) (hh : 0 ≤ h 160 22) : Pc (qo_X13_sides nn rc a1 a2 h) (CE m (RE m a2 + 3 + 2 * m + 3 * (10 - a1)) h) := by
  unfold qo_X13_sides CE
  generalize hn0 : h 160 22 = n0
  have F0 : Fr h h n0 := fr_rf
  have r0 := re_s (m := m) (d := a2) hm
  have r1 := re_1 (m := m) (d := a2)
  have r2 := re_1 (m := m) (d := a2 + 1)
  refine pc_sv (G.2.2.1 a2 h (by omega) (by omega) (by omega)) ?_; intro u34 P_u34
  have F_u34 := P_u34.1; have z_u34 := F_u34.1.1; have c_u34 := F_u34.1.2.2
  have F1 : Fr h u34.2 n0 := fr_tr F0 F_u34 (by omega)
  refine pc_if (fun C2 => ?_) (fun C2 => ?_)
  · skip
    have T3 : u34.2 160 9 = 0 → TE m u34.2 0 (RE m a2 + 3 + 2 * m + 3 * (10 - a1)) n0 (u34.2 160 22) u34.1 := by
      intro y; exact (C2 y).elim
    exact pc_imp (gl_sides_37 hm G nn a1 a2 (h 160 23) u34.1 (-1) 9 u34.2 n0 (by omega) (by omega) (by omega) (by omega) (by omega) (by omega) (by omega) T3) (fun _ P => ⟨fr_tr F1 P.1 (by omega), P.2⟩)
  · skip
    refine pc_sv pc_strength ?_; intro u38 b_u38
    have T4 : u34.2 160 9 = 0 → TE m u34.2 0 (RE m a2 + 3 + 2 * m + 3 * (10 - a1)) n0 (u34.2 160 22) u34.1 := by
      intro y
      have y : u34.2 160 9 = 0 := y
      show TE m u34.2 0 (RE m a2 + 3 + 2 * m + 3 * (10 - a1)) n0 (u34.2 160 22) u34.1
      exact te_wd (P_u34.2 y) (by omega) (by omega) (by omega) (by omega)
    exact pc_imp (gl_sides_37 hm G nn a1 a2 (h 160 23) u34.1 u38 9 u34.2 n0 (by omega) (by omega) (by omega) (by omega) (by omega) (by omega) (by omega) T4) (fun _ P => ⟨fr_tr F1 P.1 (by omega), P.2⟩)
theorem go_unary {nn : Nat} {m : Int} (hm : m = 0 ∨ m = 1) {rc : tq_X13_expression} (G : GT m rc) {a1 : Int} {h : ms_M} (ha : 0 ≤ a1 ∧ a1 ≤ 40) (hh : 0 ≤ h 160 22) : Pc (qo_X13_unary nn rc a1 h) (CE m (RE m a1 + 3 + 2 * m) h) := by
  unfold qo_X13_unary CE
  generalize hn0 : h 160 22 = n0
  have F0 : Fr h h n0 := fr_rf
  have r0 := re_s (m := m) (d := a1) hm
  have r1 := re_1 (m := m) (d := a1)
  have r2 := re_1 (m := m) (d := a1 + 1)
  refine pc_if (fun C1 => ?_) (fun C1 => ?_)
  · skip
    refine pc_se ?_; intro u25 _
    refine pc_sv pc_isSign ?_; intro u28 b_u28
    refine pc_if (fun C2 => ?_) (fun C2 => ?_)
    · skip
      refine pc_sv pc_isSign ?_; intro u31 b_u31
      refine pc_if (fun C3 => ?_) (fun C3 => ?_)
      · skip
        refine pc_sv pc_isSign ?_; intro u34 b_u34
        refine pc_if (fun C4 => ?_) (fun C4 => ?_)
        · skip
          refine pc_if (fun C5 => ?_) (fun C5 => ?_)
          · skip
            unfold qj_X13_unary_78
            rw [if_neg (by decide)]
            refine pc_sv (G.2.2.2.2.1 a1 h (by omega) (by omega) (by omega)) ?_; intro u21 P_u21
            have F_u21 := P_u21.1; have z_u21 := F_u21.1.1; have c_u21 := F_u21.1.2.2
            have F6 : Fr h u21.2 n0 := fr_tr F0 F_u21 (by omega)
            refine pc_ret ⟨F6, fun y => ?_⟩
            have y : u21.2 160 9 = 0 := y
            show TE m u21.2 0 (RE m a1 + 3 + 2 * m) n0 (u21.2 160 22) u21.1
            exact te_wd (P_u21.2 y) (by omega) (by omega) (by omega) (by omega)
          · skip
            unfold qj_X13_unary_78
            rw [if_pos (by decide)]
            refine pc_sv pc_isDeep ?_; intro u14 P_u14
            rcases P_u14.2 with ⟨d1, d2, d3, d4⟩ | ⟨d1, d2⟩
            · rw [if_pos d1, d4]
              refine pc_if (fun C7 => ?_) (fun C7 => ?_)
              · skip
                unfold qj_X13_unary_118
                refine pc_sv pc_ad ?_; intro u10 A_u10
                obtain ⟨⟨a0_u10, a1_u10, a2_u10, a3_u10, a4_u10, a5_u10, a6_u10⟩, F_u10, O_u10⟩ := A_u10
                have F8 : Fr h u10.2 n0 := fr_tr F0 F_u10 (by omega)
                refine pc_if (fun C9 => ?_) (fun C9 => ?_)
                · skip
                  unfold qj_X13_unary_141
                  refine pc_add (by omega) ?_; intro v1 e_v1
                  refine pc_xl ?_; intro h2 E_h2
                  obtain ⟨S_h2, c_h2, f_h2⟩ := sm_cur E_h2 (by omega)
                  have z_h2 := S_h2.1
                  have F10 : Fr h h2 n0 := fr_tr F8 (sm_fr (n := n0) S_h2) (by omega)
                  have O11 : ON h2 u10.1 36 (-1) (-1) (-1) (-1) (h 160 23) 0 := on_sm S_h2 O_u10
                  refine pc_add (by omega) ?_; intro v4 e_v4
                  subst e_v4
                  refine pc_sv (G.2.2.1 (a1 + 1) h2 (by omega) (by omega) (by omega)) ?_; intro u6 P_u6
                  have F_u6 := P_u6.1; have z_u6 := F_u6.1.1; have c_u6 := F_u6.1.2.2
                  have F12 : Fr h u6.2 n0 := fr_tr F10 F_u6 (by omega)
                  have O13 : ON u6.2 u10.1 36 (-1) (-1) (-1) (-1) (h 160 23) 0 := on_F F_u6 (by omega) (by omega) O11
                  refine pc_wA ?_; intro p_h7 q_h7 h7 E_h7
                  obtain ⟨x_h7, y_h7, z_h7⟩ := w_nd E_h7 (by decide)
                  have F14 : Fr h h7 n0 := fr_tr F12 (fr_w (n := n0) E_h7 (by decide) (by omega) (by omega) (gi_o E_h7 (by decide))) (by omega)
                  have O15 : ON h7 u10.1 36 u6.1 (-1) (-1) (-1) (h 160 23) 0 := on_w0 E_h7 O13
                  have N16 : h7 160 9 = 0 → TE m h7 0 (RE m (a1 + 1) + 3 + 2 * m) (h2 160 22) (u6.2 160 22) u6.1 := fun y => te_w E_h7 (by omega) (by omega) (by omega) (P_u6.2 (by omega))
                  refine pc_ret ⟨F14, fun y => ?_⟩
                  have y : h7 160 9 = 0 := y
                  show TE m h7 0 (RE m a1 + 3 + 2 * m) n0 (h7 160 22) u10.1
                  exact on_pre O15 (by omega) ⟨by omega, by omega, by omega, by omega⟩ (te_wd (N16 y) (by omega) (by omega) (by omega) (by omega))
                · skip
                  unfold qj_X13_unary_141
                  refine pc_add (by omega) ?_; intro v1 e_v1
                  refine pc_xl ?_; intro h2 E_h2
                  obtain ⟨S_h2, c_h2, f_h2⟩ := sm_cur E_h2 (by omega)
                  have z_h2 := S_h2.1
                  have F17 : Fr h h2 n0 := fr_tr F8 (sm_fr (n := n0) S_h2) (by omega)
                  have O18 : ON h2 u10.1 36 (-1) (-1) (-1) (-1) (h 160 23) 0 := on_sm S_h2 O_u10
                  refine pc_add (by omega) ?_; intro v4 e_v4
                  subst e_v4
                  refine pc_sv (G.2.2.1 (a1 + 1) h2 (by omega) (by omega) (by omega)) ?_; intro u6 P_u6
                  have F_u6 := P_u6.1; have z_u6 := F_u6.1.1; have c_u6 := F_u6.1.2.2
                  have F19 : Fr h u6.2 n0 := fr_tr F17 F_u6 (by omega)
                  have O20 : ON u6.2 u10.1 36 (-1) (-1) (-1) (-1) (h 160 23) 0 := on_F F_u6 (by omega) (by omega) O18
                  refine pc_wA ?_; intro p_h7 q_h7 h7 E_h7
                  obtain ⟨x_h7, y_h7, z_h7⟩ := w_nd E_h7 (by decide)
                  have F21 : Fr h h7 n0 := fr_tr F19 (fr_w (n := n0) E_h7 (by decide) (by omega) (by omega) (gi_o E_h7 (by decide))) (by omega)
                  have O22 : ON h7 u10.1 36 u6.1 (-1) (-1) (-1) (h 160 23) 0 := on_w0 E_h7 O20
                  have N23 : h7 160 9 = 0 → TE m h7 0 (RE m (a1 + 1) + 3 + 2 * m) (h2 160 22) (u6.2 160 22) u6.1 := fun y => te_w E_h7 (by omega) (by omega) (by omega) (P_u6.2 (by omega))
                  refine pc_ret ⟨F21, fun y => ?_⟩
                  have y : h7 160 9 = 0 := y
                  show TE m h7 0 (RE m a1 + 3 + 2 * m) n0 (h7 160 22) u10.1
                  exact on_pre O22 (by omega) ⟨by omega, by omega, by omega, by omega⟩ (te_wd (N23 y) (by omega) (by omega) (by omega) (by omega))
              · skip
                refine pc_add (by omega) ?_; intro v17 e_v17
                unfold qj_X13_unary_118
                refine pc_sv pc_ad ?_; intro u10 A_u10
                obtain ⟨⟨a0_u10, a1_u10, a2_u10, a3_u10, a4_u10, a5_u10, a6_u10⟩, F_u10, O_u10⟩ := A_u10
                have F24 : Fr h u10.2 n0 := fr_tr F0 F_u10 (by omega)
                refine pc_if (fun C25 => ?_) (fun C25 => ?_)
                · skip
                  unfold qj_X13_unary_141
                  refine pc_add (by omega) ?_; intro v1 e_v1
                  refine pc_xl ?_; intro h2 E_h2
                  obtain ⟨S_h2, c_h2, f_h2⟩ := sm_cur E_h2 (by omega)
                  have z_h2 := S_h2.1
                  have F26 : Fr h h2 n0 := fr_tr F24 (sm_fr (n := n0) S_h2) (by omega)
                  have O27 : ON h2 u10.1 36 (-1) (-1) (-1) (-1) (h 160 23) 0 := on_sm S_h2 O_u10
                  refine pc_add (by omega) ?_; intro v4 e_v4
                  subst e_v4
                  refine pc_sv (G.2.2.1 (a1 + 1) h2 (by omega) (by omega) (by omega)) ?_; intro u6 P_u6
                  have F_u6 := P_u6.1; have z_u6 := F_u6.1.1; have c_u6 := F_u6.1.2.2
                  have F28 : Fr h u6.2 n0 := fr_tr F26 F_u6 (by omega)
                  have O29 : ON u6.2 u10.1 36 (-1) (-1) (-1) (-1) (h 160 23) 0 := on_F F_u6 (by omega) (by omega) O27
                  refine pc_wA ?_; intro p_h7 q_h7 h7 E_h7
                  obtain ⟨x_h7, y_h7, z_h7⟩ := w_nd E_h7 (by decide)
                  have F30 : Fr h h7 n0 := fr_tr F28 (fr_w (n := n0) E_h7 (by decide) (by omega) (by omega) (gi_o E_h7 (by decide))) (by omega)
                  have O31 : ON h7 u10.1 36 u6.1 (-1) (-1) (-1) (h 160 23) 0 := on_w0 E_h7 O29
                  have N32 : h7 160 9 = 0 → TE m h7 0 (RE m (a1 + 1) + 3 + 2 * m) (h2 160 22) (u6.2 160 22) u6.1 := fun y => te_w E_h7 (by omega) (by omega) (by omega) (P_u6.2 (by omega))
                  refine pc_ret ⟨F30, fun y => ?_⟩
                  have y : h7 160 9 = 0 := y
                  show TE m h7 0 (RE m a1 + 3 + 2 * m) n0 (h7 160 22) u10.1
                  exact on_pre O31 (by omega) ⟨by omega, by omega, by omega, by omega⟩ (te_wd (N32 y) (by omega) (by omega) (by omega) (by omega))
                · skip
                  unfold qj_X13_unary_141
                  refine pc_add (by omega) ?_; intro v1 e_v1
                  refine pc_xl ?_; intro h2 E_h2
                  obtain ⟨S_h2, c_h2, f_h2⟩ := sm_cur E_h2 (by omega)
                  have z_h2 := S_h2.1
                  have F33 : Fr h h2 n0 := fr_tr F24 (sm_fr (n := n0) S_h2) (by omega)
                  have O34 : ON h2 u10.1 36 (-1) (-1) (-1) (-1) (h 160 23) 0 := on_sm S_h2 O_u10
                  refine pc_add (by omega) ?_; intro v4 e_v4
                  subst e_v4
                  refine pc_sv (G.2.2.1 (a1 + 1) h2 (by omega) (by omega) (by omega)) ?_; intro u6 P_u6
                  have F_u6 := P_u6.1; have z_u6 := F_u6.1.1; have c_u6 := F_u6.1.2.2
                  have F35 : Fr h u6.2 n0 := fr_tr F33 F_u6 (by omega)
                  have O36 : ON u6.2 u10.1 36 (-1) (-1) (-1) (-1) (h 160 23) 0 := on_F F_u6 (by omega) (by omega) O34
                  refine pc_wA ?_; intro p_h7 q_h7 h7 E_h7
                  obtain ⟨x_h7, y_h7, z_h7⟩ := w_nd E_h7 (by decide)
                  have F37 : Fr h h7 n0 := fr_tr F35 (fr_w (n := n0) E_h7 (by decide) (by omega) (by omega) (gi_o E_h7 (by decide))) (by omega)
                  have O38 : ON h7 u10.1 36 u6.1 (-1) (-1) (-1) (h 160 23) 0 := on_w0 E_h7 O36
                  have N39 : h7 160 9 = 0 → TE m h7 0 (RE m (a1 + 1) + 3 + 2 * m) (h2 160 22) (u6.2 160 22) u6.1 := fun y => te_w E_h7 (by omega) (by omega) (by omega) (P_u6.2 (by omega))
                  refine pc_ret ⟨F37, fun y => ?_⟩
                  have y : h7 160 9 = 0 := y
                  show TE m h7 0 (RE m a1 + 3 + 2 * m) n0 (h7 160 22) u10.1
                  exact on_pre O38 (by omega) ⟨by omega, by omega, by omega, by omega⟩ (te_wd (N39 y) (by omega) (by omega) (by omega) (by omega))
            · rw [if_neg d1]
              have S_u14 := P_u14.1
              have z_u14 := S_u14.1
              have F40 : Fr h u14.2 n0 := fr_tr F0 (sm_fr (n := n0) S_u14) (by omega)
              exact pc_ret ⟨F40, fun y => (d2 y).elim⟩
        · skip
          unfold qj_X13_unary_78
          rw [if_pos (by decide)]
          refine pc_sv pc_isDeep ?_; intro u14 P_u14
          rcases P_u14.2 with ⟨d1, d2, d3, d4⟩ | ⟨d1, d2⟩
          · rw [if_pos d1, d4]
            refine pc_if (fun C41 => ?_) (fun C41 => ?_)
            · skip
              unfold qj_X13_unary_118
              refine pc_sv pc_ad ?_; intro u10 A_u10
              obtain ⟨⟨a0_u10, a1_u10, a2_u10, a3_u10, a4_u10, a5_u10, a6_u10⟩, F_u10, O_u10⟩ := A_u10
              have F42 : Fr h u10.2 n0 := fr_tr F0 F_u10 (by omega)
              refine pc_if (fun C43 => ?_) (fun C43 => ?_)
              · skip
                unfold qj_X13_unary_141
                refine pc_add (by omega) ?_; intro v1 e_v1
                refine pc_xl ?_; intro h2 E_h2
                obtain ⟨S_h2, c_h2, f_h2⟩ := sm_cur E_h2 (by omega)
                have z_h2 := S_h2.1
                have F44 : Fr h h2 n0 := fr_tr F42 (sm_fr (n := n0) S_h2) (by omega)
                have O45 : ON h2 u10.1 35 (-1) (-1) (-1) (-1) (h 160 23) 0 := on_sm S_h2 O_u10
                refine pc_add (by omega) ?_; intro v4 e_v4
                subst e_v4
                refine pc_sv (G.2.2.1 (a1 + 1) h2 (by omega) (by omega) (by omega)) ?_; intro u6 P_u6
                have F_u6 := P_u6.1; have z_u6 := F_u6.1.1; have c_u6 := F_u6.1.2.2
                have F46 : Fr h u6.2 n0 := fr_tr F44 F_u6 (by omega)
                have O47 : ON u6.2 u10.1 35 (-1) (-1) (-1) (-1) (h 160 23) 0 := on_F F_u6 (by omega) (by omega) O45
                refine pc_wA ?_; intro p_h7 q_h7 h7 E_h7
                obtain ⟨x_h7, y_h7, z_h7⟩ := w_nd E_h7 (by decide)
                have F48 : Fr h h7 n0 := fr_tr F46 (fr_w (n := n0) E_h7 (by decide) (by omega) (by omega) (gi_o E_h7 (by decide))) (by omega)
                have O49 : ON h7 u10.1 35 u6.1 (-1) (-1) (-1) (h 160 23) 0 := on_w0 E_h7 O47
                have N50 : h7 160 9 = 0 → TE m h7 0 (RE m (a1 + 1) + 3 + 2 * m) (h2 160 22) (u6.2 160 22) u6.1 := fun y => te_w E_h7 (by omega) (by omega) (by omega) (P_u6.2 (by omega))
                refine pc_ret ⟨F48, fun y => ?_⟩
                have y : h7 160 9 = 0 := y
                show TE m h7 0 (RE m a1 + 3 + 2 * m) n0 (h7 160 22) u10.1
                exact on_pre O49 (by omega) ⟨by omega, by omega, by omega, by omega⟩ (te_wd (N50 y) (by omega) (by omega) (by omega) (by omega))
              · skip
                unfold qj_X13_unary_141
                refine pc_add (by omega) ?_; intro v1 e_v1
                refine pc_xl ?_; intro h2 E_h2
                obtain ⟨S_h2, c_h2, f_h2⟩ := sm_cur E_h2 (by omega)
                have z_h2 := S_h2.1
                have F51 : Fr h h2 n0 := fr_tr F42 (sm_fr (n := n0) S_h2) (by omega)
                have O52 : ON h2 u10.1 35 (-1) (-1) (-1) (-1) (h 160 23) 0 := on_sm S_h2 O_u10
                refine pc_add (by omega) ?_; intro v4 e_v4
                subst e_v4
                refine pc_sv (G.2.2.1 (a1 + 1) h2 (by omega) (by omega) (by omega)) ?_; intro u6 P_u6
                have F_u6 := P_u6.1; have z_u6 := F_u6.1.1; have c_u6 := F_u6.1.2.2
                have F53 : Fr h u6.2 n0 := fr_tr F51 F_u6 (by omega)
                have O54 : ON u6.2 u10.1 35 (-1) (-1) (-1) (-1) (h 160 23) 0 := on_F F_u6 (by omega) (by omega) O52
                refine pc_wA ?_; intro p_h7 q_h7 h7 E_h7
                obtain ⟨x_h7, y_h7, z_h7⟩ := w_nd E_h7 (by decide)
                have F55 : Fr h h7 n0 := fr_tr F53 (fr_w (n := n0) E_h7 (by decide) (by omega) (by omega) (gi_o E_h7 (by decide))) (by omega)
                have O56 : ON h7 u10.1 35 u6.1 (-1) (-1) (-1) (h 160 23) 0 := on_w0 E_h7 O54
                have N57 : h7 160 9 = 0 → TE m h7 0 (RE m (a1 + 1) + 3 + 2 * m) (h2 160 22) (u6.2 160 22) u6.1 := fun y => te_w E_h7 (by omega) (by omega) (by omega) (P_u6.2 (by omega))
                refine pc_ret ⟨F55, fun y => ?_⟩
                have y : h7 160 9 = 0 := y
                show TE m h7 0 (RE m a1 + 3 + 2 * m) n0 (h7 160 22) u10.1
                exact on_pre O56 (by omega) ⟨by omega, by omega, by omega, by omega⟩ (te_wd (N57 y) (by omega) (by omega) (by omega) (by omega))
            · skip
              refine pc_add (by omega) ?_; intro v17 e_v17
              unfold qj_X13_unary_118
              refine pc_sv pc_ad ?_; intro u10 A_u10
              obtain ⟨⟨a0_u10, a1_u10, a2_u10, a3_u10, a4_u10, a5_u10, a6_u10⟩, F_u10, O_u10⟩ := A_u10
              have F58 : Fr h u10.2 n0 := fr_tr F0 F_u10 (by omega)
              refine pc_if (fun C59 => ?_) (fun C59 => ?_)
              · skip
                unfold qj_X13_unary_141
                refine pc_add (by omega) ?_; intro v1 e_v1
                refine pc_xl ?_; intro h2 E_h2
                obtain ⟨S_h2, c_h2, f_h2⟩ := sm_cur E_h2 (by omega)
                have z_h2 := S_h2.1
                have F60 : Fr h h2 n0 := fr_tr F58 (sm_fr (n := n0) S_h2) (by omega)
                have O61 : ON h2 u10.1 35 (-1) (-1) (-1) (-1) (h 160 23) 0 := on_sm S_h2 O_u10
                refine pc_add (by omega) ?_; intro v4 e_v4
                subst e_v4
                refine pc_sv (G.2.2.1 (a1 + 1) h2 (by omega) (by omega) (by omega)) ?_; intro u6 P_u6
                have F_u6 := P_u6.1; have z_u6 := F_u6.1.1; have c_u6 := F_u6.1.2.2
                have F62 : Fr h u6.2 n0 := fr_tr F60 F_u6 (by omega)
                have O63 : ON u6.2 u10.1 35 (-1) (-1) (-1) (-1) (h 160 23) 0 := on_F F_u6 (by omega) (by omega) O61
                refine pc_wA ?_; intro p_h7 q_h7 h7 E_h7
                obtain ⟨x_h7, y_h7, z_h7⟩ := w_nd E_h7 (by decide)
                have F64 : Fr h h7 n0 := fr_tr F62 (fr_w (n := n0) E_h7 (by decide) (by omega) (by omega) (gi_o E_h7 (by decide))) (by omega)
                have O65 : ON h7 u10.1 35 u6.1 (-1) (-1) (-1) (h 160 23) 0 := on_w0 E_h7 O63
                have N66 : h7 160 9 = 0 → TE m h7 0 (RE m (a1 + 1) + 3 + 2 * m) (h2 160 22) (u6.2 160 22) u6.1 := fun y => te_w E_h7 (by omega) (by omega) (by omega) (P_u6.2 (by omega))
                refine pc_ret ⟨F64, fun y => ?_⟩
                have y : h7 160 9 = 0 := y
                show TE m h7 0 (RE m a1 + 3 + 2 * m) n0 (h7 160 22) u10.1
                exact on_pre O65 (by omega) ⟨by omega, by omega, by omega, by omega⟩ (te_wd (N66 y) (by omega) (by omega) (by omega) (by omega))
              · skip
                unfold qj_X13_unary_141
                refine pc_add (by omega) ?_; intro v1 e_v1
                refine pc_xl ?_; intro h2 E_h2
                obtain ⟨S_h2, c_h2, f_h2⟩ := sm_cur E_h2 (by omega)
                have z_h2 := S_h2.1
                have F67 : Fr h h2 n0 := fr_tr F58 (sm_fr (n := n0) S_h2) (by omega)
                have O68 : ON h2 u10.1 35 (-1) (-1) (-1) (-1) (h 160 23) 0 := on_sm S_h2 O_u10
                refine pc_add (by omega) ?_; intro v4 e_v4
                subst e_v4
                refine pc_sv (G.2.2.1 (a1 + 1) h2 (by omega) (by omega) (by omega)) ?_; intro u6 P_u6
                have F_u6 := P_u6.1; have z_u6 := F_u6.1.1; have c_u6 := F_u6.1.2.2
                have F69 : Fr h u6.2 n0 := fr_tr F67 F_u6 (by omega)
                have O70 : ON u6.2 u10.1 35 (-1) (-1) (-1) (-1) (h 160 23) 0 := on_F F_u6 (by omega) (by omega) O68
                refine pc_wA ?_; intro p_h7 q_h7 h7 E_h7
                obtain ⟨x_h7, y_h7, z_h7⟩ := w_nd E_h7 (by decide)
                have F71 : Fr h h7 n0 := fr_tr F69 (fr_w (n := n0) E_h7 (by decide) (by omega) (by omega) (gi_o E_h7 (by decide))) (by omega)
                have O72 : ON h7 u10.1 35 u6.1 (-1) (-1) (-1) (h 160 23) 0 := on_w0 E_h7 O70
                have N73 : h7 160 9 = 0 → TE m h7 0 (RE m (a1 + 1) + 3 + 2 * m) (h2 160 22) (u6.2 160 22) u6.1 := fun y => te_w E_h7 (by omega) (by omega) (by omega) (P_u6.2 (by omega))
                refine pc_ret ⟨F71, fun y => ?_⟩
                have y : h7 160 9 = 0 := y
                show TE m h7 0 (RE m a1 + 3 + 2 * m) n0 (h7 160 22) u10.1
                exact on_pre O72 (by omega) ⟨by omega, by omega, by omega, by omega⟩ (te_wd (N73 y) (by omega) (by omega) (by omega) (by omega))
          · rw [if_neg d1]
            have S_u14 := P_u14.1
            have z_u14 := S_u14.1
            have F74 : Fr h u14.2 n0 := fr_tr F0 (sm_fr (n := n0) S_u14) (by omega)
            exact pc_ret ⟨F74, fun y => (d2 y).elim⟩
      · skip
        unfold qj_X13_unary_78
        rw [if_pos (by decide)]
        refine pc_sv pc_isDeep ?_; intro u14 P_u14
        rcases P_u14.2 with ⟨d1, d2, d3, d4⟩ | ⟨d1, d2⟩
        · rw [if_pos d1, d4]
          refine pc_if (fun C75 => ?_) (fun C75 => ?_)
          · skip
            unfold qj_X13_unary_118
            refine pc_sv pc_ad ?_; intro u10 A_u10
            obtain ⟨⟨a0_u10, a1_u10, a2_u10, a3_u10, a4_u10, a5_u10, a6_u10⟩, F_u10, O_u10⟩ := A_u10
            have F76 : Fr h u10.2 n0 := fr_tr F0 F_u10 (by omega)
            refine pc_if (fun C77 => ?_) (fun C77 => ?_)
            · skip
              unfold qj_X13_unary_141
              refine pc_add (by omega) ?_; intro v1 e_v1
              refine pc_xl ?_; intro h2 E_h2
              obtain ⟨S_h2, c_h2, f_h2⟩ := sm_cur E_h2 (by omega)
              have z_h2 := S_h2.1
              have F78 : Fr h h2 n0 := fr_tr F76 (sm_fr (n := n0) S_h2) (by omega)
              have O79 : ON h2 u10.1 34 (-1) (-1) (-1) (-1) (h 160 23) 0 := on_sm S_h2 O_u10
              refine pc_add (by omega) ?_; intro v4 e_v4
              subst e_v4
              refine pc_sv (G.2.2.1 (a1 + 1) h2 (by omega) (by omega) (by omega)) ?_; intro u6 P_u6
              have F_u6 := P_u6.1; have z_u6 := F_u6.1.1; have c_u6 := F_u6.1.2.2
              have F80 : Fr h u6.2 n0 := fr_tr F78 F_u6 (by omega)
              have O81 : ON u6.2 u10.1 34 (-1) (-1) (-1) (-1) (h 160 23) 0 := on_F F_u6 (by omega) (by omega) O79
              refine pc_wA ?_; intro p_h7 q_h7 h7 E_h7
              obtain ⟨x_h7, y_h7, z_h7⟩ := w_nd E_h7 (by decide)
              have F82 : Fr h h7 n0 := fr_tr F80 (fr_w (n := n0) E_h7 (by decide) (by omega) (by omega) (gi_o E_h7 (by decide))) (by omega)
              have O83 : ON h7 u10.1 34 u6.1 (-1) (-1) (-1) (h 160 23) 0 := on_w0 E_h7 O81
              have N84 : h7 160 9 = 0 → TE m h7 0 (RE m (a1 + 1) + 3 + 2 * m) (h2 160 22) (u6.2 160 22) u6.1 := fun y => te_w E_h7 (by omega) (by omega) (by omega) (P_u6.2 (by omega))
              refine pc_ret ⟨F82, fun y => ?_⟩
              have y : h7 160 9 = 0 := y
              show TE m h7 0 (RE m a1 + 3 + 2 * m) n0 (h7 160 22) u10.1
              exact on_pre O83 (by omega) ⟨by omega, by omega, by omega, by omega⟩ (te_wd (N84 y) (by omega) (by omega) (by omega) (by omega))
            · skip
              unfold qj_X13_unary_141
              refine pc_add (by omega) ?_; intro v1 e_v1
              refine pc_xl ?_; intro h2 E_h2
              obtain ⟨S_h2, c_h2, f_h2⟩ := sm_cur E_h2 (by omega)
              have z_h2 := S_h2.1
              have F85 : Fr h h2 n0 := fr_tr F76 (sm_fr (n := n0) S_h2) (by omega)
              have O86 : ON h2 u10.1 34 (-1) (-1) (-1) (-1) (h 160 23) 0 := on_sm S_h2 O_u10
              refine pc_add (by omega) ?_; intro v4 e_v4
              subst e_v4
              refine pc_sv (G.2.2.1 (a1 + 1) h2 (by omega) (by omega) (by omega)) ?_; intro u6 P_u6
              have F_u6 := P_u6.1; have z_u6 := F_u6.1.1; have c_u6 := F_u6.1.2.2
              have F87 : Fr h u6.2 n0 := fr_tr F85 F_u6 (by omega)
              have O88 : ON u6.2 u10.1 34 (-1) (-1) (-1) (-1) (h 160 23) 0 := on_F F_u6 (by omega) (by omega) O86
              refine pc_wA ?_; intro p_h7 q_h7 h7 E_h7
              obtain ⟨x_h7, y_h7, z_h7⟩ := w_nd E_h7 (by decide)
              have F89 : Fr h h7 n0 := fr_tr F87 (fr_w (n := n0) E_h7 (by decide) (by omega) (by omega) (gi_o E_h7 (by decide))) (by omega)
              have O90 : ON h7 u10.1 34 u6.1 (-1) (-1) (-1) (h 160 23) 0 := on_w0 E_h7 O88
              have N91 : h7 160 9 = 0 → TE m h7 0 (RE m (a1 + 1) + 3 + 2 * m) (h2 160 22) (u6.2 160 22) u6.1 := fun y => te_w E_h7 (by omega) (by omega) (by omega) (P_u6.2 (by omega))
              refine pc_ret ⟨F89, fun y => ?_⟩
              have y : h7 160 9 = 0 := y
              show TE m h7 0 (RE m a1 + 3 + 2 * m) n0 (h7 160 22) u10.1
              exact on_pre O90 (by omega) ⟨by omega, by omega, by omega, by omega⟩ (te_wd (N91 y) (by omega) (by omega) (by omega) (by omega))
          · skip
            refine pc_add (by omega) ?_; intro v17 e_v17
            unfold qj_X13_unary_118
            refine pc_sv pc_ad ?_; intro u10 A_u10
            obtain ⟨⟨a0_u10, a1_u10, a2_u10, a3_u10, a4_u10, a5_u10, a6_u10⟩, F_u10, O_u10⟩ := A_u10
            have F92 : Fr h u10.2 n0 := fr_tr F0 F_u10 (by omega)
            refine pc_if (fun C93 => ?_) (fun C93 => ?_)
            · skip
              unfold qj_X13_unary_141
              refine pc_add (by omega) ?_; intro v1 e_v1
              refine pc_xl ?_; intro h2 E_h2
              obtain ⟨S_h2, c_h2, f_h2⟩ := sm_cur E_h2 (by omega)
              have z_h2 := S_h2.1
              have F94 : Fr h h2 n0 := fr_tr F92 (sm_fr (n := n0) S_h2) (by omega)
              have O95 : ON h2 u10.1 34 (-1) (-1) (-1) (-1) (h 160 23) 0 := on_sm S_h2 O_u10
              refine pc_add (by omega) ?_; intro v4 e_v4
              subst e_v4
              refine pc_sv (G.2.2.1 (a1 + 1) h2 (by omega) (by omega) (by omega)) ?_; intro u6 P_u6
              have F_u6 := P_u6.1; have z_u6 := F_u6.1.1; have c_u6 := F_u6.1.2.2
              have F96 : Fr h u6.2 n0 := fr_tr F94 F_u6 (by omega)
              have O97 : ON u6.2 u10.1 34 (-1) (-1) (-1) (-1) (h 160 23) 0 := on_F F_u6 (by omega) (by omega) O95
              refine pc_wA ?_; intro p_h7 q_h7 h7 E_h7
              obtain ⟨x_h7, y_h7, z_h7⟩ := w_nd E_h7 (by decide)
              have F98 : Fr h h7 n0 := fr_tr F96 (fr_w (n := n0) E_h7 (by decide) (by omega) (by omega) (gi_o E_h7 (by decide))) (by omega)
              have O99 : ON h7 u10.1 34 u6.1 (-1) (-1) (-1) (h 160 23) 0 := on_w0 E_h7 O97
              have N100 : h7 160 9 = 0 → TE m h7 0 (RE m (a1 + 1) + 3 + 2 * m) (h2 160 22) (u6.2 160 22) u6.1 := fun y => te_w E_h7 (by omega) (by omega) (by omega) (P_u6.2 (by omega))
              refine pc_ret ⟨F98, fun y => ?_⟩
              have y : h7 160 9 = 0 := y
              show TE m h7 0 (RE m a1 + 3 + 2 * m) n0 (h7 160 22) u10.1
              exact on_pre O99 (by omega) ⟨by omega, by omega, by omega, by omega⟩ (te_wd (N100 y) (by omega) (by omega) (by omega) (by omega))
            · skip
              unfold qj_X13_unary_141
              refine pc_add (by omega) ?_; intro v1 e_v1
              refine pc_xl ?_; intro h2 E_h2
              obtain ⟨S_h2, c_h2, f_h2⟩ := sm_cur E_h2 (by omega)
              have z_h2 := S_h2.1
              have F101 : Fr h h2 n0 := fr_tr F92 (sm_fr (n := n0) S_h2) (by omega)
              have O102 : ON h2 u10.1 34 (-1) (-1) (-1) (-1) (h 160 23) 0 := on_sm S_h2 O_u10
              refine pc_add (by omega) ?_; intro v4 e_v4
              subst e_v4
              refine pc_sv (G.2.2.1 (a1 + 1) h2 (by omega) (by omega) (by omega)) ?_; intro u6 P_u6
              have F_u6 := P_u6.1; have z_u6 := F_u6.1.1; have c_u6 := F_u6.1.2.2
              have F103 : Fr h u6.2 n0 := fr_tr F101 F_u6 (by omega)
              have O104 : ON u6.2 u10.1 34 (-1) (-1) (-1) (-1) (h 160 23) 0 := on_F F_u6 (by omega) (by omega) O102
              refine pc_wA ?_; intro p_h7 q_h7 h7 E_h7
              obtain ⟨x_h7, y_h7, z_h7⟩ := w_nd E_h7 (by decide)
              have F105 : Fr h h7 n0 := fr_tr F103 (fr_w (n := n0) E_h7 (by decide) (by omega) (by omega) (gi_o E_h7 (by decide))) (by omega)
              have O106 : ON h7 u10.1 34 u6.1 (-1) (-1) (-1) (h 160 23) 0 := on_w0 E_h7 O104
              have N107 : h7 160 9 = 0 → TE m h7 0 (RE m (a1 + 1) + 3 + 2 * m) (h2 160 22) (u6.2 160 22) u6.1 := fun y => te_w E_h7 (by omega) (by omega) (by omega) (P_u6.2 (by omega))
              refine pc_ret ⟨F105, fun y => ?_⟩
              have y : h7 160 9 = 0 := y
              show TE m h7 0 (RE m a1 + 3 + 2 * m) n0 (h7 160 22) u10.1
              exact on_pre O106 (by omega) ⟨by omega, by omega, by omega, by omega⟩ (te_wd (N107 y) (by omega) (by omega) (by omega) (by omega))
        · rw [if_neg d1]
          have S_u14 := P_u14.1
          have z_u14 := S_u14.1
          have F108 : Fr h u14.2 n0 := fr_tr F0 (sm_fr (n := n0) S_u14) (by omega)
          exact pc_ret ⟨F108, fun y => (d2 y).elim⟩
    · skip
      unfold qj_X13_unary_78
      rw [if_pos (by decide)]
      refine pc_sv pc_isDeep ?_; intro u14 P_u14
      rcases P_u14.2 with ⟨d1, d2, d3, d4⟩ | ⟨d1, d2⟩
      · rw [if_pos d1, d4]
        refine pc_if (fun C109 => ?_) (fun C109 => ?_)
        · skip
          unfold qj_X13_unary_118
          refine pc_sv pc_ad ?_; intro u10 A_u10
          obtain ⟨⟨a0_u10, a1_u10, a2_u10, a3_u10, a4_u10, a5_u10, a6_u10⟩, F_u10, O_u10⟩ := A_u10
          have F110 : Fr h u10.2 n0 := fr_tr F0 F_u10 (by omega)
          refine pc_if (fun C111 => ?_) (fun C111 => ?_)
          · skip
            unfold qj_X13_unary_141
            refine pc_add (by omega) ?_; intro v1 e_v1
            refine pc_xl ?_; intro h2 E_h2
            obtain ⟨S_h2, c_h2, f_h2⟩ := sm_cur E_h2 (by omega)
            have z_h2 := S_h2.1
            have F112 : Fr h h2 n0 := fr_tr F110 (sm_fr (n := n0) S_h2) (by omega)
            have O113 : ON h2 u10.1 33 (-1) (-1) (-1) (-1) (h 160 23) 0 := on_sm S_h2 O_u10
            refine pc_add (by omega) ?_; intro v4 e_v4
            subst e_v4
            refine pc_sv (G.2.2.1 (a1 + 1) h2 (by omega) (by omega) (by omega)) ?_; intro u6 P_u6
            have F_u6 := P_u6.1; have z_u6 := F_u6.1.1; have c_u6 := F_u6.1.2.2
            have F114 : Fr h u6.2 n0 := fr_tr F112 F_u6 (by omega)
            have O115 : ON u6.2 u10.1 33 (-1) (-1) (-1) (-1) (h 160 23) 0 := on_F F_u6 (by omega) (by omega) O113
            refine pc_wA ?_; intro p_h7 q_h7 h7 E_h7
            obtain ⟨x_h7, y_h7, z_h7⟩ := w_nd E_h7 (by decide)
            have F116 : Fr h h7 n0 := fr_tr F114 (fr_w (n := n0) E_h7 (by decide) (by omega) (by omega) (gi_o E_h7 (by decide))) (by omega)
            have O117 : ON h7 u10.1 33 u6.1 (-1) (-1) (-1) (h 160 23) 0 := on_w0 E_h7 O115
            have N118 : h7 160 9 = 0 → TE m h7 0 (RE m (a1 + 1) + 3 + 2 * m) (h2 160 22) (u6.2 160 22) u6.1 := fun y => te_w E_h7 (by omega) (by omega) (by omega) (P_u6.2 (by omega))
            refine pc_ret ⟨F116, fun y => ?_⟩
            have y : h7 160 9 = 0 := y
            show TE m h7 0 (RE m a1 + 3 + 2 * m) n0 (h7 160 22) u10.1
            exact on_pre O117 (by omega) ⟨by omega, by omega, by omega, by omega⟩ (te_wd (N118 y) (by omega) (by omega) (by omega) (by omega))
          · skip
            unfold qj_X13_unary_141
            refine pc_add (by omega) ?_; intro v1 e_v1
            refine pc_xl ?_; intro h2 E_h2
            obtain ⟨S_h2, c_h2, f_h2⟩ := sm_cur E_h2 (by omega)
            have z_h2 := S_h2.1
            have F119 : Fr h h2 n0 := fr_tr F110 (sm_fr (n := n0) S_h2) (by omega)
            have O120 : ON h2 u10.1 33 (-1) (-1) (-1) (-1) (h 160 23) 0 := on_sm S_h2 O_u10
            refine pc_add (by omega) ?_; intro v4 e_v4
            subst e_v4
            refine pc_sv (G.2.2.1 (a1 + 1) h2 (by omega) (by omega) (by omega)) ?_; intro u6 P_u6
            have F_u6 := P_u6.1; have z_u6 := F_u6.1.1; have c_u6 := F_u6.1.2.2
            have F121 : Fr h u6.2 n0 := fr_tr F119 F_u6 (by omega)
            have O122 : ON u6.2 u10.1 33 (-1) (-1) (-1) (-1) (h 160 23) 0 := on_F F_u6 (by omega) (by omega) O120
            refine pc_wA ?_; intro p_h7 q_h7 h7 E_h7
            obtain ⟨x_h7, y_h7, z_h7⟩ := w_nd E_h7 (by decide)
            have F123 : Fr h h7 n0 := fr_tr F121 (fr_w (n := n0) E_h7 (by decide) (by omega) (by omega) (gi_o E_h7 (by decide))) (by omega)
            have O124 : ON h7 u10.1 33 u6.1 (-1) (-1) (-1) (h 160 23) 0 := on_w0 E_h7 O122
            have N125 : h7 160 9 = 0 → TE m h7 0 (RE m (a1 + 1) + 3 + 2 * m) (h2 160 22) (u6.2 160 22) u6.1 := fun y => te_w E_h7 (by omega) (by omega) (by omega) (P_u6.2 (by omega))
            refine pc_ret ⟨F123, fun y => ?_⟩
            have y : h7 160 9 = 0 := y
            show TE m h7 0 (RE m a1 + 3 + 2 * m) n0 (h7 160 22) u10.1
            exact on_pre O124 (by omega) ⟨by omega, by omega, by omega, by omega⟩ (te_wd (N125 y) (by omega) (by omega) (by omega) (by omega))
        · skip
          refine pc_add (by omega) ?_; intro v17 e_v17
          unfold qj_X13_unary_118
          refine pc_sv pc_ad ?_; intro u10 A_u10
          obtain ⟨⟨a0_u10, a1_u10, a2_u10, a3_u10, a4_u10, a5_u10, a6_u10⟩, F_u10, O_u10⟩ := A_u10
          have F126 : Fr h u10.2 n0 := fr_tr F0 F_u10 (by omega)
          refine pc_if (fun C127 => ?_) (fun C127 => ?_)
          · skip
            unfold qj_X13_unary_141
            refine pc_add (by omega) ?_; intro v1 e_v1
            refine pc_xl ?_; intro h2 E_h2
            obtain ⟨S_h2, c_h2, f_h2⟩ := sm_cur E_h2 (by omega)
            have z_h2 := S_h2.1
            have F128 : Fr h h2 n0 := fr_tr F126 (sm_fr (n := n0) S_h2) (by omega)
            have O129 : ON h2 u10.1 33 (-1) (-1) (-1) (-1) (h 160 23) 0 := on_sm S_h2 O_u10
            refine pc_add (by omega) ?_; intro v4 e_v4
            subst e_v4
            refine pc_sv (G.2.2.1 (a1 + 1) h2 (by omega) (by omega) (by omega)) ?_; intro u6 P_u6
            have F_u6 := P_u6.1; have z_u6 := F_u6.1.1; have c_u6 := F_u6.1.2.2
            have F130 : Fr h u6.2 n0 := fr_tr F128 F_u6 (by omega)
            have O131 : ON u6.2 u10.1 33 (-1) (-1) (-1) (-1) (h 160 23) 0 := on_F F_u6 (by omega) (by omega) O129
            refine pc_wA ?_; intro p_h7 q_h7 h7 E_h7
            obtain ⟨x_h7, y_h7, z_h7⟩ := w_nd E_h7 (by decide)
            have F132 : Fr h h7 n0 := fr_tr F130 (fr_w (n := n0) E_h7 (by decide) (by omega) (by omega) (gi_o E_h7 (by decide))) (by omega)
            have O133 : ON h7 u10.1 33 u6.1 (-1) (-1) (-1) (h 160 23) 0 := on_w0 E_h7 O131
            have N134 : h7 160 9 = 0 → TE m h7 0 (RE m (a1 + 1) + 3 + 2 * m) (h2 160 22) (u6.2 160 22) u6.1 := fun y => te_w E_h7 (by omega) (by omega) (by omega) (P_u6.2 (by omega))
            refine pc_ret ⟨F132, fun y => ?_⟩
            have y : h7 160 9 = 0 := y
            show TE m h7 0 (RE m a1 + 3 + 2 * m) n0 (h7 160 22) u10.1
            exact on_pre O133 (by omega) ⟨by omega, by omega, by omega, by omega⟩ (te_wd (N134 y) (by omega) (by omega) (by omega) (by omega))
          · skip
            unfold qj_X13_unary_141
            refine pc_add (by omega) ?_; intro v1 e_v1
            refine pc_xl ?_; intro h2 E_h2
            obtain ⟨S_h2, c_h2, f_h2⟩ := sm_cur E_h2 (by omega)
            have z_h2 := S_h2.1
            have F135 : Fr h h2 n0 := fr_tr F126 (sm_fr (n := n0) S_h2) (by omega)
            have O136 : ON h2 u10.1 33 (-1) (-1) (-1) (-1) (h 160 23) 0 := on_sm S_h2 O_u10
            refine pc_add (by omega) ?_; intro v4 e_v4
            subst e_v4
            refine pc_sv (G.2.2.1 (a1 + 1) h2 (by omega) (by omega) (by omega)) ?_; intro u6 P_u6
            have F_u6 := P_u6.1; have z_u6 := F_u6.1.1; have c_u6 := F_u6.1.2.2
            have F137 : Fr h u6.2 n0 := fr_tr F135 F_u6 (by omega)
            have O138 : ON u6.2 u10.1 33 (-1) (-1) (-1) (-1) (h 160 23) 0 := on_F F_u6 (by omega) (by omega) O136
            refine pc_wA ?_; intro p_h7 q_h7 h7 E_h7
            obtain ⟨x_h7, y_h7, z_h7⟩ := w_nd E_h7 (by decide)
            have F139 : Fr h h7 n0 := fr_tr F137 (fr_w (n := n0) E_h7 (by decide) (by omega) (by omega) (gi_o E_h7 (by decide))) (by omega)
            have O140 : ON h7 u10.1 33 u6.1 (-1) (-1) (-1) (h 160 23) 0 := on_w0 E_h7 O138
            have N141 : h7 160 9 = 0 → TE m h7 0 (RE m (a1 + 1) + 3 + 2 * m) (h2 160 22) (u6.2 160 22) u6.1 := fun y => te_w E_h7 (by omega) (by omega) (by omega) (P_u6.2 (by omega))
            refine pc_ret ⟨F139, fun y => ?_⟩
            have y : h7 160 9 = 0 := y
            show TE m h7 0 (RE m a1 + 3 + 2 * m) n0 (h7 160 22) u10.1
            exact on_pre O140 (by omega) ⟨by omega, by omega, by omega, by omega⟩ (te_wd (N141 y) (by omega) (by omega) (by omega) (by omega))
      · rw [if_neg d1]
        have S_u14 := P_u14.1
        have z_u14 := S_u14.1
        have F142 : Fr h u14.2 n0 := fr_tr F0 (sm_fr (n := n0) S_u14) (by omega)
        exact pc_ret ⟨F142, fun y => (d2 y).elim⟩
  · skip
    exact pc_ret ⟨F0, fun y => (C1 y).elim⟩
/-- all nodes below stand as they stood, but one place -/
def Fx (h r : ms_M) (n : Int) (c0 x0 : Nat) : Prop := (h 160 22 ≤ r 160 22 ∧ (r 160 9 = 0 → h 160 9 = 0) ∧ h 160 23 ≤ r 160 23) ∧ (∀ (c x : Nat), 167 ≤ c → c ≤ 177 → (x : Int) < n → ¬ (c = c0 ∧ x = x0) → r c x = h c x) ∧ (GI h → GI r)
theorem fxx_fr {h r : ms_M} {n : Int} {c x : Nat} (F : Fr h r n) : Fx h r n c x := ⟨F.1, fun c y h1 h2 h3 _ => F.2.1 c y h1 h2 h3, F.2.2⟩
def PA (m : Int) (l1 l2 l3 : Int) (h : ms_M) (u : Int × ms_M) : Prop :=
  (l2 = -1 → CA m (RE m l1) h u) ∧ (¬ l2 = -1 → 0 ≤ l3 → l3 < h 160 22 → h 173 l3.toNat = -1 → Fx h u.2 (h 160 22) 173 l3.toNat ∧ (u.2 160 9 = 0 → u.1 = l2 ∧ TE m u.2 1 (RE m l1) (h 160 22) (u.2 160 22) (u.2 173 l3.toNat)))
theorem ga_113 {nn : Nat} {m : Int} {rc : tq_X13_expression} {l1 l2 l3 : Int} {h : ms_M} : Pc (qj_X13_arguments_113 nn rc l2 h) (PA m l1 l2 l3 h) := by
  unfold qj_X13_arguments_113
  refine pc_sv pc_sign_ ?_; intro u2 P
  have S := P.1
  refine pc_ret ⟨fun z => ⟨sm_fr S, fun y => te_i1 (.inl z)⟩, fun z z0 z1 z2 => ⟨fxx_fr (sm_fr S), fun y => ⟨rfl, te_i1 (.inl ?_)⟩⟩⟩
  show u2 173 l3.toNat = -1
  rw [S.2.2.2 173 _ (by decide) (by decide)]; exact z2
theorem ga_41 {nn : Nat} {m : Int} {rc : tq_X13_expression} (G : GT m rc) {qkk : Int → Int → Int → ms_M → Option (Int × ms_M)} (ih : ∀ (l1 l2 l3 : Int) (h : ms_M), 0 ≤ l1 → l1 ≤ 40 → 0 ≤ h 160 22 → Pc (qkk l1 l2 l3 h) (PA m l1 l2 l3 h)) {l1 l2 l3 : Int} {h : ms_M} (a0 : 0 ≤ l1) (a1 : l1 ≤ 40) (a2 : 0 ≤ h 160 22) : Pc (qj_X13_arguments_41 nn rc qkk l1 l2 l3 h) (PA m l1 l2 l3 h) := by
  unfold qj_X13_arguments_41
  refine pc_sv (G.1 l1 h a0 a1 a2) ?_; intro u4 P4
  have F4 := P4.1; have z4 := F4.1.1
  refine pc_if (fun C => ?_) (fun C => pc_ret ⟨fun _ => ⟨F4, fun y => absurd y C⟩, fun _ _ _ _ => ⟨fxx_fr F4, fun y => absurd y C⟩⟩)
  refine pc_rA ?_; intro _ _ v7 _
  refine pc_rA ?_; intro _ _ v9 _
  refine pc_sv pc_ad ?_; intro u11 A
  obtain ⟨⟨b0, b1, b2, b3, b4, b5, _⟩, F11, O11⟩ := A
  refine pc_wA ?_; intro p13 q13 h13 E13
  obtain ⟨x13, y13, w13⟩ := w_nd E13 (by decide)
  have O13 := on_w0 E13 O11
  have T4 := P4.2 C
  have k13 : ∀ (c x : Nat), 167 ≤ c → c ≤ 177 → (x : Int) < u4.2 160 22 → h13 c x = u4.2 c x := fun c x h1 h2 h3 => by rw [E13, up_n (by omega), F11.2.1 c x h1 h2 h3]
  refine pc_if (fun C2 => ?_) (fun C2 => ?_)
  · refine pc_wA ?_; intro p15 q15 h15 E15
    obtain ⟨x15, y15, w15⟩ := w_nd E15 (by decide)
    refine pc_imp (ih l1 l2 u11.1 h15 a0 a1 (by omega)) (fun u P => ⟨fun z => absurd z C2, fun _ c0 c1 c2 => ?_⟩)
    have O15 : ON h15 u11.1 11 u4.1 (-1) (-1) (-1) v9 0 := on_wj E15 p15 p13 (by omega) O13
    obtain ⟨X, Y⟩ := P.2 C2 p13 (by omega) O15.2.2.2.2.1
    have K : ∀ (c x : Nat), 167 ≤ c → c ≤ 177 → (x : Int) < u4.2 160 22 → ¬ (c = 173 ∧ x = l3.toNat) → u.2 c x = u4.2 c x := fun c x h1 h2 h3 h4 => by rw [X.2.1 c x h1 h2 (by omega) (by omega), E15, up_n h4, k13 c x h1 h2 h3]
    have X1 := X.1
    refine ⟨⟨⟨by omega, fun y => F4.1.2.1 (by have := X1.2.1 y; omega), by have := F4.1.2.2; omega⟩, fun c x h1 h2 h3 h4 => by rw [K c x h1 h2 (by omega) h4, F4.2.1 c x h1 h2 h3], fun w => X.2.2 (gi_o E15 (by decide) (gi_o E13 (by decide) (F11.2.2 (F4.2.2 w))))⟩, fun y => ?_⟩
    obtain ⟨Y1, Y2⟩ := Y y
    refine ⟨Y1, ?_⟩
    have e3 : u.2 173 l3.toNat = u11.1 := by rw [X.2.1 173 _ (by decide) (by decide) (by omega) (by omega), E15, up_s]
    have e0 : u.2 170 u11.1.toNat = u4.1 := by rw [X.2.1 170 _ (by decide) (by decide) (by omega) (by omega)]; exact O15.2.1
    rw [e3]
    refine te_i1 (.inr ⟨⟨a2, by omega, by omega⟩, ?_, ?_⟩)
    · rw [e0]
      exact te_wd (te_fr T4 a2 (fun c x h1 h2 h3 h4 => K c x h1 h2 h4 (by omega))) (by omega) a2 (by omega) (by omega)
    · exact te_wd Y2 (by omega) (by omega) (by omega) (by omega)
  · have z2 : l2 = -1 := Classical.not_not.mp C2
    refine pc_imp (ih l1 u11.1 u11.1 h13 a0 a1 (by omega)) (fun u P => ⟨fun _ => ?_, fun z => absurd z2 z⟩)
    obtain ⟨X, Y⟩ := P.2 (by omega) p13 (by omega) O13.2.2.2.2.1
    have K : ∀ (c x : Nat), 167 ≤ c → c ≤ 177 → (x : Int) < u4.2 160 22 → u.2 c x = u4.2 c x := fun c x h1 h2 h3 => by rw [X.2.1 c x h1 h2 (by omega) (by omega), k13 c x h1 h2 h3]
    have X1 := X.1
    refine ⟨⟨⟨by omega, fun y => F4.1.2.1 (by have := X1.2.1 y; omega), by have := F4.1.2.2; omega⟩, fun c x h1 h2 h3 => by rw [K c x h1 h2 (by omega), F4.2.1 c x h1 h2 h3], fun w => X.2.2 (gi_o E13 (by decide) (F11.2.2 (F4.2.2 w)))⟩, fun y => ?_⟩
    obtain ⟨Y1, Y2⟩ := Y y
    have e0 : u.2 170 u11.1.toNat = u4.1 := by rw [X.2.1 170 _ (by decide) (by decide) (by omega) (by omega)]; exact O13.2.1
    rw [Y1]
    refine te_i1 (.inr ⟨⟨a2, by omega, by omega⟩, ?_, ?_⟩)
    · rw [e0]
      exact te_wd (te_fr T4 a2 (fun c x h1 h2 h3 h4 => K c x h1 h2 h4)) (by omega) a2 (by omega) (by omega)
    · exact te_wd Y2 (by omega) (by omega) (by omega) (by omega)
theorem gl_args {nn : Nat} {m : Int} {rc : tq_X13_expression} (G : GT m rc) : ∀ (k : Nat) (l1 l2 l3 : Int) (h : ms_M), 0 ≤ l1 → l1 ≤ 40 → 0 ≤ h 160 22 → Pc (qw_X13_arguments_10 nn rc k l1 l2 l3 h) (PA m l1 l2 l3 h) := by
  intro k
  induction k with
  | zero => intros; exact pc_none
  | succ k ih =>
    intro l1 l2 l3 h a0 a1 a2
    unfold qw_X13_arguments_10
    refine pc_if (fun C => ga_113) (fun C => ?_)
    refine pc_se ?_; intro u21 _
    refine pc_if (fun C2 => ga_113) (fun C2 => ?_)
    refine pc_if (fun C3 => ga_41 G ih a0 a1 a2) (fun C3 => ?_)
    refine pc_sv pc_sign_ ?_; intro u23 P
    have S := P.1; have s1 := S.1
    refine pc_imp (ga_41 (l2 := l2) (l3 := l3) G ih a0 a1 (show 0 ≤ u23 160 22 by omega)) (fun u P2 => ⟨fun z => absurd z C3, fun z c0 c1 c2 => ?_⟩)
    obtain ⟨X, Y⟩ := P2.2 z c0 (by omega) (by rw [S.2.2.2 173 _ (by decide) (by decide)]; exact c2)
    rw [s1] at X Y
    refine ⟨⟨⟨by have := X.1.1; omega, fun y => S.2.1 (X.1.2.1 y), by have := X.1.2.2; have := S.2.2.1; omega⟩, fun c x h1 h2 h3 h4 => by rw [X.2.1 c x h1 h2 h3 h4, S.2.2.2 c x h1 h2], fun w => X.2.2 (gi_sm S w)⟩, Y⟩
theorem go_arguments {nn : Nat} {m : Int} (_ : m = 0 ∨ m = 1) {rc : tq_X13_expression} (G : GT m rc) {a1 : Int} {h : ms_M} (ha : 0 ≤ a1 ∧ a1 ≤ 40) (hh : 0 ≤ h 160 22) : Pc (qo_X13_arguments nn rc a1 h) (CA m (RE m a1) h) := by
  unfold qo_X13_arguments
  refine pc_sv pc_sign_ ?_; intro u28 P
  have S := P.1; have s1 := S.1
  refine pc_imp (gl_args G nn a1 (-1) (-1) u28 ha.1 ha.2 (by omega)) (fun u P2 => ?_)
  obtain ⟨X, Y⟩ := P2.1 rfl
  rw [s1] at X Y
  exact ⟨fr_tr (sm_fr (n := h 160 22) S) X (by omega), Y⟩

theorem gl_postfix_11 {nn : Nat} {m : Int} (hm : m = 0 ∨ m = 1) {rc : tq_X13_expression} (G : GT m rc) : ∀ (k : Nat) (l1 l2 l3 : Int) (h : ms_M) (n0 : Int), 0 ≤ l1 → l1 ≤ 40 → 0 ≤ n0 → n0 ≤ h 160 22 → (h 160 9 = 0 → TE m h 0 (RE m l1 + 3 + 2 * m) n0 (h 160 22) l3) → Pc (qw_X13_postfix_11 nn rc k l1 l2 l3 h) (fun u => Fr h u.2 n0 ∧ (u.2 160 9 = 0 → TE m u.2 0 (RE m l1 + 3 + 2 * m) n0 (u.2 160 22) u.1)) := by
  intro k
  induction k with
  | zero => intros; exact pc_none
  | succ k ih =>
    intro l1 l2 l3 h n0 g1 g2 g3 g4 T0
    have r1 := re_1 (m := m) (d := l1)
    unfold qw_X13_postfix_11
    have F0 : Fr h h n0 := fr_rf
    refine pc_if (fun C1 => ?_) (fun C1 => ?_)
    · skip
      exact pc_ret ⟨F0, fun y => (C1 y).elim⟩
    · skip
      refine pc_sv pc_isSign ?_; intro u48 b_u48
      refine pc_if (fun C2 => ?_) (fun C2 => ?_)
      · skip
        unfold qj_X13_postfix_44
        refine pc_sv pc_isSign ?_; intro u5 b_u5
        refine pc_if (fun C3 => ?_) (fun C3 => ?_)
        · skip
          refine pc_sv pc_ad ?_; intro u8 A_u8
          obtain ⟨⟨a0_u8, a1_u8, a2_u8, a3_u8, a4_u8, a5_u8, a6_u8⟩, F_u8, O_u8⟩ := A_u8
          have F4 : Fr h u8.2 n0 := fr_tr F0 F_u8 (by omega)
          have N5 : u8.2 160 9 = 0 → TE m u8.2 0 (RE m l1 + 3 + 2 * m) n0 (h 160 22) l3 := fun y => te_F F_u8 (by omega) (by omega) (T0 (F_u8.1.2.1 y))
          refine pc_add (by omega) ?_; intro v10 e_v10
          refine pc_xl ?_; intro h11 E_h11
          obtain ⟨S_h11, c_h11, f_h11⟩ := sm_cur E_h11 (by omega)
          have z_h11 := S_h11.1
          have F6 : Fr h h11 n0 := fr_tr F4 (sm_fr (n := n0) S_h11) (by omega)
          have O7 : ON h11 u8.1 32 (-1) (-1) (-1) (-1) l2 0 := on_sm S_h11 O_u8
          have N8 : h11 160 9 = 0 → TE m h11 0 (RE m l1 + 3 + 2 * m) n0 (h 160 22) l3 := fun y => te_sm S_h11 (by omega) (N5 (S_h11.2.1 y))
          refine pc_wA ?_; intro p_h13 q_h13 h13 E_h13
          obtain ⟨x_h13, y_h13, z_h13⟩ := w_nd E_h13 (by decide)
          have F9 : Fr h h13 n0 := fr_tr F6 (fr_w (n := n0) E_h13 (by decide) (by omega) (by omega) (gi_o E_h13 (by decide))) (by omega)
          have O10 : ON h13 u8.1 32 l3 (-1) (-1) (-1) l2 0 := on_w0 E_h13 O7
          have N11 : h13 160 9 = 0 → TE m h13 0 (RE m l1 + 3 + 2 * m) n0 (h 160 22) l3 := fun y => te_w E_h13 (by omega) (by omega) (by omega) (N8 (by omega))
          refine pc_sv (G.1 l1 h13 (by omega) (by omega) (by omega)) ?_; intro u16 P_u16
          have F_u16 := P_u16.1; have z_u16 := F_u16.1.1; have c_u16 := F_u16.1.2.2
          have F12 : Fr h u16.2 n0 := fr_tr F9 F_u16 (by omega)
          have O13 : ON u16.2 u8.1 32 l3 (-1) (-1) (-1) l2 0 := on_F F_u16 (by omega) (by omega) O10
          have N14 : u16.2 160 9 = 0 → TE m u16.2 0 (RE m l1 + 3 + 2 * m) n0 (h 160 22) l3 := fun y => te_F F_u16 (by omega) (by omega) (N11 (F_u16.1.2.1 y))
          refine pc_wA ?_; intro p_h17 q_h17 h17 E_h17
          obtain ⟨x_h17, y_h17, z_h17⟩ := w_nd E_h17 (by decide)
          have F15 : Fr h h17 n0 := fr_tr F12 (fr_w (n := n0) E_h17 (by decide) (by omega) (by omega) (gi_o E_h17 (by decide))) (by omega)
          have O16 : ON h17 u8.1 32 l3 u16.1 (-1) (-1) l2 0 := on_w1 E_h17 O13
          have N17 : h17 160 9 = 0 → TE m h17 0 (RE m l1 + 3 + 2 * m) n0 (h 160 22) l3 := fun y => te_w E_h17 (by omega) (by omega) (by omega) (N14 (by omega))
          have N18 : h17 160 9 = 0 → TE m h17 0 (RE m l1) (h13 160 22) (u16.2 160 22) u16.1 := fun y => te_w E_h17 (by omega) (by omega) (by omega) (P_u16.2 (by omega))
          unfold qj_X13_postfix_194
          refine pc_sv pc_sign_ ?_; intro u2 P_u2
          have S_u2 := P_u2.1
          have z_u2 := S_u2.1; have c_u2 := S_u2.2.2.1
          have F19 : Fr h u2 n0 := fr_tr F15 (sm_fr (n := n0) S_u2) (by omega)
          have O20 : ON u2 u8.1 32 l3 u16.1 (-1) (-1) l2 0 := on_sm S_u2 O16
          have N21 : u2 160 9 = 0 → TE m u2 0 (RE m l1 + 3 + 2 * m) n0 (h 160 22) l3 := fun y => te_sm S_u2 (by omega) (N17 (S_u2.2.1 y))
          have N22 : u2 160 9 = 0 → TE m u2 0 (RE m l1) (h13 160 22) (u16.2 160 22) u16.1 := fun y => te_sm S_u2 (by omega) (N18 (S_u2.2.1 y))
          have T23 : u2 160 9 = 0 → TE m u2 0 (RE m l1 + 3 + 2 * m) n0 (u2 160 22) u8.1 := by
            intro y
            have y : u2 160 9 = 0 := y
            have A24 := P_u2.2 y
            show TE m u2 0 (RE m l1 + 3 + 2 * m) n0 (u2 160 22) u8.1
            exact on_two O20 (by omega) ⟨by omega, by omega, by omega, by omega⟩ (te_wd (N21 y) (by omega) (by omega) (by omega) (by omega)) (te_wd (N22 y) (by omega) (by omega) (by omega) (by omega))
          exact pc_imp (ih l1 l2 u8.1 u2 n0 (by omega) (by omega) (by omega) (by omega) T23) (fun _ P => ⟨fr_tr F19 P.1 (by omega), P.2⟩)
        · skip
          refine pc_sv pc_ad ?_; intro u19 A_u19
          obtain ⟨⟨a0_u19, a1_u19, a2_u19, a3_u19, a4_u19, a5_u19, a6_u19⟩, F_u19, O_u19⟩ := A_u19
          have F25 : Fr h u19.2 n0 := fr_tr F0 F_u19 (by omega)
          have N26 : u19.2 160 9 = 0 → TE m u19.2 0 (RE m l1 + 3 + 2 * m) n0 (h 160 22) l3 := fun y => te_F F_u19 (by omega) (by omega) (T0 (F_u19.1.2.1 y))
          refine pc_wA ?_; intro p_h22 q_h22 h22 E_h22
          obtain ⟨x_h22, y_h22, z_h22⟩ := w_nd E_h22 (by decide)
          have F27 : Fr h h22 n0 := fr_tr F25 (fr_w (n := n0) E_h22 (by decide) (by omega) (by omega) (gi_o E_h22 (by decide))) (by omega)
          have O28 : ON h22 u19.1 30 (-1) (-1) (u19.2 160 23) (-1) l2 0 := on_w2 E_h22 O_u19
          have N29 : h22 160 9 = 0 → TE m h22 0 (RE m l1 + 3 + 2 * m) n0 (h 160 22) l3 := fun y => te_w E_h22 (by omega) (by omega) (by omega) (N26 (by omega))
          refine pc_add (by omega) ?_; intro v24 e_v24
          refine pc_xl ?_; intro h25 E_h25
          obtain ⟨S_h25, c_h25, f_h25⟩ := sm_cur E_h25 (by omega)
          have z_h25 := S_h25.1
          have F30 : Fr h h25 n0 := fr_tr F27 (sm_fr (n := n0) S_h25) (by omega)
          have O31 : ON h25 u19.1 30 (-1) (-1) (u19.2 160 23) (-1) l2 0 := on_sm S_h25 O28
          have N32 : h25 160 9 = 0 → TE m h25 0 (RE m l1 + 3 + 2 * m) n0 (h 160 22) l3 := fun y => te_sm S_h25 (by omega) (N29 (S_h25.2.1 y))
          refine pc_sv pc_name ?_; intro u28 P_u28
          have S_u28 := P_u28.1
          have z_u28 := S_u28.1; have c_u28 := S_u28.2.2.1
          have n_u28 := P_u28.2.1
          have F33 : Fr h u28.2 n0 := fr_tr F30 (sm_fr (n := n0) S_u28) (by omega)
          have O34 : ON u28.2 u19.1 30 (-1) (-1) (u19.2 160 23) (-1) l2 0 := on_sm S_u28 O31
          have N35 : u28.2 160 9 = 0 → TE m u28.2 0 (RE m l1 + 3 + 2 * m) n0 (h 160 22) l3 := fun y => te_sm S_u28 (by omega) (N32 (S_u28.2.1 y))
          refine pc_wA ?_; intro p_h29 q_h29 h29 E_h29
          obtain ⟨x_h29, y_h29, z_h29⟩ := w_nd E_h29 (by decide)
          have F36 : Fr h h29 n0 := fr_tr F33 (fr_w (n := n0) E_h29 (by decide) (by omega) (by omega) (gi_o E_h29 (by decide))) (by omega)
          have O37 : ON h29 u19.1 30 (-1) (-1) (u19.2 160 23) (-1) l2 0 := on_wo E_h29 (by decide) O34
          have N38 : h29 160 9 = 0 → TE m h29 0 (RE m l1 + 3 + 2 * m) n0 (h 160 22) l3 := fun y => te_w E_h29 (by omega) (by omega) (by omega) (N35 (by omega))
          have N39 : h29 160 9 = 0 → u28.2 160 23 = h25 160 23 + 1 ∧ u28.1 = h25 160 23 := fun y => P_u28.2.2 (by omega)
          refine pc_wA ?_; intro p_h31 q_h31 h31 E_h31
          obtain ⟨x_h31, y_h31, z_h31⟩ := w_nd E_h31 (by decide)
          have F40 : Fr h h31 n0 := fr_tr F36 (fr_w (n := n0) E_h31 (by decide) (by omega) (by omega) (gi_o E_h31 (by decide))) (by omega)
          have O41 : ON h31 u19.1 30 l3 (-1) (u19.2 160 23) (-1) l2 0 := on_w0 E_h31 O37
          have N42 : h31 160 9 = 0 → TE m h31 0 (RE m l1 + 3 + 2 * m) n0 (h 160 22) l3 := fun y => te_w E_h31 (by omega) (by omega) (by omega) (N38 (by omega))
          have N43 : h31 160 9 = 0 → u28.2 160 23 = h25 160 23 + 1 ∧ u28.1 = h25 160 23 := fun y => N39 (by omega)
          refine pc_if (fun C44 => ?_) (fun C44 => ?_)
          · skip
            have T45 : h31 160 9 = 0 → TE m h31 0 (RE m l1 + 3 + 2 * m) n0 (h31 160 22) u19.1 := by
              intro y; exact (C44 y).elim
            exact pc_imp (ih l1 l2 u19.1 h31 n0 (by omega) (by omega) (by omega) (by omega) T45) (fun _ P => ⟨fr_tr F40 P.1 (by omega), P.2⟩)
          · skip
            refine pc_sv pc_isSign ?_; intro u35 b_u35
            refine pc_if (fun C46 => ?_) (fun C46 => ?_)
            · skip
              have T47 : h31 160 9 = 0 → TE m h31 0 (RE m l1 + 3 + 2 * m) n0 (h31 160 22) u19.1 := by
                intro y
                have y : h31 160 9 = 0 := y
                have A48 := N43 y
                show TE m h31 0 (RE m l1 + 3 + 2 * m) n0 (h31 160 22) u19.1
                exact on_field O41 (by omega) ⟨by omega, by omega, by omega, by omega⟩ (te_wd (N42 y) (by omega) (by omega) (by omega) (by omega))
              exact pc_imp (ih l1 l2 u19.1 h31 n0 (by omega) (by omega) (by omega) (by omega) T47) (fun _ P => ⟨fr_tr F40 P.1 (by omega), P.2⟩)
            · skip
              refine pc_wA ?_; intro p_h37 q_h37 h37 E_h37
              obtain ⟨x_h37, y_h37, z_h37⟩ := w_nd E_h37 (by decide)
              have F49 : Fr h h37 n0 := fr_tr F40 (fr_w (n := n0) E_h37 (by decide) (by omega) (by omega) (gi_7 E_h37 (by rw [O41.1]; omega))) (by omega)
              have O50 : ON h37 u19.1 31 l3 (-1) (u19.2 160 23) (-1) l2 0 := on_wk E_h37 O41
              have N51 : h37 160 9 = 0 → TE m h37 0 (RE m l1 + 3 + 2 * m) n0 (h 160 22) l3 := fun y => te_w E_h37 (by omega) (by omega) (by omega) (N42 (by omega))
              have N52 : h37 160 9 = 0 → u28.2 160 23 = h25 160 23 + 1 ∧ u28.1 = h25 160 23 := fun y => N43 (by omega)
              refine pc_sv (G.2.2.2.1 l1 h37 (by omega) (by omega) (by omega)) ?_; intro u40 P_u40
              have F_u40 := P_u40.1; have z_u40 := F_u40.1.1; have c_u40 := F_u40.1.2.2
              have F53 : Fr h u40.2 n0 := fr_tr F49 F_u40 (by omega)
              have O54 : ON u40.2 u19.1 31 l3 (-1) (u19.2 160 23) (-1) l2 0 := on_F F_u40 (by omega) (by omega) O50
              have N55 : u40.2 160 9 = 0 → TE m u40.2 0 (RE m l1 + 3 + 2 * m) n0 (h 160 22) l3 := fun y => te_F F_u40 (by omega) (by omega) (N51 (F_u40.1.2.1 y))
              have N56 : u40.2 160 9 = 0 → u28.2 160 23 = h25 160 23 + 1 ∧ u28.1 = h25 160 23 := fun y => N52 (F_u40.1.2.1 y)
              refine pc_wA ?_; intro p_h41 q_h41 h41 E_h41
              obtain ⟨x_h41, y_h41, z_h41⟩ := w_nd E_h41 (by decide)
              have F57 : Fr h h41 n0 := fr_tr F53 (fr_w (n := n0) E_h41 (by decide) (by omega) (by omega) (gi_o E_h41 (by decide))) (by omega)
              have O58 : ON h41 u19.1 31 l3 u40.1 (u19.2 160 23) (-1) l2 0 := on_w1 E_h41 O54
              have N59 : h41 160 9 = 0 → TE m h41 0 (RE m l1 + 3 + 2 * m) n0 (h 160 22) l3 := fun y => te_w E_h41 (by omega) (by omega) (by omega) (N55 (by omega))
              have N60 : h41 160 9 = 0 → u28.2 160 23 = h25 160 23 + 1 ∧ u28.1 = h25 160 23 := fun y => N56 (by omega)
              have N61 : h41 160 9 = 0 → TE m h41 1 (RE m l1) (h37 160 22) (u40.2 160 22) u40.1 := fun y => te_w E_h41 (by omega) (by omega) (by omega) (P_u40.2 (by omega))
              have T62 : h41 160 9 = 0 → TE m h41 0 (RE m l1 + 3 + 2 * m) n0 (h41 160 22) u19.1 := by
                intro y
                have y : h41 160 9 = 0 := y
                have A63 := N60 y
                show TE m h41 0 (RE m l1 + 3 + 2 * m) n0 (h41 160 22) u19.1
                exact on_method O58 (by omega) ⟨by omega, by omega, by omega, by omega⟩ (te_wd (N59 y) (by omega) (by omega) (by omega) (by omega)) (te_wd (N61 y) (by omega) (by omega) (by omega) (by omega))
              exact pc_imp (ih l1 l2 u19.1 h41 n0 (by omega) (by omega) (by omega) (by omega) T62) (fun _ P => ⟨fr_tr F57 P.1 (by omega), P.2⟩)
      · skip
        refine pc_sv pc_isSign ?_; intro u51 b_u51
        refine pc_if (fun C64 => ?_) (fun C64 => ?_)
        · skip
          refine pc_ret ⟨F0, fun y => ?_⟩
          have y : h 160 9 = 0 := y
          show TE m h 0 (RE m l1 + 3 + 2 * m) n0 (h 160 22) l3
          exact te_wd (T0 y) (by omega) (by omega) (by omega) (by omega)
        · skip
          unfold qj_X13_postfix_44
          refine pc_sv pc_isSign ?_; intro u5 b_u5
          refine pc_if (fun C65 => ?_) (fun C65 => ?_)
          · skip
            refine pc_sv pc_ad ?_; intro u8 A_u8
            obtain ⟨⟨a0_u8, a1_u8, a2_u8, a3_u8, a4_u8, a5_u8, a6_u8⟩, F_u8, O_u8⟩ := A_u8
            have F66 : Fr h u8.2 n0 := fr_tr F0 F_u8 (by omega)
            have N67 : u8.2 160 9 = 0 → TE m u8.2 0 (RE m l1 + 3 + 2 * m) n0 (h 160 22) l3 := fun y => te_F F_u8 (by omega) (by omega) (T0 (F_u8.1.2.1 y))
            refine pc_add (by omega) ?_; intro v10 e_v10
            refine pc_xl ?_; intro h11 E_h11
            obtain ⟨S_h11, c_h11, f_h11⟩ := sm_cur E_h11 (by omega)
            have z_h11 := S_h11.1
            have F68 : Fr h h11 n0 := fr_tr F66 (sm_fr (n := n0) S_h11) (by omega)
            have O69 : ON h11 u8.1 32 (-1) (-1) (-1) (-1) l2 0 := on_sm S_h11 O_u8
            have N70 : h11 160 9 = 0 → TE m h11 0 (RE m l1 + 3 + 2 * m) n0 (h 160 22) l3 := fun y => te_sm S_h11 (by omega) (N67 (S_h11.2.1 y))
            refine pc_wA ?_; intro p_h13 q_h13 h13 E_h13
            obtain ⟨x_h13, y_h13, z_h13⟩ := w_nd E_h13 (by decide)
            have F71 : Fr h h13 n0 := fr_tr F68 (fr_w (n := n0) E_h13 (by decide) (by omega) (by omega) (gi_o E_h13 (by decide))) (by omega)
            have O72 : ON h13 u8.1 32 l3 (-1) (-1) (-1) l2 0 := on_w0 E_h13 O69
            have N73 : h13 160 9 = 0 → TE m h13 0 (RE m l1 + 3 + 2 * m) n0 (h 160 22) l3 := fun y => te_w E_h13 (by omega) (by omega) (by omega) (N70 (by omega))
            refine pc_sv (G.1 l1 h13 (by omega) (by omega) (by omega)) ?_; intro u16 P_u16
            have F_u16 := P_u16.1; have z_u16 := F_u16.1.1; have c_u16 := F_u16.1.2.2
            have F74 : Fr h u16.2 n0 := fr_tr F71 F_u16 (by omega)
            have O75 : ON u16.2 u8.1 32 l3 (-1) (-1) (-1) l2 0 := on_F F_u16 (by omega) (by omega) O72
            have N76 : u16.2 160 9 = 0 → TE m u16.2 0 (RE m l1 + 3 + 2 * m) n0 (h 160 22) l3 := fun y => te_F F_u16 (by omega) (by omega) (N73 (F_u16.1.2.1 y))
            refine pc_wA ?_; intro p_h17 q_h17 h17 E_h17
            obtain ⟨x_h17, y_h17, z_h17⟩ := w_nd E_h17 (by decide)
            have F77 : Fr h h17 n0 := fr_tr F74 (fr_w (n := n0) E_h17 (by decide) (by omega) (by omega) (gi_o E_h17 (by decide))) (by omega)
            have O78 : ON h17 u8.1 32 l3 u16.1 (-1) (-1) l2 0 := on_w1 E_h17 O75
            have N79 : h17 160 9 = 0 → TE m h17 0 (RE m l1 + 3 + 2 * m) n0 (h 160 22) l3 := fun y => te_w E_h17 (by omega) (by omega) (by omega) (N76 (by omega))
            have N80 : h17 160 9 = 0 → TE m h17 0 (RE m l1) (h13 160 22) (u16.2 160 22) u16.1 := fun y => te_w E_h17 (by omega) (by omega) (by omega) (P_u16.2 (by omega))
            unfold qj_X13_postfix_194
            refine pc_sv pc_sign_ ?_; intro u2 P_u2
            have S_u2 := P_u2.1
            have z_u2 := S_u2.1; have c_u2 := S_u2.2.2.1
            have F81 : Fr h u2 n0 := fr_tr F77 (sm_fr (n := n0) S_u2) (by omega)
            have O82 : ON u2 u8.1 32 l3 u16.1 (-1) (-1) l2 0 := on_sm S_u2 O78
            have N83 : u2 160 9 = 0 → TE m u2 0 (RE m l1 + 3 + 2 * m) n0 (h 160 22) l3 := fun y => te_sm S_u2 (by omega) (N79 (S_u2.2.1 y))
            have N84 : u2 160 9 = 0 → TE m u2 0 (RE m l1) (h13 160 22) (u16.2 160 22) u16.1 := fun y => te_sm S_u2 (by omega) (N80 (S_u2.2.1 y))
            have T85 : u2 160 9 = 0 → TE m u2 0 (RE m l1 + 3 + 2 * m) n0 (u2 160 22) u8.1 := by
              intro y
              have y : u2 160 9 = 0 := y
              have A86 := P_u2.2 y
              show TE m u2 0 (RE m l1 + 3 + 2 * m) n0 (u2 160 22) u8.1
              exact on_two O82 (by omega) ⟨by omega, by omega, by omega, by omega⟩ (te_wd (N83 y) (by omega) (by omega) (by omega) (by omega)) (te_wd (N84 y) (by omega) (by omega) (by omega) (by omega))
            exact pc_imp (ih l1 l2 u8.1 u2 n0 (by omega) (by omega) (by omega) (by omega) T85) (fun _ P => ⟨fr_tr F81 P.1 (by omega), P.2⟩)
          · skip
            refine pc_sv pc_ad ?_; intro u19 A_u19
            obtain ⟨⟨a0_u19, a1_u19, a2_u19, a3_u19, a4_u19, a5_u19, a6_u19⟩, F_u19, O_u19⟩ := A_u19
            have F87 : Fr h u19.2 n0 := fr_tr F0 F_u19 (by omega)
            have N88 : u19.2 160 9 = 0 → TE m u19.2 0 (RE m l1 + 3 + 2 * m) n0 (h 160 22) l3 := fun y => te_F F_u19 (by omega) (by omega) (T0 (F_u19.1.2.1 y))
            refine pc_wA ?_; intro p_h22 q_h22 h22 E_h22
            obtain ⟨x_h22, y_h22, z_h22⟩ := w_nd E_h22 (by decide)
            have F89 : Fr h h22 n0 := fr_tr F87 (fr_w (n := n0) E_h22 (by decide) (by omega) (by omega) (gi_o E_h22 (by decide))) (by omega)
            have O90 : ON h22 u19.1 30 (-1) (-1) (u19.2 160 23) (-1) l2 0 := on_w2 E_h22 O_u19
            have N91 : h22 160 9 = 0 → TE m h22 0 (RE m l1 + 3 + 2 * m) n0 (h 160 22) l3 := fun y => te_w E_h22 (by omega) (by omega) (by omega) (N88 (by omega))
            refine pc_add (by omega) ?_; intro v24 e_v24
            refine pc_xl ?_; intro h25 E_h25
            obtain ⟨S_h25, c_h25, f_h25⟩ := sm_cur E_h25 (by omega)
            have z_h25 := S_h25.1
            have F92 : Fr h h25 n0 := fr_tr F89 (sm_fr (n := n0) S_h25) (by omega)
            have O93 : ON h25 u19.1 30 (-1) (-1) (u19.2 160 23) (-1) l2 0 := on_sm S_h25 O90
            have N94 : h25 160 9 = 0 → TE m h25 0 (RE m l1 + 3 + 2 * m) n0 (h 160 22) l3 := fun y => te_sm S_h25 (by omega) (N91 (S_h25.2.1 y))
            refine pc_sv pc_name ?_; intro u28 P_u28
            have S_u28 := P_u28.1
            have z_u28 := S_u28.1; have c_u28 := S_u28.2.2.1
            have n_u28 := P_u28.2.1
            have F95 : Fr h u28.2 n0 := fr_tr F92 (sm_fr (n := n0) S_u28) (by omega)
            have O96 : ON u28.2 u19.1 30 (-1) (-1) (u19.2 160 23) (-1) l2 0 := on_sm S_u28 O93
            have N97 : u28.2 160 9 = 0 → TE m u28.2 0 (RE m l1 + 3 + 2 * m) n0 (h 160 22) l3 := fun y => te_sm S_u28 (by omega) (N94 (S_u28.2.1 y))
            refine pc_wA ?_; intro p_h29 q_h29 h29 E_h29
            obtain ⟨x_h29, y_h29, z_h29⟩ := w_nd E_h29 (by decide)
            have F98 : Fr h h29 n0 := fr_tr F95 (fr_w (n := n0) E_h29 (by decide) (by omega) (by omega) (gi_o E_h29 (by decide))) (by omega)
            have O99 : ON h29 u19.1 30 (-1) (-1) (u19.2 160 23) (-1) l2 0 := on_wo E_h29 (by decide) O96
            have N100 : h29 160 9 = 0 → TE m h29 0 (RE m l1 + 3 + 2 * m) n0 (h 160 22) l3 := fun y => te_w E_h29 (by omega) (by omega) (by omega) (N97 (by omega))
            have N101 : h29 160 9 = 0 → u28.2 160 23 = h25 160 23 + 1 ∧ u28.1 = h25 160 23 := fun y => P_u28.2.2 (by omega)
            refine pc_wA ?_; intro p_h31 q_h31 h31 E_h31
            obtain ⟨x_h31, y_h31, z_h31⟩ := w_nd E_h31 (by decide)
            have F102 : Fr h h31 n0 := fr_tr F98 (fr_w (n := n0) E_h31 (by decide) (by omega) (by omega) (gi_o E_h31 (by decide))) (by omega)
            have O103 : ON h31 u19.1 30 l3 (-1) (u19.2 160 23) (-1) l2 0 := on_w0 E_h31 O99
            have N104 : h31 160 9 = 0 → TE m h31 0 (RE m l1 + 3 + 2 * m) n0 (h 160 22) l3 := fun y => te_w E_h31 (by omega) (by omega) (by omega) (N100 (by omega))
            have N105 : h31 160 9 = 0 → u28.2 160 23 = h25 160 23 + 1 ∧ u28.1 = h25 160 23 := fun y => N101 (by omega)
            refine pc_if (fun C106 => ?_) (fun C106 => ?_)
            · skip
              have T107 : h31 160 9 = 0 → TE m h31 0 (RE m l1 + 3 + 2 * m) n0 (h31 160 22) u19.1 := by
                intro y; exact (C106 y).elim
              exact pc_imp (ih l1 l2 u19.1 h31 n0 (by omega) (by omega) (by omega) (by omega) T107) (fun _ P => ⟨fr_tr F102 P.1 (by omega), P.2⟩)
            · skip
              refine pc_sv pc_isSign ?_; intro u35 b_u35
              refine pc_if (fun C108 => ?_) (fun C108 => ?_)
              · skip
                have T109 : h31 160 9 = 0 → TE m h31 0 (RE m l1 + 3 + 2 * m) n0 (h31 160 22) u19.1 := by
                  intro y
                  have y : h31 160 9 = 0 := y
                  have A110 := N105 y
                  show TE m h31 0 (RE m l1 + 3 + 2 * m) n0 (h31 160 22) u19.1
                  exact on_field O103 (by omega) ⟨by omega, by omega, by omega, by omega⟩ (te_wd (N104 y) (by omega) (by omega) (by omega) (by omega))
                exact pc_imp (ih l1 l2 u19.1 h31 n0 (by omega) (by omega) (by omega) (by omega) T109) (fun _ P => ⟨fr_tr F102 P.1 (by omega), P.2⟩)
              · skip
                refine pc_wA ?_; intro p_h37 q_h37 h37 E_h37
                obtain ⟨x_h37, y_h37, z_h37⟩ := w_nd E_h37 (by decide)
                have F111 : Fr h h37 n0 := fr_tr F102 (fr_w (n := n0) E_h37 (by decide) (by omega) (by omega) (gi_7 E_h37 (by rw [O103.1]; omega))) (by omega)
                have O112 : ON h37 u19.1 31 l3 (-1) (u19.2 160 23) (-1) l2 0 := on_wk E_h37 O103
                have N113 : h37 160 9 = 0 → TE m h37 0 (RE m l1 + 3 + 2 * m) n0 (h 160 22) l3 := fun y => te_w E_h37 (by omega) (by omega) (by omega) (N104 (by omega))
                have N114 : h37 160 9 = 0 → u28.2 160 23 = h25 160 23 + 1 ∧ u28.1 = h25 160 23 := fun y => N105 (by omega)
                refine pc_sv (G.2.2.2.1 l1 h37 (by omega) (by omega) (by omega)) ?_; intro u40 P_u40
                have F_u40 := P_u40.1; have z_u40 := F_u40.1.1; have c_u40 := F_u40.1.2.2
                have F115 : Fr h u40.2 n0 := fr_tr F111 F_u40 (by omega)
                have O116 : ON u40.2 u19.1 31 l3 (-1) (u19.2 160 23) (-1) l2 0 := on_F F_u40 (by omega) (by omega) O112
                have N117 : u40.2 160 9 = 0 → TE m u40.2 0 (RE m l1 + 3 + 2 * m) n0 (h 160 22) l3 := fun y => te_F F_u40 (by omega) (by omega) (N113 (F_u40.1.2.1 y))
                have N118 : u40.2 160 9 = 0 → u28.2 160 23 = h25 160 23 + 1 ∧ u28.1 = h25 160 23 := fun y => N114 (F_u40.1.2.1 y)
                refine pc_wA ?_; intro p_h41 q_h41 h41 E_h41
                obtain ⟨x_h41, y_h41, z_h41⟩ := w_nd E_h41 (by decide)
                have F119 : Fr h h41 n0 := fr_tr F115 (fr_w (n := n0) E_h41 (by decide) (by omega) (by omega) (gi_o E_h41 (by decide))) (by omega)
                have O120 : ON h41 u19.1 31 l3 u40.1 (u19.2 160 23) (-1) l2 0 := on_w1 E_h41 O116
                have N121 : h41 160 9 = 0 → TE m h41 0 (RE m l1 + 3 + 2 * m) n0 (h 160 22) l3 := fun y => te_w E_h41 (by omega) (by omega) (by omega) (N117 (by omega))
                have N122 : h41 160 9 = 0 → u28.2 160 23 = h25 160 23 + 1 ∧ u28.1 = h25 160 23 := fun y => N118 (by omega)
                have N123 : h41 160 9 = 0 → TE m h41 1 (RE m l1) (h37 160 22) (u40.2 160 22) u40.1 := fun y => te_w E_h41 (by omega) (by omega) (by omega) (P_u40.2 (by omega))
                have T124 : h41 160 9 = 0 → TE m h41 0 (RE m l1 + 3 + 2 * m) n0 (h41 160 22) u19.1 := by
                  intro y
                  have y : h41 160 9 = 0 := y
                  have A125 := N122 y
                  show TE m h41 0 (RE m l1 + 3 + 2 * m) n0 (h41 160 22) u19.1
                  exact on_method O120 (by omega) ⟨by omega, by omega, by omega, by omega⟩ (te_wd (N121 y) (by omega) (by omega) (by omega) (by omega)) (te_wd (N123 y) (by omega) (by omega) (by omega) (by omega))
                exact pc_imp (ih l1 l2 u19.1 h41 n0 (by omega) (by omega) (by omega) (by omega) T124) (fun _ P => ⟨fr_tr F119 P.1 (by omega), P.2⟩)
theorem go_postfix {nn : Nat} {m : Int} (hm : m = 0 ∨ m = 1) {rc : tq_X13_expression} (G : GT m rc) {a1 : Int} {h : ms_M} (ha : 0 ≤ a1 ∧ a1 ≤ 40) (hh : 0 ≤ h 160 22) : Pc (qo_X13_postfix nn rc a1 h) (CE m (RE m a1 + 3 + 2 * m) h) := by
  unfold qo_X13_postfix CE
  generalize hn0 : h 160 22 = n0
  have F0 : Fr h h n0 := fr_rf
  have r0 := re_s (m := m) (d := a1) hm
  have r1 := re_1 (m := m) (d := a1)
  have r2 := re_1 (m := m) (d := a1 + 1)
  refine pc_sv (G.2.2.2.2.2.1 a1 h (by omega) (by omega) (by omega)) ?_; intro u57 P_u57
  have F_u57 := P_u57.1; have z_u57 := F_u57.1.1; have c_u57 := F_u57.1.2.2
  have F1 : Fr h u57.2 n0 := fr_tr F0 F_u57 (by omega)
  have T2 : u57.2 160 9 = 0 → TE m u57.2 0 (RE m a1 + 3 + 2 * m) n0 (u57.2 160 22) u57.1 := by
    intro y
    have y : u57.2 160 9 = 0 := y
    show TE m u57.2 0 (RE m a1 + 3 + 2 * m) n0 (u57.2 160 22) u57.1
    exact te_wd (P_u57.2 y) (by omega) (by omega) (by omega) (by omega)
  exact pc_imp (gl_postfix_11 hm G nn a1 (h 160 23) u57.1 u57.2 n0 (by omega) (by omega) (by omega) (by omega) T2) (fun _ P => ⟨fr_tr F1 P.1 (by omega), P.2⟩)
theorem go_primary {nn : Nat} {m : Int} (hm : m = 0 ∨ m = 1) {rc : tq_X13_expression} (G : GT m rc) {a1 : Int} {h : ms_M} (ha : 0 ≤ a1 ∧ a1 ≤ 40) (hh : 0 ≤ h 160 22) : Pc (qo_X13_primary nn rc a1 h) (CE m (RE m a1 + 3 + 2 * m) h) := by
  unfold qo_X13_primary CE
  generalize hn0 : h 160 22 = n0
  have F0 : Fr h h n0 := fr_rf
  have r0 := re_s (m := m) (d := a1) hm
  have r1 := re_1 (m := m) (d := a1)
  have r2 := re_1 (m := m) (d := a1 + 1)
  refine pc_rA ?_; intro p_v20 q_v20 v20 e_v20
  refine pc_if (fun C1 => ?_) (fun C1 => ?_)
  · skip
    refine pc_rA ?_; intro p_v23 q_v23 v23 e_v23
    refine pc_if (fun C2 => ?_) (fun C2 => ?_)
    · skip
      refine pc_sv pc_isSign ?_; intro u26 b_u26
      refine pc_if (fun C3 => ?_) (fun C3 => ?_)
      · skip
        refine pc_rA ?_; intro p_v29 q_v29 v29 e_v29
        refine pc_if (fun C4 => ?_) (fun C4 => ?_)
        · skip
          unfold qj_X13_primary_283
          refine pc_sv pc_misplaced ?_; intro u2 P_u2
          have S_u2 := P_u2.1
          have z_u2 := S_u2.1; have c_u2 := S_u2.2.2.1
          have F5 : Fr h u2 n0 := fr_tr F0 (sm_fr (n := n0) S_u2) (by omega)
          exact pc_ret ⟨F5, fun y => (P_u2.2 y).elim⟩
        · skip
          refine pc_rA ?_; intro p_v32 q_v32 v32 e_v32
          refine pc_if (fun C6 => ?_) (fun C6 => ?_)
          · skip
            unfold qj_X13_primary_215
            refine pc_add (by omega) ?_; intro v6 e_v6
            refine pc_xl ?_; intro h7 E_h7
            obtain ⟨S_h7, c_h7, f_h7⟩ := sm_cur E_h7 (by omega)
            have z_h7 := S_h7.1
            have F7 : Fr h h7 n0 := fr_tr F0 (sm_fr (n := n0) S_h7) (by omega)
            refine pc_if (fun C8 => ?_) (fun C8 => ?_)
            · skip
              refine pc_if (fun C9 => ?_) (fun C9 => ?_)
              · skip
                refine pc_if (fun C10 => ?_) (fun C10 => ?_)
                · skip
                  unfold qj_X13_primary_264
                  refine pc_sv pc_ad ?_; intro u4 A_u4
                  obtain ⟨⟨a0_u4, a1_u4, a2_u4, a3_u4, a4_u4, a5_u4, a6_u4⟩, F_u4, O_u4⟩ := A_u4
                  have F11 : Fr h u4.2 n0 := fr_tr F7 F_u4 (by omega)
                  refine pc_ret ⟨F11, fun y => ?_⟩
                  have y : u4.2 160 9 = 0 := y
                  show TE m u4.2 0 (RE m a1 + 3 + 2 * m) n0 (u4.2 160 22) u4.1
                  exact on_leaf O_u4 (by omega) ⟨by omega, by omega, by omega, by omega⟩
                · skip
                  unfold qj_X13_primary_264
                  refine pc_sv pc_ad ?_; intro u4 A_u4
                  obtain ⟨⟨a0_u4, a1_u4, a2_u4, a3_u4, a4_u4, a5_u4, a6_u4⟩, F_u4, O_u4⟩ := A_u4
                  have F12 : Fr h u4.2 n0 := fr_tr F7 F_u4 (by omega)
                  refine pc_ret ⟨F12, fun y => ?_⟩
                  have y : u4.2 160 9 = 0 := y
                  show TE m u4.2 0 (RE m a1 + 3 + 2 * m) n0 (u4.2 160 22) u4.1
                  exact on_leaf O_u4 (by omega) ⟨by omega, by omega, by omega, by omega⟩
              · skip
                unfold qj_X13_primary_264
                refine pc_sv pc_ad ?_; intro u4 A_u4
                obtain ⟨⟨a0_u4, a1_u4, a2_u4, a3_u4, a4_u4, a5_u4, a6_u4⟩, F_u4, O_u4⟩ := A_u4
                have F13 : Fr h u4.2 n0 := fr_tr F7 F_u4 (by omega)
                refine pc_ret ⟨F13, fun y => ?_⟩
                have y : u4.2 160 9 = 0 := y
                show TE m u4.2 0 (RE m a1 + 3 + 2 * m) n0 (u4.2 160 22) u4.1
                exact on_leaf O_u4 (by omega) ⟨by omega, by omega, by omega, by omega⟩
            · skip
              unfold qj_X13_primary_264
              refine pc_sv pc_ad ?_; intro u4 A_u4
              obtain ⟨⟨a0_u4, a1_u4, a2_u4, a3_u4, a4_u4, a5_u4, a6_u4⟩, F_u4, O_u4⟩ := A_u4
              have F14 : Fr h u4.2 n0 := fr_tr F7 F_u4 (by omega)
              refine pc_ret ⟨F14, fun y => ?_⟩
              have y : u4.2 160 9 = 0 := y
              show TE m u4.2 0 (RE m a1 + 3 + 2 * m) n0 (u4.2 160 22) u4.1
              exact on_leaf O_u4 (by omega) ⟨by omega, by omega, by omega, by omega⟩
          · skip
            refine pc_if (fun C15 => ?_) (fun C15 => ?_)
            · skip
              unfold qj_X13_primary_215
              refine pc_add (by omega) ?_; intro v6 e_v6
              refine pc_xl ?_; intro h7 E_h7
              obtain ⟨S_h7, c_h7, f_h7⟩ := sm_cur E_h7 (by omega)
              have z_h7 := S_h7.1
              have F16 : Fr h h7 n0 := fr_tr F0 (sm_fr (n := n0) S_h7) (by omega)
              refine pc_if (fun C17 => ?_) (fun C17 => ?_)
              · skip
                refine pc_if (fun C18 => ?_) (fun C18 => ?_)
                · skip
                  refine pc_if (fun C19 => ?_) (fun C19 => ?_)
                  · skip
                    unfold qj_X13_primary_264
                    refine pc_sv pc_ad ?_; intro u4 A_u4
                    obtain ⟨⟨a0_u4, a1_u4, a2_u4, a3_u4, a4_u4, a5_u4, a6_u4⟩, F_u4, O_u4⟩ := A_u4
                    have F20 : Fr h u4.2 n0 := fr_tr F16 F_u4 (by omega)
                    refine pc_ret ⟨F20, fun y => ?_⟩
                    have y : u4.2 160 9 = 0 := y
                    show TE m u4.2 0 (RE m a1 + 3 + 2 * m) n0 (u4.2 160 22) u4.1
                    exact on_leaf O_u4 (by omega) ⟨by omega, by omega, by omega, by omega⟩
                  · skip
                    unfold qj_X13_primary_264
                    refine pc_sv pc_ad ?_; intro u4 A_u4
                    obtain ⟨⟨a0_u4, a1_u4, a2_u4, a3_u4, a4_u4, a5_u4, a6_u4⟩, F_u4, O_u4⟩ := A_u4
                    have F21 : Fr h u4.2 n0 := fr_tr F16 F_u4 (by omega)
                    refine pc_ret ⟨F21, fun y => ?_⟩
                    have y : u4.2 160 9 = 0 := y
                    show TE m u4.2 0 (RE m a1 + 3 + 2 * m) n0 (u4.2 160 22) u4.1
                    exact on_leaf O_u4 (by omega) ⟨by omega, by omega, by omega, by omega⟩
                · skip
                  unfold qj_X13_primary_264
                  refine pc_sv pc_ad ?_; intro u4 A_u4
                  obtain ⟨⟨a0_u4, a1_u4, a2_u4, a3_u4, a4_u4, a5_u4, a6_u4⟩, F_u4, O_u4⟩ := A_u4
                  have F22 : Fr h u4.2 n0 := fr_tr F16 F_u4 (by omega)
                  refine pc_ret ⟨F22, fun y => ?_⟩
                  have y : u4.2 160 9 = 0 := y
                  show TE m u4.2 0 (RE m a1 + 3 + 2 * m) n0 (u4.2 160 22) u4.1
                  exact on_leaf O_u4 (by omega) ⟨by omega, by omega, by omega, by omega⟩
              · skip
                unfold qj_X13_primary_264
                refine pc_sv pc_ad ?_; intro u4 A_u4
                obtain ⟨⟨a0_u4, a1_u4, a2_u4, a3_u4, a4_u4, a5_u4, a6_u4⟩, F_u4, O_u4⟩ := A_u4
                have F23 : Fr h u4.2 n0 := fr_tr F16 F_u4 (by omega)
                refine pc_ret ⟨F23, fun y => ?_⟩
                have y : u4.2 160 9 = 0 := y
                show TE m u4.2 0 (RE m a1 + 3 + 2 * m) n0 (u4.2 160 22) u4.1
                exact on_leaf O_u4 (by omega) ⟨by omega, by omega, by omega, by omega⟩
            · skip
              refine pc_if (fun C24 => ?_) (fun C24 => ?_)
              · skip
                unfold qj_X13_primary_215
                refine pc_add (by omega) ?_; intro v6 e_v6
                refine pc_xl ?_; intro h7 E_h7
                obtain ⟨S_h7, c_h7, f_h7⟩ := sm_cur E_h7 (by omega)
                have z_h7 := S_h7.1
                have F25 : Fr h h7 n0 := fr_tr F0 (sm_fr (n := n0) S_h7) (by omega)
                refine pc_if (fun C26 => ?_) (fun C26 => ?_)
                · skip
                  refine pc_if (fun C27 => ?_) (fun C27 => ?_)
                  · skip
                    refine pc_if (fun C28 => ?_) (fun C28 => ?_)
                    · skip
                      unfold qj_X13_primary_264
                      refine pc_sv pc_ad ?_; intro u4 A_u4
                      obtain ⟨⟨a0_u4, a1_u4, a2_u4, a3_u4, a4_u4, a5_u4, a6_u4⟩, F_u4, O_u4⟩ := A_u4
                      have F29 : Fr h u4.2 n0 := fr_tr F25 F_u4 (by omega)
                      refine pc_ret ⟨F29, fun y => ?_⟩
                      have y : u4.2 160 9 = 0 := y
                      show TE m u4.2 0 (RE m a1 + 3 + 2 * m) n0 (u4.2 160 22) u4.1
                      exact on_leaf O_u4 (by omega) ⟨by omega, by omega, by omega, by omega⟩
                    · skip
                      unfold qj_X13_primary_264
                      refine pc_sv pc_ad ?_; intro u4 A_u4
                      obtain ⟨⟨a0_u4, a1_u4, a2_u4, a3_u4, a4_u4, a5_u4, a6_u4⟩, F_u4, O_u4⟩ := A_u4
                      have F30 : Fr h u4.2 n0 := fr_tr F25 F_u4 (by omega)
                      refine pc_ret ⟨F30, fun y => ?_⟩
                      have y : u4.2 160 9 = 0 := y
                      show TE m u4.2 0 (RE m a1 + 3 + 2 * m) n0 (u4.2 160 22) u4.1
                      exact on_leaf O_u4 (by omega) ⟨by omega, by omega, by omega, by omega⟩
                  · skip
                    unfold qj_X13_primary_264
                    refine pc_sv pc_ad ?_; intro u4 A_u4
                    obtain ⟨⟨a0_u4, a1_u4, a2_u4, a3_u4, a4_u4, a5_u4, a6_u4⟩, F_u4, O_u4⟩ := A_u4
                    have F31 : Fr h u4.2 n0 := fr_tr F25 F_u4 (by omega)
                    refine pc_ret ⟨F31, fun y => ?_⟩
                    have y : u4.2 160 9 = 0 := y
                    show TE m u4.2 0 (RE m a1 + 3 + 2 * m) n0 (u4.2 160 22) u4.1
                    exact on_leaf O_u4 (by omega) ⟨by omega, by omega, by omega, by omega⟩
                · skip
                  unfold qj_X13_primary_264
                  refine pc_sv pc_ad ?_; intro u4 A_u4
                  obtain ⟨⟨a0_u4, a1_u4, a2_u4, a3_u4, a4_u4, a5_u4, a6_u4⟩, F_u4, O_u4⟩ := A_u4
                  have F32 : Fr h u4.2 n0 := fr_tr F25 F_u4 (by omega)
                  refine pc_ret ⟨F32, fun y => ?_⟩
                  have y : u4.2 160 9 = 0 := y
                  show TE m u4.2 0 (RE m a1 + 3 + 2 * m) n0 (u4.2 160 22) u4.1
                  exact on_leaf O_u4 (by omega) ⟨by omega, by omega, by omega, by omega⟩
              · skip
                refine pc_if (fun C33 => ?_) (fun C33 => ?_)
                · skip
                  refine pc_if (fun C34 => ?_) (fun C34 => ?_)
                  · skip
                    unfold qj_X13_primary_283
                    refine pc_sv pc_misplaced ?_; intro u2 P_u2
                    have S_u2 := P_u2.1
                    have z_u2 := S_u2.1; have c_u2 := S_u2.2.2.1
                    have F35 : Fr h u2 n0 := fr_tr F0 (sm_fr (n := n0) S_u2) (by omega)
                    exact pc_ret ⟨F35, fun y => (P_u2.2 y).elim⟩
                  · skip
                    refine pc_sv (G.2.2.2.2.2.2 a1 h (by omega) (by omega) (by omega) (by omega)) ?_; intro u34 P_u34
                    have F_u34 := P_u34.1; have z_u34 := F_u34.1.1; have c_u34 := F_u34.1.2.2
                    have F36 : Fr h u34.2 n0 := fr_tr F0 F_u34 (by omega)
                    refine pc_ret ⟨F36, fun y => ?_⟩
                    have y : u34.2 160 9 = 0 := y
                    show TE m u34.2 0 (RE m a1 + 3 + 2 * m) n0 (u34.2 160 22) u34.1
                    exact te_wd (P_u34.2 y) (by omega) (by omega) (by omega) (by omega)
                · skip
                  unfold qj_X13_primary_215
                  refine pc_add (by omega) ?_; intro v6 e_v6
                  refine pc_xl ?_; intro h7 E_h7
                  obtain ⟨S_h7, c_h7, f_h7⟩ := sm_cur E_h7 (by omega)
                  have z_h7 := S_h7.1
                  have F37 : Fr h h7 n0 := fr_tr F0 (sm_fr (n := n0) S_h7) (by omega)
                  refine pc_if (fun C38 => ?_) (fun C38 => ?_)
                  · skip
                    refine pc_if (fun C39 => ?_) (fun C39 => ?_)
                    · skip
                      refine pc_if (fun C40 => ?_) (fun C40 => ?_)
                      · skip
                        unfold qj_X13_primary_264
                        refine pc_sv pc_ad ?_; intro u4 A_u4
                        obtain ⟨⟨a0_u4, a1_u4, a2_u4, a3_u4, a4_u4, a5_u4, a6_u4⟩, F_u4, O_u4⟩ := A_u4
                        have F41 : Fr h u4.2 n0 := fr_tr F37 F_u4 (by omega)
                        refine pc_ret ⟨F41, fun y => ?_⟩
                        have y : u4.2 160 9 = 0 := y
                        show TE m u4.2 0 (RE m a1 + 3 + 2 * m) n0 (u4.2 160 22) u4.1
                        exact on_leaf O_u4 (by omega) ⟨by omega, by omega, by omega, by omega⟩
                      · skip
                        unfold qj_X13_primary_264
                        refine pc_sv pc_ad ?_; intro u4 A_u4
                        obtain ⟨⟨a0_u4, a1_u4, a2_u4, a3_u4, a4_u4, a5_u4, a6_u4⟩, F_u4, O_u4⟩ := A_u4
                        have F42 : Fr h u4.2 n0 := fr_tr F37 F_u4 (by omega)
                        refine pc_ret ⟨F42, fun y => ?_⟩
                        have y : u4.2 160 9 = 0 := y
                        show TE m u4.2 0 (RE m a1 + 3 + 2 * m) n0 (u4.2 160 22) u4.1
                        exact on_leaf O_u4 (by omega) ⟨by omega, by omega, by omega, by omega⟩
                    · skip
                      unfold qj_X13_primary_264
                      refine pc_sv pc_ad ?_; intro u4 A_u4
                      obtain ⟨⟨a0_u4, a1_u4, a2_u4, a3_u4, a4_u4, a5_u4, a6_u4⟩, F_u4, O_u4⟩ := A_u4
                      have F43 : Fr h u4.2 n0 := fr_tr F37 F_u4 (by omega)
                      refine pc_ret ⟨F43, fun y => ?_⟩
                      have y : u4.2 160 9 = 0 := y
                      show TE m u4.2 0 (RE m a1 + 3 + 2 * m) n0 (u4.2 160 22) u4.1
                      exact on_leaf O_u4 (by omega) ⟨by omega, by omega, by omega, by omega⟩
                  · skip
                    unfold qj_X13_primary_264
                    refine pc_sv pc_ad ?_; intro u4 A_u4
                    obtain ⟨⟨a0_u4, a1_u4, a2_u4, a3_u4, a4_u4, a5_u4, a6_u4⟩, F_u4, O_u4⟩ := A_u4
                    have F44 : Fr h u4.2 n0 := fr_tr F37 F_u4 (by omega)
                    refine pc_ret ⟨F44, fun y => ?_⟩
                    have y : u4.2 160 9 = 0 := y
                    show TE m u4.2 0 (RE m a1 + 3 + 2 * m) n0 (u4.2 160 22) u4.1
                    exact on_leaf O_u4 (by omega) ⟨by omega, by omega, by omega, by omega⟩
      · skip
        refine pc_add (by omega) ?_; intro v42 e_v42
        refine pc_xl ?_; intro h43 E_h43
        obtain ⟨S_h43, c_h43, f_h43⟩ := sm_cur E_h43 (by omega)
        have z_h43 := S_h43.1
        have F45 : Fr h h43 n0 := fr_tr F0 (sm_fr (n := n0) S_h43) (by omega)
        refine pc_sv (G.1 a1 h43 (by omega) (by omega) (by omega)) ?_; intro u45 P_u45
        have F_u45 := P_u45.1; have z_u45 := F_u45.1.1; have c_u45 := F_u45.1.2.2
        have F46 : Fr h u45.2 n0 := fr_tr F45 F_u45 (by omega)
        refine pc_sv pc_sign_ ?_; intro u47 P_u47
        have S_u47 := P_u47.1
        have z_u47 := S_u47.1; have c_u47 := S_u47.2.2.1
        have F47 : Fr h u47 n0 := fr_tr F46 (sm_fr (n := n0) S_u47) (by omega)
        have N48 : u47 160 9 = 0 → TE m u47 0 (RE m a1) (h43 160 22) (u45.2 160 22) u45.1 := fun y => te_sm S_u47 (by omega) (P_u45.2 (S_u47.2.1 y))
        unfold qj_X13_primary_138
        refine pc_if (fun C49 => ?_) (fun C49 => ?_)
        · skip
          refine pc_wA ?_; intro p_h13 q_h13 h13 E_h13
          obtain ⟨x_h13, y_h13, z_h13⟩ := w_nd E_h13 (by decide)
          have q_h13 := (te_o0 (N48 (by omega))).1
          have F50 : Fr h h13 n0 := fr_tr F47 (fr_w (n := n0) E_h13 (by decide) (by omega) (by omega) (gi_o E_h13 (by decide))) (by omega)
          have N51 : h13 160 9 = 0 → TE m h13 0 (RE m a1) (h43 160 22) (u45.2 160 22) u45.1 := fun y => te_01 (by decide) (fun c x hc => by rw [E_h13]; exact up_n (by omega)) (by omega) (N48 (by omega))
          have N52 : h13 160 9 = 0 → u47 160 23 = u45.2 160 23 + 1 ∧ u45.2 160 23 < 3002 := fun y => P_u47.2 (by omega)
          refine pc_wZ ?_; intro p_h15 q_h15 h15 E_h15
          obtain ⟨x_h15, y_h15, z_h15⟩ := w_nd E_h15 (by decide)
          have q_h15 := (te_o0 (N51 (by omega))).1
          have F53 : Fr h h15 n0 := fr_tr F50 (fr_w (n := n0) E_h15 (by decide) (by omega) (by omega) (gi_o E_h15 (by decide))) (by omega)
          have N54 : h15 160 9 = 0 → TE m h15 0 (RE m a1) (h43 160 22) (u45.2 160 22) u45.1 := fun y => te_01 (by decide) (fun c x hc => by rw [E_h15]; exact up_n (by omega)) (by omega) (N51 (by omega))
          have N55 : h15 160 9 = 0 → u47 160 23 = u45.2 160 23 + 1 ∧ u45.2 160 23 < 3002 := fun y => N52 (by omega)
          refine pc_ret ⟨F53, fun y => ?_⟩
          have y : h15 160 9 = 0 := y
          have A56 := N55 y
          show TE m h15 0 (RE m a1 + 3 + 2 * m) n0 (h15 160 22) u45.1
          exact te_wd (N54 y) (by omega) (by omega) (by omega) (by omega)
        · skip
          exact pc_ret ⟨F47, fun y => (C49 y).elim⟩
    · skip
      refine pc_add (by omega) ?_; intro v50 e_v50
      refine pc_xl ?_; intro h51 E_h51
      obtain ⟨S_h51, c_h51, f_h51⟩ := sm_cur E_h51 (by omega)
      have z_h51 := S_h51.1
      have F57 : Fr h h51 n0 := fr_tr F0 (sm_fr (n := n0) S_h51) (by omega)
      refine pc_sv pc_ad ?_; intro u53 A_u53
      obtain ⟨⟨a0_u53, a1_u53, a2_u53, a3_u53, a4_u53, a5_u53, a6_u53⟩, F_u53, O_u53⟩ := A_u53
      have F58 : Fr h u53.2 n0 := fr_tr F57 F_u53 (by omega)
      refine pc_sv pc_isSign ?_; intro u56 b_u56
      refine pc_if (fun C59 => ?_) (fun C59 => ?_)
      · skip
        refine pc_ret ⟨F58, fun y => ?_⟩
        have y : u53.2 160 9 = 0 := y
        show TE m u53.2 0 (RE m a1 + 3 + 2 * m) n0 (u53.2 160 22) u53.1
        exact on_leaf O_u53 (by omega) ⟨by omega, by omega, by omega, by omega⟩
      · skip
        refine pc_wA ?_; intro p_h58 q_h58 h58 E_h58
        obtain ⟨x_h58, y_h58, z_h58⟩ := w_nd E_h58 (by decide)
        have F60 : Fr h h58 n0 := fr_tr F58 (fr_w (n := n0) E_h58 (by decide) (by omega) (by omega) (gi_7 E_h58 (by rw [O_u53.1]; omega))) (by omega)
        have O61 : ON h58 u53.1 26 (-1) (-1) (-1) (-1) (h 160 23) 0 := on_wk E_h58 O_u53
        refine pc_sv (G.2.2.2.1 a1 h58 (by omega) (by omega) (by omega)) ?_; intro u61 P_u61
        have F_u61 := P_u61.1; have z_u61 := F_u61.1.1; have c_u61 := F_u61.1.2.2
        have F62 : Fr h u61.2 n0 := fr_tr F60 F_u61 (by omega)
        have O63 : ON u61.2 u53.1 26 (-1) (-1) (-1) (-1) (h 160 23) 0 := on_F F_u61 (by omega) (by omega) O61
        refine pc_wA ?_; intro p_h62 q_h62 h62 E_h62
        obtain ⟨x_h62, y_h62, z_h62⟩ := w_nd E_h62 (by decide)
        have F64 : Fr h h62 n0 := fr_tr F62 (fr_w (n := n0) E_h62 (by decide) (by omega) (by omega) (gi_o E_h62 (by decide))) (by omega)
        have O65 : ON h62 u53.1 26 (-1) u61.1 (-1) (-1) (h 160 23) 0 := on_w1 E_h62 O63
        have N66 : h62 160 9 = 0 → TE m h62 1 (RE m a1) (h58 160 22) (u61.2 160 22) u61.1 := fun y => te_w E_h62 (by omega) (by omega) (by omega) (P_u61.2 (by omega))
        refine pc_ret ⟨F64, fun y => ?_⟩
        have y : h62 160 9 = 0 := y
        show TE m h62 0 (RE m a1 + 3 + 2 * m) n0 (h62 160 22) u53.1
        exact on_call O65 (by omega) ⟨by omega, by omega, by omega, by omega⟩ (te_wd (N66 y) (by omega) (by omega) (by omega) (by omega))
  · skip
    refine pc_add (by omega) ?_; intro v66 e_v66
    refine pc_xl ?_; intro h67 E_h67
    obtain ⟨S_h67, c_h67, f_h67⟩ := sm_cur E_h67 (by omega)
    have z_h67 := S_h67.1
    have F67 : Fr h h67 n0 := fr_tr F0 (sm_fr (n := n0) S_h67) (by omega)
    refine pc_sv pc_ad ?_; intro u69 A_u69
    obtain ⟨⟨a0_u69, a1_u69, a2_u69, a3_u69, a4_u69, a5_u69, a6_u69⟩, F_u69, O_u69⟩ := A_u69
    have F68 : Fr h u69.2 n0 := fr_tr F67 F_u69 (by omega)
    refine pc_ret ⟨F68, fun y => ?_⟩
    have y : u69.2 160 9 = 0 := y
    show TE m u69.2 0 (RE m a1 + 3 + 2 * m) n0 (u69.2 160 22) u69.1
    exact on_leaf O_u69 (by omega) ⟨by omega, by omega, by omega, by omega⟩
theorem go_fresh {nn : Nat} {m : Int} (hm : m = 0 ∨ m = 1) {rc : tq_X13_expression} (G : GT m rc) {a1 : Int} {h : ms_M} (ha : 0 ≤ a1 ∧ a1 ≤ 40) (hh : 0 ≤ h 160 22) (hc : 0 ≤ h 160 23 ∧ h 160 23 < 3008) : Pc (qo_X13_fresh nn rc a1 h) (CE m (RE m a1 + 3 + 2 * m) h) := by
  unfold qo_X13_fresh CE
  generalize hn0 : h 160 22 = n0
  have F0 : Fr h h n0 := fr_rf
  have r0 := re_s (m := m) (d := a1) hm
  have r1 := re_1 (m := m) (d := a1)
  have r2 := re_1 (m := m) (d := a1 + 1)
  refine pc_add (by omega) ?_; intro v9 e_v9
  refine pc_xl ?_; intro h10 E_h10
  obtain ⟨S_h10, c_h10, f_h10⟩ := sm_cur E_h10 (by omega)
  have z_h10 := S_h10.1
  have F1 : Fr h h10 n0 := fr_tr F0 (sm_fr (n := n0) S_h10) (by omega)
  refine pc_sv pc_isWord ?_; intro u13 b_u13
  refine pc_if (fun C2 => ?_) (fun C2 => ?_)
  · skip
    refine pc_sv pc_name ?_; intro u15 P_u15
    have S_u15 := P_u15.1
    have z_u15 := S_u15.1; have c_u15 := S_u15.2.2.1
    have n_u15 := P_u15.2.1
    have F3 : Fr h u15.2 n0 := fr_tr F1 (sm_fr (n := n0) S_u15) (by omega)
    refine pc_if (fun C4 => ?_) (fun C4 => ?_)
    · skip
      refine pc_sv pc_ad ?_; intro u18 A_u18
      obtain ⟨⟨a0_u18, a1_u18, a2_u18, a3_u18, a4_u18, a5_u18, a6_u18⟩, F_u18, O_u18⟩ := A_u18
      have F5 : Fr h u18.2 n0 := fr_tr F3 F_u18 (by omega)
      have N6 : u18.2 160 9 = 0 → u15.2 160 23 = h10 160 23 + 1 ∧ u15.1 = h10 160 23 := fun y => P_u15.2.2 (F_u18.1.2.1 y)
      refine pc_sv pc_isSign ?_; intro u21 b_u21
      refine pc_if (fun C7 => ?_) (fun C7 => ?_)
      · skip
        refine pc_sv pc_sign_ ?_; intro u23 P_u23
        have S_u23 := P_u23.1
        have z_u23 := S_u23.1; have c_u23 := S_u23.2.2.1
        have F8 : Fr h u23 n0 := fr_tr F5 (sm_fr (n := n0) S_u23) (by omega)
        have O9 : ON u23 u18.1 27 (-1) (-1) (-1) (-1) (h 160 23) 0 := on_sm S_u23 O_u18
        have N10 : u23 160 9 = 0 → u15.2 160 23 = h10 160 23 + 1 ∧ u15.1 = h10 160 23 := fun y => N6 (S_u23.2.1 y)
        refine pc_sv pc_sign_ ?_; intro u25 P_u25
        have S_u25 := P_u25.1
        have z_u25 := S_u25.1; have c_u25 := S_u25.2.2.1
        have F11 : Fr h u25 n0 := fr_tr F8 (sm_fr (n := n0) S_u25) (by omega)
        have O12 : ON u25 u18.1 27 (-1) (-1) (-1) (-1) (h 160 23) 0 := on_sm S_u25 O9
        have N13 : u25 160 9 = 0 → u15.2 160 23 = h10 160 23 + 1 ∧ u15.1 = h10 160 23 := fun y => N10 (S_u25.2.1 y)
        have N14 : u25 160 9 = 0 → u23 160 23 = u18.2 160 23 + 1 ∧ u18.2 160 23 < 3002 := fun y => P_u23.2 (S_u25.2.1 y)
        refine pc_ret ⟨F11, fun y => ?_⟩
        have y : u25 160 9 = 0 := y
        have A15 := N13 y
        have A16 := N14 y
        have A17 := P_u25.2 y
        show TE m u25 0 (RE m a1 + 3 + 2 * m) n0 (u25 160 22) u18.1
        exact on_leaf O12 (by omega) ⟨by omega, by omega, by omega, by omega⟩
      · skip
        refine pc_wA ?_; intro p_h27 q_h27 h27 E_h27
        obtain ⟨x_h27, y_h27, z_h27⟩ := w_nd E_h27 (by decide)
        have F18 : Fr h h27 n0 := fr_tr F5 (fr_w (n := n0) E_h27 (by decide) (by omega) (by omega) (gi_7 E_h27 (by rw [O_u18.1]; omega))) (by omega)
        have O19 : ON h27 u18.1 29 (-1) (-1) (-1) (-1) (h 160 23) 0 := on_wk E_h27 O_u18
        have N20 : h27 160 9 = 0 → u15.2 160 23 = h10 160 23 + 1 ∧ u15.1 = h10 160 23 := fun y => N6 (by omega)
        refine pc_wA ?_; intro p_h30 q_h30 h30 E_h30
        obtain ⟨x_h30, y_h30, z_h30⟩ := w_nd E_h30 (by decide)
        have F21 : Fr h h30 n0 := fr_tr F18 (fr_w (n := n0) E_h30 (by decide) (by omega) (by omega) (gi_o E_h30 (by decide))) (by omega)
        have O22 : ON h30 u18.1 29 (-1) (-1) (h27 160 23) (-1) (h 160 23) 0 := on_w2 E_h30 O19
        have N23 : h30 160 9 = 0 → u15.2 160 23 = h10 160 23 + 1 ∧ u15.1 = h10 160 23 := fun y => N20 (by omega)
        refine pc_add (by omega) ?_; intro v32 e_v32
        refine pc_xl ?_; intro h33 E_h33
        obtain ⟨S_h33, c_h33, f_h33⟩ := sm_cur E_h33 (by omega)
        have z_h33 := S_h33.1
        have F24 : Fr h h33 n0 := fr_tr F21 (sm_fr (n := n0) S_h33) (by omega)
        have O25 : ON h33 u18.1 29 (-1) (-1) (h27 160 23) (-1) (h 160 23) 0 := on_sm S_h33 O22
        have N26 : h33 160 9 = 0 → u15.2 160 23 = h10 160 23 + 1 ∧ u15.1 = h10 160 23 := fun y => N23 (S_h33.2.1 y)
        unfold qj_X13_fresh_142
        refine pc_sv (G.1 a1 h33 (by omega) (by omega) (by omega)) ?_; intro u3 P_u3
        have F_u3 := P_u3.1; have z_u3 := F_u3.1.1; have c_u3 := F_u3.1.2.2
        have F27 : Fr h u3.2 n0 := fr_tr F24 F_u3 (by omega)
        have O28 : ON u3.2 u18.1 29 (-1) (-1) (h27 160 23) (-1) (h 160 23) 0 := on_F F_u3 (by omega) (by omega) O25
        have N29 : u3.2 160 9 = 0 → u15.2 160 23 = h10 160 23 + 1 ∧ u15.1 = h10 160 23 := fun y => N26 (F_u3.1.2.1 y)
        refine pc_wA ?_; intro p_h4 q_h4 h4 E_h4
        obtain ⟨x_h4, y_h4, z_h4⟩ := w_nd E_h4 (by decide)
        have F30 : Fr h h4 n0 := fr_tr F27 (fr_w (n := n0) E_h4 (by decide) (by omega) (by omega) (gi_o E_h4 (by decide))) (by omega)
        have O31 : ON h4 u18.1 29 u3.1 (-1) (h27 160 23) (-1) (h 160 23) 0 := on_w0 E_h4 O28
        have N32 : h4 160 9 = 0 → u15.2 160 23 = h10 160 23 + 1 ∧ u15.1 = h10 160 23 := fun y => N29 (by omega)
        have N33 : h4 160 9 = 0 → TE m h4 0 (RE m a1) (h33 160 22) (u3.2 160 22) u3.1 := fun y => te_w E_h4 (by omega) (by omega) (by omega) (P_u3.2 (by omega))
        refine pc_sv pc_sign_ ?_; intro u6 P_u6
        have S_u6 := P_u6.1
        have z_u6 := S_u6.1; have c_u6 := S_u6.2.2.1
        have F34 : Fr h u6 n0 := fr_tr F30 (sm_fr (n := n0) S_u6) (by omega)
        have O35 : ON u6 u18.1 29 u3.1 (-1) (h27 160 23) (-1) (h 160 23) 0 := on_sm S_u6 O31
        have N36 : u6 160 9 = 0 → u15.2 160 23 = h10 160 23 + 1 ∧ u15.1 = h10 160 23 := fun y => N32 (S_u6.2.1 y)
        have N37 : u6 160 9 = 0 → TE m u6 0 (RE m a1) (h33 160 22) (u3.2 160 22) u3.1 := fun y => te_sm S_u6 (by omega) (N33 (S_u6.2.1 y))
        refine pc_ret ⟨F34, fun y => ?_⟩
        have y : u6 160 9 = 0 := y
        have A38 := N36 y
        have A39 := P_u6.2 y
        show TE m u6 0 (RE m a1 + 3 + 2 * m) n0 (u6 160 22) u18.1
        exact on_ints O35 (by omega) ⟨by omega, by omega, by omega, by omega⟩ (te_wd (N37 y) (by omega) (by omega) (by omega) (by omega))
    · skip
      exact pc_ret ⟨F3, fun y => (C4 y).elim⟩
  · skip
    refine pc_add (by omega) ?_; intro v37 e_v37
    refine pc_xl ?_; intro h38 E_h38
    obtain ⟨S_h38, c_h38, f_h38⟩ := sm_cur E_h38 (by omega)
    have z_h38 := S_h38.1
    have F40 : Fr h h38 n0 := fr_tr F1 (sm_fr (n := n0) S_h38) (by omega)
    refine pc_sv pc_ad ?_; intro u41 A_u41
    obtain ⟨⟨a0_u41, a1_u41, a2_u41, a3_u41, a4_u41, a5_u41, a6_u41⟩, F_u41, O_u41⟩ := A_u41
    have F41 : Fr h u41.2 n0 := fr_tr F40 F_u41 (by omega)
    refine pc_sv pc_sign_ ?_; intro u43 P_u43
    have S_u43 := P_u43.1
    have z_u43 := S_u43.1; have c_u43 := S_u43.2.2.1
    have F42 : Fr h u43 n0 := fr_tr F41 (sm_fr (n := n0) S_u43) (by omega)
    have O43 : ON u43 u41.1 28 (-1) (-1) (-1) (-1) (h 160 23) 0 := on_sm S_u43 O_u41
    refine pc_sv (G.1 a1 u43 (by omega) (by omega) (by omega)) ?_; intro u46 P_u46
    have F_u46 := P_u46.1; have z_u46 := F_u46.1.1; have c_u46 := F_u46.1.2.2
    have F44 : Fr h u46.2 n0 := fr_tr F42 F_u46 (by omega)
    have O45 : ON u46.2 u41.1 28 (-1) (-1) (-1) (-1) (h 160 23) 0 := on_F F_u46 (by omega) (by omega) O43
    have N46 : u46.2 160 9 = 0 → u43 160 23 = u41.2 160 23 + 1 ∧ u41.2 160 23 < 3002 := fun y => P_u43.2 (F_u46.1.2.1 y)
    refine pc_wA ?_; intro p_h47 q_h47 h47 E_h47
    obtain ⟨x_h47, y_h47, z_h47⟩ := w_nd E_h47 (by decide)
    have F47 : Fr h h47 n0 := fr_tr F44 (fr_w (n := n0) E_h47 (by decide) (by omega) (by omega) (gi_o E_h47 (by decide))) (by omega)
    have O48 : ON h47 u41.1 28 u46.1 (-1) (-1) (-1) (h 160 23) 0 := on_w0 E_h47 O45
    have N49 : h47 160 9 = 0 → u43 160 23 = u41.2 160 23 + 1 ∧ u41.2 160 23 < 3002 := fun y => N46 (by omega)
    have N50 : h47 160 9 = 0 → TE m h47 0 (RE m a1) (u43 160 22) (u46.2 160 22) u46.1 := fun y => te_w E_h47 (by omega) (by omega) (by omega) (P_u46.2 (by omega))
    refine pc_sv pc_sign_ ?_; intro u49 P_u49
    have S_u49 := P_u49.1
    have z_u49 := S_u49.1; have c_u49 := S_u49.2.2.1
    have F51 : Fr h u49 n0 := fr_tr F47 (sm_fr (n := n0) S_u49) (by omega)
    have O52 : ON u49 u41.1 28 u46.1 (-1) (-1) (-1) (h 160 23) 0 := on_sm S_u49 O48
    have N53 : u49 160 9 = 0 → u43 160 23 = u41.2 160 23 + 1 ∧ u41.2 160 23 < 3002 := fun y => N49 (S_u49.2.1 y)
    have N54 : u49 160 9 = 0 → TE m u49 0 (RE m a1) (u43 160 22) (u46.2 160 22) u46.1 := fun y => te_sm S_u49 (by omega) (N50 (S_u49.2.1 y))
    refine pc_ret ⟨F51, fun y => ?_⟩
    have y : u49 160 9 = 0 := y
    have A55 := N53 y
    have A56 := P_u49.2 y
    show TE m u49 0 (RE m a1 + 3 + 2 * m) n0 (u49 160 22) u41.1
    exact on_ints O52 (by omega) ⟨by omega, by omega, by omega, by omega⟩ (te_wd (N54 y) (by omega) (by omega) (by omega) (by omega))
theorem gt_all {nn : Nat} {m : Int} (hm : m = 0 ∨ m = 1) : ∀ n, GT m (qg_X13_expression nn n) := by
  intro n
  induction n with
  | zero => exact ⟨fun _ _ _ _ _ => pc_none, fun _ _ _ _ _ _ _ _ => pc_none, fun _ _ _ _ _ => pc_none, fun _ _ _ _ _ => pc_none, fun _ _ _ _ _ => pc_none, fun _ _ _ _ _ => pc_none, fun _ _ _ _ _ _ => pc_none⟩
  | succ n G => exact ⟨fun d h a b c => go_expression hm G ⟨a, b⟩ c, fun l d h a b c e f => go_sides hm G ⟨a, b⟩ ⟨c, e⟩ f, fun d h a b c => go_unary hm G ⟨a, b⟩ c, fun d h a b c => go_arguments hm G ⟨a, b⟩ c, fun d h a b c => go_postfix hm G ⟨a, b⟩ c, fun d h a b c => go_primary hm G ⟨a, b⟩ c, fun d h a b c e => go_fresh hm G ⟨a, b⟩ c e⟩
theorem ge_expression {nn : Nat} {m : Int} (hm : m = 0 ∨ m = 1) (d : Int) (h : ms_M) (a : 0 ≤ d) (b : d ≤ 40) (c : 0 ≤ h 160 22) : Pc (qf_X13_expression nn d h) (CE m (RE m d) h) := (gt_all hm 700).1 d h a b c
/-- what a reader of a statement tells of the tree -/
def CS (m K : Int) (h : ms_M) (u : Int × ms_M) : Prop := Fr h u.2 (h 160 22) ∧ (u.2 160 9 = 0 → u.1 = h 160 22 ∧ u.2 169 (h 160 22).toNat = h 160 23 ∧ (u.2 167 (h 160 22).toNat = 2 → h 160 23 + 2 ≤ u.2 160 23) ∧ u.2 173 (h 160 22).toNat = -1 ∧ TE m u.2 2 K (h 160 22) (u.2 160 22) u.1)
def GS (m : Int) (rc : tq_X13_block) : Prop :=
  (∀ d h, 0 ≤ d → d ≤ 40 → 0 ≤ h 160 22 → Pc (rc.1 d h) (CS m (2 * (40 - d) + 2) h)) ∧
  (∀ d h, 0 ≤ d → d ≤ 40 → 0 ≤ h 160 22 → Pc (rc.2 d h) (CS m (2 * (40 - d) + 1) h))
theorem cs_tb {m K : Int} {h : ms_M} {u : Int × ms_M} (P : CS m K h u) (y : u.2 160 9 = 0) : TB m u.2 K u.1 (h 160 22) (u.2 160 22) (h 160 23) := by
  obtain ⟨w1, w2, _, _, w4⟩ := P.2 y
  rw [w1] at w4
  exact ⟨w1, w2, w4⟩
theorem cs_wd {m K K2 : Int} {h : ms_M} {u : Int × ms_M} (P : CS m K h u) (hk : K ≤ K2) (h0 : 0 ≤ h 160 22) : CS m K2 h u := ⟨P.1, fun y => ⟨(P.2 y).1, (P.2 y).2.1, (P.2 y).2.2.1, (P.2 y).2.2.2.1, te_wd (P.2 y).2.2.2.2 hk h0 (by omega) (by omega)⟩⟩
theorem ge_plain {nn : Nat} {m : Int} (hm : m = 0 ∨ m = 1) {a1 : Int} {h : ms_M} (ha : 0 ≤ a1 ∧ a1 ≤ 39) (hh : 0 ≤ h 160 22) : Pc (qf_X13_plain nn a1 h) (CS m (2 * (40 - a1) + 1) h) := by
  unfold qf_X13_plain CS
  generalize hn0 : h 160 22 = n0
  have F0 : Fr h h n0 := fr_rf
  have r1 := re_1 (m := m) (d := 1) (by decide)
  refine pc_sv pc_ad ?_; intro u6 A_u6
  obtain ⟨⟨a0_u6, a1_u6, a2_u6, a3_u6, a4_u6, a5_u6, a6_u6⟩, F_u6, O_u6⟩ := A_u6
  have F1 : Fr h u6.2 n0 := fr_tr F0 F_u6 (by omega)
  refine pc_add (by omega) ?_; intro v8 e_v8
  subst e_v8
  refine pc_sv (ge_expression (nn := nn) hm (a1 + 1) u6.2 (by omega) (by omega) (by omega)) ?_; intro u10 P_u10
  have F_u10 := P_u10.1; have z_u10 := F_u10.1.1; have c_u10 := F_u10.1.2.2
  have k_u10 := re_le (m := m) (d := 1) (d2 := (a1 + 1)) (by omega)
  have F2 : Fr h u10.2 n0 := fr_tr F1 F_u10 (by omega)
  have O3 : ON u10.2 u6.1 11 (-1) (-1) (-1) (-1) (h 160 23) 0 := on_F F_u10 (by omega) (by omega) O_u6
  refine pc_wA ?_; intro p_h11 q_h11 h11 E_h11
  obtain ⟨x_h11, y_h11, z_h11⟩ := w_nd E_h11 (by decide)
  have F4 : Fr h h11 n0 := fr_tr F2 (fr_w (n := n0) E_h11 (by decide) (by omega) (by omega) (gi_o E_h11 (by decide))) (by omega)
  have O5 : ON h11 u6.1 11 u10.1 (-1) (-1) (-1) (h 160 23) 0 := on_w0 E_h11 O3
  have N6 : h11 160 9 = 0 → TE m h11 0 (RE m (a1 + 1)) (u6.2 160 22) (u10.2 160 22) u10.1 := fun y => te_w E_h11 (by omega) (by omega) (by omega) (P_u10.2 (by omega))
  refine pc_if (fun C7 => ?_) (fun C7 => ?_)
  · skip
    unfold qj_X13_plain_89
    refine pc_sv pc_sign_ ?_; intro u2 P_u2
    have S_u2 := P_u2.1
    have z_u2 := S_u2.1; have c_u2 := S_u2.2.2.1
    have F8 : Fr h u2 n0 := fr_tr F4 (sm_fr (n := n0) S_u2) (by omega)
    have O9 : ON u2 u6.1 11 u10.1 (-1) (-1) (-1) (h 160 23) 0 := on_sm S_u2 O5
    have N10 : u2 160 9 = 0 → TE m u2 0 (RE m (a1 + 1)) (u6.2 160 22) (u10.2 160 22) u10.1 := fun y => te_sm S_u2 (by omega) (N6 (S_u2.2.1 y))
    have N11 : u2 160 9 = 0 → False := fun y => C7 (S_u2.2.1 y)
    exact pc_ret ⟨F8, fun y => (N11 y).elim⟩
  · skip
    refine pc_sv pc_isSign ?_; intro u15 b_u15
    refine pc_if (fun C12 => ?_) (fun C12 => ?_)
    · skip
      unfold qj_X13_plain_89
      refine pc_sv pc_sign_ ?_; intro u2 P_u2
      have S_u2 := P_u2.1
      have z_u2 := S_u2.1; have c_u2 := S_u2.2.2.1
      have F13 : Fr h u2 n0 := fr_tr F4 (sm_fr (n := n0) S_u2) (by omega)
      have O14 : ON u2 u6.1 11 u10.1 (-1) (-1) (-1) (h 160 23) 0 := on_sm S_u2 O5
      have N15 : u2 160 9 = 0 → TE m u2 0 (RE m (a1 + 1)) (u6.2 160 22) (u10.2 160 22) u10.1 := fun y => te_sm S_u2 (by omega) (N6 (S_u2.2.1 y))
      refine pc_ret ⟨F13, fun y => ?_⟩
      have y : u2 160 9 = 0 := y
      have A16 := P_u2.2 y
      show u6.1 = n0 ∧ u2 169 n0.toNat = h 160 23 ∧ (u2 167 n0.toNat = 2 → h 160 23 + 2 ≤ u2 160 23) ∧ u2 173 n0.toNat = -1 ∧ TE m u2 2 (2 * (40 - a1) + 1) n0 (u2 160 22) u6.1
      have on0 := O14
      have en0 : u6.1 = n0 := by omega
      rw [en0] at on0
      refine ⟨en0, on0.2.2.2.2.2.1.trans (by omega), fun z => ?_, on0.2.2.2.2.1, ?_⟩
      · rw [on0.1] at z; omega
      · skip
        exact on_one O14 (by omega) ⟨by omega, by omega, by omega, by omega⟩ (te_wd (N15 y) (by omega) (by omega) (by omega) (by omega))
    · skip
      refine pc_wA ?_; intro p_h17 q_h17 h17 E_h17
      obtain ⟨x_h17, y_h17, z_h17⟩ := w_nd E_h17 (by decide)
      have F17 : Fr h h17 n0 := fr_tr F4 (fr_w (n := n0) E_h17 (by decide) (by omega) (by omega) (gi_7 E_h17 (by rw [O5.1]; omega))) (by omega)
      have O18 : ON h17 u6.1 12 u10.1 (-1) (-1) (-1) (h 160 23) 0 := on_wk E_h17 O5
      have N19 : h17 160 9 = 0 → TE m h17 0 (RE m (a1 + 1)) (u6.2 160 22) (u10.2 160 22) u10.1 := fun y => te_w E_h17 (by omega) (by omega) (by omega) (N6 (by omega))
      refine pc_wA ?_; intro p_h20 q_h20 h20 E_h20
      obtain ⟨x_h20, y_h20, z_h20⟩ := w_nd E_h20 (by decide)
      have F20 : Fr h h20 n0 := fr_tr F17 (fr_w (n := n0) E_h20 (by decide) (by omega) (by omega) (gi_o E_h20 (by decide))) (by omega)
      have O21 : ON h20 u6.1 12 u10.1 (-1) (-1) (-1) (h 160 23) 0 := on_wo E_h20 (by decide) O18
      have N22 : h20 160 9 = 0 → TE m h20 0 (RE m (a1 + 1)) (u6.2 160 22) (u10.2 160 22) u10.1 := fun y => te_w E_h20 (by omega) (by omega) (by omega) (N19 (by omega))
      refine pc_add (by omega) ?_; intro v22 e_v22
      refine pc_xl ?_; intro h23 E_h23
      obtain ⟨S_h23, c_h23, f_h23⟩ := sm_cur E_h23 (by omega)
      have z_h23 := S_h23.1
      have F23 : Fr h h23 n0 := fr_tr F20 (sm_fr (n := n0) S_h23) (by omega)
      have O24 : ON h23 u6.1 12 u10.1 (-1) (-1) (-1) (h 160 23) 0 := on_sm S_h23 O21
      have N25 : h23 160 9 = 0 → TE m h23 0 (RE m (a1 + 1)) (u6.2 160 22) (u10.2 160 22) u10.1 := fun y => te_sm S_h23 (by omega) (N22 (S_h23.2.1 y))
      refine pc_add (by omega) ?_; intro v25 e_v25
      subst e_v25
      refine pc_sv (ge_expression (nn := nn) hm (a1 + 1) h23 (by omega) (by omega) (by omega)) ?_; intro u27 P_u27
      have F_u27 := P_u27.1; have z_u27 := F_u27.1.1; have c_u27 := F_u27.1.2.2
      have k_u27 := re_le (m := m) (d := 1) (d2 := (a1 + 1)) (by omega)
      have F26 : Fr h u27.2 n0 := fr_tr F23 F_u27 (by omega)
      have O27 : ON u27.2 u6.1 12 u10.1 (-1) (-1) (-1) (h 160 23) 0 := on_F F_u27 (by omega) (by omega) O24
      have N28 : u27.2 160 9 = 0 → TE m u27.2 0 (RE m (a1 + 1)) (u6.2 160 22) (u10.2 160 22) u10.1 := fun y => te_F F_u27 (by omega) (by omega) (N25 (F_u27.1.2.1 y))
      refine pc_wA ?_; intro p_h28 q_h28 h28 E_h28
      obtain ⟨x_h28, y_h28, z_h28⟩ := w_nd E_h28 (by decide)
      have F29 : Fr h h28 n0 := fr_tr F26 (fr_w (n := n0) E_h28 (by decide) (by omega) (by omega) (gi_o E_h28 (by decide))) (by omega)
      have O30 : ON h28 u6.1 12 u10.1 u27.1 (-1) (-1) (h 160 23) 0 := on_w1 E_h28 O27
      have N31 : h28 160 9 = 0 → TE m h28 0 (RE m (a1 + 1)) (u6.2 160 22) (u10.2 160 22) u10.1 := fun y => te_w E_h28 (by omega) (by omega) (by omega) (N28 (by omega))
      have N32 : h28 160 9 = 0 → TE m h28 0 (RE m (a1 + 1)) (h23 160 22) (u27.2 160 22) u27.1 := fun y => te_w E_h28 (by omega) (by omega) (by omega) (P_u27.2 (by omega))
      unfold qj_X13_plain_89
      refine pc_sv pc_sign_ ?_; intro u2 P_u2
      have S_u2 := P_u2.1
      have z_u2 := S_u2.1; have c_u2 := S_u2.2.2.1
      have F33 : Fr h u2 n0 := fr_tr F29 (sm_fr (n := n0) S_u2) (by omega)
      have O34 : ON u2 u6.1 12 u10.1 u27.1 (-1) (-1) (h 160 23) 0 := on_sm S_u2 O30
      have N35 : u2 160 9 = 0 → TE m u2 0 (RE m (a1 + 1)) (u6.2 160 22) (u10.2 160 22) u10.1 := fun y => te_sm S_u2 (by omega) (N31 (S_u2.2.1 y))
      have N36 : u2 160 9 = 0 → TE m u2 0 (RE m (a1 + 1)) (h23 160 22) (u27.2 160 22) u27.1 := fun y => te_sm S_u2 (by omega) (N32 (S_u2.2.1 y))
      refine pc_ret ⟨F33, fun y => ?_⟩
      have y : u2 160 9 = 0 := y
      have A37 := P_u2.2 y
      show u6.1 = n0 ∧ u2 169 n0.toNat = h 160 23 ∧ (u2 167 n0.toNat = 2 → h 160 23 + 2 ≤ u2 160 23) ∧ u2 173 n0.toNat = -1 ∧ TE m u2 2 (2 * (40 - a1) + 1) n0 (u2 160 22) u6.1
      have on0 := O34
      have en0 : u6.1 = n0 := by omega
      rw [en0] at on0
      refine ⟨en0, on0.2.2.2.2.2.1.trans (by omega), fun z => ?_, on0.2.2.2.2.1, ?_⟩
      · rw [on0.1] at z; omega
      · skip
        exact on_ass O34 (by omega) ⟨by omega, by omega, by omega, by omega⟩ (te_wd (N35 y) (by omega) (by omega) (by omega) (by omega)) (te_wd (N36 y) (by omega) (by omega) (by omega) (by omega))
/-- the row of statements of a block: the first hangs at one[l2] (l3 = -1), or the next at next[l3] -/
def PB (m : Int) (K l2 l3 : Int) (h : ms_M) (u : Int × ms_M) : Prop :=
  (¬ h 160 9 = 0 → Fr h u.2 (h 160 22) ∧ ¬ u.2 160 9 = 0) ∧
  (l3 = -1 → h 170 l2.toNat = -1 → Fx h u.2 (h 160 22) 170 l2.toNat ∧ (u.2 160 9 = 0 → u.1 = l2 ∧ TE m u.2 3 K (h 160 22) (u.2 160 22) (u.2 170 l2.toNat) ∧ (u.2 170 l2.toNat = -1 ∨ (u.2 170 l2.toNat = h 160 22 ∧ h 160 22 < u.2 160 22 ∧ u.2 169 (h 160 22).toNat = h 160 23)))) ∧
  (¬ l3 = -1 → 0 ≤ l3 → l3 < h 160 22 → h 173 l3.toNat = -1 → Fx h u.2 (h 160 22) 173 l3.toNat ∧ (u.2 160 9 = 0 → u.1 = l2 ∧ TE m u.2 3 K (h 160 22) (u.2 160 22) (u.2 173 l3.toNat) ∧ (u.2 173 l3.toNat = -1 ∨ (u.2 173 l3.toNat = h 160 22 ∧ h 160 22 < u.2 160 22 ∧ u.2 169 (h 160 22).toNat = h 160 23))))
theorem gb_79 {nn : Nat} {m : Int} {rc : tq_X13_block} {K l2 l3 : Int} {h : ms_M} : Pc (qj_X13_block_79 nn rc l2 h) (PB m K l2 l3 h) := by
  unfold qj_X13_block_79
  refine pc_sv pc_sign_ ?_; intro u2 P
  have S := P.1
  refine pc_ret ⟨fun z => ⟨sm_fr S, fun y => z (S.2.1 y)⟩, fun z z1 => ⟨fxx_fr (sm_fr S), fun y => ⟨rfl, ?_⟩⟩, fun z z0 z1 z2 => ⟨fxx_fr (sm_fr S), fun y => ⟨rfl, ?_⟩⟩⟩
  · have e : u2 170 l2.toNat = -1 := by rw [S.2.2.2 170 _ (by decide) (by decide)]; exact z1
    exact ⟨te_i3 (.inl e), .inl e⟩
  · have e : u2 173 l3.toNat = -1 := by rw [S.2.2.2 173 _ (by decide) (by decide)]; exact z2
    exact ⟨te_i3 (.inl e), .inl e⟩
/-- one statement more: it stands at n = nodes of h, what hangs at its next is known -/
theorem gb_s {m K l2 n : Int} {h g : ms_M} {u8 v : Int × ms_M} {c0 x0 : Nat} (hn : h 160 22 = n) (h0 : 0 ≤ n) (P : CS m K h u8) (W : g = up_M u8.2 c0 x0 u8.1) (hc : c0 = 170 ∨ c0 = 173) (hx : (x0 : Int) < n) (Q : PB m K l2 u8.1 g v) : Fx h v.2 n c0 x0 ∧ (v.2 160 9 = 0 → v.1 = l2 ∧ TE m v.2 3 K n (v.2 160 22) (v.2 c0 x0) ∧ (v.2 c0 x0 = -1 ∨ (v.2 c0 x0 = n ∧ n < v.2 160 22 ∧ v.2 169 n.toNat = h 160 23))) := by
  have g22 : g 160 22 = u8.2 160 22 := by rw [W]; exact up_n (by omega)
  have g23 : g 160 23 = u8.2 160 23 := by rw [W]; exact up_n (by omega)
  have g9 : g 160 9 = u8.2 160 9 := by rw [W]; exact up_n (by omega)
  have F8 := P.1
  rw [hn] at F8
  have c8 := F8.1
  have gw : GI u8.2 → GI g := gi_o (j := (x0 : Int)) (by rw [Int.toNat_natCast]; exact W) (by omega)
  by_cases y8 : u8.2 160 9 = 0
  · obtain ⟨w1, w2, w3, w5, w4⟩ := P.2 y8
    rw [hn] at w1 w2 w3 w4 w5
    rw [w1] at w4
    have hv : n < u8.2 160 22 := (te_o2 w4).1.2.2.1
    have gz : g 173 u8.1.toNat = -1 := by rw [W, up_n (by omega), w1]; exact w5
    obtain ⟨X, Y⟩ := Q.2.2 (by omega) (by omega) (by omega) gz
    rw [g22, w1] at X Y
    have X1 := X.1
    have A : ∀ (c x : Nat), 167 ≤ c → c ≤ 177 → (x : Int) < u8.2 160 22 → ¬ (c = 173 ∧ x = n.toNat) → ¬ (c = c0 ∧ x = x0) → v.2 c x = u8.2 c x := fun c x h1 h2 h3 h4 h5 => by rw [X.2.1 c x h1 h2 h3 h4, W, up_n h5]
    refine ⟨⟨⟨by omega, fun y => c8.2.1 (by have := X1.2.1 y; omega), by omega⟩, fun c x h1 h2 h3 h4 => by rw [A c x h1 h2 (by omega) (by omega) h4, F8.2.1 c x h1 h2 h3], fun w => X.2.2 (gw (F8.2.2 w))⟩, fun y => ?_⟩
    obtain ⟨Y1, Y2, Y3⟩ := Y y
    rw [g23] at Y3
    have vb : v.2 169 n.toNat = h 160 23 := by rw [A 169 _ (by decide) (by decide) (by omega) (by omega) (by omega)]; exact w2
    have vk : v.2 167 n.toNat = u8.2 167 n.toNat := A 167 _ (by decide) (by decide) (by omega) (by omega) (by omega)
    have vc : v.2 c0 x0 = n := by rw [X.2.1 c0 x0 (by omega) (by omega) (by omega) (by omega), W, up_s, w1]
    have T : TE m v.2 2 K n (u8.2 160 22) n := te_2x w4 h0 (fun c x h1 h2 h3 h4 h5 => A c x h1 h2 h4 h5 (by omega))
    refine ⟨Y1, ?_, .inr ⟨vc, by omega, vb⟩⟩
    rw [vc]
    refine te_i3 (.inr ⟨⟨h0, by omega, by omega⟩, ?_⟩)
    rcases Y3 with z | ⟨z1, z2, z3⟩
    · exact .inl ⟨z, te_wd T (by omega) h0 (by omega) (by omega)⟩
    · refine .inr ?_
      rw [z1] at Y2
      rw [z1, vb, vk, z3]
      exact ⟨⟨hv, z2⟩, T, Y2, c8.2.2, w3⟩
  · obtain ⟨X, Y⟩ := Q.1 (by omega)
    rw [g22] at X
    have X1 := X.1
    exact ⟨⟨⟨by omega, fun y => absurd y Y, by omega⟩, fun c x h1 h2 h3 h4 => by rw [X.2.1 c x h1 h2 (by omega), W, up_n h4, F8.2.1 c x h1 h2 h3], fun w => X.2.2 (gw (F8.2.2 w))⟩, fun y => absurd y Y⟩
theorem gl_block {nn : Nat} {m : Int} {rc : tq_X13_block} (G : GS m rc) : ∀ (k : Nat) (l1 l2 l3 : Int) (h : ms_M), 0 ≤ l1 → l1 ≤ 40 → (0 ≤ l2 ∧ l2 < h 160 22) → Pc (qw_X13_block_22 nn rc k l1 l2 l3 h) (PB m (2 * (40 - l1) + 1) l2 l3 h) := by
  intro k
  induction k with
  | zero => intros; exact pc_none
  | succ k ih =>
    intro l1 l2 l3 h a0 a1 a2
    unfold qw_X13_block_22
    refine pc_if (fun C => gb_79) (fun C => ?_)
    refine pc_se ?_; intro u6 _
    refine pc_if (fun C2 => gb_79) (fun C2 => ?_)
    refine pc_sv (G.2 l1 h a0 a1 (by omega)) ?_; intro u8 P8
    have F8 := P8.1; have z8 := F8.1.1
    refine pc_if (fun C3 => ?_) (fun C3 => ?_)
    · refine pc_wA ?_; intro p10 q10 h10 E10
      obtain ⟨x10, y10, w10⟩ := w_nd E10 (by decide)
      refine pc_imp (ih l1 l2 u8.1 h10 a0 a1 (by omega)) (fun v Q => ⟨fun z => absurd z C, fun z => absurd z C3, fun _ c0 c1 c2 => ?_⟩)
      exact gb_s rfl (by omega) P8 E10 (.inr rfl) (by omega) Q
    · have z3 : l3 = -1 := Classical.not_not.mp C3
      refine pc_wA ?_; intro p10 q10 h10 E10
      obtain ⟨x10, y10, w10⟩ := w_nd E10 (by decide)
      refine pc_imp (ih l1 l2 u8.1 h10 a0 a1 (by omega)) (fun v Q => ⟨fun z => absurd z C, fun _ c2 => ?_, fun z => absurd z3 z⟩)
      exact gb_s rfl (by omega) P8 E10 (.inl rfl) (by omega) Q
theorem go_block {nn : Nat} {m : Int} (_ : m = 0 ∨ m = 1) {rc : tq_X13_block} (G : GS m rc) {a1 : Int} {h : ms_M} (ha : 0 ≤ a1 ∧ a1 ≤ 40) (_ : 0 ≤ h 160 22) : Pc (qo_X13_block nn rc a1 h) (CS m (2 * (40 - a1) + 2) h) := by
  unfold qo_X13_block
  refine pc_sv pc_ad ?_; intro u19 A
  obtain ⟨⟨b0, b1, b2, b3, b4, b5, _⟩, F19, O19⟩ := A
  refine pc_sv pc_sign_ ?_; intro u21 P21
  have S := P21.1; have s1 := S.1; have s2 := S.2.2.1
  have O21 := on_sm S O19
  refine pc_imp (gl_block G nn a1 u19.1 (-1) u21 ha.1 ha.2 (by omega)) (fun v Q => ?_)
  obtain ⟨X, Y⟩ := Q.2.1 rfl O21.2.1
  have X1 := X.1
  rw [s1, b3] at X Y
  rw [b2] at X Y
  rw [b2] at O21
  have A : ∀ (c x : Nat), 167 ≤ c → c ≤ 177 → (x : Int) < h 160 22 + 1 → ¬ (c = 170 ∧ x = (h 160 22).toNat) → v.2 c x = u21 c x := fun c x h1 h2 h3 h4 => X.2.1 c x h1 h2 h3 h4
  refine ⟨⟨⟨by omega, fun y => by have := X1.2.1 y; have := S.2.1 this; omega, by omega⟩, fun c x h1 h2 h3 => by rw [A c x h1 h2 (by omega) (by omega), S.2.2.2 c x h1 h2, F19.2.1 c x h1 h2 h3], fun w => X.2.2 (gi_sm S (F19.2.2 w))⟩, fun y => ?_⟩
  obtain ⟨Y1, Y2, Y3⟩ := Y y
  have vk : v.2 167 (h 160 22).toNat = 1 := by rw [A 167 _ (by decide) (by decide) (by omega) (by omega)]; exact O21.1
  have vb : v.2 169 (h 160 22).toNat = h 160 23 := by rw [A 169 _ (by decide) (by decide) (by omega) (by omega)]; exact O21.2.2.2.2.2.1
  have vx : v.2 173 (h 160 22).toNat = -1 := by rw [A 173 _ (by decide) (by decide) (by omega) (by omega)]; exact O21.2.2.2.2.1
  refine ⟨Y1, vb, fun z => by omega, vx, ?_⟩
  rw [Y1]
  refine te_i2 ⟨⟨b0, by omega, by omega, by omega⟩, .inl ⟨vk, ?_, te_wd Y2 (by omega) (by omega) (by omega) (by omega)⟩⟩
  rcases Y3 with z | ⟨z1, z2, z3⟩
  · exact .inl z
  · refine .inr ⟨by omega, by omega, ?_⟩
    rw [z1, z3, vb]
    omega

theorem go_statement {nn : Nat} {m : Int} (hm : m = 0 ∨ m = 1) {rc : tq_X13_block} (G : GS m rc) {a1 : Int} {h : ms_M} (ha : 0 ≤ a1 ∧ a1 ≤ 40) (hh : 0 ≤ h 160 22) : Pc (qo_X13_statement nn rc a1 h) (CS m (2 * (40 - a1) + 1) h) := by
  unfold qo_X13_statement CS
  generalize hn0 : h 160 22 = n0
  have F0 : Fr h h n0 := fr_rf
  have r1 := re_1 (m := m) (d := 1) (by decide)
  refine pc_sv pc_isDeep ?_; intro u71 P_u71
  rcases P_u71.2 with ⟨d1, d2, d3, d4⟩ | ⟨d1, d2⟩
  · rw [if_pos d1, d4]
    refine pc_sv pc_isSign ?_; intro u75 b_u75
    refine pc_if (fun C1 => ?_) (fun C1 => ?_)
    · skip
      refine pc_se ?_; intro u77 _
      refine pc_if (fun C2 => ?_) (fun C2 => ?_)
      · skip
        refine pc_rA ?_; intro p_v80 q_v80 v80 e_v80
        refine pc_if (fun C3 => ?_) (fun C3 => ?_)
        · skip
          refine pc_rA ?_; intro p_v83 q_v83 v83 e_v83
          refine pc_if (fun C4 => ?_) (fun C4 => ?_)
          · skip
            unfold qj_X13_statement_467
            refine pc_rA ?_; intro p_v15 q_v15 v15 e_v15
            refine pc_if (fun C5 => ?_) (fun C5 => ?_)
            · skip
              unfold qj_X13_statement_487
              refine pc_sv pc_ad ?_; intro u7 A_u7
              obtain ⟨⟨a0_u7, a1_u7, a2_u7, a3_u7, a4_u7, a5_u7, a6_u7⟩, F_u7, O_u7⟩ := A_u7
              have F6 : Fr h u7.2 n0 := fr_tr F0 F_u7 (by omega)
              refine pc_add (by omega) ?_; intro v9 e_v9
              refine pc_xl ?_; intro h10 E_h10
              obtain ⟨S_h10, c_h10, f_h10⟩ := sm_cur E_h10 (by omega)
              have z_h10 := S_h10.1
              have F7 : Fr h h10 n0 := fr_tr F6 (sm_fr (n := n0) S_h10) (by omega)
              have O8 : ON h10 u7.1 6 (-1) (-1) (-1) (-1) (h 160 23) 0 := on_sm S_h10 O_u7
              refine pc_sv pc_sign_ ?_; intro u12 P_u12
              have S_u12 := P_u12.1
              have z_u12 := S_u12.1; have c_u12 := S_u12.2.2.1
              have F9 : Fr h u12 n0 := fr_tr F7 (sm_fr (n := n0) S_u12) (by omega)
              have O10 : ON u12 u7.1 6 (-1) (-1) (-1) (-1) (h 160 23) 0 := on_sm S_u12 O8
              refine pc_ret ⟨F9, fun y => ?_⟩
              have y : u12 160 9 = 0 := y
              have A11 := P_u12.2 y
              show u7.1 = n0 ∧ u12 169 n0.toNat = h 160 23 ∧ (u12 167 n0.toNat = 2 → h 160 23 + 2 ≤ u12 160 23) ∧ u12 173 n0.toNat = -1 ∧ TE m u12 2 (2 * (40 - a1) + 1) n0 (u12 160 22) u7.1
              have on0 := O10
              have en0 : u7.1 = n0 := by omega
              rw [en0] at on0
              refine ⟨en0, on0.2.2.2.2.2.1.trans (by omega), fun z => ?_, on0.2.2.2.2.1, ?_⟩
              · rw [on0.1] at z; omega
              · skip
                exact on_jump O10 (by omega) ⟨by omega, by omega, by omega, by omega⟩
            · skip
              unfold qj_X13_statement_487
              refine pc_sv pc_ad ?_; intro u7 A_u7
              obtain ⟨⟨a0_u7, a1_u7, a2_u7, a3_u7, a4_u7, a5_u7, a6_u7⟩, F_u7, O_u7⟩ := A_u7
              have F12 : Fr h u7.2 n0 := fr_tr F0 F_u7 (by omega)
              refine pc_add (by omega) ?_; intro v9 e_v9
              refine pc_xl ?_; intro h10 E_h10
              obtain ⟨S_h10, c_h10, f_h10⟩ := sm_cur E_h10 (by omega)
              have z_h10 := S_h10.1
              have F13 : Fr h h10 n0 := fr_tr F12 (sm_fr (n := n0) S_h10) (by omega)
              have O14 : ON h10 u7.1 5 (-1) (-1) (-1) (-1) (h 160 23) 0 := on_sm S_h10 O_u7
              refine pc_sv pc_sign_ ?_; intro u12 P_u12
              have S_u12 := P_u12.1
              have z_u12 := S_u12.1; have c_u12 := S_u12.2.2.1
              have F15 : Fr h u12 n0 := fr_tr F13 (sm_fr (n := n0) S_u12) (by omega)
              have O16 : ON u12 u7.1 5 (-1) (-1) (-1) (-1) (h 160 23) 0 := on_sm S_u12 O14
              refine pc_ret ⟨F15, fun y => ?_⟩
              have y : u12 160 9 = 0 := y
              have A17 := P_u12.2 y
              show u7.1 = n0 ∧ u12 169 n0.toNat = h 160 23 ∧ (u12 167 n0.toNat = 2 → h 160 23 + 2 ≤ u12 160 23) ∧ u12 173 n0.toNat = -1 ∧ TE m u12 2 (2 * (40 - a1) + 1) n0 (u12 160 22) u7.1
              have on0 := O16
              have en0 : u7.1 = n0 := by omega
              rw [en0] at on0
              refine ⟨en0, on0.2.2.2.2.2.1.trans (by omega), fun z => ?_, on0.2.2.2.2.1, ?_⟩
              · rw [on0.1] at z; omega
              · skip
                exact on_jump O16 (by omega) ⟨by omega, by omega, by omega, by omega⟩
          · skip
            refine pc_if (fun C18 => ?_) (fun C18 => ?_)
            · skip
              unfold qj_X13_statement_467
              refine pc_rA ?_; intro p_v15 q_v15 v15 e_v15
              refine pc_if (fun C19 => ?_) (fun C19 => ?_)
              · skip
                unfold qj_X13_statement_487
                refine pc_sv pc_ad ?_; intro u7 A_u7
                obtain ⟨⟨a0_u7, a1_u7, a2_u7, a3_u7, a4_u7, a5_u7, a6_u7⟩, F_u7, O_u7⟩ := A_u7
                have F20 : Fr h u7.2 n0 := fr_tr F0 F_u7 (by omega)
                refine pc_add (by omega) ?_; intro v9 e_v9
                refine pc_xl ?_; intro h10 E_h10
                obtain ⟨S_h10, c_h10, f_h10⟩ := sm_cur E_h10 (by omega)
                have z_h10 := S_h10.1
                have F21 : Fr h h10 n0 := fr_tr F20 (sm_fr (n := n0) S_h10) (by omega)
                have O22 : ON h10 u7.1 6 (-1) (-1) (-1) (-1) (h 160 23) 0 := on_sm S_h10 O_u7
                refine pc_sv pc_sign_ ?_; intro u12 P_u12
                have S_u12 := P_u12.1
                have z_u12 := S_u12.1; have c_u12 := S_u12.2.2.1
                have F23 : Fr h u12 n0 := fr_tr F21 (sm_fr (n := n0) S_u12) (by omega)
                have O24 : ON u12 u7.1 6 (-1) (-1) (-1) (-1) (h 160 23) 0 := on_sm S_u12 O22
                refine pc_ret ⟨F23, fun y => ?_⟩
                have y : u12 160 9 = 0 := y
                have A25 := P_u12.2 y
                show u7.1 = n0 ∧ u12 169 n0.toNat = h 160 23 ∧ (u12 167 n0.toNat = 2 → h 160 23 + 2 ≤ u12 160 23) ∧ u12 173 n0.toNat = -1 ∧ TE m u12 2 (2 * (40 - a1) + 1) n0 (u12 160 22) u7.1
                have on0 := O24
                have en0 : u7.1 = n0 := by omega
                rw [en0] at on0
                refine ⟨en0, on0.2.2.2.2.2.1.trans (by omega), fun z => ?_, on0.2.2.2.2.1, ?_⟩
                · rw [on0.1] at z; omega
                · skip
                  exact on_jump O24 (by omega) ⟨by omega, by omega, by omega, by omega⟩
              · skip
                unfold qj_X13_statement_487
                refine pc_sv pc_ad ?_; intro u7 A_u7
                obtain ⟨⟨a0_u7, a1_u7, a2_u7, a3_u7, a4_u7, a5_u7, a6_u7⟩, F_u7, O_u7⟩ := A_u7
                have F26 : Fr h u7.2 n0 := fr_tr F0 F_u7 (by omega)
                refine pc_add (by omega) ?_; intro v9 e_v9
                refine pc_xl ?_; intro h10 E_h10
                obtain ⟨S_h10, c_h10, f_h10⟩ := sm_cur E_h10 (by omega)
                have z_h10 := S_h10.1
                have F27 : Fr h h10 n0 := fr_tr F26 (sm_fr (n := n0) S_h10) (by omega)
                have O28 : ON h10 u7.1 5 (-1) (-1) (-1) (-1) (h 160 23) 0 := on_sm S_h10 O_u7
                refine pc_sv pc_sign_ ?_; intro u12 P_u12
                have S_u12 := P_u12.1
                have z_u12 := S_u12.1; have c_u12 := S_u12.2.2.1
                have F29 : Fr h u12 n0 := fr_tr F27 (sm_fr (n := n0) S_u12) (by omega)
                have O30 : ON u12 u7.1 5 (-1) (-1) (-1) (-1) (h 160 23) 0 := on_sm S_u12 O28
                refine pc_ret ⟨F29, fun y => ?_⟩
                have y : u12 160 9 = 0 := y
                have A31 := P_u12.2 y
                show u7.1 = n0 ∧ u12 169 n0.toNat = h 160 23 ∧ (u12 167 n0.toNat = 2 → h 160 23 + 2 ≤ u12 160 23) ∧ u12 173 n0.toNat = -1 ∧ TE m u12 2 (2 * (40 - a1) + 1) n0 (u12 160 22) u7.1
                have on0 := O30
                have en0 : u7.1 = n0 := by omega
                rw [en0] at on0
                refine ⟨en0, on0.2.2.2.2.2.1.trans (by omega), fun z => ?_, on0.2.2.2.2.1, ?_⟩
                · rw [on0.1] at z; omega
                · skip
                  exact on_jump O30 (by omega) ⟨by omega, by omega, by omega, by omega⟩
            · skip
              refine pc_if (fun C32 => ?_) (fun C32 => ?_)
              · skip
                refine pc_sv pc_ad ?_; intro u86 A_u86
                obtain ⟨⟨a0_u86, a1_u86, a2_u86, a3_u86, a4_u86, a5_u86, a6_u86⟩, F_u86, O_u86⟩ := A_u86
                have F33 : Fr h u86.2 n0 := fr_tr F0 F_u86 (by omega)
                refine pc_add (by omega) ?_; intro v88 e_v88
                refine pc_xl ?_; intro h89 E_h89
                obtain ⟨S_h89, c_h89, f_h89⟩ := sm_cur E_h89 (by omega)
                have z_h89 := S_h89.1
                have F34 : Fr h h89 n0 := fr_tr F33 (sm_fr (n := n0) S_h89) (by omega)
                have O35 : ON h89 u86.1 3 (-1) (-1) (-1) (-1) (h 160 23) 0 := on_sm S_h89 O_u86
                refine pc_sv pc_sign_ ?_; intro u91 P_u91
                have S_u91 := P_u91.1
                have z_u91 := S_u91.1; have c_u91 := S_u91.2.2.1
                have F36 : Fr h u91 n0 := fr_tr F34 (sm_fr (n := n0) S_u91) (by omega)
                have O37 : ON u91 u86.1 3 (-1) (-1) (-1) (-1) (h 160 23) 0 := on_sm S_u91 O35
                refine pc_add (by omega) ?_; intro v93 e_v93
                subst e_v93
                refine pc_sv (ge_expression (nn := nn) hm (a1 + 1) u91 (by omega) (by omega) (by omega)) ?_; intro u95 P_u95
                have F_u95 := P_u95.1; have z_u95 := F_u95.1.1; have c_u95 := F_u95.1.2.2
                have k_u95 := re_le (m := m) (d := 1) (d2 := (a1 + 1)) (by omega)
                have F38 : Fr h u95.2 n0 := fr_tr F36 F_u95 (by omega)
                have O39 : ON u95.2 u86.1 3 (-1) (-1) (-1) (-1) (h 160 23) 0 := on_F F_u95 (by omega) (by omega) O37
                have N40 : u95.2 160 9 = 0 → u91 160 23 = h89 160 23 + 1 ∧ h89 160 23 < 3002 := fun y => P_u91.2 (F_u95.1.2.1 y)
                refine pc_wA ?_; intro p_h96 q_h96 h96 E_h96
                obtain ⟨x_h96, y_h96, z_h96⟩ := w_nd E_h96 (by decide)
                have F41 : Fr h h96 n0 := fr_tr F38 (fr_w (n := n0) E_h96 (by decide) (by omega) (by omega) (gi_o E_h96 (by decide))) (by omega)
                have O42 : ON h96 u86.1 3 u95.1 (-1) (-1) (-1) (h 160 23) 0 := on_w0 E_h96 O39
                have N43 : h96 160 9 = 0 → u91 160 23 = h89 160 23 + 1 ∧ h89 160 23 < 3002 := fun y => N40 (by omega)
                have N44 : h96 160 9 = 0 → TE m h96 0 (RE m (a1 + 1)) (u91 160 22) (u95.2 160 22) u95.1 := fun y => te_w E_h96 (by omega) (by omega) (by omega) (P_u95.2 (by omega))
                refine pc_sv pc_sign_ ?_; intro u98 P_u98
                have S_u98 := P_u98.1
                have z_u98 := S_u98.1; have c_u98 := S_u98.2.2.1
                have F45 : Fr h u98 n0 := fr_tr F41 (sm_fr (n := n0) S_u98) (by omega)
                have O46 : ON u98 u86.1 3 u95.1 (-1) (-1) (-1) (h 160 23) 0 := on_sm S_u98 O42
                have N47 : u98 160 9 = 0 → u91 160 23 = h89 160 23 + 1 ∧ h89 160 23 < 3002 := fun y => N43 (S_u98.2.1 y)
                have N48 : u98 160 9 = 0 → TE m u98 0 (RE m (a1 + 1)) (u91 160 22) (u95.2 160 22) u95.1 := fun y => te_sm S_u98 (by omega) (N44 (S_u98.2.1 y))
                unfold qj_X13_statement_310
                refine pc_add (by omega) ?_; intro v31 e_v31
                subst e_v31
                refine pc_sv (G.2 (a1 + 1) u98 (by omega) (by omega) (by omega)) ?_; intro u33 P_u33
                have F_u33 := P_u33.1; have z_u33 := F_u33.1.1; have c_u33 := F_u33.1.2.2
                have F49 : Fr h u33.2 n0 := fr_tr F45 F_u33 (by omega)
                have O50 : ON u33.2 u86.1 3 u95.1 (-1) (-1) (-1) (h 160 23) 0 := on_F F_u33 (by omega) (by omega) O46
                have N51 : u33.2 160 9 = 0 → u91 160 23 = h89 160 23 + 1 ∧ h89 160 23 < 3002 := fun y => N47 (F_u33.1.2.1 y)
                have N52 : u33.2 160 9 = 0 → TE m u33.2 0 (RE m (a1 + 1)) (u91 160 22) (u95.2 160 22) u95.1 := fun y => te_F F_u33 (by omega) (by omega) (N48 (F_u33.1.2.1 y))
                have N53 : u33.2 160 9 = 0 → u98 160 23 = h96 160 23 + 1 ∧ h96 160 23 < 3002 := fun y => P_u98.2 (F_u33.1.2.1 y)
                refine pc_wA ?_; intro p_h34 q_h34 h34 E_h34
                obtain ⟨x_h34, y_h34, z_h34⟩ := w_nd E_h34 (by decide)
                have F54 : Fr h h34 n0 := fr_tr F49 (fr_w (n := n0) E_h34 (by decide) (by omega) (by omega) (gi_o E_h34 (by decide))) (by omega)
                have O55 : ON h34 u86.1 3 u95.1 u33.1 (-1) (-1) (h 160 23) 0 := on_w1 E_h34 O50
                have N56 : h34 160 9 = 0 → u91 160 23 = h89 160 23 + 1 ∧ h89 160 23 < 3002 := fun y => N51 (by omega)
                have N57 : h34 160 9 = 0 → TE m h34 0 (RE m (a1 + 1)) (u91 160 22) (u95.2 160 22) u95.1 := fun y => te_w E_h34 (by omega) (by omega) (by omega) (N52 (by omega))
                have N58 : h34 160 9 = 0 → u98 160 23 = h96 160 23 + 1 ∧ h96 160 23 < 3002 := fun y => N53 (by omega)
                have N59 : h34 160 9 = 0 → TB m h34 (2 * (40 - (a1 + 1)) + 1) u33.1 (u98 160 22) (u33.2 160 22) (u98 160 23) := fun y => tb_w E_h34 (by omega) (by omega) (by omega) ((cs_tb P_u33) (by omega))
                refine pc_if (fun C60 => ?_) (fun C60 => ?_)
                · skip
                  exact pc_ret ⟨F54, fun y => (C60 y).elim⟩
                · skip
                  refine pc_sv pc_isWord ?_; intro u38 b_u38
                  refine pc_if (fun C61 => ?_) (fun C61 => ?_)
                  · skip
                    refine pc_ret ⟨F54, fun y => ?_⟩
                    have y : h34 160 9 = 0 := y
                    have A62 := N56 y
                    have A63 := N58 y
                    show u86.1 = n0 ∧ h34 169 n0.toNat = h 160 23 ∧ (h34 167 n0.toNat = 2 → h 160 23 + 2 ≤ h34 160 23) ∧ h34 173 n0.toNat = -1 ∧ TE m h34 2 (2 * (40 - a1) + 1) n0 (h34 160 22) u86.1
                    have on0 := O55
                    have en0 : u86.1 = n0 := by omega
                    rw [en0] at on0
                    refine ⟨en0, on0.2.2.2.2.2.1.trans (by omega), fun z => ?_, on0.2.2.2.2.1, ?_⟩
                    · rw [on0.1] at z; omega
                    · skip
                      exact on_ch2 O55 (by omega) ⟨by omega, by omega, by omega, by omega⟩ (te_wd (N57 y) (by omega) (by omega) (by omega) (by omega)) (by have q := (tb_st (d := 2 * (40 - a1) + 1) (n := h34 160 22) (e := u86.1) (N59 y) (by omega) (by omega) (by omega) (by omega) (by rw [O55.2.2.2.2.2.1]; omega)); rw [O55.2.2.2.2.2.1] at q; exact q)
                  · skip
                    refine pc_add (by omega) ?_; intro v40 e_v40
                    refine pc_xl ?_; intro h41 E_h41
                    obtain ⟨S_h41, c_h41, f_h41⟩ := sm_cur E_h41 (by omega)
                    have z_h41 := S_h41.1
                    have F64 : Fr h h41 n0 := fr_tr F54 (sm_fr (n := n0) S_h41) (by omega)
                    have O65 : ON h41 u86.1 3 u95.1 u33.1 (-1) (-1) (h 160 23) 0 := on_sm S_h41 O55
                    have N66 : h41 160 9 = 0 → u91 160 23 = h89 160 23 + 1 ∧ h89 160 23 < 3002 := fun y => N56 (S_h41.2.1 y)
                    have N67 : h41 160 9 = 0 → TE m h41 0 (RE m (a1 + 1)) (u91 160 22) (u95.2 160 22) u95.1 := fun y => te_sm S_h41 (by omega) (N57 (S_h41.2.1 y))
                    have N68 : h41 160 9 = 0 → u98 160 23 = h96 160 23 + 1 ∧ h96 160 23 < 3002 := fun y => N58 (S_h41.2.1 y)
                    have N69 : h41 160 9 = 0 → TB m h41 (2 * (40 - (a1 + 1)) + 1) u33.1 (u98 160 22) (u33.2 160 22) (u98 160 23) := fun y => tb_sm S_h41 (by omega) (N59 (S_h41.2.1 y))
                    refine pc_add (by omega) ?_; intro v43 e_v43
                    subst e_v43
                    refine pc_sv (G.2 (a1 + 1) h41 (by omega) (by omega) (by omega)) ?_; intro u45 P_u45
                    have F_u45 := P_u45.1; have z_u45 := F_u45.1.1; have c_u45 := F_u45.1.2.2
                    have F70 : Fr h u45.2 n0 := fr_tr F64 F_u45 (by omega)
                    have O71 : ON u45.2 u86.1 3 u95.1 u33.1 (-1) (-1) (h 160 23) 0 := on_F F_u45 (by omega) (by omega) O65
                    have N72 : u45.2 160 9 = 0 → u91 160 23 = h89 160 23 + 1 ∧ h89 160 23 < 3002 := fun y => N66 (F_u45.1.2.1 y)
                    have N73 : u45.2 160 9 = 0 → TE m u45.2 0 (RE m (a1 + 1)) (u91 160 22) (u95.2 160 22) u95.1 := fun y => te_F F_u45 (by omega) (by omega) (N67 (F_u45.1.2.1 y))
                    have N74 : u45.2 160 9 = 0 → u98 160 23 = h96 160 23 + 1 ∧ h96 160 23 < 3002 := fun y => N68 (F_u45.1.2.1 y)
                    have N75 : u45.2 160 9 = 0 → TB m u45.2 (2 * (40 - (a1 + 1)) + 1) u33.1 (u98 160 22) (u33.2 160 22) (u98 160 23) := fun y => tb_F F_u45 (by omega) (by omega) (N69 (F_u45.1.2.1 y))
                    refine pc_wA ?_; intro p_h46 q_h46 h46 E_h46
                    obtain ⟨x_h46, y_h46, z_h46⟩ := w_nd E_h46 (by decide)
                    have F76 : Fr h h46 n0 := fr_tr F70 (fr_w (n := n0) E_h46 (by decide) (by omega) (by omega) (gi_o E_h46 (by decide))) (by omega)
                    have O77 : ON h46 u86.1 3 u95.1 u33.1 u45.1 (-1) (h 160 23) 0 := on_w2 E_h46 O71
                    have N78 : h46 160 9 = 0 → u91 160 23 = h89 160 23 + 1 ∧ h89 160 23 < 3002 := fun y => N72 (by omega)
                    have N79 : h46 160 9 = 0 → TE m h46 0 (RE m (a1 + 1)) (u91 160 22) (u95.2 160 22) u95.1 := fun y => te_w E_h46 (by omega) (by omega) (by omega) (N73 (by omega))
                    have N80 : h46 160 9 = 0 → u98 160 23 = h96 160 23 + 1 ∧ h96 160 23 < 3002 := fun y => N74 (by omega)
                    have N81 : h46 160 9 = 0 → TB m h46 (2 * (40 - (a1 + 1)) + 1) u33.1 (u98 160 22) (u33.2 160 22) (u98 160 23) := fun y => tb_w E_h46 (by omega) (by omega) (by omega) (N75 (by omega))
                    have N82 : h46 160 9 = 0 → TB m h46 (2 * (40 - (a1 + 1)) + 1) u45.1 (h41 160 22) (u45.2 160 22) (h41 160 23) := fun y => tb_w E_h46 (by omega) (by omega) (by omega) ((cs_tb P_u45) (by omega))
                    refine pc_ret ⟨F76, fun y => ?_⟩
                    have y : h46 160 9 = 0 := y
                    have A83 := N78 y
                    have A84 := N80 y
                    show u86.1 = n0 ∧ h46 169 n0.toNat = h 160 23 ∧ (h46 167 n0.toNat = 2 → h 160 23 + 2 ≤ h46 160 23) ∧ h46 173 n0.toNat = -1 ∧ TE m h46 2 (2 * (40 - a1) + 1) n0 (h46 160 22) u86.1
                    have on0 := O77
                    have en0 : u86.1 = n0 := by omega
                    rw [en0] at on0
                    refine ⟨en0, on0.2.2.2.2.2.1.trans (by omega), fun z => ?_, on0.2.2.2.2.1, ?_⟩
                    · rw [on0.1] at z; omega
                    · skip
                      exact on_ch3 O77 (by omega) ⟨by omega, by omega, by omega, by omega⟩ (te_wd (N79 y) (by omega) (by omega) (by omega) (by omega)) (by have q := (tb_st (d := 2 * (40 - a1) + 1) (n := h46 160 22) (e := u86.1) (N81 y) (by omega) (by omega) (by omega) (by omega) (by rw [O77.2.2.2.2.2.1]; omega)); rw [O77.2.2.2.2.2.1] at q; exact q) (by have q := (tb_st (d := 2 * (40 - a1) + 1) (n := h46 160 22) (e := u86.1) (N82 y) (by omega) (by omega) (by omega) (by omega) (by rw [O77.2.2.2.2.2.1]; omega)); rw [O77.2.2.2.2.2.1] at q; exact q)
              · skip
                refine pc_if (fun C85 => ?_) (fun C85 => ?_)
                · skip
                  refine pc_sv pc_ad ?_; intro u101 A_u101
                  obtain ⟨⟨a0_u101, a1_u101, a2_u101, a3_u101, a4_u101, a5_u101, a6_u101⟩, F_u101, O_u101⟩ := A_u101
                  have F86 : Fr h u101.2 n0 := fr_tr F0 F_u101 (by omega)
                  refine pc_add (by omega) ?_; intro v103 e_v103
                  refine pc_xl ?_; intro h104 E_h104
                  obtain ⟨S_h104, c_h104, f_h104⟩ := sm_cur E_h104 (by omega)
                  have z_h104 := S_h104.1
                  have F87 : Fr h h104 n0 := fr_tr F86 (sm_fr (n := n0) S_h104) (by omega)
                  have O88 : ON h104 u101.1 10 (-1) (-1) (-1) (-1) (h 160 23) 0 := on_sm S_h104 O_u101
                  refine pc_sv pc_sign_ ?_; intro u106 P_u106
                  have S_u106 := P_u106.1
                  have z_u106 := S_u106.1; have c_u106 := S_u106.2.2.1
                  have F89 : Fr h u106 n0 := fr_tr F87 (sm_fr (n := n0) S_u106) (by omega)
                  have O90 : ON u106 u101.1 10 (-1) (-1) (-1) (-1) (h 160 23) 0 := on_sm S_u106 O88
                  refine pc_add (by omega) ?_; intro v108 e_v108
                  subst e_v108
                  refine pc_sv (ge_expression (nn := nn) hm (a1 + 1) u106 (by omega) (by omega) (by omega)) ?_; intro u110 P_u110
                  have F_u110 := P_u110.1; have z_u110 := F_u110.1.1; have c_u110 := F_u110.1.2.2
                  have k_u110 := re_le (m := m) (d := 1) (d2 := (a1 + 1)) (by omega)
                  have F91 : Fr h u110.2 n0 := fr_tr F89 F_u110 (by omega)
                  have O92 : ON u110.2 u101.1 10 (-1) (-1) (-1) (-1) (h 160 23) 0 := on_F F_u110 (by omega) (by omega) O90
                  have N93 : u110.2 160 9 = 0 → u106 160 23 = h104 160 23 + 1 ∧ h104 160 23 < 3002 := fun y => P_u106.2 (F_u110.1.2.1 y)
                  refine pc_wA ?_; intro p_h111 q_h111 h111 E_h111
                  obtain ⟨x_h111, y_h111, z_h111⟩ := w_nd E_h111 (by decide)
                  have F94 : Fr h h111 n0 := fr_tr F91 (fr_w (n := n0) E_h111 (by decide) (by omega) (by omega) (gi_o E_h111 (by decide))) (by omega)
                  have O95 : ON h111 u101.1 10 u110.1 (-1) (-1) (-1) (h 160 23) 0 := on_w0 E_h111 O92
                  have N96 : h111 160 9 = 0 → u106 160 23 = h104 160 23 + 1 ∧ h104 160 23 < 3002 := fun y => N93 (by omega)
                  have N97 : h111 160 9 = 0 → TE m h111 0 (RE m (a1 + 1)) (u106 160 22) (u110.2 160 22) u110.1 := fun y => te_w E_h111 (by omega) (by omega) (by omega) (P_u110.2 (by omega))
                  refine pc_sv pc_sign_ ?_; intro u113 P_u113
                  have S_u113 := P_u113.1
                  have z_u113 := S_u113.1; have c_u113 := S_u113.2.2.1
                  have F98 : Fr h u113 n0 := fr_tr F94 (sm_fr (n := n0) S_u113) (by omega)
                  have O99 : ON u113 u101.1 10 u110.1 (-1) (-1) (-1) (h 160 23) 0 := on_sm S_u113 O95
                  have N100 : u113 160 9 = 0 → u106 160 23 = h104 160 23 + 1 ∧ h104 160 23 < 3002 := fun y => N96 (S_u113.2.1 y)
                  have N101 : u113 160 9 = 0 → TE m u113 0 (RE m (a1 + 1)) (u106 160 22) (u110.2 160 22) u110.1 := fun y => te_sm S_u113 (by omega) (N97 (S_u113.2.1 y))
                  refine pc_sv pc_sign_ ?_; intro u115 P_u115
                  have S_u115 := P_u115.1
                  have z_u115 := S_u115.1; have c_u115 := S_u115.2.2.1
                  have F102 : Fr h u115 n0 := fr_tr F98 (sm_fr (n := n0) S_u115) (by omega)
                  have O103 : ON u115 u101.1 10 u110.1 (-1) (-1) (-1) (h 160 23) 0 := on_sm S_u115 O99
                  have N104 : u115 160 9 = 0 → u106 160 23 = h104 160 23 + 1 ∧ h104 160 23 < 3002 := fun y => N100 (S_u115.2.1 y)
                  have N105 : u115 160 9 = 0 → TE m u115 0 (RE m (a1 + 1)) (u106 160 22) (u110.2 160 22) u110.1 := fun y => te_sm S_u115 (by omega) (N101 (S_u115.2.1 y))
                  have N106 : u115 160 9 = 0 → u113 160 23 = h111 160 23 + 1 ∧ h111 160 23 < 3002 := fun y => P_u113.2 (S_u115.2.1 y)
                  refine pc_ret ⟨F102, fun y => ?_⟩
                  have y : u115 160 9 = 0 := y
                  have A107 := N104 y
                  have A108 := N106 y
                  have A109 := P_u115.2 y
                  show u101.1 = n0 ∧ u115 169 n0.toNat = h 160 23 ∧ (u115 167 n0.toNat = 2 → h 160 23 + 2 ≤ u115 160 23) ∧ u115 173 n0.toNat = -1 ∧ TE m u115 2 (2 * (40 - a1) + 1) n0 (u115 160 22) u101.1
                  have on0 := O103
                  have en0 : u101.1 = n0 := by omega
                  rw [en0] at on0
                  refine ⟨en0, on0.2.2.2.2.2.1.trans (by omega), fun z => ?_, on0.2.2.2.2.1, ?_⟩
                  · rw [on0.1] at z; omega
                  · skip
                    exact on_one O103 (by omega) ⟨by omega, by omega, by omega, by omega⟩ (te_wd (N105 y) (by omega) (by omega) (by omega) (by omega))
                · skip
                  refine pc_if (fun C110 => ?_) (fun C110 => ?_)
                  · skip
                    refine pc_sv pc_ad ?_; intro u118 A_u118
                    obtain ⟨⟨a0_u118, a1_u118, a2_u118, a3_u118, a4_u118, a5_u118, a6_u118⟩, F_u118, O_u118⟩ := A_u118
                    have F111 : Fr h u118.2 n0 := fr_tr F0 F_u118 (by omega)
                    refine pc_add (by omega) ?_; intro v120 e_v120
                    refine pc_xl ?_; intro h121 E_h121
                    obtain ⟨S_h121, c_h121, f_h121⟩ := sm_cur E_h121 (by omega)
                    have z_h121 := S_h121.1
                    have F112 : Fr h h121 n0 := fr_tr F111 (sm_fr (n := n0) S_h121) (by omega)
                    have O113 : ON h121 u118.1 7 (-1) (-1) (-1) (-1) (h 160 23) 0 := on_sm S_h121 O_u118
                    refine pc_sv pc_isSign ?_; intro u124 b_u124
                    refine pc_if (fun C114 => ?_) (fun C114 => ?_)
                    · skip
                      unfold qj_X13_statement_562
                      refine pc_sv pc_sign_ ?_; intro u4 P_u4
                      have S_u4 := P_u4.1
                      have z_u4 := S_u4.1; have c_u4 := S_u4.2.2.1
                      have F115 : Fr h u4 n0 := fr_tr F112 (sm_fr (n := n0) S_u4) (by omega)
                      have O116 : ON u4 u118.1 7 (-1) (-1) (-1) (-1) (h 160 23) 0 := on_sm S_u4 O113
                      refine pc_ret ⟨F115, fun y => ?_⟩
                      have y : u4 160 9 = 0 := y
                      have A117 := P_u4.2 y
                      show u118.1 = n0 ∧ u4 169 n0.toNat = h 160 23 ∧ (u4 167 n0.toNat = 2 → h 160 23 + 2 ≤ u4 160 23) ∧ u4 173 n0.toNat = -1 ∧ TE m u4 2 (2 * (40 - a1) + 1) n0 (u4 160 22) u118.1
                      have on0 := O116
                      have en0 : u118.1 = n0 := by omega
                      rw [en0] at on0
                      refine ⟨en0, on0.2.2.2.2.2.1.trans (by omega), fun z => ?_, on0.2.2.2.2.1, ?_⟩
                      · rw [on0.1] at z; omega
                      · skip
                        exact on_giv0 O116 (by omega) ⟨by omega, by omega, by omega, by omega⟩
                    · skip
                      refine pc_add (by omega) ?_; intro v126 e_v126
                      subst e_v126
                      refine pc_sv (ge_expression (nn := nn) hm (a1 + 1) h121 (by omega) (by omega) (by omega)) ?_; intro u128 P_u128
                      have F_u128 := P_u128.1; have z_u128 := F_u128.1.1; have c_u128 := F_u128.1.2.2
                      have k_u128 := re_le (m := m) (d := 1) (d2 := (a1 + 1)) (by omega)
                      have F118 : Fr h u128.2 n0 := fr_tr F112 F_u128 (by omega)
                      have O119 : ON u128.2 u118.1 7 (-1) (-1) (-1) (-1) (h 160 23) 0 := on_F F_u128 (by omega) (by omega) O113
                      refine pc_wA ?_; intro p_h129 q_h129 h129 E_h129
                      obtain ⟨x_h129, y_h129, z_h129⟩ := w_nd E_h129 (by decide)
                      have F120 : Fr h h129 n0 := fr_tr F118 (fr_w (n := n0) E_h129 (by decide) (by omega) (by omega) (gi_o E_h129 (by decide))) (by omega)
                      have O121 : ON h129 u118.1 7 u128.1 (-1) (-1) (-1) (h 160 23) 0 := on_w0 E_h129 O119
                      have N122 : h129 160 9 = 0 → TE m h129 0 (RE m (a1 + 1)) (h121 160 22) (u128.2 160 22) u128.1 := fun y => te_w E_h129 (by omega) (by omega) (by omega) (P_u128.2 (by omega))
                      unfold qj_X13_statement_562
                      refine pc_sv pc_sign_ ?_; intro u4 P_u4
                      have S_u4 := P_u4.1
                      have z_u4 := S_u4.1; have c_u4 := S_u4.2.2.1
                      have F123 : Fr h u4 n0 := fr_tr F120 (sm_fr (n := n0) S_u4) (by omega)
                      have O124 : ON u4 u118.1 7 u128.1 (-1) (-1) (-1) (h 160 23) 0 := on_sm S_u4 O121
                      have N125 : u4 160 9 = 0 → TE m u4 0 (RE m (a1 + 1)) (h121 160 22) (u128.2 160 22) u128.1 := fun y => te_sm S_u4 (by omega) (N122 (S_u4.2.1 y))
                      refine pc_ret ⟨F123, fun y => ?_⟩
                      have y : u4 160 9 = 0 := y
                      have A126 := P_u4.2 y
                      show u118.1 = n0 ∧ u4 169 n0.toNat = h 160 23 ∧ (u4 167 n0.toNat = 2 → h 160 23 + 2 ≤ u4 160 23) ∧ u4 173 n0.toNat = -1 ∧ TE m u4 2 (2 * (40 - a1) + 1) n0 (u4 160 22) u118.1
                      have on0 := O124
                      have en0 : u118.1 = n0 := by omega
                      rw [en0] at on0
                      refine ⟨en0, on0.2.2.2.2.2.1.trans (by omega), fun z => ?_, on0.2.2.2.2.1, ?_⟩
                      · rw [on0.1] at z; omega
                      · skip
                        exact on_giv1 O124 (by omega) ⟨by omega, by omega, by omega, by omega⟩ (te_wd (N125 y) (by omega) (by omega) (by omega) (by omega))
                  · skip
                    refine pc_if (fun C127 => ?_) (fun C127 => ?_)
                    · skip
                      refine pc_sv pc_ad ?_; intro u133 A_u133
                      obtain ⟨⟨a0_u133, a1_u133, a2_u133, a3_u133, a4_u133, a5_u133, a6_u133⟩, F_u133, O_u133⟩ := A_u133
                      have F128 : Fr h u133.2 n0 := fr_tr F0 F_u133 (by omega)
                      refine pc_add (by omega) ?_; intro v135 e_v135
                      refine pc_xl ?_; intro h136 E_h136
                      obtain ⟨S_h136, c_h136, f_h136⟩ := sm_cur E_h136 (by omega)
                      have z_h136 := S_h136.1
                      have F129 : Fr h h136 n0 := fr_tr F128 (sm_fr (n := n0) S_h136) (by omega)
                      have O130 : ON h136 u133.1 8 (-1) (-1) (-1) (-1) (h 160 23) 0 := on_sm S_h136 O_u133
                      refine pc_add (by omega) ?_; intro v138 e_v138
                      subst e_v138
                      refine pc_sv (ge_expression (nn := nn) hm (a1 + 1) h136 (by omega) (by omega) (by omega)) ?_; intro u140 P_u140
                      have F_u140 := P_u140.1; have z_u140 := F_u140.1.1; have c_u140 := F_u140.1.2.2
                      have k_u140 := re_le (m := m) (d := 1) (d2 := (a1 + 1)) (by omega)
                      have F131 : Fr h u140.2 n0 := fr_tr F129 F_u140 (by omega)
                      have O132 : ON u140.2 u133.1 8 (-1) (-1) (-1) (-1) (h 160 23) 0 := on_F F_u140 (by omega) (by omega) O130
                      refine pc_wA ?_; intro p_h141 q_h141 h141 E_h141
                      obtain ⟨x_h141, y_h141, z_h141⟩ := w_nd E_h141 (by decide)
                      have F133 : Fr h h141 n0 := fr_tr F131 (fr_w (n := n0) E_h141 (by decide) (by omega) (by omega) (gi_o E_h141 (by decide))) (by omega)
                      have O134 : ON h141 u133.1 8 u140.1 (-1) (-1) (-1) (h 160 23) 0 := on_w0 E_h141 O132
                      have N135 : h141 160 9 = 0 → TE m h141 0 (RE m (a1 + 1)) (h136 160 22) (u140.2 160 22) u140.1 := fun y => te_w E_h141 (by omega) (by omega) (by omega) (P_u140.2 (by omega))
                      refine pc_sv pc_sign_ ?_; intro u143 P_u143
                      have S_u143 := P_u143.1
                      have z_u143 := S_u143.1; have c_u143 := S_u143.2.2.1
                      have F136 : Fr h u143 n0 := fr_tr F133 (sm_fr (n := n0) S_u143) (by omega)
                      have O137 : ON u143 u133.1 8 u140.1 (-1) (-1) (-1) (h 160 23) 0 := on_sm S_u143 O134
                      have N138 : u143 160 9 = 0 → TE m u143 0 (RE m (a1 + 1)) (h136 160 22) (u140.2 160 22) u140.1 := fun y => te_sm S_u143 (by omega) (N135 (S_u143.2.1 y))
                      refine pc_ret ⟨F136, fun y => ?_⟩
                      have y : u143 160 9 = 0 := y
                      have A139 := P_u143.2 y
                      show u133.1 = n0 ∧ u143 169 n0.toNat = h 160 23 ∧ (u143 167 n0.toNat = 2 → h 160 23 + 2 ≤ u143 160 23) ∧ u143 173 n0.toNat = -1 ∧ TE m u143 2 (2 * (40 - a1) + 1) n0 (u143 160 22) u133.1
                      have on0 := O137
                      have en0 : u133.1 = n0 := by omega
                      rw [en0] at on0
                      refine ⟨en0, on0.2.2.2.2.2.1.trans (by omega), fun z => ?_, on0.2.2.2.2.1, ?_⟩
                      · rw [on0.1] at z; omega
                      · skip
                        exact on_one O137 (by omega) ⟨by omega, by omega, by omega, by omega⟩ (te_wd (N138 y) (by omega) (by omega) (by omega) (by omega))
                    · skip
                      refine pc_if (fun C140 => ?_) (fun C140 => ?_)
                      · skip
                        refine pc_sv pc_ad ?_; intro u146 A_u146
                        obtain ⟨⟨a0_u146, a1_u146, a2_u146, a3_u146, a4_u146, a5_u146, a6_u146⟩, F_u146, O_u146⟩ := A_u146
                        have F141 : Fr h u146.2 n0 := fr_tr F0 F_u146 (by omega)
                        refine pc_add (by omega) ?_; intro v148 e_v148
                        refine pc_xl ?_; intro h149 E_h149
                        obtain ⟨S_h149, c_h149, f_h149⟩ := sm_cur E_h149 (by omega)
                        have z_h149 := S_h149.1
                        have F142 : Fr h h149 n0 := fr_tr F141 (sm_fr (n := n0) S_h149) (by omega)
                        have O143 : ON h149 u146.1 9 (-1) (-1) (-1) (-1) (h 160 23) 0 := on_sm S_h149 O_u146
                        refine pc_add (by omega) ?_; intro v151 e_v151
                        subst e_v151
                        refine pc_sv (G.1 (a1 + 1) h149 (by omega) (by omega) (by omega)) ?_; intro u153 P_u153
                        have F_u153 := P_u153.1; have z_u153 := F_u153.1.1; have c_u153 := F_u153.1.2.2
                        have F144 : Fr h u153.2 n0 := fr_tr F142 F_u153 (by omega)
                        have O145 : ON u153.2 u146.1 9 (-1) (-1) (-1) (-1) (h 160 23) 0 := on_F F_u153 (by omega) (by omega) O143
                        refine pc_wA ?_; intro p_h154 q_h154 h154 E_h154
                        obtain ⟨x_h154, y_h154, z_h154⟩ := w_nd E_h154 (by decide)
                        have F146 : Fr h h154 n0 := fr_tr F144 (fr_w (n := n0) E_h154 (by decide) (by omega) (by omega) (gi_o E_h154 (by decide))) (by omega)
                        have O147 : ON h154 u146.1 9 u153.1 (-1) (-1) (-1) (h 160 23) 0 := on_w0 E_h154 O145
                        have N148 : h154 160 9 = 0 → TB m h154 (2 * (40 - (a1 + 1)) + 2) u153.1 (h149 160 22) (u153.2 160 22) (h149 160 23) := fun y => tb_w E_h154 (by omega) (by omega) (by omega) ((cs_tb P_u153) (by omega))
                        refine pc_sv pc_word ?_; intro u156 P_u156
                        have S_u156 := P_u156.1
                        have z_u156 := S_u156.1; have c_u156 := S_u156.2.2.1
                        have F149 : Fr h u156 n0 := fr_tr F146 (sm_fr (n := n0) S_u156) (by omega)
                        have O150 : ON u156 u146.1 9 u153.1 (-1) (-1) (-1) (h 160 23) 0 := on_sm S_u156 O147
                        have N151 : u156 160 9 = 0 → TB m u156 (2 * (40 - (a1 + 1)) + 2) u153.1 (h149 160 22) (u153.2 160 22) (h149 160 23) := fun y => tb_sm S_u156 (by omega) (N148 (S_u156.2.1 y))
                        refine pc_sv pc_sign_ ?_; intro u158 P_u158
                        have S_u158 := P_u158.1
                        have z_u158 := S_u158.1; have c_u158 := S_u158.2.2.1
                        have F152 : Fr h u158 n0 := fr_tr F149 (sm_fr (n := n0) S_u158) (by omega)
                        have O153 : ON u158 u146.1 9 u153.1 (-1) (-1) (-1) (h 160 23) 0 := on_sm S_u158 O150
                        have N154 : u158 160 9 = 0 → TB m u158 (2 * (40 - (a1 + 1)) + 2) u153.1 (h149 160 22) (u153.2 160 22) (h149 160 23) := fun y => tb_sm S_u158 (by omega) (N151 (S_u158.2.1 y))
                        have N155 : u158 160 9 = 0 → u156 160 23 = h154 160 23 + 1 ∧ h154 160 23 < 3002 := fun y => P_u156.2 (S_u158.2.1 y)
                        refine pc_sv pc_name ?_; intro u161 P_u161
                        have S_u161 := P_u161.1
                        have z_u161 := S_u161.1; have c_u161 := S_u161.2.2.1
                        have n_u161 := P_u161.2.1
                        have F156 : Fr h u161.2 n0 := fr_tr F152 (sm_fr (n := n0) S_u161) (by omega)
                        have O157 : ON u161.2 u146.1 9 u153.1 (-1) (-1) (-1) (h 160 23) 0 := on_sm S_u161 O153
                        have N158 : u161.2 160 9 = 0 → TB m u161.2 (2 * (40 - (a1 + 1)) + 2) u153.1 (h149 160 22) (u153.2 160 22) (h149 160 23) := fun y => tb_sm S_u161 (by omega) (N154 (S_u161.2.1 y))
                        have N159 : u161.2 160 9 = 0 → u156 160 23 = h154 160 23 + 1 ∧ h154 160 23 < 3002 := fun y => N155 (S_u161.2.1 y)
                        have N160 : u161.2 160 9 = 0 → u158 160 23 = u156 160 23 + 1 ∧ u156 160 23 < 3002 := fun y => P_u158.2 (S_u161.2.1 y)
                        refine pc_wA ?_; intro p_h162 q_h162 h162 E_h162
                        obtain ⟨x_h162, y_h162, z_h162⟩ := w_nd E_h162 (by decide)
                        have F161 : Fr h h162 n0 := fr_tr F156 (fr_w (n := n0) E_h162 (by decide) (by omega) (by omega) (gi_o E_h162 (by decide))) (by omega)
                        have O162 : ON h162 u146.1 9 u153.1 (-1) (-1) (-1) (h 160 23) 0 := on_wo E_h162 (by decide) O157
                        have N163 : h162 160 9 = 0 → TB m h162 (2 * (40 - (a1 + 1)) + 2) u153.1 (h149 160 22) (u153.2 160 22) (h149 160 23) := fun y => tb_w E_h162 (by omega) (by omega) (by omega) (N158 (by omega))
                        have N164 : h162 160 9 = 0 → u156 160 23 = h154 160 23 + 1 ∧ h154 160 23 < 3002 := fun y => N159 (by omega)
                        have N165 : h162 160 9 = 0 → u158 160 23 = u156 160 23 + 1 ∧ u156 160 23 < 3002 := fun y => N160 (by omega)
                        have N166 : h162 160 9 = 0 → u161.2 160 23 = u158 160 23 + 1 ∧ u161.1 = u158 160 23 := fun y => P_u161.2.2 (by omega)
                        refine pc_sv pc_name ?_; intro u165 P_u165
                        have S_u165 := P_u165.1
                        have z_u165 := S_u165.1; have c_u165 := S_u165.2.2.1
                        have n_u165 := P_u165.2.1
                        have F167 : Fr h u165.2 n0 := fr_tr F161 (sm_fr (n := n0) S_u165) (by omega)
                        have O168 : ON u165.2 u146.1 9 u153.1 (-1) (-1) (-1) (h 160 23) 0 := on_sm S_u165 O162
                        have N169 : u165.2 160 9 = 0 → TB m u165.2 (2 * (40 - (a1 + 1)) + 2) u153.1 (h149 160 22) (u153.2 160 22) (h149 160 23) := fun y => tb_sm S_u165 (by omega) (N163 (S_u165.2.1 y))
                        have N170 : u165.2 160 9 = 0 → u156 160 23 = h154 160 23 + 1 ∧ h154 160 23 < 3002 := fun y => N164 (S_u165.2.1 y)
                        have N171 : u165.2 160 9 = 0 → u158 160 23 = u156 160 23 + 1 ∧ u156 160 23 < 3002 := fun y => N165 (S_u165.2.1 y)
                        have N172 : u165.2 160 9 = 0 → u161.2 160 23 = u158 160 23 + 1 ∧ u161.1 = u158 160 23 := fun y => N166 (S_u165.2.1 y)
                        refine pc_wA ?_; intro p_h166 q_h166 h166 E_h166
                        obtain ⟨x_h166, y_h166, z_h166⟩ := w_nd E_h166 (by decide)
                        have F173 : Fr h h166 n0 := fr_tr F167 (fr_w (n := n0) E_h166 (by decide) (by omega) (by omega) (gi_6 E_h166 (by omega))) (by omega)
                        have O174 : ON h166 u146.1 9 u153.1 (-1) (-1) (-1) (h 160 23) u165.1 := on_ws E_h166 O168
                        have N175 : h166 160 9 = 0 → TB m h166 (2 * (40 - (a1 + 1)) + 2) u153.1 (h149 160 22) (u153.2 160 22) (h149 160 23) := fun y => tb_w E_h166 (by omega) (by omega) (by omega) (N169 (by omega))
                        have N176 : h166 160 9 = 0 → u156 160 23 = h154 160 23 + 1 ∧ h154 160 23 < 3002 := fun y => N170 (by omega)
                        have N177 : h166 160 9 = 0 → u158 160 23 = u156 160 23 + 1 ∧ u156 160 23 < 3002 := fun y => N171 (by omega)
                        have N178 : h166 160 9 = 0 → u161.2 160 23 = u158 160 23 + 1 ∧ u161.1 = u158 160 23 := fun y => N172 (by omega)
                        have N179 : h166 160 9 = 0 → u165.2 160 23 = h162 160 23 + 1 ∧ u165.1 = h162 160 23 := fun y => P_u165.2.2 (by omega)
                        refine pc_sv pc_sign_ ?_; intro u168 P_u168
                        have S_u168 := P_u168.1
                        have z_u168 := S_u168.1; have c_u168 := S_u168.2.2.1
                        have F180 : Fr h u168 n0 := fr_tr F173 (sm_fr (n := n0) S_u168) (by omega)
                        have O181 : ON u168 u146.1 9 u153.1 (-1) (-1) (-1) (h 160 23) u165.1 := on_sm S_u168 O174
                        have N182 : u168 160 9 = 0 → TB m u168 (2 * (40 - (a1 + 1)) + 2) u153.1 (h149 160 22) (u153.2 160 22) (h149 160 23) := fun y => tb_sm S_u168 (by omega) (N175 (S_u168.2.1 y))
                        have N183 : u168 160 9 = 0 → u156 160 23 = h154 160 23 + 1 ∧ h154 160 23 < 3002 := fun y => N176 (S_u168.2.1 y)
                        have N184 : u168 160 9 = 0 → u158 160 23 = u156 160 23 + 1 ∧ u156 160 23 < 3002 := fun y => N177 (S_u168.2.1 y)
                        have N185 : u168 160 9 = 0 → u161.2 160 23 = u158 160 23 + 1 ∧ u161.1 = u158 160 23 := fun y => N178 (S_u168.2.1 y)
                        have N186 : u168 160 9 = 0 → u165.2 160 23 = h162 160 23 + 1 ∧ u165.1 = h162 160 23 := fun y => N179 (S_u168.2.1 y)
                        refine pc_add (by omega) ?_; intro v170 e_v170
                        subst e_v170
                        refine pc_sv (G.1 (a1 + 1) u168 (by omega) (by omega) (by omega)) ?_; intro u172 P_u172
                        have F_u172 := P_u172.1; have z_u172 := F_u172.1.1; have c_u172 := F_u172.1.2.2
                        have F187 : Fr h u172.2 n0 := fr_tr F180 F_u172 (by omega)
                        have O188 : ON u172.2 u146.1 9 u153.1 (-1) (-1) (-1) (h 160 23) u165.1 := on_F F_u172 (by omega) (by omega) O181
                        have N189 : u172.2 160 9 = 0 → TB m u172.2 (2 * (40 - (a1 + 1)) + 2) u153.1 (h149 160 22) (u153.2 160 22) (h149 160 23) := fun y => tb_F F_u172 (by omega) (by omega) (N182 (F_u172.1.2.1 y))
                        have N190 : u172.2 160 9 = 0 → u156 160 23 = h154 160 23 + 1 ∧ h154 160 23 < 3002 := fun y => N183 (F_u172.1.2.1 y)
                        have N191 : u172.2 160 9 = 0 → u158 160 23 = u156 160 23 + 1 ∧ u156 160 23 < 3002 := fun y => N184 (F_u172.1.2.1 y)
                        have N192 : u172.2 160 9 = 0 → u161.2 160 23 = u158 160 23 + 1 ∧ u161.1 = u158 160 23 := fun y => N185 (F_u172.1.2.1 y)
                        have N193 : u172.2 160 9 = 0 → u165.2 160 23 = h162 160 23 + 1 ∧ u165.1 = h162 160 23 := fun y => N186 (F_u172.1.2.1 y)
                        have N194 : u172.2 160 9 = 0 → u168 160 23 = h166 160 23 + 1 ∧ h166 160 23 < 3002 := fun y => P_u168.2 (F_u172.1.2.1 y)
                        refine pc_wA ?_; intro p_h173 q_h173 h173 E_h173
                        obtain ⟨x_h173, y_h173, z_h173⟩ := w_nd E_h173 (by decide)
                        have F195 : Fr h h173 n0 := fr_tr F187 (fr_w (n := n0) E_h173 (by decide) (by omega) (by omega) (gi_o E_h173 (by decide))) (by omega)
                        have O196 : ON h173 u146.1 9 u153.1 u172.1 (-1) (-1) (h 160 23) u165.1 := on_w1 E_h173 O188
                        have N197 : h173 160 9 = 0 → TB m h173 (2 * (40 - (a1 + 1)) + 2) u153.1 (h149 160 22) (u153.2 160 22) (h149 160 23) := fun y => tb_w E_h173 (by omega) (by omega) (by omega) (N189 (by omega))
                        have N198 : h173 160 9 = 0 → u156 160 23 = h154 160 23 + 1 ∧ h154 160 23 < 3002 := fun y => N190 (by omega)
                        have N199 : h173 160 9 = 0 → u158 160 23 = u156 160 23 + 1 ∧ u156 160 23 < 3002 := fun y => N191 (by omega)
                        have N200 : h173 160 9 = 0 → u161.2 160 23 = u158 160 23 + 1 ∧ u161.1 = u158 160 23 := fun y => N192 (by omega)
                        have N201 : h173 160 9 = 0 → u165.2 160 23 = h162 160 23 + 1 ∧ u165.1 = h162 160 23 := fun y => N193 (by omega)
                        have N202 : h173 160 9 = 0 → u168 160 23 = h166 160 23 + 1 ∧ h166 160 23 < 3002 := fun y => N194 (by omega)
                        have N203 : h173 160 9 = 0 → TB m h173 (2 * (40 - (a1 + 1)) + 2) u172.1 (u168 160 22) (u172.2 160 22) (u168 160 23) := fun y => tb_w E_h173 (by omega) (by omega) (by omega) ((cs_tb P_u172) (by omega))
                        unfold qj_X13_statement_698
                        refine pc_ret ⟨F195, fun y => ?_⟩
                        have y : h173 160 9 = 0 := y
                        have A204 := N198 y
                        have A205 := N199 y
                        have A206 := N200 y
                        have A207 := N201 y
                        have A208 := N202 y
                        show u146.1 = n0 ∧ h173 169 n0.toNat = h 160 23 ∧ (h173 167 n0.toNat = 2 → h 160 23 + 2 ≤ h173 160 23) ∧ h173 173 n0.toNat = -1 ∧ TE m h173 2 (2 * (40 - a1) + 1) n0 (h173 160 22) u146.1
                        have on0 := O196
                        have en0 : u146.1 = n0 := by omega
                        rw [en0] at on0
                        refine ⟨en0, on0.2.2.2.2.2.1.trans (by omega), fun z => ?_, on0.2.2.2.2.1, ?_⟩
                        · rw [on0.1] at z; omega
                        · skip
                          exact on_guard O196 (by omega) ⟨by omega, by omega, by omega, by omega⟩ (by have q := (tb_st (d := 2 * (40 - a1) + 1) (n := h173 160 22) (e := u146.1) (N197 y) (by omega) (by omega) (by omega) (by omega) (by rw [O196.2.2.2.2.2.1]; omega)); rw [O196.2.2.2.2.2.1] at q; exact q) (by have q := (tb_st (d := 2 * (40 - a1) + 1) (n := h173 160 22) (e := u146.1) (N203 y) (by omega) (by omega) (by omega) (by omega) (by rw [O196.2.2.2.2.2.1]; omega)); rw [O196.2.2.2.2.2.1] at q; exact q) (by have q := N203 y; rw [q.1, q.2.1]; omega)
                      · skip
                        refine pc_if (fun C209 => ?_) (fun C209 => ?_)
                        · skip
                          refine pc_sv pc_ad ?_; intro u176 A_u176
                          obtain ⟨⟨a0_u176, a1_u176, a2_u176, a3_u176, a4_u176, a5_u176, a6_u176⟩, F_u176, O_u176⟩ := A_u176
                          have F210 : Fr h u176.2 n0 := fr_tr F0 F_u176 (by omega)
                          refine pc_add (by omega) ?_; intro v178 e_v178
                          refine pc_xl ?_; intro h179 E_h179
                          obtain ⟨S_h179, c_h179, f_h179⟩ := sm_cur E_h179 (by omega)
                          have z_h179 := S_h179.1
                          have F211 : Fr h h179 n0 := fr_tr F210 (sm_fr (n := n0) S_h179) (by omega)
                          have O212 : ON h179 u176.1 4 (-1) (-1) (-1) (-1) (h 160 23) 0 := on_sm S_h179 O_u176
                          refine pc_sv pc_sign_ ?_; intro u181 P_u181
                          have S_u181 := P_u181.1
                          have z_u181 := S_u181.1; have c_u181 := S_u181.2.2.1
                          have F213 : Fr h u181 n0 := fr_tr F211 (sm_fr (n := n0) S_u181) (by omega)
                          have O214 : ON u181 u176.1 4 (-1) (-1) (-1) (-1) (h 160 23) 0 := on_sm S_u181 O212
                          refine pc_sv pc_isWord ?_; intro u185 b_u185
                          refine pc_if (fun C215 => ?_) (fun C215 => ?_)
                          · skip
                            unfold qj_X13_statement_431
                            unfold qj_X13_statement_432
                            refine pc_wA ?_; intro p_h17 q_h17 h17 E_h17
                            obtain ⟨x_h17, y_h17, z_h17⟩ := w_nd E_h17 (by decide)
                            have F216 : Fr h h17 n0 := fr_tr F213 (fr_w (n := n0) E_h17 (by decide) (by omega) (by omega) (gi_5 E_h17 (by rw [O214.1]; omega))) (by omega)
                            have O217 : ON h17 u176.1 4 (-1) (-1) (-1) (-1) (h 160 23) 0 := on_wo E_h17 (by decide) O214
                            have N218 : h17 160 9 = 0 → u181 160 23 = h179 160 23 + 1 ∧ h179 160 23 < 3002 := fun y => P_u181.2 (by omega)
                            refine pc_add (by omega) ?_; intro v19 e_v19
                            subst e_v19
                            refine pc_sv (ge_expression (nn := nn) hm (a1 + 1) h17 (by omega) (by omega) (by omega)) ?_; intro u21 P_u21
                            have F_u21 := P_u21.1; have z_u21 := F_u21.1.1; have c_u21 := F_u21.1.2.2
                            have k_u21 := re_le (m := m) (d := 1) (d2 := (a1 + 1)) (by omega)
                            have F219 : Fr h u21.2 n0 := fr_tr F216 F_u21 (by omega)
                            have O220 : ON u21.2 u176.1 4 (-1) (-1) (-1) (-1) (h 160 23) 0 := on_F F_u21 (by omega) (by omega) O217
                            have N221 : u21.2 160 9 = 0 → u181 160 23 = h179 160 23 + 1 ∧ h179 160 23 < 3002 := fun y => N218 (F_u21.1.2.1 y)
                            refine pc_wA ?_; intro p_h22 q_h22 h22 E_h22
                            obtain ⟨x_h22, y_h22, z_h22⟩ := w_nd E_h22 (by decide)
                            have F222 : Fr h h22 n0 := fr_tr F219 (fr_w (n := n0) E_h22 (by decide) (by omega) (by omega) (gi_o E_h22 (by decide))) (by omega)
                            have O223 : ON h22 u176.1 4 u21.1 (-1) (-1) (-1) (h 160 23) 0 := on_w0 E_h22 O220
                            have N224 : h22 160 9 = 0 → u181 160 23 = h179 160 23 + 1 ∧ h179 160 23 < 3002 := fun y => N221 (by omega)
                            have N225 : h22 160 9 = 0 → TE m h22 0 (RE m (a1 + 1)) (h17 160 22) (u21.2 160 22) u21.1 := fun y => te_w E_h22 (by omega) (by omega) (by omega) (P_u21.2 (by omega))
                            refine pc_sv pc_sign_ ?_; intro u24 P_u24
                            have S_u24 := P_u24.1
                            have z_u24 := S_u24.1; have c_u24 := S_u24.2.2.1
                            have F226 : Fr h u24 n0 := fr_tr F222 (sm_fr (n := n0) S_u24) (by omega)
                            have O227 : ON u24 u176.1 4 u21.1 (-1) (-1) (-1) (h 160 23) 0 := on_sm S_u24 O223
                            have N228 : u24 160 9 = 0 → u181 160 23 = h179 160 23 + 1 ∧ h179 160 23 < 3002 := fun y => N224 (S_u24.2.1 y)
                            have N229 : u24 160 9 = 0 → TE m u24 0 (RE m (a1 + 1)) (h17 160 22) (u21.2 160 22) u21.1 := fun y => te_sm S_u24 (by omega) (N225 (S_u24.2.1 y))
                            refine pc_add (by omega) ?_; intro v26 e_v26
                            subst e_v26
                            refine pc_sv (G.2 (a1 + 1) u24 (by omega) (by omega) (by omega)) ?_; intro u28 P_u28
                            have F_u28 := P_u28.1; have z_u28 := F_u28.1.1; have c_u28 := F_u28.1.2.2
                            have F230 : Fr h u28.2 n0 := fr_tr F226 F_u28 (by omega)
                            have O231 : ON u28.2 u176.1 4 u21.1 (-1) (-1) (-1) (h 160 23) 0 := on_F F_u28 (by omega) (by omega) O227
                            have N232 : u28.2 160 9 = 0 → u181 160 23 = h179 160 23 + 1 ∧ h179 160 23 < 3002 := fun y => N228 (F_u28.1.2.1 y)
                            have N233 : u28.2 160 9 = 0 → TE m u28.2 0 (RE m (a1 + 1)) (h17 160 22) (u21.2 160 22) u21.1 := fun y => te_F F_u28 (by omega) (by omega) (N229 (F_u28.1.2.1 y))
                            have N234 : u28.2 160 9 = 0 → u24 160 23 = h22 160 23 + 1 ∧ h22 160 23 < 3002 := fun y => P_u24.2 (F_u28.1.2.1 y)
                            refine pc_wA ?_; intro p_h29 q_h29 h29 E_h29
                            obtain ⟨x_h29, y_h29, z_h29⟩ := w_nd E_h29 (by decide)
                            have F235 : Fr h h29 n0 := fr_tr F230 (fr_w (n := n0) E_h29 (by decide) (by omega) (by omega) (gi_o E_h29 (by decide))) (by omega)
                            have O236 : ON h29 u176.1 4 u21.1 u28.1 (-1) (-1) (h 160 23) 0 := on_w1 E_h29 O231
                            have N237 : h29 160 9 = 0 → u181 160 23 = h179 160 23 + 1 ∧ h179 160 23 < 3002 := fun y => N232 (by omega)
                            have N238 : h29 160 9 = 0 → TE m h29 0 (RE m (a1 + 1)) (h17 160 22) (u21.2 160 22) u21.1 := fun y => te_w E_h29 (by omega) (by omega) (by omega) (N233 (by omega))
                            have N239 : h29 160 9 = 0 → u24 160 23 = h22 160 23 + 1 ∧ h22 160 23 < 3002 := fun y => N234 (by omega)
                            have N240 : h29 160 9 = 0 → TB m h29 (2 * (40 - (a1 + 1)) + 1) u28.1 (u24 160 22) (u28.2 160 22) (u24 160 23) := fun y => tb_w E_h29 (by omega) (by omega) (by omega) ((cs_tb P_u28) (by omega))
                            refine pc_ret ⟨F235, fun y => ?_⟩
                            have y : h29 160 9 = 0 := y
                            have A241 := N237 y
                            have A242 := N239 y
                            show u176.1 = n0 ∧ h29 169 n0.toNat = h 160 23 ∧ (h29 167 n0.toNat = 2 → h 160 23 + 2 ≤ h29 160 23) ∧ h29 173 n0.toNat = -1 ∧ TE m h29 2 (2 * (40 - a1) + 1) n0 (h29 160 22) u176.1
                            have on0 := O236
                            have en0 : u176.1 = n0 := by omega
                            rw [en0] at on0
                            refine ⟨en0, on0.2.2.2.2.2.1.trans (by omega), fun z => ?_, on0.2.2.2.2.1, ?_⟩
                            · rw [on0.1] at z; omega
                            · skip
                              exact on_loop O236 (by omega) ⟨by omega, by omega, by omega, by omega⟩ (te_wd (N238 y) (by omega) (by omega) (by omega) (by omega)) (by have q := (tb_st (d := 2 * (40 - a1) + 1) (n := h29 160 22) (e := u176.1) (N240 y) (by omega) (by omega) (by omega) (by omega) (by rw [O236.2.2.2.2.2.1]; omega)); rw [O236.2.2.2.2.2.1] at q; exact q)
                          · skip
                            refine pc_add (by omega) ?_; intro v187 e_v187
                            refine pc_sv pc_isSign ?_; intro u189 b_u189
                            refine pc_if (fun C243 => ?_) (fun C243 => ?_)
                            · skip
                              unfold qj_X13_statement_431
                              unfold qj_X13_statement_432
                              refine pc_wA ?_; intro p_h17 q_h17 h17 E_h17
                              obtain ⟨x_h17, y_h17, z_h17⟩ := w_nd E_h17 (by decide)
                              have F244 : Fr h h17 n0 := fr_tr F213 (fr_w (n := n0) E_h17 (by decide) (by omega) (by omega) (gi_5 E_h17 (by rw [O214.1]; omega))) (by omega)
                              have O245 : ON h17 u176.1 4 (-1) (-1) (-1) (-1) (h 160 23) 0 := on_wo E_h17 (by decide) O214
                              have N246 : h17 160 9 = 0 → u181 160 23 = h179 160 23 + 1 ∧ h179 160 23 < 3002 := fun y => P_u181.2 (by omega)
                              refine pc_add (by omega) ?_; intro v19 e_v19
                              subst e_v19
                              refine pc_sv (ge_expression (nn := nn) hm (a1 + 1) h17 (by omega) (by omega) (by omega)) ?_; intro u21 P_u21
                              have F_u21 := P_u21.1; have z_u21 := F_u21.1.1; have c_u21 := F_u21.1.2.2
                              have k_u21 := re_le (m := m) (d := 1) (d2 := (a1 + 1)) (by omega)
                              have F247 : Fr h u21.2 n0 := fr_tr F244 F_u21 (by omega)
                              have O248 : ON u21.2 u176.1 4 (-1) (-1) (-1) (-1) (h 160 23) 0 := on_F F_u21 (by omega) (by omega) O245
                              have N249 : u21.2 160 9 = 0 → u181 160 23 = h179 160 23 + 1 ∧ h179 160 23 < 3002 := fun y => N246 (F_u21.1.2.1 y)
                              refine pc_wA ?_; intro p_h22 q_h22 h22 E_h22
                              obtain ⟨x_h22, y_h22, z_h22⟩ := w_nd E_h22 (by decide)
                              have F250 : Fr h h22 n0 := fr_tr F247 (fr_w (n := n0) E_h22 (by decide) (by omega) (by omega) (gi_o E_h22 (by decide))) (by omega)
                              have O251 : ON h22 u176.1 4 u21.1 (-1) (-1) (-1) (h 160 23) 0 := on_w0 E_h22 O248
                              have N252 : h22 160 9 = 0 → u181 160 23 = h179 160 23 + 1 ∧ h179 160 23 < 3002 := fun y => N249 (by omega)
                              have N253 : h22 160 9 = 0 → TE m h22 0 (RE m (a1 + 1)) (h17 160 22) (u21.2 160 22) u21.1 := fun y => te_w E_h22 (by omega) (by omega) (by omega) (P_u21.2 (by omega))
                              refine pc_sv pc_sign_ ?_; intro u24 P_u24
                              have S_u24 := P_u24.1
                              have z_u24 := S_u24.1; have c_u24 := S_u24.2.2.1
                              have F254 : Fr h u24 n0 := fr_tr F250 (sm_fr (n := n0) S_u24) (by omega)
                              have O255 : ON u24 u176.1 4 u21.1 (-1) (-1) (-1) (h 160 23) 0 := on_sm S_u24 O251
                              have N256 : u24 160 9 = 0 → u181 160 23 = h179 160 23 + 1 ∧ h179 160 23 < 3002 := fun y => N252 (S_u24.2.1 y)
                              have N257 : u24 160 9 = 0 → TE m u24 0 (RE m (a1 + 1)) (h17 160 22) (u21.2 160 22) u21.1 := fun y => te_sm S_u24 (by omega) (N253 (S_u24.2.1 y))
                              refine pc_add (by omega) ?_; intro v26 e_v26
                              subst e_v26
                              refine pc_sv (G.2 (a1 + 1) u24 (by omega) (by omega) (by omega)) ?_; intro u28 P_u28
                              have F_u28 := P_u28.1; have z_u28 := F_u28.1.1; have c_u28 := F_u28.1.2.2
                              have F258 : Fr h u28.2 n0 := fr_tr F254 F_u28 (by omega)
                              have O259 : ON u28.2 u176.1 4 u21.1 (-1) (-1) (-1) (h 160 23) 0 := on_F F_u28 (by omega) (by omega) O255
                              have N260 : u28.2 160 9 = 0 → u181 160 23 = h179 160 23 + 1 ∧ h179 160 23 < 3002 := fun y => N256 (F_u28.1.2.1 y)
                              have N261 : u28.2 160 9 = 0 → TE m u28.2 0 (RE m (a1 + 1)) (h17 160 22) (u21.2 160 22) u21.1 := fun y => te_F F_u28 (by omega) (by omega) (N257 (F_u28.1.2.1 y))
                              have N262 : u28.2 160 9 = 0 → u24 160 23 = h22 160 23 + 1 ∧ h22 160 23 < 3002 := fun y => P_u24.2 (F_u28.1.2.1 y)
                              refine pc_wA ?_; intro p_h29 q_h29 h29 E_h29
                              obtain ⟨x_h29, y_h29, z_h29⟩ := w_nd E_h29 (by decide)
                              have F263 : Fr h h29 n0 := fr_tr F258 (fr_w (n := n0) E_h29 (by decide) (by omega) (by omega) (gi_o E_h29 (by decide))) (by omega)
                              have O264 : ON h29 u176.1 4 u21.1 u28.1 (-1) (-1) (h 160 23) 0 := on_w1 E_h29 O259
                              have N265 : h29 160 9 = 0 → u181 160 23 = h179 160 23 + 1 ∧ h179 160 23 < 3002 := fun y => N260 (by omega)
                              have N266 : h29 160 9 = 0 → TE m h29 0 (RE m (a1 + 1)) (h17 160 22) (u21.2 160 22) u21.1 := fun y => te_w E_h29 (by omega) (by omega) (by omega) (N261 (by omega))
                              have N267 : h29 160 9 = 0 → u24 160 23 = h22 160 23 + 1 ∧ h22 160 23 < 3002 := fun y => N262 (by omega)
                              have N268 : h29 160 9 = 0 → TB m h29 (2 * (40 - (a1 + 1)) + 1) u28.1 (u24 160 22) (u28.2 160 22) (u24 160 23) := fun y => tb_w E_h29 (by omega) (by omega) (by omega) ((cs_tb P_u28) (by omega))
                              refine pc_ret ⟨F263, fun y => ?_⟩
                              have y : h29 160 9 = 0 := y
                              have A269 := N265 y
                              have A270 := N267 y
                              show u176.1 = n0 ∧ h29 169 n0.toNat = h 160 23 ∧ (h29 167 n0.toNat = 2 → h 160 23 + 2 ≤ h29 160 23) ∧ h29 173 n0.toNat = -1 ∧ TE m h29 2 (2 * (40 - a1) + 1) n0 (h29 160 22) u176.1
                              have on0 := O264
                              have en0 : u176.1 = n0 := by omega
                              rw [en0] at on0
                              refine ⟨en0, on0.2.2.2.2.2.1.trans (by omega), fun z => ?_, on0.2.2.2.2.1, ?_⟩
                              · rw [on0.1] at z; omega
                              · skip
                                exact on_loop O264 (by omega) ⟨by omega, by omega, by omega, by omega⟩ (te_wd (N266 y) (by omega) (by omega) (by omega) (by omega)) (by have q := (tb_st (d := 2 * (40 - a1) + 1) (n := h29 160 22) (e := u176.1) (N268 y) (by omega) (by omega) (by omega) (by omega) (by rw [O264.2.2.2.2.2.1]; omega)); rw [O264.2.2.2.2.2.1] at q; exact q)
                            · skip
                              unfold qj_X13_statement_432
                              refine pc_wA ?_; intro p_h17 q_h17 h17 E_h17
                              obtain ⟨x_h17, y_h17, z_h17⟩ := w_nd E_h17 (by decide)
                              have F271 : Fr h h17 n0 := fr_tr F213 (fr_w (n := n0) E_h17 (by decide) (by omega) (by omega) (gi_5 E_h17 (by rw [O214.1]; omega))) (by omega)
                              have O272 : ON h17 u176.1 4 (-1) (-1) (-1) (-1) (h 160 23) 0 := on_wo E_h17 (by decide) O214
                              have N273 : h17 160 9 = 0 → u181 160 23 = h179 160 23 + 1 ∧ h179 160 23 < 3002 := fun y => P_u181.2 (by omega)
                              refine pc_add (by omega) ?_; intro v19 e_v19
                              subst e_v19
                              refine pc_sv (ge_expression (nn := nn) hm (a1 + 1) h17 (by omega) (by omega) (by omega)) ?_; intro u21 P_u21
                              have F_u21 := P_u21.1; have z_u21 := F_u21.1.1; have c_u21 := F_u21.1.2.2
                              have k_u21 := re_le (m := m) (d := 1) (d2 := (a1 + 1)) (by omega)
                              have F274 : Fr h u21.2 n0 := fr_tr F271 F_u21 (by omega)
                              have O275 : ON u21.2 u176.1 4 (-1) (-1) (-1) (-1) (h 160 23) 0 := on_F F_u21 (by omega) (by omega) O272
                              have N276 : u21.2 160 9 = 0 → u181 160 23 = h179 160 23 + 1 ∧ h179 160 23 < 3002 := fun y => N273 (F_u21.1.2.1 y)
                              refine pc_wA ?_; intro p_h22 q_h22 h22 E_h22
                              obtain ⟨x_h22, y_h22, z_h22⟩ := w_nd E_h22 (by decide)
                              have F277 : Fr h h22 n0 := fr_tr F274 (fr_w (n := n0) E_h22 (by decide) (by omega) (by omega) (gi_o E_h22 (by decide))) (by omega)
                              have O278 : ON h22 u176.1 4 u21.1 (-1) (-1) (-1) (h 160 23) 0 := on_w0 E_h22 O275
                              have N279 : h22 160 9 = 0 → u181 160 23 = h179 160 23 + 1 ∧ h179 160 23 < 3002 := fun y => N276 (by omega)
                              have N280 : h22 160 9 = 0 → TE m h22 0 (RE m (a1 + 1)) (h17 160 22) (u21.2 160 22) u21.1 := fun y => te_w E_h22 (by omega) (by omega) (by omega) (P_u21.2 (by omega))
                              refine pc_sv pc_sign_ ?_; intro u24 P_u24
                              have S_u24 := P_u24.1
                              have z_u24 := S_u24.1; have c_u24 := S_u24.2.2.1
                              have F281 : Fr h u24 n0 := fr_tr F277 (sm_fr (n := n0) S_u24) (by omega)
                              have O282 : ON u24 u176.1 4 u21.1 (-1) (-1) (-1) (h 160 23) 0 := on_sm S_u24 O278
                              have N283 : u24 160 9 = 0 → u181 160 23 = h179 160 23 + 1 ∧ h179 160 23 < 3002 := fun y => N279 (S_u24.2.1 y)
                              have N284 : u24 160 9 = 0 → TE m u24 0 (RE m (a1 + 1)) (h17 160 22) (u21.2 160 22) u21.1 := fun y => te_sm S_u24 (by omega) (N280 (S_u24.2.1 y))
                              refine pc_add (by omega) ?_; intro v26 e_v26
                              subst e_v26
                              refine pc_sv (G.2 (a1 + 1) u24 (by omega) (by omega) (by omega)) ?_; intro u28 P_u28
                              have F_u28 := P_u28.1; have z_u28 := F_u28.1.1; have c_u28 := F_u28.1.2.2
                              have F285 : Fr h u28.2 n0 := fr_tr F281 F_u28 (by omega)
                              have O286 : ON u28.2 u176.1 4 u21.1 (-1) (-1) (-1) (h 160 23) 0 := on_F F_u28 (by omega) (by omega) O282
                              have N287 : u28.2 160 9 = 0 → u181 160 23 = h179 160 23 + 1 ∧ h179 160 23 < 3002 := fun y => N283 (F_u28.1.2.1 y)
                              have N288 : u28.2 160 9 = 0 → TE m u28.2 0 (RE m (a1 + 1)) (h17 160 22) (u21.2 160 22) u21.1 := fun y => te_F F_u28 (by omega) (by omega) (N284 (F_u28.1.2.1 y))
                              have N289 : u28.2 160 9 = 0 → u24 160 23 = h22 160 23 + 1 ∧ h22 160 23 < 3002 := fun y => P_u24.2 (F_u28.1.2.1 y)
                              refine pc_wA ?_; intro p_h29 q_h29 h29 E_h29
                              obtain ⟨x_h29, y_h29, z_h29⟩ := w_nd E_h29 (by decide)
                              have F290 : Fr h h29 n0 := fr_tr F285 (fr_w (n := n0) E_h29 (by decide) (by omega) (by omega) (gi_o E_h29 (by decide))) (by omega)
                              have O291 : ON h29 u176.1 4 u21.1 u28.1 (-1) (-1) (h 160 23) 0 := on_w1 E_h29 O286
                              have N292 : h29 160 9 = 0 → u181 160 23 = h179 160 23 + 1 ∧ h179 160 23 < 3002 := fun y => N287 (by omega)
                              have N293 : h29 160 9 = 0 → TE m h29 0 (RE m (a1 + 1)) (h17 160 22) (u21.2 160 22) u21.1 := fun y => te_w E_h29 (by omega) (by omega) (by omega) (N288 (by omega))
                              have N294 : h29 160 9 = 0 → u24 160 23 = h22 160 23 + 1 ∧ h22 160 23 < 3002 := fun y => N289 (by omega)
                              have N295 : h29 160 9 = 0 → TB m h29 (2 * (40 - (a1 + 1)) + 1) u28.1 (u24 160 22) (u28.2 160 22) (u24 160 23) := fun y => tb_w E_h29 (by omega) (by omega) (by omega) ((cs_tb P_u28) (by omega))
                              refine pc_ret ⟨F290, fun y => ?_⟩
                              have y : h29 160 9 = 0 := y
                              have A296 := N292 y
                              have A297 := N294 y
                              show u176.1 = n0 ∧ h29 169 n0.toNat = h 160 23 ∧ (h29 167 n0.toNat = 2 → h 160 23 + 2 ≤ h29 160 23) ∧ h29 173 n0.toNat = -1 ∧ TE m h29 2 (2 * (40 - a1) + 1) n0 (h29 160 22) u176.1
                              have on0 := O291
                              have en0 : u176.1 = n0 := by omega
                              rw [en0] at on0
                              refine ⟨en0, on0.2.2.2.2.2.1.trans (by omega), fun z => ?_, on0.2.2.2.2.1, ?_⟩
                              · rw [on0.1] at z; omega
                              · skip
                                exact on_loop O291 (by omega) ⟨by omega, by omega, by omega, by omega⟩ (te_wd (N293 y) (by omega) (by omega) (by omega) (by omega)) (by have q := (tb_st (d := 2 * (40 - a1) + 1) (n := h29 160 22) (e := u176.1) (N295 y) (by omega) (by omega) (by omega) (by omega) (by rw [O291.2.2.2.2.2.1]; omega)); rw [O291.2.2.2.2.2.1] at q; exact q)
                        · skip
                          unfold qj_X13_statement_755
                          refine pc_sv (ge_plain hm (by omega) (by omega)) ?_; intro u2 P_u2
                          have F_u2 := P_u2.1; have z_u2 := F_u2.1.1; have c_u2 := F_u2.1.2.2
                          have F298 : Fr h u2.2 n0 := fr_tr F0 F_u2 (by omega)
                          refine pc_ret ⟨F298, fun y => ?_⟩
                          have y : u2.2 160 9 = 0 := y
                          show u2.1 = n0 ∧ u2.2 169 n0.toNat = h 160 23 ∧ (u2.2 167 n0.toNat = 2 → h 160 23 + 2 ≤ u2.2 160 23) ∧ u2.2 173 n0.toNat = -1 ∧ TE m u2.2 2 (2 * (40 - a1) + 1) n0 (u2.2 160 22) u2.1
                          obtain ⟨w1, w2, w3, w5, w4⟩ := P_u2.2 y; rw [hn0] at w1 w2 w3 w4 w5; exact ⟨w1, w2, w3, w5, te_wd w4 (by omega) (by omega) (by omega) (by omega)⟩
        · skip
          refine pc_sv (ge_plain hm (by omega) (by omega)) ?_; intro u193 P_u193
          have F_u193 := P_u193.1; have z_u193 := F_u193.1.1; have c_u193 := F_u193.1.2.2
          have F299 : Fr h u193.2 n0 := fr_tr F0 F_u193 (by omega)
          refine pc_ret ⟨F299, fun y => ?_⟩
          have y : u193.2 160 9 = 0 := y
          show u193.1 = n0 ∧ u193.2 169 n0.toNat = h 160 23 ∧ (u193.2 167 n0.toNat = 2 → h 160 23 + 2 ≤ u193.2 160 23) ∧ u193.2 173 n0.toNat = -1 ∧ TE m u193.2 2 (2 * (40 - a1) + 1) n0 (u193.2 160 22) u193.1
          obtain ⟨w1, w2, w3, w5, w4⟩ := P_u193.2 y; rw [hn0] at w1 w2 w3 w4 w5; exact ⟨w1, w2, w3, w5, te_wd w4 (by omega) (by omega) (by omega) (by omega)⟩
      · skip
        refine pc_sv pc_type ?_; intro u196 P_u196
        have S_u196 := P_u196.1
        have z_u196 := S_u196.1; have c_u196 := S_u196.2.2.1
        have F300 : Fr h u196 n0 := fr_tr F0 (sm_fr (n := n0) S_u196) (by omega)
        refine pc_sv pc_ad ?_; intro u198 A_u198
        obtain ⟨⟨a0_u198, a1_u198, a2_u198, a3_u198, a4_u198, a5_u198, a6_u198⟩, F_u198, O_u198⟩ := A_u198
        have F301 : Fr h u198.2 n0 := fr_tr F300 F_u198 (by omega)
        have N302 : u198.2 160 9 = 0 → u196 160 46 = h 160 23 := fun y => P_u196.2 (F_u198.1.2.1 y)
        refine pc_xl ?_; intro v201 e_v201
        refine pc_if (fun C303 => ?_) (fun C303 => ?_)
        · skip
          unfold qj_X13_statement_78
          refine pc_xl ?_; intro v49 e_v49
          refine pc_wA ?_; intro p_h50 q_h50 h50 E_h50
          obtain ⟨x_h50, y_h50, z_h50⟩ := w_nd E_h50 (by decide)
          have F304 : Fr h h50 n0 := fr_tr F301 (fr_w (n := n0) E_h50 (by decide) (by omega) (by omega) (gi_o E_h50 (by decide))) (by omega)
          have O305 : ON h50 u198.1 2 (-1) (-1) v49 (-1) (h 160 23) 0 := on_w2 E_h50 O_u198
          have N306 : h50 160 9 = 0 → u196 160 46 = h 160 23 := fun y => N302 (by omega)
          refine pc_wA ?_; intro p_h53 q_h53 h53 E_h53
          obtain ⟨x_h53, y_h53, z_h53⟩ := w_nd E_h53 (by decide)
          have F307 : Fr h h53 n0 := fr_tr F304 (fr_w (n := n0) E_h53 (by decide) (by omega) (by omega) (gi_5 E_h53 (by rw [O305.1]; omega))) (by omega)
          have O308 : ON h53 u198.1 2 (-1) (-1) v49 (-1) (h 160 23) 0 := on_wo E_h53 (by decide) O305
          have N309 : h53 160 9 = 0 → u196 160 46 = h 160 23 := fun y => N306 (by omega)
          refine pc_sv pc_name ?_; intro u56 P_u56
          have S_u56 := P_u56.1
          have z_u56 := S_u56.1; have c_u56 := S_u56.2.2.1
          have n_u56 := P_u56.2.1
          have F310 : Fr h u56.2 n0 := fr_tr F307 (sm_fr (n := n0) S_u56) (by omega)
          have O311 : ON u56.2 u198.1 2 (-1) (-1) v49 (-1) (h 160 23) 0 := on_sm S_u56 O308
          have N312 : u56.2 160 9 = 0 → u196 160 46 = h 160 23 := fun y => N309 (S_u56.2.1 y)
          refine pc_wA ?_; intro p_h57 q_h57 h57 E_h57
          obtain ⟨x_h57, y_h57, z_h57⟩ := w_nd E_h57 (by decide)
          have F313 : Fr h h57 n0 := fr_tr F310 (fr_w (n := n0) E_h57 (by decide) (by omega) (by omega) (gi_o E_h57 (by decide))) (by omega)
          have O314 : ON h57 u198.1 2 (-1) (-1) v49 (-1) (h 160 23) 0 := on_wo E_h57 (by decide) O311
          have N315 : h57 160 9 = 0 → u196 160 46 = h 160 23 := fun y => N312 (by omega)
          have N316 : h57 160 9 = 0 → u56.2 160 23 = h53 160 23 + 1 ∧ u56.1 = h53 160 23 := fun y => P_u56.2.2 (by omega)
          refine pc_wA ?_; intro p_h60 q_h60 h60 E_h60
          obtain ⟨x_h60, y_h60, z_h60⟩ := w_nd E_h60 (by decide)
          have F317 : Fr h h60 n0 := fr_tr F313 (fr_w (n := n0) E_h60 (by decide) (by omega) (by omega) (gi_6 E_h60 (by omega))) (by omega)
          have O318 : ON h60 u198.1 2 (-1) (-1) v49 (-1) (h 160 23) (h57 160 23) := on_ws E_h60 O314
          have N319 : h60 160 9 = 0 → u196 160 46 = h 160 23 := fun y => N315 (by omega)
          have N320 : h60 160 9 = 0 → u56.2 160 23 = h53 160 23 + 1 ∧ u56.1 = h53 160 23 := fun y => N316 (by omega)
          refine pc_sv pc_sign_ ?_; intro u62 P_u62
          have S_u62 := P_u62.1
          have z_u62 := S_u62.1; have c_u62 := S_u62.2.2.1
          have F321 : Fr h u62 n0 := fr_tr F317 (sm_fr (n := n0) S_u62) (by omega)
          have O322 : ON u62 u198.1 2 (-1) (-1) v49 (-1) (h 160 23) (h57 160 23) := on_sm S_u62 O318
          have N323 : u62 160 9 = 0 → u196 160 46 = h 160 23 := fun y => N319 (S_u62.2.1 y)
          have N324 : u62 160 9 = 0 → u56.2 160 23 = h53 160 23 + 1 ∧ u56.1 = h53 160 23 := fun y => N320 (S_u62.2.1 y)
          refine pc_add (by omega) ?_; intro v64 e_v64
          subst e_v64
          refine pc_sv (ge_expression (nn := nn) hm (a1 + 1) u62 (by omega) (by omega) (by omega)) ?_; intro u66 P_u66
          have F_u66 := P_u66.1; have z_u66 := F_u66.1.1; have c_u66 := F_u66.1.2.2
          have k_u66 := re_le (m := m) (d := 1) (d2 := (a1 + 1)) (by omega)
          have F325 : Fr h u66.2 n0 := fr_tr F321 F_u66 (by omega)
          have O326 : ON u66.2 u198.1 2 (-1) (-1) v49 (-1) (h 160 23) (h57 160 23) := on_F F_u66 (by omega) (by omega) O322
          have N327 : u66.2 160 9 = 0 → u196 160 46 = h 160 23 := fun y => N323 (F_u66.1.2.1 y)
          have N328 : u66.2 160 9 = 0 → u56.2 160 23 = h53 160 23 + 1 ∧ u56.1 = h53 160 23 := fun y => N324 (F_u66.1.2.1 y)
          have N329 : u66.2 160 9 = 0 → u62 160 23 = h60 160 23 + 1 ∧ h60 160 23 < 3002 := fun y => P_u62.2 (F_u66.1.2.1 y)
          refine pc_wA ?_; intro p_h67 q_h67 h67 E_h67
          obtain ⟨x_h67, y_h67, z_h67⟩ := w_nd E_h67 (by decide)
          have F330 : Fr h h67 n0 := fr_tr F325 (fr_w (n := n0) E_h67 (by decide) (by omega) (by omega) (gi_o E_h67 (by decide))) (by omega)
          have O331 : ON h67 u198.1 2 u66.1 (-1) v49 (-1) (h 160 23) (h57 160 23) := on_w0 E_h67 O326
          have N332 : h67 160 9 = 0 → u196 160 46 = h 160 23 := fun y => N327 (by omega)
          have N333 : h67 160 9 = 0 → u56.2 160 23 = h53 160 23 + 1 ∧ u56.1 = h53 160 23 := fun y => N328 (by omega)
          have N334 : h67 160 9 = 0 → u62 160 23 = h60 160 23 + 1 ∧ h60 160 23 < 3002 := fun y => N329 (by omega)
          have N335 : h67 160 9 = 0 → TE m h67 0 (RE m (a1 + 1)) (u62 160 22) (u66.2 160 22) u66.1 := fun y => te_w E_h67 (by omega) (by omega) (by omega) (P_u66.2 (by omega))
          refine pc_sv pc_sign_ ?_; intro u69 P_u69
          have S_u69 := P_u69.1
          have z_u69 := S_u69.1; have c_u69 := S_u69.2.2.1
          have F336 : Fr h u69 n0 := fr_tr F330 (sm_fr (n := n0) S_u69) (by omega)
          have O337 : ON u69 u198.1 2 u66.1 (-1) v49 (-1) (h 160 23) (h57 160 23) := on_sm S_u69 O331
          have N338 : u69 160 9 = 0 → u196 160 46 = h 160 23 := fun y => N332 (S_u69.2.1 y)
          have N339 : u69 160 9 = 0 → u56.2 160 23 = h53 160 23 + 1 ∧ u56.1 = h53 160 23 := fun y => N333 (S_u69.2.1 y)
          have N340 : u69 160 9 = 0 → u62 160 23 = h60 160 23 + 1 ∧ h60 160 23 < 3002 := fun y => N334 (S_u69.2.1 y)
          have N341 : u69 160 9 = 0 → TE m u69 0 (RE m (a1 + 1)) (u62 160 22) (u66.2 160 22) u66.1 := fun y => te_sm S_u69 (by omega) (N335 (S_u69.2.1 y))
          refine pc_ret ⟨F336, fun y => ?_⟩
          have y : u69 160 9 = 0 := y
          have A342 := N338 y
          have A343 := N339 y
          have A344 := N340 y
          have A345 := P_u69.2 y
          show u198.1 = n0 ∧ u69 169 n0.toNat = h 160 23 ∧ (u69 167 n0.toNat = 2 → h 160 23 + 2 ≤ u69 160 23) ∧ u69 173 n0.toNat = -1 ∧ TE m u69 2 (2 * (40 - a1) + 1) n0 (u69 160 22) u198.1
          have on0 := O337
          have en0 : u198.1 = n0 := by omega
          rw [en0] at on0
          refine ⟨en0, on0.2.2.2.2.2.1.trans (by omega), fun z => ?_, on0.2.2.2.2.1, ?_⟩
          · rw [on0.1] at z; omega
          · skip
            have m1 := oq_mul_eq (x := 4) (y := (u198.2 160 46)) (by omega) (by omega) (by omega)
            have m2 := oq_add_eq (x := v201) (y := 0) (by omega) (by omega) (by omega)
            exact on_var O337 (by omega) ⟨by omega, by omega, by omega, by omega⟩ (te_wd (N341 y) (by omega) (by omega) (by omega) (by omega))
        · skip
          unfold qj_X13_statement_78
          refine pc_xl ?_; intro v49 e_v49
          refine pc_wA ?_; intro p_h50 q_h50 h50 E_h50
          obtain ⟨x_h50, y_h50, z_h50⟩ := w_nd E_h50 (by decide)
          have F346 : Fr h h50 n0 := fr_tr F301 (fr_w (n := n0) E_h50 (by decide) (by omega) (by omega) (gi_o E_h50 (by decide))) (by omega)
          have O347 : ON h50 u198.1 2 (-1) (-1) v49 (-1) (h 160 23) 0 := on_w2 E_h50 O_u198
          have N348 : h50 160 9 = 0 → u196 160 46 = h 160 23 := fun y => N302 (by omega)
          refine pc_wA ?_; intro p_h53 q_h53 h53 E_h53
          obtain ⟨x_h53, y_h53, z_h53⟩ := w_nd E_h53 (by decide)
          have F349 : Fr h h53 n0 := fr_tr F346 (fr_w (n := n0) E_h53 (by decide) (by omega) (by omega) (gi_5 E_h53 (by rw [O347.1]; omega))) (by omega)
          have O350 : ON h53 u198.1 2 (-1) (-1) v49 (-1) (h 160 23) 0 := on_wo E_h53 (by decide) O347
          have N351 : h53 160 9 = 0 → u196 160 46 = h 160 23 := fun y => N348 (by omega)
          refine pc_sv pc_name ?_; intro u56 P_u56
          have S_u56 := P_u56.1
          have z_u56 := S_u56.1; have c_u56 := S_u56.2.2.1
          have n_u56 := P_u56.2.1
          have F352 : Fr h u56.2 n0 := fr_tr F349 (sm_fr (n := n0) S_u56) (by omega)
          have O353 : ON u56.2 u198.1 2 (-1) (-1) v49 (-1) (h 160 23) 0 := on_sm S_u56 O350
          have N354 : u56.2 160 9 = 0 → u196 160 46 = h 160 23 := fun y => N351 (S_u56.2.1 y)
          refine pc_wA ?_; intro p_h57 q_h57 h57 E_h57
          obtain ⟨x_h57, y_h57, z_h57⟩ := w_nd E_h57 (by decide)
          have F355 : Fr h h57 n0 := fr_tr F352 (fr_w (n := n0) E_h57 (by decide) (by omega) (by omega) (gi_o E_h57 (by decide))) (by omega)
          have O356 : ON h57 u198.1 2 (-1) (-1) v49 (-1) (h 160 23) 0 := on_wo E_h57 (by decide) O353
          have N357 : h57 160 9 = 0 → u196 160 46 = h 160 23 := fun y => N354 (by omega)
          have N358 : h57 160 9 = 0 → u56.2 160 23 = h53 160 23 + 1 ∧ u56.1 = h53 160 23 := fun y => P_u56.2.2 (by omega)
          refine pc_wA ?_; intro p_h60 q_h60 h60 E_h60
          obtain ⟨x_h60, y_h60, z_h60⟩ := w_nd E_h60 (by decide)
          have F359 : Fr h h60 n0 := fr_tr F355 (fr_w (n := n0) E_h60 (by decide) (by omega) (by omega) (gi_6 E_h60 (by omega))) (by omega)
          have O360 : ON h60 u198.1 2 (-1) (-1) v49 (-1) (h 160 23) (h57 160 23) := on_ws E_h60 O356
          have N361 : h60 160 9 = 0 → u196 160 46 = h 160 23 := fun y => N357 (by omega)
          have N362 : h60 160 9 = 0 → u56.2 160 23 = h53 160 23 + 1 ∧ u56.1 = h53 160 23 := fun y => N358 (by omega)
          refine pc_sv pc_sign_ ?_; intro u62 P_u62
          have S_u62 := P_u62.1
          have z_u62 := S_u62.1; have c_u62 := S_u62.2.2.1
          have F363 : Fr h u62 n0 := fr_tr F359 (sm_fr (n := n0) S_u62) (by omega)
          have O364 : ON u62 u198.1 2 (-1) (-1) v49 (-1) (h 160 23) (h57 160 23) := on_sm S_u62 O360
          have N365 : u62 160 9 = 0 → u196 160 46 = h 160 23 := fun y => N361 (S_u62.2.1 y)
          have N366 : u62 160 9 = 0 → u56.2 160 23 = h53 160 23 + 1 ∧ u56.1 = h53 160 23 := fun y => N362 (S_u62.2.1 y)
          refine pc_add (by omega) ?_; intro v64 e_v64
          subst e_v64
          refine pc_sv (ge_expression (nn := nn) hm (a1 + 1) u62 (by omega) (by omega) (by omega)) ?_; intro u66 P_u66
          have F_u66 := P_u66.1; have z_u66 := F_u66.1.1; have c_u66 := F_u66.1.2.2
          have k_u66 := re_le (m := m) (d := 1) (d2 := (a1 + 1)) (by omega)
          have F367 : Fr h u66.2 n0 := fr_tr F363 F_u66 (by omega)
          have O368 : ON u66.2 u198.1 2 (-1) (-1) v49 (-1) (h 160 23) (h57 160 23) := on_F F_u66 (by omega) (by omega) O364
          have N369 : u66.2 160 9 = 0 → u196 160 46 = h 160 23 := fun y => N365 (F_u66.1.2.1 y)
          have N370 : u66.2 160 9 = 0 → u56.2 160 23 = h53 160 23 + 1 ∧ u56.1 = h53 160 23 := fun y => N366 (F_u66.1.2.1 y)
          have N371 : u66.2 160 9 = 0 → u62 160 23 = h60 160 23 + 1 ∧ h60 160 23 < 3002 := fun y => P_u62.2 (F_u66.1.2.1 y)
          refine pc_wA ?_; intro p_h67 q_h67 h67 E_h67
          obtain ⟨x_h67, y_h67, z_h67⟩ := w_nd E_h67 (by decide)
          have F372 : Fr h h67 n0 := fr_tr F367 (fr_w (n := n0) E_h67 (by decide) (by omega) (by omega) (gi_o E_h67 (by decide))) (by omega)
          have O373 : ON h67 u198.1 2 u66.1 (-1) v49 (-1) (h 160 23) (h57 160 23) := on_w0 E_h67 O368
          have N374 : h67 160 9 = 0 → u196 160 46 = h 160 23 := fun y => N369 (by omega)
          have N375 : h67 160 9 = 0 → u56.2 160 23 = h53 160 23 + 1 ∧ u56.1 = h53 160 23 := fun y => N370 (by omega)
          have N376 : h67 160 9 = 0 → u62 160 23 = h60 160 23 + 1 ∧ h60 160 23 < 3002 := fun y => N371 (by omega)
          have N377 : h67 160 9 = 0 → TE m h67 0 (RE m (a1 + 1)) (u62 160 22) (u66.2 160 22) u66.1 := fun y => te_w E_h67 (by omega) (by omega) (by omega) (P_u66.2 (by omega))
          refine pc_sv pc_sign_ ?_; intro u69 P_u69
          have S_u69 := P_u69.1
          have z_u69 := S_u69.1; have c_u69 := S_u69.2.2.1
          have F378 : Fr h u69 n0 := fr_tr F372 (sm_fr (n := n0) S_u69) (by omega)
          have O379 : ON u69 u198.1 2 u66.1 (-1) v49 (-1) (h 160 23) (h57 160 23) := on_sm S_u69 O373
          have N380 : u69 160 9 = 0 → u196 160 46 = h 160 23 := fun y => N374 (S_u69.2.1 y)
          have N381 : u69 160 9 = 0 → u56.2 160 23 = h53 160 23 + 1 ∧ u56.1 = h53 160 23 := fun y => N375 (S_u69.2.1 y)
          have N382 : u69 160 9 = 0 → u62 160 23 = h60 160 23 + 1 ∧ h60 160 23 < 3002 := fun y => N376 (S_u69.2.1 y)
          have N383 : u69 160 9 = 0 → TE m u69 0 (RE m (a1 + 1)) (u62 160 22) (u66.2 160 22) u66.1 := fun y => te_sm S_u69 (by omega) (N377 (S_u69.2.1 y))
          refine pc_ret ⟨F378, fun y => ?_⟩
          have y : u69 160 9 = 0 := y
          have A384 := N380 y
          have A385 := N381 y
          have A386 := N382 y
          have A387 := P_u69.2 y
          show u198.1 = n0 ∧ u69 169 n0.toNat = h 160 23 ∧ (u69 167 n0.toNat = 2 → h 160 23 + 2 ≤ u69 160 23) ∧ u69 173 n0.toNat = -1 ∧ TE m u69 2 (2 * (40 - a1) + 1) n0 (u69 160 22) u198.1
          have on0 := O379
          have en0 : u198.1 = n0 := by omega
          rw [en0] at on0
          refine ⟨en0, on0.2.2.2.2.2.1.trans (by omega), fun z => ?_, on0.2.2.2.2.1, ?_⟩
          · rw [on0.1] at z; omega
          · skip
            have m1 := oq_mul_eq (x := 4) (y := (u198.2 160 46)) (by omega) (by omega) (by omega)
            have m2 := oq_add_eq (x := v201) (y := 2) (by omega) (by omega) (by omega)
            exact on_var O379 (by omega) ⟨by omega, by omega, by omega, by omega⟩ (te_wd (N383 y) (by omega) (by omega) (by omega) (by omega))
    · skip
      refine pc_add (by omega) ?_; intro v205 e_v205
      subst e_v205
      refine pc_sv (G.1 (a1 + 1) h (by omega) (by omega) (by omega)) ?_; intro u207 P_u207
      have F_u207 := P_u207.1; have z_u207 := F_u207.1.1; have c_u207 := F_u207.1.2.2
      have F388 : Fr h u207.2 n0 := fr_tr F0 F_u207 (by omega)
      refine pc_ret ⟨F388, fun y => ?_⟩
      have y : u207.2 160 9 = 0 := y
      show u207.1 = n0 ∧ u207.2 169 n0.toNat = h 160 23 ∧ (u207.2 167 n0.toNat = 2 → h 160 23 + 2 ≤ u207.2 160 23) ∧ u207.2 173 n0.toNat = -1 ∧ TE m u207.2 2 (2 * (40 - a1) + 1) n0 (u207.2 160 22) u207.1
      obtain ⟨w1, w2, w3, w5, w4⟩ := P_u207.2 y; rw [hn0] at w1 w2 w3 w4 w5; exact ⟨w1, w2, w3, w5, te_wd w4 (by omega) (by omega) (by omega) (by omega)⟩
  · rw [if_neg d1]
    have S_u71 := P_u71.1
    have z_u71 := S_u71.1
    have F389 : Fr h u71.2 n0 := fr_tr F0 (sm_fr (n := n0) S_u71) (by omega)
    exact pc_ret ⟨F389, fun y => (d2 y).elim⟩
theorem gs_all {nn : Nat} {m : Int} (hm : m = 0 ∨ m = 1) : ∀ n, GS m (qg_X13_block nn n) := by
  intro n
  induction n with
  | zero => exact ⟨fun _ _ _ _ _ => pc_none, fun _ _ _ _ _ => pc_none⟩
  | succ n G => exact ⟨fun d h a b c => go_block hm G ⟨a, b⟩ c, fun d h a b c => go_statement hm G ⟨a, b⟩ c⟩
theorem ge_block {nn : Nat} {m : Int} (hm : m = 0 ∨ m = 1) (d : Int) (h : ms_M) (a : 0 ≤ d) (b : d ≤ 40) (c : 0 ≤ h 160 22) : Pc (qf_X13_block nn d h) (CS m (2 * (40 - d) + 2) h) := (gs_all hm 160).1 d h a b c
