/-- what a reader of an expression tells of the tree -/
def CE (m K : Int) (h : ms_M) (u : Int × ms_M) : Prop := Fr h u.2 (h 160 22) ∧ (u.2 160 9 = 0 → TE m u.2 0 K (h 160 22) (u.2 160 22) u.1 ∧ CC u.2 + h 160 23 ≤ CC h + u.2 160 23)
def CA (m K : Int) (h : ms_M) (u : Int × ms_M) : Prop := Fr h u.2 (h 160 22) ∧ (u.2 160 9 = 0 → TE m u.2 1 K (h 160 22) (u.2 160 22) u.1 ∧ CC u.2 + h 160 23 ≤ CC h + u.2 160 23)
def GT (m : Int) (rc : tq_X13_expression) : Prop :=
  (∀ d h, 0 ≤ d → d ≤ 40 → 0 ≤ h 160 22 → Pc (rc.1 d h) (CE m (RE m d) h)) ∧
  (∀ l d h, 0 ≤ l → l ≤ 10 → 0 ≤ d → d ≤ 40 → 0 ≤ h 160 22 → Pc (rc.2.1 l d h) (CE m (RE m d + 3 + 2 * m + 3 * (10 - l)) h)) ∧
  (∀ d h, 0 ≤ d → d ≤ 40 → 0 ≤ h 160 22 → Pc (rc.2.2.1 d h) (CE m (RE m d + 3 + 2 * m) h)) ∧
  (∀ d h, 0 ≤ d → d ≤ 40 → 0 ≤ h 160 22 → Pc (rc.2.2.2.1 d h) (CA m (RE m d) h)) ∧
  (∀ d h, 0 ≤ d → d ≤ 40 → 0 ≤ h 160 22 → Pc (rc.2.2.2.2.1 d h) (CE m (RE m d + 3 + 2 * m) h)) ∧
  (∀ d h, 0 ≤ d → d ≤ 40 → 0 ≤ h 160 22 → Pc (rc.2.2.2.2.2.1 d h) (CE m (RE m d + 3 + 2 * m) h)) ∧
  (∀ d h, 0 ≤ d → d ≤ 40 → 0 ≤ h 160 22 → (0 ≤ h 160 23 ∧ h 160 23 < 3008) → Pc (rc.2.2.2.2.2.2 d h) (CE m (RE m d + 3 + 2 * m) h))
set_option maxHeartbeats 8000000 in
theorem go_expression {nn : Nat} {m : Int} (hm : m = 0 ∨ m = 1) {rc : tq_X13_expression} (G : GT m rc) {a1 : Int} {h : ms_M} (ha : 0 ≤ a1 ∧ a1 ≤ 40) (hh : 0 ≤ h 160 22) : Pc (qo_X13_expression nn rc a1 h) (CE m (RE m a1) h) := by
  unfold qo_X13_expression CE
  generalize hn0 : h 160 22 = n0
  have F0 : Fr h h n0 := fr_rf
  have r0 := re_s (m := m) (d := a1) hm
  have r1 := re_1 (m := m) (d := a1) (by omega)
  have hm2 : 0 ≤ m ∧ m ≤ 1 := by omega
  have hmn : Nonempty (m = 0 ∨ m = 1) := ⟨hm⟩
  clear hm
  refine pc_sv pc_isDeep ?_; intro u2 P_u2
  rcases P_u2.2 with ⟨d1, d2, d3, d4⟩ | ⟨d1, d2⟩
  · rw [if_pos d1, d4]
    have r2 := re_1 (m := m) (d := a1 + 1) (by omega)
    refine pc_add (by omega) ?_; intro v4 e_v4
    subst e_v4
    refine pc_sv (G.2.1 0 (a1 + 1) h (by omega) (by omega) (by omega) (by omega) (by omega)) ?_; intro u6 P_u6
    have F_u6 := P_u6.1; have z_u6 := F_u6.1.1; have c_u6 := F_u6.1.2.2
    have F1 : Fr h u6.2 n0 := fr_tr F0 F_u6 (by omega)
    refine pc_if (fun C2 => ?_) (fun C2 => ?_)
    · skip
      exact pc_ret ⟨F1, fun y => (C2 y).elim⟩
    · skip
      refine pc_sv pc_isSign ?_; intro u10 b_u10
      refine pc_if (fun C3 => ?_) (fun C3 => ?_)
      · skip
        refine pc_sv pc_ad ?_; intro u13 A_u13
        obtain ⟨⟨a0_u13, a1_u13, a2_u13, a3_u13, a4_u13, a5_u13, a6_u13⟩, F_u13, O_u13, C_u13⟩ := A_u13
        have w_u13 : wt 39 = 2 := by decide
        have F4 : Fr h u13.2 n0 := fr_tr F1 F_u13 (by omega)
        have N5 : u13.2 160 9 = 0 → CC u6.2 + h 160 23 ≤ CC h + u6.2 160 23 := fun y => (fun y => (P_u6.2 y).2) (F_u13.1.2.1 y)
        have N6 : u13.2 160 9 = 0 → TE m u13.2 0 (RE m (a1 + 1) + 3 + 2 * m + 3 * (10 - 0)) (h 160 22) (u6.2 160 22) u6.1 := fun y => te_F F_u13 (by omega) (by omega) ((fun y => (P_u6.2 y).1) (F_u13.1.2.1 y))
        refine pc_add (by omega) ?_; intro v15 e_v15
        refine pc_xl ?_; intro h16 E_h16
        obtain ⟨S_h16, c_h16, f_h16⟩ := sm_cur E_h16 (by omega)
        have z_h16 := S_h16.1
        have F7 : Fr h h16 n0 := fr_tr F4 (sm_fr (n := n0) S_h16) (by omega)
        have D8 := cc_sm S_h16
        have O9 : ON h16 u13.1 39 (-1) (-1) (-1) (-1) (h 160 23) 0 := on_sm S_h16 O_u13
        have N10 : h16 160 9 = 0 → CC u6.2 + h 160 23 ≤ CC h + u6.2 160 23 := fun y => N5 (S_h16.2.1 y)
        have N11 : h16 160 9 = 0 → TE m h16 0 (RE m (a1 + 1) + 3 + 2 * m + 3 * (10 - 0)) (h 160 22) (u6.2 160 22) u6.1 := fun y => te_sm S_h16 (by omega) (N6 (S_h16.2.1 y))
        refine pc_wA ?_; intro p_h18 q_h18 h18 E_h18
        obtain ⟨x_h18, y_h18, z_h18⟩ := w_nd E_h18 (by decide)
        have F12 : Fr h h18 n0 := fr_tr F7 (fr_w (n := n0) E_h18 (by decide) (by omega) (by omega) (gi_o E_h18 (by decide))) (by omega)
        have D13 := cc_wo E_h18 (by decide)
        have O14 : ON h18 u13.1 39 u6.1 (-1) (-1) (-1) (h 160 23) 0 := on_w0 E_h18 O9
        have N15 : h18 160 9 = 0 → CC u6.2 + h 160 23 ≤ CC h + u6.2 160 23 := fun y => N10 (by omega)
        have N16 : h18 160 9 = 0 → TE m h18 0 (RE m (a1 + 1) + 3 + 2 * m + 3 * (10 - 0)) (h 160 22) (u6.2 160 22) u6.1 := fun y => te_w E_h18 (by omega) (by omega) (by omega) (N11 (by omega))
        refine pc_add (by omega) ?_; intro v20 e_v20
        subst e_v20
        refine pc_sv (G.1 (a1 + 1) h18 (by omega) (by omega) (by omega)) ?_; intro u22 P_u22
        have F_u22 := P_u22.1; have z_u22 := F_u22.1.1; have c_u22 := F_u22.1.2.2
        have F17 : Fr h u22.2 n0 := fr_tr F12 F_u22 (by omega)
        have O18 : ON u22.2 u13.1 39 u6.1 (-1) (-1) (-1) (h 160 23) 0 := on_F F_u22 (by omega) (by omega) O14
        have N19 : u22.2 160 9 = 0 → CC u6.2 + h 160 23 ≤ CC h + u6.2 160 23 := fun y => N15 (F_u22.1.2.1 y)
        have N20 : u22.2 160 9 = 0 → TE m u22.2 0 (RE m (a1 + 1) + 3 + 2 * m + 3 * (10 - 0)) (h 160 22) (u6.2 160 22) u6.1 := fun y => te_F F_u22 (by omega) (by omega) (N16 (F_u22.1.2.1 y))
        refine pc_wA ?_; intro p_h23 q_h23 h23 E_h23
        obtain ⟨x_h23, y_h23, z_h23⟩ := w_nd E_h23 (by decide)
        have F21 : Fr h h23 n0 := fr_tr F17 (fr_w (n := n0) E_h23 (by decide) (by omega) (by omega) (gi_o E_h23 (by decide))) (by omega)
        have D22 := cc_wo E_h23 (by decide)
        have O23 : ON h23 u13.1 39 u6.1 u22.1 (-1) (-1) (h 160 23) 0 := on_w1 E_h23 O18
        have N24 : h23 160 9 = 0 → CC u6.2 + h 160 23 ≤ CC h + u6.2 160 23 := fun y => N19 (by omega)
        have N25 : h23 160 9 = 0 → TE m h23 0 (RE m (a1 + 1) + 3 + 2 * m + 3 * (10 - 0)) (h 160 22) (u6.2 160 22) u6.1 := fun y => te_w E_h23 (by omega) (by omega) (by omega) (N20 (by omega))
        have N26 : h23 160 9 = 0 → CC u22.2 + h18 160 23 ≤ CC h18 + u22.2 160 23 := fun y => (fun y => (P_u22.2 y).2) (by omega)
        have N27 : h23 160 9 = 0 → TE m h23 0 (RE m (a1 + 1)) (h18 160 22) (u22.2 160 22) u22.1 := fun y => te_w E_h23 (by omega) (by omega) (by omega) ((fun y => (P_u22.2 y).1) (by omega))
        refine pc_sv pc_sign_ ?_; intro u25 P_u25
        have S_u25 := P_u25.1
        have z_u25 := S_u25.1; have c_u25 := S_u25.2.2.1
        have F28 : Fr h u25 n0 := fr_tr F21 (sm_fr (n := n0) S_u25) (by omega)
        have D29 := cc_sm S_u25
        have O30 : ON u25 u13.1 39 u6.1 u22.1 (-1) (-1) (h 160 23) 0 := on_sm S_u25 O23
        have N31 : u25 160 9 = 0 → CC u6.2 + h 160 23 ≤ CC h + u6.2 160 23 := fun y => N24 (S_u25.2.1 y)
        have N32 : u25 160 9 = 0 → TE m u25 0 (RE m (a1 + 1) + 3 + 2 * m + 3 * (10 - 0)) (h 160 22) (u6.2 160 22) u6.1 := fun y => te_sm S_u25 (by omega) (N25 (S_u25.2.1 y))
        have N33 : u25 160 9 = 0 → CC u22.2 + h18 160 23 ≤ CC h18 + u22.2 160 23 := fun y => N26 (S_u25.2.1 y)
        have N34 : u25 160 9 = 0 → TE m u25 0 (RE m (a1 + 1)) (h18 160 22) (u22.2 160 22) u22.1 := fun y => te_sm S_u25 (by omega) (N27 (S_u25.2.1 y))
        refine pc_add (by omega) ?_; intro v27 e_v27
        subst e_v27
        refine pc_sv (G.1 (a1 + 1) u25 (by omega) (by omega) (by omega)) ?_; intro u29 P_u29
        have F_u29 := P_u29.1; have z_u29 := F_u29.1.1; have c_u29 := F_u29.1.2.2
        have F35 : Fr h u29.2 n0 := fr_tr F28 F_u29 (by omega)
        have O36 : ON u29.2 u13.1 39 u6.1 u22.1 (-1) (-1) (h 160 23) 0 := on_F F_u29 (by omega) (by omega) O30
        have N37 : u29.2 160 9 = 0 → CC u6.2 + h 160 23 ≤ CC h + u6.2 160 23 := fun y => N31 (F_u29.1.2.1 y)
        have N38 : u29.2 160 9 = 0 → TE m u29.2 0 (RE m (a1 + 1) + 3 + 2 * m + 3 * (10 - 0)) (h 160 22) (u6.2 160 22) u6.1 := fun y => te_F F_u29 (by omega) (by omega) (N32 (F_u29.1.2.1 y))
        have N39 : u29.2 160 9 = 0 → CC u22.2 + h18 160 23 ≤ CC h18 + u22.2 160 23 := fun y => N33 (F_u29.1.2.1 y)
        have N40 : u29.2 160 9 = 0 → TE m u29.2 0 (RE m (a1 + 1)) (h18 160 22) (u22.2 160 22) u22.1 := fun y => te_F F_u29 (by omega) (by omega) (N34 (F_u29.1.2.1 y))
        have N41 : u29.2 160 9 = 0 → u25 160 23 = h23 160 23 + 1 ∧ h23 160 23 < 3002 := fun y => P_u25.2 (F_u29.1.2.1 y)
        refine pc_wA ?_; intro p_h30 q_h30 h30 E_h30
        obtain ⟨x_h30, y_h30, z_h30⟩ := w_nd E_h30 (by decide)
        have F42 : Fr h h30 n0 := fr_tr F35 (fr_w (n := n0) E_h30 (by decide) (by omega) (by omega) (gi_o E_h30 (by decide))) (by omega)
        have D43 := cc_wo E_h30 (by decide)
        have O44 : ON h30 u13.1 39 u6.1 u22.1 u29.1 (-1) (h 160 23) 0 := on_w2 E_h30 O36
        have N45 : h30 160 9 = 0 → CC u6.2 + h 160 23 ≤ CC h + u6.2 160 23 := fun y => N37 (by omega)
        have N46 : h30 160 9 = 0 → TE m h30 0 (RE m (a1 + 1) + 3 + 2 * m + 3 * (10 - 0)) (h 160 22) (u6.2 160 22) u6.1 := fun y => te_w E_h30 (by omega) (by omega) (by omega) (N38 (by omega))
        have N47 : h30 160 9 = 0 → CC u22.2 + h18 160 23 ≤ CC h18 + u22.2 160 23 := fun y => N39 (by omega)
        have N48 : h30 160 9 = 0 → TE m h30 0 (RE m (a1 + 1)) (h18 160 22) (u22.2 160 22) u22.1 := fun y => te_w E_h30 (by omega) (by omega) (by omega) (N40 (by omega))
        have N49 : h30 160 9 = 0 → u25 160 23 = h23 160 23 + 1 ∧ h23 160 23 < 3002 := fun y => N41 (by omega)
        have N50 : h30 160 9 = 0 → CC u29.2 + u25 160 23 ≤ CC u25 + u29.2 160 23 := fun y => (fun y => (P_u29.2 y).2) (by omega)
        have N51 : h30 160 9 = 0 → TE m h30 0 (RE m (a1 + 1)) (u25 160 22) (u29.2 160 22) u29.1 := fun y => te_w E_h30 (by omega) (by omega) (by omega) ((fun y => (P_u29.2 y).1) (by omega))
        refine pc_ret ⟨F42, fun y => ?_⟩
        have y : h30 160 9 = 0 := y
        have A52 := N45 y
        have A53 := N47 y
        have A54 := N49 y
        have A55 := N50 y
        show TE m h30 0 (RE m a1) n0 (h30 160 22) u13.1 ∧ CC h30 + h 160 23 ≤ CC h + h30 160 23
        refine ⟨?_, by omega⟩
        exact on_else (p := (u22.2 160 22)) O44 (by omega) ⟨by omega, by omega, by omega, by omega⟩ (te_wd (N46 y) (by omega) (by omega) (by omega) (by omega)) (by omega) (te_wd (N48 y) (by omega) (by omega) (by omega) (by omega)) (te_wd (N51 y) (by omega) (by omega) (by omega) (by omega))
      · skip
        refine pc_ret ⟨F1, fun y => ?_⟩
        have y : u6.2 160 9 = 0 := y
        have A56 := (fun y => (P_u6.2 y).2) y
        show TE m u6.2 0 (RE m a1) n0 (u6.2 160 22) u6.1 ∧ CC u6.2 + h 160 23 ≤ CC h + u6.2 160 23
        refine ⟨?_, by omega⟩
        exact te_wd ((fun y => (P_u6.2 y).1) y) (by omega) (by omega) (by omega) (by omega)
  · rw [if_neg d1]
    have S_u2 := P_u2.1
    have z_u2 := S_u2.1
    have F57 : Fr h u2.2 n0 := fr_tr F0 (sm_fr (n := n0) S_u2) (by omega)
    have D58 := cc_sm S_u2
    exact pc_ret ⟨F57, fun y => (d2 y).elim⟩
theorem gl_sides_37 {nn : Nat} {m : Int} (hm : m = 0 ∨ m = 1) {rc : tq_X13_expression} (G : GT m rc) : ∀ (k : Nat) (l1 l2 l3 l4 l5 l6 : Int) (h : ms_M) (n0 : Int), 0 ≤ l1 → 0 ≤ l2 → l2 ≤ 40 → l6 ≤ 9 → 0 ≤ n0 → n0 ≤ h 160 22 → (l5 < 0 ∨ (0 ≤ h 160 23 ∧ h 160 23 < 3008)) → (h 160 9 = 0 → TE m h 0 (RE m l2 + 3 + 2 * m + 3 * (10 - l1)) n0 (h 160 22) l4) → Pc (qw_X13_sides_37 nn rc k l1 l2 l3 l4 l5 l6 h) (fun u => Fr h u.2 n0 ∧ (u.2 160 9 = 0 → TE m u.2 0 (RE m l2 + 3 + 2 * m + 3 * (10 - l1)) n0 (u.2 160 22) u.1 ∧ CC u.2 + h 160 23 ≤ CC h + u.2 160 23)) := by
  intro k
  induction k with
  | zero => intros; exact pc_none
  | succ k ih =>
    intro l1 l2 l3 l4 l5 l6 h n0 g1 g2 g3 g4 g5 g6 g7 T0
    have r1 := re_1 (m := m) (d := l2) (by omega)
    have hm2 : 0 ≤ m ∧ m ≤ 1 := by omega
    have hmn : Nonempty (m = 0 ∨ m = 1) := ⟨hm⟩
    clear hm
    unfold qw_X13_sides_37
    have F0 : Fr h h n0 := fr_rf
    refine pc_if (fun C1 => ?_) (fun C1 => ?_)
    · skip
      exact pc_ret ⟨F0, fun y => (C1 y).elim⟩
    · skip
      refine pc_if (fun C2 => ?_) (fun C2 => ?_)
      · skip
        refine pc_ret ⟨F0, fun y => ?_⟩
        have y : h 160 9 = 0 := y
        show TE m h 0 (RE m l2 + 3 + 2 * m + 3 * (10 - l1)) n0 (h 160 22) l4 ∧ CC h + h 160 23 ≤ CC h + h 160 23
        refine ⟨?_, by omega⟩
        exact te_wd (T0 y) (by omega) (by omega) (by omega) (by omega)
      · skip
        refine pc_if (fun C3 => ?_) (fun C3 => ?_)
        · skip
          refine pc_ret ⟨F0, fun y => ?_⟩
          have y : h 160 9 = 0 := y
          show TE m h 0 (RE m l2 + 3 + 2 * m + 3 * (10 - l1)) n0 (h 160 22) l4 ∧ CC h + h 160 23 ≤ CC h + h 160 23
          refine ⟨?_, by omega⟩
          exact te_wd (T0 y) (by omega) (by omega) (by omega) (by omega)
        · skip
          refine pc_add (by omega) ?_; intro v9 e_v9
          refine pc_xl ?_; intro h10 E_h10
          obtain ⟨S_h10, c_h10, f_h10⟩ := sm_cur E_h10 (by omega)
          have z_h10 := S_h10.1
          have F4 : Fr h h10 n0 := fr_tr F0 (sm_fr (n := n0) S_h10) (by omega)
          have D5 := cc_sm S_h10
          have N6 : h10 160 9 = 0 → TE m h10 0 (RE m l2 + 3 + 2 * m + 3 * (10 - l1)) n0 (h 160 22) l4 := fun y => te_sm S_h10 (by omega) (T0 (S_h10.2.1 y))
          refine pc_sv pc_isWord ?_; intro u12 b_u12
          refine pc_if (fun C7 => ?_) (fun C7 => ?_)
          · skip
            refine pc_sv pc_ad ?_; intro u14 A_u14
            obtain ⟨⟨a0_u14, a1_u14, a2_u14, a3_u14, a4_u14, a5_u14, a6_u14⟩, F_u14, O_u14, C_u14⟩ := A_u14
            have w_u14 : wt 37 = 1 := by decide
            have F8 : Fr h u14.2 n0 := fr_tr F4 F_u14 (by omega)
            have N9 : u14.2 160 9 = 0 → TE m u14.2 0 (RE m l2 + 3 + 2 * m + 3 * (10 - l1)) n0 (h 160 22) l4 := fun y => te_F F_u14 (by omega) (by omega) (N6 (F_u14.1.2.1 y))
            refine pc_wA ?_; intro p_h16 q_h16 h16 E_h16
            obtain ⟨x_h16, y_h16, z_h16⟩ := w_nd E_h16 (by decide)
            have F10 : Fr h h16 n0 := fr_tr F8 (fr_w (n := n0) E_h16 (by decide) (by omega) (by omega) (gi_o E_h16 (by decide))) (by omega)
            have D11 := cc_wo E_h16 (by decide)
            have O12 : ON h16 u14.1 37 l4 (-1) (-1) (-1) l3 0 := on_w0 E_h16 O_u14
            have N13 : h16 160 9 = 0 → TE m h16 0 (RE m l2 + 3 + 2 * m + 3 * (10 - l1)) n0 (h 160 22) l4 := fun y => te_w E_h16 (by omega) (by omega) (by omega) (N9 (by omega))
            refine pc_add (by omega) ?_; intro v18 e_v18
            refine pc_sv (G.2.1 v18 l2 h16 (by omega) (by omega) (by omega) (by omega) (by omega)) ?_; intro u20 P_u20
            have F_u20 := P_u20.1; have z_u20 := F_u20.1.1; have c_u20 := F_u20.1.2.2
            have F14 : Fr h u20.2 n0 := fr_tr F10 F_u20 (by omega)
            have O15 : ON u20.2 u14.1 37 l4 (-1) (-1) (-1) l3 0 := on_F F_u20 (by omega) (by omega) O12
            have N16 : u20.2 160 9 = 0 → TE m u20.2 0 (RE m l2 + 3 + 2 * m + 3 * (10 - l1)) n0 (h 160 22) l4 := fun y => te_F F_u20 (by omega) (by omega) (N13 (F_u20.1.2.1 y))
            refine pc_wA ?_; intro p_h21 q_h21 h21 E_h21
            obtain ⟨x_h21, y_h21, z_h21⟩ := w_nd E_h21 (by decide)
            have F17 : Fr h h21 n0 := fr_tr F14 (fr_w (n := n0) E_h21 (by decide) (by omega) (by omega) (gi_o E_h21 (by decide))) (by omega)
            have D18 := cc_wo E_h21 (by decide)
            have O19 : ON h21 u14.1 37 l4 u20.1 (-1) (-1) l3 0 := on_w1 E_h21 O15
            have N20 : h21 160 9 = 0 → TE m h21 0 (RE m l2 + 3 + 2 * m + 3 * (10 - l1)) n0 (h 160 22) l4 := fun y => te_w E_h21 (by omega) (by omega) (by omega) (N16 (by omega))
            have N21 : h21 160 9 = 0 → CC u20.2 + h16 160 23 ≤ CC h16 + u20.2 160 23 := fun y => (fun y => (P_u20.2 y).2) (by omega)
            have N22 : h21 160 9 = 0 → TE m h21 0 (RE m l2 + 3 + 2 * m + 3 * (10 - v18)) (h16 160 22) (u20.2 160 22) u20.1 := fun y => te_w E_h21 (by omega) (by omega) (by omega) ((fun y => (P_u20.2 y).1) (by omega))
            unfold qj_X13_sides_157
            refine pc_if (fun C23 => ?_) (fun C23 => ?_)
            · skip
              have T24 : h21 160 9 = 0 → TE m h21 0 (RE m l2 + 3 + 2 * m + 3 * (10 - l1)) n0 (h21 160 22) u14.1 := by
                intro y; exact (C23 y).elim
              refine pc_imp (ih l1 l2 l3 u14.1 (-1) l5 h21 n0 (by omega) (by omega) (by omega) (by omega) (by omega) (by omega) (by omega) T24) (fun u P => ⟨fr_tr F17 P.1 (by omega), fun y => ⟨(P.2 y).1, ?_⟩⟩)
              have y2 : h21 160 9 = 0 := P.1.1.2.1 y
              have y3 := (P.2 y).2
              exact (C23 y2).elim
            · skip
              refine pc_sv pc_strength ?_; intro u4 b_u4
              have T25 : h21 160 9 = 0 → TE m h21 0 (RE m l2 + 3 + 2 * m + 3 * (10 - l1)) n0 (h21 160 22) u14.1 := by
                intro y
                have y : h21 160 9 = 0 := y
                have A26 := N21 y
                show TE m h21 0 (RE m l2 + 3 + 2 * m + 3 * (10 - l1)) n0 (h21 160 22) u14.1
                exact on_two O19 (by omega) ⟨by omega, by omega, by omega, by omega⟩ (te_wd (N20 y) (by omega) (by omega) (by omega) (by omega)) (te_wd (N22 y) (by omega) (by omega) (by omega) (by omega))
              refine pc_imp (ih l1 l2 l3 u14.1 u4 l5 h21 n0 (by omega) (by omega) (by omega) (by omega) (by omega) (by omega) (by omega) T25) (fun u P => ⟨fr_tr F17 P.1 (by omega), fun y => ⟨(P.2 y).1, ?_⟩⟩)
              have y2 : h21 160 9 = 0 := P.1.1.2.1 y
              have y3 := (P.2 y).2
              have A27 := N21 y2
              omega
          · skip
            refine pc_sv pc_name ?_; intro u23 P_u23
            have S_u23 := P_u23.1
            have z_u23 := S_u23.1; have c_u23 := S_u23.2.2.1
            have n_u23 := P_u23.2.1
            have F28 : Fr h u23.2 n0 := fr_tr F4 (sm_fr (n := n0) S_u23) (by omega)
            have D29 := cc_sm S_u23
            have N30 : u23.2 160 9 = 0 → TE m u23.2 0 (RE m l2 + 3 + 2 * m + 3 * (10 - l1)) n0 (h 160 22) l4 := fun y => te_sm S_u23 (by omega) (N6 (S_u23.2.1 y))
            refine pc_sv pc_ad ?_; intro u25 A_u25
            obtain ⟨⟨a0_u25, a1_u25, a2_u25, a3_u25, a4_u25, a5_u25, a6_u25⟩, F_u25, O_u25, C_u25⟩ := A_u25
            have w_u25 : wt 38 = 1 := by decide
            have F31 : Fr h u25.2 n0 := fr_tr F28 F_u25 (by omega)
            have N32 : u25.2 160 9 = 0 → TE m u25.2 0 (RE m l2 + 3 + 2 * m + 3 * (10 - l1)) n0 (h 160 22) l4 := fun y => te_F F_u25 (by omega) (by omega) (N30 (F_u25.1.2.1 y))
            have N33 : u25.2 160 9 = 0 → u23.2 160 23 = h10 160 23 + 1 ∧ u23.1 = h10 160 23 := fun y => P_u23.2.2 (F_u25.1.2.1 y)
            refine pc_wA ?_; intro p_h27 q_h27 h27 E_h27
            obtain ⟨x_h27, y_h27, z_h27⟩ := w_nd E_h27 (by decide)
            have F34 : Fr h h27 n0 := fr_tr F31 (fr_w (n := n0) E_h27 (by decide) (by omega) (by omega) (gi_o E_h27 (by decide))) (by omega)
            have D35 := cc_wo E_h27 (by decide)
            have O36 : ON h27 u25.1 38 l4 (-1) (-1) (-1) l3 0 := on_w0 E_h27 O_u25
            have N37 : h27 160 9 = 0 → TE m h27 0 (RE m l2 + 3 + 2 * m + 3 * (10 - l1)) n0 (h 160 22) l4 := fun y => te_w E_h27 (by omega) (by omega) (by omega) (N32 (by omega))
            have N38 : h27 160 9 = 0 → u23.2 160 23 = h10 160 23 + 1 ∧ u23.1 = h10 160 23 := fun y => N33 (by omega)
            unfold qj_X13_sides_157
            refine pc_if (fun C39 => ?_) (fun C39 => ?_)
            · skip
              have T40 : h27 160 9 = 0 → TE m h27 0 (RE m l2 + 3 + 2 * m + 3 * (10 - l1)) n0 (h27 160 22) u25.1 := by
                intro y; exact (C39 y).elim
              refine pc_imp (ih l1 l2 l3 u25.1 (-1) l5 h27 n0 (by omega) (by omega) (by omega) (by omega) (by omega) (by omega) (by omega) T40) (fun u P => ⟨fr_tr F34 P.1 (by omega), fun y => ⟨(P.2 y).1, ?_⟩⟩)
              have y2 : h27 160 9 = 0 := P.1.1.2.1 y
              have y3 := (P.2 y).2
              exact (C39 y2).elim
            · skip
              refine pc_sv pc_strength ?_; intro u4 b_u4
              have T41 : h27 160 9 = 0 → TE m h27 0 (RE m l2 + 3 + 2 * m + 3 * (10 - l1)) n0 (h27 160 22) u25.1 := by
                intro y
                have y : h27 160 9 = 0 := y
                have A42 := N38 y
                show TE m h27 0 (RE m l2 + 3 + 2 * m + 3 * (10 - l1)) n0 (h27 160 22) u25.1
                exact on_is O36 (by omega) ⟨by omega, by omega, by omega, by omega⟩ (te_wd (N37 y) (by omega) (by omega) (by omega) (by omega))
              refine pc_imp (ih l1 l2 l3 u25.1 u4 l5 h27 n0 (by omega) (by omega) (by omega) (by omega) (by omega) (by omega) (by omega) T41) (fun u P => ⟨fr_tr F34 P.1 (by omega), fun y => ⟨(P.2 y).1, ?_⟩⟩)
              have y2 : h27 160 9 = 0 := P.1.1.2.1 y
              have y3 := (P.2 y).2
              have A43 := N38 y2
              omega
set_option maxHeartbeats 8000000 in
theorem go_sides {nn : Nat} {m : Int} (hm : m = 0 ∨ m = 1) {rc : tq_X13_expression} (G : GT m rc) {a1 a2 : Int} {h : ms_M} (hl : 0 ≤ a1 ∧ a1 ≤ 10) (ha : 0 ≤ a2 ∧ a2 ≤ 40) (hh : 0 ≤ h 160 22) : Pc (qo_X13_sides nn rc a1 a2 h) (CE m (RE m a2 + 3 + 2 * m + 3 * (10 - a1)) h) := by
  unfold qo_X13_sides CE
  generalize hn0 : h 160 22 = n0
  have F0 : Fr h h n0 := fr_rf
  have r0 := re_s (m := m) (d := a2) hm
  have r1 := re_1 (m := m) (d := a2) (by omega)
  have hm2 : 0 ≤ m ∧ m ≤ 1 := by omega
  have hmn : Nonempty (m = 0 ∨ m = 1) := ⟨hm⟩
  clear hm
  refine pc_sv (G.2.2.1 a2 h (by omega) (by omega) (by omega)) ?_; intro u34 P_u34
  have F_u34 := P_u34.1; have z_u34 := F_u34.1.1; have c_u34 := F_u34.1.2.2
  have F1 : Fr h u34.2 n0 := fr_tr F0 F_u34 (by omega)
  refine pc_if (fun C2 => ?_) (fun C2 => ?_)
  · skip
    have T3 : u34.2 160 9 = 0 → TE m u34.2 0 (RE m a2 + 3 + 2 * m + 3 * (10 - a1)) n0 (u34.2 160 22) u34.1 := by
      intro y; exact (C2 y).elim
    refine pc_imp (gl_sides_37 (hmn.elim id) G nn a1 a2 (h 160 23) u34.1 (-1) 9 u34.2 n0 (by omega) (by omega) (by omega) (by omega) (by omega) (by omega) (by omega) T3) (fun u P => ⟨fr_tr F1 P.1 (by omega), fun y => ⟨(P.2 y).1, ?_⟩⟩)
    have y2 : u34.2 160 9 = 0 := P.1.1.2.1 y
    have y3 := (P.2 y).2
    exact (C2 y2).elim
  · skip
    refine pc_sv pc_strength ?_; intro u38 b_u38
    have T4 : u34.2 160 9 = 0 → TE m u34.2 0 (RE m a2 + 3 + 2 * m + 3 * (10 - a1)) n0 (u34.2 160 22) u34.1 := by
      intro y
      have y : u34.2 160 9 = 0 := y
      have A5 := (fun y => (P_u34.2 y).2) y
      show TE m u34.2 0 (RE m a2 + 3 + 2 * m + 3 * (10 - a1)) n0 (u34.2 160 22) u34.1
      exact te_wd ((fun y => (P_u34.2 y).1) y) (by omega) (by omega) (by omega) (by omega)
    refine pc_imp (gl_sides_37 (hmn.elim id) G nn a1 a2 (h 160 23) u34.1 u38 9 u34.2 n0 (by omega) (by omega) (by omega) (by omega) (by omega) (by omega) (by omega) T4) (fun u P => ⟨fr_tr F1 P.1 (by omega), fun y => ⟨(P.2 y).1, ?_⟩⟩)
    have y2 : u34.2 160 9 = 0 := P.1.1.2.1 y
    have y3 := (P.2 y).2
    have A6 := (fun y => (P_u34.2 y).2) y2
    omega
set_option maxHeartbeats 8000000 in
theorem go_unary {nn : Nat} {m : Int} (hm : m = 0 ∨ m = 1) {rc : tq_X13_expression} (G : GT m rc) {a1 : Int} {h : ms_M} (ha : 0 ≤ a1 ∧ a1 ≤ 40) (hh : 0 ≤ h 160 22) : Pc (qo_X13_unary nn rc a1 h) (CE m (RE m a1 + 3 + 2 * m) h) := by
  unfold qo_X13_unary CE
  generalize hn0 : h 160 22 = n0
  have F0 : Fr h h n0 := fr_rf
  have r0 := re_s (m := m) (d := a1) hm
  have r1 := re_1 (m := m) (d := a1) (by omega)
  have hm2 : 0 ≤ m ∧ m ≤ 1 := by omega
  have hmn : Nonempty (m = 0 ∨ m = 1) := ⟨hm⟩
  clear hm
  refine pc_if (fun C1 => ?_) (fun C1 => ?_)
  · skip
    refine pc_se ?_; intro u25 _
    refine pc_sv pc_isSign ?_; intro u28 b_u28
    refine pc_if (fun C2 => ?_) (fun C2 => ?_)
    · skip
      refine pc_sv pc_isSign ?_; intro u31 b_u31
      refine pc_if (fun C3 => ?_) (fun C3 => ?_)
      · skip
        refine pc_sv pc_isSign ?_; intro u34 b_u34
        refine pc_if (fun C4 => ?_) (fun C4 => ?_)
        · skip
          refine pc_if (fun C5 => ?_) (fun C5 => ?_)
          · skip
            unfold qj_X13_unary_78
            rw [if_neg (by decide)]
            refine pc_sv (G.2.2.2.2.1 a1 h (by omega) (by omega) (by omega)) ?_; intro u21 P_u21
            have F_u21 := P_u21.1; have z_u21 := F_u21.1.1; have c_u21 := F_u21.1.2.2
            have F6 : Fr h u21.2 n0 := fr_tr F0 F_u21 (by omega)
            refine pc_ret ⟨F6, fun y => ?_⟩
            have y : u21.2 160 9 = 0 := y
            have A7 := (fun y => (P_u21.2 y).2) y
            show TE m u21.2 0 (RE m a1 + 3 + 2 * m) n0 (u21.2 160 22) u21.1 ∧ CC u21.2 + h 160 23 ≤ CC h + u21.2 160 23
            refine ⟨?_, by omega⟩
            exact te_wd ((fun y => (P_u21.2 y).1) y) (by omega) (by omega) (by omega) (by omega)
          · skip
            unfold qj_X13_unary_78
            rw [if_pos (by decide)]
            refine pc_sv pc_isDeep ?_; intro u14 P_u14
            rcases P_u14.2 with ⟨d1, d2, d3, d4⟩ | ⟨d1, d2⟩
            · rw [if_pos d1, d4]
              have r2 := re_1 (m := m) (d := a1 + 1) (by omega)
              refine pc_if (fun C8 => ?_) (fun C8 => ?_)
              · skip
                unfold qj_X13_unary_118
                refine pc_sv pc_ad ?_; intro u10 A_u10
                obtain ⟨⟨a0_u10, a1_u10, a2_u10, a3_u10, a4_u10, a5_u10, a6_u10⟩, F_u10, O_u10, C_u10⟩ := A_u10
                have w_u10 : wt 36 = 1 := by decide
                have F9 : Fr h u10.2 n0 := fr_tr F0 F_u10 (by omega)
                refine pc_if (fun C10 => ?_) (fun C10 => ?_)
                · skip
                  unfold qj_X13_unary_141
                  refine pc_add (by omega) ?_; intro v1 e_v1
                  refine pc_xl ?_; intro h2 E_h2
                  obtain ⟨S_h2, c_h2, f_h2⟩ := sm_cur E_h2 (by omega)
                  have z_h2 := S_h2.1
                  have F11 : Fr h h2 n0 := fr_tr F9 (sm_fr (n := n0) S_h2) (by omega)
                  have D12 := cc_sm S_h2
                  have O13 : ON h2 u10.1 36 (-1) (-1) (-1) (-1) (h 160 23) 0 := on_sm S_h2 O_u10
                  refine pc_add (by omega) ?_; intro v4 e_v4
                  subst e_v4
                  refine pc_sv (G.2.2.1 (a1 + 1) h2 (by omega) (by omega) (by omega)) ?_; intro u6 P_u6
                  have F_u6 := P_u6.1; have z_u6 := F_u6.1.1; have c_u6 := F_u6.1.2.2
                  have F14 : Fr h u6.2 n0 := fr_tr F11 F_u6 (by omega)
                  have O15 : ON u6.2 u10.1 36 (-1) (-1) (-1) (-1) (h 160 23) 0 := on_F F_u6 (by omega) (by omega) O13
                  refine pc_wA ?_; intro p_h7 q_h7 h7 E_h7
                  obtain ⟨x_h7, y_h7, z_h7⟩ := w_nd E_h7 (by decide)
                  have F16 : Fr h h7 n0 := fr_tr F14 (fr_w (n := n0) E_h7 (by decide) (by omega) (by omega) (gi_o E_h7 (by decide))) (by omega)
                  have D17 := cc_wo E_h7 (by decide)
                  have O18 : ON h7 u10.1 36 u6.1 (-1) (-1) (-1) (h 160 23) 0 := on_w0 E_h7 O15
                  have N19 : h7 160 9 = 0 → CC u6.2 + h2 160 23 ≤ CC h2 + u6.2 160 23 := fun y => (fun y => (P_u6.2 y).2) (by omega)
                  have N20 : h7 160 9 = 0 → TE m h7 0 (RE m (a1 + 1) + 3 + 2 * m) (h2 160 22) (u6.2 160 22) u6.1 := fun y => te_w E_h7 (by omega) (by omega) (by omega) ((fun y => (P_u6.2 y).1) (by omega))
                  refine pc_ret ⟨F16, fun y => ?_⟩
                  have y : h7 160 9 = 0 := y
                  have A21 := N19 y
                  show TE m h7 0 (RE m a1 + 3 + 2 * m) n0 (h7 160 22) u10.1 ∧ CC h7 + h 160 23 ≤ CC h + h7 160 23
                  refine ⟨?_, by omega⟩
                  exact on_pre O18 (by omega) ⟨by omega, by omega, by omega, by omega⟩ (te_wd (N20 y) (by omega) (by omega) (by omega) (by omega))
                · skip
                  unfold qj_X13_unary_141
                  refine pc_add (by omega) ?_; intro v1 e_v1
                  refine pc_xl ?_; intro h2 E_h2
                  obtain ⟨S_h2, c_h2, f_h2⟩ := sm_cur E_h2 (by omega)
                  have z_h2 := S_h2.1
                  have F22 : Fr h h2 n0 := fr_tr F9 (sm_fr (n := n0) S_h2) (by omega)
                  have D23 := cc_sm S_h2
                  have O24 : ON h2 u10.1 36 (-1) (-1) (-1) (-1) (h 160 23) 0 := on_sm S_h2 O_u10
                  refine pc_add (by omega) ?_; intro v4 e_v4
                  subst e_v4
                  refine pc_sv (G.2.2.1 (a1 + 1) h2 (by omega) (by omega) (by omega)) ?_; intro u6 P_u6
                  have F_u6 := P_u6.1; have z_u6 := F_u6.1.1; have c_u6 := F_u6.1.2.2
                  have F25 : Fr h u6.2 n0 := fr_tr F22 F_u6 (by omega)
                  have O26 : ON u6.2 u10.1 36 (-1) (-1) (-1) (-1) (h 160 23) 0 := on_F F_u6 (by omega) (by omega) O24
                  refine pc_wA ?_; intro p_h7 q_h7 h7 E_h7
                  obtain ⟨x_h7, y_h7, z_h7⟩ := w_nd E_h7 (by decide)
                  have F27 : Fr h h7 n0 := fr_tr F25 (fr_w (n := n0) E_h7 (by decide) (by omega) (by omega) (gi_o E_h7 (by decide))) (by omega)
                  have D28 := cc_wo E_h7 (by decide)
                  have O29 : ON h7 u10.1 36 u6.1 (-1) (-1) (-1) (h 160 23) 0 := on_w0 E_h7 O26
                  have N30 : h7 160 9 = 0 → CC u6.2 + h2 160 23 ≤ CC h2 + u6.2 160 23 := fun y => (fun y => (P_u6.2 y).2) (by omega)
                  have N31 : h7 160 9 = 0 → TE m h7 0 (RE m (a1 + 1) + 3 + 2 * m) (h2 160 22) (u6.2 160 22) u6.1 := fun y => te_w E_h7 (by omega) (by omega) (by omega) ((fun y => (P_u6.2 y).1) (by omega))
                  refine pc_ret ⟨F27, fun y => ?_⟩
                  have y : h7 160 9 = 0 := y
                  have A32 := N30 y
                  show TE m h7 0 (RE m a1 + 3 + 2 * m) n0 (h7 160 22) u10.1 ∧ CC h7 + h 160 23 ≤ CC h + h7 160 23
                  refine ⟨?_, by omega⟩
                  exact on_pre O29 (by omega) ⟨by omega, by omega, by omega, by omega⟩ (te_wd (N31 y) (by omega) (by omega) (by omega) (by omega))
              · skip
                refine pc_add (by omega) ?_; intro v17 e_v17
                unfold qj_X13_unary_118
                refine pc_sv pc_ad ?_; intro u10 A_u10
                obtain ⟨⟨a0_u10, a1_u10, a2_u10, a3_u10, a4_u10, a5_u10, a6_u10⟩, F_u10, O_u10, C_u10⟩ := A_u10
                have w_u10 : wt 36 = 1 := by decide
                have F33 : Fr h u10.2 n0 := fr_tr F0 F_u10 (by omega)
                refine pc_if (fun C34 => ?_) (fun C34 => ?_)
                · skip
                  unfold qj_X13_unary_141
                  refine pc_add (by omega) ?_; intro v1 e_v1
                  refine pc_xl ?_; intro h2 E_h2
                  obtain ⟨S_h2, c_h2, f_h2⟩ := sm_cur E_h2 (by omega)
                  have z_h2 := S_h2.1
                  have F35 : Fr h h2 n0 := fr_tr F33 (sm_fr (n := n0) S_h2) (by omega)
                  have D36 := cc_sm S_h2
                  have O37 : ON h2 u10.1 36 (-1) (-1) (-1) (-1) (h 160 23) 0 := on_sm S_h2 O_u10
                  refine pc_add (by omega) ?_; intro v4 e_v4
                  subst e_v4
                  refine pc_sv (G.2.2.1 (a1 + 1) h2 (by omega) (by omega) (by omega)) ?_; intro u6 P_u6
                  have F_u6 := P_u6.1; have z_u6 := F_u6.1.1; have c_u6 := F_u6.1.2.2
                  have F38 : Fr h u6.2 n0 := fr_tr F35 F_u6 (by omega)
                  have O39 : ON u6.2 u10.1 36 (-1) (-1) (-1) (-1) (h 160 23) 0 := on_F F_u6 (by omega) (by omega) O37
                  refine pc_wA ?_; intro p_h7 q_h7 h7 E_h7
                  obtain ⟨x_h7, y_h7, z_h7⟩ := w_nd E_h7 (by decide)
                  have F40 : Fr h h7 n0 := fr_tr F38 (fr_w (n := n0) E_h7 (by decide) (by omega) (by omega) (gi_o E_h7 (by decide))) (by omega)
                  have D41 := cc_wo E_h7 (by decide)
                  have O42 : ON h7 u10.1 36 u6.1 (-1) (-1) (-1) (h 160 23) 0 := on_w0 E_h7 O39
                  have N43 : h7 160 9 = 0 → CC u6.2 + h2 160 23 ≤ CC h2 + u6.2 160 23 := fun y => (fun y => (P_u6.2 y).2) (by omega)
                  have N44 : h7 160 9 = 0 → TE m h7 0 (RE m (a1 + 1) + 3 + 2 * m) (h2 160 22) (u6.2 160 22) u6.1 := fun y => te_w E_h7 (by omega) (by omega) (by omega) ((fun y => (P_u6.2 y).1) (by omega))
                  refine pc_ret ⟨F40, fun y => ?_⟩
                  have y : h7 160 9 = 0 := y
                  have A45 := N43 y
                  show TE m h7 0 (RE m a1 + 3 + 2 * m) n0 (h7 160 22) u10.1 ∧ CC h7 + h 160 23 ≤ CC h + h7 160 23
                  refine ⟨?_, by omega⟩
                  exact on_pre O42 (by omega) ⟨by omega, by omega, by omega, by omega⟩ (te_wd (N44 y) (by omega) (by omega) (by omega) (by omega))
                · skip
                  unfold qj_X13_unary_141
                  refine pc_add (by omega) ?_; intro v1 e_v1
                  refine pc_xl ?_; intro h2 E_h2
                  obtain ⟨S_h2, c_h2, f_h2⟩ := sm_cur E_h2 (by omega)
                  have z_h2 := S_h2.1
                  have F46 : Fr h h2 n0 := fr_tr F33 (sm_fr (n := n0) S_h2) (by omega)
                  have D47 := cc_sm S_h2
                  have O48 : ON h2 u10.1 36 (-1) (-1) (-1) (-1) (h 160 23) 0 := on_sm S_h2 O_u10
                  refine pc_add (by omega) ?_; intro v4 e_v4
                  subst e_v4
                  refine pc_sv (G.2.2.1 (a1 + 1) h2 (by omega) (by omega) (by omega)) ?_; intro u6 P_u6
                  have F_u6 := P_u6.1; have z_u6 := F_u6.1.1; have c_u6 := F_u6.1.2.2
                  have F49 : Fr h u6.2 n0 := fr_tr F46 F_u6 (by omega)
                  have O50 : ON u6.2 u10.1 36 (-1) (-1) (-1) (-1) (h 160 23) 0 := on_F F_u6 (by omega) (by omega) O48
                  refine pc_wA ?_; intro p_h7 q_h7 h7 E_h7
                  obtain ⟨x_h7, y_h7, z_h7⟩ := w_nd E_h7 (by decide)
                  have F51 : Fr h h7 n0 := fr_tr F49 (fr_w (n := n0) E_h7 (by decide) (by omega) (by omega) (gi_o E_h7 (by decide))) (by omega)
                  have D52 := cc_wo E_h7 (by decide)
                  have O53 : ON h7 u10.1 36 u6.1 (-1) (-1) (-1) (h 160 23) 0 := on_w0 E_h7 O50
                  have N54 : h7 160 9 = 0 → CC u6.2 + h2 160 23 ≤ CC h2 + u6.2 160 23 := fun y => (fun y => (P_u6.2 y).2) (by omega)
                  have N55 : h7 160 9 = 0 → TE m h7 0 (RE m (a1 + 1) + 3 + 2 * m) (h2 160 22) (u6.2 160 22) u6.1 := fun y => te_w E_h7 (by omega) (by omega) (by omega) ((fun y => (P_u6.2 y).1) (by omega))
                  refine pc_ret ⟨F51, fun y => ?_⟩
                  have y : h7 160 9 = 0 := y
                  have A56 := N54 y
                  show TE m h7 0 (RE m a1 + 3 + 2 * m) n0 (h7 160 22) u10.1 ∧ CC h7 + h 160 23 ≤ CC h + h7 160 23
                  refine ⟨?_, by omega⟩
                  exact on_pre O53 (by omega) ⟨by omega, by omega, by omega, by omega⟩ (te_wd (N55 y) (by omega) (by omega) (by omega) (by omega))
            · rw [if_neg d1]
              have S_u14 := P_u14.1
              have z_u14 := S_u14.1
              have F57 : Fr h u14.2 n0 := fr_tr F0 (sm_fr (n := n0) S_u14) (by omega)
              have D58 := cc_sm S_u14
              exact pc_ret ⟨F57, fun y => (d2 y).elim⟩
        · skip
          unfold qj_X13_unary_78
          rw [if_pos (by decide)]
          refine pc_sv pc_isDeep ?_; intro u14 P_u14
          rcases P_u14.2 with ⟨d1, d2, d3, d4⟩ | ⟨d1, d2⟩
          · rw [if_pos d1, d4]
            have r2 := re_1 (m := m) (d := a1 + 1) (by omega)
            refine pc_if (fun C59 => ?_) (fun C59 => ?_)
            · skip
              unfold qj_X13_unary_118
              refine pc_sv pc_ad ?_; intro u10 A_u10
              obtain ⟨⟨a0_u10, a1_u10, a2_u10, a3_u10, a4_u10, a5_u10, a6_u10⟩, F_u10, O_u10, C_u10⟩ := A_u10
              have w_u10 : wt 35 = 1 := by decide
              have F60 : Fr h u10.2 n0 := fr_tr F0 F_u10 (by omega)
              refine pc_if (fun C61 => ?_) (fun C61 => ?_)
              · skip
                unfold qj_X13_unary_141
                refine pc_add (by omega) ?_; intro v1 e_v1
                refine pc_xl ?_; intro h2 E_h2
                obtain ⟨S_h2, c_h2, f_h2⟩ := sm_cur E_h2 (by omega)
                have z_h2 := S_h2.1
                have F62 : Fr h h2 n0 := fr_tr F60 (sm_fr (n := n0) S_h2) (by omega)
                have D63 := cc_sm S_h2
                have O64 : ON h2 u10.1 35 (-1) (-1) (-1) (-1) (h 160 23) 0 := on_sm S_h2 O_u10
                refine pc_add (by omega) ?_; intro v4 e_v4
                subst e_v4
                refine pc_sv (G.2.2.1 (a1 + 1) h2 (by omega) (by omega) (by omega)) ?_; intro u6 P_u6
                have F_u6 := P_u6.1; have z_u6 := F_u6.1.1; have c_u6 := F_u6.1.2.2
                have F65 : Fr h u6.2 n0 := fr_tr F62 F_u6 (by omega)
                have O66 : ON u6.2 u10.1 35 (-1) (-1) (-1) (-1) (h 160 23) 0 := on_F F_u6 (by omega) (by omega) O64
                refine pc_wA ?_; intro p_h7 q_h7 h7 E_h7
                obtain ⟨x_h7, y_h7, z_h7⟩ := w_nd E_h7 (by decide)
                have F67 : Fr h h7 n0 := fr_tr F65 (fr_w (n := n0) E_h7 (by decide) (by omega) (by omega) (gi_o E_h7 (by decide))) (by omega)
                have D68 := cc_wo E_h7 (by decide)
                have O69 : ON h7 u10.1 35 u6.1 (-1) (-1) (-1) (h 160 23) 0 := on_w0 E_h7 O66
                have N70 : h7 160 9 = 0 → CC u6.2 + h2 160 23 ≤ CC h2 + u6.2 160 23 := fun y => (fun y => (P_u6.2 y).2) (by omega)
                have N71 : h7 160 9 = 0 → TE m h7 0 (RE m (a1 + 1) + 3 + 2 * m) (h2 160 22) (u6.2 160 22) u6.1 := fun y => te_w E_h7 (by omega) (by omega) (by omega) ((fun y => (P_u6.2 y).1) (by omega))
                refine pc_ret ⟨F67, fun y => ?_⟩
                have y : h7 160 9 = 0 := y
                have A72 := N70 y
                show TE m h7 0 (RE m a1 + 3 + 2 * m) n0 (h7 160 22) u10.1 ∧ CC h7 + h 160 23 ≤ CC h + h7 160 23
                refine ⟨?_, by omega⟩
                exact on_pre O69 (by omega) ⟨by omega, by omega, by omega, by omega⟩ (te_wd (N71 y) (by omega) (by omega) (by omega) (by omega))
              · skip
                unfold qj_X13_unary_141
                refine pc_add (by omega) ?_; intro v1 e_v1
                refine pc_xl ?_; intro h2 E_h2
                obtain ⟨S_h2, c_h2, f_h2⟩ := sm_cur E_h2 (by omega)
                have z_h2 := S_h2.1
                have F73 : Fr h h2 n0 := fr_tr F60 (sm_fr (n := n0) S_h2) (by omega)
                have D74 := cc_sm S_h2
                have O75 : ON h2 u10.1 35 (-1) (-1) (-1) (-1) (h 160 23) 0 := on_sm S_h2 O_u10
                refine pc_add (by omega) ?_; intro v4 e_v4
                subst e_v4
                refine pc_sv (G.2.2.1 (a1 + 1) h2 (by omega) (by omega) (by omega)) ?_; intro u6 P_u6
                have F_u6 := P_u6.1; have z_u6 := F_u6.1.1; have c_u6 := F_u6.1.2.2
                have F76 : Fr h u6.2 n0 := fr_tr F73 F_u6 (by omega)
                have O77 : ON u6.2 u10.1 35 (-1) (-1) (-1) (-1) (h 160 23) 0 := on_F F_u6 (by omega) (by omega) O75
                refine pc_wA ?_; intro p_h7 q_h7 h7 E_h7
                obtain ⟨x_h7, y_h7, z_h7⟩ := w_nd E_h7 (by decide)
                have F78 : Fr h h7 n0 := fr_tr F76 (fr_w (n := n0) E_h7 (by decide) (by omega) (by omega) (gi_o E_h7 (by decide))) (by omega)
                have D79 := cc_wo E_h7 (by decide)
                have O80 : ON h7 u10.1 35 u6.1 (-1) (-1) (-1) (h 160 23) 0 := on_w0 E_h7 O77
                have N81 : h7 160 9 = 0 → CC u6.2 + h2 160 23 ≤ CC h2 + u6.2 160 23 := fun y => (fun y => (P_u6.2 y).2) (by omega)
                have N82 : h7 160 9 = 0 → TE m h7 0 (RE m (a1 + 1) + 3 + 2 * m) (h2 160 22) (u6.2 160 22) u6.1 := fun y => te_w E_h7 (by omega) (by omega) (by omega) ((fun y => (P_u6.2 y).1) (by omega))
                refine pc_ret ⟨F78, fun y => ?_⟩
                have y : h7 160 9 = 0 := y
                have A83 := N81 y
                show TE m h7 0 (RE m a1 + 3 + 2 * m) n0 (h7 160 22) u10.1 ∧ CC h7 + h 160 23 ≤ CC h + h7 160 23
                refine ⟨?_, by omega⟩
                exact on_pre O80 (by omega) ⟨by omega, by omega, by omega, by omega⟩ (te_wd (N82 y) (by omega) (by omega) (by omega) (by omega))
            · skip
              refine pc_add (by omega) ?_; intro v17 e_v17
              unfold qj_X13_unary_118
              refine pc_sv pc_ad ?_; intro u10 A_u10
              obtain ⟨⟨a0_u10, a1_u10, a2_u10, a3_u10, a4_u10, a5_u10, a6_u10⟩, F_u10, O_u10, C_u10⟩ := A_u10
              have w_u10 : wt 35 = 1 := by decide
              have F84 : Fr h u10.2 n0 := fr_tr F0 F_u10 (by omega)
              refine pc_if (fun C85 => ?_) (fun C85 => ?_)
              · skip
                unfold qj_X13_unary_141
                refine pc_add (by omega) ?_; intro v1 e_v1
                refine pc_xl ?_; intro h2 E_h2
                obtain ⟨S_h2, c_h2, f_h2⟩ := sm_cur E_h2 (by omega)
                have z_h2 := S_h2.1
                have F86 : Fr h h2 n0 := fr_tr F84 (sm_fr (n := n0) S_h2) (by omega)
                have D87 := cc_sm S_h2
                have O88 : ON h2 u10.1 35 (-1) (-1) (-1) (-1) (h 160 23) 0 := on_sm S_h2 O_u10
                refine pc_add (by omega) ?_; intro v4 e_v4
                subst e_v4
                refine pc_sv (G.2.2.1 (a1 + 1) h2 (by omega) (by omega) (by omega)) ?_; intro u6 P_u6
                have F_u6 := P_u6.1; have z_u6 := F_u6.1.1; have c_u6 := F_u6.1.2.2
                have F89 : Fr h u6.2 n0 := fr_tr F86 F_u6 (by omega)
                have O90 : ON u6.2 u10.1 35 (-1) (-1) (-1) (-1) (h 160 23) 0 := on_F F_u6 (by omega) (by omega) O88
                refine pc_wA ?_; intro p_h7 q_h7 h7 E_h7
                obtain ⟨x_h7, y_h7, z_h7⟩ := w_nd E_h7 (by decide)
                have F91 : Fr h h7 n0 := fr_tr F89 (fr_w (n := n0) E_h7 (by decide) (by omega) (by omega) (gi_o E_h7 (by decide))) (by omega)
                have D92 := cc_wo E_h7 (by decide)
                have O93 : ON h7 u10.1 35 u6.1 (-1) (-1) (-1) (h 160 23) 0 := on_w0 E_h7 O90
                have N94 : h7 160 9 = 0 → CC u6.2 + h2 160 23 ≤ CC h2 + u6.2 160 23 := fun y => (fun y => (P_u6.2 y).2) (by omega)
                have N95 : h7 160 9 = 0 → TE m h7 0 (RE m (a1 + 1) + 3 + 2 * m) (h2 160 22) (u6.2 160 22) u6.1 := fun y => te_w E_h7 (by omega) (by omega) (by omega) ((fun y => (P_u6.2 y).1) (by omega))
                refine pc_ret ⟨F91, fun y => ?_⟩
                have y : h7 160 9 = 0 := y
                have A96 := N94 y
                show TE m h7 0 (RE m a1 + 3 + 2 * m) n0 (h7 160 22) u10.1 ∧ CC h7 + h 160 23 ≤ CC h + h7 160 23
                refine ⟨?_, by omega⟩
                exact on_pre O93 (by omega) ⟨by omega, by omega, by omega, by omega⟩ (te_wd (N95 y) (by omega) (by omega) (by omega) (by omega))
              · skip
                unfold qj_X13_unary_141
                refine pc_add (by omega) ?_; intro v1 e_v1
                refine pc_xl ?_; intro h2 E_h2
                obtain ⟨S_h2, c_h2, f_h2⟩ := sm_cur E_h2 (by omega)
                have z_h2 := S_h2.1
                have F97 : Fr h h2 n0 := fr_tr F84 (sm_fr (n := n0) S_h2) (by omega)
                have D98 := cc_sm S_h2
                have O99 : ON h2 u10.1 35 (-1) (-1) (-1) (-1) (h 160 23) 0 := on_sm S_h2 O_u10
                refine pc_add (by omega) ?_; intro v4 e_v4
                subst e_v4
                refine pc_sv (G.2.2.1 (a1 + 1) h2 (by omega) (by omega) (by omega)) ?_; intro u6 P_u6
                have F_u6 := P_u6.1; have z_u6 := F_u6.1.1; have c_u6 := F_u6.1.2.2
                have F100 : Fr h u6.2 n0 := fr_tr F97 F_u6 (by omega)
                have O101 : ON u6.2 u10.1 35 (-1) (-1) (-1) (-1) (h 160 23) 0 := on_F F_u6 (by omega) (by omega) O99
                refine pc_wA ?_; intro p_h7 q_h7 h7 E_h7
                obtain ⟨x_h7, y_h7, z_h7⟩ := w_nd E_h7 (by decide)
                have F102 : Fr h h7 n0 := fr_tr F100 (fr_w (n := n0) E_h7 (by decide) (by omega) (by omega) (gi_o E_h7 (by decide))) (by omega)
                have D103 := cc_wo E_h7 (by decide)
                have O104 : ON h7 u10.1 35 u6.1 (-1) (-1) (-1) (h 160 23) 0 := on_w0 E_h7 O101
                have N105 : h7 160 9 = 0 → CC u6.2 + h2 160 23 ≤ CC h2 + u6.2 160 23 := fun y => (fun y => (P_u6.2 y).2) (by omega)
                have N106 : h7 160 9 = 0 → TE m h7 0 (RE m (a1 + 1) + 3 + 2 * m) (h2 160 22) (u6.2 160 22) u6.1 := fun y => te_w E_h7 (by omega) (by omega) (by omega) ((fun y => (P_u6.2 y).1) (by omega))
                refine pc_ret ⟨F102, fun y => ?_⟩
                have y : h7 160 9 = 0 := y
                have A107 := N105 y
                show TE m h7 0 (RE m a1 + 3 + 2 * m) n0 (h7 160 22) u10.1 ∧ CC h7 + h 160 23 ≤ CC h + h7 160 23
                refine ⟨?_, by omega⟩
                exact on_pre O104 (by omega) ⟨by omega, by omega, by omega, by omega⟩ (te_wd (N106 y) (by omega) (by omega) (by omega) (by omega))
          · rw [if_neg d1]
            have S_u14 := P_u14.1
            have z_u14 := S_u14.1
            have F108 : Fr h u14.2 n0 := fr_tr F0 (sm_fr (n := n0) S_u14) (by omega)
            have D109 := cc_sm S_u14
            exact pc_ret ⟨F108, fun y => (d2 y).elim⟩
      · skip
        unfold qj_X13_unary_78
        rw [if_pos (by decide)]
        refine pc_sv pc_isDeep ?_; intro u14 P_u14
        rcases P_u14.2 with ⟨d1, d2, d3, d4⟩ | ⟨d1, d2⟩
        · rw [if_pos d1, d4]
          have r2 := re_1 (m := m) (d := a1 + 1) (by omega)
          refine pc_if (fun C110 => ?_) (fun C110 => ?_)
          · skip
            unfold qj_X13_unary_118
            refine pc_sv pc_ad ?_; intro u10 A_u10
            obtain ⟨⟨a0_u10, a1_u10, a2_u10, a3_u10, a4_u10, a5_u10, a6_u10⟩, F_u10, O_u10, C_u10⟩ := A_u10
            have w_u10 : wt 34 = 1 := by decide
            have F111 : Fr h u10.2 n0 := fr_tr F0 F_u10 (by omega)
            refine pc_if (fun C112 => ?_) (fun C112 => ?_)
            · skip
              unfold qj_X13_unary_141
              refine pc_add (by omega) ?_; intro v1 e_v1
              refine pc_xl ?_; intro h2 E_h2
              obtain ⟨S_h2, c_h2, f_h2⟩ := sm_cur E_h2 (by omega)
              have z_h2 := S_h2.1
              have F113 : Fr h h2 n0 := fr_tr F111 (sm_fr (n := n0) S_h2) (by omega)
              have D114 := cc_sm S_h2
              have O115 : ON h2 u10.1 34 (-1) (-1) (-1) (-1) (h 160 23) 0 := on_sm S_h2 O_u10
              refine pc_add (by omega) ?_; intro v4 e_v4
              subst e_v4
              refine pc_sv (G.2.2.1 (a1 + 1) h2 (by omega) (by omega) (by omega)) ?_; intro u6 P_u6
              have F_u6 := P_u6.1; have z_u6 := F_u6.1.1; have c_u6 := F_u6.1.2.2
              have F116 : Fr h u6.2 n0 := fr_tr F113 F_u6 (by omega)
              have O117 : ON u6.2 u10.1 34 (-1) (-1) (-1) (-1) (h 160 23) 0 := on_F F_u6 (by omega) (by omega) O115
              refine pc_wA ?_; intro p_h7 q_h7 h7 E_h7
              obtain ⟨x_h7, y_h7, z_h7⟩ := w_nd E_h7 (by decide)
              have F118 : Fr h h7 n0 := fr_tr F116 (fr_w (n := n0) E_h7 (by decide) (by omega) (by omega) (gi_o E_h7 (by decide))) (by omega)
              have D119 := cc_wo E_h7 (by decide)
              have O120 : ON h7 u10.1 34 u6.1 (-1) (-1) (-1) (h 160 23) 0 := on_w0 E_h7 O117
              have N121 : h7 160 9 = 0 → CC u6.2 + h2 160 23 ≤ CC h2 + u6.2 160 23 := fun y => (fun y => (P_u6.2 y).2) (by omega)
              have N122 : h7 160 9 = 0 → TE m h7 0 (RE m (a1 + 1) + 3 + 2 * m) (h2 160 22) (u6.2 160 22) u6.1 := fun y => te_w E_h7 (by omega) (by omega) (by omega) ((fun y => (P_u6.2 y).1) (by omega))
              refine pc_ret ⟨F118, fun y => ?_⟩
              have y : h7 160 9 = 0 := y
              have A123 := N121 y
              show TE m h7 0 (RE m a1 + 3 + 2 * m) n0 (h7 160 22) u10.1 ∧ CC h7 + h 160 23 ≤ CC h + h7 160 23
              refine ⟨?_, by omega⟩
              exact on_pre O120 (by omega) ⟨by omega, by omega, by omega, by omega⟩ (te_wd (N122 y) (by omega) (by omega) (by omega) (by omega))
            · skip
              unfold qj_X13_unary_141
              refine pc_add (by omega) ?_; intro v1 e_v1
              refine pc_xl ?_; intro h2 E_h2
              obtain ⟨S_h2, c_h2, f_h2⟩ := sm_cur E_h2 (by omega)
              have z_h2 := S_h2.1
              have F124 : Fr h h2 n0 := fr_tr F111 (sm_fr (n := n0) S_h2) (by omega)
              have D125 := cc_sm S_h2
              have O126 : ON h2 u10.1 34 (-1) (-1) (-1) (-1) (h 160 23) 0 := on_sm S_h2 O_u10
              refine pc_add (by omega) ?_; intro v4 e_v4
              subst e_v4
              refine pc_sv (G.2.2.1 (a1 + 1) h2 (by omega) (by omega) (by omega)) ?_; intro u6 P_u6
              have F_u6 := P_u6.1; have z_u6 := F_u6.1.1; have c_u6 := F_u6.1.2.2
              have F127 : Fr h u6.2 n0 := fr_tr F124 F_u6 (by omega)
              have O128 : ON u6.2 u10.1 34 (-1) (-1) (-1) (-1) (h 160 23) 0 := on_F F_u6 (by omega) (by omega) O126
              refine pc_wA ?_; intro p_h7 q_h7 h7 E_h7
              obtain ⟨x_h7, y_h7, z_h7⟩ := w_nd E_h7 (by decide)
              have F129 : Fr h h7 n0 := fr_tr F127 (fr_w (n := n0) E_h7 (by decide) (by omega) (by omega) (gi_o E_h7 (by decide))) (by omega)
              have D130 := cc_wo E_h7 (by decide)
              have O131 : ON h7 u10.1 34 u6.1 (-1) (-1) (-1) (h 160 23) 0 := on_w0 E_h7 O128
              have N132 : h7 160 9 = 0 → CC u6.2 + h2 160 23 ≤ CC h2 + u6.2 160 23 := fun y => (fun y => (P_u6.2 y).2) (by omega)
              have N133 : h7 160 9 = 0 → TE m h7 0 (RE m (a1 + 1) + 3 + 2 * m) (h2 160 22) (u6.2 160 22) u6.1 := fun y => te_w E_h7 (by omega) (by omega) (by omega) ((fun y => (P_u6.2 y).1) (by omega))
              refine pc_ret ⟨F129, fun y => ?_⟩
              have y : h7 160 9 = 0 := y
              have A134 := N132 y
              show TE m h7 0 (RE m a1 + 3 + 2 * m) n0 (h7 160 22) u10.1 ∧ CC h7 + h 160 23 ≤ CC h + h7 160 23
              refine ⟨?_, by omega⟩
              exact on_pre O131 (by omega) ⟨by omega, by omega, by omega, by omega⟩ (te_wd (N133 y) (by omega) (by omega) (by omega) (by omega))
          · skip
            refine pc_add (by omega) ?_; intro v17 e_v17
            unfold qj_X13_unary_118
            refine pc_sv pc_ad ?_; intro u10 A_u10
            obtain ⟨⟨a0_u10, a1_u10, a2_u10, a3_u10, a4_u10, a5_u10, a6_u10⟩, F_u10, O_u10, C_u10⟩ := A_u10
            have w_u10 : wt 34 = 1 := by decide
            have F135 : Fr h u10.2 n0 := fr_tr F0 F_u10 (by omega)
            refine pc_if (fun C136 => ?_) (fun C136 => ?_)
            · skip
              unfold qj_X13_unary_141
              refine pc_add (by omega) ?_; intro v1 e_v1
              refine pc_xl ?_; intro h2 E_h2
              obtain ⟨S_h2, c_h2, f_h2⟩ := sm_cur E_h2 (by omega)
              have z_h2 := S_h2.1
              have F137 : Fr h h2 n0 := fr_tr F135 (sm_fr (n := n0) S_h2) (by omega)
              have D138 := cc_sm S_h2
              have O139 : ON h2 u10.1 34 (-1) (-1) (-1) (-1) (h 160 23) 0 := on_sm S_h2 O_u10
              refine pc_add (by omega) ?_; intro v4 e_v4
              subst e_v4
              refine pc_sv (G.2.2.1 (a1 + 1) h2 (by omega) (by omega) (by omega)) ?_; intro u6 P_u6
              have F_u6 := P_u6.1; have z_u6 := F_u6.1.1; have c_u6 := F_u6.1.2.2
              have F140 : Fr h u6.2 n0 := fr_tr F137 F_u6 (by omega)
              have O141 : ON u6.2 u10.1 34 (-1) (-1) (-1) (-1) (h 160 23) 0 := on_F F_u6 (by omega) (by omega) O139
              refine pc_wA ?_; intro p_h7 q_h7 h7 E_h7
              obtain ⟨x_h7, y_h7, z_h7⟩ := w_nd E_h7 (by decide)
              have F142 : Fr h h7 n0 := fr_tr F140 (fr_w (n := n0) E_h7 (by decide) (by omega) (by omega) (gi_o E_h7 (by decide))) (by omega)
              have D143 := cc_wo E_h7 (by decide)
              have O144 : ON h7 u10.1 34 u6.1 (-1) (-1) (-1) (h 160 23) 0 := on_w0 E_h7 O141
              have N145 : h7 160 9 = 0 → CC u6.2 + h2 160 23 ≤ CC h2 + u6.2 160 23 := fun y => (fun y => (P_u6.2 y).2) (by omega)
              have N146 : h7 160 9 = 0 → TE m h7 0 (RE m (a1 + 1) + 3 + 2 * m) (h2 160 22) (u6.2 160 22) u6.1 := fun y => te_w E_h7 (by omega) (by omega) (by omega) ((fun y => (P_u6.2 y).1) (by omega))
              refine pc_ret ⟨F142, fun y => ?_⟩
              have y : h7 160 9 = 0 := y
              have A147 := N145 y
              show TE m h7 0 (RE m a1 + 3 + 2 * m) n0 (h7 160 22) u10.1 ∧ CC h7 + h 160 23 ≤ CC h + h7 160 23
              refine ⟨?_, by omega⟩
              exact on_pre O144 (by omega) ⟨by omega, by omega, by omega, by omega⟩ (te_wd (N146 y) (by omega) (by omega) (by omega) (by omega))
            · skip
              unfold qj_X13_unary_141
              refine pc_add (by omega) ?_; intro v1 e_v1
              refine pc_xl ?_; intro h2 E_h2
              obtain ⟨S_h2, c_h2, f_h2⟩ := sm_cur E_h2 (by omega)
              have z_h2 := S_h2.1
              have F148 : Fr h h2 n0 := fr_tr F135 (sm_fr (n := n0) S_h2) (by omega)
              have D149 := cc_sm S_h2
              have O150 : ON h2 u10.1 34 (-1) (-1) (-1) (-1) (h 160 23) 0 := on_sm S_h2 O_u10
              refine pc_add (by omega) ?_; intro v4 e_v4
              subst e_v4
              refine pc_sv (G.2.2.1 (a1 + 1) h2 (by omega) (by omega) (by omega)) ?_; intro u6 P_u6
              have F_u6 := P_u6.1; have z_u6 := F_u6.1.1; have c_u6 := F_u6.1.2.2
              have F151 : Fr h u6.2 n0 := fr_tr F148 F_u6 (by omega)
              have O152 : ON u6.2 u10.1 34 (-1) (-1) (-1) (-1) (h 160 23) 0 := on_F F_u6 (by omega) (by omega) O150
              refine pc_wA ?_; intro p_h7 q_h7 h7 E_h7
              obtain ⟨x_h7, y_h7, z_h7⟩ := w_nd E_h7 (by decide)
              have F153 : Fr h h7 n0 := fr_tr F151 (fr_w (n := n0) E_h7 (by decide) (by omega) (by omega) (gi_o E_h7 (by decide))) (by omega)
              have D154 := cc_wo E_h7 (by decide)
              have O155 : ON h7 u10.1 34 u6.1 (-1) (-1) (-1) (h 160 23) 0 := on_w0 E_h7 O152
              have N156 : h7 160 9 = 0 → CC u6.2 + h2 160 23 ≤ CC h2 + u6.2 160 23 := fun y => (fun y => (P_u6.2 y).2) (by omega)
              have N157 : h7 160 9 = 0 → TE m h7 0 (RE m (a1 + 1) + 3 + 2 * m) (h2 160 22) (u6.2 160 22) u6.1 := fun y => te_w E_h7 (by omega) (by omega) (by omega) ((fun y => (P_u6.2 y).1) (by omega))
              refine pc_ret ⟨F153, fun y => ?_⟩
              have y : h7 160 9 = 0 := y
              have A158 := N156 y
              show TE m h7 0 (RE m a1 + 3 + 2 * m) n0 (h7 160 22) u10.1 ∧ CC h7 + h 160 23 ≤ CC h + h7 160 23
              refine ⟨?_, by omega⟩
              exact on_pre O155 (by omega) ⟨by omega, by omega, by omega, by omega⟩ (te_wd (N157 y) (by omega) (by omega) (by omega) (by omega))
        · rw [if_neg d1]
          have S_u14 := P_u14.1
          have z_u14 := S_u14.1
          have F159 : Fr h u14.2 n0 := fr_tr F0 (sm_fr (n := n0) S_u14) (by omega)
          have D160 := cc_sm S_u14
          exact pc_ret ⟨F159, fun y => (d2 y).elim⟩
    · skip
      unfold qj_X13_unary_78
      rw [if_pos (by decide)]
      refine pc_sv pc_isDeep ?_; intro u14 P_u14
      rcases P_u14.2 with ⟨d1, d2, d3, d4⟩ | ⟨d1, d2⟩
      · rw [if_pos d1, d4]
        have r2 := re_1 (m := m) (d := a1 + 1) (by omega)
        refine pc_if (fun C161 => ?_) (fun C161 => ?_)
        · skip
          unfold qj_X13_unary_118
          refine pc_sv pc_ad ?_; intro u10 A_u10
          obtain ⟨⟨a0_u10, a1_u10, a2_u10, a3_u10, a4_u10, a5_u10, a6_u10⟩, F_u10, O_u10, C_u10⟩ := A_u10
          have w_u10 : wt 33 = 1 := by decide
          have F162 : Fr h u10.2 n0 := fr_tr F0 F_u10 (by omega)
          refine pc_if (fun C163 => ?_) (fun C163 => ?_)
          · skip
            unfold qj_X13_unary_141
            refine pc_add (by omega) ?_; intro v1 e_v1
            refine pc_xl ?_; intro h2 E_h2
            obtain ⟨S_h2, c_h2, f_h2⟩ := sm_cur E_h2 (by omega)
            have z_h2 := S_h2.1
            have F164 : Fr h h2 n0 := fr_tr F162 (sm_fr (n := n0) S_h2) (by omega)
            have D165 := cc_sm S_h2
            have O166 : ON h2 u10.1 33 (-1) (-1) (-1) (-1) (h 160 23) 0 := on_sm S_h2 O_u10
            refine pc_add (by omega) ?_; intro v4 e_v4
            subst e_v4
            refine pc_sv (G.2.2.1 (a1 + 1) h2 (by omega) (by omega) (by omega)) ?_; intro u6 P_u6
            have F_u6 := P_u6.1; have z_u6 := F_u6.1.1; have c_u6 := F_u6.1.2.2
            have F167 : Fr h u6.2 n0 := fr_tr F164 F_u6 (by omega)
            have O168 : ON u6.2 u10.1 33 (-1) (-1) (-1) (-1) (h 160 23) 0 := on_F F_u6 (by omega) (by omega) O166
            refine pc_wA ?_; intro p_h7 q_h7 h7 E_h7
            obtain ⟨x_h7, y_h7, z_h7⟩ := w_nd E_h7 (by decide)
            have F169 : Fr h h7 n0 := fr_tr F167 (fr_w (n := n0) E_h7 (by decide) (by omega) (by omega) (gi_o E_h7 (by decide))) (by omega)
            have D170 := cc_wo E_h7 (by decide)
            have O171 : ON h7 u10.1 33 u6.1 (-1) (-1) (-1) (h 160 23) 0 := on_w0 E_h7 O168
            have N172 : h7 160 9 = 0 → CC u6.2 + h2 160 23 ≤ CC h2 + u6.2 160 23 := fun y => (fun y => (P_u6.2 y).2) (by omega)
            have N173 : h7 160 9 = 0 → TE m h7 0 (RE m (a1 + 1) + 3 + 2 * m) (h2 160 22) (u6.2 160 22) u6.1 := fun y => te_w E_h7 (by omega) (by omega) (by omega) ((fun y => (P_u6.2 y).1) (by omega))
            refine pc_ret ⟨F169, fun y => ?_⟩
            have y : h7 160 9 = 0 := y
            have A174 := N172 y
            show TE m h7 0 (RE m a1 + 3 + 2 * m) n0 (h7 160 22) u10.1 ∧ CC h7 + h 160 23 ≤ CC h + h7 160 23
            refine ⟨?_, by omega⟩
            exact on_pre O171 (by omega) ⟨by omega, by omega, by omega, by omega⟩ (te_wd (N173 y) (by omega) (by omega) (by omega) (by omega))
          · skip
            unfold qj_X13_unary_141
            refine pc_add (by omega) ?_; intro v1 e_v1
            refine pc_xl ?_; intro h2 E_h2
            obtain ⟨S_h2, c_h2, f_h2⟩ := sm_cur E_h2 (by omega)
            have z_h2 := S_h2.1
            have F175 : Fr h h2 n0 := fr_tr F162 (sm_fr (n := n0) S_h2) (by omega)
            have D176 := cc_sm S_h2
            have O177 : ON h2 u10.1 33 (-1) (-1) (-1) (-1) (h 160 23) 0 := on_sm S_h2 O_u10
            refine pc_add (by omega) ?_; intro v4 e_v4
            subst e_v4
            refine pc_sv (G.2.2.1 (a1 + 1) h2 (by omega) (by omega) (by omega)) ?_; intro u6 P_u6
            have F_u6 := P_u6.1; have z_u6 := F_u6.1.1; have c_u6 := F_u6.1.2.2
            have F178 : Fr h u6.2 n0 := fr_tr F175 F_u6 (by omega)
            have O179 : ON u6.2 u10.1 33 (-1) (-1) (-1) (-1) (h 160 23) 0 := on_F F_u6 (by omega) (by omega) O177
            refine pc_wA ?_; intro p_h7 q_h7 h7 E_h7
            obtain ⟨x_h7, y_h7, z_h7⟩ := w_nd E_h7 (by decide)
            have F180 : Fr h h7 n0 := fr_tr F178 (fr_w (n := n0) E_h7 (by decide) (by omega) (by omega) (gi_o E_h7 (by decide))) (by omega)
            have D181 := cc_wo E_h7 (by decide)
            have O182 : ON h7 u10.1 33 u6.1 (-1) (-1) (-1) (h 160 23) 0 := on_w0 E_h7 O179
            have N183 : h7 160 9 = 0 → CC u6.2 + h2 160 23 ≤ CC h2 + u6.2 160 23 := fun y => (fun y => (P_u6.2 y).2) (by omega)
            have N184 : h7 160 9 = 0 → TE m h7 0 (RE m (a1 + 1) + 3 + 2 * m) (h2 160 22) (u6.2 160 22) u6.1 := fun y => te_w E_h7 (by omega) (by omega) (by omega) ((fun y => (P_u6.2 y).1) (by omega))
            refine pc_ret ⟨F180, fun y => ?_⟩
            have y : h7 160 9 = 0 := y
            have A185 := N183 y
            show TE m h7 0 (RE m a1 + 3 + 2 * m) n0 (h7 160 22) u10.1 ∧ CC h7 + h 160 23 ≤ CC h + h7 160 23
            refine ⟨?_, by omega⟩
            exact on_pre O182 (by omega) ⟨by omega, by omega, by omega, by omega⟩ (te_wd (N184 y) (by omega) (by omega) (by omega) (by omega))
        · skip
          refine pc_add (by omega) ?_; intro v17 e_v17
          unfold qj_X13_unary_118
          refine pc_sv pc_ad ?_; intro u10 A_u10
          obtain ⟨⟨a0_u10, a1_u10, a2_u10, a3_u10, a4_u10, a5_u10, a6_u10⟩, F_u10, O_u10, C_u10⟩ := A_u10
          have w_u10 : wt 33 = 1 := by decide
          have F186 : Fr h u10.2 n0 := fr_tr F0 F_u10 (by omega)
          refine pc_if (fun C187 => ?_) (fun C187 => ?_)
          · skip
            unfold qj_X13_unary_141
            refine pc_add (by omega) ?_; intro v1 e_v1
            refine pc_xl ?_; intro h2 E_h2
            obtain ⟨S_h2, c_h2, f_h2⟩ := sm_cur E_h2 (by omega)
            have z_h2 := S_h2.1
            have F188 : Fr h h2 n0 := fr_tr F186 (sm_fr (n := n0) S_h2) (by omega)
            have D189 := cc_sm S_h2
            have O190 : ON h2 u10.1 33 (-1) (-1) (-1) (-1) (h 160 23) 0 := on_sm S_h2 O_u10
            refine pc_add (by omega) ?_; intro v4 e_v4
            subst e_v4
            refine pc_sv (G.2.2.1 (a1 + 1) h2 (by omega) (by omega) (by omega)) ?_; intro u6 P_u6
            have F_u6 := P_u6.1; have z_u6 := F_u6.1.1; have c_u6 := F_u6.1.2.2
            have F191 : Fr h u6.2 n0 := fr_tr F188 F_u6 (by omega)
            have O192 : ON u6.2 u10.1 33 (-1) (-1) (-1) (-1) (h 160 23) 0 := on_F F_u6 (by omega) (by omega) O190
            refine pc_wA ?_; intro p_h7 q_h7 h7 E_h7
            obtain ⟨x_h7, y_h7, z_h7⟩ := w_nd E_h7 (by decide)
            have F193 : Fr h h7 n0 := fr_tr F191 (fr_w (n := n0) E_h7 (by decide) (by omega) (by omega) (gi_o E_h7 (by decide))) (by omega)
            have D194 := cc_wo E_h7 (by decide)
            have O195 : ON h7 u10.1 33 u6.1 (-1) (-1) (-1) (h 160 23) 0 := on_w0 E_h7 O192
            have N196 : h7 160 9 = 0 → CC u6.2 + h2 160 23 ≤ CC h2 + u6.2 160 23 := fun y => (fun y => (P_u6.2 y).2) (by omega)
            have N197 : h7 160 9 = 0 → TE m h7 0 (RE m (a1 + 1) + 3 + 2 * m) (h2 160 22) (u6.2 160 22) u6.1 := fun y => te_w E_h7 (by omega) (by omega) (by omega) ((fun y => (P_u6.2 y).1) (by omega))
            refine pc_ret ⟨F193, fun y => ?_⟩
            have y : h7 160 9 = 0 := y
            have A198 := N196 y
            show TE m h7 0 (RE m a1 + 3 + 2 * m) n0 (h7 160 22) u10.1 ∧ CC h7 + h 160 23 ≤ CC h + h7 160 23
            refine ⟨?_, by omega⟩
            exact on_pre O195 (by omega) ⟨by omega, by omega, by omega, by omega⟩ (te_wd (N197 y) (by omega) (by omega) (by omega) (by omega))
          · skip
            unfold qj_X13_unary_141
            refine pc_add (by omega) ?_; intro v1 e_v1
            refine pc_xl ?_; intro h2 E_h2
            obtain ⟨S_h2, c_h2, f_h2⟩ := sm_cur E_h2 (by omega)
            have z_h2 := S_h2.1
            have F199 : Fr h h2 n0 := fr_tr F186 (sm_fr (n := n0) S_h2) (by omega)
            have D200 := cc_sm S_h2
            have O201 : ON h2 u10.1 33 (-1) (-1) (-1) (-1) (h 160 23) 0 := on_sm S_h2 O_u10
            refine pc_add (by omega) ?_; intro v4 e_v4
            subst e_v4
            refine pc_sv (G.2.2.1 (a1 + 1) h2 (by omega) (by omega) (by omega)) ?_; intro u6 P_u6
            have F_u6 := P_u6.1; have z_u6 := F_u6.1.1; have c_u6 := F_u6.1.2.2
            have F202 : Fr h u6.2 n0 := fr_tr F199 F_u6 (by omega)
            have O203 : ON u6.2 u10.1 33 (-1) (-1) (-1) (-1) (h 160 23) 0 := on_F F_u6 (by omega) (by omega) O201
            refine pc_wA ?_; intro p_h7 q_h7 h7 E_h7
            obtain ⟨x_h7, y_h7, z_h7⟩ := w_nd E_h7 (by decide)
            have F204 : Fr h h7 n0 := fr_tr F202 (fr_w (n := n0) E_h7 (by decide) (by omega) (by omega) (gi_o E_h7 (by decide))) (by omega)
            have D205 := cc_wo E_h7 (by decide)
            have O206 : ON h7 u10.1 33 u6.1 (-1) (-1) (-1) (h 160 23) 0 := on_w0 E_h7 O203
            have N207 : h7 160 9 = 0 → CC u6.2 + h2 160 23 ≤ CC h2 + u6.2 160 23 := fun y => (fun y => (P_u6.2 y).2) (by omega)
            have N208 : h7 160 9 = 0 → TE m h7 0 (RE m (a1 + 1) + 3 + 2 * m) (h2 160 22) (u6.2 160 22) u6.1 := fun y => te_w E_h7 (by omega) (by omega) (by omega) ((fun y => (P_u6.2 y).1) (by omega))
            refine pc_ret ⟨F204, fun y => ?_⟩
            have y : h7 160 9 = 0 := y
            have A209 := N207 y
            show TE m h7 0 (RE m a1 + 3 + 2 * m) n0 (h7 160 22) u10.1 ∧ CC h7 + h 160 23 ≤ CC h + h7 160 23
            refine ⟨?_, by omega⟩
            exact on_pre O206 (by omega) ⟨by omega, by omega, by omega, by omega⟩ (te_wd (N208 y) (by omega) (by omega) (by omega) (by omega))
      · rw [if_neg d1]
        have S_u14 := P_u14.1
        have z_u14 := S_u14.1
        have F210 : Fr h u14.2 n0 := fr_tr F0 (sm_fr (n := n0) S_u14) (by omega)
        have D211 := cc_sm S_u14
        exact pc_ret ⟨F210, fun y => (d2 y).elim⟩
  · skip
    exact pc_ret ⟨F0, fun y => (C1 y).elim⟩
/-- all nodes below stand as they stood, but one place -/
def Fx (h r : ms_M) (n : Int) (c0 x0 : Nat) : Prop := (h 160 22 ≤ r 160 22 ∧ (r 160 9 = 0 → h 160 9 = 0) ∧ h 160 23 ≤ r 160 23) ∧ (∀ (c x : Nat), 167 ≤ c → c ≤ 177 → (x : Int) < n → ¬ (c = c0 ∧ x = x0) → r c x = h c x) ∧ (GI h → GI r)
theorem fxx_fr {h r : ms_M} {n : Int} {c x : Nat} (F : Fr h r n) : Fx h r n c x := ⟨F.1, fun c y h1 h2 h3 _ => F.2.1 c y h1 h2 h3, F.2.2⟩
def PA (m : Int) (l1 l2 l3 s : Int) (h : ms_M) (u : Int × ms_M) : Prop :=
  (l2 = -1 → Fr h u.2 (h 160 22) ∧ (u.2 160 9 = 0 → TE m u.2 1 (RE m l1) (h 160 22) (u.2 160 22) u.1 ∧ CC u.2 + h 160 23 ≤ CC h + u.2 160 23 + 1)) ∧ (¬ l2 = -1 → 0 ≤ l3 → l3 < h 160 22 → h 173 l3.toNat = -1 → Fx h u.2 (h 160 22) 173 l3.toNat ∧ (u.2 160 9 = 0 → u.1 = l2 ∧ TE m u.2 1 (RE m l1) (h 160 22) (u.2 160 22) (u.2 173 l3.toNat) ∧ CC u.2 + h 160 23 ≤ CC h + u.2 160 23 + s))
theorem ga_113 {nn : Nat} {m : Int} {rc : tq_X13_expression} {l1 l2 l3 s : Int} {h : ms_M} (hs : 0 ≤ s) : Pc (qj_X13_arguments_113 nn rc l2 h) (PA m l1 l2 l3 s h) := by
  unfold qj_X13_arguments_113
  refine pc_sv pc_sign_ ?_; intro u2 P
  have S := P.1
  have cc := cc_sm S
  refine pc_ret ⟨fun z => ⟨sm_fr S, fun y => ⟨te_i1 (.inl z), by have := P.2 y; show CC u2 + _ ≤ CC h + u2 160 23 + 1; omega⟩⟩, fun z z0 z1 z2 => ⟨fxx_fr (sm_fr S), fun y => ⟨rfl, te_i1 (.inl ?_), by have := P.2 y; show CC u2 + _ ≤ CC h + u2 160 23 + s; omega⟩⟩⟩
  show u2 173 l3.toNat = -1
  rw [S.2.2.2 173 _ (by decide) (by decide)]; exact z2
theorem ga_41 {nn : Nat} {m : Int} {rc : tq_X13_expression} (G : GT m rc) {qkk : Int → Int → Int → ms_M → Option (Int × ms_M)} (ih : ∀ (l1 l2 l3 : Int) (h : ms_M), 0 ≤ l1 → l1 ≤ 40 → 0 ≤ h 160 22 → Pc (qkk l1 l2 l3 h) (PA m l1 l2 l3 0 h)) {l1 l2 l3 : Int} {h : ms_M} (a0 : 0 ≤ l1) (a1 : l1 ≤ 40) (a2 : 0 ≤ h 160 22) : Pc (qj_X13_arguments_41 nn rc qkk l1 l2 l3 h) (PA m l1 l2 l3 1 h) := by
  unfold qj_X13_arguments_41
  refine pc_sv (G.1 l1 h a0 a1 a2) ?_; intro u4 P4
  have F4 := P4.1; have z4 := F4.1.1
  refine pc_if (fun C => ?_) (fun C => pc_ret ⟨fun _ => ⟨F4, fun y => absurd y C⟩, fun _ _ _ _ => ⟨fxx_fr F4, fun y => absurd y C⟩⟩)
  refine pc_rA ?_; intro _ _ v7 _
  refine pc_rA ?_; intro _ _ v9 _
  refine pc_sv pc_ad ?_; intro u11 A
  obtain ⟨⟨b0, b1, b2, b3, b4, b5, _⟩, F11, O11, C11⟩ := A
  have w11 : wt 11 = 1 := by decide
  refine pc_wA ?_; intro p13 q13 h13 E13
  obtain ⟨x13, y13, w13⟩ := w_nd E13 (by decide)
  have O13 := on_w0 E13 O11
  have T4 := (P4.2 C).1
  have C4 := (P4.2 C).2
  have C13 := cc_wo E13 (by decide)
  have k13 : ∀ (c x : Nat), 167 ≤ c → c ≤ 177 → (x : Int) < u4.2 160 22 → h13 c x = u4.2 c x := fun c x h1 h2 h3 => by rw [E13, up_n (by omega), F11.2.1 c x h1 h2 h3]
  refine pc_if (fun C2 => ?_) (fun C2 => ?_)
  · refine pc_wA ?_; intro p15 q15 h15 E15
    obtain ⟨x15, y15, w15⟩ := w_nd E15 (by decide)
    have C15 := cc_wo E15 (by decide)
    refine pc_imp (ih l1 l2 u11.1 h15 a0 a1 (by omega)) (fun u P => ⟨fun z => absurd z C2, fun _ c0 c1 c2 => ?_⟩)
    have O15 : ON h15 u11.1 11 u4.1 (-1) (-1) (-1) v9 0 := on_wj E15 p15 p13 (by omega) O13
    obtain ⟨X, Y⟩ := P.2 C2 p13 (by omega) O15.2.2.2.2.1
    have K : ∀ (c x : Nat), 167 ≤ c → c ≤ 177 → (x : Int) < u4.2 160 22 → ¬ (c = 173 ∧ x = l3.toNat) → u.2 c x = u4.2 c x := fun c x h1 h2 h3 h4 => by rw [X.2.1 c x h1 h2 (by omega) (by omega), E15, up_n h4, k13 c x h1 h2 h3]
    have X1 := X.1
    refine ⟨⟨⟨by omega, fun y => F4.1.2.1 (by have := X1.2.1 y; omega), by have := F4.1.2.2; omega⟩, fun c x h1 h2 h3 h4 => by rw [K c x h1 h2 (by omega) h4, F4.2.1 c x h1 h2 h3], fun w => X.2.2 (gi_o E15 (by decide) (gi_o E13 (by decide) (F11.2.2 (F4.2.2 w))))⟩, fun y => ?_⟩
    obtain ⟨Y1, Y2, Y3⟩ := Y y
    refine ⟨Y1, ?_, by omega⟩
    have e3 : u.2 173 l3.toNat = u11.1 := by rw [X.2.1 173 _ (by decide) (by decide) (by omega) (by omega), E15, up_s]
    have e0 : u.2 170 u11.1.toNat = u4.1 := by rw [X.2.1 170 _ (by decide) (by decide) (by omega) (by omega)]; exact O15.2.1
    rw [e3]
    refine te_i1 (.inr ⟨⟨a2, by omega, by omega⟩, ?_, ?_⟩)
    · rw [e0]
      exact te_wd (te_fr T4 a2 (fun c x h1 h2 h3 h4 => K c x h1 h2 h4 (by omega))) (by omega) a2 (by omega) (by omega)
    · exact te_wd Y2 (by omega) (by omega) (by omega) (by omega)
  · have z2 : l2 = -1 := Classical.not_not.mp C2
    refine pc_imp (ih l1 u11.1 u11.1 h13 a0 a1 (by omega)) (fun u P => ⟨fun _ => ?_, fun z => absurd z2 z⟩)
    obtain ⟨X, Y⟩ := P.2 (by omega) p13 (by omega) O13.2.2.2.2.1
    have K : ∀ (c x : Nat), 167 ≤ c → c ≤ 177 → (x : Int) < u4.2 160 22 → u.2 c x = u4.2 c x := fun c x h1 h2 h3 => by rw [X.2.1 c x h1 h2 (by omega) (by omega), k13 c x h1 h2 h3]
    have X1 := X.1
    refine ⟨⟨⟨by omega, fun y => F4.1.2.1 (by have := X1.2.1 y; omega), by have := F4.1.2.2; omega⟩, fun c x h1 h2 h3 => by rw [K c x h1 h2 (by omega), F4.2.1 c x h1 h2 h3], fun w => X.2.2 (gi_o E13 (by decide) (F11.2.2 (F4.2.2 w)))⟩, fun y => ?_⟩
    obtain ⟨Y1, Y2, Y3⟩ := Y y
    refine ⟨?_, by omega⟩
    have e0 : u.2 170 u11.1.toNat = u4.1 := by rw [X.2.1 170 _ (by decide) (by decide) (by omega) (by omega)]; exact O13.2.1
    rw [Y1]
    refine te_i1 (.inr ⟨⟨a2, by omega, by omega⟩, ?_, ?_⟩)
    · rw [e0]
      exact te_wd (te_fr T4 a2 (fun c x h1 h2 h3 h4 => K c x h1 h2 h4)) (by omega) a2 (by omega) (by omega)
    · exact te_wd Y2 (by omega) (by omega) (by omega) (by omega)
theorem gl_args {nn : Nat} {m : Int} {rc : tq_X13_expression} (G : GT m rc) : ∀ (k : Nat) (l1 l2 l3 : Int) (h : ms_M), 0 ≤ l1 → l1 ≤ 40 → 0 ≤ h 160 22 → Pc (qw_X13_arguments_10 nn rc k l1 l2 l3 h) (PA m l1 l2 l3 0 h) := by
  intro k
  induction k with
  | zero => intros; exact pc_none
  | succ k ih =>
    intro l1 l2 l3 h a0 a1 a2
    unfold qw_X13_arguments_10
    refine pc_if (fun C => ga_113 (by decide)) (fun C => ?_)
    refine pc_se ?_; intro u21 _
    refine pc_if (fun C2 => ga_113 (by decide)) (fun C2 => ?_)
    refine pc_if (fun C3 => pc_imp (ga_41 (l3 := l3) G ih a0 a1 a2) (fun u P2 => ⟨P2.1, fun z => absurd C3 z⟩)) (fun C3 => ?_)
    refine pc_sv pc_sign_ ?_; intro u23 P
    have S := P.1; have s1 := S.1; have cc := cc_sm S
    refine pc_imp (ga_41 (l2 := l2) (l3 := l3) G ih a0 a1 (show 0 ≤ u23 160 22 by omega)) (fun u P2 => ⟨fun z => absurd z C3, fun z c0 c1 c2 => ?_⟩)
    obtain ⟨X, Y⟩ := P2.2 z c0 (by omega) (by rw [S.2.2.2 173 _ (by decide) (by decide)]; exact c2)
    rw [s1] at X Y
    refine ⟨⟨⟨by have := X.1.1; omega, fun y => S.2.1 (X.1.2.1 y), by have := X.1.2.2; have := S.2.2.1; omega⟩, fun c x h1 h2 h3 h4 => by rw [X.2.1 c x h1 h2 h3 h4, S.2.2.2 c x h1 h2], fun w => X.2.2 (gi_sm S w)⟩, fun y => ⟨(Y y).1, (Y y).2.1, by have := P.2 (X.1.2.1 y); have := (Y y).2.2; omega⟩⟩
theorem go_arguments {nn : Nat} {m : Int} (_ : m = 0 ∨ m = 1) {rc : tq_X13_expression} (G : GT m rc) {a1 : Int} {h : ms_M} (ha : 0 ≤ a1 ∧ a1 ≤ 40) (hh : 0 ≤ h 160 22) : Pc (qo_X13_arguments nn rc a1 h) (CA m (RE m a1) h) := by
  unfold qo_X13_arguments
  refine pc_sv pc_sign_ ?_; intro u28 P
  have S := P.1; have s1 := S.1
  refine pc_imp (gl_args G nn a1 (-1) (-1) u28 ha.1 ha.2 (by omega)) (fun u P2 => ?_)
  obtain ⟨X, Y⟩ := P2.1 rfl
  rw [s1] at X Y
  have cc := cc_sm S
  exact ⟨fr_tr (sm_fr (n := h 160 22) S) X (by omega), fun y => ⟨(Y y).1, by have := P.2 (X.1.2.1 y); have := (Y y).2; omega⟩⟩

theorem gl_postfix_11 {nn : Nat} {m : Int} (hm : m = 0 ∨ m = 1) {rc : tq_X13_expression} (G : GT m rc) : ∀ (k : Nat) (l1 l2 l3 : Int) (h : ms_M) (n0 : Int), 0 ≤ l1 → l1 ≤ 40 → 0 ≤ n0 → n0 ≤ h 160 22 → (h 160 9 = 0 → TE m h 0 (RE m l1 + 3 + 2 * m) n0 (h 160 22) l3) → Pc (qw_X13_postfix_11 nn rc k l1 l2 l3 h) (fun u => Fr h u.2 n0 ∧ (u.2 160 9 = 0 → TE m u.2 0 (RE m l1 + 3 + 2 * m) n0 (u.2 160 22) u.1 ∧ CC u.2 + h 160 23 ≤ CC h + u.2 160 23)) := by
  intro k
  induction k with
  | zero => intros; exact pc_none
  | succ k ih =>
    intro l1 l2 l3 h n0 g1 g2 g3 g4 T0
    have r1 := re_1 (m := m) (d := l1) (by omega)
    have hm2 : 0 ≤ m ∧ m ≤ 1 := by omega
    have hmn : Nonempty (m = 0 ∨ m = 1) := ⟨hm⟩
    clear hm
    unfold qw_X13_postfix_11
    have F0 : Fr h h n0 := fr_rf
    refine pc_if (fun C1 => ?_) (fun C1 => ?_)
    · skip
      exact pc_ret ⟨F0, fun y => (C1 y).elim⟩
    · skip
      refine pc_sv pc_isSign ?_; intro u48 b_u48
      refine pc_if (fun C2 => ?_) (fun C2 => ?_)
      · skip
        unfold qj_X13_postfix_44
        refine pc_sv pc_isSign ?_; intro u5 b_u5
        refine pc_if (fun C3 => ?_) (fun C3 => ?_)
        · skip
          refine pc_sv pc_ad ?_; intro u8 A_u8
          obtain ⟨⟨a0_u8, a1_u8, a2_u8, a3_u8, a4_u8, a5_u8, a6_u8⟩, F_u8, O_u8, C_u8⟩ := A_u8
          have w_u8 : wt 32 = 1 := by decide
          have F4 : Fr h u8.2 n0 := fr_tr F0 F_u8 (by omega)
          have N5 : u8.2 160 9 = 0 → TE m u8.2 0 (RE m l1 + 3 + 2 * m) n0 (h 160 22) l3 := fun y => te_F F_u8 (by omega) (by omega) (T0 (F_u8.1.2.1 y))
          refine pc_add (by omega) ?_; intro v10 e_v10
          refine pc_xl ?_; intro h11 E_h11
          obtain ⟨S_h11, c_h11, f_h11⟩ := sm_cur E_h11 (by omega)
          have z_h11 := S_h11.1
          have F6 : Fr h h11 n0 := fr_tr F4 (sm_fr (n := n0) S_h11) (by omega)
          have D7 := cc_sm S_h11
          have O8 : ON h11 u8.1 32 (-1) (-1) (-1) (-1) l2 0 := on_sm S_h11 O_u8
          have N9 : h11 160 9 = 0 → TE m h11 0 (RE m l1 + 3 + 2 * m) n0 (h 160 22) l3 := fun y => te_sm S_h11 (by omega) (N5 (S_h11.2.1 y))
          refine pc_wA ?_; intro p_h13 q_h13 h13 E_h13
          obtain ⟨x_h13, y_h13, z_h13⟩ := w_nd E_h13 (by decide)
          have F10 : Fr h h13 n0 := fr_tr F6 (fr_w (n := n0) E_h13 (by decide) (by omega) (by omega) (gi_o E_h13 (by decide))) (by omega)
          have D11 := cc_wo E_h13 (by decide)
          have O12 : ON h13 u8.1 32 l3 (-1) (-1) (-1) l2 0 := on_w0 E_h13 O8
          have N13 : h13 160 9 = 0 → TE m h13 0 (RE m l1 + 3 + 2 * m) n0 (h 160 22) l3 := fun y => te_w E_h13 (by omega) (by omega) (by omega) (N9 (by omega))
          refine pc_sv (G.1 l1 h13 (by omega) (by omega) (by omega)) ?_; intro u16 P_u16
          have F_u16 := P_u16.1; have z_u16 := F_u16.1.1; have c_u16 := F_u16.1.2.2
          have F14 : Fr h u16.2 n0 := fr_tr F10 F_u16 (by omega)
          have O15 : ON u16.2 u8.1 32 l3 (-1) (-1) (-1) l2 0 := on_F F_u16 (by omega) (by omega) O12
          have N16 : u16.2 160 9 = 0 → TE m u16.2 0 (RE m l1 + 3 + 2 * m) n0 (h 160 22) l3 := fun y => te_F F_u16 (by omega) (by omega) (N13 (F_u16.1.2.1 y))
          refine pc_wA ?_; intro p_h17 q_h17 h17 E_h17
          obtain ⟨x_h17, y_h17, z_h17⟩ := w_nd E_h17 (by decide)
          have F17 : Fr h h17 n0 := fr_tr F14 (fr_w (n := n0) E_h17 (by decide) (by omega) (by omega) (gi_o E_h17 (by decide))) (by omega)
          have D18 := cc_wo E_h17 (by decide)
          have O19 : ON h17 u8.1 32 l3 u16.1 (-1) (-1) l2 0 := on_w1 E_h17 O15
          have N20 : h17 160 9 = 0 → TE m h17 0 (RE m l1 + 3 + 2 * m) n0 (h 160 22) l3 := fun y => te_w E_h17 (by omega) (by omega) (by omega) (N16 (by omega))
          have N21 : h17 160 9 = 0 → CC u16.2 + h13 160 23 ≤ CC h13 + u16.2 160 23 := fun y => (fun y => (P_u16.2 y).2) (by omega)
          have N22 : h17 160 9 = 0 → TE m h17 0 (RE m l1) (h13 160 22) (u16.2 160 22) u16.1 := fun y => te_w E_h17 (by omega) (by omega) (by omega) ((fun y => (P_u16.2 y).1) (by omega))
          unfold qj_X13_postfix_194
          refine pc_sv pc_sign_ ?_; intro u2 P_u2
          have S_u2 := P_u2.1
          have z_u2 := S_u2.1; have c_u2 := S_u2.2.2.1
          have F23 : Fr h u2 n0 := fr_tr F17 (sm_fr (n := n0) S_u2) (by omega)
          have D24 := cc_sm S_u2
          have O25 : ON u2 u8.1 32 l3 u16.1 (-1) (-1) l2 0 := on_sm S_u2 O19
          have N26 : u2 160 9 = 0 → TE m u2 0 (RE m l1 + 3 + 2 * m) n0 (h 160 22) l3 := fun y => te_sm S_u2 (by omega) (N20 (S_u2.2.1 y))
          have N27 : u2 160 9 = 0 → CC u16.2 + h13 160 23 ≤ CC h13 + u16.2 160 23 := fun y => N21 (S_u2.2.1 y)
          have N28 : u2 160 9 = 0 → TE m u2 0 (RE m l1) (h13 160 22) (u16.2 160 22) u16.1 := fun y => te_sm S_u2 (by omega) (N22 (S_u2.2.1 y))
          have T29 : u2 160 9 = 0 → TE m u2 0 (RE m l1 + 3 + 2 * m) n0 (u2 160 22) u8.1 := by
            intro y
            have y : u2 160 9 = 0 := y
            have A30 := N27 y
            have A31 := P_u2.2 y
            show TE m u2 0 (RE m l1 + 3 + 2 * m) n0 (u2 160 22) u8.1
            exact on_two O25 (by omega) ⟨by omega, by omega, by omega, by omega⟩ (te_wd (N26 y) (by omega) (by omega) (by omega) (by omega)) (te_wd (N28 y) (by omega) (by omega) (by omega) (by omega))
          refine pc_imp (ih l1 l2 u8.1 u2 n0 (by omega) (by omega) (by omega) (by omega) T29) (fun u P => ⟨fr_tr F23 P.1 (by omega), fun y => ⟨(P.2 y).1, ?_⟩⟩)
          have y2 : u2 160 9 = 0 := P.1.1.2.1 y
          have y3 := (P.2 y).2
          have A32 := N27 y2
          have A33 := P_u2.2 y2
          omega
        · skip
          refine pc_sv pc_ad ?_; intro u19 A_u19
          obtain ⟨⟨a0_u19, a1_u19, a2_u19, a3_u19, a4_u19, a5_u19, a6_u19⟩, F_u19, O_u19, C_u19⟩ := A_u19
          have w_u19 : wt 30 = 2 := by decide
          have F34 : Fr h u19.2 n0 := fr_tr F0 F_u19 (by omega)
          have N35 : u19.2 160 9 = 0 → TE m u19.2 0 (RE m l1 + 3 + 2 * m) n0 (h 160 22) l3 := fun y => te_F F_u19 (by omega) (by omega) (T0 (F_u19.1.2.1 y))
          refine pc_wA ?_; intro p_h22 q_h22 h22 E_h22
          obtain ⟨x_h22, y_h22, z_h22⟩ := w_nd E_h22 (by decide)
          have F36 : Fr h h22 n0 := fr_tr F34 (fr_w (n := n0) E_h22 (by decide) (by omega) (by omega) (gi_o E_h22 (by decide))) (by omega)
          have D37 := cc_wo E_h22 (by decide)
          have O38 : ON h22 u19.1 30 (-1) (-1) (u19.2 160 23) (-1) l2 0 := on_w2 E_h22 O_u19
          have N39 : h22 160 9 = 0 → TE m h22 0 (RE m l1 + 3 + 2 * m) n0 (h 160 22) l3 := fun y => te_w E_h22 (by omega) (by omega) (by omega) (N35 (by omega))
          refine pc_add (by omega) ?_; intro v24 e_v24
          refine pc_xl ?_; intro h25 E_h25
          obtain ⟨S_h25, c_h25, f_h25⟩ := sm_cur E_h25 (by omega)
          have z_h25 := S_h25.1
          have F40 : Fr h h25 n0 := fr_tr F36 (sm_fr (n := n0) S_h25) (by omega)
          have D41 := cc_sm S_h25
          have O42 : ON h25 u19.1 30 (-1) (-1) (u19.2 160 23) (-1) l2 0 := on_sm S_h25 O38
          have N43 : h25 160 9 = 0 → TE m h25 0 (RE m l1 + 3 + 2 * m) n0 (h 160 22) l3 := fun y => te_sm S_h25 (by omega) (N39 (S_h25.2.1 y))
          refine pc_sv pc_name ?_; intro u28 P_u28
          have S_u28 := P_u28.1
          have z_u28 := S_u28.1; have c_u28 := S_u28.2.2.1
          have n_u28 := P_u28.2.1
          have F44 : Fr h u28.2 n0 := fr_tr F40 (sm_fr (n := n0) S_u28) (by omega)
          have D45 := cc_sm S_u28
          have O46 : ON u28.2 u19.1 30 (-1) (-1) (u19.2 160 23) (-1) l2 0 := on_sm S_u28 O42
          have N47 : u28.2 160 9 = 0 → TE m u28.2 0 (RE m l1 + 3 + 2 * m) n0 (h 160 22) l3 := fun y => te_sm S_u28 (by omega) (N43 (S_u28.2.1 y))
          refine pc_wA ?_; intro p_h29 q_h29 h29 E_h29
          obtain ⟨x_h29, y_h29, z_h29⟩ := w_nd E_h29 (by decide)
          have F48 : Fr h h29 n0 := fr_tr F44 (fr_w (n := n0) E_h29 (by decide) (by omega) (by omega) (gi_o E_h29 (by decide))) (by omega)
          have D49 := cc_wo E_h29 (by decide)
          have O50 : ON h29 u19.1 30 (-1) (-1) (u19.2 160 23) (-1) l2 0 := on_wo E_h29 (by decide) O46
          have N51 : h29 160 9 = 0 → TE m h29 0 (RE m l1 + 3 + 2 * m) n0 (h 160 22) l3 := fun y => te_w E_h29 (by omega) (by omega) (by omega) (N47 (by omega))
          have N52 : h29 160 9 = 0 → u28.2 160 23 = h25 160 23 + 1 ∧ u28.1 = h25 160 23 := fun y => P_u28.2.2 (by omega)
          refine pc_wA ?_; intro p_h31 q_h31 h31 E_h31
          obtain ⟨x_h31, y_h31, z_h31⟩ := w_nd E_h31 (by decide)
          have F53 : Fr h h31 n0 := fr_tr F48 (fr_w (n := n0) E_h31 (by decide) (by omega) (by omega) (gi_o E_h31 (by decide))) (by omega)
          have D54 := cc_wo E_h31 (by decide)
          have O55 : ON h31 u19.1 30 l3 (-1) (u19.2 160 23) (-1) l2 0 := on_w0 E_h31 O50
          have N56 : h31 160 9 = 0 → TE m h31 0 (RE m l1 + 3 + 2 * m) n0 (h 160 22) l3 := fun y => te_w E_h31 (by omega) (by omega) (by omega) (N51 (by omega))
          have N57 : h31 160 9 = 0 → u28.2 160 23 = h25 160 23 + 1 ∧ u28.1 = h25 160 23 := fun y => N52 (by omega)
          refine pc_if (fun C58 => ?_) (fun C58 => ?_)
          · skip
            have T59 : h31 160 9 = 0 → TE m h31 0 (RE m l1 + 3 + 2 * m) n0 (h31 160 22) u19.1 := by
              intro y; exact (C58 y).elim
            refine pc_imp (ih l1 l2 u19.1 h31 n0 (by omega) (by omega) (by omega) (by omega) T59) (fun u P => ⟨fr_tr F53 P.1 (by omega), fun y => ⟨(P.2 y).1, ?_⟩⟩)
            have y2 : h31 160 9 = 0 := P.1.1.2.1 y
            have y3 := (P.2 y).2
            exact (C58 y2).elim
          · skip
            refine pc_sv pc_isSign ?_; intro u35 b_u35
            refine pc_if (fun C60 => ?_) (fun C60 => ?_)
            · skip
              have T61 : h31 160 9 = 0 → TE m h31 0 (RE m l1 + 3 + 2 * m) n0 (h31 160 22) u19.1 := by
                intro y
                have y : h31 160 9 = 0 := y
                have A62 := N57 y
                show TE m h31 0 (RE m l1 + 3 + 2 * m) n0 (h31 160 22) u19.1
                exact on_field O55 (by omega) ⟨by omega, by omega, by omega, by omega⟩ (te_wd (N56 y) (by omega) (by omega) (by omega) (by omega))
              refine pc_imp (ih l1 l2 u19.1 h31 n0 (by omega) (by omega) (by omega) (by omega) T61) (fun u P => ⟨fr_tr F53 P.1 (by omega), fun y => ⟨(P.2 y).1, ?_⟩⟩)
              have y2 : h31 160 9 = 0 := P.1.1.2.1 y
              have y3 := (P.2 y).2
              have A63 := N57 y2
              omega
            · skip
              refine pc_wA ?_; intro p_h37 q_h37 h37 E_h37
              obtain ⟨x_h37, y_h37, z_h37⟩ := w_nd E_h37 (by decide)
              have F64 : Fr h h37 n0 := fr_tr F53 (fr_w (n := n0) E_h37 (by decide) (by omega) (by omega) (gi_7 E_h37 (by rw [O55.1]; omega))) (by omega)
              have D65 := cc_w7 E_h37 (by rw [O55.1]; decide)
              have O66 : ON h37 u19.1 31 l3 (-1) (u19.2 160 23) (-1) l2 0 := on_wk E_h37 O55
              have N67 : h37 160 9 = 0 → TE m h37 0 (RE m l1 + 3 + 2 * m) n0 (h 160 22) l3 := fun y => te_w E_h37 (by omega) (by omega) (by omega) (N56 (by omega))
              have N68 : h37 160 9 = 0 → u28.2 160 23 = h25 160 23 + 1 ∧ u28.1 = h25 160 23 := fun y => N57 (by omega)
              refine pc_sv (G.2.2.2.1 l1 h37 (by omega) (by omega) (by omega)) ?_; intro u40 P_u40
              have F_u40 := P_u40.1; have z_u40 := F_u40.1.1; have c_u40 := F_u40.1.2.2
              have F69 : Fr h u40.2 n0 := fr_tr F64 F_u40 (by omega)
              have O70 : ON u40.2 u19.1 31 l3 (-1) (u19.2 160 23) (-1) l2 0 := on_F F_u40 (by omega) (by omega) O66
              have N71 : u40.2 160 9 = 0 → TE m u40.2 0 (RE m l1 + 3 + 2 * m) n0 (h 160 22) l3 := fun y => te_F F_u40 (by omega) (by omega) (N67 (F_u40.1.2.1 y))
              have N72 : u40.2 160 9 = 0 → u28.2 160 23 = h25 160 23 + 1 ∧ u28.1 = h25 160 23 := fun y => N68 (F_u40.1.2.1 y)
              refine pc_wA ?_; intro p_h41 q_h41 h41 E_h41
              obtain ⟨x_h41, y_h41, z_h41⟩ := w_nd E_h41 (by decide)
              have F73 : Fr h h41 n0 := fr_tr F69 (fr_w (n := n0) E_h41 (by decide) (by omega) (by omega) (gi_o E_h41 (by decide))) (by omega)
              have D74 := cc_wo E_h41 (by decide)
              have O75 : ON h41 u19.1 31 l3 u40.1 (u19.2 160 23) (-1) l2 0 := on_w1 E_h41 O70
              have N76 : h41 160 9 = 0 → TE m h41 0 (RE m l1 + 3 + 2 * m) n0 (h 160 22) l3 := fun y => te_w E_h41 (by omega) (by omega) (by omega) (N71 (by omega))
              have N77 : h41 160 9 = 0 → u28.2 160 23 = h25 160 23 + 1 ∧ u28.1 = h25 160 23 := fun y => N72 (by omega)
              have N78 : h41 160 9 = 0 → CC u40.2 + h37 160 23 ≤ CC h37 + u40.2 160 23 := fun y => (fun y => (P_u40.2 y).2) (by omega)
              have N79 : h41 160 9 = 0 → TE m h41 1 (RE m l1) (h37 160 22) (u40.2 160 22) u40.1 := fun y => te_w E_h41 (by omega) (by omega) (by omega) ((fun y => (P_u40.2 y).1) (by omega))
              have T80 : h41 160 9 = 0 → TE m h41 0 (RE m l1 + 3 + 2 * m) n0 (h41 160 22) u19.1 := by
                intro y
                have y : h41 160 9 = 0 := y
                have A81 := N77 y
                have A82 := N78 y
                show TE m h41 0 (RE m l1 + 3 + 2 * m) n0 (h41 160 22) u19.1
                exact on_method O75 (by omega) ⟨by omega, by omega, by omega, by omega⟩ (te_wd (N76 y) (by omega) (by omega) (by omega) (by omega)) (te_wd (N79 y) (by omega) (by omega) (by omega) (by omega))
              refine pc_imp (ih l1 l2 u19.1 h41 n0 (by omega) (by omega) (by omega) (by omega) T80) (fun u P => ⟨fr_tr F73 P.1 (by omega), fun y => ⟨(P.2 y).1, ?_⟩⟩)
              have y2 : h41 160 9 = 0 := P.1.1.2.1 y
              have y3 := (P.2 y).2
              have A83 := N77 y2
              have A84 := N78 y2
              omega
      · skip
        refine pc_sv pc_isSign ?_; intro u51 b_u51
        refine pc_if (fun C85 => ?_) (fun C85 => ?_)
        · skip
          refine pc_ret ⟨F0, fun y => ?_⟩
          have y : h 160 9 = 0 := y
          show TE m h 0 (RE m l1 + 3 + 2 * m) n0 (h 160 22) l3 ∧ CC h + h 160 23 ≤ CC h + h 160 23
          refine ⟨?_, by omega⟩
          exact te_wd (T0 y) (by omega) (by omega) (by omega) (by omega)
        · skip
          unfold qj_X13_postfix_44
          refine pc_sv pc_isSign ?_; intro u5 b_u5
          refine pc_if (fun C86 => ?_) (fun C86 => ?_)
          · skip
            refine pc_sv pc_ad ?_; intro u8 A_u8
            obtain ⟨⟨a0_u8, a1_u8, a2_u8, a3_u8, a4_u8, a5_u8, a6_u8⟩, F_u8, O_u8, C_u8⟩ := A_u8
            have w_u8 : wt 32 = 1 := by decide
            have F87 : Fr h u8.2 n0 := fr_tr F0 F_u8 (by omega)
            have N88 : u8.2 160 9 = 0 → TE m u8.2 0 (RE m l1 + 3 + 2 * m) n0 (h 160 22) l3 := fun y => te_F F_u8 (by omega) (by omega) (T0 (F_u8.1.2.1 y))
            refine pc_add (by omega) ?_; intro v10 e_v10
            refine pc_xl ?_; intro h11 E_h11
            obtain ⟨S_h11, c_h11, f_h11⟩ := sm_cur E_h11 (by omega)
            have z_h11 := S_h11.1
            have F89 : Fr h h11 n0 := fr_tr F87 (sm_fr (n := n0) S_h11) (by omega)
            have D90 := cc_sm S_h11
            have O91 : ON h11 u8.1 32 (-1) (-1) (-1) (-1) l2 0 := on_sm S_h11 O_u8
            have N92 : h11 160 9 = 0 → TE m h11 0 (RE m l1 + 3 + 2 * m) n0 (h 160 22) l3 := fun y => te_sm S_h11 (by omega) (N88 (S_h11.2.1 y))
            refine pc_wA ?_; intro p_h13 q_h13 h13 E_h13
            obtain ⟨x_h13, y_h13, z_h13⟩ := w_nd E_h13 (by decide)
            have F93 : Fr h h13 n0 := fr_tr F89 (fr_w (n := n0) E_h13 (by decide) (by omega) (by omega) (gi_o E_h13 (by decide))) (by omega)
            have D94 := cc_wo E_h13 (by decide)
            have O95 : ON h13 u8.1 32 l3 (-1) (-1) (-1) l2 0 := on_w0 E_h13 O91
            have N96 : h13 160 9 = 0 → TE m h13 0 (RE m l1 + 3 + 2 * m) n0 (h 160 22) l3 := fun y => te_w E_h13 (by omega) (by omega) (by omega) (N92 (by omega))
            refine pc_sv (G.1 l1 h13 (by omega) (by omega) (by omega)) ?_; intro u16 P_u16
            have F_u16 := P_u16.1; have z_u16 := F_u16.1.1; have c_u16 := F_u16.1.2.2
            have F97 : Fr h u16.2 n0 := fr_tr F93 F_u16 (by omega)
            have O98 : ON u16.2 u8.1 32 l3 (-1) (-1) (-1) l2 0 := on_F F_u16 (by omega) (by omega) O95
            have N99 : u16.2 160 9 = 0 → TE m u16.2 0 (RE m l1 + 3 + 2 * m) n0 (h 160 22) l3 := fun y => te_F F_u16 (by omega) (by omega) (N96 (F_u16.1.2.1 y))
            refine pc_wA ?_; intro p_h17 q_h17 h17 E_h17
            obtain ⟨x_h17, y_h17, z_h17⟩ := w_nd E_h17 (by decide)
            have F100 : Fr h h17 n0 := fr_tr F97 (fr_w (n := n0) E_h17 (by decide) (by omega) (by omega) (gi_o E_h17 (by decide))) (by omega)
            have D101 := cc_wo E_h17 (by decide)
            have O102 : ON h17 u8.1 32 l3 u16.1 (-1) (-1) l2 0 := on_w1 E_h17 O98
            have N103 : h17 160 9 = 0 → TE m h17 0 (RE m l1 + 3 + 2 * m) n0 (h 160 22) l3 := fun y => te_w E_h17 (by omega) (by omega) (by omega) (N99 (by omega))
            have N104 : h17 160 9 = 0 → CC u16.2 + h13 160 23 ≤ CC h13 + u16.2 160 23 := fun y => (fun y => (P_u16.2 y).2) (by omega)
            have N105 : h17 160 9 = 0 → TE m h17 0 (RE m l1) (h13 160 22) (u16.2 160 22) u16.1 := fun y => te_w E_h17 (by omega) (by omega) (by omega) ((fun y => (P_u16.2 y).1) (by omega))
            unfold qj_X13_postfix_194
            refine pc_sv pc_sign_ ?_; intro u2 P_u2
            have S_u2 := P_u2.1
            have z_u2 := S_u2.1; have c_u2 := S_u2.2.2.1
            have F106 : Fr h u2 n0 := fr_tr F100 (sm_fr (n := n0) S_u2) (by omega)
            have D107 := cc_sm S_u2
            have O108 : ON u2 u8.1 32 l3 u16.1 (-1) (-1) l2 0 := on_sm S_u2 O102
            have N109 : u2 160 9 = 0 → TE m u2 0 (RE m l1 + 3 + 2 * m) n0 (h 160 22) l3 := fun y => te_sm S_u2 (by omega) (N103 (S_u2.2.1 y))
            have N110 : u2 160 9 = 0 → CC u16.2 + h13 160 23 ≤ CC h13 + u16.2 160 23 := fun y => N104 (S_u2.2.1 y)
            have N111 : u2 160 9 = 0 → TE m u2 0 (RE m l1) (h13 160 22) (u16.2 160 22) u16.1 := fun y => te_sm S_u2 (by omega) (N105 (S_u2.2.1 y))
            have T112 : u2 160 9 = 0 → TE m u2 0 (RE m l1 + 3 + 2 * m) n0 (u2 160 22) u8.1 := by
              intro y
              have y : u2 160 9 = 0 := y
              have A113 := N110 y
              have A114 := P_u2.2 y
              show TE m u2 0 (RE m l1 + 3 + 2 * m) n0 (u2 160 22) u8.1
              exact on_two O108 (by omega) ⟨by omega, by omega, by omega, by omega⟩ (te_wd (N109 y) (by omega) (by omega) (by omega) (by omega)) (te_wd (N111 y) (by omega) (by omega) (by omega) (by omega))
            refine pc_imp (ih l1 l2 u8.1 u2 n0 (by omega) (by omega) (by omega) (by omega) T112) (fun u P => ⟨fr_tr F106 P.1 (by omega), fun y => ⟨(P.2 y).1, ?_⟩⟩)
            have y2 : u2 160 9 = 0 := P.1.1.2.1 y
            have y3 := (P.2 y).2
            have A115 := N110 y2
            have A116 := P_u2.2 y2
            omega
          · skip
            refine pc_sv pc_ad ?_; intro u19 A_u19
            obtain ⟨⟨a0_u19, a1_u19, a2_u19, a3_u19, a4_u19, a5_u19, a6_u19⟩, F_u19, O_u19, C_u19⟩ := A_u19
            have w_u19 : wt 30 = 2 := by decide
            have F117 : Fr h u19.2 n0 := fr_tr F0 F_u19 (by omega)
            have N118 : u19.2 160 9 = 0 → TE m u19.2 0 (RE m l1 + 3 + 2 * m) n0 (h 160 22) l3 := fun y => te_F F_u19 (by omega) (by omega) (T0 (F_u19.1.2.1 y))
            refine pc_wA ?_; intro p_h22 q_h22 h22 E_h22
            obtain ⟨x_h22, y_h22, z_h22⟩ := w_nd E_h22 (by decide)
            have F119 : Fr h h22 n0 := fr_tr F117 (fr_w (n := n0) E_h22 (by decide) (by omega) (by omega) (gi_o E_h22 (by decide))) (by omega)
            have D120 := cc_wo E_h22 (by decide)
            have O121 : ON h22 u19.1 30 (-1) (-1) (u19.2 160 23) (-1) l2 0 := on_w2 E_h22 O_u19
            have N122 : h22 160 9 = 0 → TE m h22 0 (RE m l1 + 3 + 2 * m) n0 (h 160 22) l3 := fun y => te_w E_h22 (by omega) (by omega) (by omega) (N118 (by omega))
            refine pc_add (by omega) ?_; intro v24 e_v24
            refine pc_xl ?_; intro h25 E_h25
            obtain ⟨S_h25, c_h25, f_h25⟩ := sm_cur E_h25 (by omega)
            have z_h25 := S_h25.1
            have F123 : Fr h h25 n0 := fr_tr F119 (sm_fr (n := n0) S_h25) (by omega)
            have D124 := cc_sm S_h25
            have O125 : ON h25 u19.1 30 (-1) (-1) (u19.2 160 23) (-1) l2 0 := on_sm S_h25 O121
            have N126 : h25 160 9 = 0 → TE m h25 0 (RE m l1 + 3 + 2 * m) n0 (h 160 22) l3 := fun y => te_sm S_h25 (by omega) (N122 (S_h25.2.1 y))
            refine pc_sv pc_name ?_; intro u28 P_u28
            have S_u28 := P_u28.1
            have z_u28 := S_u28.1; have c_u28 := S_u28.2.2.1
            have n_u28 := P_u28.2.1
            have F127 : Fr h u28.2 n0 := fr_tr F123 (sm_fr (n := n0) S_u28) (by omega)
            have D128 := cc_sm S_u28
            have O129 : ON u28.2 u19.1 30 (-1) (-1) (u19.2 160 23) (-1) l2 0 := on_sm S_u28 O125
            have N130 : u28.2 160 9 = 0 → TE m u28.2 0 (RE m l1 + 3 + 2 * m) n0 (h 160 22) l3 := fun y => te_sm S_u28 (by omega) (N126 (S_u28.2.1 y))
            refine pc_wA ?_; intro p_h29 q_h29 h29 E_h29
            obtain ⟨x_h29, y_h29, z_h29⟩ := w_nd E_h29 (by decide)
            have F131 : Fr h h29 n0 := fr_tr F127 (fr_w (n := n0) E_h29 (by decide) (by omega) (by omega) (gi_o E_h29 (by decide))) (by omega)
            have D132 := cc_wo E_h29 (by decide)
            have O133 : ON h29 u19.1 30 (-1) (-1) (u19.2 160 23) (-1) l2 0 := on_wo E_h29 (by decide) O129
            have N134 : h29 160 9 = 0 → TE m h29 0 (RE m l1 + 3 + 2 * m) n0 (h 160 22) l3 := fun y => te_w E_h29 (by omega) (by omega) (by omega) (N130 (by omega))
            have N135 : h29 160 9 = 0 → u28.2 160 23 = h25 160 23 + 1 ∧ u28.1 = h25 160 23 := fun y => P_u28.2.2 (by omega)
            refine pc_wA ?_; intro p_h31 q_h31 h31 E_h31
            obtain ⟨x_h31, y_h31, z_h31⟩ := w_nd E_h31 (by decide)
            have F136 : Fr h h31 n0 := fr_tr F131 (fr_w (n := n0) E_h31 (by decide) (by omega) (by omega) (gi_o E_h31 (by decide))) (by omega)
            have D137 := cc_wo E_h31 (by decide)
            have O138 : ON h31 u19.1 30 l3 (-1) (u19.2 160 23) (-1) l2 0 := on_w0 E_h31 O133
            have N139 : h31 160 9 = 0 → TE m h31 0 (RE m l1 + 3 + 2 * m) n0 (h 160 22) l3 := fun y => te_w E_h31 (by omega) (by omega) (by omega) (N134 (by omega))
            have N140 : h31 160 9 = 0 → u28.2 160 23 = h25 160 23 + 1 ∧ u28.1 = h25 160 23 := fun y => N135 (by omega)
            refine pc_if (fun C141 => ?_) (fun C141 => ?_)
            · skip
              have T142 : h31 160 9 = 0 → TE m h31 0 (RE m l1 + 3 + 2 * m) n0 (h31 160 22) u19.1 := by
                intro y; exact (C141 y).elim
              refine pc_imp (ih l1 l2 u19.1 h31 n0 (by omega) (by omega) (by omega) (by omega) T142) (fun u P => ⟨fr_tr F136 P.1 (by omega), fun y => ⟨(P.2 y).1, ?_⟩⟩)
              have y2 : h31 160 9 = 0 := P.1.1.2.1 y
              have y3 := (P.2 y).2
              exact (C141 y2).elim
            · skip
              refine pc_sv pc_isSign ?_; intro u35 b_u35
              refine pc_if (fun C143 => ?_) (fun C143 => ?_)
              · skip
                have T144 : h31 160 9 = 0 → TE m h31 0 (RE m l1 + 3 + 2 * m) n0 (h31 160 22) u19.1 := by
                  intro y
                  have y : h31 160 9 = 0 := y
                  have A145 := N140 y
                  show TE m h31 0 (RE m l1 + 3 + 2 * m) n0 (h31 160 22) u19.1
                  exact on_field O138 (by omega) ⟨by omega, by omega, by omega, by omega⟩ (te_wd (N139 y) (by omega) (by omega) (by omega) (by omega))
                refine pc_imp (ih l1 l2 u19.1 h31 n0 (by omega) (by omega) (by omega) (by omega) T144) (fun u P => ⟨fr_tr F136 P.1 (by omega), fun y => ⟨(P.2 y).1, ?_⟩⟩)
                have y2 : h31 160 9 = 0 := P.1.1.2.1 y
                have y3 := (P.2 y).2
                have A146 := N140 y2
                omega
              · skip
                refine pc_wA ?_; intro p_h37 q_h37 h37 E_h37
                obtain ⟨x_h37, y_h37, z_h37⟩ := w_nd E_h37 (by decide)
                have F147 : Fr h h37 n0 := fr_tr F136 (fr_w (n := n0) E_h37 (by decide) (by omega) (by omega) (gi_7 E_h37 (by rw [O138.1]; omega))) (by omega)
                have D148 := cc_w7 E_h37 (by rw [O138.1]; decide)
                have O149 : ON h37 u19.1 31 l3 (-1) (u19.2 160 23) (-1) l2 0 := on_wk E_h37 O138
                have N150 : h37 160 9 = 0 → TE m h37 0 (RE m l1 + 3 + 2 * m) n0 (h 160 22) l3 := fun y => te_w E_h37 (by omega) (by omega) (by omega) (N139 (by omega))
                have N151 : h37 160 9 = 0 → u28.2 160 23 = h25 160 23 + 1 ∧ u28.1 = h25 160 23 := fun y => N140 (by omega)
                refine pc_sv (G.2.2.2.1 l1 h37 (by omega) (by omega) (by omega)) ?_; intro u40 P_u40
                have F_u40 := P_u40.1; have z_u40 := F_u40.1.1; have c_u40 := F_u40.1.2.2
                have F152 : Fr h u40.2 n0 := fr_tr F147 F_u40 (by omega)
                have O153 : ON u40.2 u19.1 31 l3 (-1) (u19.2 160 23) (-1) l2 0 := on_F F_u40 (by omega) (by omega) O149
                have N154 : u40.2 160 9 = 0 → TE m u40.2 0 (RE m l1 + 3 + 2 * m) n0 (h 160 22) l3 := fun y => te_F F_u40 (by omega) (by omega) (N150 (F_u40.1.2.1 y))
                have N155 : u40.2 160 9 = 0 → u28.2 160 23 = h25 160 23 + 1 ∧ u28.1 = h25 160 23 := fun y => N151 (F_u40.1.2.1 y)
                refine pc_wA ?_; intro p_h41 q_h41 h41 E_h41
                obtain ⟨x_h41, y_h41, z_h41⟩ := w_nd E_h41 (by decide)
                have F156 : Fr h h41 n0 := fr_tr F152 (fr_w (n := n0) E_h41 (by decide) (by omega) (by omega) (gi_o E_h41 (by decide))) (by omega)
                have D157 := cc_wo E_h41 (by decide)
                have O158 : ON h41 u19.1 31 l3 u40.1 (u19.2 160 23) (-1) l2 0 := on_w1 E_h41 O153
                have N159 : h41 160 9 = 0 → TE m h41 0 (RE m l1 + 3 + 2 * m) n0 (h 160 22) l3 := fun y => te_w E_h41 (by omega) (by omega) (by omega) (N154 (by omega))
                have N160 : h41 160 9 = 0 → u28.2 160 23 = h25 160 23 + 1 ∧ u28.1 = h25 160 23 := fun y => N155 (by omega)
                have N161 : h41 160 9 = 0 → CC u40.2 + h37 160 23 ≤ CC h37 + u40.2 160 23 := fun y => (fun y => (P_u40.2 y).2) (by omega)
                have N162 : h41 160 9 = 0 → TE m h41 1 (RE m l1) (h37 160 22) (u40.2 160 22) u40.1 := fun y => te_w E_h41 (by omega) (by omega) (by omega) ((fun y => (P_u40.2 y).1) (by omega))
                have T163 : h41 160 9 = 0 → TE m h41 0 (RE m l1 + 3 + 2 * m) n0 (h41 160 22) u19.1 := by
                  intro y
                  have y : h41 160 9 = 0 := y
                  have A164 := N160 y
                  have A165 := N161 y
                  show TE m h41 0 (RE m l1 + 3 + 2 * m) n0 (h41 160 22) u19.1
                  exact on_method O158 (by omega) ⟨by omega, by omega, by omega, by omega⟩ (te_wd (N159 y) (by omega) (by omega) (by omega) (by omega)) (te_wd (N162 y) (by omega) (by omega) (by omega) (by omega))
                refine pc_imp (ih l1 l2 u19.1 h41 n0 (by omega) (by omega) (by omega) (by omega) T163) (fun u P => ⟨fr_tr F156 P.1 (by omega), fun y => ⟨(P.2 y).1, ?_⟩⟩)
                have y2 : h41 160 9 = 0 := P.1.1.2.1 y
                have y3 := (P.2 y).2
                have A166 := N160 y2
                have A167 := N161 y2
                omega
set_option maxHeartbeats 8000000 in
theorem go_postfix {nn : Nat} {m : Int} (hm : m = 0 ∨ m = 1) {rc : tq_X13_expression} (G : GT m rc) {a1 : Int} {h : ms_M} (ha : 0 ≤ a1 ∧ a1 ≤ 40) (hh : 0 ≤ h 160 22) : Pc (qo_X13_postfix nn rc a1 h) (CE m (RE m a1 + 3 + 2 * m) h) := by
  unfold qo_X13_postfix CE
  generalize hn0 : h 160 22 = n0
  have F0 : Fr h h n0 := fr_rf
  have r0 := re_s (m := m) (d := a1) hm
  have r1 := re_1 (m := m) (d := a1) (by omega)
  have hm2 : 0 ≤ m ∧ m ≤ 1 := by omega
  have hmn : Nonempty (m = 0 ∨ m = 1) := ⟨hm⟩
  clear hm
  refine pc_sv (G.2.2.2.2.2.1 a1 h (by omega) (by omega) (by omega)) ?_; intro u57 P_u57
  have F_u57 := P_u57.1; have z_u57 := F_u57.1.1; have c_u57 := F_u57.1.2.2
  have F1 : Fr h u57.2 n0 := fr_tr F0 F_u57 (by omega)
  have T2 : u57.2 160 9 = 0 → TE m u57.2 0 (RE m a1 + 3 + 2 * m) n0 (u57.2 160 22) u57.1 := by
    intro y
    have y : u57.2 160 9 = 0 := y
    have A3 := (fun y => (P_u57.2 y).2) y
    show TE m u57.2 0 (RE m a1 + 3 + 2 * m) n0 (u57.2 160 22) u57.1
    exact te_wd ((fun y => (P_u57.2 y).1) y) (by omega) (by omega) (by omega) (by omega)
  refine pc_imp (gl_postfix_11 (hmn.elim id) G nn a1 (h 160 23) u57.1 u57.2 n0 (by omega) (by omega) (by omega) (by omega) T2) (fun u P => ⟨fr_tr F1 P.1 (by omega), fun y => ⟨(P.2 y).1, ?_⟩⟩)
  have y2 : u57.2 160 9 = 0 := P.1.1.2.1 y
  have y3 := (P.2 y).2
  have A4 := (fun y => (P_u57.2 y).2) y2
  omega
set_option maxHeartbeats 8000000 in
theorem go_primary {nn : Nat} {m : Int} (hm : m = 0 ∨ m = 1) {rc : tq_X13_expression} (G : GT m rc) {a1 : Int} {h : ms_M} (ha : 0 ≤ a1 ∧ a1 ≤ 40) (hh : 0 ≤ h 160 22) : Pc (qo_X13_primary nn rc a1 h) (CE m (RE m a1 + 3 + 2 * m) h) := by
  unfold qo_X13_primary CE
  generalize hn0 : h 160 22 = n0
  have F0 : Fr h h n0 := fr_rf
  have r0 := re_s (m := m) (d := a1) hm
  have r1 := re_1 (m := m) (d := a1) (by omega)
  have hm2 : 0 ≤ m ∧ m ≤ 1 := by omega
  have hmn : Nonempty (m = 0 ∨ m = 1) := ⟨hm⟩
  clear hm
  refine pc_rA ?_; intro p_v20 q_v20 v20 e_v20
  refine pc_if (fun C1 => ?_) (fun C1 => ?_)
  · skip
    refine pc_rA ?_; intro p_v23 q_v23 v23 e_v23
    refine pc_if (fun C2 => ?_) (fun C2 => ?_)
    · skip
      refine pc_sv pc_isSign ?_; intro u26 b_u26
      refine pc_if (fun C3 => ?_) (fun C3 => ?_)
      · skip
        refine pc_rA ?_; intro p_v29 q_v29 v29 e_v29
        refine pc_if (fun C4 => ?_) (fun C4 => ?_)
        · skip
          unfold qj_X13_primary_283
          refine pc_sv pc_misplaced ?_; intro u2 P_u2
          have S_u2 := P_u2.1
          have z_u2 := S_u2.1; have c_u2 := S_u2.2.2.1
          have F5 : Fr h u2 n0 := fr_tr F0 (sm_fr (n := n0) S_u2) (by omega)
          have D6 := cc_sm S_u2
          exact pc_ret ⟨F5, fun y => (P_u2.2 y).elim⟩
        · skip
          refine pc_rA ?_; intro p_v32 q_v32 v32 e_v32
          refine pc_if (fun C7 => ?_) (fun C7 => ?_)
          · skip
            unfold qj_X13_primary_215
            refine pc_add (by omega) ?_; intro v6 e_v6
            refine pc_xl ?_; intro h7 E_h7
            obtain ⟨S_h7, c_h7, f_h7⟩ := sm_cur E_h7 (by omega)
            have z_h7 := S_h7.1
            have F8 : Fr h h7 n0 := fr_tr F0 (sm_fr (n := n0) S_h7) (by omega)
            have D9 := cc_sm S_h7
            refine pc_if (fun C10 => ?_) (fun C10 => ?_)
            · skip
              refine pc_if (fun C11 => ?_) (fun C11 => ?_)
              · skip
                refine pc_if (fun C12 => ?_) (fun C12 => ?_)
                · skip
                  unfold qj_X13_primary_264
                  refine pc_sv pc_ad ?_; intro u4 A_u4
                  obtain ⟨⟨a0_u4, a1_u4, a2_u4, a3_u4, a4_u4, a5_u4, a6_u4⟩, F_u4, O_u4, C_u4⟩ := A_u4
                  have w_u4 : wt 24 = 1 := by decide
                  have F13 : Fr h u4.2 n0 := fr_tr F8 F_u4 (by omega)
                  refine pc_ret ⟨F13, fun y => ?_⟩
                  have y : u4.2 160 9 = 0 := y
                  show TE m u4.2 0 (RE m a1 + 3 + 2 * m) n0 (u4.2 160 22) u4.1 ∧ CC u4.2 + h 160 23 ≤ CC h + u4.2 160 23
                  refine ⟨?_, by omega⟩
                  exact on_leaf O_u4 (by omega) ⟨by omega, by omega, by omega, by omega⟩
                · skip
                  unfold qj_X13_primary_264
                  refine pc_sv pc_ad ?_; intro u4 A_u4
                  obtain ⟨⟨a0_u4, a1_u4, a2_u4, a3_u4, a4_u4, a5_u4, a6_u4⟩, F_u4, O_u4, C_u4⟩ := A_u4
                  have w_u4 : wt 23 = 1 := by decide
                  have F14 : Fr h u4.2 n0 := fr_tr F8 F_u4 (by omega)
                  refine pc_ret ⟨F14, fun y => ?_⟩
                  have y : u4.2 160 9 = 0 := y
                  show TE m u4.2 0 (RE m a1 + 3 + 2 * m) n0 (u4.2 160 22) u4.1 ∧ CC u4.2 + h 160 23 ≤ CC h + u4.2 160 23
                  refine ⟨?_, by omega⟩
                  exact on_leaf O_u4 (by omega) ⟨by omega, by omega, by omega, by omega⟩
              · skip
                unfold qj_X13_primary_264
                refine pc_sv pc_ad ?_; intro u4 A_u4
                obtain ⟨⟨a0_u4, a1_u4, a2_u4, a3_u4, a4_u4, a5_u4, a6_u4⟩, F_u4, O_u4, C_u4⟩ := A_u4
                have w_u4 : wt 22 = 1 := by decide
                have F15 : Fr h u4.2 n0 := fr_tr F8 F_u4 (by omega)
                refine pc_ret ⟨F15, fun y => ?_⟩
                have y : u4.2 160 9 = 0 := y
                show TE m u4.2 0 (RE m a1 + 3 + 2 * m) n0 (u4.2 160 22) u4.1 ∧ CC u4.2 + h 160 23 ≤ CC h + u4.2 160 23
                refine ⟨?_, by omega⟩
                exact on_leaf O_u4 (by omega) ⟨by omega, by omega, by omega, by omega⟩
            · skip
              unfold qj_X13_primary_264
              refine pc_sv pc_ad ?_; intro u4 A_u4
              obtain ⟨⟨a0_u4, a1_u4, a2_u4, a3_u4, a4_u4, a5_u4, a6_u4⟩, F_u4, O_u4, C_u4⟩ := A_u4
              have w_u4 : wt 21 = 1 := by decide
              have F16 : Fr h u4.2 n0 := fr_tr F8 F_u4 (by omega)
              refine pc_ret ⟨F16, fun y => ?_⟩
              have y : u4.2 160 9 = 0 := y
              show TE m u4.2 0 (RE m a1 + 3 + 2 * m) n0 (u4.2 160 22) u4.1 ∧ CC u4.2 + h 160 23 ≤ CC h + u4.2 160 23
              refine ⟨?_, by omega⟩
              exact on_leaf O_u4 (by omega) ⟨by omega, by omega, by omega, by omega⟩
          · skip
            refine pc_if (fun C17 => ?_) (fun C17 => ?_)
            · skip
              unfold qj_X13_primary_215
              refine pc_add (by omega) ?_; intro v6 e_v6
              refine pc_xl ?_; intro h7 E_h7
              obtain ⟨S_h7, c_h7, f_h7⟩ := sm_cur E_h7 (by omega)
              have z_h7 := S_h7.1
              have F18 : Fr h h7 n0 := fr_tr F0 (sm_fr (n := n0) S_h7) (by omega)
              have D19 := cc_sm S_h7
              refine pc_if (fun C20 => ?_) (fun C20 => ?_)
              · skip
                refine pc_if (fun C21 => ?_) (fun C21 => ?_)
                · skip
                  refine pc_if (fun C22 => ?_) (fun C22 => ?_)
                  · skip
                    unfold qj_X13_primary_264
                    refine pc_sv pc_ad ?_; intro u4 A_u4
                    obtain ⟨⟨a0_u4, a1_u4, a2_u4, a3_u4, a4_u4, a5_u4, a6_u4⟩, F_u4, O_u4, C_u4⟩ := A_u4
                    have w_u4 : wt 24 = 1 := by decide
                    have F23 : Fr h u4.2 n0 := fr_tr F18 F_u4 (by omega)
                    refine pc_ret ⟨F23, fun y => ?_⟩
                    have y : u4.2 160 9 = 0 := y
                    show TE m u4.2 0 (RE m a1 + 3 + 2 * m) n0 (u4.2 160 22) u4.1 ∧ CC u4.2 + h 160 23 ≤ CC h + u4.2 160 23
                    refine ⟨?_, by omega⟩
                    exact on_leaf O_u4 (by omega) ⟨by omega, by omega, by omega, by omega⟩
                  · skip
                    unfold qj_X13_primary_264
                    refine pc_sv pc_ad ?_; intro u4 A_u4
                    obtain ⟨⟨a0_u4, a1_u4, a2_u4, a3_u4, a4_u4, a5_u4, a6_u4⟩, F_u4, O_u4, C_u4⟩ := A_u4
                    have w_u4 : wt 23 = 1 := by decide
                    have F24 : Fr h u4.2 n0 := fr_tr F18 F_u4 (by omega)
                    refine pc_ret ⟨F24, fun y => ?_⟩
                    have y : u4.2 160 9 = 0 := y
                    show TE m u4.2 0 (RE m a1 + 3 + 2 * m) n0 (u4.2 160 22) u4.1 ∧ CC u4.2 + h 160 23 ≤ CC h + u4.2 160 23
                    refine ⟨?_, by omega⟩
                    exact on_leaf O_u4 (by omega) ⟨by omega, by omega, by omega, by omega⟩
                · skip
                  unfold qj_X13_primary_264
                  refine pc_sv pc_ad ?_; intro u4 A_u4
                  obtain ⟨⟨a0_u4, a1_u4, a2_u4, a3_u4, a4_u4, a5_u4, a6_u4⟩, F_u4, O_u4, C_u4⟩ := A_u4
                  have w_u4 : wt 22 = 1 := by decide
                  have F25 : Fr h u4.2 n0 := fr_tr F18 F_u4 (by omega)
                  refine pc_ret ⟨F25, fun y => ?_⟩
                  have y : u4.2 160 9 = 0 := y
                  show TE m u4.2 0 (RE m a1 + 3 + 2 * m) n0 (u4.2 160 22) u4.1 ∧ CC u4.2 + h 160 23 ≤ CC h + u4.2 160 23
                  refine ⟨?_, by omega⟩
                  exact on_leaf O_u4 (by omega) ⟨by omega, by omega, by omega, by omega⟩
              · skip
                unfold qj_X13_primary_264
                refine pc_sv pc_ad ?_; intro u4 A_u4
                obtain ⟨⟨a0_u4, a1_u4, a2_u4, a3_u4, a4_u4, a5_u4, a6_u4⟩, F_u4, O_u4, C_u4⟩ := A_u4
                have w_u4 : wt 21 = 1 := by decide
                have F26 : Fr h u4.2 n0 := fr_tr F18 F_u4 (by omega)
                refine pc_ret ⟨F26, fun y => ?_⟩
                have y : u4.2 160 9 = 0 := y
                show TE m u4.2 0 (RE m a1 + 3 + 2 * m) n0 (u4.2 160 22) u4.1 ∧ CC u4.2 + h 160 23 ≤ CC h + u4.2 160 23
                refine ⟨?_, by omega⟩
                exact on_leaf O_u4 (by omega) ⟨by omega, by omega, by omega, by omega⟩
            · skip
              refine pc_if (fun C27 => ?_) (fun C27 => ?_)
              · skip
                unfold qj_X13_primary_215
                refine pc_add (by omega) ?_; intro v6 e_v6
                refine pc_xl ?_; intro h7 E_h7
                obtain ⟨S_h7, c_h7, f_h7⟩ := sm_cur E_h7 (by omega)
                have z_h7 := S_h7.1
                have F28 : Fr h h7 n0 := fr_tr F0 (sm_fr (n := n0) S_h7) (by omega)
                have D29 := cc_sm S_h7
                refine pc_if (fun C30 => ?_) (fun C30 => ?_)
                · skip
                  refine pc_if (fun C31 => ?_) (fun C31 => ?_)
                  · skip
                    refine pc_if (fun C32 => ?_) (fun C32 => ?_)
                    · skip
                      unfold qj_X13_primary_264
                      refine pc_sv pc_ad ?_; intro u4 A_u4
                      obtain ⟨⟨a0_u4, a1_u4, a2_u4, a3_u4, a4_u4, a5_u4, a6_u4⟩, F_u4, O_u4, C_u4⟩ := A_u4
                      have w_u4 : wt 24 = 1 := by decide
                      have F33 : Fr h u4.2 n0 := fr_tr F28 F_u4 (by omega)
                      refine pc_ret ⟨F33, fun y => ?_⟩
                      have y : u4.2 160 9 = 0 := y
                      show TE m u4.2 0 (RE m a1 + 3 + 2 * m) n0 (u4.2 160 22) u4.1 ∧ CC u4.2 + h 160 23 ≤ CC h + u4.2 160 23
                      refine ⟨?_, by omega⟩
                      exact on_leaf O_u4 (by omega) ⟨by omega, by omega, by omega, by omega⟩
                    · skip
                      unfold qj_X13_primary_264
                      refine pc_sv pc_ad ?_; intro u4 A_u4
                      obtain ⟨⟨a0_u4, a1_u4, a2_u4, a3_u4, a4_u4, a5_u4, a6_u4⟩, F_u4, O_u4, C_u4⟩ := A_u4
                      have w_u4 : wt 23 = 1 := by decide
                      have F34 : Fr h u4.2 n0 := fr_tr F28 F_u4 (by omega)
                      refine pc_ret ⟨F34, fun y => ?_⟩
                      have y : u4.2 160 9 = 0 := y
                      show TE m u4.2 0 (RE m a1 + 3 + 2 * m) n0 (u4.2 160 22) u4.1 ∧ CC u4.2 + h 160 23 ≤ CC h + u4.2 160 23
                      refine ⟨?_, by omega⟩
                      exact on_leaf O_u4 (by omega) ⟨by omega, by omega, by omega, by omega⟩
                  · skip
                    unfold qj_X13_primary_264
                    refine pc_sv pc_ad ?_; intro u4 A_u4
                    obtain ⟨⟨a0_u4, a1_u4, a2_u4, a3_u4, a4_u4, a5_u4, a6_u4⟩, F_u4, O_u4, C_u4⟩ := A_u4
                    have w_u4 : wt 22 = 1 := by decide
                    have F35 : Fr h u4.2 n0 := fr_tr F28 F_u4 (by omega)
                    refine pc_ret ⟨F35, fun y => ?_⟩
                    have y : u4.2 160 9 = 0 := y
                    show TE m u4.2 0 (RE m a1 + 3 + 2 * m) n0 (u4.2 160 22) u4.1 ∧ CC u4.2 + h 160 23 ≤ CC h + u4.2 160 23
                    refine ⟨?_, by omega⟩
                    exact on_leaf O_u4 (by omega) ⟨by omega, by omega, by omega, by omega⟩
                · skip
                  unfold qj_X13_primary_264
                  refine pc_sv pc_ad ?_; intro u4 A_u4
                  obtain ⟨⟨a0_u4, a1_u4, a2_u4, a3_u4, a4_u4, a5_u4, a6_u4⟩, F_u4, O_u4, C_u4⟩ := A_u4
                  have w_u4 : wt 21 = 1 := by decide
                  have F36 : Fr h u4.2 n0 := fr_tr F28 F_u4 (by omega)
                  refine pc_ret ⟨F36, fun y => ?_⟩
                  have y : u4.2 160 9 = 0 := y
                  show TE m u4.2 0 (RE m a1 + 3 + 2 * m) n0 (u4.2 160 22) u4.1 ∧ CC u4.2 + h 160 23 ≤ CC h + u4.2 160 23
                  refine ⟨?_, by omega⟩
                  exact on_leaf O_u4 (by omega) ⟨by omega, by omega, by omega, by omega⟩
              · skip
                refine pc_if (fun C37 => ?_) (fun C37 => ?_)
                · skip
                  refine pc_if (fun C38 => ?_) (fun C38 => ?_)
                  · skip
                    unfold qj_X13_primary_283
                    refine pc_sv pc_misplaced ?_; intro u2 P_u2
                    have S_u2 := P_u2.1
                    have z_u2 := S_u2.1; have c_u2 := S_u2.2.2.1
                    have F39 : Fr h u2 n0 := fr_tr F0 (sm_fr (n := n0) S_u2) (by omega)
                    have D40 := cc_sm S_u2
                    exact pc_ret ⟨F39, fun y => (P_u2.2 y).elim⟩
                  · skip
                    refine pc_sv (G.2.2.2.2.2.2 a1 h (by omega) (by omega) (by omega) (by omega)) ?_; intro u34 P_u34
                    have F_u34 := P_u34.1; have z_u34 := F_u34.1.1; have c_u34 := F_u34.1.2.2
                    have F41 : Fr h u34.2 n0 := fr_tr F0 F_u34 (by omega)
                    refine pc_ret ⟨F41, fun y => ?_⟩
                    have y : u34.2 160 9 = 0 := y
                    have A42 := (fun y => (P_u34.2 y).2) y
                    show TE m u34.2 0 (RE m a1 + 3 + 2 * m) n0 (u34.2 160 22) u34.1 ∧ CC u34.2 + h 160 23 ≤ CC h + u34.2 160 23
                    refine ⟨?_, by omega⟩
                    exact te_wd ((fun y => (P_u34.2 y).1) y) (by omega) (by omega) (by omega) (by omega)
                · skip
                  unfold qj_X13_primary_215
                  refine pc_add (by omega) ?_; intro v6 e_v6
                  refine pc_xl ?_; intro h7 E_h7
                  obtain ⟨S_h7, c_h7, f_h7⟩ := sm_cur E_h7 (by omega)
                  have z_h7 := S_h7.1
                  have F43 : Fr h h7 n0 := fr_tr F0 (sm_fr (n := n0) S_h7) (by omega)
                  have D44 := cc_sm S_h7
                  refine pc_if (fun C45 => ?_) (fun C45 => ?_)
                  · skip
                    refine pc_if (fun C46 => ?_) (fun C46 => ?_)
                    · skip
                      refine pc_if (fun C47 => ?_) (fun C47 => ?_)
                      · skip
                        unfold qj_X13_primary_264
                        refine pc_sv pc_ad ?_; intro u4 A_u4
                        obtain ⟨⟨a0_u4, a1_u4, a2_u4, a3_u4, a4_u4, a5_u4, a6_u4⟩, F_u4, O_u4, C_u4⟩ := A_u4
                        have w_u4 : wt 24 = 1 := by decide
                        have F48 : Fr h u4.2 n0 := fr_tr F43 F_u4 (by omega)
                        refine pc_ret ⟨F48, fun y => ?_⟩
                        have y : u4.2 160 9 = 0 := y
                        show TE m u4.2 0 (RE m a1 + 3 + 2 * m) n0 (u4.2 160 22) u4.1 ∧ CC u4.2 + h 160 23 ≤ CC h + u4.2 160 23
                        refine ⟨?_, by omega⟩
                        exact on_leaf O_u4 (by omega) ⟨by omega, by omega, by omega, by omega⟩
                      · skip
                        unfold qj_X13_primary_264
                        refine pc_sv pc_ad ?_; intro u4 A_u4
                        obtain ⟨⟨a0_u4, a1_u4, a2_u4, a3_u4, a4_u4, a5_u4, a6_u4⟩, F_u4, O_u4, C_u4⟩ := A_u4
                        have w_u4 : wt 23 = 1 := by decide
                        have F49 : Fr h u4.2 n0 := fr_tr F43 F_u4 (by omega)
                        refine pc_ret ⟨F49, fun y => ?_⟩
                        have y : u4.2 160 9 = 0 := y
                        show TE m u4.2 0 (RE m a1 + 3 + 2 * m) n0 (u4.2 160 22) u4.1 ∧ CC u4.2 + h 160 23 ≤ CC h + u4.2 160 23
                        refine ⟨?_, by omega⟩
                        exact on_leaf O_u4 (by omega) ⟨by omega, by omega, by omega, by omega⟩
                    · skip
                      unfold qj_X13_primary_264
                      refine pc_sv pc_ad ?_; intro u4 A_u4
                      obtain ⟨⟨a0_u4, a1_u4, a2_u4, a3_u4, a4_u4, a5_u4, a6_u4⟩, F_u4, O_u4, C_u4⟩ := A_u4
                      have w_u4 : wt 22 = 1 := by decide
                      have F50 : Fr h u4.2 n0 := fr_tr F43 F_u4 (by omega)
                      refine pc_ret ⟨F50, fun y => ?_⟩
                      have y : u4.2 160 9 = 0 := y
                      show TE m u4.2 0 (RE m a1 + 3 + 2 * m) n0 (u4.2 160 22) u4.1 ∧ CC u4.2 + h 160 23 ≤ CC h + u4.2 160 23
                      refine ⟨?_, by omega⟩
                      exact on_leaf O_u4 (by omega) ⟨by omega, by omega, by omega, by omega⟩
                  · skip
                    unfold qj_X13_primary_264
                    refine pc_sv pc_ad ?_; intro u4 A_u4
                    obtain ⟨⟨a0_u4, a1_u4, a2_u4, a3_u4, a4_u4, a5_u4, a6_u4⟩, F_u4, O_u4, C_u4⟩ := A_u4
                    have w_u4 : wt 21 = 1 := by decide
                    have F51 : Fr h u4.2 n0 := fr_tr F43 F_u4 (by omega)
                    refine pc_ret ⟨F51, fun y => ?_⟩
                    have y : u4.2 160 9 = 0 := y
                    show TE m u4.2 0 (RE m a1 + 3 + 2 * m) n0 (u4.2 160 22) u4.1 ∧ CC u4.2 + h 160 23 ≤ CC h + u4.2 160 23
                    refine ⟨?_, by omega⟩
                    exact on_leaf O_u4 (by omega) ⟨by omega, by omega, by omega, by omega⟩
      · skip
        refine pc_add (by omega) ?_; intro v42 e_v42
        refine pc_xl ?_; intro h43 E_h43
        obtain ⟨S_h43, c_h43, f_h43⟩ := sm_cur E_h43 (by omega)
        have z_h43 := S_h43.1
        have F52 : Fr h h43 n0 := fr_tr F0 (sm_fr (n := n0) S_h43) (by omega)
        have D53 := cc_sm S_h43
        refine pc_sv (G.1 a1 h43 (by omega) (by omega) (by omega)) ?_; intro u45 P_u45
        have F_u45 := P_u45.1; have z_u45 := F_u45.1.1; have c_u45 := F_u45.1.2.2
        have F54 : Fr h u45.2 n0 := fr_tr F52 F_u45 (by omega)
        refine pc_sv pc_sign_ ?_; intro u47 P_u47
        have S_u47 := P_u47.1
        have z_u47 := S_u47.1; have c_u47 := S_u47.2.2.1
        have F55 : Fr h u47 n0 := fr_tr F54 (sm_fr (n := n0) S_u47) (by omega)
        have D56 := cc_sm S_u47
        have N57 : u47 160 9 = 0 → CC u45.2 + h43 160 23 ≤ CC h43 + u45.2 160 23 := fun y => (fun y => (P_u45.2 y).2) (S_u47.2.1 y)
        have N58 : u47 160 9 = 0 → TE m u47 0 (RE m a1) (h43 160 22) (u45.2 160 22) u45.1 := fun y => te_sm S_u47 (by omega) ((fun y => (P_u45.2 y).1) (S_u47.2.1 y))
        unfold qj_X13_primary_138
        refine pc_if (fun C59 => ?_) (fun C59 => ?_)
        · skip
          refine pc_wA ?_; intro p_h13 q_h13 h13 E_h13
          obtain ⟨x_h13, y_h13, z_h13⟩ := w_nd E_h13 (by decide)
          have q_h13 := (te_o0 (N58 (by omega))).1
          have F60 : Fr h h13 n0 := fr_tr F55 (fr_w (n := n0) E_h13 (by decide) (by omega) (by omega) (gi_o E_h13 (by decide))) (by omega)
          have D61 := cc_wo E_h13 (by decide)
          have N62 : h13 160 9 = 0 → CC u45.2 + h43 160 23 ≤ CC h43 + u45.2 160 23 := fun y => N57 (by omega)
          have N63 : h13 160 9 = 0 → TE m h13 0 (RE m a1) (h43 160 22) (u45.2 160 22) u45.1 := fun y => te_01 (by decide) (fun c x hc => by rw [E_h13]; exact up_n (by omega)) (by omega) (N58 (by omega))
          have N64 : h13 160 9 = 0 → u47 160 23 = u45.2 160 23 + 1 ∧ u45.2 160 23 < 3002 := fun y => P_u47.2 (by omega)
          refine pc_wZ ?_; intro p_h15 q_h15 h15 E_h15
          obtain ⟨x_h15, y_h15, z_h15⟩ := w_nd E_h15 (by decide)
          have q_h15 := (te_o0 (N63 (by omega))).1
          have F65 : Fr h h15 n0 := fr_tr F60 (fr_w (n := n0) E_h15 (by decide) (by omega) (by omega) (gi_o E_h15 (by decide))) (by omega)
          have D66 := cc_wo E_h15 (by decide)
          have N67 : h15 160 9 = 0 → CC u45.2 + h43 160 23 ≤ CC h43 + u45.2 160 23 := fun y => N62 (by omega)
          have N68 : h15 160 9 = 0 → TE m h15 0 (RE m a1) (h43 160 22) (u45.2 160 22) u45.1 := fun y => te_01 (by decide) (fun c x hc => by rw [E_h15]; exact up_n (by omega)) (by omega) (N63 (by omega))
          have N69 : h15 160 9 = 0 → u47 160 23 = u45.2 160 23 + 1 ∧ u45.2 160 23 < 3002 := fun y => N64 (by omega)
          refine pc_ret ⟨F65, fun y => ?_⟩
          have y : h15 160 9 = 0 := y
          have A70 := N67 y
          have A71 := N69 y
          show TE m h15 0 (RE m a1 + 3 + 2 * m) n0 (h15 160 22) u45.1 ∧ CC h15 + h 160 23 ≤ CC h + h15 160 23
          refine ⟨?_, by omega⟩
          exact te_wd (N68 y) (by omega) (by omega) (by omega) (by omega)
        · skip
          exact pc_ret ⟨F55, fun y => (C59 y).elim⟩
    · skip
      refine pc_add (by omega) ?_; intro v50 e_v50
      refine pc_xl ?_; intro h51 E_h51
      obtain ⟨S_h51, c_h51, f_h51⟩ := sm_cur E_h51 (by omega)
      have z_h51 := S_h51.1
      have F72 : Fr h h51 n0 := fr_tr F0 (sm_fr (n := n0) S_h51) (by omega)
      have D73 := cc_sm S_h51
      refine pc_sv pc_ad ?_; intro u53 A_u53
      obtain ⟨⟨a0_u53, a1_u53, a2_u53, a3_u53, a4_u53, a5_u53, a6_u53⟩, F_u53, O_u53, C_u53⟩ := A_u53
      have w_u53 : wt 25 = 1 := by decide
      have F74 : Fr h u53.2 n0 := fr_tr F72 F_u53 (by omega)
      refine pc_sv pc_isSign ?_; intro u56 b_u56
      refine pc_if (fun C75 => ?_) (fun C75 => ?_)
      · skip
        refine pc_ret ⟨F74, fun y => ?_⟩
        have y : u53.2 160 9 = 0 := y
        show TE m u53.2 0 (RE m a1 + 3 + 2 * m) n0 (u53.2 160 22) u53.1 ∧ CC u53.2 + h 160 23 ≤ CC h + u53.2 160 23
        refine ⟨?_, by omega⟩
        exact on_leaf O_u53 (by omega) ⟨by omega, by omega, by omega, by omega⟩
      · skip
        refine pc_wA ?_; intro p_h58 q_h58 h58 E_h58
        obtain ⟨x_h58, y_h58, z_h58⟩ := w_nd E_h58 (by decide)
        have F76 : Fr h h58 n0 := fr_tr F74 (fr_w (n := n0) E_h58 (by decide) (by omega) (by omega) (gi_7 E_h58 (by rw [O_u53.1]; omega))) (by omega)
        have D77 := cc_w7 E_h58 (by rw [O_u53.1]; decide)
        have O78 : ON h58 u53.1 26 (-1) (-1) (-1) (-1) (h 160 23) 0 := on_wk E_h58 O_u53
        refine pc_sv (G.2.2.2.1 a1 h58 (by omega) (by omega) (by omega)) ?_; intro u61 P_u61
        have F_u61 := P_u61.1; have z_u61 := F_u61.1.1; have c_u61 := F_u61.1.2.2
        have F79 : Fr h u61.2 n0 := fr_tr F76 F_u61 (by omega)
        have O80 : ON u61.2 u53.1 26 (-1) (-1) (-1) (-1) (h 160 23) 0 := on_F F_u61 (by omega) (by omega) O78
        refine pc_wA ?_; intro p_h62 q_h62 h62 E_h62
        obtain ⟨x_h62, y_h62, z_h62⟩ := w_nd E_h62 (by decide)
        have F81 : Fr h h62 n0 := fr_tr F79 (fr_w (n := n0) E_h62 (by decide) (by omega) (by omega) (gi_o E_h62 (by decide))) (by omega)
        have D82 := cc_wo E_h62 (by decide)
        have O83 : ON h62 u53.1 26 (-1) u61.1 (-1) (-1) (h 160 23) 0 := on_w1 E_h62 O80
        have N84 : h62 160 9 = 0 → CC u61.2 + h58 160 23 ≤ CC h58 + u61.2 160 23 := fun y => (fun y => (P_u61.2 y).2) (by omega)
        have N85 : h62 160 9 = 0 → TE m h62 1 (RE m a1) (h58 160 22) (u61.2 160 22) u61.1 := fun y => te_w E_h62 (by omega) (by omega) (by omega) ((fun y => (P_u61.2 y).1) (by omega))
        refine pc_ret ⟨F81, fun y => ?_⟩
        have y : h62 160 9 = 0 := y
        have A86 := N84 y
        show TE m h62 0 (RE m a1 + 3 + 2 * m) n0 (h62 160 22) u53.1 ∧ CC h62 + h 160 23 ≤ CC h + h62 160 23
        refine ⟨?_, by omega⟩
        exact on_call O83 (by omega) ⟨by omega, by omega, by omega, by omega⟩ (te_wd (N85 y) (by omega) (by omega) (by omega) (by omega))
  · skip
    refine pc_add (by omega) ?_; intro v66 e_v66
    refine pc_xl ?_; intro h67 E_h67
    obtain ⟨S_h67, c_h67, f_h67⟩ := sm_cur E_h67 (by omega)
    have z_h67 := S_h67.1
    have F87 : Fr h h67 n0 := fr_tr F0 (sm_fr (n := n0) S_h67) (by omega)
    have D88 := cc_sm S_h67
    refine pc_sv pc_ad ?_; intro u69 A_u69
    obtain ⟨⟨a0_u69, a1_u69, a2_u69, a3_u69, a4_u69, a5_u69, a6_u69⟩, F_u69, O_u69, C_u69⟩ := A_u69
    have w_u69 : wt 20 = 1 := by decide
    have F89 : Fr h u69.2 n0 := fr_tr F87 F_u69 (by omega)
    refine pc_ret ⟨F89, fun y => ?_⟩
    have y : u69.2 160 9 = 0 := y
    show TE m u69.2 0 (RE m a1 + 3 + 2 * m) n0 (u69.2 160 22) u69.1 ∧ CC u69.2 + h 160 23 ≤ CC h + u69.2 160 23
    refine ⟨?_, by omega⟩
    exact on_leaf O_u69 (by omega) ⟨by omega, by omega, by omega, by omega⟩
set_option maxHeartbeats 8000000 in
theorem go_fresh {nn : Nat} {m : Int} (hm : m = 0 ∨ m = 1) {rc : tq_X13_expression} (G : GT m rc) {a1 : Int} {h : ms_M} (ha : 0 ≤ a1 ∧ a1 ≤ 40) (hh : 0 ≤ h 160 22) (hc : 0 ≤ h 160 23 ∧ h 160 23 < 3008) : Pc (qo_X13_fresh nn rc a1 h) (CE m (RE m a1 + 3 + 2 * m) h) := by
  unfold qo_X13_fresh CE
  generalize hn0 : h 160 22 = n0
  have F0 : Fr h h n0 := fr_rf
  have r0 := re_s (m := m) (d := a1) hm
  have r1 := re_1 (m := m) (d := a1) (by omega)
  have hm2 : 0 ≤ m ∧ m ≤ 1 := by omega
  have hmn : Nonempty (m = 0 ∨ m = 1) := ⟨hm⟩
  clear hm
  refine pc_add (by omega) ?_; intro v9 e_v9
  refine pc_xl ?_; intro h10 E_h10
  obtain ⟨S_h10, c_h10, f_h10⟩ := sm_cur E_h10 (by omega)
  have z_h10 := S_h10.1
  have F1 : Fr h h10 n0 := fr_tr F0 (sm_fr (n := n0) S_h10) (by omega)
  have D2 := cc_sm S_h10
  refine pc_sv pc_isWord ?_; intro u13 b_u13
  refine pc_if (fun C3 => ?_) (fun C3 => ?_)
  · skip
    refine pc_sv pc_name ?_; intro u15 P_u15
    have S_u15 := P_u15.1
    have z_u15 := S_u15.1; have c_u15 := S_u15.2.2.1
    have n_u15 := P_u15.2.1
    have F4 : Fr h u15.2 n0 := fr_tr F1 (sm_fr (n := n0) S_u15) (by omega)
    have D5 := cc_sm S_u15
    refine pc_if (fun C6 => ?_) (fun C6 => ?_)
    · skip
      refine pc_sv pc_ad ?_; intro u18 A_u18
      obtain ⟨⟨a0_u18, a1_u18, a2_u18, a3_u18, a4_u18, a5_u18, a6_u18⟩, F_u18, O_u18, C_u18⟩ := A_u18
      have w_u18 : wt 27 = 1 := by decide
      have F7 : Fr h u18.2 n0 := fr_tr F4 F_u18 (by omega)
      have N8 : u18.2 160 9 = 0 → u15.2 160 23 = h10 160 23 + 1 ∧ u15.1 = h10 160 23 := fun y => P_u15.2.2 (F_u18.1.2.1 y)
      refine pc_sv pc_isSign ?_; intro u21 b_u21
      refine pc_if (fun C9 => ?_) (fun C9 => ?_)
      · skip
        refine pc_sv pc_sign_ ?_; intro u23 P_u23
        have S_u23 := P_u23.1
        have z_u23 := S_u23.1; have c_u23 := S_u23.2.2.1
        have F10 : Fr h u23 n0 := fr_tr F7 (sm_fr (n := n0) S_u23) (by omega)
        have D11 := cc_sm S_u23
        have O12 : ON u23 u18.1 27 (-1) (-1) (-1) (-1) (h 160 23) 0 := on_sm S_u23 O_u18
        have N13 : u23 160 9 = 0 → u15.2 160 23 = h10 160 23 + 1 ∧ u15.1 = h10 160 23 := fun y => N8 (S_u23.2.1 y)
        refine pc_sv pc_sign_ ?_; intro u25 P_u25
        have S_u25 := P_u25.1
        have z_u25 := S_u25.1; have c_u25 := S_u25.2.2.1
        have F14 : Fr h u25 n0 := fr_tr F10 (sm_fr (n := n0) S_u25) (by omega)
        have D15 := cc_sm S_u25
        have O16 : ON u25 u18.1 27 (-1) (-1) (-1) (-1) (h 160 23) 0 := on_sm S_u25 O12
        have N17 : u25 160 9 = 0 → u15.2 160 23 = h10 160 23 + 1 ∧ u15.1 = h10 160 23 := fun y => N13 (S_u25.2.1 y)
        have N18 : u25 160 9 = 0 → u23 160 23 = u18.2 160 23 + 1 ∧ u18.2 160 23 < 3002 := fun y => P_u23.2 (S_u25.2.1 y)
        refine pc_ret ⟨F14, fun y => ?_⟩
        have y : u25 160 9 = 0 := y
        have A19 := N17 y
        have A20 := N18 y
        have A21 := P_u25.2 y
        show TE m u25 0 (RE m a1 + 3 + 2 * m) n0 (u25 160 22) u18.1 ∧ CC u25 + h 160 23 ≤ CC h + u25 160 23
        refine ⟨?_, by omega⟩
        exact on_leaf O16 (by omega) ⟨by omega, by omega, by omega, by omega⟩
      · skip
        refine pc_wA ?_; intro p_h27 q_h27 h27 E_h27
        obtain ⟨x_h27, y_h27, z_h27⟩ := w_nd E_h27 (by decide)
        have F22 : Fr h h27 n0 := fr_tr F7 (fr_w (n := n0) E_h27 (by decide) (by omega) (by omega) (gi_7 E_h27 (by rw [O_u18.1]; omega))) (by omega)
        have D23 := cc_w7 E_h27 (by rw [O_u18.1]; decide)
        have O24 : ON h27 u18.1 29 (-1) (-1) (-1) (-1) (h 160 23) 0 := on_wk E_h27 O_u18
        have N25 : h27 160 9 = 0 → u15.2 160 23 = h10 160 23 + 1 ∧ u15.1 = h10 160 23 := fun y => N8 (by omega)
        refine pc_wA ?_; intro p_h30 q_h30 h30 E_h30
        obtain ⟨x_h30, y_h30, z_h30⟩ := w_nd E_h30 (by decide)
        have F26 : Fr h h30 n0 := fr_tr F22 (fr_w (n := n0) E_h30 (by decide) (by omega) (by omega) (gi_o E_h30 (by decide))) (by omega)
        have D27 := cc_wo E_h30 (by decide)
        have O28 : ON h30 u18.1 29 (-1) (-1) (h27 160 23) (-1) (h 160 23) 0 := on_w2 E_h30 O24
        have N29 : h30 160 9 = 0 → u15.2 160 23 = h10 160 23 + 1 ∧ u15.1 = h10 160 23 := fun y => N25 (by omega)
        refine pc_add (by omega) ?_; intro v32 e_v32
        refine pc_xl ?_; intro h33 E_h33
        obtain ⟨S_h33, c_h33, f_h33⟩ := sm_cur E_h33 (by omega)
        have z_h33 := S_h33.1
        have F30 : Fr h h33 n0 := fr_tr F26 (sm_fr (n := n0) S_h33) (by omega)
        have D31 := cc_sm S_h33
        have O32 : ON h33 u18.1 29 (-1) (-1) (h27 160 23) (-1) (h 160 23) 0 := on_sm S_h33 O28
        have N33 : h33 160 9 = 0 → u15.2 160 23 = h10 160 23 + 1 ∧ u15.1 = h10 160 23 := fun y => N29 (S_h33.2.1 y)
        unfold qj_X13_fresh_142
        refine pc_sv (G.1 a1 h33 (by omega) (by omega) (by omega)) ?_; intro u3 P_u3
        have F_u3 := P_u3.1; have z_u3 := F_u3.1.1; have c_u3 := F_u3.1.2.2
        have F34 : Fr h u3.2 n0 := fr_tr F30 F_u3 (by omega)
        have O35 : ON u3.2 u18.1 29 (-1) (-1) (h27 160 23) (-1) (h 160 23) 0 := on_F F_u3 (by omega) (by omega) O32
        have N36 : u3.2 160 9 = 0 → u15.2 160 23 = h10 160 23 + 1 ∧ u15.1 = h10 160 23 := fun y => N33 (F_u3.1.2.1 y)
        refine pc_wA ?_; intro p_h4 q_h4 h4 E_h4
        obtain ⟨x_h4, y_h4, z_h4⟩ := w_nd E_h4 (by decide)
        have F37 : Fr h h4 n0 := fr_tr F34 (fr_w (n := n0) E_h4 (by decide) (by omega) (by omega) (gi_o E_h4 (by decide))) (by omega)
        have D38 := cc_wo E_h4 (by decide)
        have O39 : ON h4 u18.1 29 u3.1 (-1) (h27 160 23) (-1) (h 160 23) 0 := on_w0 E_h4 O35
        have N40 : h4 160 9 = 0 → u15.2 160 23 = h10 160 23 + 1 ∧ u15.1 = h10 160 23 := fun y => N36 (by omega)
        have N41 : h4 160 9 = 0 → CC u3.2 + h33 160 23 ≤ CC h33 + u3.2 160 23 := fun y => (fun y => (P_u3.2 y).2) (by omega)
        have N42 : h4 160 9 = 0 → TE m h4 0 (RE m a1) (h33 160 22) (u3.2 160 22) u3.1 := fun y => te_w E_h4 (by omega) (by omega) (by omega) ((fun y => (P_u3.2 y).1) (by omega))
        refine pc_sv pc_sign_ ?_; intro u6 P_u6
        have S_u6 := P_u6.1
        have z_u6 := S_u6.1; have c_u6 := S_u6.2.2.1
        have F43 : Fr h u6 n0 := fr_tr F37 (sm_fr (n := n0) S_u6) (by omega)
        have D44 := cc_sm S_u6
        have O45 : ON u6 u18.1 29 u3.1 (-1) (h27 160 23) (-1) (h 160 23) 0 := on_sm S_u6 O39
        have N46 : u6 160 9 = 0 → u15.2 160 23 = h10 160 23 + 1 ∧ u15.1 = h10 160 23 := fun y => N40 (S_u6.2.1 y)
        have N47 : u6 160 9 = 0 → CC u3.2 + h33 160 23 ≤ CC h33 + u3.2 160 23 := fun y => N41 (S_u6.2.1 y)
        have N48 : u6 160 9 = 0 → TE m u6 0 (RE m a1) (h33 160 22) (u3.2 160 22) u3.1 := fun y => te_sm S_u6 (by omega) (N42 (S_u6.2.1 y))
        refine pc_ret ⟨F43, fun y => ?_⟩
        have y : u6 160 9 = 0 := y
        have A49 := N46 y
        have A50 := N47 y
        have A51 := P_u6.2 y
        show TE m u6 0 (RE m a1 + 3 + 2 * m) n0 (u6 160 22) u18.1 ∧ CC u6 + h 160 23 ≤ CC h + u6 160 23
        refine ⟨?_, by omega⟩
        exact on_ints O45 (by omega) ⟨by omega, by omega, by omega, by omega⟩ (te_wd (N48 y) (by omega) (by omega) (by omega) (by omega))
    · skip
      exact pc_ret ⟨F4, fun y => (C6 y).elim⟩
  · skip
    refine pc_add (by omega) ?_; intro v37 e_v37
    refine pc_xl ?_; intro h38 E_h38
    obtain ⟨S_h38, c_h38, f_h38⟩ := sm_cur E_h38 (by omega)
    have z_h38 := S_h38.1
    have F52 : Fr h h38 n0 := fr_tr F1 (sm_fr (n := n0) S_h38) (by omega)
    have D53 := cc_sm S_h38
    refine pc_sv pc_ad ?_; intro u41 A_u41
    obtain ⟨⟨a0_u41, a1_u41, a2_u41, a3_u41, a4_u41, a5_u41, a6_u41⟩, F_u41, O_u41, C_u41⟩ := A_u41
    have w_u41 : wt 28 = 1 := by decide
    have F54 : Fr h u41.2 n0 := fr_tr F52 F_u41 (by omega)
    refine pc_sv pc_sign_ ?_; intro u43 P_u43
    have S_u43 := P_u43.1
    have z_u43 := S_u43.1; have c_u43 := S_u43.2.2.1
    have F55 : Fr h u43 n0 := fr_tr F54 (sm_fr (n := n0) S_u43) (by omega)
    have D56 := cc_sm S_u43
    have O57 : ON u43 u41.1 28 (-1) (-1) (-1) (-1) (h 160 23) 0 := on_sm S_u43 O_u41
    refine pc_sv (G.1 a1 u43 (by omega) (by omega) (by omega)) ?_; intro u46 P_u46
    have F_u46 := P_u46.1; have z_u46 := F_u46.1.1; have c_u46 := F_u46.1.2.2
    have F58 : Fr h u46.2 n0 := fr_tr F55 F_u46 (by omega)
    have O59 : ON u46.2 u41.1 28 (-1) (-1) (-1) (-1) (h 160 23) 0 := on_F F_u46 (by omega) (by omega) O57
    have N60 : u46.2 160 9 = 0 → u43 160 23 = u41.2 160 23 + 1 ∧ u41.2 160 23 < 3002 := fun y => P_u43.2 (F_u46.1.2.1 y)
    refine pc_wA ?_; intro p_h47 q_h47 h47 E_h47
    obtain ⟨x_h47, y_h47, z_h47⟩ := w_nd E_h47 (by decide)
    have F61 : Fr h h47 n0 := fr_tr F58 (fr_w (n := n0) E_h47 (by decide) (by omega) (by omega) (gi_o E_h47 (by decide))) (by omega)
    have D62 := cc_wo E_h47 (by decide)
    have O63 : ON h47 u41.1 28 u46.1 (-1) (-1) (-1) (h 160 23) 0 := on_w0 E_h47 O59
    have N64 : h47 160 9 = 0 → u43 160 23 = u41.2 160 23 + 1 ∧ u41.2 160 23 < 3002 := fun y => N60 (by omega)
    have N65 : h47 160 9 = 0 → CC u46.2 + u43 160 23 ≤ CC u43 + u46.2 160 23 := fun y => (fun y => (P_u46.2 y).2) (by omega)
    have N66 : h47 160 9 = 0 → TE m h47 0 (RE m a1) (u43 160 22) (u46.2 160 22) u46.1 := fun y => te_w E_h47 (by omega) (by omega) (by omega) ((fun y => (P_u46.2 y).1) (by omega))
    refine pc_sv pc_sign_ ?_; intro u49 P_u49
    have S_u49 := P_u49.1
    have z_u49 := S_u49.1; have c_u49 := S_u49.2.2.1
    have F67 : Fr h u49 n0 := fr_tr F61 (sm_fr (n := n0) S_u49) (by omega)
    have D68 := cc_sm S_u49
    have O69 : ON u49 u41.1 28 u46.1 (-1) (-1) (-1) (h 160 23) 0 := on_sm S_u49 O63
    have N70 : u49 160 9 = 0 → u43 160 23 = u41.2 160 23 + 1 ∧ u41.2 160 23 < 3002 := fun y => N64 (S_u49.2.1 y)
    have N71 : u49 160 9 = 0 → CC u46.2 + u43 160 23 ≤ CC u43 + u46.2 160 23 := fun y => N65 (S_u49.2.1 y)
    have N72 : u49 160 9 = 0 → TE m u49 0 (RE m a1) (u43 160 22) (u46.2 160 22) u46.1 := fun y => te_sm S_u49 (by omega) (N66 (S_u49.2.1 y))
    refine pc_ret ⟨F67, fun y => ?_⟩
    have y : u49 160 9 = 0 := y
    have A73 := N70 y
    have A74 := N71 y
    have A75 := P_u49.2 y
    show TE m u49 0 (RE m a1 + 3 + 2 * m) n0 (u49 160 22) u41.1 ∧ CC u49 + h 160 23 ≤ CC h + u49 160 23
    refine ⟨?_, by omega⟩
    exact on_ints O69 (by omega) ⟨by omega, by omega, by omega, by omega⟩ (te_wd (N72 y) (by omega) (by omega) (by omega) (by omega))
theorem gt_all {nn : Nat} {m : Int} (hm : m = 0 ∨ m = 1) : ∀ n, GT m (qg_X13_expression nn n) := by
  intro n
  induction n with
  | zero => exact ⟨fun _ _ _ _ _ => pc_none, fun _ _ _ _ _ _ _ _ => pc_none, fun _ _ _ _ _ => pc_none, fun _ _ _ _ _ => pc_none, fun _ _ _ _ _ => pc_none, fun _ _ _ _ _ => pc_none, fun _ _ _ _ _ _ => pc_none⟩
  | succ n G => exact ⟨fun d h a b c => go_expression hm G ⟨a, b⟩ c, fun l d h a b c e f => go_sides hm G ⟨a, b⟩ ⟨c, e⟩ f, fun d h a b c => go_unary hm G ⟨a, b⟩ c, fun d h a b c => go_arguments hm G ⟨a, b⟩ c, fun d h a b c => go_postfix hm G ⟨a, b⟩ c, fun d h a b c => go_primary hm G ⟨a, b⟩ c, fun d h a b c e => go_fresh hm G ⟨a, b⟩ c e⟩
theorem ge_expression {nn : Nat} {m : Int} (hm : m = 0 ∨ m = 1) (d : Int) (h : ms_M) (a : 0 ≤ d) (b : d ≤ 40) (c : 0 ≤ h 160 22) : Pc (qf_X13_expression nn d h) (CE m (RE m d) h) := (gt_all hm 700).1 d h a b c
/-- what a reader of a statement tells of the tree -/
def CS (m K : Int) (h : ms_M) (u : Int × ms_M) : Prop := Fr h u.2 (h 160 22) ∧ (u.2 160 9 = 0 → u.1 = h 160 22 ∧ u.2 169 (h 160 22).toNat = h 160 23 ∧ (u.2 167 (h 160 22).toNat = 2 → h 160 23 + 2 ≤ u.2 160 23) ∧ u.2 173 (h 160 22).toNat = -1 ∧ TE m u.2 2 K (h 160 22) (u.2 160 22) u.1 ∧ CC u.2 + h 160 23 ≤ CC h + u.2 160 23)
def GS (m : Int) (rc : tq_X13_block) : Prop :=
  (∀ d h, 0 ≤ d → d ≤ 40 → 0 ≤ h 160 22 → Pc (rc.1 d h) (CS m (2 * (40 - d) + 2) h)) ∧
  (∀ d h, 0 ≤ d → d ≤ 40 → 0 ≤ h 160 22 → Pc (rc.2 d h) (CS m (2 * (40 - d) + 1) h))
theorem cs_tb {m K : Int} {h : ms_M} {u : Int × ms_M} (P : CS m K h u) (y : u.2 160 9 = 0) : TB m u.2 K u.1 (h 160 22) (u.2 160 22) (h 160 23) := by
  obtain ⟨w1, w2, _, _, w4, _⟩ := P.2 y
  rw [w1] at w4
  exact ⟨w1, w2, w4⟩
theorem cs_wd {m K K2 : Int} {h : ms_M} {u : Int × ms_M} (P : CS m K h u) (hk : K ≤ K2) (h0 : 0 ≤ h 160 22) : CS m K2 h u := ⟨P.1, fun y => ⟨(P.2 y).1, (P.2 y).2.1, (P.2 y).2.2.1, (P.2 y).2.2.2.1, te_wd (P.2 y).2.2.2.2.1 hk h0 (by omega) (by omega), (P.2 y).2.2.2.2.2⟩⟩
set_option maxHeartbeats 8000000 in
theorem ge_plain {nn : Nat} {m : Int} (hm : m = 0 ∨ m = 1) {a1 : Int} {h : ms_M} (ha : 0 ≤ a1 ∧ a1 ≤ 39) (hh : 0 ≤ h 160 22) : Pc (qf_X13_plain nn a1 h) (CS m (2 * (40 - a1) + 1) h) := by
  unfold qf_X13_plain CS
  generalize hn0 : h 160 22 = n0
  have F0 : Fr h h n0 := fr_rf
  have r1 := re_1 (m := m) (d := 1) (by decide)
  have hm2 : 0 ≤ m ∧ m ≤ 1 := by omega
  have hmn : Nonempty (m = 0 ∨ m = 1) := ⟨hm⟩
  clear hm
  refine pc_sv pc_ad ?_; intro u6 A_u6
  obtain ⟨⟨a0_u6, a1_u6, a2_u6, a3_u6, a4_u6, a5_u6, a6_u6⟩, F_u6, O_u6, C_u6⟩ := A_u6
  have w_u6 : wt 11 = 1 := by decide
  have F1 : Fr h u6.2 n0 := fr_tr F0 F_u6 (by omega)
  refine pc_add (by omega) ?_; intro v8 e_v8
  subst e_v8
  refine pc_sv (ge_expression (nn := nn) (hmn.elim id) (a1 + 1) u6.2 (by omega) (by omega) (by omega)) ?_; intro u10 P_u10
  have F_u10 := P_u10.1; have z_u10 := F_u10.1.1; have c_u10 := F_u10.1.2.2
  have k_u10 := re_le (m := m) (d := 1) (d2 := (a1 + 1)) (by omega)
  have F2 : Fr h u10.2 n0 := fr_tr F1 F_u10 (by omega)
  have O3 : ON u10.2 u6.1 11 (-1) (-1) (-1) (-1) (h 160 23) 0 := on_F F_u10 (by omega) (by omega) O_u6
  refine pc_wA ?_; intro p_h11 q_h11 h11 E_h11
  obtain ⟨x_h11, y_h11, z_h11⟩ := w_nd E_h11 (by decide)
  have F4 : Fr h h11 n0 := fr_tr F2 (fr_w (n := n0) E_h11 (by decide) (by omega) (by omega) (gi_o E_h11 (by decide))) (by omega)
  have D5 := cc_wo E_h11 (by decide)
  have O6 : ON h11 u6.1 11 u10.1 (-1) (-1) (-1) (h 160 23) 0 := on_w0 E_h11 O3
  have N7 : h11 160 9 = 0 → CC u10.2 + u6.2 160 23 ≤ CC u6.2 + u10.2 160 23 := fun y => (fun y => (P_u10.2 y).2) (by omega)
  have N8 : h11 160 9 = 0 → TE m h11 0 (RE m (a1 + 1)) (u6.2 160 22) (u10.2 160 22) u10.1 := fun y => te_w E_h11 (by omega) (by omega) (by omega) ((fun y => (P_u10.2 y).1) (by omega))
  refine pc_if (fun C9 => ?_) (fun C9 => ?_)
  · skip
    unfold qj_X13_plain_89
    refine pc_sv pc_sign_ ?_; intro u2 P_u2
    have S_u2 := P_u2.1
    have z_u2 := S_u2.1; have c_u2 := S_u2.2.2.1
    have F10 : Fr h u2 n0 := fr_tr F4 (sm_fr (n := n0) S_u2) (by omega)
    have D11 := cc_sm S_u2
    have O12 : ON u2 u6.1 11 u10.1 (-1) (-1) (-1) (h 160 23) 0 := on_sm S_u2 O6
    have N13 : u2 160 9 = 0 → CC u10.2 + u6.2 160 23 ≤ CC u6.2 + u10.2 160 23 := fun y => N7 (S_u2.2.1 y)
    have N14 : u2 160 9 = 0 → TE m u2 0 (RE m (a1 + 1)) (u6.2 160 22) (u10.2 160 22) u10.1 := fun y => te_sm S_u2 (by omega) (N8 (S_u2.2.1 y))
    have N15 : u2 160 9 = 0 → False := fun y => C9 (S_u2.2.1 y)
    exact pc_ret ⟨F10, fun y => (N15 y).elim⟩
  · skip
    refine pc_sv pc_isSign ?_; intro u15 b_u15
    refine pc_if (fun C16 => ?_) (fun C16 => ?_)
    · skip
      unfold qj_X13_plain_89
      refine pc_sv pc_sign_ ?_; intro u2 P_u2
      have S_u2 := P_u2.1
      have z_u2 := S_u2.1; have c_u2 := S_u2.2.2.1
      have F17 : Fr h u2 n0 := fr_tr F4 (sm_fr (n := n0) S_u2) (by omega)
      have D18 := cc_sm S_u2
      have O19 : ON u2 u6.1 11 u10.1 (-1) (-1) (-1) (h 160 23) 0 := on_sm S_u2 O6
      have N20 : u2 160 9 = 0 → CC u10.2 + u6.2 160 23 ≤ CC u6.2 + u10.2 160 23 := fun y => N7 (S_u2.2.1 y)
      have N21 : u2 160 9 = 0 → TE m u2 0 (RE m (a1 + 1)) (u6.2 160 22) (u10.2 160 22) u10.1 := fun y => te_sm S_u2 (by omega) (N8 (S_u2.2.1 y))
      refine pc_ret ⟨F17, fun y => ?_⟩
      have y : u2 160 9 = 0 := y
      have A22 := N20 y
      have A23 := P_u2.2 y
      show u6.1 = n0 ∧ u2 169 n0.toNat = h 160 23 ∧ (u2 167 n0.toNat = 2 → h 160 23 + 2 ≤ u2 160 23) ∧ u2 173 n0.toNat = -1 ∧ TE m u2 2 (2 * (40 - a1) + 1) n0 (u2 160 22) u6.1 ∧ CC u2 + h 160 23 ≤ CC h + u2 160 23
      have on0 := O19
      have en0 : u6.1 = n0 := by omega
      rw [en0] at on0
      refine ⟨en0, on0.2.2.2.2.2.1.trans (by omega), fun z => ?_, on0.2.2.2.2.1, ?_, by omega⟩
      · rw [on0.1] at z; omega
      · skip
        exact on_one O19 (by omega) ⟨by omega, by omega, by omega, by omega⟩ (te_wd (N21 y) (by omega) (by omega) (by omega) (by omega))
    · skip
      refine pc_wA ?_; intro p_h17 q_h17 h17 E_h17
      obtain ⟨x_h17, y_h17, z_h17⟩ := w_nd E_h17 (by decide)
      have F24 : Fr h h17 n0 := fr_tr F4 (fr_w (n := n0) E_h17 (by decide) (by omega) (by omega) (gi_7 E_h17 (by rw [O6.1]; omega))) (by omega)
      have D25 := cc_w7p E_h17 (by rw [O6.1]; decide) (by omega)
      have O26 : ON h17 u6.1 12 u10.1 (-1) (-1) (-1) (h 160 23) 0 := on_wk E_h17 O6
      have N27 : h17 160 9 = 0 → CC u10.2 + u6.2 160 23 ≤ CC u6.2 + u10.2 160 23 := fun y => N7 (by omega)
      have N28 : h17 160 9 = 0 → TE m h17 0 (RE m (a1 + 1)) (u6.2 160 22) (u10.2 160 22) u10.1 := fun y => te_w E_h17 (by omega) (by omega) (by omega) (N8 (by omega))
      refine pc_wA ?_; intro p_h20 q_h20 h20 E_h20
      obtain ⟨x_h20, y_h20, z_h20⟩ := w_nd E_h20 (by decide)
      have F29 : Fr h h20 n0 := fr_tr F24 (fr_w (n := n0) E_h20 (by decide) (by omega) (by omega) (gi_o E_h20 (by decide))) (by omega)
      have D30 := cc_wo E_h20 (by decide)
      have O31 : ON h20 u6.1 12 u10.1 (-1) (-1) (-1) (h 160 23) 0 := on_wo E_h20 (by decide) O26
      have N32 : h20 160 9 = 0 → CC u10.2 + u6.2 160 23 ≤ CC u6.2 + u10.2 160 23 := fun y => N27 (by omega)
      have N33 : h20 160 9 = 0 → TE m h20 0 (RE m (a1 + 1)) (u6.2 160 22) (u10.2 160 22) u10.1 := fun y => te_w E_h20 (by omega) (by omega) (by omega) (N28 (by omega))
      refine pc_add (by omega) ?_; intro v22 e_v22
      refine pc_xl ?_; intro h23 E_h23
      obtain ⟨S_h23, c_h23, f_h23⟩ := sm_cur E_h23 (by omega)
      have z_h23 := S_h23.1
      have F34 : Fr h h23 n0 := fr_tr F29 (sm_fr (n := n0) S_h23) (by omega)
      have D35 := cc_sm S_h23
      have O36 : ON h23 u6.1 12 u10.1 (-1) (-1) (-1) (h 160 23) 0 := on_sm S_h23 O31
      have N37 : h23 160 9 = 0 → CC u10.2 + u6.2 160 23 ≤ CC u6.2 + u10.2 160 23 := fun y => N32 (S_h23.2.1 y)
      have N38 : h23 160 9 = 0 → TE m h23 0 (RE m (a1 + 1)) (u6.2 160 22) (u10.2 160 22) u10.1 := fun y => te_sm S_h23 (by omega) (N33 (S_h23.2.1 y))
      refine pc_add (by omega) ?_; intro v25 e_v25
      subst e_v25
      refine pc_sv (ge_expression (nn := nn) (hmn.elim id) (a1 + 1) h23 (by omega) (by omega) (by omega)) ?_; intro u27 P_u27
      have F_u27 := P_u27.1; have z_u27 := F_u27.1.1; have c_u27 := F_u27.1.2.2
      have k_u27 := re_le (m := m) (d := 1) (d2 := (a1 + 1)) (by omega)
      have F39 : Fr h u27.2 n0 := fr_tr F34 F_u27 (by omega)
      have O40 : ON u27.2 u6.1 12 u10.1 (-1) (-1) (-1) (h 160 23) 0 := on_F F_u27 (by omega) (by omega) O36
      have N41 : u27.2 160 9 = 0 → CC u10.2 + u6.2 160 23 ≤ CC u6.2 + u10.2 160 23 := fun y => N37 (F_u27.1.2.1 y)
      have N42 : u27.2 160 9 = 0 → TE m u27.2 0 (RE m (a1 + 1)) (u6.2 160 22) (u10.2 160 22) u10.1 := fun y => te_F F_u27 (by omega) (by omega) (N38 (F_u27.1.2.1 y))
      refine pc_wA ?_; intro p_h28 q_h28 h28 E_h28
      obtain ⟨x_h28, y_h28, z_h28⟩ := w_nd E_h28 (by decide)
      have F43 : Fr h h28 n0 := fr_tr F39 (fr_w (n := n0) E_h28 (by decide) (by omega) (by omega) (gi_o E_h28 (by decide))) (by omega)
      have D44 := cc_wo E_h28 (by decide)
      have O45 : ON h28 u6.1 12 u10.1 u27.1 (-1) (-1) (h 160 23) 0 := on_w1 E_h28 O40
      have N46 : h28 160 9 = 0 → CC u10.2 + u6.2 160 23 ≤ CC u6.2 + u10.2 160 23 := fun y => N41 (by omega)
      have N47 : h28 160 9 = 0 → TE m h28 0 (RE m (a1 + 1)) (u6.2 160 22) (u10.2 160 22) u10.1 := fun y => te_w E_h28 (by omega) (by omega) (by omega) (N42 (by omega))
      have N48 : h28 160 9 = 0 → CC u27.2 + h23 160 23 ≤ CC h23 + u27.2 160 23 := fun y => (fun y => (P_u27.2 y).2) (by omega)
      have N49 : h28 160 9 = 0 → TE m h28 0 (RE m (a1 + 1)) (h23 160 22) (u27.2 160 22) u27.1 := fun y => te_w E_h28 (by omega) (by omega) (by omega) ((fun y => (P_u27.2 y).1) (by omega))
      unfold qj_X13_plain_89
      refine pc_sv pc_sign_ ?_; intro u2 P_u2
      have S_u2 := P_u2.1
      have z_u2 := S_u2.1; have c_u2 := S_u2.2.2.1
      have F50 : Fr h u2 n0 := fr_tr F43 (sm_fr (n := n0) S_u2) (by omega)
      have D51 := cc_sm S_u2
      have O52 : ON u2 u6.1 12 u10.1 u27.1 (-1) (-1) (h 160 23) 0 := on_sm S_u2 O45
      have N53 : u2 160 9 = 0 → CC u10.2 + u6.2 160 23 ≤ CC u6.2 + u10.2 160 23 := fun y => N46 (S_u2.2.1 y)
      have N54 : u2 160 9 = 0 → TE m u2 0 (RE m (a1 + 1)) (u6.2 160 22) (u10.2 160 22) u10.1 := fun y => te_sm S_u2 (by omega) (N47 (S_u2.2.1 y))
      have N55 : u2 160 9 = 0 → CC u27.2 + h23 160 23 ≤ CC h23 + u27.2 160 23 := fun y => N48 (S_u2.2.1 y)
      have N56 : u2 160 9 = 0 → TE m u2 0 (RE m (a1 + 1)) (h23 160 22) (u27.2 160 22) u27.1 := fun y => te_sm S_u2 (by omega) (N49 (S_u2.2.1 y))
      refine pc_ret ⟨F50, fun y => ?_⟩
      have y : u2 160 9 = 0 := y
      have A57 := N53 y
      have A58 := N55 y
      have A59 := P_u2.2 y
      show u6.1 = n0 ∧ u2 169 n0.toNat = h 160 23 ∧ (u2 167 n0.toNat = 2 → h 160 23 + 2 ≤ u2 160 23) ∧ u2 173 n0.toNat = -1 ∧ TE m u2 2 (2 * (40 - a1) + 1) n0 (u2 160 22) u6.1 ∧ CC u2 + h 160 23 ≤ CC h + u2 160 23
      have on0 := O52
      have en0 : u6.1 = n0 := by omega
      rw [en0] at on0
      refine ⟨en0, on0.2.2.2.2.2.1.trans (by omega), fun z => ?_, on0.2.2.2.2.1, ?_, by omega⟩
      · rw [on0.1] at z; omega
      · skip
        exact on_ass (p := (u10.2 160 22)) O52 (by omega) ⟨by omega, by omega, by omega, by omega⟩ (by omega) (te_wd (N54 y) (by omega) (by omega) (by omega) (by omega)) (te_wd (N56 y) (by omega) (by omega) (by omega) (by omega))
/-- the row of statements of a block: the first hangs at one[l2] (l3 = -1), or the next at next[l3] -/
def PB (m : Int) (K l2 l3 : Int) (h : ms_M) (u : Int × ms_M) : Prop :=
  (¬ h 160 9 = 0 → Fr h u.2 (h 160 22) ∧ ¬ u.2 160 9 = 0) ∧
  (l3 = -1 → h 170 l2.toNat = -1 → Fx h u.2 (h 160 22) 170 l2.toNat ∧ (u.2 160 9 = 0 → u.1 = l2 ∧ TE m u.2 3 K (h 160 22) (u.2 160 22) (u.2 170 l2.toNat) ∧ (u.2 170 l2.toNat = -1 ∨ (u.2 170 l2.toNat = h 160 22 ∧ h 160 22 < u.2 160 22 ∧ u.2 169 (h 160 22).toNat = h 160 23)) ∧ CC u.2 + h 160 23 ≤ CC h + u.2 160 23)) ∧
  (¬ l3 = -1 → 0 ≤ l3 → l3 < h 160 22 → h 173 l3.toNat = -1 → Fx h u.2 (h 160 22) 173 l3.toNat ∧ (u.2 160 9 = 0 → u.1 = l2 ∧ TE m u.2 3 K (h 160 22) (u.2 160 22) (u.2 173 l3.toNat) ∧ (u.2 173 l3.toNat = -1 ∨ (u.2 173 l3.toNat = h 160 22 ∧ h 160 22 < u.2 160 22 ∧ u.2 169 (h 160 22).toNat = h 160 23)) ∧ CC u.2 + h 160 23 ≤ CC h + u.2 160 23))
theorem gb_79 {nn : Nat} {m : Int} {rc : tq_X13_block} {K l2 l3 : Int} {h : ms_M} : Pc (qj_X13_block_79 nn rc l2 h) (PB m K l2 l3 h) := by
  unfold qj_X13_block_79
  refine pc_sv pc_sign_ ?_; intro u2 P
  have S := P.1
  refine pc_ret ⟨fun z => ⟨sm_fr S, fun y => z (S.2.1 y)⟩, fun z z1 => ⟨fxx_fr (sm_fr S), fun y => ⟨rfl, ?_⟩⟩, fun z z0 z1 z2 => ⟨fxx_fr (sm_fr S), fun y => ⟨rfl, ?_⟩⟩⟩
  · have e : u2 170 l2.toNat = -1 := by rw [S.2.2.2 170 _ (by decide) (by decide)]; exact z1
    exact ⟨te_i3 (.inl e), .inl e, by have := P.2 y; have := cc_sm S; show CC u2 + _ ≤ CC h + u2 160 23; omega⟩
  · have e : u2 173 l3.toNat = -1 := by rw [S.2.2.2 173 _ (by decide) (by decide)]; exact z2
    exact ⟨te_i3 (.inl e), .inl e, by have := P.2 y; have := cc_sm S; show CC u2 + _ ≤ CC h + u2 160 23; omega⟩
/-- one statement more: it stands at n = nodes of h, what hangs at its next is known -/
theorem gb_s {m K l2 n : Int} {h g : ms_M} {u8 v : Int × ms_M} {c0 x0 : Nat} (hn : h 160 22 = n) (h0 : 0 ≤ n) (P : CS m K h u8) (W : g = up_M u8.2 c0 x0 u8.1) (hc : c0 = 170 ∨ c0 = 173) (hx : (x0 : Int) < n) (Q : PB m K l2 u8.1 g v) : Fx h v.2 n c0 x0 ∧ (v.2 160 9 = 0 → v.1 = l2 ∧ TE m v.2 3 K n (v.2 160 22) (v.2 c0 x0) ∧ (v.2 c0 x0 = -1 ∨ (v.2 c0 x0 = n ∧ n < v.2 160 22 ∧ v.2 169 n.toNat = h 160 23)) ∧ CC v.2 + h 160 23 ≤ CC h + v.2 160 23) := by
  have g22 : g 160 22 = u8.2 160 22 := by rw [W]; exact up_n (by omega)
  have g23 : g 160 23 = u8.2 160 23 := by rw [W]; exact up_n (by omega)
  have g9 : g 160 9 = u8.2 160 9 := by rw [W]; exact up_n (by omega)
  have F8 := P.1
  rw [hn] at F8
  have c8 := F8.1
  have gc : CC g = CC u8.2 := cc_wo (j := (x0 : Int)) (by rw [Int.toNat_natCast]; exact W) (by omega)
  have gw : GI u8.2 → GI g := gi_o (j := (x0 : Int)) (by rw [Int.toNat_natCast]; exact W) (by omega)
  by_cases y8 : u8.2 160 9 = 0
  · obtain ⟨w1, w2, w3, w5, w4, w6⟩ := P.2 y8
    rw [hn] at w1 w2 w3 w4 w5
    rw [w1] at w4
    have hv : n < u8.2 160 22 := (te_o2 w4).1.2.2.1
    have gz : g 173 u8.1.toNat = -1 := by rw [W, up_n (by omega), w1]; exact w5
    obtain ⟨X, Y⟩ := Q.2.2 (by omega) (by omega) (by omega) gz
    rw [g22, w1] at X Y
    have X1 := X.1
    have A : ∀ (c x : Nat), 167 ≤ c → c ≤ 177 → (x : Int) < u8.2 160 22 → ¬ (c = 173 ∧ x = n.toNat) → ¬ (c = c0 ∧ x = x0) → v.2 c x = u8.2 c x := fun c x h1 h2 h3 h4 h5 => by rw [X.2.1 c x h1 h2 h3 h4, W, up_n h5]
    refine ⟨⟨⟨by omega, fun y => c8.2.1 (by have := X1.2.1 y; omega), by omega⟩, fun c x h1 h2 h3 h4 => by rw [A c x h1 h2 (by omega) (by omega) h4, F8.2.1 c x h1 h2 h3], fun w => X.2.2 (gw (F8.2.2 w))⟩, fun y => ?_⟩
    obtain ⟨Y1, Y2, Y3, Y4⟩ := Y y
    rw [g23] at Y3
    have vb : v.2 169 n.toNat = h 160 23 := by rw [A 169 _ (by decide) (by decide) (by omega) (by omega) (by omega)]; exact w2
    have vk : v.2 167 n.toNat = u8.2 167 n.toNat := A 167 _ (by decide) (by decide) (by omega) (by omega) (by omega)
    have vc : v.2 c0 x0 = n := by rw [X.2.1 c0 x0 (by omega) (by omega) (by omega) (by omega), W, up_s, w1]
    have T : TE m v.2 2 K n (u8.2 160 22) n := te_2x w4 h0 (fun c x h1 h2 h3 h4 h5 => A c x h1 h2 h4 h5 (by omega))
    refine ⟨Y1, ?_, .inr ⟨vc, by omega, vb⟩, by omega⟩
    rw [vc]
    refine te_i3 (.inr ⟨⟨h0, by omega, by omega⟩, ?_⟩)
    rcases Y3 with z | ⟨z1, z2, z3⟩
    · exact .inl ⟨z, te_wd T (by omega) h0 (by omega) (by omega)⟩
    · refine .inr ?_
      rw [z1] at Y2
      rw [z1, vb, vk, z3]
      exact ⟨⟨hv, z2⟩, T, Y2, c8.2.2, w3⟩
  · obtain ⟨X, Y⟩ := Q.1 (by omega)
    rw [g22] at X
    have X1 := X.1
    exact ⟨⟨⟨by omega, fun y => absurd y Y, by omega⟩, fun c x h1 h2 h3 h4 => by rw [X.2.1 c x h1 h2 (by omega), W, up_n h4, F8.2.1 c x h1 h2 h3], fun w => X.2.2 (gw (F8.2.2 w))⟩, fun y => absurd y Y⟩
theorem gl_block {nn : Nat} {m : Int} {rc : tq_X13_block} (G : GS m rc) : ∀ (k : Nat) (l1 l2 l3 : Int) (h : ms_M), 0 ≤ l1 → l1 ≤ 40 → (0 ≤ l2 ∧ l2 < h 160 22) → Pc (qw_X13_block_22 nn rc k l1 l2 l3 h) (PB m (2 * (40 - l1) + 1) l2 l3 h) := by
  intro k
  induction k with
  | zero => intros; exact pc_none
  | succ k ih =>
    intro l1 l2 l3 h a0 a1 a2
    unfold qw_X13_block_22
    refine pc_if (fun C => gb_79) (fun C => ?_)
    refine pc_se ?_; intro u6 _
    refine pc_if (fun C2 => gb_79) (fun C2 => ?_)
    refine pc_sv (G.2 l1 h a0 a1 (by omega)) ?_; intro u8 P8
    have F8 := P8.1; have z8 := F8.1.1
    refine pc_if (fun C3 => ?_) (fun C3 => ?_)
    · refine pc_wA ?_; intro p10 q10 h10 E10
      obtain ⟨x10, y10, w10⟩ := w_nd E10 (by decide)
      refine pc_imp (ih l1 l2 u8.1 h10 a0 a1 (by omega)) (fun v Q => ⟨fun z => absurd z C, fun z => absurd z C3, fun _ c0 c1 c2 => ?_⟩)
      exact gb_s rfl (by omega) P8 E10 (.inr rfl) (by omega) Q
    · have z3 : l3 = -1 := Classical.not_not.mp C3
      refine pc_wA ?_; intro p10 q10 h10 E10
      obtain ⟨x10, y10, w10⟩ := w_nd E10 (by decide)
      refine pc_imp (ih l1 l2 u8.1 h10 a0 a1 (by omega)) (fun v Q => ⟨fun z => absurd z C, fun _ c2 => ?_, fun z => absurd z3 z⟩)
      exact gb_s rfl (by omega) P8 E10 (.inl rfl) (by omega) Q
theorem go_block {nn : Nat} {m : Int} (_ : m = 0 ∨ m = 1) {rc : tq_X13_block} (G : GS m rc) {a1 : Int} {h : ms_M} (ha : 0 ≤ a1 ∧ a1 ≤ 40) (_ : 0 ≤ h 160 22) : Pc (qo_X13_block nn rc a1 h) (CS m (2 * (40 - a1) + 2) h) := by
  unfold qo_X13_block
  refine pc_sv pc_ad ?_; intro u19 A
  obtain ⟨⟨b0, b1, b2, b3, b4, b5, _⟩, F19, O19, C19⟩ := A
  have w1 : wt 1 = 1 := by decide
  refine pc_sv pc_sign_ ?_; intro u21 P21
  have S := P21.1; have s1 := S.1; have s2 := S.2.2.1
  have O21 := on_sm S O19
  have cc := cc_sm S
  refine pc_imp (gl_block G nn a1 u19.1 (-1) u21 ha.1 ha.2 (by omega)) (fun v Q => ?_)
  obtain ⟨X, Y⟩ := Q.2.1 rfl O21.2.1
  have X1 := X.1
  rw [s1, b3] at X Y
  rw [b2] at X Y
  rw [b2] at O21
  have A : ∀ (c x : Nat), 167 ≤ c → c ≤ 177 → (x : Int) < h 160 22 + 1 → ¬ (c = 170 ∧ x = (h 160 22).toNat) → v.2 c x = u21 c x := fun c x h1 h2 h3 h4 => X.2.1 c x h1 h2 h3 h4
  refine ⟨⟨⟨by omega, fun y => by have := X1.2.1 y; have := S.2.1 this; omega, by omega⟩, fun c x h1 h2 h3 => by rw [A c x h1 h2 (by omega) (by omega), S.2.2.2 c x h1 h2, F19.2.1 c x h1 h2 h3], fun w => X.2.2 (gi_sm S (F19.2.2 w))⟩, fun y => ?_⟩
  obtain ⟨Y1, Y2, Y3, Y4⟩ := Y y
  have p2 := P21.2 (X1.2.1 y)
  have vk : v.2 167 (h 160 22).toNat = 1 := by rw [A 167 _ (by decide) (by decide) (by omega) (by omega)]; exact O21.1
  have vb : v.2 169 (h 160 22).toNat = h 160 23 := by rw [A 169 _ (by decide) (by decide) (by omega) (by omega)]; exact O21.2.2.2.2.2.1
  have vx : v.2 173 (h 160 22).toNat = -1 := by rw [A 173 _ (by decide) (by decide) (by omega) (by omega)]; exact O21.2.2.2.2.1
  refine ⟨Y1, vb, fun z => by omega, vx, ?_, by omega⟩
  rw [Y1]
  refine te_i2 ⟨⟨b0, by omega, by omega, by omega⟩, .inl ⟨vk, ?_, te_wd Y2 (by omega) (by omega) (by omega) (by omega)⟩⟩
  rcases Y3 with z | ⟨z1, z2, z3⟩
  · exact .inl z
  · refine .inr ⟨by omega, by omega, ?_⟩
    rw [z1, z3, vb]
    omega

set_option maxHeartbeats 8000000 in
theorem go_statement {nn : Nat} {m : Int} (hm : m = 0 ∨ m = 1) {rc : tq_X13_block} (G : GS m rc) {a1 : Int} {h : ms_M} (ha : 0 ≤ a1 ∧ a1 ≤ 40) (hh : 0 ≤ h 160 22) : Pc (qo_X13_statement nn rc a1 h) (CS m (2 * (40 - a1) + 1) h) := by
  unfold qo_X13_statement CS
  generalize hn0 : h 160 22 = n0
  have F0 : Fr h h n0 := fr_rf
  have r1 := re_1 (m := m) (d := 1) (by decide)
  have hm2 : 0 ≤ m ∧ m ≤ 1 := by omega
  have hmn : Nonempty (m = 0 ∨ m = 1) := ⟨hm⟩
  clear hm
  refine pc_sv pc_isDeep ?_; intro u71 P_u71
  rcases P_u71.2 with ⟨d1, d2, d3, d4⟩ | ⟨d1, d2⟩
  · rw [if_pos d1, d4]
    have r2 := re_1 (m := m) (d := a1 + 1) (by omega)
    refine pc_sv pc_isSign ?_; intro u75 b_u75
    refine pc_if (fun C1 => ?_) (fun C1 => ?_)
    · skip
      refine pc_se ?_; intro u77 _
      refine pc_if (fun C2 => ?_) (fun C2 => ?_)
      · skip
        refine pc_rA ?_; intro p_v80 q_v80 v80 e_v80
        refine pc_if (fun C3 => ?_) (fun C3 => ?_)
        · skip
          refine pc_rA ?_; intro p_v83 q_v83 v83 e_v83
          refine pc_if (fun C4 => ?_) (fun C4 => ?_)
          · skip
            unfold qj_X13_statement_467
            refine pc_rA ?_; intro p_v15 q_v15 v15 e_v15
            refine pc_if (fun C5 => ?_) (fun C5 => ?_)
            · skip
              unfold qj_X13_statement_487
              refine pc_sv pc_ad ?_; intro u7 A_u7
              obtain ⟨⟨a0_u7, a1_u7, a2_u7, a3_u7, a4_u7, a5_u7, a6_u7⟩, F_u7, O_u7, C_u7⟩ := A_u7
              have w_u7 : wt 6 = 2 := by decide
              have F6 : Fr h u7.2 n0 := fr_tr F0 F_u7 (by omega)
              refine pc_add (by omega) ?_; intro v9 e_v9
              refine pc_xl ?_; intro h10 E_h10
              obtain ⟨S_h10, c_h10, f_h10⟩ := sm_cur E_h10 (by omega)
              have z_h10 := S_h10.1
              have F7 : Fr h h10 n0 := fr_tr F6 (sm_fr (n := n0) S_h10) (by omega)
              have D8 := cc_sm S_h10
              have O9 : ON h10 u7.1 6 (-1) (-1) (-1) (-1) (h 160 23) 0 := on_sm S_h10 O_u7
              refine pc_sv pc_sign_ ?_; intro u12 P_u12
              have S_u12 := P_u12.1
              have z_u12 := S_u12.1; have c_u12 := S_u12.2.2.1
              have F10 : Fr h u12 n0 := fr_tr F7 (sm_fr (n := n0) S_u12) (by omega)
              have D11 := cc_sm S_u12
              have O12 : ON u12 u7.1 6 (-1) (-1) (-1) (-1) (h 160 23) 0 := on_sm S_u12 O9
              refine pc_ret ⟨F10, fun y => ?_⟩
              have y : u12 160 9 = 0 := y
              have A13 := P_u12.2 y
              show u7.1 = n0 ∧ u12 169 n0.toNat = h 160 23 ∧ (u12 167 n0.toNat = 2 → h 160 23 + 2 ≤ u12 160 23) ∧ u12 173 n0.toNat = -1 ∧ TE m u12 2 (2 * (40 - a1) + 1) n0 (u12 160 22) u7.1 ∧ CC u12 + h 160 23 ≤ CC h + u12 160 23
              have on0 := O12
              have en0 : u7.1 = n0 := by omega
              rw [en0] at on0
              refine ⟨en0, on0.2.2.2.2.2.1.trans (by omega), fun z => ?_, on0.2.2.2.2.1, ?_, by omega⟩
              · rw [on0.1] at z; omega
              · skip
                exact on_jump O12 (by omega) ⟨by omega, by omega, by omega, by omega⟩
            · skip
              unfold qj_X13_statement_487
              refine pc_sv pc_ad ?_; intro u7 A_u7
              obtain ⟨⟨a0_u7, a1_u7, a2_u7, a3_u7, a4_u7, a5_u7, a6_u7⟩, F_u7, O_u7, C_u7⟩ := A_u7
              have w_u7 : wt 5 = 2 := by decide
              have F14 : Fr h u7.2 n0 := fr_tr F0 F_u7 (by omega)
              refine pc_add (by omega) ?_; intro v9 e_v9
              refine pc_xl ?_; intro h10 E_h10
              obtain ⟨S_h10, c_h10, f_h10⟩ := sm_cur E_h10 (by omega)
              have z_h10 := S_h10.1
              have F15 : Fr h h10 n0 := fr_tr F14 (sm_fr (n := n0) S_h10) (by omega)
              have D16 := cc_sm S_h10
              have O17 : ON h10 u7.1 5 (-1) (-1) (-1) (-1) (h 160 23) 0 := on_sm S_h10 O_u7
              refine pc_sv pc_sign_ ?_; intro u12 P_u12
              have S_u12 := P_u12.1
              have z_u12 := S_u12.1; have c_u12 := S_u12.2.2.1
              have F18 : Fr h u12 n0 := fr_tr F15 (sm_fr (n := n0) S_u12) (by omega)
              have D19 := cc_sm S_u12
              have O20 : ON u12 u7.1 5 (-1) (-1) (-1) (-1) (h 160 23) 0 := on_sm S_u12 O17
              refine pc_ret ⟨F18, fun y => ?_⟩
              have y : u12 160 9 = 0 := y
              have A21 := P_u12.2 y
              show u7.1 = n0 ∧ u12 169 n0.toNat = h 160 23 ∧ (u12 167 n0.toNat = 2 → h 160 23 + 2 ≤ u12 160 23) ∧ u12 173 n0.toNat = -1 ∧ TE m u12 2 (2 * (40 - a1) + 1) n0 (u12 160 22) u7.1 ∧ CC u12 + h 160 23 ≤ CC h + u12 160 23
              have on0 := O20
              have en0 : u7.1 = n0 := by omega
              rw [en0] at on0
              refine ⟨en0, on0.2.2.2.2.2.1.trans (by omega), fun z => ?_, on0.2.2.2.2.1, ?_, by omega⟩
              · rw [on0.1] at z; omega
              · skip
                exact on_jump O20 (by omega) ⟨by omega, by omega, by omega, by omega⟩
          · skip
            refine pc_if (fun C22 => ?_) (fun C22 => ?_)
            · skip
              unfold qj_X13_statement_467
              refine pc_rA ?_; intro p_v15 q_v15 v15 e_v15
              refine pc_if (fun C23 => ?_) (fun C23 => ?_)
              · skip
                unfold qj_X13_statement_487
                refine pc_sv pc_ad ?_; intro u7 A_u7
                obtain ⟨⟨a0_u7, a1_u7, a2_u7, a3_u7, a4_u7, a5_u7, a6_u7⟩, F_u7, O_u7, C_u7⟩ := A_u7
                have w_u7 : wt 6 = 2 := by decide
                have F24 : Fr h u7.2 n0 := fr_tr F0 F_u7 (by omega)
                refine pc_add (by omega) ?_; intro v9 e_v9
                refine pc_xl ?_; intro h10 E_h10
                obtain ⟨S_h10, c_h10, f_h10⟩ := sm_cur E_h10 (by omega)
                have z_h10 := S_h10.1
                have F25 : Fr h h10 n0 := fr_tr F24 (sm_fr (n := n0) S_h10) (by omega)
                have D26 := cc_sm S_h10
                have O27 : ON h10 u7.1 6 (-1) (-1) (-1) (-1) (h 160 23) 0 := on_sm S_h10 O_u7
                refine pc_sv pc_sign_ ?_; intro u12 P_u12
                have S_u12 := P_u12.1
                have z_u12 := S_u12.1; have c_u12 := S_u12.2.2.1
                have F28 : Fr h u12 n0 := fr_tr F25 (sm_fr (n := n0) S_u12) (by omega)
                have D29 := cc_sm S_u12
                have O30 : ON u12 u7.1 6 (-1) (-1) (-1) (-1) (h 160 23) 0 := on_sm S_u12 O27
                refine pc_ret ⟨F28, fun y => ?_⟩
                have y : u12 160 9 = 0 := y
                have A31 := P_u12.2 y
                show u7.1 = n0 ∧ u12 169 n0.toNat = h 160 23 ∧ (u12 167 n0.toNat = 2 → h 160 23 + 2 ≤ u12 160 23) ∧ u12 173 n0.toNat = -1 ∧ TE m u12 2 (2 * (40 - a1) + 1) n0 (u12 160 22) u7.1 ∧ CC u12 + h 160 23 ≤ CC h + u12 160 23
                have on0 := O30
                have en0 : u7.1 = n0 := by omega
                rw [en0] at on0
                refine ⟨en0, on0.2.2.2.2.2.1.trans (by omega), fun z => ?_, on0.2.2.2.2.1, ?_, by omega⟩
                · rw [on0.1] at z; omega
                · skip
                  exact on_jump O30 (by omega) ⟨by omega, by omega, by omega, by omega⟩
              · skip
                unfold qj_X13_statement_487
                refine pc_sv pc_ad ?_; intro u7 A_u7
                obtain ⟨⟨a0_u7, a1_u7, a2_u7, a3_u7, a4_u7, a5_u7, a6_u7⟩, F_u7, O_u7, C_u7⟩ := A_u7
                have w_u7 : wt 5 = 2 := by decide
                have F32 : Fr h u7.2 n0 := fr_tr F0 F_u7 (by omega)
                refine pc_add (by omega) ?_; intro v9 e_v9
                refine pc_xl ?_; intro h10 E_h10
                obtain ⟨S_h10, c_h10, f_h10⟩ := sm_cur E_h10 (by omega)
                have z_h10 := S_h10.1
                have F33 : Fr h h10 n0 := fr_tr F32 (sm_fr (n := n0) S_h10) (by omega)
                have D34 := cc_sm S_h10
                have O35 : ON h10 u7.1 5 (-1) (-1) (-1) (-1) (h 160 23) 0 := on_sm S_h10 O_u7
                refine pc_sv pc_sign_ ?_; intro u12 P_u12
                have S_u12 := P_u12.1
                have z_u12 := S_u12.1; have c_u12 := S_u12.2.2.1
                have F36 : Fr h u12 n0 := fr_tr F33 (sm_fr (n := n0) S_u12) (by omega)
                have D37 := cc_sm S_u12
                have O38 : ON u12 u7.1 5 (-1) (-1) (-1) (-1) (h 160 23) 0 := on_sm S_u12 O35
                refine pc_ret ⟨F36, fun y => ?_⟩
                have y : u12 160 9 = 0 := y
                have A39 := P_u12.2 y
                show u7.1 = n0 ∧ u12 169 n0.toNat = h 160 23 ∧ (u12 167 n0.toNat = 2 → h 160 23 + 2 ≤ u12 160 23) ∧ u12 173 n0.toNat = -1 ∧ TE m u12 2 (2 * (40 - a1) + 1) n0 (u12 160 22) u7.1 ∧ CC u12 + h 160 23 ≤ CC h + u12 160 23
                have on0 := O38
                have en0 : u7.1 = n0 := by omega
                rw [en0] at on0
                refine ⟨en0, on0.2.2.2.2.2.1.trans (by omega), fun z => ?_, on0.2.2.2.2.1, ?_, by omega⟩
                · rw [on0.1] at z; omega
                · skip
                  exact on_jump O38 (by omega) ⟨by omega, by omega, by omega, by omega⟩
            · skip
              refine pc_if (fun C40 => ?_) (fun C40 => ?_)
              · skip
                refine pc_sv pc_ad ?_; intro u86 A_u86
                obtain ⟨⟨a0_u86, a1_u86, a2_u86, a3_u86, a4_u86, a5_u86, a6_u86⟩, F_u86, O_u86, C_u86⟩ := A_u86
                have w_u86 : wt 3 = 1 := by decide
                have F41 : Fr h u86.2 n0 := fr_tr F0 F_u86 (by omega)
                refine pc_add (by omega) ?_; intro v88 e_v88
                refine pc_xl ?_; intro h89 E_h89
                obtain ⟨S_h89, c_h89, f_h89⟩ := sm_cur E_h89 (by omega)
                have z_h89 := S_h89.1
                have F42 : Fr h h89 n0 := fr_tr F41 (sm_fr (n := n0) S_h89) (by omega)
                have D43 := cc_sm S_h89
                have O44 : ON h89 u86.1 3 (-1) (-1) (-1) (-1) (h 160 23) 0 := on_sm S_h89 O_u86
                refine pc_sv pc_sign_ ?_; intro u91 P_u91
                have S_u91 := P_u91.1
                have z_u91 := S_u91.1; have c_u91 := S_u91.2.2.1
                have F45 : Fr h u91 n0 := fr_tr F42 (sm_fr (n := n0) S_u91) (by omega)
                have D46 := cc_sm S_u91
                have O47 : ON u91 u86.1 3 (-1) (-1) (-1) (-1) (h 160 23) 0 := on_sm S_u91 O44
                refine pc_add (by omega) ?_; intro v93 e_v93
                subst e_v93
                refine pc_sv (ge_expression (nn := nn) (hmn.elim id) (a1 + 1) u91 (by omega) (by omega) (by omega)) ?_; intro u95 P_u95
                have F_u95 := P_u95.1; have z_u95 := F_u95.1.1; have c_u95 := F_u95.1.2.2
                have k_u95 := re_le (m := m) (d := 1) (d2 := (a1 + 1)) (by omega)
                have F48 : Fr h u95.2 n0 := fr_tr F45 F_u95 (by omega)
                have O49 : ON u95.2 u86.1 3 (-1) (-1) (-1) (-1) (h 160 23) 0 := on_F F_u95 (by omega) (by omega) O47
                have N50 : u95.2 160 9 = 0 → u91 160 23 = h89 160 23 + 1 ∧ h89 160 23 < 3002 := fun y => P_u91.2 (F_u95.1.2.1 y)
                refine pc_wA ?_; intro p_h96 q_h96 h96 E_h96
                obtain ⟨x_h96, y_h96, z_h96⟩ := w_nd E_h96 (by decide)
                have F51 : Fr h h96 n0 := fr_tr F48 (fr_w (n := n0) E_h96 (by decide) (by omega) (by omega) (gi_o E_h96 (by decide))) (by omega)
                have D52 := cc_wo E_h96 (by decide)
                have O53 : ON h96 u86.1 3 u95.1 (-1) (-1) (-1) (h 160 23) 0 := on_w0 E_h96 O49
                have N54 : h96 160 9 = 0 → u91 160 23 = h89 160 23 + 1 ∧ h89 160 23 < 3002 := fun y => N50 (by omega)
                have N55 : h96 160 9 = 0 → CC u95.2 + u91 160 23 ≤ CC u91 + u95.2 160 23 := fun y => (fun y => (P_u95.2 y).2) (by omega)
                have N56 : h96 160 9 = 0 → TE m h96 0 (RE m (a1 + 1)) (u91 160 22) (u95.2 160 22) u95.1 := fun y => te_w E_h96 (by omega) (by omega) (by omega) ((fun y => (P_u95.2 y).1) (by omega))
                refine pc_sv pc_sign_ ?_; intro u98 P_u98
                have S_u98 := P_u98.1
                have z_u98 := S_u98.1; have c_u98 := S_u98.2.2.1
                have F57 : Fr h u98 n0 := fr_tr F51 (sm_fr (n := n0) S_u98) (by omega)
                have D58 := cc_sm S_u98
                have O59 : ON u98 u86.1 3 u95.1 (-1) (-1) (-1) (h 160 23) 0 := on_sm S_u98 O53
                have N60 : u98 160 9 = 0 → u91 160 23 = h89 160 23 + 1 ∧ h89 160 23 < 3002 := fun y => N54 (S_u98.2.1 y)
                have N61 : u98 160 9 = 0 → CC u95.2 + u91 160 23 ≤ CC u91 + u95.2 160 23 := fun y => N55 (S_u98.2.1 y)
                have N62 : u98 160 9 = 0 → TE m u98 0 (RE m (a1 + 1)) (u91 160 22) (u95.2 160 22) u95.1 := fun y => te_sm S_u98 (by omega) (N56 (S_u98.2.1 y))
                unfold qj_X13_statement_310
                refine pc_add (by omega) ?_; intro v31 e_v31
                subst e_v31
                refine pc_sv (G.2 (a1 + 1) u98 (by omega) (by omega) (by omega)) ?_; intro u33 P_u33
                have F_u33 := P_u33.1; have z_u33 := F_u33.1.1; have c_u33 := F_u33.1.2.2
                have F63 : Fr h u33.2 n0 := fr_tr F57 F_u33 (by omega)
                have O64 : ON u33.2 u86.1 3 u95.1 (-1) (-1) (-1) (h 160 23) 0 := on_F F_u33 (by omega) (by omega) O59
                have N65 : u33.2 160 9 = 0 → u91 160 23 = h89 160 23 + 1 ∧ h89 160 23 < 3002 := fun y => N60 (F_u33.1.2.1 y)
                have N66 : u33.2 160 9 = 0 → CC u95.2 + u91 160 23 ≤ CC u91 + u95.2 160 23 := fun y => N61 (F_u33.1.2.1 y)
                have N67 : u33.2 160 9 = 0 → TE m u33.2 0 (RE m (a1 + 1)) (u91 160 22) (u95.2 160 22) u95.1 := fun y => te_F F_u33 (by omega) (by omega) (N62 (F_u33.1.2.1 y))
                have N68 : u33.2 160 9 = 0 → u98 160 23 = h96 160 23 + 1 ∧ h96 160 23 < 3002 := fun y => P_u98.2 (F_u33.1.2.1 y)
                refine pc_wA ?_; intro p_h34 q_h34 h34 E_h34
                obtain ⟨x_h34, y_h34, z_h34⟩ := w_nd E_h34 (by decide)
                have F69 : Fr h h34 n0 := fr_tr F63 (fr_w (n := n0) E_h34 (by decide) (by omega) (by omega) (gi_o E_h34 (by decide))) (by omega)
                have D70 := cc_wo E_h34 (by decide)
                have O71 : ON h34 u86.1 3 u95.1 u33.1 (-1) (-1) (h 160 23) 0 := on_w1 E_h34 O64
                have N72 : h34 160 9 = 0 → u91 160 23 = h89 160 23 + 1 ∧ h89 160 23 < 3002 := fun y => N65 (by omega)
                have N73 : h34 160 9 = 0 → CC u95.2 + u91 160 23 ≤ CC u91 + u95.2 160 23 := fun y => N66 (by omega)
                have N74 : h34 160 9 = 0 → TE m h34 0 (RE m (a1 + 1)) (u91 160 22) (u95.2 160 22) u95.1 := fun y => te_w E_h34 (by omega) (by omega) (by omega) (N67 (by omega))
                have N75 : h34 160 9 = 0 → u98 160 23 = h96 160 23 + 1 ∧ h96 160 23 < 3002 := fun y => N68 (by omega)
                have N76 : h34 160 9 = 0 → CC u33.2 + u98 160 23 ≤ CC u98 + u33.2 160 23 := fun y => (fun y => (P_u33.2 y).2.2.2.2.2) (by omega)
                have N77 : h34 160 9 = 0 → TB m h34 (2 * (40 - (a1 + 1)) + 1) u33.1 (u98 160 22) (u33.2 160 22) (u98 160 23) := fun y => tb_w E_h34 (by omega) (by omega) (by omega) ((cs_tb P_u33) (by omega))
                refine pc_if (fun C78 => ?_) (fun C78 => ?_)
                · skip
                  exact pc_ret ⟨F69, fun y => (C78 y).elim⟩
                · skip
                  refine pc_sv pc_isWord ?_; intro u38 b_u38
                  refine pc_if (fun C79 => ?_) (fun C79 => ?_)
                  · skip
                    refine pc_ret ⟨F69, fun y => ?_⟩
                    have y : h34 160 9 = 0 := y
                    have A80 := N72 y
                    have A81 := N73 y
                    have A82 := N75 y
                    have A83 := N76 y
                    have A84 := (N77 y).1
                    show u86.1 = n0 ∧ h34 169 n0.toNat = h 160 23 ∧ (h34 167 n0.toNat = 2 → h 160 23 + 2 ≤ h34 160 23) ∧ h34 173 n0.toNat = -1 ∧ TE m h34 2 (2 * (40 - a1) + 1) n0 (h34 160 22) u86.1 ∧ CC h34 + h 160 23 ≤ CC h + h34 160 23
                    have on0 := O71
                    have en0 : u86.1 = n0 := by omega
                    rw [en0] at on0
                    refine ⟨en0, on0.2.2.2.2.2.1.trans (by omega), fun z => ?_, on0.2.2.2.2.1, ?_, by omega⟩
                    · rw [on0.1] at z; omega
                    · skip
                      exact on_ch2 O71 (by omega) ⟨by omega, by omega, by omega, by omega⟩ (te_wd (N74 y) (by omega) (by omega) (by omega) (by omega)) (by have q := (tb_st (d := 2 * (40 - a1) + 1) (n := h34 160 22) (e := u86.1) (N77 y) (by omega) (by omega) (by omega) (by omega) (by rw [O71.2.2.2.2.2.1]; omega)); rw [O71.2.2.2.2.2.1] at q; exact q)
                  · skip
                    refine pc_add (by omega) ?_; intro v40 e_v40
                    refine pc_xl ?_; intro h41 E_h41
                    obtain ⟨S_h41, c_h41, f_h41⟩ := sm_cur E_h41 (by omega)
                    have z_h41 := S_h41.1
                    have F85 : Fr h h41 n0 := fr_tr F69 (sm_fr (n := n0) S_h41) (by omega)
                    have D86 := cc_sm S_h41
                    have O87 : ON h41 u86.1 3 u95.1 u33.1 (-1) (-1) (h 160 23) 0 := on_sm S_h41 O71
                    have N88 : h41 160 9 = 0 → u91 160 23 = h89 160 23 + 1 ∧ h89 160 23 < 3002 := fun y => N72 (S_h41.2.1 y)
                    have N89 : h41 160 9 = 0 → CC u95.2 + u91 160 23 ≤ CC u91 + u95.2 160 23 := fun y => N73 (S_h41.2.1 y)
                    have N90 : h41 160 9 = 0 → TE m h41 0 (RE m (a1 + 1)) (u91 160 22) (u95.2 160 22) u95.1 := fun y => te_sm S_h41 (by omega) (N74 (S_h41.2.1 y))
                    have N91 : h41 160 9 = 0 → u98 160 23 = h96 160 23 + 1 ∧ h96 160 23 < 3002 := fun y => N75 (S_h41.2.1 y)
                    have N92 : h41 160 9 = 0 → CC u33.2 + u98 160 23 ≤ CC u98 + u33.2 160 23 := fun y => N76 (S_h41.2.1 y)
                    have N93 : h41 160 9 = 0 → TB m h41 (2 * (40 - (a1 + 1)) + 1) u33.1 (u98 160 22) (u33.2 160 22) (u98 160 23) := fun y => tb_sm S_h41 (by omega) (N77 (S_h41.2.1 y))
                    refine pc_add (by omega) ?_; intro v43 e_v43
                    subst e_v43
                    refine pc_sv (G.2 (a1 + 1) h41 (by omega) (by omega) (by omega)) ?_; intro u45 P_u45
                    have F_u45 := P_u45.1; have z_u45 := F_u45.1.1; have c_u45 := F_u45.1.2.2
                    have F94 : Fr h u45.2 n0 := fr_tr F85 F_u45 (by omega)
                    have O95 : ON u45.2 u86.1 3 u95.1 u33.1 (-1) (-1) (h 160 23) 0 := on_F F_u45 (by omega) (by omega) O87
                    have N96 : u45.2 160 9 = 0 → u91 160 23 = h89 160 23 + 1 ∧ h89 160 23 < 3002 := fun y => N88 (F_u45.1.2.1 y)
                    have N97 : u45.2 160 9 = 0 → CC u95.2 + u91 160 23 ≤ CC u91 + u95.2 160 23 := fun y => N89 (F_u45.1.2.1 y)
                    have N98 : u45.2 160 9 = 0 → TE m u45.2 0 (RE m (a1 + 1)) (u91 160 22) (u95.2 160 22) u95.1 := fun y => te_F F_u45 (by omega) (by omega) (N90 (F_u45.1.2.1 y))
                    have N99 : u45.2 160 9 = 0 → u98 160 23 = h96 160 23 + 1 ∧ h96 160 23 < 3002 := fun y => N91 (F_u45.1.2.1 y)
                    have N100 : u45.2 160 9 = 0 → CC u33.2 + u98 160 23 ≤ CC u98 + u33.2 160 23 := fun y => N92 (F_u45.1.2.1 y)
                    have N101 : u45.2 160 9 = 0 → TB m u45.2 (2 * (40 - (a1 + 1)) + 1) u33.1 (u98 160 22) (u33.2 160 22) (u98 160 23) := fun y => tb_F F_u45 (by omega) (by omega) (N93 (F_u45.1.2.1 y))
                    refine pc_wA ?_; intro p_h46 q_h46 h46 E_h46
                    obtain ⟨x_h46, y_h46, z_h46⟩ := w_nd E_h46 (by decide)
                    have F102 : Fr h h46 n0 := fr_tr F94 (fr_w (n := n0) E_h46 (by decide) (by omega) (by omega) (gi_o E_h46 (by decide))) (by omega)
                    have D103 := cc_wo E_h46 (by decide)
                    have O104 : ON h46 u86.1 3 u95.1 u33.1 u45.1 (-1) (h 160 23) 0 := on_w2 E_h46 O95
                    have N105 : h46 160 9 = 0 → u91 160 23 = h89 160 23 + 1 ∧ h89 160 23 < 3002 := fun y => N96 (by omega)
                    have N106 : h46 160 9 = 0 → CC u95.2 + u91 160 23 ≤ CC u91 + u95.2 160 23 := fun y => N97 (by omega)
                    have N107 : h46 160 9 = 0 → TE m h46 0 (RE m (a1 + 1)) (u91 160 22) (u95.2 160 22) u95.1 := fun y => te_w E_h46 (by omega) (by omega) (by omega) (N98 (by omega))
                    have N108 : h46 160 9 = 0 → u98 160 23 = h96 160 23 + 1 ∧ h96 160 23 < 3002 := fun y => N99 (by omega)
                    have N109 : h46 160 9 = 0 → CC u33.2 + u98 160 23 ≤ CC u98 + u33.2 160 23 := fun y => N100 (by omega)
                    have N110 : h46 160 9 = 0 → TB m h46 (2 * (40 - (a1 + 1)) + 1) u33.1 (u98 160 22) (u33.2 160 22) (u98 160 23) := fun y => tb_w E_h46 (by omega) (by omega) (by omega) (N101 (by omega))
                    have N111 : h46 160 9 = 0 → CC u45.2 + h41 160 23 ≤ CC h41 + u45.2 160 23 := fun y => (fun y => (P_u45.2 y).2.2.2.2.2) (by omega)
                    have N112 : h46 160 9 = 0 → TB m h46 (2 * (40 - (a1 + 1)) + 1) u45.1 (h41 160 22) (u45.2 160 22) (h41 160 23) := fun y => tb_w E_h46 (by omega) (by omega) (by omega) ((cs_tb P_u45) (by omega))
                    refine pc_ret ⟨F102, fun y => ?_⟩
                    have y : h46 160 9 = 0 := y
                    have A113 := N105 y
                    have A114 := N106 y
                    have A115 := N108 y
                    have A116 := N109 y
                    have A117 := N111 y
                    have A118 := (N110 y).1
                    have A119 := (N112 y).1
                    show u86.1 = n0 ∧ h46 169 n0.toNat = h 160 23 ∧ (h46 167 n0.toNat = 2 → h 160 23 + 2 ≤ h46 160 23) ∧ h46 173 n0.toNat = -1 ∧ TE m h46 2 (2 * (40 - a1) + 1) n0 (h46 160 22) u86.1 ∧ CC h46 + h 160 23 ≤ CC h + h46 160 23
                    have on0 := O104
                    have en0 : u86.1 = n0 := by omega
                    rw [en0] at on0
                    refine ⟨en0, on0.2.2.2.2.2.1.trans (by omega), fun z => ?_, on0.2.2.2.2.1, ?_, by omega⟩
                    · rw [on0.1] at z; omega
                    · skip
                      exact on_ch3 O104 (by omega) ⟨by omega, by omega, by omega, by omega⟩ (te_wd (N107 y) (by omega) (by omega) (by omega) (by omega)) (by have q := (tb_st (d := 2 * (40 - a1) + 1) (n := u45.1) (e := u86.1) (N110 y) (by omega) (by omega) (by omega) (by omega) (by rw [O104.2.2.2.2.2.1]; omega)); rw [O104.2.2.2.2.2.1] at q; exact q) (by have q := (tb_st (d := 2 * (40 - a1) + 1) (n := h46 160 22) (e := u86.1) (N112 y) (by omega) (by omega) (by omega) (by omega) (by rw [O104.2.2.2.2.2.1]; omega)); rw [O104.2.2.2.2.2.1] at q; exact q)
              · skip
                refine pc_if (fun C120 => ?_) (fun C120 => ?_)
                · skip
                  refine pc_sv pc_ad ?_; intro u101 A_u101
                  obtain ⟨⟨a0_u101, a1_u101, a2_u101, a3_u101, a4_u101, a5_u101, a6_u101⟩, F_u101, O_u101, C_u101⟩ := A_u101
                  have w_u101 : wt 10 = 1 := by decide
                  have F121 : Fr h u101.2 n0 := fr_tr F0 F_u101 (by omega)
                  refine pc_add (by omega) ?_; intro v103 e_v103
                  refine pc_xl ?_; intro h104 E_h104
                  obtain ⟨S_h104, c_h104, f_h104⟩ := sm_cur E_h104 (by omega)
                  have z_h104 := S_h104.1
                  have F122 : Fr h h104 n0 := fr_tr F121 (sm_fr (n := n0) S_h104) (by omega)
                  have D123 := cc_sm S_h104
                  have O124 : ON h104 u101.1 10 (-1) (-1) (-1) (-1) (h 160 23) 0 := on_sm S_h104 O_u101
                  refine pc_sv pc_sign_ ?_; intro u106 P_u106
                  have S_u106 := P_u106.1
                  have z_u106 := S_u106.1; have c_u106 := S_u106.2.2.1
                  have F125 : Fr h u106 n0 := fr_tr F122 (sm_fr (n := n0) S_u106) (by omega)
                  have D126 := cc_sm S_u106
                  have O127 : ON u106 u101.1 10 (-1) (-1) (-1) (-1) (h 160 23) 0 := on_sm S_u106 O124
                  refine pc_add (by omega) ?_; intro v108 e_v108
                  subst e_v108
                  refine pc_sv (ge_expression (nn := nn) (hmn.elim id) (a1 + 1) u106 (by omega) (by omega) (by omega)) ?_; intro u110 P_u110
                  have F_u110 := P_u110.1; have z_u110 := F_u110.1.1; have c_u110 := F_u110.1.2.2
                  have k_u110 := re_le (m := m) (d := 1) (d2 := (a1 + 1)) (by omega)
                  have F128 : Fr h u110.2 n0 := fr_tr F125 F_u110 (by omega)
                  have O129 : ON u110.2 u101.1 10 (-1) (-1) (-1) (-1) (h 160 23) 0 := on_F F_u110 (by omega) (by omega) O127
                  have N130 : u110.2 160 9 = 0 → u106 160 23 = h104 160 23 + 1 ∧ h104 160 23 < 3002 := fun y => P_u106.2 (F_u110.1.2.1 y)
                  refine pc_wA ?_; intro p_h111 q_h111 h111 E_h111
                  obtain ⟨x_h111, y_h111, z_h111⟩ := w_nd E_h111 (by decide)
                  have F131 : Fr h h111 n0 := fr_tr F128 (fr_w (n := n0) E_h111 (by decide) (by omega) (by omega) (gi_o E_h111 (by decide))) (by omega)
                  have D132 := cc_wo E_h111 (by decide)
                  have O133 : ON h111 u101.1 10 u110.1 (-1) (-1) (-1) (h 160 23) 0 := on_w0 E_h111 O129
                  have N134 : h111 160 9 = 0 → u106 160 23 = h104 160 23 + 1 ∧ h104 160 23 < 3002 := fun y => N130 (by omega)
                  have N135 : h111 160 9 = 0 → CC u110.2 + u106 160 23 ≤ CC u106 + u110.2 160 23 := fun y => (fun y => (P_u110.2 y).2) (by omega)
                  have N136 : h111 160 9 = 0 → TE m h111 0 (RE m (a1 + 1)) (u106 160 22) (u110.2 160 22) u110.1 := fun y => te_w E_h111 (by omega) (by omega) (by omega) ((fun y => (P_u110.2 y).1) (by omega))
                  refine pc_sv pc_sign_ ?_; intro u113 P_u113
                  have S_u113 := P_u113.1
                  have z_u113 := S_u113.1; have c_u113 := S_u113.2.2.1
                  have F137 : Fr h u113 n0 := fr_tr F131 (sm_fr (n := n0) S_u113) (by omega)
                  have D138 := cc_sm S_u113
                  have O139 : ON u113 u101.1 10 u110.1 (-1) (-1) (-1) (h 160 23) 0 := on_sm S_u113 O133
                  have N140 : u113 160 9 = 0 → u106 160 23 = h104 160 23 + 1 ∧ h104 160 23 < 3002 := fun y => N134 (S_u113.2.1 y)
                  have N141 : u113 160 9 = 0 → CC u110.2 + u106 160 23 ≤ CC u106 + u110.2 160 23 := fun y => N135 (S_u113.2.1 y)
                  have N142 : u113 160 9 = 0 → TE m u113 0 (RE m (a1 + 1)) (u106 160 22) (u110.2 160 22) u110.1 := fun y => te_sm S_u113 (by omega) (N136 (S_u113.2.1 y))
                  refine pc_sv pc_sign_ ?_; intro u115 P_u115
                  have S_u115 := P_u115.1
                  have z_u115 := S_u115.1; have c_u115 := S_u115.2.2.1
                  have F143 : Fr h u115 n0 := fr_tr F137 (sm_fr (n := n0) S_u115) (by omega)
                  have D144 := cc_sm S_u115
                  have O145 : ON u115 u101.1 10 u110.1 (-1) (-1) (-1) (h 160 23) 0 := on_sm S_u115 O139
                  have N146 : u115 160 9 = 0 → u106 160 23 = h104 160 23 + 1 ∧ h104 160 23 < 3002 := fun y => N140 (S_u115.2.1 y)
                  have N147 : u115 160 9 = 0 → CC u110.2 + u106 160 23 ≤ CC u106 + u110.2 160 23 := fun y => N141 (S_u115.2.1 y)
                  have N148 : u115 160 9 = 0 → TE m u115 0 (RE m (a1 + 1)) (u106 160 22) (u110.2 160 22) u110.1 := fun y => te_sm S_u115 (by omega) (N142 (S_u115.2.1 y))
                  have N149 : u115 160 9 = 0 → u113 160 23 = h111 160 23 + 1 ∧ h111 160 23 < 3002 := fun y => P_u113.2 (S_u115.2.1 y)
                  refine pc_ret ⟨F143, fun y => ?_⟩
                  have y : u115 160 9 = 0 := y
                  have A150 := N146 y
                  have A151 := N147 y
                  have A152 := N149 y
                  have A153 := P_u115.2 y
                  show u101.1 = n0 ∧ u115 169 n0.toNat = h 160 23 ∧ (u115 167 n0.toNat = 2 → h 160 23 + 2 ≤ u115 160 23) ∧ u115 173 n0.toNat = -1 ∧ TE m u115 2 (2 * (40 - a1) + 1) n0 (u115 160 22) u101.1 ∧ CC u115 + h 160 23 ≤ CC h + u115 160 23
                  have on0 := O145
                  have en0 : u101.1 = n0 := by omega
                  rw [en0] at on0
                  refine ⟨en0, on0.2.2.2.2.2.1.trans (by omega), fun z => ?_, on0.2.2.2.2.1, ?_, by omega⟩
                  · rw [on0.1] at z; omega
                  · skip
                    exact on_one O145 (by omega) ⟨by omega, by omega, by omega, by omega⟩ (te_wd (N148 y) (by omega) (by omega) (by omega) (by omega))
                · skip
                  refine pc_if (fun C154 => ?_) (fun C154 => ?_)
                  · skip
                    refine pc_sv pc_ad ?_; intro u118 A_u118
                    obtain ⟨⟨a0_u118, a1_u118, a2_u118, a3_u118, a4_u118, a5_u118, a6_u118⟩, F_u118, O_u118, C_u118⟩ := A_u118
                    have w_u118 : wt 7 = 1 := by decide
                    have F155 : Fr h u118.2 n0 := fr_tr F0 F_u118 (by omega)
                    refine pc_add (by omega) ?_; intro v120 e_v120
                    refine pc_xl ?_; intro h121 E_h121
                    obtain ⟨S_h121, c_h121, f_h121⟩ := sm_cur E_h121 (by omega)
                    have z_h121 := S_h121.1
                    have F156 : Fr h h121 n0 := fr_tr F155 (sm_fr (n := n0) S_h121) (by omega)
                    have D157 := cc_sm S_h121
                    have O158 : ON h121 u118.1 7 (-1) (-1) (-1) (-1) (h 160 23) 0 := on_sm S_h121 O_u118
                    refine pc_sv pc_isSign ?_; intro u124 b_u124
                    refine pc_if (fun C159 => ?_) (fun C159 => ?_)
                    · skip
                      unfold qj_X13_statement_562
                      refine pc_sv pc_sign_ ?_; intro u4 P_u4
                      have S_u4 := P_u4.1
                      have z_u4 := S_u4.1; have c_u4 := S_u4.2.2.1
                      have F160 : Fr h u4 n0 := fr_tr F156 (sm_fr (n := n0) S_u4) (by omega)
                      have D161 := cc_sm S_u4
                      have O162 : ON u4 u118.1 7 (-1) (-1) (-1) (-1) (h 160 23) 0 := on_sm S_u4 O158
                      refine pc_ret ⟨F160, fun y => ?_⟩
                      have y : u4 160 9 = 0 := y
                      have A163 := P_u4.2 y
                      show u118.1 = n0 ∧ u4 169 n0.toNat = h 160 23 ∧ (u4 167 n0.toNat = 2 → h 160 23 + 2 ≤ u4 160 23) ∧ u4 173 n0.toNat = -1 ∧ TE m u4 2 (2 * (40 - a1) + 1) n0 (u4 160 22) u118.1 ∧ CC u4 + h 160 23 ≤ CC h + u4 160 23
                      have on0 := O162
                      have en0 : u118.1 = n0 := by omega
                      rw [en0] at on0
                      refine ⟨en0, on0.2.2.2.2.2.1.trans (by omega), fun z => ?_, on0.2.2.2.2.1, ?_, by omega⟩
                      · rw [on0.1] at z; omega
                      · skip
                        exact on_giv0 O162 (by omega) ⟨by omega, by omega, by omega, by omega⟩
                    · skip
                      refine pc_add (by omega) ?_; intro v126 e_v126
                      subst e_v126
                      refine pc_sv (ge_expression (nn := nn) (hmn.elim id) (a1 + 1) h121 (by omega) (by omega) (by omega)) ?_; intro u128 P_u128
                      have F_u128 := P_u128.1; have z_u128 := F_u128.1.1; have c_u128 := F_u128.1.2.2
                      have k_u128 := re_le (m := m) (d := 1) (d2 := (a1 + 1)) (by omega)
                      have F164 : Fr h u128.2 n0 := fr_tr F156 F_u128 (by omega)
                      have O165 : ON u128.2 u118.1 7 (-1) (-1) (-1) (-1) (h 160 23) 0 := on_F F_u128 (by omega) (by omega) O158
                      refine pc_wA ?_; intro p_h129 q_h129 h129 E_h129
                      obtain ⟨x_h129, y_h129, z_h129⟩ := w_nd E_h129 (by decide)
                      have F166 : Fr h h129 n0 := fr_tr F164 (fr_w (n := n0) E_h129 (by decide) (by omega) (by omega) (gi_o E_h129 (by decide))) (by omega)
                      have D167 := cc_wo E_h129 (by decide)
                      have O168 : ON h129 u118.1 7 u128.1 (-1) (-1) (-1) (h 160 23) 0 := on_w0 E_h129 O165
                      have N169 : h129 160 9 = 0 → CC u128.2 + h121 160 23 ≤ CC h121 + u128.2 160 23 := fun y => (fun y => (P_u128.2 y).2) (by omega)
                      have N170 : h129 160 9 = 0 → TE m h129 0 (RE m (a1 + 1)) (h121 160 22) (u128.2 160 22) u128.1 := fun y => te_w E_h129 (by omega) (by omega) (by omega) ((fun y => (P_u128.2 y).1) (by omega))
                      unfold qj_X13_statement_562
                      refine pc_sv pc_sign_ ?_; intro u4 P_u4
                      have S_u4 := P_u4.1
                      have z_u4 := S_u4.1; have c_u4 := S_u4.2.2.1
                      have F171 : Fr h u4 n0 := fr_tr F166 (sm_fr (n := n0) S_u4) (by omega)
                      have D172 := cc_sm S_u4
                      have O173 : ON u4 u118.1 7 u128.1 (-1) (-1) (-1) (h 160 23) 0 := on_sm S_u4 O168
                      have N174 : u4 160 9 = 0 → CC u128.2 + h121 160 23 ≤ CC h121 + u128.2 160 23 := fun y => N169 (S_u4.2.1 y)
                      have N175 : u4 160 9 = 0 → TE m u4 0 (RE m (a1 + 1)) (h121 160 22) (u128.2 160 22) u128.1 := fun y => te_sm S_u4 (by omega) (N170 (S_u4.2.1 y))
                      refine pc_ret ⟨F171, fun y => ?_⟩
                      have y : u4 160 9 = 0 := y
                      have A176 := N174 y
                      have A177 := P_u4.2 y
                      show u118.1 = n0 ∧ u4 169 n0.toNat = h 160 23 ∧ (u4 167 n0.toNat = 2 → h 160 23 + 2 ≤ u4 160 23) ∧ u4 173 n0.toNat = -1 ∧ TE m u4 2 (2 * (40 - a1) + 1) n0 (u4 160 22) u118.1 ∧ CC u4 + h 160 23 ≤ CC h + u4 160 23
                      have on0 := O173
                      have en0 : u118.1 = n0 := by omega
                      rw [en0] at on0
                      refine ⟨en0, on0.2.2.2.2.2.1.trans (by omega), fun z => ?_, on0.2.2.2.2.1, ?_, by omega⟩
                      · rw [on0.1] at z; omega
                      · skip
                        exact on_giv1 O173 (by omega) ⟨by omega, by omega, by omega, by omega⟩ (te_wd (N175 y) (by omega) (by omega) (by omega) (by omega))
                  · skip
                    refine pc_if (fun C178 => ?_) (fun C178 => ?_)
                    · skip
                      refine pc_sv pc_ad ?_; intro u133 A_u133
                      obtain ⟨⟨a0_u133, a1_u133, a2_u133, a3_u133, a4_u133, a5_u133, a6_u133⟩, F_u133, O_u133, C_u133⟩ := A_u133
                      have w_u133 : wt 8 = 1 := by decide
                      have F179 : Fr h u133.2 n0 := fr_tr F0 F_u133 (by omega)
                      refine pc_add (by omega) ?_; intro v135 e_v135
                      refine pc_xl ?_; intro h136 E_h136
                      obtain ⟨S_h136, c_h136, f_h136⟩ := sm_cur E_h136 (by omega)
                      have z_h136 := S_h136.1
                      have F180 : Fr h h136 n0 := fr_tr F179 (sm_fr (n := n0) S_h136) (by omega)
                      have D181 := cc_sm S_h136
                      have O182 : ON h136 u133.1 8 (-1) (-1) (-1) (-1) (h 160 23) 0 := on_sm S_h136 O_u133
                      refine pc_add (by omega) ?_; intro v138 e_v138
                      subst e_v138
                      refine pc_sv (ge_expression (nn := nn) (hmn.elim id) (a1 + 1) h136 (by omega) (by omega) (by omega)) ?_; intro u140 P_u140
                      have F_u140 := P_u140.1; have z_u140 := F_u140.1.1; have c_u140 := F_u140.1.2.2
                      have k_u140 := re_le (m := m) (d := 1) (d2 := (a1 + 1)) (by omega)
                      have F183 : Fr h u140.2 n0 := fr_tr F180 F_u140 (by omega)
                      have O184 : ON u140.2 u133.1 8 (-1) (-1) (-1) (-1) (h 160 23) 0 := on_F F_u140 (by omega) (by omega) O182
                      refine pc_wA ?_; intro p_h141 q_h141 h141 E_h141
                      obtain ⟨x_h141, y_h141, z_h141⟩ := w_nd E_h141 (by decide)
                      have F185 : Fr h h141 n0 := fr_tr F183 (fr_w (n := n0) E_h141 (by decide) (by omega) (by omega) (gi_o E_h141 (by decide))) (by omega)
                      have D186 := cc_wo E_h141 (by decide)
                      have O187 : ON h141 u133.1 8 u140.1 (-1) (-1) (-1) (h 160 23) 0 := on_w0 E_h141 O184
                      have N188 : h141 160 9 = 0 → CC u140.2 + h136 160 23 ≤ CC h136 + u140.2 160 23 := fun y => (fun y => (P_u140.2 y).2) (by omega)
                      have N189 : h141 160 9 = 0 → TE m h141 0 (RE m (a1 + 1)) (h136 160 22) (u140.2 160 22) u140.1 := fun y => te_w E_h141 (by omega) (by omega) (by omega) ((fun y => (P_u140.2 y).1) (by omega))
                      refine pc_sv pc_sign_ ?_; intro u143 P_u143
                      have S_u143 := P_u143.1
                      have z_u143 := S_u143.1; have c_u143 := S_u143.2.2.1
                      have F190 : Fr h u143 n0 := fr_tr F185 (sm_fr (n := n0) S_u143) (by omega)
                      have D191 := cc_sm S_u143
                      have O192 : ON u143 u133.1 8 u140.1 (-1) (-1) (-1) (h 160 23) 0 := on_sm S_u143 O187
                      have N193 : u143 160 9 = 0 → CC u140.2 + h136 160 23 ≤ CC h136 + u140.2 160 23 := fun y => N188 (S_u143.2.1 y)
                      have N194 : u143 160 9 = 0 → TE m u143 0 (RE m (a1 + 1)) (h136 160 22) (u140.2 160 22) u140.1 := fun y => te_sm S_u143 (by omega) (N189 (S_u143.2.1 y))
                      refine pc_ret ⟨F190, fun y => ?_⟩
                      have y : u143 160 9 = 0 := y
                      have A195 := N193 y
                      have A196 := P_u143.2 y
                      show u133.1 = n0 ∧ u143 169 n0.toNat = h 160 23 ∧ (u143 167 n0.toNat = 2 → h 160 23 + 2 ≤ u143 160 23) ∧ u143 173 n0.toNat = -1 ∧ TE m u143 2 (2 * (40 - a1) + 1) n0 (u143 160 22) u133.1 ∧ CC u143 + h 160 23 ≤ CC h + u143 160 23
                      have on0 := O192
                      have en0 : u133.1 = n0 := by omega
                      rw [en0] at on0
                      refine ⟨en0, on0.2.2.2.2.2.1.trans (by omega), fun z => ?_, on0.2.2.2.2.1, ?_, by omega⟩
                      · rw [on0.1] at z; omega
                      · skip
                        exact on_one O192 (by omega) ⟨by omega, by omega, by omega, by omega⟩ (te_wd (N194 y) (by omega) (by omega) (by omega) (by omega))
                    · skip
                      refine pc_if (fun C197 => ?_) (fun C197 => ?_)
                      · skip
                        refine pc_sv pc_ad ?_; intro u146 A_u146
                        obtain ⟨⟨a0_u146, a1_u146, a2_u146, a3_u146, a4_u146, a5_u146, a6_u146⟩, F_u146, O_u146, C_u146⟩ := A_u146
                        have w_u146 : wt 9 = 4 := by decide
                        have F198 : Fr h u146.2 n0 := fr_tr F0 F_u146 (by omega)
                        refine pc_add (by omega) ?_; intro v148 e_v148
                        refine pc_xl ?_; intro h149 E_h149
                        obtain ⟨S_h149, c_h149, f_h149⟩ := sm_cur E_h149 (by omega)
                        have z_h149 := S_h149.1
                        have F199 : Fr h h149 n0 := fr_tr F198 (sm_fr (n := n0) S_h149) (by omega)
                        have D200 := cc_sm S_h149
                        have O201 : ON h149 u146.1 9 (-1) (-1) (-1) (-1) (h 160 23) 0 := on_sm S_h149 O_u146
                        refine pc_add (by omega) ?_; intro v151 e_v151
                        subst e_v151
                        refine pc_sv (G.1 (a1 + 1) h149 (by omega) (by omega) (by omega)) ?_; intro u153 P_u153
                        have F_u153 := P_u153.1; have z_u153 := F_u153.1.1; have c_u153 := F_u153.1.2.2
                        have F202 : Fr h u153.2 n0 := fr_tr F199 F_u153 (by omega)
                        have O203 : ON u153.2 u146.1 9 (-1) (-1) (-1) (-1) (h 160 23) 0 := on_F F_u153 (by omega) (by omega) O201
                        refine pc_wA ?_; intro p_h154 q_h154 h154 E_h154
                        obtain ⟨x_h154, y_h154, z_h154⟩ := w_nd E_h154 (by decide)
                        have F204 : Fr h h154 n0 := fr_tr F202 (fr_w (n := n0) E_h154 (by decide) (by omega) (by omega) (gi_o E_h154 (by decide))) (by omega)
                        have D205 := cc_wo E_h154 (by decide)
                        have O206 : ON h154 u146.1 9 u153.1 (-1) (-1) (-1) (h 160 23) 0 := on_w0 E_h154 O203
                        have N207 : h154 160 9 = 0 → CC u153.2 + h149 160 23 ≤ CC h149 + u153.2 160 23 := fun y => (fun y => (P_u153.2 y).2.2.2.2.2) (by omega)
                        have N208 : h154 160 9 = 0 → TB m h154 (2 * (40 - (a1 + 1)) + 2) u153.1 (h149 160 22) (u153.2 160 22) (h149 160 23) := fun y => tb_w E_h154 (by omega) (by omega) (by omega) ((cs_tb P_u153) (by omega))
                        refine pc_sv pc_word ?_; intro u156 P_u156
                        have S_u156 := P_u156.1
                        have z_u156 := S_u156.1; have c_u156 := S_u156.2.2.1
                        have F209 : Fr h u156 n0 := fr_tr F204 (sm_fr (n := n0) S_u156) (by omega)
                        have D210 := cc_sm S_u156
                        have O211 : ON u156 u146.1 9 u153.1 (-1) (-1) (-1) (h 160 23) 0 := on_sm S_u156 O206
                        have N212 : u156 160 9 = 0 → CC u153.2 + h149 160 23 ≤ CC h149 + u153.2 160 23 := fun y => N207 (S_u156.2.1 y)
                        have N213 : u156 160 9 = 0 → TB m u156 (2 * (40 - (a1 + 1)) + 2) u153.1 (h149 160 22) (u153.2 160 22) (h149 160 23) := fun y => tb_sm S_u156 (by omega) (N208 (S_u156.2.1 y))
                        refine pc_sv pc_sign_ ?_; intro u158 P_u158
                        have S_u158 := P_u158.1
                        have z_u158 := S_u158.1; have c_u158 := S_u158.2.2.1
                        have F214 : Fr h u158 n0 := fr_tr F209 (sm_fr (n := n0) S_u158) (by omega)
                        have D215 := cc_sm S_u158
                        have O216 : ON u158 u146.1 9 u153.1 (-1) (-1) (-1) (h 160 23) 0 := on_sm S_u158 O211
                        have N217 : u158 160 9 = 0 → CC u153.2 + h149 160 23 ≤ CC h149 + u153.2 160 23 := fun y => N212 (S_u158.2.1 y)
                        have N218 : u158 160 9 = 0 → TB m u158 (2 * (40 - (a1 + 1)) + 2) u153.1 (h149 160 22) (u153.2 160 22) (h149 160 23) := fun y => tb_sm S_u158 (by omega) (N213 (S_u158.2.1 y))
                        have N219 : u158 160 9 = 0 → u156 160 23 = h154 160 23 + 1 ∧ h154 160 23 < 3002 := fun y => P_u156.2 (S_u158.2.1 y)
                        refine pc_sv pc_name ?_; intro u161 P_u161
                        have S_u161 := P_u161.1
                        have z_u161 := S_u161.1; have c_u161 := S_u161.2.2.1
                        have n_u161 := P_u161.2.1
                        have F220 : Fr h u161.2 n0 := fr_tr F214 (sm_fr (n := n0) S_u161) (by omega)
                        have D221 := cc_sm S_u161
                        have O222 : ON u161.2 u146.1 9 u153.1 (-1) (-1) (-1) (h 160 23) 0 := on_sm S_u161 O216
                        have N223 : u161.2 160 9 = 0 → CC u153.2 + h149 160 23 ≤ CC h149 + u153.2 160 23 := fun y => N217 (S_u161.2.1 y)
                        have N224 : u161.2 160 9 = 0 → TB m u161.2 (2 * (40 - (a1 + 1)) + 2) u153.1 (h149 160 22) (u153.2 160 22) (h149 160 23) := fun y => tb_sm S_u161 (by omega) (N218 (S_u161.2.1 y))
                        have N225 : u161.2 160 9 = 0 → u156 160 23 = h154 160 23 + 1 ∧ h154 160 23 < 3002 := fun y => N219 (S_u161.2.1 y)
                        have N226 : u161.2 160 9 = 0 → u158 160 23 = u156 160 23 + 1 ∧ u156 160 23 < 3002 := fun y => P_u158.2 (S_u161.2.1 y)
                        refine pc_wA ?_; intro p_h162 q_h162 h162 E_h162
                        obtain ⟨x_h162, y_h162, z_h162⟩ := w_nd E_h162 (by decide)
                        have F227 : Fr h h162 n0 := fr_tr F220 (fr_w (n := n0) E_h162 (by decide) (by omega) (by omega) (gi_o E_h162 (by decide))) (by omega)
                        have D228 := cc_wo E_h162 (by decide)
                        have O229 : ON h162 u146.1 9 u153.1 (-1) (-1) (-1) (h 160 23) 0 := on_wo E_h162 (by decide) O222
                        have N230 : h162 160 9 = 0 → CC u153.2 + h149 160 23 ≤ CC h149 + u153.2 160 23 := fun y => N223 (by omega)
                        have N231 : h162 160 9 = 0 → TB m h162 (2 * (40 - (a1 + 1)) + 2) u153.1 (h149 160 22) (u153.2 160 22) (h149 160 23) := fun y => tb_w E_h162 (by omega) (by omega) (by omega) (N224 (by omega))
                        have N232 : h162 160 9 = 0 → u156 160 23 = h154 160 23 + 1 ∧ h154 160 23 < 3002 := fun y => N225 (by omega)
                        have N233 : h162 160 9 = 0 → u158 160 23 = u156 160 23 + 1 ∧ u156 160 23 < 3002 := fun y => N226 (by omega)
                        have N234 : h162 160 9 = 0 → u161.2 160 23 = u158 160 23 + 1 ∧ u161.1 = u158 160 23 := fun y => P_u161.2.2 (by omega)
                        refine pc_sv pc_name ?_; intro u165 P_u165
                        have S_u165 := P_u165.1
                        have z_u165 := S_u165.1; have c_u165 := S_u165.2.2.1
                        have n_u165 := P_u165.2.1
                        have F235 : Fr h u165.2 n0 := fr_tr F227 (sm_fr (n := n0) S_u165) (by omega)
                        have D236 := cc_sm S_u165
                        have O237 : ON u165.2 u146.1 9 u153.1 (-1) (-1) (-1) (h 160 23) 0 := on_sm S_u165 O229
                        have N238 : u165.2 160 9 = 0 → CC u153.2 + h149 160 23 ≤ CC h149 + u153.2 160 23 := fun y => N230 (S_u165.2.1 y)
                        have N239 : u165.2 160 9 = 0 → TB m u165.2 (2 * (40 - (a1 + 1)) + 2) u153.1 (h149 160 22) (u153.2 160 22) (h149 160 23) := fun y => tb_sm S_u165 (by omega) (N231 (S_u165.2.1 y))
                        have N240 : u165.2 160 9 = 0 → u156 160 23 = h154 160 23 + 1 ∧ h154 160 23 < 3002 := fun y => N232 (S_u165.2.1 y)
                        have N241 : u165.2 160 9 = 0 → u158 160 23 = u156 160 23 + 1 ∧ u156 160 23 < 3002 := fun y => N233 (S_u165.2.1 y)
                        have N242 : u165.2 160 9 = 0 → u161.2 160 23 = u158 160 23 + 1 ∧ u161.1 = u158 160 23 := fun y => N234 (S_u165.2.1 y)
                        refine pc_wA ?_; intro p_h166 q_h166 h166 E_h166
                        obtain ⟨x_h166, y_h166, z_h166⟩ := w_nd E_h166 (by decide)
                        have F243 : Fr h h166 n0 := fr_tr F235 (fr_w (n := n0) E_h166 (by decide) (by omega) (by omega) (gi_6 E_h166 (by omega) (by rw [O237.1]; omega))) (by omega)
                        have D244 := cc_wo E_h166 (by decide)
                        have O245 : ON h166 u146.1 9 u153.1 (-1) (-1) (-1) (h 160 23) u165.1 := on_ws E_h166 O237
                        have N246 : h166 160 9 = 0 → CC u153.2 + h149 160 23 ≤ CC h149 + u153.2 160 23 := fun y => N238 (by omega)
                        have N247 : h166 160 9 = 0 → TB m h166 (2 * (40 - (a1 + 1)) + 2) u153.1 (h149 160 22) (u153.2 160 22) (h149 160 23) := fun y => tb_w E_h166 (by omega) (by omega) (by omega) (N239 (by omega))
                        have N248 : h166 160 9 = 0 → u156 160 23 = h154 160 23 + 1 ∧ h154 160 23 < 3002 := fun y => N240 (by omega)
                        have N249 : h166 160 9 = 0 → u158 160 23 = u156 160 23 + 1 ∧ u156 160 23 < 3002 := fun y => N241 (by omega)
                        have N250 : h166 160 9 = 0 → u161.2 160 23 = u158 160 23 + 1 ∧ u161.1 = u158 160 23 := fun y => N242 (by omega)
                        have N251 : h166 160 9 = 0 → u165.2 160 23 = h162 160 23 + 1 ∧ u165.1 = h162 160 23 := fun y => P_u165.2.2 (by omega)
                        refine pc_sv pc_sign_ ?_; intro u168 P_u168
                        have S_u168 := P_u168.1
                        have z_u168 := S_u168.1; have c_u168 := S_u168.2.2.1
                        have F252 : Fr h u168 n0 := fr_tr F243 (sm_fr (n := n0) S_u168) (by omega)
                        have D253 := cc_sm S_u168
                        have O254 : ON u168 u146.1 9 u153.1 (-1) (-1) (-1) (h 160 23) u165.1 := on_sm S_u168 O245
                        have N255 : u168 160 9 = 0 → CC u153.2 + h149 160 23 ≤ CC h149 + u153.2 160 23 := fun y => N246 (S_u168.2.1 y)
                        have N256 : u168 160 9 = 0 → TB m u168 (2 * (40 - (a1 + 1)) + 2) u153.1 (h149 160 22) (u153.2 160 22) (h149 160 23) := fun y => tb_sm S_u168 (by omega) (N247 (S_u168.2.1 y))
                        have N257 : u168 160 9 = 0 → u156 160 23 = h154 160 23 + 1 ∧ h154 160 23 < 3002 := fun y => N248 (S_u168.2.1 y)
                        have N258 : u168 160 9 = 0 → u158 160 23 = u156 160 23 + 1 ∧ u156 160 23 < 3002 := fun y => N249 (S_u168.2.1 y)
                        have N259 : u168 160 9 = 0 → u161.2 160 23 = u158 160 23 + 1 ∧ u161.1 = u158 160 23 := fun y => N250 (S_u168.2.1 y)
                        have N260 : u168 160 9 = 0 → u165.2 160 23 = h162 160 23 + 1 ∧ u165.1 = h162 160 23 := fun y => N251 (S_u168.2.1 y)
                        refine pc_add (by omega) ?_; intro v170 e_v170
                        subst e_v170
                        refine pc_sv (G.1 (a1 + 1) u168 (by omega) (by omega) (by omega)) ?_; intro u172 P_u172
                        have F_u172 := P_u172.1; have z_u172 := F_u172.1.1; have c_u172 := F_u172.1.2.2
                        have F261 : Fr h u172.2 n0 := fr_tr F252 F_u172 (by omega)
                        have O262 : ON u172.2 u146.1 9 u153.1 (-1) (-1) (-1) (h 160 23) u165.1 := on_F F_u172 (by omega) (by omega) O254
                        have N263 : u172.2 160 9 = 0 → CC u153.2 + h149 160 23 ≤ CC h149 + u153.2 160 23 := fun y => N255 (F_u172.1.2.1 y)
                        have N264 : u172.2 160 9 = 0 → TB m u172.2 (2 * (40 - (a1 + 1)) + 2) u153.1 (h149 160 22) (u153.2 160 22) (h149 160 23) := fun y => tb_F F_u172 (by omega) (by omega) (N256 (F_u172.1.2.1 y))
                        have N265 : u172.2 160 9 = 0 → u156 160 23 = h154 160 23 + 1 ∧ h154 160 23 < 3002 := fun y => N257 (F_u172.1.2.1 y)
                        have N266 : u172.2 160 9 = 0 → u158 160 23 = u156 160 23 + 1 ∧ u156 160 23 < 3002 := fun y => N258 (F_u172.1.2.1 y)
                        have N267 : u172.2 160 9 = 0 → u161.2 160 23 = u158 160 23 + 1 ∧ u161.1 = u158 160 23 := fun y => N259 (F_u172.1.2.1 y)
                        have N268 : u172.2 160 9 = 0 → u165.2 160 23 = h162 160 23 + 1 ∧ u165.1 = h162 160 23 := fun y => N260 (F_u172.1.2.1 y)
                        have N269 : u172.2 160 9 = 0 → u168 160 23 = h166 160 23 + 1 ∧ h166 160 23 < 3002 := fun y => P_u168.2 (F_u172.1.2.1 y)
                        refine pc_wA ?_; intro p_h173 q_h173 h173 E_h173
                        obtain ⟨x_h173, y_h173, z_h173⟩ := w_nd E_h173 (by decide)
                        have F270 : Fr h h173 n0 := fr_tr F261 (fr_w (n := n0) E_h173 (by decide) (by omega) (by omega) (gi_o E_h173 (by decide))) (by omega)
                        have D271 := cc_wo E_h173 (by decide)
                        have O272 : ON h173 u146.1 9 u153.1 u172.1 (-1) (-1) (h 160 23) u165.1 := on_w1 E_h173 O262
                        have N273 : h173 160 9 = 0 → CC u153.2 + h149 160 23 ≤ CC h149 + u153.2 160 23 := fun y => N263 (by omega)
                        have N274 : h173 160 9 = 0 → TB m h173 (2 * (40 - (a1 + 1)) + 2) u153.1 (h149 160 22) (u153.2 160 22) (h149 160 23) := fun y => tb_w E_h173 (by omega) (by omega) (by omega) (N264 (by omega))
                        have N275 : h173 160 9 = 0 → u156 160 23 = h154 160 23 + 1 ∧ h154 160 23 < 3002 := fun y => N265 (by omega)
                        have N276 : h173 160 9 = 0 → u158 160 23 = u156 160 23 + 1 ∧ u156 160 23 < 3002 := fun y => N266 (by omega)
                        have N277 : h173 160 9 = 0 → u161.2 160 23 = u158 160 23 + 1 ∧ u161.1 = u158 160 23 := fun y => N267 (by omega)
                        have N278 : h173 160 9 = 0 → u165.2 160 23 = h162 160 23 + 1 ∧ u165.1 = h162 160 23 := fun y => N268 (by omega)
                        have N279 : h173 160 9 = 0 → u168 160 23 = h166 160 23 + 1 ∧ h166 160 23 < 3002 := fun y => N269 (by omega)
                        have N280 : h173 160 9 = 0 → CC u172.2 + u168 160 23 ≤ CC u168 + u172.2 160 23 := fun y => (fun y => (P_u172.2 y).2.2.2.2.2) (by omega)
                        have N281 : h173 160 9 = 0 → TB m h173 (2 * (40 - (a1 + 1)) + 2) u172.1 (u168 160 22) (u172.2 160 22) (u168 160 23) := fun y => tb_w E_h173 (by omega) (by omega) (by omega) ((cs_tb P_u172) (by omega))
                        unfold qj_X13_statement_698
                        refine pc_ret ⟨F270, fun y => ?_⟩
                        have y : h173 160 9 = 0 := y
                        have A282 := N273 y
                        have A283 := N275 y
                        have A284 := N276 y
                        have A285 := N277 y
                        have A286 := N278 y
                        have A287 := N279 y
                        have A288 := N280 y
                        have A289 := (N274 y).1
                        have A290 := (N281 y).1
                        show u146.1 = n0 ∧ h173 169 n0.toNat = h 160 23 ∧ (h173 167 n0.toNat = 2 → h 160 23 + 2 ≤ h173 160 23) ∧ h173 173 n0.toNat = -1 ∧ TE m h173 2 (2 * (40 - a1) + 1) n0 (h173 160 22) u146.1 ∧ CC h173 + h 160 23 ≤ CC h + h173 160 23
                        have on0 := O272
                        have en0 : u146.1 = n0 := by omega
                        rw [en0] at on0
                        refine ⟨en0, on0.2.2.2.2.2.1.trans (by omega), fun z => ?_, on0.2.2.2.2.1, ?_, by omega⟩
                        · rw [on0.1] at z; omega
                        · skip
                          exact on_guard O272 (by omega) ⟨by omega, by omega, by omega, by omega⟩ (by have q := (tb_st (d := 2 * (40 - a1) + 1) (n := u172.1) (e := u146.1) (N274 y) (by omega) (by omega) (by omega) (by omega) (by rw [O272.2.2.2.2.2.1]; omega)); rw [O272.2.2.2.2.2.1] at q; exact q) (by have q := (tb_st (d := 2 * (40 - a1) + 1) (n := h173 160 22) (e := u146.1) (N281 y) (by omega) (by omega) (by omega) (by omega) (by rw [O272.2.2.2.2.2.1]; omega)); rw [O272.2.2.2.2.2.1] at q; exact q) (by have q := N281 y; rw [q.1, q.2.1]; omega)
                      · skip
                        refine pc_if (fun C291 => ?_) (fun C291 => ?_)
                        · skip
                          refine pc_sv pc_ad ?_; intro u176 A_u176
                          obtain ⟨⟨a0_u176, a1_u176, a2_u176, a3_u176, a4_u176, a5_u176, a6_u176⟩, F_u176, O_u176, C_u176⟩ := A_u176
                          have w_u176 : wt 4 = 1 := by decide
                          have F292 : Fr h u176.2 n0 := fr_tr F0 F_u176 (by omega)
                          refine pc_add (by omega) ?_; intro v178 e_v178
                          refine pc_xl ?_; intro h179 E_h179
                          obtain ⟨S_h179, c_h179, f_h179⟩ := sm_cur E_h179 (by omega)
                          have z_h179 := S_h179.1
                          have F293 : Fr h h179 n0 := fr_tr F292 (sm_fr (n := n0) S_h179) (by omega)
                          have D294 := cc_sm S_h179
                          have O295 : ON h179 u176.1 4 (-1) (-1) (-1) (-1) (h 160 23) 0 := on_sm S_h179 O_u176
                          refine pc_sv pc_sign_ ?_; intro u181 P_u181
                          have S_u181 := P_u181.1
                          have z_u181 := S_u181.1; have c_u181 := S_u181.2.2.1
                          have F296 : Fr h u181 n0 := fr_tr F293 (sm_fr (n := n0) S_u181) (by omega)
                          have D297 := cc_sm S_u181
                          have O298 : ON u181 u176.1 4 (-1) (-1) (-1) (-1) (h 160 23) 0 := on_sm S_u181 O295
                          refine pc_sv pc_isWord ?_; intro u185 b_u185
                          refine pc_if (fun C299 => ?_) (fun C299 => ?_)
                          · skip
                            unfold qj_X13_statement_431
                            unfold qj_X13_statement_432
                            refine pc_wA ?_; intro p_h17 q_h17 h17 E_h17
                            obtain ⟨x_h17, y_h17, z_h17⟩ := w_nd E_h17 (by decide)
                            have F300 : Fr h h17 n0 := fr_tr F296 (fr_w (n := n0) E_h17 (by decide) (by omega) (by omega) (gi_5 E_h17 (by rw [O298.1]; omega))) (by omega)
                            have D301 := cc_wo E_h17 (by decide)
                            have O302 : ON h17 u176.1 4 (-1) (-1) (-1) (-1) (h 160 23) 0 := on_wo E_h17 (by decide) O298
                            have N303 : h17 160 9 = 0 → u181 160 23 = h179 160 23 + 1 ∧ h179 160 23 < 3002 := fun y => P_u181.2 (by omega)
                            refine pc_add (by omega) ?_; intro v19 e_v19
                            subst e_v19
                            refine pc_sv (ge_expression (nn := nn) (hmn.elim id) (a1 + 1) h17 (by omega) (by omega) (by omega)) ?_; intro u21 P_u21
                            have F_u21 := P_u21.1; have z_u21 := F_u21.1.1; have c_u21 := F_u21.1.2.2
                            have k_u21 := re_le (m := m) (d := 1) (d2 := (a1 + 1)) (by omega)
                            have F304 : Fr h u21.2 n0 := fr_tr F300 F_u21 (by omega)
                            have O305 : ON u21.2 u176.1 4 (-1) (-1) (-1) (-1) (h 160 23) 0 := on_F F_u21 (by omega) (by omega) O302
                            have N306 : u21.2 160 9 = 0 → u181 160 23 = h179 160 23 + 1 ∧ h179 160 23 < 3002 := fun y => N303 (F_u21.1.2.1 y)
                            refine pc_wA ?_; intro p_h22 q_h22 h22 E_h22
                            obtain ⟨x_h22, y_h22, z_h22⟩ := w_nd E_h22 (by decide)
                            have F307 : Fr h h22 n0 := fr_tr F304 (fr_w (n := n0) E_h22 (by decide) (by omega) (by omega) (gi_o E_h22 (by decide))) (by omega)
                            have D308 := cc_wo E_h22 (by decide)
                            have O309 : ON h22 u176.1 4 u21.1 (-1) (-1) (-1) (h 160 23) 0 := on_w0 E_h22 O305
                            have N310 : h22 160 9 = 0 → u181 160 23 = h179 160 23 + 1 ∧ h179 160 23 < 3002 := fun y => N306 (by omega)
                            have N311 : h22 160 9 = 0 → CC u21.2 + h17 160 23 ≤ CC h17 + u21.2 160 23 := fun y => (fun y => (P_u21.2 y).2) (by omega)
                            have N312 : h22 160 9 = 0 → TE m h22 0 (RE m (a1 + 1)) (h17 160 22) (u21.2 160 22) u21.1 := fun y => te_w E_h22 (by omega) (by omega) (by omega) ((fun y => (P_u21.2 y).1) (by omega))
                            refine pc_sv pc_sign_ ?_; intro u24 P_u24
                            have S_u24 := P_u24.1
                            have z_u24 := S_u24.1; have c_u24 := S_u24.2.2.1
                            have F313 : Fr h u24 n0 := fr_tr F307 (sm_fr (n := n0) S_u24) (by omega)
                            have D314 := cc_sm S_u24
                            have O315 : ON u24 u176.1 4 u21.1 (-1) (-1) (-1) (h 160 23) 0 := on_sm S_u24 O309
                            have N316 : u24 160 9 = 0 → u181 160 23 = h179 160 23 + 1 ∧ h179 160 23 < 3002 := fun y => N310 (S_u24.2.1 y)
                            have N317 : u24 160 9 = 0 → CC u21.2 + h17 160 23 ≤ CC h17 + u21.2 160 23 := fun y => N311 (S_u24.2.1 y)
                            have N318 : u24 160 9 = 0 → TE m u24 0 (RE m (a1 + 1)) (h17 160 22) (u21.2 160 22) u21.1 := fun y => te_sm S_u24 (by omega) (N312 (S_u24.2.1 y))
                            refine pc_add (by omega) ?_; intro v26 e_v26
                            subst e_v26
                            refine pc_sv (G.2 (a1 + 1) u24 (by omega) (by omega) (by omega)) ?_; intro u28 P_u28
                            have F_u28 := P_u28.1; have z_u28 := F_u28.1.1; have c_u28 := F_u28.1.2.2
                            have F319 : Fr h u28.2 n0 := fr_tr F313 F_u28 (by omega)
                            have O320 : ON u28.2 u176.1 4 u21.1 (-1) (-1) (-1) (h 160 23) 0 := on_F F_u28 (by omega) (by omega) O315
                            have N321 : u28.2 160 9 = 0 → u181 160 23 = h179 160 23 + 1 ∧ h179 160 23 < 3002 := fun y => N316 (F_u28.1.2.1 y)
                            have N322 : u28.2 160 9 = 0 → CC u21.2 + h17 160 23 ≤ CC h17 + u21.2 160 23 := fun y => N317 (F_u28.1.2.1 y)
                            have N323 : u28.2 160 9 = 0 → TE m u28.2 0 (RE m (a1 + 1)) (h17 160 22) (u21.2 160 22) u21.1 := fun y => te_F F_u28 (by omega) (by omega) (N318 (F_u28.1.2.1 y))
                            have N324 : u28.2 160 9 = 0 → u24 160 23 = h22 160 23 + 1 ∧ h22 160 23 < 3002 := fun y => P_u24.2 (F_u28.1.2.1 y)
                            refine pc_wA ?_; intro p_h29 q_h29 h29 E_h29
                            obtain ⟨x_h29, y_h29, z_h29⟩ := w_nd E_h29 (by decide)
                            have F325 : Fr h h29 n0 := fr_tr F319 (fr_w (n := n0) E_h29 (by decide) (by omega) (by omega) (gi_o E_h29 (by decide))) (by omega)
                            have D326 := cc_wo E_h29 (by decide)
                            have O327 : ON h29 u176.1 4 u21.1 u28.1 (-1) (-1) (h 160 23) 0 := on_w1 E_h29 O320
                            have N328 : h29 160 9 = 0 → u181 160 23 = h179 160 23 + 1 ∧ h179 160 23 < 3002 := fun y => N321 (by omega)
                            have N329 : h29 160 9 = 0 → CC u21.2 + h17 160 23 ≤ CC h17 + u21.2 160 23 := fun y => N322 (by omega)
                            have N330 : h29 160 9 = 0 → TE m h29 0 (RE m (a1 + 1)) (h17 160 22) (u21.2 160 22) u21.1 := fun y => te_w E_h29 (by omega) (by omega) (by omega) (N323 (by omega))
                            have N331 : h29 160 9 = 0 → u24 160 23 = h22 160 23 + 1 ∧ h22 160 23 < 3002 := fun y => N324 (by omega)
                            have N332 : h29 160 9 = 0 → CC u28.2 + u24 160 23 ≤ CC u24 + u28.2 160 23 := fun y => (fun y => (P_u28.2 y).2.2.2.2.2) (by omega)
                            have N333 : h29 160 9 = 0 → TB m h29 (2 * (40 - (a1 + 1)) + 1) u28.1 (u24 160 22) (u28.2 160 22) (u24 160 23) := fun y => tb_w E_h29 (by omega) (by omega) (by omega) ((cs_tb P_u28) (by omega))
                            refine pc_ret ⟨F325, fun y => ?_⟩
                            have y : h29 160 9 = 0 := y
                            have A334 := N328 y
                            have A335 := N329 y
                            have A336 := N331 y
                            have A337 := N332 y
                            have A338 := (N333 y).1
                            show u176.1 = n0 ∧ h29 169 n0.toNat = h 160 23 ∧ (h29 167 n0.toNat = 2 → h 160 23 + 2 ≤ h29 160 23) ∧ h29 173 n0.toNat = -1 ∧ TE m h29 2 (2 * (40 - a1) + 1) n0 (h29 160 22) u176.1 ∧ CC h29 + h 160 23 ≤ CC h + h29 160 23
                            have on0 := O327
                            have en0 : u176.1 = n0 := by omega
                            rw [en0] at on0
                            refine ⟨en0, on0.2.2.2.2.2.1.trans (by omega), fun z => ?_, on0.2.2.2.2.1, ?_, by omega⟩
                            · rw [on0.1] at z; omega
                            · skip
                              exact on_loop O327 (by omega) ⟨by omega, by omega, by omega, by omega⟩ (te_wd (N330 y) (by omega) (by omega) (by omega) (by omega)) (by have q := (tb_st (d := 2 * (40 - a1) + 1) (n := h29 160 22) (e := u176.1) (N333 y) (by omega) (by omega) (by omega) (by omega) (by rw [O327.2.2.2.2.2.1]; omega)); rw [O327.2.2.2.2.2.1] at q; exact q)
                          · skip
                            refine pc_add (by omega) ?_; intro v187 e_v187
                            refine pc_sv pc_isSign ?_; intro u189 b_u189
                            refine pc_if (fun C339 => ?_) (fun C339 => ?_)
                            · skip
                              unfold qj_X13_statement_431
                              unfold qj_X13_statement_432
                              refine pc_wA ?_; intro p_h17 q_h17 h17 E_h17
                              obtain ⟨x_h17, y_h17, z_h17⟩ := w_nd E_h17 (by decide)
                              have F340 : Fr h h17 n0 := fr_tr F296 (fr_w (n := n0) E_h17 (by decide) (by omega) (by omega) (gi_5 E_h17 (by rw [O298.1]; omega))) (by omega)
                              have D341 := cc_wo E_h17 (by decide)
                              have O342 : ON h17 u176.1 4 (-1) (-1) (-1) (-1) (h 160 23) 0 := on_wo E_h17 (by decide) O298
                              have N343 : h17 160 9 = 0 → u181 160 23 = h179 160 23 + 1 ∧ h179 160 23 < 3002 := fun y => P_u181.2 (by omega)
                              refine pc_add (by omega) ?_; intro v19 e_v19
                              subst e_v19
                              refine pc_sv (ge_expression (nn := nn) (hmn.elim id) (a1 + 1) h17 (by omega) (by omega) (by omega)) ?_; intro u21 P_u21
                              have F_u21 := P_u21.1; have z_u21 := F_u21.1.1; have c_u21 := F_u21.1.2.2
                              have k_u21 := re_le (m := m) (d := 1) (d2 := (a1 + 1)) (by omega)
                              have F344 : Fr h u21.2 n0 := fr_tr F340 F_u21 (by omega)
                              have O345 : ON u21.2 u176.1 4 (-1) (-1) (-1) (-1) (h 160 23) 0 := on_F F_u21 (by omega) (by omega) O342
                              have N346 : u21.2 160 9 = 0 → u181 160 23 = h179 160 23 + 1 ∧ h179 160 23 < 3002 := fun y => N343 (F_u21.1.2.1 y)
                              refine pc_wA ?_; intro p_h22 q_h22 h22 E_h22
                              obtain ⟨x_h22, y_h22, z_h22⟩ := w_nd E_h22 (by decide)
                              have F347 : Fr h h22 n0 := fr_tr F344 (fr_w (n := n0) E_h22 (by decide) (by omega) (by omega) (gi_o E_h22 (by decide))) (by omega)
                              have D348 := cc_wo E_h22 (by decide)
                              have O349 : ON h22 u176.1 4 u21.1 (-1) (-1) (-1) (h 160 23) 0 := on_w0 E_h22 O345
                              have N350 : h22 160 9 = 0 → u181 160 23 = h179 160 23 + 1 ∧ h179 160 23 < 3002 := fun y => N346 (by omega)
                              have N351 : h22 160 9 = 0 → CC u21.2 + h17 160 23 ≤ CC h17 + u21.2 160 23 := fun y => (fun y => (P_u21.2 y).2) (by omega)
                              have N352 : h22 160 9 = 0 → TE m h22 0 (RE m (a1 + 1)) (h17 160 22) (u21.2 160 22) u21.1 := fun y => te_w E_h22 (by omega) (by omega) (by omega) ((fun y => (P_u21.2 y).1) (by omega))
                              refine pc_sv pc_sign_ ?_; intro u24 P_u24
                              have S_u24 := P_u24.1
                              have z_u24 := S_u24.1; have c_u24 := S_u24.2.2.1
                              have F353 : Fr h u24 n0 := fr_tr F347 (sm_fr (n := n0) S_u24) (by omega)
                              have D354 := cc_sm S_u24
                              have O355 : ON u24 u176.1 4 u21.1 (-1) (-1) (-1) (h 160 23) 0 := on_sm S_u24 O349
                              have N356 : u24 160 9 = 0 → u181 160 23 = h179 160 23 + 1 ∧ h179 160 23 < 3002 := fun y => N350 (S_u24.2.1 y)
                              have N357 : u24 160 9 = 0 → CC u21.2 + h17 160 23 ≤ CC h17 + u21.2 160 23 := fun y => N351 (S_u24.2.1 y)
                              have N358 : u24 160 9 = 0 → TE m u24 0 (RE m (a1 + 1)) (h17 160 22) (u21.2 160 22) u21.1 := fun y => te_sm S_u24 (by omega) (N352 (S_u24.2.1 y))
                              refine pc_add (by omega) ?_; intro v26 e_v26
                              subst e_v26
                              refine pc_sv (G.2 (a1 + 1) u24 (by omega) (by omega) (by omega)) ?_; intro u28 P_u28
                              have F_u28 := P_u28.1; have z_u28 := F_u28.1.1; have c_u28 := F_u28.1.2.2
                              have F359 : Fr h u28.2 n0 := fr_tr F353 F_u28 (by omega)
                              have O360 : ON u28.2 u176.1 4 u21.1 (-1) (-1) (-1) (h 160 23) 0 := on_F F_u28 (by omega) (by omega) O355
                              have N361 : u28.2 160 9 = 0 → u181 160 23 = h179 160 23 + 1 ∧ h179 160 23 < 3002 := fun y => N356 (F_u28.1.2.1 y)
                              have N362 : u28.2 160 9 = 0 → CC u21.2 + h17 160 23 ≤ CC h17 + u21.2 160 23 := fun y => N357 (F_u28.1.2.1 y)
                              have N363 : u28.2 160 9 = 0 → TE m u28.2 0 (RE m (a1 + 1)) (h17 160 22) (u21.2 160 22) u21.1 := fun y => te_F F_u28 (by omega) (by omega) (N358 (F_u28.1.2.1 y))
                              have N364 : u28.2 160 9 = 0 → u24 160 23 = h22 160 23 + 1 ∧ h22 160 23 < 3002 := fun y => P_u24.2 (F_u28.1.2.1 y)
                              refine pc_wA ?_; intro p_h29 q_h29 h29 E_h29
                              obtain ⟨x_h29, y_h29, z_h29⟩ := w_nd E_h29 (by decide)
                              have F365 : Fr h h29 n0 := fr_tr F359 (fr_w (n := n0) E_h29 (by decide) (by omega) (by omega) (gi_o E_h29 (by decide))) (by omega)
                              have D366 := cc_wo E_h29 (by decide)
                              have O367 : ON h29 u176.1 4 u21.1 u28.1 (-1) (-1) (h 160 23) 0 := on_w1 E_h29 O360
                              have N368 : h29 160 9 = 0 → u181 160 23 = h179 160 23 + 1 ∧ h179 160 23 < 3002 := fun y => N361 (by omega)
                              have N369 : h29 160 9 = 0 → CC u21.2 + h17 160 23 ≤ CC h17 + u21.2 160 23 := fun y => N362 (by omega)
                              have N370 : h29 160 9 = 0 → TE m h29 0 (RE m (a1 + 1)) (h17 160 22) (u21.2 160 22) u21.1 := fun y => te_w E_h29 (by omega) (by omega) (by omega) (N363 (by omega))
                              have N371 : h29 160 9 = 0 → u24 160 23 = h22 160 23 + 1 ∧ h22 160 23 < 3002 := fun y => N364 (by omega)
                              have N372 : h29 160 9 = 0 → CC u28.2 + u24 160 23 ≤ CC u24 + u28.2 160 23 := fun y => (fun y => (P_u28.2 y).2.2.2.2.2) (by omega)
                              have N373 : h29 160 9 = 0 → TB m h29 (2 * (40 - (a1 + 1)) + 1) u28.1 (u24 160 22) (u28.2 160 22) (u24 160 23) := fun y => tb_w E_h29 (by omega) (by omega) (by omega) ((cs_tb P_u28) (by omega))
                              refine pc_ret ⟨F365, fun y => ?_⟩
                              have y : h29 160 9 = 0 := y
                              have A374 := N368 y
                              have A375 := N369 y
                              have A376 := N371 y
                              have A377 := N372 y
                              have A378 := (N373 y).1
                              show u176.1 = n0 ∧ h29 169 n0.toNat = h 160 23 ∧ (h29 167 n0.toNat = 2 → h 160 23 + 2 ≤ h29 160 23) ∧ h29 173 n0.toNat = -1 ∧ TE m h29 2 (2 * (40 - a1) + 1) n0 (h29 160 22) u176.1 ∧ CC h29 + h 160 23 ≤ CC h + h29 160 23
                              have on0 := O367
                              have en0 : u176.1 = n0 := by omega
                              rw [en0] at on0
                              refine ⟨en0, on0.2.2.2.2.2.1.trans (by omega), fun z => ?_, on0.2.2.2.2.1, ?_, by omega⟩
                              · rw [on0.1] at z; omega
                              · skip
                                exact on_loop O367 (by omega) ⟨by omega, by omega, by omega, by omega⟩ (te_wd (N370 y) (by omega) (by omega) (by omega) (by omega)) (by have q := (tb_st (d := 2 * (40 - a1) + 1) (n := h29 160 22) (e := u176.1) (N373 y) (by omega) (by omega) (by omega) (by omega) (by rw [O367.2.2.2.2.2.1]; omega)); rw [O367.2.2.2.2.2.1] at q; exact q)
                            · skip
                              unfold qj_X13_statement_432
                              refine pc_wA ?_; intro p_h17 q_h17 h17 E_h17
                              obtain ⟨x_h17, y_h17, z_h17⟩ := w_nd E_h17 (by decide)
                              have F379 : Fr h h17 n0 := fr_tr F296 (fr_w (n := n0) E_h17 (by decide) (by omega) (by omega) (gi_5 E_h17 (by rw [O298.1]; omega))) (by omega)
                              have D380 := cc_wo E_h17 (by decide)
                              have O381 : ON h17 u176.1 4 (-1) (-1) (-1) (-1) (h 160 23) 0 := on_wo E_h17 (by decide) O298
                              have N382 : h17 160 9 = 0 → u181 160 23 = h179 160 23 + 1 ∧ h179 160 23 < 3002 := fun y => P_u181.2 (by omega)
                              refine pc_add (by omega) ?_; intro v19 e_v19
                              subst e_v19
                              refine pc_sv (ge_expression (nn := nn) (hmn.elim id) (a1 + 1) h17 (by omega) (by omega) (by omega)) ?_; intro u21 P_u21
                              have F_u21 := P_u21.1; have z_u21 := F_u21.1.1; have c_u21 := F_u21.1.2.2
                              have k_u21 := re_le (m := m) (d := 1) (d2 := (a1 + 1)) (by omega)
                              have F383 : Fr h u21.2 n0 := fr_tr F379 F_u21 (by omega)
                              have O384 : ON u21.2 u176.1 4 (-1) (-1) (-1) (-1) (h 160 23) 0 := on_F F_u21 (by omega) (by omega) O381
                              have N385 : u21.2 160 9 = 0 → u181 160 23 = h179 160 23 + 1 ∧ h179 160 23 < 3002 := fun y => N382 (F_u21.1.2.1 y)
                              refine pc_wA ?_; intro p_h22 q_h22 h22 E_h22
                              obtain ⟨x_h22, y_h22, z_h22⟩ := w_nd E_h22 (by decide)
                              have F386 : Fr h h22 n0 := fr_tr F383 (fr_w (n := n0) E_h22 (by decide) (by omega) (by omega) (gi_o E_h22 (by decide))) (by omega)
                              have D387 := cc_wo E_h22 (by decide)
                              have O388 : ON h22 u176.1 4 u21.1 (-1) (-1) (-1) (h 160 23) 0 := on_w0 E_h22 O384
                              have N389 : h22 160 9 = 0 → u181 160 23 = h179 160 23 + 1 ∧ h179 160 23 < 3002 := fun y => N385 (by omega)
                              have N390 : h22 160 9 = 0 → CC u21.2 + h17 160 23 ≤ CC h17 + u21.2 160 23 := fun y => (fun y => (P_u21.2 y).2) (by omega)
                              have N391 : h22 160 9 = 0 → TE m h22 0 (RE m (a1 + 1)) (h17 160 22) (u21.2 160 22) u21.1 := fun y => te_w E_h22 (by omega) (by omega) (by omega) ((fun y => (P_u21.2 y).1) (by omega))
                              refine pc_sv pc_sign_ ?_; intro u24 P_u24
                              have S_u24 := P_u24.1
                              have z_u24 := S_u24.1; have c_u24 := S_u24.2.2.1
                              have F392 : Fr h u24 n0 := fr_tr F386 (sm_fr (n := n0) S_u24) (by omega)
                              have D393 := cc_sm S_u24
                              have O394 : ON u24 u176.1 4 u21.1 (-1) (-1) (-1) (h 160 23) 0 := on_sm S_u24 O388
                              have N395 : u24 160 9 = 0 → u181 160 23 = h179 160 23 + 1 ∧ h179 160 23 < 3002 := fun y => N389 (S_u24.2.1 y)
                              have N396 : u24 160 9 = 0 → CC u21.2 + h17 160 23 ≤ CC h17 + u21.2 160 23 := fun y => N390 (S_u24.2.1 y)
                              have N397 : u24 160 9 = 0 → TE m u24 0 (RE m (a1 + 1)) (h17 160 22) (u21.2 160 22) u21.1 := fun y => te_sm S_u24 (by omega) (N391 (S_u24.2.1 y))
                              refine pc_add (by omega) ?_; intro v26 e_v26
                              subst e_v26
                              refine pc_sv (G.2 (a1 + 1) u24 (by omega) (by omega) (by omega)) ?_; intro u28 P_u28
                              have F_u28 := P_u28.1; have z_u28 := F_u28.1.1; have c_u28 := F_u28.1.2.2
                              have F398 : Fr h u28.2 n0 := fr_tr F392 F_u28 (by omega)
                              have O399 : ON u28.2 u176.1 4 u21.1 (-1) (-1) (-1) (h 160 23) 0 := on_F F_u28 (by omega) (by omega) O394
                              have N400 : u28.2 160 9 = 0 → u181 160 23 = h179 160 23 + 1 ∧ h179 160 23 < 3002 := fun y => N395 (F_u28.1.2.1 y)
                              have N401 : u28.2 160 9 = 0 → CC u21.2 + h17 160 23 ≤ CC h17 + u21.2 160 23 := fun y => N396 (F_u28.1.2.1 y)
                              have N402 : u28.2 160 9 = 0 → TE m u28.2 0 (RE m (a1 + 1)) (h17 160 22) (u21.2 160 22) u21.1 := fun y => te_F F_u28 (by omega) (by omega) (N397 (F_u28.1.2.1 y))
                              have N403 : u28.2 160 9 = 0 → u24 160 23 = h22 160 23 + 1 ∧ h22 160 23 < 3002 := fun y => P_u24.2 (F_u28.1.2.1 y)
                              refine pc_wA ?_; intro p_h29 q_h29 h29 E_h29
                              obtain ⟨x_h29, y_h29, z_h29⟩ := w_nd E_h29 (by decide)
                              have F404 : Fr h h29 n0 := fr_tr F398 (fr_w (n := n0) E_h29 (by decide) (by omega) (by omega) (gi_o E_h29 (by decide))) (by omega)
                              have D405 := cc_wo E_h29 (by decide)
                              have O406 : ON h29 u176.1 4 u21.1 u28.1 (-1) (-1) (h 160 23) 0 := on_w1 E_h29 O399
                              have N407 : h29 160 9 = 0 → u181 160 23 = h179 160 23 + 1 ∧ h179 160 23 < 3002 := fun y => N400 (by omega)
                              have N408 : h29 160 9 = 0 → CC u21.2 + h17 160 23 ≤ CC h17 + u21.2 160 23 := fun y => N401 (by omega)
                              have N409 : h29 160 9 = 0 → TE m h29 0 (RE m (a1 + 1)) (h17 160 22) (u21.2 160 22) u21.1 := fun y => te_w E_h29 (by omega) (by omega) (by omega) (N402 (by omega))
                              have N410 : h29 160 9 = 0 → u24 160 23 = h22 160 23 + 1 ∧ h22 160 23 < 3002 := fun y => N403 (by omega)
                              have N411 : h29 160 9 = 0 → CC u28.2 + u24 160 23 ≤ CC u24 + u28.2 160 23 := fun y => (fun y => (P_u28.2 y).2.2.2.2.2) (by omega)
                              have N412 : h29 160 9 = 0 → TB m h29 (2 * (40 - (a1 + 1)) + 1) u28.1 (u24 160 22) (u28.2 160 22) (u24 160 23) := fun y => tb_w E_h29 (by omega) (by omega) (by omega) ((cs_tb P_u28) (by omega))
                              refine pc_ret ⟨F404, fun y => ?_⟩
                              have y : h29 160 9 = 0 := y
                              have A413 := N407 y
                              have A414 := N408 y
                              have A415 := N410 y
                              have A416 := N411 y
                              have A417 := (N412 y).1
                              show u176.1 = n0 ∧ h29 169 n0.toNat = h 160 23 ∧ (h29 167 n0.toNat = 2 → h 160 23 + 2 ≤ h29 160 23) ∧ h29 173 n0.toNat = -1 ∧ TE m h29 2 (2 * (40 - a1) + 1) n0 (h29 160 22) u176.1 ∧ CC h29 + h 160 23 ≤ CC h + h29 160 23
                              have on0 := O406
                              have en0 : u176.1 = n0 := by omega
                              rw [en0] at on0
                              refine ⟨en0, on0.2.2.2.2.2.1.trans (by omega), fun z => ?_, on0.2.2.2.2.1, ?_, by omega⟩
                              · rw [on0.1] at z; omega
                              · skip
                                exact on_loop O406 (by omega) ⟨by omega, by omega, by omega, by omega⟩ (te_wd (N409 y) (by omega) (by omega) (by omega) (by omega)) (by have q := (tb_st (d := 2 * (40 - a1) + 1) (n := h29 160 22) (e := u176.1) (N412 y) (by omega) (by omega) (by omega) (by omega) (by rw [O406.2.2.2.2.2.1]; omega)); rw [O406.2.2.2.2.2.1] at q; exact q)
                        · skip
                          unfold qj_X13_statement_755
                          refine pc_sv (ge_plain (hmn.elim id) (by omega) (by omega)) ?_; intro u2 P_u2
                          have F_u2 := P_u2.1; have z_u2 := F_u2.1.1; have c_u2 := F_u2.1.2.2
                          have F418 : Fr h u2.2 n0 := fr_tr F0 F_u2 (by omega)
                          refine pc_ret ⟨F418, fun y => ?_⟩
                          have y : u2.2 160 9 = 0 := y
                          have A419 := (fun y => (P_u2.2 y).2.2.2.2.2) y
                          have A420 := ((cs_tb P_u2) y).1
                          show u2.1 = n0 ∧ u2.2 169 n0.toNat = h 160 23 ∧ (u2.2 167 n0.toNat = 2 → h 160 23 + 2 ≤ u2.2 160 23) ∧ u2.2 173 n0.toNat = -1 ∧ TE m u2.2 2 (2 * (40 - a1) + 1) n0 (u2.2 160 22) u2.1 ∧ CC u2.2 + h 160 23 ≤ CC h + u2.2 160 23
                          obtain ⟨w1, w2, w3, w5, w4, w6⟩ := P_u2.2 y; rw [hn0] at w1 w2 w3 w4 w5; exact ⟨w1, w2, w3, w5, te_wd w4 (by omega) (by omega) (by omega) (by omega), w6⟩
        · skip
          refine pc_sv (ge_plain (hmn.elim id) (by omega) (by omega)) ?_; intro u193 P_u193
          have F_u193 := P_u193.1; have z_u193 := F_u193.1.1; have c_u193 := F_u193.1.2.2
          have F421 : Fr h u193.2 n0 := fr_tr F0 F_u193 (by omega)
          refine pc_ret ⟨F421, fun y => ?_⟩
          have y : u193.2 160 9 = 0 := y
          have A422 := (fun y => (P_u193.2 y).2.2.2.2.2) y
          have A423 := ((cs_tb P_u193) y).1
          show u193.1 = n0 ∧ u193.2 169 n0.toNat = h 160 23 ∧ (u193.2 167 n0.toNat = 2 → h 160 23 + 2 ≤ u193.2 160 23) ∧ u193.2 173 n0.toNat = -1 ∧ TE m u193.2 2 (2 * (40 - a1) + 1) n0 (u193.2 160 22) u193.1 ∧ CC u193.2 + h 160 23 ≤ CC h + u193.2 160 23
          obtain ⟨w1, w2, w3, w5, w4, w6⟩ := P_u193.2 y; rw [hn0] at w1 w2 w3 w4 w5; exact ⟨w1, w2, w3, w5, te_wd w4 (by omega) (by omega) (by omega) (by omega), w6⟩
      · skip
        refine pc_sv pc_type ?_; intro u196 P_u196
        have S_u196 := P_u196.1
        have z_u196 := S_u196.1; have c_u196 := S_u196.2.2.1
        have F424 : Fr h u196 n0 := fr_tr F0 (sm_fr (n := n0) S_u196) (by omega)
        have D425 := cc_sm S_u196
        refine pc_sv pc_ad ?_; intro u198 A_u198
        obtain ⟨⟨a0_u198, a1_u198, a2_u198, a3_u198, a4_u198, a5_u198, a6_u198⟩, F_u198, O_u198, C_u198⟩ := A_u198
        have w_u198 : wt 2 = 1 := by decide
        have F426 : Fr h u198.2 n0 := fr_tr F424 F_u198 (by omega)
        have N427 : u198.2 160 9 = 0 → u196 160 46 = h 160 23 := fun y => P_u196.2 (F_u198.1.2.1 y)
        refine pc_xl ?_; intro v201 e_v201
        refine pc_if (fun C428 => ?_) (fun C428 => ?_)
        · skip
          unfold qj_X13_statement_78
          refine pc_xl ?_; intro v49 e_v49
          refine pc_wA ?_; intro p_h50 q_h50 h50 E_h50
          obtain ⟨x_h50, y_h50, z_h50⟩ := w_nd E_h50 (by decide)
          have F429 : Fr h h50 n0 := fr_tr F426 (fr_w (n := n0) E_h50 (by decide) (by omega) (by omega) (gi_o E_h50 (by decide))) (by omega)
          have D430 := cc_wo E_h50 (by decide)
          have O431 : ON h50 u198.1 2 (-1) (-1) v49 (-1) (h 160 23) 0 := on_w2 E_h50 O_u198
          have N432 : h50 160 9 = 0 → u196 160 46 = h 160 23 := fun y => N427 (by omega)
          refine pc_wA ?_; intro p_h53 q_h53 h53 E_h53
          obtain ⟨x_h53, y_h53, z_h53⟩ := w_nd E_h53 (by decide)
          have F433 : Fr h h53 n0 := fr_tr F429 (fr_w (n := n0) E_h53 (by decide) (by omega) (by omega) (gi_5 E_h53 (by rw [O431.1]; omega))) (by omega)
          have D434 := cc_wo E_h53 (by decide)
          have O435 : ON h53 u198.1 2 (-1) (-1) v49 (-1) (h 160 23) 0 := on_wo E_h53 (by decide) O431
          have N436 : h53 160 9 = 0 → u196 160 46 = h 160 23 := fun y => N432 (by omega)
          refine pc_sv pc_name ?_; intro u56 P_u56
          have S_u56 := P_u56.1
          have z_u56 := S_u56.1; have c_u56 := S_u56.2.2.1
          have n_u56 := P_u56.2.1
          have F437 : Fr h u56.2 n0 := fr_tr F433 (sm_fr (n := n0) S_u56) (by omega)
          have D438 := cc_sm S_u56
          have O439 : ON u56.2 u198.1 2 (-1) (-1) v49 (-1) (h 160 23) 0 := on_sm S_u56 O435
          have N440 : u56.2 160 9 = 0 → u196 160 46 = h 160 23 := fun y => N436 (S_u56.2.1 y)
          refine pc_wA ?_; intro p_h57 q_h57 h57 E_h57
          obtain ⟨x_h57, y_h57, z_h57⟩ := w_nd E_h57 (by decide)
          have F441 : Fr h h57 n0 := fr_tr F437 (fr_w (n := n0) E_h57 (by decide) (by omega) (by omega) (gi_o E_h57 (by decide))) (by omega)
          have D442 := cc_wo E_h57 (by decide)
          have O443 : ON h57 u198.1 2 (-1) (-1) v49 (-1) (h 160 23) 0 := on_wo E_h57 (by decide) O439
          have N444 : h57 160 9 = 0 → u196 160 46 = h 160 23 := fun y => N440 (by omega)
          have N445 : h57 160 9 = 0 → u56.2 160 23 = h53 160 23 + 1 ∧ u56.1 = h53 160 23 := fun y => P_u56.2.2 (by omega)
          refine pc_wA ?_; intro p_h60 q_h60 h60 E_h60
          obtain ⟨x_h60, y_h60, z_h60⟩ := w_nd E_h60 (by decide)
          have F446 : Fr h h60 n0 := fr_tr F441 (fr_w (n := n0) E_h60 (by decide) (by omega) (by omega) (gi_6 E_h60 (by omega) (by rw [O443.1]; omega))) (by omega)
          have D447 := cc_wo E_h60 (by decide)
          have O448 : ON h60 u198.1 2 (-1) (-1) v49 (-1) (h 160 23) (h57 160 23) := on_ws E_h60 O443
          have N449 : h60 160 9 = 0 → u196 160 46 = h 160 23 := fun y => N444 (by omega)
          have N450 : h60 160 9 = 0 → u56.2 160 23 = h53 160 23 + 1 ∧ u56.1 = h53 160 23 := fun y => N445 (by omega)
          refine pc_sv pc_sign_ ?_; intro u62 P_u62
          have S_u62 := P_u62.1
          have z_u62 := S_u62.1; have c_u62 := S_u62.2.2.1
          have F451 : Fr h u62 n0 := fr_tr F446 (sm_fr (n := n0) S_u62) (by omega)
          have D452 := cc_sm S_u62
          have O453 : ON u62 u198.1 2 (-1) (-1) v49 (-1) (h 160 23) (h57 160 23) := on_sm S_u62 O448
          have N454 : u62 160 9 = 0 → u196 160 46 = h 160 23 := fun y => N449 (S_u62.2.1 y)
          have N455 : u62 160 9 = 0 → u56.2 160 23 = h53 160 23 + 1 ∧ u56.1 = h53 160 23 := fun y => N450 (S_u62.2.1 y)
          refine pc_add (by omega) ?_; intro v64 e_v64
          subst e_v64
          refine pc_sv (ge_expression (nn := nn) (hmn.elim id) (a1 + 1) u62 (by omega) (by omega) (by omega)) ?_; intro u66 P_u66
          have F_u66 := P_u66.1; have z_u66 := F_u66.1.1; have c_u66 := F_u66.1.2.2
          have k_u66 := re_le (m := m) (d := 1) (d2 := (a1 + 1)) (by omega)
          have F456 : Fr h u66.2 n0 := fr_tr F451 F_u66 (by omega)
          have O457 : ON u66.2 u198.1 2 (-1) (-1) v49 (-1) (h 160 23) (h57 160 23) := on_F F_u66 (by omega) (by omega) O453
          have N458 : u66.2 160 9 = 0 → u196 160 46 = h 160 23 := fun y => N454 (F_u66.1.2.1 y)
          have N459 : u66.2 160 9 = 0 → u56.2 160 23 = h53 160 23 + 1 ∧ u56.1 = h53 160 23 := fun y => N455 (F_u66.1.2.1 y)
          have N460 : u66.2 160 9 = 0 → u62 160 23 = h60 160 23 + 1 ∧ h60 160 23 < 3002 := fun y => P_u62.2 (F_u66.1.2.1 y)
          refine pc_wA ?_; intro p_h67 q_h67 h67 E_h67
          obtain ⟨x_h67, y_h67, z_h67⟩ := w_nd E_h67 (by decide)
          have F461 : Fr h h67 n0 := fr_tr F456 (fr_w (n := n0) E_h67 (by decide) (by omega) (by omega) (gi_o E_h67 (by decide))) (by omega)
          have D462 := cc_wo E_h67 (by decide)
          have O463 : ON h67 u198.1 2 u66.1 (-1) v49 (-1) (h 160 23) (h57 160 23) := on_w0 E_h67 O457
          have N464 : h67 160 9 = 0 → u196 160 46 = h 160 23 := fun y => N458 (by omega)
          have N465 : h67 160 9 = 0 → u56.2 160 23 = h53 160 23 + 1 ∧ u56.1 = h53 160 23 := fun y => N459 (by omega)
          have N466 : h67 160 9 = 0 → u62 160 23 = h60 160 23 + 1 ∧ h60 160 23 < 3002 := fun y => N460 (by omega)
          have N467 : h67 160 9 = 0 → CC u66.2 + u62 160 23 ≤ CC u62 + u66.2 160 23 := fun y => (fun y => (P_u66.2 y).2) (by omega)
          have N468 : h67 160 9 = 0 → TE m h67 0 (RE m (a1 + 1)) (u62 160 22) (u66.2 160 22) u66.1 := fun y => te_w E_h67 (by omega) (by omega) (by omega) ((fun y => (P_u66.2 y).1) (by omega))
          refine pc_sv pc_sign_ ?_; intro u69 P_u69
          have S_u69 := P_u69.1
          have z_u69 := S_u69.1; have c_u69 := S_u69.2.2.1
          have F469 : Fr h u69 n0 := fr_tr F461 (sm_fr (n := n0) S_u69) (by omega)
          have D470 := cc_sm S_u69
          have O471 : ON u69 u198.1 2 u66.1 (-1) v49 (-1) (h 160 23) (h57 160 23) := on_sm S_u69 O463
          have N472 : u69 160 9 = 0 → u196 160 46 = h 160 23 := fun y => N464 (S_u69.2.1 y)
          have N473 : u69 160 9 = 0 → u56.2 160 23 = h53 160 23 + 1 ∧ u56.1 = h53 160 23 := fun y => N465 (S_u69.2.1 y)
          have N474 : u69 160 9 = 0 → u62 160 23 = h60 160 23 + 1 ∧ h60 160 23 < 3002 := fun y => N466 (S_u69.2.1 y)
          have N475 : u69 160 9 = 0 → CC u66.2 + u62 160 23 ≤ CC u62 + u66.2 160 23 := fun y => N467 (S_u69.2.1 y)
          have N476 : u69 160 9 = 0 → TE m u69 0 (RE m (a1 + 1)) (u62 160 22) (u66.2 160 22) u66.1 := fun y => te_sm S_u69 (by omega) (N468 (S_u69.2.1 y))
          refine pc_ret ⟨F469, fun y => ?_⟩
          have y : u69 160 9 = 0 := y
          have A477 := N472 y
          have A478 := N473 y
          have A479 := N474 y
          have A480 := N475 y
          have A481 := P_u69.2 y
          show u198.1 = n0 ∧ u69 169 n0.toNat = h 160 23 ∧ (u69 167 n0.toNat = 2 → h 160 23 + 2 ≤ u69 160 23) ∧ u69 173 n0.toNat = -1 ∧ TE m u69 2 (2 * (40 - a1) + 1) n0 (u69 160 22) u198.1 ∧ CC u69 + h 160 23 ≤ CC h + u69 160 23
          have on0 := O471
          have en0 : u198.1 = n0 := by omega
          rw [en0] at on0
          refine ⟨en0, on0.2.2.2.2.2.1.trans (by omega), fun z => ?_, on0.2.2.2.2.1, ?_, by omega⟩
          · rw [on0.1] at z; omega
          · skip
            have m1 := oq_mul_eq (x := 4) (y := (u198.2 160 46)) (by omega) (by omega) (by omega)
            have m2 := oq_add_eq (x := v201) (y := 0) (by omega) (by omega) (by omega)
            exact on_var O471 (by omega) ⟨by omega, by omega, by omega, by omega⟩ (te_wd (N476 y) (by omega) (by omega) (by omega) (by omega))
        · skip
          unfold qj_X13_statement_78
          refine pc_xl ?_; intro v49 e_v49
          refine pc_wA ?_; intro p_h50 q_h50 h50 E_h50
          obtain ⟨x_h50, y_h50, z_h50⟩ := w_nd E_h50 (by decide)
          have F482 : Fr h h50 n0 := fr_tr F426 (fr_w (n := n0) E_h50 (by decide) (by omega) (by omega) (gi_o E_h50 (by decide))) (by omega)
          have D483 := cc_wo E_h50 (by decide)
          have O484 : ON h50 u198.1 2 (-1) (-1) v49 (-1) (h 160 23) 0 := on_w2 E_h50 O_u198
          have N485 : h50 160 9 = 0 → u196 160 46 = h 160 23 := fun y => N427 (by omega)
          refine pc_wA ?_; intro p_h53 q_h53 h53 E_h53
          obtain ⟨x_h53, y_h53, z_h53⟩ := w_nd E_h53 (by decide)
          have F486 : Fr h h53 n0 := fr_tr F482 (fr_w (n := n0) E_h53 (by decide) (by omega) (by omega) (gi_5 E_h53 (by rw [O484.1]; omega))) (by omega)
          have D487 := cc_wo E_h53 (by decide)
          have O488 : ON h53 u198.1 2 (-1) (-1) v49 (-1) (h 160 23) 0 := on_wo E_h53 (by decide) O484
          have N489 : h53 160 9 = 0 → u196 160 46 = h 160 23 := fun y => N485 (by omega)
          refine pc_sv pc_name ?_; intro u56 P_u56
          have S_u56 := P_u56.1
          have z_u56 := S_u56.1; have c_u56 := S_u56.2.2.1
          have n_u56 := P_u56.2.1
          have F490 : Fr h u56.2 n0 := fr_tr F486 (sm_fr (n := n0) S_u56) (by omega)
          have D491 := cc_sm S_u56
          have O492 : ON u56.2 u198.1 2 (-1) (-1) v49 (-1) (h 160 23) 0 := on_sm S_u56 O488
          have N493 : u56.2 160 9 = 0 → u196 160 46 = h 160 23 := fun y => N489 (S_u56.2.1 y)
          refine pc_wA ?_; intro p_h57 q_h57 h57 E_h57
          obtain ⟨x_h57, y_h57, z_h57⟩ := w_nd E_h57 (by decide)
          have F494 : Fr h h57 n0 := fr_tr F490 (fr_w (n := n0) E_h57 (by decide) (by omega) (by omega) (gi_o E_h57 (by decide))) (by omega)
          have D495 := cc_wo E_h57 (by decide)
          have O496 : ON h57 u198.1 2 (-1) (-1) v49 (-1) (h 160 23) 0 := on_wo E_h57 (by decide) O492
          have N497 : h57 160 9 = 0 → u196 160 46 = h 160 23 := fun y => N493 (by omega)
          have N498 : h57 160 9 = 0 → u56.2 160 23 = h53 160 23 + 1 ∧ u56.1 = h53 160 23 := fun y => P_u56.2.2 (by omega)
          refine pc_wA ?_; intro p_h60 q_h60 h60 E_h60
          obtain ⟨x_h60, y_h60, z_h60⟩ := w_nd E_h60 (by decide)
          have F499 : Fr h h60 n0 := fr_tr F494 (fr_w (n := n0) E_h60 (by decide) (by omega) (by omega) (gi_6 E_h60 (by omega) (by rw [O496.1]; omega))) (by omega)
          have D500 := cc_wo E_h60 (by decide)
          have O501 : ON h60 u198.1 2 (-1) (-1) v49 (-1) (h 160 23) (h57 160 23) := on_ws E_h60 O496
          have N502 : h60 160 9 = 0 → u196 160 46 = h 160 23 := fun y => N497 (by omega)
          have N503 : h60 160 9 = 0 → u56.2 160 23 = h53 160 23 + 1 ∧ u56.1 = h53 160 23 := fun y => N498 (by omega)
          refine pc_sv pc_sign_ ?_; intro u62 P_u62
          have S_u62 := P_u62.1
          have z_u62 := S_u62.1; have c_u62 := S_u62.2.2.1
          have F504 : Fr h u62 n0 := fr_tr F499 (sm_fr (n := n0) S_u62) (by omega)
          have D505 := cc_sm S_u62
          have O506 : ON u62 u198.1 2 (-1) (-1) v49 (-1) (h 160 23) (h57 160 23) := on_sm S_u62 O501
          have N507 : u62 160 9 = 0 → u196 160 46 = h 160 23 := fun y => N502 (S_u62.2.1 y)
          have N508 : u62 160 9 = 0 → u56.2 160 23 = h53 160 23 + 1 ∧ u56.1 = h53 160 23 := fun y => N503 (S_u62.2.1 y)
          refine pc_add (by omega) ?_; intro v64 e_v64
          subst e_v64
          refine pc_sv (ge_expression (nn := nn) (hmn.elim id) (a1 + 1) u62 (by omega) (by omega) (by omega)) ?_; intro u66 P_u66
          have F_u66 := P_u66.1; have z_u66 := F_u66.1.1; have c_u66 := F_u66.1.2.2
          have k_u66 := re_le (m := m) (d := 1) (d2 := (a1 + 1)) (by omega)
          have F509 : Fr h u66.2 n0 := fr_tr F504 F_u66 (by omega)
          have O510 : ON u66.2 u198.1 2 (-1) (-1) v49 (-1) (h 160 23) (h57 160 23) := on_F F_u66 (by omega) (by omega) O506
          have N511 : u66.2 160 9 = 0 → u196 160 46 = h 160 23 := fun y => N507 (F_u66.1.2.1 y)
          have N512 : u66.2 160 9 = 0 → u56.2 160 23 = h53 160 23 + 1 ∧ u56.1 = h53 160 23 := fun y => N508 (F_u66.1.2.1 y)
          have N513 : u66.2 160 9 = 0 → u62 160 23 = h60 160 23 + 1 ∧ h60 160 23 < 3002 := fun y => P_u62.2 (F_u66.1.2.1 y)
          refine pc_wA ?_; intro p_h67 q_h67 h67 E_h67
          obtain ⟨x_h67, y_h67, z_h67⟩ := w_nd E_h67 (by decide)
          have F514 : Fr h h67 n0 := fr_tr F509 (fr_w (n := n0) E_h67 (by decide) (by omega) (by omega) (gi_o E_h67 (by decide))) (by omega)
          have D515 := cc_wo E_h67 (by decide)
          have O516 : ON h67 u198.1 2 u66.1 (-1) v49 (-1) (h 160 23) (h57 160 23) := on_w0 E_h67 O510
          have N517 : h67 160 9 = 0 → u196 160 46 = h 160 23 := fun y => N511 (by omega)
          have N518 : h67 160 9 = 0 → u56.2 160 23 = h53 160 23 + 1 ∧ u56.1 = h53 160 23 := fun y => N512 (by omega)
          have N519 : h67 160 9 = 0 → u62 160 23 = h60 160 23 + 1 ∧ h60 160 23 < 3002 := fun y => N513 (by omega)
          have N520 : h67 160 9 = 0 → CC u66.2 + u62 160 23 ≤ CC u62 + u66.2 160 23 := fun y => (fun y => (P_u66.2 y).2) (by omega)
          have N521 : h67 160 9 = 0 → TE m h67 0 (RE m (a1 + 1)) (u62 160 22) (u66.2 160 22) u66.1 := fun y => te_w E_h67 (by omega) (by omega) (by omega) ((fun y => (P_u66.2 y).1) (by omega))
          refine pc_sv pc_sign_ ?_; intro u69 P_u69
          have S_u69 := P_u69.1
          have z_u69 := S_u69.1; have c_u69 := S_u69.2.2.1
          have F522 : Fr h u69 n0 := fr_tr F514 (sm_fr (n := n0) S_u69) (by omega)
          have D523 := cc_sm S_u69
          have O524 : ON u69 u198.1 2 u66.1 (-1) v49 (-1) (h 160 23) (h57 160 23) := on_sm S_u69 O516
          have N525 : u69 160 9 = 0 → u196 160 46 = h 160 23 := fun y => N517 (S_u69.2.1 y)
          have N526 : u69 160 9 = 0 → u56.2 160 23 = h53 160 23 + 1 ∧ u56.1 = h53 160 23 := fun y => N518 (S_u69.2.1 y)
          have N527 : u69 160 9 = 0 → u62 160 23 = h60 160 23 + 1 ∧ h60 160 23 < 3002 := fun y => N519 (S_u69.2.1 y)
          have N528 : u69 160 9 = 0 → CC u66.2 + u62 160 23 ≤ CC u62 + u66.2 160 23 := fun y => N520 (S_u69.2.1 y)
          have N529 : u69 160 9 = 0 → TE m u69 0 (RE m (a1 + 1)) (u62 160 22) (u66.2 160 22) u66.1 := fun y => te_sm S_u69 (by omega) (N521 (S_u69.2.1 y))
          refine pc_ret ⟨F522, fun y => ?_⟩
          have y : u69 160 9 = 0 := y
          have A530 := N525 y
          have A531 := N526 y
          have A532 := N527 y
          have A533 := N528 y
          have A534 := P_u69.2 y
          show u198.1 = n0 ∧ u69 169 n0.toNat = h 160 23 ∧ (u69 167 n0.toNat = 2 → h 160 23 + 2 ≤ u69 160 23) ∧ u69 173 n0.toNat = -1 ∧ TE m u69 2 (2 * (40 - a1) + 1) n0 (u69 160 22) u198.1 ∧ CC u69 + h 160 23 ≤ CC h + u69 160 23
          have on0 := O524
          have en0 : u198.1 = n0 := by omega
          rw [en0] at on0
          refine ⟨en0, on0.2.2.2.2.2.1.trans (by omega), fun z => ?_, on0.2.2.2.2.1, ?_, by omega⟩
          · rw [on0.1] at z; omega
          · skip
            have m1 := oq_mul_eq (x := 4) (y := (u198.2 160 46)) (by omega) (by omega) (by omega)
            have m2 := oq_add_eq (x := v201) (y := 2) (by omega) (by omega) (by omega)
            exact on_var O524 (by omega) ⟨by omega, by omega, by omega, by omega⟩ (te_wd (N529 y) (by omega) (by omega) (by omega) (by omega))
    · skip
      refine pc_add (by omega) ?_; intro v205 e_v205
      subst e_v205
      refine pc_sv (G.1 (a1 + 1) h (by omega) (by omega) (by omega)) ?_; intro u207 P_u207
      have F_u207 := P_u207.1; have z_u207 := F_u207.1.1; have c_u207 := F_u207.1.2.2
      have F535 : Fr h u207.2 n0 := fr_tr F0 F_u207 (by omega)
      refine pc_ret ⟨F535, fun y => ?_⟩
      have y : u207.2 160 9 = 0 := y
      have A536 := (fun y => (P_u207.2 y).2.2.2.2.2) y
      have A537 := ((cs_tb P_u207) y).1
      show u207.1 = n0 ∧ u207.2 169 n0.toNat = h 160 23 ∧ (u207.2 167 n0.toNat = 2 → h 160 23 + 2 ≤ u207.2 160 23) ∧ u207.2 173 n0.toNat = -1 ∧ TE m u207.2 2 (2 * (40 - a1) + 1) n0 (u207.2 160 22) u207.1 ∧ CC u207.2 + h 160 23 ≤ CC h + u207.2 160 23
      obtain ⟨w1, w2, w3, w5, w4, w6⟩ := P_u207.2 y; rw [hn0] at w1 w2 w3 w4 w5; exact ⟨w1, w2, w3, w5, te_wd w4 (by omega) (by omega) (by omega) (by omega), w6⟩
  · rw [if_neg d1]
    have S_u71 := P_u71.1
    have z_u71 := S_u71.1
    have F538 : Fr h u71.2 n0 := fr_tr F0 (sm_fr (n := n0) S_u71) (by omega)
    have D539 := cc_sm S_u71
    exact pc_ret ⟨F538, fun y => (d2 y).elim⟩
theorem gs_all {nn : Nat} {m : Int} (hm : m = 0 ∨ m = 1) : ∀ n, GS m (qg_X13_block nn n) := by
  intro n
  induction n with
  | zero => exact ⟨fun _ _ _ _ _ => pc_none, fun _ _ _ _ _ => pc_none⟩
  | succ n G => exact ⟨fun d h a b c => go_block hm G ⟨a, b⟩ c, fun d h a b c => go_statement hm G ⟨a, b⟩ c⟩
theorem ge_block {nn : Nat} {m : Int} (hm : m = 0 ∨ m = 1) (d : Int) (h : ms_M) (a : 0 ≤ d) (b : d ≤ 40) (c : 0 ≤ h 160 22) : Pc (qf_X13_block nn d h) (CS m (2 * (40 - d) + 2) h) := (gs_all hm 160).1 d h a b c
