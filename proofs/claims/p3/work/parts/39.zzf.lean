theorem vy_side {nn : Nat} (hn : 1000000 ≤ nn) {t h : ms_M} (S : SF t) (Y0 : YI t h) (N0 : MI t h) {a1 a2 : Int} (h1 : 0 ≤ a1 ∧ a1 < t 160 22) (h2 : -1 ≤ a2 ∧ a2 ≤ 900 ∧ a2 < 24 + 2 * t 160 24 ∧ (h 160 9 = 0 → 0 ≤ a2)) : Ok_ (qf_X13_side nn a1 a2 h) (fun u => QY t h 0 0 u ∧ (u.2 160 9 = 0 → ¬ a2 = 3)) := by
  unfold qf_X13_side
  have gg := gF_160_22 Y0.1
  have q22 : h 160 22 = t 160 22 := Y0.2.1 160 22 rfl
  have g24 := gF_160_24 Y0.1
  have q24 : h 160 24 = t 160 24 := Y0.2.1 160 24 rfl
  have g28 := gF_160_28 Y0.1
  have q28 : h 160 28 = t 160 28 := Y0.2.1 160 28 rfl
  have g52 := Y0.2.2.2.2.2.1
  have g57 := gF_160_57 Y0.1
  have g50 := gF_160_50 Y0.1
  have g53 := gF_160_53 Y0.1
  have m51 := Y0.2.2.2.2.2.2
  have c8 := S.2.2.2.1
  have g51 := gF_160_51 Y0.1
  have K0 : Ke h h := ke_rf
  have B0 : TC t h := bf_tc Y0.2.1
  have F0 : FG 0 0 h h := fg_rf
  refine ok_if (fun C1 => ?_) (fun C1 => ?_)
  · skip
    exact ok_ret ⟨⟨Y0, N0, K0, ⟨by omega, by omega, by omega, fun y => by have y : h 160 9 = 0 := y; show 0 ≤ a2; omega⟩, F0⟩, fun y => by have y : h 160 9 = 0 := y; omega⟩
  · skip
    refine ok_rd (by omega) (gA_168 Y0.1) ?_; intro v2 e_v2 a_v2 b_v2
    have t_v2 : v2 = t 168 (a1).toNat := by rw [e_v2]; exact Y0.2.1 168 _ (nw_ar rfl _)
    refine ok_sv (vy_wrong hn Y0 (by omega) (by omega)) ?_; intro u4 P_u4
    obtain ⟨Y_u4, K_u4, x_u4, f_u4⟩ := P_u4
    obtain ⟨k1_u4, k2_u4, k3_u4, k4_u4, k5_u4, k6_u4, k7_u4⟩ := K_u4.1
    have N_u4 : MI t u4 := mi_dead x_u4
    have K2 := ke_tr K0 K_u4
    have B_u4 : TC t u4 := bf_tc Y_u4.2.1
    have F3 : FG 0 0 h u4 := fg_tr F0 f_u4 (by omega)
    exact ok_ret ⟨⟨Y_u4, N_u4, K2, ⟨by omega, by omega, by omega, fun y => by have y : u4 160 9 = 0 := y; show 0 ≤ a2; omega⟩, F3⟩, fun y => by have y : u4 160 9 = 0 := y; omega⟩
theorem te_led {m d a b e : Int} {t : ms_M} (T : TE m t 0 d a b e) (hk : t 167 e.toNat = 30 ∨ t 167 e.toNat = 31 ∨ t 167 e.toNat = 32 ∨ t 167 e.toNat = 37 ∨ t 167 e.toNat = 38) : TE m t 0 d a e (t 170 e.toNat) := by
  rcases hk with k | k | k | k | k
  · exact (te_k30 T k).2
  · exact (te_k31 T k).2.2.1
  · exact (te_k37 T (.inl k)).1
  · exact (te_k37 T (.inr k)).1
  · exact te_k38 T k
theorem vy_led {nn : Nat} (hn : 1000000 ≤ nn) {t h : ms_M} (S : SF t) (Y0 : YI t h) (N0 : MI t h) {a1 d a b : Int} (T : TE 1 t 0 d a b a1) (hb : b ≤ t 160 22) (hk : t 167 a1.toNat = 30 ∨ t 167 a1.toNat = 31 ∨ t 167 a1.toNat = 32 ∨ t 167 a1.toNat = 37 ∨ t 167 a1.toNat = 38) : Ok_ (qf_X13_led nn a1 h) (fun u => QY t h 0 0 u ∧ 0 ≤ u.1 ∧ (u.2 160 9 = 0 → ¬ h 174 (t 170 a1.toNat).toNat = 3)) := by
  unfold qf_X13_led
  have o1 := te_rg T
  have gg := gF_160_22 Y0.1
  have q22 : h 160 22 = t 160 22 := Y0.2.1 160 22 rfl
  have g24 := gF_160_24 Y0.1
  have q24 : h 160 24 = t 160 24 := Y0.2.1 160 24 rfl
  have g28 := gF_160_28 Y0.1
  have q28 : h 160 28 = t 160 28 := Y0.2.1 160 28 rfl
  have g52 := Y0.2.2.2.2.2.1
  have g57 := gF_160_57 Y0.1
  have g50 := gF_160_50 Y0.1
  have g53 := gF_160_53 Y0.1
  have m51 := Y0.2.2.2.2.2.2
  have c8 := S.2.2.2.1
  have g51 := gF_160_51 Y0.1
  have K0 : Ke h h := ke_rf
  have B0 : TC t h := bf_tc Y0.2.1
  have F0 : FG 0 0 h h := fg_rf
  refine ok_if (fun C1 => ?_) (fun C1 => ?_)
  · skip
    refine ok_rd (by omega) (gA_170 Y0.1) ?_; intro v4 e_v4 a_v4 b_v4
    have t_v4 : v4 = t 170 (a1).toNat := by rw [e_v4]; exact Y0.2.1 170 _ (nw_ar rfl _)
    have c_v4 := te_led T hk; rw [← t_v4] at c_v4; have rc_v4 := te_rg c_v4
    refine ok_rd (by omega) (gA_174 Y0.1) ?_; intro v5 e_v5 a_v5 b_v5
    have m_v5 : h 160 9 = 0 → 0 ≤ v5 := fun y => by rw [e_v5]; exact (N0 y _ (by omega)).1
    have l_v5 : v5 < 24 + 2 * t 160 24 := by rw [e_v5]; exact Y0.2.2.1 _ (by omega)
    refine ok_if (fun C2 => ?_) (fun C2 => ?_)
    · skip
      exact ok_ret ⟨⟨Y0, N0, K0, ⟨by omega, by omega, by omega, fun y => by have y : h 160 9 = 0 := y; show 0 ≤ v5; omega⟩, F0⟩, by show 0 ≤ v5; omega, fun y => by have y : h 160 9 = 0 := y; first | (exfalso; omega) | (rw [← t_v4, ← e_v5]; omega)⟩
    · skip
      refine ok_rd (by omega) (gA_170 Y0.1) ?_; intro v8 e_v8 a_v8 b_v8
      have t_v8 : v8 = t 170 (a1).toNat := by rw [e_v8]; exact Y0.2.1 170 _ (nw_ar rfl _)
      have d_v8 : v4 = v8 := by rw [t_v8, t_v4]
      subst d_v8
      refine ok_rd (by omega) (gA_168 Y0.1) ?_; intro v9 e_v9 a_v9 b_v9
      have t_v9 : v9 = t 168 (v4).toNat := by rw [e_v9]; exact Y0.2.1 168 _ (nw_ar rfl _)
      refine ok_sv (vy_wrong hn Y0 (by omega) (by omega)) ?_; intro u11 P_u11
      obtain ⟨Y_u11, K_u11, x_u11, f_u11⟩ := P_u11
      obtain ⟨k1_u11, k2_u11, k3_u11, k4_u11, k5_u11, k6_u11, k7_u11⟩ := K_u11.1
      have N_u11 : MI t u11 := mi_dead x_u11
      have K3 := ke_tr K0 K_u11
      have B_u11 : TC t u11 := bf_tc Y_u11.2.1
      have F4 : FG 0 0 h u11 := fg_tr F0 f_u11 (by omega)
      exact ok_ret ⟨⟨Y_u11, N_u11, K3, ⟨by omega, by omega, by omega, fun y => by have y : u11 160 9 = 0 := y; show 0 ≤ v5; omega⟩, F4⟩, by show 0 ≤ v5; omega, fun y => by have y : u11 160 9 = 0 := y; first | (exfalso; omega) | (rw [← t_v4, ← e_v5]; omega)⟩
  · skip
    exact ok_ret ⟨⟨Y0, N0, K0, ⟨by omega, by omega, by omega, fun y => by have y : h 160 9 = 0 := y; show 0 ≤ 0; omega⟩, F0⟩, by show 0 ≤ 0; omega, fun y => by have y : h 160 9 = 0 := y; first | (exfalso; omega) | (rw [← t_v4, ← e_v5]; omega)⟩
theorem vy_isByClass {nn : Nat} (hn : 1000000 ≤ nn) {t h : ms_M} (S : SF t) (Y0 : YI t h) {a1 d a b : Int} (T : TE 1 t 0 d a b a1) (hb : b ≤ t 160 22) (hk : t 167 a1.toNat = 31) : Ok_ (qf_X13_isByClass nn a1 h) (fun u => 0 ≤ u ∧ u ≤ 1) := by
  unfold qf_X13_isByClass
  have o1 := te_rg T
  have gg := gF_160_22 Y0.1
  have q22 : h 160 22 = t 160 22 := Y0.2.1 160 22 rfl
  have g24 := gF_160_24 Y0.1
  have q24 : h 160 24 = t 160 24 := Y0.2.1 160 24 rfl
  have g28 := gF_160_28 Y0.1
  have q28 : h 160 28 = t 160 28 := Y0.2.1 160 28 rfl
  have g52 := Y0.2.2.2.2.2.1
  have g57 := gF_160_57 Y0.1
  have g50 := gF_160_50 Y0.1
  have g53 := gF_160_53 Y0.1
  have m51 := Y0.2.2.2.2.2.2
  have c8 := S.2.2.2.1
  have g51 := gF_160_51 Y0.1
  have K0 : Ke h h := ke_rf
  have B0 : TC t h := bf_tc Y0.2.1
  refine ok_rd (by omega) (gA_170 Y0.1) ?_; intro v2 e_v2 a_v2 b_v2
  have t_v2 : v2 = t 170 (a1).toNat := by rw [e_v2]; exact Y0.2.1 170 _ (nw_ar rfl _)
  have c1 : TE 1 t 0 d a a1 v2 := by rw [t_v2]; exact (te_k31 T (by omega)).2.2.1
  have rc1 := te_rg c1
  refine ok_rd (by omega) (gA_167 Y0.1) ?_; intro v4 e_v4 a_v4 b_v4
  have t_v4 : v4 = t 167 (v2).toNat := by rw [e_v4]; exact Y0.2.1 167 _ (nw_ar rfl _)
  refine ok_if (fun C2 => ?_) (fun C2 => ?_)
  · skip
    exact ok_ret (by omega)
  · skip
    refine ok_rd (by omega) (gA_177 Y0.1) ?_; intro v6 e_v6 a_v6 b_v6
    have t_v6 : v6 = t 177 (v2).toNat := by rw [e_v6]; exact Y0.2.1 177 _ (nw_ar rfl _)
    refine ok_if (fun C3 => ?_) (fun C3 => ?_)
    · skip
      exact ok_ret (by omega)
    · skip
      refine ok_rd (by omega) (gA_168 Y0.1) ?_; intro v8 e_v8 a_v8 b_v8
      have t_v8 : v8 = t 168 (v2).toNat := by rw [e_v8]; exact Y0.2.1 168 _ (nw_ar rfl _)
      refine ok_sv (vy_sightOf hn Y0 S (by omega)) ?_; intro u10 P_u10
      refine ok_if (fun C4 => ?_) (fun C4 => ?_)
      · skip
        exact ok_ret (by omega)
      · skip
        refine ok_rd (by omega) (gA_168 Y0.1) ?_; intro v13 e_v13 a_v13 b_v13
        have t_v13 : v13 = t 168 (v2).toNat := by rw [e_v13]; exact Y0.2.1 168 _ (nw_ar rfl _)
        have d_v13 : v8 = v13 := by rw [t_v13, t_v8]
        subst d_v13
        refine ok_sv (vy_memberOf hn Y0 S (by omega) (by omega)) ?_; intro u15 P_u15
        refine ok_if (fun C5 => ?_) (fun C5 => ?_)
        · skip
          exact ok_ret (by omega)
        · skip
          exact ok_ret (by omega)
theorem vy_isLed {nn : Nat} (hn : 1000000 ≤ nn) {t h : ms_M} (S : SF t) (Y0 : YI t h) {a1 d a b : Int} (T : TE 1 t 0 d a b a1) (hb : b ≤ t 160 22) : Ok_ (qf_X13_isLed nn a1 h) (fun u => (0 ≤ u ∧ u ≤ 1) ∧ (u = 0 ∨ t 167 a1.toNat = 30 ∨ t 167 a1.toNat = 31 ∨ t 167 a1.toNat = 32 ∨ t 167 a1.toNat = 37 ∨ t 167 a1.toNat = 38)) := by
  unfold qf_X13_isLed
  have o1 := te_rg T
  have gg := gF_160_22 Y0.1
  have q22 : h 160 22 = t 160 22 := Y0.2.1 160 22 rfl
  have g24 := gF_160_24 Y0.1
  have q24 : h 160 24 = t 160 24 := Y0.2.1 160 24 rfl
  have g28 := gF_160_28 Y0.1
  have q28 : h 160 28 = t 160 28 := Y0.2.1 160 28 rfl
  have g52 := Y0.2.2.2.2.2.1
  have g57 := gF_160_57 Y0.1
  have g50 := gF_160_50 Y0.1
  have g53 := gF_160_53 Y0.1
  have m51 := Y0.2.2.2.2.2.2
  have c8 := S.2.2.2.1
  have g51 := gF_160_51 Y0.1
  have K0 : Ke h h := ke_rf
  have B0 : TC t h := bf_tc Y0.2.1
  refine ok_rd (by omega) (gA_167 Y0.1) ?_; intro v2 e_v2 a_v2 b_v2
  have t_v2 : v2 = t 167 (a1).toNat := by rw [e_v2]; exact Y0.2.1 167 _ (nw_ar rfl _)
  refine ok_if (fun C1 => ?_) (fun C1 => ?_)
  · skip
    exact ok_ret (by omega)
  · skip
    refine ok_if (fun C2 => ?_) (fun C2 => ?_)
    · skip
      exact ok_ret (by omega)
    · skip
      refine ok_if (fun C3 => ?_) (fun C3 => ?_)
      · skip
        exact ok_ret (by omega)
      · skip
        refine ok_if (fun C4 => ?_) (fun C4 => ?_)
        · skip
          exact ok_ret (by omega)
        · skip
          refine ok_if (fun C5 => ?_) (fun C5 => ?_)
          · skip
            exact ok_ret (by omega)
          · skip
            refine ok_sv (vy_isByClass hn S Y0 T (by omega) (by omega)) ?_; intro u4 P_u4
            refine ok_if (fun C6 => ?_) (fun C6 => ?_)
            · skip
              exact ok_ret (by omega)
            · skip
              exact ok_ret (by omega)
theorem vy_named {nn : Nat} (hn : 1000000 ≤ nn) {t h : ms_M} (S : SF t) (Y0 : YI t h) (N0 : MI t h) {a1 : Int} (h1 : 0 ≤ a1 ∧ a1 < t 160 22) (hk : t 167 a1.toNat = 25) : Ok_ (qf_X13_named nn a1 h) (QY t h a1 (a1 + 1)) := by
  unfold qf_X13_named
  have gg := gF_160_22 Y0.1
  have q22 : h 160 22 = t 160 22 := Y0.2.1 160 22 rfl
  have g24 := gF_160_24 Y0.1
  have q24 : h 160 24 = t 160 24 := Y0.2.1 160 24 rfl
  have g28 := gF_160_28 Y0.1
  have q28 : h 160 28 = t 160 28 := Y0.2.1 160 28 rfl
  have g52 := Y0.2.2.2.2.2.1
  have g57 := gF_160_57 Y0.1
  have g50 := gF_160_50 Y0.1
  have g53 := gF_160_53 Y0.1
  have m51 := Y0.2.2.2.2.2.2
  have c8 := S.2.2.2.1
  have g51 := gF_160_51 Y0.1
  have K0 : Ke h h := ke_rf
  have B0 : TC t h := bf_tc Y0.2.1
  have F0 : FG a1 (a1 + 1) h h := fg_rf
  refine ok_rd (by omega) (gA_168 Y0.1) ?_; intro v7 e_v7 a_v7 b_v7
  have t_v7 : v7 = t 168 (a1).toNat := by rw [e_v7]; exact Y0.2.1 168 _ (nw_ar rfl _)
  refine ok_sv (vy_sightOf hn Y0 S (by omega)) ?_; intro u9 P_u9
  refine ok_if (fun C1 => ?_) (fun C1 => ?_)
  · skip
    refine ok_rd (by omega) (gA_168 Y0.1) ?_; intro v12 e_v12 a_v12 b_v12
    have t_v12 : v12 = t 168 (a1).toNat := by rw [e_v12]; exact Y0.2.1 168 _ (nw_ar rfl _)
    have d_v12 : v7 = v12 := by rw [t_v12, t_v7]
    subst d_v12
    refine ok_sv (vy_memberOf hn Y0 S (by omega) (by omega)) ?_; intro u14 P_u14
    refine ok_if (fun C2 => ?_) (fun C2 => ?_)
    · skip
      refine ok_if (fun C3 => ?_) (fun C3 => ?_)
      · skip
        unfold qj_X13_named_95
        refine ok_wA (by omega) ?_; intro h2 E_h2
        obtain ⟨Y_h2, K_h2⟩ := yi_175 Y0 (by omega) (by omega) E_h2
        obtain ⟨k1_h2, k2_h2, k3_h2, k4_h2, k5_h2, k6_h2, k7_h2⟩ := K_h2.1
        have s_h2 : h2 175 (a1).toNat = u14 := by rw [E_h2]; exact up_s
        have N_h2 := mi_175 N0 E_h2 (.inr (by omega))
        have K4 := ke_tr K0 K_h2
        have B_h2 : TC t h2 := bf_tc Y_h2.2.1
        have F5 : FG a1 (a1 + 1) h h2 := fg_tr F0 (fg_up (j := a1) E_h2 (by omega)) (by omega)
        refine ok_if (fun C6 => ?_) (fun C6 => ?_)
        · skip
          refine ok_rd (by omega) (gA_187 Y_h2.1) ?_; intro v4 e_v4 a_v4 b_v4
          have t_v4 : v4 = t 187 (u14).toNat := by rw [e_v4]; exact Y_h2.2.1 187 _ (nw_ar rfl _)
          have l_v4 : v4 < 24 + 2 * t 160 24 := by rw [t_v4]; exact (S.2.2.1 _ (by omega)).1
          exact ok_ret ⟨Y_h2, N_h2, K4, ⟨by omega, by omega, by omega, fun y => by have y : h2 160 9 = 0 := y; show 0 ≤ v4; omega⟩, F5⟩
        · skip
          exfalso; omega
      · skip
        refine ok_rd (by omega) (gA_168 Y0.1) ?_; intro v17 e_v17 a_v17 b_v17
        have t_v17 : v17 = t 168 (a1).toNat := by rw [e_v17]; exact Y0.2.1 168 _ (nw_ar rfl _)
        have d_v17 : v7 = v17 := by rw [t_v17, t_v7]
        subst d_v17
        refine ok_sv (vy_wrong hn Y0 (by omega) (by omega)) ?_; intro u19 P_u19
        obtain ⟨Y_u19, K_u19, x_u19, f_u19⟩ := P_u19
        obtain ⟨k1_u19, k2_u19, k3_u19, k4_u19, k5_u19, k6_u19, k7_u19⟩ := K_u19.1
        have N_u19 : MI t u19 := mi_dead x_u19
        have K7 := ke_tr K0 K_u19
        have B_u19 : TC t u19 := bf_tc Y_u19.2.1
        have F8 : FG a1 (a1 + 1) h u19 := fg_tr F0 f_u19 (by omega)
        unfold qj_X13_named_95
        refine ok_wA (by omega) ?_; intro h2 E_h2
        obtain ⟨Y_h2, K_h2⟩ := yi_175 Y_u19 (by omega) (by omega) E_h2
        obtain ⟨k1_h2, k2_h2, k3_h2, k4_h2, k5_h2, k6_h2, k7_h2⟩ := K_h2.1
        have s_h2 : h2 175 (a1).toNat = u14 := by rw [E_h2]; exact up_s
        have N_h2 := mi_175 N_u19 E_h2 (.inr (by omega))
        have K9 := ke_tr K7 K_h2
        have B_h2 : TC t h2 := bf_tc Y_h2.2.1
        have F10 : FG a1 (a1 + 1) h h2 := fg_tr F8 (fg_up (j := a1) E_h2 (by omega)) (by omega)
        refine ok_if (fun C11 => ?_) (fun C11 => ?_)
        · skip
          refine ok_rd (by omega) (gA_187 Y_h2.1) ?_; intro v4 e_v4 a_v4 b_v4
          have t_v4 : v4 = t 187 (u14).toNat := by rw [e_v4]; exact Y_h2.2.1 187 _ (nw_ar rfl _)
          have l_v4 : v4 < 24 + 2 * t 160 24 := by rw [t_v4]; exact (S.2.2.1 _ (by omega)).1
          exact ok_ret ⟨Y_h2, N_h2, K9, ⟨by omega, by omega, by omega, fun y => by have y : h2 160 9 = 0 := y; show 0 ≤ v4; omega⟩, F10⟩
        · skip
          exfalso; omega
    · skip
      refine ok_rd (by omega) (gA_168 Y0.1) ?_; intro v22 e_v22 a_v22 b_v22
      have t_v22 : v22 = t 168 (a1).toNat := by rw [e_v22]; exact Y0.2.1 168 _ (nw_ar rfl _)
      have d_v22 : v7 = v22 := by rw [t_v22, t_v7]
      subst d_v22
      refine ok_sv (vy_wrong hn Y0 (by omega) (by omega)) ?_; intro u24 P_u24
      obtain ⟨Y_u24, K_u24, x_u24, f_u24⟩ := P_u24
      obtain ⟨k1_u24, k2_u24, k3_u24, k4_u24, k5_u24, k6_u24, k7_u24⟩ := K_u24.1
      have N_u24 : MI t u24 := mi_dead x_u24
      have K12 := ke_tr K0 K_u24
      have B_u24 : TC t u24 := bf_tc Y_u24.2.1
      have F13 : FG a1 (a1 + 1) h u24 := fg_tr F0 f_u24 (by omega)
      unfold qj_X13_named_95
      refine ok_wA (by omega) ?_; intro h2 E_h2
      obtain ⟨Y_h2, K_h2⟩ := yi_175 Y_u24 (by omega) (by omega) E_h2
      obtain ⟨k1_h2, k2_h2, k3_h2, k4_h2, k5_h2, k6_h2, k7_h2⟩ := K_h2.1
      have s_h2 : h2 175 (a1).toNat = u14 := by rw [E_h2]; exact up_s
      have N_h2 := mi_175 N_u24 E_h2 (.inr (by omega))
      have K14 := ke_tr K12 K_h2
      have B_h2 : TC t h2 := bf_tc Y_h2.2.1
      have F15 : FG a1 (a1 + 1) h h2 := fg_tr F13 (fg_up (j := a1) E_h2 (by omega)) (by omega)
      refine ok_if (fun C16 => ?_) (fun C16 => ?_)
      · skip
        exfalso; omega
      · skip
        exact ok_ret ⟨Y_h2, N_h2, K14, ⟨by omega, by omega, by omega, fun y => by have y : h2 160 9 = 0 := y; show 0 ≤ 0; omega⟩, F15⟩
  · skip
    refine ok_wA (by omega) ?_; intro h27 E_h27
    obtain ⟨Y_h27, K_h27⟩ := yi_175 Y0 (by omega) (by omega) E_h27
    obtain ⟨k1_h27, k2_h27, k3_h27, k4_h27, k5_h27, k6_h27, k7_h27⟩ := K_h27.1
    have s_h27 : h27 175 (a1).toNat = (-1) := by rw [E_h27]; exact up_s
    have N_h27 := mi_175 N0 E_h27 (.inr (by omega))
    have K17 := ke_tr K0 K_h27
    have B_h27 : TC t h27 := bf_tc Y_h27.2.1
    have F18 : FG a1 (a1 + 1) h h27 := fg_tr F0 (fg_up (j := a1) E_h27 (by omega)) (by omega)
    refine ok_sv (vy_local Y_h27 (by omega)) ?_; intro u30 P_u30
    refine ok_wA (by omega) ?_; intro h31 E_h31
    obtain ⟨Y_h31, K_h31⟩ := yi_176 Y_h27 (by omega) (by omega) (by omega) E_h31
    obtain ⟨k1_h31, k2_h31, k3_h31, k4_h31, k5_h31, k6_h31, k7_h31⟩ := K_h31.1
    have s_h31 : h31 176 (a1).toNat = u30 := by rw [E_h31]; exact up_s
    have N_h31 := mi_up N_h27 E_h31 (by decide)
    have K19 := ke_tr K17 K_h31
    have B_h31 : TC t h31 := bf_tc Y_h31.2.1
    have F20 : FG a1 (a1 + 1) h h31 := fg_tr F18 (fg_up (j := a1) E_h31 (by omega)) (by omega)
    refine ok_rd (by omega) (gA_197 Y_h31.1) ?_; intro v33 e_v33 a_v33 b_v33
    have l_v33 : 0 ≤ v33 ∧ v33 < 24 + 2 * t 160 24 := by rw [e_v33]; exact Y_h31.2.2.2.1 _ (by omega)
    exact ok_ret ⟨Y_h31, N_h31, K19, ⟨by omega, by omega, by omega, fun y => by have y : h31 160 9 = 0 := y; show 0 ≤ v33; omega⟩, F20⟩
theorem vy_field {nn : Nat} (hn : 1000000 ≤ nn) {t h : ms_M} (S : SF t) (Y0 : YI t h) (N0 : MI t h) {a1 d a b : Int} (T : TE 1 t 0 d a b a1) (hb : b ≤ t 160 22) (hk : t 167 a1.toNat = 30) : Ok_ (qf_X13_field nn a1 h) (fun u => QY t h a1 (a1 + 1) u ∧ (u.2 160 9 = 0 → ¬ h 174 (t 170 a1.toNat).toNat = 3)) := by
  unfold qf_X13_field
  have o1 := te_rg T
  have gg := gF_160_22 Y0.1
  have q22 : h 160 22 = t 160 22 := Y0.2.1 160 22 rfl
  have g24 := gF_160_24 Y0.1
  have q24 : h 160 24 = t 160 24 := Y0.2.1 160 24 rfl
  have g28 := gF_160_28 Y0.1
  have q28 : h 160 28 = t 160 28 := Y0.2.1 160 28 rfl
  have g52 := Y0.2.2.2.2.2.1
  have g57 := gF_160_57 Y0.1
  have g50 := gF_160_50 Y0.1
  have g53 := gF_160_53 Y0.1
  have m51 := Y0.2.2.2.2.2.2
  have c8 := S.2.2.2.1
  have g51 := gF_160_51 Y0.1
  have K0 : Ke h h := ke_rf
  have B0 : TC t h := bf_tc Y0.2.1
  have F0 : FG a1 (a1 + 1) h h := fg_rf
  refine ok_sv (vy_led hn S Y0 N0 T (by omega) (by omega)) ?_; intro u16 P_u16
  have p5_u16 := P_u16.2.1; have p6_u16 := P_u16.2.2; replace P_u16 := P_u16.1
  obtain ⟨Y_u16, N_u16, K_u16, ⟨r1_u16, r2_u16, r3_u16, r4_u16⟩, f_u16⟩ := P_u16
  obtain ⟨k1_u16, k2_u16, k3_u16, k4_u16, k5_u16, k6_u16, k7_u16⟩ := K_u16.1
  have K1 := ke_tr K0 K_u16
  have B_u16 : TC t u16.2 := bf_tc Y_u16.2.1
  have F2 : FG a1 (a1 + 1) h u16.2 := fg_tr F0 f_u16 (by omega)
  refine ok_if (fun C3 => ?_) (fun C3 => ?_)
  · skip
    refine ok_if (fun C4 => ?_) (fun C4 => ?_)
    · skip
      unfold qj_X13_field_27
      refine ok_rd (by omega) (gA_172 Y_u16.1) ?_; intro v12 e_v12 a_v12 b_v12
      have t_v12 : v12 = t 172 (a1).toNat := by rw [e_v12]; exact Y_u16.2.1 172 _ (nw_ar rfl _)
      have q_v12 := (te_k30 T (by omega)).1
      refine ok_sv (vy_wrong hn Y_u16 (by omega) (by omega)) ?_; intro u14 P_u14
      obtain ⟨Y_u14, K_u14, x_u14, f_u14⟩ := P_u14
      obtain ⟨k1_u14, k2_u14, k3_u14, k4_u14, k5_u14, k6_u14, k7_u14⟩ := K_u14.1
      have N_u14 : MI t u14 := mi_dead x_u14
      have K5 := ke_tr K1 K_u14
      have B_u14 : TC t u14 := bf_tc Y_u14.2.1
      have F6 : FG a1 (a1 + 1) h u14 := fg_tr F2 f_u14 (by omega)
      exact ok_ret ⟨⟨Y_u14, N_u14, K5, ⟨by omega, by omega, by omega, fun y => by have y : u14 160 9 = 0 := y; show 0 ≤ 0; omega⟩, F6⟩, fun y => by have y : u14 160 9 = 0 := y; first | (exfalso; omega) | exact p6_u16 (by omega)⟩
    · skip
      refine ok_sv vy_isThing ?_; intro u18 P_u18
      refine ok_if (fun C7 => ?_) (fun C7 => ?_)
      · skip
        refine ok_sv vy_isArray ?_; intro u19 P_u19
        refine ok_if (fun C8 => ?_) (fun C8 => ?_)
        · skip
          refine ok_sub (by omega) ?_; intro v20 e_v20
          refine ok_div2 ?_; intro v21 e_v21 f_v21 g_v21
          refine ok_rd (by omega) (gA_168 Y_u16.1) ?_; intro v23 e_v23 a_v23 b_v23
          have t_v23 : v23 = t 168 (a1).toNat := by rw [e_v23]; exact Y_u16.2.1 168 _ (nw_ar rfl _)
          refine ok_sv (vy_memberOf hn Y_u16 S (by omega) (by omega)) ?_; intro u25 P_u25
          refine ok_if (fun C9 => ?_) (fun C9 => ?_)
          · skip
            unfold qj_X13_field_151
            refine ok_wA (by omega) ?_; intro h2 E_h2
            obtain ⟨Y_h2, K_h2⟩ := yi_175 Y_u16 (by omega) (by omega) E_h2
            obtain ⟨k1_h2, k2_h2, k3_h2, k4_h2, k5_h2, k6_h2, k7_h2⟩ := K_h2.1
            have s_h2 : h2 175 (a1).toNat = u25 := by rw [E_h2]; exact up_s
            have N_h2 := mi_175 N_u16 E_h2 (.inr (by omega))
            have K10 := ke_tr K1 K_h2
            have B_h2 : TC t h2 := bf_tc Y_h2.2.1
            have F11 : FG a1 (a1 + 1) h h2 := fg_tr F2 (fg_up (j := a1) E_h2 (by omega)) (by omega)
            refine ok_if (fun C12 => ?_) (fun C12 => ?_)
            · skip
              refine ok_rd (by omega) (gA_187 Y_h2.1) ?_; intro v4 e_v4 a_v4 b_v4
              have t_v4 : v4 = t 187 (u25).toNat := by rw [e_v4]; exact Y_h2.2.1 187 _ (nw_ar rfl _)
              have l_v4 : v4 < 24 + 2 * t 160 24 := by rw [t_v4]; exact (S.2.2.1 _ (by omega)).1
              exact ok_ret ⟨⟨Y_h2, N_h2, K10, ⟨by omega, by omega, by omega, fun y => by have y : h2 160 9 = 0 := y; show 0 ≤ v4; omega⟩, F11⟩, fun y => by have y : h2 160 9 = 0 := y; first | (exfalso; omega) | exact p6_u16 (by omega)⟩
            · skip
              exfalso; omega
          · skip
            refine ok_rd (by omega) (gA_168 Y_u16.1) ?_; intro v27 e_v27 a_v27 b_v27
            have t_v27 : v27 = t 168 (a1).toNat := by rw [e_v27]; exact Y_u16.2.1 168 _ (nw_ar rfl _)
            have d_v27 : v23 = v27 := by rw [t_v27, t_v23]
            subst d_v27
            refine ok_sv (vy_wrong hn Y_u16 (by omega) (by omega)) ?_; intro u29 P_u29
            obtain ⟨Y_u29, K_u29, x_u29, f_u29⟩ := P_u29
            obtain ⟨k1_u29, k2_u29, k3_u29, k4_u29, k5_u29, k6_u29, k7_u29⟩ := K_u29.1
            have N_u29 : MI t u29 := mi_dead x_u29
            have K13 := ke_tr K1 K_u29
            have B_u29 : TC t u29 := bf_tc Y_u29.2.1
            have F14 : FG a1 (a1 + 1) h u29 := fg_tr F2 f_u29 (by omega)
            unfold qj_X13_field_151
            refine ok_wA (by omega) ?_; intro h2 E_h2
            obtain ⟨Y_h2, K_h2⟩ := yi_175 Y_u29 (by omega) (by omega) E_h2
            obtain ⟨k1_h2, k2_h2, k3_h2, k4_h2, k5_h2, k6_h2, k7_h2⟩ := K_h2.1
            have s_h2 : h2 175 (a1).toNat = u25 := by rw [E_h2]; exact up_s
            have N_h2 := mi_175 N_u29 E_h2 (.inr (by omega))
            have K15 := ke_tr K13 K_h2
            have B_h2 : TC t h2 := bf_tc Y_h2.2.1
            have F16 : FG a1 (a1 + 1) h h2 := fg_tr F14 (fg_up (j := a1) E_h2 (by omega)) (by omega)
            refine ok_if (fun C17 => ?_) (fun C17 => ?_)
            · skip
              exfalso; omega
            · skip
              exact ok_ret ⟨⟨Y_h2, N_h2, K15, ⟨by omega, by omega, by omega, fun y => by have y : h2 160 9 = 0 := y; show 0 ≤ 0; omega⟩, F16⟩, fun y => by have y : h2 160 9 = 0 := y; first | (exfalso; omega) | exact p6_u16 (by omega)⟩
        · skip
          refine ok_wA (by omega) ?_; intro h32 E_h32
          obtain ⟨Y_h32, K_h32⟩ := yi_175 Y_u16 (by omega) (by omega) E_h32
          obtain ⟨k1_h32, k2_h32, k3_h32, k4_h32, k5_h32, k6_h32, k7_h32⟩ := K_h32.1
          have s_h32 : h32 175 (a1).toNat = (-1) := by rw [E_h32]; exact up_s
          have N_h32 := mi_175 N_u16 E_h32 (.inr (by omega))
          have K18 := ke_tr K1 K_h32
          have B_h32 : TC t h32 := bf_tc Y_h32.2.1
          have F19 : FG a1 (a1 + 1) h h32 := fg_tr F2 (fg_up (j := a1) E_h32 (by omega)) (by omega)
          refine ok_rd (by omega) (gA_168 Y_h32.1) ?_; intro v35 e_v35 a_v35 b_v35
          have t_v35 : v35 = t 168 (a1).toNat := by rw [e_v35]; exact Y_h32.2.1 168 _ (nw_ar rfl _)
          refine ok_rd (by omega) (gA_165 Y_h32.1) ?_; intro v36 e_v36 a_v36 b_v36
          have t_v36 : v36 = t 165 (v35).toNat := by rw [e_v36]; exact Y_h32.2.1 165 _ (nw_ar rfl _)
          refine ok_if (fun C20 => ?_) (fun C20 => ?_)
          · skip
            unfold qj_X13_field_98
            unfold qj_X13_field_99
            rw [if_neg (by decide)]
            refine ok_rd (by omega) (gA_168 Y_h32.1) ?_; intro v7 e_v7 a_v7 b_v7
            have t_v7 : v7 = t 168 (a1).toNat := by rw [e_v7]; exact Y_h32.2.1 168 _ (nw_ar rfl _)
            have d_v7 : v35 = v7 := by rw [t_v7, t_v35]
            subst d_v7
            refine ok_sv (vy_wrong hn Y_h32 (by omega) (by omega)) ?_; intro u9 P_u9
            obtain ⟨Y_u9, K_u9, x_u9, f_u9⟩ := P_u9
            obtain ⟨k1_u9, k2_u9, k3_u9, k4_u9, k5_u9, k6_u9, k7_u9⟩ := K_u9.1
            have N_u9 : MI t u9 := mi_dead x_u9
            have K21 := ke_tr K18 K_u9
            have B_u9 : TC t u9 := bf_tc Y_u9.2.1
            have F22 : FG a1 (a1 + 1) h u9 := fg_tr F19 f_u9 (by omega)
            exact ok_ret ⟨⟨Y_u9, N_u9, K21, ⟨by omega, by omega, by omega, fun y => by have y : u9 160 9 = 0 := y; show 0 ≤ 0; omega⟩, F22⟩, fun y => by have y : u9 160 9 = 0 := y; first | (exfalso; omega) | exact p6_u16 (by omega)⟩
          · skip
            refine ok_rd (by omega) (gA_168 Y_h32.1) ?_; intro v39 e_v39 a_v39 b_v39
            have t_v39 : v39 = t 168 (a1).toNat := by rw [e_v39]; exact Y_h32.2.1 168 _ (nw_ar rfl _)
            have d_v39 : v35 = v39 := by rw [t_v39, t_v35]
            subst d_v39
            refine ok_rd (by omega) (gA_164 Y_h32.1) ?_; intro v40 e_v40 a_v40 b_v40
            have t_v40 : v40 = t 164 (v35).toNat := by rw [e_v40]; exact Y_h32.2.1 164 _ (nw_ar rfl _)
            have w_v40 := S.1.1 (v35).toNat (by omega)
            refine ok_sv (vy_among4 hn Y_h32 (by omega)) ?_; intro u42 _
            refine ok_if (fun C23 => ?_) (fun C23 => ?_)
            · skip
              unfold qj_X13_field_98
              unfold qj_X13_field_99
              rw [if_neg (by decide)]
              refine ok_rd (by omega) (gA_168 Y_h32.1) ?_; intro v7 e_v7 a_v7 b_v7
              have t_v7 : v7 = t 168 (a1).toNat := by rw [e_v7]; exact Y_h32.2.1 168 _ (nw_ar rfl _)
              have d_v7 : v35 = v7 := by rw [t_v7, t_v35]
              subst d_v7
              refine ok_sv (vy_wrong hn Y_h32 (by omega) (by omega)) ?_; intro u9 P_u9
              obtain ⟨Y_u9, K_u9, x_u9, f_u9⟩ := P_u9
              obtain ⟨k1_u9, k2_u9, k3_u9, k4_u9, k5_u9, k6_u9, k7_u9⟩ := K_u9.1
              have N_u9 : MI t u9 := mi_dead x_u9
              have K24 := ke_tr K18 K_u9
              have B_u9 : TC t u9 := bf_tc Y_u9.2.1
              have F25 : FG a1 (a1 + 1) h u9 := fg_tr F19 f_u9 (by omega)
              exact ok_ret ⟨⟨Y_u9, N_u9, K24, ⟨by omega, by omega, by omega, fun y => by have y : u9 160 9 = 0 := y; show 0 ≤ 0; omega⟩, F25⟩, fun y => by have y : u9 160 9 = 0 := y; first | (exfalso; omega) | exact p6_u16 (by omega)⟩
            · skip
              unfold qj_X13_field_99
              rw [if_pos (by decide)]
              exact ok_ret ⟨⟨Y_h32, N_h32, K18, ⟨by omega, by omega, by omega, fun y => by have y : h32 160 9 = 0 := y; show 0 ≤ 0; omega⟩, F19⟩, fun y => by have y : h32 160 9 = 0 := y; first | (exfalso; omega) | exact p6_u16 (by omega)⟩
      · skip
        unfold qj_X13_field_27
        refine ok_rd (by omega) (gA_172 Y_u16.1) ?_; intro v12 e_v12 a_v12 b_v12
        have t_v12 : v12 = t 172 (a1).toNat := by rw [e_v12]; exact Y_u16.2.1 172 _ (nw_ar rfl _)
        have q_v12 := (te_k30 T (by omega)).1
        refine ok_sv (vy_wrong hn Y_u16 (by omega) (by omega)) ?_; intro u14 P_u14
        obtain ⟨Y_u14, K_u14, x_u14, f_u14⟩ := P_u14
        obtain ⟨k1_u14, k2_u14, k3_u14, k4_u14, k5_u14, k6_u14, k7_u14⟩ := K_u14.1
        have N_u14 : MI t u14 := mi_dead x_u14
        have K26 := ke_tr K1 K_u14
        have B_u14 : TC t u14 := bf_tc Y_u14.2.1
        have F27 : FG a1 (a1 + 1) h u14 := fg_tr F2 f_u14 (by omega)
        exact ok_ret ⟨⟨Y_u14, N_u14, K26, ⟨by omega, by omega, by omega, fun y => by have y : u14 160 9 = 0 := y; show 0 ≤ 0; omega⟩, F27⟩, fun y => by have y : u14 160 9 = 0 := y; first | (exfalso; omega) | exact p6_u16 (by omega)⟩
  · skip
    exact ok_ret ⟨⟨Y_u16, N_u16, K1, ⟨by omega, by omega, by omega, fun y => by have y : u16.2 160 9 = 0 := y; show 0 ≤ 0; omega⟩, F2⟩, fun y => by have y : u16.2 160 9 = 0 := y; first | (exfalso; omega) | exact p6_u16 (by omega)⟩
theorem vy_typeOf {nn : Nat} (hn : 1000000 ≤ nn) {t h : ms_M} (S : SF t) (Y0 : YI t h) (N0 : MI t h) {a1 a2 a3 : Int} (h2 : 0 ≤ a2 ∧ a2 ≤ 3001) (h3 : 0 ≤ a3 ∧ a3 ≤ 1) : Ok_ (qf_X13_typeOf nn a1 a2 a3 h) (fun u => QY t h 0 0 u ∧ 0 ≤ u.1) := by
  unfold qf_X13_typeOf
  have gg := gF_160_22 Y0.1
  have q22 : h 160 22 = t 160 22 := Y0.2.1 160 22 rfl
  have g24 := gF_160_24 Y0.1
  have q24 : h 160 24 = t 160 24 := Y0.2.1 160 24 rfl
  have g28 := gF_160_28 Y0.1
  have q28 : h 160 28 = t 160 28 := Y0.2.1 160 28 rfl
  have g52 := Y0.2.2.2.2.2.1
  have g57 := gF_160_57 Y0.1
  have g50 := gF_160_50 Y0.1
  have g53 := gF_160_53 Y0.1
  have m51 := Y0.2.2.2.2.2.2
  have c8 := S.2.2.2.1
  have g51 := gF_160_51 Y0.1
  have K0 : Ke h h := ke_rf
  have B0 : TC t h := bf_tc Y0.2.1
  have F0 : FG 0 0 h h := fg_rf
  refine ok_if (fun C1 => ?_) (fun C1 => ?_)
  · skip
    refine ok_if (fun C2 => ?_) (fun C2 => ?_)
    · skip
      refine ok_if (fun C3 => ?_) (fun C3 => ?_)
      · skip
        refine ok_if (fun C4 => ?_) (fun C4 => ?_)
        · skip
          refine ok_sv (vy_classOf hn Y0 S (by omega)) ?_; intro u8 P_u8
          refine ok_if (fun C5 => ?_) (fun C5 => ?_)
          · skip
            unfold qj_X13_typeOf_56
            refine ok_mul (by omega) ?_; intro v1 e_v1
            refine ok_add (by omega) ?_; intro v2 e_v2
            refine ok_if (fun C6 => ?_) (fun C6 => ?_)
            · skip
              refine ok_add (by omega) ?_; intro v3 e_v3
              exact ok_ret ⟨⟨Y0, N0, K0, ⟨by omega, by omega, by omega, fun y => by have y : h 160 9 = 0 := y; show 0 ≤ v3; omega⟩, F0⟩, by show 0 ≤ v3; omega⟩
            · skip
              refine ok_add (by omega) ?_; intro v4 e_v4
              exact ok_ret ⟨⟨Y0, N0, K0, ⟨by omega, by omega, by omega, fun y => by have y : h 160 9 = 0 := y; show 0 ≤ v4; omega⟩, F0⟩, by show 0 ≤ v4; omega⟩
          · skip
            refine ok_sv (vy_wrong hn Y0 (by omega) (by omega)) ?_; intro u10 P_u10
            obtain ⟨Y_u10, K_u10, x_u10, f_u10⟩ := P_u10
            obtain ⟨k1_u10, k2_u10, k3_u10, k4_u10, k5_u10, k6_u10, k7_u10⟩ := K_u10.1
            have N_u10 : MI t u10 := mi_dead x_u10
            have K7 := ke_tr K0 K_u10
            have B_u10 : TC t u10 := bf_tc Y_u10.2.1
            have F8 : FG 0 0 h u10 := fg_tr F0 f_u10 (by omega)
            unfold qj_X13_typeOf_56
            refine ok_mul (by omega) ?_; intro v1 e_v1
            refine ok_add (by omega) ?_; intro v2 e_v2
            refine ok_if (fun C9 => ?_) (fun C9 => ?_)
            · skip
              refine ok_add (by omega) ?_; intro v3 e_v3
              exact ok_ret ⟨⟨Y_u10, N_u10, K7, ⟨by omega, by omega, by omega, fun y => by have y : u10 160 9 = 0 := y; show 0 ≤ v3; omega⟩, F8⟩, by show 0 ≤ v3; omega⟩
            · skip
              refine ok_add (by omega) ?_; intro v4 e_v4
              exact ok_ret ⟨⟨Y_u10, N_u10, K7, ⟨by omega, by omega, by omega, fun y => by have y : u10 160 9 = 0 := y; show 0 ≤ v4; omega⟩, F8⟩, by show 0 ≤ v4; omega⟩
        · skip
          exact ok_ret ⟨⟨Y0, N0, K0, ⟨by omega, by omega, by omega, fun y => by have y : h 160 9 = 0 := y; show 0 ≤ 3; omega⟩, F0⟩, by show 0 ≤ 3; omega⟩
      · skip
        exact ok_ret ⟨⟨Y0, N0, K0, ⟨by omega, by omega, by omega, fun y => by have y : h 160 9 = 0 := y; show 0 ≤ 1; omega⟩, F0⟩, by show 0 ≤ 1; omega⟩
    · skip
      refine ok_if (fun C10 => ?_) (fun C10 => ?_)
      · skip
        exact ok_ret ⟨⟨Y0, N0, K0, ⟨by omega, by omega, by omega, fun y => by have y : h 160 9 = 0 := y; show 0 ≤ 0; omega⟩, F0⟩, by show 0 ≤ 0; omega⟩
      · skip
        exact ok_ret ⟨⟨Y0, N0, K0, ⟨by omega, by omega, by omega, fun y => by have y : h 160 9 = 0 := y; show 0 ≤ 4; omega⟩, F0⟩, by show 0 ≤ 4; omega⟩
  · skip
    exact ok_ret ⟨⟨Y0, N0, K0, ⟨by omega, by omega, by omega, fun y => by have y : h 160 9 = 0 := y; show 0 ≤ 0; omega⟩, F0⟩, by show 0 ≤ 0; omega⟩
theorem vy_canTake {nn : Nat} (hn : 1000000 ≤ nn) {t h : ms_M} (S : SF t) (Y0 : YI t h) {a1 : Int} (h1 : 0 ≤ a1 ∧ a1 < t 160 22) : Ok_ (qf_X13_canTake nn a1 h) (fun u => 0 ≤ u ∧ u ≤ 1 ∧ (¬ u = 0 → h 160 9 = 0 → t 167 a1.toNat = 25 ∨ t 167 a1.toNat = 32 ∨ (t 167 a1.toNat = 30 ∧ 0 ≤ h 175 a1.toNat))) := by
  unfold qf_X13_canTake
  have gg := gF_160_22 Y0.1
  have q22 : h 160 22 = t 160 22 := Y0.2.1 160 22 rfl
  have g24 := gF_160_24 Y0.1
  have q24 : h 160 24 = t 160 24 := Y0.2.1 160 24 rfl
  have g28 := gF_160_28 Y0.1
  have q28 : h 160 28 = t 160 28 := Y0.2.1 160 28 rfl
  have g52 := Y0.2.2.2.2.2.1
  have g57 := gF_160_57 Y0.1
  have g50 := gF_160_50 Y0.1
  have g53 := gF_160_53 Y0.1
  have m51 := Y0.2.2.2.2.2.2
  have c8 := S.2.2.2.1
  have g51 := gF_160_51 Y0.1
  have K0 : Ke h h := ke_rf
  have B0 : TC t h := bf_tc Y0.2.1
  refine ok_if (fun C1 => ?_) (fun C1 => ?_)
  · skip
    refine ok_rd (by omega) (gA_177 Y0.1) ?_; intro v3 e_v3 a_v3 b_v3
    have t_v3 : v3 = t 177 (a1).toNat := by rw [e_v3]; exact Y0.2.1 177 _ (nw_ar rfl _)
    refine ok_if (fun C2 => ?_) (fun C2 => ?_)
    · skip
      refine ok_rd (by omega) (gA_167 Y0.1) ?_; intro v5 e_v5 a_v5 b_v5
      have t_v5 : v5 = t 167 (a1).toNat := by rw [e_v5]; exact Y0.2.1 167 _ (nw_ar rfl _)
      refine ok_if (fun C3 => ?_) (fun C3 => ?_)
      · skip
        exact ok_ret (by omega)
      · skip
        refine ok_rd (by omega) (gA_167 Y0.1) ?_; intro v7 e_v7 a_v7 b_v7
        have t_v7 : v7 = t 167 (a1).toNat := by rw [e_v7]; exact Y0.2.1 167 _ (nw_ar rfl _)
        have d_v7 : v5 = v7 := by rw [t_v7, t_v5]
        subst d_v7
        refine ok_if (fun C4 => ?_) (fun C4 => ?_)
        · skip
          refine ok_rd (by omega) (gA_167 Y0.1) ?_; intro v9 e_v9 a_v9 b_v9
          have t_v9 : v9 = t 167 (a1).toNat := by rw [e_v9]; exact Y0.2.1 167 _ (nw_ar rfl _)
          have d_v9 : v5 = v9 := by rw [t_v9, t_v5]
          subst d_v9
          refine ok_if (fun C5 => ?_) (fun C5 => ?_)
          · skip
            exact ok_ret (by omega)
          · skip
            refine ok_rd (by omega) (gA_175 Y0.1) ?_; intro v11 e_v11 a_v11 b_v11
            refine ok_if (fun C6 => ?_) (fun C6 => ?_)
            · skip
              exact ok_ret (by omega)
            · skip
              exact ok_ret (by omega)
        · skip
          exact ok_ret (by omega)
    · skip
      exact ok_ret (by omega)
  · skip
    exact ok_ret (by omega)
theorem vz_given {nn : Nat} (hn : 1000000 ≤ nn) {t h : ms_M} (S : SF t) (Y0 : YI t h) (N0 : MI t h) {g : Int} {rc : tq_X13_condition} (G : GR nn t g rc) {a1 d a b : Int} (T : TE 1 t 0 d a b a1) (hb : b ≤ t 160 22) (hg : d + 2 ≤ g + 1) (h57 : h 160 57 + b ≤ 9000) : Ok_ (qo_X13_given nn rc a1 h) (fun u => QY t h a b u ∧ (u.2 160 9 = 0 → OV u.2 a b a1)) := by
  have o1 := te_rg T
  have gg := gF_160_22 Y0.1
  have q22 : h 160 22 = t 160 22 := Y0.2.1 160 22 rfl
  unfold qo_X13_given
  refine ok_sv (G.2.2.1 a1 _ _ _ h Y0 N0 T hb (by omega) h57) ?_; intro u2 P
  obtain ⟨Q, w⟩ := P
  refine ok_if (fun C => ok_ret ⟨Q, fun y => ⟨⟨o1.2.1, o1.2.2.1, by rw [(w y).2]; exact C⟩, (w y).1⟩⟩) (fun C => ?_)
  obtain ⟨Y2, N2, K2, ⟨r1, r2, r3, r4⟩, f2⟩ := Q
  refine ok_rd (by omega) (gA_168 Y2.1) ?_; intro v4 e4 a4 b4
  refine ok_sv (vy_wrong hn Y2 (by omega) (by omega)) ?_; intro u6 P6
  obtain ⟨Y6, K6, x6, f6⟩ := P6
  exact ok_ret ⟨⟨Y6, mi_dead x6, ke_tr K2 K6, ⟨r1, r2, r3, fun y => absurd y x6⟩, fg_tr f2 f6 (by omega)⟩, fun y => absurd y x6⟩
theorem vz_condition {nn : Nat} (hn : 1000000 ≤ nn) {t h : ms_M} (S : SF t) (Y0 : YI t h) (N0 : MI t h) {g : Int} {rc : tq_X13_condition} (G : GR nn t g rc) {a1 d a b : Int} (T : TE 1 t 0 d a b a1) (hb : b ≤ t 160 22) (hg : d + 3 ≤ g + 1) (h57 : h 160 57 + b ≤ 9000) : Ok_ (qo_X13_condition nn rc a1 h) (fun r => QZ t h a b r ∧ (r 160 9 = 0 → OV r a b a1)) := by
  have o1 := te_rg T
  have gg := gF_160_22 Y0.1
  have q22 : h 160 22 = t 160 22 := Y0.2.1 160 22 rfl
  unfold qo_X13_condition
  refine ok_sv (G.2.1 a1 _ _ _ h Y0 N0 T hb (by omega) h57) ?_; intro u2 P
  obtain ⟨⟨Y2, N2, K2, ⟨r1, r2, r3, r4⟩, f2⟩, w⟩ := P
  refine ok_if (fun C => ok_ret ⟨⟨Y2, N2, K2, f2⟩, w⟩) (fun C => ?_)
  refine ok_rd (by omega) (gA_169 Y2.1) ?_; intro v4 e4 a4 b4
  refine ok_sv (vy_wrong hn Y2 (by omega) (by omega)) ?_; intro u6 P6
  obtain ⟨Y6, K6, x6, f6⟩ := P6
  exact ok_ret ⟨⟨Y6, mi_dead x6, ke_tr K2 K6, fg_tr f2 f6 (by omega)⟩, fun y => absurd y x6⟩
set_option maxHeartbeats 8000000 in
theorem vz_rule {nn : Nat} (hn : 1000000 ≤ nn) {t h : ms_M} (S : SF t) (Y0 : YI t h) (N0 : MI t h) {g : Int} {rc : tq_X13_condition} (G : GR nn t g rc) {a1 d a b : Int} (T : TE 1 t 0 d a b a1) (hb : b ≤ t 160 22) (hg : d ≤ g + 1) (h57 : h 160 57 + b ≤ 9000) (hr : HR nn t h a a1) : Ok_ (qo_X13_rule nn rc a1 h) (fun u => QY t h a b u ∧ (u.2 160 9 = 0 → y0 u.2 (YT u.2) a b a1)) := by
  unfold qo_X13_rule
  have o1 := te_rg T
  have gg := gF_160_22 Y0.1
  have q22 : h 160 22 = t 160 22 := Y0.2.1 160 22 rfl
  have g24 := gF_160_24 Y0.1
  have q24 : h 160 24 = t 160 24 := Y0.2.1 160 24 rfl
  have g28 := gF_160_28 Y0.1
  have q28 : h 160 28 = t 160 28 := Y0.2.1 160 28 rfl
  have g52 := Y0.2.2.2.2.2.1
  have g57 := gF_160_57 Y0.1
  have g50 := gF_160_50 Y0.1
  have g53 := gF_160_53 Y0.1
  have m51 := Y0.2.2.2.2.2.2
  have c8 := S.2.2.2.1
  have g51 := gF_160_51 Y0.1
  have K0 : Ke h h := ke_rf
  have B0 : TC t h := bf_tc Y0.2.1
  have kd := te_kd T
  have F0 : FG a b h h := fg_rf
  refine ok_rd (by omega) (gA_167 Y0.1) ?_; intro v83 e_v83 a_v83 b_v83
  have t_v83 : v83 = t 167 (a1).toNat := by rw [e_v83]; exact Y0.2.1 167 _ (nw_ar rfl _)
  refine ok_if (fun C1 => ?_) (fun C1 => ?_)
  · skip
    exact ok_ret ⟨⟨Y0, N0, K0, ⟨by omega, by omega, by omega, fun y => by have y : h 160 9 = 0 := y; show 0 ≤ 0; omega⟩, F0⟩, fun y => by have y : h 160 9 = 0 := y; exact yl_leaf B0 ⟨by omega, by omega, by omega⟩ (by omega)⟩
  · skip
    refine ok_if (fun C2 => ?_) (fun C2 => ?_)
    · skip
      unfold qj_X13_rule_98
      exact ok_ret ⟨⟨Y0, N0, K0, ⟨by omega, by omega, by omega, fun y => by have y : h 160 9 = 0 := y; show 0 ≤ 1; omega⟩, F0⟩, fun y => by have y : h 160 9 = 0 := y; exact yl_leaf B0 ⟨by omega, by omega, by omega⟩ (by omega)⟩
    · skip
      refine ok_if (fun C3 => ?_) (fun C3 => ?_)
      · skip
        unfold qj_X13_rule_98
        exact ok_ret ⟨⟨Y0, N0, K0, ⟨by omega, by omega, by omega, fun y => by have y : h 160 9 = 0 := y; show 0 ≤ 1; omega⟩, F0⟩, fun y => by have y : h 160 9 = 0 := y; exact yl_leaf B0 ⟨by omega, by omega, by omega⟩ (by omega)⟩
      · skip
        refine ok_if (fun C4 => ?_) (fun C4 => ?_)
        · skip
          exact ok_ret ⟨⟨Y0, N0, K0, ⟨by omega, by omega, by omega, fun y => by have y : h 160 9 = 0 := y; show 0 ≤ 2; omega⟩, F0⟩, fun y => by have y : h 160 9 = 0 := y; exact yl_leaf B0 ⟨by omega, by omega, by omega⟩ (by omega)⟩
        · skip
          refine ok_if (fun C5 => ?_) (fun C5 => ?_)
          · skip
            refine ok_if (fun C6 => ?_) (fun C6 => ?_)
            · skip
              unfold qj_X13_rule_121
              refine ok_mul (by omega) ?_; intro v80 e_v80
              refine ok_add (by omega) ?_; intro v81 e_v81
              exact ok_ret ⟨⟨Y0, N0, K0, ⟨by omega, by omega, by omega, fun y => by have y : h 160 9 = 0 := y; show 0 ≤ v81; omega⟩, F0⟩, fun y => by have y : h 160 9 = 0 := y; exact yl_leaf B0 ⟨by omega, by omega, by omega⟩ (by omega)⟩
            · skip
              refine ok_rd (by omega) (gA_168 Y0.1) ?_; intro v105 e_v105 a_v105 b_v105
              have t_v105 : v105 = t 168 (a1).toNat := by rw [e_v105]; exact Y0.2.1 168 _ (nw_ar rfl _)
              refine ok_sv (vy_wrong hn Y0 (by omega) (by omega)) ?_; intro u107 P_u107
              obtain ⟨Y_u107, K_u107, x_u107, f_u107⟩ := P_u107
              obtain ⟨k1_u107, k2_u107, k3_u107, k4_u107, k5_u107, k6_u107, k7_u107⟩ := K_u107.1
              have N_u107 : MI t u107 := mi_dead x_u107
              have K7 := ke_tr K0 K_u107
              have B_u107 : TC t u107 := bf_tc Y_u107.2.1
              have F8 : FG a b h u107 := fg_tr F0 f_u107 (by omega)
              unfold qj_X13_rule_121
              refine ok_mul (by omega) ?_; intro v80 e_v80
              refine ok_add (by omega) ?_; intro v81 e_v81
              exact ok_ret ⟨⟨Y_u107, N_u107, K7, ⟨by omega, by omega, by omega, fun y => by have y : u107 160 9 = 0 := y; show 0 ≤ v81; omega⟩, F8⟩, fun y => by have y : u107 160 9 = 0 := y; exfalso; omega⟩
          · skip
            refine ok_if (fun C9 => ?_) (fun C9 => ?_)
            · skip
              refine ok_sv (vy_named hn S Y0 N0 (by omega) (by omega)) ?_; intro u110 P_u110
              obtain ⟨Y_u110, N_u110, K_u110, ⟨r1_u110, r2_u110, r3_u110, r4_u110⟩, f_u110⟩ := P_u110
              obtain ⟨k1_u110, k2_u110, k3_u110, k4_u110, k5_u110, k6_u110, k7_u110⟩ := K_u110.1
              have K10 := ke_tr K0 K_u110
              have B_u110 : TC t u110.2 := bf_tc Y_u110.2.1
              have F11 : FG a b h u110.2 := fg_tr F0 f_u110 (by omega)
              exact ok_ret ⟨⟨Y_u110, N_u110, K10, ⟨by omega, by omega, by omega, fun y => by have y : u110.2 160 9 = 0 := y; show 0 ≤ u110.1; omega⟩, F11⟩, fun y => by have y : u110.2 160 9 = 0 := y; exact yl_leaf B_u110 ⟨by omega, by omega, by omega⟩ (by omega)⟩
            · skip
              refine ok_if (fun C12 => ?_) (fun C12 => ?_)
              · skip
                refine ok_rd (by omega) (gA_168 Y0.1) ?_; intro v114 e_v114 a_v114 b_v114
                have t_v114 : v114 = t 168 (a1).toNat := by rw [e_v114]; exact Y0.2.1 168 _ (nw_ar rfl _)
                refine ok_sv (vy_memberOf hn Y0 S (by omega) (by omega)) ?_; intro u116 P_u116
                refine ok_wA (by omega) ?_; intro h117 E_h117
                obtain ⟨Y_h117, K_h117⟩ := yi_175 Y0 (by omega) (by omega) E_h117
                obtain ⟨k1_h117, k2_h117, k3_h117, k4_h117, k5_h117, k6_h117, k7_h117⟩ := K_h117.1
                have s_h117 : h117 175 (a1).toNat = u116 := by rw [E_h117]; exact up_s
                have K13 := ke_tr K0 K_h117
                have B_h117 : TC t h117 := bf_tc Y_h117.2.1
                have F14 : FG a b h h117 := fg_tr F0 (fg_up (j := a1) E_h117 (by omega)) (by omega)
                refine ok_rd (by omega) (gA_175 Y_h117.1) ?_; intro v119 e_v119 a_v119 b_v119
                refine ok_if (fun C15 => ?_) (fun C15 => ?_)
                · skip
                  have N_h117 := mi_175 N0 E_h117 (by omega)
                  refine ok_if (fun C16 => ?_) (fun C16 => ?_)
                  · skip
                    unfold qj_X13_rule_216
                    refine ok_rd (by omega) (gA_175 Y_h117.1) ?_; intro v76 e_v76 a_v76 b_v76
                    have y4 := (te_k26 T (by omega)).1
                    refine ok_sv (G.2.2.2.2.2.2 a1 v76 1 _ _ _ h117 Y_h117 N_h117 ((te_k26 T (by omega)).2) (by omega) (by omega) (by omega) (by omega) (by omega) (by omega) (by omega) (by omega)) ?_; intro u78 P_u78
                    have w_u78 := P_u78.2; replace P_u78 := P_u78.1
                    obtain ⟨Y_u78, N_u78, K_u78, ⟨r1_u78, r2_u78, r3_u78, r4_u78⟩, f_u78⟩ := P_u78
                    obtain ⟨k1_u78, k2_u78, k3_u78, k4_u78, k5_u78, k6_u78, k7_u78⟩ := K_u78.1
                    have K17 := ke_tr K13 K_u78
                    have B_u78 : TC t u78.2 := bf_tc Y_u78.2.1
                    have F18 : FG a b h u78.2 := fg_tr F14 f_u78 (by omega)
                    exact ok_ret ⟨⟨Y_u78, N_u78, K17, ⟨by omega, by omega, by omega, fun y => by have y : u78.2 160 9 = 0 := y; show 0 ≤ u78.1; omega⟩, F18⟩, fun y => by have y : u78.2 160 9 = 0 := y; exact yl_26 B_u78 ⟨by omega, by omega, by omega⟩ (by omega) (w_u78 y)⟩
                  · skip
                    refine ok_rd (by omega) (gA_175 Y_h117.1) ?_; intro v123 e_v123 a_v123 b_v123
                    refine ok_rd (by omega) (gA_182 Y_h117.1) ?_; intro v124 e_v124 a_v124 b_v124
                    have t_v124 : v124 = t 182 (v123).toNat := by rw [e_v124]; exact Y_h117.2.1 182 _ (nw_ar rfl _)
                    refine ok_if (fun C19 => ?_) (fun C19 => ?_)
                    · skip
                      unfold qj_X13_rule_216
                      refine ok_rd (by omega) (gA_175 Y_h117.1) ?_; intro v76 e_v76 a_v76 b_v76
                      have y4 := (te_k26 T (by omega)).1
                      refine ok_sv (G.2.2.2.2.2.2 a1 v76 1 _ _ _ h117 Y_h117 N_h117 ((te_k26 T (by omega)).2) (by omega) (by omega) (by omega) (by omega) (by omega) (by omega) (by omega) (by omega)) ?_; intro u78 P_u78
                      have w_u78 := P_u78.2; replace P_u78 := P_u78.1
                      obtain ⟨Y_u78, N_u78, K_u78, ⟨r1_u78, r2_u78, r3_u78, r4_u78⟩, f_u78⟩ := P_u78
                      obtain ⟨k1_u78, k2_u78, k3_u78, k4_u78, k5_u78, k6_u78, k7_u78⟩ := K_u78.1
                      have K20 := ke_tr K13 K_u78
                      have B_u78 : TC t u78.2 := bf_tc Y_u78.2.1
                      have F21 : FG a b h u78.2 := fg_tr F14 f_u78 (by omega)
                      exact ok_ret ⟨⟨Y_u78, N_u78, K20, ⟨by omega, by omega, by omega, fun y => by have y : u78.2 160 9 = 0 := y; show 0 ≤ u78.1; omega⟩, F21⟩, fun y => by have y : u78.2 160 9 = 0 := y; exact yl_26 B_u78 ⟨by omega, by omega, by omega⟩ (by omega) (w_u78 y)⟩
                    · skip
                      refine ok_rd (by omega) (gA_168 Y_h117.1) ?_; intro v126 e_v126 a_v126 b_v126
                      have t_v126 : v126 = t 168 (a1).toNat := by rw [e_v126]; exact Y_h117.2.1 168 _ (nw_ar rfl _)
                      have d_v126 : v114 = v126 := by rw [t_v126, t_v114]
                      subst d_v126
                      refine ok_sv (vy_wrong hn Y_h117 (by omega) (by omega)) ?_; intro u128 P_u128
                      obtain ⟨Y_u128, K_u128, x_u128, f_u128⟩ := P_u128
                      obtain ⟨k1_u128, k2_u128, k3_u128, k4_u128, k5_u128, k6_u128, k7_u128⟩ := K_u128.1
                      have N_u128 : MI t u128 := mi_dead x_u128
                      have K22 := ke_tr K13 K_u128
                      have B_u128 : TC t u128 := bf_tc Y_u128.2.1
                      have F23 : FG a b h u128 := fg_tr F14 f_u128 (by omega)
                      unfold qj_X13_rule_216
                      refine ok_rd (by omega) (gA_175 Y_u128.1) ?_; intro v76 e_v76 a_v76 b_v76
                      have y4 := (te_k26 T (by omega)).1
                      refine ok_sv (G.2.2.2.2.2.2 a1 v76 1 _ _ _ u128 Y_u128 N_u128 ((te_k26 T (by omega)).2) (by omega) (by omega) (by omega) (by omega) (by omega) (by omega) (by omega) (by omega)) ?_; intro u78 P_u78
                      have w_u78 := P_u78.2; replace P_u78 := P_u78.1
                      obtain ⟨Y_u78, N_u78, K_u78, ⟨r1_u78, r2_u78, r3_u78, r4_u78⟩, f_u78⟩ := P_u78
                      obtain ⟨k1_u78, k2_u78, k3_u78, k4_u78, k5_u78, k6_u78, k7_u78⟩ := K_u78.1
                      have K24 := ke_tr K22 K_u78
                      have B_u78 : TC t u78.2 := bf_tc Y_u78.2.1
                      have F25 : FG a b h u78.2 := fg_tr F23 f_u78 (by omega)
                      exact ok_ret ⟨⟨Y_u78, N_u78, K24, ⟨by omega, by omega, by omega, fun y => by have y : u78.2 160 9 = 0 := y; show 0 ≤ u78.1; omega⟩, F25⟩, fun y => by have y : u78.2 160 9 = 0 := y; exfalso; omega⟩
                · skip
                  refine ok_rd (by omega) (gA_168 Y_h117.1) ?_; intro v132 e_v132 a_v132 b_v132
                  have t_v132 : v132 = t 168 (a1).toNat := by rw [e_v132]; exact Y_h117.2.1 168 _ (nw_ar rfl _)
                  have d_v132 : v114 = v132 := by rw [t_v132, t_v114]
                  subst d_v132
                  refine ok_sv (vy_wrong hn Y_h117 (by omega) (by omega)) ?_; intro u134 P_u134
                  obtain ⟨Y_u134, K_u134, x_u134, f_u134⟩ := P_u134
                  obtain ⟨k1_u134, k2_u134, k3_u134, k4_u134, k5_u134, k6_u134, k7_u134⟩ := K_u134.1
                  have N_u134 : MI t u134 := mi_dead x_u134
                  have K26 := ke_tr K13 K_u134
                  have B_u134 : TC t u134 := bf_tc Y_u134.2.1
                  have F27 : FG a b h u134 := fg_tr F14 f_u134 (by omega)
                  unfold qj_X13_rule_216
                  refine ok_rd (by omega) (gA_175 Y_u134.1) ?_; intro v76 e_v76 a_v76 b_v76
                  have y4 := (te_k26 T (by omega)).1
                  refine ok_sv (G.2.2.2.2.2.2 a1 v76 1 _ _ _ u134 Y_u134 N_u134 ((te_k26 T (by omega)).2) (by omega) (by omega) (by omega) (by omega) (by omega) (by omega) (by omega) (by omega)) ?_; intro u78 P_u78
                  have w_u78 := P_u78.2; replace P_u78 := P_u78.1
                  obtain ⟨Y_u78, N_u78, K_u78, ⟨r1_u78, r2_u78, r3_u78, r4_u78⟩, f_u78⟩ := P_u78
                  obtain ⟨k1_u78, k2_u78, k3_u78, k4_u78, k5_u78, k6_u78, k7_u78⟩ := K_u78.1
                  have K28 := ke_tr K26 K_u78
                  have B_u78 : TC t u78.2 := bf_tc Y_u78.2.1
                  have F29 : FG a b h u78.2 := fg_tr F27 f_u78 (by omega)
                  exact ok_ret ⟨⟨Y_u78, N_u78, K28, ⟨by omega, by omega, by omega, fun y => by have y : u78.2 160 9 = 0 := y; show 0 ≤ u78.1; omega⟩, F29⟩, fun y => by have y : u78.2 160 9 = 0 := y; exfalso; omega⟩
              · skip
                refine ok_if (fun C30 => ?_) (fun C30 => ?_)
                · skip
                  refine ok_rd (by omega) (gA_168 Y0.1) ?_; intro v137 e_v137 a_v137 b_v137
                  have t_v137 : v137 = t 168 (a1).toNat := by rw [e_v137]; exact Y0.2.1 168 _ (nw_ar rfl _)
                  refine ok_sv (vy_classOf hn Y0 S (by omega)) ?_; intro u139 P_u139
                  refine ok_if (fun C31 => ?_) (fun C31 => ?_)
                  · skip
                    unfold qj_X13_rule_256
                    refine ok_mul (by omega) ?_; intro v73 e_v73
                    refine ok_add (by omega) ?_; intro v74 e_v74
                    exact ok_ret ⟨⟨Y0, N0, K0, ⟨by omega, by omega, by omega, fun y => by have y : h 160 9 = 0 := y; show 0 ≤ v74; omega⟩, F0⟩, fun y => by have y : h 160 9 = 0 := y; exact yl_leaf B0 ⟨by omega, by omega, by omega⟩ (by omega)⟩
                  · skip
                    refine ok_rd (by omega) (gA_168 Y0.1) ?_; intro v141 e_v141 a_v141 b_v141
                    have t_v141 : v141 = t 168 (a1).toNat := by rw [e_v141]; exact Y0.2.1 168 _ (nw_ar rfl _)
                    have d_v141 : v137 = v141 := by rw [t_v141, t_v137]
                    subst d_v141
                    refine ok_sv (vy_wrong hn Y0 (by omega) (by omega)) ?_; intro u143 P_u143
                    obtain ⟨Y_u143, K_u143, x_u143, f_u143⟩ := P_u143
                    obtain ⟨k1_u143, k2_u143, k3_u143, k4_u143, k5_u143, k6_u143, k7_u143⟩ := K_u143.1
                    have N_u143 : MI t u143 := mi_dead x_u143
                    have K32 := ke_tr K0 K_u143
                    have B_u143 : TC t u143 := bf_tc Y_u143.2.1
                    have F33 : FG a b h u143 := fg_tr F0 f_u143 (by omega)
                    unfold qj_X13_rule_256
                    refine ok_mul (by omega) ?_; intro v73 e_v73
                    refine ok_add (by omega) ?_; intro v74 e_v74
                    exact ok_ret ⟨⟨Y_u143, N_u143, K32, ⟨by omega, by omega, by omega, fun y => by have y : u143 160 9 = 0 := y; show 0 ≤ v74; omega⟩, F33⟩, fun y => by have y : u143 160 9 = 0 := y; exfalso; omega⟩
                · skip
                  refine ok_if (fun C34 => ?_) (fun C34 => ?_)
                  · skip
                    refine ok_rd (by omega) (gA_170 Y0.1) ?_; intro v146 e_v146 a_v146 b_v146
                    have t_v146 : v146 = t 170 (a1).toNat := by rw [e_v146]; exact Y0.2.1 170 _ (nw_ar rfl _)
                    have c35 : TE 1 t 0 (d - 2 - 1) (a1 + 1) b v146 := by rw [t_v146]; exact (te_k28 T (by omega)).2
                    have rc35 := te_rg c35
                    refine ok_sv (G.2.1 v146 _ _ _ h Y0 N0 c35 (by omega) (by omega) (by omega)) ?_; intro u148 P_u148
                    have w_u148 := P_u148.2; replace P_u148 := P_u148.1
                    obtain ⟨Y_u148, N_u148, K_u148, ⟨r1_u148, r2_u148, r3_u148, r4_u148⟩, f_u148⟩ := P_u148
                    obtain ⟨k1_u148, k2_u148, k3_u148, k4_u148, k5_u148, k6_u148, k7_u148⟩ := K_u148.1
                    have K36 := ke_tr K0 K_u148
                    have B_u148 : TC t u148.2 := bf_tc Y_u148.2.1
                    have F37 : FG a b h u148.2 := fg_tr F0 f_u148 (by omega)
                    refine ok_if (fun C38 => ?_) (fun C38 => ?_)
                    · skip
                      exact ok_ret ⟨⟨Y_u148, N_u148, K36, ⟨by omega, by omega, by omega, fun y => by have y : u148.2 160 9 = 0 := y; show 0 ≤ 4; omega⟩, F37⟩, fun y => by have y : u148.2 160 9 = 0 := y; exact yl_28 B_u148 ⟨by omega, by omega, by omega⟩ (by omega) (by rw [← t_v146]; exact w_u148 y)⟩
                    · skip
                      refine ok_rd (by omega) (gA_168 Y_u148.1) ?_; intro v150 e_v150 a_v150 b_v150
                      have t_v150 : v150 = t 168 (a1).toNat := by rw [e_v150]; exact Y_u148.2.1 168 _ (nw_ar rfl _)
                      refine ok_sv (vy_wrong hn Y_u148 (by omega) (by omega)) ?_; intro u152 P_u152
                      obtain ⟨Y_u152, K_u152, x_u152, f_u152⟩ := P_u152
                      obtain ⟨k1_u152, k2_u152, k3_u152, k4_u152, k5_u152, k6_u152, k7_u152⟩ := K_u152.1
                      have N_u152 : MI t u152 := mi_dead x_u152
                      have K39 := ke_tr K36 K_u152
                      have B_u152 : TC t u152 := bf_tc Y_u152.2.1
                      have F40 : FG a b h u152 := fg_tr F37 f_u152 (by omega)
                      exact ok_ret ⟨⟨Y_u152, N_u152, K39, ⟨by omega, by omega, by omega, fun y => by have y : u152 160 9 = 0 := y; show 0 ≤ 4; omega⟩, F40⟩, fun y => by have y : u152 160 9 = 0 := y; exfalso; omega⟩
                  · skip
                    refine ok_if (fun C41 => ?_) (fun C41 => ?_)
                    · skip
                      refine ok_rd (by omega) (gA_168 Y0.1) ?_; intro v155 e_v155 a_v155 b_v155
                      have t_v155 : v155 = t 168 (a1).toNat := by rw [e_v155]; exact Y0.2.1 168 _ (nw_ar rfl _)
                      refine ok_sv (vy_classOf hn Y0 S (by omega)) ?_; intro u157 P_u157
                      refine ok_if (fun C42 => ?_) (fun C42 => ?_)
                      · skip
                        unfold qj_X13_rule_317
                        refine ok_rd (by omega) (gA_170 Y0.1) ?_; intro v65 e_v65 a_v65 b_v65
                        have t_v65 : v65 = t 170 (a1).toNat := by rw [e_v65]; exact Y0.2.1 170 _ (nw_ar rfl _)
                        have c43 : TE 1 t 0 (d - 2 - 1) (a1 + 1) b v65 := by rw [t_v65]; exact (te_k28 T (by omega)).2
                        have rc43 := te_rg c43
                        refine ok_sv (G.2.1 v65 _ _ _ h Y0 N0 c43 (by omega) (by omega) (by omega)) ?_; intro u67 P_u67
                        have w_u67 := P_u67.2; replace P_u67 := P_u67.1
                        obtain ⟨Y_u67, N_u67, K_u67, ⟨r1_u67, r2_u67, r3_u67, r4_u67⟩, f_u67⟩ := P_u67
                        obtain ⟨k1_u67, k2_u67, k3_u67, k4_u67, k5_u67, k6_u67, k7_u67⟩ := K_u67.1
                        have K44 := ke_tr K0 K_u67
                        have B_u67 : TC t u67.2 := bf_tc Y_u67.2.1
                        have F45 : FG a b h u67.2 := fg_tr F0 f_u67 (by omega)
                        refine ok_if (fun C46 => ?_) (fun C46 => ?_)
                        · skip
                          unfold qj_X13_rule_342
                          refine ok_mul (by omega) ?_; intro v61 e_v61
                          refine ok_add (by omega) ?_; intro v62 e_v62
                          refine ok_add (by omega) ?_; intro v63 e_v63
                          exact ok_ret ⟨⟨Y_u67, N_u67, K44, ⟨by omega, by omega, by omega, fun y => by have y : u67.2 160 9 = 0 := y; show 0 ≤ v63; omega⟩, F45⟩, fun y => by have y : u67.2 160 9 = 0 := y; exact yl_28 B_u67 ⟨by omega, by omega, by omega⟩ (by omega) (by rw [← t_v65]; exact w_u67 y)⟩
                        · skip
                          refine ok_rd (by omega) (gA_172 Y_u67.1) ?_; intro v69 e_v69 a_v69 b_v69
                          have t_v69 : v69 = t 172 (a1).toNat := by rw [e_v69]; exact Y_u67.2.1 172 _ (nw_ar rfl _)
                          have q_v69 := (te_k28 T (by omega)).1
                          refine ok_sv (vy_wrong hn Y_u67 (by omega) (by omega)) ?_; intro u71 P_u71
                          obtain ⟨Y_u71, K_u71, x_u71, f_u71⟩ := P_u71
                          obtain ⟨k1_u71, k2_u71, k3_u71, k4_u71, k5_u71, k6_u71, k7_u71⟩ := K_u71.1
                          have N_u71 : MI t u71 := mi_dead x_u71
                          have K47 := ke_tr K44 K_u71
                          have B_u71 : TC t u71 := bf_tc Y_u71.2.1
                          have F48 : FG a b h u71 := fg_tr F45 f_u71 (by omega)
                          unfold qj_X13_rule_342
                          refine ok_mul (by omega) ?_; intro v61 e_v61
                          refine ok_add (by omega) ?_; intro v62 e_v62
                          refine ok_add (by omega) ?_; intro v63 e_v63
                          exact ok_ret ⟨⟨Y_u71, N_u71, K47, ⟨by omega, by omega, by omega, fun y => by have y : u71 160 9 = 0 := y; show 0 ≤ v63; omega⟩, F48⟩, fun y => by have y : u71 160 9 = 0 := y; exfalso; omega⟩
                      · skip
                        refine ok_rd (by omega) (gA_168 Y0.1) ?_; intro v159 e_v159 a_v159 b_v159
                        have t_v159 : v159 = t 168 (a1).toNat := by rw [e_v159]; exact Y0.2.1 168 _ (nw_ar rfl _)
                        have d_v159 : v155 = v159 := by rw [t_v159, t_v155]
                        subst d_v159
                        refine ok_sv (vy_wrong hn Y0 (by omega) (by omega)) ?_; intro u161 P_u161
                        obtain ⟨Y_u161, K_u161, x_u161, f_u161⟩ := P_u161
                        obtain ⟨k1_u161, k2_u161, k3_u161, k4_u161, k5_u161, k6_u161, k7_u161⟩ := K_u161.1
                        have N_u161 : MI t u161 := mi_dead x_u161
                        have K49 := ke_tr K0 K_u161
                        have B_u161 : TC t u161 := bf_tc Y_u161.2.1
                        have F50 : FG a b h u161 := fg_tr F0 f_u161 (by omega)
                        unfold qj_X13_rule_317
                        refine ok_rd (by omega) (gA_170 Y_u161.1) ?_; intro v65 e_v65 a_v65 b_v65
                        have t_v65 : v65 = t 170 (a1).toNat := by rw [e_v65]; exact Y_u161.2.1 170 _ (nw_ar rfl _)
                        have c51 : TE 1 t 0 (d - 2 - 1) (a1 + 1) b v65 := by rw [t_v65]; exact (te_k28 T (by omega)).2
                        have rc51 := te_rg c51
                        refine ok_sv (G.2.1 v65 _ _ _ u161 Y_u161 N_u161 c51 (by omega) (by omega) (by omega)) ?_; intro u67 P_u67
                        have w_u67 := P_u67.2; replace P_u67 := P_u67.1
                        obtain ⟨Y_u67, N_u67, K_u67, ⟨r1_u67, r2_u67, r3_u67, r4_u67⟩, f_u67⟩ := P_u67
                        obtain ⟨k1_u67, k2_u67, k3_u67, k4_u67, k5_u67, k6_u67, k7_u67⟩ := K_u67.1
                        have K52 := ke_tr K49 K_u67
                        have B_u67 : TC t u67.2 := bf_tc Y_u67.2.1
                        have F53 : FG a b h u67.2 := fg_tr F50 f_u67 (by omega)
                        refine ok_if (fun C54 => ?_) (fun C54 => ?_)
                        · skip
                          unfold qj_X13_rule_342
                          refine ok_mul (by omega) ?_; intro v61 e_v61
                          refine ok_add (by omega) ?_; intro v62 e_v62
                          refine ok_add (by omega) ?_; intro v63 e_v63
                          exact ok_ret ⟨⟨Y_u67, N_u67, K52, ⟨by omega, by omega, by omega, fun y => by have y : u67.2 160 9 = 0 := y; show 0 ≤ v63; omega⟩, F53⟩, fun y => by have y : u67.2 160 9 = 0 := y; exfalso; omega⟩
                        · skip
                          refine ok_rd (by omega) (gA_172 Y_u67.1) ?_; intro v69 e_v69 a_v69 b_v69
                          have t_v69 : v69 = t 172 (a1).toNat := by rw [e_v69]; exact Y_u67.2.1 172 _ (nw_ar rfl _)
                          have q_v69 := (te_k28 T (by omega)).1
                          refine ok_sv (vy_wrong hn Y_u67 (by omega) (by omega)) ?_; intro u71 P_u71
                          obtain ⟨Y_u71, K_u71, x_u71, f_u71⟩ := P_u71
                          obtain ⟨k1_u71, k2_u71, k3_u71, k4_u71, k5_u71, k6_u71, k7_u71⟩ := K_u71.1
                          have N_u71 : MI t u71 := mi_dead x_u71
                          have K55 := ke_tr K52 K_u71
                          have B_u71 : TC t u71 := bf_tc Y_u71.2.1
                          have F56 : FG a b h u71 := fg_tr F53 f_u71 (by omega)
                          unfold qj_X13_rule_342
                          refine ok_mul (by omega) ?_; intro v61 e_v61
                          refine ok_add (by omega) ?_; intro v62 e_v62
                          refine ok_add (by omega) ?_; intro v63 e_v63
                          exact ok_ret ⟨⟨Y_u71, N_u71, K55, ⟨by omega, by omega, by omega, fun y => by have y : u71 160 9 = 0 := y; show 0 ≤ v63; omega⟩, F56⟩, fun y => by have y : u71 160 9 = 0 := y; exfalso; omega⟩
                    · skip
                      refine ok_if (fun C57 => ?_) (fun C57 => ?_)
                      · skip
                        refine ok_sv (vy_field hn S Y0 N0 T (by omega) (by omega)) ?_; intro u164 P_u164
                        have p6_u164 := P_u164.2; replace P_u164 := P_u164.1
                        obtain ⟨Y_u164, N_u164, K_u164, ⟨r1_u164, r2_u164, r3_u164, r4_u164⟩, f_u164⟩ := P_u164
                        obtain ⟨k1_u164, k2_u164, k3_u164, k4_u164, k5_u164, k6_u164, k7_u164⟩ := K_u164.1
                        have K58 := ke_tr K0 K_u164
                        have B_u164 : TC t u164.2 := bf_tc Y_u164.2.1
                        have F59 : FG a b h u164.2 := fg_tr F0 f_u164 (by omega)
                        have rgN60 := te_rg (te_led T (by omega))
                        have N60 : u164.2 160 9 = 0 → OV u164.2 a a1 (t 170 a1.toNat) := fun y => ov_fg B0 B_u164 f_u164 (by omega) (by omega) ⟨⟨rgN60.2.1, rgN60.2.2.1, p6_u164 y⟩, (hr (k7_u164 y)).1 (by omega)⟩
                        exact ok_ret ⟨⟨Y_u164, N_u164, K58, ⟨by omega, by omega, by omega, fun y => by have y : u164.2 160 9 = 0 := y; show 0 ≤ u164.1; omega⟩, F59⟩, fun y => by have y : u164.2 160 9 = 0 := y; exact yl_30 B_u164 ⟨by omega, by omega, by omega⟩ (by omega) (N60 y)⟩
                      · skip
                        refine ok_if (fun C61 => ?_) (fun C61 => ?_)
                        · skip
                          refine ok_sv (G.2.2.2.2.2.1 a1 _ _ _ h Y0 N0 T (by omega) (by omega) (by omega) (by omega) hr) ?_; intro u166 P_u166
                          have w_u166 := P_u166.2; replace P_u166 := P_u166.1
                          obtain ⟨Y_u166, N_u166, K_u166, ⟨r1_u166, r2_u166, r3_u166, r4_u166⟩, f_u166⟩ := P_u166
                          obtain ⟨k1_u166, k2_u166, k3_u166, k4_u166, k5_u166, k6_u166, k7_u166⟩ := K_u166.1
                          have K62 := ke_tr K0 K_u166
                          have B_u166 : TC t u166.2 := bf_tc Y_u166.2.1
                          have F63 : FG a b h u166.2 := fg_tr F0 f_u166 (by omega)
                          exact ok_ret ⟨⟨Y_u166, N_u166, K62, ⟨by omega, by omega, by omega, fun y => by have y : u166.2 160 9 = 0 := y; show 0 ≤ u166.1; omega⟩, F63⟩, w_u166⟩
                        · skip
                          refine ok_if (fun C64 => ?_) (fun C64 => ?_)
                          · skip
                            refine ok_sv (vy_led hn S Y0 N0 T (by omega) (by omega)) ?_; intro u168 P_u168
                            have p5_u168 := P_u168.2.1; have p6_u168 := P_u168.2.2; replace P_u168 := P_u168.1
                            obtain ⟨Y_u168, N_u168, K_u168, ⟨r1_u168, r2_u168, r3_u168, r4_u168⟩, f_u168⟩ := P_u168
                            obtain ⟨k1_u168, k2_u168, k3_u168, k4_u168, k5_u168, k6_u168, k7_u168⟩ := K_u168.1
                            have K65 := ke_tr K0 K_u168
                            have B_u168 : TC t u168.2 := bf_tc Y_u168.2.1
                            have F66 : FG a b h u168.2 := fg_tr F0 f_u168 (by omega)
                            have rgN67 := te_rg (te_led T (by omega))
                            have N67 : u168.2 160 9 = 0 → OV u168.2 a a1 (t 170 a1.toNat) := fun y => ov_fg B0 B_u168 f_u168 (by omega) (by omega) ⟨⟨rgN67.2.1, rgN67.2.2.1, p6_u168 y⟩, (hr (k7_u168 y)).1 (by omega)⟩
                            refine ok_rd (by omega) (gA_171 Y_u168.1) ?_; intro v170 e_v170 a_v170 b_v170
                            have t_v170 : v170 = t 171 (a1).toNat := by rw [e_v170]; exact Y_u168.2.1 171 _ (nw_ar rfl _)
                            have c68 : TE 1 t 0 (d - 3) (a1 + 1) b v170 := by rw [t_v170]; exact (te_k37 T (by omega)).2
                            have rc68 := te_rg c68
                            refine ok_sv (G.2.1 v170 _ _ _ u168.2 Y_u168 N_u168 c68 (by omega) (by omega) (by omega)) ?_; intro u172 P_u172
                            have w_u172 := P_u172.2; replace P_u172 := P_u172.1
                            obtain ⟨Y_u172, N_u172, K_u172, ⟨r1_u172, r2_u172, r3_u172, r4_u172⟩, f_u172⟩ := P_u172
                            obtain ⟨k1_u172, k2_u172, k3_u172, k4_u172, k5_u172, k6_u172, k7_u172⟩ := K_u172.1
                            have K69 := ke_tr K65 K_u172
                            have B_u172 : TC t u172.2 := bf_tc Y_u172.2.1
                            have F70 : FG a b h u172.2 := fg_tr F66 f_u172 (by omega)
                            have N71 : u172.2 160 9 = 0 → OV u172.2 a a1 (t 170 a1.toNat) := fun y => ov_fg B_u168 B_u172 f_u172 (by omega) (by omega) (N67 (k7_u172 y))
                            refine ok_sv vy_isArray ?_; intro u173 P_u173
                            refine ok_if (fun C72 => ?_) (fun C72 => ?_)
                            · skip
                              unfold qj_X13_rule_391
                              refine ok_rd (by omega) (gA_168 Y_u172.1) ?_; intro v58 e_v58 a_v58 b_v58
                              have t_v58 : v58 = t 168 (a1).toNat := by rw [e_v58]; exact Y_u172.2.1 168 _ (nw_ar rfl _)
                              refine ok_sv (vy_wrong hn Y_u172 (by omega) (by omega)) ?_; intro u60 P_u60
                              obtain ⟨Y_u60, K_u60, x_u60, f_u60⟩ := P_u60
                              obtain ⟨k1_u60, k2_u60, k3_u60, k4_u60, k5_u60, k6_u60, k7_u60⟩ := K_u60.1
                              have N_u60 : MI t u60 := mi_dead x_u60
                              have K73 := ke_tr K69 K_u60
                              have B_u60 : TC t u60 := bf_tc Y_u60.2.1
                              have F74 : FG a b h u60 := fg_tr F70 f_u60 (by omega)
                              unfold qj_X13_rule_403
                              refine ok_if (fun C75 => ?_) (fun C75 => ?_)
                              · skip
                                refine ok_sub (by omega) ?_; intro v55 e_v55
                                exact ok_ret ⟨⟨Y_u60, N_u60, K73, ⟨by omega, by omega, by omega, fun y => by have y : u60 160 9 = 0 := y; show 0 ≤ v55; omega⟩, F74⟩, fun y => by have y : u60 160 9 = 0 := y; exfalso; omega⟩
                              · skip
                                exact ok_ret ⟨⟨Y_u60, N_u60, K73, ⟨by omega, by omega, by omega, fun y => by have y : u60 160 9 = 0 := y; show 0 ≤ 0; omega⟩, F74⟩, fun y => by have y : u60 160 9 = 0 := y; exfalso; omega⟩
                            · skip
                              refine ok_if (fun C76 => ?_) (fun C76 => ?_)
                              · skip
                                unfold qj_X13_rule_403
                                refine ok_if (fun C77 => ?_) (fun C77 => ?_)
                                · skip
                                  refine ok_sub (by omega) ?_; intro v55 e_v55
                                  exact ok_ret ⟨⟨Y_u172, N_u172, K69, ⟨by omega, by omega, by omega, fun y => by have y : u172.2 160 9 = 0 := y; show 0 ≤ v55; omega⟩, F70⟩, fun y => by have y : u172.2 160 9 = 0 := y; exact yl_37 B_u172 ⟨by omega, by omega, by omega⟩ (by omega) (N71 y) (by rw [← t_v170]; exact w_u172 y)⟩
                                · skip
                                  exact ok_ret ⟨⟨Y_u172, N_u172, K69, ⟨by omega, by omega, by omega, fun y => by have y : u172.2 160 9 = 0 := y; show 0 ≤ 0; omega⟩, F70⟩, fun y => by have y : u172.2 160 9 = 0 := y; exact yl_37 B_u172 ⟨by omega, by omega, by omega⟩ (by omega) (N71 y) (by rw [← t_v170]; exact w_u172 y)⟩
                              · skip
                                unfold qj_X13_rule_391
                                refine ok_rd (by omega) (gA_168 Y_u172.1) ?_; intro v58 e_v58 a_v58 b_v58
                                have t_v58 : v58 = t 168 (a1).toNat := by rw [e_v58]; exact Y_u172.2.1 168 _ (nw_ar rfl _)
                                refine ok_sv (vy_wrong hn Y_u172 (by omega) (by omega)) ?_; intro u60 P_u60
                                obtain ⟨Y_u60, K_u60, x_u60, f_u60⟩ := P_u60
                                obtain ⟨k1_u60, k2_u60, k3_u60, k4_u60, k5_u60, k6_u60, k7_u60⟩ := K_u60.1
                                have N_u60 : MI t u60 := mi_dead x_u60
                                have K78 := ke_tr K69 K_u60
                                have B_u60 : TC t u60 := bf_tc Y_u60.2.1
                                have F79 : FG a b h u60 := fg_tr F70 f_u60 (by omega)
                                unfold qj_X13_rule_403
                                refine ok_if (fun C80 => ?_) (fun C80 => ?_)
                                · skip
                                  refine ok_sub (by omega) ?_; intro v55 e_v55
                                  exact ok_ret ⟨⟨Y_u60, N_u60, K78, ⟨by omega, by omega, by omega, fun y => by have y : u60 160 9 = 0 := y; show 0 ≤ v55; omega⟩, F79⟩, fun y => by have y : u60 160 9 = 0 := y; exfalso; omega⟩
                                · skip
                                  exact ok_ret ⟨⟨Y_u60, N_u60, K78, ⟨by omega, by omega, by omega, fun y => by have y : u60 160 9 = 0 := y; show 0 ≤ 0; omega⟩, F79⟩, fun y => by have y : u60 160 9 = 0 := y; exfalso; omega⟩
                          · skip
                            refine ok_if (fun C81 => ?_) (fun C81 => ?_)
                            · skip
                              unfold qj_X13_rule_416
                              refine ok_rd (by omega) (gA_170 Y0.1) ?_; intro v47 e_v47 a_v47 b_v47
                              have t_v47 : v47 = t 170 (a1).toNat := by rw [e_v47]; exact Y0.2.1 170 _ (nw_ar rfl _)
                              have c82 : TE 1 t 0 (d - 2 - 2 * 1) (a1 + 1) b v47 := by rw [t_v47]; exact te_k33 T (by omega)
                              have rc82 := te_rg c82
                              refine ok_sv (G.2.1 v47 _ _ _ h Y0 N0 c82 (by omega) (by omega) (by omega)) ?_; intro u49 P_u49
                              have w_u49 := P_u49.2; replace P_u49 := P_u49.1
                              obtain ⟨Y_u49, N_u49, K_u49, ⟨r1_u49, r2_u49, r3_u49, r4_u49⟩, f_u49⟩ := P_u49
                              obtain ⟨k1_u49, k2_u49, k3_u49, k4_u49, k5_u49, k6_u49, k7_u49⟩ := K_u49.1
                              have K83 := ke_tr K0 K_u49
                              have B_u49 : TC t u49.2 := bf_tc Y_u49.2.1
                              have F84 : FG a b h u49.2 := fg_tr F0 f_u49 (by omega)
                              refine ok_if (fun C85 => ?_) (fun C85 => ?_)
                              · skip
                                exact ok_ret ⟨⟨Y_u49, N_u49, K83, ⟨by omega, by omega, by omega, fun y => by have y : u49.2 160 9 = 0 := y; show 0 ≤ 0; omega⟩, F84⟩, fun y => by have y : u49.2 160 9 = 0 := y; exact yl_33 B_u49 ⟨by omega, by omega, by omega⟩ (by omega) (by rw [← t_v47]; exact w_u49 y)⟩
                              · skip
                                refine ok_rd (by omega) (gA_168 Y_u49.1) ?_; intro v51 e_v51 a_v51 b_v51
                                have t_v51 : v51 = t 168 (a1).toNat := by rw [e_v51]; exact Y_u49.2.1 168 _ (nw_ar rfl _)
                                refine ok_sv (vy_wrong hn Y_u49 (by omega) (by omega)) ?_; intro u53 P_u53
                                obtain ⟨Y_u53, K_u53, x_u53, f_u53⟩ := P_u53
                                obtain ⟨k1_u53, k2_u53, k3_u53, k4_u53, k5_u53, k6_u53, k7_u53⟩ := K_u53.1
                                have N_u53 : MI t u53 := mi_dead x_u53
                                have K86 := ke_tr K83 K_u53
                                have B_u53 : TC t u53 := bf_tc Y_u53.2.1
                                have F87 : FG a b h u53 := fg_tr F84 f_u53 (by omega)
                                exact ok_ret ⟨⟨Y_u53, N_u53, K86, ⟨by omega, by omega, by omega, fun y => by have y : u53 160 9 = 0 := y; show 0 ≤ 0; omega⟩, F87⟩, fun y => by have y : u53 160 9 = 0 := y; exfalso; omega⟩
                            · skip
                              refine ok_if (fun C88 => ?_) (fun C88 => ?_)
                              · skip
                                refine ok_rd (by omega) (gA_170 Y0.1) ?_; intro v177 e_v177 a_v177 b_v177
                                have t_v177 : v177 = t 170 (a1).toNat := by rw [e_v177]; exact Y0.2.1 170 _ (nw_ar rfl _)
                                have c89 : TE 1 t 0 (d - 2 - 2 * 1) (a1 + 1) b v177 := by rw [t_v177]; exact te_k33 T (by omega)
                                have rc89 := te_rg c89
                                refine ok_sv (G.1 v177 _ _ _ h Y0 N0 c89 (by omega) (by omega) (by omega)) ?_; intro u179 P_u179
                                have w_u179 := P_u179.2; replace P_u179 := P_u179.1
                                obtain ⟨Y_u179, N_u179, K_u179, f_u179⟩ := P_u179
                                obtain ⟨k1_u179, k2_u179, k3_u179, k4_u179, k5_u179, k6_u179, k7_u179⟩ := K_u179.1
                                have K90 := ke_tr K0 K_u179
                                have B_u179 : TC t u179 := bf_tc Y_u179.2.1
                                have F91 : FG a b h u179 := fg_tr F0 f_u179 (by omega)
                                exact ok_ret ⟨⟨Y_u179, N_u179, K90, ⟨by omega, by omega, by omega, fun y => by have y : u179 160 9 = 0 := y; show 0 ≤ 1; omega⟩, F91⟩, fun y => by have y : u179 160 9 = 0 := y; exact yl_33 B_u179 ⟨by omega, by omega, by omega⟩ (by omega) (by rw [← t_v177]; exact w_u179 y)⟩
                              · skip
                                refine ok_if (fun C92 => ?_) (fun C92 => ?_)
                                · skip
                                  unfold qj_X13_rule_416
                                  refine ok_rd (by omega) (gA_170 Y0.1) ?_; intro v47 e_v47 a_v47 b_v47
                                  have t_v47 : v47 = t 170 (a1).toNat := by rw [e_v47]; exact Y0.2.1 170 _ (nw_ar rfl _)
                                  have c93 : TE 1 t 0 (d - 2 - 2 * 1) (a1 + 1) b v47 := by rw [t_v47]; exact te_k33 T (by omega)
                                  have rc93 := te_rg c93
                                  refine ok_sv (G.2.1 v47 _ _ _ h Y0 N0 c93 (by omega) (by omega) (by omega)) ?_; intro u49 P_u49
                                  have w_u49 := P_u49.2; replace P_u49 := P_u49.1
                                  obtain ⟨Y_u49, N_u49, K_u49, ⟨r1_u49, r2_u49, r3_u49, r4_u49⟩, f_u49⟩ := P_u49
                                  obtain ⟨k1_u49, k2_u49, k3_u49, k4_u49, k5_u49, k6_u49, k7_u49⟩ := K_u49.1
                                  have K94 := ke_tr K0 K_u49
                                  have B_u49 : TC t u49.2 := bf_tc Y_u49.2.1
                                  have F95 : FG a b h u49.2 := fg_tr F0 f_u49 (by omega)
                                  refine ok_if (fun C96 => ?_) (fun C96 => ?_)
                                  · skip
                                    exact ok_ret ⟨⟨Y_u49, N_u49, K94, ⟨by omega, by omega, by omega, fun y => by have y : u49.2 160 9 = 0 := y; show 0 ≤ 0; omega⟩, F95⟩, fun y => by have y : u49.2 160 9 = 0 := y; exact yl_33 B_u49 ⟨by omega, by omega, by omega⟩ (by omega) (by rw [← t_v47]; exact w_u49 y)⟩
                                  · skip
                                    refine ok_rd (by omega) (gA_168 Y_u49.1) ?_; intro v51 e_v51 a_v51 b_v51
                                    have t_v51 : v51 = t 168 (a1).toNat := by rw [e_v51]; exact Y_u49.2.1 168 _ (nw_ar rfl _)
                                    refine ok_sv (vy_wrong hn Y_u49 (by omega) (by omega)) ?_; intro u53 P_u53
                                    obtain ⟨Y_u53, K_u53, x_u53, f_u53⟩ := P_u53
                                    obtain ⟨k1_u53, k2_u53, k3_u53, k4_u53, k5_u53, k6_u53, k7_u53⟩ := K_u53.1
                                    have N_u53 : MI t u53 := mi_dead x_u53
                                    have K97 := ke_tr K94 K_u53
                                    have B_u53 : TC t u53 := bf_tc Y_u53.2.1
                                    have F98 : FG a b h u53 := fg_tr F95 f_u53 (by omega)
                                    exact ok_ret ⟨⟨Y_u53, N_u53, K97, ⟨by omega, by omega, by omega, fun y => by have y : u53 160 9 = 0 := y; show 0 ≤ 0; omega⟩, F98⟩, fun y => by have y : u53 160 9 = 0 := y; exfalso; omega⟩
                                · skip
                                  refine ok_if (fun C99 => ?_) (fun C99 => ?_)
                                  · skip
                                    unfold qj_X13_rule_455
                                    refine ok_rd (by omega) (gA_168 Y0.1) ?_; intro v35 e_v35 a_v35 b_v35
                                    have t_v35 : v35 = t 168 (a1).toNat := by rw [e_v35]; exact Y0.2.1 168 _ (nw_ar rfl _)
                                    refine ok_sv (vy_classOf hn Y0 S (by omega)) ?_; intro u37 P_u37
                                    refine ok_if (fun C100 => ?_) (fun C100 => ?_)
                                    · skip
                                      unfold qj_X13_rule_493
                                      refine ok_rd (by omega) (gA_167 Y0.1) ?_; intro v26 e_v26 a_v26 b_v26
                                      have t_v26 : v26 = t 167 (a1).toNat := by rw [e_v26]; exact Y0.2.1 167 _ (nw_ar rfl _)
                                      have d_v26 : v83 = v26 := by rw [t_v26, t_v83]
                                      subst d_v26
                                      refine ok_if (fun C101 => ?_) (fun C101 => ?_)
                                      · skip
                                        exfalso; omega
                                      · skip
                                        refine ok_rd (by omega) (gA_170 Y0.1) ?_; intro v30 e_v30 a_v30 b_v30
                                        have t_v30 : v30 = t 170 (a1).toNat := by rw [e_v30]; exact Y0.2.1 170 _ (nw_ar rfl _)
                                        have c102 : TE 1 t 0 (d - 2 - 2 * 1) (a1 + 1) b v30 := by rw [t_v30]; exact te_k33 T (by omega)
                                        have rc102 := te_rg c102
                                        refine ok_sv (G.2.1 v30 _ _ _ h Y0 N0 c102 (by omega) (by omega) (by omega)) ?_; intro u32 P_u32
                                        have w_u32 := P_u32.2; replace P_u32 := P_u32.1
                                        obtain ⟨Y_u32, N_u32, K_u32, ⟨r1_u32, r2_u32, r3_u32, r4_u32⟩, f_u32⟩ := P_u32
                                        obtain ⟨k1_u32, k2_u32, k3_u32, k4_u32, k5_u32, k6_u32, k7_u32⟩ := K_u32.1
                                        have K103 := ke_tr K0 K_u32
                                        have B_u32 : TC t u32.2 := bf_tc Y_u32.2.1
                                        have F104 : FG a b h u32.2 := fg_tr F0 f_u32 (by omega)
                                        unfold qj_X13_rule_522
                                        refine ok_if (fun C105 => ?_) (fun C105 => ?_)
                                        · skip
                                          unfold qj_X13_rule_539
                                          refine ok_mul (by omega) ?_; intro v13 e_v13
                                          refine ok_add (by omega) ?_; intro v14 e_v14
                                          refine ok_sv vy_isThing ?_; intro u15 P_u15
                                          refine ok_if (fun C106 => ?_) (fun C106 => ?_)
                                          · skip
                                            unfold qj_X13_rule_562
                                            refine ok_rd (by omega) (gA_168 Y_u32.1) ?_; intro v10 e_v10 a_v10 b_v10
                                            have t_v10 : v10 = t 168 (a1).toNat := by rw [e_v10]; exact Y_u32.2.1 168 _ (nw_ar rfl _)
                                            have d_v10 : v35 = v10 := by rw [t_v10, t_v35]
                                            subst d_v10
                                            refine ok_sv (vy_wrong hn Y_u32 (by omega) (by omega)) ?_; intro u12 P_u12
                                            obtain ⟨Y_u12, K_u12, x_u12, f_u12⟩ := P_u12
                                            obtain ⟨k1_u12, k2_u12, k3_u12, k4_u12, k5_u12, k6_u12, k7_u12⟩ := K_u12.1
                                            have N_u12 : MI t u12 := mi_dead x_u12
                                            have K107 := ke_tr K103 K_u12
                                            have B_u12 : TC t u12 := bf_tc Y_u12.2.1
                                            have F108 : FG a b h u12 := fg_tr F104 f_u12 (by omega)
                                            unfold qj_X13_rule_574
                                            refine ok_wA (by omega) ?_; intro h5 E_h5
                                            obtain ⟨Y_h5, K_h5⟩ := yi_176 Y_u12 (by omega) (by omega) (by omega) E_h5
                                            obtain ⟨k1_h5, k2_h5, k3_h5, k4_h5, k5_h5, k6_h5, k7_h5⟩ := K_h5.1
                                            have s_h5 : h5 176 (a1).toNat = v14 := by rw [E_h5]; exact up_s
                                            have N_h5 := mi_up N_u12 E_h5 (by decide)
                                            have K109 := ke_tr K107 K_h5
                                            have B_h5 : TC t h5 := bf_tc Y_h5.2.1
                                            have F110 : FG a b h h5 := fg_tr F108 (fg_up (j := a1) E_h5 (by omega)) (by omega)
                                            refine ok_rd (by omega) (gA_167 Y_h5.1) ?_; intro v7 e_v7 a_v7 b_v7
                                            have t_v7 : v7 = t 167 (a1).toNat := by rw [e_v7]; exact Y_h5.2.1 167 _ (nw_ar rfl _)
                                            have d_v7 : v83 = v7 := by rw [t_v7, t_v83]
                                            subst d_v7
                                            refine ok_if (fun C111 => ?_) (fun C111 => ?_)
                                            · skip
                                              exact ok_ret ⟨⟨Y_h5, N_h5, K109, ⟨by omega, by omega, by omega, fun y => by have y : h5 160 9 = 0 := y; show 0 ≤ v14; omega⟩, F110⟩, fun y => by have y : h5 160 9 = 0 := y; exfalso; omega⟩
                                            · skip
                                              exfalso; omega
                                          · skip
                                            refine ok_sv (vy_goTogether hn Y_u32 S (by omega) (by omega)) ?_; intro u17 P_u17
                                            refine ok_if (fun C112 => ?_) (fun C112 => ?_)
                                            · skip
                                              unfold qj_X13_rule_574
                                              refine ok_wA (by omega) ?_; intro h5 E_h5
                                              obtain ⟨Y_h5, K_h5⟩ := yi_176 Y_u32 (by omega) (by omega) (by omega) E_h5
                                              obtain ⟨k1_h5, k2_h5, k3_h5, k4_h5, k5_h5, k6_h5, k7_h5⟩ := K_h5.1
                                              have s_h5 : h5 176 (a1).toNat = v14 := by rw [E_h5]; exact up_s
                                              have N_h5 := mi_up N_u32 E_h5 (by decide)
                                              have K113 := ke_tr K103 K_h5
                                              have B_h5 : TC t h5 := bf_tc Y_h5.2.1
                                              have F114 : FG a b h h5 := fg_tr F104 (fg_up (j := a1) E_h5 (by omega)) (by omega)
                                              have N115 : h5 160 9 = 0 → OV h5 (a1 + 1) b v30 := fun y => ov_fg B_u32 B_h5 (fg_up (j := a1) E_h5 (by omega)) (by omega) (by omega) (w_u32 (k7_h5 y))
                                              refine ok_rd (by omega) (gA_167 Y_h5.1) ?_; intro v7 e_v7 a_v7 b_v7
                                              have t_v7 : v7 = t 167 (a1).toNat := by rw [e_v7]; exact Y_h5.2.1 167 _ (nw_ar rfl _)
                                              have d_v7 : v83 = v7 := by rw [t_v7, t_v83]
                                              subst d_v7
                                              refine ok_if (fun C116 => ?_) (fun C116 => ?_)
                                              · skip
                                                exact ok_ret ⟨⟨Y_h5, N_h5, K113, ⟨by omega, by omega, by omega, fun y => by have y : h5 160 9 = 0 := y; show 0 ≤ v14; omega⟩, F114⟩, fun y => by have y : h5 160 9 = 0 := y; exact yl_33 B_h5 ⟨by omega, by omega, by omega⟩ (by omega) (by rw [← t_v30]; exact N115 y)⟩
                                              · skip
                                                exfalso; omega
                                            · skip
                                              unfold qj_X13_rule_562
                                              refine ok_rd (by omega) (gA_168 Y_u32.1) ?_; intro v10 e_v10 a_v10 b_v10
                                              have t_v10 : v10 = t 168 (a1).toNat := by rw [e_v10]; exact Y_u32.2.1 168 _ (nw_ar rfl _)
                                              have d_v10 : v35 = v10 := by rw [t_v10, t_v35]
                                              subst d_v10
                                              refine ok_sv (vy_wrong hn Y_u32 (by omega) (by omega)) ?_; intro u12 P_u12
                                              obtain ⟨Y_u12, K_u12, x_u12, f_u12⟩ := P_u12
                                              obtain ⟨k1_u12, k2_u12, k3_u12, k4_u12, k5_u12, k6_u12, k7_u12⟩ := K_u12.1
                                              have N_u12 : MI t u12 := mi_dead x_u12
                                              have K117 := ke_tr K103 K_u12
                                              have B_u12 : TC t u12 := bf_tc Y_u12.2.1
                                              have F118 : FG a b h u12 := fg_tr F104 f_u12 (by omega)
                                              unfold qj_X13_rule_574
                                              refine ok_wA (by omega) ?_; intro h5 E_h5
                                              obtain ⟨Y_h5, K_h5⟩ := yi_176 Y_u12 (by omega) (by omega) (by omega) E_h5
                                              obtain ⟨k1_h5, k2_h5, k3_h5, k4_h5, k5_h5, k6_h5, k7_h5⟩ := K_h5.1
                                              have s_h5 : h5 176 (a1).toNat = v14 := by rw [E_h5]; exact up_s
                                              have N_h5 := mi_up N_u12 E_h5 (by decide)
                                              have K119 := ke_tr K117 K_h5
                                              have B_h5 : TC t h5 := bf_tc Y_h5.2.1
                                              have F120 : FG a b h h5 := fg_tr F118 (fg_up (j := a1) E_h5 (by omega)) (by omega)
                                              refine ok_rd (by omega) (gA_167 Y_h5.1) ?_; intro v7 e_v7 a_v7 b_v7
                                              have t_v7 : v7 = t 167 (a1).toNat := by rw [e_v7]; exact Y_h5.2.1 167 _ (nw_ar rfl _)
                                              have d_v7 : v83 = v7 := by rw [t_v7, t_v83]
                                              subst d_v7
                                              refine ok_if (fun C121 => ?_) (fun C121 => ?_)
                                              · skip
                                                exact ok_ret ⟨⟨Y_h5, N_h5, K119, ⟨by omega, by omega, by omega, fun y => by have y : h5 160 9 = 0 := y; show 0 ≤ v14; omega⟩, F120⟩, fun y => by have y : h5 160 9 = 0 := y; exfalso; omega⟩
                                              · skip
                                                exfalso; omega
                                        · skip
                                          exfalso; omega
                                    · skip
                                      refine ok_rd (by omega) (gA_167 Y0.1) ?_; intro v39 e_v39 a_v39 b_v39
                                      have t_v39 : v39 = t 167 (a1).toNat := by rw [e_v39]; exact Y0.2.1 167 _ (nw_ar rfl _)
                                      have d_v39 : v83 = v39 := by rw [t_v39, t_v83]
                                      subst d_v39
                                      refine ok_if (fun C122 => ?_) (fun C122 => ?_)
                                      · skip
                                        exfalso; omega
                                      · skip
                                        refine ok_rd (by omega) (gA_168 Y0.1) ?_; intro v41 e_v41 a_v41 b_v41
                                        have t_v41 : v41 = t 168 (a1).toNat := by rw [e_v41]; exact Y0.2.1 168 _ (nw_ar rfl _)
                                        have d_v41 : v35 = v41 := by rw [t_v41, t_v35]
                                        subst d_v41
                                        refine ok_sv (vy_wrong hn Y0 (by omega) (by omega)) ?_; intro u43 P_u43
                                        obtain ⟨Y_u43, K_u43, x_u43, f_u43⟩ := P_u43
                                        obtain ⟨k1_u43, k2_u43, k3_u43, k4_u43, k5_u43, k6_u43, k7_u43⟩ := K_u43.1
                                        have N_u43 : MI t u43 := mi_dead x_u43
                                        have K123 := ke_tr K0 K_u43
                                        have B_u43 : TC t u43 := bf_tc Y_u43.2.1
                                        have F124 : FG a b h u43 := fg_tr F0 f_u43 (by omega)
                                        unfold qj_X13_rule_493
                                        refine ok_rd (by omega) (gA_167 Y_u43.1) ?_; intro v26 e_v26 a_v26 b_v26
                                        have t_v26 : v26 = t 167 (a1).toNat := by rw [e_v26]; exact Y_u43.2.1 167 _ (nw_ar rfl _)
                                        have d_v26 : v83 = v26 := by rw [t_v26, t_v83]
                                        subst d_v26
                                        refine ok_if (fun C125 => ?_) (fun C125 => ?_)
                                        · skip
                                          exfalso; omega
                                        · skip
                                          refine ok_rd (by omega) (gA_170 Y_u43.1) ?_; intro v30 e_v30 a_v30 b_v30
                                          have t_v30 : v30 = t 170 (a1).toNat := by rw [e_v30]; exact Y_u43.2.1 170 _ (nw_ar rfl _)
                                          have c126 : TE 1 t 0 (d - 2 - 2 * 1) (a1 + 1) b v30 := by rw [t_v30]; exact te_k33 T (by omega)
                                          have rc126 := te_rg c126
                                          refine ok_sv (G.2.1 v30 _ _ _ u43 Y_u43 N_u43 c126 (by omega) (by omega) (by omega)) ?_; intro u32 P_u32
                                          have w_u32 := P_u32.2; replace P_u32 := P_u32.1
                                          obtain ⟨Y_u32, N_u32, K_u32, ⟨r1_u32, r2_u32, r3_u32, r4_u32⟩, f_u32⟩ := P_u32
                                          obtain ⟨k1_u32, k2_u32, k3_u32, k4_u32, k5_u32, k6_u32, k7_u32⟩ := K_u32.1
                                          have K127 := ke_tr K123 K_u32
                                          have B_u32 : TC t u32.2 := bf_tc Y_u32.2.1
                                          have F128 : FG a b h u32.2 := fg_tr F124 f_u32 (by omega)
                                          unfold qj_X13_rule_522
                                          refine ok_if (fun C129 => ?_) (fun C129 => ?_)
                                          · skip
                                            exfalso; omega
                                          · skip
                                            refine ok_rd (by omega) (gA_168 Y_u32.1) ?_; intro v21 e_v21 a_v21 b_v21
                                            have t_v21 : v21 = t 168 (a1).toNat := by rw [e_v21]; exact Y_u32.2.1 168 _ (nw_ar rfl _)
                                            have d_v21 : v35 = v21 := by rw [t_v21, t_v35]
                                            subst d_v21
                                            refine ok_sv (vy_wrong hn Y_u32 (by omega) (by omega)) ?_; intro u23 P_u23
                                            obtain ⟨Y_u23, K_u23, x_u23, f_u23⟩ := P_u23
                                            obtain ⟨k1_u23, k2_u23, k3_u23, k4_u23, k5_u23, k6_u23, k7_u23⟩ := K_u23.1
                                            have N_u23 : MI t u23 := mi_dead x_u23
                                            have K130 := ke_tr K127 K_u23
                                            have B_u23 : TC t u23 := bf_tc Y_u23.2.1
                                            have F131 : FG a b h u23 := fg_tr F128 f_u23 (by omega)
                                            unfold qj_X13_rule_539
                                            refine ok_mul (by omega) ?_; intro v13 e_v13
                                            refine ok_add (by omega) ?_; intro v14 e_v14
                                            refine ok_sv vy_isThing ?_; intro u15 P_u15
                                            refine ok_if (fun C132 => ?_) (fun C132 => ?_)
                                            · skip
                                              unfold qj_X13_rule_562
                                              refine ok_rd (by omega) (gA_168 Y_u23.1) ?_; intro v10 e_v10 a_v10 b_v10
                                              have t_v10 : v10 = t 168 (a1).toNat := by rw [e_v10]; exact Y_u23.2.1 168 _ (nw_ar rfl _)
                                              have d_v10 : v35 = v10 := by rw [t_v10, t_v35]
                                              subst d_v10
                                              refine ok_sv (vy_wrong hn Y_u23 (by omega) (by omega)) ?_; intro u12 P_u12
                                              obtain ⟨Y_u12, K_u12, x_u12, f_u12⟩ := P_u12
                                              obtain ⟨k1_u12, k2_u12, k3_u12, k4_u12, k5_u12, k6_u12, k7_u12⟩ := K_u12.1
                                              have N_u12 : MI t u12 := mi_dead x_u12
                                              have K133 := ke_tr K130 K_u12
                                              have B_u12 : TC t u12 := bf_tc Y_u12.2.1
                                              have F134 : FG a b h u12 := fg_tr F131 f_u12 (by omega)
                                              unfold qj_X13_rule_574
                                              refine ok_wA (by omega) ?_; intro h5 E_h5
                                              obtain ⟨Y_h5, K_h5⟩ := yi_176 Y_u12 (by omega) (by omega) (by omega) E_h5
                                              obtain ⟨k1_h5, k2_h5, k3_h5, k4_h5, k5_h5, k6_h5, k7_h5⟩ := K_h5.1
                                              have s_h5 : h5 176 (a1).toNat = v14 := by rw [E_h5]; exact up_s
                                              have N_h5 := mi_up N_u12 E_h5 (by decide)
                                              have K135 := ke_tr K133 K_h5
                                              have B_h5 : TC t h5 := bf_tc Y_h5.2.1
                                              have F136 : FG a b h h5 := fg_tr F134 (fg_up (j := a1) E_h5 (by omega)) (by omega)
                                              refine ok_rd (by omega) (gA_167 Y_h5.1) ?_; intro v7 e_v7 a_v7 b_v7
                                              have t_v7 : v7 = t 167 (a1).toNat := by rw [e_v7]; exact Y_h5.2.1 167 _ (nw_ar rfl _)
                                              have d_v7 : v83 = v7 := by rw [t_v7, t_v83]
                                              subst d_v7
                                              refine ok_if (fun C137 => ?_) (fun C137 => ?_)
                                              · skip
                                                exact ok_ret ⟨⟨Y_h5, N_h5, K135, ⟨by omega, by omega, by omega, fun y => by have y : h5 160 9 = 0 := y; show 0 ≤ v14; omega⟩, F136⟩, fun y => by have y : h5 160 9 = 0 := y; exfalso; omega⟩
                                              · skip
                                                exfalso; omega
                                            · skip
                                              refine ok_sv (vy_goTogether hn Y_u23 S (by omega) (by omega)) ?_; intro u17 P_u17
                                              refine ok_if (fun C138 => ?_) (fun C138 => ?_)
                                              · skip
                                                unfold qj_X13_rule_574
                                                refine ok_wA (by omega) ?_; intro h5 E_h5
                                                obtain ⟨Y_h5, K_h5⟩ := yi_176 Y_u23 (by omega) (by omega) (by omega) E_h5
                                                obtain ⟨k1_h5, k2_h5, k3_h5, k4_h5, k5_h5, k6_h5, k7_h5⟩ := K_h5.1
                                                have s_h5 : h5 176 (a1).toNat = v14 := by rw [E_h5]; exact up_s
                                                have N_h5 := mi_up N_u23 E_h5 (by decide)
                                                have K139 := ke_tr K130 K_h5
                                                have B_h5 : TC t h5 := bf_tc Y_h5.2.1
                                                have F140 : FG a b h h5 := fg_tr F131 (fg_up (j := a1) E_h5 (by omega)) (by omega)
                                                refine ok_rd (by omega) (gA_167 Y_h5.1) ?_; intro v7 e_v7 a_v7 b_v7
                                                have t_v7 : v7 = t 167 (a1).toNat := by rw [e_v7]; exact Y_h5.2.1 167 _ (nw_ar rfl _)
                                                have d_v7 : v83 = v7 := by rw [t_v7, t_v83]
                                                subst d_v7
                                                refine ok_if (fun C141 => ?_) (fun C141 => ?_)
                                                · skip
                                                  exact ok_ret ⟨⟨Y_h5, N_h5, K139, ⟨by omega, by omega, by omega, fun y => by have y : h5 160 9 = 0 := y; show 0 ≤ v14; omega⟩, F140⟩, fun y => by have y : h5 160 9 = 0 := y; exfalso; omega⟩
                                                · skip
                                                  exfalso; omega
                                              · skip
                                                unfold qj_X13_rule_562
                                                refine ok_rd (by omega) (gA_168 Y_u23.1) ?_; intro v10 e_v10 a_v10 b_v10
                                                have t_v10 : v10 = t 168 (a1).toNat := by rw [e_v10]; exact Y_u23.2.1 168 _ (nw_ar rfl _)
                                                have d_v10 : v35 = v10 := by rw [t_v10, t_v35]
                                                subst d_v10
                                                refine ok_sv (vy_wrong hn Y_u23 (by omega) (by omega)) ?_; intro u12 P_u12
                                                obtain ⟨Y_u12, K_u12, x_u12, f_u12⟩ := P_u12
                                                obtain ⟨k1_u12, k2_u12, k3_u12, k4_u12, k5_u12, k6_u12, k7_u12⟩ := K_u12.1
                                                have N_u12 : MI t u12 := mi_dead x_u12
                                                have K142 := ke_tr K130 K_u12
                                                have B_u12 : TC t u12 := bf_tc Y_u12.2.1
                                                have F143 : FG a b h u12 := fg_tr F131 f_u12 (by omega)
                                                unfold qj_X13_rule_574
                                                refine ok_wA (by omega) ?_; intro h5 E_h5
                                                obtain ⟨Y_h5, K_h5⟩ := yi_176 Y_u12 (by omega) (by omega) (by omega) E_h5
                                                obtain ⟨k1_h5, k2_h5, k3_h5, k4_h5, k5_h5, k6_h5, k7_h5⟩ := K_h5.1
                                                have s_h5 : h5 176 (a1).toNat = v14 := by rw [E_h5]; exact up_s
                                                have N_h5 := mi_up N_u12 E_h5 (by decide)
                                                have K144 := ke_tr K142 K_h5
                                                have B_h5 : TC t h5 := bf_tc Y_h5.2.1
                                                have F145 : FG a b h h5 := fg_tr F143 (fg_up (j := a1) E_h5 (by omega)) (by omega)
                                                refine ok_rd (by omega) (gA_167 Y_h5.1) ?_; intro v7 e_v7 a_v7 b_v7
                                                have t_v7 : v7 = t 167 (a1).toNat := by rw [e_v7]; exact Y_h5.2.1 167 _ (nw_ar rfl _)
                                                have d_v7 : v83 = v7 := by rw [t_v7, t_v83]
                                                subst d_v7
                                                refine ok_if (fun C146 => ?_) (fun C146 => ?_)
                                                · skip
                                                  exact ok_ret ⟨⟨Y_h5, N_h5, K144, ⟨by omega, by omega, by omega, fun y => by have y : h5 160 9 = 0 := y; show 0 ≤ v14; omega⟩, F145⟩, fun y => by have y : h5 160 9 = 0 := y; exfalso; omega⟩
                                                · skip
                                                  exfalso; omega
                                  · skip
                                    refine ok_if (fun C147 => ?_) (fun C147 => ?_)
                                    · skip
                                      refine ok_sv (G.2.2.2.2.1 a1 _ _ _ h Y0 N0 T (by omega) (by omega) (by omega) (by omega) hr) ?_; intro u181 P_u181
                                      have w_u181 := P_u181.2; replace P_u181 := P_u181.1
                                      obtain ⟨Y_u181, N_u181, K_u181, ⟨r1_u181, r2_u181, r3_u181, r4_u181⟩, f_u181⟩ := P_u181
                                      obtain ⟨k1_u181, k2_u181, k3_u181, k4_u181, k5_u181, k6_u181, k7_u181⟩ := K_u181.1
                                      have K148 := ke_tr K0 K_u181
                                      have B_u181 : TC t u181.2 := bf_tc Y_u181.2.1
                                      have F149 : FG a b h u181.2 := fg_tr F0 f_u181 (by omega)
                                      exact ok_ret ⟨⟨Y_u181, N_u181, K148, ⟨by omega, by omega, by omega, fun y => by have y : u181.2 160 9 = 0 := y; show 0 ≤ u181.1; omega⟩, F149⟩, w_u181⟩
                                    · skip
                                      refine ok_if (fun C150 => ?_) (fun C150 => ?_)
                                      · skip
                                        unfold qj_X13_rule_455
                                        refine ok_rd (by omega) (gA_168 Y0.1) ?_; intro v35 e_v35 a_v35 b_v35
                                        have t_v35 : v35 = t 168 (a1).toNat := by rw [e_v35]; exact Y0.2.1 168 _ (nw_ar rfl _)
                                        refine ok_sv (vy_classOf hn Y0 S (by omega)) ?_; intro u37 P_u37
                                        refine ok_if (fun C151 => ?_) (fun C151 => ?_)
                                        · skip
                                          unfold qj_X13_rule_493
                                          refine ok_rd (by omega) (gA_167 Y0.1) ?_; intro v26 e_v26 a_v26 b_v26
                                          have t_v26 : v26 = t 167 (a1).toNat := by rw [e_v26]; exact Y0.2.1 167 _ (nw_ar rfl _)
                                          have d_v26 : v83 = v26 := by rw [t_v26, t_v83]
                                          subst d_v26
                                          refine ok_if (fun C152 => ?_) (fun C152 => ?_)
                                          · skip
                                            refine ok_sv (vy_led hn S Y0 N0 T (by omega) (by omega)) ?_; intro u28 P_u28
                                            have p5_u28 := P_u28.2.1; have p6_u28 := P_u28.2.2; replace P_u28 := P_u28.1
                                            obtain ⟨Y_u28, N_u28, K_u28, ⟨r1_u28, r2_u28, r3_u28, r4_u28⟩, f_u28⟩ := P_u28
                                            obtain ⟨k1_u28, k2_u28, k3_u28, k4_u28, k5_u28, k6_u28, k7_u28⟩ := K_u28.1
                                            have K153 := ke_tr K0 K_u28
                                            have B_u28 : TC t u28.2 := bf_tc Y_u28.2.1
                                            have F154 : FG a b h u28.2 := fg_tr F0 f_u28 (by omega)
                                            have rgN155 := te_rg (te_led T (by omega))
                                            have N155 : u28.2 160 9 = 0 → OV u28.2 a a1 (t 170 a1.toNat) := fun y => ov_fg B0 B_u28 f_u28 (by omega) (by omega) ⟨⟨rgN155.2.1, rgN155.2.2.1, p6_u28 y⟩, (hr (k7_u28 y)).1 (by omega)⟩
                                            unfold qj_X13_rule_522
                                            refine ok_if (fun C156 => ?_) (fun C156 => ?_)
                                            · skip
                                              unfold qj_X13_rule_539
                                              refine ok_mul (by omega) ?_; intro v13 e_v13
                                              refine ok_add (by omega) ?_; intro v14 e_v14
                                              refine ok_sv vy_isThing ?_; intro u15 P_u15
                                              refine ok_if (fun C157 => ?_) (fun C157 => ?_)
                                              · skip
                                                unfold qj_X13_rule_562
                                                refine ok_rd (by omega) (gA_168 Y_u28.1) ?_; intro v10 e_v10 a_v10 b_v10
                                                have t_v10 : v10 = t 168 (a1).toNat := by rw [e_v10]; exact Y_u28.2.1 168 _ (nw_ar rfl _)
                                                have d_v10 : v35 = v10 := by rw [t_v10, t_v35]
                                                subst d_v10
                                                refine ok_sv (vy_wrong hn Y_u28 (by omega) (by omega)) ?_; intro u12 P_u12
                                                obtain ⟨Y_u12, K_u12, x_u12, f_u12⟩ := P_u12
                                                obtain ⟨k1_u12, k2_u12, k3_u12, k4_u12, k5_u12, k6_u12, k7_u12⟩ := K_u12.1
                                                have N_u12 : MI t u12 := mi_dead x_u12
                                                have K158 := ke_tr K153 K_u12
                                                have B_u12 : TC t u12 := bf_tc Y_u12.2.1
                                                have F159 : FG a b h u12 := fg_tr F154 f_u12 (by omega)
                                                unfold qj_X13_rule_574
                                                refine ok_wA (by omega) ?_; intro h5 E_h5
                                                obtain ⟨Y_h5, K_h5⟩ := yi_176 Y_u12 (by omega) (by omega) (by omega) E_h5
                                                obtain ⟨k1_h5, k2_h5, k3_h5, k4_h5, k5_h5, k6_h5, k7_h5⟩ := K_h5.1
                                                have s_h5 : h5 176 (a1).toNat = v14 := by rw [E_h5]; exact up_s
                                                have N_h5 := mi_up N_u12 E_h5 (by decide)
                                                have K160 := ke_tr K158 K_h5
                                                have B_h5 : TC t h5 := bf_tc Y_h5.2.1
                                                have F161 : FG a b h h5 := fg_tr F159 (fg_up (j := a1) E_h5 (by omega)) (by omega)
                                                refine ok_rd (by omega) (gA_167 Y_h5.1) ?_; intro v7 e_v7 a_v7 b_v7
                                                have t_v7 : v7 = t 167 (a1).toNat := by rw [e_v7]; exact Y_h5.2.1 167 _ (nw_ar rfl _)
                                                have d_v7 : v83 = v7 := by rw [t_v7, t_v83]
                                                subst d_v7
                                                refine ok_if (fun C162 => ?_) (fun C162 => ?_)
                                                · skip
                                                  exfalso; omega
                                                · skip
                                                  exact ok_ret ⟨⟨Y_h5, N_h5, K160, ⟨by omega, by omega, by omega, fun y => by have y : h5 160 9 = 0 := y; show 0 ≤ 1; omega⟩, F161⟩, fun y => by have y : h5 160 9 = 0 := y; exfalso; omega⟩
                                              · skip
                                                refine ok_sv (vy_goTogether hn Y_u28 S (by omega) (by omega)) ?_; intro u17 P_u17
                                                refine ok_if (fun C163 => ?_) (fun C163 => ?_)
                                                · skip
                                                  unfold qj_X13_rule_574
                                                  refine ok_wA (by omega) ?_; intro h5 E_h5
                                                  obtain ⟨Y_h5, K_h5⟩ := yi_176 Y_u28 (by omega) (by omega) (by omega) E_h5
                                                  obtain ⟨k1_h5, k2_h5, k3_h5, k4_h5, k5_h5, k6_h5, k7_h5⟩ := K_h5.1
                                                  have s_h5 : h5 176 (a1).toNat = v14 := by rw [E_h5]; exact up_s
                                                  have N_h5 := mi_up N_u28 E_h5 (by decide)
                                                  have K164 := ke_tr K153 K_h5
                                                  have B_h5 : TC t h5 := bf_tc Y_h5.2.1
                                                  have F165 : FG a b h h5 := fg_tr F154 (fg_up (j := a1) E_h5 (by omega)) (by omega)
                                                  have N166 : h5 160 9 = 0 → OV h5 a a1 (t 170 a1.toNat) := fun y => ov_fg B_u28 B_h5 (fg_up (j := a1) E_h5 (by omega)) (by omega) (by omega) (N155 (k7_h5 y))
                                                  refine ok_rd (by omega) (gA_167 Y_h5.1) ?_; intro v7 e_v7 a_v7 b_v7
                                                  have t_v7 : v7 = t 167 (a1).toNat := by rw [e_v7]; exact Y_h5.2.1 167 _ (nw_ar rfl _)
                                                  have d_v7 : v83 = v7 := by rw [t_v7, t_v83]
                                                  subst d_v7
                                                  refine ok_if (fun C167 => ?_) (fun C167 => ?_)
                                                  · skip
                                                    exfalso; omega
                                                  · skip
                                                    exact ok_ret ⟨⟨Y_h5, N_h5, K164, ⟨by omega, by omega, by omega, fun y => by have y : h5 160 9 = 0 := y; show 0 ≤ 1; omega⟩, F165⟩, fun y => by have y : h5 160 9 = 0 := y; exact yl_30 B_h5 ⟨by omega, by omega, by omega⟩ (by omega) (N166 y)⟩
                                                · skip
                                                  unfold qj_X13_rule_562
                                                  refine ok_rd (by omega) (gA_168 Y_u28.1) ?_; intro v10 e_v10 a_v10 b_v10
                                                  have t_v10 : v10 = t 168 (a1).toNat := by rw [e_v10]; exact Y_u28.2.1 168 _ (nw_ar rfl _)
                                                  have d_v10 : v35 = v10 := by rw [t_v10, t_v35]
                                                  subst d_v10
                                                  refine ok_sv (vy_wrong hn Y_u28 (by omega) (by omega)) ?_; intro u12 P_u12
                                                  obtain ⟨Y_u12, K_u12, x_u12, f_u12⟩ := P_u12
                                                  obtain ⟨k1_u12, k2_u12, k3_u12, k4_u12, k5_u12, k6_u12, k7_u12⟩ := K_u12.1
                                                  have N_u12 : MI t u12 := mi_dead x_u12
                                                  have K168 := ke_tr K153 K_u12
                                                  have B_u12 : TC t u12 := bf_tc Y_u12.2.1
                                                  have F169 : FG a b h u12 := fg_tr F154 f_u12 (by omega)
                                                  unfold qj_X13_rule_574
                                                  refine ok_wA (by omega) ?_; intro h5 E_h5
                                                  obtain ⟨Y_h5, K_h5⟩ := yi_176 Y_u12 (by omega) (by omega) (by omega) E_h5
                                                  obtain ⟨k1_h5, k2_h5, k3_h5, k4_h5, k5_h5, k6_h5, k7_h5⟩ := K_h5.1
                                                  have s_h5 : h5 176 (a1).toNat = v14 := by rw [E_h5]; exact up_s
                                                  have N_h5 := mi_up N_u12 E_h5 (by decide)
                                                  have K170 := ke_tr K168 K_h5
                                                  have B_h5 : TC t h5 := bf_tc Y_h5.2.1
                                                  have F171 : FG a b h h5 := fg_tr F169 (fg_up (j := a1) E_h5 (by omega)) (by omega)
                                                  refine ok_rd (by omega) (gA_167 Y_h5.1) ?_; intro v7 e_v7 a_v7 b_v7
                                                  have t_v7 : v7 = t 167 (a1).toNat := by rw [e_v7]; exact Y_h5.2.1 167 _ (nw_ar rfl _)
                                                  have d_v7 : v83 = v7 := by rw [t_v7, t_v83]
                                                  subst d_v7
                                                  refine ok_if (fun C172 => ?_) (fun C172 => ?_)
                                                  · skip
                                                    exfalso; omega
                                                  · skip
                                                    exact ok_ret ⟨⟨Y_h5, N_h5, K170, ⟨by omega, by omega, by omega, fun y => by have y : h5 160 9 = 0 := y; show 0 ≤ 1; omega⟩, F171⟩, fun y => by have y : h5 160 9 = 0 := y; exfalso; omega⟩
                                            · skip
                                              exfalso; omega
                                          · skip
                                            exfalso; omega
                                        · skip
                                          refine ok_rd (by omega) (gA_167 Y0.1) ?_; intro v39 e_v39 a_v39 b_v39
                                          have t_v39 : v39 = t 167 (a1).toNat := by rw [e_v39]; exact Y0.2.1 167 _ (nw_ar rfl _)
                                          have d_v39 : v83 = v39 := by rw [t_v39, t_v83]
                                          subst d_v39
                                          refine ok_if (fun C173 => ?_) (fun C173 => ?_)
                                          · skip
                                            unfold qj_X13_rule_493
                                            refine ok_rd (by omega) (gA_167 Y0.1) ?_; intro v26 e_v26 a_v26 b_v26
                                            have t_v26 : v26 = t 167 (a1).toNat := by rw [e_v26]; exact Y0.2.1 167 _ (nw_ar rfl _)
                                            have d_v26 : v83 = v26 := by rw [t_v26, t_v83]
                                            subst d_v26
                                            refine ok_if (fun C174 => ?_) (fun C174 => ?_)
                                            · skip
                                              refine ok_sv (vy_led hn S Y0 N0 T (by omega) (by omega)) ?_; intro u28 P_u28
                                              have p5_u28 := P_u28.2.1; have p6_u28 := P_u28.2.2; replace P_u28 := P_u28.1
                                              obtain ⟨Y_u28, N_u28, K_u28, ⟨r1_u28, r2_u28, r3_u28, r4_u28⟩, f_u28⟩ := P_u28
                                              obtain ⟨k1_u28, k2_u28, k3_u28, k4_u28, k5_u28, k6_u28, k7_u28⟩ := K_u28.1
                                              have K175 := ke_tr K0 K_u28
                                              have B_u28 : TC t u28.2 := bf_tc Y_u28.2.1
                                              have F176 : FG a b h u28.2 := fg_tr F0 f_u28 (by omega)
                                              have rgN177 := te_rg (te_led T (by omega))
                                              have N177 : u28.2 160 9 = 0 → OV u28.2 a a1 (t 170 a1.toNat) := fun y => ov_fg B0 B_u28 f_u28 (by omega) (by omega) ⟨⟨rgN177.2.1, rgN177.2.2.1, p6_u28 y⟩, (hr (k7_u28 y)).1 (by omega)⟩
                                              unfold qj_X13_rule_522
                                              refine ok_if (fun C178 => ?_) (fun C178 => ?_)
                                              · skip
                                                exfalso; omega
                                              · skip
                                                refine ok_rd (by omega) (gA_168 Y_u28.1) ?_; intro v21 e_v21 a_v21 b_v21
                                                have t_v21 : v21 = t 168 (a1).toNat := by rw [e_v21]; exact Y_u28.2.1 168 _ (nw_ar rfl _)
                                                have d_v21 : v35 = v21 := by rw [t_v21, t_v35]
                                                subst d_v21
                                                refine ok_sv (vy_wrong hn Y_u28 (by omega) (by omega)) ?_; intro u23 P_u23
                                                obtain ⟨Y_u23, K_u23, x_u23, f_u23⟩ := P_u23
                                                obtain ⟨k1_u23, k2_u23, k3_u23, k4_u23, k5_u23, k6_u23, k7_u23⟩ := K_u23.1
                                                have N_u23 : MI t u23 := mi_dead x_u23
                                                have K179 := ke_tr K175 K_u23
                                                have B_u23 : TC t u23 := bf_tc Y_u23.2.1
                                                have F180 : FG a b h u23 := fg_tr F176 f_u23 (by omega)
                                                unfold qj_X13_rule_539
                                                refine ok_mul (by omega) ?_; intro v13 e_v13
                                                refine ok_add (by omega) ?_; intro v14 e_v14
                                                refine ok_sv vy_isThing ?_; intro u15 P_u15
                                                refine ok_if (fun C181 => ?_) (fun C181 => ?_)
                                                · skip
                                                  unfold qj_X13_rule_562
                                                  refine ok_rd (by omega) (gA_168 Y_u23.1) ?_; intro v10 e_v10 a_v10 b_v10
                                                  have t_v10 : v10 = t 168 (a1).toNat := by rw [e_v10]; exact Y_u23.2.1 168 _ (nw_ar rfl _)
                                                  have d_v10 : v35 = v10 := by rw [t_v10, t_v35]
                                                  subst d_v10
                                                  refine ok_sv (vy_wrong hn Y_u23 (by omega) (by omega)) ?_; intro u12 P_u12
                                                  obtain ⟨Y_u12, K_u12, x_u12, f_u12⟩ := P_u12
                                                  obtain ⟨k1_u12, k2_u12, k3_u12, k4_u12, k5_u12, k6_u12, k7_u12⟩ := K_u12.1
                                                  have N_u12 : MI t u12 := mi_dead x_u12
                                                  have K182 := ke_tr K179 K_u12
                                                  have B_u12 : TC t u12 := bf_tc Y_u12.2.1
                                                  have F183 : FG a b h u12 := fg_tr F180 f_u12 (by omega)
                                                  unfold qj_X13_rule_574
                                                  refine ok_wA (by omega) ?_; intro h5 E_h5
                                                  obtain ⟨Y_h5, K_h5⟩ := yi_176 Y_u12 (by omega) (by omega) (by omega) E_h5
                                                  obtain ⟨k1_h5, k2_h5, k3_h5, k4_h5, k5_h5, k6_h5, k7_h5⟩ := K_h5.1
                                                  have s_h5 : h5 176 (a1).toNat = v14 := by rw [E_h5]; exact up_s
                                                  have N_h5 := mi_up N_u12 E_h5 (by decide)
                                                  have K184 := ke_tr K182 K_h5
                                                  have B_h5 : TC t h5 := bf_tc Y_h5.2.1
                                                  have F185 : FG a b h h5 := fg_tr F183 (fg_up (j := a1) E_h5 (by omega)) (by omega)
                                                  refine ok_rd (by omega) (gA_167 Y_h5.1) ?_; intro v7 e_v7 a_v7 b_v7
                                                  have t_v7 : v7 = t 167 (a1).toNat := by rw [e_v7]; exact Y_h5.2.1 167 _ (nw_ar rfl _)
                                                  have d_v7 : v83 = v7 := by rw [t_v7, t_v83]
                                                  subst d_v7
                                                  refine ok_if (fun C186 => ?_) (fun C186 => ?_)
                                                  · skip
                                                    exfalso; omega
                                                  · skip
                                                    exact ok_ret ⟨⟨Y_h5, N_h5, K184, ⟨by omega, by omega, by omega, fun y => by have y : h5 160 9 = 0 := y; show 0 ≤ 1; omega⟩, F185⟩, fun y => by have y : h5 160 9 = 0 := y; exfalso; omega⟩
                                                · skip
                                                  refine ok_sv (vy_goTogether hn Y_u23 S (by omega) (by omega)) ?_; intro u17 P_u17
                                                  refine ok_if (fun C187 => ?_) (fun C187 => ?_)
                                                  · skip
                                                    unfold qj_X13_rule_574
                                                    refine ok_wA (by omega) ?_; intro h5 E_h5
                                                    obtain ⟨Y_h5, K_h5⟩ := yi_176 Y_u23 (by omega) (by omega) (by omega) E_h5
                                                    obtain ⟨k1_h5, k2_h5, k3_h5, k4_h5, k5_h5, k6_h5, k7_h5⟩ := K_h5.1
                                                    have s_h5 : h5 176 (a1).toNat = v14 := by rw [E_h5]; exact up_s
                                                    have N_h5 := mi_up N_u23 E_h5 (by decide)
                                                    have K188 := ke_tr K179 K_h5
                                                    have B_h5 : TC t h5 := bf_tc Y_h5.2.1
                                                    have F189 : FG a b h h5 := fg_tr F180 (fg_up (j := a1) E_h5 (by omega)) (by omega)
                                                    refine ok_rd (by omega) (gA_167 Y_h5.1) ?_; intro v7 e_v7 a_v7 b_v7
                                                    have t_v7 : v7 = t 167 (a1).toNat := by rw [e_v7]; exact Y_h5.2.1 167 _ (nw_ar rfl _)
                                                    have d_v7 : v83 = v7 := by rw [t_v7, t_v83]
                                                    subst d_v7
                                                    refine ok_if (fun C190 => ?_) (fun C190 => ?_)
                                                    · skip
                                                      exfalso; omega
                                                    · skip
                                                      exact ok_ret ⟨⟨Y_h5, N_h5, K188, ⟨by omega, by omega, by omega, fun y => by have y : h5 160 9 = 0 := y; show 0 ≤ 1; omega⟩, F189⟩, fun y => by have y : h5 160 9 = 0 := y; exfalso; omega⟩
                                                  · skip
                                                    unfold qj_X13_rule_562
                                                    refine ok_rd (by omega) (gA_168 Y_u23.1) ?_; intro v10 e_v10 a_v10 b_v10
                                                    have t_v10 : v10 = t 168 (a1).toNat := by rw [e_v10]; exact Y_u23.2.1 168 _ (nw_ar rfl _)
                                                    have d_v10 : v35 = v10 := by rw [t_v10, t_v35]
                                                    subst d_v10
                                                    refine ok_sv (vy_wrong hn Y_u23 (by omega) (by omega)) ?_; intro u12 P_u12
                                                    obtain ⟨Y_u12, K_u12, x_u12, f_u12⟩ := P_u12
                                                    obtain ⟨k1_u12, k2_u12, k3_u12, k4_u12, k5_u12, k6_u12, k7_u12⟩ := K_u12.1
                                                    have N_u12 : MI t u12 := mi_dead x_u12
                                                    have K191 := ke_tr K179 K_u12
                                                    have B_u12 : TC t u12 := bf_tc Y_u12.2.1
                                                    have F192 : FG a b h u12 := fg_tr F180 f_u12 (by omega)
                                                    unfold qj_X13_rule_574
                                                    refine ok_wA (by omega) ?_; intro h5 E_h5
                                                    obtain ⟨Y_h5, K_h5⟩ := yi_176 Y_u12 (by omega) (by omega) (by omega) E_h5
                                                    obtain ⟨k1_h5, k2_h5, k3_h5, k4_h5, k5_h5, k6_h5, k7_h5⟩ := K_h5.1
                                                    have s_h5 : h5 176 (a1).toNat = v14 := by rw [E_h5]; exact up_s
                                                    have N_h5 := mi_up N_u12 E_h5 (by decide)
                                                    have K193 := ke_tr K191 K_h5
                                                    have B_h5 : TC t h5 := bf_tc Y_h5.2.1
                                                    have F194 : FG a b h h5 := fg_tr F192 (fg_up (j := a1) E_h5 (by omega)) (by omega)
                                                    refine ok_rd (by omega) (gA_167 Y_h5.1) ?_; intro v7 e_v7 a_v7 b_v7
                                                    have t_v7 : v7 = t 167 (a1).toNat := by rw [e_v7]; exact Y_h5.2.1 167 _ (nw_ar rfl _)
                                                    have d_v7 : v83 = v7 := by rw [t_v7, t_v83]
                                                    subst d_v7
                                                    refine ok_if (fun C195 => ?_) (fun C195 => ?_)
                                                    · skip
                                                      exfalso; omega
                                                    · skip
                                                      exact ok_ret ⟨⟨Y_h5, N_h5, K193, ⟨by omega, by omega, by omega, fun y => by have y : h5 160 9 = 0 := y; show 0 ≤ 1; omega⟩, F194⟩, fun y => by have y : h5 160 9 = 0 := y; exfalso; omega⟩
                                            · skip
                                              exfalso; omega
                                          · skip
                                            exfalso; omega
                                      · skip
                                        refine ok_rd (by omega) (gA_170 Y0.1) ?_; intro v85 e_v85 a_v85 b_v85
                                        have t_v85 : v85 = t 170 (a1).toNat := by rw [e_v85]; exact Y0.2.1 170 _ (nw_ar rfl _)
                                        obtain ⟨x39, p39, hp39, y39, z39⟩ := te_x39 T (by omega)
                                        have c196 := x39; rw [← t_v85] at c196; have rc196 := te_rg c196
                                        refine ok_sv (G.1 v85 _ _ _ h Y0 N0 c196 (by omega) (by omega) (by omega)) ?_; intro u87 P_u87
                                        have w_u87 := P_u87.2; replace P_u87 := P_u87.1
                                        obtain ⟨Y_u87, N_u87, K_u87, f_u87⟩ := P_u87
                                        obtain ⟨k1_u87, k2_u87, k3_u87, k4_u87, k5_u87, k6_u87, k7_u87⟩ := K_u87.1
                                        have K197 := ke_tr K0 K_u87
                                        have B_u87 : TC t u87 := bf_tc Y_u87.2.1
                                        have F198 : FG a b h u87 := fg_tr F0 f_u87 (by omega)
                                        refine ok_rd (by omega) (gA_171 Y_u87.1) ?_; intro v89 e_v89 a_v89 b_v89
                                        have t_v89 : v89 = t 171 (a1).toNat := by rw [e_v89]; exact Y_u87.2.1 171 _ (nw_ar rfl _)
                                        have c199 := y39; rw [← t_v89] at c199; have rc199 := te_rg c199
                                        refine ok_sv (G.2.1 v89 _ _ _ u87 Y_u87 N_u87 c199 (by omega) (by omega) (by omega)) ?_; intro u91 P_u91
                                        have w_u91 := P_u91.2; replace P_u91 := P_u91.1
                                        obtain ⟨Y_u91, N_u91, K_u91, ⟨r1_u91, r2_u91, r3_u91, r4_u91⟩, f_u91⟩ := P_u91
                                        obtain ⟨k1_u91, k2_u91, k3_u91, k4_u91, k5_u91, k6_u91, k7_u91⟩ := K_u91.1
                                        have K200 := ke_tr K197 K_u91
                                        have B_u91 : TC t u91.2 := bf_tc Y_u91.2.1
                                        have F201 : FG a b h u91.2 := fg_tr F198 f_u91 (by omega)
                                        have N202 : u91.2 160 9 = 0 → OV u91.2 a a1 v85 := fun y => ov_fg B_u87 B_u91 f_u91 (by omega) (by omega) (w_u87 (k7_u91 y))
                                        refine ok_rd (by omega) (gA_172 Y_u91.1) ?_; intro v93 e_v93 a_v93 b_v93
                                        have t_v93 : v93 = t 172 (a1).toNat := by rw [e_v93]; exact Y_u91.2.1 172 _ (nw_ar rfl _)
                                        have c203 := z39; rw [← t_v93] at c203; have rc203 := te_rg c203
                                        refine ok_sv (G.2.1 v93 _ _ _ u91.2 Y_u91 N_u91 c203 (by omega) (by omega) (by omega)) ?_; intro u95 P_u95
                                        have w_u95 := P_u95.2; replace P_u95 := P_u95.1
                                        obtain ⟨Y_u95, N_u95, K_u95, ⟨r1_u95, r2_u95, r3_u95, r4_u95⟩, f_u95⟩ := P_u95
                                        obtain ⟨k1_u95, k2_u95, k3_u95, k4_u95, k5_u95, k6_u95, k7_u95⟩ := K_u95.1
                                        have K204 := ke_tr K200 K_u95
                                        have B_u95 : TC t u95.2 := bf_tc Y_u95.2.1
                                        have F205 : FG a b h u95.2 := fg_tr F201 f_u95 (by omega)
                                        have N206 : u95.2 160 9 = 0 → OV u95.2 a a1 v85 := fun y => ov_fg B_u91 B_u95 f_u95 (by omega) (by omega) (N202 (k7_u95 y))
                                        have N207 : u95.2 160 9 = 0 → OV u95.2 (a1 + 1) p39 v89 := fun y => ov_fg B_u91 B_u95 f_u95 (by omega) (by omega) (w_u91 (k7_u95 y))
                                        refine ok_sv (vy_goTogether hn Y_u95 S (by omega) (by omega)) ?_; intro u97 P_u97
                                        refine ok_if (fun C208 => ?_) (fun C208 => ?_)
                                        · skip
                                          unfold qj_X13_rule_657
                                          refine ok_sv (vy_fits hn Y_u95 S (by omega) (by omega)) ?_; intro u2 P_u2
                                          refine ok_if (fun C209 => ?_) (fun C209 => ?_)
                                          · skip
                                            exact ok_ret ⟨⟨Y_u95, N_u95, K204, ⟨by omega, by omega, by omega, fun y => by have y : u95.2 160 9 = 0 := y; show 0 ≤ u91.1; omega⟩, F205⟩, fun y => by have y : u95.2 160 9 = 0 := y; exact yl_39 B_u95 ⟨by omega, by omega, by omega⟩ (by omega) (by rw [← t_v85]; exact N206 y) hp39 (by rw [← t_v89]; exact N207 y) (by rw [← t_v93]; exact w_u95 y)⟩
                                          · skip
                                            exact ok_ret ⟨⟨Y_u95, N_u95, K204, ⟨by omega, by omega, by omega, fun y => by have y : u95.2 160 9 = 0 := y; show 0 ≤ u95.1; omega⟩, F205⟩, fun y => by have y : u95.2 160 9 = 0 := y; exact yl_39 B_u95 ⟨by omega, by omega, by omega⟩ (by omega) (by rw [← t_v85]; exact N206 y) hp39 (by rw [← t_v89]; exact N207 y) (by rw [← t_v93]; exact w_u95 y)⟩
                                        · skip
                                          refine ok_rd (by omega) (gA_168 Y_u95.1) ?_; intro v99 e_v99 a_v99 b_v99
                                          have t_v99 : v99 = t 168 (a1).toNat := by rw [e_v99]; exact Y_u95.2.1 168 _ (nw_ar rfl _)
                                          refine ok_sv (vy_wrong hn Y_u95 (by omega) (by omega)) ?_; intro u101 P_u101
                                          obtain ⟨Y_u101, K_u101, x_u101, f_u101⟩ := P_u101
                                          obtain ⟨k1_u101, k2_u101, k3_u101, k4_u101, k5_u101, k6_u101, k7_u101⟩ := K_u101.1
                                          have N_u101 : MI t u101 := mi_dead x_u101
                                          have K210 := ke_tr K204 K_u101
                                          have B_u101 : TC t u101 := bf_tc Y_u101.2.1
                                          have F211 : FG a b h u101 := fg_tr F205 f_u101 (by omega)
                                          unfold qj_X13_rule_657
                                          refine ok_sv (vy_fits hn Y_u101 S (by omega) (by omega)) ?_; intro u2 P_u2
                                          refine ok_if (fun C212 => ?_) (fun C212 => ?_)
                                          · skip
                                            exact ok_ret ⟨⟨Y_u101, N_u101, K210, ⟨by omega, by omega, by omega, fun y => by have y : u101 160 9 = 0 := y; show 0 ≤ u91.1; omega⟩, F211⟩, fun y => by have y : u101 160 9 = 0 := y; exfalso; omega⟩
                                          · skip
                                            exact ok_ret ⟨⟨Y_u101, N_u101, K210, ⟨by omega, by omega, by omega, fun y => by have y : u101 160 9 = 0 := y; show 0 ≤ u95.1; omega⟩, F211⟩, fun y => by have y : u101 160 9 = 0 := y; exfalso; omega⟩
set_option maxHeartbeats 8000000 in
theorem vz_both {nn : Nat} (hn : 1000000 ≤ nn) {t h : ms_M} (S : SF t) (Y0 : YI t h) (N0 : MI t h) {g : Int} {rc : tq_X13_condition} (G : GR nn t g rc) {a1 d a b : Int} (T : TE 1 t 0 d a b a1) (hb : b ≤ t 160 22) (hg : d - 1 ≤ g + 1) (h57 : h 160 57 + b ≤ 9000) (hk : t 167 a1.toNat = 37) (hr : HR nn t h a a1) : Ok_ (qo_X13_both nn rc a1 h) (fun u => QY t h a b u ∧ (u.2 160 9 = 0 → y0 u.2 (YT u.2) a b a1)) := by
  unfold qo_X13_both
  have o1 := te_rg T
  have gg := gF_160_22 Y0.1
  have q22 : h 160 22 = t 160 22 := Y0.2.1 160 22 rfl
  have g24 := gF_160_24 Y0.1
  have q24 : h 160 24 = t 160 24 := Y0.2.1 160 24 rfl
  have g28 := gF_160_28 Y0.1
  have q28 : h 160 28 = t 160 28 := Y0.2.1 160 28 rfl
  have g52 := Y0.2.2.2.2.2.1
  have g57 := gF_160_57 Y0.1
  have g50 := gF_160_50 Y0.1
  have g53 := gF_160_53 Y0.1
  have m51 := Y0.2.2.2.2.2.2
  have c8 := S.2.2.2.1
  have g51 := gF_160_51 Y0.1
  have K0 : Ke h h := ke_rf
  have B0 : TC t h := bf_tc Y0.2.1
  have F0 : FG a b h h := fg_rf
  refine ok_rd (by omega) (gA_168 Y0.1) ?_; intro v47 e_v47 a_v47 b_v47
  have t_v47 : v47 = t 168 (a1).toNat := by rw [e_v47]; exact Y0.2.1 168 _ (nw_ar rfl _)
  refine ok_rd (by omega) (gA_166 Y0.1) ?_; intro v48 e_v48 a_v48 b_v48
  have t_v48 : v48 = t 166 (v47).toNat := by rw [e_v48]; exact Y0.2.1 166 _ (nw_ar rfl _)
  refine ok_sv (vy_sign hn Y0 (by decide)) ?_; intro u49 P_u49
  refine ok_if (fun C1 => ?_) (fun C1 => ?_)
  · skip
    unfold qj_X13_both_36
    refine ok_sv (vy_led hn S Y0 N0 T (by omega) (by omega)) ?_; intro u37 P_u37
    have p5_u37 := P_u37.2.1; have p6_u37 := P_u37.2.2; replace P_u37 := P_u37.1
    obtain ⟨Y_u37, N_u37, K_u37, ⟨r1_u37, r2_u37, r3_u37, r4_u37⟩, f_u37⟩ := P_u37
    obtain ⟨k1_u37, k2_u37, k3_u37, k4_u37, k5_u37, k6_u37, k7_u37⟩ := K_u37.1
    have K2 := ke_tr K0 K_u37
    have B_u37 : TC t u37.2 := bf_tc Y_u37.2.1
    have F3 : FG a b h u37.2 := fg_tr F0 f_u37 (by omega)
    have rgN4 := te_rg (te_led T (by omega))
    have N4 : u37.2 160 9 = 0 → OV u37.2 a a1 (t 170 a1.toNat) := fun y => ov_fg B0 B_u37 f_u37 (by omega) (by omega) ⟨⟨rgN4.2.1, rgN4.2.2.1, p6_u37 y⟩, (hr (k7_u37 y)).1 (by omega)⟩
    refine ok_if (fun C5 => ?_) (fun C5 => ?_)
    · skip
      unfold qj_X13_both_62
      refine ok_rd (by omega) (gA_171 Y_u37.1) ?_; intro v22 e_v22 a_v22 b_v22
      have t_v22 : v22 = t 171 (a1).toNat := by rw [e_v22]; exact Y_u37.2.1 171 _ (nw_ar rfl _)
      have c6 : TE 1 t 0 (d - 3) (a1 + 1) b v22 := by rw [t_v22]; exact (te_k37 T (by omega)).2
      have rc6 := te_rg c6
      refine ok_rd (by omega) (gA_171 Y_u37.1) ?_; intro v24 e_v24 a_v24 b_v24
      have t_v24 : v24 = t 171 (a1).toNat := by rw [e_v24]; exact Y_u37.2.1 171 _ (nw_ar rfl _)
      have d_v24 : v22 = v24 := by rw [t_v24, t_v22]
      subst d_v24
      refine ok_sv (G.2.2.1 v22 _ _ _ u37.2 Y_u37 N_u37 c6 (by omega) (by omega) (by omega)) ?_; intro u26 P_u26
      have w_u26 := P_u26.2; replace P_u26 := P_u26.1
      obtain ⟨Y_u26, N_u26, K_u26, ⟨r1_u26, r2_u26, r3_u26, r4_u26⟩, f_u26⟩ := P_u26
      obtain ⟨k1_u26, k2_u26, k3_u26, k4_u26, k5_u26, k6_u26, k7_u26⟩ := K_u26.1
      have K7 := ke_tr K2 K_u26
      have B_u26 : TC t u26.2 := bf_tc Y_u26.2.1
      have F8 : FG a b h u26.2 := fg_tr F3 f_u26 (by omega)
      have N9 : u26.2 160 9 = 0 → OV u26.2 a a1 (t 170 a1.toNat) := fun y => ov_fg B_u37 B_u26 f_u26 (by omega) (by omega) (N4 (k7_u26 y))
      refine ok_sv (vy_side hn S Y_u26 N_u26 (by omega) (by omega)) ?_; intro u28 P_u28
      have p6_u28 := P_u28.2; replace P_u28 := P_u28.1
      obtain ⟨Y_u28, N_u28, K_u28, ⟨r1_u28, r2_u28, r3_u28, r4_u28⟩, f_u28⟩ := P_u28
      obtain ⟨k1_u28, k2_u28, k3_u28, k4_u28, k5_u28, k6_u28, k7_u28⟩ := K_u28.1
      have K10 := ke_tr K7 K_u28
      have B_u28 : TC t u28.2 := bf_tc Y_u28.2.1
      have F11 : FG a b h u28.2 := fg_tr F8 f_u28 (by omega)
      have N12 : u28.2 160 9 = 0 → OV u28.2 a a1 (t 170 a1.toNat) := fun y => ov_fg B_u26 B_u28 f_u28 (by omega) (by omega) (N9 (k7_u28 y))
      have N13 : u28.2 160 9 = 0 → YT u28.2 0 (a1 + 1) b v22 ∧ u28.2 174 (v22).toNat = u26.1 := fun y => ⟨yt_fg B_u26 B_u28 f_u28 (by omega) (w_u26 (k7_u28 y)).1, by rw [(f_u28 _ (by omega)).1]; exact (w_u26 (k7_u28 y)).2⟩
      have N14 : u28.2 160 9 = 0 → OV u28.2 (a1 + 1) b v22 := fun y => ⟨⟨by omega, by omega, by rw [(N13 y).2]; exact p6_u28 y⟩, (N13 y).1⟩
      refine ok_if (fun C15 => ?_) (fun C15 => ?_)
      · skip
        exact ok_ret ⟨⟨Y_u28, N_u28, K10, ⟨by omega, by omega, by omega, fun y => by have y : u28.2 160 9 = 0 := y; show 0 ≤ 1; omega⟩, F11⟩, fun y => by have y : u28.2 160 9 = 0 := y; exact yl_37 B_u28 ⟨by omega, by omega, by omega⟩ (by omega) (N12 y) (by rw [← t_v22]; exact N14 y)⟩
      · skip
        refine ok_rd (by omega) (gA_171 Y_u28.1) ?_; intro v31 e_v31 a_v31 b_v31
        have t_v31 : v31 = t 171 (a1).toNat := by rw [e_v31]; exact Y_u28.2.1 171 _ (nw_ar rfl _)
        have d_v31 : v22 = v31 := by rw [t_v31, t_v22]
        subst d_v31
        refine ok_rd (by omega) (gA_169 Y_u28.1) ?_; intro v32 e_v32 a_v32 b_v32
        have t_v32 : v32 = t 169 (v22).toNat := by rw [e_v32]; exact Y_u28.2.1 169 _ (nw_ar rfl _)
        refine ok_sv (vy_wrong hn Y_u28 (by omega) (by omega)) ?_; intro u34 P_u34
        obtain ⟨Y_u34, K_u34, x_u34, f_u34⟩ := P_u34
        obtain ⟨k1_u34, k2_u34, k3_u34, k4_u34, k5_u34, k6_u34, k7_u34⟩ := K_u34.1
        have N_u34 : MI t u34 := mi_dead x_u34
        have K16 := ke_tr K10 K_u34
        have B_u34 : TC t u34 := bf_tc Y_u34.2.1
        have F17 : FG a b h u34 := fg_tr F11 f_u34 (by omega)
        exact ok_ret ⟨⟨Y_u34, N_u34, K16, ⟨by omega, by omega, by omega, fun y => by have y : u34 160 9 = 0 := y; show 0 ≤ 1; omega⟩, F17⟩, fun y => by have y : u34 160 9 = 0 := y; exfalso; omega⟩
    · skip
      refine ok_rd (by omega) (gA_170 Y_u37.1) ?_; intro v40 e_v40 a_v40 b_v40
      have t_v40 : v40 = t 170 (a1).toNat := by rw [e_v40]; exact Y_u37.2.1 170 _ (nw_ar rfl _)
      have c18 : TE 1 t 0 d a a1 v40 := by rw [t_v40]; exact (te_k37 T (by omega)).1
      have rc18 := te_rg c18
      refine ok_rd (by omega) (gA_169 Y_u37.1) ?_; intro v41 e_v41 a_v41 b_v41
      have t_v41 : v41 = t 169 (v40).toNat := by rw [e_v41]; exact Y_u37.2.1 169 _ (nw_ar rfl _)
      refine ok_sv (vy_wrong hn Y_u37 (by omega) (by omega)) ?_; intro u43 P_u43
      obtain ⟨Y_u43, K_u43, x_u43, f_u43⟩ := P_u43
      obtain ⟨k1_u43, k2_u43, k3_u43, k4_u43, k5_u43, k6_u43, k7_u43⟩ := K_u43.1
      have N_u43 : MI t u43 := mi_dead x_u43
      have K19 := ke_tr K2 K_u43
      have B_u43 : TC t u43 := bf_tc Y_u43.2.1
      have F20 : FG a b h u43 := fg_tr F3 f_u43 (by omega)
      unfold qj_X13_both_62
      refine ok_rd (by omega) (gA_171 Y_u43.1) ?_; intro v22 e_v22 a_v22 b_v22
      have t_v22 : v22 = t 171 (a1).toNat := by rw [e_v22]; exact Y_u43.2.1 171 _ (nw_ar rfl _)
      have c21 : TE 1 t 0 (d - 3) (a1 + 1) b v22 := by rw [t_v22]; exact (te_k37 T (by omega)).2
      have rc21 := te_rg c21
      refine ok_rd (by omega) (gA_171 Y_u43.1) ?_; intro v24 e_v24 a_v24 b_v24
      have t_v24 : v24 = t 171 (a1).toNat := by rw [e_v24]; exact Y_u43.2.1 171 _ (nw_ar rfl _)
      have d_v24 : v22 = v24 := by rw [t_v24, t_v22]
      subst d_v24
      refine ok_sv (G.2.2.1 v22 _ _ _ u43 Y_u43 N_u43 c21 (by omega) (by omega) (by omega)) ?_; intro u26 P_u26
      have w_u26 := P_u26.2; replace P_u26 := P_u26.1
      obtain ⟨Y_u26, N_u26, K_u26, ⟨r1_u26, r2_u26, r3_u26, r4_u26⟩, f_u26⟩ := P_u26
      obtain ⟨k1_u26, k2_u26, k3_u26, k4_u26, k5_u26, k6_u26, k7_u26⟩ := K_u26.1
      have K22 := ke_tr K19 K_u26
      have B_u26 : TC t u26.2 := bf_tc Y_u26.2.1
      have F23 : FG a b h u26.2 := fg_tr F20 f_u26 (by omega)
      refine ok_sv (vy_side hn S Y_u26 N_u26 (by omega) (by omega)) ?_; intro u28 P_u28
      have p6_u28 := P_u28.2; replace P_u28 := P_u28.1
      obtain ⟨Y_u28, N_u28, K_u28, ⟨r1_u28, r2_u28, r3_u28, r4_u28⟩, f_u28⟩ := P_u28
      obtain ⟨k1_u28, k2_u28, k3_u28, k4_u28, k5_u28, k6_u28, k7_u28⟩ := K_u28.1
      have K24 := ke_tr K22 K_u28
      have B_u28 : TC t u28.2 := bf_tc Y_u28.2.1
      have F25 : FG a b h u28.2 := fg_tr F23 f_u28 (by omega)
      have N26 : u28.2 160 9 = 0 → YT u28.2 0 (a1 + 1) b v22 ∧ u28.2 174 (v22).toNat = u26.1 := fun y => ⟨yt_fg B_u26 B_u28 f_u28 (by omega) (w_u26 (k7_u28 y)).1, by rw [(f_u28 _ (by omega)).1]; exact (w_u26 (k7_u28 y)).2⟩
      have N27 : u28.2 160 9 = 0 → OV u28.2 (a1 + 1) b v22 := fun y => ⟨⟨by omega, by omega, by rw [(N26 y).2]; exact p6_u28 y⟩, (N26 y).1⟩
      refine ok_if (fun C28 => ?_) (fun C28 => ?_)
      · skip
        exact ok_ret ⟨⟨Y_u28, N_u28, K24, ⟨by omega, by omega, by omega, fun y => by have y : u28.2 160 9 = 0 := y; show 0 ≤ 1; omega⟩, F25⟩, fun y => by have y : u28.2 160 9 = 0 := y; exfalso; omega⟩
      · skip
        refine ok_rd (by omega) (gA_171 Y_u28.1) ?_; intro v31 e_v31 a_v31 b_v31
        have t_v31 : v31 = t 171 (a1).toNat := by rw [e_v31]; exact Y_u28.2.1 171 _ (nw_ar rfl _)
        have d_v31 : v22 = v31 := by rw [t_v31, t_v22]
        subst d_v31
        refine ok_rd (by omega) (gA_169 Y_u28.1) ?_; intro v32 e_v32 a_v32 b_v32
        have t_v32 : v32 = t 169 (v22).toNat := by rw [e_v32]; exact Y_u28.2.1 169 _ (nw_ar rfl _)
        refine ok_sv (vy_wrong hn Y_u28 (by omega) (by omega)) ?_; intro u34 P_u34
        obtain ⟨Y_u34, K_u34, x_u34, f_u34⟩ := P_u34
        obtain ⟨k1_u34, k2_u34, k3_u34, k4_u34, k5_u34, k6_u34, k7_u34⟩ := K_u34.1
        have N_u34 : MI t u34 := mi_dead x_u34
        have K29 := ke_tr K24 K_u34
        have B_u34 : TC t u34 := bf_tc Y_u34.2.1
        have F30 : FG a b h u34 := fg_tr F25 f_u34 (by omega)
        exact ok_ret ⟨⟨Y_u34, N_u34, K29, ⟨by omega, by omega, by omega, fun y => by have y : u34 160 9 = 0 := y; show 0 ≤ 1; omega⟩, F30⟩, fun y => by have y : u34 160 9 = 0 := y; exfalso; omega⟩
  · skip
    refine ok_sv (vy_sign hn Y0 (by decide)) ?_; intro u50 P_u50
    refine ok_if (fun C31 => ?_) (fun C31 => ?_)
    · skip
      refine ok_sv (vy_led hn S Y0 N0 T (by omega) (by omega)) ?_; intro u52 P_u52
      have p5_u52 := P_u52.2.1; have p6_u52 := P_u52.2.2; replace P_u52 := P_u52.1
      obtain ⟨Y_u52, N_u52, K_u52, ⟨r1_u52, r2_u52, r3_u52, r4_u52⟩, f_u52⟩ := P_u52
      obtain ⟨k1_u52, k2_u52, k3_u52, k4_u52, k5_u52, k6_u52, k7_u52⟩ := K_u52.1
      have K32 := ke_tr K0 K_u52
      have B_u52 : TC t u52.2 := bf_tc Y_u52.2.1
      have F33 : FG a b h u52.2 := fg_tr F0 f_u52 (by omega)
      have rgN34 := te_rg (te_led T (by omega))
      have N34 : u52.2 160 9 = 0 → OV u52.2 a a1 (t 170 a1.toNat) := fun y => ov_fg B0 B_u52 f_u52 (by omega) (by omega) ⟨⟨rgN34.2.1, rgN34.2.2.1, p6_u52 y⟩, (hr (k7_u52 y)).1 (by omega)⟩
      refine ok_rd (by omega) (gA_171 Y_u52.1) ?_; intro v54 e_v54 a_v54 b_v54
      have t_v54 : v54 = t 171 (a1).toNat := by rw [e_v54]; exact Y_u52.2.1 171 _ (nw_ar rfl _)
      have c35 : TE 1 t 0 (d - 3) (a1 + 1) b v54 := by rw [t_v54]; exact (te_k37 T (by omega)).2
      have rc35 := te_rg c35
      refine ok_rd (by omega) (gA_171 Y_u52.1) ?_; intro v56 e_v56 a_v56 b_v56
      have t_v56 : v56 = t 171 (a1).toNat := by rw [e_v56]; exact Y_u52.2.1 171 _ (nw_ar rfl _)
      have d_v56 : v54 = v56 := by rw [t_v56, t_v54]
      subst d_v56
      refine ok_sv (G.2.2.1 v54 _ _ _ u52.2 Y_u52 N_u52 c35 (by omega) (by omega) (by omega)) ?_; intro u58 P_u58
      have w_u58 := P_u58.2; replace P_u58 := P_u58.1
      obtain ⟨Y_u58, N_u58, K_u58, ⟨r1_u58, r2_u58, r3_u58, r4_u58⟩, f_u58⟩ := P_u58
      obtain ⟨k1_u58, k2_u58, k3_u58, k4_u58, k5_u58, k6_u58, k7_u58⟩ := K_u58.1
      have K36 := ke_tr K32 K_u58
      have B_u58 : TC t u58.2 := bf_tc Y_u58.2.1
      have F37 : FG a b h u58.2 := fg_tr F33 f_u58 (by omega)
      have N38 : u58.2 160 9 = 0 → OV u58.2 a a1 (t 170 a1.toNat) := fun y => ov_fg B_u52 B_u58 f_u58 (by omega) (by omega) (N34 (k7_u58 y))
      refine ok_sv (vy_side hn S Y_u58 N_u58 (by omega) (by omega)) ?_; intro u60 P_u60
      have p6_u60 := P_u60.2; replace P_u60 := P_u60.1
      obtain ⟨Y_u60, N_u60, K_u60, ⟨r1_u60, r2_u60, r3_u60, r4_u60⟩, f_u60⟩ := P_u60
      obtain ⟨k1_u60, k2_u60, k3_u60, k4_u60, k5_u60, k6_u60, k7_u60⟩ := K_u60.1
      have K39 := ke_tr K36 K_u60
      have B_u60 : TC t u60.2 := bf_tc Y_u60.2.1
      have F40 : FG a b h u60.2 := fg_tr F37 f_u60 (by omega)
      have N41 : u60.2 160 9 = 0 → OV u60.2 a a1 (t 170 a1.toNat) := fun y => ov_fg B_u58 B_u60 f_u60 (by omega) (by omega) (N38 (k7_u60 y))
      have N42 : u60.2 160 9 = 0 → YT u60.2 0 (a1 + 1) b v54 ∧ u60.2 174 (v54).toNat = u58.1 := fun y => ⟨yt_fg B_u58 B_u60 f_u60 (by omega) (w_u58 (k7_u60 y)).1, by rw [(f_u60 _ (by omega)).1]; exact (w_u58 (k7_u60 y)).2⟩
      have N43 : u60.2 160 9 = 0 → OV u60.2 (a1 + 1) b v54 := fun y => ⟨⟨by omega, by omega, by rw [(N42 y).2]; exact p6_u60 y⟩, (N42 y).1⟩
      refine ok_if (fun C44 => ?_) (fun C44 => ?_)
      · skip
        refine ok_sv (vy_sign hn Y_u60 (by decide)) ?_; intro u62 P_u62
        refine ok_if (fun C45 => ?_) (fun C45 => ?_)
        · skip
          unfold qj_X13_both_166
          refine ok_sv (vy_goTogether hn Y_u60 S (by omega) (by omega)) ?_; intro u15 P_u15
          refine ok_if (fun C46 => ?_) (fun C46 => ?_)
          · skip
            exact ok_ret ⟨⟨Y_u60, N_u60, K39, ⟨by omega, by omega, by omega, fun y => by have y : u60.2 160 9 = 0 := y; show 0 ≤ 1; omega⟩, F40⟩, fun y => by have y : u60.2 160 9 = 0 := y; exact yl_37 B_u60 ⟨by omega, by omega, by omega⟩ (by omega) (N41 y) (by rw [← t_v54]; exact N43 y)⟩
          · skip
            refine ok_rd (by omega) (gA_168 Y_u60.1) ?_; intro v17 e_v17 a_v17 b_v17
            have t_v17 : v17 = t 168 (a1).toNat := by rw [e_v17]; exact Y_u60.2.1 168 _ (nw_ar rfl _)
            have d_v17 : v47 = v17 := by rw [t_v17, t_v47]
            subst d_v17
            refine ok_sv (vy_wrong hn Y_u60 (by omega) (by omega)) ?_; intro u19 P_u19
            obtain ⟨Y_u19, K_u19, x_u19, f_u19⟩ := P_u19
            obtain ⟨k1_u19, k2_u19, k3_u19, k4_u19, k5_u19, k6_u19, k7_u19⟩ := K_u19.1
            have N_u19 : MI t u19 := mi_dead x_u19
            have K47 := ke_tr K39 K_u19
            have B_u19 : TC t u19 := bf_tc Y_u19.2.1
            have F48 : FG a b h u19 := fg_tr F40 f_u19 (by omega)
            exact ok_ret ⟨⟨Y_u19, N_u19, K47, ⟨by omega, by omega, by omega, fun y => by have y : u19 160 9 = 0 := y; show 0 ≤ 1; omega⟩, F48⟩, fun y => by have y : u19 160 9 = 0 := y; exfalso; omega⟩
        · skip
          refine ok_sv (vy_sign hn Y_u60 (by decide)) ?_; intro u63 P_u63
          refine ok_if (fun C49 => ?_) (fun C49 => ?_)
          · skip
            refine ok_if (fun C50 => ?_) (fun C50 => ?_)
            · skip
              unfold qj_X13_both_208
              unfold qj_X13_both_213
              refine ok_if (fun C51 => ?_) (fun C51 => ?_)
              · skip
                unfold qj_X13_both_235
                refine ok_rd (by omega) (gA_168 Y_u60.1) ?_; intro v7 e_v7 a_v7 b_v7
                have t_v7 : v7 = t 168 (a1).toNat := by rw [e_v7]; exact Y_u60.2.1 168 _ (nw_ar rfl _)
                have d_v7 : v47 = v7 := by rw [t_v7, t_v47]
                subst d_v7
                refine ok_sv (vy_wrong hn Y_u60 (by omega) (by omega)) ?_; intro u9 P_u9
                obtain ⟨Y_u9, K_u9, x_u9, f_u9⟩ := P_u9
                obtain ⟨k1_u9, k2_u9, k3_u9, k4_u9, k5_u9, k6_u9, k7_u9⟩ := K_u9.1
                have N_u9 : MI t u9 := mi_dead x_u9
                have K52 := ke_tr K39 K_u9
                have B_u9 : TC t u9 := bf_tc Y_u9.2.1
                have F53 : FG a b h u9 := fg_tr F40 f_u9 (by omega)
                unfold qj_X13_both_247
                refine ok_rd (by omega) (gA_168 Y_u9.1) ?_; intro v2 e_v2 a_v2 b_v2
                have t_v2 : v2 = t 168 (a1).toNat := by rw [e_v2]; exact Y_u9.2.1 168 _ (nw_ar rfl _)
                have d_v2 : v47 = v2 := by rw [t_v2, t_v47]
                subst d_v2
                refine ok_sv (vy_strength hn Y_u9 (by omega)) ?_; intro u4 P_u4
                refine ok_if (fun C54 => ?_) (fun C54 => ?_)
                · skip
                  exact ok_ret ⟨⟨Y_u9, N_u9, K52, ⟨by omega, by omega, by omega, fun y => by have y : u9 160 9 = 0 := y; show 0 ≤ u52.1; omega⟩, F53⟩, fun y => by have y : u9 160 9 = 0 := y; exfalso; omega⟩
                · skip
                  exact ok_ret ⟨⟨Y_u9, N_u9, K52, ⟨by omega, by omega, by omega, fun y => by have y : u9 160 9 = 0 := y; show 0 ≤ 1; omega⟩, F53⟩, fun y => by have y : u9 160 9 = 0 := y; exfalso; omega⟩
              · skip
                refine ok_if (fun C55 => ?_) (fun C55 => ?_)
                · skip
                  unfold qj_X13_both_247
                  refine ok_rd (by omega) (gA_168 Y_u60.1) ?_; intro v2 e_v2 a_v2 b_v2
                  have t_v2 : v2 = t 168 (a1).toNat := by rw [e_v2]; exact Y_u60.2.1 168 _ (nw_ar rfl _)
                  have d_v2 : v47 = v2 := by rw [t_v2, t_v47]
                  subst d_v2
                  refine ok_sv (vy_strength hn Y_u60 (by omega)) ?_; intro u4 P_u4
                  refine ok_if (fun C56 => ?_) (fun C56 => ?_)
                  · skip
                    exact ok_ret ⟨⟨Y_u60, N_u60, K39, ⟨by omega, by omega, by omega, fun y => by have y : u60.2 160 9 = 0 := y; show 0 ≤ u52.1; omega⟩, F40⟩, fun y => by have y : u60.2 160 9 = 0 := y; exact yl_37 B_u60 ⟨by omega, by omega, by omega⟩ (by omega) (N41 y) (by rw [← t_v54]; exact N43 y)⟩
                  · skip
                    exact ok_ret ⟨⟨Y_u60, N_u60, K39, ⟨by omega, by omega, by omega, fun y => by have y : u60.2 160 9 = 0 := y; show 0 ≤ 1; omega⟩, F40⟩, fun y => by have y : u60.2 160 9 = 0 := y; exact yl_37 B_u60 ⟨by omega, by omega, by omega⟩ (by omega) (N41 y) (by rw [← t_v54]; exact N43 y)⟩
                · skip
                  rw [if_neg (by decide)]
                  refine ok_if (fun C57 => ?_) (fun C57 => ?_)
                  · skip
                    unfold qj_X13_both_247
                    refine ok_rd (by omega) (gA_168 Y_u60.1) ?_; intro v2 e_v2 a_v2 b_v2
                    have t_v2 : v2 = t 168 (a1).toNat := by rw [e_v2]; exact Y_u60.2.1 168 _ (nw_ar rfl _)
                    have d_v2 : v47 = v2 := by rw [t_v2, t_v47]
                    subst d_v2
                    refine ok_sv (vy_strength hn Y_u60 (by omega)) ?_; intro u4 P_u4
                    refine ok_if (fun C58 => ?_) (fun C58 => ?_)
                    · skip
                      exact ok_ret ⟨⟨Y_u60, N_u60, K39, ⟨by omega, by omega, by omega, fun y => by have y : u60.2 160 9 = 0 := y; show 0 ≤ u52.1; omega⟩, F40⟩, fun y => by have y : u60.2 160 9 = 0 := y; exact yl_37 B_u60 ⟨by omega, by omega, by omega⟩ (by omega) (N41 y) (by rw [← t_v54]; exact N43 y)⟩
                    · skip
                      exact ok_ret ⟨⟨Y_u60, N_u60, K39, ⟨by omega, by omega, by omega, fun y => by have y : u60.2 160 9 = 0 := y; show 0 ≤ 1; omega⟩, F40⟩, fun y => by have y : u60.2 160 9 = 0 := y; exact yl_37 B_u60 ⟨by omega, by omega, by omega⟩ (by omega) (N41 y) (by rw [← t_v54]; exact N43 y)⟩
                  · skip
                    unfold qj_X13_both_235
                    refine ok_rd (by omega) (gA_168 Y_u60.1) ?_; intro v7 e_v7 a_v7 b_v7
                    have t_v7 : v7 = t 168 (a1).toNat := by rw [e_v7]; exact Y_u60.2.1 168 _ (nw_ar rfl _)
                    have d_v7 : v47 = v7 := by rw [t_v7, t_v47]
                    subst d_v7
                    refine ok_sv (vy_wrong hn Y_u60 (by omega) (by omega)) ?_; intro u9 P_u9
                    obtain ⟨Y_u9, K_u9, x_u9, f_u9⟩ := P_u9
                    obtain ⟨k1_u9, k2_u9, k3_u9, k4_u9, k5_u9, k6_u9, k7_u9⟩ := K_u9.1
                    have N_u9 : MI t u9 := mi_dead x_u9
                    have K59 := ke_tr K39 K_u9
                    have B_u9 : TC t u9 := bf_tc Y_u9.2.1
                    have F60 : FG a b h u9 := fg_tr F40 f_u9 (by omega)
                    unfold qj_X13_both_247
                    refine ok_rd (by omega) (gA_168 Y_u9.1) ?_; intro v2 e_v2 a_v2 b_v2
                    have t_v2 : v2 = t 168 (a1).toNat := by rw [e_v2]; exact Y_u9.2.1 168 _ (nw_ar rfl _)
                    have d_v2 : v47 = v2 := by rw [t_v2, t_v47]
                    subst d_v2
                    refine ok_sv (vy_strength hn Y_u9 (by omega)) ?_; intro u4 P_u4
                    refine ok_if (fun C61 => ?_) (fun C61 => ?_)
                    · skip
                      exact ok_ret ⟨⟨Y_u9, N_u9, K59, ⟨by omega, by omega, by omega, fun y => by have y : u9 160 9 = 0 := y; show 0 ≤ u52.1; omega⟩, F60⟩, fun y => by have y : u9 160 9 = 0 := y; exfalso; omega⟩
                    · skip
                      exact ok_ret ⟨⟨Y_u9, N_u9, K59, ⟨by omega, by omega, by omega, fun y => by have y : u9 160 9 = 0 := y; show 0 ≤ 1; omega⟩, F60⟩, fun y => by have y : u9 160 9 = 0 := y; exfalso; omega⟩
            · skip
              refine ok_if (fun C62 => ?_) (fun C62 => ?_)
              · skip
                unfold qj_X13_both_208
                unfold qj_X13_both_213
                refine ok_if (fun C63 => ?_) (fun C63 => ?_)
                · skip
                  unfold qj_X13_both_235
                  refine ok_rd (by omega) (gA_168 Y_u60.1) ?_; intro v7 e_v7 a_v7 b_v7
                  have t_v7 : v7 = t 168 (a1).toNat := by rw [e_v7]; exact Y_u60.2.1 168 _ (nw_ar rfl _)
                  have d_v7 : v47 = v7 := by rw [t_v7, t_v47]
                  subst d_v7
                  refine ok_sv (vy_wrong hn Y_u60 (by omega) (by omega)) ?_; intro u9 P_u9
                  obtain ⟨Y_u9, K_u9, x_u9, f_u9⟩ := P_u9
                  obtain ⟨k1_u9, k2_u9, k3_u9, k4_u9, k5_u9, k6_u9, k7_u9⟩ := K_u9.1
                  have N_u9 : MI t u9 := mi_dead x_u9
                  have K64 := ke_tr K39 K_u9
                  have B_u9 : TC t u9 := bf_tc Y_u9.2.1
                  have F65 : FG a b h u9 := fg_tr F40 f_u9 (by omega)
                  unfold qj_X13_both_247
                  refine ok_rd (by omega) (gA_168 Y_u9.1) ?_; intro v2 e_v2 a_v2 b_v2
                  have t_v2 : v2 = t 168 (a1).toNat := by rw [e_v2]; exact Y_u9.2.1 168 _ (nw_ar rfl _)
                  have d_v2 : v47 = v2 := by rw [t_v2, t_v47]
                  subst d_v2
                  refine ok_sv (vy_strength hn Y_u9 (by omega)) ?_; intro u4 P_u4
                  refine ok_if (fun C66 => ?_) (fun C66 => ?_)
                  · skip
                    exact ok_ret ⟨⟨Y_u9, N_u9, K64, ⟨by omega, by omega, by omega, fun y => by have y : u9 160 9 = 0 := y; show 0 ≤ u52.1; omega⟩, F65⟩, fun y => by have y : u9 160 9 = 0 := y; exfalso; omega⟩
                  · skip
                    exact ok_ret ⟨⟨Y_u9, N_u9, K64, ⟨by omega, by omega, by omega, fun y => by have y : u9 160 9 = 0 := y; show 0 ≤ 1; omega⟩, F65⟩, fun y => by have y : u9 160 9 = 0 := y; exfalso; omega⟩
                · skip
                  refine ok_if (fun C67 => ?_) (fun C67 => ?_)
                  · skip
                    unfold qj_X13_both_247
                    refine ok_rd (by omega) (gA_168 Y_u60.1) ?_; intro v2 e_v2 a_v2 b_v2
                    have t_v2 : v2 = t 168 (a1).toNat := by rw [e_v2]; exact Y_u60.2.1 168 _ (nw_ar rfl _)
                    have d_v2 : v47 = v2 := by rw [t_v2, t_v47]
                    subst d_v2
                    refine ok_sv (vy_strength hn Y_u60 (by omega)) ?_; intro u4 P_u4
                    refine ok_if (fun C68 => ?_) (fun C68 => ?_)
                    · skip
                      exact ok_ret ⟨⟨Y_u60, N_u60, K39, ⟨by omega, by omega, by omega, fun y => by have y : u60.2 160 9 = 0 := y; show 0 ≤ u52.1; omega⟩, F40⟩, fun y => by have y : u60.2 160 9 = 0 := y; exact yl_37 B_u60 ⟨by omega, by omega, by omega⟩ (by omega) (N41 y) (by rw [← t_v54]; exact N43 y)⟩
                    · skip
                      exact ok_ret ⟨⟨Y_u60, N_u60, K39, ⟨by omega, by omega, by omega, fun y => by have y : u60.2 160 9 = 0 := y; show 0 ≤ 1; omega⟩, F40⟩, fun y => by have y : u60.2 160 9 = 0 := y; exact yl_37 B_u60 ⟨by omega, by omega, by omega⟩ (by omega) (N41 y) (by rw [← t_v54]; exact N43 y)⟩
                  · skip
                    rw [if_neg (by decide)]
                    refine ok_if (fun C69 => ?_) (fun C69 => ?_)
                    · skip
                      unfold qj_X13_both_247
                      refine ok_rd (by omega) (gA_168 Y_u60.1) ?_; intro v2 e_v2 a_v2 b_v2
                      have t_v2 : v2 = t 168 (a1).toNat := by rw [e_v2]; exact Y_u60.2.1 168 _ (nw_ar rfl _)
                      have d_v2 : v47 = v2 := by rw [t_v2, t_v47]
                      subst d_v2
                      refine ok_sv (vy_strength hn Y_u60 (by omega)) ?_; intro u4 P_u4
                      refine ok_if (fun C70 => ?_) (fun C70 => ?_)
                      · skip
                        exact ok_ret ⟨⟨Y_u60, N_u60, K39, ⟨by omega, by omega, by omega, fun y => by have y : u60.2 160 9 = 0 := y; show 0 ≤ u52.1; omega⟩, F40⟩, fun y => by have y : u60.2 160 9 = 0 := y; exact yl_37 B_u60 ⟨by omega, by omega, by omega⟩ (by omega) (N41 y) (by rw [← t_v54]; exact N43 y)⟩
                      · skip
                        exact ok_ret ⟨⟨Y_u60, N_u60, K39, ⟨by omega, by omega, by omega, fun y => by have y : u60.2 160 9 = 0 := y; show 0 ≤ 1; omega⟩, F40⟩, fun y => by have y : u60.2 160 9 = 0 := y; exact yl_37 B_u60 ⟨by omega, by omega, by omega⟩ (by omega) (N41 y) (by rw [← t_v54]; exact N43 y)⟩
                    · skip
                      unfold qj_X13_both_235
                      refine ok_rd (by omega) (gA_168 Y_u60.1) ?_; intro v7 e_v7 a_v7 b_v7
                      have t_v7 : v7 = t 168 (a1).toNat := by rw [e_v7]; exact Y_u60.2.1 168 _ (nw_ar rfl _)
                      have d_v7 : v47 = v7 := by rw [t_v7, t_v47]
                      subst d_v7
                      refine ok_sv (vy_wrong hn Y_u60 (by omega) (by omega)) ?_; intro u9 P_u9
                      obtain ⟨Y_u9, K_u9, x_u9, f_u9⟩ := P_u9
                      obtain ⟨k1_u9, k2_u9, k3_u9, k4_u9, k5_u9, k6_u9, k7_u9⟩ := K_u9.1
                      have N_u9 : MI t u9 := mi_dead x_u9
                      have K71 := ke_tr K39 K_u9
                      have B_u9 : TC t u9 := bf_tc Y_u9.2.1
                      have F72 : FG a b h u9 := fg_tr F40 f_u9 (by omega)
                      unfold qj_X13_both_247
                      refine ok_rd (by omega) (gA_168 Y_u9.1) ?_; intro v2 e_v2 a_v2 b_v2
                      have t_v2 : v2 = t 168 (a1).toNat := by rw [e_v2]; exact Y_u9.2.1 168 _ (nw_ar rfl _)
                      have d_v2 : v47 = v2 := by rw [t_v2, t_v47]
                      subst d_v2
                      refine ok_sv (vy_strength hn Y_u9 (by omega)) ?_; intro u4 P_u4
                      refine ok_if (fun C73 => ?_) (fun C73 => ?_)
                      · skip
                        exact ok_ret ⟨⟨Y_u9, N_u9, K71, ⟨by omega, by omega, by omega, fun y => by have y : u9 160 9 = 0 := y; show 0 ≤ u52.1; omega⟩, F72⟩, fun y => by have y : u9 160 9 = 0 := y; exfalso; omega⟩
                      · skip
                        exact ok_ret ⟨⟨Y_u9, N_u9, K71, ⟨by omega, by omega, by omega, fun y => by have y : u9 160 9 = 0 := y; show 0 ≤ 1; omega⟩, F72⟩, fun y => by have y : u9 160 9 = 0 := y; exfalso; omega⟩
              · skip
                refine ok_if (fun C74 => ?_) (fun C74 => ?_)
                · skip
                  unfold qj_X13_both_213
                  refine ok_if (fun C75 => ?_) (fun C75 => ?_)
                  · skip
                    unfold qj_X13_both_235
                    refine ok_rd (by omega) (gA_168 Y_u60.1) ?_; intro v7 e_v7 a_v7 b_v7
                    have t_v7 : v7 = t 168 (a1).toNat := by rw [e_v7]; exact Y_u60.2.1 168 _ (nw_ar rfl _)
                    have d_v7 : v47 = v7 := by rw [t_v7, t_v47]
                    subst d_v7
                    refine ok_sv (vy_wrong hn Y_u60 (by omega) (by omega)) ?_; intro u9 P_u9
                    obtain ⟨Y_u9, K_u9, x_u9, f_u9⟩ := P_u9
                    obtain ⟨k1_u9, k2_u9, k3_u9, k4_u9, k5_u9, k6_u9, k7_u9⟩ := K_u9.1
                    have N_u9 : MI t u9 := mi_dead x_u9
                    have K76 := ke_tr K39 K_u9
                    have B_u9 : TC t u9 := bf_tc Y_u9.2.1
                    have F77 : FG a b h u9 := fg_tr F40 f_u9 (by omega)
                    unfold qj_X13_both_247
                    refine ok_rd (by omega) (gA_168 Y_u9.1) ?_; intro v2 e_v2 a_v2 b_v2
                    have t_v2 : v2 = t 168 (a1).toNat := by rw [e_v2]; exact Y_u9.2.1 168 _ (nw_ar rfl _)
                    have d_v2 : v47 = v2 := by rw [t_v2, t_v47]
                    subst d_v2
                    refine ok_sv (vy_strength hn Y_u9 (by omega)) ?_; intro u4 P_u4
                    refine ok_if (fun C78 => ?_) (fun C78 => ?_)
                    · skip
                      exact ok_ret ⟨⟨Y_u9, N_u9, K76, ⟨by omega, by omega, by omega, fun y => by have y : u9 160 9 = 0 := y; show 0 ≤ u52.1; omega⟩, F77⟩, fun y => by have y : u9 160 9 = 0 := y; exfalso; omega⟩
                    · skip
                      exact ok_ret ⟨⟨Y_u9, N_u9, K76, ⟨by omega, by omega, by omega, fun y => by have y : u9 160 9 = 0 := y; show 0 ≤ 1; omega⟩, F77⟩, fun y => by have y : u9 160 9 = 0 := y; exfalso; omega⟩
                  · skip
                    refine ok_if (fun C79 => ?_) (fun C79 => ?_)
                    · skip
                      unfold qj_X13_both_247
                      refine ok_rd (by omega) (gA_168 Y_u60.1) ?_; intro v2 e_v2 a_v2 b_v2
                      have t_v2 : v2 = t 168 (a1).toNat := by rw [e_v2]; exact Y_u60.2.1 168 _ (nw_ar rfl _)
                      have d_v2 : v47 = v2 := by rw [t_v2, t_v47]
                      subst d_v2
                      refine ok_sv (vy_strength hn Y_u60 (by omega)) ?_; intro u4 P_u4
                      refine ok_if (fun C80 => ?_) (fun C80 => ?_)
                      · skip
                        exact ok_ret ⟨⟨Y_u60, N_u60, K39, ⟨by omega, by omega, by omega, fun y => by have y : u60.2 160 9 = 0 := y; show 0 ≤ u52.1; omega⟩, F40⟩, fun y => by have y : u60.2 160 9 = 0 := y; exact yl_37 B_u60 ⟨by omega, by omega, by omega⟩ (by omega) (N41 y) (by rw [← t_v54]; exact N43 y)⟩
                      · skip
                        exact ok_ret ⟨⟨Y_u60, N_u60, K39, ⟨by omega, by omega, by omega, fun y => by have y : u60.2 160 9 = 0 := y; show 0 ≤ 1; omega⟩, F40⟩, fun y => by have y : u60.2 160 9 = 0 := y; exact yl_37 B_u60 ⟨by omega, by omega, by omega⟩ (by omega) (N41 y) (by rw [← t_v54]; exact N43 y)⟩
                    · skip
                      rw [if_pos (by decide)]
                      unfold qj_X13_both_235
                      refine ok_rd (by omega) (gA_168 Y_u60.1) ?_; intro v7 e_v7 a_v7 b_v7
                      have t_v7 : v7 = t 168 (a1).toNat := by rw [e_v7]; exact Y_u60.2.1 168 _ (nw_ar rfl _)
                      have d_v7 : v47 = v7 := by rw [t_v7, t_v47]
                      subst d_v7
                      refine ok_sv (vy_wrong hn Y_u60 (by omega) (by omega)) ?_; intro u9 P_u9
                      obtain ⟨Y_u9, K_u9, x_u9, f_u9⟩ := P_u9
                      obtain ⟨k1_u9, k2_u9, k3_u9, k4_u9, k5_u9, k6_u9, k7_u9⟩ := K_u9.1
                      have N_u9 : MI t u9 := mi_dead x_u9
                      have K81 := ke_tr K39 K_u9
                      have B_u9 : TC t u9 := bf_tc Y_u9.2.1
                      have F82 : FG a b h u9 := fg_tr F40 f_u9 (by omega)
                      unfold qj_X13_both_247
                      refine ok_rd (by omega) (gA_168 Y_u9.1) ?_; intro v2 e_v2 a_v2 b_v2
                      have t_v2 : v2 = t 168 (a1).toNat := by rw [e_v2]; exact Y_u9.2.1 168 _ (nw_ar rfl _)
                      have d_v2 : v47 = v2 := by rw [t_v2, t_v47]
                      subst d_v2
                      refine ok_sv (vy_strength hn Y_u9 (by omega)) ?_; intro u4 P_u4
                      refine ok_if (fun C83 => ?_) (fun C83 => ?_)
                      · skip
                        exact ok_ret ⟨⟨Y_u9, N_u9, K81, ⟨by omega, by omega, by omega, fun y => by have y : u9 160 9 = 0 := y; show 0 ≤ u52.1; omega⟩, F82⟩, fun y => by have y : u9 160 9 = 0 := y; exfalso; omega⟩
                      · skip
                        exact ok_ret ⟨⟨Y_u9, N_u9, K81, ⟨by omega, by omega, by omega, fun y => by have y : u9 160 9 = 0 := y; show 0 ≤ 1; omega⟩, F82⟩, fun y => by have y : u9 160 9 = 0 := y; exfalso; omega⟩
                · skip
                  unfold qj_X13_both_208
                  unfold qj_X13_both_213
                  refine ok_if (fun C84 => ?_) (fun C84 => ?_)
                  · skip
                    unfold qj_X13_both_235
                    refine ok_rd (by omega) (gA_168 Y_u60.1) ?_; intro v7 e_v7 a_v7 b_v7
                    have t_v7 : v7 = t 168 (a1).toNat := by rw [e_v7]; exact Y_u60.2.1 168 _ (nw_ar rfl _)
                    have d_v7 : v47 = v7 := by rw [t_v7, t_v47]
                    subst d_v7
                    refine ok_sv (vy_wrong hn Y_u60 (by omega) (by omega)) ?_; intro u9 P_u9
                    obtain ⟨Y_u9, K_u9, x_u9, f_u9⟩ := P_u9
                    obtain ⟨k1_u9, k2_u9, k3_u9, k4_u9, k5_u9, k6_u9, k7_u9⟩ := K_u9.1
                    have N_u9 : MI t u9 := mi_dead x_u9
                    have K85 := ke_tr K39 K_u9
                    have B_u9 : TC t u9 := bf_tc Y_u9.2.1
                    have F86 : FG a b h u9 := fg_tr F40 f_u9 (by omega)
                    unfold qj_X13_both_247
                    refine ok_rd (by omega) (gA_168 Y_u9.1) ?_; intro v2 e_v2 a_v2 b_v2
                    have t_v2 : v2 = t 168 (a1).toNat := by rw [e_v2]; exact Y_u9.2.1 168 _ (nw_ar rfl _)
                    have d_v2 : v47 = v2 := by rw [t_v2, t_v47]
                    subst d_v2
                    refine ok_sv (vy_strength hn Y_u9 (by omega)) ?_; intro u4 P_u4
                    refine ok_if (fun C87 => ?_) (fun C87 => ?_)
                    · skip
                      exact ok_ret ⟨⟨Y_u9, N_u9, K85, ⟨by omega, by omega, by omega, fun y => by have y : u9 160 9 = 0 := y; show 0 ≤ u52.1; omega⟩, F86⟩, fun y => by have y : u9 160 9 = 0 := y; exfalso; omega⟩
                    · skip
                      exact ok_ret ⟨⟨Y_u9, N_u9, K85, ⟨by omega, by omega, by omega, fun y => by have y : u9 160 9 = 0 := y; show 0 ≤ 1; omega⟩, F86⟩, fun y => by have y : u9 160 9 = 0 := y; exfalso; omega⟩
                  · skip
                    refine ok_if (fun C88 => ?_) (fun C88 => ?_)
                    · skip
                      unfold qj_X13_both_247
                      refine ok_rd (by omega) (gA_168 Y_u60.1) ?_; intro v2 e_v2 a_v2 b_v2
                      have t_v2 : v2 = t 168 (a1).toNat := by rw [e_v2]; exact Y_u60.2.1 168 _ (nw_ar rfl _)
                      have d_v2 : v47 = v2 := by rw [t_v2, t_v47]
                      subst d_v2
                      refine ok_sv (vy_strength hn Y_u60 (by omega)) ?_; intro u4 P_u4
                      refine ok_if (fun C89 => ?_) (fun C89 => ?_)
                      · skip
                        exact ok_ret ⟨⟨Y_u60, N_u60, K39, ⟨by omega, by omega, by omega, fun y => by have y : u60.2 160 9 = 0 := y; show 0 ≤ u52.1; omega⟩, F40⟩, fun y => by have y : u60.2 160 9 = 0 := y; exact yl_37 B_u60 ⟨by omega, by omega, by omega⟩ (by omega) (N41 y) (by rw [← t_v54]; exact N43 y)⟩
                      · skip
                        exact ok_ret ⟨⟨Y_u60, N_u60, K39, ⟨by omega, by omega, by omega, fun y => by have y : u60.2 160 9 = 0 := y; show 0 ≤ 1; omega⟩, F40⟩, fun y => by have y : u60.2 160 9 = 0 := y; exact yl_37 B_u60 ⟨by omega, by omega, by omega⟩ (by omega) (N41 y) (by rw [← t_v54]; exact N43 y)⟩
                    · skip
                      rw [if_neg (by decide)]
                      refine ok_if (fun C90 => ?_) (fun C90 => ?_)
                      · skip
                        unfold qj_X13_both_247
                        refine ok_rd (by omega) (gA_168 Y_u60.1) ?_; intro v2 e_v2 a_v2 b_v2
                        have t_v2 : v2 = t 168 (a1).toNat := by rw [e_v2]; exact Y_u60.2.1 168 _ (nw_ar rfl _)
                        have d_v2 : v47 = v2 := by rw [t_v2, t_v47]
                        subst d_v2
                        refine ok_sv (vy_strength hn Y_u60 (by omega)) ?_; intro u4 P_u4
                        refine ok_if (fun C91 => ?_) (fun C91 => ?_)
                        · skip
                          exact ok_ret ⟨⟨Y_u60, N_u60, K39, ⟨by omega, by omega, by omega, fun y => by have y : u60.2 160 9 = 0 := y; show 0 ≤ u52.1; omega⟩, F40⟩, fun y => by have y : u60.2 160 9 = 0 := y; exact yl_37 B_u60 ⟨by omega, by omega, by omega⟩ (by omega) (N41 y) (by rw [← t_v54]; exact N43 y)⟩
                        · skip
                          exact ok_ret ⟨⟨Y_u60, N_u60, K39, ⟨by omega, by omega, by omega, fun y => by have y : u60.2 160 9 = 0 := y; show 0 ≤ 1; omega⟩, F40⟩, fun y => by have y : u60.2 160 9 = 0 := y; exact yl_37 B_u60 ⟨by omega, by omega, by omega⟩ (by omega) (N41 y) (by rw [← t_v54]; exact N43 y)⟩
                      · skip
                        unfold qj_X13_both_235
                        refine ok_rd (by omega) (gA_168 Y_u60.1) ?_; intro v7 e_v7 a_v7 b_v7
                        have t_v7 : v7 = t 168 (a1).toNat := by rw [e_v7]; exact Y_u60.2.1 168 _ (nw_ar rfl _)
                        have d_v7 : v47 = v7 := by rw [t_v7, t_v47]
                        subst d_v7
                        refine ok_sv (vy_wrong hn Y_u60 (by omega) (by omega)) ?_; intro u9 P_u9
                        obtain ⟨Y_u9, K_u9, x_u9, f_u9⟩ := P_u9
                        obtain ⟨k1_u9, k2_u9, k3_u9, k4_u9, k5_u9, k6_u9, k7_u9⟩ := K_u9.1
                        have N_u9 : MI t u9 := mi_dead x_u9
                        have K92 := ke_tr K39 K_u9
                        have B_u9 : TC t u9 := bf_tc Y_u9.2.1
                        have F93 : FG a b h u9 := fg_tr F40 f_u9 (by omega)
                        unfold qj_X13_both_247
                        refine ok_rd (by omega) (gA_168 Y_u9.1) ?_; intro v2 e_v2 a_v2 b_v2
                        have t_v2 : v2 = t 168 (a1).toNat := by rw [e_v2]; exact Y_u9.2.1 168 _ (nw_ar rfl _)
                        have d_v2 : v47 = v2 := by rw [t_v2, t_v47]
                        subst d_v2
                        refine ok_sv (vy_strength hn Y_u9 (by omega)) ?_; intro u4 P_u4
                        refine ok_if (fun C94 => ?_) (fun C94 => ?_)
                        · skip
                          exact ok_ret ⟨⟨Y_u9, N_u9, K92, ⟨by omega, by omega, by omega, fun y => by have y : u9 160 9 = 0 := y; show 0 ≤ u52.1; omega⟩, F93⟩, fun y => by have y : u9 160 9 = 0 := y; exfalso; omega⟩
                        · skip
                          exact ok_ret ⟨⟨Y_u9, N_u9, K92, ⟨by omega, by omega, by omega, fun y => by have y : u9 160 9 = 0 := y; show 0 ≤ 1; omega⟩, F93⟩, fun y => by have y : u9 160 9 = 0 := y; exfalso; omega⟩
          · skip
            unfold qj_X13_both_166
            refine ok_sv (vy_goTogether hn Y_u60 S (by omega) (by omega)) ?_; intro u15 P_u15
            refine ok_if (fun C95 => ?_) (fun C95 => ?_)
            · skip
              exact ok_ret ⟨⟨Y_u60, N_u60, K39, ⟨by omega, by omega, by omega, fun y => by have y : u60.2 160 9 = 0 := y; show 0 ≤ 1; omega⟩, F40⟩, fun y => by have y : u60.2 160 9 = 0 := y; exact yl_37 B_u60 ⟨by omega, by omega, by omega⟩ (by omega) (N41 y) (by rw [← t_v54]; exact N43 y)⟩
            · skip
              refine ok_rd (by omega) (gA_168 Y_u60.1) ?_; intro v17 e_v17 a_v17 b_v17
              have t_v17 : v17 = t 168 (a1).toNat := by rw [e_v17]; exact Y_u60.2.1 168 _ (nw_ar rfl _)
              have d_v17 : v47 = v17 := by rw [t_v17, t_v47]
              subst d_v17
              refine ok_sv (vy_wrong hn Y_u60 (by omega) (by omega)) ?_; intro u19 P_u19
              obtain ⟨Y_u19, K_u19, x_u19, f_u19⟩ := P_u19
              obtain ⟨k1_u19, k2_u19, k3_u19, k4_u19, k5_u19, k6_u19, k7_u19⟩ := K_u19.1
              have N_u19 : MI t u19 := mi_dead x_u19
              have K96 := ke_tr K39 K_u19
              have B_u19 : TC t u19 := bf_tc Y_u19.2.1
              have F97 : FG a b h u19 := fg_tr F40 f_u19 (by omega)
              exact ok_ret ⟨⟨Y_u19, N_u19, K96, ⟨by omega, by omega, by omega, fun y => by have y : u19 160 9 = 0 := y; show 0 ≤ 1; omega⟩, F97⟩, fun y => by have y : u19 160 9 = 0 := y; exfalso; omega⟩
      · skip
        exact ok_ret ⟨⟨Y_u60, N_u60, K39, ⟨by omega, by omega, by omega, fun y => by have y : u60.2 160 9 = 0 := y; show 0 ≤ 0; omega⟩, F40⟩, fun y => by have y : u60.2 160 9 = 0 := y; exfalso; omega⟩
    · skip
      unfold qj_X13_both_36
      refine ok_sv (vy_led hn S Y0 N0 T (by omega) (by omega)) ?_; intro u37 P_u37
      have p5_u37 := P_u37.2.1; have p6_u37 := P_u37.2.2; replace P_u37 := P_u37.1
      obtain ⟨Y_u37, N_u37, K_u37, ⟨r1_u37, r2_u37, r3_u37, r4_u37⟩, f_u37⟩ := P_u37
      obtain ⟨k1_u37, k2_u37, k3_u37, k4_u37, k5_u37, k6_u37, k7_u37⟩ := K_u37.1
      have K98 := ke_tr K0 K_u37
      have B_u37 : TC t u37.2 := bf_tc Y_u37.2.1
      have F99 : FG a b h u37.2 := fg_tr F0 f_u37 (by omega)
      have rgN100 := te_rg (te_led T (by omega))
      have N100 : u37.2 160 9 = 0 → OV u37.2 a a1 (t 170 a1.toNat) := fun y => ov_fg B0 B_u37 f_u37 (by omega) (by omega) ⟨⟨rgN100.2.1, rgN100.2.2.1, p6_u37 y⟩, (hr (k7_u37 y)).1 (by omega)⟩
      refine ok_if (fun C101 => ?_) (fun C101 => ?_)
      · skip
        unfold qj_X13_both_62
        refine ok_rd (by omega) (gA_171 Y_u37.1) ?_; intro v22 e_v22 a_v22 b_v22
        have t_v22 : v22 = t 171 (a1).toNat := by rw [e_v22]; exact Y_u37.2.1 171 _ (nw_ar rfl _)
        have c102 : TE 1 t 0 (d - 3) (a1 + 1) b v22 := by rw [t_v22]; exact (te_k37 T (by omega)).2
        have rc102 := te_rg c102
        refine ok_rd (by omega) (gA_171 Y_u37.1) ?_; intro v24 e_v24 a_v24 b_v24
        have t_v24 : v24 = t 171 (a1).toNat := by rw [e_v24]; exact Y_u37.2.1 171 _ (nw_ar rfl _)
        have d_v24 : v22 = v24 := by rw [t_v24, t_v22]
        subst d_v24
        refine ok_sv (G.2.2.1 v22 _ _ _ u37.2 Y_u37 N_u37 c102 (by omega) (by omega) (by omega)) ?_; intro u26 P_u26
        have w_u26 := P_u26.2; replace P_u26 := P_u26.1
        obtain ⟨Y_u26, N_u26, K_u26, ⟨r1_u26, r2_u26, r3_u26, r4_u26⟩, f_u26⟩ := P_u26
        obtain ⟨k1_u26, k2_u26, k3_u26, k4_u26, k5_u26, k6_u26, k7_u26⟩ := K_u26.1
        have K103 := ke_tr K98 K_u26
        have B_u26 : TC t u26.2 := bf_tc Y_u26.2.1
        have F104 : FG a b h u26.2 := fg_tr F99 f_u26 (by omega)
        have N105 : u26.2 160 9 = 0 → OV u26.2 a a1 (t 170 a1.toNat) := fun y => ov_fg B_u37 B_u26 f_u26 (by omega) (by omega) (N100 (k7_u26 y))
        refine ok_sv (vy_side hn S Y_u26 N_u26 (by omega) (by omega)) ?_; intro u28 P_u28
        have p6_u28 := P_u28.2; replace P_u28 := P_u28.1
        obtain ⟨Y_u28, N_u28, K_u28, ⟨r1_u28, r2_u28, r3_u28, r4_u28⟩, f_u28⟩ := P_u28
        obtain ⟨k1_u28, k2_u28, k3_u28, k4_u28, k5_u28, k6_u28, k7_u28⟩ := K_u28.1
        have K106 := ke_tr K103 K_u28
        have B_u28 : TC t u28.2 := bf_tc Y_u28.2.1
        have F107 : FG a b h u28.2 := fg_tr F104 f_u28 (by omega)
        have N108 : u28.2 160 9 = 0 → OV u28.2 a a1 (t 170 a1.toNat) := fun y => ov_fg B_u26 B_u28 f_u28 (by omega) (by omega) (N105 (k7_u28 y))
        have N109 : u28.2 160 9 = 0 → YT u28.2 0 (a1 + 1) b v22 ∧ u28.2 174 (v22).toNat = u26.1 := fun y => ⟨yt_fg B_u26 B_u28 f_u28 (by omega) (w_u26 (k7_u28 y)).1, by rw [(f_u28 _ (by omega)).1]; exact (w_u26 (k7_u28 y)).2⟩
        have N110 : u28.2 160 9 = 0 → OV u28.2 (a1 + 1) b v22 := fun y => ⟨⟨by omega, by omega, by rw [(N109 y).2]; exact p6_u28 y⟩, (N109 y).1⟩
        refine ok_if (fun C111 => ?_) (fun C111 => ?_)
        · skip
          exact ok_ret ⟨⟨Y_u28, N_u28, K106, ⟨by omega, by omega, by omega, fun y => by have y : u28.2 160 9 = 0 := y; show 0 ≤ 1; omega⟩, F107⟩, fun y => by have y : u28.2 160 9 = 0 := y; exact yl_37 B_u28 ⟨by omega, by omega, by omega⟩ (by omega) (N108 y) (by rw [← t_v22]; exact N110 y)⟩
        · skip
          refine ok_rd (by omega) (gA_171 Y_u28.1) ?_; intro v31 e_v31 a_v31 b_v31
          have t_v31 : v31 = t 171 (a1).toNat := by rw [e_v31]; exact Y_u28.2.1 171 _ (nw_ar rfl _)
          have d_v31 : v22 = v31 := by rw [t_v31, t_v22]
          subst d_v31
          refine ok_rd (by omega) (gA_169 Y_u28.1) ?_; intro v32 e_v32 a_v32 b_v32
          have t_v32 : v32 = t 169 (v22).toNat := by rw [e_v32]; exact Y_u28.2.1 169 _ (nw_ar rfl _)
          refine ok_sv (vy_wrong hn Y_u28 (by omega) (by omega)) ?_; intro u34 P_u34
          obtain ⟨Y_u34, K_u34, x_u34, f_u34⟩ := P_u34
          obtain ⟨k1_u34, k2_u34, k3_u34, k4_u34, k5_u34, k6_u34, k7_u34⟩ := K_u34.1
          have N_u34 : MI t u34 := mi_dead x_u34
          have K112 := ke_tr K106 K_u34
          have B_u34 : TC t u34 := bf_tc Y_u34.2.1
          have F113 : FG a b h u34 := fg_tr F107 f_u34 (by omega)
          exact ok_ret ⟨⟨Y_u34, N_u34, K112, ⟨by omega, by omega, by omega, fun y => by have y : u34 160 9 = 0 := y; show 0 ≤ 1; omega⟩, F113⟩, fun y => by have y : u34 160 9 = 0 := y; exfalso; omega⟩
      · skip
        refine ok_rd (by omega) (gA_170 Y_u37.1) ?_; intro v40 e_v40 a_v40 b_v40
        have t_v40 : v40 = t 170 (a1).toNat := by rw [e_v40]; exact Y_u37.2.1 170 _ (nw_ar rfl _)
        have c114 : TE 1 t 0 d a a1 v40 := by rw [t_v40]; exact (te_k37 T (by omega)).1
        have rc114 := te_rg c114
        refine ok_rd (by omega) (gA_169 Y_u37.1) ?_; intro v41 e_v41 a_v41 b_v41
        have t_v41 : v41 = t 169 (v40).toNat := by rw [e_v41]; exact Y_u37.2.1 169 _ (nw_ar rfl _)
        refine ok_sv (vy_wrong hn Y_u37 (by omega) (by omega)) ?_; intro u43 P_u43
        obtain ⟨Y_u43, K_u43, x_u43, f_u43⟩ := P_u43
        obtain ⟨k1_u43, k2_u43, k3_u43, k4_u43, k5_u43, k6_u43, k7_u43⟩ := K_u43.1
        have N_u43 : MI t u43 := mi_dead x_u43
        have K115 := ke_tr K98 K_u43
        have B_u43 : TC t u43 := bf_tc Y_u43.2.1
        have F116 : FG a b h u43 := fg_tr F99 f_u43 (by omega)
        unfold qj_X13_both_62
        refine ok_rd (by omega) (gA_171 Y_u43.1) ?_; intro v22 e_v22 a_v22 b_v22
        have t_v22 : v22 = t 171 (a1).toNat := by rw [e_v22]; exact Y_u43.2.1 171 _ (nw_ar rfl _)
        have c117 : TE 1 t 0 (d - 3) (a1 + 1) b v22 := by rw [t_v22]; exact (te_k37 T (by omega)).2
        have rc117 := te_rg c117
        refine ok_rd (by omega) (gA_171 Y_u43.1) ?_; intro v24 e_v24 a_v24 b_v24
        have t_v24 : v24 = t 171 (a1).toNat := by rw [e_v24]; exact Y_u43.2.1 171 _ (nw_ar rfl _)
        have d_v24 : v22 = v24 := by rw [t_v24, t_v22]
        subst d_v24
        refine ok_sv (G.2.2.1 v22 _ _ _ u43 Y_u43 N_u43 c117 (by omega) (by omega) (by omega)) ?_; intro u26 P_u26
        have w_u26 := P_u26.2; replace P_u26 := P_u26.1
        obtain ⟨Y_u26, N_u26, K_u26, ⟨r1_u26, r2_u26, r3_u26, r4_u26⟩, f_u26⟩ := P_u26
        obtain ⟨k1_u26, k2_u26, k3_u26, k4_u26, k5_u26, k6_u26, k7_u26⟩ := K_u26.1
        have K118 := ke_tr K115 K_u26
        have B_u26 : TC t u26.2 := bf_tc Y_u26.2.1
        have F119 : FG a b h u26.2 := fg_tr F116 f_u26 (by omega)
        refine ok_sv (vy_side hn S Y_u26 N_u26 (by omega) (by omega)) ?_; intro u28 P_u28
        have p6_u28 := P_u28.2; replace P_u28 := P_u28.1
        obtain ⟨Y_u28, N_u28, K_u28, ⟨r1_u28, r2_u28, r3_u28, r4_u28⟩, f_u28⟩ := P_u28
        obtain ⟨k1_u28, k2_u28, k3_u28, k4_u28, k5_u28, k6_u28, k7_u28⟩ := K_u28.1
        have K120 := ke_tr K118 K_u28
        have B_u28 : TC t u28.2 := bf_tc Y_u28.2.1
        have F121 : FG a b h u28.2 := fg_tr F119 f_u28 (by omega)
        have N122 : u28.2 160 9 = 0 → YT u28.2 0 (a1 + 1) b v22 ∧ u28.2 174 (v22).toNat = u26.1 := fun y => ⟨yt_fg B_u26 B_u28 f_u28 (by omega) (w_u26 (k7_u28 y)).1, by rw [(f_u28 _ (by omega)).1]; exact (w_u26 (k7_u28 y)).2⟩
        have N123 : u28.2 160 9 = 0 → OV u28.2 (a1 + 1) b v22 := fun y => ⟨⟨by omega, by omega, by rw [(N122 y).2]; exact p6_u28 y⟩, (N122 y).1⟩
        refine ok_if (fun C124 => ?_) (fun C124 => ?_)
        · skip
          exact ok_ret ⟨⟨Y_u28, N_u28, K120, ⟨by omega, by omega, by omega, fun y => by have y : u28.2 160 9 = 0 := y; show 0 ≤ 1; omega⟩, F121⟩, fun y => by have y : u28.2 160 9 = 0 := y; exfalso; omega⟩
        · skip
          refine ok_rd (by omega) (gA_171 Y_u28.1) ?_; intro v31 e_v31 a_v31 b_v31
          have t_v31 : v31 = t 171 (a1).toNat := by rw [e_v31]; exact Y_u28.2.1 171 _ (nw_ar rfl _)
          have d_v31 : v22 = v31 := by rw [t_v31, t_v22]
          subst d_v31
          refine ok_rd (by omega) (gA_169 Y_u28.1) ?_; intro v32 e_v32 a_v32 b_v32
          have t_v32 : v32 = t 169 (v22).toNat := by rw [e_v32]; exact Y_u28.2.1 169 _ (nw_ar rfl _)
          refine ok_sv (vy_wrong hn Y_u28 (by omega) (by omega)) ?_; intro u34 P_u34
          obtain ⟨Y_u34, K_u34, x_u34, f_u34⟩ := P_u34
          obtain ⟨k1_u34, k2_u34, k3_u34, k4_u34, k5_u34, k6_u34, k7_u34⟩ := K_u34.1
          have N_u34 : MI t u34 := mi_dead x_u34
          have K125 := ke_tr K120 K_u34
          have B_u34 : TC t u34 := bf_tc Y_u34.2.1
          have F126 : FG a b h u34 := fg_tr F121 f_u34 (by omega)
          exact ok_ret ⟨⟨Y_u34, N_u34, K125, ⟨by omega, by omega, by omega, fun y => by have y : u34 160 9 = 0 := y; show 0 ≤ 1; omega⟩, F126⟩, fun y => by have y : u34 160 9 = 0 := y; exfalso; omega⟩
set_option maxHeartbeats 8000000 in
theorem vz_invoked {nn : Nat} (hn : 1000000 ≤ nn) {t h : ms_M} (S : SF t) (Y0 : YI t h) (N0 : MI t h) {g : Int} {rc : tq_X13_condition} (G : GR nn t g rc) {a1 d a b : Int} (T : TE 1 t 0 d a b a1) (hb : b ≤ t 160 22) (hg : d - 1 ≤ g + 1) (h57 : h 160 57 + b ≤ 9000) (hk : t 167 a1.toNat = 31) (hr : HR nn t h a a1) : Ok_ (qo_X13_invoked nn rc a1 h) (fun u => QY t h a b u ∧ (u.2 160 9 = 0 → y0 u.2 (YT u.2) a b a1)) := by
  unfold qo_X13_invoked
  have o1 := te_rg T
  have gg := gF_160_22 Y0.1
  have q22 : h 160 22 = t 160 22 := Y0.2.1 160 22 rfl
  have g24 := gF_160_24 Y0.1
  have q24 : h 160 24 = t 160 24 := Y0.2.1 160 24 rfl
  have g28 := gF_160_28 Y0.1
  have q28 : h 160 28 = t 160 28 := Y0.2.1 160 28 rfl
  have g52 := Y0.2.2.2.2.2.1
  have g57 := gF_160_57 Y0.1
  have g50 := gF_160_50 Y0.1
  have g53 := gF_160_53 Y0.1
  have m51 := Y0.2.2.2.2.2.2
  have c8 := S.2.2.2.1
  have g51 := gF_160_51 Y0.1
  have K0 : Ke h h := ke_rf
  have B0 : TC t h := bf_tc Y0.2.1
  have F0 : FG a b h h := fg_rf
  refine ok_rd (by omega) (gA_170 Y0.1) ?_; intro v40 e_v40 a_v40 b_v40
  have t_v40 : v40 = t 170 (a1).toNat := by rw [e_v40]; exact Y0.2.1 170 _ (nw_ar rfl _)
  have c1 : TE 1 t 0 d a a1 v40 := by rw [t_v40]; exact (te_k31 T (by omega)).2.2.1
  have rc1 := te_rg c1
  obtain ⟨u42, eq_u42, P_u42⟩ := vy_isByClass hn S Y0 T (by omega) (by omega)
  rw [eq_u42, mx_svs]
  have hr31 : u42 = 0 → h 160 9 = 0 → YT h 0 a a1 (t 170 a1.toNat) := fun z y => by
    rcases (hr y).2 hk with ⟨w, ew, nw⟩ | q
    · rw [eq_u42] at ew; cases ew; exact absurd z nw
    · exact q
  refine ok_if (fun C2 => ?_) (fun C2 => ?_)
  · skip
    refine ok_sv (vy_led hn S Y0 N0 T (by omega) (by omega)) ?_; intro u44 P_u44
    have p5_u44 := P_u44.2.1; have p6_u44 := P_u44.2.2; replace P_u44 := P_u44.1
    obtain ⟨Y_u44, N_u44, K_u44, ⟨r1_u44, r2_u44, r3_u44, r4_u44⟩, f_u44⟩ := P_u44
    obtain ⟨k1_u44, k2_u44, k3_u44, k4_u44, k5_u44, k6_u44, k7_u44⟩ := K_u44.1
    have K3 := ke_tr K0 K_u44
    have B_u44 : TC t u44.2 := bf_tc Y_u44.2.1
    have F4 : FG a b h u44.2 := fg_tr F0 f_u44 (by omega)
    have rgN5 := te_rg (te_led T (by omega))
    have N5 : u44.2 160 9 = 0 → OV u44.2 a a1 (t 170 a1.toNat) := fun y => ov_fg B0 B_u44 f_u44 (by omega) (by omega) ⟨⟨rgN5.2.1, rgN5.2.2.1, p6_u44 y⟩, (hr31 (by omega) (k7_u44 y))⟩
    refine ok_if (fun C6 => ?_) (fun C6 => ?_)
    · skip
      refine ok_if (fun C7 => ?_) (fun C7 => ?_)
      · skip
        unfold qj_X13_invoked_86
        refine ok_rd (by omega) (gA_172 Y_u44.1) ?_; intro v34 e_v34 a_v34 b_v34
        have t_v34 : v34 = t 172 (a1).toNat := by rw [e_v34]; exact Y_u44.2.1 172 _ (nw_ar rfl _)
        have q_v34 := (te_k31 T (by omega)).2.1
        refine ok_sv (vy_wrong hn Y_u44 (by omega) (by omega)) ?_; intro u36 P_u36
        obtain ⟨Y_u36, K_u36, x_u36, f_u36⟩ := P_u36
        obtain ⟨k1_u36, k2_u36, k3_u36, k4_u36, k5_u36, k6_u36, k7_u36⟩ := K_u36.1
        have N_u36 : MI t u36 := mi_dead x_u36
        have K8 := ke_tr K3 K_u36
        have B_u36 : TC t u36 := bf_tc Y_u36.2.1
        have F9 : FG a b h u36 := fg_tr F4 f_u36 (by omega)
        exact ok_ret ⟨⟨Y_u36, N_u36, K8, ⟨by omega, by omega, by omega, fun y => by have y : u36 160 9 = 0 := y; show 0 ≤ 0; omega⟩, F9⟩, fun y => by have y : u36 160 9 = 0 := y; exfalso; omega⟩
      · skip
        refine ok_sv vy_isThing ?_; intro u46 P_u46
        refine ok_if (fun C10 => ?_) (fun C10 => ?_)
        · skip
          refine ok_sv vy_isArray ?_; intro u47 P_u47
          refine ok_if (fun C11 => ?_) (fun C11 => ?_)
          · skip
            unfold qj_X13_invoked_119
            refine ok_sub (by omega) ?_; intro v31 e_v31
            refine ok_div2 ?_; intro v32 e_v32 f_v32 g_v32
            unfold qj_X13_invoked_128
            refine ok_if (fun C12 => ?_) (fun C12 => ?_)
            · skip
              refine ok_if (fun C13 => ?_) (fun C13 => ?_)
              · skip
                unfold qj_X13_invoked_152
                refine ok_wA (by omega) ?_; intro h13 E_h13
                obtain ⟨Y_h13, K_h13⟩ := yi_176 Y_u44 (by omega) (by omega) (by omega) E_h13
                obtain ⟨k1_h13, k2_h13, k3_h13, k4_h13, k5_h13, k6_h13, k7_h13⟩ := K_h13.1
                have s_h13 : h13 176 (a1).toNat = (-1) := by rw [E_h13]; exact up_s
                have N_h13 := mi_up N_u44 E_h13 (by decide)
                have K14 := ke_tr K3 K_h13
                have B_h13 : TC t h13 := bf_tc Y_h13.2.1
                have F15 : FG a b h h13 := fg_tr F4 (fg_up (j := a1) E_h13 (by omega)) (by omega)
                have N16 : h13 160 9 = 0 → OV h13 a a1 (t 170 a1.toNat) := fun y => ov_fg B_u44 B_h13 (fg_up (j := a1) E_h13 (by omega)) (by omega) (by omega) (N5 (k7_h13 y))
                refine ok_rd (by omega) (gA_168 Y_h13.1) ?_; intro v16 e_v16 a_v16 b_v16
                have t_v16 : v16 = t 168 (a1).toNat := by rw [e_v16]; exact Y_h13.2.1 168 _ (nw_ar rfl _)
                refine ok_sv (vy_memberOf hn Y_h13 S (by omega) (by omega)) ?_; intro u18 P_u18
                refine ok_wA (by omega) ?_; intro h19 E_h19
                obtain ⟨Y_h19, K_h19⟩ := yi_175 Y_h13 (by omega) (by omega) E_h19
                obtain ⟨k1_h19, k2_h19, k3_h19, k4_h19, k5_h19, k6_h19, k7_h19⟩ := K_h19.1
                have s_h19 : h19 175 (a1).toNat = u18 := by rw [E_h19]; exact up_s
                have K17 := ke_tr K14 K_h19
                have B_h19 : TC t h19 := bf_tc Y_h19.2.1
                have F18 : FG a b h h19 := fg_tr F15 (fg_up (j := a1) E_h19 (by omega)) (by omega)
                have N19 : h19 160 9 = 0 → OV h19 a a1 (t 170 a1.toNat) := fun y => ov_fg B_h13 B_h19 (fg_up (j := a1) E_h19 (by omega)) (by omega) (by omega) (N16 (k7_h19 y))
                have N20 : h19 176 a1.toNat = (-1) := by rw [E_h19, up_n (by omega)]; exact s_h13
                refine ok_rd (by omega) (gA_175 Y_h19.1) ?_; intro v21 e_v21 a_v21 b_v21
                refine ok_if (fun C21 => ?_) (fun C21 => ?_)
                · skip
                  have N_h19 := mi_175 N_h13 E_h19 (by omega)
                  unfold qj_X13_invoked_193
                  refine ok_rd (by omega) (gA_175 Y_h19.1) ?_; intro v5 e_v5 a_v5 b_v5
                  refine ok_if (fun C22 => ?_) (fun C22 => ?_)
                  · skip
                    unfold qj_X13_invoked_232
                    unfold qj_X13_invoked_237
                    have y4 := (te_k31 T (by omega)).1
                    refine ok_sv (G.2.2.2.2.2.2 a1 v5 1 _ _ _ h19 Y_h19 N_h19 ((te_k31 T (by omega)).2.2.2) (by omega) (by omega) (by omega) (by omega) (by omega) (by omega) (by omega) (by omega)) ?_; intro u2 P_u2
                    have w_u2 := P_u2.2; replace P_u2 := P_u2.1
                    obtain ⟨Y_u2, N_u2, K_u2, ⟨r1_u2, r2_u2, r3_u2, r4_u2⟩, f_u2⟩ := P_u2
                    obtain ⟨k1_u2, k2_u2, k3_u2, k4_u2, k5_u2, k6_u2, k7_u2⟩ := K_u2.1
                    have K23 := ke_tr K17 K_u2
                    have B_u2 : TC t u2.2 := bf_tc Y_u2.2.1
                    have F24 : FG a b h u2.2 := fg_tr F18 f_u2 (by omega)
                    have N25 : u2.2 160 9 = 0 → OV u2.2 a a1 (t 170 a1.toNat) := fun y => ov_fg B_h19 B_u2 f_u2 (by omega) (by omega) (N19 (k7_u2 y))
                    have N26 : u2.2 176 a1.toNat = (-1) := by rw [(f_u2 _ (by omega)).2.1]; exact N20
                    exact ok_ret ⟨⟨Y_u2, N_u2, K23, ⟨by omega, by omega, by omega, fun y => by have y : u2.2 160 9 = 0 := y; show 0 ≤ u2.1; omega⟩, F24⟩, fun y => by have y : u2.2 160 9 = 0 := y; exfalso; omega⟩
                  · skip
                    refine ok_rd (by omega) (gA_175 Y_h19.1) ?_; intro v9 e_v9 a_v9 b_v9
                    refine ok_rd (by omega) (gA_182 Y_h19.1) ?_; intro v10 e_v10 a_v10 b_v10
                    have t_v10 : v10 = t 182 (v9).toNat := by rw [e_v10]; exact Y_h19.2.1 182 _ (nw_ar rfl _)
                    refine ok_if (fun C27 => ?_) (fun C27 => ?_)
                    · skip
                      unfold qj_X13_invoked_228
                      refine ok_if (fun C28 => ?_) (fun C28 => ?_)
                      · skip
                        unfold qj_X13_invoked_237
                        have y4 := (te_k31 T (by omega)).1
                        refine ok_sv (G.2.2.2.2.2.2 a1 v5 0 _ _ _ h19 Y_h19 N_h19 ((te_k31 T (by omega)).2.2.2) (by omega) (by omega) (by omega) (by omega) (by omega) (by omega) (by omega) (by omega)) ?_; intro u2 P_u2
                        have w_u2 := P_u2.2; replace P_u2 := P_u2.1
                        obtain ⟨Y_u2, N_u2, K_u2, ⟨r1_u2, r2_u2, r3_u2, r4_u2⟩, f_u2⟩ := P_u2
                        obtain ⟨k1_u2, k2_u2, k3_u2, k4_u2, k5_u2, k6_u2, k7_u2⟩ := K_u2.1
                        have K29 := ke_tr K17 K_u2
                        have B_u2 : TC t u2.2 := bf_tc Y_u2.2.1
                        have F30 : FG a b h u2.2 := fg_tr F18 f_u2 (by omega)
                        have N31 : u2.2 160 9 = 0 → OV u2.2 a a1 (t 170 a1.toNat) := fun y => ov_fg B_h19 B_u2 f_u2 (by omega) (by omega) (N19 (k7_u2 y))
                        have N32 : u2.2 176 a1.toNat = (-1) := by rw [(f_u2 _ (by omega)).2.1]; exact N20
                        exact ok_ret ⟨⟨Y_u2, N_u2, K29, ⟨by omega, by omega, by omega, fun y => by have y : u2.2 160 9 = 0 := y; show 0 ≤ u2.1; omega⟩, F30⟩, fun y => by have y : u2.2 160 9 = 0 := y; exact yl_31 B_u2 ⟨by omega, by omega, by omega⟩ (by omega) (.inr (N31 y)) (w_u2 y)⟩
                      · skip
                        unfold qj_X13_invoked_232
                        unfold qj_X13_invoked_237
                        have y4 := (te_k31 T (by omega)).1
                        refine ok_sv (G.2.2.2.2.2.2 a1 v5 1 _ _ _ h19 Y_h19 N_h19 ((te_k31 T (by omega)).2.2.2) (by omega) (by omega) (by omega) (by omega) (by omega) (by omega) (by omega) (by omega)) ?_; intro u2 P_u2
                        have w_u2 := P_u2.2; replace P_u2 := P_u2.1
                        obtain ⟨Y_u2, N_u2, K_u2, ⟨r1_u2, r2_u2, r3_u2, r4_u2⟩, f_u2⟩ := P_u2
                        obtain ⟨k1_u2, k2_u2, k3_u2, k4_u2, k5_u2, k6_u2, k7_u2⟩ := K_u2.1
                        have K33 := ke_tr K17 K_u2
                        have B_u2 : TC t u2.2 := bf_tc Y_u2.2.1
                        have F34 : FG a b h u2.2 := fg_tr F18 f_u2 (by omega)
                        have N35 : u2.2 160 9 = 0 → OV u2.2 a a1 (t 170 a1.toNat) := fun y => ov_fg B_h19 B_u2 f_u2 (by omega) (by omega) (N19 (k7_u2 y))
                        have N36 : u2.2 176 a1.toNat = (-1) := by rw [(f_u2 _ (by omega)).2.1]; exact N20
                        exact ok_ret ⟨⟨Y_u2, N_u2, K33, ⟨by omega, by omega, by omega, fun y => by have y : u2.2 160 9 = 0 := y; show 0 ≤ u2.1; omega⟩, F34⟩, fun y => by have y : u2.2 160 9 = 0 := y; exact yl_31 B_u2 ⟨by omega, by omega, by omega⟩ (by omega) (.inr (N35 y)) (w_u2 y)⟩
                    · skip
                      unfold qj_X13_invoked_228
                      refine ok_if (fun C37 => ?_) (fun C37 => ?_)
                      · skip
                        unfold qj_X13_invoked_237
                        have y4 := (te_k31 T (by omega)).1
                        refine ok_sv (G.2.2.2.2.2.2 a1 v5 0 _ _ _ h19 Y_h19 N_h19 ((te_k31 T (by omega)).2.2.2) (by omega) (by omega) (by omega) (by omega) (by omega) (by omega) (by omega) (by omega)) ?_; intro u2 P_u2
                        have w_u2 := P_u2.2; replace P_u2 := P_u2.1
                        obtain ⟨Y_u2, N_u2, K_u2, ⟨r1_u2, r2_u2, r3_u2, r4_u2⟩, f_u2⟩ := P_u2
                        obtain ⟨k1_u2, k2_u2, k3_u2, k4_u2, k5_u2, k6_u2, k7_u2⟩ := K_u2.1
                        have K38 := ke_tr K17 K_u2
                        have B_u2 : TC t u2.2 := bf_tc Y_u2.2.1
                        have F39 : FG a b h u2.2 := fg_tr F18 f_u2 (by omega)
                        have N40 : u2.2 160 9 = 0 → OV u2.2 a a1 (t 170 a1.toNat) := fun y => ov_fg B_h19 B_u2 f_u2 (by omega) (by omega) (N19 (k7_u2 y))
                        have N41 : u2.2 176 a1.toNat = (-1) := by rw [(f_u2 _ (by omega)).2.1]; exact N20
                        exact ok_ret ⟨⟨Y_u2, N_u2, K38, ⟨by omega, by omega, by omega, fun y => by have y : u2.2 160 9 = 0 := y; show 0 ≤ u2.1; omega⟩, F39⟩, fun y => by have y : u2.2 160 9 = 0 := y; exact yl_31 B_u2 ⟨by omega, by omega, by omega⟩ (by omega) (.inr (N40 y)) (w_u2 y)⟩
                      · skip
                        unfold qj_X13_invoked_232
                        unfold qj_X13_invoked_237
                        have y4 := (te_k31 T (by omega)).1
                        refine ok_sv (G.2.2.2.2.2.2 a1 v5 1 _ _ _ h19 Y_h19 N_h19 ((te_k31 T (by omega)).2.2.2) (by omega) (by omega) (by omega) (by omega) (by omega) (by omega) (by omega) (by omega)) ?_; intro u2 P_u2
                        have w_u2 := P_u2.2; replace P_u2 := P_u2.1
                        obtain ⟨Y_u2, N_u2, K_u2, ⟨r1_u2, r2_u2, r3_u2, r4_u2⟩, f_u2⟩ := P_u2
                        obtain ⟨k1_u2, k2_u2, k3_u2, k4_u2, k5_u2, k6_u2, k7_u2⟩ := K_u2.1
                        have K42 := ke_tr K17 K_u2
                        have B_u2 : TC t u2.2 := bf_tc Y_u2.2.1
                        have F43 : FG a b h u2.2 := fg_tr F18 f_u2 (by omega)
                        have N44 : u2.2 160 9 = 0 → OV u2.2 a a1 (t 170 a1.toNat) := fun y => ov_fg B_h19 B_u2 f_u2 (by omega) (by omega) (N19 (k7_u2 y))
                        have N45 : u2.2 176 a1.toNat = (-1) := by rw [(f_u2 _ (by omega)).2.1]; exact N20
                        exact ok_ret ⟨⟨Y_u2, N_u2, K42, ⟨by omega, by omega, by omega, fun y => by have y : u2.2 160 9 = 0 := y; show 0 ≤ u2.1; omega⟩, F43⟩, fun y => by have y : u2.2 160 9 = 0 := y; exact yl_31 B_u2 ⟨by omega, by omega, by omega⟩ (by omega) (.inr (N44 y)) (w_u2 y)⟩
                · skip
                  refine ok_rd (by omega) (gA_168 Y_h19.1) ?_; intro v23 e_v23 a_v23 b_v23
                  have t_v23 : v23 = t 168 (a1).toNat := by rw [e_v23]; exact Y_h19.2.1 168 _ (nw_ar rfl _)
                  have d_v23 : v16 = v23 := by rw [t_v23, t_v16]
                  subst d_v23
                  refine ok_sv (vy_wrong hn Y_h19 (by omega) (by omega)) ?_; intro u25 P_u25
                  obtain ⟨Y_u25, K_u25, x_u25, f_u25⟩ := P_u25
                  obtain ⟨k1_u25, k2_u25, k3_u25, k4_u25, k5_u25, k6_u25, k7_u25⟩ := K_u25.1
                  have N_u25 : MI t u25 := mi_dead x_u25
                  have K46 := ke_tr K17 K_u25
                  have B_u25 : TC t u25 := bf_tc Y_u25.2.1
                  have F47 : FG a b h u25 := fg_tr F18 f_u25 (by omega)
                  unfold qj_X13_invoked_193
                  refine ok_rd (by omega) (gA_175 Y_u25.1) ?_; intro v5 e_v5 a_v5 b_v5
                  refine ok_if (fun C48 => ?_) (fun C48 => ?_)
                  · skip
                    unfold qj_X13_invoked_232
                    unfold qj_X13_invoked_237
                    have y4 := (te_k31 T (by omega)).1
                    refine ok_sv (G.2.2.2.2.2.2 a1 v5 1 _ _ _ u25 Y_u25 N_u25 ((te_k31 T (by omega)).2.2.2) (by omega) (by omega) (by omega) (by omega) (by omega) (by omega) (by omega) (by omega)) ?_; intro u2 P_u2
                    have w_u2 := P_u2.2; replace P_u2 := P_u2.1
                    obtain ⟨Y_u2, N_u2, K_u2, ⟨r1_u2, r2_u2, r3_u2, r4_u2⟩, f_u2⟩ := P_u2
                    obtain ⟨k1_u2, k2_u2, k3_u2, k4_u2, k5_u2, k6_u2, k7_u2⟩ := K_u2.1
                    have K49 := ke_tr K46 K_u2
                    have B_u2 : TC t u2.2 := bf_tc Y_u2.2.1
                    have F50 : FG a b h u2.2 := fg_tr F47 f_u2 (by omega)
                    exact ok_ret ⟨⟨Y_u2, N_u2, K49, ⟨by omega, by omega, by omega, fun y => by have y : u2.2 160 9 = 0 := y; show 0 ≤ u2.1; omega⟩, F50⟩, fun y => by have y : u2.2 160 9 = 0 := y; exfalso; omega⟩
                  · skip
                    exfalso; omega
              · skip
                exfalso; omega
            · skip
              exact ok_ret ⟨⟨Y_u44, N_u44, K3, ⟨by omega, by omega, by omega, fun y => by have y : u44.2 160 9 = 0 := y; show 0 ≤ 0; omega⟩, F4⟩, fun y => by have y : u44.2 160 9 = 0 := y; exfalso; omega⟩
          · skip
            refine ok_rd (by omega) (gA_168 Y_u44.1) ?_; intro v49 e_v49 a_v49 b_v49
            have t_v49 : v49 = t 168 (a1).toNat := by rw [e_v49]; exact Y_u44.2.1 168 _ (nw_ar rfl _)
            refine ok_sv (vy_wrong hn Y_u44 (by omega) (by omega)) ?_; intro u51 P_u51
            obtain ⟨Y_u51, K_u51, x_u51, f_u51⟩ := P_u51
            obtain ⟨k1_u51, k2_u51, k3_u51, k4_u51, k5_u51, k6_u51, k7_u51⟩ := K_u51.1
            have N_u51 : MI t u51 := mi_dead x_u51
            have K51 := ke_tr K3 K_u51
            have B_u51 : TC t u51 := bf_tc Y_u51.2.1
            have F52 : FG a b h u51 := fg_tr F4 f_u51 (by omega)
            unfold qj_X13_invoked_119
            refine ok_sub (by omega) ?_; intro v31 e_v31
            refine ok_div2 ?_; intro v32 e_v32 f_v32 g_v32
            unfold qj_X13_invoked_128
            refine ok_if (fun C53 => ?_) (fun C53 => ?_)
            · skip
              exfalso; omega
            · skip
              exact ok_ret ⟨⟨Y_u51, N_u51, K51, ⟨by omega, by omega, by omega, fun y => by have y : u51 160 9 = 0 := y; show 0 ≤ 0; omega⟩, F52⟩, fun y => by have y : u51 160 9 = 0 := y; exfalso; omega⟩
        · skip
          unfold qj_X13_invoked_86
          refine ok_rd (by omega) (gA_172 Y_u44.1) ?_; intro v34 e_v34 a_v34 b_v34
          have t_v34 : v34 = t 172 (a1).toNat := by rw [e_v34]; exact Y_u44.2.1 172 _ (nw_ar rfl _)
          have q_v34 := (te_k31 T (by omega)).2.1
          refine ok_sv (vy_wrong hn Y_u44 (by omega) (by omega)) ?_; intro u36 P_u36
          obtain ⟨Y_u36, K_u36, x_u36, f_u36⟩ := P_u36
          obtain ⟨k1_u36, k2_u36, k3_u36, k4_u36, k5_u36, k6_u36, k7_u36⟩ := K_u36.1
          have N_u36 : MI t u36 := mi_dead x_u36
          have K54 := ke_tr K3 K_u36
          have B_u36 : TC t u36 := bf_tc Y_u36.2.1
          have F55 : FG a b h u36 := fg_tr F4 f_u36 (by omega)
          exact ok_ret ⟨⟨Y_u36, N_u36, K54, ⟨by omega, by omega, by omega, fun y => by have y : u36 160 9 = 0 := y; show 0 ≤ 0; omega⟩, F55⟩, fun y => by have y : u36 160 9 = 0 := y; exfalso; omega⟩
    · skip
      exact ok_ret ⟨⟨Y_u44, N_u44, K3, ⟨by omega, by omega, by omega, fun y => by have y : u44.2 160 9 = 0 := y; show 0 ≤ 0; omega⟩, F4⟩, fun y => by have y : u44.2 160 9 = 0 := y; exfalso; omega⟩
  · skip
    refine ok_rd (by omega) (gA_168 Y0.1) ?_; intro v57 e_v57 a_v57 b_v57
    have t_v57 : v57 = t 168 (v40).toNat := by rw [e_v57]; exact Y0.2.1 168 _ (nw_ar rfl _)
    refine ok_sv (vy_classOf hn Y0 S (by omega)) ?_; intro u59 P_u59
    refine ok_if (fun C56 => ?_) (fun C56 => ?_)
    · skip
      unfold qj_X13_invoked_46
      refine ok_wA (by omega) ?_; intro h38 E_h38
      obtain ⟨Y_h38, K_h38⟩ := yi_174 Y0 (by omega) (by omega) E_h38
      obtain ⟨k1_h38, k2_h38, k3_h38, k4_h38, k5_h38, k6_h38, k7_h38⟩ := K_h38.1
      have s_h38 : h38 174 (v40).toNat = 3 := by rw [E_h38]; exact up_s
      have N_h38 := mi_174 N0 E_h38 (by omega)
      have K57 := ke_tr K0 K_h38
      have B_h38 : TC t h38 := bf_tc Y_h38.2.1
      have F58 : FG a b h h38 := fg_tr F0 (fg_up (j := v40) E_h38 (by omega)) (by omega)
      unfold qj_X13_invoked_128
      refine ok_if (fun C59 => ?_) (fun C59 => ?_)
      · skip
        refine ok_if (fun C60 => ?_) (fun C60 => ?_)
        · skip
          exfalso; omega
        · skip
          unfold qj_X13_invoked_152
          refine ok_wA (by omega) ?_; intro h13 E_h13
          obtain ⟨Y_h13, K_h13⟩ := yi_176 Y_h38 (by omega) (by omega) (by omega) E_h13
          obtain ⟨k1_h13, k2_h13, k3_h13, k4_h13, k5_h13, k6_h13, k7_h13⟩ := K_h13.1
          have s_h13 : h13 176 (a1).toNat = u59 := by rw [E_h13]; exact up_s
          have N_h13 := mi_up N_h38 E_h13 (by decide)
          have K61 := ke_tr K57 K_h13
          have B_h13 : TC t h13 := bf_tc Y_h13.2.1
          have F62 : FG a b h h13 := fg_tr F58 (fg_up (j := a1) E_h13 (by omega)) (by omega)
          refine ok_rd (by omega) (gA_168 Y_h13.1) ?_; intro v16 e_v16 a_v16 b_v16
          have t_v16 : v16 = t 168 (a1).toNat := by rw [e_v16]; exact Y_h13.2.1 168 _ (nw_ar rfl _)
          refine ok_sv (vy_memberOf hn Y_h13 S (by omega) (by omega)) ?_; intro u18 P_u18
          refine ok_wA (by omega) ?_; intro h19 E_h19
          obtain ⟨Y_h19, K_h19⟩ := yi_175 Y_h13 (by omega) (by omega) E_h19
          obtain ⟨k1_h19, k2_h19, k3_h19, k4_h19, k5_h19, k6_h19, k7_h19⟩ := K_h19.1
          have s_h19 : h19 175 (a1).toNat = u18 := by rw [E_h19]; exact up_s
          have K63 := ke_tr K61 K_h19
          have B_h19 : TC t h19 := bf_tc Y_h19.2.1
          have F64 : FG a b h h19 := fg_tr F62 (fg_up (j := a1) E_h19 (by omega)) (by omega)
          have N65 : h19 176 a1.toNat = u59 := by rw [E_h19, up_n (by omega)]; exact s_h13
          refine ok_rd (by omega) (gA_175 Y_h19.1) ?_; intro v21 e_v21 a_v21 b_v21
          refine ok_if (fun C66 => ?_) (fun C66 => ?_)
          · skip
            have N_h19 := mi_175 N_h13 E_h19 (by omega)
            unfold qj_X13_invoked_193
            refine ok_rd (by omega) (gA_175 Y_h19.1) ?_; intro v5 e_v5 a_v5 b_v5
            refine ok_if (fun C67 => ?_) (fun C67 => ?_)
            · skip
              unfold qj_X13_invoked_232
              unfold qj_X13_invoked_237
              have y4 := (te_k31 T (by omega)).1
              refine ok_sv (G.2.2.2.2.2.2 a1 v5 1 _ _ _ h19 Y_h19 N_h19 ((te_k31 T (by omega)).2.2.2) (by omega) (by omega) (by omega) (by omega) (by omega) (by omega) (by omega) (by omega)) ?_; intro u2 P_u2
              have w_u2 := P_u2.2; replace P_u2 := P_u2.1
              obtain ⟨Y_u2, N_u2, K_u2, ⟨r1_u2, r2_u2, r3_u2, r4_u2⟩, f_u2⟩ := P_u2
              obtain ⟨k1_u2, k2_u2, k3_u2, k4_u2, k5_u2, k6_u2, k7_u2⟩ := K_u2.1
              have K68 := ke_tr K63 K_u2
              have B_u2 : TC t u2.2 := bf_tc Y_u2.2.1
              have F69 : FG a b h u2.2 := fg_tr F64 f_u2 (by omega)
              have N70 : u2.2 176 a1.toNat = u59 := by rw [(f_u2 _ (by omega)).2.1]; exact N65
              exact ok_ret ⟨⟨Y_u2, N_u2, K68, ⟨by omega, by omega, by omega, fun y => by have y : u2.2 160 9 = 0 := y; show 0 ≤ u2.1; omega⟩, F69⟩, fun y => by have y : u2.2 160 9 = 0 := y; exfalso; omega⟩
            · skip
              refine ok_rd (by omega) (gA_175 Y_h19.1) ?_; intro v9 e_v9 a_v9 b_v9
              refine ok_rd (by omega) (gA_182 Y_h19.1) ?_; intro v10 e_v10 a_v10 b_v10
              have t_v10 : v10 = t 182 (v9).toNat := by rw [e_v10]; exact Y_h19.2.1 182 _ (nw_ar rfl _)
              refine ok_if (fun C71 => ?_) (fun C71 => ?_)
              · skip
                unfold qj_X13_invoked_228
                refine ok_if (fun C72 => ?_) (fun C72 => ?_)
                · skip
                  unfold qj_X13_invoked_237
                  have y4 := (te_k31 T (by omega)).1
                  refine ok_sv (G.2.2.2.2.2.2 a1 v5 0 _ _ _ h19 Y_h19 N_h19 ((te_k31 T (by omega)).2.2.2) (by omega) (by omega) (by omega) (by omega) (by omega) (by omega) (by omega) (by omega)) ?_; intro u2 P_u2
                  have w_u2 := P_u2.2; replace P_u2 := P_u2.1
                  obtain ⟨Y_u2, N_u2, K_u2, ⟨r1_u2, r2_u2, r3_u2, r4_u2⟩, f_u2⟩ := P_u2
                  obtain ⟨k1_u2, k2_u2, k3_u2, k4_u2, k5_u2, k6_u2, k7_u2⟩ := K_u2.1
                  have K73 := ke_tr K63 K_u2
                  have B_u2 : TC t u2.2 := bf_tc Y_u2.2.1
                  have F74 : FG a b h u2.2 := fg_tr F64 f_u2 (by omega)
                  have N75 : u2.2 176 a1.toNat = u59 := by rw [(f_u2 _ (by omega)).2.1]; exact N65
                  exact ok_ret ⟨⟨Y_u2, N_u2, K73, ⟨by omega, by omega, by omega, fun y => by have y : u2.2 160 9 = 0 := y; show 0 ≤ u2.1; omega⟩, F74⟩, fun y => by have y : u2.2 160 9 = 0 := y; exact yl_31 B_u2 ⟨by omega, by omega, by omega⟩ (by omega) (.inl (by rw [N75]; omega)) (w_u2 y)⟩
                · skip
                  unfold qj_X13_invoked_232
                  unfold qj_X13_invoked_237
                  have y4 := (te_k31 T (by omega)).1
                  refine ok_sv (G.2.2.2.2.2.2 a1 v5 1 _ _ _ h19 Y_h19 N_h19 ((te_k31 T (by omega)).2.2.2) (by omega) (by omega) (by omega) (by omega) (by omega) (by omega) (by omega) (by omega)) ?_; intro u2 P_u2
                  have w_u2 := P_u2.2; replace P_u2 := P_u2.1
                  obtain ⟨Y_u2, N_u2, K_u2, ⟨r1_u2, r2_u2, r3_u2, r4_u2⟩, f_u2⟩ := P_u2
                  obtain ⟨k1_u2, k2_u2, k3_u2, k4_u2, k5_u2, k6_u2, k7_u2⟩ := K_u2.1
                  have K76 := ke_tr K63 K_u2
                  have B_u2 : TC t u2.2 := bf_tc Y_u2.2.1
                  have F77 : FG a b h u2.2 := fg_tr F64 f_u2 (by omega)
                  have N78 : u2.2 176 a1.toNat = u59 := by rw [(f_u2 _ (by omega)).2.1]; exact N65
                  exact ok_ret ⟨⟨Y_u2, N_u2, K76, ⟨by omega, by omega, by omega, fun y => by have y : u2.2 160 9 = 0 := y; show 0 ≤ u2.1; omega⟩, F77⟩, fun y => by have y : u2.2 160 9 = 0 := y; exact yl_31 B_u2 ⟨by omega, by omega, by omega⟩ (by omega) (.inl (by rw [N78]; omega)) (w_u2 y)⟩
              · skip
                unfold qj_X13_invoked_228
                refine ok_if (fun C79 => ?_) (fun C79 => ?_)
                · skip
                  unfold qj_X13_invoked_237
                  have y4 := (te_k31 T (by omega)).1
                  refine ok_sv (G.2.2.2.2.2.2 a1 v5 0 _ _ _ h19 Y_h19 N_h19 ((te_k31 T (by omega)).2.2.2) (by omega) (by omega) (by omega) (by omega) (by omega) (by omega) (by omega) (by omega)) ?_; intro u2 P_u2
                  have w_u2 := P_u2.2; replace P_u2 := P_u2.1
                  obtain ⟨Y_u2, N_u2, K_u2, ⟨r1_u2, r2_u2, r3_u2, r4_u2⟩, f_u2⟩ := P_u2
                  obtain ⟨k1_u2, k2_u2, k3_u2, k4_u2, k5_u2, k6_u2, k7_u2⟩ := K_u2.1
                  have K80 := ke_tr K63 K_u2
                  have B_u2 : TC t u2.2 := bf_tc Y_u2.2.1
                  have F81 : FG a b h u2.2 := fg_tr F64 f_u2 (by omega)
                  have N82 : u2.2 176 a1.toNat = u59 := by rw [(f_u2 _ (by omega)).2.1]; exact N65
                  exact ok_ret ⟨⟨Y_u2, N_u2, K80, ⟨by omega, by omega, by omega, fun y => by have y : u2.2 160 9 = 0 := y; show 0 ≤ u2.1; omega⟩, F81⟩, fun y => by have y : u2.2 160 9 = 0 := y; exact yl_31 B_u2 ⟨by omega, by omega, by omega⟩ (by omega) (.inl (by rw [N82]; omega)) (w_u2 y)⟩
                · skip
                  unfold qj_X13_invoked_232
                  unfold qj_X13_invoked_237
                  have y4 := (te_k31 T (by omega)).1
                  refine ok_sv (G.2.2.2.2.2.2 a1 v5 1 _ _ _ h19 Y_h19 N_h19 ((te_k31 T (by omega)).2.2.2) (by omega) (by omega) (by omega) (by omega) (by omega) (by omega) (by omega) (by omega)) ?_; intro u2 P_u2
                  have w_u2 := P_u2.2; replace P_u2 := P_u2.1
                  obtain ⟨Y_u2, N_u2, K_u2, ⟨r1_u2, r2_u2, r3_u2, r4_u2⟩, f_u2⟩ := P_u2
                  obtain ⟨k1_u2, k2_u2, k3_u2, k4_u2, k5_u2, k6_u2, k7_u2⟩ := K_u2.1
                  have K83 := ke_tr K63 K_u2
                  have B_u2 : TC t u2.2 := bf_tc Y_u2.2.1
                  have F84 : FG a b h u2.2 := fg_tr F64 f_u2 (by omega)
                  have N85 : u2.2 176 a1.toNat = u59 := by rw [(f_u2 _ (by omega)).2.1]; exact N65
                  exact ok_ret ⟨⟨Y_u2, N_u2, K83, ⟨by omega, by omega, by omega, fun y => by have y : u2.2 160 9 = 0 := y; show 0 ≤ u2.1; omega⟩, F84⟩, fun y => by have y : u2.2 160 9 = 0 := y; exact yl_31 B_u2 ⟨by omega, by omega, by omega⟩ (by omega) (.inl (by rw [N85]; omega)) (w_u2 y)⟩
          · skip
            refine ok_rd (by omega) (gA_168 Y_h19.1) ?_; intro v23 e_v23 a_v23 b_v23
            have t_v23 : v23 = t 168 (a1).toNat := by rw [e_v23]; exact Y_h19.2.1 168 _ (nw_ar rfl _)
            have d_v23 : v16 = v23 := by rw [t_v23, t_v16]
            subst d_v23
            refine ok_sv (vy_wrong hn Y_h19 (by omega) (by omega)) ?_; intro u25 P_u25
            obtain ⟨Y_u25, K_u25, x_u25, f_u25⟩ := P_u25
            obtain ⟨k1_u25, k2_u25, k3_u25, k4_u25, k5_u25, k6_u25, k7_u25⟩ := K_u25.1
            have N_u25 : MI t u25 := mi_dead x_u25
            have K86 := ke_tr K63 K_u25
            have B_u25 : TC t u25 := bf_tc Y_u25.2.1
            have F87 : FG a b h u25 := fg_tr F64 f_u25 (by omega)
            unfold qj_X13_invoked_193
            refine ok_rd (by omega) (gA_175 Y_u25.1) ?_; intro v5 e_v5 a_v5 b_v5
            refine ok_if (fun C88 => ?_) (fun C88 => ?_)
            · skip
              unfold qj_X13_invoked_232
              unfold qj_X13_invoked_237
              have y4 := (te_k31 T (by omega)).1
              refine ok_sv (G.2.2.2.2.2.2 a1 v5 1 _ _ _ u25 Y_u25 N_u25 ((te_k31 T (by omega)).2.2.2) (by omega) (by omega) (by omega) (by omega) (by omega) (by omega) (by omega) (by omega)) ?_; intro u2 P_u2
              have w_u2 := P_u2.2; replace P_u2 := P_u2.1
              obtain ⟨Y_u2, N_u2, K_u2, ⟨r1_u2, r2_u2, r3_u2, r4_u2⟩, f_u2⟩ := P_u2
              obtain ⟨k1_u2, k2_u2, k3_u2, k4_u2, k5_u2, k6_u2, k7_u2⟩ := K_u2.1
              have K89 := ke_tr K86 K_u2
              have B_u2 : TC t u2.2 := bf_tc Y_u2.2.1
              have F90 : FG a b h u2.2 := fg_tr F87 f_u2 (by omega)
              exact ok_ret ⟨⟨Y_u2, N_u2, K89, ⟨by omega, by omega, by omega, fun y => by have y : u2.2 160 9 = 0 := y; show 0 ≤ u2.1; omega⟩, F90⟩, fun y => by have y : u2.2 160 9 = 0 := y; exfalso; omega⟩
            · skip
              exfalso; omega
      · skip
        exact ok_ret ⟨⟨Y_h38, N_h38, K57, ⟨by omega, by omega, by omega, fun y => by have y : h38 160 9 = 0 := y; show 0 ≤ 0; omega⟩, F58⟩, fun y => by have y : h38 160 9 = 0 := y; exfalso; omega⟩
    · skip
      refine ok_rd (by omega) (gA_168 Y0.1) ?_; intro v61 e_v61 a_v61 b_v61
      have t_v61 : v61 = t 168 (v40).toNat := by rw [e_v61]; exact Y0.2.1 168 _ (nw_ar rfl _)
      have d_v61 : v57 = v61 := by rw [t_v61, t_v57]
      subst d_v61
      refine ok_sv (vy_wrong hn Y0 (by omega) (by omega)) ?_; intro u63 P_u63
      obtain ⟨Y_u63, K_u63, x_u63, f_u63⟩ := P_u63
      obtain ⟨k1_u63, k2_u63, k3_u63, k4_u63, k5_u63, k6_u63, k7_u63⟩ := K_u63.1
      have N_u63 : MI t u63 := mi_dead x_u63
      have K91 := ke_tr K0 K_u63
      have B_u63 : TC t u63 := bf_tc Y_u63.2.1
      have F92 : FG a b h u63 := fg_tr F0 f_u63 (by omega)
      unfold qj_X13_invoked_46
      refine ok_wA (by omega) ?_; intro h38 E_h38
      obtain ⟨Y_h38, K_h38⟩ := yi_174 Y_u63 (by omega) (by omega) E_h38
      obtain ⟨k1_h38, k2_h38, k3_h38, k4_h38, k5_h38, k6_h38, k7_h38⟩ := K_h38.1
      have s_h38 : h38 174 (v40).toNat = 3 := by rw [E_h38]; exact up_s
      have N_h38 := mi_174 N_u63 E_h38 (by omega)
      have K93 := ke_tr K91 K_h38
      have B_h38 : TC t h38 := bf_tc Y_h38.2.1
      have F94 : FG a b h h38 := fg_tr F92 (fg_up (j := v40) E_h38 (by omega)) (by omega)
      unfold qj_X13_invoked_128
      refine ok_if (fun C95 => ?_) (fun C95 => ?_)
      · skip
        exfalso; omega
      · skip
        exact ok_ret ⟨⟨Y_h38, N_h38, K93, ⟨by omega, by omega, by omega, fun y => by have y : h38 160 9 = 0 := y; show 0 ≤ 0; omega⟩, F94⟩, fun y => by have y : h38 160 9 = 0 := y; exfalso; omega⟩
