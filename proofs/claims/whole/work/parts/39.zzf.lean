theorem vy_side {nn : Nat} (hn : 1000000 ≤ nn) {t h : ms_M} (S : SF t) (Y0 : YI t h) (N0 : MI t h) {a1 a2 : Int} (h1 : 0 ≤ a1 ∧ a1 < t 160 22) (h2 : -1 ≤ a2 ∧ a2 ≤ 900 ∧ a2 < 24 + 2 * t 160 24 ∧ (h 160 9 = 0 → 0 ≤ a2)) : Ok_ (qf_X13_side nn a1 a2 h) (QY t h) := by
  unfold qf_X13_side
  have gg := gF_160_22 Y0.1
  have q22 : h 160 22 = t 160 22 := Y0.2.1 160 22 rfl
  have g24 := gF_160_24 Y0.1
  have q24 : h 160 24 = t 160 24 := Y0.2.1 160 24 rfl
  have g28 := gF_160_28 Y0.1
  have q28 : h 160 28 = t 160 28 := Y0.2.1 160 28 rfl
  have g52 := Y0.2.2.2.2.2.1
  have g57 := gF_160_57 Y0.1
  have g50 := gF_160_50 Y0.1
  have g53 := gF_160_53 Y0.1
  have m51 := Y0.2.2.2.2.2.2
  have c8 := S.2.2.2.1
  have g51 := gF_160_51 Y0.1
  have K0 : Ke h h := ke_rf
  refine ok_if (fun C1 => ?_) (fun C1 => ?_)
  · skip
    exact ok_ret ⟨Y0, N0, K0, by omega, by omega, by omega, fun y => by have y : h 160 9 = 0 := y; show 0 ≤ a2; omega⟩
  · skip
    refine ok_rd (by omega) (gA_168 Y0.1) ?_; intro v2 e_v2 a_v2 b_v2
    have t_v2 : v2 = t 168 (a1).toNat := by rw [e_v2]; exact Y0.2.1 168 _ (nw_ar rfl _)
    refine ok_sv (vy_wrong hn Y0 (by omega) (by omega)) ?_; intro u4 P_u4
    obtain ⟨Y_u4, K_u4, x_u4⟩ := P_u4
    obtain ⟨k1_u4, k2_u4, k3_u4, k4_u4, k5_u4, k6_u4, k7_u4⟩ := K_u4.1
    have N_u4 : MI t u4 := mi_dead x_u4
    have K2 := ke_tr K0 K_u4
    exact ok_ret ⟨Y_u4, N_u4, K2, by omega, by omega, by omega, fun y => by have y : u4 160 9 = 0 := y; show 0 ≤ a2; omega⟩
theorem te_led {m d a b e : Int} {t : ms_M} (T : TE m t 0 d a b e) (hk : t 167 e.toNat = 30 ∨ t 167 e.toNat = 31 ∨ t 167 e.toNat = 32 ∨ t 167 e.toNat = 37 ∨ t 167 e.toNat = 38) : TE m t 0 d a e (t 170 e.toNat) := by
  rcases hk with k | k | k | k | k
  · exact (te_k30 T k).2
  · exact (te_k31 T k).2.2.1
  · exact (te_k37 T (.inl k)).1
  · exact (te_k37 T (.inr k)).1
  · exact te_k38 T k
theorem vy_led {nn : Nat} (hn : 1000000 ≤ nn) {t h : ms_M} (S : SF t) (Y0 : YI t h) (N0 : MI t h) {a1 d a b : Int} (T : TE 1 t 0 d a b a1) (hb : b ≤ t 160 22) (hk : t 167 a1.toNat = 30 ∨ t 167 a1.toNat = 31 ∨ t 167 a1.toNat = 32 ∨ t 167 a1.toNat = 37 ∨ t 167 a1.toNat = 38) : Ok_ (qf_X13_led nn a1 h) (fun u => QY t h u ∧ 0 ≤ u.1) := by
  unfold qf_X13_led
  have o1 := te_rg T
  have gg := gF_160_22 Y0.1
  have q22 : h 160 22 = t 160 22 := Y0.2.1 160 22 rfl
  have g24 := gF_160_24 Y0.1
  have q24 : h 160 24 = t 160 24 := Y0.2.1 160 24 rfl
  have g28 := gF_160_28 Y0.1
  have q28 : h 160 28 = t 160 28 := Y0.2.1 160 28 rfl
  have g52 := Y0.2.2.2.2.2.1
  have g57 := gF_160_57 Y0.1
  have g50 := gF_160_50 Y0.1
  have g53 := gF_160_53 Y0.1
  have m51 := Y0.2.2.2.2.2.2
  have c8 := S.2.2.2.1
  have g51 := gF_160_51 Y0.1
  have K0 : Ke h h := ke_rf
  refine ok_if (fun C1 => ?_) (fun C1 => ?_)
  · skip
    refine ok_rd (by omega) (gA_170 Y0.1) ?_; intro v4 e_v4 a_v4 b_v4
    have t_v4 : v4 = t 170 (a1).toNat := by rw [e_v4]; exact Y0.2.1 170 _ (nw_ar rfl _)
    have c_v4 := te_led T hk; rw [← t_v4] at c_v4; have rc_v4 := te_rg c_v4
    refine ok_rd (by omega) (gA_174 Y0.1) ?_; intro v5 e_v5 a_v5 b_v5
    have m_v5 : h 160 9 = 0 → 0 ≤ v5 := fun y => by rw [e_v5]; exact (N0 y _ (by omega)).1
    have l_v5 : v5 < 24 + 2 * t 160 24 := by rw [e_v5]; exact Y0.2.2.1 _ (by omega)
    refine ok_if (fun C2 => ?_) (fun C2 => ?_)
    · skip
      exact ok_ret ⟨⟨Y0, N0, K0, by omega, by omega, by omega, fun y => by have y : h 160 9 = 0 := y; show 0 ≤ v5; omega⟩, by show 0 ≤ v5; omega⟩
    · skip
      refine ok_rd (by omega) (gA_170 Y0.1) ?_; intro v8 e_v8 a_v8 b_v8
      have t_v8 : v8 = t 170 (a1).toNat := by rw [e_v8]; exact Y0.2.1 170 _ (nw_ar rfl _)
      have d_v8 : v4 = v8 := by rw [t_v8, t_v4]
      subst d_v8
      refine ok_rd (by omega) (gA_168 Y0.1) ?_; intro v9 e_v9 a_v9 b_v9
      have t_v9 : v9 = t 168 (v4).toNat := by rw [e_v9]; exact Y0.2.1 168 _ (nw_ar rfl _)
      refine ok_sv (vy_wrong hn Y0 (by omega) (by omega)) ?_; intro u11 P_u11
      obtain ⟨Y_u11, K_u11, x_u11⟩ := P_u11
      obtain ⟨k1_u11, k2_u11, k3_u11, k4_u11, k5_u11, k6_u11, k7_u11⟩ := K_u11.1
      have N_u11 : MI t u11 := mi_dead x_u11
      have K3 := ke_tr K0 K_u11
      exact ok_ret ⟨⟨Y_u11, N_u11, K3, by omega, by omega, by omega, fun y => by have y : u11 160 9 = 0 := y; show 0 ≤ v5; omega⟩, by show 0 ≤ v5; omega⟩
  · skip
    exact ok_ret ⟨⟨Y0, N0, K0, by omega, by omega, by omega, fun y => by have y : h 160 9 = 0 := y; show 0 ≤ 0; omega⟩, by show 0 ≤ 0; omega⟩
theorem vy_isByClass {nn : Nat} (hn : 1000000 ≤ nn) {t h : ms_M} (S : SF t) (Y0 : YI t h) {a1 d a b : Int} (T : TE 1 t 0 d a b a1) (hb : b ≤ t 160 22) (hk : t 167 a1.toNat = 31) : Ok_ (qf_X13_isByClass nn a1 h) (fun u => 0 ≤ u ∧ u ≤ 1) := by
  unfold qf_X13_isByClass
  have o1 := te_rg T
  have gg := gF_160_22 Y0.1
  have q22 : h 160 22 = t 160 22 := Y0.2.1 160 22 rfl
  have g24 := gF_160_24 Y0.1
  have q24 : h 160 24 = t 160 24 := Y0.2.1 160 24 rfl
  have g28 := gF_160_28 Y0.1
  have q28 : h 160 28 = t 160 28 := Y0.2.1 160 28 rfl
  have g52 := Y0.2.2.2.2.2.1
  have g57 := gF_160_57 Y0.1
  have g50 := gF_160_50 Y0.1
  have g53 := gF_160_53 Y0.1
  have m51 := Y0.2.2.2.2.2.2
  have c8 := S.2.2.2.1
  have g51 := gF_160_51 Y0.1
  have K0 : Ke h h := ke_rf
  refine ok_rd (by omega) (gA_170 Y0.1) ?_; intro v2 e_v2 a_v2 b_v2
  have t_v2 : v2 = t 170 (a1).toNat := by rw [e_v2]; exact Y0.2.1 170 _ (nw_ar rfl _)
  have c1 : TE 1 t 0 d a a1 v2 := by rw [t_v2]; exact (te_k31 T (by omega)).2.2.1
  have rc1 := te_rg c1
  refine ok_rd (by omega) (gA_167 Y0.1) ?_; intro v4 e_v4 a_v4 b_v4
  have t_v4 : v4 = t 167 (v2).toNat := by rw [e_v4]; exact Y0.2.1 167 _ (nw_ar rfl _)
  refine ok_if (fun C2 => ?_) (fun C2 => ?_)
  · skip
    exact ok_ret (by omega)
  · skip
    refine ok_rd (by omega) (gA_177 Y0.1) ?_; intro v6 e_v6 a_v6 b_v6
    have t_v6 : v6 = t 177 (v2).toNat := by rw [e_v6]; exact Y0.2.1 177 _ (nw_ar rfl _)
    refine ok_if (fun C3 => ?_) (fun C3 => ?_)
    · skip
      exact ok_ret (by omega)
    · skip
      refine ok_rd (by omega) (gA_168 Y0.1) ?_; intro v8 e_v8 a_v8 b_v8
      have t_v8 : v8 = t 168 (v2).toNat := by rw [e_v8]; exact Y0.2.1 168 _ (nw_ar rfl _)
      refine ok_sv (vy_sightOf hn Y0 S (by omega)) ?_; intro u10 P_u10
      refine ok_if (fun C4 => ?_) (fun C4 => ?_)
      · skip
        exact ok_ret (by omega)
      · skip
        refine ok_rd (by omega) (gA_168 Y0.1) ?_; intro v13 e_v13 a_v13 b_v13
        have t_v13 : v13 = t 168 (v2).toNat := by rw [e_v13]; exact Y0.2.1 168 _ (nw_ar rfl _)
        have d_v13 : v8 = v13 := by rw [t_v13, t_v8]
        subst d_v13
        refine ok_sv (vy_memberOf hn Y0 S (by omega) (by omega)) ?_; intro u15 P_u15
        refine ok_if (fun C5 => ?_) (fun C5 => ?_)
        · skip
          exact ok_ret (by omega)
        · skip
          exact ok_ret (by omega)
theorem vy_isLed {nn : Nat} (hn : 1000000 ≤ nn) {t h : ms_M} (S : SF t) (Y0 : YI t h) {a1 d a b : Int} (T : TE 1 t 0 d a b a1) (hb : b ≤ t 160 22) : Ok_ (qf_X13_isLed nn a1 h) (fun u => (0 ≤ u ∧ u ≤ 1) ∧ (u = 0 ∨ t 167 a1.toNat = 30 ∨ t 167 a1.toNat = 31 ∨ t 167 a1.toNat = 32 ∨ t 167 a1.toNat = 37 ∨ t 167 a1.toNat = 38)) := by
  unfold qf_X13_isLed
  have o1 := te_rg T
  have gg := gF_160_22 Y0.1
  have q22 : h 160 22 = t 160 22 := Y0.2.1 160 22 rfl
  have g24 := gF_160_24 Y0.1
  have q24 : h 160 24 = t 160 24 := Y0.2.1 160 24 rfl
  have g28 := gF_160_28 Y0.1
  have q28 : h 160 28 = t 160 28 := Y0.2.1 160 28 rfl
  have g52 := Y0.2.2.2.2.2.1
  have g57 := gF_160_57 Y0.1
  have g50 := gF_160_50 Y0.1
  have g53 := gF_160_53 Y0.1
  have m51 := Y0.2.2.2.2.2.2
  have c8 := S.2.2.2.1
  have g51 := gF_160_51 Y0.1
  have K0 : Ke h h := ke_rf
  refine ok_rd (by omega) (gA_167 Y0.1) ?_; intro v2 e_v2 a_v2 b_v2
  have t_v2 : v2 = t 167 (a1).toNat := by rw [e_v2]; exact Y0.2.1 167 _ (nw_ar rfl _)
  refine ok_if (fun C1 => ?_) (fun C1 => ?_)
  · skip
    exact ok_ret (by omega)
  · skip
    refine ok_if (fun C2 => ?_) (fun C2 => ?_)
    · skip
      exact ok_ret (by omega)
    · skip
      refine ok_if (fun C3 => ?_) (fun C3 => ?_)
      · skip
        exact ok_ret (by omega)
      · skip
        refine ok_if (fun C4 => ?_) (fun C4 => ?_)
        · skip
          exact ok_ret (by omega)
        · skip
          refine ok_if (fun C5 => ?_) (fun C5 => ?_)
          · skip
            exact ok_ret (by omega)
          · skip
            refine ok_sv (vy_isByClass hn S Y0 T (by omega) (by omega)) ?_; intro u4 P_u4
            refine ok_if (fun C6 => ?_) (fun C6 => ?_)
            · skip
              exact ok_ret (by omega)
            · skip
              exact ok_ret (by omega)
theorem vy_named {nn : Nat} (hn : 1000000 ≤ nn) {t h : ms_M} (S : SF t) (Y0 : YI t h) (N0 : MI t h) {a1 : Int} (h1 : 0 ≤ a1 ∧ a1 < t 160 22) (hk : t 167 a1.toNat = 25) : Ok_ (qf_X13_named nn a1 h) (QY t h) := by
  unfold qf_X13_named
  have gg := gF_160_22 Y0.1
  have q22 : h 160 22 = t 160 22 := Y0.2.1 160 22 rfl
  have g24 := gF_160_24 Y0.1
  have q24 : h 160 24 = t 160 24 := Y0.2.1 160 24 rfl
  have g28 := gF_160_28 Y0.1
  have q28 : h 160 28 = t 160 28 := Y0.2.1 160 28 rfl
  have g52 := Y0.2.2.2.2.2.1
  have g57 := gF_160_57 Y0.1
  have g50 := gF_160_50 Y0.1
  have g53 := gF_160_53 Y0.1
  have m51 := Y0.2.2.2.2.2.2
  have c8 := S.2.2.2.1
  have g51 := gF_160_51 Y0.1
  have K0 : Ke h h := ke_rf
  refine ok_rd (by omega) (gA_168 Y0.1) ?_; intro v7 e_v7 a_v7 b_v7
  have t_v7 : v7 = t 168 (a1).toNat := by rw [e_v7]; exact Y0.2.1 168 _ (nw_ar rfl _)
  refine ok_sv (vy_sightOf hn Y0 S (by omega)) ?_; intro u9 P_u9
  refine ok_if (fun C1 => ?_) (fun C1 => ?_)
  · skip
    refine ok_rd (by omega) (gA_168 Y0.1) ?_; intro v12 e_v12 a_v12 b_v12
    have t_v12 : v12 = t 168 (a1).toNat := by rw [e_v12]; exact Y0.2.1 168 _ (nw_ar rfl _)
    have d_v12 : v7 = v12 := by rw [t_v12, t_v7]
    subst d_v12
    refine ok_sv (vy_memberOf hn Y0 S (by omega) (by omega)) ?_; intro u14 P_u14
    refine ok_if (fun C2 => ?_) (fun C2 => ?_)
    · skip
      refine ok_if (fun C3 => ?_) (fun C3 => ?_)
      · skip
        unfold qj_X13_named_95
        refine ok_wA (by omega) ?_; intro h2 E_h2
        obtain ⟨Y_h2, K_h2⟩ := yi_175 Y0 (by omega) (by omega) E_h2
        obtain ⟨k1_h2, k2_h2, k3_h2, k4_h2, k5_h2, k6_h2, k7_h2⟩ := K_h2.1
        have s_h2 : h2 175 (a1).toNat = u14 := by rw [E_h2]; exact up_s
        have N_h2 := mi_175 N0 E_h2 (.inr (by omega))
        have K4 := ke_tr K0 K_h2
        refine ok_if (fun C5 => ?_) (fun C5 => ?_)
        · skip
          refine ok_rd (by omega) (gA_187 Y_h2.1) ?_; intro v4 e_v4 a_v4 b_v4
          have t_v4 : v4 = t 187 (u14).toNat := by rw [e_v4]; exact Y_h2.2.1 187 _ (nw_ar rfl _)
          have l_v4 : v4 < 24 + 2 * t 160 24 := by rw [t_v4]; exact (S.2.2.1 _ (by omega)).1
          exact ok_ret ⟨Y_h2, N_h2, K4, by omega, by omega, by omega, fun y => by have y : h2 160 9 = 0 := y; show 0 ≤ v4; omega⟩
        · skip
          exact ok_ret ⟨Y_h2, N_h2, K4, by omega, by omega, by omega, fun y => by have y : h2 160 9 = 0 := y; show 0 ≤ 0; omega⟩
      · skip
        refine ok_rd (by omega) (gA_168 Y0.1) ?_; intro v17 e_v17 a_v17 b_v17
        have t_v17 : v17 = t 168 (a1).toNat := by rw [e_v17]; exact Y0.2.1 168 _ (nw_ar rfl _)
        have d_v17 : v7 = v17 := by rw [t_v17, t_v7]
        subst d_v17
        refine ok_sv (vy_wrong hn Y0 (by omega) (by omega)) ?_; intro u19 P_u19
        obtain ⟨Y_u19, K_u19, x_u19⟩ := P_u19
        obtain ⟨k1_u19, k2_u19, k3_u19, k4_u19, k5_u19, k6_u19, k7_u19⟩ := K_u19.1
        have N_u19 : MI t u19 := mi_dead x_u19
        have K6 := ke_tr K0 K_u19
        unfold qj_X13_named_95
        refine ok_wA (by omega) ?_; intro h2 E_h2
        obtain ⟨Y_h2, K_h2⟩ := yi_175 Y_u19 (by omega) (by omega) E_h2
        obtain ⟨k1_h2, k2_h2, k3_h2, k4_h2, k5_h2, k6_h2, k7_h2⟩ := K_h2.1
        have s_h2 : h2 175 (a1).toNat = u14 := by rw [E_h2]; exact up_s
        have N_h2 := mi_175 N_u19 E_h2 (.inr (by omega))
        have K7 := ke_tr K6 K_h2
        refine ok_if (fun C8 => ?_) (fun C8 => ?_)
        · skip
          refine ok_rd (by omega) (gA_187 Y_h2.1) ?_; intro v4 e_v4 a_v4 b_v4
          have t_v4 : v4 = t 187 (u14).toNat := by rw [e_v4]; exact Y_h2.2.1 187 _ (nw_ar rfl _)
          have l_v4 : v4 < 24 + 2 * t 160 24 := by rw [t_v4]; exact (S.2.2.1 _ (by omega)).1
          exact ok_ret ⟨Y_h2, N_h2, K7, by omega, by omega, by omega, fun y => by have y : h2 160 9 = 0 := y; show 0 ≤ v4; omega⟩
        · skip
          exact ok_ret ⟨Y_h2, N_h2, K7, by omega, by omega, by omega, fun y => by have y : h2 160 9 = 0 := y; show 0 ≤ 0; omega⟩
    · skip
      refine ok_rd (by omega) (gA_168 Y0.1) ?_; intro v22 e_v22 a_v22 b_v22
      have t_v22 : v22 = t 168 (a1).toNat := by rw [e_v22]; exact Y0.2.1 168 _ (nw_ar rfl _)
      have d_v22 : v7 = v22 := by rw [t_v22, t_v7]
      subst d_v22
      refine ok_sv (vy_wrong hn Y0 (by omega) (by omega)) ?_; intro u24 P_u24
      obtain ⟨Y_u24, K_u24, x_u24⟩ := P_u24
      obtain ⟨k1_u24, k2_u24, k3_u24, k4_u24, k5_u24, k6_u24, k7_u24⟩ := K_u24.1
      have N_u24 : MI t u24 := mi_dead x_u24
      have K9 := ke_tr K0 K_u24
      unfold qj_X13_named_95
      refine ok_wA (by omega) ?_; intro h2 E_h2
      obtain ⟨Y_h2, K_h2⟩ := yi_175 Y_u24 (by omega) (by omega) E_h2
      obtain ⟨k1_h2, k2_h2, k3_h2, k4_h2, k5_h2, k6_h2, k7_h2⟩ := K_h2.1
      have s_h2 : h2 175 (a1).toNat = u14 := by rw [E_h2]; exact up_s
      have N_h2 := mi_175 N_u24 E_h2 (.inr (by omega))
      have K10 := ke_tr K9 K_h2
      refine ok_if (fun C11 => ?_) (fun C11 => ?_)
      · skip
        refine ok_rd (by omega) (gA_187 Y_h2.1) ?_; intro v4 e_v4 a_v4 b_v4
        have t_v4 : v4 = t 187 (u14).toNat := by rw [e_v4]; exact Y_h2.2.1 187 _ (nw_ar rfl _)
        have l_v4 : v4 < 24 + 2 * t 160 24 := by rw [t_v4]; exact (S.2.2.1 _ (by omega)).1
        exact ok_ret ⟨Y_h2, N_h2, K10, by omega, by omega, by omega, fun y => by have y : h2 160 9 = 0 := y; show 0 ≤ v4; omega⟩
      · skip
        exact ok_ret ⟨Y_h2, N_h2, K10, by omega, by omega, by omega, fun y => by have y : h2 160 9 = 0 := y; show 0 ≤ 0; omega⟩
  · skip
    refine ok_wA (by omega) ?_; intro h27 E_h27
    obtain ⟨Y_h27, K_h27⟩ := yi_175 Y0 (by omega) (by omega) E_h27
    obtain ⟨k1_h27, k2_h27, k3_h27, k4_h27, k5_h27, k6_h27, k7_h27⟩ := K_h27.1
    have s_h27 : h27 175 (a1).toNat = (-1) := by rw [E_h27]; exact up_s
    have N_h27 := mi_175 N0 E_h27 (.inr (by omega))
    have K12 := ke_tr K0 K_h27
    refine ok_sv (vy_local Y_h27 (by omega)) ?_; intro u30 P_u30
    refine ok_wA (by omega) ?_; intro h31 E_h31
    obtain ⟨Y_h31, K_h31⟩ := yi_176 Y_h27 (by omega) (by omega) (by omega) E_h31
    obtain ⟨k1_h31, k2_h31, k3_h31, k4_h31, k5_h31, k6_h31, k7_h31⟩ := K_h31.1
    have s_h31 : h31 176 (a1).toNat = u30 := by rw [E_h31]; exact up_s
    have N_h31 := mi_up N_h27 E_h31 (by decide)
    have K13 := ke_tr K12 K_h31
    refine ok_rd (by omega) (gA_197 Y_h31.1) ?_; intro v33 e_v33 a_v33 b_v33
    have l_v33 : 0 ≤ v33 ∧ v33 < 24 + 2 * t 160 24 := by rw [e_v33]; exact Y_h31.2.2.2.1 _ (by omega)
    exact ok_ret ⟨Y_h31, N_h31, K13, by omega, by omega, by omega, fun y => by have y : h31 160 9 = 0 := y; show 0 ≤ v33; omega⟩
theorem vy_field {nn : Nat} (hn : 1000000 ≤ nn) {t h : ms_M} (S : SF t) (Y0 : YI t h) (N0 : MI t h) {a1 d a b : Int} (T : TE 1 t 0 d a b a1) (hb : b ≤ t 160 22) (hk : t 167 a1.toNat = 30) : Ok_ (qf_X13_field nn a1 h) (QY t h) := by
  unfold qf_X13_field
  have o1 := te_rg T
  have gg := gF_160_22 Y0.1
  have q22 : h 160 22 = t 160 22 := Y0.2.1 160 22 rfl
  have g24 := gF_160_24 Y0.1
  have q24 : h 160 24 = t 160 24 := Y0.2.1 160 24 rfl
  have g28 := gF_160_28 Y0.1
  have q28 : h 160 28 = t 160 28 := Y0.2.1 160 28 rfl
  have g52 := Y0.2.2.2.2.2.1
  have g57 := gF_160_57 Y0.1
  have g50 := gF_160_50 Y0.1
  have g53 := gF_160_53 Y0.1
  have m51 := Y0.2.2.2.2.2.2
  have c8 := S.2.2.2.1
  have g51 := gF_160_51 Y0.1
  have K0 : Ke h h := ke_rf
  refine ok_sv (vy_led hn S Y0 N0 T (by omega) (by omega)) ?_; intro u16 P_u16
  have p5_u16 := P_u16.2; replace P_u16 := P_u16.1
  obtain ⟨Y_u16, N_u16, K_u16, r1_u16, r2_u16, r3_u16, r4_u16⟩ := P_u16
  obtain ⟨k1_u16, k2_u16, k3_u16, k4_u16, k5_u16, k6_u16, k7_u16⟩ := K_u16.1
  have K1 := ke_tr K0 K_u16
  refine ok_if (fun C2 => ?_) (fun C2 => ?_)
  · skip
    refine ok_if (fun C3 => ?_) (fun C3 => ?_)
    · skip
      unfold qj_X13_field_27
      refine ok_rd (by omega) (gA_172 Y_u16.1) ?_; intro v12 e_v12 a_v12 b_v12
      have t_v12 : v12 = t 172 (a1).toNat := by rw [e_v12]; exact Y_u16.2.1 172 _ (nw_ar rfl _)
      have q_v12 := (te_k30 T (by omega)).1
      refine ok_sv (vy_wrong hn Y_u16 (by omega) (by omega)) ?_; intro u14 P_u14
      obtain ⟨Y_u14, K_u14, x_u14⟩ := P_u14
      obtain ⟨k1_u14, k2_u14, k3_u14, k4_u14, k5_u14, k6_u14, k7_u14⟩ := K_u14.1
      have N_u14 : MI t u14 := mi_dead x_u14
      have K4 := ke_tr K1 K_u14
      exact ok_ret ⟨Y_u14, N_u14, K4, by omega, by omega, by omega, fun y => by have y : u14 160 9 = 0 := y; show 0 ≤ 0; omega⟩
    · skip
      refine ok_sv vy_isThing ?_; intro u18 P_u18
      refine ok_if (fun C5 => ?_) (fun C5 => ?_)
      · skip
        refine ok_sv vy_isArray ?_; intro u19 P_u19
        refine ok_if (fun C6 => ?_) (fun C6 => ?_)
        · skip
          refine ok_sub (by omega) ?_; intro v20 e_v20
          refine ok_div2 ?_; intro v21 e_v21 f_v21 g_v21
          refine ok_rd (by omega) (gA_168 Y_u16.1) ?_; intro v23 e_v23 a_v23 b_v23
          have t_v23 : v23 = t 168 (a1).toNat := by rw [e_v23]; exact Y_u16.2.1 168 _ (nw_ar rfl _)
          refine ok_sv (vy_memberOf hn Y_u16 S (by omega) (by omega)) ?_; intro u25 P_u25
          refine ok_if (fun C7 => ?_) (fun C7 => ?_)
          · skip
            unfold qj_X13_field_151
            refine ok_wA (by omega) ?_; intro h2 E_h2
            obtain ⟨Y_h2, K_h2⟩ := yi_175 Y_u16 (by omega) (by omega) E_h2
            obtain ⟨k1_h2, k2_h2, k3_h2, k4_h2, k5_h2, k6_h2, k7_h2⟩ := K_h2.1
            have s_h2 : h2 175 (a1).toNat = u25 := by rw [E_h2]; exact up_s
            have N_h2 := mi_175 N_u16 E_h2 (.inr (by omega))
            have K8 := ke_tr K1 K_h2
            refine ok_if (fun C9 => ?_) (fun C9 => ?_)
            · skip
              refine ok_rd (by omega) (gA_187 Y_h2.1) ?_; intro v4 e_v4 a_v4 b_v4
              have t_v4 : v4 = t 187 (u25).toNat := by rw [e_v4]; exact Y_h2.2.1 187 _ (nw_ar rfl _)
              have l_v4 : v4 < 24 + 2 * t 160 24 := by rw [t_v4]; exact (S.2.2.1 _ (by omega)).1
              exact ok_ret ⟨Y_h2, N_h2, K8, by omega, by omega, by omega, fun y => by have y : h2 160 9 = 0 := y; show 0 ≤ v4; omega⟩
            · skip
              exact ok_ret ⟨Y_h2, N_h2, K8, by omega, by omega, by omega, fun y => by have y : h2 160 9 = 0 := y; show 0 ≤ 0; omega⟩
          · skip
            refine ok_rd (by omega) (gA_168 Y_u16.1) ?_; intro v27 e_v27 a_v27 b_v27
            have t_v27 : v27 = t 168 (a1).toNat := by rw [e_v27]; exact Y_u16.2.1 168 _ (nw_ar rfl _)
            have d_v27 : v23 = v27 := by rw [t_v27, t_v23]
            subst d_v27
            refine ok_sv (vy_wrong hn Y_u16 (by omega) (by omega)) ?_; intro u29 P_u29
            obtain ⟨Y_u29, K_u29, x_u29⟩ := P_u29
            obtain ⟨k1_u29, k2_u29, k3_u29, k4_u29, k5_u29, k6_u29, k7_u29⟩ := K_u29.1
            have N_u29 : MI t u29 := mi_dead x_u29
            have K10 := ke_tr K1 K_u29
            unfold qj_X13_field_151
            refine ok_wA (by omega) ?_; intro h2 E_h2
            obtain ⟨Y_h2, K_h2⟩ := yi_175 Y_u29 (by omega) (by omega) E_h2
            obtain ⟨k1_h2, k2_h2, k3_h2, k4_h2, k5_h2, k6_h2, k7_h2⟩ := K_h2.1
            have s_h2 : h2 175 (a1).toNat = u25 := by rw [E_h2]; exact up_s
            have N_h2 := mi_175 N_u29 E_h2 (.inr (by omega))
            have K11 := ke_tr K10 K_h2
            refine ok_if (fun C12 => ?_) (fun C12 => ?_)
            · skip
              refine ok_rd (by omega) (gA_187 Y_h2.1) ?_; intro v4 e_v4 a_v4 b_v4
              have t_v4 : v4 = t 187 (u25).toNat := by rw [e_v4]; exact Y_h2.2.1 187 _ (nw_ar rfl _)
              have l_v4 : v4 < 24 + 2 * t 160 24 := by rw [t_v4]; exact (S.2.2.1 _ (by omega)).1
              exact ok_ret ⟨Y_h2, N_h2, K11, by omega, by omega, by omega, fun y => by have y : h2 160 9 = 0 := y; show 0 ≤ v4; omega⟩
            · skip
              exact ok_ret ⟨Y_h2, N_h2, K11, by omega, by omega, by omega, fun y => by have y : h2 160 9 = 0 := y; show 0 ≤ 0; omega⟩
        · skip
          refine ok_wA (by omega) ?_; intro h32 E_h32
          obtain ⟨Y_h32, K_h32⟩ := yi_175 Y_u16 (by omega) (by omega) E_h32
          obtain ⟨k1_h32, k2_h32, k3_h32, k4_h32, k5_h32, k6_h32, k7_h32⟩ := K_h32.1
          have s_h32 : h32 175 (a1).toNat = (-1) := by rw [E_h32]; exact up_s
          have N_h32 := mi_175 N_u16 E_h32 (.inr (by omega))
          have K13 := ke_tr K1 K_h32
          refine ok_rd (by omega) (gA_168 Y_h32.1) ?_; intro v35 e_v35 a_v35 b_v35
          have t_v35 : v35 = t 168 (a1).toNat := by rw [e_v35]; exact Y_h32.2.1 168 _ (nw_ar rfl _)
          refine ok_rd (by omega) (gA_165 Y_h32.1) ?_; intro v36 e_v36 a_v36 b_v36
          have t_v36 : v36 = t 165 (v35).toNat := by rw [e_v36]; exact Y_h32.2.1 165 _ (nw_ar rfl _)
          refine ok_if (fun C14 => ?_) (fun C14 => ?_)
          · skip
            unfold qj_X13_field_98
            unfold qj_X13_field_99
            rw [if_neg (by decide)]
            refine ok_rd (by omega) (gA_168 Y_h32.1) ?_; intro v7 e_v7 a_v7 b_v7
            have t_v7 : v7 = t 168 (a1).toNat := by rw [e_v7]; exact Y_h32.2.1 168 _ (nw_ar rfl _)
            have d_v7 : v35 = v7 := by rw [t_v7, t_v35]
            subst d_v7
            refine ok_sv (vy_wrong hn Y_h32 (by omega) (by omega)) ?_; intro u9 P_u9
            obtain ⟨Y_u9, K_u9, x_u9⟩ := P_u9
            obtain ⟨k1_u9, k2_u9, k3_u9, k4_u9, k5_u9, k6_u9, k7_u9⟩ := K_u9.1
            have N_u9 : MI t u9 := mi_dead x_u9
            have K15 := ke_tr K13 K_u9
            exact ok_ret ⟨Y_u9, N_u9, K15, by omega, by omega, by omega, fun y => by have y : u9 160 9 = 0 := y; show 0 ≤ 0; omega⟩
          · skip
            refine ok_rd (by omega) (gA_168 Y_h32.1) ?_; intro v39 e_v39 a_v39 b_v39
            have t_v39 : v39 = t 168 (a1).toNat := by rw [e_v39]; exact Y_h32.2.1 168 _ (nw_ar rfl _)
            have d_v39 : v35 = v39 := by rw [t_v39, t_v35]
            subst d_v39
            refine ok_rd (by omega) (gA_164 Y_h32.1) ?_; intro v40 e_v40 a_v40 b_v40
            have t_v40 : v40 = t 164 (v35).toNat := by rw [e_v40]; exact Y_h32.2.1 164 _ (nw_ar rfl _)
            have w_v40 := S.1.1 (v35).toNat (by omega)
            refine ok_sv (vy_among4 hn Y_h32 (by omega)) ?_; intro u42 _
            refine ok_if (fun C16 => ?_) (fun C16 => ?_)
            · skip
              unfold qj_X13_field_98
              unfold qj_X13_field_99
              rw [if_neg (by decide)]
              refine ok_rd (by omega) (gA_168 Y_h32.1) ?_; intro v7 e_v7 a_v7 b_v7
              have t_v7 : v7 = t 168 (a1).toNat := by rw [e_v7]; exact Y_h32.2.1 168 _ (nw_ar rfl _)
              have d_v7 : v35 = v7 := by rw [t_v7, t_v35]
              subst d_v7
              refine ok_sv (vy_wrong hn Y_h32 (by omega) (by omega)) ?_; intro u9 P_u9
              obtain ⟨Y_u9, K_u9, x_u9⟩ := P_u9
              obtain ⟨k1_u9, k2_u9, k3_u9, k4_u9, k5_u9, k6_u9, k7_u9⟩ := K_u9.1
              have N_u9 : MI t u9 := mi_dead x_u9
              have K17 := ke_tr K13 K_u9
              exact ok_ret ⟨Y_u9, N_u9, K17, by omega, by omega, by omega, fun y => by have y : u9 160 9 = 0 := y; show 0 ≤ 0; omega⟩
            · skip
              unfold qj_X13_field_99
              rw [if_pos (by decide)]
              exact ok_ret ⟨Y_h32, N_h32, K13, by omega, by omega, by omega, fun y => by have y : h32 160 9 = 0 := y; show 0 ≤ 0; omega⟩
      · skip
        unfold qj_X13_field_27
        refine ok_rd (by omega) (gA_172 Y_u16.1) ?_; intro v12 e_v12 a_v12 b_v12
        have t_v12 : v12 = t 172 (a1).toNat := by rw [e_v12]; exact Y_u16.2.1 172 _ (nw_ar rfl _)
        have q_v12 := (te_k30 T (by omega)).1
        refine ok_sv (vy_wrong hn Y_u16 (by omega) (by omega)) ?_; intro u14 P_u14
        obtain ⟨Y_u14, K_u14, x_u14⟩ := P_u14
        obtain ⟨k1_u14, k2_u14, k3_u14, k4_u14, k5_u14, k6_u14, k7_u14⟩ := K_u14.1
        have N_u14 : MI t u14 := mi_dead x_u14
        have K18 := ke_tr K1 K_u14
        exact ok_ret ⟨Y_u14, N_u14, K18, by omega, by omega, by omega, fun y => by have y : u14 160 9 = 0 := y; show 0 ≤ 0; omega⟩
  · skip
    exact ok_ret ⟨Y_u16, N_u16, K1, by omega, by omega, by omega, fun y => by have y : u16.2 160 9 = 0 := y; show 0 ≤ 0; omega⟩
theorem vy_typeOf {nn : Nat} (hn : 1000000 ≤ nn) {t h : ms_M} (S : SF t) (Y0 : YI t h) (N0 : MI t h) {a1 a2 a3 : Int} (h2 : 0 ≤ a2 ∧ a2 ≤ 3001) (h3 : 0 ≤ a3 ∧ a3 ≤ 1) : Ok_ (qf_X13_typeOf nn a1 a2 a3 h) (fun u => QY t h u ∧ 0 ≤ u.1) := by
  unfold qf_X13_typeOf
  have gg := gF_160_22 Y0.1
  have q22 : h 160 22 = t 160 22 := Y0.2.1 160 22 rfl
  have g24 := gF_160_24 Y0.1
  have q24 : h 160 24 = t 160 24 := Y0.2.1 160 24 rfl
  have g28 := gF_160_28 Y0.1
  have q28 : h 160 28 = t 160 28 := Y0.2.1 160 28 rfl
  have g52 := Y0.2.2.2.2.2.1
  have g57 := gF_160_57 Y0.1
  have g50 := gF_160_50 Y0.1
  have g53 := gF_160_53 Y0.1
  have m51 := Y0.2.2.2.2.2.2
  have c8 := S.2.2.2.1
  have g51 := gF_160_51 Y0.1
  have K0 : Ke h h := ke_rf
  refine ok_if (fun C1 => ?_) (fun C1 => ?_)
  · skip
    refine ok_if (fun C2 => ?_) (fun C2 => ?_)
    · skip
      refine ok_if (fun C3 => ?_) (fun C3 => ?_)
      · skip
        refine ok_if (fun C4 => ?_) (fun C4 => ?_)
        · skip
          refine ok_sv (vy_classOf hn Y0 S (by omega)) ?_; intro u8 P_u8
          refine ok_if (fun C5 => ?_) (fun C5 => ?_)
          · skip
            unfold qj_X13_typeOf_56
            refine ok_mul (by omega) ?_; intro v1 e_v1
            refine ok_add (by omega) ?_; intro v2 e_v2
            refine ok_if (fun C6 => ?_) (fun C6 => ?_)
            · skip
              refine ok_add (by omega) ?_; intro v3 e_v3
              exact ok_ret ⟨⟨Y0, N0, K0, by omega, by omega, by omega, fun y => by have y : h 160 9 = 0 := y; show 0 ≤ v3; omega⟩, by show 0 ≤ v3; omega⟩
            · skip
              refine ok_add (by omega) ?_; intro v4 e_v4
              exact ok_ret ⟨⟨Y0, N0, K0, by omega, by omega, by omega, fun y => by have y : h 160 9 = 0 := y; show 0 ≤ v4; omega⟩, by show 0 ≤ v4; omega⟩
          · skip
            refine ok_sv (vy_wrong hn Y0 (by omega) (by omega)) ?_; intro u10 P_u10
            obtain ⟨Y_u10, K_u10, x_u10⟩ := P_u10
            obtain ⟨k1_u10, k2_u10, k3_u10, k4_u10, k5_u10, k6_u10, k7_u10⟩ := K_u10.1
            have N_u10 : MI t u10 := mi_dead x_u10
            have K7 := ke_tr K0 K_u10
            unfold qj_X13_typeOf_56
            refine ok_mul (by omega) ?_; intro v1 e_v1
            refine ok_add (by omega) ?_; intro v2 e_v2
            refine ok_if (fun C8 => ?_) (fun C8 => ?_)
            · skip
              refine ok_add (by omega) ?_; intro v3 e_v3
              exact ok_ret ⟨⟨Y_u10, N_u10, K7, by omega, by omega, by omega, fun y => by have y : u10 160 9 = 0 := y; show 0 ≤ v3; omega⟩, by show 0 ≤ v3; omega⟩
            · skip
              refine ok_add (by omega) ?_; intro v4 e_v4
              exact ok_ret ⟨⟨Y_u10, N_u10, K7, by omega, by omega, by omega, fun y => by have y : u10 160 9 = 0 := y; show 0 ≤ v4; omega⟩, by show 0 ≤ v4; omega⟩
        · skip
          exact ok_ret ⟨⟨Y0, N0, K0, by omega, by omega, by omega, fun y => by have y : h 160 9 = 0 := y; show 0 ≤ 3; omega⟩, by show 0 ≤ 3; omega⟩
      · skip
        exact ok_ret ⟨⟨Y0, N0, K0, by omega, by omega, by omega, fun y => by have y : h 160 9 = 0 := y; show 0 ≤ 1; omega⟩, by show 0 ≤ 1; omega⟩
    · skip
      refine ok_if (fun C9 => ?_) (fun C9 => ?_)
      · skip
        exact ok_ret ⟨⟨Y0, N0, K0, by omega, by omega, by omega, fun y => by have y : h 160 9 = 0 := y; show 0 ≤ 0; omega⟩, by show 0 ≤ 0; omega⟩
      · skip
        exact ok_ret ⟨⟨Y0, N0, K0, by omega, by omega, by omega, fun y => by have y : h 160 9 = 0 := y; show 0 ≤ 4; omega⟩, by show 0 ≤ 4; omega⟩
  · skip
    exact ok_ret ⟨⟨Y0, N0, K0, by omega, by omega, by omega, fun y => by have y : h 160 9 = 0 := y; show 0 ≤ 0; omega⟩, by show 0 ≤ 0; omega⟩
theorem vy_canTake {nn : Nat} (hn : 1000000 ≤ nn) {t h : ms_M} (S : SF t) (Y0 : YI t h) {a1 : Int} (h1 : 0 ≤ a1 ∧ a1 < t 160 22) : Ok_ (qf_X13_canTake nn a1 h) (fun u => 0 ≤ u ∧ u ≤ 1) := by
  unfold qf_X13_canTake
  have gg := gF_160_22 Y0.1
  have q22 : h 160 22 = t 160 22 := Y0.2.1 160 22 rfl
  have g24 := gF_160_24 Y0.1
  have q24 : h 160 24 = t 160 24 := Y0.2.1 160 24 rfl
  have g28 := gF_160_28 Y0.1
  have q28 : h 160 28 = t 160 28 := Y0.2.1 160 28 rfl
  have g52 := Y0.2.2.2.2.2.1
  have g57 := gF_160_57 Y0.1
  have g50 := gF_160_50 Y0.1
  have g53 := gF_160_53 Y0.1
  have m51 := Y0.2.2.2.2.2.2
  have c8 := S.2.2.2.1
  have g51 := gF_160_51 Y0.1
  have K0 : Ke h h := ke_rf
  refine ok_if (fun C1 => ?_) (fun C1 => ?_)
  · skip
    refine ok_rd (by omega) (gA_177 Y0.1) ?_; intro v3 e_v3 a_v3 b_v3
    have t_v3 : v3 = t 177 (a1).toNat := by rw [e_v3]; exact Y0.2.1 177 _ (nw_ar rfl _)
    refine ok_if (fun C2 => ?_) (fun C2 => ?_)
    · skip
      refine ok_rd (by omega) (gA_167 Y0.1) ?_; intro v5 e_v5 a_v5 b_v5
      have t_v5 : v5 = t 167 (a1).toNat := by rw [e_v5]; exact Y0.2.1 167 _ (nw_ar rfl _)
      refine ok_if (fun C3 => ?_) (fun C3 => ?_)
      · skip
        exact ok_ret (by omega)
      · skip
        refine ok_rd (by omega) (gA_167 Y0.1) ?_; intro v7 e_v7 a_v7 b_v7
        have t_v7 : v7 = t 167 (a1).toNat := by rw [e_v7]; exact Y0.2.1 167 _ (nw_ar rfl _)
        have d_v7 : v5 = v7 := by rw [t_v7, t_v5]
        subst d_v7
        refine ok_if (fun C4 => ?_) (fun C4 => ?_)
        · skip
          refine ok_rd (by omega) (gA_167 Y0.1) ?_; intro v9 e_v9 a_v9 b_v9
          have t_v9 : v9 = t 167 (a1).toNat := by rw [e_v9]; exact Y0.2.1 167 _ (nw_ar rfl _)
          have d_v9 : v5 = v9 := by rw [t_v9, t_v5]
          subst d_v9
          refine ok_if (fun C5 => ?_) (fun C5 => ?_)
          · skip
            exact ok_ret (by omega)
          · skip
            refine ok_rd (by omega) (gA_175 Y0.1) ?_; intro v11 e_v11 a_v11 b_v11
            refine ok_if (fun C6 => ?_) (fun C6 => ?_)
            · skip
              exact ok_ret (by omega)
            · skip
              exact ok_ret (by omega)
        · skip
          exact ok_ret (by omega)
    · skip
      exact ok_ret (by omega)
  · skip
    exact ok_ret (by omega)
theorem vz_condition {nn : Nat} (hn : 1000000 ≤ nn) {t h : ms_M} (S : SF t) (Y0 : YI t h) (N0 : MI t h) {g : Int} {rc : tq_X13_condition} (G : GR t g rc) {a1 d a b : Int} (T : TE 1 t 0 d a b a1) (hb : b ≤ t 160 22) (hg : d + 3 ≤ g + 1) (h57 : h 160 57 + b ≤ 9000) : Ok_ (qo_X13_condition nn rc a1 h) (QZ t h) := by
  unfold qo_X13_condition
  have o1 := te_rg T
  have gg := gF_160_22 Y0.1
  have q22 : h 160 22 = t 160 22 := Y0.2.1 160 22 rfl
  have g24 := gF_160_24 Y0.1
  have q24 : h 160 24 = t 160 24 := Y0.2.1 160 24 rfl
  have g28 := gF_160_28 Y0.1
  have q28 : h 160 28 = t 160 28 := Y0.2.1 160 28 rfl
  have g52 := Y0.2.2.2.2.2.1
  have g57 := gF_160_57 Y0.1
  have g50 := gF_160_50 Y0.1
  have g53 := gF_160_53 Y0.1
  have m51 := Y0.2.2.2.2.2.2
  have c8 := S.2.2.2.1
  have g51 := gF_160_51 Y0.1
  have K0 : Ke h h := ke_rf
  refine ok_sv (G.2.1 a1 _ _ _ h Y0 N0 T (by omega) (by omega) (by omega)) ?_; intro u2 P_u2
  obtain ⟨Y_u2, N_u2, K_u2, r1_u2, r2_u2, r3_u2, r4_u2⟩ := P_u2
  obtain ⟨k1_u2, k2_u2, k3_u2, k4_u2, k5_u2, k6_u2, k7_u2⟩ := K_u2.1
  have K1 := ke_tr K0 K_u2
  refine ok_if (fun C2 => ?_) (fun C2 => ?_)
  · skip
    exact ok_ret ⟨Y_u2, N_u2, K1⟩
  · skip
    refine ok_rd (by omega) (gA_169 Y_u2.1) ?_; intro v4 e_v4 a_v4 b_v4
    have t_v4 : v4 = t 169 (a1).toNat := by rw [e_v4]; exact Y_u2.2.1 169 _ (nw_ar rfl _)
    refine ok_sv (vy_wrong hn Y_u2 (by omega) (by omega)) ?_; intro u6 P_u6
    obtain ⟨Y_u6, K_u6, x_u6⟩ := P_u6
    obtain ⟨k1_u6, k2_u6, k3_u6, k4_u6, k5_u6, k6_u6, k7_u6⟩ := K_u6.1
    have N_u6 : MI t u6 := mi_dead x_u6
    have K3 := ke_tr K1 K_u6
    exact ok_ret ⟨Y_u6, N_u6, K3⟩
theorem vz_given {nn : Nat} (hn : 1000000 ≤ nn) {t h : ms_M} (S : SF t) (Y0 : YI t h) (N0 : MI t h) {g : Int} {rc : tq_X13_condition} (G : GR t g rc) {a1 d a b : Int} (T : TE 1 t 0 d a b a1) (hb : b ≤ t 160 22) (hg : d + 2 ≤ g + 1) (h57 : h 160 57 + b ≤ 9000) : Ok_ (qo_X13_given nn rc a1 h) (QY t h) := by
  unfold qo_X13_given
  have o1 := te_rg T
  have gg := gF_160_22 Y0.1
  have q22 : h 160 22 = t 160 22 := Y0.2.1 160 22 rfl
  have g24 := gF_160_24 Y0.1
  have q24 : h 160 24 = t 160 24 := Y0.2.1 160 24 rfl
  have g28 := gF_160_28 Y0.1
  have q28 : h 160 28 = t 160 28 := Y0.2.1 160 28 rfl
  have g52 := Y0.2.2.2.2.2.1
  have g57 := gF_160_57 Y0.1
  have g50 := gF_160_50 Y0.1
  have g53 := gF_160_53 Y0.1
  have m51 := Y0.2.2.2.2.2.2
  have c8 := S.2.2.2.1
  have g51 := gF_160_51 Y0.1
  have K0 : Ke h h := ke_rf
  refine ok_sv (G.2.2.1 a1 _ _ _ h Y0 N0 T (by omega) (by omega) (by omega)) ?_; intro u2 P_u2
  obtain ⟨Y_u2, N_u2, K_u2, r1_u2, r2_u2, r3_u2, r4_u2⟩ := P_u2
  obtain ⟨k1_u2, k2_u2, k3_u2, k4_u2, k5_u2, k6_u2, k7_u2⟩ := K_u2.1
  have K1 := ke_tr K0 K_u2
  refine ok_if (fun C2 => ?_) (fun C2 => ?_)
  · skip
    exact ok_ret ⟨Y_u2, N_u2, K1, by omega, by omega, by omega, fun y => by have y : u2.2 160 9 = 0 := y; show 0 ≤ u2.1; omega⟩
  · skip
    refine ok_rd (by omega) (gA_168 Y_u2.1) ?_; intro v4 e_v4 a_v4 b_v4
    have t_v4 : v4 = t 168 (a1).toNat := by rw [e_v4]; exact Y_u2.2.1 168 _ (nw_ar rfl _)
    refine ok_sv (vy_wrong hn Y_u2 (by omega) (by omega)) ?_; intro u6 P_u6
    obtain ⟨Y_u6, K_u6, x_u6⟩ := P_u6
    obtain ⟨k1_u6, k2_u6, k3_u6, k4_u6, k5_u6, k6_u6, k7_u6⟩ := K_u6.1
    have N_u6 : MI t u6 := mi_dead x_u6
    have K3 := ke_tr K1 K_u6
    exact ok_ret ⟨Y_u6, N_u6, K3, by omega, by omega, by omega, fun y => by have y : u6 160 9 = 0 := y; show 0 ≤ u2.1; omega⟩
theorem vz_rule {nn : Nat} (hn : 1000000 ≤ nn) {t h : ms_M} (S : SF t) (Y0 : YI t h) (N0 : MI t h) {g : Int} {rc : tq_X13_condition} (G : GR t g rc) {a1 d a b : Int} (T : TE 1 t 0 d a b a1) (hb : b ≤ t 160 22) (hg : d ≤ g + 1) (h57 : h 160 57 + b ≤ 9000) : Ok_ (qo_X13_rule nn rc a1 h) (QY t h) := by
  unfold qo_X13_rule
  have o1 := te_rg T
  have gg := gF_160_22 Y0.1
  have q22 : h 160 22 = t 160 22 := Y0.2.1 160 22 rfl
  have g24 := gF_160_24 Y0.1
  have q24 : h 160 24 = t 160 24 := Y0.2.1 160 24 rfl
  have g28 := gF_160_28 Y0.1
  have q28 : h 160 28 = t 160 28 := Y0.2.1 160 28 rfl
  have g52 := Y0.2.2.2.2.2.1
  have g57 := gF_160_57 Y0.1
  have g50 := gF_160_50 Y0.1
  have g53 := gF_160_53 Y0.1
  have m51 := Y0.2.2.2.2.2.2
  have c8 := S.2.2.2.1
  have g51 := gF_160_51 Y0.1
  have K0 : Ke h h := ke_rf
  have kd := te_kd T
  refine ok_rd (by omega) (gA_167 Y0.1) ?_; intro v83 e_v83 a_v83 b_v83
  have t_v83 : v83 = t 167 (a1).toNat := by rw [e_v83]; exact Y0.2.1 167 _ (nw_ar rfl _)
  refine ok_if (fun C1 => ?_) (fun C1 => ?_)
  · skip
    exact ok_ret ⟨Y0, N0, K0, by omega, by omega, by omega, fun y => by have y : h 160 9 = 0 := y; show 0 ≤ 0; omega⟩
  · skip
    refine ok_if (fun C2 => ?_) (fun C2 => ?_)
    · skip
      unfold qj_X13_rule_98
      exact ok_ret ⟨Y0, N0, K0, by omega, by omega, by omega, fun y => by have y : h 160 9 = 0 := y; show 0 ≤ 1; omega⟩
    · skip
      refine ok_if (fun C3 => ?_) (fun C3 => ?_)
      · skip
        unfold qj_X13_rule_98
        exact ok_ret ⟨Y0, N0, K0, by omega, by omega, by omega, fun y => by have y : h 160 9 = 0 := y; show 0 ≤ 1; omega⟩
      · skip
        refine ok_if (fun C4 => ?_) (fun C4 => ?_)
        · skip
          exact ok_ret ⟨Y0, N0, K0, by omega, by omega, by omega, fun y => by have y : h 160 9 = 0 := y; show 0 ≤ 2; omega⟩
        · skip
          refine ok_if (fun C5 => ?_) (fun C5 => ?_)
          · skip
            refine ok_if (fun C6 => ?_) (fun C6 => ?_)
            · skip
              unfold qj_X13_rule_121
              refine ok_mul (by omega) ?_; intro v80 e_v80
              refine ok_add (by omega) ?_; intro v81 e_v81
              exact ok_ret ⟨Y0, N0, K0, by omega, by omega, by omega, fun y => by have y : h 160 9 = 0 := y; show 0 ≤ v81; omega⟩
            · skip
              refine ok_rd (by omega) (gA_168 Y0.1) ?_; intro v105 e_v105 a_v105 b_v105
              have t_v105 : v105 = t 168 (a1).toNat := by rw [e_v105]; exact Y0.2.1 168 _ (nw_ar rfl _)
              refine ok_sv (vy_wrong hn Y0 (by omega) (by omega)) ?_; intro u107 P_u107
              obtain ⟨Y_u107, K_u107, x_u107⟩ := P_u107
              obtain ⟨k1_u107, k2_u107, k3_u107, k4_u107, k5_u107, k6_u107, k7_u107⟩ := K_u107.1
              have N_u107 : MI t u107 := mi_dead x_u107
              have K7 := ke_tr K0 K_u107
              unfold qj_X13_rule_121
              refine ok_mul (by omega) ?_; intro v80 e_v80
              refine ok_add (by omega) ?_; intro v81 e_v81
              exact ok_ret ⟨Y_u107, N_u107, K7, by omega, by omega, by omega, fun y => by have y : u107 160 9 = 0 := y; show 0 ≤ v81; omega⟩
          · skip
            refine ok_if (fun C8 => ?_) (fun C8 => ?_)
            · skip
              refine ok_sv (vy_named hn S Y0 N0 (by omega) (by omega)) ?_; intro u110 P_u110
              obtain ⟨Y_u110, N_u110, K_u110, r1_u110, r2_u110, r3_u110, r4_u110⟩ := P_u110
              obtain ⟨k1_u110, k2_u110, k3_u110, k4_u110, k5_u110, k6_u110, k7_u110⟩ := K_u110.1
              have K9 := ke_tr K0 K_u110
              exact ok_ret ⟨Y_u110, N_u110, K9, by omega, by omega, by omega, fun y => by have y : u110.2 160 9 = 0 := y; show 0 ≤ u110.1; omega⟩
            · skip
              refine ok_if (fun C10 => ?_) (fun C10 => ?_)
              · skip
                refine ok_rd (by omega) (gA_168 Y0.1) ?_; intro v114 e_v114 a_v114 b_v114
                have t_v114 : v114 = t 168 (a1).toNat := by rw [e_v114]; exact Y0.2.1 168 _ (nw_ar rfl _)
                refine ok_sv (vy_memberOf hn Y0 S (by omega) (by omega)) ?_; intro u116 P_u116
                refine ok_wA (by omega) ?_; intro h117 E_h117
                obtain ⟨Y_h117, K_h117⟩ := yi_175 Y0 (by omega) (by omega) E_h117
                obtain ⟨k1_h117, k2_h117, k3_h117, k4_h117, k5_h117, k6_h117, k7_h117⟩ := K_h117.1
                have s_h117 : h117 175 (a1).toNat = u116 := by rw [E_h117]; exact up_s
                have K11 := ke_tr K0 K_h117
                refine ok_rd (by omega) (gA_175 Y_h117.1) ?_; intro v119 e_v119 a_v119 b_v119
                refine ok_if (fun C12 => ?_) (fun C12 => ?_)
                · skip
                  have N_h117 := mi_175 N0 E_h117 (by omega)
                  refine ok_if (fun C13 => ?_) (fun C13 => ?_)
                  · skip
                    unfold qj_X13_rule_216
                    refine ok_rd (by omega) (gA_175 Y_h117.1) ?_; intro v76 e_v76 a_v76 b_v76
                    have y4 := (te_k26 T (by omega)).1
                    refine ok_sv (G.2.2.2.2.2.2 a1 v76 1 _ _ _ h117 Y_h117 N_h117 ((te_k26 T (by omega)).2) (by omega) (by omega) (by omega) (by omega) (by omega) (by omega) (by omega) (by omega)) ?_; intro u78 P_u78
                    obtain ⟨Y_u78, N_u78, K_u78, r1_u78, r2_u78, r3_u78, r4_u78⟩ := P_u78
                    obtain ⟨k1_u78, k2_u78, k3_u78, k4_u78, k5_u78, k6_u78, k7_u78⟩ := K_u78.1
                    have K14 := ke_tr K11 K_u78
                    exact ok_ret ⟨Y_u78, N_u78, K14, by omega, by omega, by omega, fun y => by have y : u78.2 160 9 = 0 := y; show 0 ≤ u78.1; omega⟩
                  · skip
                    refine ok_rd (by omega) (gA_175 Y_h117.1) ?_; intro v123 e_v123 a_v123 b_v123
                    refine ok_rd (by omega) (gA_182 Y_h117.1) ?_; intro v124 e_v124 a_v124 b_v124
                    have t_v124 : v124 = t 182 (v123).toNat := by rw [e_v124]; exact Y_h117.2.1 182 _ (nw_ar rfl _)
                    refine ok_if (fun C15 => ?_) (fun C15 => ?_)
                    · skip
                      unfold qj_X13_rule_216
                      refine ok_rd (by omega) (gA_175 Y_h117.1) ?_; intro v76 e_v76 a_v76 b_v76
                      have y4 := (te_k26 T (by omega)).1
                      refine ok_sv (G.2.2.2.2.2.2 a1 v76 1 _ _ _ h117 Y_h117 N_h117 ((te_k26 T (by omega)).2) (by omega) (by omega) (by omega) (by omega) (by omega) (by omega) (by omega) (by omega)) ?_; intro u78 P_u78
                      obtain ⟨Y_u78, N_u78, K_u78, r1_u78, r2_u78, r3_u78, r4_u78⟩ := P_u78
                      obtain ⟨k1_u78, k2_u78, k3_u78, k4_u78, k5_u78, k6_u78, k7_u78⟩ := K_u78.1
                      have K16 := ke_tr K11 K_u78
                      exact ok_ret ⟨Y_u78, N_u78, K16, by omega, by omega, by omega, fun y => by have y : u78.2 160 9 = 0 := y; show 0 ≤ u78.1; omega⟩
                    · skip
                      refine ok_rd (by omega) (gA_168 Y_h117.1) ?_; intro v126 e_v126 a_v126 b_v126
                      have t_v126 : v126 = t 168 (a1).toNat := by rw [e_v126]; exact Y_h117.2.1 168 _ (nw_ar rfl _)
                      have d_v126 : v114 = v126 := by rw [t_v126, t_v114]
                      subst d_v126
                      refine ok_sv (vy_wrong hn Y_h117 (by omega) (by omega)) ?_; intro u128 P_u128
                      obtain ⟨Y_u128, K_u128, x_u128⟩ := P_u128
                      obtain ⟨k1_u128, k2_u128, k3_u128, k4_u128, k5_u128, k6_u128, k7_u128⟩ := K_u128.1
                      have N_u128 : MI t u128 := mi_dead x_u128
                      have K17 := ke_tr K11 K_u128
                      unfold qj_X13_rule_216
                      refine ok_rd (by omega) (gA_175 Y_u128.1) ?_; intro v76 e_v76 a_v76 b_v76
                      have y4 := (te_k26 T (by omega)).1
                      refine ok_sv (G.2.2.2.2.2.2 a1 v76 1 _ _ _ u128 Y_u128 N_u128 ((te_k26 T (by omega)).2) (by omega) (by omega) (by omega) (by omega) (by omega) (by omega) (by omega) (by omega)) ?_; intro u78 P_u78
                      obtain ⟨Y_u78, N_u78, K_u78, r1_u78, r2_u78, r3_u78, r4_u78⟩ := P_u78
                      obtain ⟨k1_u78, k2_u78, k3_u78, k4_u78, k5_u78, k6_u78, k7_u78⟩ := K_u78.1
                      have K18 := ke_tr K17 K_u78
                      exact ok_ret ⟨Y_u78, N_u78, K18, by omega, by omega, by omega, fun y => by have y : u78.2 160 9 = 0 := y; show 0 ≤ u78.1; omega⟩
                · skip
                  refine ok_rd (by omega) (gA_168 Y_h117.1) ?_; intro v132 e_v132 a_v132 b_v132
                  have t_v132 : v132 = t 168 (a1).toNat := by rw [e_v132]; exact Y_h117.2.1 168 _ (nw_ar rfl _)
                  have d_v132 : v114 = v132 := by rw [t_v132, t_v114]
                  subst d_v132
                  refine ok_sv (vy_wrong hn Y_h117 (by omega) (by omega)) ?_; intro u134 P_u134
                  obtain ⟨Y_u134, K_u134, x_u134⟩ := P_u134
                  obtain ⟨k1_u134, k2_u134, k3_u134, k4_u134, k5_u134, k6_u134, k7_u134⟩ := K_u134.1
                  have N_u134 : MI t u134 := mi_dead x_u134
                  have K19 := ke_tr K11 K_u134
                  unfold qj_X13_rule_216
                  refine ok_rd (by omega) (gA_175 Y_u134.1) ?_; intro v76 e_v76 a_v76 b_v76
                  have y4 := (te_k26 T (by omega)).1
                  refine ok_sv (G.2.2.2.2.2.2 a1 v76 1 _ _ _ u134 Y_u134 N_u134 ((te_k26 T (by omega)).2) (by omega) (by omega) (by omega) (by omega) (by omega) (by omega) (by omega) (by omega)) ?_; intro u78 P_u78
                  obtain ⟨Y_u78, N_u78, K_u78, r1_u78, r2_u78, r3_u78, r4_u78⟩ := P_u78
                  obtain ⟨k1_u78, k2_u78, k3_u78, k4_u78, k5_u78, k6_u78, k7_u78⟩ := K_u78.1
                  have K20 := ke_tr K19 K_u78
                  exact ok_ret ⟨Y_u78, N_u78, K20, by omega, by omega, by omega, fun y => by have y : u78.2 160 9 = 0 := y; show 0 ≤ u78.1; omega⟩
              · skip
                refine ok_if (fun C21 => ?_) (fun C21 => ?_)
                · skip
                  refine ok_rd (by omega) (gA_168 Y0.1) ?_; intro v137 e_v137 a_v137 b_v137
                  have t_v137 : v137 = t 168 (a1).toNat := by rw [e_v137]; exact Y0.2.1 168 _ (nw_ar rfl _)
                  refine ok_sv (vy_classOf hn Y0 S (by omega)) ?_; intro u139 P_u139
                  refine ok_if (fun C22 => ?_) (fun C22 => ?_)
                  · skip
                    unfold qj_X13_rule_256
                    refine ok_mul (by omega) ?_; intro v73 e_v73
                    refine ok_add (by omega) ?_; intro v74 e_v74
                    exact ok_ret ⟨Y0, N0, K0, by omega, by omega, by omega, fun y => by have y : h 160 9 = 0 := y; show 0 ≤ v74; omega⟩
                  · skip
                    refine ok_rd (by omega) (gA_168 Y0.1) ?_; intro v141 e_v141 a_v141 b_v141
                    have t_v141 : v141 = t 168 (a1).toNat := by rw [e_v141]; exact Y0.2.1 168 _ (nw_ar rfl _)
                    have d_v141 : v137 = v141 := by rw [t_v141, t_v137]
                    subst d_v141
                    refine ok_sv (vy_wrong hn Y0 (by omega) (by omega)) ?_; intro u143 P_u143
                    obtain ⟨Y_u143, K_u143, x_u143⟩ := P_u143
                    obtain ⟨k1_u143, k2_u143, k3_u143, k4_u143, k5_u143, k6_u143, k7_u143⟩ := K_u143.1
                    have N_u143 : MI t u143 := mi_dead x_u143
                    have K23 := ke_tr K0 K_u143
                    unfold qj_X13_rule_256
                    refine ok_mul (by omega) ?_; intro v73 e_v73
                    refine ok_add (by omega) ?_; intro v74 e_v74
                    exact ok_ret ⟨Y_u143, N_u143, K23, by omega, by omega, by omega, fun y => by have y : u143 160 9 = 0 := y; show 0 ≤ v74; omega⟩
                · skip
                  refine ok_if (fun C24 => ?_) (fun C24 => ?_)
                  · skip
                    refine ok_rd (by omega) (gA_170 Y0.1) ?_; intro v146 e_v146 a_v146 b_v146
                    have t_v146 : v146 = t 170 (a1).toNat := by rw [e_v146]; exact Y0.2.1 170 _ (nw_ar rfl _)
                    have c25 : TE 1 t 0 (d - 2 - 1) (a1 + 1) b v146 := by rw [t_v146]; exact (te_k28 T (by omega)).2
                    have rc25 := te_rg c25
                    refine ok_sv (G.2.1 v146 _ _ _ h Y0 N0 c25 (by omega) (by omega) (by omega)) ?_; intro u148 P_u148
                    obtain ⟨Y_u148, N_u148, K_u148, r1_u148, r2_u148, r3_u148, r4_u148⟩ := P_u148
                    obtain ⟨k1_u148, k2_u148, k3_u148, k4_u148, k5_u148, k6_u148, k7_u148⟩ := K_u148.1
                    have K26 := ke_tr K0 K_u148
                    refine ok_if (fun C27 => ?_) (fun C27 => ?_)
                    · skip
                      exact ok_ret ⟨Y_u148, N_u148, K26, by omega, by omega, by omega, fun y => by have y : u148.2 160 9 = 0 := y; show 0 ≤ 4; omega⟩
                    · skip
                      refine ok_rd (by omega) (gA_168 Y_u148.1) ?_; intro v150 e_v150 a_v150 b_v150
                      have t_v150 : v150 = t 168 (a1).toNat := by rw [e_v150]; exact Y_u148.2.1 168 _ (nw_ar rfl _)
                      refine ok_sv (vy_wrong hn Y_u148 (by omega) (by omega)) ?_; intro u152 P_u152
                      obtain ⟨Y_u152, K_u152, x_u152⟩ := P_u152
                      obtain ⟨k1_u152, k2_u152, k3_u152, k4_u152, k5_u152, k6_u152, k7_u152⟩ := K_u152.1
                      have N_u152 : MI t u152 := mi_dead x_u152
                      have K28 := ke_tr K26 K_u152
                      exact ok_ret ⟨Y_u152, N_u152, K28, by omega, by omega, by omega, fun y => by have y : u152 160 9 = 0 := y; show 0 ≤ 4; omega⟩
                  · skip
                    refine ok_if (fun C29 => ?_) (fun C29 => ?_)
                    · skip
                      refine ok_rd (by omega) (gA_168 Y0.1) ?_; intro v155 e_v155 a_v155 b_v155
                      have t_v155 : v155 = t 168 (a1).toNat := by rw [e_v155]; exact Y0.2.1 168 _ (nw_ar rfl _)
                      refine ok_sv (vy_classOf hn Y0 S (by omega)) ?_; intro u157 P_u157
                      refine ok_if (fun C30 => ?_) (fun C30 => ?_)
                      · skip
                        unfold qj_X13_rule_317
                        refine ok_rd (by omega) (gA_170 Y0.1) ?_; intro v65 e_v65 a_v65 b_v65
                        have t_v65 : v65 = t 170 (a1).toNat := by rw [e_v65]; exact Y0.2.1 170 _ (nw_ar rfl _)
                        have c31 : TE 1 t 0 (d - 2 - 1) (a1 + 1) b v65 := by rw [t_v65]; exact (te_k28 T (by omega)).2
                        have rc31 := te_rg c31
                        refine ok_sv (G.2.1 v65 _ _ _ h Y0 N0 c31 (by omega) (by omega) (by omega)) ?_; intro u67 P_u67
                        obtain ⟨Y_u67, N_u67, K_u67, r1_u67, r2_u67, r3_u67, r4_u67⟩ := P_u67
                        obtain ⟨k1_u67, k2_u67, k3_u67, k4_u67, k5_u67, k6_u67, k7_u67⟩ := K_u67.1
                        have K32 := ke_tr K0 K_u67
                        refine ok_if (fun C33 => ?_) (fun C33 => ?_)
                        · skip
                          unfold qj_X13_rule_342
                          refine ok_mul (by omega) ?_; intro v61 e_v61
                          refine ok_add (by omega) ?_; intro v62 e_v62
                          refine ok_add (by omega) ?_; intro v63 e_v63
                          exact ok_ret ⟨Y_u67, N_u67, K32, by omega, by omega, by omega, fun y => by have y : u67.2 160 9 = 0 := y; show 0 ≤ v63; omega⟩
                        · skip
                          refine ok_rd (by omega) (gA_172 Y_u67.1) ?_; intro v69 e_v69 a_v69 b_v69
                          have t_v69 : v69 = t 172 (a1).toNat := by rw [e_v69]; exact Y_u67.2.1 172 _ (nw_ar rfl _)
                          have q_v69 := (te_k28 T (by omega)).1
                          refine ok_sv (vy_wrong hn Y_u67 (by omega) (by omega)) ?_; intro u71 P_u71
                          obtain ⟨Y_u71, K_u71, x_u71⟩ := P_u71
                          obtain ⟨k1_u71, k2_u71, k3_u71, k4_u71, k5_u71, k6_u71, k7_u71⟩ := K_u71.1
                          have N_u71 : MI t u71 := mi_dead x_u71
                          have K34 := ke_tr K32 K_u71
                          unfold qj_X13_rule_342
                          refine ok_mul (by omega) ?_; intro v61 e_v61
                          refine ok_add (by omega) ?_; intro v62 e_v62
                          refine ok_add (by omega) ?_; intro v63 e_v63
                          exact ok_ret ⟨Y_u71, N_u71, K34, by omega, by omega, by omega, fun y => by have y : u71 160 9 = 0 := y; show 0 ≤ v63; omega⟩
                      · skip
                        refine ok_rd (by omega) (gA_168 Y0.1) ?_; intro v159 e_v159 a_v159 b_v159
                        have t_v159 : v159 = t 168 (a1).toNat := by rw [e_v159]; exact Y0.2.1 168 _ (nw_ar rfl _)
                        have d_v159 : v155 = v159 := by rw [t_v159, t_v155]
                        subst d_v159
                        refine ok_sv (vy_wrong hn Y0 (by omega) (by omega)) ?_; intro u161 P_u161
                        obtain ⟨Y_u161, K_u161, x_u161⟩ := P_u161
                        obtain ⟨k1_u161, k2_u161, k3_u161, k4_u161, k5_u161, k6_u161, k7_u161⟩ := K_u161.1
                        have N_u161 : MI t u161 := mi_dead x_u161
                        have K35 := ke_tr K0 K_u161
                        unfold qj_X13_rule_317
                        refine ok_rd (by omega) (gA_170 Y_u161.1) ?_; intro v65 e_v65 a_v65 b_v65
                        have t_v65 : v65 = t 170 (a1).toNat := by rw [e_v65]; exact Y_u161.2.1 170 _ (nw_ar rfl _)
                        have c36 : TE 1 t 0 (d - 2 - 1) (a1 + 1) b v65 := by rw [t_v65]; exact (te_k28 T (by omega)).2
                        have rc36 := te_rg c36
                        refine ok_sv (G.2.1 v65 _ _ _ u161 Y_u161 N_u161 c36 (by omega) (by omega) (by omega)) ?_; intro u67 P_u67
                        obtain ⟨Y_u67, N_u67, K_u67, r1_u67, r2_u67, r3_u67, r4_u67⟩ := P_u67
                        obtain ⟨k1_u67, k2_u67, k3_u67, k4_u67, k5_u67, k6_u67, k7_u67⟩ := K_u67.1
                        have K37 := ke_tr K35 K_u67
                        refine ok_if (fun C38 => ?_) (fun C38 => ?_)
                        · skip
                          unfold qj_X13_rule_342
                          refine ok_mul (by omega) ?_; intro v61 e_v61
                          refine ok_add (by omega) ?_; intro v62 e_v62
                          refine ok_add (by omega) ?_; intro v63 e_v63
                          exact ok_ret ⟨Y_u67, N_u67, K37, by omega, by omega, by omega, fun y => by have y : u67.2 160 9 = 0 := y; show 0 ≤ v63; omega⟩
                        · skip
                          refine ok_rd (by omega) (gA_172 Y_u67.1) ?_; intro v69 e_v69 a_v69 b_v69
                          have t_v69 : v69 = t 172 (a1).toNat := by rw [e_v69]; exact Y_u67.2.1 172 _ (nw_ar rfl _)
                          have q_v69 := (te_k28 T (by omega)).1
                          refine ok_sv (vy_wrong hn Y_u67 (by omega) (by omega)) ?_; intro u71 P_u71
                          obtain ⟨Y_u71, K_u71, x_u71⟩ := P_u71
                          obtain ⟨k1_u71, k2_u71, k3_u71, k4_u71, k5_u71, k6_u71, k7_u71⟩ := K_u71.1
                          have N_u71 : MI t u71 := mi_dead x_u71
                          have K39 := ke_tr K37 K_u71
                          unfold qj_X13_rule_342
                          refine ok_mul (by omega) ?_; intro v61 e_v61
                          refine ok_add (by omega) ?_; intro v62 e_v62
                          refine ok_add (by omega) ?_; intro v63 e_v63
                          exact ok_ret ⟨Y_u71, N_u71, K39, by omega, by omega, by omega, fun y => by have y : u71 160 9 = 0 := y; show 0 ≤ v63; omega⟩
                    · skip
                      refine ok_if (fun C40 => ?_) (fun C40 => ?_)
                      · skip
                        refine ok_sv (vy_field hn S Y0 N0 T (by omega) (by omega)) ?_; intro u164 P_u164
                        obtain ⟨Y_u164, N_u164, K_u164, r1_u164, r2_u164, r3_u164, r4_u164⟩ := P_u164
                        obtain ⟨k1_u164, k2_u164, k3_u164, k4_u164, k5_u164, k6_u164, k7_u164⟩ := K_u164.1
                        have K41 := ke_tr K0 K_u164
                        exact ok_ret ⟨Y_u164, N_u164, K41, by omega, by omega, by omega, fun y => by have y : u164.2 160 9 = 0 := y; show 0 ≤ u164.1; omega⟩
                      · skip
                        refine ok_if (fun C42 => ?_) (fun C42 => ?_)
                        · skip
                          refine ok_sv (G.2.2.2.2.2.1 a1 _ _ _ h Y0 N0 T (by omega) (by omega) (by omega) (by omega)) ?_; intro u166 P_u166
                          obtain ⟨Y_u166, N_u166, K_u166, r1_u166, r2_u166, r3_u166, r4_u166⟩ := P_u166
                          obtain ⟨k1_u166, k2_u166, k3_u166, k4_u166, k5_u166, k6_u166, k7_u166⟩ := K_u166.1
                          have K43 := ke_tr K0 K_u166
                          exact ok_ret ⟨Y_u166, N_u166, K43, by omega, by omega, by omega, fun y => by have y : u166.2 160 9 = 0 := y; show 0 ≤ u166.1; omega⟩
                        · skip
                          refine ok_if (fun C44 => ?_) (fun C44 => ?_)
                          · skip
                            refine ok_sv (vy_led hn S Y0 N0 T (by omega) (by omega)) ?_; intro u168 P_u168
                            have p5_u168 := P_u168.2; replace P_u168 := P_u168.1
                            obtain ⟨Y_u168, N_u168, K_u168, r1_u168, r2_u168, r3_u168, r4_u168⟩ := P_u168
                            obtain ⟨k1_u168, k2_u168, k3_u168, k4_u168, k5_u168, k6_u168, k7_u168⟩ := K_u168.1
                            have K45 := ke_tr K0 K_u168
                            refine ok_rd (by omega) (gA_171 Y_u168.1) ?_; intro v170 e_v170 a_v170 b_v170
                            have t_v170 : v170 = t 171 (a1).toNat := by rw [e_v170]; exact Y_u168.2.1 171 _ (nw_ar rfl _)
                            have c46 : TE 1 t 0 (d - 3) (a1 + 1) b v170 := by rw [t_v170]; exact (te_k37 T (by omega)).2
                            have rc46 := te_rg c46
                            refine ok_sv (G.2.1 v170 _ _ _ u168.2 Y_u168 N_u168 c46 (by omega) (by omega) (by omega)) ?_; intro u172 P_u172
                            obtain ⟨Y_u172, N_u172, K_u172, r1_u172, r2_u172, r3_u172, r4_u172⟩ := P_u172
                            obtain ⟨k1_u172, k2_u172, k3_u172, k4_u172, k5_u172, k6_u172, k7_u172⟩ := K_u172.1
                            have K47 := ke_tr K45 K_u172
                            refine ok_sv vy_isArray ?_; intro u173 P_u173
                            refine ok_if (fun C48 => ?_) (fun C48 => ?_)
                            · skip
                              unfold qj_X13_rule_391
                              refine ok_rd (by omega) (gA_168 Y_u172.1) ?_; intro v58 e_v58 a_v58 b_v58
                              have t_v58 : v58 = t 168 (a1).toNat := by rw [e_v58]; exact Y_u172.2.1 168 _ (nw_ar rfl _)
                              refine ok_sv (vy_wrong hn Y_u172 (by omega) (by omega)) ?_; intro u60 P_u60
                              obtain ⟨Y_u60, K_u60, x_u60⟩ := P_u60
                              obtain ⟨k1_u60, k2_u60, k3_u60, k4_u60, k5_u60, k6_u60, k7_u60⟩ := K_u60.1
                              have N_u60 : MI t u60 := mi_dead x_u60
                              have K49 := ke_tr K47 K_u60
                              unfold qj_X13_rule_403
                              refine ok_if (fun C50 => ?_) (fun C50 => ?_)
                              · skip
                                refine ok_sub (by omega) ?_; intro v55 e_v55
                                exact ok_ret ⟨Y_u60, N_u60, K49, by omega, by omega, by omega, fun y => by have y : u60 160 9 = 0 := y; show 0 ≤ v55; omega⟩
                              · skip
                                exact ok_ret ⟨Y_u60, N_u60, K49, by omega, by omega, by omega, fun y => by have y : u60 160 9 = 0 := y; show 0 ≤ 0; omega⟩
                            · skip
                              refine ok_if (fun C51 => ?_) (fun C51 => ?_)
                              · skip
                                unfold qj_X13_rule_403
                                refine ok_if (fun C52 => ?_) (fun C52 => ?_)
                                · skip
                                  refine ok_sub (by omega) ?_; intro v55 e_v55
                                  exact ok_ret ⟨Y_u172, N_u172, K47, by omega, by omega, by omega, fun y => by have y : u172.2 160 9 = 0 := y; show 0 ≤ v55; omega⟩
                                · skip
                                  exact ok_ret ⟨Y_u172, N_u172, K47, by omega, by omega, by omega, fun y => by have y : u172.2 160 9 = 0 := y; show 0 ≤ 0; omega⟩
                              · skip
                                unfold qj_X13_rule_391
                                refine ok_rd (by omega) (gA_168 Y_u172.1) ?_; intro v58 e_v58 a_v58 b_v58
                                have t_v58 : v58 = t 168 (a1).toNat := by rw [e_v58]; exact Y_u172.2.1 168 _ (nw_ar rfl _)
                                refine ok_sv (vy_wrong hn Y_u172 (by omega) (by omega)) ?_; intro u60 P_u60
                                obtain ⟨Y_u60, K_u60, x_u60⟩ := P_u60
                                obtain ⟨k1_u60, k2_u60, k3_u60, k4_u60, k5_u60, k6_u60, k7_u60⟩ := K_u60.1
                                have N_u60 : MI t u60 := mi_dead x_u60
                                have K53 := ke_tr K47 K_u60
                                unfold qj_X13_rule_403
                                refine ok_if (fun C54 => ?_) (fun C54 => ?_)
                                · skip
                                  refine ok_sub (by omega) ?_; intro v55 e_v55
                                  exact ok_ret ⟨Y_u60, N_u60, K53, by omega, by omega, by omega, fun y => by have y : u60 160 9 = 0 := y; show 0 ≤ v55; omega⟩
                                · skip
                                  exact ok_ret ⟨Y_u60, N_u60, K53, by omega, by omega, by omega, fun y => by have y : u60 160 9 = 0 := y; show 0 ≤ 0; omega⟩
                          · skip
                            refine ok_if (fun C55 => ?_) (fun C55 => ?_)
                            · skip
                              unfold qj_X13_rule_416
                              refine ok_rd (by omega) (gA_170 Y0.1) ?_; intro v47 e_v47 a_v47 b_v47
                              have t_v47 : v47 = t 170 (a1).toNat := by rw [e_v47]; exact Y0.2.1 170 _ (nw_ar rfl _)
                              have c56 : TE 1 t 0 (d - 2 - 2 * 1) (a1 + 1) b v47 := by rw [t_v47]; exact te_k33 T (by omega)
                              have rc56 := te_rg c56
                              refine ok_sv (G.2.1 v47 _ _ _ h Y0 N0 c56 (by omega) (by omega) (by omega)) ?_; intro u49 P_u49
                              obtain ⟨Y_u49, N_u49, K_u49, r1_u49, r2_u49, r3_u49, r4_u49⟩ := P_u49
                              obtain ⟨k1_u49, k2_u49, k3_u49, k4_u49, k5_u49, k6_u49, k7_u49⟩ := K_u49.1
                              have K57 := ke_tr K0 K_u49
                              refine ok_if (fun C58 => ?_) (fun C58 => ?_)
                              · skip
                                exact ok_ret ⟨Y_u49, N_u49, K57, by omega, by omega, by omega, fun y => by have y : u49.2 160 9 = 0 := y; show 0 ≤ 0; omega⟩
                              · skip
                                refine ok_rd (by omega) (gA_168 Y_u49.1) ?_; intro v51 e_v51 a_v51 b_v51
                                have t_v51 : v51 = t 168 (a1).toNat := by rw [e_v51]; exact Y_u49.2.1 168 _ (nw_ar rfl _)
                                refine ok_sv (vy_wrong hn Y_u49 (by omega) (by omega)) ?_; intro u53 P_u53
                                obtain ⟨Y_u53, K_u53, x_u53⟩ := P_u53
                                obtain ⟨k1_u53, k2_u53, k3_u53, k4_u53, k5_u53, k6_u53, k7_u53⟩ := K_u53.1
                                have N_u53 : MI t u53 := mi_dead x_u53
                                have K59 := ke_tr K57 K_u53
                                exact ok_ret ⟨Y_u53, N_u53, K59, by omega, by omega, by omega, fun y => by have y : u53 160 9 = 0 := y; show 0 ≤ 0; omega⟩
                            · skip
                              refine ok_if (fun C60 => ?_) (fun C60 => ?_)
                              · skip
                                refine ok_rd (by omega) (gA_170 Y0.1) ?_; intro v177 e_v177 a_v177 b_v177
                                have t_v177 : v177 = t 170 (a1).toNat := by rw [e_v177]; exact Y0.2.1 170 _ (nw_ar rfl _)
                                have c61 : TE 1 t 0 (d - 2 - 2 * 1) (a1 + 1) b v177 := by rw [t_v177]; exact te_k33 T (by omega)
                                have rc61 := te_rg c61
                                refine ok_sv (G.1 v177 _ _ _ h Y0 N0 c61 (by omega) (by omega) (by omega)) ?_; intro u179 P_u179
                                obtain ⟨Y_u179, N_u179, K_u179⟩ := P_u179
                                obtain ⟨k1_u179, k2_u179, k3_u179, k4_u179, k5_u179, k6_u179, k7_u179⟩ := K_u179.1
                                have K62 := ke_tr K0 K_u179
                                exact ok_ret ⟨Y_u179, N_u179, K62, by omega, by omega, by omega, fun y => by have y : u179 160 9 = 0 := y; show 0 ≤ 1; omega⟩
                              · skip
                                refine ok_if (fun C63 => ?_) (fun C63 => ?_)
                                · skip
                                  unfold qj_X13_rule_416
                                  refine ok_rd (by omega) (gA_170 Y0.1) ?_; intro v47 e_v47 a_v47 b_v47
                                  have t_v47 : v47 = t 170 (a1).toNat := by rw [e_v47]; exact Y0.2.1 170 _ (nw_ar rfl _)
                                  have c64 : TE 1 t 0 (d - 2 - 2 * 1) (a1 + 1) b v47 := by rw [t_v47]; exact te_k33 T (by omega)
                                  have rc64 := te_rg c64
                                  refine ok_sv (G.2.1 v47 _ _ _ h Y0 N0 c64 (by omega) (by omega) (by omega)) ?_; intro u49 P_u49
                                  obtain ⟨Y_u49, N_u49, K_u49, r1_u49, r2_u49, r3_u49, r4_u49⟩ := P_u49
                                  obtain ⟨k1_u49, k2_u49, k3_u49, k4_u49, k5_u49, k6_u49, k7_u49⟩ := K_u49.1
                                  have K65 := ke_tr K0 K_u49
                                  refine ok_if (fun C66 => ?_) (fun C66 => ?_)
                                  · skip
                                    exact ok_ret ⟨Y_u49, N_u49, K65, by omega, by omega, by omega, fun y => by have y : u49.2 160 9 = 0 := y; show 0 ≤ 0; omega⟩
                                  · skip
                                    refine ok_rd (by omega) (gA_168 Y_u49.1) ?_; intro v51 e_v51 a_v51 b_v51
                                    have t_v51 : v51 = t 168 (a1).toNat := by rw [e_v51]; exact Y_u49.2.1 168 _ (nw_ar rfl _)
                                    refine ok_sv (vy_wrong hn Y_u49 (by omega) (by omega)) ?_; intro u53 P_u53
                                    obtain ⟨Y_u53, K_u53, x_u53⟩ := P_u53
                                    obtain ⟨k1_u53, k2_u53, k3_u53, k4_u53, k5_u53, k6_u53, k7_u53⟩ := K_u53.1
                                    have N_u53 : MI t u53 := mi_dead x_u53
                                    have K67 := ke_tr K65 K_u53
                                    exact ok_ret ⟨Y_u53, N_u53, K67, by omega, by omega, by omega, fun y => by have y : u53 160 9 = 0 := y; show 0 ≤ 0; omega⟩
                                · skip
                                  refine ok_if (fun C68 => ?_) (fun C68 => ?_)
                                  · skip
                                    unfold qj_X13_rule_455
                                    refine ok_rd (by omega) (gA_168 Y0.1) ?_; intro v35 e_v35 a_v35 b_v35
                                    have t_v35 : v35 = t 168 (a1).toNat := by rw [e_v35]; exact Y0.2.1 168 _ (nw_ar rfl _)
                                    refine ok_sv (vy_classOf hn Y0 S (by omega)) ?_; intro u37 P_u37
                                    refine ok_if (fun C69 => ?_) (fun C69 => ?_)
                                    · skip
                                      unfold qj_X13_rule_493
                                      refine ok_rd (by omega) (gA_167 Y0.1) ?_; intro v26 e_v26 a_v26 b_v26
                                      have t_v26 : v26 = t 167 (a1).toNat := by rw [e_v26]; exact Y0.2.1 167 _ (nw_ar rfl _)
                                      have d_v26 : v83 = v26 := by rw [t_v26, t_v83]
                                      subst d_v26
                                      refine ok_if (fun C70 => ?_) (fun C70 => ?_)
                                      · skip
                                        refine ok_sv (vy_led hn S Y0 N0 T (by omega) (by omega)) ?_; intro u28 P_u28
                                        have p5_u28 := P_u28.2; replace P_u28 := P_u28.1
                                        obtain ⟨Y_u28, N_u28, K_u28, r1_u28, r2_u28, r3_u28, r4_u28⟩ := P_u28
                                        obtain ⟨k1_u28, k2_u28, k3_u28, k4_u28, k5_u28, k6_u28, k7_u28⟩ := K_u28.1
                                        have K71 := ke_tr K0 K_u28
                                        unfold qj_X13_rule_522
                                        refine ok_if (fun C72 => ?_) (fun C72 => ?_)
                                        · skip
                                          unfold qj_X13_rule_539
                                          refine ok_mul (by omega) ?_; intro v13 e_v13
                                          refine ok_add (by omega) ?_; intro v14 e_v14
                                          refine ok_sv vy_isThing ?_; intro u15 P_u15
                                          refine ok_if (fun C73 => ?_) (fun C73 => ?_)
                                          · skip
                                            unfold qj_X13_rule_562
                                            refine ok_rd (by omega) (gA_168 Y_u28.1) ?_; intro v10 e_v10 a_v10 b_v10
                                            have t_v10 : v10 = t 168 (a1).toNat := by rw [e_v10]; exact Y_u28.2.1 168 _ (nw_ar rfl _)
                                            have d_v10 : v35 = v10 := by rw [t_v10, t_v35]
                                            subst d_v10
                                            refine ok_sv (vy_wrong hn Y_u28 (by omega) (by omega)) ?_; intro u12 P_u12
                                            obtain ⟨Y_u12, K_u12, x_u12⟩ := P_u12
                                            obtain ⟨k1_u12, k2_u12, k3_u12, k4_u12, k5_u12, k6_u12, k7_u12⟩ := K_u12.1
                                            have N_u12 : MI t u12 := mi_dead x_u12
                                            have K74 := ke_tr K71 K_u12
                                            unfold qj_X13_rule_574
                                            refine ok_wA (by omega) ?_; intro h5 E_h5
                                            obtain ⟨Y_h5, K_h5⟩ := yi_176 Y_u12 (by omega) (by omega) (by omega) E_h5
                                            obtain ⟨k1_h5, k2_h5, k3_h5, k4_h5, k5_h5, k6_h5, k7_h5⟩ := K_h5.1
                                            have s_h5 : h5 176 (a1).toNat = v14 := by rw [E_h5]; exact up_s
                                            have N_h5 := mi_up N_u12 E_h5 (by decide)
                                            have K75 := ke_tr K74 K_h5
                                            refine ok_rd (by omega) (gA_167 Y_h5.1) ?_; intro v7 e_v7 a_v7 b_v7
                                            have t_v7 : v7 = t 167 (a1).toNat := by rw [e_v7]; exact Y_h5.2.1 167 _ (nw_ar rfl _)
                                            have d_v7 : v83 = v7 := by rw [t_v7, t_v83]
                                            subst d_v7
                                            refine ok_if (fun C76 => ?_) (fun C76 => ?_)
                                            · skip
                                              exact ok_ret ⟨Y_h5, N_h5, K75, by omega, by omega, by omega, fun y => by have y : h5 160 9 = 0 := y; show 0 ≤ v14; omega⟩
                                            · skip
                                              exfalso; omega
                                          · skip
                                            refine ok_sv (vy_goTogether hn Y_u28 S (by omega) (by omega)) ?_; intro u17 P_u17
                                            refine ok_if (fun C77 => ?_) (fun C77 => ?_)
                                            · skip
                                              unfold qj_X13_rule_574
                                              refine ok_wA (by omega) ?_; intro h5 E_h5
                                              obtain ⟨Y_h5, K_h5⟩ := yi_176 Y_u28 (by omega) (by omega) (by omega) E_h5
                                              obtain ⟨k1_h5, k2_h5, k3_h5, k4_h5, k5_h5, k6_h5, k7_h5⟩ := K_h5.1
                                              have s_h5 : h5 176 (a1).toNat = v14 := by rw [E_h5]; exact up_s
                                              have N_h5 := mi_up N_u28 E_h5 (by decide)
                                              have K78 := ke_tr K71 K_h5
                                              refine ok_rd (by omega) (gA_167 Y_h5.1) ?_; intro v7 e_v7 a_v7 b_v7
                                              have t_v7 : v7 = t 167 (a1).toNat := by rw [e_v7]; exact Y_h5.2.1 167 _ (nw_ar rfl _)
                                              have d_v7 : v83 = v7 := by rw [t_v7, t_v83]
                                              subst d_v7
                                              refine ok_if (fun C79 => ?_) (fun C79 => ?_)
                                              · skip
                                                exact ok_ret ⟨Y_h5, N_h5, K78, by omega, by omega, by omega, fun y => by have y : h5 160 9 = 0 := y; show 0 ≤ v14; omega⟩
                                              · skip
                                                exfalso; omega
                                            · skip
                                              unfold qj_X13_rule_562
                                              refine ok_rd (by omega) (gA_168 Y_u28.1) ?_; intro v10 e_v10 a_v10 b_v10
                                              have t_v10 : v10 = t 168 (a1).toNat := by rw [e_v10]; exact Y_u28.2.1 168 _ (nw_ar rfl _)
                                              have d_v10 : v35 = v10 := by rw [t_v10, t_v35]
                                              subst d_v10
                                              refine ok_sv (vy_wrong hn Y_u28 (by omega) (by omega)) ?_; intro u12 P_u12
                                              obtain ⟨Y_u12, K_u12, x_u12⟩ := P_u12
                                              obtain ⟨k1_u12, k2_u12, k3_u12, k4_u12, k5_u12, k6_u12, k7_u12⟩ := K_u12.1
                                              have N_u12 : MI t u12 := mi_dead x_u12
                                              have K80 := ke_tr K71 K_u12
                                              unfold qj_X13_rule_574
                                              refine ok_wA (by omega) ?_; intro h5 E_h5
                                              obtain ⟨Y_h5, K_h5⟩ := yi_176 Y_u12 (by omega) (by omega) (by omega) E_h5
                                              obtain ⟨k1_h5, k2_h5, k3_h5, k4_h5, k5_h5, k6_h5, k7_h5⟩ := K_h5.1
                                              have s_h5 : h5 176 (a1).toNat = v14 := by rw [E_h5]; exact up_s
                                              have N_h5 := mi_up N_u12 E_h5 (by decide)
                                              have K81 := ke_tr K80 K_h5
                                              refine ok_rd (by omega) (gA_167 Y_h5.1) ?_; intro v7 e_v7 a_v7 b_v7
                                              have t_v7 : v7 = t 167 (a1).toNat := by rw [e_v7]; exact Y_h5.2.1 167 _ (nw_ar rfl _)
                                              have d_v7 : v83 = v7 := by rw [t_v7, t_v83]
                                              subst d_v7
                                              refine ok_if (fun C82 => ?_) (fun C82 => ?_)
                                              · skip
                                                exact ok_ret ⟨Y_h5, N_h5, K81, by omega, by omega, by omega, fun y => by have y : h5 160 9 = 0 := y; show 0 ≤ v14; omega⟩
                                              · skip
                                                exfalso; omega
                                        · skip
                                          refine ok_rd (by omega) (gA_168 Y_u28.1) ?_; intro v21 e_v21 a_v21 b_v21
                                          have t_v21 : v21 = t 168 (a1).toNat := by rw [e_v21]; exact Y_u28.2.1 168 _ (nw_ar rfl _)
                                          have d_v21 : v35 = v21 := by rw [t_v21, t_v35]
                                          subst d_v21
                                          refine ok_sv (vy_wrong hn Y_u28 (by omega) (by omega)) ?_; intro u23 P_u23
                                          obtain ⟨Y_u23, K_u23, x_u23⟩ := P_u23
                                          obtain ⟨k1_u23, k2_u23, k3_u23, k4_u23, k5_u23, k6_u23, k7_u23⟩ := K_u23.1
                                          have N_u23 : MI t u23 := mi_dead x_u23
                                          have K83 := ke_tr K71 K_u23
                                          unfold qj_X13_rule_539
                                          refine ok_mul (by omega) ?_; intro v13 e_v13
                                          refine ok_add (by omega) ?_; intro v14 e_v14
                                          refine ok_sv vy_isThing ?_; intro u15 P_u15
                                          refine ok_if (fun C84 => ?_) (fun C84 => ?_)
                                          · skip
                                            unfold qj_X13_rule_562
                                            refine ok_rd (by omega) (gA_168 Y_u23.1) ?_; intro v10 e_v10 a_v10 b_v10
                                            have t_v10 : v10 = t 168 (a1).toNat := by rw [e_v10]; exact Y_u23.2.1 168 _ (nw_ar rfl _)
                                            have d_v10 : v35 = v10 := by rw [t_v10, t_v35]
                                            subst d_v10
                                            refine ok_sv (vy_wrong hn Y_u23 (by omega) (by omega)) ?_; intro u12 P_u12
                                            obtain ⟨Y_u12, K_u12, x_u12⟩ := P_u12
                                            obtain ⟨k1_u12, k2_u12, k3_u12, k4_u12, k5_u12, k6_u12, k7_u12⟩ := K_u12.1
                                            have N_u12 : MI t u12 := mi_dead x_u12
                                            have K85 := ke_tr K83 K_u12
                                            unfold qj_X13_rule_574
                                            refine ok_wA (by omega) ?_; intro h5 E_h5
                                            obtain ⟨Y_h5, K_h5⟩ := yi_176 Y_u12 (by omega) (by omega) (by omega) E_h5
                                            obtain ⟨k1_h5, k2_h5, k3_h5, k4_h5, k5_h5, k6_h5, k7_h5⟩ := K_h5.1
                                            have s_h5 : h5 176 (a1).toNat = v14 := by rw [E_h5]; exact up_s
                                            have N_h5 := mi_up N_u12 E_h5 (by decide)
                                            have K86 := ke_tr K85 K_h5
                                            refine ok_rd (by omega) (gA_167 Y_h5.1) ?_; intro v7 e_v7 a_v7 b_v7
                                            have t_v7 : v7 = t 167 (a1).toNat := by rw [e_v7]; exact Y_h5.2.1 167 _ (nw_ar rfl _)
                                            have d_v7 : v83 = v7 := by rw [t_v7, t_v83]
                                            subst d_v7
                                            refine ok_if (fun C87 => ?_) (fun C87 => ?_)
                                            · skip
                                              exact ok_ret ⟨Y_h5, N_h5, K86, by omega, by omega, by omega, fun y => by have y : h5 160 9 = 0 := y; show 0 ≤ v14; omega⟩
                                            · skip
                                              exfalso; omega
                                          · skip
                                            refine ok_sv (vy_goTogether hn Y_u23 S (by omega) (by omega)) ?_; intro u17 P_u17
                                            refine ok_if (fun C88 => ?_) (fun C88 => ?_)
                                            · skip
                                              unfold qj_X13_rule_574
                                              refine ok_wA (by omega) ?_; intro h5 E_h5
                                              obtain ⟨Y_h5, K_h5⟩ := yi_176 Y_u23 (by omega) (by omega) (by omega) E_h5
                                              obtain ⟨k1_h5, k2_h5, k3_h5, k4_h5, k5_h5, k6_h5, k7_h5⟩ := K_h5.1
                                              have s_h5 : h5 176 (a1).toNat = v14 := by rw [E_h5]; exact up_s
                                              have N_h5 := mi_up N_u23 E_h5 (by decide)
                                              have K89 := ke_tr K83 K_h5
                                              refine ok_rd (by omega) (gA_167 Y_h5.1) ?_; intro v7 e_v7 a_v7 b_v7
                                              have t_v7 : v7 = t 167 (a1).toNat := by rw [e_v7]; exact Y_h5.2.1 167 _ (nw_ar rfl _)
                                              have d_v7 : v83 = v7 := by rw [t_v7, t_v83]
                                              subst d_v7
                                              refine ok_if (fun C90 => ?_) (fun C90 => ?_)
                                              · skip
                                                exact ok_ret ⟨Y_h5, N_h5, K89, by omega, by omega, by omega, fun y => by have y : h5 160 9 = 0 := y; show 0 ≤ v14; omega⟩
                                              · skip
                                                exfalso; omega
                                            · skip
                                              unfold qj_X13_rule_562
                                              refine ok_rd (by omega) (gA_168 Y_u23.1) ?_; intro v10 e_v10 a_v10 b_v10
                                              have t_v10 : v10 = t 168 (a1).toNat := by rw [e_v10]; exact Y_u23.2.1 168 _ (nw_ar rfl _)
                                              have d_v10 : v35 = v10 := by rw [t_v10, t_v35]
                                              subst d_v10
                                              refine ok_sv (vy_wrong hn Y_u23 (by omega) (by omega)) ?_; intro u12 P_u12
                                              obtain ⟨Y_u12, K_u12, x_u12⟩ := P_u12
                                              obtain ⟨k1_u12, k2_u12, k3_u12, k4_u12, k5_u12, k6_u12, k7_u12⟩ := K_u12.1
                                              have N_u12 : MI t u12 := mi_dead x_u12
                                              have K91 := ke_tr K83 K_u12
                                              unfold qj_X13_rule_574
                                              refine ok_wA (by omega) ?_; intro h5 E_h5
                                              obtain ⟨Y_h5, K_h5⟩ := yi_176 Y_u12 (by omega) (by omega) (by omega) E_h5
                                              obtain ⟨k1_h5, k2_h5, k3_h5, k4_h5, k5_h5, k6_h5, k7_h5⟩ := K_h5.1
                                              have s_h5 : h5 176 (a1).toNat = v14 := by rw [E_h5]; exact up_s
                                              have N_h5 := mi_up N_u12 E_h5 (by decide)
                                              have K92 := ke_tr K91 K_h5
                                              refine ok_rd (by omega) (gA_167 Y_h5.1) ?_; intro v7 e_v7 a_v7 b_v7
                                              have t_v7 : v7 = t 167 (a1).toNat := by rw [e_v7]; exact Y_h5.2.1 167 _ (nw_ar rfl _)
                                              have d_v7 : v83 = v7 := by rw [t_v7, t_v83]
                                              subst d_v7
                                              refine ok_if (fun C93 => ?_) (fun C93 => ?_)
                                              · skip
                                                exact ok_ret ⟨Y_h5, N_h5, K92, by omega, by omega, by omega, fun y => by have y : h5 160 9 = 0 := y; show 0 ≤ v14; omega⟩
                                              · skip
                                                exfalso; omega
                                      · skip
                                        refine ok_rd (by omega) (gA_170 Y0.1) ?_; intro v30 e_v30 a_v30 b_v30
                                        have t_v30 : v30 = t 170 (a1).toNat := by rw [e_v30]; exact Y0.2.1 170 _ (nw_ar rfl _)
                                        have c94 : TE 1 t 0 (d - 2 - 2 * 1) (a1 + 1) b v30 := by rw [t_v30]; exact te_k33 T (by omega)
                                        have rc94 := te_rg c94
                                        refine ok_sv (G.2.1 v30 _ _ _ h Y0 N0 c94 (by omega) (by omega) (by omega)) ?_; intro u32 P_u32
                                        obtain ⟨Y_u32, N_u32, K_u32, r1_u32, r2_u32, r3_u32, r4_u32⟩ := P_u32
                                        obtain ⟨k1_u32, k2_u32, k3_u32, k4_u32, k5_u32, k6_u32, k7_u32⟩ := K_u32.1
                                        have K95 := ke_tr K0 K_u32
                                        unfold qj_X13_rule_522
                                        refine ok_if (fun C96 => ?_) (fun C96 => ?_)
                                        · skip
                                          unfold qj_X13_rule_539
                                          refine ok_mul (by omega) ?_; intro v13 e_v13
                                          refine ok_add (by omega) ?_; intro v14 e_v14
                                          refine ok_sv vy_isThing ?_; intro u15 P_u15
                                          refine ok_if (fun C97 => ?_) (fun C97 => ?_)
                                          · skip
                                            unfold qj_X13_rule_562
                                            refine ok_rd (by omega) (gA_168 Y_u32.1) ?_; intro v10 e_v10 a_v10 b_v10
                                            have t_v10 : v10 = t 168 (a1).toNat := by rw [e_v10]; exact Y_u32.2.1 168 _ (nw_ar rfl _)
                                            have d_v10 : v35 = v10 := by rw [t_v10, t_v35]
                                            subst d_v10
                                            refine ok_sv (vy_wrong hn Y_u32 (by omega) (by omega)) ?_; intro u12 P_u12
                                            obtain ⟨Y_u12, K_u12, x_u12⟩ := P_u12
                                            obtain ⟨k1_u12, k2_u12, k3_u12, k4_u12, k5_u12, k6_u12, k7_u12⟩ := K_u12.1
                                            have N_u12 : MI t u12 := mi_dead x_u12
                                            have K98 := ke_tr K95 K_u12
                                            unfold qj_X13_rule_574
                                            refine ok_wA (by omega) ?_; intro h5 E_h5
                                            obtain ⟨Y_h5, K_h5⟩ := yi_176 Y_u12 (by omega) (by omega) (by omega) E_h5
                                            obtain ⟨k1_h5, k2_h5, k3_h5, k4_h5, k5_h5, k6_h5, k7_h5⟩ := K_h5.1
                                            have s_h5 : h5 176 (a1).toNat = v14 := by rw [E_h5]; exact up_s
                                            have N_h5 := mi_up N_u12 E_h5 (by decide)
                                            have K99 := ke_tr K98 K_h5
                                            refine ok_rd (by omega) (gA_167 Y_h5.1) ?_; intro v7 e_v7 a_v7 b_v7
                                            have t_v7 : v7 = t 167 (a1).toNat := by rw [e_v7]; exact Y_h5.2.1 167 _ (nw_ar rfl _)
                                            have d_v7 : v83 = v7 := by rw [t_v7, t_v83]
                                            subst d_v7
                                            refine ok_if (fun C100 => ?_) (fun C100 => ?_)
                                            · skip
                                              exact ok_ret ⟨Y_h5, N_h5, K99, by omega, by omega, by omega, fun y => by have y : h5 160 9 = 0 := y; show 0 ≤ v14; omega⟩
                                            · skip
                                              exfalso; omega
                                          · skip
                                            refine ok_sv (vy_goTogether hn Y_u32 S (by omega) (by omega)) ?_; intro u17 P_u17
                                            refine ok_if (fun C101 => ?_) (fun C101 => ?_)
                                            · skip
                                              unfold qj_X13_rule_574
                                              refine ok_wA (by omega) ?_; intro h5 E_h5
                                              obtain ⟨Y_h5, K_h5⟩ := yi_176 Y_u32 (by omega) (by omega) (by omega) E_h5
                                              obtain ⟨k1_h5, k2_h5, k3_h5, k4_h5, k5_h5, k6_h5, k7_h5⟩ := K_h5.1
                                              have s_h5 : h5 176 (a1).toNat = v14 := by rw [E_h5]; exact up_s
                                              have N_h5 := mi_up N_u32 E_h5 (by decide)
                                              have K102 := ke_tr K95 K_h5
                                              refine ok_rd (by omega) (gA_167 Y_h5.1) ?_; intro v7 e_v7 a_v7 b_v7
                                              have t_v7 : v7 = t 167 (a1).toNat := by rw [e_v7]; exact Y_h5.2.1 167 _ (nw_ar rfl _)
                                              have d_v7 : v83 = v7 := by rw [t_v7, t_v83]
                                              subst d_v7
                                              refine ok_if (fun C103 => ?_) (fun C103 => ?_)
                                              · skip
                                                exact ok_ret ⟨Y_h5, N_h5, K102, by omega, by omega, by omega, fun y => by have y : h5 160 9 = 0 := y; show 0 ≤ v14; omega⟩
                                              · skip
                                                exfalso; omega
                                            · skip
                                              unfold qj_X13_rule_562
                                              refine ok_rd (by omega) (gA_168 Y_u32.1) ?_; intro v10 e_v10 a_v10 b_v10
                                              have t_v10 : v10 = t 168 (a1).toNat := by rw [e_v10]; exact Y_u32.2.1 168 _ (nw_ar rfl _)
                                              have d_v10 : v35 = v10 := by rw [t_v10, t_v35]
                                              subst d_v10
                                              refine ok_sv (vy_wrong hn Y_u32 (by omega) (by omega)) ?_; intro u12 P_u12
                                              obtain ⟨Y_u12, K_u12, x_u12⟩ := P_u12
                                              obtain ⟨k1_u12, k2_u12, k3_u12, k4_u12, k5_u12, k6_u12, k7_u12⟩ := K_u12.1
                                              have N_u12 : MI t u12 := mi_dead x_u12
                                              have K104 := ke_tr K95 K_u12
                                              unfold qj_X13_rule_574
                                              refine ok_wA (by omega) ?_; intro h5 E_h5
                                              obtain ⟨Y_h5, K_h5⟩ := yi_176 Y_u12 (by omega) (by omega) (by omega) E_h5
                                              obtain ⟨k1_h5, k2_h5, k3_h5, k4_h5, k5_h5, k6_h5, k7_h5⟩ := K_h5.1
                                              have s_h5 : h5 176 (a1).toNat = v14 := by rw [E_h5]; exact up_s
                                              have N_h5 := mi_up N_u12 E_h5 (by decide)
                                              have K105 := ke_tr K104 K_h5
                                              refine ok_rd (by omega) (gA_167 Y_h5.1) ?_; intro v7 e_v7 a_v7 b_v7
                                              have t_v7 : v7 = t 167 (a1).toNat := by rw [e_v7]; exact Y_h5.2.1 167 _ (nw_ar rfl _)
                                              have d_v7 : v83 = v7 := by rw [t_v7, t_v83]
                                              subst d_v7
                                              refine ok_if (fun C106 => ?_) (fun C106 => ?_)
                                              · skip
                                                exact ok_ret ⟨Y_h5, N_h5, K105, by omega, by omega, by omega, fun y => by have y : h5 160 9 = 0 := y; show 0 ≤ v14; omega⟩
                                              · skip
                                                exfalso; omega
                                        · skip
                                          refine ok_rd (by omega) (gA_168 Y_u32.1) ?_; intro v21 e_v21 a_v21 b_v21
                                          have t_v21 : v21 = t 168 (a1).toNat := by rw [e_v21]; exact Y_u32.2.1 168 _ (nw_ar rfl _)
                                          have d_v21 : v35 = v21 := by rw [t_v21, t_v35]
                                          subst d_v21
                                          refine ok_sv (vy_wrong hn Y_u32 (by omega) (by omega)) ?_; intro u23 P_u23
                                          obtain ⟨Y_u23, K_u23, x_u23⟩ := P_u23
                                          obtain ⟨k1_u23, k2_u23, k3_u23, k4_u23, k5_u23, k6_u23, k7_u23⟩ := K_u23.1
                                          have N_u23 : MI t u23 := mi_dead x_u23
                                          have K107 := ke_tr K95 K_u23
                                          unfold qj_X13_rule_539
                                          refine ok_mul (by omega) ?_; intro v13 e_v13
                                          refine ok_add (by omega) ?_; intro v14 e_v14
                                          refine ok_sv vy_isThing ?_; intro u15 P_u15
                                          refine ok_if (fun C108 => ?_) (fun C108 => ?_)
                                          · skip
                                            unfold qj_X13_rule_562
                                            refine ok_rd (by omega) (gA_168 Y_u23.1) ?_; intro v10 e_v10 a_v10 b_v10
                                            have t_v10 : v10 = t 168 (a1).toNat := by rw [e_v10]; exact Y_u23.2.1 168 _ (nw_ar rfl _)
                                            have d_v10 : v35 = v10 := by rw [t_v10, t_v35]
                                            subst d_v10
                                            refine ok_sv (vy_wrong hn Y_u23 (by omega) (by omega)) ?_; intro u12 P_u12
                                            obtain ⟨Y_u12, K_u12, x_u12⟩ := P_u12
                                            obtain ⟨k1_u12, k2_u12, k3_u12, k4_u12, k5_u12, k6_u12, k7_u12⟩ := K_u12.1
                                            have N_u12 : MI t u12 := mi_dead x_u12
                                            have K109 := ke_tr K107 K_u12
                                            unfold qj_X13_rule_574
                                            refine ok_wA (by omega) ?_; intro h5 E_h5
                                            obtain ⟨Y_h5, K_h5⟩ := yi_176 Y_u12 (by omega) (by omega) (by omega) E_h5
                                            obtain ⟨k1_h5, k2_h5, k3_h5, k4_h5, k5_h5, k6_h5, k7_h5⟩ := K_h5.1
                                            have s_h5 : h5 176 (a1).toNat = v14 := by rw [E_h5]; exact up_s
                                            have N_h5 := mi_up N_u12 E_h5 (by decide)
                                            have K110 := ke_tr K109 K_h5
                                            refine ok_rd (by omega) (gA_167 Y_h5.1) ?_; intro v7 e_v7 a_v7 b_v7
                                            have t_v7 : v7 = t 167 (a1).toNat := by rw [e_v7]; exact Y_h5.2.1 167 _ (nw_ar rfl _)
                                            have d_v7 : v83 = v7 := by rw [t_v7, t_v83]
                                            subst d_v7
                                            refine ok_if (fun C111 => ?_) (fun C111 => ?_)
                                            · skip
                                              exact ok_ret ⟨Y_h5, N_h5, K110, by omega, by omega, by omega, fun y => by have y : h5 160 9 = 0 := y; show 0 ≤ v14; omega⟩
                                            · skip
                                              exfalso; omega
                                          · skip
                                            refine ok_sv (vy_goTogether hn Y_u23 S (by omega) (by omega)) ?_; intro u17 P_u17
                                            refine ok_if (fun C112 => ?_) (fun C112 => ?_)
                                            · skip
                                              unfold qj_X13_rule_574
                                              refine ok_wA (by omega) ?_; intro h5 E_h5
                                              obtain ⟨Y_h5, K_h5⟩ := yi_176 Y_u23 (by omega) (by omega) (by omega) E_h5
                                              obtain ⟨k1_h5, k2_h5, k3_h5, k4_h5, k5_h5, k6_h5, k7_h5⟩ := K_h5.1
                                              have s_h5 : h5 176 (a1).toNat = v14 := by rw [E_h5]; exact up_s
                                              have N_h5 := mi_up N_u23 E_h5 (by decide)
                                              have K113 := ke_tr K107 K_h5
                                              refine ok_rd (by omega) (gA_167 Y_h5.1) ?_; intro v7 e_v7 a_v7 b_v7
                                              have t_v7 : v7 = t 167 (a1).toNat := by rw [e_v7]; exact Y_h5.2.1 167 _ (nw_ar rfl _)
                                              have d_v7 : v83 = v7 := by rw [t_v7, t_v83]
                                              subst d_v7
                                              refine ok_if (fun C114 => ?_) (fun C114 => ?_)
                                              · skip
                                                exact ok_ret ⟨Y_h5, N_h5, K113, by omega, by omega, by omega, fun y => by have y : h5 160 9 = 0 := y; show 0 ≤ v14; omega⟩
                                              · skip
                                                exfalso; omega
                                            · skip
                                              unfold qj_X13_rule_562
                                              refine ok_rd (by omega) (gA_168 Y_u23.1) ?_; intro v10 e_v10 a_v10 b_v10
                                              have t_v10 : v10 = t 168 (a1).toNat := by rw [e_v10]; exact Y_u23.2.1 168 _ (nw_ar rfl _)
                                              have d_v10 : v35 = v10 := by rw [t_v10, t_v35]
                                              subst d_v10
                                              refine ok_sv (vy_wrong hn Y_u23 (by omega) (by omega)) ?_; intro u12 P_u12
                                              obtain ⟨Y_u12, K_u12, x_u12⟩ := P_u12
                                              obtain ⟨k1_u12, k2_u12, k3_u12, k4_u12, k5_u12, k6_u12, k7_u12⟩ := K_u12.1
                                              have N_u12 : MI t u12 := mi_dead x_u12
                                              have K115 := ke_tr K107 K_u12
                                              unfold qj_X13_rule_574
                                              refine ok_wA (by omega) ?_; intro h5 E_h5
                                              obtain ⟨Y_h5, K_h5⟩ := yi_176 Y_u12 (by omega) (by omega) (by omega) E_h5
                                              obtain ⟨k1_h5, k2_h5, k3_h5, k4_h5, k5_h5, k6_h5, k7_h5⟩ := K_h5.1
                                              have s_h5 : h5 176 (a1).toNat = v14 := by rw [E_h5]; exact up_s
                                              have N_h5 := mi_up N_u12 E_h5 (by decide)
                                              have K116 := ke_tr K115 K_h5
                                              refine ok_rd (by omega) (gA_167 Y_h5.1) ?_; intro v7 e_v7 a_v7 b_v7
                                              have t_v7 : v7 = t 167 (a1).toNat := by rw [e_v7]; exact Y_h5.2.1 167 _ (nw_ar rfl _)
                                              have d_v7 : v83 = v7 := by rw [t_v7, t_v83]
                                              subst d_v7
                                              refine ok_if (fun C117 => ?_) (fun C117 => ?_)
                                              · skip
                                                exact ok_ret ⟨Y_h5, N_h5, K116, by omega, by omega, by omega, fun y => by have y : h5 160 9 = 0 := y; show 0 ≤ v14; omega⟩
                                              · skip
                                                exfalso; omega
                                    · skip
                                      refine ok_rd (by omega) (gA_167 Y0.1) ?_; intro v39 e_v39 a_v39 b_v39
                                      have t_v39 : v39 = t 167 (a1).toNat := by rw [e_v39]; exact Y0.2.1 167 _ (nw_ar rfl _)
                                      have d_v39 : v83 = v39 := by rw [t_v39, t_v83]
                                      subst d_v39
                                      refine ok_if (fun C118 => ?_) (fun C118 => ?_)
                                      · skip
                                        unfold qj_X13_rule_493
                                        refine ok_rd (by omega) (gA_167 Y0.1) ?_; intro v26 e_v26 a_v26 b_v26
                                        have t_v26 : v26 = t 167 (a1).toNat := by rw [e_v26]; exact Y0.2.1 167 _ (nw_ar rfl _)
                                        have d_v26 : v83 = v26 := by rw [t_v26, t_v83]
                                        subst d_v26
                                        refine ok_if (fun C119 => ?_) (fun C119 => ?_)
                                        · skip
                                          refine ok_sv (vy_led hn S Y0 N0 T (by omega) (by omega)) ?_; intro u28 P_u28
                                          have p5_u28 := P_u28.2; replace P_u28 := P_u28.1
                                          obtain ⟨Y_u28, N_u28, K_u28, r1_u28, r2_u28, r3_u28, r4_u28⟩ := P_u28
                                          obtain ⟨k1_u28, k2_u28, k3_u28, k4_u28, k5_u28, k6_u28, k7_u28⟩ := K_u28.1
                                          have K120 := ke_tr K0 K_u28
                                          unfold qj_X13_rule_522
                                          refine ok_if (fun C121 => ?_) (fun C121 => ?_)
                                          · skip
                                            unfold qj_X13_rule_539
                                            refine ok_mul (by omega) ?_; intro v13 e_v13
                                            refine ok_add (by omega) ?_; intro v14 e_v14
                                            refine ok_sv vy_isThing ?_; intro u15 P_u15
                                            refine ok_if (fun C122 => ?_) (fun C122 => ?_)
                                            · skip
                                              unfold qj_X13_rule_562
                                              refine ok_rd (by omega) (gA_168 Y_u28.1) ?_; intro v10 e_v10 a_v10 b_v10
                                              have t_v10 : v10 = t 168 (a1).toNat := by rw [e_v10]; exact Y_u28.2.1 168 _ (nw_ar rfl _)
                                              have d_v10 : v35 = v10 := by rw [t_v10, t_v35]
                                              subst d_v10
                                              refine ok_sv (vy_wrong hn Y_u28 (by omega) (by omega)) ?_; intro u12 P_u12
                                              obtain ⟨Y_u12, K_u12, x_u12⟩ := P_u12
                                              obtain ⟨k1_u12, k2_u12, k3_u12, k4_u12, k5_u12, k6_u12, k7_u12⟩ := K_u12.1
                                              have N_u12 : MI t u12 := mi_dead x_u12
                                              have K123 := ke_tr K120 K_u12
                                              unfold qj_X13_rule_574
                                              refine ok_wA (by omega) ?_; intro h5 E_h5
                                              obtain ⟨Y_h5, K_h5⟩ := yi_176 Y_u12 (by omega) (by omega) (by omega) E_h5
                                              obtain ⟨k1_h5, k2_h5, k3_h5, k4_h5, k5_h5, k6_h5, k7_h5⟩ := K_h5.1
                                              have s_h5 : h5 176 (a1).toNat = v14 := by rw [E_h5]; exact up_s
                                              have N_h5 := mi_up N_u12 E_h5 (by decide)
                                              have K124 := ke_tr K123 K_h5
                                              refine ok_rd (by omega) (gA_167 Y_h5.1) ?_; intro v7 e_v7 a_v7 b_v7
                                              have t_v7 : v7 = t 167 (a1).toNat := by rw [e_v7]; exact Y_h5.2.1 167 _ (nw_ar rfl _)
                                              have d_v7 : v83 = v7 := by rw [t_v7, t_v83]
                                              subst d_v7
                                              refine ok_if (fun C125 => ?_) (fun C125 => ?_)
                                              · skip
                                                exact ok_ret ⟨Y_h5, N_h5, K124, by omega, by omega, by omega, fun y => by have y : h5 160 9 = 0 := y; show 0 ≤ v14; omega⟩
                                              · skip
                                                exfalso; omega
                                            · skip
                                              refine ok_sv (vy_goTogether hn Y_u28 S (by omega) (by omega)) ?_; intro u17 P_u17
                                              refine ok_if (fun C126 => ?_) (fun C126 => ?_)
                                              · skip
                                                unfold qj_X13_rule_574
                                                refine ok_wA (by omega) ?_; intro h5 E_h5
                                                obtain ⟨Y_h5, K_h5⟩ := yi_176 Y_u28 (by omega) (by omega) (by omega) E_h5
                                                obtain ⟨k1_h5, k2_h5, k3_h5, k4_h5, k5_h5, k6_h5, k7_h5⟩ := K_h5.1
                                                have s_h5 : h5 176 (a1).toNat = v14 := by rw [E_h5]; exact up_s
                                                have N_h5 := mi_up N_u28 E_h5 (by decide)
                                                have K127 := ke_tr K120 K_h5
                                                refine ok_rd (by omega) (gA_167 Y_h5.1) ?_; intro v7 e_v7 a_v7 b_v7
                                                have t_v7 : v7 = t 167 (a1).toNat := by rw [e_v7]; exact Y_h5.2.1 167 _ (nw_ar rfl _)
                                                have d_v7 : v83 = v7 := by rw [t_v7, t_v83]
                                                subst d_v7
                                                refine ok_if (fun C128 => ?_) (fun C128 => ?_)
                                                · skip
                                                  exact ok_ret ⟨Y_h5, N_h5, K127, by omega, by omega, by omega, fun y => by have y : h5 160 9 = 0 := y; show 0 ≤ v14; omega⟩
                                                · skip
                                                  exfalso; omega
                                              · skip
                                                unfold qj_X13_rule_562
                                                refine ok_rd (by omega) (gA_168 Y_u28.1) ?_; intro v10 e_v10 a_v10 b_v10
                                                have t_v10 : v10 = t 168 (a1).toNat := by rw [e_v10]; exact Y_u28.2.1 168 _ (nw_ar rfl _)
                                                have d_v10 : v35 = v10 := by rw [t_v10, t_v35]
                                                subst d_v10
                                                refine ok_sv (vy_wrong hn Y_u28 (by omega) (by omega)) ?_; intro u12 P_u12
                                                obtain ⟨Y_u12, K_u12, x_u12⟩ := P_u12
                                                obtain ⟨k1_u12, k2_u12, k3_u12, k4_u12, k5_u12, k6_u12, k7_u12⟩ := K_u12.1
                                                have N_u12 : MI t u12 := mi_dead x_u12
                                                have K129 := ke_tr K120 K_u12
                                                unfold qj_X13_rule_574
                                                refine ok_wA (by omega) ?_; intro h5 E_h5
                                                obtain ⟨Y_h5, K_h5⟩ := yi_176 Y_u12 (by omega) (by omega) (by omega) E_h5
                                                obtain ⟨k1_h5, k2_h5, k3_h5, k4_h5, k5_h5, k6_h5, k7_h5⟩ := K_h5.1
                                                have s_h5 : h5 176 (a1).toNat = v14 := by rw [E_h5]; exact up_s
                                                have N_h5 := mi_up N_u12 E_h5 (by decide)
                                                have K130 := ke_tr K129 K_h5
                                                refine ok_rd (by omega) (gA_167 Y_h5.1) ?_; intro v7 e_v7 a_v7 b_v7
                                                have t_v7 : v7 = t 167 (a1).toNat := by rw [e_v7]; exact Y_h5.2.1 167 _ (nw_ar rfl _)
                                                have d_v7 : v83 = v7 := by rw [t_v7, t_v83]
                                                subst d_v7
                                                refine ok_if (fun C131 => ?_) (fun C131 => ?_)
                                                · skip
                                                  exact ok_ret ⟨Y_h5, N_h5, K130, by omega, by omega, by omega, fun y => by have y : h5 160 9 = 0 := y; show 0 ≤ v14; omega⟩
                                                · skip
                                                  exfalso; omega
                                          · skip
                                            refine ok_rd (by omega) (gA_168 Y_u28.1) ?_; intro v21 e_v21 a_v21 b_v21
                                            have t_v21 : v21 = t 168 (a1).toNat := by rw [e_v21]; exact Y_u28.2.1 168 _ (nw_ar rfl _)
                                            have d_v21 : v35 = v21 := by rw [t_v21, t_v35]
                                            subst d_v21
                                            refine ok_sv (vy_wrong hn Y_u28 (by omega) (by omega)) ?_; intro u23 P_u23
                                            obtain ⟨Y_u23, K_u23, x_u23⟩ := P_u23
                                            obtain ⟨k1_u23, k2_u23, k3_u23, k4_u23, k5_u23, k6_u23, k7_u23⟩ := K_u23.1
                                            have N_u23 : MI t u23 := mi_dead x_u23
                                            have K132 := ke_tr K120 K_u23
                                            unfold qj_X13_rule_539
                                            refine ok_mul (by omega) ?_; intro v13 e_v13
                                            refine ok_add (by omega) ?_; intro v14 e_v14
                                            refine ok_sv vy_isThing ?_; intro u15 P_u15
                                            refine ok_if (fun C133 => ?_) (fun C133 => ?_)
                                            · skip
                                              unfold qj_X13_rule_562
                                              refine ok_rd (by omega) (gA_168 Y_u23.1) ?_; intro v10 e_v10 a_v10 b_v10
                                              have t_v10 : v10 = t 168 (a1).toNat := by rw [e_v10]; exact Y_u23.2.1 168 _ (nw_ar rfl _)
                                              have d_v10 : v35 = v10 := by rw [t_v10, t_v35]
                                              subst d_v10
                                              refine ok_sv (vy_wrong hn Y_u23 (by omega) (by omega)) ?_; intro u12 P_u12
                                              obtain ⟨Y_u12, K_u12, x_u12⟩ := P_u12
                                              obtain ⟨k1_u12, k2_u12, k3_u12, k4_u12, k5_u12, k6_u12, k7_u12⟩ := K_u12.1
                                              have N_u12 : MI t u12 := mi_dead x_u12
                                              have K134 := ke_tr K132 K_u12
                                              unfold qj_X13_rule_574
                                              refine ok_wA (by omega) ?_; intro h5 E_h5
                                              obtain ⟨Y_h5, K_h5⟩ := yi_176 Y_u12 (by omega) (by omega) (by omega) E_h5
                                              obtain ⟨k1_h5, k2_h5, k3_h5, k4_h5, k5_h5, k6_h5, k7_h5⟩ := K_h5.1
                                              have s_h5 : h5 176 (a1).toNat = v14 := by rw [E_h5]; exact up_s
                                              have N_h5 := mi_up N_u12 E_h5 (by decide)
                                              have K135 := ke_tr K134 K_h5
                                              refine ok_rd (by omega) (gA_167 Y_h5.1) ?_; intro v7 e_v7 a_v7 b_v7
                                              have t_v7 : v7 = t 167 (a1).toNat := by rw [e_v7]; exact Y_h5.2.1 167 _ (nw_ar rfl _)
                                              have d_v7 : v83 = v7 := by rw [t_v7, t_v83]
                                              subst d_v7
                                              refine ok_if (fun C136 => ?_) (fun C136 => ?_)
                                              · skip
                                                exact ok_ret ⟨Y_h5, N_h5, K135, by omega, by omega, by omega, fun y => by have y : h5 160 9 = 0 := y; show 0 ≤ v14; omega⟩
                                              · skip
                                                exfalso; omega
                                            · skip
                                              refine ok_sv (vy_goTogether hn Y_u23 S (by omega) (by omega)) ?_; intro u17 P_u17
                                              refine ok_if (fun C137 => ?_) (fun C137 => ?_)
                                              · skip
                                                unfold qj_X13_rule_574
                                                refine ok_wA (by omega) ?_; intro h5 E_h5
                                                obtain ⟨Y_h5, K_h5⟩ := yi_176 Y_u23 (by omega) (by omega) (by omega) E_h5
                                                obtain ⟨k1_h5, k2_h5, k3_h5, k4_h5, k5_h5, k6_h5, k7_h5⟩ := K_h5.1
                                                have s_h5 : h5 176 (a1).toNat = v14 := by rw [E_h5]; exact up_s
                                                have N_h5 := mi_up N_u23 E_h5 (by decide)
                                                have K138 := ke_tr K132 K_h5
                                                refine ok_rd (by omega) (gA_167 Y_h5.1) ?_; intro v7 e_v7 a_v7 b_v7
                                                have t_v7 : v7 = t 167 (a1).toNat := by rw [e_v7]; exact Y_h5.2.1 167 _ (nw_ar rfl _)
                                                have d_v7 : v83 = v7 := by rw [t_v7, t_v83]
                                                subst d_v7
                                                refine ok_if (fun C139 => ?_) (fun C139 => ?_)
                                                · skip
                                                  exact ok_ret ⟨Y_h5, N_h5, K138, by omega, by omega, by omega, fun y => by have y : h5 160 9 = 0 := y; show 0 ≤ v14; omega⟩
                                                · skip
                                                  exfalso; omega
                                              · skip
                                                unfold qj_X13_rule_562
                                                refine ok_rd (by omega) (gA_168 Y_u23.1) ?_; intro v10 e_v10 a_v10 b_v10
                                                have t_v10 : v10 = t 168 (a1).toNat := by rw [e_v10]; exact Y_u23.2.1 168 _ (nw_ar rfl _)
                                                have d_v10 : v35 = v10 := by rw [t_v10, t_v35]
                                                subst d_v10
                                                refine ok_sv (vy_wrong hn Y_u23 (by omega) (by omega)) ?_; intro u12 P_u12
                                                obtain ⟨Y_u12, K_u12, x_u12⟩ := P_u12
                                                obtain ⟨k1_u12, k2_u12, k3_u12, k4_u12, k5_u12, k6_u12, k7_u12⟩ := K_u12.1
                                                have N_u12 : MI t u12 := mi_dead x_u12
                                                have K140 := ke_tr K132 K_u12
                                                unfold qj_X13_rule_574
                                                refine ok_wA (by omega) ?_; intro h5 E_h5
                                                obtain ⟨Y_h5, K_h5⟩ := yi_176 Y_u12 (by omega) (by omega) (by omega) E_h5
                                                obtain ⟨k1_h5, k2_h5, k3_h5, k4_h5, k5_h5, k6_h5, k7_h5⟩ := K_h5.1
                                                have s_h5 : h5 176 (a1).toNat = v14 := by rw [E_h5]; exact up_s
                                                have N_h5 := mi_up N_u12 E_h5 (by decide)
                                                have K141 := ke_tr K140 K_h5
                                                refine ok_rd (by omega) (gA_167 Y_h5.1) ?_; intro v7 e_v7 a_v7 b_v7
                                                have t_v7 : v7 = t 167 (a1).toNat := by rw [e_v7]; exact Y_h5.2.1 167 _ (nw_ar rfl _)
                                                have d_v7 : v83 = v7 := by rw [t_v7, t_v83]
                                                subst d_v7
                                                refine ok_if (fun C142 => ?_) (fun C142 => ?_)
                                                · skip
                                                  exact ok_ret ⟨Y_h5, N_h5, K141, by omega, by omega, by omega, fun y => by have y : h5 160 9 = 0 := y; show 0 ≤ v14; omega⟩
                                                · skip
                                                  exfalso; omega
                                        · skip
                                          refine ok_rd (by omega) (gA_170 Y0.1) ?_; intro v30 e_v30 a_v30 b_v30
                                          have t_v30 : v30 = t 170 (a1).toNat := by rw [e_v30]; exact Y0.2.1 170 _ (nw_ar rfl _)
                                          have c143 : TE 1 t 0 (d - 2 - 2 * 1) (a1 + 1) b v30 := by rw [t_v30]; exact te_k33 T (by omega)
                                          have rc143 := te_rg c143
                                          refine ok_sv (G.2.1 v30 _ _ _ h Y0 N0 c143 (by omega) (by omega) (by omega)) ?_; intro u32 P_u32
                                          obtain ⟨Y_u32, N_u32, K_u32, r1_u32, r2_u32, r3_u32, r4_u32⟩ := P_u32
                                          obtain ⟨k1_u32, k2_u32, k3_u32, k4_u32, k5_u32, k6_u32, k7_u32⟩ := K_u32.1
                                          have K144 := ke_tr K0 K_u32
                                          unfold qj_X13_rule_522
                                          refine ok_if (fun C145 => ?_) (fun C145 => ?_)
                                          · skip
                                            unfold qj_X13_rule_539
                                            refine ok_mul (by omega) ?_; intro v13 e_v13
                                            refine ok_add (by omega) ?_; intro v14 e_v14
                                            refine ok_sv vy_isThing ?_; intro u15 P_u15
                                            refine ok_if (fun C146 => ?_) (fun C146 => ?_)
                                            · skip
                                              unfold qj_X13_rule_562
                                              refine ok_rd (by omega) (gA_168 Y_u32.1) ?_; intro v10 e_v10 a_v10 b_v10
                                              have t_v10 : v10 = t 168 (a1).toNat := by rw [e_v10]; exact Y_u32.2.1 168 _ (nw_ar rfl _)
                                              have d_v10 : v35 = v10 := by rw [t_v10, t_v35]
                                              subst d_v10
                                              refine ok_sv (vy_wrong hn Y_u32 (by omega) (by omega)) ?_; intro u12 P_u12
                                              obtain ⟨Y_u12, K_u12, x_u12⟩ := P_u12
                                              obtain ⟨k1_u12, k2_u12, k3_u12, k4_u12, k5_u12, k6_u12, k7_u12⟩ := K_u12.1
                                              have N_u12 : MI t u12 := mi_dead x_u12
                                              have K147 := ke_tr K144 K_u12
                                              unfold qj_X13_rule_574
                                              refine ok_wA (by omega) ?_; intro h5 E_h5
                                              obtain ⟨Y_h5, K_h5⟩ := yi_176 Y_u12 (by omega) (by omega) (by omega) E_h5
                                              obtain ⟨k1_h5, k2_h5, k3_h5, k4_h5, k5_h5, k6_h5, k7_h5⟩ := K_h5.1
                                              have s_h5 : h5 176 (a1).toNat = v14 := by rw [E_h5]; exact up_s
                                              have N_h5 := mi_up N_u12 E_h5 (by decide)
                                              have K148 := ke_tr K147 K_h5
                                              refine ok_rd (by omega) (gA_167 Y_h5.1) ?_; intro v7 e_v7 a_v7 b_v7
                                              have t_v7 : v7 = t 167 (a1).toNat := by rw [e_v7]; exact Y_h5.2.1 167 _ (nw_ar rfl _)
                                              have d_v7 : v83 = v7 := by rw [t_v7, t_v83]
                                              subst d_v7
                                              refine ok_if (fun C149 => ?_) (fun C149 => ?_)
                                              · skip
                                                exact ok_ret ⟨Y_h5, N_h5, K148, by omega, by omega, by omega, fun y => by have y : h5 160 9 = 0 := y; show 0 ≤ v14; omega⟩
                                              · skip
                                                exfalso; omega
                                            · skip
                                              refine ok_sv (vy_goTogether hn Y_u32 S (by omega) (by omega)) ?_; intro u17 P_u17
                                              refine ok_if (fun C150 => ?_) (fun C150 => ?_)
                                              · skip
                                                unfold qj_X13_rule_574
                                                refine ok_wA (by omega) ?_; intro h5 E_h5
                                                obtain ⟨Y_h5, K_h5⟩ := yi_176 Y_u32 (by omega) (by omega) (by omega) E_h5
                                                obtain ⟨k1_h5, k2_h5, k3_h5, k4_h5, k5_h5, k6_h5, k7_h5⟩ := K_h5.1
                                                have s_h5 : h5 176 (a1).toNat = v14 := by rw [E_h5]; exact up_s
                                                have N_h5 := mi_up N_u32 E_h5 (by decide)
                                                have K151 := ke_tr K144 K_h5
                                                refine ok_rd (by omega) (gA_167 Y_h5.1) ?_; intro v7 e_v7 a_v7 b_v7
                                                have t_v7 : v7 = t 167 (a1).toNat := by rw [e_v7]; exact Y_h5.2.1 167 _ (nw_ar rfl _)
                                                have d_v7 : v83 = v7 := by rw [t_v7, t_v83]
                                                subst d_v7
                                                refine ok_if (fun C152 => ?_) (fun C152 => ?_)
                                                · skip
                                                  exact ok_ret ⟨Y_h5, N_h5, K151, by omega, by omega, by omega, fun y => by have y : h5 160 9 = 0 := y; show 0 ≤ v14; omega⟩
                                                · skip
                                                  exfalso; omega
                                              · skip
                                                unfold qj_X13_rule_562
                                                refine ok_rd (by omega) (gA_168 Y_u32.1) ?_; intro v10 e_v10 a_v10 b_v10
                                                have t_v10 : v10 = t 168 (a1).toNat := by rw [e_v10]; exact Y_u32.2.1 168 _ (nw_ar rfl _)
                                                have d_v10 : v35 = v10 := by rw [t_v10, t_v35]
                                                subst d_v10
                                                refine ok_sv (vy_wrong hn Y_u32 (by omega) (by omega)) ?_; intro u12 P_u12
                                                obtain ⟨Y_u12, K_u12, x_u12⟩ := P_u12
                                                obtain ⟨k1_u12, k2_u12, k3_u12, k4_u12, k5_u12, k6_u12, k7_u12⟩ := K_u12.1
                                                have N_u12 : MI t u12 := mi_dead x_u12
                                                have K153 := ke_tr K144 K_u12
                                                unfold qj_X13_rule_574
                                                refine ok_wA (by omega) ?_; intro h5 E_h5
                                                obtain ⟨Y_h5, K_h5⟩ := yi_176 Y_u12 (by omega) (by omega) (by omega) E_h5
                                                obtain ⟨k1_h5, k2_h5, k3_h5, k4_h5, k5_h5, k6_h5, k7_h5⟩ := K_h5.1
                                                have s_h5 : h5 176 (a1).toNat = v14 := by rw [E_h5]; exact up_s
                                                have N_h5 := mi_up N_u12 E_h5 (by decide)
                                                have K154 := ke_tr K153 K_h5
                                                refine ok_rd (by omega) (gA_167 Y_h5.1) ?_; intro v7 e_v7 a_v7 b_v7
                                                have t_v7 : v7 = t 167 (a1).toNat := by rw [e_v7]; exact Y_h5.2.1 167 _ (nw_ar rfl _)
                                                have d_v7 : v83 = v7 := by rw [t_v7, t_v83]
                                                subst d_v7
                                                refine ok_if (fun C155 => ?_) (fun C155 => ?_)
                                                · skip
                                                  exact ok_ret ⟨Y_h5, N_h5, K154, by omega, by omega, by omega, fun y => by have y : h5 160 9 = 0 := y; show 0 ≤ v14; omega⟩
                                                · skip
                                                  exfalso; omega
                                          · skip
                                            refine ok_rd (by omega) (gA_168 Y_u32.1) ?_; intro v21 e_v21 a_v21 b_v21
                                            have t_v21 : v21 = t 168 (a1).toNat := by rw [e_v21]; exact Y_u32.2.1 168 _ (nw_ar rfl _)
                                            have d_v21 : v35 = v21 := by rw [t_v21, t_v35]
                                            subst d_v21
                                            refine ok_sv (vy_wrong hn Y_u32 (by omega) (by omega)) ?_; intro u23 P_u23
                                            obtain ⟨Y_u23, K_u23, x_u23⟩ := P_u23
                                            obtain ⟨k1_u23, k2_u23, k3_u23, k4_u23, k5_u23, k6_u23, k7_u23⟩ := K_u23.1
                                            have N_u23 : MI t u23 := mi_dead x_u23
                                            have K156 := ke_tr K144 K_u23
                                            unfold qj_X13_rule_539
                                            refine ok_mul (by omega) ?_; intro v13 e_v13
                                            refine ok_add (by omega) ?_; intro v14 e_v14
                                            refine ok_sv vy_isThing ?_; intro u15 P_u15
                                            refine ok_if (fun C157 => ?_) (fun C157 => ?_)
                                            · skip
                                              unfold qj_X13_rule_562
                                              refine ok_rd (by omega) (gA_168 Y_u23.1) ?_; intro v10 e_v10 a_v10 b_v10
                                              have t_v10 : v10 = t 168 (a1).toNat := by rw [e_v10]; exact Y_u23.2.1 168 _ (nw_ar rfl _)
                                              have d_v10 : v35 = v10 := by rw [t_v10, t_v35]
                                              subst d_v10
                                              refine ok_sv (vy_wrong hn Y_u23 (by omega) (by omega)) ?_; intro u12 P_u12
                                              obtain ⟨Y_u12, K_u12, x_u12⟩ := P_u12
                                              obtain ⟨k1_u12, k2_u12, k3_u12, k4_u12, k5_u12, k6_u12, k7_u12⟩ := K_u12.1
                                              have N_u12 : MI t u12 := mi_dead x_u12
                                              have K158 := ke_tr K156 K_u12
                                              unfold qj_X13_rule_574
                                              refine ok_wA (by omega) ?_; intro h5 E_h5
                                              obtain ⟨Y_h5, K_h5⟩ := yi_176 Y_u12 (by omega) (by omega) (by omega) E_h5
                                              obtain ⟨k1_h5, k2_h5, k3_h5, k4_h5, k5_h5, k6_h5, k7_h5⟩ := K_h5.1
                                              have s_h5 : h5 176 (a1).toNat = v14 := by rw [E_h5]; exact up_s
                                              have N_h5 := mi_up N_u12 E_h5 (by decide)
                                              have K159 := ke_tr K158 K_h5
                                              refine ok_rd (by omega) (gA_167 Y_h5.1) ?_; intro v7 e_v7 a_v7 b_v7
                                              have t_v7 : v7 = t 167 (a1).toNat := by rw [e_v7]; exact Y_h5.2.1 167 _ (nw_ar rfl _)
                                              have d_v7 : v83 = v7 := by rw [t_v7, t_v83]
                                              subst d_v7
                                              refine ok_if (fun C160 => ?_) (fun C160 => ?_)
                                              · skip
                                                exact ok_ret ⟨Y_h5, N_h5, K159, by omega, by omega, by omega, fun y => by have y : h5 160 9 = 0 := y; show 0 ≤ v14; omega⟩
                                              · skip
                                                exfalso; omega
                                            · skip
                                              refine ok_sv (vy_goTogether hn Y_u23 S (by omega) (by omega)) ?_; intro u17 P_u17
                                              refine ok_if (fun C161 => ?_) (fun C161 => ?_)
                                              · skip
                                                unfold qj_X13_rule_574
                                                refine ok_wA (by omega) ?_; intro h5 E_h5
                                                obtain ⟨Y_h5, K_h5⟩ := yi_176 Y_u23 (by omega) (by omega) (by omega) E_h5
                                                obtain ⟨k1_h5, k2_h5, k3_h5, k4_h5, k5_h5, k6_h5, k7_h5⟩ := K_h5.1
                                                have s_h5 : h5 176 (a1).toNat = v14 := by rw [E_h5]; exact up_s
                                                have N_h5 := mi_up N_u23 E_h5 (by decide)
                                                have K162 := ke_tr K156 K_h5
                                                refine ok_rd (by omega) (gA_167 Y_h5.1) ?_; intro v7 e_v7 a_v7 b_v7
                                                have t_v7 : v7 = t 167 (a1).toNat := by rw [e_v7]; exact Y_h5.2.1 167 _ (nw_ar rfl _)
                                                have d_v7 : v83 = v7 := by rw [t_v7, t_v83]
                                                subst d_v7
                                                refine ok_if (fun C163 => ?_) (fun C163 => ?_)
                                                · skip
                                                  exact ok_ret ⟨Y_h5, N_h5, K162, by omega, by omega, by omega, fun y => by have y : h5 160 9 = 0 := y; show 0 ≤ v14; omega⟩
                                                · skip
                                                  exfalso; omega
                                              · skip
                                                unfold qj_X13_rule_562
                                                refine ok_rd (by omega) (gA_168 Y_u23.1) ?_; intro v10 e_v10 a_v10 b_v10
                                                have t_v10 : v10 = t 168 (a1).toNat := by rw [e_v10]; exact Y_u23.2.1 168 _ (nw_ar rfl _)
                                                have d_v10 : v35 = v10 := by rw [t_v10, t_v35]
                                                subst d_v10
                                                refine ok_sv (vy_wrong hn Y_u23 (by omega) (by omega)) ?_; intro u12 P_u12
                                                obtain ⟨Y_u12, K_u12, x_u12⟩ := P_u12
                                                obtain ⟨k1_u12, k2_u12, k3_u12, k4_u12, k5_u12, k6_u12, k7_u12⟩ := K_u12.1
                                                have N_u12 : MI t u12 := mi_dead x_u12
                                                have K164 := ke_tr K156 K_u12
                                                unfold qj_X13_rule_574
                                                refine ok_wA (by omega) ?_; intro h5 E_h5
                                                obtain ⟨Y_h5, K_h5⟩ := yi_176 Y_u12 (by omega) (by omega) (by omega) E_h5
                                                obtain ⟨k1_h5, k2_h5, k3_h5, k4_h5, k5_h5, k6_h5, k7_h5⟩ := K_h5.1
                                                have s_h5 : h5 176 (a1).toNat = v14 := by rw [E_h5]; exact up_s
                                                have N_h5 := mi_up N_u12 E_h5 (by decide)
                                                have K165 := ke_tr K164 K_h5
                                                refine ok_rd (by omega) (gA_167 Y_h5.1) ?_; intro v7 e_v7 a_v7 b_v7
                                                have t_v7 : v7 = t 167 (a1).toNat := by rw [e_v7]; exact Y_h5.2.1 167 _ (nw_ar rfl _)
                                                have d_v7 : v83 = v7 := by rw [t_v7, t_v83]
                                                subst d_v7
                                                refine ok_if (fun C166 => ?_) (fun C166 => ?_)
                                                · skip
                                                  exact ok_ret ⟨Y_h5, N_h5, K165, by omega, by omega, by omega, fun y => by have y : h5 160 9 = 0 := y; show 0 ≤ v14; omega⟩
                                                · skip
                                                  exfalso; omega
                                      · skip
                                        refine ok_rd (by omega) (gA_168 Y0.1) ?_; intro v41 e_v41 a_v41 b_v41
                                        have t_v41 : v41 = t 168 (a1).toNat := by rw [e_v41]; exact Y0.2.1 168 _ (nw_ar rfl _)
                                        have d_v41 : v35 = v41 := by rw [t_v41, t_v35]
                                        subst d_v41
                                        refine ok_sv (vy_wrong hn Y0 (by omega) (by omega)) ?_; intro u43 P_u43
                                        obtain ⟨Y_u43, K_u43, x_u43⟩ := P_u43
                                        obtain ⟨k1_u43, k2_u43, k3_u43, k4_u43, k5_u43, k6_u43, k7_u43⟩ := K_u43.1
                                        have N_u43 : MI t u43 := mi_dead x_u43
                                        have K167 := ke_tr K0 K_u43
                                        unfold qj_X13_rule_493
                                        refine ok_rd (by omega) (gA_167 Y_u43.1) ?_; intro v26 e_v26 a_v26 b_v26
                                        have t_v26 : v26 = t 167 (a1).toNat := by rw [e_v26]; exact Y_u43.2.1 167 _ (nw_ar rfl _)
                                        have d_v26 : v83 = v26 := by rw [t_v26, t_v83]
                                        subst d_v26
                                        refine ok_if (fun C168 => ?_) (fun C168 => ?_)
                                        · skip
                                          refine ok_sv (vy_led hn S Y_u43 N_u43 T (by omega) (by omega)) ?_; intro u28 P_u28
                                          have p5_u28 := P_u28.2; replace P_u28 := P_u28.1
                                          obtain ⟨Y_u28, N_u28, K_u28, r1_u28, r2_u28, r3_u28, r4_u28⟩ := P_u28
                                          obtain ⟨k1_u28, k2_u28, k3_u28, k4_u28, k5_u28, k6_u28, k7_u28⟩ := K_u28.1
                                          have K169 := ke_tr K167 K_u28
                                          unfold qj_X13_rule_522
                                          refine ok_if (fun C170 => ?_) (fun C170 => ?_)
                                          · skip
                                            unfold qj_X13_rule_539
                                            refine ok_mul (by omega) ?_; intro v13 e_v13
                                            refine ok_add (by omega) ?_; intro v14 e_v14
                                            refine ok_sv vy_isThing ?_; intro u15 P_u15
                                            refine ok_if (fun C171 => ?_) (fun C171 => ?_)
                                            · skip
                                              unfold qj_X13_rule_562
                                              refine ok_rd (by omega) (gA_168 Y_u28.1) ?_; intro v10 e_v10 a_v10 b_v10
                                              have t_v10 : v10 = t 168 (a1).toNat := by rw [e_v10]; exact Y_u28.2.1 168 _ (nw_ar rfl _)
                                              have d_v10 : v35 = v10 := by rw [t_v10, t_v35]
                                              subst d_v10
                                              refine ok_sv (vy_wrong hn Y_u28 (by omega) (by omega)) ?_; intro u12 P_u12
                                              obtain ⟨Y_u12, K_u12, x_u12⟩ := P_u12
                                              obtain ⟨k1_u12, k2_u12, k3_u12, k4_u12, k5_u12, k6_u12, k7_u12⟩ := K_u12.1
                                              have N_u12 : MI t u12 := mi_dead x_u12
                                              have K172 := ke_tr K169 K_u12
                                              unfold qj_X13_rule_574
                                              refine ok_wA (by omega) ?_; intro h5 E_h5
                                              obtain ⟨Y_h5, K_h5⟩ := yi_176 Y_u12 (by omega) (by omega) (by omega) E_h5
                                              obtain ⟨k1_h5, k2_h5, k3_h5, k4_h5, k5_h5, k6_h5, k7_h5⟩ := K_h5.1
                                              have s_h5 : h5 176 (a1).toNat = v14 := by rw [E_h5]; exact up_s
                                              have N_h5 := mi_up N_u12 E_h5 (by decide)
                                              have K173 := ke_tr K172 K_h5
                                              refine ok_rd (by omega) (gA_167 Y_h5.1) ?_; intro v7 e_v7 a_v7 b_v7
                                              have t_v7 : v7 = t 167 (a1).toNat := by rw [e_v7]; exact Y_h5.2.1 167 _ (nw_ar rfl _)
                                              have d_v7 : v83 = v7 := by rw [t_v7, t_v83]
                                              subst d_v7
                                              refine ok_if (fun C174 => ?_) (fun C174 => ?_)
                                              · skip
                                                exact ok_ret ⟨Y_h5, N_h5, K173, by omega, by omega, by omega, fun y => by have y : h5 160 9 = 0 := y; show 0 ≤ v14; omega⟩
                                              · skip
                                                exfalso; omega
                                            · skip
                                              refine ok_sv (vy_goTogether hn Y_u28 S (by omega) (by omega)) ?_; intro u17 P_u17
                                              refine ok_if (fun C175 => ?_) (fun C175 => ?_)
                                              · skip
                                                unfold qj_X13_rule_574
                                                refine ok_wA (by omega) ?_; intro h5 E_h5
                                                obtain ⟨Y_h5, K_h5⟩ := yi_176 Y_u28 (by omega) (by omega) (by omega) E_h5
                                                obtain ⟨k1_h5, k2_h5, k3_h5, k4_h5, k5_h5, k6_h5, k7_h5⟩ := K_h5.1
                                                have s_h5 : h5 176 (a1).toNat = v14 := by rw [E_h5]; exact up_s
                                                have N_h5 := mi_up N_u28 E_h5 (by decide)
                                                have K176 := ke_tr K169 K_h5
                                                refine ok_rd (by omega) (gA_167 Y_h5.1) ?_; intro v7 e_v7 a_v7 b_v7
                                                have t_v7 : v7 = t 167 (a1).toNat := by rw [e_v7]; exact Y_h5.2.1 167 _ (nw_ar rfl _)
                                                have d_v7 : v83 = v7 := by rw [t_v7, t_v83]
                                                subst d_v7
                                                refine ok_if (fun C177 => ?_) (fun C177 => ?_)
                                                · skip
                                                  exact ok_ret ⟨Y_h5, N_h5, K176, by omega, by omega, by omega, fun y => by have y : h5 160 9 = 0 := y; show 0 ≤ v14; omega⟩
                                                · skip
                                                  exfalso; omega
                                              · skip
                                                unfold qj_X13_rule_562
                                                refine ok_rd (by omega) (gA_168 Y_u28.1) ?_; intro v10 e_v10 a_v10 b_v10
                                                have t_v10 : v10 = t 168 (a1).toNat := by rw [e_v10]; exact Y_u28.2.1 168 _ (nw_ar rfl _)
                                                have d_v10 : v35 = v10 := by rw [t_v10, t_v35]
                                                subst d_v10
                                                refine ok_sv (vy_wrong hn Y_u28 (by omega) (by omega)) ?_; intro u12 P_u12
                                                obtain ⟨Y_u12, K_u12, x_u12⟩ := P_u12
                                                obtain ⟨k1_u12, k2_u12, k3_u12, k4_u12, k5_u12, k6_u12, k7_u12⟩ := K_u12.1
                                                have N_u12 : MI t u12 := mi_dead x_u12
                                                have K178 := ke_tr K169 K_u12
                                                unfold qj_X13_rule_574
                                                refine ok_wA (by omega) ?_; intro h5 E_h5
                                                obtain ⟨Y_h5, K_h5⟩ := yi_176 Y_u12 (by omega) (by omega) (by omega) E_h5
                                                obtain ⟨k1_h5, k2_h5, k3_h5, k4_h5, k5_h5, k6_h5, k7_h5⟩ := K_h5.1
                                                have s_h5 : h5 176 (a1).toNat = v14 := by rw [E_h5]; exact up_s
                                                have N_h5 := mi_up N_u12 E_h5 (by decide)
                                                have K179 := ke_tr K178 K_h5
                                                refine ok_rd (by omega) (gA_167 Y_h5.1) ?_; intro v7 e_v7 a_v7 b_v7
                                                have t_v7 : v7 = t 167 (a1).toNat := by rw [e_v7]; exact Y_h5.2.1 167 _ (nw_ar rfl _)
                                                have d_v7 : v83 = v7 := by rw [t_v7, t_v83]
                                                subst d_v7
                                                refine ok_if (fun C180 => ?_) (fun C180 => ?_)
                                                · skip
                                                  exact ok_ret ⟨Y_h5, N_h5, K179, by omega, by omega, by omega, fun y => by have y : h5 160 9 = 0 := y; show 0 ≤ v14; omega⟩
                                                · skip
                                                  exfalso; omega
                                          · skip
                                            refine ok_rd (by omega) (gA_168 Y_u28.1) ?_; intro v21 e_v21 a_v21 b_v21
                                            have t_v21 : v21 = t 168 (a1).toNat := by rw [e_v21]; exact Y_u28.2.1 168 _ (nw_ar rfl _)
                                            have d_v21 : v35 = v21 := by rw [t_v21, t_v35]
                                            subst d_v21
                                            refine ok_sv (vy_wrong hn Y_u28 (by omega) (by omega)) ?_; intro u23 P_u23
                                            obtain ⟨Y_u23, K_u23, x_u23⟩ := P_u23
                                            obtain ⟨k1_u23, k2_u23, k3_u23, k4_u23, k5_u23, k6_u23, k7_u23⟩ := K_u23.1
                                            have N_u23 : MI t u23 := mi_dead x_u23
                                            have K181 := ke_tr K169 K_u23
                                            unfold qj_X13_rule_539
                                            refine ok_mul (by omega) ?_; intro v13 e_v13
                                            refine ok_add (by omega) ?_; intro v14 e_v14
                                            refine ok_sv vy_isThing ?_; intro u15 P_u15
                                            refine ok_if (fun C182 => ?_) (fun C182 => ?_)
                                            · skip
                                              unfold qj_X13_rule_562
                                              refine ok_rd (by omega) (gA_168 Y_u23.1) ?_; intro v10 e_v10 a_v10 b_v10
                                              have t_v10 : v10 = t 168 (a1).toNat := by rw [e_v10]; exact Y_u23.2.1 168 _ (nw_ar rfl _)
                                              have d_v10 : v35 = v10 := by rw [t_v10, t_v35]
                                              subst d_v10
                                              refine ok_sv (vy_wrong hn Y_u23 (by omega) (by omega)) ?_; intro u12 P_u12
                                              obtain ⟨Y_u12, K_u12, x_u12⟩ := P_u12
                                              obtain ⟨k1_u12, k2_u12, k3_u12, k4_u12, k5_u12, k6_u12, k7_u12⟩ := K_u12.1
                                              have N_u12 : MI t u12 := mi_dead x_u12
                                              have K183 := ke_tr K181 K_u12
                                              unfold qj_X13_rule_574
                                              refine ok_wA (by omega) ?_; intro h5 E_h5
                                              obtain ⟨Y_h5, K_h5⟩ := yi_176 Y_u12 (by omega) (by omega) (by omega) E_h5
                                              obtain ⟨k1_h5, k2_h5, k3_h5, k4_h5, k5_h5, k6_h5, k7_h5⟩ := K_h5.1
                                              have s_h5 : h5 176 (a1).toNat = v14 := by rw [E_h5]; exact up_s
                                              have N_h5 := mi_up N_u12 E_h5 (by decide)
                                              have K184 := ke_tr K183 K_h5
                                              refine ok_rd (by omega) (gA_167 Y_h5.1) ?_; intro v7 e_v7 a_v7 b_v7
                                              have t_v7 : v7 = t 167 (a1).toNat := by rw [e_v7]; exact Y_h5.2.1 167 _ (nw_ar rfl _)
                                              have d_v7 : v83 = v7 := by rw [t_v7, t_v83]
                                              subst d_v7
                                              refine ok_if (fun C185 => ?_) (fun C185 => ?_)
                                              · skip
                                                exact ok_ret ⟨Y_h5, N_h5, K184, by omega, by omega, by omega, fun y => by have y : h5 160 9 = 0 := y; show 0 ≤ v14; omega⟩
                                              · skip
                                                exfalso; omega
                                            · skip
                                              refine ok_sv (vy_goTogether hn Y_u23 S (by omega) (by omega)) ?_; intro u17 P_u17
                                              refine ok_if (fun C186 => ?_) (fun C186 => ?_)
                                              · skip
                                                unfold qj_X13_rule_574
                                                refine ok_wA (by omega) ?_; intro h5 E_h5
                                                obtain ⟨Y_h5, K_h5⟩ := yi_176 Y_u23 (by omega) (by omega) (by omega) E_h5
                                                obtain ⟨k1_h5, k2_h5, k3_h5, k4_h5, k5_h5, k6_h5, k7_h5⟩ := K_h5.1
                                                have s_h5 : h5 176 (a1).toNat = v14 := by rw [E_h5]; exact up_s
                                                have N_h5 := mi_up N_u23 E_h5 (by decide)
                                                have K187 := ke_tr K181 K_h5
                                                refine ok_rd (by omega) (gA_167 Y_h5.1) ?_; intro v7 e_v7 a_v7 b_v7
                                                have t_v7 : v7 = t 167 (a1).toNat := by rw [e_v7]; exact Y_h5.2.1 167 _ (nw_ar rfl _)
                                                have d_v7 : v83 = v7 := by rw [t_v7, t_v83]
                                                subst d_v7
                                                refine ok_if (fun C188 => ?_) (fun C188 => ?_)
                                                · skip
                                                  exact ok_ret ⟨Y_h5, N_h5, K187, by omega, by omega, by omega, fun y => by have y : h5 160 9 = 0 := y; show 0 ≤ v14; omega⟩
                                                · skip
                                                  exfalso; omega
                                              · skip
                                                unfold qj_X13_rule_562
                                                refine ok_rd (by omega) (gA_168 Y_u23.1) ?_; intro v10 e_v10 a_v10 b_v10
                                                have t_v10 : v10 = t 168 (a1).toNat := by rw [e_v10]; exact Y_u23.2.1 168 _ (nw_ar rfl _)
                                                have d_v10 : v35 = v10 := by rw [t_v10, t_v35]
                                                subst d_v10
                                                refine ok_sv (vy_wrong hn Y_u23 (by omega) (by omega)) ?_; intro u12 P_u12
                                                obtain ⟨Y_u12, K_u12, x_u12⟩ := P_u12
                                                obtain ⟨k1_u12, k2_u12, k3_u12, k4_u12, k5_u12, k6_u12, k7_u12⟩ := K_u12.1
                                                have N_u12 : MI t u12 := mi_dead x_u12
                                                have K189 := ke_tr K181 K_u12
                                                unfold qj_X13_rule_574
                                                refine ok_wA (by omega) ?_; intro h5 E_h5
                                                obtain ⟨Y_h5, K_h5⟩ := yi_176 Y_u12 (by omega) (by omega) (by omega) E_h5
                                                obtain ⟨k1_h5, k2_h5, k3_h5, k4_h5, k5_h5, k6_h5, k7_h5⟩ := K_h5.1
                                                have s_h5 : h5 176 (a1).toNat = v14 := by rw [E_h5]; exact up_s
                                                have N_h5 := mi_up N_u12 E_h5 (by decide)
                                                have K190 := ke_tr K189 K_h5
                                                refine ok_rd (by omega) (gA_167 Y_h5.1) ?_; intro v7 e_v7 a_v7 b_v7
                                                have t_v7 : v7 = t 167 (a1).toNat := by rw [e_v7]; exact Y_h5.2.1 167 _ (nw_ar rfl _)
                                                have d_v7 : v83 = v7 := by rw [t_v7, t_v83]
                                                subst d_v7
                                                refine ok_if (fun C191 => ?_) (fun C191 => ?_)
                                                · skip
                                                  exact ok_ret ⟨Y_h5, N_h5, K190, by omega, by omega, by omega, fun y => by have y : h5 160 9 = 0 := y; show 0 ≤ v14; omega⟩
                                                · skip
                                                  exfalso; omega
                                        · skip
                                          refine ok_rd (by omega) (gA_170 Y_u43.1) ?_; intro v30 e_v30 a_v30 b_v30
                                          have t_v30 : v30 = t 170 (a1).toNat := by rw [e_v30]; exact Y_u43.2.1 170 _ (nw_ar rfl _)
                                          have c192 : TE 1 t 0 (d - 2 - 2 * 1) (a1 + 1) b v30 := by rw [t_v30]; exact te_k33 T (by omega)
                                          have rc192 := te_rg c192
                                          refine ok_sv (G.2.1 v30 _ _ _ u43 Y_u43 N_u43 c192 (by omega) (by omega) (by omega)) ?_; intro u32 P_u32
                                          obtain ⟨Y_u32, N_u32, K_u32, r1_u32, r2_u32, r3_u32, r4_u32⟩ := P_u32
                                          obtain ⟨k1_u32, k2_u32, k3_u32, k4_u32, k5_u32, k6_u32, k7_u32⟩ := K_u32.1
                                          have K193 := ke_tr K167 K_u32
                                          unfold qj_X13_rule_522
                                          refine ok_if (fun C194 => ?_) (fun C194 => ?_)
                                          · skip
                                            unfold qj_X13_rule_539
                                            refine ok_mul (by omega) ?_; intro v13 e_v13
                                            refine ok_add (by omega) ?_; intro v14 e_v14
                                            refine ok_sv vy_isThing ?_; intro u15 P_u15
                                            refine ok_if (fun C195 => ?_) (fun C195 => ?_)
                                            · skip
                                              unfold qj_X13_rule_562
                                              refine ok_rd (by omega) (gA_168 Y_u32.1) ?_; intro v10 e_v10 a_v10 b_v10
                                              have t_v10 : v10 = t 168 (a1).toNat := by rw [e_v10]; exact Y_u32.2.1 168 _ (nw_ar rfl _)
                                              have d_v10 : v35 = v10 := by rw [t_v10, t_v35]
                                              subst d_v10
                                              refine ok_sv (vy_wrong hn Y_u32 (by omega) (by omega)) ?_; intro u12 P_u12
                                              obtain ⟨Y_u12, K_u12, x_u12⟩ := P_u12
                                              obtain ⟨k1_u12, k2_u12, k3_u12, k4_u12, k5_u12, k6_u12, k7_u12⟩ := K_u12.1
                                              have N_u12 : MI t u12 := mi_dead x_u12
                                              have K196 := ke_tr K193 K_u12
                                              unfold qj_X13_rule_574
                                              refine ok_wA (by omega) ?_; intro h5 E_h5
                                              obtain ⟨Y_h5, K_h5⟩ := yi_176 Y_u12 (by omega) (by omega) (by omega) E_h5
                                              obtain ⟨k1_h5, k2_h5, k3_h5, k4_h5, k5_h5, k6_h5, k7_h5⟩ := K_h5.1
                                              have s_h5 : h5 176 (a1).toNat = v14 := by rw [E_h5]; exact up_s
                                              have N_h5 := mi_up N_u12 E_h5 (by decide)
                                              have K197 := ke_tr K196 K_h5
                                              refine ok_rd (by omega) (gA_167 Y_h5.1) ?_; intro v7 e_v7 a_v7 b_v7
                                              have t_v7 : v7 = t 167 (a1).toNat := by rw [e_v7]; exact Y_h5.2.1 167 _ (nw_ar rfl _)
                                              have d_v7 : v83 = v7 := by rw [t_v7, t_v83]
                                              subst d_v7
                                              refine ok_if (fun C198 => ?_) (fun C198 => ?_)
                                              · skip
                                                exact ok_ret ⟨Y_h5, N_h5, K197, by omega, by omega, by omega, fun y => by have y : h5 160 9 = 0 := y; show 0 ≤ v14; omega⟩
                                              · skip
                                                exfalso; omega
                                            · skip
                                              refine ok_sv (vy_goTogether hn Y_u32 S (by omega) (by omega)) ?_; intro u17 P_u17
                                              refine ok_if (fun C199 => ?_) (fun C199 => ?_)
                                              · skip
                                                unfold qj_X13_rule_574
                                                refine ok_wA (by omega) ?_; intro h5 E_h5
                                                obtain ⟨Y_h5, K_h5⟩ := yi_176 Y_u32 (by omega) (by omega) (by omega) E_h5
                                                obtain ⟨k1_h5, k2_h5, k3_h5, k4_h5, k5_h5, k6_h5, k7_h5⟩ := K_h5.1
                                                have s_h5 : h5 176 (a1).toNat = v14 := by rw [E_h5]; exact up_s
                                                have N_h5 := mi_up N_u32 E_h5 (by decide)
                                                have K200 := ke_tr K193 K_h5
                                                refine ok_rd (by omega) (gA_167 Y_h5.1) ?_; intro v7 e_v7 a_v7 b_v7
                                                have t_v7 : v7 = t 167 (a1).toNat := by rw [e_v7]; exact Y_h5.2.1 167 _ (nw_ar rfl _)
                                                have d_v7 : v83 = v7 := by rw [t_v7, t_v83]
                                                subst d_v7
                                                refine ok_if (fun C201 => ?_) (fun C201 => ?_)
                                                · skip
                                                  exact ok_ret ⟨Y_h5, N_h5, K200, by omega, by omega, by omega, fun y => by have y : h5 160 9 = 0 := y; show 0 ≤ v14; omega⟩
                                                · skip
                                                  exfalso; omega
                                              · skip
                                                unfold qj_X13_rule_562
                                                refine ok_rd (by omega) (gA_168 Y_u32.1) ?_; intro v10 e_v10 a_v10 b_v10
                                                have t_v10 : v10 = t 168 (a1).toNat := by rw [e_v10]; exact Y_u32.2.1 168 _ (nw_ar rfl _)
                                                have d_v10 : v35 = v10 := by rw [t_v10, t_v35]
                                                subst d_v10
                                                refine ok_sv (vy_wrong hn Y_u32 (by omega) (by omega)) ?_; intro u12 P_u12
                                                obtain ⟨Y_u12, K_u12, x_u12⟩ := P_u12
                                                obtain ⟨k1_u12, k2_u12, k3_u12, k4_u12, k5_u12, k6_u12, k7_u12⟩ := K_u12.1
                                                have N_u12 : MI t u12 := mi_dead x_u12
                                                have K202 := ke_tr K193 K_u12
                                                unfold qj_X13_rule_574
                                                refine ok_wA (by omega) ?_; intro h5 E_h5
                                                obtain ⟨Y_h5, K_h5⟩ := yi_176 Y_u12 (by omega) (by omega) (by omega) E_h5
                                                obtain ⟨k1_h5, k2_h5, k3_h5, k4_h5, k5_h5, k6_h5, k7_h5⟩ := K_h5.1
                                                have s_h5 : h5 176 (a1).toNat = v14 := by rw [E_h5]; exact up_s
                                                have N_h5 := mi_up N_u12 E_h5 (by decide)
                                                have K203 := ke_tr K202 K_h5
                                                refine ok_rd (by omega) (gA_167 Y_h5.1) ?_; intro v7 e_v7 a_v7 b_v7
                                                have t_v7 : v7 = t 167 (a1).toNat := by rw [e_v7]; exact Y_h5.2.1 167 _ (nw_ar rfl _)
                                                have d_v7 : v83 = v7 := by rw [t_v7, t_v83]
                                                subst d_v7
                                                refine ok_if (fun C204 => ?_) (fun C204 => ?_)
                                                · skip
                                                  exact ok_ret ⟨Y_h5, N_h5, K203, by omega, by omega, by omega, fun y => by have y : h5 160 9 = 0 := y; show 0 ≤ v14; omega⟩
                                                · skip
                                                  exfalso; omega
                                          · skip
                                            refine ok_rd (by omega) (gA_168 Y_u32.1) ?_; intro v21 e_v21 a_v21 b_v21
                                            have t_v21 : v21 = t 168 (a1).toNat := by rw [e_v21]; exact Y_u32.2.1 168 _ (nw_ar rfl _)
                                            have d_v21 : v35 = v21 := by rw [t_v21, t_v35]
                                            subst d_v21
                                            refine ok_sv (vy_wrong hn Y_u32 (by omega) (by omega)) ?_; intro u23 P_u23
                                            obtain ⟨Y_u23, K_u23, x_u23⟩ := P_u23
                                            obtain ⟨k1_u23, k2_u23, k3_u23, k4_u23, k5_u23, k6_u23, k7_u23⟩ := K_u23.1
                                            have N_u23 : MI t u23 := mi_dead x_u23
                                            have K205 := ke_tr K193 K_u23
                                            unfold qj_X13_rule_539
                                            refine ok_mul (by omega) ?_; intro v13 e_v13
                                            refine ok_add (by omega) ?_; intro v14 e_v14
                                            refine ok_sv vy_isThing ?_; intro u15 P_u15
                                            refine ok_if (fun C206 => ?_) (fun C206 => ?_)
                                            · skip
                                              unfold qj_X13_rule_562
                                              refine ok_rd (by omega) (gA_168 Y_u23.1) ?_; intro v10 e_v10 a_v10 b_v10
                                              have t_v10 : v10 = t 168 (a1).toNat := by rw [e_v10]; exact Y_u23.2.1 168 _ (nw_ar rfl _)
                                              have d_v10 : v35 = v10 := by rw [t_v10, t_v35]
                                              subst d_v10
                                              refine ok_sv (vy_wrong hn Y_u23 (by omega) (by omega)) ?_; intro u12 P_u12
                                              obtain ⟨Y_u12, K_u12, x_u12⟩ := P_u12
                                              obtain ⟨k1_u12, k2_u12, k3_u12, k4_u12, k5_u12, k6_u12, k7_u12⟩ := K_u12.1
                                              have N_u12 : MI t u12 := mi_dead x_u12
                                              have K207 := ke_tr K205 K_u12
                                              unfold qj_X13_rule_574
                                              refine ok_wA (by omega) ?_; intro h5 E_h5
                                              obtain ⟨Y_h5, K_h5⟩ := yi_176 Y_u12 (by omega) (by omega) (by omega) E_h5
                                              obtain ⟨k1_h5, k2_h5, k3_h5, k4_h5, k5_h5, k6_h5, k7_h5⟩ := K_h5.1
                                              have s_h5 : h5 176 (a1).toNat = v14 := by rw [E_h5]; exact up_s
                                              have N_h5 := mi_up N_u12 E_h5 (by decide)
                                              have K208 := ke_tr K207 K_h5
                                              refine ok_rd (by omega) (gA_167 Y_h5.1) ?_; intro v7 e_v7 a_v7 b_v7
                                              have t_v7 : v7 = t 167 (a1).toNat := by rw [e_v7]; exact Y_h5.2.1 167 _ (nw_ar rfl _)
                                              have d_v7 : v83 = v7 := by rw [t_v7, t_v83]
                                              subst d_v7
                                              refine ok_if (fun C209 => ?_) (fun C209 => ?_)
                                              · skip
                                                exact ok_ret ⟨Y_h5, N_h5, K208, by omega, by omega, by omega, fun y => by have y : h5 160 9 = 0 := y; show 0 ≤ v14; omega⟩
                                              · skip
                                                exfalso; omega
                                            · skip
                                              refine ok_sv (vy_goTogether hn Y_u23 S (by omega) (by omega)) ?_; intro u17 P_u17
                                              refine ok_if (fun C210 => ?_) (fun C210 => ?_)
                                              · skip
                                                unfold qj_X13_rule_574
                                                refine ok_wA (by omega) ?_; intro h5 E_h5
                                                obtain ⟨Y_h5, K_h5⟩ := yi_176 Y_u23 (by omega) (by omega) (by omega) E_h5
                                                obtain ⟨k1_h5, k2_h5, k3_h5, k4_h5, k5_h5, k6_h5, k7_h5⟩ := K_h5.1
                                                have s_h5 : h5 176 (a1).toNat = v14 := by rw [E_h5]; exact up_s
                                                have N_h5 := mi_up N_u23 E_h5 (by decide)
                                                have K211 := ke_tr K205 K_h5
                                                refine ok_rd (by omega) (gA_167 Y_h5.1) ?_; intro v7 e_v7 a_v7 b_v7
                                                have t_v7 : v7 = t 167 (a1).toNat := by rw [e_v7]; exact Y_h5.2.1 167 _ (nw_ar rfl _)
                                                have d_v7 : v83 = v7 := by rw [t_v7, t_v83]
                                                subst d_v7
                                                refine ok_if (fun C212 => ?_) (fun C212 => ?_)
                                                · skip
                                                  exact ok_ret ⟨Y_h5, N_h5, K211, by omega, by omega, by omega, fun y => by have y : h5 160 9 = 0 := y; show 0 ≤ v14; omega⟩
                                                · skip
                                                  exfalso; omega
                                              · skip
                                                unfold qj_X13_rule_562
                                                refine ok_rd (by omega) (gA_168 Y_u23.1) ?_; intro v10 e_v10 a_v10 b_v10
                                                have t_v10 : v10 = t 168 (a1).toNat := by rw [e_v10]; exact Y_u23.2.1 168 _ (nw_ar rfl _)
                                                have d_v10 : v35 = v10 := by rw [t_v10, t_v35]
                                                subst d_v10
                                                refine ok_sv (vy_wrong hn Y_u23 (by omega) (by omega)) ?_; intro u12 P_u12
                                                obtain ⟨Y_u12, K_u12, x_u12⟩ := P_u12
                                                obtain ⟨k1_u12, k2_u12, k3_u12, k4_u12, k5_u12, k6_u12, k7_u12⟩ := K_u12.1
                                                have N_u12 : MI t u12 := mi_dead x_u12
                                                have K213 := ke_tr K205 K_u12
                                                unfold qj_X13_rule_574
                                                refine ok_wA (by omega) ?_; intro h5 E_h5
                                                obtain ⟨Y_h5, K_h5⟩ := yi_176 Y_u12 (by omega) (by omega) (by omega) E_h5
                                                obtain ⟨k1_h5, k2_h5, k3_h5, k4_h5, k5_h5, k6_h5, k7_h5⟩ := K_h5.1
                                                have s_h5 : h5 176 (a1).toNat = v14 := by rw [E_h5]; exact up_s
                                                have N_h5 := mi_up N_u12 E_h5 (by decide)
                                                have K214 := ke_tr K213 K_h5
                                                refine ok_rd (by omega) (gA_167 Y_h5.1) ?_; intro v7 e_v7 a_v7 b_v7
                                                have t_v7 : v7 = t 167 (a1).toNat := by rw [e_v7]; exact Y_h5.2.1 167 _ (nw_ar rfl _)
                                                have d_v7 : v83 = v7 := by rw [t_v7, t_v83]
                                                subst d_v7
                                                refine ok_if (fun C215 => ?_) (fun C215 => ?_)
                                                · skip
                                                  exact ok_ret ⟨Y_h5, N_h5, K214, by omega, by omega, by omega, fun y => by have y : h5 160 9 = 0 := y; show 0 ≤ v14; omega⟩
                                                · skip
                                                  exfalso; omega
                                  · skip
                                    refine ok_if (fun C216 => ?_) (fun C216 => ?_)
                                    · skip
                                      refine ok_sv (G.2.2.2.2.1 a1 _ _ _ h Y0 N0 T (by omega) (by omega) (by omega) (by omega)) ?_; intro u181 P_u181
                                      obtain ⟨Y_u181, N_u181, K_u181, r1_u181, r2_u181, r3_u181, r4_u181⟩ := P_u181
                                      obtain ⟨k1_u181, k2_u181, k3_u181, k4_u181, k5_u181, k6_u181, k7_u181⟩ := K_u181.1
                                      have K217 := ke_tr K0 K_u181
                                      exact ok_ret ⟨Y_u181, N_u181, K217, by omega, by omega, by omega, fun y => by have y : u181.2 160 9 = 0 := y; show 0 ≤ u181.1; omega⟩
                                    · skip
                                      refine ok_if (fun C218 => ?_) (fun C218 => ?_)
                                      · skip
                                        unfold qj_X13_rule_455
                                        refine ok_rd (by omega) (gA_168 Y0.1) ?_; intro v35 e_v35 a_v35 b_v35
                                        have t_v35 : v35 = t 168 (a1).toNat := by rw [e_v35]; exact Y0.2.1 168 _ (nw_ar rfl _)
                                        refine ok_sv (vy_classOf hn Y0 S (by omega)) ?_; intro u37 P_u37
                                        refine ok_if (fun C219 => ?_) (fun C219 => ?_)
                                        · skip
                                          unfold qj_X13_rule_493
                                          refine ok_rd (by omega) (gA_167 Y0.1) ?_; intro v26 e_v26 a_v26 b_v26
                                          have t_v26 : v26 = t 167 (a1).toNat := by rw [e_v26]; exact Y0.2.1 167 _ (nw_ar rfl _)
                                          have d_v26 : v83 = v26 := by rw [t_v26, t_v83]
                                          subst d_v26
                                          refine ok_if (fun C220 => ?_) (fun C220 => ?_)
                                          · skip
                                            refine ok_sv (vy_led hn S Y0 N0 T (by omega) (by omega)) ?_; intro u28 P_u28
                                            have p5_u28 := P_u28.2; replace P_u28 := P_u28.1
                                            obtain ⟨Y_u28, N_u28, K_u28, r1_u28, r2_u28, r3_u28, r4_u28⟩ := P_u28
                                            obtain ⟨k1_u28, k2_u28, k3_u28, k4_u28, k5_u28, k6_u28, k7_u28⟩ := K_u28.1
                                            have K221 := ke_tr K0 K_u28
                                            unfold qj_X13_rule_522
                                            refine ok_if (fun C222 => ?_) (fun C222 => ?_)
                                            · skip
                                              unfold qj_X13_rule_539
                                              refine ok_mul (by omega) ?_; intro v13 e_v13
                                              refine ok_add (by omega) ?_; intro v14 e_v14
                                              refine ok_sv vy_isThing ?_; intro u15 P_u15
                                              refine ok_if (fun C223 => ?_) (fun C223 => ?_)
                                              · skip
                                                unfold qj_X13_rule_562
                                                refine ok_rd (by omega) (gA_168 Y_u28.1) ?_; intro v10 e_v10 a_v10 b_v10
                                                have t_v10 : v10 = t 168 (a1).toNat := by rw [e_v10]; exact Y_u28.2.1 168 _ (nw_ar rfl _)
                                                have d_v10 : v35 = v10 := by rw [t_v10, t_v35]
                                                subst d_v10
                                                refine ok_sv (vy_wrong hn Y_u28 (by omega) (by omega)) ?_; intro u12 P_u12
                                                obtain ⟨Y_u12, K_u12, x_u12⟩ := P_u12
                                                obtain ⟨k1_u12, k2_u12, k3_u12, k4_u12, k5_u12, k6_u12, k7_u12⟩ := K_u12.1
                                                have N_u12 : MI t u12 := mi_dead x_u12
                                                have K224 := ke_tr K221 K_u12
                                                unfold qj_X13_rule_574
                                                refine ok_wA (by omega) ?_; intro h5 E_h5
                                                obtain ⟨Y_h5, K_h5⟩ := yi_176 Y_u12 (by omega) (by omega) (by omega) E_h5
                                                obtain ⟨k1_h5, k2_h5, k3_h5, k4_h5, k5_h5, k6_h5, k7_h5⟩ := K_h5.1
                                                have s_h5 : h5 176 (a1).toNat = v14 := by rw [E_h5]; exact up_s
                                                have N_h5 := mi_up N_u12 E_h5 (by decide)
                                                have K225 := ke_tr K224 K_h5
                                                refine ok_rd (by omega) (gA_167 Y_h5.1) ?_; intro v7 e_v7 a_v7 b_v7
                                                have t_v7 : v7 = t 167 (a1).toNat := by rw [e_v7]; exact Y_h5.2.1 167 _ (nw_ar rfl _)
                                                have d_v7 : v83 = v7 := by rw [t_v7, t_v83]
                                                subst d_v7
                                                refine ok_if (fun C226 => ?_) (fun C226 => ?_)
                                                · skip
                                                  exact ok_ret ⟨Y_h5, N_h5, K225, by omega, by omega, by omega, fun y => by have y : h5 160 9 = 0 := y; show 0 ≤ v14; omega⟩
                                                · skip
                                                  exact ok_ret ⟨Y_h5, N_h5, K225, by omega, by omega, by omega, fun y => by have y : h5 160 9 = 0 := y; show 0 ≤ 1; omega⟩
                                              · skip
                                                refine ok_sv (vy_goTogether hn Y_u28 S (by omega) (by omega)) ?_; intro u17 P_u17
                                                refine ok_if (fun C227 => ?_) (fun C227 => ?_)
                                                · skip
                                                  unfold qj_X13_rule_574
                                                  refine ok_wA (by omega) ?_; intro h5 E_h5
                                                  obtain ⟨Y_h5, K_h5⟩ := yi_176 Y_u28 (by omega) (by omega) (by omega) E_h5
                                                  obtain ⟨k1_h5, k2_h5, k3_h5, k4_h5, k5_h5, k6_h5, k7_h5⟩ := K_h5.1
                                                  have s_h5 : h5 176 (a1).toNat = v14 := by rw [E_h5]; exact up_s
                                                  have N_h5 := mi_up N_u28 E_h5 (by decide)
                                                  have K228 := ke_tr K221 K_h5
                                                  refine ok_rd (by omega) (gA_167 Y_h5.1) ?_; intro v7 e_v7 a_v7 b_v7
                                                  have t_v7 : v7 = t 167 (a1).toNat := by rw [e_v7]; exact Y_h5.2.1 167 _ (nw_ar rfl _)
                                                  have d_v7 : v83 = v7 := by rw [t_v7, t_v83]
                                                  subst d_v7
                                                  refine ok_if (fun C229 => ?_) (fun C229 => ?_)
                                                  · skip
                                                    exact ok_ret ⟨Y_h5, N_h5, K228, by omega, by omega, by omega, fun y => by have y : h5 160 9 = 0 := y; show 0 ≤ v14; omega⟩
                                                  · skip
                                                    exact ok_ret ⟨Y_h5, N_h5, K228, by omega, by omega, by omega, fun y => by have y : h5 160 9 = 0 := y; show 0 ≤ 1; omega⟩
                                                · skip
                                                  unfold qj_X13_rule_562
                                                  refine ok_rd (by omega) (gA_168 Y_u28.1) ?_; intro v10 e_v10 a_v10 b_v10
                                                  have t_v10 : v10 = t 168 (a1).toNat := by rw [e_v10]; exact Y_u28.2.1 168 _ (nw_ar rfl _)
                                                  have d_v10 : v35 = v10 := by rw [t_v10, t_v35]
                                                  subst d_v10
                                                  refine ok_sv (vy_wrong hn Y_u28 (by omega) (by omega)) ?_; intro u12 P_u12
                                                  obtain ⟨Y_u12, K_u12, x_u12⟩ := P_u12
                                                  obtain ⟨k1_u12, k2_u12, k3_u12, k4_u12, k5_u12, k6_u12, k7_u12⟩ := K_u12.1
                                                  have N_u12 : MI t u12 := mi_dead x_u12
                                                  have K230 := ke_tr K221 K_u12
                                                  unfold qj_X13_rule_574
                                                  refine ok_wA (by omega) ?_; intro h5 E_h5
                                                  obtain ⟨Y_h5, K_h5⟩ := yi_176 Y_u12 (by omega) (by omega) (by omega) E_h5
                                                  obtain ⟨k1_h5, k2_h5, k3_h5, k4_h5, k5_h5, k6_h5, k7_h5⟩ := K_h5.1
                                                  have s_h5 : h5 176 (a1).toNat = v14 := by rw [E_h5]; exact up_s
                                                  have N_h5 := mi_up N_u12 E_h5 (by decide)
                                                  have K231 := ke_tr K230 K_h5
                                                  refine ok_rd (by omega) (gA_167 Y_h5.1) ?_; intro v7 e_v7 a_v7 b_v7
                                                  have t_v7 : v7 = t 167 (a1).toNat := by rw [e_v7]; exact Y_h5.2.1 167 _ (nw_ar rfl _)
                                                  have d_v7 : v83 = v7 := by rw [t_v7, t_v83]
                                                  subst d_v7
                                                  refine ok_if (fun C232 => ?_) (fun C232 => ?_)
                                                  · skip
                                                    exact ok_ret ⟨Y_h5, N_h5, K231, by omega, by omega, by omega, fun y => by have y : h5 160 9 = 0 := y; show 0 ≤ v14; omega⟩
                                                  · skip
                                                    exact ok_ret ⟨Y_h5, N_h5, K231, by omega, by omega, by omega, fun y => by have y : h5 160 9 = 0 := y; show 0 ≤ 1; omega⟩
                                            · skip
                                              refine ok_rd (by omega) (gA_168 Y_u28.1) ?_; intro v21 e_v21 a_v21 b_v21
                                              have t_v21 : v21 = t 168 (a1).toNat := by rw [e_v21]; exact Y_u28.2.1 168 _ (nw_ar rfl _)
                                              have d_v21 : v35 = v21 := by rw [t_v21, t_v35]
                                              subst d_v21
                                              refine ok_sv (vy_wrong hn Y_u28 (by omega) (by omega)) ?_; intro u23 P_u23
                                              obtain ⟨Y_u23, K_u23, x_u23⟩ := P_u23
                                              obtain ⟨k1_u23, k2_u23, k3_u23, k4_u23, k5_u23, k6_u23, k7_u23⟩ := K_u23.1
                                              have N_u23 : MI t u23 := mi_dead x_u23
                                              have K233 := ke_tr K221 K_u23
                                              unfold qj_X13_rule_539
                                              refine ok_mul (by omega) ?_; intro v13 e_v13
                                              refine ok_add (by omega) ?_; intro v14 e_v14
                                              refine ok_sv vy_isThing ?_; intro u15 P_u15
                                              refine ok_if (fun C234 => ?_) (fun C234 => ?_)
                                              · skip
                                                unfold qj_X13_rule_562
                                                refine ok_rd (by omega) (gA_168 Y_u23.1) ?_; intro v10 e_v10 a_v10 b_v10
                                                have t_v10 : v10 = t 168 (a1).toNat := by rw [e_v10]; exact Y_u23.2.1 168 _ (nw_ar rfl _)
                                                have d_v10 : v35 = v10 := by rw [t_v10, t_v35]
                                                subst d_v10
                                                refine ok_sv (vy_wrong hn Y_u23 (by omega) (by omega)) ?_; intro u12 P_u12
                                                obtain ⟨Y_u12, K_u12, x_u12⟩ := P_u12
                                                obtain ⟨k1_u12, k2_u12, k3_u12, k4_u12, k5_u12, k6_u12, k7_u12⟩ := K_u12.1
                                                have N_u12 : MI t u12 := mi_dead x_u12
                                                have K235 := ke_tr K233 K_u12
                                                unfold qj_X13_rule_574
                                                refine ok_wA (by omega) ?_; intro h5 E_h5
                                                obtain ⟨Y_h5, K_h5⟩ := yi_176 Y_u12 (by omega) (by omega) (by omega) E_h5
                                                obtain ⟨k1_h5, k2_h5, k3_h5, k4_h5, k5_h5, k6_h5, k7_h5⟩ := K_h5.1
                                                have s_h5 : h5 176 (a1).toNat = v14 := by rw [E_h5]; exact up_s
                                                have N_h5 := mi_up N_u12 E_h5 (by decide)
                                                have K236 := ke_tr K235 K_h5
                                                refine ok_rd (by omega) (gA_167 Y_h5.1) ?_; intro v7 e_v7 a_v7 b_v7
                                                have t_v7 : v7 = t 167 (a1).toNat := by rw [e_v7]; exact Y_h5.2.1 167 _ (nw_ar rfl _)
                                                have d_v7 : v83 = v7 := by rw [t_v7, t_v83]
                                                subst d_v7
                                                refine ok_if (fun C237 => ?_) (fun C237 => ?_)
                                                · skip
                                                  exact ok_ret ⟨Y_h5, N_h5, K236, by omega, by omega, by omega, fun y => by have y : h5 160 9 = 0 := y; show 0 ≤ v14; omega⟩
                                                · skip
                                                  exact ok_ret ⟨Y_h5, N_h5, K236, by omega, by omega, by omega, fun y => by have y : h5 160 9 = 0 := y; show 0 ≤ 1; omega⟩
                                              · skip
                                                refine ok_sv (vy_goTogether hn Y_u23 S (by omega) (by omega)) ?_; intro u17 P_u17
                                                refine ok_if (fun C238 => ?_) (fun C238 => ?_)
                                                · skip
                                                  unfold qj_X13_rule_574
                                                  refine ok_wA (by omega) ?_; intro h5 E_h5
                                                  obtain ⟨Y_h5, K_h5⟩ := yi_176 Y_u23 (by omega) (by omega) (by omega) E_h5
                                                  obtain ⟨k1_h5, k2_h5, k3_h5, k4_h5, k5_h5, k6_h5, k7_h5⟩ := K_h5.1
                                                  have s_h5 : h5 176 (a1).toNat = v14 := by rw [E_h5]; exact up_s
                                                  have N_h5 := mi_up N_u23 E_h5 (by decide)
                                                  have K239 := ke_tr K233 K_h5
                                                  refine ok_rd (by omega) (gA_167 Y_h5.1) ?_; intro v7 e_v7 a_v7 b_v7
                                                  have t_v7 : v7 = t 167 (a1).toNat := by rw [e_v7]; exact Y_h5.2.1 167 _ (nw_ar rfl _)
                                                  have d_v7 : v83 = v7 := by rw [t_v7, t_v83]
                                                  subst d_v7
                                                  refine ok_if (fun C240 => ?_) (fun C240 => ?_)
                                                  · skip
                                                    exact ok_ret ⟨Y_h5, N_h5, K239, by omega, by omega, by omega, fun y => by have y : h5 160 9 = 0 := y; show 0 ≤ v14; omega⟩
                                                  · skip
                                                    exact ok_ret ⟨Y_h5, N_h5, K239, by omega, by omega, by omega, fun y => by have y : h5 160 9 = 0 := y; show 0 ≤ 1; omega⟩
                                                · skip
                                                  unfold qj_X13_rule_562
                                                  refine ok_rd (by omega) (gA_168 Y_u23.1) ?_; intro v10 e_v10 a_v10 b_v10
                                                  have t_v10 : v10 = t 168 (a1).toNat := by rw [e_v10]; exact Y_u23.2.1 168 _ (nw_ar rfl _)
                                                  have d_v10 : v35 = v10 := by rw [t_v10, t_v35]
                                                  subst d_v10
                                                  refine ok_sv (vy_wrong hn Y_u23 (by omega) (by omega)) ?_; intro u12 P_u12
                                                  obtain ⟨Y_u12, K_u12, x_u12⟩ := P_u12
                                                  obtain ⟨k1_u12, k2_u12, k3_u12, k4_u12, k5_u12, k6_u12, k7_u12⟩ := K_u12.1
                                                  have N_u12 : MI t u12 := mi_dead x_u12
                                                  have K241 := ke_tr K233 K_u12
                                                  unfold qj_X13_rule_574
                                                  refine ok_wA (by omega) ?_; intro h5 E_h5
                                                  obtain ⟨Y_h5, K_h5⟩ := yi_176 Y_u12 (by omega) (by omega) (by omega) E_h5
                                                  obtain ⟨k1_h5, k2_h5, k3_h5, k4_h5, k5_h5, k6_h5, k7_h5⟩ := K_h5.1
                                                  have s_h5 : h5 176 (a1).toNat = v14 := by rw [E_h5]; exact up_s
                                                  have N_h5 := mi_up N_u12 E_h5 (by decide)
                                                  have K242 := ke_tr K241 K_h5
                                                  refine ok_rd (by omega) (gA_167 Y_h5.1) ?_; intro v7 e_v7 a_v7 b_v7
                                                  have t_v7 : v7 = t 167 (a1).toNat := by rw [e_v7]; exact Y_h5.2.1 167 _ (nw_ar rfl _)
                                                  have d_v7 : v83 = v7 := by rw [t_v7, t_v83]
                                                  subst d_v7
                                                  refine ok_if (fun C243 => ?_) (fun C243 => ?_)
                                                  · skip
                                                    exact ok_ret ⟨Y_h5, N_h5, K242, by omega, by omega, by omega, fun y => by have y : h5 160 9 = 0 := y; show 0 ≤ v14; omega⟩
                                                  · skip
                                                    exact ok_ret ⟨Y_h5, N_h5, K242, by omega, by omega, by omega, fun y => by have y : h5 160 9 = 0 := y; show 0 ≤ 1; omega⟩
                                          · skip
                                            exfalso; omega
                                        · skip
                                          refine ok_rd (by omega) (gA_167 Y0.1) ?_; intro v39 e_v39 a_v39 b_v39
                                          have t_v39 : v39 = t 167 (a1).toNat := by rw [e_v39]; exact Y0.2.1 167 _ (nw_ar rfl _)
                                          have d_v39 : v83 = v39 := by rw [t_v39, t_v83]
                                          subst d_v39
                                          refine ok_if (fun C244 => ?_) (fun C244 => ?_)
                                          · skip
                                            unfold qj_X13_rule_493
                                            refine ok_rd (by omega) (gA_167 Y0.1) ?_; intro v26 e_v26 a_v26 b_v26
                                            have t_v26 : v26 = t 167 (a1).toNat := by rw [e_v26]; exact Y0.2.1 167 _ (nw_ar rfl _)
                                            have d_v26 : v83 = v26 := by rw [t_v26, t_v83]
                                            subst d_v26
                                            refine ok_if (fun C245 => ?_) (fun C245 => ?_)
                                            · skip
                                              refine ok_sv (vy_led hn S Y0 N0 T (by omega) (by omega)) ?_; intro u28 P_u28
                                              have p5_u28 := P_u28.2; replace P_u28 := P_u28.1
                                              obtain ⟨Y_u28, N_u28, K_u28, r1_u28, r2_u28, r3_u28, r4_u28⟩ := P_u28
                                              obtain ⟨k1_u28, k2_u28, k3_u28, k4_u28, k5_u28, k6_u28, k7_u28⟩ := K_u28.1
                                              have K246 := ke_tr K0 K_u28
                                              unfold qj_X13_rule_522
                                              refine ok_if (fun C247 => ?_) (fun C247 => ?_)
                                              · skip
                                                unfold qj_X13_rule_539
                                                refine ok_mul (by omega) ?_; intro v13 e_v13
                                                refine ok_add (by omega) ?_; intro v14 e_v14
                                                refine ok_sv vy_isThing ?_; intro u15 P_u15
                                                refine ok_if (fun C248 => ?_) (fun C248 => ?_)
                                                · skip
                                                  unfold qj_X13_rule_562
                                                  refine ok_rd (by omega) (gA_168 Y_u28.1) ?_; intro v10 e_v10 a_v10 b_v10
                                                  have t_v10 : v10 = t 168 (a1).toNat := by rw [e_v10]; exact Y_u28.2.1 168 _ (nw_ar rfl _)
                                                  have d_v10 : v35 = v10 := by rw [t_v10, t_v35]
                                                  subst d_v10
                                                  refine ok_sv (vy_wrong hn Y_u28 (by omega) (by omega)) ?_; intro u12 P_u12
                                                  obtain ⟨Y_u12, K_u12, x_u12⟩ := P_u12
                                                  obtain ⟨k1_u12, k2_u12, k3_u12, k4_u12, k5_u12, k6_u12, k7_u12⟩ := K_u12.1
                                                  have N_u12 : MI t u12 := mi_dead x_u12
                                                  have K249 := ke_tr K246 K_u12
                                                  unfold qj_X13_rule_574
                                                  refine ok_wA (by omega) ?_; intro h5 E_h5
                                                  obtain ⟨Y_h5, K_h5⟩ := yi_176 Y_u12 (by omega) (by omega) (by omega) E_h5
                                                  obtain ⟨k1_h5, k2_h5, k3_h5, k4_h5, k5_h5, k6_h5, k7_h5⟩ := K_h5.1
                                                  have s_h5 : h5 176 (a1).toNat = v14 := by rw [E_h5]; exact up_s
                                                  have N_h5 := mi_up N_u12 E_h5 (by decide)
                                                  have K250 := ke_tr K249 K_h5
                                                  refine ok_rd (by omega) (gA_167 Y_h5.1) ?_; intro v7 e_v7 a_v7 b_v7
                                                  have t_v7 : v7 = t 167 (a1).toNat := by rw [e_v7]; exact Y_h5.2.1 167 _ (nw_ar rfl _)
                                                  have d_v7 : v83 = v7 := by rw [t_v7, t_v83]
                                                  subst d_v7
                                                  refine ok_if (fun C251 => ?_) (fun C251 => ?_)
                                                  · skip
                                                    exact ok_ret ⟨Y_h5, N_h5, K250, by omega, by omega, by omega, fun y => by have y : h5 160 9 = 0 := y; show 0 ≤ v14; omega⟩
                                                  · skip
                                                    exact ok_ret ⟨Y_h5, N_h5, K250, by omega, by omega, by omega, fun y => by have y : h5 160 9 = 0 := y; show 0 ≤ 1; omega⟩
                                                · skip
                                                  refine ok_sv (vy_goTogether hn Y_u28 S (by omega) (by omega)) ?_; intro u17 P_u17
                                                  refine ok_if (fun C252 => ?_) (fun C252 => ?_)
                                                  · skip
                                                    unfold qj_X13_rule_574
                                                    refine ok_wA (by omega) ?_; intro h5 E_h5
                                                    obtain ⟨Y_h5, K_h5⟩ := yi_176 Y_u28 (by omega) (by omega) (by omega) E_h5
                                                    obtain ⟨k1_h5, k2_h5, k3_h5, k4_h5, k5_h5, k6_h5, k7_h5⟩ := K_h5.1
                                                    have s_h5 : h5 176 (a1).toNat = v14 := by rw [E_h5]; exact up_s
                                                    have N_h5 := mi_up N_u28 E_h5 (by decide)
                                                    have K253 := ke_tr K246 K_h5
                                                    refine ok_rd (by omega) (gA_167 Y_h5.1) ?_; intro v7 e_v7 a_v7 b_v7
                                                    have t_v7 : v7 = t 167 (a1).toNat := by rw [e_v7]; exact Y_h5.2.1 167 _ (nw_ar rfl _)
                                                    have d_v7 : v83 = v7 := by rw [t_v7, t_v83]
                                                    subst d_v7
                                                    refine ok_if (fun C254 => ?_) (fun C254 => ?_)
                                                    · skip
                                                      exact ok_ret ⟨Y_h5, N_h5, K253, by omega, by omega, by omega, fun y => by have y : h5 160 9 = 0 := y; show 0 ≤ v14; omega⟩
                                                    · skip
                                                      exact ok_ret ⟨Y_h5, N_h5, K253, by omega, by omega, by omega, fun y => by have y : h5 160 9 = 0 := y; show 0 ≤ 1; omega⟩
                                                  · skip
                                                    unfold qj_X13_rule_562
                                                    refine ok_rd (by omega) (gA_168 Y_u28.1) ?_; intro v10 e_v10 a_v10 b_v10
                                                    have t_v10 : v10 = t 168 (a1).toNat := by rw [e_v10]; exact Y_u28.2.1 168 _ (nw_ar rfl _)
                                                    have d_v10 : v35 = v10 := by rw [t_v10, t_v35]
                                                    subst d_v10
                                                    refine ok_sv (vy_wrong hn Y_u28 (by omega) (by omega)) ?_; intro u12 P_u12
                                                    obtain ⟨Y_u12, K_u12, x_u12⟩ := P_u12
                                                    obtain ⟨k1_u12, k2_u12, k3_u12, k4_u12, k5_u12, k6_u12, k7_u12⟩ := K_u12.1
                                                    have N_u12 : MI t u12 := mi_dead x_u12
                                                    have K255 := ke_tr K246 K_u12
                                                    unfold qj_X13_rule_574
                                                    refine ok_wA (by omega) ?_; intro h5 E_h5
                                                    obtain ⟨Y_h5, K_h5⟩ := yi_176 Y_u12 (by omega) (by omega) (by omega) E_h5
                                                    obtain ⟨k1_h5, k2_h5, k3_h5, k4_h5, k5_h5, k6_h5, k7_h5⟩ := K_h5.1
                                                    have s_h5 : h5 176 (a1).toNat = v14 := by rw [E_h5]; exact up_s
                                                    have N_h5 := mi_up N_u12 E_h5 (by decide)
                                                    have K256 := ke_tr K255 K_h5
                                                    refine ok_rd (by omega) (gA_167 Y_h5.1) ?_; intro v7 e_v7 a_v7 b_v7
                                                    have t_v7 : v7 = t 167 (a1).toNat := by rw [e_v7]; exact Y_h5.2.1 167 _ (nw_ar rfl _)
                                                    have d_v7 : v83 = v7 := by rw [t_v7, t_v83]
                                                    subst d_v7
                                                    refine ok_if (fun C257 => ?_) (fun C257 => ?_)
                                                    · skip
                                                      exact ok_ret ⟨Y_h5, N_h5, K256, by omega, by omega, by omega, fun y => by have y : h5 160 9 = 0 := y; show 0 ≤ v14; omega⟩
                                                    · skip
                                                      exact ok_ret ⟨Y_h5, N_h5, K256, by omega, by omega, by omega, fun y => by have y : h5 160 9 = 0 := y; show 0 ≤ 1; omega⟩
                                              · skip
                                                refine ok_rd (by omega) (gA_168 Y_u28.1) ?_; intro v21 e_v21 a_v21 b_v21
                                                have t_v21 : v21 = t 168 (a1).toNat := by rw [e_v21]; exact Y_u28.2.1 168 _ (nw_ar rfl _)
                                                have d_v21 : v35 = v21 := by rw [t_v21, t_v35]
                                                subst d_v21
                                                refine ok_sv (vy_wrong hn Y_u28 (by omega) (by omega)) ?_; intro u23 P_u23
                                                obtain ⟨Y_u23, K_u23, x_u23⟩ := P_u23
                                                obtain ⟨k1_u23, k2_u23, k3_u23, k4_u23, k5_u23, k6_u23, k7_u23⟩ := K_u23.1
                                                have N_u23 : MI t u23 := mi_dead x_u23
                                                have K258 := ke_tr K246 K_u23
                                                unfold qj_X13_rule_539
                                                refine ok_mul (by omega) ?_; intro v13 e_v13
                                                refine ok_add (by omega) ?_; intro v14 e_v14
                                                refine ok_sv vy_isThing ?_; intro u15 P_u15
                                                refine ok_if (fun C259 => ?_) (fun C259 => ?_)
                                                · skip
                                                  unfold qj_X13_rule_562
                                                  refine ok_rd (by omega) (gA_168 Y_u23.1) ?_; intro v10 e_v10 a_v10 b_v10
                                                  have t_v10 : v10 = t 168 (a1).toNat := by rw [e_v10]; exact Y_u23.2.1 168 _ (nw_ar rfl _)
                                                  have d_v10 : v35 = v10 := by rw [t_v10, t_v35]
                                                  subst d_v10
                                                  refine ok_sv (vy_wrong hn Y_u23 (by omega) (by omega)) ?_; intro u12 P_u12
                                                  obtain ⟨Y_u12, K_u12, x_u12⟩ := P_u12
                                                  obtain ⟨k1_u12, k2_u12, k3_u12, k4_u12, k5_u12, k6_u12, k7_u12⟩ := K_u12.1
                                                  have N_u12 : MI t u12 := mi_dead x_u12
                                                  have K260 := ke_tr K258 K_u12
                                                  unfold qj_X13_rule_574
                                                  refine ok_wA (by omega) ?_; intro h5 E_h5
                                                  obtain ⟨Y_h5, K_h5⟩ := yi_176 Y_u12 (by omega) (by omega) (by omega) E_h5
                                                  obtain ⟨k1_h5, k2_h5, k3_h5, k4_h5, k5_h5, k6_h5, k7_h5⟩ := K_h5.1
                                                  have s_h5 : h5 176 (a1).toNat = v14 := by rw [E_h5]; exact up_s
                                                  have N_h5 := mi_up N_u12 E_h5 (by decide)
                                                  have K261 := ke_tr K260 K_h5
                                                  refine ok_rd (by omega) (gA_167 Y_h5.1) ?_; intro v7 e_v7 a_v7 b_v7
                                                  have t_v7 : v7 = t 167 (a1).toNat := by rw [e_v7]; exact Y_h5.2.1 167 _ (nw_ar rfl _)
                                                  have d_v7 : v83 = v7 := by rw [t_v7, t_v83]
                                                  subst d_v7
                                                  refine ok_if (fun C262 => ?_) (fun C262 => ?_)
                                                  · skip
                                                    exact ok_ret ⟨Y_h5, N_h5, K261, by omega, by omega, by omega, fun y => by have y : h5 160 9 = 0 := y; show 0 ≤ v14; omega⟩
                                                  · skip
                                                    exact ok_ret ⟨Y_h5, N_h5, K261, by omega, by omega, by omega, fun y => by have y : h5 160 9 = 0 := y; show 0 ≤ 1; omega⟩
                                                · skip
                                                  refine ok_sv (vy_goTogether hn Y_u23 S (by omega) (by omega)) ?_; intro u17 P_u17
                                                  refine ok_if (fun C263 => ?_) (fun C263 => ?_)
                                                  · skip
                                                    unfold qj_X13_rule_574
                                                    refine ok_wA (by omega) ?_; intro h5 E_h5
                                                    obtain ⟨Y_h5, K_h5⟩ := yi_176 Y_u23 (by omega) (by omega) (by omega) E_h5
                                                    obtain ⟨k1_h5, k2_h5, k3_h5, k4_h5, k5_h5, k6_h5, k7_h5⟩ := K_h5.1
                                                    have s_h5 : h5 176 (a1).toNat = v14 := by rw [E_h5]; exact up_s
                                                    have N_h5 := mi_up N_u23 E_h5 (by decide)
                                                    have K264 := ke_tr K258 K_h5
                                                    refine ok_rd (by omega) (gA_167 Y_h5.1) ?_; intro v7 e_v7 a_v7 b_v7
                                                    have t_v7 : v7 = t 167 (a1).toNat := by rw [e_v7]; exact Y_h5.2.1 167 _ (nw_ar rfl _)
                                                    have d_v7 : v83 = v7 := by rw [t_v7, t_v83]
                                                    subst d_v7
                                                    refine ok_if (fun C265 => ?_) (fun C265 => ?_)
                                                    · skip
                                                      exact ok_ret ⟨Y_h5, N_h5, K264, by omega, by omega, by omega, fun y => by have y : h5 160 9 = 0 := y; show 0 ≤ v14; omega⟩
                                                    · skip
                                                      exact ok_ret ⟨Y_h5, N_h5, K264, by omega, by omega, by omega, fun y => by have y : h5 160 9 = 0 := y; show 0 ≤ 1; omega⟩
                                                  · skip
                                                    unfold qj_X13_rule_562
                                                    refine ok_rd (by omega) (gA_168 Y_u23.1) ?_; intro v10 e_v10 a_v10 b_v10
                                                    have t_v10 : v10 = t 168 (a1).toNat := by rw [e_v10]; exact Y_u23.2.1 168 _ (nw_ar rfl _)
                                                    have d_v10 : v35 = v10 := by rw [t_v10, t_v35]
                                                    subst d_v10
                                                    refine ok_sv (vy_wrong hn Y_u23 (by omega) (by omega)) ?_; intro u12 P_u12
                                                    obtain ⟨Y_u12, K_u12, x_u12⟩ := P_u12
                                                    obtain ⟨k1_u12, k2_u12, k3_u12, k4_u12, k5_u12, k6_u12, k7_u12⟩ := K_u12.1
                                                    have N_u12 : MI t u12 := mi_dead x_u12
                                                    have K266 := ke_tr K258 K_u12
                                                    unfold qj_X13_rule_574
                                                    refine ok_wA (by omega) ?_; intro h5 E_h5
                                                    obtain ⟨Y_h5, K_h5⟩ := yi_176 Y_u12 (by omega) (by omega) (by omega) E_h5
                                                    obtain ⟨k1_h5, k2_h5, k3_h5, k4_h5, k5_h5, k6_h5, k7_h5⟩ := K_h5.1
                                                    have s_h5 : h5 176 (a1).toNat = v14 := by rw [E_h5]; exact up_s
                                                    have N_h5 := mi_up N_u12 E_h5 (by decide)
                                                    have K267 := ke_tr K266 K_h5
                                                    refine ok_rd (by omega) (gA_167 Y_h5.1) ?_; intro v7 e_v7 a_v7 b_v7
                                                    have t_v7 : v7 = t 167 (a1).toNat := by rw [e_v7]; exact Y_h5.2.1 167 _ (nw_ar rfl _)
                                                    have d_v7 : v83 = v7 := by rw [t_v7, t_v83]
                                                    subst d_v7
                                                    refine ok_if (fun C268 => ?_) (fun C268 => ?_)
                                                    · skip
                                                      exact ok_ret ⟨Y_h5, N_h5, K267, by omega, by omega, by omega, fun y => by have y : h5 160 9 = 0 := y; show 0 ≤ v14; omega⟩
                                                    · skip
                                                      exact ok_ret ⟨Y_h5, N_h5, K267, by omega, by omega, by omega, fun y => by have y : h5 160 9 = 0 := y; show 0 ≤ 1; omega⟩
                                            · skip
                                              exfalso; omega
                                          · skip
                                            exfalso; omega
                                      · skip
                                        refine ok_rd (by omega) (gA_170 Y0.1) ?_; intro v85 e_v85 a_v85 b_v85
                                        have t_v85 : v85 = t 170 (a1).toNat := by rw [e_v85]; exact Y0.2.1 170 _ (nw_ar rfl _)
                                        have c269 : TE 1 t 0 (d - 2 - 2 * 1) a a1 v85 := by rw [t_v85]; exact (te_k39 T (by omega)).1
                                        have rc269 := te_rg c269
                                        refine ok_sv (G.1 v85 _ _ _ h Y0 N0 c269 (by omega) (by omega) (by omega)) ?_; intro u87 P_u87
                                        obtain ⟨Y_u87, N_u87, K_u87⟩ := P_u87
                                        obtain ⟨k1_u87, k2_u87, k3_u87, k4_u87, k5_u87, k6_u87, k7_u87⟩ := K_u87.1
                                        have K270 := ke_tr K0 K_u87
                                        refine ok_rd (by omega) (gA_171 Y_u87.1) ?_; intro v89 e_v89 a_v89 b_v89
                                        have t_v89 : v89 = t 171 (a1).toNat := by rw [e_v89]; exact Y_u87.2.1 171 _ (nw_ar rfl _)
                                        have c271 : TE 1 t 0 (d - 2 - 2 * 1) (a1 + 1) b v89 := by rw [t_v89]; exact (te_k39 T (by omega)).2.1
                                        have rc271 := te_rg c271
                                        refine ok_sv (G.2.1 v89 _ _ _ u87 Y_u87 N_u87 c271 (by omega) (by omega) (by omega)) ?_; intro u91 P_u91
                                        obtain ⟨Y_u91, N_u91, K_u91, r1_u91, r2_u91, r3_u91, r4_u91⟩ := P_u91
                                        obtain ⟨k1_u91, k2_u91, k3_u91, k4_u91, k5_u91, k6_u91, k7_u91⟩ := K_u91.1
                                        have K272 := ke_tr K270 K_u91
                                        refine ok_rd (by omega) (gA_172 Y_u91.1) ?_; intro v93 e_v93 a_v93 b_v93
                                        have t_v93 : v93 = t 172 (a1).toNat := by rw [e_v93]; exact Y_u91.2.1 172 _ (nw_ar rfl _)
                                        have c273 : TE 1 t 0 (d - 2 - 2 * 1) (a1 + 1) b v93 := by rw [t_v93]; exact (te_k39 T (by omega)).2.2
                                        have rc273 := te_rg c273
                                        refine ok_sv (G.2.1 v93 _ _ _ u91.2 Y_u91 N_u91 c273 (by omega) (by omega) (by omega)) ?_; intro u95 P_u95
                                        obtain ⟨Y_u95, N_u95, K_u95, r1_u95, r2_u95, r3_u95, r4_u95⟩ := P_u95
                                        obtain ⟨k1_u95, k2_u95, k3_u95, k4_u95, k5_u95, k6_u95, k7_u95⟩ := K_u95.1
                                        have K274 := ke_tr K272 K_u95
                                        refine ok_sv (vy_goTogether hn Y_u95 S (by omega) (by omega)) ?_; intro u97 P_u97
                                        refine ok_if (fun C275 => ?_) (fun C275 => ?_)
                                        · skip
                                          unfold qj_X13_rule_657
                                          refine ok_sv (vy_fits hn Y_u95 S (by omega) (by omega)) ?_; intro u2 P_u2
                                          refine ok_if (fun C276 => ?_) (fun C276 => ?_)
                                          · skip
                                            exact ok_ret ⟨Y_u95, N_u95, K274, by omega, by omega, by omega, fun y => by have y : u95.2 160 9 = 0 := y; show 0 ≤ u91.1; omega⟩
                                          · skip
                                            exact ok_ret ⟨Y_u95, N_u95, K274, by omega, by omega, by omega, fun y => by have y : u95.2 160 9 = 0 := y; show 0 ≤ u95.1; omega⟩
                                        · skip
                                          refine ok_rd (by omega) (gA_168 Y_u95.1) ?_; intro v99 e_v99 a_v99 b_v99
                                          have t_v99 : v99 = t 168 (a1).toNat := by rw [e_v99]; exact Y_u95.2.1 168 _ (nw_ar rfl _)
                                          refine ok_sv (vy_wrong hn Y_u95 (by omega) (by omega)) ?_; intro u101 P_u101
                                          obtain ⟨Y_u101, K_u101, x_u101⟩ := P_u101
                                          obtain ⟨k1_u101, k2_u101, k3_u101, k4_u101, k5_u101, k6_u101, k7_u101⟩ := K_u101.1
                                          have N_u101 : MI t u101 := mi_dead x_u101
                                          have K277 := ke_tr K274 K_u101
                                          unfold qj_X13_rule_657
                                          refine ok_sv (vy_fits hn Y_u101 S (by omega) (by omega)) ?_; intro u2 P_u2
                                          refine ok_if (fun C278 => ?_) (fun C278 => ?_)
                                          · skip
                                            exact ok_ret ⟨Y_u101, N_u101, K277, by omega, by omega, by omega, fun y => by have y : u101 160 9 = 0 := y; show 0 ≤ u91.1; omega⟩
                                          · skip
                                            exact ok_ret ⟨Y_u101, N_u101, K277, by omega, by omega, by omega, fun y => by have y : u101 160 9 = 0 := y; show 0 ≤ u95.1; omega⟩
theorem vz_both {nn : Nat} (hn : 1000000 ≤ nn) {t h : ms_M} (S : SF t) (Y0 : YI t h) (N0 : MI t h) {g : Int} {rc : tq_X13_condition} (G : GR t g rc) {a1 d a b : Int} (T : TE 1 t 0 d a b a1) (hb : b ≤ t 160 22) (hg : d - 1 ≤ g + 1) (h57 : h 160 57 + b ≤ 9000) (hk : t 167 a1.toNat = 37) : Ok_ (qo_X13_both nn rc a1 h) (QY t h) := by
  unfold qo_X13_both
  have o1 := te_rg T
  have gg := gF_160_22 Y0.1
  have q22 : h 160 22 = t 160 22 := Y0.2.1 160 22 rfl
  have g24 := gF_160_24 Y0.1
  have q24 : h 160 24 = t 160 24 := Y0.2.1 160 24 rfl
  have g28 := gF_160_28 Y0.1
  have q28 : h 160 28 = t 160 28 := Y0.2.1 160 28 rfl
  have g52 := Y0.2.2.2.2.2.1
  have g57 := gF_160_57 Y0.1
  have g50 := gF_160_50 Y0.1
  have g53 := gF_160_53 Y0.1
  have m51 := Y0.2.2.2.2.2.2
  have c8 := S.2.2.2.1
  have g51 := gF_160_51 Y0.1
  have K0 : Ke h h := ke_rf
  refine ok_rd (by omega) (gA_168 Y0.1) ?_; intro v47 e_v47 a_v47 b_v47
  have t_v47 : v47 = t 168 (a1).toNat := by rw [e_v47]; exact Y0.2.1 168 _ (nw_ar rfl _)
  refine ok_rd (by omega) (gA_166 Y0.1) ?_; intro v48 e_v48 a_v48 b_v48
  have t_v48 : v48 = t 166 (v47).toNat := by rw [e_v48]; exact Y0.2.1 166 _ (nw_ar rfl _)
  refine ok_sv (vy_sign hn Y0 (by decide)) ?_; intro u49 P_u49
  refine ok_if (fun C1 => ?_) (fun C1 => ?_)
  · skip
    unfold qj_X13_both_36
    refine ok_sv (vy_led hn S Y0 N0 T (by omega) (by omega)) ?_; intro u37 P_u37
    have p5_u37 := P_u37.2; replace P_u37 := P_u37.1
    obtain ⟨Y_u37, N_u37, K_u37, r1_u37, r2_u37, r3_u37, r4_u37⟩ := P_u37
    obtain ⟨k1_u37, k2_u37, k3_u37, k4_u37, k5_u37, k6_u37, k7_u37⟩ := K_u37.1
    have K2 := ke_tr K0 K_u37
    refine ok_if (fun C3 => ?_) (fun C3 => ?_)
    · skip
      unfold qj_X13_both_62
      refine ok_rd (by omega) (gA_171 Y_u37.1) ?_; intro v22 e_v22 a_v22 b_v22
      have t_v22 : v22 = t 171 (a1).toNat := by rw [e_v22]; exact Y_u37.2.1 171 _ (nw_ar rfl _)
      have c4 : TE 1 t 0 (d - 3) (a1 + 1) b v22 := by rw [t_v22]; exact (te_k37 T (by omega)).2
      have rc4 := te_rg c4
      refine ok_rd (by omega) (gA_171 Y_u37.1) ?_; intro v24 e_v24 a_v24 b_v24
      have t_v24 : v24 = t 171 (a1).toNat := by rw [e_v24]; exact Y_u37.2.1 171 _ (nw_ar rfl _)
      have d_v24 : v22 = v24 := by rw [t_v24, t_v22]
      subst d_v24
      refine ok_sv (G.2.2.1 v22 _ _ _ u37.2 Y_u37 N_u37 c4 (by omega) (by omega) (by omega)) ?_; intro u26 P_u26
      obtain ⟨Y_u26, N_u26, K_u26, r1_u26, r2_u26, r3_u26, r4_u26⟩ := P_u26
      obtain ⟨k1_u26, k2_u26, k3_u26, k4_u26, k5_u26, k6_u26, k7_u26⟩ := K_u26.1
      have K5 := ke_tr K2 K_u26
      refine ok_sv (vy_side hn S Y_u26 N_u26 (by omega) (by omega)) ?_; intro u28 P_u28
      obtain ⟨Y_u28, N_u28, K_u28, r1_u28, r2_u28, r3_u28, r4_u28⟩ := P_u28
      obtain ⟨k1_u28, k2_u28, k3_u28, k4_u28, k5_u28, k6_u28, k7_u28⟩ := K_u28.1
      have K6 := ke_tr K5 K_u28
      refine ok_if (fun C7 => ?_) (fun C7 => ?_)
      · skip
        exact ok_ret ⟨Y_u28, N_u28, K6, by omega, by omega, by omega, fun y => by have y : u28.2 160 9 = 0 := y; show 0 ≤ 1; omega⟩
      · skip
        refine ok_rd (by omega) (gA_171 Y_u28.1) ?_; intro v31 e_v31 a_v31 b_v31
        have t_v31 : v31 = t 171 (a1).toNat := by rw [e_v31]; exact Y_u28.2.1 171 _ (nw_ar rfl _)
        have d_v31 : v22 = v31 := by rw [t_v31, t_v22]
        subst d_v31
        refine ok_rd (by omega) (gA_169 Y_u28.1) ?_; intro v32 e_v32 a_v32 b_v32
        have t_v32 : v32 = t 169 (v22).toNat := by rw [e_v32]; exact Y_u28.2.1 169 _ (nw_ar rfl _)
        refine ok_sv (vy_wrong hn Y_u28 (by omega) (by omega)) ?_; intro u34 P_u34
        obtain ⟨Y_u34, K_u34, x_u34⟩ := P_u34
        obtain ⟨k1_u34, k2_u34, k3_u34, k4_u34, k5_u34, k6_u34, k7_u34⟩ := K_u34.1
        have N_u34 : MI t u34 := mi_dead x_u34
        have K8 := ke_tr K6 K_u34
        exact ok_ret ⟨Y_u34, N_u34, K8, by omega, by omega, by omega, fun y => by have y : u34 160 9 = 0 := y; show 0 ≤ 1; omega⟩
    · skip
      refine ok_rd (by omega) (gA_170 Y_u37.1) ?_; intro v40 e_v40 a_v40 b_v40
      have t_v40 : v40 = t 170 (a1).toNat := by rw [e_v40]; exact Y_u37.2.1 170 _ (nw_ar rfl _)
      have c9 : TE 1 t 0 d a a1 v40 := by rw [t_v40]; exact (te_k37 T (by omega)).1
      have rc9 := te_rg c9
      refine ok_rd (by omega) (gA_169 Y_u37.1) ?_; intro v41 e_v41 a_v41 b_v41
      have t_v41 : v41 = t 169 (v40).toNat := by rw [e_v41]; exact Y_u37.2.1 169 _ (nw_ar rfl _)
      refine ok_sv (vy_wrong hn Y_u37 (by omega) (by omega)) ?_; intro u43 P_u43
      obtain ⟨Y_u43, K_u43, x_u43⟩ := P_u43
      obtain ⟨k1_u43, k2_u43, k3_u43, k4_u43, k5_u43, k6_u43, k7_u43⟩ := K_u43.1
      have N_u43 : MI t u43 := mi_dead x_u43
      have K10 := ke_tr K2 K_u43
      unfold qj_X13_both_62
      refine ok_rd (by omega) (gA_171 Y_u43.1) ?_; intro v22 e_v22 a_v22 b_v22
      have t_v22 : v22 = t 171 (a1).toNat := by rw [e_v22]; exact Y_u43.2.1 171 _ (nw_ar rfl _)
      have c11 : TE 1 t 0 (d - 3) (a1 + 1) b v22 := by rw [t_v22]; exact (te_k37 T (by omega)).2
      have rc11 := te_rg c11
      refine ok_rd (by omega) (gA_171 Y_u43.1) ?_; intro v24 e_v24 a_v24 b_v24
      have t_v24 : v24 = t 171 (a1).toNat := by rw [e_v24]; exact Y_u43.2.1 171 _ (nw_ar rfl _)
      have d_v24 : v22 = v24 := by rw [t_v24, t_v22]
      subst d_v24
      refine ok_sv (G.2.2.1 v22 _ _ _ u43 Y_u43 N_u43 c11 (by omega) (by omega) (by omega)) ?_; intro u26 P_u26
      obtain ⟨Y_u26, N_u26, K_u26, r1_u26, r2_u26, r3_u26, r4_u26⟩ := P_u26
      obtain ⟨k1_u26, k2_u26, k3_u26, k4_u26, k5_u26, k6_u26, k7_u26⟩ := K_u26.1
      have K12 := ke_tr K10 K_u26
      refine ok_sv (vy_side hn S Y_u26 N_u26 (by omega) (by omega)) ?_; intro u28 P_u28
      obtain ⟨Y_u28, N_u28, K_u28, r1_u28, r2_u28, r3_u28, r4_u28⟩ := P_u28
      obtain ⟨k1_u28, k2_u28, k3_u28, k4_u28, k5_u28, k6_u28, k7_u28⟩ := K_u28.1
      have K13 := ke_tr K12 K_u28
      refine ok_if (fun C14 => ?_) (fun C14 => ?_)
      · skip
        exact ok_ret ⟨Y_u28, N_u28, K13, by omega, by omega, by omega, fun y => by have y : u28.2 160 9 = 0 := y; show 0 ≤ 1; omega⟩
      · skip
        refine ok_rd (by omega) (gA_171 Y_u28.1) ?_; intro v31 e_v31 a_v31 b_v31
        have t_v31 : v31 = t 171 (a1).toNat := by rw [e_v31]; exact Y_u28.2.1 171 _ (nw_ar rfl _)
        have d_v31 : v22 = v31 := by rw [t_v31, t_v22]
        subst d_v31
        refine ok_rd (by omega) (gA_169 Y_u28.1) ?_; intro v32 e_v32 a_v32 b_v32
        have t_v32 : v32 = t 169 (v22).toNat := by rw [e_v32]; exact Y_u28.2.1 169 _ (nw_ar rfl _)
        refine ok_sv (vy_wrong hn Y_u28 (by omega) (by omega)) ?_; intro u34 P_u34
        obtain ⟨Y_u34, K_u34, x_u34⟩ := P_u34
        obtain ⟨k1_u34, k2_u34, k3_u34, k4_u34, k5_u34, k6_u34, k7_u34⟩ := K_u34.1
        have N_u34 : MI t u34 := mi_dead x_u34
        have K15 := ke_tr K13 K_u34
        exact ok_ret ⟨Y_u34, N_u34, K15, by omega, by omega, by omega, fun y => by have y : u34 160 9 = 0 := y; show 0 ≤ 1; omega⟩
  · skip
    refine ok_sv (vy_sign hn Y0 (by decide)) ?_; intro u50 P_u50
    refine ok_if (fun C16 => ?_) (fun C16 => ?_)
    · skip
      refine ok_sv (vy_led hn S Y0 N0 T (by omega) (by omega)) ?_; intro u52 P_u52
      have p5_u52 := P_u52.2; replace P_u52 := P_u52.1
      obtain ⟨Y_u52, N_u52, K_u52, r1_u52, r2_u52, r3_u52, r4_u52⟩ := P_u52
      obtain ⟨k1_u52, k2_u52, k3_u52, k4_u52, k5_u52, k6_u52, k7_u52⟩ := K_u52.1
      have K17 := ke_tr K0 K_u52
      refine ok_rd (by omega) (gA_171 Y_u52.1) ?_; intro v54 e_v54 a_v54 b_v54
      have t_v54 : v54 = t 171 (a1).toNat := by rw [e_v54]; exact Y_u52.2.1 171 _ (nw_ar rfl _)
      have c18 : TE 1 t 0 (d - 3) (a1 + 1) b v54 := by rw [t_v54]; exact (te_k37 T (by omega)).2
      have rc18 := te_rg c18
      refine ok_rd (by omega) (gA_171 Y_u52.1) ?_; intro v56 e_v56 a_v56 b_v56
      have t_v56 : v56 = t 171 (a1).toNat := by rw [e_v56]; exact Y_u52.2.1 171 _ (nw_ar rfl _)
      have d_v56 : v54 = v56 := by rw [t_v56, t_v54]
      subst d_v56
      refine ok_sv (G.2.2.1 v54 _ _ _ u52.2 Y_u52 N_u52 c18 (by omega) (by omega) (by omega)) ?_; intro u58 P_u58
      obtain ⟨Y_u58, N_u58, K_u58, r1_u58, r2_u58, r3_u58, r4_u58⟩ := P_u58
      obtain ⟨k1_u58, k2_u58, k3_u58, k4_u58, k5_u58, k6_u58, k7_u58⟩ := K_u58.1
      have K19 := ke_tr K17 K_u58
      refine ok_sv (vy_side hn S Y_u58 N_u58 (by omega) (by omega)) ?_; intro u60 P_u60
      obtain ⟨Y_u60, N_u60, K_u60, r1_u60, r2_u60, r3_u60, r4_u60⟩ := P_u60
      obtain ⟨k1_u60, k2_u60, k3_u60, k4_u60, k5_u60, k6_u60, k7_u60⟩ := K_u60.1
      have K20 := ke_tr K19 K_u60
      refine ok_if (fun C21 => ?_) (fun C21 => ?_)
      · skip
        refine ok_sv (vy_sign hn Y_u60 (by decide)) ?_; intro u62 P_u62
        refine ok_if (fun C22 => ?_) (fun C22 => ?_)
        · skip
          unfold qj_X13_both_166
          refine ok_sv (vy_goTogether hn Y_u60 S (by omega) (by omega)) ?_; intro u15 P_u15
          refine ok_if (fun C23 => ?_) (fun C23 => ?_)
          · skip
            exact ok_ret ⟨Y_u60, N_u60, K20, by omega, by omega, by omega, fun y => by have y : u60.2 160 9 = 0 := y; show 0 ≤ 1; omega⟩
          · skip
            refine ok_rd (by omega) (gA_168 Y_u60.1) ?_; intro v17 e_v17 a_v17 b_v17
            have t_v17 : v17 = t 168 (a1).toNat := by rw [e_v17]; exact Y_u60.2.1 168 _ (nw_ar rfl _)
            have d_v17 : v47 = v17 := by rw [t_v17, t_v47]
            subst d_v17
            refine ok_sv (vy_wrong hn Y_u60 (by omega) (by omega)) ?_; intro u19 P_u19
            obtain ⟨Y_u19, K_u19, x_u19⟩ := P_u19
            obtain ⟨k1_u19, k2_u19, k3_u19, k4_u19, k5_u19, k6_u19, k7_u19⟩ := K_u19.1
            have N_u19 : MI t u19 := mi_dead x_u19
            have K24 := ke_tr K20 K_u19
            exact ok_ret ⟨Y_u19, N_u19, K24, by omega, by omega, by omega, fun y => by have y : u19 160 9 = 0 := y; show 0 ≤ 1; omega⟩
        · skip
          refine ok_sv (vy_sign hn Y_u60 (by decide)) ?_; intro u63 P_u63
          refine ok_if (fun C25 => ?_) (fun C25 => ?_)
          · skip
            refine ok_if (fun C26 => ?_) (fun C26 => ?_)
            · skip
              unfold qj_X13_both_208
              unfold qj_X13_both_213
              refine ok_if (fun C27 => ?_) (fun C27 => ?_)
              · skip
                unfold qj_X13_both_235
                refine ok_rd (by omega) (gA_168 Y_u60.1) ?_; intro v7 e_v7 a_v7 b_v7
                have t_v7 : v7 = t 168 (a1).toNat := by rw [e_v7]; exact Y_u60.2.1 168 _ (nw_ar rfl _)
                have d_v7 : v47 = v7 := by rw [t_v7, t_v47]
                subst d_v7
                refine ok_sv (vy_wrong hn Y_u60 (by omega) (by omega)) ?_; intro u9 P_u9
                obtain ⟨Y_u9, K_u9, x_u9⟩ := P_u9
                obtain ⟨k1_u9, k2_u9, k3_u9, k4_u9, k5_u9, k6_u9, k7_u9⟩ := K_u9.1
                have N_u9 : MI t u9 := mi_dead x_u9
                have K28 := ke_tr K20 K_u9
                unfold qj_X13_both_247
                refine ok_rd (by omega) (gA_168 Y_u9.1) ?_; intro v2 e_v2 a_v2 b_v2
                have t_v2 : v2 = t 168 (a1).toNat := by rw [e_v2]; exact Y_u9.2.1 168 _ (nw_ar rfl _)
                have d_v2 : v47 = v2 := by rw [t_v2, t_v47]
                subst d_v2
                refine ok_sv (vy_strength hn Y_u9 (by omega)) ?_; intro u4 P_u4
                refine ok_if (fun C29 => ?_) (fun C29 => ?_)
                · skip
                  exact ok_ret ⟨Y_u9, N_u9, K28, by omega, by omega, by omega, fun y => by have y : u9 160 9 = 0 := y; show 0 ≤ u52.1; omega⟩
                · skip
                  exact ok_ret ⟨Y_u9, N_u9, K28, by omega, by omega, by omega, fun y => by have y : u9 160 9 = 0 := y; show 0 ≤ 1; omega⟩
              · skip
                refine ok_if (fun C30 => ?_) (fun C30 => ?_)
                · skip
                  unfold qj_X13_both_247
                  refine ok_rd (by omega) (gA_168 Y_u60.1) ?_; intro v2 e_v2 a_v2 b_v2
                  have t_v2 : v2 = t 168 (a1).toNat := by rw [e_v2]; exact Y_u60.2.1 168 _ (nw_ar rfl _)
                  have d_v2 : v47 = v2 := by rw [t_v2, t_v47]
                  subst d_v2
                  refine ok_sv (vy_strength hn Y_u60 (by omega)) ?_; intro u4 P_u4
                  refine ok_if (fun C31 => ?_) (fun C31 => ?_)
                  · skip
                    exact ok_ret ⟨Y_u60, N_u60, K20, by omega, by omega, by omega, fun y => by have y : u60.2 160 9 = 0 := y; show 0 ≤ u52.1; omega⟩
                  · skip
                    exact ok_ret ⟨Y_u60, N_u60, K20, by omega, by omega, by omega, fun y => by have y : u60.2 160 9 = 0 := y; show 0 ≤ 1; omega⟩
                · skip
                  rw [if_neg (by decide)]
                  refine ok_if (fun C32 => ?_) (fun C32 => ?_)
                  · skip
                    unfold qj_X13_both_247
                    refine ok_rd (by omega) (gA_168 Y_u60.1) ?_; intro v2 e_v2 a_v2 b_v2
                    have t_v2 : v2 = t 168 (a1).toNat := by rw [e_v2]; exact Y_u60.2.1 168 _ (nw_ar rfl _)
                    have d_v2 : v47 = v2 := by rw [t_v2, t_v47]
                    subst d_v2
                    refine ok_sv (vy_strength hn Y_u60 (by omega)) ?_; intro u4 P_u4
                    refine ok_if (fun C33 => ?_) (fun C33 => ?_)
                    · skip
                      exact ok_ret ⟨Y_u60, N_u60, K20, by omega, by omega, by omega, fun y => by have y : u60.2 160 9 = 0 := y; show 0 ≤ u52.1; omega⟩
                    · skip
                      exact ok_ret ⟨Y_u60, N_u60, K20, by omega, by omega, by omega, fun y => by have y : u60.2 160 9 = 0 := y; show 0 ≤ 1; omega⟩
                  · skip
                    unfold qj_X13_both_235
                    refine ok_rd (by omega) (gA_168 Y_u60.1) ?_; intro v7 e_v7 a_v7 b_v7
                    have t_v7 : v7 = t 168 (a1).toNat := by rw [e_v7]; exact Y_u60.2.1 168 _ (nw_ar rfl _)
                    have d_v7 : v47 = v7 := by rw [t_v7, t_v47]
                    subst d_v7
                    refine ok_sv (vy_wrong hn Y_u60 (by omega) (by omega)) ?_; intro u9 P_u9
                    obtain ⟨Y_u9, K_u9, x_u9⟩ := P_u9
                    obtain ⟨k1_u9, k2_u9, k3_u9, k4_u9, k5_u9, k6_u9, k7_u9⟩ := K_u9.1
                    have N_u9 : MI t u9 := mi_dead x_u9
                    have K34 := ke_tr K20 K_u9
                    unfold qj_X13_both_247
                    refine ok_rd (by omega) (gA_168 Y_u9.1) ?_; intro v2 e_v2 a_v2 b_v2
                    have t_v2 : v2 = t 168 (a1).toNat := by rw [e_v2]; exact Y_u9.2.1 168 _ (nw_ar rfl _)
                    have d_v2 : v47 = v2 := by rw [t_v2, t_v47]
                    subst d_v2
                    refine ok_sv (vy_strength hn Y_u9 (by omega)) ?_; intro u4 P_u4
                    refine ok_if (fun C35 => ?_) (fun C35 => ?_)
                    · skip
                      exact ok_ret ⟨Y_u9, N_u9, K34, by omega, by omega, by omega, fun y => by have y : u9 160 9 = 0 := y; show 0 ≤ u52.1; omega⟩
                    · skip
                      exact ok_ret ⟨Y_u9, N_u9, K34, by omega, by omega, by omega, fun y => by have y : u9 160 9 = 0 := y; show 0 ≤ 1; omega⟩
            · skip
              refine ok_if (fun C36 => ?_) (fun C36 => ?_)
              · skip
                unfold qj_X13_both_208
                unfold qj_X13_both_213
                refine ok_if (fun C37 => ?_) (fun C37 => ?_)
                · skip
                  unfold qj_X13_both_235
                  refine ok_rd (by omega) (gA_168 Y_u60.1) ?_; intro v7 e_v7 a_v7 b_v7
                  have t_v7 : v7 = t 168 (a1).toNat := by rw [e_v7]; exact Y_u60.2.1 168 _ (nw_ar rfl _)
                  have d_v7 : v47 = v7 := by rw [t_v7, t_v47]
                  subst d_v7
                  refine ok_sv (vy_wrong hn Y_u60 (by omega) (by omega)) ?_; intro u9 P_u9
                  obtain ⟨Y_u9, K_u9, x_u9⟩ := P_u9
                  obtain ⟨k1_u9, k2_u9, k3_u9, k4_u9, k5_u9, k6_u9, k7_u9⟩ := K_u9.1
                  have N_u9 : MI t u9 := mi_dead x_u9
                  have K38 := ke_tr K20 K_u9
                  unfold qj_X13_both_247
                  refine ok_rd (by omega) (gA_168 Y_u9.1) ?_; intro v2 e_v2 a_v2 b_v2
                  have t_v2 : v2 = t 168 (a1).toNat := by rw [e_v2]; exact Y_u9.2.1 168 _ (nw_ar rfl _)
                  have d_v2 : v47 = v2 := by rw [t_v2, t_v47]
                  subst d_v2
                  refine ok_sv (vy_strength hn Y_u9 (by omega)) ?_; intro u4 P_u4
                  refine ok_if (fun C39 => ?_) (fun C39 => ?_)
                  · skip
                    exact ok_ret ⟨Y_u9, N_u9, K38, by omega, by omega, by omega, fun y => by have y : u9 160 9 = 0 := y; show 0 ≤ u52.1; omega⟩
                  · skip
                    exact ok_ret ⟨Y_u9, N_u9, K38, by omega, by omega, by omega, fun y => by have y : u9 160 9 = 0 := y; show 0 ≤ 1; omega⟩
                · skip
                  refine ok_if (fun C40 => ?_) (fun C40 => ?_)
                  · skip
                    unfold qj_X13_both_247
                    refine ok_rd (by omega) (gA_168 Y_u60.1) ?_; intro v2 e_v2 a_v2 b_v2
                    have t_v2 : v2 = t 168 (a1).toNat := by rw [e_v2]; exact Y_u60.2.1 168 _ (nw_ar rfl _)
                    have d_v2 : v47 = v2 := by rw [t_v2, t_v47]
                    subst d_v2
                    refine ok_sv (vy_strength hn Y_u60 (by omega)) ?_; intro u4 P_u4
                    refine ok_if (fun C41 => ?_) (fun C41 => ?_)
                    · skip
                      exact ok_ret ⟨Y_u60, N_u60, K20, by omega, by omega, by omega, fun y => by have y : u60.2 160 9 = 0 := y; show 0 ≤ u52.1; omega⟩
                    · skip
                      exact ok_ret ⟨Y_u60, N_u60, K20, by omega, by omega, by omega, fun y => by have y : u60.2 160 9 = 0 := y; show 0 ≤ 1; omega⟩
                  · skip
                    rw [if_neg (by decide)]
                    refine ok_if (fun C42 => ?_) (fun C42 => ?_)
                    · skip
                      unfold qj_X13_both_247
                      refine ok_rd (by omega) (gA_168 Y_u60.1) ?_; intro v2 e_v2 a_v2 b_v2
                      have t_v2 : v2 = t 168 (a1).toNat := by rw [e_v2]; exact Y_u60.2.1 168 _ (nw_ar rfl _)
                      have d_v2 : v47 = v2 := by rw [t_v2, t_v47]
                      subst d_v2
                      refine ok_sv (vy_strength hn Y_u60 (by omega)) ?_; intro u4 P_u4
                      refine ok_if (fun C43 => ?_) (fun C43 => ?_)
                      · skip
                        exact ok_ret ⟨Y_u60, N_u60, K20, by omega, by omega, by omega, fun y => by have y : u60.2 160 9 = 0 := y; show 0 ≤ u52.1; omega⟩
                      · skip
                        exact ok_ret ⟨Y_u60, N_u60, K20, by omega, by omega, by omega, fun y => by have y : u60.2 160 9 = 0 := y; show 0 ≤ 1; omega⟩
                    · skip
                      unfold qj_X13_both_235
                      refine ok_rd (by omega) (gA_168 Y_u60.1) ?_; intro v7 e_v7 a_v7 b_v7
                      have t_v7 : v7 = t 168 (a1).toNat := by rw [e_v7]; exact Y_u60.2.1 168 _ (nw_ar rfl _)
                      have d_v7 : v47 = v7 := by rw [t_v7, t_v47]
                      subst d_v7
                      refine ok_sv (vy_wrong hn Y_u60 (by omega) (by omega)) ?_; intro u9 P_u9
                      obtain ⟨Y_u9, K_u9, x_u9⟩ := P_u9
                      obtain ⟨k1_u9, k2_u9, k3_u9, k4_u9, k5_u9, k6_u9, k7_u9⟩ := K_u9.1
                      have N_u9 : MI t u9 := mi_dead x_u9
                      have K44 := ke_tr K20 K_u9
                      unfold qj_X13_both_247
                      refine ok_rd (by omega) (gA_168 Y_u9.1) ?_; intro v2 e_v2 a_v2 b_v2
                      have t_v2 : v2 = t 168 (a1).toNat := by rw [e_v2]; exact Y_u9.2.1 168 _ (nw_ar rfl _)
                      have d_v2 : v47 = v2 := by rw [t_v2, t_v47]
                      subst d_v2
                      refine ok_sv (vy_strength hn Y_u9 (by omega)) ?_; intro u4 P_u4
                      refine ok_if (fun C45 => ?_) (fun C45 => ?_)
                      · skip
                        exact ok_ret ⟨Y_u9, N_u9, K44, by omega, by omega, by omega, fun y => by have y : u9 160 9 = 0 := y; show 0 ≤ u52.1; omega⟩
                      · skip
                        exact ok_ret ⟨Y_u9, N_u9, K44, by omega, by omega, by omega, fun y => by have y : u9 160 9 = 0 := y; show 0 ≤ 1; omega⟩
              · skip
                refine ok_if (fun C46 => ?_) (fun C46 => ?_)
                · skip
                  unfold qj_X13_both_213
                  refine ok_if (fun C47 => ?_) (fun C47 => ?_)
                  · skip
                    unfold qj_X13_both_235
                    refine ok_rd (by omega) (gA_168 Y_u60.1) ?_; intro v7 e_v7 a_v7 b_v7
                    have t_v7 : v7 = t 168 (a1).toNat := by rw [e_v7]; exact Y_u60.2.1 168 _ (nw_ar rfl _)
                    have d_v7 : v47 = v7 := by rw [t_v7, t_v47]
                    subst d_v7
                    refine ok_sv (vy_wrong hn Y_u60 (by omega) (by omega)) ?_; intro u9 P_u9
                    obtain ⟨Y_u9, K_u9, x_u9⟩ := P_u9
                    obtain ⟨k1_u9, k2_u9, k3_u9, k4_u9, k5_u9, k6_u9, k7_u9⟩ := K_u9.1
                    have N_u9 : MI t u9 := mi_dead x_u9
                    have K48 := ke_tr K20 K_u9
                    unfold qj_X13_both_247
                    refine ok_rd (by omega) (gA_168 Y_u9.1) ?_; intro v2 e_v2 a_v2 b_v2
                    have t_v2 : v2 = t 168 (a1).toNat := by rw [e_v2]; exact Y_u9.2.1 168 _ (nw_ar rfl _)
                    have d_v2 : v47 = v2 := by rw [t_v2, t_v47]
                    subst d_v2
                    refine ok_sv (vy_strength hn Y_u9 (by omega)) ?_; intro u4 P_u4
                    refine ok_if (fun C49 => ?_) (fun C49 => ?_)
                    · skip
                      exact ok_ret ⟨Y_u9, N_u9, K48, by omega, by omega, by omega, fun y => by have y : u9 160 9 = 0 := y; show 0 ≤ u52.1; omega⟩
                    · skip
                      exact ok_ret ⟨Y_u9, N_u9, K48, by omega, by omega, by omega, fun y => by have y : u9 160 9 = 0 := y; show 0 ≤ 1; omega⟩
                  · skip
                    refine ok_if (fun C50 => ?_) (fun C50 => ?_)
                    · skip
                      unfold qj_X13_both_247
                      refine ok_rd (by omega) (gA_168 Y_u60.1) ?_; intro v2 e_v2 a_v2 b_v2
                      have t_v2 : v2 = t 168 (a1).toNat := by rw [e_v2]; exact Y_u60.2.1 168 _ (nw_ar rfl _)
                      have d_v2 : v47 = v2 := by rw [t_v2, t_v47]
                      subst d_v2
                      refine ok_sv (vy_strength hn Y_u60 (by omega)) ?_; intro u4 P_u4
                      refine ok_if (fun C51 => ?_) (fun C51 => ?_)
                      · skip
                        exact ok_ret ⟨Y_u60, N_u60, K20, by omega, by omega, by omega, fun y => by have y : u60.2 160 9 = 0 := y; show 0 ≤ u52.1; omega⟩
                      · skip
                        exact ok_ret ⟨Y_u60, N_u60, K20, by omega, by omega, by omega, fun y => by have y : u60.2 160 9 = 0 := y; show 0 ≤ 1; omega⟩
                    · skip
                      rw [if_pos (by decide)]
                      unfold qj_X13_both_235
                      refine ok_rd (by omega) (gA_168 Y_u60.1) ?_; intro v7 e_v7 a_v7 b_v7
                      have t_v7 : v7 = t 168 (a1).toNat := by rw [e_v7]; exact Y_u60.2.1 168 _ (nw_ar rfl _)
                      have d_v7 : v47 = v7 := by rw [t_v7, t_v47]
                      subst d_v7
                      refine ok_sv (vy_wrong hn Y_u60 (by omega) (by omega)) ?_; intro u9 P_u9
                      obtain ⟨Y_u9, K_u9, x_u9⟩ := P_u9
                      obtain ⟨k1_u9, k2_u9, k3_u9, k4_u9, k5_u9, k6_u9, k7_u9⟩ := K_u9.1
                      have N_u9 : MI t u9 := mi_dead x_u9
                      have K52 := ke_tr K20 K_u9
                      unfold qj_X13_both_247
                      refine ok_rd (by omega) (gA_168 Y_u9.1) ?_; intro v2 e_v2 a_v2 b_v2
                      have t_v2 : v2 = t 168 (a1).toNat := by rw [e_v2]; exact Y_u9.2.1 168 _ (nw_ar rfl _)
                      have d_v2 : v47 = v2 := by rw [t_v2, t_v47]
                      subst d_v2
                      refine ok_sv (vy_strength hn Y_u9 (by omega)) ?_; intro u4 P_u4
                      refine ok_if (fun C53 => ?_) (fun C53 => ?_)
                      · skip
                        exact ok_ret ⟨Y_u9, N_u9, K52, by omega, by omega, by omega, fun y => by have y : u9 160 9 = 0 := y; show 0 ≤ u52.1; omega⟩
                      · skip
                        exact ok_ret ⟨Y_u9, N_u9, K52, by omega, by omega, by omega, fun y => by have y : u9 160 9 = 0 := y; show 0 ≤ 1; omega⟩
                · skip
                  unfold qj_X13_both_208
                  unfold qj_X13_both_213
                  refine ok_if (fun C54 => ?_) (fun C54 => ?_)
                  · skip
                    unfold qj_X13_both_235
                    refine ok_rd (by omega) (gA_168 Y_u60.1) ?_; intro v7 e_v7 a_v7 b_v7
                    have t_v7 : v7 = t 168 (a1).toNat := by rw [e_v7]; exact Y_u60.2.1 168 _ (nw_ar rfl _)
                    have d_v7 : v47 = v7 := by rw [t_v7, t_v47]
                    subst d_v7
                    refine ok_sv (vy_wrong hn Y_u60 (by omega) (by omega)) ?_; intro u9 P_u9
                    obtain ⟨Y_u9, K_u9, x_u9⟩ := P_u9
                    obtain ⟨k1_u9, k2_u9, k3_u9, k4_u9, k5_u9, k6_u9, k7_u9⟩ := K_u9.1
                    have N_u9 : MI t u9 := mi_dead x_u9
                    have K55 := ke_tr K20 K_u9
                    unfold qj_X13_both_247
                    refine ok_rd (by omega) (gA_168 Y_u9.1) ?_; intro v2 e_v2 a_v2 b_v2
                    have t_v2 : v2 = t 168 (a1).toNat := by rw [e_v2]; exact Y_u9.2.1 168 _ (nw_ar rfl _)
                    have d_v2 : v47 = v2 := by rw [t_v2, t_v47]
                    subst d_v2
                    refine ok_sv (vy_strength hn Y_u9 (by omega)) ?_; intro u4 P_u4
                    refine ok_if (fun C56 => ?_) (fun C56 => ?_)
                    · skip
                      exact ok_ret ⟨Y_u9, N_u9, K55, by omega, by omega, by omega, fun y => by have y : u9 160 9 = 0 := y; show 0 ≤ u52.1; omega⟩
                    · skip
                      exact ok_ret ⟨Y_u9, N_u9, K55, by omega, by omega, by omega, fun y => by have y : u9 160 9 = 0 := y; show 0 ≤ 1; omega⟩
                  · skip
                    refine ok_if (fun C57 => ?_) (fun C57 => ?_)
                    · skip
                      unfold qj_X13_both_247
                      refine ok_rd (by omega) (gA_168 Y_u60.1) ?_; intro v2 e_v2 a_v2 b_v2
                      have t_v2 : v2 = t 168 (a1).toNat := by rw [e_v2]; exact Y_u60.2.1 168 _ (nw_ar rfl _)
                      have d_v2 : v47 = v2 := by rw [t_v2, t_v47]
                      subst d_v2
                      refine ok_sv (vy_strength hn Y_u60 (by omega)) ?_; intro u4 P_u4
                      refine ok_if (fun C58 => ?_) (fun C58 => ?_)
                      · skip
                        exact ok_ret ⟨Y_u60, N_u60, K20, by omega, by omega, by omega, fun y => by have y : u60.2 160 9 = 0 := y; show 0 ≤ u52.1; omega⟩
                      · skip
                        exact ok_ret ⟨Y_u60, N_u60, K20, by omega, by omega, by omega, fun y => by have y : u60.2 160 9 = 0 := y; show 0 ≤ 1; omega⟩
                    · skip
                      rw [if_neg (by decide)]
                      refine ok_if (fun C59 => ?_) (fun C59 => ?_)
                      · skip
                        unfold qj_X13_both_247
                        refine ok_rd (by omega) (gA_168 Y_u60.1) ?_; intro v2 e_v2 a_v2 b_v2
                        have t_v2 : v2 = t 168 (a1).toNat := by rw [e_v2]; exact Y_u60.2.1 168 _ (nw_ar rfl _)
                        have d_v2 : v47 = v2 := by rw [t_v2, t_v47]
                        subst d_v2
                        refine ok_sv (vy_strength hn Y_u60 (by omega)) ?_; intro u4 P_u4
                        refine ok_if (fun C60 => ?_) (fun C60 => ?_)
                        · skip
                          exact ok_ret ⟨Y_u60, N_u60, K20, by omega, by omega, by omega, fun y => by have y : u60.2 160 9 = 0 := y; show 0 ≤ u52.1; omega⟩
                        · skip
                          exact ok_ret ⟨Y_u60, N_u60, K20, by omega, by omega, by omega, fun y => by have y : u60.2 160 9 = 0 := y; show 0 ≤ 1; omega⟩
                      · skip
                        unfold qj_X13_both_235
                        refine ok_rd (by omega) (gA_168 Y_u60.1) ?_; intro v7 e_v7 a_v7 b_v7
                        have t_v7 : v7 = t 168 (a1).toNat := by rw [e_v7]; exact Y_u60.2.1 168 _ (nw_ar rfl _)
                        have d_v7 : v47 = v7 := by rw [t_v7, t_v47]
                        subst d_v7
                        refine ok_sv (vy_wrong hn Y_u60 (by omega) (by omega)) ?_; intro u9 P_u9
                        obtain ⟨Y_u9, K_u9, x_u9⟩ := P_u9
                        obtain ⟨k1_u9, k2_u9, k3_u9, k4_u9, k5_u9, k6_u9, k7_u9⟩ := K_u9.1
                        have N_u9 : MI t u9 := mi_dead x_u9
                        have K61 := ke_tr K20 K_u9
                        unfold qj_X13_both_247
                        refine ok_rd (by omega) (gA_168 Y_u9.1) ?_; intro v2 e_v2 a_v2 b_v2
                        have t_v2 : v2 = t 168 (a1).toNat := by rw [e_v2]; exact Y_u9.2.1 168 _ (nw_ar rfl _)
                        have d_v2 : v47 = v2 := by rw [t_v2, t_v47]
                        subst d_v2
                        refine ok_sv (vy_strength hn Y_u9 (by omega)) ?_; intro u4 P_u4
                        refine ok_if (fun C62 => ?_) (fun C62 => ?_)
                        · skip
                          exact ok_ret ⟨Y_u9, N_u9, K61, by omega, by omega, by omega, fun y => by have y : u9 160 9 = 0 := y; show 0 ≤ u52.1; omega⟩
                        · skip
                          exact ok_ret ⟨Y_u9, N_u9, K61, by omega, by omega, by omega, fun y => by have y : u9 160 9 = 0 := y; show 0 ≤ 1; omega⟩
          · skip
            unfold qj_X13_both_166
            refine ok_sv (vy_goTogether hn Y_u60 S (by omega) (by omega)) ?_; intro u15 P_u15
            refine ok_if (fun C63 => ?_) (fun C63 => ?_)
            · skip
              exact ok_ret ⟨Y_u60, N_u60, K20, by omega, by omega, by omega, fun y => by have y : u60.2 160 9 = 0 := y; show 0 ≤ 1; omega⟩
            · skip
              refine ok_rd (by omega) (gA_168 Y_u60.1) ?_; intro v17 e_v17 a_v17 b_v17
              have t_v17 : v17 = t 168 (a1).toNat := by rw [e_v17]; exact Y_u60.2.1 168 _ (nw_ar rfl _)
              have d_v17 : v47 = v17 := by rw [t_v17, t_v47]
              subst d_v17
              refine ok_sv (vy_wrong hn Y_u60 (by omega) (by omega)) ?_; intro u19 P_u19
              obtain ⟨Y_u19, K_u19, x_u19⟩ := P_u19
              obtain ⟨k1_u19, k2_u19, k3_u19, k4_u19, k5_u19, k6_u19, k7_u19⟩ := K_u19.1
              have N_u19 : MI t u19 := mi_dead x_u19
              have K64 := ke_tr K20 K_u19
              exact ok_ret ⟨Y_u19, N_u19, K64, by omega, by omega, by omega, fun y => by have y : u19 160 9 = 0 := y; show 0 ≤ 1; omega⟩
      · skip
        exact ok_ret ⟨Y_u60, N_u60, K20, by omega, by omega, by omega, fun y => by have y : u60.2 160 9 = 0 := y; show 0 ≤ 0; omega⟩
    · skip
      unfold qj_X13_both_36
      refine ok_sv (vy_led hn S Y0 N0 T (by omega) (by omega)) ?_; intro u37 P_u37
      have p5_u37 := P_u37.2; replace P_u37 := P_u37.1
      obtain ⟨Y_u37, N_u37, K_u37, r1_u37, r2_u37, r3_u37, r4_u37⟩ := P_u37
      obtain ⟨k1_u37, k2_u37, k3_u37, k4_u37, k5_u37, k6_u37, k7_u37⟩ := K_u37.1
      have K65 := ke_tr K0 K_u37
      refine ok_if (fun C66 => ?_) (fun C66 => ?_)
      · skip
        unfold qj_X13_both_62
        refine ok_rd (by omega) (gA_171 Y_u37.1) ?_; intro v22 e_v22 a_v22 b_v22
        have t_v22 : v22 = t 171 (a1).toNat := by rw [e_v22]; exact Y_u37.2.1 171 _ (nw_ar rfl _)
        have c67 : TE 1 t 0 (d - 3) (a1 + 1) b v22 := by rw [t_v22]; exact (te_k37 T (by omega)).2
        have rc67 := te_rg c67
        refine ok_rd (by omega) (gA_171 Y_u37.1) ?_; intro v24 e_v24 a_v24 b_v24
        have t_v24 : v24 = t 171 (a1).toNat := by rw [e_v24]; exact Y_u37.2.1 171 _ (nw_ar rfl _)
        have d_v24 : v22 = v24 := by rw [t_v24, t_v22]
        subst d_v24
        refine ok_sv (G.2.2.1 v22 _ _ _ u37.2 Y_u37 N_u37 c67 (by omega) (by omega) (by omega)) ?_; intro u26 P_u26
        obtain ⟨Y_u26, N_u26, K_u26, r1_u26, r2_u26, r3_u26, r4_u26⟩ := P_u26
        obtain ⟨k1_u26, k2_u26, k3_u26, k4_u26, k5_u26, k6_u26, k7_u26⟩ := K_u26.1
        have K68 := ke_tr K65 K_u26
        refine ok_sv (vy_side hn S Y_u26 N_u26 (by omega) (by omega)) ?_; intro u28 P_u28
        obtain ⟨Y_u28, N_u28, K_u28, r1_u28, r2_u28, r3_u28, r4_u28⟩ := P_u28
        obtain ⟨k1_u28, k2_u28, k3_u28, k4_u28, k5_u28, k6_u28, k7_u28⟩ := K_u28.1
        have K69 := ke_tr K68 K_u28
        refine ok_if (fun C70 => ?_) (fun C70 => ?_)
        · skip
          exact ok_ret ⟨Y_u28, N_u28, K69, by omega, by omega, by omega, fun y => by have y : u28.2 160 9 = 0 := y; show 0 ≤ 1; omega⟩
        · skip
          refine ok_rd (by omega) (gA_171 Y_u28.1) ?_; intro v31 e_v31 a_v31 b_v31
          have t_v31 : v31 = t 171 (a1).toNat := by rw [e_v31]; exact Y_u28.2.1 171 _ (nw_ar rfl _)
          have d_v31 : v22 = v31 := by rw [t_v31, t_v22]
          subst d_v31
          refine ok_rd (by omega) (gA_169 Y_u28.1) ?_; intro v32 e_v32 a_v32 b_v32
          have t_v32 : v32 = t 169 (v22).toNat := by rw [e_v32]; exact Y_u28.2.1 169 _ (nw_ar rfl _)
          refine ok_sv (vy_wrong hn Y_u28 (by omega) (by omega)) ?_; intro u34 P_u34
          obtain ⟨Y_u34, K_u34, x_u34⟩ := P_u34
          obtain ⟨k1_u34, k2_u34, k3_u34, k4_u34, k5_u34, k6_u34, k7_u34⟩ := K_u34.1
          have N_u34 : MI t u34 := mi_dead x_u34
          have K71 := ke_tr K69 K_u34
          exact ok_ret ⟨Y_u34, N_u34, K71, by omega, by omega, by omega, fun y => by have y : u34 160 9 = 0 := y; show 0 ≤ 1; omega⟩
      · skip
        refine ok_rd (by omega) (gA_170 Y_u37.1) ?_; intro v40 e_v40 a_v40 b_v40
        have t_v40 : v40 = t 170 (a1).toNat := by rw [e_v40]; exact Y_u37.2.1 170 _ (nw_ar rfl _)
        have c72 : TE 1 t 0 d a a1 v40 := by rw [t_v40]; exact (te_k37 T (by omega)).1
        have rc72 := te_rg c72
        refine ok_rd (by omega) (gA_169 Y_u37.1) ?_; intro v41 e_v41 a_v41 b_v41
        have t_v41 : v41 = t 169 (v40).toNat := by rw [e_v41]; exact Y_u37.2.1 169 _ (nw_ar rfl _)
        refine ok_sv (vy_wrong hn Y_u37 (by omega) (by omega)) ?_; intro u43 P_u43
        obtain ⟨Y_u43, K_u43, x_u43⟩ := P_u43
        obtain ⟨k1_u43, k2_u43, k3_u43, k4_u43, k5_u43, k6_u43, k7_u43⟩ := K_u43.1
        have N_u43 : MI t u43 := mi_dead x_u43
        have K73 := ke_tr K65 K_u43
        unfold qj_X13_both_62
        refine ok_rd (by omega) (gA_171 Y_u43.1) ?_; intro v22 e_v22 a_v22 b_v22
        have t_v22 : v22 = t 171 (a1).toNat := by rw [e_v22]; exact Y_u43.2.1 171 _ (nw_ar rfl _)
        have c74 : TE 1 t 0 (d - 3) (a1 + 1) b v22 := by rw [t_v22]; exact (te_k37 T (by omega)).2
        have rc74 := te_rg c74
        refine ok_rd (by omega) (gA_171 Y_u43.1) ?_; intro v24 e_v24 a_v24 b_v24
        have t_v24 : v24 = t 171 (a1).toNat := by rw [e_v24]; exact Y_u43.2.1 171 _ (nw_ar rfl _)
        have d_v24 : v22 = v24 := by rw [t_v24, t_v22]
        subst d_v24
        refine ok_sv (G.2.2.1 v22 _ _ _ u43 Y_u43 N_u43 c74 (by omega) (by omega) (by omega)) ?_; intro u26 P_u26
        obtain ⟨Y_u26, N_u26, K_u26, r1_u26, r2_u26, r3_u26, r4_u26⟩ := P_u26
        obtain ⟨k1_u26, k2_u26, k3_u26, k4_u26, k5_u26, k6_u26, k7_u26⟩ := K_u26.1
        have K75 := ke_tr K73 K_u26
        refine ok_sv (vy_side hn S Y_u26 N_u26 (by omega) (by omega)) ?_; intro u28 P_u28
        obtain ⟨Y_u28, N_u28, K_u28, r1_u28, r2_u28, r3_u28, r4_u28⟩ := P_u28
        obtain ⟨k1_u28, k2_u28, k3_u28, k4_u28, k5_u28, k6_u28, k7_u28⟩ := K_u28.1
        have K76 := ke_tr K75 K_u28
        refine ok_if (fun C77 => ?_) (fun C77 => ?_)
        · skip
          exact ok_ret ⟨Y_u28, N_u28, K76, by omega, by omega, by omega, fun y => by have y : u28.2 160 9 = 0 := y; show 0 ≤ 1; omega⟩
        · skip
          refine ok_rd (by omega) (gA_171 Y_u28.1) ?_; intro v31 e_v31 a_v31 b_v31
          have t_v31 : v31 = t 171 (a1).toNat := by rw [e_v31]; exact Y_u28.2.1 171 _ (nw_ar rfl _)
          have d_v31 : v22 = v31 := by rw [t_v31, t_v22]
          subst d_v31
          refine ok_rd (by omega) (gA_169 Y_u28.1) ?_; intro v32 e_v32 a_v32 b_v32
          have t_v32 : v32 = t 169 (v22).toNat := by rw [e_v32]; exact Y_u28.2.1 169 _ (nw_ar rfl _)
          refine ok_sv (vy_wrong hn Y_u28 (by omega) (by omega)) ?_; intro u34 P_u34
          obtain ⟨Y_u34, K_u34, x_u34⟩ := P_u34
          obtain ⟨k1_u34, k2_u34, k3_u34, k4_u34, k5_u34, k6_u34, k7_u34⟩ := K_u34.1
          have N_u34 : MI t u34 := mi_dead x_u34
          have K78 := ke_tr K76 K_u34
          exact ok_ret ⟨Y_u34, N_u34, K78, by omega, by omega, by omega, fun y => by have y : u34 160 9 = 0 := y; show 0 ≤ 1; omega⟩
theorem vz_invoked {nn : Nat} (hn : 1000000 ≤ nn) {t h : ms_M} (S : SF t) (Y0 : YI t h) (N0 : MI t h) {g : Int} {rc : tq_X13_condition} (G : GR t g rc) {a1 d a b : Int} (T : TE 1 t 0 d a b a1) (hb : b ≤ t 160 22) (hg : d - 1 ≤ g + 1) (h57 : h 160 57 + b ≤ 9000) (hk : t 167 a1.toNat = 31) : Ok_ (qo_X13_invoked nn rc a1 h) (QY t h) := by
  unfold qo_X13_invoked
  have o1 := te_rg T
  have gg := gF_160_22 Y0.1
  have q22 : h 160 22 = t 160 22 := Y0.2.1 160 22 rfl
  have g24 := gF_160_24 Y0.1
  have q24 : h 160 24 = t 160 24 := Y0.2.1 160 24 rfl
  have g28 := gF_160_28 Y0.1
  have q28 : h 160 28 = t 160 28 := Y0.2.1 160 28 rfl
  have g52 := Y0.2.2.2.2.2.1
  have g57 := gF_160_57 Y0.1
  have g50 := gF_160_50 Y0.1
  have g53 := gF_160_53 Y0.1
  have m51 := Y0.2.2.2.2.2.2
  have c8 := S.2.2.2.1
  have g51 := gF_160_51 Y0.1
  have K0 : Ke h h := ke_rf
  refine ok_rd (by omega) (gA_170 Y0.1) ?_; intro v40 e_v40 a_v40 b_v40
  have t_v40 : v40 = t 170 (a1).toNat := by rw [e_v40]; exact Y0.2.1 170 _ (nw_ar rfl _)
  have c1 : TE 1 t 0 d a a1 v40 := by rw [t_v40]; exact (te_k31 T (by omega)).2.2.1
  have rc1 := te_rg c1
  refine ok_sv (vy_isByClass hn S Y0 T (by omega) (by omega)) ?_; intro u42 P_u42
  refine ok_if (fun C2 => ?_) (fun C2 => ?_)
  · skip
    refine ok_sv (vy_led hn S Y0 N0 T (by omega) (by omega)) ?_; intro u44 P_u44
    have p5_u44 := P_u44.2; replace P_u44 := P_u44.1
    obtain ⟨Y_u44, N_u44, K_u44, r1_u44, r2_u44, r3_u44, r4_u44⟩ := P_u44
    obtain ⟨k1_u44, k2_u44, k3_u44, k4_u44, k5_u44, k6_u44, k7_u44⟩ := K_u44.1
    have K3 := ke_tr K0 K_u44
    refine ok_if (fun C4 => ?_) (fun C4 => ?_)
    · skip
      refine ok_if (fun C5 => ?_) (fun C5 => ?_)
      · skip
        unfold qj_X13_invoked_86
        refine ok_rd (by omega) (gA_172 Y_u44.1) ?_; intro v34 e_v34 a_v34 b_v34
        have t_v34 : v34 = t 172 (a1).toNat := by rw [e_v34]; exact Y_u44.2.1 172 _ (nw_ar rfl _)
        have q_v34 := (te_k31 T (by omega)).2.1
        refine ok_sv (vy_wrong hn Y_u44 (by omega) (by omega)) ?_; intro u36 P_u36
        obtain ⟨Y_u36, K_u36, x_u36⟩ := P_u36
        obtain ⟨k1_u36, k2_u36, k3_u36, k4_u36, k5_u36, k6_u36, k7_u36⟩ := K_u36.1
        have N_u36 : MI t u36 := mi_dead x_u36
        have K6 := ke_tr K3 K_u36
        exact ok_ret ⟨Y_u36, N_u36, K6, by omega, by omega, by omega, fun y => by have y : u36 160 9 = 0 := y; show 0 ≤ 0; omega⟩
      · skip
        refine ok_sv vy_isThing ?_; intro u46 P_u46
        refine ok_if (fun C7 => ?_) (fun C7 => ?_)
        · skip
          refine ok_sv vy_isArray ?_; intro u47 P_u47
          refine ok_if (fun C8 => ?_) (fun C8 => ?_)
          · skip
            unfold qj_X13_invoked_119
            refine ok_sub (by omega) ?_; intro v31 e_v31
            refine ok_div2 ?_; intro v32 e_v32 f_v32 g_v32
            unfold qj_X13_invoked_128
            refine ok_if (fun C9 => ?_) (fun C9 => ?_)
            · skip
              refine ok_if (fun C10 => ?_) (fun C10 => ?_)
              · skip
                unfold qj_X13_invoked_152
                refine ok_wA (by omega) ?_; intro h13 E_h13
                obtain ⟨Y_h13, K_h13⟩ := yi_176 Y_u44 (by omega) (by omega) (by omega) E_h13
                obtain ⟨k1_h13, k2_h13, k3_h13, k4_h13, k5_h13, k6_h13, k7_h13⟩ := K_h13.1
                have s_h13 : h13 176 (a1).toNat = (-1) := by rw [E_h13]; exact up_s
                have N_h13 := mi_up N_u44 E_h13 (by decide)
                have K11 := ke_tr K3 K_h13
                refine ok_rd (by omega) (gA_168 Y_h13.1) ?_; intro v16 e_v16 a_v16 b_v16
                have t_v16 : v16 = t 168 (a1).toNat := by rw [e_v16]; exact Y_h13.2.1 168 _ (nw_ar rfl _)
                refine ok_sv (vy_memberOf hn Y_h13 S (by omega) (by omega)) ?_; intro u18 P_u18
                refine ok_wA (by omega) ?_; intro h19 E_h19
                obtain ⟨Y_h19, K_h19⟩ := yi_175 Y_h13 (by omega) (by omega) E_h19
                obtain ⟨k1_h19, k2_h19, k3_h19, k4_h19, k5_h19, k6_h19, k7_h19⟩ := K_h19.1
                have s_h19 : h19 175 (a1).toNat = u18 := by rw [E_h19]; exact up_s
                have K12 := ke_tr K11 K_h19
                refine ok_rd (by omega) (gA_175 Y_h19.1) ?_; intro v21 e_v21 a_v21 b_v21
                refine ok_if (fun C13 => ?_) (fun C13 => ?_)
                · skip
                  have N_h19 := mi_175 N_h13 E_h19 (by omega)
                  unfold qj_X13_invoked_193
                  refine ok_rd (by omega) (gA_175 Y_h19.1) ?_; intro v5 e_v5 a_v5 b_v5
                  refine ok_if (fun C14 => ?_) (fun C14 => ?_)
                  · skip
                    unfold qj_X13_invoked_232
                    unfold qj_X13_invoked_237
                    have y4 := (te_k31 T (by omega)).1
                    refine ok_sv (G.2.2.2.2.2.2 a1 v5 1 _ _ _ h19 Y_h19 N_h19 ((te_k31 T (by omega)).2.2.2) (by omega) (by omega) (by omega) (by omega) (by omega) (by omega) (by omega) (by omega)) ?_; intro u2 P_u2
                    obtain ⟨Y_u2, N_u2, K_u2, r1_u2, r2_u2, r3_u2, r4_u2⟩ := P_u2
                    obtain ⟨k1_u2, k2_u2, k3_u2, k4_u2, k5_u2, k6_u2, k7_u2⟩ := K_u2.1
                    have K15 := ke_tr K12 K_u2
                    exact ok_ret ⟨Y_u2, N_u2, K15, by omega, by omega, by omega, fun y => by have y : u2.2 160 9 = 0 := y; show 0 ≤ u2.1; omega⟩
                  · skip
                    refine ok_rd (by omega) (gA_175 Y_h19.1) ?_; intro v9 e_v9 a_v9 b_v9
                    refine ok_rd (by omega) (gA_182 Y_h19.1) ?_; intro v10 e_v10 a_v10 b_v10
                    have t_v10 : v10 = t 182 (v9).toNat := by rw [e_v10]; exact Y_h19.2.1 182 _ (nw_ar rfl _)
                    refine ok_if (fun C16 => ?_) (fun C16 => ?_)
                    · skip
                      unfold qj_X13_invoked_228
                      refine ok_if (fun C17 => ?_) (fun C17 => ?_)
                      · skip
                        unfold qj_X13_invoked_237
                        have y4 := (te_k31 T (by omega)).1
                        refine ok_sv (G.2.2.2.2.2.2 a1 v5 0 _ _ _ h19 Y_h19 N_h19 ((te_k31 T (by omega)).2.2.2) (by omega) (by omega) (by omega) (by omega) (by omega) (by omega) (by omega) (by omega)) ?_; intro u2 P_u2
                        obtain ⟨Y_u2, N_u2, K_u2, r1_u2, r2_u2, r3_u2, r4_u2⟩ := P_u2
                        obtain ⟨k1_u2, k2_u2, k3_u2, k4_u2, k5_u2, k6_u2, k7_u2⟩ := K_u2.1
                        have K18 := ke_tr K12 K_u2
                        exact ok_ret ⟨Y_u2, N_u2, K18, by omega, by omega, by omega, fun y => by have y : u2.2 160 9 = 0 := y; show 0 ≤ u2.1; omega⟩
                      · skip
                        unfold qj_X13_invoked_232
                        unfold qj_X13_invoked_237
                        have y4 := (te_k31 T (by omega)).1
                        refine ok_sv (G.2.2.2.2.2.2 a1 v5 1 _ _ _ h19 Y_h19 N_h19 ((te_k31 T (by omega)).2.2.2) (by omega) (by omega) (by omega) (by omega) (by omega) (by omega) (by omega) (by omega)) ?_; intro u2 P_u2
                        obtain ⟨Y_u2, N_u2, K_u2, r1_u2, r2_u2, r3_u2, r4_u2⟩ := P_u2
                        obtain ⟨k1_u2, k2_u2, k3_u2, k4_u2, k5_u2, k6_u2, k7_u2⟩ := K_u2.1
                        have K19 := ke_tr K12 K_u2
                        exact ok_ret ⟨Y_u2, N_u2, K19, by omega, by omega, by omega, fun y => by have y : u2.2 160 9 = 0 := y; show 0 ≤ u2.1; omega⟩
                    · skip
                      unfold qj_X13_invoked_228
                      refine ok_if (fun C20 => ?_) (fun C20 => ?_)
                      · skip
                        unfold qj_X13_invoked_237
                        have y4 := (te_k31 T (by omega)).1
                        refine ok_sv (G.2.2.2.2.2.2 a1 v5 0 _ _ _ h19 Y_h19 N_h19 ((te_k31 T (by omega)).2.2.2) (by omega) (by omega) (by omega) (by omega) (by omega) (by omega) (by omega) (by omega)) ?_; intro u2 P_u2
                        obtain ⟨Y_u2, N_u2, K_u2, r1_u2, r2_u2, r3_u2, r4_u2⟩ := P_u2
                        obtain ⟨k1_u2, k2_u2, k3_u2, k4_u2, k5_u2, k6_u2, k7_u2⟩ := K_u2.1
                        have K21 := ke_tr K12 K_u2
                        exact ok_ret ⟨Y_u2, N_u2, K21, by omega, by omega, by omega, fun y => by have y : u2.2 160 9 = 0 := y; show 0 ≤ u2.1; omega⟩
                      · skip
                        unfold qj_X13_invoked_232
                        unfold qj_X13_invoked_237
                        have y4 := (te_k31 T (by omega)).1
                        refine ok_sv (G.2.2.2.2.2.2 a1 v5 1 _ _ _ h19 Y_h19 N_h19 ((te_k31 T (by omega)).2.2.2) (by omega) (by omega) (by omega) (by omega) (by omega) (by omega) (by omega) (by omega)) ?_; intro u2 P_u2
                        obtain ⟨Y_u2, N_u2, K_u2, r1_u2, r2_u2, r3_u2, r4_u2⟩ := P_u2
                        obtain ⟨k1_u2, k2_u2, k3_u2, k4_u2, k5_u2, k6_u2, k7_u2⟩ := K_u2.1
                        have K22 := ke_tr K12 K_u2
                        exact ok_ret ⟨Y_u2, N_u2, K22, by omega, by omega, by omega, fun y => by have y : u2.2 160 9 = 0 := y; show 0 ≤ u2.1; omega⟩
                · skip
                  refine ok_rd (by omega) (gA_168 Y_h19.1) ?_; intro v23 e_v23 a_v23 b_v23
                  have t_v23 : v23 = t 168 (a1).toNat := by rw [e_v23]; exact Y_h19.2.1 168 _ (nw_ar rfl _)
                  have d_v23 : v16 = v23 := by rw [t_v23, t_v16]
                  subst d_v23
                  refine ok_sv (vy_wrong hn Y_h19 (by omega) (by omega)) ?_; intro u25 P_u25
                  obtain ⟨Y_u25, K_u25, x_u25⟩ := P_u25
                  obtain ⟨k1_u25, k2_u25, k3_u25, k4_u25, k5_u25, k6_u25, k7_u25⟩ := K_u25.1
                  have N_u25 : MI t u25 := mi_dead x_u25
                  have K23 := ke_tr K12 K_u25
                  unfold qj_X13_invoked_193
                  refine ok_rd (by omega) (gA_175 Y_u25.1) ?_; intro v5 e_v5 a_v5 b_v5
                  refine ok_if (fun C24 => ?_) (fun C24 => ?_)
                  · skip
                    unfold qj_X13_invoked_232
                    unfold qj_X13_invoked_237
                    have y4 := (te_k31 T (by omega)).1
                    refine ok_sv (G.2.2.2.2.2.2 a1 v5 1 _ _ _ u25 Y_u25 N_u25 ((te_k31 T (by omega)).2.2.2) (by omega) (by omega) (by omega) (by omega) (by omega) (by omega) (by omega) (by omega)) ?_; intro u2 P_u2
                    obtain ⟨Y_u2, N_u2, K_u2, r1_u2, r2_u2, r3_u2, r4_u2⟩ := P_u2
                    obtain ⟨k1_u2, k2_u2, k3_u2, k4_u2, k5_u2, k6_u2, k7_u2⟩ := K_u2.1
                    have K25 := ke_tr K23 K_u2
                    exact ok_ret ⟨Y_u2, N_u2, K25, by omega, by omega, by omega, fun y => by have y : u2.2 160 9 = 0 := y; show 0 ≤ u2.1; omega⟩
                  · skip
                    refine ok_rd (by omega) (gA_175 Y_u25.1) ?_; intro v9 e_v9 a_v9 b_v9
                    refine ok_rd (by omega) (gA_182 Y_u25.1) ?_; intro v10 e_v10 a_v10 b_v10
                    have t_v10 : v10 = t 182 (v9).toNat := by rw [e_v10]; exact Y_u25.2.1 182 _ (nw_ar rfl _)
                    refine ok_if (fun C26 => ?_) (fun C26 => ?_)
                    · skip
                      unfold qj_X13_invoked_228
                      refine ok_if (fun C27 => ?_) (fun C27 => ?_)
                      · skip
                        unfold qj_X13_invoked_237
                        have y4 := (te_k31 T (by omega)).1
                        refine ok_sv (G.2.2.2.2.2.2 a1 v5 0 _ _ _ u25 Y_u25 N_u25 ((te_k31 T (by omega)).2.2.2) (by omega) (by omega) (by omega) (by omega) (by omega) (by omega) (by omega) (by omega)) ?_; intro u2 P_u2
                        obtain ⟨Y_u2, N_u2, K_u2, r1_u2, r2_u2, r3_u2, r4_u2⟩ := P_u2
                        obtain ⟨k1_u2, k2_u2, k3_u2, k4_u2, k5_u2, k6_u2, k7_u2⟩ := K_u2.1
                        have K28 := ke_tr K23 K_u2
                        exact ok_ret ⟨Y_u2, N_u2, K28, by omega, by omega, by omega, fun y => by have y : u2.2 160 9 = 0 := y; show 0 ≤ u2.1; omega⟩
                      · skip
                        unfold qj_X13_invoked_232
                        unfold qj_X13_invoked_237
                        have y4 := (te_k31 T (by omega)).1
                        refine ok_sv (G.2.2.2.2.2.2 a1 v5 1 _ _ _ u25 Y_u25 N_u25 ((te_k31 T (by omega)).2.2.2) (by omega) (by omega) (by omega) (by omega) (by omega) (by omega) (by omega) (by omega)) ?_; intro u2 P_u2
                        obtain ⟨Y_u2, N_u2, K_u2, r1_u2, r2_u2, r3_u2, r4_u2⟩ := P_u2
                        obtain ⟨k1_u2, k2_u2, k3_u2, k4_u2, k5_u2, k6_u2, k7_u2⟩ := K_u2.1
                        have K29 := ke_tr K23 K_u2
                        exact ok_ret ⟨Y_u2, N_u2, K29, by omega, by omega, by omega, fun y => by have y : u2.2 160 9 = 0 := y; show 0 ≤ u2.1; omega⟩
                    · skip
                      unfold qj_X13_invoked_228
                      refine ok_if (fun C30 => ?_) (fun C30 => ?_)
                      · skip
                        unfold qj_X13_invoked_237
                        have y4 := (te_k31 T (by omega)).1
                        refine ok_sv (G.2.2.2.2.2.2 a1 v5 0 _ _ _ u25 Y_u25 N_u25 ((te_k31 T (by omega)).2.2.2) (by omega) (by omega) (by omega) (by omega) (by omega) (by omega) (by omega) (by omega)) ?_; intro u2 P_u2
                        obtain ⟨Y_u2, N_u2, K_u2, r1_u2, r2_u2, r3_u2, r4_u2⟩ := P_u2
                        obtain ⟨k1_u2, k2_u2, k3_u2, k4_u2, k5_u2, k6_u2, k7_u2⟩ := K_u2.1
                        have K31 := ke_tr K23 K_u2
                        exact ok_ret ⟨Y_u2, N_u2, K31, by omega, by omega, by omega, fun y => by have y : u2.2 160 9 = 0 := y; show 0 ≤ u2.1; omega⟩
                      · skip
                        unfold qj_X13_invoked_232
                        unfold qj_X13_invoked_237
                        have y4 := (te_k31 T (by omega)).1
                        refine ok_sv (G.2.2.2.2.2.2 a1 v5 1 _ _ _ u25 Y_u25 N_u25 ((te_k31 T (by omega)).2.2.2) (by omega) (by omega) (by omega) (by omega) (by omega) (by omega) (by omega) (by omega)) ?_; intro u2 P_u2
                        obtain ⟨Y_u2, N_u2, K_u2, r1_u2, r2_u2, r3_u2, r4_u2⟩ := P_u2
                        obtain ⟨k1_u2, k2_u2, k3_u2, k4_u2, k5_u2, k6_u2, k7_u2⟩ := K_u2.1
                        have K32 := ke_tr K23 K_u2
                        exact ok_ret ⟨Y_u2, N_u2, K32, by omega, by omega, by omega, fun y => by have y : u2.2 160 9 = 0 := y; show 0 ≤ u2.1; omega⟩
              · skip
                unfold qj_X13_invoked_152
                refine ok_wA (by omega) ?_; intro h13 E_h13
                obtain ⟨Y_h13, K_h13⟩ := yi_176 Y_u44 (by omega) (by omega) (by omega) E_h13
                obtain ⟨k1_h13, k2_h13, k3_h13, k4_h13, k5_h13, k6_h13, k7_h13⟩ := K_h13.1
                have s_h13 : h13 176 (a1).toNat = v32 := by rw [E_h13]; exact up_s
                have N_h13 := mi_up N_u44 E_h13 (by decide)
                have K33 := ke_tr K3 K_h13
                refine ok_rd (by omega) (gA_168 Y_h13.1) ?_; intro v16 e_v16 a_v16 b_v16
                have t_v16 : v16 = t 168 (a1).toNat := by rw [e_v16]; exact Y_h13.2.1 168 _ (nw_ar rfl _)
                refine ok_sv (vy_memberOf hn Y_h13 S (by omega) (by omega)) ?_; intro u18 P_u18
                refine ok_wA (by omega) ?_; intro h19 E_h19
                obtain ⟨Y_h19, K_h19⟩ := yi_175 Y_h13 (by omega) (by omega) E_h19
                obtain ⟨k1_h19, k2_h19, k3_h19, k4_h19, k5_h19, k6_h19, k7_h19⟩ := K_h19.1
                have s_h19 : h19 175 (a1).toNat = u18 := by rw [E_h19]; exact up_s
                have K34 := ke_tr K33 K_h19
                refine ok_rd (by omega) (gA_175 Y_h19.1) ?_; intro v21 e_v21 a_v21 b_v21
                refine ok_if (fun C35 => ?_) (fun C35 => ?_)
                · skip
                  have N_h19 := mi_175 N_h13 E_h19 (by omega)
                  unfold qj_X13_invoked_193
                  refine ok_rd (by omega) (gA_175 Y_h19.1) ?_; intro v5 e_v5 a_v5 b_v5
                  refine ok_if (fun C36 => ?_) (fun C36 => ?_)
                  · skip
                    unfold qj_X13_invoked_232
                    unfold qj_X13_invoked_237
                    have y4 := (te_k31 T (by omega)).1
                    refine ok_sv (G.2.2.2.2.2.2 a1 v5 1 _ _ _ h19 Y_h19 N_h19 ((te_k31 T (by omega)).2.2.2) (by omega) (by omega) (by omega) (by omega) (by omega) (by omega) (by omega) (by omega)) ?_; intro u2 P_u2
                    obtain ⟨Y_u2, N_u2, K_u2, r1_u2, r2_u2, r3_u2, r4_u2⟩ := P_u2
                    obtain ⟨k1_u2, k2_u2, k3_u2, k4_u2, k5_u2, k6_u2, k7_u2⟩ := K_u2.1
                    have K37 := ke_tr K34 K_u2
                    exact ok_ret ⟨Y_u2, N_u2, K37, by omega, by omega, by omega, fun y => by have y : u2.2 160 9 = 0 := y; show 0 ≤ u2.1; omega⟩
                  · skip
                    refine ok_rd (by omega) (gA_175 Y_h19.1) ?_; intro v9 e_v9 a_v9 b_v9
                    refine ok_rd (by omega) (gA_182 Y_h19.1) ?_; intro v10 e_v10 a_v10 b_v10
                    have t_v10 : v10 = t 182 (v9).toNat := by rw [e_v10]; exact Y_h19.2.1 182 _ (nw_ar rfl _)
                    refine ok_if (fun C38 => ?_) (fun C38 => ?_)
                    · skip
                      unfold qj_X13_invoked_228
                      refine ok_if (fun C39 => ?_) (fun C39 => ?_)
                      · skip
                        unfold qj_X13_invoked_237
                        have y4 := (te_k31 T (by omega)).1
                        refine ok_sv (G.2.2.2.2.2.2 a1 v5 0 _ _ _ h19 Y_h19 N_h19 ((te_k31 T (by omega)).2.2.2) (by omega) (by omega) (by omega) (by omega) (by omega) (by omega) (by omega) (by omega)) ?_; intro u2 P_u2
                        obtain ⟨Y_u2, N_u2, K_u2, r1_u2, r2_u2, r3_u2, r4_u2⟩ := P_u2
                        obtain ⟨k1_u2, k2_u2, k3_u2, k4_u2, k5_u2, k6_u2, k7_u2⟩ := K_u2.1
                        have K40 := ke_tr K34 K_u2
                        exact ok_ret ⟨Y_u2, N_u2, K40, by omega, by omega, by omega, fun y => by have y : u2.2 160 9 = 0 := y; show 0 ≤ u2.1; omega⟩
                      · skip
                        unfold qj_X13_invoked_232
                        unfold qj_X13_invoked_237
                        have y4 := (te_k31 T (by omega)).1
                        refine ok_sv (G.2.2.2.2.2.2 a1 v5 1 _ _ _ h19 Y_h19 N_h19 ((te_k31 T (by omega)).2.2.2) (by omega) (by omega) (by omega) (by omega) (by omega) (by omega) (by omega) (by omega)) ?_; intro u2 P_u2
                        obtain ⟨Y_u2, N_u2, K_u2, r1_u2, r2_u2, r3_u2, r4_u2⟩ := P_u2
                        obtain ⟨k1_u2, k2_u2, k3_u2, k4_u2, k5_u2, k6_u2, k7_u2⟩ := K_u2.1
                        have K41 := ke_tr K34 K_u2
                        exact ok_ret ⟨Y_u2, N_u2, K41, by omega, by omega, by omega, fun y => by have y : u2.2 160 9 = 0 := y; show 0 ≤ u2.1; omega⟩
                    · skip
                      unfold qj_X13_invoked_228
                      refine ok_if (fun C42 => ?_) (fun C42 => ?_)
                      · skip
                        unfold qj_X13_invoked_237
                        have y4 := (te_k31 T (by omega)).1
                        refine ok_sv (G.2.2.2.2.2.2 a1 v5 0 _ _ _ h19 Y_h19 N_h19 ((te_k31 T (by omega)).2.2.2) (by omega) (by omega) (by omega) (by omega) (by omega) (by omega) (by omega) (by omega)) ?_; intro u2 P_u2
                        obtain ⟨Y_u2, N_u2, K_u2, r1_u2, r2_u2, r3_u2, r4_u2⟩ := P_u2
                        obtain ⟨k1_u2, k2_u2, k3_u2, k4_u2, k5_u2, k6_u2, k7_u2⟩ := K_u2.1
                        have K43 := ke_tr K34 K_u2
                        exact ok_ret ⟨Y_u2, N_u2, K43, by omega, by omega, by omega, fun y => by have y : u2.2 160 9 = 0 := y; show 0 ≤ u2.1; omega⟩
                      · skip
                        unfold qj_X13_invoked_232
                        unfold qj_X13_invoked_237
                        have y4 := (te_k31 T (by omega)).1
                        refine ok_sv (G.2.2.2.2.2.2 a1 v5 1 _ _ _ h19 Y_h19 N_h19 ((te_k31 T (by omega)).2.2.2) (by omega) (by omega) (by omega) (by omega) (by omega) (by omega) (by omega) (by omega)) ?_; intro u2 P_u2
                        obtain ⟨Y_u2, N_u2, K_u2, r1_u2, r2_u2, r3_u2, r4_u2⟩ := P_u2
                        obtain ⟨k1_u2, k2_u2, k3_u2, k4_u2, k5_u2, k6_u2, k7_u2⟩ := K_u2.1
                        have K44 := ke_tr K34 K_u2
                        exact ok_ret ⟨Y_u2, N_u2, K44, by omega, by omega, by omega, fun y => by have y : u2.2 160 9 = 0 := y; show 0 ≤ u2.1; omega⟩
                · skip
                  refine ok_rd (by omega) (gA_168 Y_h19.1) ?_; intro v23 e_v23 a_v23 b_v23
                  have t_v23 : v23 = t 168 (a1).toNat := by rw [e_v23]; exact Y_h19.2.1 168 _ (nw_ar rfl _)
                  have d_v23 : v16 = v23 := by rw [t_v23, t_v16]
                  subst d_v23
                  refine ok_sv (vy_wrong hn Y_h19 (by omega) (by omega)) ?_; intro u25 P_u25
                  obtain ⟨Y_u25, K_u25, x_u25⟩ := P_u25
                  obtain ⟨k1_u25, k2_u25, k3_u25, k4_u25, k5_u25, k6_u25, k7_u25⟩ := K_u25.1
                  have N_u25 : MI t u25 := mi_dead x_u25
                  have K45 := ke_tr K34 K_u25
                  unfold qj_X13_invoked_193
                  refine ok_rd (by omega) (gA_175 Y_u25.1) ?_; intro v5 e_v5 a_v5 b_v5
                  refine ok_if (fun C46 => ?_) (fun C46 => ?_)
                  · skip
                    unfold qj_X13_invoked_232
                    unfold qj_X13_invoked_237
                    have y4 := (te_k31 T (by omega)).1
                    refine ok_sv (G.2.2.2.2.2.2 a1 v5 1 _ _ _ u25 Y_u25 N_u25 ((te_k31 T (by omega)).2.2.2) (by omega) (by omega) (by omega) (by omega) (by omega) (by omega) (by omega) (by omega)) ?_; intro u2 P_u2
                    obtain ⟨Y_u2, N_u2, K_u2, r1_u2, r2_u2, r3_u2, r4_u2⟩ := P_u2
                    obtain ⟨k1_u2, k2_u2, k3_u2, k4_u2, k5_u2, k6_u2, k7_u2⟩ := K_u2.1
                    have K47 := ke_tr K45 K_u2
                    exact ok_ret ⟨Y_u2, N_u2, K47, by omega, by omega, by omega, fun y => by have y : u2.2 160 9 = 0 := y; show 0 ≤ u2.1; omega⟩
                  · skip
                    refine ok_rd (by omega) (gA_175 Y_u25.1) ?_; intro v9 e_v9 a_v9 b_v9
                    refine ok_rd (by omega) (gA_182 Y_u25.1) ?_; intro v10 e_v10 a_v10 b_v10
                    have t_v10 : v10 = t 182 (v9).toNat := by rw [e_v10]; exact Y_u25.2.1 182 _ (nw_ar rfl _)
                    refine ok_if (fun C48 => ?_) (fun C48 => ?_)
                    · skip
                      unfold qj_X13_invoked_228
                      refine ok_if (fun C49 => ?_) (fun C49 => ?_)
                      · skip
                        unfold qj_X13_invoked_237
                        have y4 := (te_k31 T (by omega)).1
                        refine ok_sv (G.2.2.2.2.2.2 a1 v5 0 _ _ _ u25 Y_u25 N_u25 ((te_k31 T (by omega)).2.2.2) (by omega) (by omega) (by omega) (by omega) (by omega) (by omega) (by omega) (by omega)) ?_; intro u2 P_u2
                        obtain ⟨Y_u2, N_u2, K_u2, r1_u2, r2_u2, r3_u2, r4_u2⟩ := P_u2
                        obtain ⟨k1_u2, k2_u2, k3_u2, k4_u2, k5_u2, k6_u2, k7_u2⟩ := K_u2.1
                        have K50 := ke_tr K45 K_u2
                        exact ok_ret ⟨Y_u2, N_u2, K50, by omega, by omega, by omega, fun y => by have y : u2.2 160 9 = 0 := y; show 0 ≤ u2.1; omega⟩
                      · skip
                        unfold qj_X13_invoked_232
                        unfold qj_X13_invoked_237
                        have y4 := (te_k31 T (by omega)).1
                        refine ok_sv (G.2.2.2.2.2.2 a1 v5 1 _ _ _ u25 Y_u25 N_u25 ((te_k31 T (by omega)).2.2.2) (by omega) (by omega) (by omega) (by omega) (by omega) (by omega) (by omega) (by omega)) ?_; intro u2 P_u2
                        obtain ⟨Y_u2, N_u2, K_u2, r1_u2, r2_u2, r3_u2, r4_u2⟩ := P_u2
                        obtain ⟨k1_u2, k2_u2, k3_u2, k4_u2, k5_u2, k6_u2, k7_u2⟩ := K_u2.1
                        have K51 := ke_tr K45 K_u2
                        exact ok_ret ⟨Y_u2, N_u2, K51, by omega, by omega, by omega, fun y => by have y : u2.2 160 9 = 0 := y; show 0 ≤ u2.1; omega⟩
                    · skip
                      unfold qj_X13_invoked_228
                      refine ok_if (fun C52 => ?_) (fun C52 => ?_)
                      · skip
                        unfold qj_X13_invoked_237
                        have y4 := (te_k31 T (by omega)).1
                        refine ok_sv (G.2.2.2.2.2.2 a1 v5 0 _ _ _ u25 Y_u25 N_u25 ((te_k31 T (by omega)).2.2.2) (by omega) (by omega) (by omega) (by omega) (by omega) (by omega) (by omega) (by omega)) ?_; intro u2 P_u2
                        obtain ⟨Y_u2, N_u2, K_u2, r1_u2, r2_u2, r3_u2, r4_u2⟩ := P_u2
                        obtain ⟨k1_u2, k2_u2, k3_u2, k4_u2, k5_u2, k6_u2, k7_u2⟩ := K_u2.1
                        have K53 := ke_tr K45 K_u2
                        exact ok_ret ⟨Y_u2, N_u2, K53, by omega, by omega, by omega, fun y => by have y : u2.2 160 9 = 0 := y; show 0 ≤ u2.1; omega⟩
                      · skip
                        unfold qj_X13_invoked_232
                        unfold qj_X13_invoked_237
                        have y4 := (te_k31 T (by omega)).1
                        refine ok_sv (G.2.2.2.2.2.2 a1 v5 1 _ _ _ u25 Y_u25 N_u25 ((te_k31 T (by omega)).2.2.2) (by omega) (by omega) (by omega) (by omega) (by omega) (by omega) (by omega) (by omega)) ?_; intro u2 P_u2
                        obtain ⟨Y_u2, N_u2, K_u2, r1_u2, r2_u2, r3_u2, r4_u2⟩ := P_u2
                        obtain ⟨k1_u2, k2_u2, k3_u2, k4_u2, k5_u2, k6_u2, k7_u2⟩ := K_u2.1
                        have K54 := ke_tr K45 K_u2
                        exact ok_ret ⟨Y_u2, N_u2, K54, by omega, by omega, by omega, fun y => by have y : u2.2 160 9 = 0 := y; show 0 ≤ u2.1; omega⟩
            · skip
              exact ok_ret ⟨Y_u44, N_u44, K3, by omega, by omega, by omega, fun y => by have y : u44.2 160 9 = 0 := y; show 0 ≤ 0; omega⟩
          · skip
            refine ok_rd (by omega) (gA_168 Y_u44.1) ?_; intro v49 e_v49 a_v49 b_v49
            have t_v49 : v49 = t 168 (a1).toNat := by rw [e_v49]; exact Y_u44.2.1 168 _ (nw_ar rfl _)
            refine ok_sv (vy_wrong hn Y_u44 (by omega) (by omega)) ?_; intro u51 P_u51
            obtain ⟨Y_u51, K_u51, x_u51⟩ := P_u51
            obtain ⟨k1_u51, k2_u51, k3_u51, k4_u51, k5_u51, k6_u51, k7_u51⟩ := K_u51.1
            have N_u51 : MI t u51 := mi_dead x_u51
            have K55 := ke_tr K3 K_u51
            unfold qj_X13_invoked_119
            refine ok_sub (by omega) ?_; intro v31 e_v31
            refine ok_div2 ?_; intro v32 e_v32 f_v32 g_v32
            unfold qj_X13_invoked_128
            refine ok_if (fun C56 => ?_) (fun C56 => ?_)
            · skip
              refine ok_if (fun C57 => ?_) (fun C57 => ?_)
              · skip
                unfold qj_X13_invoked_152
                refine ok_wA (by omega) ?_; intro h13 E_h13
                obtain ⟨Y_h13, K_h13⟩ := yi_176 Y_u51 (by omega) (by omega) (by omega) E_h13
                obtain ⟨k1_h13, k2_h13, k3_h13, k4_h13, k5_h13, k6_h13, k7_h13⟩ := K_h13.1
                have s_h13 : h13 176 (a1).toNat = (-1) := by rw [E_h13]; exact up_s
                have N_h13 := mi_up N_u51 E_h13 (by decide)
                have K58 := ke_tr K55 K_h13
                refine ok_rd (by omega) (gA_168 Y_h13.1) ?_; intro v16 e_v16 a_v16 b_v16
                have t_v16 : v16 = t 168 (a1).toNat := by rw [e_v16]; exact Y_h13.2.1 168 _ (nw_ar rfl _)
                have d_v16 : v49 = v16 := by rw [t_v16, t_v49]
                subst d_v16
                refine ok_sv (vy_memberOf hn Y_h13 S (by omega) (by omega)) ?_; intro u18 P_u18
                refine ok_wA (by omega) ?_; intro h19 E_h19
                obtain ⟨Y_h19, K_h19⟩ := yi_175 Y_h13 (by omega) (by omega) E_h19
                obtain ⟨k1_h19, k2_h19, k3_h19, k4_h19, k5_h19, k6_h19, k7_h19⟩ := K_h19.1
                have s_h19 : h19 175 (a1).toNat = u18 := by rw [E_h19]; exact up_s
                have K59 := ke_tr K58 K_h19
                refine ok_rd (by omega) (gA_175 Y_h19.1) ?_; intro v21 e_v21 a_v21 b_v21
                refine ok_if (fun C60 => ?_) (fun C60 => ?_)
                · skip
                  have N_h19 := mi_175 N_h13 E_h19 (by omega)
                  unfold qj_X13_invoked_193
                  refine ok_rd (by omega) (gA_175 Y_h19.1) ?_; intro v5 e_v5 a_v5 b_v5
                  refine ok_if (fun C61 => ?_) (fun C61 => ?_)
                  · skip
                    unfold qj_X13_invoked_232
                    unfold qj_X13_invoked_237
                    have y4 := (te_k31 T (by omega)).1
                    refine ok_sv (G.2.2.2.2.2.2 a1 v5 1 _ _ _ h19 Y_h19 N_h19 ((te_k31 T (by omega)).2.2.2) (by omega) (by omega) (by omega) (by omega) (by omega) (by omega) (by omega) (by omega)) ?_; intro u2 P_u2
                    obtain ⟨Y_u2, N_u2, K_u2, r1_u2, r2_u2, r3_u2, r4_u2⟩ := P_u2
                    obtain ⟨k1_u2, k2_u2, k3_u2, k4_u2, k5_u2, k6_u2, k7_u2⟩ := K_u2.1
                    have K62 := ke_tr K59 K_u2
                    exact ok_ret ⟨Y_u2, N_u2, K62, by omega, by omega, by omega, fun y => by have y : u2.2 160 9 = 0 := y; show 0 ≤ u2.1; omega⟩
                  · skip
                    refine ok_rd (by omega) (gA_175 Y_h19.1) ?_; intro v9 e_v9 a_v9 b_v9
                    refine ok_rd (by omega) (gA_182 Y_h19.1) ?_; intro v10 e_v10 a_v10 b_v10
                    have t_v10 : v10 = t 182 (v9).toNat := by rw [e_v10]; exact Y_h19.2.1 182 _ (nw_ar rfl _)
                    refine ok_if (fun C63 => ?_) (fun C63 => ?_)
                    · skip
                      unfold qj_X13_invoked_228
                      refine ok_if (fun C64 => ?_) (fun C64 => ?_)
                      · skip
                        unfold qj_X13_invoked_237
                        have y4 := (te_k31 T (by omega)).1
                        refine ok_sv (G.2.2.2.2.2.2 a1 v5 0 _ _ _ h19 Y_h19 N_h19 ((te_k31 T (by omega)).2.2.2) (by omega) (by omega) (by omega) (by omega) (by omega) (by omega) (by omega) (by omega)) ?_; intro u2 P_u2
                        obtain ⟨Y_u2, N_u2, K_u2, r1_u2, r2_u2, r3_u2, r4_u2⟩ := P_u2
                        obtain ⟨k1_u2, k2_u2, k3_u2, k4_u2, k5_u2, k6_u2, k7_u2⟩ := K_u2.1
                        have K65 := ke_tr K59 K_u2
                        exact ok_ret ⟨Y_u2, N_u2, K65, by omega, by omega, by omega, fun y => by have y : u2.2 160 9 = 0 := y; show 0 ≤ u2.1; omega⟩
                      · skip
                        unfold qj_X13_invoked_232
                        unfold qj_X13_invoked_237
                        have y4 := (te_k31 T (by omega)).1
                        refine ok_sv (G.2.2.2.2.2.2 a1 v5 1 _ _ _ h19 Y_h19 N_h19 ((te_k31 T (by omega)).2.2.2) (by omega) (by omega) (by omega) (by omega) (by omega) (by omega) (by omega) (by omega)) ?_; intro u2 P_u2
                        obtain ⟨Y_u2, N_u2, K_u2, r1_u2, r2_u2, r3_u2, r4_u2⟩ := P_u2
                        obtain ⟨k1_u2, k2_u2, k3_u2, k4_u2, k5_u2, k6_u2, k7_u2⟩ := K_u2.1
                        have K66 := ke_tr K59 K_u2
                        exact ok_ret ⟨Y_u2, N_u2, K66, by omega, by omega, by omega, fun y => by have y : u2.2 160 9 = 0 := y; show 0 ≤ u2.1; omega⟩
                    · skip
                      unfold qj_X13_invoked_228
                      refine ok_if (fun C67 => ?_) (fun C67 => ?_)
                      · skip
                        unfold qj_X13_invoked_237
                        have y4 := (te_k31 T (by omega)).1
                        refine ok_sv (G.2.2.2.2.2.2 a1 v5 0 _ _ _ h19 Y_h19 N_h19 ((te_k31 T (by omega)).2.2.2) (by omega) (by omega) (by omega) (by omega) (by omega) (by omega) (by omega) (by omega)) ?_; intro u2 P_u2
                        obtain ⟨Y_u2, N_u2, K_u2, r1_u2, r2_u2, r3_u2, r4_u2⟩ := P_u2
                        obtain ⟨k1_u2, k2_u2, k3_u2, k4_u2, k5_u2, k6_u2, k7_u2⟩ := K_u2.1
                        have K68 := ke_tr K59 K_u2
                        exact ok_ret ⟨Y_u2, N_u2, K68, by omega, by omega, by omega, fun y => by have y : u2.2 160 9 = 0 := y; show 0 ≤ u2.1; omega⟩
                      · skip
                        unfold qj_X13_invoked_232
                        unfold qj_X13_invoked_237
                        have y4 := (te_k31 T (by omega)).1
                        refine ok_sv (G.2.2.2.2.2.2 a1 v5 1 _ _ _ h19 Y_h19 N_h19 ((te_k31 T (by omega)).2.2.2) (by omega) (by omega) (by omega) (by omega) (by omega) (by omega) (by omega) (by omega)) ?_; intro u2 P_u2
                        obtain ⟨Y_u2, N_u2, K_u2, r1_u2, r2_u2, r3_u2, r4_u2⟩ := P_u2
                        obtain ⟨k1_u2, k2_u2, k3_u2, k4_u2, k5_u2, k6_u2, k7_u2⟩ := K_u2.1
                        have K69 := ke_tr K59 K_u2
                        exact ok_ret ⟨Y_u2, N_u2, K69, by omega, by omega, by omega, fun y => by have y : u2.2 160 9 = 0 := y; show 0 ≤ u2.1; omega⟩
                · skip
                  refine ok_rd (by omega) (gA_168 Y_h19.1) ?_; intro v23 e_v23 a_v23 b_v23
                  have t_v23 : v23 = t 168 (a1).toNat := by rw [e_v23]; exact Y_h19.2.1 168 _ (nw_ar rfl _)
                  have d_v23 : v49 = v23 := by rw [t_v23, t_v49]
                  subst d_v23
                  refine ok_sv (vy_wrong hn Y_h19 (by omega) (by omega)) ?_; intro u25 P_u25
                  obtain ⟨Y_u25, K_u25, x_u25⟩ := P_u25
                  obtain ⟨k1_u25, k2_u25, k3_u25, k4_u25, k5_u25, k6_u25, k7_u25⟩ := K_u25.1
                  have N_u25 : MI t u25 := mi_dead x_u25
                  have K70 := ke_tr K59 K_u25
                  unfold qj_X13_invoked_193
                  refine ok_rd (by omega) (gA_175 Y_u25.1) ?_; intro v5 e_v5 a_v5 b_v5
                  refine ok_if (fun C71 => ?_) (fun C71 => ?_)
                  · skip
                    unfold qj_X13_invoked_232
                    unfold qj_X13_invoked_237
                    have y4 := (te_k31 T (by omega)).1
                    refine ok_sv (G.2.2.2.2.2.2 a1 v5 1 _ _ _ u25 Y_u25 N_u25 ((te_k31 T (by omega)).2.2.2) (by omega) (by omega) (by omega) (by omega) (by omega) (by omega) (by omega) (by omega)) ?_; intro u2 P_u2
                    obtain ⟨Y_u2, N_u2, K_u2, r1_u2, r2_u2, r3_u2, r4_u2⟩ := P_u2
                    obtain ⟨k1_u2, k2_u2, k3_u2, k4_u2, k5_u2, k6_u2, k7_u2⟩ := K_u2.1
                    have K72 := ke_tr K70 K_u2
                    exact ok_ret ⟨Y_u2, N_u2, K72, by omega, by omega, by omega, fun y => by have y : u2.2 160 9 = 0 := y; show 0 ≤ u2.1; omega⟩
                  · skip
                    refine ok_rd (by omega) (gA_175 Y_u25.1) ?_; intro v9 e_v9 a_v9 b_v9
                    refine ok_rd (by omega) (gA_182 Y_u25.1) ?_; intro v10 e_v10 a_v10 b_v10
                    have t_v10 : v10 = t 182 (v9).toNat := by rw [e_v10]; exact Y_u25.2.1 182 _ (nw_ar rfl _)
                    refine ok_if (fun C73 => ?_) (fun C73 => ?_)
                    · skip
                      unfold qj_X13_invoked_228
                      refine ok_if (fun C74 => ?_) (fun C74 => ?_)
                      · skip
                        unfold qj_X13_invoked_237
                        have y4 := (te_k31 T (by omega)).1
                        refine ok_sv (G.2.2.2.2.2.2 a1 v5 0 _ _ _ u25 Y_u25 N_u25 ((te_k31 T (by omega)).2.2.2) (by omega) (by omega) (by omega) (by omega) (by omega) (by omega) (by omega) (by omega)) ?_; intro u2 P_u2
                        obtain ⟨Y_u2, N_u2, K_u2, r1_u2, r2_u2, r3_u2, r4_u2⟩ := P_u2
                        obtain ⟨k1_u2, k2_u2, k3_u2, k4_u2, k5_u2, k6_u2, k7_u2⟩ := K_u2.1
                        have K75 := ke_tr K70 K_u2
                        exact ok_ret ⟨Y_u2, N_u2, K75, by omega, by omega, by omega, fun y => by have y : u2.2 160 9 = 0 := y; show 0 ≤ u2.1; omega⟩
                      · skip
                        unfold qj_X13_invoked_232
                        unfold qj_X13_invoked_237
                        have y4 := (te_k31 T (by omega)).1
                        refine ok_sv (G.2.2.2.2.2.2 a1 v5 1 _ _ _ u25 Y_u25 N_u25 ((te_k31 T (by omega)).2.2.2) (by omega) (by omega) (by omega) (by omega) (by omega) (by omega) (by omega) (by omega)) ?_; intro u2 P_u2
                        obtain ⟨Y_u2, N_u2, K_u2, r1_u2, r2_u2, r3_u2, r4_u2⟩ := P_u2
                        obtain ⟨k1_u2, k2_u2, k3_u2, k4_u2, k5_u2, k6_u2, k7_u2⟩ := K_u2.1
                        have K76 := ke_tr K70 K_u2
                        exact ok_ret ⟨Y_u2, N_u2, K76, by omega, by omega, by omega, fun y => by have y : u2.2 160 9 = 0 := y; show 0 ≤ u2.1; omega⟩
                    · skip
                      unfold qj_X13_invoked_228
                      refine ok_if (fun C77 => ?_) (fun C77 => ?_)
                      · skip
                        unfold qj_X13_invoked_237
                        have y4 := (te_k31 T (by omega)).1
                        refine ok_sv (G.2.2.2.2.2.2 a1 v5 0 _ _ _ u25 Y_u25 N_u25 ((te_k31 T (by omega)).2.2.2) (by omega) (by omega) (by omega) (by omega) (by omega) (by omega) (by omega) (by omega)) ?_; intro u2 P_u2
                        obtain ⟨Y_u2, N_u2, K_u2, r1_u2, r2_u2, r3_u2, r4_u2⟩ := P_u2
                        obtain ⟨k1_u2, k2_u2, k3_u2, k4_u2, k5_u2, k6_u2, k7_u2⟩ := K_u2.1
                        have K78 := ke_tr K70 K_u2
                        exact ok_ret ⟨Y_u2, N_u2, K78, by omega, by omega, by omega, fun y => by have y : u2.2 160 9 = 0 := y; show 0 ≤ u2.1; omega⟩
                      · skip
                        unfold qj_X13_invoked_232
                        unfold qj_X13_invoked_237
                        have y4 := (te_k31 T (by omega)).1
                        refine ok_sv (G.2.2.2.2.2.2 a1 v5 1 _ _ _ u25 Y_u25 N_u25 ((te_k31 T (by omega)).2.2.2) (by omega) (by omega) (by omega) (by omega) (by omega) (by omega) (by omega) (by omega)) ?_; intro u2 P_u2
                        obtain ⟨Y_u2, N_u2, K_u2, r1_u2, r2_u2, r3_u2, r4_u2⟩ := P_u2
                        obtain ⟨k1_u2, k2_u2, k3_u2, k4_u2, k5_u2, k6_u2, k7_u2⟩ := K_u2.1
                        have K79 := ke_tr K70 K_u2
                        exact ok_ret ⟨Y_u2, N_u2, K79, by omega, by omega, by omega, fun y => by have y : u2.2 160 9 = 0 := y; show 0 ≤ u2.1; omega⟩
              · skip
                unfold qj_X13_invoked_152
                refine ok_wA (by omega) ?_; intro h13 E_h13
                obtain ⟨Y_h13, K_h13⟩ := yi_176 Y_u51 (by omega) (by omega) (by omega) E_h13
                obtain ⟨k1_h13, k2_h13, k3_h13, k4_h13, k5_h13, k6_h13, k7_h13⟩ := K_h13.1
                have s_h13 : h13 176 (a1).toNat = v32 := by rw [E_h13]; exact up_s
                have N_h13 := mi_up N_u51 E_h13 (by decide)
                have K80 := ke_tr K55 K_h13
                refine ok_rd (by omega) (gA_168 Y_h13.1) ?_; intro v16 e_v16 a_v16 b_v16
                have t_v16 : v16 = t 168 (a1).toNat := by rw [e_v16]; exact Y_h13.2.1 168 _ (nw_ar rfl _)
                have d_v16 : v49 = v16 := by rw [t_v16, t_v49]
                subst d_v16
                refine ok_sv (vy_memberOf hn Y_h13 S (by omega) (by omega)) ?_; intro u18 P_u18
                refine ok_wA (by omega) ?_; intro h19 E_h19
                obtain ⟨Y_h19, K_h19⟩ := yi_175 Y_h13 (by omega) (by omega) E_h19
                obtain ⟨k1_h19, k2_h19, k3_h19, k4_h19, k5_h19, k6_h19, k7_h19⟩ := K_h19.1
                have s_h19 : h19 175 (a1).toNat = u18 := by rw [E_h19]; exact up_s
                have K81 := ke_tr K80 K_h19
                refine ok_rd (by omega) (gA_175 Y_h19.1) ?_; intro v21 e_v21 a_v21 b_v21
                refine ok_if (fun C82 => ?_) (fun C82 => ?_)
                · skip
                  have N_h19 := mi_175 N_h13 E_h19 (by omega)
                  unfold qj_X13_invoked_193
                  refine ok_rd (by omega) (gA_175 Y_h19.1) ?_; intro v5 e_v5 a_v5 b_v5
                  refine ok_if (fun C83 => ?_) (fun C83 => ?_)
                  · skip
                    unfold qj_X13_invoked_232
                    unfold qj_X13_invoked_237
                    have y4 := (te_k31 T (by omega)).1
                    refine ok_sv (G.2.2.2.2.2.2 a1 v5 1 _ _ _ h19 Y_h19 N_h19 ((te_k31 T (by omega)).2.2.2) (by omega) (by omega) (by omega) (by omega) (by omega) (by omega) (by omega) (by omega)) ?_; intro u2 P_u2
                    obtain ⟨Y_u2, N_u2, K_u2, r1_u2, r2_u2, r3_u2, r4_u2⟩ := P_u2
                    obtain ⟨k1_u2, k2_u2, k3_u2, k4_u2, k5_u2, k6_u2, k7_u2⟩ := K_u2.1
                    have K84 := ke_tr K81 K_u2
                    exact ok_ret ⟨Y_u2, N_u2, K84, by omega, by omega, by omega, fun y => by have y : u2.2 160 9 = 0 := y; show 0 ≤ u2.1; omega⟩
                  · skip
                    refine ok_rd (by omega) (gA_175 Y_h19.1) ?_; intro v9 e_v9 a_v9 b_v9
                    refine ok_rd (by omega) (gA_182 Y_h19.1) ?_; intro v10 e_v10 a_v10 b_v10
                    have t_v10 : v10 = t 182 (v9).toNat := by rw [e_v10]; exact Y_h19.2.1 182 _ (nw_ar rfl _)
                    refine ok_if (fun C85 => ?_) (fun C85 => ?_)
                    · skip
                      unfold qj_X13_invoked_228
                      refine ok_if (fun C86 => ?_) (fun C86 => ?_)
                      · skip
                        unfold qj_X13_invoked_237
                        have y4 := (te_k31 T (by omega)).1
                        refine ok_sv (G.2.2.2.2.2.2 a1 v5 0 _ _ _ h19 Y_h19 N_h19 ((te_k31 T (by omega)).2.2.2) (by omega) (by omega) (by omega) (by omega) (by omega) (by omega) (by omega) (by omega)) ?_; intro u2 P_u2
                        obtain ⟨Y_u2, N_u2, K_u2, r1_u2, r2_u2, r3_u2, r4_u2⟩ := P_u2
                        obtain ⟨k1_u2, k2_u2, k3_u2, k4_u2, k5_u2, k6_u2, k7_u2⟩ := K_u2.1
                        have K87 := ke_tr K81 K_u2
                        exact ok_ret ⟨Y_u2, N_u2, K87, by omega, by omega, by omega, fun y => by have y : u2.2 160 9 = 0 := y; show 0 ≤ u2.1; omega⟩
                      · skip
                        unfold qj_X13_invoked_232
                        unfold qj_X13_invoked_237
                        have y4 := (te_k31 T (by omega)).1
                        refine ok_sv (G.2.2.2.2.2.2 a1 v5 1 _ _ _ h19 Y_h19 N_h19 ((te_k31 T (by omega)).2.2.2) (by omega) (by omega) (by omega) (by omega) (by omega) (by omega) (by omega) (by omega)) ?_; intro u2 P_u2
                        obtain ⟨Y_u2, N_u2, K_u2, r1_u2, r2_u2, r3_u2, r4_u2⟩ := P_u2
                        obtain ⟨k1_u2, k2_u2, k3_u2, k4_u2, k5_u2, k6_u2, k7_u2⟩ := K_u2.1
                        have K88 := ke_tr K81 K_u2
                        exact ok_ret ⟨Y_u2, N_u2, K88, by omega, by omega, by omega, fun y => by have y : u2.2 160 9 = 0 := y; show 0 ≤ u2.1; omega⟩
                    · skip
                      unfold qj_X13_invoked_228
                      refine ok_if (fun C89 => ?_) (fun C89 => ?_)
                      · skip
                        unfold qj_X13_invoked_237
                        have y4 := (te_k31 T (by omega)).1
                        refine ok_sv (G.2.2.2.2.2.2 a1 v5 0 _ _ _ h19 Y_h19 N_h19 ((te_k31 T (by omega)).2.2.2) (by omega) (by omega) (by omega) (by omega) (by omega) (by omega) (by omega) (by omega)) ?_; intro u2 P_u2
                        obtain ⟨Y_u2, N_u2, K_u2, r1_u2, r2_u2, r3_u2, r4_u2⟩ := P_u2
                        obtain ⟨k1_u2, k2_u2, k3_u2, k4_u2, k5_u2, k6_u2, k7_u2⟩ := K_u2.1
                        have K90 := ke_tr K81 K_u2
                        exact ok_ret ⟨Y_u2, N_u2, K90, by omega, by omega, by omega, fun y => by have y : u2.2 160 9 = 0 := y; show 0 ≤ u2.1; omega⟩
                      · skip
                        unfold qj_X13_invoked_232
                        unfold qj_X13_invoked_237
                        have y4 := (te_k31 T (by omega)).1
                        refine ok_sv (G.2.2.2.2.2.2 a1 v5 1 _ _ _ h19 Y_h19 N_h19 ((te_k31 T (by omega)).2.2.2) (by omega) (by omega) (by omega) (by omega) (by omega) (by omega) (by omega) (by omega)) ?_; intro u2 P_u2
                        obtain ⟨Y_u2, N_u2, K_u2, r1_u2, r2_u2, r3_u2, r4_u2⟩ := P_u2
                        obtain ⟨k1_u2, k2_u2, k3_u2, k4_u2, k5_u2, k6_u2, k7_u2⟩ := K_u2.1
                        have K91 := ke_tr K81 K_u2
                        exact ok_ret ⟨Y_u2, N_u2, K91, by omega, by omega, by omega, fun y => by have y : u2.2 160 9 = 0 := y; show 0 ≤ u2.1; omega⟩
                · skip
                  refine ok_rd (by omega) (gA_168 Y_h19.1) ?_; intro v23 e_v23 a_v23 b_v23
                  have t_v23 : v23 = t 168 (a1).toNat := by rw [e_v23]; exact Y_h19.2.1 168 _ (nw_ar rfl _)
                  have d_v23 : v49 = v23 := by rw [t_v23, t_v49]
                  subst d_v23
                  refine ok_sv (vy_wrong hn Y_h19 (by omega) (by omega)) ?_; intro u25 P_u25
                  obtain ⟨Y_u25, K_u25, x_u25⟩ := P_u25
                  obtain ⟨k1_u25, k2_u25, k3_u25, k4_u25, k5_u25, k6_u25, k7_u25⟩ := K_u25.1
                  have N_u25 : MI t u25 := mi_dead x_u25
                  have K92 := ke_tr K81 K_u25
                  unfold qj_X13_invoked_193
                  refine ok_rd (by omega) (gA_175 Y_u25.1) ?_; intro v5 e_v5 a_v5 b_v5
                  refine ok_if (fun C93 => ?_) (fun C93 => ?_)
                  · skip
                    unfold qj_X13_invoked_232
                    unfold qj_X13_invoked_237
                    have y4 := (te_k31 T (by omega)).1
                    refine ok_sv (G.2.2.2.2.2.2 a1 v5 1 _ _ _ u25 Y_u25 N_u25 ((te_k31 T (by omega)).2.2.2) (by omega) (by omega) (by omega) (by omega) (by omega) (by omega) (by omega) (by omega)) ?_; intro u2 P_u2
                    obtain ⟨Y_u2, N_u2, K_u2, r1_u2, r2_u2, r3_u2, r4_u2⟩ := P_u2
                    obtain ⟨k1_u2, k2_u2, k3_u2, k4_u2, k5_u2, k6_u2, k7_u2⟩ := K_u2.1
                    have K94 := ke_tr K92 K_u2
                    exact ok_ret ⟨Y_u2, N_u2, K94, by omega, by omega, by omega, fun y => by have y : u2.2 160 9 = 0 := y; show 0 ≤ u2.1; omega⟩
                  · skip
                    refine ok_rd (by omega) (gA_175 Y_u25.1) ?_; intro v9 e_v9 a_v9 b_v9
                    refine ok_rd (by omega) (gA_182 Y_u25.1) ?_; intro v10 e_v10 a_v10 b_v10
                    have t_v10 : v10 = t 182 (v9).toNat := by rw [e_v10]; exact Y_u25.2.1 182 _ (nw_ar rfl _)
                    refine ok_if (fun C95 => ?_) (fun C95 => ?_)
                    · skip
                      unfold qj_X13_invoked_228
                      refine ok_if (fun C96 => ?_) (fun C96 => ?_)
                      · skip
                        unfold qj_X13_invoked_237
                        have y4 := (te_k31 T (by omega)).1
                        refine ok_sv (G.2.2.2.2.2.2 a1 v5 0 _ _ _ u25 Y_u25 N_u25 ((te_k31 T (by omega)).2.2.2) (by omega) (by omega) (by omega) (by omega) (by omega) (by omega) (by omega) (by omega)) ?_; intro u2 P_u2
                        obtain ⟨Y_u2, N_u2, K_u2, r1_u2, r2_u2, r3_u2, r4_u2⟩ := P_u2
                        obtain ⟨k1_u2, k2_u2, k3_u2, k4_u2, k5_u2, k6_u2, k7_u2⟩ := K_u2.1
                        have K97 := ke_tr K92 K_u2
                        exact ok_ret ⟨Y_u2, N_u2, K97, by omega, by omega, by omega, fun y => by have y : u2.2 160 9 = 0 := y; show 0 ≤ u2.1; omega⟩
                      · skip
                        unfold qj_X13_invoked_232
                        unfold qj_X13_invoked_237
                        have y4 := (te_k31 T (by omega)).1
                        refine ok_sv (G.2.2.2.2.2.2 a1 v5 1 _ _ _ u25 Y_u25 N_u25 ((te_k31 T (by omega)).2.2.2) (by omega) (by omega) (by omega) (by omega) (by omega) (by omega) (by omega) (by omega)) ?_; intro u2 P_u2
                        obtain ⟨Y_u2, N_u2, K_u2, r1_u2, r2_u2, r3_u2, r4_u2⟩ := P_u2
                        obtain ⟨k1_u2, k2_u2, k3_u2, k4_u2, k5_u2, k6_u2, k7_u2⟩ := K_u2.1
                        have K98 := ke_tr K92 K_u2
                        exact ok_ret ⟨Y_u2, N_u2, K98, by omega, by omega, by omega, fun y => by have y : u2.2 160 9 = 0 := y; show 0 ≤ u2.1; omega⟩
                    · skip
                      unfold qj_X13_invoked_228
                      refine ok_if (fun C99 => ?_) (fun C99 => ?_)
                      · skip
                        unfold qj_X13_invoked_237
                        have y4 := (te_k31 T (by omega)).1
                        refine ok_sv (G.2.2.2.2.2.2 a1 v5 0 _ _ _ u25 Y_u25 N_u25 ((te_k31 T (by omega)).2.2.2) (by omega) (by omega) (by omega) (by omega) (by omega) (by omega) (by omega) (by omega)) ?_; intro u2 P_u2
                        obtain ⟨Y_u2, N_u2, K_u2, r1_u2, r2_u2, r3_u2, r4_u2⟩ := P_u2
                        obtain ⟨k1_u2, k2_u2, k3_u2, k4_u2, k5_u2, k6_u2, k7_u2⟩ := K_u2.1
                        have K100 := ke_tr K92 K_u2
                        exact ok_ret ⟨Y_u2, N_u2, K100, by omega, by omega, by omega, fun y => by have y : u2.2 160 9 = 0 := y; show 0 ≤ u2.1; omega⟩
                      · skip
                        unfold qj_X13_invoked_232
                        unfold qj_X13_invoked_237
                        have y4 := (te_k31 T (by omega)).1
                        refine ok_sv (G.2.2.2.2.2.2 a1 v5 1 _ _ _ u25 Y_u25 N_u25 ((te_k31 T (by omega)).2.2.2) (by omega) (by omega) (by omega) (by omega) (by omega) (by omega) (by omega) (by omega)) ?_; intro u2 P_u2
                        obtain ⟨Y_u2, N_u2, K_u2, r1_u2, r2_u2, r3_u2, r4_u2⟩ := P_u2
                        obtain ⟨k1_u2, k2_u2, k3_u2, k4_u2, k5_u2, k6_u2, k7_u2⟩ := K_u2.1
                        have K101 := ke_tr K92 K_u2
                        exact ok_ret ⟨Y_u2, N_u2, K101, by omega, by omega, by omega, fun y => by have y : u2.2 160 9 = 0 := y; show 0 ≤ u2.1; omega⟩
            · skip
              exact ok_ret ⟨Y_u51, N_u51, K55, by omega, by omega, by omega, fun y => by have y : u51 160 9 = 0 := y; show 0 ≤ 0; omega⟩
        · skip
          unfold qj_X13_invoked_86
          refine ok_rd (by omega) (gA_172 Y_u44.1) ?_; intro v34 e_v34 a_v34 b_v34
          have t_v34 : v34 = t 172 (a1).toNat := by rw [e_v34]; exact Y_u44.2.1 172 _ (nw_ar rfl _)
          have q_v34 := (te_k31 T (by omega)).2.1
          refine ok_sv (vy_wrong hn Y_u44 (by omega) (by omega)) ?_; intro u36 P_u36
          obtain ⟨Y_u36, K_u36, x_u36⟩ := P_u36
          obtain ⟨k1_u36, k2_u36, k3_u36, k4_u36, k5_u36, k6_u36, k7_u36⟩ := K_u36.1
          have N_u36 : MI t u36 := mi_dead x_u36
          have K102 := ke_tr K3 K_u36
          exact ok_ret ⟨Y_u36, N_u36, K102, by omega, by omega, by omega, fun y => by have y : u36 160 9 = 0 := y; show 0 ≤ 0; omega⟩
    · skip
      exact ok_ret ⟨Y_u44, N_u44, K3, by omega, by omega, by omega, fun y => by have y : u44.2 160 9 = 0 := y; show 0 ≤ 0; omega⟩
  · skip
    refine ok_rd (by omega) (gA_168 Y0.1) ?_; intro v57 e_v57 a_v57 b_v57
    have t_v57 : v57 = t 168 (v40).toNat := by rw [e_v57]; exact Y0.2.1 168 _ (nw_ar rfl _)
    refine ok_sv (vy_classOf hn Y0 S (by omega)) ?_; intro u59 P_u59
    refine ok_if (fun C103 => ?_) (fun C103 => ?_)
    · skip
      unfold qj_X13_invoked_46
      refine ok_wA (by omega) ?_; intro h38 E_h38
      obtain ⟨Y_h38, K_h38⟩ := yi_174 Y0 (by omega) (by omega) E_h38
      obtain ⟨k1_h38, k2_h38, k3_h38, k4_h38, k5_h38, k6_h38, k7_h38⟩ := K_h38.1
      have s_h38 : h38 174 (v40).toNat = 3 := by rw [E_h38]; exact up_s
      have N_h38 := mi_174 N0 E_h38 (by omega)
      have K104 := ke_tr K0 K_h38
      unfold qj_X13_invoked_128
      refine ok_if (fun C105 => ?_) (fun C105 => ?_)
      · skip
        refine ok_if (fun C106 => ?_) (fun C106 => ?_)
        · skip
          unfold qj_X13_invoked_152
          refine ok_wA (by omega) ?_; intro h13 E_h13
          obtain ⟨Y_h13, K_h13⟩ := yi_176 Y_h38 (by omega) (by omega) (by omega) E_h13
          obtain ⟨k1_h13, k2_h13, k3_h13, k4_h13, k5_h13, k6_h13, k7_h13⟩ := K_h13.1
          have s_h13 : h13 176 (a1).toNat = (-1) := by rw [E_h13]; exact up_s
          have N_h13 := mi_up N_h38 E_h13 (by decide)
          have K107 := ke_tr K104 K_h13
          refine ok_rd (by omega) (gA_168 Y_h13.1) ?_; intro v16 e_v16 a_v16 b_v16
          have t_v16 : v16 = t 168 (a1).toNat := by rw [e_v16]; exact Y_h13.2.1 168 _ (nw_ar rfl _)
          refine ok_sv (vy_memberOf hn Y_h13 S (by omega) (by omega)) ?_; intro u18 P_u18
          refine ok_wA (by omega) ?_; intro h19 E_h19
          obtain ⟨Y_h19, K_h19⟩ := yi_175 Y_h13 (by omega) (by omega) E_h19
          obtain ⟨k1_h19, k2_h19, k3_h19, k4_h19, k5_h19, k6_h19, k7_h19⟩ := K_h19.1
          have s_h19 : h19 175 (a1).toNat = u18 := by rw [E_h19]; exact up_s
          have K108 := ke_tr K107 K_h19
          refine ok_rd (by omega) (gA_175 Y_h19.1) ?_; intro v21 e_v21 a_v21 b_v21
          refine ok_if (fun C109 => ?_) (fun C109 => ?_)
          · skip
            have N_h19 := mi_175 N_h13 E_h19 (by omega)
            unfold qj_X13_invoked_193
            refine ok_rd (by omega) (gA_175 Y_h19.1) ?_; intro v5 e_v5 a_v5 b_v5
            refine ok_if (fun C110 => ?_) (fun C110 => ?_)
            · skip
              unfold qj_X13_invoked_232
              unfold qj_X13_invoked_237
              have y4 := (te_k31 T (by omega)).1
              refine ok_sv (G.2.2.2.2.2.2 a1 v5 1 _ _ _ h19 Y_h19 N_h19 ((te_k31 T (by omega)).2.2.2) (by omega) (by omega) (by omega) (by omega) (by omega) (by omega) (by omega) (by omega)) ?_; intro u2 P_u2
              obtain ⟨Y_u2, N_u2, K_u2, r1_u2, r2_u2, r3_u2, r4_u2⟩ := P_u2
              obtain ⟨k1_u2, k2_u2, k3_u2, k4_u2, k5_u2, k6_u2, k7_u2⟩ := K_u2.1
              have K111 := ke_tr K108 K_u2
              exact ok_ret ⟨Y_u2, N_u2, K111, by omega, by omega, by omega, fun y => by have y : u2.2 160 9 = 0 := y; show 0 ≤ u2.1; omega⟩
            · skip
              refine ok_rd (by omega) (gA_175 Y_h19.1) ?_; intro v9 e_v9 a_v9 b_v9
              refine ok_rd (by omega) (gA_182 Y_h19.1) ?_; intro v10 e_v10 a_v10 b_v10
              have t_v10 : v10 = t 182 (v9).toNat := by rw [e_v10]; exact Y_h19.2.1 182 _ (nw_ar rfl _)
              refine ok_if (fun C112 => ?_) (fun C112 => ?_)
              · skip
                unfold qj_X13_invoked_228
                refine ok_if (fun C113 => ?_) (fun C113 => ?_)
                · skip
                  unfold qj_X13_invoked_237
                  have y4 := (te_k31 T (by omega)).1
                  refine ok_sv (G.2.2.2.2.2.2 a1 v5 0 _ _ _ h19 Y_h19 N_h19 ((te_k31 T (by omega)).2.2.2) (by omega) (by omega) (by omega) (by omega) (by omega) (by omega) (by omega) (by omega)) ?_; intro u2 P_u2
                  obtain ⟨Y_u2, N_u2, K_u2, r1_u2, r2_u2, r3_u2, r4_u2⟩ := P_u2
                  obtain ⟨k1_u2, k2_u2, k3_u2, k4_u2, k5_u2, k6_u2, k7_u2⟩ := K_u2.1
                  have K114 := ke_tr K108 K_u2
                  exact ok_ret ⟨Y_u2, N_u2, K114, by omega, by omega, by omega, fun y => by have y : u2.2 160 9 = 0 := y; show 0 ≤ u2.1; omega⟩
                · skip
                  unfold qj_X13_invoked_232
                  unfold qj_X13_invoked_237
                  have y4 := (te_k31 T (by omega)).1
                  refine ok_sv (G.2.2.2.2.2.2 a1 v5 1 _ _ _ h19 Y_h19 N_h19 ((te_k31 T (by omega)).2.2.2) (by omega) (by omega) (by omega) (by omega) (by omega) (by omega) (by omega) (by omega)) ?_; intro u2 P_u2
                  obtain ⟨Y_u2, N_u2, K_u2, r1_u2, r2_u2, r3_u2, r4_u2⟩ := P_u2
                  obtain ⟨k1_u2, k2_u2, k3_u2, k4_u2, k5_u2, k6_u2, k7_u2⟩ := K_u2.1
                  have K115 := ke_tr K108 K_u2
                  exact ok_ret ⟨Y_u2, N_u2, K115, by omega, by omega, by omega, fun y => by have y : u2.2 160 9 = 0 := y; show 0 ≤ u2.1; omega⟩
              · skip
                unfold qj_X13_invoked_228
                refine ok_if (fun C116 => ?_) (fun C116 => ?_)
                · skip
                  unfold qj_X13_invoked_237
                  have y4 := (te_k31 T (by omega)).1
                  refine ok_sv (G.2.2.2.2.2.2 a1 v5 0 _ _ _ h19 Y_h19 N_h19 ((te_k31 T (by omega)).2.2.2) (by omega) (by omega) (by omega) (by omega) (by omega) (by omega) (by omega) (by omega)) ?_; intro u2 P_u2
                  obtain ⟨Y_u2, N_u2, K_u2, r1_u2, r2_u2, r3_u2, r4_u2⟩ := P_u2
                  obtain ⟨k1_u2, k2_u2, k3_u2, k4_u2, k5_u2, k6_u2, k7_u2⟩ := K_u2.1
                  have K117 := ke_tr K108 K_u2
                  exact ok_ret ⟨Y_u2, N_u2, K117, by omega, by omega, by omega, fun y => by have y : u2.2 160 9 = 0 := y; show 0 ≤ u2.1; omega⟩
                · skip
                  unfold qj_X13_invoked_232
                  unfold qj_X13_invoked_237
                  have y4 := (te_k31 T (by omega)).1
                  refine ok_sv (G.2.2.2.2.2.2 a1 v5 1 _ _ _ h19 Y_h19 N_h19 ((te_k31 T (by omega)).2.2.2) (by omega) (by omega) (by omega) (by omega) (by omega) (by omega) (by omega) (by omega)) ?_; intro u2 P_u2
                  obtain ⟨Y_u2, N_u2, K_u2, r1_u2, r2_u2, r3_u2, r4_u2⟩ := P_u2
                  obtain ⟨k1_u2, k2_u2, k3_u2, k4_u2, k5_u2, k6_u2, k7_u2⟩ := K_u2.1
                  have K118 := ke_tr K108 K_u2
                  exact ok_ret ⟨Y_u2, N_u2, K118, by omega, by omega, by omega, fun y => by have y : u2.2 160 9 = 0 := y; show 0 ≤ u2.1; omega⟩
          · skip
            refine ok_rd (by omega) (gA_168 Y_h19.1) ?_; intro v23 e_v23 a_v23 b_v23
            have t_v23 : v23 = t 168 (a1).toNat := by rw [e_v23]; exact Y_h19.2.1 168 _ (nw_ar rfl _)
            have d_v23 : v16 = v23 := by rw [t_v23, t_v16]
            subst d_v23
            refine ok_sv (vy_wrong hn Y_h19 (by omega) (by omega)) ?_; intro u25 P_u25
            obtain ⟨Y_u25, K_u25, x_u25⟩ := P_u25
            obtain ⟨k1_u25, k2_u25, k3_u25, k4_u25, k5_u25, k6_u25, k7_u25⟩ := K_u25.1
            have N_u25 : MI t u25 := mi_dead x_u25
            have K119 := ke_tr K108 K_u25
            unfold qj_X13_invoked_193
            refine ok_rd (by omega) (gA_175 Y_u25.1) ?_; intro v5 e_v5 a_v5 b_v5
            refine ok_if (fun C120 => ?_) (fun C120 => ?_)
            · skip
              unfold qj_X13_invoked_232
              unfold qj_X13_invoked_237
              have y4 := (te_k31 T (by omega)).1
              refine ok_sv (G.2.2.2.2.2.2 a1 v5 1 _ _ _ u25 Y_u25 N_u25 ((te_k31 T (by omega)).2.2.2) (by omega) (by omega) (by omega) (by omega) (by omega) (by omega) (by omega) (by omega)) ?_; intro u2 P_u2
              obtain ⟨Y_u2, N_u2, K_u2, r1_u2, r2_u2, r3_u2, r4_u2⟩ := P_u2
              obtain ⟨k1_u2, k2_u2, k3_u2, k4_u2, k5_u2, k6_u2, k7_u2⟩ := K_u2.1
              have K121 := ke_tr K119 K_u2
              exact ok_ret ⟨Y_u2, N_u2, K121, by omega, by omega, by omega, fun y => by have y : u2.2 160 9 = 0 := y; show 0 ≤ u2.1; omega⟩
            · skip
              refine ok_rd (by omega) (gA_175 Y_u25.1) ?_; intro v9 e_v9 a_v9 b_v9
              refine ok_rd (by omega) (gA_182 Y_u25.1) ?_; intro v10 e_v10 a_v10 b_v10
              have t_v10 : v10 = t 182 (v9).toNat := by rw [e_v10]; exact Y_u25.2.1 182 _ (nw_ar rfl _)
              refine ok_if (fun C122 => ?_) (fun C122 => ?_)
              · skip
                unfold qj_X13_invoked_228
                refine ok_if (fun C123 => ?_) (fun C123 => ?_)
                · skip
                  unfold qj_X13_invoked_237
                  have y4 := (te_k31 T (by omega)).1
                  refine ok_sv (G.2.2.2.2.2.2 a1 v5 0 _ _ _ u25 Y_u25 N_u25 ((te_k31 T (by omega)).2.2.2) (by omega) (by omega) (by omega) (by omega) (by omega) (by omega) (by omega) (by omega)) ?_; intro u2 P_u2
                  obtain ⟨Y_u2, N_u2, K_u2, r1_u2, r2_u2, r3_u2, r4_u2⟩ := P_u2
                  obtain ⟨k1_u2, k2_u2, k3_u2, k4_u2, k5_u2, k6_u2, k7_u2⟩ := K_u2.1
                  have K124 := ke_tr K119 K_u2
                  exact ok_ret ⟨Y_u2, N_u2, K124, by omega, by omega, by omega, fun y => by have y : u2.2 160 9 = 0 := y; show 0 ≤ u2.1; omega⟩
                · skip
                  unfold qj_X13_invoked_232
                  unfold qj_X13_invoked_237
                  have y4 := (te_k31 T (by omega)).1
                  refine ok_sv (G.2.2.2.2.2.2 a1 v5 1 _ _ _ u25 Y_u25 N_u25 ((te_k31 T (by omega)).2.2.2) (by omega) (by omega) (by omega) (by omega) (by omega) (by omega) (by omega) (by omega)) ?_; intro u2 P_u2
                  obtain ⟨Y_u2, N_u2, K_u2, r1_u2, r2_u2, r3_u2, r4_u2⟩ := P_u2
                  obtain ⟨k1_u2, k2_u2, k3_u2, k4_u2, k5_u2, k6_u2, k7_u2⟩ := K_u2.1
                  have K125 := ke_tr K119 K_u2
                  exact ok_ret ⟨Y_u2, N_u2, K125, by omega, by omega, by omega, fun y => by have y : u2.2 160 9 = 0 := y; show 0 ≤ u2.1; omega⟩
              · skip
                unfold qj_X13_invoked_228
                refine ok_if (fun C126 => ?_) (fun C126 => ?_)
                · skip
                  unfold qj_X13_invoked_237
                  have y4 := (te_k31 T (by omega)).1
                  refine ok_sv (G.2.2.2.2.2.2 a1 v5 0 _ _ _ u25 Y_u25 N_u25 ((te_k31 T (by omega)).2.2.2) (by omega) (by omega) (by omega) (by omega) (by omega) (by omega) (by omega) (by omega)) ?_; intro u2 P_u2
                  obtain ⟨Y_u2, N_u2, K_u2, r1_u2, r2_u2, r3_u2, r4_u2⟩ := P_u2
                  obtain ⟨k1_u2, k2_u2, k3_u2, k4_u2, k5_u2, k6_u2, k7_u2⟩ := K_u2.1
                  have K127 := ke_tr K119 K_u2
                  exact ok_ret ⟨Y_u2, N_u2, K127, by omega, by omega, by omega, fun y => by have y : u2.2 160 9 = 0 := y; show 0 ≤ u2.1; omega⟩
                · skip
                  unfold qj_X13_invoked_232
                  unfold qj_X13_invoked_237
                  have y4 := (te_k31 T (by omega)).1
                  refine ok_sv (G.2.2.2.2.2.2 a1 v5 1 _ _ _ u25 Y_u25 N_u25 ((te_k31 T (by omega)).2.2.2) (by omega) (by omega) (by omega) (by omega) (by omega) (by omega) (by omega) (by omega)) ?_; intro u2 P_u2
                  obtain ⟨Y_u2, N_u2, K_u2, r1_u2, r2_u2, r3_u2, r4_u2⟩ := P_u2
                  obtain ⟨k1_u2, k2_u2, k3_u2, k4_u2, k5_u2, k6_u2, k7_u2⟩ := K_u2.1
                  have K128 := ke_tr K119 K_u2
                  exact ok_ret ⟨Y_u2, N_u2, K128, by omega, by omega, by omega, fun y => by have y : u2.2 160 9 = 0 := y; show 0 ≤ u2.1; omega⟩
        · skip
          unfold qj_X13_invoked_152
          refine ok_wA (by omega) ?_; intro h13 E_h13
          obtain ⟨Y_h13, K_h13⟩ := yi_176 Y_h38 (by omega) (by omega) (by omega) E_h13
          obtain ⟨k1_h13, k2_h13, k3_h13, k4_h13, k5_h13, k6_h13, k7_h13⟩ := K_h13.1
          have s_h13 : h13 176 (a1).toNat = u59 := by rw [E_h13]; exact up_s
          have N_h13 := mi_up N_h38 E_h13 (by decide)
          have K129 := ke_tr K104 K_h13
          refine ok_rd (by omega) (gA_168 Y_h13.1) ?_; intro v16 e_v16 a_v16 b_v16
          have t_v16 : v16 = t 168 (a1).toNat := by rw [e_v16]; exact Y_h13.2.1 168 _ (nw_ar rfl _)
          refine ok_sv (vy_memberOf hn Y_h13 S (by omega) (by omega)) ?_; intro u18 P_u18
          refine ok_wA (by omega) ?_; intro h19 E_h19
          obtain ⟨Y_h19, K_h19⟩ := yi_175 Y_h13 (by omega) (by omega) E_h19
          obtain ⟨k1_h19, k2_h19, k3_h19, k4_h19, k5_h19, k6_h19, k7_h19⟩ := K_h19.1
          have s_h19 : h19 175 (a1).toNat = u18 := by rw [E_h19]; exact up_s
          have K130 := ke_tr K129 K_h19
          refine ok_rd (by omega) (gA_175 Y_h19.1) ?_; intro v21 e_v21 a_v21 b_v21
          refine ok_if (fun C131 => ?_) (fun C131 => ?_)
          · skip
            have N_h19 := mi_175 N_h13 E_h19 (by omega)
            unfold qj_X13_invoked_193
            refine ok_rd (by omega) (gA_175 Y_h19.1) ?_; intro v5 e_v5 a_v5 b_v5
            refine ok_if (fun C132 => ?_) (fun C132 => ?_)
            · skip
              unfold qj_X13_invoked_232
              unfold qj_X13_invoked_237
              have y4 := (te_k31 T (by omega)).1
              refine ok_sv (G.2.2.2.2.2.2 a1 v5 1 _ _ _ h19 Y_h19 N_h19 ((te_k31 T (by omega)).2.2.2) (by omega) (by omega) (by omega) (by omega) (by omega) (by omega) (by omega) (by omega)) ?_; intro u2 P_u2
              obtain ⟨Y_u2, N_u2, K_u2, r1_u2, r2_u2, r3_u2, r4_u2⟩ := P_u2
              obtain ⟨k1_u2, k2_u2, k3_u2, k4_u2, k5_u2, k6_u2, k7_u2⟩ := K_u2.1
              have K133 := ke_tr K130 K_u2
              exact ok_ret ⟨Y_u2, N_u2, K133, by omega, by omega, by omega, fun y => by have y : u2.2 160 9 = 0 := y; show 0 ≤ u2.1; omega⟩
            · skip
              refine ok_rd (by omega) (gA_175 Y_h19.1) ?_; intro v9 e_v9 a_v9 b_v9
              refine ok_rd (by omega) (gA_182 Y_h19.1) ?_; intro v10 e_v10 a_v10 b_v10
              have t_v10 : v10 = t 182 (v9).toNat := by rw [e_v10]; exact Y_h19.2.1 182 _ (nw_ar rfl _)
              refine ok_if (fun C134 => ?_) (fun C134 => ?_)
              · skip
                unfold qj_X13_invoked_228
                refine ok_if (fun C135 => ?_) (fun C135 => ?_)
                · skip
                  unfold qj_X13_invoked_237
                  have y4 := (te_k31 T (by omega)).1
                  refine ok_sv (G.2.2.2.2.2.2 a1 v5 0 _ _ _ h19 Y_h19 N_h19 ((te_k31 T (by omega)).2.2.2) (by omega) (by omega) (by omega) (by omega) (by omega) (by omega) (by omega) (by omega)) ?_; intro u2 P_u2
                  obtain ⟨Y_u2, N_u2, K_u2, r1_u2, r2_u2, r3_u2, r4_u2⟩ := P_u2
                  obtain ⟨k1_u2, k2_u2, k3_u2, k4_u2, k5_u2, k6_u2, k7_u2⟩ := K_u2.1
                  have K136 := ke_tr K130 K_u2
                  exact ok_ret ⟨Y_u2, N_u2, K136, by omega, by omega, by omega, fun y => by have y : u2.2 160 9 = 0 := y; show 0 ≤ u2.1; omega⟩
                · skip
                  unfold qj_X13_invoked_232
                  unfold qj_X13_invoked_237
                  have y4 := (te_k31 T (by omega)).1
                  refine ok_sv (G.2.2.2.2.2.2 a1 v5 1 _ _ _ h19 Y_h19 N_h19 ((te_k31 T (by omega)).2.2.2) (by omega) (by omega) (by omega) (by omega) (by omega) (by omega) (by omega) (by omega)) ?_; intro u2 P_u2
                  obtain ⟨Y_u2, N_u2, K_u2, r1_u2, r2_u2, r3_u2, r4_u2⟩ := P_u2
                  obtain ⟨k1_u2, k2_u2, k3_u2, k4_u2, k5_u2, k6_u2, k7_u2⟩ := K_u2.1
                  have K137 := ke_tr K130 K_u2
                  exact ok_ret ⟨Y_u2, N_u2, K137, by omega, by omega, by omega, fun y => by have y : u2.2 160 9 = 0 := y; show 0 ≤ u2.1; omega⟩
              · skip
                unfold qj_X13_invoked_228
                refine ok_if (fun C138 => ?_) (fun C138 => ?_)
                · skip
                  unfold qj_X13_invoked_237
                  have y4 := (te_k31 T (by omega)).1
                  refine ok_sv (G.2.2.2.2.2.2 a1 v5 0 _ _ _ h19 Y_h19 N_h19 ((te_k31 T (by omega)).2.2.2) (by omega) (by omega) (by omega) (by omega) (by omega) (by omega) (by omega) (by omega)) ?_; intro u2 P_u2
                  obtain ⟨Y_u2, N_u2, K_u2, r1_u2, r2_u2, r3_u2, r4_u2⟩ := P_u2
                  obtain ⟨k1_u2, k2_u2, k3_u2, k4_u2, k5_u2, k6_u2, k7_u2⟩ := K_u2.1
                  have K139 := ke_tr K130 K_u2
                  exact ok_ret ⟨Y_u2, N_u2, K139, by omega, by omega, by omega, fun y => by have y : u2.2 160 9 = 0 := y; show 0 ≤ u2.1; omega⟩
                · skip
                  unfold qj_X13_invoked_232
                  unfold qj_X13_invoked_237
                  have y4 := (te_k31 T (by omega)).1
                  refine ok_sv (G.2.2.2.2.2.2 a1 v5 1 _ _ _ h19 Y_h19 N_h19 ((te_k31 T (by omega)).2.2.2) (by omega) (by omega) (by omega) (by omega) (by omega) (by omega) (by omega) (by omega)) ?_; intro u2 P_u2
                  obtain ⟨Y_u2, N_u2, K_u2, r1_u2, r2_u2, r3_u2, r4_u2⟩ := P_u2
                  obtain ⟨k1_u2, k2_u2, k3_u2, k4_u2, k5_u2, k6_u2, k7_u2⟩ := K_u2.1
                  have K140 := ke_tr K130 K_u2
                  exact ok_ret ⟨Y_u2, N_u2, K140, by omega, by omega, by omega, fun y => by have y : u2.2 160 9 = 0 := y; show 0 ≤ u2.1; omega⟩
          · skip
            refine ok_rd (by omega) (gA_168 Y_h19.1) ?_; intro v23 e_v23 a_v23 b_v23
            have t_v23 : v23 = t 168 (a1).toNat := by rw [e_v23]; exact Y_h19.2.1 168 _ (nw_ar rfl _)
            have d_v23 : v16 = v23 := by rw [t_v23, t_v16]
            subst d_v23
            refine ok_sv (vy_wrong hn Y_h19 (by omega) (by omega)) ?_; intro u25 P_u25
            obtain ⟨Y_u25, K_u25, x_u25⟩ := P_u25
            obtain ⟨k1_u25, k2_u25, k3_u25, k4_u25, k5_u25, k6_u25, k7_u25⟩ := K_u25.1
            have N_u25 : MI t u25 := mi_dead x_u25
            have K141 := ke_tr K130 K_u25
            unfold qj_X13_invoked_193
            refine ok_rd (by omega) (gA_175 Y_u25.1) ?_; intro v5 e_v5 a_v5 b_v5
            refine ok_if (fun C142 => ?_) (fun C142 => ?_)
            · skip
              unfold qj_X13_invoked_232
              unfold qj_X13_invoked_237
              have y4 := (te_k31 T (by omega)).1
              refine ok_sv (G.2.2.2.2.2.2 a1 v5 1 _ _ _ u25 Y_u25 N_u25 ((te_k31 T (by omega)).2.2.2) (by omega) (by omega) (by omega) (by omega) (by omega) (by omega) (by omega) (by omega)) ?_; intro u2 P_u2
              obtain ⟨Y_u2, N_u2, K_u2, r1_u2, r2_u2, r3_u2, r4_u2⟩ := P_u2
              obtain ⟨k1_u2, k2_u2, k3_u2, k4_u2, k5_u2, k6_u2, k7_u2⟩ := K_u2.1
              have K143 := ke_tr K141 K_u2
              exact ok_ret ⟨Y_u2, N_u2, K143, by omega, by omega, by omega, fun y => by have y : u2.2 160 9 = 0 := y; show 0 ≤ u2.1; omega⟩
            · skip
              refine ok_rd (by omega) (gA_175 Y_u25.1) ?_; intro v9 e_v9 a_v9 b_v9
              refine ok_rd (by omega) (gA_182 Y_u25.1) ?_; intro v10 e_v10 a_v10 b_v10
              have t_v10 : v10 = t 182 (v9).toNat := by rw [e_v10]; exact Y_u25.2.1 182 _ (nw_ar rfl _)
              refine ok_if (fun C144 => ?_) (fun C144 => ?_)
              · skip
                unfold qj_X13_invoked_228
                refine ok_if (fun C145 => ?_) (fun C145 => ?_)
                · skip
                  unfold qj_X13_invoked_237
                  have y4 := (te_k31 T (by omega)).1
                  refine ok_sv (G.2.2.2.2.2.2 a1 v5 0 _ _ _ u25 Y_u25 N_u25 ((te_k31 T (by omega)).2.2.2) (by omega) (by omega) (by omega) (by omega) (by omega) (by omega) (by omega) (by omega)) ?_; intro u2 P_u2
                  obtain ⟨Y_u2, N_u2, K_u2, r1_u2, r2_u2, r3_u2, r4_u2⟩ := P_u2
                  obtain ⟨k1_u2, k2_u2, k3_u2, k4_u2, k5_u2, k6_u2, k7_u2⟩ := K_u2.1
                  have K146 := ke_tr K141 K_u2
                  exact ok_ret ⟨Y_u2, N_u2, K146, by omega, by omega, by omega, fun y => by have y : u2.2 160 9 = 0 := y; show 0 ≤ u2.1; omega⟩
                · skip
                  unfold qj_X13_invoked_232
                  unfold qj_X13_invoked_237
                  have y4 := (te_k31 T (by omega)).1
                  refine ok_sv (G.2.2.2.2.2.2 a1 v5 1 _ _ _ u25 Y_u25 N_u25 ((te_k31 T (by omega)).2.2.2) (by omega) (by omega) (by omega) (by omega) (by omega) (by omega) (by omega) (by omega)) ?_; intro u2 P_u2
                  obtain ⟨Y_u2, N_u2, K_u2, r1_u2, r2_u2, r3_u2, r4_u2⟩ := P_u2
                  obtain ⟨k1_u2, k2_u2, k3_u2, k4_u2, k5_u2, k6_u2, k7_u2⟩ := K_u2.1
                  have K147 := ke_tr K141 K_u2
                  exact ok_ret ⟨Y_u2, N_u2, K147, by omega, by omega, by omega, fun y => by have y : u2.2 160 9 = 0 := y; show 0 ≤ u2.1; omega⟩
              · skip
                unfold qj_X13_invoked_228
                refine ok_if (fun C148 => ?_) (fun C148 => ?_)
                · skip
                  unfold qj_X13_invoked_237
                  have y4 := (te_k31 T (by omega)).1
                  refine ok_sv (G.2.2.2.2.2.2 a1 v5 0 _ _ _ u25 Y_u25 N_u25 ((te_k31 T (by omega)).2.2.2) (by omega) (by omega) (by omega) (by omega) (by omega) (by omega) (by omega) (by omega)) ?_; intro u2 P_u2
                  obtain ⟨Y_u2, N_u2, K_u2, r1_u2, r2_u2, r3_u2, r4_u2⟩ := P_u2
                  obtain ⟨k1_u2, k2_u2, k3_u2, k4_u2, k5_u2, k6_u2, k7_u2⟩ := K_u2.1
                  have K149 := ke_tr K141 K_u2
                  exact ok_ret ⟨Y_u2, N_u2, K149, by omega, by omega, by omega, fun y => by have y : u2.2 160 9 = 0 := y; show 0 ≤ u2.1; omega⟩
                · skip
                  unfold qj_X13_invoked_232
                  unfold qj_X13_invoked_237
                  have y4 := (te_k31 T (by omega)).1
                  refine ok_sv (G.2.2.2.2.2.2 a1 v5 1 _ _ _ u25 Y_u25 N_u25 ((te_k31 T (by omega)).2.2.2) (by omega) (by omega) (by omega) (by omega) (by omega) (by omega) (by omega) (by omega)) ?_; intro u2 P_u2
                  obtain ⟨Y_u2, N_u2, K_u2, r1_u2, r2_u2, r3_u2, r4_u2⟩ := P_u2
                  obtain ⟨k1_u2, k2_u2, k3_u2, k4_u2, k5_u2, k6_u2, k7_u2⟩ := K_u2.1
                  have K150 := ke_tr K141 K_u2
                  exact ok_ret ⟨Y_u2, N_u2, K150, by omega, by omega, by omega, fun y => by have y : u2.2 160 9 = 0 := y; show 0 ≤ u2.1; omega⟩
      · skip
        exact ok_ret ⟨Y_h38, N_h38, K104, by omega, by omega, by omega, fun y => by have y : h38 160 9 = 0 := y; show 0 ≤ 0; omega⟩
    · skip
      refine ok_rd (by omega) (gA_168 Y0.1) ?_; intro v61 e_v61 a_v61 b_v61
      have t_v61 : v61 = t 168 (v40).toNat := by rw [e_v61]; exact Y0.2.1 168 _ (nw_ar rfl _)
      have d_v61 : v57 = v61 := by rw [t_v61, t_v57]
      subst d_v61
      refine ok_sv (vy_wrong hn Y0 (by omega) (by omega)) ?_; intro u63 P_u63
      obtain ⟨Y_u63, K_u63, x_u63⟩ := P_u63
      obtain ⟨k1_u63, k2_u63, k3_u63, k4_u63, k5_u63, k6_u63, k7_u63⟩ := K_u63.1
      have N_u63 : MI t u63 := mi_dead x_u63
      have K151 := ke_tr K0 K_u63
      unfold qj_X13_invoked_46
      refine ok_wA (by omega) ?_; intro h38 E_h38
      obtain ⟨Y_h38, K_h38⟩ := yi_174 Y_u63 (by omega) (by omega) E_h38
      obtain ⟨k1_h38, k2_h38, k3_h38, k4_h38, k5_h38, k6_h38, k7_h38⟩ := K_h38.1
      have s_h38 : h38 174 (v40).toNat = 3 := by rw [E_h38]; exact up_s
      have N_h38 := mi_174 N_u63 E_h38 (by omega)
      have K152 := ke_tr K151 K_h38
      unfold qj_X13_invoked_128
      refine ok_if (fun C153 => ?_) (fun C153 => ?_)
      · skip
        refine ok_if (fun C154 => ?_) (fun C154 => ?_)
        · skip
          unfold qj_X13_invoked_152
          refine ok_wA (by omega) ?_; intro h13 E_h13
          obtain ⟨Y_h13, K_h13⟩ := yi_176 Y_h38 (by omega) (by omega) (by omega) E_h13
          obtain ⟨k1_h13, k2_h13, k3_h13, k4_h13, k5_h13, k6_h13, k7_h13⟩ := K_h13.1
          have s_h13 : h13 176 (a1).toNat = (-1) := by rw [E_h13]; exact up_s
          have N_h13 := mi_up N_h38 E_h13 (by decide)
          have K155 := ke_tr K152 K_h13
          refine ok_rd (by omega) (gA_168 Y_h13.1) ?_; intro v16 e_v16 a_v16 b_v16
          have t_v16 : v16 = t 168 (a1).toNat := by rw [e_v16]; exact Y_h13.2.1 168 _ (nw_ar rfl _)
          refine ok_sv (vy_memberOf hn Y_h13 S (by omega) (by omega)) ?_; intro u18 P_u18
          refine ok_wA (by omega) ?_; intro h19 E_h19
          obtain ⟨Y_h19, K_h19⟩ := yi_175 Y_h13 (by omega) (by omega) E_h19
          obtain ⟨k1_h19, k2_h19, k3_h19, k4_h19, k5_h19, k6_h19, k7_h19⟩ := K_h19.1
          have s_h19 : h19 175 (a1).toNat = u18 := by rw [E_h19]; exact up_s
          have K156 := ke_tr K155 K_h19
          refine ok_rd (by omega) (gA_175 Y_h19.1) ?_; intro v21 e_v21 a_v21 b_v21
          refine ok_if (fun C157 => ?_) (fun C157 => ?_)
          · skip
            have N_h19 := mi_175 N_h13 E_h19 (by omega)
            unfold qj_X13_invoked_193
            refine ok_rd (by omega) (gA_175 Y_h19.1) ?_; intro v5 e_v5 a_v5 b_v5
            refine ok_if (fun C158 => ?_) (fun C158 => ?_)
            · skip
              unfold qj_X13_invoked_232
              unfold qj_X13_invoked_237
              have y4 := (te_k31 T (by omega)).1
              refine ok_sv (G.2.2.2.2.2.2 a1 v5 1 _ _ _ h19 Y_h19 N_h19 ((te_k31 T (by omega)).2.2.2) (by omega) (by omega) (by omega) (by omega) (by omega) (by omega) (by omega) (by omega)) ?_; intro u2 P_u2
              obtain ⟨Y_u2, N_u2, K_u2, r1_u2, r2_u2, r3_u2, r4_u2⟩ := P_u2
              obtain ⟨k1_u2, k2_u2, k3_u2, k4_u2, k5_u2, k6_u2, k7_u2⟩ := K_u2.1
              have K159 := ke_tr K156 K_u2
              exact ok_ret ⟨Y_u2, N_u2, K159, by omega, by omega, by omega, fun y => by have y : u2.2 160 9 = 0 := y; show 0 ≤ u2.1; omega⟩
            · skip
              refine ok_rd (by omega) (gA_175 Y_h19.1) ?_; intro v9 e_v9 a_v9 b_v9
              refine ok_rd (by omega) (gA_182 Y_h19.1) ?_; intro v10 e_v10 a_v10 b_v10
              have t_v10 : v10 = t 182 (v9).toNat := by rw [e_v10]; exact Y_h19.2.1 182 _ (nw_ar rfl _)
              refine ok_if (fun C160 => ?_) (fun C160 => ?_)
              · skip
                unfold qj_X13_invoked_228
                refine ok_if (fun C161 => ?_) (fun C161 => ?_)
                · skip
                  unfold qj_X13_invoked_237
                  have y4 := (te_k31 T (by omega)).1
                  refine ok_sv (G.2.2.2.2.2.2 a1 v5 0 _ _ _ h19 Y_h19 N_h19 ((te_k31 T (by omega)).2.2.2) (by omega) (by omega) (by omega) (by omega) (by omega) (by omega) (by omega) (by omega)) ?_; intro u2 P_u2
                  obtain ⟨Y_u2, N_u2, K_u2, r1_u2, r2_u2, r3_u2, r4_u2⟩ := P_u2
                  obtain ⟨k1_u2, k2_u2, k3_u2, k4_u2, k5_u2, k6_u2, k7_u2⟩ := K_u2.1
                  have K162 := ke_tr K156 K_u2
                  exact ok_ret ⟨Y_u2, N_u2, K162, by omega, by omega, by omega, fun y => by have y : u2.2 160 9 = 0 := y; show 0 ≤ u2.1; omega⟩
                · skip
                  unfold qj_X13_invoked_232
                  unfold qj_X13_invoked_237
                  have y4 := (te_k31 T (by omega)).1
                  refine ok_sv (G.2.2.2.2.2.2 a1 v5 1 _ _ _ h19 Y_h19 N_h19 ((te_k31 T (by omega)).2.2.2) (by omega) (by omega) (by omega) (by omega) (by omega) (by omega) (by omega) (by omega)) ?_; intro u2 P_u2
                  obtain ⟨Y_u2, N_u2, K_u2, r1_u2, r2_u2, r3_u2, r4_u2⟩ := P_u2
                  obtain ⟨k1_u2, k2_u2, k3_u2, k4_u2, k5_u2, k6_u2, k7_u2⟩ := K_u2.1
                  have K163 := ke_tr K156 K_u2
                  exact ok_ret ⟨Y_u2, N_u2, K163, by omega, by omega, by omega, fun y => by have y : u2.2 160 9 = 0 := y; show 0 ≤ u2.1; omega⟩
              · skip
                unfold qj_X13_invoked_228
                refine ok_if (fun C164 => ?_) (fun C164 => ?_)
                · skip
                  unfold qj_X13_invoked_237
                  have y4 := (te_k31 T (by omega)).1
                  refine ok_sv (G.2.2.2.2.2.2 a1 v5 0 _ _ _ h19 Y_h19 N_h19 ((te_k31 T (by omega)).2.2.2) (by omega) (by omega) (by omega) (by omega) (by omega) (by omega) (by omega) (by omega)) ?_; intro u2 P_u2
                  obtain ⟨Y_u2, N_u2, K_u2, r1_u2, r2_u2, r3_u2, r4_u2⟩ := P_u2
                  obtain ⟨k1_u2, k2_u2, k3_u2, k4_u2, k5_u2, k6_u2, k7_u2⟩ := K_u2.1
                  have K165 := ke_tr K156 K_u2
                  exact ok_ret ⟨Y_u2, N_u2, K165, by omega, by omega, by omega, fun y => by have y : u2.2 160 9 = 0 := y; show 0 ≤ u2.1; omega⟩
                · skip
                  unfold qj_X13_invoked_232
                  unfold qj_X13_invoked_237
                  have y4 := (te_k31 T (by omega)).1
                  refine ok_sv (G.2.2.2.2.2.2 a1 v5 1 _ _ _ h19 Y_h19 N_h19 ((te_k31 T (by omega)).2.2.2) (by omega) (by omega) (by omega) (by omega) (by omega) (by omega) (by omega) (by omega)) ?_; intro u2 P_u2
                  obtain ⟨Y_u2, N_u2, K_u2, r1_u2, r2_u2, r3_u2, r4_u2⟩ := P_u2
                  obtain ⟨k1_u2, k2_u2, k3_u2, k4_u2, k5_u2, k6_u2, k7_u2⟩ := K_u2.1
                  have K166 := ke_tr K156 K_u2
                  exact ok_ret ⟨Y_u2, N_u2, K166, by omega, by omega, by omega, fun y => by have y : u2.2 160 9 = 0 := y; show 0 ≤ u2.1; omega⟩
          · skip
            refine ok_rd (by omega) (gA_168 Y_h19.1) ?_; intro v23 e_v23 a_v23 b_v23
            have t_v23 : v23 = t 168 (a1).toNat := by rw [e_v23]; exact Y_h19.2.1 168 _ (nw_ar rfl _)
            have d_v23 : v16 = v23 := by rw [t_v23, t_v16]
            subst d_v23
            refine ok_sv (vy_wrong hn Y_h19 (by omega) (by omega)) ?_; intro u25 P_u25
            obtain ⟨Y_u25, K_u25, x_u25⟩ := P_u25
            obtain ⟨k1_u25, k2_u25, k3_u25, k4_u25, k5_u25, k6_u25, k7_u25⟩ := K_u25.1
            have N_u25 : MI t u25 := mi_dead x_u25
            have K167 := ke_tr K156 K_u25
            unfold qj_X13_invoked_193
            refine ok_rd (by omega) (gA_175 Y_u25.1) ?_; intro v5 e_v5 a_v5 b_v5
            refine ok_if (fun C168 => ?_) (fun C168 => ?_)
            · skip
              unfold qj_X13_invoked_232
              unfold qj_X13_invoked_237
              have y4 := (te_k31 T (by omega)).1
              refine ok_sv (G.2.2.2.2.2.2 a1 v5 1 _ _ _ u25 Y_u25 N_u25 ((te_k31 T (by omega)).2.2.2) (by omega) (by omega) (by omega) (by omega) (by omega) (by omega) (by omega) (by omega)) ?_; intro u2 P_u2
              obtain ⟨Y_u2, N_u2, K_u2, r1_u2, r2_u2, r3_u2, r4_u2⟩ := P_u2
              obtain ⟨k1_u2, k2_u2, k3_u2, k4_u2, k5_u2, k6_u2, k7_u2⟩ := K_u2.1
              have K169 := ke_tr K167 K_u2
              exact ok_ret ⟨Y_u2, N_u2, K169, by omega, by omega, by omega, fun y => by have y : u2.2 160 9 = 0 := y; show 0 ≤ u2.1; omega⟩
            · skip
              refine ok_rd (by omega) (gA_175 Y_u25.1) ?_; intro v9 e_v9 a_v9 b_v9
              refine ok_rd (by omega) (gA_182 Y_u25.1) ?_; intro v10 e_v10 a_v10 b_v10
              have t_v10 : v10 = t 182 (v9).toNat := by rw [e_v10]; exact Y_u25.2.1 182 _ (nw_ar rfl _)
              refine ok_if (fun C170 => ?_) (fun C170 => ?_)
              · skip
                unfold qj_X13_invoked_228
                refine ok_if (fun C171 => ?_) (fun C171 => ?_)
                · skip
                  unfold qj_X13_invoked_237
                  have y4 := (te_k31 T (by omega)).1
                  refine ok_sv (G.2.2.2.2.2.2 a1 v5 0 _ _ _ u25 Y_u25 N_u25 ((te_k31 T (by omega)).2.2.2) (by omega) (by omega) (by omega) (by omega) (by omega) (by omega) (by omega) (by omega)) ?_; intro u2 P_u2
                  obtain ⟨Y_u2, N_u2, K_u2, r1_u2, r2_u2, r3_u2, r4_u2⟩ := P_u2
                  obtain ⟨k1_u2, k2_u2, k3_u2, k4_u2, k5_u2, k6_u2, k7_u2⟩ := K_u2.1
                  have K172 := ke_tr K167 K_u2
                  exact ok_ret ⟨Y_u2, N_u2, K172, by omega, by omega, by omega, fun y => by have y : u2.2 160 9 = 0 := y; show 0 ≤ u2.1; omega⟩
                · skip
                  unfold qj_X13_invoked_232
                  unfold qj_X13_invoked_237
                  have y4 := (te_k31 T (by omega)).1
                  refine ok_sv (G.2.2.2.2.2.2 a1 v5 1 _ _ _ u25 Y_u25 N_u25 ((te_k31 T (by omega)).2.2.2) (by omega) (by omega) (by omega) (by omega) (by omega) (by omega) (by omega) (by omega)) ?_; intro u2 P_u2
                  obtain ⟨Y_u2, N_u2, K_u2, r1_u2, r2_u2, r3_u2, r4_u2⟩ := P_u2
                  obtain ⟨k1_u2, k2_u2, k3_u2, k4_u2, k5_u2, k6_u2, k7_u2⟩ := K_u2.1
                  have K173 := ke_tr K167 K_u2
                  exact ok_ret ⟨Y_u2, N_u2, K173, by omega, by omega, by omega, fun y => by have y : u2.2 160 9 = 0 := y; show 0 ≤ u2.1; omega⟩
              · skip
                unfold qj_X13_invoked_228
                refine ok_if (fun C174 => ?_) (fun C174 => ?_)
                · skip
                  unfold qj_X13_invoked_237
                  have y4 := (te_k31 T (by omega)).1
                  refine ok_sv (G.2.2.2.2.2.2 a1 v5 0 _ _ _ u25 Y_u25 N_u25 ((te_k31 T (by omega)).2.2.2) (by omega) (by omega) (by omega) (by omega) (by omega) (by omega) (by omega) (by omega)) ?_; intro u2 P_u2
                  obtain ⟨Y_u2, N_u2, K_u2, r1_u2, r2_u2, r3_u2, r4_u2⟩ := P_u2
                  obtain ⟨k1_u2, k2_u2, k3_u2, k4_u2, k5_u2, k6_u2, k7_u2⟩ := K_u2.1
                  have K175 := ke_tr K167 K_u2
                  exact ok_ret ⟨Y_u2, N_u2, K175, by omega, by omega, by omega, fun y => by have y : u2.2 160 9 = 0 := y; show 0 ≤ u2.1; omega⟩
                · skip
                  unfold qj_X13_invoked_232
                  unfold qj_X13_invoked_237
                  have y4 := (te_k31 T (by omega)).1
                  refine ok_sv (G.2.2.2.2.2.2 a1 v5 1 _ _ _ u25 Y_u25 N_u25 ((te_k31 T (by omega)).2.2.2) (by omega) (by omega) (by omega) (by omega) (by omega) (by omega) (by omega) (by omega)) ?_; intro u2 P_u2
                  obtain ⟨Y_u2, N_u2, K_u2, r1_u2, r2_u2, r3_u2, r4_u2⟩ := P_u2
                  obtain ⟨k1_u2, k2_u2, k3_u2, k4_u2, k5_u2, k6_u2, k7_u2⟩ := K_u2.1
                  have K176 := ke_tr K167 K_u2
                  exact ok_ret ⟨Y_u2, N_u2, K176, by omega, by omega, by omega, fun y => by have y : u2.2 160 9 = 0 := y; show 0 ≤ u2.1; omega⟩
        · skip
          unfold qj_X13_invoked_152
          refine ok_wA (by omega) ?_; intro h13 E_h13
          obtain ⟨Y_h13, K_h13⟩ := yi_176 Y_h38 (by omega) (by omega) (by omega) E_h13
          obtain ⟨k1_h13, k2_h13, k3_h13, k4_h13, k5_h13, k6_h13, k7_h13⟩ := K_h13.1
          have s_h13 : h13 176 (a1).toNat = u59 := by rw [E_h13]; exact up_s
          have N_h13 := mi_up N_h38 E_h13 (by decide)
          have K177 := ke_tr K152 K_h13
          refine ok_rd (by omega) (gA_168 Y_h13.1) ?_; intro v16 e_v16 a_v16 b_v16
          have t_v16 : v16 = t 168 (a1).toNat := by rw [e_v16]; exact Y_h13.2.1 168 _ (nw_ar rfl _)
          refine ok_sv (vy_memberOf hn Y_h13 S (by omega) (by omega)) ?_; intro u18 P_u18
          refine ok_wA (by omega) ?_; intro h19 E_h19
          obtain ⟨Y_h19, K_h19⟩ := yi_175 Y_h13 (by omega) (by omega) E_h19
          obtain ⟨k1_h19, k2_h19, k3_h19, k4_h19, k5_h19, k6_h19, k7_h19⟩ := K_h19.1
          have s_h19 : h19 175 (a1).toNat = u18 := by rw [E_h19]; exact up_s
          have K178 := ke_tr K177 K_h19
          refine ok_rd (by omega) (gA_175 Y_h19.1) ?_; intro v21 e_v21 a_v21 b_v21
          refine ok_if (fun C179 => ?_) (fun C179 => ?_)
          · skip
            have N_h19 := mi_175 N_h13 E_h19 (by omega)
            unfold qj_X13_invoked_193
            refine ok_rd (by omega) (gA_175 Y_h19.1) ?_; intro v5 e_v5 a_v5 b_v5
            refine ok_if (fun C180 => ?_) (fun C180 => ?_)
            · skip
              unfold qj_X13_invoked_232
              unfold qj_X13_invoked_237
              have y4 := (te_k31 T (by omega)).1
              refine ok_sv (G.2.2.2.2.2.2 a1 v5 1 _ _ _ h19 Y_h19 N_h19 ((te_k31 T (by omega)).2.2.2) (by omega) (by omega) (by omega) (by omega) (by omega) (by omega) (by omega) (by omega)) ?_; intro u2 P_u2
              obtain ⟨Y_u2, N_u2, K_u2, r1_u2, r2_u2, r3_u2, r4_u2⟩ := P_u2
              obtain ⟨k1_u2, k2_u2, k3_u2, k4_u2, k5_u2, k6_u2, k7_u2⟩ := K_u2.1
              have K181 := ke_tr K178 K_u2
              exact ok_ret ⟨Y_u2, N_u2, K181, by omega, by omega, by omega, fun y => by have y : u2.2 160 9 = 0 := y; show 0 ≤ u2.1; omega⟩
            · skip
              refine ok_rd (by omega) (gA_175 Y_h19.1) ?_; intro v9 e_v9 a_v9 b_v9
              refine ok_rd (by omega) (gA_182 Y_h19.1) ?_; intro v10 e_v10 a_v10 b_v10
              have t_v10 : v10 = t 182 (v9).toNat := by rw [e_v10]; exact Y_h19.2.1 182 _ (nw_ar rfl _)
              refine ok_if (fun C182 => ?_) (fun C182 => ?_)
              · skip
                unfold qj_X13_invoked_228
                refine ok_if (fun C183 => ?_) (fun C183 => ?_)
                · skip
                  unfold qj_X13_invoked_237
                  have y4 := (te_k31 T (by omega)).1
                  refine ok_sv (G.2.2.2.2.2.2 a1 v5 0 _ _ _ h19 Y_h19 N_h19 ((te_k31 T (by omega)).2.2.2) (by omega) (by omega) (by omega) (by omega) (by omega) (by omega) (by omega) (by omega)) ?_; intro u2 P_u2
                  obtain ⟨Y_u2, N_u2, K_u2, r1_u2, r2_u2, r3_u2, r4_u2⟩ := P_u2
                  obtain ⟨k1_u2, k2_u2, k3_u2, k4_u2, k5_u2, k6_u2, k7_u2⟩ := K_u2.1
                  have K184 := ke_tr K178 K_u2
                  exact ok_ret ⟨Y_u2, N_u2, K184, by omega, by omega, by omega, fun y => by have y : u2.2 160 9 = 0 := y; show 0 ≤ u2.1; omega⟩
                · skip
                  unfold qj_X13_invoked_232
                  unfold qj_X13_invoked_237
                  have y4 := (te_k31 T (by omega)).1
                  refine ok_sv (G.2.2.2.2.2.2 a1 v5 1 _ _ _ h19 Y_h19 N_h19 ((te_k31 T (by omega)).2.2.2) (by omega) (by omega) (by omega) (by omega) (by omega) (by omega) (by omega) (by omega)) ?_; intro u2 P_u2
                  obtain ⟨Y_u2, N_u2, K_u2, r1_u2, r2_u2, r3_u2, r4_u2⟩ := P_u2
                  obtain ⟨k1_u2, k2_u2, k3_u2, k4_u2, k5_u2, k6_u2, k7_u2⟩ := K_u2.1
                  have K185 := ke_tr K178 K_u2
                  exact ok_ret ⟨Y_u2, N_u2, K185, by omega, by omega, by omega, fun y => by have y : u2.2 160 9 = 0 := y; show 0 ≤ u2.1; omega⟩
              · skip
                unfold qj_X13_invoked_228
                refine ok_if (fun C186 => ?_) (fun C186 => ?_)
                · skip
                  unfold qj_X13_invoked_237
                  have y4 := (te_k31 T (by omega)).1
                  refine ok_sv (G.2.2.2.2.2.2 a1 v5 0 _ _ _ h19 Y_h19 N_h19 ((te_k31 T (by omega)).2.2.2) (by omega) (by omega) (by omega) (by omega) (by omega) (by omega) (by omega) (by omega)) ?_; intro u2 P_u2
                  obtain ⟨Y_u2, N_u2, K_u2, r1_u2, r2_u2, r3_u2, r4_u2⟩ := P_u2
                  obtain ⟨k1_u2, k2_u2, k3_u2, k4_u2, k5_u2, k6_u2, k7_u2⟩ := K_u2.1
                  have K187 := ke_tr K178 K_u2
                  exact ok_ret ⟨Y_u2, N_u2, K187, by omega, by omega, by omega, fun y => by have y : u2.2 160 9 = 0 := y; show 0 ≤ u2.1; omega⟩
                · skip
                  unfold qj_X13_invoked_232
                  unfold qj_X13_invoked_237
                  have y4 := (te_k31 T (by omega)).1
                  refine ok_sv (G.2.2.2.2.2.2 a1 v5 1 _ _ _ h19 Y_h19 N_h19 ((te_k31 T (by omega)).2.2.2) (by omega) (by omega) (by omega) (by omega) (by omega) (by omega) (by omega) (by omega)) ?_; intro u2 P_u2
                  obtain ⟨Y_u2, N_u2, K_u2, r1_u2, r2_u2, r3_u2, r4_u2⟩ := P_u2
                  obtain ⟨k1_u2, k2_u2, k3_u2, k4_u2, k5_u2, k6_u2, k7_u2⟩ := K_u2.1
                  have K188 := ke_tr K178 K_u2
                  exact ok_ret ⟨Y_u2, N_u2, K188, by omega, by omega, by omega, fun y => by have y : u2.2 160 9 = 0 := y; show 0 ≤ u2.1; omega⟩
          · skip
            refine ok_rd (by omega) (gA_168 Y_h19.1) ?_; intro v23 e_v23 a_v23 b_v23
            have t_v23 : v23 = t 168 (a1).toNat := by rw [e_v23]; exact Y_h19.2.1 168 _ (nw_ar rfl _)
            have d_v23 : v16 = v23 := by rw [t_v23, t_v16]
            subst d_v23
            refine ok_sv (vy_wrong hn Y_h19 (by omega) (by omega)) ?_; intro u25 P_u25
            obtain ⟨Y_u25, K_u25, x_u25⟩ := P_u25
            obtain ⟨k1_u25, k2_u25, k3_u25, k4_u25, k5_u25, k6_u25, k7_u25⟩ := K_u25.1
            have N_u25 : MI t u25 := mi_dead x_u25
            have K189 := ke_tr K178 K_u25
            unfold qj_X13_invoked_193
            refine ok_rd (by omega) (gA_175 Y_u25.1) ?_; intro v5 e_v5 a_v5 b_v5
            refine ok_if (fun C190 => ?_) (fun C190 => ?_)
            · skip
              unfold qj_X13_invoked_232
              unfold qj_X13_invoked_237
              have y4 := (te_k31 T (by omega)).1
              refine ok_sv (G.2.2.2.2.2.2 a1 v5 1 _ _ _ u25 Y_u25 N_u25 ((te_k31 T (by omega)).2.2.2) (by omega) (by omega) (by omega) (by omega) (by omega) (by omega) (by omega) (by omega)) ?_; intro u2 P_u2
              obtain ⟨Y_u2, N_u2, K_u2, r1_u2, r2_u2, r3_u2, r4_u2⟩ := P_u2
              obtain ⟨k1_u2, k2_u2, k3_u2, k4_u2, k5_u2, k6_u2, k7_u2⟩ := K_u2.1
              have K191 := ke_tr K189 K_u2
              exact ok_ret ⟨Y_u2, N_u2, K191, by omega, by omega, by omega, fun y => by have y : u2.2 160 9 = 0 := y; show 0 ≤ u2.1; omega⟩
            · skip
              refine ok_rd (by omega) (gA_175 Y_u25.1) ?_; intro v9 e_v9 a_v9 b_v9
              refine ok_rd (by omega) (gA_182 Y_u25.1) ?_; intro v10 e_v10 a_v10 b_v10
              have t_v10 : v10 = t 182 (v9).toNat := by rw [e_v10]; exact Y_u25.2.1 182 _ (nw_ar rfl _)
              refine ok_if (fun C192 => ?_) (fun C192 => ?_)
              · skip
                unfold qj_X13_invoked_228
                refine ok_if (fun C193 => ?_) (fun C193 => ?_)
                · skip
                  unfold qj_X13_invoked_237
                  have y4 := (te_k31 T (by omega)).1
                  refine ok_sv (G.2.2.2.2.2.2 a1 v5 0 _ _ _ u25 Y_u25 N_u25 ((te_k31 T (by omega)).2.2.2) (by omega) (by omega) (by omega) (by omega) (by omega) (by omega) (by omega) (by omega)) ?_; intro u2 P_u2
                  obtain ⟨Y_u2, N_u2, K_u2, r1_u2, r2_u2, r3_u2, r4_u2⟩ := P_u2
                  obtain ⟨k1_u2, k2_u2, k3_u2, k4_u2, k5_u2, k6_u2, k7_u2⟩ := K_u2.1
                  have K194 := ke_tr K189 K_u2
                  exact ok_ret ⟨Y_u2, N_u2, K194, by omega, by omega, by omega, fun y => by have y : u2.2 160 9 = 0 := y; show 0 ≤ u2.1; omega⟩
                · skip
                  unfold qj_X13_invoked_232
                  unfold qj_X13_invoked_237
                  have y4 := (te_k31 T (by omega)).1
                  refine ok_sv (G.2.2.2.2.2.2 a1 v5 1 _ _ _ u25 Y_u25 N_u25 ((te_k31 T (by omega)).2.2.2) (by omega) (by omega) (by omega) (by omega) (by omega) (by omega) (by omega) (by omega)) ?_; intro u2 P_u2
                  obtain ⟨Y_u2, N_u2, K_u2, r1_u2, r2_u2, r3_u2, r4_u2⟩ := P_u2
                  obtain ⟨k1_u2, k2_u2, k3_u2, k4_u2, k5_u2, k6_u2, k7_u2⟩ := K_u2.1
                  have K195 := ke_tr K189 K_u2
                  exact ok_ret ⟨Y_u2, N_u2, K195, by omega, by omega, by omega, fun y => by have y : u2.2 160 9 = 0 := y; show 0 ≤ u2.1; omega⟩
              · skip
                unfold qj_X13_invoked_228
                refine ok_if (fun C196 => ?_) (fun C196 => ?_)
                · skip
                  unfold qj_X13_invoked_237
                  have y4 := (te_k31 T (by omega)).1
                  refine ok_sv (G.2.2.2.2.2.2 a1 v5 0 _ _ _ u25 Y_u25 N_u25 ((te_k31 T (by omega)).2.2.2) (by omega) (by omega) (by omega) (by omega) (by omega) (by omega) (by omega) (by omega)) ?_; intro u2 P_u2
                  obtain ⟨Y_u2, N_u2, K_u2, r1_u2, r2_u2, r3_u2, r4_u2⟩ := P_u2
                  obtain ⟨k1_u2, k2_u2, k3_u2, k4_u2, k5_u2, k6_u2, k7_u2⟩ := K_u2.1
                  have K197 := ke_tr K189 K_u2
                  exact ok_ret ⟨Y_u2, N_u2, K197, by omega, by omega, by omega, fun y => by have y : u2.2 160 9 = 0 := y; show 0 ≤ u2.1; omega⟩
                · skip
                  unfold qj_X13_invoked_232
                  unfold qj_X13_invoked_237
                  have y4 := (te_k31 T (by omega)).1
                  refine ok_sv (G.2.2.2.2.2.2 a1 v5 1 _ _ _ u25 Y_u25 N_u25 ((te_k31 T (by omega)).2.2.2) (by omega) (by omega) (by omega) (by omega) (by omega) (by omega) (by omega) (by omega)) ?_; intro u2 P_u2
                  obtain ⟨Y_u2, N_u2, K_u2, r1_u2, r2_u2, r3_u2, r4_u2⟩ := P_u2
                  obtain ⟨k1_u2, k2_u2, k3_u2, k4_u2, k5_u2, k6_u2, k7_u2⟩ := K_u2.1
                  have K198 := ke_tr K189 K_u2
                  exact ok_ret ⟨Y_u2, N_u2, K198, by omega, by omega, by omega, fun y => by have y : u2.2 160 9 = 0 := y; show 0 ≤ u2.1; omega⟩
      · skip
        exact ok_ret ⟨Y_h38, N_h38, K152, by omega, by omega, by omega, fun y => by have y : h38 160 9 = 0 := y; show 0 ≤ 0; omega⟩
