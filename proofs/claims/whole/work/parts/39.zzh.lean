section
variable {nn : Nat} {t h : ms_M}
theorem ge_condition (hn : 1000000 ≤ nn) (S : SF t) {e d a b : Int} (Y : YI t h) (N : MI t h) (T : TE 1 t 0 d a b e) (hb : b ≤ t 160 22) (hd : d ≤ 1590) (h57 : h 160 57 + b ≤ 9000) : Ok_ (qf_X13_condition nn e h) (QZ t h) := by
  unfold qf_X13_condition
  exact (gr_all hn S 1600).1 e d a b h Y N T hb (by omega) h57
theorem ge_given (hn : 1000000 ≤ nn) (S : SF t) {e d a b : Int} (Y : YI t h) (N : MI t h) (T : TE 1 t 0 d a b e) (hb : b ≤ t 160 22) (hd : d ≤ 1590) (h57 : h 160 57 + b ≤ 9000) : Ok_ (qf_X13_given nn e h) (QY t h) := by
  unfold qf_X13_given
  exact (gr_all hn S 1600).2.1 e d a b h Y N T hb (by omega) h57
theorem ge_worked (hn : 1000000 ≤ nn) (S : SF t) {e d a b : Int} (Y : YI t h) (N : MI t h) (T : TE 1 t 0 d a b e) (hb : b ≤ t 160 22) (hd : d ≤ 1590) (h57 : h 160 57 + b ≤ 9000) : Ok_ (qf_X13_worked nn e h) (QY t h) := by
  unfold qf_X13_worked
  exact (gr_all hn S 1600).2.2.1 e d a b h Y N T hb (by omega) h57
theorem vy_come (_ : 1000000 ≤ nn) (_ : SF t) (Y : YI t h) {a v : Int} (ha : 0 ≤ a ∧ a ≤ 3000) (hv : 0 ≤ v ∧ v ≤ 900 ∧ v < 24 + 2 * t 160 24) (hs : h 160 50 ≤ 2999) : Ok_ (qf_X13_come nn a v h) (fun r => YI t r ∧ (r 160 50 = h 160 50 + 1 ∧ r 160 51 = h 160 51 ∧ r 160 52 = h 160 52 ∧ r 160 53 = h 160 53 ∧ r 160 54 = h 160 54 ∧ r 160 57 = h 160 57 ∧ r 160 9 = h 160 9) ∧ (∀ j, r 199 j = h 199 j) ∧ (MI t h → MI t r)) := by
  obtain ⟨V, B, y1, y2, y3, y4, y5⟩ := Y
  have g50 := gF_160_50 V
  unfold qf_X13_come
  refine ok_wA (by omega) ?_; intro h3 E3
  have q3 : h3 160 50 = h 160 50 := by rw [E3]; exact up_n (by omega)
  refine ok_wA (by omega) ?_; intro h6 E6
  have q6 : h6 160 50 = h 160 50 := by rw [E6, up_n (by omega)]; exact q3
  refine ok_add (by omega) ?_; intro v8 e8
  refine ok_xl ?_; intro h9 E9
  rw [q3] at E6
  have V3 : VS_ h3 := by rw [E3]; exact wA_196 V (by omega)
  have V6 : VS_ h6 := by rw [E6]; exact wA_197 V3 (by omega)
  have V9 : VS_ h9 := by rw [E9]; exact wF_160_50 V6 (by omega)
  have B3 : BF t h3 := by rw [E3]; exact bf_a B rfl
  have B6 : BF t h6 := by rw [E6]; exact bf_a B3 rfl
  have B9 : BF t h9 := by rw [E9]; exact bf_f B6 rfl
  have F : ∀ c k : Nat, c ≠ 196 → c ≠ 197 → ¬ (c = 160 ∧ k = 50) → h9 c k = h c k := fun c k n1 n2 n3 => by rw [E9, up_n n3, E6, up_n (by omega), E3, up_n (by omega)]
  have s9 : h9 160 50 = v8 := by rw [E9]; exact up_s
  refine ok_ret ⟨⟨V9, B9, fun x hx => ?_, fun s hs2 => ?_, ⟨fun x w1 => ?_, fun x hx => ?_⟩, ?_, ?_⟩, ⟨by omega, F 160 51 (by decide) (by decide) (by decide), F 160 52 (by decide) (by decide) (by decide), F 160 53 (by decide) (by decide) (by decide), F 160 54 (by decide) (by decide) (by decide), F 160 57 (by decide) (by decide) (by decide), F 160 9 (by decide) (by decide) (by decide)⟩, fun j => F 199 j (by decide) (by decide) (by omega), fun N y x hx => ?_⟩
  · rw [F 174 x (by decide) (by decide) (by omega)]; exact y1 x hx
  · by_cases q : (s : Int) = h 160 50
    · have e : h9 197 s = v := by rw [E9, up_n (by omega), E6, show s = (h 160 50).toNat by omega, up_s]
      rw [e]; omega
    · have e : h9 197 s = h 197 s := by rw [E9, up_n (by omega), E6, up_n (by omega), E3, up_n (by omega)]
      rw [e]; exact y2 s (by omega)
  · rw [F 176 x (by decide) (by decide) (by omega)]; exact y3.1 x w1
  · rw [F 176 x (by decide) (by decide) (by omega), F 175 x (by decide) (by decide) (by omega)]; exact y3.2 x hx
  · rw [F 160 52 (by decide) (by decide) (by decide)]; exact y4
  · rw [F 160 51 (by decide) (by decide) (by decide)]; exact y5
  · rw [F 160 9 (by decide) (by decide) (by decide)] at y
    rw [F 174 x (by decide) (by decide) (by omega), F 175 x (by decide) (by decide) (by omega)]
    exact N y x hx
/-- what a statement's rules leave -/
def QU (t : ms_M) (s : Int) (h : ms_M) (u : Int × ms_M) : Prop := YI t u.2 ∧ MI t u.2 ∧ ((u.2 160 51 = h 160 51 ∧ u.2 160 52 = h 160 52 ∧ u.2 160 53 = h 160 53 ∧ u.2 160 54 = h 160 54 ∧ u.2 160 57 = h 160 57) ∧ (h 160 50 ≤ u.2 160 50 ∧ u.2 160 50 ≤ h 160 50 + 1 ∧ (t 167 s.toNat = 2 ∨ u.2 160 50 = h 160 50)) ∧ (u.2 160 9 = 0 → h 160 9 = 0)) ∧ (u.1 = 0 ∨ u.1 = 1)
theorem qu_mk {r : ms_M} {s e : Int} (Y : YI t r) (N : MI t r) (h1 : r 160 51 = h 160 51 ∧ r 160 52 = h 160 52 ∧ r 160 53 = h 160 53 ∧ r 160 54 = h 160 54 ∧ r 160 57 = h 160 57) (h2 : h 160 50 ≤ r 160 50 ∧ r 160 50 ≤ h 160 50 + 1 ∧ (t 167 s.toNat = 2 ∨ r 160 50 = h 160 50)) (h3 : r 160 9 = 0 → h 160 9 = 0) (h4 : e = 0 ∨ e = 1) : QU t s h (e, r) := ⟨Y, N, ⟨h1, h2, h3⟩, h4⟩
def GU (t : ms_M) (g : Int) (rc : tq_X13_ruled) : Prop := ∀ s d b h, YI t h → MI t h → TE 1 t 2 d s b s → b ≤ t 160 22 → d + 1 ≤ g → h 160 57 = 0 → 2 * h 160 50 ≤ 12 + t 169 s.toNat → h 160 54 + d ≤ 90 → Ok_ (rc s h) (QU t s h)
/-- a row of statements -/
theorem vr_140 {rc : tq_X13_ruled} {l2 l3 s : Int} {h0 : ms_M} (Y : YI t h) (N : MI t h) (r2 : 0 ≤ l2 ∧ l2 ≤ h 160 50) (r3 : l3 = 0 ∨ l3 = 1) (h2 : l2 = h0 160 50) (h1 : h 160 51 = h0 160 51 ∧ h 160 52 = h0 160 52 ∧ h 160 53 = h0 160 53 ∧ h 160 54 = h0 160 54 ∧ h 160 57 = h0 160 57) (h3 : h 160 9 = 0 → h0 160 9 = 0) : Ok_ (qj_X13_ruled_140 nn rc l2 l3 h) (QU t s h0) := by
  unfold qj_X13_ruled_140
  refine ok_xl ?_; intro z E
  obtain ⟨Yz, ⟨k1, k2, k3, k4, k5, k6, k7⟩, _⟩ := yi_50 Y r2 E
  refine ok_ck r3 ?_
  exact ok_ret (qu_mk Yz (mi_fd N E (by decide)) (by omega) (by omega) (by omega) r3)
theorem vr_88 (hn : 1000000 ≤ nn) (S : SF t) {g : Int} {rc : tq_X13_ruled} (G : GU t g rc) {d b s l2 : Int} {h0 : ms_M} (hd : d + 1 ≤ g) (hb : b ≤ t 160 22) (r2 : l2 = h0 160 50) (h50 : 0 ≤ h0 160 50) (h57 : h0 160 57 = 0) (h54 : h0 160 54 + d ≤ 90) : ∀ (k : Nat) (a l3 l6 : Int) (h : ms_M), YI t h → MI t h → TE 1 t 3 d a b l6 → (l3 = 0 ∨ l3 = 1) → l2 ≤ h 160 50 → (l6 = -1 ∨ ¬ h 160 9 = 0 ∨ 2 * h 160 50 ≤ 12 + t 169 l6.toNat) → (h 160 51 = h0 160 51 ∧ h 160 52 = h0 160 52 ∧ h 160 53 = h0 160 53 ∧ h 160 54 = h0 160 54 ∧ h 160 57 = h0 160 57) → (h 160 9 = 0 → h0 160 9 = 0) → (0 ≤ a ∧ a ≤ 9000) → 9001 - a < (k : Int) → Ok_ (qw_X13_ruled_88 nn rc k l2 l3 l6 h) (QU t s h0) := by
  intro k
  induction k with
  | zero => intro a l3 l6 h Y N T r3 rs rb h1 h3 ra hm; exfalso; omega
  | succ k ih =>
    intro a l3 l6 h Y N T r3 rs rb h1 h3 ra hm
    have g22 := gF_160_22 Y.1
    have q22 : h 160 22 = t 160 22 := Y.2.1 160 22 rfl
    have g50 := gF_160_50 Y.1
    have E : Ok_ (qj_X13_ruled_140 nn rc l2 l3 h) (QU t s h0) := vr_140 Y N ⟨by rw [r2]; exact h50, rs⟩ r3 r2 h1 h3
    unfold qw_X13_ruled_88
    refine ok_if (fun C => E) (fun C => ?_)
    refine ok_if (fun C2 => E) (fun C2 => ?_)
    rcases te_o3 T with z | ⟨q, x⟩
    · exact absurd z C
    have J : ∀ (l3 : Int) (r : ms_M), YI t r → MI t r → (l3 = 0 ∨ l3 = 1) → l2 ≤ r 160 50 → (¬ r 160 9 = 0 ∨ (2 * r 160 50 ≤ 12 + t 169 l6.toNat + 2 ∧ (t 167 l6.toNat = 2 ∨ 2 * r 160 50 ≤ 12 + t 169 l6.toNat))) → (r 160 51 = h0 160 51 ∧ r 160 52 = h0 160 52 ∧ r 160 53 = h0 160 53 ∧ r 160 54 = h0 160 54 ∧ r 160 57 = h0 160 57) → (r 160 9 = 0 → h0 160 9 = 0) → Ok_ (qj_X13_ruled_128 nn rc (qw_X13_ruled_88 nn rc k) l2 l3 l6 r) (QU t s h0) := by
      intro l3 r Yr Nr r3 rs rb h1 h3
      unfold qj_X13_ruled_128
      refine ok_rd (by omega) (gA_173 Yr.1) ?_; intro v e a1 b1
      have tv : v = t 173 l6.toNat := by rw [e]; exact Yr.2.1 173 _ (nw_ar rfl _)
      rcases x with ⟨z, _⟩ | ⟨w1, _, w2, w3, w4⟩
      · exact ih (l6 + 1) l3 v r Yr Nr (te_i3 (.inl (by omega))) r3 rs (.inl (by omega)) h1 h3 (by omega) (by omega)
      · rw [← tv] at w1 w2 w3 w4
        refine ih v l3 v r Yr Nr w2 r3 rs ?_ h1 h3 (by omega) (by omega)
        rcases rb with p | ⟨p1, p2⟩
        · exact .inr (.inl p)
        · rcases p2 with p2 | p2
          · have := w4 p2; exact .inr (.inr (by omega))
          · exact .inr (.inr (by omega))
    refine ok_if (fun C3 => ?_) (fun C3 => ?_)
    · have T2 : TE 1 t 2 d l6 b l6 := by
        rcases x with ⟨_, w⟩ | ⟨w1, w2, _⟩
        · exact w
        · exact te_wd w2 (by omega) (by omega) (by omega) (by omega)
      refine ok_sv (G l6 d b h Y N T2 hb hd (by omega) (by omega) (by omega)) ?_; intro u P
      obtain ⟨Yu, Nu, ⟨p1, p2, p3⟩, p4⟩ := P
      exact J u.1 u.2 Yu Nu p4 (by omega) (by omega) (by omega) (by omega)
    · refine ok_rd (by omega) (gA_169 Y.1) ?_; intro v e a1 b1
      refine ok_sv (vy_wrong hn Y (by omega) (by omega)) ?_; intro u P
      obtain ⟨Yu, Ku, xu⟩ := P
      obtain ⟨k1, k2, k3, k4, k5, k6, k7⟩ := Ku.1
      exact J l3 u Yu (mi_dead xu) r3 (by omega) (.inl xu) (by omega) (by omega)
end
set_option maxHeartbeats 4000000 in
theorem vr_ruled {nn : Nat} (hn : 1000000 ≤ nn) {t h : ms_M} (S : SF t) (Y0 : YI t h) (N0 : MI t h) {g : Int} {rc : tq_X13_ruled} (G : GU t g rc) {a1 d b : Int} (T : TE 1 t 2 d a1 b a1) (hb : b ≤ t 160 22) (hg : d + 1 ≤ g + 1) (h57 : h 160 57 = 0) (hs : 2 * h 160 50 ≤ 12 + t 169 a1.toNat) (h54 : h 160 54 + d ≤ 90) : Ok_ (qo_X13_ruled nn rc a1 h) (QU t a1 h) := by
  unfold qo_X13_ruled
  have gg := gF_160_22 Y0.1
  have q22 : h 160 22 = t 160 22 := Y0.2.1 160 22 rfl
  have g24 := gF_160_24 Y0.1
  have q24 : h 160 24 = t 160 24 := Y0.2.1 160 24 rfl
  have g28 := gF_160_28 Y0.1
  have q28 : h 160 28 = t 160 28 := Y0.2.1 160 28 rfl
  have g52 := Y0.2.2.2.2.2.1
  have g57 := gF_160_57 Y0.1
  have g50 := gF_160_50 Y0.1
  have g53 := gF_160_53 Y0.1
  have m51 := Y0.2.2.2.2.2.2
  have c8 := S.2.2.2.1
  have g51 := gF_160_51 Y0.1
  have K0 : Ke h h := ke_rf
  have kd := te_sk T
  have re11 : RE 1 1 = 1522 := rfl
  have g54 := gF_160_54 Y0.1
  have g9 := gA_169 Y0.1 a1.toNat (by omega)
  rw [Y0.2.1 169 _ (nw_ar rfl _)] at g9
  refine ok_if (fun C1 => ?_) (fun C1 => ?_)
  · skip
    refine ok_rd (by omega) (gA_167 Y0.1) ?_; intro v158 e_v158 a_v158 b_v158
    have t_v158 : v158 = t 167 (a1).toNat := by rw [e_v158]; exact Y0.2.1 167 _ (nw_ar rfl _)
    refine ok_if (fun C2 => ?_) (fun C2 => ?_)
    · skip
      refine ok_rd (by omega) (gA_170 Y0.1) ?_; intro v176 e_v176 a_v176 b_v176
      have t_v176 : v176 = t 170 (a1).toNat := by rw [e_v176]; exact Y0.2.1 170 _ (nw_ar rfl _)
      have q1 := te_s1 T (by omega); rw [← t_v176] at q1
      exact vr_88 hn S G (by omega) hb rfl (by omega) (by omega) (by omega) nn (a1 + 1) 1 v176 h Y0 N0 q1.2 (.inr rfl) (by omega) (by have := q1.1; omega) (by omega) (by omega) (by omega) (by omega)
    · skip
      refine ok_if (fun C3 => ?_) (fun C3 => ?_)
      · skip
        refine ok_rd (by omega) (gA_175 Y0.1) ?_; intro v178 e_v178 a_v178 b_v178
        refine ok_rd (by omega) (gA_172 Y0.1) ?_; intro v180 e_v180 a_v180 b_v180
        have t_v180 : v180 = t 172 (a1).toNat := by rw [e_v180]; exact Y0.2.1 172 _ (nw_ar rfl _)
        have q_v180 := (te_s2 T (by omega)).2.1
        refine ok_div4 (by omega) ?_; intro v181 e_v181
        refine ok_rd (by omega) (gA_172 Y0.1) ?_; intro v183 e_v183 a_v183 b_v183
        have t_v183 : v183 = t 172 (a1).toNat := by rw [e_v183]; exact Y0.2.1 172 _ (nw_ar rfl _)
        have d_v183 : v180 = v183 := by rw [t_v183, t_v180]
        subst d_v183
        refine ok_remT (n := 4) (by decide) ?_; intro v184 e_v184 f_v184
        refine ok_if (fun C4 => ?_) (fun C4 => ?_)
        · skip
          unfold qj_X13_ruled_179
          refine ok_sv (vy_typeOf hn S Y0 N0 (by omega) (by omega)) ?_; intro u131 P_u131
          have p5_u131 := P_u131.2; replace P_u131 := P_u131.1
          obtain ⟨Y_u131, N_u131, K_u131, r1_u131, r2_u131, r3_u131, r4_u131⟩ := P_u131
          obtain ⟨k1_u131, k2_u131, k3_u131, k4_u131, k5_u131, k6_u131, k7_u131⟩ := K_u131.1
          refine ok_rd (by omega) (gA_168 Y_u131.1) ?_; intro v133 e_v133 a_v133 b_v133
          have t_v133 : v133 = t 168 (a1).toNat := by rw [e_v133]; exact Y_u131.2.1 168 _ (nw_ar rfl _)
          refine ok_sv (vy_sightOf hn Y_u131 S (by omega)) ?_; intro u135 P_u135
          refine ok_if (fun C5 => ?_) (fun C5 => ?_)
          · skip
            unfold qj_X13_ruled_209
            refine ok_rd (by omega) (gA_170 Y_u131.1) ?_; intro v120 e_v120 a_v120 b_v120
            have t_v120 : v120 = t 170 (a1).toNat := by rw [e_v120]; exact Y_u131.2.1 170 _ (nw_ar rfl _)
            have c6 : TE 1 t 0 (RE 1 1) (a1 + 1) b v120 := by rw [t_v120]; exact (te_s2 T (by omega)).2.2
            have rc6 := te_rg c6
            refine ok_sv (ge_given hn S Y_u131 N_u131 c6 (by omega) (by omega) (by omega)) ?_; intro u122 P_u122
            obtain ⟨Y_u122, N_u122, K_u122, r1_u122, r2_u122, r3_u122, r4_u122⟩ := P_u122
            obtain ⟨k1_u122, k2_u122, k3_u122, k4_u122, k5_u122, k6_u122, k7_u122⟩ := K_u122.1
            refine ok_sv (vy_fits hn Y_u122 S (by omega) (by omega)) ?_; intro u124 P_u124
            refine ok_if (fun C7 => ?_) (fun C7 => ?_)
            · skip
              unfold qj_X13_ruled_244
              refine ok_wA (by omega) ?_; intro h114 E_h114
              obtain ⟨Y_h114, K_h114⟩ := yi_174 Y_u122 (by omega) (by omega) E_h114
              obtain ⟨k1_h114, k2_h114, k3_h114, k4_h114, k5_h114, k6_h114, k7_h114⟩ := K_h114.1
              have s_h114 : h114 174 (a1).toNat = u131.1 := by rw [E_h114]; exact up_s
              have N_h114 := mi_174 N_u122 E_h114 (by omega)
              refine ok_rd (by omega) (gA_168 Y_h114.1) ?_; intro v116 e_v116 a_v116 b_v116
              have t_v116 : v116 = t 168 (a1).toNat := by rw [e_v116]; exact Y_h114.2.1 168 _ (nw_ar rfl _)
              have d_v116 : v133 = v116 := by rw [t_v116, t_v133]
              subst d_v116
              refine ok_sv (vy_come hn S Y_h114 (by omega) (by omega) (by omega)) ?_; intro u118 P_u118
              obtain ⟨Y_u118, ⟨k1_u118, k2_u118, k3_u118, k4_u118, k5_u118, k6_u118, k7_u118⟩, j_u118, n_u118⟩ := P_u118
              have N_u118 := n_u118 N_h114
              exact ok_ret (qu_mk Y_u118 N_u118 (by omega) (by omega) (by omega) (by omega))
            · skip
              refine ok_rd (by omega) (gA_176 Y_u122.1) ?_; intro v126 e_v126 a_v126 b_v126
              have p_v126 := (te_s2 T (by omega)).1; rw [← Y_u122.2.2.2.2.1.1 _ (by omega), ← e_v126] at p_v126
              refine ok_sv (vy_wrong hn Y_u122 (by omega) (by omega)) ?_; intro u128 P_u128
              obtain ⟨Y_u128, K_u128, x_u128⟩ := P_u128
              obtain ⟨k1_u128, k2_u128, k3_u128, k4_u128, k5_u128, k6_u128, k7_u128⟩ := K_u128.1
              have N_u128 : MI t u128 := mi_dead x_u128
              unfold qj_X13_ruled_244
              refine ok_wA (by omega) ?_; intro h114 E_h114
              obtain ⟨Y_h114, K_h114⟩ := yi_174 Y_u128 (by omega) (by omega) E_h114
              obtain ⟨k1_h114, k2_h114, k3_h114, k4_h114, k5_h114, k6_h114, k7_h114⟩ := K_h114.1
              have s_h114 : h114 174 (a1).toNat = u131.1 := by rw [E_h114]; exact up_s
              have N_h114 := mi_174 N_u128 E_h114 (by omega)
              refine ok_rd (by omega) (gA_168 Y_h114.1) ?_; intro v116 e_v116 a_v116 b_v116
              have t_v116 : v116 = t 168 (a1).toNat := by rw [e_v116]; exact Y_h114.2.1 168 _ (nw_ar rfl _)
              have d_v116 : v133 = v116 := by rw [t_v116, t_v133]
              subst d_v116
              refine ok_sv (vy_come hn S Y_h114 (by omega) (by omega) (by omega)) ?_; intro u118 P_u118
              obtain ⟨Y_u118, ⟨k1_u118, k2_u118, k3_u118, k4_u118, k5_u118, k6_u118, k7_u118⟩, j_u118, n_u118⟩ := P_u118
              have N_u118 := n_u118 N_h114
              exact ok_ret (qu_mk Y_u118 N_u118 (by omega) (by omega) (by omega) (by omega))
          · skip
            refine ok_rd (by omega) (gA_168 Y_u131.1) ?_; intro v137 e_v137 a_v137 b_v137
            have t_v137 : v137 = t 168 (a1).toNat := by rw [e_v137]; exact Y_u131.2.1 168 _ (nw_ar rfl _)
            have d_v137 : v133 = v137 := by rw [t_v137, t_v133]
            subst d_v137
            refine ok_sv (vy_wrong hn Y_u131 (by omega) (by omega)) ?_; intro u139 P_u139
            obtain ⟨Y_u139, K_u139, x_u139⟩ := P_u139
            obtain ⟨k1_u139, k2_u139, k3_u139, k4_u139, k5_u139, k6_u139, k7_u139⟩ := K_u139.1
            have N_u139 : MI t u139 := mi_dead x_u139
            unfold qj_X13_ruled_209
            refine ok_rd (by omega) (gA_170 Y_u139.1) ?_; intro v120 e_v120 a_v120 b_v120
            have t_v120 : v120 = t 170 (a1).toNat := by rw [e_v120]; exact Y_u139.2.1 170 _ (nw_ar rfl _)
            have c8 : TE 1 t 0 (RE 1 1) (a1 + 1) b v120 := by rw [t_v120]; exact (te_s2 T (by omega)).2.2
            have rc8 := te_rg c8
            refine ok_sv (ge_given hn S Y_u139 N_u139 c8 (by omega) (by omega) (by omega)) ?_; intro u122 P_u122
            obtain ⟨Y_u122, N_u122, K_u122, r1_u122, r2_u122, r3_u122, r4_u122⟩ := P_u122
            obtain ⟨k1_u122, k2_u122, k3_u122, k4_u122, k5_u122, k6_u122, k7_u122⟩ := K_u122.1
            refine ok_sv (vy_fits hn Y_u122 S (by omega) (by omega)) ?_; intro u124 P_u124
            refine ok_if (fun C9 => ?_) (fun C9 => ?_)
            · skip
              unfold qj_X13_ruled_244
              refine ok_wA (by omega) ?_; intro h114 E_h114
              obtain ⟨Y_h114, K_h114⟩ := yi_174 Y_u122 (by omega) (by omega) E_h114
              obtain ⟨k1_h114, k2_h114, k3_h114, k4_h114, k5_h114, k6_h114, k7_h114⟩ := K_h114.1
              have s_h114 : h114 174 (a1).toNat = u131.1 := by rw [E_h114]; exact up_s
              have N_h114 := mi_174 N_u122 E_h114 (by omega)
              refine ok_rd (by omega) (gA_168 Y_h114.1) ?_; intro v116 e_v116 a_v116 b_v116
              have t_v116 : v116 = t 168 (a1).toNat := by rw [e_v116]; exact Y_h114.2.1 168 _ (nw_ar rfl _)
              have d_v116 : v133 = v116 := by rw [t_v116, t_v133]
              subst d_v116
              refine ok_sv (vy_come hn S Y_h114 (by omega) (by omega) (by omega)) ?_; intro u118 P_u118
              obtain ⟨Y_u118, ⟨k1_u118, k2_u118, k3_u118, k4_u118, k5_u118, k6_u118, k7_u118⟩, j_u118, n_u118⟩ := P_u118
              have N_u118 := n_u118 N_h114
              exact ok_ret (qu_mk Y_u118 N_u118 (by omega) (by omega) (by omega) (by omega))
            · skip
              refine ok_rd (by omega) (gA_176 Y_u122.1) ?_; intro v126 e_v126 a_v126 b_v126
              have p_v126 := (te_s2 T (by omega)).1; rw [← Y_u122.2.2.2.2.1.1 _ (by omega), ← e_v126] at p_v126
              refine ok_sv (vy_wrong hn Y_u122 (by omega) (by omega)) ?_; intro u128 P_u128
              obtain ⟨Y_u128, K_u128, x_u128⟩ := P_u128
              obtain ⟨k1_u128, k2_u128, k3_u128, k4_u128, k5_u128, k6_u128, k7_u128⟩ := K_u128.1
              have N_u128 : MI t u128 := mi_dead x_u128
              unfold qj_X13_ruled_244
              refine ok_wA (by omega) ?_; intro h114 E_h114
              obtain ⟨Y_h114, K_h114⟩ := yi_174 Y_u128 (by omega) (by omega) E_h114
              obtain ⟨k1_h114, k2_h114, k3_h114, k4_h114, k5_h114, k6_h114, k7_h114⟩ := K_h114.1
              have s_h114 : h114 174 (a1).toNat = u131.1 := by rw [E_h114]; exact up_s
              have N_h114 := mi_174 N_u128 E_h114 (by omega)
              refine ok_rd (by omega) (gA_168 Y_h114.1) ?_; intro v116 e_v116 a_v116 b_v116
              have t_v116 : v116 = t 168 (a1).toNat := by rw [e_v116]; exact Y_h114.2.1 168 _ (nw_ar rfl _)
              have d_v116 : v133 = v116 := by rw [t_v116, t_v133]
              subst d_v116
              refine ok_sv (vy_come hn S Y_h114 (by omega) (by omega) (by omega)) ?_; intro u118 P_u118
              obtain ⟨Y_u118, ⟨k1_u118, k2_u118, k3_u118, k4_u118, k5_u118, k6_u118, k7_u118⟩, j_u118, n_u118⟩ := P_u118
              have N_u118 := n_u118 N_h114
              exact ok_ret (qu_mk Y_u118 N_u118 (by omega) (by omega) (by omega) (by omega))
        · skip
          unfold qj_X13_ruled_179
          refine ok_sv (vy_typeOf hn S Y0 N0 (by omega) (by omega)) ?_; intro u131 P_u131
          have p5_u131 := P_u131.2; replace P_u131 := P_u131.1
          obtain ⟨Y_u131, N_u131, K_u131, r1_u131, r2_u131, r3_u131, r4_u131⟩ := P_u131
          obtain ⟨k1_u131, k2_u131, k3_u131, k4_u131, k5_u131, k6_u131, k7_u131⟩ := K_u131.1
          refine ok_rd (by omega) (gA_168 Y_u131.1) ?_; intro v133 e_v133 a_v133 b_v133
          have t_v133 : v133 = t 168 (a1).toNat := by rw [e_v133]; exact Y_u131.2.1 168 _ (nw_ar rfl _)
          refine ok_sv (vy_sightOf hn Y_u131 S (by omega)) ?_; intro u135 P_u135
          refine ok_if (fun C10 => ?_) (fun C10 => ?_)
          · skip
            unfold qj_X13_ruled_209
            refine ok_rd (by omega) (gA_170 Y_u131.1) ?_; intro v120 e_v120 a_v120 b_v120
            have t_v120 : v120 = t 170 (a1).toNat := by rw [e_v120]; exact Y_u131.2.1 170 _ (nw_ar rfl _)
            have c11 : TE 1 t 0 (RE 1 1) (a1 + 1) b v120 := by rw [t_v120]; exact (te_s2 T (by omega)).2.2
            have rc11 := te_rg c11
            refine ok_sv (ge_given hn S Y_u131 N_u131 c11 (by omega) (by omega) (by omega)) ?_; intro u122 P_u122
            obtain ⟨Y_u122, N_u122, K_u122, r1_u122, r2_u122, r3_u122, r4_u122⟩ := P_u122
            obtain ⟨k1_u122, k2_u122, k3_u122, k4_u122, k5_u122, k6_u122, k7_u122⟩ := K_u122.1
            refine ok_sv (vy_fits hn Y_u122 S (by omega) (by omega)) ?_; intro u124 P_u124
            refine ok_if (fun C12 => ?_) (fun C12 => ?_)
            · skip
              unfold qj_X13_ruled_244
              refine ok_wA (by omega) ?_; intro h114 E_h114
              obtain ⟨Y_h114, K_h114⟩ := yi_174 Y_u122 (by omega) (by omega) E_h114
              obtain ⟨k1_h114, k2_h114, k3_h114, k4_h114, k5_h114, k6_h114, k7_h114⟩ := K_h114.1
              have s_h114 : h114 174 (a1).toNat = u131.1 := by rw [E_h114]; exact up_s
              have N_h114 := mi_174 N_u122 E_h114 (by omega)
              refine ok_rd (by omega) (gA_168 Y_h114.1) ?_; intro v116 e_v116 a_v116 b_v116
              have t_v116 : v116 = t 168 (a1).toNat := by rw [e_v116]; exact Y_h114.2.1 168 _ (nw_ar rfl _)
              have d_v116 : v133 = v116 := by rw [t_v116, t_v133]
              subst d_v116
              refine ok_sv (vy_come hn S Y_h114 (by omega) (by omega) (by omega)) ?_; intro u118 P_u118
              obtain ⟨Y_u118, ⟨k1_u118, k2_u118, k3_u118, k4_u118, k5_u118, k6_u118, k7_u118⟩, j_u118, n_u118⟩ := P_u118
              have N_u118 := n_u118 N_h114
              exact ok_ret (qu_mk Y_u118 N_u118 (by omega) (by omega) (by omega) (by omega))
            · skip
              refine ok_rd (by omega) (gA_176 Y_u122.1) ?_; intro v126 e_v126 a_v126 b_v126
              have p_v126 := (te_s2 T (by omega)).1; rw [← Y_u122.2.2.2.2.1.1 _ (by omega), ← e_v126] at p_v126
              refine ok_sv (vy_wrong hn Y_u122 (by omega) (by omega)) ?_; intro u128 P_u128
              obtain ⟨Y_u128, K_u128, x_u128⟩ := P_u128
              obtain ⟨k1_u128, k2_u128, k3_u128, k4_u128, k5_u128, k6_u128, k7_u128⟩ := K_u128.1
              have N_u128 : MI t u128 := mi_dead x_u128
              unfold qj_X13_ruled_244
              refine ok_wA (by omega) ?_; intro h114 E_h114
              obtain ⟨Y_h114, K_h114⟩ := yi_174 Y_u128 (by omega) (by omega) E_h114
              obtain ⟨k1_h114, k2_h114, k3_h114, k4_h114, k5_h114, k6_h114, k7_h114⟩ := K_h114.1
              have s_h114 : h114 174 (a1).toNat = u131.1 := by rw [E_h114]; exact up_s
              have N_h114 := mi_174 N_u128 E_h114 (by omega)
              refine ok_rd (by omega) (gA_168 Y_h114.1) ?_; intro v116 e_v116 a_v116 b_v116
              have t_v116 : v116 = t 168 (a1).toNat := by rw [e_v116]; exact Y_h114.2.1 168 _ (nw_ar rfl _)
              have d_v116 : v133 = v116 := by rw [t_v116, t_v133]
              subst d_v116
              refine ok_sv (vy_come hn S Y_h114 (by omega) (by omega) (by omega)) ?_; intro u118 P_u118
              obtain ⟨Y_u118, ⟨k1_u118, k2_u118, k3_u118, k4_u118, k5_u118, k6_u118, k7_u118⟩, j_u118, n_u118⟩ := P_u118
              have N_u118 := n_u118 N_h114
              exact ok_ret (qu_mk Y_u118 N_u118 (by omega) (by omega) (by omega) (by omega))
          · skip
            refine ok_rd (by omega) (gA_168 Y_u131.1) ?_; intro v137 e_v137 a_v137 b_v137
            have t_v137 : v137 = t 168 (a1).toNat := by rw [e_v137]; exact Y_u131.2.1 168 _ (nw_ar rfl _)
            have d_v137 : v133 = v137 := by rw [t_v137, t_v133]
            subst d_v137
            refine ok_sv (vy_wrong hn Y_u131 (by omega) (by omega)) ?_; intro u139 P_u139
            obtain ⟨Y_u139, K_u139, x_u139⟩ := P_u139
            obtain ⟨k1_u139, k2_u139, k3_u139, k4_u139, k5_u139, k6_u139, k7_u139⟩ := K_u139.1
            have N_u139 : MI t u139 := mi_dead x_u139
            unfold qj_X13_ruled_209
            refine ok_rd (by omega) (gA_170 Y_u139.1) ?_; intro v120 e_v120 a_v120 b_v120
            have t_v120 : v120 = t 170 (a1).toNat := by rw [e_v120]; exact Y_u139.2.1 170 _ (nw_ar rfl _)
            have c13 : TE 1 t 0 (RE 1 1) (a1 + 1) b v120 := by rw [t_v120]; exact (te_s2 T (by omega)).2.2
            have rc13 := te_rg c13
            refine ok_sv (ge_given hn S Y_u139 N_u139 c13 (by omega) (by omega) (by omega)) ?_; intro u122 P_u122
            obtain ⟨Y_u122, N_u122, K_u122, r1_u122, r2_u122, r3_u122, r4_u122⟩ := P_u122
            obtain ⟨k1_u122, k2_u122, k3_u122, k4_u122, k5_u122, k6_u122, k7_u122⟩ := K_u122.1
            refine ok_sv (vy_fits hn Y_u122 S (by omega) (by omega)) ?_; intro u124 P_u124
            refine ok_if (fun C14 => ?_) (fun C14 => ?_)
            · skip
              unfold qj_X13_ruled_244
              refine ok_wA (by omega) ?_; intro h114 E_h114
              obtain ⟨Y_h114, K_h114⟩ := yi_174 Y_u122 (by omega) (by omega) E_h114
              obtain ⟨k1_h114, k2_h114, k3_h114, k4_h114, k5_h114, k6_h114, k7_h114⟩ := K_h114.1
              have s_h114 : h114 174 (a1).toNat = u131.1 := by rw [E_h114]; exact up_s
              have N_h114 := mi_174 N_u122 E_h114 (by omega)
              refine ok_rd (by omega) (gA_168 Y_h114.1) ?_; intro v116 e_v116 a_v116 b_v116
              have t_v116 : v116 = t 168 (a1).toNat := by rw [e_v116]; exact Y_h114.2.1 168 _ (nw_ar rfl _)
              have d_v116 : v133 = v116 := by rw [t_v116, t_v133]
              subst d_v116
              refine ok_sv (vy_come hn S Y_h114 (by omega) (by omega) (by omega)) ?_; intro u118 P_u118
              obtain ⟨Y_u118, ⟨k1_u118, k2_u118, k3_u118, k4_u118, k5_u118, k6_u118, k7_u118⟩, j_u118, n_u118⟩ := P_u118
              have N_u118 := n_u118 N_h114
              exact ok_ret (qu_mk Y_u118 N_u118 (by omega) (by omega) (by omega) (by omega))
            · skip
              refine ok_rd (by omega) (gA_176 Y_u122.1) ?_; intro v126 e_v126 a_v126 b_v126
              have p_v126 := (te_s2 T (by omega)).1; rw [← Y_u122.2.2.2.2.1.1 _ (by omega), ← e_v126] at p_v126
              refine ok_sv (vy_wrong hn Y_u122 (by omega) (by omega)) ?_; intro u128 P_u128
              obtain ⟨Y_u128, K_u128, x_u128⟩ := P_u128
              obtain ⟨k1_u128, k2_u128, k3_u128, k4_u128, k5_u128, k6_u128, k7_u128⟩ := K_u128.1
              have N_u128 : MI t u128 := mi_dead x_u128
              unfold qj_X13_ruled_244
              refine ok_wA (by omega) ?_; intro h114 E_h114
              obtain ⟨Y_h114, K_h114⟩ := yi_174 Y_u128 (by omega) (by omega) E_h114
              obtain ⟨k1_h114, k2_h114, k3_h114, k4_h114, k5_h114, k6_h114, k7_h114⟩ := K_h114.1
              have s_h114 : h114 174 (a1).toNat = u131.1 := by rw [E_h114]; exact up_s
              have N_h114 := mi_174 N_u128 E_h114 (by omega)
              refine ok_rd (by omega) (gA_168 Y_h114.1) ?_; intro v116 e_v116 a_v116 b_v116
              have t_v116 : v116 = t 168 (a1).toNat := by rw [e_v116]; exact Y_h114.2.1 168 _ (nw_ar rfl _)
              have d_v116 : v133 = v116 := by rw [t_v116, t_v133]
              subst d_v116
              refine ok_sv (vy_come hn S Y_h114 (by omega) (by omega) (by omega)) ?_; intro u118 P_u118
              obtain ⟨Y_u118, ⟨k1_u118, k2_u118, k3_u118, k4_u118, k5_u118, k6_u118, k7_u118⟩, j_u118, n_u118⟩ := P_u118
              have N_u118 := n_u118 N_h114
              exact ok_ret (qu_mk Y_u118 N_u118 (by omega) (by omega) (by omega) (by omega))
      · skip
        refine ok_if (fun C15 => ?_) (fun C15 => ?_)
        · skip
          refine ok_rd (by omega) (gA_170 Y0.1) ?_; intro v187 e_v187 a_v187 b_v187
          have t_v187 : v187 = t 170 (a1).toNat := by rw [e_v187]; exact Y0.2.1 170 _ (nw_ar rfl _)
          have c16 : TE 1 t 0 (RE 1 1) (a1 + 1) b v187 := by rw [t_v187]; exact (te_s3 T (by omega)).1
          have rc16 := te_rg c16
          refine ok_sv (ge_condition hn S Y0 N0 c16 (by omega) (by omega) (by omega)) ?_; intro u189 P_u189
          obtain ⟨Y_u189, N_u189, K_u189⟩ := P_u189
          obtain ⟨k1_u189, k2_u189, k3_u189, k4_u189, k5_u189, k6_u189, k7_u189⟩ := K_u189.1
          refine ok_rd (by omega) (gA_171 Y_u189.1) ?_; intro v191 e_v191 a_v191 b_v191
          have t_v191 : v191 = t 171 (a1).toNat := by rw [e_v191]; exact Y_u189.2.1 171 _ (nw_ar rfl _)
          have qc17 := (te_s3 T (by omega)).2.1; rw [← t_v191] at qc17; obtain ⟨⟨xc17, yc17, zc17⟩, c17⟩ := qc17
          refine ok_sv (G v191 _ _ u189 Y_u189 N_u189 c17 (by omega) (by omega) (by omega) (by omega) (by omega)) ?_; intro u193 P_u193
          obtain ⟨Y_u193, N_u193, ⟨⟨k2_u193, k3_u193, k4_u193, k5_u193, k6_u193⟩, k1_u193, k7_u193⟩, r1_u193⟩ := P_u193
          refine ok_xl ?_; intro h194 E_h194
          obtain ⟨Y_h194, ⟨k1_h194, k2_h194, k3_h194, k4_h194, k5_h194, k6_h194, k7_h194⟩, j_h194⟩ := yi_50 Y_u193 (by omega) E_h194
          have N_h194 := mi_fd N_u193 E_h194 (by decide)
          refine ok_rd (by omega) (gA_172 Y_h194.1) ?_; intro v196 e_v196 a_v196 b_v196
          have t_v196 : v196 = t 172 (a1).toNat := by rw [e_v196]; exact Y_h194.2.1 172 _ (nw_ar rfl _)
          refine ok_if (fun C18 => ?_) (fun C18 => ?_)
          · skip
            refine ok_rd (by omega) (gA_172 Y_h194.1) ?_; intro v198 e_v198 a_v198 b_v198
            have t_v198 : v198 = t 172 (a1).toNat := by rw [e_v198]; exact Y_h194.2.1 172 _ (nw_ar rfl _)
            have d_v198 : v196 = v198 := by rw [t_v198, t_v196]
            subst d_v198
            have qc19 := (te_s3 T (by omega)).2.2.resolve_left (by omega); rw [← t_v196] at qc19; obtain ⟨⟨xc19, yc19, zc19⟩, c19⟩ := qc19
            refine ok_sv (G v196 _ _ h194 Y_h194 N_h194 c19 (by omega) (by omega) (by omega) (by omega) (by omega)) ?_; intro u200 P_u200
            obtain ⟨Y_u200, N_u200, ⟨⟨k2_u200, k3_u200, k4_u200, k5_u200, k6_u200⟩, k1_u200, k7_u200⟩, r1_u200⟩ := P_u200
            refine ok_xl ?_; intro h201 E_h201
            obtain ⟨Y_h201, ⟨k1_h201, k2_h201, k3_h201, k4_h201, k5_h201, k6_h201, k7_h201⟩, j_h201⟩ := yi_50 Y_u200 (by omega) E_h201
            have N_h201 := mi_fd N_u200 E_h201 (by decide)
            refine ok_if (fun C20 => ?_) (fun C20 => ?_)
            · skip
              exact ok_ret (qu_mk Y_h201 N_h201 (by omega) (by omega) (by omega) (by omega))
            · skip
              refine ok_if (fun C21 => ?_) (fun C21 => ?_)
              · skip
                exact ok_ret (qu_mk Y_h201 N_h201 (by omega) (by omega) (by omega) (by omega))
              · skip
                exact ok_ret (qu_mk Y_h201 N_h201 (by omega) (by omega) (by omega) (by omega))
          · skip
            exact ok_ret (qu_mk Y_h194 N_h194 (by omega) (by omega) (by omega) (by omega))
        · skip
          refine ok_if (fun C22 => ?_) (fun C22 => ?_)
          · skip
            refine ok_rd (by omega) (gA_170 Y0.1) ?_; intro v206 e_v206 a_v206 b_v206
            have t_v206 : v206 = t 170 (a1).toNat := by rw [e_v206]; exact Y0.2.1 170 _ (nw_ar rfl _)
            have c23 : TE 1 t 0 (RE 1 1) (a1 + 1) b v206 := by rw [t_v206]; exact (te_s4 T (by omega)).1
            have rc23 := te_rg c23
            refine ok_sv (ge_condition hn S Y0 N0 c23 (by omega) (by omega) (by omega)) ?_; intro u208 P_u208
            obtain ⟨Y_u208, N_u208, K_u208⟩ := P_u208
            obtain ⟨k1_u208, k2_u208, k3_u208, k4_u208, k5_u208, k6_u208, k7_u208⟩ := K_u208.1
            refine ok_add (by omega) ?_; intro v210 e_v210
            refine ok_xl ?_; intro h211 E_h211
            obtain ⟨Y_h211, ⟨k1_h211, k2_h211, k3_h211, k4_h211, k5_h211, k6_h211, k7_h211⟩, j_h211⟩ := yi_54 Y_u208 (by omega) E_h211
            have N_h211 := mi_fd N_u208 E_h211 (by decide)
            refine ok_wZ (by omega) (by omega) ?_; intro h214 E_h214
            obtain ⟨Y_h214, K_h214⟩ := yi_198 Y_h211 (by omega) E_h214
            obtain ⟨k1_h214, k2_h214, k3_h214, k4_h214, k5_h214, k6_h214, k7_h214⟩ := K_h214.1
            have s_h214 : h214 198 ((h211 160 54)).toNat = 0 := by rw [E_h214]; exact up_s
            have N_h214 := mi_up (j := (h211 160 54)) N_h211 E_h214 (by decide)
            refine ok_rd (by omega) (gA_171 Y_h214.1) ?_; intro v216 e_v216 a_v216 b_v216
            have t_v216 : v216 = t 171 (a1).toNat := by rw [e_v216]; exact Y_h214.2.1 171 _ (nw_ar rfl _)
            have qc24 := (te_s4 T (by omega)).2; rw [← t_v216] at qc24; obtain ⟨⟨xc24, yc24, zc24⟩, c24⟩ := qc24
            refine ok_sv (G v216 _ _ h214 Y_h214 N_h214 c24 (by omega) (by omega) (by omega) (by omega) (by omega)) ?_; intro u218 P_u218
            obtain ⟨Y_u218, N_u218, ⟨⟨k2_u218, k3_u218, k4_u218, k5_u218, k6_u218⟩, k1_u218, k7_u218⟩, r1_u218⟩ := P_u218
            unfold qj_X13_ruled_377
            refine ok_xl ?_; intro h105 E_h105
            obtain ⟨Y_h105, ⟨k1_h105, k2_h105, k3_h105, k4_h105, k5_h105, k6_h105, k7_h105⟩, j_h105⟩ := yi_50 Y_u218 (by omega) E_h105
            have N_h105 := mi_fd N_u218 E_h105 (by decide)
            refine ok_rd (by omega) (gA_175 Y_h105.1) ?_; intro v107 e_v107 a_v107 b_v107
            refine ok_if (fun C25 => ?_) (fun C25 => ?_)
            · skip
              unfold qj_X13_ruled_403
              unfold qj_X13_ruled_408
              refine ok_rd (by omega) (gA_198 Y_h105.1) ?_; intro v103 e_v103 a_v103 b_v103
              refine ok_if (fun C26 => ?_) (fun C26 => ?_)
              · skip
                unfold qj_X13_ruled_431
                refine ok_wA (by omega) ?_; intro h95 E_h95
                obtain ⟨Y_h95, K_h95⟩ := yi_176 Y_h105 (by omega) (by omega) (by omega) E_h95
                obtain ⟨k1_h95, k2_h95, k3_h95, k4_h95, k5_h95, k6_h95, k7_h95⟩ := K_h95.1
                have s_h95 : h95 176 (a1).toNat = 0 := by rw [E_h95]; exact up_s
                have N_h95 := mi_up N_h105 E_h95 (by decide)
                refine ok_sub (by omega) ?_; intro v97 e_v97
                refine ok_xl ?_; intro h98 E_h98
                obtain ⟨Y_h98, ⟨k1_h98, k2_h98, k3_h98, k4_h98, k5_h98, k6_h98, k7_h98⟩, j_h98⟩ := yi_54 Y_h95 (by omega) E_h98
                have N_h98 := mi_fd N_h95 E_h98 (by decide)
                refine ok_ck (by omega) ?_
                exact ok_ret (qu_mk Y_h98 N_h98 (by omega) (by omega) (by omega) (by omega))
              · skip
                unfold qj_X13_ruled_431
                refine ok_wA (by omega) ?_; intro h95 E_h95
                obtain ⟨Y_h95, K_h95⟩ := yi_176 Y_h105 (by omega) (by omega) (by omega) E_h95
                obtain ⟨k1_h95, k2_h95, k3_h95, k4_h95, k5_h95, k6_h95, k7_h95⟩ := K_h95.1
                have s_h95 : h95 176 (a1).toNat = 1 := by rw [E_h95]; exact up_s
                have N_h95 := mi_up N_h105 E_h95 (by decide)
                refine ok_sub (by omega) ?_; intro v97 e_v97
                refine ok_xl ?_; intro h98 E_h98
                obtain ⟨Y_h98, ⟨k1_h98, k2_h98, k3_h98, k4_h98, k5_h98, k6_h98, k7_h98⟩, j_h98⟩ := yi_54 Y_h95 (by omega) E_h98
                have N_h98 := mi_fd N_h95 E_h98 (by decide)
                refine ok_ck (by omega) ?_
                exact ok_ret (qu_mk Y_h98 N_h98 (by omega) (by omega) (by omega) (by omega))
            · skip
              refine ok_rd (by omega) (gA_198 Y_h105.1) ?_; intro v110 e_v110 a_v110 b_v110
              refine ok_if (fun C27 => ?_) (fun C27 => ?_)
              · skip
                unfold qj_X13_ruled_408
                refine ok_rd (by omega) (gA_198 Y_h105.1) ?_; intro v103 e_v103 a_v103 b_v103
                refine ok_if (fun C28 => ?_) (fun C28 => ?_)
                · skip
                  unfold qj_X13_ruled_431
                  refine ok_wA (by omega) ?_; intro h95 E_h95
                  obtain ⟨Y_h95, K_h95⟩ := yi_176 Y_h105 (by omega) (by omega) (by omega) E_h95
                  obtain ⟨k1_h95, k2_h95, k3_h95, k4_h95, k5_h95, k6_h95, k7_h95⟩ := K_h95.1
                  have s_h95 : h95 176 (a1).toNat = 0 := by rw [E_h95]; exact up_s
                  have N_h95 := mi_up N_h105 E_h95 (by decide)
                  refine ok_sub (by omega) ?_; intro v97 e_v97
                  refine ok_xl ?_; intro h98 E_h98
                  obtain ⟨Y_h98, ⟨k1_h98, k2_h98, k3_h98, k4_h98, k5_h98, k6_h98, k7_h98⟩, j_h98⟩ := yi_54 Y_h95 (by omega) E_h98
                  have N_h98 := mi_fd N_h95 E_h98 (by decide)
                  refine ok_ck (by omega) ?_
                  exact ok_ret (qu_mk Y_h98 N_h98 (by omega) (by omega) (by omega) (by omega))
                · skip
                  unfold qj_X13_ruled_431
                  refine ok_wA (by omega) ?_; intro h95 E_h95
                  obtain ⟨Y_h95, K_h95⟩ := yi_176 Y_h105 (by omega) (by omega) (by omega) E_h95
                  obtain ⟨k1_h95, k2_h95, k3_h95, k4_h95, k5_h95, k6_h95, k7_h95⟩ := K_h95.1
                  have s_h95 : h95 176 (a1).toNat = 1 := by rw [E_h95]; exact up_s
                  have N_h95 := mi_up N_h105 E_h95 (by decide)
                  refine ok_sub (by omega) ?_; intro v97 e_v97
                  refine ok_xl ?_; intro h98 E_h98
                  obtain ⟨Y_h98, ⟨k1_h98, k2_h98, k3_h98, k4_h98, k5_h98, k6_h98, k7_h98⟩, j_h98⟩ := yi_54 Y_h95 (by omega) E_h98
                  have N_h98 := mi_fd N_h95 E_h98 (by decide)
                  refine ok_ck (by omega) ?_
                  exact ok_ret (qu_mk Y_h98 N_h98 (by omega) (by omega) (by omega) (by omega))
              · skip
                unfold qj_X13_ruled_403
                unfold qj_X13_ruled_408
                refine ok_rd (by omega) (gA_198 Y_h105.1) ?_; intro v103 e_v103 a_v103 b_v103
                refine ok_if (fun C29 => ?_) (fun C29 => ?_)
                · skip
                  unfold qj_X13_ruled_431
                  refine ok_wA (by omega) ?_; intro h95 E_h95
                  obtain ⟨Y_h95, K_h95⟩ := yi_176 Y_h105 (by omega) (by omega) (by omega) E_h95
                  obtain ⟨k1_h95, k2_h95, k3_h95, k4_h95, k5_h95, k6_h95, k7_h95⟩ := K_h95.1
                  have s_h95 : h95 176 (a1).toNat = 0 := by rw [E_h95]; exact up_s
                  have N_h95 := mi_up N_h105 E_h95 (by decide)
                  refine ok_sub (by omega) ?_; intro v97 e_v97
                  refine ok_xl ?_; intro h98 E_h98
                  obtain ⟨Y_h98, ⟨k1_h98, k2_h98, k3_h98, k4_h98, k5_h98, k6_h98, k7_h98⟩, j_h98⟩ := yi_54 Y_h95 (by omega) E_h98
                  have N_h98 := mi_fd N_h95 E_h98 (by decide)
                  refine ok_ck (by omega) ?_
                  exact ok_ret (qu_mk Y_h98 N_h98 (by omega) (by omega) (by omega) (by omega))
                · skip
                  unfold qj_X13_ruled_431
                  refine ok_wA (by omega) ?_; intro h95 E_h95
                  obtain ⟨Y_h95, K_h95⟩ := yi_176 Y_h105 (by omega) (by omega) (by omega) E_h95
                  obtain ⟨k1_h95, k2_h95, k3_h95, k4_h95, k5_h95, k6_h95, k7_h95⟩ := K_h95.1
                  have s_h95 : h95 176 (a1).toNat = 1 := by rw [E_h95]; exact up_s
                  have N_h95 := mi_up N_h105 E_h95 (by decide)
                  refine ok_sub (by omega) ?_; intro v97 e_v97
                  refine ok_xl ?_; intro h98 E_h98
                  obtain ⟨Y_h98, ⟨k1_h98, k2_h98, k3_h98, k4_h98, k5_h98, k6_h98, k7_h98⟩, j_h98⟩ := yi_54 Y_h95 (by omega) E_h98
                  have N_h98 := mi_fd N_h95 E_h98 (by decide)
                  refine ok_ck (by omega) ?_
                  exact ok_ret (qu_mk Y_h98 N_h98 (by omega) (by omega) (by omega) (by omega))
          · skip
            refine ok_if (fun C30 => ?_) (fun C30 => ?_)
            · skip
              unfold qj_X13_ruled_444
              refine ok_if (fun C31 => ?_) (fun C31 => ?_)
              · skip
                refine ok_rd (by omega) (gA_167 Y0.1) ?_; intro v85 e_v85 a_v85 b_v85
                have t_v85 : v85 = t 167 (a1).toNat := by rw [e_v85]; exact Y0.2.1 167 _ (nw_ar rfl _)
                have d_v85 : v158 = v85 := by rw [t_v85, t_v158]
                subst d_v85
                refine ok_if (fun C32 => ?_) (fun C32 => ?_)
                · skip
                  exact ok_ret (qu_mk Y0 N0 (by omega) (by omega) (by omega) (by omega))
                · skip
                  refine ok_wZ (by omega) (by omega) ?_; intro h88 E_h88
                  obtain ⟨Y_h88, K_h88⟩ := yi_198 Y0 (by omega) E_h88
                  obtain ⟨k1_h88, k2_h88, k3_h88, k4_h88, k5_h88, k6_h88, k7_h88⟩ := K_h88.1
                  have s_h88 : h88 198 ((h 160 54)).toNat = 1 := by rw [E_h88]; exact up_s
                  have N_h88 := mi_up (j := (h 160 54)) N0 E_h88 (by decide)
                  exact ok_ret (qu_mk Y_h88 N_h88 (by omega) (by omega) (by omega) (by omega))
              · skip
                refine ok_rd (by omega) (gA_168 Y0.1) ?_; intro v91 e_v91 a_v91 b_v91
                have t_v91 : v91 = t 168 (a1).toNat := by rw [e_v91]; exact Y0.2.1 168 _ (nw_ar rfl _)
                refine ok_sv (vy_wrong hn Y0 (by omega) (by omega)) ?_; intro u93 P_u93
                obtain ⟨Y_u93, K_u93, x_u93⟩ := P_u93
                obtain ⟨k1_u93, k2_u93, k3_u93, k4_u93, k5_u93, k6_u93, k7_u93⟩ := K_u93.1
                have N_u93 : MI t u93 := mi_dead x_u93
                exact ok_ret (qu_mk Y_u93 N_u93 (by omega) (by omega) (by omega) (by omega))
            · skip
              refine ok_if (fun C33 => ?_) (fun C33 => ?_)
              · skip
                unfold qj_X13_ruled_444
                refine ok_if (fun C34 => ?_) (fun C34 => ?_)
                · skip
                  refine ok_rd (by omega) (gA_167 Y0.1) ?_; intro v85 e_v85 a_v85 b_v85
                  have t_v85 : v85 = t 167 (a1).toNat := by rw [e_v85]; exact Y0.2.1 167 _ (nw_ar rfl _)
                  have d_v85 : v158 = v85 := by rw [t_v85, t_v158]
                  subst d_v85
                  refine ok_if (fun C35 => ?_) (fun C35 => ?_)
                  · skip
                    exact ok_ret (qu_mk Y0 N0 (by omega) (by omega) (by omega) (by omega))
                  · skip
                    exfalso; omega
                · skip
                  refine ok_rd (by omega) (gA_168 Y0.1) ?_; intro v91 e_v91 a_v91 b_v91
                  have t_v91 : v91 = t 168 (a1).toNat := by rw [e_v91]; exact Y0.2.1 168 _ (nw_ar rfl _)
                  refine ok_sv (vy_wrong hn Y0 (by omega) (by omega)) ?_; intro u93 P_u93
                  obtain ⟨Y_u93, K_u93, x_u93⟩ := P_u93
                  obtain ⟨k1_u93, k2_u93, k3_u93, k4_u93, k5_u93, k6_u93, k7_u93⟩ := K_u93.1
                  have N_u93 : MI t u93 := mi_dead x_u93
                  exact ok_ret (qu_mk Y_u93 N_u93 (by omega) (by omega) (by omega) (by omega))
              · skip
                refine ok_if (fun C36 => ?_) (fun C36 => ?_)
                · skip
                  refine ok_rd (by omega) (gA_170 Y0.1) ?_; intro v220 e_v220 a_v220 b_v220
                  have t_v220 : v220 = t 170 (a1).toNat := by rw [e_v220]; exact Y0.2.1 170 _ (nw_ar rfl _)
                  refine ok_if (fun C37 => ?_) (fun C37 => ?_)
                  · skip
                    unfold qj_X13_ruled_503
                    refine ok_rd (by omega) (gA_187 Y0.1) ?_; intro v81 e_v81 a_v81 b_v81
                    have t_v81 : v81 = t 187 ((h 160 51)).toNat := by rw [e_v81]; exact Y0.2.1 187 _ (nw_ar rfl _)
                    have l_v81 : v81 < 24 + 2 * t 160 24 := by rw [t_v81]; exact (S.2.2.1 _ (by omega)).1
                    refine ok_if (fun C38 => ?_) (fun C38 => ?_)
                    · skip
                      unfold qj_X13_ruled_521
                      rw [if_neg (by decide)]
                      refine ok_rd (by omega) (gA_168 Y0.1) ?_; intro v75 e_v75 a_v75 b_v75
                      have t_v75 : v75 = t 168 (a1).toNat := by rw [e_v75]; exact Y0.2.1 168 _ (nw_ar rfl _)
                      refine ok_sv (vy_wrong hn Y0 (by omega) (by omega)) ?_; intro u77 P_u77
                      obtain ⟨Y_u77, K_u77, x_u77⟩ := P_u77
                      obtain ⟨k1_u77, k2_u77, k3_u77, k4_u77, k5_u77, k6_u77, k7_u77⟩ := K_u77.1
                      have N_u77 : MI t u77 := mi_dead x_u77
                      unfold qj_X13_ruled_536
                      refine ok_rd (by omega) (gA_170 Y_u77.1) ?_; intro v58 e_v58 a_v58 b_v58
                      have t_v58 : v58 = t 170 (a1).toNat := by rw [e_v58]; exact Y_u77.2.1 170 _ (nw_ar rfl _)
                      have d_v58 : v220 = v58 := by rw [t_v58, t_v220]
                      subst d_v58
                      refine ok_if (fun C39 => ?_) (fun C39 => ?_)
                      · skip
                        exact ok_ret (qu_mk Y_u77 N_u77 (by omega) (by omega) (by omega) (by omega))
                      · skip
                        refine ok_rd (by omega) (gA_170 Y_u77.1) ?_; intro v60 e_v60 a_v60 b_v60
                        have t_v60 : v60 = t 170 (a1).toNat := by rw [e_v60]; exact Y_u77.2.1 170 _ (nw_ar rfl _)
                        have d_v60 : v220 = v60 := by rw [t_v60, t_v220]
                        subst d_v60
                        have c40 := (te_s7 T (by omega)).resolve_left (by omega); rw [← t_v220] at c40; have rc40 := te_rg c40
                        refine ok_sv (ge_given hn S Y_u77 N_u77 c40 (by omega) (by omega) (by omega)) ?_; intro u62 P_u62
                        obtain ⟨Y_u62, N_u62, K_u62, r1_u62, r2_u62, r3_u62, r4_u62⟩ := P_u62
                        obtain ⟨k1_u62, k2_u62, k3_u62, k4_u62, k5_u62, k6_u62, k7_u62⟩ := K_u62.1
                        refine ok_rd (by omega) (gA_187 Y_u62.1) ?_; intro v65 e_v65 a_v65 b_v65
                        have t_v65 : v65 = t 187 ((u62.2 160 51)).toNat := by rw [e_v65]; exact Y_u62.2.1 187 _ (nw_ar rfl _)
                        have l_v65 : v65 < 24 + 2 * t 160 24 := by rw [t_v65]; exact (S.2.2.1 _ (by omega)).1
                        refine ok_sv (vy_fits hn Y_u62 S (by omega) (by omega)) ?_; intro u67 P_u67
                        refine ok_if (fun C41 => ?_) (fun C41 => ?_)
                        · skip
                          exact ok_ret (qu_mk Y_u62 N_u62 (by omega) (by omega) (by omega) (by omega))
                        · skip
                          refine ok_rd (by omega) (gA_168 Y_u62.1) ?_; intro v69 e_v69 a_v69 b_v69
                          have t_v69 : v69 = t 168 (a1).toNat := by rw [e_v69]; exact Y_u62.2.1 168 _ (nw_ar rfl _)
                          have d_v69 : v75 = v69 := by rw [t_v69, t_v75]
                          subst d_v69
                          refine ok_sv (vy_wrong hn Y_u62 (by omega) (by omega)) ?_; intro u71 P_u71
                          obtain ⟨Y_u71, K_u71, x_u71⟩ := P_u71
                          obtain ⟨k1_u71, k2_u71, k3_u71, k4_u71, k5_u71, k6_u71, k7_u71⟩ := K_u71.1
                          have N_u71 : MI t u71 := mi_dead x_u71
                          exact ok_ret (qu_mk Y_u71 N_u71 (by omega) (by omega) (by omega) (by omega))
                    · skip
                      unfold qj_X13_ruled_521
                      rw [if_pos (by decide)]
                      unfold qj_X13_ruled_536
                      refine ok_rd (by omega) (gA_170 Y0.1) ?_; intro v58 e_v58 a_v58 b_v58
                      have t_v58 : v58 = t 170 (a1).toNat := by rw [e_v58]; exact Y0.2.1 170 _ (nw_ar rfl _)
                      have d_v58 : v220 = v58 := by rw [t_v58, t_v220]
                      subst d_v58
                      refine ok_if (fun C42 => ?_) (fun C42 => ?_)
                      · skip
                        exact ok_ret (qu_mk Y0 N0 (by omega) (by omega) (by omega) (by omega))
                      · skip
                        refine ok_rd (by omega) (gA_170 Y0.1) ?_; intro v60 e_v60 a_v60 b_v60
                        have t_v60 : v60 = t 170 (a1).toNat := by rw [e_v60]; exact Y0.2.1 170 _ (nw_ar rfl _)
                        have d_v60 : v220 = v60 := by rw [t_v60, t_v220]
                        subst d_v60
                        have c43 := (te_s7 T (by omega)).resolve_left (by omega); rw [← t_v220] at c43; have rc43 := te_rg c43
                        refine ok_sv (ge_given hn S Y0 N0 c43 (by omega) (by omega) (by omega)) ?_; intro u62 P_u62
                        obtain ⟨Y_u62, N_u62, K_u62, r1_u62, r2_u62, r3_u62, r4_u62⟩ := P_u62
                        obtain ⟨k1_u62, k2_u62, k3_u62, k4_u62, k5_u62, k6_u62, k7_u62⟩ := K_u62.1
                        refine ok_rd (by omega) (gA_187 Y_u62.1) ?_; intro v65 e_v65 a_v65 b_v65
                        have t_v65 : v65 = t 187 ((u62.2 160 51)).toNat := by rw [e_v65]; exact Y_u62.2.1 187 _ (nw_ar rfl _)
                        have l_v65 : v65 < 24 + 2 * t 160 24 := by rw [t_v65]; exact (S.2.2.1 _ (by omega)).1
                        refine ok_sv (vy_fits hn Y_u62 S (by omega) (by omega)) ?_; intro u67 P_u67
                        refine ok_if (fun C44 => ?_) (fun C44 => ?_)
                        · skip
                          exact ok_ret (qu_mk Y_u62 N_u62 (by omega) (by omega) (by omega) (by omega))
                        · skip
                          refine ok_rd (by omega) (gA_168 Y_u62.1) ?_; intro v69 e_v69 a_v69 b_v69
                          have t_v69 : v69 = t 168 (a1).toNat := by rw [e_v69]; exact Y_u62.2.1 168 _ (nw_ar rfl _)
                          refine ok_sv (vy_wrong hn Y_u62 (by omega) (by omega)) ?_; intro u71 P_u71
                          obtain ⟨Y_u71, K_u71, x_u71⟩ := P_u71
                          obtain ⟨k1_u71, k2_u71, k3_u71, k4_u71, k5_u71, k6_u71, k7_u71⟩ := K_u71.1
                          have N_u71 : MI t u71 := mi_dead x_u71
                          exact ok_ret (qu_mk Y_u71 N_u71 (by omega) (by omega) (by omega) (by omega))
                  · skip
                    unfold qj_X13_ruled_503
                    refine ok_rd (by omega) (gA_187 Y0.1) ?_; intro v81 e_v81 a_v81 b_v81
                    have t_v81 : v81 = t 187 ((h 160 51)).toNat := by rw [e_v81]; exact Y0.2.1 187 _ (nw_ar rfl _)
                    have l_v81 : v81 < 24 + 2 * t 160 24 := by rw [t_v81]; exact (S.2.2.1 _ (by omega)).1
                    refine ok_if (fun C45 => ?_) (fun C45 => ?_)
                    · skip
                      unfold qj_X13_ruled_521
                      rw [if_pos (by decide)]
                      unfold qj_X13_ruled_536
                      refine ok_rd (by omega) (gA_170 Y0.1) ?_; intro v58 e_v58 a_v58 b_v58
                      have t_v58 : v58 = t 170 (a1).toNat := by rw [e_v58]; exact Y0.2.1 170 _ (nw_ar rfl _)
                      have d_v58 : v220 = v58 := by rw [t_v58, t_v220]
                      subst d_v58
                      refine ok_if (fun C46 => ?_) (fun C46 => ?_)
                      · skip
                        exact ok_ret (qu_mk Y0 N0 (by omega) (by omega) (by omega) (by omega))
                      · skip
                        refine ok_rd (by omega) (gA_170 Y0.1) ?_; intro v60 e_v60 a_v60 b_v60
                        have t_v60 : v60 = t 170 (a1).toNat := by rw [e_v60]; exact Y0.2.1 170 _ (nw_ar rfl _)
                        have d_v60 : v220 = v60 := by rw [t_v60, t_v220]
                        subst d_v60
                        have c47 := (te_s7 T (by omega)).resolve_left (by omega); rw [← t_v220] at c47; have rc47 := te_rg c47
                        refine ok_sv (ge_given hn S Y0 N0 c47 (by omega) (by omega) (by omega)) ?_; intro u62 P_u62
                        obtain ⟨Y_u62, N_u62, K_u62, r1_u62, r2_u62, r3_u62, r4_u62⟩ := P_u62
                        obtain ⟨k1_u62, k2_u62, k3_u62, k4_u62, k5_u62, k6_u62, k7_u62⟩ := K_u62.1
                        refine ok_rd (by omega) (gA_187 Y_u62.1) ?_; intro v65 e_v65 a_v65 b_v65
                        have t_v65 : v65 = t 187 ((u62.2 160 51)).toNat := by rw [e_v65]; exact Y_u62.2.1 187 _ (nw_ar rfl _)
                        have l_v65 : v65 < 24 + 2 * t 160 24 := by rw [t_v65]; exact (S.2.2.1 _ (by omega)).1
                        refine ok_sv (vy_fits hn Y_u62 S (by omega) (by omega)) ?_; intro u67 P_u67
                        refine ok_if (fun C48 => ?_) (fun C48 => ?_)
                        · skip
                          exact ok_ret (qu_mk Y_u62 N_u62 (by omega) (by omega) (by omega) (by omega))
                        · skip
                          refine ok_rd (by omega) (gA_168 Y_u62.1) ?_; intro v69 e_v69 a_v69 b_v69
                          have t_v69 : v69 = t 168 (a1).toNat := by rw [e_v69]; exact Y_u62.2.1 168 _ (nw_ar rfl _)
                          refine ok_sv (vy_wrong hn Y_u62 (by omega) (by omega)) ?_; intro u71 P_u71
                          obtain ⟨Y_u71, K_u71, x_u71⟩ := P_u71
                          obtain ⟨k1_u71, k2_u71, k3_u71, k4_u71, k5_u71, k6_u71, k7_u71⟩ := K_u71.1
                          have N_u71 : MI t u71 := mi_dead x_u71
                          exact ok_ret (qu_mk Y_u71 N_u71 (by omega) (by omega) (by omega) (by omega))
                    · skip
                      unfold qj_X13_ruled_521
                      rw [if_neg (by decide)]
                      refine ok_rd (by omega) (gA_168 Y0.1) ?_; intro v75 e_v75 a_v75 b_v75
                      have t_v75 : v75 = t 168 (a1).toNat := by rw [e_v75]; exact Y0.2.1 168 _ (nw_ar rfl _)
                      refine ok_sv (vy_wrong hn Y0 (by omega) (by omega)) ?_; intro u77 P_u77
                      obtain ⟨Y_u77, K_u77, x_u77⟩ := P_u77
                      obtain ⟨k1_u77, k2_u77, k3_u77, k4_u77, k5_u77, k6_u77, k7_u77⟩ := K_u77.1
                      have N_u77 : MI t u77 := mi_dead x_u77
                      unfold qj_X13_ruled_536
                      refine ok_rd (by omega) (gA_170 Y_u77.1) ?_; intro v58 e_v58 a_v58 b_v58
                      have t_v58 : v58 = t 170 (a1).toNat := by rw [e_v58]; exact Y_u77.2.1 170 _ (nw_ar rfl _)
                      have d_v58 : v220 = v58 := by rw [t_v58, t_v220]
                      subst d_v58
                      refine ok_if (fun C49 => ?_) (fun C49 => ?_)
                      · skip
                        exact ok_ret (qu_mk Y_u77 N_u77 (by omega) (by omega) (by omega) (by omega))
                      · skip
                        refine ok_rd (by omega) (gA_170 Y_u77.1) ?_; intro v60 e_v60 a_v60 b_v60
                        have t_v60 : v60 = t 170 (a1).toNat := by rw [e_v60]; exact Y_u77.2.1 170 _ (nw_ar rfl _)
                        have d_v60 : v220 = v60 := by rw [t_v60, t_v220]
                        subst d_v60
                        have c50 := (te_s7 T (by omega)).resolve_left (by omega); rw [← t_v220] at c50; have rc50 := te_rg c50
                        refine ok_sv (ge_given hn S Y_u77 N_u77 c50 (by omega) (by omega) (by omega)) ?_; intro u62 P_u62
                        obtain ⟨Y_u62, N_u62, K_u62, r1_u62, r2_u62, r3_u62, r4_u62⟩ := P_u62
                        obtain ⟨k1_u62, k2_u62, k3_u62, k4_u62, k5_u62, k6_u62, k7_u62⟩ := K_u62.1
                        refine ok_rd (by omega) (gA_187 Y_u62.1) ?_; intro v65 e_v65 a_v65 b_v65
                        have t_v65 : v65 = t 187 ((u62.2 160 51)).toNat := by rw [e_v65]; exact Y_u62.2.1 187 _ (nw_ar rfl _)
                        have l_v65 : v65 < 24 + 2 * t 160 24 := by rw [t_v65]; exact (S.2.2.1 _ (by omega)).1
                        refine ok_sv (vy_fits hn Y_u62 S (by omega) (by omega)) ?_; intro u67 P_u67
                        refine ok_if (fun C51 => ?_) (fun C51 => ?_)
                        · skip
                          exact ok_ret (qu_mk Y_u62 N_u62 (by omega) (by omega) (by omega) (by omega))
                        · skip
                          refine ok_rd (by omega) (gA_168 Y_u62.1) ?_; intro v69 e_v69 a_v69 b_v69
                          have t_v69 : v69 = t 168 (a1).toNat := by rw [e_v69]; exact Y_u62.2.1 168 _ (nw_ar rfl _)
                          have d_v69 : v75 = v69 := by rw [t_v69, t_v75]
                          subst d_v69
                          refine ok_sv (vy_wrong hn Y_u62 (by omega) (by omega)) ?_; intro u71 P_u71
                          obtain ⟨Y_u71, K_u71, x_u71⟩ := P_u71
                          obtain ⟨k1_u71, k2_u71, k3_u71, k4_u71, k5_u71, k6_u71, k7_u71⟩ := K_u71.1
                          have N_u71 : MI t u71 := mi_dead x_u71
                          exact ok_ret (qu_mk Y_u71 N_u71 (by omega) (by omega) (by omega) (by omega))
                · skip
                  refine ok_if (fun C52 => ?_) (fun C52 => ?_)
                  · skip
                    refine ok_rd (by omega) (gA_170 Y0.1) ?_; intro v223 e_v223 a_v223 b_v223
                    have t_v223 : v223 = t 170 (a1).toNat := by rw [e_v223]; exact Y0.2.1 170 _ (nw_ar rfl _)
                    have c53 : TE 1 t 0 (RE 1 1) (a1 + 1) b v223 := by rw [t_v223]; exact te_s8 T (by omega)
                    have rc53 := te_rg c53
                    refine ok_sv (ge_given hn S Y0 N0 c53 (by omega) (by omega) (by omega)) ?_; intro u225 P_u225
                    obtain ⟨Y_u225, N_u225, K_u225, r1_u225, r2_u225, r3_u225, r4_u225⟩ := P_u225
                    obtain ⟨k1_u225, k2_u225, k3_u225, k4_u225, k5_u225, k6_u225, k7_u225⟩ := K_u225.1
                    refine ok_sv vy_isThing ?_; intro u226 P_u226
                    refine ok_if (fun C54 => ?_) (fun C54 => ?_)
                    · skip
                      unfold qj_X13_ruled_617
                      refine ok_rd (by omega) (gA_168 Y_u225.1) ?_; intro v54 e_v54 a_v54 b_v54
                      have t_v54 : v54 = t 168 (a1).toNat := by rw [e_v54]; exact Y_u225.2.1 168 _ (nw_ar rfl _)
                      refine ok_sv (vy_wrong hn Y_u225 (by omega) (by omega)) ?_; intro u56 P_u56
                      obtain ⟨Y_u56, K_u56, x_u56⟩ := P_u56
                      obtain ⟨k1_u56, k2_u56, k3_u56, k4_u56, k5_u56, k6_u56, k7_u56⟩ := K_u56.1
                      have N_u56 : MI t u56 := mi_dead x_u56
                      exact ok_ret (qu_mk Y_u56 N_u56 (by omega) (by omega) (by omega) (by omega))
                    · skip
                      refine ok_sv (vy_fits hn Y_u225 S (by omega) (by omega)) ?_; intro u228 P_u228
                      refine ok_if (fun C55 => ?_) (fun C55 => ?_)
                      · skip
                        exact ok_ret (qu_mk Y_u225 N_u225 (by omega) (by omega) (by omega) (by omega))
                      · skip
                        unfold qj_X13_ruled_617
                        refine ok_rd (by omega) (gA_168 Y_u225.1) ?_; intro v54 e_v54 a_v54 b_v54
                        have t_v54 : v54 = t 168 (a1).toNat := by rw [e_v54]; exact Y_u225.2.1 168 _ (nw_ar rfl _)
                        refine ok_sv (vy_wrong hn Y_u225 (by omega) (by omega)) ?_; intro u56 P_u56
                        obtain ⟨Y_u56, K_u56, x_u56⟩ := P_u56
                        obtain ⟨k1_u56, k2_u56, k3_u56, k4_u56, k5_u56, k6_u56, k7_u56⟩ := K_u56.1
                        have N_u56 : MI t u56 := mi_dead x_u56
                        exact ok_ret (qu_mk Y_u56 N_u56 (by omega) (by omega) (by omega) (by omega))
                  · skip
                    refine ok_if (fun C56 => ?_) (fun C56 => ?_)
                    · skip
                      refine ok_rd (by omega) (gA_170 Y0.1) ?_; intro v232 e_v232 a_v232 b_v232
                      have t_v232 : v232 = t 170 (a1).toNat := by rw [e_v232]; exact Y0.2.1 170 _ (nw_ar rfl _)
                      have qc57 := (te_s9 T (by omega)).2.1; rw [← t_v232] at qc57; obtain ⟨⟨xc57, yc57, zc57⟩, c57⟩ := qc57
                      refine ok_sv (G v232 _ _ h Y0 N0 c57 (by omega) (by omega) (by omega) (by omega) (by omega)) ?_; intro u234 P_u234
                      obtain ⟨Y_u234, N_u234, ⟨⟨k2_u234, k3_u234, k4_u234, k5_u234, k6_u234⟩, k1_u234, k7_u234⟩, r1_u234⟩ := P_u234
                      refine ok_rd (by omega) (gA_168 Y_u234.1) ?_; intro v236 e_v236 a_v236 b_v236
                      have t_v236 : v236 = t 168 (a1).toNat := by rw [e_v236]; exact Y_u234.2.1 168 _ (nw_ar rfl _)
                      refine ok_sv (vy_typeOf hn S Y_u234 N_u234 (by omega) (by omega)) ?_; intro u238 P_u238
                      have p5_u238 := P_u238.2; replace P_u238 := P_u238.1
                      obtain ⟨Y_u238, N_u238, K_u238, r1_u238, r2_u238, r3_u238, r4_u238⟩ := P_u238
                      obtain ⟨k1_u238, k2_u238, k3_u238, k4_u238, k5_u238, k6_u238, k7_u238⟩ := K_u238.1
                      refine ok_sv (vy_fits hn Y_u238 S (by omega) (by omega)) ?_; intro u240 P_u240
                      refine ok_if (fun C58 => ?_) (fun C58 => ?_)
                      · skip
                        unfold qj_X13_ruled_679
                        refine ok_if (fun C59 => ?_) (fun C59 => ?_)
                        · skip
                          unfold qj_X13_ruled_711
                          refine ok_wA (by omega) ?_; intro h35 E_h35
                          obtain ⟨Y_h35, K_h35⟩ := yi_174 Y_u238 (by omega) (by omega) E_h35
                          obtain ⟨k1_h35, k2_h35, k3_h35, k4_h35, k5_h35, k6_h35, k7_h35⟩ := K_h35.1
                          have s_h35 : h35 174 (a1).toNat = u238.1 := by rw [E_h35]; exact up_s
                          have N_h35 := mi_174 N_u238 E_h35 (by omega)
                          refine ok_if (fun C60 => ?_) (fun C60 => ?_)
                          · skip
                            unfold qj_X13_ruled_738
                            refine ok_rd (by omega) (gA_171 Y_h35.1) ?_; intro v28 e_v28 a_v28 b_v28
                            have t_v28 : v28 = t 171 (a1).toNat := by rw [e_v28]; exact Y_h35.2.1 171 _ (nw_ar rfl _)
                            have qc61 := (te_s9 T (by omega)).2.2.1; rw [← t_v28] at qc61; obtain ⟨⟨xc61, yc61, zc61⟩, c61⟩ := qc61
                            have wc61 := (te_s9 T (by omega)).2.2.2; rw [← t_v28] at wc61
                            refine ok_sv (G v28 _ _ h35 Y_h35 N_h35 c61 (by omega) (by omega) (by omega) (by omega) (by omega)) ?_; intro u30 P_u30
                            obtain ⟨Y_u30, N_u30, ⟨⟨k2_u30, k3_u30, k4_u30, k5_u30, k6_u30⟩, k1_u30, k7_u30⟩, r1_u30⟩ := P_u30
                            refine ok_xl ?_; intro h31 E_h31
                            obtain ⟨Y_h31, ⟨k1_h31, k2_h31, k3_h31, k4_h31, k5_h31, k6_h31, k7_h31⟩, j_h31⟩ := yi_50 Y_u30 (by omega) E_h31
                            have N_h31 := mi_fd N_u30 E_h31 (by decide)
                            refine ok_if (fun C62 => ?_) (fun C62 => ?_)
                            · skip
                              exact ok_ret (qu_mk Y_h31 N_h31 (by omega) (by omega) (by omega) (by omega))
                            · skip
                              refine ok_if (fun C63 => ?_) (fun C63 => ?_)
                              · skip
                                exact ok_ret (qu_mk Y_h31 N_h31 (by omega) (by omega) (by omega) (by omega))
                              · skip
                                exact ok_ret (qu_mk Y_h31 N_h31 (by omega) (by omega) (by omega) (by omega))
                          · skip
                            refine ok_rd (by omega) (gA_176 Y_h35.1) ?_; intro v38 e_v38 a_v38 b_v38
                            have p_v38 := (te_s9 T (by omega)).1; rw [← Y_h35.2.2.2.2.1.1 _ (by omega), ← e_v38] at p_v38
                            refine ok_sv (vy_come hn S Y_h35 (by omega) (by omega) (by omega)) ?_; intro u40 P_u40
                            obtain ⟨Y_u40, ⟨k1_u40, k2_u40, k3_u40, k4_u40, k5_u40, k6_u40, k7_u40⟩, j_u40, n_u40⟩ := P_u40
                            have N_u40 := n_u40 N_h35
                            unfold qj_X13_ruled_738
                            refine ok_rd (by omega) (gA_171 Y_u40.1) ?_; intro v28 e_v28 a_v28 b_v28
                            have t_v28 : v28 = t 171 (a1).toNat := by rw [e_v28]; exact Y_u40.2.1 171 _ (nw_ar rfl _)
                            have qc64 := (te_s9 T (by omega)).2.2.1; rw [← t_v28] at qc64; obtain ⟨⟨xc64, yc64, zc64⟩, c64⟩ := qc64
                            have wc64 := (te_s9 T (by omega)).2.2.2; rw [← t_v28] at wc64
                            refine ok_sv (G v28 _ _ u40 Y_u40 N_u40 c64 (by omega) (by omega) (by omega) (by omega) (by omega)) ?_; intro u30 P_u30
                            obtain ⟨Y_u30, N_u30, ⟨⟨k2_u30, k3_u30, k4_u30, k5_u30, k6_u30⟩, k1_u30, k7_u30⟩, r1_u30⟩ := P_u30
                            refine ok_xl ?_; intro h31 E_h31
                            obtain ⟨Y_h31, ⟨k1_h31, k2_h31, k3_h31, k4_h31, k5_h31, k6_h31, k7_h31⟩, j_h31⟩ := yi_50 Y_u30 (by omega) E_h31
                            have N_h31 := mi_fd N_u30 E_h31 (by decide)
                            refine ok_if (fun C65 => ?_) (fun C65 => ?_)
                            · skip
                              exact ok_ret (qu_mk Y_h31 N_h31 (by omega) (by omega) (by omega) (by omega))
                            · skip
                              refine ok_if (fun C66 => ?_) (fun C66 => ?_)
                              · skip
                                exact ok_ret (qu_mk Y_h31 N_h31 (by omega) (by omega) (by omega) (by omega))
                              · skip
                                exact ok_ret (qu_mk Y_h31 N_h31 (by omega) (by omega) (by omega) (by omega))
                        · skip
                          refine ok_rd (by omega) (gA_176 Y_u238.1) ?_; intro v44 e_v44 a_v44 b_v44
                          have p_v44 := (te_s9 T (by omega)).1; rw [← Y_u238.2.2.2.2.1.1 _ (by omega), ← e_v44] at p_v44
                          refine ok_sv (vy_sightOf hn Y_u238 S (by omega)) ?_; intro u46 P_u46
                          refine ok_if (fun C67 => ?_) (fun C67 => ?_)
                          · skip
                            unfold qj_X13_ruled_711
                            refine ok_wA (by omega) ?_; intro h35 E_h35
                            obtain ⟨Y_h35, K_h35⟩ := yi_174 Y_u238 (by omega) (by omega) E_h35
                            obtain ⟨k1_h35, k2_h35, k3_h35, k4_h35, k5_h35, k6_h35, k7_h35⟩ := K_h35.1
                            have s_h35 : h35 174 (a1).toNat = u238.1 := by rw [E_h35]; exact up_s
                            have N_h35 := mi_174 N_u238 E_h35 (by omega)
                            refine ok_if (fun C68 => ?_) (fun C68 => ?_)
                            · skip
                              unfold qj_X13_ruled_738
                              refine ok_rd (by omega) (gA_171 Y_h35.1) ?_; intro v28 e_v28 a_v28 b_v28
                              have t_v28 : v28 = t 171 (a1).toNat := by rw [e_v28]; exact Y_h35.2.1 171 _ (nw_ar rfl _)
                              have qc69 := (te_s9 T (by omega)).2.2.1; rw [← t_v28] at qc69; obtain ⟨⟨xc69, yc69, zc69⟩, c69⟩ := qc69
                              have wc69 := (te_s9 T (by omega)).2.2.2; rw [← t_v28] at wc69
                              refine ok_sv (G v28 _ _ h35 Y_h35 N_h35 c69 (by omega) (by omega) (by omega) (by omega) (by omega)) ?_; intro u30 P_u30
                              obtain ⟨Y_u30, N_u30, ⟨⟨k2_u30, k3_u30, k4_u30, k5_u30, k6_u30⟩, k1_u30, k7_u30⟩, r1_u30⟩ := P_u30
                              refine ok_xl ?_; intro h31 E_h31
                              obtain ⟨Y_h31, ⟨k1_h31, k2_h31, k3_h31, k4_h31, k5_h31, k6_h31, k7_h31⟩, j_h31⟩ := yi_50 Y_u30 (by omega) E_h31
                              have N_h31 := mi_fd N_u30 E_h31 (by decide)
                              refine ok_if (fun C70 => ?_) (fun C70 => ?_)
                              · skip
                                exact ok_ret (qu_mk Y_h31 N_h31 (by omega) (by omega) (by omega) (by omega))
                              · skip
                                refine ok_if (fun C71 => ?_) (fun C71 => ?_)
                                · skip
                                  exact ok_ret (qu_mk Y_h31 N_h31 (by omega) (by omega) (by omega) (by omega))
                                · skip
                                  exact ok_ret (qu_mk Y_h31 N_h31 (by omega) (by omega) (by omega) (by omega))
                            · skip
                              refine ok_rd (by omega) (gA_176 Y_h35.1) ?_; intro v38 e_v38 a_v38 b_v38
                              have p_v38 := (te_s9 T (by omega)).1; rw [← Y_h35.2.2.2.2.1.1 _ (by omega), ← e_v38] at p_v38
                              refine ok_sv (vy_come hn S Y_h35 (by omega) (by omega) (by omega)) ?_; intro u40 P_u40
                              obtain ⟨Y_u40, ⟨k1_u40, k2_u40, k3_u40, k4_u40, k5_u40, k6_u40, k7_u40⟩, j_u40, n_u40⟩ := P_u40
                              have N_u40 := n_u40 N_h35
                              unfold qj_X13_ruled_738
                              refine ok_rd (by omega) (gA_171 Y_u40.1) ?_; intro v28 e_v28 a_v28 b_v28
                              have t_v28 : v28 = t 171 (a1).toNat := by rw [e_v28]; exact Y_u40.2.1 171 _ (nw_ar rfl _)
                              have qc72 := (te_s9 T (by omega)).2.2.1; rw [← t_v28] at qc72; obtain ⟨⟨xc72, yc72, zc72⟩, c72⟩ := qc72
                              have wc72 := (te_s9 T (by omega)).2.2.2; rw [← t_v28] at wc72
                              refine ok_sv (G v28 _ _ u40 Y_u40 N_u40 c72 (by omega) (by omega) (by omega) (by omega) (by omega)) ?_; intro u30 P_u30
                              obtain ⟨Y_u30, N_u30, ⟨⟨k2_u30, k3_u30, k4_u30, k5_u30, k6_u30⟩, k1_u30, k7_u30⟩, r1_u30⟩ := P_u30
                              refine ok_xl ?_; intro h31 E_h31
                              obtain ⟨Y_h31, ⟨k1_h31, k2_h31, k3_h31, k4_h31, k5_h31, k6_h31, k7_h31⟩, j_h31⟩ := yi_50 Y_u30 (by omega) E_h31
                              have N_h31 := mi_fd N_u30 E_h31 (by decide)
                              refine ok_if (fun C73 => ?_) (fun C73 => ?_)
                              · skip
                                exact ok_ret (qu_mk Y_h31 N_h31 (by omega) (by omega) (by omega) (by omega))
                              · skip
                                refine ok_if (fun C74 => ?_) (fun C74 => ?_)
                                · skip
                                  exact ok_ret (qu_mk Y_h31 N_h31 (by omega) (by omega) (by omega) (by omega))
                                · skip
                                  exact ok_ret (qu_mk Y_h31 N_h31 (by omega) (by omega) (by omega) (by omega))
                          · skip
                            refine ok_rd (by omega) (gA_176 Y_u238.1) ?_; intro v48 e_v48 a_v48 b_v48
                            have p_v48 := (te_s9 T (by omega)).1; rw [← Y_u238.2.2.2.2.1.1 _ (by omega), ← e_v48] at p_v48
                            refine ok_sv (vy_wrong hn Y_u238 (by omega) (by omega)) ?_; intro u50 P_u50
                            obtain ⟨Y_u50, K_u50, x_u50⟩ := P_u50
                            obtain ⟨k1_u50, k2_u50, k3_u50, k4_u50, k5_u50, k6_u50, k7_u50⟩ := K_u50.1
                            have N_u50 : MI t u50 := mi_dead x_u50
                            unfold qj_X13_ruled_711
                            refine ok_wA (by omega) ?_; intro h35 E_h35
                            obtain ⟨Y_h35, K_h35⟩ := yi_174 Y_u50 (by omega) (by omega) E_h35
                            obtain ⟨k1_h35, k2_h35, k3_h35, k4_h35, k5_h35, k6_h35, k7_h35⟩ := K_h35.1
                            have s_h35 : h35 174 (a1).toNat = u238.1 := by rw [E_h35]; exact up_s
                            have N_h35 := mi_174 N_u50 E_h35 (by omega)
                            refine ok_if (fun C75 => ?_) (fun C75 => ?_)
                            · skip
                              unfold qj_X13_ruled_738
                              refine ok_rd (by omega) (gA_171 Y_h35.1) ?_; intro v28 e_v28 a_v28 b_v28
                              have t_v28 : v28 = t 171 (a1).toNat := by rw [e_v28]; exact Y_h35.2.1 171 _ (nw_ar rfl _)
                              have qc76 := (te_s9 T (by omega)).2.2.1; rw [← t_v28] at qc76; obtain ⟨⟨xc76, yc76, zc76⟩, c76⟩ := qc76
                              have wc76 := (te_s9 T (by omega)).2.2.2; rw [← t_v28] at wc76
                              refine ok_sv (G v28 _ _ h35 Y_h35 N_h35 c76 (by omega) (by omega) (by omega) (by omega) (by omega)) ?_; intro u30 P_u30
                              obtain ⟨Y_u30, N_u30, ⟨⟨k2_u30, k3_u30, k4_u30, k5_u30, k6_u30⟩, k1_u30, k7_u30⟩, r1_u30⟩ := P_u30
                              refine ok_xl ?_; intro h31 E_h31
                              obtain ⟨Y_h31, ⟨k1_h31, k2_h31, k3_h31, k4_h31, k5_h31, k6_h31, k7_h31⟩, j_h31⟩ := yi_50 Y_u30 (by omega) E_h31
                              have N_h31 := mi_fd N_u30 E_h31 (by decide)
                              refine ok_if (fun C77 => ?_) (fun C77 => ?_)
                              · skip
                                exact ok_ret (qu_mk Y_h31 N_h31 (by omega) (by omega) (by omega) (by omega))
                              · skip
                                refine ok_if (fun C78 => ?_) (fun C78 => ?_)
                                · skip
                                  exact ok_ret (qu_mk Y_h31 N_h31 (by omega) (by omega) (by omega) (by omega))
                                · skip
                                  exact ok_ret (qu_mk Y_h31 N_h31 (by omega) (by omega) (by omega) (by omega))
                            · skip
                              refine ok_rd (by omega) (gA_176 Y_h35.1) ?_; intro v38 e_v38 a_v38 b_v38
                              have p_v38 := (te_s9 T (by omega)).1; rw [← Y_h35.2.2.2.2.1.1 _ (by omega), ← e_v38] at p_v38
                              refine ok_sv (vy_come hn S Y_h35 (by omega) (by omega) (by omega)) ?_; intro u40 P_u40
                              obtain ⟨Y_u40, ⟨k1_u40, k2_u40, k3_u40, k4_u40, k5_u40, k6_u40, k7_u40⟩, j_u40, n_u40⟩ := P_u40
                              have N_u40 := n_u40 N_h35
                              unfold qj_X13_ruled_738
                              refine ok_rd (by omega) (gA_171 Y_u40.1) ?_; intro v28 e_v28 a_v28 b_v28
                              have t_v28 : v28 = t 171 (a1).toNat := by rw [e_v28]; exact Y_u40.2.1 171 _ (nw_ar rfl _)
                              have qc79 := (te_s9 T (by omega)).2.2.1; rw [← t_v28] at qc79; obtain ⟨⟨xc79, yc79, zc79⟩, c79⟩ := qc79
                              have wc79 := (te_s9 T (by omega)).2.2.2; rw [← t_v28] at wc79
                              refine ok_sv (G v28 _ _ u40 Y_u40 N_u40 c79 (by omega) (by omega) (by omega) (by omega) (by omega)) ?_; intro u30 P_u30
                              obtain ⟨Y_u30, N_u30, ⟨⟨k2_u30, k3_u30, k4_u30, k5_u30, k6_u30⟩, k1_u30, k7_u30⟩, r1_u30⟩ := P_u30
                              refine ok_xl ?_; intro h31 E_h31
                              obtain ⟨Y_h31, ⟨k1_h31, k2_h31, k3_h31, k4_h31, k5_h31, k6_h31, k7_h31⟩, j_h31⟩ := yi_50 Y_u30 (by omega) E_h31
                              have N_h31 := mi_fd N_u30 E_h31 (by decide)
                              refine ok_if (fun C80 => ?_) (fun C80 => ?_)
                              · skip
                                exact ok_ret (qu_mk Y_h31 N_h31 (by omega) (by omega) (by omega) (by omega))
                              · skip
                                refine ok_if (fun C81 => ?_) (fun C81 => ?_)
                                · skip
                                  exact ok_ret (qu_mk Y_h31 N_h31 (by omega) (by omega) (by omega) (by omega))
                                · skip
                                  exact ok_ret (qu_mk Y_h31 N_h31 (by omega) (by omega) (by omega) (by omega))
                      · skip
                        refine ok_rd (by omega) (gA_168 Y_u238.1) ?_; intro v242 e_v242 a_v242 b_v242
                        have t_v242 : v242 = t 168 (a1).toNat := by rw [e_v242]; exact Y_u238.2.1 168 _ (nw_ar rfl _)
                        have d_v242 : v236 = v242 := by rw [t_v242, t_v236]
                        subst d_v242
                        refine ok_sv (vy_wrong hn Y_u238 (by omega) (by omega)) ?_; intro u244 P_u244
                        obtain ⟨Y_u244, K_u244, x_u244⟩ := P_u244
                        obtain ⟨k1_u244, k2_u244, k3_u244, k4_u244, k5_u244, k6_u244, k7_u244⟩ := K_u244.1
                        have N_u244 : MI t u244 := mi_dead x_u244
                        unfold qj_X13_ruled_679
                        refine ok_if (fun C82 => ?_) (fun C82 => ?_)
                        · skip
                          unfold qj_X13_ruled_711
                          refine ok_wA (by omega) ?_; intro h35 E_h35
                          obtain ⟨Y_h35, K_h35⟩ := yi_174 Y_u244 (by omega) (by omega) E_h35
                          obtain ⟨k1_h35, k2_h35, k3_h35, k4_h35, k5_h35, k6_h35, k7_h35⟩ := K_h35.1
                          have s_h35 : h35 174 (a1).toNat = u238.1 := by rw [E_h35]; exact up_s
                          have N_h35 := mi_174 N_u244 E_h35 (by omega)
                          refine ok_if (fun C83 => ?_) (fun C83 => ?_)
                          · skip
                            unfold qj_X13_ruled_738
                            refine ok_rd (by omega) (gA_171 Y_h35.1) ?_; intro v28 e_v28 a_v28 b_v28
                            have t_v28 : v28 = t 171 (a1).toNat := by rw [e_v28]; exact Y_h35.2.1 171 _ (nw_ar rfl _)
                            have qc84 := (te_s9 T (by omega)).2.2.1; rw [← t_v28] at qc84; obtain ⟨⟨xc84, yc84, zc84⟩, c84⟩ := qc84
                            have wc84 := (te_s9 T (by omega)).2.2.2; rw [← t_v28] at wc84
                            refine ok_sv (G v28 _ _ h35 Y_h35 N_h35 c84 (by omega) (by omega) (by omega) (by omega) (by omega)) ?_; intro u30 P_u30
                            obtain ⟨Y_u30, N_u30, ⟨⟨k2_u30, k3_u30, k4_u30, k5_u30, k6_u30⟩, k1_u30, k7_u30⟩, r1_u30⟩ := P_u30
                            refine ok_xl ?_; intro h31 E_h31
                            obtain ⟨Y_h31, ⟨k1_h31, k2_h31, k3_h31, k4_h31, k5_h31, k6_h31, k7_h31⟩, j_h31⟩ := yi_50 Y_u30 (by omega) E_h31
                            have N_h31 := mi_fd N_u30 E_h31 (by decide)
                            refine ok_if (fun C85 => ?_) (fun C85 => ?_)
                            · skip
                              exact ok_ret (qu_mk Y_h31 N_h31 (by omega) (by omega) (by omega) (by omega))
                            · skip
                              refine ok_if (fun C86 => ?_) (fun C86 => ?_)
                              · skip
                                exact ok_ret (qu_mk Y_h31 N_h31 (by omega) (by omega) (by omega) (by omega))
                              · skip
                                exact ok_ret (qu_mk Y_h31 N_h31 (by omega) (by omega) (by omega) (by omega))
                          · skip
                            refine ok_rd (by omega) (gA_176 Y_h35.1) ?_; intro v38 e_v38 a_v38 b_v38
                            have p_v38 := (te_s9 T (by omega)).1; rw [← Y_h35.2.2.2.2.1.1 _ (by omega), ← e_v38] at p_v38
                            refine ok_sv (vy_come hn S Y_h35 (by omega) (by omega) (by omega)) ?_; intro u40 P_u40
                            obtain ⟨Y_u40, ⟨k1_u40, k2_u40, k3_u40, k4_u40, k5_u40, k6_u40, k7_u40⟩, j_u40, n_u40⟩ := P_u40
                            have N_u40 := n_u40 N_h35
                            unfold qj_X13_ruled_738
                            refine ok_rd (by omega) (gA_171 Y_u40.1) ?_; intro v28 e_v28 a_v28 b_v28
                            have t_v28 : v28 = t 171 (a1).toNat := by rw [e_v28]; exact Y_u40.2.1 171 _ (nw_ar rfl _)
                            have qc87 := (te_s9 T (by omega)).2.2.1; rw [← t_v28] at qc87; obtain ⟨⟨xc87, yc87, zc87⟩, c87⟩ := qc87
                            have wc87 := (te_s9 T (by omega)).2.2.2; rw [← t_v28] at wc87
                            refine ok_sv (G v28 _ _ u40 Y_u40 N_u40 c87 (by omega) (by omega) (by omega) (by omega) (by omega)) ?_; intro u30 P_u30
                            obtain ⟨Y_u30, N_u30, ⟨⟨k2_u30, k3_u30, k4_u30, k5_u30, k6_u30⟩, k1_u30, k7_u30⟩, r1_u30⟩ := P_u30
                            refine ok_xl ?_; intro h31 E_h31
                            obtain ⟨Y_h31, ⟨k1_h31, k2_h31, k3_h31, k4_h31, k5_h31, k6_h31, k7_h31⟩, j_h31⟩ := yi_50 Y_u30 (by omega) E_h31
                            have N_h31 := mi_fd N_u30 E_h31 (by decide)
                            refine ok_if (fun C88 => ?_) (fun C88 => ?_)
                            · skip
                              exact ok_ret (qu_mk Y_h31 N_h31 (by omega) (by omega) (by omega) (by omega))
                            · skip
                              refine ok_if (fun C89 => ?_) (fun C89 => ?_)
                              · skip
                                exact ok_ret (qu_mk Y_h31 N_h31 (by omega) (by omega) (by omega) (by omega))
                              · skip
                                exact ok_ret (qu_mk Y_h31 N_h31 (by omega) (by omega) (by omega) (by omega))
                        · skip
                          refine ok_rd (by omega) (gA_176 Y_u244.1) ?_; intro v44 e_v44 a_v44 b_v44
                          have p_v44 := (te_s9 T (by omega)).1; rw [← Y_u244.2.2.2.2.1.1 _ (by omega), ← e_v44] at p_v44
                          refine ok_sv (vy_sightOf hn Y_u244 S (by omega)) ?_; intro u46 P_u46
                          refine ok_if (fun C90 => ?_) (fun C90 => ?_)
                          · skip
                            unfold qj_X13_ruled_711
                            refine ok_wA (by omega) ?_; intro h35 E_h35
                            obtain ⟨Y_h35, K_h35⟩ := yi_174 Y_u244 (by omega) (by omega) E_h35
                            obtain ⟨k1_h35, k2_h35, k3_h35, k4_h35, k5_h35, k6_h35, k7_h35⟩ := K_h35.1
                            have s_h35 : h35 174 (a1).toNat = u238.1 := by rw [E_h35]; exact up_s
                            have N_h35 := mi_174 N_u244 E_h35 (by omega)
                            refine ok_if (fun C91 => ?_) (fun C91 => ?_)
                            · skip
                              unfold qj_X13_ruled_738
                              refine ok_rd (by omega) (gA_171 Y_h35.1) ?_; intro v28 e_v28 a_v28 b_v28
                              have t_v28 : v28 = t 171 (a1).toNat := by rw [e_v28]; exact Y_h35.2.1 171 _ (nw_ar rfl _)
                              have qc92 := (te_s9 T (by omega)).2.2.1; rw [← t_v28] at qc92; obtain ⟨⟨xc92, yc92, zc92⟩, c92⟩ := qc92
                              have wc92 := (te_s9 T (by omega)).2.2.2; rw [← t_v28] at wc92
                              refine ok_sv (G v28 _ _ h35 Y_h35 N_h35 c92 (by omega) (by omega) (by omega) (by omega) (by omega)) ?_; intro u30 P_u30
                              obtain ⟨Y_u30, N_u30, ⟨⟨k2_u30, k3_u30, k4_u30, k5_u30, k6_u30⟩, k1_u30, k7_u30⟩, r1_u30⟩ := P_u30
                              refine ok_xl ?_; intro h31 E_h31
                              obtain ⟨Y_h31, ⟨k1_h31, k2_h31, k3_h31, k4_h31, k5_h31, k6_h31, k7_h31⟩, j_h31⟩ := yi_50 Y_u30 (by omega) E_h31
                              have N_h31 := mi_fd N_u30 E_h31 (by decide)
                              refine ok_if (fun C93 => ?_) (fun C93 => ?_)
                              · skip
                                exact ok_ret (qu_mk Y_h31 N_h31 (by omega) (by omega) (by omega) (by omega))
                              · skip
                                refine ok_if (fun C94 => ?_) (fun C94 => ?_)
                                · skip
                                  exact ok_ret (qu_mk Y_h31 N_h31 (by omega) (by omega) (by omega) (by omega))
                                · skip
                                  exact ok_ret (qu_mk Y_h31 N_h31 (by omega) (by omega) (by omega) (by omega))
                            · skip
                              refine ok_rd (by omega) (gA_176 Y_h35.1) ?_; intro v38 e_v38 a_v38 b_v38
                              have p_v38 := (te_s9 T (by omega)).1; rw [← Y_h35.2.2.2.2.1.1 _ (by omega), ← e_v38] at p_v38
                              refine ok_sv (vy_come hn S Y_h35 (by omega) (by omega) (by omega)) ?_; intro u40 P_u40
                              obtain ⟨Y_u40, ⟨k1_u40, k2_u40, k3_u40, k4_u40, k5_u40, k6_u40, k7_u40⟩, j_u40, n_u40⟩ := P_u40
                              have N_u40 := n_u40 N_h35
                              unfold qj_X13_ruled_738
                              refine ok_rd (by omega) (gA_171 Y_u40.1) ?_; intro v28 e_v28 a_v28 b_v28
                              have t_v28 : v28 = t 171 (a1).toNat := by rw [e_v28]; exact Y_u40.2.1 171 _ (nw_ar rfl _)
                              have qc95 := (te_s9 T (by omega)).2.2.1; rw [← t_v28] at qc95; obtain ⟨⟨xc95, yc95, zc95⟩, c95⟩ := qc95
                              have wc95 := (te_s9 T (by omega)).2.2.2; rw [← t_v28] at wc95
                              refine ok_sv (G v28 _ _ u40 Y_u40 N_u40 c95 (by omega) (by omega) (by omega) (by omega) (by omega)) ?_; intro u30 P_u30
                              obtain ⟨Y_u30, N_u30, ⟨⟨k2_u30, k3_u30, k4_u30, k5_u30, k6_u30⟩, k1_u30, k7_u30⟩, r1_u30⟩ := P_u30
                              refine ok_xl ?_; intro h31 E_h31
                              obtain ⟨Y_h31, ⟨k1_h31, k2_h31, k3_h31, k4_h31, k5_h31, k6_h31, k7_h31⟩, j_h31⟩ := yi_50 Y_u30 (by omega) E_h31
                              have N_h31 := mi_fd N_u30 E_h31 (by decide)
                              refine ok_if (fun C96 => ?_) (fun C96 => ?_)
                              · skip
                                exact ok_ret (qu_mk Y_h31 N_h31 (by omega) (by omega) (by omega) (by omega))
                              · skip
                                refine ok_if (fun C97 => ?_) (fun C97 => ?_)
                                · skip
                                  exact ok_ret (qu_mk Y_h31 N_h31 (by omega) (by omega) (by omega) (by omega))
                                · skip
                                  exact ok_ret (qu_mk Y_h31 N_h31 (by omega) (by omega) (by omega) (by omega))
                          · skip
                            refine ok_rd (by omega) (gA_176 Y_u244.1) ?_; intro v48 e_v48 a_v48 b_v48
                            have p_v48 := (te_s9 T (by omega)).1; rw [← Y_u244.2.2.2.2.1.1 _ (by omega), ← e_v48] at p_v48
                            refine ok_sv (vy_wrong hn Y_u244 (by omega) (by omega)) ?_; intro u50 P_u50
                            obtain ⟨Y_u50, K_u50, x_u50⟩ := P_u50
                            obtain ⟨k1_u50, k2_u50, k3_u50, k4_u50, k5_u50, k6_u50, k7_u50⟩ := K_u50.1
                            have N_u50 : MI t u50 := mi_dead x_u50
                            unfold qj_X13_ruled_711
                            refine ok_wA (by omega) ?_; intro h35 E_h35
                            obtain ⟨Y_h35, K_h35⟩ := yi_174 Y_u50 (by omega) (by omega) E_h35
                            obtain ⟨k1_h35, k2_h35, k3_h35, k4_h35, k5_h35, k6_h35, k7_h35⟩ := K_h35.1
                            have s_h35 : h35 174 (a1).toNat = u238.1 := by rw [E_h35]; exact up_s
                            have N_h35 := mi_174 N_u50 E_h35 (by omega)
                            refine ok_if (fun C98 => ?_) (fun C98 => ?_)
                            · skip
                              unfold qj_X13_ruled_738
                              refine ok_rd (by omega) (gA_171 Y_h35.1) ?_; intro v28 e_v28 a_v28 b_v28
                              have t_v28 : v28 = t 171 (a1).toNat := by rw [e_v28]; exact Y_h35.2.1 171 _ (nw_ar rfl _)
                              have qc99 := (te_s9 T (by omega)).2.2.1; rw [← t_v28] at qc99; obtain ⟨⟨xc99, yc99, zc99⟩, c99⟩ := qc99
                              have wc99 := (te_s9 T (by omega)).2.2.2; rw [← t_v28] at wc99
                              refine ok_sv (G v28 _ _ h35 Y_h35 N_h35 c99 (by omega) (by omega) (by omega) (by omega) (by omega)) ?_; intro u30 P_u30
                              obtain ⟨Y_u30, N_u30, ⟨⟨k2_u30, k3_u30, k4_u30, k5_u30, k6_u30⟩, k1_u30, k7_u30⟩, r1_u30⟩ := P_u30
                              refine ok_xl ?_; intro h31 E_h31
                              obtain ⟨Y_h31, ⟨k1_h31, k2_h31, k3_h31, k4_h31, k5_h31, k6_h31, k7_h31⟩, j_h31⟩ := yi_50 Y_u30 (by omega) E_h31
                              have N_h31 := mi_fd N_u30 E_h31 (by decide)
                              refine ok_if (fun C100 => ?_) (fun C100 => ?_)
                              · skip
                                exact ok_ret (qu_mk Y_h31 N_h31 (by omega) (by omega) (by omega) (by omega))
                              · skip
                                refine ok_if (fun C101 => ?_) (fun C101 => ?_)
                                · skip
                                  exact ok_ret (qu_mk Y_h31 N_h31 (by omega) (by omega) (by omega) (by omega))
                                · skip
                                  exact ok_ret (qu_mk Y_h31 N_h31 (by omega) (by omega) (by omega) (by omega))
                            · skip
                              refine ok_rd (by omega) (gA_176 Y_h35.1) ?_; intro v38 e_v38 a_v38 b_v38
                              have p_v38 := (te_s9 T (by omega)).1; rw [← Y_h35.2.2.2.2.1.1 _ (by omega), ← e_v38] at p_v38
                              refine ok_sv (vy_come hn S Y_h35 (by omega) (by omega) (by omega)) ?_; intro u40 P_u40
                              obtain ⟨Y_u40, ⟨k1_u40, k2_u40, k3_u40, k4_u40, k5_u40, k6_u40, k7_u40⟩, j_u40, n_u40⟩ := P_u40
                              have N_u40 := n_u40 N_h35
                              unfold qj_X13_ruled_738
                              refine ok_rd (by omega) (gA_171 Y_u40.1) ?_; intro v28 e_v28 a_v28 b_v28
                              have t_v28 : v28 = t 171 (a1).toNat := by rw [e_v28]; exact Y_u40.2.1 171 _ (nw_ar rfl _)
                              have qc102 := (te_s9 T (by omega)).2.2.1; rw [← t_v28] at qc102; obtain ⟨⟨xc102, yc102, zc102⟩, c102⟩ := qc102
                              have wc102 := (te_s9 T (by omega)).2.2.2; rw [← t_v28] at wc102
                              refine ok_sv (G v28 _ _ u40 Y_u40 N_u40 c102 (by omega) (by omega) (by omega) (by omega) (by omega)) ?_; intro u30 P_u30
                              obtain ⟨Y_u30, N_u30, ⟨⟨k2_u30, k3_u30, k4_u30, k5_u30, k6_u30⟩, k1_u30, k7_u30⟩, r1_u30⟩ := P_u30
                              refine ok_xl ?_; intro h31 E_h31
                              obtain ⟨Y_h31, ⟨k1_h31, k2_h31, k3_h31, k4_h31, k5_h31, k6_h31, k7_h31⟩, j_h31⟩ := yi_50 Y_u30 (by omega) E_h31
                              have N_h31 := mi_fd N_u30 E_h31 (by decide)
                              refine ok_if (fun C103 => ?_) (fun C103 => ?_)
                              · skip
                                exact ok_ret (qu_mk Y_h31 N_h31 (by omega) (by omega) (by omega) (by omega))
                              · skip
                                refine ok_if (fun C104 => ?_) (fun C104 => ?_)
                                · skip
                                  exact ok_ret (qu_mk Y_h31 N_h31 (by omega) (by omega) (by omega) (by omega))
                                · skip
                                  exact ok_ret (qu_mk Y_h31 N_h31 (by omega) (by omega) (by omega) (by omega))
                    · skip
                      refine ok_if (fun C105 => ?_) (fun C105 => ?_)
                      · skip
                        refine ok_rd (by omega) (gA_170 Y0.1) ?_; intro v247 e_v247 a_v247 b_v247
                        have t_v247 : v247 = t 170 (a1).toNat := by rw [e_v247]; exact Y0.2.1 170 _ (nw_ar rfl _)
                        have c106 : TE 1 t 0 (RE 1 1) (a1 + 1) b v247 := by rw [t_v247]; exact te_s8 T (by omega)
                        have rc106 := te_rg c106
                        refine ok_sv (ge_given hn S Y0 N0 c106 (by omega) (by omega) (by omega)) ?_; intro u249 P_u249
                        obtain ⟨Y_u249, N_u249, K_u249, r1_u249, r2_u249, r3_u249, r4_u249⟩ := P_u249
                        obtain ⟨k1_u249, k2_u249, k3_u249, k4_u249, k5_u249, k6_u249, k7_u249⟩ := K_u249.1
                        refine ok_if (fun C107 => ?_) (fun C107 => ?_)
                        · skip
                          exact ok_ret (qu_mk Y_u249 N_u249 (by omega) (by omega) (by omega) (by omega))
                        · skip
                          refine ok_rd (by omega) (gA_168 Y_u249.1) ?_; intro v251 e_v251 a_v251 b_v251
                          have t_v251 : v251 = t 168 (a1).toNat := by rw [e_v251]; exact Y_u249.2.1 168 _ (nw_ar rfl _)
                          refine ok_sv (vy_wrong hn Y_u249 (by omega) (by omega)) ?_; intro u253 P_u253
                          obtain ⟨Y_u253, K_u253, x_u253⟩ := P_u253
                          obtain ⟨k1_u253, k2_u253, k3_u253, k4_u253, k5_u253, k6_u253, k7_u253⟩ := K_u253.1
                          have N_u253 : MI t u253 := mi_dead x_u253
                          exact ok_ret (qu_mk Y_u253 N_u253 (by omega) (by omega) (by omega) (by omega))
                      · skip
                        refine ok_if (fun C108 => ?_) (fun C108 => ?_)
                        · skip
                          refine ok_rd (by omega) (gA_170 Y0.1) ?_; intro v258 e_v258 a_v258 b_v258
                          have t_v258 : v258 = t 170 (a1).toNat := by rw [e_v258]; exact Y0.2.1 170 _ (nw_ar rfl _)
                          have c109 : TE 1 t 0 (RE 1 1) (a1 + 1) b v258 := by rw [t_v258]; exact te_s8 T (by omega)
                          have rc109 := te_rg c109
                          refine ok_rd (by omega) (gA_177 Y0.1) ?_; intro v259 e_v259 a_v259 b_v259
                          have t_v259 : v259 = t 177 (v258).toNat := by rw [e_v259]; exact Y0.2.1 177 _ (nw_ar rfl _)
                          refine ok_if (fun C110 => ?_) (fun C110 => ?_)
                          · skip
                            refine ok_rd (by omega) (gA_170 Y0.1) ?_; intro v261 e_v261 a_v261 b_v261
                            have t_v261 : v261 = t 170 (a1).toNat := by rw [e_v261]; exact Y0.2.1 170 _ (nw_ar rfl _)
                            have d_v261 : v258 = v261 := by rw [t_v261, t_v258]
                            subst d_v261
                            refine ok_sv (ge_worked hn S Y0 N0 c109 (by omega) (by omega) (by omega)) ?_; intro u263 P_u263
                            obtain ⟨Y_u263, N_u263, K_u263, r1_u263, r2_u263, r3_u263, r4_u263⟩ := P_u263
                            obtain ⟨k1_u263, k2_u263, k3_u263, k4_u263, k5_u263, k6_u263, k7_u263⟩ := K_u263.1
                            unfold qj_X13_ruled_840
                            refine ok_wA (by omega) ?_; intro h11 E_h11
                            obtain ⟨Y_h11, K_h11⟩ := yi_174 Y_u263 (by omega) (by omega) E_h11
                            obtain ⟨k1_h11, k2_h11, k3_h11, k4_h11, k5_h11, k6_h11, k7_h11⟩ := K_h11.1
                            have s_h11 : h11 174 (a1).toNat = u263.1 := by rw [E_h11]; exact up_s
                            have N_h11 := mi_174 N_u263 E_h11 (by omega)
                            refine ok_rd (by omega) (gA_170 Y_h11.1) ?_; intro v14 e_v14 a_v14 b_v14
                            have t_v14 : v14 = t 170 (a1).toNat := by rw [e_v14]; exact Y_h11.2.1 170 _ (nw_ar rfl _)
                            have d_v14 : v258 = v14 := by rw [t_v14, t_v258]
                            subst d_v14
                            refine ok_rd (by omega) (gA_177 Y_h11.1) ?_; intro v15 e_v15 a_v15 b_v15
                            have t_v15 : v15 = t 177 (v258).toNat := by rw [e_v15]; exact Y_h11.2.1 177 _ (nw_ar rfl _)
                            have d_v15 : v259 = v15 := by rw [t_v15, t_v259]
                            subst d_v15
                            refine ok_if (fun C111 => ?_) (fun C111 => ?_)
                            · skip
                              unfold qj_X13_ruled_887
                              refine ok_rd (by omega) (gA_170 Y_h11.1) ?_; intro v7 e_v7 a_v7 b_v7
                              have t_v7 : v7 = t 170 (a1).toNat := by rw [e_v7]; exact Y_h11.2.1 170 _ (nw_ar rfl _)
                              have d_v7 : v258 = v7 := by rw [t_v7, t_v258]
                              subst d_v7
                              refine ok_rd (by omega) (gA_169 Y_h11.1) ?_; intro v8 e_v8 a_v8 b_v8
                              have t_v8 : v8 = t 169 (v258).toNat := by rw [e_v8]; exact Y_h11.2.1 169 _ (nw_ar rfl _)
                              refine ok_sv (vy_wrong hn Y_h11 (by omega) (by omega)) ?_; intro u10 P_u10
                              obtain ⟨Y_u10, K_u10, x_u10⟩ := P_u10
                              obtain ⟨k1_u10, k2_u10, k3_u10, k4_u10, k5_u10, k6_u10, k7_u10⟩ := K_u10.1
                              have N_u10 : MI t u10 := mi_dead x_u10
                              exact ok_ret (qu_mk Y_u10 N_u10 (by omega) (by omega) (by omega) (by omega))
                            · skip
                              refine ok_rd (by omega) (gA_170 Y_h11.1) ?_; intro v18 e_v18 a_v18 b_v18
                              have t_v18 : v18 = t 170 (a1).toNat := by rw [e_v18]; exact Y_h11.2.1 170 _ (nw_ar rfl _)
                              have d_v18 : v258 = v18 := by rw [t_v18, t_v258]
                              subst d_v18
                              refine ok_rd (by omega) (gA_167 Y_h11.1) ?_; intro v19 e_v19 a_v19 b_v19
                              have t_v19 : v19 = t 167 (v258).toNat := by rw [e_v19]; exact Y_h11.2.1 167 _ (nw_ar rfl _)
                              refine ok_if (fun C112 => ?_) (fun C112 => ?_)
                              · skip
                                exact ok_ret (qu_mk Y_h11 N_h11 (by omega) (by omega) (by omega) (by omega))
                              · skip
                                refine ok_rd (by omega) (gA_170 Y_h11.1) ?_; intro v22 e_v22 a_v22 b_v22
                                have t_v22 : v22 = t 170 (a1).toNat := by rw [e_v22]; exact Y_h11.2.1 170 _ (nw_ar rfl _)
                                have d_v22 : v258 = v22 := by rw [t_v22, t_v258]
                                subst d_v22
                                refine ok_rd (by omega) (gA_167 Y_h11.1) ?_; intro v23 e_v23 a_v23 b_v23
                                have t_v23 : v23 = t 167 (v258).toNat := by rw [e_v23]; exact Y_h11.2.1 167 _ (nw_ar rfl _)
                                have d_v23 : v19 = v23 := by rw [t_v23, t_v19]
                                subst d_v23
                                refine ok_if (fun C113 => ?_) (fun C113 => ?_)
                                · skip
                                  exact ok_ret (qu_mk Y_h11 N_h11 (by omega) (by omega) (by omega) (by omega))
                                · skip
                                  unfold qj_X13_ruled_887
                                  refine ok_rd (by omega) (gA_170 Y_h11.1) ?_; intro v7 e_v7 a_v7 b_v7
                                  have t_v7 : v7 = t 170 (a1).toNat := by rw [e_v7]; exact Y_h11.2.1 170 _ (nw_ar rfl _)
                                  have d_v7 : v258 = v7 := by rw [t_v7, t_v258]
                                  subst d_v7
                                  refine ok_rd (by omega) (gA_169 Y_h11.1) ?_; intro v8 e_v8 a_v8 b_v8
                                  have t_v8 : v8 = t 169 (v258).toNat := by rw [e_v8]; exact Y_h11.2.1 169 _ (nw_ar rfl _)
                                  refine ok_sv (vy_wrong hn Y_h11 (by omega) (by omega)) ?_; intro u10 P_u10
                                  obtain ⟨Y_u10, K_u10, x_u10⟩ := P_u10
                                  obtain ⟨k1_u10, k2_u10, k3_u10, k4_u10, k5_u10, k6_u10, k7_u10⟩ := K_u10.1
                                  have N_u10 : MI t u10 := mi_dead x_u10
                                  exact ok_ret (qu_mk Y_u10 N_u10 (by omega) (by omega) (by omega) (by omega))
                          · skip
                            refine ok_rd (by omega) (gA_170 Y0.1) ?_; intro v265 e_v265 a_v265 b_v265
                            have t_v265 : v265 = t 170 (a1).toNat := by rw [e_v265]; exact Y0.2.1 170 _ (nw_ar rfl _)
                            have d_v265 : v258 = v265 := by rw [t_v265, t_v258]
                            subst d_v265
                            refine ok_sv (ge_given hn S Y0 N0 c109 (by omega) (by omega) (by omega)) ?_; intro u267 P_u267
                            obtain ⟨Y_u267, N_u267, K_u267, r1_u267, r2_u267, r3_u267, r4_u267⟩ := P_u267
                            obtain ⟨k1_u267, k2_u267, k3_u267, k4_u267, k5_u267, k6_u267, k7_u267⟩ := K_u267.1
                            unfold qj_X13_ruled_840
                            refine ok_wA (by omega) ?_; intro h11 E_h11
                            obtain ⟨Y_h11, K_h11⟩ := yi_174 Y_u267 (by omega) (by omega) E_h11
                            obtain ⟨k1_h11, k2_h11, k3_h11, k4_h11, k5_h11, k6_h11, k7_h11⟩ := K_h11.1
                            have s_h11 : h11 174 (a1).toNat = u267.1 := by rw [E_h11]; exact up_s
                            have N_h11 := mi_174 N_u267 E_h11 (by omega)
                            refine ok_rd (by omega) (gA_170 Y_h11.1) ?_; intro v14 e_v14 a_v14 b_v14
                            have t_v14 : v14 = t 170 (a1).toNat := by rw [e_v14]; exact Y_h11.2.1 170 _ (nw_ar rfl _)
                            have d_v14 : v258 = v14 := by rw [t_v14, t_v258]
                            subst d_v14
                            refine ok_rd (by omega) (gA_177 Y_h11.1) ?_; intro v15 e_v15 a_v15 b_v15
                            have t_v15 : v15 = t 177 (v258).toNat := by rw [e_v15]; exact Y_h11.2.1 177 _ (nw_ar rfl _)
                            have d_v15 : v259 = v15 := by rw [t_v15, t_v259]
                            subst d_v15
                            refine ok_if (fun C114 => ?_) (fun C114 => ?_)
                            · skip
                              unfold qj_X13_ruled_887
                              refine ok_rd (by omega) (gA_170 Y_h11.1) ?_; intro v7 e_v7 a_v7 b_v7
                              have t_v7 : v7 = t 170 (a1).toNat := by rw [e_v7]; exact Y_h11.2.1 170 _ (nw_ar rfl _)
                              have d_v7 : v258 = v7 := by rw [t_v7, t_v258]
                              subst d_v7
                              refine ok_rd (by omega) (gA_169 Y_h11.1) ?_; intro v8 e_v8 a_v8 b_v8
                              have t_v8 : v8 = t 169 (v258).toNat := by rw [e_v8]; exact Y_h11.2.1 169 _ (nw_ar rfl _)
                              refine ok_sv (vy_wrong hn Y_h11 (by omega) (by omega)) ?_; intro u10 P_u10
                              obtain ⟨Y_u10, K_u10, x_u10⟩ := P_u10
                              obtain ⟨k1_u10, k2_u10, k3_u10, k4_u10, k5_u10, k6_u10, k7_u10⟩ := K_u10.1
                              have N_u10 : MI t u10 := mi_dead x_u10
                              exact ok_ret (qu_mk Y_u10 N_u10 (by omega) (by omega) (by omega) (by omega))
                            · skip
                              refine ok_rd (by omega) (gA_170 Y_h11.1) ?_; intro v18 e_v18 a_v18 b_v18
                              have t_v18 : v18 = t 170 (a1).toNat := by rw [e_v18]; exact Y_h11.2.1 170 _ (nw_ar rfl _)
                              have d_v18 : v258 = v18 := by rw [t_v18, t_v258]
                              subst d_v18
                              refine ok_rd (by omega) (gA_167 Y_h11.1) ?_; intro v19 e_v19 a_v19 b_v19
                              have t_v19 : v19 = t 167 (v258).toNat := by rw [e_v19]; exact Y_h11.2.1 167 _ (nw_ar rfl _)
                              refine ok_if (fun C115 => ?_) (fun C115 => ?_)
                              · skip
                                exact ok_ret (qu_mk Y_h11 N_h11 (by omega) (by omega) (by omega) (by omega))
                              · skip
                                refine ok_rd (by omega) (gA_170 Y_h11.1) ?_; intro v22 e_v22 a_v22 b_v22
                                have t_v22 : v22 = t 170 (a1).toNat := by rw [e_v22]; exact Y_h11.2.1 170 _ (nw_ar rfl _)
                                have d_v22 : v258 = v22 := by rw [t_v22, t_v258]
                                subst d_v22
                                refine ok_rd (by omega) (gA_167 Y_h11.1) ?_; intro v23 e_v23 a_v23 b_v23
                                have t_v23 : v23 = t 167 (v258).toNat := by rw [e_v23]; exact Y_h11.2.1 167 _ (nw_ar rfl _)
                                have d_v23 : v19 = v23 := by rw [t_v23, t_v19]
                                subst d_v23
                                refine ok_if (fun C116 => ?_) (fun C116 => ?_)
                                · skip
                                  exact ok_ret (qu_mk Y_h11 N_h11 (by omega) (by omega) (by omega) (by omega))
                                · skip
                                  unfold qj_X13_ruled_887
                                  refine ok_rd (by omega) (gA_170 Y_h11.1) ?_; intro v7 e_v7 a_v7 b_v7
                                  have t_v7 : v7 = t 170 (a1).toNat := by rw [e_v7]; exact Y_h11.2.1 170 _ (nw_ar rfl _)
                                  have d_v7 : v258 = v7 := by rw [t_v7, t_v258]
                                  subst d_v7
                                  refine ok_rd (by omega) (gA_169 Y_h11.1) ?_; intro v8 e_v8 a_v8 b_v8
                                  have t_v8 : v8 = t 169 (v258).toNat := by rw [e_v8]; exact Y_h11.2.1 169 _ (nw_ar rfl _)
                                  refine ok_sv (vy_wrong hn Y_h11 (by omega) (by omega)) ?_; intro u10 P_u10
                                  obtain ⟨Y_u10, K_u10, x_u10⟩ := P_u10
                                  obtain ⟨k1_u10, k2_u10, k3_u10, k4_u10, k5_u10, k6_u10, k7_u10⟩ := K_u10.1
                                  have N_u10 : MI t u10 := mi_dead x_u10
                                  exact ok_ret (qu_mk Y_u10 N_u10 (by omega) (by omega) (by omega) (by omega))
                        · skip
                          refine ok_rd (by omega) (gA_170 Y0.1) ?_; intro v160 e_v160 a_v160 b_v160
                          have t_v160 : v160 = t 170 (a1).toNat := by rw [e_v160]; exact Y0.2.1 170 _ (nw_ar rfl _)
                          have c117 : TE 1 t 0 (RE 1 1) (a1 + 1) b v160 := by rw [t_v160]; exact (te_s12 T (by omega)).1
                          have rc117 := te_rg c117
                          refine ok_sv (ge_given hn S Y0 N0 c117 (by omega) (by omega) (by omega)) ?_; intro u162 P_u162
                          obtain ⟨Y_u162, N_u162, K_u162, r1_u162, r2_u162, r3_u162, r4_u162⟩ := P_u162
                          obtain ⟨k1_u162, k2_u162, k3_u162, k4_u162, k5_u162, k6_u162, k7_u162⟩ := K_u162.1
                          refine ok_rd (by omega) (gA_171 Y_u162.1) ?_; intro v164 e_v164 a_v164 b_v164
                          have t_v164 : v164 = t 171 (a1).toNat := by rw [e_v164]; exact Y_u162.2.1 171 _ (nw_ar rfl _)
                          have c118 : TE 1 t 0 (RE 1 1) (a1 + 1) b v164 := by rw [t_v164]; exact (te_s12 T (by omega)).2
                          have rc118 := te_rg c118
                          refine ok_sv (ge_given hn S Y_u162 N_u162 c118 (by omega) (by omega) (by omega)) ?_; intro u166 P_u166
                          obtain ⟨Y_u166, N_u166, K_u166, r1_u166, r2_u166, r3_u166, r4_u166⟩ := P_u166
                          obtain ⟨k1_u166, k2_u166, k3_u166, k4_u166, k5_u166, k6_u166, k7_u166⟩ := K_u166.1
                          refine ok_rd (by omega) (gA_170 Y_u166.1) ?_; intro v168 e_v168 a_v168 b_v168
                          have t_v168 : v168 = t 170 (a1).toNat := by rw [e_v168]; exact Y_u166.2.1 170 _ (nw_ar rfl _)
                          have d_v168 : v160 = v168 := by rw [t_v168, t_v160]
                          subst d_v168
                          refine ok_sv (vy_canTake hn S Y_u166  (by omega)) ?_; intro u170 P_u170
                          refine ok_if (fun C119 => ?_) (fun C119 => ?_)
                          · skip
                            unfold qj_X13_ruled_954
                            refine ok_rd (by omega) (gA_168 Y_u166.1) ?_; intro v2 e_v2 a_v2 b_v2
                            have t_v2 : v2 = t 168 (a1).toNat := by rw [e_v2]; exact Y_u166.2.1 168 _ (nw_ar rfl _)
                            refine ok_sv (vy_wrong hn Y_u166 (by omega) (by omega)) ?_; intro u4 P_u4
                            obtain ⟨Y_u4, K_u4, x_u4⟩ := P_u4
                            obtain ⟨k1_u4, k2_u4, k3_u4, k4_u4, k5_u4, k6_u4, k7_u4⟩ := K_u4.1
                            have N_u4 : MI t u4 := mi_dead x_u4
                            exact ok_ret (qu_mk Y_u4 N_u4 (by omega) (by omega) (by omega) (by omega))
                          · skip
                            refine ok_sv (vy_fits hn Y_u166 S (by omega) (by omega)) ?_; intro u172 P_u172
                            refine ok_if (fun C120 => ?_) (fun C120 => ?_)
                            · skip
                              exact ok_ret (qu_mk Y_u166 N_u166 (by omega) (by omega) (by omega) (by omega))
                            · skip
                              unfold qj_X13_ruled_954
                              refine ok_rd (by omega) (gA_168 Y_u166.1) ?_; intro v2 e_v2 a_v2 b_v2
                              have t_v2 : v2 = t 168 (a1).toNat := by rw [e_v2]; exact Y_u166.2.1 168 _ (nw_ar rfl _)
                              refine ok_sv (vy_wrong hn Y_u166 (by omega) (by omega)) ?_; intro u4 P_u4
                              obtain ⟨Y_u4, K_u4, x_u4⟩ := P_u4
                              obtain ⟨k1_u4, k2_u4, k3_u4, k4_u4, k5_u4, k6_u4, k7_u4⟩ := K_u4.1
                              have N_u4 : MI t u4 := mi_dead x_u4
                              exact ok_ret (qu_mk Y_u4 N_u4 (by omega) (by omega) (by omega) (by omega))
  · skip
    exact ok_ret (qu_mk Y0 N0 (by omega) (by omega) (by omega) (by omega))
theorem gu_all {nn : Nat} (hn : 1000000 ≤ nn) {t : ms_M} (S : SF t) : ∀ n : Nat, GU t (n : Int) (qg_X13_ruled nn n) := by
  intro n
  induction n with
  | zero => intro s d b h _ _ T _ hg; have := te_sk T; exfalso; omega
  | succ n G =>
    intro s d b h Y N T hb hg h57 hs h54
    exact vr_ruled hn S Y N G T hb (by omega) h57 hs h54
theorem ge_ruled {nn : Nat} (hn : 1000000 ≤ nn) {t h : ms_M} (S : SF t) {s d b : Int} (Y : YI t h) (N : MI t h) (T : TE 1 t 2 d s b s) (hb : b ≤ t 160 22) (hd : d ≤ 90) (h57 : h 160 57 = 0) (hs : 2 * h 160 50 ≤ 12 + t 169 s.toNat) (h54 : h 160 54 + d ≤ 90) : Ok_ (qf_X13_ruled nn s h) (QU t s h) := by
  unfold qf_X13_ruled
  exact gu_all hn S 200 s d b h Y N T hb (by omega) h57 hs h54
