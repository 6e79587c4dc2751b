/- LOAD, KEEP AND PATCH KEEP THE INVARIANT OF THE CLASS -/
section
variable {nn : Nat} {h g z : ms_M} {p q : Int}
theorem rl_14 : ∀ (k : Nat) (l : Int) {h : ms_M}, Pc (qw_X7_relate_14 nn k l h) (fun r => r 56 4 = h 56 4) := by
  intro k
  induction k with
  | zero => intro l h; exact pc_none
  | succ k ih =>
    intro l h
    unfold qw_X7_relate_14
    refine pc_if (fun _ => pc_se (fun u4 e4 => pc_ret ((ff_X4_settle nn (a0 := 57) rfl) _ e4 56 4 ⟨by decide, by decide⟩))) (fun _ => ?_)
    refine pc_rA (fun _ _ _ _ => pc_ck (fun _ => pc_ck (fun _ => pc_xl (fun _ _ => pc_rA (fun _ _ _ _ => pc_rA (fun _ _ _ _ => pc_ck (fun _ => pc_ck (fun _ => pc_se (fun _ _ => pc_rA (fun _ _ _ _ => pc_ck (fun _ => pc_ck (fun _ => pc_se (fun _ _ => pc_ck (fun _ => pc_se (fun u25 _ => pc_se (fun u27 e27 => pc_xl (fun _ _ => pc_imp (ih _) (fun r Q => ?_))))))))))))))))))
    rw [Q]
    exact (ff_X4_setAbove nn (a0 := 57) rfl) _ e27 56 4 ⟨by decide, by decide⟩
theorem rl_4 : Pc (qf_X7_relate nn h) (fun r => r 56 4 = 0) := by
  unfold qf_X7_relate
  refine pc_xl (fun h30 e30 => pc_se (fun u33 e33 => pc_imp (rl_14 _ _) (fun r Q => ?_)))
  rw [Q, show u33 56 4 = h30 56 4 from (ff_X4_forget nn (a0 := 57) rfl) _ e33 56 4 ⟨by decide, by decide⟩, e30, up_s]
theorem rl_fr {r : ms_M} (e : qf_X7_relate nn h = some r) (c k : Nat) (hc : c ≠ 58 ∧ c ≠ 59 ∧ ¬ (c = 56 ∧ k = 4)) : r c k = h c k := by
  refine (ff_X7_relate nn) _ e c k ?_
  have w : nw_F [58, 59] [(56, 4)] false false c k = true := by
    unfold nw_F
    simp only [List.contains_cons, List.contains_nil, Bool.or_false, Bool.not_or, Bool.and_eq_true, Bool.not_eq_true', beq_eq_false_iff_ne, ne_eq, Prod.mk.injEq, Bool.not_false, Bool.true_or, and_true]
    omega
  exact w
/-- only the spare Image has changed -/
theorem kep_rd (V : VS_ h) (S : SI_ h) (J : OJ h) (F : ∀ c k, (c < (h 56 2).toNat ∨ (h 56 2).toNat + 6 < c) → g c k = h c k) : KEP h g := by
  have hb := (vi_r V).1.2
  have h0 := (vi_r V).1.1
  have g3 := gF_56_3 V
  have ib := im_at hb
  have R : ∀ c : Nat, (c = 60 ∨ c = 68 ∨ c = 148 ∨ c = 149 ∨ c = 56 ∨ c = 143) → ∀ k, g c k = h c k := fun c hc k => F c k (by omega)
  refine ⟨⟨R 60 (by omega), R 56 (by omega) 3, fun k hk => ⟨fun i j hi => ?_, fun j => ?_⟩⟩, R 68 (by omega), R 148 (by omega), R 149 (by omega), ⟨R 143 (by omega) 1, R 143 (by omega) 6, R 143 (by omega) 17, R 143 (by omega) 18, R 143 (by omega) 19⟩, R 56 (by omega) 4⟩
  · have hd := V.2.2.2.2.1 k (by omega)
    have hne : (h 60 k).toNat ≠ (h 56 2).toNat := by have := S.2.2 k (by omega); omega
    have d := im_dis hb hd.2 hne
    exact F _ _ (by omega)
  · have := (J k hk).1
    exact F _ _ (by omega)
theorem bt_pos {b : Nat} {x : Int} (e : bt h b x = 74) : (0 ≤ x ∧ x < h b 1) ∧ oq_and (h (h b 0).toNat x.toNat) 255 = 74 := by
  unfold bt at e
  split at e
  · omega
  · split at e
    · omega
    · exact ⟨by omega, e⟩
theorem bt_mk {b : Nat} {x : Int} (hx : 0 ≤ x ∧ x < h b 1) (e : oq_and (h (h b 0).toNat x.toNat) 255 = 74) : bt h b x = 74 := by
  unfold bt
  rw [if_neg (by omega), if_neg (by omega)]; exact e
theorem br_all (hn : 1000000 ≤ nn) {a1 : Nat} {a2 : Int} (V : VS_ h) (S : SI_ h) (J : OJ h) (ta : a1 < cn_M h ∧ ly_T a1 = 1) (ha : 0 ≤ a2 ∧ a2 ≤ 6000) (hc : h 900000 0 < 700000) : Pc (qf_X7_bring nn a1 a2 h) (fun r => KEP h r.2.1 ∨ (0 ≤ r.1 ∧ r.2.1 56 4 = 0 ∧ OJ r.2.1)) := by
  have hb := (vi_r V).1.2
  have h0 := (vi_r V).1.1
  have g3 := gF_56_3 V
  have ib := im_at hb
  unfold qf_X7_bring
  refine pc_ck (fun _ => pc_ck (fun _ => pc_se (fun u3 e3 => ?_)))
  have F : ∀ c k, (c < (h 56 2).toNat ∨ (h 56 2).toNat + 6 < c) → u3.2 c k = h c k := fun c k q => (of_X3_read nn hb) _ e3 c k q
  have K : KEP h u3.2 := kep_rd V S J F
  obtain ⟨x0, x74⟩ := f3_read hb ta.2 ha.1 V _ e3
  have V3 := (okof (vf_X3_read hn hb (by omega) (by omega) V ta ha) e3).1
  refine pc_if (fun c => ?_) (fun _ => pc_xl (fun _ _ => pc_ret (.inl K)))
  have x74 := x74 c
  refine pc_ck (fun _ => pc_ck (fun _ => pc_if (fun _ => pc_ret (.inl K)) (fun c8 => ?_)))
  refine pc_ck (fun _ => pc_ck (fun _ => pc_se (fun _ _ => pc_ck (fun _ => pc_se (fun _ _ => pc_se (fun u15 _ => ?_))))))
  refine pc_if (fun _ => ?_) (fun _ => pc_ret (.inl K))
  refine pc_ck (fun _ => pc_se (fun u18 e18 => pc_se (fun u21 e21 => ?_)))
  have s2 : u3.2 56 2 = h 56 2 := F 56 2 (by omega)
  have s3 : u3.2 56 3 = h 56 3 := F 56 3 (by omega)
  have s9 : cn_M u3.2 = cn_M h := by unfold cn_M; rw [F 900000 0 (by omega)]
  rw [s2] at e18
  rw [s3] at c8
  have B3 := vi_b V3 hb
  have P := bt_pos x74
  have c256 := vi_c V
  have cm : cn_M h < 700000 := by unfold cn_M; omega
  -- the copy
  have K18 : (∀ c k, c ≠ cn_M h → c < 900000 → ¬ (c = (h 56 2).toNat ∧ k = 0) → u18.1 c k = u3.2 c k) ∧ u18.1 (h 56 2).toNat 0 = (cn_M h : Int) ∧ u18.1 (cn_M h) 0 = u3.2 (u3.2 (h 56 2).toNat 0).toNat 0 := by
    unfold qf_X3_keepOwn at e18
    obtain ⟨-, e18⟩ := ck_i e18
    obtain ⟨w, ew, e18⟩ := sv_i e18
    unfold qf_J7_copyOf_9075b at ew
    split at ew
    · have ew := Option.some.inj ew
      unfold wr_R at e18
      split at e18
      · have e18 := Option.some.inj e18
        rw [← e18, ← ew]
        rw [s9]
        refine ⟨fun c k q1 q2 q3 => ?_, up_s, ?_⟩
        · dsimp only
          rw [up_n q3]
          unfold nw_M
          rw [s9, if_neg q1, if_neg (by omega), if_neg (by omega)]
        · dsimp only
          rw [up_n (by omega)]
          unfold nw_M
          rw [s9, if_pos rfl]
          dsimp only
          rw [if_pos (.inr (by have := P.1.2; have := B3.2; omega))]
      · cases e18
    · cases ew
  obtain ⟨k1, k2, k3⟩ := K18
  have t2 : u18.1 56 2 = h 56 2 := (k1 _ _ (by omega) (by omega) (by omega)).trans s2
  have t3 : u18.1 56 3 = h 56 3 := (k1 _ _ (by omega) (by omega) (by omega)).trans s3
  have i21 := (sw_i e21).2
  rw [t3, t2] at i21
  refine pc_xl (fun v23 e23 => pc_xl (fun h24 e24 => pc_se (fun u26 e26 => pc_xl (fun v28 e28 => pc_xl (fun v29 e29 => pc_ret (.inr ?_))))))
  have y3 : u21 56 3 = h 56 3 := by rw [i21, up_n (by omega), up_n (by omega)]; exact t3
  rw [y3, oq_add_eq (by omega) (by omega) (by omega)] at e23
  have z3 : u26 56 3 = h 56 3 + 1 := by rw [rl_fr e26 56 3 (by omega), e24, up_s]; exact e23
  have G : ∀ c k, c ≠ 58 ∧ c ≠ 59 ∧ c ≠ 56 → ¬ (c = 60 ∧ k = (h 56 3).toNat) → u26 c k = u18.1 c k := by
    intro c k q1 q2
    rw [rl_fr e26 c k (by omega), e24, up_n (by omega), i21, up_n (by omega), up_n q2]
  have z60 : u26 60 (h 56 3).toNat = h 56 2 := by
    rw [rl_fr e26 60 _ (by omega), e24, up_n (by omega), i21, up_n (by omega), up_s]
  refine ⟨?_, rl_4 _ e26, fun k hk => ?_⟩
  · show 0 ≤ v29
    rw [e29, e28, z3, oq_add_eq (by omega) (by omega) (by omega), oq_sub_eq (by omega) (by omega) (by omega)]; omega
  · have hk : (k : Int) < h 56 3 + 1 := by rw [← z3]; exact hk
    show 256 ≤ (u26 (u26 60 k).toNat 0).toNat ∧ bt u26 (u26 60 k).toNat 0 = 74
    by_cases e : k = (h 56 3).toNat
    · rw [e, z60]
      have y0 : u26 (h 56 2).toNat 0 = (cn_M h : Int) := (G _ _ (by omega) (by omega)).trans k2
      have y1 : u26 (h 56 2).toNat 1 = u3.2 (h 56 2).toNat 1 := (G _ _ (by omega) (by omega)).trans (k1 _ _ (by omega) (by omega) (by omega))
      refine ⟨by rw [y0]; omega, bt_mk (by rw [y1]; exact P.1) ?_⟩
      rw [y0, Int.toNat_natCast, G _ _ (by omega) (by omega)]
      show oq_and (u18.1 (cn_M h) 0) 255 = 74
      rw [k3]; exact P.2
    · have hk2 : (k : Int) < h 56 3 := by omega
      have J1 := J k hk2
      have hd := V.2.2.2.2.1 k (by omega)
      have hne : (h 60 k).toNat ≠ (h 56 2).toNat := by have := S.2.2 k (by omega); omega
      have d := im_dis hb hd.2 hne
      have id := im_at hd.2
      have all : ∀ c j, (c < (h 56 2).toNat ∨ (h 56 2).toNat + 6 < c) → c ≠ 58 ∧ c ≠ 59 ∧ c ≠ 56 → ¬ (c = 60 ∧ j = (h 56 3).toNat) → c ≠ cn_M h → c < 900000 → u26 c j = h c j := by
        intro c j q1 q2 q3 q4 q5
        rw [G c j q2 q3, k1 c j q4 q5 (by omega), F c j q1]
      have m60 : u26 60 k = h 60 k := all _ _ (by omega) (by omega) (by omega) (by omega) (by omega)
      have m0 : u26 (h 60 k).toNat 0 = h (h 60 k).toNat 0 := all _ _ (by omega) (by omega) (by omega) (by omega) (by omega)
      have m1 : u26 (h 60 k).toNat 1 = h (h 60 k).toNat 1 := all _ _ (by omega) (by omega) (by omega) (by omega) (by omega)
      have Bd := vi_b V hd.2
      have P1 := bt_pos J1.2
      rw [m60, m0]
      refine ⟨J1.1, bt_mk (by rw [m1]; exact P1.1) ?_⟩
      rw [m0, all _ _ (by omega) (by omega) (by omega) (by omega) (by omega)]
      exact P1.2
theorem cva_fg (hn : 1000000 ≤ nn) {u : ms_M} (hp : 0 ≤ p) (V : VS_ h) (N : NM_ h) (S : SI_ h) (A : ¬ h 56 4 = 0 → STC h) (J : OJ h) (e : qf_X5_forget nn h = some u) : CVa p u := by
  have D := ci_fg hn hp V N S e
  have F : SPF h u := spf_fr (fun c k w => (ff_X5_forget nn) _ e c k w) rfl
  have W := spw_of V F
  have st := (fg_st e).1
  have k4 : u 56 4 = h 56 4 := (ff_X5_forget nn) _ e 56 4 rfl
  exact ⟨D, fun q => by omega, fun q => stc_w D.1 W (fun k => (ff_X5_forget nn) _ e 68 k (nw_ar rfl k)) (A (by rw [← k4]; exact q)), oj_w W J⟩
theorem cva_load (hn : 1000000 ≤ nn) (hp : 0 ≤ p) (C : CVa p h) (hc : h 900000 0 < 700000) : Ok_ (qf_X12_load nn h) (fun r => CVa p r.2.1 ∧ QB_ (h 900000 0) r) := by
  have g := gF_0_1 C.1.1
  obtain ⟨r, er, D, Q⟩ := ci_load hn hp C.1 hc
  refine ⟨r, er, ?_, Q⟩
  have er0 := er
  unfold qf_X12_load at er
  obtain ⟨u5, e5, er⟩ := sv_i er
  have t1 : 1 < cn_M h ∧ ly_T 1 = 1 := ⟨Nat.lt_of_lt_of_le (by decide) (vi_c C.1.1), rfl⟩
  have B := br_all hn C.1.1 C.1.2.2.1 C.2.2.2 t1 (by omega) hc _ e5
  have V5 := (okof (vf_X7_bring hn (by omega) C.1.1 t1 hc) e5).1
  have S5 := si_bring hn C.1.1 C.1.2.2.1 t1 (by omega) hc e5
  have N5 : NM_ u5.2.1 := nm_eq C.1.2.1 (fun k => (ff_X7_bring nn) _ e5 7 k (nw_ar rfl k)) ((ff_X7_bring nn) _ e5 2 9 rfl)
  rw [xl_eq] at er
  have V6 : VS_ (up_M u5.2.1 0 1 0) := wF_0_1 V5 (by omega)
  have N6 : NM_ (up_M u5.2.1 0 1 0) := nm_uf N5 (by decide)
  have S6 : SI_ (up_M u5.2.1 0 1 0) := si_up V5 S5 (by omega)
  have F6 : SPF u5.2.1 (up_M u5.2.1 0 1 0) := spf_up rfl (by omega)
  have W6 := spw_of V5 F6
  have A6 : ¬ up_M u5.2.1 0 1 0 56 4 = 0 → STC (up_M u5.2.1 0 1 0) := fun q => by
    rw [up_n (by omega)] at q
    refine stc_w V6 W6 (fun k => up_n (by omega)) ?_
    rcases B with K | ⟨-, z, -⟩
    · exact stc_w V5 K.1 K.2.1 (C.2.2.1 (by rw [← K.2.2.2.2.2]; exact q))
    · exact absurd z q
  have J6 : OJ (up_M u5.2.1 0 1 0) := oj_w W6 (by
    rcases B with K | ⟨-, -, J⟩
    · exact oj_w K.1 C.2.2.2
    · exact J)
  by_cases c : u5.1 < 0
  · rw [if_pos c] at er
    cases er
    refine ⟨D, ?_, A6, J6⟩
    rcases B with K | ⟨z, -⟩
    · exact wma_mv (wma_k V5 K C.2.1) (mv0_up rfl (by omega) (by omega)) (show up_M u5.2.1 0 1 0 143 1 = u5.2.1 143 1 from up_n (by omega))
    · omega
  · rw [if_neg c] at er
    obtain ⟨u9, e9, er⟩ := sv_i er
    cases er
    exact cva_fg hn hp V6 N6 S6 A6 J6 e9
theorem cva_keep (hn : 1000000 ≤ nn) (hp : 0 ≤ p) {a1 : Int} (C : CVa p h) (hc : h 900000 0 < 700000) : Ok_ (qf_X12_keep nn a1 h) (fun r => CVa p r.2.1 ∧ QB_ (h 900000 0) r) := by
  obtain ⟨r, er, D, Q⟩ := ci_keep hn hp C.1 hc
  refine ⟨r, er, ?_, Q⟩
  unfold qf_X12_keep at er
  obtain ⟨u6, e6, er⟩ := sv_i er
  have R := okof (vf_X12_imageOf C.1.1) e6
  by_cases c : u6 < 0
  · rw [if_pos c] at er
    unfold qj_X12_keep_24 at er
    rw [if_pos (by decide)] at er
    cases er
    exact C
  · rw [if_neg c] at er
    have R := R.resolve_left c
    unfold ln_S at er
    rw [if_pos ⟨R.1, by have := R.2.1; omega⟩] at er
    obtain ⟨u12, e12, er⟩ := sv_i er
    have l0 : 0 ≤ ln_I h u6.toNat := by
      unfold ln_I
      split
      · omega
      · exact C.1.1.2.1.2 _
    have t1 : u6.toNat < cn_M h ∧ ly_T u6.toNat = 1 := ⟨R.1, R.2.1⟩
    have B := br_all hn C.1.1 C.1.2.2.1 C.2.2.2 t1 ⟨l0, R.2.2⟩ hc _ e12
    have V5 := (okof (vf_X7_bring hn ⟨l0, R.2.2⟩ C.1.1 t1 hc) e12).1
    have S5 := si_bring hn C.1.1 C.1.2.2.1 t1 ⟨l0, R.2.2⟩ hc e12
    have N5 : NM_ u12.2.1 := nm_eq C.1.2.1 (fun k => (ff_X7_bring nn) _ e12 7 k (nw_ar rfl k)) ((ff_X7_bring nn) _ e12 2 9 rfl)
    have A6 : ¬ u12.2.1 56 4 = 0 → STC u12.2.1 := fun q => by
      rcases B with K | ⟨-, z, -⟩
      · exact stc_w V5 K.1 K.2.1 (C.2.2.1 (by rw [← K.2.2.2.2.2]; exact q))
      · exact absurd z q
    have J6 : OJ u12.2.1 := by
      rcases B with K | ⟨-, -, J⟩
      · exact oj_w K.1 C.2.2.2
      · exact J
    unfold qj_X12_keep_24 at er
    by_cases c2 : u12.1 < 0
    · rw [if_pos c2] at er
      cases er
      refine ⟨D, ?_, A6, J6⟩
      rcases B with K | ⟨z, -⟩
      · exact wma_k V5 K C.2.1
      · omega
    · rw [if_neg c2] at er
      obtain ⟨u9, e9, er⟩ := sv_i er
      cases er
      exact cva_fg hn hp V5 N5 S5 A6 J6 e9
end
