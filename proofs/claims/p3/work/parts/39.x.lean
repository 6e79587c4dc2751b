theorem vs_w60 {M : ms_M} (h : VS_ M) {k : Nat} {y : Int} (h0 : 0 ≤ y) (hy : kc_O y.toNat = 3) : VS_ (up_M M 60 k y) := by
  obtain ⟨h1, h2, h3, h4, h5, h6, h7, h8⟩ := h
  have hl := kc_lt hy (by decide)
  have A : ∀ c2, c2 ≠ 60 → up_M M 60 k y c2 = M c2 := fun c2 z => up_ne c2 z
  have e9 : up_M M 60 k y 900000 = M 900000 := A _ (by omega)
  have e8 : up_M M 60 k y 900001 = M 900001 := A _ (by omega)
  have ec : cn_M (up_M M 60 k y) = cn_M M := by unfold cn_M; rw [e9]
  have el : ∀ d, ln_I (up_M M 60 k y) d = ln_I M d := by intro d; unfold ln_I; rw [e8]
  refine ⟨?_, ?_, ?_, ?_, ?_, ?_, ?_, ?_⟩
  · intro c2 k2 hc2 hk2
    by_cases w : c2 = 60 ∧ k2 = k
    · obtain ⟨rfl, rfl⟩ := w
      rw [up_s]; show -2147483648 ≤ y ∧ y ≤ 2147483647; omega
    · rw [up_n w]; exact h1 c2 k2 hc2 hk2
  · rw [e9, e8]; exact h2
  · intro b hb; rw [A b (fun e => nI_ hb (c := 60) rfl e), ec, el]; exact h3 b hb
  · intro d j hd hd2 hj
    rw [el] at hj
    rw [A d (by omega)]; exact h4 d j hd hd2 hj
  · intro j hj
    by_cases w : j = k
    · subst w; rw [up_s]; exact ⟨h0, hy⟩
    · rw [up_n (by omega)]; exact h5 j hj
  · rw [A 56 (by decide), A 127 (by decide), A 143 (by decide)]; exact h6
  · intro j hj; rw [A 43 (by decide), ec, el]; exact h7 j hj
  · intro j hj; rw [A 55 (by decide), ec, el]; exact h8 j hj
theorem vf_X7_swapSpare {nn : Nat} {a1 : Int} {h : ms_M} (a_a1 : 0 ≤ a1) (b_a1 : a1 ≤ 7) (V_h : VS_ h) : Ok_ (qf_X7_swapSpare nn a1 h) QV_ := by
  unfold qf_X7_swapSpare
  refine ok_rd60 V_h (by omega) ?_; intro v2 n_v2 k_v2
  refine ok_ck (vi_r V_h).1.1 ?_
  unfold wr_QI
  rw [if_pos ⟨⟨by omega, (vi_r V_h).1.2⟩, by omega⟩]
  dsimp only
  refine ok_wR (c := 56) (k := 2) (vs_w60 V_h (Int.natCast_nonneg _) (vi_r V_h).1.2) (.inl ⟨rfl, rfl⟩) n_v2 k_v2 ?_; intro z E_z V_z
  exact ok_rV V_z
theorem vs_nw {M : ms_M} (h : VS_ M) {y : Int} {f : Nat → Int} (hc : M 900000 0 < 700000) (hy : 0 ≤ y) (hf : ∀ k : Nat, (k : Int) < y → -128 ≤ f k ∧ f k ≤ 127) : VS_ (nw_M M y f) ∧ cn_M (nw_M M y f) = cn_M M + 1 ∧ (∀ d, d ≠ cn_M M → d < 900000 → nw_M M y f d = M d) ∧ (∀ d, d ≠ cn_M M → ln_I (nw_M M y f) d = ln_I M d) ∧ ln_I (nw_M M y f) (cn_M M) = y := by
  obtain ⟨h1, ⟨⟨h2a, h2b⟩, h2c⟩, h3, h4, h5, h6, h7, h8⟩ := h
  have hn : (cn_M M : Int) = M 900000 0 := by unfold cn_M; omega
  have A : ∀ d, d ≠ cn_M M → d < 900000 → nw_M M y f d = M d := by
    intro d hd hd9
    funext k
    unfold nw_M
    rw [if_neg hd, if_neg (by omega), if_neg (by omega)]
  have e9 : nw_M M y f 900000 0 = M 900000 0 + 1 := by
    unfold nw_M; rw [if_neg (by omega), if_pos ⟨rfl, rfl⟩]
  have e8 : ∀ k, nw_M M y f 900001 k = if k = cn_M M then y else M 900001 k := by
    intro k
    unfold nw_M
    rw [if_neg (by omega), if_neg (by omega)]
    by_cases w : k = cn_M M
    · rw [if_pos ⟨rfl, w⟩, if_pos w]
    · rw [if_neg (fun z => w z.2), if_neg w]
  have ec : cn_M (nw_M M y f) = cn_M M + 1 := by unfold cn_M; rw [e9]; omega
  have el : ∀ d, d ≠ cn_M M → ln_I (nw_M M y f) d = ln_I M d := by
    intro d hd; unfold ln_I; rw [e8, if_neg hd]
  have el2 : ln_I (nw_M M y f) (cn_M M) = y := by
    unfold ln_I; rw [if_neg (by omega), e8, if_pos rfl]
  have eN : ∀ k, nw_M M y f (cn_M M) k = f k := by intro k; unfold nw_M; rw [if_pos rfl]
  have S : ∀ d, d < 256 → nw_M M y f d = M d := fun d hd => A d (by omega) (by omega)
  refine ⟨⟨?_, ?_, ?_, ?_, ?_, ?_, ?_, ?_⟩, ec, A, el, el2⟩
  · intro c2 k2 hc2 hk2; rw [S c2 hc2]; exact h1 c2 k2 hc2 hk2
  · refine ⟨by rw [e9]; omega, fun c => ?_⟩
    rw [e8]; split
    · exact hy
    · exact h2c c
  · intro b hb
    obtain ⟨⟨g1, g2, g3⟩, g4⟩ := h3 b hb
    rw [S b (kc_lt hb (by decide)), ec, el _ (by omega)]
    exact ⟨⟨g1, by omega, g3⟩, g4⟩
  · intro d j hd hd2 hj
    by_cases w : d = cn_M M
    · subst w; rw [el2] at hj; rw [eN]; exact hf j hj
    · rw [el d w] at hj; rw [A d w hd2]; exact h4 d j hd hd2 hj
  · intro j hj; rw [S 60 (by decide)]; exact h5 j hj
  · rw [S 56 (by decide), S 127 (by decide), S 143 (by decide)]; exact h6
  · intro j hj q; rw [S 43 (by decide)] at q ⊢; have := h7 j hj q; rw [ec, el _ (by omega)]; exact ⟨by omega, this.2⟩
  · intro j hj q; rw [S 55 (by decide)] at q ⊢; have := h8 j hj q; rw [ec, el _ (by omega)]; exact ⟨by omega, this.2⟩
theorem vs_b0 {M : ms_M} (h : VS_ M) {b a : Nat} (hb : kc_O b = 3) (ha : a < cn_M M ∧ ly_T a = 1) (hl : M b 1 ≤ ln_I M a) : VS_ (up_M M b 0 ((a : Nat) : Int)) := by
  have g1 := gI_1 h hb
  have := vs_rd h hb ha g1 hl
  have e : up_M (up_M M b 0 ((a : Nat) : Int)) b 1 (M b 1) = up_M M b 0 ((a : Nat) : Int) := by
    funext c k
    by_cases w : c = b ∧ k = 1
    · obtain ⟨rfl, rfl⟩ := w; rw [up_s, up_n (by omega)]
    · rw [up_n w]
  rw [e] at this; exact this
theorem vf_X3_keepOwn {nn : Nat} {b : Nat} {h : ms_M} (hb : kc_O b = 3) (V : VS_ h) (hc : h 900000 0 < 700000) : Ok_ (qf_X3_keepOwn nn b h) (fun r => VS_ r.1 ∧ r.1 900000 0 = h 900000 0 + 1 ∧ (∀ c k, c < 256 → ¬ (c = b ∧ k = 0) → r.1 c k = h c k) ∧ r.2.1 ≤ 1 ∧ r.2.2 ≤ 6000) := by
  obtain ⟨⟨d1, d2, d3⟩, d4⟩ := vi_b V hb
  have g1 := gI_1 V hb
  have hM := V.2.1.1
  have hb2 := kc_lt hb (by decide)
  unfold qf_X3_keepOwn
  refine ok_ck d1 ?_
  unfold qf_J7_copyOf_9075b
  rw [if_pos ⟨⟨d2, d3⟩, ⟨hM.1, hc⟩, by omega, by omega⟩, mx_svs]
  obtain ⟨n1, n2, n3, n4, n5⟩ := vs_nw V (y := h b 1) (f := fun i => if h b 1 = ln_I h (h b 0).toNat ∨ (i : Int) < h b 1 ∧ (i : Int) < ln_I h (h b 0).toNat then h (h b 0).toNat i else 0) hc g1.1 (by
    intro k hk
    show _ ≤ (if _ then _ else (0 : Int)) ∧ (if _ then _ else (0 : Int)) ≤ _
    split
    · exact vi_y V d2 d3 (by omega)
    · omega)
  have hcn : (cn_M h : Int) = h 900000 0 := by unfold cn_M; omega
  have e1 : nw_M h (h b 1) (fun i => if h b 1 = ln_I h (h b 0).toNat ∨ (i : Int) < h b 1 ∧ (i : Int) < ln_I h (h b 0).toNat then h (h b 0).toNat i else 0) b 1 = h b 1 := by rw [n3 b (by omega) (by omega)]
  have e9 : nw_M h (h b 1) (fun i => if h b 1 = ln_I h (h b 0).toNat ∨ (i : Int) < h b 1 ∧ (i : Int) < ln_I h (h b 0).toNat then h (h b 0).toNat i else 0) 900000 0 = h 900000 0 + 1 := by
    unfold nw_M; rw [if_neg (by omega), if_pos ⟨rfl, rfl⟩]
  have hV := vs_b0 n1 hb (a := cn_M h) ⟨by omega, ly_Tbig (by omega)⟩ (by rw [n5, e1]; omega)
  unfold wr_R
  rw [if_pos (by show -2147483648 ≤ ((cn_M h : Nat) : Int) ∧ ((cn_M h : Nat) : Int) ≤ 2147483647; omega)]
  refine ok_ret ⟨hV, ?_, ?_, ?_, ?_⟩
  · show up_M (nw_M h (h b 1) (fun i => if h b 1 = ln_I h (h b 0).toNat ∨ (i : Int) < h b 1 ∧ (i : Int) < ln_I h (h b 0).toNat then h (h b 0).toNat i else 0)) b 0 _ 900000 0 = _
    rw [up_n (by omega)]; exact e9
  · intro c k hc2 hck
    show up_M (nw_M h (h b 1) (fun i => if h b 1 = ln_I h (h b 0).toNat ∨ (i : Int) < h b 1 ∧ (i : Int) < ln_I h (h b 0).toNat then h (h b 0).toNat i else 0)) b 0 _ c k = _
    rw [up_n hck, n3 c (by omega) (by omega)]
  · show 0 + (0 + 1) ≤ 1; omega
  · show 0 + (0 + (h b 1).toNat) ≤ 6000; omega
theorem c1_keep {nn b : Nat} {h : ms_M} {u : ms_M × Nat × Nat} (e : qf_X3_keepOwn nn b h = some u) : u.2.1 = 1 := by
  unfold qf_X3_keepOwn at e
  obtain ⟨-, e⟩ := ck_i e
  obtain ⟨w, e1, e⟩ := sv_i e
  unfold qf_J7_copyOf_9075b at e1
  split at e1
  · have e1 := Option.some.inj e1
    unfold wr_R at e
    split at e
    · have e := Option.some.inj e
      subst e1; subst e; rfl
    · cases e
  · cases e1
/-- what bring gives: an answer, at most one new row of at most 6000 bytes -/
def QB_ (n0 : Int) : Int × ms_M × Nat × Nat → Prop := fun r => VS_ r.2.1 ∧ (-6302 ≤ r.1 ∧ r.1 ≤ 15) ∧ (n0 ≤ r.2.1 900000 0 ∧ r.2.1 900000 0 ≤ n0 + (r.2.2.1 : Int)) ∧ r.2.2.1 ≤ 1 ∧ r.2.2.2 ≤ 6000
theorem vf_X7_bring {nn : Nat} (hn : 1000000 ≤ nn) {a1 : Nat} {a2 : Int} {h : ms_M} (r_a2 : 0 ≤ a2 ∧ a2 ≤ 6000) (V_h : VS_ h) (t_a1 : a1 < cn_M h ∧ ly_T a1 = 1) (hc : h 900000 0 < 700000) : Ok_ (qf_X7_bring nn a1 a2 h) (QB_ (h 900000 0)) := by
  unfold qf_X7_bring
  refine ok_ck (vi_r V_h).1.1 ?_
  have hb := (vi_r V_h).1.2
  refine ok_ck hb ?_
  refine ok_cI (vf_X3_read hn hb (by omega) (by omega) V_h t_a1 r_a2) ?_; intro u3 E_u3 V_u3 a_u3 b_u3
  have n3 : u3.2 900000 0 = h 900000 0 := (ff_X3_read nn hb) _ E_u3 900000 0 rfl
  have g3 := gF_56_3 V_u3
  refine ok_if ?_ ?_
  · intro C1
    refine ok_ck (vi_r V_u3).1.1 ?_
    have hb3 := (vi_r V_u3).1.2
    refine ok_ck hb3 ?_
    refine ok_if ?_ ?_
    · intro C2
      exact ok_ret ⟨V_u3, by show -6302 ≤ (-1 : Int) ∧ (-1 : Int) ≤ 15; omega, by show h 900000 0 ≤ u3.2 900000 0 ∧ u3.2 900000 0 ≤ h 900000 0 + ((0 : Nat) : Int); omega, Nat.zero_le _, Nat.zero_le _⟩
    · intro C2
      refine ok_ck (vi_r V_u3).1.1 ?_
      refine ok_ck (vi_r V_u3).1.1 ?_
      have s8 := gI_8 V_u3 hb3
      refine ok_cP (vf_X3_textAt hn hb3 (by omega) (by omega) V_u3) ?_; intro u10 e_u10 a_u10 b_u10
      refine ok_ck (vi_r V_u3).1.1 ?_
      refine ok_cP (vf_X3_textEnd hn hb3 (by omega) (by omega) V_u3) ?_; intro u13 e_u13 a_u13 b_u13
      refine ok_cP (vf_X7_classOf hn hb3 (by omega) (by omega) (by omega) (by omega) V_u3) ?_; intro u15 e_u15 a_u15 b_u15
      refine ok_if ?_ ?_
      · intro C3
        refine ok_ck (vi_r V_u3).1.1 ?_
        obtain ⟨u18, E_u18, V_u18, n18, f18, c18, s18⟩ := vf_X3_keepOwn (nn := nn) hb3 V_u3 (by omega)
        rw [E_u18, mx_svs]
        have q18 : u18.1 56 3 = u3.2 56 3 := f18 56 3 (by decide) (fun z => absurd z.2 (by decide))
        refine ok_cV (vf_X7_swapSpare (by omega) (by omega) V_u18) ?_; intro u21 E_u21 V_u21
        have q21 : u21 56 3 = u18.1 56 3 := (ff_X7_swapSpare nn) _ E_u21 56 3 rfl
        have n21 : u21 900000 0 = u18.1 900000 0 := (ff_X7_swapSpare nn) _ E_u21 900000 0 rfl
        refine ok_add (by omega) ?_; intro v23 e_v23
        refine ok_xl ?_; intro h24 E_h24; have V_h24 : VS_ h24 := by rw [E_h24]; exact wF_56_3 V_u21 (by omega)
        have q24 : h24 56 3 = v23 := by rw [E_h24]; exact up_s
        have n24 : h24 900000 0 = u21 900000 0 := by rw [E_h24]; exact up_n (by omega)
        refine ok_cV (vf_X7_relate hn V_h24) ?_; intro u26 E_u26 V_u26
        have q26 : u26 56 3 = h24 56 3 := (ff_X7_relate nn) _ E_u26 56 3 rfl
        have n26 : u26 900000 0 = h24 900000 0 := (ff_X7_relate nn) _ E_u26 900000 0 rfl
        refine ok_add (by omega) ?_; intro v28 e_v28
        refine ok_sub (by omega) ?_; intro v29 e_v29
        refine ok_ret ⟨V_u26, by show -6302 ≤ v29 ∧ v29 ≤ 15; omega, ?_, by show 0 + u18.2.1 ≤ 1; omega, by show 0 + u18.2.2 ≤ 6000; omega⟩
        show h 900000 0 ≤ u26 900000 0 ∧ u26 900000 0 ≤ h 900000 0 + ((0 + u18.2.1 : Nat) : Int)
        have : u18.2.1 = 1 := c1_keep E_u18
        omega
      · intro C3
        exact ok_ret ⟨V_u3, by show -6302 ≤ (-1 : Int) ∧ (-1 : Int) ≤ 15; omega, by show h 900000 0 ≤ u3.2 900000 0 ∧ u3.2 900000 0 ≤ h 900000 0 + ((0 : Nat) : Int); omega, Nat.zero_le _, Nat.zero_le _⟩
  · intro C1
    refine ok_sub (by omega) ?_; intro v32 e_v32
    exact ok_ret ⟨V_u3, by show -6302 ≤ v32 ∧ v32 ≤ 15; omega, by show h 900000 0 ≤ u3.2 900000 0 ∧ u3.2 900000 0 ≤ h 900000 0 + ((0 : Nat) : Int); omega, Nat.zero_le _, Nat.zero_le _⟩
theorem ok_cB {α : Type} {Q : α → Prop} {n0 : Int} {x : Option (Int × ms_M × Nat × Nat)} {F : Int × ms_M × Nat × Nat → Option α} (hx : Ok_ x (QB_ n0)) (h : ∀ a, x = some a → QB_ n0 a → Ok_ (F a) Q) : Ok_ (mx_sv x F) Q := by
  obtain ⟨a, e, hq⟩ := hx
  rw [e, mx_svs]; exact h a e hq
theorem vf_X12_load {nn : Nat} (hn : 1000000 ≤ nn) {h : ms_M} (V_h : VS_ h) (hc : h 900000 0 < 700000) : Ok_ (qf_X12_load nn h) (QB_ (h 900000 0)) := by
  have g1 := gF_0_1 V_h
  unfold qf_X12_load
  refine ok_cB (vf_X7_bring hn g1 V_h ⟨Nat.lt_of_lt_of_le (by decide) (vi_c V_h), rfl⟩ hc) ?_
  rintro u5 E_u5 ⟨V_u5, r5, n5, c5, s5⟩
  refine ok_xl ?_; intro h6 E_h6; have V_h6 : VS_ h6 := by rw [E_h6]; exact wF_0_1 V_u5 (by omega)
  have n6 : h6 900000 0 = u5.2.1 900000 0 := by rw [E_h6]; exact up_n (by omega)
  refine ok_if ?_ ?_
  · intro C1
    refine ok_ret ⟨V_h6, r5, ?_, ?_, ?_⟩
    · show h 900000 0 ≤ h6 900000 0 ∧ h6 900000 0 ≤ h 900000 0 + ((0 + u5.2.2.1 : Nat) : Int); omega
    · show 0 + u5.2.2.1 ≤ 1; omega
    · show 0 + u5.2.2.2 ≤ 6000; omega
  · intro C1
    refine ok_cV (vf_X5_forget hn V_h6) ?_; intro u9 E_u9 V_u9
    have n9 : u9 900000 0 = h6 900000 0 := (ff_X5_forget nn) _ E_u9 900000 0 rfl
    refine ok_ret ⟨V_u9, r5, ?_, ?_, ?_⟩
    · show h 900000 0 ≤ u9 900000 0 ∧ u9 900000 0 ≤ h 900000 0 + ((0 + u5.2.2.1 : Nat) : Int); omega
    · show 0 + u5.2.2.1 ≤ 1; omega
    · show 0 + u5.2.2.2 ≤ 6000; omega
theorem vf_X7_change {nn : Nat} (hn : 1000000 ≤ nn) {a1 a2 a3 : Int} {h : ms_M} (r1 : -2147483648 ≤ a1 ∧ a1 ≤ 2147483647) (V_h : VS_ h) : Ok_ (qf_X7_change nn a1 a2 a3 h) (QI_ 0 1) := by
  unfold qf_X7_change
  refine ok_cO (vf_X7_imageOf hn (by omega) (by omega) V_h) ?_; intro u4 e_u4 o_u4
  refine ok_if (fun _ => ok_rI V_h (by omega) (by omega)) ?_
  intro C1
  refine ok_if (fun _ => ok_rI V_h (by omega) (by omega)) ?_
  intro C2
  have hb := o_u4.resolve_left C1
  refine ok_ck hb ?_
  have s1 := gI_1 V_h hb
  obtain ⟨⟨d1, d2, d3⟩, d4⟩ := vi_b V_h hb
  refine ok_if ?_ (fun _ => ok_rI V_h (by omega) (by omega))
  intro C3
  have a8 : 8 ≤ a1 ∧ a1 ≤ 15 := by
    have g3 := gF_56_3 V_h
    unfold qf_X7_imageOf at e_u4
    split at e_u4
    · cases e_u4; omega
    · rw [xl_eq, oq_add_eq (by omega) (by omega) (by omega)] at e_u4
      split at e_u4
      · cases e_u4; omega
      · omega
  have eo : qf_X3_ownBytes nn u4.toNat h = some (((h u4.toNat 0).toNat : Nat) : Int) := by unfold qf_X3_ownBytes ck_B; rw [if_pos d1]
  rw [eo, mx_svs]
  refine ok_ck (Int.natCast_nonneg _) ?_
  refine ok_rT V_h (c := (h u4.toNat 0).toNat) ⟨d2, d3⟩ (by omega) ?_; intro v11 e_v11 a_v11 b_v11
  refine ok_b ?_; intro v12 a_v12 b_v12
  refine ok_wT V_h (c := (h u4.toNat 0).toNat) ⟨d2, d3⟩ (by omega) ?_; intro h13 E_h13 V_h13
  have nT : ∀ c, ly_T c ≠ 1 → h13 c = h c := fun c hcT => by rw [E_h13]; exact up_ne c (fun e => hcT (e ▸ d3))
  have c13 : cn_M h13 = cn_M h := by rw [E_h13]; exact cn_up (by have := V_h.2.1.1; unfold cn_M at d2; omega)
  have l13 : ∀ c, ln_I h13 c = ln_I h c := fun c => by
    unfold ln_I
    have : h13 900001 = h 900001 := by rw [E_h13]; exact up_ne _ (by have := V_h.2.1.1; unfold cn_M at d2; omega)
    rw [this]
  have e13 : h13 u4.toNat = h u4.toNat := nT _ (by rw [T_img hb]; decide)
  refine ok_ck (vi_r V_h13).1.1 ?_
  have hb13 := (vi_r V_h13).1.2
  refine ok_ck hb13 ?_
  refine ok_cI (vf_X3_read hn hb13 (by rw [e13]; omega) (by rw [e13]; omega) V_h13 ⟨by rw [c13]; exact d2, d3⟩ (by rw [e13]; omega)) ?_; intro u17 E_u17 V_u17 a_u17 b_u17
  have c17 : cn_M u17.2 = cn_M h13 := by
    have z : u17.2 900000 0 = h13 900000 0 := (ff_X3_read nn hb13) _ E_u17 900000 0 rfl
    unfold cn_M; rw [z]
  have l17 : ln_I u17.2 (h u4.toNat 0).toNat = ln_I h13 (h u4.toNat 0).toNat := by
    have z : u17.2 900001 (h u4.toNat 0).toNat = h13 900001 (h u4.toNat 0).toNat := (ff_X3_read nn hb13) _ E_u17 900001 _ rfl
    unfold ln_I; rw [z]
  have back : Ok_ (qj_X7_change_72 nn a2 (((h u4.toNat 0).toNat : Nat) : Int) v11 u17.2) (QI_ 0 1) := by
    unfold qj_X7_change_72
    refine ok_ck (Int.natCast_nonneg _) ?_
    refine ok_wT V_u17 (c := (h u4.toNat 0).toNat) ⟨by rw [c17, c13]; exact d2, d3⟩ (by rw [l17, l13]; omega) ?_; intro h2 E_h2 V_h2
    exact ok_rI V_h2 (by omega) (by omega)
  refine ok_if (fun _ => back) ?_
  intro C4
  refine ok_cP (vf_X7_isNamedAsOther hn (by omega) (by omega) V_u17) ?_; intro u19 e_u19 a_u19 b_u19
  refine ok_if ?_ (fun _ => back)
  intro C5
  refine ok_sub (by omega) ?_; intro v20 e_v20
  refine ok_cV (vf_X7_swapSpare (by omega) (by omega) V_u17) ?_; intro u22 E_u22 V_u22
  refine ok_cV (vf_X7_relate hn V_u22) ?_; intro u24 E_u24 V_u24
  exact ok_rI V_u24 (by omega) (by omega)
theorem vf_X12_patch {nn : Nat} (hn : 1000000 ≤ nn) {a1 a2 a3 : Int} {h : ms_M} (r1 : -2147483648 ≤ a1 ∧ a1 ≤ 2147483647) (V_h : VS_ h) : Ok_ (qf_X12_patch nn a1 a2 a3 h) (QI_ 0 1) := by
  unfold qf_X12_patch
  refine ok_cI (vf_X7_change hn r1 V_h) ?_; intro u3 E_u3 V_u3 a_u3 b_u3
  refine ok_if ?_ ?_
  · intro C1
    refine ok_ck (by omega) ?_
    exact ok_rI V_u3 (by omega) (by omega)
  · intro C1
    refine ok_cV (vf_X5_forget hn V_u3) ?_; intro u7 E_u7 V_u7
    refine ok_ck (by omega) ?_
    exact ok_rI V_u7 (by omega) (by omega)
theorem vf_X12_imageOf {nn : Nat} {a1 : Int} {h : ms_M} (V_h : VS_ h) : Ok_ (qf_X12_imageOf nn a1 h) (fun r => r < 0 ∨ (r.toNat < cn_M h ∧ ly_T r.toNat = 1 ∧ ln_I h r.toNat ≤ 6000)) := by
  unfold qf_X12_imageOf
  refine ok_if (fun _ => ok_ret (.inl (by decide))) ?_
  intro C1
  refine ok_if (fun _ => ok_ret (.inl (by decide))) ?_
  intro C2
  refine ok_if (fun _ => ok_ret (.inl (by decide))) ?_
  intro C3
  unfold rd_A
  rw [if_pos (by omega)]
  refine ok_ret ?_
  by_cases w : h 55 a1.toNat < 0
  · exact .inl w
  · exact .inr (V_h.2.2.2.2.2.2.2 a1.toNat (by omega) (by omega))
theorem vf_X12_keep {nn : Nat} (hn : 1000000 ≤ nn) {a1 : Int} {h : ms_M} (V_h : VS_ h) (hc : h 900000 0 < 700000) : Ok_ (qf_X12_keep nn a1 h) (QB_ (h 900000 0)) := by
  have K : ∀ {s0 : Int} {g : ms_M} {c s : Nat}, VS_ g → -6302 ≤ s0 ∧ s0 ≤ 15 → (h 900000 0 ≤ g 900000 0 ∧ g 900000 0 ≤ h 900000 0 + (c : Int)) → c ≤ 1 → s ≤ 6000 → Ok_ (qj_X12_keep_24 nn s0 g c s) (QB_ (h 900000 0)) := by
    intro s0 g c s V_g r n hc1 hs
    unfold qj_X12_keep_24
    refine ok_if (fun _ => ok_ret ⟨V_g, r, n, hc1, hs⟩) ?_
    intro C1
    refine ok_cV (vf_X5_forget hn V_g) ?_; intro u3 E_u3 V_u3
    have n3 : u3 900000 0 = g 900000 0 := (ff_X5_forget nn) _ E_u3 900000 0 rfl
    exact ok_ret ⟨V_u3, r, by show h 900000 0 ≤ u3 900000 0 ∧ u3 900000 0 ≤ h 900000 0 + (c : Int); omega, hc1, hs⟩
  unfold qf_X12_keep
  obtain ⟨u6, E_u6, q6⟩ := vf_X12_imageOf (nn := nn) (a1 := a1) V_h
  rw [E_u6, mx_svs]
  refine ok_if (fun _ => K V_h (by omega) (by omega) (by omega) (by omega)) ?_
  intro C1
  obtain ⟨t1, t2, t3⟩ := q6.resolve_left C1
  have l0 : 0 ≤ ln_I h u6.toNat := by
    unfold ln_I
    by_cases w : u6.toNat < 256
    · rw [if_pos w]; omega
    · rw [if_neg w]; exact V_h.2.1.2 _
  refine ok_lS ⟨t1, t2⟩ ?_; intro v10 e_v10
  refine ok_cB (vf_X7_bring hn (by omega) V_h ⟨t1, t2⟩ hc) ?_
  rintro u12 E_u12 ⟨V_u12, r12, n12, c12, s12⟩
  exact K V_u12 r12 (by omega) (by omega) (by omega)
theorem vf_X12_image {nn : Nat} {a1 a2 : Int} {h : ms_M} (V_h : VS_ h) : Ok_ (qf_X12_image nn a1 a2 h) (QP_ (-1) 6000) := by
  unfold qf_X12_image
  obtain ⟨u2, E_u2, q2⟩ := vf_X12_imageOf (nn := nn) (a1 := a1) V_h
  rw [E_u2, mx_svs]
  refine ok_if (fun _ => ok_rP (by omega) (by omega)) ?_
  intro C1
  obtain ⟨t1, t2, t3⟩ := q2.resolve_left C1
  have l0 : 0 ≤ ln_I h u2.toNat := by
    unfold ln_I
    by_cases w : u2.toNat < 256
    · rw [if_pos w]; omega
    · rw [if_neg w]; exact V_h.2.1.2 _
  refine ok_if ?_ ?_
  · intro C2
    refine ok_if (fun _ => ok_rP (by omega) (by omega)) ?_
    intro C3
    refine ok_lS ⟨t1, t2⟩ ?_; intro v5 e_v5
    refine ok_if (fun _ => ok_rP (by omega) (by omega)) ?_
    intro C4
    refine ok_rT V_h ⟨t1, t2⟩ (by omega) ?_; intro v6 e_v6 a_v6 b_v6
    refine ok_and (by omega) ?_; intro v7 a_v7 b_v7
    exact ok_rP (by omega) (by omega)
  · intro C2
    refine ok_lS ⟨t1, t2⟩ ?_; intro v10 e_v10
    exact ok_rP (by omega) (by omega)
