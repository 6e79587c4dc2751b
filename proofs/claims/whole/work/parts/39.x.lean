theorem vs_w60 {M : ms_M} (h : VS_ M) {k : Nat} {y : Int} (h0 : 0 ≤ y) (hy : kc_O y.toNat = 3) : VS_ (up_M M 60 k y) := by
  obtain ⟨h1, h2, h3, h4, h5, h6, h7, h8⟩ := h
  have hl := kc_lt hy (by decide)
  have A : ∀ c2, c2 ≠ 60 → up_M M 60 k y c2 = M c2 := fun c2 z => up_ne c2 z
  have e9 : up_M M 60 k y 900000 = M 900000 := A _ (by omega)
  have e8 : up_M M 60 k y 900001 = M 900001 := A _ (by omega)
  have ec : cn_M (up_M M 60 k y) = cn_M M := by unfold cn_M; rw [e9]
  have el : ∀ d, ln_I (up_M M 60 k y) d = ln_I M d := by intro d; unfold ln_I; rw [e8]
  refine ⟨?_, ?_, ?_, ?_, ?_, ?_, ?_, ?_⟩
  · intro c2 k2 hc2
    by_cases w : c2 = 60 ∧ k2 = k
    · obtain ⟨rfl, rfl⟩ := w
      rw [up_s]; show -2147483648 ≤ y ∧ y ≤ 2147483647; omega
    · rw [up_n w]; exact h1 c2 k2 hc2
  · rw [e9, e8]; exact h2
  · intro b hb; rw [A b (fun e => nI_ hb (c := 60) rfl e), ec, el]; exact h3 b hb
  · intro d j hd hd2 hj
    rw [el] at hj
    rw [A d (by omega)]; exact h4 d j hd hd2 hj
  · intro j hj
    by_cases w : j = k
    · subst w; rw [up_s]; exact ⟨h0, hy⟩
    · rw [up_n (by omega)]; exact h5 j hj
  · rw [A 56 (by decide), A 127 (by decide), A 143 (by decide)]; exact h6
  · intro j hj; rw [A 43 (by decide), ec]; exact h7 j hj
  · intro j hj; rw [A 55 (by decide), ec]; exact h8 j hj
theorem vf_X7_swapSpare {nn : Nat} {a1 : Int} {h : ms_M} (a_a1 : 0 ≤ a1) (b_a1 : a1 ≤ 7) (V_h : VS_ h) : Ok_ (qf_X7_swapSpare nn a1 h) QV_ := by
  unfold qf_X7_swapSpare
  refine ok_rd60 V_h (by omega) ?_; intro v2 n_v2 k_v2
  refine ok_ck (vi_r V_h).1.1 ?_
  unfold wr_QI
  rw [if_pos ⟨⟨by omega, (vi_r V_h).1.2⟩, by omega⟩]
  refine ok_wR (vs_w60 V_h (by omega) (vi_r V_h).1.2) (by decide) n_v2 k_v2 ?_; intro z E_z V_z
  exact ok_rV V_z
theorem vs_nw {M : ms_M} (h : VS_ M) {y : Int} {f : Nat → Int} (hc : M 900000 0 < 700000) (hy : 0 ≤ y) (hf : ∀ k : Nat, (k : Int) < y → -128 ≤ f k ∧ f k ≤ 127) : VS_ (nw_M M y f) ∧ cn_M (nw_M M y f) = cn_M M + 1 ∧ (∀ d, d ≠ cn_M M → d < 900000 → nw_M M y f d = M d) ∧ (∀ d, d ≠ cn_M M → ln_I (nw_M M y f) d = ln_I M d) ∧ ln_I (nw_M M y f) (cn_M M) = y := by
  obtain ⟨h1, ⟨⟨h2a, h2b⟩, h2c⟩, h3, h4, h5, h6, h7, h8⟩ := h
  have hn : (cn_M M : Int) = M 900000 0 := by unfold cn_M; omega
  have A : ∀ d, d ≠ cn_M M → d < 900000 → nw_M M y f d = M d := by
    intro d hd hd9
    funext k
    unfold nw_M
    rw [if_neg hd, if_neg (by omega), if_neg (by omega)]
  have e9 : nw_M M y f 900000 0 = M 900000 0 + 1 := by
    unfold nw_M; rw [if_neg (by omega), if_pos ⟨rfl, rfl⟩]
  have e8 : ∀ k, nw_M M y f 900001 k = if k = cn_M M then y else M 900001 k := by
    intro k
    unfold nw_M
    rw [if_neg (by omega), if_neg (by omega)]
    by_cases w : k = cn_M M
    · rw [if_pos ⟨rfl, w⟩, if_pos w]
    · rw [if_neg (fun z => w z.2), if_neg w]
  have ec : cn_M (nw_M M y f) = cn_M M + 1 := by unfold cn_M; rw [e9]; omega
  have el : ∀ d, d ≠ cn_M M → ln_I (nw_M M y f) d = ln_I M d := by
    intro d hd; unfold ln_I; rw [e8, if_neg hd]
  have el2 : ln_I (nw_M M y f) (cn_M M) = y := by
    unfold ln_I; rw [if_neg (by omega), e8, if_pos rfl]
  have eN : ∀ k, nw_M M y f (cn_M M) k = f k := by intro k; unfold nw_M; rw [if_pos rfl]
  have S : ∀ d, d < 256 → nw_M M y f d = M d := fun d hd => A d (by omega) (by omega)
  refine ⟨⟨?_, ?_, ?_, ?_, ?_, ?_, ?_, ?_⟩, ec, A, el, el2⟩
  · intro c2 k2 hc2; rw [S c2 hc2]; exact h1 c2 k2 hc2
  · refine ⟨by rw [e9]; omega, fun c => ?_⟩
    rw [e8]; split
    · exact hy
    · exact h2c c
  · intro b hb
    obtain ⟨⟨g1, g2, g3⟩, g4⟩ := h3 b hb
    rw [S b (kc_lt hb (by decide)), ec, el _ (by omega)]
    exact ⟨⟨g1, by omega, g3⟩, g4⟩
  · intro d j hd hd2 hj
    by_cases w : d = cn_M M
    · subst w; rw [el2] at hj; rw [eN]; exact hf j hj
    · rw [el d w] at hj; rw [A d w hd2]; exact h4 d j hd hd2 hj
  · intro j hj; rw [S 60 (by decide)]; exact h5 j hj
  · rw [S 56 (by decide), S 127 (by decide), S 143 (by decide)]; exact h6
  · intro j hj q; rw [S 43 (by decide)] at q ⊢; have := h7 j hj q; rw [ec]; exact ⟨by omega, this.2⟩
  · intro j hj q; rw [S 55 (by decide)] at q ⊢; have := h8 j hj q; rw [ec]; exact ⟨by omega, this.2⟩
theorem vs_b0 {M : ms_M} (h : VS_ M) {b a : Nat} (hb : kc_O b = 3) (ha : a < cn_M M ∧ ly_T a = 1) (hl : M b 1 ≤ ln_I M a) : VS_ (up_M M b 0 ((a : Nat) : Int)) := by
  have g1 := gI_1 h hb
  have := vs_rd h hb ha g1 hl
  have e : up_M (up_M M b 0 ((a : Nat) : Int)) b 1 (M b 1) = up_M M b 0 ((a : Nat) : Int) := by
    funext c k
    by_cases w : c = b ∧ k = 1
    · obtain ⟨rfl, rfl⟩ := w; rw [up_s, up_n (by omega)]
    · rw [up_n w]
  rw [e] at this; exact this
theorem vf_X3_keepOwn {nn : Nat} {b : Nat} {h : ms_M} (hb : kc_O b = 3) (V : VS_ h) (hc : h 900000 0 < 700000) : Ok_ (qf_X3_keepOwn nn b h) (fun r => VS_ r.1 ∧ r.1 900000 0 = h 900000 0 + 1 ∧ (∀ c k, c < 256 → ¬ (c = b ∧ k = 0) → r.1 c k = h c k) ∧ r.2.1 ≤ 1 ∧ r.2.2 ≤ 6000) := by
  obtain ⟨⟨d1, d2, d3⟩, d4⟩ := vi_b V hb
  have g1 := gI_1 V hb
  have hM := V.2.1.1
  have hb2 := kc_lt hb (by decide)
  unfold qf_X3_keepOwn
  refine ok_ck d1 ?_
  unfold qf_J7_copyOf_9075b
  rw [if_pos ⟨⟨d2, d3⟩, ⟨hM.1, hc⟩, by omega, by omega⟩, mx_svs]
  obtain ⟨n1, n2, n3, n4, n5⟩ := vs_nw V (y := h b 1) (f := fun i => if h b 1 = ln_I h (h b 0).toNat ∨ (i : Int) < h b 1 ∧ (i : Int) < ln_I h (h b 0).toNat then h (h b 0).toNat i else 0) hc g1.1 (by
    intro k hk
    show _ ≤ (if _ then _ else (0 : Int)) ∧ (if _ then _ else (0 : Int)) ≤ _
    split
    · exact vi_y V d2 d3 (by omega)
    · omega)
  have hcn : (cn_M h : Int) = h 900000 0 := by unfold cn_M; omega
  have e1 : nw_M h (h b 1) (fun i => if h b 1 = ln_I h (h b 0).toNat ∨ (i : Int) < h b 1 ∧ (i : Int) < ln_I h (h b 0).toNat then h (h b 0).toNat i else 0) b 1 = h b 1 := by rw [n3 b (by omega) (by omega)]
  have e9 : nw_M h (h b 1) (fun i => if h b 1 = ln_I h (h b 0).toNat ∨ (i : Int) < h b 1 ∧ (i : Int) < ln_I h (h b 0).toNat then h (h b 0).toNat i else 0) 900000 0 = h 900000 0 + 1 := by
    unfold nw_M; rw [if_neg (by omega), if_pos ⟨rfl, rfl⟩]
  have hV := vs_b0 n1 hb (a := cn_M h) ⟨by omega, ly_Tbig (by omega)⟩ (by rw [n5, e1]; omega)
  unfold wr_R
  rw [if_pos (by show -2147483648 ≤ ((cn_M h : Nat) : Int) ∧ ((cn_M h : Nat) : Int) ≤ 2147483647; omega)]
  refine ok_ret ⟨hV, ?_, ?_, ?_, ?_⟩
  · show up_M _ b 0 _ 900000 0 = _
    rw [up_n (by omega)]; exact e9
  · intro c k hc2 hck
    show up_M _ b 0 _ c k = _
    rw [up_n hck, n3 c (by omega) (by omega)]
  · show 0 + (0 + 1) ≤ 1; omega
  · show 0 + (0 + (h b 1).toNat) ≤ 6000; omega
