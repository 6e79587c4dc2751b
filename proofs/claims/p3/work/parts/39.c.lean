theorem pr_X4_isClass {nn : Nat} {a0 : Int} {h : ms_M} {u : Int} (e : qf_X4_isClass nn a0 h = some u) : u = 0 ∨ (0 ≤ a0 ∧ a0 ≤ 15) := by
  unfold qf_X4_isClass at e
  split at e
  · cases e; exact .inl rfl
  · split at e
    · cases e; exact .inl rfl
    · right; omega
theorem pr_X2_isOwn {nn : Nat} {a0 : Int} {h : ms_M} {u : Int} (e : qf_X2_isOwn nn a0 h = some u) : u = 0 ∨ (8 ≤ a0 ∧ a0 ≤ 15) := by
  unfold qf_X2_isOwn at e
  split at e
  · cases e; exact .inl rfl
  · split at e
    · cases e; exact .inl rfl
    · right; omega
theorem pr_X4_isArray {nn : Nat} {a0 : Int} {h : ms_M} {u : Int} (e : qf_X4_isArray nn a0 h = some u) : u = 0 ∨ (100 ≤ a0 ∧ a0 ≤ 200) := by
  unfold qf_X4_isArray at e
  split at e
  · cases e; exact .inl rfl
  · split at e
    · cases e; exact .inl rfl
    · right; omega
theorem pr_X2_isMethod {nn : Nat} {a1 : Int} {h : ms_M} {u : Int} (e : qf_X2_isMethod nn a1 h = some u) : u = 0 ∨ (0 ≤ a1 ∧ a1 ≤ 95) := by
  unfold qf_X2_isMethod at e
  split at e
  · cases e; exact .inl rfl
  · split at e
    · cases e; exact .inl rfl
    · right; omega
theorem pr_X5_isObject {nn : Nat} {a1 : Int} {h : ms_M} {u : Int} (e : qf_X5_isObject nn a1 h = some u) : u = 0 ∨ (1 ≤ a1 ∧ a1 ≤ 2000) := by
  unfold qf_X5_isObject at e
  split at e
  · cases e; exact .inl rfl
  · split at e
    · cases e; exact .inl rfl
    · split at e
      · cases e; exact .inl rfl
      · right; omega
theorem pr_X11_begins {nn : Nat} {a1 : Int} {h : ms_M} {u : Int} (e : qf_X11_begins nn a1 h = some u) : u = 0 ∨ (0 ≤ a1 ∧ a1 ≤ 1499) := by
  unfold qf_X11_begins at e
  split at e
  · cases e; exact .inl rfl
  · split at e
    · cases e; exact .inl rfl
    · unfold rd_A at e
      split at e
      · right; omega
      · cases e
def QO_ : Int → Prop := fun r => r < 0 ∨ kc_O r.toNat = 3
section
variable {α : Type} {Q : α → Prop} {M : ms_M}
theorem ok_cO {x : Option Int} {F : Int → Option α} (hx : Ok_ x QO_) (h : ∀ a, x = some a → (a < 0 ∨ kc_O a.toNat = 3) → Ok_ (F a) Q) : Ok_ (mx_sv x F) Q := by
  obtain ⟨a, e, hq⟩ := hx
  rw [e, mx_svs]; exact h a e hq
theorem ok_rOn : Ok_ (some (-1 : Int)) QO_ := ⟨_, rfl, .inl (by decide)⟩
theorem ok_rOs {c : Nat} (h : kc_O c = 3) : Ok_ (some ((c : Nat) : Int)) QO_ := ⟨_, rfl, .inr h⟩
theorem ok_rOo {y : Int} (h : kc_O y.toNat = 3) : Ok_ (some y) QO_ := ⟨_, rfl, .inr h⟩
theorem vi_b (h : VS_ M) {b : Nat} (hb : kc_O b = 3) : (0 ≤ M b 0 ∧ (M b 0).toNat < cn_M M ∧ ly_T (M b 0).toNat = 1) ∧ M b 1 ≤ ln_I M (M b 0).toNat := h.2.2.1 b hb
theorem vi_c (h : VS_ M) : 256 ≤ cn_M M := by have := h.2.1; unfold cn_M; omega
end
set_option maxRecDepth 100000 in
theorem vby_all : (List.range 256).all (fun c => !(Nat.beq (ly_T c) 1) || (ar_T c && (decide (-128 ≤ (vb_ c 0).1) && decide ((vb_ c 0).2 ≤ 127)))) = true := rfl
theorem vi_ln {c : Nat} {M : ms_M} (hc : c < 256) : ln_I M c = (ly_N c : Int) := by unfold ln_I; rw [if_pos hc]
theorem vi_y {M : ms_M} (h : VS_ M) {c k : Nat} (hc : c < cn_M M) (ht : ly_T c = 1) (hk : (k : Int) < ln_I M c) : -128 ≤ M c k ∧ M c k ≤ 127 := by
  have hM := h.2.1
  by_cases w : c < 256
  · have h1 := List.all_eq_true.1 vby_all c (List.mem_range.2 w)
    rw [ht] at h1
    have h1 : (ar_T c && (decide (-128 ≤ (vb_ c 0).1) && decide ((vb_ c 0).2 ≤ 127))) = true := h1
    simp only [Bool.and_eq_true, decide_eq_true_eq] at h1
    obtain ⟨h0, h2, h3⟩ := h1
    have h4 : vb_ c k = vb_ c 0 := by
      unfold ar_T at h0
      unfold vb_
      revert h0
      cases vt_[c]? with
      | none => intro _; rfl
      | some x => cases x with
        | inl p => intro _; rfl
        | inr l => intro h0; cases h0
    have h5 := h.1 c k w (.inr (by rw [vi_ln w] at hk; omega))
    rw [h4] at h5; omega
  · exact h.2.2.2.1 c k (by omega) (by unfold cn_M at hc; omega) hk
section
variable {α : Type} {Q : α → Prop} {M : ms_M}
theorem ok_rT (h : VS_ M) {c : Nat} {j : Int} {G : Int → Option α} (hc : c < cn_M M ∧ ly_T c = 1) (hj : 0 ≤ j ∧ j < ln_I M c) (g : ∀ v, v = M c j.toNat → -128 ≤ v → v ≤ 127 → Ok_ (G v) Q) : Ok_ (rd_T c j M G) Q := by
  unfold rd_T; rw [if_pos ⟨hc, hj⟩]
  have := vi_y h hc.1 hc.2 (k := j.toNat) (by omega)
  exact g _ rfl this.1 this.2
theorem ln_0 (h : VS_ M) {c : Nat} : 0 ≤ c → True := fun _ => trivial
theorem ok_lS {c : Nat} {G : Int → Option α} (hc : c < cn_M M ∧ ly_T c = 1) (g : ∀ v, v = ln_I M c → Ok_ (G v) Q) : Ok_ (ln_S c M G) Q := by
  unfold ln_S; rw [if_pos ⟨hc.1, by rw [hc.2]; decide⟩]; exact g _ rfl
end
theorem vs_wR {M : ms_M} (h : VS_ M) {c k : Nat} {y : Int} (hc : c = 56 ∧ k = 2 ∨ c = 127 ∧ k = 5 ∨ c = 143 ∧ k = 18) (h0 : 0 ≤ y) (hy : kc_O y.toNat = 3) : VS_ (up_M M c k y) := by
  obtain ⟨h1, h2, h3, h4, h5, ⟨h6a, h6b, h6c⟩, h7, h8⟩ := h
  have hl := kc_lt hy (by decide)
  have A : ∀ c2, c2 ≠ c → up_M M c k y c2 = M c2 := fun c2 z => up_ne c2 z
  have e9 : up_M M c k y 900000 = M 900000 := A _ (by omega)
  have e8 : up_M M c k y 900001 = M 900001 := A _ (by omega)
  have ec : cn_M (up_M M c k y) = cn_M M := by unfold cn_M; rw [e9]
  have el : ∀ d, ln_I (up_M M c k y) d = ln_I M d := by intro d; unfold ln_I; rw [e8]
  have eb : ∀ b, kc_O b = 3 → up_M M c k y b = M b := by
    intro b hb
    refine A b ?_
    rcases hc with ⟨rfl, -⟩ | ⟨rfl, -⟩ | ⟨rfl, -⟩ <;> exact nI_ hb rfl
  refine ⟨?_, ?_, ?_, ?_, ?_, ⟨?_, ?_, ?_⟩, ?_, ?_⟩
  · intro c2 k2 hc2 hk2
    by_cases w : c2 = c ∧ k2 = k
    · obtain ⟨rfl, rfl⟩ := w
      rw [up_s]
      rcases hc with ⟨rfl, rfl⟩ | ⟨rfl, rfl⟩ | ⟨rfl, rfl⟩ <;> (show -2147483648 ≤ y ∧ y ≤ 2147483647; omega)
    · rw [up_n w]; exact h1 c2 k2 hc2 hk2
  · rw [e9, e8]; exact h2
  · intro b hb; rw [eb b hb, ec, el]; exact h3 b hb
  · intro d j hd hd2 hj
    rw [el] at hj
    rw [A d (by omega)]; exact h4 d j hd hd2 hj
  · intro j hj; rw [A 60 (by omega)]; exact h5 j hj
  · by_cases w : 56 = c ∧ 2 = k
    · obtain ⟨rfl, rfl⟩ := w; rw [up_s]; exact ⟨h0, hy⟩
    · rw [up_n w]; exact h6a
  · by_cases w : 127 = c ∧ 5 = k
    · obtain ⟨rfl, rfl⟩ := w; rw [up_s]; exact ⟨h0, hy⟩
    · rw [up_n w]; exact h6b
  · by_cases w : 143 = c ∧ 18 = k
    · obtain ⟨rfl, rfl⟩ := w; rw [up_s]; exact ⟨h0, hy⟩
    · rw [up_n w]; exact h6c
  · intro j hj; rw [A 43 (by omega), ec, el]; exact h7 j hj
  · intro j hj; rw [A 55 (by omega), ec, el]; exact h8 j hj
theorem ok_wR {α : Type} {Q : α → Prop} {M : ms_M} (h : VS_ M) {c k : Nat} {y : Int} {G : ms_M → Option α} (hc : c = 56 ∧ k = 2 ∨ c = 127 ∧ k = 5 ∨ c = 143 ∧ k = 18) (h0 : 0 ≤ y) (hy : kc_O y.toNat = 3) (g : ∀ z, z = up_M M c k y → VS_ z → Ok_ (G z) Q) : Ok_ (wr_R c k y M G) Q := by
  have hl := kc_lt hy (by decide)
  unfold wr_R; rw [if_pos (by omega)]
  exact g _ rfl (vs_wR h hc h0 hy)
theorem pr_X4_isReference {nn : Nat} : True := trivial
theorem tm_rg {x : Int} {n : Nat} (hn : 0 < n) : -(n : Int) < Int.tmod x n ∧ Int.tmod x n < (n : Int) := by
  by_cases w : 0 ≤ x
  · rw [Int.tmod_eq_emod_of_nonneg w]
    have h1 := Int.emod_nonneg x (show (n : Int) ≠ 0 by omega)
    have h2 := Int.emod_lt_of_pos x (show 0 < (n : Int) by omega)
    omega
  · have e : x = -(-x) := by omega
    rw [e, Int.neg_tmod, Int.tmod_eq_emod_of_nonneg (by omega)]
    have h1 := Int.emod_nonneg (-x) (show (n : Int) ≠ 0 by omega)
    have h2 := Int.emod_lt_of_pos (-x) (show 0 < (n : Int) by omega)
    omega
section
variable {α : Type} {Q : α → Prop} {M : ms_M}
theorem ok_remT {x : Int} {n : Nat} {F : Int → Option α} (hn : 0 < n) (h : ∀ v, -(n : Int) < v → v < (n : Int) → Ok_ (F v) Q) : Ok_ (xl (Int.tmod x (n : Int)) F) Q := h _ (tm_rg hn).1 (tm_rg hn).2
theorem ok_divT {x : Int} {n : Nat} {F : Int → Option α} (hn : 0 < n) (h : ∀ v, (n : Int) * v < x + n → x - n < (n : Int) * v → Ok_ (F v) Q) : Ok_ (xl (Int.tdiv x (n : Int)) F) Q := by
  have h1 := Int.mul_tdiv_add_tmod x (n : Int)
  have h2 := tm_rg (x := x) hn
  exact h _ (by omega) (by omega)
theorem ok_lX1 {G : Int → Option α} (h : Ok_ (G 76) Q) : Ok_ (ln_X (1000000000 + 1) G) Q := h
end
def ch_1 (i : Nat) : Bool := match xsc (1000000000 + 1) (Int32.ofInt (i : Int)) with
  | some c => decide (32 ≤ c.toInt ∧ c.toInt ≤ 126)
  | none => false
theorem ch_1a : (List.range 76).all ch_1 = true := by decide +kernel
theorem ok_rX1 {α : Type} {Q : α → Prop} {j : Int} {G : Int → Option α} (hj : 0 ≤ j ∧ j < 76) (h : ∀ v, 32 ≤ v → v ≤ 126 → Ok_ (G v) Q) : Ok_ (rd_X (1000000000 + 1) j G) Q := by
  have h1 := List.all_eq_true.1 ch_1a j.toNat (List.mem_range.2 (by omega))
  unfold ch_1 at h1
  have e : ((j.toNat : Nat) : Int) = j := by omega
  rw [e] at h1
  unfold rd_X
  revert h1
  cases xsc (1000000000 + 1) (Int32.ofInt j) with
  | none => intro h1; cases h1
  | some c => intro h1; have h1 := of_decide_eq_true h1; exact h c.toInt h1.1 h1.2
theorem vfl_5 {nn c : Nat} {v : Int} (hc : c < 256) (ht : ly_T c = 0) (hN : ly_N c ≤ 100000) (e : ∀ M k, VS_ M → VS_ (up_M M c k v)) : ∀ (k : Nat) (l2 : Int) (h : ms_M), VS_ h → 0 ≤ l2 → l2 ≤ (ly_N c : Int) → (ly_N c : Int) - l2 < (k : Int) → Ok_ (qw_J7_fill_53178_5 nn k c v l2 (ly_N c : Int) h) QV_ := by
  intro k
  induction k with
  | zero => intros; exfalso; omega
  | succ k ih =>
    intro l2 h V a b hm
    unfold qw_J7_fill_53178_5
    refine ok_if ?_ ?_
    · intro _; exact ok_rV V
    · intro w
      unfold wr_S
      rw [vi_ln hc, if_pos ⟨⟨by have := vi_c V; omega, ht⟩, by omega⟩]
      refine ok_add (by omega) ?_; intro v2 e2
      exact ih v2 _ (e _ _ V) (by omega) (by omega) (by omega)
theorem vfill {nn c : Nat} {v : Int} {h : ms_M} (hn : 1000000 ≤ nn) (V : VS_ h) (hc : c < 256) (ht : ly_T c = 0) (hN : ly_N c ≤ 100000) (e : ∀ M k, VS_ M → VS_ (up_M M c k v)) : Ok_ (qf_J7_fill_53178 nn c v h) QV_ := by
  unfold qf_J7_fill_53178 ln_S
  rw [if_pos ⟨by have := vi_c V; omega, by rw [ht]; decide⟩, vi_ln hc]
  exact vfl_5 hc ht hN e nn 0 h V (by omega) (by omega) (by omega)
theorem vfl_10 {nn c : Nat} {v to : Int} (hc : c < 256) (ht : ly_T c = 0) (hN : ly_N c ≤ 100000) (hto : to ≤ (ly_N c : Int)) (e : ∀ M k, VS_ M → VS_ (up_M M c k v)) : ∀ (k : Nat) (l4 : Int) (h : ms_M), VS_ h → 0 ≤ l4 → l4 ≤ to → to - l4 < (k : Int) → Ok_ (qw_J7_fill_fda19_10 nn k c to v l4 h) QV_ := by
  intro k
  induction k with
  | zero => intros; exfalso; omega
  | succ k ih =>
    intro l4 h V a b hm
    unfold qw_J7_fill_fda19_10
    refine ok_if ?_ ?_
    · intro _; exact ok_rV V
    · intro w
      unfold wr_S
      rw [vi_ln hc, if_pos ⟨⟨by have := vi_c V; omega, ht⟩, by omega⟩]
      refine ok_add (by omega) ?_; intro v2 e2
      exact ih v2 _ (e _ _ V) (by omega) (by omega) (by omega)
theorem vfillR {nn c : Nat} {v a b : Int} {h : ms_M} (hn : 1000000 ≤ nn) (V : VS_ h) (hc : c < 256) (ht : ly_T c = 0) (hN : ly_N c ≤ 100000) (e : ∀ M k, VS_ M → VS_ (up_M M c k v)) (hab : 0 ≤ a ∧ a ≤ b ∧ b ≤ (ly_N c : Int)) : Ok_ (qf_J7_fill_fda19 nn c a b v h) QV_ := by
  unfold qf_J7_fill_fda19 ln_S
  rw [if_pos ⟨by have := vi_c V; omega, by rw [ht]; decide⟩, vi_ln hc]
  unfold qf_J7_rangeCheck_23922
  dsimp only
  rw [if_pos (by omega), if_pos (by omega), if_pos (by omega), mx_svs]
  exact vfl_10 hc ht hN (by omega) e nn a h V (by omega) (by omega) (by omega)
theorem cp_0 {M : ms_M} {a s b d : Nat} : cp_M M a s b d 0 = M := by
  funext c k
  unfold cp_M
  rw [if_neg (by omega)]
theorem cp_VS {M : ms_M} (h : VS_ M) {a b s d : Nat} {lo hi : Int} (e : ∀ {M : ms_M} {k : Nat} {v : Int}, VS_ M → lo ≤ v ∧ v ≤ hi → VS_ (up_M M b k v)) : ∀ n, (∀ j : Nat, j < n → lo ≤ M a (s + j) ∧ M a (s + j) ≤ hi) → VS_ (cp_M M a s b d n) := by
  intro n
  induction n with
  | zero => intro _; rw [cp_0]; exact h
  | succ n ih =>
    intro ha
    have ih := ih (fun j hj => ha j (by omega))
    have z : cp_M M a s b d (n + 1) = up_M (cp_M M a s b d n) b (d + n) (M a (s + n)) := by
      funext c k
      unfold up_M cp_M
      by_cases w : c = b ∧ k = d + n
      · obtain ⟨rfl, rfl⟩ := w
        rw [if_pos (by omega), if_pos ⟨rfl, rfl⟩]
        have : d + n - d = n := by omega
        rw [this]
      · rw [if_neg w]
        by_cases w2 : c = b ∧ d ≤ k ∧ k < d + n
        · rw [if_pos w2, if_pos (by omega)]
        · rw [if_neg w2, if_neg (by omega)]
    rw [z]; exact e ih (ha n (by omega))
theorem ok_cp {α : Type} {Q : α → Prop} {M : ms_M} (V : VS_ M) {a b : Nat} {sp dp n lo hi : Int} {G : ms_M → Option α} (ha : ∀ k : Nat, (k : Int) < (ly_N a : Int) → lo ≤ M a k ∧ M a k ≤ hi) (hT : (decide (a < 256 ∧ b < 256) && (Nat.beq (ly_T a) (ly_T b) && Nat.ble (ly_T a) 2)) = true) (hs : 0 ≤ sp ∧ 0 ≤ dp ∧ 0 ≤ n ∧ sp + n ≤ (ly_N a : Int) ∧ dp + n ≤ (ly_N b : Int)) (e : ∀ {M : ms_M} {k : Nat} {v : Int}, VS_ M → lo ≤ v ∧ v ≤ hi → VS_ (up_M M b k v)) (g : ∀ z, VS_ z → (∀ c k, c ≠ b → z c k = M c k) → Ok_ (G z) Q) : Ok_ (cp_S a sp b dp n M G) Q := by
  simp only [Bool.and_eq_true, decide_eq_true_eq] at hT
  obtain ⟨⟨h1, h2⟩, h3, h4⟩ := hT
  have hc := vi_c V
  unfold cp_S
  rw [vi_ln h1, vi_ln h2, if_pos ⟨⟨by omega, by omega, Nat.eq_of_beq_eq_true h3, Nat.le_of_ble_eq_true h4⟩, hs⟩]
  refine g _ (cp_VS V e _ (fun j hj => ha _ (by omega))) ?_
  intro c k hck
  unfold cp_M
  rw [if_neg (fun z => hck z.1)]
theorem pr_X2_parametersOf {nn : Nat} {a1 : Int} {h : ms_M} {u : Int} (e : qf_X2_parametersOf nn a1 h = some u) : u = 0 ∨ (0 ≤ a1 ∧ a1 ≤ 95) := by
  unfold qf_X2_parametersOf at e
  cases z : qf_X2_isMethod nn a1 h with
  | none => rw [z] at e; cases e
  | some w =>
    rw [z, mx_svs] at e
    rcases pr_X2_isMethod z with q | q
    · subst q; rw [if_pos rfl] at e; cases e; exact .inl rfl
    · exact .inr q
set_option maxRecDepth 100000 in
theorem vb1_all : (List.range 256).all (fun c => !(Nat.beq (ly_T c) 1) || (ar_T c && (decide (vb_ c 0 = (-128, 127)) && im_k c 0))) = true := by decide +kernel
theorem vs_upB {M : ms_M} (h : VS_ M) {c k : Nat} {v : Int} (hc : c < cn_M M) (ht : ly_T c = 1) (hv : -128 ≤ v ∧ v ≤ 127) : VS_ (up_M M c k v) := by
  have hM := h.2.1
  by_cases w : c < 256
  · have h1 := List.all_eq_true.1 vb1_all c (List.mem_range.2 w)
    rw [ht] at h1
    have h1 : (ar_T c && (decide (vb_ c 0 = (-128, 127)) && im_k c 0)) = true := h1
    simp only [Bool.and_eq_true, decide_eq_true_eq] at h1
    obtain ⟨h0, h2, h3⟩ := h1
    have h4 : vb_ c k = vb_ c 0 := by
      unfold ar_T at h0
      unfold vb_
      revert h0
      cases vt_[c]? with
      | none => intro _; rfl
      | some x => cases x with
        | inl p => intro _; rfl
        | inr l => intro h0; cases h0
    have hk : kc_O c = 99 := by unfold kc_O; rw [ht]; rfl
    refine vs_up h (by rw [h4, h2]; exact hv) (im_arr h3 hk ⟨?_, ?_, ?_⟩ k) <;> (intro e; rw [e] at ht; exact absurd ht (by decide))
  · obtain ⟨g1, g2, g3, g4, g5, ⟨g6a, g6b, g6c⟩, g7, g8⟩ := h
    have hc9 : c < 900000 := by unfold cn_M at hc; omega
    have A : ∀ c2, c2 ≠ c → up_M M c k v c2 = M c2 := fun c2 z => up_ne c2 z
    have e9 : up_M M c k v 900000 = M 900000 := A _ (by omega)
    have e8 : up_M M c k v 900001 = M 900001 := A _ (by omega)
    have ec : cn_M (up_M M c k v) = cn_M M := by unfold cn_M; rw [e9]
    have el : ∀ d, ln_I (up_M M c k v) d = ln_I M d := by intro d; unfold ln_I; rw [e8]
    have eb : ∀ b, kc_O b = 3 → up_M M c k v b = M b := fun b hb => A b (by have := kc_lt hb (by decide); omega)
    refine ⟨?_, ?_, ?_, ?_, ?_, ⟨?_, ?_, ?_⟩, ?_, ?_⟩
    · intro c2 k2 hc2 hk2; rw [A c2 (by omega)]; exact g1 c2 k2 hc2 hk2
    · rw [e9, e8]; exact g2
    · intro b hb; rw [eb b hb, ec, el]; exact g3 b hb
    · intro d j hd hd2 hj
      rw [el] at hj
      by_cases w2 : d = c ∧ j = k
      · obtain ⟨rfl, rfl⟩ := w2; rw [up_s]; exact hv
      · rw [up_n w2]; exact g4 d j hd hd2 hj
    · intro j hj; rw [A 60 (by omega)]; exact g5 j hj
    · rw [A 56 (by omega)]; exact g6a
    · rw [A 127 (by omega)]; exact g6b
    · rw [A 143 (by omega)]; exact g6c
    · intro j hj; rw [A 43 (by omega), ec, el]; exact g7 j hj
    · intro j hj; rw [A 55 (by omega), ec, el]; exact g8 j hj
theorem cn_up {M : ms_M} {c k : Nat} {v : Int} (hc : c < 900000) : cn_M (up_M M c k v) = cn_M M := by unfold cn_M; rw [up_n (by omega)]
theorem cp_VB {M : ms_M} (h : VS_ M) {a b s d : Nat} (hb : b < cn_M M) (ht : ly_T b = 1) : ∀ n, (∀ j : Nat, j < n → -128 ≤ M a (s + j) ∧ M a (s + j) ≤ 127) → VS_ (cp_M M a s b d n) ∧ cn_M (cp_M M a s b d n) = cn_M M := by
  intro n
  have hM := h.2.1
  have hb9 : b < 900000 := by unfold cn_M at hb; omega
  induction n with
  | zero => intro _; rw [cp_0]; exact ⟨h, rfl⟩
  | succ n ih =>
    intro ha
    obtain ⟨i1, i2⟩ := ih (fun j hj => ha j (by omega))
    have z : cp_M M a s b d (n + 1) = up_M (cp_M M a s b d n) b (d + n) (M a (s + n)) := by
      funext c k
      unfold up_M cp_M
      by_cases w : c = b ∧ k = d + n
      · obtain ⟨rfl, rfl⟩ := w
        rw [if_pos (by omega), if_pos ⟨rfl, rfl⟩]
        have : d + n - d = n := by omega
        rw [this]
      · rw [if_neg w]
        by_cases w2 : c = b ∧ d ≤ k ∧ k < d + n
        · rw [if_pos w2, if_pos (by omega)]
        · rw [if_neg w2, if_neg (by omega)]
    rw [z]; exact ⟨vs_upB i1 (by rw [i2]; exact hb) ht (ha n (by omega)), by rw [cn_up hb9, i2]⟩
theorem ok_cpB {α : Type} {Q : α → Prop} {M : ms_M} (V : VS_ M) {a b : Nat} {sp dp n : Int} {G : ms_M → Option α} (ha : a < cn_M M ∧ ly_T a = 1) (hb : b < cn_M M ∧ ly_T b = 1) (hs : 0 ≤ sp ∧ 0 ≤ dp ∧ 0 ≤ n ∧ sp + n ≤ ln_I M a ∧ dp + n ≤ ln_I M b) (g : ∀ z, VS_ z → (∀ c k, c ≠ b → z c k = M c k) → Ok_ (G z) Q) : Ok_ (cp_S a sp b dp n M G) Q := by
  unfold cp_S
  rw [if_pos ⟨⟨ha.1, hb.1, by rw [ha.2, hb.2], by rw [ha.2]; decide⟩, hs⟩]
  refine g _ (cp_VB V hb.1 hb.2 _ (fun j hj => vi_y V ha.1 ha.2 (by omega))).1 ?_
  intro c k hck
  unfold cp_M
  rw [if_neg (fun z => hck z.1)]
theorem ok_wT {α : Type} {Q : α → Prop} {M : ms_M} (V : VS_ M) {c : Nat} {j v : Int} {G : ms_M → Option α} (hc : c < cn_M M ∧ ly_T c = 1) (hj : 0 ≤ j ∧ j < ln_I M c) (g : ∀ z, z = up_M M c j.toNat (oq_b v) → VS_ z → Ok_ (G z) Q) : Ok_ (wr_T c j v M G) Q := by
  unfold wr_T; rw [if_pos ⟨hc, hj⟩]
  exact g _ rfl (vs_upB V hc.1 hc.2 oq_b_rh)
theorem ok_cmp {α : Type} {Q : α → Prop} {x y : Int} {F : Int → Option α} (h : ∀ v, (v = 1 ∧ y < x ∨ v = 0 ∧ x = y ∨ v = -1 ∧ x < y) → Ok_ (F v) Q) : Ok_ (xl (oq_cmp x y) F) Q := by
  refine h _ ?_
  unfold oq_cmp
  split
  · omega
  · split <;> omega
theorem ok_l2i {α : Type} {Q : α → Prop} {x : Int} {F : Int → Option α} (h : ∀ v, -2147483648 ≤ v → v ≤ 2147483647 → (x < -2147483648 ∨ 2147483647 < x ∨ v = x) → Ok_ (F v) Q) : Ok_ (xl (oq_l2i x) F) Q := by
  have a1 : -2147483648 ≤ oq_l2i x := Int.le_trans (by decide) (Int32.le_toInt _)
  have a2 : oq_l2i x < 2147483648 := Int.lt_of_lt_of_le (Int32.toInt_lt _) (by decide)
  refine h _ a1 (by omega) ?_
  by_cases w : -2147483648 ≤ x ∧ x ≤ 2147483647
  · right; right
    unfold oq_l2i
    rw [Int64.toInt_toInt32]
    have e : (Int64.ofInt x).toInt = x := by
      rw [Int64.toInt_ofInt]
      exact Int.bmod_eq_of_le_mul_two (by show -((18446744073709551616 : Nat) : Int) ≤ x * 2; omega) (by show x * 2 < ((18446744073709551616 : Nat) : Int); omega)
    rw [e]
    exact Int.bmod_eq_of_le_mul_two (by omega) (by omega)
  · omega
theorem lm_X9_nameLength {nn : Nat} {a1 : Int} {h : ms_M} {u : Int} (V : VS_ h) (e : qf_X9_nameLength nn a1 h = some u) : u = 0 ∨ ((0 ≤ a1 ∧ a1 ≤ 1739) ∧ h 7 a1.toNat + u ≤ 6400) := by
  have g9 := gF_2_9 V
  unfold qf_X9_nameLength at e
  split at e
  · cases e; exact .inl rfl
  · split at e
    · cases e; exact .inl rfl
    · right
      have e1 : oq_add a1 1 = a1 + 1 := oq_add_eq (by omega) (by omega) (by omega)
      have r1 := gA_7 V (a1 + 1).toNat (by omega)
      have r2 := gA_7 V a1.toNat (by omega)
      simp (disch := omega) only [xl_eq, e1, rd_ok, oq_sub_eq] at e
      have e := Option.some.inj e
      omega
section
variable {α β : Type} {M : ms_M} {r : α}
theorem rd_i {n : Int} {c : Nat} {j : Int} {G : Int → Option α} (e : rd_A n c j M G = some r) : G (M c j.toNat) = some r := by
  unfold rd_A at e; split at e
  · exact e
  · cases e
theorem wa_i {n : Int} {c : Nat} {j v : Int} {G : ms_M → Option α} (e : wr_A n c j v M G = some r) : G (up_M M c j.toNat v) = some r := by
  unfold wr_A at e; split at e
  · exact e
  · cases e
theorem sv_i {x : Option β} {F : β → Option α} (e : mx_sv x F = some r) : ∃ a, x = some a ∧ F a = some r := by
  cases x with
  | none => cases e
  | some a => exact ⟨a, rfl, e⟩
theorem ck_i {p : Prop} {d : Decidable p} {x : Option α} (e : ck_B p x = some r) : p ∧ x = some r := by
  unfold ck_B at e; split at e
  · exact ⟨by assumption, e⟩
  · cases e
end
theorem lm_X9_closeName {nn : Nat} {a1 : Int} {h u : ms_M} (e : qf_X9_closeName nn a1 h = some u) : u 2 9 = oq_add (h 2 9) 1 := by
  unfold qf_X9_closeName at e
  have e := rd_i e
  rw [xl_eq] at e
  obtain ⟨u6, -, e⟩ := sv_i e
  have e := wa_i (rd_i e)
  have e := wa_i e
  rw [xl_eq, xl_eq] at e
  have e := Option.some.inj (wa_i e)
  rw [← e, up_n (by omega), up_s, up_n (by omega), up_n (by omega)]
theorem pr_X9_isDigit {nn : Nat} {a0 : Int} {h : ms_M} {u : Int} (e : qf_X9_isDigit nn a0 h = some u) : u = 0 ∨ (48 ≤ a0 ∧ a0 ≤ 57) := by
  unfold qf_X9_isDigit at e
  split at e
  · cases e; exact .inl rfl
  · split at e
    · cases e; exact .inl rfl
    · right; omega
theorem vfillK {nn b : Nat} {v : Int} {h : ms_M} (hn : 1000000 ≤ nn) (V : VS_ h) (hb : kc_O b = 4) (hv : -1 ≤ v ∧ v ≤ 341) : Ok_ (qf_J7_fill_53178 nn (b + 1) v h) QV_ := by
  rcases kc_4 hb with rfl | rfl
  · exact vfill hn V (show 13 < 256 by decide) rfl (show 16 ≤ 100000 by decide) (fun _ _ z => wA_13 z hv)
  · exact vfill hn V (show 58 < 256 by decide) rfl (show 16 ≤ 100000 by decide) (fun _ _ z => wA_58 z hv)
theorem po_X7_imageOf {nn : Nat} {a1 : Int} {h : ms_M} {u : Int} (V : VS_ h) (e : qf_X7_imageOf nn a1 h = some u) : u < 0 ∨ (8 ≤ a1 ∧ a1 ≤ 15) := by
  have g3 := gF_56_3 V
  unfold qf_X7_imageOf at e
  split at e
  · cases e; left; decide
  · rw [xl_eq, oq_add_eq (by omega) (by omega) (by omega)] at e
    split at e
    · cases e; left; decide
    · right; omega
theorem po_X7_imageOfMember {nn : Nat} {a1 : Int} {h : ms_M} {u : Int} (V : VS_ h) (e : qf_X7_imageOfMember nn a1 h = some u) : u < 0 ∨ (0 ≤ a1 ∧ a1 ≤ 95) := by
  have g3 := gF_56_3 V
  unfold qf_X7_imageOfMember at e
  split at e
  · cases e; left; decide
  · rw [xl_eq, oq_mul_eq (by omega) (by omega) (by omega)] at e
    split at e
    · cases e; left; decide
    · right; omega
theorem prv_X13_isByte {nn : Nat} {a1 : Int} {h : ms_M} {u : Int × ms_M} (V : VS_ h) (e : qf_X13_isByte nn a1 h = some u) : u.1 = 0 ∨ (-2147483648 ≤ a1 ∧ a1 ≤ 5999) ∨ (a1 < -2147483648) := by
  have g := gF_160_113 V
  by_cases w : a1 ≤ 5999
  · by_cases w2 : -2147483648 ≤ a1
    · exact .inr (.inl ⟨w2, w⟩)
    · exact .inr (.inr (by omega))
  · left
    unfold qf_X13_isByte at e
    split at e
    · rw [if_neg (show ¬ a1 < h 160 113 by omega), xl_eq] at e
      unfold qj_X13_isByte_26 at e
      rw [up_s] at e
      split at e
      · first
          | (exfalso; omega)
          | (cases e; rfl)
      · first
          | (exfalso; omega)
          | (cases e; rfl)
    · cases e; rfl
