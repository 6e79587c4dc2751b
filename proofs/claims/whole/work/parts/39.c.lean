section
theorem pr_X4_isClass {nn : Nat} {a0 : Int} {h : ms_M} {u : Int} (e : qf_X4_isClass nn a0 h = some u) : u = 0 ∨ (0 ≤ a0 ∧ a0 ≤ 15) := by
  unfold qf_X4_isClass at e
  split at e
  · cases e; exact .inl rfl
  · split at e
    · cases e; exact .inl rfl
    · right; omega
theorem pr_X2_isOwn {nn : Nat} {a0 : Int} {h : ms_M} {u : Int} (e : qf_X2_isOwn nn a0 h = some u) : u = 0 ∨ (8 ≤ a0 ∧ a0 ≤ 15) := by
  unfold qf_X2_isOwn at e
  split at e
  · cases e; exact .inl rfl
  · split at e
    · cases e; exact .inl rfl
    · right; omega
theorem pr_X4_isArray {nn : Nat} {a0 : Int} {h : ms_M} {u : Int} (e : qf_X4_isArray nn a0 h = some u) : u = 0 ∨ (100 ≤ a0 ∧ a0 ≤ 200) := by
  unfold qf_X4_isArray at e
  split at e
  · cases e; exact .inl rfl
  · split at e
    · cases e; exact .inl rfl
    · right; omega
theorem pr_X2_isMethod {nn : Nat} {a1 : Int} {h : ms_M} {u : Int} (e : qf_X2_isMethod nn a1 h = some u) : u = 0 ∨ (0 ≤ a1 ∧ a1 ≤ 95) := by
  unfold qf_X2_isMethod at e
  split at e
  · cases e; exact .inl rfl
  · split at e
    · cases e; exact .inl rfl
    · right; omega
theorem pr_X5_isObject {nn : Nat} {a1 : Int} {h : ms_M} {u : Int} (e : qf_X5_isObject nn a1 h = some u) : u = 0 ∨ (1 ≤ a1 ∧ a1 ≤ 2000) := by
  unfold qf_X5_isObject at e
  split at e
  · cases e; exact .inl rfl
  · split at e
    · cases e; exact .inl rfl
    · split at e
      · cases e; exact .inl rfl
      · right; omega
theorem pr_X11_begins {nn : Nat} {a1 : Int} {h : ms_M} {u : Int} (e : qf_X11_begins nn a1 h = some u) : u = 0 ∨ (0 ≤ a1 ∧ a1 ≤ 1499) := by
  unfold qf_X11_begins at e
  split at e
  · cases e; exact .inl rfl
  · split at e
    · cases e; exact .inl rfl
    · unfold rd_A at e
      split at e
      · right; omega
      · cases e
def QO_ : Int → Prop := fun r => r < 0 ∨ kc_O r.toNat = 3
section
variable {α : Type} {Q : α → Prop} {M : ms_M}
theorem ok_cO {x : Option Int} {F : Int → Option α} (hx : Ok_ x QO_) (h : ∀ a, x = some a → (a < 0 ∨ kc_O a.toNat = 3) → Ok_ (F a) Q) : Ok_ (mx_sv x F) Q := by
  obtain ⟨a, e, hq⟩ := hx
  rw [e, mx_svs]; exact h a e hq
theorem ok_rOn : Ok_ (some (-1 : Int)) QO_ := ⟨_, rfl, .inl (by decide)⟩
theorem ok_rOs {c : Nat} (h : kc_O c = 3) : Ok_ (some ((c : Nat) : Int)) QO_ := ⟨_, rfl, .inr h⟩
theorem ok_rOo {y : Int} (h : kc_O y.toNat = 3) : Ok_ (some y) QO_ := ⟨_, rfl, .inr h⟩
theorem vi_b (h : VS_ M) {b : Nat} (hb : kc_O b = 3) : (0 ≤ M b 0 ∧ (M b 0).toNat < cn_M M ∧ ly_T (M b 0).toNat = 1) ∧ M b 1 ≤ ln_I M (M b 0).toNat := h.2.2.1 b hb
theorem vi_c (h : VS_ M) : 256 ≤ cn_M M := by have := h.2.1; unfold cn_M; omega
end
set_option maxRecDepth 100000 in
theorem vby_all : (List.range 256).all (fun c => !(Nat.beq (ly_T c) 1) || (ar_T c && (decide (-128 ≤ (vb_ c 0).1) && decide ((vb_ c 0).2 ≤ 127)))) = true := rfl
theorem vi_ln {c : Nat} {M : ms_M} (hc : c < 256) : ln_I M c = (ly_N c : Int) := by unfold ln_I; rw [if_pos hc]
theorem vi_y {M : ms_M} (h : VS_ M) {c k : Nat} (hc : c < cn_M M) (ht : ly_T c = 1) (hk : (k : Int) < ln_I M c) : -128 ≤ M c k ∧ M c k ≤ 127 := by
  have hM := h.2.1
  by_cases w : c < 256
  · have h1 := List.all_eq_true.1 vby_all c (List.mem_range.2 w)
    rw [ht] at h1
    have h1 : (ar_T c && (decide (-128 ≤ (vb_ c 0).1) && decide ((vb_ c 0).2 ≤ 127))) = true := h1
    simp only [Bool.and_eq_true, decide_eq_true_eq] at h1
    obtain ⟨h0, h2, h3⟩ := h1
    have h4 : vb_ c k = vb_ c 0 := by
      unfold ar_T at h0
      unfold vb_
      revert h0
      cases vt_[c]? with
      | none => intro _; rfl
      | some x => cases x with
        | inl p => intro _; rfl
        | inr l => intro h0; cases h0
    have h5 := h.1 c k w (.inr (by rw [vi_ln w] at hk; omega))
    rw [h4] at h5; omega
  · exact h.2.2.2.1 c k (by omega) (by unfold cn_M at hc; omega) hk
section
variable {α : Type} {Q : α → Prop} {M : ms_M}
theorem ok_rT (h : VS_ M) {c : Nat} {j : Int} {G : Int → Option α} (hc : c < cn_M M ∧ ly_T c = 1) (hj : 0 ≤ j ∧ j < ln_I M c) (g : ∀ v, v = M c j.toNat → -128 ≤ v → v ≤ 127 → Ok_ (G v) Q) : Ok_ (rd_T c j M G) Q := by
  unfold rd_T; rw [if_pos ⟨hc, hj⟩]
  have := vi_y h hc.1 hc.2 (k := j.toNat) (by omega)
  exact g _ rfl this.1 this.2
theorem ln_0 (h : VS_ M) {c : Nat} : 0 ≤ c → True := fun _ => trivial
theorem ok_lS {c : Nat} {G : Int → Option α} (hc : c < cn_M M ∧ ly_T c = 1) (g : ∀ v, v = ln_I M c → Ok_ (G v) Q) : Ok_ (ln_S c M G) Q := by
  unfold ln_S; rw [if_pos ⟨hc.1, by rw [hc.2]; decide⟩]; exact g _ rfl
end
theorem vs_wR {M : ms_M} (h : VS_ M) {c k : Nat} {y : Int} (hc : c = 56 ∧ k = 2 ∨ c = 127 ∧ k = 5 ∨ c = 143 ∧ k = 18) (h0 : 0 ≤ y) (hy : kc_O y.toNat = 3) : VS_ (up_M M c k y) := by
  obtain ⟨h1, h2, h3, h4, h5, ⟨h6a, h6b, h6c⟩, h7, h8⟩ := h
  have hl := kc_lt hy (by decide)
  have A : ∀ c2, c2 ≠ c → up_M M c k y c2 = M c2 := fun c2 z => up_ne c2 z
  have e9 : up_M M c k y 900000 = M 900000 := A _ (by omega)
  have e8 : up_M M c k y 900001 = M 900001 := A _ (by omega)
  have ec : cn_M (up_M M c k y) = cn_M M := by unfold cn_M; rw [e9]
  have el : ∀ d, ln_I (up_M M c k y) d = ln_I M d := by intro d; unfold ln_I; rw [e8]
  have eb : ∀ b, kc_O b = 3 → up_M M c k y b = M b := by
    intro b hb
    refine A b ?_
    rcases hc with ⟨rfl, -⟩ | ⟨rfl, -⟩ | ⟨rfl, -⟩ <;> exact nI_ hb rfl
  refine ⟨?_, ?_, ?_, ?_, ?_, ⟨?_, ?_, ?_⟩, ?_, ?_⟩
  · intro c2 k2 hc2 hk2
    by_cases w : c2 = c ∧ k2 = k
    · obtain ⟨rfl, rfl⟩ := w
      rw [up_s]
      rcases hc with ⟨rfl, rfl⟩ | ⟨rfl, rfl⟩ | ⟨rfl, rfl⟩ <;> (show -2147483648 ≤ y ∧ y ≤ 2147483647; omega)
    · rw [up_n w]; exact h1 c2 k2 hc2 hk2
  · rw [e9, e8]; exact h2
  · intro b hb; rw [eb b hb, ec, el]; exact h3 b hb
  · intro d j hd hd2 hj
    rw [el] at hj
    rw [A d (by omega)]; exact h4 d j hd hd2 hj
  · intro j hj; rw [A 60 (by omega)]; exact h5 j hj
  · by_cases w : 56 = c ∧ 2 = k
    · obtain ⟨rfl, rfl⟩ := w; rw [up_s]; exact ⟨h0, hy⟩
    · rw [up_n w]; exact h6a
  · by_cases w : 127 = c ∧ 5 = k
    · obtain ⟨rfl, rfl⟩ := w; rw [up_s]; exact ⟨h0, hy⟩
    · rw [up_n w]; exact h6b
  · by_cases w : 143 = c ∧ 18 = k
    · obtain ⟨rfl, rfl⟩ := w; rw [up_s]; exact ⟨h0, hy⟩
    · rw [up_n w]; exact h6c
  · intro j hj; rw [A 43 (by omega), ec, el]; exact h7 j hj
  · intro j hj; rw [A 55 (by omega), ec, el]; exact h8 j hj
theorem ok_wR {α : Type} {Q : α → Prop} {M : ms_M} (h : VS_ M) {c k : Nat} {y : Int} {G : ms_M → Option α} (hc : c = 56 ∧ k = 2 ∨ c = 127 ∧ k = 5 ∨ c = 143 ∧ k = 18) (h0 : 0 ≤ y) (hy : kc_O y.toNat = 3) (g : ∀ z, z = up_M M c k y → VS_ z → Ok_ (G z) Q) : Ok_ (wr_R c k y M G) Q := by
  have hl := kc_lt hy (by decide)
  unfold wr_R; rw [if_pos (by omega)]
  exact g _ rfl (vs_wR h hc h0 hy)
theorem pr_X4_isReference {nn : Nat} : True := trivial
theorem tm_rg {x : Int} {n : Nat} (hn : 0 < n) : -(n : Int) < Int.tmod x n ∧ Int.tmod x n < (n : Int) := by
  by_cases w : 0 ≤ x
  · rw [Int.tmod_eq_emod_of_nonneg w]
    have h1 := Int.emod_nonneg x (show (n : Int) ≠ 0 by omega)
    have h2 := Int.emod_lt_of_pos x (show 0 < (n : Int) by omega)
    omega
  · have e : x = -(-x) := by omega
    rw [e, Int.neg_tmod, Int.tmod_eq_emod_of_nonneg (by omega)]
    have h1 := Int.emod_nonneg (-x) (show (n : Int) ≠ 0 by omega)
    have h2 := Int.emod_lt_of_pos (-x) (show 0 < (n : Int) by omega)
    omega
section
variable {α : Type} {Q : α → Prop} {M : ms_M}
theorem ok_remT {x : Int} {n : Nat} {F : Int → Option α} (hn : 0 < n) (h : ∀ v, -(n : Int) < v → v < (n : Int) → Ok_ (F v) Q) : Ok_ (xl (Int.tmod x (n : Int)) F) Q := h _ (tm_rg hn).1 (tm_rg hn).2
theorem ok_divT {x : Int} {n : Nat} {F : Int → Option α} (hn : 0 < n) (h : ∀ v, (n : Int) * v < x + n → x - n < (n : Int) * v → Ok_ (F v) Q) : Ok_ (xl (Int.tdiv x (n : Int)) F) Q := by
  have h1 := Int.mul_tdiv_add_tmod x (n : Int)
  have h2 := tm_rg (x := x) hn
  exact h _ (by omega) (by omega)
theorem ok_lX1 {G : Int → Option α} (h : Ok_ (G 76) Q) : Ok_ (ln_X (1000000000 + 1) G) Q := h
end
def ch_1 (i : Nat) : Bool := match xsc (1000000000 + 1) (Int32.ofInt (i : Int)) with
  | some c => decide (32 ≤ c.toInt ∧ c.toInt ≤ 126)
  | none => false
theorem ch_1a : (List.range 76).all ch_1 = true := by decide +kernel
theorem ok_rX1 {α : Type} {Q : α → Prop} {j : Int} {G : Int → Option α} (hj : 0 ≤ j ∧ j < 76) (h : ∀ v, 32 ≤ v → v ≤ 126 → Ok_ (G v) Q) : Ok_ (rd_X (1000000000 + 1) j G) Q := by
  have h1 := List.all_eq_true.1 ch_1a j.toNat (List.mem_range.2 (by omega))
  unfold ch_1 at h1
  have e : ((j.toNat : Nat) : Int) = j := by omega
  rw [e] at h1
  unfold rd_X
  revert h1
  cases xsc (1000000000 + 1) (Int32.ofInt j) with
  | none => intro h1; cases h1
  | some c => intro h1; have h1 := of_decide_eq_true h1; exact h c.toInt h1.1 h1.2
theorem vfl_5 {nn c : Nat} {v : Int} (hc : c < 256) (ht : ly_T c = 0) (hN : ly_N c ≤ 100000) (e : ∀ M k, VS_ M → VS_ (up_M M c k v)) : ∀ (k : Nat) (l2 : Int) (h : ms_M), VS_ h → 0 ≤ l2 → l2 ≤ (ly_N c : Int) → (ly_N c : Int) - l2 < (k : Int) → Ok_ (qw_J7_fill_53178_5 nn k c v l2 (ly_N c : Int) h) QV_ := by
  intro k
  induction k with
  | zero => intros; exfalso; omega
  | succ k ih =>
    intro l2 h V a b hm
    unfold qw_J7_fill_53178_5
    refine ok_if ?_ ?_
    · intro _; exact ok_rV V
    · intro w
      unfold wr_S
      rw [vi_ln hc, if_pos ⟨⟨by have := vi_c V; omega, ht⟩, by omega⟩]
      refine ok_add (by omega) ?_; intro v2 e2
      exact ih v2 _ (e _ _ V) (by omega) (by omega) (by omega)
theorem vfill {nn c : Nat} {v : Int} {h : ms_M} (hn : 1000000 ≤ nn) (V : VS_ h) (hc : c < 256) (ht : ly_T c = 0) (hN : ly_N c ≤ 100000) (e : ∀ M k, VS_ M → VS_ (up_M M c k v)) : Ok_ (qf_J7_fill_53178 nn c v h) QV_ := by
  unfold qf_J7_fill_53178 ln_S
  rw [if_pos ⟨by have := vi_c V; omega, by rw [ht]; decide⟩, vi_ln hc]
  exact vfl_5 hc ht hN e nn 0 h V (by omega) (by omega) (by omega)
theorem vfl_10 {nn c : Nat} {v to : Int} (hc : c < 256) (ht : ly_T c = 0) (hN : ly_N c ≤ 100000) (hto : to ≤ (ly_N c : Int)) (e : ∀ M k, VS_ M → VS_ (up_M M c k v)) : ∀ (k : Nat) (l4 : Int) (h : ms_M), VS_ h → 0 ≤ l4 → l4 ≤ to → to - l4 < (k : Int) → Ok_ (qw_J7_fill_fda19_10 nn k c to v l4 h) QV_ := by
  intro k
  induction k with
  | zero => intros; exfalso; omega
  | succ k ih =>
    intro l4 h V a b hm
    unfold qw_J7_fill_fda19_10
    refine ok_if ?_ ?_
    · intro _; exact ok_rV V
    · intro w
      unfold wr_S
      rw [vi_ln hc, if_pos ⟨⟨by have := vi_c V; omega, ht⟩, by omega⟩]
      refine ok_add (by omega) ?_; intro v2 e2
      exact ih v2 _ (e _ _ V) (by omega) (by omega) (by omega)
theorem vfillR {nn c : Nat} {v a b : Int} {h : ms_M} (hn : 1000000 ≤ nn) (V : VS_ h) (hc : c < 256) (ht : ly_T c = 0) (hN : ly_N c ≤ 100000) (e : ∀ M k, VS_ M → VS_ (up_M M c k v)) (hab : 0 ≤ a ∧ a ≤ b ∧ b ≤ (ly_N c : Int)) : Ok_ (qf_J7_fill_fda19 nn c a b v h) QV_ := by
  unfold qf_J7_fill_fda19 ln_S
  rw [if_pos ⟨by have := vi_c V; omega, by rw [ht]; decide⟩, vi_ln hc]
  unfold qf_J7_rangeCheck_23922
  dsimp only
  rw [if_pos (by omega), if_pos (by omega), if_pos (by omega), mx_svs]
  exact vfl_10 hc ht hN (by omega) e nn a h V (by omega) (by omega) (by omega)
theorem cp_0 {M : ms_M} {a s b d : Nat} : cp_M M a s b d 0 = M := by
  funext c k
  unfold cp_M
  rw [if_neg (by omega)]
theorem cp_VS {M : ms_M} (h : VS_ M) {a b s d : Nat} {lo hi : Int} (e : ∀ {M : ms_M} {k : Nat} {v : Int}, VS_ M → lo ≤ v ∧ v ≤ hi → VS_ (up_M M b k v)) : ∀ n, (∀ j : Nat, j < n → lo ≤ M a (s + j) ∧ M a (s + j) ≤ hi) → VS_ (cp_M M a s b d n) := by
  intro n
  induction n with
  | zero => intro _; rw [cp_0]; exact h
  | succ n ih =>
    intro ha
    have ih := ih (fun j hj => ha j (by omega))
    have z : cp_M M a s b d (n + 1) = up_M (cp_M M a s b d n) b (d + n) (M a (s + n)) := by
      funext c k
      unfold up_M cp_M
      by_cases w : c = b ∧ k = d + n
      · obtain ⟨rfl, rfl⟩ := w
        rw [if_pos (by omega), if_pos ⟨rfl, rfl⟩]
        have : d + n - d = n := by omega
        rw [this]
      · rw [if_neg w]
        by_cases w2 : c = b ∧ d ≤ k ∧ k < d + n
        · rw [if_pos w2, if_pos (by omega)]
        · rw [if_neg w2, if_neg (by omega)]
    rw [z]; exact e ih (ha n (by omega))
theorem ok_cp {α : Type} {Q : α → Prop} {M : ms_M} (V : VS_ M) {a b : Nat} {sp dp n lo hi : Int} {G : ms_M → Option α} (ha : ∀ k : Nat, (k : Int) < (ly_N a : Int) → lo ≤ M a k ∧ M a k ≤ hi) (hT : (decide (a < 256 ∧ b < 256) && (Nat.beq (ly_T a) (ly_T b) && Nat.ble (ly_T a) 2)) = true) (hs : 0 ≤ sp ∧ 0 ≤ dp ∧ 0 ≤ n ∧ sp + n ≤ (ly_N a : Int) ∧ dp + n ≤ (ly_N b : Int)) (e : ∀ {M : ms_M} {k : Nat} {v : Int}, VS_ M → lo ≤ v ∧ v ≤ hi → VS_ (up_M M b k v)) (g : ∀ z, VS_ z → (∀ c k, c ≠ b → z c k = M c k) → Ok_ (G z) Q) : Ok_ (cp_S a sp b dp n M G) Q := by
  simp only [Bool.and_eq_true, decide_eq_true_eq] at hT
  obtain ⟨⟨h1, h2⟩, h3, h4⟩ := hT
  have hc := vi_c V
  unfold cp_S
  rw [vi_ln h1, vi_ln h2, if_pos ⟨⟨by omega, by omega, Nat.eq_of_beq_eq_true h3, Nat.le_of_ble_eq_true h4⟩, hs⟩]
  refine g _ (cp_VS V e _ (fun j hj => ha _ (by omega))) ?_
  intro c k hck
  unfold cp_M
  rw [if_neg (fun z => hck z.1)]
theorem pr_X2_parametersOf {nn : Nat} {a1 : Int} {h : ms_M} {u : Int} (e : qf_X2_parametersOf nn a1 h = some u) : u = 0 ∨ (0 ≤ a1 ∧ a1 ≤ 95) := by
  unfold qf_X2_parametersOf at e
  cases z : qf_X2_isMethod nn a1 h with
  | none => rw [z] at e; cases e
  | some w =>
    rw [z, mx_svs] at e
    rcases pr_X2_isMethod z with q | q
    · subst q; rw [if_pos rfl] at e; cases e; exact .inl rfl
    · exact .inr q
set_option maxRecDepth 100000 in
theorem vb1_all : (List.range 256).all (fun c => !(Nat.beq (ly_T c) 1) || (ar_T c && (decide (vb_ c 0 = (-128, 127)) && im_k c 0))) = true := by decide +kernel
theorem vs_upB {M : ms_M} (h : VS_ M) {c k : Nat} {v : Int} (hc : c < cn_M M) (ht : ly_T c = 1) (hv : -128 ≤ v ∧ v ≤ 127) : VS_ (up_M M c k v) := by
  have hM := h.2.1
  by_cases w : c < 256
  · have h1 := List.all_eq_true.1 vb1_all c (List.mem_range.2 w)
    rw [ht] at h1
    have h1 : (ar_T c && (decide (vb_ c 0 = (-128, 127)) && im_k c 0)) = true := h1
    simp only [Bool.and_eq_true, decide_eq_true_eq] at h1
    obtain ⟨h0, h2, h3⟩ := h1
    have h4 : vb_ c k = vb_ c 0 := by
      unfold ar_T at h0
      unfold vb_
      revert h0
      cases vt_[c]? with
      | none => intro _; rfl
      | some x => cases x with
        | inl p => intro _; rfl
        | inr l => intro h0; cases h0
    have hk : kc_O c = 99 := by unfold kc_O; rw [ht]; rfl
    refine vs_up h (by rw [h4, h2]; exact hv) (im_arr h3 hk ⟨?_, ?_, ?_⟩ k) <;> (intro e; rw [e] at ht; exact absurd ht (by decide))
  · obtain ⟨g1, g2, g3, g4, g5, ⟨g6a, g6b, g6c⟩, g7, g8⟩ := h
    have hc9 : c < 900000 := by unfold cn_M at hc; omega
    have A : ∀ c2, c2 ≠ c → up_M M c k v c2 = M c2 := fun c2 z => up_ne c2 z
    have e9 : up_M M c k v 900000 = M 900000 := A _ (by omega)
    have e8 : up_M M c k v 900001 = M 900001 := A _ (by omega)
    have ec : cn_M (up_M M c k v) = cn_M M := by unfold cn_M; rw [e9]
    have el : ∀ d, ln_I (up_M M c k v) d = ln_I M d := by intro d; unfold ln_I; rw [e8]
    have eb : ∀ b, kc_O b = 3 → up_M M c k v b = M b := fun b hb => A b (by have := kc_lt hb (by decide); omega)
    refine ⟨?_, ?_, ?_, ?_, ?_, ⟨?_, ?_, ?_⟩, ?_, ?_⟩
    · intro c2 k2 hc2 hk2; rw [A c2 (by omega)]; exact g1 c2 k2 hc2 hk2
    · rw [e9, e8]; exact g2
    · intro b hb; rw [eb b hb, ec, el]; exact g3 b hb
    · intro d j hd hd2 hj
      rw [el] at hj
      by_cases w2 : d = c ∧ j = k
      · obtain ⟨rfl, rfl⟩ := w2; rw [up_s]; exact hv
      · rw [up_n w2]; exact g4 d j hd hd2 hj
    · intro j hj; rw [A 60 (by omega)]; exact g5 j hj
    · rw [A 56 (by omega)]; exact g6a
    · rw [A 127 (by omega)]; exact g6b
    · rw [A 143 (by omega)]; exact g6c
    · intro j hj; rw [A 43 (by omega), ec, el]; exact g7 j hj
    · intro j hj; rw [A 55 (by omega), ec, el]; exact g8 j hj
theorem cn_up {M : ms_M} {c k : Nat} {v : Int} (hc : c < 900000) : cn_M (up_M M c k v) = cn_M M := by unfold cn_M; rw [up_n (by omega)]
theorem cp_VB {M : ms_M} (h : VS_ M) {a b s d : Nat} (hb : b < cn_M M) (ht : ly_T b = 1) : ∀ n, (∀ j : Nat, j < n → -128 ≤ M a (s + j) ∧ M a (s + j) ≤ 127) → VS_ (cp_M M a s b d n) ∧ cn_M (cp_M M a s b d n) = cn_M M := by
  intro n
  have hM := h.2.1
  have hb9 : b < 900000 := by unfold cn_M at hb; omega
  induction n with
  | zero => intro _; rw [cp_0]; exact ⟨h, rfl⟩
  | succ n ih =>
    intro ha
    obtain ⟨i1, i2⟩ := ih (fun j hj => ha j (by omega))
    have z : cp_M M a s b d (n + 1) = up_M (cp_M M a s b d n) b (d + n) (M a (s + n)) := by
      funext c k
      unfold up_M cp_M
      by_cases w : c = b ∧ k = d + n
      · obtain ⟨rfl, rfl⟩ := w
        rw [if_pos (by omega), if_pos ⟨rfl, rfl⟩]
        have : d + n - d = n := by omega
        rw [this]
      · rw [if_neg w]
        by_cases w2 : c = b ∧ d ≤ k ∧ k < d + n
        · rw [if_pos w2, if_pos (by omega)]
        · rw [if_neg w2, if_neg (by omega)]
    rw [z]; exact ⟨vs_upB i1 (by rw [i2]; exact hb) ht (ha n (by omega)), by rw [cn_up hb9, i2]⟩
theorem ok_cpB {α : Type} {Q : α → Prop} {M : ms_M} (V : VS_ M) {a b : Nat} {sp dp n : Int} {G : ms_M → Option α} (ha : a < cn_M M ∧ ly_T a = 1) (hb : b < cn_M M ∧ ly_T b = 1) (hs : 0 ≤ sp ∧ 0 ≤ dp ∧ 0 ≤ n ∧ sp + n ≤ ln_I M a ∧ dp + n ≤ ln_I M b) (g : ∀ z, VS_ z → (∀ c k, c ≠ b → z c k = M c k) → Ok_ (G z) Q) : Ok_ (cp_S a sp b dp n M G) Q := by
  unfold cp_S
  rw [if_pos ⟨⟨ha.1, hb.1, by rw [ha.2, hb.2], by rw [ha.2]; decide⟩, hs⟩]
  refine g _ (cp_VB V hb.1 hb.2 _ (fun j hj => vi_y V ha.1 ha.2 (by omega))).1 ?_
  intro c k hck
  unfold cp_M
  rw [if_neg (fun z => hck z.1)]
theorem ok_wT {α : Type} {Q : α → Prop} {M : ms_M} (V : VS_ M) {c : Nat} {j v : Int} {G : ms_M → Option α} (hc : c < cn_M M ∧ ly_T c = 1) (hj : 0 ≤ j ∧ j < ln_I M c) (g : ∀ z, z = up_M M c j.toNat (oq_b v) → VS_ z → Ok_ (G z) Q) : Ok_ (wr_T c j v M G) Q := by
  unfold wr_T; rw [if_pos ⟨hc, hj⟩]
  exact g _ rfl (vs_upB V hc.1 hc.2 oq_b_rh)
theorem ok_cmp {α : Type} {Q : α → Prop} {x y : Int} {F : Int → Option α} (h : ∀ v, (v = 1 ∧ y < x ∨ v = 0 ∧ x = y ∨ v = -1 ∧ x < y) → Ok_ (F v) Q) : Ok_ (xl (oq_cmp x y) F) Q := by
  refine h _ ?_
  unfold oq_cmp
  split
  · omega
  · split <;> omega
theorem ok_l2i {α : Type} {Q : α → Prop} {x : Int} {F : Int → Option α} (h : ∀ v, -2147483648 ≤ v → v ≤ 2147483647 → (x < -2147483648 ∨ 2147483647 < x ∨ v = x) → Ok_ (F v) Q) : Ok_ (xl (oq_l2i x) F) Q := by
  have a1 : -2147483648 ≤ oq_l2i x := Int.le_trans (by decide) (Int32.le_toInt _)
  have a2 : oq_l2i x < 2147483648 := Int.lt_of_lt_of_le (Int32.toInt_lt _) (by decide)
  refine h _ a1 (by omega) ?_
  by_cases w : -2147483648 ≤ x ∧ x ≤ 2147483647
  · right; right
    unfold oq_l2i
    rw [Int64.toInt_toInt32]
    have e : (Int64.ofInt x).toInt = x := by
      rw [Int64.toInt_ofInt]
      exact Int.bmod_eq_of_le_mul_two (by show -((18446744073709551616 : Nat) : Int) ≤ x * 2; omega) (by show x * 2 < ((18446744073709551616 : Nat) : Int); omega)
    rw [e]
    exact Int.bmod_eq_of_le_mul_two (by omega) (by omega)
  · omega
theorem lm_X9_nameLength {nn : Nat} {a1 : Int} {h : ms_M} {u : Int} (V : VS_ h) (e : qf_X9_nameLength nn a1 h = some u) : u = 0 ∨ ((0 ≤ a1 ∧ a1 ≤ 1739) ∧ h 7 a1.toNat + u ≤ 6400) := by
  have g9 := gF_2_9 V
  unfold qf_X9_nameLength at e
  split at e
  · cases e; exact .inl rfl
  · split at e
    · cases e; exact .inl rfl
    · right
      have e1 : oq_add a1 1 = a1 + 1 := oq_add_eq (by omega) (by omega) (by omega)
      have r1 := gA_7 V (a1 + 1).toNat (by omega)
      have r2 := gA_7 V a1.toNat (by omega)
      simp (disch := omega) only [xl_eq, e1, rd_ok, oq_sub_eq] at e
      have e := Option.some.inj e
      omega
section
variable {α β : Type} {M : ms_M} {r : α}
theorem rd_i {n : Int} {c : Nat} {j : Int} {G : Int → Option α} (e : rd_A n c j M G = some r) : G (M c j.toNat) = some r := by
  unfold rd_A at e; split at e
  · exact e
  · cases e
theorem wa_i {n : Int} {c : Nat} {j v : Int} {G : ms_M → Option α} (e : wr_A n c j v M G = some r) : G (up_M M c j.toNat v) = some r := by
  unfold wr_A at e; split at e
  · exact e
  · cases e
theorem sv_i {x : Option β} {F : β → Option α} (e : mx_sv x F = some r) : ∃ a, x = some a ∧ F a = some r := by
  cases x with
  | none => cases e
  | some a => exact ⟨a, rfl, e⟩
theorem ck_i {p : Prop} {d : Decidable p} {x : Option α} (e : ck_B p x = some r) : p ∧ x = some r := by
  unfold ck_B at e; split at e
  · exact ⟨by assumption, e⟩
  · cases e
end
theorem lm_X9_closeName {nn : Nat} {a1 : Int} {h u : ms_M} (e : qf_X9_closeName nn a1 h = some u) : u 2 9 = oq_add (h 2 9) 1 := by
  unfold qf_X9_closeName at e
  have e := rd_i e
  rw [xl_eq] at e
  obtain ⟨u6, -, e⟩ := sv_i e
  have e := wa_i (rd_i e)
  have e := wa_i e
  rw [xl_eq, xl_eq] at e
  have e := Option.some.inj (wa_i e)
  rw [← e, up_n (by omega), up_s, up_n (by omega), up_n (by omega)]
theorem pr_X9_isDigit {nn : Nat} {a0 : Int} {h : ms_M} {u : Int} (e : qf_X9_isDigit nn a0 h = some u) : u = 0 ∨ (48 ≤ a0 ∧ a0 ≤ 57) := by
  unfold qf_X9_isDigit at e
  split at e
  · cases e; exact .inl rfl
  · split at e
    · cases e; exact .inl rfl
    · right; omega
theorem vfillK {nn b : Nat} {v : Int} {h : ms_M} (hn : 1000000 ≤ nn) (V : VS_ h) (hb : kc_O b = 4) (hv : -1 ≤ v ∧ v ≤ 341) : Ok_ (qf_J7_fill_53178 nn (b + 1) v h) QV_ := by
  rcases kc_4 hb with rfl | rfl
  · exact vfill hn V (show 13 < 256 by decide) rfl (show 16 ≤ 100000 by decide) (fun _ _ z => wA_13 z hv)
  · exact vfill hn V (show 58 < 256 by decide) rfl (show 16 ≤ 100000 by decide) (fun _ _ z => wA_58 z hv)
theorem po_X7_imageOf {nn : Nat} {a1 : Int} {h : ms_M} {u : Int} (V : VS_ h) (e : qf_X7_imageOf nn a1 h = some u) : u < 0 ∨ (8 ≤ a1 ∧ a1 ≤ 15) := by
  have g3 := gF_56_3 V
  unfold qf_X7_imageOf at e
  split at e
  · cases e; left; decide
  · rw [xl_eq, oq_add_eq (by omega) (by omega) (by omega)] at e
    split at e
    · cases e; left; decide
    · right; omega
theorem po_X7_imageOfMember {nn : Nat} {a1 : Int} {h : ms_M} {u : Int} (V : VS_ h) (e : qf_X7_imageOfMember nn a1 h = some u) : u < 0 ∨ (0 ≤ a1 ∧ a1 ≤ 95) := by
  have g3 := gF_56_3 V
  unfold qf_X7_imageOfMember at e
  split at e
  · cases e; left; decide
  · rw [xl_eq, oq_mul_eq (by omega) (by omega) (by omega)] at e
    split at e
    · cases e; left; decide
    · right; omega
theorem prv_X13_isByte {nn : Nat} {a1 : Int} {h : ms_M} {u : Int × ms_M} (V : VS_ h) (e : qf_X13_isByte nn a1 h = some u) : u.1 = 0 ∨ (-2147483648 ≤ a1 ∧ a1 ≤ 5999) ∨ (a1 < -2147483648) := by
  have g := gF_160_113 V
  by_cases w : a1 ≤ 5999
  · by_cases w2 : -2147483648 ≤ a1
    · exact .inr (.inl ⟨w2, w⟩)
    · exact .inr (.inr (by omega))
  · left
    unfold qf_X13_isByte at e
    split at e
    · rw [if_neg (show ¬ a1 < h 160 113 by omega), xl_eq] at e
      unfold qj_X13_isByte_26 at e
      rw [up_s] at e
      split at e
      · first
          | (exfalso; omega)
          | (cases e; rfl)
      · first
          | (exfalso; omega)
          | (cases e; rfl)
    · cases e; rfl
end
section
def np_S (b : Nat) (L : List Nat) (c k : Nat) : Prop := c = b ∧ L.contains k = false
theorem np_f {b k0 : Nat} {L : List Nat} (h : L.contains k0 = true) : ∀ c k, np_S b L c k → ¬ (c = b ∧ k = k0) := by
  rintro c k ⟨-, z⟩ ⟨-, rfl⟩; rw [h] at z; cases z
theorem np_a {b off : Nat} {L : List Nat} (h : 0 < off) : ∀ c k, np_S b L c k → c ≠ b + off := by
  rintro c k ⟨z, -⟩ e; omega
theorem np_s {b : Nat} {L1 L2 : List Nat} (h : L2.all (fun x => L1.contains x) = true) : ∀ c k, np_S b L1 c k → np_S b L2 c k := by
  rintro c k ⟨z, y⟩
  refine ⟨z, ?_⟩
  cases e : L2.contains k with
  | false => rfl
  | true =>
    have := List.all_eq_true.1 h k (List.contains_iff_mem.1 e)
    rw [y] at this; cases this
set_option maxRecDepth 4000 in
theorem pf_X3_bad (nn : Nat) {a0 : Nat} {a1 : Int} {h : ms_M} (hb_a0 : kc_O a0 = 3) : Fm_ (np_S a0 [3]) h (qf_X3_bad nn a0 a1 h) (fun r => r) := by
  unfold qf_X3_bad
  have F_h : ∀ c k : Nat, (np_S a0 [3]) c k → h c k = h c k := fun _ _ _ => rfl
  refine fm_if ?_ ?_
  · exact fm_ret F_h
  · refine fm_up F_h (np_f rfl) ?_; intro h2 F_h2
    exact fm_ret F_h2
set_option maxRecDepth 4000 in
theorem pf_X3_next (nn : Nat) {a0 : Nat} {h : ms_M} (hb_a0 : kc_O a0 = 3) : Fm_ (np_S a0 [2, 3]) h (qf_X3_next nn a0 h) (fun r => r.2) := by
  unfold qf_X3_next
  have F_h : ∀ c k : Nat, (np_S a0 [2, 3]) c k → h c k = h c k := fun _ _ _ => rfl
  refine fm_if ?_ ?_
  · refine fm_xl ?_; intro v4
    refine fm_up F_h (np_f rfl) ?_; intro h5 F_h5
    refine fm_ck ?_; intro _
    refine fm_xl ?_; intro v8
    refine fm_rdT ?_; intro v9
    refine fm_xl ?_; intro v10
    exact fm_ret F_h5
  · refine fm_if ?_ ?_
    · refine fm_up F_h (np_f rfl) ?_; intro h13 F_h13
      exact fm_ret F_h13
    · refine fm_up F_h (np_f rfl) ?_; intro h15 F_h15
      exact fm_ret F_h15
set_option maxRecDepth 4000 in
theorem pj_X3_nextPlainClass_29 (nn : Nat) {l0 : Nat} {l2 : Int} {h : ms_M} (hb_l0 : kc_O l0 = 3) : Fm_ (np_S l0 [2, 3]) h (qj_X3_nextPlainClass_29 nn l0 l2 h) (fun r => r.2) := by
  unfold qj_X3_nextPlainClass_29
  have F_h : ∀ c k : Nat, (np_S l0 [2, 3]) c k → h c k = h c k := fun _ _ _ => rfl
  refine fm_xl ?_; intro v2
  refine fm_ca F_h (pf_X3_bad nn hb_l0) (np_s rfl) ?_; intro u4 F_u4
  exact fm_ret F_u4
set_option maxRecDepth 4000 in
theorem pf_X3_nextPlainClass (nn : Nat) {a0 : Nat} {h : ms_M} (hb_a0 : kc_O a0 = 3) : Fm_ (np_S a0 [2, 3]) h (qf_X3_nextPlainClass nn a0 h) (fun r => r.2) := by
  unfold qf_X3_nextPlainClass
  have F_h : ∀ c k : Nat, (np_S a0 [2, 3]) c k → h c k = h c k := fun _ _ _ => rfl
  refine fm_ca F_h (pf_X3_next nn hb_a0) (np_s rfl) ?_; intro u6 F_u6
  refine fm_pu ?_; intro u8
  refine fm_pu ?_; intro u10
  refine fm_if ?_ ?_
  · exact fm_tl F_u6 (pj_X3_nextPlainClass_29 nn hb_a0) (fun _ _ z => z)
  · refine fm_pu ?_; intro u12
    refine fm_if ?_ ?_
    · exact fm_ret F_u6
    · exact fm_tl F_u6 (pj_X3_nextPlainClass_29 nn hb_a0) (fun _ _ z => z)
set_option maxRecDepth 4000 in
theorem pj_X3_nextUpTo_15 (nn : Nat) {l0 : Nat} {l3 : Int} {h : ms_M} (hb_l0 : kc_O l0 = 3) : Fm_ (np_S l0 [2, 3]) h (qj_X3_nextUpTo_15 nn l0 l3 h) (fun r => r.2) := by
  unfold qj_X3_nextUpTo_15
  have F_h : ∀ c k : Nat, (np_S l0 [2, 3]) c k → h c k = h c k := fun _ _ _ => rfl
  refine fm_xl ?_; intro v2
  refine fm_ca F_h (pf_X3_bad nn hb_l0) (np_s rfl) ?_; intro u4 F_u4
  exact fm_ret F_u4
set_option maxRecDepth 4000 in
theorem pf_X3_nextUpTo (nn : Nat) {a0 : Nat} {a1 : Int} {a2 : Int} {h : ms_M} (hb_a0 : kc_O a0 = 3) : Fm_ (np_S a0 [2, 3]) h (qf_X3_nextUpTo nn a0 a1 a2 h) (fun r => r.2) := by
  unfold qf_X3_nextUpTo
  have F_h : ∀ c k : Nat, (np_S a0 [2, 3]) c k → h c k = h c k := fun _ _ _ => rfl
  refine fm_ca F_h (pf_X3_next nn hb_a0) (np_s rfl) ?_; intro u6 F_u6
  refine fm_if ?_ ?_
  · exact fm_tl F_u6 (pj_X3_nextUpTo_15 nn hb_a0) (fun _ _ z => z)
  · refine fm_if ?_ ?_
    · exact fm_ret F_u6
    · exact fm_tl F_u6 (pj_X3_nextUpTo_15 nn hb_a0) (fun _ _ z => z)
set_option maxRecDepth 4000 in
theorem pj_X3_checkConstant_109 (nn : Nat) {l0 : Nat} {l2 : Int} {l3 : Int} {h : ms_M} (hb_l0 : kc_O l0 = 3) : Fm_ (np_S l0 [3]) h (qj_X3_checkConstant_109 nn l0 l2 l3 h) (fun r => r) := by
  unfold qj_X3_checkConstant_109
  have F_h : ∀ c k : Nat, (np_S l0 [3]) c k → h c k = h c k := fun _ _ _ => rfl
  refine fm_pu ?_; intro u2
  refine fm_if ?_ ?_
  · exact fm_ret F_h
  · refine fm_pu ?_; intro u4
    refine fm_if ?_ ?_
    · exact fm_ret F_h
    · refine fm_xl ?_; intro v5
      refine fm_ca F_h (pf_X3_bad nn hb_l0) (np_s rfl) ?_; intro u7 F_u7
      exact fm_ret F_u7
set_option maxRecDepth 4000 in
theorem pj_X3_checkConstant_89 (nn : Nat) {l0 : Nat} {l1 : Int} {l2 : Int} {l3 : Int} {h : ms_M} (hb_l0 : kc_O l0 = 3) : Fm_ (np_S l0 [3]) h (qj_X3_checkConstant_89 nn l0 l1 l2 l3 h) (fun r => r) := by
  unfold qj_X3_checkConstant_89
  have F_h : ∀ c k : Nat, (np_S l0 [3]) c k → h c k = h c k := fun _ _ _ => rfl
  refine fm_pu ?_; intro u11
  refine fm_pu ?_; intro u13
  refine fm_if ?_ ?_
  · exact fm_tl F_h (pj_X3_checkConstant_109 nn hb_l0) (fun _ _ z => z)
  · refine fm_xl ?_; intro v14
    refine fm_ca F_h (pf_X3_bad nn hb_l0) (np_s rfl) ?_; intro u16 F_u16
    exact fm_tl F_u16 (pj_X3_checkConstant_109 nn hb_l0) (fun _ _ z => z)
set_option maxRecDepth 4000 in
theorem pj_X3_checkConstant_53 (nn : Nat) {l0 : Nat} {l1 : Int} {l2 : Int} {h : ms_M} (hb_l0 : kc_O l0 = 3) : Fm_ (np_S l0 [3]) h (qj_X3_checkConstant_53 nn l0 l1 l2 h) (fun r => r) := by
  unfold qj_X3_checkConstant_53
  have F_h : ∀ c k : Nat, (np_S l0 [3]) c k → h c k = h c k := fun _ _ _ => rfl
  refine fm_rd ?_; intro v19
  refine fm_if ?_ ?_
  · exact fm_ret F_h
  · refine fm_pu ?_; intro u21
    refine fm_pu ?_; intro u23
    refine fm_pu ?_; intro u25
    refine fm_if ?_ ?_
    · exact fm_tl F_h (pj_X3_checkConstant_89 nn hb_l0) (fun _ _ z => z)
    · refine fm_ca F_h (pf_X3_bad nn hb_l0) (np_s rfl) ?_; intro u27 F_u27
      exact fm_tl F_u27 (pj_X3_checkConstant_89 nn hb_l0) (fun _ _ z => z)
set_option maxRecDepth 4000 in
theorem pj_X3_checkConstant_48 (nn : Nat) {l0 : Nat} {l1 : Int} {l2 : Int} {h : ms_M} (hb_l0 : kc_O l0 = 3) : Fm_ (np_S l0 [3]) h (qj_X3_checkConstant_48 nn l0 l1 l2 h) (fun r => r) := by
  unfold qj_X3_checkConstant_48
  have F_h : ∀ c k : Nat, (np_S l0 [3]) c k → h c k = h c k := fun _ _ _ => rfl
  refine fm_ca F_h (pf_X3_bad nn hb_l0) (np_s rfl) ?_; intro u31 F_u31
  exact fm_tl F_u31 (pj_X3_checkConstant_53 nn hb_l0) (fun _ _ z => z)
set_option maxRecDepth 4000 in
theorem pf_X3_checkConstant (nn : Nat) {a0 : Nat} {a1 : Int} {h : ms_M} (hb_a0 : kc_O a0 = 3) : Fm_ (np_S a0 [3]) h (qf_X3_checkConstant nn a0 a1 h) (fun r => r) := by
  unfold qf_X3_checkConstant
  have F_h : ∀ c k : Nat, (np_S a0 [3]) c k → h c k = h c k := fun _ _ _ => rfl
  refine fm_rd ?_; intro v33
  refine fm_rd ?_; intro v35
  refine fm_if ?_ ?_
  · exact fm_tl F_h (pj_X3_checkConstant_53 nn hb_a0) (fun _ _ z => z)
  · refine fm_pu ?_; intro u37
    refine fm_pu ?_; intro u39
    refine fm_if ?_ ?_
    · exact fm_tl F_h (pj_X3_checkConstant_53 nn hb_a0) (fun _ _ z => z)
    · refine fm_pu ?_; intro u41
      refine fm_if ?_ ?_
      · exact fm_tl F_h (pj_X3_checkConstant_48 nn hb_a0) (fun _ _ z => z)
      · refine fm_pu ?_; intro u43
        refine fm_if ?_ ?_
        · exact fm_tl F_h (pj_X3_checkConstant_53 nn hb_a0) (fun _ _ z => z)
        · exact fm_tl F_h (pj_X3_checkConstant_48 nn hb_a0) (fun _ _ z => z)
set_option maxRecDepth 4000 in
theorem pw_X3_readConstant_84 (nn : Nat) : ∀ (k : Nat) {l0 : Nat} {l2 : Int} {l3 : Int} {l4 : Int} {h : ms_M} (hb_l0 : kc_O l0 = 3), Fm_ (np_S l0 [2, 3]) h (qw_X3_readConstant_84 nn k l0 l2 l3 l4 h) (fun r => r) := by
  intro k
  induction k with
  | zero => intros; exact fm_no
  | succ k ih =>
    intro l0 l2 l3 l4 h hb_l0
    unfold qw_X3_readConstant_84
    have F_h : ∀ c k : Nat, (np_S l0 [2, 3]) c k → h c k = h c k := fun _ _ _ => rfl
    refine fm_if ?_ ?_
    · exact fm_ret F_h
    · refine fm_if ?_ ?_
      · exact fm_ret F_h
      · refine fm_if ?_ ?_
        · refine fm_ca F_h (pf_X3_next nn hb_l0) (np_s rfl) ?_; intro u3 F_u3
          refine fm_xl ?_; intro v4
          exact fm_tl F_u3 (ih hb_l0) (fun _ _ z => z)
        · refine fm_ca F_h (pf_X3_nextUpTo nn hb_l0) (np_s rfl) ?_; intro u6 F_u6
          refine fm_xl ?_; intro v7
          exact fm_tl F_u6 (ih hb_l0) (fun _ _ z => z)
set_option maxRecDepth 4000 in
theorem pj_X3_readConstant_40 (nn : Nat) {l0 : Nat} {l1 : Int} {l2 : Int} {l3 : Int} {h : ms_M} (hb_l0 : kc_O l0 = 3) : Fm_ (np_S l0 [2, 3]) h (qj_X3_readConstant_40 nn l0 l1 l2 l3 h) (fun r => r) := by
  unfold qj_X3_readConstant_40
  have F_h : ∀ c k : Nat, (np_S l0 [2, 3]) c k → h c k = h c k := fun _ _ _ => rfl
  refine fm_wA F_h (np_a (by decide)) ?_; intro h12 F_h12
  refine fm_wA F_h12 (np_a (by decide)) ?_; intro h15 F_h15
  refine fm_if ?_ ?_
  · refine fm_wA F_h15 (np_a (by decide)) ?_; intro h18 F_h18
    exact fm_tl F_h18 (pw_X3_readConstant_84 nn _ hb_l0) (fun _ _ z => z)
  · refine fm_xl ?_; intro v20
    refine fm_wA F_h15 (np_a (by decide)) ?_; intro h21 F_h21
    exact fm_tl F_h21 (pw_X3_readConstant_84 nn _ hb_l0) (fun _ _ z => z)
set_option maxRecDepth 4000 in
theorem pj_X3_readConstant_26 (nn : Nat) {l0 : Nat} {l1 : Int} {l2 : Int} {s0 : Int} {h : ms_M} (hb_l0 : kc_O l0 = 3) : Fm_ (np_S l0 [2, 3]) h (qj_X3_readConstant_26 nn l0 l1 l2 s0 h) (fun r => r) := by
  unfold qj_X3_readConstant_26
  have F_h : ∀ c k : Nat, (np_S l0 [2, 3]) c k → h c k = h c k := fun _ _ _ => rfl
  refine fm_if ?_ ?_
  · exact fm_tl F_h (pj_X3_readConstant_40 nn hb_l0) (fun _ _ z => z)
  · refine fm_ca F_h (pf_X3_nextUpTo nn hb_l0) (np_s rfl) ?_; intro u24 F_u24
    exact fm_tl F_u24 (pj_X3_readConstant_40 nn hb_l0) (fun _ _ z => z)
set_option maxRecDepth 4000 in
theorem pf_X3_readConstant (nn : Nat) {a0 : Nat} {a1 : Int} {h : ms_M} (hb_a0 : kc_O a0 = 3) : Fm_ (np_S a0 [2, 3]) h (qf_X3_readConstant nn a0 a1 h) (fun r => r) := by
  unfold qf_X3_readConstant
  have F_h : ∀ c k : Nat, (np_S a0 [2, 3]) c k → h c k = h c k := fun _ _ _ => rfl
  refine fm_ca F_h (pf_X3_nextUpTo nn hb_a0) (np_s rfl) ?_; intro u27 F_u27
  refine fm_if ?_ ?_
  · refine fm_if ?_ ?_
    · exact fm_tl F_u27 (pj_X3_readConstant_26 nn hb_a0) (fun _ _ z => z)
    · exact fm_tl F_u27 (pj_X3_readConstant_26 nn hb_a0) (fun _ _ z => z)
  · exact fm_tl F_u27 (pj_X3_readConstant_26 nn hb_a0) (fun _ _ z => z)
set_option maxRecDepth 4000 in
theorem pw_X3_readConstants_57 (nn : Nat) : ∀ (k : Nat) {l0 : Nat} {l1 : Int} {h : ms_M} (hb_l0 : kc_O l0 = 3), Fm_ (np_S l0 [2, 3, 7]) h (qw_X3_readConstants_57 nn k l0 l1 h) (fun r => r) := by
  intro k
  induction k with
  | zero => intros; exact fm_no
  | succ k ih =>
    intro l0 l1 h hb_l0
    unfold qw_X3_readConstants_57
    have F_h : ∀ c k : Nat, (np_S l0 [2, 3, 7]) c k → h c k = h c k := fun _ _ _ => rfl
    refine fm_if ?_ ?_
    · exact fm_ret F_h
    · refine fm_if ?_ ?_
      · exact fm_ret F_h
      · refine fm_ca F_h (pf_X3_checkConstant nn hb_l0) (np_s rfl) ?_; intro u4 F_u4
        refine fm_xl ?_; intro v5
        exact fm_tl F_u4 (ih hb_l0) (fun _ _ z => z)
set_option maxRecDepth 4000 in
theorem pw_X3_readConstants_28 (nn : Nat) : ∀ (k : Nat) {l0 : Nat} {l1 : Int} {h : ms_M} (hb_l0 : kc_O l0 = 3), Fm_ (np_S l0 [2, 3, 7]) h (qw_X3_readConstants_28 nn k l0 l1 h) (fun r => r) := by
  intro k
  induction k with
  | zero => intros; exact fm_no
  | succ k ih =>
    intro l0 l1 h hb_l0
    unfold qw_X3_readConstants_28
    have F_h : ∀ c k : Nat, (np_S l0 [2, 3, 7]) c k → h c k = h c k := fun _ _ _ => rfl
    refine fm_if ?_ ?_
    · exact fm_tl F_h (pw_X3_readConstants_57 nn _ hb_l0) (fun _ _ z => z)
    · refine fm_if ?_ ?_
      · exact fm_tl F_h (pw_X3_readConstants_57 nn _ hb_l0) (fun _ _ z => z)
      · refine fm_ca F_h (pf_X3_readConstant nn hb_l0) (np_s rfl) ?_; intro u11 F_u11
        refine fm_xl ?_; intro v12
        exact fm_tl F_u11 (ih hb_l0) (fun _ _ z => z)
set_option maxRecDepth 4000 in
theorem pf_X3_readConstants (nn : Nat) {a0 : Nat} {h : ms_M} (hb_a0 : kc_O a0 = 3) : Fm_ (np_S a0 [2, 3, 7]) h (qf_X3_readConstants nn a0 h) (fun r => r) := by
  unfold qf_X3_readConstants
  have F_h : ∀ c k : Nat, (np_S a0 [2, 3, 7]) c k → h c k = h c k := fun _ _ _ => rfl
  refine fm_ca F_h (pf_X3_nextUpTo nn hb_a0) (np_s rfl) ?_; intro u16 F_u16
  refine fm_ca F_u16 (pf_X3_nextUpTo nn hb_a0) (np_s rfl) ?_; intro u18 F_u18
  refine fm_ca F_u18 (pf_X3_next nn hb_a0) (np_s rfl) ?_; intro u20 F_u20
  refine fm_up F_u20 (np_f rfl) ?_; intro h21 F_h21
  exact fm_tl F_h21 (pw_X3_readConstants_28 nn _ hb_a0) (fun _ _ z => z)
set_option maxRecDepth 4000 in
theorem pf_X3_nextName (nn : Nat) {a0 : Nat} {h : ms_M} (hb_a0 : kc_O a0 = 3) : Fm_ (np_S a0 [2, 3]) h (qf_X3_nextName nn a0 h) (fun r => r.2) := by
  unfold qf_X3_nextName
  have F_h : ∀ c k : Nat, (np_S a0 [2, 3]) c k → h c k = h c k := fun _ _ _ => rfl
  refine fm_ca F_h (pf_X3_next nn hb_a0) (np_s rfl) ?_; intro u2 F_u2
  refine fm_pu ?_; intro u4
  refine fm_if ?_ ?_
  · exact fm_ret F_u2
  · refine fm_xl ?_; intro v6
    refine fm_ca F_u2 (pf_X3_bad nn hb_a0) (np_s rfl) ?_; intro u8 F_u8
    exact fm_ret F_u8
set_option maxRecDepth 4000 in
theorem pj_X3_readFields_58 (nn : Nat) {qkk_10 : Nat → Int → Int → ms_M → Option ms_M} (hk_kk_10 : ∀ {l0 : Nat} {l1 : Int} {l2 : Int} {h : ms_M} (hb_l0 : kc_O l0 = 3), Fm_ (np_S l0 [2, 3, 10]) h (qkk_10 l0 l1 l2 h) (fun r => r)) {l0 : Nat} {l1 : Int} {l2 : Int} {l3 : Int} {h : ms_M} (hb_l0 : kc_O l0 = 3) : Fm_ (np_S l0 [2, 3, 10]) h (qj_X3_readFields_58 nn qkk_10 l0 l1 l2 l3 h) (fun r => r) := by
  unfold qj_X3_readFields_58
  have F_h : ∀ c k : Nat, (np_S l0 [2, 3, 10]) c k → h c k = h c k := fun _ _ _ => rfl
  refine fm_xl ?_; intro v2
  refine fm_xl ?_; intro v3
  refine fm_wA F_h (np_a (by decide)) ?_; intro h4 F_h4
  refine fm_xl ?_; intro v6
  refine fm_up F_h4 (np_f rfl) ?_; intro h7 F_h7
  refine fm_xl ?_; intro v8
  exact fm_tl F_h7 (hk_kk_10 hb_l0) (fun _ _ z => z)
set_option maxRecDepth 4000 in
theorem pw_X3_readFields_10 (nn : Nat) : ∀ (k : Nat) {l0 : Nat} {l1 : Int} {l2 : Int} {h : ms_M} (hb_l0 : kc_O l0 = 3), Fm_ (np_S l0 [2, 3, 10]) h (qw_X3_readFields_10 nn k l0 l1 l2 h) (fun r => r) := by
  intro k
  induction k with
  | zero => intros; exact fm_no
  | succ k ih =>
    intro l0 l1 l2 h hb_l0
    unfold qw_X3_readFields_10
    have F_h : ∀ c k : Nat, (np_S l0 [2, 3, 10]) c k → h c k = h c k := fun _ _ _ => rfl
    refine fm_if ?_ ?_
    · exact fm_ret F_h
    · refine fm_if ?_ ?_
      · exact fm_ret F_h
      · refine fm_xl ?_; intro v11
        refine fm_ca F_h (pf_X3_nextName nn hb_l0) (np_s rfl) ?_; intro u13 F_u13
        refine fm_wA F_u13 (np_a (by decide)) ?_; intro h14 F_h14
        refine fm_ca F_h14 (pf_X3_next nn hb_l0) (np_s rfl) ?_; intro u16 F_u16
        refine fm_pu ?_; intro u18
        refine fm_if ?_ ?_
        · exact fm_tl F_u16 (pj_X3_readFields_58 nn ih hb_l0) (fun _ _ z => z)
        · refine fm_xl ?_; intro v20
          refine fm_ca F_u16 (pf_X3_bad nn hb_l0) (np_s rfl) ?_; intro u22 F_u22
          exact fm_tl F_u22 (pj_X3_readFields_58 nn ih hb_l0) (fun _ _ z => z)
set_option maxRecDepth 4000 in
theorem pf_X3_readFields (nn : Nat) {a0 : Nat} {h : ms_M} (hb_a0 : kc_O a0 = 3) : Fm_ (np_S a0 [2, 3, 10]) h (qf_X3_readFields nn a0 h) (fun r => r) := by
  unfold qf_X3_readFields
  have F_h : ∀ c k : Nat, (np_S a0 [2, 3, 10]) c k → h c k = h c k := fun _ _ _ => rfl
  refine fm_ca F_h (pf_X3_nextUpTo nn hb_a0) (np_s rfl) ?_; intro u27 F_u27
  exact fm_tl F_u27 (pw_X3_readFields_10 nn _ hb_a0) (fun _ _ z => z)
set_option maxRecDepth 4000 in
theorem pj_X3_readCode_85 (nn : Nat) {l0 : Nat} {l4 : Int} {h : ms_M} (hb_l0 : kc_O l0 = 3) : Fm_ (np_S l0 [2, 3]) h (qj_X3_readCode_85 nn l0 l4 h) (fun r => r) := by
  unfold qj_X3_readCode_85
  have F_h : ∀ c k : Nat, (np_S l0 [2, 3]) c k → h c k = h c k := fun _ _ _ => rfl
  refine fm_xl ?_; intro v2
  refine fm_xl ?_; intro v4
  refine fm_up F_h (np_f rfl) ?_; intro h5 F_h5
  exact fm_ret F_h5
set_option maxRecDepth 4000 in
theorem pj_X3_readCode_40 (nn : Nat) {l0 : Nat} {l1 : Int} {l4 : Int} {h : ms_M} (hb_l0 : kc_O l0 = 3) : Fm_ (np_S l0 [2, 3]) h (qj_X3_readCode_40 nn l0 l1 l4 h) (fun r => r) := by
  unfold qj_X3_readCode_40
  have F_h : ∀ c k : Nat, (np_S l0 [2, 3]) c k → h c k = h c k := fun _ _ _ => rfl
  refine fm_xl ?_; intro v7
  refine fm_wA F_h (np_a (by decide)) ?_; intro h8 F_h8
  refine fm_xl ?_; intro v10
  refine fm_wA F_h8 (np_a (by decide)) ?_; intro h12 F_h12
  refine fm_xl ?_; intro v14
  refine fm_if ?_ ?_
  · exact fm_tl F_h12 (pj_X3_readCode_85 nn hb_l0) (fun _ _ z => z)
  · refine fm_ca F_h12 (pf_X3_bad nn hb_l0) (np_s rfl) ?_; intro u18 F_u18
    exact fm_tl F_u18 (pj_X3_readCode_85 nn hb_l0) (fun _ _ z => z)
set_option maxRecDepth 4000 in
theorem pj_X3_readCode_35 (nn : Nat) {l0 : Nat} {l1 : Int} {l2 : Int} {l4 : Int} {h : ms_M} (hb_l0 : kc_O l0 = 3) : Fm_ (np_S l0 [2, 3]) h (qj_X3_readCode_35 nn l0 l1 l2 l4 h) (fun r => r) := by
  unfold qj_X3_readCode_35
  have F_h : ∀ c k : Nat, (np_S l0 [2, 3]) c k → h c k = h c k := fun _ _ _ => rfl
  refine fm_ca F_h (pf_X3_bad nn hb_l0) (np_s rfl) ?_; intro u21 F_u21
  exact fm_tl F_u21 (pj_X3_readCode_40 nn hb_l0) (fun _ _ z => z)
set_option maxRecDepth 4000 in
theorem pf_X3_readCode (nn : Nat) {a0 : Nat} {a1 : Int} {h : ms_M} (hb_a0 : kc_O a0 = 3) : Fm_ (np_S a0 [2, 3]) h (qf_X3_readCode nn a0 a1 h) (fun r => r) := by
  unfold qf_X3_readCode
  have F_h : ∀ c k : Nat, (np_S a0 [2, 3]) c k → h c k = h c k := fun _ _ _ => rfl
  refine fm_ca F_h (pf_X3_next nn hb_a0) (np_s rfl) ?_; intro u24 F_u24
  refine fm_xl ?_; intro v25
  refine fm_ca F_u24 (pf_X3_next nn hb_a0) (np_s rfl) ?_; intro u27 F_u27
  refine fm_xl ?_; intro v28
  refine fm_if ?_ ?_
  · exact fm_tl F_u27 (pj_X3_readCode_35 nn hb_a0) (fun _ _ z => z)
  · refine fm_if ?_ ?_
    · exact fm_tl F_u27 (pj_X3_readCode_40 nn hb_a0) (fun _ _ z => z)
    · exact fm_tl F_u27 (pj_X3_readCode_35 nn hb_a0) (fun _ _ z => z)
set_option maxRecDepth 4000 in
theorem pf_X3_nextClass (nn : Nat) {a0 : Nat} {h : ms_M} (hb_a0 : kc_O a0 = 3) : Fm_ (np_S a0 [2, 3]) h (qf_X3_nextClass nn a0 h) (fun r => r) := by
  unfold qf_X3_nextClass
  have F_h : ∀ c k : Nat, (np_S a0 [2, 3]) c k → h c k = h c k := fun _ _ _ => rfl
  refine fm_ca F_h (pf_X3_next nn hb_a0) (np_s rfl) ?_; intro u2 F_u2
  refine fm_pu ?_; intro u4
  refine fm_if ?_ ?_
  · exact fm_ret F_u2
  · refine fm_xl ?_; intro v6
    refine fm_ca F_u2 (pf_X3_bad nn hb_a0) (np_s rfl) ?_; intro u8 F_u8
    exact fm_ret F_u8
set_option maxRecDepth 4000 in
theorem pw_X3_readFrameTypes_7 (nn : Nat) : ∀ (k : Nat) {l0 : Nat} {l1 : Int} {l2 : Int} {h : ms_M} (hb_l0 : kc_O l0 = 3), Fm_ (np_S l0 [2, 3]) h (qw_X3_readFrameTypes_7 nn k l0 l1 l2 h) (fun r => r) := by
  intro k
  induction k with
  | zero => intros; exact fm_no
  | succ k ih =>
    intro l0 l1 l2 h hb_l0
    unfold qw_X3_readFrameTypes_7
    have F_h : ∀ c k : Nat, (np_S l0 [2, 3]) c k → h c k = h c k := fun _ _ _ => rfl
    refine fm_if ?_ ?_
    · exact fm_ret F_h
    · refine fm_if ?_ ?_
      · exact fm_ret F_h
      · refine fm_ca F_h (pf_X3_nextUpTo nn hb_l0) (np_s rfl) ?_; intro u3 F_u3
        refine fm_if ?_ ?_
        · refine fm_xl ?_; intro v4
          exact fm_tl F_u3 (ih hb_l0) (fun _ _ z => z)
        · refine fm_ca F_u3 (pf_X3_nextClass nn hb_l0) (np_s rfl) ?_; intro u6 F_u6
          refine fm_xl ?_; intro v7
          exact fm_tl F_u6 (ih hb_l0) (fun _ _ z => z)
set_option maxRecDepth 4000 in
theorem pf_X3_readFrameTypes (nn : Nat) {a0 : Nat} {h : ms_M} (hb_a0 : kc_O a0 = 3) : Fm_ (np_S a0 [2, 3]) h (qf_X3_readFrameTypes nn a0 h) (fun r => r) := by
  unfold qf_X3_readFrameTypes
  have F_h : ∀ c k : Nat, (np_S a0 [2, 3]) c k → h c k = h c k := fun _ _ _ => rfl
  refine fm_ca F_h (pf_X3_next nn hb_a0) (np_s rfl) ?_; intro u12 F_u12
  exact fm_tl F_u12 (pw_X3_readFrameTypes_7 nn _ hb_a0) (fun _ _ z => z)
set_option maxRecDepth 4000 in
theorem pw_X3_skipPairs_2 (nn : Nat) : ∀ (k : Nat) {l0 : Nat} {l1 : Int} {l2 : Int} {h : ms_M} (hb_l0 : kc_O l0 = 3), Fm_ (np_S l0 [2, 3]) h (qw_X3_skipPairs_2 nn k l0 l1 l2 h) (fun r => r) := by
  intro k
  induction k with
  | zero => intros; exact fm_no
  | succ k ih =>
    intro l0 l1 l2 h hb_l0
    unfold qw_X3_skipPairs_2
    have F_h : ∀ c k : Nat, (np_S l0 [2, 3]) c k → h c k = h c k := fun _ _ _ => rfl
    refine fm_xl ?_; intro v1
    refine fm_if ?_ ?_
    · exact fm_ret F_h
    · refine fm_ca F_h (pf_X3_next nn hb_l0) (np_s rfl) ?_; intro u3 F_u3
      refine fm_xl ?_; intro v4
      exact fm_tl F_u3 (ih hb_l0) (fun _ _ z => z)
set_option maxRecDepth 4000 in
theorem pf_X3_skipPairs (nn : Nat) {a0 : Nat} {a1 : Int} {h : ms_M} (hb_a0 : kc_O a0 = 3) : Fm_ (np_S a0 [2, 3]) h (qf_X3_skipPairs nn a0 a1 h) (fun r => r) := by
  unfold qf_X3_skipPairs
  have F_h : ∀ c k : Nat, (np_S a0 [2, 3]) c k → h c k = h c k := fun _ _ _ => rfl
  exact fm_tl F_h (pw_X3_skipPairs_2 nn _ hb_a0) (fun _ _ z => z)
set_option maxRecDepth 4000 in
theorem pw_X3_readFrames_33 (nn : Nat) : ∀ (k : Nat) {l0 : Nat} {l2 : Int} {l3 : Int} {h : ms_M} (hb_l0 : kc_O l0 = 3), Fm_ (np_S l0 [2, 3]) h (qw_X3_readFrames_33 nn k l0 l2 l3 h) (fun r => r) := by
  intro k
  induction k with
  | zero => intros; exact fm_no
  | succ k ih =>
    intro l0 l2 l3 h hb_l0
    unfold qw_X3_readFrames_33
    have F_h : ∀ c k : Nat, (np_S l0 [2, 3]) c k → h c k = h c k := fun _ _ _ => rfl
    refine fm_if ?_ ?_
    · exact fm_ret F_h
    · refine fm_if ?_ ?_
      · exact fm_ret F_h
      · refine fm_ca F_h (pf_X3_skipPairs nn hb_l0) (np_s rfl) ?_; intro u3 F_u3
        refine fm_ca F_u3 (pf_X3_readFrameTypes nn hb_l0) (np_s rfl) ?_; intro u5 F_u5
        refine fm_ca F_u5 (pf_X3_readFrameTypes nn hb_l0) (np_s rfl) ?_; intro u7 F_u7
        refine fm_xl ?_; intro v8
        exact fm_tl F_u7 (ih hb_l0) (fun _ _ z => z)
set_option maxRecDepth 4000 in
theorem pf_X3_readFrames (nn : Nat) {a0 : Nat} {a1 : Int} {h : ms_M} (hb_a0 : kc_O a0 = 3) : Fm_ (np_S a0 [2, 3]) h (qf_X3_readFrames nn a0 a1 h) (fun r => r) := by
  unfold qf_X3_readFrames
  have F_h : ∀ c k : Nat, (np_S a0 [2, 3]) c k → h c k = h c k := fun _ _ _ => rfl
  refine fm_ca F_h (pf_X3_nextUpTo nn hb_a0) (np_s rfl) ?_; intro u12 F_u12
  refine fm_xl ?_; intro v14
  refine fm_wA F_u12 (np_a (by decide)) ?_; intro h15 F_h15
  refine fm_xl ?_; intro v17
  refine fm_wA F_h15 (np_a (by decide)) ?_; intro h19 F_h19
  exact fm_tl F_h19 (pw_X3_readFrames_33 nn _ hb_a0) (fun _ _ z => z)
set_option maxRecDepth 4000 in
theorem pw_X3_readHandlers_33 (nn : Nat) : ∀ (k : Nat) {l0 : Nat} {l2 : Int} {l3 : Int} {h : ms_M} (hb_l0 : kc_O l0 = 3), Fm_ (np_S l0 [2, 3]) h (qw_X3_readHandlers_33 nn k l0 l2 l3 h) (fun r => r) := by
  intro k
  induction k with
  | zero => intros; exact fm_no
  | succ k ih =>
    intro l0 l2 l3 h hb_l0
    unfold qw_X3_readHandlers_33
    have F_h : ∀ c k : Nat, (np_S l0 [2, 3]) c k → h c k = h c k := fun _ _ _ => rfl
    refine fm_if ?_ ?_
    · exact fm_ret F_h
    · refine fm_if ?_ ?_
      · exact fm_ret F_h
      · refine fm_ca F_h (pf_X3_skipPairs nn hb_l0) (np_s rfl) ?_; intro u3 F_u3
        refine fm_ca F_u3 (pf_X3_nextClass nn hb_l0) (np_s rfl) ?_; intro u5 F_u5
        refine fm_xl ?_; intro v6
        exact fm_tl F_u5 (ih hb_l0) (fun _ _ z => z)
set_option maxRecDepth 4000 in
theorem pf_X3_readHandlers (nn : Nat) {a0 : Nat} {a1 : Int} {h : ms_M} (hb_a0 : kc_O a0 = 3) : Fm_ (np_S a0 [2, 3]) h (qf_X3_readHandlers nn a0 a1 h) (fun r => r) := by
  unfold qf_X3_readHandlers
  have F_h : ∀ c k : Nat, (np_S a0 [2, 3]) c k → h c k = h c k := fun _ _ _ => rfl
  refine fm_ca F_h (pf_X3_nextUpTo nn hb_a0) (np_s rfl) ?_; intro u10 F_u10
  refine fm_xl ?_; intro v12
  refine fm_wA F_u10 (np_a (by decide)) ?_; intro h13 F_h13
  refine fm_xl ?_; intro v15
  refine fm_wA F_h13 (np_a (by decide)) ?_; intro h17 F_h17
  exact fm_tl F_h17 (pw_X3_readHandlers_33 nn _ hb_a0) (fun _ _ z => z)
set_option maxRecDepth 4000 in
theorem pj_X3_readMethod_52 (nn : Nat) {l0 : Nat} {l1 : Int} {l2 : Int} {l3 : Int} {h : ms_M} (hb_l0 : kc_O l0 = 3) : Fm_ (np_S l0 [2, 3]) h (qj_X3_readMethod_52 nn l0 l1 l2 l3 h) (fun r => r) := by
  unfold qj_X3_readMethod_52
  have F_h : ∀ c k : Nat, (np_S l0 [2, 3]) c k → h c k = h c k := fun _ _ _ => rfl
  refine fm_xl ?_; intro v2
  refine fm_wA F_h (np_a (by decide)) ?_; intro h3 F_h3
  refine fm_xl ?_; intro v5
  refine fm_wA F_h3 (np_a (by decide)) ?_; intro h6 F_h6
  refine fm_xl ?_; intro v8
  refine fm_ca F_h6 (pf_X3_nextUpTo nn hb_l0) (np_s rfl) ?_; intro u10 F_u10
  refine fm_wA F_u10 (np_a (by decide)) ?_; intro h11 F_h11
  refine fm_xl ?_; intro v13
  refine fm_xl ?_; intro v14
  refine fm_xl ?_; intro v16
  refine fm_rd ?_; intro v17
  refine fm_xl ?_; intro v18
  refine fm_ca F_h11 (pf_X3_nextUpTo nn hb_l0) (np_s rfl) ?_; intro u20 F_u20
  refine fm_wA F_u20 (np_a (by decide)) ?_; intro h21 F_h21
  refine fm_ca F_h21 (pf_X3_readCode nn hb_l0) (np_s rfl) ?_; intro u23 F_u23
  refine fm_ca F_u23 (pf_X3_readHandlers nn hb_l0) (np_s rfl) ?_; intro u25 F_u25
  refine fm_ca F_u25 (pf_X3_readFrames nn hb_l0) (np_s rfl) ?_; intro u27 F_u27
  exact fm_ret F_u27
set_option maxRecDepth 4000 in
theorem pf_X3_readMethod (nn : Nat) {a0 : Nat} {a1 : Int} {h : ms_M} (hb_a0 : kc_O a0 = 3) : Fm_ (np_S a0 [2, 3]) h (qf_X3_readMethod nn a0 a1 h) (fun r => r) := by
  unfold qf_X3_readMethod
  have F_h : ∀ c k : Nat, (np_S a0 [2, 3]) c k → h c k = h c k := fun _ _ _ => rfl
  refine fm_xl ?_; intro v29
  refine fm_ca F_h (pf_X3_nextUpTo nn hb_a0) (np_s rfl) ?_; intro u31 F_u31
  refine fm_wA F_u31 (np_a (by decide)) ?_; intro h32 F_h32
  refine fm_xl ?_; intro v34
  refine fm_ca F_h32 (pf_X3_nextName nn hb_a0) (np_s rfl) ?_; intro u36 F_u36
  refine fm_wA F_u36 (np_a (by decide)) ?_; intro h37 F_h37
  refine fm_ca F_h37 (pf_X3_next nn hb_a0) (np_s rfl) ?_; intro u39 F_u39
  refine fm_pu ?_; intro u41
  refine fm_if ?_ ?_
  · exact fm_tl F_u39 (pj_X3_readMethod_52 nn hb_a0) (fun _ _ z => z)
  · refine fm_xl ?_; intro v43
    refine fm_ca F_u39 (pf_X3_bad nn hb_a0) (np_s rfl) ?_; intro u45 F_u45
    exact fm_tl F_u45 (pj_X3_readMethod_52 nn hb_a0) (fun _ _ z => z)
end
section
def no_S (b : Nat) (c _k : Nat) : Prop := c < b ∨ b + 6 < c
theorem no_f {b k0 : Nat} : ∀ c k, no_S b c k → ¬ (c = b ∧ k = k0) := by
  rintro c k z ⟨e, -⟩; unfold no_S at z; omega
theorem no_a {b off : Nat} (h : off ≤ 6) : ∀ c k, no_S b c k → c ≠ b + off := by
  rintro c k z e; unfold no_S at z; omega
set_option maxRecDepth 4000 in
theorem of_X3_bad (nn : Nat) {a0 : Nat} {a1 : Int} {h : ms_M} (hb_a0 : kc_O a0 = 3) : Fm_ (no_S a0) h (qf_X3_bad nn a0 a1 h) (fun r => r) := by
  unfold qf_X3_bad
  have F_h : ∀ c k : Nat, (no_S a0) c k → h c k = h c k := fun _ _ _ => rfl
  refine fm_if ?_ ?_
  · exact fm_ret F_h
  · refine fm_up F_h no_f ?_; intro h2 F_h2
    exact fm_ret F_h2
set_option maxRecDepth 4000 in
theorem of_X3_next (nn : Nat) {a0 : Nat} {h : ms_M} (hb_a0 : kc_O a0 = 3) : Fm_ (no_S a0) h (qf_X3_next nn a0 h) (fun r => r.2) := by
  unfold qf_X3_next
  have F_h : ∀ c k : Nat, (no_S a0) c k → h c k = h c k := fun _ _ _ => rfl
  refine fm_if ?_ ?_
  · refine fm_xl ?_; intro v4
    refine fm_up F_h no_f ?_; intro h5 F_h5
    refine fm_ck ?_; intro _
    refine fm_xl ?_; intro v8
    refine fm_rdT ?_; intro v9
    refine fm_xl ?_; intro v10
    exact fm_ret F_h5
  · refine fm_if ?_ ?_
    · refine fm_up F_h no_f ?_; intro h13 F_h13
      exact fm_ret F_h13
    · refine fm_up F_h no_f ?_; intro h15 F_h15
      exact fm_ret F_h15
set_option maxRecDepth 4000 in
theorem oj_X3_nextPlainClass_29 (nn : Nat) {l0 : Nat} {l2 : Int} {h : ms_M} (hb_l0 : kc_O l0 = 3) : Fm_ (no_S l0) h (qj_X3_nextPlainClass_29 nn l0 l2 h) (fun r => r.2) := by
  unfold qj_X3_nextPlainClass_29
  have F_h : ∀ c k : Nat, (no_S l0) c k → h c k = h c k := fun _ _ _ => rfl
  refine fm_xl ?_; intro v2
  refine fm_ca F_h (of_X3_bad nn hb_l0) (fun _ _ z => z) ?_; intro u4 F_u4
  exact fm_ret F_u4
set_option maxRecDepth 4000 in
theorem of_X3_nextPlainClass (nn : Nat) {a0 : Nat} {h : ms_M} (hb_a0 : kc_O a0 = 3) : Fm_ (no_S a0) h (qf_X3_nextPlainClass nn a0 h) (fun r => r.2) := by
  unfold qf_X3_nextPlainClass
  have F_h : ∀ c k : Nat, (no_S a0) c k → h c k = h c k := fun _ _ _ => rfl
  refine fm_ca F_h (of_X3_next nn hb_a0) (fun _ _ z => z) ?_; intro u6 F_u6
  refine fm_pu ?_; intro u8
  refine fm_pu ?_; intro u10
  refine fm_if ?_ ?_
  · exact fm_tl F_u6 (oj_X3_nextPlainClass_29 nn hb_a0) (fun _ _ z => z)
  · refine fm_pu ?_; intro u12
    refine fm_if ?_ ?_
    · exact fm_ret F_u6
    · exact fm_tl F_u6 (oj_X3_nextPlainClass_29 nn hb_a0) (fun _ _ z => z)
set_option maxRecDepth 4000 in
theorem oj_X3_nextUpTo_15 (nn : Nat) {l0 : Nat} {l3 : Int} {h : ms_M} (hb_l0 : kc_O l0 = 3) : Fm_ (no_S l0) h (qj_X3_nextUpTo_15 nn l0 l3 h) (fun r => r.2) := by
  unfold qj_X3_nextUpTo_15
  have F_h : ∀ c k : Nat, (no_S l0) c k → h c k = h c k := fun _ _ _ => rfl
  refine fm_xl ?_; intro v2
  refine fm_ca F_h (of_X3_bad nn hb_l0) (fun _ _ z => z) ?_; intro u4 F_u4
  exact fm_ret F_u4
set_option maxRecDepth 4000 in
theorem of_X3_nextUpTo (nn : Nat) {a0 : Nat} {a1 : Int} {a2 : Int} {h : ms_M} (hb_a0 : kc_O a0 = 3) : Fm_ (no_S a0) h (qf_X3_nextUpTo nn a0 a1 a2 h) (fun r => r.2) := by
  unfold qf_X3_nextUpTo
  have F_h : ∀ c k : Nat, (no_S a0) c k → h c k = h c k := fun _ _ _ => rfl
  refine fm_ca F_h (of_X3_next nn hb_a0) (fun _ _ z => z) ?_; intro u6 F_u6
  refine fm_if ?_ ?_
  · exact fm_tl F_u6 (oj_X3_nextUpTo_15 nn hb_a0) (fun _ _ z => z)
  · refine fm_if ?_ ?_
    · exact fm_ret F_u6
    · exact fm_tl F_u6 (oj_X3_nextUpTo_15 nn hb_a0) (fun _ _ z => z)
set_option maxRecDepth 4000 in
theorem oj_X3_checkConstant_109 (nn : Nat) {l0 : Nat} {l2 : Int} {l3 : Int} {h : ms_M} (hb_l0 : kc_O l0 = 3) : Fm_ (no_S l0) h (qj_X3_checkConstant_109 nn l0 l2 l3 h) (fun r => r) := by
  unfold qj_X3_checkConstant_109
  have F_h : ∀ c k : Nat, (no_S l0) c k → h c k = h c k := fun _ _ _ => rfl
  refine fm_pu ?_; intro u2
  refine fm_if ?_ ?_
  · exact fm_ret F_h
  · refine fm_pu ?_; intro u4
    refine fm_if ?_ ?_
    · exact fm_ret F_h
    · refine fm_xl ?_; intro v5
      refine fm_ca F_h (of_X3_bad nn hb_l0) (fun _ _ z => z) ?_; intro u7 F_u7
      exact fm_ret F_u7
set_option maxRecDepth 4000 in
theorem oj_X3_checkConstant_89 (nn : Nat) {l0 : Nat} {l1 : Int} {l2 : Int} {l3 : Int} {h : ms_M} (hb_l0 : kc_O l0 = 3) : Fm_ (no_S l0) h (qj_X3_checkConstant_89 nn l0 l1 l2 l3 h) (fun r => r) := by
  unfold qj_X3_checkConstant_89
  have F_h : ∀ c k : Nat, (no_S l0) c k → h c k = h c k := fun _ _ _ => rfl
  refine fm_pu ?_; intro u11
  refine fm_pu ?_; intro u13
  refine fm_if ?_ ?_
  · exact fm_tl F_h (oj_X3_checkConstant_109 nn hb_l0) (fun _ _ z => z)
  · refine fm_xl ?_; intro v14
    refine fm_ca F_h (of_X3_bad nn hb_l0) (fun _ _ z => z) ?_; intro u16 F_u16
    exact fm_tl F_u16 (oj_X3_checkConstant_109 nn hb_l0) (fun _ _ z => z)
set_option maxRecDepth 4000 in
theorem oj_X3_checkConstant_53 (nn : Nat) {l0 : Nat} {l1 : Int} {l2 : Int} {h : ms_M} (hb_l0 : kc_O l0 = 3) : Fm_ (no_S l0) h (qj_X3_checkConstant_53 nn l0 l1 l2 h) (fun r => r) := by
  unfold qj_X3_checkConstant_53
  have F_h : ∀ c k : Nat, (no_S l0) c k → h c k = h c k := fun _ _ _ => rfl
  refine fm_rd ?_; intro v19
  refine fm_if ?_ ?_
  · exact fm_ret F_h
  · refine fm_pu ?_; intro u21
    refine fm_pu ?_; intro u23
    refine fm_pu ?_; intro u25
    refine fm_if ?_ ?_
    · exact fm_tl F_h (oj_X3_checkConstant_89 nn hb_l0) (fun _ _ z => z)
    · refine fm_ca F_h (of_X3_bad nn hb_l0) (fun _ _ z => z) ?_; intro u27 F_u27
      exact fm_tl F_u27 (oj_X3_checkConstant_89 nn hb_l0) (fun _ _ z => z)
set_option maxRecDepth 4000 in
theorem oj_X3_checkConstant_48 (nn : Nat) {l0 : Nat} {l1 : Int} {l2 : Int} {h : ms_M} (hb_l0 : kc_O l0 = 3) : Fm_ (no_S l0) h (qj_X3_checkConstant_48 nn l0 l1 l2 h) (fun r => r) := by
  unfold qj_X3_checkConstant_48
  have F_h : ∀ c k : Nat, (no_S l0) c k → h c k = h c k := fun _ _ _ => rfl
  refine fm_ca F_h (of_X3_bad nn hb_l0) (fun _ _ z => z) ?_; intro u31 F_u31
  exact fm_tl F_u31 (oj_X3_checkConstant_53 nn hb_l0) (fun _ _ z => z)
set_option maxRecDepth 4000 in
theorem of_X3_checkConstant (nn : Nat) {a0 : Nat} {a1 : Int} {h : ms_M} (hb_a0 : kc_O a0 = 3) : Fm_ (no_S a0) h (qf_X3_checkConstant nn a0 a1 h) (fun r => r) := by
  unfold qf_X3_checkConstant
  have F_h : ∀ c k : Nat, (no_S a0) c k → h c k = h c k := fun _ _ _ => rfl
  refine fm_rd ?_; intro v33
  refine fm_rd ?_; intro v35
  refine fm_if ?_ ?_
  · exact fm_tl F_h (oj_X3_checkConstant_53 nn hb_a0) (fun _ _ z => z)
  · refine fm_pu ?_; intro u37
    refine fm_pu ?_; intro u39
    refine fm_if ?_ ?_
    · exact fm_tl F_h (oj_X3_checkConstant_53 nn hb_a0) (fun _ _ z => z)
    · refine fm_pu ?_; intro u41
      refine fm_if ?_ ?_
      · exact fm_tl F_h (oj_X3_checkConstant_48 nn hb_a0) (fun _ _ z => z)
      · refine fm_pu ?_; intro u43
        refine fm_if ?_ ?_
        · exact fm_tl F_h (oj_X3_checkConstant_53 nn hb_a0) (fun _ _ z => z)
        · exact fm_tl F_h (oj_X3_checkConstant_48 nn hb_a0) (fun _ _ z => z)
set_option maxRecDepth 4000 in
theorem ow_X3_readConstant_84 (nn : Nat) : ∀ (k : Nat) {l0 : Nat} {l2 : Int} {l3 : Int} {l4 : Int} {h : ms_M} (hb_l0 : kc_O l0 = 3), Fm_ (no_S l0) h (qw_X3_readConstant_84 nn k l0 l2 l3 l4 h) (fun r => r) := by
  intro k
  induction k with
  | zero => intros; exact fm_no
  | succ k ih =>
    intro l0 l2 l3 l4 h hb_l0
    unfold qw_X3_readConstant_84
    have F_h : ∀ c k : Nat, (no_S l0) c k → h c k = h c k := fun _ _ _ => rfl
    refine fm_if ?_ ?_
    · exact fm_ret F_h
    · refine fm_if ?_ ?_
      · exact fm_ret F_h
      · refine fm_if ?_ ?_
        · refine fm_ca F_h (of_X3_next nn hb_l0) (fun _ _ z => z) ?_; intro u3 F_u3
          refine fm_xl ?_; intro v4
          exact fm_tl F_u3 (ih hb_l0) (fun _ _ z => z)
        · refine fm_ca F_h (of_X3_nextUpTo nn hb_l0) (fun _ _ z => z) ?_; intro u6 F_u6
          refine fm_xl ?_; intro v7
          exact fm_tl F_u6 (ih hb_l0) (fun _ _ z => z)
set_option maxRecDepth 4000 in
theorem oj_X3_readConstant_40 (nn : Nat) {l0 : Nat} {l1 : Int} {l2 : Int} {l3 : Int} {h : ms_M} (hb_l0 : kc_O l0 = 3) : Fm_ (no_S l0) h (qj_X3_readConstant_40 nn l0 l1 l2 l3 h) (fun r => r) := by
  unfold qj_X3_readConstant_40
  have F_h : ∀ c k : Nat, (no_S l0) c k → h c k = h c k := fun _ _ _ => rfl
  refine fm_wA F_h (no_a (by decide)) ?_; intro h12 F_h12
  refine fm_wA F_h12 (no_a (by decide)) ?_; intro h15 F_h15
  refine fm_if ?_ ?_
  · refine fm_wA F_h15 (no_a (by decide)) ?_; intro h18 F_h18
    exact fm_tl F_h18 (ow_X3_readConstant_84 nn _ hb_l0) (fun _ _ z => z)
  · refine fm_xl ?_; intro v20
    refine fm_wA F_h15 (no_a (by decide)) ?_; intro h21 F_h21
    exact fm_tl F_h21 (ow_X3_readConstant_84 nn _ hb_l0) (fun _ _ z => z)
set_option maxRecDepth 4000 in
theorem oj_X3_readConstant_26 (nn : Nat) {l0 : Nat} {l1 : Int} {l2 : Int} {s0 : Int} {h : ms_M} (hb_l0 : kc_O l0 = 3) : Fm_ (no_S l0) h (qj_X3_readConstant_26 nn l0 l1 l2 s0 h) (fun r => r) := by
  unfold qj_X3_readConstant_26
  have F_h : ∀ c k : Nat, (no_S l0) c k → h c k = h c k := fun _ _ _ => rfl
  refine fm_if ?_ ?_
  · exact fm_tl F_h (oj_X3_readConstant_40 nn hb_l0) (fun _ _ z => z)
  · refine fm_ca F_h (of_X3_nextUpTo nn hb_l0) (fun _ _ z => z) ?_; intro u24 F_u24
    exact fm_tl F_u24 (oj_X3_readConstant_40 nn hb_l0) (fun _ _ z => z)
set_option maxRecDepth 4000 in
theorem of_X3_readConstant (nn : Nat) {a0 : Nat} {a1 : Int} {h : ms_M} (hb_a0 : kc_O a0 = 3) : Fm_ (no_S a0) h (qf_X3_readConstant nn a0 a1 h) (fun r => r) := by
  unfold qf_X3_readConstant
  have F_h : ∀ c k : Nat, (no_S a0) c k → h c k = h c k := fun _ _ _ => rfl
  refine fm_ca F_h (of_X3_nextUpTo nn hb_a0) (fun _ _ z => z) ?_; intro u27 F_u27
  refine fm_if ?_ ?_
  · refine fm_if ?_ ?_
    · exact fm_tl F_u27 (oj_X3_readConstant_26 nn hb_a0) (fun _ _ z => z)
    · exact fm_tl F_u27 (oj_X3_readConstant_26 nn hb_a0) (fun _ _ z => z)
  · exact fm_tl F_u27 (oj_X3_readConstant_26 nn hb_a0) (fun _ _ z => z)
set_option maxRecDepth 4000 in
theorem ow_X3_readConstants_57 (nn : Nat) : ∀ (k : Nat) {l0 : Nat} {l1 : Int} {h : ms_M} (hb_l0 : kc_O l0 = 3), Fm_ (no_S l0) h (qw_X3_readConstants_57 nn k l0 l1 h) (fun r => r) := by
  intro k
  induction k with
  | zero => intros; exact fm_no
  | succ k ih =>
    intro l0 l1 h hb_l0
    unfold qw_X3_readConstants_57
    have F_h : ∀ c k : Nat, (no_S l0) c k → h c k = h c k := fun _ _ _ => rfl
    refine fm_if ?_ ?_
    · exact fm_ret F_h
    · refine fm_if ?_ ?_
      · exact fm_ret F_h
      · refine fm_ca F_h (of_X3_checkConstant nn hb_l0) (fun _ _ z => z) ?_; intro u4 F_u4
        refine fm_xl ?_; intro v5
        exact fm_tl F_u4 (ih hb_l0) (fun _ _ z => z)
set_option maxRecDepth 4000 in
theorem ow_X3_readConstants_28 (nn : Nat) : ∀ (k : Nat) {l0 : Nat} {l1 : Int} {h : ms_M} (hb_l0 : kc_O l0 = 3), Fm_ (no_S l0) h (qw_X3_readConstants_28 nn k l0 l1 h) (fun r => r) := by
  intro k
  induction k with
  | zero => intros; exact fm_no
  | succ k ih =>
    intro l0 l1 h hb_l0
    unfold qw_X3_readConstants_28
    have F_h : ∀ c k : Nat, (no_S l0) c k → h c k = h c k := fun _ _ _ => rfl
    refine fm_if ?_ ?_
    · exact fm_tl F_h (ow_X3_readConstants_57 nn _ hb_l0) (fun _ _ z => z)
    · refine fm_if ?_ ?_
      · exact fm_tl F_h (ow_X3_readConstants_57 nn _ hb_l0) (fun _ _ z => z)
      · refine fm_ca F_h (of_X3_readConstant nn hb_l0) (fun _ _ z => z) ?_; intro u11 F_u11
        refine fm_xl ?_; intro v12
        exact fm_tl F_u11 (ih hb_l0) (fun _ _ z => z)
set_option maxRecDepth 4000 in
theorem of_X3_readConstants (nn : Nat) {a0 : Nat} {h : ms_M} (hb_a0 : kc_O a0 = 3) : Fm_ (no_S a0) h (qf_X3_readConstants nn a0 h) (fun r => r) := by
  unfold qf_X3_readConstants
  have F_h : ∀ c k : Nat, (no_S a0) c k → h c k = h c k := fun _ _ _ => rfl
  refine fm_ca F_h (of_X3_nextUpTo nn hb_a0) (fun _ _ z => z) ?_; intro u16 F_u16
  refine fm_ca F_u16 (of_X3_nextUpTo nn hb_a0) (fun _ _ z => z) ?_; intro u18 F_u18
  refine fm_ca F_u18 (of_X3_next nn hb_a0) (fun _ _ z => z) ?_; intro u20 F_u20
  refine fm_up F_u20 no_f ?_; intro h21 F_h21
  exact fm_tl F_h21 (ow_X3_readConstants_28 nn _ hb_a0) (fun _ _ z => z)
set_option maxRecDepth 4000 in
theorem of_X3_nextName (nn : Nat) {a0 : Nat} {h : ms_M} (hb_a0 : kc_O a0 = 3) : Fm_ (no_S a0) h (qf_X3_nextName nn a0 h) (fun r => r.2) := by
  unfold qf_X3_nextName
  have F_h : ∀ c k : Nat, (no_S a0) c k → h c k = h c k := fun _ _ _ => rfl
  refine fm_ca F_h (of_X3_next nn hb_a0) (fun _ _ z => z) ?_; intro u2 F_u2
  refine fm_pu ?_; intro u4
  refine fm_if ?_ ?_
  · exact fm_ret F_u2
  · refine fm_xl ?_; intro v6
    refine fm_ca F_u2 (of_X3_bad nn hb_a0) (fun _ _ z => z) ?_; intro u8 F_u8
    exact fm_ret F_u8
set_option maxRecDepth 4000 in
theorem oj_X3_readFields_58 (nn : Nat) {qkk_10 : Nat → Int → Int → ms_M → Option ms_M} (hk_kk_10 : ∀ {l0 : Nat} {l1 : Int} {l2 : Int} {h : ms_M} (hb_l0 : kc_O l0 = 3), Fm_ (no_S l0) h (qkk_10 l0 l1 l2 h) (fun r => r)) {l0 : Nat} {l1 : Int} {l2 : Int} {l3 : Int} {h : ms_M} (hb_l0 : kc_O l0 = 3) : Fm_ (no_S l0) h (qj_X3_readFields_58 nn qkk_10 l0 l1 l2 l3 h) (fun r => r) := by
  unfold qj_X3_readFields_58
  have F_h : ∀ c k : Nat, (no_S l0) c k → h c k = h c k := fun _ _ _ => rfl
  refine fm_xl ?_; intro v2
  refine fm_xl ?_; intro v3
  refine fm_wA F_h (no_a (by decide)) ?_; intro h4 F_h4
  refine fm_xl ?_; intro v6
  refine fm_up F_h4 no_f ?_; intro h7 F_h7
  refine fm_xl ?_; intro v8
  exact fm_tl F_h7 (hk_kk_10 hb_l0) (fun _ _ z => z)
set_option maxRecDepth 4000 in
theorem ow_X3_readFields_10 (nn : Nat) : ∀ (k : Nat) {l0 : Nat} {l1 : Int} {l2 : Int} {h : ms_M} (hb_l0 : kc_O l0 = 3), Fm_ (no_S l0) h (qw_X3_readFields_10 nn k l0 l1 l2 h) (fun r => r) := by
  intro k
  induction k with
  | zero => intros; exact fm_no
  | succ k ih =>
    intro l0 l1 l2 h hb_l0
    unfold qw_X3_readFields_10
    have F_h : ∀ c k : Nat, (no_S l0) c k → h c k = h c k := fun _ _ _ => rfl
    refine fm_if ?_ ?_
    · exact fm_ret F_h
    · refine fm_if ?_ ?_
      · exact fm_ret F_h
      · refine fm_xl ?_; intro v11
        refine fm_ca F_h (of_X3_nextName nn hb_l0) (fun _ _ z => z) ?_; intro u13 F_u13
        refine fm_wA F_u13 (no_a (by decide)) ?_; intro h14 F_h14
        refine fm_ca F_h14 (of_X3_next nn hb_l0) (fun _ _ z => z) ?_; intro u16 F_u16
        refine fm_pu ?_; intro u18
        refine fm_if ?_ ?_
        · exact fm_tl F_u16 (oj_X3_readFields_58 nn ih hb_l0) (fun _ _ z => z)
        · refine fm_xl ?_; intro v20
          refine fm_ca F_u16 (of_X3_bad nn hb_l0) (fun _ _ z => z) ?_; intro u22 F_u22
          exact fm_tl F_u22 (oj_X3_readFields_58 nn ih hb_l0) (fun _ _ z => z)
set_option maxRecDepth 4000 in
theorem of_X3_readFields (nn : Nat) {a0 : Nat} {h : ms_M} (hb_a0 : kc_O a0 = 3) : Fm_ (no_S a0) h (qf_X3_readFields nn a0 h) (fun r => r) := by
  unfold qf_X3_readFields
  have F_h : ∀ c k : Nat, (no_S a0) c k → h c k = h c k := fun _ _ _ => rfl
  refine fm_ca F_h (of_X3_nextUpTo nn hb_a0) (fun _ _ z => z) ?_; intro u27 F_u27
  exact fm_tl F_u27 (ow_X3_readFields_10 nn _ hb_a0) (fun _ _ z => z)
set_option maxRecDepth 4000 in
theorem oj_X3_readCode_85 (nn : Nat) {l0 : Nat} {l4 : Int} {h : ms_M} (hb_l0 : kc_O l0 = 3) : Fm_ (no_S l0) h (qj_X3_readCode_85 nn l0 l4 h) (fun r => r) := by
  unfold qj_X3_readCode_85
  have F_h : ∀ c k : Nat, (no_S l0) c k → h c k = h c k := fun _ _ _ => rfl
  refine fm_xl ?_; intro v2
  refine fm_xl ?_; intro v4
  refine fm_up F_h no_f ?_; intro h5 F_h5
  exact fm_ret F_h5
set_option maxRecDepth 4000 in
theorem oj_X3_readCode_40 (nn : Nat) {l0 : Nat} {l1 : Int} {l4 : Int} {h : ms_M} (hb_l0 : kc_O l0 = 3) : Fm_ (no_S l0) h (qj_X3_readCode_40 nn l0 l1 l4 h) (fun r => r) := by
  unfold qj_X3_readCode_40
  have F_h : ∀ c k : Nat, (no_S l0) c k → h c k = h c k := fun _ _ _ => rfl
  refine fm_xl ?_; intro v7
  refine fm_wA F_h (no_a (by decide)) ?_; intro h8 F_h8
  refine fm_xl ?_; intro v10
  refine fm_wA F_h8 (no_a (by decide)) ?_; intro h12 F_h12
  refine fm_xl ?_; intro v14
  refine fm_if ?_ ?_
  · exact fm_tl F_h12 (oj_X3_readCode_85 nn hb_l0) (fun _ _ z => z)
  · refine fm_ca F_h12 (of_X3_bad nn hb_l0) (fun _ _ z => z) ?_; intro u18 F_u18
    exact fm_tl F_u18 (oj_X3_readCode_85 nn hb_l0) (fun _ _ z => z)
set_option maxRecDepth 4000 in
theorem oj_X3_readCode_35 (nn : Nat) {l0 : Nat} {l1 : Int} {l2 : Int} {l4 : Int} {h : ms_M} (hb_l0 : kc_O l0 = 3) : Fm_ (no_S l0) h (qj_X3_readCode_35 nn l0 l1 l2 l4 h) (fun r => r) := by
  unfold qj_X3_readCode_35
  have F_h : ∀ c k : Nat, (no_S l0) c k → h c k = h c k := fun _ _ _ => rfl
  refine fm_ca F_h (of_X3_bad nn hb_l0) (fun _ _ z => z) ?_; intro u21 F_u21
  exact fm_tl F_u21 (oj_X3_readCode_40 nn hb_l0) (fun _ _ z => z)
set_option maxRecDepth 4000 in
theorem of_X3_readCode (nn : Nat) {a0 : Nat} {a1 : Int} {h : ms_M} (hb_a0 : kc_O a0 = 3) : Fm_ (no_S a0) h (qf_X3_readCode nn a0 a1 h) (fun r => r) := by
  unfold qf_X3_readCode
  have F_h : ∀ c k : Nat, (no_S a0) c k → h c k = h c k := fun _ _ _ => rfl
  refine fm_ca F_h (of_X3_next nn hb_a0) (fun _ _ z => z) ?_; intro u24 F_u24
  refine fm_xl ?_; intro v25
  refine fm_ca F_u24 (of_X3_next nn hb_a0) (fun _ _ z => z) ?_; intro u27 F_u27
  refine fm_xl ?_; intro v28
  refine fm_if ?_ ?_
  · exact fm_tl F_u27 (oj_X3_readCode_35 nn hb_a0) (fun _ _ z => z)
  · refine fm_if ?_ ?_
    · exact fm_tl F_u27 (oj_X3_readCode_40 nn hb_a0) (fun _ _ z => z)
    · exact fm_tl F_u27 (oj_X3_readCode_35 nn hb_a0) (fun _ _ z => z)
set_option maxRecDepth 4000 in
theorem of_X3_nextClass (nn : Nat) {a0 : Nat} {h : ms_M} (hb_a0 : kc_O a0 = 3) : Fm_ (no_S a0) h (qf_X3_nextClass nn a0 h) (fun r => r) := by
  unfold qf_X3_nextClass
  have F_h : ∀ c k : Nat, (no_S a0) c k → h c k = h c k := fun _ _ _ => rfl
  refine fm_ca F_h (of_X3_next nn hb_a0) (fun _ _ z => z) ?_; intro u2 F_u2
  refine fm_pu ?_; intro u4
  refine fm_if ?_ ?_
  · exact fm_ret F_u2
  · refine fm_xl ?_; intro v6
    refine fm_ca F_u2 (of_X3_bad nn hb_a0) (fun _ _ z => z) ?_; intro u8 F_u8
    exact fm_ret F_u8
set_option maxRecDepth 4000 in
theorem ow_X3_readFrameTypes_7 (nn : Nat) : ∀ (k : Nat) {l0 : Nat} {l1 : Int} {l2 : Int} {h : ms_M} (hb_l0 : kc_O l0 = 3), Fm_ (no_S l0) h (qw_X3_readFrameTypes_7 nn k l0 l1 l2 h) (fun r => r) := by
  intro k
  induction k with
  | zero => intros; exact fm_no
  | succ k ih =>
    intro l0 l1 l2 h hb_l0
    unfold qw_X3_readFrameTypes_7
    have F_h : ∀ c k : Nat, (no_S l0) c k → h c k = h c k := fun _ _ _ => rfl
    refine fm_if ?_ ?_
    · exact fm_ret F_h
    · refine fm_if ?_ ?_
      · exact fm_ret F_h
      · refine fm_ca F_h (of_X3_nextUpTo nn hb_l0) (fun _ _ z => z) ?_; intro u3 F_u3
        refine fm_if ?_ ?_
        · refine fm_xl ?_; intro v4
          exact fm_tl F_u3 (ih hb_l0) (fun _ _ z => z)
        · refine fm_ca F_u3 (of_X3_nextClass nn hb_l0) (fun _ _ z => z) ?_; intro u6 F_u6
          refine fm_xl ?_; intro v7
          exact fm_tl F_u6 (ih hb_l0) (fun _ _ z => z)
set_option maxRecDepth 4000 in
theorem of_X3_readFrameTypes (nn : Nat) {a0 : Nat} {h : ms_M} (hb_a0 : kc_O a0 = 3) : Fm_ (no_S a0) h (qf_X3_readFrameTypes nn a0 h) (fun r => r) := by
  unfold qf_X3_readFrameTypes
  have F_h : ∀ c k : Nat, (no_S a0) c k → h c k = h c k := fun _ _ _ => rfl
  refine fm_ca F_h (of_X3_next nn hb_a0) (fun _ _ z => z) ?_; intro u12 F_u12
  exact fm_tl F_u12 (ow_X3_readFrameTypes_7 nn _ hb_a0) (fun _ _ z => z)
set_option maxRecDepth 4000 in
theorem ow_X3_skipPairs_2 (nn : Nat) : ∀ (k : Nat) {l0 : Nat} {l1 : Int} {l2 : Int} {h : ms_M} (hb_l0 : kc_O l0 = 3), Fm_ (no_S l0) h (qw_X3_skipPairs_2 nn k l0 l1 l2 h) (fun r => r) := by
  intro k
  induction k with
  | zero => intros; exact fm_no
  | succ k ih =>
    intro l0 l1 l2 h hb_l0
    unfold qw_X3_skipPairs_2
    have F_h : ∀ c k : Nat, (no_S l0) c k → h c k = h c k := fun _ _ _ => rfl
    refine fm_xl ?_; intro v1
    refine fm_if ?_ ?_
    · exact fm_ret F_h
    · refine fm_ca F_h (of_X3_next nn hb_l0) (fun _ _ z => z) ?_; intro u3 F_u3
      refine fm_xl ?_; intro v4
      exact fm_tl F_u3 (ih hb_l0) (fun _ _ z => z)
set_option maxRecDepth 4000 in
theorem of_X3_skipPairs (nn : Nat) {a0 : Nat} {a1 : Int} {h : ms_M} (hb_a0 : kc_O a0 = 3) : Fm_ (no_S a0) h (qf_X3_skipPairs nn a0 a1 h) (fun r => r) := by
  unfold qf_X3_skipPairs
  have F_h : ∀ c k : Nat, (no_S a0) c k → h c k = h c k := fun _ _ _ => rfl
  exact fm_tl F_h (ow_X3_skipPairs_2 nn _ hb_a0) (fun _ _ z => z)
set_option maxRecDepth 4000 in
theorem ow_X3_readFrames_33 (nn : Nat) : ∀ (k : Nat) {l0 : Nat} {l2 : Int} {l3 : Int} {h : ms_M} (hb_l0 : kc_O l0 = 3), Fm_ (no_S l0) h (qw_X3_readFrames_33 nn k l0 l2 l3 h) (fun r => r) := by
  intro k
  induction k with
  | zero => intros; exact fm_no
  | succ k ih =>
    intro l0 l2 l3 h hb_l0
    unfold qw_X3_readFrames_33
    have F_h : ∀ c k : Nat, (no_S l0) c k → h c k = h c k := fun _ _ _ => rfl
    refine fm_if ?_ ?_
    · exact fm_ret F_h
    · refine fm_if ?_ ?_
      · exact fm_ret F_h
      · refine fm_ca F_h (of_X3_skipPairs nn hb_l0) (fun _ _ z => z) ?_; intro u3 F_u3
        refine fm_ca F_u3 (of_X3_readFrameTypes nn hb_l0) (fun _ _ z => z) ?_; intro u5 F_u5
        refine fm_ca F_u5 (of_X3_readFrameTypes nn hb_l0) (fun _ _ z => z) ?_; intro u7 F_u7
        refine fm_xl ?_; intro v8
        exact fm_tl F_u7 (ih hb_l0) (fun _ _ z => z)
set_option maxRecDepth 4000 in
theorem of_X3_readFrames (nn : Nat) {a0 : Nat} {a1 : Int} {h : ms_M} (hb_a0 : kc_O a0 = 3) : Fm_ (no_S a0) h (qf_X3_readFrames nn a0 a1 h) (fun r => r) := by
  unfold qf_X3_readFrames
  have F_h : ∀ c k : Nat, (no_S a0) c k → h c k = h c k := fun _ _ _ => rfl
  refine fm_ca F_h (of_X3_nextUpTo nn hb_a0) (fun _ _ z => z) ?_; intro u12 F_u12
  refine fm_xl ?_; intro v14
  refine fm_wA F_u12 (no_a (by decide)) ?_; intro h15 F_h15
  refine fm_xl ?_; intro v17
  refine fm_wA F_h15 (no_a (by decide)) ?_; intro h19 F_h19
  exact fm_tl F_h19 (ow_X3_readFrames_33 nn _ hb_a0) (fun _ _ z => z)
set_option maxRecDepth 4000 in
theorem ow_X3_readHandlers_33 (nn : Nat) : ∀ (k : Nat) {l0 : Nat} {l2 : Int} {l3 : Int} {h : ms_M} (hb_l0 : kc_O l0 = 3), Fm_ (no_S l0) h (qw_X3_readHandlers_33 nn k l0 l2 l3 h) (fun r => r) := by
  intro k
  induction k with
  | zero => intros; exact fm_no
  | succ k ih =>
    intro l0 l2 l3 h hb_l0
    unfold qw_X3_readHandlers_33
    have F_h : ∀ c k : Nat, (no_S l0) c k → h c k = h c k := fun _ _ _ => rfl
    refine fm_if ?_ ?_
    · exact fm_ret F_h
    · refine fm_if ?_ ?_
      · exact fm_ret F_h
      · refine fm_ca F_h (of_X3_skipPairs nn hb_l0) (fun _ _ z => z) ?_; intro u3 F_u3
        refine fm_ca F_u3 (of_X3_nextClass nn hb_l0) (fun _ _ z => z) ?_; intro u5 F_u5
        refine fm_xl ?_; intro v6
        exact fm_tl F_u5 (ih hb_l0) (fun _ _ z => z)
set_option maxRecDepth 4000 in
theorem of_X3_readHandlers (nn : Nat) {a0 : Nat} {a1 : Int} {h : ms_M} (hb_a0 : kc_O a0 = 3) : Fm_ (no_S a0) h (qf_X3_readHandlers nn a0 a1 h) (fun r => r) := by
  unfold qf_X3_readHandlers
  have F_h : ∀ c k : Nat, (no_S a0) c k → h c k = h c k := fun _ _ _ => rfl
  refine fm_ca F_h (of_X3_nextUpTo nn hb_a0) (fun _ _ z => z) ?_; intro u10 F_u10
  refine fm_xl ?_; intro v12
  refine fm_wA F_u10 (no_a (by decide)) ?_; intro h13 F_h13
  refine fm_xl ?_; intro v15
  refine fm_wA F_h13 (no_a (by decide)) ?_; intro h17 F_h17
  exact fm_tl F_h17 (ow_X3_readHandlers_33 nn _ hb_a0) (fun _ _ z => z)
set_option maxRecDepth 4000 in
theorem oj_X3_readMethod_52 (nn : Nat) {l0 : Nat} {l1 : Int} {l2 : Int} {l3 : Int} {h : ms_M} (hb_l0 : kc_O l0 = 3) : Fm_ (no_S l0) h (qj_X3_readMethod_52 nn l0 l1 l2 l3 h) (fun r => r) := by
  unfold qj_X3_readMethod_52
  have F_h : ∀ c k : Nat, (no_S l0) c k → h c k = h c k := fun _ _ _ => rfl
  refine fm_xl ?_; intro v2
  refine fm_wA F_h (no_a (by decide)) ?_; intro h3 F_h3
  refine fm_xl ?_; intro v5
  refine fm_wA F_h3 (no_a (by decide)) ?_; intro h6 F_h6
  refine fm_xl ?_; intro v8
  refine fm_ca F_h6 (of_X3_nextUpTo nn hb_l0) (fun _ _ z => z) ?_; intro u10 F_u10
  refine fm_wA F_u10 (no_a (by decide)) ?_; intro h11 F_h11
  refine fm_xl ?_; intro v13
  refine fm_xl ?_; intro v14
  refine fm_xl ?_; intro v16
  refine fm_rd ?_; intro v17
  refine fm_xl ?_; intro v18
  refine fm_ca F_h11 (of_X3_nextUpTo nn hb_l0) (fun _ _ z => z) ?_; intro u20 F_u20
  refine fm_wA F_u20 (no_a (by decide)) ?_; intro h21 F_h21
  refine fm_ca F_h21 (of_X3_readCode nn hb_l0) (fun _ _ z => z) ?_; intro u23 F_u23
  refine fm_ca F_u23 (of_X3_readHandlers nn hb_l0) (fun _ _ z => z) ?_; intro u25 F_u25
  refine fm_ca F_u25 (of_X3_readFrames nn hb_l0) (fun _ _ z => z) ?_; intro u27 F_u27
  exact fm_ret F_u27
set_option maxRecDepth 4000 in
theorem of_X3_readMethod (nn : Nat) {a0 : Nat} {a1 : Int} {h : ms_M} (hb_a0 : kc_O a0 = 3) : Fm_ (no_S a0) h (qf_X3_readMethod nn a0 a1 h) (fun r => r) := by
  unfold qf_X3_readMethod
  have F_h : ∀ c k : Nat, (no_S a0) c k → h c k = h c k := fun _ _ _ => rfl
  refine fm_xl ?_; intro v29
  refine fm_ca F_h (of_X3_nextUpTo nn hb_a0) (fun _ _ z => z) ?_; intro u31 F_u31
  refine fm_wA F_u31 (no_a (by decide)) ?_; intro h32 F_h32
  refine fm_xl ?_; intro v34
  refine fm_ca F_h32 (of_X3_nextName nn hb_a0) (fun _ _ z => z) ?_; intro u36 F_u36
  refine fm_wA F_u36 (no_a (by decide)) ?_; intro h37 F_h37
  refine fm_ca F_h37 (of_X3_next nn hb_a0) (fun _ _ z => z) ?_; intro u39 F_u39
  refine fm_pu ?_; intro u41
  refine fm_if ?_ ?_
  · exact fm_tl F_u39 (oj_X3_readMethod_52 nn hb_a0) (fun _ _ z => z)
  · refine fm_xl ?_; intro v43
    refine fm_ca F_u39 (of_X3_bad nn hb_a0) (fun _ _ z => z) ?_; intro u45 F_u45
    exact fm_tl F_u45 (oj_X3_readMethod_52 nn hb_a0) (fun _ _ z => z)
set_option maxRecDepth 4000 in
theorem oj_X3_read_109 (nn : Nat) {l0 : Nat} {h : ms_M} (hb_l0 : kc_O l0 = 3) : Fm_ (no_S l0) h (qj_X3_read_109 nn l0 h) (fun r => r.2) := by
  unfold qj_X3_read_109
  have F_h : ∀ c k : Nat, (no_S l0) c k → h c k = h c k := fun _ _ _ => rfl
  refine fm_if ?_ ?_
  · exact fm_ret F_h
  · refine fm_ca F_h (of_X3_bad nn hb_l0) (fun _ _ z => z) ?_; intro u6 F_u6
    exact fm_ret F_u6
set_option maxRecDepth 4000 in
theorem ow_X3_read_70 (nn : Nat) : ∀ (k : Nat) {l0 : Nat} {l3 : Int} {l4 : Int} {h : ms_M} (hb_l0 : kc_O l0 = 3), Fm_ (no_S l0) h (qw_X3_read_70 nn k l0 l3 l4 h) (fun r => r.2) := by
  intro k
  induction k with
  | zero => intros; exact fm_no
  | succ k ih =>
    intro l0 l3 l4 h hb_l0
    unfold qw_X3_read_70
    have F_h : ∀ c k : Nat, (no_S l0) c k → h c k = h c k := fun _ _ _ => rfl
    refine fm_if ?_ ?_
    · exact fm_tl F_h (oj_X3_read_109 nn hb_l0) (fun _ _ z => z)
    · refine fm_if ?_ ?_
      · exact fm_tl F_h (oj_X3_read_109 nn hb_l0) (fun _ _ z => z)
      · refine fm_xl ?_; intro v10
        refine fm_ca F_h (of_X3_readMethod nn hb_l0) (fun _ _ z => z) ?_; intro u12 F_u12
        refine fm_xl ?_; intro v14
        refine fm_up F_u12 no_f ?_; intro h15 F_h15
        refine fm_xl ?_; intro v16
        exact fm_tl F_h15 (ih hb_l0) (fun _ _ z => z)
set_option maxRecDepth 4000 in
theorem of_X3_read (nn : Nat) {a0 : Nat} {a1 : Nat} {a2 : Int} {h : ms_M} (hb_a0 : kc_O a0 = 3) : Fm_ (no_S a0) h (qf_X3_read nn a0 a1 a2 h) (fun r => r.2) := by
  unfold qf_X3_read
  have F_h : ∀ c k : Nat, (no_S a0) c k → h c k = h c k := fun _ _ _ => rfl
  refine fm_wR F_h no_f ?_; intro h19 F_h19
  refine fm_lnS ?_; intro v20
  refine fm_xl ?_; intro v21
  refine fm_up F_h19 no_f ?_; intro h22 F_h22
  refine fm_up F_h22 no_f ?_; intro h23 F_h23
  refine fm_up F_h23 no_f ?_; intro h24 F_h24
  refine fm_up F_h24 no_f ?_; intro h25 F_h25
  refine fm_up F_h25 no_f ?_; intro h26 F_h26
  refine fm_ca F_h26 (of_X3_readConstants nn hb_a0) (fun _ _ z => z) ?_; intro u28 F_u28
  refine fm_ca F_u28 (of_X3_nextPlainClass nn hb_a0) (fun _ _ z => z) ?_; intro u30 F_u30
  refine fm_up F_u30 no_f ?_; intro h31 F_h31
  refine fm_ca F_h31 (of_X3_nextPlainClass nn hb_a0) (fun _ _ z => z) ?_; intro u33 F_u33
  refine fm_up F_u33 no_f ?_; intro h34 F_h34
  refine fm_ca F_h34 (of_X3_readFields nn hb_a0) (fun _ _ z => z) ?_; intro u36 F_u36
  refine fm_ca F_u36 (of_X3_nextUpTo nn hb_a0) (fun _ _ z => z) ?_; intro u38 F_u38
  exact fm_tl F_u38 (ow_X3_read_70 nn _ hb_a0) (fun _ _ z => z)
end
section
theorem rt_i {α : Type} {M : ms_M} {r : α} {c : Nat} {j : Int} {G : Int → Option α} (e : rd_T c j M G = some r) : G (M c j.toNat) = some r := by
  unfold rd_T at e; split at e
  · exact e
  · cases e
/-- behind next: either a byte was there and pos has gone on, or FORM is told -/
theorem lm_X3_next {nn : Nat} {b : Nat} {h : ms_M} (V : VS_ h) (hb : kc_O b = 3) {u : Int × ms_M} (e : qf_X3_next nn b h = some u) : (u.2 b 2 = h b 2 + 1 ∧ u.2 b 3 = h b 3) ∨ (u.2 b 2 = h b 2 ∧ ¬ u.2 b 3 = -1) := by
  have g1 := gI_1 V hb
  have g2 := gI_2 V hb
  unfold qf_X3_next at e
  split at e
  · left
    rw [xl_eq, xl_eq] at e
    obtain ⟨-, e⟩ := ck_i e
    rw [xl_eq] at e
    have e := rt_i e
    rw [xl_eq] at e
    have e := Option.some.inj e
    rw [← e]
    refine ⟨?_, up_n (by omega)⟩
    show up_M h b 2 (oq_add (h b 2) 1) b 2 = _
    rw [up_s]; exact oq_add_eq (by omega) (by omega) (by omega)
  · right
    split at e
    · rw [xl_eq] at e
      have e := Option.some.inj e
      rw [← e]
      refine ⟨up_n (by omega), ?_⟩
      show ¬ up_M h b 3 (h b 3) b 3 = -1
      rw [up_s]; assumption
    · rw [xl_eq] at e
      have e := Option.some.inj e
      rw [← e]
      refine ⟨up_n (by omega), ?_⟩
      show ¬ up_M h b 3 (h b 1) b 3 = -1
      rw [up_s]; omega
theorem lm_X3_nextUpTo {nn : Nat} {b : Nat} {h : ms_M} (V : VS_ h) (hb : kc_O b = 3) {lo hi : Int} {u : Int × ms_M} (e : qf_X3_nextUpTo nn b lo hi h = some u) : (lo ≤ u.1 ∧ u.1 ≤ hi) ∨ ¬ u.2 b 3 = -1 := by
  have g2 := gI_2 V hb
  unfold qf_X3_nextUpTo at e
  obtain ⟨w, e1, e⟩ := sv_i e
  have hw := lm_X3_next V hb e1
  have bad : ∀ {x : Int} {u : Int × ms_M}, qj_X3_nextUpTo_15 nn b x w.2 = some u → ¬ u.2 b 3 = -1 := by
    intro x u e
    unfold qj_X3_nextUpTo_15 at e
    rw [xl_eq, bad_ok, mx_svs] at e
    have e := Option.some.inj e
    rw [← e]
    by_cases q : w.2 b 3 = -1
    · rw [if_pos q]
      show ¬ up_M w.2 b 3 (oq_sub (w.2 b 2) 1) b 3 = -1
      rw [up_s]
      rcases hw with ⟨h1, h2⟩ | ⟨h1, h2⟩
      · rw [oq_sub_eq (by omega) (by omega) (by omega)]; omega
      · exact absurd q h2
    · rw [if_neg q]; exact q
  split at e
  · exact .inr (bad e)
  · split at e
    · left
      have e := Option.some.inj e
      rw [← e]
      exact ⟨by show lo ≤ w.1; omega, by show w.1 ≤ hi; omega⟩
    · exact .inr (bad e)
theorem vs_rd {M : ms_M} (h : VS_ M) {b a : Nat} {s : Int} (hb : kc_O b = 3) (ha : a < cn_M M ∧ ly_T a = 1) (hs : 0 ≤ s ∧ s ≤ 6000) (hl : s ≤ ln_I M a) : VS_ (up_M (up_M M b 0 ((a : Nat) : Int)) b 1 s) := by
  have hM := h.2.1
  obtain ⟨h1, h2, h3, h4, h5, h6, h7, h8⟩ := h
  have hbl := kc_lt hb (by decide)
  have hT := T_img hb
  have A : ∀ c2, c2 ≠ b → up_M (up_M M b 0 ((a : Nat) : Int)) b 1 s c2 = M c2 := fun c2 z => by rw [up_ne c2 z, up_ne c2 z]
  have e0 : up_M (up_M M b 0 ((a : Nat) : Int)) b 1 s b 0 = ((a : Nat) : Int) := by rw [up_n (by omega), up_s]
  have e1 : up_M (up_M M b 0 ((a : Nat) : Int)) b 1 s b 1 = s := up_s
  have en : ∀ k, 2 ≤ k → up_M (up_M M b 0 ((a : Nat) : Int)) b 1 s b k = M b k := fun k hk => by rw [up_n (by omega), up_n (by omega)]
  generalize hN : up_M (up_M M b 0 ((a : Nat) : Int)) b 1 s = N at *
  have e9 : N 900000 = M 900000 := A _ (by omega)
  have e8 : N 900001 = M 900001 := A _ (by omega)
  have ec : cn_M N = cn_M M := by unfold cn_M; rw [e9]
  have el : ∀ d, ln_I N d = ln_I M d := by intro d; unfold ln_I; rw [e8]
  have nb : ∀ c, Nat.beq (kc_O c) 3 = false → c ≠ b := fun c hc e => nI_ hb hc e.symm
  have ha7 : a < 700000 := by have := ha.1; unfold cn_M at this; omega
  refine ⟨?_, ?_, ?_, ?_, ?_, ?_, ?_, ?_⟩
  · intro c2 k2 hc2 hk2
    by_cases w : c2 = b
    · subst w
      by_cases w0 : k2 = 0
      · subst w0
        rw [e0]
        have hv := vbI_0 hb
        rw [hv]
        show -2147483648 ≤ ((a : Nat) : Int) ∧ ((a : Nat) : Int) ≤ 2147483647
        omega
      · by_cases w1 : k2 = 1
        · subst w1
          rw [e1, vbI_1 hb]; exact hs
        · rw [en k2 (by omega)]; exact h1 c2 k2 hc2 hk2
    · rw [A c2 w]; exact h1 c2 k2 hc2 hk2
  · rw [e9, e8]; exact h2
  · intro d hd
    by_cases w : d = b
    · subst w
      rw [e0, e1, ec, el]
      refine ⟨⟨by omega, ?_, ?_⟩, ?_⟩
      · show a < cn_M M
        exact ha.1
      · show ly_T a = 1
        exact ha.2
      · show s ≤ ln_I M a
        exact hl
    · rw [A d w, ec, el]; exact h3 d hd
  · intro d j hd hd2 hj
    rw [el] at hj
    rw [A d (by omega)]; exact h4 d j hd hd2 hj
  · intro j hj; rw [A 60 (nb 60 rfl)]; exact h5 j hj
  · rw [A 56 (nb 56 rfl), A 127 (nb 127 rfl), A 143 (nb 143 rfl)]; exact h6
  · intro j hj; rw [A 43 (nb 43 rfl), ec, el]; exact h7 j hj
  · intro j hj; rw [A 55 (nb 55 rfl), ec, el]; exact h8 j hj
end
section
/-- with a relation between what a function finds and what it leaves -/
def QVR_ (R : ms_M → Prop) : ms_M → Prop := fun M => VS_ M ∧ R M
def QIR_ (lo hi : Int) (R : Int → ms_M → Prop) : Int × ms_M → Prop := fun x => VS_ x.2 ∧ lo ≤ x.1 ∧ x.1 ≤ hi ∧ R x.1 x.2
section
variable {α : Type} {Q : α → Prop} {M : ms_M} {R R1 R2 : ms_M → Prop} {S S1 S2 : Int → ms_M → Prop} {lo hi : Int}
theorem ok_rVR (h : VS_ M) (r : R M) : Ok_ (some M) (QVR_ R) := ⟨M, rfl, h, r⟩
theorem ok_rIR {x : Int} (h : VS_ M) (h1 : lo ≤ x) (h2 : x ≤ hi) (r : S x M) : Ok_ (some (x, M)) (QIR_ lo hi S) := ⟨_, rfl, h, h1, h2, r⟩
theorem ok_cVR {x : Option ms_M} {F : ms_M → Option α} (hx : Ok_ x (QVR_ R)) (h : ∀ a, x = some a → VS_ a → R a → Ok_ (F a) Q) : Ok_ (mx_sv x F) Q := by
  obtain ⟨a, e, hq⟩ := hx
  rw [e, mx_svs]; exact h a e hq.1 hq.2
theorem ok_cIR {x : Option (Int × ms_M)} {F : Int × ms_M → Option α} (hx : Ok_ x (QIR_ lo hi S)) (h : ∀ a, x = some a → VS_ a.2 → lo ≤ a.1 → a.1 ≤ hi → S a.1 a.2 → Ok_ (F a) Q) : Ok_ (mx_sv x F) Q := by
  obtain ⟨a, e, hq⟩ := hx
  rw [e, mx_svs]; exact h a e hq.1 hq.2.1 hq.2.2.1 hq.2.2.2
theorem ok_mV {x : Option ms_M} (hx : Ok_ x (QVR_ R1)) (h : ∀ a, VS_ a → R1 a → R2 a) : Ok_ x (QVR_ R2) := by
  obtain ⟨a, e, hq⟩ := hx
  exact ⟨a, e, hq.1, h a hq.1 hq.2⟩
theorem ok_mI {x : Option (Int × ms_M)} (hx : Ok_ x (QIR_ lo hi S1)) (h : ∀ u a, VS_ a → S1 u a → S2 u a) : Ok_ x (QIR_ lo hi S2) := by
  obtain ⟨a, e, hq⟩ := hx
  exact ⟨a, e, hq.1, hq.2.1, hq.2.2.1, h _ _ hq.1 hq.2.2.2⟩
end
theorem lm_X9_kind {nn : Nat} {h : ms_M} {u : Int} (e : qf_X9_kind nn h = some u) : u = 0 ∨ (h 2 11 = 0 ∧ h 2 10 < h 2 3) := by
  unfold qf_X9_kind at e
  split at e
  · cases e; exact .inl rfl
  · split at e
    · cases e; exact .inl rfl
    · split at e
      · cases e; exact .inl rfl
      · right; omega
theorem lm_X9_beginsCast {nn : Nat} {h : ms_M} {u : Int} (e : qf_X9_beginsCast nn h = some u) : u = 0 ∨ (h 2 11 = 0 ∧ h 2 10 < h 2 3) := by
  unfold qf_X9_beginsCast at e
  obtain ⟨b, e1, e2⟩ := sv_i e
  rcases lm_X9_kind e1 with z | z
  · subst z; rw [if_pos (by decide)] at e2; cases e2; exact .inl rfl
  · exact .inr z
theorem lm_X9_beginsVariable {nn : Nat} {h : ms_M} {u : Int} (e : qf_X9_beginsVariable nn h = some u) : u = 0 ∨ (h 2 11 = 0 ∧ h 2 10 < h 2 3) := by
  unfold qf_X9_beginsVariable at e
  obtain ⟨b, e1, e2⟩ := sv_i e
  rcases lm_X9_kind e1 with z | z
  · subst z; rw [if_neg (by decide), if_neg (by decide), if_pos (by decide)] at e2; cases e2; exact .inl rfl
  · exact .inr z
theorem lm_X9_level {nn : Nat} {a0 : Int} {h : ms_M} {u : Int} (e : qf_X9_level nn a0 h = some u) : u = 0 ∨ ¬ a0 = 0 := by
  by_cases w : a0 = 0
  · subst w
    have e2 : qf_X9_level nn 0 h = some 0 := rfl
    rw [e2] at e; cases e; exact .inl rfl
  · exact .inr w
theorem lm_X8_binaryAhead {nn : Nat} {a1 : Int} {h : ms_M} {u : Int} (e : qf_X8_binaryAhead nn a1 h = some u) : u = 0 ∨ (h 2 11 = 0 ∧ h 2 10 < h 2 3) := by
  unfold qf_X8_binaryAhead at e
  obtain ⟨b, e1, e2⟩ := sv_i e
  obtain ⟨c, e3, e4⟩ := sv_i e2
  rcases lm_X9_kind e1 with z | z
  · rcases lm_X9_level e3 with y | y
    · subst y; rw [if_pos (by decide)] at e4; cases e4; exact .inl rfl
    · omega
  · exact .inr z
theorem lm_X10_isSignDue {nn : Nat} {a1 a2 : Int} {h : ms_M} {u : Int} (e : qf_X10_isSignDue nn a1 a2 h = some u) : u = 0 ∨ a1 < h 49 10 := by
  unfold qf_X10_isSignDue at e
  split at e
  · cases e; exact .inl rfl
  · right; omega
theorem lm_X9_kindAt {nn : Nat} {a1 : Int} {h : ms_M} {u : Int} (e : qf_X9_kindAt nn a1 h = some u) : u = 0 ∨ (0 ≤ a1 ∧ a1 < h 2 3) := by
  unfold qf_X9_kindAt at e
  split at e
  · cases e; exact .inl rfl
  · split at e
    · cases e; exact .inl rfl
    · right; omega
theorem lm_X10_isCallBehindPoint {nn : Nat} {a1 : Int} {h : ms_M} {u : Int} (_ : VS_ h) (ha : 0 ≤ a1 ∧ a1 ≤ 100000000) (e : qf_X10_isCallBehindPoint nn a1 h = some u) : u = 0 ∨ a1 + 2 < h 2 3 := by
  unfold qf_X10_isCallBehindPoint at e
  obtain ⟨b, _, e2⟩ := sv_i e
  split at e2
  · cases e2; exact .inl rfl
  · unfold xl at e2
    obtain ⟨b2, _, e3⟩ := sv_i e2
    split at e3
    · cases e3; exact .inl rfl
    · dsimp only at e3
      obtain ⟨b3, z, e4⟩ := sv_i e3
      rcases lm_X9_kindAt z with y | y
      · subst y; rw [if_pos (by decide)] at e4; cases e4; exact .inl rfl
      · rw [oq_add_eq (by omega) (by omega) (by omega)] at y; exact .inr y.2
theorem ok_ite {α : Type} {Q : α → Prop} {c : Prop} {d : Decidable c} {x y : Int} {F : Int → Option α} (h : ∀ z, (c ∧ z = x ∨ ¬ c ∧ z = y) → Ok_ (F z) Q) : Ok_ (xl (if c then x else y) F) Q := by
  refine h _ ?_
  by_cases w : c
  · rw [if_pos w]; exact .inl ⟨w, rfl⟩
  · rw [if_neg w]; exact .inr ⟨w, rfl⟩
theorem lm_X2_bodyOf {nn : Nat} {a1 : Int} {h : ms_M} {u : Int} (V : VS_ h) (ha : 0 ≤ a1 ∧ a1 ≤ 95) (e : qf_X2_bodyOf nn a1 h = some u) : (0 ≤ u ∧ u ≤ 21000000) ∨ h 21 (a1 / 12).toNat ≤ a1 % 12 := by
  unfold qf_X2_bodyOf at e
  obtain ⟨b, e1, e2⟩ := sv_i e
  split at e2
  · rename_i z
    right
    unfold qf_X2_isMethod at e1
    rw [if_neg (by omega), if_neg (by omega)] at e1
    unfold xl at e1
    rw [Int.tmod_eq_emod_of_nonneg ha.1, Int.tdiv_eq_ediv_of_nonneg ha.1] at e1
    have e1 := rd_i e1
    split at e1
    · omega
    · cases e1; omega
  · left
    have e2 := rd_i e2
    cases e2
    exact gA_23 V a1.toNat (by omega)
/-- the names stand one behind the other -/
def NM_ (h : ms_M) : Prop := 32 ≤ h 2 9 ∧ ∀ k : Nat, (k : Int) < h 2 9 → h 7 k ≤ h 7 (k + 1)
theorem nm_eq {M M2 : ms_M} (N : NM_ M) (h7 : ∀ k, M2 7 k = M 7 k) (h9 : M2 2 9 = M 2 9) : NM_ M2 := by
  refine ⟨by rw [h9]; exact N.1, fun k hk => ?_⟩
  rw [h7, h7]; rw [h9] at hk; exact N.2 k hk
theorem nm_up {M : ms_M} {c k : Nat} {v : Int} (N : NM_ M) (h : c ≠ 7 ∧ c ≠ 2) : NM_ (up_M M c k v) := nm_eq N (fun j => up_n (by omega)) (up_n (by omega))
theorem nm_uf {M : ms_M} {c k : Nat} {v : Int} (N : NM_ M) (h : c ≠ 7 ∧ (c ≠ 2 ∨ k ≠ 9)) : NM_ (up_M M c k v) := nm_eq N (fun j => up_n (by omega)) (up_n (by omega))
theorem nm_K {M : ms_M} (N : NM_ M) : NM_ (up_M M 2 9 32) := by
  refine ⟨by rw [up_s]; decide, fun k hk => ?_⟩
  rw [up_s] at hk
  rw [up_n (by omega), up_n (by omega)]
  exact N.2 k (by have := N.1; omega)
theorem nm_close {nn : Nat} {a1 : Int} {h u : ms_M} (N : NM_ h) (hp : h 7 (h 2 9).toNat ≤ a1) (hn : h 2 9 ≤ 1739) (e : qf_X9_closeName nn a1 h = some u) : NM_ u := by
  have N1 := N.1
  unfold qf_X9_closeName at e
  have e := rd_i e
  unfold xl at e
  obtain ⟨b, -, e⟩ := sv_i e
  have e := rd_i e
  have e := wa_i e
  have e := wa_i e
  dsimp only at e
  have e := wa_i e
  have e := Option.some.inj e
  have q : ∀ x y z w : Int, up_M (up_M h 8 x.toNat y) 9 z.toNat w 2 9 = h 2 9 := fun x y z w => by rw [up_n (by omega), up_n (by omega)]
  rw [q, oq_add_eq (by omega) (by omega) (by omega)] at e
  rw [up_s] at e
  have hk : (h 2 9 + 1).toNat = (h 2 9).toNat + 1 := by omega
  have u9 : u 2 9 = h 2 9 + 1 := by rw [← e, up_n (by omega), up_s]
  have u7 : ∀ j, j ≠ (h 2 9 + 1).toNat → u 7 j = h 7 j := fun j hj => by rw [← e, up_n (by omega), up_n (by omega), up_n (by omega), up_n (by omega)]
  have u8 : u 7 ((h 2 9).toNat + 1) = a1 := by rw [← e, hk]; exact up_s
  refine ⟨by omega, fun k hk2 => ?_⟩
  by_cases w : k = (h 2 9).toNat
  · subst w
    rw [u8, u7 _ (by omega)]; exact hp
  · rw [u7 _ (by omega), u7 _ (by omega)]; exact N.2 k (by omega)
theorem nm_len {nn : Nat} {a1 : Int} {h : ms_M} {u : Int} (N : NM_ h) (V : VS_ h) (e : qf_X9_nameLength nn a1 h = some u) : 0 ≤ u := by
  have g9 := gF_2_9 V
  unfold qf_X9_nameLength at e
  split at e
  · cases e; decide
  · split at e
    · cases e; decide
    · have e1 : oq_add a1 1 = a1 + 1 := oq_add_eq (by omega) (by omega) (by omega)
      have r1 := gA_7 V (a1 + 1).toNat (by omega)
      have r2 := gA_7 V a1.toNat (by omega)
      simp (disch := omega) only [xl_eq, e1, rd_ok, oq_sub_eq] at e
      have e := Option.some.inj e
      have := N.2 a1.toNat (by omega)
      have k1 : (a1 + 1).toNat = a1.toNat + 1 := by omega
      rw [k1] at e
      omega
theorem cp_i {α : Type} {M : ms_M} {a b : Nat} {sp dp n : Int} {G : ms_M → Option α} {r : α} (e : cp_S a sp b dp n M G = some r) : G (cp_M M a sp.toNat b dp.toNat n.toNat) = some r := by
  unfold cp_S at e; split at e
  · exact e
  · cases e
theorem nm_79 {nn l1 : Nat} {l2 l3 : Int} {h : ms_M} {u : Int × ms_M} (N : NM_ h) (V : VS_ h) (hl : 0 ≤ l3 ∧ l3 ≤ 100000) (e : qj_X9_nameOf_79 nn l1 l2 l3 h = some u) : NM_ u.2 := by
  have N1 := N.1
  have g9 := gF_2_9 V
  unfold qj_X9_nameOf_79 at e
  have e := rd_i e
  split at e
  · cases e; exact N
  · have r1 := gA_7 V (h 2 9).toNat (by omega)
    unfold xl at e
    dsimp only at e
    split at e
    · have e := cp_i e
      rw [oq_add_eq (by omega) (by omega) (by omega)] at e
      obtain ⟨z, e1, e2⟩ := sv_i e
      have e2 := Option.some.inj e2
      subst e2
      have F : ∀ c k, c ≠ 6 → cp_M h l1 l2.toNat 6 (h 7 (h 2 9).toNat).toNat l3.toNat c k = h c k := fun c k hc => by unfold cp_M; rw [if_neg (by omega)]
      refine nm_close (nm_eq N (fun k => F 7 k (by decide)) (F 2 9 (by decide))) ?_ ?_ e1
      · rw [F 2 9 (by decide), F 7 _ (by decide)]; omega
      · rw [F 2 9 (by decide)]; omega
    · cases e; exact N
theorem nm_35 {nn l1 : Nat} {l2 l3 : Int} {h : ms_M} {u : Int × ms_M} (N : NM_ h) (V : VS_ h) (hl : 0 ≤ l3 ∧ l3 ≤ 100000) : ∀ (k : Nat) (l4 l5 : Int), qw_X9_nameOf_35 nn k l1 l2 l3 l4 l5 h = some u → NM_ u.2 := by
  intro k
  induction k with
  | zero => intro _ _ e; cases e
  | succ k ih =>
    intro l4 l5 e
    unfold qw_X9_nameOf_35 at e
    split at e
    · exact nm_79 N V hl e
    · split at e
      · exact nm_79 N V hl e
      · obtain ⟨z, -, e⟩ := sv_i e
        split at e
        · have e := rd_i e
          exact ih _ _ e
        · cases e; exact N
theorem nm_nameOf {nn a1 : Nat} {a2 a3 : Int} {h : ms_M} {u : Int × ms_M} (N : NM_ h) (V : VS_ h) (hl : a3 ≤ 100000) (e : qf_X9_nameOf nn a1 a2 a3 h = some u) : NM_ u.2 := by
  unfold qf_X9_nameOf at e
  split at e
  · cases e; exact N
  · split at e
    · cases e; exact N
    · unfold xl ln_S at e
      split at e
      · dsimp only at e
        split at e
        · obtain ⟨z, -, e⟩ := sv_i e
          have e := rd_i e
          exact nm_35 N V (by omega) _ _ _ e
        · cases e; exact N
      · cases e
/-- the last token is END or BAD -/
def EI_ (h : ms_M) : Prop := 1 ≤ h 2 3 ∧ h 3 (h 2 3 - 1).toNat ≤ 1
theorem ei_eq {M M2 : ms_M} (N : EI_ M) (h3 : ∀ k, M2 3 k = M 3 k) (h9 : M2 2 3 = M 2 3) : EI_ M2 := by
  unfold EI_; rw [h9, h3]; exact N
theorem lm_X8_need {nn : Nat} {a1 : Int} {h u : ms_M} (N : EI_ h) (ha : 2 ≤ a1 ∧ 0 ≤ h 2 10 ∧ h 2 10 ≤ 100000000) (e : qf_X8_need nn a1 h = some u) : ¬ u 2 11 = 0 ∨ ¬ u 2 10 = h 2 10 + 1 ∨ h 2 10 + 1 < h 2 3 := by
  unfold qf_X8_need at e
  obtain ⟨b, e1, e2⟩ := sv_i e
  by_cases w : b = a1
  · right; right
    unfold qf_X9_kind at e1
    split at e1
    · cases e1; omega
    · split at e1
      · cases e1; omega
      · split at e1
        · cases e1; omega
        · have e1 := rd_i e1
          have e1 := Option.some.inj e1
          have := N.2
          by_cases y : h 2 10 = h 2 3 - 1
          · rw [← y] at this; omega
          · omega
  · right; left
    rw [if_pos w] at e2
    obtain ⟨c, e3, e4⟩ := sv_i e2
    cases e4
    have : u 2 10 = h 2 10 := (ff_X9_tellHere nn) _ e3 2 10 rfl
    omega
theorem lm_X2_addClass {nn : Nat} {a1 : Int} {h u : ms_M} (V : VS_ h) (e : qf_X2_addClass nn a1 h = some u) : (u 15 8 = h 15 8 ∧ ¬ h 11 2 = 8) ∨ (h 11 2 = 8 ∧ u 15 8 = a1) := by
  have g := gF_11_2 V
  unfold qf_X2_addClass at e
  split at e
  · cases e; left; exact ⟨rfl, by omega⟩
  · have e := wa_i e
    unfold xl at e
    dsimp only at e
    have e := Option.some.inj e
    by_cases w : h 11 2 = 8
    · right
      refine ⟨w, ?_⟩
      rw [← e, up_n (by omega), w]; exact up_s
    · left
      refine ⟨?_, w⟩
      rw [← e, up_n (by omega), up_n (by omega)]
theorem lm_X9_addToken {nn : Nat} {a1 a2 a3 : Int} {h u : ms_M} (V : VS_ h) (e : qf_X9_addToken nn a1 a2 a3 h = some u) : 3001 ≤ h 2 3 ∨ (u 2 3 = h 2 3 + 1 ∧ u 3 (u 2 3 - 1).toNat = a1) := by
  have g := gF_2_3 V
  unfold qf_X9_addToken at e
  split at e
  · cases e; left; omega
  · right
    have e := wa_i e
    have e := wa_i e
    have e := wa_i e
    unfold xl at e
    dsimp only at e
    have e := Option.some.inj e
    have q : ∀ x y z : Int, ∀ a b c : Nat, up_M (up_M (up_M h 3 a x) 4 b y) 5 c z 2 3 = h 2 3 := fun x y z a b c => by rw [up_n (by omega), up_n (by omega), up_n (by omega)]
    have u1 : u 2 3 = h 2 3 + 1 := by
      rw [← e, up_s, q, oq_add_eq (by omega) (by omega) (by omega)]
    refine ⟨u1, ?_⟩
    rw [u1]
    have k1 : (h 2 3 + 1 - 1).toNat = (h 2 3).toNat := by omega
    rw [k1, ← e, up_n (by omega), up_n (by omega), up_n (by omega)]
    exact up_s
end
section
/-- an Image whose methods' numbers keep to what reading without FORM allows -/
def IGm_ (M : ms_M) (b m : Nat) : Prop := (0 ≤ M (b + 6) (12 * m + 3) ∧ M (b + 6) (12 * m + 3) ≤ 30) ∧ M (b + 6) (12 * m + 4) ≤ 30 ∧ (0 ≤ M (b + 6) (12 * m + 7) ∧ M (b + 6) (12 * m + 7) ≤ 20) ∧ (0 ≤ M (b + 6) (12 * m + 9) ∧ M (b + 6) (12 * m + 9) ≤ 100) ∧ (0 ≤ M (b + 6) (12 * m + 11) ∧ M (b + 6) (12 * m + 11) ≤ 6) ∧ 0 ≤ M (b + 6) (12 * m + 5)
def IG_ (M : ms_M) (b : Nat) : Prop := ∀ m : Nat, (m : Int) < M b 12 → IGm_ M b m
theorem ig_eq {M N : ms_M} {b : Nat} (h : IG_ M b) (h1 : N b 12 = M b 12) (h2 : ∀ k, N (b + 6) k = M (b + 6) k) : IG_ N b := by
  intro m hm
  rw [h1] at hm
  have := h m hm
  unfold IGm_ at this ⊢
  rw [h2, h2, h2, h2, h2, h2]; exact this
/-- the Image that is being verified -/
def VG_ (M : ms_M) : Prop := IG_ M (M 127 5).toNat
theorem is_Ib {b : Nat} (hb : kc_O b = 3) : is_I b = true ∧ is_I (b + 6) = true := by
  have h1 := List.all_eq_true.mp I_is b (List.mem_range.mpr (kc_lt hb (by decide)))
  rw [hb] at h1
  simp only [Nat.beq, Bool.not_true, Bool.false_or, Bool.and_eq_true] at h1
  obtain ⟨q0, q1, q2, q3, q4, q5, q6⟩ := h1
  exact ⟨q0, q6⟩
theorem vg_eq {M N : ms_M} (V : VS_ M) (h : VG_ M) (h1 : N 127 5 = M 127 5) (h2 : ∀ c k, is_I c = true → N c k = M c k) : VG_ N := by
  unfold VG_ at h ⊢
  rw [h1]
  have hb := is_Ib (vi_r V).2.1.2
  exact ig_eq h (h2 _ _ hb.1) (fun k => h2 _ _ hb.2)
theorem vg_up {M : ms_M} {c k : Nat} {v : Int} (V : VS_ M) (h : VG_ M) (hc : (!(is_I c) && (!(Nat.beq c 127) || !(Nat.beq k 5))) = true) : VG_ (up_M M c k v) := by
  rw [Bool.and_eq_true, Bool.or_eq_true] at hc
  obtain ⟨q1, q2⟩ := hc
  refine vg_eq V h (up_n ?_) (fun d j hd => up_n ?_)
  · rintro ⟨rfl, rfl⟩; rcases q2 with z | z <;> cases z
  · rintro ⟨rfl, -⟩; rw [hd] at q1; cases q1
theorem vg_ua {M : ms_M} {c k : Nat} {v : Int} (V : VS_ M) (h : VG_ M) (hc : (!(is_I c) && !(Nat.beq c 127)) = true) : VG_ (up_M M c k v) := by
  rw [Bool.and_eq_true] at hc
  exact vg_up V h (by rw [Bool.and_eq_true, Bool.or_eq_true]; exact ⟨hc.1, .inl hc.2⟩)
theorem nw_is {L : List Nat} {LF : List (Nat × Nat)} (h : (L.all (fun x => !(is_I x)) && LF.all (fun q => !(is_I q.1))) = true) : ∀ c k, is_I c = true → nw_F L LF false false c k = true := by
  intro c k hc
  rw [Bool.and_eq_true] at h
  unfold nw_F
  simp only [Bool.and_eq_true]
  refine ⟨?_, ?_, rfl, rfl⟩
  · cases hq : L.contains c with
    | false => rfl
    | true => have := List.all_eq_true.mp h.1 c (List.contains_iff_mem.mp hq); rw [hc] at this; cases this
  · cases hq : LF.contains (c, k) with
    | false => rfl
    | true => have := List.all_eq_true.mp h.2 _ (List.contains_iff_mem.mp hq); simp only [hc] at this; cases this
theorem okof {α : Type} {x : Option α} {Q : α → Prop} {a : α} (h : Ok_ x Q) (e : x = some a) : Q a := by
  obtain ⟨b, e2, q⟩ := h
  rw [e] at e2; cases e2; exact q
/-- what an Image tells of a method -/
theorem lm_of {nn b : Nat} {a1 a2 : Int} {h : ms_M} {u : Int} (I : IG_ h b) (ha : 0 ≤ a2 ∧ a2 ≤ 11) (hm : h b 12 ≤ 12) (h1 : a1 ≤ 1000) (e : qf_X3_of nn b a1 a2 h = some u) : u = 0 ∨ ((a2 = 3 → 0 ≤ u ∧ u ≤ 30) ∧ (a2 = 4 → u ≤ 30) ∧ (a2 = 7 → 0 ≤ u ∧ u ≤ 20) ∧ (a2 = 9 → 0 ≤ u ∧ u ≤ 100) ∧ (a2 = 11 → 0 ≤ u ∧ u ≤ 6) ∧ (a2 = 5 → 0 ≤ u)) := by
  unfold qf_X3_of xl at e
  dsimp only at e
  split at e
  · cases e; exact .inl rfl
  · split at e
    · cases e; exact .inl rfl
    · split at e
      · cases e; exact .inl rfl
      · have e := rd_i e
        cases e
        right
        have q : oq_add (oq_mul a1 12) a2 = a1 * 12 + a2 := by
          rw [oq_mul_eq (by omega) (by omega) (by omega), oq_add_eq (by omega) (by omega) (by omega)]
        rw [q]
        have g := I a1.toNat (by omega)
        unfold IGm_ at g
        refine ⟨?_, ?_, ?_, ?_, ?_, ?_⟩ <;> intro z
        · rw [z, show (a1 * 12 + 3).toNat = 12 * a1.toNat + 3 by omega]; exact g.1
        · rw [z, show (a1 * 12 + 4).toNat = 12 * a1.toNat + 4 by omega]; exact g.2.1
        · rw [z, show (a1 * 12 + 7).toNat = 12 * a1.toNat + 7 by omega]; exact g.2.2.1
        · rw [z, show (a1 * 12 + 9).toNat = 12 * a1.toNat + 9 by omega]; exact g.2.2.2.1
        · rw [z, show (a1 * 12 + 11).toNat = 12 * a1.toNat + 11 by omega]; exact g.2.2.2.2.1
        · rw [z, show (a1 * 12 + 5).toNat = 12 * a1.toNat + 5 by omega]; exact g.2.2.2.2.2
theorem lm_info {nn : Nat} {a1 : Int} {h : ms_M} {u : Int} (V : VS_ h) (N : VG_ h) (ha : 0 ≤ a1 ∧ a1 ≤ 11) (e : qf_X11_info nn a1 h = some u) : u = 0 ∨ ((a1 = 3 → 0 ≤ u ∧ u ≤ 30) ∧ (a1 = 4 → u ≤ 30) ∧ (a1 = 7 → 0 ≤ u ∧ u ≤ 20) ∧ (a1 = 9 → 0 ≤ u ∧ u ≤ 100) ∧ (a1 = 11 → 0 ≤ u ∧ u ≤ 6) ∧ (a1 = 5 → 0 ≤ u)) := by
  unfold qf_X11_info at e
  obtain ⟨-, e⟩ := ck_i e
  obtain ⟨hb, e⟩ := ck_i e
  obtain ⟨w, e1, e⟩ := sv_i e
  cases e
  have g := gF_127_6 V
  have g2 := gI_12 V hb
  exact lm_of N ha (by omega) (by omega) e1
theorem lm_info3 {nn : Nat} {h : ms_M} {u : Int} (V : VS_ h) (N : VG_ h) (e : qf_X11_info nn 3 h = some u) : 0 ≤ u ∧ u ≤ 30 := by
  have := lm_info V N (by omega) e
  omega
theorem lm_info4 {nn : Nat} {h : ms_M} {u : Int} (V : VS_ h) (N : VG_ h) (e : qf_X11_info nn 4 h = some u) : u ≤ 30 := by
  have := lm_info V N (by omega) e
  omega
theorem lm_info5 {nn : Nat} {h : ms_M} {u : Int} (V : VS_ h) (N : VG_ h) (e : qf_X11_info nn 5 h = some u) : 0 ≤ u := by
  have := lm_info V N (by omega) e
  omega
theorem lm_info7 {nn : Nat} {h : ms_M} {u : Int} (V : VS_ h) (N : VG_ h) (e : qf_X11_info nn 7 h = some u) : 0 ≤ u ∧ u ≤ 20 := by
  have := lm_info V N (by omega) e
  omega
theorem lm_info9 {nn : Nat} {h : ms_M} {u : Int} (V : VS_ h) (N : VG_ h) (e : qf_X11_info nn 9 h = some u) : 0 ≤ u ∧ u ≤ 100 := by
  have := lm_info V N (by omega) e
  omega
theorem vg_cp {M N : ms_M} {d : Nat} (V : VS_ M) (h : VG_ M) (F : ∀ c k, c ≠ d → N c k = M c k) (hc : (!(is_I d) && !(Nat.beq d 127)) = true) : VG_ N := by
  rw [Bool.and_eq_true] at hc
  refine vg_eq V h (F 127 5 ?_) (fun c k z => F c k ?_)
  · rintro rfl; cases hc.2
  · rintro rfl; rw [z] at hc; cases hc.1
theorem vg_fr {M N : ms_M} {L : List Nat} {LF : List (Nat × Nat)} (V : VS_ M) (h : VG_ M) (F : ∀ c k, nw_F L LF false false c k = true → N c k = M c k) (hc : ((L.all (fun x => !(is_I x)) && LF.all (fun q => !(is_I q.1))) && nw_F L LF false false 127 5) = true) : VG_ N := by
  rw [Bool.and_eq_true] at hc
  exact vg_eq V h (F 127 5 hc.2) (fun c k z => F c k (nw_is hc.1 c k z))
/-- the frames that marks name are small -/
def FB_ (M : ms_M) : Prop := ∀ q : Nat, (q : Int) < M 127 16 → 0 ≤ M 132 q → (0 ≤ M 133 (M 132 q * 64 + 1).toNat ∧ M 133 (M 132 q * 64 + 1).toNat ≤ 30) ∧ (0 ≤ M 133 (M 132 q * 64 + 2).toNat ∧ M 133 (M 132 q * 64 + 2).toNat ≤ 30)
theorem fb_eq {M N : ms_M} (h : FB_ M) (h1 : N 127 16 = M 127 16) (h2 : ∀ k, N 132 k = M 132 k) (h3 : ∀ k, N 133 k = M 133 k) : FB_ N := by
  intro q hq hm
  rw [h1] at hq; rw [h2] at hm
  rw [h2, h3, h3]; exact h q hq hm
def VF_ (M : ms_M) : Prop := VG_ M ∧ FB_ M
theorem vf_up {M : ms_M} {c k : Nat} {v : Int} (V : VS_ M) (h : VF_ M) (hc : ((!(is_I c) && (!(Nat.beq c 127) || !(Nat.beq k 5))) && ((!(Nat.beq c 127) || !(Nat.beq k 16)) && (!(Nat.beq c 132) && !(Nat.beq c 133)))) = true) : VF_ (up_M M c k v) := by
  rw [Bool.and_eq_true] at hc
  refine ⟨vg_up V h.1 hc.1, ?_⟩
  have hc := hc.2
  simp only [Bool.and_eq_true, Bool.or_eq_true] at hc
  obtain ⟨q1, q2, q3⟩ := hc
  refine fb_eq h.2 (up_n ?_) (fun j => up_n ?_) (fun j => up_n ?_)
  · rintro ⟨rfl, rfl⟩; rcases q1 with z | z <;> cases z
  · rintro ⟨rfl, -⟩; cases q2
  · rintro ⟨rfl, -⟩; cases q3
theorem vf_fr {M N : ms_M} {L : List Nat} {LF : List (Nat × Nat)} (V : VS_ M) (h : VF_ M) (F : ∀ c k, nw_F L LF false false c k = true → N c k = M c k) (hc : (((L.all (fun x => !(is_I x)) && LF.all (fun q => !(is_I q.1))) && nw_F L LF false false 127 5) && (nw_F L LF false false 127 16 && ((!(L.contains 132) && LF.all (fun q => !(Nat.beq q.1 132))) && (!(L.contains 133) && LF.all (fun q => !(Nat.beq q.1 133)))))) = true) : VF_ N := by
  rw [Bool.and_eq_true] at hc
  refine ⟨vg_fr V h.1 F hc.1, ?_⟩
  have hc := hc.2
  simp only [Bool.and_eq_true] at hc
  obtain ⟨q1, ⟨q2, q4⟩, q3, q5⟩ := hc
  refine fb_eq h.2 (F _ _ q1) (fun j => F _ _ (nw_ar ?_ j)) (fun j => F _ _ (nw_ar ?_ j))
  · simp only [Bool.and_eq_true]; exact ⟨q2, q4, rfl, rfl⟩
  · simp only [Bool.and_eq_true]; exact ⟨q3, q5, rfl, rfl⟩
theorem lm_begins {nn : Nat} {a1 : Int} {h : ms_M} {u : Int} (e : qf_X11_begins nn a1 h = some u) : u = 0 ∨ (0 ≤ a1 ∧ a1 < h 127 16) := by
  unfold qf_X11_begins at e
  split at e
  · cases e; exact .inl rfl
  · split at e
    · cases e; exact .inl rfl
    · right; omega
theorem lm_frameAt {nn : Nat} {a1 : Int} {h : ms_M} {u : Int} (V : VS_ h) (F : FB_ h) (e : qf_X11_frameAt nn a1 h = some u) : u < 0 ∨ ((0 ≤ u ∧ u ≤ 99) ∧ (0 ≤ h 133 (u * 64 + 1).toNat ∧ h 133 (u * 64 + 1).toNat ≤ 30) ∧ (0 ≤ h 133 (u * 64 + 2).toNat ∧ h 133 (u * 64 + 2).toNat ≤ 30)) := by
  unfold qf_X11_frameAt at e
  obtain ⟨w, e1, e⟩ := sv_i e
  split at e
  · cases e; left; decide
  · have e := rd_i e
    cases e
    have g := gF_127_16 V
    have b := lm_begins e1
    have r := gA_132 V a1.toNat (by omega)
    by_cases q : h 132 a1.toNat < 0
    · exact .inl q
    · right
      have := F a1.toNat (by omega) (by omega)
      exact ⟨⟨by omega, r.2⟩, this⟩
/-- the Images of the space: eight of them and the spare are nine; those of the space were read without FORM -/
def SI_ (M : ms_M) : Prop := (∀ k : Nat, k < 8 → IG_ M (M 60 k).toNat) ∧ (∀ j k : Nat, j < 8 → k < 8 → j ≠ k → M 60 j ≠ M 60 k) ∧ (∀ k : Nat, k < 8 → M 60 k ≠ M 56 2)
theorem si_eq {M N : ms_M} (V : VS_ M) (h : SI_ M) (h1 : ∀ k, N 60 k = M 60 k) (h2 : N 56 2 = M 56 2) (h3 : ∀ b, kc_O b = 3 → N b 12 = M b 12 ∧ ∀ k, N (b + 6) k = M (b + 6) k) : SI_ N := by
  refine ⟨fun k hk => ?_, fun j k hj hk hn => ?_, fun k hk => ?_⟩
  · rw [h1]
    have hb := h3 _ (V.2.2.2.2.1 k hk).2
    exact ig_eq (h.1 k hk) hb.1 hb.2
  · rw [h1, h1]; exact h.2.1 j k hj hk hn
  · rw [h1, h2]; exact h.2.2 k hk
theorem si_fr {M N : ms_M} {L : List Nat} {LF : List (Nat × Nat)} (V : VS_ M) (h : SI_ M) (F : ∀ c k, nw_F L LF false false c k = true → N c k = M c k) (hc : ((L.all (fun x => !(is_I x)) && LF.all (fun q => !(is_I q.1))) && (nw_F L LF false false 56 2 && (!(L.contains 60) && LF.all (fun q => !(Nat.beq q.1 60))))) = true) : SI_ N := by
  simp only [Bool.and_eq_true] at hc
  obtain ⟨q1, q2, q3, q4⟩ := hc
  refine si_eq V h (fun k => F _ _ (nw_ar ?_ k)) (F _ _ q2) (fun b hb => ⟨F b 12 (nw_is ?_ b 12 (is_Ib hb).1), fun k => F _ k (nw_is ?_ _ k (is_Ib hb).2)⟩)
  · simp only [Bool.and_eq_true]; exact ⟨q3, q4, rfl, rfl⟩
  · simp only [Bool.and_eq_true]; exact q1
  · simp only [Bool.and_eq_true]; exact q1
/-- where the eleven Images lie -/
theorem im_form : (List.range 256).all (fun c => !(Nat.beq (kc_O c) 3) || decide (c = 61 ∨ (71 ≤ c ∧ c ≤ 120 ∧ (c - 71) % 7 = 0) ∨ c = 136 ∨ c = 153)) = true := by decide +kernel
theorem im_at {b : Nat} (hb : kc_O b = 3) : b = 61 ∨ (71 ≤ b ∧ b ≤ 120 ∧ (b - 71) % 7 = 0) ∨ b = 136 ∨ b = 153 := by
  have h1 := List.all_eq_true.mp im_form b (List.mem_range.mpr (kc_lt hb (by decide)))
  rw [hb] at h1
  simp only [Nat.beq, Bool.not_true, Bool.false_or, decide_eq_true_eq] at h1
  exact h1
theorem im_dis {b d : Nat} (hb : kc_O b = 3) (hd : kc_O d = 3) (h : d ≠ b) : (d < b ∨ b + 6 < d) ∧ (d + 6 < b ∨ b + 6 < d + 6) := by
  have h1 := im_at hb
  have h2 := im_at hd
  omega
/-- how many parameters a method of the space has -/
theorem lm_ofm {nn : Nat} {a w v u : Int} {h : ms_M} (V : VS_ h) (S : SI_ h) (e1 : qf_X7_imageOfMember nn a h = some w) (hw : ¬ w < 0) (hv : v ≤ 1000) (e : qf_X3_of nn w.toNat v 11 h = some u) : 0 ≤ u ∧ u ≤ 6 := by
  have g3 := gF_56_3 V
  unfold qf_X7_imageOfMember at e1
  split at e1
  · cases e1; omega
  · rw [xl_eq, oq_mul_eq (by omega) (by omega) (by omega)] at e1
    split at e1
    · cases e1; omega
    · rw [xl_eq, Int.tdiv_eq_ediv_of_nonneg (by omega)] at e1
      have e1 := rd_i e1
      cases e1
      have I := S.1 (a / 12).toNat (by omega)
      have g := V.2.2.2.2.1 (a / 12).toNat (by omega)
      have g12 := gI_12 V g.2
      have := lm_of I (by omega) (by omega) hv e
      omega
/-- what a field's instruction wants of its link -/
def LKf_ (nn : Nat) (a : Int) (h : ms_M) : Prop := ∀ u, qf_X5_link nn a h = some u → u ≤ 2000000000
def LKo_ (nn : Nat) (p a : Int) (h : ms_M) : Prop := (p = 180 ∨ p = 181) → LKf_ nn a h
def LKs_ (nn : Nat) (h : ms_M) : Prop := ∀ p a : Int, qf_X3_byteAt nn (h 143 18).toNat (oq_add (h 143 19) (h 149 (h 143 17).toNat)) h = some p → qf_X3_byteAt nn (h 143 18).toNat (oq_add (oq_add (h 143 19) (h 149 (h 143 17).toNat)) 1) h = some a → LKo_ nn p a h
theorem lk_eq {nn : Nat} {a : Int} {M N : ms_M} (h1 : ∀ k, N 148 k = M 148 k) (h2 : N 143 17 = M 143 17) (h3 : ∀ k, N 68 k = M 68 k) : qf_X5_link nn a N = qf_X5_link nn a M := by
  have e1 : N 148 = M 148 := funext h1
  have e3 : N 68 = M 68 := funext h3
  unfold qf_X5_link qf_X7_link rd_A
  rw [h2, e1, e3]
theorem ok_addE {α : Type} {Q : α → Prop} {x y : Int} {F : Int → Option α} (h : ∀ v, v = oq_add x y → -2147483648 ≤ v → v ≤ 2147483647 → Ok_ (F v) Q) : Ok_ (xl (oq_add x y) F) Q := by
  have e : oq_add x y = (Int32.ofInt x + Int32.ofInt y).toInt := rfl
  refine h _ rfl ?_ ?_
  · rw [e]; exact Int.le_trans (by decide) (Int32.le_toInt _)
  · rw [e]; exact Int.le_of_lt_add_one (Int.lt_of_lt_of_le (Int32.toInt_lt _) (by decide))
end
