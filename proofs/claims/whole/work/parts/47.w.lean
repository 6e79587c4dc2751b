/- WHOLE: THE START AND THE LAW -/
def iw_H (h : mx_H) : Bool := ((List.range 33).all (fun i => decide (rd_H h 7 i = ka_T i)) && (List.range 186).all (fun k => decide (rd_H h 6 k = kb_T k))) && ((List.range 32).all (fun i => decide (rd_H h 8 i = ks_T i)) && (List.range 64).all (fun b => decide (rd_H h 10 b = kk_T b)))
def iw_U (h : mx_H) : Bool := (List.range 16).all (fun j => decide (rd_H h 58 j = bi_A j)) && (List.range 16).all (fun a => (List.range 16).all (fun b => decide (rd_H h 59 (16 * a + b) = bif (List.range 16).any (fun m => decide (ch_N (rd_H h 58) m (a : Int) = (b : Int))) then 1 else 0)))
def iw_C (h : mx_H) : Bool := decide (rd_H h 2 11 = 0 ∧ rd_H h 160 9 = 0 ∧ rd_H h 0 7 = 0 ∧ rd_H h 160 93 = 0) && decide (rd_H h 160 123 = rd_H h 127 2 ∧ rd_H h 160 124 = rd_H h 127 3 ∧ rd_H h 160 125 = rd_H h 127 4) && decide (rd_H h 160 138 = 0 ∧ rd_H h 143 1 = 0 ∧ rd_H h 143 2 = -1 ∧ rd_H h 143 3 = 0 ∧ rd_H h 143 4 = 0 ∧ rd_H h 143 5 = 0 ∧ rd_H h 143 6 = 0 ∧ rd_H h 143 7 = 0 ∧ rd_H h 143 20 = 0) && decide (rd_H h 56 3 = 0 ∧ rd_H h 56 4 = 0 ∧ rd_H h 160 98 = 0 ∧ rd_H h 160 99 = 0)
def iw_Y : Bool := match in_0 with
  | some (_, _, h, _, _) => iw_H h && iw_U h && iw_C h
  | none => false
theorem iw_y : iw_Y = true := by decide +kernel
theorem iw_h : (iw_H h_0 && iw_U h_0 && iw_C h_0) = true := by
  have h := iw_y
  unfold iw_Y at h
  rw [in_all.1] at h
  exact h
theorem WHm_0 {nn : Nat} : WHm nn 0 M_0 256 648382 := by
  have k := KCl_0
  have e9 : M_0 900000 0 = 256 := rfl
  have V : VRm nn 0 M_0 256 648382 := by
    refine ⟨BVa_0, k.1, k.2, by omega, by omega, ?_⟩
    have e1 : M_0 0 1 = 0 := KCl_1
    rw [e1]; omega
  have R : ∀ {c k : Nat}, c < 256 → rd_H h_0 c k = M_0 c k := fun hc => (m0_r5 hc).symm
  have Rf : ∀ {c : Nat}, c < 256 → rd_H h_0 c = M_0 c := fun hc => funext fun k => (m0_r5 hc).symm
  have H := iw_h
  rw [Bool.and_eq_true, Bool.and_eq_true] at H
  obtain ⟨⟨H1, H2⟩, H3⟩ := H
  unfold iw_H at H1
  unfold iw_U at H2
  unfold iw_C at H3
  simp only [Bool.and_eq_true, List.all_eq_true, List.mem_range, decide_eq_true_eq] at H1 H2 H3
  rw [Rf (c := 58) (by decide)] at H2
  obtain ⟨⟨a7, a6⟩, a8, a10⟩ := H1
  obtain ⟨u1, u2⟩ := H2
  obtain ⟨⟨⟨⟨c1, c2, c3, c4⟩, c5, c6, c7⟩, d1, d2, d3, d4, d5, d6, d7, d8, d9⟩, f1, f2, f3, f4⟩ := H3
  rw [R (by decide)] at c1 c2 c3 c4 d1 d2 d3 d4 d5 d6 d7 d8 d9 f1 f2 f3 f4
  rw [R (by decide), R (by decide)] at c5 c6 c7
  have K : KNB M_0 := ⟨⟨fun i hi => by rw [← R (by decide)]; exact a7 i (by omega), fun k hk => by rw [← R (by decide)]; exact a6 k hk⟩, fun i hi => by rw [← R (by decide)]; exact a8 i hi, fun b hb => by rw [← R (by decide)]; exact a10 b hb⟩
  have U : un_R 57 M_0 := by
    intro a b ha hb
    have q := u2 a ha b hb
    rw [R (by decide)] at q
    show (re_N (M_0 58) 16 a b → M_0 59 (16 * a + b) = 1) ∧ (¬ re_N (M_0 58) 16 a b → M_0 59 (16 * a + b) = 0)
    rw [q]
    cases w : (List.range 16).any (fun m => decide (ch_N (M_0 58) m (a : Int) = (b : Int))) with
    | true =>
      refine ⟨fun _ => rfl, fun z => absurd ?_ z⟩
      obtain ⟨m, m1, m2⟩ := List.any_eq_true.mp w
      exact ⟨m, List.mem_range.mp m1, of_decide_eq_true m2⟩
    | false =>
      refine ⟨fun ⟨m, m1, m2⟩ => ?_, fun _ => rfl⟩
      have := List.any_eq_false.mp w m (List.mem_range.mpr m1)
      exact absurd (decide_eq_true m2) this
  refine ⟨V, K, ⟨by rw [c2, c1], .inl c1⟩, ⟨by rw [c4, c3], by omega, fun k hk => by omega⟩, ⟨⟨c5, c6, c7⟩, rn_0 d1 ⟨d2, d3, d4, d5, d6, d7, d8⟩, d9, fun _ _ => 0, fun _ => 0, ⟨⟨by rw [f3, f1], by omega, by rw [f4, f2]⟩, ⟨fun k hk => by omega, ⟨U, fun j hj => ?_, fun j hj h2 => ?_, fun k hk => by omega⟩, fun j k hj _ _ => by omega⟩, fun k hk => by omega, fun j hj => by omega⟩, ⟨fun q => absurd f2 q, .inl d2, fun q => by omega⟩⟩, fun j hj => by omega⟩
  · have q := u1 j (by omega)
    exact q
  · have q : M_0 58 j = bi_A j := u1 j hj
    rw [q]
    rw [f1] at h2
    unfold bi_A
    rw [if_neg (by omega), if_neg (by omega)]
/-- the invariant through a whole script -/
def WVt (nn t : Nat) (M : ms_M) (c s : Nat) : Prop := ∃ u, u ≤ t ∧ u ≤ 512 ∧ WHm nn u M c s
theorem wv_m {nn t : Nat} {M : ms_M} {c s : Nat} (V : WVt nn t M c s) : WVt nn (t + 1) M c s := by
  obtain ⟨u, h1, h2, h3⟩ := V
  exact ⟨u, by omega, h2, h3⟩
theorem wv_0 {nn : Nat} : WVt nn 0 M_0 256 648382 := ⟨0, Nat.le_refl _, by omega, WHm_0⟩
theorem wv_b {nn t : Nat} {M : ms_M} {c s : Nat} (V : WVt nn t M c s) : c ≤ 600000 ∧ s ≤ 7302250 := by
  obtain ⟨u, h1, h2, ⟨h3, h4, h5, h6, h7, h8⟩, -⟩ := V
  have := h5.2.1
  omega
theorem wv_feed {nn : Nat} (hn : 1000000 ≤ nn) : st_feed nn (WVt nn) := by
  intro t M c s ht V a b d e f r1 r2 r3 r4 r5
  obtain ⟨u, h1, h2, h3⟩ := V
  obtain ⟨x, M1, M2, g1, g2, g3⟩ := wh_feed hn h3 r1 r2 r3 r4 r5
  exact ⟨x, M1, M2, g1, g2, u + 1, by omega, by omega, g3⟩
theorem wv_end {nn : Nat} (hn : 1000000 ≤ nn) : st_end nn (WVt nn) := by
  intro t M c s ht V a r1
  obtain ⟨u, h1, h2, h3⟩ := V
  obtain ⟨x, M1, M2, g1, g2, g3⟩ := wh_end hn h3 r1
  exact ⟨x, M1, M2, g1, g2, u + 1, by omega, by omega, g3⟩
theorem wv_compile {nn : Nat} (hn : 1000000 ≤ nn) : st_compile nn (WVt nn) := by
  intro t M c s ht V
  obtain ⟨u, h1, h2, h3⟩ := V
  obtain ⟨x, M1, c1, s1, M2, g1, g2, g3⟩ := wh_compile hn (by omega) h3
  exact ⟨x, M1, c1, s1, M2, g1, g2, u + 1, by omega, by omega, g3⟩
theorem wv_fault {nn : Nat} (hn : 1000000 ≤ nn) : st_fault nn (WVt nn) := by
  intro t M c s ht V a r1
  obtain ⟨u, h1, h2, h3⟩ := V
  exact wh_fault h3
theorem wv_image {nn : Nat} (hn : 1000000 ≤ nn) : st_image nn (WVt nn) := by
  intro t M c s ht V a b r1 r2
  obtain ⟨u, h1, h2, h3⟩ := V
  exact wh_image h3 r2
theorem wv_load {nn : Nat} (hn : 1000000 ≤ nn) : st_load nn (WVt nn) := by
  intro t M c s ht V
  obtain ⟨u, h1, h2, h3⟩ := V
  obtain ⟨x, M1, c1, s1, M2, g1, g2, g3⟩ := wh_load hn (by omega) h3
  exact ⟨x, M1, c1, s1, M2, g1, g2, u + 1, by omega, by omega, g3⟩
theorem wv_keep {nn : Nat} (hn : 1000000 ≤ nn) : st_keep nn (WVt nn) := by
  intro t M c s ht V a r1
  obtain ⟨u, h1, h2, h3⟩ := V
  obtain ⟨x, M1, c1, s1, M2, g1, g2, g3⟩ := wh_keep hn (by omega) h3 (a := a)
  exact ⟨x, M1, c1, s1, M2, g1, g2, u + 1, by omega, by omega, g3⟩
theorem wv_patch {nn : Nat} (hn : 1000000 ≤ nn) : st_patch nn (WVt nn) := by
  intro t M c s ht V a b d r1 r2 r3
  obtain ⟨u, h1, h2, h3⟩ := V
  obtain ⟨x, M1, M2, g1, g2, g3⟩ := wh_patch hn h3 r1 r2 r3
  exact ⟨x, M1, M2, g1, g2, u + 1, by omega, by omega, g3⟩
theorem wv_clear {nn : Nat} (hn : 1000000 ≤ nn) : st_clear nn (WVt nn) := by
  intro t M c s ht V
  obtain ⟨u, h1, h2, h3⟩ := V
  obtain ⟨M1, M2, g1, g2, g3⟩ := wh_clear hn h3
  exact ⟨M1, M2, g1, g2, u + 1, by omega, by omega, g3⟩
theorem wv_verify {nn : Nat} (hn : 1000000 ≤ nn) : st_verify nn (WVt nn) := by
  intro t M c s ht V
  obtain ⟨u, h1, h2, h3⟩ := V
  obtain ⟨x, M1, M2, g1, g2, g3⟩ := wh_verify hn h3
  exact ⟨x, M1, M2, g1, g2, u + 1, by omega, by omega, g3⟩
theorem wv_where {nn : Nat} (hn : 1000000 ≤ nn) : st_where nn (WVt nn) := by
  intro t M c s ht V a r1
  obtain ⟨u, h1, h2, h3⟩ := V
  exact wh_where h3
theorem wv_start {nn : Nat} (hn : 1000000 ≤ nn) : st_start nn (WVt nn) := by
  intro t M c s ht V a b r1 r2
  obtain ⟨u, h1, h2, h3⟩ := V
  obtain ⟨x, M1, M2, g1, g2, g3⟩ := wh_start hn h3 r1 r2
  exact ⟨x, M1, M2, g1, g2, u + 1, by omega, by omega, g3⟩
theorem wv_run {nn : Nat} (hn : 1000000 ≤ nn) : st_run nn (WVt nn) := by
  intro t M c s ht V a r1
  obtain ⟨u, h1, h2, h3⟩ := V
  obtain ⟨x, M1, M2, g1, g2, g3⟩ := wh_run hn (by omega) h3 (a := a)
  exact ⟨x, M1, M2, g1, g2, u + 1, by omega, by omega, g3⟩
theorem wv_look {nn : Nat} (hn : 1000000 ≤ nn) : st_look nn (WVt nn) := by
  intro t M c s ht V a r1
  obtain ⟨u, h1, h2, h3⟩ := V
  exact wh_look h3
theorem wv_out {nn : Nat} (hn : 1000000 ≤ nn) : st_out nn (WVt nn) := by
  intro t M c s ht V a r1
  obtain ⟨u, h1, h2, h3⟩ := V
  exact wh_out h3
theorem wv_type {nn : Nat} (hn : 1000000 ≤ nn) : st_type nn (WVt nn) := by
  intro t M c s ht V a b r1 r2
  obtain ⟨u, h1, h2, h3⟩ := V
  exact wh_type hn h3 r1 r2
