theorem vp_feed {nn : Nat} (hn : 1000000 ≤ nn) : stu_feed nn (VPt nn) := by
  intro t M c s ht V a b d e f r1 r2 r3 r4 r5
  obtain ⟨u, h1, h2, h3⟩ := V
  obtain ⟨x, M1, M2, g1, g2, g3⟩ := vr_feed hn h3 r1 r2 r3 r4 r5
  exact ⟨x, M1, x, M2, g1, g2, u + 1, by omega, by omega, g3⟩
theorem vp_end {nn : Nat} (hn : 1000000 ≤ nn) : st_end nn (VPt nn) := by
  intro t M c s ht V a r1
  obtain ⟨u, h1, h2, h3⟩ := V
  obtain ⟨x, M1, M2, g1, g2, g3⟩ := vr_end hn h3 r1
  exact ⟨x, M1, M2, g1, g2, u + 1, by omega, by omega, g3⟩
theorem vp_compile {nn : Nat} (hn : 1000000 ≤ nn) : stu_compile nn (VPt nn) := by
  intro t M c s ht V  
  obtain ⟨u, h1, h2, h3⟩ := V
  obtain ⟨x, M1, c1, s1, y, M2, g1, g2, g3⟩ := vr_compile hn (by omega) h3 
  exact ⟨x, M1, c1, s1, y, M2, g1, g2, u + 1, by omega, by omega, g3⟩
theorem vp_fault {nn : Nat} (hn : 1000000 ≤ nn) : stu_fault nn (VPt nn) := by
  intro t M c s ht V a r1
  obtain ⟨u, h1, h2, h3⟩ := V
  obtain ⟨⟨x, gx⟩, y, gy⟩ := bs_fault hn r1 h3.1
  exact ⟨x, y, gx, gy⟩
theorem vp_image {nn : Nat} (hn : 1000000 ≤ nn) : stu_image nn (VPt nn) := by
  intro t M c s ht V a b r1 r2
  obtain ⟨u, h1, h2, h3⟩ := V
  obtain ⟨⟨x, gx⟩, y, gy⟩ := bs_image hn r1 r2 h3.1
  exact ⟨x, y, gx, gy⟩
theorem vp_load {nn : Nat} (hn : 1000000 ≤ nn) : stu_load nn (VPt nn) := by
  intro t M c s ht V  
  obtain ⟨u, h1, h2, h3⟩ := V
  obtain ⟨x, M1, c1, s1, y, M2, g1, g2, g3⟩ := vr_load hn (by omega) h3 
  exact ⟨x, M1, c1, s1, y, M2, g1, g2, u + 1, by omega, by omega, g3⟩
theorem vp_keep {nn : Nat} (hn : 1000000 ≤ nn) : stu_keep nn (VPt nn) := by
  intro t M c s ht V a r1
  obtain ⟨u, h1, h2, h3⟩ := V
  obtain ⟨x, M1, c1, s1, y, M2, g1, g2, g3⟩ := vr_keep hn (by omega) h3 (a := a)
  exact ⟨x, M1, c1, s1, y, M2, g1, g2, u + 1, by omega, by omega, g3⟩
theorem vp_patch {nn : Nat} (hn : 1000000 ≤ nn) : stu_patch nn (VPt nn) := by
  intro t M c s ht V a b d r1 r2 r3
  obtain ⟨u, h1, h2, h3⟩ := V
  obtain ⟨x, M1, y, M2, g1, g2, g3⟩ := vr_patch hn h3 (b := b) (d := d) r1
  exact ⟨x, M1, y, M2, g1, g2, u + 1, by omega, by omega, g3⟩
theorem vp_clear {nn : Nat} (hn : 1000000 ≤ nn) : st_clear nn (VPt nn) := by
  intro t M c s ht V  
  obtain ⟨u, h1, h2, h3⟩ := V
  obtain ⟨M1, M2, g1, g2, g3⟩ := vr_clear hn h3 
  exact ⟨M1, M2, g1, g2, u + 1, by omega, by omega, g3⟩
theorem vp_verify {nn : Nat} (hn : 1000000 ≤ nn) : stu_verify nn (VPt nn) := by
  intro t M c s ht V  
  obtain ⟨u, h1, h2, h3⟩ := V
  obtain ⟨x, M1, y, M2, g1, g2, g3⟩ := vr_verify hn h3 
  exact ⟨x, M1, y, M2, g1, g2, u + 1, by omega, by omega, g3⟩
theorem vp_where {nn : Nat} (hn : 1000000 ≤ nn) : stu_where nn (VPt nn) := by
  intro t M c s ht V a r1
  obtain ⟨u, h1, h2, h3⟩ := V
  obtain ⟨⟨x, gx⟩, y, gy⟩ := bs_where hn r1 h3.1
  exact ⟨x, y, gx, gy⟩
theorem vp_start {nn : Nat} (hn : 1000000 ≤ nn) : stu_start nn (VPt nn) := by
  intro t M c s ht V a b r1 r2
  obtain ⟨u, h1, h2, h3⟩ := V
  obtain ⟨x, M1, y, M2, g1, g2, g3⟩ := vr_start hn h3 r1 r2
  exact ⟨x, M1, y, M2, g1, g2, u + 1, by omega, by omega, g3⟩
theorem vp_run {nn : Nat} (hn : 1000000 ≤ nn) : stu_run nn (VPt nn) := by
  intro t M c s ht V a r1
  obtain ⟨u, h1, h2, h3⟩ := V
  obtain ⟨x, M1, y, M2, g1, g2, g3⟩ := vr_run hn (by omega) h3 (a := a)
  exact ⟨x, M1, y, M2, g1, g2, u + 1, by omega, by omega, g3⟩
theorem vp_look {nn : Nat} (hn : 1000000 ≤ nn) : stu_look nn (VPt nn) := by
  intro t M c s ht V a r1
  obtain ⟨u, h1, h2, h3⟩ := V
  obtain ⟨⟨x, gx⟩, y, gy⟩ := bs_look hn r1 h3.1
  exact ⟨x, y, gx, gy⟩
theorem vp_out {nn : Nat} (hn : 1000000 ≤ nn) : stu_out nn (VPt nn) := by
  intro t M c s ht V a r1
  obtain ⟨u, h1, h2, h3⟩ := V
  obtain ⟨⟨x, gx⟩, y, gy⟩ := bs_out hn r1 h3.1
  exact ⟨x, y, gx, gy⟩
theorem vp_type {nn : Nat} (hn : 1000000 ≤ nn) : stu_type nn (VPt nn) := by
  intro t M c s ht V a b r1 r2
  obtain ⟨u, h1, h2, h3⟩ := V
  obtain ⟨⟨x, gx⟩, y, gy⟩ := bs_type hn r1 r2 h3.1
  exact ⟨x, y, gx, gy⟩
theorem p3_pure {L : Nat} {xs : Nat → Int32} (hL : L ≤ 3072) {nn : Nat} (hn : nn = 1000000) : ∃ h2 mc ms, f_L_law (L, xs) nn [] = some (1, h2, mc, ms) ∧ mc ≤ 600000 ∧ ms ≤ 7302250 :=
  law_end hL hn (V := VPt nn) (fun t M c s V => vp_m V) (vp_feed (by omega)) (vp_end (by omega)) (vp_compile (by omega)) (vp_fault (by omega)) (vp_image (by omega)) (vp_load (by omega)) (vp_keep (by omega)) (vp_patch (by omega)) (vp_clear (by omega)) (vp_verify (by omega)) (vp_where (by omega)) (vp_start (by omega)) (vp_run (by omega)) (vp_look (by omega)) (vp_out (by omega)) (vp_type (by omega)) vp_0 (fun t M c s V => vp_b V)
