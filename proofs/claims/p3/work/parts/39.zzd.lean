section
variable {m : Int} {t h g r z : ms_M} {d a b e : Int}
theorem te_k26 (T : TE m h 0 d a b e) (hk : h 167 e.toNat = 26) : 4 ≤ d ∧ TE m h 1 (d - 3 - m) (e + 1) b (h 171 e.toNat) := by
  obtain ⟨q, x⟩ := te_o0 T
  rcases x with x | x | x | x | x | x | x | x | x | x
  · exfalso; omega
  · exfalso; omega
  · exact ⟨x.1.2, x.2⟩
  · exfalso; have := x.1; omega
  · exfalso; have := x.1; omega
  · exfalso; have := x.1; omega
  · exfalso; have := x.1; omega
  · exfalso; have := x.1; omega
  · exfalso; have := x.1; omega
  · exfalso; have := x.1; omega
theorem te_k28 (T : TE m h 0 d a b e) (hk : h 167 e.toNat = 28 ∨ h 167 e.toNat = 29) : (h 167 e.toNat = 28 ∨ (0 ≤ h 172 e.toNat ∧ h 172 e.toNat ≤ 3001)) ∧ TE m h 0 (d - 2 - m) (e + 1) b (h 170 e.toNat) := by
  obtain ⟨q, x⟩ := te_o0 T
  rcases x with x | x | x | x | x | x | x | x | x | x
  · exfalso; omega
  · exfalso; omega
  · exfalso; have := x.1; omega
  · exact ⟨by rcases x.1 with y | y; exact .inl y; exact .inr y.2, x.2⟩
  · exfalso; have := x.1; omega
  · exfalso; have := x.1; omega
  · exfalso; have := x.1; omega
  · exfalso; have := x.1; omega
  · exfalso; have := x.1; omega
  · exfalso; have := x.1; omega
theorem te_k30 (T : TE m h 0 d a b e) (hk : h 167 e.toNat = 30) : (0 ≤ h 172 e.toNat ∧ h 172 e.toNat ≤ 3001) ∧ TE m h 0 d a e (h 170 e.toNat) := by
  obtain ⟨q, x⟩ := te_o0 T
  rcases x with x | x | x | x | x | x | x | x | x | x
  · exfalso; omega
  · exfalso; omega
  · exfalso; have := x.1; omega
  · exfalso; have := x.1; omega
  · exact ⟨x.1.2, x.2⟩
  · exfalso; have := x.1; omega
  · exfalso; have := x.1; omega
  · exfalso; have := x.1; omega
  · exfalso; have := x.1; omega
  · exfalso; have := x.1; omega
theorem te_k31 (T : TE m h 0 d a b e) (hk : h 167 e.toNat = 31) : 4 ≤ d ∧ (0 ≤ h 172 e.toNat ∧ h 172 e.toNat ≤ 3001) ∧ TE m h 0 d a e (h 170 e.toNat) ∧ TE m h 1 (d - 3 - 2 * m) (e + 1) b (h 171 e.toNat) := by
  obtain ⟨q, x⟩ := te_o0 T
  rcases x with x | x | x | x | x | x | x | x | x | x
  · exfalso; omega
  · exfalso; omega
  · exfalso; have := x.1; omega
  · exfalso; have := x.1; omega
  · exfalso; have := x.1; omega
  · exact ⟨x.1.2.1, x.1.2.2, x.2⟩
  · exfalso; have := x.1; omega
  · exfalso; have := x.1; omega
  · exfalso; have := x.1; omega
  · exfalso; have := x.1; omega
theorem te_k37 (T : TE m h 0 d a b e) (hk : h 167 e.toNat = 32 ∨ h 167 e.toNat = 37) : TE m h 0 d a e (h 170 e.toNat) ∧ TE m h 0 (d - 3) (e + 1) b (h 171 e.toNat) := by
  obtain ⟨q, x⟩ := te_o0 T
  rcases x with x | x | x | x | x | x | x | x | x | x
  · exfalso; omega
  · exfalso; omega
  · exfalso; have := x.1; omega
  · exfalso; have := x.1; omega
  · exfalso; have := x.1; omega
  · exfalso; have := x.1; omega
  · exact x.2
  · exfalso; have := x.1; omega
  · exfalso; have := x.1; omega
  · exfalso; have := x.1; omega
theorem te_k33 (T : TE m h 0 d a b e) (hk : 33 ≤ h 167 e.toNat ∧ h 167 e.toNat ≤ 36) : TE m h 0 (d - 2 - 2 * m) (e + 1) b (h 170 e.toNat) := by
  obtain ⟨q, x⟩ := te_o0 T
  rcases x with x | x | x | x | x | x | x | x | x | x
  · exfalso; omega
  · exfalso; omega
  · exfalso; have := x.1; omega
  · exfalso; have := x.1; omega
  · exfalso; have := x.1; omega
  · exfalso; have := x.1; omega
  · exfalso; have := x.1; omega
  · exact x.2
  · exfalso; have := x.1; omega
  · exfalso; have := x.1; omega
theorem te_k38 (T : TE m h 0 d a b e) (hk : h 167 e.toNat = 38) : TE m h 0 d a e (h 170 e.toNat) := by
  obtain ⟨q, x⟩ := te_o0 T
  rcases x with x | x | x | x | x | x | x | x | x | x
  · exfalso; omega
  · exfalso; omega
  · exfalso; have := x.1; omega
  · exfalso; have := x.1; omega
  · exfalso; have := x.1; omega
  · exfalso; have := x.1; omega
  · exfalso; have := x.1; omega
  · exfalso; have := x.1; omega
  · exact x.2
  · exfalso; have := x.1; omega
theorem te_k39 (T : TE m h 0 d a b e) (hk : h 167 e.toNat = 39) : TE m h 0 (d - 2 - 2 * m) a e (h 170 e.toNat) ∧ TE m h 0 (d - 2 - 2 * m) (e + 1) b (h 171 e.toNat) ∧ TE m h 0 (d - 2 - 2 * m) (e + 1) b (h 172 e.toNat) := by
  obtain ⟨q, x⟩ := te_o0 T
  rcases x with x | x | x | x | x | x | x | x | x | x
  · exfalso; omega
  · exfalso; omega
  · exfalso; have := x.1; omega
  · exfalso; have := x.1; omega
  · exfalso; have := x.1; omega
  · exfalso; have := x.1; omega
  · exfalso; have := x.1; omega
  · exfalso; have := x.1; omega
  · exfalso; have := x.1; omega
  · exact (by obtain ⟨_, x1, w, wr, y, z⟩ := x; exact ⟨x1, te_wd y (by omega) (by omega) (by omega) (by omega), te_wd z (by omega) (by omega) (by omega) (by omega)⟩)
theorem te_x39 (T : TE m h 0 d a b e) (hk : h 167 e.toNat = 39) : TE m h 0 (d - 2 - 2 * m) a e (h 170 e.toNat) ∧ ∃ y, (e < y ∧ y ≤ b) ∧ TE m h 0 (d - 2 - 2 * m) (e + 1) y (h 171 e.toNat) ∧ TE m h 0 (d - 2 - 2 * m) y b (h 172 e.toNat) := by
  obtain ⟨q, x⟩ := te_o0 T
  rcases x with x | x | x | x | x | x | x | x | x | x
  · exfalso; omega
  · exfalso; omega
  · exfalso; have := x.1; omega
  · exfalso; have := x.1; omega
  · exfalso; have := x.1; omega
  · exfalso; have := x.1; omega
  · exfalso; have := x.1; omega
  · exfalso; have := x.1; omega
  · exfalso; have := x.1; omega
  · exact x.2
theorem te_x3 (T : TE m h 2 d a b e) (hk : h 167 e.toNat = 3) : TE m h 0 (RE m 1) (e + 1) (h 171 e.toNat) (h 170 e.toNat) ∧ ((h 172 e.toNat = -1 ∧ (e < h 171 e.toNat ∧ h 171 e.toNat < b ∧ h 169 e.toNat ≤ h 169 (h 171 e.toNat).toNat) ∧ TE m h 2 (d - 1) (h 171 e.toNat) b (h 171 e.toNat)) ∨ (h 172 e.toNat < b ∧ ((e < h 171 e.toNat ∧ h 171 e.toNat < h 172 e.toNat ∧ h 169 e.toNat ≤ h 169 (h 171 e.toNat).toNat) ∧ TE m h 2 (d - 1) (h 171 e.toNat) (h 172 e.toNat) (h 171 e.toNat)) ∧ ((e < h 172 e.toNat ∧ h 172 e.toNat < b ∧ h 169 e.toNat ≤ h 169 (h 172 e.toNat).toNat) ∧ TE m h 2 (d - 1) (h 172 e.toNat) b (h 172 e.toNat)))) := by
  obtain ⟨q, x⟩ := te_o2 T
  rcases x with x | x | x | x | x | x | x | x | x
  · exfalso; have := x.1; omega
  · exfalso; have := x.1.1; omega
  · exact x.2
  · exfalso; have := x.1; omega
  · exfalso; omega
  · exfalso; have := x.1; omega
  · exfalso; have := x.1; omega
  · exfalso; have := x.1; omega
  · exfalso; have := x.1.1; omega
theorem te_x4 (T : TE m h 2 d a b e) (hk : h 167 e.toNat = 4) : TE m h 0 (RE m 1) (e + 1) (h 171 e.toNat) (h 170 e.toNat) ∧ ((e < h 171 e.toNat ∧ h 171 e.toNat < b ∧ h 169 e.toNat ≤ h 169 (h 171 e.toNat).toNat) ∧ TE m h 2 (d - 1) (h 171 e.toNat) b (h 171 e.toNat)) := by
  obtain ⟨q, x⟩ := te_o2 T
  rcases x with x | x | x | x | x | x | x | x | x
  · exfalso; have := x.1; omega
  · exfalso; have := x.1.1; omega
  · exfalso; have := x.1; omega
  · exact x.2
  · exfalso; omega
  · exfalso; have := x.1; omega
  · exfalso; have := x.1; omega
  · exfalso; have := x.1; omega
  · exfalso; have := x.1.1; omega
theorem te_x12 (T : TE m h 2 d a b e) (hk : h 167 e.toNat = 12) : ∃ y, (e < y ∧ y ≤ b) ∧ TE m h 0 (RE m 1) (e + 1) y (h 170 e.toNat) ∧ TE m h 0 (RE m 1) y b (h 171 e.toNat) := by
  obtain ⟨q, x⟩ := te_o2 T
  rcases x with x | x | x | x | x | x | x | x | x
  · exfalso; have := x.1; omega
  · exfalso; have := x.1.1; omega
  · exfalso; have := x.1; omega
  · exfalso; have := x.1; omega
  · exfalso; omega
  · exfalso; have := x.1; omega
  · exfalso; have := x.1; omega
  · exact x.2
  · exfalso; have := x.1.1; omega
theorem te_x9 (T : TE m h 2 d a b e) (hk : h 167 e.toNat = 9) : ((h 171 e.toNat) < b ∧ ((e < (h 170 e.toNat) ∧ (h 170 e.toNat) < (h 171 e.toNat) ∧ h 169 e.toNat ≤ h 169 (h 170 e.toNat).toNat) ∧ TE m h 2 (d - 1) (h 170 e.toNat) (h 171 e.toNat) (h 170 e.toNat))) ∧ ((e < (h 171 e.toNat) ∧ (h 171 e.toNat) < b ∧ h 169 e.toNat ≤ h 169 (h 171 e.toNat).toNat) ∧ TE m h 2 (d - 1) (h 171 e.toNat) b (h 171 e.toNat)) ∧ h 169 e.toNat + 4 ≤ h 169 (h 171 e.toNat).toNat := by
  obtain ⟨q, x⟩ := te_o2 T
  rcases x with x | x | x | x | x | x | x | x | x
  · exfalso; have := x.1; omega
  · exfalso; have := x.1.1; omega
  · exfalso; have := x.1; omega
  · exfalso; have := x.1; omega
  · exfalso; omega
  · exfalso; have := x.1; omega
  · exfalso; have := x.1; omega
  · exfalso; have := x.1; omega
  · exact x.2
theorem te_rg (T : TE m h 0 d a b e) : 0 ≤ a ∧ a ≤ e ∧ e < b ∧ 1 ≤ d := (te_o0 T).1
theorem te_kd (T : TE m h 0 d a b e) : 20 ≤ h 167 e.toNat ∧ h 167 e.toNat ≤ 39 := by
  obtain ⟨q, x⟩ := te_o0 T
  rcases x with x | x | x | x | x | x | x | x | x | x
  · omega
  · omega
  · have := x.1; omega
  · have := x.1; omega
  · have := x.1; omega
  · have := x.1; omega
  · have := x.1; omega
  · have := x.1; omega
  · have := x.1; omega
  · have := x.1; omega
theorem te_s1 (T : TE m h 2 d a b e) (hk : h 167 e.toNat = 1) : ((h 170 e.toNat) = -1 ∨ (e < (h 170 e.toNat) ∧ (h 170 e.toNat) < b ∧ h 169 e.toNat ≤ h 169 (h 170 e.toNat).toNat)) ∧ TE m h 3 (d - 1) (e + 1) b (h 170 e.toNat) := by
  obtain ⟨q, x⟩ := te_o2 T
  rcases x with x | x | x | x | x | x | x | x | x
  · exact x.2
  · exfalso; have := x.1.1; omega
  · exfalso; have := x.1; omega
  · exfalso; have := x.1; omega
  · exfalso; omega
  · exfalso; have := x.1; omega
  · exfalso; have := x.1; omega
  · exfalso; have := x.1; omega
  · exfalso; have := x.1.1; omega
theorem te_s2 (T : TE m h 2 d a b e) (hk : h 167 e.toNat = 2) : 0 ≤ h 176 e.toNat ∧ (0 ≤ h 172 e.toNat ∧ h 172 e.toNat ≤ 12007) ∧ TE m h 0 (RE m 1) (e + 1) b (h 170 e.toNat) := by
  obtain ⟨q, x⟩ := te_o2 T
  rcases x with x | x | x | x | x | x | x | x | x
  · exfalso; have := x.1; omega
  · exact ⟨x.1.2.1, x.1.2.2, x.2⟩
  · exfalso; have := x.1; omega
  · exfalso; have := x.1; omega
  · exfalso; omega
  · exfalso; have := x.1; omega
  · exfalso; have := x.1; omega
  · exfalso; have := x.1; omega
  · exfalso; have := x.1.1; omega
theorem te_s3 (T : TE m h 2 d a b e) (hk : h 167 e.toNat = 3) : TE m h 0 (RE m 1) (e + 1) b (h 170 e.toNat) ∧ ((e < (h 171 e.toNat) ∧ (h 171 e.toNat) < b ∧ h 169 e.toNat ≤ h 169 (h 171 e.toNat).toNat) ∧ TE m h 2 (d - 1) (h 171 e.toNat) b (h 171 e.toNat)) ∧ ((h 172 e.toNat) = -1 ∨ ((e < (h 172 e.toNat) ∧ (h 172 e.toNat) < b ∧ h 169 e.toNat ≤ h 169 (h 172 e.toNat).toNat) ∧ TE m h 2 (d - 1) (h 172 e.toNat) b (h 172 e.toNat))) := by
  obtain ⟨q, x⟩ := te_o2 T
  rcases x with x | x | x | x | x | x | x | x | x
  · exfalso; have := x.1; omega
  · exfalso; have := x.1.1; omega
  · exact (by obtain ⟨_, x1, z⟩ := x; rcases z with ⟨z, w, y⟩ | ⟨w0, ⟨w1, y⟩, ⟨w4, z⟩⟩; exact ⟨te_wd x1 (by omega) (by omega) (by omega) (by omega), ⟨w, y⟩, .inl z⟩; exact ⟨te_wd x1 (by omega) (by omega) (by omega) (by omega), ⟨⟨w1.1, by omega, w1.2.2⟩, te_wd y (by omega) (by omega) (by omega) (by omega)⟩, .inr ⟨w4, z⟩⟩)
  · exfalso; have := x.1; omega
  · exfalso; omega
  · exfalso; have := x.1; omega
  · exfalso; have := x.1; omega
  · exfalso; have := x.1; omega
  · exfalso; have := x.1.1; omega
theorem te_s4 (T : TE m h 2 d a b e) (hk : h 167 e.toNat = 4) : TE m h 0 (RE m 1) (e + 1) b (h 170 e.toNat) ∧ ((e < (h 171 e.toNat) ∧ (h 171 e.toNat) < b ∧ h 169 e.toNat ≤ h 169 (h 171 e.toNat).toNat) ∧ TE m h 2 (d - 1) (h 171 e.toNat) b (h 171 e.toNat)) := by
  obtain ⟨q, x⟩ := te_o2 T
  rcases x with x | x | x | x | x | x | x | x | x
  · exfalso; have := x.1; omega
  · exfalso; have := x.1.1; omega
  · exfalso; have := x.1; omega
  · exact (by obtain ⟨_, x1, w, y⟩ := x; exact ⟨te_wd x1 (by omega) (by omega) (by omega) (by omega), w, y⟩)
  · exfalso; omega
  · exfalso; have := x.1; omega
  · exfalso; have := x.1; omega
  · exfalso; have := x.1; omega
  · exfalso; have := x.1.1; omega
theorem te_s7 (T : TE m h 2 d a b e) (hk : h 167 e.toNat = 7) : (h 170 e.toNat) = -1 ∨ TE m h 0 (RE m 1) (e + 1) b (h 170 e.toNat) := by
  obtain ⟨q, x⟩ := te_o2 T
  rcases x with x | x | x | x | x | x | x | x | x
  · exfalso; have := x.1; omega
  · exfalso; have := x.1.1; omega
  · exfalso; have := x.1; omega
  · exfalso; have := x.1; omega
  · exfalso; omega
  · exact x.2
  · exfalso; have := x.1; omega
  · exfalso; have := x.1; omega
  · exfalso; have := x.1.1; omega
theorem te_s8 (T : TE m h 2 d a b e) (hk : h 167 e.toNat = 8 ∨ h 167 e.toNat = 10 ∨ h 167 e.toNat = 11) : TE m h 0 (RE m 1) (e + 1) b (h 170 e.toNat) := by
  obtain ⟨q, x⟩ := te_o2 T
  rcases x with x | x | x | x | x | x | x | x | x
  · exfalso; have := x.1; omega
  · exfalso; have := x.1.1; omega
  · exfalso; have := x.1; omega
  · exfalso; have := x.1; omega
  · exfalso; omega
  · exfalso; have := x.1; omega
  · exact x.2
  · exfalso; have := x.1; omega
  · exfalso; have := x.1.1; omega
theorem te_s12 (T : TE m h 2 d a b e) (hk : h 167 e.toNat = 12) : TE m h 0 (RE m 1) (e + 1) b (h 170 e.toNat) ∧ TE m h 0 (RE m 1) (e + 1) b (h 171 e.toNat) := by
  obtain ⟨q, x⟩ := te_o2 T
  rcases x with x | x | x | x | x | x | x | x | x
  · exfalso; have := x.1; omega
  · exfalso; have := x.1.1; omega
  · exfalso; have := x.1; omega
  · exfalso; have := x.1; omega
  · exfalso; omega
  · exfalso; have := x.1; omega
  · exfalso; have := x.1; omega
  · exact (by obtain ⟨_, w, wr, x1, y⟩ := x; exact ⟨te_wd x1 (by omega) (by omega) (by omega) (by omega), te_wd y (by omega) (by omega) (by omega) (by omega)⟩)
  · exfalso; have := x.1.1; omega
theorem te_s9 (T : TE m h 2 d a b e) (hk : h 167 e.toNat = 9) : (0 ≤ h 176 e.toNat ∧ h 176 e.toNat ≤ 3000) ∧ ((e < (h 170 e.toNat) ∧ (h 170 e.toNat) < b ∧ h 169 e.toNat ≤ h 169 (h 170 e.toNat).toNat) ∧ TE m h 2 (d - 1) (h 170 e.toNat) b (h 170 e.toNat)) ∧ ((e < (h 171 e.toNat) ∧ (h 171 e.toNat) < b ∧ h 169 e.toNat ≤ h 169 (h 171 e.toNat).toNat) ∧ TE m h 2 (d - 1) (h 171 e.toNat) b (h 171 e.toNat)) ∧ h 169 e.toNat + 4 ≤ h 169 (h 171 e.toNat).toNat := by
  obtain ⟨q, x⟩ := te_o2 T
  rcases x with x | x | x | x | x | x | x | x | x
  · exfalso; have := x.1; omega
  · exfalso; have := x.1.1; omega
  · exfalso; have := x.1; omega
  · exfalso; have := x.1; omega
  · exfalso; omega
  · exfalso; have := x.1; omega
  · exfalso; have := x.1; omega
  · exfalso; have := x.1; omega
  · exact (by obtain ⟨k, ⟨w0, w1, x1⟩, ⟨w2, y⟩, w3⟩ := x; exact ⟨k.2, ⟨⟨w1.1, by omega, w1.2.2⟩, te_wd x1 (by omega) (by omega) (by omega) (by omega)⟩, ⟨w2, y⟩, w3⟩)
theorem te_sk (T : TE m h 2 d a b e) : (1 ≤ h 167 e.toNat ∧ h 167 e.toNat ≤ 12) ∧ 0 ≤ a ∧ a ≤ e ∧ e < b ∧ 0 ≤ d := by
  obtain ⟨q, x⟩ := te_o2 T
  refine ⟨?_, q⟩
  rcases x with x | x | x | x | x | x | x | x | x
  · have := x.1; omega
  · have := x.1.1; omega
  · have := x.1; omega
  · have := x.1; omega
  · omega
  · have := x.1; omega
  · have := x.1; omega
  · have := x.1; omega
  · have := x.1.1; omega
def bl_ : List Nat := [174, 175, 176, 196, 197, 198, 199]
def bf_ : List (Nat × Nat) := [(160, 9), (160, 10), (160, 50), (160, 51), (160, 52), (160, 53), (160, 54), (160, 57)]
/-- what the rules of bodies leave -/
def BF (t h : ms_M) : Prop := ∀ c k, nw_F bl_ bf_ false false c k = true → h c k = t c k
/-- what is called, and the types and classes that are kept with a node, are within their rows -/
def YX (t h : ms_M) : Prop := ∀ x : Nat, (x : Int) < t 160 22 → (20 ≤ t 167 x → h 175 x < t 160 28) ∧ ((t 167 x = 36 ∨ t 167 x = 38) → h 176 x < 24 + 2 * t 160 24) ∧ (t 167 x = 31 → h 176 x < 8 + t 160 24)
/-- what they keep -/
def YI (t h : ms_M) : Prop := VS_ h ∧ BF t h ∧ (∀ x : Nat, (x : Int) < t 160 22 → h 174 x < 24 + 2 * t 160 24) ∧ (∀ s : Nat, (s : Int) < h 160 50 → 0 ≤ h 197 s ∧ h 197 s < 24 + 2 * t 160 24) ∧ ((∀ x : Nat, (t 167 x = 2 ∨ t 167 x = 9) → h 176 x = t 176 x) ∧ YX t h) ∧ (8 ≤ h 160 52 ∧ h 160 52 < 8 + t 160 24) ∧ h 160 51 < t 160 28
/-- what heads left -/
def SF (t : ms_M) : Prop := HW_ t ∧ AC_ t ∧ (∀ m : Nat, (m : Int) < t 160 28 → t 187 m < 24 + 2 * t 160 24 ∧ ∀ k : Nat, (k : Int) < t 189 m → t 195 ((t 188 m).toNat + k) < 24 + 2 * t 160 24) ∧ t 160 24 ≤ 8 ∧ (∀ m : Nat, (m : Int) < t 160 28 → t 189 m ≤ 6) ∧ MC_ t
/-- what stays as it was behind an expression -/
def Ke (h r : ms_M) : Prop := (r 160 50 = h 160 50 ∧ r 160 51 = h 160 51 ∧ r 160 52 = h 160 52 ∧ r 160 53 = h 160 53 ∧ r 160 54 = h 160 54 ∧ r 160 57 = h 160 57 ∧ (r 160 9 = 0 → h 160 9 = 0)) ∧ ∀ j : Nat, (j : Int) < h 160 57 → r 199 j = h 199 j
theorem ke_rf : Ke h h := ⟨⟨rfl, rfl, rfl, rfl, rfl, rfl, id⟩, fun _ _ => rfl⟩
theorem ke_tr (x : Ke h g) (y : Ke g r) : Ke h r := ⟨⟨by rw [y.1.1, x.1.1], by rw [y.1.2.1, x.1.2.1], by rw [y.1.2.2.1, x.1.2.2.1], by rw [y.1.2.2.2.1, x.1.2.2.2.1], by rw [y.1.2.2.2.2.1, x.1.2.2.2.2.1], by rw [y.1.2.2.2.2.2.1, x.1.2.2.2.2.2.1], fun w => x.1.2.2.2.2.2.2 (y.1.2.2.2.2.2.2 w)⟩, fun j hj => by rw [y.2 j (by rw [x.1.2.2.2.2.2.1]; exact hj), x.2 j hj]⟩
theorem bf_fr {L : List Nat} {LF : List (Nat × Nat)} (B : BF t h) (F : ∀ c k, nw_F L LF false false c k = true → r c k = h c k) (hs : (L.all (fun x => bl_.contains x) && (LF.all (fun x => bf_.contains x) && ((!false || false) && (!false || false)))) = true) : BF t r := fun c k w => by rw [F c k (nw_sub hs c k w)]; exact B c k w
theorem bf_a {c k : Nat} {v : Int} (B : BF t h) (hc : bl_.contains c = true) : BF t (up_M h c k v) := fun c2 k2 w => by
  have n := nw_ne hc c2 k2 w
  rw [up_n (by omega)]; exact B c2 k2 w
theorem bf_f {c k : Nat} {v : Int} (B : BF t h) (hc : bf_.contains (c, k) = true) : BF t (up_M h c k v) := fun c2 k2 w => by
  have n := nw_nf hc c2 k2 w
  rw [up_n n]; exact B c2 k2 w
theorem yi_174 {j v : Int} (Y : YI t h) (hv : -1 ≤ v ∧ v ≤ 900) (hl : v < 24 + 2 * t 160 24) (E : z = up_M h 174 j.toNat v) : YI t z ∧ Ke h z := by
  subst E
  obtain ⟨V, B, y1, y2, y3, y4, y5⟩ := Y
  refine ⟨⟨wA_174 V hv, bf_a B rfl, fun x hx => ?_, fun s hs => ?_, ⟨fun x w1 => ?_, fun x hx => ?_⟩, ?_, ?_⟩, ⟨⟨up_n (by omega), up_n (by omega), up_n (by omega), up_n (by omega), up_n (by omega), up_n (by omega), fun w => ?_⟩, fun j _ => up_n (by omega)⟩⟩
  · unfold up_M
    split
    · exact hl
    · exact y1 x hx
  · rw [up_n (by omega)] at *; exact y2 s hs
  · rw [up_n (by omega)]; exact y3.1 x w1
  · rw [up_n (by omega), up_n (by omega)]; exact y3.2 x hx
  · rw [up_n (by omega)]; exact y4
  · rw [up_n (by omega)]; exact y5
  · rwa [up_n (by omega)] at w
theorem yi_175 {j v : Int} (Y : YI t h) (hv : -1 ≤ v ∧ v ≤ 799) (hm : v < t 160 28) (E : z = up_M h 175 j.toNat v) : YI t z ∧ Ke h z := by
  subst E
  obtain ⟨V, B, y1, y2, y3, y4, y5⟩ := Y
  refine ⟨⟨wA_175 V hv, bf_a B rfl, fun x hx => ?_, fun s hs => ?_, ⟨fun x w1 => ?_, fun x hx => ?_⟩, ?_, ?_⟩, ⟨⟨up_n (by omega), up_n (by omega), up_n (by omega), up_n (by omega), up_n (by omega), up_n (by omega), fun w => ?_⟩, fun j _ => up_n (by omega)⟩⟩
  · rw [up_n (by omega)]; exact y1 x hx
  · rw [up_n (by omega)] at *; exact y2 s hs
  · rw [up_n (by omega)]; exact y3.1 x w1
  · obtain ⟨p1, p2, p3⟩ := y3.2 x hx
    have e6 : up_M h 175 j.toNat v 176 x = h 176 x := up_n (by omega)
    rw [e6]
    refine ⟨fun w => ?_, p2, p3⟩
    unfold up_M
    split
    · exact hm
    · exact p1 w
  · rw [up_n (by omega)]; exact y4
  · rw [up_n (by omega)]; exact y5
  · rwa [up_n (by omega)] at w
theorem yi_176 {j v : Int} (Y : YI t h) (hv : -1 ≤ v ∧ v ≤ 3001) (hn : ¬ (t 167 j.toNat = 2 ∨ t 167 j.toNat = 9)) (hx2 : ((t 167 j.toNat = 36 ∨ t 167 j.toNat = 38) → v < 24 + 2 * t 160 24) ∧ (t 167 j.toNat = 31 → v < 8 + t 160 24)) (E : z = up_M h 176 j.toNat v) : YI t z ∧ Ke h z := by
  subst E
  obtain ⟨V, B, y1, y2, y3, y4, y5⟩ := Y
  refine ⟨⟨wA_176 V hv, bf_a B rfl, fun x hx => ?_, fun s hs => ?_, ⟨fun x w1 => ?_, fun x hx => ?_⟩, ?_, ?_⟩, ⟨⟨up_n (by omega), up_n (by omega), up_n (by omega), up_n (by omega), up_n (by omega), up_n (by omega), fun w => ?_⟩, fun j _ => up_n (by omega)⟩⟩
  · rw [up_n (by omega)]; exact y1 x hx
  · rw [up_n (by omega)] at *; exact y2 s hs
  · unfold up_M
    split
    · rename_i q
      rw [q.2] at w1; exact absurd w1 hn
    · exact y3.1 x w1
  · obtain ⟨p1, p2, p3⟩ := y3.2 x hx
    have e5 : up_M h 176 j.toNat v 175 x = h 175 x := up_n (by omega)
    rw [e5]
    by_cases q : x = j.toNat
    · rw [q, up_s]
      rw [q] at p1
      exact ⟨p1, hx2.1, hx2.2⟩
    · rw [up_n (by omega)]
      exact ⟨p1, p2, p3⟩
  · rw [up_n (by omega)]; exact y4
  · rw [up_n (by omega)]; exact y5
  · rwa [up_n (by omega)] at w
theorem yi_198 {j : Nat} {v : Int} (Y : YI t h) (hv : 0 ≤ v ∧ v ≤ 1) (E : z = up_M h 198 j v) : YI t z ∧ Ke h z := by
  subst E
  obtain ⟨V, B, y1, y2, y3, y4, y5⟩ := Y
  refine ⟨⟨wA_198 V hv, bf_a B rfl, fun x hx => ?_, fun s hs => ?_, ⟨fun x w1 => ?_, fun x hx => ?_⟩, ?_, ?_⟩, ⟨⟨up_n (by omega), up_n (by omega), up_n (by omega), up_n (by omega), up_n (by omega), up_n (by omega), fun w => ?_⟩, fun j _ => up_n (by omega)⟩⟩
  · rw [up_n (by omega)]; exact y1 x hx
  · rw [up_n (by omega)] at *; exact y2 s hs
  · rw [up_n (by omega)]; exact y3.1 x w1
  · rw [up_n (by omega), up_n (by omega)]; exact y3.2 x hx
  · rw [up_n (by omega)]; exact y4
  · rw [up_n (by omega)]; exact y5
  · rwa [up_n (by omega)] at w
theorem yi_199 {j v : Int} (Y : YI t h) (hv : 0 ≤ v ∧ v ≤ 8999) (E : z = up_M h 199 j.toNat v) : YI t z ∧ (z 160 50 = h 160 50 ∧ z 160 51 = h 160 51 ∧ z 160 52 = h 160 52 ∧ z 160 53 = h 160 53 ∧ z 160 54 = h 160 54 ∧ z 160 57 = h 160 57 ∧ z 160 9 = h 160 9) := by
  subst E
  obtain ⟨V, B, y1, y2, y3, y4, y5⟩ := Y
  refine ⟨⟨wA_199 V hv, bf_a B rfl, fun x hx => ?_, fun s hs => ?_, ⟨fun x w1 => ?_, fun x hx => ?_⟩, ?_, ?_⟩, ⟨up_n (by omega), up_n (by omega), up_n (by omega), up_n (by omega), up_n (by omega), up_n (by omega), up_n (by omega)⟩⟩
  · rw [up_n (by omega)]; exact y1 x hx
  · rw [up_n (by omega)] at *; exact y2 s hs
  · rw [up_n (by omega)]; exact y3.1 x w1
  · rw [up_n (by omega), up_n (by omega)]; exact y3.2 x hx
  · rw [up_n (by omega)]; exact y4
  · rw [up_n (by omega)]; exact y5
theorem yi_57 {v : Int} (Y : YI t h) (hv : 0 ≤ v ∧ v ≤ 9000) (E : z = up_M h 160 57 v) : YI t z ∧ (z 160 50 = h 160 50 ∧ z 160 51 = h 160 51 ∧ z 160 52 = h 160 52 ∧ z 160 53 = h 160 53 ∧ z 160 54 = h 160 54 ∧ z 160 57 = v ∧ z 160 9 = h 160 9) ∧ ∀ j, z 199 j = h 199 j := by
  subst E
  obtain ⟨V, B, y1, y2, y3, y4, y5⟩ := Y
  refine ⟨⟨wF_160_57 V hv, bf_f B rfl, fun x hx => ?_, fun s hs => ?_, ⟨fun x w1 => ?_, fun x hx => ?_⟩, ?_, ?_⟩, ⟨up_n (by omega), up_n (by omega), up_n (by omega), up_n (by omega), up_n (by omega), up_s, up_n (by omega)⟩, fun j => up_n (by omega)⟩
  · rw [up_n (by omega)]; exact y1 x hx
  · rw [up_n (by omega)] at *; exact y2 s hs
  · rw [up_n (by omega)]; exact y3.1 x w1
  · rw [up_n (by omega), up_n (by omega)]; exact y3.2 x hx
  · rw [up_n (by omega)]; exact y4
  · rw [up_n (by omega)]; exact y5
theorem yi_54 {v : Int} (Y : YI t h) (hv : 0 ≤ v ∧ v ≤ 2999) (E : z = up_M h 160 54 v) : YI t z ∧ (z 160 50 = h 160 50 ∧ z 160 51 = h 160 51 ∧ z 160 52 = h 160 52 ∧ z 160 53 = h 160 53 ∧ z 160 54 = v ∧ z 160 57 = h 160 57 ∧ z 160 9 = h 160 9) ∧ ∀ j, z 199 j = h 199 j := by
  subst E
  obtain ⟨V, B, y1, y2, y3, y4, y5⟩ := Y
  refine ⟨⟨wF_160_54 V hv, bf_f B rfl, fun x hx => ?_, fun s hs => ?_, ⟨fun x w1 => ?_, fun x hx => ?_⟩, ?_, ?_⟩, ⟨up_n (by omega), up_n (by omega), up_n (by omega), up_n (by omega), up_s, up_n (by omega), up_n (by omega)⟩, fun j => up_n (by omega)⟩
  · rw [up_n (by omega)]; exact y1 x hx
  · rw [up_n (by omega)] at *; exact y2 s hs
  · rw [up_n (by omega)]; exact y3.1 x w1
  · rw [up_n (by omega), up_n (by omega)]; exact y3.2 x hx
  · rw [up_n (by omega)]; exact y4
  · rw [up_n (by omega)]; exact y5
/-- sight goes back -/
theorem yi_50 {v : Int} (Y : YI t h) (hv : 0 ≤ v ∧ v ≤ h 160 50) (E : z = up_M h 160 50 v) : YI t z ∧ (z 160 50 = v ∧ z 160 51 = h 160 51 ∧ z 160 52 = h 160 52 ∧ z 160 53 = h 160 53 ∧ z 160 54 = h 160 54 ∧ z 160 57 = h 160 57 ∧ z 160 9 = h 160 9) ∧ ∀ j, z 199 j = h 199 j := by
  subst E
  obtain ⟨V, B, y1, y2, y3, y4, y5⟩ := Y
  have g := gF_160_50 V
  refine ⟨⟨wF_160_50 V (by omega), bf_f B rfl, fun x hx => ?_, fun s hs => ?_, ⟨fun x w1 => ?_, fun x hx => ?_⟩, ?_, ?_⟩, ⟨up_s, up_n (by omega), up_n (by omega), up_n (by omega), up_n (by omega), up_n (by omega), up_n (by omega)⟩, fun j => up_n (by omega)⟩
  · rw [up_n (by omega)]; exact y1 x hx
  · rw [up_s] at hs; rw [up_n (by omega)]; exact y2 s (by omega)
  · rw [up_n (by omega)]; exact y3.1 x w1
  · rw [up_n (by omega), up_n (by omega)]; exact y3.2 x hx
  · rw [up_n (by omega)]; exact y4
  · rw [up_n (by omega)]; exact y5
theorem ok_sv {α β : Type} {Q : β → Prop} {x : Option α} {P : α → Prop} {F : α → Option β} (hx : Ok_ x P) (h : ∀ a, P a → Ok_ (F a) Q) : Ok_ (mx_sv x F) Q := by
  obtain ⟨a, ea, p⟩ := hx
  rw [ea, mx_svs]; exact h a p
theorem ok_pc {α : Type} {x : Option α} {P R : α → Prop} (hx : Ok_ x P) (h : Pc x R) : Ok_ x (fun a => P a ∧ R a) := by
  obtain ⟨a, ea, p⟩ := hx
  exact ⟨a, ea, p, h a ea⟩
theorem ok_im {α : Type} {x : Option α} {P R : α → Prop} (hx : Ok_ x P) (h : ∀ a, P a → R a) : Ok_ x R := by
  obtain ⟨a, ea, p⟩ := hx
  exact ⟨a, ea, h a p⟩
theorem vy_wrong {nn : Nat} (hn : 1000000 ≤ nn) (Y : YI t h) {k v : Int} (hk : 1 ≤ k ∧ k ≤ 11) (hv : 0 ≤ v ∧ v ≤ 3001) : Ok_ (qf_X13_wrong nn k v h) (fun r => YI t r ∧ Ke h r ∧ ¬ r 160 9 = 0 ∧ FG 0 0 h r) := by
  obtain ⟨u, eu, V, q⟩ := vf_X13_wrong hn hk.1 hk.2 hv.1 hv.2 Y.1
  have F : ∀ c k, nw_F wl_X13_wrong wf_X13_wrong false false c k = true → u c k = h c k := fun c k w => (ff_X13_wrong nn) _ eu c k w
  have S := (pc_wrong (nn := nn) (h := h) (k := k) (t := v) (by omega) u eu).1
  refine ⟨u, eu, ⟨V, bf_fr Y.2.1 F rfl, fun x hx => ?_, fun s hs => ?_, ⟨fun x w1 => ?_, fun x hx => ?_⟩, ?_, ?_⟩, ⟨⟨F 160 50 rfl, F 160 51 rfl, F 160 52 rfl, F 160 53 rfl, F 160 54 rfl, F 160 57 rfl, S.2.1⟩, fun j _ => F 199 j (nw_ar rfl j)⟩, q, fun x _ => ⟨F 174 x (nw_ar rfl x), F 176 x (nw_ar rfl x), F 175 x (nw_ar rfl x)⟩⟩
  · rw [F 174 x (nw_ar rfl x)]; exact Y.2.2.1 x hx
  · rw [F 160 50 rfl] at hs; rw [F 197 s (nw_ar rfl s)]; exact Y.2.2.2.1 s hs
  · rw [F 176 x (nw_ar rfl x)]; exact Y.2.2.2.2.1.1 x w1
  · rw [F 176 x (nw_ar rfl x), F 175 x (nw_ar rfl x)]; exact Y.2.2.2.2.1.2 x hx
  · rw [F 160 52 rfl]; exact Y.2.2.2.2.2.1
  · rw [F 160 51 rfl]; exact Y.2.2.2.2.2.2
theorem bf_tc (B : BF t h) : TC t h := fun c x hc => by
  have q : c = 167 ∨ c = 170 ∨ c = 171 ∨ c = 172 ∨ c = 173 := by omega
  rcases q with q | q | q | q | q
  · subst q; exact B _ _ (nw_ar rfl _)
  · subst q; exact B _ _ (nw_ar rfl _)
  · subst q; exact B _ _ (nw_ar rfl _)
  · subst q; exact B _ _ (nw_ar rfl _)
  · subst q; exact B _ _ (nw_ar rfl _)
theorem yi_hw (Y : YI t h) (H : HW_ t) : HW_ h := hw_eq H (fun k => Y.2.1 164 k (nw_ar rfl k)) (fun k => Y.2.1 165 k (nw_ar rfl k)) (fun k => Y.2.1 188 k (nw_ar rfl k)) (fun k => Y.2.1 189 k (nw_ar rfl k))
theorem yi_ac (Y : YI t h) (H : AC_ t) : AC_ h := ac_eq H (fun k => Y.2.1 180 k (nw_ar rfl k)) (Y.2.1 160 24 rfl)
/-- while there is no FAULT: types are 0 and more, what is called is found -/
def MI (t h : ms_M) : Prop := h 160 9 = 0 → ∀ x : Nat, (x : Int) < t 160 22 → 0 ≤ h 174 x ∧ ((t 167 x = 26 ∨ t 167 x = 31) → 0 ≤ h 175 x)
theorem mi_dead (h1 : ¬ h 160 9 = 0) : MI t h := fun y => absurd y h1
theorem mi_up {c : Nat} {j v : Int} (N : MI t h) (E : z = up_M h c j.toNat v) (hc : c ≠ 160 ∧ c ≠ 174 ∧ c ≠ 175) : MI t z := fun y x hx => by
  subst E
  rw [up_n (by omega)] at y
  rw [up_n (by omega), up_n (by omega)]
  exact N y x hx
theorem mi_fd {k : Nat} {v : Int} (N : MI t h) (E : z = up_M h 160 k v) (hc : k ≠ 9) : MI t z := fun y x hx => by
  subst E
  rw [up_n (by omega)] at y
  rw [up_n (by omega), up_n (by omega)]
  exact N y x hx
theorem mi_174 {j v : Int} (N : MI t h) (E : z = up_M h 174 j.toNat v) (hv : h 160 9 = 0 → 0 ≤ v) : MI t z := fun y x hx => by
  subst E
  rw [up_n (by omega)] at y
  have q := N y x hx
  refine ⟨?_, by rw [up_n (by omega)]; exact q.2⟩
  unfold up_M
  split
  · exact hv y
  · exact q.1
theorem mi_175 {j v : Int} (N : MI t h) (E : z = up_M h 175 j.toNat v) (hv : 0 ≤ v ∨ ¬ (t 167 j.toNat = 26 ∨ t 167 j.toNat = 31)) : MI t z := fun y x hx => by
  subst E
  rw [up_n (by omega)] at y
  have q := N y x hx
  refine ⟨by rw [up_n (by omega)]; exact q.1, fun w => ?_⟩
  unfold up_M
  split
  · rename_i p
    rcases hv with u | u
    · exact u
    · rw [p.2] at w; exact absurd w u
  · exact q.2 w
theorem td_2 (x : Int) : 2 * Int.tdiv x 2 < x + 2 ∧ x - 2 < 2 * Int.tdiv x 2 ∧ (x < 0 ∨ Int.tdiv x 2 = x / 2) := by
  by_cases q : 0 ≤ x
  · rw [Int.tdiv_eq_ediv_of_nonneg q]; omega
  · have e : Int.tdiv x 2 = - Int.tdiv (-x) 2 := by rw [Int.neg_tdiv, Int.neg_neg]
    rw [e, Int.tdiv_eq_ediv_of_nonneg (by omega)]; omega
theorem ok_div4 {α : Type} {Q : α → Prop} {x : Int} {F : Int → Option α} (hx : 0 ≤ x) (h : ∀ v, v = x / 4 → Ok_ (F v) Q) : Ok_ (xl (Int.tdiv x 4) F) Q := h _ (Int.tdiv_eq_ediv_of_nonneg hx)
theorem ok_div2 {α : Type} {Q : α → Prop} {x : Int} {F : Int → Option α} (h : ∀ v, 2 * v < x + 2 → x - 2 < 2 * v → (x < 0 ∨ v = x / 2) → Ok_ (F v) Q) : Ok_ (xl (Int.tdiv x 2) F) Q := h _ (td_2 x).1 (td_2 x).2.1 (td_2 x).2.2
end
