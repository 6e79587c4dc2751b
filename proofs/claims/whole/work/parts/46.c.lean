/- THE START KEEPS TO THE RANGES (behind 39.z and 39.y000 to y017) -/
theorem m0_rd {c k : Nat} (hc : c < 256) : M_0 c k = rd_H h_0 c k := by
  show M_H h_0 c k = _
  unfold M_H; rw [if_neg (by omega), if_pos hc]
theorem sh_Mel2 {l : List (Nat × Nat × Nat × Nat)} (h : sh_M l = true) {c n A B k : Nat} (hc : c < 256) (hm : (c, n, A, B) ∈ l) (h2 : k < n) : -(A : Int) ≤ M_0 c k ∧ M_0 c k ≤ B := by
  unfold sh_M at h
  rw [in_all.1] at h
  rw [m0_rd hc]; unfold rd_H
  simp only at h
  have h3 := List.all_eq_true.mp h _ hm
  simp only at h3
  split at h3
  · rename_i f he
    rw [he]; exact sh_Fel h3 (Nat.zero_le _) (by omega)
  · cases h3
def iz_L : List (Nat × Nat × Nat × Nat) := iz_L0 ++ (iz_L1 ++ (iz_L2 ++ (iz_L3 ++ (iz_L4 ++ (iz_L5 ++ (iz_L6 ++ (iz_L7 ++ (iz_L8 ++ iz_L9))))))))
theorem iz_el {c n A B k : Nat} (hq : (c, n, A, B) ∈ iz_L) (hc : c < 256) (hk : k < n) : -(A : Int) ≤ M_0 c k ∧ M_0 c k ≤ B := by
  unfold iz_L at hq
  simp only [List.mem_append] at hq
  rcases hq with z | z | z | z | z | z | z | z | z | z
  · exact sh_Mel2 iz_m0 hc z hk
  · exact sh_Mel2 iz_m1 hc z hk
  · exact sh_Mel2 iz_m2 hc z hk
  · exact sh_Mel2 iz_m3 hc z hk
  · exact sh_Mel2 iz_m4 hc z hk
  · exact sh_Mel2 iz_m5 hc z hk
  · exact sh_Mel2 iz_m6 hc z hk
  · exact sh_Mel2 iz_m7 hc z hk
  · exact sh_Mel2 iz_m8 hc z hk
  · exact sh_Mel2 iz_m9 hc z hk
theorem iz_212 {k : Nat} (hk : k < 60000) : -(1 : Int) ≤ M_0 212 k ∧ M_0 212 k ≤ 900 := by
  by_cases q : k < 30000
  · exact sh_Kel (by decide) iz_k212_0 (by omega) (by omega)
  · exact sh_Kel (by decide) iz_k212_1 (by omega) (by omega)
theorem iz_221 {k : Nat} (hk : k < 48000) : -(0 : Int) ≤ M_0 221 k ∧ M_0 221 k ≤ 255 := by
  by_cases q : k < 24000
  · exact sh_Kel (by decide) iz_k221_0 (by omega) (by omega)
  · exact sh_Kel (by decide) iz_k221_1 (by omega) (by omega)
theorem iz_223 {k : Nat} (hk : k < 48000) : -(0 : Int) ≤ M_0 223 k ∧ M_0 223 k ≤ 255 := by
  by_cases q : k < 24000
  · exact sh_Kel (by decide) iz_k223_0 (by omega) (by omega)
  · exact sh_Kel (by decide) iz_k223_1 (by omega) (by omega)
theorem iz_226 {k : Nat} (hk : k < 48000) : -(0 : Int) ≤ M_0 226 k ∧ M_0 226 k ≤ 255 := by
  by_cases q : k < 24000
  · exact sh_Kel (by decide) iz_k226_0 (by omega) (by omega)
  · exact sh_Kel (by decide) iz_k226_1 (by omega) (by omega)
def iz_B (c : Nat) : Bool := iz_L.any (fun q => Nat.beq q.1 c && (Nat.beq q.2.1 (ly_N c) && (decide (-(q.2.2.1 : Int) = (vb_ c 0).1) && decide ((q.2.2.2 : Int) = (vb_ c 0).2))))
def iz_ok (c : Nat) : Bool := ((Nat.beq (ly_T c) 5 || Nat.beq (ly_N c) 0) || (Nat.beq c 43 || Nat.beq c 55)) || (decide (vb_ c 0 = (-2147483648, 2147483647)) || ((Nat.beq (ly_T c) 1 && decide (vb_ c 0 = (-128, 127))) || ((Nat.beq c 212 || (Nat.beq c 221 || (Nat.beq c 223 || Nat.beq c 226))) || iz_B c)))
theorem iz_all : (List.range 256).all iz_ok = true := by decide +kernel
theorem iz_inl : (List.range 256).all (fun c => Nat.beq (ly_T c) 5 || (match vt_[c]? with
  | some (.inl _) => true
  | _ => false)) = true := by decide +kernel
theorem iz_v : vb_ 212 0 = (-1, 900) ∧ vb_ 221 0 = (0, 255) ∧ vb_ 223 0 = (0, 255) ∧ vb_ 226 0 = (0, 255) ∧ ly_N 212 = 60000 ∧ ly_N 221 = 48000 ∧ ly_N 223 = 48000 ∧ ly_N 226 = 48000 := by decide +kernel
theorem iz_34 : (List.range 256).all (fun c => Nat.ble (ly_T c) 2 || (Nat.beq (ly_T c) 5 || (Nat.beq c 43 || (Nat.beq c 55 || Nat.beq c 60)))) = true := by decide +kernel
theorem iz_348 : ly_N 43 = 8 ∧ ly_N 55 = 8 ∧ ly_N 60 = 8 := by decide +kernel
theorem vb_k {c k : Nat} (hc : c < 256) (ht : ¬ ly_T c = 5) : vb_ c k = vb_ c 0 := by
  have h := List.all_eq_true.mp iz_inl c (List.mem_range.mpr hc)
  rw [Bool.or_eq_true] at h
  rcases h with h | h
  · exact absurd (Nat.eq_of_beq_eq_true h) ht
  · unfold vb_
    split at h
    · rename_i x e; rw [e]
    · cases h
theorem rd_lo {h : mx_H} {c k : Nat} : -2147483648 ≤ rd_H h c k := by
  unfold rd_H
  split
  · rename_i f e; exact Int.le_trans (by decide) (Int32.le_toInt _)
  · split <;> omega
  · split
    · exact Int.le_trans (by decide) (Int32.le_toInt _)
    · omega
    · omega
  · omega
theorem iv_0 : ((List.range 256).all (fun c => !(Nat.beq (ly_T c) 5) || (List.range 160).all (fun k => decide ((vb_ c k).1 ≤ rd_H h_0 c k ∧ rd_H h_0 c k ≤ (vb_ c k).2))) && iv_R h_0) = true := by
  have h := iv_o
  unfold iv_O at h
  rw [in_all.1] at h
  exact h
theorem iv_t5 : (List.range 256).all (fun c => !(Nat.beq (ly_T c) 5) || (match vt_[c]? with
  | some (.inl _) => false
  | _ => true)) = true := by decide +kernel
theorem iz_v43 : vb_ 43 0 = (-1, 2147483647) ∧ vb_ 55 0 = (-1, 2147483647) := by decide +kernel
def iz_N : Bool := match in_0 with
  | some (_, _, h, _, _) => (List.range 8).all (fun k => decide (rd_H h 43 k = -1) && decide (rd_H h 55 k = -1))
  | none => false
theorem iz_n : iz_N = true := by decide +kernel
theorem iz_43 (k : Nat) (hk : k < 8) : M_0 43 k = -1 ∧ M_0 55 k = -1 := by
  have h := iz_n
  unfold iz_N at h
  rw [in_all.1] at h
  have := List.all_eq_true.mp h k (List.mem_range.mpr hk)
  rw [Bool.and_eq_true] at this
  rw [m0_rd (by decide), m0_rd (by decide)]
  exact ⟨of_decide_eq_true this.1, of_decide_eq_true this.2⟩
theorem kc_256 {b : Nat} (h : kc_O b = 3) : b < 256 := kc_lt h (by decide)
theorem VS_0 : VS_ M_0 := by
  have h0 := iv_0
  rw [Bool.and_eq_true] at h0
  obtain ⟨ho, hr⟩ := h0
  unfold iv_R at hr
  obtain ⟨r1, hr⟩ := Bool.and_eq_true_iff.mp hr
  obtain ⟨r2, hr⟩ := Bool.and_eq_true_iff.mp hr
  obtain ⟨hr, r6⟩ := Bool.and_eq_true_iff.mp hr
  obtain ⟨h3, hr⟩ := Bool.and_eq_true_iff.mp hr
  obtain ⟨r3, r3'⟩ := Bool.and_eq_true_iff.mp h3
  obtain ⟨h4, h5⟩ := Bool.and_eq_true_iff.mp hr
  obtain ⟨r4, r4'⟩ := Bool.and_eq_true_iff.mp h4
  obtain ⟨r5, r5'⟩ := Bool.and_eq_true_iff.mp h5
  have s3 := Nat.eq_of_beq_eq_true r3'
  have s4 := Nat.eq_of_beq_eq_true r4'
  have s5 := Nat.eq_of_beq_eq_true r5'
  have q6 : ∀ k : Nat, k < 8 → M_0 43 k < 0 ∧ M_0 55 k < 0 := by
    intro k hk
    have := List.all_eq_true.mp r6 k (List.mem_range.mpr hk)
    rw [Bool.and_eq_true] at this
    rw [m0_rd (by decide), m0_rd (by decide)]
    exact ⟨of_decide_eq_true this.1, of_decide_eq_true this.2⟩
  have q2 : ∀ k : Nat, k < 8 → 0 ≤ M_0 60 k ∧ kc_O (M_0 60 k).toNat = 3 := by
    intro k hk
    have := List.all_eq_true.mp r2 k (List.mem_range.mpr hk)
    rw [Bool.and_eq_true] at this
    rw [m0_rd (by decide)]
    exact ⟨of_decide_eq_true this.1, Nat.eq_of_beq_eq_true this.2⟩
  refine ⟨fun c k hc hk => ?_, ⟨⟨by decide, by decide⟩, Rg_0.2.2.2.2⟩, fun b hb => ?_, fun c k a b d => ?_, q2, ⟨?_, ?_, ?_⟩, fun k hk z => ?_, fun k hk z => ?_⟩
  · by_cases t5 : ly_T c = 5
    · by_cases k1 : k < 160
      · have := List.all_eq_true.mp ho c (List.mem_range.mpr hc)
        rw [Bool.or_eq_true] at this
        rcases this with z | z
        · rw [t5] at z; cases z
        · have := List.all_eq_true.mp z k (List.mem_range.mpr k1)
          rw [m0_rd hc]; exact of_decide_eq_true this
      · have e : vb_ c k = (-2147483648, 2147483647) := by
          unfold vb_
          cases hv : vt_[c]? with
          | none => rfl
          | some x =>
            have := List.all_eq_true.mp iv_t x (List.mem_of_getElem? hv)
            cases x with
            | inl p => have z := List.all_eq_true.mp iv_t5 c (List.mem_range.mpr hc); rw [t5, hv] at z; cases z
            | inr l =>
              have : l.length ≤ 160 := Nat.le_of_ble_eq_true this
              show (l[k]?).getD _ = _
              rw [List.getElem?_eq_none (by omega)]; rfl
        rw [e]
        exact Rg_0.2.1 c k (by omega)
    · have hk : k < ly_N c := hk.resolve_left t5
      rw [vb_k hc t5]
      have h := List.all_eq_true.mp iz_all c (List.mem_range.mpr hc)
      unfold iz_ok at h
      simp only [Bool.or_eq_true] at h
      have t34 := List.all_eq_true.mp iz_34 c (List.mem_range.mpr hc)
      simp only [Bool.or_eq_true] at t34
      rcases h with ((h | h) | h | h) | h | h | (h | h | h | h) | h
      · exact absurd (Nat.eq_of_beq_eq_true h) t5
      · have e := Nat.eq_of_beq_eq_true h
        omega
      · have e := Nat.eq_of_beq_eq_true h
        rw [e] at hk ⊢
        rw [iz_348.1] at hk
        rw [iz_v43.1, (iz_43 k hk).1]
        decide
      · have e := Nat.eq_of_beq_eq_true h
        rw [e] at hk ⊢
        rw [iz_348.2.1] at hk
        rw [iz_v43.2, (iz_43 k hk).2]
        decide
      · have h := of_decide_eq_true h
        rw [h]
        rcases t34 with t | t | t | t | t
        · have := Nat.le_of_ble_eq_true t
          exact Rg_0.2.1 c k (by omega)
        · exact absurd (Nat.eq_of_beq_eq_true t) t5
        · have e := Nat.eq_of_beq_eq_true t
          rw [e, iz_v43.1] at h
          exact absurd h (by decide)
        · have e := Nat.eq_of_beq_eq_true t
          rw [e, iz_v43.2] at h
          exact absurd h (by decide)
        · have e := Nat.eq_of_beq_eq_true t
          rw [e] at hk ⊢
          rw [iz_348.2.2] at hk
          have z := q2 k hk
          have := kc_256 z.2
          refine ⟨by rw [m0_rd (by decide)]; exact rd_lo, by show M_0 60 k ≤ 2147483647; omega⟩
      · rw [Bool.and_eq_true] at h
        rw [of_decide_eq_true h.2]
        refine Rg_0.2.2.1 c k (by omega) (Nat.eq_of_beq_eq_true h.1) ?_
        unfold ln_I; rw [if_pos hc]; omega
      · have e := Nat.eq_of_beq_eq_true h
        subst e
        rw [iz_v.1]; exact iz_212 (by have := iz_v.2.2.2.2.1; omega)
      · have e := Nat.eq_of_beq_eq_true h
        subst e
        rw [iz_v.2.1]; exact iz_221 (by have := iz_v.2.2.2.2.2.1; omega)
      · have e := Nat.eq_of_beq_eq_true h
        subst e
        rw [iz_v.2.2.1]; exact iz_223 (by have := iz_v.2.2.2.2.2.2.1; omega)
      · have e := Nat.eq_of_beq_eq_true h
        subst e
        rw [iz_v.2.2.2.1]; exact iz_226 (by have := iz_v.2.2.2.2.2.2.2; omega)
      · unfold iz_B at h
        obtain ⟨⟨c2, n, A, B⟩, hm, hp⟩ := List.any_eq_true.mp h
        simp only [Bool.and_eq_true] at hp
        obtain ⟨p1, p2, p3, p4⟩ := hp
        have e1 : c2 = c := Nat.eq_of_beq_eq_true p1
        have e2 : n = ly_N c := Nat.eq_of_beq_eq_true p2
        rw [← of_decide_eq_true p3, ← of_decide_eq_true p4]
        rw [e1, e2] at hm
        exact iz_el hm hc hk
  · have hb2 := kc_256 hb
    have := List.all_eq_true.mp r1 b (List.mem_range.mpr hb2)
    rw [hb] at this
    simp only [Nat.beq, Bool.not_true, Bool.false_or, Bool.and_eq_true] at this
    obtain ⟨z1, z2, z3, z4⟩ := this
    rw [m0_rd hb2, m0_rd hb2]
    have y2 : (rd_H h_0 b 0).toNat < 256 := by rw [Nat.blt_eq] at z2; exact z2
    refine ⟨⟨of_decide_eq_true z1, by rw [cn_0]; exact y2, Nat.eq_of_beq_eq_true z3⟩, ?_⟩
    unfold ln_I; rw [if_pos y2]; exact of_decide_eq_true z4
  · have : M_0 c k = 0 := by
      show M_H h_0 c k = 0
      unfold M_H; rw [if_neg (by omega), if_neg (by omega)]
    omega
  · rw [m0_rd (by decide)]; exact ⟨of_decide_eq_true r3, s3⟩
  · rw [m0_rd (by decide)]; exact ⟨of_decide_eq_true r4, s4⟩
  · rw [m0_rd (by decide)]; exact ⟨of_decide_eq_true r5, s5⟩
  · have := (q6 k hk).1; omega
  · have := (q6 k hk).2; omega
