section
variable {α β γ δ : Type} {R : α → β → Prop}
theorem cl_i {j : Int32} {y : Int} (e : j.toInt = y) (h : 0 ≤ y) : j.toNatClampNeg = y.toNat := by
  rw [← e]; rfl
theorem j_ok {j : Int32} {y : Int} {n : Nat} (e : j.toInt = y) (h1 : 0 ≤ y) (h2 : y < n) : ¬ (j < 0 ∨ n ≤ j.toNatClampNeg) := by
  rintro (h | h)
  · rw [Int32.lt_iff_toInt_lt, e] at h
    have : (0 : Int32).toInt = 0 := rfl
    omega
  · rw [cl_i e h1] at h; omega
theorem j_ok2 {j : Int32} {y : Int} {n : Nat} (e : j.toInt = y) (h1 : 0 ≤ y) (h2 : y < n) : ¬ (j < 0 ∨ n ≤ y.toNat) := by
  have h := j_ok e h1 h2
  rw [cl_i e h1] at h; exact h
/-- arrays of ints -/
theorem ai_okM {M : ms_M} {c : Nat} (hc : c < cn_M M) (ht : ly_T c = 0) {j : Int32} {y : Int} (e : j.toInt = y) (h1 : 0 ≤ y) (h2 : y < (ly_N c : Int)) : xai (H_M M) c j = some (Int32.ofInt (M c y.toNat)) := by
  unfold xai mx_ai
  rw [gH_ hc, cl_0 ht]
  simp only [j_ok2 e h1 h2, not_false_eq_true, and_self, if_true, cl_i e h1]
theorem sm_ai {M : ms_M} (hM : Rg_M M) {c n : Nat} (hl : ly_R c 0 n = true) {j : Int32} {y : Int} (e : j.toInt = y) {F : Int32 → Option α} {G : Int → Option β} (h : ∀ (v : Int32) (z : Int), v.toInt = z → Sm_ R (F v) (G z)) : Sm_ R (mx_sv (xai (H_M M) c j) F) (rd_A (n : Int) c y M G) := by
  obtain ⟨h1, h2, h3⟩ := ly_Rel hl
  unfold rd_A; split
  · rename_i h4
    rw [ai_okM (cn_fix hM h1) h2 e h4.1 (by rw [h3]; exact h4.2), mx_svs]; exact h _ _ (to_of (hM.2.1 _ _ (by rw [h2]; decide)))
  · exact sm_no
theorem sm_aiS {M : ms_M} (hM : Rg_M M) {c : Nat} {j : Int32} {y : Int} (e : j.toInt = y) {F : Int32 → Option α} {G : Int → Option β} (h : ∀ (v : Int32) (z : Int), v.toInt = z → Sm_ R (F v) (G z)) : Sm_ R (mx_sv (xai (H_M M) c j) F) (rd_S c y M G) := by
  unfold rd_S; split
  · rename_i h4
    have h5 : c < 256 := ly_lt (by rw [h4.1.2]; decide)
    rw [ai_okM h4.1.1 h4.1.2 e h4.2.1 (by have := h4.2.2; unfold ln_I at this; rw [if_pos h5] at this; exact this), mx_svs]; exact h _ _ (to_of (hM.2.1 _ _ (by rw [h4.1.2]; decide)))
  · exact sm_no
theorem si_okM {M : ms_M} (hM : Rg_M M) {c : Nat} (hc : c < cn_M M) (ht : ly_T c = 0) {j x : Int32} {y z : Int} (e : j.toInt = y) (ex : x.toInt = z) (h1 : 0 ≤ y) (h2 : y < (ly_N c : Int)) : xsi (H_M M) c j x = some (H_M (up_M M c y.toNat z)) ∧ Rg_M (up_M M c y.toNat z) := by
  have hc9 : c < 900000 := by have := cn_hi hM; omega
  constructor
  · unfold xsi mx_ai
    rw [gH_ hc, cl_0 ht]
    simp only [j_ok2 e h1 h2, not_false_eq_true, and_self, if_true, cl_i e h1]
    congr 1
    refine H_set hc9 up_ne ?_
    rw [cl_0 ht, of_up ex]
  · exact up_Rg hM hc9 (rg_e ex) (fun q => by omega) (fun q => by omega)
theorem sm_si {M : ms_M} (hM : Rg_M M) {c n : Nat} (hl : ly_R c 0 n = true) {j x : Int32} {y z : Int} (e : j.toInt = y) (ex : x.toInt = z) {F : mx_H → Option α} {G : ms_M → Option β} (h : ∀ M2, Rg_M M2 → Sm_ R (F (H_M M2)) (G M2)) : Sm_ R (mx_sv (xsi (H_M M) c j x) F) (wr_A (n : Int) c y z M G) := by
  obtain ⟨h1, h2, h3⟩ := ly_Rel hl
  unfold wr_A; split
  · rename_i h4
    obtain ⟨h5, h6⟩ := si_okM hM (cn_fix hM h1) h2 e ex h4.1 (by rw [h3]; exact h4.2)
    rw [h5, mx_svs]; exact h _ h6
  · exact sm_no
theorem sm_siS {M : ms_M} (hM : Rg_M M) {c : Nat} {j x : Int32} {y z : Int} (e : j.toInt = y) (ex : x.toInt = z) {F : mx_H → Option α} {G : ms_M → Option β} (h : ∀ M2, Rg_M M2 → Sm_ R (F (H_M M2)) (G M2)) : Sm_ R (mx_sv (xsi (H_M M) c j x) F) (wr_S c y z M G) := by
  unfold wr_S; split
  · rename_i h4
    have h5 : c < 256 := ly_lt (by rw [h4.1.2]; decide)
    obtain ⟨h6, h7⟩ := si_okM hM h4.1.1 h4.1.2 e ex h4.2.1 (by have := h4.2.2; unfold ln_I at this; rw [if_pos h5] at this; exact this)
    rw [h6, mx_svs]; exact h _ h7
  · exact sm_no
theorem I_arr {c off n : Nat} (hb : kc_O c = 3) (h : (match off with | 2 => Nat.beq n 256 | 3 => Nat.beq n 256 | 4 => Nat.beq n 256 | 5 => Nat.beq n 24 | 6 => Nat.beq n 144 | _ => false) = true) : ly_R (c + off) 0 n = true := by
  have h1 := I_one hb
  simp only [Bool.and_eq_true] at h1
  obtain ⟨-, h2, h3, h4, h5, h6⟩ := h1
  split at h
  all_goals first | cases h | (cases (Nat.eq_of_beq_eq_true h : n = _); assumption)
theorem sm_aiI {M : ms_M} (hM : Rg_M M) {c off n : Nat} (hb : kc_O c = 3) (hl : (match off with | 2 => Nat.beq n 256 | 3 => Nat.beq n 256 | 4 => Nat.beq n 256 | 5 => Nat.beq n 24 | 6 => Nat.beq n 144 | _ => false) = true) {j : Int32} {y : Int} (e : j.toInt = y) {F : Int32 → Option α} {G : Int → Option β} (h : ∀ (v : Int32) (z : Int), v.toInt = z → Sm_ R (F v) (G z)) : Sm_ R (mx_sv (xai (H_M M) (c + off) j) F) (rd_A (n : Int) (c + off) y M G) := sm_ai hM (I_arr hb hl) e h
theorem sm_siI {M : ms_M} (hM : Rg_M M) {c off n : Nat} (hb : kc_O c = 3) (hl : (match off with | 2 => Nat.beq n 256 | 3 => Nat.beq n 256 | 4 => Nat.beq n 256 | 5 => Nat.beq n 24 | 6 => Nat.beq n 144 | _ => false) = true) {j x : Int32} {y z : Int} (e : j.toInt = y) (ex : x.toInt = z) {F : mx_H → Option α} {G : ms_M → Option β} (h : ∀ M2, Rg_M M2 → Sm_ R (F (H_M M2)) (G M2)) : Sm_ R (mx_sv (xsi (H_M M) (c + off) j x) F) (wr_A (n : Int) (c + off) y z M G) := sm_si hM (I_arr hb hl) e ex h
theorem K_arr {c : Nat} (hb : kc_O c = 4) : ly_R (c + 1) 0 16 = true ∧ ly_R (c + 2) 2 256 = true := by
  have h1 := K_one hb
  simp only [Bool.and_eq_true] at h1
  exact h1.2
theorem sm_aiK {M : ms_M} (hM : Rg_M M) {c off n : Nat} (hb : kc_O c = 4) (hl : (Nat.beq off 1 && Nat.beq n 16) = true) {j : Int32} {y : Int} (e : j.toInt = y) {F : Int32 → Option α} {G : Int → Option β} (h : ∀ (v : Int32) (z : Int), v.toInt = z → Sm_ R (F v) (G z)) : Sm_ R (mx_sv (xai (H_M M) (c + off) j) F) (rd_A (n : Int) (c + off) y M G) := by
  simp only [Bool.and_eq_true] at hl
  cases (Nat.eq_of_beq_eq_true hl.1 : off = 1); cases (Nat.eq_of_beq_eq_true hl.2 : n = 16)
  exact sm_ai hM (K_arr hb).1 e h
theorem sm_siK {M : ms_M} (hM : Rg_M M) {c off n : Nat} (hb : kc_O c = 4) (hl : (Nat.beq off 1 && Nat.beq n 16) = true) {j x : Int32} {y z : Int} (e : j.toInt = y) (ex : x.toInt = z) {F : mx_H → Option α} {G : ms_M → Option β} (h : ∀ M2, Rg_M M2 → Sm_ R (F (H_M M2)) (G M2)) : Sm_ R (mx_sv (xsi (H_M M) (c + off) j x) F) (wr_A (n : Int) (c + off) y z M G) := by
  simp only [Bool.and_eq_true] at hl
  cases (Nat.eq_of_beq_eq_true hl.1 : off = 1); cases (Nat.eq_of_beq_eq_true hl.2 : n = 16)
  exact sm_si hM (K_arr hb).1 e ex h
/-- arrays of bytes and booleans -/
theorem ab_okM {M : ms_M} {c : Nat} (hc : c < cn_M M) (ht : ly_T c = 1 ∨ ly_T c = 2) {n : Nat} (hn : (ly_T c = 1 → n = (ln_I M c).toNat) ∧ (ly_T c = 2 → n = ly_N c)) {j : Int32} {y : Int} (e : j.toInt = y) (h1 : 0 ≤ y) (h2 : y < (n : Int)) : xab (H_M M) c j = some (Int32.ofInt (M c y.toNat)) := by
  unfold xab mx_ai
  rw [gH_ hc]
  rcases ht with ht | ht
  · rw [cl_1 ht, ← hn.1 ht]
    simp only [j_ok2 e h1 h2, not_false_eq_true, and_self, if_true, cl_i e h1, true_or]
  · rw [cl_2 ht, ← hn.2 ht]
    simp only [j_ok2 e h1 h2, not_false_eq_true, and_self, if_true, cl_i e h1, or_true]
theorem ln_fix {M : ms_M} {c : Nat} (h : c < 256) : ln_I M c = (ly_N c : Int) := by unfold ln_I; rw [if_pos h]
theorem sm_abA {M : ms_M} (hM : Rg_M M) {c n t : Nat} (ht : t = 1 ∨ t = 2) (hl : ly_R c t n = true) {j : Int32} {y : Int} (e : j.toInt = y) {F : Int32 → Option α} {G : Int → Option β} (h : ∀ (v : Int32) (z : Int), v.toInt = z → Sm_ R (F v) (G z)) : Sm_ R (mx_sv (xab (H_M M) c j) F) (rd_A (n : Int) c y M G) := by
  obtain ⟨h1, h2, h3⟩ := ly_Rel hl
  unfold rd_A; split
  · rename_i h4
    rw [ab_okM (cn_fix hM h1) (by rw [h2]; exact ht) (n := n) ⟨fun _ => by rw [ln_fix h1, h3]; omega, fun _ => h3.symm⟩ e h4.1 h4.2, mx_svs]; exact h _ _ (to_of (hM.2.1 _ _ (by rw [h2]; rcases ht with rfl | rfl <;> decide)))
  · exact sm_no
theorem sm_ab {M : ms_M} (hM : Rg_M M) {c n : Nat} (hl : (ly_R c 1 n || ly_R c 2 n) = true) {j : Int32} {y : Int} (e : j.toInt = y) {F : Int32 → Option α} {G : Int → Option β} (h : ∀ (v : Int32) (z : Int), v.toInt = z → Sm_ R (F v) (G z)) : Sm_ R (mx_sv (xab (H_M M) c j) F) (rd_A (n : Int) c y M G) := by
  rcases (Bool.or_eq_true _ _ ▸ hl : ly_R c 1 n = true ∨ ly_R c 2 n = true) with h1 | h1
  · exact sm_abA hM (.inl rfl) h1 e h
  · exact sm_abA hM (.inr rfl) h1 e h
theorem sm_abK {M : ms_M} (hM : Rg_M M) {c off n : Nat} (hb : kc_O c = 4) (hl : (Nat.beq off 2 && Nat.beq n 256) = true) {j : Int32} {y : Int} (e : j.toInt = y) {F : Int32 → Option α} {G : Int → Option β} (h : ∀ (v : Int32) (z : Int), v.toInt = z → Sm_ R (F v) (G z)) : Sm_ R (mx_sv (xab (H_M M) (c + off) j) F) (rd_A (n : Int) (c + off) y M G) := by
  simp only [Bool.and_eq_true] at hl
  cases (Nat.eq_of_beq_eq_true hl.1 : off = 2); cases (Nat.eq_of_beq_eq_true hl.2 : n = 256)
  exact sm_abA hM (.inr rfl) (K_arr hb).2 e h
theorem sm_abS {M : ms_M} (hM : Rg_M M) {c : Nat} {j : Int32} {y : Int} (e : j.toInt = y) {F : Int32 → Option α} {G : Int → Option β} (h : ∀ (v : Int32) (z : Int), v.toInt = z → Sm_ R (F v) (G z)) : Sm_ R (mx_sv (xab (H_M M) c j) F) (rd_T c y M G) := by
  unfold rd_T; split
  · rename_i h4
    rw [ab_okM h4.1.1 (.inl h4.1.2) (n := (ln_I M c).toNat) ⟨fun _ => rfl, fun q => by omega⟩ e h4.2.1 (by omega), mx_svs]; exact h _ _ (to_of (hM.2.1 _ _ (by rw [h4.1.2]; decide)))
  · exact sm_no
theorem nar_b {x : Int32} {z : Int} (e : x.toInt = z) : (vp_nar .byte x).toInt = oq_b z := by
  unfold oq_b; rw [of_to e]; rfl
theorem oq_b_rg (z : Int) : -128 ≤ oq_b z ∧ oq_b z ≤ 127 := by
  unfold oq_b
  rw [Int8.toInt_toInt32]
  exact ⟨Int8.le_toInt _, by have := Int8.toInt_lt (Int32.ofInt z).toInt8; omega⟩
theorem sb_okM {M : ms_M} (hM : Rg_M M) {c : Nat} (hc : c < cn_M M) (ht : ly_T c = 1) {j x : Int32} {y z : Int} (e : j.toInt = y) (ex : x.toInt = z) (h1 : 0 ≤ y) (h2 : y < ln_I M c) : xsb (H_M M) c j x = some (H_M (up_M M c y.toNat (oq_b z))) ∧ Rg_M (up_M M c y.toNat (oq_b z)) := by
  have hc9 : c < 900000 := by have := cn_hi hM; omega
  constructor
  · unfold xsb mx_ai
    rw [gH_ hc, cl_1 ht]
    simp only [j_ok2 e h1 (n := (ln_I M c).toNat) (by omega), not_false_eq_true, and_self, if_true, cl_i e h1, true_or]
    congr 1
    refine H_set hc9 up_ne ?_
    rw [cl_1 ht, of_up (nar_b ex)]
    have : ln_I (up_M M c y.toNat (oq_b z)) c = ln_I M c := by unfold ln_I; rw [up_ne 900001 (by omega)]
    rw [this]
  · exact up_Rg hM hc9 (by have := oq_b_rg z; omega) (fun q => oq_b_rg z) (fun q => by omega)
theorem sm_sb {M : ms_M} (hM : Rg_M M) {c n : Nat} (hl : ly_R c 1 n = true) {j x : Int32} {y z : Int} (e : j.toInt = y) (ex : x.toInt = z) {F : mx_H → Option α} {G : ms_M → Option β} (h : ∀ M2, Rg_M M2 → Sm_ R (F (H_M M2)) (G M2)) : Sm_ R (mx_sv (xsb (H_M M) c j x) F) (wr_B (n : Int) c y z M G) := by
  obtain ⟨h1, h2, h3⟩ := ly_Rel hl
  unfold wr_B; split
  · rename_i h4
    obtain ⟨h5, h6⟩ := sb_okM hM (cn_fix hM h1) h2 e ex h4.1 (by rw [ln_fix h1, h3]; exact h4.2)
    rw [h5, mx_svs]; exact h _ h6
  · exact sm_no
theorem sm_sbS {M : ms_M} (hM : Rg_M M) {c : Nat} {j x : Int32} {y z : Int} (e : j.toInt = y) (ex : x.toInt = z) {F : mx_H → Option α} {G : ms_M → Option β} (h : ∀ M2, Rg_M M2 → Sm_ R (F (H_M M2)) (G M2)) : Sm_ R (mx_sv (xsb (H_M M) c j x) F) (wr_T c y z M G) := by
  unfold wr_T; split
  · rename_i h4
    obtain ⟨h5, h6⟩ := sb_okM hM h4.1.1 h4.1.2 e ex h4.2.1 h4.2.2
    rw [h5, mx_svs]; exact h _ h6
  · exact sm_no
theorem nar_z {x : Int32} {z : Int} (e : x.toInt = z) (h : z = 0 ∨ z = 1) : (vp_nar .boolean x).toInt = z := by
  have hx : x = Int32.ofInt z := (of_to e).symm
  rcases h with rfl | rfl <;> (rw [hx]; rfl)
theorem sm_szA {M : ms_M} (hM : Rg_M M) {c n : Nat} (hl : ly_R c 2 n = true) {j x : Int32} {y z : Int} (e : j.toInt = y) (ex : x.toInt = z) {F : mx_H → Option α} {G : ms_M → Option β} (h : ∀ M2, Rg_M M2 → Sm_ R (F (H_M M2)) (G M2)) : Sm_ R (mx_sv (xsb (H_M M) c j x) F) (wr_Z (n : Int) c y z M G) := by
  obtain ⟨h1, ht, h3⟩ := ly_Rel hl
  unfold wr_Z; split
  · rename_i h4
    have hc := cn_fix hM h1
    have h5 : xsb (H_M M) c j x = some (H_M (up_M M c y.toNat z)) := by
      unfold xsb mx_ai
      rw [gH_ hc, cl_2 ht]
      simp only [j_ok2 e h4.2.1 (n := ly_N c) (by omega), not_false_eq_true, and_self, if_true, cl_i e h4.2.1, or_true]
      congr 1
      refine H_set (by omega) up_ne ?_
      rw [cl_2 ht, of_up (nar_z ex h4.1)]
    rw [h5, mx_svs]
    exact h _ (up_Rg hM (by omega) (by omega) (fun q => by omega) (fun q => by omega))
  · exact sm_no
theorem sm_sz {M : ms_M} (hM : Rg_M M) {c n : Nat} (hl : ly_R c 2 n = true) {j x : Int32} {y z : Int} (e : j.toInt = y) (ex : x.toInt = z) {F : mx_H → Option α} {G : ms_M → Option β} (h : ∀ M2, Rg_M M2 → Sm_ R (F (H_M M2)) (G M2)) : Sm_ R (mx_sv (xsb (H_M M) c j x) F) (wr_Z (n : Int) c y z M G) := sm_szA hM hl e ex h
theorem sm_szK {M : ms_M} (hM : Rg_M M) {c off n : Nat} (hb : kc_O c = 4) (hl : (Nat.beq off 2 && Nat.beq n 256) = true) {j x : Int32} {y z : Int} (e : j.toInt = y) (ex : x.toInt = z) {F : mx_H → Option α} {G : ms_M → Option β} (h : ∀ M2, Rg_M M2 → Sm_ R (F (H_M M2)) (G M2)) : Sm_ R (mx_sv (xsb (H_M M) (c + off) j x) F) (wr_Z (n : Int) (c + off) y z M G) := by
  simp only [Bool.and_eq_true] at hl
  cases (Nat.eq_of_beq_eq_true hl.1 : off = 2); cases (Nat.eq_of_beq_eq_true hl.2 : n = 256)
  exact sm_szA hM (K_arr hb).2 e ex h
/-- lengths -/
theorem i_nat {n : Nat} (h : n < 2147483648) : (Int32.ofNat n).toInt = (n : Int) := by
  rw [← Int32.ofInt_eq_ofNat]; exact to_of (by omega)
theorem sm_ln {M : ms_M} (hM : Rg_M M) {c : Nat} {z : Int} (hl : (Nat.ble (c + 1) 256 && (Nat.ble (ly_T c) 4 && (Nat.ble (ly_N c) 100000 && decide ((ly_N c : Int) = z)))) = true) {F : Int32 → Option α} {y : Option β} (h : ∀ v : Int32, v.toInt = z → Sm_ R (F v) y) : Sm_ R (mx_sv (xln (H_M M) c) F) y := by
  simp only [Bool.and_eq_true, decide_eq_true_eq] at hl
  obtain ⟨h1, h2, h3, h4⟩ := hl
  have h1 := Nat.le_of_ble_eq_true h1
  have h2 := Nat.le_of_ble_eq_true h2
  have h3 := Nat.le_of_ble_eq_true h3
  have hx : xln (H_M M) c = some (Int32.ofNat (ly_N c)) := by
    unfold xln mx_av
    rw [gH_ (cn_fix hM h1)]
    have hc : ly_T c = 0 ∨ ly_T c = 1 ∨ ly_T c = 2 ∨ ly_T c = 3 ∨ ly_T c = 4 := by omega
    rcases hc with q | q | q | q | q
    · rw [cl_0 q]
    · rw [cl_1 q, ln_fix h1]; rfl
    · rw [cl_2 q]
    · rw [cl_3 q]
    · rw [cl_4 q]
  rw [hx, mx_svs]
  exact h _ (by rw [i_nat (by omega)]; exact h4)
theorem sm_lnI {M : ms_M} (hM : Rg_M M) {c off : Nat} (hb : kc_O c = 3) {z : Int} (hl : (match off with | 2 => decide (z = 256) | 3 => decide (z = 256) | 4 => decide (z = 256) | 5 => decide (z = 24) | 6 => decide (z = 144) | _ => false) = true) {F : Int32 → Option α} {y : Option β} (h : ∀ v : Int32, v.toInt = z → Sm_ R (F v) y) : Sm_ R (mx_sv (xln (H_M M) (c + off)) F) y := by
  have h1 := I_one hb
  simp only [Bool.and_eq_true] at h1
  obtain ⟨-, h2, h3, h4, h5, h6⟩ := h1
  have hh : ∃ n, ly_R (c + off) 0 n = true ∧ n ≤ 100000 ∧ (n : Int) = z := by
    split at hl
    · exact ⟨256, h2, by omega, (of_decide_eq_true hl).symm⟩
    · exact ⟨256, h3, by omega, (of_decide_eq_true hl).symm⟩
    · exact ⟨256, h4, by omega, (of_decide_eq_true hl).symm⟩
    · exact ⟨24, h5, by omega, (of_decide_eq_true hl).symm⟩
    · exact ⟨144, h6, by omega, (of_decide_eq_true hl).symm⟩
    · cases hl
  obtain ⟨n, h7, h8, h9⟩ := hh
  obtain ⟨g1, g2, g3⟩ := ly_Rel h7
  have hx : xln (H_M M) (c + off) = some (Int32.ofNat n) := by
    unfold xln mx_av
    rw [gH_ (cn_fix hM g1), cl_0 g2, g3]
  rw [hx, mx_svs]
  exact h _ (by rw [i_nat (by omega)]; exact h9)
theorem ln_rg {M : ms_M} (hM : Rg_M M) (c : Nat) : 0 ≤ ln_I M c ∧ ln_I M c ≤ 2147483647 := by
  unfold ln_I; split
  · rename_i h
    have : (List.range 256).all (fun c => Nat.ble (ly_N c) 100000) = true := by decide +kernel
    have := Nat.le_of_ble_eq_true (List.all_eq_true.mp this c (List.mem_range.mpr h))
    omega
  · exact ⟨hM.2.2.2.2 c, (hM.2.1 900001 c (by rw [ly_Tbig (by decide)]; decide)).2⟩
theorem sm_lnS {M : ms_M} (hM : Rg_M M) {c : Nat} {F : Int32 → Option α} {G : Int → Option β} (h : ∀ (v : Int32) (z : Int), v.toInt = z → Sm_ R (F v) (G z)) : Sm_ R (mx_sv (xln (H_M M) c) F) (ln_S c M G) := by
  unfold ln_S; split
  · rename_i h4
    have hr := ln_rg hM c
    have hx : xln (H_M M) c = some (Int32.ofNat (ln_I M c).toNat) := by
      unfold xln mx_av
      rw [gH_ h4.1]
      have hc : ly_T c = 0 ∨ ly_T c = 1 ∨ ly_T c = 2 := by omega
      rcases hc with q | q | q
      · have := ly_lt (c := c) (by omega); rw [cl_0 q, ln_fix this]; rfl
      · rw [cl_1 q]
      · have := ly_lt (c := c) (by omega); rw [cl_2 q, ln_fix this]; rfl
    rw [hx, mx_svs]
    exact h _ _ (by rw [i_nat (by omega)]; omega)
  · exact sm_no
/-- references in arrays -/
theorem sm_aq {M : ms_M} (hM : Rg_M M) {c n : Nat} (hl : (ly_R c 3 n || ly_R c 4 n) = true) {j : Int32} {y : Int} (e : j.toInt = y) {F : Option Nat → Option α} {G : Int → Option β} (h : ∀ (z : Int), Sm_ R (F (rf_O z)) (G z)) : Sm_ R (mx_sv (xaq (H_M M) c j) F) (rd_A (n : Int) c y M G) := by
  unfold rd_A; split
  · rename_i h4
    have hx : xaq (H_M M) c j = some (rf_O (M c y.toNat)) := by
      rcases (Bool.or_eq_true _ _ ▸ hl : ly_R c 3 n = true ∨ ly_R c 4 n = true) with h5 | h5
      · obtain ⟨g1, g2, g3⟩ := ly_Rel h5
        unfold xaq mx_aq
        rw [gH_ (cn_fix hM g1), cl_3 g2, g3]
        simp only [j_ok2 e h4.1 h4.2, not_false_eq_true, if_true, cl_i e h4.1, FieldType.isReference, and_self]
      · obtain ⟨g1, g2, g3⟩ := ly_Rel h5
        unfold xaq mx_aq
        rw [gH_ (cn_fix hM g1), cl_4 g2, g3]
        simp only [j_ok2 e h4.1 h4.2, not_false_eq_true, if_true, cl_i e h4.1, FieldType.isReference, and_self]
    rw [hx, mx_svs]; exact h _
  · exact sm_no
theorem up_va {M : ms_M} {c k : Nat} {v : Int} : (fun i => rf_O (up_M M c k v c i)) = va_up (fun i => rf_O (M c i)) k (rf_O v) := by
  funext i; unfold up_M va_up
  by_cases h : i = k
  · rw [if_pos ⟨rfl, h⟩, if_pos h]
  · rw [if_neg (fun z => h z.2), if_neg h]
theorem rf_pos {y : Int} (h : 0 ≤ y) : rf_O y = some y.toNat := by unfold rf_O; rw [if_neg (by omega)]
theorem cn_3 : mx_cn 3 = some RX3 := rfl
theorem sm_sqI {M : ms_M} (hM : Rg_M M) {c : Nat} (hl : ly_R c 3 8 = true) {j : Int32} {y z : Int} (e : j.toInt = y) {F : mx_H → Option α} {G : ms_M → Option β} (h : ∀ M2, Rg_M M2 → Sm_ R (F (H_M M2)) (G M2)) : Sm_ R (mx_sv (xsq (H_M M) c j (rf_O z)) F) (wr_QI c y z M G) := by
  unfold wr_QI; split
  · rename_i h4
    obtain ⟨g1, g2, g3⟩ := ly_Rel hl
    obtain ⟨k1, k2⟩ := kc_T h4.1.2 (by decide)
    have k3 := kc_lt h4.1.2 (by decide)
    have hx : xsq (H_M M) c j (rf_O z) = some (H_M (up_M M c y.toNat z)) := by
      unfold xsq mx_aq
      rw [gH_ (cn_fix hM g1), cl_3 g2, g3]
      simp only [j_ok2 e h4.2.1 (n := 8) (by omega), not_false_eq_true, if_true, cl_i e h4.2.1]
      rw [rf_pos h4.1.1]
      show mx_sv (mx_fitq mx_cn (H_M M) (.object RX3) (.ref z.toNat)) _ = _
      unfold mx_fitq
      simp only [gH_ (cn_fix hM k3), cl_5 k1, k2, cn_3, if_true, mx_svs]
      congr 1
      refine H_set (by omega) up_ne ?_
      rw [cl_3 g2, up_va, g3, rf_pos h4.1.1]
    rw [hx, mx_svs]
    exact h _ (up_Rg hM (by omega) (by omega) (fun q => by omega) (fun q => by omega))
  · exact sm_no
theorem sm_sqIs {M : ms_M} (hM : Rg_M M) {c : Nat} (hl : ly_R c 3 8 = true) {j : Int32} {y : Int} {b : Nat} (e : j.toInt = y) {F : mx_H → Option α} {G : ms_M → Option β} (h : ∀ M2, Rg_M M2 → Sm_ R (F (H_M M2)) (G M2)) : Sm_ R (mx_sv (xsq (H_M M) c j (some b)) F) (wr_QI c y ((b : Nat) : Int) M G) := by
  rw [rf_s b]; exact sm_sqI hM hl e h
theorem sm_sqB {M : ms_M} (hM : Rg_M M) {c : Nat} (hl : ly_R c 4 8 = true) {j : Int32} {y z : Int} (e : j.toInt = y) {F : mx_H → Option α} {G : ms_M → Option β} (h : ∀ M2, Rg_M M2 → Sm_ R (F (H_M M2)) (G M2)) : Sm_ R (mx_sv (xsq (H_M M) c j (rf_O z)) F) (wr_QB c y z M G) := by
  unfold wr_QB; split
  · rename_i h4
    obtain ⟨g1, g2, g3⟩ := ly_Rel hl
    have k9 := cn_hi hM
    rcases h4.1 with q | q
    · subst q
      have hx : xsq (H_M M) c j (rf_O (-1)) = some (H_M (up_M M c y.toNat (-1))) := by
        unfold xsq mx_aq
        rw [gH_ (cn_fix hM g1), cl_4 g2, g3]
        simp only [j_ok2 e h4.2.1 (n := 8) (by omega), not_false_eq_true, if_true, cl_i e h4.2.1]
        show mx_sv (some none) _ = _
        rw [mx_svs]
        congr 1
        refine H_set (by omega) up_ne ?_
        rw [cl_4 g2, up_va, g3]; rfl
      rw [hx, mx_svs]
      exact h _ (up_Rg hM (by omega) (by omega) (fun q => by omega) (fun q => by omega))
    · have hx : xsq (H_M M) c j (rf_O z) = some (H_M (up_M M c y.toNat z)) := by
        unfold xsq mx_aq
        rw [gH_ (cn_fix hM g1), cl_4 g2, g3]
        simp only [j_ok2 e h4.2.1 (n := 8) (by omega), not_false_eq_true, if_true, cl_i e h4.2.1]
        rw [rf_pos q.1]
        show mx_sv (mx_fitq mx_cn (H_M M) (.array .byte) (.ref z.toNat)) _ = _
        unfold mx_fitq
        simp only [gH_ q.2.1, cl_1 q.2.2, and_self, if_true, mx_svs]
        congr 1
        refine H_set (by omega) up_ne ?_
        rw [cl_4 g2, up_va, g3, rf_pos q.1]
      rw [hx, mx_svs]
      exact h _ (up_Rg hM (by omega) (by omega) (fun q => by omega) (fun q => by omega))
  · exact sm_no
theorem sm_sqBs {M : ms_M} (hM : Rg_M M) {c : Nat} (hl : ly_R c 4 8 = true) {j : Int32} {y : Int} {b : Nat} (e : j.toInt = y) {F : mx_H → Option α} {G : ms_M → Option β} (h : ∀ M2, Rg_M M2 → Sm_ R (F (H_M M2)) (G M2)) : Sm_ R (mx_sv (xsq (H_M M) c j (some b)) F) (wr_QB c y ((b : Nat) : Int) M G) := by
  rw [rf_s b]; exact sm_sqB hM hl e h
/-- null or not -/
theorem sm_nn {y : Int} {F : Nat → Option α} {G : Option β} (h : Sm_ R (F y.toNat) G) : Sm_ R (mx_sv (rf_O y) F) (ck_B (0 ≤ y) G) := by
  unfold ck_B; split
  · rw [rf_pos (by assumption), mx_svs]; exact h
  · exact sm_no
theorem sm_oc {y : Int} {A : Option α} {B : Nat → Option α} {A2 B2 : Option β} (h1 : Sm_ R A A2) (h2 : Sm_ R (B y.toNat) B2) : Sm_ R (mx_oc (rf_O y) A B) (if y < 0 then A2 else B2) := by
  unfold rf_O
  split
  · exact h1
  · exact h2
theorem sm_bq {v : Int32} {y : Int} (e : v.toInt = y) {x : Option α} {z : Option β} (h : Sm_ R x z) : Sm_ R (mx_gd (xbq v) x) (ck_B (y = 0 ∨ y = 1) z) := by
  unfold ck_B; split
  · rename_i h2
    have : xbq v = true := by
      rw [← of_to e]; rcases h2 with rfl | rfl <;> rfl
    rw [this]; exact h
  · exact sm_no
theorem sm_nq {v : Int32} {y : Int} (e : v.toInt = y) {x : Option α} {z : Option β} (h : Sm_ R x z) : Sm_ R (mx_gd (xnq v (componentBytes .byte)) x) (ck_B (0 ≤ y ∧ y ≤ 536870912) z) := by
  unfold ck_B; split
  · rename_i h2
    have h3 : ¬ v < 0 := by rw [Int32.lt_iff_toInt_lt, e]; have : (0 : Int32).toInt = 0 := rfl; omega
    have : xnq v (componentBytes .byte) = true := by
      unfold xnq
      rw [cl_i e h2.1]
      rw [Bool.and_eq_true, decide_eq_true_eq, decide_eq_true_eq]
      exact ⟨h3, by show y.toNat * 1 ≤ _; omega⟩
    rw [this]; exact h
  · exact sm_no
/-- a new array of bytes -/
theorem H_nw {M : ms_M} (hM : Rg_M M) {y : Int} {f : Nat → Int} (hn : M 900000 0 < 700000) (hy : 0 ≤ y ∧ y ≤ 2147483647) (hf : ∀ k : Nat, (k : Int) < y → -128 ≤ f k ∧ f k ≤ 127) (hf2 : ∀ k, -2147483648 ≤ f k ∧ f k ≤ 2147483647) : H_M M ++ [.inl (.byte, y.toNat, .inl (fun i => Int32.ofInt (f i)))] = H_M (nw_M M y f) ∧ Rg_M (nw_M M y f) ∧ (H_M M).length = cn_M M := by
  have h1 := hM.1
  have hc : (cn_M M : Int) = M 900000 0 := by unfold cn_M; omega
  have hl : (H_M M).length = cn_M M := by unfold H_M; simp
  have hn2 : cn_M (nw_M M y f) = cn_M M + 1 := by
    have : nw_M M y f 900000 0 = M 900000 0 + 1 := by
      unfold nw_M; rw [if_neg (by omega), if_pos ⟨rfl, rfl⟩]
    show (nw_M M y f 900000 0).toNat = _
    rw [this]; omega
  refine ⟨?_, ?_, hl⟩
  · apply List.ext_getElem?
    intro i
    by_cases hi : i < cn_M M
    · rw [List.getElem?_append_left (by omega), gH_ hi, gH_ (by omega)]
      have e1 : nw_M M y f i = M i := by
        funext k; unfold nw_M
        rw [if_neg (by omega), if_neg (by omega), if_neg (by omega)]
      have e2 : ln_I (nw_M M y f) i = ln_I M i := by
        unfold ln_I nw_M
        by_cases h6 : i < 256
        · rw [if_pos h6, if_pos h6]
        · rw [if_neg h6, if_neg h6]
          rw [if_neg (by omega), if_neg (by omega), if_neg (by omega)]
      show some (cl_M M i) = some (cl_M (nw_M M y f) i)
      unfold cl_M fd_V
      rw [e1, e2]
    · by_cases hi2 : i = cn_M M
      · subst hi2
        rw [List.getElem?_append_right (by omega), gH_ (by omega), hl, Nat.sub_self]
        show some _ = some _
        have e3 : 256 ≤ cn_M M := by omega
        rw [cl_1 (ly_Tbig e3)]
        have e4 : nw_M M y f (cn_M M) = f := by funext k; unfold nw_M; rw [if_pos rfl]
        have e5 : ln_I (nw_M M y f) (cn_M M) = y := by
          unfold ln_I; rw [if_neg (by omega)]
          unfold nw_M
          rw [if_neg (by omega), if_neg (by omega), if_pos ⟨rfl, rfl⟩]
        rw [e4, e5]
      · rw [List.getElem?_eq_none (by rw [List.length_append, hl]; show cn_M M + 1 ≤ i; omega), List.getElem?_eq_none (by unfold H_M; rw [List.length_map, List.length_range]; omega)]
  · refine ⟨?_, ?_, ?_, ?_, ?_⟩
    · unfold nw_M; rw [if_neg (by omega), if_pos ⟨rfl, rfl⟩]; omega
    · intro c k hq; unfold nw_M; split
      · exact hf2 k
      · split
        · omega
        · split
          · omega
          · exact hM.2.1 c k hq
    · intro c k h3 h4 h6
      by_cases hcc : c = cn_M M
      · have e5 : ln_I (nw_M M y f) c = y := by
          unfold ln_I; rw [if_neg (by omega)]
          unfold nw_M
          rw [if_neg (by omega), if_neg (by omega), if_pos ⟨rfl, hcc⟩]
        rw [e5] at h6
        have e4 : nw_M M y f c k = f k := by unfold nw_M; rw [if_pos hcc]
        rw [e4]; exact hf k h6
      · have e2 : ln_I (nw_M M y f) c = ln_I M c := by
          unfold ln_I nw_M
          by_cases h6 : c < 256
          · rw [if_pos h6, if_pos h6]
          · rw [if_neg h6, if_neg h6, if_neg (by omega), if_neg (by omega), if_neg (by omega)]
        rw [e2] at h6
        unfold nw_M
        rw [if_neg hcc, if_neg (by omega), if_neg (by omega)]; exact hM.2.2.1 c k h3 h4 h6
    · intro c k h4 h6
      have h5 : c < 256 := ly_lt (by omega)
      unfold nw_M; rw [if_neg (by omega), if_neg (by omega), if_neg (by omega)]; exact hM.2.2.2.1 c k h4 h6
    · intro c; unfold nw_M; rw [if_neg (by omega), if_neg (by omega)]; split
      · exact hy.1
      · exact hM.2.2.2.2 c
theorem sm_nw {M : ms_M} (hM : Rg_M M) {n : Int32} {y : Int} (e : n.toInt = y) {F : Nat × mx_H → Option α} {G : Nat → ms_M → Option β} (h : ∀ b M2, Rg_M M2 → Sm_ R (F (b, H_M M2)) (G b M2)) : Sm_ R (mx_sv (xnw (H_M M) (.inl (.byte, n.toNatClampNeg, .inl (fun _ => 0)))) F) (nw_B y M G) := by
  unfold nw_B; split
  · rename_i h4
    obtain ⟨h5, h6, h7⟩ := H_nw hM h4.1.2 h4.2 (f := fun _ => 0) (fun _ _ => by omega) (fun _ => by omega)
    have := cn_hi hM
    have hx : xnw (H_M M) (.inl (.byte, n.toNatClampNeg, .inl (fun _ => 0))) = some (cn_M M, H_M (nw_M M y (fun _ => 0))) := by
      unfold xnw
      rw [if_pos (by omega), h7, ← h5, cl_i e h4.2.1]; rfl
    rw [hx, mx_svs]; exact h _ _ h6
  · exact sm_no
/-- a copy -/
theorem cp_bR {M : ms_M} (hM : Rg_M M) {a sp b dp n : Nat} (hb : b < 900000) (ha : a < 900000) (ht : ly_T a = ly_T b) (hl : ((sp + n : Nat) : Int) ≤ ln_I M a) : Rg_M (cp_M M a sp b dp n) := by
  refine ⟨?_, ?_, ?_, ?_, ?_⟩
  · unfold cp_M; rw [if_neg (by omega)]; exact hM.1
  · intro c k hq; unfold cp_M; split
    · rename_i h5; rw [h5.1, ← ht] at hq; exact hM.2.1 _ _ hq
    · exact hM.2.1 _ _ hq
  · intro c k h3 h4 h6
    have hl2 : ln_I (cp_M M a sp b dp n) c = ln_I M c := by
      unfold ln_I cp_M; rw [if_neg (show ¬ (900001 = b ∧ _) by omega)]
    rw [hl2] at h6
    unfold cp_M; split
    · rename_i h5; rw [h5.1, ← ht] at h4; exact hM.2.2.1 _ _ ha h4 (by omega)
    · exact hM.2.2.1 _ _ h3 h4 h6
  · intro c k h4 h6; unfold cp_M; split
    · rename_i h5; rw [h5.1, ← ht] at h4
      have := ly_lt (c := a) (by omega)
      exact hM.2.2.2.1 _ _ h4 (by unfold ln_I at hl; rw [if_pos this] at hl; omega)
    · exact hM.2.2.2.1 _ _ h4 h6
  · intro c; unfold cp_M; rw [if_neg (by omega)]; exact hM.2.2.2.2 c
theorem arr_cl {M : ms_M} {c : Nat} (h : ly_T c ≤ 2) : ∃ ty, cl_M M c = .inl (ty, (ln_I M c).toNat, .inl (fun i => Int32.ofInt (M c i))) ∧ refKind ty = false ∧ ((ly_T c = 0 ∧ ty = .int) ∨ (ly_T c = 1 ∧ ty = .byte) ∨ (ly_T c = 2 ∧ ty = .boolean)) := by
  have hc : ly_T c = 0 ∨ ly_T c = 1 ∨ ly_T c = 2 := by omega
  rcases hc with q | q | q
  · have := ly_lt (c := c) (by omega)
    exact ⟨.int, by rw [cl_0 q, ln_fix this]; rfl, rfl, .inl ⟨q, rfl⟩⟩
  · exact ⟨.byte, by rw [cl_1 q], rfl, .inr (.inl ⟨q, rfl⟩)⟩
  · have := ly_lt (c := c) (by omega)
    exact ⟨.boolean, by rw [cl_2 q, ln_fix this]; rfl, rfl, .inr (.inr ⟨q, rfl⟩)⟩
theorem sm_cp {M : ms_M} (hM : Rg_M M) {a b : Nat} {sp dp n : Int32} {y1 y2 y3 : Int} (e1 : sp.toInt = y1) (e2 : dp.toInt = y2) (e3 : n.toInt = y3) {F : mx_H → Option α} {G : ms_M → Option β} (h : ∀ M2, Rg_M M2 → Sm_ R (F (H_M M2)) (G M2)) : Sm_ R (mx_sv (xcp (H_M M) a sp b dp n) F) (cp_S a y1 b y2 y3 M G) := by
  unfold cp_S; split
  · rename_i h4
    obtain ⟨⟨h5, h6, h7, h8⟩, h9, h10, h11, h12, h13⟩ := h4
    have hn := cn_hi hM
    obtain ⟨t1, g1, g2, g3⟩ := arr_cl (M := M) (c := a) h8
    obtain ⟨t2, k1, k2, k3⟩ := arr_cl (M := M) (c := b) (by omega)
    have ht : t2 = t1 := by
      rcases g3 with ⟨p, rfl⟩ | ⟨p, rfl⟩ | ⟨p, rfl⟩ <;> rcases k3 with ⟨q, rfl⟩ | ⟨q, rfl⟩ | ⟨q, rfl⟩ <;> first | rfl | omega
    subst ht
    have hpos : ∀ {v : Int32} {y : Int}, v.toInt = y → 0 ≤ y → ¬ v < 0 := by
      intro v y e h0 h1
      rw [Int32.lt_iff_toInt_lt, e] at h1
      have : (0 : Int32).toInt = 0 := rfl
      omega
    have hx : xcp (H_M M) a sp b dp n = some (H_M (cp_M M a y1.toNat b y2.toNat y3.toNat)) := by
      unfold xcp mx_ai
      rw [gH_ h5, g1]
      simp only [gH_ h6, k1]
      have c1 : cp_ok sp dp n (ln_I M a).toNat (ln_I M b).toNat = true := by
        unfold cp_ok
        rw [cl_i e1 h9, cl_i e2 h10, cl_i e3 h11]
        simp only [hpos e1 h9, hpos e2 h10, hpos e3 h11, decide_false, Bool.not_false, Bool.true_and, Bool.and_eq_true, decide_eq_true_eq]
        omega
      have c2 : cp_fit t2 (fun i => Int32.ofInt (M a i)) sp n = true := by
        unfold cp_fit
        rw [List.all_eq_true]
        intro i hi
        have hi := List.mem_range.mp hi
        rw [cl_i e3 h11] at hi
        have hs := cl_i e1 h9
        rcases g3 with ⟨p, rfl⟩ | ⟨p, rfl⟩ | ⟨p, rfl⟩
        · rfl
        · have r1 := hM.2.2.1 a (sp.toNatClampNeg + i) (by omega) p (by rw [hs]; omega)
          have r2 := to_of (y := M a (sp.toNatClampNeg + i)) (by omega)
          show (decide (-128 ≤ Int32.ofInt (M a (sp.toNatClampNeg + i))) && decide (Int32.ofInt (M a (sp.toNatClampNeg + i)) ≤ 127)) = true
          rw [Bool.and_eq_true, decide_eq_true_eq, decide_eq_true_eq, Int32.le_iff_toInt_le, Int32.le_iff_toInt_le, r2]
          exact r1
        · have hlt := ly_lt (c := a) (by omega)
          have r1 := hM.2.2.2.1 a (sp.toNatClampNeg + i) p (by rw [ln_fix hlt] at h12; rw [hs]; omega)
          show (Int32.ofInt (M a (sp.toNatClampNeg + i)) == 0 || Int32.ofInt (M a (sp.toNatClampNeg + i)) == 1) = true
          have : M a (sp.toNatClampNeg + i) = 0 ∨ M a (sp.toNatClampNeg + i) = 1 := by omega
          rcases this with q | q <;> rw [q] <;> rfl
      simp only [c1, c2, k2, and_self, if_true]
      congr 1
      refine H_set (by omega) (fun c2 hc2 => by funext k; unfold cp_M; rw [if_neg (fun z => hc2 z.1)]) ?_
      have hl : ln_I (cp_M M a y1.toNat b y2.toNat y3.toNat) b = ln_I M b := by
        unfold ln_I cp_M; rw [if_neg (show ¬ (900001 = b ∧ _) by omega)]
      have hfun : (fun i => Int32.ofInt (cp_M M a y1.toNat b y2.toNat y3.toNat b i)) = va_cpy (fun i => Int32.ofInt (M a i)) (fun i => Int32.ofInt (M b i)) sp.toNatClampNeg dp.toNatClampNeg n.toNatClampNeg := by
        funext i
        unfold cp_M va_cpy
        rw [cl_i e1 h9, cl_i e2 h10, cl_i e3 h11]
        by_cases hq : y2.toNat ≤ i ∧ i < y2.toNat + y3.toNat
        · rw [if_pos ⟨rfl, hq⟩, if_pos hq]
        · rw [if_neg (fun z => hq z.2), if_neg hq]
      obtain ⟨t3, w1, w2, w3⟩ := arr_cl (M := cp_M M a y1.toNat b y2.toNat y3.toNat) (c := b) (by omega)
      have : t3 = t2 := by
        rcases k3 with ⟨p, rfl⟩ | ⟨p, rfl⟩ | ⟨p, rfl⟩ <;> rcases w3 with ⟨q, rfl⟩ | ⟨q, rfl⟩ | ⟨q, rfl⟩ <;> first | rfl | omega
      rw [w1, hl, hfun, this]
    rw [hx, mx_svs]
    exact h _ (cp_bR hM (by omega) (by omega) h7 (by omega))
  · exact sm_no
/-- texts of the program -/
theorem sm_sc {a : Nat} {j : Int32} {y : Int} (e : j.toInt = y) {F : Int32 → Option α} {G : Int → Option β} (h : ∀ (v : Int32) (z : Int), v.toInt = z → Sm_ R (F v) (G z)) : Sm_ R (mx_sv (xsc a j) F) (rd_X a y G) := by
  unfold rd_X
  rw [of_to e]
  cases xsc a j with
  | none => exact sm_no
  | some v => exact h v _ rfl
theorem sm_sl {a : Nat} {F : Int32 → Option α} {G : Int → Option β} (h : ∀ (v : Int32) (z : Int), v.toInt = z → Sm_ R (F v) (G z)) : Sm_ R (mx_sv (xsl a) F) (ln_X a G) := by
  unfold ln_X
  cases xsl a with
  | none => exact sm_no
  | some v => exact h v _ rfl
theorem sm_sr {X : Nat × (Nat → Int32)} {j : Int32} {y : Int} (e : j.toInt = y) {F : Int32 → Option α} {G : Int → Option β} (h : ∀ (v : Int32) (z : Int), v.toInt = z → Sm_ R (F v) (G z)) : Sm_ R (mx_sv (xsr X j) F) (rd_Z X y G) := by
  unfold rd_Z; split
  · rename_i h4
    have hx : xsr X j = some (X.2 y.toNat) := by
      unfold xsr
      rw [if_pos (j_ok e h4.1 h4.2), cl_i e h4.1]
    rw [hx, mx_svs]; exact h _ _ rfl
  · exact sm_no
theorem sm_xno {M : ms_M} (hM : Rg_M M) {x : Option α} {y : Option β} (h : Sm_ R x y) : Sm_ R (mx_gd (xno (H_M M)) x) y := by
  have : xno (H_M M) = true := by
    unfold xno H_M
    rw [List.length_map, List.length_range]
    have := cn_hi hM
    simp; omega
  rw [this]; exact h
end
