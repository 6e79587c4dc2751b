def h_0 : mx_H := match in_0 with
  | some q => q.2.2.1
  | none => []
theorem in_all : in_0 = some (0, 160, h_0, 256, 648382) ∧ h_0.length = 256 ∧ ∀ c, c < 256 → sh_E c h_0[c]? = true := by
  have h := in_ok1
  unfold in_chk at h
  unfold h_0
  cases hq : in_0 with
  | none => rw [hq] at h; cases h
  | some q =>
    rw [hq] at h
    obtain ⟨a, m, hh, c, s⟩ := q
    simp only [Bool.and_eq_true] at h
    obtain ⟨h1, h2, h3, h4, h5, h6⟩ := h
    have e1 := Nat.eq_of_beq_eq_true h1
    have e2 := Nat.eq_of_beq_eq_true h2
    have e3 := Nat.eq_of_beq_eq_true h3
    have e5 := Nat.eq_of_beq_eq_true h5
    have e6 := Nat.eq_of_beq_eq_true h6
    subst e1; subst e2; subst e5; subst e6
    exact ⟨rfl, e3, fun c hc => List.all_eq_true.mp h4 c (List.mem_range.mpr hc)⟩
def M_0 : ms_M := M_H h_0
theorem cn_0 : cn_M M_0 = 256 := rfl
theorem H_0 : H_M M_0 = h_0 := by
  obtain ⟨h1, h2, h3⟩ := in_all
  apply List.ext_getElem?
  intro c
  by_cases hc : c < 256
  · rw [gH_ (by rw [cn_0]; exact hc)]; exact cl_H hc (h3 c hc)
  · rw [List.getElem?_eq_none (by unfold H_M; rw [List.length_map, List.length_range, cn_0]; omega), List.getElem?_eq_none (by omega)]
theorem sh_Kel {c lo n A B k : Nat} (hc : c < 256) (h : sh_K c lo n A B = true) (h1 : lo ≤ k) (h2 : k < lo + n) : -(A : Int) ≤ M_0 c k ∧ M_0 c k ≤ B := by
  unfold sh_K at h
  rw [in_all.1] at h
  have e1 : M_0 c k = rd_H h_0 c k := by show M_H h_0 c k = _; unfold M_H; rw [if_neg (by omega), if_pos hc]
  rw [e1]; unfold rd_H
  simp only at h
  split at h
  · rename_i f he
    rw [he]; exact sh_Fel h h1 h2
  · cases h
theorem sh_Mel {c n A B k : Nat} (hc : c < 256) (hm : (c, n, A, B) ∈ in_L) (h2 : k < n) : -(A : Int) ≤ M_0 c k ∧ M_0 c k ≤ B := by
  have h := in_m
  unfold sh_M at h
  rw [in_all.1] at h
  have e1 : M_0 c k = rd_H h_0 c k := by show M_H h_0 c k = _; unfold M_H; rw [if_neg (by omega), if_pos hc]
  rw [e1]; unfold rd_H
  simp only at h
  have h3 := List.all_eq_true.mp h _ hm
  simp only at h3
  split at h3
  · rename_i f he
    rw [he]; exact sh_Fel h3 (Nat.zero_le _) (by omega)
  · cases h3
theorem by_all : (List.range 256).all (fun c => !(Nat.beq (ly_T c) 1) || (Nat.beq c 6 || (Nat.beq (ly_N c) 0 || in_L.contains (c, ly_N c, 128, 127)))) = true := by decide +kernel
theorem bo_all : (List.range 256).all (fun c => !(Nat.beq (ly_T c) 2) || in_L.contains (c, ly_N c, 0, 1)) = true := by decide +kernel
theorem bT_6 : ly_N 6 = 6400 := rfl
theorem Rg_0 : Rg_M M_0 := by
  refine ⟨⟨by decide, by decide⟩, ?_, ?_, ?_, ?_⟩
  · intro c k hq
    show -2147483648 ≤ M_H h_0 c k ∧ M_H h_0 c k ≤ 2147483647
    unfold M_H
    split
    · split <;> omega
    · split
      · rename_i h1 h2
        have hs := in_all.2.2 c h2
        unfold rd_H
        cases he : h_0[c]? with
        | none => rw [he] at hs; cases hs
        | some e =>
          rw [he] at hs
          match e, hs with
          | .inl (ty, n, .inl f), hs => exact rg_i (f k)
          | .inl (ty, n, .inr (.inr (.inr (.inr f)))), hs =>
            have h3 := (Bool.and_eq_true _ _ ▸ (hs : (sh_Q ty c && Nat.beq n (ly_N c)) = true) : _ ∧ _)
            exfalso
            cases ty with
            | object s =>
              have h4 := (Bool.and_eq_true _ _ ▸ (h3.1 : (Nat.beq (ly_T c) 3 && decide (s = RX3)) = true) : _ ∧ _)
              exact hq.1 (Nat.eq_of_beq_eq_true h4.1)
            | array t =>
              cases t with
              | byte => exact hq.2 (Nat.eq_of_beq_eq_true h3.1)
              | _ => cases h3.1
            | _ => cases h3.1
          | .inl (ty, n, .inr (.inl f)), hs => cases hs
          | .inl (ty, n, .inr (.inr (.inl f))), hs => cases hs
          | .inl (ty, n, .inr (.inr (.inr (.inl f)))), hs => cases hs
          | .inr (ci, fs), hs =>
            have h3 := (Bool.and_eq_true _ _ ▸ (hs : (Nat.beq (ly_T c) 5 && (Nat.beq ci (ly_N c) && sh_L fs (ly_A c).2.2)) = true) : _ ∧ _)
            have h4 := (Bool.and_eq_true _ _ ▸ h3.2 : _ ∧ _)
            obtain ⟨h5, h6⟩ := sh_Lel h4.2
            show -2147483648 ≤ (match fs[k]? with | some (.int v) => v.toInt | some (.ref b) => (b : Int) | _ => -1) ∧ (match fs[k]? with | some (.int v) => v.toInt | some (.ref b) => (b : Int) | _ => -1) ≤ 2147483647
            cases hk : fs[k]? with
            | none => exact ⟨by decide, by decide⟩
            | some v =>
              obtain ⟨x, h7, h8⟩ := h6 k v hk
              cases v with
              | int w => exact rg_i w
              | ref b =>
                have h9 := (Bool.and_eq_true _ _ ▸ (h8 : (Nat.ble (b + 1) 256 && (Nat.beq x 1 || Nat.beq x (b + 2))) = true) : _ ∧ _)
                have := Nat.le_of_ble_eq_true h9.1
                show -2147483648 ≤ (b : Int) ∧ (b : Int) ≤ 2147483647
                omega
              | null => exact ⟨by decide, by decide⟩
              | _ => cases h8
      · omega
  · intro c k h1 h2 h3
    by_cases hc : c < 256
    · rw [ln_fix hc] at h3
      have h4 := List.all_eq_true.mp by_all c (List.mem_range.mpr hc)
      rw [h2] at h4
      simp only [Nat.beq, Bool.not_true, Bool.false_or, Bool.or_eq_true] at h4
      rcases h4 with h5 | h5 | h5
      · have e6 : c = 6 := Nat.eq_of_beq_eq_true h5
        subst e6
        rw [bT_6] at h3
        have hk : k < 1600 ∨ (1600 ≤ k ∧ k < 3200) ∨ (3200 ≤ k ∧ k < 4800) ∨ (4800 ≤ k ∧ k < 6400) := by omega
        rcases hk with h6 | h6 | h6 | h6
        · exact sh_Kel hc in_b0 (by omega) (by omega)
        · exact sh_Kel hc in_b1 (by omega) (by omega)
        · exact sh_Kel hc in_b2 (by omega) (by omega)
        · exact sh_Kel hc in_b3 (by omega) (by omega)
      · have := Nat.eq_of_beq_eq_true h5; omega
      · exact sh_Mel hc (List.contains_iff_mem.mp h5) (by omega)
    · show -128 ≤ M_H h_0 c k ∧ M_H h_0 c k ≤ 127
      unfold M_H; rw [if_neg (by omega), if_neg hc]; omega
  · intro c k h2 h3
    have hc : c < 256 := ly_lt (by omega)
    have h4 := List.all_eq_true.mp bo_all c (List.mem_range.mpr hc)
    rw [h2] at h4
    simp only [Nat.beq, Bool.not_true, Bool.false_or] at h4
    have := sh_Mel hc (List.contains_iff_mem.mp h4) h3
    omega
  · intro c
    show 0 ≤ M_H h_0 900001 c
    unfold M_H; rw [if_neg (by omega), if_neg (by omega)]; omega
/-- THE LAW OVER THE FLAT MEMORY -/
theorem sv_as {α β γ : Type} {x : Option α} {F : α → Option β} {G : β → Option γ} : mx_sv (mx_sv x F) G = mx_sv x (fun a => mx_sv (F a) G) := by cases x <;> rfl
theorem law_in (X : Nat × (Nat → Int32)) (nn : Nat) : f_L_law X nn [] = mx_sv (in_n nn) (fun r => w_L_law_18 X nn nn r.1 r.2.1 0 r.2.2.1 r.2.2.2.1 r.2.2.2.2) := by
  unfold f_L_law in_n
  simp only [sv_as, mx_svs]
theorem in_nn {nn : Nat} (hn : nn = 1000000) : in_n nn = some (0, 160, h_0, 256, 648382) := by rw [hn]; exact in_all.1
theorem law_flat {L : Nat} {xs : Nat → Int32} (hL : L ≤ 3072) {nn : Nat} (hn : nn = 1000000) {M : ms_M} {mc ms : Nat} (h : qw_L_law_18 (L, xs) nn nn 0 M_0 256 648382 = some (1, M, mc, ms)) : ∃ h2, f_L_law (L, xs) nn [] = some (1, h2, mc, ms) := by
  rw [law_in, in_nn hn, mx_svs]
  clear hn
  rw [← H_0]
  obtain ⟨a, ha, hr⟩ := sw_L_law_18 (L, xs) (by exact i_nat (n := L) (by omega)) nn nn (l3 := 0) (y_l3 := 0) rfl Rg_0 256 648382 _ h
  obtain ⟨v, hh, c, s⟩ := a
  obtain ⟨r1, r2, r3, r4⟩ := hr
  have r5 : v = 1 := Int32.toInt_inj.mp r1
  cases (r4 : (c, s) = (mc, ms))
  exact ⟨hh, by rw [← r5]; exact ha⟩
