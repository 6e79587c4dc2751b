section
variable {α β γ δ : Type} {R : α → β → Prop}
theorem sm_no {x : Option α} : Sm_ R x none := by intro b h; cases h
theorem sm_ret {a : α} {b : β} (h : R a b) : Sm_ R (some a) (some b) := by
  intro b2 h2; cases h2; exact ⟨a, rfl, h⟩
theorem gH_ {M : ms_M} {c : Nat} (h : c < cn_M M) : (H_M M)[c]? = some (cl_M M c) := by
  unfold H_M
  rw [List.getElem?_map, List.getElem?_range h]; rfl
theorem cn_fix {M : ms_M} (hM : Rg_M M) {c : Nat} (h : c < 256) : c < cn_M M := by
  have := hM.1.1; unfold cn_M; omega
theorem cn_hi {M : ms_M} (hM : Rg_M M) : cn_M M ≤ 700000 := by
  have := hM.1.2; unfold cn_M; omega
theorem ly_big {c : Nat} (h : 256 ≤ c) : ly_A c = (1, 0, []) := by
  unfold ly_A
  have h2 : ly_D.length = 256 := by decide +kernel
  rw [List.getElem?_eq_none (by omega)]; rfl
theorem ly_Tbig {c : Nat} (h : 256 ≤ c) : ly_T c = 1 := by unfold ly_T; rw [ly_big h]
theorem ly_lt {c : Nat} (h : ly_T c ≠ 1) : c < 256 := by
  apply Classical.byContradiction; intro h2; exact h (ly_Tbig (by omega))
theorem kc_T {c ci : Nat} (h : kc_O c = ci) (h2 : ci ≠ 99) : ly_T c = 5 ∧ ly_N c = ci := by
  unfold kc_O at h
  cases hb : Nat.beq (ly_T c) 5 with
  | true => rw [hb] at h; exact ⟨Nat.eq_of_beq_eq_true hb, h⟩
  | false => rw [hb] at h; exact absurd h.symm h2
theorem ly_Fel {c ci k z : Nat} (h : ly_F c ci k = z) (hz : z ≠ 999999) : (ly_T c = 5 ∧ ly_N c = ci) ∧ (ly_A c).2.2[k]? = some z := by
  unfold ly_F at h
  cases hb : (Nat.beq (ly_T c) 5 && Nat.beq (ly_N c) ci) with
  | false => rw [hb] at h; exact absurd h.symm hz
  | true =>
    rw [hb] at h
    have h1 := (Bool.and_eq_true _ _ ▸ hb : Nat.beq (ly_T c) 5 = true ∧ Nat.beq (ly_N c) ci = true)
    refine ⟨⟨Nat.eq_of_beq_eq_true h1.1, Nat.eq_of_beq_eq_true h1.2⟩, ?_⟩
    simp only [cond_true] at h
    cases hk : (ly_A c).2.2[k]? with
    | none => rw [hk] at h; exact absurd h.symm hz
    | some w => rw [hk] at h; simp only [Option.getD_some] at h; rw [h]
theorem ly_Rel {c t n : Nat} (h : ly_R c t n = true) : c < 256 ∧ ly_T c = t ∧ ly_N c = n := by
  unfold ly_R at h
  have h1 := (Bool.and_eq_true _ _ ▸ h : Nat.ble (c + 1) 256 = true ∧ (Nat.beq (ly_T c) t && Nat.beq (ly_N c) n) = true)
  have h2 := (Bool.and_eq_true _ _ ▸ h1.2 : Nat.beq (ly_T c) t = true ∧ Nat.beq (ly_N c) n = true)
  exact ⟨Nat.le_of_ble_eq_true h1.1, Nat.eq_of_beq_eq_true h2.1, Nat.eq_of_beq_eq_true h2.2⟩
theorem cl_5 {M : ms_M} {c : Nat} (h : ly_T c = 5) : cl_M M c = .inr (ly_N c, (ly_A c).2.2.mapIdx (fun k code => fd_V M c k code)) := by unfold cl_M; rw [h]; rfl
theorem cl_0 {M : ms_M} {c : Nat} (h : ly_T c = 0) : cl_M M c = .inl (.int, ly_N c, .inl (fun i => Int32.ofInt (M c i))) := by unfold cl_M; rw [h]; rfl
theorem cl_1 {M : ms_M} {c : Nat} (h : ly_T c = 1) : cl_M M c = .inl (.byte, (ln_I M c).toNat, .inl (fun i => Int32.ofInt (M c i))) := by unfold cl_M; rw [h]; rfl
theorem cl_2 {M : ms_M} {c : Nat} (h : ly_T c = 2) : cl_M M c = .inl (.boolean, ly_N c, .inl (fun i => Int32.ofInt (M c i))) := by unfold cl_M; rw [h]; rfl
theorem cl_3 {M : ms_M} {c : Nat} (h : ly_T c = 3) : cl_M M c = .inl (.object RX3, ly_N c, .inr (.inr (.inr (.inr (fun i => rf_O (M c i)))))) := by unfold cl_M; rw [h]; rfl
theorem cl_4 {M : ms_M} {c : Nat} (h : ly_T c = 4) : cl_M M c = .inl (.array .byte, ly_N c, .inr (.inr (.inr (.inr (fun i => rf_O (M c i)))))) := by unfold cl_M; rw [h]; rfl
theorem of_to {v : Int32} {y : Int} (h : v.toInt = y) : Int32.ofInt y = v := by rw [← h]; exact Int32.ofInt_toInt v
theorem to_of {y : Int} (h : -2147483648 ≤ y ∧ y ≤ 2147483647) : (Int32.ofInt y).toInt = y := Int32.toInt_ofInt_of_le h.1 (by omega)
theorem rg_i (v : Int32) : -2147483648 ≤ v.toInt ∧ v.toInt ≤ 2147483647 := ⟨Int32.le_toInt v, by have := Int32.toInt_lt v; omega⟩
theorem rg_e {v : Int32} {y : Int} (h : v.toInt = y) : -2147483648 ≤ y ∧ y ≤ 2147483647 := by rw [← h]; exact rg_i v
/-- heaps that differ in one cell -/
theorem H_set {M M2 : ms_M} {c : Nat} {x : mx_E} (hc : c < 900000) (h0 : ∀ c2, c2 ≠ c → M2 c2 = M c2) (hx : x = cl_M M2 c) : (H_M M).set c x = H_M M2 := by
  have h9 : M2 900000 = M 900000 := h0 _ (by omega)
  have h8 : M2 900001 = M 900001 := h0 _ (by omega)
  have hn : cn_M M2 = cn_M M := by unfold cn_M; rw [h9]
  apply List.ext_getElem?
  intro i
  rw [List.getElem?_set]
  unfold H_M
  rw [List.length_map, List.length_range, hn]
  by_cases hi : i < cn_M M
  · rw [List.getElem?_map, List.getElem?_map, List.getElem?_range hi]
    by_cases hic : c = i
    · subst hic
      rw [if_pos rfl, if_pos hi, hx]; rfl
    · rw [if_neg hic]
      have h7 : M2 i = M i := h0 _ (fun z => hic z.symm)
      show some (cl_M M i) = some (cl_M M2 i)
      unfold cl_M ln_I fd_V
      rw [h7, h8]
  · rw [List.getElem?_eq_none (by simp; omega), List.getElem?_eq_none (by simp; omega)]
    by_cases hic : c = i
    · subst hic; rw [if_pos rfl, if_neg hi]
    · rw [if_neg hic]
theorem up_ne {M : ms_M} {c k : Nat} {v : Int} : ∀ c2, c2 ≠ c → up_M M c k v c2 = M c2 := by
  intro c2 h; funext k2; unfold up_M; rw [if_neg (fun z => h z.1)]
theorem up_Rg {M : ms_M} {c k : Nat} {v : Int} (hM : Rg_M M) (hc : c < 900000) (hv : -2147483648 ≤ v ∧ v ≤ 2147483647) (h1 : ly_T c = 1 → -128 ≤ v ∧ v ≤ 127) (h2 : ly_T c = 2 → 0 ≤ v ∧ v ≤ 1) : Rg_M (up_M M c k v) := by
  refine ⟨?_, ?_, ?_, ?_, ?_⟩
  · rw [up_ne 900000 (by omega)]; exact hM.1
  · intro c2 k2 hq; unfold up_M; split
    · exact hv
    · exact hM.2.1 c2 k2 hq
  · intro c2 k2 h3 h4 h6
    have h7 : ln_I (up_M M c k v) c2 = ln_I M c2 := by unfold ln_I; rw [up_ne 900001 (by omega)]
    rw [h7] at h6
    unfold up_M; split
    · rename_i h5; rw [h5.1] at h4; exact h1 h4
    · exact hM.2.2.1 c2 k2 h3 h4 h6
  · intro c2 k2 h4 h6; unfold up_M; split
    · rename_i h5; rw [h5.1] at h4; exact h2 h4
    · exact hM.2.2.2.1 c2 k2 h4 h6
  · intro c2; rw [up_ne 900001 (by omega)]; exact hM.2.2.2.2 c2
theorem of_up {M : ms_M} {c k : Nat} {v : Int} {w : Int32} (e : w.toInt = v) : (fun i => Int32.ofInt (up_M M c k v c i)) = upd (fun i => Int32.ofInt (M c i)) k w := by
  funext i; unfold up_M upd
  by_cases h : i = k
  · rw [if_pos ⟨rfl, h⟩, if_pos h, of_to e]
  · rw [if_neg (fun z => h z.2), if_neg h]
/-- reading a field -/
theorem gi_okM {M : ms_M} {c ci k : Nat} (hc : c < cn_M M) (hl : ly_F c ci k = 0) : xgi (H_M M) c ci k = some (Int32.ofInt (M c k)) := by
  obtain ⟨⟨h1, h2⟩, h3⟩ := ly_Fel hl (by decide)
  unfold xgi xg mx_ob
  rw [gH_ hc, cl_5 h1]
  simp only [h2, if_true, List.getElem?_mapIdx, h3, Option.map_some, fd_V, mx_gi]
theorem gr_okM {M : ms_M} {c ci k d : Nat} (hc : c < cn_M M) (hl : ly_F c ci k = d + 2) (hd : d < 900000) : xgr (H_M M) c ci k = some d := by
  obtain ⟨⟨h1, h2⟩, h3⟩ := ly_Fel hl (by omega)
  unfold xgr xg mx_ob
  rw [gH_ hc, cl_5 h1]
  simp only [h2, if_true, List.getElem?_mapIdx, h3, Option.map_some, fd_V]
  rw [if_neg (by omega), if_neg (by omega)]
  simp only [mx_gr]
  congr 1
theorem gm_okM {M : ms_M} {c ci k : Nat} (hc : c < cn_M M) (hl : ly_F c ci k = 1) (h0 : 0 ≤ M c k) : xgr (H_M M) c ci k = some (M c k).toNat := by
  obtain ⟨⟨h1, h2⟩, h3⟩ := ly_Fel hl (by omega)
  unfold xgr xg mx_ob
  rw [gH_ hc, cl_5 h1]
  simp only [h2, if_true, List.getElem?_mapIdx, h3, Option.map_some, fd_V]
  unfold rf_O
  simp only [show ¬ (1 = 0) by decide, if_false, show ¬ (M c k < 0) by omega]
  rfl
theorem F_lt {c ci k z : Nat} (hl : ly_F c ci k = z) (hz : z ≠ 999999) : c < 256 := by
  obtain ⟨⟨h1, h2⟩, h3⟩ := ly_Fel hl hz
  exact ly_lt (by rw [h1]; decide)
theorem T_obj {c ci k z : Nat} (hl : ly_F c ci k = z) (hz : z ≠ 999999) : ly_T c = 5 := (ly_Fel hl hz).1.1
theorem mx_svs {a : γ} {F : γ → Option α} : mx_sv (some a) F = F a := rfl
theorem sm_gi {M : ms_M} (hM : Rg_M M) {c ci k : Nat} (hl : ly_F c ci k = 0) {F : Int32 → Option α} {y : Option β} (h : ∀ v : Int32, v.toInt = M c k → Sm_ R (F v) y) : Sm_ R (mx_sv (xgi (H_M M) c ci k) F) y := by
  rw [gi_okM (cn_fix hM (F_lt hl (by decide))) hl, mx_svs]; exact h _ (to_of (hM.2.1 c k (by rw [T_obj hl (by decide)]; decide)))
theorem sm_gr {M : ms_M} (hM : Rg_M M) {c ci k d : Nat} (hl : ly_F c ci k = d + 2) {F : Nat → Option α} {y : Option β} (h : Sm_ R (F d) y) (hd : d < 900000 := by decide) : Sm_ R (mx_sv (xgr (H_M M) c ci k) F) y := by
  rw [gr_okM (cn_fix hM (F_lt hl (by omega))) hl hd, mx_svs]; exact h
theorem sm_gm {M : ms_M} (hM : Rg_M M) {c ci k : Nat} (hl : ly_F c ci k = 1) {F : Nat → Option α} {y : Option β} (h : Sm_ R (F (M c k).toNat) y) : Sm_ R (mx_sv (xgr (H_M M) c ci k) F) (ck_B (0 ≤ M c k) y) := by
  unfold ck_B
  split
  · rw [gm_okM (cn_fix hM (F_lt hl (by decide))) hl (by assumption), mx_svs]; exact h
  · exact sm_no
/-- writing a field -/
theorem pv_ok {M : ms_M} (hM : Rg_M M) {c ci k : Nat} {code : Nat} (hl : ly_F c ci k = code) (hcode : code ≠ 999999) {v : Value} {z : Int} (hv : v = fd_V (up_M M c k z) c k code) : xpv (H_M M) c ci k v = some (H_M (up_M M c k z)) := by
  obtain ⟨⟨h1, h2⟩, h3⟩ := ly_Fel hl hcode
  have hlt : c < 256 := F_lt hl hcode
  unfold xpv mx_ob
  rw [gH_ (cn_fix hM hlt), cl_5 h1]
  have hk : k < (ly_A c).2.2.length := by
    apply Classical.byContradiction; intro h4
    rw [List.getElem?_eq_none (by omega)] at h3; cases h3
  simp only [h2, List.length_mapIdx, hk, and_self, if_true]
  congr 1
  apply H_set (by omega) up_ne
  rw [cl_5 h1, h2]
  congr 2
  apply List.ext_getElem?
  intro i
  rw [List.getElem?_set, List.getElem?_mapIdx, List.length_mapIdx, List.getElem?_mapIdx]
  by_cases hi : k = i
  · subst hi
    rw [if_pos rfl, if_pos hk, h3, hv]; rfl
  · rw [if_neg hi]
    cases hq : (ly_A c).2.2[i]? with
    | none => rfl
    | some w =>
      simp only [Option.map_some]
      congr 1
      have : up_M M c k z c i = M c i := by unfold up_M; rw [if_neg (fun q => hi q.2.symm)]
      unfold fd_V; rw [this]
theorem sm_pv {M : ms_M} (hM : Rg_M M) {c ci k : Nat} (hl : ly_F c ci k = 0) {v : Int32} {y : Int} (e : v.toInt = y) {F : mx_H → Option α} {G : ms_M → Option β} (h : ∀ M2, Rg_M M2 → Sm_ R (F (H_M M2)) (G M2)) : Sm_ R (mx_sv (xpv (H_M M) c ci k (.int v)) F) (xl (up_M M c k y) G) := by
  rw [pv_ok hM hl (by decide) (z := y) (by
    unfold fd_V; rw [if_pos rfl]
    have : up_M M c k y c k = y := by unfold up_M; rw [if_pos ⟨rfl, rfl⟩]
    rw [this, of_to e]), mx_svs]
  exact h _ (up_Rg hM (by have := F_lt hl (by decide); omega) (rg_e e) (fun z => by rw [T_obj hl (by decide)] at z; omega) (fun z => by rw [T_obj hl (by decide)] at z; omega))
theorem rf_s (b : Nat) : some b = rf_O ((b : Nat) : Int) := by unfold rf_O; rw [if_neg (by omega)]; rfl
theorem rf_n : none = rf_O (-1) := by unfold rf_O; rw [if_pos (by omega)]
theorem sm_po {M : ms_M} (hM : Rg_M M) {c ci k : Nat} (hl : ly_F c ci k = 1) {y : Int} {F : mx_H → Option α} {G : ms_M → Option β} (h : ∀ M2, Rg_M M2 → Sm_ R (F (H_M M2)) (G M2)) : Sm_ R (mx_sv (xpv (H_M M) c ci k (va_rf (rf_O y))) F) (wr_R c k y M G) := by
  unfold wr_R
  split
  · rw [pv_ok hM hl (by decide) (z := y) (by
      unfold fd_V; rw [if_neg (by decide), if_pos rfl]
      have : up_M M c k y c k = y := by unfold up_M; rw [if_pos ⟨rfl, rfl⟩]
      rw [this]), mx_svs]
    exact h _ (up_Rg hM (by have := F_lt hl (by decide); omega) (by assumption) (fun z => by rw [T_obj hl (by decide)] at z; omega) (fun z => by rw [T_obj hl (by decide)] at z; omega))
  · exact sm_no
theorem sm_pr {M : ms_M} (hM : Rg_M M) {c ci k : Nat} (hl : ly_F c ci k = 1) {b : Nat} {F : mx_H → Option α} {G : ms_M → Option β} (h : ∀ M2, Rg_M M2 → Sm_ R (F (H_M M2)) (G M2)) : Sm_ R (mx_sv (xpv (H_M M) c ci k (.ref b)) F) (wr_R c k ((b : Nat) : Int) M G) := by
  have h2 := sm_po hM hl (y := ((b : Nat) : Int)) h
  rw [← rf_s b] at h2
  exact h2
theorem sm_prs {M : ms_M} (hM : Rg_M M) {c ci k : Nat} (hl : ly_F c ci k = 1) {b : Nat} {F : mx_H → Option α} {G : ms_M → Option β} (h : ∀ M2, Rg_M M2 → Sm_ R (F (H_M M2)) (G M2)) : Sm_ R (mx_sv (xpv (H_M M) c ci k (va_rf (some b))) F) (wr_R c k ((b : Nat) : Int) M G) := sm_pr hM hl h
/-- images and Kins at a place that is not known -/
def ok_I (c k z : Nat) : Bool := match k with
  | 0 => Nat.beq z 1
  | 4 => Nat.beq z (c + 4)
  | 5 => Nat.beq z (c + 5)
  | 6 => Nat.beq z (c + 6)
  | 11 => Nat.beq z (c + 7)
  | 13 => Nat.beq z (c + 8)
  | _ => Nat.beq z 0
theorem I_all : (List.range 256).all (fun c => !(Nat.beq (kc_O c) 3) || ((List.range 14).all (fun k => ok_I c k (ly_F c 3 k)) && (ly_R (c + 2) 0 256 && (ly_R (c + 3) 0 256 && (ly_R (c + 4) 0 256 && (ly_R (c + 5) 0 24 && ly_R (c + 6) 0 144)))))) = true := by decide +kernel
theorem K_all : (List.range 256).all (fun c => !(Nat.beq (kc_O c) 4) || ((Nat.beq (ly_F c 4 0) (c + 3) && Nat.beq (ly_F c 4 1) (c + 4)) && (ly_R (c + 1) 0 16 && ly_R (c + 2) 2 256))) = true := by decide +kernel
theorem kc_lt {c ci : Nat} (h : kc_O c = ci) (h2 : ci ≠ 99) : c < 256 := ly_lt (by rw [(kc_T h h2).1]; decide)
theorem I_one {c : Nat} (h : kc_O c = 3) : ((List.range 14).all (fun k => ok_I c k (ly_F c 3 k)) && (ly_R (c + 2) 0 256 && (ly_R (c + 3) 0 256 && (ly_R (c + 4) 0 256 && (ly_R (c + 5) 0 24 && ly_R (c + 6) 0 144))))) = true := by
  have h1 := List.all_eq_true.mp I_all c (List.mem_range.mpr (kc_lt h (by decide)))
  rw [h] at h1
  simpa using h1
theorem K_one {c : Nat} (h : kc_O c = 4) : ((Nat.beq (ly_F c 4 0) (c + 3) && Nat.beq (ly_F c 4 1) (c + 4)) && (ly_R (c + 1) 0 16 && ly_R (c + 2) 2 256)) = true := by
  have h1 := List.all_eq_true.mp K_all c (List.mem_range.mpr (kc_lt h (by decide)))
  rw [h] at h1
  simpa using h1
theorem I_k {c k : Nat} (h : kc_O c = 3) (hk : k < 14) : ok_I c k (ly_F c 3 k) = true := by
  have h1 := (Bool.and_eq_true _ _ ▸ I_one h : _ ∧ _).1
  exact List.all_eq_true.mp h1 k (List.mem_range.mpr hk)
def in_I (k : Nat) : Bool := (Nat.ble (k + 1) 14 && !(Nat.beq k 0)) && (!(Nat.beq k 4) && (!(Nat.beq k 5) && (!(Nat.beq k 6) && (!(Nat.beq k 11) && !(Nat.beq k 13)))))
theorem I_int {c k : Nat} (h : kc_O c = 3) (hk : in_I k = true) : ly_F c 3 k = 0 := by
  have hlt : k < 14 := by
    apply Classical.byContradiction; intro h9
    have : Nat.ble (k + 1) 14 = false := by
      cases hb : Nat.ble (k + 1) 14 with
      | false => rfl
      | true => exact absurd (Nat.le_of_ble_eq_true hb) (by omega)
    unfold in_I at hk; rw [this] at hk; simp at hk
  have h1 := I_k h hlt
  have hc : k = 1 ∨ k = 2 ∨ k = 3 ∨ k = 7 ∨ k = 8 ∨ k = 9 ∨ k = 10 ∨ k = 12 ∨ (k = 0 ∨ k = 4 ∨ k = 5 ∨ k = 6 ∨ k = 11 ∨ k = 13) := by omega
  rcases hc with rfl | rfl | rfl | rfl | rfl | rfl | rfl | rfl | rfl | rfl | rfl | rfl | rfl | rfl
  all_goals first | exact Nat.eq_of_beq_eq_true h1 | (exact absurd hk (by decide))
def of_I (k off : Nat) : Bool := match k with
  | 4 => Nat.beq off 2
  | 5 => Nat.beq off 3
  | 6 => Nat.beq off 4
  | 11 => Nat.beq off 5
  | 13 => Nat.beq off 6
  | _ => false
theorem I_off {c k off : Nat} (h : kc_O c = 3) (hk : of_I k off = true) : ly_F c 3 k = (c + off) + 2 := by
  have hlt : k < 14 := by
    apply Classical.byContradiction; intro h9
    unfold of_I at hk; split at hk <;> first | omega | cases hk
  have h1 := I_k h hlt
  have hc : k = 4 ∨ k = 5 ∨ k = 6 ∨ k = 11 ∨ k = 13 ∨ (k ≠ 4 ∧ k ≠ 5 ∧ k ≠ 6 ∧ k ≠ 11 ∧ k ≠ 13) := by omega
  rcases hc with rfl | rfl | rfl | rfl | rfl | hn
  all_goals first
    | (have h2 := Nat.eq_of_beq_eq_true h1; have h3 := Nat.eq_of_beq_eq_true hk; omega)
    | (unfold of_I at hk; split at hk <;> first | omega | cases hk)
theorem sm_giI {M : ms_M} (hM : Rg_M M) {c k : Nat} (hb : kc_O c = 3) (hk : in_I k = true) {F : Int32 → Option α} {y : Option β} (h : ∀ v : Int32, v.toInt = M c k → Sm_ R (F v) y) : Sm_ R (mx_sv (xgi (H_M M) c 3 k) F) y := sm_gi hM (I_int hb hk) h
theorem sm_grI {M : ms_M} (hM : Rg_M M) {c k off : Nat} (hb : kc_O c = 3) (hk : of_I k off = true) {F : Nat → Option α} {y : Option β} (h : Sm_ R (F (c + off)) y) : Sm_ R (mx_sv (xgr (H_M M) c 3 k) F) y := sm_gr hM (I_off hb hk) h (by
  have := kc_lt hb (by decide)
  have : off ≤ 6 := by unfold of_I at hk; split at hk <;> first | (have := Nat.eq_of_beq_eq_true hk; omega) | cases hk
  omega)
theorem I_F0 {c : Nat} (h : kc_O c = 3) : ly_F c 3 0 = 1 := Nat.eq_of_beq_eq_true (I_k h (by decide : 0 < 14))
theorem sm_gmI {M : ms_M} (hM : Rg_M M) {c k : Nat} (hb : kc_O c = 3) (hk : Nat.beq k 0 = true) {F : Nat → Option α} {y : Option β} (h : Sm_ R (F (M c k).toNat) y) : Sm_ R (mx_sv (xgr (H_M M) c 3 k) F) (ck_B (0 ≤ M c k) y) := by
  cases (Nat.eq_of_beq_eq_true hk : k = 0); exact sm_gm hM (I_F0 hb) h
theorem sm_pvI {M : ms_M} (hM : Rg_M M) {c k : Nat} (hb : kc_O c = 3) (hk : in_I k = true) {v : Int32} {y : Int} (e : v.toInt = y) {F : mx_H → Option α} {G : ms_M → Option β} (h : ∀ M2, Rg_M M2 → Sm_ R (F (H_M M2)) (G M2)) : Sm_ R (mx_sv (xpv (H_M M) c 3 k (.int v)) F) (xl (up_M M c k y) G) := sm_pv hM (I_int hb hk) e h
theorem sm_poI {M : ms_M} (hM : Rg_M M) {c k : Nat} (hb : kc_O c = 3) (hk : Nat.beq k 0 = true) {y : Int} {F : mx_H → Option α} {G : ms_M → Option β} (h : ∀ M2, Rg_M M2 → Sm_ R (F (H_M M2)) (G M2)) : Sm_ R (mx_sv (xpv (H_M M) c 3 k (va_rf (rf_O y))) F) (wr_R c k y M G) := by
  cases (Nat.eq_of_beq_eq_true hk : k = 0); exact sm_po hM (I_F0 hb) h
theorem sm_prI {M : ms_M} (hM : Rg_M M) {c k : Nat} (hb : kc_O c = 3) (hk : Nat.beq k 0 = true) {b : Nat} {F : mx_H → Option α} {G : ms_M → Option β} (h : ∀ M2, Rg_M M2 → Sm_ R (F (H_M M2)) (G M2)) : Sm_ R (mx_sv (xpv (H_M M) c 3 k (.ref b)) F) (wr_R c k ((b : Nat) : Int) M G) := by
  cases (Nat.eq_of_beq_eq_true hk : k = 0); exact sm_pr hM (I_F0 hb) h
theorem K_F {c k : Nat} (h : kc_O c = 4) (hk : k < 2) : ly_F c 4 k = (c + (k + 1)) + 2 := by
  have h1 := (Bool.and_eq_true _ _ ▸ (Bool.and_eq_true _ _ ▸ K_one h : _ ∧ _).1 : Nat.beq (ly_F c 4 0) (c + 3) = true ∧ Nat.beq (ly_F c 4 1) (c + 4) = true)
  have hc : k = 0 ∨ k = 1 := by omega
  rcases hc with rfl | rfl
  · have := Nat.eq_of_beq_eq_true h1.1; omega
  · have := Nat.eq_of_beq_eq_true h1.2; omega
theorem sm_grK {M : ms_M} (hM : Rg_M M) {c k off : Nat} (hb : kc_O c = 4) (hk : (Nat.beq off (k + 1) && Nat.ble (k + 1) 2) = true) {F : Nat → Option α} {y : Option β} (h : Sm_ R (F (c + off)) y) : Sm_ R (mx_sv (xgr (H_M M) c 4 k) F) y := by
  have h1 := (Bool.and_eq_true _ _ ▸ hk : Nat.beq off (k + 1) = true ∧ Nat.ble (k + 1) 2 = true)
  have h2 : off = k + 1 := Nat.eq_of_beq_eq_true h1.1
  have h3 := Nat.le_of_ble_eq_true h1.2
  subst h2
  exact sm_gr hM (K_F hb (by omega)) h (by have := kc_lt hb (by decide); omega)
/-- is it an object of that class? -/
theorem is_ok {M : ms_M} (hM : Rg_M M) {c ci : Nat} (h : kc_O c = ci) (h2 : ci ≠ 99) : xis (H_M M) c ci = true := by
  obtain ⟨h3, h4⟩ := kc_T h h2
  unfold xis
  rw [gH_ (cn_fix hM (kc_lt h h2)), cl_5 h3, h4]
  simp
theorem sm_is {M : ms_M} (hM : Rg_M M) {c ci : Nat} (h : kc_O c = ci) {x : Option α} {y : Option β} (hx : Sm_ R x y) (h2 : ci ≠ 99 := by decide) : Sm_ R (mx_gd (xis (H_M M) c ci) x) y := by rw [is_ok hM h h2]; exact hx
theorem sm_isK {M : ms_M} (hM : Rg_M M) {c ci : Nat} (h : kc_O c = ci) {x : Option α} {y : Option β} (hx : Sm_ R x y) (h2 : ci ≠ 99 := by decide) : Sm_ R (mx_gd (xis (H_M M) c ci) x) y := sm_is hM h hx h2
theorem sm_isS {M : ms_M} (hM : Rg_M M) {c ci : Nat} {x : Option α} {y : Option β} (hx : kc_O c = ci → Sm_ R x y) (h2 : ci ≠ 99 := by decide) : Sm_ R (mx_gd (xis (H_M M) c ci) x) (ck_B (kc_O c = ci) y) := by
  unfold ck_B; split
  · exact sm_is hM (by assumption) (hx (by assumption)) h2
  · exact sm_no
theorem sm_kO {c ci : Nat} {x : Option α} {y : Option β} (hx : kc_O c = ci → Sm_ R x y) : Sm_ R x (ck_B (kc_O c = ci) y) := by
  unfold ck_B; split
  · exact hx (by assumption)
  · exact sm_no
end
