/-- an Image whose methods' numbers keep to what reading without FORM allows -/
def IGm_ (M : ms_M) (b m : Nat) : Prop := (0 ≤ M (b + 6) (12 * m + 3) ∧ M (b + 6) (12 * m + 3) ≤ 30) ∧ M (b + 6) (12 * m + 4) ≤ 30 ∧ (0 ≤ M (b + 6) (12 * m + 7) ∧ M (b + 6) (12 * m + 7) ≤ 20) ∧ (0 ≤ M (b + 6) (12 * m + 9) ∧ M (b + 6) (12 * m + 9) ≤ 100) ∧ (0 ≤ M (b + 6) (12 * m + 11) ∧ M (b + 6) (12 * m + 11) ≤ 6) ∧ 0 ≤ M (b + 6) (12 * m + 5)
def IG_ (M : ms_M) (b : Nat) : Prop := ∀ m : Nat, (m : Int) < M b 12 → IGm_ M b m
theorem ig_eq {M N : ms_M} {b : Nat} (h : IG_ M b) (h1 : N b 12 = M b 12) (h2 : ∀ k, N (b + 6) k = M (b + 6) k) : IG_ N b := by
  intro m hm
  rw [h1] at hm
  have := h m hm
  unfold IGm_ at this ⊢
  rw [h2, h2, h2, h2, h2, h2]; exact this
/-- the Image that is being verified -/
def VG_ (M : ms_M) : Prop := IG_ M (M 127 5).toNat
theorem is_Ib {b : Nat} (hb : kc_O b = 3) : is_I b = true ∧ is_I (b + 6) = true := by
  have h1 := List.all_eq_true.mp I_is b (List.mem_range.mpr (kc_lt hb (by decide)))
  rw [hb] at h1
  simp only [Nat.beq, Bool.not_true, Bool.false_or, Bool.and_eq_true] at h1
  obtain ⟨q0, q1, q2, q3, q4, q5, q6⟩ := h1
  exact ⟨q0, q6⟩
theorem vg_eq {M N : ms_M} (V : VS_ M) (h : VG_ M) (h1 : N 127 5 = M 127 5) (h2 : ∀ c k, is_I c = true → N c k = M c k) : VG_ N := by
  unfold VG_ at h ⊢
  rw [h1]
  have hb := is_Ib (vi_r V).2.1.2
  exact ig_eq h (h2 _ _ hb.1) (fun k => h2 _ _ hb.2)
theorem vg_up {M : ms_M} {c k : Nat} {v : Int} (V : VS_ M) (h : VG_ M) (hc : (!(is_I c) && (!(Nat.beq c 127) || !(Nat.beq k 5))) = true) : VG_ (up_M M c k v) := by
  rw [Bool.and_eq_true, Bool.or_eq_true] at hc
  obtain ⟨q1, q2⟩ := hc
  refine vg_eq V h (up_n ?_) (fun d j hd => up_n ?_)
  · rintro ⟨rfl, rfl⟩; rcases q2 with z | z <;> cases z
  · rintro ⟨rfl, -⟩; rw [hd] at q1; cases q1
theorem vg_ua {M : ms_M} {c k : Nat} {v : Int} (V : VS_ M) (h : VG_ M) (hc : (!(is_I c) && !(Nat.beq c 127)) = true) : VG_ (up_M M c k v) := by
  rw [Bool.and_eq_true] at hc
  exact vg_up V h (by rw [Bool.and_eq_true, Bool.or_eq_true]; exact ⟨hc.1, .inl hc.2⟩)
theorem nw_is {L : List Nat} {LF : List (Nat × Nat)} (h : (L.all (fun x => !(is_I x)) && LF.all (fun q => !(is_I q.1))) = true) : ∀ c k, is_I c = true → nw_F L LF false false c k = true := by
  intro c k hc
  rw [Bool.and_eq_true] at h
  unfold nw_F
  simp only [Bool.and_eq_true]
  refine ⟨?_, ?_, rfl, rfl⟩
  · cases hq : L.contains c with
    | false => rfl
    | true => have := List.all_eq_true.mp h.1 c (List.contains_iff_mem.mp hq); rw [hc] at this; cases this
  · cases hq : LF.contains (c, k) with
    | false => rfl
    | true => have := List.all_eq_true.mp h.2 _ (List.contains_iff_mem.mp hq); simp only [hc] at this; cases this
theorem okof {α : Type} {x : Option α} {Q : α → Prop} {a : α} (h : Ok_ x Q) (e : x = some a) : Q a := by
  obtain ⟨b, e2, q⟩ := h
  rw [e] at e2; cases e2; exact q
/-- what an Image tells of a method -/
theorem lm_of {nn b : Nat} {a1 a2 : Int} {h : ms_M} {u : Int} (I : IG_ h b) (ha : 0 ≤ a2 ∧ a2 ≤ 11) (hm : h b 12 ≤ 12) (h1 : a1 ≤ 1000) (e : qf_X3_of nn b a1 a2 h = some u) : u = 0 ∨ ((a2 = 3 → 0 ≤ u ∧ u ≤ 30) ∧ (a2 = 4 → u ≤ 30) ∧ (a2 = 7 → 0 ≤ u ∧ u ≤ 20) ∧ (a2 = 9 → 0 ≤ u ∧ u ≤ 100) ∧ (a2 = 11 → 0 ≤ u ∧ u ≤ 6) ∧ (a2 = 5 → 0 ≤ u)) := by
  unfold qf_X3_of xl at e
  dsimp only at e
  split at e
  · cases e; exact .inl rfl
  · split at e
    · cases e; exact .inl rfl
    · split at e
      · cases e; exact .inl rfl
      · have e := rd_i e
        cases e
        right
        have q : oq_add (oq_mul a1 12) a2 = a1 * 12 + a2 := by
          rw [oq_mul_eq (by omega) (by omega) (by omega), oq_add_eq (by omega) (by omega) (by omega)]
        rw [q]
        have g := I a1.toNat (by omega)
        unfold IGm_ at g
        refine ⟨?_, ?_, ?_, ?_, ?_, ?_⟩ <;> intro z
        · rw [z, show (a1 * 12 + 3).toNat = 12 * a1.toNat + 3 by omega]; exact g.1
        · rw [z, show (a1 * 12 + 4).toNat = 12 * a1.toNat + 4 by omega]; exact g.2.1
        · rw [z, show (a1 * 12 + 7).toNat = 12 * a1.toNat + 7 by omega]; exact g.2.2.1
        · rw [z, show (a1 * 12 + 9).toNat = 12 * a1.toNat + 9 by omega]; exact g.2.2.2.1
        · rw [z, show (a1 * 12 + 11).toNat = 12 * a1.toNat + 11 by omega]; exact g.2.2.2.2.1
        · rw [z, show (a1 * 12 + 5).toNat = 12 * a1.toNat + 5 by omega]; exact g.2.2.2.2.2
theorem lm_info {nn : Nat} {a1 : Int} {h : ms_M} {u : Int} (V : VS_ h) (N : VG_ h) (ha : 0 ≤ a1 ∧ a1 ≤ 11) (e : qf_X11_info nn a1 h = some u) : u = 0 ∨ ((a1 = 3 → 0 ≤ u ∧ u ≤ 30) ∧ (a1 = 4 → u ≤ 30) ∧ (a1 = 7 → 0 ≤ u ∧ u ≤ 20) ∧ (a1 = 9 → 0 ≤ u ∧ u ≤ 100) ∧ (a1 = 11 → 0 ≤ u ∧ u ≤ 6) ∧ (a1 = 5 → 0 ≤ u)) := by
  unfold qf_X11_info at e
  obtain ⟨-, e⟩ := ck_i e
  obtain ⟨hb, e⟩ := ck_i e
  obtain ⟨w, e1, e⟩ := sv_i e
  cases e
  have g := gF_127_6 V
  have g2 := gI_12 V hb
  exact lm_of N ha (by omega) (by omega) e1
theorem lm_info3 {nn : Nat} {h : ms_M} {u : Int} (V : VS_ h) (N : VG_ h) (e : qf_X11_info nn 3 h = some u) : 0 ≤ u ∧ u ≤ 30 := by
  have := lm_info V N (by omega) e
  omega
theorem lm_info4 {nn : Nat} {h : ms_M} {u : Int} (V : VS_ h) (N : VG_ h) (e : qf_X11_info nn 4 h = some u) : u ≤ 30 := by
  have := lm_info V N (by omega) e
  omega
theorem lm_info5 {nn : Nat} {h : ms_M} {u : Int} (V : VS_ h) (N : VG_ h) (e : qf_X11_info nn 5 h = some u) : 0 ≤ u := by
  have := lm_info V N (by omega) e
  omega
theorem lm_info7 {nn : Nat} {h : ms_M} {u : Int} (V : VS_ h) (N : VG_ h) (e : qf_X11_info nn 7 h = some u) : 0 ≤ u ∧ u ≤ 20 := by
  have := lm_info V N (by omega) e
  omega
theorem lm_info9 {nn : Nat} {h : ms_M} {u : Int} (V : VS_ h) (N : VG_ h) (e : qf_X11_info nn 9 h = some u) : 0 ≤ u ∧ u ≤ 100 := by
  have := lm_info V N (by omega) e
  omega
theorem vg_cp {M N : ms_M} {d : Nat} (V : VS_ M) (h : VG_ M) (F : ∀ c k, c ≠ d → N c k = M c k) (hc : (!(is_I d) && !(Nat.beq d 127)) = true) : VG_ N := by
  rw [Bool.and_eq_true] at hc
  refine vg_eq V h (F 127 5 ?_) (fun c k z => F c k ?_)
  · rintro rfl; cases hc.2
  · rintro rfl; rw [z] at hc; cases hc.1
theorem vg_fr {M N : ms_M} {L : List Nat} {LF : List (Nat × Nat)} (V : VS_ M) (h : VG_ M) (F : ∀ c k, nw_F L LF false false c k = true → N c k = M c k) (hc : ((L.all (fun x => !(is_I x)) && LF.all (fun q => !(is_I q.1))) && nw_F L LF false false 127 5) = true) : VG_ N := by
  rw [Bool.and_eq_true] at hc
  exact vg_eq V h (F 127 5 hc.2) (fun c k z => F c k (nw_is hc.1 c k z))
/-- the frames that marks name are small -/
def FB_ (M : ms_M) : Prop := ∀ q : Nat, (q : Int) < M 127 16 → 0 ≤ M 132 q → (0 ≤ M 133 (M 132 q * 64 + 1).toNat ∧ M 133 (M 132 q * 64 + 1).toNat ≤ 30) ∧ (0 ≤ M 133 (M 132 q * 64 + 2).toNat ∧ M 133 (M 132 q * 64 + 2).toNat ≤ 30)
theorem fb_eq {M N : ms_M} (h : FB_ M) (h1 : N 127 16 = M 127 16) (h2 : ∀ k, N 132 k = M 132 k) (h3 : ∀ k, N 133 k = M 133 k) : FB_ N := by
  intro q hq hm
  rw [h1] at hq; rw [h2] at hm
  rw [h2, h3, h3]; exact h q hq hm
def VF_ (M : ms_M) : Prop := VG_ M ∧ FB_ M
theorem vf_up {M : ms_M} {c k : Nat} {v : Int} (V : VS_ M) (h : VF_ M) (hc : ((!(is_I c) && (!(Nat.beq c 127) || !(Nat.beq k 5))) && ((!(Nat.beq c 127) || !(Nat.beq k 16)) && (!(Nat.beq c 132) && !(Nat.beq c 133)))) = true) : VF_ (up_M M c k v) := by
  rw [Bool.and_eq_true] at hc
  refine ⟨vg_up V h.1 hc.1, ?_⟩
  have hc := hc.2
  simp only [Bool.and_eq_true, Bool.or_eq_true] at hc
  obtain ⟨q1, q2, q3⟩ := hc
  refine fb_eq h.2 (up_n ?_) (fun j => up_n ?_) (fun j => up_n ?_)
  · rintro ⟨rfl, rfl⟩; rcases q1 with z | z <;> cases z
  · rintro ⟨rfl, -⟩; cases q2
  · rintro ⟨rfl, -⟩; cases q3
theorem vf_fr {M N : ms_M} {L : List Nat} {LF : List (Nat × Nat)} (V : VS_ M) (h : VF_ M) (F : ∀ c k, nw_F L LF false false c k = true → N c k = M c k) (hc : (((L.all (fun x => !(is_I x)) && LF.all (fun q => !(is_I q.1))) && nw_F L LF false false 127 5) && (nw_F L LF false false 127 16 && ((!(L.contains 132) && LF.all (fun q => !(Nat.beq q.1 132))) && (!(L.contains 133) && LF.all (fun q => !(Nat.beq q.1 133)))))) = true) : VF_ N := by
  rw [Bool.and_eq_true] at hc
  refine ⟨vg_fr V h.1 F hc.1, ?_⟩
  have hc := hc.2
  simp only [Bool.and_eq_true] at hc
  obtain ⟨q1, ⟨q2, q4⟩, q3, q5⟩ := hc
  refine fb_eq h.2 (F _ _ q1) (fun j => F _ _ (nw_ar ?_ j)) (fun j => F _ _ (nw_ar ?_ j))
  · simp only [Bool.and_eq_true]; exact ⟨q2, q4, rfl, rfl⟩
  · simp only [Bool.and_eq_true]; exact ⟨q3, q5, rfl, rfl⟩
theorem lm_begins {nn : Nat} {a1 : Int} {h : ms_M} {u : Int} (e : qf_X11_begins nn a1 h = some u) : u = 0 ∨ (0 ≤ a1 ∧ a1 < h 127 16) := by
  unfold qf_X11_begins at e
  split at e
  · cases e; exact .inl rfl
  · split at e
    · cases e; exact .inl rfl
    · right; omega
theorem lm_frameAt {nn : Nat} {a1 : Int} {h : ms_M} {u : Int} (V : VS_ h) (F : FB_ h) (e : qf_X11_frameAt nn a1 h = some u) : u < 0 ∨ ((0 ≤ u ∧ u ≤ 99) ∧ (0 ≤ h 133 (u * 64 + 1).toNat ∧ h 133 (u * 64 + 1).toNat ≤ 30) ∧ (0 ≤ h 133 (u * 64 + 2).toNat ∧ h 133 (u * 64 + 2).toNat ≤ 30)) := by
  unfold qf_X11_frameAt at e
  obtain ⟨w, e1, e⟩ := sv_i e
  split at e
  · cases e; left; decide
  · have e := rd_i e
    cases e
    have g := gF_127_16 V
    have b := lm_begins e1
    have r := gA_132 V a1.toNat (by omega)
    by_cases q : h 132 a1.toNat < 0
    · exact .inl q
    · right
      have := F a1.toNat (by omega) (by omega)
      exact ⟨⟨by omega, r.2⟩, this⟩
/-- the Images of the space: eight of them and the spare are nine; those of the space were read without FORM -/
def SI_ (M : ms_M) : Prop := (∀ k : Nat, k < 8 → IG_ M (M 60 k).toNat) ∧ (∀ j k : Nat, j < 8 → k < 8 → j ≠ k → M 60 j ≠ M 60 k) ∧ (∀ k : Nat, k < 8 → M 60 k ≠ M 56 2)
theorem si_eq {M N : ms_M} (V : VS_ M) (h : SI_ M) (h1 : ∀ k, N 60 k = M 60 k) (h2 : N 56 2 = M 56 2) (h3 : ∀ b, kc_O b = 3 → N b 12 = M b 12 ∧ ∀ k, N (b + 6) k = M (b + 6) k) : SI_ N := by
  refine ⟨fun k hk => ?_, fun j k hj hk hn => ?_, fun k hk => ?_⟩
  · rw [h1]
    have hb := h3 _ (V.2.2.2.2.1 k hk).2
    exact ig_eq (h.1 k hk) hb.1 hb.2
  · rw [h1, h1]; exact h.2.1 j k hj hk hn
  · rw [h1, h2]; exact h.2.2 k hk
theorem si_fr {M N : ms_M} {L : List Nat} {LF : List (Nat × Nat)} (V : VS_ M) (h : SI_ M) (F : ∀ c k, nw_F L LF false false c k = true → N c k = M c k) (hc : ((L.all (fun x => !(is_I x)) && LF.all (fun q => !(is_I q.1))) && (nw_F L LF false false 56 2 && (!(L.contains 60) && LF.all (fun q => !(Nat.beq q.1 60))))) = true) : SI_ N := by
  simp only [Bool.and_eq_true] at hc
  obtain ⟨q1, q2, q3, q4⟩ := hc
  refine si_eq V h (fun k => F _ _ (nw_ar ?_ k)) (F _ _ q2) (fun b hb => ⟨F b 12 (nw_is ?_ b 12 (is_Ib hb).1), fun k => F _ k (nw_is ?_ _ k (is_Ib hb).2)⟩)
  · simp only [Bool.and_eq_true]; exact ⟨q3, q4, rfl, rfl⟩
  · simp only [Bool.and_eq_true]; exact q1
  · simp only [Bool.and_eq_true]; exact q1
/-- where the eleven Images lie -/
theorem im_form : (List.range 256).all (fun c => !(Nat.beq (kc_O c) 3) || decide (c = 61 ∨ (71 ≤ c ∧ c ≤ 120 ∧ (c - 71) % 7 = 0) ∨ c = 136 ∨ c = 153)) = true := by decide +kernel
theorem im_at {b : Nat} (hb : kc_O b = 3) : b = 61 ∨ (71 ≤ b ∧ b ≤ 120 ∧ (b - 71) % 7 = 0) ∨ b = 136 ∨ b = 153 := by
  have h1 := List.all_eq_true.mp im_form b (List.mem_range.mpr (kc_lt hb (by decide)))
  rw [hb] at h1
  simp only [Nat.beq, Bool.not_true, Bool.false_or, decide_eq_true_eq] at h1
  exact h1
theorem im_dis {b d : Nat} (hb : kc_O b = 3) (hd : kc_O d = 3) (h : d ≠ b) : (d < b ∨ b + 6 < d) ∧ (d + 6 < b ∨ b + 6 < d + 6) := by
  have h1 := im_at hb
  have h2 := im_at hd
  omega
/-- how many parameters a method of the space has -/
theorem lm_ofm {nn : Nat} {a w v u : Int} {h : ms_M} (V : VS_ h) (S : SI_ h) (e1 : qf_X7_imageOfMember nn a h = some w) (hw : ¬ w < 0) (hv : v ≤ 1000) (e : qf_X3_of nn w.toNat v 11 h = some u) : 0 ≤ u ∧ u ≤ 6 := by
  have g3 := gF_56_3 V
  unfold qf_X7_imageOfMember at e1
  split at e1
  · cases e1; omega
  · rw [xl_eq, oq_mul_eq (by omega) (by omega) (by omega)] at e1
    split at e1
    · cases e1; omega
    · rw [xl_eq, Int.tdiv_eq_ediv_of_nonneg (by omega)] at e1
      have e1 := rd_i e1
      cases e1
      have I := S.1 (a / 12).toNat (by omega)
      have g := V.2.2.2.2.1 (a / 12).toNat (by omega)
      have g12 := gI_12 V g.2
      have := lm_of I (by omega) (by omega) hv e
      omega
/-- what a field's instruction wants of its link -/
def LKf_ (nn : Nat) (a : Int) (h : ms_M) : Prop := ∀ u, qf_X5_link nn a h = some u → u ≤ 2000000000
def LKo_ (nn : Nat) (p a : Int) (h : ms_M) : Prop := (p = 180 ∨ p = 181) → LKf_ nn a h
def LKs_ (nn : Nat) (h : ms_M) : Prop := ∀ p a : Int, qf_X3_byteAt nn (h 143 18).toNat (oq_add (h 143 19) (h 149 (h 143 17).toNat)) h = some p → qf_X3_byteAt nn (h 143 18).toNat (oq_add (oq_add (h 143 19) (h 149 (h 143 17).toNat)) 1) h = some a → LKo_ nn p a h
theorem lk_eq {nn : Nat} {a : Int} {M N : ms_M} (h1 : ∀ k, N 148 k = M 148 k) (h2 : N 143 17 = M 143 17) (h3 : ∀ k, N 68 k = M 68 k) : qf_X5_link nn a N = qf_X5_link nn a M := by
  have e1 : N 148 = M 148 := funext h1
  have e3 : N 68 = M 68 := funext h3
  unfold qf_X5_link qf_X7_link rd_A
  rw [h2, e1, e3]
theorem ok_addE {α : Type} {Q : α → Prop} {x y : Int} {F : Int → Option α} (h : ∀ v, v = oq_add x y → -2147483648 ≤ v → v ≤ 2147483647 → Ok_ (F v) Q) : Ok_ (xl (oq_add x y) F) Q := by
  have e : oq_add x y = (Int32.ofInt x + Int32.ofInt y).toInt := rfl
  refine h _ rfl ?_ ?_
  · rw [e]; exact Int.le_trans (by decide) (Int32.le_toInt _)
  · rw [e]; exact Int.le_of_lt_add_one (Int.lt_of_lt_of_le (Int32.toInt_lt _) (by decide))
