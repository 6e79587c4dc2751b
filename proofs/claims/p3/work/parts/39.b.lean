set_option maxRecDepth 100000 in
theorem im_all : (List.range 256).all (fun c => !(Nat.beq (kc_O c) 3) || (((List.range 14).all (fun k => !(Nat.ble 2 k) || im_k c k)) && ((List.range 7).all (fun o => !(Nat.ble 2 o) || (im_k (c + o) 0 && Nat.blt (c + o) 256))))) = true := rfl
theorem im_ok {c : Nat} (h : kc_O c = 3) : (((List.range 14).all (fun k => !(Nat.ble 2 k) || im_k c k)) && ((List.range 7).all (fun o => !(Nat.ble 2 o) || (im_k (c + o) 0 && Nat.blt (c + o) 256)))) = true := by
  have h1 := List.all_eq_true.1 im_all c (List.mem_range.2 (kc_lt h (by decide)))
  rw [h] at h1; exact h1
theorem im_I {b k : Nat} (h : kc_O b = 3) (hk : 2 ≤ k ∧ k < 14) : im_k b k = true := by
  have h1 := im_ok h
  rw [Bool.and_eq_true] at h1
  have h2 := List.all_eq_true.1 h1.1 k (List.mem_range.2 hk.2)
  rw [Nat.ble_eq_true_of_le hk.1] at h2; exact h2
theorem im_arr {c : Nat} (h : im_k c 0 = true) (h2 : kc_O c = 99) (h3 : c ≠ 56 ∧ c ≠ 127 ∧ c ≠ 143) (k : Nat) : im_k c k = true := by
  have f : ∀ a b : Nat, a ≠ b → Nat.beq a b = false := fun a b z => by
    cases e : Nat.beq a b with
    | false => rfl
    | true => exact absurd (Nat.eq_of_beq_eq_true e) z
  unfold im_k at h ⊢
  rw [h2, f c 56 h3.1, f c 127 h3.2.1, f c 143 h3.2.2] at h ⊢
  exact h
theorem im_IA {b o k : Nat} (h : kc_O b = 3) (ho : 2 ≤ o ∧ o ≤ 6) : im_k (b + o) k = true := by
  have h1 := im_ok h
  rw [Bool.and_eq_true] at h1
  have h2 := List.all_eq_true.1 h1.2 o (List.mem_range.2 (by omega))
  rw [Nat.ble_eq_true_of_le ho.1] at h2
  have h3 : im_k (b + o) 0 = true := (Bool.and_eq_true_iff.1 h2).1
  have hT := T_arr h ho
  have hk : kc_O (b + o) = 99 := by unfold kc_O; rw [hT]; rfl
  refine im_arr h3 hk ⟨?_, ?_, ?_⟩ k <;> (intro e; rw [e] at hT; exact absurd hT (by decide))
theorem T_lt {b o : Nat} (h : kc_O b = 3) (ho : 2 ≤ o ∧ o ≤ 6) : b + o < 256 := by
  have h1 := im_ok h
  rw [Bool.and_eq_true] at h1
  have h2 := List.all_eq_true.1 h1.2 o (List.mem_range.2 (by omega))
  rw [Nat.ble_eq_true_of_le ho.1] at h2
  have h3 := (Bool.and_eq_true_iff.1 h2).2
  rw [Nat.blt_eq] at h3; exact h3
set_option maxRecDepth 100000 in
theorem kc_4a : (List.range 256).all (fun c => !(Nat.beq (kc_O c) 4) || (Nat.beq c 12 || Nat.beq c 57)) = true := rfl
theorem N_arr2 {b : Nat} (h : kc_O b = 3) : ly_N (b + 2) = 256 := by
  have h1 := I_one h
  simp only [Bool.and_eq_true] at h1
  exact (ly_Rel h1.2.1).2.2
theorem N_arr3 {b : Nat} (h : kc_O b = 3) : ly_N (b + 3) = 256 := by
  have h1 := I_one h
  simp only [Bool.and_eq_true] at h1
  exact (ly_Rel h1.2.2.1).2.2
theorem N_arr4 {b : Nat} (h : kc_O b = 3) : ly_N (b + 4) = 256 := by
  have h1 := I_one h
  simp only [Bool.and_eq_true] at h1
  exact (ly_Rel h1.2.2.2.1).2.2
theorem N_arr5 {b : Nat} (h : kc_O b = 3) : ly_N (b + 5) = 24 := by
  have h1 := I_one h
  simp only [Bool.and_eq_true] at h1
  exact (ly_Rel h1.2.2.2.2.1).2.2
theorem N_arr6 {b : Nat} (h : kc_O b = 3) : ly_N (b + 6) = 144 := by
  have h1 := I_one h
  simp only [Bool.and_eq_true] at h1
  exact (ly_Rel h1.2.2.2.2.2).2.2
theorem kc_4 {b : Nat} (h : kc_O b = 4) : b = 12 ∨ b = 57 := by
  have h2 := List.all_eq_true.1 kc_4a b (List.mem_range.2 (kc_lt h (by decide)))
  rw [h] at h2
  have h2 : (Nat.beq b 12 || Nat.beq b 57) = true := h2
  rcases Bool.or_eq_true_iff.1 h2 with z | z
  · exact .inl (Nat.eq_of_beq_eq_true z)
  · exact .inr (Nat.eq_of_beq_eq_true z)
theorem gF_0_1 {M : ms_M} (h : VS_ M) : 0 ≤ M 0 1 ∧ M 0 1 ≤ 6000 := vs_g h 1 (show 0 < 256 by decide) (.inl rfl)
theorem wF_0_1 {M : ms_M} (h : VS_ M) {v : Int} (e : 0 ≤ v ∧ v ≤ 6000) : VS_ (up_M M 0 1 v) := vs_up h e rfl
theorem gF_0_7 {M : ms_M} (h : VS_ M) : 0 ≤ M 0 7 ∧ M 0 7 ≤ 334 := vs_g h 7 (show 0 < 256 by decide) (.inl rfl)
theorem wF_0_7 {M : ms_M} (h : VS_ M) {v : Int} (e : 0 ≤ v ∧ v ≤ 334) : VS_ (up_M M 0 7 v) := vs_up h e rfl
theorem gA_1 {M : ms_M} (h : VS_ M) (k : Nat) (hk : (k : Int) < 6000) : (-128) ≤ M 1 k ∧ M 1 k ≤ 127 := vs_g h k (show 1 < 256 by decide) (.inr (show k < 6000 by omega))
theorem wA_1 {M : ms_M} (h : VS_ M) {k : Nat} {v : Int} (e : (-128) ≤ v ∧ v ≤ 127) : VS_ (up_M M 1 k v) := vs_up h e rfl
theorem gF_2_3 {M : ms_M} (h : VS_ M) : 0 ≤ M 2 3 ∧ M 2 3 ≤ 3001 := vs_g h 3 (show 2 < 256 by decide) (.inl rfl)
theorem wF_2_3 {M : ms_M} (h : VS_ M) {v : Int} (e : 0 ≤ v ∧ v ≤ 3001) : VS_ (up_M M 2 3 v) := vs_up h e rfl
theorem gF_2_9 {M : ms_M} (h : VS_ M) : 0 ≤ M 2 9 ∧ M 2 9 ≤ 1740 := vs_g h 9 (show 2 < 256 by decide) (.inl rfl)
theorem wF_2_9 {M : ms_M} (h : VS_ M) {v : Int} (e : 0 ≤ v ∧ v ≤ 1740) : VS_ (up_M M 2 9 v) := vs_up h e rfl
theorem gF_2_10 {M : ms_M} (h : VS_ M) : 0 ≤ M 2 10 ∧ M 2 10 ≤ 50000000 := vs_g h 10 (show 2 < 256 by decide) (.inl rfl)
theorem wF_2_10 {M : ms_M} (h : VS_ M) {v : Int} (e : 0 ≤ v ∧ v ≤ 50000000) : VS_ (up_M M 2 10 v) := vs_up h e rfl
theorem gF_2_11 {M : ms_M} (h : VS_ M) : 0 ≤ M 2 11 ∧ M 2 11 ≤ 11 := vs_g h 11 (show 2 < 256 by decide) (.inl rfl)
theorem wF_2_11 {M : ms_M} (h : VS_ M) {v : Int} (e : 0 ≤ v ∧ v ≤ 11) : VS_ (up_M M 2 11 v) := vs_up h e rfl
theorem gF_2_12 {M : ms_M} (h : VS_ M) : (-1) ≤ M 2 12 ∧ M 2 12 ≤ 3000 := vs_g h 12 (show 2 < 256 by decide) (.inl rfl)
theorem wF_2_12 {M : ms_M} (h : VS_ M) {v : Int} (e : (-1) ≤ v ∧ v ≤ 3000) : VS_ (up_M M 2 12 v) := vs_up h e rfl
theorem gA_3 {M : ms_M} (h : VS_ M) (k : Nat) (hk : (k : Int) < 3001) : 0 ≤ M 3 k ∧ M 3 k ≤ 1740 := vs_g h k (show 3 < 256 by decide) (.inr (show k < 3001 by omega))
theorem wA_3 {M : ms_M} (h : VS_ M) {k : Nat} {v : Int} (e : 0 ≤ v ∧ v ≤ 1740) : VS_ (up_M M 3 k v) := vs_up h e rfl
theorem gA_4 {M : ms_M} (h : VS_ M) (k : Nat) (hk : (k : Int) < 3001) : 0 ≤ M 4 k ∧ M 4 k ≤ 3000 := vs_g h k (show 4 < 256 by decide) (.inr (show k < 3001 by omega))
theorem wA_4 {M : ms_M} (h : VS_ M) {k : Nat} {v : Int} (e : 0 ≤ v ∧ v ≤ 3000) : VS_ (up_M M 4 k v) := vs_up h e rfl
theorem gA_5 {M : ms_M} (h : VS_ M) (k : Nat) (hk : (k : Int) < 3001) : 0 ≤ M 5 k ∧ M 5 k ≤ 2147483647 := vs_g h k (show 5 < 256 by decide) (.inr (show k < 3001 by omega))
theorem wA_5 {M : ms_M} (h : VS_ M) {k : Nat} {v : Int} (e : 0 ≤ v ∧ v ≤ 2147483647) : VS_ (up_M M 5 k v) := vs_up h e rfl
theorem gA_6 {M : ms_M} (h : VS_ M) (k : Nat) (hk : (k : Int) < 6400) : (-128) ≤ M 6 k ∧ M 6 k ≤ 127 := vs_g h k (show 6 < 256 by decide) (.inr (show k < 6400 by omega))
theorem wA_6 {M : ms_M} (h : VS_ M) {k : Nat} {v : Int} (e : (-128) ≤ v ∧ v ≤ 127) : VS_ (up_M M 6 k v) := vs_up h e rfl
theorem gA_7 {M : ms_M} (h : VS_ M) (k : Nat) (hk : (k : Int) < 1741) : 0 ≤ M 7 k ∧ M 7 k ≤ 6400 := vs_g h k (show 7 < 256 by decide) (.inr (show k < 1741 by omega))
theorem wA_7 {M : ms_M} (h : VS_ M) {k : Nat} {v : Int} (e : 0 ≤ v ∧ v ≤ 6400) : VS_ (up_M M 7 k v) := vs_up h e rfl
theorem gA_8 {M : ms_M} (h : VS_ M) (k : Nat) (hk : (k : Int) < 1740) : (-1) ≤ M 8 k ∧ M 8 k ≤ 1739 := vs_g h k (show 8 < 256 by decide) (.inr (show k < 1740 by omega))
theorem wA_8 {M : ms_M} (h : VS_ M) {k : Nat} {v : Int} (e : (-1) ≤ v ∧ v ≤ 1739) : VS_ (up_M M 8 k v) := vs_up h e rfl
theorem gA_9 {M : ms_M} (h : VS_ M) (k : Nat) (hk : (k : Int) < 64) : (-1) ≤ M 9 k ∧ M 9 k ≤ 1739 := vs_g h k (show 9 < 256 by decide) (.inr (show k < 64 by omega))
theorem wA_9 {M : ms_M} (h : VS_ M) {k : Nat} {v : Int} (e : (-1) ≤ v ∧ v ≤ 1739) : VS_ (up_M M 9 k v) := vs_up h e rfl
theorem gA_10 {M : ms_M} (h : VS_ M) (k : Nat) (hk : (k : Int) < 64) : (-1) ≤ M 10 k ∧ M 10 k ≤ 1739 := vs_g h k (show 10 < 256 by decide) (.inr (show k < 64 by omega))
theorem wA_10 {M : ms_M} (h : VS_ M) {k : Nat} {v : Int} (e : (-1) ≤ v ∧ v ≤ 1739) : VS_ (up_M M 10 k v) := vs_up h e rfl
theorem gF_11_2 {M : ms_M} (h : VS_ M) : 0 ≤ M 11 2 ∧ M 11 2 ≤ 334 := vs_g h 2 (show 11 < 256 by decide) (.inl rfl)
theorem wF_11_2 {M : ms_M} (h : VS_ M) {v : Int} (e : 0 ≤ v ∧ v ≤ 334) : VS_ (up_M M 11 2 v) := vs_up h e rfl
theorem gF_11_20 {M : ms_M} (h : VS_ M) : 0 ≤ M 11 20 ∧ M 11 20 ≤ 128 := vs_g h 20 (show 11 < 256 by decide) (.inl rfl)
theorem wF_11_20 {M : ms_M} (h : VS_ M) {v : Int} (e : 0 ≤ v ∧ v ≤ 128) : VS_ (up_M M 11 20 v) := vs_up h e rfl
theorem gA_13 {M : ms_M} (h : VS_ M) (k : Nat) (hk : (k : Int) < 16) : (-1) ≤ M 13 k ∧ M 13 k ≤ 341 := vs_g h k (show 13 < 256 by decide) (.inr (show k < 16 by omega))
theorem wA_13 {M : ms_M} (h : VS_ M) {k : Nat} {v : Int} (e : (-1) ≤ v ∧ v ≤ 341) : VS_ (up_M M 13 k v) := vs_up h e rfl
theorem gA_14 {M : ms_M} (h : VS_ M) (k : Nat) (hk : (k : Int) < 256) : 0 ≤ M 14 k ∧ M 14 k ≤ 1 := vs_g h k (show 14 < 256 by decide) (.inr (show k < 256 by omega))
theorem wA_14 {M : ms_M} (h : VS_ M) {k : Nat} {v : Int} (e : 0 ≤ v ∧ v ≤ 1) : VS_ (up_M M 14 k v) := vs_up h e rfl
theorem gA_15 {M : ms_M} (h : VS_ M) (k : Nat) (hk : (k : Int) < 334) : 0 ≤ M 15 k ∧ M 15 k ≤ 3004 := vs_g h k (show 15 < 256 by decide) (.inr (show k < 334 by omega))
theorem wA_15 {M : ms_M} (h : VS_ M) {k : Nat} {v : Int} (e : 0 ≤ v ∧ v ≤ 3004) : VS_ (up_M M 15 k v) := vs_up h e rfl
theorem gA_16 {M : ms_M} (h : VS_ M) (k : Nat) (hk : (k : Int) < 1740) : (-1) ≤ M 16 k ∧ M 16 k ≤ 341 := vs_g h k (show 16 < 256 by decide) (.inr (show k < 1740 by omega))
theorem wA_16 {M : ms_M} (h : VS_ M) {k : Nat} {v : Int} (e : (-1) ≤ v ∧ v ≤ 341) : VS_ (up_M M 16 k v) := vs_up h e rfl
theorem gA_17 {M : ms_M} (h : VS_ M) (k : Nat) (hk : (k : Int) < 8) : 0 ≤ M 17 k ∧ M 17 k ≤ 12 := vs_g h k (show 17 < 256 by decide) (.inr (show k < 8 by omega))
theorem wA_17 {M : ms_M} (h : VS_ M) {k : Nat} {v : Int} (e : 0 ≤ v ∧ v ≤ 12) : VS_ (up_M M 17 k v) := vs_up h e rfl
theorem gA_18 {M : ms_M} (h : VS_ M) (k : Nat) (hk : (k : Int) < 96) : 0 ≤ M 18 k ∧ M 18 k ≤ 2147483647 := vs_g h k (show 18 < 256 by decide) (.inr (show k < 96 by omega))
theorem wA_18 {M : ms_M} (h : VS_ M) {k : Nat} {v : Int} (e : 0 ≤ v ∧ v ≤ 2147483647) : VS_ (up_M M 18 k v) := vs_up h e rfl
theorem gA_19 {M : ms_M} (h : VS_ M) (k : Nat) (hk : (k : Int) < 96) : 0 ≤ M 19 k ∧ M 19 k ≤ 441 := vs_g h k (show 19 < 256 by decide) (.inr (show k < 96 by omega))
theorem wA_19 {M : ms_M} (h : VS_ M) {k : Nat} {v : Int} (e : 0 ≤ v ∧ v ≤ 441) : VS_ (up_M M 19 k v) := vs_up h e rfl
theorem gA_20 {M : ms_M} (h : VS_ M) (k : Nat) (hk : (k : Int) < 96) : 0 ≤ M 20 k ∧ M 20 k ≤ 1739 := vs_g h k (show 20 < 256 by decide) (.inr (show k < 96 by omega))
theorem wA_20 {M : ms_M} (h : VS_ M) {k : Nat} {v : Int} (e : 0 ≤ v ∧ v ≤ 1739) : VS_ (up_M M 20 k v) := vs_up h e rfl
theorem gA_21 {M : ms_M} (h : VS_ M) (k : Nat) (hk : (k : Int) < 8) : 0 ≤ M 21 k ∧ M 21 k ≤ 12 := vs_g h k (show 21 < 256 by decide) (.inr (show k < 8 by omega))
theorem wA_21 {M : ms_M} (h : VS_ M) {k : Nat} {v : Int} (e : 0 ≤ v ∧ v ≤ 12) : VS_ (up_M M 21 k v) := vs_up h e rfl
theorem gA_22 {M : ms_M} (h : VS_ M) (k : Nat) (hk : (k : Int) < 96) : 0 ≤ M 22 k ∧ M 22 k ≤ 24000000 := vs_g h k (show 22 < 256 by decide) (.inr (show k < 96 by omega))
theorem wA_22 {M : ms_M} (h : VS_ M) {k : Nat} {v : Int} (e : 0 ≤ v ∧ v ≤ 24000000) : VS_ (up_M M 22 k v) := vs_up h e rfl
theorem gA_23 {M : ms_M} (h : VS_ M) (k : Nat) (hk : (k : Int) < 96) : 0 ≤ M 23 k ∧ M 23 k ≤ 21000000 := vs_g h k (show 23 < 256 by decide) (.inr (show k < 96 by omega))
theorem wA_23 {M : ms_M} (h : VS_ M) {k : Nat} {v : Int} (e : 0 ≤ v ∧ v ≤ 21000000) : VS_ (up_M M 23 k v) := vs_up h e rfl
theorem gA_24 {M : ms_M} (h : VS_ M) (k : Nat) (hk : (k : Int) < 96) : 0 ≤ M 24 k ∧ M 24 k ≤ 441 := vs_g h k (show 24 < 256 by decide) (.inr (show k < 96 by omega))
theorem wA_24 {M : ms_M} (h : VS_ M) {k : Nat} {v : Int} (e : 0 ≤ v ∧ v ≤ 441) : VS_ (up_M M 24 k v) := vs_up h e rfl
theorem gA_25 {M : ms_M} (h : VS_ M) (k : Nat) (hk : (k : Int) < 96) : 0 ≤ M 25 k ∧ M 25 k ≤ 1 := vs_g h k (show 25 < 256 by decide) (.inr (show k < 96 by omega))
theorem wA_25 {M : ms_M} (h : VS_ M) {k : Nat} {v : Int} (e : 0 ≤ v ∧ v ≤ 1) : VS_ (up_M M 25 k v) := vs_up h e rfl
theorem gA_26 {M : ms_M} (h : VS_ M) (k : Nat) (hk : (k : Int) < 96) : 0 ≤ M 26 k ∧ M 26 k ≤ 1739 := vs_g h k (show 26 < 256 by decide) (.inr (show k < 96 by omega))
theorem wA_26 {M : ms_M} (h : VS_ M) {k : Nat} {v : Int} (e : 0 ≤ v ∧ v ≤ 1739) : VS_ (up_M M 26 k v) := vs_up h e rfl
theorem gA_27 {M : ms_M} (h : VS_ M) (k : Nat) (hk : (k : Int) < 96) : 0 ≤ M 27 k ∧ M 27 k ≤ 6 := vs_g h k (show 27 < 256 by decide) (.inr (show k < 96 by omega))
theorem wA_27 {M : ms_M} (h : VS_ M) {k : Nat} {v : Int} (e : 0 ≤ v ∧ v ≤ 6) : VS_ (up_M M 27 k v) := vs_up h e rfl
theorem gA_28 {M : ms_M} (h : VS_ M) (k : Nat) (hk : (k : Int) < 576) : 0 ≤ M 28 k ∧ M 28 k ≤ 2147483647 := vs_g h k (show 28 < 256 by decide) (.inr (show k < 576 by omega))
theorem wA_28 {M : ms_M} (h : VS_ M) {k : Nat} {v : Int} (e : 0 ≤ v ∧ v ≤ 2147483647) : VS_ (up_M M 28 k v) := vs_up h e rfl
theorem gA_29 {M : ms_M} (h : VS_ M) (k : Nat) (hk : (k : Int) < 576) : 0 ≤ M 29 k ∧ M 29 k ≤ 441 := vs_g h k (show 29 < 256 by decide) (.inr (show k < 576 by omega))
theorem wA_29 {M : ms_M} (h : VS_ M) {k : Nat} {v : Int} (e : 0 ≤ v ∧ v ≤ 441) : VS_ (up_M M 29 k v) := vs_up h e rfl
theorem gA_30 {M : ms_M} (h : VS_ M) (k : Nat) (hk : (k : Int) < 32) : 0 ≤ M 30 k ∧ M 30 k ≤ 2147483647 := vs_g h k (show 30 < 256 by decide) (.inr (show k < 32 by omega))
theorem wA_30 {M : ms_M} (h : VS_ M) {k : Nat} {v : Int} (e : 0 ≤ v ∧ v ≤ 2147483647) : VS_ (up_M M 30 k v) := vs_up h e rfl
theorem gA_31 {M : ms_M} (h : VS_ M) (k : Nat) (hk : (k : Int) < 128) : (-128) ≤ M 31 k ∧ M 31 k ≤ 127 := vs_g h k (show 31 < 256 by decide) (.inr (show k < 128 by omega))
theorem wA_31 {M : ms_M} (h : VS_ M) {k : Nat} {v : Int} (e : (-128) ≤ v ∧ v ≤ 127) : VS_ (up_M M 31 k v) := vs_up h e rfl
theorem gF_33_7 {M : ms_M} (h : VS_ M) : (-1) ≤ M 33 7 ∧ M 33 7 ≤ 24000000 := vs_g h 7 (show 33 < 256 by decide) (.inl rfl)
theorem wF_33_7 {M : ms_M} (h : VS_ M) {v : Int} (e : (-1) ≤ v ∧ v ≤ 24000000) : VS_ (up_M M 33 7 v) := vs_up h e rfl
theorem gF_33_8 {M : ms_M} (h : VS_ M) : 0 ≤ M 33 8 ∧ M 33 8 ≤ 441 := vs_g h 8 (show 33 < 256 by decide) (.inl rfl)
theorem wF_33_8 {M : ms_M} (h : VS_ M) {v : Int} (e : 0 ≤ v ∧ v ≤ 441) : VS_ (up_M M 33 8 v) := vs_up h e rfl
theorem gF_33_9 {M : ms_M} (h : VS_ M) : (-1) ≤ M 33 9 ∧ M 33 9 ≤ 1600000000 := vs_g h 9 (show 33 < 256 by decide) (.inl rfl)
theorem wF_33_9 {M : ms_M} (h : VS_ M) {v : Int} (e : (-1) ≤ v ∧ v ≤ 1600000000) : VS_ (up_M M 33 9 v) := vs_up h e rfl
theorem gF_33_10 {M : ms_M} (h : VS_ M) : 0 ≤ M 33 10 ∧ M 33 10 ≤ 1000000 := vs_g h 10 (show 33 < 256 by decide) (.inl rfl)
theorem wF_33_10 {M : ms_M} (h : VS_ M) {v : Int} (e : 0 ≤ v ∧ v ≤ 1000000) : VS_ (up_M M 33 10 v) := vs_up h e rfl
theorem gF_33_12 {M : ms_M} (h : VS_ M) : 0 ≤ M 33 12 ∧ M 33 12 ≤ 500 := vs_g h 12 (show 33 < 256 by decide) (.inl rfl)
theorem wF_33_12 {M : ms_M} (h : VS_ M) {v : Int} (e : 0 ≤ v ∧ v ≤ 500) : VS_ (up_M M 33 12 v) := vs_up h e rfl
theorem gF_34_1 {M : ms_M} (h : VS_ M) : 0 ≤ M 34 1 ∧ M 34 1 ≤ 1600000000 := vs_g h 1 (show 34 < 256 by decide) (.inl rfl)
theorem wF_34_1 {M : ms_M} (h : VS_ M) {v : Int} (e : 0 ≤ v ∧ v ≤ 1600000000) : VS_ (up_M M 34 1 v) := vs_up h e rfl
theorem gF_34_3 {M : ms_M} (h : VS_ M) : 0 ≤ M 34 3 ∧ M 34 3 ≤ 1600000000 := vs_g h 3 (show 34 < 256 by decide) (.inl rfl)
theorem wF_34_3 {M : ms_M} (h : VS_ M) {v : Int} (e : 0 ≤ v ∧ v ≤ 1600000000) : VS_ (up_M M 34 3 v) := vs_up h e rfl
theorem gF_34_4 {M : ms_M} (h : VS_ M) : 0 ≤ M 34 4 ∧ M 34 4 ≤ 1600000000 := vs_g h 4 (show 34 < 256 by decide) (.inl rfl)
theorem wF_34_4 {M : ms_M} (h : VS_ M) {v : Int} (e : 0 ≤ v ∧ v ≤ 1600000000) : VS_ (up_M M 34 4 v) := vs_up h e rfl
theorem gF_34_7 {M : ms_M} (h : VS_ M) : 0 ≤ M 34 7 ∧ M 34 7 ≤ 1000000 := vs_g h 7 (show 34 < 256 by decide) (.inl rfl)
theorem wF_34_7 {M : ms_M} (h : VS_ M) {v : Int} (e : 0 ≤ v ∧ v ≤ 1000000) : VS_ (up_M M 34 7 v) := vs_up h e rfl
theorem gF_34_8 {M : ms_M} (h : VS_ M) : 0 ≤ M 34 8 ∧ M 34 8 ≤ 1000000 := vs_g h 8 (show 34 < 256 by decide) (.inl rfl)
theorem wF_34_8 {M : ms_M} (h : VS_ M) {v : Int} (e : 0 ≤ v ∧ v ≤ 1000000) : VS_ (up_M M 34 8 v) := vs_up h e rfl
theorem gF_34_10 {M : ms_M} (h : VS_ M) : 0 ≤ M 34 10 ∧ M 34 10 ≤ 20 := vs_g h 10 (show 34 < 256 by decide) (.inl rfl)
theorem wF_34_10 {M : ms_M} (h : VS_ M) {v : Int} (e : 0 ≤ v ∧ v ≤ 20) : VS_ (up_M M 34 10 v) := vs_up h e rfl
theorem gF_34_14 {M : ms_M} (h : VS_ M) : 0 ≤ M 34 14 ∧ M 34 14 ≤ 100 := vs_g h 14 (show 34 < 256 by decide) (.inl rfl)
theorem wF_34_14 {M : ms_M} (h : VS_ M) {v : Int} (e : 0 ≤ v ∧ v ≤ 100) : VS_ (up_M M 34 14 v) := vs_up h e rfl
theorem gF_34_15 {M : ms_M} (h : VS_ M) : 0 ≤ M 34 15 ∧ M 34 15 ≤ 1 := vs_g h 15 (show 34 < 256 by decide) (.inl rfl)
theorem wF_34_15 {M : ms_M} (h : VS_ M) {v : Int} (e : 0 ≤ v ∧ v ≤ 1) : VS_ (up_M M 34 15 v) := vs_up h e rfl
theorem gA_35 {M : ms_M} (h : VS_ M) (k : Nat) (hk : (k : Int) < 1500) : (-128) ≤ M 35 k ∧ M 35 k ≤ 127 := vs_g h k (show 35 < 256 by decide) (.inr (show k < 1500 by omega))
theorem wA_35 {M : ms_M} (h : VS_ M) {k : Nat} {v : Int} (e : (-128) ≤ v ∧ v ≤ 127) : VS_ (up_M M 35 k v) := vs_up h e rfl
theorem gA_36 {M : ms_M} (h : VS_ M) (k : Nat) (hk : (k : Int) < 20) : (-1) ≤ M 36 k ∧ M 36 k ≤ 441 := vs_g h k (show 36 < 256 by decide) (.inr (show k < 20 by omega))
theorem wA_36 {M : ms_M} (h : VS_ M) {k : Nat} {v : Int} (e : (-1) ≤ v ∧ v ≤ 441) : VS_ (up_M M 36 k v) := vs_up h e rfl
theorem gA_37 {M : ms_M} (h : VS_ M) (k : Nat) (hk : (k : Int) < 750) : (-1) ≤ M 37 k ∧ M 37 k ≤ 2147483647 := vs_g h k (show 37 < 256 by decide) (.inr (show k < 750 by omega))
theorem wA_37 {M : ms_M} (h : VS_ M) {k : Nat} {v : Int} (e : (-1) ≤ v ∧ v ≤ 2147483647) : VS_ (up_M M 37 k v) := vs_up h e rfl
theorem gA_38 {M : ms_M} (h : VS_ M) (k : Nat) (hk : (k : Int) < 750) : (-1) ≤ M 38 k ∧ M 38 k ≤ 441 := vs_g h k (show 38 < 256 by decide) (.inr (show k < 750 by omega))
theorem wA_38 {M : ms_M} (h : VS_ M) {k : Nat} {v : Int} (e : (-1) ≤ v ∧ v ≤ 441) : VS_ (up_M M 38 k v) := vs_up h e rfl
theorem gA_39 {M : ms_M} (h : VS_ M) (k : Nat) (hk : (k : Int) < 80) : (-1) ≤ M 39 k ∧ M 39 k ≤ 1600000000 := vs_g h k (show 39 < 256 by decide) (.inr (show k < 80 by omega))
theorem wA_39 {M : ms_M} (h : VS_ M) {k : Nat} {v : Int} (e : (-1) ≤ v ∧ v ≤ 1600000000) : VS_ (up_M M 39 k v) := vs_up h e rfl
theorem gA_40 {M : ms_M} (h : VS_ M) (k : Nat) (hk : (k : Int) < 100) : 0 ≤ M 40 k ∧ M 40 k ≤ 1600000000 := vs_g h k (show 40 < 256 by decide) (.inr (show k < 100 by omega))
theorem wA_40 {M : ms_M} (h : VS_ M) {k : Nat} {v : Int} (e : 0 ≤ v ∧ v ≤ 1600000000) : VS_ (up_M M 40 k v) := vs_up h e rfl
theorem gA_41 {M : ms_M} (h : VS_ M) (k : Nat) (hk : (k : Int) < 5200) : (-1) ≤ M 41 k ∧ M 41 k ≤ 441 := vs_g h k (show 41 < 256 by decide) (.inr (show k < 5200 by omega))
theorem wA_41 {M : ms_M} (h : VS_ M) {k : Nat} {v : Int} (e : (-1) ≤ v ∧ v ≤ 441) : VS_ (up_M M 41 k v) := vs_up h e rfl
theorem gA_42 {M : ms_M} (h : VS_ M) (k : Nat) (hk : (k : Int) < 100) : 0 ≤ M 42 k ∧ M 42 k ≤ 99 := vs_g h k (show 42 < 256 by decide) (.inr (show k < 100 by omega))
theorem wA_42 {M : ms_M} (h : VS_ M) {k : Nat} {v : Int} (e : 0 ≤ v ∧ v ≤ 99) : VS_ (up_M M 42 k v) := vs_up h e rfl
theorem gA_44 {M : ms_M} (h : VS_ M) (k : Nat) (hk : (k : Int) < 500) : 0 ≤ M 44 k ∧ M 44 k ≤ 1600000000 := vs_g h k (show 44 < 256 by decide) (.inr (show k < 500 by omega))
theorem wA_44 {M : ms_M} (h : VS_ M) {k : Nat} {v : Int} (e : 0 ≤ v ∧ v ≤ 1600000000) : VS_ (up_M M 44 k v) := vs_up h e rfl
theorem gF_45_4 {M : ms_M} (h : VS_ M) : 0 ≤ M 45 4 ∧ M 45 4 ≤ 200 := vs_g h 4 (show 45 < 256 by decide) (.inl rfl)
theorem wF_45_4 {M : ms_M} (h : VS_ M) {v : Int} (e : 0 ≤ v ∧ v ≤ 200) : VS_ (up_M M 45 4 v) := vs_up h e rfl
theorem gF_45_5 {M : ms_M} (h : VS_ M) : 0 ≤ M 45 5 ∧ M 45 5 ≤ 1 := vs_g h 5 (show 45 < 256 by decide) (.inl rfl)
theorem wF_45_5 {M : ms_M} (h : VS_ M) {v : Int} (e : 0 ≤ v ∧ v ≤ 1) : VS_ (up_M M 45 5 v) := vs_up h e rfl
theorem gF_45_7 {M : ms_M} (h : VS_ M) : 0 ≤ M 45 7 ∧ M 45 7 ≤ 1000000000 := vs_g h 7 (show 45 < 256 by decide) (.inl rfl)
theorem wF_45_7 {M : ms_M} (h : VS_ M) {v : Int} (e : 0 ≤ v ∧ v ≤ 1000000000) : VS_ (up_M M 45 7 v) := vs_up h e rfl
theorem gA_46 {M : ms_M} (h : VS_ M) (k : Nat) (hk : (k : Int) < 201) : 0 ≤ M 46 k ∧ M 46 k ≤ 4 := vs_g h k (show 46 < 256 by decide) (.inr (show k < 201 by omega))
theorem wA_46 {M : ms_M} (h : VS_ M) {k : Nat} {v : Int} (e : 0 ≤ v ∧ v ≤ 4) : VS_ (up_M M 46 k v) := vs_up h e rfl
theorem gA_47 {M : ms_M} (h : VS_ M) (k : Nat) (hk : (k : Int) < 201) : (-2147483648) ≤ M 47 k ∧ M 47 k ≤ 2147483647 := vs_g h k (show 47 < 256 by decide) (.inr (show k < 201 by omega))
theorem wA_47 {M : ms_M} (h : VS_ M) {k : Nat} {v : Int} (e : (-2147483648) ≤ v ∧ v ≤ 2147483647) : VS_ (up_M M 47 k v) := vs_up h e rfl
theorem gA_48 {M : ms_M} (h : VS_ M) (k : Nat) (hk : (k : Int) < 6000) : (-128) ≤ M 48 k ∧ M 48 k ≤ 127 := vs_g h k (show 48 < 256 by decide) (.inr (show k < 6000 by omega))
theorem wA_48 {M : ms_M} (h : VS_ M) {k : Nat} {v : Int} (e : (-128) ≤ v ∧ v ≤ 127) : VS_ (up_M M 48 k v) := vs_up h e rfl
theorem gF_49_10 {M : ms_M} (h : VS_ M) : 0 ≤ M 49 10 ∧ M 49 10 ≤ 420 := vs_g h 10 (show 49 < 256 by decide) (.inl rfl)
theorem wF_49_10 {M : ms_M} (h : VS_ M) {v : Int} (e : 0 ≤ v ∧ v ≤ 420) : VS_ (up_M M 49 10 v) := vs_up h e rfl
theorem gF_49_11 {M : ms_M} (h : VS_ M) : 0 ≤ M 49 11 ∧ M 49 11 ≤ 4 := vs_g h 11 (show 49 < 256 by decide) (.inl rfl)
theorem wF_49_11 {M : ms_M} (h : VS_ M) {v : Int} (e : 0 ≤ v ∧ v ≤ 4) : VS_ (up_M M 49 11 v) := vs_up h e rfl
theorem gF_49_12 {M : ms_M} (h : VS_ M) : (-1) ≤ M 49 12 ∧ M 49 12 ≤ 441 := vs_g h 12 (show 49 < 256 by decide) (.inl rfl)
theorem wF_49_12 {M : ms_M} (h : VS_ M) {v : Int} (e : (-1) ≤ v ∧ v ≤ 441) : VS_ (up_M M 49 12 v) := vs_up h e rfl
theorem gF_49_13 {M : ms_M} (h : VS_ M) : (-1) ≤ M 49 13 ∧ M 49 13 ≤ 441 := vs_g h 13 (show 49 < 256 by decide) (.inl rfl)
theorem wF_49_13 {M : ms_M} (h : VS_ M) {v : Int} (e : (-1) ≤ v ∧ v ≤ 441) : VS_ (up_M M 49 13 v) := vs_up h e rfl
theorem gF_49_14 {M : ms_M} (h : VS_ M) : (-1) ≤ M 49 14 ∧ M 49 14 ≤ 749 := vs_g h 14 (show 49 < 256 by decide) (.inl rfl)
theorem wF_49_14 {M : ms_M} (h : VS_ M) {v : Int} (e : (-1) ≤ v ∧ v ≤ 749) : VS_ (up_M M 49 14 v) := vs_up h e rfl
theorem gF_49_15 {M : ms_M} (h : VS_ M) : 0 ≤ M 49 15 ∧ M 49 15 ≤ 50000000 := vs_g h 15 (show 49 < 256 by decide) (.inl rfl)
theorem wF_49_15 {M : ms_M} (h : VS_ M) {v : Int} (e : 0 ≤ v ∧ v ≤ 50000000) : VS_ (up_M M 49 15 v) := vs_up h e rfl
theorem gF_49_16 {M : ms_M} (h : VS_ M) : 0 ≤ M 49 16 ∧ M 49 16 ≤ 15 := vs_g h 16 (show 49 < 256 by decide) (.inl rfl)
theorem wF_49_16 {M : ms_M} (h : VS_ M) {v : Int} (e : 0 ≤ v ∧ v ≤ 15) : VS_ (up_M M 49 16 v) := vs_up h e rfl
theorem gF_49_17 {M : ms_M} (h : VS_ M) : 0 ≤ M 49 17 ∧ M 49 17 ≤ 1 := vs_g h 17 (show 49 < 256 by decide) (.inl rfl)
theorem wF_49_17 {M : ms_M} (h : VS_ M) {v : Int} (e : 0 ≤ v ∧ v ≤ 1) : VS_ (up_M M 49 17 v) := vs_up h e rfl
theorem gF_49_18 {M : ms_M} (h : VS_ M) : (-1) ≤ M 49 18 ∧ M 49 18 ≤ 50000000 := vs_g h 18 (show 49 < 256 by decide) (.inl rfl)
theorem wF_49_18 {M : ms_M} (h : VS_ M) {v : Int} (e : (-1) ≤ v ∧ v ≤ 50000000) : VS_ (up_M M 49 18 v) := vs_up h e rfl
theorem gA_50 {M : ms_M} (h : VS_ M) (k : Nat) (hk : (k : Int) < 420) : 0 ≤ M 50 k ∧ M 50 k ≤ 1740 := vs_g h k (show 50 < 256 by decide) (.inr (show k < 420 by omega))
theorem wA_50 {M : ms_M} (h : VS_ M) {k : Nat} {v : Int} (e : 0 ≤ v ∧ v ≤ 1740) : VS_ (up_M M 50 k v) := vs_up h e rfl
theorem gA_51 {M : ms_M} (h : VS_ M) (k : Nat) (hk : (k : Int) < 420) : 0 ≤ M 51 k ∧ M 51 k ≤ 50000000 := vs_g h k (show 51 < 256 by decide) (.inr (show k < 420 by omega))
theorem wA_51 {M : ms_M} (h : VS_ M) {k : Nat} {v : Int} (e : 0 ≤ v ∧ v ≤ 50000000) : VS_ (up_M M 51 k v) := vs_up h e rfl
theorem gA_52 {M : ms_M} (h : VS_ M) (k : Nat) (hk : (k : Int) < 420) : 0 ≤ M 52 k ∧ M 52 k ≤ 50000000 := vs_g h k (show 52 < 256 by decide) (.inr (show k < 420 by omega))
theorem wA_52 {M : ms_M} (h : VS_ M) {k : Nat} {v : Int} (e : 0 ≤ v ∧ v ≤ 50000000) : VS_ (up_M M 52 k v) := vs_up h e rfl
theorem gA_53 {M : ms_M} (h : VS_ M) (k : Nat) (hk : (k : Int) < 420) : (-1) ≤ M 53 k ∧ M 53 k ≤ 441 := vs_g h k (show 53 < 256 by decide) (.inr (show k < 420 by omega))
theorem wA_53 {M : ms_M} (h : VS_ M) {k : Nat} {v : Int} (e : (-1) ≤ v ∧ v ≤ 441) : VS_ (up_M M 53 k v) := vs_up h e rfl
theorem gA_54 {M : ms_M} (h : VS_ M) (k : Nat) (hk : (k : Int) < 420) : (-1) ≤ M 54 k ∧ M 54 k ≤ 1600000000 := vs_g h k (show 54 < 256 by decide) (.inr (show k < 420 by omega))
theorem wA_54 {M : ms_M} (h : VS_ M) {k : Nat} {v : Int} (e : (-1) ≤ v ∧ v ≤ 1600000000) : VS_ (up_M M 54 k v) := vs_up h e rfl
theorem gF_56_3 {M : ms_M} (h : VS_ M) : 0 ≤ M 56 3 ∧ M 56 3 ≤ 8 := vs_g h 3 (show 56 < 256 by decide) (.inl rfl)
theorem wF_56_3 {M : ms_M} (h : VS_ M) {v : Int} (e : 0 ≤ v ∧ v ≤ 8) : VS_ (up_M M 56 3 v) := vs_up h e rfl
theorem gF_56_4 {M : ms_M} (h : VS_ M) : 0 ≤ M 56 4 ∧ M 56 4 ≤ 1 := vs_g h 4 (show 56 < 256 by decide) (.inl rfl)
theorem wF_56_4 {M : ms_M} (h : VS_ M) {v : Int} (e : 0 ≤ v ∧ v ≤ 1) : VS_ (up_M M 56 4 v) := vs_up h e rfl
theorem gA_58 {M : ms_M} (h : VS_ M) (k : Nat) (hk : (k : Int) < 16) : (-1) ≤ M 58 k ∧ M 58 k ≤ 341 := vs_g h k (show 58 < 256 by decide) (.inr (show k < 16 by omega))
theorem wA_58 {M : ms_M} (h : VS_ M) {k : Nat} {v : Int} (e : (-1) ≤ v ∧ v ≤ 341) : VS_ (up_M M 58 k v) := vs_up h e rfl
theorem gA_59 {M : ms_M} (h : VS_ M) (k : Nat) (hk : (k : Int) < 256) : 0 ≤ M 59 k ∧ M 59 k ≤ 1 := vs_g h k (show 59 < 256 by decide) (.inr (show k < 256 by omega))
theorem wA_59 {M : ms_M} (h : VS_ M) {k : Nat} {v : Int} (e : 0 ≤ v ∧ v ≤ 1) : VS_ (up_M M 59 k v) := vs_up h e rfl
theorem gA_62 {M : ms_M} (h : VS_ M) (k : Nat) (hk : (k : Int) < 0) : (-128) ≤ M 62 k ∧ M 62 k ≤ 127 := vs_g h k (show 62 < 256 by decide) (.inr (show k < 0 by omega))
theorem wA_62 {M : ms_M} (h : VS_ M) {k : Nat} {v : Int} (e : (-128) ≤ v ∧ v ≤ 127) : VS_ (up_M M 62 k v) := vs_up h e rfl
theorem gA_63 {M : ms_M} (h : VS_ M) (k : Nat) (hk : (k : Int) < 256) : 0 ≤ M 63 k ∧ M 63 k ≤ 255 := vs_g h k (show 63 < 256 by decide) (.inr (show k < 256 by omega))
theorem wA_63 {M : ms_M} (h : VS_ M) {k : Nat} {v : Int} (e : 0 ≤ v ∧ v ≤ 255) : VS_ (up_M M 63 k v) := vs_up h e rfl
theorem gA_64 {M : ms_M} (h : VS_ M) (k : Nat) (hk : (k : Int) < 256) : 0 ≤ M 64 k ∧ M 64 k ≤ 6000 := vs_g h k (show 64 < 256 by decide) (.inr (show k < 256 by omega))
theorem wA_64 {M : ms_M} (h : VS_ M) {k : Nat} {v : Int} (e : 0 ≤ v ∧ v ≤ 6000) : VS_ (up_M M 64 k v) := vs_up h e rfl
theorem gA_65 {M : ms_M} (h : VS_ M) (k : Nat) (hk : (k : Int) < 256) : 0 ≤ M 65 k ∧ M 65 k ≤ 6255 := vs_g h k (show 65 < 256 by decide) (.inr (show k < 256 by omega))
theorem wA_65 {M : ms_M} (h : VS_ M) {k : Nat} {v : Int} (e : 0 ≤ v ∧ v ≤ 6255) : VS_ (up_M M 65 k v) := vs_up h e rfl
theorem gA_66 {M : ms_M} (h : VS_ M) (k : Nat) (hk : (k : Int) < 24) : 0 ≤ M 66 k ∧ M 66 k ≤ 255 := vs_g h k (show 66 < 256 by decide) (.inr (show k < 24 by omega))
theorem wA_66 {M : ms_M} (h : VS_ M) {k : Nat} {v : Int} (e : 0 ≤ v ∧ v ≤ 255) : VS_ (up_M M 66 k v) := vs_up h e rfl
theorem gA_67 {M : ms_M} (h : VS_ M) (k : Nat) (hk : (k : Int) < 144) : (-1) ≤ M 67 k ∧ M 67 k ≤ 65535 := vs_g h k (show 67 < 256 by decide) (.inr (show k < 144 by omega))
theorem wA_67 {M : ms_M} (h : VS_ M) {k : Nat} {v : Int} (e : (-1) ≤ v ∧ v ≤ 65535) : VS_ (up_M M 67 k v) := vs_up h e rfl
theorem gA_68 {M : ms_M} (h : VS_ M) (k : Nat) (hk : (k : Int) < 2048) : (-2147483648) ≤ M 68 k ∧ M 68 k ≤ 2147483647 := vs_g h k (show 68 < 256 by decide) (.inr (show k < 2048 by omega))
theorem wA_68 {M : ms_M} (h : VS_ M) {k : Nat} {v : Int} (e : (-2147483648) ≤ v ∧ v ≤ 2147483647) : VS_ (up_M M 68 k v) := vs_up h e rfl
theorem gA_69 {M : ms_M} (h : VS_ M) (k : Nat) (hk : (k : Int) < 16) : 0 ≤ M 69 k ∧ M 69 k ≤ 192 := vs_g h k (show 69 < 256 by decide) (.inr (show k < 16 by omega))
theorem wA_69 {M : ms_M} (h : VS_ M) {k : Nat} {v : Int} (e : 0 ≤ v ∧ v ≤ 192) : VS_ (up_M M 69 k v) := vs_up h e rfl
theorem gA_70 {M : ms_M} (h : VS_ M) (k : Nat) (hk : (k : Int) < 768) : (-1) ≤ M 70 k ∧ M 70 k ≤ 95 := vs_g h k (show 70 < 256 by decide) (.inr (show k < 768 by omega))
theorem wA_70 {M : ms_M} (h : VS_ M) {k : Nat} {v : Int} (e : (-1) ≤ v ∧ v ≤ 95) : VS_ (up_M M 70 k v) := vs_up h e rfl
theorem gA_72 {M : ms_M} (h : VS_ M) (k : Nat) (hk : (k : Int) < 0) : (-128) ≤ M 72 k ∧ M 72 k ≤ 127 := vs_g h k (show 72 < 256 by decide) (.inr (show k < 0 by omega))
theorem wA_72 {M : ms_M} (h : VS_ M) {k : Nat} {v : Int} (e : (-128) ≤ v ∧ v ≤ 127) : VS_ (up_M M 72 k v) := vs_up h e rfl
theorem gA_73 {M : ms_M} (h : VS_ M) (k : Nat) (hk : (k : Int) < 256) : 0 ≤ M 73 k ∧ M 73 k ≤ 255 := vs_g h k (show 73 < 256 by decide) (.inr (show k < 256 by omega))
theorem wA_73 {M : ms_M} (h : VS_ M) {k : Nat} {v : Int} (e : 0 ≤ v ∧ v ≤ 255) : VS_ (up_M M 73 k v) := vs_up h e rfl
theorem gA_74 {M : ms_M} (h : VS_ M) (k : Nat) (hk : (k : Int) < 256) : 0 ≤ M 74 k ∧ M 74 k ≤ 6000 := vs_g h k (show 74 < 256 by decide) (.inr (show k < 256 by omega))
theorem wA_74 {M : ms_M} (h : VS_ M) {k : Nat} {v : Int} (e : 0 ≤ v ∧ v ≤ 6000) : VS_ (up_M M 74 k v) := vs_up h e rfl
theorem gA_75 {M : ms_M} (h : VS_ M) (k : Nat) (hk : (k : Int) < 256) : 0 ≤ M 75 k ∧ M 75 k ≤ 6255 := vs_g h k (show 75 < 256 by decide) (.inr (show k < 256 by omega))
theorem wA_75 {M : ms_M} (h : VS_ M) {k : Nat} {v : Int} (e : 0 ≤ v ∧ v ≤ 6255) : VS_ (up_M M 75 k v) := vs_up h e rfl
theorem gA_76 {M : ms_M} (h : VS_ M) (k : Nat) (hk : (k : Int) < 24) : 0 ≤ M 76 k ∧ M 76 k ≤ 255 := vs_g h k (show 76 < 256 by decide) (.inr (show k < 24 by omega))
theorem wA_76 {M : ms_M} (h : VS_ M) {k : Nat} {v : Int} (e : 0 ≤ v ∧ v ≤ 255) : VS_ (up_M M 76 k v) := vs_up h e rfl
theorem gA_77 {M : ms_M} (h : VS_ M) (k : Nat) (hk : (k : Int) < 144) : (-1) ≤ M 77 k ∧ M 77 k ≤ 65535 := vs_g h k (show 77 < 256 by decide) (.inr (show k < 144 by omega))
theorem wA_77 {M : ms_M} (h : VS_ M) {k : Nat} {v : Int} (e : (-1) ≤ v ∧ v ≤ 65535) : VS_ (up_M M 77 k v) := vs_up h e rfl
theorem gA_79 {M : ms_M} (h : VS_ M) (k : Nat) (hk : (k : Int) < 0) : (-128) ≤ M 79 k ∧ M 79 k ≤ 127 := vs_g h k (show 79 < 256 by decide) (.inr (show k < 0 by omega))
theorem wA_79 {M : ms_M} (h : VS_ M) {k : Nat} {v : Int} (e : (-128) ≤ v ∧ v ≤ 127) : VS_ (up_M M 79 k v) := vs_up h e rfl
theorem gA_80 {M : ms_M} (h : VS_ M) (k : Nat) (hk : (k : Int) < 256) : 0 ≤ M 80 k ∧ M 80 k ≤ 255 := vs_g h k (show 80 < 256 by decide) (.inr (show k < 256 by omega))
theorem wA_80 {M : ms_M} (h : VS_ M) {k : Nat} {v : Int} (e : 0 ≤ v ∧ v ≤ 255) : VS_ (up_M M 80 k v) := vs_up h e rfl
theorem gA_81 {M : ms_M} (h : VS_ M) (k : Nat) (hk : (k : Int) < 256) : 0 ≤ M 81 k ∧ M 81 k ≤ 6000 := vs_g h k (show 81 < 256 by decide) (.inr (show k < 256 by omega))
theorem wA_81 {M : ms_M} (h : VS_ M) {k : Nat} {v : Int} (e : 0 ≤ v ∧ v ≤ 6000) : VS_ (up_M M 81 k v) := vs_up h e rfl
theorem gA_82 {M : ms_M} (h : VS_ M) (k : Nat) (hk : (k : Int) < 256) : 0 ≤ M 82 k ∧ M 82 k ≤ 6255 := vs_g h k (show 82 < 256 by decide) (.inr (show k < 256 by omega))
theorem wA_82 {M : ms_M} (h : VS_ M) {k : Nat} {v : Int} (e : 0 ≤ v ∧ v ≤ 6255) : VS_ (up_M M 82 k v) := vs_up h e rfl
theorem gA_83 {M : ms_M} (h : VS_ M) (k : Nat) (hk : (k : Int) < 24) : 0 ≤ M 83 k ∧ M 83 k ≤ 255 := vs_g h k (show 83 < 256 by decide) (.inr (show k < 24 by omega))
theorem wA_83 {M : ms_M} (h : VS_ M) {k : Nat} {v : Int} (e : 0 ≤ v ∧ v ≤ 255) : VS_ (up_M M 83 k v) := vs_up h e rfl
theorem gA_84 {M : ms_M} (h : VS_ M) (k : Nat) (hk : (k : Int) < 144) : (-1) ≤ M 84 k ∧ M 84 k ≤ 65535 := vs_g h k (show 84 < 256 by decide) (.inr (show k < 144 by omega))
theorem wA_84 {M : ms_M} (h : VS_ M) {k : Nat} {v : Int} (e : (-1) ≤ v ∧ v ≤ 65535) : VS_ (up_M M 84 k v) := vs_up h e rfl
theorem gA_86 {M : ms_M} (h : VS_ M) (k : Nat) (hk : (k : Int) < 0) : (-128) ≤ M 86 k ∧ M 86 k ≤ 127 := vs_g h k (show 86 < 256 by decide) (.inr (show k < 0 by omega))
theorem wA_86 {M : ms_M} (h : VS_ M) {k : Nat} {v : Int} (e : (-128) ≤ v ∧ v ≤ 127) : VS_ (up_M M 86 k v) := vs_up h e rfl
theorem gA_87 {M : ms_M} (h : VS_ M) (k : Nat) (hk : (k : Int) < 256) : 0 ≤ M 87 k ∧ M 87 k ≤ 255 := vs_g h k (show 87 < 256 by decide) (.inr (show k < 256 by omega))
theorem wA_87 {M : ms_M} (h : VS_ M) {k : Nat} {v : Int} (e : 0 ≤ v ∧ v ≤ 255) : VS_ (up_M M 87 k v) := vs_up h e rfl
theorem gA_88 {M : ms_M} (h : VS_ M) (k : Nat) (hk : (k : Int) < 256) : 0 ≤ M 88 k ∧ M 88 k ≤ 6000 := vs_g h k (show 88 < 256 by decide) (.inr (show k < 256 by omega))
theorem wA_88 {M : ms_M} (h : VS_ M) {k : Nat} {v : Int} (e : 0 ≤ v ∧ v ≤ 6000) : VS_ (up_M M 88 k v) := vs_up h e rfl
theorem gA_89 {M : ms_M} (h : VS_ M) (k : Nat) (hk : (k : Int) < 256) : 0 ≤ M 89 k ∧ M 89 k ≤ 6255 := vs_g h k (show 89 < 256 by decide) (.inr (show k < 256 by omega))
theorem wA_89 {M : ms_M} (h : VS_ M) {k : Nat} {v : Int} (e : 0 ≤ v ∧ v ≤ 6255) : VS_ (up_M M 89 k v) := vs_up h e rfl
theorem gA_90 {M : ms_M} (h : VS_ M) (k : Nat) (hk : (k : Int) < 24) : 0 ≤ M 90 k ∧ M 90 k ≤ 255 := vs_g h k (show 90 < 256 by decide) (.inr (show k < 24 by omega))
theorem wA_90 {M : ms_M} (h : VS_ M) {k : Nat} {v : Int} (e : 0 ≤ v ∧ v ≤ 255) : VS_ (up_M M 90 k v) := vs_up h e rfl
theorem gA_91 {M : ms_M} (h : VS_ M) (k : Nat) (hk : (k : Int) < 144) : (-1) ≤ M 91 k ∧ M 91 k ≤ 65535 := vs_g h k (show 91 < 256 by decide) (.inr (show k < 144 by omega))
theorem wA_91 {M : ms_M} (h : VS_ M) {k : Nat} {v : Int} (e : (-1) ≤ v ∧ v ≤ 65535) : VS_ (up_M M 91 k v) := vs_up h e rfl
theorem gA_93 {M : ms_M} (h : VS_ M) (k : Nat) (hk : (k : Int) < 0) : (-128) ≤ M 93 k ∧ M 93 k ≤ 127 := vs_g h k (show 93 < 256 by decide) (.inr (show k < 0 by omega))
theorem wA_93 {M : ms_M} (h : VS_ M) {k : Nat} {v : Int} (e : (-128) ≤ v ∧ v ≤ 127) : VS_ (up_M M 93 k v) := vs_up h e rfl
theorem gA_94 {M : ms_M} (h : VS_ M) (k : Nat) (hk : (k : Int) < 256) : 0 ≤ M 94 k ∧ M 94 k ≤ 255 := vs_g h k (show 94 < 256 by decide) (.inr (show k < 256 by omega))
theorem wA_94 {M : ms_M} (h : VS_ M) {k : Nat} {v : Int} (e : 0 ≤ v ∧ v ≤ 255) : VS_ (up_M M 94 k v) := vs_up h e rfl
theorem gA_95 {M : ms_M} (h : VS_ M) (k : Nat) (hk : (k : Int) < 256) : 0 ≤ M 95 k ∧ M 95 k ≤ 6000 := vs_g h k (show 95 < 256 by decide) (.inr (show k < 256 by omega))
theorem wA_95 {M : ms_M} (h : VS_ M) {k : Nat} {v : Int} (e : 0 ≤ v ∧ v ≤ 6000) : VS_ (up_M M 95 k v) := vs_up h e rfl
theorem gA_96 {M : ms_M} (h : VS_ M) (k : Nat) (hk : (k : Int) < 256) : 0 ≤ M 96 k ∧ M 96 k ≤ 6255 := vs_g h k (show 96 < 256 by decide) (.inr (show k < 256 by omega))
theorem wA_96 {M : ms_M} (h : VS_ M) {k : Nat} {v : Int} (e : 0 ≤ v ∧ v ≤ 6255) : VS_ (up_M M 96 k v) := vs_up h e rfl
theorem gA_97 {M : ms_M} (h : VS_ M) (k : Nat) (hk : (k : Int) < 24) : 0 ≤ M 97 k ∧ M 97 k ≤ 255 := vs_g h k (show 97 < 256 by decide) (.inr (show k < 24 by omega))
theorem wA_97 {M : ms_M} (h : VS_ M) {k : Nat} {v : Int} (e : 0 ≤ v ∧ v ≤ 255) : VS_ (up_M M 97 k v) := vs_up h e rfl
theorem gA_98 {M : ms_M} (h : VS_ M) (k : Nat) (hk : (k : Int) < 144) : (-1) ≤ M 98 k ∧ M 98 k ≤ 65535 := vs_g h k (show 98 < 256 by decide) (.inr (show k < 144 by omega))
theorem wA_98 {M : ms_M} (h : VS_ M) {k : Nat} {v : Int} (e : (-1) ≤ v ∧ v ≤ 65535) : VS_ (up_M M 98 k v) := vs_up h e rfl
theorem gA_100 {M : ms_M} (h : VS_ M) (k : Nat) (hk : (k : Int) < 0) : (-128) ≤ M 100 k ∧ M 100 k ≤ 127 := vs_g h k (show 100 < 256 by decide) (.inr (show k < 0 by omega))
theorem wA_100 {M : ms_M} (h : VS_ M) {k : Nat} {v : Int} (e : (-128) ≤ v ∧ v ≤ 127) : VS_ (up_M M 100 k v) := vs_up h e rfl
theorem gA_101 {M : ms_M} (h : VS_ M) (k : Nat) (hk : (k : Int) < 256) : 0 ≤ M 101 k ∧ M 101 k ≤ 255 := vs_g h k (show 101 < 256 by decide) (.inr (show k < 256 by omega))
theorem wA_101 {M : ms_M} (h : VS_ M) {k : Nat} {v : Int} (e : 0 ≤ v ∧ v ≤ 255) : VS_ (up_M M 101 k v) := vs_up h e rfl
theorem gA_102 {M : ms_M} (h : VS_ M) (k : Nat) (hk : (k : Int) < 256) : 0 ≤ M 102 k ∧ M 102 k ≤ 6000 := vs_g h k (show 102 < 256 by decide) (.inr (show k < 256 by omega))
theorem wA_102 {M : ms_M} (h : VS_ M) {k : Nat} {v : Int} (e : 0 ≤ v ∧ v ≤ 6000) : VS_ (up_M M 102 k v) := vs_up h e rfl
theorem gA_103 {M : ms_M} (h : VS_ M) (k : Nat) (hk : (k : Int) < 256) : 0 ≤ M 103 k ∧ M 103 k ≤ 6255 := vs_g h k (show 103 < 256 by decide) (.inr (show k < 256 by omega))
theorem wA_103 {M : ms_M} (h : VS_ M) {k : Nat} {v : Int} (e : 0 ≤ v ∧ v ≤ 6255) : VS_ (up_M M 103 k v) := vs_up h e rfl
theorem gA_104 {M : ms_M} (h : VS_ M) (k : Nat) (hk : (k : Int) < 24) : 0 ≤ M 104 k ∧ M 104 k ≤ 255 := vs_g h k (show 104 < 256 by decide) (.inr (show k < 24 by omega))
theorem wA_104 {M : ms_M} (h : VS_ M) {k : Nat} {v : Int} (e : 0 ≤ v ∧ v ≤ 255) : VS_ (up_M M 104 k v) := vs_up h e rfl
theorem gA_105 {M : ms_M} (h : VS_ M) (k : Nat) (hk : (k : Int) < 144) : (-1) ≤ M 105 k ∧ M 105 k ≤ 65535 := vs_g h k (show 105 < 256 by decide) (.inr (show k < 144 by omega))
theorem wA_105 {M : ms_M} (h : VS_ M) {k : Nat} {v : Int} (e : (-1) ≤ v ∧ v ≤ 65535) : VS_ (up_M M 105 k v) := vs_up h e rfl
theorem gA_107 {M : ms_M} (h : VS_ M) (k : Nat) (hk : (k : Int) < 0) : (-128) ≤ M 107 k ∧ M 107 k ≤ 127 := vs_g h k (show 107 < 256 by decide) (.inr (show k < 0 by omega))
theorem wA_107 {M : ms_M} (h : VS_ M) {k : Nat} {v : Int} (e : (-128) ≤ v ∧ v ≤ 127) : VS_ (up_M M 107 k v) := vs_up h e rfl
theorem gA_108 {M : ms_M} (h : VS_ M) (k : Nat) (hk : (k : Int) < 256) : 0 ≤ M 108 k ∧ M 108 k ≤ 255 := vs_g h k (show 108 < 256 by decide) (.inr (show k < 256 by omega))
theorem wA_108 {M : ms_M} (h : VS_ M) {k : Nat} {v : Int} (e : 0 ≤ v ∧ v ≤ 255) : VS_ (up_M M 108 k v) := vs_up h e rfl
theorem gA_109 {M : ms_M} (h : VS_ M) (k : Nat) (hk : (k : Int) < 256) : 0 ≤ M 109 k ∧ M 109 k ≤ 6000 := vs_g h k (show 109 < 256 by decide) (.inr (show k < 256 by omega))
theorem wA_109 {M : ms_M} (h : VS_ M) {k : Nat} {v : Int} (e : 0 ≤ v ∧ v ≤ 6000) : VS_ (up_M M 109 k v) := vs_up h e rfl
theorem gA_110 {M : ms_M} (h : VS_ M) (k : Nat) (hk : (k : Int) < 256) : 0 ≤ M 110 k ∧ M 110 k ≤ 6255 := vs_g h k (show 110 < 256 by decide) (.inr (show k < 256 by omega))
theorem wA_110 {M : ms_M} (h : VS_ M) {k : Nat} {v : Int} (e : 0 ≤ v ∧ v ≤ 6255) : VS_ (up_M M 110 k v) := vs_up h e rfl
theorem gA_111 {M : ms_M} (h : VS_ M) (k : Nat) (hk : (k : Int) < 24) : 0 ≤ M 111 k ∧ M 111 k ≤ 255 := vs_g h k (show 111 < 256 by decide) (.inr (show k < 24 by omega))
theorem wA_111 {M : ms_M} (h : VS_ M) {k : Nat} {v : Int} (e : 0 ≤ v ∧ v ≤ 255) : VS_ (up_M M 111 k v) := vs_up h e rfl
theorem gA_112 {M : ms_M} (h : VS_ M) (k : Nat) (hk : (k : Int) < 144) : (-1) ≤ M 112 k ∧ M 112 k ≤ 65535 := vs_g h k (show 112 < 256 by decide) (.inr (show k < 144 by omega))
theorem wA_112 {M : ms_M} (h : VS_ M) {k : Nat} {v : Int} (e : (-1) ≤ v ∧ v ≤ 65535) : VS_ (up_M M 112 k v) := vs_up h e rfl
theorem gA_114 {M : ms_M} (h : VS_ M) (k : Nat) (hk : (k : Int) < 0) : (-128) ≤ M 114 k ∧ M 114 k ≤ 127 := vs_g h k (show 114 < 256 by decide) (.inr (show k < 0 by omega))
theorem wA_114 {M : ms_M} (h : VS_ M) {k : Nat} {v : Int} (e : (-128) ≤ v ∧ v ≤ 127) : VS_ (up_M M 114 k v) := vs_up h e rfl
theorem gA_115 {M : ms_M} (h : VS_ M) (k : Nat) (hk : (k : Int) < 256) : 0 ≤ M 115 k ∧ M 115 k ≤ 255 := vs_g h k (show 115 < 256 by decide) (.inr (show k < 256 by omega))
theorem wA_115 {M : ms_M} (h : VS_ M) {k : Nat} {v : Int} (e : 0 ≤ v ∧ v ≤ 255) : VS_ (up_M M 115 k v) := vs_up h e rfl
theorem gA_116 {M : ms_M} (h : VS_ M) (k : Nat) (hk : (k : Int) < 256) : 0 ≤ M 116 k ∧ M 116 k ≤ 6000 := vs_g h k (show 116 < 256 by decide) (.inr (show k < 256 by omega))
theorem wA_116 {M : ms_M} (h : VS_ M) {k : Nat} {v : Int} (e : 0 ≤ v ∧ v ≤ 6000) : VS_ (up_M M 116 k v) := vs_up h e rfl
theorem gA_117 {M : ms_M} (h : VS_ M) (k : Nat) (hk : (k : Int) < 256) : 0 ≤ M 117 k ∧ M 117 k ≤ 6255 := vs_g h k (show 117 < 256 by decide) (.inr (show k < 256 by omega))
theorem wA_117 {M : ms_M} (h : VS_ M) {k : Nat} {v : Int} (e : 0 ≤ v ∧ v ≤ 6255) : VS_ (up_M M 117 k v) := vs_up h e rfl
theorem gA_118 {M : ms_M} (h : VS_ M) (k : Nat) (hk : (k : Int) < 24) : 0 ≤ M 118 k ∧ M 118 k ≤ 255 := vs_g h k (show 118 < 256 by decide) (.inr (show k < 24 by omega))
theorem wA_118 {M : ms_M} (h : VS_ M) {k : Nat} {v : Int} (e : 0 ≤ v ∧ v ≤ 255) : VS_ (up_M M 118 k v) := vs_up h e rfl
theorem gA_119 {M : ms_M} (h : VS_ M) (k : Nat) (hk : (k : Int) < 144) : (-1) ≤ M 119 k ∧ M 119 k ≤ 65535 := vs_g h k (show 119 < 256 by decide) (.inr (show k < 144 by omega))
theorem wA_119 {M : ms_M} (h : VS_ M) {k : Nat} {v : Int} (e : (-1) ≤ v ∧ v ≤ 65535) : VS_ (up_M M 119 k v) := vs_up h e rfl
theorem gA_121 {M : ms_M} (h : VS_ M) (k : Nat) (hk : (k : Int) < 0) : (-128) ≤ M 121 k ∧ M 121 k ≤ 127 := vs_g h k (show 121 < 256 by decide) (.inr (show k < 0 by omega))
theorem wA_121 {M : ms_M} (h : VS_ M) {k : Nat} {v : Int} (e : (-128) ≤ v ∧ v ≤ 127) : VS_ (up_M M 121 k v) := vs_up h e rfl
theorem gA_122 {M : ms_M} (h : VS_ M) (k : Nat) (hk : (k : Int) < 256) : 0 ≤ M 122 k ∧ M 122 k ≤ 255 := vs_g h k (show 122 < 256 by decide) (.inr (show k < 256 by omega))
theorem wA_122 {M : ms_M} (h : VS_ M) {k : Nat} {v : Int} (e : 0 ≤ v ∧ v ≤ 255) : VS_ (up_M M 122 k v) := vs_up h e rfl
theorem gA_123 {M : ms_M} (h : VS_ M) (k : Nat) (hk : (k : Int) < 256) : 0 ≤ M 123 k ∧ M 123 k ≤ 6000 := vs_g h k (show 123 < 256 by decide) (.inr (show k < 256 by omega))
theorem wA_123 {M : ms_M} (h : VS_ M) {k : Nat} {v : Int} (e : 0 ≤ v ∧ v ≤ 6000) : VS_ (up_M M 123 k v) := vs_up h e rfl
theorem gA_124 {M : ms_M} (h : VS_ M) (k : Nat) (hk : (k : Int) < 256) : 0 ≤ M 124 k ∧ M 124 k ≤ 6255 := vs_g h k (show 124 < 256 by decide) (.inr (show k < 256 by omega))
theorem wA_124 {M : ms_M} (h : VS_ M) {k : Nat} {v : Int} (e : 0 ≤ v ∧ v ≤ 6255) : VS_ (up_M M 124 k v) := vs_up h e rfl
theorem gA_125 {M : ms_M} (h : VS_ M) (k : Nat) (hk : (k : Int) < 24) : 0 ≤ M 125 k ∧ M 125 k ≤ 255 := vs_g h k (show 125 < 256 by decide) (.inr (show k < 24 by omega))
theorem wA_125 {M : ms_M} (h : VS_ M) {k : Nat} {v : Int} (e : 0 ≤ v ∧ v ≤ 255) : VS_ (up_M M 125 k v) := vs_up h e rfl
theorem gA_126 {M : ms_M} (h : VS_ M) (k : Nat) (hk : (k : Int) < 144) : (-1) ≤ M 126 k ∧ M 126 k ≤ 65535 := vs_g h k (show 126 < 256 by decide) (.inr (show k < 144 by omega))
theorem wA_126 {M : ms_M} (h : VS_ M) {k : Nat} {v : Int} (e : (-1) ≤ v ∧ v ≤ 65535) : VS_ (up_M M 126 k v) := vs_up h e rfl
theorem gF_127_2 {M : ms_M} (h : VS_ M) : (-1) ≤ M 127 2 ∧ M 127 2 ≤ 15 := vs_g h 2 (show 127 < 256 by decide) (.inl rfl)
theorem wF_127_2 {M : ms_M} (h : VS_ M) {v : Int} (e : (-1) ≤ v ∧ v ≤ 15) : VS_ (up_M M 127 2 v) := vs_up h e rfl
theorem gF_127_3 {M : ms_M} (h : VS_ M) : (-1) ≤ M 127 3 ∧ M 127 3 ≤ 11 := vs_g h 3 (show 127 < 256 by decide) (.inl rfl)
theorem wF_127_3 {M : ms_M} (h : VS_ M) {v : Int} (e : (-1) ≤ v ∧ v ≤ 11) : VS_ (up_M M 127 3 v) := vs_up h e rfl
theorem gF_127_4 {M : ms_M} (h : VS_ M) : (-1) ≤ M 127 4 ∧ M 127 4 ≤ 65534 := vs_g h 4 (show 127 < 256 by decide) (.inl rfl)
theorem wF_127_4 {M : ms_M} (h : VS_ M) {v : Int} (e : (-1) ≤ v ∧ v ≤ 65534) : VS_ (up_M M 127 4 v) := vs_up h e rfl
theorem gF_127_6 {M : ms_M} (h : VS_ M) : 0 ≤ M 127 6 ∧ M 127 6 ≤ 12 := vs_g h 6 (show 127 < 256 by decide) (.inl rfl)
theorem wF_127_6 {M : ms_M} (h : VS_ M) {v : Int} (e : 0 ≤ v ∧ v ≤ 12) : VS_ (up_M M 127 6 v) := vs_up h e rfl
theorem gF_127_7 {M : ms_M} (h : VS_ M) : 0 ≤ M 127 7 ∧ M 127 7 ≤ 65534 := vs_g h 7 (show 127 < 256 by decide) (.inl rfl)
theorem wF_127_7 {M : ms_M} (h : VS_ M) {v : Int} (e : 0 ≤ v ∧ v ≤ 65534) : VS_ (up_M M 127 7 v) := vs_up h e rfl
theorem gF_127_16 {M : ms_M} (h : VS_ M) : 0 ≤ M 127 16 ∧ M 127 16 ≤ 1500 := vs_g h 16 (show 127 < 256 by decide) (.inl rfl)
theorem wF_127_16 {M : ms_M} (h : VS_ M) {v : Int} (e : 0 ≤ v ∧ v ≤ 1500) : VS_ (up_M M 127 16 v) := vs_up h e rfl
theorem gF_127_17 {M : ms_M} (h : VS_ M) : 0 ≤ M 127 17 ∧ M 127 17 ≤ 30 := vs_g h 17 (show 127 < 256 by decide) (.inl rfl)
theorem wF_127_17 {M : ms_M} (h : VS_ M) {v : Int} (e : 0 ≤ v ∧ v ≤ 30) : VS_ (up_M M 127 17 v) := vs_up h e rfl
theorem gF_127_18 {M : ms_M} (h : VS_ M) : 0 ≤ M 127 18 ∧ M 127 18 ≤ 30 := vs_g h 18 (show 127 < 256 by decide) (.inl rfl)
theorem wF_127_18 {M : ms_M} (h : VS_ M) {v : Int} (e : 0 ≤ v ∧ v ≤ 30) : VS_ (up_M M 127 18 v) := vs_up h e rfl
theorem gF_127_19 {M : ms_M} (h : VS_ M) : 0 ≤ M 127 19 ∧ M 127 19 ≤ 1 := vs_g h 19 (show 127 < 256 by decide) (.inl rfl)
theorem wF_127_19 {M : ms_M} (h : VS_ M) {v : Int} (e : 0 ≤ v ∧ v ≤ 1) : VS_ (up_M M 127 19 v) := vs_up h e rfl
theorem gF_127_20 {M : ms_M} (h : VS_ M) : (-1) ≤ M 127 20 ∧ M 127 20 ≤ 303 := vs_g h 20 (show 127 < 256 by decide) (.inl rfl)
theorem wF_127_20 {M : ms_M} (h : VS_ M) {v : Int} (e : (-1) ≤ v ∧ v ≤ 303) : VS_ (up_M M 127 20 v) := vs_up h e rfl
theorem gA_128 {M : ms_M} (h : VS_ M) (k : Nat) (hk : (k : Int) < 256) : (-1) ≤ M 128 k ∧ M 128 k ≤ 303 := vs_g h k (show 128 < 256 by decide) (.inr (show k < 256 by omega))
theorem wA_128 {M : ms_M} (h : VS_ M) {k : Nat} {v : Int} (e : (-1) ≤ v ∧ v ≤ 303) : VS_ (up_M M 128 k v) := vs_up h e rfl
theorem gA_129 {M : ms_M} (h : VS_ M) (k : Nat) (hk : (k : Int) < 256) : (-1) ≤ M 129 k ∧ M 129 k ≤ 95 := vs_g h k (show 129 < 256 by decide) (.inr (show k < 256 by omega))
theorem wA_129 {M : ms_M} (h : VS_ M) {k : Nat} {v : Int} (e : (-1) ≤ v ∧ v ≤ 95) : VS_ (up_M M 129 k v) := vs_up h e rfl
theorem gA_130 {M : ms_M} (h : VS_ M) (k : Nat) (hk : (k : Int) < 256) : 0 ≤ M 130 k ∧ M 130 k ≤ 6 := vs_g h k (show 130 < 256 by decide) (.inr (show k < 256 by omega))
theorem wA_130 {M : ms_M} (h : VS_ M) {k : Nat} {v : Int} (e : 0 ≤ v ∧ v ≤ 6) : VS_ (up_M M 130 k v) := vs_up h e rfl
theorem gA_131 {M : ms_M} (h : VS_ M) (k : Nat) (hk : (k : Int) < 1799) : (-1) ≤ M 131 k ∧ M 131 k ≤ 303 := vs_g h k (show 131 < 256 by decide) (.inr (show k < 1799 by omega))
theorem wA_131 {M : ms_M} (h : VS_ M) {k : Nat} {v : Int} (e : (-1) ≤ v ∧ v ≤ 303) : VS_ (up_M M 131 k v) := vs_up h e rfl
theorem gA_132 {M : ms_M} (h : VS_ M) (k : Nat) (hk : (k : Int) < 1500) : (-2) ≤ M 132 k ∧ M 132 k ≤ 99 := vs_g h k (show 132 < 256 by decide) (.inr (show k < 1500 by omega))
theorem wA_132 {M : ms_M} (h : VS_ M) {k : Nat} {v : Int} (e : (-2) ≤ v ∧ v ≤ 99) : VS_ (up_M M 132 k v) := vs_up h e rfl
theorem gA_133 {M : ms_M} (h : VS_ M) (k : Nat) (hk : (k : Int) < 6400) : (-1) ≤ M 133 k ∧ M 133 k ≤ 65535 := vs_g h k (show 133 < 256 by decide) (.inr (show k < 6400 by omega))
theorem wA_133 {M : ms_M} (h : VS_ M) {k : Nat} {v : Int} (e : (-1) ≤ v ∧ v ≤ 65535) : VS_ (up_M M 133 k v) := vs_up h e rfl
theorem gA_134 {M : ms_M} (h : VS_ M) (k : Nat) (hk : (k : Int) < 30) : (-2147483648) ≤ M 134 k ∧ M 134 k ≤ 2147483647 := vs_g h k (show 134 < 256 by decide) (.inr (show k < 30 by omega))
theorem wA_134 {M : ms_M} (h : VS_ M) {k : Nat} {v : Int} (e : (-2147483648) ≤ v ∧ v ≤ 2147483647) : VS_ (up_M M 134 k v) := vs_up h e rfl
theorem gA_135 {M : ms_M} (h : VS_ M) (k : Nat) (hk : (k : Int) < 30) : (-2147483648) ≤ M 135 k ∧ M 135 k ≤ 2147483647 := vs_g h k (show 135 < 256 by decide) (.inr (show k < 30 by omega))
theorem wA_135 {M : ms_M} (h : VS_ M) {k : Nat} {v : Int} (e : (-2147483648) ≤ v ∧ v ≤ 2147483647) : VS_ (up_M M 135 k v) := vs_up h e rfl
theorem gA_137 {M : ms_M} (h : VS_ M) (k : Nat) (hk : (k : Int) < 0) : (-128) ≤ M 137 k ∧ M 137 k ≤ 127 := vs_g h k (show 137 < 256 by decide) (.inr (show k < 0 by omega))
theorem wA_137 {M : ms_M} (h : VS_ M) {k : Nat} {v : Int} (e : (-128) ≤ v ∧ v ≤ 127) : VS_ (up_M M 137 k v) := vs_up h e rfl
theorem gA_138 {M : ms_M} (h : VS_ M) (k : Nat) (hk : (k : Int) < 256) : 0 ≤ M 138 k ∧ M 138 k ≤ 255 := vs_g h k (show 138 < 256 by decide) (.inr (show k < 256 by omega))
theorem wA_138 {M : ms_M} (h : VS_ M) {k : Nat} {v : Int} (e : 0 ≤ v ∧ v ≤ 255) : VS_ (up_M M 138 k v) := vs_up h e rfl
theorem gA_139 {M : ms_M} (h : VS_ M) (k : Nat) (hk : (k : Int) < 256) : 0 ≤ M 139 k ∧ M 139 k ≤ 6000 := vs_g h k (show 139 < 256 by decide) (.inr (show k < 256 by omega))
theorem wA_139 {M : ms_M} (h : VS_ M) {k : Nat} {v : Int} (e : 0 ≤ v ∧ v ≤ 6000) : VS_ (up_M M 139 k v) := vs_up h e rfl
theorem gA_140 {M : ms_M} (h : VS_ M) (k : Nat) (hk : (k : Int) < 256) : 0 ≤ M 140 k ∧ M 140 k ≤ 6255 := vs_g h k (show 140 < 256 by decide) (.inr (show k < 256 by omega))
theorem wA_140 {M : ms_M} (h : VS_ M) {k : Nat} {v : Int} (e : 0 ≤ v ∧ v ≤ 6255) : VS_ (up_M M 140 k v) := vs_up h e rfl
theorem gA_141 {M : ms_M} (h : VS_ M) (k : Nat) (hk : (k : Int) < 24) : 0 ≤ M 141 k ∧ M 141 k ≤ 255 := vs_g h k (show 141 < 256 by decide) (.inr (show k < 24 by omega))
theorem wA_141 {M : ms_M} (h : VS_ M) {k : Nat} {v : Int} (e : 0 ≤ v ∧ v ≤ 255) : VS_ (up_M M 141 k v) := vs_up h e rfl
theorem gA_142 {M : ms_M} (h : VS_ M) (k : Nat) (hk : (k : Int) < 144) : (-1) ≤ M 142 k ∧ M 142 k ≤ 65535 := vs_g h k (show 142 < 256 by decide) (.inr (show k < 144 by omega))
theorem wA_142 {M : ms_M} (h : VS_ M) {k : Nat} {v : Int} (e : (-1) ≤ v ∧ v ≤ 65535) : VS_ (up_M M 142 k v) := vs_up h e rfl
theorem gF_143_1 {M : ms_M} (h : VS_ M) : 0 ≤ M 143 1 ∧ M 143 1 ≤ 6 := vs_g h 1 (show 143 < 256 by decide) (.inl rfl)
theorem wF_143_1 {M : ms_M} (h : VS_ M) {v : Int} (e : 0 ≤ v ∧ v ≤ 6) : VS_ (up_M M 143 1 v) := vs_up h e rfl
theorem gF_143_2 {M : ms_M} (h : VS_ M) : (-2147483648) ≤ M 143 2 ∧ M 143 2 ≤ 2147483647 := vs_g h 2 (show 143 < 256 by decide) (.inl rfl)
theorem wF_143_2 {M : ms_M} (h : VS_ M) {v : Int} (e : (-2147483648) ≤ v ∧ v ≤ 2147483647) : VS_ (up_M M 143 2 v) := vs_up h e rfl
theorem gF_143_3 {M : ms_M} (h : VS_ M) : (-2147483648) ≤ M 143 3 ∧ M 143 3 ≤ 2147483647 := vs_g h 3 (show 143 < 256 by decide) (.inl rfl)
theorem wF_143_3 {M : ms_M} (h : VS_ M) {v : Int} (e : (-2147483648) ≤ v ∧ v ≤ 2147483647) : VS_ (up_M M 143 3 v) := vs_up h e rfl
theorem gF_143_4 {M : ms_M} (h : VS_ M) : 0 ≤ M 143 4 ∧ M 143 4 ≤ 2000 := vs_g h 4 (show 143 < 256 by decide) (.inl rfl)
theorem wF_143_4 {M : ms_M} (h : VS_ M) {v : Int} (e : 0 ≤ v ∧ v ≤ 2000) : VS_ (up_M M 143 4 v) := vs_up h e rfl
theorem gF_143_5 {M : ms_M} (h : VS_ M) : 0 ≤ M 143 5 ∧ M 143 5 ≤ 20000 := vs_g h 5 (show 143 < 256 by decide) (.inl rfl)
theorem wF_143_5 {M : ms_M} (h : VS_ M) {v : Int} (e : 0 ≤ v ∧ v ≤ 20000) : VS_ (up_M M 143 5 v) := vs_up h e rfl
theorem gF_143_6 {M : ms_M} (h : VS_ M) : 0 ≤ M 143 6 ∧ M 143 6 ≤ 60 := vs_g h 6 (show 143 < 256 by decide) (.inl rfl)
theorem wF_143_6 {M : ms_M} (h : VS_ M) {v : Int} (e : 0 ≤ v ∧ v ≤ 60) : VS_ (up_M M 143 6 v) := vs_up h e rfl
theorem gF_143_7 {M : ms_M} (h : VS_ M) : 0 ≤ M 143 7 ∧ M 143 7 ≤ 2000000000 := vs_g h 7 (show 143 < 256 by decide) (.inl rfl)
theorem wF_143_7 {M : ms_M} (h : VS_ M) {v : Int} (e : 0 ≤ v ∧ v ≤ 2000000000) : VS_ (up_M M 143 7 v) := vs_up h e rfl
theorem gF_143_17 {M : ms_M} (h : VS_ M) : 0 ≤ M 143 17 ∧ M 143 17 ≤ 59 := vs_g h 17 (show 143 < 256 by decide) (.inl rfl)
theorem wF_143_17 {M : ms_M} (h : VS_ M) {v : Int} (e : 0 ≤ v ∧ v ≤ 59) : VS_ (up_M M 143 17 v) := vs_up h e rfl
theorem gF_143_19 {M : ms_M} (h : VS_ M) : (-1) ≤ M 143 19 ∧ M 143 19 ≤ 65535 := vs_g h 19 (show 143 < 256 by decide) (.inl rfl)
theorem wF_143_19 {M : ms_M} (h : VS_ M) {v : Int} (e : (-1) ≤ v ∧ v ≤ 65535) : VS_ (up_M M 143 19 v) := vs_up h e rfl
theorem gF_143_20 {M : ms_M} (h : VS_ M) : (-2147483648) ≤ M 143 20 ∧ M 143 20 ≤ 2147483647 := vs_g h 20 (show 143 < 256 by decide) (.inl rfl)
theorem wF_143_20 {M : ms_M} (h : VS_ M) {v : Int} (e : (-2147483648) ≤ v ∧ v ≤ 2147483647) : VS_ (up_M M 143 20 v) := vs_up h e rfl
theorem gA_144 {M : ms_M} (h : VS_ M) (k : Nat) (hk : (k : Int) < 1000) : (-2147483648) ≤ M 144 k ∧ M 144 k ≤ 2147483647 := vs_g h k (show 144 < 256 by decide) (.inr (show k < 1000 by omega))
theorem wA_144 {M : ms_M} (h : VS_ M) {k : Nat} {v : Int} (e : (-2147483648) ≤ v ∧ v ≤ 2147483647) : VS_ (up_M M 144 k v) := vs_up h e rfl
theorem gA_145 {M : ms_M} (h : VS_ M) (k : Nat) (hk : (k : Int) < 2001) : (-2147483648) ≤ M 145 k ∧ M 145 k ≤ 2147483647 := vs_g h k (show 145 < 256 by decide) (.inr (show k < 2001 by omega))
theorem wA_145 {M : ms_M} (h : VS_ M) {k : Nat} {v : Int} (e : (-2147483648) ≤ v ∧ v ≤ 2147483647) : VS_ (up_M M 145 k v) := vs_up h e rfl
theorem gA_146 {M : ms_M} (h : VS_ M) (k : Nat) (hk : (k : Int) < 2002) : 0 ≤ M 146 k ∧ M 146 k ≤ 20000 := vs_g h k (show 146 < 256 by decide) (.inr (show k < 2002 by omega))
theorem wA_146 {M : ms_M} (h : VS_ M) {k : Nat} {v : Int} (e : 0 ≤ v ∧ v ≤ 20000) : VS_ (up_M M 146 k v) := vs_up h e rfl
theorem gA_147 {M : ms_M} (h : VS_ M) (k : Nat) (hk : (k : Int) < 20000) : (-2147483648) ≤ M 147 k ∧ M 147 k ≤ 2147483647 := vs_g h k (show 147 < 256 by decide) (.inr (show k < 20000 by omega))
theorem wA_147 {M : ms_M} (h : VS_ M) {k : Nat} {v : Int} (e : (-2147483648) ≤ v ∧ v ≤ 2147483647) : VS_ (up_M M 147 k v) := vs_up h e rfl
theorem gA_148 {M : ms_M} (h : VS_ M) (k : Nat) (hk : (k : Int) < 60) : (-1) ≤ M 148 k ∧ M 148 k ≤ 95 := vs_g h k (show 148 < 256 by decide) (.inr (show k < 60 by omega))
theorem wA_148 {M : ms_M} (h : VS_ M) {k : Nat} {v : Int} (e : (-1) ≤ v ∧ v ≤ 95) : VS_ (up_M M 148 k v) := vs_up h e rfl
theorem gA_149 {M : ms_M} (h : VS_ M) (k : Nat) (hk : (k : Int) < 60) : (-2147483648) ≤ M 149 k ∧ M 149 k ≤ 2147483647 := vs_g h k (show 149 < 256 by decide) (.inr (show k < 60 by omega))
theorem wA_149 {M : ms_M} (h : VS_ M) {k : Nat} {v : Int} (e : (-2147483648) ≤ v ∧ v ≤ 2147483647) : VS_ (up_M M 149 k v) := vs_up h e rfl
theorem gA_150 {M : ms_M} (h : VS_ M) (k : Nat) (hk : (k : Int) < 60) : 0 ≤ M 150 k ∧ M 150 k ≤ 30 := vs_g h k (show 150 < 256 by decide) (.inr (show k < 60 by omega))
theorem wA_150 {M : ms_M} (h : VS_ M) {k : Nat} {v : Int} (e : 0 ≤ v ∧ v ≤ 30) : VS_ (up_M M 150 k v) := vs_up h e rfl
theorem gA_151 {M : ms_M} (h : VS_ M) (k : Nat) (hk : (k : Int) < 1800) : (-2147483648) ≤ M 151 k ∧ M 151 k ≤ 2147483647 := vs_g h k (show 151 < 256 by decide) (.inr (show k < 1800 by omega))
theorem wA_151 {M : ms_M} (h : VS_ M) {k : Nat} {v : Int} (e : (-2147483648) ≤ v ∧ v ≤ 2147483647) : VS_ (up_M M 151 k v) := vs_up h e rfl
theorem gA_152 {M : ms_M} (h : VS_ M) (k : Nat) (hk : (k : Int) < 1800) : (-2147483648) ≤ M 152 k ∧ M 152 k ≤ 2147483647 := vs_g h k (show 152 < 256 by decide) (.inr (show k < 1800 by omega))
theorem wA_152 {M : ms_M} (h : VS_ M) {k : Nat} {v : Int} (e : (-2147483648) ≤ v ∧ v ≤ 2147483647) : VS_ (up_M M 152 k v) := vs_up h e rfl
theorem gA_154 {M : ms_M} (h : VS_ M) (k : Nat) (hk : (k : Int) < 0) : (-128) ≤ M 154 k ∧ M 154 k ≤ 127 := vs_g h k (show 154 < 256 by decide) (.inr (show k < 0 by omega))
theorem wA_154 {M : ms_M} (h : VS_ M) {k : Nat} {v : Int} (e : (-128) ≤ v ∧ v ≤ 127) : VS_ (up_M M 154 k v) := vs_up h e rfl
theorem gA_155 {M : ms_M} (h : VS_ M) (k : Nat) (hk : (k : Int) < 256) : 0 ≤ M 155 k ∧ M 155 k ≤ 255 := vs_g h k (show 155 < 256 by decide) (.inr (show k < 256 by omega))
theorem wA_155 {M : ms_M} (h : VS_ M) {k : Nat} {v : Int} (e : 0 ≤ v ∧ v ≤ 255) : VS_ (up_M M 155 k v) := vs_up h e rfl
theorem gA_156 {M : ms_M} (h : VS_ M) (k : Nat) (hk : (k : Int) < 256) : 0 ≤ M 156 k ∧ M 156 k ≤ 6000 := vs_g h k (show 156 < 256 by decide) (.inr (show k < 256 by omega))
theorem wA_156 {M : ms_M} (h : VS_ M) {k : Nat} {v : Int} (e : 0 ≤ v ∧ v ≤ 6000) : VS_ (up_M M 156 k v) := vs_up h e rfl
theorem gA_157 {M : ms_M} (h : VS_ M) (k : Nat) (hk : (k : Int) < 256) : 0 ≤ M 157 k ∧ M 157 k ≤ 6255 := vs_g h k (show 157 < 256 by decide) (.inr (show k < 256 by omega))
theorem wA_157 {M : ms_M} (h : VS_ M) {k : Nat} {v : Int} (e : 0 ≤ v ∧ v ≤ 6255) : VS_ (up_M M 157 k v) := vs_up h e rfl
theorem gA_158 {M : ms_M} (h : VS_ M) (k : Nat) (hk : (k : Int) < 24) : 0 ≤ M 158 k ∧ M 158 k ≤ 255 := vs_g h k (show 158 < 256 by decide) (.inr (show k < 24 by omega))
theorem wA_158 {M : ms_M} (h : VS_ M) {k : Nat} {v : Int} (e : 0 ≤ v ∧ v ≤ 255) : VS_ (up_M M 158 k v) := vs_up h e rfl
theorem gA_159 {M : ms_M} (h : VS_ M) (k : Nat) (hk : (k : Int) < 144) : (-1) ≤ M 159 k ∧ M 159 k ≤ 65535 := vs_g h k (show 159 < 256 by decide) (.inr (show k < 144 by omega))
theorem wA_159 {M : ms_M} (h : VS_ M) {k : Nat} {v : Int} (e : (-1) ≤ v ∧ v ≤ 65535) : VS_ (up_M M 159 k v) := vs_up h e rfl
theorem gF_160_1 {M : ms_M} (h : VS_ M) : 0 ≤ M 160 1 ∧ M 160 1 ≤ 6000 := vs_g h 1 (show 160 < 256 by decide) (.inl rfl)
theorem wF_160_1 {M : ms_M} (h : VS_ M) {v : Int} (e : 0 ≤ v ∧ v ≤ 6000) : VS_ (up_M M 160 1 v) := vs_up h e rfl
theorem gF_160_3 {M : ms_M} (h : VS_ M) : 0 ≤ M 160 3 ∧ M 160 3 ≤ 3000 := vs_g h 3 (show 160 < 256 by decide) (.inl rfl)
theorem wF_160_3 {M : ms_M} (h : VS_ M) {v : Int} (e : 0 ≤ v ∧ v ≤ 3000) : VS_ (up_M M 160 3 v) := vs_up h e rfl
theorem gF_160_8 {M : ms_M} (h : VS_ M) : 0 ≤ M 160 8 ∧ M 160 8 ≤ 3001 := vs_g h 8 (show 160 < 256 by decide) (.inl rfl)
theorem wF_160_8 {M : ms_M} (h : VS_ M) {v : Int} (e : 0 ≤ v ∧ v ≤ 3001) : VS_ (up_M M 160 8 v) := vs_up h e rfl
theorem gF_160_9 {M : ms_M} (h : VS_ M) : 0 ≤ M 160 9 ∧ M 160 9 ≤ 11 := vs_g h 9 (show 160 < 256 by decide) (.inl rfl)
theorem wF_160_9 {M : ms_M} (h : VS_ M) {v : Int} (e : 0 ≤ v ∧ v ≤ 11) : VS_ (up_M M 160 9 v) := vs_up h e rfl
theorem gF_160_10 {M : ms_M} (h : VS_ M) : (-1) ≤ M 160 10 ∧ M 160 10 ≤ 3000 := vs_g h 10 (show 160 < 256 by decide) (.inl rfl)
theorem wF_160_10 {M : ms_M} (h : VS_ M) {v : Int} (e : (-1) ≤ v ∧ v ≤ 3000) : VS_ (up_M M 160 10 v) := vs_up h e rfl
theorem gF_160_22 {M : ms_M} (h : VS_ M) : 0 ≤ M 160 22 ∧ M 160 22 ≤ 9000 := vs_g h 22 (show 160 < 256 by decide) (.inl rfl)
theorem wF_160_22 {M : ms_M} (h : VS_ M) {v : Int} (e : 0 ≤ v ∧ v ≤ 9000) : VS_ (up_M M 160 22 v) := vs_up h e rfl
theorem gF_160_23 {M : ms_M} (h : VS_ M) : 0 ≤ M 160 23 ∧ M 160 23 ≤ 3000 := vs_g h 23 (show 160 < 256 by decide) (.inl rfl)
theorem wF_160_23 {M : ms_M} (h : VS_ M) {v : Int} (e : 0 ≤ v ∧ v ≤ 3000) : VS_ (up_M M 160 23 v) := vs_up h e rfl
theorem gF_160_24 {M : ms_M} (h : VS_ M) : 0 ≤ M 160 24 ∧ M 160 24 ≤ 400 := vs_g h 24 (show 160 < 256 by decide) (.inl rfl)
theorem wF_160_24 {M : ms_M} (h : VS_ M) {v : Int} (e : 0 ≤ v ∧ v ≤ 400) : VS_ (up_M M 160 24 v) := vs_up h e rfl
theorem gF_160_28 {M : ms_M} (h : VS_ M) : 0 ≤ M 160 28 ∧ M 160 28 ≤ 800 := vs_g h 28 (show 160 < 256 by decide) (.inl rfl)
theorem wF_160_28 {M : ms_M} (h : VS_ M) {v : Int} (e : 0 ≤ v ∧ v ≤ 800) : VS_ (up_M M 160 28 v) := vs_up h e rfl
theorem gF_160_39 {M : ms_M} (h : VS_ M) : 0 ≤ M 160 39 ∧ M 160 39 ≤ 1500 := vs_g h 39 (show 160 < 256 by decide) (.inl rfl)
theorem wF_160_39 {M : ms_M} (h : VS_ M) {v : Int} (e : 0 ≤ v ∧ v ≤ 1500) : VS_ (up_M M 160 39 v) := vs_up h e rfl
theorem gF_160_45 {M : ms_M} (h : VS_ M) : 0 ≤ M 160 45 ∧ M 160 45 ≤ 3 := vs_g h 45 (show 160 < 256 by decide) (.inl rfl)
theorem wF_160_45 {M : ms_M} (h : VS_ M) {v : Int} (e : 0 ≤ v ∧ v ≤ 3) : VS_ (up_M M 160 45 v) := vs_up h e rfl
theorem gF_160_46 {M : ms_M} (h : VS_ M) : 0 ≤ M 160 46 ∧ M 160 46 ≤ 3000 := vs_g h 46 (show 160 < 256 by decide) (.inl rfl)
theorem wF_160_46 {M : ms_M} (h : VS_ M) {v : Int} (e : 0 ≤ v ∧ v ≤ 3000) : VS_ (up_M M 160 46 v) := vs_up h e rfl
theorem gF_160_47 {M : ms_M} (h : VS_ M) : 0 ≤ M 160 47 ∧ M 160 47 ≤ 1 := vs_g h 47 (show 160 < 256 by decide) (.inl rfl)
theorem wF_160_47 {M : ms_M} (h : VS_ M) {v : Int} (e : 0 ≤ v ∧ v ≤ 1) : VS_ (up_M M 160 47 v) := vs_up h e rfl
theorem gF_160_50 {M : ms_M} (h : VS_ M) : 0 ≤ M 160 50 ∧ M 160 50 ≤ 3000 := vs_g h 50 (show 160 < 256 by decide) (.inl rfl)
theorem wF_160_50 {M : ms_M} (h : VS_ M) {v : Int} (e : 0 ≤ v ∧ v ≤ 3000) : VS_ (up_M M 160 50 v) := vs_up h e rfl
theorem gF_160_51 {M : ms_M} (h : VS_ M) : 0 ≤ M 160 51 ∧ M 160 51 ≤ 799 := vs_g h 51 (show 160 < 256 by decide) (.inl rfl)
theorem wF_160_51 {M : ms_M} (h : VS_ M) {v : Int} (e : 0 ≤ v ∧ v ≤ 799) : VS_ (up_M M 160 51 v) := vs_up h e rfl
theorem gF_160_52 {M : ms_M} (h : VS_ M) : 0 ≤ M 160 52 ∧ M 160 52 ≤ 407 := vs_g h 52 (show 160 < 256 by decide) (.inl rfl)
theorem wF_160_52 {M : ms_M} (h : VS_ M) {v : Int} (e : 0 ≤ v ∧ v ≤ 407) : VS_ (up_M M 160 52 v) := vs_up h e rfl
theorem gF_160_53 {M : ms_M} (h : VS_ M) : 0 ≤ M 160 53 ∧ M 160 53 ≤ 1 := vs_g h 53 (show 160 < 256 by decide) (.inl rfl)
theorem wF_160_53 {M : ms_M} (h : VS_ M) {v : Int} (e : 0 ≤ v ∧ v ≤ 1) : VS_ (up_M M 160 53 v) := vs_up h e rfl
theorem gF_160_54 {M : ms_M} (h : VS_ M) : 0 ≤ M 160 54 ∧ M 160 54 ≤ 2999 := vs_g h 54 (show 160 < 256 by decide) (.inl rfl)
theorem wF_160_54 {M : ms_M} (h : VS_ M) {v : Int} (e : 0 ≤ v ∧ v ≤ 2999) : VS_ (up_M M 160 54 v) := vs_up h e rfl
theorem gF_160_57 {M : ms_M} (h : VS_ M) : 0 ≤ M 160 57 ∧ M 160 57 ≤ 9000 := vs_g h 57 (show 160 < 256 by decide) (.inl rfl)
theorem wF_160_57 {M : ms_M} (h : VS_ M) {v : Int} (e : 0 ≤ v ∧ v ≤ 9000) : VS_ (up_M M 160 57 v) := vs_up h e rfl
theorem gF_160_62 {M : ms_M} (h : VS_ M) : 0 ≤ M 160 62 ∧ M 160 62 ≤ 1999 := vs_g h 62 (show 160 < 256 by decide) (.inl rfl)
theorem wF_160_62 {M : ms_M} (h : VS_ M) {v : Int} (e : 0 ≤ v ∧ v ≤ 1999) : VS_ (up_M M 160 62 v) := vs_up h e rfl
theorem gF_160_64 {M : ms_M} (h : VS_ M) : 0 ≤ M 160 64 ∧ M 160 64 ≤ 40000 := vs_g h 64 (show 160 < 256 by decide) (.inl rfl)
theorem wF_160_64 {M : ms_M} (h : VS_ M) {v : Int} (e : 0 ≤ v ∧ v ≤ 40000) : VS_ (up_M M 160 64 v) := vs_up h e rfl
theorem gF_160_66 {M : ms_M} (h : VS_ M) : 0 ≤ M 160 66 ∧ M 160 66 ≤ 200 := vs_g h 66 (show 160 < 256 by decide) (.inl rfl)
theorem wF_160_66 {M : ms_M} (h : VS_ M) {v : Int} (e : 0 ≤ v ∧ v ≤ 200) : VS_ (up_M M 160 66 v) := vs_up h e rfl
theorem gF_160_68 {M : ms_M} (h : VS_ M) : 0 ≤ M 160 68 ∧ M 160 68 ≤ 1000000000 := vs_g h 68 (show 160 < 256 by decide) (.inl rfl)
theorem wF_160_68 {M : ms_M} (h : VS_ M) {v : Int} (e : 0 ≤ v ∧ v ≤ 1000000000) : VS_ (up_M M 160 68 v) := vs_up h e rfl
theorem gF_160_70 {M : ms_M} (h : VS_ M) : 0 ≤ M 160 70 ∧ M 160 70 ≤ 3000 := vs_g h 70 (show 160 < 256 by decide) (.inl rfl)
theorem wF_160_70 {M : ms_M} (h : VS_ M) {v : Int} (e : 0 ≤ v ∧ v ≤ 3000) : VS_ (up_M M 160 70 v) := vs_up h e rfl
theorem gF_160_71 {M : ms_M} (h : VS_ M) : 0 ≤ M 160 71 ∧ M 160 71 ≤ 3000 := vs_g h 71 (show 160 < 256 by decide) (.inl rfl)
theorem wF_160_71 {M : ms_M} (h : VS_ M) {v : Int} (e : 0 ≤ v ∧ v ≤ 3000) : VS_ (up_M M 160 71 v) := vs_up h e rfl
theorem gF_160_72 {M : ms_M} (h : VS_ M) : 0 ≤ M 160 72 ∧ M 160 72 ≤ 3000 := vs_g h 72 (show 160 < 256 by decide) (.inl rfl)
theorem wF_160_72 {M : ms_M} (h : VS_ M) {v : Int} (e : 0 ≤ v ∧ v ≤ 3000) : VS_ (up_M M 160 72 v) := vs_up h e rfl
theorem gF_160_78 {M : ms_M} (h : VS_ M) : 0 ≤ M 160 78 ∧ M 160 78 ≤ 6200 := vs_g h 78 (show 160 < 256 by decide) (.inl rfl)
theorem wF_160_78 {M : ms_M} (h : VS_ M) {v : Int} (e : 0 ≤ v ∧ v ≤ 6200) : VS_ (up_M M 160 78 v) := vs_up h e rfl
theorem gF_160_79 {M : ms_M} (h : VS_ M) : 0 ≤ M 160 79 ∧ M 160 79 ≤ 60000 := vs_g h 79 (show 160 < 256 by decide) (.inl rfl)
theorem wF_160_79 {M : ms_M} (h : VS_ M) {v : Int} (e : 0 ≤ v ∧ v ≤ 60000) : VS_ (up_M M 160 79 v) := vs_up h e rfl
theorem gF_160_84 {M : ms_M} (h : VS_ M) : 0 ≤ M 160 84 ∧ M 160 84 ≤ 1000 := vs_g h 84 (show 160 < 256 by decide) (.inl rfl)
theorem wF_160_84 {M : ms_M} (h : VS_ M) {v : Int} (e : 0 ≤ v ∧ v ≤ 1000) : VS_ (up_M M 160 84 v) := vs_up h e rfl
theorem gF_160_87 {M : ms_M} (h : VS_ M) : 0 ≤ M 160 87 ∧ M 160 87 ≤ 3000 := vs_g h 87 (show 160 < 256 by decide) (.inl rfl)
theorem wF_160_87 {M : ms_M} (h : VS_ M) {v : Int} (e : 0 ≤ v ∧ v ≤ 3000) : VS_ (up_M M 160 87 v) := vs_up h e rfl
theorem gF_160_88 {M : ms_M} (h : VS_ M) : 0 ≤ M 160 88 ∧ M 160 88 ≤ 2147483647 := vs_g h 88 (show 160 < 256 by decide) (.inl rfl)
theorem wF_160_88 {M : ms_M} (h : VS_ M) {v : Int} (e : 0 ≤ v ∧ v ≤ 2147483647) : VS_ (up_M M 160 88 v) := vs_up h e rfl
theorem gF_160_93 {M : ms_M} (h : VS_ M) : 0 ≤ M 160 93 ∧ M 160 93 ≤ 8 := vs_g h 93 (show 160 < 256 by decide) (.inl rfl)
theorem wF_160_93 {M : ms_M} (h : VS_ M) {v : Int} (e : 0 ≤ v ∧ v ≤ 8) : VS_ (up_M M 160 93 v) := vs_up h e rfl
theorem gF_160_97 {M : ms_M} (h : VS_ M) : 0 ≤ M 160 97 ∧ M 160 97 ≤ 1000000000 := vs_g h 97 (show 160 < 256 by decide) (.inl rfl)
theorem wF_160_97 {M : ms_M} (h : VS_ M) {v : Int} (e : 0 ≤ v ∧ v ≤ 1000000000) : VS_ (up_M M 160 97 v) := vs_up h e rfl
theorem gF_160_98 {M : ms_M} (h : VS_ M) : 0 ≤ M 160 98 ∧ M 160 98 ≤ 8 := vs_g h 98 (show 160 < 256 by decide) (.inl rfl)
theorem wF_160_98 {M : ms_M} (h : VS_ M) {v : Int} (e : 0 ≤ v ∧ v ≤ 8) : VS_ (up_M M 160 98 v) := vs_up h e rfl
theorem gF_160_99 {M : ms_M} (h : VS_ M) : 0 ≤ M 160 99 ∧ M 160 99 ≤ 1 := vs_g h 99 (show 160 < 256 by decide) (.inl rfl)
theorem wF_160_99 {M : ms_M} (h : VS_ M) {v : Int} (e : 0 ≤ v ∧ v ≤ 1) : VS_ (up_M M 160 99 v) := vs_up h e rfl
theorem gF_160_113 {M : ms_M} (h : VS_ M) : 0 ≤ M 160 113 ∧ M 160 113 ≤ 6000 := vs_g h 113 (show 160 < 256 by decide) (.inl rfl)
theorem wF_160_113 {M : ms_M} (h : VS_ M) {v : Int} (e : 0 ≤ v ∧ v ≤ 6000) : VS_ (up_M M 160 113 v) := vs_up h e rfl
theorem gF_160_114 {M : ms_M} (h : VS_ M) : (-1) ≤ M 160 114 ∧ M 160 114 ≤ 6010 := vs_g h 114 (show 160 < 256 by decide) (.inl rfl)
theorem wF_160_114 {M : ms_M} (h : VS_ M) {v : Int} (e : (-1) ≤ v ∧ v ≤ 6010) : VS_ (up_M M 160 114 v) := vs_up h e rfl
theorem gF_160_115 {M : ms_M} (h : VS_ M) : 0 ≤ M 160 115 ∧ M 160 115 ≤ 7 := vs_g h 115 (show 160 < 256 by decide) (.inl rfl)
theorem wF_160_115 {M : ms_M} (h : VS_ M) {v : Int} (e : 0 ≤ v ∧ v ≤ 7) : VS_ (up_M M 160 115 v) := vs_up h e rfl
theorem gF_160_117 {M : ms_M} (h : VS_ M) : 0 ≤ M 160 117 ∧ M 160 117 ≤ 2101 := vs_g h 117 (show 160 < 256 by decide) (.inl rfl)
theorem wF_160_117 {M : ms_M} (h : VS_ M) {v : Int} (e : 0 ≤ v ∧ v ≤ 2101) : VS_ (up_M M 160 117 v) := vs_up h e rfl
theorem gF_160_120 {M : ms_M} (h : VS_ M) : 0 ≤ M 160 120 ∧ M 160 120 ≤ 48000 := vs_g h 120 (show 160 < 256 by decide) (.inl rfl)
theorem wF_160_120 {M : ms_M} (h : VS_ M) {v : Int} (e : 0 ≤ v ∧ v ≤ 48000) : VS_ (up_M M 160 120 v) := vs_up h e rfl
theorem gF_160_121 {M : ms_M} (h : VS_ M) : 0 ≤ M 160 121 ∧ M 160 121 ≤ 11 := vs_g h 121 (show 160 < 256 by decide) (.inl rfl)
theorem wF_160_121 {M : ms_M} (h : VS_ M) {v : Int} (e : 0 ≤ v ∧ v ≤ 11) : VS_ (up_M M 160 121 v) := vs_up h e rfl
theorem gF_160_122 {M : ms_M} (h : VS_ M) : 0 ≤ M 160 122 ∧ M 160 122 ≤ 12 := vs_g h 122 (show 160 < 256 by decide) (.inl rfl)
theorem wF_160_122 {M : ms_M} (h : VS_ M) {v : Int} (e : 0 ≤ v ∧ v ≤ 12) : VS_ (up_M M 160 122 v) := vs_up h e rfl
theorem gF_160_123 {M : ms_M} (h : VS_ M) : (-1) ≤ M 160 123 ∧ M 160 123 ≤ 15 := vs_g h 123 (show 160 < 256 by decide) (.inl rfl)
theorem wF_160_123 {M : ms_M} (h : VS_ M) {v : Int} (e : (-1) ≤ v ∧ v ≤ 15) : VS_ (up_M M 160 123 v) := vs_up h e rfl
theorem gF_160_124 {M : ms_M} (h : VS_ M) : (-1) ≤ M 160 124 ∧ M 160 124 ≤ 254 := vs_g h 124 (show 160 < 256 by decide) (.inl rfl)
theorem wF_160_124 {M : ms_M} (h : VS_ M) {v : Int} (e : (-1) ≤ v ∧ v ≤ 254) : VS_ (up_M M 160 124 v) := vs_up h e rfl
theorem gF_160_125 {M : ms_M} (h : VS_ M) : (-2147483648) ≤ M 160 125 ∧ M 160 125 ≤ 65535 := vs_g h 125 (show 160 < 256 by decide) (.inl rfl)
theorem wF_160_125 {M : ms_M} (h : VS_ M) {v : Int} (e : (-2147483648) ≤ v ∧ v ≤ 65535) : VS_ (up_M M 160 125 v) := vs_up h e rfl
theorem gF_160_129 {M : ms_M} (h : VS_ M) : 0 ≤ M 160 129 ∧ M 160 129 ≤ 255 := vs_g h 129 (show 160 < 256 by decide) (.inl rfl)
theorem wF_160_129 {M : ms_M} (h : VS_ M) {v : Int} (e : 0 ≤ v ∧ v ≤ 255) : VS_ (up_M M 160 129 v) := vs_up h e rfl
theorem gF_160_130 {M : ms_M} (h : VS_ M) : 0 ≤ M 160 130 ∧ M 160 130 ≤ 255 := vs_g h 130 (show 160 < 256 by decide) (.inl rfl)
theorem wF_160_130 {M : ms_M} (h : VS_ M) {v : Int} (e : 0 ≤ v ∧ v ≤ 255) : VS_ (up_M M 160 130 v) := vs_up h e rfl
theorem gF_160_131 {M : ms_M} (h : VS_ M) : 0 ≤ M 160 131 ∧ M 160 131 ≤ 30 := vs_g h 131 (show 160 < 256 by decide) (.inl rfl)
theorem wF_160_131 {M : ms_M} (h : VS_ M) {v : Int} (e : 0 ≤ v ∧ v ≤ 30) : VS_ (up_M M 160 131 v) := vs_up h e rfl
theorem gF_160_132 {M : ms_M} (h : VS_ M) : 0 ≤ M 160 132 ∧ M 160 132 ≤ 7 := vs_g h 132 (show 160 < 256 by decide) (.inl rfl)
theorem wF_160_132 {M : ms_M} (h : VS_ M) {v : Int} (e : 0 ≤ v ∧ v ≤ 7) : VS_ (up_M M 160 132 v) := vs_up h e rfl
theorem gF_160_133 {M : ms_M} (h : VS_ M) : 0 ≤ M 160 133 ∧ M 160 133 ≤ 11 := vs_g h 133 (show 160 < 256 by decide) (.inl rfl)
theorem wF_160_133 {M : ms_M} (h : VS_ M) {v : Int} (e : 0 ≤ v ∧ v ≤ 11) : VS_ (up_M M 160 133 v) := vs_up h e rfl
theorem gF_160_134 {M : ms_M} (h : VS_ M) : 0 ≤ M 160 134 ∧ M 160 134 ≤ 6020 := vs_g h 134 (show 160 < 256 by decide) (.inl rfl)
theorem wF_160_134 {M : ms_M} (h : VS_ M) {v : Int} (e : 0 ≤ v ∧ v ≤ 6020) : VS_ (up_M M 160 134 v) := vs_up h e rfl
theorem gF_160_135 {M : ms_M} (h : VS_ M) : 0 ≤ M 160 135 ∧ M 160 135 ≤ 65535 := vs_g h 135 (show 160 < 256 by decide) (.inl rfl)
theorem wF_160_135 {M : ms_M} (h : VS_ M) {v : Int} (e : 0 ≤ v ∧ v ≤ 65535) : VS_ (up_M M 160 135 v) := vs_up h e rfl
theorem gF_160_136 {M : ms_M} (h : VS_ M) : 0 ≤ M 160 136 ∧ M 160 136 ≤ 48000 := vs_g h 136 (show 160 < 256 by decide) (.inl rfl)
theorem wF_160_136 {M : ms_M} (h : VS_ M) {v : Int} (e : 0 ≤ v ∧ v ≤ 48000) : VS_ (up_M M 160 136 v) := vs_up h e rfl
theorem gF_160_138 {M : ms_M} (h : VS_ M) : 0 ≤ M 160 138 ∧ M 160 138 ≤ 5 := vs_g h 138 (show 160 < 256 by decide) (.inl rfl)
theorem wF_160_138 {M : ms_M} (h : VS_ M) {v : Int} (e : 0 ≤ v ∧ v ≤ 5) : VS_ (up_M M 160 138 v) := vs_up h e rfl
theorem gF_160_139 {M : ms_M} (h : VS_ M) : (-2147483648) ≤ M 160 139 ∧ M 160 139 ≤ 2147483647 := vs_g h 139 (show 160 < 256 by decide) (.inl rfl)
theorem wF_160_139 {M : ms_M} (h : VS_ M) {v : Int} (e : (-2147483648) ≤ v ∧ v ≤ 2147483647) : VS_ (up_M M 160 139 v) := vs_up h e rfl
theorem gF_160_140 {M : ms_M} (h : VS_ M) : (-2147483648) ≤ M 160 140 ∧ M 160 140 ≤ 2147483647 := vs_g h 140 (show 160 < 256 by decide) (.inl rfl)
theorem wF_160_140 {M : ms_M} (h : VS_ M) {v : Int} (e : (-2147483648) ≤ v ∧ v ≤ 2147483647) : VS_ (up_M M 160 140 v) := vs_up h e rfl
theorem gF_160_141 {M : ms_M} (h : VS_ M) : 0 ≤ M 160 141 ∧ M 160 141 ≤ 2000 := vs_g h 141 (show 160 < 256 by decide) (.inl rfl)
theorem wF_160_141 {M : ms_M} (h : VS_ M) {v : Int} (e : 0 ≤ v ∧ v ≤ 2000) : VS_ (up_M M 160 141 v) := vs_up h e rfl
theorem gF_160_142 {M : ms_M} (h : VS_ M) : 0 ≤ M 160 142 ∧ M 160 142 ≤ 20000 := vs_g h 142 (show 160 < 256 by decide) (.inl rfl)
theorem wF_160_142 {M : ms_M} (h : VS_ M) {v : Int} (e : 0 ≤ v ∧ v ≤ 20000) : VS_ (up_M M 160 142 v) := vs_up h e rfl
theorem gF_160_143 {M : ms_M} (h : VS_ M) : (-2147483648) ≤ M 160 143 ∧ M 160 143 ≤ 2147483647 := vs_g h 143 (show 160 < 256 by decide) (.inl rfl)
theorem wF_160_143 {M : ms_M} (h : VS_ M) {v : Int} (e : (-2147483648) ≤ v ∧ v ≤ 2147483647) : VS_ (up_M M 160 143 v) := vs_up h e rfl
theorem gF_160_149 {M : ms_M} (h : VS_ M) : 0 ≤ M 160 149 ∧ M 160 149 ≤ 60 := vs_g h 149 (show 160 < 256 by decide) (.inl rfl)
theorem wF_160_149 {M : ms_M} (h : VS_ M) {v : Int} (e : 0 ≤ v ∧ v ≤ 60) : VS_ (up_M M 160 149 v) := vs_up h e rfl
theorem gA_161 {M : ms_M} (h : VS_ M) (k : Nat) (hk : (k : Int) < 6000) : 0 ≤ M 161 k ∧ M 161 k ≤ 255 := vs_g h k (show 161 < 256 by decide) (.inr (show k < 6000 by omega))
theorem wA_161 {M : ms_M} (h : VS_ M) {k : Nat} {v : Int} (e : 0 ≤ v ∧ v ≤ 255) : VS_ (up_M M 161 k v) := vs_up h e rfl
theorem gA_162 {M : ms_M} (h : VS_ M) (k : Nat) (hk : (k : Int) < 3000) : 0 ≤ M 162 k ∧ M 162 k ≤ 255 := vs_g h k (show 162 < 256 by decide) (.inr (show k < 3000 by omega))
theorem wA_162 {M : ms_M} (h : VS_ M) {k : Nat} {v : Int} (e : 0 ≤ v ∧ v ≤ 255) : VS_ (up_M M 162 k v) := vs_up h e rfl
theorem gA_163 {M : ms_M} (h : VS_ M) (k : Nat) (hk : (k : Int) < 3008) : 0 ≤ M 163 k ∧ M 163 k ≤ 6 := vs_g h k (show 163 < 256 by decide) (.inr (show k < 3008 by omega))
theorem wA_163 {M : ms_M} (h : VS_ M) {k : Nat} {v : Int} (e : 0 ≤ v ∧ v ≤ 6) : VS_ (up_M M 163 k v) := vs_up h e rfl
theorem gA_164 {M : ms_M} (h : VS_ M) (k : Nat) (hk : (k : Int) < 3002) : 0 ≤ M 164 k ∧ M 164 k ≤ 3000 := vs_g h k (show 164 < 256 by decide) (.inr (show k < 3002 by omega))
theorem wA_164 {M : ms_M} (h : VS_ M) {k : Nat} {v : Int} (e : 0 ≤ v ∧ v ≤ 3000) : VS_ (up_M M 164 k v) := vs_up h e rfl
theorem gA_165 {M : ms_M} (h : VS_ M) (k : Nat) (hk : (k : Int) < 3002) : 0 ≤ M 165 k ∧ M 165 k ≤ 3000 := vs_g h k (show 165 < 256 by decide) (.inr (show k < 3002 by omega))
theorem wA_165 {M : ms_M} (h : VS_ M) {k : Nat} {v : Int} (e : 0 ≤ v ∧ v ≤ 3000) : VS_ (up_M M 165 k v) := vs_up h e rfl
theorem gA_166 {M : ms_M} (h : VS_ M) (k : Nat) (hk : (k : Int) < 3002) : (-2147483648) ≤ M 166 k ∧ M 166 k ≤ 2147483647 := vs_g h k (show 166 < 256 by decide) (.inr (show k < 3002 by omega))
theorem wA_166 {M : ms_M} (h : VS_ M) {k : Nat} {v : Int} (e : (-2147483648) ≤ v ∧ v ≤ 2147483647) : VS_ (up_M M 166 k v) := vs_up h e rfl
theorem gA_167 {M : ms_M} (h : VS_ M) (k : Nat) (hk : (k : Int) < 9000) : 0 ≤ M 167 k ∧ M 167 k ≤ 39 := vs_g h k (show 167 < 256 by decide) (.inr (show k < 9000 by omega))
theorem wA_167 {M : ms_M} (h : VS_ M) {k : Nat} {v : Int} (e : 0 ≤ v ∧ v ≤ 39) : VS_ (up_M M 167 k v) := vs_up h e rfl
theorem gA_168 {M : ms_M} (h : VS_ M) (k : Nat) (hk : (k : Int) < 9000) : 0 ≤ M 168 k ∧ M 168 k ≤ 3000 := vs_g h k (show 168 < 256 by decide) (.inr (show k < 9000 by omega))
theorem wA_168 {M : ms_M} (h : VS_ M) {k : Nat} {v : Int} (e : 0 ≤ v ∧ v ≤ 3000) : VS_ (up_M M 168 k v) := vs_up h e rfl
theorem gA_169 {M : ms_M} (h : VS_ M) (k : Nat) (hk : (k : Int) < 9000) : 0 ≤ M 169 k ∧ M 169 k ≤ 3000 := vs_g h k (show 169 < 256 by decide) (.inr (show k < 9000 by omega))
theorem wA_169 {M : ms_M} (h : VS_ M) {k : Nat} {v : Int} (e : 0 ≤ v ∧ v ≤ 3000) : VS_ (up_M M 169 k v) := vs_up h e rfl
theorem gA_170 {M : ms_M} (h : VS_ M) (k : Nat) (hk : (k : Int) < 9000) : (-1) ≤ M 170 k ∧ M 170 k ≤ 8999 := vs_g h k (show 170 < 256 by decide) (.inr (show k < 9000 by omega))
theorem wA_170 {M : ms_M} (h : VS_ M) {k : Nat} {v : Int} (e : (-1) ≤ v ∧ v ≤ 8999) : VS_ (up_M M 170 k v) := vs_up h e rfl
theorem gA_171 {M : ms_M} (h : VS_ M) (k : Nat) (hk : (k : Int) < 9000) : (-1) ≤ M 171 k ∧ M 171 k ≤ 8999 := vs_g h k (show 171 < 256 by decide) (.inr (show k < 9000 by omega))
theorem wA_171 {M : ms_M} (h : VS_ M) {k : Nat} {v : Int} (e : (-1) ≤ v ∧ v ≤ 8999) : VS_ (up_M M 171 k v) := vs_up h e rfl
theorem gA_172 {M : ms_M} (h : VS_ M) (k : Nat) (hk : (k : Int) < 9000) : (-1) ≤ M 172 k ∧ M 172 k ≤ 12010 := vs_g h k (show 172 < 256 by decide) (.inr (show k < 9000 by omega))
theorem wA_172 {M : ms_M} (h : VS_ M) {k : Nat} {v : Int} (e : (-1) ≤ v ∧ v ≤ 12010) : VS_ (up_M M 172 k v) := vs_up h e rfl
theorem gA_173 {M : ms_M} (h : VS_ M) (k : Nat) (hk : (k : Int) < 9000) : (-1) ≤ M 173 k ∧ M 173 k ≤ 8999 := vs_g h k (show 173 < 256 by decide) (.inr (show k < 9000 by omega))
theorem wA_173 {M : ms_M} (h : VS_ M) {k : Nat} {v : Int} (e : (-1) ≤ v ∧ v ≤ 8999) : VS_ (up_M M 173 k v) := vs_up h e rfl
theorem gA_174 {M : ms_M} (h : VS_ M) (k : Nat) (hk : (k : Int) < 9000) : (-1) ≤ M 174 k ∧ M 174 k ≤ 900 := vs_g h k (show 174 < 256 by decide) (.inr (show k < 9000 by omega))
theorem wA_174 {M : ms_M} (h : VS_ M) {k : Nat} {v : Int} (e : (-1) ≤ v ∧ v ≤ 900) : VS_ (up_M M 174 k v) := vs_up h e rfl
theorem gA_175 {M : ms_M} (h : VS_ M) (k : Nat) (hk : (k : Int) < 9000) : (-1) ≤ M 175 k ∧ M 175 k ≤ 799 := vs_g h k (show 175 < 256 by decide) (.inr (show k < 9000 by omega))
theorem wA_175 {M : ms_M} (h : VS_ M) {k : Nat} {v : Int} (e : (-1) ≤ v ∧ v ≤ 799) : VS_ (up_M M 175 k v) := vs_up h e rfl
theorem gA_176 {M : ms_M} (h : VS_ M) (k : Nat) (hk : (k : Int) < 9000) : (-1) ≤ M 176 k ∧ M 176 k ≤ 3001 := vs_g h k (show 176 < 256 by decide) (.inr (show k < 9000 by omega))
theorem wA_176 {M : ms_M} (h : VS_ M) {k : Nat} {v : Int} (e : (-1) ≤ v ∧ v ≤ 3001) : VS_ (up_M M 176 k v) := vs_up h e rfl
theorem gA_177 {M : ms_M} (h : VS_ M) (k : Nat) (hk : (k : Int) < 9000) : 0 ≤ M 177 k ∧ M 177 k ≤ 1 := vs_g h k (show 177 < 256 by decide) (.inr (show k < 9000 by omega))
theorem wA_177 {M : ms_M} (h : VS_ M) {k : Nat} {v : Int} (e : 0 ≤ v ∧ v ≤ 1) : VS_ (up_M M 177 k v) := vs_up h e rfl
theorem gA_178 {M : ms_M} (h : VS_ M) (k : Nat) (hk : (k : Int) < 400) : 0 ≤ M 178 k ∧ M 178 k ≤ 3000 := vs_g h k (show 178 < 256 by decide) (.inr (show k < 400 by omega))
theorem wA_178 {M : ms_M} (h : VS_ M) {k : Nat} {v : Int} (e : 0 ≤ v ∧ v ≤ 3000) : VS_ (up_M M 178 k v) := vs_up h e rfl
theorem gA_179 {M : ms_M} (h : VS_ M) (k : Nat) (hk : (k : Int) < 400) : (-1) ≤ M 179 k ∧ M 179 k ≤ 3000 := vs_g h k (show 179 < 256 by decide) (.inr (show k < 400 by omega))
theorem wA_179 {M : ms_M} (h : VS_ M) {k : Nat} {v : Int} (e : (-1) ≤ v ∧ v ≤ 3000) : VS_ (up_M M 179 k v) := vs_up h e rfl
theorem gA_180 {M : ms_M} (h : VS_ M) (k : Nat) (hk : (k : Int) < 400) : (-1) ≤ M 180 k ∧ M 180 k ≤ 407 := vs_g h k (show 180 < 256 by decide) (.inr (show k < 400 by omega))
theorem wA_180 {M : ms_M} (h : VS_ M) {k : Nat} {v : Int} (e : (-1) ≤ v ∧ v ≤ 407) : VS_ (up_M M 180 k v) := vs_up h e rfl
theorem gA_181 {M : ms_M} (h : VS_ M) (k : Nat) (hk : (k : Int) < 800) : 0 ≤ M 181 k ∧ M 181 k ≤ 399 := vs_g h k (show 181 < 256 by decide) (.inr (show k < 800 by omega))
theorem wA_181 {M : ms_M} (h : VS_ M) {k : Nat} {v : Int} (e : 0 ≤ v ∧ v ≤ 399) : VS_ (up_M M 181 k v) := vs_up h e rfl
theorem gA_182 {M : ms_M} (h : VS_ M) (k : Nat) (hk : (k : Int) < 800) : 0 ≤ M 182 k ∧ M 182 k ≤ 2 := vs_g h k (show 182 < 256 by decide) (.inr (show k < 800 by omega))
theorem wA_182 {M : ms_M} (h : VS_ M) {k : Nat} {v : Int} (e : 0 ≤ v ∧ v ≤ 2) : VS_ (up_M M 182 k v) := vs_up h e rfl
theorem gA_183 {M : ms_M} (h : VS_ M) (k : Nat) (hk : (k : Int) < 800) : 0 ≤ M 183 k ∧ M 183 k ≤ 3 := vs_g h k (show 183 < 256 by decide) (.inr (show k < 800 by omega))
theorem wA_183 {M : ms_M} (h : VS_ M) {k : Nat} {v : Int} (e : 0 ≤ v ∧ v ≤ 3) : VS_ (up_M M 183 k v) := vs_up h e rfl
theorem gA_184 {M : ms_M} (h : VS_ M) (k : Nat) (hk : (k : Int) < 800) : 0 ≤ M 184 k ∧ M 184 k ≤ 3000 := vs_g h k (show 184 < 256 by decide) (.inr (show k < 800 by omega))
theorem wA_184 {M : ms_M} (h : VS_ M) {k : Nat} {v : Int} (e : 0 ≤ v ∧ v ≤ 3000) : VS_ (up_M M 184 k v) := vs_up h e rfl
theorem gA_185 {M : ms_M} (h : VS_ M) (k : Nat) (hk : (k : Int) < 800) : 0 ≤ M 185 k ∧ M 185 k ≤ 1 := vs_g h k (show 185 < 256 by decide) (.inr (show k < 800 by omega))
theorem wA_185 {M : ms_M} (h : VS_ M) {k : Nat} {v : Int} (e : 0 ≤ v ∧ v ≤ 1) : VS_ (up_M M 185 k v) := vs_up h e rfl
theorem gA_186 {M : ms_M} (h : VS_ M) (k : Nat) (hk : (k : Int) < 800) : 0 ≤ M 186 k ∧ M 186 k ≤ 3000 := vs_g h k (show 186 < 256 by decide) (.inr (show k < 800 by omega))
theorem wA_186 {M : ms_M} (h : VS_ M) {k : Nat} {v : Int} (e : 0 ≤ v ∧ v ≤ 3000) : VS_ (up_M M 186 k v) := vs_up h e rfl
theorem gA_187 {M : ms_M} (h : VS_ M) (k : Nat) (hk : (k : Int) < 800) : 0 ≤ M 187 k ∧ M 187 k ≤ 900 := vs_g h k (show 187 < 256 by decide) (.inr (show k < 800 by omega))
theorem wA_187 {M : ms_M} (h : VS_ M) {k : Nat} {v : Int} (e : 0 ≤ v ∧ v ≤ 900) : VS_ (up_M M 187 k v) := vs_up h e rfl
theorem gA_188 {M : ms_M} (h : VS_ M) (k : Nat) (hk : (k : Int) < 800) : 0 ≤ M 188 k ∧ M 188 k ≤ 1500 := vs_g h k (show 188 < 256 by decide) (.inr (show k < 800 by omega))
theorem wA_188 {M : ms_M} (h : VS_ M) {k : Nat} {v : Int} (e : 0 ≤ v ∧ v ≤ 1500) : VS_ (up_M M 188 k v) := vs_up h e rfl
theorem gA_189 {M : ms_M} (h : VS_ M) (k : Nat) (hk : (k : Int) < 800) : 0 ≤ M 189 k ∧ M 189 k ≤ 1500 := vs_g h k (show 189 < 256 by decide) (.inr (show k < 800 by omega))
theorem wA_189 {M : ms_M} (h : VS_ M) {k : Nat} {v : Int} (e : 0 ≤ v ∧ v ≤ 1500) : VS_ (up_M M 189 k v) := vs_up h e rfl
theorem gA_190 {M : ms_M} (h : VS_ M) (k : Nat) (hk : (k : Int) < 800) : (-1) ≤ M 190 k ∧ M 190 k ≤ 8999 := vs_g h k (show 190 < 256 by decide) (.inr (show k < 800 by omega))
theorem wA_190 {M : ms_M} (h : VS_ M) {k : Nat} {v : Int} (e : (-1) ≤ v ∧ v ≤ 8999) : VS_ (up_M M 190 k v) := vs_up h e rfl
theorem gA_191 {M : ms_M} (h : VS_ M) (k : Nat) (hk : (k : Int) < 1500) : 0 ≤ M 191 k ∧ M 191 k ≤ 3 := vs_g h k (show 191 < 256 by decide) (.inr (show k < 1500 by omega))
theorem wA_191 {M : ms_M} (h : VS_ M) {k : Nat} {v : Int} (e : 0 ≤ v ∧ v ≤ 3) : VS_ (up_M M 191 k v) := vs_up h e rfl
theorem gA_192 {M : ms_M} (h : VS_ M) (k : Nat) (hk : (k : Int) < 1500) : 0 ≤ M 192 k ∧ M 192 k ≤ 3000 := vs_g h k (show 192 < 256 by decide) (.inr (show k < 1500 by omega))
theorem wA_192 {M : ms_M} (h : VS_ M) {k : Nat} {v : Int} (e : 0 ≤ v ∧ v ≤ 3000) : VS_ (up_M M 192 k v) := vs_up h e rfl
theorem gA_193 {M : ms_M} (h : VS_ M) (k : Nat) (hk : (k : Int) < 1500) : 0 ≤ M 193 k ∧ M 193 k ≤ 1 := vs_g h k (show 193 < 256 by decide) (.inr (show k < 1500 by omega))
theorem wA_193 {M : ms_M} (h : VS_ M) {k : Nat} {v : Int} (e : 0 ≤ v ∧ v ≤ 1) : VS_ (up_M M 193 k v) := vs_up h e rfl
theorem gA_194 {M : ms_M} (h : VS_ M) (k : Nat) (hk : (k : Int) < 1500) : 0 ≤ M 194 k ∧ M 194 k ≤ 3000 := vs_g h k (show 194 < 256 by decide) (.inr (show k < 1500 by omega))
theorem wA_194 {M : ms_M} (h : VS_ M) {k : Nat} {v : Int} (e : 0 ≤ v ∧ v ≤ 3000) : VS_ (up_M M 194 k v) := vs_up h e rfl
theorem gA_195 {M : ms_M} (h : VS_ M) (k : Nat) (hk : (k : Int) < 1500) : 0 ≤ M 195 k ∧ M 195 k ≤ 900 := vs_g h k (show 195 < 256 by decide) (.inr (show k < 1500 by omega))
theorem wA_195 {M : ms_M} (h : VS_ M) {k : Nat} {v : Int} (e : 0 ≤ v ∧ v ≤ 900) : VS_ (up_M M 195 k v) := vs_up h e rfl
theorem gA_196 {M : ms_M} (h : VS_ M) (k : Nat) (hk : (k : Int) < 3000) : 0 ≤ M 196 k ∧ M 196 k ≤ 3000 := vs_g h k (show 196 < 256 by decide) (.inr (show k < 3000 by omega))
theorem wA_196 {M : ms_M} (h : VS_ M) {k : Nat} {v : Int} (e : 0 ≤ v ∧ v ≤ 3000) : VS_ (up_M M 196 k v) := vs_up h e rfl
theorem gA_197 {M : ms_M} (h : VS_ M) (k : Nat) (hk : (k : Int) < 3000) : (-1) ≤ M 197 k ∧ M 197 k ≤ 900 := vs_g h k (show 197 < 256 by decide) (.inr (show k < 3000 by omega))
theorem wA_197 {M : ms_M} (h : VS_ M) {k : Nat} {v : Int} (e : (-1) ≤ v ∧ v ≤ 900) : VS_ (up_M M 197 k v) := vs_up h e rfl
theorem gA_198 {M : ms_M} (h : VS_ M) (k : Nat) (hk : (k : Int) < 3000) : 0 ≤ M 198 k ∧ M 198 k ≤ 1 := vs_g h k (show 198 < 256 by decide) (.inr (show k < 3000 by omega))
theorem wA_198 {M : ms_M} (h : VS_ M) {k : Nat} {v : Int} (e : 0 ≤ v ∧ v ≤ 1) : VS_ (up_M M 198 k v) := vs_up h e rfl
theorem gA_199 {M : ms_M} (h : VS_ M) (k : Nat) (hk : (k : Int) < 9000) : 0 ≤ M 199 k ∧ M 199 k ≤ 8999 := vs_g h k (show 199 < 256 by decide) (.inr (show k < 9000 by omega))
theorem wA_199 {M : ms_M} (h : VS_ M) {k : Nat} {v : Int} (e : 0 ≤ v ∧ v ≤ 8999) : VS_ (up_M M 199 k v) := vs_up h e rfl
theorem gA_200 {M : ms_M} (h : VS_ M) (k : Nat) (hk : (k : Int) < 2000) : 0 ≤ M 200 k ∧ M 200 k ≤ 4 := vs_g h k (show 200 < 256 by decide) (.inr (show k < 2000 by omega))
theorem wA_200 {M : ms_M} (h : VS_ M) {k : Nat} {v : Int} (e : 0 ≤ v ∧ v ≤ 4) : VS_ (up_M M 200 k v) := vs_up h e rfl
theorem gA_201 {M : ms_M} (h : VS_ M) (k : Nat) (hk : (k : Int) < 2000) : 0 ≤ M 201 k ∧ M 201 k ≤ 2147483647 := vs_g h k (show 201 < 256 by decide) (.inr (show k < 2000 by omega))
theorem wA_201 {M : ms_M} (h : VS_ M) {k : Nat} {v : Int} (e : 0 ≤ v ∧ v ≤ 2147483647) : VS_ (up_M M 201 k v) := vs_up h e rfl
theorem gA_202 {M : ms_M} (h : VS_ M) (k : Nat) (hk : (k : Int) < 2000) : 0 ≤ M 202 k ∧ M 202 k ≤ 2000 := vs_g h k (show 202 < 256 by decide) (.inr (show k < 2000 by omega))
theorem wA_202 {M : ms_M} (h : VS_ M) {k : Nat} {v : Int} (e : 0 ≤ v ∧ v ≤ 2000) : VS_ (up_M M 202 k v) := vs_up h e rfl
theorem gA_203 {M : ms_M} (h : VS_ M) (k : Nat) (hk : (k : Int) < 2000) : 0 ≤ M 203 k ∧ M 203 k ≤ 2000 := vs_g h k (show 203 < 256 by decide) (.inr (show k < 2000 by omega))
theorem wA_203 {M : ms_M} (h : VS_ M) {k : Nat} {v : Int} (e : 0 ≤ v ∧ v ≤ 2000) : VS_ (up_M M 203 k v) := vs_up h e rfl
theorem gA_204 {M : ms_M} (h : VS_ M) (k : Nat) (hk : (k : Int) < 40000) : 0 ≤ M 204 k ∧ M 204 k ≤ 255 := vs_g h k (show 204 < 256 by decide) (.inr (show k < 40000 by omega))
theorem wA_204 {M : ms_M} (h : VS_ M) {k : Nat} {v : Int} (e : 0 ≤ v ∧ v ≤ 255) : VS_ (up_M M 204 k v) := vs_up h e rfl
theorem gA_205 {M : ms_M} (h : VS_ M) (k : Nat) (hk : (k : Int) < 200) : 0 ≤ M 205 k ∧ M 205 k ≤ 255 := vs_g h k (show 205 < 256 by decide) (.inr (show k < 200 by omega))
theorem wA_205 {M : ms_M} (h : VS_ M) {k : Nat} {v : Int} (e : 0 ≤ v ∧ v ≤ 255) : VS_ (up_M M 205 k v) := vs_up h e rfl
theorem gA_206 {M : ms_M} (h : VS_ M) (k : Nat) (hk : (k : Int) < 12000) : 0 ≤ M 206 k ∧ M 206 k ≤ 255 := vs_g h k (show 206 < 256 by decide) (.inr (show k < 12000 by omega))
theorem wA_206 {M : ms_M} (h : VS_ M) {k : Nat} {v : Int} (e : 0 ≤ v ∧ v ≤ 255) : VS_ (up_M M 206 k v) := vs_up h e rfl
theorem gA_207 {M : ms_M} (h : VS_ M) (k : Nat) (hk : (k : Int) < 3000) : (-1) ≤ M 207 k ∧ M 207 k ≤ 900 := vs_g h k (show 207 < 256 by decide) (.inr (show k < 3000 by omega))
theorem wA_207 {M : ms_M} (h : VS_ M) {k : Nat} {v : Int} (e : (-1) ≤ v ∧ v ≤ 900) : VS_ (up_M M 207 k v) := vs_up h e rfl
theorem gA_208 {M : ms_M} (h : VS_ M) (k : Nat) (hk : (k : Int) < 6200) : 0 ≤ M 208 k ∧ M 208 k ≤ 1000000000 := vs_g h k (show 208 < 256 by decide) (.inr (show k < 6200 by omega))
theorem wA_208 {M : ms_M} (h : VS_ M) {k : Nat} {v : Int} (e : 0 ≤ v ∧ v ≤ 1000000000) : VS_ (up_M M 208 k v) := vs_up h e rfl
theorem gA_209 {M : ms_M} (h : VS_ M) (k : Nat) (hk : (k : Int) < 6200) : 0 ≤ M 209 k ∧ M 209 k ≤ 60000 := vs_g h k (show 209 < 256 by decide) (.inr (show k < 6200 by omega))
theorem wA_209 {M : ms_M} (h : VS_ M) {k : Nat} {v : Int} (e : 0 ≤ v ∧ v ≤ 60000) : VS_ (up_M M 209 k v) := vs_up h e rfl
theorem gA_210 {M : ms_M} (h : VS_ M) (k : Nat) (hk : (k : Int) < 6200) : 0 ≤ M 210 k ∧ M 210 k ≤ 3001 := vs_g h k (show 210 < 256 by decide) (.inr (show k < 6200 by omega))
theorem wA_210 {M : ms_M} (h : VS_ M) {k : Nat} {v : Int} (e : 0 ≤ v ∧ v ≤ 3001) : VS_ (up_M M 210 k v) := vs_up h e rfl
theorem gA_211 {M : ms_M} (h : VS_ M) (k : Nat) (hk : (k : Int) < 6200) : 0 ≤ M 211 k ∧ M 211 k ≤ 3000 := vs_g h k (show 211 < 256 by decide) (.inr (show k < 6200 by omega))
theorem wA_211 {M : ms_M} (h : VS_ M) {k : Nat} {v : Int} (e : 0 ≤ v ∧ v ≤ 3000) : VS_ (up_M M 211 k v) := vs_up h e rfl
theorem gA_212 {M : ms_M} (h : VS_ M) (k : Nat) (hk : (k : Int) < 60000) : (-1) ≤ M 212 k ∧ M 212 k ≤ 900 := vs_g h k (show 212 < 256 by decide) (.inr (show k < 60000 by omega))
theorem wA_212 {M : ms_M} (h : VS_ M) {k : Nat} {v : Int} (e : (-1) ≤ v ∧ v ≤ 900) : VS_ (up_M M 212 k v) := vs_up h e rfl
theorem gA_213 {M : ms_M} (h : VS_ M) (k : Nat) (hk : (k : Int) < 1000) : 0 ≤ M 213 k ∧ M 213 k ≤ 1000000000 := vs_g h k (show 213 < 256 by decide) (.inr (show k < 1000 by omega))
theorem wA_213 {M : ms_M} (h : VS_ M) {k : Nat} {v : Int} (e : 0 ≤ v ∧ v ≤ 1000000000) : VS_ (up_M M 213 k v) := vs_up h e rfl
theorem gA_214 {M : ms_M} (h : VS_ M) (k : Nat) (hk : (k : Int) < 1000) : 0 ≤ M 214 k ∧ M 214 k ≤ 1000000000 := vs_g h k (show 214 < 256 by decide) (.inr (show k < 1000 by omega))
theorem wA_214 {M : ms_M} (h : VS_ M) {k : Nat} {v : Int} (e : 0 ≤ v ∧ v ≤ 1000000000) : VS_ (up_M M 214 k v) := vs_up h e rfl
theorem gA_215 {M : ms_M} (h : VS_ M) (k : Nat) (hk : (k : Int) < 1000) : 0 ≤ M 215 k ∧ M 215 k ≤ 1000000000 := vs_g h k (show 215 < 256 by decide) (.inr (show k < 1000 by omega))
theorem wA_215 {M : ms_M} (h : VS_ M) {k : Nat} {v : Int} (e : 0 ≤ v ∧ v ≤ 1000000000) : VS_ (up_M M 215 k v) := vs_up h e rfl
theorem gA_216 {M : ms_M} (h : VS_ M) (k : Nat) (hk : (k : Int) < 1000) : (-1) ≤ M 216 k ∧ M 216 k ≤ 900 := vs_g h k (show 216 < 256 by decide) (.inr (show k < 1000 by omega))
theorem wA_216 {M : ms_M} (h : VS_ M) {k : Nat} {v : Int} (e : (-1) ≤ v ∧ v ≤ 900) : VS_ (up_M M 216 k v) := vs_up h e rfl
theorem gA_217 {M : ms_M} (h : VS_ M) (k : Nat) (hk : (k : Int) < 3000) : 0 ≤ M 217 k ∧ M 217 k ≤ 1000000000 := vs_g h k (show 217 < 256 by decide) (.inr (show k < 3000 by omega))
theorem wA_217 {M : ms_M} (h : VS_ M) {k : Nat} {v : Int} (e : 0 ≤ v ∧ v ≤ 1000000000) : VS_ (up_M M 217 k v) := vs_up h e rfl
theorem gA_218 {M : ms_M} (h : VS_ M) (k : Nat) (hk : (k : Int) < 3000) : 0 ≤ M 218 k ∧ M 218 k ≤ 2147483647 := vs_g h k (show 218 < 256 by decide) (.inr (show k < 3000 by omega))
theorem wA_218 {M : ms_M} (h : VS_ M) {k : Nat} {v : Int} (e : 0 ≤ v ∧ v ≤ 2147483647) : VS_ (up_M M 218 k v) := vs_up h e rfl
theorem gA_219 {M : ms_M} (h : VS_ M) (k : Nat) (hk : (k : Int) < 3000) : 0 ≤ M 219 k ∧ M 219 k ≤ 2147483647 := vs_g h k (show 219 < 256 by decide) (.inr (show k < 3000 by omega))
theorem wA_219 {M : ms_M} (h : VS_ M) {k : Nat} {v : Int} (e : 0 ≤ v ∧ v ≤ 2147483647) : VS_ (up_M M 219 k v) := vs_up h e rfl
theorem gA_220 {M : ms_M} (h : VS_ M) (k : Nat) (hk : (k : Int) < 3000) : 0 ≤ M 220 k ∧ M 220 k ≤ 2147483647 := vs_g h k (show 220 < 256 by decide) (.inr (show k < 3000 by omega))
theorem wA_220 {M : ms_M} (h : VS_ M) {k : Nat} {v : Int} (e : 0 ≤ v ∧ v ≤ 2147483647) : VS_ (up_M M 220 k v) := vs_up h e rfl
theorem gA_221 {M : ms_M} (h : VS_ M) (k : Nat) (hk : (k : Int) < 48000) : 0 ≤ M 221 k ∧ M 221 k ≤ 255 := vs_g h k (show 221 < 256 by decide) (.inr (show k < 48000 by omega))
theorem wA_221 {M : ms_M} (h : VS_ M) {k : Nat} {v : Int} (e : 0 ≤ v ∧ v ≤ 255) : VS_ (up_M M 221 k v) := vs_up h e rfl
theorem gA_222 {M : ms_M} (h : VS_ M) (k : Nat) (hk : (k : Int) < 8) : 0 ≤ M 222 k ∧ M 222 k ≤ 6000 := vs_g h k (show 222 < 256 by decide) (.inr (show k < 8 by omega))
theorem wA_222 {M : ms_M} (h : VS_ M) {k : Nat} {v : Int} (e : 0 ≤ v ∧ v ≤ 6000) : VS_ (up_M M 222 k v) := vs_up h e rfl
theorem gA_223 {M : ms_M} (h : VS_ M) (k : Nat) (hk : (k : Int) < 48000) : 0 ≤ M 223 k ∧ M 223 k ≤ 255 := vs_g h k (show 223 < 256 by decide) (.inr (show k < 48000 by omega))
theorem wA_223 {M : ms_M} (h : VS_ M) {k : Nat} {v : Int} (e : 0 ≤ v ∧ v ≤ 255) : VS_ (up_M M 223 k v) := vs_up h e rfl
theorem gA_224 {M : ms_M} (h : VS_ M) (k : Nat) (hk : (k : Int) < 8) : 0 ≤ M 224 k ∧ M 224 k ≤ 6000 := vs_g h k (show 224 < 256 by decide) (.inr (show k < 8 by omega))
theorem wA_224 {M : ms_M} (h : VS_ M) {k : Nat} {v : Int} (e : 0 ≤ v ∧ v ≤ 6000) : VS_ (up_M M 224 k v) := vs_up h e rfl
theorem gA_225 {M : ms_M} (h : VS_ M) (k : Nat) (hk : (k : Int) < 40000) : 0 ≤ M 225 k ∧ M 225 k ≤ 255 := vs_g h k (show 225 < 256 by decide) (.inr (show k < 40000 by omega))
theorem wA_225 {M : ms_M} (h : VS_ M) {k : Nat} {v : Int} (e : 0 ≤ v ∧ v ≤ 255) : VS_ (up_M M 225 k v) := vs_up h e rfl
theorem gA_226 {M : ms_M} (h : VS_ M) (k : Nat) (hk : (k : Int) < 48000) : 0 ≤ M 226 k ∧ M 226 k ≤ 255 := vs_g h k (show 226 < 256 by decide) (.inr (show k < 48000 by omega))
theorem wA_226 {M : ms_M} (h : VS_ M) {k : Nat} {v : Int} (e : 0 ≤ v ∧ v ≤ 255) : VS_ (up_M M 226 k v) := vs_up h e rfl
theorem gA_227 {M : ms_M} (h : VS_ M) (k : Nat) (hk : (k : Int) < 8) : 0 ≤ M 227 k ∧ M 227 k ≤ 6000 := vs_g h k (show 227 < 256 by decide) (.inr (show k < 8 by omega))
theorem wA_227 {M : ms_M} (h : VS_ M) {k : Nat} {v : Int} (e : 0 ≤ v ∧ v ≤ 6000) : VS_ (up_M M 227 k v) := vs_up h e rfl
theorem gA_228 {M : ms_M} (h : VS_ M) (k : Nat) (hk : (k : Int) < 2048) : 0 ≤ M 228 k ∧ M 228 k ≤ 6000 := vs_g h k (show 228 < 256 by decide) (.inr (show k < 2048 by omega))
theorem wA_228 {M : ms_M} (h : VS_ M) {k : Nat} {v : Int} (e : 0 ≤ v ∧ v ≤ 6000) : VS_ (up_M M 228 k v) := vs_up h e rfl
theorem gA_229 {M : ms_M} (h : VS_ M) (k : Nat) (hk : (k : Int) < 8) : 0 ≤ M 229 k ∧ M 229 k ≤ 255 := vs_g h k (show 229 < 256 by decide) (.inr (show k < 8 by omega))
theorem wA_229 {M : ms_M} (h : VS_ M) {k : Nat} {v : Int} (e : 0 ≤ v ∧ v ≤ 255) : VS_ (up_M M 229 k v) := vs_up h e rfl
theorem gA_230 {M : ms_M} (h : VS_ M) (k : Nat) (hk : (k : Int) < 8) : 0 ≤ M 230 k ∧ M 230 k ≤ 255 := vs_g h k (show 230 < 256 by decide) (.inr (show k < 8 by omega))
theorem wA_230 {M : ms_M} (h : VS_ M) {k : Nat} {v : Int} (e : 0 ≤ v ∧ v ≤ 255) : VS_ (up_M M 230 k v) := vs_up h e rfl
theorem gA_231 {M : ms_M} (h : VS_ M) (k : Nat) (hk : (k : Int) < 8) : 0 ≤ M 231 k ∧ M 231 k ≤ 255 := vs_g h k (show 231 < 256 by decide) (.inr (show k < 8 by omega))
theorem wA_231 {M : ms_M} (h : VS_ M) {k : Nat} {v : Int} (e : 0 ≤ v ∧ v ≤ 255) : VS_ (up_M M 231 k v) := vs_up h e rfl
theorem gA_232 {M : ms_M} (h : VS_ M) (k : Nat) (hk : (k : Int) < 8) : 0 ≤ M 232 k ∧ M 232 k ≤ 255 := vs_g h k (show 232 < 256 by decide) (.inr (show k < 8 by omega))
theorem wA_232 {M : ms_M} (h : VS_ M) {k : Nat} {v : Int} (e : 0 ≤ v ∧ v ≤ 255) : VS_ (up_M M 232 k v) := vs_up h e rfl
theorem gA_233 {M : ms_M} (h : VS_ M) (k : Nat) (hk : (k : Int) < 96) : 0 ≤ M 233 k ∧ M 233 k ≤ 6010 := vs_g h k (show 233 < 256 by decide) (.inr (show k < 96 by omega))
theorem wA_233 {M : ms_M} (h : VS_ M) {k : Nat} {v : Int} (e : 0 ≤ v ∧ v ≤ 6010) : VS_ (up_M M 233 k v) := vs_up h e rfl
theorem gA_234 {M : ms_M} (h : VS_ M) (k : Nat) (hk : (k : Int) < 8) : 0 ≤ M 234 k ∧ M 234 k ≤ 255 := vs_g h k (show 234 < 256 by decide) (.inr (show k < 8 by omega))
theorem wA_234 {M : ms_M} (h : VS_ M) {k : Nat} {v : Int} (e : 0 ≤ v ∧ v ≤ 255) : VS_ (up_M M 234 k v) := vs_up h e rfl
theorem gA_235 {M : ms_M} (h : VS_ M) (k : Nat) (hk : (k : Int) < 96) : 0 ≤ M 235 k ∧ M 235 k ≤ 6010 := vs_g h k (show 235 < 256 by decide) (.inr (show k < 96 by omega))
theorem wA_235 {M : ms_M} (h : VS_ M) {k : Nat} {v : Int} (e : 0 ≤ v ∧ v ≤ 6010) : VS_ (up_M M 235 k v) := vs_up h e rfl
theorem gA_236 {M : ms_M} (h : VS_ M) (k : Nat) (hk : (k : Int) < 96) : 0 ≤ M 236 k ∧ M 236 k ≤ 6010 := vs_g h k (show 236 < 256 by decide) (.inr (show k < 96 by omega))
theorem wA_236 {M : ms_M} (h : VS_ M) {k : Nat} {v : Int} (e : 0 ≤ v ∧ v ≤ 6010) : VS_ (up_M M 236 k v) := vs_up h e rfl
theorem gA_237 {M : ms_M} (h : VS_ M) (k : Nat) (hk : (k : Int) < 96) : 0 ≤ M 237 k ∧ M 237 k ≤ 6010 := vs_g h k (show 237 < 256 by decide) (.inr (show k < 96 by omega))
theorem wA_237 {M : ms_M} (h : VS_ M) {k : Nat} {v : Int} (e : 0 ≤ v ∧ v ≤ 6010) : VS_ (up_M M 237 k v) := vs_up h e rfl
theorem gA_238 {M : ms_M} (h : VS_ M) (k : Nat) (hk : (k : Int) < 6000) : 0 ≤ M 238 k ∧ M 238 k ≤ 255 := vs_g h k (show 238 < 256 by decide) (.inr (show k < 6000 by omega))
theorem wA_238 {M : ms_M} (h : VS_ M) {k : Nat} {v : Int} (e : 0 ≤ v ∧ v ≤ 255) : VS_ (up_M M 238 k v) := vs_up h e rfl
theorem gA_239 {M : ms_M} (h : VS_ M) (k : Nat) (hk : (k : Int) < 309) : 0 ≤ M 239 k ∧ M 239 k ≤ 6010 := vs_g h k (show 239 < 256 by decide) (.inr (show k < 309 by omega))
theorem wA_239 {M : ms_M} (h : VS_ M) {k : Nat} {v : Int} (e : 0 ≤ v ∧ v ≤ 6010) : VS_ (up_M M 239 k v) := vs_up h e rfl
theorem gA_240 {M : ms_M} (h : VS_ M) (k : Nat) (hk : (k : Int) < 2100) : 0 ≤ M 240 k ∧ M 240 k ≤ 48002 := vs_g h k (show 240 < 256 by decide) (.inr (show k < 2100 by omega))
theorem wA_240 {M : ms_M} (h : VS_ M) {k : Nat} {v : Int} (e : 0 ≤ v ∧ v ≤ 48002) : VS_ (up_M M 240 k v) := vs_up h e rfl
theorem gA_241 {M : ms_M} (h : VS_ M) (k : Nat) (hk : (k : Int) < 2100) : (-47999) ≤ M 241 k ∧ M 241 k ≤ 47998 := vs_g h k (show 241 < 256 by decide) (.inr (show k < 2100 by omega))
theorem wA_241 {M : ms_M} (h : VS_ M) {k : Nat} {v : Int} (e : (-47999) ≤ v ∧ v ≤ 47998) : VS_ (up_M M 241 k v) := vs_up h e rfl
theorem gA_242 {M : ms_M} (h : VS_ M) (k : Nat) (hk : (k : Int) < 1501) : 0 ≤ M 242 k ∧ M 242 k ≤ 1 := vs_g h k (show 242 < 256 by decide) (.inr (show k < 1501 by omega))
theorem wA_242 {M : ms_M} (h : VS_ M) {k : Nat} {v : Int} (e : 0 ≤ v ∧ v ≤ 1) : VS_ (up_M M 242 k v) := vs_up h e rfl
theorem gA_243 {M : ms_M} (h : VS_ M) (k : Nat) (hk : (k : Int) < 30) : 0 ≤ M 243 k ∧ M 243 k ≤ 2147483647 := vs_g h k (show 243 < 256 by decide) (.inr (show k < 30 by omega))
theorem wA_243 {M : ms_M} (h : VS_ M) {k : Nat} {v : Int} (e : 0 ≤ v ∧ v ≤ 2147483647) : VS_ (up_M M 243 k v) := vs_up h e rfl
theorem gA_244 {M : ms_M} (h : VS_ M) (k : Nat) (hk : (k : Int) < 31) : (-2147483648) ≤ M 244 k ∧ M 244 k ≤ 2147483647 := vs_g h k (show 244 < 256 by decide) (.inr (show k < 31 by omega))
theorem wA_244 {M : ms_M} (h : VS_ M) {k : Nat} {v : Int} (e : (-2147483648) ≤ v ∧ v ≤ 2147483647) : VS_ (up_M M 244 k v) := vs_up h e rfl
theorem gA_245 {M : ms_M} (h : VS_ M) (k : Nat) (hk : (k : Int) < 6) : 0 ≤ M 245 k ∧ M 245 k ≤ 4237 := vs_g h k (show 245 < 256 by decide) (.inr (show k < 6 by omega))
theorem wA_245 {M : ms_M} (h : VS_ M) {k : Nat} {v : Int} (e : 0 ≤ v ∧ v ≤ 4237) : VS_ (up_M M 245 k v) := vs_up h e rfl
theorem gA_246 {M : ms_M} (h : VS_ M) (k : Nat) (hk : (k : Int) < 2001) : (-1) ≤ M 246 k ∧ M 246 k ≤ 115 := vs_g h k (show 246 < 256 by decide) (.inr (show k < 2001 by omega))
theorem wA_246 {M : ms_M} (h : VS_ M) {k : Nat} {v : Int} (e : (-1) ≤ v ∧ v ≤ 115) : VS_ (up_M M 246 k v) := vs_up h e rfl
theorem gA_247 {M : ms_M} (h : VS_ M) (k : Nat) (hk : (k : Int) < 2001) : 0 ≤ M 247 k ∧ M 247 k ≤ 20000 := vs_g h k (show 247 < 256 by decide) (.inr (show k < 2001 by omega))
theorem wA_247 {M : ms_M} (h : VS_ M) {k : Nat} {v : Int} (e : 0 ≤ v ∧ v ≤ 20000) : VS_ (up_M M 247 k v) := vs_up h e rfl
theorem gA_248 {M : ms_M} (h : VS_ M) (k : Nat) (hk : (k : Int) < 2001) : (-2147483648) ≤ M 248 k ∧ M 248 k ≤ 20000 := vs_g h k (show 248 < 256 by decide) (.inr (show k < 2001 by omega))
theorem wA_248 {M : ms_M} (h : VS_ M) {k : Nat} {v : Int} (e : (-2147483648) ≤ v ∧ v ≤ 20000) : VS_ (up_M M 248 k v) := vs_up h e rfl
theorem gA_249 {M : ms_M} (h : VS_ M) (k : Nat) (hk : (k : Int) < 20000) : (-2147483648) ≤ M 249 k ∧ M 249 k ≤ 2147483647 := vs_g h k (show 249 < 256 by decide) (.inr (show k < 20000 by omega))
theorem wA_249 {M : ms_M} (h : VS_ M) {k : Nat} {v : Int} (e : (-2147483648) ≤ v ∧ v ≤ 2147483647) : VS_ (up_M M 249 k v) := vs_up h e rfl
theorem gA_250 {M : ms_M} (h : VS_ M) (k : Nat) (hk : (k : Int) < 1000) : (-2147483648) ≤ M 250 k ∧ M 250 k ≤ 2147483647 := vs_g h k (show 250 < 256 by decide) (.inr (show k < 1000 by omega))
theorem wA_250 {M : ms_M} (h : VS_ M) {k : Nat} {v : Int} (e : (-2147483648) ≤ v ∧ v ≤ 2147483647) : VS_ (up_M M 250 k v) := vs_up h e rfl
theorem gA_251 {M : ms_M} (h : VS_ M) (k : Nat) (hk : (k : Int) < 60) : (-1) ≤ M 251 k ∧ M 251 k ≤ 2117 := vs_g h k (show 251 < 256 by decide) (.inr (show k < 60 by omega))
theorem wA_251 {M : ms_M} (h : VS_ M) {k : Nat} {v : Int} (e : (-1) ≤ v ∧ v ≤ 2117) : VS_ (up_M M 251 k v) := vs_up h e rfl
theorem gA_252 {M : ms_M} (h : VS_ M) (k : Nat) (hk : (k : Int) < 60) : 0 ≤ M 252 k ∧ M 252 k ≤ 254 := vs_g h k (show 252 < 256 by decide) (.inr (show k < 60 by omega))
theorem wA_252 {M : ms_M} (h : VS_ M) {k : Nat} {v : Int} (e : 0 ≤ v ∧ v ≤ 254) : VS_ (up_M M 252 k v) := vs_up h e rfl
theorem gA_253 {M : ms_M} (h : VS_ M) (k : Nat) (hk : (k : Int) < 60) : (-2147483648) ≤ M 253 k ∧ M 253 k ≤ 2147483647 := vs_g h k (show 253 < 256 by decide) (.inr (show k < 60 by omega))
theorem wA_253 {M : ms_M} (h : VS_ M) {k : Nat} {v : Int} (e : (-2147483648) ≤ v ∧ v ≤ 2147483647) : VS_ (up_M M 253 k v) := vs_up h e rfl
theorem gA_254 {M : ms_M} (h : VS_ M) (k : Nat) (hk : (k : Int) < 60) : 0 ≤ M 254 k ∧ M 254 k ≤ 30 := vs_g h k (show 254 < 256 by decide) (.inr (show k < 60 by omega))
theorem wA_254 {M : ms_M} (h : VS_ M) {k : Nat} {v : Int} (e : 0 ≤ v ∧ v ≤ 30) : VS_ (up_M M 254 k v) := vs_up h e rfl
theorem gA_255 {M : ms_M} (h : VS_ M) (k : Nat) (hk : (k : Int) < 3600) : (-2147483648) ≤ M 255 k ∧ M 255 k ≤ 2147483647 := vs_g h k (show 255 < 256 by decide) (.inr (show k < 3600 by omega))
theorem wA_255 {M : ms_M} (h : VS_ M) {k : Nat} {v : Int} (e : (-2147483648) ≤ v ∧ v ≤ 2147483647) : VS_ (up_M M 255 k v) := vs_up h e rfl
def vbI_ck (c : Nat) : Bool := decide (vb_ c 0 = ((-2147483648), 2147483647)) && decide (vb_ c 1 = (0, 6000)) && decide (vb_ c 2 = (0, 6000)) && decide (vb_ c 3 = ((-1), 6300)) && decide (vb_ c 7 = (0, 255)) && decide (vb_ c 8 = (0, 255)) && decide (vb_ c 9 = (0, 255)) && decide (vb_ c 10 = (0, 12)) && decide (vb_ c 12 = (0, 12)) && decide (vb_ (c + 2) 0 = (0, 255)) && decide (vb_ (c + 3) 0 = (0, 6000)) && decide (vb_ (c + 4) 0 = (0, 6255)) && decide (vb_ (c + 5) 0 = (0, 255)) && decide (vb_ (c + 6) 0 = ((-1), 65535))
set_option maxRecDepth 100000 in
theorem vbI_all : (List.range 256).all (fun c => !(Nat.beq (kc_O c) 3) || vbI_ck c) = true := rfl
theorem vbI_ok {c : Nat} (h : kc_O c = 3) : vbI_ck c = true := by
  have h1 := List.all_eq_true.1 vbI_all c (List.mem_range.2 (kc_lt h (by decide)))
  rw [h] at h1; exact h1
def ar_T (c : Nat) : Bool := match vt_[c]? with
  | some (.inl _) => true
  | _ => false
set_option maxRecDepth 100000 in
theorem vb_arra : (List.range 256).all (fun c => !(Nat.beq (ly_T c) 0) || ar_T c) = true := rfl
theorem vb_arr {c : Nat} (h : ly_T c = 0) (k : Nat) : vb_ c k = vb_ c 0 := by
  have hc : c < 256 := by
    by_cases w : c < 256
    · exact w
    · have := ly_Tbig (show 256 ≤ c by omega); omega
  have h2 := List.all_eq_true.1 vb_arra c (List.mem_range.2 hc)
  rw [h] at h2
  have h2 : ar_T c = true := h2
  unfold ar_T at h2
  unfold vb_
  revert h2
  cases vt_[c]? with
  | none => intro _; rfl
  | some x => cases x with
    | inl p => intro _; rfl
    | inr l => intro h2; cases h2
theorem vbI_0 {b : Nat} (h : kc_O b = 3) : vb_ b 0 = ((-2147483648), 2147483647) := by
  have h1 := vbI_ok h
  unfold vbI_ck at h1
  simp only [Bool.and_eq_true, decide_eq_true_eq] at h1
  exact h1.1.1.1.1.1.1.1.1.1.1.1.1.1
theorem gI_0 {M : ms_M} (h : VS_ M) {b : Nat} (hb : kc_O b = 3) : (-2147483648) ≤ M b 0 ∧ M b 0 ≤ 2147483647 := by
  have := vs_g h 0 (kc_lt hb (by decide)) (.inl (T_img hb)); rw [vbI_0 hb] at this; exact this
theorem vbI_1 {b : Nat} (h : kc_O b = 3) : vb_ b 1 = (0, 6000) := by
  have h1 := vbI_ok h
  unfold vbI_ck at h1
  simp only [Bool.and_eq_true, decide_eq_true_eq] at h1
  exact h1.1.1.1.1.1.1.1.1.1.1.1.1.2
theorem gI_1 {M : ms_M} (h : VS_ M) {b : Nat} (hb : kc_O b = 3) : 0 ≤ M b 1 ∧ M b 1 ≤ 6000 := by
  have := vs_g h 1 (kc_lt hb (by decide)) (.inl (T_img hb)); rw [vbI_1 hb] at this; exact this
theorem vbI_2 {b : Nat} (h : kc_O b = 3) : vb_ b 2 = (0, 6000) := by
  have h1 := vbI_ok h
  unfold vbI_ck at h1
  simp only [Bool.and_eq_true, decide_eq_true_eq] at h1
  exact h1.1.1.1.1.1.1.1.1.1.1.1.2
theorem gI_2 {M : ms_M} (h : VS_ M) {b : Nat} (hb : kc_O b = 3) : 0 ≤ M b 2 ∧ M b 2 ≤ 6000 := by
  have := vs_g h 2 (kc_lt hb (by decide)) (.inl (T_img hb)); rw [vbI_2 hb] at this; exact this
theorem wI_2 {M : ms_M} (h : VS_ M) {b : Nat} (hb : kc_O b = 3) {v : Int} (e : 0 ≤ v ∧ v ≤ 6000) : VS_ (up_M M b 2 v) := vs_up h (by rw [vbI_2 hb]; exact e) (im_I hb (by decide))
theorem vbI_3 {b : Nat} (h : kc_O b = 3) : vb_ b 3 = ((-1), 6300) := by
  have h1 := vbI_ok h
  unfold vbI_ck at h1
  simp only [Bool.and_eq_true, decide_eq_true_eq] at h1
  exact h1.1.1.1.1.1.1.1.1.1.1.2
theorem gI_3 {M : ms_M} (h : VS_ M) {b : Nat} (hb : kc_O b = 3) : (-1) ≤ M b 3 ∧ M b 3 ≤ 6300 := by
  have := vs_g h 3 (kc_lt hb (by decide)) (.inl (T_img hb)); rw [vbI_3 hb] at this; exact this
theorem wI_3 {M : ms_M} (h : VS_ M) {b : Nat} (hb : kc_O b = 3) {v : Int} (e : (-1) ≤ v ∧ v ≤ 6300) : VS_ (up_M M b 3 v) := vs_up h (by rw [vbI_3 hb]; exact e) (im_I hb (by decide))
theorem vbI_7 {b : Nat} (h : kc_O b = 3) : vb_ b 7 = (0, 255) := by
  have h1 := vbI_ok h
  unfold vbI_ck at h1
  simp only [Bool.and_eq_true, decide_eq_true_eq] at h1
  exact h1.1.1.1.1.1.1.1.1.1.2
theorem gI_7 {M : ms_M} (h : VS_ M) {b : Nat} (hb : kc_O b = 3) : 0 ≤ M b 7 ∧ M b 7 ≤ 255 := by
  have := vs_g h 7 (kc_lt hb (by decide)) (.inl (T_img hb)); rw [vbI_7 hb] at this; exact this
theorem wI_7 {M : ms_M} (h : VS_ M) {b : Nat} (hb : kc_O b = 3) {v : Int} (e : 0 ≤ v ∧ v ≤ 255) : VS_ (up_M M b 7 v) := vs_up h (by rw [vbI_7 hb]; exact e) (im_I hb (by decide))
theorem vbI_8 {b : Nat} (h : kc_O b = 3) : vb_ b 8 = (0, 255) := by
  have h1 := vbI_ok h
  unfold vbI_ck at h1
  simp only [Bool.and_eq_true, decide_eq_true_eq] at h1
  exact h1.1.1.1.1.1.1.1.1.2
theorem gI_8 {M : ms_M} (h : VS_ M) {b : Nat} (hb : kc_O b = 3) : 0 ≤ M b 8 ∧ M b 8 ≤ 255 := by
  have := vs_g h 8 (kc_lt hb (by decide)) (.inl (T_img hb)); rw [vbI_8 hb] at this; exact this
theorem wI_8 {M : ms_M} (h : VS_ M) {b : Nat} (hb : kc_O b = 3) {v : Int} (e : 0 ≤ v ∧ v ≤ 255) : VS_ (up_M M b 8 v) := vs_up h (by rw [vbI_8 hb]; exact e) (im_I hb (by decide))
theorem vbI_9 {b : Nat} (h : kc_O b = 3) : vb_ b 9 = (0, 255) := by
  have h1 := vbI_ok h
  unfold vbI_ck at h1
  simp only [Bool.and_eq_true, decide_eq_true_eq] at h1
  exact h1.1.1.1.1.1.1.1.2
theorem gI_9 {M : ms_M} (h : VS_ M) {b : Nat} (hb : kc_O b = 3) : 0 ≤ M b 9 ∧ M b 9 ≤ 255 := by
  have := vs_g h 9 (kc_lt hb (by decide)) (.inl (T_img hb)); rw [vbI_9 hb] at this; exact this
theorem wI_9 {M : ms_M} (h : VS_ M) {b : Nat} (hb : kc_O b = 3) {v : Int} (e : 0 ≤ v ∧ v ≤ 255) : VS_ (up_M M b 9 v) := vs_up h (by rw [vbI_9 hb]; exact e) (im_I hb (by decide))
theorem vbI_10 {b : Nat} (h : kc_O b = 3) : vb_ b 10 = (0, 12) := by
  have h1 := vbI_ok h
  unfold vbI_ck at h1
  simp only [Bool.and_eq_true, decide_eq_true_eq] at h1
  exact h1.1.1.1.1.1.1.2
theorem gI_10 {M : ms_M} (h : VS_ M) {b : Nat} (hb : kc_O b = 3) : 0 ≤ M b 10 ∧ M b 10 ≤ 12 := by
  have := vs_g h 10 (kc_lt hb (by decide)) (.inl (T_img hb)); rw [vbI_10 hb] at this; exact this
theorem wI_10 {M : ms_M} (h : VS_ M) {b : Nat} (hb : kc_O b = 3) {v : Int} (e : 0 ≤ v ∧ v ≤ 12) : VS_ (up_M M b 10 v) := vs_up h (by rw [vbI_10 hb]; exact e) (im_I hb (by decide))
theorem vbI_12 {b : Nat} (h : kc_O b = 3) : vb_ b 12 = (0, 12) := by
  have h1 := vbI_ok h
  unfold vbI_ck at h1
  simp only [Bool.and_eq_true, decide_eq_true_eq] at h1
  exact h1.1.1.1.1.1.2
theorem gI_12 {M : ms_M} (h : VS_ M) {b : Nat} (hb : kc_O b = 3) : 0 ≤ M b 12 ∧ M b 12 ≤ 12 := by
  have := vs_g h 12 (kc_lt hb (by decide)) (.inl (T_img hb)); rw [vbI_12 hb] at this; exact this
theorem wI_12 {M : ms_M} (h : VS_ M) {b : Nat} (hb : kc_O b = 3) {v : Int} (e : 0 ≤ v ∧ v ≤ 12) : VS_ (up_M M b 12 v) := vs_up h (by rw [vbI_12 hb]; exact e) (im_I hb (by decide))
theorem vbIA_2 {b : Nat} (h : kc_O b = 3) (k : Nat) : vb_ (b + 2) k = (0, 255) := by
  rw [vb_arr (T_arr h (by decide)) k]
  have h1 := vbI_ok h
  unfold vbI_ck at h1
  simp only [Bool.and_eq_true, decide_eq_true_eq] at h1
  exact h1.1.1.1.1.2
theorem gIA_2 {M : ms_M} (h : VS_ M) {b : Nat} (hb : kc_O b = 3) (k : Nat) (hk : (k : Int) < 256) : 0 ≤ M (b + 2) k ∧ M (b + 2) k ≤ 255 := by
  have := vs_g h k (c := b + 2) (T_lt hb (by decide)) (.inr (by rw [N_arr2 hb]; omega)); rw [vbIA_2 hb k] at this; exact this
theorem wIA_2 {M : ms_M} (h : VS_ M) {b : Nat} (hb : kc_O b = 3) {k : Nat} {v : Int} (e : 0 ≤ v ∧ v ≤ 255) : VS_ (up_M M (b + 2) k v) := vs_up h (by rw [vbIA_2 hb k]; exact e) (im_IA hb (by decide))
theorem vbIA_3 {b : Nat} (h : kc_O b = 3) (k : Nat) : vb_ (b + 3) k = (0, 6000) := by
  rw [vb_arr (T_arr h (by decide)) k]
  have h1 := vbI_ok h
  unfold vbI_ck at h1
  simp only [Bool.and_eq_true, decide_eq_true_eq] at h1
  exact h1.1.1.1.2
theorem gIA_3 {M : ms_M} (h : VS_ M) {b : Nat} (hb : kc_O b = 3) (k : Nat) (hk : (k : Int) < 256) : 0 ≤ M (b + 3) k ∧ M (b + 3) k ≤ 6000 := by
  have := vs_g h k (c := b + 3) (T_lt hb (by decide)) (.inr (by rw [N_arr3 hb]; omega)); rw [vbIA_3 hb k] at this; exact this
theorem wIA_3 {M : ms_M} (h : VS_ M) {b : Nat} (hb : kc_O b = 3) {k : Nat} {v : Int} (e : 0 ≤ v ∧ v ≤ 6000) : VS_ (up_M M (b + 3) k v) := vs_up h (by rw [vbIA_3 hb k]; exact e) (im_IA hb (by decide))
theorem vbIA_4 {b : Nat} (h : kc_O b = 3) (k : Nat) : vb_ (b + 4) k = (0, 6255) := by
  rw [vb_arr (T_arr h (by decide)) k]
  have h1 := vbI_ok h
  unfold vbI_ck at h1
  simp only [Bool.and_eq_true, decide_eq_true_eq] at h1
  exact h1.1.1.2
theorem gIA_4 {M : ms_M} (h : VS_ M) {b : Nat} (hb : kc_O b = 3) (k : Nat) (hk : (k : Int) < 256) : 0 ≤ M (b + 4) k ∧ M (b + 4) k ≤ 6255 := by
  have := vs_g h k (c := b + 4) (T_lt hb (by decide)) (.inr (by rw [N_arr4 hb]; omega)); rw [vbIA_4 hb k] at this; exact this
theorem wIA_4 {M : ms_M} (h : VS_ M) {b : Nat} (hb : kc_O b = 3) {k : Nat} {v : Int} (e : 0 ≤ v ∧ v ≤ 6255) : VS_ (up_M M (b + 4) k v) := vs_up h (by rw [vbIA_4 hb k]; exact e) (im_IA hb (by decide))
theorem vbIA_5 {b : Nat} (h : kc_O b = 3) (k : Nat) : vb_ (b + 5) k = (0, 255) := by
  rw [vb_arr (T_arr h (by decide)) k]
  have h1 := vbI_ok h
  unfold vbI_ck at h1
  simp only [Bool.and_eq_true, decide_eq_true_eq] at h1
  exact h1.1.2
theorem gIA_5 {M : ms_M} (h : VS_ M) {b : Nat} (hb : kc_O b = 3) (k : Nat) (hk : (k : Int) < 24) : 0 ≤ M (b + 5) k ∧ M (b + 5) k ≤ 255 := by
  have := vs_g h k (c := b + 5) (T_lt hb (by decide)) (.inr (by rw [N_arr5 hb]; omega)); rw [vbIA_5 hb k] at this; exact this
theorem wIA_5 {M : ms_M} (h : VS_ M) {b : Nat} (hb : kc_O b = 3) {k : Nat} {v : Int} (e : 0 ≤ v ∧ v ≤ 255) : VS_ (up_M M (b + 5) k v) := vs_up h (by rw [vbIA_5 hb k]; exact e) (im_IA hb (by decide))
theorem vbIA_6 {b : Nat} (h : kc_O b = 3) (k : Nat) : vb_ (b + 6) k = ((-1), 65535) := by
  rw [vb_arr (T_arr h (by decide)) k]
  have h1 := vbI_ok h
  unfold vbI_ck at h1
  simp only [Bool.and_eq_true, decide_eq_true_eq] at h1
  exact h1.2
theorem gIA_6 {M : ms_M} (h : VS_ M) {b : Nat} (hb : kc_O b = 3) (k : Nat) (hk : (k : Int) < 144) : (-1) ≤ M (b + 6) k ∧ M (b + 6) k ≤ 65535 := by
  have := vs_g h k (c := b + 6) (T_lt hb (by decide)) (.inr (by rw [N_arr6 hb]; omega)); rw [vbIA_6 hb k] at this; exact this
theorem wIA_6 {M : ms_M} (h : VS_ M) {b : Nat} (hb : kc_O b = 3) {k : Nat} {v : Int} (e : (-1) ≤ v ∧ v ≤ 65535) : VS_ (up_M M (b + 6) k v) := vs_up h (by rw [vbIA_6 hb k]; exact e) (im_IA hb (by decide))
theorem gKA_1 {M : ms_M} (h : VS_ M) {b : Nat} (hb : kc_O b = 4) (k : Nat) (hk : (k : Int) < 16) : (-1) ≤ M (b + 1) k ∧ M (b + 1) k ≤ 341 := by
  rcases kc_4 hb with rfl | rfl
  · exact gA_13 h k hk
  · exact gA_58 h k hk
theorem wKA_1 {M : ms_M} (h : VS_ M) {b : Nat} (hb : kc_O b = 4) {k : Nat} {v : Int} (e : (-1) ≤ v ∧ v ≤ 341) : VS_ (up_M M (b + 1) k v) := by
  rcases kc_4 hb with rfl | rfl
  · exact wA_13 h e
  · exact wA_58 h e
theorem gKA_2 {M : ms_M} (h : VS_ M) {b : Nat} (hb : kc_O b = 4) (k : Nat) (hk : (k : Int) < 256) : 0 ≤ M (b + 2) k ∧ M (b + 2) k ≤ 1 := by
  rcases kc_4 hb with rfl | rfl
  · exact gA_14 h k hk
  · exact gA_59 h k hk
theorem wKA_2 {M : ms_M} (h : VS_ M) {b : Nat} (hb : kc_O b = 4) {k : Nat} {v : Int} (e : 0 ≤ v ∧ v ≤ 1) : VS_ (up_M M (b + 2) k v) := by
  rcases kc_4 hb with rfl | rfl
  · exact wA_14 h e
  · exact wA_59 h e
