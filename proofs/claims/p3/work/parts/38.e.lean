/-- IMAGES being read. The class's Image at cell b (0 which bytes, 1 size, 2 pos, 3 form, 7 constants; b+2 tags, b+3 at, b+4 textStop, b+5 field, b+6 method) reads n bytes B. -/
def sr_I (M : ms_M) (b : Nat) (B : Nat → Int) (n : Nat) : Prop := kc_O b = 3 ∧ n ≤ 6000 ∧ M b 1 = (n : Int) ∧ 0 ≤ M b 0 ∧ (M b 0).toNat < cn_M M ∧ ly_T (M b 0).toNat = 1 ∧ (n : Int) ≤ ln_I M (M b 0).toNat ∧ ∀ i : Nat, i < n → M (M b 0).toNat i % 256 = B i ∧ (-128 ≤ M (M b 0).toNat i ∧ M (M b 0).toNat i ≤ 127)
theorem sr_B {M : ms_M} {b : Nat} {B : Nat → Int} {n : Nat} (h : sr_I M b B n) {i : Nat} (hi : i < n) : 0 ≤ B i ∧ B i ≤ 255 := by
  have := (h.2.2.2.2.2.2.2 i hi).1; omega
theorem T_img {b : Nat} (h : kc_O b = 3) : ly_T b = 5 := (kc_T h (by decide)).1
theorem T_arr {b off : Nat} (h : kc_O b = 3) (ho : 2 ≤ off ∧ off ≤ 6) : ly_T (b + off) = 0 := by
  have h1 := I_one h
  simp only [Bool.and_eq_true] at h1
  obtain ⟨-, h2, h3, h4, h5, h6⟩ := h1
  have : off = 2 ∨ off = 3 ∨ off = 4 ∨ off = 5 ∨ off = 6 := by omega
  rcases this with rfl | rfl | rfl | rfl | rfl
  · exact (ly_Rel h2).2.1
  · exact (ly_Rel h3).2.1
  · exact (ly_Rel h4).2.1
  · exact (ly_Rel h5).2.1
  · exact (ly_Rel h6).2.1
/-- what the image is reading stays, where neither its bytes nor its fields 0 and 1 are touched -/
theorem sr_up {M : ms_M} {b : Nat} {B : Nat → Int} {n : Nat} (h : sr_I M b B n) {c k : Nat} {v : Int} (hc : c = b ∧ 2 ≤ k ∨ (∃ off, 2 ≤ off ∧ off ≤ 6 ∧ c = b + off)) : sr_I (up_M M c k v) b B n := by
  obtain ⟨h1, h2, h3, h4, h5, h6, h7, h8⟩ := h
  have hT := T_img h1
  have hlt := kc_lt h1 (by decide)
  have hcT : ly_T c ≠ 1 := by
    rcases hc with ⟨rfl, -⟩ | ⟨off, o1, o2, rfl⟩
    · omega
    · rw [T_arr h1 ⟨o1, o2⟩]; decide
  have hcb : ∀ j, j < 2 → up_M M c k v b j = M b j := by
    intro j hj; exact up_n (by rintro ⟨e1, e2⟩; rcases hc with ⟨-, q⟩ | ⟨off, o1, o2, rfl⟩ <;> omega)
  have hs : ∀ d, ly_T d = 1 → up_M M c k v d = M d := fun d hd => up_ne d (fun e => hcT (e ▸ hd))
  have e0 := hcb 0 (by omega)
  have e1 := hcb 1 (by omega)
  refine ⟨h1, h2, by rw [e1]; exact h3, by rw [e0]; exact h4, ?_, by rw [e0]; exact h6, ?_, ?_⟩
  · rw [e0]; unfold cn_M; rw [hs 900000 (ly_Tbig (by decide))]; exact h5
  · rw [e0]; unfold ln_I; rw [hs 900001 (ly_Tbig (by decide))]; exact h7
  · intro i hi; rw [e0, hs _ h6]; exact h8 i hi
theorem byteAt_ok {nn : Nat} {M : ms_M} {b : Nat} {B : Nat → Int} {n : Nat} (h : sr_I M b B n) {p : Int} : qf_X3_byteAt nn b p M = some (if 0 ≤ p ∧ p < (n : Int) then B p.toNat else 0) := by
  obtain ⟨h1, h2, h3, h4, h5, h6, h7, h8⟩ := h
  unfold qf_X3_byteAt ck_B rd_T
  rw [h3]
  by_cases q0 : p < 0
  · simp (disch := omega) only [if_pos, if_neg]
  by_cases q1 : (n : Int) ≤ p
  · simp (disch := omega) only [if_pos, if_neg]
  obtain ⟨g1, g2⟩ := h8 p.toNat (by omega)
  simp (disch := omega) only [if_pos, if_neg, xl_eq]
  rw [oq_and_255 (by omega), g1]
theorem next_in {nn : Nat} {M : ms_M} {b : Nat} {B : Nat → Int} {n : Nat} (h : sr_I M b B n) (hp : 0 ≤ M b 2 ∧ M b 2 < (n : Int)) : qf_X3_next nn b M = some (B (M b 2).toNat, up_M M b 2 (M b 2 + 1)) := by
  have h' := sr_up h (c := b) (k := 2) (v := M b 2 + 1) (.inl ⟨rfl, by omega⟩)
  obtain ⟨h1, h2, h3, h4, h5, h6, h7, h8⟩ := h
  have e0 : up_M M b 2 (M b 2 + 1) b 0 = M b 0 := up_n (by omega)
  have k5 := h'.2.2.2.2.1
  have k7 := h'.2.2.2.2.2.2.1
  have k8 := h'.2.2.2.2.2.2.2 (M b 2).toNat (by omega)
  rw [e0] at k5 k7 k8
  obtain ⟨k8, k9⟩ := k8
  unfold qf_X3_next ck_B rd_T
  simp (disch := omega) only [if_pos, xl_eq, oq_add_eq, h3]
  rw [up_s, e0, oq_sub_eq (by omega) (by omega) (by omega)]
  have e2 : M b 2 + 1 - 1 = M b 2 := by omega
  rw [e2, if_pos ⟨⟨k5, h6⟩, hp.1, by omega⟩, oq_and_255 (by omega), k8]
theorem next_out {nn : Nat} {M : ms_M} {b : Nat} {B : Nat → Int} {n : Nat} (h : sr_I M b B n) (hp : (n : Int) ≤ M b 2) : qf_X3_next nn b M = some (0, up_M M b 3 (if M b 3 = -1 then (n : Int) else M b 3)) := by
  obtain ⟨h1, h2, h3, h4, h5, h6, h7, h8⟩ := h
  unfold qf_X3_next
  by_cases q : M b 3 = -1
  · simp (disch := omega) only [if_pos, if_neg, xl_eq, h3]
  · simp (disch := omega) only [if_pos, if_neg, xl_eq, h3]
theorem bad_ok {nn : Nat} {M : ms_M} {b : Nat} {p : Int} : qf_X3_bad nn b p M = some (if M b 3 = -1 then up_M M b 3 p else M) := by
  unfold qf_X3_bad
  by_cases q : M b 3 = -1
  · simp (disch := omega) only [if_pos, if_neg, xl_eq]
  · simp (disch := omega) only [if_pos, if_neg, xl_eq]
/-- a byte that must keep to lo .. hi, while nothing is wrong yet -/
theorem upTo_in {nn : Nat} {M : ms_M} {b : Nat} {B : Nat → Int} {n : Nat} (h : sr_I M b B n) (hp : 0 ≤ M b 2 ∧ M b 2 < (n : Int)) (hf : M b 3 = -1) {lo hi : Int} : qf_X3_nextUpTo nn b lo hi M = some (B (M b 2).toNat, if lo ≤ B (M b 2).toNat ∧ B (M b 2).toNat ≤ hi then up_M M b 2 (M b 2 + 1) else up_M (up_M M b 2 (M b 2 + 1)) b 3 (M b 2)) := by
  have hn := h.2.1
  have ef : up_M M b 2 (M b 2 + 1) b 3 = -1 := by rw [up_n (by omega)]; exact hf
  unfold qf_X3_nextUpTo qj_X3_nextUpTo_15
  rw [next_in h hp, mx_svs]
  dsimp only
  simp only [bad_ok, mx_svs, xl_eq]
  rw [up_s, oq_sub_eq (by omega) (by omega) (by omega), if_pos ef]
  have e2 : M b 2 + 1 - 1 = M b 2 := by omega
  rw [e2]
  by_cases q0 : B (M b 2).toNat < lo
  · simp (disch := omega) only [if_pos, if_neg]
  · by_cases q1 : B (M b 2).toNat ≤ hi
    · simp (disch := omega) only [if_pos, if_neg]
    · simp (disch := omega) only [if_pos, if_neg]
theorem tagOf_ok {nn : Nat} {M : ms_M} {b : Nat} {k : Int} (hc : M b 7 ≤ 255) : qf_X3_tagOf nn b k M = some (if 1 ≤ k ∧ k ≤ M b 7 then M (b + 2) k.toNat else 0) := by
  unfold qf_X3_tagOf
  by_cases q0 : k < 1
  · simp (disch := omega) only [if_pos, if_neg]
  by_cases q1 : M b 7 < k
  · simp (disch := omega) only [if_pos, if_neg]
  simp (disch := omega) only [if_pos, if_neg, rd_ok]
theorem textAt_ok {nn : Nat} {M : ms_M} {b : Nat} {k : Int} (hc : M b 7 ≤ 255) : qf_X3_textAt nn b k M = some (if 1 ≤ k ∧ k ≤ M b 7 then M (b + 3) k.toNat else 0) := by
  unfold qf_X3_textAt
  by_cases q0 : k < 1
  · simp (disch := omega) only [if_pos, if_neg]
  by_cases q1 : M b 7 < k
  · simp (disch := omega) only [if_pos, if_neg]
  simp (disch := omega) only [if_pos, if_neg, rd_ok]
theorem textEnd_ok {nn : Nat} {M : ms_M} {b : Nat} {k : Int} (hc : M b 7 ≤ 255) : qf_X3_textEnd nn b k M = some (if 1 ≤ k ∧ k ≤ M b 7 then M (b + 4) k.toNat else 0) := by
  unfold qf_X3_textEnd
  by_cases q0 : k < 1
  · simp (disch := omega) only [if_pos, if_neg]
  by_cases q1 : M b 7 < k
  · simp (disch := omega) only [if_pos, if_neg]
  simp (disch := omega) only [if_pos, if_neg, rd_ok]
/-- the byte at p, 0 outside -/
def by_N (B : Nat → Int) (n : Nat) (p : Int) : Int := if 0 ≤ p ∧ p < (n : Int) then B p.toNat else 0
theorem partOf_ok {nn : Nat} {M : ms_M} {b : Nat} {B : Nat → Int} {n : Nat} (h : sr_I M b B n) (hc : M b 7 ≤ 255) {k i : Int} (hr : ∀ j : Nat, j ≤ 255 → 0 ≤ M (b + 3) j ∧ M (b + 3) j ≤ 7000) (hi : 0 ≤ i ∧ i ≤ 3) : qf_X3_partOf nn b k i M = some (if 1 ≤ k ∧ k ≤ M b 7 then by_N B n (M (b + 3) k.toNat + i) else 0) := by
  unfold qf_X3_partOf
  by_cases q0 : k < 1
  · simp (disch := omega) only [if_pos, if_neg]
  by_cases q1 : M b 7 < k
  · simp (disch := omega) only [if_pos, if_neg]
  have r := hr k.toNat (by omega)
  simp (disch := omega) only [if_pos, if_neg, rd_ok, xl_eq, oq_add_eq, byteAt_ok h, mx_svs]
  rfl
/-- the reference: field 113 how many bytes, 114 form, 115 into; cell 238 look -/
def sr_M (M : ms_M) (B : Nat → Int) (n : Nat) : Prop := n ≤ 6000 ∧ M 160 113 = (n : Int) ∧ ∀ i : Nat, i < n → M 238 i = B i
theorem isByte_ok {nn : Nat} {M : ms_M} {B : Nat → Int} {n : Nat} (h : sr_M M B n) {p : Int} (hp : 0 ≤ p) : qf_X13_isByte nn p M = some (if M 160 114 = -1 ∧ p < (n : Int) then (1, M) else if M 160 114 = -1 then (0, up_M M 160 114 (n : Int)) else (0, M)) := by
  obtain ⟨h1, h2, h3⟩ := h
  unfold qf_X13_isByte qj_X13_isByte_26
  rw [h2]
  by_cases q0 : M 160 114 = -1
  · by_cases q1 : p < (n : Int)
    · simp (disch := omega) only [if_pos, if_neg]
    · simp (disch := omega) only [if_pos, if_neg, xl_eq, up_s]
  · simp (disch := omega) only [if_pos, if_neg]
theorem unfit_ok {nn : Nat} {M : ms_M} {p : Int} : qf_X13_unfit nn p M = some (if M 160 114 = -1 then up_M M 160 114 p else M) := by
  unfold qf_X13_unfit
  by_cases q : M 160 114 = -1
  · simp (disch := omega) only [if_pos, if_neg, xl_eq]
  · simp (disch := omega) only [if_pos, if_neg, xl_eq]
