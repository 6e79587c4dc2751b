/-- what a function leaves as it was -/
def is_I (c : Nat) : Bool := (Nat.ble 61 c && Nat.ble c 67) || ((Nat.ble 71 c && Nat.ble c 126) || ((Nat.ble 136 c && Nat.ble c 142) || (Nat.ble 153 c && Nat.ble c 159)))
/-- cells L, fields LF (cell, number), images, bytes: all else is left -/
def nw_F (L : List Nat) (LF : List (Nat × Nat)) (bI bB : Bool) (c k : Nat) : Bool := !(L.contains c) && (!(LF.contains (c, k)) && ((!bI || !(is_I c)) && (!bB || !(Nat.beq (ly_T c) 1))))
def Fm_ {α : Type} (S : Nat → Nat → Prop) (M : ms_M) (x : Option α) (o : α → ms_M) : Prop := ∀ r, x = some r → ∀ c k, S c k → o r c k = M c k
theorem nw_sub {L1 L2 : List Nat} {F1 F2 : List (Nat × Nat)} {b1 b2 c1 c2 : Bool} (h : (L2.all (fun x => L1.contains x) && (F2.all (fun x => F1.contains x) && ((!b2 || b1) && (!c2 || c1)))) = true) : ∀ c k, nw_F L1 F1 b1 c1 c k = true → nw_F L2 F2 b2 c2 c k = true := by
  intro c k hc
  unfold nw_F at hc ⊢
  simp only [Bool.and_eq_true, Bool.or_eq_true, Bool.not_eq_true'] at h hc ⊢
  obtain ⟨h1, h0, h2, h3⟩ := h
  obtain ⟨g1, g0, g2, g3⟩ := hc
  refine ⟨?_, ?_, ?_, ?_⟩
  · cases hq : L2.contains c with
    | false => rfl
    | true =>
      have := List.all_eq_true.mp h1 c (List.contains_iff_mem.mp hq)
      rw [this] at g1; cases g1
  · cases hq : F2.contains (c, k) with
    | false => rfl
    | true =>
      have := List.all_eq_true.mp h0 _ (List.contains_iff_mem.mp hq)
      rw [this] at g0; cases g0
  · rcases h2 with h2 | h2
    · exact .inl h2
    · rcases g2 with g2 | g2
      · rw [h2] at g2; cases g2
      · exact .inr g2
  · rcases h3 with h3 | h3
    · exact .inl h3
    · rcases g3 with g3 | g3
      · rw [h3] at g3; cases g3
      · exact .inr g3
theorem nw_ne {L : List Nat} {LF : List (Nat × Nat)} {bI bB : Bool} {d : Nat} (h : L.contains d = true) : ∀ c k, nw_F L LF bI bB c k = true → c ≠ d := by
  intro c k hc e; subst e
  unfold nw_F at hc; rw [h] at hc; cases hc
theorem nw_nf {L : List Nat} {LF : List (Nat × Nat)} {bI bB : Bool} {d j : Nat} (h : LF.contains (d, j) = true) : ∀ c k, nw_F L LF bI bB c k = true → ¬ (c = d ∧ k = j) := by
  rintro c k hc ⟨e1, e2⟩; subst e1; subst e2
  unfold nw_F at hc; rw [h] at hc; simp at hc
theorem nw_ar {L : List Nat} {LF : List (Nat × Nat)} {bI bB : Bool} {c : Nat} (h : (!(L.contains c) && (LF.all (fun q => !(Nat.beq q.1 c)) && ((!bI || !(is_I c)) && (!bB || !(Nat.beq (ly_T c) 1))))) = true) : ∀ k, nw_F L LF bI bB c k = true := by
  intro k
  unfold nw_F
  simp only [Bool.and_eq_true] at h ⊢
  refine ⟨h.1, ?_, h.2.2⟩
  cases hq : LF.contains (c, k) with
  | false => rfl
  | true =>
    have h1 := List.all_eq_true.mp h.2.1 _ (List.contains_iff_mem.mp hq)
    simp only [Nat.beq_refl] at h1
    cases h1
theorem I_is : (List.range 256).all (fun c => !(Nat.beq (kc_O c) 3) || (is_I c && (is_I (c + 1) && (is_I (c + 2) && (is_I (c + 3) && (is_I (c + 4) && (is_I (c + 5) && is_I (c + 6)))))))) = true := by decide +kernel
theorem nw_neI {L : List Nat} {LF : List (Nat × Nat)} {bB : Bool} {d off : Nat} (hb : kc_O d = 3) (ho : off ≤ 6) : ∀ c k, nw_F L LF true bB c k = true → c ≠ d + off := by
  intro c k hc e
  have h1 := List.all_eq_true.mp I_is d (List.mem_range.mpr (kc_lt hb (by decide)))
  rw [hb] at h1
  simp only [Nat.beq, Bool.not_true, Bool.false_or, Bool.and_eq_true] at h1
  obtain ⟨q0, q1, q2, q3, q4, q5, q6⟩ := h1
  have : is_I c = true := by
    have ho2 : off = 0 ∨ off = 1 ∨ off = 2 ∨ off = 3 ∨ off = 4 ∨ off = 5 ∨ off = 6 := by omega
    rcases ho2 with rfl | rfl | rfl | rfl | rfl | rfl | rfl <;> (rw [e]; assumption)
  unfold nw_F at hc; rw [this] at hc; simp at hc
theorem nw_fI {L : List Nat} {LF : List (Nat × Nat)} {bB : Bool} {d j : Nat} (hb : kc_O d = 3) : ∀ c k, nw_F L LF true bB c k = true → ¬ (c = d ∧ k = j) := fun c k hc e => nw_neI (off := 0) hb (by decide) c k hc e.1
theorem nw_neB {L : List Nat} {LF : List (Nat × Nat)} {bI : Bool} {d : Nat} (hb : ly_T d = 1) : ∀ c k, nw_F L LF bI true c k = true → c ≠ d := by
  intro c k hc e; subst e
  unfold nw_F at hc; rw [hb] at hc; simp [Nat.beq] at hc
section
variable {α β γ : Type} {S S2 : Nat → Nat → Prop} {M h : ms_M} {o : α → ms_M}
theorem fm_no : Fm_ S M (none : Option α) o := by intro r hr; cases hr
theorem fm_ret {r : α} (F : ∀ c k, S c k → o r c k = M c k) : Fm_ S M (some r) o := by intro r2 hr; cases hr; exact F
theorem fm_if {p : Prop} [Decidable p] {A B : Option α} (h1 : Fm_ S M A o) (h2 : Fm_ S M B o) : Fm_ S M (if p then A else B) o := by
  by_cases q : p
  · rw [if_pos q]; exact h1
  · rw [if_neg q]; exact h2
theorem fm_ck {p : Prop} [Decidable p] {A : Option α} (h1 : p → Fm_ S M A o) : Fm_ S M (ck_B p A) o := by
  unfold ck_B
  by_cases q : p
  · rw [if_pos q]; exact h1 q
  · rw [if_neg q]; exact fm_no
theorem fm_xl {v : β} {G : β → Option α} (h1 : ∀ y, Fm_ S M (G y) o) : Fm_ S M (xl v G) o := h1 v
theorem fm_c6 {z : Int} {G : Int → Option α} (h1 : ∀ y, Fm_ S M (G y) o) : Fm_ S M (ck_6 z G) o := by unfold ck_6; exact fm_if (h1 _) fm_no
theorem fm_rd {n : Int} {c : Nat} {j : Int} {G : Int → Option α} (h1 : ∀ y, Fm_ S M (G y) o) : Fm_ S M (rd_A n c j h G) o := by unfold rd_A; exact fm_if (h1 _) fm_no
theorem fm_rdS {c : Nat} {j : Int} {G : Int → Option α} (h1 : ∀ y, Fm_ S M (G y) o) : Fm_ S M (rd_S c j h G) o := by unfold rd_S; exact fm_if (h1 _) fm_no
theorem fm_rdT {c : Nat} {j : Int} {G : Int → Option α} (h1 : ∀ y, Fm_ S M (G y) o) : Fm_ S M (rd_T c j h G) o := by unfold rd_T; exact fm_if (h1 _) fm_no
theorem fm_rdX {a : Nat} {j : Int} {G : Int → Option α} (h1 : ∀ y, Fm_ S M (G y) o) : Fm_ S M (rd_X a j G) o := by
  unfold rd_X; cases xsc a (Int32.ofInt j) with
  | none => exact fm_no
  | some v => exact h1 _
theorem fm_lnX {a : Nat} {G : Int → Option α} (h1 : ∀ y, Fm_ S M (G y) o) : Fm_ S M (ln_X a G) o := by
  unfold ln_X; cases xsl a with
  | none => exact fm_no
  | some v => exact h1 _
theorem fm_lnS {c : Nat} {G : Int → Option α} (h1 : ∀ y, Fm_ S M (G y) o) : Fm_ S M (ln_S c h G) o := by unfold ln_S; exact fm_if (h1 _) fm_no
theorem up_ff {c k : Nat} {v : Int} (F : ∀ c k, S c k → h c k = M c k) (hn : ∀ d i, S d i → ¬ (d = c ∧ i = k)) : ∀ d i, S d i → up_M h c k v d i = M d i := fun d i hd => by unfold up_M; rw [if_neg (hn d i hd)]; exact F d i hd
theorem up_fr {c k : Nat} {v : Int} (F : ∀ c k, S c k → h c k = M c k) (hn : ∀ d i, S d i → d ≠ c) : ∀ d i, S d i → up_M h c k v d i = M d i := up_ff F (fun d i hd e => hn d i hd e.1)
theorem fm_up {c k : Nat} {v : Int} {G : ms_M → Option α} (F : ∀ c k, S c k → h c k = M c k) (hn : ∀ d i, S d i → ¬ (d = c ∧ i = k)) (h1 : ∀ M2, (∀ c k, S c k → M2 c k = M c k) → Fm_ S M (G M2) o) : Fm_ S M (xl (up_M h c k v) G) o := h1 _ (up_ff F hn)
theorem fm_wA {n : Int} {c : Nat} {j v : Int} {G : ms_M → Option α} (F : ∀ c k, S c k → h c k = M c k) (hn : ∀ d i, S d i → d ≠ c) (h1 : ∀ M2, (∀ c k, S c k → M2 c k = M c k) → Fm_ S M (G M2) o) : Fm_ S M (wr_A n c j v h G) o := by unfold wr_A; exact fm_if (h1 _ (up_fr F hn)) fm_no
theorem fm_wS {c : Nat} {j v : Int} {G : ms_M → Option α} (F : ∀ c k, S c k → h c k = M c k) (hn : ∀ d i, S d i → d ≠ c) (h1 : ∀ M2, (∀ c k, S c k → M2 c k = M c k) → Fm_ S M (G M2) o) : Fm_ S M (wr_S c j v h G) o := by unfold wr_S; exact fm_if (h1 _ (up_fr F hn)) fm_no
theorem fm_wB {n : Int} {c : Nat} {j v : Int} {G : ms_M → Option α} (F : ∀ c k, S c k → h c k = M c k) (hn : ∀ d i, S d i → d ≠ c) (h1 : ∀ M2, (∀ c k, S c k → M2 c k = M c k) → Fm_ S M (G M2) o) : Fm_ S M (wr_B n c j v h G) o := by unfold wr_B; exact fm_if (h1 _ (up_fr F hn)) fm_no
theorem fm_wZ {n : Int} {c : Nat} {j v : Int} {G : ms_M → Option α} (F : ∀ c k, S c k → h c k = M c k) (hn : ∀ d i, S d i → d ≠ c) (h1 : ∀ M2, (∀ c k, S c k → M2 c k = M c k) → Fm_ S M (G M2) o) : Fm_ S M (wr_Z n c j v h G) o := by unfold wr_Z; exact fm_if (h1 _ (up_fr F hn)) fm_no
theorem fm_wR {c k : Nat} {v : Int} {G : ms_M → Option α} (F : ∀ c k, S c k → h c k = M c k) (hn : ∀ d i, S d i → ¬ (d = c ∧ i = k)) (h1 : ∀ M2, (∀ c k, S c k → M2 c k = M c k) → Fm_ S M (G M2) o) : Fm_ S M (wr_R c k v h G) o := by unfold wr_R; exact fm_if (h1 _ (up_ff F hn)) fm_no
theorem fm_wQI {c : Nat} {j v : Int} {G : ms_M → Option α} (F : ∀ c k, S c k → h c k = M c k) (hn : ∀ d i, S d i → d ≠ c) (h1 : ∀ M2, (∀ c k, S c k → M2 c k = M c k) → Fm_ S M (G M2) o) : Fm_ S M (wr_QI c j v h G) o := by unfold wr_QI; exact fm_if (h1 _ (up_fr F hn)) fm_no
theorem fm_wQB {c : Nat} {j v : Int} {G : ms_M → Option α} (F : ∀ c k, S c k → h c k = M c k) (hn : ∀ d i, S d i → d ≠ c) (h1 : ∀ M2, (∀ c k, S c k → M2 c k = M c k) → Fm_ S M (G M2) o) : Fm_ S M (wr_QB c j v h G) o := by unfold wr_QB; exact fm_if (h1 _ (up_fr F hn)) fm_no
theorem fm_wT {c : Nat} {j v : Int} {G : ms_M → Option α} (F : ∀ c k, S c k → h c k = M c k) (hn : ly_T c = 1 → ∀ d i, S d i → d ≠ c) (h1 : ∀ M2, (∀ c k, S c k → M2 c k = M c k) → Fm_ S M (G M2) o) : Fm_ S M (wr_T c j v h G) o := by
  unfold wr_T; split
  · rename_i q; exact h1 _ (up_fr F (hn q.1.2))
  · exact fm_no
theorem fm_cp {a : Nat} {sp : Int} {b : Nat} {dp n : Int} {G : ms_M → Option α} (F : ∀ c k, S c k → h c k = M c k) (hn : ly_T a = ly_T b → ∀ d i, S d i → d ≠ b) (h1 : ∀ M2, (∀ c k, S c k → M2 c k = M c k) → Fm_ S M (G M2) o) : Fm_ S M (cp_S a sp b dp n h G) o := by
  unfold cp_S; split
  · rename_i q
    refine h1 _ (fun c k hc => ?_)
    rw [← F c k hc]; unfold cp_M; rw [if_neg (fun z => hn q.1.2.2.1 c k hc z.1)]
  · exact fm_no
theorem fm_nw {y : Int} {G : Nat → ms_M → Option α} (F : ∀ c k, S c k → h c k = M c k) (hn : ∀ d, ly_T d = 1 → ∀ c k, S c k → c ≠ d) (h1 : ∀ b M2, ly_T b = 1 → (∀ c k, S c k → M2 c k = M c k) → Fm_ S M (G b M2) o) : Fm_ S M (nw_B y h G) o := by
  unfold nw_B; split
  · rename_i q
    have hb : ly_T (cn_M h) = 1 := ly_Tbig (by unfold cn_M; omega)
    refine h1 _ _ hb (fun c k hc => ?_)
    rw [← F c k hc]; unfold nw_M
    rw [if_neg (hn _ hb c k hc), if_neg (fun z => hn 900000 (ly_Tbig (by decide)) c k hc z.1), if_neg (fun z => hn 900001 (ly_Tbig (by decide)) c k hc z.1)]
  · exact fm_no
theorem fm_pu {x : Option β} {G : β → Option α} (h1 : ∀ r, Fm_ S M (G r) o) : Fm_ S M (mx_sv x G) o := by
  cases x with
  | none => exact fm_no
  | some r => exact h1 r
theorem fm_ca {x : Option β} {o2 : β → ms_M} {G : β → Option α} (F : ∀ c k, S c k → h c k = M c k) (hc : Fm_ S2 h x o2) (hs : ∀ c k, S c k → S2 c k) (h1 : ∀ r, (∀ c k, S c k → o2 r c k = M c k) → Fm_ S M (G r) o) : Fm_ S M (mx_sv x G) o := by
  cases x with
  | none => exact fm_no
  | some r => exact h1 r (fun c k q => by rw [hc r rfl c k (hs c k q)]; exact F c k q)
theorem fm_tl {x : Option α} (F : ∀ c k, S c k → h c k = M c k) (hc : Fm_ S2 h x o) (hs : ∀ c k, S c k → S2 c k) : Fm_ S M x o := by
  intro r hr c k q; rw [hc r hr c k (hs c k q)]; exact F c k q
end
