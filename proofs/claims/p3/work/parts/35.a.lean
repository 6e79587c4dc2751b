theorem to_of2 {z : Int} (h : -2147483648 ≤ z ∧ z ≤ 2147483647) : (Int32.ofInt z).toInt = z := to_of h
theorem oq_add_eq {x y : Int} (hx : -2147483648 ≤ x ∧ x ≤ 2147483647) (hy : -2147483648 ≤ y ∧ y ≤ 2147483647) (h : -2147483648 ≤ x + y ∧ x + y ≤ 2147483647) : oq_add x y = x + y := by
  unfold oq_add; rw [Int32.toInt_add, to_of hx, to_of hy]; exact Int.bmod_eq_of_le (by omega) (by omega)
theorem oq_sub_eq {x y : Int} (hx : -2147483648 ≤ x ∧ x ≤ 2147483647) (hy : -2147483648 ≤ y ∧ y ≤ 2147483647) (h : -2147483648 ≤ x - y ∧ x - y ≤ 2147483647) : oq_sub x y = x - y := by
  unfold oq_sub; rw [Int32.toInt_sub, to_of hx, to_of hy]; exact Int.bmod_eq_of_le (by omega) (by omega)
theorem oq_mul_eq {x y : Int} (hx : -2147483648 ≤ x ∧ x ≤ 2147483647) (hy : -2147483648 ≤ y ∧ y ≤ 2147483647) (h : -2147483648 ≤ x * y ∧ x * y ≤ 2147483647) : oq_mul x y = x * y := by
  unfold oq_mul; rw [Int32.toInt_mul, to_of hx, to_of hy]; exact Int.bmod_eq_of_le (by omega) (by omega)
theorem oq_add_rg (x y : Int) : -2147483648 ≤ oq_add x y ∧ oq_add x y ≤ 2147483647 := rg_i _
theorem oq_sub_rg (x y : Int) : -2147483648 ≤ oq_sub x y ∧ oq_sub x y ≤ 2147483647 := rg_i _
theorem oq_mul_rg (x y : Int) : -2147483648 ≤ oq_mul x y ∧ oq_mul x y ≤ 2147483647 := rg_i _
theorem rd_Zok {α : Type} {X : Nat × (Nat → Int32)} {j : Int} {G : Int → Option α} (h : 0 ≤ j ∧ j < (X.1 : Int)) : rd_Z X j G = G (X.2 j.toNat).toInt := by unfold rd_Z; rw [if_pos h]
theorem xl_eq {α β : Type} (v : α) (F : α → Option β) : xl v F = F v := rfl
theorem go_if {α : Type} {p : Prop} [Decidable p] {A B : Option α} {Q : Option α → Prop} (h1 : p → Q A) (h2 : ¬ p → Q B) : Q (if p then A else B) := by
  by_cases h : p
  · rw [if_pos h]; exact h1 h
  · rw [if_neg h]; exact h2 h
/-- an Int that a Java int can be -/
abbrev in_R (x : Int) : Prop := -2147483648 ≤ x ∧ x ≤ 2147483647
/-- what each of the sixteen calls must keep: an invariant of the calls done, the memory, cells and slots -/
def stu_feed (nn : Nat) (V : Nat → ms_M → Nat → Nat → Prop) : Prop := ∀ t M c s, t < 512 → V t M c s → ∀ a b d e f : Int, in_R a → in_R b → in_R d → in_R e → in_R f → ∃ x M1 y M2, qf_X12_feed nn a b d e f M = some (x, M1) ∧ qf_X13_feed nn a b d e f M1 = some (y, M2) ∧ V (t + 1) M2 c s
def st_end (nn : Nat) (V : Nat → ms_M → Nat → Nat → Prop) : Prop := ∀ t M c s, t < 512 → V t M c s → ∀ a : Int, in_R a → ∃ r M1 M2, qf_X12_end nn a M = some (r, M1) ∧ qf_X13_end nn a M1 = some (r, M2) ∧ V (t + 1) M2 c s
def stu_compile (nn : Nat) (V : Nat → ms_M → Nat → Nat → Prop) : Prop := ∀ t M c s, t < 512 → V t M c s → ∃ x M1 c1 s1 y M2, qf_X12_compile nn M = some (x, M1, c1, s1) ∧ qf_X13_compile nn M1 = some (y, M2) ∧ V (t + 1) M2 (c + c1) (s + s1)
def stu_fault (nn : Nat) (V : Nat → ms_M → Nat → Nat → Prop) : Prop := ∀ t M c s, t < 512 → V t M c s → ∀ a : Int, in_R a → ∃ x y, qf_X12_fault nn a M = some x ∧ qf_X13_fault nn a M = some y
def stu_image (nn : Nat) (V : Nat → ms_M → Nat → Nat → Prop) : Prop := ∀ t M c s, t < 512 → V t M c s → ∀ a b : Int, in_R a → in_R b → ∃ x y, qf_X12_image nn a b M = some x ∧ qf_X13_image nn a b M = some y
def stu_load (nn : Nat) (V : Nat → ms_M → Nat → Nat → Prop) : Prop := ∀ t M c s, t < 512 → V t M c s → ∃ x M1 c1 s1 y M2, qf_X12_load nn M = some (x, M1, c1, s1) ∧ qf_X13_load nn M1 = some (y, M2) ∧ V (t + 1) M2 (c + c1) (s + s1)
def stu_keep (nn : Nat) (V : Nat → ms_M → Nat → Nat → Prop) : Prop := ∀ t M c s, t < 512 → V t M c s → ∀ a : Int, in_R a → ∃ x M1 c1 s1 y M2, qf_X12_keep nn a M = some (x, M1, c1, s1) ∧ qf_X13_keep nn a M1 = some (y, M2) ∧ V (t + 1) M2 (c + c1) (s + s1)
def stu_patch (nn : Nat) (V : Nat → ms_M → Nat → Nat → Prop) : Prop := ∀ t M c s, t < 512 → V t M c s → ∀ a b d : Int, in_R a → in_R b → in_R d → ∃ x M1 y M2, qf_X12_patch nn a b d M = some (x, M1) ∧ qf_X13_patch nn a b d M1 = some (y, M2) ∧ V (t + 1) M2 c s
def st_clear (nn : Nat) (V : Nat → ms_M → Nat → Nat → Prop) : Prop := ∀ t M c s, t < 512 → V t M c s → ∃ M1 M2, qf_X12_clear nn M = some M1 ∧ qf_X13_clear nn M1 = some M2 ∧ V (t + 1) M2 c s
def stu_verify (nn : Nat) (V : Nat → ms_M → Nat → Nat → Prop) : Prop := ∀ t M c s, t < 512 → V t M c s → ∃ x M1 y M2, qf_X12_verify nn M = some (x, M1) ∧ qf_X13_verify nn M1 = some (y, M2) ∧ V (t + 1) M2 c s
def stu_where (nn : Nat) (V : Nat → ms_M → Nat → Nat → Prop) : Prop := ∀ t M c s, t < 512 → V t M c s → ∀ a : Int, in_R a → ∃ x y, qf_X12_where nn a M = some x ∧ qf_X13_where nn a M = some y
def stu_start (nn : Nat) (V : Nat → ms_M → Nat → Nat → Prop) : Prop := ∀ t M c s, t < 512 → V t M c s → ∀ a b : Int, in_R a → in_R b → ∃ x M1 y M2, qf_X12_start nn a b M = some (x, M1) ∧ qf_X13_start nn a b M1 = some (y, M2) ∧ V (t + 1) M2 c s
def stu_run (nn : Nat) (V : Nat → ms_M → Nat → Nat → Prop) : Prop := ∀ t M c s, t < 512 → V t M c s → ∀ a : Int, in_R a → ∃ x M1 y M2, qf_X12_run nn a M = some (x, M1) ∧ qf_X13_run nn a M1 = some (y, M2) ∧ V (t + 1) M2 c s
def stu_look (nn : Nat) (V : Nat → ms_M → Nat → Nat → Prop) : Prop := ∀ t M c s, t < 512 → V t M c s → ∀ a : Int, in_R a → ∃ x y, qf_X12_look nn a M = some x ∧ qf_X13_look nn a M = some y
def stu_out (nn : Nat) (V : Nat → ms_M → Nat → Nat → Prop) : Prop := ∀ t M c s, t < 512 → V t M c s → ∀ a : Int, in_R a → ∃ x y, qf_X12_out nn a M = some x ∧ qf_X13_out nn a M = some y
def stu_type (nn : Nat) (V : Nat → ms_M → Nat → Nat → Prop) : Prop := ∀ t M c s, t < 512 → V t M c s → ∀ a b : Int, in_R a → in_R b → ∃ x y, qf_X12_type nn a b M = some x ∧ qf_X13_type_ nn a b M = some y
theorem law_inv {X : Nat × (Nat → Int32)} (hX : X.1 ≤ 3072) {nn : Nat} {V : Nat → ms_M → Nat → Nat → Prop} (hm : ∀ t M c s, V t M c s → V (t + 1) M c s) (h_feed : stu_feed nn V) (h_end : st_end nn V) (h_compile : stu_compile nn V) (h_fault : stu_fault nn V) (h_image : stu_image nn V) (h_load : stu_load nn V) (h_keep : stu_keep nn V) (h_patch : stu_patch nn V) (h_clear : st_clear nn V) (h_verify : stu_verify nn V) (h_where : stu_where nn V) (h_start : stu_start nn V) (h_run : stu_run nn V) (h_look : stu_look nn V) (h_out : stu_out nn V) (h_type : stu_type nn V) : ∀ (k t : Nat) (l3 : Int) (M : ms_M) (c s : Nat), l3 = 6 * (t : Int) → t ≤ 512 → 513 ≤ k + t → V t M c s → ∃ M2 c2 s2 t2, qw_L_law_18 X nn k l3 M c s = some (1, M2, c2, s2) ∧ V t2 M2 c2 s2 := by
  intro k
  induction k with
  | zero => intro t l3 M c s _ h1 h2; omega
  | succ k ih =>
    intro t l3 M c s hl h1 h2 hv
    unfold qw_L_law_18
    rw [xl_eq, oq_sub_eq (by omega) (by omega) (by omega)]
    by_cases hq : (X.1 : Int) - 6 < l3
    · rw [if_pos hq]; exact ⟨M, c, s, t, rfl, hv⟩
    · rw [if_neg hq]
      have ht : t < 512 := by omega
      have e1 : oq_add l3 1 = l3 + 1 := oq_add_eq (by omega) (by omega) (by omega)
      have e2 : oq_add l3 2 = l3 + 2 := oq_add_eq (by omega) (by omega) (by omega)
      have e3 : oq_add l3 3 = l3 + 3 := oq_add_eq (by omega) (by omega) (by omega)
      have e4 : oq_add l3 4 = l3 + 4 := oq_add_eq (by omega) (by omega) (by omega)
      have e5 : oq_add l3 5 = l3 + 5 := oq_add_eq (by omega) (by omega) (by omega)
      have e6 : oq_add l3 6 = l3 + 6 := oq_add_eq (by omega) (by omega) (by omega)
      have go : ∀ M2 c2 s2, V (t + 1) M2 c2 s2 → ∃ M3 c3 s3 t3, qw_L_law_18 X nn k (l3 + 6) M2 c2 s2 = some (1, M3, c3, s3) ∧ V t3 M3 c3 s3 := fun M2 c2 s2 h => ih (t + 1) (l3 + 6) M2 c2 s2 (by omega) (by omega) (by omega) h
      have z0 : ∀ {α : Type} {G : Int → Option α}, rd_Z X l3 G = G (X.2 l3.toNat).toInt := fun {_ _} => rd_Zok (by omega)
      have z1 : ∀ {α : Type} {G : Int → Option α}, rd_Z X (l3 + 1) G = G (X.2 (l3 + 1).toNat).toInt := fun {_ _} => rd_Zok (by omega)
      have z2 : ∀ {α : Type} {G : Int → Option α}, rd_Z X (l3 + 2) G = G (X.2 (l3 + 2).toNat).toInt := fun {_ _} => rd_Zok (by omega)
      have z3 : ∀ {α : Type} {G : Int → Option α}, rd_Z X (l3 + 3) G = G (X.2 (l3 + 3).toNat).toInt := fun {_ _} => rd_Zok (by omega)
      have z4 : ∀ {α : Type} {G : Int → Option α}, rd_Z X (l3 + 4) G = G (X.2 (l3 + 4).toNat).toInt := fun {_ _} => rd_Zok (by omega)
      have z5 : ∀ {α : Type} {G : Int → Option α}, rd_Z X (l3 + 5) G = G (X.2 (l3 + 5).toNat).toInt := fun {_ _} => rd_Zok (by omega)
      try unfold qj_L_law_436
      try unfold qj_L_law_323
      try unfold qj_L_law_196
      simp only [xl_eq, e1, e2, e3, e4, e5, e6, z0, z1, z2, z3, z4, z5]
      refine go_if (Q := fun o => ∃ M2 c2 s2 t2, o = some (1, M2, c2, s2) ∧ V t2 M2 c2 s2) (fun _ => ?_) (fun _ => ?_)
      · obtain ⟨x, M1, y, M2, g1, g2, g3⟩ := h_feed t M c s ht hv (X.2 (l3 + 1).toNat).toInt (X.2 (l3 + 2).toNat).toInt (X.2 (l3 + 3).toNat).toInt (X.2 (l3 + 4).toNat).toInt (X.2 (l3 + 5).toNat).toInt (rg_i _) (rg_i _) (rg_i _) (rg_i _) (rg_i _)
        show ∃ M2 c2 s2 t2, _ = some (1, M2, c2, s2) ∧ V t2 M2 c2 s2
        rw [g1, mx_svs]; dsimp only; rw [g2, mx_svs]; dsimp only; exact go _ _ _ g3
      refine go_if (Q := fun o => ∃ M2 c2 s2 t2, o = some (1, M2, c2, s2) ∧ V t2 M2 c2 s2) (fun _ => ?_) (fun _ => ?_)
      · obtain ⟨r, M1, M2, g1, g2, g3⟩ := h_end t M c s ht hv (X.2 (l3 + 1).toNat).toInt (rg_i _)
        show ∃ M2 c2 s2 t2, _ = some (1, M2, c2, s2) ∧ V t2 M2 c2 s2
        rw [g1, mx_svs]; dsimp only; rw [g2, mx_svs]; dsimp only; rw [if_pos rfl]; exact go _ _ _ g3
      refine go_if (Q := fun o => ∃ M2 c2 s2 t2, o = some (1, M2, c2, s2) ∧ V t2 M2 c2 s2) (fun _ => ?_) (fun _ => ?_)
      · obtain ⟨x, M1, c1, s1, y, M2, g1, g2, g3⟩ := h_compile t M c s ht hv  
        show ∃ M2 c2 s2 t2, _ = some (1, M2, c2, s2) ∧ V t2 M2 c2 s2
        rw [g1, mx_svs]; dsimp only; rw [g2, mx_svs]; dsimp only; exact go _ _ _ g3
      refine go_if (Q := fun o => ∃ M2 c2 s2 t2, o = some (1, M2, c2, s2) ∧ V t2 M2 c2 s2) (fun _ => ?_) (fun _ => ?_)
      · obtain ⟨x, y, g1, g2⟩ := h_fault t M c s ht hv (X.2 (l3 + 1).toNat).toInt (rg_i _)
        show ∃ M2 c2 s2 t2, _ = some (1, M2, c2, s2) ∧ V t2 M2 c2 s2
        rw [g1, mx_svs, g2, mx_svs]; exact go _ _ _ (hm _ _ _ _ hv)
      refine go_if (Q := fun o => ∃ M2 c2 s2 t2, o = some (1, M2, c2, s2) ∧ V t2 M2 c2 s2) (fun _ => ?_) (fun _ => ?_)
      · obtain ⟨x, y, g1, g2⟩ := h_image t M c s ht hv (X.2 (l3 + 1).toNat).toInt (X.2 (l3 + 2).toNat).toInt (rg_i _) (rg_i _)
        show ∃ M2 c2 s2 t2, _ = some (1, M2, c2, s2) ∧ V t2 M2 c2 s2
        rw [g1, mx_svs, g2, mx_svs]; exact go _ _ _ (hm _ _ _ _ hv)
      refine go_if (Q := fun o => ∃ M2 c2 s2 t2, o = some (1, M2, c2, s2) ∧ V t2 M2 c2 s2) (fun _ => ?_) (fun _ => ?_)
      · obtain ⟨x, M1, c1, s1, y, M2, g1, g2, g3⟩ := h_load t M c s ht hv  
        show ∃ M2 c2 s2 t2, _ = some (1, M2, c2, s2) ∧ V t2 M2 c2 s2
        rw [g1, mx_svs]; dsimp only; rw [g2, mx_svs]; dsimp only; exact go _ _ _ g3
      refine go_if (Q := fun o => ∃ M2 c2 s2 t2, o = some (1, M2, c2, s2) ∧ V t2 M2 c2 s2) (fun _ => ?_) (fun _ => ?_)
      · obtain ⟨x, M1, c1, s1, y, M2, g1, g2, g3⟩ := h_keep t M c s ht hv (X.2 (l3 + 1).toNat).toInt (rg_i _)
        show ∃ M2 c2 s2 t2, _ = some (1, M2, c2, s2) ∧ V t2 M2 c2 s2
        rw [g1, mx_svs]; dsimp only; rw [g2, mx_svs]; dsimp only; exact go _ _ _ g3
      refine go_if (Q := fun o => ∃ M2 c2 s2 t2, o = some (1, M2, c2, s2) ∧ V t2 M2 c2 s2) (fun _ => ?_) (fun _ => ?_)
      · obtain ⟨x, M1, y, M2, g1, g2, g3⟩ := h_patch t M c s ht hv (X.2 (l3 + 1).toNat).toInt (X.2 (l3 + 2).toNat).toInt (X.2 (l3 + 3).toNat).toInt (rg_i _) (rg_i _) (rg_i _)
        show ∃ M2 c2 s2 t2, _ = some (1, M2, c2, s2) ∧ V t2 M2 c2 s2
        rw [g1, mx_svs]; dsimp only; rw [g2, mx_svs]; dsimp only; exact go _ _ _ g3
      refine go_if (Q := fun o => ∃ M2 c2 s2 t2, o = some (1, M2, c2, s2) ∧ V t2 M2 c2 s2) (fun _ => ?_) (fun _ => ?_)
      · obtain ⟨M1, M2, g1, g2, g3⟩ := h_clear t M c s ht hv  
        show ∃ M2 c2 s2 t2, _ = some (1, M2, c2, s2) ∧ V t2 M2 c2 s2
        rw [g1, mx_svs, g2, mx_svs]; exact go _ _ _ g3
      refine go_if (Q := fun o => ∃ M2 c2 s2 t2, o = some (1, M2, c2, s2) ∧ V t2 M2 c2 s2) (fun _ => ?_) (fun _ => ?_)
      · obtain ⟨x, M1, y, M2, g1, g2, g3⟩ := h_verify t M c s ht hv  
        show ∃ M2 c2 s2 t2, _ = some (1, M2, c2, s2) ∧ V t2 M2 c2 s2
        rw [g1, mx_svs]; dsimp only; rw [g2, mx_svs]; dsimp only; exact go _ _ _ g3
      refine go_if (Q := fun o => ∃ M2 c2 s2 t2, o = some (1, M2, c2, s2) ∧ V t2 M2 c2 s2) (fun _ => ?_) (fun _ => ?_)
      · obtain ⟨x, y, g1, g2⟩ := h_where t M c s ht hv (X.2 (l3 + 1).toNat).toInt (rg_i _)
        show ∃ M2 c2 s2 t2, _ = some (1, M2, c2, s2) ∧ V t2 M2 c2 s2
        rw [g1, mx_svs, g2, mx_svs]; exact go _ _ _ (hm _ _ _ _ hv)
      refine go_if (Q := fun o => ∃ M2 c2 s2 t2, o = some (1, M2, c2, s2) ∧ V t2 M2 c2 s2) (fun _ => ?_) (fun _ => ?_)
      · obtain ⟨x, M1, y, M2, g1, g2, g3⟩ := h_start t M c s ht hv (X.2 (l3 + 1).toNat).toInt (X.2 (l3 + 2).toNat).toInt (rg_i _) (rg_i _)
        show ∃ M2 c2 s2 t2, _ = some (1, M2, c2, s2) ∧ V t2 M2 c2 s2
        rw [g1, mx_svs]; dsimp only; rw [g2, mx_svs]; dsimp only; exact go _ _ _ g3
      refine go_if (Q := fun o => ∃ M2 c2 s2 t2, o = some (1, M2, c2, s2) ∧ V t2 M2 c2 s2) (fun _ => ?_) (fun _ => ?_)
      · obtain ⟨x, M1, y, M2, g1, g2, g3⟩ := h_run t M c s ht hv (X.2 (l3 + 1).toNat).toInt (rg_i _)
        show ∃ M2 c2 s2 t2, _ = some (1, M2, c2, s2) ∧ V t2 M2 c2 s2
        rw [g1, mx_svs]; dsimp only; rw [g2, mx_svs]; dsimp only; exact go _ _ _ g3
      refine go_if (Q := fun o => ∃ M2 c2 s2 t2, o = some (1, M2, c2, s2) ∧ V t2 M2 c2 s2) (fun _ => ?_) (fun _ => ?_)
      · obtain ⟨x, y, g1, g2⟩ := h_look t M c s ht hv (X.2 (l3 + 1).toNat).toInt (rg_i _)
        show ∃ M2 c2 s2 t2, _ = some (1, M2, c2, s2) ∧ V t2 M2 c2 s2
        rw [g1, mx_svs, g2, mx_svs]; exact go _ _ _ (hm _ _ _ _ hv)
      refine go_if (Q := fun o => ∃ M2 c2 s2 t2, o = some (1, M2, c2, s2) ∧ V t2 M2 c2 s2) (fun _ => ?_) (fun _ => ?_)
      · obtain ⟨x, y, g1, g2⟩ := h_out t M c s ht hv (X.2 (l3 + 1).toNat).toInt (rg_i _)
        show ∃ M2 c2 s2 t2, _ = some (1, M2, c2, s2) ∧ V t2 M2 c2 s2
        rw [g1, mx_svs, g2, mx_svs]; exact go _ _ _ (hm _ _ _ _ hv)
      refine go_if (Q := fun o => ∃ M2 c2 s2 t2, o = some (1, M2, c2, s2) ∧ V t2 M2 c2 s2) (fun _ => ?_) (fun _ => ?_)
      · obtain ⟨x, y, g1, g2⟩ := h_type t M c s ht hv (X.2 (l3 + 1).toNat).toInt (X.2 (l3 + 2).toNat).toInt (rg_i _) (rg_i _)
        show ∃ M2 c2 s2 t2, _ = some (1, M2, c2, s2) ∧ V t2 M2 c2 s2
        rw [g1, mx_svs, g2, mx_svs]; exact go _ _ _ (hm _ _ _ _ hv)
      exact go _ _ _ (hm _ _ _ _ hv)
theorem law_end {L : Nat} {xs : Nat → Int32} (hL : L ≤ 3072) {nn : Nat} (hn : nn = 1000000) {V : Nat → ms_M → Nat → Nat → Prop} (hm : ∀ t M c s, V t M c s → V (t + 1) M c s) (h_feed : stu_feed nn V) (h_end : st_end nn V) (h_compile : stu_compile nn V) (h_fault : stu_fault nn V) (h_image : stu_image nn V) (h_load : stu_load nn V) (h_keep : stu_keep nn V) (h_patch : stu_patch nn V) (h_clear : st_clear nn V) (h_verify : stu_verify nn V) (h_where : stu_where nn V) (h_start : stu_start nn V) (h_run : stu_run nn V) (h_look : stu_look nn V) (h_out : stu_out nn V) (h_type : stu_type nn V) (h0 : V 0 M_0 256 648382) (hb : ∀ t M c s, V t M c s → c ≤ 600000 ∧ s ≤ 7302250) : ∃ h2 mc ms, f_L_law (L, xs) nn [] = some (1, h2, mc, ms) ∧ mc ≤ 600000 ∧ ms ≤ 7302250 := by
  obtain ⟨M2, c2, s2, t2, g1, g2⟩ := law_inv (X := (L, xs)) hL hm h_feed h_end h_compile h_fault h_image h_load h_keep h_patch h_clear h_verify h_where h_start h_run h_look h_out h_type nn 0 0 M_0 256 648382 (by omega) (by omega) (by omega) h0
  obtain ⟨h2, g3⟩ := law_flat hL hn g1
  exact ⟨h2, c2, s2, g3, hb _ _ _ _ g2⟩
