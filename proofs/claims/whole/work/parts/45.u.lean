/- CODE of both sides: each step keeps it -/
section
variable {nn : Nat} {K V : Nat → Int} {C : Nat → Nat} {W : Nat → List Int} {n F : Nat} {own : Int} {a b T h g u m w : ms_M} {PB : Nat → Prop} {WL : Int → Int → Prop} {L L2 : List (Int × Int)}
theorem ma_c (M : MA K V C W n F own a b T PB WL L h m) (e1 : ∀ cc x : Nat, RLc cc x → g cc x = h cc x) (o4 : h 34 4 ≤ g 34 4) : MA K V C W n F own a b T PB WL L g m := by
  obtain ⟨c, ⟨j, jb⟩, f, mb⟩ := M
  refine ⟨cby_k c (fun cc x z => e1 cc x (by unfold RLc; omega)) (fun _ _ _ => rfl), ⟨j, jb⟩, frk_k f (fun cc x z => e1 cc x (by unfold RLc; omega)) ⟨by rw [e1 34 1 (by unfold RLc; omega)]; exact Int.le_refl _, by rw [e1 34 8 (by unfold RLc; omega)]; exact Int.le_refl _, o4⟩ (fun _ _ _ => rfl) (Int.le_refl _) (Int.le_refl _) (Int.le_refl _), mb_k mb (fun cc x z => e1 cc x (by unfold RLc; omega)) (fun z => by rw [e1 34 15 (by unfold RLc; omega)]; exact z) (fun _ _ _ => rfl)⟩
theorem ma_r (M : MA K V C W n F own a b T PB WL L h m) (e2 : ∀ cc x : Nat, RLm cc x → w cc x = m cc x) : MA K V C W n F own a b T PB WL L h w := by
  obtain ⟨c, ⟨j, jb⟩, f, mb⟩ := M
  have x68 := e2 160 68 (by unfold RLm; omega)
  refine ⟨cby_k c (fun _ _ _ => rfl) (fun cc x z => e2 cc x (by unfold RLm; omega)), ⟨jl_k j (fun cc x z => e2 cc x (by unfold RLm; omega)), jlb_k jb (by omega) (by rw [e2 160 88 (by unfold RLm; omega)]; exact Int.le_refl _)⟩, frk_k f (fun _ _ _ => rfl) ⟨Int.le_refl _, Int.le_refl _, Int.le_refl _⟩ (fun cc x z => e2 cc x (by unfold RLm; omega)) (by omega) (by omega) (by omega), mb_k mb (fun _ _ _ => rfl) id (fun cc x z => e2 cc x (by unfold RLm; omega))⟩
theorem ma_op {v v2 : Int} (M : MA K V C W n F own a b T PB WL L h m) (A : COp v h g) (B : RPt v2 m w) (e : ¬ h 45 5 = 1 → v2 = v) (hv : in_R v) : MA K V C W n F own a b T PB WL L g w := by
  obtain ⟨c, ⟨j, jb⟩, f, mb⟩ := M
  have CB := cb_op c A B e (fun _ => hv)
  obtain ⟨a1, a2, a3⟩ := A
  obtain ⟨b1, b2, b3⟩ := B
  refine ⟨CB, ⟨jl_k j (fun cc x z => b3 cc x (by omega) (by omega)), jlb_k jb (by omega) (by rw [b3 160 88 (by omega) (by omega)]; exact Int.le_refl _)⟩, frk_k f (fun cc x z => a3 cc x (by omega) (by omega)) ⟨by omega, by rw [a3 34 8 (by omega) (by omega)]; exact Int.le_refl _, by rw [a3 34 4 (by omega) (by omega)]; exact Int.le_refl _⟩ (fun cc x z => b3 cc x (by omega) (by omega)) (by omega) (by omega) (by omega), mb_k mb (fun cc x z => a3 cc x (by omega) (by omega)) (fun z => by rw [a3 34 15 (by omega) (by omega)]; exact z) (fun cc x z => b3 cc x (by omega) (by omega))⟩
theorem ma_jump {o n' l : Int} (M : MA K V C W n F own a b T PB WL L h m) (A : CJu o n' h g) (B : RJu o l m w) (hv : in_R o) (hl : l ≤ m 160 88) : MA K V C W n F own a b T PB WL (L ++ [(m 160 68, l)]) g w := by
  obtain ⟨c, ⟨j, jb⟩, f, mb⟩ := M
  have CB := cb_jump c A B hv
  have JL := jl_jump j B
  obtain ⟨a1, -, -, a5⟩ := A
  obtain ⟨⟨b0, b00⟩, b1, -, -, -, -, b5⟩ := B
  have lk : (L ++ [(m 160 68, l)]).length = L.length + 1 := by rw [List.length_append]; rfl
  have w88 := b5 160 88 (by omega) (by omega) (by omega)
  obtain ⟨j1, j2, j3, j4⟩ := jb
  have c1 := c.1
  have jl := j.1
  refine ⟨CB, ⟨JL, by rw [lk]; omega, fun i hi => ?_, fun i k ik hk => ?_, by omega⟩, frk_k f (fun cc x z => a5 cc x (by omega) (by omega)) ⟨by omega, by rw [a5 34 8 (by omega) (by omega)]; exact Int.le_refl _, by rw [a5 34 4 (by omega) (by omega)]; exact Int.le_refl _⟩ (fun cc x z => b5 cc x (by omega) (by omega) (by omega)) (by omega) (by rw [lk]; omega) (by rw [lk]; omega), mb_k mb (fun cc x z => a5 cc x (by omega) (by omega)) (fun z => by rw [a5 34 15 (by omega) (by omega)]; exact z) (fun cc x z => b5 cc x (by omega) (by omega) (by omega))⟩
  · rw [lk] at hi
    by_cases q : i = L.length
    · rw [q, gp_e]; dsimp only; omega
    · rw [gp_l L i (by omega)]; have := j2 i (by omega); omega
  · rw [lk] at hk
    rw [gp_l L i (by omega)]
    by_cases q : k = L.length
    · rw [q, gp_e]; dsimp only; have := j2 i (by omega); omega
    · rw [gp_l L k (by omega)]; exact j3 i k ik (by omega)
/-- the reference takes a new label -/
theorem ma_lab (M : MA K V C W n F own a b T PB WL L h m) (e : w = up_M m 160 88 (m 160 88 + 1)) : MA K V C W n F own a b T PB WL L h w := by
  obtain ⟨c, ⟨j, jb⟩, f, mb⟩ := M
  have E : ∀ cc x : Nat, ¬ (cc = 160 ∧ x = 88) → w cc x = m cc x := fun cc x z => by rw [e, up_n z]
  have x68 := E 160 68 (by omega)
  have x88 : w 160 88 = m 160 88 + 1 := by rw [e, up_s]
  exact ⟨cby_k c (fun _ _ _ => rfl) (fun cc x z => E cc x (by omega)), ⟨jl_k j (fun cc x z => E cc x (by omega)), jlb_k jb (by omega) (by omega)⟩, frk_k f (fun _ _ _ => rfl) ⟨Int.le_refl _, Int.le_refl _, Int.le_refl _⟩ (fun cc x z => E cc x (by omega)) (by omega) (by omega) (by omega), mb_k mb (fun _ _ _ => rfl) id (fun cc x z => E cc x (by omega))⟩
/-- a byte and the index of a constant -/
theorem ma_opc {v : Int} {u w : Int × ms_M} {m1 w3 h2 h3 : ms_M} (M : MA K V C W n F own a b T PB WL L h m) (B1 : RPt v m m1) (X : PCo h m1 u w) (S : SPL w.2 []) (A1 : COp v u.2 h2) (A2 : COp u.1 h2 h3) (B2 : RPt w.1 w.2 w3) (hv : in_R v) : MA K V C W n F own a b T PB WL L h3 w3 := by
  obtain ⟨c, ⟨j, jb⟩, f, mb⟩ := M
  have x1 := X.1
  have x2 := X.2.1
  have x3 := X.2.2.1
  have x4 := X.2.2.2.1
  have x5 := X.2.2.2.2.1
  have p5 : u.2 45 5 = 0 ∨ u.2 45 5 = 1 := x1.elim (fun z => .inl z.1) (fun z => .inr z.1)
  have C1 : CBY PB u.2 m := cby_p c (fun cc x z => x4 cc x (by omega) (by omega) (by omega)) x3 (fun _ _ _ => rfl)
  have C2 : CBY PB h2 m1 := cb_op C1 A1 B1 (fun _ => rfl) (fun _ => hv)
  have C3 : CBY PB h2 w.2 := cby_k C2 (fun _ _ _ => rfl) (fun cc x z => x5 cc x (by omega) (by omega))
  have C4 : CBY PB h3 w3 := cb_op C3 A2 B2 (fun z => (x2 (by rw [A1.2.2 45 5 (by omega) (by omega)] at z; omega)).1.symm) (fun z => by
    have y := x2 (by rw [A1.2.2 45 5 (by omega) (by omega)] at z; omega)
    unfold in_R; omega)
  have M1 : MBq K V C W n F own a b T h m1 := mb_k mb (fun _ _ _ => rfl) id (fun cc x z => B1.2.2 cc x (by omega) (by omega))
  have M2 := mb_p M1 X S
  obtain ⟨a1, -, a3⟩ := A1
  obtain ⟨d1, -, d3⟩ := A2
  obtain ⟨b1, -, b3⟩ := B1
  obtain ⟨f1, -, f3⟩ := B2
  have HC : ∀ cc x : Nat, ¬ (cc = 34 ∧ x = 1) → ¬ cc = 35 → h3 cc x = u.2 cc x := fun cc x z1 z2 => by rw [d3 cc x (by omega) (by omega), a3 cc x (by omega) (by omega)]
  have HM : ∀ cc x : Nat, ¬ (cc = 160 ∧ x = 68) → ¬ cc = 206 → w3 cc x = w.2 cc x := fun cc x z1 z2 => by rw [f3 cc x (by omega) (by omega)]
  have HC2 : ∀ cc x : Nat, ¬ (cc = 34 ∧ x = 1) → ¬ cc = 35 → ¬ (45 ≤ cc ∧ cc ≤ 47) → h3 cc x = h cc x := fun cc x z1 z2 z3 => by rw [HC cc x z1 z2]; exact x4 cc x (by omega) (by omega) (by omega)
  have HM2 : ∀ cc x : Nat, ¬ (cc = 160 ∧ (x = 68 ∨ x = 62 ∨ x = 64 ∨ x = 66)) → ¬ (200 ≤ cc ∧ cc ≤ 206) → w3 cc x = m cc x := fun cc x z1 z2 => by rw [HM cc x (by omega) (by omega), x5 cc x (by omega) (by omega)]; exact b3 cc x (by omega) (by omega)
  have l3 : w3 160 68 = m 160 68 + 2 := by rw [f1, x5 160 68 (by omega) (by omega), b1]; omega
  have l4 : h3 34 1 = h 34 1 + 2 := by rw [d1, a1, x4 34 1 (by omega) (by omega) (by omega)]; omega
  exact ⟨C4, ⟨jl_k j (fun cc x z => HM2 cc x (by omega) (by omega)), jlb_k jb (by omega) (by rw [HM2 160 88 (by omega) (by omega)]; exact Int.le_refl _)⟩, frk_k f (fun cc x z => HC2 cc x (by omega) (by omega) (by omega)) ⟨by omega, by rw [HC2 34 8 (by omega) (by omega) (by omega)]; exact Int.le_refl _, by rw [HC2 34 4 (by omega) (by omega) (by omega)]; exact Int.le_refl _⟩ (fun cc x z => HM2 cc x (by omega) (by omega)) (by omega) (by omega) (by omega), mb_k M2 (fun cc x z => HC cc x (by omega) (by omega)) (fun z => by rw [HC 34 15 (by omega) (by omega)]; exact z) (fun cc x z => HM cc x (by omega) (by omega))⟩
/-- with the stack -/
theorem mk_op {v v2 : Int} (M : MK K V C W n F own a b T PB WL L h m) (A : COp v h g) (B : RPt v2 m w) (e : ¬ h 45 5 = 1 → v2 = v) (hv : in_R v) : MK K V C W n F own a b T PB WL L g w := ⟨ma_op M.1 A B e hv, skj_k M.2 (fun cc x z => A.2.2 cc x (by omega) (by omega)) (fun cc x z => B.2.2 cc x (by omega) (by omega))⟩
theorem mk_opc {v : Int} {u w : Int × ms_M} {m1 w3 h2 h3 : ms_M} (M : MK K V C W n F own a b T PB WL L h m) (B1 : RPt v m m1) (X : PCo h m1 u w) (S : SPL w.2 []) (A1 : COp v u.2 h2) (A2 : COp u.1 h2 h3) (B2 : RPt w.1 w.2 w3) (hv : in_R v) : MK K V C W n F own a b T PB WL L h3 w3 := ⟨ma_opc M.1 B1 X S A1 A2 B2 hv, skj_k M.2 (fun cc x z => by rw [A2.2.2 cc x (by omega) (by omega), A1.2.2 cc x (by omega) (by omega)]; exact X.2.2.2.1 cc x (by omega) (by omega) (by omega)) (fun cc x z => by rw [B2.2.2 cc x (by omega) (by omega), X.2.2.2.2.1 cc x (by omega) (by omega)]; exact B1.2.2 cc x (by omega) (by omega))⟩
theorem ma_push {t t2 : Int} (M : MA K V C W n F own a b T PB WL L h m) (A : CPu t h g) (B : RPs t2 m w) : MA K V C W n F own a b T PB WL L g w := by
  obtain ⟨-, a2, -, a4⟩ := A
  obtain ⟨-, -, -, -, b4⟩ := B
  exact ma_r (ma_c M (fun cc x z => a4 cc x (by unfold RLc at z; omega) (by unfold RLc at z; omega)) (by rw [a2]; split <;> omega)) (fun cc x z => b4 cc x (by unfold RLm at z; omega) (by unfold RLm at z; omega))
theorem mk_push {t t2 : Int} (M : MK K V C W n F own a b T PB WL L h m) (A : CPu t h g) (B : RPs t2 m w) (e : TJ n t2 t) : MK K V C W n F own a b T PB WL L g w := ⟨ma_push M.1 A B, sk_push M.2 A B e⟩
theorem mk_pop {k : Int} (M : MK K V C W n F own a b T PB WL L h m) (A : CPo k h g) (hn : 0 ≤ k ∧ k ≤ h 34 3) (e : w = up_M m 160 70 (m 160 70 - k)) : MK K V C W n F own a b T PB WL L g w := by
  have E : ∀ cc x : Nat, ¬ (cc = 160 ∧ x = 70) → w cc x = m cc x := fun cc x z => by rw [e, up_n z]
  refine ⟨ma_r (ma_c M.1 (fun cc x z => A.2 cc x (by unfold RLc at z; omega)) (by rw [A.2 34 4 (by omega)]; exact Int.le_refl _)) (fun cc x z => E cc x (by unfold RLm at z; omega)), sk_pop M.2 A hn (by rw [e, up_s]) (fun cc x z => E cc x (by omega))⟩
/-- a jump that pops k -/
theorem mk_jump {o k l : Int} {m1 : ms_M} (M : MK K V C W n F own a b T PB WL L h m) (A : CJu o k h g) (hn : 0 ≤ k ∧ k ≤ h 34 3) (e : m1 = up_M m 160 70 (m 160 70 - k)) (B : RJu o l m1 w) (hv : in_R o) (hl : l ≤ m 160 88) : MK K V C W n F own a b T PB WL (L ++ [(m 160 68, l)]) g w := by
  have E : ∀ cc x : Nat, ¬ (cc = 160 ∧ x = 70) → m1 cc x = m cc x := fun cc x z => by rw [e, up_n z]
  have M1 := ma_r M.1 (fun cc x z => E cc x (by unfold RLm at z; omega))
  have R := ma_jump M1 A B hv (by rw [E 160 88 (by omega)]; exact hl)
  rw [E 160 68 (by omega)] at R
  have b5 := B.2.2.2.2.2.2
  exact ⟨R, sk_jump M.2 A hn (by rw [b5 160 70 (by omega) (by omega) (by omega), e, up_s]) (fun cc x z => by rw [b5 cc x (by omega) (by omega) (by omega)]; exact E cc x (by omega))⟩
theorem mk_c (M : MK K V C W n F own a b T PB WL L h m) (e1 : ∀ cc x : Nat, (RLc cc x ∨ (cc = 34 ∧ (x = 3 ∨ x = 4)) ∨ cc = 36) → g cc x = h cc x) : MK K V C W n F own a b T PB WL L g m := ⟨ma_c M.1 (fun cc x z => e1 cc x (.inl z)) (by rw [e1 34 4 (.inr (by omega))]; exact Int.le_refl _), skj_k M.2 (fun cc x z => e1 cc x (.inr (by omega))) (fun _ _ _ => rfl)⟩
theorem mk_r (M : MK K V C W n F own a b T PB WL L h m) (e2 : ∀ cc x : Nat, (RLm cc x ∨ (cc = 160 ∧ (x = 70 ∨ x = 71)) ∨ cc = 207) → w cc x = m cc x) : MK K V C W n F own a b T PB WL L h w := ⟨ma_r M.1 (fun cc x z => e2 cc x (.inl z)), skj_k M.2 (fun _ _ _ => rfl) (fun cc x z => e2 cc x (.inr (by omega)))⟩
theorem mk_lab (M : MK K V C W n F own a b T PB WL L h m) (e : w = up_M m 160 88 (m 160 88 + 1)) : MK K V C W n F own a b T PB WL L h w := ⟨ma_lab M.1 e, skj_k M.2 (fun _ _ _ => rfl) (fun cc x z => by rw [e, up_n (by omega)])⟩
end
