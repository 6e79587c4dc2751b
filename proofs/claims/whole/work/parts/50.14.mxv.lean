/- a name for a value -/
theorem xl_el {α β : Type} {v : α} {F : α → Option β} {z : β} (h : xl v F = some z) : ∃ w, v = w ∧ F w = some z := ⟨v, rfl, h⟩
theorem mx_if_el {α : Type} {b : Prop} {d : Decidable b} {A B : Option α} {z : α} (h : (@ite _ b d A B) = some z) : (b ∧ A = some z) ∨ (¬ b ∧ B = some z) := by
  cases d with
  | isTrue hb => exact Or.inl ⟨hb, h⟩
  | isFalse hb => exact Or.inr ⟨hb, h⟩
theorem mx_oc_el {α : Type} {x : Option Nat} {A : Option α} {B : Nat → Option α} {z : α} (h : mx_oc x A B = some z) : (x = none ∧ A = some z) ∨ ∃ a, x = some a ∧ B a = some z := by
  cases x with
  | none => exact Or.inl ⟨rfl, h⟩
  | some a => exact Or.inr ⟨a, rfl, h⟩
theorem mx_gd_el {α : Type} {b : Bool} {A : Option α} {z : α} (h : mx_gd b A = some z) : b = true ∧ A = some z := by
  cases b with
  | true => exact ⟨rfl, h⟩
  | false => cases h
theorem xbq_ok {v : Int32} (h : xbq v = true) : narrow .boolean (.int v) = .int v ∧ fits .boolean (.int v) = true := by
  unfold xbq at h
  refine ⟨?_, h⟩
  rcases Bool.or_eq_true _ _ |>.mp h with e1 | e1
  · rw [eq_of_beq e1]; rfl
  · rw [eq_of_beq e1]; rfl
section SB
variable {X : Nat × (Nat → Int32)} {F L mu pc : Nat} {lv : mx_L} {st : List Value} {h : mx_H} {c s : Nat} {r : Option Value × mx_H × Nat × Nat} {y : MethodName} {cc : ByteArray} {nL len ix : Nat} {ret : Option FieldType}
theorem sx_ic (hm : mx_mt mu = some (y, cc, nL, ret)) {n : Int} {v : Int32} (hd : decode cc pc = .ok (.iconst n, 1)) (hv : Int32.ofInt n = v) (kk : mx_S X F L mu (pc + 1) lv (.int v :: st) h c s r) : mx_S X F L mu pc lv st h c s r := by
  subst hv
  exact mx_S.pu hm hd rfl kk
theorem sx_bi (hm : mx_mt mu = some (y, cc, nL, ret)) {n : Int} {v : Int32} (hd : decode cc pc = .ok (.bipush n, 2)) (hv : (Int8.ofInt n).toInt32 = v) (kk : mx_S X F L mu (pc + 2) lv (.int v :: st) h c s r) : mx_S X F L mu pc lv st h c s r := by
  subst hv
  exact mx_S.pu hm hd rfl kk
theorem sx_si (hm : mx_mt mu = some (y, cc, nL, ret)) {n : Int} {v : Int32} (hd : decode cc pc = .ok (.sipush n, 3)) (hv : (Int16.ofInt n).toInt32 = v) (kk : mx_S X F L mu (pc + 3) lv (.int v :: st) h c s r) : mx_S X F L mu pc lv st h c s r := by
  subst hv
  exact mx_S.pu hm hd rfl kk
theorem sx_lc (hm : mx_mt mu = some (y, cc, nL, ret)) {n : Fin 2} {v : Int64} (hd : decode cc pc = .ok (.lconst n, 1)) (hv : Int64.ofNat n.val = v) (kk : mx_S X F L mu (pc + 1) lv (.long v :: st) h c s r) : mx_S X F L mu pc lv st h c s r := by
  subst hv
  exact mx_S.pu hm hd rfl kk
theorem sx_ao (hm : mx_mt mu = some (y, cc, nL, ret)) {i : Nat} {x : Option Nat} (hd : decode cc pc = .ok (.aload i, 2)) (hg : mx_at lv i = some (va_rf x)) (kk : mx_S X F L mu (pc + 2) lv (va_rf x :: st) h c s r) : mx_S X F L mu pc lv st h c s r := by
  refine mx_S.pu hm hd ?_ kk
  unfold mx_pure
  dsimp only
  rw [if_pos rfl, hg]
  cases x <;> rfl
theorem sx_aon (hm : mx_mt mu = some (y, cc, nL, ret)) {i : Fin 4} {x : Option Nat} (hd : decode cc pc = .ok (.aload_n i, 1)) (hg : mx_at lv i.val = some (va_rf x)) (kk : mx_S X F L mu (pc + 1) lv (va_rf x :: st) h c s r) : mx_S X F L mu pc lv st h c s r := by
  refine mx_S.pu hm hd ?_ kk
  unfold mx_pure
  dsimp only
  rw [if_pos rfl, hg]
  cases x <;> rfl
theorem sx_so (hm : mx_mt mu = some (y, cc, nL, ret)) {i : Nat} {x : Option Nat} {lv2 : mx_L} (hd : decode cc pc = .ok (.astore i, 2)) (hn : Nat.blt i nL = true) (hl : mx_set lv i (va_rf x) = lv2) (kk : mx_S X F L mu (pc + 2) lv2 st h c s r) : mx_S X F L mu pc lv (va_rf x :: st) h c s r := by
  subst hl
  refine mx_S.pu hm hd ?_ kk
  have hn2 : i < nL := Nat.le_of_ble_eq_true hn
  cases x with
  | none =>
    show (if 2 = 2 then (if i < nL then _ else none) else none) = _
    rw [if_pos rfl, if_pos hn2]
  | some a =>
    show (if 2 = 2 then (if i < nL then _ else none) else none) = _
    rw [if_pos rfl, if_pos hn2]
theorem sx_son (hm : mx_mt mu = some (y, cc, nL, ret)) {i : Fin 4} {x : Option Nat} {lv2 : mx_L} (hd : decode cc pc = .ok (.astore_n i, 1)) (hn : Nat.blt i.val nL = true) (hl : mx_set lv i.val (va_rf x) = lv2) (kk : mx_S X F L mu (pc + 1) lv2 st h c s r) : mx_S X F L mu pc lv (va_rf x :: st) h c s r := by
  subst hl
  refine mx_S.pu hm hd ?_ kk
  have hn2 : i.val < nL := Nat.le_of_ble_eq_true hn
  cases x with
  | none =>
    show (if 1 = 1 then (if i.val < nL then _ else none) else none) = _
    rw [if_pos rfl, if_pos hn2]
  | some a =>
    show (if 1 = 1 then (if i.val < nL then _ else none) else none) = _
    rw [if_pos rfl, if_pos hn2]
theorem sx_idiv (hm : mx_mt mu = some (y, cc, nL, ret)) {x y0 v : Int32} (hd : decode cc pc = .ok (.idiv, 1)) (h0 : ¬ y0 = 0) (hv : x / y0 = v) (kk : mx_S X F L mu (pc + 1) lv (.int v :: st) h c s r) : mx_S X F L mu pc lv (.int y0 :: .int x :: st) h c s r := by
  subst hv
  refine mx_S.pu hm hd ?_ kk
  show (if 1 = 1 then (if y0 = 0 then none else _) else none) = _
  rw [if_pos rfl, if_neg h0]
theorem sx_irem (hm : mx_mt mu = some (y, cc, nL, ret)) {x y0 v : Int32} (hd : decode cc pc = .ok (.irem, 1)) (h0 : ¬ y0 = 0) (hv : x - x / y0 * y0 = v) (kk : mx_S X F L mu (pc + 1) lv (.int v :: st) h c s r) : mx_S X F L mu pc lv (.int y0 :: .int x :: st) h c s r := by
  subst hv
  refine mx_S.pu hm hd ?_ kk
  show (if 1 = 1 then (if y0 = 0 then none else _) else none) = _
  rw [if_pos rfl, if_neg h0]
theorem sx_ifnull_n (hm : mx_mt mu = some (y, cc, nL, ret)) {off : Int} (hd : decode cc pc = .ok (.ifnull off, 3)) {x : Option Nat} (hx : x = none) {tgt : Nat} (ht : mx_tg pc off = some tgt) (kk : mx_S X F L mu tgt lv st h c s r) : mx_S X F L mu pc lv (va_rf x :: st) h c s r := by
  subst hx
  refine mx_S.pu hm hd ?_ kk
  show (if 3 = 3 then (mx_tg pc off).bind _ else none) = _
  rw [if_pos rfl, ht]
  rfl
theorem sx_ifnonnull_s (hm : mx_mt mu = some (y, cc, nL, ret)) {off : Int} (hd : decode cc pc = .ok (.ifnonnull off, 3)) {x : Option Nat} {a : Nat} (hx : x = some a) {tgt : Nat} (ht : mx_tg pc off = some tgt) (kk : mx_S X F L mu tgt lv st h c s r) : mx_S X F L mu pc lv (va_rf x :: st) h c s r := by
  subst hx
  refine mx_S.pu hm hd ?_ kk
  show (if 3 = 3 then (mx_tg pc off).bind _ else none) = _
  rw [if_pos rfl, ht]
  rfl
theorem sx_ifnull_s (hm : mx_mt mu = some (y, cc, nL, ret)) {off : Int} (hd : decode cc pc = .ok (.ifnull off, 3)) {x : Option Nat} {a : Nat} (hx : x = some a) {tgt : Nat} (ht : mx_tg pc off = some tgt) (kk : mx_S X F L mu (pc + 3) lv st h c s r) : mx_S X F L mu pc lv (va_rf x :: st) h c s r := by
  subst hx
  refine mx_S.pu hm hd ?_ kk
  show (if 3 = 3 then (mx_tg pc off).bind _ else none) = _
  rw [if_pos rfl, ht]
  rfl
theorem sx_ifnonnull_n (hm : mx_mt mu = some (y, cc, nL, ret)) {off : Int} (hd : decode cc pc = .ok (.ifnonnull off, 3)) {x : Option Nat} (hx : x = none) {tgt : Nat} (ht : mx_tg pc off = some tgt) (kk : mx_S X F L mu (pc + 3) lv st h c s r) : mx_S X F L mu pc lv (va_rf x :: st) h c s r := by
  subst hx
  refine mx_S.pu hm hd ?_ kk
  show (if 3 = 3 then (mx_tg pc off).bind _ else none) = _
  rw [if_pos rfl, ht]
  rfl
theorem sb_if_eq (hm : mx_mt mu = some (y, cc, nL, ret)) {off : Int} (hd : decode cc pc = .ok (.ifCond .eq off, 3)) {tgt : Nat} (ht : mx_tg pc off = some tgt) {x : Int32} (kt : x = 0 → mx_S X F L mu tgt lv st h c s r) (kf : ¬ (x = 0) → mx_S X F L mu (pc + 3) lv st h c s r) : mx_S X F L mu pc lv (.int x :: st) h c s r := by
  refine sx_if_eq hm hd ht ?_
  by_cases hc : x = 0
  · rw [if_pos hc]; exact kt hc
  · rw [if_neg hc]; exact kf hc
theorem sb_ic_eq (hm : mx_mt mu = some (y, cc, nL, ret)) {off : Int} (hd : decode cc pc = .ok (.if_icmp .eq off, 3)) {tgt : Nat} (ht : mx_tg pc off = some tgt) {x y0 : Int32} (kt : x = y0 → mx_S X F L mu tgt lv st h c s r) (kf : ¬ (x = y0) → mx_S X F L mu (pc + 3) lv st h c s r) : mx_S X F L mu pc lv (.int y0 :: .int x :: st) h c s r := by
  refine sx_ic_eq hm hd ht ?_
  by_cases hc : x = y0
  · rw [if_pos hc]; exact kt hc
  · rw [if_neg hc]; exact kf hc
theorem sb_if_ne (hm : mx_mt mu = some (y, cc, nL, ret)) {off : Int} (hd : decode cc pc = .ok (.ifCond .ne off, 3)) {tgt : Nat} (ht : mx_tg pc off = some tgt) {x : Int32} (kt : ¬ x = 0 → mx_S X F L mu tgt lv st h c s r) (kf : ¬ (¬ x = 0) → mx_S X F L mu (pc + 3) lv st h c s r) : mx_S X F L mu pc lv (.int x :: st) h c s r := by
  refine sx_if_ne hm hd ht ?_
  by_cases hc : ¬ x = 0
  · rw [if_pos hc]; exact kt hc
  · rw [if_neg hc]; exact kf hc
theorem sb_ic_ne (hm : mx_mt mu = some (y, cc, nL, ret)) {off : Int} (hd : decode cc pc = .ok (.if_icmp .ne off, 3)) {tgt : Nat} (ht : mx_tg pc off = some tgt) {x y0 : Int32} (kt : ¬ x = y0 → mx_S X F L mu tgt lv st h c s r) (kf : ¬ (¬ x = y0) → mx_S X F L mu (pc + 3) lv st h c s r) : mx_S X F L mu pc lv (.int y0 :: .int x :: st) h c s r := by
  refine sx_ic_ne hm hd ht ?_
  by_cases hc : ¬ x = y0
  · rw [if_pos hc]; exact kt hc
  · rw [if_neg hc]; exact kf hc
theorem sb_if_lt (hm : mx_mt mu = some (y, cc, nL, ret)) {off : Int} (hd : decode cc pc = .ok (.ifCond .lt off, 3)) {tgt : Nat} (ht : mx_tg pc off = some tgt) {x : Int32} (kt : x < 0 → mx_S X F L mu tgt lv st h c s r) (kf : ¬ (x < 0) → mx_S X F L mu (pc + 3) lv st h c s r) : mx_S X F L mu pc lv (.int x :: st) h c s r := by
  refine sx_if_lt hm hd ht ?_
  by_cases hc : x < 0
  · rw [if_pos hc]; exact kt hc
  · rw [if_neg hc]; exact kf hc
theorem sb_ic_lt (hm : mx_mt mu = some (y, cc, nL, ret)) {off : Int} (hd : decode cc pc = .ok (.if_icmp .lt off, 3)) {tgt : Nat} (ht : mx_tg pc off = some tgt) {x y0 : Int32} (kt : x < y0 → mx_S X F L mu tgt lv st h c s r) (kf : ¬ (x < y0) → mx_S X F L mu (pc + 3) lv st h c s r) : mx_S X F L mu pc lv (.int y0 :: .int x :: st) h c s r := by
  refine sx_ic_lt hm hd ht ?_
  by_cases hc : x < y0
  · rw [if_pos hc]; exact kt hc
  · rw [if_neg hc]; exact kf hc
theorem sb_if_ge (hm : mx_mt mu = some (y, cc, nL, ret)) {off : Int} (hd : decode cc pc = .ok (.ifCond .ge off, 3)) {tgt : Nat} (ht : mx_tg pc off = some tgt) {x : Int32} (kt : 0 ≤ x → mx_S X F L mu tgt lv st h c s r) (kf : ¬ (0 ≤ x) → mx_S X F L mu (pc + 3) lv st h c s r) : mx_S X F L mu pc lv (.int x :: st) h c s r := by
  refine sx_if_ge hm hd ht ?_
  by_cases hc : 0 ≤ x
  · rw [if_pos hc]; exact kt hc
  · rw [if_neg hc]; exact kf hc
theorem sb_ic_ge (hm : mx_mt mu = some (y, cc, nL, ret)) {off : Int} (hd : decode cc pc = .ok (.if_icmp .ge off, 3)) {tgt : Nat} (ht : mx_tg pc off = some tgt) {x y0 : Int32} (kt : y0 ≤ x → mx_S X F L mu tgt lv st h c s r) (kf : ¬ (y0 ≤ x) → mx_S X F L mu (pc + 3) lv st h c s r) : mx_S X F L mu pc lv (.int y0 :: .int x :: st) h c s r := by
  refine sx_ic_ge hm hd ht ?_
  by_cases hc : y0 ≤ x
  · rw [if_pos hc]; exact kt hc
  · rw [if_neg hc]; exact kf hc
theorem sb_if_gt (hm : mx_mt mu = some (y, cc, nL, ret)) {off : Int} (hd : decode cc pc = .ok (.ifCond .gt off, 3)) {tgt : Nat} (ht : mx_tg pc off = some tgt) {x : Int32} (kt : 0 < x → mx_S X F L mu tgt lv st h c s r) (kf : ¬ (0 < x) → mx_S X F L mu (pc + 3) lv st h c s r) : mx_S X F L mu pc lv (.int x :: st) h c s r := by
  refine sx_if_gt hm hd ht ?_
  by_cases hc : 0 < x
  · rw [if_pos hc]; exact kt hc
  · rw [if_neg hc]; exact kf hc
theorem sb_ic_gt (hm : mx_mt mu = some (y, cc, nL, ret)) {off : Int} (hd : decode cc pc = .ok (.if_icmp .gt off, 3)) {tgt : Nat} (ht : mx_tg pc off = some tgt) {x y0 : Int32} (kt : y0 < x → mx_S X F L mu tgt lv st h c s r) (kf : ¬ (y0 < x) → mx_S X F L mu (pc + 3) lv st h c s r) : mx_S X F L mu pc lv (.int y0 :: .int x :: st) h c s r := by
  refine sx_ic_gt hm hd ht ?_
  by_cases hc : y0 < x
  · rw [if_pos hc]; exact kt hc
  · rw [if_neg hc]; exact kf hc
theorem sb_if_le (hm : mx_mt mu = some (y, cc, nL, ret)) {off : Int} (hd : decode cc pc = .ok (.ifCond .le off, 3)) {tgt : Nat} (ht : mx_tg pc off = some tgt) {x : Int32} (kt : x ≤ 0 → mx_S X F L mu tgt lv st h c s r) (kf : ¬ (x ≤ 0) → mx_S X F L mu (pc + 3) lv st h c s r) : mx_S X F L mu pc lv (.int x :: st) h c s r := by
  refine sx_if_le hm hd ht ?_
  by_cases hc : x ≤ 0
  · rw [if_pos hc]; exact kt hc
  · rw [if_neg hc]; exact kf hc
theorem sb_ic_le (hm : mx_mt mu = some (y, cc, nL, ret)) {off : Int} (hd : decode cc pc = .ok (.if_icmp .le off, 3)) {tgt : Nat} (ht : mx_tg pc off = some tgt) {x y0 : Int32} (kt : x ≤ y0 → mx_S X F L mu tgt lv st h c s r) (kf : ¬ (x ≤ y0) → mx_S X F L mu (pc + 3) lv st h c s r) : mx_S X F L mu pc lv (.int y0 :: .int x :: st) h c s r := by
  refine sx_ic_le hm hd ht ?_
  by_cases hc : x ≤ y0
  · rw [if_pos hc]; exact kt hc
  · rw [if_neg hc]; exact kf hc
end SB
