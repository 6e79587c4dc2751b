/- reading and writing cells, as the little machine does -/
/- a boolean's own numbers -/
theorem xg_el {h : mx_H} {a ci k : Nat} {v : Value} (hh : xg h a ci k = some v) : ∃ fs, h[a]? = some (.inr (ci, fs)) ∧ fs[k]? = some v := by
  unfold xg at hh
  obtain ⟨cj, fs, h1, h2⟩ := mx_ob_el hh
  replace h2 := mx_ifk h2; obtain ⟨rfl, h2⟩ := h2
  exact ⟨fs, h1, h2⟩
theorem xgi_el {h : mx_H} {a ci k : Nat} {v : Int32} (hh : xgi h a ci k = some v) : xg h a ci k = some (.int v) := by
  obtain ⟨x, h1, h2⟩ := mx_gi_el hh
  cases h2
  exact h1
theorem xgr_el {h : mx_H} {a ci k : Nat} {b : Nat} (hh : xgr h a ci k = some b) : xg h a ci k = some (.ref b) := by
  obtain ⟨x, h1, h2⟩ := mx_gr_el hh
  cases h2
  exact h1
theorem mx_GGs (X : Nat × (Nat → Int32)) : (mx_GG X).2.2.2.2 = mx_strs := rfl
section SX
variable {X : Nat × (Nat → Int32)} {F L mu pc : Nat} {lv : mx_L} {st : List Value} {h : mx_H} {c s : Nat} {r : Option Value × mx_H × Nat × Nat} {y : MethodName} {cc : ByteArray} {nL len ix : Nat} {ret : Option FieldType} {i : Jvm.ClassFile.Instr}
theorem sx_get (hm : mx_mt mu = some (y, cc, nL, ret)) (hd : decode cc pc = .ok (.getfield ix, 3)) {ci k : Nat} (hr : mx_res y.cls ix = some (0, ci, k)) {a : Nat} {v : Value} (hv : xg h a ci k = some v) (kk : mx_S X F L mu (pc + 3) lv (v :: st) h c s r) : mx_S X F L mu pc lv (.ref a :: st) h c s r := by
  obtain ⟨fs, h1, h2⟩ := xg_el hv
  refine mx_S.he hm hd rfl ?_ kk
  show mx_heap (mx_GG X) mx_cn y (.ref a :: st) h (.getfield ix) 3 = _
  unfold mx_heap
  dsimp only
  rw [if_pos rfl]
  show mx_rs (mx_res y.cls ix) 0 _ = _
  rw [hr]
  show (if 0 = 0 then _ else none) = _
  rw [if_pos rfl]
  show mx_ob h a _ = _
  unfold mx_ob
  rw [h1]
  dsimp only
  rw [if_pos rfl, h2]
  rfl
theorem sx_put (hm : mx_mt mu = some (y, cc, nL, ret)) (hd : decode cc pc = .ok (.putfield ix, 3)) {ci k : Nat} (hr : mx_res y.cls ix = some (0, ci, k)) {ty : FieldType} {fin : Bool} {ow : String} (hf : mx_fty ci k = some (ty, fin, ow)) {a : Nat} {v : Value} {h2 : mx_H} (hn : narrow ty v = v ∧ fits ty v = true) (hfi : fin = true → y.name = "<init>" ∧ ow = y.cls) (hv : xpv h a ci k v = some h2) (kk : mx_S X F L mu (pc + 3) lv st h2 c s r) : mx_S X F L mu pc lv (v :: .ref a :: st) h c s r := by
  unfold xpv at hv
  obtain ⟨cj, fs, h1, hv⟩ := mx_ob_el hv
  replace hv := mx_ifk hv; obtain ⟨⟨rfl, hl⟩, hv⟩ := hv
  cases hv
  refine mx_S.he hm hd rfl ?_ kk
  show mx_heap (mx_GG X) mx_cn y (v :: .ref a :: st) h (.putfield ix) 3 = _
  unfold mx_heap
  dsimp only
  rw [if_pos rfl]
  show mx_rs (mx_res y.cls ix) 0 _ = _
  rw [hr]
  show (if 0 = 0 then _ else none) = _
  rw [if_pos rfl]
  show mx_ob h a _ = _
  unfold mx_ob
  rw [h1]
  dsimp only
  rw [if_pos rfl]
  show mx_sv (mx_fty cj k) _ = _
  rw [hf]
  show (if _ then _ else none) = _
  rw [if_pos ⟨hn.1, hn.2, hl, hfi⟩]
theorem sx_ald (hm : mx_mt mu = some (y, cc, nL, ret)) (hd : decode cc pc = .ok (.iaload, 1)) {a : Nat} {j v : Int32} (hv : xai h a j = some v) (kk : mx_S X F L mu (pc + 1) lv (.int v :: st) h c s r) : mx_S X F L mu pc lv (.int j :: .ref a :: st) h c s r := by
  unfold xai at hv
  obtain ⟨ty, n, f, h1, hv⟩ := mx_ai_el hv
  obtain ⟨h2, hv⟩ := mx_ifk hv
  cases hv
  refine mx_S.he hm hd rfl ?_ kk
  show (if 1 = 1 then mx_ai h a _ else none) = _
  rw [if_pos rfl]
  unfold mx_ai
  rw [h1]
  dsimp only
  rw [if_pos h2]
theorem sx_bld (hm : mx_mt mu = some (y, cc, nL, ret)) (hd : decode cc pc = .ok (.baload, 1)) {a : Nat} {j v : Int32} (hv : xab h a j = some v) (kk : mx_S X F L mu (pc + 1) lv (.int v :: st) h c s r) : mx_S X F L mu pc lv (.int j :: .ref a :: st) h c s r := by
  unfold xab at hv
  obtain ⟨ty, n, f, h1, hv⟩ := mx_ai_el hv
  obtain ⟨h2, hv⟩ := mx_ifk hv
  cases hv
  refine mx_S.he hm hd rfl ?_ kk
  show (if 1 = 1 then mx_ai h a _ else none) = _
  rw [if_pos rfl]
  unfold mx_ai
  rw [h1]
  dsimp only
  rw [if_pos h2]
theorem sx_qld (hm : mx_mt mu = some (y, cc, nL, ret)) (hd : decode cc pc = .ok (.aaload, 1)) {a : Nat} {j : Int32} {v : Option Nat} (hv : xaq h a j = some v) (kk : mx_S X F L mu (pc + 1) lv (va_rf v :: st) h c s r) : mx_S X F L mu pc lv (.int j :: .ref a :: st) h c s r := by
  unfold xaq at hv
  obtain ⟨ty, n, f, h1, hv⟩ := mx_aq_el hv
  obtain ⟨h2, hv⟩ := mx_ifk hv
  cases hv
  refine mx_S.he hm hd rfl ?_ kk
  show (if 1 = 1 then mx_aq h a _ else none) = _
  rw [if_pos rfl]
  unfold mx_aq
  rw [h1]
  dsimp only
  rw [if_pos h2]
theorem sx_ast (hm : mx_mt mu = some (y, cc, nL, ret)) (hd : decode cc pc = .ok (.iastore, 1)) {a : Nat} {j x : Int32} {h2 : mx_H} (hv : xsi h a j x = some h2) (kk : mx_S X F L mu (pc + 1) lv st h2 c s r) : mx_S X F L mu pc lv (.int x :: .int j :: .ref a :: st) h c s r := by
  unfold xsi at hv
  obtain ⟨ty, n, f, h1, hv⟩ := mx_ai_el hv
  obtain ⟨h3, hv⟩ := mx_ifk hv
  cases hv
  refine mx_S.he hm hd rfl ?_ kk
  show (if 1 = 1 then mx_ai h a _ else none) = _
  rw [if_pos rfl]
  unfold mx_ai
  rw [h1]
  dsimp only
  rw [if_pos h3]
theorem sx_bst (hm : mx_mt mu = some (y, cc, nL, ret)) (hd : decode cc pc = .ok (.bastore, 1)) {a : Nat} {j x : Int32} {h2 : mx_H} (hv : xsb h a j x = some h2) (kk : mx_S X F L mu (pc + 1) lv st h2 c s r) : mx_S X F L mu pc lv (.int x :: .int j :: .ref a :: st) h c s r := by
  unfold xsb at hv
  obtain ⟨ty, n, f, h1, hv⟩ := mx_ai_el hv
  obtain ⟨h3, hv⟩ := mx_ifk hv
  cases hv
  refine mx_S.he hm hd rfl ?_ kk
  show (if 1 = 1 then mx_ai h a _ else none) = _
  rw [if_pos rfl]
  unfold mx_ai
  rw [h1]
  dsimp only
  rw [if_pos h3]
theorem sx_qst (hm : mx_mt mu = some (y, cc, nL, ret)) (hd : decode cc pc = .ok (.aastore, 1)) {a : Nat} {j : Int32} {x : Option Nat} {h2 : mx_H} (hv : xsq h a j x = some h2) (kk : mx_S X F L mu (pc + 1) lv st h2 c s r) : mx_S X F L mu pc lv (va_rf x :: .int j :: .ref a :: st) h c s r := by
  unfold xsq at hv
  obtain ⟨ty, n, f, h1, hv⟩ := mx_aq_el hv
  obtain ⟨h3, hv⟩ := mx_ifk hv
  refine mx_S.he hm hd rfl ?_ kk
  show (if 1 = 1 then mx_aq h a _ else none) = _
  rw [if_pos rfl]
  unfold mx_aq
  rw [h1]
  dsimp only
  rw [if_pos h3]
  obtain ⟨b, hb, hv⟩ := mx_sv_el hv
  cases hv
  rw [hb]
  rfl
theorem sx_len (hm : mx_mt mu = some (y, cc, nL, ret)) (hd : decode cc pc = .ok (.arraylength, 1)) {a : Nat} {v : Int32} (hv : xln h a = some v) (kk : mx_S X F L mu (pc + 1) lv (.int v :: st) h c s r) : mx_S X F L mu pc lv (.ref a :: st) h c s r := by
  unfold xln at hv
  obtain ⟨ty, x, h1, hv⟩ := mx_av_el hv
  cases hv
  refine mx_S.he hm hd rfl ?_ kk
  show (if 1 = 1 then mx_av h a _ else none) = _
  rw [if_pos rfl]
  unfold mx_av
  rw [h1]
theorem sx_ret (hm : mx_mt mu = some (y, cc, nL, ret)) (hd : decode cc pc = .ok (.return_, 1)) (hr : ret = none) : mx_S X F L mu pc lv [] h c s (none, h, c, s) := by
  subst hr
  exact mx_S.re hm hd rfl rfl rfl
theorem sx_ire (hm : mx_mt mu = some (y, cc, nL, ret)) (hd : decode cc pc = .ok (.ireturn, 1)) {ty : FieldType} (hr : ret = some ty) {v : Int32} (hn : narrow ty (.int v) = .int v) : mx_S X F L mu pc lv [.int v] h c s (some (.int v), h, c, s) := by
  subst hr
  refine mx_S.re hm hd rfl rfl ?_
  show (if narrow ty (.int v) = .int v then _ else none) = _
  rw [if_pos hn]
theorem sx_are (hm : mx_mt mu = some (y, cc, nL, ret)) (hd : decode cc pc = .ok (.areturn, 1)) {ty : FieldType} (hr : ret = some ty) (hn : ty.isReference = true) {v : Option Nat} : mx_S X F L mu pc lv [va_rf v] h c s (some (va_rf v), h, c, s) := by
  subst hr
  refine mx_S.re hm hd (by cases v <;> rfl) (by cases v <;> rfl) ?_
  cases v with
  | none =>
    show (if ty.isReference = true then _ else none) = _
    rw [if_pos hn]
    try rfl
  | some a =>
    show (if ty.isReference = true then _ else none) = _
    rw [if_pos hn]
    try rfl
theorem sx_if_eq (hm : mx_mt mu = some (y, cc, nL, ret)) {off : Int} (hd : decode cc pc = .ok (.ifCond .eq off, 3)) {tgt : Nat} (ht : mx_tg pc off = some tgt) {x : Int32} (kk : if x = 0 then mx_S X F L mu tgt lv st h c s r else mx_S X F L mu (pc + 3) lv st h c s r) : mx_S X F L mu pc lv (.int x :: st) h c s r := by
  by_cases hc : x = 0
  · rw [if_pos hc] at kk
    refine mx_S.pu hm hd ?_ kk
    show (if 3 = 3 then (mx_tg pc off).bind (fun tgt => match mx_cnd .eq x 0 with | true => some (tgt, lv, st) | false => some (pc + 3, lv, st)) else none) = _
    rw [if_pos rfl, ht, show mx_cnd .eq x 0 = true by simp [mx_cnd, hc]]
    rfl
  · rw [if_neg hc] at kk
    refine mx_S.pu hm hd ?_ kk
    show (if 3 = 3 then (mx_tg pc off).bind (fun tgt => match mx_cnd .eq x 0 with | true => some (tgt, lv, st) | false => some (pc + 3, lv, st)) else none) = _
    rw [if_pos rfl, ht, show mx_cnd .eq x 0 = false by simp [mx_cnd] at hc ⊢; first | exact hc | simp [hc]]
    rfl
theorem sx_ic_eq (hm : mx_mt mu = some (y, cc, nL, ret)) {off : Int} (hd : decode cc pc = .ok (.if_icmp .eq off, 3)) {tgt : Nat} (ht : mx_tg pc off = some tgt) {x y0 : Int32} (kk : if x = y0 then mx_S X F L mu tgt lv st h c s r else mx_S X F L mu (pc + 3) lv st h c s r) : mx_S X F L mu pc lv (.int y0 :: .int x :: st) h c s r := by
  by_cases hc : x = y0
  · rw [if_pos hc] at kk
    refine mx_S.pu hm hd ?_ kk
    show (if 3 = 3 then (mx_tg pc off).bind (fun tgt => match mx_cnd .eq x y0 with | true => some (tgt, lv, st) | false => some (pc + 3, lv, st)) else none) = _
    rw [if_pos rfl, ht, show mx_cnd .eq x y0 = true by simp [mx_cnd, hc]]
    rfl
  · rw [if_neg hc] at kk
    refine mx_S.pu hm hd ?_ kk
    show (if 3 = 3 then (mx_tg pc off).bind (fun tgt => match mx_cnd .eq x y0 with | true => some (tgt, lv, st) | false => some (pc + 3, lv, st)) else none) = _
    rw [if_pos rfl, ht, show mx_cnd .eq x y0 = false by simp [mx_cnd] at hc ⊢; first | exact hc | simp [hc]]
    rfl
theorem sx_if_ne (hm : mx_mt mu = some (y, cc, nL, ret)) {off : Int} (hd : decode cc pc = .ok (.ifCond .ne off, 3)) {tgt : Nat} (ht : mx_tg pc off = some tgt) {x : Int32} (kk : if ¬ x = 0 then mx_S X F L mu tgt lv st h c s r else mx_S X F L mu (pc + 3) lv st h c s r) : mx_S X F L mu pc lv (.int x :: st) h c s r := by
  by_cases hc : ¬ x = 0
  · rw [if_pos hc] at kk
    refine mx_S.pu hm hd ?_ kk
    show (if 3 = 3 then (mx_tg pc off).bind (fun tgt => match mx_cnd .ne x 0 with | true => some (tgt, lv, st) | false => some (pc + 3, lv, st)) else none) = _
    rw [if_pos rfl, ht, show mx_cnd .ne x 0 = true by simp [mx_cnd, hc]]
    rfl
  · rw [if_neg hc] at kk
    refine mx_S.pu hm hd ?_ kk
    show (if 3 = 3 then (mx_tg pc off).bind (fun tgt => match mx_cnd .ne x 0 with | true => some (tgt, lv, st) | false => some (pc + 3, lv, st)) else none) = _
    rw [if_pos rfl, ht, show mx_cnd .ne x 0 = false by simp [mx_cnd] at hc ⊢; first | exact hc | simp [hc]]
    rfl
theorem sx_ic_ne (hm : mx_mt mu = some (y, cc, nL, ret)) {off : Int} (hd : decode cc pc = .ok (.if_icmp .ne off, 3)) {tgt : Nat} (ht : mx_tg pc off = some tgt) {x y0 : Int32} (kk : if ¬ x = y0 then mx_S X F L mu tgt lv st h c s r else mx_S X F L mu (pc + 3) lv st h c s r) : mx_S X F L mu pc lv (.int y0 :: .int x :: st) h c s r := by
  by_cases hc : ¬ x = y0
  · rw [if_pos hc] at kk
    refine mx_S.pu hm hd ?_ kk
    show (if 3 = 3 then (mx_tg pc off).bind (fun tgt => match mx_cnd .ne x y0 with | true => some (tgt, lv, st) | false => some (pc + 3, lv, st)) else none) = _
    rw [if_pos rfl, ht, show mx_cnd .ne x y0 = true by simp [mx_cnd, hc]]
    rfl
  · rw [if_neg hc] at kk
    refine mx_S.pu hm hd ?_ kk
    show (if 3 = 3 then (mx_tg pc off).bind (fun tgt => match mx_cnd .ne x y0 with | true => some (tgt, lv, st) | false => some (pc + 3, lv, st)) else none) = _
    rw [if_pos rfl, ht, show mx_cnd .ne x y0 = false by simp [mx_cnd] at hc ⊢; first | exact hc | simp [hc]]
    rfl
theorem sx_if_lt (hm : mx_mt mu = some (y, cc, nL, ret)) {off : Int} (hd : decode cc pc = .ok (.ifCond .lt off, 3)) {tgt : Nat} (ht : mx_tg pc off = some tgt) {x : Int32} (kk : if x < 0 then mx_S X F L mu tgt lv st h c s r else mx_S X F L mu (pc + 3) lv st h c s r) : mx_S X F L mu pc lv (.int x :: st) h c s r := by
  by_cases hc : x < 0
  · rw [if_pos hc] at kk
    refine mx_S.pu hm hd ?_ kk
    show (if 3 = 3 then (mx_tg pc off).bind (fun tgt => match mx_cnd .lt x 0 with | true => some (tgt, lv, st) | false => some (pc + 3, lv, st)) else none) = _
    rw [if_pos rfl, ht, show mx_cnd .lt x 0 = true by simp [mx_cnd, hc]]
    rfl
  · rw [if_neg hc] at kk
    refine mx_S.pu hm hd ?_ kk
    show (if 3 = 3 then (mx_tg pc off).bind (fun tgt => match mx_cnd .lt x 0 with | true => some (tgt, lv, st) | false => some (pc + 3, lv, st)) else none) = _
    rw [if_pos rfl, ht, show mx_cnd .lt x 0 = false by simp [mx_cnd] at hc ⊢; first | exact hc | simp [hc]]
    rfl
theorem sx_ic_lt (hm : mx_mt mu = some (y, cc, nL, ret)) {off : Int} (hd : decode cc pc = .ok (.if_icmp .lt off, 3)) {tgt : Nat} (ht : mx_tg pc off = some tgt) {x y0 : Int32} (kk : if x < y0 then mx_S X F L mu tgt lv st h c s r else mx_S X F L mu (pc + 3) lv st h c s r) : mx_S X F L mu pc lv (.int y0 :: .int x :: st) h c s r := by
  by_cases hc : x < y0
  · rw [if_pos hc] at kk
    refine mx_S.pu hm hd ?_ kk
    show (if 3 = 3 then (mx_tg pc off).bind (fun tgt => match mx_cnd .lt x y0 with | true => some (tgt, lv, st) | false => some (pc + 3, lv, st)) else none) = _
    rw [if_pos rfl, ht, show mx_cnd .lt x y0 = true by simp [mx_cnd, hc]]
    rfl
  · rw [if_neg hc] at kk
    refine mx_S.pu hm hd ?_ kk
    show (if 3 = 3 then (mx_tg pc off).bind (fun tgt => match mx_cnd .lt x y0 with | true => some (tgt, lv, st) | false => some (pc + 3, lv, st)) else none) = _
    rw [if_pos rfl, ht, show mx_cnd .lt x y0 = false by simp [mx_cnd] at hc ⊢; first | exact hc | simp [hc]]
    rfl
theorem sx_if_ge (hm : mx_mt mu = some (y, cc, nL, ret)) {off : Int} (hd : decode cc pc = .ok (.ifCond .ge off, 3)) {tgt : Nat} (ht : mx_tg pc off = some tgt) {x : Int32} (kk : if 0 ≤ x then mx_S X F L mu tgt lv st h c s r else mx_S X F L mu (pc + 3) lv st h c s r) : mx_S X F L mu pc lv (.int x :: st) h c s r := by
  by_cases hc : 0 ≤ x
  · rw [if_pos hc] at kk
    refine mx_S.pu hm hd ?_ kk
    show (if 3 = 3 then (mx_tg pc off).bind (fun tgt => match mx_cnd .ge x 0 with | true => some (tgt, lv, st) | false => some (pc + 3, lv, st)) else none) = _
    rw [if_pos rfl, ht, show mx_cnd .ge x 0 = true by simp [mx_cnd, hc]]
    rfl
  · rw [if_neg hc] at kk
    refine mx_S.pu hm hd ?_ kk
    show (if 3 = 3 then (mx_tg pc off).bind (fun tgt => match mx_cnd .ge x 0 with | true => some (tgt, lv, st) | false => some (pc + 3, lv, st)) else none) = _
    rw [if_pos rfl, ht, show mx_cnd .ge x 0 = false by simp [mx_cnd] at hc ⊢; first | exact hc | simp [hc]]
    rfl
theorem sx_ic_ge (hm : mx_mt mu = some (y, cc, nL, ret)) {off : Int} (hd : decode cc pc = .ok (.if_icmp .ge off, 3)) {tgt : Nat} (ht : mx_tg pc off = some tgt) {x y0 : Int32} (kk : if y0 ≤ x then mx_S X F L mu tgt lv st h c s r else mx_S X F L mu (pc + 3) lv st h c s r) : mx_S X F L mu pc lv (.int y0 :: .int x :: st) h c s r := by
  by_cases hc : y0 ≤ x
  · rw [if_pos hc] at kk
    refine mx_S.pu hm hd ?_ kk
    show (if 3 = 3 then (mx_tg pc off).bind (fun tgt => match mx_cnd .ge x y0 with | true => some (tgt, lv, st) | false => some (pc + 3, lv, st)) else none) = _
    rw [if_pos rfl, ht, show mx_cnd .ge x y0 = true by simp [mx_cnd, hc]]
    rfl
  · rw [if_neg hc] at kk
    refine mx_S.pu hm hd ?_ kk
    show (if 3 = 3 then (mx_tg pc off).bind (fun tgt => match mx_cnd .ge x y0 with | true => some (tgt, lv, st) | false => some (pc + 3, lv, st)) else none) = _
    rw [if_pos rfl, ht, show mx_cnd .ge x y0 = false by simp [mx_cnd] at hc ⊢; first | exact hc | simp [hc]]
    rfl
theorem sx_if_gt (hm : mx_mt mu = some (y, cc, nL, ret)) {off : Int} (hd : decode cc pc = .ok (.ifCond .gt off, 3)) {tgt : Nat} (ht : mx_tg pc off = some tgt) {x : Int32} (kk : if 0 < x then mx_S X F L mu tgt lv st h c s r else mx_S X F L mu (pc + 3) lv st h c s r) : mx_S X F L mu pc lv (.int x :: st) h c s r := by
  by_cases hc : 0 < x
  · rw [if_pos hc] at kk
    refine mx_S.pu hm hd ?_ kk
    show (if 3 = 3 then (mx_tg pc off).bind (fun tgt => match mx_cnd .gt x 0 with | true => some (tgt, lv, st) | false => some (pc + 3, lv, st)) else none) = _
    rw [if_pos rfl, ht, show mx_cnd .gt x 0 = true by simp [mx_cnd, hc]]
    rfl
  · rw [if_neg hc] at kk
    refine mx_S.pu hm hd ?_ kk
    show (if 3 = 3 then (mx_tg pc off).bind (fun tgt => match mx_cnd .gt x 0 with | true => some (tgt, lv, st) | false => some (pc + 3, lv, st)) else none) = _
    rw [if_pos rfl, ht, show mx_cnd .gt x 0 = false by simp [mx_cnd] at hc ⊢; first | exact hc | simp [hc]]
    rfl
theorem sx_ic_gt (hm : mx_mt mu = some (y, cc, nL, ret)) {off : Int} (hd : decode cc pc = .ok (.if_icmp .gt off, 3)) {tgt : Nat} (ht : mx_tg pc off = some tgt) {x y0 : Int32} (kk : if y0 < x then mx_S X F L mu tgt lv st h c s r else mx_S X F L mu (pc + 3) lv st h c s r) : mx_S X F L mu pc lv (.int y0 :: .int x :: st) h c s r := by
  by_cases hc : y0 < x
  · rw [if_pos hc] at kk
    refine mx_S.pu hm hd ?_ kk
    show (if 3 = 3 then (mx_tg pc off).bind (fun tgt => match mx_cnd .gt x y0 with | true => some (tgt, lv, st) | false => some (pc + 3, lv, st)) else none) = _
    rw [if_pos rfl, ht, show mx_cnd .gt x y0 = true by simp [mx_cnd, hc]]
    rfl
  · rw [if_neg hc] at kk
    refine mx_S.pu hm hd ?_ kk
    show (if 3 = 3 then (mx_tg pc off).bind (fun tgt => match mx_cnd .gt x y0 with | true => some (tgt, lv, st) | false => some (pc + 3, lv, st)) else none) = _
    rw [if_pos rfl, ht, show mx_cnd .gt x y0 = false by simp [mx_cnd] at hc ⊢; first | exact hc | simp [hc]]
    rfl
theorem sx_if_le (hm : mx_mt mu = some (y, cc, nL, ret)) {off : Int} (hd : decode cc pc = .ok (.ifCond .le off, 3)) {tgt : Nat} (ht : mx_tg pc off = some tgt) {x : Int32} (kk : if x ≤ 0 then mx_S X F L mu tgt lv st h c s r else mx_S X F L mu (pc + 3) lv st h c s r) : mx_S X F L mu pc lv (.int x :: st) h c s r := by
  by_cases hc : x ≤ 0
  · rw [if_pos hc] at kk
    refine mx_S.pu hm hd ?_ kk
    show (if 3 = 3 then (mx_tg pc off).bind (fun tgt => match mx_cnd .le x 0 with | true => some (tgt, lv, st) | false => some (pc + 3, lv, st)) else none) = _
    rw [if_pos rfl, ht, show mx_cnd .le x 0 = true by simp [mx_cnd, hc]]
    rfl
  · rw [if_neg hc] at kk
    refine mx_S.pu hm hd ?_ kk
    show (if 3 = 3 then (mx_tg pc off).bind (fun tgt => match mx_cnd .le x 0 with | true => some (tgt, lv, st) | false => some (pc + 3, lv, st)) else none) = _
    rw [if_pos rfl, ht, show mx_cnd .le x 0 = false by simp [mx_cnd] at hc ⊢; first | exact hc | simp [hc]]
    rfl
theorem sx_ic_le (hm : mx_mt mu = some (y, cc, nL, ret)) {off : Int} (hd : decode cc pc = .ok (.if_icmp .le off, 3)) {tgt : Nat} (ht : mx_tg pc off = some tgt) {x y0 : Int32} (kk : if x ≤ y0 then mx_S X F L mu tgt lv st h c s r else mx_S X F L mu (pc + 3) lv st h c s r) : mx_S X F L mu pc lv (.int y0 :: .int x :: st) h c s r := by
  by_cases hc : x ≤ y0
  · rw [if_pos hc] at kk
    refine mx_S.pu hm hd ?_ kk
    show (if 3 = 3 then (mx_tg pc off).bind (fun tgt => match mx_cnd .le x y0 with | true => some (tgt, lv, st) | false => some (pc + 3, lv, st)) else none) = _
    rw [if_pos rfl, ht, show mx_cnd .le x y0 = true by simp [mx_cnd, hc]]
    rfl
  · rw [if_neg hc] at kk
    refine mx_S.pu hm hd ?_ kk
    show (if 3 = 3 then (mx_tg pc off).bind (fun tgt => match mx_cnd .le x y0 with | true => some (tgt, lv, st) | false => some (pc + 3, lv, st)) else none) = _
    rw [if_pos rfl, ht, show mx_cnd .le x y0 = false by simp [mx_cnd] at hc ⊢; first | exact hc | simp [hc]]
    rfl
theorem sx_tin (hm : mx_mt mu = some (y, cc, nL, ret)) {dflt lo hi : Int} {offs : Array Int} (hd : decode cc pc = .ok (.tableswitch dflt lo hi offs, len)) {x : Int32} (h1 : ¬ x.toInt < lo) (h2 : ¬ hi < x.toInt) {off : Int} (ho : offs[(x.toInt - lo).toNat]? = some off) {tgt : Nat} (ht : mx_tg pc off = some tgt) (kk : mx_S X F L mu tgt lv st h c s r) : mx_S X F L mu pc lv (.int x :: st) h c s r := by
  refine mx_S.pu hm hd ?_ kk
  show (if x.toInt < lo ∨ hi < x.toInt then _ else _) = _
  rw [if_neg (fun q => q.elim h1 h2), ho]
  dsimp only
  rw [ht]
  rfl
theorem sx_tout (hm : mx_mt mu = some (y, cc, nL, ret)) {dflt lo hi : Int} {offs : Array Int} (hd : decode cc pc = .ok (.tableswitch dflt lo hi offs, len)) {x : Int32} (h1 : x.toInt < lo ∨ hi < x.toInt) {tgt : Nat} (ht : mx_tg pc dflt = some tgt) (kk : mx_S X F L mu tgt lv st h c s r) : mx_S X F L mu pc lv (.int x :: st) h c s r := by
  refine mx_S.pu hm hd ?_ kk
  show (if x.toInt < lo ∨ hi < x.toInt then _ else _) = _
  rw [if_pos h1, ht]
  rfl
theorem sx_look (hm : mx_mt mu = some (y, cc, nL, ret)) {dflt : Int} {ps : Array (Int × Int)} (hd : decode cc pc = .ok (.lookupswitch dflt ps, len)) {x : Int32} (hp : (ps.toList.zip (ps.toList.drop 1)).all (fun (a, next) => a.1 < next.1) = true) {off : Int} (ho : Op.lookupswitch.offset ps.toList dflt x.toInt = off) {tgt : Nat} (ht : mx_tg pc off = some tgt) (kk : mx_S X F L mu tgt lv st h c s r) : mx_S X F L mu pc lv (.int x :: st) h c s r := by
  subst ho
  refine mx_S.pu hm hd ?_ kk
  show (if _ then (mx_tg pc _).bind _ else none) = _
  rw [if_pos hp, ht]
  rfl
/- calls -/
theorem sx_cv (hm : mx_mt mu = some (y, cc, nL, ret)) (hd : decode cc pc = .ok (.invokevirtual ix, 3)) {nu n : Nat} (hr : mx_res y.cls ix = some (1, nu, n)) {y2 : MethodName} {cc2 : ByteArray} {nL2 : Nat} {ret2 : Option FieldType} (hn2 : mx_mt nu = some (y2, cc2, nL2, ret2)) (As rest : List Value) {b ci : Nat} (hst : st = As.reverse ++ .ref b :: rest) (hn : As.length = n) (hci : mx_cn ci = some y2.cls) (his : xis h b ci = true) (h8 : (rest.map fun v => v.category).sum ≤ 8) (hsl : (lg_sl (.ref b :: As)).length ≤ nL2) (hF : 1 ≤ F) (hL : 19 + nL2 ≤ L) {v : Option Value} {h2 : mx_H} (hcl : mx_R X (F - 1) (L - (19 + nL2)) nu (.ref b :: As) h (v, h2, 0, 0)) (kk : mx_S X F L mu (pc + 3) lv (v.toList ++ rest) h2 c s r) : mx_S X F L mu pc lv st h c s r := by
  subst hst
  subst hn
  have hdr : (As.reverse ++ Value.ref b :: rest).drop As.length = Value.ref b :: rest := by rw [← List.length_reverse, List.drop_left]
  have htk : (As.reverse ++ Value.ref b :: rest).take As.length = As.reverse := by rw [← List.length_reverse, List.take_left]
  refine mx_S.ca hm hd rfl rfl rfl rfl ?_ ?_ (kd := 1) (nu := nu) (As := .ref b :: As) (rest := rest) ?_ hn2 ⟨?_, h8, hsl, hF, hL⟩ hcl kk
  · show (if 3 = 3 then mx_sv (mx_res y.cls ix) _ else none) = _
    rw [if_pos rfl, hr]
    rfl
  · show (if 3 = 3 then mx_rs (mx_res y.cls ix) 18 _ else none) = _
    rw [if_pos rfl, hr]
    rfl
  · show (if 3 = 3 then mx_rs (mx_res y.cls ix) 1 _ else none) = _
    rw [if_pos rfl, hr]
    show (if 1 = 1 then mx_ra _ _ else none) = _
    rw [if_pos rfl, hdr]
    show (if _ then _ else none) = _
    rw [if_pos (by rw [List.length_append, List.length_reverse]; exact Nat.le_add_right _ _), htk, List.reverse_reverse]
  · unfold mx_rcv
    rw [if_pos rfl]
    dsimp only
    unfold xis at his
    cases hb : h[b]? with
    | none => rw [hb] at his; cases his
    | some x =>
      rw [hb] at his
      obtain ⟨ty, xx⟩ | ⟨cj, fs⟩ := x
      · cases his
      · have e1 : cj = ci := of_decide_eq_true his
        subst e1
        exact decide_eq_true hci
theorem sx_cs (hm : mx_mt mu = some (y, cc, nL, ret)) (hd : decode cc pc = .ok (.invokestatic ix, 3)) {nu n : Nat} (hr : mx_res y.cls ix = some (2, nu, n)) {y2 : MethodName} {cc2 : ByteArray} {nL2 : Nat} {ret2 : Option FieldType} (hn2 : mx_mt nu = some (y2, cc2, nL2, ret2)) (As rest : List Value) (hst : st = As.reverse ++ rest) (hn : As.length = n) (h8 : (rest.map fun v => v.category).sum ≤ 8) (hsl : (lg_sl As).length ≤ nL2) (hF : 1 ≤ F) (hL : 19 + nL2 ≤ L) {v : Option Value} {h2 : mx_H} (hcl : mx_R X (F - 1) (L - (19 + nL2)) nu As h (v, h2, 0, 0)) (kk : mx_S X F L mu (pc + 3) lv (v.toList ++ rest) h2 c s r) : mx_S X F L mu pc lv st h c s r := by
  subst hst
  subst hn
  have hdr : (As.reverse ++ rest).drop As.length = rest := by rw [← List.length_reverse, List.drop_left]
  have htk : (As.reverse ++ rest).take As.length = As.reverse := by rw [← List.length_reverse, List.take_left]
  refine mx_S.ca hm hd rfl rfl rfl ?_ rfl rfl (kd := 2) (nu := nu) (As := As) (rest := rest) ?_ hn2 ⟨rfl, h8, hsl, hF, hL⟩ hcl kk
  · show (if 3 = 3 ∧ 1 ≤ F then mx_sv (mx_res y.cls ix) _ else none) = _
    rw [if_pos ⟨rfl, hF⟩, hr]
    rfl
  · show (if 3 = 3 then mx_rs (mx_res y.cls ix) 2 _ else none) = _
    rw [if_pos rfl, hr]
    show (if As.length ≤ (As.reverse ++ rest).length then some (2, nu, ((As.reverse ++ rest).take As.length).reverse, (As.reverse ++ rest).drop As.length) else none) = _
    rw [if_pos (by rw [List.length_append, List.length_reverse]; exact Nat.le_add_right _ _), hdr, htk, List.reverse_reverse]
theorem sx_copy (hm : mx_mt mu = some (y, cc, nL, ret)) (hd : decode cc pc = .ok (.invokestatic ix, 3)) {a0 b0 : Nat} (hr : mx_res y.cls ix = some (6, a0, b0)) {a b : Nat} {sp dp n : Int32} {h2 : mx_H} (hv : xcp h a sp b dp n = some h2) (hF : 1 ≤ F) (hL : (st.map fun v => v.category).sum + (nativeFrameWords "java/lang/System" "arraycopy" 5 + 11) ≤ L) (kk : mx_S X F L mu (pc + 3) lv st h2 c s r) : mx_S X F L mu pc lv (.int n :: .int dp :: .ref b :: .int sp :: .ref a :: st) h c s r := by
  unfold xcp at hv
  obtain ⟨ty, n0, f, h1, hv⟩ := mx_ai_el hv
  obtain ⟨ty2, n1, g, h3, hv⟩ := mx_ai_el hv
  obtain ⟨⟨c1, c2, c3, c4⟩, hv⟩ := mx_ifk hv
  cases hv
  refine mx_S.od hm hd rfl rfl rfl ?_ kk
  show (if 3 = 3 ∧ 1 ≤ F then mx_sv (mx_res y.cls ix) _ else none) = _
  rw [if_pos ⟨rfl, hF⟩, hr, mx_sv_some]
  dsimp only
  rw [if_pos rfl]
  show mx_ai h a _ = _
  unfold mx_ai
  rw [h1]
  dsimp only
  rw [h3]
  dsimp only
  rw [if_pos ⟨c1, c2, c3, c4, hL⟩]
theorem sx_max (hm : mx_mt mu = some (y, cc, nL, ret)) (hd : decode cc pc = .ok (.invokestatic ix, 3)) {a0 b0 : Nat} (hr : mx_res y.cls ix = some (13, a0, b0)) {x y0 : Int32} (hF : 1 ≤ F) (hL : (st.map fun v => v.category).sum + 13 ≤ L) (kk : mx_S X F L mu (pc + 3) lv (.int (if x < y0 then y0 else x) :: st) h c s r) : mx_S X F L mu pc lv (.int y0 :: .int x :: st) h c s r := by
  refine mx_S.od hm hd rfl rfl rfl ?_ kk
  show (if 3 = 3 ∧ 1 ≤ F then mx_sv (mx_res y.cls ix) _ else none) = _
  rw [if_pos ⟨rfl, hF⟩, hr]
  show (if _ then _ else none) = _
  rw [if_pos hL]
theorem sx_min (hm : mx_mt mu = some (y, cc, nL, ret)) (hd : decode cc pc = .ok (.invokestatic ix, 3)) {a0 b0 : Nat} (hr : mx_res y.cls ix = some (14, a0, b0)) {x y0 : Int32} (hF : 1 ≤ F) (hL : (st.map fun v => v.category).sum + 13 ≤ L) (kk : mx_S X F L mu (pc + 3) lv (.int (if y0 < x then y0 else x) :: st) h c s r) : mx_S X F L mu pc lv (.int y0 :: .int x :: st) h c s r := by
  refine mx_S.od hm hd rfl rfl rfl ?_ kk
  show (if 3 = 3 ∧ 1 ≤ F then mx_sv (mx_res y.cls ix) _ else none) = _
  rw [if_pos ⟨rfl, hF⟩, hr]
  show (if _ then _ else none) = _
  rw [if_pos hL]
theorem sx_minl (hm : mx_mt mu = some (y, cc, nL, ret)) (hd : decode cc pc = .ok (.invokestatic ix, 3)) {a0 b0 : Nat} (hr : mx_res y.cls ix = some (15, a0, b0)) {x y0 : Int64} (hF : 1 ≤ F) (hL : (st.map fun v => v.category).sum + 15 ≤ L) (kk : mx_S X F L mu (pc + 3) lv (.long (if y0 < x then y0 else x) :: st) h c s r) : mx_S X F L mu pc lv (.long y0 :: .long x :: st) h c s r := by
  refine mx_S.od hm hd rfl rfl rfl ?_ kk
  show (if 3 = 3 ∧ 1 ≤ F then mx_sv (mx_res y.cls ix) _ else none) = _
  rw [if_pos ⟨rfl, hF⟩, hr]
  show (if _ then _ else none) = _
  rw [if_pos hL]
theorem sx_ldc (hm : mx_mt mu = some (y, cc, nL, ret)) (hd : decode cc pc = .ok (.ldc ix, 2)) {a b : Nat} (hr : mx_res y.cls ix = some (7, a, b)) (kk : mx_S X F L mu (pc + 2) lv (.int (Int32.ofNat a) :: st) h c s r) : mx_S X F L mu pc lv st h c s r := by
  refine mx_S.od hm hd rfl rfl rfl ?_ kk
  show (if 2 = 2 then mx_sv (mx_res y.cls ix) _ else none) = _
  rw [if_pos rfl, hr]
  rfl
theorem sx_ldcS (hm : mx_mt mu = some (y, cc, nL, ret)) (hd : decode cc pc = .ok (.ldc ix, 2)) {a b : Nat} (hr : mx_res y.cls ix = some (12, a, b)) (kk : mx_S X F L mu (pc + 2) lv (.ref (1000000000 + a) :: st) h c s r) : mx_S X F L mu pc lv st h c s r := by
  refine mx_S.od hm hd rfl rfl rfl ?_ kk
  show (if 2 = 2 then mx_sv (mx_res y.cls ix) _ else none) = _
  rw [if_pos rfl, hr]
  rfl
theorem sx_ldcw (hm : mx_mt mu = some (y, cc, nL, ret)) (hd : decode cc pc = .ok (.ldc_w ix, 3)) {a b : Nat} (hr : mx_res y.cls ix = some (12, a, b)) (kk : mx_S X F L mu (pc + 3) lv (.ref (1000000000 + a) :: st) h c s r) : mx_S X F L mu pc lv st h c s r := by
  refine mx_S.od hm hd rfl rfl rfl ?_ kk
  show (if 3 = 3 then mx_rs (mx_res y.cls ix) 12 _ else none) = _
  rw [if_pos rfl, hr]
  rfl
theorem sx_ldc2 (hm : mx_mt mu = some (y, cc, nL, ret)) (hd : decode cc pc = .ok (.ldc2_w ix, 3)) {a b : Nat} (hr : mx_res y.cls ix = some (8, a, b)) (kk : mx_S X F L mu (pc + 3) lv (.long (Int64.ofNat a) :: st) h c s r) : mx_S X F L mu pc lv st h c s r := by
  refine mx_S.od hm hd rfl rfl rfl ?_ kk
  show (if 3 = 3 then mx_rs (mx_res y.cls ix) 8 _ else none) = _
  rw [if_pos rfl, hr]
  rfl
theorem sx_chr (hm : mx_mt mu = some (y, cc, nL, ret)) (hd : decode cc pc = .ok (.invokevirtual ix, 3)) {a0 b0 : Nat} (hr : mx_res y.cls ix = some (16, a0, b0)) {a : Nat} {j v : Int32} (hv : xsc a j = some v) (hF : 4 ≤ F) (hL : 85 ≤ L) (h8 : (st.map fun v => v.category).sum ≤ 8) (kk : mx_S X F L mu (pc + 3) lv (.int v :: st) h c s r) : mx_S X F L mu pc lv (.int j :: .ref a :: st) h c s r := by
  unfold xsc at hv
  obtain ⟨t, h1, hv⟩ := mx_sv_el hv
  obtain ⟨⟨c2, c3⟩, hv⟩ := mx_ifk hv
  cases hv
  refine mx_S.sr hm hd rfl rfl rfl rfl ?_ kk
  show (if 3 = 3 then mx_sv (mx_res y.cls ix) _ else none) = _
  rw [if_pos rfl, hr, mx_sv_some]
  dsimp only
  rw [if_pos rfl]
  unfold mx_ia
  dsimp only
  rw [mx_GGs, h1, mx_sv_some, if_pos ⟨c2, c3, hF, hL, h8⟩]
theorem sx_sln (hm : mx_mt mu = some (y, cc, nL, ret)) (hd : decode cc pc = .ok (.invokevirtual ix, 3)) {a0 b0 : Nat} (hr : mx_res y.cls ix = some (17, a0, b0)) {a : Nat} {v : Int32} (hv : xsl a = some v) (hF : 2 ≤ F) (hL : 40 ≤ L) (h8 : (st.map fun v => v.category).sum ≤ 8) (kk : mx_S X F L mu (pc + 3) lv (.int v :: st) h c s r) : mx_S X F L mu pc lv (.ref a :: st) h c s r := by
  unfold xsl at hv
  obtain ⟨t, h1, hv⟩ := mx_sv_el hv
  cases hv
  refine mx_S.sr hm hd rfl rfl rfl rfl ?_ kk
  show (if 3 = 3 then mx_sv (mx_res y.cls ix) _ else none) = _
  rw [if_pos rfl, hr, mx_sv_some]
  dsimp only
  rw [if_neg (by decide), if_pos rfl]
  unfold mx_ra
  dsimp only
  rw [mx_GGs, h1, mx_sv_some, if_pos ⟨hF, hL, h8⟩]
end SX
