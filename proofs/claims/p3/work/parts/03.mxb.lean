def mx_trA (rh : Nat → Nat) (x : vp_A) : vp_A := (x.1, match x.2 with
  | .inl f => .inl f
  | .inr (.inl f) => .inr (.inl f)
  | .inr (.inr (.inl f)) => .inr (.inr (.inl f))
  | .inr (.inr (.inr (.inl f))) => .inr (.inr (.inr (.inl f)))
  | .inr (.inr (.inr (.inr f))) => .inr (.inr (.inr (.inr (fun j => (f j).map rh)))))
def mx_trE (rh : Nat → Nat) (ka : Nat → ClassId) (i : Nat) (x : mx_E) : va_E := match x with
  | .inl (_, y) => .inl (ka i, mx_trA rh y)
  | .inr (ci, fs) => .inr (ci, mx_trS rh fs)
/-- the cells as the kit's world has them -/
def mx_ws (rh : Nat → Nat) (ka : Nat → ClassId) (h : mx_H) : va_W := h.mapIdx (fun i x => (rh i, mx_trE rh ka i x))
theorem mx_tr_rf (rh : Nat → Nat) (x : Option Nat) : mx_tr rh (va_rf x) = va_rf (x.map rh) := by cases x <;> rfl
theorem mx_ws_at {rh : Nat → Nat} {ka : Nat → ClassId} {h : mx_H} {i : Nat} {x : mx_E} (he : h[i]? = some x) : (mx_ws rh ka h)[i]? = some (rh i, mx_trE rh ka i x) := by
  unfold mx_ws
  rw [List.getElem?_mapIdx, he]
  rfl
theorem mx_ws_inv {rh : Nat → Nat} {ka : Nat → ClassId} {h : mx_H} {i : Nat} {q : Nat × va_E} (hq : (mx_ws rh ka h)[i]? = some q) : ∃ x, h[i]? = some x ∧ q = (rh i, mx_trE rh ka i x) := by
  unfold mx_ws at hq
  rw [List.getElem?_mapIdx] at hq
  cases hx : h[i]? with
  | none => rw [hx] at hq; cases hq
  | some x => rw [hx] at hq; cases hq; exact ⟨x, rfl, rfl⟩
theorem mx_ws_set (rh : Nat → Nat) (ka : Nat → ClassId) (h : mx_H) (i : Nat) (x : mx_E) : (mx_ws rh ka h).set i (rh i, mx_trE rh ka i x) = mx_ws rh ka (h.set i x) := by
  apply List.ext_getElem?
  intro j
  simp only [mx_ws, List.getElem?_set, List.getElem?_mapIdx, List.length_mapIdx]
  by_cases hij : i = j
  · subst hij
    by_cases hl : i < h.length <;> simp [hl]
  · simp [hij]
theorem mx_ws_len (rh : Nat → Nat) (ka : Nat → ClassId) (h : mx_H) : (mx_ws rh ka h).length = h.length := by unfold mx_ws; exact List.length_mapIdx
def mx_okA (n : Nat) (x : vp_A) : Prop := match x.2 with
  | .inr (.inr (.inr (.inr f))) => ∀ j i, f j = some i → i < n ∨ 1000000000 ≤ i
  | _ => True
def mx_okE (n : Nat) (x : mx_E) : Prop := match x with
  | .inl (_, y) => mx_okA n y
  | .inr (_, fs) => mx_okS n fs
def mx_okH (h : mx_H) : Prop := ∀ x ∈ h, mx_okE h.length x
theorem mx_okV.mono {n k : Nat} {v : Value} (h : mx_okV n v) (hk : n ≤ k) : mx_okV k v := by
  cases v with
  | ref i => exact Or.elim (h : i < n ∨ 1000000000 ≤ i) (fun q => Or.inl (Nat.lt_of_lt_of_le q hk)) Or.inr
  | _ => exact trivial
theorem mx_okS.mono {n k : Nat} {st : List Value} (h : mx_okS n st) (hk : n ≤ k) : mx_okS k st := fun v hv => (h v hv).mono hk
theorem mx_okL.mono {n k : Nat} {lv : mx_L} (h : mx_okL n lv) (hk : n ≤ k) : mx_okL k lv := fun v hv => (h v hv).mono hk
theorem mx_okE.mono {n k : Nat} {x : mx_E} (h : mx_okE n x) (hk : n ≤ k) : mx_okE k x := by
  obtain ⟨ty, m, f | f | f | f | f⟩ | ⟨ci, fs⟩ := x
  · exact trivial
  · exact trivial
  · exact trivial
  · exact trivial
  · exact fun j i q => Or.elim (h j i q) (fun z => Or.inl (Nat.lt_of_lt_of_le z hk)) Or.inr
  · exact mx_okS.mono (st := fs) h hk
theorem mx_okH.at {h : mx_H} {i : Nat} {x : mx_E} (hh : mx_okH h) (he : h[i]? = some x) : mx_okE h.length x := hh x (List.mem_of_getElem? he)
theorem mx_okH.set {h : mx_H} {i : Nat} {x : mx_E} (hh : mx_okH h) (hx : mx_okE h.length x) : mx_okH (h.set i x) := by
  intro y hy
  rw [List.length_set]
  rcases List.mem_or_eq_of_mem_set hy with q | q
  · exact hh y q
  · rw [q]; exact hx
theorem mx_okH.push {h : mx_H} {x : mx_E} (hh : mx_okH h) (hx : mx_okE (h.length + 1) x) : mx_okH (h ++ [x]) := by
  intro y hy
  have hl : (h ++ [x]).length = h.length + 1 := by simp
  rw [hl]
  rcases List.mem_append.mp hy with q | q
  · exact (hh y q).mono (Nat.le_succ _)
  · rw [List.mem_singleton.mp q]; exact hx
/-- two ways from places to addresses that agree on all places in use -/
def mx_agr (n : Nat) (rh rh2 : Nat → Nat) : Prop := ∀ i, i < n ∨ 1000000000 ≤ i → rh2 i = rh i
theorem mx_agr.rf (n : Nat) (rh : Nat → Nat) : mx_agr n rh rh := fun _ _ => rfl
theorem mx_agr.tr {n k : Nat} {r1 r2 r3 : Nat → Nat} (h1 : mx_agr n r1 r2) (h2 : mx_agr k r2 r3) (hk : n ≤ k) : mx_agr n r1 r3 := fun i hi => by
  rw [h2 i (Or.elim hi (fun q => Or.inl (Nat.lt_of_lt_of_le q hk)) Or.inr), h1 i hi]
theorem mx_agr.v {n : Nat} {r1 r2 : Nat → Nat} (h : mx_agr n r1 r2) {v : Value} (hv : mx_okV n v) : mx_tr r2 v = mx_tr r1 v := by
  cases v with
  | ref i => show Value.ref (r2 i) = Value.ref (r1 i); rw [h i hv]
  | _ => rfl
theorem mx_agr.s {n : Nat} {r1 r2 : Nat → Nat} (h : mx_agr n r1 r2) {st : List Value} (hv : mx_okS n st) : mx_trS r2 st = mx_trS r1 st := List.map_congr_left (fun v hm => h.v (hv v hm))
theorem mx_agr.l {n : Nat} {r1 r2 : Nat → Nat} (h : mx_agr n r1 r2) {lv : mx_L} (hv : mx_okL n lv) : mx_trL r2 lv = mx_trL r1 lv := List.map_congr_left (fun q hm => by rw [h.v (hv q hm)])
theorem mx_agr.e {n : Nat} {r1 r2 : Nat → Nat} (h : mx_agr n r1 r2) {ka : Nat → ClassId} {i : Nat} {x : mx_E} (hv : mx_okE n x) : mx_trE r2 ka i x = mx_trE r1 ka i x := by
  obtain ⟨ty, m, f | f | f | f | f⟩ | ⟨ci, fs⟩ := x
  · rfl
  · rfl
  · rfl
  · rfl
  · have e1 : (fun j => (f j).map r2) = (fun j => (f j).map r1) := by
      funext j
      cases hj : f j with
      | none => rfl
      | some a => show some (r2 a) = some (r1 a); rw [h a (hv j a hj)]
    show (Sum.inl (ka i, (m, Sum.inr (Sum.inr (Sum.inr (Sum.inr (fun j => (f j).map r2)))))) : va_E) = Sum.inl (ka i, (m, Sum.inr (Sum.inr (Sum.inr (Sum.inr (fun j => (f j).map r1))))))
    rw [e1]
  · show (Sum.inr (ci, mx_trS r2 fs) : va_E) = Sum.inr (ci, mx_trS r1 fs)
    rw [h.s hv]
/-- one more cell -/
theorem mx_ws_push {rh : Nat → Nat} {ka : Nat → ClassId} {h : mx_H} (hh : mx_okH h) (hn : h.length < 1000000000) (q : Nat) (cA : ClassId) (x : mx_E) : mx_ws (va_up rh h.length q) (va_up ka h.length cA) (h ++ [x]) = mx_ws rh ka h ++ [(q, mx_trE (va_up rh h.length q) (va_up ka h.length cA) h.length x)] := by
  have ha : mx_agr h.length rh (va_up rh h.length q) := fun i hi => by
    have : i ≠ h.length := by omega
    simp [va_up, this]
  apply List.ext_getElem?
  intro j
  by_cases hj : j < h.length
  · rw [List.getElem?_append_left (by rw [mx_ws_len]; exact hj)]
    unfold mx_ws
    rw [List.getElem?_mapIdx, List.getElem?_mapIdx, List.getElem?_append_left hj]
    cases hx : h[j]? with
    | none => rfl
    | some y =>
      have e1 := ha.e (ka := va_up ka h.length cA) (i := j) (hh.at hx)
      have e2 : mx_trE rh (va_up ka h.length cA) j y = mx_trE rh ka j y := by
        have hne : j ≠ h.length := by omega
        have e3 : va_up ka h.length cA j = ka j := by simp [va_up, hne]
        cases y with
        | inl y => show (Sum.inl (va_up ka h.length cA j, _) : va_E) = _; rw [e3]; rfl
        | inr y => rfl
      show some (va_up rh h.length q j, mx_trE _ _ j y) = some (rh j, mx_trE rh ka j y)
      rw [e1, e2, ha j (Or.inl hj)]
  · rw [List.getElem?_append_right (by rw [mx_ws_len]; omega), mx_ws_len]
    unfold mx_ws
    rw [List.getElem?_mapIdx, List.getElem?_append_right (by omega)]
    by_cases hz : j = h.length
    · subst hz
      simp [va_up]
    · have h1 : ([x] : List mx_E)[j - h.length]? = none := by
        apply List.getElem?_eq_none
        simp
        omega
      rw [h1]
      symm
      apply List.getElem?_eq_none
      simp
      omega
/-- what is known of an array's class -/
def mx_RA (s : State) (cA : ClassId) (ty : FieldType) : Prop := ArrOfT s cA ty ∧ va_RA s cA ty ∧ match ty with
  | .array t => ∃ (kA : Class) (comp : ClassId), s.vm.classes[cA]? = some kA ∧ kA.kind = .array comp (.array t) ∧ s.vm.findClass (FieldType.array t).toString = some comp
  | _ => True
theorem mx_RA.moved {u U : State} (hvm : u.vm.Alike U.vm) {cA : ClassId} {ty : FieldType} (h : mx_RA u cA ty) : mx_RA U cA ty := by
  refine ⟨arrOfT_moved hvm h.1, h.2.1.moved hvm, ?_⟩
  have h3 := h.2.2
  cases ty with
  | array t =>
    obtain ⟨kA, comp, h1, h2, h4⟩ := h3
    obtain ⟨k', hk', he⟩ := hvm.2.2 _ _ h1
    exact ⟨k', comp, hk', by rw [he]; exact h2, by rw [hvm.findClass]; exact h4⟩
  | _ => exact trivial
def mx_arr (ka : Nat → ClassId) (h : mx_H) (s : State) : Prop := ∀ (i : Nat) (ty : FieldType) (x : vp_A), h[i]? = some (.inl (ty, x)) → mx_RA s (ka i) ty
theorem mx_arr.moved {ka : Nat → ClassId} {h : mx_H} {u U : State} (hvm : u.vm.Alike U.vm) (hr : mx_arr ka h u) : mx_arr ka h U := fun i ty x hi => (hr i ty x hi).moved hvm
theorem mx_arr.k {D : va_G} {cl : List vw_C} {ka : Nat → ClassId} {h : mx_H} {s : State} {i : Nat} {ty : FieldType} {x : vp_A} (hr : mx_arr ka h s) (hK : va_K D cl [] s) (hi : h[i]? = some (.inl (ty, x))) : va_K D cl [(ka i, ty)] s :=
  ⟨hK.1, fun k q hq => by
    cases k with
    | zero => cases hq; exact ⟨(hr i ty x hi).1, (hr i ty x hi).2.1⟩
    | succ k => cases hq⟩
theorem mx_arr.setA {ka : Nat → ClassId} {h : mx_H} {s : State} {i : Nat} {ty : FieldType} {x y : vp_A} (hr : mx_arr ka h s) (hi : h[i]? = some (.inl (ty, x))) : mx_arr ka (h.set i (.inl (ty, y))) s := by
  intro j t z hj
  rw [List.getElem?_set] at hj
  by_cases hij : i = j
  · subst hij
    rw [if_pos rfl] at hj
    split at hj
    · cases hj; exact hr i ty x hi
    · cases hj
  · rw [if_neg hij] at hj
    exact hr j t z hj
theorem mx_arr.setO {ka : Nat → ClassId} {h : mx_H} {s : State} {i : Nat} {y : Nat × List Value} (hr : mx_arr ka h s) : mx_arr ka (h.set i (.inr y)) s := by
  intro j t z hj
  rw [List.getElem?_set] at hj
  by_cases hij : i = j
  · subst hij
    rw [if_pos rfl] at hj
    split at hj
    · cases hj
    · cases hj
  · rw [if_neg hij] at hj
    exact hr j t z hj
theorem mx_arr.push {ka : Nat → ClassId} {h : mx_H} {s : State} {cA : ClassId} {x : mx_E} (hr : mx_arr ka h s) (hx : ∀ ty y, x = .inl (ty, y) → mx_RA s cA ty) : mx_arr (va_up ka h.length cA) (h ++ [x]) s := by
  intro j t z hj
  by_cases hl : j < h.length
  · rw [List.getElem?_append_left hl] at hj
    have e1 : va_up ka h.length cA j = ka j := by simp [va_up, Nat.ne_of_lt hl]
    rw [e1]
    exact hr j t z hj
  · rw [List.getElem?_append_right (by omega)] at hj
    have hz : j - h.length < 1 := (List.getElem?_eq_some_iff.mp hj).1
    have hjl : j = h.length := by omega
    subst hjl
    rw [Nat.sub_self] at hj
    cases hj
    have e1 : va_up ka h.length cA h.length = cA := by simp [va_up]
    rw [e1]
    exact hx t z rfl
/-- all that is known between two instructions of the cells -/
def mx_Rel (D : va_G) (cl : List vw_C) (A : Nat → Prop) (rh : Nat → Nat) (ka : Nat → ClassId) (h : mx_H) (s : State) (H : Heap) : Prop :=
  va_P D cl (mx_ws rh ka h) H ∧ va_D A (mx_ws rh ka h) ∧ mx_okH h ∧ mx_arr ka h s
theorem mx_narrow_tr (rh : Nat → Nat) {ty : FieldType} {v : Value} (h : narrow ty v = v) : narrow ty (mx_tr rh v) = mx_tr rh v := by
  cases v with
  | ref i => cases ty <;> rfl
  | _ => exact h
theorem mx_fits_tr (rh : Nat → Nat) {ty : FieldType} {v : Value} (h : fits ty v = true) : fits ty (mx_tr rh v) = true := by
  cases v with
  | ref i => cases ty <;> first | exact h | rfl
  | _ => exact h
