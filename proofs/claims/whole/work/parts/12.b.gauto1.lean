theorem ix_int {a : Int32} {n : Nat} (h0 : 0 ≤ a.toInt) (h1 : a.toInt < (n : Int)) : vp_in a n := by
  intro h
  rcases h with h | h
  · have h2 := Int32.lt_iff_toInt_lt.mp h
    rw [show (0 : Int32).toInt = 0 from rfl] at h2
    omega
  · have h2 : a.toNatClampNeg = a.toInt.toNat := rfl
    omega
theorem i32_add {a b : Int32} (h1 : -2147483648 ≤ a.toInt + b.toInt) (h2 : a.toInt + b.toInt < 2147483648) : (a + b).toInt = a.toInt + b.toInt := by
  rw [Int32.toInt_add]
  exact Int.bmod_eq_of_le (by omega) (by omega)
theorem i32_sub {a b : Int32} (h1 : -2147483648 ≤ a.toInt - b.toInt) (h2 : a.toInt - b.toInt < 2147483648) : (a - b).toInt = a.toInt - b.toInt := by
  rw [Int32.toInt_sub]
  exact Int.bmod_eq_of_le (by omega) (by omega)
theorem i32_mul {a b : Int32} (h1 : -2147483648 ≤ a.toInt * b.toInt) (h2 : a.toInt * b.toInt < 2147483648) : (a * b).toInt = a.toInt * b.toInt := by
  rw [Int32.toInt_mul]
  exact Int.bmod_eq_of_le (by omega) (by omega)
def sp_sk_isClass (a1 : Int32) : Int32 := (if a1 < 0 then 0 else (if 16 ≤ a1 then 0 else 1))
set_option maxHeartbeats 4000000 in
set_option maxRecDepth 100000 in
/-- ClassMill$Kin.isClass -/
theorem sk_isClass (l : Launch) (dC : Nat → ClassId) (dI : Nat → Nat → Nat) (sz : Nat) (a1 : Int32)  : Met l yX4_isClass (.code yX4_isClass cX4_isClass 1 (some .boolean) :: VS_h1) ({ frames := 0, cells := 0, slots := 0, locals := 0 }) (va_Pc [.int a1] (fun U => U.heap.size = sz ∧ va_P (dC, dI) vwCl [] U.heap ∧ va_K (dC, dI) vwCl [] U ∧ va_D (fun _ => True) [])) (va_Qi (fun (r : Int32) (u : Unit) => match u with | () => r = sp_sk_isClass a1) (fun (u : Unit) (t : State) => match u with | () => va_P (dC, dI) vwCl [] t.heap ∧ va_K (dC, dI) vwCl [] t ∧ va_D (va_A [] sz) []) (va_A [] sz)) 0 0 (va_A [] sz) := by
  refine Met.ofW (cc := cX4_isClass) (maxL := 1) (ret := (some .boolean)) (by decide) rfl ?_
  intro p e s m args below meth c s₁ B hml hv
  obtain ⟨rfl, hsz, hP, hK, hD0⟩ := hv
  have hx := B.exec
  have hb := B.bytes
  have hr := B.returns
  have hts := atoms_spec (ws := (.code yX4_isClass cX4_isClass 1 (some .boolean) :: VS_h1)) B.pre
  replace hts := fun w (h : w ∈ VS_h1) => hts w (List.mem_cons_of_mem _ h)
  have hown : s.vm.findClass RX4 = some m.cls := findClass_of_methodNamed B.named
  have hlocks := B.notSynchronized
  subst hsz
  have hD := hD0.self (sz := s.heap.size)
  generalize hAe : va_A [] s.heap.size = A at hD  ⊢
  have hA : ∀ q : Nat, s.heap.size ≤ q → A q := fun q h => by rw [← hAe]; exact Or.inr h
  have hP : va_P (dC, dI) vwCl [] s.heap := hP
  have hl := lv_entry ([.int a1]) (n := 1) (Nat.le_of_ble_eq_true rfl)
  rw [lg_entry_eq]
  generalize (lg_sl ([.int a1]) ++ List.replicate (1 - (lg_sl ([.int a1])).length) Slot.unset).toArray = ls at hl ⊢
  have hl : lv_has ls 1 [(0, .int a1)] := hl
  obtain ⟨H, hH⟩ : ∃ H : Heap, s.heap = H := ⟨_, rfl⟩
  rw [hH] at hP ⊢
  have hS : va_S A s.heap H [] := by rw [← hH]; exact va_S.rf
  obtain ⟨locs, hlo⟩ : ∃ locs : List Loc, locs = [] := ⟨_, rfl⟩
  rw [← hlo] at hS ⊢
  refine lv_iload_n hx hb dX4_isClass_0 rfl (lv_at hl 0 rfl) ?_
  refine lv_if_lt (tgt := 14) hx hb dX4_isClass_1 (by decide) (fun c_1 => ?_) (fun c_1 => ?_)
  · have c_1_ := c_1
    refine lv_iconst (v := 0) hx hb dX4_isClass_14 (by decide) ?_
    have hP9 := hP.sub (ws' := []) [] rfl
    have hD9 := hD.sub (ws' := []) [] (by decide) rfl
    have hK9 := hK.sub (tys' := []) [] rfl
    exact W.zret hx hb hr (by decide) (fun t ht hW => ⟨⟨(0), (), rfl, by unfold sp_sk_isClass; rw [if_pos c_1], by rw [ht]; exact hP9, va_K.moved hW.alike hK9, hD9⟩, hS.F ht⟩) hS.2.2 dX4_isClass_15
  · have c_1_ := c_1
    refine lv_iload_n hx hb dX4_isClass_4 rfl (lv_at hl 0 rfl) ?_
    refine lv_bipush (v := 16) hx hb dX4_isClass_5 (by decide) ?_
    refine lv_icmp_ge (tgt := 14) hx hb dX4_isClass_7 (by decide) (fun c_2 => ?_) (fun c_2 => ?_)
    · have c_2_ := c_2
      refine lv_iconst (v := 0) hx hb dX4_isClass_14 (by decide) ?_
      have hP9 := hP.sub (ws' := []) [] rfl
      have hD9 := hD.sub (ws' := []) [] (by decide) rfl
      have hK9 := hK.sub (tys' := []) [] rfl
      exact W.zret hx hb hr (by decide) (fun t ht hW => ⟨⟨(0), (), rfl, by unfold sp_sk_isClass; rw [if_neg c_1, if_pos c_2], by rw [ht]; exact hP9, va_K.moved hW.alike hK9, hD9⟩, hS.F ht⟩) hS.2.2 dX4_isClass_15
    · have c_2_ := c_2
      refine lv_iconst (v := 1) hx hb dX4_isClass_10 (by decide) ?_
      refine lv_goto (tgt := 15) hx hb dX4_isClass_11 (by decide) ?_
      have hP9 := hP.sub (ws' := []) [] rfl
      have hD9 := hD.sub (ws' := []) [] (by decide) rfl
      have hK9 := hK.sub (tys' := []) [] rfl
      exact W.zret hx hb hr (by decide) (fun t ht hW => ⟨⟨(1), (), rfl, by unfold sp_sk_isClass; rw [if_neg c_1, if_neg c_2], by rw [ht]; exact hP9, va_K.moved hW.alike hK9, hD9⟩, hS.F ht⟩) hS.2.2 dX4_isClass_15
def sp_sk_isArray (a1 : Int32) : Int32 := (if a1 < 100 then 0 else (if 200 < a1 then 0 else 1))
set_option maxHeartbeats 4000000 in
set_option maxRecDepth 100000 in
/-- ClassMill$Kin.isArray -/
theorem sk_isArray (l : Launch) (dC : Nat → ClassId) (dI : Nat → Nat → Nat) (sz : Nat) (a1 : Int32)  : Met l yX4_isArray (.code yX4_isArray cX4_isArray 1 (some .boolean) :: VS_h1) ({ frames := 0, cells := 0, slots := 0, locals := 0 }) (va_Pc [.int a1] (fun U => U.heap.size = sz ∧ va_P (dC, dI) vwCl [] U.heap ∧ va_K (dC, dI) vwCl [] U ∧ va_D (fun _ => True) [])) (va_Qi (fun (r : Int32) (u : Unit) => match u with | () => r = sp_sk_isArray a1) (fun (u : Unit) (t : State) => match u with | () => va_P (dC, dI) vwCl [] t.heap ∧ va_K (dC, dI) vwCl [] t ∧ va_D (va_A [] sz) []) (va_A [] sz)) 0 0 (va_A [] sz) := by
  refine Met.ofW (cc := cX4_isArray) (maxL := 1) (ret := (some .boolean)) (by decide) rfl ?_
  intro p e s m args below meth c s₁ B hml hv
  obtain ⟨rfl, hsz, hP, hK, hD0⟩ := hv
  have hx := B.exec
  have hb := B.bytes
  have hr := B.returns
  have hts := atoms_spec (ws := (.code yX4_isArray cX4_isArray 1 (some .boolean) :: VS_h1)) B.pre
  replace hts := fun w (h : w ∈ VS_h1) => hts w (List.mem_cons_of_mem _ h)
  have hown : s.vm.findClass RX4 = some m.cls := findClass_of_methodNamed B.named
  have hlocks := B.notSynchronized
  subst hsz
  have hD := hD0.self (sz := s.heap.size)
  generalize hAe : va_A [] s.heap.size = A at hD  ⊢
  have hA : ∀ q : Nat, s.heap.size ≤ q → A q := fun q h => by rw [← hAe]; exact Or.inr h
  have hP : va_P (dC, dI) vwCl [] s.heap := hP
  have hl := lv_entry ([.int a1]) (n := 1) (Nat.le_of_ble_eq_true rfl)
  rw [lg_entry_eq]
  generalize (lg_sl ([.int a1]) ++ List.replicate (1 - (lg_sl ([.int a1])).length) Slot.unset).toArray = ls at hl ⊢
  have hl : lv_has ls 1 [(0, .int a1)] := hl
  obtain ⟨H, hH⟩ : ∃ H : Heap, s.heap = H := ⟨_, rfl⟩
  rw [hH] at hP ⊢
  have hS : va_S A s.heap H [] := by rw [← hH]; exact va_S.rf
  obtain ⟨locs, hlo⟩ : ∃ locs : List Loc, locs = [] := ⟨_, rfl⟩
  rw [← hlo] at hS ⊢
  refine lv_iload_n hx hb dX4_isArray_0 rfl (lv_at hl 0 rfl) ?_
  refine lv_bipush (v := 100) hx hb dX4_isArray_1 (by decide) ?_
  refine lv_icmp_lt (tgt := 17) hx hb dX4_isArray_3 (by decide) (fun c_1 => ?_) (fun c_1 => ?_)
  · have c_1_ := c_1
    refine lv_iconst (v := 0) hx hb dX4_isArray_17 (by decide) ?_
    have hP9 := hP.sub (ws' := []) [] rfl
    have hD9 := hD.sub (ws' := []) [] (by decide) rfl
    have hK9 := hK.sub (tys' := []) [] rfl
    exact W.zret hx hb hr (by decide) (fun t ht hW => ⟨⟨(0), (), rfl, by unfold sp_sk_isArray; rw [if_pos c_1], by rw [ht]; exact hP9, va_K.moved hW.alike hK9, hD9⟩, hS.F ht⟩) hS.2.2 dX4_isArray_18
  · have c_1_ := c_1
    refine lv_iload_n hx hb dX4_isArray_6 rfl (lv_at hl 0 rfl) ?_
    refine lv_sipush (v := 200) hx hb dX4_isArray_7 (by decide) ?_
    refine lv_icmp_gt (tgt := 17) hx hb dX4_isArray_10 (by decide) (fun c_2 => ?_) (fun c_2 => ?_)
    · have c_2_ := c_2
      refine lv_iconst (v := 0) hx hb dX4_isArray_17 (by decide) ?_
      have hP9 := hP.sub (ws' := []) [] rfl
      have hD9 := hD.sub (ws' := []) [] (by decide) rfl
      have hK9 := hK.sub (tys' := []) [] rfl
      exact W.zret hx hb hr (by decide) (fun t ht hW => ⟨⟨(0), (), rfl, by unfold sp_sk_isArray; rw [if_neg c_1, if_pos c_2], by rw [ht]; exact hP9, va_K.moved hW.alike hK9, hD9⟩, hS.F ht⟩) hS.2.2 dX4_isArray_18
    · have c_2_ := c_2
      refine lv_iconst (v := 1) hx hb dX4_isArray_13 (by decide) ?_
      refine lv_goto (tgt := 18) hx hb dX4_isArray_14 (by decide) ?_
      have hP9 := hP.sub (ws' := []) [] rfl
      have hD9 := hD.sub (ws' := []) [] (by decide) rfl
      have hK9 := hK.sub (tys' := []) [] rfl
      exact W.zret hx hb hr (by decide) (fun t ht hW => ⟨⟨(1), (), rfl, by unfold sp_sk_isArray; rw [if_neg c_1, if_neg c_2], by rw [ht]; exact hP9, va_K.moved hW.alike hK9, hD9⟩, hS.F ht⟩) hS.2.2 dX4_isArray_18
def sp_sk_isReference (a1 : Int32) : Int32 := (if a1 = 300 then 1 else (if a1 < 0 then 0 else (if 200 < a1 then 0 else 1)))
set_option maxHeartbeats 4000000 in
set_option maxRecDepth 100000 in
/-- ClassMill$Kin.isReference -/
theorem sk_isReference (l : Launch) (dC : Nat → ClassId) (dI : Nat → Nat → Nat) (sz : Nat) (a1 : Int32)  : Met l yX4_isReference (.code yX4_isReference cX4_isReference 1 (some .boolean) :: VS_h1) ({ frames := 0, cells := 0, slots := 0, locals := 0 }) (va_Pc [.int a1] (fun U => U.heap.size = sz ∧ va_P (dC, dI) vwCl [] U.heap ∧ va_K (dC, dI) vwCl [] U ∧ va_D (fun _ => True) [])) (va_Qi (fun (r : Int32) (u : Unit) => match u with | () => r = sp_sk_isReference a1) (fun (u : Unit) (t : State) => match u with | () => va_P (dC, dI) vwCl [] t.heap ∧ va_K (dC, dI) vwCl [] t ∧ va_D (va_A [] sz) []) (va_A [] sz)) 0 0 (va_A [] sz) := by
  refine Met.ofW (cc := cX4_isReference) (maxL := 1) (ret := (some .boolean)) (by decide) rfl ?_
  intro p e s m args below meth c s₁ B hml hv
  obtain ⟨rfl, hsz, hP, hK, hD0⟩ := hv
  have hx := B.exec
  have hb := B.bytes
  have hr := B.returns
  have hts := atoms_spec (ws := (.code yX4_isReference cX4_isReference 1 (some .boolean) :: VS_h1)) B.pre
  replace hts := fun w (h : w ∈ VS_h1) => hts w (List.mem_cons_of_mem _ h)
  have hown : s.vm.findClass RX4 = some m.cls := findClass_of_methodNamed B.named
  have hlocks := B.notSynchronized
  subst hsz
  have hD := hD0.self (sz := s.heap.size)
  generalize hAe : va_A [] s.heap.size = A at hD  ⊢
  have hA : ∀ q : Nat, s.heap.size ≤ q → A q := fun q h => by rw [← hAe]; exact Or.inr h
  have hP : va_P (dC, dI) vwCl [] s.heap := hP
  have hl := lv_entry ([.int a1]) (n := 1) (Nat.le_of_ble_eq_true rfl)
  rw [lg_entry_eq]
  generalize (lg_sl ([.int a1]) ++ List.replicate (1 - (lg_sl ([.int a1])).length) Slot.unset).toArray = ls at hl ⊢
  have hl : lv_has ls 1 [(0, .int a1)] := hl
  obtain ⟨H, hH⟩ : ∃ H : Heap, s.heap = H := ⟨_, rfl⟩
  rw [hH] at hP ⊢
  have hS : va_S A s.heap H [] := by rw [← hH]; exact va_S.rf
  obtain ⟨locs, hlo⟩ : ∃ locs : List Loc, locs = [] := ⟨_, rfl⟩
  rw [← hlo] at hS ⊢
  refine lv_iload_n hx hb dX4_isReference_0 rfl (lv_at hl 0 rfl) ?_
  refine lv_sipush (v := 300) hx hb dX4_isReference_1 (by decide) ?_
  refine lv_icmp_eq (tgt := 18) hx hb dX4_isReference_4 (by decide) (fun c_1 => ?_) (fun c_1 => ?_)
  · have c_1_ := c_1
    refine lv_iconst (v := 1) hx hb dX4_isReference_18 (by decide) ?_
    refine lv_goto (tgt := 23) hx hb dX4_isReference_19 (by decide) ?_
    have hP9 := hP.sub (ws' := []) [] rfl
    have hD9 := hD.sub (ws' := []) [] (by decide) rfl
    have hK9 := hK.sub (tys' := []) [] rfl
    exact W.zret hx hb hr (by decide) (fun t ht hW => ⟨⟨(1), (), rfl, by unfold sp_sk_isReference; rw [if_pos c_1], by rw [ht]; exact hP9, va_K.moved hW.alike hK9, hD9⟩, hS.F ht⟩) hS.2.2 dX4_isReference_23
  · have c_1_ := c_1
    refine lv_iload_n hx hb dX4_isReference_7 rfl (lv_at hl 0 rfl) ?_
    refine lv_if_lt (tgt := 22) hx hb dX4_isReference_8 (by decide) (fun c_2 => ?_) (fun c_2 => ?_)
    · have c_2_ := c_2
      refine lv_iconst (v := 0) hx hb dX4_isReference_22 (by decide) ?_
      have hP9 := hP.sub (ws' := []) [] rfl
      have hD9 := hD.sub (ws' := []) [] (by decide) rfl
      have hK9 := hK.sub (tys' := []) [] rfl
      exact W.zret hx hb hr (by decide) (fun t ht hW => ⟨⟨(0), (), rfl, by unfold sp_sk_isReference; rw [if_neg c_1, if_pos c_2], by rw [ht]; exact hP9, va_K.moved hW.alike hK9, hD9⟩, hS.F ht⟩) hS.2.2 dX4_isReference_23
    · have c_2_ := c_2
      refine lv_iload_n hx hb dX4_isReference_11 rfl (lv_at hl 0 rfl) ?_
      refine lv_sipush (v := 200) hx hb dX4_isReference_12 (by decide) ?_
      refine lv_icmp_gt (tgt := 22) hx hb dX4_isReference_15 (by decide) (fun c_3 => ?_) (fun c_3 => ?_)
      · have c_3_ := c_3
        refine lv_iconst (v := 0) hx hb dX4_isReference_22 (by decide) ?_
        have hP9 := hP.sub (ws' := []) [] rfl
        have hD9 := hD.sub (ws' := []) [] (by decide) rfl
        have hK9 := hK.sub (tys' := []) [] rfl
        exact W.zret hx hb hr (by decide) (fun t ht hW => ⟨⟨(0), (), rfl, by unfold sp_sk_isReference; rw [if_neg c_1, if_neg c_2, if_pos c_3], by rw [ht]; exact hP9, va_K.moved hW.alike hK9, hD9⟩, hS.F ht⟩) hS.2.2 dX4_isReference_23
      · have c_3_ := c_3
        refine lv_iconst (v := 1) hx hb dX4_isReference_18 (by decide) ?_
        refine lv_goto (tgt := 23) hx hb dX4_isReference_19 (by decide) ?_
        have hP9 := hP.sub (ws' := []) [] rfl
        have hD9 := hD.sub (ws' := []) [] (by decide) rfl
        have hK9 := hK.sub (tys' := []) [] rfl
        exact W.zret hx hb hr (by decide) (fun t ht hW => ⟨⟨(1), (), rfl, by unfold sp_sk_isReference; rw [if_neg c_1, if_neg c_2, if_neg c_3], by rw [ht]; exact hP9, va_K.moved hW.alike hK9, hD9⟩, hS.F ht⟩) hS.2.2 dX4_isReference_23
def sp_sk_isNumber (a1 : Int32) : Int32 := (if a1 = 301 then 1 else (if a1 = 302 then 1 else 0))
set_option maxHeartbeats 4000000 in
set_option maxRecDepth 100000 in
/-- ClassMill$Kin.isNumber -/
theorem sk_isNumber (l : Launch) (dC : Nat → ClassId) (dI : Nat → Nat → Nat) (sz : Nat) (a1 : Int32)  : Met l yX4_isNumber (.code yX4_isNumber cX4_isNumber 1 (some .boolean) :: VS_h1) ({ frames := 0, cells := 0, slots := 0, locals := 0 }) (va_Pc [.int a1] (fun U => U.heap.size = sz ∧ va_P (dC, dI) vwCl [] U.heap ∧ va_K (dC, dI) vwCl [] U ∧ va_D (fun _ => True) [])) (va_Qi (fun (r : Int32) (u : Unit) => match u with | () => r = sp_sk_isNumber a1) (fun (u : Unit) (t : State) => match u with | () => va_P (dC, dI) vwCl [] t.heap ∧ va_K (dC, dI) vwCl [] t ∧ va_D (va_A [] sz) []) (va_A [] sz)) 0 0 (va_A [] sz) := by
  refine Met.ofW (cc := cX4_isNumber) (maxL := 1) (ret := (some .boolean)) (by decide) rfl ?_
  intro p e s m args below meth c s₁ B hml hv
  obtain ⟨rfl, hsz, hP, hK, hD0⟩ := hv
  have hx := B.exec
  have hb := B.bytes
  have hr := B.returns
  have hts := atoms_spec (ws := (.code yX4_isNumber cX4_isNumber 1 (some .boolean) :: VS_h1)) B.pre
  replace hts := fun w (h : w ∈ VS_h1) => hts w (List.mem_cons_of_mem _ h)
  have hown : s.vm.findClass RX4 = some m.cls := findClass_of_methodNamed B.named
  have hlocks := B.notSynchronized
  subst hsz
  have hD := hD0.self (sz := s.heap.size)
  generalize hAe : va_A [] s.heap.size = A at hD  ⊢
  have hA : ∀ q : Nat, s.heap.size ≤ q → A q := fun q h => by rw [← hAe]; exact Or.inr h
  have hP : va_P (dC, dI) vwCl [] s.heap := hP
  have hl := lv_entry ([.int a1]) (n := 1) (Nat.le_of_ble_eq_true rfl)
  rw [lg_entry_eq]
  generalize (lg_sl ([.int a1]) ++ List.replicate (1 - (lg_sl ([.int a1])).length) Slot.unset).toArray = ls at hl ⊢
  have hl : lv_has ls 1 [(0, .int a1)] := hl
  obtain ⟨H, hH⟩ : ∃ H : Heap, s.heap = H := ⟨_, rfl⟩
  rw [hH] at hP ⊢
  have hS : va_S A s.heap H [] := by rw [← hH]; exact va_S.rf
  obtain ⟨locs, hlo⟩ : ∃ locs : List Loc, locs = [] := ⟨_, rfl⟩
  rw [← hlo] at hS ⊢
  refine lv_iload_n hx hb dX4_isNumber_0 rfl (lv_at hl 0 rfl) ?_
  refine lv_sipush (v := 301) hx hb dX4_isNumber_1 (by decide) ?_
  refine lv_icmp_eq (tgt := 14) hx hb dX4_isNumber_4 (by decide) (fun c_1 => ?_) (fun c_1 => ?_)
  · have c_1_ := c_1
    refine lv_iconst (v := 1) hx hb dX4_isNumber_14 (by decide) ?_
    refine lv_goto (tgt := 19) hx hb dX4_isNumber_15 (by decide) ?_
    have hP9 := hP.sub (ws' := []) [] rfl
    have hD9 := hD.sub (ws' := []) [] (by decide) rfl
    have hK9 := hK.sub (tys' := []) [] rfl
    exact W.zret hx hb hr (by decide) (fun t ht hW => ⟨⟨(1), (), rfl, by unfold sp_sk_isNumber; rw [if_pos c_1], by rw [ht]; exact hP9, va_K.moved hW.alike hK9, hD9⟩, hS.F ht⟩) hS.2.2 dX4_isNumber_19
  · have c_1_ := c_1
    refine lv_iload_n hx hb dX4_isNumber_7 rfl (lv_at hl 0 rfl) ?_
    refine lv_sipush (v := 302) hx hb dX4_isNumber_8 (by decide) ?_
    refine lv_icmp_ne (tgt := 18) hx hb dX4_isNumber_11 (by decide) (fun c_2 => ?_) (fun c_2 => ?_)
    · have c_2_ := c_2
      refine lv_iconst (v := 0) hx hb dX4_isNumber_18 (by decide) ?_
      have hP9 := hP.sub (ws' := []) [] rfl
      have hD9 := hD.sub (ws' := []) [] (by decide) rfl
      have hK9 := hK.sub (tys' := []) [] rfl
      exact W.zret hx hb hr (by decide) (fun t ht hW => ⟨⟨(0), (), rfl, by unfold sp_sk_isNumber; rw [if_neg c_1, if_neg c_2], by rw [ht]; exact hP9, va_K.moved hW.alike hK9, hD9⟩, hS.F ht⟩) hS.2.2 dX4_isNumber_19
    · have c_2_ := c_2
      refine lv_iconst (v := 1) hx hb dX4_isNumber_14 (by decide) ?_
      refine lv_goto (tgt := 19) hx hb dX4_isNumber_15 (by decide) ?_
      have hP9 := hP.sub (ws' := []) [] rfl
      have hD9 := hD.sub (ws' := []) [] (by decide) rfl
      have hK9 := hK.sub (tys' := []) [] rfl
      exact W.zret hx hb hr (by decide) (fun t ht hW => ⟨⟨(1), (), rfl, by unfold sp_sk_isNumber; rw [if_neg c_1, if_pos c_2], by rw [ht]; exact hP9, va_K.moved hW.alike hK9, hD9⟩, hS.F ht⟩) hS.2.2 dX4_isNumber_19
def sp_sk_elementOf (a1 : Int32) : Int32 := (if a1 = 200 then 301 else (if a1 < 100 then 305 else (if 200 ≤ a1 then 305 else (a1 - 100))))
set_option maxHeartbeats 4000000 in
set_option maxRecDepth 100000 in
/-- ClassMill$Kin.elementOf -/
theorem sk_elementOf (l : Launch) (dC : Nat → ClassId) (dI : Nat → Nat → Nat) (sz : Nat) (a1 : Int32)  : Met l yX4_elementOf (.code yX4_elementOf cX4_elementOf 1 (some .int) :: VS_h1) ({ frames := 0, cells := 0, slots := 0, locals := 0 }) (va_Pc [.int a1] (fun U => U.heap.size = sz ∧ va_P (dC, dI) vwCl [] U.heap ∧ va_K (dC, dI) vwCl [] U ∧ va_D (fun _ => True) [])) (va_Qi (fun (r : Int32) (u : Unit) => match u with | () => r = sp_sk_elementOf a1) (fun (u : Unit) (t : State) => match u with | () => va_P (dC, dI) vwCl [] t.heap ∧ va_K (dC, dI) vwCl [] t ∧ va_D (va_A [] sz) []) (va_A [] sz)) 0 0 (va_A [] sz) := by
  refine Met.ofW (cc := cX4_elementOf) (maxL := 1) (ret := (some .int)) (by decide) rfl ?_
  intro p e s m args below meth c s₁ B hml hv
  obtain ⟨rfl, hsz, hP, hK, hD0⟩ := hv
  have hx := B.exec
  have hb := B.bytes
  have hr := B.returns
  have hts := atoms_spec (ws := (.code yX4_elementOf cX4_elementOf 1 (some .int) :: VS_h1)) B.pre
  replace hts := fun w (h : w ∈ VS_h1) => hts w (List.mem_cons_of_mem _ h)
  have hown : s.vm.findClass RX4 = some m.cls := findClass_of_methodNamed B.named
  have hlocks := B.notSynchronized
  subst hsz
  have hD := hD0.self (sz := s.heap.size)
  generalize hAe : va_A [] s.heap.size = A at hD  ⊢
  have hA : ∀ q : Nat, s.heap.size ≤ q → A q := fun q h => by rw [← hAe]; exact Or.inr h
  have hP : va_P (dC, dI) vwCl [] s.heap := hP
  have hl := lv_entry ([.int a1]) (n := 1) (Nat.le_of_ble_eq_true rfl)
  rw [lg_entry_eq]
  generalize (lg_sl ([.int a1]) ++ List.replicate (1 - (lg_sl ([.int a1])).length) Slot.unset).toArray = ls at hl ⊢
  have hl : lv_has ls 1 [(0, .int a1)] := hl
  obtain ⟨H, hH⟩ : ∃ H : Heap, s.heap = H := ⟨_, rfl⟩
  rw [hH] at hP ⊢
  have hS : va_S A s.heap H [] := by rw [← hH]; exact va_S.rf
  obtain ⟨locs, hlo⟩ : ∃ locs : List Loc, locs = [] := ⟨_, rfl⟩
  rw [← hlo] at hS ⊢
  refine lv_iload_n hx hb dX4_elementOf_0 rfl (lv_at hl 0 rfl) ?_
  refine lv_sipush (v := 200) hx hb dX4_elementOf_1 (by decide) ?_
  refine lv_icmp_ne (tgt := 11) hx hb dX4_elementOf_4 (by decide) (fun c_1 => ?_) (fun c_1 => ?_)
  · have c_1_ := c_1
    refine lv_iload_n hx hb dX4_elementOf_11 rfl (lv_at hl 0 rfl) ?_
    refine lv_bipush (v := 100) hx hb dX4_elementOf_12 (by decide) ?_
    refine lv_icmp_lt (tgt := 31) hx hb dX4_elementOf_14 (by decide) (fun c_2 => ?_) (fun c_2 => ?_)
    · have c_2_ := c_2
      refine lv_sipush (v := 305) hx hb dX4_elementOf_31 (by decide) ?_
      have hP9 := hP.sub (ws' := []) [] rfl
      have hD9 := hD.sub (ws' := []) [] (by decide) rfl
      have hK9 := hK.sub (tys' := []) [] rfl
      exact W.iret hx hb hr (fun t ht hW => ⟨⟨(305), (), rfl, by unfold sp_sk_elementOf; rw [if_neg c_1, if_pos c_2], by rw [ht]; exact hP9, va_K.moved hW.alike hK9, hD9⟩, hS.F ht⟩) hS.2.2 dX4_elementOf_34
    · have c_2_ := c_2
      refine lv_iload_n hx hb dX4_elementOf_17 rfl (lv_at hl 0 rfl) ?_
      refine lv_sipush (v := 200) hx hb dX4_elementOf_18 (by decide) ?_
      refine lv_icmp_ge (tgt := 31) hx hb dX4_elementOf_21 (by decide) (fun c_3 => ?_) (fun c_3 => ?_)
      · have c_3_ := c_3
        refine lv_sipush (v := 305) hx hb dX4_elementOf_31 (by decide) ?_
        have hP9 := hP.sub (ws' := []) [] rfl
        have hD9 := hD.sub (ws' := []) [] (by decide) rfl
        have hK9 := hK.sub (tys' := []) [] rfl
        exact W.iret hx hb hr (fun t ht hW => ⟨⟨(305), (), rfl, by unfold sp_sk_elementOf; rw [if_neg c_1, if_neg c_2, if_pos c_3], by rw [ht]; exact hP9, va_K.moved hW.alike hK9, hD9⟩, hS.F ht⟩) hS.2.2 dX4_elementOf_34
      · have c_3_ := c_3
        refine lv_iload_n hx hb dX4_elementOf_24 rfl (lv_at hl 0 rfl) ?_
        refine lv_bipush (v := 100) hx hb dX4_elementOf_25 (by decide) ?_
        refine lv_isub hx hb dX4_elementOf_27 ?_
        refine lv_goto (tgt := 34) hx hb dX4_elementOf_28 (by decide) ?_
        have hP9 := hP.sub (ws' := []) [] rfl
        have hD9 := hD.sub (ws' := []) [] (by decide) rfl
        have hK9 := hK.sub (tys' := []) [] rfl
        exact W.iret hx hb hr (fun t ht hW => ⟨⟨((a1 - 100)), (), rfl, by unfold sp_sk_elementOf; rw [if_neg c_1, if_neg c_2, if_neg c_3], by rw [ht]; exact hP9, va_K.moved hW.alike hK9, hD9⟩, hS.F ht⟩) hS.2.2 dX4_elementOf_34
  · have c_1_ := c_1
    refine lv_sipush (v := 301) hx hb dX4_elementOf_7 (by decide) ?_
    have hP9 := hP.sub (ws' := []) [] rfl
    have hD9 := hD.sub (ws' := []) [] (by decide) rfl
    have hK9 := hK.sub (tys' := []) [] rfl
    exact W.iret hx hb hr (fun t ht hW => ⟨⟨(301), (), rfl, by unfold sp_sk_elementOf; rw [if_pos c_1], by rw [ht]; exact hP9, va_K.moved hW.alike hK9, hD9⟩, hS.F ht⟩) hS.2.2 dX4_elementOf_10
theorem ix_sk_above_1 (a1 : Int32) (c_2 : ¬ (sp_sk_isClass a1) = 0) : vp_in a1 16 := by
  simp only [sp_sk_isClass] at c_2
  (repeat' split at c_2) <;> first | (exfalso; exact absurd rfl c_2; done) | (simp only [Int32.lt_iff_toInt_lt, Int32.le_iff_toInt_le, show (0 : Int32).toInt = 0 from rfl, show (1 : Int32).toInt = 1 from rfl, show (16 : Int32).toInt = 16 from rfl] at *; exact ix_int (by omega) (by omega))
def sp_sk_above (a1 : Int32) (f0 : Nat → Int32) : Int32 := (if (sp_sk_isClass a1) = 0 then (-1) else (f0 (a1 : Int32).toNatClampNeg))
set_option maxHeartbeats 4000000 in
set_option maxRecDepth 100000 in
/-- ClassMill$Kin.above -/
theorem sk_above (l : Launch) (dC : Nat → ClassId) (dI : Nat → Nat → Nat) (sz : Nat) (h0 : Nat) (a1 : Int32) (qf0 : Nat) (qf1 : Nat) (cf0 : ClassId) (f0 : (Nat → Int32))  : Met l yX4_above (.code yX4_above cX4_above 2 (some .int) :: VS_h1) ({ frames := 1, cells := 0, slots := 0, locals := 20 }) (va_Pc [.ref h0, .int a1] (fun U => U.heap.size = sz ∧ va_P (dC, dI) vwCl [(h0, .inr (4, [.ref qf0, .ref qf1])), (qf0, .inl (cf0, 16, .inl f0))] U.heap ∧ va_K (dC, dI) vwCl [(cf0, .int)] U ∧ va_D (fun _ => True) [(h0, .inr (4, [.ref qf0, .ref qf1])), (qf0, .inl (cf0, 16, .inl f0))])) (va_Qi (fun (r : Int32) (u : Unit) => match u with | () => r = sp_sk_above a1 f0) (fun (u : Unit) (t : State) => match u with | () => va_P (dC, dI) vwCl [(h0, .inr (4, [.ref qf0, .ref qf1])), (qf0, .inl (cf0, 16, .inl f0))] t.heap ∧ va_K (dC, dI) vwCl [(cf0, .int)] t ∧ va_D (va_A [(h0, .inr (4, [.ref qf0, .ref qf1])), (qf0, .inl (cf0, 16, .inl f0))] sz) [(h0, .inr (4, [.ref qf0, .ref qf1])), (qf0, .inl (cf0, 16, .inl f0))]) (va_A [(h0, .inr (4, [.ref qf0, .ref qf1])), (qf0, .inl (cf0, 16, .inl f0))] sz)) 0 0 (va_A [(h0, .inr (4, [.ref qf0, .ref qf1])), (qf0, .inl (cf0, 16, .inl f0))] sz) := by
  refine Met.ofW (cc := cX4_above) (maxL := 2) (ret := (some .int)) (by decide) rfl ?_
  intro p e s m args below meth c s₁ B hml hv
  obtain ⟨rfl, hsz, hP, hK, hD0⟩ := hv
  have hx := B.exec
  have hb := B.bytes
  have hr := B.returns
  have hts := atoms_spec (ws := (.code yX4_above cX4_above 2 (some .int) :: VS_h1)) B.pre
  replace hts := fun w (h : w ∈ VS_h1) => hts w (List.mem_cons_of_mem _ h)
  have hown : s.vm.findClass RX4 = some m.cls := findClass_of_methodNamed B.named
  have hlocks := B.notSynchronized
  subst hsz
  have hD := hD0.self (sz := s.heap.size)
  generalize hAe : va_A [(h0, .inr (4, [.ref qf0, .ref qf1])), (qf0, .inl (cf0, 16, .inl f0))] s.heap.size = A at hD  ⊢
  have hA : ∀ q : Nat, s.heap.size ≤ q → A q := fun q h => by rw [← hAe]; exact Or.inr h
  have hP : va_P (dC, dI) vwCl [(h0, .inr (4, [.ref qf0, .ref qf1])), (qf0, .inl (cf0, 16, .inl f0))] s.heap := hP
  have hl := lv_entry ([.ref h0, .int a1]) (n := 2) (Nat.le_of_ble_eq_true rfl)
  rw [lg_entry_eq]
  generalize (lg_sl ([.ref h0, .int a1]) ++ List.replicate (2 - (lg_sl ([.ref h0, .int a1])).length) Slot.unset).toArray = ls at hl ⊢
  have hl : lv_has ls 2 [(0, .ref h0), (1, .int a1)] := hl
  obtain ⟨H, hH⟩ : ∃ H : Heap, s.heap = H := ⟨_, rfl⟩
  rw [hH] at hP ⊢
  have hS : va_S A s.heap H [] := by rw [← hH]; exact va_S.rf
  obtain ⟨locs, hlo⟩ : ∃ locs : List Loc, locs = [] := ⟨_, rfl⟩
  rw [← hlo] at hS ⊢
  refine lv_iload_n hx hb dX4_above_0 rfl (lv_at hl 1 rfl) ?_
  have hPc := hP.sub (ws' := []) [] rfl
  have hDc := hD.sub (ws' := []) [] (by decide) rfl
  have hKc := hK.sub (tys' := []) [] rfl
  have hFc := va_free (wc := []) hD hS hA [] rfl
  refine va_calli (va_runS (As := [.int a1]) (rest := []) ⟨hx, hb, hml, hown, hts⟩ (sk_isClass l dC dI H.size a1) (va_cwS 1 hts gv_h1_0 rfl rfl rfl (by decide +kernel) ⟨Nat.le_of_ble_eq_true rfl, Nat.le_of_ble_eq_true rfl⟩) ⟨fun a U g mk q => by obtain ⟨q0, q1, qP, qK, qD⟩ := q; exact ⟨q0, q1, qP, va_K.moved (u := U) (U := U.calling g mk a) (Vm.Alike.refl U.vm) qK, qD⟩, fun U hU hW => ⟨rfl, by rw [hU], by rw [hU]; exact hPc, va_K.moved hW.alike hKc, hDc.weaken (fun _ _ _ _ => trivial)⟩⟩ rfl rfl hl.1 rfl (lv_room (Nat.le_of_ble_eq_true rfl)) dX4_above_1 ⟨Nat.le_of_ble_eq_true rfl, Nat.le_of_ble_eq_true rfl⟩) hS (fun q _ h => hFc q h) hFc ?_
  clear hS
  intro r_1 u t H1 locs ht hvm hw hB hz1 hk1 hS
  obtain ⟨⟩ := u
  obtain ⟨hP1, hK1, hD1⟩ := hB
  rw [ht] at hP1
  have hK1 := va_K.moved hvm.symm hK1
  try dsimp only at hw
  have hPD := va_join (wr := [(h0, .inr (4, [.ref qf0, .ref qf1])), (qf0, .inl (cf0, 16, .inl f0))]) (w1 := []) hP hD [] [0, 1] rfl rfl (by decide) (by decide) hk1 hFc hP1 hD1
  clear hP hD
  obtain ⟨hP, hD⟩ := hPD
  replace hK := (hK.sub (tys' := [(cf0, .int)]) [0] rfl).app hK1
  clear hPc hDc hKc hFc hP1 hK1 hD1 hz1 hk1 ht hvm
  generalize H1 = H at hP hS ⊢
  replace hP : va_P (dC, dI) vwCl [(h0, .inr (4, [.ref qf0, .ref qf1])), (qf0, .inl (cf0, 16, .inl f0))] H := hP
  replace hD : va_D A [(h0, .inr (4, [.ref qf0, .ref qf1])), (qf0, .inl (cf0, 16, .inl f0))] := hD
  replace hK : va_K (dC, dI) vwCl [(cf0, .int)] s := hK
  obtain rfl : r_1 = (sp_sk_isClass a1) := by have h9 := hw; exact h9
  clear hw
  replace hP : va_P (dC, dI) vwCl [(h0, .inr (4, [.ref qf0, .ref qf1])), (qf0, .inl (cf0, 16, .inl f0))] H := hP
  replace hD : va_D A [(h0, .inr (4, [.ref qf0, .ref qf1])), (qf0, .inl (cf0, 16, .inl f0))] := hD
  refine lv_if_eq (tgt := 16) hx hb dX4_above_4 (by decide) (fun c_2 => ?_) (fun c_2 => ?_)
  · have c_2_ := c_2
    refine lv_iconst (v := (-1)) hx hb dX4_above_16 (by decide) ?_
    have hP9 := hP.sub (ws' := [(h0, .inr (4, [.ref qf0, .ref qf1])), (qf0, .inl (cf0, 16, .inl f0))]) [0, 1] rfl
    have hD9 := hD.sub (ws' := [(h0, .inr (4, [.ref qf0, .ref qf1])), (qf0, .inl (cf0, 16, .inl f0))]) [0, 1] (by decide) rfl
    have hK9 := hK.sub (tys' := [(cf0, .int)]) [0] rfl
    exact W.iret hx hb hr (fun t ht hW => ⟨⟨((-1)), (), rfl, by unfold sp_sk_above; rw [if_pos c_2], by rw [ht]; exact hP9, va_K.moved hW.alike hK9, hD9⟩, hS.F ht⟩) hS.2.2 dX4_above_17
  · have c_2_ := c_2
    refine lv_aload_n hx hb dX4_above_7 rfl (lv_at hl 0 rfl) ?_
    refine va_get (D := (dC, dI)) (ci := 4) (v := .ref qf0) (C := RX4) (T := TX4) (N := 2) hx hb hts uV_h1_X4 hown hK hP 0 rfl rfl 0 (by decide) (hts (.fieldLink RX4 11 "ClassMill$Kin" "above" "[I") mw_h1_4) (fun _ h9 => h9) rfl dX4_above_8 ?_
    refine lv_iload_n hx hb dX4_above_11 rfl (lv_at hl 1 rfl) ?_
    refine va_iald hx hb hK hP 1 0 rfl rfl (i := a1) (ix_sk_above_1 a1 c_2) dX4_above_12 ?_
    refine lv_goto (tgt := 17) hx hb dX4_above_13 (by decide) ?_
    have hP9 := hP.sub (ws' := [(h0, .inr (4, [.ref qf0, .ref qf1])), (qf0, .inl (cf0, 16, .inl f0))]) [0, 1] rfl
    have hD9 := hD.sub (ws' := [(h0, .inr (4, [.ref qf0, .ref qf1])), (qf0, .inl (cf0, 16, .inl f0))]) [0, 1] (by decide) rfl
    have hK9 := hK.sub (tys' := [(cf0, .int)]) [0] rfl
    exact W.iret hx hb hr (fun t ht hW => ⟨⟨((f0 (a1 : Int32).toNatClampNeg)), (), rfl, by unfold sp_sk_above; rw [if_neg c_2], by rw [ht]; exact hP9, va_K.moved hW.alike hK9, hD9⟩, hS.F ht⟩) hS.2.2 dX4_above_17
def sp_si_bad (a1 : Int32) (v3 : Int32) : Int32 := (if v3 = (-1) then a1 else v3)
set_option maxHeartbeats 4000000 in
set_option maxRecDepth 100000 in
/-- ClassMill$Image.bad -/
theorem si_bad (l : Launch) (dC : Nat → ClassId) (dI : Nat → Nat → Nat) (sz : Nat) (h0 : Nat) (a1 : Int32) (qf0 : Nat) (v1 : Int32) (v2 : Int32) (v3 : Int32) (qf4 : Nat) (qf5 : Nat) (qf6 : Nat) (v7 : Int32) (v8 : Int32) (v9 : Int32) (v10 : Int32) (qf11 : Nat) (v12 : Int32) (qf13 : Nat)  : Met l yX3_bad (.code yX3_bad cX3_bad 2 none :: VS_h1) ({ frames := 0, cells := 0, slots := 0, locals := 0 }) (va_Pc [.ref h0, .int a1] (fun U => U.heap.size = sz ∧ va_P (dC, dI) vwCl [(h0, .inr (3, [.ref qf0, .int v1, .int v2, .int v3, .ref qf4, .ref qf5, .ref qf6, .int v7, .int v8, .int v9, .int v10, .ref qf11, .int v12, .ref qf13]))] U.heap ∧ va_K (dC, dI) vwCl [] U ∧ va_D (fun _ => True) [(h0, .inr (3, [.ref qf0, .int v1, .int v2, .int v3, .ref qf4, .ref qf5, .ref qf6, .int v7, .int v8, .int v9, .int v10, .ref qf11, .int v12, .ref qf13]))])) (va_Qv (fun (u : Int32) => match u with | (yo1) => yo1 = sp_si_bad a1 v3) (fun (u : Int32) (t : State) => match u with | (yo1) => va_P (dC, dI) vwCl [(h0, .inr (3, [.ref qf0, .int v1, .int v2, .int yo1, .ref qf4, .ref qf5, .ref qf6, .int v7, .int v8, .int v9, .int v10, .ref qf11, .int v12, .ref qf13]))] t.heap ∧ va_K (dC, dI) vwCl [] t ∧ va_D (va_A [(h0, .inr (3, [.ref qf0, .int v1, .int v2, .int v3, .ref qf4, .ref qf5, .ref qf6, .int v7, .int v8, .int v9, .int v10, .ref qf11, .int v12, .ref qf13]))] sz) [(h0, .inr (3, [.ref qf0, .int v1, .int v2, .int yo1, .ref qf4, .ref qf5, .ref qf6, .int v7, .int v8, .int v9, .int v10, .ref qf11, .int v12, .ref qf13]))]) (va_A [(h0, .inr (3, [.ref qf0, .int v1, .int v2, .int v3, .ref qf4, .ref qf5, .ref qf6, .int v7, .int v8, .int v9, .int v10, .ref qf11, .int v12, .ref qf13]))] sz)) 0 0 (va_A [(h0, .inr (3, [.ref qf0, .int v1, .int v2, .int v3, .ref qf4, .ref qf5, .ref qf6, .int v7, .int v8, .int v9, .int v10, .ref qf11, .int v12, .ref qf13]))] sz) := by
  refine Met.ofW (cc := cX3_bad) (maxL := 2) (ret := none) (by decide) rfl ?_
  intro p e s m args below meth c s₁ B hml hv
  obtain ⟨rfl, hsz, hP, hK, hD0⟩ := hv
  have hx := B.exec
  have hb := B.bytes
  have hr := B.returns
  have hts := atoms_spec (ws := (.code yX3_bad cX3_bad 2 none :: VS_h1)) B.pre
  replace hts := fun w (h : w ∈ VS_h1) => hts w (List.mem_cons_of_mem _ h)
  have hown : s.vm.findClass RX3 = some m.cls := findClass_of_methodNamed B.named
  have hlocks := B.notSynchronized
  subst hsz
  have hD := hD0.self (sz := s.heap.size)
  generalize hAe : va_A [(h0, .inr (3, [.ref qf0, .int v1, .int v2, .int v3, .ref qf4, .ref qf5, .ref qf6, .int v7, .int v8, .int v9, .int v10, .ref qf11, .int v12, .ref qf13]))] s.heap.size = A at hD  ⊢
  have hA : ∀ q : Nat, s.heap.size ≤ q → A q := fun q h => by rw [← hAe]; exact Or.inr h
  have hP : va_P (dC, dI) vwCl [(h0, .inr (3, [.ref qf0, .int v1, .int v2, .int v3, .ref qf4, .ref qf5, .ref qf6, .int v7, .int v8, .int v9, .int v10, .ref qf11, .int v12, .ref qf13]))] s.heap := hP
  have hl := lv_entry ([.ref h0, .int a1]) (n := 2) (Nat.le_of_ble_eq_true rfl)
  rw [lg_entry_eq]
  generalize (lg_sl ([.ref h0, .int a1]) ++ List.replicate (2 - (lg_sl ([.ref h0, .int a1])).length) Slot.unset).toArray = ls at hl ⊢
  have hl : lv_has ls 2 [(0, .ref h0), (1, .int a1)] := hl
  obtain ⟨H, hH⟩ : ∃ H : Heap, s.heap = H := ⟨_, rfl⟩
  rw [hH] at hP ⊢
  have hS : va_S A s.heap H [] := by rw [← hH]; exact va_S.rf
  obtain ⟨locs, hlo⟩ : ∃ locs : List Loc, locs = [] := ⟨_, rfl⟩
  rw [← hlo] at hS ⊢
  refine lv_aload_n hx hb dX3_bad_0 rfl (lv_at hl 0 rfl) ?_
  refine va_get (D := (dC, dI)) (ci := 3) (v := .int v3) (C := RX3) (T := TX3) (N := 14) hx hb hts uV_h1_X3 hown hK hP 0 rfl rfl 3 (by decide) (hts (.fieldLink RX3 46 "ClassMill$Image" "form" "I") mw_h1_5) (fun _ h9 => h9) rfl dX3_bad_1 ?_
  refine lv_iconst (v := (-1)) hx hb dX3_bad_4 (by decide) ?_
  refine lv_icmp_ne (tgt := 13) hx hb dX3_bad_5 (by decide) (fun c_1 => ?_) (fun c_1 => ?_)
  · have c_1_ := c_1
    obtain ⟨y_o3_0, ey_o3_0⟩ : ∃ z : Int32, z = v3 := ⟨_, rfl⟩
    replace hP : va_P (dC, dI) vwCl [(h0, .inr (3, [.ref qf0, .int v1, .int v2, .int y_o3_0, .ref qf4, .ref qf5, .ref qf6, .int v7, .int v8, .int v9, .int v10, .ref qf11, .int v12, .ref qf13]))] H := by rw [ey_o3_0]; exact hP
    replace hD : va_D A [(h0, .inr (3, [.ref qf0, .int v1, .int v2, .int y_o3_0, .ref qf4, .ref qf5, .ref qf6, .int v7, .int v8, .int v9, .int v10, .ref qf11, .int v12, .ref qf13]))] := by rw [ey_o3_0]; exact hD
    have hP9 := hP.sub (ws' := [(h0, .inr (3, [.ref qf0, .int v1, .int v2, .int y_o3_0, .ref qf4, .ref qf5, .ref qf6, .int v7, .int v8, .int v9, .int v10, .ref qf11, .int v12, .ref qf13]))]) [0] rfl
    have hD9 := hD.sub (ws' := [(h0, .inr (3, [.ref qf0, .int v1, .int v2, .int y_o3_0, .ref qf4, .ref qf5, .ref qf6, .int v7, .int v8, .int v9, .int v10, .ref qf11, .int v12, .ref qf13]))]) [0] (by decide) rfl
    have hK9 := hK.sub (tys' := []) [] rfl
    exact W.vret hx hb hr (fun t ht hW => ⟨⟨(y_o3_0), rfl, by rw [ey_o3_0]; unfold sp_si_bad; rw [if_neg c_1], by rw [ht]; exact hP9, va_K.moved hW.alike hK9, hD9⟩, hS.F ht⟩) hS.2.2 dX3_bad_13
  · have c_1_ := c_1
    refine lv_aload_n hx hb dX3_bad_8 rfl (lv_at hl 0 rfl) ?_
    refine lv_iload_n hx hb dX3_bad_9 rfl (lv_at hl 1 rfl) ?_
    refine va_put (D := (dC, dI)) (ci := 3) (v := .int a1) (ty := .int) (C := RX3) (T := TX3) (N := 14) hx hb hts uV_h1_X3 tyX3 tyX3_ok nmX3 hown hK hP hD hS 0 rfl rfl 3 (by decide) (hts (.fieldLink RX3 46 "ClassMill$Image" "form" "I") mw_h1_5) (fun _ h9 => h9) rfl (by decide +kernel) rfl rfl (Nat.le_of_ble_eq_true rfl) dX3_bad_10 ?_
    clear hP hD hS
    intro H locs hP hD hS
    replace hP : va_P (dC, dI) vwCl [(h0, .inr (3, [.ref qf0, .int v1, .int v2, .int a1, .ref qf4, .ref qf5, .ref qf6, .int v7, .int v8, .int v9, .int v10, .ref qf11, .int v12, .ref qf13]))] H := hP
    replace hD : va_D A [(h0, .inr (3, [.ref qf0, .int v1, .int v2, .int a1, .ref qf4, .ref qf5, .ref qf6, .int v7, .int v8, .int v9, .int v10, .ref qf11, .int v12, .ref qf13]))] := hD
    obtain ⟨y_o3_1, ey_o3_1⟩ : ∃ z : Int32, z = a1 := ⟨_, rfl⟩
    replace hP : va_P (dC, dI) vwCl [(h0, .inr (3, [.ref qf0, .int v1, .int v2, .int y_o3_1, .ref qf4, .ref qf5, .ref qf6, .int v7, .int v8, .int v9, .int v10, .ref qf11, .int v12, .ref qf13]))] H := by rw [ey_o3_1]; exact hP
    replace hD : va_D A [(h0, .inr (3, [.ref qf0, .int v1, .int v2, .int y_o3_1, .ref qf4, .ref qf5, .ref qf6, .int v7, .int v8, .int v9, .int v10, .ref qf11, .int v12, .ref qf13]))] := by rw [ey_o3_1]; exact hD
    have hP9 := hP.sub (ws' := [(h0, .inr (3, [.ref qf0, .int v1, .int v2, .int y_o3_1, .ref qf4, .ref qf5, .ref qf6, .int v7, .int v8, .int v9, .int v10, .ref qf11, .int v12, .ref qf13]))]) [0] rfl
    have hD9 := hD.sub (ws' := [(h0, .inr (3, [.ref qf0, .int v1, .int v2, .int y_o3_1, .ref qf4, .ref qf5, .ref qf6, .int v7, .int v8, .int v9, .int v10, .ref qf11, .int v12, .ref qf13]))]) [0] (by decide) rfl
    have hK9 := hK.sub (tys' := []) [] rfl
    exact W.vret hx hb hr (fun t ht hW => ⟨⟨(y_o3_1), rfl, by rw [ey_o3_1]; unfold sp_si_bad; rw [if_pos c_1], by rw [ht]; exact hP9, va_K.moved hW.alike hK9, hD9⟩, hS.F ht⟩) hS.2.2 dX3_bad_13
theorem ix_si_byteAt_2 (a1 : Int32) (nb : Nat) (v1 : Int32) (c_1 : ¬ a1 < 0) (c_2 : ¬ v1 ≤ a1) (hnb : v1.toInt ≤ (nb : Int)) : vp_in a1 nb := by
  simp only [Int32.lt_iff_toInt_lt, Int32.le_iff_toInt_le, show (0 : Int32).toInt = 0 from rfl] at *
  exact ix_int (by omega) (by omega)
def sp_si_byteAt (a1 : Int32) (v1 : Int32) (f0 : Nat → Int32) : Int32 := (if a1 < 0 then 0 else (if v1 ≤ a1 then 0 else ((f0 (a1 : Int32).toNatClampNeg) &&& 255)))
set_option maxHeartbeats 4000000 in
set_option maxRecDepth 100000 in
/-- ClassMill$Image.byteAt -/
theorem si_byteAt (l : Launch) (dC : Nat → ClassId) (dI : Nat → Nat → Nat) (sz : Nat) (h0 : Nat) (a1 : Int32) (qf0 : Nat) (v1 : Int32) (v2 : Int32) (v3 : Int32) (qf4 : Nat) (qf5 : Nat) (qf6 : Nat) (v7 : Int32) (v8 : Int32) (v9 : Int32) (v10 : Int32) (qf11 : Nat) (v12 : Int32) (qf13 : Nat) (cf0 : ClassId) (nb : Nat) (f0 : (Nat → Int32)) (hnb : v1.toInt ≤ (nb : Int)) : Met l yX3_byteAt (.code yX3_byteAt cX3_byteAt 2 (some .int) :: VS_h1) ({ frames := 0, cells := 0, slots := 0, locals := 0 }) (va_Pc [.ref h0, .int a1] (fun U => U.heap.size = sz ∧ va_P (dC, dI) vwCl [(h0, .inr (3, [.ref qf0, .int v1, .int v2, .int v3, .ref qf4, .ref qf5, .ref qf6, .int v7, .int v8, .int v9, .int v10, .ref qf11, .int v12, .ref qf13])), (qf0, .inl (cf0, nb, .inl f0))] U.heap ∧ va_K (dC, dI) vwCl [(cf0, .byte)] U ∧ va_D (fun _ => True) [(h0, .inr (3, [.ref qf0, .int v1, .int v2, .int v3, .ref qf4, .ref qf5, .ref qf6, .int v7, .int v8, .int v9, .int v10, .ref qf11, .int v12, .ref qf13])), (qf0, .inl (cf0, nb, .inl f0))])) (va_Qi (fun (r : Int32) (u : Unit) => match u with | () => r = sp_si_byteAt a1 v1 f0) (fun (u : Unit) (t : State) => match u with | () => va_P (dC, dI) vwCl [(h0, .inr (3, [.ref qf0, .int v1, .int v2, .int v3, .ref qf4, .ref qf5, .ref qf6, .int v7, .int v8, .int v9, .int v10, .ref qf11, .int v12, .ref qf13])), (qf0, .inl (cf0, nb, .inl f0))] t.heap ∧ va_K (dC, dI) vwCl [(cf0, .byte)] t ∧ va_D (va_A [(h0, .inr (3, [.ref qf0, .int v1, .int v2, .int v3, .ref qf4, .ref qf5, .ref qf6, .int v7, .int v8, .int v9, .int v10, .ref qf11, .int v12, .ref qf13])), (qf0, .inl (cf0, nb, .inl f0))] sz) [(h0, .inr (3, [.ref qf0, .int v1, .int v2, .int v3, .ref qf4, .ref qf5, .ref qf6, .int v7, .int v8, .int v9, .int v10, .ref qf11, .int v12, .ref qf13])), (qf0, .inl (cf0, nb, .inl f0))]) (va_A [(h0, .inr (3, [.ref qf0, .int v1, .int v2, .int v3, .ref qf4, .ref qf5, .ref qf6, .int v7, .int v8, .int v9, .int v10, .ref qf11, .int v12, .ref qf13])), (qf0, .inl (cf0, nb, .inl f0))] sz)) 0 0 (va_A [(h0, .inr (3, [.ref qf0, .int v1, .int v2, .int v3, .ref qf4, .ref qf5, .ref qf6, .int v7, .int v8, .int v9, .int v10, .ref qf11, .int v12, .ref qf13])), (qf0, .inl (cf0, nb, .inl f0))] sz) := by
  refine Met.ofW (cc := cX3_byteAt) (maxL := 2) (ret := (some .int)) (by decide) rfl ?_
  intro p e s m args below meth c s₁ B hml hv
  obtain ⟨rfl, hsz, hP, hK, hD0⟩ := hv
  have hx := B.exec
  have hb := B.bytes
  have hr := B.returns
  have hts := atoms_spec (ws := (.code yX3_byteAt cX3_byteAt 2 (some .int) :: VS_h1)) B.pre
  replace hts := fun w (h : w ∈ VS_h1) => hts w (List.mem_cons_of_mem _ h)
  have hown : s.vm.findClass RX3 = some m.cls := findClass_of_methodNamed B.named
  have hlocks := B.notSynchronized
  subst hsz
  have hD := hD0.self (sz := s.heap.size)
  generalize hAe : va_A [(h0, .inr (3, [.ref qf0, .int v1, .int v2, .int v3, .ref qf4, .ref qf5, .ref qf6, .int v7, .int v8, .int v9, .int v10, .ref qf11, .int v12, .ref qf13])), (qf0, .inl (cf0, nb, .inl f0))] s.heap.size = A at hD  ⊢
  have hA : ∀ q : Nat, s.heap.size ≤ q → A q := fun q h => by rw [← hAe]; exact Or.inr h
  have hP : va_P (dC, dI) vwCl [(h0, .inr (3, [.ref qf0, .int v1, .int v2, .int v3, .ref qf4, .ref qf5, .ref qf6, .int v7, .int v8, .int v9, .int v10, .ref qf11, .int v12, .ref qf13])), (qf0, .inl (cf0, nb, .inl f0))] s.heap := hP
  have hl := lv_entry ([.ref h0, .int a1]) (n := 2) (Nat.le_of_ble_eq_true rfl)
  rw [lg_entry_eq]
  generalize (lg_sl ([.ref h0, .int a1]) ++ List.replicate (2 - (lg_sl ([.ref h0, .int a1])).length) Slot.unset).toArray = ls at hl ⊢
  have hl : lv_has ls 2 [(0, .ref h0), (1, .int a1)] := hl
  obtain ⟨H, hH⟩ : ∃ H : Heap, s.heap = H := ⟨_, rfl⟩
  rw [hH] at hP ⊢
  have hS : va_S A s.heap H [] := by rw [← hH]; exact va_S.rf
  obtain ⟨locs, hlo⟩ : ∃ locs : List Loc, locs = [] := ⟨_, rfl⟩
  rw [← hlo] at hS ⊢
  refine lv_iload_n hx hb dX3_byteAt_0 rfl (lv_at hl 1 rfl) ?_
  refine lv_if_lt (tgt := 25) hx hb dX3_byteAt_1 (by decide) (fun c_1 => ?_) (fun c_1 => ?_)
  · have c_1_ := c_1
    refine lv_iconst (v := 0) hx hb dX3_byteAt_25 (by decide) ?_
    have hP9 := hP.sub (ws' := [(h0, .inr (3, [.ref qf0, .int v1, .int v2, .int v3, .ref qf4, .ref qf5, .ref qf6, .int v7, .int v8, .int v9, .int v10, .ref qf11, .int v12, .ref qf13])), (qf0, .inl (cf0, nb, .inl f0))]) [0, 1] rfl
    have hD9 := hD.sub (ws' := [(h0, .inr (3, [.ref qf0, .int v1, .int v2, .int v3, .ref qf4, .ref qf5, .ref qf6, .int v7, .int v8, .int v9, .int v10, .ref qf11, .int v12, .ref qf13])), (qf0, .inl (cf0, nb, .inl f0))]) [0, 1] (by decide) rfl
    have hK9 := hK.sub (tys' := [(cf0, .byte)]) [0] rfl
    exact W.iret hx hb hr (fun t ht hW => ⟨⟨(0), (), rfl, by unfold sp_si_byteAt; rw [if_pos c_1], by rw [ht]; exact hP9, va_K.moved hW.alike hK9, hD9⟩, hS.F ht⟩) hS.2.2 dX3_byteAt_26
  · have c_1_ := c_1
    refine lv_iload_n hx hb dX3_byteAt_4 rfl (lv_at hl 1 rfl) ?_
    refine lv_aload_n hx hb dX3_byteAt_5 rfl (lv_at hl 0 rfl) ?_
    refine va_get (D := (dC, dI)) (ci := 3) (v := .int v1) (C := RX3) (T := TX3) (N := 14) hx hb hts uV_h1_X3 hown hK hP 0 rfl rfl 1 (by decide) (hts (.fieldLink RX3 39 "ClassMill$Image" "size" "I") mw_h1_6) (fun _ h9 => h9) rfl dX3_byteAt_6 ?_
    refine lv_icmp_ge (tgt := 25) hx hb dX3_byteAt_9 (by decide) (fun c_2 => ?_) (fun c_2 => ?_)
    · have c_2_ := c_2
      refine lv_iconst (v := 0) hx hb dX3_byteAt_25 (by decide) ?_
      have hP9 := hP.sub (ws' := [(h0, .inr (3, [.ref qf0, .int v1, .int v2, .int v3, .ref qf4, .ref qf5, .ref qf6, .int v7, .int v8, .int v9, .int v10, .ref qf11, .int v12, .ref qf13])), (qf0, .inl (cf0, nb, .inl f0))]) [0, 1] rfl
      have hD9 := hD.sub (ws' := [(h0, .inr (3, [.ref qf0, .int v1, .int v2, .int v3, .ref qf4, .ref qf5, .ref qf6, .int v7, .int v8, .int v9, .int v10, .ref qf11, .int v12, .ref qf13])), (qf0, .inl (cf0, nb, .inl f0))]) [0, 1] (by decide) rfl
      have hK9 := hK.sub (tys' := [(cf0, .byte)]) [0] rfl
      exact W.iret hx hb hr (fun t ht hW => ⟨⟨(0), (), rfl, by unfold sp_si_byteAt; rw [if_neg c_1, if_pos c_2], by rw [ht]; exact hP9, va_K.moved hW.alike hK9, hD9⟩, hS.F ht⟩) hS.2.2 dX3_byteAt_26
    · have c_2_ := c_2
      refine lv_aload_n hx hb dX3_byteAt_12 rfl (lv_at hl 0 rfl) ?_
      refine va_get (D := (dC, dI)) (ci := 3) (v := .ref qf0) (C := RX3) (T := TX3) (N := 14) hx hb hts uV_h1_X3 hown hK hP 0 rfl rfl 0 (by decide) (hts (.fieldLink RX3 9 "ClassMill$Image" "bytes" "[B") mw_h1_7) (fun _ h9 => h9) rfl dX3_byteAt_13 ?_
      refine lv_iload_n hx hb dX3_byteAt_16 rfl (lv_at hl 1 rfl) ?_
      refine va_bald hx hb hK hP 1 0 rfl rfl (i := a1) (ix_si_byteAt_2 a1 nb v1 c_1 c_2 hnb) dX3_byteAt_17 ?_
      refine lv_sipush (v := 255) hx hb dX3_byteAt_18 (by decide) ?_
      refine lv_iand hx hb dX3_byteAt_21 ?_
      refine lv_goto (tgt := 26) hx hb dX3_byteAt_22 (by decide) ?_
      have hP9 := hP.sub (ws' := [(h0, .inr (3, [.ref qf0, .int v1, .int v2, .int v3, .ref qf4, .ref qf5, .ref qf6, .int v7, .int v8, .int v9, .int v10, .ref qf11, .int v12, .ref qf13])), (qf0, .inl (cf0, nb, .inl f0))]) [0, 1] rfl
      have hD9 := hD.sub (ws' := [(h0, .inr (3, [.ref qf0, .int v1, .int v2, .int v3, .ref qf4, .ref qf5, .ref qf6, .int v7, .int v8, .int v9, .int v10, .ref qf11, .int v12, .ref qf13])), (qf0, .inl (cf0, nb, .inl f0))]) [0, 1] (by decide) rfl
      have hK9 := hK.sub (tys' := [(cf0, .byte)]) [0] rfl
      exact W.iret hx hb hr (fun t ht hW => ⟨⟨(((f0 (a1 : Int32).toNatClampNeg) &&& 255)), (), rfl, by unfold sp_si_byteAt; rw [if_neg c_1, if_neg c_2], by rw [ht]; exact hP9, va_K.moved hW.alike hK9, hD9⟩, hS.F ht⟩) hS.2.2 dX3_byteAt_26
theorem ix_si_tagOf_3 (a1 : Int32) (v7 : Int32) (c_1 : ¬ a1 < 1) (c_2 : ¬ v7 < a1) (c_3 : ¬ 256 ≤ a1) : vp_in a1 256 := by
  simp only [Int32.lt_iff_toInt_lt, Int32.le_iff_toInt_le, show (1 : Int32).toInt = 1 from rfl, show (256 : Int32).toInt = 256 from rfl] at *
  exact ix_int (by omega) (by omega)
def sp_si_tagOf (a1 : Int32) (v7 : Int32) (f4 : Nat → Int32) : Int32 := (if a1 < 1 then 0 else (if v7 < a1 then 0 else (if 256 ≤ a1 then 0 else (f4 (a1 : Int32).toNatClampNeg))))
set_option maxHeartbeats 4000000 in
set_option maxRecDepth 100000 in
/-- ClassMill$Image.tagOf -/
theorem si_tagOf (l : Launch) (dC : Nat → ClassId) (dI : Nat → Nat → Nat) (sz : Nat) (h0 : Nat) (a1 : Int32) (qf0 : Nat) (v1 : Int32) (v2 : Int32) (v3 : Int32) (qf4 : Nat) (qf5 : Nat) (qf6 : Nat) (v7 : Int32) (v8 : Int32) (v9 : Int32) (v10 : Int32) (qf11 : Nat) (v12 : Int32) (qf13 : Nat) (cf4 : ClassId) (f4 : (Nat → Int32))  : Met l yX3_tagOf (.code yX3_tagOf cX3_tagOf 2 (some .int) :: VS_h1) ({ frames := 0, cells := 0, slots := 0, locals := 0 }) (va_Pc [.ref h0, .int a1] (fun U => U.heap.size = sz ∧ va_P (dC, dI) vwCl [(h0, .inr (3, [.ref qf0, .int v1, .int v2, .int v3, .ref qf4, .ref qf5, .ref qf6, .int v7, .int v8, .int v9, .int v10, .ref qf11, .int v12, .ref qf13])), (qf4, .inl (cf4, 256, .inl f4))] U.heap ∧ va_K (dC, dI) vwCl [(cf4, .int)] U ∧ va_D (fun _ => True) [(h0, .inr (3, [.ref qf0, .int v1, .int v2, .int v3, .ref qf4, .ref qf5, .ref qf6, .int v7, .int v8, .int v9, .int v10, .ref qf11, .int v12, .ref qf13])), (qf4, .inl (cf4, 256, .inl f4))])) (va_Qi (fun (r : Int32) (u : Unit) => match u with | () => r = sp_si_tagOf a1 v7 f4) (fun (u : Unit) (t : State) => match u with | () => va_P (dC, dI) vwCl [(h0, .inr (3, [.ref qf0, .int v1, .int v2, .int v3, .ref qf4, .ref qf5, .ref qf6, .int v7, .int v8, .int v9, .int v10, .ref qf11, .int v12, .ref qf13])), (qf4, .inl (cf4, 256, .inl f4))] t.heap ∧ va_K (dC, dI) vwCl [(cf4, .int)] t ∧ va_D (va_A [(h0, .inr (3, [.ref qf0, .int v1, .int v2, .int v3, .ref qf4, .ref qf5, .ref qf6, .int v7, .int v8, .int v9, .int v10, .ref qf11, .int v12, .ref qf13])), (qf4, .inl (cf4, 256, .inl f4))] sz) [(h0, .inr (3, [.ref qf0, .int v1, .int v2, .int v3, .ref qf4, .ref qf5, .ref qf6, .int v7, .int v8, .int v9, .int v10, .ref qf11, .int v12, .ref qf13])), (qf4, .inl (cf4, 256, .inl f4))]) (va_A [(h0, .inr (3, [.ref qf0, .int v1, .int v2, .int v3, .ref qf4, .ref qf5, .ref qf6, .int v7, .int v8, .int v9, .int v10, .ref qf11, .int v12, .ref qf13])), (qf4, .inl (cf4, 256, .inl f4))] sz)) 0 0 (va_A [(h0, .inr (3, [.ref qf0, .int v1, .int v2, .int v3, .ref qf4, .ref qf5, .ref qf6, .int v7, .int v8, .int v9, .int v10, .ref qf11, .int v12, .ref qf13])), (qf4, .inl (cf4, 256, .inl f4))] sz) := by
  refine Met.ofW (cc := cX3_tagOf) (maxL := 2) (ret := (some .int)) (by decide) rfl ?_
  intro p e s m args below meth c s₁ B hml hv
  obtain ⟨rfl, hsz, hP, hK, hD0⟩ := hv
  have hx := B.exec
  have hb := B.bytes
  have hr := B.returns
  have hts := atoms_spec (ws := (.code yX3_tagOf cX3_tagOf 2 (some .int) :: VS_h1)) B.pre
  replace hts := fun w (h : w ∈ VS_h1) => hts w (List.mem_cons_of_mem _ h)
  have hown : s.vm.findClass RX3 = some m.cls := findClass_of_methodNamed B.named
  have hlocks := B.notSynchronized
  subst hsz
  have hD := hD0.self (sz := s.heap.size)
  generalize hAe : va_A [(h0, .inr (3, [.ref qf0, .int v1, .int v2, .int v3, .ref qf4, .ref qf5, .ref qf6, .int v7, .int v8, .int v9, .int v10, .ref qf11, .int v12, .ref qf13])), (qf4, .inl (cf4, 256, .inl f4))] s.heap.size = A at hD  ⊢
  have hA : ∀ q : Nat, s.heap.size ≤ q → A q := fun q h => by rw [← hAe]; exact Or.inr h
  have hP : va_P (dC, dI) vwCl [(h0, .inr (3, [.ref qf0, .int v1, .int v2, .int v3, .ref qf4, .ref qf5, .ref qf6, .int v7, .int v8, .int v9, .int v10, .ref qf11, .int v12, .ref qf13])), (qf4, .inl (cf4, 256, .inl f4))] s.heap := hP
  have hl := lv_entry ([.ref h0, .int a1]) (n := 2) (Nat.le_of_ble_eq_true rfl)
  rw [lg_entry_eq]
  generalize (lg_sl ([.ref h0, .int a1]) ++ List.replicate (2 - (lg_sl ([.ref h0, .int a1])).length) Slot.unset).toArray = ls at hl ⊢
  have hl : lv_has ls 2 [(0, .ref h0), (1, .int a1)] := hl
  obtain ⟨H, hH⟩ : ∃ H : Heap, s.heap = H := ⟨_, rfl⟩
  rw [hH] at hP ⊢
  have hS : va_S A s.heap H [] := by rw [← hH]; exact va_S.rf
  obtain ⟨locs, hlo⟩ : ∃ locs : List Loc, locs = [] := ⟨_, rfl⟩
  rw [← hlo] at hS ⊢
  refine lv_iload_n hx hb dX3_tagOf_0 rfl (lv_at hl 1 rfl) ?_
  refine lv_iconst (v := 1) hx hb dX3_tagOf_1 (by decide) ?_
  refine lv_icmp_lt (tgt := 31) hx hb dX3_tagOf_2 (by decide) (fun c_1 => ?_) (fun c_1 => ?_)
  · have c_1_ := c_1
    refine lv_iconst (v := 0) hx hb dX3_tagOf_31 (by decide) ?_
    have hP9 := hP.sub (ws' := [(h0, .inr (3, [.ref qf0, .int v1, .int v2, .int v3, .ref qf4, .ref qf5, .ref qf6, .int v7, .int v8, .int v9, .int v10, .ref qf11, .int v12, .ref qf13])), (qf4, .inl (cf4, 256, .inl f4))]) [0, 1] rfl
    have hD9 := hD.sub (ws' := [(h0, .inr (3, [.ref qf0, .int v1, .int v2, .int v3, .ref qf4, .ref qf5, .ref qf6, .int v7, .int v8, .int v9, .int v10, .ref qf11, .int v12, .ref qf13])), (qf4, .inl (cf4, 256, .inl f4))]) [0, 1] (by decide) rfl
    have hK9 := hK.sub (tys' := [(cf4, .int)]) [0] rfl
    exact W.iret hx hb hr (fun t ht hW => ⟨⟨(0), (), rfl, by unfold sp_si_tagOf; rw [if_pos c_1], by rw [ht]; exact hP9, va_K.moved hW.alike hK9, hD9⟩, hS.F ht⟩) hS.2.2 dX3_tagOf_32
  · have c_1_ := c_1
    refine lv_iload_n hx hb dX3_tagOf_5 rfl (lv_at hl 1 rfl) ?_
    refine lv_aload_n hx hb dX3_tagOf_6 rfl (lv_at hl 0 rfl) ?_
    refine va_get (D := (dC, dI)) (ci := 3) (v := .int v7) (C := RX3) (T := TX3) (N := 14) hx hb hts uV_h1_X3 hown hK hP 0 rfl rfl 7 (by decide) (hts (.fieldLink RX3 90 "ClassMill$Image" "constants" "I") mw_h1_8) (fun _ h9 => h9) rfl dX3_tagOf_7 ?_
    refine lv_icmp_gt (tgt := 31) hx hb dX3_tagOf_10 (by decide) (fun c_2 => ?_) (fun c_2 => ?_)
    · have c_2_ := c_2
      refine lv_iconst (v := 0) hx hb dX3_tagOf_31 (by decide) ?_
      have hP9 := hP.sub (ws' := [(h0, .inr (3, [.ref qf0, .int v1, .int v2, .int v3, .ref qf4, .ref qf5, .ref qf6, .int v7, .int v8, .int v9, .int v10, .ref qf11, .int v12, .ref qf13])), (qf4, .inl (cf4, 256, .inl f4))]) [0, 1] rfl
      have hD9 := hD.sub (ws' := [(h0, .inr (3, [.ref qf0, .int v1, .int v2, .int v3, .ref qf4, .ref qf5, .ref qf6, .int v7, .int v8, .int v9, .int v10, .ref qf11, .int v12, .ref qf13])), (qf4, .inl (cf4, 256, .inl f4))]) [0, 1] (by decide) rfl
      have hK9 := hK.sub (tys' := [(cf4, .int)]) [0] rfl
      exact W.iret hx hb hr (fun t ht hW => ⟨⟨(0), (), rfl, by unfold sp_si_tagOf; rw [if_neg c_1, if_pos c_2], by rw [ht]; exact hP9, va_K.moved hW.alike hK9, hD9⟩, hS.F ht⟩) hS.2.2 dX3_tagOf_32
    · have c_2_ := c_2
      refine lv_iload_n hx hb dX3_tagOf_13 rfl (lv_at hl 1 rfl) ?_
      refine lv_aload_n hx hb dX3_tagOf_14 rfl (lv_at hl 0 rfl) ?_
      refine va_get (D := (dC, dI)) (ci := 3) (v := .ref qf4) (C := RX3) (T := TX3) (N := 14) hx hb hts uV_h1_X3 hown hK hP 0 rfl rfl 4 (by decide) (hts (.fieldLink RX3 15 "ClassMill$Image" "tags" "[I") mw_h1_9) (fun _ h9 => h9) rfl dX3_tagOf_15 ?_
      refine va_alen (v := 256) hx hb hK hP 1 0 rfl rfl rfl dX3_tagOf_18 ?_
      refine lv_icmp_ge (tgt := 31) hx hb dX3_tagOf_19 (by decide) (fun c_3 => ?_) (fun c_3 => ?_)
      · have c_3_ := c_3
        refine lv_iconst (v := 0) hx hb dX3_tagOf_31 (by decide) ?_
        have hP9 := hP.sub (ws' := [(h0, .inr (3, [.ref qf0, .int v1, .int v2, .int v3, .ref qf4, .ref qf5, .ref qf6, .int v7, .int v8, .int v9, .int v10, .ref qf11, .int v12, .ref qf13])), (qf4, .inl (cf4, 256, .inl f4))]) [0, 1] rfl
        have hD9 := hD.sub (ws' := [(h0, .inr (3, [.ref qf0, .int v1, .int v2, .int v3, .ref qf4, .ref qf5, .ref qf6, .int v7, .int v8, .int v9, .int v10, .ref qf11, .int v12, .ref qf13])), (qf4, .inl (cf4, 256, .inl f4))]) [0, 1] (by decide) rfl
        have hK9 := hK.sub (tys' := [(cf4, .int)]) [0] rfl
        exact W.iret hx hb hr (fun t ht hW => ⟨⟨(0), (), rfl, by unfold sp_si_tagOf; rw [if_neg c_1, if_neg c_2, if_pos c_3], by rw [ht]; exact hP9, va_K.moved hW.alike hK9, hD9⟩, hS.F ht⟩) hS.2.2 dX3_tagOf_32
      · have c_3_ := c_3
        refine lv_aload_n hx hb dX3_tagOf_22 rfl (lv_at hl 0 rfl) ?_
        refine va_get (D := (dC, dI)) (ci := 3) (v := .ref qf4) (C := RX3) (T := TX3) (N := 14) hx hb hts uV_h1_X3 hown hK hP 0 rfl rfl 4 (by decide) (hts (.fieldLink RX3 15 "ClassMill$Image" "tags" "[I") mw_h1_9) (fun _ h9 => h9) rfl dX3_tagOf_23 ?_
        refine lv_iload_n hx hb dX3_tagOf_26 rfl (lv_at hl 1 rfl) ?_
        refine va_iald hx hb hK hP 1 0 rfl rfl (i := a1) (ix_si_tagOf_3 a1 v7 c_1 c_2 c_3) dX3_tagOf_27 ?_
        refine lv_goto (tgt := 32) hx hb dX3_tagOf_28 (by decide) ?_
        have hP9 := hP.sub (ws' := [(h0, .inr (3, [.ref qf0, .int v1, .int v2, .int v3, .ref qf4, .ref qf5, .ref qf6, .int v7, .int v8, .int v9, .int v10, .ref qf11, .int v12, .ref qf13])), (qf4, .inl (cf4, 256, .inl f4))]) [0, 1] rfl
        have hD9 := hD.sub (ws' := [(h0, .inr (3, [.ref qf0, .int v1, .int v2, .int v3, .ref qf4, .ref qf5, .ref qf6, .int v7, .int v8, .int v9, .int v10, .ref qf11, .int v12, .ref qf13])), (qf4, .inl (cf4, 256, .inl f4))]) [0, 1] (by decide) rfl
        have hK9 := hK.sub (tys' := [(cf4, .int)]) [0] rfl
        exact W.iret hx hb hr (fun t ht hW => ⟨⟨((f4 (a1 : Int32).toNatClampNeg)), (), rfl, by unfold sp_si_tagOf; rw [if_neg c_1, if_neg c_2, if_neg c_3], by rw [ht]; exact hP9, va_K.moved hW.alike hK9, hD9⟩, hS.F ht⟩) hS.2.2 dX3_tagOf_32
theorem ix_si_textAt_4 (a1 : Int32) (v7 : Int32) (c_1 : ¬ a1 < 1) (c_2 : ¬ v7 < a1) (c_3 : ¬ 256 ≤ a1) : vp_in a1 256 := by
  simp only [Int32.lt_iff_toInt_lt, Int32.le_iff_toInt_le, show (1 : Int32).toInt = 1 from rfl, show (256 : Int32).toInt = 256 from rfl] at *
  exact ix_int (by omega) (by omega)
def sp_si_textAt (a1 : Int32) (v7 : Int32) (f5 : Nat → Int32) : Int32 := (if a1 < 1 then 0 else (if v7 < a1 then 0 else (if 256 ≤ a1 then 0 else (f5 (a1 : Int32).toNatClampNeg))))
set_option maxHeartbeats 4000000 in
set_option maxRecDepth 100000 in
/-- ClassMill$Image.textAt -/
theorem si_textAt (l : Launch) (dC : Nat → ClassId) (dI : Nat → Nat → Nat) (sz : Nat) (h0 : Nat) (a1 : Int32) (qf0 : Nat) (v1 : Int32) (v2 : Int32) (v3 : Int32) (qf4 : Nat) (qf5 : Nat) (qf6 : Nat) (v7 : Int32) (v8 : Int32) (v9 : Int32) (v10 : Int32) (qf11 : Nat) (v12 : Int32) (qf13 : Nat) (cf5 : ClassId) (f5 : (Nat → Int32))  : Met l yX3_textAt (.code yX3_textAt cX3_textAt 2 (some .int) :: VS_h1) ({ frames := 0, cells := 0, slots := 0, locals := 0 }) (va_Pc [.ref h0, .int a1] (fun U => U.heap.size = sz ∧ va_P (dC, dI) vwCl [(h0, .inr (3, [.ref qf0, .int v1, .int v2, .int v3, .ref qf4, .ref qf5, .ref qf6, .int v7, .int v8, .int v9, .int v10, .ref qf11, .int v12, .ref qf13])), (qf5, .inl (cf5, 256, .inl f5))] U.heap ∧ va_K (dC, dI) vwCl [(cf5, .int)] U ∧ va_D (fun _ => True) [(h0, .inr (3, [.ref qf0, .int v1, .int v2, .int v3, .ref qf4, .ref qf5, .ref qf6, .int v7, .int v8, .int v9, .int v10, .ref qf11, .int v12, .ref qf13])), (qf5, .inl (cf5, 256, .inl f5))])) (va_Qi (fun (r : Int32) (u : Unit) => match u with | () => r = sp_si_textAt a1 v7 f5) (fun (u : Unit) (t : State) => match u with | () => va_P (dC, dI) vwCl [(h0, .inr (3, [.ref qf0, .int v1, .int v2, .int v3, .ref qf4, .ref qf5, .ref qf6, .int v7, .int v8, .int v9, .int v10, .ref qf11, .int v12, .ref qf13])), (qf5, .inl (cf5, 256, .inl f5))] t.heap ∧ va_K (dC, dI) vwCl [(cf5, .int)] t ∧ va_D (va_A [(h0, .inr (3, [.ref qf0, .int v1, .int v2, .int v3, .ref qf4, .ref qf5, .ref qf6, .int v7, .int v8, .int v9, .int v10, .ref qf11, .int v12, .ref qf13])), (qf5, .inl (cf5, 256, .inl f5))] sz) [(h0, .inr (3, [.ref qf0, .int v1, .int v2, .int v3, .ref qf4, .ref qf5, .ref qf6, .int v7, .int v8, .int v9, .int v10, .ref qf11, .int v12, .ref qf13])), (qf5, .inl (cf5, 256, .inl f5))]) (va_A [(h0, .inr (3, [.ref qf0, .int v1, .int v2, .int v3, .ref qf4, .ref qf5, .ref qf6, .int v7, .int v8, .int v9, .int v10, .ref qf11, .int v12, .ref qf13])), (qf5, .inl (cf5, 256, .inl f5))] sz)) 0 0 (va_A [(h0, .inr (3, [.ref qf0, .int v1, .int v2, .int v3, .ref qf4, .ref qf5, .ref qf6, .int v7, .int v8, .int v9, .int v10, .ref qf11, .int v12, .ref qf13])), (qf5, .inl (cf5, 256, .inl f5))] sz) := by
  refine Met.ofW (cc := cX3_textAt) (maxL := 2) (ret := (some .int)) (by decide) rfl ?_
  intro p e s m args below meth c s₁ B hml hv
  obtain ⟨rfl, hsz, hP, hK, hD0⟩ := hv
  have hx := B.exec
  have hb := B.bytes
  have hr := B.returns
  have hts := atoms_spec (ws := (.code yX3_textAt cX3_textAt 2 (some .int) :: VS_h1)) B.pre
  replace hts := fun w (h : w ∈ VS_h1) => hts w (List.mem_cons_of_mem _ h)
  have hown : s.vm.findClass RX3 = some m.cls := findClass_of_methodNamed B.named
  have hlocks := B.notSynchronized
  subst hsz
  have hD := hD0.self (sz := s.heap.size)
  generalize hAe : va_A [(h0, .inr (3, [.ref qf0, .int v1, .int v2, .int v3, .ref qf4, .ref qf5, .ref qf6, .int v7, .int v8, .int v9, .int v10, .ref qf11, .int v12, .ref qf13])), (qf5, .inl (cf5, 256, .inl f5))] s.heap.size = A at hD  ⊢
  have hA : ∀ q : Nat, s.heap.size ≤ q → A q := fun q h => by rw [← hAe]; exact Or.inr h
  have hP : va_P (dC, dI) vwCl [(h0, .inr (3, [.ref qf0, .int v1, .int v2, .int v3, .ref qf4, .ref qf5, .ref qf6, .int v7, .int v8, .int v9, .int v10, .ref qf11, .int v12, .ref qf13])), (qf5, .inl (cf5, 256, .inl f5))] s.heap := hP
  have hl := lv_entry ([.ref h0, .int a1]) (n := 2) (Nat.le_of_ble_eq_true rfl)
  rw [lg_entry_eq]
  generalize (lg_sl ([.ref h0, .int a1]) ++ List.replicate (2 - (lg_sl ([.ref h0, .int a1])).length) Slot.unset).toArray = ls at hl ⊢
  have hl : lv_has ls 2 [(0, .ref h0), (1, .int a1)] := hl
  obtain ⟨H, hH⟩ : ∃ H : Heap, s.heap = H := ⟨_, rfl⟩
  rw [hH] at hP ⊢
  have hS : va_S A s.heap H [] := by rw [← hH]; exact va_S.rf
  obtain ⟨locs, hlo⟩ : ∃ locs : List Loc, locs = [] := ⟨_, rfl⟩
  rw [← hlo] at hS ⊢
  refine lv_iload_n hx hb dX3_textAt_0 rfl (lv_at hl 1 rfl) ?_
  refine lv_iconst (v := 1) hx hb dX3_textAt_1 (by decide) ?_
  refine lv_icmp_lt (tgt := 31) hx hb dX3_textAt_2 (by decide) (fun c_1 => ?_) (fun c_1 => ?_)
  · have c_1_ := c_1
    refine lv_iconst (v := 0) hx hb dX3_textAt_31 (by decide) ?_
    have hP9 := hP.sub (ws' := [(h0, .inr (3, [.ref qf0, .int v1, .int v2, .int v3, .ref qf4, .ref qf5, .ref qf6, .int v7, .int v8, .int v9, .int v10, .ref qf11, .int v12, .ref qf13])), (qf5, .inl (cf5, 256, .inl f5))]) [0, 1] rfl
    have hD9 := hD.sub (ws' := [(h0, .inr (3, [.ref qf0, .int v1, .int v2, .int v3, .ref qf4, .ref qf5, .ref qf6, .int v7, .int v8, .int v9, .int v10, .ref qf11, .int v12, .ref qf13])), (qf5, .inl (cf5, 256, .inl f5))]) [0, 1] (by decide) rfl
    have hK9 := hK.sub (tys' := [(cf5, .int)]) [0] rfl
    exact W.iret hx hb hr (fun t ht hW => ⟨⟨(0), (), rfl, by unfold sp_si_textAt; rw [if_pos c_1], by rw [ht]; exact hP9, va_K.moved hW.alike hK9, hD9⟩, hS.F ht⟩) hS.2.2 dX3_textAt_32
  · have c_1_ := c_1
    refine lv_iload_n hx hb dX3_textAt_5 rfl (lv_at hl 1 rfl) ?_
    refine lv_aload_n hx hb dX3_textAt_6 rfl (lv_at hl 0 rfl) ?_
    refine va_get (D := (dC, dI)) (ci := 3) (v := .int v7) (C := RX3) (T := TX3) (N := 14) hx hb hts uV_h1_X3 hown hK hP 0 rfl rfl 7 (by decide) (hts (.fieldLink RX3 90 "ClassMill$Image" "constants" "I") mw_h1_8) (fun _ h9 => h9) rfl dX3_textAt_7 ?_
    refine lv_icmp_gt (tgt := 31) hx hb dX3_textAt_10 (by decide) (fun c_2 => ?_) (fun c_2 => ?_)
    · have c_2_ := c_2
      refine lv_iconst (v := 0) hx hb dX3_textAt_31 (by decide) ?_
      have hP9 := hP.sub (ws' := [(h0, .inr (3, [.ref qf0, .int v1, .int v2, .int v3, .ref qf4, .ref qf5, .ref qf6, .int v7, .int v8, .int v9, .int v10, .ref qf11, .int v12, .ref qf13])), (qf5, .inl (cf5, 256, .inl f5))]) [0, 1] rfl
      have hD9 := hD.sub (ws' := [(h0, .inr (3, [.ref qf0, .int v1, .int v2, .int v3, .ref qf4, .ref qf5, .ref qf6, .int v7, .int v8, .int v9, .int v10, .ref qf11, .int v12, .ref qf13])), (qf5, .inl (cf5, 256, .inl f5))]) [0, 1] (by decide) rfl
      have hK9 := hK.sub (tys' := [(cf5, .int)]) [0] rfl
      exact W.iret hx hb hr (fun t ht hW => ⟨⟨(0), (), rfl, by unfold sp_si_textAt; rw [if_neg c_1, if_pos c_2], by rw [ht]; exact hP9, va_K.moved hW.alike hK9, hD9⟩, hS.F ht⟩) hS.2.2 dX3_textAt_32
    · have c_2_ := c_2
      refine lv_iload_n hx hb dX3_textAt_13 rfl (lv_at hl 1 rfl) ?_
      refine lv_aload_n hx hb dX3_textAt_14 rfl (lv_at hl 0 rfl) ?_
      refine va_get (D := (dC, dI)) (ci := 3) (v := .ref qf5) (C := RX3) (T := TX3) (N := 14) hx hb hts uV_h1_X3 hown hK hP 0 rfl rfl 5 (by decide) (hts (.fieldLink RX3 19 "ClassMill$Image" "at" "[I") mw_h1_10) (fun _ h9 => h9) rfl dX3_textAt_15 ?_
      refine va_alen (v := 256) hx hb hK hP 1 0 rfl rfl rfl dX3_textAt_18 ?_
      refine lv_icmp_ge (tgt := 31) hx hb dX3_textAt_19 (by decide) (fun c_3 => ?_) (fun c_3 => ?_)
      · have c_3_ := c_3
        refine lv_iconst (v := 0) hx hb dX3_textAt_31 (by decide) ?_
        have hP9 := hP.sub (ws' := [(h0, .inr (3, [.ref qf0, .int v1, .int v2, .int v3, .ref qf4, .ref qf5, .ref qf6, .int v7, .int v8, .int v9, .int v10, .ref qf11, .int v12, .ref qf13])), (qf5, .inl (cf5, 256, .inl f5))]) [0, 1] rfl
        have hD9 := hD.sub (ws' := [(h0, .inr (3, [.ref qf0, .int v1, .int v2, .int v3, .ref qf4, .ref qf5, .ref qf6, .int v7, .int v8, .int v9, .int v10, .ref qf11, .int v12, .ref qf13])), (qf5, .inl (cf5, 256, .inl f5))]) [0, 1] (by decide) rfl
        have hK9 := hK.sub (tys' := [(cf5, .int)]) [0] rfl
        exact W.iret hx hb hr (fun t ht hW => ⟨⟨(0), (), rfl, by unfold sp_si_textAt; rw [if_neg c_1, if_neg c_2, if_pos c_3], by rw [ht]; exact hP9, va_K.moved hW.alike hK9, hD9⟩, hS.F ht⟩) hS.2.2 dX3_textAt_32
      · have c_3_ := c_3
        refine lv_aload_n hx hb dX3_textAt_22 rfl (lv_at hl 0 rfl) ?_
        refine va_get (D := (dC, dI)) (ci := 3) (v := .ref qf5) (C := RX3) (T := TX3) (N := 14) hx hb hts uV_h1_X3 hown hK hP 0 rfl rfl 5 (by decide) (hts (.fieldLink RX3 19 "ClassMill$Image" "at" "[I") mw_h1_10) (fun _ h9 => h9) rfl dX3_textAt_23 ?_
        refine lv_iload_n hx hb dX3_textAt_26 rfl (lv_at hl 1 rfl) ?_
        refine va_iald hx hb hK hP 1 0 rfl rfl (i := a1) (ix_si_textAt_4 a1 v7 c_1 c_2 c_3) dX3_textAt_27 ?_
        refine lv_goto (tgt := 32) hx hb dX3_textAt_28 (by decide) ?_
        have hP9 := hP.sub (ws' := [(h0, .inr (3, [.ref qf0, .int v1, .int v2, .int v3, .ref qf4, .ref qf5, .ref qf6, .int v7, .int v8, .int v9, .int v10, .ref qf11, .int v12, .ref qf13])), (qf5, .inl (cf5, 256, .inl f5))]) [0, 1] rfl
        have hD9 := hD.sub (ws' := [(h0, .inr (3, [.ref qf0, .int v1, .int v2, .int v3, .ref qf4, .ref qf5, .ref qf6, .int v7, .int v8, .int v9, .int v10, .ref qf11, .int v12, .ref qf13])), (qf5, .inl (cf5, 256, .inl f5))]) [0, 1] (by decide) rfl
        have hK9 := hK.sub (tys' := [(cf5, .int)]) [0] rfl
        exact W.iret hx hb hr (fun t ht hW => ⟨⟨((f5 (a1 : Int32).toNatClampNeg)), (), rfl, by unfold sp_si_textAt; rw [if_neg c_1, if_neg c_2, if_neg c_3], by rw [ht]; exact hP9, va_K.moved hW.alike hK9, hD9⟩, hS.F ht⟩) hS.2.2 dX3_textAt_32
theorem ix_si_textEnd_5 (a1 : Int32) (v7 : Int32) (c_1 : ¬ a1 < 1) (c_2 : ¬ v7 < a1) (c_3 : ¬ 256 ≤ a1) : vp_in a1 256 := by
  simp only [Int32.lt_iff_toInt_lt, Int32.le_iff_toInt_le, show (1 : Int32).toInt = 1 from rfl, show (256 : Int32).toInt = 256 from rfl] at *
  exact ix_int (by omega) (by omega)
def sp_si_textEnd (a1 : Int32) (v7 : Int32) (f6 : Nat → Int32) : Int32 := (if a1 < 1 then 0 else (if v7 < a1 then 0 else (if 256 ≤ a1 then 0 else (f6 (a1 : Int32).toNatClampNeg))))
set_option maxHeartbeats 4000000 in
set_option maxRecDepth 100000 in
/-- ClassMill$Image.textEnd -/
theorem si_textEnd (l : Launch) (dC : Nat → ClassId) (dI : Nat → Nat → Nat) (sz : Nat) (h0 : Nat) (a1 : Int32) (qf0 : Nat) (v1 : Int32) (v2 : Int32) (v3 : Int32) (qf4 : Nat) (qf5 : Nat) (qf6 : Nat) (v7 : Int32) (v8 : Int32) (v9 : Int32) (v10 : Int32) (qf11 : Nat) (v12 : Int32) (qf13 : Nat) (cf6 : ClassId) (f6 : (Nat → Int32))  : Met l yX3_textEnd (.code yX3_textEnd cX3_textEnd 2 (some .int) :: VS_h1) ({ frames := 0, cells := 0, slots := 0, locals := 0 }) (va_Pc [.ref h0, .int a1] (fun U => U.heap.size = sz ∧ va_P (dC, dI) vwCl [(h0, .inr (3, [.ref qf0, .int v1, .int v2, .int v3, .ref qf4, .ref qf5, .ref qf6, .int v7, .int v8, .int v9, .int v10, .ref qf11, .int v12, .ref qf13])), (qf6, .inl (cf6, 256, .inl f6))] U.heap ∧ va_K (dC, dI) vwCl [(cf6, .int)] U ∧ va_D (fun _ => True) [(h0, .inr (3, [.ref qf0, .int v1, .int v2, .int v3, .ref qf4, .ref qf5, .ref qf6, .int v7, .int v8, .int v9, .int v10, .ref qf11, .int v12, .ref qf13])), (qf6, .inl (cf6, 256, .inl f6))])) (va_Qi (fun (r : Int32) (u : Unit) => match u with | () => r = sp_si_textEnd a1 v7 f6) (fun (u : Unit) (t : State) => match u with | () => va_P (dC, dI) vwCl [(h0, .inr (3, [.ref qf0, .int v1, .int v2, .int v3, .ref qf4, .ref qf5, .ref qf6, .int v7, .int v8, .int v9, .int v10, .ref qf11, .int v12, .ref qf13])), (qf6, .inl (cf6, 256, .inl f6))] t.heap ∧ va_K (dC, dI) vwCl [(cf6, .int)] t ∧ va_D (va_A [(h0, .inr (3, [.ref qf0, .int v1, .int v2, .int v3, .ref qf4, .ref qf5, .ref qf6, .int v7, .int v8, .int v9, .int v10, .ref qf11, .int v12, .ref qf13])), (qf6, .inl (cf6, 256, .inl f6))] sz) [(h0, .inr (3, [.ref qf0, .int v1, .int v2, .int v3, .ref qf4, .ref qf5, .ref qf6, .int v7, .int v8, .int v9, .int v10, .ref qf11, .int v12, .ref qf13])), (qf6, .inl (cf6, 256, .inl f6))]) (va_A [(h0, .inr (3, [.ref qf0, .int v1, .int v2, .int v3, .ref qf4, .ref qf5, .ref qf6, .int v7, .int v8, .int v9, .int v10, .ref qf11, .int v12, .ref qf13])), (qf6, .inl (cf6, 256, .inl f6))] sz)) 0 0 (va_A [(h0, .inr (3, [.ref qf0, .int v1, .int v2, .int v3, .ref qf4, .ref qf5, .ref qf6, .int v7, .int v8, .int v9, .int v10, .ref qf11, .int v12, .ref qf13])), (qf6, .inl (cf6, 256, .inl f6))] sz) := by
  refine Met.ofW (cc := cX3_textEnd) (maxL := 2) (ret := (some .int)) (by decide) rfl ?_
  intro p e s m args below meth c s₁ B hml hv
  obtain ⟨rfl, hsz, hP, hK, hD0⟩ := hv
  have hx := B.exec
  have hb := B.bytes
  have hr := B.returns
  have hts := atoms_spec (ws := (.code yX3_textEnd cX3_textEnd 2 (some .int) :: VS_h1)) B.pre
  replace hts := fun w (h : w ∈ VS_h1) => hts w (List.mem_cons_of_mem _ h)
  have hown : s.vm.findClass RX3 = some m.cls := findClass_of_methodNamed B.named
  have hlocks := B.notSynchronized
  subst hsz
  have hD := hD0.self (sz := s.heap.size)
  generalize hAe : va_A [(h0, .inr (3, [.ref qf0, .int v1, .int v2, .int v3, .ref qf4, .ref qf5, .ref qf6, .int v7, .int v8, .int v9, .int v10, .ref qf11, .int v12, .ref qf13])), (qf6, .inl (cf6, 256, .inl f6))] s.heap.size = A at hD  ⊢
  have hA : ∀ q : Nat, s.heap.size ≤ q → A q := fun q h => by rw [← hAe]; exact Or.inr h
  have hP : va_P (dC, dI) vwCl [(h0, .inr (3, [.ref qf0, .int v1, .int v2, .int v3, .ref qf4, .ref qf5, .ref qf6, .int v7, .int v8, .int v9, .int v10, .ref qf11, .int v12, .ref qf13])), (qf6, .inl (cf6, 256, .inl f6))] s.heap := hP
  have hl := lv_entry ([.ref h0, .int a1]) (n := 2) (Nat.le_of_ble_eq_true rfl)
  rw [lg_entry_eq]
  generalize (lg_sl ([.ref h0, .int a1]) ++ List.replicate (2 - (lg_sl ([.ref h0, .int a1])).length) Slot.unset).toArray = ls at hl ⊢
  have hl : lv_has ls 2 [(0, .ref h0), (1, .int a1)] := hl
  obtain ⟨H, hH⟩ : ∃ H : Heap, s.heap = H := ⟨_, rfl⟩
  rw [hH] at hP ⊢
  have hS : va_S A s.heap H [] := by rw [← hH]; exact va_S.rf
  obtain ⟨locs, hlo⟩ : ∃ locs : List Loc, locs = [] := ⟨_, rfl⟩
  rw [← hlo] at hS ⊢
  refine lv_iload_n hx hb dX3_textEnd_0 rfl (lv_at hl 1 rfl) ?_
  refine lv_iconst (v := 1) hx hb dX3_textEnd_1 (by decide) ?_
  refine lv_icmp_lt (tgt := 31) hx hb dX3_textEnd_2 (by decide) (fun c_1 => ?_) (fun c_1 => ?_)
  · have c_1_ := c_1
    refine lv_iconst (v := 0) hx hb dX3_textEnd_31 (by decide) ?_
    have hP9 := hP.sub (ws' := [(h0, .inr (3, [.ref qf0, .int v1, .int v2, .int v3, .ref qf4, .ref qf5, .ref qf6, .int v7, .int v8, .int v9, .int v10, .ref qf11, .int v12, .ref qf13])), (qf6, .inl (cf6, 256, .inl f6))]) [0, 1] rfl
    have hD9 := hD.sub (ws' := [(h0, .inr (3, [.ref qf0, .int v1, .int v2, .int v3, .ref qf4, .ref qf5, .ref qf6, .int v7, .int v8, .int v9, .int v10, .ref qf11, .int v12, .ref qf13])), (qf6, .inl (cf6, 256, .inl f6))]) [0, 1] (by decide) rfl
    have hK9 := hK.sub (tys' := [(cf6, .int)]) [0] rfl
    exact W.iret hx hb hr (fun t ht hW => ⟨⟨(0), (), rfl, by unfold sp_si_textEnd; rw [if_pos c_1], by rw [ht]; exact hP9, va_K.moved hW.alike hK9, hD9⟩, hS.F ht⟩) hS.2.2 dX3_textEnd_32
  · have c_1_ := c_1
    refine lv_iload_n hx hb dX3_textEnd_5 rfl (lv_at hl 1 rfl) ?_
    refine lv_aload_n hx hb dX3_textEnd_6 rfl (lv_at hl 0 rfl) ?_
    refine va_get (D := (dC, dI)) (ci := 3) (v := .int v7) (C := RX3) (T := TX3) (N := 14) hx hb hts uV_h1_X3 hown hK hP 0 rfl rfl 7 (by decide) (hts (.fieldLink RX3 90 "ClassMill$Image" "constants" "I") mw_h1_8) (fun _ h9 => h9) rfl dX3_textEnd_7 ?_
    refine lv_icmp_gt (tgt := 31) hx hb dX3_textEnd_10 (by decide) (fun c_2 => ?_) (fun c_2 => ?_)
    · have c_2_ := c_2
      refine lv_iconst (v := 0) hx hb dX3_textEnd_31 (by decide) ?_
      have hP9 := hP.sub (ws' := [(h0, .inr (3, [.ref qf0, .int v1, .int v2, .int v3, .ref qf4, .ref qf5, .ref qf6, .int v7, .int v8, .int v9, .int v10, .ref qf11, .int v12, .ref qf13])), (qf6, .inl (cf6, 256, .inl f6))]) [0, 1] rfl
      have hD9 := hD.sub (ws' := [(h0, .inr (3, [.ref qf0, .int v1, .int v2, .int v3, .ref qf4, .ref qf5, .ref qf6, .int v7, .int v8, .int v9, .int v10, .ref qf11, .int v12, .ref qf13])), (qf6, .inl (cf6, 256, .inl f6))]) [0, 1] (by decide) rfl
      have hK9 := hK.sub (tys' := [(cf6, .int)]) [0] rfl
      exact W.iret hx hb hr (fun t ht hW => ⟨⟨(0), (), rfl, by unfold sp_si_textEnd; rw [if_neg c_1, if_pos c_2], by rw [ht]; exact hP9, va_K.moved hW.alike hK9, hD9⟩, hS.F ht⟩) hS.2.2 dX3_textEnd_32
    · have c_2_ := c_2
      refine lv_iload_n hx hb dX3_textEnd_13 rfl (lv_at hl 1 rfl) ?_
      refine lv_aload_n hx hb dX3_textEnd_14 rfl (lv_at hl 0 rfl) ?_
      refine va_get (D := (dC, dI)) (ci := 3) (v := .ref qf6) (C := RX3) (T := TX3) (N := 14) hx hb hts uV_h1_X3 hown hK hP 0 rfl rfl 6 (by decide) (hts (.fieldLink RX3 22 "ClassMill$Image" "textStop" "[I") mw_h1_11) (fun _ h9 => h9) rfl dX3_textEnd_15 ?_
      refine va_alen (v := 256) hx hb hK hP 1 0 rfl rfl rfl dX3_textEnd_18 ?_
      refine lv_icmp_ge (tgt := 31) hx hb dX3_textEnd_19 (by decide) (fun c_3 => ?_) (fun c_3 => ?_)
      · have c_3_ := c_3
        refine lv_iconst (v := 0) hx hb dX3_textEnd_31 (by decide) ?_
        have hP9 := hP.sub (ws' := [(h0, .inr (3, [.ref qf0, .int v1, .int v2, .int v3, .ref qf4, .ref qf5, .ref qf6, .int v7, .int v8, .int v9, .int v10, .ref qf11, .int v12, .ref qf13])), (qf6, .inl (cf6, 256, .inl f6))]) [0, 1] rfl
        have hD9 := hD.sub (ws' := [(h0, .inr (3, [.ref qf0, .int v1, .int v2, .int v3, .ref qf4, .ref qf5, .ref qf6, .int v7, .int v8, .int v9, .int v10, .ref qf11, .int v12, .ref qf13])), (qf6, .inl (cf6, 256, .inl f6))]) [0, 1] (by decide) rfl
        have hK9 := hK.sub (tys' := [(cf6, .int)]) [0] rfl
        exact W.iret hx hb hr (fun t ht hW => ⟨⟨(0), (), rfl, by unfold sp_si_textEnd; rw [if_neg c_1, if_neg c_2, if_pos c_3], by rw [ht]; exact hP9, va_K.moved hW.alike hK9, hD9⟩, hS.F ht⟩) hS.2.2 dX3_textEnd_32
      · have c_3_ := c_3
        refine lv_aload_n hx hb dX3_textEnd_22 rfl (lv_at hl 0 rfl) ?_
        refine va_get (D := (dC, dI)) (ci := 3) (v := .ref qf6) (C := RX3) (T := TX3) (N := 14) hx hb hts uV_h1_X3 hown hK hP 0 rfl rfl 6 (by decide) (hts (.fieldLink RX3 22 "ClassMill$Image" "textStop" "[I") mw_h1_11) (fun _ h9 => h9) rfl dX3_textEnd_23 ?_
        refine lv_iload_n hx hb dX3_textEnd_26 rfl (lv_at hl 1 rfl) ?_
        refine va_iald hx hb hK hP 1 0 rfl rfl (i := a1) (ix_si_textEnd_5 a1 v7 c_1 c_2 c_3) dX3_textEnd_27 ?_
        refine lv_goto (tgt := 32) hx hb dX3_textEnd_28 (by decide) ?_
        have hP9 := hP.sub (ws' := [(h0, .inr (3, [.ref qf0, .int v1, .int v2, .int v3, .ref qf4, .ref qf5, .ref qf6, .int v7, .int v8, .int v9, .int v10, .ref qf11, .int v12, .ref qf13])), (qf6, .inl (cf6, 256, .inl f6))]) [0, 1] rfl
        have hD9 := hD.sub (ws' := [(h0, .inr (3, [.ref qf0, .int v1, .int v2, .int v3, .ref qf4, .ref qf5, .ref qf6, .int v7, .int v8, .int v9, .int v10, .ref qf11, .int v12, .ref qf13])), (qf6, .inl (cf6, 256, .inl f6))]) [0, 1] (by decide) rfl
        have hK9 := hK.sub (tys' := [(cf6, .int)]) [0] rfl
        exact W.iret hx hb hr (fun t ht hW => ⟨⟨((f6 (a1 : Int32).toNatClampNeg)), (), rfl, by unfold sp_si_textEnd; rw [if_neg c_1, if_neg c_2, if_neg c_3], by rw [ht]; exact hP9, va_K.moved hW.alike hK9, hD9⟩, hS.F ht⟩) hS.2.2 dX3_textEnd_32
theorem ix_si_next_6 (v2 : Int32) (nb : Nat) (v1 : Int32) (c_1 : v2 < v1) (hnb : v1.toInt ≤ (nb : Int)) (hp : 0 ≤ v2.toInt) : vp_in ((v2 + 1) - 1) nb := by
  simp only [Int32.lt_iff_toInt_lt, Int32.le_iff_toInt_le, show (0 : Int32).toInt = 0 from rfl] at *
  have hl_v2 := Int32.toInt_lt v2
  have hg_v2 := Int32.le_toInt v2
  have hl_v1 := Int32.toInt_lt v1
  have hg_v1 := Int32.le_toInt v1
  have hn0 : (1 : Int32).toInt = 1 := rfl
  have hx0 := i32_add (a := v2) (b := 1) (by rw [hn0]; omega) (by rw [hn0]; omega)
  rw [hn0] at hx0
  have hx1 := i32_sub (a := (v2 + 1)) (b := 1) (by rw [hn0]; omega) (by rw [hn0]; omega)
  rw [hn0] at hx1
  exact ix_int (by omega) (by omega)
def sp_si_next (v1 : Int32) (v2 : Int32) (v3 : Int32) (f0 : Nat → Int32) : Int32 × Int32 × Int32 := (if v2 < v1 then (((f0 (((v2 + 1) - 1) : Int32).toNatClampNeg) &&& 255), (v2 + 1), v3) else (if v3 = (-1) then (0, v2, v1) else (0, v2, v3)))
set_option maxHeartbeats 4000000 in
set_option maxRecDepth 100000 in
/-- ClassMill$Image.next -/
theorem si_next (l : Launch) (dC : Nat → ClassId) (dI : Nat → Nat → Nat) (sz : Nat) (h0 : Nat) (qf0 : Nat) (v1 : Int32) (v2 : Int32) (v3 : Int32) (qf4 : Nat) (qf5 : Nat) (qf6 : Nat) (v7 : Int32) (v8 : Int32) (v9 : Int32) (v10 : Int32) (qf11 : Nat) (v12 : Int32) (qf13 : Nat) (cf0 : ClassId) (nb : Nat) (f0 : (Nat → Int32)) (hnb : v1.toInt ≤ (nb : Int)) (hp : 0 ≤ v2.toInt) : Met l yX3_next (.code yX3_next cX3_next 1 (some .int) :: VS_h1) ({ frames := 0, cells := 0, slots := 0, locals := 0 }) (va_Pc [.ref h0] (fun U => U.heap.size = sz ∧ va_P (dC, dI) vwCl [(h0, .inr (3, [.ref qf0, .int v1, .int v2, .int v3, .ref qf4, .ref qf5, .ref qf6, .int v7, .int v8, .int v9, .int v10, .ref qf11, .int v12, .ref qf13])), (qf0, .inl (cf0, nb, .inl f0))] U.heap ∧ va_K (dC, dI) vwCl [(cf0, .byte)] U ∧ va_D (fun _ => True) [(h0, .inr (3, [.ref qf0, .int v1, .int v2, .int v3, .ref qf4, .ref qf5, .ref qf6, .int v7, .int v8, .int v9, .int v10, .ref qf11, .int v12, .ref qf13])), (qf0, .inl (cf0, nb, .inl f0))])) (va_Qi (fun (r : Int32) (u : Int32 × Int32) => match u with | (yo1, yo2) => (r, yo1, yo2) = sp_si_next v1 v2 v3 f0) (fun (u : Int32 × Int32) (t : State) => match u with | (yo1, yo2) => va_P (dC, dI) vwCl [(h0, .inr (3, [.ref qf0, .int v1, .int yo1, .int yo2, .ref qf4, .ref qf5, .ref qf6, .int v7, .int v8, .int v9, .int v10, .ref qf11, .int v12, .ref qf13])), (qf0, .inl (cf0, nb, .inl f0))] t.heap ∧ va_K (dC, dI) vwCl [(cf0, .byte)] t ∧ va_D (va_A [(h0, .inr (3, [.ref qf0, .int v1, .int v2, .int v3, .ref qf4, .ref qf5, .ref qf6, .int v7, .int v8, .int v9, .int v10, .ref qf11, .int v12, .ref qf13])), (qf0, .inl (cf0, nb, .inl f0))] sz) [(h0, .inr (3, [.ref qf0, .int v1, .int yo1, .int yo2, .ref qf4, .ref qf5, .ref qf6, .int v7, .int v8, .int v9, .int v10, .ref qf11, .int v12, .ref qf13])), (qf0, .inl (cf0, nb, .inl f0))]) (va_A [(h0, .inr (3, [.ref qf0, .int v1, .int v2, .int v3, .ref qf4, .ref qf5, .ref qf6, .int v7, .int v8, .int v9, .int v10, .ref qf11, .int v12, .ref qf13])), (qf0, .inl (cf0, nb, .inl f0))] sz)) 0 0 (va_A [(h0, .inr (3, [.ref qf0, .int v1, .int v2, .int v3, .ref qf4, .ref qf5, .ref qf6, .int v7, .int v8, .int v9, .int v10, .ref qf11, .int v12, .ref qf13])), (qf0, .inl (cf0, nb, .inl f0))] sz) := by
  refine Met.ofW (cc := cX3_next) (maxL := 1) (ret := (some .int)) (by decide) rfl ?_
  intro p e s m args below meth c s₁ B hml hv
  obtain ⟨rfl, hsz, hP, hK, hD0⟩ := hv
  have hx := B.exec
  have hb := B.bytes
  have hr := B.returns
  have hts := atoms_spec (ws := (.code yX3_next cX3_next 1 (some .int) :: VS_h1)) B.pre
  replace hts := fun w (h : w ∈ VS_h1) => hts w (List.mem_cons_of_mem _ h)
  have hown : s.vm.findClass RX3 = some m.cls := findClass_of_methodNamed B.named
  have hlocks := B.notSynchronized
  subst hsz
  have hD := hD0.self (sz := s.heap.size)
  generalize hAe : va_A [(h0, .inr (3, [.ref qf0, .int v1, .int v2, .int v3, .ref qf4, .ref qf5, .ref qf6, .int v7, .int v8, .int v9, .int v10, .ref qf11, .int v12, .ref qf13])), (qf0, .inl (cf0, nb, .inl f0))] s.heap.size = A at hD  ⊢
  have hA : ∀ q : Nat, s.heap.size ≤ q → A q := fun q h => by rw [← hAe]; exact Or.inr h
  have hP : va_P (dC, dI) vwCl [(h0, .inr (3, [.ref qf0, .int v1, .int v2, .int v3, .ref qf4, .ref qf5, .ref qf6, .int v7, .int v8, .int v9, .int v10, .ref qf11, .int v12, .ref qf13])), (qf0, .inl (cf0, nb, .inl f0))] s.heap := hP
  have hl := lv_entry ([.ref h0]) (n := 1) (Nat.le_of_ble_eq_true rfl)
  rw [lg_entry_eq]
  generalize (lg_sl ([.ref h0]) ++ List.replicate (1 - (lg_sl ([.ref h0])).length) Slot.unset).toArray = ls at hl ⊢
  have hl : lv_has ls 1 [(0, .ref h0)] := hl
  obtain ⟨H, hH⟩ : ∃ H : Heap, s.heap = H := ⟨_, rfl⟩
  rw [hH] at hP ⊢
  have hS : va_S A s.heap H [] := by rw [← hH]; exact va_S.rf
  obtain ⟨locs, hlo⟩ : ∃ locs : List Loc, locs = [] := ⟨_, rfl⟩
  rw [← hlo] at hS ⊢
  refine lv_aload_n hx hb dX3_next_0 rfl (lv_at hl 0 rfl) ?_
  refine va_get (D := (dC, dI)) (ci := 3) (v := .int v2) (C := RX3) (T := TX3) (N := 14) hx hb hts uV_h1_X3 hown hK hP 0 rfl rfl 2 (by decide) (hts (.fieldLink RX3 43 "ClassMill$Image" "pos" "I") mw_h1_12) (fun _ h9 => h9) rfl dX3_next_1 ?_
  refine lv_aload_n hx hb dX3_next_4 rfl (lv_at hl 0 rfl) ?_
  refine va_get (D := (dC, dI)) (ci := 3) (v := .int v1) (C := RX3) (T := TX3) (N := 14) hx hb hts uV_h1_X3 hown hK hP 0 rfl rfl 1 (by decide) (hts (.fieldLink RX3 39 "ClassMill$Image" "size" "I") mw_h1_6) (fun _ h9 => h9) rfl dX3_next_5 ?_
  refine lv_icmp_lt (tgt := 36) hx hb dX3_next_8 (by decide) (fun c_1 => ?_) (fun c_1 => ?_)
  · have c_1_ := c_1
    refine lv_aload_n hx hb dX3_next_36 rfl (lv_at hl 0 rfl) ?_
    refine lv_dup hx hb dX3_next_37 rfl ?_
    refine va_get (D := (dC, dI)) (ci := 3) (v := .int v2) (C := RX3) (T := TX3) (N := 14) hx hb hts uV_h1_X3 hown hK hP 0 rfl rfl 2 (by decide) (hts (.fieldLink RX3 43 "ClassMill$Image" "pos" "I") mw_h1_12) (fun _ h9 => h9) rfl dX3_next_38 ?_
    refine lv_iconst (v := 1) hx hb dX3_next_41 (by decide) ?_
    refine lv_iadd hx hb dX3_next_42 ?_
    refine va_put (D := (dC, dI)) (ci := 3) (v := .int (v2 + 1)) (ty := .int) (C := RX3) (T := TX3) (N := 14) hx hb hts uV_h1_X3 tyX3 tyX3_ok nmX3 hown hK hP hD hS 0 rfl rfl 2 (by decide) (hts (.fieldLink RX3 43 "ClassMill$Image" "pos" "I") mw_h1_12) (fun _ h9 => h9) rfl (by decide +kernel) rfl rfl (Nat.le_of_ble_eq_true rfl) dX3_next_43 ?_
    clear hP hD hS
    intro H locs hP hD hS
    replace hP : va_P (dC, dI) vwCl [(h0, .inr (3, [.ref qf0, .int v1, .int (v2 + 1), .int v3, .ref qf4, .ref qf5, .ref qf6, .int v7, .int v8, .int v9, .int v10, .ref qf11, .int v12, .ref qf13])), (qf0, .inl (cf0, nb, .inl f0))] H := hP
    replace hD : va_D A [(h0, .inr (3, [.ref qf0, .int v1, .int (v2 + 1), .int v3, .ref qf4, .ref qf5, .ref qf6, .int v7, .int v8, .int v9, .int v10, .ref qf11, .int v12, .ref qf13])), (qf0, .inl (cf0, nb, .inl f0))] := hD
    refine lv_aload_n hx hb dX3_next_46 rfl (lv_at hl 0 rfl) ?_
    refine va_get (D := (dC, dI)) (ci := 3) (v := .ref qf0) (C := RX3) (T := TX3) (N := 14) hx hb hts uV_h1_X3 hown hK hP 0 rfl rfl 0 (by decide) (hts (.fieldLink RX3 9 "ClassMill$Image" "bytes" "[B") mw_h1_7) (fun _ h9 => h9) rfl dX3_next_47 ?_
    refine lv_aload_n hx hb dX3_next_50 rfl (lv_at hl 0 rfl) ?_
    refine va_get (D := (dC, dI)) (ci := 3) (v := .int (v2 + 1)) (C := RX3) (T := TX3) (N := 14) hx hb hts uV_h1_X3 hown hK hP 0 rfl rfl 2 (by decide) (hts (.fieldLink RX3 43 "ClassMill$Image" "pos" "I") mw_h1_12) (fun _ h9 => h9) rfl dX3_next_51 ?_
    refine lv_iconst (v := 1) hx hb dX3_next_54 (by decide) ?_
    refine lv_isub hx hb dX3_next_55 ?_
    refine va_bald hx hb hK hP 1 0 rfl rfl (i := ((v2 + 1) - 1)) (ix_si_next_6 v2 nb v1 c_1 hnb hp) dX3_next_56 ?_
    refine lv_sipush (v := 255) hx hb dX3_next_57 (by decide) ?_
    refine lv_iand hx hb dX3_next_60 ?_
    obtain ⟨y_o2_0, ey_o2_0⟩ : ∃ z : Int32, z = (v2 + 1) := ⟨_, rfl⟩
    replace hP : va_P (dC, dI) vwCl [(h0, .inr (3, [.ref qf0, .int v1, .int y_o2_0, .int v3, .ref qf4, .ref qf5, .ref qf6, .int v7, .int v8, .int v9, .int v10, .ref qf11, .int v12, .ref qf13])), (qf0, .inl (cf0, nb, .inl f0))] H := by rw [ey_o2_0]; exact hP
    replace hD : va_D A [(h0, .inr (3, [.ref qf0, .int v1, .int y_o2_0, .int v3, .ref qf4, .ref qf5, .ref qf6, .int v7, .int v8, .int v9, .int v10, .ref qf11, .int v12, .ref qf13])), (qf0, .inl (cf0, nb, .inl f0))] := by rw [ey_o2_0]; exact hD
    obtain ⟨y_o3_0, ey_o3_0⟩ : ∃ z : Int32, z = v3 := ⟨_, rfl⟩
    replace hP : va_P (dC, dI) vwCl [(h0, .inr (3, [.ref qf0, .int v1, .int y_o2_0, .int y_o3_0, .ref qf4, .ref qf5, .ref qf6, .int v7, .int v8, .int v9, .int v10, .ref qf11, .int v12, .ref qf13])), (qf0, .inl (cf0, nb, .inl f0))] H := by rw [ey_o3_0]; exact hP
    replace hD : va_D A [(h0, .inr (3, [.ref qf0, .int v1, .int y_o2_0, .int y_o3_0, .ref qf4, .ref qf5, .ref qf6, .int v7, .int v8, .int v9, .int v10, .ref qf11, .int v12, .ref qf13])), (qf0, .inl (cf0, nb, .inl f0))] := by rw [ey_o3_0]; exact hD
    have hP9 := hP.sub (ws' := [(h0, .inr (3, [.ref qf0, .int v1, .int y_o2_0, .int y_o3_0, .ref qf4, .ref qf5, .ref qf6, .int v7, .int v8, .int v9, .int v10, .ref qf11, .int v12, .ref qf13])), (qf0, .inl (cf0, nb, .inl f0))]) [0, 1] rfl
    have hD9 := hD.sub (ws' := [(h0, .inr (3, [.ref qf0, .int v1, .int y_o2_0, .int y_o3_0, .ref qf4, .ref qf5, .ref qf6, .int v7, .int v8, .int v9, .int v10, .ref qf11, .int v12, .ref qf13])), (qf0, .inl (cf0, nb, .inl f0))]) [0, 1] (by decide) rfl
    have hK9 := hK.sub (tys' := [(cf0, .byte)]) [0] rfl
    exact W.iret hx hb hr (fun t ht hW => ⟨⟨(((f0 (((v2 + 1) - 1) : Int32).toNatClampNeg) &&& 255)), (y_o2_0, y_o3_0), rfl, by rw [ey_o2_0, ey_o3_0]; unfold sp_si_next; rw [if_pos c_1], by rw [ht]; exact hP9, va_K.moved hW.alike hK9, hD9⟩, hS.F ht⟩) hS.2.2 dX3_next_61
  · have c_1_ := c_1
    refine lv_aload_n hx hb dX3_next_11 rfl (lv_at hl 0 rfl) ?_
    refine lv_aload_n hx hb dX3_next_12 rfl (lv_at hl 0 rfl) ?_
    refine va_get (D := (dC, dI)) (ci := 3) (v := .int v3) (C := RX3) (T := TX3) (N := 14) hx hb hts uV_h1_X3 hown hK hP 0 rfl rfl 3 (by decide) (hts (.fieldLink RX3 46 "ClassMill$Image" "form" "I") mw_h1_5) (fun _ h9 => h9) rfl dX3_next_13 ?_
    refine lv_iconst (v := (-1)) hx hb dX3_next_16 (by decide) ?_
    refine lv_icmp_ne (tgt := 27) hx hb dX3_next_17 (by decide) (fun c_2 => ?_) (fun c_2 => ?_)
    · have c_2_ := c_2
      refine lv_aload_n hx hb dX3_next_27 rfl (lv_at hl 0 rfl) ?_
      refine va_get (D := (dC, dI)) (ci := 3) (v := .int v3) (C := RX3) (T := TX3) (N := 14) hx hb hts uV_h1_X3 hown hK hP 0 rfl rfl 3 (by decide) (hts (.fieldLink RX3 46 "ClassMill$Image" "form" "I") mw_h1_5) (fun _ h9 => h9) rfl dX3_next_28 ?_
      refine va_put (D := (dC, dI)) (ci := 3) (v := .int v3) (ty := .int) (C := RX3) (T := TX3) (N := 14) hx hb hts uV_h1_X3 tyX3 tyX3_ok nmX3 hown hK hP hD hS 0 rfl rfl 3 (by decide) (hts (.fieldLink RX3 46 "ClassMill$Image" "form" "I") mw_h1_5) (fun _ h9 => h9) rfl (by decide +kernel) rfl rfl (Nat.le_of_ble_eq_true rfl) dX3_next_31 ?_
      clear hP hD hS
      intro H locs hP hD hS
      replace hP : va_P (dC, dI) vwCl [(h0, .inr (3, [.ref qf0, .int v1, .int v2, .int v3, .ref qf4, .ref qf5, .ref qf6, .int v7, .int v8, .int v9, .int v10, .ref qf11, .int v12, .ref qf13])), (qf0, .inl (cf0, nb, .inl f0))] H := hP
      replace hD : va_D A [(h0, .inr (3, [.ref qf0, .int v1, .int v2, .int v3, .ref qf4, .ref qf5, .ref qf6, .int v7, .int v8, .int v9, .int v10, .ref qf11, .int v12, .ref qf13])), (qf0, .inl (cf0, nb, .inl f0))] := hD
      refine lv_iconst (v := 0) hx hb dX3_next_34 (by decide) ?_
      obtain ⟨y_o2_1, ey_o2_1⟩ : ∃ z : Int32, z = v2 := ⟨_, rfl⟩
      replace hP : va_P (dC, dI) vwCl [(h0, .inr (3, [.ref qf0, .int v1, .int y_o2_1, .int v3, .ref qf4, .ref qf5, .ref qf6, .int v7, .int v8, .int v9, .int v10, .ref qf11, .int v12, .ref qf13])), (qf0, .inl (cf0, nb, .inl f0))] H := by rw [ey_o2_1]; exact hP
      replace hD : va_D A [(h0, .inr (3, [.ref qf0, .int v1, .int y_o2_1, .int v3, .ref qf4, .ref qf5, .ref qf6, .int v7, .int v8, .int v9, .int v10, .ref qf11, .int v12, .ref qf13])), (qf0, .inl (cf0, nb, .inl f0))] := by rw [ey_o2_1]; exact hD
      obtain ⟨y_o3_1, ey_o3_1⟩ : ∃ z : Int32, z = v3 := ⟨_, rfl⟩
      replace hP : va_P (dC, dI) vwCl [(h0, .inr (3, [.ref qf0, .int v1, .int y_o2_1, .int y_o3_1, .ref qf4, .ref qf5, .ref qf6, .int v7, .int v8, .int v9, .int v10, .ref qf11, .int v12, .ref qf13])), (qf0, .inl (cf0, nb, .inl f0))] H := by rw [ey_o3_1]; exact hP
      replace hD : va_D A [(h0, .inr (3, [.ref qf0, .int v1, .int y_o2_1, .int y_o3_1, .ref qf4, .ref qf5, .ref qf6, .int v7, .int v8, .int v9, .int v10, .ref qf11, .int v12, .ref qf13])), (qf0, .inl (cf0, nb, .inl f0))] := by rw [ey_o3_1]; exact hD
      have hP9 := hP.sub (ws' := [(h0, .inr (3, [.ref qf0, .int v1, .int y_o2_1, .int y_o3_1, .ref qf4, .ref qf5, .ref qf6, .int v7, .int v8, .int v9, .int v10, .ref qf11, .int v12, .ref qf13])), (qf0, .inl (cf0, nb, .inl f0))]) [0, 1] rfl
      have hD9 := hD.sub (ws' := [(h0, .inr (3, [.ref qf0, .int v1, .int y_o2_1, .int y_o3_1, .ref qf4, .ref qf5, .ref qf6, .int v7, .int v8, .int v9, .int v10, .ref qf11, .int v12, .ref qf13])), (qf0, .inl (cf0, nb, .inl f0))]) [0, 1] (by decide) rfl
      have hK9 := hK.sub (tys' := [(cf0, .byte)]) [0] rfl
      exact W.iret hx hb hr (fun t ht hW => ⟨⟨(0), (y_o2_1, y_o3_1), rfl, by rw [ey_o2_1, ey_o3_1]; unfold sp_si_next; rw [if_neg c_1, if_neg c_2], by rw [ht]; exact hP9, va_K.moved hW.alike hK9, hD9⟩, hS.F ht⟩) hS.2.2 dX3_next_35
    · have c_2_ := c_2
      refine lv_aload_n hx hb dX3_next_20 rfl (lv_at hl 0 rfl) ?_
      refine va_get (D := (dC, dI)) (ci := 3) (v := .int v1) (C := RX3) (T := TX3) (N := 14) hx hb hts uV_h1_X3 hown hK hP 0 rfl rfl 1 (by decide) (hts (.fieldLink RX3 39 "ClassMill$Image" "size" "I") mw_h1_6) (fun _ h9 => h9) rfl dX3_next_21 ?_
      refine lv_goto (tgt := 31) hx hb dX3_next_24 (by decide) ?_
      refine va_put (D := (dC, dI)) (ci := 3) (v := .int v1) (ty := .int) (C := RX3) (T := TX3) (N := 14) hx hb hts uV_h1_X3 tyX3 tyX3_ok nmX3 hown hK hP hD hS 0 rfl rfl 3 (by decide) (hts (.fieldLink RX3 46 "ClassMill$Image" "form" "I") mw_h1_5) (fun _ h9 => h9) rfl (by decide +kernel) rfl rfl (Nat.le_of_ble_eq_true rfl) dX3_next_31 ?_
      clear hP hD hS
      intro H locs hP hD hS
      replace hP : va_P (dC, dI) vwCl [(h0, .inr (3, [.ref qf0, .int v1, .int v2, .int v1, .ref qf4, .ref qf5, .ref qf6, .int v7, .int v8, .int v9, .int v10, .ref qf11, .int v12, .ref qf13])), (qf0, .inl (cf0, nb, .inl f0))] H := hP
      replace hD : va_D A [(h0, .inr (3, [.ref qf0, .int v1, .int v2, .int v1, .ref qf4, .ref qf5, .ref qf6, .int v7, .int v8, .int v9, .int v10, .ref qf11, .int v12, .ref qf13])), (qf0, .inl (cf0, nb, .inl f0))] := hD
      refine lv_iconst (v := 0) hx hb dX3_next_34 (by decide) ?_
      obtain ⟨y_o2_2, ey_o2_2⟩ : ∃ z : Int32, z = v2 := ⟨_, rfl⟩
      replace hP : va_P (dC, dI) vwCl [(h0, .inr (3, [.ref qf0, .int v1, .int y_o2_2, .int v1, .ref qf4, .ref qf5, .ref qf6, .int v7, .int v8, .int v9, .int v10, .ref qf11, .int v12, .ref qf13])), (qf0, .inl (cf0, nb, .inl f0))] H := by rw [ey_o2_2]; exact hP
      replace hD : va_D A [(h0, .inr (3, [.ref qf0, .int v1, .int y_o2_2, .int v1, .ref qf4, .ref qf5, .ref qf6, .int v7, .int v8, .int v9, .int v10, .ref qf11, .int v12, .ref qf13])), (qf0, .inl (cf0, nb, .inl f0))] := by rw [ey_o2_2]; exact hD
      obtain ⟨y_o3_2, ey_o3_2⟩ : ∃ z : Int32, z = v1 := ⟨_, rfl⟩
      replace hP : va_P (dC, dI) vwCl [(h0, .inr (3, [.ref qf0, .int v1, .int y_o2_2, .int y_o3_2, .ref qf4, .ref qf5, .ref qf6, .int v7, .int v8, .int v9, .int v10, .ref qf11, .int v12, .ref qf13])), (qf0, .inl (cf0, nb, .inl f0))] H := by rw [ey_o3_2]; exact hP
      replace hD : va_D A [(h0, .inr (3, [.ref qf0, .int v1, .int y_o2_2, .int y_o3_2, .ref qf4, .ref qf5, .ref qf6, .int v7, .int v8, .int v9, .int v10, .ref qf11, .int v12, .ref qf13])), (qf0, .inl (cf0, nb, .inl f0))] := by rw [ey_o3_2]; exact hD
      have hP9 := hP.sub (ws' := [(h0, .inr (3, [.ref qf0, .int v1, .int y_o2_2, .int y_o3_2, .ref qf4, .ref qf5, .ref qf6, .int v7, .int v8, .int v9, .int v10, .ref qf11, .int v12, .ref qf13])), (qf0, .inl (cf0, nb, .inl f0))]) [0, 1] rfl
      have hD9 := hD.sub (ws' := [(h0, .inr (3, [.ref qf0, .int v1, .int y_o2_2, .int y_o3_2, .ref qf4, .ref qf5, .ref qf6, .int v7, .int v8, .int v9, .int v10, .ref qf11, .int v12, .ref qf13])), (qf0, .inl (cf0, nb, .inl f0))]) [0, 1] (by decide) rfl
      have hK9 := hK.sub (tys' := [(cf0, .byte)]) [0] rfl
      exact W.iret hx hb hr (fun t ht hW => ⟨⟨(0), (y_o2_2, y_o3_2), rfl, by rw [ey_o2_2, ey_o3_2]; unfold sp_si_next; rw [if_neg c_1, if_pos c_2], by rw [ht]; exact hP9, va_K.moved hW.alike hK9, hD9⟩, hS.F ht⟩) hS.2.2 dX3_next_35
theorem ix_si_fieldName_7 (a1 : Int32) (v10 : Int32) (c_1 : ¬ a1 < 0) (c_2 : ¬ v10 ≤ a1) (hf12 : v10.toInt ≤ 12) : vp_in (a1 * 2) 24 := by
  simp only [Int32.lt_iff_toInt_lt, Int32.le_iff_toInt_le, show (0 : Int32).toInt = 0 from rfl, show (12 : Int32).toInt = 12 from rfl] at *
  have hl_a1 := Int32.toInt_lt a1
  have hg_a1 := Int32.le_toInt a1
  have hl_v10 := Int32.toInt_lt v10
  have hg_v10 := Int32.le_toInt v10
  have hn0 : (2 : Int32).toInt = 2 := rfl
  have hx0 := i32_mul (a := a1) (b := 2) (by rw [hn0]; omega) (by rw [hn0]; omega)
  rw [hn0] at hx0
  exact ix_int (by omega) (by omega)
def sp_si_fieldName (a1 : Int32) (v10 : Int32) (f11 : Nat → Int32) : Int32 := (if a1 < 0 then 0 else (if v10 ≤ a1 then 0 else (f11 ((a1 * 2) : Int32).toNatClampNeg)))
set_option maxHeartbeats 4000000 in
set_option maxRecDepth 100000 in
/-- ClassMill$Image.fieldName -/
theorem si_fieldName (l : Launch) (dC : Nat → ClassId) (dI : Nat → Nat → Nat) (sz : Nat) (h0 : Nat) (a1 : Int32) (qf0 : Nat) (v1 : Int32) (v2 : Int32) (v3 : Int32) (qf4 : Nat) (qf5 : Nat) (qf6 : Nat) (v7 : Int32) (v8 : Int32) (v9 : Int32) (v10 : Int32) (qf11 : Nat) (v12 : Int32) (qf13 : Nat) (cf11 : ClassId) (f11 : (Nat → Int32)) (hf12 : v10.toInt ≤ 12) : Met l yX3_fieldName (.code yX3_fieldName cX3_fieldName 2 (some .int) :: VS_h1) ({ frames := 0, cells := 0, slots := 0, locals := 0 }) (va_Pc [.ref h0, .int a1] (fun U => U.heap.size = sz ∧ va_P (dC, dI) vwCl [(h0, .inr (3, [.ref qf0, .int v1, .int v2, .int v3, .ref qf4, .ref qf5, .ref qf6, .int v7, .int v8, .int v9, .int v10, .ref qf11, .int v12, .ref qf13])), (qf11, .inl (cf11, 24, .inl f11))] U.heap ∧ va_K (dC, dI) vwCl [(cf11, .int)] U ∧ va_D (fun _ => True) [(h0, .inr (3, [.ref qf0, .int v1, .int v2, .int v3, .ref qf4, .ref qf5, .ref qf6, .int v7, .int v8, .int v9, .int v10, .ref qf11, .int v12, .ref qf13])), (qf11, .inl (cf11, 24, .inl f11))])) (va_Qi (fun (r : Int32) (u : Unit) => match u with | () => r = sp_si_fieldName a1 v10 f11) (fun (u : Unit) (t : State) => match u with | () => va_P (dC, dI) vwCl [(h0, .inr (3, [.ref qf0, .int v1, .int v2, .int v3, .ref qf4, .ref qf5, .ref qf6, .int v7, .int v8, .int v9, .int v10, .ref qf11, .int v12, .ref qf13])), (qf11, .inl (cf11, 24, .inl f11))] t.heap ∧ va_K (dC, dI) vwCl [(cf11, .int)] t ∧ va_D (va_A [(h0, .inr (3, [.ref qf0, .int v1, .int v2, .int v3, .ref qf4, .ref qf5, .ref qf6, .int v7, .int v8, .int v9, .int v10, .ref qf11, .int v12, .ref qf13])), (qf11, .inl (cf11, 24, .inl f11))] sz) [(h0, .inr (3, [.ref qf0, .int v1, .int v2, .int v3, .ref qf4, .ref qf5, .ref qf6, .int v7, .int v8, .int v9, .int v10, .ref qf11, .int v12, .ref qf13])), (qf11, .inl (cf11, 24, .inl f11))]) (va_A [(h0, .inr (3, [.ref qf0, .int v1, .int v2, .int v3, .ref qf4, .ref qf5, .ref qf6, .int v7, .int v8, .int v9, .int v10, .ref qf11, .int v12, .ref qf13])), (qf11, .inl (cf11, 24, .inl f11))] sz)) 0 0 (va_A [(h0, .inr (3, [.ref qf0, .int v1, .int v2, .int v3, .ref qf4, .ref qf5, .ref qf6, .int v7, .int v8, .int v9, .int v10, .ref qf11, .int v12, .ref qf13])), (qf11, .inl (cf11, 24, .inl f11))] sz) := by
  refine Met.ofW (cc := cX3_fieldName) (maxL := 2) (ret := (some .int)) (by decide) rfl ?_
  intro p e s m args below meth c s₁ B hml hv
  obtain ⟨rfl, hsz, hP, hK, hD0⟩ := hv
  have hx := B.exec
  have hb := B.bytes
  have hr := B.returns
  have hts := atoms_spec (ws := (.code yX3_fieldName cX3_fieldName 2 (some .int) :: VS_h1)) B.pre
  replace hts := fun w (h : w ∈ VS_h1) => hts w (List.mem_cons_of_mem _ h)
  have hown : s.vm.findClass RX3 = some m.cls := findClass_of_methodNamed B.named
  have hlocks := B.notSynchronized
  subst hsz
  have hD := hD0.self (sz := s.heap.size)
  generalize hAe : va_A [(h0, .inr (3, [.ref qf0, .int v1, .int v2, .int v3, .ref qf4, .ref qf5, .ref qf6, .int v7, .int v8, .int v9, .int v10, .ref qf11, .int v12, .ref qf13])), (qf11, .inl (cf11, 24, .inl f11))] s.heap.size = A at hD  ⊢
  have hA : ∀ q : Nat, s.heap.size ≤ q → A q := fun q h => by rw [← hAe]; exact Or.inr h
  have hP : va_P (dC, dI) vwCl [(h0, .inr (3, [.ref qf0, .int v1, .int v2, .int v3, .ref qf4, .ref qf5, .ref qf6, .int v7, .int v8, .int v9, .int v10, .ref qf11, .int v12, .ref qf13])), (qf11, .inl (cf11, 24, .inl f11))] s.heap := hP
  have hl := lv_entry ([.ref h0, .int a1]) (n := 2) (Nat.le_of_ble_eq_true rfl)
  rw [lg_entry_eq]
  generalize (lg_sl ([.ref h0, .int a1]) ++ List.replicate (2 - (lg_sl ([.ref h0, .int a1])).length) Slot.unset).toArray = ls at hl ⊢
  have hl : lv_has ls 2 [(0, .ref h0), (1, .int a1)] := hl
  obtain ⟨H, hH⟩ : ∃ H : Heap, s.heap = H := ⟨_, rfl⟩
  rw [hH] at hP ⊢
  have hS : va_S A s.heap H [] := by rw [← hH]; exact va_S.rf
  obtain ⟨locs, hlo⟩ : ∃ locs : List Loc, locs = [] := ⟨_, rfl⟩
  rw [← hlo] at hS ⊢
  refine lv_iload_n hx hb dX3_fieldName_0 rfl (lv_at hl 1 rfl) ?_
  refine lv_if_lt (tgt := 23) hx hb dX3_fieldName_1 (by decide) (fun c_1 => ?_) (fun c_1 => ?_)
  · have c_1_ := c_1
    refine lv_iconst (v := 0) hx hb dX3_fieldName_23 (by decide) ?_
    have hP9 := hP.sub (ws' := [(h0, .inr (3, [.ref qf0, .int v1, .int v2, .int v3, .ref qf4, .ref qf5, .ref qf6, .int v7, .int v8, .int v9, .int v10, .ref qf11, .int v12, .ref qf13])), (qf11, .inl (cf11, 24, .inl f11))]) [0, 1] rfl
    have hD9 := hD.sub (ws' := [(h0, .inr (3, [.ref qf0, .int v1, .int v2, .int v3, .ref qf4, .ref qf5, .ref qf6, .int v7, .int v8, .int v9, .int v10, .ref qf11, .int v12, .ref qf13])), (qf11, .inl (cf11, 24, .inl f11))]) [0, 1] (by decide) rfl
    have hK9 := hK.sub (tys' := [(cf11, .int)]) [0] rfl
    exact W.iret hx hb hr (fun t ht hW => ⟨⟨(0), (), rfl, by unfold sp_si_fieldName; rw [if_pos c_1], by rw [ht]; exact hP9, va_K.moved hW.alike hK9, hD9⟩, hS.F ht⟩) hS.2.2 dX3_fieldName_24
  · have c_1_ := c_1
    refine lv_iload_n hx hb dX3_fieldName_4 rfl (lv_at hl 1 rfl) ?_
    refine lv_aload_n hx hb dX3_fieldName_5 rfl (lv_at hl 0 rfl) ?_
    refine va_get (D := (dC, dI)) (ci := 3) (v := .int v10) (C := RX3) (T := TX3) (N := 14) hx hb hts uV_h1_X3 hown hK hP 0 rfl rfl 10 (by decide) (hts (.fieldLink RX3 49 "ClassMill$Image" "fields" "I") mw_h1_13) (fun _ h9 => h9) rfl dX3_fieldName_6 ?_
    refine lv_icmp_ge (tgt := 23) hx hb dX3_fieldName_9 (by decide) (fun c_2 => ?_) (fun c_2 => ?_)
    · have c_2_ := c_2
      refine lv_iconst (v := 0) hx hb dX3_fieldName_23 (by decide) ?_
      have hP9 := hP.sub (ws' := [(h0, .inr (3, [.ref qf0, .int v1, .int v2, .int v3, .ref qf4, .ref qf5, .ref qf6, .int v7, .int v8, .int v9, .int v10, .ref qf11, .int v12, .ref qf13])), (qf11, .inl (cf11, 24, .inl f11))]) [0, 1] rfl
      have hD9 := hD.sub (ws' := [(h0, .inr (3, [.ref qf0, .int v1, .int v2, .int v3, .ref qf4, .ref qf5, .ref qf6, .int v7, .int v8, .int v9, .int v10, .ref qf11, .int v12, .ref qf13])), (qf11, .inl (cf11, 24, .inl f11))]) [0, 1] (by decide) rfl
      have hK9 := hK.sub (tys' := [(cf11, .int)]) [0] rfl
      exact W.iret hx hb hr (fun t ht hW => ⟨⟨(0), (), rfl, by unfold sp_si_fieldName; rw [if_neg c_1, if_pos c_2], by rw [ht]; exact hP9, va_K.moved hW.alike hK9, hD9⟩, hS.F ht⟩) hS.2.2 dX3_fieldName_24
    · have c_2_ := c_2
      refine lv_aload_n hx hb dX3_fieldName_12 rfl (lv_at hl 0 rfl) ?_
      refine va_get (D := (dC, dI)) (ci := 3) (v := .ref qf11) (C := RX3) (T := TX3) (N := 14) hx hb hts uV_h1_X3 hown hK hP 0 rfl rfl 11 (by decide) (hts (.fieldLink RX3 27 "ClassMill$Image" "field" "[I") mw_h1_14) (fun _ h9 => h9) rfl dX3_fieldName_13 ?_
      refine lv_iload_n hx hb dX3_fieldName_16 rfl (lv_at hl 1 rfl) ?_
      refine lv_iconst (v := 2) hx hb dX3_fieldName_17 (by decide) ?_
      refine lv_imul hx hb dX3_fieldName_18 ?_
      refine va_iald hx hb hK hP 1 0 rfl rfl (i := (a1 * 2)) (ix_si_fieldName_7 a1 v10 c_1 c_2 hf12) dX3_fieldName_19 ?_
      refine lv_goto (tgt := 24) hx hb dX3_fieldName_20 (by decide) ?_
      have hP9 := hP.sub (ws' := [(h0, .inr (3, [.ref qf0, .int v1, .int v2, .int v3, .ref qf4, .ref qf5, .ref qf6, .int v7, .int v8, .int v9, .int v10, .ref qf11, .int v12, .ref qf13])), (qf11, .inl (cf11, 24, .inl f11))]) [0, 1] rfl
      have hD9 := hD.sub (ws' := [(h0, .inr (3, [.ref qf0, .int v1, .int v2, .int v3, .ref qf4, .ref qf5, .ref qf6, .int v7, .int v8, .int v9, .int v10, .ref qf11, .int v12, .ref qf13])), (qf11, .inl (cf11, 24, .inl f11))]) [0, 1] (by decide) rfl
      have hK9 := hK.sub (tys' := [(cf11, .int)]) [0] rfl
      exact W.iret hx hb hr (fun t ht hW => ⟨⟨((f11 ((a1 * 2) : Int32).toNatClampNeg)), (), rfl, by unfold sp_si_fieldName; rw [if_neg c_1, if_neg c_2], by rw [ht]; exact hP9, va_K.moved hW.alike hK9, hD9⟩, hS.F ht⟩) hS.2.2 dX3_fieldName_24
theorem ix_si_fieldKind_8 (a1 : Int32) (v10 : Int32) (c_1 : ¬ a1 < 0) (c_2 : ¬ v10 ≤ a1) (hf12 : v10.toInt ≤ 12) : vp_in ((a1 * 2) + 1) 24 := by
  simp only [Int32.lt_iff_toInt_lt, Int32.le_iff_toInt_le, show (0 : Int32).toInt = 0 from rfl, show (12 : Int32).toInt = 12 from rfl] at *
  have hl_a1 := Int32.toInt_lt a1
  have hg_a1 := Int32.le_toInt a1
  have hl_v10 := Int32.toInt_lt v10
  have hg_v10 := Int32.le_toInt v10
  have hn0 : (2 : Int32).toInt = 2 := rfl
  have hx0 := i32_mul (a := a1) (b := 2) (by rw [hn0]; omega) (by rw [hn0]; omega)
  rw [hn0] at hx0
  have hn1 : (1 : Int32).toInt = 1 := rfl
  have hx1 := i32_add (a := (a1 * 2)) (b := 1) (by rw [hn1]; omega) (by rw [hn1]; omega)
  rw [hn1] at hx1
  exact ix_int (by omega) (by omega)
def sp_si_fieldKind (a1 : Int32) (v10 : Int32) (f11 : Nat → Int32) : Int32 := (if a1 < 0 then 0 else (if v10 ≤ a1 then 0 else (f11 (((a1 * 2) + 1) : Int32).toNatClampNeg)))
set_option maxHeartbeats 4000000 in
set_option maxRecDepth 100000 in
/-- ClassMill$Image.fieldKind -/
theorem si_fieldKind (l : Launch) (dC : Nat → ClassId) (dI : Nat → Nat → Nat) (sz : Nat) (h0 : Nat) (a1 : Int32) (qf0 : Nat) (v1 : Int32) (v2 : Int32) (v3 : Int32) (qf4 : Nat) (qf5 : Nat) (qf6 : Nat) (v7 : Int32) (v8 : Int32) (v9 : Int32) (v10 : Int32) (qf11 : Nat) (v12 : Int32) (qf13 : Nat) (cf11 : ClassId) (f11 : (Nat → Int32)) (hf12 : v10.toInt ≤ 12) : Met l yX3_fieldKind (.code yX3_fieldKind cX3_fieldKind 2 (some .int) :: VS_h1) ({ frames := 0, cells := 0, slots := 0, locals := 0 }) (va_Pc [.ref h0, .int a1] (fun U => U.heap.size = sz ∧ va_P (dC, dI) vwCl [(h0, .inr (3, [.ref qf0, .int v1, .int v2, .int v3, .ref qf4, .ref qf5, .ref qf6, .int v7, .int v8, .int v9, .int v10, .ref qf11, .int v12, .ref qf13])), (qf11, .inl (cf11, 24, .inl f11))] U.heap ∧ va_K (dC, dI) vwCl [(cf11, .int)] U ∧ va_D (fun _ => True) [(h0, .inr (3, [.ref qf0, .int v1, .int v2, .int v3, .ref qf4, .ref qf5, .ref qf6, .int v7, .int v8, .int v9, .int v10, .ref qf11, .int v12, .ref qf13])), (qf11, .inl (cf11, 24, .inl f11))])) (va_Qi (fun (r : Int32) (u : Unit) => match u with | () => r = sp_si_fieldKind a1 v10 f11) (fun (u : Unit) (t : State) => match u with | () => va_P (dC, dI) vwCl [(h0, .inr (3, [.ref qf0, .int v1, .int v2, .int v3, .ref qf4, .ref qf5, .ref qf6, .int v7, .int v8, .int v9, .int v10, .ref qf11, .int v12, .ref qf13])), (qf11, .inl (cf11, 24, .inl f11))] t.heap ∧ va_K (dC, dI) vwCl [(cf11, .int)] t ∧ va_D (va_A [(h0, .inr (3, [.ref qf0, .int v1, .int v2, .int v3, .ref qf4, .ref qf5, .ref qf6, .int v7, .int v8, .int v9, .int v10, .ref qf11, .int v12, .ref qf13])), (qf11, .inl (cf11, 24, .inl f11))] sz) [(h0, .inr (3, [.ref qf0, .int v1, .int v2, .int v3, .ref qf4, .ref qf5, .ref qf6, .int v7, .int v8, .int v9, .int v10, .ref qf11, .int v12, .ref qf13])), (qf11, .inl (cf11, 24, .inl f11))]) (va_A [(h0, .inr (3, [.ref qf0, .int v1, .int v2, .int v3, .ref qf4, .ref qf5, .ref qf6, .int v7, .int v8, .int v9, .int v10, .ref qf11, .int v12, .ref qf13])), (qf11, .inl (cf11, 24, .inl f11))] sz)) 0 0 (va_A [(h0, .inr (3, [.ref qf0, .int v1, .int v2, .int v3, .ref qf4, .ref qf5, .ref qf6, .int v7, .int v8, .int v9, .int v10, .ref qf11, .int v12, .ref qf13])), (qf11, .inl (cf11, 24, .inl f11))] sz) := by
  refine Met.ofW (cc := cX3_fieldKind) (maxL := 2) (ret := (some .int)) (by decide) rfl ?_
  intro p e s m args below meth c s₁ B hml hv
  obtain ⟨rfl, hsz, hP, hK, hD0⟩ := hv
  have hx := B.exec
  have hb := B.bytes
  have hr := B.returns
  have hts := atoms_spec (ws := (.code yX3_fieldKind cX3_fieldKind 2 (some .int) :: VS_h1)) B.pre
  replace hts := fun w (h : w ∈ VS_h1) => hts w (List.mem_cons_of_mem _ h)
  have hown : s.vm.findClass RX3 = some m.cls := findClass_of_methodNamed B.named
  have hlocks := B.notSynchronized
  subst hsz
  have hD := hD0.self (sz := s.heap.size)
  generalize hAe : va_A [(h0, .inr (3, [.ref qf0, .int v1, .int v2, .int v3, .ref qf4, .ref qf5, .ref qf6, .int v7, .int v8, .int v9, .int v10, .ref qf11, .int v12, .ref qf13])), (qf11, .inl (cf11, 24, .inl f11))] s.heap.size = A at hD  ⊢
  have hA : ∀ q : Nat, s.heap.size ≤ q → A q := fun q h => by rw [← hAe]; exact Or.inr h
  have hP : va_P (dC, dI) vwCl [(h0, .inr (3, [.ref qf0, .int v1, .int v2, .int v3, .ref qf4, .ref qf5, .ref qf6, .int v7, .int v8, .int v9, .int v10, .ref qf11, .int v12, .ref qf13])), (qf11, .inl (cf11, 24, .inl f11))] s.heap := hP
  have hl := lv_entry ([.ref h0, .int a1]) (n := 2) (Nat.le_of_ble_eq_true rfl)
  rw [lg_entry_eq]
  generalize (lg_sl ([.ref h0, .int a1]) ++ List.replicate (2 - (lg_sl ([.ref h0, .int a1])).length) Slot.unset).toArray = ls at hl ⊢
  have hl : lv_has ls 2 [(0, .ref h0), (1, .int a1)] := hl
  obtain ⟨H, hH⟩ : ∃ H : Heap, s.heap = H := ⟨_, rfl⟩
  rw [hH] at hP ⊢
  have hS : va_S A s.heap H [] := by rw [← hH]; exact va_S.rf
  obtain ⟨locs, hlo⟩ : ∃ locs : List Loc, locs = [] := ⟨_, rfl⟩
  rw [← hlo] at hS ⊢
  refine lv_iload_n hx hb dX3_fieldKind_0 rfl (lv_at hl 1 rfl) ?_
  refine lv_if_lt (tgt := 25) hx hb dX3_fieldKind_1 (by decide) (fun c_1 => ?_) (fun c_1 => ?_)
  · have c_1_ := c_1
    refine lv_iconst (v := 0) hx hb dX3_fieldKind_25 (by decide) ?_
    have hP9 := hP.sub (ws' := [(h0, .inr (3, [.ref qf0, .int v1, .int v2, .int v3, .ref qf4, .ref qf5, .ref qf6, .int v7, .int v8, .int v9, .int v10, .ref qf11, .int v12, .ref qf13])), (qf11, .inl (cf11, 24, .inl f11))]) [0, 1] rfl
    have hD9 := hD.sub (ws' := [(h0, .inr (3, [.ref qf0, .int v1, .int v2, .int v3, .ref qf4, .ref qf5, .ref qf6, .int v7, .int v8, .int v9, .int v10, .ref qf11, .int v12, .ref qf13])), (qf11, .inl (cf11, 24, .inl f11))]) [0, 1] (by decide) rfl
    have hK9 := hK.sub (tys' := [(cf11, .int)]) [0] rfl
    exact W.iret hx hb hr (fun t ht hW => ⟨⟨(0), (), rfl, by unfold sp_si_fieldKind; rw [if_pos c_1], by rw [ht]; exact hP9, va_K.moved hW.alike hK9, hD9⟩, hS.F ht⟩) hS.2.2 dX3_fieldKind_26
  · have c_1_ := c_1
    refine lv_iload_n hx hb dX3_fieldKind_4 rfl (lv_at hl 1 rfl) ?_
    refine lv_aload_n hx hb dX3_fieldKind_5 rfl (lv_at hl 0 rfl) ?_
    refine va_get (D := (dC, dI)) (ci := 3) (v := .int v10) (C := RX3) (T := TX3) (N := 14) hx hb hts uV_h1_X3 hown hK hP 0 rfl rfl 10 (by decide) (hts (.fieldLink RX3 49 "ClassMill$Image" "fields" "I") mw_h1_13) (fun _ h9 => h9) rfl dX3_fieldKind_6 ?_
    refine lv_icmp_ge (tgt := 25) hx hb dX3_fieldKind_9 (by decide) (fun c_2 => ?_) (fun c_2 => ?_)
    · have c_2_ := c_2
      refine lv_iconst (v := 0) hx hb dX3_fieldKind_25 (by decide) ?_
      have hP9 := hP.sub (ws' := [(h0, .inr (3, [.ref qf0, .int v1, .int v2, .int v3, .ref qf4, .ref qf5, .ref qf6, .int v7, .int v8, .int v9, .int v10, .ref qf11, .int v12, .ref qf13])), (qf11, .inl (cf11, 24, .inl f11))]) [0, 1] rfl
      have hD9 := hD.sub (ws' := [(h0, .inr (3, [.ref qf0, .int v1, .int v2, .int v3, .ref qf4, .ref qf5, .ref qf6, .int v7, .int v8, .int v9, .int v10, .ref qf11, .int v12, .ref qf13])), (qf11, .inl (cf11, 24, .inl f11))]) [0, 1] (by decide) rfl
      have hK9 := hK.sub (tys' := [(cf11, .int)]) [0] rfl
      exact W.iret hx hb hr (fun t ht hW => ⟨⟨(0), (), rfl, by unfold sp_si_fieldKind; rw [if_neg c_1, if_pos c_2], by rw [ht]; exact hP9, va_K.moved hW.alike hK9, hD9⟩, hS.F ht⟩) hS.2.2 dX3_fieldKind_26
    · have c_2_ := c_2
      refine lv_aload_n hx hb dX3_fieldKind_12 rfl (lv_at hl 0 rfl) ?_
      refine va_get (D := (dC, dI)) (ci := 3) (v := .ref qf11) (C := RX3) (T := TX3) (N := 14) hx hb hts uV_h1_X3 hown hK hP 0 rfl rfl 11 (by decide) (hts (.fieldLink RX3 27 "ClassMill$Image" "field" "[I") mw_h1_14) (fun _ h9 => h9) rfl dX3_fieldKind_13 ?_
      refine lv_iload_n hx hb dX3_fieldKind_16 rfl (lv_at hl 1 rfl) ?_
      refine lv_iconst (v := 2) hx hb dX3_fieldKind_17 (by decide) ?_
      refine lv_imul hx hb dX3_fieldKind_18 ?_
      refine lv_iconst (v := 1) hx hb dX3_fieldKind_19 (by decide) ?_
      refine lv_iadd hx hb dX3_fieldKind_20 ?_
      refine va_iald hx hb hK hP 1 0 rfl rfl (i := ((a1 * 2) + 1)) (ix_si_fieldKind_8 a1 v10 c_1 c_2 hf12) dX3_fieldKind_21 ?_
      refine lv_goto (tgt := 26) hx hb dX3_fieldKind_22 (by decide) ?_
      have hP9 := hP.sub (ws' := [(h0, .inr (3, [.ref qf0, .int v1, .int v2, .int v3, .ref qf4, .ref qf5, .ref qf6, .int v7, .int v8, .int v9, .int v10, .ref qf11, .int v12, .ref qf13])), (qf11, .inl (cf11, 24, .inl f11))]) [0, 1] rfl
      have hD9 := hD.sub (ws' := [(h0, .inr (3, [.ref qf0, .int v1, .int v2, .int v3, .ref qf4, .ref qf5, .ref qf6, .int v7, .int v8, .int v9, .int v10, .ref qf11, .int v12, .ref qf13])), (qf11, .inl (cf11, 24, .inl f11))]) [0, 1] (by decide) rfl
      have hK9 := hK.sub (tys' := [(cf11, .int)]) [0] rfl
      exact W.iret hx hb hr (fun t ht hW => ⟨⟨((f11 (((a1 * 2) + 1) : Int32).toNatClampNeg)), (), rfl, by unfold sp_si_fieldKind; rw [if_neg c_1, if_neg c_2], by rw [ht]; exact hP9, va_K.moved hW.alike hK9, hD9⟩, hS.F ht⟩) hS.2.2 dX3_fieldKind_26
def sp_sv_isJump (a1 : Int32) : Int32 := (if a1 = 153 then 1 else (if a1 = 154 then 1 else (if a1 < 159 then 0 else (if 167 < a1 then 0 else 1))))
set_option maxHeartbeats 4000000 in
set_option maxRecDepth 100000 in
/-- ClassMill$Verifier.isJump -/
theorem sv_isJump (l : Launch) (dC : Nat → ClassId) (dI : Nat → Nat → Nat) (sz : Nat) (a1 : Int32)  : Met l yX11_isJump (.code yX11_isJump cX11_isJump 1 (some .boolean) :: VS_h1) ({ frames := 0, cells := 0, slots := 0, locals := 0 }) (va_Pc [.int a1] (fun U => U.heap.size = sz ∧ va_P (dC, dI) vwCl [] U.heap ∧ va_K (dC, dI) vwCl [] U ∧ va_D (fun _ => True) [])) (va_Qi (fun (r : Int32) (u : Unit) => match u with | () => r = sp_sv_isJump a1) (fun (u : Unit) (t : State) => match u with | () => va_P (dC, dI) vwCl [] t.heap ∧ va_K (dC, dI) vwCl [] t ∧ va_D (va_A [] sz) []) (va_A [] sz)) 0 0 (va_A [] sz) := by
  refine Met.ofW (cc := cX11_isJump) (maxL := 1) (ret := (some .boolean)) (by decide) rfl ?_
  intro p e s m args below meth c s₁ B hml hv
  obtain ⟨rfl, hsz, hP, hK, hD0⟩ := hv
  have hx := B.exec
  have hb := B.bytes
  have hr := B.returns
  have hts := atoms_spec (ws := (.code yX11_isJump cX11_isJump 1 (some .boolean) :: VS_h1)) B.pre
  replace hts := fun w (h : w ∈ VS_h1) => hts w (List.mem_cons_of_mem _ h)
  have hown : s.vm.findClass RX11 = some m.cls := findClass_of_methodNamed B.named
  have hlocks := B.notSynchronized
  subst hsz
  have hD := hD0.self (sz := s.heap.size)
  generalize hAe : va_A [] s.heap.size = A at hD  ⊢
  have hA : ∀ q : Nat, s.heap.size ≤ q → A q := fun q h => by rw [← hAe]; exact Or.inr h
  have hP : va_P (dC, dI) vwCl [] s.heap := hP
  have hl := lv_entry ([.int a1]) (n := 1) (Nat.le_of_ble_eq_true rfl)
  rw [lg_entry_eq]
  generalize (lg_sl ([.int a1]) ++ List.replicate (1 - (lg_sl ([.int a1])).length) Slot.unset).toArray = ls at hl ⊢
  have hl : lv_has ls 1 [(0, .int a1)] := hl
  obtain ⟨H, hH⟩ : ∃ H : Heap, s.heap = H := ⟨_, rfl⟩
  rw [hH] at hP ⊢
  have hS : va_S A s.heap H [] := by rw [← hH]; exact va_S.rf
  obtain ⟨locs, hlo⟩ : ∃ locs : List Loc, locs = [] := ⟨_, rfl⟩
  rw [← hlo] at hS ⊢
  refine lv_iload_n hx hb dX11_isJump_0 rfl (lv_at hl 0 rfl) ?_
  refine lv_sipush (v := 153) hx hb dX11_isJump_1 (by decide) ?_
  refine lv_icmp_eq (tgt := 28) hx hb dX11_isJump_4 (by decide) (fun c_1 => ?_) (fun c_1 => ?_)
  · have c_1_ := c_1
    refine lv_iconst (v := 1) hx hb dX11_isJump_28 (by decide) ?_
    refine lv_goto (tgt := 33) hx hb dX11_isJump_29 (by decide) ?_
    have hP9 := hP.sub (ws' := []) [] rfl
    have hD9 := hD.sub (ws' := []) [] (by decide) rfl
    have hK9 := hK.sub (tys' := []) [] rfl
    exact W.zret hx hb hr (by decide) (fun t ht hW => ⟨⟨(1), (), rfl, by unfold sp_sv_isJump; rw [if_pos c_1], by rw [ht]; exact hP9, va_K.moved hW.alike hK9, hD9⟩, hS.F ht⟩) hS.2.2 dX11_isJump_33
  · have c_1_ := c_1
    refine lv_iload_n hx hb dX11_isJump_7 rfl (lv_at hl 0 rfl) ?_
    refine lv_sipush (v := 154) hx hb dX11_isJump_8 (by decide) ?_
    refine lv_icmp_eq (tgt := 28) hx hb dX11_isJump_11 (by decide) (fun c_2 => ?_) (fun c_2 => ?_)
    · have c_2_ := c_2
      refine lv_iconst (v := 1) hx hb dX11_isJump_28 (by decide) ?_
      refine lv_goto (tgt := 33) hx hb dX11_isJump_29 (by decide) ?_
      have hP9 := hP.sub (ws' := []) [] rfl
      have hD9 := hD.sub (ws' := []) [] (by decide) rfl
      have hK9 := hK.sub (tys' := []) [] rfl
      exact W.zret hx hb hr (by decide) (fun t ht hW => ⟨⟨(1), (), rfl, by unfold sp_sv_isJump; rw [if_neg c_1, if_pos c_2], by rw [ht]; exact hP9, va_K.moved hW.alike hK9, hD9⟩, hS.F ht⟩) hS.2.2 dX11_isJump_33
    · have c_2_ := c_2
      refine lv_iload_n hx hb dX11_isJump_14 rfl (lv_at hl 0 rfl) ?_
      refine lv_sipush (v := 159) hx hb dX11_isJump_15 (by decide) ?_
      refine lv_icmp_lt (tgt := 32) hx hb dX11_isJump_18 (by decide) (fun c_3 => ?_) (fun c_3 => ?_)
      · have c_3_ := c_3
        refine lv_iconst (v := 0) hx hb dX11_isJump_32 (by decide) ?_
        have hP9 := hP.sub (ws' := []) [] rfl
        have hD9 := hD.sub (ws' := []) [] (by decide) rfl
        have hK9 := hK.sub (tys' := []) [] rfl
        exact W.zret hx hb hr (by decide) (fun t ht hW => ⟨⟨(0), (), rfl, by unfold sp_sv_isJump; rw [if_neg c_1, if_neg c_2, if_pos c_3], by rw [ht]; exact hP9, va_K.moved hW.alike hK9, hD9⟩, hS.F ht⟩) hS.2.2 dX11_isJump_33
      · have c_3_ := c_3
        refine lv_iload_n hx hb dX11_isJump_21 rfl (lv_at hl 0 rfl) ?_
        refine lv_sipush (v := 167) hx hb dX11_isJump_22 (by decide) ?_
        refine lv_icmp_gt (tgt := 32) hx hb dX11_isJump_25 (by decide) (fun c_4 => ?_) (fun c_4 => ?_)
        · have c_4_ := c_4
          refine lv_iconst (v := 0) hx hb dX11_isJump_32 (by decide) ?_
          have hP9 := hP.sub (ws' := []) [] rfl
          have hD9 := hD.sub (ws' := []) [] (by decide) rfl
          have hK9 := hK.sub (tys' := []) [] rfl
          exact W.zret hx hb hr (by decide) (fun t ht hW => ⟨⟨(0), (), rfl, by unfold sp_sv_isJump; rw [if_neg c_1, if_neg c_2, if_neg c_3, if_pos c_4], by rw [ht]; exact hP9, va_K.moved hW.alike hK9, hD9⟩, hS.F ht⟩) hS.2.2 dX11_isJump_33
        · have c_4_ := c_4
          refine lv_iconst (v := 1) hx hb dX11_isJump_28 (by decide) ?_
          refine lv_goto (tgt := 33) hx hb dX11_isJump_29 (by decide) ?_
          have hP9 := hP.sub (ws' := []) [] rfl
          have hD9 := hD.sub (ws' := []) [] (by decide) rfl
          have hK9 := hK.sub (tys' := []) [] rfl
          exact W.zret hx hb hr (by decide) (fun t ht hW => ⟨⟨(1), (), rfl, by unfold sp_sv_isJump; rw [if_neg c_1, if_neg c_2, if_neg c_3, if_neg c_4], by rw [ht]; exact hP9, va_K.moved hW.alike hK9, hD9⟩, hS.F ht⟩) hS.2.2 dX11_isJump_33
def sp_sv_isLast (a1 : Int32) : Int32 := (if a1 = 167 then 1 else (if a1 = 172 then 1 else (if a1 = 176 then 1 else (if a1 = 177 then 1 else (if a1 = 191 then 1 else 0)))))
set_option maxHeartbeats 4000000 in
set_option maxRecDepth 100000 in
/-- ClassMill$Verifier.isLast -/
theorem sv_isLast (l : Launch) (dC : Nat → ClassId) (dI : Nat → Nat → Nat) (sz : Nat) (a1 : Int32)  : Met l yX11_isLast (.code yX11_isLast cX11_isLast 1 (some .boolean) :: VS_h1) ({ frames := 0, cells := 0, slots := 0, locals := 0 }) (va_Pc [.int a1] (fun U => U.heap.size = sz ∧ va_P (dC, dI) vwCl [] U.heap ∧ va_K (dC, dI) vwCl [] U ∧ va_D (fun _ => True) [])) (va_Qi (fun (r : Int32) (u : Unit) => match u with | () => r = sp_sv_isLast a1) (fun (u : Unit) (t : State) => match u with | () => va_P (dC, dI) vwCl [] t.heap ∧ va_K (dC, dI) vwCl [] t ∧ va_D (va_A [] sz) []) (va_A [] sz)) 0 0 (va_A [] sz) := by
  refine Met.ofW (cc := cX11_isLast) (maxL := 1) (ret := (some .boolean)) (by decide) rfl ?_
  intro p e s m args below meth c s₁ B hml hv
  obtain ⟨rfl, hsz, hP, hK, hD0⟩ := hv
  have hx := B.exec
  have hb := B.bytes
  have hr := B.returns
  have hts := atoms_spec (ws := (.code yX11_isLast cX11_isLast 1 (some .boolean) :: VS_h1)) B.pre
  replace hts := fun w (h : w ∈ VS_h1) => hts w (List.mem_cons_of_mem _ h)
  have hown : s.vm.findClass RX11 = some m.cls := findClass_of_methodNamed B.named
  have hlocks := B.notSynchronized
  subst hsz
  have hD := hD0.self (sz := s.heap.size)
  generalize hAe : va_A [] s.heap.size = A at hD  ⊢
  have hA : ∀ q : Nat, s.heap.size ≤ q → A q := fun q h => by rw [← hAe]; exact Or.inr h
  have hP : va_P (dC, dI) vwCl [] s.heap := hP
  have hl := lv_entry ([.int a1]) (n := 1) (Nat.le_of_ble_eq_true rfl)
  rw [lg_entry_eq]
  generalize (lg_sl ([.int a1]) ++ List.replicate (1 - (lg_sl ([.int a1])).length) Slot.unset).toArray = ls at hl ⊢
  have hl : lv_has ls 1 [(0, .int a1)] := hl
  obtain ⟨H, hH⟩ : ∃ H : Heap, s.heap = H := ⟨_, rfl⟩
  rw [hH] at hP ⊢
  have hS : va_S A s.heap H [] := by rw [← hH]; exact va_S.rf
  obtain ⟨locs, hlo⟩ : ∃ locs : List Loc, locs = [] := ⟨_, rfl⟩
  rw [← hlo] at hS ⊢
  refine lv_iload_n hx hb dX11_isLast_0 rfl (lv_at hl 0 rfl) ?_
  refine lv_sipush (v := 167) hx hb dX11_isLast_1 (by decide) ?_
  refine lv_icmp_eq (tgt := 35) hx hb dX11_isLast_4 (by decide) (fun c_1 => ?_) (fun c_1 => ?_)
  · have c_1_ := c_1
    refine lv_iconst (v := 1) hx hb dX11_isLast_35 (by decide) ?_
    refine lv_goto (tgt := 40) hx hb dX11_isLast_36 (by decide) ?_
    have hP9 := hP.sub (ws' := []) [] rfl
    have hD9 := hD.sub (ws' := []) [] (by decide) rfl
    have hK9 := hK.sub (tys' := []) [] rfl
    exact W.zret hx hb hr (by decide) (fun t ht hW => ⟨⟨(1), (), rfl, by unfold sp_sv_isLast; rw [if_pos c_1], by rw [ht]; exact hP9, va_K.moved hW.alike hK9, hD9⟩, hS.F ht⟩) hS.2.2 dX11_isLast_40
  · have c_1_ := c_1
    refine lv_iload_n hx hb dX11_isLast_7 rfl (lv_at hl 0 rfl) ?_
    refine lv_sipush (v := 172) hx hb dX11_isLast_8 (by decide) ?_
    refine lv_icmp_eq (tgt := 35) hx hb dX11_isLast_11 (by decide) (fun c_2 => ?_) (fun c_2 => ?_)
    · have c_2_ := c_2
      refine lv_iconst (v := 1) hx hb dX11_isLast_35 (by decide) ?_
      refine lv_goto (tgt := 40) hx hb dX11_isLast_36 (by decide) ?_
      have hP9 := hP.sub (ws' := []) [] rfl
      have hD9 := hD.sub (ws' := []) [] (by decide) rfl
      have hK9 := hK.sub (tys' := []) [] rfl
      exact W.zret hx hb hr (by decide) (fun t ht hW => ⟨⟨(1), (), rfl, by unfold sp_sv_isLast; rw [if_neg c_1, if_pos c_2], by rw [ht]; exact hP9, va_K.moved hW.alike hK9, hD9⟩, hS.F ht⟩) hS.2.2 dX11_isLast_40
    · have c_2_ := c_2
      refine lv_iload_n hx hb dX11_isLast_14 rfl (lv_at hl 0 rfl) ?_
      refine lv_sipush (v := 176) hx hb dX11_isLast_15 (by decide) ?_
      refine lv_icmp_eq (tgt := 35) hx hb dX11_isLast_18 (by decide) (fun c_3 => ?_) (fun c_3 => ?_)
      · have c_3_ := c_3
        refine lv_iconst (v := 1) hx hb dX11_isLast_35 (by decide) ?_
        refine lv_goto (tgt := 40) hx hb dX11_isLast_36 (by decide) ?_
        have hP9 := hP.sub (ws' := []) [] rfl
        have hD9 := hD.sub (ws' := []) [] (by decide) rfl
        have hK9 := hK.sub (tys' := []) [] rfl
        exact W.zret hx hb hr (by decide) (fun t ht hW => ⟨⟨(1), (), rfl, by unfold sp_sv_isLast; rw [if_neg c_1, if_neg c_2, if_pos c_3], by rw [ht]; exact hP9, va_K.moved hW.alike hK9, hD9⟩, hS.F ht⟩) hS.2.2 dX11_isLast_40
      · have c_3_ := c_3
        refine lv_iload_n hx hb dX11_isLast_21 rfl (lv_at hl 0 rfl) ?_
        refine lv_sipush (v := 177) hx hb dX11_isLast_22 (by decide) ?_
        refine lv_icmp_eq (tgt := 35) hx hb dX11_isLast_25 (by decide) (fun c_4 => ?_) (fun c_4 => ?_)
        · have c_4_ := c_4
          refine lv_iconst (v := 1) hx hb dX11_isLast_35 (by decide) ?_
          refine lv_goto (tgt := 40) hx hb dX11_isLast_36 (by decide) ?_
          have hP9 := hP.sub (ws' := []) [] rfl
          have hD9 := hD.sub (ws' := []) [] (by decide) rfl
          have hK9 := hK.sub (tys' := []) [] rfl
          exact W.zret hx hb hr (by decide) (fun t ht hW => ⟨⟨(1), (), rfl, by unfold sp_sv_isLast; rw [if_neg c_1, if_neg c_2, if_neg c_3, if_pos c_4], by rw [ht]; exact hP9, va_K.moved hW.alike hK9, hD9⟩, hS.F ht⟩) hS.2.2 dX11_isLast_40
        · have c_4_ := c_4
          refine lv_iload_n hx hb dX11_isLast_28 rfl (lv_at hl 0 rfl) ?_
          refine lv_sipush (v := 191) hx hb dX11_isLast_29 (by decide) ?_
          refine lv_icmp_ne (tgt := 39) hx hb dX11_isLast_32 (by decide) (fun c_5 => ?_) (fun c_5 => ?_)
          · have c_5_ := c_5
            refine lv_iconst (v := 0) hx hb dX11_isLast_39 (by decide) ?_
            have hP9 := hP.sub (ws' := []) [] rfl
            have hD9 := hD.sub (ws' := []) [] (by decide) rfl
            have hK9 := hK.sub (tys' := []) [] rfl
            exact W.zret hx hb hr (by decide) (fun t ht hW => ⟨⟨(0), (), rfl, by unfold sp_sv_isLast; rw [if_neg c_1, if_neg c_2, if_neg c_3, if_neg c_4, if_neg c_5], by rw [ht]; exact hP9, va_K.moved hW.alike hK9, hD9⟩, hS.F ht⟩) hS.2.2 dX11_isLast_40
          · have c_5_ := c_5
            refine lv_iconst (v := 1) hx hb dX11_isLast_35 (by decide) ?_
            refine lv_goto (tgt := 40) hx hb dX11_isLast_36 (by decide) ?_
            have hP9 := hP.sub (ws' := []) [] rfl
            have hD9 := hD.sub (ws' := []) [] (by decide) rfl
            have hK9 := hK.sub (tys' := []) [] rfl
            exact W.zret hx hb hr (by decide) (fun t ht hW => ⟨⟨(1), (), rfl, by unfold sp_sv_isLast; rw [if_neg c_1, if_neg c_2, if_neg c_3, if_neg c_4, if_pos c_5], by rw [ht]; exact hP9, va_K.moved hW.alike hK9, hD9⟩, hS.F ht⟩) hS.2.2 dX11_isLast_40
