def sp_t9_bucketOf (nf : Nat) (a2 : Int32) (a3 : Int32) (na1 : Nat) (fa1 : Nat → Int32) : Option (Int32) := (if a2 < 0 then none else if na1 ≤ (a2 : Int32).toNatClampNeg then none else (if ((a2 + a3) - 1) < 0 then none else if na1 ≤ (((a2 + a3) - 1) : Int32).toNatClampNeg then none else (some (((((fa1 (a2 : Int32).toNatClampNeg) * 5) + ((fa1 (((a2 + a3) - 1) : Int32).toNatClampNeg) * 3)) + a3) &&& 63))))
set_option maxHeartbeats 4000000 in
set_option maxRecDepth 100000 in
/-- ClassMill$Text.bucketOf -/
theorem t9_bucketOf (l : Launch) (dC : Nat → ClassId) (dI : Nat → Nat → Nat) (sz : Nat) (qa1 : Nat) (a2 : Int32) (a3 : Int32) (ca1 : ClassId) (na1 : Nat) (fa1 : (Nat → Int32)) (nf : Nat) (r0 : Int32) (hsp : sp_t9_bucketOf nf a2 a3 na1 fa1 = some r0) : Met l yX9_bucketOf (.code yX9_bucketOf cX9_bucketOf 3 (some .int) :: VS_h4) ({ frames := 0, cells := 0, slots := 0, locals := 0 }) (va_Pc [.ref qa1, .int a2, .int a3] (fun U => U.heap.size = sz ∧ va_P (dC, dI) vwCl [(qa1, .inl (ca1, na1, .inl fa1))] U.heap ∧ va_K (dC, dI) vwCl [(ca1, .byte)] U ∧ va_D (fun _ => True) [(qa1, .inl (ca1, na1, .inl fa1))])) (va_Qi (fun (r : Int32) (u : Unit) => match u with | () => r0 = r) (fun (u : Unit) (t : State) => match u with | () => va_P (dC, dI) vwCl [(qa1, .inl (ca1, na1, .inl fa1))] t.heap ∧ va_K (dC, dI) vwCl [(ca1, .byte)] t ∧ va_D (va_A [(qa1, .inl (ca1, na1, .inl fa1))] sz) [(qa1, .inl (ca1, na1, .inl fa1))]) (va_A [(qa1, .inl (ca1, na1, .inl fa1))] sz)) 0 0 (va_A [(qa1, .inl (ca1, na1, .inl fa1))] sz) := by
  refine Met.ofW (cc := cX9_bucketOf) (maxL := 3) (ret := (some .int)) (by decide) rfl ?_
  intro p e s m args below meth c s₁ B hml hv
  obtain ⟨rfl, hsz, hP, hK, hD0⟩ := hv
  have hx := B.exec
  have hb := B.bytes
  have hr := B.returns
  have hts := atoms_spec (ws := (.code yX9_bucketOf cX9_bucketOf 3 (some .int) :: VS_h4)) B.pre
  replace hts := fun w (h : w ∈ VS_h4) => hts w (List.mem_cons_of_mem _ h)
  have hown : s.vm.findClass RX9 = some m.cls := findClass_of_methodNamed B.named
  have hlocks := B.notSynchronized
  subst hsz
  have hD := hD0.self (sz := s.heap.size)
  generalize hAe : va_A [(qa1, .inl (ca1, na1, .inl fa1))] s.heap.size = A at hD  ⊢
  have hA : ∀ q : Nat, s.heap.size ≤ q → A q := fun q h => by rw [← hAe]; exact Or.inr h
  have hP : va_P (dC, dI) vwCl [(qa1, .inl (ca1, na1, .inl fa1))] s.heap := hP
  have hl := lv_entry ([.ref qa1, .int a2, .int a3]) (n := 3) (Nat.le_of_ble_eq_true rfl)
  rw [lg_entry_eq]
  generalize (lg_sl ([.ref qa1, .int a2, .int a3]) ++ List.replicate (3 - (lg_sl ([.ref qa1, .int a2, .int a3])).length) Slot.unset).toArray = ls at hl ⊢
  have hl : lv_has ls 3 [(0, .ref qa1), (1, .int a2), (2, .int a3)] := hl
  obtain ⟨H, hH⟩ : ∃ H : Heap, s.heap = H := ⟨_, rfl⟩
  rw [hH] at hP ⊢
  have hS : va_S A s.heap H [] := by rw [← hH]; exact va_S.rf
  obtain ⟨locs, hlo⟩ : ∃ locs : List Loc, locs = [] := ⟨_, rfl⟩
  rw [← hlo] at hS ⊢
  unfold sp_t9_bucketOf at hsp
  refine lv_aload_n hx hb dX9_bucketOf_0 rfl (lv_at hl 0 rfl) ?_
  refine lv_iload_n hx hb dX9_bucketOf_1 rfl (lv_at hl 1 rfl) ?_
  obtain ⟨hi_1, hsp⟩ := ox_in hsp
  refine va_bald hx hb hK hP 0 0 rfl rfl (i := a2) hi_1 dX9_bucketOf_2 ?_
  refine lv_iconst (v := 5) hx hb dX9_bucketOf_3 (by decide) ?_
  refine lv_imul hx hb dX9_bucketOf_4 ?_
  refine lv_aload_n hx hb dX9_bucketOf_5 rfl (lv_at hl 0 rfl) ?_
  refine lv_iload_n hx hb dX9_bucketOf_6 rfl (lv_at hl 1 rfl) ?_
  refine lv_iload_n hx hb dX9_bucketOf_7 rfl (lv_at hl 2 rfl) ?_
  refine lv_iadd hx hb dX9_bucketOf_8 ?_
  refine lv_iconst (v := 1) hx hb dX9_bucketOf_9 (by decide) ?_
  refine lv_isub hx hb dX9_bucketOf_10 ?_
  obtain ⟨hi_2, hsp⟩ := ox_in hsp
  refine va_bald hx hb hK hP 0 0 rfl rfl (i := ((a2 + a3) - 1)) hi_2 dX9_bucketOf_11 ?_
  refine lv_iconst (v := 3) hx hb dX9_bucketOf_12 (by decide) ?_
  refine lv_imul hx hb dX9_bucketOf_13 ?_
  refine lv_iadd hx hb dX9_bucketOf_14 ?_
  refine lv_iload_n hx hb dX9_bucketOf_15 rfl (lv_at hl 2 rfl) ?_
  refine lv_iadd hx hb dX9_bucketOf_16 ?_
  refine lv_bipush (v := 63) hx hb dX9_bucketOf_17 (by decide) ?_
  refine lv_iand hx hb dX9_bucketOf_19 ?_
  have hr0 := Option.some.inj hsp
  clear hsp
  subst hr0
  have hP9 := hP.sub (ws' := [(qa1, .inl (ca1, na1, .inl fa1))]) [0] rfl
  have hD9 := hD.sub (ws' := [(qa1, .inl (ca1, na1, .inl fa1))]) [0] (by decide) rfl
  have hK9 := hK.sub (tys' := [(ca1, .byte)]) [0] rfl
  exact W.iret hx hb hr (fun t ht hW => ⟨⟨((((((fa1 (a2 : Int32).toNatClampNeg) * 5) + ((fa1 (((a2 + a3) - 1) : Int32).toNatClampNeg) * 3)) + a3) &&& 63)), (), rfl, rfl, by rw [ht]; exact hP9, va_K.moved hW.alike hK9, hD9⟩, hS.F ht⟩) hS.2.2 dX9_bucketOf_20
def sp_t9_refuse (nf : Nat) (a1 : Int32) (a2 : Int32) : Option (Int32 × Int32) := (some (a1, a2))
set_option maxHeartbeats 4000000 in
set_option maxRecDepth 100000 in
/-- ClassMill$Text.refuse -/
theorem t9_refuse (l : Launch) (dC : Nat → ClassId) (dI : Nat → Nat → Nat) (sz : Nat) (h0 : Nat) (a1 : Int32) (a2 : Int32) (qf0 : Nat) (qf1 : Nat) (qf2 : Nat) (v3 : Int32) (qf4 : Nat) (qf5 : Nat) (qf6 : Nat) (qf7 : Nat) (qf8 : Nat) (v9 : Int32) (v10 : Int32) (v11 : Int32) (v12 : Int32) (nf : Nat) (w11 : Int32) (w12 : Int32) (hsp : sp_t9_refuse nf a1 a2 = some (w11, w12)) : Met l yX9_refuse (.code yX9_refuse cX9_refuse 3 none :: VS_h4) ({ frames := 0, cells := 0, slots := 0, locals := 0 }) (va_Pc [.ref h0, .int a1, .int a2] (fun U => U.heap.size = sz ∧ va_P (dC, dI) vwCl [(h0, .inr (9, [.ref qf0, .ref qf1, .ref qf2, .int v3, .ref qf4, .ref qf5, .ref qf6, .ref qf7, .ref qf8, .int v9, .int v10, .int v11, .int v12]))] U.heap ∧ va_K (dC, dI) vwCl [] U ∧ va_D (fun _ => True) [(h0, .inr (9, [.ref qf0, .ref qf1, .ref qf2, .int v3, .ref qf4, .ref qf5, .ref qf6, .ref qf7, .ref qf8, .int v9, .int v10, .int v11, .int v12]))])) (va_Qv (fun (u : Unit) => match u with | () => True) (fun (u : Unit) (t : State) => match u with | () => va_P (dC, dI) vwCl [(h0, .inr (9, [.ref qf0, .ref qf1, .ref qf2, .int v3, .ref qf4, .ref qf5, .ref qf6, .ref qf7, .ref qf8, .int v9, .int v10, .int w11, .int w12]))] t.heap ∧ va_K (dC, dI) vwCl [] t ∧ va_D (va_A [(h0, .inr (9, [.ref qf0, .ref qf1, .ref qf2, .int v3, .ref qf4, .ref qf5, .ref qf6, .ref qf7, .ref qf8, .int v9, .int v10, .int v11, .int v12]))] sz) [(h0, .inr (9, [.ref qf0, .ref qf1, .ref qf2, .int v3, .ref qf4, .ref qf5, .ref qf6, .ref qf7, .ref qf8, .int v9, .int v10, .int w11, .int w12]))]) (va_A [(h0, .inr (9, [.ref qf0, .ref qf1, .ref qf2, .int v3, .ref qf4, .ref qf5, .ref qf6, .ref qf7, .ref qf8, .int v9, .int v10, .int v11, .int v12]))] sz)) 0 0 (va_A [(h0, .inr (9, [.ref qf0, .ref qf1, .ref qf2, .int v3, .ref qf4, .ref qf5, .ref qf6, .ref qf7, .ref qf8, .int v9, .int v10, .int v11, .int v12]))] sz) := by
  refine Met.ofW (cc := cX9_refuse) (maxL := 3) (ret := none) (by decide) rfl ?_
  intro p e s m args below meth c s₁ B hml hv
  obtain ⟨rfl, hsz, hP, hK, hD0⟩ := hv
  have hx := B.exec
  have hb := B.bytes
  have hr := B.returns
  have hts := atoms_spec (ws := (.code yX9_refuse cX9_refuse 3 none :: VS_h4)) B.pre
  replace hts := fun w (h : w ∈ VS_h4) => hts w (List.mem_cons_of_mem _ h)
  have hown : s.vm.findClass RX9 = some m.cls := findClass_of_methodNamed B.named
  have hlocks := B.notSynchronized
  subst hsz
  have hD := hD0.self (sz := s.heap.size)
  generalize hAe : va_A [(h0, .inr (9, [.ref qf0, .ref qf1, .ref qf2, .int v3, .ref qf4, .ref qf5, .ref qf6, .ref qf7, .ref qf8, .int v9, .int v10, .int v11, .int v12]))] s.heap.size = A at hD  ⊢
  have hA : ∀ q : Nat, s.heap.size ≤ q → A q := fun q h => by rw [← hAe]; exact Or.inr h
  have hP : va_P (dC, dI) vwCl [(h0, .inr (9, [.ref qf0, .ref qf1, .ref qf2, .int v3, .ref qf4, .ref qf5, .ref qf6, .ref qf7, .ref qf8, .int v9, .int v10, .int v11, .int v12]))] s.heap := hP
  have hl := lv_entry ([.ref h0, .int a1, .int a2]) (n := 3) (Nat.le_of_ble_eq_true rfl)
  rw [lg_entry_eq]
  generalize (lg_sl ([.ref h0, .int a1, .int a2]) ++ List.replicate (3 - (lg_sl ([.ref h0, .int a1, .int a2])).length) Slot.unset).toArray = ls at hl ⊢
  have hl : lv_has ls 3 [(0, .ref h0), (1, .int a1), (2, .int a2)] := hl
  obtain ⟨H, hH⟩ : ∃ H : Heap, s.heap = H := ⟨_, rfl⟩
  rw [hH] at hP ⊢
  have hS : va_S A s.heap H [] := by rw [← hH]; exact va_S.rf
  obtain ⟨locs, hlo⟩ : ∃ locs : List Loc, locs = [] := ⟨_, rfl⟩
  rw [← hlo] at hS ⊢
  unfold sp_t9_refuse at hsp
  refine lv_aload_n hx hb dX9_refuse_0 rfl (lv_at hl 0 rfl) ?_
  refine lv_iload_n hx hb dX9_refuse_1 rfl (lv_at hl 1 rfl) ?_
  refine va_put (D := (dC, dI)) (ci := 9) (v := .int a1) (ty := .int) (C := RX9) (T := TX9) (N := 13) hx hb hts uV_h4_X9 tyX9 tyX9_ok nmX9 hown hK hP hD hS 0 rfl rfl 11 (by decide) (hts (.fieldLink RX9 80 "ClassMill$Text" "fault" "I") mw_h4_0) (fun _ h9 => h9) rfl (by decide +kernel) rfl rfl (Nat.le_of_ble_eq_true rfl) dX9_refuse_2 ?_
  clear hP hD hS
  intro H locs hP hD hS
  replace hP : va_P (dC, dI) vwCl [(h0, .inr (9, [.ref qf0, .ref qf1, .ref qf2, .int v3, .ref qf4, .ref qf5, .ref qf6, .ref qf7, .ref qf8, .int v9, .int v10, .int a1, .int v12]))] H := hP
  replace hD : va_D A [(h0, .inr (9, [.ref qf0, .ref qf1, .ref qf2, .int v3, .ref qf4, .ref qf5, .ref qf6, .ref qf7, .ref qf8, .int v9, .int v10, .int a1, .int v12]))] := hD
  refine lv_aload_n hx hb dX9_refuse_5 rfl (lv_at hl 0 rfl) ?_
  refine lv_iload_n hx hb dX9_refuse_6 rfl (lv_at hl 2 rfl) ?_
  refine va_put (D := (dC, dI)) (ci := 9) (v := .int a2) (ty := .int) (C := RX9) (T := TX9) (N := 13) hx hb hts uV_h4_X9 tyX9 tyX9_ok nmX9 hown hK hP hD hS 0 rfl rfl 12 (by decide) (hts (.fieldLink RX9 41 "ClassMill$Text" "place" "I") mw_h4_1) (fun _ h9 => h9) rfl (by decide +kernel) rfl rfl (Nat.le_of_ble_eq_true rfl) dX9_refuse_7 ?_
  clear hP hD hS
  intro H locs hP hD hS
  replace hP : va_P (dC, dI) vwCl [(h0, .inr (9, [.ref qf0, .ref qf1, .ref qf2, .int v3, .ref qf4, .ref qf5, .ref qf6, .ref qf7, .ref qf8, .int v9, .int v10, .int a1, .int a2]))] H := hP
  replace hD : va_D A [(h0, .inr (9, [.ref qf0, .ref qf1, .ref qf2, .int v3, .ref qf4, .ref qf5, .ref qf6, .ref qf7, .ref qf8, .int v9, .int v10, .int a1, .int a2]))] := hD
  have hr0 := Option.some.inj hsp
  clear hsp
  obtain ⟨hq0, hr1⟩ := Prod.mk.inj hr0
  clear hr0
  subst hq0
  subst hr1
  have hP9 := hP.sub (ws' := [(h0, .inr (9, [.ref qf0, .ref qf1, .ref qf2, .int v3, .ref qf4, .ref qf5, .ref qf6, .ref qf7, .ref qf8, .int v9, .int v10, .int a1, .int a2]))]) [0] rfl
  have hD9 := hD.sub (ws' := [(h0, .inr (9, [.ref qf0, .ref qf1, .ref qf2, .int v3, .ref qf4, .ref qf5, .ref qf6, .ref qf7, .ref qf8, .int v9, .int v10, .int a1, .int a2]))]) [0] (by decide) rfl
  have hK9 := hK.sub (tys' := []) [] rfl
  exact W.vret hx hb hr (fun t ht hW => ⟨⟨(), rfl, trivial, by rw [ht]; exact hP9, va_K.moved hW.alike hK9, hD9⟩, hS.F ht⟩) hS.2.2 dX9_refuse_10
def sp_t9_tell (nf : Nat) (a1 : Int32) (a2 : Int32) (v3 : Int32) (v11 : Int32) (v12 : Int32) (f1 : Nat → Int32) : Option (Int32 × Int32) := (if v11 = 0 then (if a2 < 0 then (some (v11, v12)) else (if v3 ≤ a2 then (some (v11, v12)) else (if a2 < 0 then none else if 3001 ≤ (a2 : Int32).toNatClampNeg then none else (some (a1, (f1 (a2 : Int32).toNatClampNeg)))))) else (some (v11, v12)))
set_option maxHeartbeats 4000000 in
set_option maxRecDepth 100000 in
/-- ClassMill$Text.tell -/
theorem t9_tell (l : Launch) (dC : Nat → ClassId) (dI : Nat → Nat → Nat) (sz : Nat) (h0 : Nat) (a1 : Int32) (a2 : Int32) (qf0 : Nat) (qf1 : Nat) (qf2 : Nat) (v3 : Int32) (qf4 : Nat) (qf5 : Nat) (qf6 : Nat) (qf7 : Nat) (qf8 : Nat) (v9 : Int32) (v10 : Int32) (v11 : Int32) (v12 : Int32) (cf1 : ClassId) (f1 : (Nat → Int32)) (nf : Nat) (w11 : Int32) (w12 : Int32) (hsp : sp_t9_tell nf a1 a2 v3 v11 v12 f1 = some (w11, w12)) : Met l yX9_tell (.code yX9_tell cX9_tell 3 none :: VS_h4) ({ frames := 0, cells := 0, slots := 0, locals := 0 }) (va_Pc [.ref h0, .int a1, .int a2] (fun U => U.heap.size = sz ∧ va_P (dC, dI) vwCl [(h0, .inr (9, [.ref qf0, .ref qf1, .ref qf2, .int v3, .ref qf4, .ref qf5, .ref qf6, .ref qf7, .ref qf8, .int v9, .int v10, .int v11, .int v12])), (qf1, .inl (cf1, 3001, .inl f1))] U.heap ∧ va_K (dC, dI) vwCl [(cf1, .int)] U ∧ va_D (fun _ => True) [(h0, .inr (9, [.ref qf0, .ref qf1, .ref qf2, .int v3, .ref qf4, .ref qf5, .ref qf6, .ref qf7, .ref qf8, .int v9, .int v10, .int v11, .int v12])), (qf1, .inl (cf1, 3001, .inl f1))])) (va_Qv (fun (u : Unit) => match u with | () => True) (fun (u : Unit) (t : State) => match u with | () => va_P (dC, dI) vwCl [(h0, .inr (9, [.ref qf0, .ref qf1, .ref qf2, .int v3, .ref qf4, .ref qf5, .ref qf6, .ref qf7, .ref qf8, .int v9, .int v10, .int w11, .int w12])), (qf1, .inl (cf1, 3001, .inl f1))] t.heap ∧ va_K (dC, dI) vwCl [(cf1, .int)] t ∧ va_D (va_A [(h0, .inr (9, [.ref qf0, .ref qf1, .ref qf2, .int v3, .ref qf4, .ref qf5, .ref qf6, .ref qf7, .ref qf8, .int v9, .int v10, .int v11, .int v12])), (qf1, .inl (cf1, 3001, .inl f1))] sz) [(h0, .inr (9, [.ref qf0, .ref qf1, .ref qf2, .int v3, .ref qf4, .ref qf5, .ref qf6, .ref qf7, .ref qf8, .int v9, .int v10, .int w11, .int w12])), (qf1, .inl (cf1, 3001, .inl f1))]) (va_A [(h0, .inr (9, [.ref qf0, .ref qf1, .ref qf2, .int v3, .ref qf4, .ref qf5, .ref qf6, .ref qf7, .ref qf8, .int v9, .int v10, .int v11, .int v12])), (qf1, .inl (cf1, 3001, .inl f1))] sz)) 0 0 (va_A [(h0, .inr (9, [.ref qf0, .ref qf1, .ref qf2, .int v3, .ref qf4, .ref qf5, .ref qf6, .ref qf7, .ref qf8, .int v9, .int v10, .int v11, .int v12])), (qf1, .inl (cf1, 3001, .inl f1))] sz) := by
  refine Met.ofW (cc := cX9_tell) (maxL := 3) (ret := none) (by decide) rfl ?_
  intro p e s m args below meth c s₁ B hml hv
  obtain ⟨rfl, hsz, hP, hK, hD0⟩ := hv
  have hx := B.exec
  have hb := B.bytes
  have hr := B.returns
  have hts := atoms_spec (ws := (.code yX9_tell cX9_tell 3 none :: VS_h4)) B.pre
  replace hts := fun w (h : w ∈ VS_h4) => hts w (List.mem_cons_of_mem _ h)
  have hown : s.vm.findClass RX9 = some m.cls := findClass_of_methodNamed B.named
  have hlocks := B.notSynchronized
  subst hsz
  have hD := hD0.self (sz := s.heap.size)
  generalize hAe : va_A [(h0, .inr (9, [.ref qf0, .ref qf1, .ref qf2, .int v3, .ref qf4, .ref qf5, .ref qf6, .ref qf7, .ref qf8, .int v9, .int v10, .int v11, .int v12])), (qf1, .inl (cf1, 3001, .inl f1))] s.heap.size = A at hD  ⊢
  have hA : ∀ q : Nat, s.heap.size ≤ q → A q := fun q h => by rw [← hAe]; exact Or.inr h
  have hP : va_P (dC, dI) vwCl [(h0, .inr (9, [.ref qf0, .ref qf1, .ref qf2, .int v3, .ref qf4, .ref qf5, .ref qf6, .ref qf7, .ref qf8, .int v9, .int v10, .int v11, .int v12])), (qf1, .inl (cf1, 3001, .inl f1))] s.heap := hP
  have hl := lv_entry ([.ref h0, .int a1, .int a2]) (n := 3) (Nat.le_of_ble_eq_true rfl)
  rw [lg_entry_eq]
  generalize (lg_sl ([.ref h0, .int a1, .int a2]) ++ List.replicate (3 - (lg_sl ([.ref h0, .int a1, .int a2])).length) Slot.unset).toArray = ls at hl ⊢
  have hl : lv_has ls 3 [(0, .ref h0), (1, .int a1), (2, .int a2)] := hl
  obtain ⟨H, hH⟩ : ∃ H : Heap, s.heap = H := ⟨_, rfl⟩
  rw [hH] at hP ⊢
  have hS : va_S A s.heap H [] := by rw [← hH]; exact va_S.rf
  obtain ⟨locs, hlo⟩ : ∃ locs : List Loc, locs = [] := ⟨_, rfl⟩
  rw [← hlo] at hS ⊢
  unfold sp_t9_tell at hsp
  refine lv_aload_n hx hb dX9_tell_0 rfl (lv_at hl 0 rfl) ?_
  refine va_get (D := (dC, dI)) (ci := 9) (v := .int v11) (C := RX9) (T := TX9) (N := 13) hx hb hts uV_h4_X9 hown hK hP 0 rfl rfl 11 (by decide) (hts (.fieldLink RX9 80 "ClassMill$Text" "fault" "I") mw_h4_0) (fun _ h9 => h9) rfl dX9_tell_1 ?_
  refine lv_if_ne (tgt := 34) hx hb dX9_tell_4 (by decide) (fun c_1 => ?_) (fun c_1 => ?_)
  · rw [if_neg c_1] at hsp
    have hr0 := Option.some.inj hsp
    clear hsp
    obtain ⟨hq0, hr1⟩ := Prod.mk.inj hr0
    clear hr0
    subst hq0
    subst hr1
    have hP9 := hP.sub (ws' := [(h0, .inr (9, [.ref qf0, .ref qf1, .ref qf2, .int v3, .ref qf4, .ref qf5, .ref qf6, .ref qf7, .ref qf8, .int v9, .int v10, .int v11, .int v12])), (qf1, .inl (cf1, 3001, .inl f1))]) [0, 1] rfl
    have hD9 := hD.sub (ws' := [(h0, .inr (9, [.ref qf0, .ref qf1, .ref qf2, .int v3, .ref qf4, .ref qf5, .ref qf6, .ref qf7, .ref qf8, .int v9, .int v10, .int v11, .int v12])), (qf1, .inl (cf1, 3001, .inl f1))]) [0, 1] (by decide) rfl
    have hK9 := hK.sub (tys' := [(cf1, .int)]) [0] rfl
    exact W.vret hx hb hr (fun t ht hW => ⟨⟨(), rfl, trivial, by rw [ht]; exact hP9, va_K.moved hW.alike hK9, hD9⟩, hS.F ht⟩) hS.2.2 dX9_tell_34
  · rw [if_pos c_1] at hsp
    refine lv_iload_n hx hb dX9_tell_7 rfl (lv_at hl 2 rfl) ?_
    refine lv_if_lt (tgt := 34) hx hb dX9_tell_8 (by decide) (fun c_2 => ?_) (fun c_2 => ?_)
    · rw [if_pos c_2] at hsp
      have hr0 := Option.some.inj hsp
      clear hsp
      obtain ⟨hq0, hr1⟩ := Prod.mk.inj hr0
      clear hr0
      subst hq0
      subst hr1
      have hP9 := hP.sub (ws' := [(h0, .inr (9, [.ref qf0, .ref qf1, .ref qf2, .int v3, .ref qf4, .ref qf5, .ref qf6, .ref qf7, .ref qf8, .int v9, .int v10, .int v11, .int v12])), (qf1, .inl (cf1, 3001, .inl f1))]) [0, 1] rfl
      have hD9 := hD.sub (ws' := [(h0, .inr (9, [.ref qf0, .ref qf1, .ref qf2, .int v3, .ref qf4, .ref qf5, .ref qf6, .ref qf7, .ref qf8, .int v9, .int v10, .int v11, .int v12])), (qf1, .inl (cf1, 3001, .inl f1))]) [0, 1] (by decide) rfl
      have hK9 := hK.sub (tys' := [(cf1, .int)]) [0] rfl
      exact W.vret hx hb hr (fun t ht hW => ⟨⟨(), rfl, trivial, by rw [ht]; exact hP9, va_K.moved hW.alike hK9, hD9⟩, hS.F ht⟩) hS.2.2 dX9_tell_34
    · rw [if_neg c_2] at hsp
      refine lv_iload_n hx hb dX9_tell_11 rfl (lv_at hl 2 rfl) ?_
      refine lv_aload_n hx hb dX9_tell_12 rfl (lv_at hl 0 rfl) ?_
      refine va_get (D := (dC, dI)) (ci := 9) (v := .int v3) (C := RX9) (T := TX9) (N := 13) hx hb hts uV_h4_X9 hown hK hP 0 rfl rfl 3 (by decide) (hts (.fieldLink RX9 83 "ClassMill$Text" "count" "I") mw_h4_2) (fun _ h9 => h9) rfl dX9_tell_13 ?_
      refine lv_icmp_ge (tgt := 34) hx hb dX9_tell_16 (by decide) (fun c_3 => ?_) (fun c_3 => ?_)
      · rw [if_pos c_3] at hsp
        have hr0 := Option.some.inj hsp
        clear hsp
        obtain ⟨hq0, hr1⟩ := Prod.mk.inj hr0
        clear hr0
        subst hq0
        subst hr1
        have hP9 := hP.sub (ws' := [(h0, .inr (9, [.ref qf0, .ref qf1, .ref qf2, .int v3, .ref qf4, .ref qf5, .ref qf6, .ref qf7, .ref qf8, .int v9, .int v10, .int v11, .int v12])), (qf1, .inl (cf1, 3001, .inl f1))]) [0, 1] rfl
        have hD9 := hD.sub (ws' := [(h0, .inr (9, [.ref qf0, .ref qf1, .ref qf2, .int v3, .ref qf4, .ref qf5, .ref qf6, .ref qf7, .ref qf8, .int v9, .int v10, .int v11, .int v12])), (qf1, .inl (cf1, 3001, .inl f1))]) [0, 1] (by decide) rfl
        have hK9 := hK.sub (tys' := [(cf1, .int)]) [0] rfl
        exact W.vret hx hb hr (fun t ht hW => ⟨⟨(), rfl, trivial, by rw [ht]; exact hP9, va_K.moved hW.alike hK9, hD9⟩, hS.F ht⟩) hS.2.2 dX9_tell_34
      · rw [if_neg c_3] at hsp
        refine lv_aload_n hx hb dX9_tell_19 rfl (lv_at hl 0 rfl) ?_
        refine lv_iload_n hx hb dX9_tell_20 rfl (lv_at hl 1 rfl) ?_
        refine va_put (D := (dC, dI)) (ci := 9) (v := .int a1) (ty := .int) (C := RX9) (T := TX9) (N := 13) hx hb hts uV_h4_X9 tyX9 tyX9_ok nmX9 hown hK hP hD hS 0 rfl rfl 11 (by decide) (hts (.fieldLink RX9 80 "ClassMill$Text" "fault" "I") mw_h4_0) (fun _ h9 => h9) rfl (by decide +kernel) rfl rfl (Nat.le_of_ble_eq_true rfl) dX9_tell_21 ?_
        clear hP hD hS
        intro H locs hP hD hS
        replace hP : va_P (dC, dI) vwCl [(h0, .inr (9, [.ref qf0, .ref qf1, .ref qf2, .int v3, .ref qf4, .ref qf5, .ref qf6, .ref qf7, .ref qf8, .int v9, .int v10, .int a1, .int v12])), (qf1, .inl (cf1, 3001, .inl f1))] H := hP
        replace hD : va_D A [(h0, .inr (9, [.ref qf0, .ref qf1, .ref qf2, .int v3, .ref qf4, .ref qf5, .ref qf6, .ref qf7, .ref qf8, .int v9, .int v10, .int a1, .int v12])), (qf1, .inl (cf1, 3001, .inl f1))] := hD
        refine lv_aload_n hx hb dX9_tell_24 rfl (lv_at hl 0 rfl) ?_
        refine lv_aload_n hx hb dX9_tell_25 rfl (lv_at hl 0 rfl) ?_
        refine va_get (D := (dC, dI)) (ci := 9) (v := .ref qf1) (C := RX9) (T := TX9) (N := 13) hx hb hts uV_h4_X9 hown hK hP 0 rfl rfl 1 (by decide) (hts (.fieldLink RX9 19 "ClassMill$Text" "places" "[I") mw_h4_3) (fun _ h9 => h9) rfl dX9_tell_26 ?_
        refine lv_iload_n hx hb dX9_tell_29 rfl (lv_at hl 2 rfl) ?_
        obtain ⟨hi_4, hsp⟩ := ox_in hsp
        refine va_iald hx hb hK hP 1 0 rfl rfl (i := a2) hi_4 dX9_tell_30 ?_
        refine va_put (D := (dC, dI)) (ci := 9) (v := .int (f1 (a2 : Int32).toNatClampNeg)) (ty := .int) (C := RX9) (T := TX9) (N := 13) hx hb hts uV_h4_X9 tyX9 tyX9_ok nmX9 hown hK hP hD hS 0 rfl rfl 12 (by decide) (hts (.fieldLink RX9 41 "ClassMill$Text" "place" "I") mw_h4_1) (fun _ h9 => h9) rfl (by decide +kernel) rfl rfl (Nat.le_of_ble_eq_true rfl) dX9_tell_31 ?_
        clear hP hD hS
        intro H locs hP hD hS
        replace hP : va_P (dC, dI) vwCl [(h0, .inr (9, [.ref qf0, .ref qf1, .ref qf2, .int v3, .ref qf4, .ref qf5, .ref qf6, .ref qf7, .ref qf8, .int v9, .int v10, .int a1, .int (f1 (a2 : Int32).toNatClampNeg)])), (qf1, .inl (cf1, 3001, .inl f1))] H := hP
        replace hD : va_D A [(h0, .inr (9, [.ref qf0, .ref qf1, .ref qf2, .int v3, .ref qf4, .ref qf5, .ref qf6, .ref qf7, .ref qf8, .int v9, .int v10, .int a1, .int (f1 (a2 : Int32).toNatClampNeg)])), (qf1, .inl (cf1, 3001, .inl f1))] := hD
        have hr0 := Option.some.inj hsp
        clear hsp
        obtain ⟨hq0, hr1⟩ := Prod.mk.inj hr0
        clear hr0
        subst hq0
        subst hr1
        have hP9 := hP.sub (ws' := [(h0, .inr (9, [.ref qf0, .ref qf1, .ref qf2, .int v3, .ref qf4, .ref qf5, .ref qf6, .ref qf7, .ref qf8, .int v9, .int v10, .int a1, .int (f1 (a2 : Int32).toNatClampNeg)])), (qf1, .inl (cf1, 3001, .inl f1))]) [0, 1] rfl
        have hD9 := hD.sub (ws' := [(h0, .inr (9, [.ref qf0, .ref qf1, .ref qf2, .int v3, .ref qf4, .ref qf5, .ref qf6, .ref qf7, .ref qf8, .int v9, .int v10, .int a1, .int (f1 (a2 : Int32).toNatClampNeg)])), (qf1, .inl (cf1, 3001, .inl f1))]) [0, 1] (by decide) rfl
        have hK9 := hK.sub (tys' := [(cf1, .int)]) [0] rfl
        exact W.vret hx hb hr (fun t ht hW => ⟨⟨(), rfl, trivial, by rw [ht]; exact hP9, va_K.moved hW.alike hK9, hD9⟩, hS.F ht⟩) hS.2.2 dX9_tell_34
def sp_t9_tellHere (nf : Nat) (a1 : Int32) (v3 : Int32) (v10 : Int32) (v11 : Int32) (v12 : Int32) (f0 : Nat → Int32) (f1 : Nat → Int32) : Option (Int32 × Int32) := (if v11 = 0 then (if v10 < 0 then (some (v11, v12)) else (if v3 ≤ v10 then (some (v11, v12)) else (if v10 < 0 then none else if 3001 ≤ (v10 : Int32).toNatClampNeg then none else (if (f0 (v10 : Int32).toNatClampNeg) = 1 then (if v10 < 0 then none else if 3001 ≤ (v10 : Int32).toNatClampNeg then none else (some (1, (f1 (v10 : Int32).toNatClampNeg)))) else (if v10 < 0 then none else if 3001 ≤ (v10 : Int32).toNatClampNeg then none else (some (a1, (f1 (v10 : Int32).toNatClampNeg)))))))) else (some (v11, v12)))
set_option maxHeartbeats 4000000 in
set_option maxRecDepth 100000 in
/-- ClassMill$Text.tellHere -/
theorem t9_tellHere (l : Launch) (dC : Nat → ClassId) (dI : Nat → Nat → Nat) (sz : Nat) (h0 : Nat) (a1 : Int32) (qf0 : Nat) (qf1 : Nat) (qf2 : Nat) (v3 : Int32) (qf4 : Nat) (qf5 : Nat) (qf6 : Nat) (qf7 : Nat) (qf8 : Nat) (v9 : Int32) (v10 : Int32) (v11 : Int32) (v12 : Int32) (cf0 : ClassId) (f0 : (Nat → Int32)) (cf1 : ClassId) (f1 : (Nat → Int32)) (nf : Nat) (w11 : Int32) (w12 : Int32) (hsp : sp_t9_tellHere nf a1 v3 v10 v11 v12 f0 f1 = some (w11, w12)) : Met l yX9_tellHere (.code yX9_tellHere cX9_tellHere 2 none :: VS_h4) ({ frames := 0, cells := 0, slots := 0, locals := 0 }) (va_Pc [.ref h0, .int a1] (fun U => U.heap.size = sz ∧ va_P (dC, dI) vwCl [(h0, .inr (9, [.ref qf0, .ref qf1, .ref qf2, .int v3, .ref qf4, .ref qf5, .ref qf6, .ref qf7, .ref qf8, .int v9, .int v10, .int v11, .int v12])), (qf0, .inl (cf0, 3001, .inl f0)), (qf1, .inl (cf1, 3001, .inl f1))] U.heap ∧ va_K (dC, dI) vwCl [(cf0, .int), (cf1, .int)] U ∧ va_D (fun _ => True) [(h0, .inr (9, [.ref qf0, .ref qf1, .ref qf2, .int v3, .ref qf4, .ref qf5, .ref qf6, .ref qf7, .ref qf8, .int v9, .int v10, .int v11, .int v12])), (qf0, .inl (cf0, 3001, .inl f0)), (qf1, .inl (cf1, 3001, .inl f1))])) (va_Qv (fun (u : Unit) => match u with | () => True) (fun (u : Unit) (t : State) => match u with | () => va_P (dC, dI) vwCl [(h0, .inr (9, [.ref qf0, .ref qf1, .ref qf2, .int v3, .ref qf4, .ref qf5, .ref qf6, .ref qf7, .ref qf8, .int v9, .int v10, .int w11, .int w12])), (qf0, .inl (cf0, 3001, .inl f0)), (qf1, .inl (cf1, 3001, .inl f1))] t.heap ∧ va_K (dC, dI) vwCl [(cf0, .int), (cf1, .int)] t ∧ va_D (va_A [(h0, .inr (9, [.ref qf0, .ref qf1, .ref qf2, .int v3, .ref qf4, .ref qf5, .ref qf6, .ref qf7, .ref qf8, .int v9, .int v10, .int v11, .int v12])), (qf0, .inl (cf0, 3001, .inl f0)), (qf1, .inl (cf1, 3001, .inl f1))] sz) [(h0, .inr (9, [.ref qf0, .ref qf1, .ref qf2, .int v3, .ref qf4, .ref qf5, .ref qf6, .ref qf7, .ref qf8, .int v9, .int v10, .int w11, .int w12])), (qf0, .inl (cf0, 3001, .inl f0)), (qf1, .inl (cf1, 3001, .inl f1))]) (va_A [(h0, .inr (9, [.ref qf0, .ref qf1, .ref qf2, .int v3, .ref qf4, .ref qf5, .ref qf6, .ref qf7, .ref qf8, .int v9, .int v10, .int v11, .int v12])), (qf0, .inl (cf0, 3001, .inl f0)), (qf1, .inl (cf1, 3001, .inl f1))] sz)) 0 0 (va_A [(h0, .inr (9, [.ref qf0, .ref qf1, .ref qf2, .int v3, .ref qf4, .ref qf5, .ref qf6, .ref qf7, .ref qf8, .int v9, .int v10, .int v11, .int v12])), (qf0, .inl (cf0, 3001, .inl f0)), (qf1, .inl (cf1, 3001, .inl f1))] sz) := by
  refine Met.ofW (cc := cX9_tellHere) (maxL := 2) (ret := none) (by decide) rfl ?_
  intro p e s m args below meth c s₁ B hml hv
  obtain ⟨rfl, hsz, hP, hK, hD0⟩ := hv
  have hx := B.exec
  have hb := B.bytes
  have hr := B.returns
  have hts := atoms_spec (ws := (.code yX9_tellHere cX9_tellHere 2 none :: VS_h4)) B.pre
  replace hts := fun w (h : w ∈ VS_h4) => hts w (List.mem_cons_of_mem _ h)
  have hown : s.vm.findClass RX9 = some m.cls := findClass_of_methodNamed B.named
  have hlocks := B.notSynchronized
  subst hsz
  have hD := hD0.self (sz := s.heap.size)
  generalize hAe : va_A [(h0, .inr (9, [.ref qf0, .ref qf1, .ref qf2, .int v3, .ref qf4, .ref qf5, .ref qf6, .ref qf7, .ref qf8, .int v9, .int v10, .int v11, .int v12])), (qf0, .inl (cf0, 3001, .inl f0)), (qf1, .inl (cf1, 3001, .inl f1))] s.heap.size = A at hD  ⊢
  have hA : ∀ q : Nat, s.heap.size ≤ q → A q := fun q h => by rw [← hAe]; exact Or.inr h
  have hP : va_P (dC, dI) vwCl [(h0, .inr (9, [.ref qf0, .ref qf1, .ref qf2, .int v3, .ref qf4, .ref qf5, .ref qf6, .ref qf7, .ref qf8, .int v9, .int v10, .int v11, .int v12])), (qf0, .inl (cf0, 3001, .inl f0)), (qf1, .inl (cf1, 3001, .inl f1))] s.heap := hP
  have hl := lv_entry ([.ref h0, .int a1]) (n := 2) (Nat.le_of_ble_eq_true rfl)
  rw [lg_entry_eq]
  generalize (lg_sl ([.ref h0, .int a1]) ++ List.replicate (2 - (lg_sl ([.ref h0, .int a1])).length) Slot.unset).toArray = ls at hl ⊢
  have hl : lv_has ls 2 [(0, .ref h0), (1, .int a1)] := hl
  obtain ⟨H, hH⟩ : ∃ H : Heap, s.heap = H := ⟨_, rfl⟩
  rw [hH] at hP ⊢
  have hS : va_S A s.heap H [] := by rw [← hH]; exact va_S.rf
  obtain ⟨locs, hlo⟩ : ∃ locs : List Loc, locs = [] := ⟨_, rfl⟩
  rw [← hlo] at hS ⊢
  unfold sp_t9_tellHere at hsp
  refine lv_aload_n hx hb dX9_tellHere_0 rfl (lv_at hl 0 rfl) ?_
  refine va_get (D := (dC, dI)) (ci := 9) (v := .int v11) (C := RX9) (T := TX9) (N := 13) hx hb hts uV_h4_X9 hown hK hP 0 rfl rfl 11 (by decide) (hts (.fieldLink RX9 80 "ClassMill$Text" "fault" "I") mw_h4_0) (fun _ h9 => h9) rfl dX9_tellHere_1 ?_
  refine lv_if_ne (tgt := 60) hx hb dX9_tellHere_4 (by decide) (fun c_1 => ?_) (fun c_1 => ?_)
  · rw [if_neg c_1] at hsp
    have hr0 := Option.some.inj hsp
    clear hsp
    obtain ⟨hq0, hr1⟩ := Prod.mk.inj hr0
    clear hr0
    subst hq0
    subst hr1
    have hP9 := hP.sub (ws' := [(h0, .inr (9, [.ref qf0, .ref qf1, .ref qf2, .int v3, .ref qf4, .ref qf5, .ref qf6, .ref qf7, .ref qf8, .int v9, .int v10, .int v11, .int v12])), (qf0, .inl (cf0, 3001, .inl f0)), (qf1, .inl (cf1, 3001, .inl f1))]) [0, 1, 2] rfl
    have hD9 := hD.sub (ws' := [(h0, .inr (9, [.ref qf0, .ref qf1, .ref qf2, .int v3, .ref qf4, .ref qf5, .ref qf6, .ref qf7, .ref qf8, .int v9, .int v10, .int v11, .int v12])), (qf0, .inl (cf0, 3001, .inl f0)), (qf1, .inl (cf1, 3001, .inl f1))]) [0, 1, 2] (by decide) rfl
    have hK9 := hK.sub (tys' := [(cf0, .int), (cf1, .int)]) [0, 1] rfl
    exact W.vret hx hb hr (fun t ht hW => ⟨⟨(), rfl, trivial, by rw [ht]; exact hP9, va_K.moved hW.alike hK9, hD9⟩, hS.F ht⟩) hS.2.2 dX9_tellHere_60
  · rw [if_pos c_1] at hsp
    refine lv_aload_n hx hb dX9_tellHere_7 rfl (lv_at hl 0 rfl) ?_
    refine va_get (D := (dC, dI)) (ci := 9) (v := .int v10) (C := RX9) (T := TX9) (N := 13) hx hb hts uV_h4_X9 hown hK hP 0 rfl rfl 10 (by decide) (hts (.fieldLink RX9 86 "ClassMill$Text" "pos" "I") mw_h4_4) (fun _ h9 => h9) rfl dX9_tellHere_8 ?_
    refine lv_if_lt (tgt := 60) hx hb dX9_tellHere_11 (by decide) (fun c_2 => ?_) (fun c_2 => ?_)
    · rw [if_pos c_2] at hsp
      have hr0 := Option.some.inj hsp
      clear hsp
      obtain ⟨hq0, hr1⟩ := Prod.mk.inj hr0
      clear hr0
      subst hq0
      subst hr1
      have hP9 := hP.sub (ws' := [(h0, .inr (9, [.ref qf0, .ref qf1, .ref qf2, .int v3, .ref qf4, .ref qf5, .ref qf6, .ref qf7, .ref qf8, .int v9, .int v10, .int v11, .int v12])), (qf0, .inl (cf0, 3001, .inl f0)), (qf1, .inl (cf1, 3001, .inl f1))]) [0, 1, 2] rfl
      have hD9 := hD.sub (ws' := [(h0, .inr (9, [.ref qf0, .ref qf1, .ref qf2, .int v3, .ref qf4, .ref qf5, .ref qf6, .ref qf7, .ref qf8, .int v9, .int v10, .int v11, .int v12])), (qf0, .inl (cf0, 3001, .inl f0)), (qf1, .inl (cf1, 3001, .inl f1))]) [0, 1, 2] (by decide) rfl
      have hK9 := hK.sub (tys' := [(cf0, .int), (cf1, .int)]) [0, 1] rfl
      exact W.vret hx hb hr (fun t ht hW => ⟨⟨(), rfl, trivial, by rw [ht]; exact hP9, va_K.moved hW.alike hK9, hD9⟩, hS.F ht⟩) hS.2.2 dX9_tellHere_60
    · rw [if_neg c_2] at hsp
      refine lv_aload_n hx hb dX9_tellHere_14 rfl (lv_at hl 0 rfl) ?_
      refine va_get (D := (dC, dI)) (ci := 9) (v := .int v10) (C := RX9) (T := TX9) (N := 13) hx hb hts uV_h4_X9 hown hK hP 0 rfl rfl 10 (by decide) (hts (.fieldLink RX9 86 "ClassMill$Text" "pos" "I") mw_h4_4) (fun _ h9 => h9) rfl dX9_tellHere_15 ?_
      refine lv_aload_n hx hb dX9_tellHere_18 rfl (lv_at hl 0 rfl) ?_
      refine va_get (D := (dC, dI)) (ci := 9) (v := .int v3) (C := RX9) (T := TX9) (N := 13) hx hb hts uV_h4_X9 hown hK hP 0 rfl rfl 3 (by decide) (hts (.fieldLink RX9 83 "ClassMill$Text" "count" "I") mw_h4_2) (fun _ h9 => h9) rfl dX9_tellHere_19 ?_
      refine lv_icmp_ge (tgt := 60) hx hb dX9_tellHere_22 (by decide) (fun c_3 => ?_) (fun c_3 => ?_)
      · rw [if_pos c_3] at hsp
        have hr0 := Option.some.inj hsp
        clear hsp
        obtain ⟨hq0, hr1⟩ := Prod.mk.inj hr0
        clear hr0
        subst hq0
        subst hr1
        have hP9 := hP.sub (ws' := [(h0, .inr (9, [.ref qf0, .ref qf1, .ref qf2, .int v3, .ref qf4, .ref qf5, .ref qf6, .ref qf7, .ref qf8, .int v9, .int v10, .int v11, .int v12])), (qf0, .inl (cf0, 3001, .inl f0)), (qf1, .inl (cf1, 3001, .inl f1))]) [0, 1, 2] rfl
        have hD9 := hD.sub (ws' := [(h0, .inr (9, [.ref qf0, .ref qf1, .ref qf2, .int v3, .ref qf4, .ref qf5, .ref qf6, .ref qf7, .ref qf8, .int v9, .int v10, .int v11, .int v12])), (qf0, .inl (cf0, 3001, .inl f0)), (qf1, .inl (cf1, 3001, .inl f1))]) [0, 1, 2] (by decide) rfl
        have hK9 := hK.sub (tys' := [(cf0, .int), (cf1, .int)]) [0, 1] rfl
        exact W.vret hx hb hr (fun t ht hW => ⟨⟨(), rfl, trivial, by rw [ht]; exact hP9, va_K.moved hW.alike hK9, hD9⟩, hS.F ht⟩) hS.2.2 dX9_tellHere_60
      · rw [if_neg c_3] at hsp
        refine lv_aload_n hx hb dX9_tellHere_25 rfl (lv_at hl 0 rfl) ?_
        refine lv_aload_n hx hb dX9_tellHere_26 rfl (lv_at hl 0 rfl) ?_
        refine va_get (D := (dC, dI)) (ci := 9) (v := .ref qf0) (C := RX9) (T := TX9) (N := 13) hx hb hts uV_h4_X9 hown hK hP 0 rfl rfl 0 (by decide) (hts (.fieldLink RX9 15 "ClassMill$Text" "kinds" "[I") mw_h4_5) (fun _ h9 => h9) rfl dX9_tellHere_27 ?_
        refine lv_aload_n hx hb dX9_tellHere_30 rfl (lv_at hl 0 rfl) ?_
        refine va_get (D := (dC, dI)) (ci := 9) (v := .int v10) (C := RX9) (T := TX9) (N := 13) hx hb hts uV_h4_X9 hown hK hP 0 rfl rfl 10 (by decide) (hts (.fieldLink RX9 86 "ClassMill$Text" "pos" "I") mw_h4_4) (fun _ h9 => h9) rfl dX9_tellHere_31 ?_
        obtain ⟨hi_4, hsp⟩ := ox_in hsp
        refine va_iald hx hb hK hP 1 0 rfl rfl (i := v10) hi_4 dX9_tellHere_34 ?_
        refine lv_iconst (v := 1) hx hb dX9_tellHere_35 (by decide) ?_
        refine lv_icmp_ne (tgt := 43) hx hb dX9_tellHere_36 (by decide) (fun c_5 => ?_) (fun c_5 => ?_)
        · rw [if_neg c_5] at hsp
          refine lv_iload_n hx hb dX9_tellHere_43 rfl (lv_at hl 1 rfl) ?_
          refine va_put (D := (dC, dI)) (ci := 9) (v := .int a1) (ty := .int) (C := RX9) (T := TX9) (N := 13) hx hb hts uV_h4_X9 tyX9 tyX9_ok nmX9 hown hK hP hD hS 0 rfl rfl 11 (by decide) (hts (.fieldLink RX9 80 "ClassMill$Text" "fault" "I") mw_h4_0) (fun _ h9 => h9) rfl (by decide +kernel) rfl rfl (Nat.le_of_ble_eq_true rfl) dX9_tellHere_44 ?_
          clear hP hD hS
          intro H locs hP hD hS
          replace hP : va_P (dC, dI) vwCl [(h0, .inr (9, [.ref qf0, .ref qf1, .ref qf2, .int v3, .ref qf4, .ref qf5, .ref qf6, .ref qf7, .ref qf8, .int v9, .int v10, .int a1, .int v12])), (qf0, .inl (cf0, 3001, .inl f0)), (qf1, .inl (cf1, 3001, .inl f1))] H := hP
          replace hD : va_D A [(h0, .inr (9, [.ref qf0, .ref qf1, .ref qf2, .int v3, .ref qf4, .ref qf5, .ref qf6, .ref qf7, .ref qf8, .int v9, .int v10, .int a1, .int v12])), (qf0, .inl (cf0, 3001, .inl f0)), (qf1, .inl (cf1, 3001, .inl f1))] := hD
          refine lv_aload_n hx hb dX9_tellHere_47 rfl (lv_at hl 0 rfl) ?_
          refine lv_aload_n hx hb dX9_tellHere_48 rfl (lv_at hl 0 rfl) ?_
          refine va_get (D := (dC, dI)) (ci := 9) (v := .ref qf1) (C := RX9) (T := TX9) (N := 13) hx hb hts uV_h4_X9 hown hK hP 0 rfl rfl 1 (by decide) (hts (.fieldLink RX9 19 "ClassMill$Text" "places" "[I") mw_h4_3) (fun _ h9 => h9) rfl dX9_tellHere_49 ?_
          refine lv_aload_n hx hb dX9_tellHere_52 rfl (lv_at hl 0 rfl) ?_
          refine va_get (D := (dC, dI)) (ci := 9) (v := .int v10) (C := RX9) (T := TX9) (N := 13) hx hb hts uV_h4_X9 hown hK hP 0 rfl rfl 10 (by decide) (hts (.fieldLink RX9 86 "ClassMill$Text" "pos" "I") mw_h4_4) (fun _ h9 => h9) rfl dX9_tellHere_53 ?_
          obtain ⟨hi_6, hsp⟩ := ox_in hsp
          refine va_iald hx hb hK hP 2 1 rfl rfl (i := v10) hi_6 dX9_tellHere_56 ?_
          refine va_put (D := (dC, dI)) (ci := 9) (v := .int (f1 (v10 : Int32).toNatClampNeg)) (ty := .int) (C := RX9) (T := TX9) (N := 13) hx hb hts uV_h4_X9 tyX9 tyX9_ok nmX9 hown hK hP hD hS 0 rfl rfl 12 (by decide) (hts (.fieldLink RX9 41 "ClassMill$Text" "place" "I") mw_h4_1) (fun _ h9 => h9) rfl (by decide +kernel) rfl rfl (Nat.le_of_ble_eq_true rfl) dX9_tellHere_57 ?_
          clear hP hD hS
          intro H locs hP hD hS
          replace hP : va_P (dC, dI) vwCl [(h0, .inr (9, [.ref qf0, .ref qf1, .ref qf2, .int v3, .ref qf4, .ref qf5, .ref qf6, .ref qf7, .ref qf8, .int v9, .int v10, .int a1, .int (f1 (v10 : Int32).toNatClampNeg)])), (qf0, .inl (cf0, 3001, .inl f0)), (qf1, .inl (cf1, 3001, .inl f1))] H := hP
          replace hD : va_D A [(h0, .inr (9, [.ref qf0, .ref qf1, .ref qf2, .int v3, .ref qf4, .ref qf5, .ref qf6, .ref qf7, .ref qf8, .int v9, .int v10, .int a1, .int (f1 (v10 : Int32).toNatClampNeg)])), (qf0, .inl (cf0, 3001, .inl f0)), (qf1, .inl (cf1, 3001, .inl f1))] := hD
          have hr0 := Option.some.inj hsp
          clear hsp
          obtain ⟨hq0, hr1⟩ := Prod.mk.inj hr0
          clear hr0
          subst hq0
          subst hr1
          have hP9 := hP.sub (ws' := [(h0, .inr (9, [.ref qf0, .ref qf1, .ref qf2, .int v3, .ref qf4, .ref qf5, .ref qf6, .ref qf7, .ref qf8, .int v9, .int v10, .int a1, .int (f1 (v10 : Int32).toNatClampNeg)])), (qf0, .inl (cf0, 3001, .inl f0)), (qf1, .inl (cf1, 3001, .inl f1))]) [0, 1, 2] rfl
          have hD9 := hD.sub (ws' := [(h0, .inr (9, [.ref qf0, .ref qf1, .ref qf2, .int v3, .ref qf4, .ref qf5, .ref qf6, .ref qf7, .ref qf8, .int v9, .int v10, .int a1, .int (f1 (v10 : Int32).toNatClampNeg)])), (qf0, .inl (cf0, 3001, .inl f0)), (qf1, .inl (cf1, 3001, .inl f1))]) [0, 1, 2] (by decide) rfl
          have hK9 := hK.sub (tys' := [(cf0, .int), (cf1, .int)]) [0, 1] rfl
          exact W.vret hx hb hr (fun t ht hW => ⟨⟨(), rfl, trivial, by rw [ht]; exact hP9, va_K.moved hW.alike hK9, hD9⟩, hS.F ht⟩) hS.2.2 dX9_tellHere_60
        · rw [if_pos c_5] at hsp
          refine lv_iconst (v := 1) hx hb dX9_tellHere_39 (by decide) ?_
          refine lv_goto (tgt := 44) hx hb dX9_tellHere_40 (by decide) ?_
          refine va_put (D := (dC, dI)) (ci := 9) (v := .int 1) (ty := .int) (C := RX9) (T := TX9) (N := 13) hx hb hts uV_h4_X9 tyX9 tyX9_ok nmX9 hown hK hP hD hS 0 rfl rfl 11 (by decide) (hts (.fieldLink RX9 80 "ClassMill$Text" "fault" "I") mw_h4_0) (fun _ h9 => h9) rfl (by decide +kernel) rfl rfl (Nat.le_of_ble_eq_true rfl) dX9_tellHere_44 ?_
          clear hP hD hS
          intro H locs hP hD hS
          replace hP : va_P (dC, dI) vwCl [(h0, .inr (9, [.ref qf0, .ref qf1, .ref qf2, .int v3, .ref qf4, .ref qf5, .ref qf6, .ref qf7, .ref qf8, .int v9, .int v10, .int 1, .int v12])), (qf0, .inl (cf0, 3001, .inl f0)), (qf1, .inl (cf1, 3001, .inl f1))] H := hP
          replace hD : va_D A [(h0, .inr (9, [.ref qf0, .ref qf1, .ref qf2, .int v3, .ref qf4, .ref qf5, .ref qf6, .ref qf7, .ref qf8, .int v9, .int v10, .int 1, .int v12])), (qf0, .inl (cf0, 3001, .inl f0)), (qf1, .inl (cf1, 3001, .inl f1))] := hD
          refine lv_aload_n hx hb dX9_tellHere_47 rfl (lv_at hl 0 rfl) ?_
          refine lv_aload_n hx hb dX9_tellHere_48 rfl (lv_at hl 0 rfl) ?_
          refine va_get (D := (dC, dI)) (ci := 9) (v := .ref qf1) (C := RX9) (T := TX9) (N := 13) hx hb hts uV_h4_X9 hown hK hP 0 rfl rfl 1 (by decide) (hts (.fieldLink RX9 19 "ClassMill$Text" "places" "[I") mw_h4_3) (fun _ h9 => h9) rfl dX9_tellHere_49 ?_
          refine lv_aload_n hx hb dX9_tellHere_52 rfl (lv_at hl 0 rfl) ?_
          refine va_get (D := (dC, dI)) (ci := 9) (v := .int v10) (C := RX9) (T := TX9) (N := 13) hx hb hts uV_h4_X9 hown hK hP 0 rfl rfl 10 (by decide) (hts (.fieldLink RX9 86 "ClassMill$Text" "pos" "I") mw_h4_4) (fun _ h9 => h9) rfl dX9_tellHere_53 ?_
          obtain ⟨hi_7, hsp⟩ := ox_in hsp
          refine va_iald hx hb hK hP 2 1 rfl rfl (i := v10) hi_7 dX9_tellHere_56 ?_
          refine va_put (D := (dC, dI)) (ci := 9) (v := .int (f1 (v10 : Int32).toNatClampNeg)) (ty := .int) (C := RX9) (T := TX9) (N := 13) hx hb hts uV_h4_X9 tyX9 tyX9_ok nmX9 hown hK hP hD hS 0 rfl rfl 12 (by decide) (hts (.fieldLink RX9 41 "ClassMill$Text" "place" "I") mw_h4_1) (fun _ h9 => h9) rfl (by decide +kernel) rfl rfl (Nat.le_of_ble_eq_true rfl) dX9_tellHere_57 ?_
          clear hP hD hS
          intro H locs hP hD hS
          replace hP : va_P (dC, dI) vwCl [(h0, .inr (9, [.ref qf0, .ref qf1, .ref qf2, .int v3, .ref qf4, .ref qf5, .ref qf6, .ref qf7, .ref qf8, .int v9, .int v10, .int 1, .int (f1 (v10 : Int32).toNatClampNeg)])), (qf0, .inl (cf0, 3001, .inl f0)), (qf1, .inl (cf1, 3001, .inl f1))] H := hP
          replace hD : va_D A [(h0, .inr (9, [.ref qf0, .ref qf1, .ref qf2, .int v3, .ref qf4, .ref qf5, .ref qf6, .ref qf7, .ref qf8, .int v9, .int v10, .int 1, .int (f1 (v10 : Int32).toNatClampNeg)])), (qf0, .inl (cf0, 3001, .inl f0)), (qf1, .inl (cf1, 3001, .inl f1))] := hD
          have hr0 := Option.some.inj hsp
          clear hsp
          obtain ⟨hq0, hr1⟩ := Prod.mk.inj hr0
          clear hr0
          subst hq0
          subst hr1
          have hP9 := hP.sub (ws' := [(h0, .inr (9, [.ref qf0, .ref qf1, .ref qf2, .int v3, .ref qf4, .ref qf5, .ref qf6, .ref qf7, .ref qf8, .int v9, .int v10, .int 1, .int (f1 (v10 : Int32).toNatClampNeg)])), (qf0, .inl (cf0, 3001, .inl f0)), (qf1, .inl (cf1, 3001, .inl f1))]) [0, 1, 2] rfl
          have hD9 := hD.sub (ws' := [(h0, .inr (9, [.ref qf0, .ref qf1, .ref qf2, .int v3, .ref qf4, .ref qf5, .ref qf6, .ref qf7, .ref qf8, .int v9, .int v10, .int 1, .int (f1 (v10 : Int32).toNatClampNeg)])), (qf0, .inl (cf0, 3001, .inl f0)), (qf1, .inl (cf1, 3001, .inl f1))]) [0, 1, 2] (by decide) rfl
          have hK9 := hK.sub (tys' := [(cf0, .int), (cf1, .int)]) [0, 1] rfl
          exact W.vret hx hb hr (fun t ht hW => ⟨⟨(), rfl, trivial, by rw [ht]; exact hP9, va_K.moved hW.alike hK9, hD9⟩, hS.F ht⟩) hS.2.2 dX9_tellHere_60
def sp_t9_kindAt (nf : Nat) (a1 : Int32) (v3 : Int32) (f0 : Nat → Int32) : Option (Int32) := (if a1 < 0 then (some 0) else (if v3 ≤ a1 then (some 0) else (if a1 < 0 then none else if 3001 ≤ (a1 : Int32).toNatClampNeg then none else (some (f0 (a1 : Int32).toNatClampNeg)))))
set_option maxHeartbeats 4000000 in
set_option maxRecDepth 100000 in
/-- ClassMill$Text.kindAt -/
theorem t9_kindAt (l : Launch) (dC : Nat → ClassId) (dI : Nat → Nat → Nat) (sz : Nat) (h0 : Nat) (a1 : Int32) (qf0 : Nat) (qf1 : Nat) (qf2 : Nat) (v3 : Int32) (qf4 : Nat) (qf5 : Nat) (qf6 : Nat) (qf7 : Nat) (qf8 : Nat) (v9 : Int32) (v10 : Int32) (v11 : Int32) (v12 : Int32) (cf0 : ClassId) (f0 : (Nat → Int32)) (nf : Nat) (r0 : Int32) (hsp : sp_t9_kindAt nf a1 v3 f0 = some r0) : Met l yX9_kindAt (.code yX9_kindAt cX9_kindAt 2 (some .int) :: VS_h4) ({ frames := 0, cells := 0, slots := 0, locals := 0 }) (va_Pc [.ref h0, .int a1] (fun U => U.heap.size = sz ∧ va_P (dC, dI) vwCl [(h0, .inr (9, [.ref qf0, .ref qf1, .ref qf2, .int v3, .ref qf4, .ref qf5, .ref qf6, .ref qf7, .ref qf8, .int v9, .int v10, .int v11, .int v12])), (qf0, .inl (cf0, 3001, .inl f0))] U.heap ∧ va_K (dC, dI) vwCl [(cf0, .int)] U ∧ va_D (fun _ => True) [(h0, .inr (9, [.ref qf0, .ref qf1, .ref qf2, .int v3, .ref qf4, .ref qf5, .ref qf6, .ref qf7, .ref qf8, .int v9, .int v10, .int v11, .int v12])), (qf0, .inl (cf0, 3001, .inl f0))])) (va_Qi (fun (r : Int32) (u : Unit) => match u with | () => r0 = r) (fun (u : Unit) (t : State) => match u with | () => va_P (dC, dI) vwCl [(h0, .inr (9, [.ref qf0, .ref qf1, .ref qf2, .int v3, .ref qf4, .ref qf5, .ref qf6, .ref qf7, .ref qf8, .int v9, .int v10, .int v11, .int v12])), (qf0, .inl (cf0, 3001, .inl f0))] t.heap ∧ va_K (dC, dI) vwCl [(cf0, .int)] t ∧ va_D (va_A [(h0, .inr (9, [.ref qf0, .ref qf1, .ref qf2, .int v3, .ref qf4, .ref qf5, .ref qf6, .ref qf7, .ref qf8, .int v9, .int v10, .int v11, .int v12])), (qf0, .inl (cf0, 3001, .inl f0))] sz) [(h0, .inr (9, [.ref qf0, .ref qf1, .ref qf2, .int v3, .ref qf4, .ref qf5, .ref qf6, .ref qf7, .ref qf8, .int v9, .int v10, .int v11, .int v12])), (qf0, .inl (cf0, 3001, .inl f0))]) (va_A [(h0, .inr (9, [.ref qf0, .ref qf1, .ref qf2, .int v3, .ref qf4, .ref qf5, .ref qf6, .ref qf7, .ref qf8, .int v9, .int v10, .int v11, .int v12])), (qf0, .inl (cf0, 3001, .inl f0))] sz)) 0 0 (va_A [(h0, .inr (9, [.ref qf0, .ref qf1, .ref qf2, .int v3, .ref qf4, .ref qf5, .ref qf6, .ref qf7, .ref qf8, .int v9, .int v10, .int v11, .int v12])), (qf0, .inl (cf0, 3001, .inl f0))] sz) := by
  refine Met.ofW (cc := cX9_kindAt) (maxL := 2) (ret := (some .int)) (by decide) rfl ?_
  intro p e s m args below meth c s₁ B hml hv
  obtain ⟨rfl, hsz, hP, hK, hD0⟩ := hv
  have hx := B.exec
  have hb := B.bytes
  have hr := B.returns
  have hts := atoms_spec (ws := (.code yX9_kindAt cX9_kindAt 2 (some .int) :: VS_h4)) B.pre
  replace hts := fun w (h : w ∈ VS_h4) => hts w (List.mem_cons_of_mem _ h)
  have hown : s.vm.findClass RX9 = some m.cls := findClass_of_methodNamed B.named
  have hlocks := B.notSynchronized
  subst hsz
  have hD := hD0.self (sz := s.heap.size)
  generalize hAe : va_A [(h0, .inr (9, [.ref qf0, .ref qf1, .ref qf2, .int v3, .ref qf4, .ref qf5, .ref qf6, .ref qf7, .ref qf8, .int v9, .int v10, .int v11, .int v12])), (qf0, .inl (cf0, 3001, .inl f0))] s.heap.size = A at hD  ⊢
  have hA : ∀ q : Nat, s.heap.size ≤ q → A q := fun q h => by rw [← hAe]; exact Or.inr h
  have hP : va_P (dC, dI) vwCl [(h0, .inr (9, [.ref qf0, .ref qf1, .ref qf2, .int v3, .ref qf4, .ref qf5, .ref qf6, .ref qf7, .ref qf8, .int v9, .int v10, .int v11, .int v12])), (qf0, .inl (cf0, 3001, .inl f0))] s.heap := hP
  have hl := lv_entry ([.ref h0, .int a1]) (n := 2) (Nat.le_of_ble_eq_true rfl)
  rw [lg_entry_eq]
  generalize (lg_sl ([.ref h0, .int a1]) ++ List.replicate (2 - (lg_sl ([.ref h0, .int a1])).length) Slot.unset).toArray = ls at hl ⊢
  have hl : lv_has ls 2 [(0, .ref h0), (1, .int a1)] := hl
  obtain ⟨H, hH⟩ : ∃ H : Heap, s.heap = H := ⟨_, rfl⟩
  rw [hH] at hP ⊢
  have hS : va_S A s.heap H [] := by rw [← hH]; exact va_S.rf
  obtain ⟨locs, hlo⟩ : ∃ locs : List Loc, locs = [] := ⟨_, rfl⟩
  rw [← hlo] at hS ⊢
  unfold sp_t9_kindAt at hsp
  refine lv_iload_n hx hb dX9_kindAt_0 rfl (lv_at hl 1 rfl) ?_
  refine lv_if_lt (tgt := 21) hx hb dX9_kindAt_1 (by decide) (fun c_1 => ?_) (fun c_1 => ?_)
  · rw [if_pos c_1] at hsp
    refine lv_iconst (v := 0) hx hb dX9_kindAt_21 (by decide) ?_
    have hr0 := Option.some.inj hsp
    clear hsp
    subst hr0
    have hP9 := hP.sub (ws' := [(h0, .inr (9, [.ref qf0, .ref qf1, .ref qf2, .int v3, .ref qf4, .ref qf5, .ref qf6, .ref qf7, .ref qf8, .int v9, .int v10, .int v11, .int v12])), (qf0, .inl (cf0, 3001, .inl f0))]) [0, 1] rfl
    have hD9 := hD.sub (ws' := [(h0, .inr (9, [.ref qf0, .ref qf1, .ref qf2, .int v3, .ref qf4, .ref qf5, .ref qf6, .ref qf7, .ref qf8, .int v9, .int v10, .int v11, .int v12])), (qf0, .inl (cf0, 3001, .inl f0))]) [0, 1] (by decide) rfl
    have hK9 := hK.sub (tys' := [(cf0, .int)]) [0] rfl
    exact W.iret hx hb hr (fun t ht hW => ⟨⟨(0), (), rfl, rfl, by rw [ht]; exact hP9, va_K.moved hW.alike hK9, hD9⟩, hS.F ht⟩) hS.2.2 dX9_kindAt_22
  · rw [if_neg c_1] at hsp
    refine lv_iload_n hx hb dX9_kindAt_4 rfl (lv_at hl 1 rfl) ?_
    refine lv_aload_n hx hb dX9_kindAt_5 rfl (lv_at hl 0 rfl) ?_
    refine va_get (D := (dC, dI)) (ci := 9) (v := .int v3) (C := RX9) (T := TX9) (N := 13) hx hb hts uV_h4_X9 hown hK hP 0 rfl rfl 3 (by decide) (hts (.fieldLink RX9 83 "ClassMill$Text" "count" "I") mw_h4_2) (fun _ h9 => h9) rfl dX9_kindAt_6 ?_
    refine lv_icmp_ge (tgt := 21) hx hb dX9_kindAt_9 (by decide) (fun c_2 => ?_) (fun c_2 => ?_)
    · rw [if_pos c_2] at hsp
      refine lv_iconst (v := 0) hx hb dX9_kindAt_21 (by decide) ?_
      have hr0 := Option.some.inj hsp
      clear hsp
      subst hr0
      have hP9 := hP.sub (ws' := [(h0, .inr (9, [.ref qf0, .ref qf1, .ref qf2, .int v3, .ref qf4, .ref qf5, .ref qf6, .ref qf7, .ref qf8, .int v9, .int v10, .int v11, .int v12])), (qf0, .inl (cf0, 3001, .inl f0))]) [0, 1] rfl
      have hD9 := hD.sub (ws' := [(h0, .inr (9, [.ref qf0, .ref qf1, .ref qf2, .int v3, .ref qf4, .ref qf5, .ref qf6, .ref qf7, .ref qf8, .int v9, .int v10, .int v11, .int v12])), (qf0, .inl (cf0, 3001, .inl f0))]) [0, 1] (by decide) rfl
      have hK9 := hK.sub (tys' := [(cf0, .int)]) [0] rfl
      exact W.iret hx hb hr (fun t ht hW => ⟨⟨(0), (), rfl, rfl, by rw [ht]; exact hP9, va_K.moved hW.alike hK9, hD9⟩, hS.F ht⟩) hS.2.2 dX9_kindAt_22
    · rw [if_neg c_2] at hsp
      refine lv_aload_n hx hb dX9_kindAt_12 rfl (lv_at hl 0 rfl) ?_
      refine va_get (D := (dC, dI)) (ci := 9) (v := .ref qf0) (C := RX9) (T := TX9) (N := 13) hx hb hts uV_h4_X9 hown hK hP 0 rfl rfl 0 (by decide) (hts (.fieldLink RX9 15 "ClassMill$Text" "kinds" "[I") mw_h4_5) (fun _ h9 => h9) rfl dX9_kindAt_13 ?_
      refine lv_iload_n hx hb dX9_kindAt_16 rfl (lv_at hl 1 rfl) ?_
      obtain ⟨hi_3, hsp⟩ := ox_in hsp
      refine va_iald hx hb hK hP 1 0 rfl rfl (i := a1) hi_3 dX9_kindAt_17 ?_
      refine lv_goto (tgt := 22) hx hb dX9_kindAt_18 (by decide) ?_
      have hr0 := Option.some.inj hsp
      clear hsp
      subst hr0
      have hP9 := hP.sub (ws' := [(h0, .inr (9, [.ref qf0, .ref qf1, .ref qf2, .int v3, .ref qf4, .ref qf5, .ref qf6, .ref qf7, .ref qf8, .int v9, .int v10, .int v11, .int v12])), (qf0, .inl (cf0, 3001, .inl f0))]) [0, 1] rfl
      have hD9 := hD.sub (ws' := [(h0, .inr (9, [.ref qf0, .ref qf1, .ref qf2, .int v3, .ref qf4, .ref qf5, .ref qf6, .ref qf7, .ref qf8, .int v9, .int v10, .int v11, .int v12])), (qf0, .inl (cf0, 3001, .inl f0))]) [0, 1] (by decide) rfl
      have hK9 := hK.sub (tys' := [(cf0, .int)]) [0] rfl
      exact W.iret hx hb hr (fun t ht hW => ⟨⟨((f0 (a1 : Int32).toNatClampNeg)), (), rfl, rfl, by rw [ht]; exact hP9, va_K.moved hW.alike hK9, hD9⟩, hS.F ht⟩) hS.2.2 dX9_kindAt_22
def sp_t9_valueAt (nf : Nat) (a1 : Int32) (v3 : Int32) (f2 : Nat → Int32) : Option (Int32) := (if a1 < 0 then (some 0) else (if v3 ≤ a1 then (some 0) else (if a1 < 0 then none else if 3001 ≤ (a1 : Int32).toNatClampNeg then none else (some (f2 (a1 : Int32).toNatClampNeg)))))
set_option maxHeartbeats 4000000 in
set_option maxRecDepth 100000 in
/-- ClassMill$Text.valueAt -/
theorem t9_valueAt (l : Launch) (dC : Nat → ClassId) (dI : Nat → Nat → Nat) (sz : Nat) (h0 : Nat) (a1 : Int32) (qf0 : Nat) (qf1 : Nat) (qf2 : Nat) (v3 : Int32) (qf4 : Nat) (qf5 : Nat) (qf6 : Nat) (qf7 : Nat) (qf8 : Nat) (v9 : Int32) (v10 : Int32) (v11 : Int32) (v12 : Int32) (cf2 : ClassId) (f2 : (Nat → Int32)) (nf : Nat) (r0 : Int32) (hsp : sp_t9_valueAt nf a1 v3 f2 = some r0) : Met l yX9_valueAt (.code yX9_valueAt cX9_valueAt 2 (some .int) :: VS_h4) ({ frames := 0, cells := 0, slots := 0, locals := 0 }) (va_Pc [.ref h0, .int a1] (fun U => U.heap.size = sz ∧ va_P (dC, dI) vwCl [(h0, .inr (9, [.ref qf0, .ref qf1, .ref qf2, .int v3, .ref qf4, .ref qf5, .ref qf6, .ref qf7, .ref qf8, .int v9, .int v10, .int v11, .int v12])), (qf2, .inl (cf2, 3001, .inl f2))] U.heap ∧ va_K (dC, dI) vwCl [(cf2, .int)] U ∧ va_D (fun _ => True) [(h0, .inr (9, [.ref qf0, .ref qf1, .ref qf2, .int v3, .ref qf4, .ref qf5, .ref qf6, .ref qf7, .ref qf8, .int v9, .int v10, .int v11, .int v12])), (qf2, .inl (cf2, 3001, .inl f2))])) (va_Qi (fun (r : Int32) (u : Unit) => match u with | () => r0 = r) (fun (u : Unit) (t : State) => match u with | () => va_P (dC, dI) vwCl [(h0, .inr (9, [.ref qf0, .ref qf1, .ref qf2, .int v3, .ref qf4, .ref qf5, .ref qf6, .ref qf7, .ref qf8, .int v9, .int v10, .int v11, .int v12])), (qf2, .inl (cf2, 3001, .inl f2))] t.heap ∧ va_K (dC, dI) vwCl [(cf2, .int)] t ∧ va_D (va_A [(h0, .inr (9, [.ref qf0, .ref qf1, .ref qf2, .int v3, .ref qf4, .ref qf5, .ref qf6, .ref qf7, .ref qf8, .int v9, .int v10, .int v11, .int v12])), (qf2, .inl (cf2, 3001, .inl f2))] sz) [(h0, .inr (9, [.ref qf0, .ref qf1, .ref qf2, .int v3, .ref qf4, .ref qf5, .ref qf6, .ref qf7, .ref qf8, .int v9, .int v10, .int v11, .int v12])), (qf2, .inl (cf2, 3001, .inl f2))]) (va_A [(h0, .inr (9, [.ref qf0, .ref qf1, .ref qf2, .int v3, .ref qf4, .ref qf5, .ref qf6, .ref qf7, .ref qf8, .int v9, .int v10, .int v11, .int v12])), (qf2, .inl (cf2, 3001, .inl f2))] sz)) 0 0 (va_A [(h0, .inr (9, [.ref qf0, .ref qf1, .ref qf2, .int v3, .ref qf4, .ref qf5, .ref qf6, .ref qf7, .ref qf8, .int v9, .int v10, .int v11, .int v12])), (qf2, .inl (cf2, 3001, .inl f2))] sz) := by
  refine Met.ofW (cc := cX9_valueAt) (maxL := 2) (ret := (some .int)) (by decide) rfl ?_
  intro p e s m args below meth c s₁ B hml hv
  obtain ⟨rfl, hsz, hP, hK, hD0⟩ := hv
  have hx := B.exec
  have hb := B.bytes
  have hr := B.returns
  have hts := atoms_spec (ws := (.code yX9_valueAt cX9_valueAt 2 (some .int) :: VS_h4)) B.pre
  replace hts := fun w (h : w ∈ VS_h4) => hts w (List.mem_cons_of_mem _ h)
  have hown : s.vm.findClass RX9 = some m.cls := findClass_of_methodNamed B.named
  have hlocks := B.notSynchronized
  subst hsz
  have hD := hD0.self (sz := s.heap.size)
  generalize hAe : va_A [(h0, .inr (9, [.ref qf0, .ref qf1, .ref qf2, .int v3, .ref qf4, .ref qf5, .ref qf6, .ref qf7, .ref qf8, .int v9, .int v10, .int v11, .int v12])), (qf2, .inl (cf2, 3001, .inl f2))] s.heap.size = A at hD  ⊢
  have hA : ∀ q : Nat, s.heap.size ≤ q → A q := fun q h => by rw [← hAe]; exact Or.inr h
  have hP : va_P (dC, dI) vwCl [(h0, .inr (9, [.ref qf0, .ref qf1, .ref qf2, .int v3, .ref qf4, .ref qf5, .ref qf6, .ref qf7, .ref qf8, .int v9, .int v10, .int v11, .int v12])), (qf2, .inl (cf2, 3001, .inl f2))] s.heap := hP
  have hl := lv_entry ([.ref h0, .int a1]) (n := 2) (Nat.le_of_ble_eq_true rfl)
  rw [lg_entry_eq]
  generalize (lg_sl ([.ref h0, .int a1]) ++ List.replicate (2 - (lg_sl ([.ref h0, .int a1])).length) Slot.unset).toArray = ls at hl ⊢
  have hl : lv_has ls 2 [(0, .ref h0), (1, .int a1)] := hl
  obtain ⟨H, hH⟩ : ∃ H : Heap, s.heap = H := ⟨_, rfl⟩
  rw [hH] at hP ⊢
  have hS : va_S A s.heap H [] := by rw [← hH]; exact va_S.rf
  obtain ⟨locs, hlo⟩ : ∃ locs : List Loc, locs = [] := ⟨_, rfl⟩
  rw [← hlo] at hS ⊢
  unfold sp_t9_valueAt at hsp
  refine lv_iload_n hx hb dX9_valueAt_0 rfl (lv_at hl 1 rfl) ?_
  refine lv_if_lt (tgt := 21) hx hb dX9_valueAt_1 (by decide) (fun c_1 => ?_) (fun c_1 => ?_)
  · rw [if_pos c_1] at hsp
    refine lv_iconst (v := 0) hx hb dX9_valueAt_21 (by decide) ?_
    have hr0 := Option.some.inj hsp
    clear hsp
    subst hr0
    have hP9 := hP.sub (ws' := [(h0, .inr (9, [.ref qf0, .ref qf1, .ref qf2, .int v3, .ref qf4, .ref qf5, .ref qf6, .ref qf7, .ref qf8, .int v9, .int v10, .int v11, .int v12])), (qf2, .inl (cf2, 3001, .inl f2))]) [0, 1] rfl
    have hD9 := hD.sub (ws' := [(h0, .inr (9, [.ref qf0, .ref qf1, .ref qf2, .int v3, .ref qf4, .ref qf5, .ref qf6, .ref qf7, .ref qf8, .int v9, .int v10, .int v11, .int v12])), (qf2, .inl (cf2, 3001, .inl f2))]) [0, 1] (by decide) rfl
    have hK9 := hK.sub (tys' := [(cf2, .int)]) [0] rfl
    exact W.iret hx hb hr (fun t ht hW => ⟨⟨(0), (), rfl, rfl, by rw [ht]; exact hP9, va_K.moved hW.alike hK9, hD9⟩, hS.F ht⟩) hS.2.2 dX9_valueAt_22
  · rw [if_neg c_1] at hsp
    refine lv_iload_n hx hb dX9_valueAt_4 rfl (lv_at hl 1 rfl) ?_
    refine lv_aload_n hx hb dX9_valueAt_5 rfl (lv_at hl 0 rfl) ?_
    refine va_get (D := (dC, dI)) (ci := 9) (v := .int v3) (C := RX9) (T := TX9) (N := 13) hx hb hts uV_h4_X9 hown hK hP 0 rfl rfl 3 (by decide) (hts (.fieldLink RX9 83 "ClassMill$Text" "count" "I") mw_h4_2) (fun _ h9 => h9) rfl dX9_valueAt_6 ?_
    refine lv_icmp_ge (tgt := 21) hx hb dX9_valueAt_9 (by decide) (fun c_2 => ?_) (fun c_2 => ?_)
    · rw [if_pos c_2] at hsp
      refine lv_iconst (v := 0) hx hb dX9_valueAt_21 (by decide) ?_
      have hr0 := Option.some.inj hsp
      clear hsp
      subst hr0
      have hP9 := hP.sub (ws' := [(h0, .inr (9, [.ref qf0, .ref qf1, .ref qf2, .int v3, .ref qf4, .ref qf5, .ref qf6, .ref qf7, .ref qf8, .int v9, .int v10, .int v11, .int v12])), (qf2, .inl (cf2, 3001, .inl f2))]) [0, 1] rfl
      have hD9 := hD.sub (ws' := [(h0, .inr (9, [.ref qf0, .ref qf1, .ref qf2, .int v3, .ref qf4, .ref qf5, .ref qf6, .ref qf7, .ref qf8, .int v9, .int v10, .int v11, .int v12])), (qf2, .inl (cf2, 3001, .inl f2))]) [0, 1] (by decide) rfl
      have hK9 := hK.sub (tys' := [(cf2, .int)]) [0] rfl
      exact W.iret hx hb hr (fun t ht hW => ⟨⟨(0), (), rfl, rfl, by rw [ht]; exact hP9, va_K.moved hW.alike hK9, hD9⟩, hS.F ht⟩) hS.2.2 dX9_valueAt_22
    · rw [if_neg c_2] at hsp
      refine lv_aload_n hx hb dX9_valueAt_12 rfl (lv_at hl 0 rfl) ?_
      refine va_get (D := (dC, dI)) (ci := 9) (v := .ref qf2) (C := RX9) (T := TX9) (N := 13) hx hb hts uV_h4_X9 hown hK hP 0 rfl rfl 2 (by decide) (hts (.fieldLink RX9 22 "ClassMill$Text" "values" "[I") mw_h4_6) (fun _ h9 => h9) rfl dX9_valueAt_13 ?_
      refine lv_iload_n hx hb dX9_valueAt_16 rfl (lv_at hl 1 rfl) ?_
      obtain ⟨hi_3, hsp⟩ := ox_in hsp
      refine va_iald hx hb hK hP 1 0 rfl rfl (i := a1) hi_3 dX9_valueAt_17 ?_
      refine lv_goto (tgt := 22) hx hb dX9_valueAt_18 (by decide) ?_
      have hr0 := Option.some.inj hsp
      clear hsp
      subst hr0
      have hP9 := hP.sub (ws' := [(h0, .inr (9, [.ref qf0, .ref qf1, .ref qf2, .int v3, .ref qf4, .ref qf5, .ref qf6, .ref qf7, .ref qf8, .int v9, .int v10, .int v11, .int v12])), (qf2, .inl (cf2, 3001, .inl f2))]) [0, 1] rfl
      have hD9 := hD.sub (ws' := [(h0, .inr (9, [.ref qf0, .ref qf1, .ref qf2, .int v3, .ref qf4, .ref qf5, .ref qf6, .ref qf7, .ref qf8, .int v9, .int v10, .int v11, .int v12])), (qf2, .inl (cf2, 3001, .inl f2))]) [0, 1] (by decide) rfl
      have hK9 := hK.sub (tys' := [(cf2, .int)]) [0] rfl
      exact W.iret hx hb hr (fun t ht hW => ⟨⟨((f2 (a1 : Int32).toNatClampNeg)), (), rfl, rfl, by rw [ht]; exact hP9, va_K.moved hW.alike hK9, hD9⟩, hS.F ht⟩) hS.2.2 dX9_valueAt_22
def sp_t9_kind (nf : Nat) (v3 : Int32) (v10 : Int32) (v11 : Int32) (f0 : Nat → Int32) : Option (Int32) := (if v11 = 0 then (if v10 < 0 then (some 0) else (if v3 ≤ v10 then (some 0) else (if v10 < 0 then none else if 3001 ≤ (v10 : Int32).toNatClampNeg then none else (some (f0 (v10 : Int32).toNatClampNeg))))) else (some 0))
set_option maxHeartbeats 4000000 in
set_option maxRecDepth 100000 in
/-- ClassMill$Text.kind -/
theorem t9_kind (l : Launch) (dC : Nat → ClassId) (dI : Nat → Nat → Nat) (sz : Nat) (h0 : Nat) (qf0 : Nat) (qf1 : Nat) (qf2 : Nat) (v3 : Int32) (qf4 : Nat) (qf5 : Nat) (qf6 : Nat) (qf7 : Nat) (qf8 : Nat) (v9 : Int32) (v10 : Int32) (v11 : Int32) (v12 : Int32) (cf0 : ClassId) (f0 : (Nat → Int32)) (nf : Nat) (r0 : Int32) (hsp : sp_t9_kind nf v3 v10 v11 f0 = some r0) : Met l yX9_kind (.code yX9_kind cX9_kind 1 (some .int) :: VS_h4) ({ frames := 0, cells := 0, slots := 0, locals := 0 }) (va_Pc [.ref h0] (fun U => U.heap.size = sz ∧ va_P (dC, dI) vwCl [(h0, .inr (9, [.ref qf0, .ref qf1, .ref qf2, .int v3, .ref qf4, .ref qf5, .ref qf6, .ref qf7, .ref qf8, .int v9, .int v10, .int v11, .int v12])), (qf0, .inl (cf0, 3001, .inl f0))] U.heap ∧ va_K (dC, dI) vwCl [(cf0, .int)] U ∧ va_D (fun _ => True) [(h0, .inr (9, [.ref qf0, .ref qf1, .ref qf2, .int v3, .ref qf4, .ref qf5, .ref qf6, .ref qf7, .ref qf8, .int v9, .int v10, .int v11, .int v12])), (qf0, .inl (cf0, 3001, .inl f0))])) (va_Qi (fun (r : Int32) (u : Unit) => match u with | () => r0 = r) (fun (u : Unit) (t : State) => match u with | () => va_P (dC, dI) vwCl [(h0, .inr (9, [.ref qf0, .ref qf1, .ref qf2, .int v3, .ref qf4, .ref qf5, .ref qf6, .ref qf7, .ref qf8, .int v9, .int v10, .int v11, .int v12])), (qf0, .inl (cf0, 3001, .inl f0))] t.heap ∧ va_K (dC, dI) vwCl [(cf0, .int)] t ∧ va_D (va_A [(h0, .inr (9, [.ref qf0, .ref qf1, .ref qf2, .int v3, .ref qf4, .ref qf5, .ref qf6, .ref qf7, .ref qf8, .int v9, .int v10, .int v11, .int v12])), (qf0, .inl (cf0, 3001, .inl f0))] sz) [(h0, .inr (9, [.ref qf0, .ref qf1, .ref qf2, .int v3, .ref qf4, .ref qf5, .ref qf6, .ref qf7, .ref qf8, .int v9, .int v10, .int v11, .int v12])), (qf0, .inl (cf0, 3001, .inl f0))]) (va_A [(h0, .inr (9, [.ref qf0, .ref qf1, .ref qf2, .int v3, .ref qf4, .ref qf5, .ref qf6, .ref qf7, .ref qf8, .int v9, .int v10, .int v11, .int v12])), (qf0, .inl (cf0, 3001, .inl f0))] sz)) 0 0 (va_A [(h0, .inr (9, [.ref qf0, .ref qf1, .ref qf2, .int v3, .ref qf4, .ref qf5, .ref qf6, .ref qf7, .ref qf8, .int v9, .int v10, .int v11, .int v12])), (qf0, .inl (cf0, 3001, .inl f0))] sz) := by
  refine Met.ofW (cc := cX9_kind) (maxL := 1) (ret := (some .int)) (by decide) rfl ?_
  intro p e s m args below meth c s₁ B hml hv
  obtain ⟨rfl, hsz, hP, hK, hD0⟩ := hv
  have hx := B.exec
  have hb := B.bytes
  have hr := B.returns
  have hts := atoms_spec (ws := (.code yX9_kind cX9_kind 1 (some .int) :: VS_h4)) B.pre
  replace hts := fun w (h : w ∈ VS_h4) => hts w (List.mem_cons_of_mem _ h)
  have hown : s.vm.findClass RX9 = some m.cls := findClass_of_methodNamed B.named
  have hlocks := B.notSynchronized
  subst hsz
  have hD := hD0.self (sz := s.heap.size)
  generalize hAe : va_A [(h0, .inr (9, [.ref qf0, .ref qf1, .ref qf2, .int v3, .ref qf4, .ref qf5, .ref qf6, .ref qf7, .ref qf8, .int v9, .int v10, .int v11, .int v12])), (qf0, .inl (cf0, 3001, .inl f0))] s.heap.size = A at hD  ⊢
  have hA : ∀ q : Nat, s.heap.size ≤ q → A q := fun q h => by rw [← hAe]; exact Or.inr h
  have hP : va_P (dC, dI) vwCl [(h0, .inr (9, [.ref qf0, .ref qf1, .ref qf2, .int v3, .ref qf4, .ref qf5, .ref qf6, .ref qf7, .ref qf8, .int v9, .int v10, .int v11, .int v12])), (qf0, .inl (cf0, 3001, .inl f0))] s.heap := hP
  have hl := lv_entry ([.ref h0]) (n := 1) (Nat.le_of_ble_eq_true rfl)
  rw [lg_entry_eq]
  generalize (lg_sl ([.ref h0]) ++ List.replicate (1 - (lg_sl ([.ref h0])).length) Slot.unset).toArray = ls at hl ⊢
  have hl : lv_has ls 1 [(0, .ref h0)] := hl
  obtain ⟨H, hH⟩ : ∃ H : Heap, s.heap = H := ⟨_, rfl⟩
  rw [hH] at hP ⊢
  have hS : va_S A s.heap H [] := by rw [← hH]; exact va_S.rf
  obtain ⟨locs, hlo⟩ : ∃ locs : List Loc, locs = [] := ⟨_, rfl⟩
  rw [← hlo] at hS ⊢
  unfold sp_t9_kind at hsp
  refine lv_aload_n hx hb dX9_kind_0 rfl (lv_at hl 0 rfl) ?_
  refine va_get (D := (dC, dI)) (ci := 9) (v := .int v11) (C := RX9) (T := TX9) (N := 13) hx hb hts uV_h4_X9 hown hK hP 0 rfl rfl 11 (by decide) (hts (.fieldLink RX9 80 "ClassMill$Text" "fault" "I") mw_h4_0) (fun _ h9 => h9) rfl dX9_kind_1 ?_
  refine lv_if_ne (tgt := 37) hx hb dX9_kind_4 (by decide) (fun c_1 => ?_) (fun c_1 => ?_)
  · rw [if_neg c_1] at hsp
    refine lv_iconst (v := 0) hx hb dX9_kind_37 (by decide) ?_
    have hr0 := Option.some.inj hsp
    clear hsp
    subst hr0
    have hP9 := hP.sub (ws' := [(h0, .inr (9, [.ref qf0, .ref qf1, .ref qf2, .int v3, .ref qf4, .ref qf5, .ref qf6, .ref qf7, .ref qf8, .int v9, .int v10, .int v11, .int v12])), (qf0, .inl (cf0, 3001, .inl f0))]) [0, 1] rfl
    have hD9 := hD.sub (ws' := [(h0, .inr (9, [.ref qf0, .ref qf1, .ref qf2, .int v3, .ref qf4, .ref qf5, .ref qf6, .ref qf7, .ref qf8, .int v9, .int v10, .int v11, .int v12])), (qf0, .inl (cf0, 3001, .inl f0))]) [0, 1] (by decide) rfl
    have hK9 := hK.sub (tys' := [(cf0, .int)]) [0] rfl
    exact W.iret hx hb hr (fun t ht hW => ⟨⟨(0), (), rfl, rfl, by rw [ht]; exact hP9, va_K.moved hW.alike hK9, hD9⟩, hS.F ht⟩) hS.2.2 dX9_kind_38
  · rw [if_pos c_1] at hsp
    refine lv_aload_n hx hb dX9_kind_7 rfl (lv_at hl 0 rfl) ?_
    refine va_get (D := (dC, dI)) (ci := 9) (v := .int v10) (C := RX9) (T := TX9) (N := 13) hx hb hts uV_h4_X9 hown hK hP 0 rfl rfl 10 (by decide) (hts (.fieldLink RX9 86 "ClassMill$Text" "pos" "I") mw_h4_4) (fun _ h9 => h9) rfl dX9_kind_8 ?_
    refine lv_if_lt (tgt := 37) hx hb dX9_kind_11 (by decide) (fun c_2 => ?_) (fun c_2 => ?_)
    · rw [if_pos c_2] at hsp
      refine lv_iconst (v := 0) hx hb dX9_kind_37 (by decide) ?_
      have hr0 := Option.some.inj hsp
      clear hsp
      subst hr0
      have hP9 := hP.sub (ws' := [(h0, .inr (9, [.ref qf0, .ref qf1, .ref qf2, .int v3, .ref qf4, .ref qf5, .ref qf6, .ref qf7, .ref qf8, .int v9, .int v10, .int v11, .int v12])), (qf0, .inl (cf0, 3001, .inl f0))]) [0, 1] rfl
      have hD9 := hD.sub (ws' := [(h0, .inr (9, [.ref qf0, .ref qf1, .ref qf2, .int v3, .ref qf4, .ref qf5, .ref qf6, .ref qf7, .ref qf8, .int v9, .int v10, .int v11, .int v12])), (qf0, .inl (cf0, 3001, .inl f0))]) [0, 1] (by decide) rfl
      have hK9 := hK.sub (tys' := [(cf0, .int)]) [0] rfl
      exact W.iret hx hb hr (fun t ht hW => ⟨⟨(0), (), rfl, rfl, by rw [ht]; exact hP9, va_K.moved hW.alike hK9, hD9⟩, hS.F ht⟩) hS.2.2 dX9_kind_38
    · rw [if_neg c_2] at hsp
      refine lv_aload_n hx hb dX9_kind_14 rfl (lv_at hl 0 rfl) ?_
      refine va_get (D := (dC, dI)) (ci := 9) (v := .int v10) (C := RX9) (T := TX9) (N := 13) hx hb hts uV_h4_X9 hown hK hP 0 rfl rfl 10 (by decide) (hts (.fieldLink RX9 86 "ClassMill$Text" "pos" "I") mw_h4_4) (fun _ h9 => h9) rfl dX9_kind_15 ?_
      refine lv_aload_n hx hb dX9_kind_18 rfl (lv_at hl 0 rfl) ?_
      refine va_get (D := (dC, dI)) (ci := 9) (v := .int v3) (C := RX9) (T := TX9) (N := 13) hx hb hts uV_h4_X9 hown hK hP 0 rfl rfl 3 (by decide) (hts (.fieldLink RX9 83 "ClassMill$Text" "count" "I") mw_h4_2) (fun _ h9 => h9) rfl dX9_kind_19 ?_
      refine lv_icmp_ge (tgt := 37) hx hb dX9_kind_22 (by decide) (fun c_3 => ?_) (fun c_3 => ?_)
      · rw [if_pos c_3] at hsp
        refine lv_iconst (v := 0) hx hb dX9_kind_37 (by decide) ?_
        have hr0 := Option.some.inj hsp
        clear hsp
        subst hr0
        have hP9 := hP.sub (ws' := [(h0, .inr (9, [.ref qf0, .ref qf1, .ref qf2, .int v3, .ref qf4, .ref qf5, .ref qf6, .ref qf7, .ref qf8, .int v9, .int v10, .int v11, .int v12])), (qf0, .inl (cf0, 3001, .inl f0))]) [0, 1] rfl
        have hD9 := hD.sub (ws' := [(h0, .inr (9, [.ref qf0, .ref qf1, .ref qf2, .int v3, .ref qf4, .ref qf5, .ref qf6, .ref qf7, .ref qf8, .int v9, .int v10, .int v11, .int v12])), (qf0, .inl (cf0, 3001, .inl f0))]) [0, 1] (by decide) rfl
        have hK9 := hK.sub (tys' := [(cf0, .int)]) [0] rfl
        exact W.iret hx hb hr (fun t ht hW => ⟨⟨(0), (), rfl, rfl, by rw [ht]; exact hP9, va_K.moved hW.alike hK9, hD9⟩, hS.F ht⟩) hS.2.2 dX9_kind_38
      · rw [if_neg c_3] at hsp
        refine lv_aload_n hx hb dX9_kind_25 rfl (lv_at hl 0 rfl) ?_
        refine va_get (D := (dC, dI)) (ci := 9) (v := .ref qf0) (C := RX9) (T := TX9) (N := 13) hx hb hts uV_h4_X9 hown hK hP 0 rfl rfl 0 (by decide) (hts (.fieldLink RX9 15 "ClassMill$Text" "kinds" "[I") mw_h4_5) (fun _ h9 => h9) rfl dX9_kind_26 ?_
        refine lv_aload_n hx hb dX9_kind_29 rfl (lv_at hl 0 rfl) ?_
        refine va_get (D := (dC, dI)) (ci := 9) (v := .int v10) (C := RX9) (T := TX9) (N := 13) hx hb hts uV_h4_X9 hown hK hP 0 rfl rfl 10 (by decide) (hts (.fieldLink RX9 86 "ClassMill$Text" "pos" "I") mw_h4_4) (fun _ h9 => h9) rfl dX9_kind_30 ?_
        obtain ⟨hi_4, hsp⟩ := ox_in hsp
        refine va_iald hx hb hK hP 1 0 rfl rfl (i := v10) hi_4 dX9_kind_33 ?_
        refine lv_goto (tgt := 38) hx hb dX9_kind_34 (by decide) ?_
        have hr0 := Option.some.inj hsp
        clear hsp
        subst hr0
        have hP9 := hP.sub (ws' := [(h0, .inr (9, [.ref qf0, .ref qf1, .ref qf2, .int v3, .ref qf4, .ref qf5, .ref qf6, .ref qf7, .ref qf8, .int v9, .int v10, .int v11, .int v12])), (qf0, .inl (cf0, 3001, .inl f0))]) [0, 1] rfl
        have hD9 := hD.sub (ws' := [(h0, .inr (9, [.ref qf0, .ref qf1, .ref qf2, .int v3, .ref qf4, .ref qf5, .ref qf6, .ref qf7, .ref qf8, .int v9, .int v10, .int v11, .int v12])), (qf0, .inl (cf0, 3001, .inl f0))]) [0, 1] (by decide) rfl
        have hK9 := hK.sub (tys' := [(cf0, .int)]) [0] rfl
        exact W.iret hx hb hr (fun t ht hW => ⟨⟨((f0 (v10 : Int32).toNatClampNeg)), (), rfl, rfl, by rw [ht]; exact hP9, va_K.moved hW.alike hK9, hD9⟩, hS.F ht⟩) hS.2.2 dX9_kind_38
def sp_t9_nameLength (nf : Nat) (a1 : Int32) (v9 : Int32) (f5 : Nat → Int32) : Option (Int32) := (if a1 < 0 then (some 0) else (if v9 ≤ a1 then (some 0) else (if (a1 + 1) < 0 then none else if 1741 ≤ ((a1 + 1) : Int32).toNatClampNeg then none else (if a1 < 0 then none else if 1741 ≤ (a1 : Int32).toNatClampNeg then none else (some ((f5 ((a1 + 1) : Int32).toNatClampNeg) - (f5 (a1 : Int32).toNatClampNeg)))))))
set_option maxHeartbeats 4000000 in
set_option maxRecDepth 100000 in
/-- ClassMill$Text.nameLength -/
theorem t9_nameLength (l : Launch) (dC : Nat → ClassId) (dI : Nat → Nat → Nat) (sz : Nat) (h0 : Nat) (a1 : Int32) (qf0 : Nat) (qf1 : Nat) (qf2 : Nat) (v3 : Int32) (qf4 : Nat) (qf5 : Nat) (qf6 : Nat) (qf7 : Nat) (qf8 : Nat) (v9 : Int32) (v10 : Int32) (v11 : Int32) (v12 : Int32) (cf5 : ClassId) (f5 : (Nat → Int32)) (nf : Nat) (r0 : Int32) (hsp : sp_t9_nameLength nf a1 v9 f5 = some r0) : Met l yX9_nameLength (.code yX9_nameLength cX9_nameLength 2 (some .int) :: VS_h4) ({ frames := 0, cells := 0, slots := 0, locals := 0 }) (va_Pc [.ref h0, .int a1] (fun U => U.heap.size = sz ∧ va_P (dC, dI) vwCl [(h0, .inr (9, [.ref qf0, .ref qf1, .ref qf2, .int v3, .ref qf4, .ref qf5, .ref qf6, .ref qf7, .ref qf8, .int v9, .int v10, .int v11, .int v12])), (qf5, .inl (cf5, 1741, .inl f5))] U.heap ∧ va_K (dC, dI) vwCl [(cf5, .int)] U ∧ va_D (fun _ => True) [(h0, .inr (9, [.ref qf0, .ref qf1, .ref qf2, .int v3, .ref qf4, .ref qf5, .ref qf6, .ref qf7, .ref qf8, .int v9, .int v10, .int v11, .int v12])), (qf5, .inl (cf5, 1741, .inl f5))])) (va_Qi (fun (r : Int32) (u : Unit) => match u with | () => r0 = r) (fun (u : Unit) (t : State) => match u with | () => va_P (dC, dI) vwCl [(h0, .inr (9, [.ref qf0, .ref qf1, .ref qf2, .int v3, .ref qf4, .ref qf5, .ref qf6, .ref qf7, .ref qf8, .int v9, .int v10, .int v11, .int v12])), (qf5, .inl (cf5, 1741, .inl f5))] t.heap ∧ va_K (dC, dI) vwCl [(cf5, .int)] t ∧ va_D (va_A [(h0, .inr (9, [.ref qf0, .ref qf1, .ref qf2, .int v3, .ref qf4, .ref qf5, .ref qf6, .ref qf7, .ref qf8, .int v9, .int v10, .int v11, .int v12])), (qf5, .inl (cf5, 1741, .inl f5))] sz) [(h0, .inr (9, [.ref qf0, .ref qf1, .ref qf2, .int v3, .ref qf4, .ref qf5, .ref qf6, .ref qf7, .ref qf8, .int v9, .int v10, .int v11, .int v12])), (qf5, .inl (cf5, 1741, .inl f5))]) (va_A [(h0, .inr (9, [.ref qf0, .ref qf1, .ref qf2, .int v3, .ref qf4, .ref qf5, .ref qf6, .ref qf7, .ref qf8, .int v9, .int v10, .int v11, .int v12])), (qf5, .inl (cf5, 1741, .inl f5))] sz)) 0 0 (va_A [(h0, .inr (9, [.ref qf0, .ref qf1, .ref qf2, .int v3, .ref qf4, .ref qf5, .ref qf6, .ref qf7, .ref qf8, .int v9, .int v10, .int v11, .int v12])), (qf5, .inl (cf5, 1741, .inl f5))] sz) := by
  refine Met.ofW (cc := cX9_nameLength) (maxL := 2) (ret := (some .int)) (by decide) rfl ?_
  intro p e s m args below meth c s₁ B hml hv
  obtain ⟨rfl, hsz, hP, hK, hD0⟩ := hv
  have hx := B.exec
  have hb := B.bytes
  have hr := B.returns
  have hts := atoms_spec (ws := (.code yX9_nameLength cX9_nameLength 2 (some .int) :: VS_h4)) B.pre
  replace hts := fun w (h : w ∈ VS_h4) => hts w (List.mem_cons_of_mem _ h)
  have hown : s.vm.findClass RX9 = some m.cls := findClass_of_methodNamed B.named
  have hlocks := B.notSynchronized
  subst hsz
  have hD := hD0.self (sz := s.heap.size)
  generalize hAe : va_A [(h0, .inr (9, [.ref qf0, .ref qf1, .ref qf2, .int v3, .ref qf4, .ref qf5, .ref qf6, .ref qf7, .ref qf8, .int v9, .int v10, .int v11, .int v12])), (qf5, .inl (cf5, 1741, .inl f5))] s.heap.size = A at hD  ⊢
  have hA : ∀ q : Nat, s.heap.size ≤ q → A q := fun q h => by rw [← hAe]; exact Or.inr h
  have hP : va_P (dC, dI) vwCl [(h0, .inr (9, [.ref qf0, .ref qf1, .ref qf2, .int v3, .ref qf4, .ref qf5, .ref qf6, .ref qf7, .ref qf8, .int v9, .int v10, .int v11, .int v12])), (qf5, .inl (cf5, 1741, .inl f5))] s.heap := hP
  have hl := lv_entry ([.ref h0, .int a1]) (n := 2) (Nat.le_of_ble_eq_true rfl)
  rw [lg_entry_eq]
  generalize (lg_sl ([.ref h0, .int a1]) ++ List.replicate (2 - (lg_sl ([.ref h0, .int a1])).length) Slot.unset).toArray = ls at hl ⊢
  have hl : lv_has ls 2 [(0, .ref h0), (1, .int a1)] := hl
  obtain ⟨H, hH⟩ : ∃ H : Heap, s.heap = H := ⟨_, rfl⟩
  rw [hH] at hP ⊢
  have hS : va_S A s.heap H [] := by rw [← hH]; exact va_S.rf
  obtain ⟨locs, hlo⟩ : ∃ locs : List Loc, locs = [] := ⟨_, rfl⟩
  rw [← hlo] at hS ⊢
  unfold sp_t9_nameLength at hsp
  refine lv_iload_n hx hb dX9_nameLength_0 rfl (lv_at hl 1 rfl) ?_
  refine lv_if_lt (tgt := 30) hx hb dX9_nameLength_1 (by decide) (fun c_1 => ?_) (fun c_1 => ?_)
  · rw [if_pos c_1] at hsp
    refine lv_iconst (v := 0) hx hb dX9_nameLength_30 (by decide) ?_
    have hr0 := Option.some.inj hsp
    clear hsp
    subst hr0
    have hP9 := hP.sub (ws' := [(h0, .inr (9, [.ref qf0, .ref qf1, .ref qf2, .int v3, .ref qf4, .ref qf5, .ref qf6, .ref qf7, .ref qf8, .int v9, .int v10, .int v11, .int v12])), (qf5, .inl (cf5, 1741, .inl f5))]) [0, 1] rfl
    have hD9 := hD.sub (ws' := [(h0, .inr (9, [.ref qf0, .ref qf1, .ref qf2, .int v3, .ref qf4, .ref qf5, .ref qf6, .ref qf7, .ref qf8, .int v9, .int v10, .int v11, .int v12])), (qf5, .inl (cf5, 1741, .inl f5))]) [0, 1] (by decide) rfl
    have hK9 := hK.sub (tys' := [(cf5, .int)]) [0] rfl
    exact W.iret hx hb hr (fun t ht hW => ⟨⟨(0), (), rfl, rfl, by rw [ht]; exact hP9, va_K.moved hW.alike hK9, hD9⟩, hS.F ht⟩) hS.2.2 dX9_nameLength_31
  · rw [if_neg c_1] at hsp
    refine lv_iload_n hx hb dX9_nameLength_4 rfl (lv_at hl 1 rfl) ?_
    refine lv_aload_n hx hb dX9_nameLength_5 rfl (lv_at hl 0 rfl) ?_
    refine va_get (D := (dC, dI)) (ci := 9) (v := .int v9) (C := RX9) (T := TX9) (N := 13) hx hb hts uV_h4_X9 hown hK hP 0 rfl rfl 9 (by decide) (hts (.fieldLink RX9 73 "ClassMill$Text" "names" "I") mw_h4_7) (fun _ h9 => h9) rfl dX9_nameLength_6 ?_
    refine lv_icmp_ge (tgt := 30) hx hb dX9_nameLength_9 (by decide) (fun c_2 => ?_) (fun c_2 => ?_)
    · rw [if_pos c_2] at hsp
      refine lv_iconst (v := 0) hx hb dX9_nameLength_30 (by decide) ?_
      have hr0 := Option.some.inj hsp
      clear hsp
      subst hr0
      have hP9 := hP.sub (ws' := [(h0, .inr (9, [.ref qf0, .ref qf1, .ref qf2, .int v3, .ref qf4, .ref qf5, .ref qf6, .ref qf7, .ref qf8, .int v9, .int v10, .int v11, .int v12])), (qf5, .inl (cf5, 1741, .inl f5))]) [0, 1] rfl
      have hD9 := hD.sub (ws' := [(h0, .inr (9, [.ref qf0, .ref qf1, .ref qf2, .int v3, .ref qf4, .ref qf5, .ref qf6, .ref qf7, .ref qf8, .int v9, .int v10, .int v11, .int v12])), (qf5, .inl (cf5, 1741, .inl f5))]) [0, 1] (by decide) rfl
      have hK9 := hK.sub (tys' := [(cf5, .int)]) [0] rfl
      exact W.iret hx hb hr (fun t ht hW => ⟨⟨(0), (), rfl, rfl, by rw [ht]; exact hP9, va_K.moved hW.alike hK9, hD9⟩, hS.F ht⟩) hS.2.2 dX9_nameLength_31
    · rw [if_neg c_2] at hsp
      refine lv_aload_n hx hb dX9_nameLength_12 rfl (lv_at hl 0 rfl) ?_
      refine va_get (D := (dC, dI)) (ci := 9) (v := .ref qf5) (C := RX9) (T := TX9) (N := 13) hx hb hts uV_h4_X9 hown hK hP 0 rfl rfl 5 (by decide) (hts (.fieldLink RX9 29 "ClassMill$Text" "nameAt" "[I") mw_h4_8) (fun _ h9 => h9) rfl dX9_nameLength_13 ?_
      refine lv_iload_n hx hb dX9_nameLength_16 rfl (lv_at hl 1 rfl) ?_
      refine lv_iconst (v := 1) hx hb dX9_nameLength_17 (by decide) ?_
      refine lv_iadd hx hb dX9_nameLength_18 ?_
      obtain ⟨hi_3, hsp⟩ := ox_in hsp
      refine va_iald hx hb hK hP 1 0 rfl rfl (i := (a1 + 1)) hi_3 dX9_nameLength_19 ?_
      refine lv_aload_n hx hb dX9_nameLength_20 rfl (lv_at hl 0 rfl) ?_
      refine va_get (D := (dC, dI)) (ci := 9) (v := .ref qf5) (C := RX9) (T := TX9) (N := 13) hx hb hts uV_h4_X9 hown hK hP 0 rfl rfl 5 (by decide) (hts (.fieldLink RX9 29 "ClassMill$Text" "nameAt" "[I") mw_h4_8) (fun _ h9 => h9) rfl dX9_nameLength_21 ?_
      refine lv_iload_n hx hb dX9_nameLength_24 rfl (lv_at hl 1 rfl) ?_
      obtain ⟨hi_4, hsp⟩ := ox_in hsp
      refine va_iald hx hb hK hP 1 0 rfl rfl (i := a1) hi_4 dX9_nameLength_25 ?_
      refine lv_isub hx hb dX9_nameLength_26 ?_
      refine lv_goto (tgt := 31) hx hb dX9_nameLength_27 (by decide) ?_
      have hr0 := Option.some.inj hsp
      clear hsp
      subst hr0
      have hP9 := hP.sub (ws' := [(h0, .inr (9, [.ref qf0, .ref qf1, .ref qf2, .int v3, .ref qf4, .ref qf5, .ref qf6, .ref qf7, .ref qf8, .int v9, .int v10, .int v11, .int v12])), (qf5, .inl (cf5, 1741, .inl f5))]) [0, 1] rfl
      have hD9 := hD.sub (ws' := [(h0, .inr (9, [.ref qf0, .ref qf1, .ref qf2, .int v3, .ref qf4, .ref qf5, .ref qf6, .ref qf7, .ref qf8, .int v9, .int v10, .int v11, .int v12])), (qf5, .inl (cf5, 1741, .inl f5))]) [0, 1] (by decide) rfl
      have hK9 := hK.sub (tys' := [(cf5, .int)]) [0] rfl
      exact W.iret hx hb hr (fun t ht hW => ⟨⟨(((f5 ((a1 + 1) : Int32).toNatClampNeg) - (f5 (a1 : Int32).toNatClampNeg))), (), rfl, rfl, by rw [ht]; exact hP9, va_K.moved hW.alike hK9, hD9⟩, hS.F ht⟩) hS.2.2 dX9_nameLength_31
def sp_t9_addToken (nf : Nat) (a1 : Int32) (a2 : Int32) (a3 : Int32) (v3 : Int32) (f0 : Nat → Int32) (f1 : Nat → Int32) (f2 : Nat → Int32) : Option ((Nat → Int32) × (Nat → Int32) × (Nat → Int32) × Int32) := (if 3001 ≤ v3 then (some (f0, f1, f2, v3)) else (if v3 < 0 then none else if 3001 ≤ (v3 : Int32).toNatClampNeg then none else (if v3 < 0 then none else if 3001 ≤ (v3 : Int32).toNatClampNeg then none else (if v3 < 0 then none else if 3001 ≤ (v3 : Int32).toNatClampNeg then none else (some ((upd f0 (v3 : Int32).toNatClampNeg a1), (upd f1 (v3 : Int32).toNatClampNeg a2), (upd f2 (v3 : Int32).toNatClampNeg a3), (v3 + 1)))))))
set_option maxHeartbeats 4000000 in
set_option maxRecDepth 100000 in
/-- ClassMill$Text.addToken -/
theorem t9_addToken (l : Launch) (dC : Nat → ClassId) (dI : Nat → Nat → Nat) (sz : Nat) (h0 : Nat) (a1 : Int32) (a2 : Int32) (a3 : Int32) (qf0 : Nat) (qf1 : Nat) (qf2 : Nat) (v3 : Int32) (qf4 : Nat) (qf5 : Nat) (qf6 : Nat) (qf7 : Nat) (qf8 : Nat) (v9 : Int32) (v10 : Int32) (v11 : Int32) (v12 : Int32) (cf0 : ClassId) (f0 : (Nat → Int32)) (cf1 : ClassId) (f1 : (Nat → Int32)) (cf2 : ClassId) (f2 : (Nat → Int32)) (nf : Nat) (o0 : (Nat → Int32)) (o1 : (Nat → Int32)) (o2 : (Nat → Int32)) (w3 : Int32) (hsp : sp_t9_addToken nf a1 a2 a3 v3 f0 f1 f2 = some (o0, o1, o2, w3)) : Met l yX9_addToken (.code yX9_addToken cX9_addToken 4 none :: VS_h4) ({ frames := 0, cells := 0, slots := 0, locals := 0 }) (va_Pc [.ref h0, .int a1, .int a2, .int a3] (fun U => U.heap.size = sz ∧ va_P (dC, dI) vwCl [(h0, .inr (9, [.ref qf0, .ref qf1, .ref qf2, .int v3, .ref qf4, .ref qf5, .ref qf6, .ref qf7, .ref qf8, .int v9, .int v10, .int v11, .int v12])), (qf0, .inl (cf0, 3001, .inl f0)), (qf1, .inl (cf1, 3001, .inl f1)), (qf2, .inl (cf2, 3001, .inl f2))] U.heap ∧ va_K (dC, dI) vwCl [(cf0, .int), (cf1, .int), (cf2, .int)] U ∧ va_D (fun _ => True) [(h0, .inr (9, [.ref qf0, .ref qf1, .ref qf2, .int v3, .ref qf4, .ref qf5, .ref qf6, .ref qf7, .ref qf8, .int v9, .int v10, .int v11, .int v12])), (qf0, .inl (cf0, 3001, .inl f0)), (qf1, .inl (cf1, 3001, .inl f1)), (qf2, .inl (cf2, 3001, .inl f2))])) (va_Qv (fun (u : Unit) => match u with | () => True) (fun (u : Unit) (t : State) => match u with | () => va_P (dC, dI) vwCl [(h0, .inr (9, [.ref qf0, .ref qf1, .ref qf2, .int w3, .ref qf4, .ref qf5, .ref qf6, .ref qf7, .ref qf8, .int v9, .int v10, .int v11, .int v12])), (qf0, .inl (cf0, 3001, .inl o0)), (qf1, .inl (cf1, 3001, .inl o1)), (qf2, .inl (cf2, 3001, .inl o2))] t.heap ∧ va_K (dC, dI) vwCl [(cf0, .int), (cf1, .int), (cf2, .int)] t ∧ va_D (va_A [(h0, .inr (9, [.ref qf0, .ref qf1, .ref qf2, .int v3, .ref qf4, .ref qf5, .ref qf6, .ref qf7, .ref qf8, .int v9, .int v10, .int v11, .int v12])), (qf0, .inl (cf0, 3001, .inl f0)), (qf1, .inl (cf1, 3001, .inl f1)), (qf2, .inl (cf2, 3001, .inl f2))] sz) [(h0, .inr (9, [.ref qf0, .ref qf1, .ref qf2, .int w3, .ref qf4, .ref qf5, .ref qf6, .ref qf7, .ref qf8, .int v9, .int v10, .int v11, .int v12])), (qf0, .inl (cf0, 3001, .inl o0)), (qf1, .inl (cf1, 3001, .inl o1)), (qf2, .inl (cf2, 3001, .inl o2))]) (va_A [(h0, .inr (9, [.ref qf0, .ref qf1, .ref qf2, .int v3, .ref qf4, .ref qf5, .ref qf6, .ref qf7, .ref qf8, .int v9, .int v10, .int v11, .int v12])), (qf0, .inl (cf0, 3001, .inl f0)), (qf1, .inl (cf1, 3001, .inl f1)), (qf2, .inl (cf2, 3001, .inl f2))] sz)) 0 0 (va_A [(h0, .inr (9, [.ref qf0, .ref qf1, .ref qf2, .int v3, .ref qf4, .ref qf5, .ref qf6, .ref qf7, .ref qf8, .int v9, .int v10, .int v11, .int v12])), (qf0, .inl (cf0, 3001, .inl f0)), (qf1, .inl (cf1, 3001, .inl f1)), (qf2, .inl (cf2, 3001, .inl f2))] sz) := by
  refine Met.ofW (cc := cX9_addToken) (maxL := 4) (ret := none) (by decide) rfl ?_
  intro p e s m args below meth c s₁ B hml hv
  obtain ⟨rfl, hsz, hP, hK, hD0⟩ := hv
  have hx := B.exec
  have hb := B.bytes
  have hr := B.returns
  have hts := atoms_spec (ws := (.code yX9_addToken cX9_addToken 4 none :: VS_h4)) B.pre
  replace hts := fun w (h : w ∈ VS_h4) => hts w (List.mem_cons_of_mem _ h)
  have hown : s.vm.findClass RX9 = some m.cls := findClass_of_methodNamed B.named
  have hlocks := B.notSynchronized
  subst hsz
  have hD := hD0.self (sz := s.heap.size)
  generalize hAe : va_A [(h0, .inr (9, [.ref qf0, .ref qf1, .ref qf2, .int v3, .ref qf4, .ref qf5, .ref qf6, .ref qf7, .ref qf8, .int v9, .int v10, .int v11, .int v12])), (qf0, .inl (cf0, 3001, .inl f0)), (qf1, .inl (cf1, 3001, .inl f1)), (qf2, .inl (cf2, 3001, .inl f2))] s.heap.size = A at hD  ⊢
  have hA : ∀ q : Nat, s.heap.size ≤ q → A q := fun q h => by rw [← hAe]; exact Or.inr h
  have hP : va_P (dC, dI) vwCl [(h0, .inr (9, [.ref qf0, .ref qf1, .ref qf2, .int v3, .ref qf4, .ref qf5, .ref qf6, .ref qf7, .ref qf8, .int v9, .int v10, .int v11, .int v12])), (qf0, .inl (cf0, 3001, .inl f0)), (qf1, .inl (cf1, 3001, .inl f1)), (qf2, .inl (cf2, 3001, .inl f2))] s.heap := hP
  have hl := lv_entry ([.ref h0, .int a1, .int a2, .int a3]) (n := 4) (Nat.le_of_ble_eq_true rfl)
  rw [lg_entry_eq]
  generalize (lg_sl ([.ref h0, .int a1, .int a2, .int a3]) ++ List.replicate (4 - (lg_sl ([.ref h0, .int a1, .int a2, .int a3])).length) Slot.unset).toArray = ls at hl ⊢
  have hl : lv_has ls 4 [(0, .ref h0), (1, .int a1), (2, .int a2), (3, .int a3)] := hl
  obtain ⟨H, hH⟩ : ∃ H : Heap, s.heap = H := ⟨_, rfl⟩
  rw [hH] at hP ⊢
  have hS : va_S A s.heap H [] := by rw [← hH]; exact va_S.rf
  obtain ⟨locs, hlo⟩ : ∃ locs : List Loc, locs = [] := ⟨_, rfl⟩
  rw [← hlo] at hS ⊢
  unfold sp_t9_addToken at hsp
  refine lv_aload_n hx hb dX9_addToken_0 rfl (lv_at hl 0 rfl) ?_
  refine va_get (D := (dC, dI)) (ci := 9) (v := .int v3) (C := RX9) (T := TX9) (N := 13) hx hb hts uV_h4_X9 hown hK hP 0 rfl rfl 3 (by decide) (hts (.fieldLink RX9 83 "ClassMill$Text" "count" "I") mw_h4_2) (fun _ h9 => h9) rfl dX9_addToken_1 ?_
  refine lv_aload_n hx hb dX9_addToken_4 rfl (lv_at hl 0 rfl) ?_
  refine va_get (D := (dC, dI)) (ci := 9) (v := .ref qf0) (C := RX9) (T := TX9) (N := 13) hx hb hts uV_h4_X9 hown hK hP 0 rfl rfl 0 (by decide) (hts (.fieldLink RX9 15 "ClassMill$Text" "kinds" "[I") mw_h4_5) (fun _ h9 => h9) rfl dX9_addToken_5 ?_
  refine va_alen (v := 3001) hx hb hK hP 1 0 rfl rfl rfl dX9_addToken_8 ?_
  refine lv_icmp_ge (tgt := 52) hx hb dX9_addToken_9 (by decide) (fun c_1 => ?_) (fun c_1 => ?_)
  · rw [if_pos c_1] at hsp
    have hr0 := Option.some.inj hsp
    clear hsp
    obtain ⟨hq0, hr1⟩ := Prod.mk.inj hr0
    clear hr0
    obtain ⟨hq1, hr2⟩ := Prod.mk.inj hr1
    clear hr1
    obtain ⟨hq2, hr3⟩ := Prod.mk.inj hr2
    clear hr2
    subst hq0
    subst hq1
    subst hq2
    subst hr3
    have hP9 := hP.sub (ws' := [(h0, .inr (9, [.ref qf0, .ref qf1, .ref qf2, .int v3, .ref qf4, .ref qf5, .ref qf6, .ref qf7, .ref qf8, .int v9, .int v10, .int v11, .int v12])), (qf0, .inl (cf0, 3001, .inl f0)), (qf1, .inl (cf1, 3001, .inl f1)), (qf2, .inl (cf2, 3001, .inl f2))]) [0, 1, 2, 3] rfl
    have hD9 := hD.sub (ws' := [(h0, .inr (9, [.ref qf0, .ref qf1, .ref qf2, .int v3, .ref qf4, .ref qf5, .ref qf6, .ref qf7, .ref qf8, .int v9, .int v10, .int v11, .int v12])), (qf0, .inl (cf0, 3001, .inl f0)), (qf1, .inl (cf1, 3001, .inl f1)), (qf2, .inl (cf2, 3001, .inl f2))]) [0, 1, 2, 3] (by decide) rfl
    have hK9 := hK.sub (tys' := [(cf0, .int), (cf1, .int), (cf2, .int)]) [0, 1, 2] rfl
    exact W.vret hx hb hr (fun t ht hW => ⟨⟨(), rfl, trivial, by rw [ht]; exact hP9, va_K.moved hW.alike hK9, hD9⟩, hS.F ht⟩) hS.2.2 dX9_addToken_52
  · rw [if_neg c_1] at hsp
    refine lv_aload_n hx hb dX9_addToken_12 rfl (lv_at hl 0 rfl) ?_
    refine va_get (D := (dC, dI)) (ci := 9) (v := .ref qf0) (C := RX9) (T := TX9) (N := 13) hx hb hts uV_h4_X9 hown hK hP 0 rfl rfl 0 (by decide) (hts (.fieldLink RX9 15 "ClassMill$Text" "kinds" "[I") mw_h4_5) (fun _ h9 => h9) rfl dX9_addToken_13 ?_
    refine lv_aload_n hx hb dX9_addToken_16 rfl (lv_at hl 0 rfl) ?_
    refine va_get (D := (dC, dI)) (ci := 9) (v := .int v3) (C := RX9) (T := TX9) (N := 13) hx hb hts uV_h4_X9 hown hK hP 0 rfl rfl 3 (by decide) (hts (.fieldLink RX9 83 "ClassMill$Text" "count" "I") mw_h4_2) (fun _ h9 => h9) rfl dX9_addToken_17 ?_
    refine lv_iload_n hx hb dX9_addToken_20 rfl (lv_at hl 1 rfl) ?_
    obtain ⟨hi_2, hsp⟩ := ox_in hsp
    refine va_iast hx hb hK hP hD hS 1 0 rfl rfl (i := v3) (x := a1) hi_2 dX9_addToken_21 ?_
    clear hP hD hS
    intro H locs hP hD hS
    replace hP : va_P (dC, dI) vwCl [(h0, .inr (9, [.ref qf0, .ref qf1, .ref qf2, .int v3, .ref qf4, .ref qf5, .ref qf6, .ref qf7, .ref qf8, .int v9, .int v10, .int v11, .int v12])), (qf0, .inl (cf0, 3001, .inl (upd f0 (v3 : Int32).toNatClampNeg a1))), (qf1, .inl (cf1, 3001, .inl f1)), (qf2, .inl (cf2, 3001, .inl f2))] H := hP
    replace hD : va_D A [(h0, .inr (9, [.ref qf0, .ref qf1, .ref qf2, .int v3, .ref qf4, .ref qf5, .ref qf6, .ref qf7, .ref qf8, .int v9, .int v10, .int v11, .int v12])), (qf0, .inl (cf0, 3001, .inl (upd f0 (v3 : Int32).toNatClampNeg a1))), (qf1, .inl (cf1, 3001, .inl f1)), (qf2, .inl (cf2, 3001, .inl f2))] := hD
    refine lv_aload_n hx hb dX9_addToken_22 rfl (lv_at hl 0 rfl) ?_
    refine va_get (D := (dC, dI)) (ci := 9) (v := .ref qf1) (C := RX9) (T := TX9) (N := 13) hx hb hts uV_h4_X9 hown hK hP 0 rfl rfl 1 (by decide) (hts (.fieldLink RX9 19 "ClassMill$Text" "places" "[I") mw_h4_3) (fun _ h9 => h9) rfl dX9_addToken_23 ?_
    refine lv_aload_n hx hb dX9_addToken_26 rfl (lv_at hl 0 rfl) ?_
    refine va_get (D := (dC, dI)) (ci := 9) (v := .int v3) (C := RX9) (T := TX9) (N := 13) hx hb hts uV_h4_X9 hown hK hP 0 rfl rfl 3 (by decide) (hts (.fieldLink RX9 83 "ClassMill$Text" "count" "I") mw_h4_2) (fun _ h9 => h9) rfl dX9_addToken_27 ?_
    refine lv_iload_n hx hb dX9_addToken_30 rfl (lv_at hl 2 rfl) ?_
    obtain ⟨hi_3, hsp⟩ := ox_in hsp
    refine va_iast hx hb hK hP hD hS 2 1 rfl rfl (i := v3) (x := a2) hi_3 dX9_addToken_31 ?_
    clear hP hD hS
    intro H locs hP hD hS
    replace hP : va_P (dC, dI) vwCl [(h0, .inr (9, [.ref qf0, .ref qf1, .ref qf2, .int v3, .ref qf4, .ref qf5, .ref qf6, .ref qf7, .ref qf8, .int v9, .int v10, .int v11, .int v12])), (qf0, .inl (cf0, 3001, .inl (upd f0 (v3 : Int32).toNatClampNeg a1))), (qf1, .inl (cf1, 3001, .inl (upd f1 (v3 : Int32).toNatClampNeg a2))), (qf2, .inl (cf2, 3001, .inl f2))] H := hP
    replace hD : va_D A [(h0, .inr (9, [.ref qf0, .ref qf1, .ref qf2, .int v3, .ref qf4, .ref qf5, .ref qf6, .ref qf7, .ref qf8, .int v9, .int v10, .int v11, .int v12])), (qf0, .inl (cf0, 3001, .inl (upd f0 (v3 : Int32).toNatClampNeg a1))), (qf1, .inl (cf1, 3001, .inl (upd f1 (v3 : Int32).toNatClampNeg a2))), (qf2, .inl (cf2, 3001, .inl f2))] := hD
    refine lv_aload_n hx hb dX9_addToken_32 rfl (lv_at hl 0 rfl) ?_
    refine va_get (D := (dC, dI)) (ci := 9) (v := .ref qf2) (C := RX9) (T := TX9) (N := 13) hx hb hts uV_h4_X9 hown hK hP 0 rfl rfl 2 (by decide) (hts (.fieldLink RX9 22 "ClassMill$Text" "values" "[I") mw_h4_6) (fun _ h9 => h9) rfl dX9_addToken_33 ?_
    refine lv_aload_n hx hb dX9_addToken_36 rfl (lv_at hl 0 rfl) ?_
    refine va_get (D := (dC, dI)) (ci := 9) (v := .int v3) (C := RX9) (T := TX9) (N := 13) hx hb hts uV_h4_X9 hown hK hP 0 rfl rfl 3 (by decide) (hts (.fieldLink RX9 83 "ClassMill$Text" "count" "I") mw_h4_2) (fun _ h9 => h9) rfl dX9_addToken_37 ?_
    refine lv_iload_n hx hb dX9_addToken_40 rfl (lv_at hl 3 rfl) ?_
    obtain ⟨hi_4, hsp⟩ := ox_in hsp
    refine va_iast hx hb hK hP hD hS 3 2 rfl rfl (i := v3) (x := a3) hi_4 dX9_addToken_41 ?_
    clear hP hD hS
    intro H locs hP hD hS
    replace hP : va_P (dC, dI) vwCl [(h0, .inr (9, [.ref qf0, .ref qf1, .ref qf2, .int v3, .ref qf4, .ref qf5, .ref qf6, .ref qf7, .ref qf8, .int v9, .int v10, .int v11, .int v12])), (qf0, .inl (cf0, 3001, .inl (upd f0 (v3 : Int32).toNatClampNeg a1))), (qf1, .inl (cf1, 3001, .inl (upd f1 (v3 : Int32).toNatClampNeg a2))), (qf2, .inl (cf2, 3001, .inl (upd f2 (v3 : Int32).toNatClampNeg a3)))] H := hP
    replace hD : va_D A [(h0, .inr (9, [.ref qf0, .ref qf1, .ref qf2, .int v3, .ref qf4, .ref qf5, .ref qf6, .ref qf7, .ref qf8, .int v9, .int v10, .int v11, .int v12])), (qf0, .inl (cf0, 3001, .inl (upd f0 (v3 : Int32).toNatClampNeg a1))), (qf1, .inl (cf1, 3001, .inl (upd f1 (v3 : Int32).toNatClampNeg a2))), (qf2, .inl (cf2, 3001, .inl (upd f2 (v3 : Int32).toNatClampNeg a3)))] := hD
    refine lv_aload_n hx hb dX9_addToken_42 rfl (lv_at hl 0 rfl) ?_
    refine lv_dup hx hb dX9_addToken_43 rfl ?_
    refine va_get (D := (dC, dI)) (ci := 9) (v := .int v3) (C := RX9) (T := TX9) (N := 13) hx hb hts uV_h4_X9 hown hK hP 0 rfl rfl 3 (by decide) (hts (.fieldLink RX9 83 "ClassMill$Text" "count" "I") mw_h4_2) (fun _ h9 => h9) rfl dX9_addToken_44 ?_
    refine lv_iconst (v := 1) hx hb dX9_addToken_47 (by decide) ?_
    refine lv_iadd hx hb dX9_addToken_48 ?_
    refine va_put (D := (dC, dI)) (ci := 9) (v := .int (v3 + 1)) (ty := .int) (C := RX9) (T := TX9) (N := 13) hx hb hts uV_h4_X9 tyX9 tyX9_ok nmX9 hown hK hP hD hS 0 rfl rfl 3 (by decide) (hts (.fieldLink RX9 83 "ClassMill$Text" "count" "I") mw_h4_2) (fun _ h9 => h9) rfl (by decide +kernel) rfl rfl (Nat.le_of_ble_eq_true rfl) dX9_addToken_49 ?_
    clear hP hD hS
    intro H locs hP hD hS
    replace hP : va_P (dC, dI) vwCl [(h0, .inr (9, [.ref qf0, .ref qf1, .ref qf2, .int (v3 + 1), .ref qf4, .ref qf5, .ref qf6, .ref qf7, .ref qf8, .int v9, .int v10, .int v11, .int v12])), (qf0, .inl (cf0, 3001, .inl (upd f0 (v3 : Int32).toNatClampNeg a1))), (qf1, .inl (cf1, 3001, .inl (upd f1 (v3 : Int32).toNatClampNeg a2))), (qf2, .inl (cf2, 3001, .inl (upd f2 (v3 : Int32).toNatClampNeg a3)))] H := hP
    replace hD : va_D A [(h0, .inr (9, [.ref qf0, .ref qf1, .ref qf2, .int (v3 + 1), .ref qf4, .ref qf5, .ref qf6, .ref qf7, .ref qf8, .int v9, .int v10, .int v11, .int v12])), (qf0, .inl (cf0, 3001, .inl (upd f0 (v3 : Int32).toNatClampNeg a1))), (qf1, .inl (cf1, 3001, .inl (upd f1 (v3 : Int32).toNatClampNeg a2))), (qf2, .inl (cf2, 3001, .inl (upd f2 (v3 : Int32).toNatClampNeg a3)))] := hD
    have hr0 := Option.some.inj hsp
    clear hsp
    obtain ⟨hq0, hr1⟩ := Prod.mk.inj hr0
    clear hr0
    obtain ⟨hq1, hr2⟩ := Prod.mk.inj hr1
    clear hr1
    obtain ⟨hq2, hr3⟩ := Prod.mk.inj hr2
    clear hr2
    subst hq0
    subst hq1
    subst hq2
    subst hr3
    have hP9 := hP.sub (ws' := [(h0, .inr (9, [.ref qf0, .ref qf1, .ref qf2, .int (v3 + 1), .ref qf4, .ref qf5, .ref qf6, .ref qf7, .ref qf8, .int v9, .int v10, .int v11, .int v12])), (qf0, .inl (cf0, 3001, .inl (upd f0 (v3 : Int32).toNatClampNeg a1))), (qf1, .inl (cf1, 3001, .inl (upd f1 (v3 : Int32).toNatClampNeg a2))), (qf2, .inl (cf2, 3001, .inl (upd f2 (v3 : Int32).toNatClampNeg a3)))]) [0, 1, 2, 3] rfl
    have hD9 := hD.sub (ws' := [(h0, .inr (9, [.ref qf0, .ref qf1, .ref qf2, .int (v3 + 1), .ref qf4, .ref qf5, .ref qf6, .ref qf7, .ref qf8, .int v9, .int v10, .int v11, .int v12])), (qf0, .inl (cf0, 3001, .inl (upd f0 (v3 : Int32).toNatClampNeg a1))), (qf1, .inl (cf1, 3001, .inl (upd f1 (v3 : Int32).toNatClampNeg a2))), (qf2, .inl (cf2, 3001, .inl (upd f2 (v3 : Int32).toNatClampNeg a3)))]) [0, 1, 2, 3] (by decide) rfl
    have hK9 := hK.sub (tys' := [(cf0, .int), (cf1, .int), (cf2, .int)]) [0, 1, 2] rfl
    exact W.vret hx hb hr (fun t ht hW => ⟨⟨(), rfl, trivial, by rw [ht]; exact hP9, va_K.moved hW.alike hK9, hD9⟩, hS.F ht⟩) hS.2.2 dX9_addToken_52
def lp_t9_behindBlanks_5 (nf n : Nat) (a2 : Int32) (a3 : Int32) (na1 : Nat) (fa1 : Nat → Int32)  (l1_5 : Int32) (l2_5 : Int32) (l3_5 : Int32) (l4_5 : Int32) : Option (Int32) := match n with
  | 0 => none
  | n + 1 => (if l1_5 ≤ l3_5 then (some l3_5) else (if l3_5 < 0 then none else if na1 ≤ (l3_5 : Int32).toNatClampNeg then none else (if (fa1 (l3_5 : Int32).toNatClampNeg) = 47 then (if l1_5 ≤ (l3_5 + 1) then (if (fa1 (l3_5 : Int32).toNatClampNeg) = 10 then (lp_t9_behindBlanks_5 nf n a2 a3 na1 fa1 l1_5 l2_5 (l3_5 + 1) 0) else (if (fa1 (l3_5 : Int32).toNatClampNeg) = 32 then (lp_t9_behindBlanks_5 nf n a2 a3 na1 fa1 l1_5 l2_5 (l3_5 + 1) l4_5) else (if l4_5 = 0 then (some l3_5) else (lp_t9_behindBlanks_5 nf n a2 a3 na1 fa1 l1_5 l2_5 (l3_5 + 1) l4_5)))) else (if (l3_5 + 1) < 0 then none else if na1 ≤ ((l3_5 + 1) : Int32).toNatClampNeg then none else (if (fa1 ((l3_5 + 1) : Int32).toNatClampNeg) = 47 then (lp_t9_behindBlanks_5 nf n a2 a3 na1 fa1 l1_5 l2_5 (l3_5 + 1) 1) else (if (fa1 (l3_5 : Int32).toNatClampNeg) = 10 then (lp_t9_behindBlanks_5 nf n a2 a3 na1 fa1 l1_5 l2_5 (l3_5 + 1) 0) else (if (fa1 (l3_5 : Int32).toNatClampNeg) = 32 then (lp_t9_behindBlanks_5 nf n a2 a3 na1 fa1 l1_5 l2_5 (l3_5 + 1) l4_5) else (if l4_5 = 0 then (some l3_5) else (lp_t9_behindBlanks_5 nf n a2 a3 na1 fa1 l1_5 l2_5 (l3_5 + 1) l4_5))))))) else (if (fa1 (l3_5 : Int32).toNatClampNeg) = 10 then (lp_t9_behindBlanks_5 nf n a2 a3 na1 fa1 l1_5 l2_5 (l3_5 + 1) 0) else (if (fa1 (l3_5 : Int32).toNatClampNeg) = 32 then (lp_t9_behindBlanks_5 nf n a2 a3 na1 fa1 l1_5 l2_5 (l3_5 + 1) l4_5) else (if l4_5 = 0 then (some l3_5) else (lp_t9_behindBlanks_5 nf n a2 a3 na1 fa1 l1_5 l2_5 (l3_5 + 1) l4_5)))))))
def sp_t9_behindBlanks (nf : Nat) (a2 : Int32) (a3 : Int32) (na1 : Nat) (fa1 : Nat → Int32) : Option (Int32) := (lp_t9_behindBlanks_5 nf nf a2 a3 na1 fa1 a2 a3 a3 0)
