set_option maxHeartbeats 4000000 in
set_option maxRecDepth 100000 in
/-- ClassMill$Values.readConstant -/
theorem t10_readConstant (l : Launch) (dC : Nat → ClassId) (dI : Nat → Nat → Nat) (sz : Nat) (h0 : Nat) (qf0 : Nat) (qf1 : Nat) (qf2 : Nat) (qf3 : Nat) (qf4 : Nat) (qf5 : Nat) (qf6 : Nat) (qf7 : Nat) (qf8 : Nat) (qf9 : Nat) (v10 : Int32) (v11 : Int32) (v12 : Int32) (v13 : Int32) (v14 : Int32) (v15 : Int32) (v16 : Int32) (v17 : Int32) (v18 : Int32) (qf0_0 : Nat) (qf0_1 : Nat) (qf0_2 : Nat) (v0_3 : Int32) (qf0_4 : Nat) (qf0_5 : Nat) (qf0_6 : Nat) (qf0_7 : Nat) (qf0_8 : Nat) (v0_9 : Int32) (v0_10 : Int32) (v0_11 : Int32) (v0_12 : Int32) (cf0_0 : ClassId) (f0_0 : (Nat → Int32)) (cf0_2 : ClassId) (f0_2 : (Nat → Int32)) (qf4_0 : Nat) (qf4_1 : Nat) (qf4_2 : Nat) (qf4_3 : Nat) (v4_4 : Int32) (v4_5 : Int32) (qf4_6 : Nat) (v4_7 : Int32) (cf4_2 : ClassId) (f4_2 : (Nat → Int32)) (cf4_3 : ClassId) (f4_3 : (Nat → Int32)) (qf3_0 : Nat) (v3_1 : Int32) (qf3_2 : Nat) (v3_3 : Int32) (v3_4 : Int32) (qf3_5 : Nat) (qf3_6 : Nat) (v3_7 : Int32) (v3_8 : Int32) (qf3_9 : Nat) (v3_10 : Int32) (qf3_11 : Nat) (qf3_12 : Nat) (qf3_13 : Nat) (v3_14 : Int32) (v3_15 : Int32) (cf3_0 : ClassId) (f3_0 : (Nat → Int32)) (cf3_2 : ClassId) (f3_2 : (Nat → Int32)) (cf0_1 : ClassId) (f0_1 : (Nat → Int32)) (nf : Nat) (o3_0 : (Nat → Int32)) (o3_2 : (Nat → Int32)) (o4_2 : (Nat → Int32)) (o4_3 : (Nat → Int32)) (w0_10 : Int32) (w0_11 : Int32) (w0_12 : Int32) (w11 : Int32) (w12 : Int32) (w3_1 : Int32) (w3_3 : Int32) (w3_4 : Int32) (w4_4 : Int32) (w4_5 : Int32) (hsp : sp_t10_readConstant nf v16 v17 v0_3 v0_10 v0_11 v0_12 f0_0 f0_2 v4_4 v4_5 f4_2 f4_3 v3_1 v3_3 v3_4 f3_0 f3_2 f0_1 = some (o3_0, o3_2, o4_2, o4_3, w0_10, w0_11, w0_12, w11, w12, w3_1, w3_3, w3_4, w4_4, w4_5)) : Met l yX10_readConstant (.code yX10_readConstant cX10_readConstant 2 none :: VS_h4) ({ frames := 4, cells := 0, slots := 0, locals := 78 }) (va_Pc [.ref h0] (fun U => U.heap.size = sz ∧ va_P (dC, dI) vwCl [(h0, .inr (10, [.ref qf0, .ref qf1, .ref qf2, .ref qf3, .ref qf4, .ref qf5, .ref qf6, .ref qf7, .ref qf8, .ref qf9, .int v10, .int v11, .int v12, .int v13, .int v14, .int v15, .int v16, .int v17, .int v18])), (qf0, .inr (9, [.ref qf0_0, .ref qf0_1, .ref qf0_2, .int v0_3, .ref qf0_4, .ref qf0_5, .ref qf0_6, .ref qf0_7, .ref qf0_8, .int v0_9, .int v0_10, .int v0_11, .int v0_12])), (qf0_0, .inl (cf0_0, 3001, .inl f0_0)), (qf0_2, .inl (cf0_2, 3001, .inl f0_2)), (qf4, .inr (6, [.ref qf4_0, .ref qf4_1, .ref qf4_2, .ref qf4_3, .int v4_4, .int v4_5, .ref qf4_6, .int v4_7])), (qf4_2, .inl (cf4_2, 201, .inl f4_2)), (qf4_3, .inl (cf4_3, 201, .inl f4_3)), (qf3, .inr (1, [.ref qf3_0, .int v3_1, .ref qf3_2, .int v3_3, .int v3_4, .ref qf3_5, .ref qf3_6, .int v3_7, .int v3_8, .ref qf3_9, .int v3_10, .ref qf3_11, .ref qf3_12, .ref qf3_13, .int v3_14, .int v3_15])), (qf3_0, .inl (cf3_0, 1500, .inl f3_0)), (qf3_2, .inl (cf3_2, 20, .inl f3_2)), (qf0_1, .inl (cf0_1, 3001, .inl f0_1))] U.heap ∧ va_K (dC, dI) vwCl [(cf0_0, .int), (cf0_2, .int), (cf4_2, .int), (cf4_3, .int), (cf3_0, .byte), (cf3_2, .int), (cf0_1, .int)] U ∧ va_D (fun _ => True) [(h0, .inr (10, [.ref qf0, .ref qf1, .ref qf2, .ref qf3, .ref qf4, .ref qf5, .ref qf6, .ref qf7, .ref qf8, .ref qf9, .int v10, .int v11, .int v12, .int v13, .int v14, .int v15, .int v16, .int v17, .int v18])), (qf0, .inr (9, [.ref qf0_0, .ref qf0_1, .ref qf0_2, .int v0_3, .ref qf0_4, .ref qf0_5, .ref qf0_6, .ref qf0_7, .ref qf0_8, .int v0_9, .int v0_10, .int v0_11, .int v0_12])), (qf0_0, .inl (cf0_0, 3001, .inl f0_0)), (qf0_2, .inl (cf0_2, 3001, .inl f0_2)), (qf4, .inr (6, [.ref qf4_0, .ref qf4_1, .ref qf4_2, .ref qf4_3, .int v4_4, .int v4_5, .ref qf4_6, .int v4_7])), (qf4_2, .inl (cf4_2, 201, .inl f4_2)), (qf4_3, .inl (cf4_3, 201, .inl f4_3)), (qf3, .inr (1, [.ref qf3_0, .int v3_1, .ref qf3_2, .int v3_3, .int v3_4, .ref qf3_5, .ref qf3_6, .int v3_7, .int v3_8, .ref qf3_9, .int v3_10, .ref qf3_11, .ref qf3_12, .ref qf3_13, .int v3_14, .int v3_15])), (qf3_0, .inl (cf3_0, 1500, .inl f3_0)), (qf3_2, .inl (cf3_2, 20, .inl f3_2)), (qf0_1, .inl (cf0_1, 3001, .inl f0_1))])) (va_Qv (fun (u : Unit) => match u with | () => True) (fun (u : Unit) (t : State) => match u with | () => va_P (dC, dI) vwCl [(h0, .inr (10, [.ref qf0, .ref qf1, .ref qf2, .ref qf3, .ref qf4, .ref qf5, .ref qf6, .ref qf7, .ref qf8, .ref qf9, .int v10, .int w11, .int w12, .int v13, .int v14, .int v15, .int v16, .int v17, .int v18])), (qf0, .inr (9, [.ref qf0_0, .ref qf0_1, .ref qf0_2, .int v0_3, .ref qf0_4, .ref qf0_5, .ref qf0_6, .ref qf0_7, .ref qf0_8, .int v0_9, .int w0_10, .int w0_11, .int w0_12])), (qf0_0, .inl (cf0_0, 3001, .inl f0_0)), (qf0_2, .inl (cf0_2, 3001, .inl f0_2)), (qf4, .inr (6, [.ref qf4_0, .ref qf4_1, .ref qf4_2, .ref qf4_3, .int w4_4, .int w4_5, .ref qf4_6, .int v4_7])), (qf4_2, .inl (cf4_2, 201, .inl o4_2)), (qf4_3, .inl (cf4_3, 201, .inl o4_3)), (qf3, .inr (1, [.ref qf3_0, .int w3_1, .ref qf3_2, .int w3_3, .int w3_4, .ref qf3_5, .ref qf3_6, .int v3_7, .int v3_8, .ref qf3_9, .int v3_10, .ref qf3_11, .ref qf3_12, .ref qf3_13, .int v3_14, .int v3_15])), (qf3_0, .inl (cf3_0, 1500, .inl o3_0)), (qf3_2, .inl (cf3_2, 20, .inl o3_2)), (qf0_1, .inl (cf0_1, 3001, .inl f0_1))] t.heap ∧ va_K (dC, dI) vwCl [(cf0_0, .int), (cf0_2, .int), (cf4_2, .int), (cf4_3, .int), (cf3_0, .byte), (cf3_2, .int), (cf0_1, .int)] t ∧ va_D (va_A [(h0, .inr (10, [.ref qf0, .ref qf1, .ref qf2, .ref qf3, .ref qf4, .ref qf5, .ref qf6, .ref qf7, .ref qf8, .ref qf9, .int v10, .int v11, .int v12, .int v13, .int v14, .int v15, .int v16, .int v17, .int v18])), (qf0, .inr (9, [.ref qf0_0, .ref qf0_1, .ref qf0_2, .int v0_3, .ref qf0_4, .ref qf0_5, .ref qf0_6, .ref qf0_7, .ref qf0_8, .int v0_9, .int v0_10, .int v0_11, .int v0_12])), (qf0_0, .inl (cf0_0, 3001, .inl f0_0)), (qf0_2, .inl (cf0_2, 3001, .inl f0_2)), (qf4, .inr (6, [.ref qf4_0, .ref qf4_1, .ref qf4_2, .ref qf4_3, .int v4_4, .int v4_5, .ref qf4_6, .int v4_7])), (qf4_2, .inl (cf4_2, 201, .inl f4_2)), (qf4_3, .inl (cf4_3, 201, .inl f4_3)), (qf3, .inr (1, [.ref qf3_0, .int v3_1, .ref qf3_2, .int v3_3, .int v3_4, .ref qf3_5, .ref qf3_6, .int v3_7, .int v3_8, .ref qf3_9, .int v3_10, .ref qf3_11, .ref qf3_12, .ref qf3_13, .int v3_14, .int v3_15])), (qf3_0, .inl (cf3_0, 1500, .inl f3_0)), (qf3_2, .inl (cf3_2, 20, .inl f3_2)), (qf0_1, .inl (cf0_1, 3001, .inl f0_1))] sz) [(h0, .inr (10, [.ref qf0, .ref qf1, .ref qf2, .ref qf3, .ref qf4, .ref qf5, .ref qf6, .ref qf7, .ref qf8, .ref qf9, .int v10, .int w11, .int w12, .int v13, .int v14, .int v15, .int v16, .int v17, .int v18])), (qf0, .inr (9, [.ref qf0_0, .ref qf0_1, .ref qf0_2, .int v0_3, .ref qf0_4, .ref qf0_5, .ref qf0_6, .ref qf0_7, .ref qf0_8, .int v0_9, .int w0_10, .int w0_11, .int w0_12])), (qf0_0, .inl (cf0_0, 3001, .inl f0_0)), (qf0_2, .inl (cf0_2, 3001, .inl f0_2)), (qf4, .inr (6, [.ref qf4_0, .ref qf4_1, .ref qf4_2, .ref qf4_3, .int w4_4, .int w4_5, .ref qf4_6, .int v4_7])), (qf4_2, .inl (cf4_2, 201, .inl o4_2)), (qf4_3, .inl (cf4_3, 201, .inl o4_3)), (qf3, .inr (1, [.ref qf3_0, .int w3_1, .ref qf3_2, .int w3_3, .int w3_4, .ref qf3_5, .ref qf3_6, .int v3_7, .int v3_8, .ref qf3_9, .int v3_10, .ref qf3_11, .ref qf3_12, .ref qf3_13, .int v3_14, .int v3_15])), (qf3_0, .inl (cf3_0, 1500, .inl o3_0)), (qf3_2, .inl (cf3_2, 20, .inl o3_2)), (qf0_1, .inl (cf0_1, 3001, .inl f0_1))]) (va_A [(h0, .inr (10, [.ref qf0, .ref qf1, .ref qf2, .ref qf3, .ref qf4, .ref qf5, .ref qf6, .ref qf7, .ref qf8, .ref qf9, .int v10, .int v11, .int v12, .int v13, .int v14, .int v15, .int v16, .int v17, .int v18])), (qf0, .inr (9, [.ref qf0_0, .ref qf0_1, .ref qf0_2, .int v0_3, .ref qf0_4, .ref qf0_5, .ref qf0_6, .ref qf0_7, .ref qf0_8, .int v0_9, .int v0_10, .int v0_11, .int v0_12])), (qf0_0, .inl (cf0_0, 3001, .inl f0_0)), (qf0_2, .inl (cf0_2, 3001, .inl f0_2)), (qf4, .inr (6, [.ref qf4_0, .ref qf4_1, .ref qf4_2, .ref qf4_3, .int v4_4, .int v4_5, .ref qf4_6, .int v4_7])), (qf4_2, .inl (cf4_2, 201, .inl f4_2)), (qf4_3, .inl (cf4_3, 201, .inl f4_3)), (qf3, .inr (1, [.ref qf3_0, .int v3_1, .ref qf3_2, .int v3_3, .int v3_4, .ref qf3_5, .ref qf3_6, .int v3_7, .int v3_8, .ref qf3_9, .int v3_10, .ref qf3_11, .ref qf3_12, .ref qf3_13, .int v3_14, .int v3_15])), (qf3_0, .inl (cf3_0, 1500, .inl f3_0)), (qf3_2, .inl (cf3_2, 20, .inl f3_2)), (qf0_1, .inl (cf0_1, 3001, .inl f0_1))] sz)) 0 0 (va_A [(h0, .inr (10, [.ref qf0, .ref qf1, .ref qf2, .ref qf3, .ref qf4, .ref qf5, .ref qf6, .ref qf7, .ref qf8, .ref qf9, .int v10, .int v11, .int v12, .int v13, .int v14, .int v15, .int v16, .int v17, .int v18])), (qf0, .inr (9, [.ref qf0_0, .ref qf0_1, .ref qf0_2, .int v0_3, .ref qf0_4, .ref qf0_5, .ref qf0_6, .ref qf0_7, .ref qf0_8, .int v0_9, .int v0_10, .int v0_11, .int v0_12])), (qf0_0, .inl (cf0_0, 3001, .inl f0_0)), (qf0_2, .inl (cf0_2, 3001, .inl f0_2)), (qf4, .inr (6, [.ref qf4_0, .ref qf4_1, .ref qf4_2, .ref qf4_3, .int v4_4, .int v4_5, .ref qf4_6, .int v4_7])), (qf4_2, .inl (cf4_2, 201, .inl f4_2)), (qf4_3, .inl (cf4_3, 201, .inl f4_3)), (qf3, .inr (1, [.ref qf3_0, .int v3_1, .ref qf3_2, .int v3_3, .int v3_4, .ref qf3_5, .ref qf3_6, .int v3_7, .int v3_8, .ref qf3_9, .int v3_10, .ref qf3_11, .ref qf3_12, .ref qf3_13, .int v3_14, .int v3_15])), (qf3_0, .inl (cf3_0, 1500, .inl f3_0)), (qf3_2, .inl (cf3_2, 20, .inl f3_2)), (qf0_1, .inl (cf0_1, 3001, .inl f0_1))] sz) := by
  refine Met.ofW (cc := cX10_readConstant) (maxL := 2) (ret := none) (by decide) rfl ?_
  intro p e s m args below meth c s₁ B hml hv
  obtain ⟨rfl, hsz, hP, hK, hD0⟩ := hv
  have hx := B.exec
  have hb := B.bytes
  have hr := B.returns
  have hts := atoms_spec (ws := (.code yX10_readConstant cX10_readConstant 2 none :: VS_h4)) B.pre
  replace hts := fun w (h : w ∈ VS_h4) => hts w (List.mem_cons_of_mem _ h)
  have hown : s.vm.findClass RX10 = some m.cls := findClass_of_methodNamed B.named
  have hlocks := B.notSynchronized
  subst hsz
  have hD := hD0.self (sz := s.heap.size)
  generalize hAe : va_A [(h0, .inr (10, [.ref qf0, .ref qf1, .ref qf2, .ref qf3, .ref qf4, .ref qf5, .ref qf6, .ref qf7, .ref qf8, .ref qf9, .int v10, .int v11, .int v12, .int v13, .int v14, .int v15, .int v16, .int v17, .int v18])), (qf0, .inr (9, [.ref qf0_0, .ref qf0_1, .ref qf0_2, .int v0_3, .ref qf0_4, .ref qf0_5, .ref qf0_6, .ref qf0_7, .ref qf0_8, .int v0_9, .int v0_10, .int v0_11, .int v0_12])), (qf0_0, .inl (cf0_0, 3001, .inl f0_0)), (qf0_2, .inl (cf0_2, 3001, .inl f0_2)), (qf4, .inr (6, [.ref qf4_0, .ref qf4_1, .ref qf4_2, .ref qf4_3, .int v4_4, .int v4_5, .ref qf4_6, .int v4_7])), (qf4_2, .inl (cf4_2, 201, .inl f4_2)), (qf4_3, .inl (cf4_3, 201, .inl f4_3)), (qf3, .inr (1, [.ref qf3_0, .int v3_1, .ref qf3_2, .int v3_3, .int v3_4, .ref qf3_5, .ref qf3_6, .int v3_7, .int v3_8, .ref qf3_9, .int v3_10, .ref qf3_11, .ref qf3_12, .ref qf3_13, .int v3_14, .int v3_15])), (qf3_0, .inl (cf3_0, 1500, .inl f3_0)), (qf3_2, .inl (cf3_2, 20, .inl f3_2)), (qf0_1, .inl (cf0_1, 3001, .inl f0_1))] s.heap.size = A at hD  ⊢
  have hA : ∀ q : Nat, s.heap.size ≤ q → A q := fun q h => by rw [← hAe]; exact Or.inr h
  have hP : va_P (dC, dI) vwCl [(h0, .inr (10, [.ref qf0, .ref qf1, .ref qf2, .ref qf3, .ref qf4, .ref qf5, .ref qf6, .ref qf7, .ref qf8, .ref qf9, .int v10, .int v11, .int v12, .int v13, .int v14, .int v15, .int v16, .int v17, .int v18])), (qf0, .inr (9, [.ref qf0_0, .ref qf0_1, .ref qf0_2, .int v0_3, .ref qf0_4, .ref qf0_5, .ref qf0_6, .ref qf0_7, .ref qf0_8, .int v0_9, .int v0_10, .int v0_11, .int v0_12])), (qf0_0, .inl (cf0_0, 3001, .inl f0_0)), (qf0_2, .inl (cf0_2, 3001, .inl f0_2)), (qf4, .inr (6, [.ref qf4_0, .ref qf4_1, .ref qf4_2, .ref qf4_3, .int v4_4, .int v4_5, .ref qf4_6, .int v4_7])), (qf4_2, .inl (cf4_2, 201, .inl f4_2)), (qf4_3, .inl (cf4_3, 201, .inl f4_3)), (qf3, .inr (1, [.ref qf3_0, .int v3_1, .ref qf3_2, .int v3_3, .int v3_4, .ref qf3_5, .ref qf3_6, .int v3_7, .int v3_8, .ref qf3_9, .int v3_10, .ref qf3_11, .ref qf3_12, .ref qf3_13, .int v3_14, .int v3_15])), (qf3_0, .inl (cf3_0, 1500, .inl f3_0)), (qf3_2, .inl (cf3_2, 20, .inl f3_2)), (qf0_1, .inl (cf0_1, 3001, .inl f0_1))] s.heap := hP
  have hl := lv_entry ([.ref h0]) (n := 2) (Nat.le_of_ble_eq_true rfl)
  rw [lg_entry_eq]
  generalize (lg_sl ([.ref h0]) ++ List.replicate (2 - (lg_sl ([.ref h0])).length) Slot.unset).toArray = ls at hl ⊢
  have hl : lv_has ls 2 [(0, .ref h0)] := hl
  obtain ⟨H, hH⟩ : ∃ H : Heap, s.heap = H := ⟨_, rfl⟩
  rw [hH] at hP ⊢
  have hS : va_S A s.heap H [] := by rw [← hH]; exact va_S.rf
  obtain ⟨locs, hlo⟩ : ∃ locs : List Loc, locs = [] := ⟨_, rfl⟩
  rw [← hlo] at hS ⊢
  unfold sp_t10_readConstant at hsp
  refine lv_aload_n hx hb dX10_readConstant_0 rfl (lv_at hl 0 rfl) ?_
  refine va_get (D := (dC, dI)) (ci := 10) (v := .ref qf0) (C := RX10) (T := TX10) (N := 19) hx hb hts uV_h4_X10 hown hK hP 0 rfl rfl 0 (by decide) (hts (.fieldLink RX10 31 "ClassMill$Values" "text" "LClassMill$Text;") mw_h4_297) (fun _ h9 => h9) rfl dX10_readConstant_1 ?_
  refine va_get (D := (dC, dI)) (ci := 9) (v := .int v0_10) (C := RX9) (T := TX9) (N := 13) hx hb hts uV_h4_X9 hown hK hP 1 rfl rfl 10 (by decide) (hts (.fieldLink RX10 72 "ClassMill$Text" "pos" "I") mw_h4_307) (fun _ h9 => h9) rfl dX10_readConstant_4 ?_
  refine lv_istore_n (lv' := [(1, .int v0_10), (0, .ref h0)]) hx hb dX10_readConstant_7 rfl hl (by decide) rfl (fun ls hl => ?_)
  refine lv_aload_n hx hb dX10_readConstant_8 rfl (lv_at hl 1 rfl) ?_
  refine va_get (D := (dC, dI)) (ci := 10) (v := .ref qf0) (C := RX10) (T := TX10) (N := 19) hx hb hts uV_h4_X10 hown hK hP 0 rfl rfl 0 (by decide) (hts (.fieldLink RX10 31 "ClassMill$Values" "text" "LClassMill$Text;") mw_h4_297) (fun _ h9 => h9) rfl dX10_readConstant_9 ?_
  refine lv_dup hx hb dX10_readConstant_12 rfl ?_
  refine va_get (D := (dC, dI)) (ci := 9) (v := .int v0_10) (C := RX9) (T := TX9) (N := 13) hx hb hts uV_h4_X9 hown hK hP 1 rfl rfl 10 (by decide) (hts (.fieldLink RX10 72 "ClassMill$Text" "pos" "I") mw_h4_307) (fun _ h9 => h9) rfl dX10_readConstant_13 ?_
  refine lv_iconst (v := 1) hx hb dX10_readConstant_16 (by decide) ?_
  refine lv_iadd hx hb dX10_readConstant_17 ?_
  refine va_put (D := (dC, dI)) (ci := 9) (v := .int (v0_10 + 1)) (ty := .int) (C := RX9) (T := TX9) (N := 13) hx hb hts uV_h4_X9 tyX9 tyX9_ok nmX9 hown hK hP hD hS 1 rfl rfl 10 (by decide) (hts (.fieldLink RX10 72 "ClassMill$Text" "pos" "I") mw_h4_307) (fun _ h9 => h9) rfl (by decide +kernel) rfl rfl (Nat.le_of_ble_eq_true rfl) dX10_readConstant_18 ?_
  clear hP hD hS
  intro H locs hP hD hS
  replace hP : va_P (dC, dI) vwCl [(h0, .inr (10, [.ref qf0, .ref qf1, .ref qf2, .ref qf3, .ref qf4, .ref qf5, .ref qf6, .ref qf7, .ref qf8, .ref qf9, .int v10, .int v11, .int v12, .int v13, .int v14, .int v15, .int v16, .int v17, .int v18])), (qf0, .inr (9, [.ref qf0_0, .ref qf0_1, .ref qf0_2, .int v0_3, .ref qf0_4, .ref qf0_5, .ref qf0_6, .ref qf0_7, .ref qf0_8, .int v0_9, .int (v0_10 + 1), .int v0_11, .int v0_12])), (qf0_0, .inl (cf0_0, 3001, .inl f0_0)), (qf0_2, .inl (cf0_2, 3001, .inl f0_2)), (qf4, .inr (6, [.ref qf4_0, .ref qf4_1, .ref qf4_2, .ref qf4_3, .int v4_4, .int v4_5, .ref qf4_6, .int v4_7])), (qf4_2, .inl (cf4_2, 201, .inl f4_2)), (qf4_3, .inl (cf4_3, 201, .inl f4_3)), (qf3, .inr (1, [.ref qf3_0, .int v3_1, .ref qf3_2, .int v3_3, .int v3_4, .ref qf3_5, .ref qf3_6, .int v3_7, .int v3_8, .ref qf3_9, .int v3_10, .ref qf3_11, .ref qf3_12, .ref qf3_13, .int v3_14, .int v3_15])), (qf3_0, .inl (cf3_0, 1500, .inl f3_0)), (qf3_2, .inl (cf3_2, 20, .inl f3_2)), (qf0_1, .inl (cf0_1, 3001, .inl f0_1))] H := hP
  replace hD : va_D A [(h0, .inr (10, [.ref qf0, .ref qf1, .ref qf2, .ref qf3, .ref qf4, .ref qf5, .ref qf6, .ref qf7, .ref qf8, .ref qf9, .int v10, .int v11, .int v12, .int v13, .int v14, .int v15, .int v16, .int v17, .int v18])), (qf0, .inr (9, [.ref qf0_0, .ref qf0_1, .ref qf0_2, .int v0_3, .ref qf0_4, .ref qf0_5, .ref qf0_6, .ref qf0_7, .ref qf0_8, .int v0_9, .int (v0_10 + 1), .int v0_11, .int v0_12])), (qf0_0, .inl (cf0_0, 3001, .inl f0_0)), (qf0_2, .inl (cf0_2, 3001, .inl f0_2)), (qf4, .inr (6, [.ref qf4_0, .ref qf4_1, .ref qf4_2, .ref qf4_3, .int v4_4, .int v4_5, .ref qf4_6, .int v4_7])), (qf4_2, .inl (cf4_2, 201, .inl f4_2)), (qf4_3, .inl (cf4_3, 201, .inl f4_3)), (qf3, .inr (1, [.ref qf3_0, .int v3_1, .ref qf3_2, .int v3_3, .int v3_4, .ref qf3_5, .ref qf3_6, .int v3_7, .int v3_8, .ref qf3_9, .int v3_10, .ref qf3_11, .ref qf3_12, .ref qf3_13, .int v3_14, .int v3_15])), (qf3_0, .inl (cf3_0, 1500, .inl f3_0)), (qf3_2, .inl (cf3_2, 20, .inl f3_2)), (qf0_1, .inl (cf0_1, 3001, .inl f0_1))] := hD
  refine lv_aload_n hx hb dX10_readConstant_21 rfl (lv_at hl 1 rfl) ?_
  refine va_get (D := (dC, dI)) (ci := 10) (v := .ref qf0) (C := RX10) (T := TX10) (N := 19) hx hb hts uV_h4_X10 hown hK hP 0 rfl rfl 0 (by decide) (hts (.fieldLink RX10 31 "ClassMill$Values" "text" "LClassMill$Text;") mw_h4_297) (fun _ h9 => h9) rfl dX10_readConstant_22 ?_
  refine lv_iload_n hx hb dX10_readConstant_25 rfl (lv_at hl 0 rfl) ?_
  obtain ⟨u1_0, hu_1, hsp⟩ := ox_bind hsp
  try dsimp only at hsp
  have hPc := hP.sub (ws' := [(qf0, .inr (9, [.ref qf0_0, .ref qf0_1, .ref qf0_2, .int v0_3, .ref qf0_4, .ref qf0_5, .ref qf0_6, .ref qf0_7, .ref qf0_8, .int v0_9, .int (v0_10 + 1), .int v0_11, .int v0_12])), (qf0_0, .inl (cf0_0, 3001, .inl f0_0))]) [1, 2] rfl
  have hDc := hD.sub (ws' := [(qf0, .inr (9, [.ref qf0_0, .ref qf0_1, .ref qf0_2, .int v0_3, .ref qf0_4, .ref qf0_5, .ref qf0_6, .ref qf0_7, .ref qf0_8, .int v0_9, .int (v0_10 + 1), .int v0_11, .int v0_12])), (qf0_0, .inl (cf0_0, 3001, .inl f0_0))]) [1, 2] (by decide) rfl
  have hKc := hK.sub (tys' := [(cf0_0, .int)]) [0] rfl
  have hFc := va_free (wc := [(qf0, .inr (9, [.ref qf0_0, .ref qf0_1, .ref qf0_2, .int v0_3, .ref qf0_4, .ref qf0_5, .ref qf0_6, .ref qf0_7, .ref qf0_8, .int v0_9, .int (v0_10 + 1), .int v0_11, .int v0_12])), (qf0_0, .inl (cf0_0, 3001, .inl f0_0))]) hD hS hA [1, 2] rfl
  refine va_calli (va_runV (As := [.int v0_10]) (rest := []) ⟨hx, hb, hml, hown, hts⟩ (t9_kindAt l dC dI H.size qf0 v0_10 qf0_0 qf0_1 qf0_2 v0_3 qf0_4 qf0_5 qf0_6 qf0_7 qf0_8 v0_9 ((v0_10 + 1)) v0_11 v0_12 cf0_0 f0_0 nf u1_0 hu_1) (cwV 1 hts gv_h4_76 rfl rfl rfl (by decide +kernel) ⟨Nat.le_of_ble_eq_true rfl, Nat.le_of_ble_eq_true rfl⟩) ⟨fun a U g mk q => by obtain ⟨q0, q1, qP, qK, qD⟩ := q; exact ⟨q0, q1, qP, va_K.moved (u := U) (U := U.calling g mk a) (Vm.Alike.refl U.vm) qK, qD⟩, va_recv hKc hPc (ci := 9) (q0 := 0) rfl rfl, fun U hU hW => ⟨rfl, by rw [hU], by rw [hU]; exact hPc, va_K.moved hW.alike hKc, hDc.weaken (fun _ _ _ _ => trivial)⟩⟩ rfl rfl hl.1 rfl (lv_room (Nat.le_of_ble_eq_true rfl)) dX10_readConstant_26 ⟨Nat.le_of_ble_eq_true rfl, Nat.le_of_ble_eq_true rfl⟩) hS (fun q _ h => hFc q h) hFc ?_
  clear hS
  intro r_1 u t H1 locs ht hvm hw hB hz1 hk1 hS
  obtain ⟨⟩ := u
  obtain ⟨hP1, hK1, hD1⟩ := hB
  rw [ht] at hP1
  have hK1 := va_K.moved hvm.symm hK1
  try dsimp only at hw
  have hPD := va_join (wr := [(h0, .inr (10, [.ref qf0, .ref qf1, .ref qf2, .ref qf3, .ref qf4, .ref qf5, .ref qf6, .ref qf7, .ref qf8, .ref qf9, .int v10, .int v11, .int v12, .int v13, .int v14, .int v15, .int v16, .int v17, .int v18])), (qf0_2, .inl (cf0_2, 3001, .inl f0_2)), (qf4, .inr (6, [.ref qf4_0, .ref qf4_1, .ref qf4_2, .ref qf4_3, .int v4_4, .int v4_5, .ref qf4_6, .int v4_7])), (qf4_2, .inl (cf4_2, 201, .inl f4_2)), (qf4_3, .inl (cf4_3, 201, .inl f4_3)), (qf3, .inr (1, [.ref qf3_0, .int v3_1, .ref qf3_2, .int v3_3, .int v3_4, .ref qf3_5, .ref qf3_6, .int v3_7, .int v3_8, .ref qf3_9, .int v3_10, .ref qf3_11, .ref qf3_12, .ref qf3_13, .int v3_14, .int v3_15])), (qf3_0, .inl (cf3_0, 1500, .inl f3_0)), (qf3_2, .inl (cf3_2, 20, .inl f3_2)), (qf0_1, .inl (cf0_1, 3001, .inl f0_1))]) (w1 := [(qf0, .inr (9, [.ref qf0_0, .ref qf0_1, .ref qf0_2, .int v0_3, .ref qf0_4, .ref qf0_5, .ref qf0_6, .ref qf0_7, .ref qf0_8, .int v0_9, .int (v0_10 + 1), .int v0_11, .int v0_12])), (qf0_0, .inl (cf0_0, 3001, .inl f0_0))]) hP hD [1, 2] [0, 3, 4, 5, 6, 7, 8, 9, 10] rfl rfl (by decide) (by decide) hk1 hFc hP1 hD1
  clear hP hD
  obtain ⟨hP, hD⟩ := hPD
  replace hK := (hK.sub (tys' := [(cf0_2, .int), (cf4_2, .int), (cf4_3, .int), (cf3_0, .byte), (cf3_2, .int), (cf0_1, .int)]) [1, 2, 3, 4, 5, 6] rfl).app hK1
  clear hPc hDc hKc hFc hP1 hK1 hD1 hz1 hk1 ht hvm
  generalize H1 = H at hP hS ⊢
  replace hP : va_P (dC, dI) vwCl [(h0, .inr (10, [.ref qf0, .ref qf1, .ref qf2, .ref qf3, .ref qf4, .ref qf5, .ref qf6, .ref qf7, .ref qf8, .ref qf9, .int v10, .int v11, .int v12, .int v13, .int v14, .int v15, .int v16, .int v17, .int v18])), (qf0_2, .inl (cf0_2, 3001, .inl f0_2)), (qf4, .inr (6, [.ref qf4_0, .ref qf4_1, .ref qf4_2, .ref qf4_3, .int v4_4, .int v4_5, .ref qf4_6, .int v4_7])), (qf4_2, .inl (cf4_2, 201, .inl f4_2)), (qf4_3, .inl (cf4_3, 201, .inl f4_3)), (qf3, .inr (1, [.ref qf3_0, .int v3_1, .ref qf3_2, .int v3_3, .int v3_4, .ref qf3_5, .ref qf3_6, .int v3_7, .int v3_8, .ref qf3_9, .int v3_10, .ref qf3_11, .ref qf3_12, .ref qf3_13, .int v3_14, .int v3_15])), (qf3_0, .inl (cf3_0, 1500, .inl f3_0)), (qf3_2, .inl (cf3_2, 20, .inl f3_2)), (qf0_1, .inl (cf0_1, 3001, .inl f0_1)), (qf0, .inr (9, [.ref qf0_0, .ref qf0_1, .ref qf0_2, .int v0_3, .ref qf0_4, .ref qf0_5, .ref qf0_6, .ref qf0_7, .ref qf0_8, .int v0_9, .int (v0_10 + 1), .int v0_11, .int v0_12])), (qf0_0, .inl (cf0_0, 3001, .inl f0_0))] H := hP
  replace hD : va_D A [(h0, .inr (10, [.ref qf0, .ref qf1, .ref qf2, .ref qf3, .ref qf4, .ref qf5, .ref qf6, .ref qf7, .ref qf8, .ref qf9, .int v10, .int v11, .int v12, .int v13, .int v14, .int v15, .int v16, .int v17, .int v18])), (qf0_2, .inl (cf0_2, 3001, .inl f0_2)), (qf4, .inr (6, [.ref qf4_0, .ref qf4_1, .ref qf4_2, .ref qf4_3, .int v4_4, .int v4_5, .ref qf4_6, .int v4_7])), (qf4_2, .inl (cf4_2, 201, .inl f4_2)), (qf4_3, .inl (cf4_3, 201, .inl f4_3)), (qf3, .inr (1, [.ref qf3_0, .int v3_1, .ref qf3_2, .int v3_3, .int v3_4, .ref qf3_5, .ref qf3_6, .int v3_7, .int v3_8, .ref qf3_9, .int v3_10, .ref qf3_11, .ref qf3_12, .ref qf3_13, .int v3_14, .int v3_15])), (qf3_0, .inl (cf3_0, 1500, .inl f3_0)), (qf3_2, .inl (cf3_2, 20, .inl f3_2)), (qf0_1, .inl (cf0_1, 3001, .inl f0_1)), (qf0, .inr (9, [.ref qf0_0, .ref qf0_1, .ref qf0_2, .int v0_3, .ref qf0_4, .ref qf0_5, .ref qf0_6, .ref qf0_7, .ref qf0_8, .int v0_9, .int (v0_10 + 1), .int v0_11, .int v0_12])), (qf0_0, .inl (cf0_0, 3001, .inl f0_0))] := hD
  replace hK : va_K (dC, dI) vwCl [(cf0_2, .int), (cf4_2, .int), (cf4_3, .int), (cf3_0, .byte), (cf3_2, .int), (cf0_1, .int), (cf0_0, .int)] s := hK
  obtain rfl := hw
  by_cases hs_2 : u1_0 = 3
  · rw [if_pos hs_2] at hsp
    refine lv_lookup (tgt := 72) hx hb dX10_readConstant_29 (by decide) (off := 43) (by rw [hs_2]; rfl) (by decide) ?_
    refine lv_aload_n hx hb dX10_readConstant_72 rfl (lv_at hl 1 rfl) ?_
    refine lv_aload_n hx hb dX10_readConstant_73 rfl (lv_at hl 1 rfl) ?_
    refine va_get (D := (dC, dI)) (ci := 10) (v := .ref qf0) (C := RX10) (T := TX10) (N := 19) hx hb hts uV_h4_X10 hown hK hP 0 rfl rfl 0 (by decide) (hts (.fieldLink RX10 31 "ClassMill$Values" "text" "LClassMill$Text;") mw_h4_297) (fun _ h9 => h9) rfl dX10_readConstant_74 ?_
    refine lv_iload_n hx hb dX10_readConstant_77 rfl (lv_at hl 0 rfl) ?_
    obtain ⟨u2_0, hu_2, hsp⟩ := ox_bind hsp
    try dsimp only at hsp
    have hPc := hP.sub (ws' := [(qf0, .inr (9, [.ref qf0_0, .ref qf0_1, .ref qf0_2, .int v0_3, .ref qf0_4, .ref qf0_5, .ref qf0_6, .ref qf0_7, .ref qf0_8, .int v0_9, .int (v0_10 + 1), .int v0_11, .int v0_12])), (qf0_2, .inl (cf0_2, 3001, .inl f0_2))]) [9, 1] rfl
    have hDc := hD.sub (ws' := [(qf0, .inr (9, [.ref qf0_0, .ref qf0_1, .ref qf0_2, .int v0_3, .ref qf0_4, .ref qf0_5, .ref qf0_6, .ref qf0_7, .ref qf0_8, .int v0_9, .int (v0_10 + 1), .int v0_11, .int v0_12])), (qf0_2, .inl (cf0_2, 3001, .inl f0_2))]) [9, 1] (by decide) rfl
    have hKc := hK.sub (tys' := [(cf0_2, .int)]) [0] rfl
    have hFc := va_free (wc := [(qf0, .inr (9, [.ref qf0_0, .ref qf0_1, .ref qf0_2, .int v0_3, .ref qf0_4, .ref qf0_5, .ref qf0_6, .ref qf0_7, .ref qf0_8, .int v0_9, .int (v0_10 + 1), .int v0_11, .int v0_12])), (qf0_2, .inl (cf0_2, 3001, .inl f0_2))]) hD hS hA [9, 1] rfl
    refine va_calli (va_runV (As := [.int v0_10]) (rest := [.ref h0]) ⟨hx, hb, hml, hown, hts⟩ (t9_valueAt l dC dI H.size qf0 v0_10 qf0_0 qf0_1 qf0_2 v0_3 qf0_4 qf0_5 qf0_6 qf0_7 qf0_8 v0_9 ((v0_10 + 1)) v0_11 v0_12 cf0_2 f0_2 nf u2_0 hu_2) (cwV 1 hts gv_h4_77 rfl rfl rfl (by decide +kernel) ⟨Nat.le_of_ble_eq_true rfl, Nat.le_of_ble_eq_true rfl⟩) ⟨fun a U g mk q => by obtain ⟨q0, q1, qP, qK, qD⟩ := q; exact ⟨q0, q1, qP, va_K.moved (u := U) (U := U.calling g mk a) (Vm.Alike.refl U.vm) qK, qD⟩, va_recv hKc hPc (ci := 9) (q0 := 0) rfl rfl, fun U hU hW => ⟨rfl, by rw [hU], by rw [hU]; exact hPc, va_K.moved hW.alike hKc, hDc.weaken (fun _ _ _ _ => trivial)⟩⟩ rfl rfl hl.1 rfl (lv_room (Nat.le_of_ble_eq_true rfl)) dX10_readConstant_78 ⟨Nat.le_of_ble_eq_true rfl, Nat.le_of_ble_eq_true rfl⟩) hS (fun q _ h => hFc q h) hFc ?_
    clear hS
    intro r_3 u t H1 locs ht hvm hw hB hz1 hk1 hS
    obtain ⟨⟩ := u
    obtain ⟨hP1, hK1, hD1⟩ := hB
    rw [ht] at hP1
    have hK1 := va_K.moved hvm.symm hK1
    try dsimp only at hw
    have hPD := va_join (wr := [(h0, .inr (10, [.ref qf0, .ref qf1, .ref qf2, .ref qf3, .ref qf4, .ref qf5, .ref qf6, .ref qf7, .ref qf8, .ref qf9, .int v10, .int v11, .int v12, .int v13, .int v14, .int v15, .int v16, .int v17, .int v18])), (qf4, .inr (6, [.ref qf4_0, .ref qf4_1, .ref qf4_2, .ref qf4_3, .int v4_4, .int v4_5, .ref qf4_6, .int v4_7])), (qf4_2, .inl (cf4_2, 201, .inl f4_2)), (qf4_3, .inl (cf4_3, 201, .inl f4_3)), (qf3, .inr (1, [.ref qf3_0, .int v3_1, .ref qf3_2, .int v3_3, .int v3_4, .ref qf3_5, .ref qf3_6, .int v3_7, .int v3_8, .ref qf3_9, .int v3_10, .ref qf3_11, .ref qf3_12, .ref qf3_13, .int v3_14, .int v3_15])), (qf3_0, .inl (cf3_0, 1500, .inl f3_0)), (qf3_2, .inl (cf3_2, 20, .inl f3_2)), (qf0_1, .inl (cf0_1, 3001, .inl f0_1)), (qf0_0, .inl (cf0_0, 3001, .inl f0_0))]) (w1 := [(qf0, .inr (9, [.ref qf0_0, .ref qf0_1, .ref qf0_2, .int v0_3, .ref qf0_4, .ref qf0_5, .ref qf0_6, .ref qf0_7, .ref qf0_8, .int v0_9, .int (v0_10 + 1), .int v0_11, .int v0_12])), (qf0_2, .inl (cf0_2, 3001, .inl f0_2))]) hP hD [9, 1] [0, 2, 3, 4, 5, 6, 7, 8, 10] rfl rfl (by decide) (by decide) hk1 hFc hP1 hD1
    clear hP hD
    obtain ⟨hP, hD⟩ := hPD
    replace hK := (hK.sub (tys' := [(cf4_2, .int), (cf4_3, .int), (cf3_0, .byte), (cf3_2, .int), (cf0_1, .int), (cf0_0, .int)]) [1, 2, 3, 4, 5, 6] rfl).app hK1
    clear hPc hDc hKc hFc hP1 hK1 hD1 hz1 hk1 ht hvm
    generalize H1 = H at hP hS ⊢
    replace hP : va_P (dC, dI) vwCl [(h0, .inr (10, [.ref qf0, .ref qf1, .ref qf2, .ref qf3, .ref qf4, .ref qf5, .ref qf6, .ref qf7, .ref qf8, .ref qf9, .int v10, .int v11, .int v12, .int v13, .int v14, .int v15, .int v16, .int v17, .int v18])), (qf4, .inr (6, [.ref qf4_0, .ref qf4_1, .ref qf4_2, .ref qf4_3, .int v4_4, .int v4_5, .ref qf4_6, .int v4_7])), (qf4_2, .inl (cf4_2, 201, .inl f4_2)), (qf4_3, .inl (cf4_3, 201, .inl f4_3)), (qf3, .inr (1, [.ref qf3_0, .int v3_1, .ref qf3_2, .int v3_3, .int v3_4, .ref qf3_5, .ref qf3_6, .int v3_7, .int v3_8, .ref qf3_9, .int v3_10, .ref qf3_11, .ref qf3_12, .ref qf3_13, .int v3_14, .int v3_15])), (qf3_0, .inl (cf3_0, 1500, .inl f3_0)), (qf3_2, .inl (cf3_2, 20, .inl f3_2)), (qf0_1, .inl (cf0_1, 3001, .inl f0_1)), (qf0_0, .inl (cf0_0, 3001, .inl f0_0)), (qf0, .inr (9, [.ref qf0_0, .ref qf0_1, .ref qf0_2, .int v0_3, .ref qf0_4, .ref qf0_5, .ref qf0_6, .ref qf0_7, .ref qf0_8, .int v0_9, .int (v0_10 + 1), .int v0_11, .int v0_12])), (qf0_2, .inl (cf0_2, 3001, .inl f0_2))] H := hP
    replace hD : va_D A [(h0, .inr (10, [.ref qf0, .ref qf1, .ref qf2, .ref qf3, .ref qf4, .ref qf5, .ref qf6, .ref qf7, .ref qf8, .ref qf9, .int v10, .int v11, .int v12, .int v13, .int v14, .int v15, .int v16, .int v17, .int v18])), (qf4, .inr (6, [.ref qf4_0, .ref qf4_1, .ref qf4_2, .ref qf4_3, .int v4_4, .int v4_5, .ref qf4_6, .int v4_7])), (qf4_2, .inl (cf4_2, 201, .inl f4_2)), (qf4_3, .inl (cf4_3, 201, .inl f4_3)), (qf3, .inr (1, [.ref qf3_0, .int v3_1, .ref qf3_2, .int v3_3, .int v3_4, .ref qf3_5, .ref qf3_6, .int v3_7, .int v3_8, .ref qf3_9, .int v3_10, .ref qf3_11, .ref qf3_12, .ref qf3_13, .int v3_14, .int v3_15])), (qf3_0, .inl (cf3_0, 1500, .inl f3_0)), (qf3_2, .inl (cf3_2, 20, .inl f3_2)), (qf0_1, .inl (cf0_1, 3001, .inl f0_1)), (qf0_0, .inl (cf0_0, 3001, .inl f0_0)), (qf0, .inr (9, [.ref qf0_0, .ref qf0_1, .ref qf0_2, .int v0_3, .ref qf0_4, .ref qf0_5, .ref qf0_6, .ref qf0_7, .ref qf0_8, .int v0_9, .int (v0_10 + 1), .int v0_11, .int v0_12])), (qf0_2, .inl (cf0_2, 3001, .inl f0_2))] := hD
    replace hK : va_K (dC, dI) vwCl [(cf4_2, .int), (cf4_3, .int), (cf3_0, .byte), (cf3_2, .int), (cf0_1, .int), (cf0_0, .int), (cf0_2, .int)] s := hK
    obtain rfl := hw
    obtain ⟨⟨g903_0, g903_1, g903_2, g903_3, u3_4, u3_5, u3_6, u3_7, u3_8, u3_9, u3_10⟩, hu_3, hsp⟩ := ox_bind hsp
    try dsimp only at hsp
    have hPc := hP.sub (ws' := [(h0, .inr (10, [.ref qf0, .ref qf1, .ref qf2, .ref qf3, .ref qf4, .ref qf5, .ref qf6, .ref qf7, .ref qf8, .ref qf9, .int v10, .int v11, .int v12, .int v13, .int v14, .int v15, .int v16, .int v17, .int v18])), (qf4, .inr (6, [.ref qf4_0, .ref qf4_1, .ref qf4_2, .ref qf4_3, .int v4_4, .int v4_5, .ref qf4_6, .int v4_7])), (qf4_2, .inl (cf4_2, 201, .inl f4_2)), (qf4_3, .inl (cf4_3, 201, .inl f4_3)), (qf3, .inr (1, [.ref qf3_0, .int v3_1, .ref qf3_2, .int v3_3, .int v3_4, .ref qf3_5, .ref qf3_6, .int v3_7, .int v3_8, .ref qf3_9, .int v3_10, .ref qf3_11, .ref qf3_12, .ref qf3_13, .int v3_14, .int v3_15])), (qf3_0, .inl (cf3_0, 1500, .inl f3_0)), (qf3_2, .inl (cf3_2, 20, .inl f3_2))]) [0, 1, 2, 3, 4, 5, 6] rfl
    have hDc := hD.sub (ws' := [(h0, .inr (10, [.ref qf0, .ref qf1, .ref qf2, .ref qf3, .ref qf4, .ref qf5, .ref qf6, .ref qf7, .ref qf8, .ref qf9, .int v10, .int v11, .int v12, .int v13, .int v14, .int v15, .int v16, .int v17, .int v18])), (qf4, .inr (6, [.ref qf4_0, .ref qf4_1, .ref qf4_2, .ref qf4_3, .int v4_4, .int v4_5, .ref qf4_6, .int v4_7])), (qf4_2, .inl (cf4_2, 201, .inl f4_2)), (qf4_3, .inl (cf4_3, 201, .inl f4_3)), (qf3, .inr (1, [.ref qf3_0, .int v3_1, .ref qf3_2, .int v3_3, .int v3_4, .ref qf3_5, .ref qf3_6, .int v3_7, .int v3_8, .ref qf3_9, .int v3_10, .ref qf3_11, .ref qf3_12, .ref qf3_13, .int v3_14, .int v3_15])), (qf3_0, .inl (cf3_0, 1500, .inl f3_0)), (qf3_2, .inl (cf3_2, 20, .inl f3_2))]) [0, 1, 2, 3, 4, 5, 6] (by decide) rfl
    have hKc := hK.sub (tys' := [(cf4_2, .int), (cf4_3, .int), (cf3_0, .byte), (cf3_2, .int)]) [0, 1, 2, 3] rfl
    have hFc := va_free (wc := [(h0, .inr (10, [.ref qf0, .ref qf1, .ref qf2, .ref qf3, .ref qf4, .ref qf5, .ref qf6, .ref qf7, .ref qf8, .ref qf9, .int v10, .int v11, .int v12, .int v13, .int v14, .int v15, .int v16, .int v17, .int v18])), (qf4, .inr (6, [.ref qf4_0, .ref qf4_1, .ref qf4_2, .ref qf4_3, .int v4_4, .int v4_5, .ref qf4_6, .int v4_7])), (qf4_2, .inl (cf4_2, 201, .inl f4_2)), (qf4_3, .inl (cf4_3, 201, .inl f4_3)), (qf3, .inr (1, [.ref qf3_0, .int v3_1, .ref qf3_2, .int v3_3, .int v3_4, .ref qf3_5, .ref qf3_6, .int v3_7, .int v3_8, .ref qf3_9, .int v3_10, .ref qf3_11, .ref qf3_12, .ref qf3_13, .int v3_14, .int v3_15])), (qf3_0, .inl (cf3_0, 1500, .inl f3_0)), (qf3_2, .inl (cf3_2, 20, .inl f3_2))]) hD hS hA [0, 1, 2, 3, 4, 5, 6] rfl
    refine va_callv (va_runV (As := [.int u2_0]) (rest := []) ⟨hx, hb, hml, hown, hts⟩ (t10_readNumber l dC dI H.size h0 u2_0 qf0 qf1 qf2 qf3 qf4 qf5 qf6 qf7 qf8 qf9 v10 v11 v12 v13 v14 v15 v16 v17 v18 qf4_0 qf4_1 qf4_2 qf4_3 v4_4 v4_5 qf4_6 v4_7 cf4_2 f4_2 cf4_3 f4_3 qf3_0 v3_1 qf3_2 v3_3 v3_4 qf3_5 qf3_6 v3_7 v3_8 qf3_9 v3_10 qf3_11 qf3_12 qf3_13 v3_14 v3_15 cf3_0 f3_0 cf3_2 f3_2 nf g903_0 g903_1 g903_2 g903_3 u3_4 u3_5 u3_6 u3_7 u3_8 u3_9 u3_10 hu_3) (cwV 1 hts gv_h4_91 rfl rfl rfl (by decide +kernel) ⟨Nat.le_of_ble_eq_true rfl, Nat.le_of_ble_eq_true rfl⟩) ⟨fun a U g mk q => by obtain ⟨q0, q1, qP, qK, qD⟩ := q; exact ⟨q0, q1, qP, va_K.moved (u := U) (U := U.calling g mk a) (Vm.Alike.refl U.vm) qK, qD⟩, va_recv hKc hPc (ci := 10) (q0 := 0) rfl rfl, fun U hU hW => ⟨rfl, by rw [hU], by rw [hU]; exact hPc, va_K.moved hW.alike hKc, hDc.weaken (fun _ _ _ _ => trivial)⟩⟩ rfl rfl hl.1 rfl (lv_room (Nat.le_of_ble_eq_true rfl)) dX10_readConstant_81 ⟨Nat.le_of_ble_eq_true rfl, Nat.le_of_ble_eq_true rfl⟩) hS (fun q _ h => hFc q h) hFc ?_
    clear hS
    intro u t H1 locs ht hvm hw hB hz1 hk1 hS
    obtain ⟨⟩ := u
    obtain ⟨hP1, hK1, hD1⟩ := hB
    rw [ht] at hP1
    have hK1 := va_K.moved hvm.symm hK1
    try dsimp only at hw
    have hPD := va_join (wr := [(qf0_1, .inl (cf0_1, 3001, .inl f0_1)), (qf0_0, .inl (cf0_0, 3001, .inl f0_0)), (qf0, .inr (9, [.ref qf0_0, .ref qf0_1, .ref qf0_2, .int v0_3, .ref qf0_4, .ref qf0_5, .ref qf0_6, .ref qf0_7, .ref qf0_8, .int v0_9, .int (v0_10 + 1), .int v0_11, .int v0_12])), (qf0_2, .inl (cf0_2, 3001, .inl f0_2))]) (w1 := [(h0, .inr (10, [.ref qf0, .ref qf1, .ref qf2, .ref qf3, .ref qf4, .ref qf5, .ref qf6, .ref qf7, .ref qf8, .ref qf9, .int v10, .int u3_4, .int u3_5, .int v13, .int v14, .int v15, .int v16, .int v17, .int v18])), (qf4, .inr (6, [.ref qf4_0, .ref qf4_1, .ref qf4_2, .ref qf4_3, .int u3_9, .int u3_10, .ref qf4_6, .int v4_7])), (qf4_2, .inl (cf4_2, 201, .inl g903_2)), (qf4_3, .inl (cf4_3, 201, .inl g903_3)), (qf3, .inr (1, [.ref qf3_0, .int u3_6, .ref qf3_2, .int u3_7, .int u3_8, .ref qf3_5, .ref qf3_6, .int v3_7, .int v3_8, .ref qf3_9, .int v3_10, .ref qf3_11, .ref qf3_12, .ref qf3_13, .int v3_14, .int v3_15])), (qf3_0, .inl (cf3_0, 1500, .inl g903_0)), (qf3_2, .inl (cf3_2, 20, .inl g903_1))]) hP hD [0, 1, 2, 3, 4, 5, 6] [7, 8, 9, 10] rfl rfl (by decide) (by decide) hk1 hFc hP1 hD1
    clear hP hD
    obtain ⟨hP, hD⟩ := hPD
    replace hK := (hK.sub (tys' := [(cf0_1, .int), (cf0_0, .int), (cf0_2, .int)]) [4, 5, 6] rfl).app hK1
    clear hPc hDc hKc hFc hP1 hK1 hD1 hz1 hk1 ht hvm
    generalize H1 = H at hP hS ⊢
    replace hP : va_P (dC, dI) vwCl [(qf0_1, .inl (cf0_1, 3001, .inl f0_1)), (qf0_0, .inl (cf0_0, 3001, .inl f0_0)), (qf0, .inr (9, [.ref qf0_0, .ref qf0_1, .ref qf0_2, .int v0_3, .ref qf0_4, .ref qf0_5, .ref qf0_6, .ref qf0_7, .ref qf0_8, .int v0_9, .int (v0_10 + 1), .int v0_11, .int v0_12])), (qf0_2, .inl (cf0_2, 3001, .inl f0_2)), (h0, .inr (10, [.ref qf0, .ref qf1, .ref qf2, .ref qf3, .ref qf4, .ref qf5, .ref qf6, .ref qf7, .ref qf8, .ref qf9, .int v10, .int u3_4, .int u3_5, .int v13, .int v14, .int v15, .int v16, .int v17, .int v18])), (qf4, .inr (6, [.ref qf4_0, .ref qf4_1, .ref qf4_2, .ref qf4_3, .int u3_9, .int u3_10, .ref qf4_6, .int v4_7])), (qf4_2, .inl (cf4_2, 201, .inl g903_2)), (qf4_3, .inl (cf4_3, 201, .inl g903_3)), (qf3, .inr (1, [.ref qf3_0, .int u3_6, .ref qf3_2, .int u3_7, .int u3_8, .ref qf3_5, .ref qf3_6, .int v3_7, .int v3_8, .ref qf3_9, .int v3_10, .ref qf3_11, .ref qf3_12, .ref qf3_13, .int v3_14, .int v3_15])), (qf3_0, .inl (cf3_0, 1500, .inl g903_0)), (qf3_2, .inl (cf3_2, 20, .inl g903_1))] H := hP
    replace hD : va_D A [(qf0_1, .inl (cf0_1, 3001, .inl f0_1)), (qf0_0, .inl (cf0_0, 3001, .inl f0_0)), (qf0, .inr (9, [.ref qf0_0, .ref qf0_1, .ref qf0_2, .int v0_3, .ref qf0_4, .ref qf0_5, .ref qf0_6, .ref qf0_7, .ref qf0_8, .int v0_9, .int (v0_10 + 1), .int v0_11, .int v0_12])), (qf0_2, .inl (cf0_2, 3001, .inl f0_2)), (h0, .inr (10, [.ref qf0, .ref qf1, .ref qf2, .ref qf3, .ref qf4, .ref qf5, .ref qf6, .ref qf7, .ref qf8, .ref qf9, .int v10, .int u3_4, .int u3_5, .int v13, .int v14, .int v15, .int v16, .int v17, .int v18])), (qf4, .inr (6, [.ref qf4_0, .ref qf4_1, .ref qf4_2, .ref qf4_3, .int u3_9, .int u3_10, .ref qf4_6, .int v4_7])), (qf4_2, .inl (cf4_2, 201, .inl g903_2)), (qf4_3, .inl (cf4_3, 201, .inl g903_3)), (qf3, .inr (1, [.ref qf3_0, .int u3_6, .ref qf3_2, .int u3_7, .int u3_8, .ref qf3_5, .ref qf3_6, .int v3_7, .int v3_8, .ref qf3_9, .int v3_10, .ref qf3_11, .ref qf3_12, .ref qf3_13, .int v3_14, .int v3_15])), (qf3_0, .inl (cf3_0, 1500, .inl g903_0)), (qf3_2, .inl (cf3_2, 20, .inl g903_1))] := hD
    replace hK : va_K (dC, dI) vwCl [(cf0_1, .int), (cf0_0, .int), (cf0_2, .int), (cf4_2, .int), (cf4_3, .int), (cf3_0, .byte), (cf3_2, .int)] s := hK
    refine lv_goto (tgt := 146) hx hb dX10_readConstant_84 (by decide) ?_
    have hr0 := Option.some.inj hsp
    clear hsp
    obtain ⟨hq0, hr1⟩ := Prod.mk.inj hr0
    clear hr0
    obtain ⟨hq1, hr2⟩ := Prod.mk.inj hr1
    clear hr1
    obtain ⟨hq2, hr3⟩ := Prod.mk.inj hr2
    clear hr2
    obtain ⟨hq3, hr4⟩ := Prod.mk.inj hr3
    clear hr3
    obtain ⟨hq4, hr5⟩ := Prod.mk.inj hr4
    clear hr4
    obtain ⟨hq5, hr6⟩ := Prod.mk.inj hr5
    clear hr5
    obtain ⟨hq6, hr7⟩ := Prod.mk.inj hr6
    clear hr6
    obtain ⟨hq7, hr8⟩ := Prod.mk.inj hr7
    clear hr7
    obtain ⟨hq8, hr9⟩ := Prod.mk.inj hr8
    clear hr8
    obtain ⟨hq9, hr10⟩ := Prod.mk.inj hr9
    clear hr9
    obtain ⟨hq10, hr11⟩ := Prod.mk.inj hr10
    clear hr10
    obtain ⟨hq11, hr12⟩ := Prod.mk.inj hr11
    clear hr11
    obtain ⟨hq12, hr13⟩ := Prod.mk.inj hr12
    clear hr12
    subst hq0
    subst hq1
    subst hq2
    subst hq3
    subst hq4
    subst hq5
    subst hq6
    subst hq7
    subst hq8
    subst hq9
    subst hq10
    subst hq11
    subst hq12
    subst hr13
    have hP9 := hP.sub (ws' := [(h0, .inr (10, [.ref qf0, .ref qf1, .ref qf2, .ref qf3, .ref qf4, .ref qf5, .ref qf6, .ref qf7, .ref qf8, .ref qf9, .int v10, .int u3_4, .int u3_5, .int v13, .int v14, .int v15, .int v16, .int v17, .int v18])), (qf0, .inr (9, [.ref qf0_0, .ref qf0_1, .ref qf0_2, .int v0_3, .ref qf0_4, .ref qf0_5, .ref qf0_6, .ref qf0_7, .ref qf0_8, .int v0_9, .int (v0_10 + 1), .int v0_11, .int v0_12])), (qf0_0, .inl (cf0_0, 3001, .inl f0_0)), (qf0_2, .inl (cf0_2, 3001, .inl f0_2)), (qf4, .inr (6, [.ref qf4_0, .ref qf4_1, .ref qf4_2, .ref qf4_3, .int u3_9, .int u3_10, .ref qf4_6, .int v4_7])), (qf4_2, .inl (cf4_2, 201, .inl g903_2)), (qf4_3, .inl (cf4_3, 201, .inl g903_3)), (qf3, .inr (1, [.ref qf3_0, .int u3_6, .ref qf3_2, .int u3_7, .int u3_8, .ref qf3_5, .ref qf3_6, .int v3_7, .int v3_8, .ref qf3_9, .int v3_10, .ref qf3_11, .ref qf3_12, .ref qf3_13, .int v3_14, .int v3_15])), (qf3_0, .inl (cf3_0, 1500, .inl g903_0)), (qf3_2, .inl (cf3_2, 20, .inl g903_1)), (qf0_1, .inl (cf0_1, 3001, .inl f0_1))]) [4, 2, 1, 3, 5, 6, 7, 8, 9, 10, 0] rfl
    have hD9 := hD.sub (ws' := [(h0, .inr (10, [.ref qf0, .ref qf1, .ref qf2, .ref qf3, .ref qf4, .ref qf5, .ref qf6, .ref qf7, .ref qf8, .ref qf9, .int v10, .int u3_4, .int u3_5, .int v13, .int v14, .int v15, .int v16, .int v17, .int v18])), (qf0, .inr (9, [.ref qf0_0, .ref qf0_1, .ref qf0_2, .int v0_3, .ref qf0_4, .ref qf0_5, .ref qf0_6, .ref qf0_7, .ref qf0_8, .int v0_9, .int (v0_10 + 1), .int v0_11, .int v0_12])), (qf0_0, .inl (cf0_0, 3001, .inl f0_0)), (qf0_2, .inl (cf0_2, 3001, .inl f0_2)), (qf4, .inr (6, [.ref qf4_0, .ref qf4_1, .ref qf4_2, .ref qf4_3, .int u3_9, .int u3_10, .ref qf4_6, .int v4_7])), (qf4_2, .inl (cf4_2, 201, .inl g903_2)), (qf4_3, .inl (cf4_3, 201, .inl g903_3)), (qf3, .inr (1, [.ref qf3_0, .int u3_6, .ref qf3_2, .int u3_7, .int u3_8, .ref qf3_5, .ref qf3_6, .int v3_7, .int v3_8, .ref qf3_9, .int v3_10, .ref qf3_11, .ref qf3_12, .ref qf3_13, .int v3_14, .int v3_15])), (qf3_0, .inl (cf3_0, 1500, .inl g903_0)), (qf3_2, .inl (cf3_2, 20, .inl g903_1)), (qf0_1, .inl (cf0_1, 3001, .inl f0_1))]) [4, 2, 1, 3, 5, 6, 7, 8, 9, 10, 0] (by decide) rfl
    have hK9 := hK.sub (tys' := [(cf0_0, .int), (cf0_2, .int), (cf4_2, .int), (cf4_3, .int), (cf3_0, .byte), (cf3_2, .int), (cf0_1, .int)]) [1, 2, 3, 4, 5, 6, 0] rfl
    exact W.vret hx hb hr (fun t ht hW => ⟨⟨(), rfl, trivial, by rw [ht]; exact hP9, va_K.moved hW.alike hK9, hD9⟩, hS.F ht⟩) hS.2.2 dX10_readConstant_146
  rw [if_neg hs_2] at hsp
  by_cases hs_4 : u1_0 = 17
  · rw [if_pos hs_4] at hsp
    refine lv_lookup (tgt := 105) hx hb dX10_readConstant_29 (by decide) (off := 76) (by rw [hs_4]; rfl) (by decide) ?_
    refine lv_aload_n hx hb dX10_readConstant_105 rfl (lv_at hl 1 rfl) ?_
    refine va_get (D := (dC, dI)) (ci := 10) (v := .ref qf3) (C := RX10) (T := TX10) (N := 19) hx hb hts uV_h4_X10 hown hK hP 0 rfl rfl 3 (by decide) (hts (.fieldLink RX10 46 "ClassMill$Values" "code" "LClassMill$Code;") mw_h4_318) (fun _ h9 => h9) rfl dX10_readConstant_106 ?_
    refine lv_iconst (v := 3) hx hb dX10_readConstant_109 (by decide) ?_
    obtain ⟨⟨g904_0, u4_1⟩, hu_4, hsp⟩ := ox_bind hsp
    try dsimp only at hsp
    have hPc := hP.sub (ws' := [(qf3, .inr (1, [.ref qf3_0, .int v3_1, .ref qf3_2, .int v3_3, .int v3_4, .ref qf3_5, .ref qf3_6, .int v3_7, .int v3_8, .ref qf3_9, .int v3_10, .ref qf3_11, .ref qf3_12, .ref qf3_13, .int v3_14, .int v3_15])), (qf3_0, .inl (cf3_0, 1500, .inl f3_0))]) [5, 6] rfl
    have hDc := hD.sub (ws' := [(qf3, .inr (1, [.ref qf3_0, .int v3_1, .ref qf3_2, .int v3_3, .int v3_4, .ref qf3_5, .ref qf3_6, .int v3_7, .int v3_8, .ref qf3_9, .int v3_10, .ref qf3_11, .ref qf3_12, .ref qf3_13, .int v3_14, .int v3_15])), (qf3_0, .inl (cf3_0, 1500, .inl f3_0))]) [5, 6] (by decide) rfl
    have hKc := hK.sub (tys' := [(cf3_0, .byte)]) [3] rfl
    have hFc := va_free (wc := [(qf3, .inr (1, [.ref qf3_0, .int v3_1, .ref qf3_2, .int v3_3, .int v3_4, .ref qf3_5, .ref qf3_6, .int v3_7, .int v3_8, .ref qf3_9, .int v3_10, .ref qf3_11, .ref qf3_12, .ref qf3_13, .int v3_14, .int v3_15])), (qf3_0, .inl (cf3_0, 1500, .inl f3_0))]) hD hS hA [5, 6] rfl
    refine va_callv (va_runV (As := [.int 3]) (rest := []) ⟨hx, hb, hml, hown, hts⟩ (t1_op l dC dI H.size qf3 3 qf3_0 v3_1 qf3_2 v3_3 v3_4 qf3_5 qf3_6 v3_7 v3_8 qf3_9 v3_10 qf3_11 qf3_12 qf3_13 v3_14 v3_15 cf3_0 f3_0 nf g904_0 u4_1 hu_4) (cwV 1 hts gv_h4_72 rfl rfl rfl (by decide +kernel) ⟨Nat.le_of_ble_eq_true rfl, Nat.le_of_ble_eq_true rfl⟩) ⟨fun a U g mk q => by obtain ⟨q0, q1, qP, qK, qD⟩ := q; exact ⟨q0, q1, qP, va_K.moved (u := U) (U := U.calling g mk a) (Vm.Alike.refl U.vm) qK, qD⟩, va_recv hKc hPc (ci := 1) (q0 := 0) rfl rfl, fun U hU hW => ⟨rfl, by rw [hU], by rw [hU]; exact hPc, va_K.moved hW.alike hKc, hDc.weaken (fun _ _ _ _ => trivial)⟩⟩ rfl rfl hl.1 rfl (lv_room (Nat.le_of_ble_eq_true rfl)) dX10_readConstant_110 ⟨Nat.le_of_ble_eq_true rfl, Nat.le_of_ble_eq_true rfl⟩) hS (fun q _ h => hFc q h) hFc ?_
    clear hS
    intro u t H1 locs ht hvm hw hB hz1 hk1 hS
    obtain ⟨⟩ := u
    obtain ⟨hP1, hK1, hD1⟩ := hB
    rw [ht] at hP1
    have hK1 := va_K.moved hvm.symm hK1
    try dsimp only at hw
    have hPD := va_join (wr := [(h0, .inr (10, [.ref qf0, .ref qf1, .ref qf2, .ref qf3, .ref qf4, .ref qf5, .ref qf6, .ref qf7, .ref qf8, .ref qf9, .int v10, .int v11, .int v12, .int v13, .int v14, .int v15, .int v16, .int v17, .int v18])), (qf0_2, .inl (cf0_2, 3001, .inl f0_2)), (qf4, .inr (6, [.ref qf4_0, .ref qf4_1, .ref qf4_2, .ref qf4_3, .int v4_4, .int v4_5, .ref qf4_6, .int v4_7])), (qf4_2, .inl (cf4_2, 201, .inl f4_2)), (qf4_3, .inl (cf4_3, 201, .inl f4_3)), (qf3_2, .inl (cf3_2, 20, .inl f3_2)), (qf0_1, .inl (cf0_1, 3001, .inl f0_1)), (qf0, .inr (9, [.ref qf0_0, .ref qf0_1, .ref qf0_2, .int v0_3, .ref qf0_4, .ref qf0_5, .ref qf0_6, .ref qf0_7, .ref qf0_8, .int v0_9, .int (v0_10 + 1), .int v0_11, .int v0_12])), (qf0_0, .inl (cf0_0, 3001, .inl f0_0))]) (w1 := [(qf3, .inr (1, [.ref qf3_0, .int u4_1, .ref qf3_2, .int v3_3, .int v3_4, .ref qf3_5, .ref qf3_6, .int v3_7, .int v3_8, .ref qf3_9, .int v3_10, .ref qf3_11, .ref qf3_12, .ref qf3_13, .int v3_14, .int v3_15])), (qf3_0, .inl (cf3_0, 1500, .inl g904_0))]) hP hD [5, 6] [0, 1, 2, 3, 4, 7, 8, 9, 10] rfl rfl (by decide) (by decide) hk1 hFc hP1 hD1
    clear hP hD
    obtain ⟨hP, hD⟩ := hPD
    replace hK := (hK.sub (tys' := [(cf0_2, .int), (cf4_2, .int), (cf4_3, .int), (cf3_2, .int), (cf0_1, .int), (cf0_0, .int)]) [0, 1, 2, 4, 5, 6] rfl).app hK1
    clear hPc hDc hKc hFc hP1 hK1 hD1 hz1 hk1 ht hvm
    generalize H1 = H at hP hS ⊢
    replace hP : va_P (dC, dI) vwCl [(h0, .inr (10, [.ref qf0, .ref qf1, .ref qf2, .ref qf3, .ref qf4, .ref qf5, .ref qf6, .ref qf7, .ref qf8, .ref qf9, .int v10, .int v11, .int v12, .int v13, .int v14, .int v15, .int v16, .int v17, .int v18])), (qf0_2, .inl (cf0_2, 3001, .inl f0_2)), (qf4, .inr (6, [.ref qf4_0, .ref qf4_1, .ref qf4_2, .ref qf4_3, .int v4_4, .int v4_5, .ref qf4_6, .int v4_7])), (qf4_2, .inl (cf4_2, 201, .inl f4_2)), (qf4_3, .inl (cf4_3, 201, .inl f4_3)), (qf3_2, .inl (cf3_2, 20, .inl f3_2)), (qf0_1, .inl (cf0_1, 3001, .inl f0_1)), (qf0, .inr (9, [.ref qf0_0, .ref qf0_1, .ref qf0_2, .int v0_3, .ref qf0_4, .ref qf0_5, .ref qf0_6, .ref qf0_7, .ref qf0_8, .int v0_9, .int (v0_10 + 1), .int v0_11, .int v0_12])), (qf0_0, .inl (cf0_0, 3001, .inl f0_0)), (qf3, .inr (1, [.ref qf3_0, .int u4_1, .ref qf3_2, .int v3_3, .int v3_4, .ref qf3_5, .ref qf3_6, .int v3_7, .int v3_8, .ref qf3_9, .int v3_10, .ref qf3_11, .ref qf3_12, .ref qf3_13, .int v3_14, .int v3_15])), (qf3_0, .inl (cf3_0, 1500, .inl g904_0))] H := hP
    replace hD : va_D A [(h0, .inr (10, [.ref qf0, .ref qf1, .ref qf2, .ref qf3, .ref qf4, .ref qf5, .ref qf6, .ref qf7, .ref qf8, .ref qf9, .int v10, .int v11, .int v12, .int v13, .int v14, .int v15, .int v16, .int v17, .int v18])), (qf0_2, .inl (cf0_2, 3001, .inl f0_2)), (qf4, .inr (6, [.ref qf4_0, .ref qf4_1, .ref qf4_2, .ref qf4_3, .int v4_4, .int v4_5, .ref qf4_6, .int v4_7])), (qf4_2, .inl (cf4_2, 201, .inl f4_2)), (qf4_3, .inl (cf4_3, 201, .inl f4_3)), (qf3_2, .inl (cf3_2, 20, .inl f3_2)), (qf0_1, .inl (cf0_1, 3001, .inl f0_1)), (qf0, .inr (9, [.ref qf0_0, .ref qf0_1, .ref qf0_2, .int v0_3, .ref qf0_4, .ref qf0_5, .ref qf0_6, .ref qf0_7, .ref qf0_8, .int v0_9, .int (v0_10 + 1), .int v0_11, .int v0_12])), (qf0_0, .inl (cf0_0, 3001, .inl f0_0)), (qf3, .inr (1, [.ref qf3_0, .int u4_1, .ref qf3_2, .int v3_3, .int v3_4, .ref qf3_5, .ref qf3_6, .int v3_7, .int v3_8, .ref qf3_9, .int v3_10, .ref qf3_11, .ref qf3_12, .ref qf3_13, .int v3_14, .int v3_15])), (qf3_0, .inl (cf3_0, 1500, .inl g904_0))] := hD
    replace hK : va_K (dC, dI) vwCl [(cf0_2, .int), (cf4_2, .int), (cf4_3, .int), (cf3_2, .int), (cf0_1, .int), (cf0_0, .int), (cf3_0, .byte)] s := hK
    refine lv_aload_n hx hb dX10_readConstant_113 rfl (lv_at hl 1 rfl) ?_
    refine lv_sipush (v := 302) hx hb dX10_readConstant_114 (by decide) ?_
    obtain ⟨⟨g905_0, u5_1, u5_2, u5_3, u5_4⟩, hu_5, hsp⟩ := ox_bind hsp
    try dsimp only at hsp
    have hPc := hP.sub (ws' := [(h0, .inr (10, [.ref qf0, .ref qf1, .ref qf2, .ref qf3, .ref qf4, .ref qf5, .ref qf6, .ref qf7, .ref qf8, .ref qf9, .int v10, .int v11, .int v12, .int v13, .int v14, .int v15, .int v16, .int v17, .int v18])), (qf3, .inr (1, [.ref qf3_0, .int u4_1, .ref qf3_2, .int v3_3, .int v3_4, .ref qf3_5, .ref qf3_6, .int v3_7, .int v3_8, .ref qf3_9, .int v3_10, .ref qf3_11, .ref qf3_12, .ref qf3_13, .int v3_14, .int v3_15])), (qf3_2, .inl (cf3_2, 20, .inl f3_2))]) [0, 9, 5] rfl
    have hDc := hD.sub (ws' := [(h0, .inr (10, [.ref qf0, .ref qf1, .ref qf2, .ref qf3, .ref qf4, .ref qf5, .ref qf6, .ref qf7, .ref qf8, .ref qf9, .int v10, .int v11, .int v12, .int v13, .int v14, .int v15, .int v16, .int v17, .int v18])), (qf3, .inr (1, [.ref qf3_0, .int u4_1, .ref qf3_2, .int v3_3, .int v3_4, .ref qf3_5, .ref qf3_6, .int v3_7, .int v3_8, .ref qf3_9, .int v3_10, .ref qf3_11, .ref qf3_12, .ref qf3_13, .int v3_14, .int v3_15])), (qf3_2, .inl (cf3_2, 20, .inl f3_2))]) [0, 9, 5] (by decide) rfl
    have hKc := hK.sub (tys' := [(cf3_2, .int)]) [3] rfl
    have hFc := va_free (wc := [(h0, .inr (10, [.ref qf0, .ref qf1, .ref qf2, .ref qf3, .ref qf4, .ref qf5, .ref qf6, .ref qf7, .ref qf8, .ref qf9, .int v10, .int v11, .int v12, .int v13, .int v14, .int v15, .int v16, .int v17, .int v18])), (qf3, .inr (1, [.ref qf3_0, .int u4_1, .ref qf3_2, .int v3_3, .int v3_4, .ref qf3_5, .ref qf3_6, .int v3_7, .int v3_8, .ref qf3_9, .int v3_10, .ref qf3_11, .ref qf3_12, .ref qf3_13, .int v3_14, .int v3_15])), (qf3_2, .inl (cf3_2, 20, .inl f3_2))]) hD hS hA [0, 9, 5] rfl
    refine va_callv (va_runV (As := [.int 302]) (rest := []) ⟨hx, hb, hml, hown, hts⟩ (t10_give l dC dI H.size h0 302 qf0 qf1 qf2 qf3 qf4 qf5 qf6 qf7 qf8 qf9 v10 v11 v12 v13 v14 v15 v16 v17 v18 qf3_0 u4_1 qf3_2 v3_3 v3_4 qf3_5 qf3_6 v3_7 v3_8 qf3_9 v3_10 qf3_11 qf3_12 qf3_13 v3_14 v3_15 cf3_2 f3_2 nf g905_0 u5_1 u5_2 u5_3 u5_4 hu_5) (cwV 1 hts gv_h4_79 rfl rfl rfl (by decide +kernel) ⟨Nat.le_of_ble_eq_true rfl, Nat.le_of_ble_eq_true rfl⟩) ⟨fun a U g mk q => by obtain ⟨q0, q1, qP, qK, qD⟩ := q; exact ⟨q0, q1, qP, va_K.moved (u := U) (U := U.calling g mk a) (Vm.Alike.refl U.vm) qK, qD⟩, va_recv hKc hPc (ci := 10) (q0 := 0) rfl rfl, fun U hU hW => ⟨rfl, by rw [hU], by rw [hU]; exact hPc, va_K.moved hW.alike hKc, hDc.weaken (fun _ _ _ _ => trivial)⟩⟩ rfl rfl hl.1 rfl (lv_room (Nat.le_of_ble_eq_true rfl)) dX10_readConstant_117 ⟨Nat.le_of_ble_eq_true rfl, Nat.le_of_ble_eq_true rfl⟩) hS (fun q _ h => hFc q h) hFc ?_
    clear hS
    intro u t H1 locs ht hvm hw hB hz1 hk1 hS
    obtain ⟨⟩ := u
    obtain ⟨hP1, hK1, hD1⟩ := hB
    rw [ht] at hP1
    have hK1 := va_K.moved hvm.symm hK1
    try dsimp only at hw
    have hPD := va_join (wr := [(qf0_2, .inl (cf0_2, 3001, .inl f0_2)), (qf4, .inr (6, [.ref qf4_0, .ref qf4_1, .ref qf4_2, .ref qf4_3, .int v4_4, .int v4_5, .ref qf4_6, .int v4_7])), (qf4_2, .inl (cf4_2, 201, .inl f4_2)), (qf4_3, .inl (cf4_3, 201, .inl f4_3)), (qf0_1, .inl (cf0_1, 3001, .inl f0_1)), (qf0, .inr (9, [.ref qf0_0, .ref qf0_1, .ref qf0_2, .int v0_3, .ref qf0_4, .ref qf0_5, .ref qf0_6, .ref qf0_7, .ref qf0_8, .int v0_9, .int (v0_10 + 1), .int v0_11, .int v0_12])), (qf0_0, .inl (cf0_0, 3001, .inl f0_0)), (qf3_0, .inl (cf3_0, 1500, .inl g904_0))]) (w1 := [(h0, .inr (10, [.ref qf0, .ref qf1, .ref qf2, .ref qf3, .ref qf4, .ref qf5, .ref qf6, .ref qf7, .ref qf8, .ref qf9, .int v10, .int u5_1, .int u5_2, .int v13, .int v14, .int v15, .int v16, .int v17, .int v18])), (qf3, .inr (1, [.ref qf3_0, .int u4_1, .ref qf3_2, .int u5_3, .int u5_4, .ref qf3_5, .ref qf3_6, .int v3_7, .int v3_8, .ref qf3_9, .int v3_10, .ref qf3_11, .ref qf3_12, .ref qf3_13, .int v3_14, .int v3_15])), (qf3_2, .inl (cf3_2, 20, .inl g905_0))]) hP hD [0, 9, 5] [1, 2, 3, 4, 6, 7, 8, 10] rfl rfl (by decide) (by decide) hk1 hFc hP1 hD1
    clear hP hD
    obtain ⟨hP, hD⟩ := hPD
    replace hK := (hK.sub (tys' := [(cf0_2, .int), (cf4_2, .int), (cf4_3, .int), (cf0_1, .int), (cf0_0, .int), (cf3_0, .byte)]) [0, 1, 2, 4, 5, 6] rfl).app hK1
    clear hPc hDc hKc hFc hP1 hK1 hD1 hz1 hk1 ht hvm
    generalize H1 = H at hP hS ⊢
    replace hP : va_P (dC, dI) vwCl [(qf0_2, .inl (cf0_2, 3001, .inl f0_2)), (qf4, .inr (6, [.ref qf4_0, .ref qf4_1, .ref qf4_2, .ref qf4_3, .int v4_4, .int v4_5, .ref qf4_6, .int v4_7])), (qf4_2, .inl (cf4_2, 201, .inl f4_2)), (qf4_3, .inl (cf4_3, 201, .inl f4_3)), (qf0_1, .inl (cf0_1, 3001, .inl f0_1)), (qf0, .inr (9, [.ref qf0_0, .ref qf0_1, .ref qf0_2, .int v0_3, .ref qf0_4, .ref qf0_5, .ref qf0_6, .ref qf0_7, .ref qf0_8, .int v0_9, .int (v0_10 + 1), .int v0_11, .int v0_12])), (qf0_0, .inl (cf0_0, 3001, .inl f0_0)), (qf3_0, .inl (cf3_0, 1500, .inl g904_0)), (h0, .inr (10, [.ref qf0, .ref qf1, .ref qf2, .ref qf3, .ref qf4, .ref qf5, .ref qf6, .ref qf7, .ref qf8, .ref qf9, .int v10, .int u5_1, .int u5_2, .int v13, .int v14, .int v15, .int v16, .int v17, .int v18])), (qf3, .inr (1, [.ref qf3_0, .int u4_1, .ref qf3_2, .int u5_3, .int u5_4, .ref qf3_5, .ref qf3_6, .int v3_7, .int v3_8, .ref qf3_9, .int v3_10, .ref qf3_11, .ref qf3_12, .ref qf3_13, .int v3_14, .int v3_15])), (qf3_2, .inl (cf3_2, 20, .inl g905_0))] H := hP
    replace hD : va_D A [(qf0_2, .inl (cf0_2, 3001, .inl f0_2)), (qf4, .inr (6, [.ref qf4_0, .ref qf4_1, .ref qf4_2, .ref qf4_3, .int v4_4, .int v4_5, .ref qf4_6, .int v4_7])), (qf4_2, .inl (cf4_2, 201, .inl f4_2)), (qf4_3, .inl (cf4_3, 201, .inl f4_3)), (qf0_1, .inl (cf0_1, 3001, .inl f0_1)), (qf0, .inr (9, [.ref qf0_0, .ref qf0_1, .ref qf0_2, .int v0_3, .ref qf0_4, .ref qf0_5, .ref qf0_6, .ref qf0_7, .ref qf0_8, .int v0_9, .int (v0_10 + 1), .int v0_11, .int v0_12])), (qf0_0, .inl (cf0_0, 3001, .inl f0_0)), (qf3_0, .inl (cf3_0, 1500, .inl g904_0)), (h0, .inr (10, [.ref qf0, .ref qf1, .ref qf2, .ref qf3, .ref qf4, .ref qf5, .ref qf6, .ref qf7, .ref qf8, .ref qf9, .int v10, .int u5_1, .int u5_2, .int v13, .int v14, .int v15, .int v16, .int v17, .int v18])), (qf3, .inr (1, [.ref qf3_0, .int u4_1, .ref qf3_2, .int u5_3, .int u5_4, .ref qf3_5, .ref qf3_6, .int v3_7, .int v3_8, .ref qf3_9, .int v3_10, .ref qf3_11, .ref qf3_12, .ref qf3_13, .int v3_14, .int v3_15])), (qf3_2, .inl (cf3_2, 20, .inl g905_0))] := hD
    replace hK : va_K (dC, dI) vwCl [(cf0_2, .int), (cf4_2, .int), (cf4_3, .int), (cf0_1, .int), (cf0_0, .int), (cf3_0, .byte), (cf3_2, .int)] s := hK
    refine lv_goto (tgt := 146) hx hb dX10_readConstant_120 (by decide) ?_
    have hr0 := Option.some.inj hsp
    clear hsp
    obtain ⟨hq0, hr1⟩ := Prod.mk.inj hr0
    clear hr0
    obtain ⟨hq1, hr2⟩ := Prod.mk.inj hr1
    clear hr1
    obtain ⟨hq2, hr3⟩ := Prod.mk.inj hr2
    clear hr2
    obtain ⟨hq3, hr4⟩ := Prod.mk.inj hr3
    clear hr3
    obtain ⟨hq4, hr5⟩ := Prod.mk.inj hr4
    clear hr4
    obtain ⟨hq5, hr6⟩ := Prod.mk.inj hr5
    clear hr5
    obtain ⟨hq6, hr7⟩ := Prod.mk.inj hr6
    clear hr6
    obtain ⟨hq7, hr8⟩ := Prod.mk.inj hr7
    clear hr7
    obtain ⟨hq8, hr9⟩ := Prod.mk.inj hr8
    clear hr8
    obtain ⟨hq9, hr10⟩ := Prod.mk.inj hr9
    clear hr9
    obtain ⟨hq10, hr11⟩ := Prod.mk.inj hr10
    clear hr10
    obtain ⟨hq11, hr12⟩ := Prod.mk.inj hr11
    clear hr11
    obtain ⟨hq12, hr13⟩ := Prod.mk.inj hr12
    clear hr12
    subst hq0
    subst hq1
    subst hq2
    subst hq3
    subst hq4
    subst hq5
    subst hq6
    subst hq7
    subst hq8
    subst hq9
    subst hq10
    subst hq11
    subst hq12
    subst hr13
    have hP9 := hP.sub (ws' := [(h0, .inr (10, [.ref qf0, .ref qf1, .ref qf2, .ref qf3, .ref qf4, .ref qf5, .ref qf6, .ref qf7, .ref qf8, .ref qf9, .int v10, .int u5_1, .int u5_2, .int v13, .int v14, .int v15, .int v16, .int v17, .int v18])), (qf0, .inr (9, [.ref qf0_0, .ref qf0_1, .ref qf0_2, .int v0_3, .ref qf0_4, .ref qf0_5, .ref qf0_6, .ref qf0_7, .ref qf0_8, .int v0_9, .int (v0_10 + 1), .int v0_11, .int v0_12])), (qf0_0, .inl (cf0_0, 3001, .inl f0_0)), (qf0_2, .inl (cf0_2, 3001, .inl f0_2)), (qf4, .inr (6, [.ref qf4_0, .ref qf4_1, .ref qf4_2, .ref qf4_3, .int v4_4, .int v4_5, .ref qf4_6, .int v4_7])), (qf4_2, .inl (cf4_2, 201, .inl f4_2)), (qf4_3, .inl (cf4_3, 201, .inl f4_3)), (qf3, .inr (1, [.ref qf3_0, .int u4_1, .ref qf3_2, .int u5_3, .int u5_4, .ref qf3_5, .ref qf3_6, .int v3_7, .int v3_8, .ref qf3_9, .int v3_10, .ref qf3_11, .ref qf3_12, .ref qf3_13, .int v3_14, .int v3_15])), (qf3_0, .inl (cf3_0, 1500, .inl g904_0)), (qf3_2, .inl (cf3_2, 20, .inl g905_0)), (qf0_1, .inl (cf0_1, 3001, .inl f0_1))]) [8, 5, 6, 0, 1, 2, 3, 9, 7, 10, 4] rfl
    have hD9 := hD.sub (ws' := [(h0, .inr (10, [.ref qf0, .ref qf1, .ref qf2, .ref qf3, .ref qf4, .ref qf5, .ref qf6, .ref qf7, .ref qf8, .ref qf9, .int v10, .int u5_1, .int u5_2, .int v13, .int v14, .int v15, .int v16, .int v17, .int v18])), (qf0, .inr (9, [.ref qf0_0, .ref qf0_1, .ref qf0_2, .int v0_3, .ref qf0_4, .ref qf0_5, .ref qf0_6, .ref qf0_7, .ref qf0_8, .int v0_9, .int (v0_10 + 1), .int v0_11, .int v0_12])), (qf0_0, .inl (cf0_0, 3001, .inl f0_0)), (qf0_2, .inl (cf0_2, 3001, .inl f0_2)), (qf4, .inr (6, [.ref qf4_0, .ref qf4_1, .ref qf4_2, .ref qf4_3, .int v4_4, .int v4_5, .ref qf4_6, .int v4_7])), (qf4_2, .inl (cf4_2, 201, .inl f4_2)), (qf4_3, .inl (cf4_3, 201, .inl f4_3)), (qf3, .inr (1, [.ref qf3_0, .int u4_1, .ref qf3_2, .int u5_3, .int u5_4, .ref qf3_5, .ref qf3_6, .int v3_7, .int v3_8, .ref qf3_9, .int v3_10, .ref qf3_11, .ref qf3_12, .ref qf3_13, .int v3_14, .int v3_15])), (qf3_0, .inl (cf3_0, 1500, .inl g904_0)), (qf3_2, .inl (cf3_2, 20, .inl g905_0)), (qf0_1, .inl (cf0_1, 3001, .inl f0_1))]) [8, 5, 6, 0, 1, 2, 3, 9, 7, 10, 4] (by decide) rfl
    have hK9 := hK.sub (tys' := [(cf0_0, .int), (cf0_2, .int), (cf4_2, .int), (cf4_3, .int), (cf3_0, .byte), (cf3_2, .int), (cf0_1, .int)]) [4, 0, 1, 2, 5, 6, 3] rfl
    exact W.vret hx hb hr (fun t ht hW => ⟨⟨(), rfl, trivial, by rw [ht]; exact hP9, va_K.moved hW.alike hK9, hD9⟩, hS.F ht⟩) hS.2.2 dX10_readConstant_146
  rw [if_neg hs_4] at hsp
  by_cases hs_5 : u1_0 = 22
  · rw [if_pos hs_5] at hsp
    refine lv_lookup (tgt := 123) hx hb dX10_readConstant_29 (by decide) (off := 94) (by rw [hs_5]; rfl) (by decide) ?_
    refine lv_aload_n hx hb dX10_readConstant_123 rfl (lv_at hl 1 rfl) ?_
    refine va_get (D := (dC, dI)) (ci := 10) (v := .ref qf3) (C := RX10) (T := TX10) (N := 19) hx hb hts uV_h4_X10 hown hK hP 0 rfl rfl 3 (by decide) (hts (.fieldLink RX10 46 "ClassMill$Values" "code" "LClassMill$Code;") mw_h4_318) (fun _ h9 => h9) rfl dX10_readConstant_124 ?_
    refine lv_iconst (v := 1) hx hb dX10_readConstant_127 (by decide) ?_
    obtain ⟨⟨g906_0, u6_1⟩, hu_6, hsp⟩ := ox_bind hsp
    try dsimp only at hsp
    have hPc := hP.sub (ws' := [(qf3, .inr (1, [.ref qf3_0, .int v3_1, .ref qf3_2, .int v3_3, .int v3_4, .ref qf3_5, .ref qf3_6, .int v3_7, .int v3_8, .ref qf3_9, .int v3_10, .ref qf3_11, .ref qf3_12, .ref qf3_13, .int v3_14, .int v3_15])), (qf3_0, .inl (cf3_0, 1500, .inl f3_0))]) [5, 6] rfl
    have hDc := hD.sub (ws' := [(qf3, .inr (1, [.ref qf3_0, .int v3_1, .ref qf3_2, .int v3_3, .int v3_4, .ref qf3_5, .ref qf3_6, .int v3_7, .int v3_8, .ref qf3_9, .int v3_10, .ref qf3_11, .ref qf3_12, .ref qf3_13, .int v3_14, .int v3_15])), (qf3_0, .inl (cf3_0, 1500, .inl f3_0))]) [5, 6] (by decide) rfl
    have hKc := hK.sub (tys' := [(cf3_0, .byte)]) [3] rfl
    have hFc := va_free (wc := [(qf3, .inr (1, [.ref qf3_0, .int v3_1, .ref qf3_2, .int v3_3, .int v3_4, .ref qf3_5, .ref qf3_6, .int v3_7, .int v3_8, .ref qf3_9, .int v3_10, .ref qf3_11, .ref qf3_12, .ref qf3_13, .int v3_14, .int v3_15])), (qf3_0, .inl (cf3_0, 1500, .inl f3_0))]) hD hS hA [5, 6] rfl
    refine va_callv (va_runV (As := [.int 1]) (rest := []) ⟨hx, hb, hml, hown, hts⟩ (t1_op l dC dI H.size qf3 1 qf3_0 v3_1 qf3_2 v3_3 v3_4 qf3_5 qf3_6 v3_7 v3_8 qf3_9 v3_10 qf3_11 qf3_12 qf3_13 v3_14 v3_15 cf3_0 f3_0 nf g906_0 u6_1 hu_6) (cwV 1 hts gv_h4_72 rfl rfl rfl (by decide +kernel) ⟨Nat.le_of_ble_eq_true rfl, Nat.le_of_ble_eq_true rfl⟩) ⟨fun a U g mk q => by obtain ⟨q0, q1, qP, qK, qD⟩ := q; exact ⟨q0, q1, qP, va_K.moved (u := U) (U := U.calling g mk a) (Vm.Alike.refl U.vm) qK, qD⟩, va_recv hKc hPc (ci := 1) (q0 := 0) rfl rfl, fun U hU hW => ⟨rfl, by rw [hU], by rw [hU]; exact hPc, va_K.moved hW.alike hKc, hDc.weaken (fun _ _ _ _ => trivial)⟩⟩ rfl rfl hl.1 rfl (lv_room (Nat.le_of_ble_eq_true rfl)) dX10_readConstant_128 ⟨Nat.le_of_ble_eq_true rfl, Nat.le_of_ble_eq_true rfl⟩) hS (fun q _ h => hFc q h) hFc ?_
    clear hS
    intro u t H1 locs ht hvm hw hB hz1 hk1 hS
    obtain ⟨⟩ := u
    obtain ⟨hP1, hK1, hD1⟩ := hB
    rw [ht] at hP1
    have hK1 := va_K.moved hvm.symm hK1
    try dsimp only at hw
    have hPD := va_join (wr := [(h0, .inr (10, [.ref qf0, .ref qf1, .ref qf2, .ref qf3, .ref qf4, .ref qf5, .ref qf6, .ref qf7, .ref qf8, .ref qf9, .int v10, .int v11, .int v12, .int v13, .int v14, .int v15, .int v16, .int v17, .int v18])), (qf0_2, .inl (cf0_2, 3001, .inl f0_2)), (qf4, .inr (6, [.ref qf4_0, .ref qf4_1, .ref qf4_2, .ref qf4_3, .int v4_4, .int v4_5, .ref qf4_6, .int v4_7])), (qf4_2, .inl (cf4_2, 201, .inl f4_2)), (qf4_3, .inl (cf4_3, 201, .inl f4_3)), (qf3_2, .inl (cf3_2, 20, .inl f3_2)), (qf0_1, .inl (cf0_1, 3001, .inl f0_1)), (qf0, .inr (9, [.ref qf0_0, .ref qf0_1, .ref qf0_2, .int v0_3, .ref qf0_4, .ref qf0_5, .ref qf0_6, .ref qf0_7, .ref qf0_8, .int v0_9, .int (v0_10 + 1), .int v0_11, .int v0_12])), (qf0_0, .inl (cf0_0, 3001, .inl f0_0))]) (w1 := [(qf3, .inr (1, [.ref qf3_0, .int u6_1, .ref qf3_2, .int v3_3, .int v3_4, .ref qf3_5, .ref qf3_6, .int v3_7, .int v3_8, .ref qf3_9, .int v3_10, .ref qf3_11, .ref qf3_12, .ref qf3_13, .int v3_14, .int v3_15])), (qf3_0, .inl (cf3_0, 1500, .inl g906_0))]) hP hD [5, 6] [0, 1, 2, 3, 4, 7, 8, 9, 10] rfl rfl (by decide) (by decide) hk1 hFc hP1 hD1
    clear hP hD
    obtain ⟨hP, hD⟩ := hPD
    replace hK := (hK.sub (tys' := [(cf0_2, .int), (cf4_2, .int), (cf4_3, .int), (cf3_2, .int), (cf0_1, .int), (cf0_0, .int)]) [0, 1, 2, 4, 5, 6] rfl).app hK1
    clear hPc hDc hKc hFc hP1 hK1 hD1 hz1 hk1 ht hvm
    generalize H1 = H at hP hS ⊢
    replace hP : va_P (dC, dI) vwCl [(h0, .inr (10, [.ref qf0, .ref qf1, .ref qf2, .ref qf3, .ref qf4, .ref qf5, .ref qf6, .ref qf7, .ref qf8, .ref qf9, .int v10, .int v11, .int v12, .int v13, .int v14, .int v15, .int v16, .int v17, .int v18])), (qf0_2, .inl (cf0_2, 3001, .inl f0_2)), (qf4, .inr (6, [.ref qf4_0, .ref qf4_1, .ref qf4_2, .ref qf4_3, .int v4_4, .int v4_5, .ref qf4_6, .int v4_7])), (qf4_2, .inl (cf4_2, 201, .inl f4_2)), (qf4_3, .inl (cf4_3, 201, .inl f4_3)), (qf3_2, .inl (cf3_2, 20, .inl f3_2)), (qf0_1, .inl (cf0_1, 3001, .inl f0_1)), (qf0, .inr (9, [.ref qf0_0, .ref qf0_1, .ref qf0_2, .int v0_3, .ref qf0_4, .ref qf0_5, .ref qf0_6, .ref qf0_7, .ref qf0_8, .int v0_9, .int (v0_10 + 1), .int v0_11, .int v0_12])), (qf0_0, .inl (cf0_0, 3001, .inl f0_0)), (qf3, .inr (1, [.ref qf3_0, .int u6_1, .ref qf3_2, .int v3_3, .int v3_4, .ref qf3_5, .ref qf3_6, .int v3_7, .int v3_8, .ref qf3_9, .int v3_10, .ref qf3_11, .ref qf3_12, .ref qf3_13, .int v3_14, .int v3_15])), (qf3_0, .inl (cf3_0, 1500, .inl g906_0))] H := hP
    replace hD : va_D A [(h0, .inr (10, [.ref qf0, .ref qf1, .ref qf2, .ref qf3, .ref qf4, .ref qf5, .ref qf6, .ref qf7, .ref qf8, .ref qf9, .int v10, .int v11, .int v12, .int v13, .int v14, .int v15, .int v16, .int v17, .int v18])), (qf0_2, .inl (cf0_2, 3001, .inl f0_2)), (qf4, .inr (6, [.ref qf4_0, .ref qf4_1, .ref qf4_2, .ref qf4_3, .int v4_4, .int v4_5, .ref qf4_6, .int v4_7])), (qf4_2, .inl (cf4_2, 201, .inl f4_2)), (qf4_3, .inl (cf4_3, 201, .inl f4_3)), (qf3_2, .inl (cf3_2, 20, .inl f3_2)), (qf0_1, .inl (cf0_1, 3001, .inl f0_1)), (qf0, .inr (9, [.ref qf0_0, .ref qf0_1, .ref qf0_2, .int v0_3, .ref qf0_4, .ref qf0_5, .ref qf0_6, .ref qf0_7, .ref qf0_8, .int v0_9, .int (v0_10 + 1), .int v0_11, .int v0_12])), (qf0_0, .inl (cf0_0, 3001, .inl f0_0)), (qf3, .inr (1, [.ref qf3_0, .int u6_1, .ref qf3_2, .int v3_3, .int v3_4, .ref qf3_5, .ref qf3_6, .int v3_7, .int v3_8, .ref qf3_9, .int v3_10, .ref qf3_11, .ref qf3_12, .ref qf3_13, .int v3_14, .int v3_15])), (qf3_0, .inl (cf3_0, 1500, .inl g906_0))] := hD
    replace hK : va_K (dC, dI) vwCl [(cf0_2, .int), (cf4_2, .int), (cf4_3, .int), (cf3_2, .int), (cf0_1, .int), (cf0_0, .int), (cf3_0, .byte)] s := hK
    refine lv_aload_n hx hb dX10_readConstant_131 rfl (lv_at hl 1 rfl) ?_
    refine lv_sipush (v := 300) hx hb dX10_readConstant_132 (by decide) ?_
    obtain ⟨⟨g907_0, u7_1, u7_2, u7_3, u7_4⟩, hu_7, hsp⟩ := ox_bind hsp
    try dsimp only at hsp
    have hPc := hP.sub (ws' := [(h0, .inr (10, [.ref qf0, .ref qf1, .ref qf2, .ref qf3, .ref qf4, .ref qf5, .ref qf6, .ref qf7, .ref qf8, .ref qf9, .int v10, .int v11, .int v12, .int v13, .int v14, .int v15, .int v16, .int v17, .int v18])), (qf3, .inr (1, [.ref qf3_0, .int u6_1, .ref qf3_2, .int v3_3, .int v3_4, .ref qf3_5, .ref qf3_6, .int v3_7, .int v3_8, .ref qf3_9, .int v3_10, .ref qf3_11, .ref qf3_12, .ref qf3_13, .int v3_14, .int v3_15])), (qf3_2, .inl (cf3_2, 20, .inl f3_2))]) [0, 9, 5] rfl
    have hDc := hD.sub (ws' := [(h0, .inr (10, [.ref qf0, .ref qf1, .ref qf2, .ref qf3, .ref qf4, .ref qf5, .ref qf6, .ref qf7, .ref qf8, .ref qf9, .int v10, .int v11, .int v12, .int v13, .int v14, .int v15, .int v16, .int v17, .int v18])), (qf3, .inr (1, [.ref qf3_0, .int u6_1, .ref qf3_2, .int v3_3, .int v3_4, .ref qf3_5, .ref qf3_6, .int v3_7, .int v3_8, .ref qf3_9, .int v3_10, .ref qf3_11, .ref qf3_12, .ref qf3_13, .int v3_14, .int v3_15])), (qf3_2, .inl (cf3_2, 20, .inl f3_2))]) [0, 9, 5] (by decide) rfl
    have hKc := hK.sub (tys' := [(cf3_2, .int)]) [3] rfl
    have hFc := va_free (wc := [(h0, .inr (10, [.ref qf0, .ref qf1, .ref qf2, .ref qf3, .ref qf4, .ref qf5, .ref qf6, .ref qf7, .ref qf8, .ref qf9, .int v10, .int v11, .int v12, .int v13, .int v14, .int v15, .int v16, .int v17, .int v18])), (qf3, .inr (1, [.ref qf3_0, .int u6_1, .ref qf3_2, .int v3_3, .int v3_4, .ref qf3_5, .ref qf3_6, .int v3_7, .int v3_8, .ref qf3_9, .int v3_10, .ref qf3_11, .ref qf3_12, .ref qf3_13, .int v3_14, .int v3_15])), (qf3_2, .inl (cf3_2, 20, .inl f3_2))]) hD hS hA [0, 9, 5] rfl
    refine va_callv (va_runV (As := [.int 300]) (rest := []) ⟨hx, hb, hml, hown, hts⟩ (t10_give l dC dI H.size h0 300 qf0 qf1 qf2 qf3 qf4 qf5 qf6 qf7 qf8 qf9 v10 v11 v12 v13 v14 v15 v16 v17 v18 qf3_0 u6_1 qf3_2 v3_3 v3_4 qf3_5 qf3_6 v3_7 v3_8 qf3_9 v3_10 qf3_11 qf3_12 qf3_13 v3_14 v3_15 cf3_2 f3_2 nf g907_0 u7_1 u7_2 u7_3 u7_4 hu_7) (cwV 1 hts gv_h4_79 rfl rfl rfl (by decide +kernel) ⟨Nat.le_of_ble_eq_true rfl, Nat.le_of_ble_eq_true rfl⟩) ⟨fun a U g mk q => by obtain ⟨q0, q1, qP, qK, qD⟩ := q; exact ⟨q0, q1, qP, va_K.moved (u := U) (U := U.calling g mk a) (Vm.Alike.refl U.vm) qK, qD⟩, va_recv hKc hPc (ci := 10) (q0 := 0) rfl rfl, fun U hU hW => ⟨rfl, by rw [hU], by rw [hU]; exact hPc, va_K.moved hW.alike hKc, hDc.weaken (fun _ _ _ _ => trivial)⟩⟩ rfl rfl hl.1 rfl (lv_room (Nat.le_of_ble_eq_true rfl)) dX10_readConstant_135 ⟨Nat.le_of_ble_eq_true rfl, Nat.le_of_ble_eq_true rfl⟩) hS (fun q _ h => hFc q h) hFc ?_
    clear hS
    intro u t H1 locs ht hvm hw hB hz1 hk1 hS
    obtain ⟨⟩ := u
    obtain ⟨hP1, hK1, hD1⟩ := hB
    rw [ht] at hP1
    have hK1 := va_K.moved hvm.symm hK1
    try dsimp only at hw
    have hPD := va_join (wr := [(qf0_2, .inl (cf0_2, 3001, .inl f0_2)), (qf4, .inr (6, [.ref qf4_0, .ref qf4_1, .ref qf4_2, .ref qf4_3, .int v4_4, .int v4_5, .ref qf4_6, .int v4_7])), (qf4_2, .inl (cf4_2, 201, .inl f4_2)), (qf4_3, .inl (cf4_3, 201, .inl f4_3)), (qf0_1, .inl (cf0_1, 3001, .inl f0_1)), (qf0, .inr (9, [.ref qf0_0, .ref qf0_1, .ref qf0_2, .int v0_3, .ref qf0_4, .ref qf0_5, .ref qf0_6, .ref qf0_7, .ref qf0_8, .int v0_9, .int (v0_10 + 1), .int v0_11, .int v0_12])), (qf0_0, .inl (cf0_0, 3001, .inl f0_0)), (qf3_0, .inl (cf3_0, 1500, .inl g906_0))]) (w1 := [(h0, .inr (10, [.ref qf0, .ref qf1, .ref qf2, .ref qf3, .ref qf4, .ref qf5, .ref qf6, .ref qf7, .ref qf8, .ref qf9, .int v10, .int u7_1, .int u7_2, .int v13, .int v14, .int v15, .int v16, .int v17, .int v18])), (qf3, .inr (1, [.ref qf3_0, .int u6_1, .ref qf3_2, .int u7_3, .int u7_4, .ref qf3_5, .ref qf3_6, .int v3_7, .int v3_8, .ref qf3_9, .int v3_10, .ref qf3_11, .ref qf3_12, .ref qf3_13, .int v3_14, .int v3_15])), (qf3_2, .inl (cf3_2, 20, .inl g907_0))]) hP hD [0, 9, 5] [1, 2, 3, 4, 6, 7, 8, 10] rfl rfl (by decide) (by decide) hk1 hFc hP1 hD1
    clear hP hD
    obtain ⟨hP, hD⟩ := hPD
    replace hK := (hK.sub (tys' := [(cf0_2, .int), (cf4_2, .int), (cf4_3, .int), (cf0_1, .int), (cf0_0, .int), (cf3_0, .byte)]) [0, 1, 2, 4, 5, 6] rfl).app hK1
    clear hPc hDc hKc hFc hP1 hK1 hD1 hz1 hk1 ht hvm
    generalize H1 = H at hP hS ⊢
    replace hP : va_P (dC, dI) vwCl [(qf0_2, .inl (cf0_2, 3001, .inl f0_2)), (qf4, .inr (6, [.ref qf4_0, .ref qf4_1, .ref qf4_2, .ref qf4_3, .int v4_4, .int v4_5, .ref qf4_6, .int v4_7])), (qf4_2, .inl (cf4_2, 201, .inl f4_2)), (qf4_3, .inl (cf4_3, 201, .inl f4_3)), (qf0_1, .inl (cf0_1, 3001, .inl f0_1)), (qf0, .inr (9, [.ref qf0_0, .ref qf0_1, .ref qf0_2, .int v0_3, .ref qf0_4, .ref qf0_5, .ref qf0_6, .ref qf0_7, .ref qf0_8, .int v0_9, .int (v0_10 + 1), .int v0_11, .int v0_12])), (qf0_0, .inl (cf0_0, 3001, .inl f0_0)), (qf3_0, .inl (cf3_0, 1500, .inl g906_0)), (h0, .inr (10, [.ref qf0, .ref qf1, .ref qf2, .ref qf3, .ref qf4, .ref qf5, .ref qf6, .ref qf7, .ref qf8, .ref qf9, .int v10, .int u7_1, .int u7_2, .int v13, .int v14, .int v15, .int v16, .int v17, .int v18])), (qf3, .inr (1, [.ref qf3_0, .int u6_1, .ref qf3_2, .int u7_3, .int u7_4, .ref qf3_5, .ref qf3_6, .int v3_7, .int v3_8, .ref qf3_9, .int v3_10, .ref qf3_11, .ref qf3_12, .ref qf3_13, .int v3_14, .int v3_15])), (qf3_2, .inl (cf3_2, 20, .inl g907_0))] H := hP
    replace hD : va_D A [(qf0_2, .inl (cf0_2, 3001, .inl f0_2)), (qf4, .inr (6, [.ref qf4_0, .ref qf4_1, .ref qf4_2, .ref qf4_3, .int v4_4, .int v4_5, .ref qf4_6, .int v4_7])), (qf4_2, .inl (cf4_2, 201, .inl f4_2)), (qf4_3, .inl (cf4_3, 201, .inl f4_3)), (qf0_1, .inl (cf0_1, 3001, .inl f0_1)), (qf0, .inr (9, [.ref qf0_0, .ref qf0_1, .ref qf0_2, .int v0_3, .ref qf0_4, .ref qf0_5, .ref qf0_6, .ref qf0_7, .ref qf0_8, .int v0_9, .int (v0_10 + 1), .int v0_11, .int v0_12])), (qf0_0, .inl (cf0_0, 3001, .inl f0_0)), (qf3_0, .inl (cf3_0, 1500, .inl g906_0)), (h0, .inr (10, [.ref qf0, .ref qf1, .ref qf2, .ref qf3, .ref qf4, .ref qf5, .ref qf6, .ref qf7, .ref qf8, .ref qf9, .int v10, .int u7_1, .int u7_2, .int v13, .int v14, .int v15, .int v16, .int v17, .int v18])), (qf3, .inr (1, [.ref qf3_0, .int u6_1, .ref qf3_2, .int u7_3, .int u7_4, .ref qf3_5, .ref qf3_6, .int v3_7, .int v3_8, .ref qf3_9, .int v3_10, .ref qf3_11, .ref qf3_12, .ref qf3_13, .int v3_14, .int v3_15])), (qf3_2, .inl (cf3_2, 20, .inl g907_0))] := hD
    replace hK : va_K (dC, dI) vwCl [(cf0_2, .int), (cf4_2, .int), (cf4_3, .int), (cf0_1, .int), (cf0_0, .int), (cf3_0, .byte), (cf3_2, .int)] s := hK
    refine lv_goto (tgt := 146) hx hb dX10_readConstant_138 (by decide) ?_
    have hr0 := Option.some.inj hsp
    clear hsp
    obtain ⟨hq0, hr1⟩ := Prod.mk.inj hr0
    clear hr0
    obtain ⟨hq1, hr2⟩ := Prod.mk.inj hr1
    clear hr1
    obtain ⟨hq2, hr3⟩ := Prod.mk.inj hr2
    clear hr2
    obtain ⟨hq3, hr4⟩ := Prod.mk.inj hr3
    clear hr3
    obtain ⟨hq4, hr5⟩ := Prod.mk.inj hr4
    clear hr4
    obtain ⟨hq5, hr6⟩ := Prod.mk.inj hr5
    clear hr5
    obtain ⟨hq6, hr7⟩ := Prod.mk.inj hr6
    clear hr6
    obtain ⟨hq7, hr8⟩ := Prod.mk.inj hr7
    clear hr7
    obtain ⟨hq8, hr9⟩ := Prod.mk.inj hr8
    clear hr8
    obtain ⟨hq9, hr10⟩ := Prod.mk.inj hr9
    clear hr9
    obtain ⟨hq10, hr11⟩ := Prod.mk.inj hr10
    clear hr10
    obtain ⟨hq11, hr12⟩ := Prod.mk.inj hr11
    clear hr11
    obtain ⟨hq12, hr13⟩ := Prod.mk.inj hr12
    clear hr12
    subst hq0
    subst hq1
    subst hq2
    subst hq3
    subst hq4
    subst hq5
    subst hq6
    subst hq7
    subst hq8
    subst hq9
    subst hq10
    subst hq11
    subst hq12
    subst hr13
    have hP9 := hP.sub (ws' := [(h0, .inr (10, [.ref qf0, .ref qf1, .ref qf2, .ref qf3, .ref qf4, .ref qf5, .ref qf6, .ref qf7, .ref qf8, .ref qf9, .int v10, .int u7_1, .int u7_2, .int v13, .int v14, .int v15, .int v16, .int v17, .int v18])), (qf0, .inr (9, [.ref qf0_0, .ref qf0_1, .ref qf0_2, .int v0_3, .ref qf0_4, .ref qf0_5, .ref qf0_6, .ref qf0_7, .ref qf0_8, .int v0_9, .int (v0_10 + 1), .int v0_11, .int v0_12])), (qf0_0, .inl (cf0_0, 3001, .inl f0_0)), (qf0_2, .inl (cf0_2, 3001, .inl f0_2)), (qf4, .inr (6, [.ref qf4_0, .ref qf4_1, .ref qf4_2, .ref qf4_3, .int v4_4, .int v4_5, .ref qf4_6, .int v4_7])), (qf4_2, .inl (cf4_2, 201, .inl f4_2)), (qf4_3, .inl (cf4_3, 201, .inl f4_3)), (qf3, .inr (1, [.ref qf3_0, .int u6_1, .ref qf3_2, .int u7_3, .int u7_4, .ref qf3_5, .ref qf3_6, .int v3_7, .int v3_8, .ref qf3_9, .int v3_10, .ref qf3_11, .ref qf3_12, .ref qf3_13, .int v3_14, .int v3_15])), (qf3_0, .inl (cf3_0, 1500, .inl g906_0)), (qf3_2, .inl (cf3_2, 20, .inl g907_0)), (qf0_1, .inl (cf0_1, 3001, .inl f0_1))]) [8, 5, 6, 0, 1, 2, 3, 9, 7, 10, 4] rfl
    have hD9 := hD.sub (ws' := [(h0, .inr (10, [.ref qf0, .ref qf1, .ref qf2, .ref qf3, .ref qf4, .ref qf5, .ref qf6, .ref qf7, .ref qf8, .ref qf9, .int v10, .int u7_1, .int u7_2, .int v13, .int v14, .int v15, .int v16, .int v17, .int v18])), (qf0, .inr (9, [.ref qf0_0, .ref qf0_1, .ref qf0_2, .int v0_3, .ref qf0_4, .ref qf0_5, .ref qf0_6, .ref qf0_7, .ref qf0_8, .int v0_9, .int (v0_10 + 1), .int v0_11, .int v0_12])), (qf0_0, .inl (cf0_0, 3001, .inl f0_0)), (qf0_2, .inl (cf0_2, 3001, .inl f0_2)), (qf4, .inr (6, [.ref qf4_0, .ref qf4_1, .ref qf4_2, .ref qf4_3, .int v4_4, .int v4_5, .ref qf4_6, .int v4_7])), (qf4_2, .inl (cf4_2, 201, .inl f4_2)), (qf4_3, .inl (cf4_3, 201, .inl f4_3)), (qf3, .inr (1, [.ref qf3_0, .int u6_1, .ref qf3_2, .int u7_3, .int u7_4, .ref qf3_5, .ref qf3_6, .int v3_7, .int v3_8, .ref qf3_9, .int v3_10, .ref qf3_11, .ref qf3_12, .ref qf3_13, .int v3_14, .int v3_15])), (qf3_0, .inl (cf3_0, 1500, .inl g906_0)), (qf3_2, .inl (cf3_2, 20, .inl g907_0)), (qf0_1, .inl (cf0_1, 3001, .inl f0_1))]) [8, 5, 6, 0, 1, 2, 3, 9, 7, 10, 4] (by decide) rfl
    have hK9 := hK.sub (tys' := [(cf0_0, .int), (cf0_2, .int), (cf4_2, .int), (cf4_3, .int), (cf3_0, .byte), (cf3_2, .int), (cf0_1, .int)]) [4, 0, 1, 2, 5, 6, 3] rfl
    exact W.vret hx hb hr (fun t ht hW => ⟨⟨(), rfl, trivial, by rw [ht]; exact hP9, va_K.moved hW.alike hK9, hD9⟩, hS.F ht⟩) hS.2.2 dX10_readConstant_146
  rw [if_neg hs_5] at hsp
  by_cases hs_6 : u1_0 = 28
  · rw [if_pos hs_6] at hsp
    refine lv_lookup (tgt := 87) hx hb dX10_readConstant_29 (by decide) (off := 58) (by rw [hs_6]; rfl) (by decide) ?_
    refine lv_aload_n hx hb dX10_readConstant_87 rfl (lv_at hl 1 rfl) ?_
    refine va_get (D := (dC, dI)) (ci := 10) (v := .ref qf3) (C := RX10) (T := TX10) (N := 19) hx hb hts uV_h4_X10 hown hK hP 0 rfl rfl 3 (by decide) (hts (.fieldLink RX10 46 "ClassMill$Values" "code" "LClassMill$Code;") mw_h4_318) (fun _ h9 => h9) rfl dX10_readConstant_88 ?_
    refine lv_iconst (v := 4) hx hb dX10_readConstant_91 (by decide) ?_
    obtain ⟨⟨g908_0, u8_1⟩, hu_8, hsp⟩ := ox_bind hsp
    try dsimp only at hsp
    have hPc := hP.sub (ws' := [(qf3, .inr (1, [.ref qf3_0, .int v3_1, .ref qf3_2, .int v3_3, .int v3_4, .ref qf3_5, .ref qf3_6, .int v3_7, .int v3_8, .ref qf3_9, .int v3_10, .ref qf3_11, .ref qf3_12, .ref qf3_13, .int v3_14, .int v3_15])), (qf3_0, .inl (cf3_0, 1500, .inl f3_0))]) [5, 6] rfl
    have hDc := hD.sub (ws' := [(qf3, .inr (1, [.ref qf3_0, .int v3_1, .ref qf3_2, .int v3_3, .int v3_4, .ref qf3_5, .ref qf3_6, .int v3_7, .int v3_8, .ref qf3_9, .int v3_10, .ref qf3_11, .ref qf3_12, .ref qf3_13, .int v3_14, .int v3_15])), (qf3_0, .inl (cf3_0, 1500, .inl f3_0))]) [5, 6] (by decide) rfl
    have hKc := hK.sub (tys' := [(cf3_0, .byte)]) [3] rfl
    have hFc := va_free (wc := [(qf3, .inr (1, [.ref qf3_0, .int v3_1, .ref qf3_2, .int v3_3, .int v3_4, .ref qf3_5, .ref qf3_6, .int v3_7, .int v3_8, .ref qf3_9, .int v3_10, .ref qf3_11, .ref qf3_12, .ref qf3_13, .int v3_14, .int v3_15])), (qf3_0, .inl (cf3_0, 1500, .inl f3_0))]) hD hS hA [5, 6] rfl
    refine va_callv (va_runV (As := [.int 4]) (rest := []) ⟨hx, hb, hml, hown, hts⟩ (t1_op l dC dI H.size qf3 4 qf3_0 v3_1 qf3_2 v3_3 v3_4 qf3_5 qf3_6 v3_7 v3_8 qf3_9 v3_10 qf3_11 qf3_12 qf3_13 v3_14 v3_15 cf3_0 f3_0 nf g908_0 u8_1 hu_8) (cwV 1 hts gv_h4_72 rfl rfl rfl (by decide +kernel) ⟨Nat.le_of_ble_eq_true rfl, Nat.le_of_ble_eq_true rfl⟩) ⟨fun a U g mk q => by obtain ⟨q0, q1, qP, qK, qD⟩ := q; exact ⟨q0, q1, qP, va_K.moved (u := U) (U := U.calling g mk a) (Vm.Alike.refl U.vm) qK, qD⟩, va_recv hKc hPc (ci := 1) (q0 := 0) rfl rfl, fun U hU hW => ⟨rfl, by rw [hU], by rw [hU]; exact hPc, va_K.moved hW.alike hKc, hDc.weaken (fun _ _ _ _ => trivial)⟩⟩ rfl rfl hl.1 rfl (lv_room (Nat.le_of_ble_eq_true rfl)) dX10_readConstant_92 ⟨Nat.le_of_ble_eq_true rfl, Nat.le_of_ble_eq_true rfl⟩) hS (fun q _ h => hFc q h) hFc ?_
    clear hS
    intro u t H1 locs ht hvm hw hB hz1 hk1 hS
    obtain ⟨⟩ := u
    obtain ⟨hP1, hK1, hD1⟩ := hB
    rw [ht] at hP1
    have hK1 := va_K.moved hvm.symm hK1
    try dsimp only at hw
    have hPD := va_join (wr := [(h0, .inr (10, [.ref qf0, .ref qf1, .ref qf2, .ref qf3, .ref qf4, .ref qf5, .ref qf6, .ref qf7, .ref qf8, .ref qf9, .int v10, .int v11, .int v12, .int v13, .int v14, .int v15, .int v16, .int v17, .int v18])), (qf0_2, .inl (cf0_2, 3001, .inl f0_2)), (qf4, .inr (6, [.ref qf4_0, .ref qf4_1, .ref qf4_2, .ref qf4_3, .int v4_4, .int v4_5, .ref qf4_6, .int v4_7])), (qf4_2, .inl (cf4_2, 201, .inl f4_2)), (qf4_3, .inl (cf4_3, 201, .inl f4_3)), (qf3_2, .inl (cf3_2, 20, .inl f3_2)), (qf0_1, .inl (cf0_1, 3001, .inl f0_1)), (qf0, .inr (9, [.ref qf0_0, .ref qf0_1, .ref qf0_2, .int v0_3, .ref qf0_4, .ref qf0_5, .ref qf0_6, .ref qf0_7, .ref qf0_8, .int v0_9, .int (v0_10 + 1), .int v0_11, .int v0_12])), (qf0_0, .inl (cf0_0, 3001, .inl f0_0))]) (w1 := [(qf3, .inr (1, [.ref qf3_0, .int u8_1, .ref qf3_2, .int v3_3, .int v3_4, .ref qf3_5, .ref qf3_6, .int v3_7, .int v3_8, .ref qf3_9, .int v3_10, .ref qf3_11, .ref qf3_12, .ref qf3_13, .int v3_14, .int v3_15])), (qf3_0, .inl (cf3_0, 1500, .inl g908_0))]) hP hD [5, 6] [0, 1, 2, 3, 4, 7, 8, 9, 10] rfl rfl (by decide) (by decide) hk1 hFc hP1 hD1
    clear hP hD
    obtain ⟨hP, hD⟩ := hPD
    replace hK := (hK.sub (tys' := [(cf0_2, .int), (cf4_2, .int), (cf4_3, .int), (cf3_2, .int), (cf0_1, .int), (cf0_0, .int)]) [0, 1, 2, 4, 5, 6] rfl).app hK1
    clear hPc hDc hKc hFc hP1 hK1 hD1 hz1 hk1 ht hvm
    generalize H1 = H at hP hS ⊢
    replace hP : va_P (dC, dI) vwCl [(h0, .inr (10, [.ref qf0, .ref qf1, .ref qf2, .ref qf3, .ref qf4, .ref qf5, .ref qf6, .ref qf7, .ref qf8, .ref qf9, .int v10, .int v11, .int v12, .int v13, .int v14, .int v15, .int v16, .int v17, .int v18])), (qf0_2, .inl (cf0_2, 3001, .inl f0_2)), (qf4, .inr (6, [.ref qf4_0, .ref qf4_1, .ref qf4_2, .ref qf4_3, .int v4_4, .int v4_5, .ref qf4_6, .int v4_7])), (qf4_2, .inl (cf4_2, 201, .inl f4_2)), (qf4_3, .inl (cf4_3, 201, .inl f4_3)), (qf3_2, .inl (cf3_2, 20, .inl f3_2)), (qf0_1, .inl (cf0_1, 3001, .inl f0_1)), (qf0, .inr (9, [.ref qf0_0, .ref qf0_1, .ref qf0_2, .int v0_3, .ref qf0_4, .ref qf0_5, .ref qf0_6, .ref qf0_7, .ref qf0_8, .int v0_9, .int (v0_10 + 1), .int v0_11, .int v0_12])), (qf0_0, .inl (cf0_0, 3001, .inl f0_0)), (qf3, .inr (1, [.ref qf3_0, .int u8_1, .ref qf3_2, .int v3_3, .int v3_4, .ref qf3_5, .ref qf3_6, .int v3_7, .int v3_8, .ref qf3_9, .int v3_10, .ref qf3_11, .ref qf3_12, .ref qf3_13, .int v3_14, .int v3_15])), (qf3_0, .inl (cf3_0, 1500, .inl g908_0))] H := hP
    replace hD : va_D A [(h0, .inr (10, [.ref qf0, .ref qf1, .ref qf2, .ref qf3, .ref qf4, .ref qf5, .ref qf6, .ref qf7, .ref qf8, .ref qf9, .int v10, .int v11, .int v12, .int v13, .int v14, .int v15, .int v16, .int v17, .int v18])), (qf0_2, .inl (cf0_2, 3001, .inl f0_2)), (qf4, .inr (6, [.ref qf4_0, .ref qf4_1, .ref qf4_2, .ref qf4_3, .int v4_4, .int v4_5, .ref qf4_6, .int v4_7])), (qf4_2, .inl (cf4_2, 201, .inl f4_2)), (qf4_3, .inl (cf4_3, 201, .inl f4_3)), (qf3_2, .inl (cf3_2, 20, .inl f3_2)), (qf0_1, .inl (cf0_1, 3001, .inl f0_1)), (qf0, .inr (9, [.ref qf0_0, .ref qf0_1, .ref qf0_2, .int v0_3, .ref qf0_4, .ref qf0_5, .ref qf0_6, .ref qf0_7, .ref qf0_8, .int v0_9, .int (v0_10 + 1), .int v0_11, .int v0_12])), (qf0_0, .inl (cf0_0, 3001, .inl f0_0)), (qf3, .inr (1, [.ref qf3_0, .int u8_1, .ref qf3_2, .int v3_3, .int v3_4, .ref qf3_5, .ref qf3_6, .int v3_7, .int v3_8, .ref qf3_9, .int v3_10, .ref qf3_11, .ref qf3_12, .ref qf3_13, .int v3_14, .int v3_15])), (qf3_0, .inl (cf3_0, 1500, .inl g908_0))] := hD
    replace hK : va_K (dC, dI) vwCl [(cf0_2, .int), (cf4_2, .int), (cf4_3, .int), (cf3_2, .int), (cf0_1, .int), (cf0_0, .int), (cf3_0, .byte)] s := hK
    refine lv_aload_n hx hb dX10_readConstant_95 rfl (lv_at hl 1 rfl) ?_
    refine lv_sipush (v := 302) hx hb dX10_readConstant_96 (by decide) ?_
    obtain ⟨⟨g909_0, u9_1, u9_2, u9_3, u9_4⟩, hu_9, hsp⟩ := ox_bind hsp
    try dsimp only at hsp
    have hPc := hP.sub (ws' := [(h0, .inr (10, [.ref qf0, .ref qf1, .ref qf2, .ref qf3, .ref qf4, .ref qf5, .ref qf6, .ref qf7, .ref qf8, .ref qf9, .int v10, .int v11, .int v12, .int v13, .int v14, .int v15, .int v16, .int v17, .int v18])), (qf3, .inr (1, [.ref qf3_0, .int u8_1, .ref qf3_2, .int v3_3, .int v3_4, .ref qf3_5, .ref qf3_6, .int v3_7, .int v3_8, .ref qf3_9, .int v3_10, .ref qf3_11, .ref qf3_12, .ref qf3_13, .int v3_14, .int v3_15])), (qf3_2, .inl (cf3_2, 20, .inl f3_2))]) [0, 9, 5] rfl
    have hDc := hD.sub (ws' := [(h0, .inr (10, [.ref qf0, .ref qf1, .ref qf2, .ref qf3, .ref qf4, .ref qf5, .ref qf6, .ref qf7, .ref qf8, .ref qf9, .int v10, .int v11, .int v12, .int v13, .int v14, .int v15, .int v16, .int v17, .int v18])), (qf3, .inr (1, [.ref qf3_0, .int u8_1, .ref qf3_2, .int v3_3, .int v3_4, .ref qf3_5, .ref qf3_6, .int v3_7, .int v3_8, .ref qf3_9, .int v3_10, .ref qf3_11, .ref qf3_12, .ref qf3_13, .int v3_14, .int v3_15])), (qf3_2, .inl (cf3_2, 20, .inl f3_2))]) [0, 9, 5] (by decide) rfl
    have hKc := hK.sub (tys' := [(cf3_2, .int)]) [3] rfl
    have hFc := va_free (wc := [(h0, .inr (10, [.ref qf0, .ref qf1, .ref qf2, .ref qf3, .ref qf4, .ref qf5, .ref qf6, .ref qf7, .ref qf8, .ref qf9, .int v10, .int v11, .int v12, .int v13, .int v14, .int v15, .int v16, .int v17, .int v18])), (qf3, .inr (1, [.ref qf3_0, .int u8_1, .ref qf3_2, .int v3_3, .int v3_4, .ref qf3_5, .ref qf3_6, .int v3_7, .int v3_8, .ref qf3_9, .int v3_10, .ref qf3_11, .ref qf3_12, .ref qf3_13, .int v3_14, .int v3_15])), (qf3_2, .inl (cf3_2, 20, .inl f3_2))]) hD hS hA [0, 9, 5] rfl
    refine va_callv (va_runV (As := [.int 302]) (rest := []) ⟨hx, hb, hml, hown, hts⟩ (t10_give l dC dI H.size h0 302 qf0 qf1 qf2 qf3 qf4 qf5 qf6 qf7 qf8 qf9 v10 v11 v12 v13 v14 v15 v16 v17 v18 qf3_0 u8_1 qf3_2 v3_3 v3_4 qf3_5 qf3_6 v3_7 v3_8 qf3_9 v3_10 qf3_11 qf3_12 qf3_13 v3_14 v3_15 cf3_2 f3_2 nf g909_0 u9_1 u9_2 u9_3 u9_4 hu_9) (cwV 1 hts gv_h4_79 rfl rfl rfl (by decide +kernel) ⟨Nat.le_of_ble_eq_true rfl, Nat.le_of_ble_eq_true rfl⟩) ⟨fun a U g mk q => by obtain ⟨q0, q1, qP, qK, qD⟩ := q; exact ⟨q0, q1, qP, va_K.moved (u := U) (U := U.calling g mk a) (Vm.Alike.refl U.vm) qK, qD⟩, va_recv hKc hPc (ci := 10) (q0 := 0) rfl rfl, fun U hU hW => ⟨rfl, by rw [hU], by rw [hU]; exact hPc, va_K.moved hW.alike hKc, hDc.weaken (fun _ _ _ _ => trivial)⟩⟩ rfl rfl hl.1 rfl (lv_room (Nat.le_of_ble_eq_true rfl)) dX10_readConstant_99 ⟨Nat.le_of_ble_eq_true rfl, Nat.le_of_ble_eq_true rfl⟩) hS (fun q _ h => hFc q h) hFc ?_
    clear hS
    intro u t H1 locs ht hvm hw hB hz1 hk1 hS
    obtain ⟨⟩ := u
    obtain ⟨hP1, hK1, hD1⟩ := hB
    rw [ht] at hP1
    have hK1 := va_K.moved hvm.symm hK1
    try dsimp only at hw
    have hPD := va_join (wr := [(qf0_2, .inl (cf0_2, 3001, .inl f0_2)), (qf4, .inr (6, [.ref qf4_0, .ref qf4_1, .ref qf4_2, .ref qf4_3, .int v4_4, .int v4_5, .ref qf4_6, .int v4_7])), (qf4_2, .inl (cf4_2, 201, .inl f4_2)), (qf4_3, .inl (cf4_3, 201, .inl f4_3)), (qf0_1, .inl (cf0_1, 3001, .inl f0_1)), (qf0, .inr (9, [.ref qf0_0, .ref qf0_1, .ref qf0_2, .int v0_3, .ref qf0_4, .ref qf0_5, .ref qf0_6, .ref qf0_7, .ref qf0_8, .int v0_9, .int (v0_10 + 1), .int v0_11, .int v0_12])), (qf0_0, .inl (cf0_0, 3001, .inl f0_0)), (qf3_0, .inl (cf3_0, 1500, .inl g908_0))]) (w1 := [(h0, .inr (10, [.ref qf0, .ref qf1, .ref qf2, .ref qf3, .ref qf4, .ref qf5, .ref qf6, .ref qf7, .ref qf8, .ref qf9, .int v10, .int u9_1, .int u9_2, .int v13, .int v14, .int v15, .int v16, .int v17, .int v18])), (qf3, .inr (1, [.ref qf3_0, .int u8_1, .ref qf3_2, .int u9_3, .int u9_4, .ref qf3_5, .ref qf3_6, .int v3_7, .int v3_8, .ref qf3_9, .int v3_10, .ref qf3_11, .ref qf3_12, .ref qf3_13, .int v3_14, .int v3_15])), (qf3_2, .inl (cf3_2, 20, .inl g909_0))]) hP hD [0, 9, 5] [1, 2, 3, 4, 6, 7, 8, 10] rfl rfl (by decide) (by decide) hk1 hFc hP1 hD1
    clear hP hD
    obtain ⟨hP, hD⟩ := hPD
    replace hK := (hK.sub (tys' := [(cf0_2, .int), (cf4_2, .int), (cf4_3, .int), (cf0_1, .int), (cf0_0, .int), (cf3_0, .byte)]) [0, 1, 2, 4, 5, 6] rfl).app hK1
    clear hPc hDc hKc hFc hP1 hK1 hD1 hz1 hk1 ht hvm
    generalize H1 = H at hP hS ⊢
    replace hP : va_P (dC, dI) vwCl [(qf0_2, .inl (cf0_2, 3001, .inl f0_2)), (qf4, .inr (6, [.ref qf4_0, .ref qf4_1, .ref qf4_2, .ref qf4_3, .int v4_4, .int v4_5, .ref qf4_6, .int v4_7])), (qf4_2, .inl (cf4_2, 201, .inl f4_2)), (qf4_3, .inl (cf4_3, 201, .inl f4_3)), (qf0_1, .inl (cf0_1, 3001, .inl f0_1)), (qf0, .inr (9, [.ref qf0_0, .ref qf0_1, .ref qf0_2, .int v0_3, .ref qf0_4, .ref qf0_5, .ref qf0_6, .ref qf0_7, .ref qf0_8, .int v0_9, .int (v0_10 + 1), .int v0_11, .int v0_12])), (qf0_0, .inl (cf0_0, 3001, .inl f0_0)), (qf3_0, .inl (cf3_0, 1500, .inl g908_0)), (h0, .inr (10, [.ref qf0, .ref qf1, .ref qf2, .ref qf3, .ref qf4, .ref qf5, .ref qf6, .ref qf7, .ref qf8, .ref qf9, .int v10, .int u9_1, .int u9_2, .int v13, .int v14, .int v15, .int v16, .int v17, .int v18])), (qf3, .inr (1, [.ref qf3_0, .int u8_1, .ref qf3_2, .int u9_3, .int u9_4, .ref qf3_5, .ref qf3_6, .int v3_7, .int v3_8, .ref qf3_9, .int v3_10, .ref qf3_11, .ref qf3_12, .ref qf3_13, .int v3_14, .int v3_15])), (qf3_2, .inl (cf3_2, 20, .inl g909_0))] H := hP
    replace hD : va_D A [(qf0_2, .inl (cf0_2, 3001, .inl f0_2)), (qf4, .inr (6, [.ref qf4_0, .ref qf4_1, .ref qf4_2, .ref qf4_3, .int v4_4, .int v4_5, .ref qf4_6, .int v4_7])), (qf4_2, .inl (cf4_2, 201, .inl f4_2)), (qf4_3, .inl (cf4_3, 201, .inl f4_3)), (qf0_1, .inl (cf0_1, 3001, .inl f0_1)), (qf0, .inr (9, [.ref qf0_0, .ref qf0_1, .ref qf0_2, .int v0_3, .ref qf0_4, .ref qf0_5, .ref qf0_6, .ref qf0_7, .ref qf0_8, .int v0_9, .int (v0_10 + 1), .int v0_11, .int v0_12])), (qf0_0, .inl (cf0_0, 3001, .inl f0_0)), (qf3_0, .inl (cf3_0, 1500, .inl g908_0)), (h0, .inr (10, [.ref qf0, .ref qf1, .ref qf2, .ref qf3, .ref qf4, .ref qf5, .ref qf6, .ref qf7, .ref qf8, .ref qf9, .int v10, .int u9_1, .int u9_2, .int v13, .int v14, .int v15, .int v16, .int v17, .int v18])), (qf3, .inr (1, [.ref qf3_0, .int u8_1, .ref qf3_2, .int u9_3, .int u9_4, .ref qf3_5, .ref qf3_6, .int v3_7, .int v3_8, .ref qf3_9, .int v3_10, .ref qf3_11, .ref qf3_12, .ref qf3_13, .int v3_14, .int v3_15])), (qf3_2, .inl (cf3_2, 20, .inl g909_0))] := hD
    replace hK : va_K (dC, dI) vwCl [(cf0_2, .int), (cf4_2, .int), (cf4_3, .int), (cf0_1, .int), (cf0_0, .int), (cf3_0, .byte), (cf3_2, .int)] s := hK
    refine lv_goto (tgt := 146) hx hb dX10_readConstant_102 (by decide) ?_
    have hr0 := Option.some.inj hsp
    clear hsp
    obtain ⟨hq0, hr1⟩ := Prod.mk.inj hr0
    clear hr0
    obtain ⟨hq1, hr2⟩ := Prod.mk.inj hr1
    clear hr1
    obtain ⟨hq2, hr3⟩ := Prod.mk.inj hr2
    clear hr2
    obtain ⟨hq3, hr4⟩ := Prod.mk.inj hr3
    clear hr3
    obtain ⟨hq4, hr5⟩ := Prod.mk.inj hr4
    clear hr4
    obtain ⟨hq5, hr6⟩ := Prod.mk.inj hr5
    clear hr5
    obtain ⟨hq6, hr7⟩ := Prod.mk.inj hr6
    clear hr6
    obtain ⟨hq7, hr8⟩ := Prod.mk.inj hr7
    clear hr7
    obtain ⟨hq8, hr9⟩ := Prod.mk.inj hr8
    clear hr8
    obtain ⟨hq9, hr10⟩ := Prod.mk.inj hr9
    clear hr9
    obtain ⟨hq10, hr11⟩ := Prod.mk.inj hr10
    clear hr10
    obtain ⟨hq11, hr12⟩ := Prod.mk.inj hr11
    clear hr11
    obtain ⟨hq12, hr13⟩ := Prod.mk.inj hr12
    clear hr12
    subst hq0
    subst hq1
    subst hq2
    subst hq3
    subst hq4
    subst hq5
    subst hq6
    subst hq7
    subst hq8
    subst hq9
    subst hq10
    subst hq11
    subst hq12
    subst hr13
    have hP9 := hP.sub (ws' := [(h0, .inr (10, [.ref qf0, .ref qf1, .ref qf2, .ref qf3, .ref qf4, .ref qf5, .ref qf6, .ref qf7, .ref qf8, .ref qf9, .int v10, .int u9_1, .int u9_2, .int v13, .int v14, .int v15, .int v16, .int v17, .int v18])), (qf0, .inr (9, [.ref qf0_0, .ref qf0_1, .ref qf0_2, .int v0_3, .ref qf0_4, .ref qf0_5, .ref qf0_6, .ref qf0_7, .ref qf0_8, .int v0_9, .int (v0_10 + 1), .int v0_11, .int v0_12])), (qf0_0, .inl (cf0_0, 3001, .inl f0_0)), (qf0_2, .inl (cf0_2, 3001, .inl f0_2)), (qf4, .inr (6, [.ref qf4_0, .ref qf4_1, .ref qf4_2, .ref qf4_3, .int v4_4, .int v4_5, .ref qf4_6, .int v4_7])), (qf4_2, .inl (cf4_2, 201, .inl f4_2)), (qf4_3, .inl (cf4_3, 201, .inl f4_3)), (qf3, .inr (1, [.ref qf3_0, .int u8_1, .ref qf3_2, .int u9_3, .int u9_4, .ref qf3_5, .ref qf3_6, .int v3_7, .int v3_8, .ref qf3_9, .int v3_10, .ref qf3_11, .ref qf3_12, .ref qf3_13, .int v3_14, .int v3_15])), (qf3_0, .inl (cf3_0, 1500, .inl g908_0)), (qf3_2, .inl (cf3_2, 20, .inl g909_0)), (qf0_1, .inl (cf0_1, 3001, .inl f0_1))]) [8, 5, 6, 0, 1, 2, 3, 9, 7, 10, 4] rfl
    have hD9 := hD.sub (ws' := [(h0, .inr (10, [.ref qf0, .ref qf1, .ref qf2, .ref qf3, .ref qf4, .ref qf5, .ref qf6, .ref qf7, .ref qf8, .ref qf9, .int v10, .int u9_1, .int u9_2, .int v13, .int v14, .int v15, .int v16, .int v17, .int v18])), (qf0, .inr (9, [.ref qf0_0, .ref qf0_1, .ref qf0_2, .int v0_3, .ref qf0_4, .ref qf0_5, .ref qf0_6, .ref qf0_7, .ref qf0_8, .int v0_9, .int (v0_10 + 1), .int v0_11, .int v0_12])), (qf0_0, .inl (cf0_0, 3001, .inl f0_0)), (qf0_2, .inl (cf0_2, 3001, .inl f0_2)), (qf4, .inr (6, [.ref qf4_0, .ref qf4_1, .ref qf4_2, .ref qf4_3, .int v4_4, .int v4_5, .ref qf4_6, .int v4_7])), (qf4_2, .inl (cf4_2, 201, .inl f4_2)), (qf4_3, .inl (cf4_3, 201, .inl f4_3)), (qf3, .inr (1, [.ref qf3_0, .int u8_1, .ref qf3_2, .int u9_3, .int u9_4, .ref qf3_5, .ref qf3_6, .int v3_7, .int v3_8, .ref qf3_9, .int v3_10, .ref qf3_11, .ref qf3_12, .ref qf3_13, .int v3_14, .int v3_15])), (qf3_0, .inl (cf3_0, 1500, .inl g908_0)), (qf3_2, .inl (cf3_2, 20, .inl g909_0)), (qf0_1, .inl (cf0_1, 3001, .inl f0_1))]) [8, 5, 6, 0, 1, 2, 3, 9, 7, 10, 4] (by decide) rfl
    have hK9 := hK.sub (tys' := [(cf0_0, .int), (cf0_2, .int), (cf4_2, .int), (cf4_3, .int), (cf3_0, .byte), (cf3_2, .int), (cf0_1, .int)]) [4, 0, 1, 2, 5, 6, 3] rfl
    exact W.vret hx hb hr (fun t ht hW => ⟨⟨(), rfl, trivial, by rw [ht]; exact hP9, va_K.moved hW.alike hK9, hD9⟩, hS.F ht⟩) hS.2.2 dX10_readConstant_146
  rw [if_neg hs_6] at hsp
  refine lv_lookup (tgt := 141) hx hb dX10_readConstant_29 (by decide) (off := 112) (by show Op.lookupswitch.offset [(3, 43), (17, 76), (22, 94), (28, 58)] 112 (u1_0 : Int32).toInt = 112; rw [lv_osw hs_2 (a := 3) rfl, lv_osw hs_4 (a := 17) rfl, lv_osw hs_5 (a := 22) rfl, lv_osw hs_6 (a := 28) rfl]; rfl) (by decide) ?_
  refine lv_aload_n hx hb dX10_readConstant_141 rfl (lv_at hl 1 rfl) ?_
  refine lv_iload_n hx hb dX10_readConstant_142 rfl (lv_at hl 0 rfl) ?_
  obtain ⟨⟨g910_0, g910_1, u10_2, u10_3, u10_4, u10_5, u10_6, u10_7, u10_8⟩, hu_10, hsp⟩ := ox_bind hsp
  try dsimp only at hsp
  have hPc := hP.sub (ws' := [(h0, .inr (10, [.ref qf0, .ref qf1, .ref qf2, .ref qf3, .ref qf4, .ref qf5, .ref qf6, .ref qf7, .ref qf8, .ref qf9, .int v10, .int v11, .int v12, .int v13, .int v14, .int v15, .int v16, .int v17, .int v18])), (qf3, .inr (1, [.ref qf3_0, .int v3_1, .ref qf3_2, .int v3_3, .int v3_4, .ref qf3_5, .ref qf3_6, .int v3_7, .int v3_8, .ref qf3_9, .int v3_10, .ref qf3_11, .ref qf3_12, .ref qf3_13, .int v3_14, .int v3_15])), (qf3_0, .inl (cf3_0, 1500, .inl f3_0)), (qf3_2, .inl (cf3_2, 20, .inl f3_2)), (qf0, .inr (9, [.ref qf0_0, .ref qf0_1, .ref qf0_2, .int v0_3, .ref qf0_4, .ref qf0_5, .ref qf0_6, .ref qf0_7, .ref qf0_8, .int v0_9, .int (v0_10 + 1), .int v0_11, .int v0_12])), (qf0_1, .inl (cf0_1, 3001, .inl f0_1))]) [0, 5, 6, 7, 9, 8] rfl
  have hDc := hD.sub (ws' := [(h0, .inr (10, [.ref qf0, .ref qf1, .ref qf2, .ref qf3, .ref qf4, .ref qf5, .ref qf6, .ref qf7, .ref qf8, .ref qf9, .int v10, .int v11, .int v12, .int v13, .int v14, .int v15, .int v16, .int v17, .int v18])), (qf3, .inr (1, [.ref qf3_0, .int v3_1, .ref qf3_2, .int v3_3, .int v3_4, .ref qf3_5, .ref qf3_6, .int v3_7, .int v3_8, .ref qf3_9, .int v3_10, .ref qf3_11, .ref qf3_12, .ref qf3_13, .int v3_14, .int v3_15])), (qf3_0, .inl (cf3_0, 1500, .inl f3_0)), (qf3_2, .inl (cf3_2, 20, .inl f3_2)), (qf0, .inr (9, [.ref qf0_0, .ref qf0_1, .ref qf0_2, .int v0_3, .ref qf0_4, .ref qf0_5, .ref qf0_6, .ref qf0_7, .ref qf0_8, .int v0_9, .int (v0_10 + 1), .int v0_11, .int v0_12])), (qf0_1, .inl (cf0_1, 3001, .inl f0_1))]) [0, 5, 6, 7, 9, 8] (by decide) rfl
  have hKc := hK.sub (tys' := [(cf3_0, .byte), (cf3_2, .int), (cf0_1, .int)]) [3, 4, 5] rfl
  have hFc := va_free (wc := [(h0, .inr (10, [.ref qf0, .ref qf1, .ref qf2, .ref qf3, .ref qf4, .ref qf5, .ref qf6, .ref qf7, .ref qf8, .ref qf9, .int v10, .int v11, .int v12, .int v13, .int v14, .int v15, .int v16, .int v17, .int v18])), (qf3, .inr (1, [.ref qf3_0, .int v3_1, .ref qf3_2, .int v3_3, .int v3_4, .ref qf3_5, .ref qf3_6, .int v3_7, .int v3_8, .ref qf3_9, .int v3_10, .ref qf3_11, .ref qf3_12, .ref qf3_13, .int v3_14, .int v3_15])), (qf3_0, .inl (cf3_0, 1500, .inl f3_0)), (qf3_2, .inl (cf3_2, 20, .inl f3_2)), (qf0, .inr (9, [.ref qf0_0, .ref qf0_1, .ref qf0_2, .int v0_3, .ref qf0_4, .ref qf0_5, .ref qf0_6, .ref qf0_7, .ref qf0_8, .int v0_9, .int (v0_10 + 1), .int v0_11, .int v0_12])), (qf0_1, .inl (cf0_1, 3001, .inl f0_1))]) hD hS hA [0, 5, 6, 7, 9, 8] rfl
  refine va_callv (va_runV (As := [.int v0_10]) (rest := []) ⟨hx, hb, hml, hown, hts⟩ (t10_giveThis l dC dI H.size h0 v0_10 qf0 qf1 qf2 qf3 qf4 qf5 qf6 qf7 qf8 qf9 v10 v11 v12 v13 v14 v15 v16 v17 v18 qf3_0 v3_1 qf3_2 v3_3 v3_4 qf3_5 qf3_6 v3_7 v3_8 qf3_9 v3_10 qf3_11 qf3_12 qf3_13 v3_14 v3_15 cf3_0 f3_0 cf3_2 f3_2 qf0_0 qf0_1 qf0_2 v0_3 qf0_4 qf0_5 qf0_6 qf0_7 qf0_8 v0_9 ((v0_10 + 1)) v0_11 v0_12 cf0_1 f0_1 nf g910_0 g910_1 u10_2 u10_3 u10_4 u10_5 u10_6 u10_7 u10_8 hu_10) (cwV 1 hts gv_h4_92 rfl rfl rfl (by decide +kernel) ⟨Nat.le_of_ble_eq_true rfl, Nat.le_of_ble_eq_true rfl⟩) ⟨fun a U g mk q => by obtain ⟨q0, q1, qP, qK, qD⟩ := q; exact ⟨q0, q1, qP, va_K.moved (u := U) (U := U.calling g mk a) (Vm.Alike.refl U.vm) qK, qD⟩, va_recv hKc hPc (ci := 10) (q0 := 0) rfl rfl, fun U hU hW => ⟨rfl, by rw [hU], by rw [hU]; exact hPc, va_K.moved hW.alike hKc, hDc.weaken (fun _ _ _ _ => trivial)⟩⟩ rfl rfl hl.1 rfl (lv_room (Nat.le_of_ble_eq_true rfl)) dX10_readConstant_143 ⟨Nat.le_of_ble_eq_true rfl, Nat.le_of_ble_eq_true rfl⟩) hS (fun q _ h => hFc q h) hFc ?_
  clear hS
  intro u t H1 locs ht hvm hw hB hz1 hk1 hS
  obtain ⟨⟩ := u
  obtain ⟨hP1, hK1, hD1⟩ := hB
  rw [ht] at hP1
  have hK1 := va_K.moved hvm.symm hK1
  try dsimp only at hw
  have hPD := va_join (wr := [(qf0_2, .inl (cf0_2, 3001, .inl f0_2)), (qf4, .inr (6, [.ref qf4_0, .ref qf4_1, .ref qf4_2, .ref qf4_3, .int v4_4, .int v4_5, .ref qf4_6, .int v4_7])), (qf4_2, .inl (cf4_2, 201, .inl f4_2)), (qf4_3, .inl (cf4_3, 201, .inl f4_3)), (qf0_0, .inl (cf0_0, 3001, .inl f0_0))]) (w1 := [(h0, .inr (10, [.ref qf0, .ref qf1, .ref qf2, .ref qf3, .ref qf4, .ref qf5, .ref qf6, .ref qf7, .ref qf8, .ref qf9, .int v10, .int u10_4, .int u10_5, .int v13, .int v14, .int v15, .int v16, .int v17, .int v18])), (qf3, .inr (1, [.ref qf3_0, .int u10_6, .ref qf3_2, .int u10_7, .int u10_8, .ref qf3_5, .ref qf3_6, .int v3_7, .int v3_8, .ref qf3_9, .int v3_10, .ref qf3_11, .ref qf3_12, .ref qf3_13, .int v3_14, .int v3_15])), (qf3_0, .inl (cf3_0, 1500, .inl g910_0)), (qf3_2, .inl (cf3_2, 20, .inl g910_1)), (qf0, .inr (9, [.ref qf0_0, .ref qf0_1, .ref qf0_2, .int v0_3, .ref qf0_4, .ref qf0_5, .ref qf0_6, .ref qf0_7, .ref qf0_8, .int v0_9, .int (v0_10 + 1), .int u10_2, .int u10_3])), (qf0_1, .inl (cf0_1, 3001, .inl f0_1))]) hP hD [0, 5, 6, 7, 9, 8] [1, 2, 3, 4, 10] rfl rfl (by decide) (by decide) hk1 hFc hP1 hD1
  clear hP hD
  obtain ⟨hP, hD⟩ := hPD
  replace hK := (hK.sub (tys' := [(cf0_2, .int), (cf4_2, .int), (cf4_3, .int), (cf0_0, .int)]) [0, 1, 2, 6] rfl).app hK1
  clear hPc hDc hKc hFc hP1 hK1 hD1 hz1 hk1 ht hvm
  generalize H1 = H at hP hS ⊢
  replace hP : va_P (dC, dI) vwCl [(qf0_2, .inl (cf0_2, 3001, .inl f0_2)), (qf4, .inr (6, [.ref qf4_0, .ref qf4_1, .ref qf4_2, .ref qf4_3, .int v4_4, .int v4_5, .ref qf4_6, .int v4_7])), (qf4_2, .inl (cf4_2, 201, .inl f4_2)), (qf4_3, .inl (cf4_3, 201, .inl f4_3)), (qf0_0, .inl (cf0_0, 3001, .inl f0_0)), (h0, .inr (10, [.ref qf0, .ref qf1, .ref qf2, .ref qf3, .ref qf4, .ref qf5, .ref qf6, .ref qf7, .ref qf8, .ref qf9, .int v10, .int u10_4, .int u10_5, .int v13, .int v14, .int v15, .int v16, .int v17, .int v18])), (qf3, .inr (1, [.ref qf3_0, .int u10_6, .ref qf3_2, .int u10_7, .int u10_8, .ref qf3_5, .ref qf3_6, .int v3_7, .int v3_8, .ref qf3_9, .int v3_10, .ref qf3_11, .ref qf3_12, .ref qf3_13, .int v3_14, .int v3_15])), (qf3_0, .inl (cf3_0, 1500, .inl g910_0)), (qf3_2, .inl (cf3_2, 20, .inl g910_1)), (qf0, .inr (9, [.ref qf0_0, .ref qf0_1, .ref qf0_2, .int v0_3, .ref qf0_4, .ref qf0_5, .ref qf0_6, .ref qf0_7, .ref qf0_8, .int v0_9, .int (v0_10 + 1), .int u10_2, .int u10_3])), (qf0_1, .inl (cf0_1, 3001, .inl f0_1))] H := hP
  replace hD : va_D A [(qf0_2, .inl (cf0_2, 3001, .inl f0_2)), (qf4, .inr (6, [.ref qf4_0, .ref qf4_1, .ref qf4_2, .ref qf4_3, .int v4_4, .int v4_5, .ref qf4_6, .int v4_7])), (qf4_2, .inl (cf4_2, 201, .inl f4_2)), (qf4_3, .inl (cf4_3, 201, .inl f4_3)), (qf0_0, .inl (cf0_0, 3001, .inl f0_0)), (h0, .inr (10, [.ref qf0, .ref qf1, .ref qf2, .ref qf3, .ref qf4, .ref qf5, .ref qf6, .ref qf7, .ref qf8, .ref qf9, .int v10, .int u10_4, .int u10_5, .int v13, .int v14, .int v15, .int v16, .int v17, .int v18])), (qf3, .inr (1, [.ref qf3_0, .int u10_6, .ref qf3_2, .int u10_7, .int u10_8, .ref qf3_5, .ref qf3_6, .int v3_7, .int v3_8, .ref qf3_9, .int v3_10, .ref qf3_11, .ref qf3_12, .ref qf3_13, .int v3_14, .int v3_15])), (qf3_0, .inl (cf3_0, 1500, .inl g910_0)), (qf3_2, .inl (cf3_2, 20, .inl g910_1)), (qf0, .inr (9, [.ref qf0_0, .ref qf0_1, .ref qf0_2, .int v0_3, .ref qf0_4, .ref qf0_5, .ref qf0_6, .ref qf0_7, .ref qf0_8, .int v0_9, .int (v0_10 + 1), .int u10_2, .int u10_3])), (qf0_1, .inl (cf0_1, 3001, .inl f0_1))] := hD
  replace hK : va_K (dC, dI) vwCl [(cf0_2, .int), (cf4_2, .int), (cf4_3, .int), (cf0_0, .int), (cf3_0, .byte), (cf3_2, .int), (cf0_1, .int)] s := hK
  have hr0 := Option.some.inj hsp
  clear hsp
  obtain ⟨hq0, hr1⟩ := Prod.mk.inj hr0
  clear hr0
  obtain ⟨hq1, hr2⟩ := Prod.mk.inj hr1
  clear hr1
  obtain ⟨hq2, hr3⟩ := Prod.mk.inj hr2
  clear hr2
  obtain ⟨hq3, hr4⟩ := Prod.mk.inj hr3
  clear hr3
  obtain ⟨hq4, hr5⟩ := Prod.mk.inj hr4
  clear hr4
  obtain ⟨hq5, hr6⟩ := Prod.mk.inj hr5
  clear hr5
  obtain ⟨hq6, hr7⟩ := Prod.mk.inj hr6
  clear hr6
  obtain ⟨hq7, hr8⟩ := Prod.mk.inj hr7
  clear hr7
  obtain ⟨hq8, hr9⟩ := Prod.mk.inj hr8
  clear hr8
  obtain ⟨hq9, hr10⟩ := Prod.mk.inj hr9
  clear hr9
  obtain ⟨hq10, hr11⟩ := Prod.mk.inj hr10
  clear hr10
  obtain ⟨hq11, hr12⟩ := Prod.mk.inj hr11
  clear hr11
  obtain ⟨hq12, hr13⟩ := Prod.mk.inj hr12
  clear hr12
  subst hq0
  subst hq1
  subst hq2
  subst hq3
  subst hq4
  subst hq5
  subst hq6
  subst hq7
  subst hq8
  subst hq9
  subst hq10
  subst hq11
  subst hq12
  subst hr13
  have hP9 := hP.sub (ws' := [(h0, .inr (10, [.ref qf0, .ref qf1, .ref qf2, .ref qf3, .ref qf4, .ref qf5, .ref qf6, .ref qf7, .ref qf8, .ref qf9, .int v10, .int u10_4, .int u10_5, .int v13, .int v14, .int v15, .int v16, .int v17, .int v18])), (qf0, .inr (9, [.ref qf0_0, .ref qf0_1, .ref qf0_2, .int v0_3, .ref qf0_4, .ref qf0_5, .ref qf0_6, .ref qf0_7, .ref qf0_8, .int v0_9, .int (v0_10 + 1), .int u10_2, .int u10_3])), (qf0_0, .inl (cf0_0, 3001, .inl f0_0)), (qf0_2, .inl (cf0_2, 3001, .inl f0_2)), (qf4, .inr (6, [.ref qf4_0, .ref qf4_1, .ref qf4_2, .ref qf4_3, .int v4_4, .int v4_5, .ref qf4_6, .int v4_7])), (qf4_2, .inl (cf4_2, 201, .inl f4_2)), (qf4_3, .inl (cf4_3, 201, .inl f4_3)), (qf3, .inr (1, [.ref qf3_0, .int u10_6, .ref qf3_2, .int u10_7, .int u10_8, .ref qf3_5, .ref qf3_6, .int v3_7, .int v3_8, .ref qf3_9, .int v3_10, .ref qf3_11, .ref qf3_12, .ref qf3_13, .int v3_14, .int v3_15])), (qf3_0, .inl (cf3_0, 1500, .inl g910_0)), (qf3_2, .inl (cf3_2, 20, .inl g910_1)), (qf0_1, .inl (cf0_1, 3001, .inl f0_1))]) [5, 9, 4, 0, 1, 2, 3, 6, 7, 8, 10] rfl
  have hD9 := hD.sub (ws' := [(h0, .inr (10, [.ref qf0, .ref qf1, .ref qf2, .ref qf3, .ref qf4, .ref qf5, .ref qf6, .ref qf7, .ref qf8, .ref qf9, .int v10, .int u10_4, .int u10_5, .int v13, .int v14, .int v15, .int v16, .int v17, .int v18])), (qf0, .inr (9, [.ref qf0_0, .ref qf0_1, .ref qf0_2, .int v0_3, .ref qf0_4, .ref qf0_5, .ref qf0_6, .ref qf0_7, .ref qf0_8, .int v0_9, .int (v0_10 + 1), .int u10_2, .int u10_3])), (qf0_0, .inl (cf0_0, 3001, .inl f0_0)), (qf0_2, .inl (cf0_2, 3001, .inl f0_2)), (qf4, .inr (6, [.ref qf4_0, .ref qf4_1, .ref qf4_2, .ref qf4_3, .int v4_4, .int v4_5, .ref qf4_6, .int v4_7])), (qf4_2, .inl (cf4_2, 201, .inl f4_2)), (qf4_3, .inl (cf4_3, 201, .inl f4_3)), (qf3, .inr (1, [.ref qf3_0, .int u10_6, .ref qf3_2, .int u10_7, .int u10_8, .ref qf3_5, .ref qf3_6, .int v3_7, .int v3_8, .ref qf3_9, .int v3_10, .ref qf3_11, .ref qf3_12, .ref qf3_13, .int v3_14, .int v3_15])), (qf3_0, .inl (cf3_0, 1500, .inl g910_0)), (qf3_2, .inl (cf3_2, 20, .inl g910_1)), (qf0_1, .inl (cf0_1, 3001, .inl f0_1))]) [5, 9, 4, 0, 1, 2, 3, 6, 7, 8, 10] (by decide) rfl
  have hK9 := hK.sub (tys' := [(cf0_0, .int), (cf0_2, .int), (cf4_2, .int), (cf4_3, .int), (cf3_0, .byte), (cf3_2, .int), (cf0_1, .int)]) [3, 0, 1, 2, 4, 5, 6] rfl
  exact W.vret hx hb hr (fun t ht hW => ⟨⟨(), rfl, trivial, by rw [ht]; exact hP9, va_K.moved hW.alike hK9, hD9⟩, hS.F ht⟩) hS.2.2 dX10_readConstant_146
def sp_t0_beginProgram (nf : Nat)  : Option (Int32) := (some (-1))
