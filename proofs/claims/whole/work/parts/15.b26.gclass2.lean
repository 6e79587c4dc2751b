set_option maxHeartbeats 4000000 in
set_option maxRecDepth 100000 in
/-- ClassMill$Bodies.closeGiving -/
theorem t0_closeGiving (l : Launch) (dC : Nat → ClassId) (dI : Nat → Nat → Nat) (sz : Nat) (h0 : Nat) (a1 : Int32) (a2 : Int32) (a3 : Int32) (a4 : Int32) (qf0 : Nat) (qf1 : Nat) (qf2 : Nat) (qf3 : Nat) (qf4 : Nat) (qf5 : Nat) (qf6 : Nat) (v7 : Int32) (v8 : Int32) (v9 : Int32) (v10 : Int32) (qf11 : Nat) (v12 : Int32) (qf4_0 : Nat) (v4_1 : Int32) (qf4_2 : Nat) (v4_3 : Int32) (v4_4 : Int32) (qf4_5 : Nat) (qf4_6 : Nat) (v4_7 : Int32) (v4_8 : Int32) (qf4_9 : Nat) (v4_10 : Int32) (qf4_11 : Nat) (qf4_12 : Nat) (qf4_13 : Nat) (v4_14 : Int32) (v4_15 : Int32) (cf4_0 : ClassId) (f4_0 : (Nat → Int32)) (qf3_0 : Nat) (qf3_1 : Nat) (qf3_2 : Nat) (qf3_3 : Nat) (v3_4 : Int32) (v3_5 : Int32) (qf3_6 : Nat) (v3_7 : Int32) (qf3_1_0 : Nat) (qf3_1_1 : Nat) (v3_1_2 : Int32) (qf3_1_3 : Nat) (qf3_1_4 : Nat) (qf3_1_5 : Nat) (qf3_1_6 : Nat) (qf3_1_7 : Nat) (qf3_1_8 : Nat) (qf3_1_9 : Nat) (qf3_1_10 : Nat) (qf3_1_11 : Nat) (qf3_1_12 : Nat) (qf3_1_13 : Nat) (qf3_1_14 : Nat) (qf3_1_15 : Nat) (qf3_1_16 : Nat) (qf3_1_17 : Nat) (qf3_1_18 : Nat) (qf3_1_19 : Nat) (v3_1_20 : Int32) (cf3_1_18 : ClassId) (f3_1_18 : (Nat → Int32)) (cf3_2 : ClassId) (f3_2 : (Nat → Int32)) (cf3_3 : ClassId) (f3_3 : (Nat → Int32)) (cf3_1_6 : ClassId) (f3_1_6 : (Nat → Int32)) (cf3_1_8 : ClassId) (f3_1_8 : (Nat → Int32)) (nf : Nat) (o3_2 : (Nat → Int32)) (o3_3 : (Nat → Int32)) (o4_0 : (Nat → Int32)) (w3_4 : Int32) (w3_5 : Int32) (w4_1 : Int32) (w4_3 : Int32) (hsp : sp_t0_closeGiving nf a1 a2 a3 a4 v4_1 v4_3 f4_0 v3_4 v3_5 f3_1_18 f3_2 f3_3 f3_1_6 f3_1_8 = some (o3_2, o3_3, o4_0, w3_4, w3_5, w4_1, w4_3)) : Met l yX0_closeGiving (.code yX0_closeGiving cX0_closeGiving 5 none :: VS_h4) ({ frames := 3, cells := 0, slots := 0, locals := 68 }) (va_Pc [.ref h0, .int a1, .int a2, .int a3, .int a4] (fun U => U.heap.size = sz ∧ va_P (dC, dI) vwCl [(h0, .inr (0, [.ref qf0, .ref qf1, .ref qf2, .ref qf3, .ref qf4, .ref qf5, .ref qf6, .int v7, .int v8, .int v9, .int v10, .ref qf11, .int v12])), (qf4, .inr (1, [.ref qf4_0, .int v4_1, .ref qf4_2, .int v4_3, .int v4_4, .ref qf4_5, .ref qf4_6, .int v4_7, .int v4_8, .ref qf4_9, .int v4_10, .ref qf4_11, .ref qf4_12, .ref qf4_13, .int v4_14, .int v4_15])), (qf4_0, .inl (cf4_0, 1500, .inl f4_0)), (qf3, .inr (6, [.ref qf3_0, .ref qf3_1, .ref qf3_2, .ref qf3_3, .int v3_4, .int v3_5, .ref qf3_6, .int v3_7])), (qf3_1, .inr (2, [.ref qf3_1_0, .ref qf3_1_1, .int v3_1_2, .ref qf3_1_3, .ref qf3_1_4, .ref qf3_1_5, .ref qf3_1_6, .ref qf3_1_7, .ref qf3_1_8, .ref qf3_1_9, .ref qf3_1_10, .ref qf3_1_11, .ref qf3_1_12, .ref qf3_1_13, .ref qf3_1_14, .ref qf3_1_15, .ref qf3_1_16, .ref qf3_1_17, .ref qf3_1_18, .ref qf3_1_19, .int v3_1_20])), (qf3_1_18, .inl (cf3_1_18, 32, .inl f3_1_18)), (qf3_2, .inl (cf3_2, 201, .inl f3_2)), (qf3_3, .inl (cf3_3, 201, .inl f3_3)), (qf3_1_6, .inl (cf3_1_6, 96, .inl f3_1_6)), (qf3_1_8, .inl (cf3_1_8, 96, .inl f3_1_8))] U.heap ∧ va_K (dC, dI) vwCl [(cf4_0, .byte), (cf3_1_18, .int), (cf3_2, .int), (cf3_3, .int), (cf3_1_6, .int), (cf3_1_8, .int)] U ∧ va_D (fun _ => True) [(h0, .inr (0, [.ref qf0, .ref qf1, .ref qf2, .ref qf3, .ref qf4, .ref qf5, .ref qf6, .int v7, .int v8, .int v9, .int v10, .ref qf11, .int v12])), (qf4, .inr (1, [.ref qf4_0, .int v4_1, .ref qf4_2, .int v4_3, .int v4_4, .ref qf4_5, .ref qf4_6, .int v4_7, .int v4_8, .ref qf4_9, .int v4_10, .ref qf4_11, .ref qf4_12, .ref qf4_13, .int v4_14, .int v4_15])), (qf4_0, .inl (cf4_0, 1500, .inl f4_0)), (qf3, .inr (6, [.ref qf3_0, .ref qf3_1, .ref qf3_2, .ref qf3_3, .int v3_4, .int v3_5, .ref qf3_6, .int v3_7])), (qf3_1, .inr (2, [.ref qf3_1_0, .ref qf3_1_1, .int v3_1_2, .ref qf3_1_3, .ref qf3_1_4, .ref qf3_1_5, .ref qf3_1_6, .ref qf3_1_7, .ref qf3_1_8, .ref qf3_1_9, .ref qf3_1_10, .ref qf3_1_11, .ref qf3_1_12, .ref qf3_1_13, .ref qf3_1_14, .ref qf3_1_15, .ref qf3_1_16, .ref qf3_1_17, .ref qf3_1_18, .ref qf3_1_19, .int v3_1_20])), (qf3_1_18, .inl (cf3_1_18, 32, .inl f3_1_18)), (qf3_2, .inl (cf3_2, 201, .inl f3_2)), (qf3_3, .inl (cf3_3, 201, .inl f3_3)), (qf3_1_6, .inl (cf3_1_6, 96, .inl f3_1_6)), (qf3_1_8, .inl (cf3_1_8, 96, .inl f3_1_8))])) (va_Qv (fun (u : Unit) => match u with | () => True) (fun (u : Unit) (t : State) => match u with | () => va_P (dC, dI) vwCl [(h0, .inr (0, [.ref qf0, .ref qf1, .ref qf2, .ref qf3, .ref qf4, .ref qf5, .ref qf6, .int v7, .int v8, .int v9, .int v10, .ref qf11, .int v12])), (qf4, .inr (1, [.ref qf4_0, .int w4_1, .ref qf4_2, .int w4_3, .int v4_4, .ref qf4_5, .ref qf4_6, .int v4_7, .int v4_8, .ref qf4_9, .int v4_10, .ref qf4_11, .ref qf4_12, .ref qf4_13, .int v4_14, .int v4_15])), (qf4_0, .inl (cf4_0, 1500, .inl o4_0)), (qf3, .inr (6, [.ref qf3_0, .ref qf3_1, .ref qf3_2, .ref qf3_3, .int w3_4, .int w3_5, .ref qf3_6, .int v3_7])), (qf3_1, .inr (2, [.ref qf3_1_0, .ref qf3_1_1, .int v3_1_2, .ref qf3_1_3, .ref qf3_1_4, .ref qf3_1_5, .ref qf3_1_6, .ref qf3_1_7, .ref qf3_1_8, .ref qf3_1_9, .ref qf3_1_10, .ref qf3_1_11, .ref qf3_1_12, .ref qf3_1_13, .ref qf3_1_14, .ref qf3_1_15, .ref qf3_1_16, .ref qf3_1_17, .ref qf3_1_18, .ref qf3_1_19, .int v3_1_20])), (qf3_1_18, .inl (cf3_1_18, 32, .inl f3_1_18)), (qf3_2, .inl (cf3_2, 201, .inl o3_2)), (qf3_3, .inl (cf3_3, 201, .inl o3_3)), (qf3_1_6, .inl (cf3_1_6, 96, .inl f3_1_6)), (qf3_1_8, .inl (cf3_1_8, 96, .inl f3_1_8))] t.heap ∧ va_K (dC, dI) vwCl [(cf4_0, .byte), (cf3_1_18, .int), (cf3_2, .int), (cf3_3, .int), (cf3_1_6, .int), (cf3_1_8, .int)] t ∧ va_D (va_A [(h0, .inr (0, [.ref qf0, .ref qf1, .ref qf2, .ref qf3, .ref qf4, .ref qf5, .ref qf6, .int v7, .int v8, .int v9, .int v10, .ref qf11, .int v12])), (qf4, .inr (1, [.ref qf4_0, .int v4_1, .ref qf4_2, .int v4_3, .int v4_4, .ref qf4_5, .ref qf4_6, .int v4_7, .int v4_8, .ref qf4_9, .int v4_10, .ref qf4_11, .ref qf4_12, .ref qf4_13, .int v4_14, .int v4_15])), (qf4_0, .inl (cf4_0, 1500, .inl f4_0)), (qf3, .inr (6, [.ref qf3_0, .ref qf3_1, .ref qf3_2, .ref qf3_3, .int v3_4, .int v3_5, .ref qf3_6, .int v3_7])), (qf3_1, .inr (2, [.ref qf3_1_0, .ref qf3_1_1, .int v3_1_2, .ref qf3_1_3, .ref qf3_1_4, .ref qf3_1_5, .ref qf3_1_6, .ref qf3_1_7, .ref qf3_1_8, .ref qf3_1_9, .ref qf3_1_10, .ref qf3_1_11, .ref qf3_1_12, .ref qf3_1_13, .ref qf3_1_14, .ref qf3_1_15, .ref qf3_1_16, .ref qf3_1_17, .ref qf3_1_18, .ref qf3_1_19, .int v3_1_20])), (qf3_1_18, .inl (cf3_1_18, 32, .inl f3_1_18)), (qf3_2, .inl (cf3_2, 201, .inl f3_2)), (qf3_3, .inl (cf3_3, 201, .inl f3_3)), (qf3_1_6, .inl (cf3_1_6, 96, .inl f3_1_6)), (qf3_1_8, .inl (cf3_1_8, 96, .inl f3_1_8))] sz) [(h0, .inr (0, [.ref qf0, .ref qf1, .ref qf2, .ref qf3, .ref qf4, .ref qf5, .ref qf6, .int v7, .int v8, .int v9, .int v10, .ref qf11, .int v12])), (qf4, .inr (1, [.ref qf4_0, .int w4_1, .ref qf4_2, .int w4_3, .int v4_4, .ref qf4_5, .ref qf4_6, .int v4_7, .int v4_8, .ref qf4_9, .int v4_10, .ref qf4_11, .ref qf4_12, .ref qf4_13, .int v4_14, .int v4_15])), (qf4_0, .inl (cf4_0, 1500, .inl o4_0)), (qf3, .inr (6, [.ref qf3_0, .ref qf3_1, .ref qf3_2, .ref qf3_3, .int w3_4, .int w3_5, .ref qf3_6, .int v3_7])), (qf3_1, .inr (2, [.ref qf3_1_0, .ref qf3_1_1, .int v3_1_2, .ref qf3_1_3, .ref qf3_1_4, .ref qf3_1_5, .ref qf3_1_6, .ref qf3_1_7, .ref qf3_1_8, .ref qf3_1_9, .ref qf3_1_10, .ref qf3_1_11, .ref qf3_1_12, .ref qf3_1_13, .ref qf3_1_14, .ref qf3_1_15, .ref qf3_1_16, .ref qf3_1_17, .ref qf3_1_18, .ref qf3_1_19, .int v3_1_20])), (qf3_1_18, .inl (cf3_1_18, 32, .inl f3_1_18)), (qf3_2, .inl (cf3_2, 201, .inl o3_2)), (qf3_3, .inl (cf3_3, 201, .inl o3_3)), (qf3_1_6, .inl (cf3_1_6, 96, .inl f3_1_6)), (qf3_1_8, .inl (cf3_1_8, 96, .inl f3_1_8))]) (va_A [(h0, .inr (0, [.ref qf0, .ref qf1, .ref qf2, .ref qf3, .ref qf4, .ref qf5, .ref qf6, .int v7, .int v8, .int v9, .int v10, .ref qf11, .int v12])), (qf4, .inr (1, [.ref qf4_0, .int v4_1, .ref qf4_2, .int v4_3, .int v4_4, .ref qf4_5, .ref qf4_6, .int v4_7, .int v4_8, .ref qf4_9, .int v4_10, .ref qf4_11, .ref qf4_12, .ref qf4_13, .int v4_14, .int v4_15])), (qf4_0, .inl (cf4_0, 1500, .inl f4_0)), (qf3, .inr (6, [.ref qf3_0, .ref qf3_1, .ref qf3_2, .ref qf3_3, .int v3_4, .int v3_5, .ref qf3_6, .int v3_7])), (qf3_1, .inr (2, [.ref qf3_1_0, .ref qf3_1_1, .int v3_1_2, .ref qf3_1_3, .ref qf3_1_4, .ref qf3_1_5, .ref qf3_1_6, .ref qf3_1_7, .ref qf3_1_8, .ref qf3_1_9, .ref qf3_1_10, .ref qf3_1_11, .ref qf3_1_12, .ref qf3_1_13, .ref qf3_1_14, .ref qf3_1_15, .ref qf3_1_16, .ref qf3_1_17, .ref qf3_1_18, .ref qf3_1_19, .int v3_1_20])), (qf3_1_18, .inl (cf3_1_18, 32, .inl f3_1_18)), (qf3_2, .inl (cf3_2, 201, .inl f3_2)), (qf3_3, .inl (cf3_3, 201, .inl f3_3)), (qf3_1_6, .inl (cf3_1_6, 96, .inl f3_1_6)), (qf3_1_8, .inl (cf3_1_8, 96, .inl f3_1_8))] sz)) 0 0 (va_A [(h0, .inr (0, [.ref qf0, .ref qf1, .ref qf2, .ref qf3, .ref qf4, .ref qf5, .ref qf6, .int v7, .int v8, .int v9, .int v10, .ref qf11, .int v12])), (qf4, .inr (1, [.ref qf4_0, .int v4_1, .ref qf4_2, .int v4_3, .int v4_4, .ref qf4_5, .ref qf4_6, .int v4_7, .int v4_8, .ref qf4_9, .int v4_10, .ref qf4_11, .ref qf4_12, .ref qf4_13, .int v4_14, .int v4_15])), (qf4_0, .inl (cf4_0, 1500, .inl f4_0)), (qf3, .inr (6, [.ref qf3_0, .ref qf3_1, .ref qf3_2, .ref qf3_3, .int v3_4, .int v3_5, .ref qf3_6, .int v3_7])), (qf3_1, .inr (2, [.ref qf3_1_0, .ref qf3_1_1, .int v3_1_2, .ref qf3_1_3, .ref qf3_1_4, .ref qf3_1_5, .ref qf3_1_6, .ref qf3_1_7, .ref qf3_1_8, .ref qf3_1_9, .ref qf3_1_10, .ref qf3_1_11, .ref qf3_1_12, .ref qf3_1_13, .ref qf3_1_14, .ref qf3_1_15, .ref qf3_1_16, .ref qf3_1_17, .ref qf3_1_18, .ref qf3_1_19, .int v3_1_20])), (qf3_1_18, .inl (cf3_1_18, 32, .inl f3_1_18)), (qf3_2, .inl (cf3_2, 201, .inl f3_2)), (qf3_3, .inl (cf3_3, 201, .inl f3_3)), (qf3_1_6, .inl (cf3_1_6, 96, .inl f3_1_6)), (qf3_1_8, .inl (cf3_1_8, 96, .inl f3_1_8))] sz) := by
  refine Met.ofW (cc := cX0_closeGiving) (maxL := 5) (ret := none) (by decide) rfl ?_
  intro p e s m args below meth c s₁ B hml hv
  obtain ⟨rfl, hsz, hP, hK, hD0⟩ := hv
  have hx := B.exec
  have hb := B.bytes
  have hr := B.returns
  have hts := atoms_spec (ws := (.code yX0_closeGiving cX0_closeGiving 5 none :: VS_h4)) B.pre
  replace hts := fun w (h : w ∈ VS_h4) => hts w (List.mem_cons_of_mem _ h)
  have hown : s.vm.findClass RX0 = some m.cls := findClass_of_methodNamed B.named
  have hlocks := B.notSynchronized
  subst hsz
  have hD := hD0.self (sz := s.heap.size)
  generalize hAe : va_A [(h0, .inr (0, [.ref qf0, .ref qf1, .ref qf2, .ref qf3, .ref qf4, .ref qf5, .ref qf6, .int v7, .int v8, .int v9, .int v10, .ref qf11, .int v12])), (qf4, .inr (1, [.ref qf4_0, .int v4_1, .ref qf4_2, .int v4_3, .int v4_4, .ref qf4_5, .ref qf4_6, .int v4_7, .int v4_8, .ref qf4_9, .int v4_10, .ref qf4_11, .ref qf4_12, .ref qf4_13, .int v4_14, .int v4_15])), (qf4_0, .inl (cf4_0, 1500, .inl f4_0)), (qf3, .inr (6, [.ref qf3_0, .ref qf3_1, .ref qf3_2, .ref qf3_3, .int v3_4, .int v3_5, .ref qf3_6, .int v3_7])), (qf3_1, .inr (2, [.ref qf3_1_0, .ref qf3_1_1, .int v3_1_2, .ref qf3_1_3, .ref qf3_1_4, .ref qf3_1_5, .ref qf3_1_6, .ref qf3_1_7, .ref qf3_1_8, .ref qf3_1_9, .ref qf3_1_10, .ref qf3_1_11, .ref qf3_1_12, .ref qf3_1_13, .ref qf3_1_14, .ref qf3_1_15, .ref qf3_1_16, .ref qf3_1_17, .ref qf3_1_18, .ref qf3_1_19, .int v3_1_20])), (qf3_1_18, .inl (cf3_1_18, 32, .inl f3_1_18)), (qf3_2, .inl (cf3_2, 201, .inl f3_2)), (qf3_3, .inl (cf3_3, 201, .inl f3_3)), (qf3_1_6, .inl (cf3_1_6, 96, .inl f3_1_6)), (qf3_1_8, .inl (cf3_1_8, 96, .inl f3_1_8))] s.heap.size = A at hD  ⊢
  have hA : ∀ q : Nat, s.heap.size ≤ q → A q := fun q h => by rw [← hAe]; exact Or.inr h
  have hP : va_P (dC, dI) vwCl [(h0, .inr (0, [.ref qf0, .ref qf1, .ref qf2, .ref qf3, .ref qf4, .ref qf5, .ref qf6, .int v7, .int v8, .int v9, .int v10, .ref qf11, .int v12])), (qf4, .inr (1, [.ref qf4_0, .int v4_1, .ref qf4_2, .int v4_3, .int v4_4, .ref qf4_5, .ref qf4_6, .int v4_7, .int v4_8, .ref qf4_9, .int v4_10, .ref qf4_11, .ref qf4_12, .ref qf4_13, .int v4_14, .int v4_15])), (qf4_0, .inl (cf4_0, 1500, .inl f4_0)), (qf3, .inr (6, [.ref qf3_0, .ref qf3_1, .ref qf3_2, .ref qf3_3, .int v3_4, .int v3_5, .ref qf3_6, .int v3_7])), (qf3_1, .inr (2, [.ref qf3_1_0, .ref qf3_1_1, .int v3_1_2, .ref qf3_1_3, .ref qf3_1_4, .ref qf3_1_5, .ref qf3_1_6, .ref qf3_1_7, .ref qf3_1_8, .ref qf3_1_9, .ref qf3_1_10, .ref qf3_1_11, .ref qf3_1_12, .ref qf3_1_13, .ref qf3_1_14, .ref qf3_1_15, .ref qf3_1_16, .ref qf3_1_17, .ref qf3_1_18, .ref qf3_1_19, .int v3_1_20])), (qf3_1_18, .inl (cf3_1_18, 32, .inl f3_1_18)), (qf3_2, .inl (cf3_2, 201, .inl f3_2)), (qf3_3, .inl (cf3_3, 201, .inl f3_3)), (qf3_1_6, .inl (cf3_1_6, 96, .inl f3_1_6)), (qf3_1_8, .inl (cf3_1_8, 96, .inl f3_1_8))] s.heap := hP
  have hl := lv_entry ([.ref h0, .int a1, .int a2, .int a3, .int a4]) (n := 5) (Nat.le_of_ble_eq_true rfl)
  rw [lg_entry_eq]
  generalize (lg_sl ([.ref h0, .int a1, .int a2, .int a3, .int a4]) ++ List.replicate (5 - (lg_sl ([.ref h0, .int a1, .int a2, .int a3, .int a4])).length) Slot.unset).toArray = ls at hl ⊢
  have hl : lv_has ls 5 [(0, .ref h0), (1, .int a1), (2, .int a2), (3, .int a3), (4, .int a4)] := hl
  obtain ⟨H, hH⟩ : ∃ H : Heap, s.heap = H := ⟨_, rfl⟩
  rw [hH] at hP ⊢
  have hS : va_S A s.heap H [] := by rw [← hH]; exact va_S.rf
  obtain ⟨locs, hlo⟩ : ∃ locs : List Loc, locs = [] := ⟨_, rfl⟩
  rw [← hlo] at hS ⊢
  unfold sp_t0_closeGiving at hsp
  refine lv_iload_n hx hb dX0_closeGiving_0 rfl (lv_at hl 1 rfl) ?_
  by_cases hs_1 : a1 = 2
  · rw [if_pos hs_1] at hsp
    refine lv_lookup (tgt := 28) hx hb dX0_closeGiving_1 (by decide) (off := 27) (by rw [hs_1]; rfl) (by decide) ?_
    refine lv_aload_n hx hb dX0_closeGiving_28 rfl (lv_at hl 0 rfl) ?_
    refine va_get (D := (dC, dI)) (ci := 0) (v := .ref qf4) (C := RX0) (T := TX0) (N := 13) hx hb hts uV_h4_X0 hown hK hP 0 rfl rfl 4 (by decide) (hts (.fieldLink RX0 16 "ClassMill$Bodies" "code" "LClassMill$Code;") mw_h4_444) (fun _ h9 => h9) rfl dX0_closeGiving_29 ?_
    refine lv_iload hx hb dX0_closeGiving_32 (lv_at hl 4 rfl) ?_
    refine lv_iload_n hx hb dX0_closeGiving_34 rfl (lv_at hl 2 rfl) ?_
    obtain ⟨⟨g901_0, u1_1, u1_2⟩, hu_1, hsp⟩ := ox_bind hsp
    try dsimp only at hsp
    have hPc := hP.sub (ws' := [(qf4, .inr (1, [.ref qf4_0, .int v4_1, .ref qf4_2, .int v4_3, .int v4_4, .ref qf4_5, .ref qf4_6, .int v4_7, .int v4_8, .ref qf4_9, .int v4_10, .ref qf4_11, .ref qf4_12, .ref qf4_13, .int v4_14, .int v4_15])), (qf4_0, .inl (cf4_0, 1500, .inl f4_0))]) [1, 2] rfl
    have hDc := hD.sub (ws' := [(qf4, .inr (1, [.ref qf4_0, .int v4_1, .ref qf4_2, .int v4_3, .int v4_4, .ref qf4_5, .ref qf4_6, .int v4_7, .int v4_8, .ref qf4_9, .int v4_10, .ref qf4_11, .ref qf4_12, .ref qf4_13, .int v4_14, .int v4_15])), (qf4_0, .inl (cf4_0, 1500, .inl f4_0))]) [1, 2] (by decide) rfl
    have hKc := hK.sub (tys' := [(cf4_0, .byte)]) [0] rfl
    have hFc := va_free (wc := [(qf4, .inr (1, [.ref qf4_0, .int v4_1, .ref qf4_2, .int v4_3, .int v4_4, .ref qf4_5, .ref qf4_6, .int v4_7, .int v4_8, .ref qf4_9, .int v4_10, .ref qf4_11, .ref qf4_12, .ref qf4_13, .int v4_14, .int v4_15])), (qf4_0, .inl (cf4_0, 1500, .inl f4_0))]) hD hS hA [1, 2] rfl
    refine va_callv (va_runV (As := [.int a4, .int a2]) (rest := []) ⟨hx, hb, hml, hown, hts⟩ (t1_store l dC dI H.size qf4 a4 a2 qf4_0 v4_1 qf4_2 v4_3 v4_4 qf4_5 qf4_6 v4_7 v4_8 qf4_9 v4_10 qf4_11 qf4_12 qf4_13 v4_14 v4_15 cf4_0 f4_0 nf g901_0 u1_1 u1_2 hu_1) (cwV 2 hts gv_h4_119 rfl rfl rfl (by decide +kernel) ⟨Nat.le_of_ble_eq_true rfl, Nat.le_of_ble_eq_true rfl⟩) ⟨fun a U g mk q => by obtain ⟨q0, q1, qP, qK, qD⟩ := q; exact ⟨q0, q1, qP, va_K.moved (u := U) (U := U.calling g mk a) (Vm.Alike.refl U.vm) qK, qD⟩, va_recv hKc hPc (ci := 1) (q0 := 0) rfl rfl, fun U hU hW => ⟨rfl, by rw [hU], by rw [hU]; exact hPc, va_K.moved hW.alike hKc, hDc.weaken (fun _ _ _ _ => trivial)⟩⟩ rfl rfl hl.1 rfl (lv_room (Nat.le_of_ble_eq_true rfl)) dX0_closeGiving_35 ⟨Nat.le_of_ble_eq_true rfl, Nat.le_of_ble_eq_true rfl⟩) hS (fun q _ h => hFc q h) hFc ?_
    clear hS
    intro u t H1 locs ht hvm hw hB hz1 hk1 hS
    obtain ⟨⟩ := u
    obtain ⟨hP1, hK1, hD1⟩ := hB
    rw [ht] at hP1
    have hK1 := va_K.moved hvm.symm hK1
    try dsimp only at hw
    have hPD := va_join (wr := [(h0, .inr (0, [.ref qf0, .ref qf1, .ref qf2, .ref qf3, .ref qf4, .ref qf5, .ref qf6, .int v7, .int v8, .int v9, .int v10, .ref qf11, .int v12])), (qf3, .inr (6, [.ref qf3_0, .ref qf3_1, .ref qf3_2, .ref qf3_3, .int v3_4, .int v3_5, .ref qf3_6, .int v3_7])), (qf3_1, .inr (2, [.ref qf3_1_0, .ref qf3_1_1, .int v3_1_2, .ref qf3_1_3, .ref qf3_1_4, .ref qf3_1_5, .ref qf3_1_6, .ref qf3_1_7, .ref qf3_1_8, .ref qf3_1_9, .ref qf3_1_10, .ref qf3_1_11, .ref qf3_1_12, .ref qf3_1_13, .ref qf3_1_14, .ref qf3_1_15, .ref qf3_1_16, .ref qf3_1_17, .ref qf3_1_18, .ref qf3_1_19, .int v3_1_20])), (qf3_1_18, .inl (cf3_1_18, 32, .inl f3_1_18)), (qf3_2, .inl (cf3_2, 201, .inl f3_2)), (qf3_3, .inl (cf3_3, 201, .inl f3_3)), (qf3_1_6, .inl (cf3_1_6, 96, .inl f3_1_6)), (qf3_1_8, .inl (cf3_1_8, 96, .inl f3_1_8))]) (w1 := [(qf4, .inr (1, [.ref qf4_0, .int u1_1, .ref qf4_2, .int u1_2, .int v4_4, .ref qf4_5, .ref qf4_6, .int v4_7, .int v4_8, .ref qf4_9, .int v4_10, .ref qf4_11, .ref qf4_12, .ref qf4_13, .int v4_14, .int v4_15])), (qf4_0, .inl (cf4_0, 1500, .inl g901_0))]) hP hD [1, 2] [0, 3, 4, 5, 6, 7, 8, 9] rfl rfl (by decide) (by decide) hk1 hFc hP1 hD1
    clear hP hD
    obtain ⟨hP, hD⟩ := hPD
    replace hK := (hK.sub (tys' := [(cf3_1_18, .int), (cf3_2, .int), (cf3_3, .int), (cf3_1_6, .int), (cf3_1_8, .int)]) [1, 2, 3, 4, 5] rfl).app hK1
    clear hPc hDc hKc hFc hP1 hK1 hD1 hz1 hk1 ht hvm
    generalize H1 = H at hP hS ⊢
    replace hP : va_P (dC, dI) vwCl [(h0, .inr (0, [.ref qf0, .ref qf1, .ref qf2, .ref qf3, .ref qf4, .ref qf5, .ref qf6, .int v7, .int v8, .int v9, .int v10, .ref qf11, .int v12])), (qf3, .inr (6, [.ref qf3_0, .ref qf3_1, .ref qf3_2, .ref qf3_3, .int v3_4, .int v3_5, .ref qf3_6, .int v3_7])), (qf3_1, .inr (2, [.ref qf3_1_0, .ref qf3_1_1, .int v3_1_2, .ref qf3_1_3, .ref qf3_1_4, .ref qf3_1_5, .ref qf3_1_6, .ref qf3_1_7, .ref qf3_1_8, .ref qf3_1_9, .ref qf3_1_10, .ref qf3_1_11, .ref qf3_1_12, .ref qf3_1_13, .ref qf3_1_14, .ref qf3_1_15, .ref qf3_1_16, .ref qf3_1_17, .ref qf3_1_18, .ref qf3_1_19, .int v3_1_20])), (qf3_1_18, .inl (cf3_1_18, 32, .inl f3_1_18)), (qf3_2, .inl (cf3_2, 201, .inl f3_2)), (qf3_3, .inl (cf3_3, 201, .inl f3_3)), (qf3_1_6, .inl (cf3_1_6, 96, .inl f3_1_6)), (qf3_1_8, .inl (cf3_1_8, 96, .inl f3_1_8)), (qf4, .inr (1, [.ref qf4_0, .int u1_1, .ref qf4_2, .int u1_2, .int v4_4, .ref qf4_5, .ref qf4_6, .int v4_7, .int v4_8, .ref qf4_9, .int v4_10, .ref qf4_11, .ref qf4_12, .ref qf4_13, .int v4_14, .int v4_15])), (qf4_0, .inl (cf4_0, 1500, .inl g901_0))] H := hP
    replace hD : va_D A [(h0, .inr (0, [.ref qf0, .ref qf1, .ref qf2, .ref qf3, .ref qf4, .ref qf5, .ref qf6, .int v7, .int v8, .int v9, .int v10, .ref qf11, .int v12])), (qf3, .inr (6, [.ref qf3_0, .ref qf3_1, .ref qf3_2, .ref qf3_3, .int v3_4, .int v3_5, .ref qf3_6, .int v3_7])), (qf3_1, .inr (2, [.ref qf3_1_0, .ref qf3_1_1, .int v3_1_2, .ref qf3_1_3, .ref qf3_1_4, .ref qf3_1_5, .ref qf3_1_6, .ref qf3_1_7, .ref qf3_1_8, .ref qf3_1_9, .ref qf3_1_10, .ref qf3_1_11, .ref qf3_1_12, .ref qf3_1_13, .ref qf3_1_14, .ref qf3_1_15, .ref qf3_1_16, .ref qf3_1_17, .ref qf3_1_18, .ref qf3_1_19, .int v3_1_20])), (qf3_1_18, .inl (cf3_1_18, 32, .inl f3_1_18)), (qf3_2, .inl (cf3_2, 201, .inl f3_2)), (qf3_3, .inl (cf3_3, 201, .inl f3_3)), (qf3_1_6, .inl (cf3_1_6, 96, .inl f3_1_6)), (qf3_1_8, .inl (cf3_1_8, 96, .inl f3_1_8)), (qf4, .inr (1, [.ref qf4_0, .int u1_1, .ref qf4_2, .int u1_2, .int v4_4, .ref qf4_5, .ref qf4_6, .int v4_7, .int v4_8, .ref qf4_9, .int v4_10, .ref qf4_11, .ref qf4_12, .ref qf4_13, .int v4_14, .int v4_15])), (qf4_0, .inl (cf4_0, 1500, .inl g901_0))] := hD
    replace hK : va_K (dC, dI) vwCl [(cf3_1_18, .int), (cf3_2, .int), (cf3_3, .int), (cf3_1_6, .int), (cf3_1_8, .int), (cf4_0, .byte)] s := hK
    refine lv_goto (tgt := 101) hx hb dX0_closeGiving_38 (by decide) ?_
    have hr0 := Option.some.inj hsp
    clear hsp
    obtain ⟨hq0, hr1⟩ := Prod.mk.inj hr0
    clear hr0
    obtain ⟨hq1, hr2⟩ := Prod.mk.inj hr1
    clear hr1
    obtain ⟨hq2, hr3⟩ := Prod.mk.inj hr2
    clear hr2
    obtain ⟨hq3, hr4⟩ := Prod.mk.inj hr3
    clear hr3
    obtain ⟨hq4, hr5⟩ := Prod.mk.inj hr4
    clear hr4
    obtain ⟨hq5, hr6⟩ := Prod.mk.inj hr5
    clear hr5
    subst hq0
    subst hq1
    subst hq2
    subst hq3
    subst hq4
    subst hq5
    subst hr6
    have hP9 := hP.sub (ws' := [(h0, .inr (0, [.ref qf0, .ref qf1, .ref qf2, .ref qf3, .ref qf4, .ref qf5, .ref qf6, .int v7, .int v8, .int v9, .int v10, .ref qf11, .int v12])), (qf4, .inr (1, [.ref qf4_0, .int u1_1, .ref qf4_2, .int u1_2, .int v4_4, .ref qf4_5, .ref qf4_6, .int v4_7, .int v4_8, .ref qf4_9, .int v4_10, .ref qf4_11, .ref qf4_12, .ref qf4_13, .int v4_14, .int v4_15])), (qf4_0, .inl (cf4_0, 1500, .inl g901_0)), (qf3, .inr (6, [.ref qf3_0, .ref qf3_1, .ref qf3_2, .ref qf3_3, .int v3_4, .int v3_5, .ref qf3_6, .int v3_7])), (qf3_1, .inr (2, [.ref qf3_1_0, .ref qf3_1_1, .int v3_1_2, .ref qf3_1_3, .ref qf3_1_4, .ref qf3_1_5, .ref qf3_1_6, .ref qf3_1_7, .ref qf3_1_8, .ref qf3_1_9, .ref qf3_1_10, .ref qf3_1_11, .ref qf3_1_12, .ref qf3_1_13, .ref qf3_1_14, .ref qf3_1_15, .ref qf3_1_16, .ref qf3_1_17, .ref qf3_1_18, .ref qf3_1_19, .int v3_1_20])), (qf3_1_18, .inl (cf3_1_18, 32, .inl f3_1_18)), (qf3_2, .inl (cf3_2, 201, .inl f3_2)), (qf3_3, .inl (cf3_3, 201, .inl f3_3)), (qf3_1_6, .inl (cf3_1_6, 96, .inl f3_1_6)), (qf3_1_8, .inl (cf3_1_8, 96, .inl f3_1_8))]) [0, 8, 9, 1, 2, 3, 4, 5, 6, 7] rfl
    have hD9 := hD.sub (ws' := [(h0, .inr (0, [.ref qf0, .ref qf1, .ref qf2, .ref qf3, .ref qf4, .ref qf5, .ref qf6, .int v7, .int v8, .int v9, .int v10, .ref qf11, .int v12])), (qf4, .inr (1, [.ref qf4_0, .int u1_1, .ref qf4_2, .int u1_2, .int v4_4, .ref qf4_5, .ref qf4_6, .int v4_7, .int v4_8, .ref qf4_9, .int v4_10, .ref qf4_11, .ref qf4_12, .ref qf4_13, .int v4_14, .int v4_15])), (qf4_0, .inl (cf4_0, 1500, .inl g901_0)), (qf3, .inr (6, [.ref qf3_0, .ref qf3_1, .ref qf3_2, .ref qf3_3, .int v3_4, .int v3_5, .ref qf3_6, .int v3_7])), (qf3_1, .inr (2, [.ref qf3_1_0, .ref qf3_1_1, .int v3_1_2, .ref qf3_1_3, .ref qf3_1_4, .ref qf3_1_5, .ref qf3_1_6, .ref qf3_1_7, .ref qf3_1_8, .ref qf3_1_9, .ref qf3_1_10, .ref qf3_1_11, .ref qf3_1_12, .ref qf3_1_13, .ref qf3_1_14, .ref qf3_1_15, .ref qf3_1_16, .ref qf3_1_17, .ref qf3_1_18, .ref qf3_1_19, .int v3_1_20])), (qf3_1_18, .inl (cf3_1_18, 32, .inl f3_1_18)), (qf3_2, .inl (cf3_2, 201, .inl f3_2)), (qf3_3, .inl (cf3_3, 201, .inl f3_3)), (qf3_1_6, .inl (cf3_1_6, 96, .inl f3_1_6)), (qf3_1_8, .inl (cf3_1_8, 96, .inl f3_1_8))]) [0, 8, 9, 1, 2, 3, 4, 5, 6, 7] (by decide) rfl
    have hK9 := hK.sub (tys' := [(cf4_0, .byte), (cf3_1_18, .int), (cf3_2, .int), (cf3_3, .int), (cf3_1_6, .int), (cf3_1_8, .int)]) [5, 0, 1, 2, 3, 4] rfl
    exact W.vret hx hb hr (fun t ht hW => ⟨⟨(), rfl, trivial, by rw [ht]; exact hP9, va_K.moved hW.alike hK9, hD9⟩, hS.F ht⟩) hS.2.2 dX0_closeGiving_101
  rw [if_neg hs_1] at hsp
  by_cases hs_2 : a1 = 3
  · rw [if_pos hs_2] at hsp
    refine lv_lookup (tgt := 41) hx hb dX0_closeGiving_1 (by decide) (off := 40) (by rw [hs_2]; rfl) (by decide) ?_
    refine lv_aload_n hx hb dX0_closeGiving_41 rfl (lv_at hl 0 rfl) ?_
    refine va_get (D := (dC, dI)) (ci := 0) (v := .ref qf4) (C := RX0) (T := TX0) (N := 13) hx hb hts uV_h4_X0 hown hK hP 0 rfl rfl 4 (by decide) (hts (.fieldLink RX0 16 "ClassMill$Bodies" "code" "LClassMill$Code;") mw_h4_444) (fun _ h9 => h9) rfl dX0_closeGiving_42 ?_
    refine lv_sipush (v := 181) hx hb dX0_closeGiving_45 (by decide) ?_
    refine lv_aload_n hx hb dX0_closeGiving_48 rfl (lv_at hl 0 rfl) ?_
    refine va_get (D := (dC, dI)) (ci := 0) (v := .ref qf3) (C := RX0) (T := TX0) (N := 13) hx hb hts uV_h4_X0 hown hK hP 0 rfl rfl 3 (by decide) (hts (.fieldLink RX0 52 "ClassMill$Bodies" "pool" "LClassMill$Pool;") mw_h4_401) (fun _ h9 => h9) rfl dX0_closeGiving_49 ?_
    refine lv_iload_n hx hb dX0_closeGiving_52 rfl (lv_at hl 3 rfl) ?_
    refine lv_iload hx hb dX0_closeGiving_53 (lv_at hl 4 rfl) ?_
    obtain ⟨⟨u2_0, g902_1, g902_2, u2_3, u2_4⟩, hu_2, hsp⟩ := ox_bind hsp
    try dsimp only at hsp
    have hPc := hP.sub (ws' := [(qf3, .inr (6, [.ref qf3_0, .ref qf3_1, .ref qf3_2, .ref qf3_3, .int v3_4, .int v3_5, .ref qf3_6, .int v3_7])), (qf3_1, .inr (2, [.ref qf3_1_0, .ref qf3_1_1, .int v3_1_2, .ref qf3_1_3, .ref qf3_1_4, .ref qf3_1_5, .ref qf3_1_6, .ref qf3_1_7, .ref qf3_1_8, .ref qf3_1_9, .ref qf3_1_10, .ref qf3_1_11, .ref qf3_1_12, .ref qf3_1_13, .ref qf3_1_14, .ref qf3_1_15, .ref qf3_1_16, .ref qf3_1_17, .ref qf3_1_18, .ref qf3_1_19, .int v3_1_20])), (qf3_1_18, .inl (cf3_1_18, 32, .inl f3_1_18)), (qf3_2, .inl (cf3_2, 201, .inl f3_2)), (qf3_3, .inl (cf3_3, 201, .inl f3_3)), (qf3_1_6, .inl (cf3_1_6, 96, .inl f3_1_6)), (qf3_1_8, .inl (cf3_1_8, 96, .inl f3_1_8))]) [3, 4, 5, 6, 7, 8, 9] rfl
    have hDc := hD.sub (ws' := [(qf3, .inr (6, [.ref qf3_0, .ref qf3_1, .ref qf3_2, .ref qf3_3, .int v3_4, .int v3_5, .ref qf3_6, .int v3_7])), (qf3_1, .inr (2, [.ref qf3_1_0, .ref qf3_1_1, .int v3_1_2, .ref qf3_1_3, .ref qf3_1_4, .ref qf3_1_5, .ref qf3_1_6, .ref qf3_1_7, .ref qf3_1_8, .ref qf3_1_9, .ref qf3_1_10, .ref qf3_1_11, .ref qf3_1_12, .ref qf3_1_13, .ref qf3_1_14, .ref qf3_1_15, .ref qf3_1_16, .ref qf3_1_17, .ref qf3_1_18, .ref qf3_1_19, .int v3_1_20])), (qf3_1_18, .inl (cf3_1_18, 32, .inl f3_1_18)), (qf3_2, .inl (cf3_2, 201, .inl f3_2)), (qf3_3, .inl (cf3_3, 201, .inl f3_3)), (qf3_1_6, .inl (cf3_1_6, 96, .inl f3_1_6)), (qf3_1_8, .inl (cf3_1_8, 96, .inl f3_1_8))]) [3, 4, 5, 6, 7, 8, 9] (by decide) rfl
    have hKc := hK.sub (tys' := [(cf3_1_18, .int), (cf3_2, .int), (cf3_3, .int), (cf3_1_6, .int), (cf3_1_8, .int)]) [1, 2, 3, 4, 5] rfl
    have hFc := va_free (wc := [(qf3, .inr (6, [.ref qf3_0, .ref qf3_1, .ref qf3_2, .ref qf3_3, .int v3_4, .int v3_5, .ref qf3_6, .int v3_7])), (qf3_1, .inr (2, [.ref qf3_1_0, .ref qf3_1_1, .int v3_1_2, .ref qf3_1_3, .ref qf3_1_4, .ref qf3_1_5, .ref qf3_1_6, .ref qf3_1_7, .ref qf3_1_8, .ref qf3_1_9, .ref qf3_1_10, .ref qf3_1_11, .ref qf3_1_12, .ref qf3_1_13, .ref qf3_1_14, .ref qf3_1_15, .ref qf3_1_16, .ref qf3_1_17, .ref qf3_1_18, .ref qf3_1_19, .int v3_1_20])), (qf3_1_18, .inl (cf3_1_18, 32, .inl f3_1_18)), (qf3_2, .inl (cf3_2, 201, .inl f3_2)), (qf3_3, .inl (cf3_3, 201, .inl f3_3)), (qf3_1_6, .inl (cf3_1_6, 96, .inl f3_1_6)), (qf3_1_8, .inl (cf3_1_8, 96, .inl f3_1_8))]) hD hS hA [3, 4, 5, 6, 7, 8, 9] rfl
    refine va_calli (va_runV (As := [.int a3, .int a4]) (rest := [.int 181, .ref qf4]) ⟨hx, hb, hml, hown, hts⟩ (t6_fieldOf l dC dI H.size qf3 a3 a4 qf3_0 qf3_1 qf3_2 qf3_3 v3_4 v3_5 qf3_6 v3_7 qf3_1_0 qf3_1_1 v3_1_2 qf3_1_3 qf3_1_4 qf3_1_5 qf3_1_6 qf3_1_7 qf3_1_8 qf3_1_9 qf3_1_10 qf3_1_11 qf3_1_12 qf3_1_13 qf3_1_14 qf3_1_15 qf3_1_16 qf3_1_17 qf3_1_18 qf3_1_19 v3_1_20 cf3_1_18 f3_1_18 cf3_2 f3_2 cf3_3 f3_3 cf3_1_6 f3_1_6 cf3_1_8 f3_1_8 nf u2_0 g902_1 g902_2 u2_3 u2_4 hu_2) (cwV 2 hts gv_h4_120 rfl rfl rfl (by decide +kernel) ⟨Nat.le_of_ble_eq_true rfl, Nat.le_of_ble_eq_true rfl⟩) ⟨fun a U g mk q => by obtain ⟨q0, q1, qP, qK, qD⟩ := q; exact ⟨q0, q1, qP, va_K.moved (u := U) (U := U.calling g mk a) (Vm.Alike.refl U.vm) qK, qD⟩, va_recv hKc hPc (ci := 6) (q0 := 0) rfl rfl, fun U hU hW => ⟨rfl, by rw [hU], by rw [hU]; exact hPc, va_K.moved hW.alike hKc, hDc.weaken (fun _ _ _ _ => trivial)⟩⟩ rfl rfl hl.1 rfl (lv_room (Nat.le_of_ble_eq_true rfl)) dX0_closeGiving_55 ⟨Nat.le_of_ble_eq_true rfl, Nat.le_of_ble_eq_true rfl⟩) hS (fun q _ h => hFc q h) hFc ?_
    clear hS
    intro r_3 u t H1 locs ht hvm hw hB hz1 hk1 hS
    obtain ⟨⟩ := u
    obtain ⟨hP1, hK1, hD1⟩ := hB
    rw [ht] at hP1
    have hK1 := va_K.moved hvm.symm hK1
    try dsimp only at hw
    have hPD := va_join (wr := [(h0, .inr (0, [.ref qf0, .ref qf1, .ref qf2, .ref qf3, .ref qf4, .ref qf5, .ref qf6, .int v7, .int v8, .int v9, .int v10, .ref qf11, .int v12])), (qf4, .inr (1, [.ref qf4_0, .int v4_1, .ref qf4_2, .int v4_3, .int v4_4, .ref qf4_5, .ref qf4_6, .int v4_7, .int v4_8, .ref qf4_9, .int v4_10, .ref qf4_11, .ref qf4_12, .ref qf4_13, .int v4_14, .int v4_15])), (qf4_0, .inl (cf4_0, 1500, .inl f4_0))]) (w1 := [(qf3, .inr (6, [.ref qf3_0, .ref qf3_1, .ref qf3_2, .ref qf3_3, .int u2_3, .int u2_4, .ref qf3_6, .int v3_7])), (qf3_1, .inr (2, [.ref qf3_1_0, .ref qf3_1_1, .int v3_1_2, .ref qf3_1_3, .ref qf3_1_4, .ref qf3_1_5, .ref qf3_1_6, .ref qf3_1_7, .ref qf3_1_8, .ref qf3_1_9, .ref qf3_1_10, .ref qf3_1_11, .ref qf3_1_12, .ref qf3_1_13, .ref qf3_1_14, .ref qf3_1_15, .ref qf3_1_16, .ref qf3_1_17, .ref qf3_1_18, .ref qf3_1_19, .int v3_1_20])), (qf3_1_18, .inl (cf3_1_18, 32, .inl f3_1_18)), (qf3_2, .inl (cf3_2, 201, .inl g902_1)), (qf3_3, .inl (cf3_3, 201, .inl g902_2)), (qf3_1_6, .inl (cf3_1_6, 96, .inl f3_1_6)), (qf3_1_8, .inl (cf3_1_8, 96, .inl f3_1_8))]) hP hD [3, 4, 5, 6, 7, 8, 9] [0, 1, 2] rfl rfl (by decide) (by decide) hk1 hFc hP1 hD1
    clear hP hD
    obtain ⟨hP, hD⟩ := hPD
    replace hK := (hK.sub (tys' := [(cf4_0, .byte)]) [0] rfl).app hK1
    clear hPc hDc hKc hFc hP1 hK1 hD1 hz1 hk1 ht hvm
    generalize H1 = H at hP hS ⊢
    replace hP : va_P (dC, dI) vwCl [(h0, .inr (0, [.ref qf0, .ref qf1, .ref qf2, .ref qf3, .ref qf4, .ref qf5, .ref qf6, .int v7, .int v8, .int v9, .int v10, .ref qf11, .int v12])), (qf4, .inr (1, [.ref qf4_0, .int v4_1, .ref qf4_2, .int v4_3, .int v4_4, .ref qf4_5, .ref qf4_6, .int v4_7, .int v4_8, .ref qf4_9, .int v4_10, .ref qf4_11, .ref qf4_12, .ref qf4_13, .int v4_14, .int v4_15])), (qf4_0, .inl (cf4_0, 1500, .inl f4_0)), (qf3, .inr (6, [.ref qf3_0, .ref qf3_1, .ref qf3_2, .ref qf3_3, .int u2_3, .int u2_4, .ref qf3_6, .int v3_7])), (qf3_1, .inr (2, [.ref qf3_1_0, .ref qf3_1_1, .int v3_1_2, .ref qf3_1_3, .ref qf3_1_4, .ref qf3_1_5, .ref qf3_1_6, .ref qf3_1_7, .ref qf3_1_8, .ref qf3_1_9, .ref qf3_1_10, .ref qf3_1_11, .ref qf3_1_12, .ref qf3_1_13, .ref qf3_1_14, .ref qf3_1_15, .ref qf3_1_16, .ref qf3_1_17, .ref qf3_1_18, .ref qf3_1_19, .int v3_1_20])), (qf3_1_18, .inl (cf3_1_18, 32, .inl f3_1_18)), (qf3_2, .inl (cf3_2, 201, .inl g902_1)), (qf3_3, .inl (cf3_3, 201, .inl g902_2)), (qf3_1_6, .inl (cf3_1_6, 96, .inl f3_1_6)), (qf3_1_8, .inl (cf3_1_8, 96, .inl f3_1_8))] H := hP
    replace hD : va_D A [(h0, .inr (0, [.ref qf0, .ref qf1, .ref qf2, .ref qf3, .ref qf4, .ref qf5, .ref qf6, .int v7, .int v8, .int v9, .int v10, .ref qf11, .int v12])), (qf4, .inr (1, [.ref qf4_0, .int v4_1, .ref qf4_2, .int v4_3, .int v4_4, .ref qf4_5, .ref qf4_6, .int v4_7, .int v4_8, .ref qf4_9, .int v4_10, .ref qf4_11, .ref qf4_12, .ref qf4_13, .int v4_14, .int v4_15])), (qf4_0, .inl (cf4_0, 1500, .inl f4_0)), (qf3, .inr (6, [.ref qf3_0, .ref qf3_1, .ref qf3_2, .ref qf3_3, .int u2_3, .int u2_4, .ref qf3_6, .int v3_7])), (qf3_1, .inr (2, [.ref qf3_1_0, .ref qf3_1_1, .int v3_1_2, .ref qf3_1_3, .ref qf3_1_4, .ref qf3_1_5, .ref qf3_1_6, .ref qf3_1_7, .ref qf3_1_8, .ref qf3_1_9, .ref qf3_1_10, .ref qf3_1_11, .ref qf3_1_12, .ref qf3_1_13, .ref qf3_1_14, .ref qf3_1_15, .ref qf3_1_16, .ref qf3_1_17, .ref qf3_1_18, .ref qf3_1_19, .int v3_1_20])), (qf3_1_18, .inl (cf3_1_18, 32, .inl f3_1_18)), (qf3_2, .inl (cf3_2, 201, .inl g902_1)), (qf3_3, .inl (cf3_3, 201, .inl g902_2)), (qf3_1_6, .inl (cf3_1_6, 96, .inl f3_1_6)), (qf3_1_8, .inl (cf3_1_8, 96, .inl f3_1_8))] := hD
    replace hK : va_K (dC, dI) vwCl [(cf4_0, .byte), (cf3_1_18, .int), (cf3_2, .int), (cf3_3, .int), (cf3_1_6, .int), (cf3_1_8, .int)] s := hK
    obtain rfl := hw
    obtain ⟨⟨g903_0, u3_1⟩, hu_3, hsp⟩ := ox_bind hsp
    try dsimp only at hsp
    have hPc := hP.sub (ws' := [(qf4, .inr (1, [.ref qf4_0, .int v4_1, .ref qf4_2, .int v4_3, .int v4_4, .ref qf4_5, .ref qf4_6, .int v4_7, .int v4_8, .ref qf4_9, .int v4_10, .ref qf4_11, .ref qf4_12, .ref qf4_13, .int v4_14, .int v4_15])), (qf4_0, .inl (cf4_0, 1500, .inl f4_0))]) [1, 2] rfl
    have hDc := hD.sub (ws' := [(qf4, .inr (1, [.ref qf4_0, .int v4_1, .ref qf4_2, .int v4_3, .int v4_4, .ref qf4_5, .ref qf4_6, .int v4_7, .int v4_8, .ref qf4_9, .int v4_10, .ref qf4_11, .ref qf4_12, .ref qf4_13, .int v4_14, .int v4_15])), (qf4_0, .inl (cf4_0, 1500, .inl f4_0))]) [1, 2] (by decide) rfl
    have hKc := hK.sub (tys' := [(cf4_0, .byte)]) [0] rfl
    have hFc := va_free (wc := [(qf4, .inr (1, [.ref qf4_0, .int v4_1, .ref qf4_2, .int v4_3, .int v4_4, .ref qf4_5, .ref qf4_6, .int v4_7, .int v4_8, .ref qf4_9, .int v4_10, .ref qf4_11, .ref qf4_12, .ref qf4_13, .int v4_14, .int v4_15])), (qf4_0, .inl (cf4_0, 1500, .inl f4_0))]) hD hS hA [1, 2] rfl
    refine va_callv (va_runV (As := [.int 181, .int u2_0]) (rest := []) ⟨hx, hb, hml, hown, hts⟩ (t1_op_ l dC dI H.size qf4 181 u2_0 qf4_0 v4_1 qf4_2 v4_3 v4_4 qf4_5 qf4_6 v4_7 v4_8 qf4_9 v4_10 qf4_11 qf4_12 qf4_13 v4_14 v4_15 cf4_0 f4_0 nf g903_0 u3_1 hu_3) (cwV 2 hts gv_h4_121 rfl rfl rfl (by decide +kernel) ⟨Nat.le_of_ble_eq_true rfl, Nat.le_of_ble_eq_true rfl⟩) ⟨fun a U g mk q => by obtain ⟨q0, q1, qP, qK, qD⟩ := q; exact ⟨q0, q1, qP, va_K.moved (u := U) (U := U.calling g mk a) (Vm.Alike.refl U.vm) qK, qD⟩, va_recv hKc hPc (ci := 1) (q0 := 0) rfl rfl, fun U hU hW => ⟨rfl, by rw [hU], by rw [hU]; exact hPc, va_K.moved hW.alike hKc, hDc.weaken (fun _ _ _ _ => trivial)⟩⟩ rfl rfl hl.1 rfl (lv_room (Nat.le_of_ble_eq_true rfl)) dX0_closeGiving_58 ⟨Nat.le_of_ble_eq_true rfl, Nat.le_of_ble_eq_true rfl⟩) hS (fun q _ h => hFc q h) hFc ?_
    clear hS
    intro u t H1 locs ht hvm hw hB hz1 hk1 hS
    obtain ⟨⟩ := u
    obtain ⟨hP1, hK1, hD1⟩ := hB
    rw [ht] at hP1
    have hK1 := va_K.moved hvm.symm hK1
    try dsimp only at hw
    have hPD := va_join (wr := [(h0, .inr (0, [.ref qf0, .ref qf1, .ref qf2, .ref qf3, .ref qf4, .ref qf5, .ref qf6, .int v7, .int v8, .int v9, .int v10, .ref qf11, .int v12])), (qf3, .inr (6, [.ref qf3_0, .ref qf3_1, .ref qf3_2, .ref qf3_3, .int u2_3, .int u2_4, .ref qf3_6, .int v3_7])), (qf3_1, .inr (2, [.ref qf3_1_0, .ref qf3_1_1, .int v3_1_2, .ref qf3_1_3, .ref qf3_1_4, .ref qf3_1_5, .ref qf3_1_6, .ref qf3_1_7, .ref qf3_1_8, .ref qf3_1_9, .ref qf3_1_10, .ref qf3_1_11, .ref qf3_1_12, .ref qf3_1_13, .ref qf3_1_14, .ref qf3_1_15, .ref qf3_1_16, .ref qf3_1_17, .ref qf3_1_18, .ref qf3_1_19, .int v3_1_20])), (qf3_1_18, .inl (cf3_1_18, 32, .inl f3_1_18)), (qf3_2, .inl (cf3_2, 201, .inl g902_1)), (qf3_3, .inl (cf3_3, 201, .inl g902_2)), (qf3_1_6, .inl (cf3_1_6, 96, .inl f3_1_6)), (qf3_1_8, .inl (cf3_1_8, 96, .inl f3_1_8))]) (w1 := [(qf4, .inr (1, [.ref qf4_0, .int u3_1, .ref qf4_2, .int v4_3, .int v4_4, .ref qf4_5, .ref qf4_6, .int v4_7, .int v4_8, .ref qf4_9, .int v4_10, .ref qf4_11, .ref qf4_12, .ref qf4_13, .int v4_14, .int v4_15])), (qf4_0, .inl (cf4_0, 1500, .inl g903_0))]) hP hD [1, 2] [0, 3, 4, 5, 6, 7, 8, 9] rfl rfl (by decide) (by decide) hk1 hFc hP1 hD1
    clear hP hD
    obtain ⟨hP, hD⟩ := hPD
    replace hK := (hK.sub (tys' := [(cf3_1_18, .int), (cf3_2, .int), (cf3_3, .int), (cf3_1_6, .int), (cf3_1_8, .int)]) [1, 2, 3, 4, 5] rfl).app hK1
    clear hPc hDc hKc hFc hP1 hK1 hD1 hz1 hk1 ht hvm
    generalize H1 = H at hP hS ⊢
    replace hP : va_P (dC, dI) vwCl [(h0, .inr (0, [.ref qf0, .ref qf1, .ref qf2, .ref qf3, .ref qf4, .ref qf5, .ref qf6, .int v7, .int v8, .int v9, .int v10, .ref qf11, .int v12])), (qf3, .inr (6, [.ref qf3_0, .ref qf3_1, .ref qf3_2, .ref qf3_3, .int u2_3, .int u2_4, .ref qf3_6, .int v3_7])), (qf3_1, .inr (2, [.ref qf3_1_0, .ref qf3_1_1, .int v3_1_2, .ref qf3_1_3, .ref qf3_1_4, .ref qf3_1_5, .ref qf3_1_6, .ref qf3_1_7, .ref qf3_1_8, .ref qf3_1_9, .ref qf3_1_10, .ref qf3_1_11, .ref qf3_1_12, .ref qf3_1_13, .ref qf3_1_14, .ref qf3_1_15, .ref qf3_1_16, .ref qf3_1_17, .ref qf3_1_18, .ref qf3_1_19, .int v3_1_20])), (qf3_1_18, .inl (cf3_1_18, 32, .inl f3_1_18)), (qf3_2, .inl (cf3_2, 201, .inl g902_1)), (qf3_3, .inl (cf3_3, 201, .inl g902_2)), (qf3_1_6, .inl (cf3_1_6, 96, .inl f3_1_6)), (qf3_1_8, .inl (cf3_1_8, 96, .inl f3_1_8)), (qf4, .inr (1, [.ref qf4_0, .int u3_1, .ref qf4_2, .int v4_3, .int v4_4, .ref qf4_5, .ref qf4_6, .int v4_7, .int v4_8, .ref qf4_9, .int v4_10, .ref qf4_11, .ref qf4_12, .ref qf4_13, .int v4_14, .int v4_15])), (qf4_0, .inl (cf4_0, 1500, .inl g903_0))] H := hP
    replace hD : va_D A [(h0, .inr (0, [.ref qf0, .ref qf1, .ref qf2, .ref qf3, .ref qf4, .ref qf5, .ref qf6, .int v7, .int v8, .int v9, .int v10, .ref qf11, .int v12])), (qf3, .inr (6, [.ref qf3_0, .ref qf3_1, .ref qf3_2, .ref qf3_3, .int u2_3, .int u2_4, .ref qf3_6, .int v3_7])), (qf3_1, .inr (2, [.ref qf3_1_0, .ref qf3_1_1, .int v3_1_2, .ref qf3_1_3, .ref qf3_1_4, .ref qf3_1_5, .ref qf3_1_6, .ref qf3_1_7, .ref qf3_1_8, .ref qf3_1_9, .ref qf3_1_10, .ref qf3_1_11, .ref qf3_1_12, .ref qf3_1_13, .ref qf3_1_14, .ref qf3_1_15, .ref qf3_1_16, .ref qf3_1_17, .ref qf3_1_18, .ref qf3_1_19, .int v3_1_20])), (qf3_1_18, .inl (cf3_1_18, 32, .inl f3_1_18)), (qf3_2, .inl (cf3_2, 201, .inl g902_1)), (qf3_3, .inl (cf3_3, 201, .inl g902_2)), (qf3_1_6, .inl (cf3_1_6, 96, .inl f3_1_6)), (qf3_1_8, .inl (cf3_1_8, 96, .inl f3_1_8)), (qf4, .inr (1, [.ref qf4_0, .int u3_1, .ref qf4_2, .int v4_3, .int v4_4, .ref qf4_5, .ref qf4_6, .int v4_7, .int v4_8, .ref qf4_9, .int v4_10, .ref qf4_11, .ref qf4_12, .ref qf4_13, .int v4_14, .int v4_15])), (qf4_0, .inl (cf4_0, 1500, .inl g903_0))] := hD
    replace hK : va_K (dC, dI) vwCl [(cf3_1_18, .int), (cf3_2, .int), (cf3_3, .int), (cf3_1_6, .int), (cf3_1_8, .int), (cf4_0, .byte)] s := hK
    refine lv_aload_n hx hb dX0_closeGiving_61 rfl (lv_at hl 0 rfl) ?_
    refine va_get (D := (dC, dI)) (ci := 0) (v := .ref qf4) (C := RX0) (T := TX0) (N := 13) hx hb hts uV_h4_X0 hown hK hP 0 rfl rfl 4 (by decide) (hts (.fieldLink RX0 16 "ClassMill$Bodies" "code" "LClassMill$Code;") mw_h4_444) (fun _ h9 => h9) rfl dX0_closeGiving_62 ?_
    refine lv_iconst (v := 2) hx hb dX0_closeGiving_65 (by decide) ?_
    obtain ⟨u4_0, hu_4, hsp⟩ := ox_bind hsp
    try dsimp only at hsp
    have hPc := hP.sub (ws' := [(qf4, .inr (1, [.ref qf4_0, .int u3_1, .ref qf4_2, .int v4_3, .int v4_4, .ref qf4_5, .ref qf4_6, .int v4_7, .int v4_8, .ref qf4_9, .int v4_10, .ref qf4_11, .ref qf4_12, .ref qf4_13, .int v4_14, .int v4_15]))]) [8] rfl
    have hDc := hD.sub (ws' := [(qf4, .inr (1, [.ref qf4_0, .int u3_1, .ref qf4_2, .int v4_3, .int v4_4, .ref qf4_5, .ref qf4_6, .int v4_7, .int v4_8, .ref qf4_9, .int v4_10, .ref qf4_11, .ref qf4_12, .ref qf4_13, .int v4_14, .int v4_15]))]) [8] (by decide) rfl
    have hKc := hK.sub (tys' := []) [] rfl
    have hFc := va_free (wc := [(qf4, .inr (1, [.ref qf4_0, .int u3_1, .ref qf4_2, .int v4_3, .int v4_4, .ref qf4_5, .ref qf4_6, .int v4_7, .int v4_8, .ref qf4_9, .int v4_10, .ref qf4_11, .ref qf4_12, .ref qf4_13, .int v4_14, .int v4_15]))]) hD hS hA [8] rfl
    refine va_callv (va_runV (As := [.int 2]) (rest := []) ⟨hx, hb, hml, hown, hts⟩ (t1_pop l dC dI H.size qf4 2 qf4_0 u3_1 qf4_2 v4_3 v4_4 qf4_5 qf4_6 v4_7 v4_8 qf4_9 v4_10 qf4_11 qf4_12 qf4_13 v4_14 v4_15 nf u4_0 hu_4) (cwV 1 hts gv_h4_118 rfl rfl rfl (by decide +kernel) ⟨Nat.le_of_ble_eq_true rfl, Nat.le_of_ble_eq_true rfl⟩) ⟨fun a U g mk q => by obtain ⟨q0, q1, qP, qK, qD⟩ := q; exact ⟨q0, q1, qP, va_K.moved (u := U) (U := U.calling g mk a) (Vm.Alike.refl U.vm) qK, qD⟩, va_recv hKc hPc (ci := 1) (q0 := 0) rfl rfl, fun U hU hW => ⟨rfl, by rw [hU], by rw [hU]; exact hPc, va_K.moved hW.alike hKc, hDc.weaken (fun _ _ _ _ => trivial)⟩⟩ rfl rfl hl.1 rfl (lv_room (Nat.le_of_ble_eq_true rfl)) dX0_closeGiving_66 ⟨Nat.le_of_ble_eq_true rfl, Nat.le_of_ble_eq_true rfl⟩) hS (fun q _ h => hFc q h) hFc ?_
    clear hS
    intro u t H1 locs ht hvm hw hB hz1 hk1 hS
    obtain ⟨⟩ := u
    obtain ⟨hP1, hK1, hD1⟩ := hB
    rw [ht] at hP1
    have hK1 := va_K.moved hvm.symm hK1
    try dsimp only at hw
    have hPD := va_join (wr := [(h0, .inr (0, [.ref qf0, .ref qf1, .ref qf2, .ref qf3, .ref qf4, .ref qf5, .ref qf6, .int v7, .int v8, .int v9, .int v10, .ref qf11, .int v12])), (qf3, .inr (6, [.ref qf3_0, .ref qf3_1, .ref qf3_2, .ref qf3_3, .int u2_3, .int u2_4, .ref qf3_6, .int v3_7])), (qf3_1, .inr (2, [.ref qf3_1_0, .ref qf3_1_1, .int v3_1_2, .ref qf3_1_3, .ref qf3_1_4, .ref qf3_1_5, .ref qf3_1_6, .ref qf3_1_7, .ref qf3_1_8, .ref qf3_1_9, .ref qf3_1_10, .ref qf3_1_11, .ref qf3_1_12, .ref qf3_1_13, .ref qf3_1_14, .ref qf3_1_15, .ref qf3_1_16, .ref qf3_1_17, .ref qf3_1_18, .ref qf3_1_19, .int v3_1_20])), (qf3_1_18, .inl (cf3_1_18, 32, .inl f3_1_18)), (qf3_2, .inl (cf3_2, 201, .inl g902_1)), (qf3_3, .inl (cf3_3, 201, .inl g902_2)), (qf3_1_6, .inl (cf3_1_6, 96, .inl f3_1_6)), (qf3_1_8, .inl (cf3_1_8, 96, .inl f3_1_8)), (qf4_0, .inl (cf4_0, 1500, .inl g903_0))]) (w1 := [(qf4, .inr (1, [.ref qf4_0, .int u3_1, .ref qf4_2, .int u4_0, .int v4_4, .ref qf4_5, .ref qf4_6, .int v4_7, .int v4_8, .ref qf4_9, .int v4_10, .ref qf4_11, .ref qf4_12, .ref qf4_13, .int v4_14, .int v4_15]))]) hP hD [8] [0, 1, 2, 3, 4, 5, 6, 7, 9] rfl rfl (by decide) (by decide) hk1 hFc hP1 hD1
    clear hP hD
    obtain ⟨hP, hD⟩ := hPD
    replace hK := (hK.sub (tys' := [(cf3_1_18, .int), (cf3_2, .int), (cf3_3, .int), (cf3_1_6, .int), (cf3_1_8, .int), (cf4_0, .byte)]) [0, 1, 2, 3, 4, 5] rfl).app hK1
    clear hPc hDc hKc hFc hP1 hK1 hD1 hz1 hk1 ht hvm
    generalize H1 = H at hP hS ⊢
    replace hP : va_P (dC, dI) vwCl [(h0, .inr (0, [.ref qf0, .ref qf1, .ref qf2, .ref qf3, .ref qf4, .ref qf5, .ref qf6, .int v7, .int v8, .int v9, .int v10, .ref qf11, .int v12])), (qf3, .inr (6, [.ref qf3_0, .ref qf3_1, .ref qf3_2, .ref qf3_3, .int u2_3, .int u2_4, .ref qf3_6, .int v3_7])), (qf3_1, .inr (2, [.ref qf3_1_0, .ref qf3_1_1, .int v3_1_2, .ref qf3_1_3, .ref qf3_1_4, .ref qf3_1_5, .ref qf3_1_6, .ref qf3_1_7, .ref qf3_1_8, .ref qf3_1_9, .ref qf3_1_10, .ref qf3_1_11, .ref qf3_1_12, .ref qf3_1_13, .ref qf3_1_14, .ref qf3_1_15, .ref qf3_1_16, .ref qf3_1_17, .ref qf3_1_18, .ref qf3_1_19, .int v3_1_20])), (qf3_1_18, .inl (cf3_1_18, 32, .inl f3_1_18)), (qf3_2, .inl (cf3_2, 201, .inl g902_1)), (qf3_3, .inl (cf3_3, 201, .inl g902_2)), (qf3_1_6, .inl (cf3_1_6, 96, .inl f3_1_6)), (qf3_1_8, .inl (cf3_1_8, 96, .inl f3_1_8)), (qf4_0, .inl (cf4_0, 1500, .inl g903_0)), (qf4, .inr (1, [.ref qf4_0, .int u3_1, .ref qf4_2, .int u4_0, .int v4_4, .ref qf4_5, .ref qf4_6, .int v4_7, .int v4_8, .ref qf4_9, .int v4_10, .ref qf4_11, .ref qf4_12, .ref qf4_13, .int v4_14, .int v4_15]))] H := hP
    replace hD : va_D A [(h0, .inr (0, [.ref qf0, .ref qf1, .ref qf2, .ref qf3, .ref qf4, .ref qf5, .ref qf6, .int v7, .int v8, .int v9, .int v10, .ref qf11, .int v12])), (qf3, .inr (6, [.ref qf3_0, .ref qf3_1, .ref qf3_2, .ref qf3_3, .int u2_3, .int u2_4, .ref qf3_6, .int v3_7])), (qf3_1, .inr (2, [.ref qf3_1_0, .ref qf3_1_1, .int v3_1_2, .ref qf3_1_3, .ref qf3_1_4, .ref qf3_1_5, .ref qf3_1_6, .ref qf3_1_7, .ref qf3_1_8, .ref qf3_1_9, .ref qf3_1_10, .ref qf3_1_11, .ref qf3_1_12, .ref qf3_1_13, .ref qf3_1_14, .ref qf3_1_15, .ref qf3_1_16, .ref qf3_1_17, .ref qf3_1_18, .ref qf3_1_19, .int v3_1_20])), (qf3_1_18, .inl (cf3_1_18, 32, .inl f3_1_18)), (qf3_2, .inl (cf3_2, 201, .inl g902_1)), (qf3_3, .inl (cf3_3, 201, .inl g902_2)), (qf3_1_6, .inl (cf3_1_6, 96, .inl f3_1_6)), (qf3_1_8, .inl (cf3_1_8, 96, .inl f3_1_8)), (qf4_0, .inl (cf4_0, 1500, .inl g903_0)), (qf4, .inr (1, [.ref qf4_0, .int u3_1, .ref qf4_2, .int u4_0, .int v4_4, .ref qf4_5, .ref qf4_6, .int v4_7, .int v4_8, .ref qf4_9, .int v4_10, .ref qf4_11, .ref qf4_12, .ref qf4_13, .int v4_14, .int v4_15]))] := hD
    replace hK : va_K (dC, dI) vwCl [(cf3_1_18, .int), (cf3_2, .int), (cf3_3, .int), (cf3_1_6, .int), (cf3_1_8, .int), (cf4_0, .byte)] s := hK
    refine lv_goto (tgt := 101) hx hb dX0_closeGiving_69 (by decide) ?_
    have hr0 := Option.some.inj hsp
    clear hsp
    obtain ⟨hq0, hr1⟩ := Prod.mk.inj hr0
    clear hr0
    obtain ⟨hq1, hr2⟩ := Prod.mk.inj hr1
    clear hr1
    obtain ⟨hq2, hr3⟩ := Prod.mk.inj hr2
    clear hr2
    obtain ⟨hq3, hr4⟩ := Prod.mk.inj hr3
    clear hr3
    obtain ⟨hq4, hr5⟩ := Prod.mk.inj hr4
    clear hr4
    obtain ⟨hq5, hr6⟩ := Prod.mk.inj hr5
    clear hr5
    subst hq0
    subst hq1
    subst hq2
    subst hq3
    subst hq4
    subst hq5
    subst hr6
    have hP9 := hP.sub (ws' := [(h0, .inr (0, [.ref qf0, .ref qf1, .ref qf2, .ref qf3, .ref qf4, .ref qf5, .ref qf6, .int v7, .int v8, .int v9, .int v10, .ref qf11, .int v12])), (qf4, .inr (1, [.ref qf4_0, .int u3_1, .ref qf4_2, .int u4_0, .int v4_4, .ref qf4_5, .ref qf4_6, .int v4_7, .int v4_8, .ref qf4_9, .int v4_10, .ref qf4_11, .ref qf4_12, .ref qf4_13, .int v4_14, .int v4_15])), (qf4_0, .inl (cf4_0, 1500, .inl g903_0)), (qf3, .inr (6, [.ref qf3_0, .ref qf3_1, .ref qf3_2, .ref qf3_3, .int u2_3, .int u2_4, .ref qf3_6, .int v3_7])), (qf3_1, .inr (2, [.ref qf3_1_0, .ref qf3_1_1, .int v3_1_2, .ref qf3_1_3, .ref qf3_1_4, .ref qf3_1_5, .ref qf3_1_6, .ref qf3_1_7, .ref qf3_1_8, .ref qf3_1_9, .ref qf3_1_10, .ref qf3_1_11, .ref qf3_1_12, .ref qf3_1_13, .ref qf3_1_14, .ref qf3_1_15, .ref qf3_1_16, .ref qf3_1_17, .ref qf3_1_18, .ref qf3_1_19, .int v3_1_20])), (qf3_1_18, .inl (cf3_1_18, 32, .inl f3_1_18)), (qf3_2, .inl (cf3_2, 201, .inl g902_1)), (qf3_3, .inl (cf3_3, 201, .inl g902_2)), (qf3_1_6, .inl (cf3_1_6, 96, .inl f3_1_6)), (qf3_1_8, .inl (cf3_1_8, 96, .inl f3_1_8))]) [0, 9, 8, 1, 2, 3, 4, 5, 6, 7] rfl
    have hD9 := hD.sub (ws' := [(h0, .inr (0, [.ref qf0, .ref qf1, .ref qf2, .ref qf3, .ref qf4, .ref qf5, .ref qf6, .int v7, .int v8, .int v9, .int v10, .ref qf11, .int v12])), (qf4, .inr (1, [.ref qf4_0, .int u3_1, .ref qf4_2, .int u4_0, .int v4_4, .ref qf4_5, .ref qf4_6, .int v4_7, .int v4_8, .ref qf4_9, .int v4_10, .ref qf4_11, .ref qf4_12, .ref qf4_13, .int v4_14, .int v4_15])), (qf4_0, .inl (cf4_0, 1500, .inl g903_0)), (qf3, .inr (6, [.ref qf3_0, .ref qf3_1, .ref qf3_2, .ref qf3_3, .int u2_3, .int u2_4, .ref qf3_6, .int v3_7])), (qf3_1, .inr (2, [.ref qf3_1_0, .ref qf3_1_1, .int v3_1_2, .ref qf3_1_3, .ref qf3_1_4, .ref qf3_1_5, .ref qf3_1_6, .ref qf3_1_7, .ref qf3_1_8, .ref qf3_1_9, .ref qf3_1_10, .ref qf3_1_11, .ref qf3_1_12, .ref qf3_1_13, .ref qf3_1_14, .ref qf3_1_15, .ref qf3_1_16, .ref qf3_1_17, .ref qf3_1_18, .ref qf3_1_19, .int v3_1_20])), (qf3_1_18, .inl (cf3_1_18, 32, .inl f3_1_18)), (qf3_2, .inl (cf3_2, 201, .inl g902_1)), (qf3_3, .inl (cf3_3, 201, .inl g902_2)), (qf3_1_6, .inl (cf3_1_6, 96, .inl f3_1_6)), (qf3_1_8, .inl (cf3_1_8, 96, .inl f3_1_8))]) [0, 9, 8, 1, 2, 3, 4, 5, 6, 7] (by decide) rfl
    have hK9 := hK.sub (tys' := [(cf4_0, .byte), (cf3_1_18, .int), (cf3_2, .int), (cf3_3, .int), (cf3_1_6, .int), (cf3_1_8, .int)]) [5, 0, 1, 2, 3, 4] rfl
    exact W.vret hx hb hr (fun t ht hW => ⟨⟨(), rfl, trivial, by rw [ht]; exact hP9, va_K.moved hW.alike hK9, hD9⟩, hS.F ht⟩) hS.2.2 dX0_closeGiving_101
  rw [if_neg hs_2] at hsp
  refine lv_lookup (tgt := 72) hx hb dX0_closeGiving_1 (by decide) (off := 71) (by show Op.lookupswitch.offset [(2, 27), (3, 40)] 71 (a1 : Int32).toInt = 71; rw [lv_osw hs_1 (a := 2) rfl, lv_osw hs_2 (a := 3) rfl]; rfl) (by decide) ?_
  refine lv_aload_n hx hb dX0_closeGiving_72 rfl (lv_at hl 0 rfl) ?_
  refine va_get (D := (dC, dI)) (ci := 0) (v := .ref qf4) (C := RX0) (T := TX0) (N := 13) hx hb hts uV_h4_X0 hown hK hP 0 rfl rfl 4 (by decide) (hts (.fieldLink RX0 16 "ClassMill$Bodies" "code" "LClassMill$Code;") mw_h4_444) (fun _ h9 => h9) rfl dX0_closeGiving_73 ?_
  refine lv_iload_n hx hb dX0_closeGiving_76 rfl (lv_at hl 2 rfl) ?_
  refine lv_sipush (v := 301) hx hb dX0_closeGiving_77 (by decide) ?_
  refine lv_icmp_ne (tgt := 88) hx hb dX0_closeGiving_80 (by decide) (fun c_4 => ?_) (fun c_4 => ?_)
  · rw [if_neg c_4] at hsp
    refine lv_bipush (v := 83) hx hb dX0_closeGiving_88 (by decide) ?_
    obtain ⟨⟨g905_0, u5_1⟩, hu_5, hsp⟩ := ox_bind hsp
    try dsimp only at hsp
    have hPc := hP.sub (ws' := [(qf4, .inr (1, [.ref qf4_0, .int v4_1, .ref qf4_2, .int v4_3, .int v4_4, .ref qf4_5, .ref qf4_6, .int v4_7, .int v4_8, .ref qf4_9, .int v4_10, .ref qf4_11, .ref qf4_12, .ref qf4_13, .int v4_14, .int v4_15])), (qf4_0, .inl (cf4_0, 1500, .inl f4_0))]) [1, 2] rfl
    have hDc := hD.sub (ws' := [(qf4, .inr (1, [.ref qf4_0, .int v4_1, .ref qf4_2, .int v4_3, .int v4_4, .ref qf4_5, .ref qf4_6, .int v4_7, .int v4_8, .ref qf4_9, .int v4_10, .ref qf4_11, .ref qf4_12, .ref qf4_13, .int v4_14, .int v4_15])), (qf4_0, .inl (cf4_0, 1500, .inl f4_0))]) [1, 2] (by decide) rfl
    have hKc := hK.sub (tys' := [(cf4_0, .byte)]) [0] rfl
    have hFc := va_free (wc := [(qf4, .inr (1, [.ref qf4_0, .int v4_1, .ref qf4_2, .int v4_3, .int v4_4, .ref qf4_5, .ref qf4_6, .int v4_7, .int v4_8, .ref qf4_9, .int v4_10, .ref qf4_11, .ref qf4_12, .ref qf4_13, .int v4_14, .int v4_15])), (qf4_0, .inl (cf4_0, 1500, .inl f4_0))]) hD hS hA [1, 2] rfl
    refine va_callv (va_runV (As := [.int 83]) (rest := []) ⟨hx, hb, hml, hown, hts⟩ (t1_op l dC dI H.size qf4 83 qf4_0 v4_1 qf4_2 v4_3 v4_4 qf4_5 qf4_6 v4_7 v4_8 qf4_9 v4_10 qf4_11 qf4_12 qf4_13 v4_14 v4_15 cf4_0 f4_0 nf g905_0 u5_1 hu_5) (cwV 1 hts gv_h4_113 rfl rfl rfl (by decide +kernel) ⟨Nat.le_of_ble_eq_true rfl, Nat.le_of_ble_eq_true rfl⟩) ⟨fun a U g mk q => by obtain ⟨q0, q1, qP, qK, qD⟩ := q; exact ⟨q0, q1, qP, va_K.moved (u := U) (U := U.calling g mk a) (Vm.Alike.refl U.vm) qK, qD⟩, va_recv hKc hPc (ci := 1) (q0 := 0) rfl rfl, fun U hU hW => ⟨rfl, by rw [hU], by rw [hU]; exact hPc, va_K.moved hW.alike hKc, hDc.weaken (fun _ _ _ _ => trivial)⟩⟩ rfl rfl hl.1 rfl (lv_room (Nat.le_of_ble_eq_true rfl)) dX0_closeGiving_90 ⟨Nat.le_of_ble_eq_true rfl, Nat.le_of_ble_eq_true rfl⟩) hS (fun q _ h => hFc q h) hFc ?_
    clear hS
    intro u t H1 locs ht hvm hw hB hz1 hk1 hS
    obtain ⟨⟩ := u
    obtain ⟨hP1, hK1, hD1⟩ := hB
    rw [ht] at hP1
    have hK1 := va_K.moved hvm.symm hK1
    try dsimp only at hw
    have hPD := va_join (wr := [(h0, .inr (0, [.ref qf0, .ref qf1, .ref qf2, .ref qf3, .ref qf4, .ref qf5, .ref qf6, .int v7, .int v8, .int v9, .int v10, .ref qf11, .int v12])), (qf3, .inr (6, [.ref qf3_0, .ref qf3_1, .ref qf3_2, .ref qf3_3, .int v3_4, .int v3_5, .ref qf3_6, .int v3_7])), (qf3_1, .inr (2, [.ref qf3_1_0, .ref qf3_1_1, .int v3_1_2, .ref qf3_1_3, .ref qf3_1_4, .ref qf3_1_5, .ref qf3_1_6, .ref qf3_1_7, .ref qf3_1_8, .ref qf3_1_9, .ref qf3_1_10, .ref qf3_1_11, .ref qf3_1_12, .ref qf3_1_13, .ref qf3_1_14, .ref qf3_1_15, .ref qf3_1_16, .ref qf3_1_17, .ref qf3_1_18, .ref qf3_1_19, .int v3_1_20])), (qf3_1_18, .inl (cf3_1_18, 32, .inl f3_1_18)), (qf3_2, .inl (cf3_2, 201, .inl f3_2)), (qf3_3, .inl (cf3_3, 201, .inl f3_3)), (qf3_1_6, .inl (cf3_1_6, 96, .inl f3_1_6)), (qf3_1_8, .inl (cf3_1_8, 96, .inl f3_1_8))]) (w1 := [(qf4, .inr (1, [.ref qf4_0, .int u5_1, .ref qf4_2, .int v4_3, .int v4_4, .ref qf4_5, .ref qf4_6, .int v4_7, .int v4_8, .ref qf4_9, .int v4_10, .ref qf4_11, .ref qf4_12, .ref qf4_13, .int v4_14, .int v4_15])), (qf4_0, .inl (cf4_0, 1500, .inl g905_0))]) hP hD [1, 2] [0, 3, 4, 5, 6, 7, 8, 9] rfl rfl (by decide) (by decide) hk1 hFc hP1 hD1
    clear hP hD
    obtain ⟨hP, hD⟩ := hPD
    replace hK := (hK.sub (tys' := [(cf3_1_18, .int), (cf3_2, .int), (cf3_3, .int), (cf3_1_6, .int), (cf3_1_8, .int)]) [1, 2, 3, 4, 5] rfl).app hK1
    clear hPc hDc hKc hFc hP1 hK1 hD1 hz1 hk1 ht hvm
    generalize H1 = H at hP hS ⊢
    replace hP : va_P (dC, dI) vwCl [(h0, .inr (0, [.ref qf0, .ref qf1, .ref qf2, .ref qf3, .ref qf4, .ref qf5, .ref qf6, .int v7, .int v8, .int v9, .int v10, .ref qf11, .int v12])), (qf3, .inr (6, [.ref qf3_0, .ref qf3_1, .ref qf3_2, .ref qf3_3, .int v3_4, .int v3_5, .ref qf3_6, .int v3_7])), (qf3_1, .inr (2, [.ref qf3_1_0, .ref qf3_1_1, .int v3_1_2, .ref qf3_1_3, .ref qf3_1_4, .ref qf3_1_5, .ref qf3_1_6, .ref qf3_1_7, .ref qf3_1_8, .ref qf3_1_9, .ref qf3_1_10, .ref qf3_1_11, .ref qf3_1_12, .ref qf3_1_13, .ref qf3_1_14, .ref qf3_1_15, .ref qf3_1_16, .ref qf3_1_17, .ref qf3_1_18, .ref qf3_1_19, .int v3_1_20])), (qf3_1_18, .inl (cf3_1_18, 32, .inl f3_1_18)), (qf3_2, .inl (cf3_2, 201, .inl f3_2)), (qf3_3, .inl (cf3_3, 201, .inl f3_3)), (qf3_1_6, .inl (cf3_1_6, 96, .inl f3_1_6)), (qf3_1_8, .inl (cf3_1_8, 96, .inl f3_1_8)), (qf4, .inr (1, [.ref qf4_0, .int u5_1, .ref qf4_2, .int v4_3, .int v4_4, .ref qf4_5, .ref qf4_6, .int v4_7, .int v4_8, .ref qf4_9, .int v4_10, .ref qf4_11, .ref qf4_12, .ref qf4_13, .int v4_14, .int v4_15])), (qf4_0, .inl (cf4_0, 1500, .inl g905_0))] H := hP
    replace hD : va_D A [(h0, .inr (0, [.ref qf0, .ref qf1, .ref qf2, .ref qf3, .ref qf4, .ref qf5, .ref qf6, .int v7, .int v8, .int v9, .int v10, .ref qf11, .int v12])), (qf3, .inr (6, [.ref qf3_0, .ref qf3_1, .ref qf3_2, .ref qf3_3, .int v3_4, .int v3_5, .ref qf3_6, .int v3_7])), (qf3_1, .inr (2, [.ref qf3_1_0, .ref qf3_1_1, .int v3_1_2, .ref qf3_1_3, .ref qf3_1_4, .ref qf3_1_5, .ref qf3_1_6, .ref qf3_1_7, .ref qf3_1_8, .ref qf3_1_9, .ref qf3_1_10, .ref qf3_1_11, .ref qf3_1_12, .ref qf3_1_13, .ref qf3_1_14, .ref qf3_1_15, .ref qf3_1_16, .ref qf3_1_17, .ref qf3_1_18, .ref qf3_1_19, .int v3_1_20])), (qf3_1_18, .inl (cf3_1_18, 32, .inl f3_1_18)), (qf3_2, .inl (cf3_2, 201, .inl f3_2)), (qf3_3, .inl (cf3_3, 201, .inl f3_3)), (qf3_1_6, .inl (cf3_1_6, 96, .inl f3_1_6)), (qf3_1_8, .inl (cf3_1_8, 96, .inl f3_1_8)), (qf4, .inr (1, [.ref qf4_0, .int u5_1, .ref qf4_2, .int v4_3, .int v4_4, .ref qf4_5, .ref qf4_6, .int v4_7, .int v4_8, .ref qf4_9, .int v4_10, .ref qf4_11, .ref qf4_12, .ref qf4_13, .int v4_14, .int v4_15])), (qf4_0, .inl (cf4_0, 1500, .inl g905_0))] := hD
    replace hK : va_K (dC, dI) vwCl [(cf3_1_18, .int), (cf3_2, .int), (cf3_3, .int), (cf3_1_6, .int), (cf3_1_8, .int), (cf4_0, .byte)] s := hK
    refine lv_aload_n hx hb dX0_closeGiving_93 rfl (lv_at hl 0 rfl) ?_
    refine va_get (D := (dC, dI)) (ci := 0) (v := .ref qf4) (C := RX0) (T := TX0) (N := 13) hx hb hts uV_h4_X0 hown hK hP 0 rfl rfl 4 (by decide) (hts (.fieldLink RX0 16 "ClassMill$Bodies" "code" "LClassMill$Code;") mw_h4_444) (fun _ h9 => h9) rfl dX0_closeGiving_94 ?_
    refine lv_iconst (v := 3) hx hb dX0_closeGiving_97 (by decide) ?_
    obtain ⟨u6_0, hu_6, hsp⟩ := ox_bind hsp
    try dsimp only at hsp
    have hPc := hP.sub (ws' := [(qf4, .inr (1, [.ref qf4_0, .int u5_1, .ref qf4_2, .int v4_3, .int v4_4, .ref qf4_5, .ref qf4_6, .int v4_7, .int v4_8, .ref qf4_9, .int v4_10, .ref qf4_11, .ref qf4_12, .ref qf4_13, .int v4_14, .int v4_15]))]) [8] rfl
    have hDc := hD.sub (ws' := [(qf4, .inr (1, [.ref qf4_0, .int u5_1, .ref qf4_2, .int v4_3, .int v4_4, .ref qf4_5, .ref qf4_6, .int v4_7, .int v4_8, .ref qf4_9, .int v4_10, .ref qf4_11, .ref qf4_12, .ref qf4_13, .int v4_14, .int v4_15]))]) [8] (by decide) rfl
    have hKc := hK.sub (tys' := []) [] rfl
    have hFc := va_free (wc := [(qf4, .inr (1, [.ref qf4_0, .int u5_1, .ref qf4_2, .int v4_3, .int v4_4, .ref qf4_5, .ref qf4_6, .int v4_7, .int v4_8, .ref qf4_9, .int v4_10, .ref qf4_11, .ref qf4_12, .ref qf4_13, .int v4_14, .int v4_15]))]) hD hS hA [8] rfl
    refine va_callv (va_runV (As := [.int 3]) (rest := []) ⟨hx, hb, hml, hown, hts⟩ (t1_pop l dC dI H.size qf4 3 qf4_0 u5_1 qf4_2 v4_3 v4_4 qf4_5 qf4_6 v4_7 v4_8 qf4_9 v4_10 qf4_11 qf4_12 qf4_13 v4_14 v4_15 nf u6_0 hu_6) (cwV 1 hts gv_h4_118 rfl rfl rfl (by decide +kernel) ⟨Nat.le_of_ble_eq_true rfl, Nat.le_of_ble_eq_true rfl⟩) ⟨fun a U g mk q => by obtain ⟨q0, q1, qP, qK, qD⟩ := q; exact ⟨q0, q1, qP, va_K.moved (u := U) (U := U.calling g mk a) (Vm.Alike.refl U.vm) qK, qD⟩, va_recv hKc hPc (ci := 1) (q0 := 0) rfl rfl, fun U hU hW => ⟨rfl, by rw [hU], by rw [hU]; exact hPc, va_K.moved hW.alike hKc, hDc.weaken (fun _ _ _ _ => trivial)⟩⟩ rfl rfl hl.1 rfl (lv_room (Nat.le_of_ble_eq_true rfl)) dX0_closeGiving_98 ⟨Nat.le_of_ble_eq_true rfl, Nat.le_of_ble_eq_true rfl⟩) hS (fun q _ h => hFc q h) hFc ?_
    clear hS
    intro u t H1 locs ht hvm hw hB hz1 hk1 hS
    obtain ⟨⟩ := u
    obtain ⟨hP1, hK1, hD1⟩ := hB
    rw [ht] at hP1
    have hK1 := va_K.moved hvm.symm hK1
    try dsimp only at hw
    have hPD := va_join (wr := [(h0, .inr (0, [.ref qf0, .ref qf1, .ref qf2, .ref qf3, .ref qf4, .ref qf5, .ref qf6, .int v7, .int v8, .int v9, .int v10, .ref qf11, .int v12])), (qf3, .inr (6, [.ref qf3_0, .ref qf3_1, .ref qf3_2, .ref qf3_3, .int v3_4, .int v3_5, .ref qf3_6, .int v3_7])), (qf3_1, .inr (2, [.ref qf3_1_0, .ref qf3_1_1, .int v3_1_2, .ref qf3_1_3, .ref qf3_1_4, .ref qf3_1_5, .ref qf3_1_6, .ref qf3_1_7, .ref qf3_1_8, .ref qf3_1_9, .ref qf3_1_10, .ref qf3_1_11, .ref qf3_1_12, .ref qf3_1_13, .ref qf3_1_14, .ref qf3_1_15, .ref qf3_1_16, .ref qf3_1_17, .ref qf3_1_18, .ref qf3_1_19, .int v3_1_20])), (qf3_1_18, .inl (cf3_1_18, 32, .inl f3_1_18)), (qf3_2, .inl (cf3_2, 201, .inl f3_2)), (qf3_3, .inl (cf3_3, 201, .inl f3_3)), (qf3_1_6, .inl (cf3_1_6, 96, .inl f3_1_6)), (qf3_1_8, .inl (cf3_1_8, 96, .inl f3_1_8)), (qf4_0, .inl (cf4_0, 1500, .inl g905_0))]) (w1 := [(qf4, .inr (1, [.ref qf4_0, .int u5_1, .ref qf4_2, .int u6_0, .int v4_4, .ref qf4_5, .ref qf4_6, .int v4_7, .int v4_8, .ref qf4_9, .int v4_10, .ref qf4_11, .ref qf4_12, .ref qf4_13, .int v4_14, .int v4_15]))]) hP hD [8] [0, 1, 2, 3, 4, 5, 6, 7, 9] rfl rfl (by decide) (by decide) hk1 hFc hP1 hD1
    clear hP hD
    obtain ⟨hP, hD⟩ := hPD
    replace hK := (hK.sub (tys' := [(cf3_1_18, .int), (cf3_2, .int), (cf3_3, .int), (cf3_1_6, .int), (cf3_1_8, .int), (cf4_0, .byte)]) [0, 1, 2, 3, 4, 5] rfl).app hK1
    clear hPc hDc hKc hFc hP1 hK1 hD1 hz1 hk1 ht hvm
    generalize H1 = H at hP hS ⊢
    replace hP : va_P (dC, dI) vwCl [(h0, .inr (0, [.ref qf0, .ref qf1, .ref qf2, .ref qf3, .ref qf4, .ref qf5, .ref qf6, .int v7, .int v8, .int v9, .int v10, .ref qf11, .int v12])), (qf3, .inr (6, [.ref qf3_0, .ref qf3_1, .ref qf3_2, .ref qf3_3, .int v3_4, .int v3_5, .ref qf3_6, .int v3_7])), (qf3_1, .inr (2, [.ref qf3_1_0, .ref qf3_1_1, .int v3_1_2, .ref qf3_1_3, .ref qf3_1_4, .ref qf3_1_5, .ref qf3_1_6, .ref qf3_1_7, .ref qf3_1_8, .ref qf3_1_9, .ref qf3_1_10, .ref qf3_1_11, .ref qf3_1_12, .ref qf3_1_13, .ref qf3_1_14, .ref qf3_1_15, .ref qf3_1_16, .ref qf3_1_17, .ref qf3_1_18, .ref qf3_1_19, .int v3_1_20])), (qf3_1_18, .inl (cf3_1_18, 32, .inl f3_1_18)), (qf3_2, .inl (cf3_2, 201, .inl f3_2)), (qf3_3, .inl (cf3_3, 201, .inl f3_3)), (qf3_1_6, .inl (cf3_1_6, 96, .inl f3_1_6)), (qf3_1_8, .inl (cf3_1_8, 96, .inl f3_1_8)), (qf4_0, .inl (cf4_0, 1500, .inl g905_0)), (qf4, .inr (1, [.ref qf4_0, .int u5_1, .ref qf4_2, .int u6_0, .int v4_4, .ref qf4_5, .ref qf4_6, .int v4_7, .int v4_8, .ref qf4_9, .int v4_10, .ref qf4_11, .ref qf4_12, .ref qf4_13, .int v4_14, .int v4_15]))] H := hP
    replace hD : va_D A [(h0, .inr (0, [.ref qf0, .ref qf1, .ref qf2, .ref qf3, .ref qf4, .ref qf5, .ref qf6, .int v7, .int v8, .int v9, .int v10, .ref qf11, .int v12])), (qf3, .inr (6, [.ref qf3_0, .ref qf3_1, .ref qf3_2, .ref qf3_3, .int v3_4, .int v3_5, .ref qf3_6, .int v3_7])), (qf3_1, .inr (2, [.ref qf3_1_0, .ref qf3_1_1, .int v3_1_2, .ref qf3_1_3, .ref qf3_1_4, .ref qf3_1_5, .ref qf3_1_6, .ref qf3_1_7, .ref qf3_1_8, .ref qf3_1_9, .ref qf3_1_10, .ref qf3_1_11, .ref qf3_1_12, .ref qf3_1_13, .ref qf3_1_14, .ref qf3_1_15, .ref qf3_1_16, .ref qf3_1_17, .ref qf3_1_18, .ref qf3_1_19, .int v3_1_20])), (qf3_1_18, .inl (cf3_1_18, 32, .inl f3_1_18)), (qf3_2, .inl (cf3_2, 201, .inl f3_2)), (qf3_3, .inl (cf3_3, 201, .inl f3_3)), (qf3_1_6, .inl (cf3_1_6, 96, .inl f3_1_6)), (qf3_1_8, .inl (cf3_1_8, 96, .inl f3_1_8)), (qf4_0, .inl (cf4_0, 1500, .inl g905_0)), (qf4, .inr (1, [.ref qf4_0, .int u5_1, .ref qf4_2, .int u6_0, .int v4_4, .ref qf4_5, .ref qf4_6, .int v4_7, .int v4_8, .ref qf4_9, .int v4_10, .ref qf4_11, .ref qf4_12, .ref qf4_13, .int v4_14, .int v4_15]))] := hD
    replace hK : va_K (dC, dI) vwCl [(cf3_1_18, .int), (cf3_2, .int), (cf3_3, .int), (cf3_1_6, .int), (cf3_1_8, .int), (cf4_0, .byte)] s := hK
    have hr0 := Option.some.inj hsp
    clear hsp
    obtain ⟨hq0, hr1⟩ := Prod.mk.inj hr0
    clear hr0
    obtain ⟨hq1, hr2⟩ := Prod.mk.inj hr1
    clear hr1
    obtain ⟨hq2, hr3⟩ := Prod.mk.inj hr2
    clear hr2
    obtain ⟨hq3, hr4⟩ := Prod.mk.inj hr3
    clear hr3
    obtain ⟨hq4, hr5⟩ := Prod.mk.inj hr4
    clear hr4
    obtain ⟨hq5, hr6⟩ := Prod.mk.inj hr5
    clear hr5
    subst hq0
    subst hq1
    subst hq2
    subst hq3
    subst hq4
    subst hq5
    subst hr6
    have hP9 := hP.sub (ws' := [(h0, .inr (0, [.ref qf0, .ref qf1, .ref qf2, .ref qf3, .ref qf4, .ref qf5, .ref qf6, .int v7, .int v8, .int v9, .int v10, .ref qf11, .int v12])), (qf4, .inr (1, [.ref qf4_0, .int u5_1, .ref qf4_2, .int u6_0, .int v4_4, .ref qf4_5, .ref qf4_6, .int v4_7, .int v4_8, .ref qf4_9, .int v4_10, .ref qf4_11, .ref qf4_12, .ref qf4_13, .int v4_14, .int v4_15])), (qf4_0, .inl (cf4_0, 1500, .inl g905_0)), (qf3, .inr (6, [.ref qf3_0, .ref qf3_1, .ref qf3_2, .ref qf3_3, .int v3_4, .int v3_5, .ref qf3_6, .int v3_7])), (qf3_1, .inr (2, [.ref qf3_1_0, .ref qf3_1_1, .int v3_1_2, .ref qf3_1_3, .ref qf3_1_4, .ref qf3_1_5, .ref qf3_1_6, .ref qf3_1_7, .ref qf3_1_8, .ref qf3_1_9, .ref qf3_1_10, .ref qf3_1_11, .ref qf3_1_12, .ref qf3_1_13, .ref qf3_1_14, .ref qf3_1_15, .ref qf3_1_16, .ref qf3_1_17, .ref qf3_1_18, .ref qf3_1_19, .int v3_1_20])), (qf3_1_18, .inl (cf3_1_18, 32, .inl f3_1_18)), (qf3_2, .inl (cf3_2, 201, .inl f3_2)), (qf3_3, .inl (cf3_3, 201, .inl f3_3)), (qf3_1_6, .inl (cf3_1_6, 96, .inl f3_1_6)), (qf3_1_8, .inl (cf3_1_8, 96, .inl f3_1_8))]) [0, 9, 8, 1, 2, 3, 4, 5, 6, 7] rfl
    have hD9 := hD.sub (ws' := [(h0, .inr (0, [.ref qf0, .ref qf1, .ref qf2, .ref qf3, .ref qf4, .ref qf5, .ref qf6, .int v7, .int v8, .int v9, .int v10, .ref qf11, .int v12])), (qf4, .inr (1, [.ref qf4_0, .int u5_1, .ref qf4_2, .int u6_0, .int v4_4, .ref qf4_5, .ref qf4_6, .int v4_7, .int v4_8, .ref qf4_9, .int v4_10, .ref qf4_11, .ref qf4_12, .ref qf4_13, .int v4_14, .int v4_15])), (qf4_0, .inl (cf4_0, 1500, .inl g905_0)), (qf3, .inr (6, [.ref qf3_0, .ref qf3_1, .ref qf3_2, .ref qf3_3, .int v3_4, .int v3_5, .ref qf3_6, .int v3_7])), (qf3_1, .inr (2, [.ref qf3_1_0, .ref qf3_1_1, .int v3_1_2, .ref qf3_1_3, .ref qf3_1_4, .ref qf3_1_5, .ref qf3_1_6, .ref qf3_1_7, .ref qf3_1_8, .ref qf3_1_9, .ref qf3_1_10, .ref qf3_1_11, .ref qf3_1_12, .ref qf3_1_13, .ref qf3_1_14, .ref qf3_1_15, .ref qf3_1_16, .ref qf3_1_17, .ref qf3_1_18, .ref qf3_1_19, .int v3_1_20])), (qf3_1_18, .inl (cf3_1_18, 32, .inl f3_1_18)), (qf3_2, .inl (cf3_2, 201, .inl f3_2)), (qf3_3, .inl (cf3_3, 201, .inl f3_3)), (qf3_1_6, .inl (cf3_1_6, 96, .inl f3_1_6)), (qf3_1_8, .inl (cf3_1_8, 96, .inl f3_1_8))]) [0, 9, 8, 1, 2, 3, 4, 5, 6, 7] (by decide) rfl
    have hK9 := hK.sub (tys' := [(cf4_0, .byte), (cf3_1_18, .int), (cf3_2, .int), (cf3_3, .int), (cf3_1_6, .int), (cf3_1_8, .int)]) [5, 0, 1, 2, 3, 4] rfl
    exact W.vret hx hb hr (fun t ht hW => ⟨⟨(), rfl, trivial, by rw [ht]; exact hP9, va_K.moved hW.alike hK9, hD9⟩, hS.F ht⟩) hS.2.2 dX0_closeGiving_101
  · rw [if_pos c_4] at hsp
    refine lv_bipush (v := 79) hx hb dX0_closeGiving_83 (by decide) ?_
    refine lv_goto (tgt := 90) hx hb dX0_closeGiving_85 (by decide) ?_
    obtain ⟨⟨g907_0, u7_1⟩, hu_7, hsp⟩ := ox_bind hsp
    try dsimp only at hsp
    have hPc := hP.sub (ws' := [(qf4, .inr (1, [.ref qf4_0, .int v4_1, .ref qf4_2, .int v4_3, .int v4_4, .ref qf4_5, .ref qf4_6, .int v4_7, .int v4_8, .ref qf4_9, .int v4_10, .ref qf4_11, .ref qf4_12, .ref qf4_13, .int v4_14, .int v4_15])), (qf4_0, .inl (cf4_0, 1500, .inl f4_0))]) [1, 2] rfl
    have hDc := hD.sub (ws' := [(qf4, .inr (1, [.ref qf4_0, .int v4_1, .ref qf4_2, .int v4_3, .int v4_4, .ref qf4_5, .ref qf4_6, .int v4_7, .int v4_8, .ref qf4_9, .int v4_10, .ref qf4_11, .ref qf4_12, .ref qf4_13, .int v4_14, .int v4_15])), (qf4_0, .inl (cf4_0, 1500, .inl f4_0))]) [1, 2] (by decide) rfl
    have hKc := hK.sub (tys' := [(cf4_0, .byte)]) [0] rfl
    have hFc := va_free (wc := [(qf4, .inr (1, [.ref qf4_0, .int v4_1, .ref qf4_2, .int v4_3, .int v4_4, .ref qf4_5, .ref qf4_6, .int v4_7, .int v4_8, .ref qf4_9, .int v4_10, .ref qf4_11, .ref qf4_12, .ref qf4_13, .int v4_14, .int v4_15])), (qf4_0, .inl (cf4_0, 1500, .inl f4_0))]) hD hS hA [1, 2] rfl
    refine va_callv (va_runV (As := [.int 79]) (rest := []) ⟨hx, hb, hml, hown, hts⟩ (t1_op l dC dI H.size qf4 79 qf4_0 v4_1 qf4_2 v4_3 v4_4 qf4_5 qf4_6 v4_7 v4_8 qf4_9 v4_10 qf4_11 qf4_12 qf4_13 v4_14 v4_15 cf4_0 f4_0 nf g907_0 u7_1 hu_7) (cwV 1 hts gv_h4_113 rfl rfl rfl (by decide +kernel) ⟨Nat.le_of_ble_eq_true rfl, Nat.le_of_ble_eq_true rfl⟩) ⟨fun a U g mk q => by obtain ⟨q0, q1, qP, qK, qD⟩ := q; exact ⟨q0, q1, qP, va_K.moved (u := U) (U := U.calling g mk a) (Vm.Alike.refl U.vm) qK, qD⟩, va_recv hKc hPc (ci := 1) (q0 := 0) rfl rfl, fun U hU hW => ⟨rfl, by rw [hU], by rw [hU]; exact hPc, va_K.moved hW.alike hKc, hDc.weaken (fun _ _ _ _ => trivial)⟩⟩ rfl rfl hl.1 rfl (lv_room (Nat.le_of_ble_eq_true rfl)) dX0_closeGiving_90 ⟨Nat.le_of_ble_eq_true rfl, Nat.le_of_ble_eq_true rfl⟩) hS (fun q _ h => hFc q h) hFc ?_
    clear hS
    intro u t H1 locs ht hvm hw hB hz1 hk1 hS
    obtain ⟨⟩ := u
    obtain ⟨hP1, hK1, hD1⟩ := hB
    rw [ht] at hP1
    have hK1 := va_K.moved hvm.symm hK1
    try dsimp only at hw
    have hPD := va_join (wr := [(h0, .inr (0, [.ref qf0, .ref qf1, .ref qf2, .ref qf3, .ref qf4, .ref qf5, .ref qf6, .int v7, .int v8, .int v9, .int v10, .ref qf11, .int v12])), (qf3, .inr (6, [.ref qf3_0, .ref qf3_1, .ref qf3_2, .ref qf3_3, .int v3_4, .int v3_5, .ref qf3_6, .int v3_7])), (qf3_1, .inr (2, [.ref qf3_1_0, .ref qf3_1_1, .int v3_1_2, .ref qf3_1_3, .ref qf3_1_4, .ref qf3_1_5, .ref qf3_1_6, .ref qf3_1_7, .ref qf3_1_8, .ref qf3_1_9, .ref qf3_1_10, .ref qf3_1_11, .ref qf3_1_12, .ref qf3_1_13, .ref qf3_1_14, .ref qf3_1_15, .ref qf3_1_16, .ref qf3_1_17, .ref qf3_1_18, .ref qf3_1_19, .int v3_1_20])), (qf3_1_18, .inl (cf3_1_18, 32, .inl f3_1_18)), (qf3_2, .inl (cf3_2, 201, .inl f3_2)), (qf3_3, .inl (cf3_3, 201, .inl f3_3)), (qf3_1_6, .inl (cf3_1_6, 96, .inl f3_1_6)), (qf3_1_8, .inl (cf3_1_8, 96, .inl f3_1_8))]) (w1 := [(qf4, .inr (1, [.ref qf4_0, .int u7_1, .ref qf4_2, .int v4_3, .int v4_4, .ref qf4_5, .ref qf4_6, .int v4_7, .int v4_8, .ref qf4_9, .int v4_10, .ref qf4_11, .ref qf4_12, .ref qf4_13, .int v4_14, .int v4_15])), (qf4_0, .inl (cf4_0, 1500, .inl g907_0))]) hP hD [1, 2] [0, 3, 4, 5, 6, 7, 8, 9] rfl rfl (by decide) (by decide) hk1 hFc hP1 hD1
    clear hP hD
    obtain ⟨hP, hD⟩ := hPD
    replace hK := (hK.sub (tys' := [(cf3_1_18, .int), (cf3_2, .int), (cf3_3, .int), (cf3_1_6, .int), (cf3_1_8, .int)]) [1, 2, 3, 4, 5] rfl).app hK1
    clear hPc hDc hKc hFc hP1 hK1 hD1 hz1 hk1 ht hvm
    generalize H1 = H at hP hS ⊢
    replace hP : va_P (dC, dI) vwCl [(h0, .inr (0, [.ref qf0, .ref qf1, .ref qf2, .ref qf3, .ref qf4, .ref qf5, .ref qf6, .int v7, .int v8, .int v9, .int v10, .ref qf11, .int v12])), (qf3, .inr (6, [.ref qf3_0, .ref qf3_1, .ref qf3_2, .ref qf3_3, .int v3_4, .int v3_5, .ref qf3_6, .int v3_7])), (qf3_1, .inr (2, [.ref qf3_1_0, .ref qf3_1_1, .int v3_1_2, .ref qf3_1_3, .ref qf3_1_4, .ref qf3_1_5, .ref qf3_1_6, .ref qf3_1_7, .ref qf3_1_8, .ref qf3_1_9, .ref qf3_1_10, .ref qf3_1_11, .ref qf3_1_12, .ref qf3_1_13, .ref qf3_1_14, .ref qf3_1_15, .ref qf3_1_16, .ref qf3_1_17, .ref qf3_1_18, .ref qf3_1_19, .int v3_1_20])), (qf3_1_18, .inl (cf3_1_18, 32, .inl f3_1_18)), (qf3_2, .inl (cf3_2, 201, .inl f3_2)), (qf3_3, .inl (cf3_3, 201, .inl f3_3)), (qf3_1_6, .inl (cf3_1_6, 96, .inl f3_1_6)), (qf3_1_8, .inl (cf3_1_8, 96, .inl f3_1_8)), (qf4, .inr (1, [.ref qf4_0, .int u7_1, .ref qf4_2, .int v4_3, .int v4_4, .ref qf4_5, .ref qf4_6, .int v4_7, .int v4_8, .ref qf4_9, .int v4_10, .ref qf4_11, .ref qf4_12, .ref qf4_13, .int v4_14, .int v4_15])), (qf4_0, .inl (cf4_0, 1500, .inl g907_0))] H := hP
    replace hD : va_D A [(h0, .inr (0, [.ref qf0, .ref qf1, .ref qf2, .ref qf3, .ref qf4, .ref qf5, .ref qf6, .int v7, .int v8, .int v9, .int v10, .ref qf11, .int v12])), (qf3, .inr (6, [.ref qf3_0, .ref qf3_1, .ref qf3_2, .ref qf3_3, .int v3_4, .int v3_5, .ref qf3_6, .int v3_7])), (qf3_1, .inr (2, [.ref qf3_1_0, .ref qf3_1_1, .int v3_1_2, .ref qf3_1_3, .ref qf3_1_4, .ref qf3_1_5, .ref qf3_1_6, .ref qf3_1_7, .ref qf3_1_8, .ref qf3_1_9, .ref qf3_1_10, .ref qf3_1_11, .ref qf3_1_12, .ref qf3_1_13, .ref qf3_1_14, .ref qf3_1_15, .ref qf3_1_16, .ref qf3_1_17, .ref qf3_1_18, .ref qf3_1_19, .int v3_1_20])), (qf3_1_18, .inl (cf3_1_18, 32, .inl f3_1_18)), (qf3_2, .inl (cf3_2, 201, .inl f3_2)), (qf3_3, .inl (cf3_3, 201, .inl f3_3)), (qf3_1_6, .inl (cf3_1_6, 96, .inl f3_1_6)), (qf3_1_8, .inl (cf3_1_8, 96, .inl f3_1_8)), (qf4, .inr (1, [.ref qf4_0, .int u7_1, .ref qf4_2, .int v4_3, .int v4_4, .ref qf4_5, .ref qf4_6, .int v4_7, .int v4_8, .ref qf4_9, .int v4_10, .ref qf4_11, .ref qf4_12, .ref qf4_13, .int v4_14, .int v4_15])), (qf4_0, .inl (cf4_0, 1500, .inl g907_0))] := hD
    replace hK : va_K (dC, dI) vwCl [(cf3_1_18, .int), (cf3_2, .int), (cf3_3, .int), (cf3_1_6, .int), (cf3_1_8, .int), (cf4_0, .byte)] s := hK
    refine lv_aload_n hx hb dX0_closeGiving_93 rfl (lv_at hl 0 rfl) ?_
    refine va_get (D := (dC, dI)) (ci := 0) (v := .ref qf4) (C := RX0) (T := TX0) (N := 13) hx hb hts uV_h4_X0 hown hK hP 0 rfl rfl 4 (by decide) (hts (.fieldLink RX0 16 "ClassMill$Bodies" "code" "LClassMill$Code;") mw_h4_444) (fun _ h9 => h9) rfl dX0_closeGiving_94 ?_
    refine lv_iconst (v := 3) hx hb dX0_closeGiving_97 (by decide) ?_
    obtain ⟨u8_0, hu_8, hsp⟩ := ox_bind hsp
    try dsimp only at hsp
    have hPc := hP.sub (ws' := [(qf4, .inr (1, [.ref qf4_0, .int u7_1, .ref qf4_2, .int v4_3, .int v4_4, .ref qf4_5, .ref qf4_6, .int v4_7, .int v4_8, .ref qf4_9, .int v4_10, .ref qf4_11, .ref qf4_12, .ref qf4_13, .int v4_14, .int v4_15]))]) [8] rfl
    have hDc := hD.sub (ws' := [(qf4, .inr (1, [.ref qf4_0, .int u7_1, .ref qf4_2, .int v4_3, .int v4_4, .ref qf4_5, .ref qf4_6, .int v4_7, .int v4_8, .ref qf4_9, .int v4_10, .ref qf4_11, .ref qf4_12, .ref qf4_13, .int v4_14, .int v4_15]))]) [8] (by decide) rfl
    have hKc := hK.sub (tys' := []) [] rfl
    have hFc := va_free (wc := [(qf4, .inr (1, [.ref qf4_0, .int u7_1, .ref qf4_2, .int v4_3, .int v4_4, .ref qf4_5, .ref qf4_6, .int v4_7, .int v4_8, .ref qf4_9, .int v4_10, .ref qf4_11, .ref qf4_12, .ref qf4_13, .int v4_14, .int v4_15]))]) hD hS hA [8] rfl
    refine va_callv (va_runV (As := [.int 3]) (rest := []) ⟨hx, hb, hml, hown, hts⟩ (t1_pop l dC dI H.size qf4 3 qf4_0 u7_1 qf4_2 v4_3 v4_4 qf4_5 qf4_6 v4_7 v4_8 qf4_9 v4_10 qf4_11 qf4_12 qf4_13 v4_14 v4_15 nf u8_0 hu_8) (cwV 1 hts gv_h4_118 rfl rfl rfl (by decide +kernel) ⟨Nat.le_of_ble_eq_true rfl, Nat.le_of_ble_eq_true rfl⟩) ⟨fun a U g mk q => by obtain ⟨q0, q1, qP, qK, qD⟩ := q; exact ⟨q0, q1, qP, va_K.moved (u := U) (U := U.calling g mk a) (Vm.Alike.refl U.vm) qK, qD⟩, va_recv hKc hPc (ci := 1) (q0 := 0) rfl rfl, fun U hU hW => ⟨rfl, by rw [hU], by rw [hU]; exact hPc, va_K.moved hW.alike hKc, hDc.weaken (fun _ _ _ _ => trivial)⟩⟩ rfl rfl hl.1 rfl (lv_room (Nat.le_of_ble_eq_true rfl)) dX0_closeGiving_98 ⟨Nat.le_of_ble_eq_true rfl, Nat.le_of_ble_eq_true rfl⟩) hS (fun q _ h => hFc q h) hFc ?_
    clear hS
    intro u t H1 locs ht hvm hw hB hz1 hk1 hS
    obtain ⟨⟩ := u
    obtain ⟨hP1, hK1, hD1⟩ := hB
    rw [ht] at hP1
    have hK1 := va_K.moved hvm.symm hK1
    try dsimp only at hw
    have hPD := va_join (wr := [(h0, .inr (0, [.ref qf0, .ref qf1, .ref qf2, .ref qf3, .ref qf4, .ref qf5, .ref qf6, .int v7, .int v8, .int v9, .int v10, .ref qf11, .int v12])), (qf3, .inr (6, [.ref qf3_0, .ref qf3_1, .ref qf3_2, .ref qf3_3, .int v3_4, .int v3_5, .ref qf3_6, .int v3_7])), (qf3_1, .inr (2, [.ref qf3_1_0, .ref qf3_1_1, .int v3_1_2, .ref qf3_1_3, .ref qf3_1_4, .ref qf3_1_5, .ref qf3_1_6, .ref qf3_1_7, .ref qf3_1_8, .ref qf3_1_9, .ref qf3_1_10, .ref qf3_1_11, .ref qf3_1_12, .ref qf3_1_13, .ref qf3_1_14, .ref qf3_1_15, .ref qf3_1_16, .ref qf3_1_17, .ref qf3_1_18, .ref qf3_1_19, .int v3_1_20])), (qf3_1_18, .inl (cf3_1_18, 32, .inl f3_1_18)), (qf3_2, .inl (cf3_2, 201, .inl f3_2)), (qf3_3, .inl (cf3_3, 201, .inl f3_3)), (qf3_1_6, .inl (cf3_1_6, 96, .inl f3_1_6)), (qf3_1_8, .inl (cf3_1_8, 96, .inl f3_1_8)), (qf4_0, .inl (cf4_0, 1500, .inl g907_0))]) (w1 := [(qf4, .inr (1, [.ref qf4_0, .int u7_1, .ref qf4_2, .int u8_0, .int v4_4, .ref qf4_5, .ref qf4_6, .int v4_7, .int v4_8, .ref qf4_9, .int v4_10, .ref qf4_11, .ref qf4_12, .ref qf4_13, .int v4_14, .int v4_15]))]) hP hD [8] [0, 1, 2, 3, 4, 5, 6, 7, 9] rfl rfl (by decide) (by decide) hk1 hFc hP1 hD1
    clear hP hD
    obtain ⟨hP, hD⟩ := hPD
    replace hK := (hK.sub (tys' := [(cf3_1_18, .int), (cf3_2, .int), (cf3_3, .int), (cf3_1_6, .int), (cf3_1_8, .int), (cf4_0, .byte)]) [0, 1, 2, 3, 4, 5] rfl).app hK1
    clear hPc hDc hKc hFc hP1 hK1 hD1 hz1 hk1 ht hvm
    generalize H1 = H at hP hS ⊢
    replace hP : va_P (dC, dI) vwCl [(h0, .inr (0, [.ref qf0, .ref qf1, .ref qf2, .ref qf3, .ref qf4, .ref qf5, .ref qf6, .int v7, .int v8, .int v9, .int v10, .ref qf11, .int v12])), (qf3, .inr (6, [.ref qf3_0, .ref qf3_1, .ref qf3_2, .ref qf3_3, .int v3_4, .int v3_5, .ref qf3_6, .int v3_7])), (qf3_1, .inr (2, [.ref qf3_1_0, .ref qf3_1_1, .int v3_1_2, .ref qf3_1_3, .ref qf3_1_4, .ref qf3_1_5, .ref qf3_1_6, .ref qf3_1_7, .ref qf3_1_8, .ref qf3_1_9, .ref qf3_1_10, .ref qf3_1_11, .ref qf3_1_12, .ref qf3_1_13, .ref qf3_1_14, .ref qf3_1_15, .ref qf3_1_16, .ref qf3_1_17, .ref qf3_1_18, .ref qf3_1_19, .int v3_1_20])), (qf3_1_18, .inl (cf3_1_18, 32, .inl f3_1_18)), (qf3_2, .inl (cf3_2, 201, .inl f3_2)), (qf3_3, .inl (cf3_3, 201, .inl f3_3)), (qf3_1_6, .inl (cf3_1_6, 96, .inl f3_1_6)), (qf3_1_8, .inl (cf3_1_8, 96, .inl f3_1_8)), (qf4_0, .inl (cf4_0, 1500, .inl g907_0)), (qf4, .inr (1, [.ref qf4_0, .int u7_1, .ref qf4_2, .int u8_0, .int v4_4, .ref qf4_5, .ref qf4_6, .int v4_7, .int v4_8, .ref qf4_9, .int v4_10, .ref qf4_11, .ref qf4_12, .ref qf4_13, .int v4_14, .int v4_15]))] H := hP
    replace hD : va_D A [(h0, .inr (0, [.ref qf0, .ref qf1, .ref qf2, .ref qf3, .ref qf4, .ref qf5, .ref qf6, .int v7, .int v8, .int v9, .int v10, .ref qf11, .int v12])), (qf3, .inr (6, [.ref qf3_0, .ref qf3_1, .ref qf3_2, .ref qf3_3, .int v3_4, .int v3_5, .ref qf3_6, .int v3_7])), (qf3_1, .inr (2, [.ref qf3_1_0, .ref qf3_1_1, .int v3_1_2, .ref qf3_1_3, .ref qf3_1_4, .ref qf3_1_5, .ref qf3_1_6, .ref qf3_1_7, .ref qf3_1_8, .ref qf3_1_9, .ref qf3_1_10, .ref qf3_1_11, .ref qf3_1_12, .ref qf3_1_13, .ref qf3_1_14, .ref qf3_1_15, .ref qf3_1_16, .ref qf3_1_17, .ref qf3_1_18, .ref qf3_1_19, .int v3_1_20])), (qf3_1_18, .inl (cf3_1_18, 32, .inl f3_1_18)), (qf3_2, .inl (cf3_2, 201, .inl f3_2)), (qf3_3, .inl (cf3_3, 201, .inl f3_3)), (qf3_1_6, .inl (cf3_1_6, 96, .inl f3_1_6)), (qf3_1_8, .inl (cf3_1_8, 96, .inl f3_1_8)), (qf4_0, .inl (cf4_0, 1500, .inl g907_0)), (qf4, .inr (1, [.ref qf4_0, .int u7_1, .ref qf4_2, .int u8_0, .int v4_4, .ref qf4_5, .ref qf4_6, .int v4_7, .int v4_8, .ref qf4_9, .int v4_10, .ref qf4_11, .ref qf4_12, .ref qf4_13, .int v4_14, .int v4_15]))] := hD
    replace hK : va_K (dC, dI) vwCl [(cf3_1_18, .int), (cf3_2, .int), (cf3_3, .int), (cf3_1_6, .int), (cf3_1_8, .int), (cf4_0, .byte)] s := hK
    have hr0 := Option.some.inj hsp
    clear hsp
    obtain ⟨hq0, hr1⟩ := Prod.mk.inj hr0
    clear hr0
    obtain ⟨hq1, hr2⟩ := Prod.mk.inj hr1
    clear hr1
    obtain ⟨hq2, hr3⟩ := Prod.mk.inj hr2
    clear hr2
    obtain ⟨hq3, hr4⟩ := Prod.mk.inj hr3
    clear hr3
    obtain ⟨hq4, hr5⟩ := Prod.mk.inj hr4
    clear hr4
    obtain ⟨hq5, hr6⟩ := Prod.mk.inj hr5
    clear hr5
    subst hq0
    subst hq1
    subst hq2
    subst hq3
    subst hq4
    subst hq5
    subst hr6
    have hP9 := hP.sub (ws' := [(h0, .inr (0, [.ref qf0, .ref qf1, .ref qf2, .ref qf3, .ref qf4, .ref qf5, .ref qf6, .int v7, .int v8, .int v9, .int v10, .ref qf11, .int v12])), (qf4, .inr (1, [.ref qf4_0, .int u7_1, .ref qf4_2, .int u8_0, .int v4_4, .ref qf4_5, .ref qf4_6, .int v4_7, .int v4_8, .ref qf4_9, .int v4_10, .ref qf4_11, .ref qf4_12, .ref qf4_13, .int v4_14, .int v4_15])), (qf4_0, .inl (cf4_0, 1500, .inl g907_0)), (qf3, .inr (6, [.ref qf3_0, .ref qf3_1, .ref qf3_2, .ref qf3_3, .int v3_4, .int v3_5, .ref qf3_6, .int v3_7])), (qf3_1, .inr (2, [.ref qf3_1_0, .ref qf3_1_1, .int v3_1_2, .ref qf3_1_3, .ref qf3_1_4, .ref qf3_1_5, .ref qf3_1_6, .ref qf3_1_7, .ref qf3_1_8, .ref qf3_1_9, .ref qf3_1_10, .ref qf3_1_11, .ref qf3_1_12, .ref qf3_1_13, .ref qf3_1_14, .ref qf3_1_15, .ref qf3_1_16, .ref qf3_1_17, .ref qf3_1_18, .ref qf3_1_19, .int v3_1_20])), (qf3_1_18, .inl (cf3_1_18, 32, .inl f3_1_18)), (qf3_2, .inl (cf3_2, 201, .inl f3_2)), (qf3_3, .inl (cf3_3, 201, .inl f3_3)), (qf3_1_6, .inl (cf3_1_6, 96, .inl f3_1_6)), (qf3_1_8, .inl (cf3_1_8, 96, .inl f3_1_8))]) [0, 9, 8, 1, 2, 3, 4, 5, 6, 7] rfl
    have hD9 := hD.sub (ws' := [(h0, .inr (0, [.ref qf0, .ref qf1, .ref qf2, .ref qf3, .ref qf4, .ref qf5, .ref qf6, .int v7, .int v8, .int v9, .int v10, .ref qf11, .int v12])), (qf4, .inr (1, [.ref qf4_0, .int u7_1, .ref qf4_2, .int u8_0, .int v4_4, .ref qf4_5, .ref qf4_6, .int v4_7, .int v4_8, .ref qf4_9, .int v4_10, .ref qf4_11, .ref qf4_12, .ref qf4_13, .int v4_14, .int v4_15])), (qf4_0, .inl (cf4_0, 1500, .inl g907_0)), (qf3, .inr (6, [.ref qf3_0, .ref qf3_1, .ref qf3_2, .ref qf3_3, .int v3_4, .int v3_5, .ref qf3_6, .int v3_7])), (qf3_1, .inr (2, [.ref qf3_1_0, .ref qf3_1_1, .int v3_1_2, .ref qf3_1_3, .ref qf3_1_4, .ref qf3_1_5, .ref qf3_1_6, .ref qf3_1_7, .ref qf3_1_8, .ref qf3_1_9, .ref qf3_1_10, .ref qf3_1_11, .ref qf3_1_12, .ref qf3_1_13, .ref qf3_1_14, .ref qf3_1_15, .ref qf3_1_16, .ref qf3_1_17, .ref qf3_1_18, .ref qf3_1_19, .int v3_1_20])), (qf3_1_18, .inl (cf3_1_18, 32, .inl f3_1_18)), (qf3_2, .inl (cf3_2, 201, .inl f3_2)), (qf3_3, .inl (cf3_3, 201, .inl f3_3)), (qf3_1_6, .inl (cf3_1_6, 96, .inl f3_1_6)), (qf3_1_8, .inl (cf3_1_8, 96, .inl f3_1_8))]) [0, 9, 8, 1, 2, 3, 4, 5, 6, 7] (by decide) rfl
    have hK9 := hK.sub (tys' := [(cf4_0, .byte), (cf3_1_18, .int), (cf3_2, .int), (cf3_3, .int), (cf3_1_6, .int), (cf3_1_8, .int)]) [5, 0, 1, 2, 3, 4] rfl
    exact W.vret hx hb hr (fun t ht hW => ⟨⟨(), rfl, trivial, by rw [ht]; exact hP9, va_K.moved hW.alike hK9, hD9⟩, hS.F ht⟩) hS.2.2 dX0_closeGiving_101
def sp_t8_need (nf : Nat) (a1 : Int32) (v0_3 : Int32) (v0_10 : Int32) (v0_11 : Int32) (v0_12 : Int32) (f0_0 : Nat → Int32) (f0_1 : Nat → Int32) : Option (Int32 × Int32 × Int32) := ((sp_t9_kind nf v0_3 v0_10 v0_11 f0_0).bind (fun p1 => (if p1 = a1 then (some ((v0_10 + 1), v0_11, v0_12)) else ((sp_t9_tellHere nf 2 v0_3 v0_10 v0_11 v0_12 f0_0 f0_1).bind (fun p2 => (some (v0_10, p2.1, p2.2)))))))
set_option maxHeartbeats 4000000 in
set_option maxRecDepth 100000 in
/-- ClassMill$Syntax.need -/
theorem t8_need (l : Launch) (dC : Nat → ClassId) (dI : Nat → Nat → Nat) (sz : Nat) (h0 : Nat) (a1 : Int32) (qf0 : Nat) (qf1 : Nat) (qf0_0 : Nat) (qf0_1 : Nat) (qf0_2 : Nat) (v0_3 : Int32) (qf0_4 : Nat) (qf0_5 : Nat) (qf0_6 : Nat) (qf0_7 : Nat) (qf0_8 : Nat) (v0_9 : Int32) (v0_10 : Int32) (v0_11 : Int32) (v0_12 : Int32) (cf0_0 : ClassId) (f0_0 : (Nat → Int32)) (cf0_1 : ClassId) (f0_1 : (Nat → Int32)) (nf : Nat) (w0_10 : Int32) (w0_11 : Int32) (w0_12 : Int32) (hsp : sp_t8_need nf a1 v0_3 v0_10 v0_11 v0_12 f0_0 f0_1 = some (w0_10, w0_11, w0_12)) : Met l yX8_need (.code yX8_need cX8_need 2 none :: VS_h4) ({ frames := 1, cells := 0, slots := 0, locals := 21 }) (va_Pc [.ref h0, .int a1] (fun U => U.heap.size = sz ∧ va_P (dC, dI) vwCl [(h0, .inr (8, [.ref qf0, .ref qf1])), (qf0, .inr (9, [.ref qf0_0, .ref qf0_1, .ref qf0_2, .int v0_3, .ref qf0_4, .ref qf0_5, .ref qf0_6, .ref qf0_7, .ref qf0_8, .int v0_9, .int v0_10, .int v0_11, .int v0_12])), (qf0_0, .inl (cf0_0, 3001, .inl f0_0)), (qf0_1, .inl (cf0_1, 3001, .inl f0_1))] U.heap ∧ va_K (dC, dI) vwCl [(cf0_0, .int), (cf0_1, .int)] U ∧ va_D (fun _ => True) [(h0, .inr (8, [.ref qf0, .ref qf1])), (qf0, .inr (9, [.ref qf0_0, .ref qf0_1, .ref qf0_2, .int v0_3, .ref qf0_4, .ref qf0_5, .ref qf0_6, .ref qf0_7, .ref qf0_8, .int v0_9, .int v0_10, .int v0_11, .int v0_12])), (qf0_0, .inl (cf0_0, 3001, .inl f0_0)), (qf0_1, .inl (cf0_1, 3001, .inl f0_1))])) (va_Qv (fun (u : Unit) => match u with | () => True) (fun (u : Unit) (t : State) => match u with | () => va_P (dC, dI) vwCl [(h0, .inr (8, [.ref qf0, .ref qf1])), (qf0, .inr (9, [.ref qf0_0, .ref qf0_1, .ref qf0_2, .int v0_3, .ref qf0_4, .ref qf0_5, .ref qf0_6, .ref qf0_7, .ref qf0_8, .int v0_9, .int w0_10, .int w0_11, .int w0_12])), (qf0_0, .inl (cf0_0, 3001, .inl f0_0)), (qf0_1, .inl (cf0_1, 3001, .inl f0_1))] t.heap ∧ va_K (dC, dI) vwCl [(cf0_0, .int), (cf0_1, .int)] t ∧ va_D (va_A [(h0, .inr (8, [.ref qf0, .ref qf1])), (qf0, .inr (9, [.ref qf0_0, .ref qf0_1, .ref qf0_2, .int v0_3, .ref qf0_4, .ref qf0_5, .ref qf0_6, .ref qf0_7, .ref qf0_8, .int v0_9, .int v0_10, .int v0_11, .int v0_12])), (qf0_0, .inl (cf0_0, 3001, .inl f0_0)), (qf0_1, .inl (cf0_1, 3001, .inl f0_1))] sz) [(h0, .inr (8, [.ref qf0, .ref qf1])), (qf0, .inr (9, [.ref qf0_0, .ref qf0_1, .ref qf0_2, .int v0_3, .ref qf0_4, .ref qf0_5, .ref qf0_6, .ref qf0_7, .ref qf0_8, .int v0_9, .int w0_10, .int w0_11, .int w0_12])), (qf0_0, .inl (cf0_0, 3001, .inl f0_0)), (qf0_1, .inl (cf0_1, 3001, .inl f0_1))]) (va_A [(h0, .inr (8, [.ref qf0, .ref qf1])), (qf0, .inr (9, [.ref qf0_0, .ref qf0_1, .ref qf0_2, .int v0_3, .ref qf0_4, .ref qf0_5, .ref qf0_6, .ref qf0_7, .ref qf0_8, .int v0_9, .int v0_10, .int v0_11, .int v0_12])), (qf0_0, .inl (cf0_0, 3001, .inl f0_0)), (qf0_1, .inl (cf0_1, 3001, .inl f0_1))] sz)) 0 0 (va_A [(h0, .inr (8, [.ref qf0, .ref qf1])), (qf0, .inr (9, [.ref qf0_0, .ref qf0_1, .ref qf0_2, .int v0_3, .ref qf0_4, .ref qf0_5, .ref qf0_6, .ref qf0_7, .ref qf0_8, .int v0_9, .int v0_10, .int v0_11, .int v0_12])), (qf0_0, .inl (cf0_0, 3001, .inl f0_0)), (qf0_1, .inl (cf0_1, 3001, .inl f0_1))] sz) := by
  refine Met.ofW (cc := cX8_need) (maxL := 2) (ret := none) (by decide) rfl ?_
  intro p e s m args below meth c s₁ B hml hv
  obtain ⟨rfl, hsz, hP, hK, hD0⟩ := hv
  have hx := B.exec
  have hb := B.bytes
  have hr := B.returns
  have hts := atoms_spec (ws := (.code yX8_need cX8_need 2 none :: VS_h4)) B.pre
  replace hts := fun w (h : w ∈ VS_h4) => hts w (List.mem_cons_of_mem _ h)
  have hown : s.vm.findClass RX8 = some m.cls := findClass_of_methodNamed B.named
  have hlocks := B.notSynchronized
  subst hsz
  have hD := hD0.self (sz := s.heap.size)
  generalize hAe : va_A [(h0, .inr (8, [.ref qf0, .ref qf1])), (qf0, .inr (9, [.ref qf0_0, .ref qf0_1, .ref qf0_2, .int v0_3, .ref qf0_4, .ref qf0_5, .ref qf0_6, .ref qf0_7, .ref qf0_8, .int v0_9, .int v0_10, .int v0_11, .int v0_12])), (qf0_0, .inl (cf0_0, 3001, .inl f0_0)), (qf0_1, .inl (cf0_1, 3001, .inl f0_1))] s.heap.size = A at hD  ⊢
  have hA : ∀ q : Nat, s.heap.size ≤ q → A q := fun q h => by rw [← hAe]; exact Or.inr h
  have hP : va_P (dC, dI) vwCl [(h0, .inr (8, [.ref qf0, .ref qf1])), (qf0, .inr (9, [.ref qf0_0, .ref qf0_1, .ref qf0_2, .int v0_3, .ref qf0_4, .ref qf0_5, .ref qf0_6, .ref qf0_7, .ref qf0_8, .int v0_9, .int v0_10, .int v0_11, .int v0_12])), (qf0_0, .inl (cf0_0, 3001, .inl f0_0)), (qf0_1, .inl (cf0_1, 3001, .inl f0_1))] s.heap := hP
  have hl := lv_entry ([.ref h0, .int a1]) (n := 2) (Nat.le_of_ble_eq_true rfl)
  rw [lg_entry_eq]
  generalize (lg_sl ([.ref h0, .int a1]) ++ List.replicate (2 - (lg_sl ([.ref h0, .int a1])).length) Slot.unset).toArray = ls at hl ⊢
  have hl : lv_has ls 2 [(0, .ref h0), (1, .int a1)] := hl
  obtain ⟨H, hH⟩ : ∃ H : Heap, s.heap = H := ⟨_, rfl⟩
  rw [hH] at hP ⊢
  have hS : va_S A s.heap H [] := by rw [← hH]; exact va_S.rf
  obtain ⟨locs, hlo⟩ : ∃ locs : List Loc, locs = [] := ⟨_, rfl⟩
  rw [← hlo] at hS ⊢
  unfold sp_t8_need at hsp
  refine lv_aload_n hx hb dX8_need_0 rfl (lv_at hl 0 rfl) ?_
  refine va_get (D := (dC, dI)) (ci := 8) (v := .ref qf0) (C := RX8) (T := TX8) (N := 2) hx hb hts uV_h4_X8 hown hK hP 0 rfl rfl 0 (by decide) (hts (.fieldLink RX8 7 "ClassMill$Syntax" "text" "LClassMill$Text;") mw_h4_465) (fun _ h9 => h9) rfl dX8_need_1 ?_
  obtain ⟨u1_0, hu_1, hsp⟩ := ox_bind hsp
  try dsimp only at hsp
  have hPc := hP.sub (ws' := [(qf0, .inr (9, [.ref qf0_0, .ref qf0_1, .ref qf0_2, .int v0_3, .ref qf0_4, .ref qf0_5, .ref qf0_6, .ref qf0_7, .ref qf0_8, .int v0_9, .int v0_10, .int v0_11, .int v0_12])), (qf0_0, .inl (cf0_0, 3001, .inl f0_0))]) [1, 2] rfl
  have hDc := hD.sub (ws' := [(qf0, .inr (9, [.ref qf0_0, .ref qf0_1, .ref qf0_2, .int v0_3, .ref qf0_4, .ref qf0_5, .ref qf0_6, .ref qf0_7, .ref qf0_8, .int v0_9, .int v0_10, .int v0_11, .int v0_12])), (qf0_0, .inl (cf0_0, 3001, .inl f0_0))]) [1, 2] (by decide) rfl
  have hKc := hK.sub (tys' := [(cf0_0, .int)]) [0] rfl
  have hFc := va_free (wc := [(qf0, .inr (9, [.ref qf0_0, .ref qf0_1, .ref qf0_2, .int v0_3, .ref qf0_4, .ref qf0_5, .ref qf0_6, .ref qf0_7, .ref qf0_8, .int v0_9, .int v0_10, .int v0_11, .int v0_12])), (qf0_0, .inl (cf0_0, 3001, .inl f0_0))]) hD hS hA [1, 2] rfl
  refine va_calli (va_runV (As := []) (rest := []) ⟨hx, hb, hml, hown, hts⟩ (t9_kind l dC dI H.size qf0 qf0_0 qf0_1 qf0_2 v0_3 qf0_4 qf0_5 qf0_6 qf0_7 qf0_8 v0_9 v0_10 v0_11 v0_12 cf0_0 f0_0 nf u1_0 hu_1) (cwV 0 hts gv_h4_122 rfl rfl rfl (by decide +kernel) ⟨Nat.le_of_ble_eq_true rfl, Nat.le_of_ble_eq_true rfl⟩) ⟨fun a U g mk q => by obtain ⟨q0, q1, qP, qK, qD⟩ := q; exact ⟨q0, q1, qP, va_K.moved (u := U) (U := U.calling g mk a) (Vm.Alike.refl U.vm) qK, qD⟩, va_recv hKc hPc (ci := 9) (q0 := 0) rfl rfl, fun U hU hW => ⟨rfl, by rw [hU], by rw [hU]; exact hPc, va_K.moved hW.alike hKc, hDc.weaken (fun _ _ _ _ => trivial)⟩⟩ rfl rfl hl.1 rfl (lv_room (Nat.le_of_ble_eq_true rfl)) dX8_need_4 ⟨Nat.le_of_ble_eq_true rfl, Nat.le_of_ble_eq_true rfl⟩) hS (fun q _ h => hFc q h) hFc ?_
  clear hS
  intro r_1 u t H1 locs ht hvm hw hB hz1 hk1 hS
  obtain ⟨⟩ := u
  obtain ⟨hP1, hK1, hD1⟩ := hB
  rw [ht] at hP1
  have hK1 := va_K.moved hvm.symm hK1
  try dsimp only at hw
  have hPD := va_join (wr := [(h0, .inr (8, [.ref qf0, .ref qf1])), (qf0_1, .inl (cf0_1, 3001, .inl f0_1))]) (w1 := [(qf0, .inr (9, [.ref qf0_0, .ref qf0_1, .ref qf0_2, .int v0_3, .ref qf0_4, .ref qf0_5, .ref qf0_6, .ref qf0_7, .ref qf0_8, .int v0_9, .int v0_10, .int v0_11, .int v0_12])), (qf0_0, .inl (cf0_0, 3001, .inl f0_0))]) hP hD [1, 2] [0, 3] rfl rfl (by decide) (by decide) hk1 hFc hP1 hD1
  clear hP hD
  obtain ⟨hP, hD⟩ := hPD
  replace hK := (hK.sub (tys' := [(cf0_1, .int)]) [1] rfl).app hK1
  clear hPc hDc hKc hFc hP1 hK1 hD1 hz1 hk1 ht hvm
  generalize H1 = H at hP hS ⊢
  replace hP : va_P (dC, dI) vwCl [(h0, .inr (8, [.ref qf0, .ref qf1])), (qf0_1, .inl (cf0_1, 3001, .inl f0_1)), (qf0, .inr (9, [.ref qf0_0, .ref qf0_1, .ref qf0_2, .int v0_3, .ref qf0_4, .ref qf0_5, .ref qf0_6, .ref qf0_7, .ref qf0_8, .int v0_9, .int v0_10, .int v0_11, .int v0_12])), (qf0_0, .inl (cf0_0, 3001, .inl f0_0))] H := hP
  replace hD : va_D A [(h0, .inr (8, [.ref qf0, .ref qf1])), (qf0_1, .inl (cf0_1, 3001, .inl f0_1)), (qf0, .inr (9, [.ref qf0_0, .ref qf0_1, .ref qf0_2, .int v0_3, .ref qf0_4, .ref qf0_5, .ref qf0_6, .ref qf0_7, .ref qf0_8, .int v0_9, .int v0_10, .int v0_11, .int v0_12])), (qf0_0, .inl (cf0_0, 3001, .inl f0_0))] := hD
  replace hK : va_K (dC, dI) vwCl [(cf0_1, .int), (cf0_0, .int)] s := hK
  obtain rfl := hw
  refine lv_iload_n hx hb dX8_need_7 rfl (lv_at hl 1 rfl) ?_
  refine lv_icmp_ne (tgt := 27) hx hb dX8_need_8 (by decide) (fun c_2 => ?_) (fun c_2 => ?_)
  · rw [if_neg c_2] at hsp
    refine lv_aload_n hx hb dX8_need_27 rfl (lv_at hl 0 rfl) ?_
    refine va_get (D := (dC, dI)) (ci := 8) (v := .ref qf0) (C := RX8) (T := TX8) (N := 2) hx hb hts uV_h4_X8 hown hK hP 0 rfl rfl 0 (by decide) (hts (.fieldLink RX8 7 "ClassMill$Syntax" "text" "LClassMill$Text;") mw_h4_465) (fun _ h9 => h9) rfl dX8_need_28 ?_
    refine lv_iconst (v := 2) hx hb dX8_need_31 (by decide) ?_
    obtain ⟨⟨u2_0, u2_1⟩, hu_2, hsp⟩ := ox_bind hsp
    try dsimp only at hsp
    have hPc := hP.sub (ws' := [(qf0, .inr (9, [.ref qf0_0, .ref qf0_1, .ref qf0_2, .int v0_3, .ref qf0_4, .ref qf0_5, .ref qf0_6, .ref qf0_7, .ref qf0_8, .int v0_9, .int v0_10, .int v0_11, .int v0_12])), (qf0_0, .inl (cf0_0, 3001, .inl f0_0)), (qf0_1, .inl (cf0_1, 3001, .inl f0_1))]) [2, 3, 1] rfl
    have hDc := hD.sub (ws' := [(qf0, .inr (9, [.ref qf0_0, .ref qf0_1, .ref qf0_2, .int v0_3, .ref qf0_4, .ref qf0_5, .ref qf0_6, .ref qf0_7, .ref qf0_8, .int v0_9, .int v0_10, .int v0_11, .int v0_12])), (qf0_0, .inl (cf0_0, 3001, .inl f0_0)), (qf0_1, .inl (cf0_1, 3001, .inl f0_1))]) [2, 3, 1] (by decide) rfl
    have hKc := hK.sub (tys' := [(cf0_0, .int), (cf0_1, .int)]) [1, 0] rfl
    have hFc := va_free (wc := [(qf0, .inr (9, [.ref qf0_0, .ref qf0_1, .ref qf0_2, .int v0_3, .ref qf0_4, .ref qf0_5, .ref qf0_6, .ref qf0_7, .ref qf0_8, .int v0_9, .int v0_10, .int v0_11, .int v0_12])), (qf0_0, .inl (cf0_0, 3001, .inl f0_0)), (qf0_1, .inl (cf0_1, 3001, .inl f0_1))]) hD hS hA [2, 3, 1] rfl
    refine va_callv (va_runV (As := [.int 2]) (rest := []) ⟨hx, hb, hml, hown, hts⟩ (t9_tellHere l dC dI H.size qf0 2 qf0_0 qf0_1 qf0_2 v0_3 qf0_4 qf0_5 qf0_6 qf0_7 qf0_8 v0_9 v0_10 v0_11 v0_12 cf0_0 f0_0 cf0_1 f0_1 nf u2_0 u2_1 hu_2) (cwV 1 hts gv_h4_123 rfl rfl rfl (by decide +kernel) ⟨Nat.le_of_ble_eq_true rfl, Nat.le_of_ble_eq_true rfl⟩) ⟨fun a U g mk q => by obtain ⟨q0, q1, qP, qK, qD⟩ := q; exact ⟨q0, q1, qP, va_K.moved (u := U) (U := U.calling g mk a) (Vm.Alike.refl U.vm) qK, qD⟩, va_recv hKc hPc (ci := 9) (q0 := 0) rfl rfl, fun U hU hW => ⟨rfl, by rw [hU], by rw [hU]; exact hPc, va_K.moved hW.alike hKc, hDc.weaken (fun _ _ _ _ => trivial)⟩⟩ rfl rfl hl.1 rfl (lv_room (Nat.le_of_ble_eq_true rfl)) dX8_need_32 ⟨Nat.le_of_ble_eq_true rfl, Nat.le_of_ble_eq_true rfl⟩) hS (fun q _ h => hFc q h) hFc ?_
    clear hS
    intro u t H1 locs ht hvm hw hB hz1 hk1 hS
    obtain ⟨⟩ := u
    obtain ⟨hP1, hK1, hD1⟩ := hB
    rw [ht] at hP1
    have hK1 := va_K.moved hvm.symm hK1
    try dsimp only at hw
    have hPD := va_join (wr := [(h0, .inr (8, [.ref qf0, .ref qf1]))]) (w1 := [(qf0, .inr (9, [.ref qf0_0, .ref qf0_1, .ref qf0_2, .int v0_3, .ref qf0_4, .ref qf0_5, .ref qf0_6, .ref qf0_7, .ref qf0_8, .int v0_9, .int v0_10, .int u2_0, .int u2_1])), (qf0_0, .inl (cf0_0, 3001, .inl f0_0)), (qf0_1, .inl (cf0_1, 3001, .inl f0_1))]) hP hD [2, 3, 1] [0] rfl rfl (by decide) (by decide) hk1 hFc hP1 hD1
    clear hP hD
    obtain ⟨hP, hD⟩ := hPD
    replace hK := (hK.sub (tys' := []) [] rfl).app hK1
    clear hPc hDc hKc hFc hP1 hK1 hD1 hz1 hk1 ht hvm
    generalize H1 = H at hP hS ⊢
    replace hP : va_P (dC, dI) vwCl [(h0, .inr (8, [.ref qf0, .ref qf1])), (qf0, .inr (9, [.ref qf0_0, .ref qf0_1, .ref qf0_2, .int v0_3, .ref qf0_4, .ref qf0_5, .ref qf0_6, .ref qf0_7, .ref qf0_8, .int v0_9, .int v0_10, .int u2_0, .int u2_1])), (qf0_0, .inl (cf0_0, 3001, .inl f0_0)), (qf0_1, .inl (cf0_1, 3001, .inl f0_1))] H := hP
    replace hD : va_D A [(h0, .inr (8, [.ref qf0, .ref qf1])), (qf0, .inr (9, [.ref qf0_0, .ref qf0_1, .ref qf0_2, .int v0_3, .ref qf0_4, .ref qf0_5, .ref qf0_6, .ref qf0_7, .ref qf0_8, .int v0_9, .int v0_10, .int u2_0, .int u2_1])), (qf0_0, .inl (cf0_0, 3001, .inl f0_0)), (qf0_1, .inl (cf0_1, 3001, .inl f0_1))] := hD
    replace hK : va_K (dC, dI) vwCl [(cf0_0, .int), (cf0_1, .int)] s := hK
    have hr0 := Option.some.inj hsp
    clear hsp
    obtain ⟨hq0, hr1⟩ := Prod.mk.inj hr0
    clear hr0
    obtain ⟨hq1, hr2⟩ := Prod.mk.inj hr1
    clear hr1
    subst hq0
    subst hq1
    subst hr2
    have hP9 := hP.sub (ws' := [(h0, .inr (8, [.ref qf0, .ref qf1])), (qf0, .inr (9, [.ref qf0_0, .ref qf0_1, .ref qf0_2, .int v0_3, .ref qf0_4, .ref qf0_5, .ref qf0_6, .ref qf0_7, .ref qf0_8, .int v0_9, .int v0_10, .int u2_0, .int u2_1])), (qf0_0, .inl (cf0_0, 3001, .inl f0_0)), (qf0_1, .inl (cf0_1, 3001, .inl f0_1))]) [0, 1, 2, 3] rfl
    have hD9 := hD.sub (ws' := [(h0, .inr (8, [.ref qf0, .ref qf1])), (qf0, .inr (9, [.ref qf0_0, .ref qf0_1, .ref qf0_2, .int v0_3, .ref qf0_4, .ref qf0_5, .ref qf0_6, .ref qf0_7, .ref qf0_8, .int v0_9, .int v0_10, .int u2_0, .int u2_1])), (qf0_0, .inl (cf0_0, 3001, .inl f0_0)), (qf0_1, .inl (cf0_1, 3001, .inl f0_1))]) [0, 1, 2, 3] (by decide) rfl
    have hK9 := hK.sub (tys' := [(cf0_0, .int), (cf0_1, .int)]) [0, 1] rfl
    exact W.vret hx hb hr (fun t ht hW => ⟨⟨(), rfl, trivial, by rw [ht]; exact hP9, va_K.moved hW.alike hK9, hD9⟩, hS.F ht⟩) hS.2.2 dX8_need_35
  · rw [if_pos c_2] at hsp
    refine lv_aload_n hx hb dX8_need_11 rfl (lv_at hl 0 rfl) ?_
    refine va_get (D := (dC, dI)) (ci := 8) (v := .ref qf0) (C := RX8) (T := TX8) (N := 2) hx hb hts uV_h4_X8 hown hK hP 0 rfl rfl 0 (by decide) (hts (.fieldLink RX8 7 "ClassMill$Syntax" "text" "LClassMill$Text;") mw_h4_465) (fun _ h9 => h9) rfl dX8_need_12 ?_
    refine lv_dup hx hb dX8_need_15 rfl ?_
    refine va_get (D := (dC, dI)) (ci := 9) (v := .int v0_10) (C := RX9) (T := TX9) (N := 13) hx hb hts uV_h4_X9 hown hK hP 2 rfl rfl 10 (by decide) (hts (.fieldLink RX8 30 "ClassMill$Text" "pos" "I") mw_h4_466) (fun _ h9 => h9) rfl dX8_need_16 ?_
    refine lv_iconst (v := 1) hx hb dX8_need_19 (by decide) ?_
    refine lv_iadd hx hb dX8_need_20 ?_
    refine va_put (D := (dC, dI)) (ci := 9) (v := .int (v0_10 + 1)) (ty := .int) (C := RX9) (T := TX9) (N := 13) hx hb hts uV_h4_X9 tyX9 tyX9_ok nmX9 hown hK hP hD hS 2 rfl rfl 10 (by decide) (hts (.fieldLink RX8 30 "ClassMill$Text" "pos" "I") mw_h4_466) (fun _ h9 => h9) rfl (by decide +kernel) rfl rfl (Nat.le_of_ble_eq_true rfl) dX8_need_21 ?_
    clear hP hD hS
    intro H locs hP hD hS
    replace hP : va_P (dC, dI) vwCl [(h0, .inr (8, [.ref qf0, .ref qf1])), (qf0_1, .inl (cf0_1, 3001, .inl f0_1)), (qf0, .inr (9, [.ref qf0_0, .ref qf0_1, .ref qf0_2, .int v0_3, .ref qf0_4, .ref qf0_5, .ref qf0_6, .ref qf0_7, .ref qf0_8, .int v0_9, .int (v0_10 + 1), .int v0_11, .int v0_12])), (qf0_0, .inl (cf0_0, 3001, .inl f0_0))] H := hP
    replace hD : va_D A [(h0, .inr (8, [.ref qf0, .ref qf1])), (qf0_1, .inl (cf0_1, 3001, .inl f0_1)), (qf0, .inr (9, [.ref qf0_0, .ref qf0_1, .ref qf0_2, .int v0_3, .ref qf0_4, .ref qf0_5, .ref qf0_6, .ref qf0_7, .ref qf0_8, .int v0_9, .int (v0_10 + 1), .int v0_11, .int v0_12])), (qf0_0, .inl (cf0_0, 3001, .inl f0_0))] := hD
    refine lv_goto (tgt := 35) hx hb dX8_need_24 (by decide) ?_
    have hr0 := Option.some.inj hsp
    clear hsp
    obtain ⟨hq0, hr1⟩ := Prod.mk.inj hr0
    clear hr0
    obtain ⟨hq1, hr2⟩ := Prod.mk.inj hr1
    clear hr1
    subst hq0
    subst hq1
    subst hr2
    have hP9 := hP.sub (ws' := [(h0, .inr (8, [.ref qf0, .ref qf1])), (qf0, .inr (9, [.ref qf0_0, .ref qf0_1, .ref qf0_2, .int v0_3, .ref qf0_4, .ref qf0_5, .ref qf0_6, .ref qf0_7, .ref qf0_8, .int v0_9, .int (v0_10 + 1), .int v0_11, .int v0_12])), (qf0_0, .inl (cf0_0, 3001, .inl f0_0)), (qf0_1, .inl (cf0_1, 3001, .inl f0_1))]) [0, 2, 3, 1] rfl
    have hD9 := hD.sub (ws' := [(h0, .inr (8, [.ref qf0, .ref qf1])), (qf0, .inr (9, [.ref qf0_0, .ref qf0_1, .ref qf0_2, .int v0_3, .ref qf0_4, .ref qf0_5, .ref qf0_6, .ref qf0_7, .ref qf0_8, .int v0_9, .int (v0_10 + 1), .int v0_11, .int v0_12])), (qf0_0, .inl (cf0_0, 3001, .inl f0_0)), (qf0_1, .inl (cf0_1, 3001, .inl f0_1))]) [0, 2, 3, 1] (by decide) rfl
    have hK9 := hK.sub (tys' := [(cf0_0, .int), (cf0_1, .int)]) [1, 0] rfl
    exact W.vret hx hb hr (fun t ht hW => ⟨⟨(), rfl, trivial, by rw [ht]; exact hP9, va_K.moved hW.alike hK9, hD9⟩, hS.F ht⟩) hS.2.2 dX8_need_35
def sp_t8_accept (nf : Nat) (a1 : Int32) (v0_3 : Int32) (v0_10 : Int32) (v0_11 : Int32) (f0_0 : Nat → Int32) : Option (Int32 × Int32) := ((sp_t9_kind nf v0_3 v0_10 v0_11 f0_0).bind (fun p1 => (if p1 = a1 then (some (1, (v0_10 + 1))) else (some (0, v0_10)))))
