set_option maxHeartbeats 4000000 in
set_option maxRecDepth 100000 in
/-- ClassMill$Syntax.readClass -/
theorem v8_readClass (l : Launch) (dC : Nat → ClassId) (dI : Nat → Nat → Nat) (sz : Nat) (h0 : Nat) (qf0 : Nat) (qf1 : Nat) (qf0_0 : Nat) (qf0_1 : Nat) (qf0_2 : Nat) (v0_3 : Int32) (qf0_4 : Nat) (qf0_5 : Nat) (qf0_6 : Nat) (qf0_7 : Nat) (qf0_8 : Nat) (v0_9 : Int32) (v0_10 : Int32) (v0_11 : Int32) (v0_12 : Int32) (cf0_0 : ClassId) (f0_0 : (Nat → Int32)) (cf0_1 : ClassId) (f0_1 : (Nat → Int32)) (qf1_0 : Nat) (qf1_1 : Nat) (v1_2 : Int32) (qf1_3 : Nat) (qf1_4 : Nat) (qf1_5 : Nat) (qf1_6 : Nat) (qf1_7 : Nat) (qf1_8 : Nat) (qf1_9 : Nat) (qf1_10 : Nat) (qf1_11 : Nat) (qf1_12 : Nat) (qf1_13 : Nat) (qf1_14 : Nat) (qf1_15 : Nat) (qf1_16 : Nat) (qf1_17 : Nat) (qf1_18 : Nat) (qf1_19 : Nat) (v1_20 : Int32) (cf1_3 : ClassId) (f1_3 : (Nat → Int32)) (nf : Nat) (o1_3 : (Nat → Int32)) (w0_10 : Int32) (w0_11 : Int32) (w0_12 : Int32) (w1_2 : Int32) (hsp : sp_v8_readClass nf v0_3 v0_10 v0_11 v0_12 f0_0 f0_1 v1_2 f1_3 = some (o1_3, w0_10, w0_11, w0_12, w1_2)) : Met l yX8_readClass (.code yX8_readClass cX8_readClass 2 none :: VS_h8) ({ frames := 459, cells := 0, slots := 0, locals := 10368 }) (va_Pc [.ref h0] (fun U => U.heap.size = sz ∧ va_P (dC, dI) vwCl [(h0, .inr (8, [.ref qf0, .ref qf1])), (qf0, .inr (9, [.ref qf0_0, .ref qf0_1, .ref qf0_2, .int v0_3, .ref qf0_4, .ref qf0_5, .ref qf0_6, .ref qf0_7, .ref qf0_8, .int v0_9, .int v0_10, .int v0_11, .int v0_12])), (qf0_0, .inl (cf0_0, 3001, .inl f0_0)), (qf0_1, .inl (cf0_1, 3001, .inl f0_1)), (qf1, .inr (2, [.ref qf1_0, .ref qf1_1, .int v1_2, .ref qf1_3, .ref qf1_4, .ref qf1_5, .ref qf1_6, .ref qf1_7, .ref qf1_8, .ref qf1_9, .ref qf1_10, .ref qf1_11, .ref qf1_12, .ref qf1_13, .ref qf1_14, .ref qf1_15, .ref qf1_16, .ref qf1_17, .ref qf1_18, .ref qf1_19, .int v1_20])), (qf1_3, .inl (cf1_3, 334, .inl f1_3))] U.heap ∧ va_K (dC, dI) vwCl [(cf0_0, .int), (cf0_1, .int), (cf1_3, .int)] U ∧ va_D (fun _ => True) [(h0, .inr (8, [.ref qf0, .ref qf1])), (qf0, .inr (9, [.ref qf0_0, .ref qf0_1, .ref qf0_2, .int v0_3, .ref qf0_4, .ref qf0_5, .ref qf0_6, .ref qf0_7, .ref qf0_8, .int v0_9, .int v0_10, .int v0_11, .int v0_12])), (qf0_0, .inl (cf0_0, 3001, .inl f0_0)), (qf0_1, .inl (cf0_1, 3001, .inl f0_1)), (qf1, .inr (2, [.ref qf1_0, .ref qf1_1, .int v1_2, .ref qf1_3, .ref qf1_4, .ref qf1_5, .ref qf1_6, .ref qf1_7, .ref qf1_8, .ref qf1_9, .ref qf1_10, .ref qf1_11, .ref qf1_12, .ref qf1_13, .ref qf1_14, .ref qf1_15, .ref qf1_16, .ref qf1_17, .ref qf1_18, .ref qf1_19, .int v1_20])), (qf1_3, .inl (cf1_3, 334, .inl f1_3))])) (va_Qv (fun (u : Unit) => match u with | () => True) (fun (u : Unit) (t : State) => match u with | () => va_P (dC, dI) vwCl [(h0, .inr (8, [.ref qf0, .ref qf1])), (qf0, .inr (9, [.ref qf0_0, .ref qf0_1, .ref qf0_2, .int v0_3, .ref qf0_4, .ref qf0_5, .ref qf0_6, .ref qf0_7, .ref qf0_8, .int v0_9, .int w0_10, .int w0_11, .int w0_12])), (qf0_0, .inl (cf0_0, 3001, .inl f0_0)), (qf0_1, .inl (cf0_1, 3001, .inl f0_1)), (qf1, .inr (2, [.ref qf1_0, .ref qf1_1, .int w1_2, .ref qf1_3, .ref qf1_4, .ref qf1_5, .ref qf1_6, .ref qf1_7, .ref qf1_8, .ref qf1_9, .ref qf1_10, .ref qf1_11, .ref qf1_12, .ref qf1_13, .ref qf1_14, .ref qf1_15, .ref qf1_16, .ref qf1_17, .ref qf1_18, .ref qf1_19, .int v1_20])), (qf1_3, .inl (cf1_3, 334, .inl o1_3))] t.heap ∧ va_K (dC, dI) vwCl [(cf0_0, .int), (cf0_1, .int), (cf1_3, .int)] t ∧ va_D (va_A [(h0, .inr (8, [.ref qf0, .ref qf1])), (qf0, .inr (9, [.ref qf0_0, .ref qf0_1, .ref qf0_2, .int v0_3, .ref qf0_4, .ref qf0_5, .ref qf0_6, .ref qf0_7, .ref qf0_8, .int v0_9, .int v0_10, .int v0_11, .int v0_12])), (qf0_0, .inl (cf0_0, 3001, .inl f0_0)), (qf0_1, .inl (cf0_1, 3001, .inl f0_1)), (qf1, .inr (2, [.ref qf1_0, .ref qf1_1, .int v1_2, .ref qf1_3, .ref qf1_4, .ref qf1_5, .ref qf1_6, .ref qf1_7, .ref qf1_8, .ref qf1_9, .ref qf1_10, .ref qf1_11, .ref qf1_12, .ref qf1_13, .ref qf1_14, .ref qf1_15, .ref qf1_16, .ref qf1_17, .ref qf1_18, .ref qf1_19, .int v1_20])), (qf1_3, .inl (cf1_3, 334, .inl f1_3))] sz) [(h0, .inr (8, [.ref qf0, .ref qf1])), (qf0, .inr (9, [.ref qf0_0, .ref qf0_1, .ref qf0_2, .int v0_3, .ref qf0_4, .ref qf0_5, .ref qf0_6, .ref qf0_7, .ref qf0_8, .int v0_9, .int w0_10, .int w0_11, .int w0_12])), (qf0_0, .inl (cf0_0, 3001, .inl f0_0)), (qf0_1, .inl (cf0_1, 3001, .inl f0_1)), (qf1, .inr (2, [.ref qf1_0, .ref qf1_1, .int w1_2, .ref qf1_3, .ref qf1_4, .ref qf1_5, .ref qf1_6, .ref qf1_7, .ref qf1_8, .ref qf1_9, .ref qf1_10, .ref qf1_11, .ref qf1_12, .ref qf1_13, .ref qf1_14, .ref qf1_15, .ref qf1_16, .ref qf1_17, .ref qf1_18, .ref qf1_19, .int v1_20])), (qf1_3, .inl (cf1_3, 334, .inl o1_3))]) (va_A [(h0, .inr (8, [.ref qf0, .ref qf1])), (qf0, .inr (9, [.ref qf0_0, .ref qf0_1, .ref qf0_2, .int v0_3, .ref qf0_4, .ref qf0_5, .ref qf0_6, .ref qf0_7, .ref qf0_8, .int v0_9, .int v0_10, .int v0_11, .int v0_12])), (qf0_0, .inl (cf0_0, 3001, .inl f0_0)), (qf0_1, .inl (cf0_1, 3001, .inl f0_1)), (qf1, .inr (2, [.ref qf1_0, .ref qf1_1, .int v1_2, .ref qf1_3, .ref qf1_4, .ref qf1_5, .ref qf1_6, .ref qf1_7, .ref qf1_8, .ref qf1_9, .ref qf1_10, .ref qf1_11, .ref qf1_12, .ref qf1_13, .ref qf1_14, .ref qf1_15, .ref qf1_16, .ref qf1_17, .ref qf1_18, .ref qf1_19, .int v1_20])), (qf1_3, .inl (cf1_3, 334, .inl f1_3))] sz)) 0 0 (va_A [(h0, .inr (8, [.ref qf0, .ref qf1])), (qf0, .inr (9, [.ref qf0_0, .ref qf0_1, .ref qf0_2, .int v0_3, .ref qf0_4, .ref qf0_5, .ref qf0_6, .ref qf0_7, .ref qf0_8, .int v0_9, .int v0_10, .int v0_11, .int v0_12])), (qf0_0, .inl (cf0_0, 3001, .inl f0_0)), (qf0_1, .inl (cf0_1, 3001, .inl f0_1)), (qf1, .inr (2, [.ref qf1_0, .ref qf1_1, .int v1_2, .ref qf1_3, .ref qf1_4, .ref qf1_5, .ref qf1_6, .ref qf1_7, .ref qf1_8, .ref qf1_9, .ref qf1_10, .ref qf1_11, .ref qf1_12, .ref qf1_13, .ref qf1_14, .ref qf1_15, .ref qf1_16, .ref qf1_17, .ref qf1_18, .ref qf1_19, .int v1_20])), (qf1_3, .inl (cf1_3, 334, .inl f1_3))] sz) := by
  refine Met.ofW (cc := cX8_readClass) (maxL := 2) (ret := none) (by decide) rfl ?_
  intro p e s m args below meth c s₁ B hml hv
  obtain ⟨rfl, hsz, hP, hK, hD0⟩ := hv
  have hx := B.exec
  have hb := B.bytes
  have hr := B.returns
  have hts := atoms_spec (ws := (.code yX8_readClass cX8_readClass 2 none :: VS_h8)) B.pre
  replace hts := fun w (h : w ∈ VS_h8) => hts w (List.mem_cons_of_mem _ h)
  have hown : s.vm.findClass RX8 = some m.cls := findClass_of_methodNamed B.named
  have hlocks := B.notSynchronized
  subst hsz
  have hD := hD0.self (sz := s.heap.size)
  generalize hAe : va_A [(h0, .inr (8, [.ref qf0, .ref qf1])), (qf0, .inr (9, [.ref qf0_0, .ref qf0_1, .ref qf0_2, .int v0_3, .ref qf0_4, .ref qf0_5, .ref qf0_6, .ref qf0_7, .ref qf0_8, .int v0_9, .int v0_10, .int v0_11, .int v0_12])), (qf0_0, .inl (cf0_0, 3001, .inl f0_0)), (qf0_1, .inl (cf0_1, 3001, .inl f0_1)), (qf1, .inr (2, [.ref qf1_0, .ref qf1_1, .int v1_2, .ref qf1_3, .ref qf1_4, .ref qf1_5, .ref qf1_6, .ref qf1_7, .ref qf1_8, .ref qf1_9, .ref qf1_10, .ref qf1_11, .ref qf1_12, .ref qf1_13, .ref qf1_14, .ref qf1_15, .ref qf1_16, .ref qf1_17, .ref qf1_18, .ref qf1_19, .int v1_20])), (qf1_3, .inl (cf1_3, 334, .inl f1_3))] s.heap.size = A at hD  ⊢
  have hA : ∀ q : Nat, s.heap.size ≤ q → A q := fun q h => by rw [← hAe]; exact Or.inr h
  have hP : va_P (dC, dI) vwCl [(h0, .inr (8, [.ref qf0, .ref qf1])), (qf0, .inr (9, [.ref qf0_0, .ref qf0_1, .ref qf0_2, .int v0_3, .ref qf0_4, .ref qf0_5, .ref qf0_6, .ref qf0_7, .ref qf0_8, .int v0_9, .int v0_10, .int v0_11, .int v0_12])), (qf0_0, .inl (cf0_0, 3001, .inl f0_0)), (qf0_1, .inl (cf0_1, 3001, .inl f0_1)), (qf1, .inr (2, [.ref qf1_0, .ref qf1_1, .int v1_2, .ref qf1_3, .ref qf1_4, .ref qf1_5, .ref qf1_6, .ref qf1_7, .ref qf1_8, .ref qf1_9, .ref qf1_10, .ref qf1_11, .ref qf1_12, .ref qf1_13, .ref qf1_14, .ref qf1_15, .ref qf1_16, .ref qf1_17, .ref qf1_18, .ref qf1_19, .int v1_20])), (qf1_3, .inl (cf1_3, 334, .inl f1_3))] s.heap := hP
  have hl := lv_entry ([.ref h0]) (n := 2) (Nat.le_of_ble_eq_true rfl)
  rw [lg_entry_eq]
  generalize (lg_sl ([.ref h0]) ++ List.replicate (2 - (lg_sl ([.ref h0])).length) Slot.unset).toArray = ls at hl ⊢
  have hl : lv_has ls 2 [(0, .ref h0)] := hl
  obtain ⟨H, hH⟩ : ∃ H : Heap, s.heap = H := ⟨_, rfl⟩
  rw [hH] at hP ⊢
  have hS : va_S A s.heap H [] := by rw [← hH]; exact va_S.rf
  obtain ⟨locs, hlo⟩ : ∃ locs : List Loc, locs = [] := ⟨_, rfl⟩
  rw [← hlo] at hS ⊢
  unfold sp_v8_readClass at hsp
  refine jn_use (α := Heap × List Loc × Array Slot × (Nat → Int32) × Int32 × Int32 × Int32 × Int32) (fun x9 => x9.1) (fun x9 => x9.2.1) (fun x9 => F0 m 39 x9.2.2.1 []) (fun x9 => match x9 with | (H, locs, ls, g1_3_39, x0_10_39, x0_11_39, x0_12_39, x1_2_39) => lv_has ls 2 [(0, .ref h0)] ∧ va_S A s.heap H locs ∧ va_D A [(h0, .inr (8, [.ref qf0, .ref qf1])), (qf0, .inr (9, [.ref qf0_0, .ref qf0_1, .ref qf0_2, .int v0_3, .ref qf0_4, .ref qf0_5, .ref qf0_6, .ref qf0_7, .ref qf0_8, .int v0_9, .int x0_10_39, .int x0_11_39, .int x0_12_39])), (qf0_0, .inl (cf0_0, 3001, .inl f0_0)), (qf0_1, .inl (cf0_1, 3001, .inl f0_1)), (qf1, .inr (2, [.ref qf1_0, .ref qf1_1, .int x1_2_39, .ref qf1_3, .ref qf1_4, .ref qf1_5, .ref qf1_6, .ref qf1_7, .ref qf1_8, .ref qf1_9, .ref qf1_10, .ref qf1_11, .ref qf1_12, .ref qf1_13, .ref qf1_14, .ref qf1_15, .ref qf1_16, .ref qf1_17, .ref qf1_18, .ref qf1_19, .int v1_20])), (qf1_3, .inl (cf1_3, 334, .inl g1_3_39))] ∧ va_P (dC, dI) vwCl [(h0, .inr (8, [.ref qf0, .ref qf1])), (qf0, .inr (9, [.ref qf0_0, .ref qf0_1, .ref qf0_2, .int v0_3, .ref qf0_4, .ref qf0_5, .ref qf0_6, .ref qf0_7, .ref qf0_8, .int v0_9, .int x0_10_39, .int x0_11_39, .int x0_12_39])), (qf0_0, .inl (cf0_0, 3001, .inl f0_0)), (qf0_1, .inl (cf0_1, 3001, .inl f0_1)), (qf1, .inr (2, [.ref qf1_0, .ref qf1_1, .int x1_2_39, .ref qf1_3, .ref qf1_4, .ref qf1_5, .ref qf1_6, .ref qf1_7, .ref qf1_8, .ref qf1_9, .ref qf1_10, .ref qf1_11, .ref qf1_12, .ref qf1_13, .ref qf1_14, .ref qf1_15, .ref qf1_16, .ref qf1_17, .ref qf1_18, .ref qf1_19, .int v1_20])), (qf1_3, .inl (cf1_3, 334, .inl g1_3_39))] H ∧ jn_v8_readClass_39 nf v0_3 v0_10 v0_11 v0_12 f0_0 f0_1 v1_2 f1_3 g1_3_39 x0_10_39 x0_11_39 x0_12_39 x1_2_39 = some (o1_3, w0_10, w0_11, w0_12, w1_2)) ?_ ?_
  · intro x9 hJ9
    obtain ⟨H, locs, ls, g1_3_39, x0_10_39, x0_11_39, x0_12_39, x1_2_39⟩ := x9
    obtain ⟨hl, hS, hD, hP, hsp⟩ := hJ9
    replace hl : lv_has ls 2 [(0, .ref h0)] := hl
    replace hS : va_S A s.heap H locs := hS
    replace hD : va_D A [(h0, .inr (8, [.ref qf0, .ref qf1])), (qf0, .inr (9, [.ref qf0_0, .ref qf0_1, .ref qf0_2, .int v0_3, .ref qf0_4, .ref qf0_5, .ref qf0_6, .ref qf0_7, .ref qf0_8, .int v0_9, .int x0_10_39, .int x0_11_39, .int x0_12_39])), (qf0_0, .inl (cf0_0, 3001, .inl f0_0)), (qf0_1, .inl (cf0_1, 3001, .inl f0_1)), (qf1, .inr (2, [.ref qf1_0, .ref qf1_1, .int x1_2_39, .ref qf1_3, .ref qf1_4, .ref qf1_5, .ref qf1_6, .ref qf1_7, .ref qf1_8, .ref qf1_9, .ref qf1_10, .ref qf1_11, .ref qf1_12, .ref qf1_13, .ref qf1_14, .ref qf1_15, .ref qf1_16, .ref qf1_17, .ref qf1_18, .ref qf1_19, .int v1_20])), (qf1_3, .inl (cf1_3, 334, .inl g1_3_39))] := hD
    replace hP : va_P (dC, dI) vwCl [(h0, .inr (8, [.ref qf0, .ref qf1])), (qf0, .inr (9, [.ref qf0_0, .ref qf0_1, .ref qf0_2, .int v0_3, .ref qf0_4, .ref qf0_5, .ref qf0_6, .ref qf0_7, .ref qf0_8, .int v0_9, .int x0_10_39, .int x0_11_39, .int x0_12_39])), (qf0_0, .inl (cf0_0, 3001, .inl f0_0)), (qf0_1, .inl (cf0_1, 3001, .inl f0_1)), (qf1, .inr (2, [.ref qf1_0, .ref qf1_1, .int x1_2_39, .ref qf1_3, .ref qf1_4, .ref qf1_5, .ref qf1_6, .ref qf1_7, .ref qf1_8, .ref qf1_9, .ref qf1_10, .ref qf1_11, .ref qf1_12, .ref qf1_13, .ref qf1_14, .ref qf1_15, .ref qf1_16, .ref qf1_17, .ref qf1_18, .ref qf1_19, .int v1_20])), (qf1_3, .inl (cf1_3, 334, .inl g1_3_39))] H := hP
    replace hsp : jn_v8_readClass_39 nf v0_3 v0_10 v0_11 v0_12 f0_0 f0_1 v1_2 f1_3 g1_3_39 x0_10_39 x0_11_39 x0_12_39 x1_2_39 = some (o1_3, w0_10, w0_11, w0_12, w1_2) := hsp
    show W _ _ _ _ _ _ _ _ _ _ H locs _ _ _ (F0 m 39 ls [])
    unfold jn_v8_readClass_39 at hsp
    try dsimp only at hsp
    refine lv_aload_n hx hb dX8_readClass_39 rfl (lv_at hl 0 rfl) ?_
    refine lv_bipush (v := 42) hx hb dX8_readClass_40 (by decide) ?_
    obtain ⟨⟨u6_0, u6_1, u6_2⟩, hu_6, hsp⟩ := ox_bind hsp
    try dsimp only at hsp
    have hPc := hP.sub (ws' := [(h0, .inr (8, [.ref qf0, .ref qf1])), (qf0, .inr (9, [.ref qf0_0, .ref qf0_1, .ref qf0_2, .int v0_3, .ref qf0_4, .ref qf0_5, .ref qf0_6, .ref qf0_7, .ref qf0_8, .int v0_9, .int x0_10_39, .int x0_11_39, .int x0_12_39])), (qf0_0, .inl (cf0_0, 3001, .inl f0_0)), (qf0_1, .inl (cf0_1, 3001, .inl f0_1))]) [0, 1, 2, 3] rfl
    have hDc := hD.sub (ws' := [(h0, .inr (8, [.ref qf0, .ref qf1])), (qf0, .inr (9, [.ref qf0_0, .ref qf0_1, .ref qf0_2, .int v0_3, .ref qf0_4, .ref qf0_5, .ref qf0_6, .ref qf0_7, .ref qf0_8, .int v0_9, .int x0_10_39, .int x0_11_39, .int x0_12_39])), (qf0_0, .inl (cf0_0, 3001, .inl f0_0)), (qf0_1, .inl (cf0_1, 3001, .inl f0_1))]) [0, 1, 2, 3] (by decide) rfl
    have hKc := hK.sub (tys' := [(cf0_0, .int), (cf0_1, .int)]) [0, 1] rfl
    have hFc := va_free (wc := [(h0, .inr (8, [.ref qf0, .ref qf1])), (qf0, .inr (9, [.ref qf0_0, .ref qf0_1, .ref qf0_2, .int v0_3, .ref qf0_4, .ref qf0_5, .ref qf0_6, .ref qf0_7, .ref qf0_8, .int v0_9, .int x0_10_39, .int x0_11_39, .int x0_12_39])), (qf0_0, .inl (cf0_0, 3001, .inl f0_0)), (qf0_1, .inl (cf0_1, 3001, .inl f0_1))]) hD hS hA [0, 1, 2, 3] rfl
    refine va_callv (va_runV (As := [.int 42]) (rest := []) ⟨hx, hb, hml, hown, hts⟩ (t8_need l dC dI H.size h0 42 qf0 qf1 qf0_0 qf0_1 qf0_2 v0_3 qf0_4 qf0_5 qf0_6 qf0_7 qf0_8 v0_9 x0_10_39 x0_11_39 x0_12_39 cf0_0 f0_0 cf0_1 f0_1 nf u6_0 u6_1 u6_2 hu_6) (cwV 1 hts gv_h8_23 rfl rfl rfl (by decide +kernel) ⟨Nat.le_of_ble_eq_true rfl, Nat.le_of_ble_eq_true rfl⟩) ⟨fun a U g mk q => by obtain ⟨q0, q1, qP, qK, qD⟩ := q; exact ⟨q0, q1, qP, va_K.moved (u := U) (U := U.calling g mk a) (Vm.Alike.refl U.vm) qK, qD⟩, va_recv hKc hPc (ci := 8) (q0 := 0) rfl rfl, fun U hU hW => ⟨rfl, by rw [hU], by rw [hU]; exact hPc, va_K.moved hW.alike hKc, hDc.weaken (fun _ _ _ _ => trivial)⟩⟩ rfl rfl hl.1 rfl (lv_room (Nat.le_of_ble_eq_true rfl)) dX8_readClass_42 ⟨Nat.le_of_ble_eq_true rfl, Nat.le_of_ble_eq_true rfl⟩) hS (fun q _ h => hFc q h) hFc ?_
    clear hS
    intro u t H1 locs ht hvm hw hB hz1 hk1 hS
    obtain ⟨⟩ := u
    obtain ⟨hP1, hK1, hD1⟩ := hB
    rw [ht] at hP1
    have hK1 := va_K.moved hvm.symm hK1
    try dsimp only at hw
    have hPD := va_join (wr := [(qf1, .inr (2, [.ref qf1_0, .ref qf1_1, .int x1_2_39, .ref qf1_3, .ref qf1_4, .ref qf1_5, .ref qf1_6, .ref qf1_7, .ref qf1_8, .ref qf1_9, .ref qf1_10, .ref qf1_11, .ref qf1_12, .ref qf1_13, .ref qf1_14, .ref qf1_15, .ref qf1_16, .ref qf1_17, .ref qf1_18, .ref qf1_19, .int v1_20])), (qf1_3, .inl (cf1_3, 334, .inl g1_3_39))]) (w1 := [(h0, .inr (8, [.ref qf0, .ref qf1])), (qf0, .inr (9, [.ref qf0_0, .ref qf0_1, .ref qf0_2, .int v0_3, .ref qf0_4, .ref qf0_5, .ref qf0_6, .ref qf0_7, .ref qf0_8, .int v0_9, .int u6_0, .int u6_1, .int u6_2])), (qf0_0, .inl (cf0_0, 3001, .inl f0_0)), (qf0_1, .inl (cf0_1, 3001, .inl f0_1))]) hP hD [0, 1, 2, 3] [4, 5] rfl rfl (by decide) (by decide) hk1 hFc hP1 hD1
    clear hP hD
    obtain ⟨hP, hD⟩ := hPD
    replace hK := (hK.sub (tys' := [(cf1_3, .int)]) [2] rfl).app hK1
    clear hPc hDc hKc hFc hP1 hK1 hD1 hz1 hk1 ht hvm
    generalize H1 = H at hP hS ⊢
    replace hP : va_P (dC, dI) vwCl [(qf1, .inr (2, [.ref qf1_0, .ref qf1_1, .int x1_2_39, .ref qf1_3, .ref qf1_4, .ref qf1_5, .ref qf1_6, .ref qf1_7, .ref qf1_8, .ref qf1_9, .ref qf1_10, .ref qf1_11, .ref qf1_12, .ref qf1_13, .ref qf1_14, .ref qf1_15, .ref qf1_16, .ref qf1_17, .ref qf1_18, .ref qf1_19, .int v1_20])), (qf1_3, .inl (cf1_3, 334, .inl g1_3_39)), (h0, .inr (8, [.ref qf0, .ref qf1])), (qf0, .inr (9, [.ref qf0_0, .ref qf0_1, .ref qf0_2, .int v0_3, .ref qf0_4, .ref qf0_5, .ref qf0_6, .ref qf0_7, .ref qf0_8, .int v0_9, .int u6_0, .int u6_1, .int u6_2])), (qf0_0, .inl (cf0_0, 3001, .inl f0_0)), (qf0_1, .inl (cf0_1, 3001, .inl f0_1))] H := hP
    replace hD : va_D A [(qf1, .inr (2, [.ref qf1_0, .ref qf1_1, .int x1_2_39, .ref qf1_3, .ref qf1_4, .ref qf1_5, .ref qf1_6, .ref qf1_7, .ref qf1_8, .ref qf1_9, .ref qf1_10, .ref qf1_11, .ref qf1_12, .ref qf1_13, .ref qf1_14, .ref qf1_15, .ref qf1_16, .ref qf1_17, .ref qf1_18, .ref qf1_19, .int v1_20])), (qf1_3, .inl (cf1_3, 334, .inl g1_3_39)), (h0, .inr (8, [.ref qf0, .ref qf1])), (qf0, .inr (9, [.ref qf0_0, .ref qf0_1, .ref qf0_2, .int v0_3, .ref qf0_4, .ref qf0_5, .ref qf0_6, .ref qf0_7, .ref qf0_8, .int v0_9, .int u6_0, .int u6_1, .int u6_2])), (qf0_0, .inl (cf0_0, 3001, .inl f0_0)), (qf0_1, .inl (cf0_1, 3001, .inl f0_1))] := hD
    replace hK : va_K (dC, dI) vwCl [(cf1_3, .int), (cf0_0, .int), (cf0_1, .int)] s := hK
    refine lv_iconst (v := 0) hx hb dX8_readClass_45 (by decide) ?_
    refine lv_istore_n (lv' := [(1, .int 0), (0, .ref h0)]) hx hb dX8_readClass_46 rfl hl (by decide) rfl (fun ls hl => ?_)
    replace hl : lv_has ls 2 [(1, .int 0), (0, .ref h0)] := lv_sub hl [0, 1] rfl
    replace hP := hP.sub (ws' := [(h0, .inr (8, [.ref qf0, .ref qf1])), (qf0, .inr (9, [.ref qf0_0, .ref qf0_1, .ref qf0_2, .int v0_3, .ref qf0_4, .ref qf0_5, .ref qf0_6, .ref qf0_7, .ref qf0_8, .int v0_9, .int u6_0, .int u6_1, .int u6_2])), (qf0_0, .inl (cf0_0, 3001, .inl f0_0)), (qf0_1, .inl (cf0_1, 3001, .inl f0_1)), (qf1, .inr (2, [.ref qf1_0, .ref qf1_1, .int x1_2_39, .ref qf1_3, .ref qf1_4, .ref qf1_5, .ref qf1_6, .ref qf1_7, .ref qf1_8, .ref qf1_9, .ref qf1_10, .ref qf1_11, .ref qf1_12, .ref qf1_13, .ref qf1_14, .ref qf1_15, .ref qf1_16, .ref qf1_17, .ref qf1_18, .ref qf1_19, .int v1_20])), (qf1_3, .inl (cf1_3, 334, .inl g1_3_39))]) [2, 3, 4, 5, 0, 1] rfl
    replace hD := hD.sub (ws' := [(h0, .inr (8, [.ref qf0, .ref qf1])), (qf0, .inr (9, [.ref qf0_0, .ref qf0_1, .ref qf0_2, .int v0_3, .ref qf0_4, .ref qf0_5, .ref qf0_6, .ref qf0_7, .ref qf0_8, .int v0_9, .int u6_0, .int u6_1, .int u6_2])), (qf0_0, .inl (cf0_0, 3001, .inl f0_0)), (qf0_1, .inl (cf0_1, 3001, .inl f0_1)), (qf1, .inr (2, [.ref qf1_0, .ref qf1_1, .int x1_2_39, .ref qf1_3, .ref qf1_4, .ref qf1_5, .ref qf1_6, .ref qf1_7, .ref qf1_8, .ref qf1_9, .ref qf1_10, .ref qf1_11, .ref qf1_12, .ref qf1_13, .ref qf1_14, .ref qf1_15, .ref qf1_16, .ref qf1_17, .ref qf1_18, .ref qf1_19, .int v1_20])), (qf1_3, .inl (cf1_3, 334, .inl g1_3_39))]) [2, 3, 4, 5, 0, 1] (by decide) rfl
    replace hK := hK.sub (tys' := [(cf0_0, .int), (cf0_1, .int), (cf1_3, .int)]) [1, 2, 0] rfl
    obtain ⟨n_47, hn_47⟩ : ∃ z : Nat, z = nf := ⟨_, rfl⟩
    obtain ⟨l1_47, el1_47⟩ : ∃ z : Int32, z = 0 := ⟨_, rfl⟩
    obtain ⟨g1_3_47, eg1_3_47⟩ : ∃ z : Nat → Int32, z = g1_3_39 := ⟨_, rfl⟩
    obtain ⟨x0_10_47, ex0_10_47⟩ : ∃ z : Int32, z = u6_0 := ⟨_, rfl⟩
    obtain ⟨x0_11_47, ex0_11_47⟩ : ∃ z : Int32, z = u6_1 := ⟨_, rfl⟩
    obtain ⟨x0_12_47, ex0_12_47⟩ : ∃ z : Int32, z = u6_2 := ⟨_, rfl⟩
    obtain ⟨x1_2_47, ex1_2_47⟩ : ∃ z : Int32, z = x1_2_39 := ⟨_, rfl⟩
    replace hsp : lp_v8_readClass_47 nf n_47 v0_3 v0_10 v0_11 v0_12 f0_0 f0_1 v1_2 f1_3 l1_47 g1_3_47 x0_10_47 x0_11_47 x0_12_47 x1_2_47 = some (o1_3, w0_10, w0_11, w0_12, w1_2) := by rw [hn_47, el1_47, eg1_3_47, ex0_10_47, ex0_11_47, ex0_12_47, ex1_2_47]; exact hsp
    replace hl : lv_has ls 2 [(1, .int l1_47), (0, .ref h0)] := by rw [el1_47]; exact hl
    replace hP : va_P (dC, dI) vwCl [(h0, .inr (8, [.ref qf0, .ref qf1])), (qf0, .inr (9, [.ref qf0_0, .ref qf0_1, .ref qf0_2, .int v0_3, .ref qf0_4, .ref qf0_5, .ref qf0_6, .ref qf0_7, .ref qf0_8, .int v0_9, .int x0_10_47, .int x0_11_47, .int x0_12_47])), (qf0_0, .inl (cf0_0, 3001, .inl f0_0)), (qf0_1, .inl (cf0_1, 3001, .inl f0_1)), (qf1, .inr (2, [.ref qf1_0, .ref qf1_1, .int x1_2_47, .ref qf1_3, .ref qf1_4, .ref qf1_5, .ref qf1_6, .ref qf1_7, .ref qf1_8, .ref qf1_9, .ref qf1_10, .ref qf1_11, .ref qf1_12, .ref qf1_13, .ref qf1_14, .ref qf1_15, .ref qf1_16, .ref qf1_17, .ref qf1_18, .ref qf1_19, .int v1_20])), (qf1_3, .inl (cf1_3, 334, .inl g1_3_47))] H := by rw [eg1_3_47, ex0_10_47, ex0_11_47, ex0_12_47, ex1_2_47]; exact hP
    replace hD : va_D A [(h0, .inr (8, [.ref qf0, .ref qf1])), (qf0, .inr (9, [.ref qf0_0, .ref qf0_1, .ref qf0_2, .int v0_3, .ref qf0_4, .ref qf0_5, .ref qf0_6, .ref qf0_7, .ref qf0_8, .int v0_9, .int x0_10_47, .int x0_11_47, .int x0_12_47])), (qf0_0, .inl (cf0_0, 3001, .inl f0_0)), (qf0_1, .inl (cf0_1, 3001, .inl f0_1)), (qf1, .inr (2, [.ref qf1_0, .ref qf1_1, .int x1_2_47, .ref qf1_3, .ref qf1_4, .ref qf1_5, .ref qf1_6, .ref qf1_7, .ref qf1_8, .ref qf1_9, .ref qf1_10, .ref qf1_11, .ref qf1_12, .ref qf1_13, .ref qf1_14, .ref qf1_15, .ref qf1_16, .ref qf1_17, .ref qf1_18, .ref qf1_19, .int v1_20])), (qf1_3, .inl (cf1_3, 334, .inl g1_3_47))] := by rw [eg1_3_47, ex0_10_47, ex0_11_47, ex0_12_47, ex1_2_47]; exact hD
    clear hn_47 el1_47 eg1_3_47 ex0_10_47 ex0_11_47 ex0_12_47 ex1_2_47
    try clear hlo
    try clear hH
    revert hsp
    revert hP
    revert hD
    revert hS
    revert hl
    revert x1_2_47
    revert x0_12_47
    revert x0_11_47
    revert x0_10_47
    revert g1_3_47
    revert l1_47
    revert ls
    revert locs
    revert H
    induction n_47 with
    | zero => intro H locs ls l1_47 g1_3_47 x0_10_47 x0_11_47 x0_12_47 x1_2_47  hl hS hD hP hsp; unfold lp_v8_readClass_47 at hsp; cases hsp
    | succ n_47 ih_47 =>
      intro H locs ls l1_47 g1_3_47 x0_10_47 x0_11_47 x0_12_47 x1_2_47  hl hS hD hP hsp
      unfold lp_v8_readClass_47 at hsp
      try dsimp only at hsp
      refine lv_iload_n hx hb dX8_readClass_47 rfl (lv_at hl 0 rfl) ?_
      refine lv_sipush (v := 3000) hx hb dX8_readClass_48 (by decide) ?_
      refine lv_icmp_ge (tgt := 86) hx hb dX8_readClass_51 (by decide) (fun c_4 => ?_) (fun c_4 => ?_)
      · rw [if_pos c_4] at hsp
        refine lv_aload_n hx hb dX8_readClass_86 rfl (lv_at hl 1 rfl) ?_
        refine lv_bipush (v := 43) hx hb dX8_readClass_87 (by decide) ?_
        obtain ⟨⟨u7_0, u7_1, u7_2⟩, hu_7, hsp⟩ := ox_bind hsp
        try dsimp only at hsp
        have hPc := hP.sub (ws' := [(h0, .inr (8, [.ref qf0, .ref qf1])), (qf0, .inr (9, [.ref qf0_0, .ref qf0_1, .ref qf0_2, .int v0_3, .ref qf0_4, .ref qf0_5, .ref qf0_6, .ref qf0_7, .ref qf0_8, .int v0_9, .int x0_10_47, .int x0_11_47, .int x0_12_47])), (qf0_0, .inl (cf0_0, 3001, .inl f0_0)), (qf0_1, .inl (cf0_1, 3001, .inl f0_1))]) [0, 1, 2, 3] rfl
        have hDc := hD.sub (ws' := [(h0, .inr (8, [.ref qf0, .ref qf1])), (qf0, .inr (9, [.ref qf0_0, .ref qf0_1, .ref qf0_2, .int v0_3, .ref qf0_4, .ref qf0_5, .ref qf0_6, .ref qf0_7, .ref qf0_8, .int v0_9, .int x0_10_47, .int x0_11_47, .int x0_12_47])), (qf0_0, .inl (cf0_0, 3001, .inl f0_0)), (qf0_1, .inl (cf0_1, 3001, .inl f0_1))]) [0, 1, 2, 3] (by decide) rfl
        have hKc := hK.sub (tys' := [(cf0_0, .int), (cf0_1, .int)]) [0, 1] rfl
        have hFc := va_free (wc := [(h0, .inr (8, [.ref qf0, .ref qf1])), (qf0, .inr (9, [.ref qf0_0, .ref qf0_1, .ref qf0_2, .int v0_3, .ref qf0_4, .ref qf0_5, .ref qf0_6, .ref qf0_7, .ref qf0_8, .int v0_9, .int x0_10_47, .int x0_11_47, .int x0_12_47])), (qf0_0, .inl (cf0_0, 3001, .inl f0_0)), (qf0_1, .inl (cf0_1, 3001, .inl f0_1))]) hD hS hA [0, 1, 2, 3] rfl
        refine va_callv (va_runV (As := [.int 43]) (rest := []) ⟨hx, hb, hml, hown, hts⟩ (t8_need l dC dI H.size h0 43 qf0 qf1 qf0_0 qf0_1 qf0_2 v0_3 qf0_4 qf0_5 qf0_6 qf0_7 qf0_8 v0_9 x0_10_47 x0_11_47 x0_12_47 cf0_0 f0_0 cf0_1 f0_1 nf u7_0 u7_1 u7_2 hu_7) (cwV 1 hts gv_h8_23 rfl rfl rfl (by decide +kernel) ⟨Nat.le_of_ble_eq_true rfl, Nat.le_of_ble_eq_true rfl⟩) ⟨fun a U g mk q => by obtain ⟨q0, q1, qP, qK, qD⟩ := q; exact ⟨q0, q1, qP, va_K.moved (u := U) (U := U.calling g mk a) (Vm.Alike.refl U.vm) qK, qD⟩, va_recv hKc hPc (ci := 8) (q0 := 0) rfl rfl, fun U hU hW => ⟨rfl, by rw [hU], by rw [hU]; exact hPc, va_K.moved hW.alike hKc, hDc.weaken (fun _ _ _ _ => trivial)⟩⟩ rfl rfl hl.1 rfl (lv_room (Nat.le_of_ble_eq_true rfl)) dX8_readClass_89 ⟨Nat.le_of_ble_eq_true rfl, Nat.le_of_ble_eq_true rfl⟩) hS (fun q _ h => hFc q h) hFc ?_
        clear hS
        intro u t H1 locs ht hvm hw hB hz1 hk1 hS
        obtain ⟨⟩ := u
        obtain ⟨hP1, hK1, hD1⟩ := hB
        rw [ht] at hP1
        have hK1 := va_K.moved hvm.symm hK1
        try dsimp only at hw
        have hPD := va_join (wr := [(qf1, .inr (2, [.ref qf1_0, .ref qf1_1, .int x1_2_47, .ref qf1_3, .ref qf1_4, .ref qf1_5, .ref qf1_6, .ref qf1_7, .ref qf1_8, .ref qf1_9, .ref qf1_10, .ref qf1_11, .ref qf1_12, .ref qf1_13, .ref qf1_14, .ref qf1_15, .ref qf1_16, .ref qf1_17, .ref qf1_18, .ref qf1_19, .int v1_20])), (qf1_3, .inl (cf1_3, 334, .inl g1_3_47))]) (w1 := [(h0, .inr (8, [.ref qf0, .ref qf1])), (qf0, .inr (9, [.ref qf0_0, .ref qf0_1, .ref qf0_2, .int v0_3, .ref qf0_4, .ref qf0_5, .ref qf0_6, .ref qf0_7, .ref qf0_8, .int v0_9, .int u7_0, .int u7_1, .int u7_2])), (qf0_0, .inl (cf0_0, 3001, .inl f0_0)), (qf0_1, .inl (cf0_1, 3001, .inl f0_1))]) hP hD [0, 1, 2, 3] [4, 5] rfl rfl (by decide) (by decide) hk1 hFc hP1 hD1
        clear hP hD
        obtain ⟨hP, hD⟩ := hPD
        replace hK := (hK.sub (tys' := [(cf1_3, .int)]) [2] rfl).app hK1
        clear hPc hDc hKc hFc hP1 hK1 hD1 hz1 hk1 ht hvm
        generalize H1 = H at hP hS ⊢
        replace hP : va_P (dC, dI) vwCl [(qf1, .inr (2, [.ref qf1_0, .ref qf1_1, .int x1_2_47, .ref qf1_3, .ref qf1_4, .ref qf1_5, .ref qf1_6, .ref qf1_7, .ref qf1_8, .ref qf1_9, .ref qf1_10, .ref qf1_11, .ref qf1_12, .ref qf1_13, .ref qf1_14, .ref qf1_15, .ref qf1_16, .ref qf1_17, .ref qf1_18, .ref qf1_19, .int v1_20])), (qf1_3, .inl (cf1_3, 334, .inl g1_3_47)), (h0, .inr (8, [.ref qf0, .ref qf1])), (qf0, .inr (9, [.ref qf0_0, .ref qf0_1, .ref qf0_2, .int v0_3, .ref qf0_4, .ref qf0_5, .ref qf0_6, .ref qf0_7, .ref qf0_8, .int v0_9, .int u7_0, .int u7_1, .int u7_2])), (qf0_0, .inl (cf0_0, 3001, .inl f0_0)), (qf0_1, .inl (cf0_1, 3001, .inl f0_1))] H := hP
        replace hD : va_D A [(qf1, .inr (2, [.ref qf1_0, .ref qf1_1, .int x1_2_47, .ref qf1_3, .ref qf1_4, .ref qf1_5, .ref qf1_6, .ref qf1_7, .ref qf1_8, .ref qf1_9, .ref qf1_10, .ref qf1_11, .ref qf1_12, .ref qf1_13, .ref qf1_14, .ref qf1_15, .ref qf1_16, .ref qf1_17, .ref qf1_18, .ref qf1_19, .int v1_20])), (qf1_3, .inl (cf1_3, 334, .inl g1_3_47)), (h0, .inr (8, [.ref qf0, .ref qf1])), (qf0, .inr (9, [.ref qf0_0, .ref qf0_1, .ref qf0_2, .int v0_3, .ref qf0_4, .ref qf0_5, .ref qf0_6, .ref qf0_7, .ref qf0_8, .int v0_9, .int u7_0, .int u7_1, .int u7_2])), (qf0_0, .inl (cf0_0, 3001, .inl f0_0)), (qf0_1, .inl (cf0_1, 3001, .inl f0_1))] := hD
        replace hK : va_K (dC, dI) vwCl [(cf1_3, .int), (cf0_0, .int), (cf0_1, .int)] s := hK
        have hr0 := Option.some.inj hsp
        clear hsp
        obtain ⟨hq0, hr1⟩ := Prod.mk.inj hr0
        clear hr0
        obtain ⟨hq1, hr2⟩ := Prod.mk.inj hr1
        clear hr1
        obtain ⟨hq2, hr3⟩ := Prod.mk.inj hr2
        clear hr2
        obtain ⟨hq3, hr4⟩ := Prod.mk.inj hr3
        clear hr3
        subst hq0
        subst hq1
        subst hq2
        subst hq3
        subst hr4
        have hP9 := hP.sub (ws' := [(h0, .inr (8, [.ref qf0, .ref qf1])), (qf0, .inr (9, [.ref qf0_0, .ref qf0_1, .ref qf0_2, .int v0_3, .ref qf0_4, .ref qf0_5, .ref qf0_6, .ref qf0_7, .ref qf0_8, .int v0_9, .int u7_0, .int u7_1, .int u7_2])), (qf0_0, .inl (cf0_0, 3001, .inl f0_0)), (qf0_1, .inl (cf0_1, 3001, .inl f0_1)), (qf1, .inr (2, [.ref qf1_0, .ref qf1_1, .int x1_2_47, .ref qf1_3, .ref qf1_4, .ref qf1_5, .ref qf1_6, .ref qf1_7, .ref qf1_8, .ref qf1_9, .ref qf1_10, .ref qf1_11, .ref qf1_12, .ref qf1_13, .ref qf1_14, .ref qf1_15, .ref qf1_16, .ref qf1_17, .ref qf1_18, .ref qf1_19, .int v1_20])), (qf1_3, .inl (cf1_3, 334, .inl g1_3_47))]) [2, 3, 4, 5, 0, 1] rfl
        have hD9 := hD.sub (ws' := [(h0, .inr (8, [.ref qf0, .ref qf1])), (qf0, .inr (9, [.ref qf0_0, .ref qf0_1, .ref qf0_2, .int v0_3, .ref qf0_4, .ref qf0_5, .ref qf0_6, .ref qf0_7, .ref qf0_8, .int v0_9, .int u7_0, .int u7_1, .int u7_2])), (qf0_0, .inl (cf0_0, 3001, .inl f0_0)), (qf0_1, .inl (cf0_1, 3001, .inl f0_1)), (qf1, .inr (2, [.ref qf1_0, .ref qf1_1, .int x1_2_47, .ref qf1_3, .ref qf1_4, .ref qf1_5, .ref qf1_6, .ref qf1_7, .ref qf1_8, .ref qf1_9, .ref qf1_10, .ref qf1_11, .ref qf1_12, .ref qf1_13, .ref qf1_14, .ref qf1_15, .ref qf1_16, .ref qf1_17, .ref qf1_18, .ref qf1_19, .int v1_20])), (qf1_3, .inl (cf1_3, 334, .inl g1_3_47))]) [2, 3, 4, 5, 0, 1] (by decide) rfl
        have hK9 := hK.sub (tys' := [(cf0_0, .int), (cf0_1, .int), (cf1_3, .int)]) [1, 2, 0] rfl
        exact W.vret hx hb hr (fun t ht hW => ⟨⟨(), rfl, trivial, by rw [ht]; exact hP9, va_K.moved hW.alike hK9, hD9⟩, hS.F ht⟩) hS.2.2 dX8_readClass_92
      · rw [if_neg c_4] at hsp
        refine lv_aload_n hx hb dX8_readClass_54 rfl (lv_at hl 1 rfl) ?_
        refine va_get (D := (dC, dI)) (ci := 8) (v := .ref qf0) (C := RX8) (T := TX8) (N := 2) hx hb hts uV_h8_X8 hown hK hP 0 rfl rfl 0 (by decide) (hts (.fieldLink RX8 7 "ClassMill$Syntax" "text" "LClassMill$Text;") mw_h8_135) (fun _ h9 => h9) rfl dX8_readClass_55 ?_
        refine va_get (D := (dC, dI)) (ci := 9) (v := .int x0_11_47) (C := RX9) (T := TX9) (N := 13) hx hb hts uV_h8_X9 hown hK hP 1 rfl rfl 11 (by decide) (hts (.fieldLink RX8 19 "ClassMill$Text" "fault" "I") mw_h8_174) (fun _ h9 => h9) rfl dX8_readClass_58 ?_
        refine lv_if_ne (tgt := 86) hx hb dX8_readClass_61 (by decide) (fun c_5 => ?_) (fun c_5 => ?_)
        · rw [if_neg c_5] at hsp
          refine lv_aload_n hx hb dX8_readClass_86 rfl (lv_at hl 1 rfl) ?_
          refine lv_bipush (v := 43) hx hb dX8_readClass_87 (by decide) ?_
          obtain ⟨⟨u8_0, u8_1, u8_2⟩, hu_8, hsp⟩ := ox_bind hsp
          try dsimp only at hsp
          have hPc := hP.sub (ws' := [(h0, .inr (8, [.ref qf0, .ref qf1])), (qf0, .inr (9, [.ref qf0_0, .ref qf0_1, .ref qf0_2, .int v0_3, .ref qf0_4, .ref qf0_5, .ref qf0_6, .ref qf0_7, .ref qf0_8, .int v0_9, .int x0_10_47, .int x0_11_47, .int x0_12_47])), (qf0_0, .inl (cf0_0, 3001, .inl f0_0)), (qf0_1, .inl (cf0_1, 3001, .inl f0_1))]) [0, 1, 2, 3] rfl
          have hDc := hD.sub (ws' := [(h0, .inr (8, [.ref qf0, .ref qf1])), (qf0, .inr (9, [.ref qf0_0, .ref qf0_1, .ref qf0_2, .int v0_3, .ref qf0_4, .ref qf0_5, .ref qf0_6, .ref qf0_7, .ref qf0_8, .int v0_9, .int x0_10_47, .int x0_11_47, .int x0_12_47])), (qf0_0, .inl (cf0_0, 3001, .inl f0_0)), (qf0_1, .inl (cf0_1, 3001, .inl f0_1))]) [0, 1, 2, 3] (by decide) rfl
          have hKc := hK.sub (tys' := [(cf0_0, .int), (cf0_1, .int)]) [0, 1] rfl
          have hFc := va_free (wc := [(h0, .inr (8, [.ref qf0, .ref qf1])), (qf0, .inr (9, [.ref qf0_0, .ref qf0_1, .ref qf0_2, .int v0_3, .ref qf0_4, .ref qf0_5, .ref qf0_6, .ref qf0_7, .ref qf0_8, .int v0_9, .int x0_10_47, .int x0_11_47, .int x0_12_47])), (qf0_0, .inl (cf0_0, 3001, .inl f0_0)), (qf0_1, .inl (cf0_1, 3001, .inl f0_1))]) hD hS hA [0, 1, 2, 3] rfl
          refine va_callv (va_runV (As := [.int 43]) (rest := []) ⟨hx, hb, hml, hown, hts⟩ (t8_need l dC dI H.size h0 43 qf0 qf1 qf0_0 qf0_1 qf0_2 v0_3 qf0_4 qf0_5 qf0_6 qf0_7 qf0_8 v0_9 x0_10_47 x0_11_47 x0_12_47 cf0_0 f0_0 cf0_1 f0_1 nf u8_0 u8_1 u8_2 hu_8) (cwV 1 hts gv_h8_23 rfl rfl rfl (by decide +kernel) ⟨Nat.le_of_ble_eq_true rfl, Nat.le_of_ble_eq_true rfl⟩) ⟨fun a U g mk q => by obtain ⟨q0, q1, qP, qK, qD⟩ := q; exact ⟨q0, q1, qP, va_K.moved (u := U) (U := U.calling g mk a) (Vm.Alike.refl U.vm) qK, qD⟩, va_recv hKc hPc (ci := 8) (q0 := 0) rfl rfl, fun U hU hW => ⟨rfl, by rw [hU], by rw [hU]; exact hPc, va_K.moved hW.alike hKc, hDc.weaken (fun _ _ _ _ => trivial)⟩⟩ rfl rfl hl.1 rfl (lv_room (Nat.le_of_ble_eq_true rfl)) dX8_readClass_89 ⟨Nat.le_of_ble_eq_true rfl, Nat.le_of_ble_eq_true rfl⟩) hS (fun q _ h => hFc q h) hFc ?_
          clear hS
          intro u t H1 locs ht hvm hw hB hz1 hk1 hS
          obtain ⟨⟩ := u
          obtain ⟨hP1, hK1, hD1⟩ := hB
          rw [ht] at hP1
          have hK1 := va_K.moved hvm.symm hK1
          try dsimp only at hw
          have hPD := va_join (wr := [(qf1, .inr (2, [.ref qf1_0, .ref qf1_1, .int x1_2_47, .ref qf1_3, .ref qf1_4, .ref qf1_5, .ref qf1_6, .ref qf1_7, .ref qf1_8, .ref qf1_9, .ref qf1_10, .ref qf1_11, .ref qf1_12, .ref qf1_13, .ref qf1_14, .ref qf1_15, .ref qf1_16, .ref qf1_17, .ref qf1_18, .ref qf1_19, .int v1_20])), (qf1_3, .inl (cf1_3, 334, .inl g1_3_47))]) (w1 := [(h0, .inr (8, [.ref qf0, .ref qf1])), (qf0, .inr (9, [.ref qf0_0, .ref qf0_1, .ref qf0_2, .int v0_3, .ref qf0_4, .ref qf0_5, .ref qf0_6, .ref qf0_7, .ref qf0_8, .int v0_9, .int u8_0, .int u8_1, .int u8_2])), (qf0_0, .inl (cf0_0, 3001, .inl f0_0)), (qf0_1, .inl (cf0_1, 3001, .inl f0_1))]) hP hD [0, 1, 2, 3] [4, 5] rfl rfl (by decide) (by decide) hk1 hFc hP1 hD1
          clear hP hD
          obtain ⟨hP, hD⟩ := hPD
          replace hK := (hK.sub (tys' := [(cf1_3, .int)]) [2] rfl).app hK1
          clear hPc hDc hKc hFc hP1 hK1 hD1 hz1 hk1 ht hvm
          generalize H1 = H at hP hS ⊢
          replace hP : va_P (dC, dI) vwCl [(qf1, .inr (2, [.ref qf1_0, .ref qf1_1, .int x1_2_47, .ref qf1_3, .ref qf1_4, .ref qf1_5, .ref qf1_6, .ref qf1_7, .ref qf1_8, .ref qf1_9, .ref qf1_10, .ref qf1_11, .ref qf1_12, .ref qf1_13, .ref qf1_14, .ref qf1_15, .ref qf1_16, .ref qf1_17, .ref qf1_18, .ref qf1_19, .int v1_20])), (qf1_3, .inl (cf1_3, 334, .inl g1_3_47)), (h0, .inr (8, [.ref qf0, .ref qf1])), (qf0, .inr (9, [.ref qf0_0, .ref qf0_1, .ref qf0_2, .int v0_3, .ref qf0_4, .ref qf0_5, .ref qf0_6, .ref qf0_7, .ref qf0_8, .int v0_9, .int u8_0, .int u8_1, .int u8_2])), (qf0_0, .inl (cf0_0, 3001, .inl f0_0)), (qf0_1, .inl (cf0_1, 3001, .inl f0_1))] H := hP
          replace hD : va_D A [(qf1, .inr (2, [.ref qf1_0, .ref qf1_1, .int x1_2_47, .ref qf1_3, .ref qf1_4, .ref qf1_5, .ref qf1_6, .ref qf1_7, .ref qf1_8, .ref qf1_9, .ref qf1_10, .ref qf1_11, .ref qf1_12, .ref qf1_13, .ref qf1_14, .ref qf1_15, .ref qf1_16, .ref qf1_17, .ref qf1_18, .ref qf1_19, .int v1_20])), (qf1_3, .inl (cf1_3, 334, .inl g1_3_47)), (h0, .inr (8, [.ref qf0, .ref qf1])), (qf0, .inr (9, [.ref qf0_0, .ref qf0_1, .ref qf0_2, .int v0_3, .ref qf0_4, .ref qf0_5, .ref qf0_6, .ref qf0_7, .ref qf0_8, .int v0_9, .int u8_0, .int u8_1, .int u8_2])), (qf0_0, .inl (cf0_0, 3001, .inl f0_0)), (qf0_1, .inl (cf0_1, 3001, .inl f0_1))] := hD
          replace hK : va_K (dC, dI) vwCl [(cf1_3, .int), (cf0_0, .int), (cf0_1, .int)] s := hK
          have hr0 := Option.some.inj hsp
          clear hsp
          obtain ⟨hq0, hr1⟩ := Prod.mk.inj hr0
          clear hr0
          obtain ⟨hq1, hr2⟩ := Prod.mk.inj hr1
          clear hr1
          obtain ⟨hq2, hr3⟩ := Prod.mk.inj hr2
          clear hr2
          obtain ⟨hq3, hr4⟩ := Prod.mk.inj hr3
          clear hr3
          subst hq0
          subst hq1
          subst hq2
          subst hq3
          subst hr4
          have hP9 := hP.sub (ws' := [(h0, .inr (8, [.ref qf0, .ref qf1])), (qf0, .inr (9, [.ref qf0_0, .ref qf0_1, .ref qf0_2, .int v0_3, .ref qf0_4, .ref qf0_5, .ref qf0_6, .ref qf0_7, .ref qf0_8, .int v0_9, .int u8_0, .int u8_1, .int u8_2])), (qf0_0, .inl (cf0_0, 3001, .inl f0_0)), (qf0_1, .inl (cf0_1, 3001, .inl f0_1)), (qf1, .inr (2, [.ref qf1_0, .ref qf1_1, .int x1_2_47, .ref qf1_3, .ref qf1_4, .ref qf1_5, .ref qf1_6, .ref qf1_7, .ref qf1_8, .ref qf1_9, .ref qf1_10, .ref qf1_11, .ref qf1_12, .ref qf1_13, .ref qf1_14, .ref qf1_15, .ref qf1_16, .ref qf1_17, .ref qf1_18, .ref qf1_19, .int v1_20])), (qf1_3, .inl (cf1_3, 334, .inl g1_3_47))]) [2, 3, 4, 5, 0, 1] rfl
          have hD9 := hD.sub (ws' := [(h0, .inr (8, [.ref qf0, .ref qf1])), (qf0, .inr (9, [.ref qf0_0, .ref qf0_1, .ref qf0_2, .int v0_3, .ref qf0_4, .ref qf0_5, .ref qf0_6, .ref qf0_7, .ref qf0_8, .int v0_9, .int u8_0, .int u8_1, .int u8_2])), (qf0_0, .inl (cf0_0, 3001, .inl f0_0)), (qf0_1, .inl (cf0_1, 3001, .inl f0_1)), (qf1, .inr (2, [.ref qf1_0, .ref qf1_1, .int x1_2_47, .ref qf1_3, .ref qf1_4, .ref qf1_5, .ref qf1_6, .ref qf1_7, .ref qf1_8, .ref qf1_9, .ref qf1_10, .ref qf1_11, .ref qf1_12, .ref qf1_13, .ref qf1_14, .ref qf1_15, .ref qf1_16, .ref qf1_17, .ref qf1_18, .ref qf1_19, .int v1_20])), (qf1_3, .inl (cf1_3, 334, .inl g1_3_47))]) [2, 3, 4, 5, 0, 1] (by decide) rfl
          have hK9 := hK.sub (tys' := [(cf0_0, .int), (cf0_1, .int), (cf1_3, .int)]) [1, 2, 0] rfl
          exact W.vret hx hb hr (fun t ht hW => ⟨⟨(), rfl, trivial, by rw [ht]; exact hP9, va_K.moved hW.alike hK9, hD9⟩, hS.F ht⟩) hS.2.2 dX8_readClass_92
        · rw [if_pos c_5] at hsp
          refine lv_aload_n hx hb dX8_readClass_64 rfl (lv_at hl 1 rfl) ?_
          refine va_get (D := (dC, dI)) (ci := 8) (v := .ref qf0) (C := RX8) (T := TX8) (N := 2) hx hb hts uV_h8_X8 hown hK hP 0 rfl rfl 0 (by decide) (hts (.fieldLink RX8 7 "ClassMill$Syntax" "text" "LClassMill$Text;") mw_h8_135) (fun _ h9 => h9) rfl dX8_readClass_65 ?_
          obtain ⟨u9_0, hu_9, hsp⟩ := ox_bind hsp
          try dsimp only at hsp
          have hPc := hP.sub (ws' := [(qf0, .inr (9, [.ref qf0_0, .ref qf0_1, .ref qf0_2, .int v0_3, .ref qf0_4, .ref qf0_5, .ref qf0_6, .ref qf0_7, .ref qf0_8, .int v0_9, .int x0_10_47, .int x0_11_47, .int x0_12_47])), (qf0_0, .inl (cf0_0, 3001, .inl f0_0))]) [1, 2] rfl
          have hDc := hD.sub (ws' := [(qf0, .inr (9, [.ref qf0_0, .ref qf0_1, .ref qf0_2, .int v0_3, .ref qf0_4, .ref qf0_5, .ref qf0_6, .ref qf0_7, .ref qf0_8, .int v0_9, .int x0_10_47, .int x0_11_47, .int x0_12_47])), (qf0_0, .inl (cf0_0, 3001, .inl f0_0))]) [1, 2] (by decide) rfl
          have hKc := hK.sub (tys' := [(cf0_0, .int)]) [0] rfl
          have hFc := va_free (wc := [(qf0, .inr (9, [.ref qf0_0, .ref qf0_1, .ref qf0_2, .int v0_3, .ref qf0_4, .ref qf0_5, .ref qf0_6, .ref qf0_7, .ref qf0_8, .int v0_9, .int x0_10_47, .int x0_11_47, .int x0_12_47])), (qf0_0, .inl (cf0_0, 3001, .inl f0_0))]) hD hS hA [1, 2] rfl
          refine va_calli (va_runV (As := []) (rest := []) ⟨hx, hb, hml, hown, hts⟩ (t9_kind l dC dI H.size qf0 qf0_0 qf0_1 qf0_2 v0_3 qf0_4 qf0_5 qf0_6 qf0_7 qf0_8 v0_9 x0_10_47 x0_11_47 x0_12_47 cf0_0 f0_0 nf u9_0 hu_9) (cwV 0 hts gv_h8_25 rfl rfl rfl (by decide +kernel) ⟨Nat.le_of_ble_eq_true rfl, Nat.le_of_ble_eq_true rfl⟩) ⟨fun a U g mk q => by obtain ⟨q0, q1, qP, qK, qD⟩ := q; exact ⟨q0, q1, qP, va_K.moved (u := U) (U := U.calling g mk a) (Vm.Alike.refl U.vm) qK, qD⟩, va_recv hKc hPc (ci := 9) (q0 := 0) rfl rfl, fun U hU hW => ⟨rfl, by rw [hU], by rw [hU]; exact hPc, va_K.moved hW.alike hKc, hDc.weaken (fun _ _ _ _ => trivial)⟩⟩ rfl rfl hl.1 rfl (lv_room (Nat.le_of_ble_eq_true rfl)) dX8_readClass_68 ⟨Nat.le_of_ble_eq_true rfl, Nat.le_of_ble_eq_true rfl⟩) hS (fun q _ h => hFc q h) hFc ?_
          clear hS
          intro r_6 u t H1 locs ht hvm hw hB hz1 hk1 hS
          obtain ⟨⟩ := u
          obtain ⟨hP1, hK1, hD1⟩ := hB
          rw [ht] at hP1
          have hK1 := va_K.moved hvm.symm hK1
          try dsimp only at hw
          have hPD := va_join (wr := [(h0, .inr (8, [.ref qf0, .ref qf1])), (qf0_1, .inl (cf0_1, 3001, .inl f0_1)), (qf1, .inr (2, [.ref qf1_0, .ref qf1_1, .int x1_2_47, .ref qf1_3, .ref qf1_4, .ref qf1_5, .ref qf1_6, .ref qf1_7, .ref qf1_8, .ref qf1_9, .ref qf1_10, .ref qf1_11, .ref qf1_12, .ref qf1_13, .ref qf1_14, .ref qf1_15, .ref qf1_16, .ref qf1_17, .ref qf1_18, .ref qf1_19, .int v1_20])), (qf1_3, .inl (cf1_3, 334, .inl g1_3_47))]) (w1 := [(qf0, .inr (9, [.ref qf0_0, .ref qf0_1, .ref qf0_2, .int v0_3, .ref qf0_4, .ref qf0_5, .ref qf0_6, .ref qf0_7, .ref qf0_8, .int v0_9, .int x0_10_47, .int x0_11_47, .int x0_12_47])), (qf0_0, .inl (cf0_0, 3001, .inl f0_0))]) hP hD [1, 2] [0, 3, 4, 5] rfl rfl (by decide) (by decide) hk1 hFc hP1 hD1
          clear hP hD
          obtain ⟨hP, hD⟩ := hPD
          replace hK := (hK.sub (tys' := [(cf0_1, .int), (cf1_3, .int)]) [1, 2] rfl).app hK1
          clear hPc hDc hKc hFc hP1 hK1 hD1 hz1 hk1 ht hvm
          generalize H1 = H at hP hS ⊢
          replace hP : va_P (dC, dI) vwCl [(h0, .inr (8, [.ref qf0, .ref qf1])), (qf0_1, .inl (cf0_1, 3001, .inl f0_1)), (qf1, .inr (2, [.ref qf1_0, .ref qf1_1, .int x1_2_47, .ref qf1_3, .ref qf1_4, .ref qf1_5, .ref qf1_6, .ref qf1_7, .ref qf1_8, .ref qf1_9, .ref qf1_10, .ref qf1_11, .ref qf1_12, .ref qf1_13, .ref qf1_14, .ref qf1_15, .ref qf1_16, .ref qf1_17, .ref qf1_18, .ref qf1_19, .int v1_20])), (qf1_3, .inl (cf1_3, 334, .inl g1_3_47)), (qf0, .inr (9, [.ref qf0_0, .ref qf0_1, .ref qf0_2, .int v0_3, .ref qf0_4, .ref qf0_5, .ref qf0_6, .ref qf0_7, .ref qf0_8, .int v0_9, .int x0_10_47, .int x0_11_47, .int x0_12_47])), (qf0_0, .inl (cf0_0, 3001, .inl f0_0))] H := hP
          replace hD : va_D A [(h0, .inr (8, [.ref qf0, .ref qf1])), (qf0_1, .inl (cf0_1, 3001, .inl f0_1)), (qf1, .inr (2, [.ref qf1_0, .ref qf1_1, .int x1_2_47, .ref qf1_3, .ref qf1_4, .ref qf1_5, .ref qf1_6, .ref qf1_7, .ref qf1_8, .ref qf1_9, .ref qf1_10, .ref qf1_11, .ref qf1_12, .ref qf1_13, .ref qf1_14, .ref qf1_15, .ref qf1_16, .ref qf1_17, .ref qf1_18, .ref qf1_19, .int v1_20])), (qf1_3, .inl (cf1_3, 334, .inl g1_3_47)), (qf0, .inr (9, [.ref qf0_0, .ref qf0_1, .ref qf0_2, .int v0_3, .ref qf0_4, .ref qf0_5, .ref qf0_6, .ref qf0_7, .ref qf0_8, .int v0_9, .int x0_10_47, .int x0_11_47, .int x0_12_47])), (qf0_0, .inl (cf0_0, 3001, .inl f0_0))] := hD
          replace hK : va_K (dC, dI) vwCl [(cf0_1, .int), (cf1_3, .int), (cf0_0, .int)] s := hK
          obtain rfl := hw
          refine lv_bipush (v := 43) hx hb dX8_readClass_71 (by decide) ?_
          refine lv_icmp_eq (tgt := 86) hx hb dX8_readClass_73 (by decide) (fun c_7 => ?_) (fun c_7 => ?_)
          · rw [if_pos c_7] at hsp
            refine lv_aload_n hx hb dX8_readClass_86 rfl (lv_at hl 1 rfl) ?_
            refine lv_bipush (v := 43) hx hb dX8_readClass_87 (by decide) ?_
            obtain ⟨⟨u10_0, u10_1, u10_2⟩, hu_10, hsp⟩ := ox_bind hsp
            try dsimp only at hsp
            have hPc := hP.sub (ws' := [(h0, .inr (8, [.ref qf0, .ref qf1])), (qf0, .inr (9, [.ref qf0_0, .ref qf0_1, .ref qf0_2, .int v0_3, .ref qf0_4, .ref qf0_5, .ref qf0_6, .ref qf0_7, .ref qf0_8, .int v0_9, .int x0_10_47, .int x0_11_47, .int x0_12_47])), (qf0_0, .inl (cf0_0, 3001, .inl f0_0)), (qf0_1, .inl (cf0_1, 3001, .inl f0_1))]) [0, 4, 5, 1] rfl
            have hDc := hD.sub (ws' := [(h0, .inr (8, [.ref qf0, .ref qf1])), (qf0, .inr (9, [.ref qf0_0, .ref qf0_1, .ref qf0_2, .int v0_3, .ref qf0_4, .ref qf0_5, .ref qf0_6, .ref qf0_7, .ref qf0_8, .int v0_9, .int x0_10_47, .int x0_11_47, .int x0_12_47])), (qf0_0, .inl (cf0_0, 3001, .inl f0_0)), (qf0_1, .inl (cf0_1, 3001, .inl f0_1))]) [0, 4, 5, 1] (by decide) rfl
            have hKc := hK.sub (tys' := [(cf0_0, .int), (cf0_1, .int)]) [2, 0] rfl
            have hFc := va_free (wc := [(h0, .inr (8, [.ref qf0, .ref qf1])), (qf0, .inr (9, [.ref qf0_0, .ref qf0_1, .ref qf0_2, .int v0_3, .ref qf0_4, .ref qf0_5, .ref qf0_6, .ref qf0_7, .ref qf0_8, .int v0_9, .int x0_10_47, .int x0_11_47, .int x0_12_47])), (qf0_0, .inl (cf0_0, 3001, .inl f0_0)), (qf0_1, .inl (cf0_1, 3001, .inl f0_1))]) hD hS hA [0, 4, 5, 1] rfl
            refine va_callv (va_runV (As := [.int 43]) (rest := []) ⟨hx, hb, hml, hown, hts⟩ (t8_need l dC dI H.size h0 43 qf0 qf1 qf0_0 qf0_1 qf0_2 v0_3 qf0_4 qf0_5 qf0_6 qf0_7 qf0_8 v0_9 x0_10_47 x0_11_47 x0_12_47 cf0_0 f0_0 cf0_1 f0_1 nf u10_0 u10_1 u10_2 hu_10) (cwV 1 hts gv_h8_23 rfl rfl rfl (by decide +kernel) ⟨Nat.le_of_ble_eq_true rfl, Nat.le_of_ble_eq_true rfl⟩) ⟨fun a U g mk q => by obtain ⟨q0, q1, qP, qK, qD⟩ := q; exact ⟨q0, q1, qP, va_K.moved (u := U) (U := U.calling g mk a) (Vm.Alike.refl U.vm) qK, qD⟩, va_recv hKc hPc (ci := 8) (q0 := 0) rfl rfl, fun U hU hW => ⟨rfl, by rw [hU], by rw [hU]; exact hPc, va_K.moved hW.alike hKc, hDc.weaken (fun _ _ _ _ => trivial)⟩⟩ rfl rfl hl.1 rfl (lv_room (Nat.le_of_ble_eq_true rfl)) dX8_readClass_89 ⟨Nat.le_of_ble_eq_true rfl, Nat.le_of_ble_eq_true rfl⟩) hS (fun q _ h => hFc q h) hFc ?_
            clear hS
            intro u t H1 locs ht hvm hw hB hz1 hk1 hS
            obtain ⟨⟩ := u
            obtain ⟨hP1, hK1, hD1⟩ := hB
            rw [ht] at hP1
            have hK1 := va_K.moved hvm.symm hK1
            try dsimp only at hw
            have hPD := va_join (wr := [(qf1, .inr (2, [.ref qf1_0, .ref qf1_1, .int x1_2_47, .ref qf1_3, .ref qf1_4, .ref qf1_5, .ref qf1_6, .ref qf1_7, .ref qf1_8, .ref qf1_9, .ref qf1_10, .ref qf1_11, .ref qf1_12, .ref qf1_13, .ref qf1_14, .ref qf1_15, .ref qf1_16, .ref qf1_17, .ref qf1_18, .ref qf1_19, .int v1_20])), (qf1_3, .inl (cf1_3, 334, .inl g1_3_47))]) (w1 := [(h0, .inr (8, [.ref qf0, .ref qf1])), (qf0, .inr (9, [.ref qf0_0, .ref qf0_1, .ref qf0_2, .int v0_3, .ref qf0_4, .ref qf0_5, .ref qf0_6, .ref qf0_7, .ref qf0_8, .int v0_9, .int u10_0, .int u10_1, .int u10_2])), (qf0_0, .inl (cf0_0, 3001, .inl f0_0)), (qf0_1, .inl (cf0_1, 3001, .inl f0_1))]) hP hD [0, 4, 5, 1] [2, 3] rfl rfl (by decide) (by decide) hk1 hFc hP1 hD1
            clear hP hD
            obtain ⟨hP, hD⟩ := hPD
            replace hK := (hK.sub (tys' := [(cf1_3, .int)]) [1] rfl).app hK1
            clear hPc hDc hKc hFc hP1 hK1 hD1 hz1 hk1 ht hvm
            generalize H1 = H at hP hS ⊢
            replace hP : va_P (dC, dI) vwCl [(qf1, .inr (2, [.ref qf1_0, .ref qf1_1, .int x1_2_47, .ref qf1_3, .ref qf1_4, .ref qf1_5, .ref qf1_6, .ref qf1_7, .ref qf1_8, .ref qf1_9, .ref qf1_10, .ref qf1_11, .ref qf1_12, .ref qf1_13, .ref qf1_14, .ref qf1_15, .ref qf1_16, .ref qf1_17, .ref qf1_18, .ref qf1_19, .int v1_20])), (qf1_3, .inl (cf1_3, 334, .inl g1_3_47)), (h0, .inr (8, [.ref qf0, .ref qf1])), (qf0, .inr (9, [.ref qf0_0, .ref qf0_1, .ref qf0_2, .int v0_3, .ref qf0_4, .ref qf0_5, .ref qf0_6, .ref qf0_7, .ref qf0_8, .int v0_9, .int u10_0, .int u10_1, .int u10_2])), (qf0_0, .inl (cf0_0, 3001, .inl f0_0)), (qf0_1, .inl (cf0_1, 3001, .inl f0_1))] H := hP
            replace hD : va_D A [(qf1, .inr (2, [.ref qf1_0, .ref qf1_1, .int x1_2_47, .ref qf1_3, .ref qf1_4, .ref qf1_5, .ref qf1_6, .ref qf1_7, .ref qf1_8, .ref qf1_9, .ref qf1_10, .ref qf1_11, .ref qf1_12, .ref qf1_13, .ref qf1_14, .ref qf1_15, .ref qf1_16, .ref qf1_17, .ref qf1_18, .ref qf1_19, .int v1_20])), (qf1_3, .inl (cf1_3, 334, .inl g1_3_47)), (h0, .inr (8, [.ref qf0, .ref qf1])), (qf0, .inr (9, [.ref qf0_0, .ref qf0_1, .ref qf0_2, .int v0_3, .ref qf0_4, .ref qf0_5, .ref qf0_6, .ref qf0_7, .ref qf0_8, .int v0_9, .int u10_0, .int u10_1, .int u10_2])), (qf0_0, .inl (cf0_0, 3001, .inl f0_0)), (qf0_1, .inl (cf0_1, 3001, .inl f0_1))] := hD
            replace hK : va_K (dC, dI) vwCl [(cf1_3, .int), (cf0_0, .int), (cf0_1, .int)] s := hK
            have hr0 := Option.some.inj hsp
            clear hsp
            obtain ⟨hq0, hr1⟩ := Prod.mk.inj hr0
            clear hr0
            obtain ⟨hq1, hr2⟩ := Prod.mk.inj hr1
            clear hr1
            obtain ⟨hq2, hr3⟩ := Prod.mk.inj hr2
            clear hr2
            obtain ⟨hq3, hr4⟩ := Prod.mk.inj hr3
            clear hr3
            subst hq0
            subst hq1
            subst hq2
            subst hq3
            subst hr4
            have hP9 := hP.sub (ws' := [(h0, .inr (8, [.ref qf0, .ref qf1])), (qf0, .inr (9, [.ref qf0_0, .ref qf0_1, .ref qf0_2, .int v0_3, .ref qf0_4, .ref qf0_5, .ref qf0_6, .ref qf0_7, .ref qf0_8, .int v0_9, .int u10_0, .int u10_1, .int u10_2])), (qf0_0, .inl (cf0_0, 3001, .inl f0_0)), (qf0_1, .inl (cf0_1, 3001, .inl f0_1)), (qf1, .inr (2, [.ref qf1_0, .ref qf1_1, .int x1_2_47, .ref qf1_3, .ref qf1_4, .ref qf1_5, .ref qf1_6, .ref qf1_7, .ref qf1_8, .ref qf1_9, .ref qf1_10, .ref qf1_11, .ref qf1_12, .ref qf1_13, .ref qf1_14, .ref qf1_15, .ref qf1_16, .ref qf1_17, .ref qf1_18, .ref qf1_19, .int v1_20])), (qf1_3, .inl (cf1_3, 334, .inl g1_3_47))]) [2, 3, 4, 5, 0, 1] rfl
            have hD9 := hD.sub (ws' := [(h0, .inr (8, [.ref qf0, .ref qf1])), (qf0, .inr (9, [.ref qf0_0, .ref qf0_1, .ref qf0_2, .int v0_3, .ref qf0_4, .ref qf0_5, .ref qf0_6, .ref qf0_7, .ref qf0_8, .int v0_9, .int u10_0, .int u10_1, .int u10_2])), (qf0_0, .inl (cf0_0, 3001, .inl f0_0)), (qf0_1, .inl (cf0_1, 3001, .inl f0_1)), (qf1, .inr (2, [.ref qf1_0, .ref qf1_1, .int x1_2_47, .ref qf1_3, .ref qf1_4, .ref qf1_5, .ref qf1_6, .ref qf1_7, .ref qf1_8, .ref qf1_9, .ref qf1_10, .ref qf1_11, .ref qf1_12, .ref qf1_13, .ref qf1_14, .ref qf1_15, .ref qf1_16, .ref qf1_17, .ref qf1_18, .ref qf1_19, .int v1_20])), (qf1_3, .inl (cf1_3, 334, .inl g1_3_47))]) [2, 3, 4, 5, 0, 1] (by decide) rfl
            have hK9 := hK.sub (tys' := [(cf0_0, .int), (cf0_1, .int), (cf1_3, .int)]) [1, 2, 0] rfl
            exact W.vret hx hb hr (fun t ht hW => ⟨⟨(), rfl, trivial, by rw [ht]; exact hP9, va_K.moved hW.alike hK9, hD9⟩, hS.F ht⟩) hS.2.2 dX8_readClass_92
          · rw [if_neg c_7] at hsp
            refine lv_aload_n hx hb dX8_readClass_76 rfl (lv_at hl 1 rfl) ?_
            obtain ⟨⟨u11_0, u11_1, u11_2⟩, hu_11, hsp⟩ := ox_bind hsp
            try dsimp only at hsp
            have hPc := hP.sub (ws' := [(h0, .inr (8, [.ref qf0, .ref qf1])), (qf0, .inr (9, [.ref qf0_0, .ref qf0_1, .ref qf0_2, .int v0_3, .ref qf0_4, .ref qf0_5, .ref qf0_6, .ref qf0_7, .ref qf0_8, .int v0_9, .int x0_10_47, .int x0_11_47, .int x0_12_47])), (qf0_0, .inl (cf0_0, 3001, .inl f0_0)), (qf0_1, .inl (cf0_1, 3001, .inl f0_1))]) [0, 4, 5, 1] rfl
            have hDc := hD.sub (ws' := [(h0, .inr (8, [.ref qf0, .ref qf1])), (qf0, .inr (9, [.ref qf0_0, .ref qf0_1, .ref qf0_2, .int v0_3, .ref qf0_4, .ref qf0_5, .ref qf0_6, .ref qf0_7, .ref qf0_8, .int v0_9, .int x0_10_47, .int x0_11_47, .int x0_12_47])), (qf0_0, .inl (cf0_0, 3001, .inl f0_0)), (qf0_1, .inl (cf0_1, 3001, .inl f0_1))]) [0, 4, 5, 1] (by decide) rfl
            have hKc := hK.sub (tys' := [(cf0_0, .int), (cf0_1, .int)]) [2, 0] rfl
            have hFc := va_free (wc := [(h0, .inr (8, [.ref qf0, .ref qf1])), (qf0, .inr (9, [.ref qf0_0, .ref qf0_1, .ref qf0_2, .int v0_3, .ref qf0_4, .ref qf0_5, .ref qf0_6, .ref qf0_7, .ref qf0_8, .int v0_9, .int x0_10_47, .int x0_11_47, .int x0_12_47])), (qf0_0, .inl (cf0_0, 3001, .inl f0_0)), (qf0_1, .inl (cf0_1, 3001, .inl f0_1))]) hD hS hA [0, 4, 5, 1] rfl
            refine va_callv (va_runV (As := []) (rest := []) ⟨hx, hb, hml, hown, hts⟩ (v8_readMember l dC dI H.size h0 qf0 qf1 qf0_0 qf0_1 qf0_2 v0_3 qf0_4 qf0_5 qf0_6 qf0_7 qf0_8 v0_9 x0_10_47 x0_11_47 x0_12_47 cf0_0 f0_0 cf0_1 f0_1 nf u11_0 u11_1 u11_2 hu_11) (cwV 0 hts gv_h8_44 rfl rfl rfl (by decide +kernel) ⟨Nat.le_of_ble_eq_true rfl, Nat.le_of_ble_eq_true rfl⟩) ⟨fun a U g mk q => by obtain ⟨q0, q1, qP, qK, qD⟩ := q; exact ⟨q0, q1, qP, va_K.moved (u := U) (U := U.calling g mk a) (Vm.Alike.refl U.vm) qK, qD⟩, va_recv hKc hPc (ci := 8) (q0 := 0) rfl rfl, fun U hU hW => ⟨rfl, by rw [hU], by rw [hU]; exact hPc, va_K.moved hW.alike hKc, hDc.weaken (fun _ _ _ _ => trivial)⟩⟩ rfl rfl hl.1 rfl (lv_room (Nat.le_of_ble_eq_true rfl)) dX8_readClass_77 ⟨Nat.le_of_ble_eq_true rfl, Nat.le_of_ble_eq_true rfl⟩) hS (fun q _ h => hFc q h) hFc ?_
            clear hS
            intro u t H1 locs ht hvm hw hB hz1 hk1 hS
            obtain ⟨⟩ := u
            obtain ⟨hP1, hK1, hD1⟩ := hB
            rw [ht] at hP1
            have hK1 := va_K.moved hvm.symm hK1
            try dsimp only at hw
            have hPD := va_join (wr := [(qf1, .inr (2, [.ref qf1_0, .ref qf1_1, .int x1_2_47, .ref qf1_3, .ref qf1_4, .ref qf1_5, .ref qf1_6, .ref qf1_7, .ref qf1_8, .ref qf1_9, .ref qf1_10, .ref qf1_11, .ref qf1_12, .ref qf1_13, .ref qf1_14, .ref qf1_15, .ref qf1_16, .ref qf1_17, .ref qf1_18, .ref qf1_19, .int v1_20])), (qf1_3, .inl (cf1_3, 334, .inl g1_3_47))]) (w1 := [(h0, .inr (8, [.ref qf0, .ref qf1])), (qf0, .inr (9, [.ref qf0_0, .ref qf0_1, .ref qf0_2, .int v0_3, .ref qf0_4, .ref qf0_5, .ref qf0_6, .ref qf0_7, .ref qf0_8, .int v0_9, .int u11_0, .int u11_1, .int u11_2])), (qf0_0, .inl (cf0_0, 3001, .inl f0_0)), (qf0_1, .inl (cf0_1, 3001, .inl f0_1))]) hP hD [0, 4, 5, 1] [2, 3] rfl rfl (by decide) (by decide) hk1 hFc hP1 hD1
            clear hP hD
            obtain ⟨hP, hD⟩ := hPD
            replace hK := (hK.sub (tys' := [(cf1_3, .int)]) [1] rfl).app hK1
            clear hPc hDc hKc hFc hP1 hK1 hD1 hz1 hk1 ht hvm
            generalize H1 = H at hP hS ⊢
            replace hP : va_P (dC, dI) vwCl [(qf1, .inr (2, [.ref qf1_0, .ref qf1_1, .int x1_2_47, .ref qf1_3, .ref qf1_4, .ref qf1_5, .ref qf1_6, .ref qf1_7, .ref qf1_8, .ref qf1_9, .ref qf1_10, .ref qf1_11, .ref qf1_12, .ref qf1_13, .ref qf1_14, .ref qf1_15, .ref qf1_16, .ref qf1_17, .ref qf1_18, .ref qf1_19, .int v1_20])), (qf1_3, .inl (cf1_3, 334, .inl g1_3_47)), (h0, .inr (8, [.ref qf0, .ref qf1])), (qf0, .inr (9, [.ref qf0_0, .ref qf0_1, .ref qf0_2, .int v0_3, .ref qf0_4, .ref qf0_5, .ref qf0_6, .ref qf0_7, .ref qf0_8, .int v0_9, .int u11_0, .int u11_1, .int u11_2])), (qf0_0, .inl (cf0_0, 3001, .inl f0_0)), (qf0_1, .inl (cf0_1, 3001, .inl f0_1))] H := hP
            replace hD : va_D A [(qf1, .inr (2, [.ref qf1_0, .ref qf1_1, .int x1_2_47, .ref qf1_3, .ref qf1_4, .ref qf1_5, .ref qf1_6, .ref qf1_7, .ref qf1_8, .ref qf1_9, .ref qf1_10, .ref qf1_11, .ref qf1_12, .ref qf1_13, .ref qf1_14, .ref qf1_15, .ref qf1_16, .ref qf1_17, .ref qf1_18, .ref qf1_19, .int v1_20])), (qf1_3, .inl (cf1_3, 334, .inl g1_3_47)), (h0, .inr (8, [.ref qf0, .ref qf1])), (qf0, .inr (9, [.ref qf0_0, .ref qf0_1, .ref qf0_2, .int v0_3, .ref qf0_4, .ref qf0_5, .ref qf0_6, .ref qf0_7, .ref qf0_8, .int v0_9, .int u11_0, .int u11_1, .int u11_2])), (qf0_0, .inl (cf0_0, 3001, .inl f0_0)), (qf0_1, .inl (cf0_1, 3001, .inl f0_1))] := hD
            replace hK : va_K (dC, dI) vwCl [(cf1_3, .int), (cf0_0, .int), (cf0_1, .int)] s := hK
            refine lv_iinc (v := (l1_47 + 1)) (lv' := [(1, .int (l1_47 + 1)), (0, .ref h0)]) hx hb dX8_readClass_80 hl (k := 0) rfl rfl (by decide) rfl (fun ls hl => ?_)
            refine lv_goto (tgt := 47) hx hb dX8_readClass_83 (by decide) ?_
            exact ih_47 H locs ls (l1_47 + 1) g1_3_47 u11_0 u11_1 u11_2 x1_2_47 (lv_sub hl [0, 1] rfl) hS (hD.sub (ws' := [(h0, .inr (8, [.ref qf0, .ref qf1])), (qf0, .inr (9, [.ref qf0_0, .ref qf0_1, .ref qf0_2, .int v0_3, .ref qf0_4, .ref qf0_5, .ref qf0_6, .ref qf0_7, .ref qf0_8, .int v0_9, .int u11_0, .int u11_1, .int u11_2])), (qf0_0, .inl (cf0_0, 3001, .inl f0_0)), (qf0_1, .inl (cf0_1, 3001, .inl f0_1)), (qf1, .inr (2, [.ref qf1_0, .ref qf1_1, .int x1_2_47, .ref qf1_3, .ref qf1_4, .ref qf1_5, .ref qf1_6, .ref qf1_7, .ref qf1_8, .ref qf1_9, .ref qf1_10, .ref qf1_11, .ref qf1_12, .ref qf1_13, .ref qf1_14, .ref qf1_15, .ref qf1_16, .ref qf1_17, .ref qf1_18, .ref qf1_19, .int v1_20])), (qf1_3, .inl (cf1_3, 334, .inl g1_3_47))]) [2, 3, 4, 5, 0, 1] (by decide) rfl) (hP.sub (ws' := [(h0, .inr (8, [.ref qf0, .ref qf1])), (qf0, .inr (9, [.ref qf0_0, .ref qf0_1, .ref qf0_2, .int v0_3, .ref qf0_4, .ref qf0_5, .ref qf0_6, .ref qf0_7, .ref qf0_8, .int v0_9, .int u11_0, .int u11_1, .int u11_2])), (qf0_0, .inl (cf0_0, 3001, .inl f0_0)), (qf0_1, .inl (cf0_1, 3001, .inl f0_1)), (qf1, .inr (2, [.ref qf1_0, .ref qf1_1, .int x1_2_47, .ref qf1_3, .ref qf1_4, .ref qf1_5, .ref qf1_6, .ref qf1_7, .ref qf1_8, .ref qf1_9, .ref qf1_10, .ref qf1_11, .ref qf1_12, .ref qf1_13, .ref qf1_14, .ref qf1_15, .ref qf1_16, .ref qf1_17, .ref qf1_18, .ref qf1_19, .int v1_20])), (qf1_3, .inl (cf1_3, 334, .inl g1_3_47))]) [2, 3, 4, 5, 0, 1] rfl) hsp
  intro hj_39
  refine lv_aload_n hx hb dX8_readClass_0 rfl (lv_at hl 0 rfl) ?_
  refine lv_bipush (v := 13) hx hb dX8_readClass_1 (by decide) ?_
  obtain ⟨⟨u1_0, u1_1, u1_2⟩, hu_1, hsp⟩ := ox_bind hsp
  try dsimp only at hsp
  have hPc := hP.sub (ws' := [(h0, .inr (8, [.ref qf0, .ref qf1])), (qf0, .inr (9, [.ref qf0_0, .ref qf0_1, .ref qf0_2, .int v0_3, .ref qf0_4, .ref qf0_5, .ref qf0_6, .ref qf0_7, .ref qf0_8, .int v0_9, .int v0_10, .int v0_11, .int v0_12])), (qf0_0, .inl (cf0_0, 3001, .inl f0_0)), (qf0_1, .inl (cf0_1, 3001, .inl f0_1))]) [0, 1, 2, 3] rfl
  have hDc := hD.sub (ws' := [(h0, .inr (8, [.ref qf0, .ref qf1])), (qf0, .inr (9, [.ref qf0_0, .ref qf0_1, .ref qf0_2, .int v0_3, .ref qf0_4, .ref qf0_5, .ref qf0_6, .ref qf0_7, .ref qf0_8, .int v0_9, .int v0_10, .int v0_11, .int v0_12])), (qf0_0, .inl (cf0_0, 3001, .inl f0_0)), (qf0_1, .inl (cf0_1, 3001, .inl f0_1))]) [0, 1, 2, 3] (by decide) rfl
  have hKc := hK.sub (tys' := [(cf0_0, .int), (cf0_1, .int)]) [0, 1] rfl
  have hFc := va_free (wc := [(h0, .inr (8, [.ref qf0, .ref qf1])), (qf0, .inr (9, [.ref qf0_0, .ref qf0_1, .ref qf0_2, .int v0_3, .ref qf0_4, .ref qf0_5, .ref qf0_6, .ref qf0_7, .ref qf0_8, .int v0_9, .int v0_10, .int v0_11, .int v0_12])), (qf0_0, .inl (cf0_0, 3001, .inl f0_0)), (qf0_1, .inl (cf0_1, 3001, .inl f0_1))]) hD hS hA [0, 1, 2, 3] rfl
  refine va_callv (va_runV (As := [.int 13]) (rest := []) ⟨hx, hb, hml, hown, hts⟩ (t8_need l dC dI H.size h0 13 qf0 qf1 qf0_0 qf0_1 qf0_2 v0_3 qf0_4 qf0_5 qf0_6 qf0_7 qf0_8 v0_9 v0_10 v0_11 v0_12 cf0_0 f0_0 cf0_1 f0_1 nf u1_0 u1_1 u1_2 hu_1) (cwV 1 hts gv_h8_23 rfl rfl rfl (by decide +kernel) ⟨Nat.le_of_ble_eq_true rfl, Nat.le_of_ble_eq_true rfl⟩) ⟨fun a U g mk q => by obtain ⟨q0, q1, qP, qK, qD⟩ := q; exact ⟨q0, q1, qP, va_K.moved (u := U) (U := U.calling g mk a) (Vm.Alike.refl U.vm) qK, qD⟩, va_recv hKc hPc (ci := 8) (q0 := 0) rfl rfl, fun U hU hW => ⟨rfl, by rw [hU], by rw [hU]; exact hPc, va_K.moved hW.alike hKc, hDc.weaken (fun _ _ _ _ => trivial)⟩⟩ rfl rfl hl.1 rfl (lv_room (Nat.le_of_ble_eq_true rfl)) dX8_readClass_3 ⟨Nat.le_of_ble_eq_true rfl, Nat.le_of_ble_eq_true rfl⟩) hS (fun q _ h => hFc q h) hFc ?_
  clear hS
  intro u t H1 locs ht hvm hw hB hz1 hk1 hS
  obtain ⟨⟩ := u
  obtain ⟨hP1, hK1, hD1⟩ := hB
  rw [ht] at hP1
  have hK1 := va_K.moved hvm.symm hK1
  try dsimp only at hw
  have hPD := va_join (wr := [(qf1, .inr (2, [.ref qf1_0, .ref qf1_1, .int v1_2, .ref qf1_3, .ref qf1_4, .ref qf1_5, .ref qf1_6, .ref qf1_7, .ref qf1_8, .ref qf1_9, .ref qf1_10, .ref qf1_11, .ref qf1_12, .ref qf1_13, .ref qf1_14, .ref qf1_15, .ref qf1_16, .ref qf1_17, .ref qf1_18, .ref qf1_19, .int v1_20])), (qf1_3, .inl (cf1_3, 334, .inl f1_3))]) (w1 := [(h0, .inr (8, [.ref qf0, .ref qf1])), (qf0, .inr (9, [.ref qf0_0, .ref qf0_1, .ref qf0_2, .int v0_3, .ref qf0_4, .ref qf0_5, .ref qf0_6, .ref qf0_7, .ref qf0_8, .int v0_9, .int u1_0, .int u1_1, .int u1_2])), (qf0_0, .inl (cf0_0, 3001, .inl f0_0)), (qf0_1, .inl (cf0_1, 3001, .inl f0_1))]) hP hD [0, 1, 2, 3] [4, 5] rfl rfl (by decide) (by decide) hk1 hFc hP1 hD1
  clear hP hD
  obtain ⟨hP, hD⟩ := hPD
  replace hK := (hK.sub (tys' := [(cf1_3, .int)]) [2] rfl).app hK1
  clear hPc hDc hKc hFc hP1 hK1 hD1 hz1 hk1 ht hvm
  generalize H1 = H at hP hS ⊢
  replace hP : va_P (dC, dI) vwCl [(qf1, .inr (2, [.ref qf1_0, .ref qf1_1, .int v1_2, .ref qf1_3, .ref qf1_4, .ref qf1_5, .ref qf1_6, .ref qf1_7, .ref qf1_8, .ref qf1_9, .ref qf1_10, .ref qf1_11, .ref qf1_12, .ref qf1_13, .ref qf1_14, .ref qf1_15, .ref qf1_16, .ref qf1_17, .ref qf1_18, .ref qf1_19, .int v1_20])), (qf1_3, .inl (cf1_3, 334, .inl f1_3)), (h0, .inr (8, [.ref qf0, .ref qf1])), (qf0, .inr (9, [.ref qf0_0, .ref qf0_1, .ref qf0_2, .int v0_3, .ref qf0_4, .ref qf0_5, .ref qf0_6, .ref qf0_7, .ref qf0_8, .int v0_9, .int u1_0, .int u1_1, .int u1_2])), (qf0_0, .inl (cf0_0, 3001, .inl f0_0)), (qf0_1, .inl (cf0_1, 3001, .inl f0_1))] H := hP
  replace hD : va_D A [(qf1, .inr (2, [.ref qf1_0, .ref qf1_1, .int v1_2, .ref qf1_3, .ref qf1_4, .ref qf1_5, .ref qf1_6, .ref qf1_7, .ref qf1_8, .ref qf1_9, .ref qf1_10, .ref qf1_11, .ref qf1_12, .ref qf1_13, .ref qf1_14, .ref qf1_15, .ref qf1_16, .ref qf1_17, .ref qf1_18, .ref qf1_19, .int v1_20])), (qf1_3, .inl (cf1_3, 334, .inl f1_3)), (h0, .inr (8, [.ref qf0, .ref qf1])), (qf0, .inr (9, [.ref qf0_0, .ref qf0_1, .ref qf0_2, .int v0_3, .ref qf0_4, .ref qf0_5, .ref qf0_6, .ref qf0_7, .ref qf0_8, .int v0_9, .int u1_0, .int u1_1, .int u1_2])), (qf0_0, .inl (cf0_0, 3001, .inl f0_0)), (qf0_1, .inl (cf0_1, 3001, .inl f0_1))] := hD
  replace hK : va_K (dC, dI) vwCl [(cf1_3, .int), (cf0_0, .int), (cf0_1, .int)] s := hK
  refine lv_aload_n hx hb dX8_readClass_6 rfl (lv_at hl 0 rfl) ?_
  refine va_get (D := (dC, dI)) (ci := 8) (v := .ref qf1) (C := RX8) (T := TX8) (N := 2) hx hb hts uV_h8_X8 hown hK hP 2 rfl rfl 1 (by decide) (hts (.fieldLink RX8 13 "ClassMill$Syntax" "heads" "LClassMill$Heads;") mw_h8_183) (fun _ h9 => h9) rfl dX8_readClass_7 ?_
  refine lv_aload_n hx hb dX8_readClass_10 rfl (lv_at hl 0 rfl) ?_
  refine va_get (D := (dC, dI)) (ci := 8) (v := .ref qf0) (C := RX8) (T := TX8) (N := 2) hx hb hts uV_h8_X8 hown hK hP 2 rfl rfl 0 (by decide) (hts (.fieldLink RX8 7 "ClassMill$Syntax" "text" "LClassMill$Text;") mw_h8_135) (fun _ h9 => h9) rfl dX8_readClass_11 ?_
  refine va_get (D := (dC, dI)) (ci := 9) (v := .int u1_0) (C := RX9) (T := TX9) (N := 13) hx hb hts uV_h8_X9 hown hK hP 3 rfl rfl 10 (by decide) (hts (.fieldLink RX8 30 "ClassMill$Text" "pos" "I") mw_h8_136) (fun _ h9 => h9) rfl dX8_readClass_14 ?_
  obtain ⟨⟨g902_0, u2_1⟩, hu_2, hsp⟩ := ox_bind hsp
  try dsimp only at hsp
  have hPc := hP.sub (ws' := [(qf1, .inr (2, [.ref qf1_0, .ref qf1_1, .int v1_2, .ref qf1_3, .ref qf1_4, .ref qf1_5, .ref qf1_6, .ref qf1_7, .ref qf1_8, .ref qf1_9, .ref qf1_10, .ref qf1_11, .ref qf1_12, .ref qf1_13, .ref qf1_14, .ref qf1_15, .ref qf1_16, .ref qf1_17, .ref qf1_18, .ref qf1_19, .int v1_20])), (qf1_3, .inl (cf1_3, 334, .inl f1_3))]) [0, 1] rfl
  have hDc := hD.sub (ws' := [(qf1, .inr (2, [.ref qf1_0, .ref qf1_1, .int v1_2, .ref qf1_3, .ref qf1_4, .ref qf1_5, .ref qf1_6, .ref qf1_7, .ref qf1_8, .ref qf1_9, .ref qf1_10, .ref qf1_11, .ref qf1_12, .ref qf1_13, .ref qf1_14, .ref qf1_15, .ref qf1_16, .ref qf1_17, .ref qf1_18, .ref qf1_19, .int v1_20])), (qf1_3, .inl (cf1_3, 334, .inl f1_3))]) [0, 1] (by decide) rfl
  have hKc := hK.sub (tys' := [(cf1_3, .int)]) [0] rfl
  have hFc := va_free (wc := [(qf1, .inr (2, [.ref qf1_0, .ref qf1_1, .int v1_2, .ref qf1_3, .ref qf1_4, .ref qf1_5, .ref qf1_6, .ref qf1_7, .ref qf1_8, .ref qf1_9, .ref qf1_10, .ref qf1_11, .ref qf1_12, .ref qf1_13, .ref qf1_14, .ref qf1_15, .ref qf1_16, .ref qf1_17, .ref qf1_18, .ref qf1_19, .int v1_20])), (qf1_3, .inl (cf1_3, 334, .inl f1_3))]) hD hS hA [0, 1] rfl
  refine va_callv (va_runV (As := [.int u1_0]) (rest := []) ⟨hx, hb, hml, hown, hts⟩ (t2_addClass l dC dI H.size qf1 u1_0 qf1_0 qf1_1 v1_2 qf1_3 qf1_4 qf1_5 qf1_6 qf1_7 qf1_8 qf1_9 qf1_10 qf1_11 qf1_12 qf1_13 qf1_14 qf1_15 qf1_16 qf1_17 qf1_18 qf1_19 v1_20 cf1_3 f1_3 nf g902_0 u2_1 hu_2) (cwV 1 hts gv_h8_32 rfl rfl rfl (by decide +kernel) ⟨Nat.le_of_ble_eq_true rfl, Nat.le_of_ble_eq_true rfl⟩) ⟨fun a U g mk q => by obtain ⟨q0, q1, qP, qK, qD⟩ := q; exact ⟨q0, q1, qP, va_K.moved (u := U) (U := U.calling g mk a) (Vm.Alike.refl U.vm) qK, qD⟩, va_recv hKc hPc (ci := 2) (q0 := 0) rfl rfl, fun U hU hW => ⟨rfl, by rw [hU], by rw [hU]; exact hPc, va_K.moved hW.alike hKc, hDc.weaken (fun _ _ _ _ => trivial)⟩⟩ rfl rfl hl.1 rfl (lv_room (Nat.le_of_ble_eq_true rfl)) dX8_readClass_17 ⟨Nat.le_of_ble_eq_true rfl, Nat.le_of_ble_eq_true rfl⟩) hS (fun q _ h => hFc q h) hFc ?_
  clear hS
  intro u t H1 locs ht hvm hw hB hz1 hk1 hS
  obtain ⟨⟩ := u
  obtain ⟨hP1, hK1, hD1⟩ := hB
  rw [ht] at hP1
  have hK1 := va_K.moved hvm.symm hK1
  try dsimp only at hw
  have hPD := va_join (wr := [(h0, .inr (8, [.ref qf0, .ref qf1])), (qf0, .inr (9, [.ref qf0_0, .ref qf0_1, .ref qf0_2, .int v0_3, .ref qf0_4, .ref qf0_5, .ref qf0_6, .ref qf0_7, .ref qf0_8, .int v0_9, .int u1_0, .int u1_1, .int u1_2])), (qf0_0, .inl (cf0_0, 3001, .inl f0_0)), (qf0_1, .inl (cf0_1, 3001, .inl f0_1))]) (w1 := [(qf1, .inr (2, [.ref qf1_0, .ref qf1_1, .int u2_1, .ref qf1_3, .ref qf1_4, .ref qf1_5, .ref qf1_6, .ref qf1_7, .ref qf1_8, .ref qf1_9, .ref qf1_10, .ref qf1_11, .ref qf1_12, .ref qf1_13, .ref qf1_14, .ref qf1_15, .ref qf1_16, .ref qf1_17, .ref qf1_18, .ref qf1_19, .int v1_20])), (qf1_3, .inl (cf1_3, 334, .inl g902_0))]) hP hD [0, 1] [2, 3, 4, 5] rfl rfl (by decide) (by decide) hk1 hFc hP1 hD1
  clear hP hD
  obtain ⟨hP, hD⟩ := hPD
  replace hK := (hK.sub (tys' := [(cf0_0, .int), (cf0_1, .int)]) [1, 2] rfl).app hK1
  clear hPc hDc hKc hFc hP1 hK1 hD1 hz1 hk1 ht hvm
  generalize H1 = H at hP hS ⊢
  replace hP : va_P (dC, dI) vwCl [(h0, .inr (8, [.ref qf0, .ref qf1])), (qf0, .inr (9, [.ref qf0_0, .ref qf0_1, .ref qf0_2, .int v0_3, .ref qf0_4, .ref qf0_5, .ref qf0_6, .ref qf0_7, .ref qf0_8, .int v0_9, .int u1_0, .int u1_1, .int u1_2])), (qf0_0, .inl (cf0_0, 3001, .inl f0_0)), (qf0_1, .inl (cf0_1, 3001, .inl f0_1)), (qf1, .inr (2, [.ref qf1_0, .ref qf1_1, .int u2_1, .ref qf1_3, .ref qf1_4, .ref qf1_5, .ref qf1_6, .ref qf1_7, .ref qf1_8, .ref qf1_9, .ref qf1_10, .ref qf1_11, .ref qf1_12, .ref qf1_13, .ref qf1_14, .ref qf1_15, .ref qf1_16, .ref qf1_17, .ref qf1_18, .ref qf1_19, .int v1_20])), (qf1_3, .inl (cf1_3, 334, .inl g902_0))] H := hP
  replace hD : va_D A [(h0, .inr (8, [.ref qf0, .ref qf1])), (qf0, .inr (9, [.ref qf0_0, .ref qf0_1, .ref qf0_2, .int v0_3, .ref qf0_4, .ref qf0_5, .ref qf0_6, .ref qf0_7, .ref qf0_8, .int v0_9, .int u1_0, .int u1_1, .int u1_2])), (qf0_0, .inl (cf0_0, 3001, .inl f0_0)), (qf0_1, .inl (cf0_1, 3001, .inl f0_1)), (qf1, .inr (2, [.ref qf1_0, .ref qf1_1, .int u2_1, .ref qf1_3, .ref qf1_4, .ref qf1_5, .ref qf1_6, .ref qf1_7, .ref qf1_8, .ref qf1_9, .ref qf1_10, .ref qf1_11, .ref qf1_12, .ref qf1_13, .ref qf1_14, .ref qf1_15, .ref qf1_16, .ref qf1_17, .ref qf1_18, .ref qf1_19, .int v1_20])), (qf1_3, .inl (cf1_3, 334, .inl g902_0))] := hD
  replace hK : va_K (dC, dI) vwCl [(cf0_0, .int), (cf0_1, .int), (cf1_3, .int)] s := hK
  refine lv_aload_n hx hb dX8_readClass_20 rfl (lv_at hl 0 rfl) ?_
  refine lv_iconst (v := 2) hx hb dX8_readClass_21 (by decide) ?_
  obtain ⟨⟨u3_0, u3_1, u3_2⟩, hu_3, hsp⟩ := ox_bind hsp
  try dsimp only at hsp
  have hPc := hP.sub (ws' := [(h0, .inr (8, [.ref qf0, .ref qf1])), (qf0, .inr (9, [.ref qf0_0, .ref qf0_1, .ref qf0_2, .int v0_3, .ref qf0_4, .ref qf0_5, .ref qf0_6, .ref qf0_7, .ref qf0_8, .int v0_9, .int u1_0, .int u1_1, .int u1_2])), (qf0_0, .inl (cf0_0, 3001, .inl f0_0)), (qf0_1, .inl (cf0_1, 3001, .inl f0_1))]) [0, 1, 2, 3] rfl
  have hDc := hD.sub (ws' := [(h0, .inr (8, [.ref qf0, .ref qf1])), (qf0, .inr (9, [.ref qf0_0, .ref qf0_1, .ref qf0_2, .int v0_3, .ref qf0_4, .ref qf0_5, .ref qf0_6, .ref qf0_7, .ref qf0_8, .int v0_9, .int u1_0, .int u1_1, .int u1_2])), (qf0_0, .inl (cf0_0, 3001, .inl f0_0)), (qf0_1, .inl (cf0_1, 3001, .inl f0_1))]) [0, 1, 2, 3] (by decide) rfl
  have hKc := hK.sub (tys' := [(cf0_0, .int), (cf0_1, .int)]) [0, 1] rfl
  have hFc := va_free (wc := [(h0, .inr (8, [.ref qf0, .ref qf1])), (qf0, .inr (9, [.ref qf0_0, .ref qf0_1, .ref qf0_2, .int v0_3, .ref qf0_4, .ref qf0_5, .ref qf0_6, .ref qf0_7, .ref qf0_8, .int v0_9, .int u1_0, .int u1_1, .int u1_2])), (qf0_0, .inl (cf0_0, 3001, .inl f0_0)), (qf0_1, .inl (cf0_1, 3001, .inl f0_1))]) hD hS hA [0, 1, 2, 3] rfl
  refine va_callv (va_runV (As := [.int 2]) (rest := []) ⟨hx, hb, hml, hown, hts⟩ (t8_need l dC dI H.size h0 2 qf0 qf1 qf0_0 qf0_1 qf0_2 v0_3 qf0_4 qf0_5 qf0_6 qf0_7 qf0_8 v0_9 u1_0 u1_1 u1_2 cf0_0 f0_0 cf0_1 f0_1 nf u3_0 u3_1 u3_2 hu_3) (cwV 1 hts gv_h8_23 rfl rfl rfl (by decide +kernel) ⟨Nat.le_of_ble_eq_true rfl, Nat.le_of_ble_eq_true rfl⟩) ⟨fun a U g mk q => by obtain ⟨q0, q1, qP, qK, qD⟩ := q; exact ⟨q0, q1, qP, va_K.moved (u := U) (U := U.calling g mk a) (Vm.Alike.refl U.vm) qK, qD⟩, va_recv hKc hPc (ci := 8) (q0 := 0) rfl rfl, fun U hU hW => ⟨rfl, by rw [hU], by rw [hU]; exact hPc, va_K.moved hW.alike hKc, hDc.weaken (fun _ _ _ _ => trivial)⟩⟩ rfl rfl hl.1 rfl (lv_room (Nat.le_of_ble_eq_true rfl)) dX8_readClass_22 ⟨Nat.le_of_ble_eq_true rfl, Nat.le_of_ble_eq_true rfl⟩) hS (fun q _ h => hFc q h) hFc ?_
  clear hS
  intro u t H1 locs ht hvm hw hB hz1 hk1 hS
  obtain ⟨⟩ := u
  obtain ⟨hP1, hK1, hD1⟩ := hB
  rw [ht] at hP1
  have hK1 := va_K.moved hvm.symm hK1
  try dsimp only at hw
  have hPD := va_join (wr := [(qf1, .inr (2, [.ref qf1_0, .ref qf1_1, .int u2_1, .ref qf1_3, .ref qf1_4, .ref qf1_5, .ref qf1_6, .ref qf1_7, .ref qf1_8, .ref qf1_9, .ref qf1_10, .ref qf1_11, .ref qf1_12, .ref qf1_13, .ref qf1_14, .ref qf1_15, .ref qf1_16, .ref qf1_17, .ref qf1_18, .ref qf1_19, .int v1_20])), (qf1_3, .inl (cf1_3, 334, .inl g902_0))]) (w1 := [(h0, .inr (8, [.ref qf0, .ref qf1])), (qf0, .inr (9, [.ref qf0_0, .ref qf0_1, .ref qf0_2, .int v0_3, .ref qf0_4, .ref qf0_5, .ref qf0_6, .ref qf0_7, .ref qf0_8, .int v0_9, .int u3_0, .int u3_1, .int u3_2])), (qf0_0, .inl (cf0_0, 3001, .inl f0_0)), (qf0_1, .inl (cf0_1, 3001, .inl f0_1))]) hP hD [0, 1, 2, 3] [4, 5] rfl rfl (by decide) (by decide) hk1 hFc hP1 hD1
  clear hP hD
  obtain ⟨hP, hD⟩ := hPD
  replace hK := (hK.sub (tys' := [(cf1_3, .int)]) [2] rfl).app hK1
  clear hPc hDc hKc hFc hP1 hK1 hD1 hz1 hk1 ht hvm
  generalize H1 = H at hP hS ⊢
  replace hP : va_P (dC, dI) vwCl [(qf1, .inr (2, [.ref qf1_0, .ref qf1_1, .int u2_1, .ref qf1_3, .ref qf1_4, .ref qf1_5, .ref qf1_6, .ref qf1_7, .ref qf1_8, .ref qf1_9, .ref qf1_10, .ref qf1_11, .ref qf1_12, .ref qf1_13, .ref qf1_14, .ref qf1_15, .ref qf1_16, .ref qf1_17, .ref qf1_18, .ref qf1_19, .int v1_20])), (qf1_3, .inl (cf1_3, 334, .inl g902_0)), (h0, .inr (8, [.ref qf0, .ref qf1])), (qf0, .inr (9, [.ref qf0_0, .ref qf0_1, .ref qf0_2, .int v0_3, .ref qf0_4, .ref qf0_5, .ref qf0_6, .ref qf0_7, .ref qf0_8, .int v0_9, .int u3_0, .int u3_1, .int u3_2])), (qf0_0, .inl (cf0_0, 3001, .inl f0_0)), (qf0_1, .inl (cf0_1, 3001, .inl f0_1))] H := hP
  replace hD : va_D A [(qf1, .inr (2, [.ref qf1_0, .ref qf1_1, .int u2_1, .ref qf1_3, .ref qf1_4, .ref qf1_5, .ref qf1_6, .ref qf1_7, .ref qf1_8, .ref qf1_9, .ref qf1_10, .ref qf1_11, .ref qf1_12, .ref qf1_13, .ref qf1_14, .ref qf1_15, .ref qf1_16, .ref qf1_17, .ref qf1_18, .ref qf1_19, .int v1_20])), (qf1_3, .inl (cf1_3, 334, .inl g902_0)), (h0, .inr (8, [.ref qf0, .ref qf1])), (qf0, .inr (9, [.ref qf0_0, .ref qf0_1, .ref qf0_2, .int v0_3, .ref qf0_4, .ref qf0_5, .ref qf0_6, .ref qf0_7, .ref qf0_8, .int v0_9, .int u3_0, .int u3_1, .int u3_2])), (qf0_0, .inl (cf0_0, 3001, .inl f0_0)), (qf0_1, .inl (cf0_1, 3001, .inl f0_1))] := hD
  replace hK : va_K (dC, dI) vwCl [(cf1_3, .int), (cf0_0, .int), (cf0_1, .int)] s := hK
  refine lv_aload_n hx hb dX8_readClass_25 rfl (lv_at hl 0 rfl) ?_
  refine lv_bipush (v := 16) hx hb dX8_readClass_26 (by decide) ?_
  obtain ⟨⟨u4_0, u4_1⟩, hu_4, hsp⟩ := ox_bind hsp
  try dsimp only at hsp
  have hPc := hP.sub (ws' := [(h0, .inr (8, [.ref qf0, .ref qf1])), (qf0, .inr (9, [.ref qf0_0, .ref qf0_1, .ref qf0_2, .int v0_3, .ref qf0_4, .ref qf0_5, .ref qf0_6, .ref qf0_7, .ref qf0_8, .int v0_9, .int u3_0, .int u3_1, .int u3_2])), (qf0_0, .inl (cf0_0, 3001, .inl f0_0))]) [2, 3, 4] rfl
  have hDc := hD.sub (ws' := [(h0, .inr (8, [.ref qf0, .ref qf1])), (qf0, .inr (9, [.ref qf0_0, .ref qf0_1, .ref qf0_2, .int v0_3, .ref qf0_4, .ref qf0_5, .ref qf0_6, .ref qf0_7, .ref qf0_8, .int v0_9, .int u3_0, .int u3_1, .int u3_2])), (qf0_0, .inl (cf0_0, 3001, .inl f0_0))]) [2, 3, 4] (by decide) rfl
  have hKc := hK.sub (tys' := [(cf0_0, .int)]) [1] rfl
  have hFc := va_free (wc := [(h0, .inr (8, [.ref qf0, .ref qf1])), (qf0, .inr (9, [.ref qf0_0, .ref qf0_1, .ref qf0_2, .int v0_3, .ref qf0_4, .ref qf0_5, .ref qf0_6, .ref qf0_7, .ref qf0_8, .int v0_9, .int u3_0, .int u3_1, .int u3_2])), (qf0_0, .inl (cf0_0, 3001, .inl f0_0))]) hD hS hA [2, 3, 4] rfl
  refine va_calli (va_runV (As := [.int 16]) (rest := []) ⟨hx, hb, hml, hown, hts⟩ (t8_accept l dC dI H.size h0 16 qf0 qf1 qf0_0 qf0_1 qf0_2 v0_3 qf0_4 qf0_5 qf0_6 qf0_7 qf0_8 v0_9 u3_0 u3_1 u3_2 cf0_0 f0_0 nf u4_0 u4_1 hu_4) (cwV 1 hts gv_h8_22 rfl rfl rfl (by decide +kernel) ⟨Nat.le_of_ble_eq_true rfl, Nat.le_of_ble_eq_true rfl⟩) ⟨fun a U g mk q => by obtain ⟨q0, q1, qP, qK, qD⟩ := q; exact ⟨q0, q1, qP, va_K.moved (u := U) (U := U.calling g mk a) (Vm.Alike.refl U.vm) qK, qD⟩, va_recv hKc hPc (ci := 8) (q0 := 0) rfl rfl, fun U hU hW => ⟨rfl, by rw [hU], by rw [hU]; exact hPc, va_K.moved hW.alike hKc, hDc.weaken (fun _ _ _ _ => trivial)⟩⟩ rfl rfl hl.1 rfl (lv_room (Nat.le_of_ble_eq_true rfl)) dX8_readClass_28 ⟨Nat.le_of_ble_eq_true rfl, Nat.le_of_ble_eq_true rfl⟩) hS (fun q _ h => hFc q h) hFc ?_
  clear hS
  intro r_1 u t H1 locs ht hvm hw hB hz1 hk1 hS
  obtain ⟨⟩ := u
  obtain ⟨hP1, hK1, hD1⟩ := hB
  rw [ht] at hP1
  have hK1 := va_K.moved hvm.symm hK1
  try dsimp only at hw
  have hPD := va_join (wr := [(qf1, .inr (2, [.ref qf1_0, .ref qf1_1, .int u2_1, .ref qf1_3, .ref qf1_4, .ref qf1_5, .ref qf1_6, .ref qf1_7, .ref qf1_8, .ref qf1_9, .ref qf1_10, .ref qf1_11, .ref qf1_12, .ref qf1_13, .ref qf1_14, .ref qf1_15, .ref qf1_16, .ref qf1_17, .ref qf1_18, .ref qf1_19, .int v1_20])), (qf1_3, .inl (cf1_3, 334, .inl g902_0)), (qf0_1, .inl (cf0_1, 3001, .inl f0_1))]) (w1 := [(h0, .inr (8, [.ref qf0, .ref qf1])), (qf0, .inr (9, [.ref qf0_0, .ref qf0_1, .ref qf0_2, .int v0_3, .ref qf0_4, .ref qf0_5, .ref qf0_6, .ref qf0_7, .ref qf0_8, .int v0_9, .int u4_1, .int u3_1, .int u3_2])), (qf0_0, .inl (cf0_0, 3001, .inl f0_0))]) hP hD [2, 3, 4] [0, 1, 5] rfl rfl (by decide) (by decide) hk1 hFc hP1 hD1
  clear hP hD
  obtain ⟨hP, hD⟩ := hPD
  replace hK := (hK.sub (tys' := [(cf1_3, .int), (cf0_1, .int)]) [0, 2] rfl).app hK1
  clear hPc hDc hKc hFc hP1 hK1 hD1 hz1 hk1 ht hvm
  generalize H1 = H at hP hS ⊢
  replace hP : va_P (dC, dI) vwCl [(qf1, .inr (2, [.ref qf1_0, .ref qf1_1, .int u2_1, .ref qf1_3, .ref qf1_4, .ref qf1_5, .ref qf1_6, .ref qf1_7, .ref qf1_8, .ref qf1_9, .ref qf1_10, .ref qf1_11, .ref qf1_12, .ref qf1_13, .ref qf1_14, .ref qf1_15, .ref qf1_16, .ref qf1_17, .ref qf1_18, .ref qf1_19, .int v1_20])), (qf1_3, .inl (cf1_3, 334, .inl g902_0)), (qf0_1, .inl (cf0_1, 3001, .inl f0_1)), (h0, .inr (8, [.ref qf0, .ref qf1])), (qf0, .inr (9, [.ref qf0_0, .ref qf0_1, .ref qf0_2, .int v0_3, .ref qf0_4, .ref qf0_5, .ref qf0_6, .ref qf0_7, .ref qf0_8, .int v0_9, .int u4_1, .int u3_1, .int u3_2])), (qf0_0, .inl (cf0_0, 3001, .inl f0_0))] H := hP
  replace hD : va_D A [(qf1, .inr (2, [.ref qf1_0, .ref qf1_1, .int u2_1, .ref qf1_3, .ref qf1_4, .ref qf1_5, .ref qf1_6, .ref qf1_7, .ref qf1_8, .ref qf1_9, .ref qf1_10, .ref qf1_11, .ref qf1_12, .ref qf1_13, .ref qf1_14, .ref qf1_15, .ref qf1_16, .ref qf1_17, .ref qf1_18, .ref qf1_19, .int v1_20])), (qf1_3, .inl (cf1_3, 334, .inl g902_0)), (qf0_1, .inl (cf0_1, 3001, .inl f0_1)), (h0, .inr (8, [.ref qf0, .ref qf1])), (qf0, .inr (9, [.ref qf0_0, .ref qf0_1, .ref qf0_2, .int v0_3, .ref qf0_4, .ref qf0_5, .ref qf0_6, .ref qf0_7, .ref qf0_8, .int v0_9, .int u4_1, .int u3_1, .int u3_2])), (qf0_0, .inl (cf0_0, 3001, .inl f0_0))] := hD
  replace hK : va_K (dC, dI) vwCl [(cf1_3, .int), (cf0_1, .int), (cf0_0, .int)] s := hK
  obtain ⟨rfl, hz_4⟩ := hw
  rcases hz_4 with rfl | rfl
  · rw [if_pos rfl] at hsp
    refine lv_if_eq (tgt := 39) hx hb dX8_readClass_31 (by decide) (fun c_2 => ?_) (fun c_2 => (show False by revert c_2; decide).elim)
    exact hj_39 (H, locs, ls, g902_0, u4_1, u3_1, u3_2, u2_1) ⟨lv_sub hl [0] rfl, hS, hD.sub (ws' := [(h0, .inr (8, [.ref qf0, .ref qf1])), (qf0, .inr (9, [.ref qf0_0, .ref qf0_1, .ref qf0_2, .int v0_3, .ref qf0_4, .ref qf0_5, .ref qf0_6, .ref qf0_7, .ref qf0_8, .int v0_9, .int u4_1, .int u3_1, .int u3_2])), (qf0_0, .inl (cf0_0, 3001, .inl f0_0)), (qf0_1, .inl (cf0_1, 3001, .inl f0_1)), (qf1, .inr (2, [.ref qf1_0, .ref qf1_1, .int u2_1, .ref qf1_3, .ref qf1_4, .ref qf1_5, .ref qf1_6, .ref qf1_7, .ref qf1_8, .ref qf1_9, .ref qf1_10, .ref qf1_11, .ref qf1_12, .ref qf1_13, .ref qf1_14, .ref qf1_15, .ref qf1_16, .ref qf1_17, .ref qf1_18, .ref qf1_19, .int v1_20])), (qf1_3, .inl (cf1_3, 334, .inl g902_0))]) [3, 4, 5, 2, 0, 1] (by decide) rfl, hP.sub (ws' := [(h0, .inr (8, [.ref qf0, .ref qf1])), (qf0, .inr (9, [.ref qf0_0, .ref qf0_1, .ref qf0_2, .int v0_3, .ref qf0_4, .ref qf0_5, .ref qf0_6, .ref qf0_7, .ref qf0_8, .int v0_9, .int u4_1, .int u3_1, .int u3_2])), (qf0_0, .inl (cf0_0, 3001, .inl f0_0)), (qf0_1, .inl (cf0_1, 3001, .inl f0_1)), (qf1, .inr (2, [.ref qf1_0, .ref qf1_1, .int u2_1, .ref qf1_3, .ref qf1_4, .ref qf1_5, .ref qf1_6, .ref qf1_7, .ref qf1_8, .ref qf1_9, .ref qf1_10, .ref qf1_11, .ref qf1_12, .ref qf1_13, .ref qf1_14, .ref qf1_15, .ref qf1_16, .ref qf1_17, .ref qf1_18, .ref qf1_19, .int v1_20])), (qf1_3, .inl (cf1_3, 334, .inl g902_0))]) [3, 4, 5, 2, 0, 1] rfl, hsp⟩
  · rw [if_neg (by decide)] at hsp
    refine lv_if_eq (tgt := 39) hx hb dX8_readClass_31 (by decide) (fun c_3 => (show False by revert c_3; decide).elim) (fun c_3 => ?_)
    refine lv_aload_n hx hb dX8_readClass_34 rfl (lv_at hl 0 rfl) ?_
    refine lv_iconst (v := 2) hx hb dX8_readClass_35 (by decide) ?_
    obtain ⟨⟨u5_0, u5_1, u5_2⟩, hu_5, hsp⟩ := ox_bind hsp
    try dsimp only at hsp
    have hPc := hP.sub (ws' := [(h0, .inr (8, [.ref qf0, .ref qf1])), (qf0, .inr (9, [.ref qf0_0, .ref qf0_1, .ref qf0_2, .int v0_3, .ref qf0_4, .ref qf0_5, .ref qf0_6, .ref qf0_7, .ref qf0_8, .int v0_9, .int u4_1, .int u3_1, .int u3_2])), (qf0_0, .inl (cf0_0, 3001, .inl f0_0)), (qf0_1, .inl (cf0_1, 3001, .inl f0_1))]) [3, 4, 5, 2] rfl
    have hDc := hD.sub (ws' := [(h0, .inr (8, [.ref qf0, .ref qf1])), (qf0, .inr (9, [.ref qf0_0, .ref qf0_1, .ref qf0_2, .int v0_3, .ref qf0_4, .ref qf0_5, .ref qf0_6, .ref qf0_7, .ref qf0_8, .int v0_9, .int u4_1, .int u3_1, .int u3_2])), (qf0_0, .inl (cf0_0, 3001, .inl f0_0)), (qf0_1, .inl (cf0_1, 3001, .inl f0_1))]) [3, 4, 5, 2] (by decide) rfl
    have hKc := hK.sub (tys' := [(cf0_0, .int), (cf0_1, .int)]) [2, 1] rfl
    have hFc := va_free (wc := [(h0, .inr (8, [.ref qf0, .ref qf1])), (qf0, .inr (9, [.ref qf0_0, .ref qf0_1, .ref qf0_2, .int v0_3, .ref qf0_4, .ref qf0_5, .ref qf0_6, .ref qf0_7, .ref qf0_8, .int v0_9, .int u4_1, .int u3_1, .int u3_2])), (qf0_0, .inl (cf0_0, 3001, .inl f0_0)), (qf0_1, .inl (cf0_1, 3001, .inl f0_1))]) hD hS hA [3, 4, 5, 2] rfl
    refine va_callv (va_runV (As := [.int 2]) (rest := []) ⟨hx, hb, hml, hown, hts⟩ (t8_need l dC dI H.size h0 2 qf0 qf1 qf0_0 qf0_1 qf0_2 v0_3 qf0_4 qf0_5 qf0_6 qf0_7 qf0_8 v0_9 u4_1 u3_1 u3_2 cf0_0 f0_0 cf0_1 f0_1 nf u5_0 u5_1 u5_2 hu_5) (cwV 1 hts gv_h8_23 rfl rfl rfl (by decide +kernel) ⟨Nat.le_of_ble_eq_true rfl, Nat.le_of_ble_eq_true rfl⟩) ⟨fun a U g mk q => by obtain ⟨q0, q1, qP, qK, qD⟩ := q; exact ⟨q0, q1, qP, va_K.moved (u := U) (U := U.calling g mk a) (Vm.Alike.refl U.vm) qK, qD⟩, va_recv hKc hPc (ci := 8) (q0 := 0) rfl rfl, fun U hU hW => ⟨rfl, by rw [hU], by rw [hU]; exact hPc, va_K.moved hW.alike hKc, hDc.weaken (fun _ _ _ _ => trivial)⟩⟩ rfl rfl hl.1 rfl (lv_room (Nat.le_of_ble_eq_true rfl)) dX8_readClass_36 ⟨Nat.le_of_ble_eq_true rfl, Nat.le_of_ble_eq_true rfl⟩) hS (fun q _ h => hFc q h) hFc ?_
    clear hS
    intro u t H1 locs ht hvm hw hB hz1 hk1 hS
    obtain ⟨⟩ := u
    obtain ⟨hP1, hK1, hD1⟩ := hB
    rw [ht] at hP1
    have hK1 := va_K.moved hvm.symm hK1
    try dsimp only at hw
    have hPD := va_join (wr := [(qf1, .inr (2, [.ref qf1_0, .ref qf1_1, .int u2_1, .ref qf1_3, .ref qf1_4, .ref qf1_5, .ref qf1_6, .ref qf1_7, .ref qf1_8, .ref qf1_9, .ref qf1_10, .ref qf1_11, .ref qf1_12, .ref qf1_13, .ref qf1_14, .ref qf1_15, .ref qf1_16, .ref qf1_17, .ref qf1_18, .ref qf1_19, .int v1_20])), (qf1_3, .inl (cf1_3, 334, .inl g902_0))]) (w1 := [(h0, .inr (8, [.ref qf0, .ref qf1])), (qf0, .inr (9, [.ref qf0_0, .ref qf0_1, .ref qf0_2, .int v0_3, .ref qf0_4, .ref qf0_5, .ref qf0_6, .ref qf0_7, .ref qf0_8, .int v0_9, .int u5_0, .int u5_1, .int u5_2])), (qf0_0, .inl (cf0_0, 3001, .inl f0_0)), (qf0_1, .inl (cf0_1, 3001, .inl f0_1))]) hP hD [3, 4, 5, 2] [0, 1] rfl rfl (by decide) (by decide) hk1 hFc hP1 hD1
    clear hP hD
    obtain ⟨hP, hD⟩ := hPD
    replace hK := (hK.sub (tys' := [(cf1_3, .int)]) [0] rfl).app hK1
    clear hPc hDc hKc hFc hP1 hK1 hD1 hz1 hk1 ht hvm
    generalize H1 = H at hP hS ⊢
    replace hP : va_P (dC, dI) vwCl [(qf1, .inr (2, [.ref qf1_0, .ref qf1_1, .int u2_1, .ref qf1_3, .ref qf1_4, .ref qf1_5, .ref qf1_6, .ref qf1_7, .ref qf1_8, .ref qf1_9, .ref qf1_10, .ref qf1_11, .ref qf1_12, .ref qf1_13, .ref qf1_14, .ref qf1_15, .ref qf1_16, .ref qf1_17, .ref qf1_18, .ref qf1_19, .int v1_20])), (qf1_3, .inl (cf1_3, 334, .inl g902_0)), (h0, .inr (8, [.ref qf0, .ref qf1])), (qf0, .inr (9, [.ref qf0_0, .ref qf0_1, .ref qf0_2, .int v0_3, .ref qf0_4, .ref qf0_5, .ref qf0_6, .ref qf0_7, .ref qf0_8, .int v0_9, .int u5_0, .int u5_1, .int u5_2])), (qf0_0, .inl (cf0_0, 3001, .inl f0_0)), (qf0_1, .inl (cf0_1, 3001, .inl f0_1))] H := hP
    replace hD : va_D A [(qf1, .inr (2, [.ref qf1_0, .ref qf1_1, .int u2_1, .ref qf1_3, .ref qf1_4, .ref qf1_5, .ref qf1_6, .ref qf1_7, .ref qf1_8, .ref qf1_9, .ref qf1_10, .ref qf1_11, .ref qf1_12, .ref qf1_13, .ref qf1_14, .ref qf1_15, .ref qf1_16, .ref qf1_17, .ref qf1_18, .ref qf1_19, .int v1_20])), (qf1_3, .inl (cf1_3, 334, .inl g902_0)), (h0, .inr (8, [.ref qf0, .ref qf1])), (qf0, .inr (9, [.ref qf0_0, .ref qf0_1, .ref qf0_2, .int v0_3, .ref qf0_4, .ref qf0_5, .ref qf0_6, .ref qf0_7, .ref qf0_8, .int v0_9, .int u5_0, .int u5_1, .int u5_2])), (qf0_0, .inl (cf0_0, 3001, .inl f0_0)), (qf0_1, .inl (cf0_1, 3001, .inl f0_1))] := hD
    replace hK : va_K (dC, dI) vwCl [(cf1_3, .int), (cf0_0, .int), (cf0_1, .int)] s := hK
    exact hj_39 (H, locs, ls, g902_0, u5_0, u5_1, u5_2, u2_1) ⟨lv_sub hl [0] rfl, hS, hD.sub (ws' := [(h0, .inr (8, [.ref qf0, .ref qf1])), (qf0, .inr (9, [.ref qf0_0, .ref qf0_1, .ref qf0_2, .int v0_3, .ref qf0_4, .ref qf0_5, .ref qf0_6, .ref qf0_7, .ref qf0_8, .int v0_9, .int u5_0, .int u5_1, .int u5_2])), (qf0_0, .inl (cf0_0, 3001, .inl f0_0)), (qf0_1, .inl (cf0_1, 3001, .inl f0_1)), (qf1, .inr (2, [.ref qf1_0, .ref qf1_1, .int u2_1, .ref qf1_3, .ref qf1_4, .ref qf1_5, .ref qf1_6, .ref qf1_7, .ref qf1_8, .ref qf1_9, .ref qf1_10, .ref qf1_11, .ref qf1_12, .ref qf1_13, .ref qf1_14, .ref qf1_15, .ref qf1_16, .ref qf1_17, .ref qf1_18, .ref qf1_19, .int v1_20])), (qf1_3, .inl (cf1_3, 334, .inl g902_0))]) [2, 3, 4, 5, 0, 1] (by decide) rfl, hP.sub (ws' := [(h0, .inr (8, [.ref qf0, .ref qf1])), (qf0, .inr (9, [.ref qf0_0, .ref qf0_1, .ref qf0_2, .int v0_3, .ref qf0_4, .ref qf0_5, .ref qf0_6, .ref qf0_7, .ref qf0_8, .int v0_9, .int u5_0, .int u5_1, .int u5_2])), (qf0_0, .inl (cf0_0, 3001, .inl f0_0)), (qf0_1, .inl (cf0_1, 3001, .inl f0_1)), (qf1, .inr (2, [.ref qf1_0, .ref qf1_1, .int u2_1, .ref qf1_3, .ref qf1_4, .ref qf1_5, .ref qf1_6, .ref qf1_7, .ref qf1_8, .ref qf1_9, .ref qf1_10, .ref qf1_11, .ref qf1_12, .ref qf1_13, .ref qf1_14, .ref qf1_15, .ref qf1_16, .ref qf1_17, .ref qf1_18, .ref qf1_19, .int v1_20])), (qf1_3, .inl (cf1_3, 334, .inl g902_0))]) [2, 3, 4, 5, 0, 1] rfl, hsp⟩
def lp_v8_readProgram_2 (nf n : Nat) (v0_3 : Int32) (v0_10 : Int32) (v0_11 : Int32) (v0_12 : Int32) (f0_0 : Nat → Int32) (f0_1 : Nat → Int32) (v1_2 : Int32) (f1_3 : Nat → Int32)  (l1_2 : Int32) (g1_3_2 : Nat → Int32) (x0_10_2 : Int32) (x0_11_2 : Int32) (x0_12_2 : Int32) (x1_2_2 : Int32) : Option ((Nat → Int32) × Int32 × Int32 × Int32 × Int32) := match n with
  | 0 => none
  | n + 1 => (if 3000 ≤ l1_2 then (some (g1_3_2, x0_10_2, x0_11_2, x0_12_2, x1_2_2)) else (if x0_11_2 = 0 then (if l1_2 = 0 then ((sp_v8_readClass nf v0_3 x0_10_2 x0_11_2 x0_12_2 f0_0 f0_1 x1_2_2 g1_3_2).bind (fun p1 => (lp_v8_readProgram_2 nf n v0_3 v0_10 v0_11 v0_12 f0_0 f0_1 v1_2 f1_3 (l1_2 + 1) p1.1 p1.2.1 p1.2.2.1 p1.2.2.2.1 p1.2.2.2.2))) else ((sp_t9_kind nf v0_3 x0_10_2 x0_11_2 f0_0).bind (fun p2 => (if p2 = 0 then (some (g1_3_2, x0_10_2, x0_11_2, x0_12_2, x1_2_2)) else ((sp_v8_readClass nf v0_3 x0_10_2 x0_11_2 x0_12_2 f0_0 f0_1 x1_2_2 g1_3_2).bind (fun p3 => (lp_v8_readProgram_2 nf n v0_3 v0_10 v0_11 v0_12 f0_0 f0_1 v1_2 f1_3 (l1_2 + 1) p3.1 p3.2.1 p3.2.2.1 p3.2.2.2.1 p3.2.2.2.2))))))) else (some (g1_3_2, x0_10_2, x0_11_2, x0_12_2, x1_2_2))))
def sp_v8_readProgram (nf : Nat) (v0_3 : Int32) (v0_10 : Int32) (v0_11 : Int32) (v0_12 : Int32) (f0_0 : Nat → Int32) (f0_1 : Nat → Int32) (v1_2 : Int32) (f1_3 : Nat → Int32) : Option ((Nat → Int32) × Int32 × Int32 × Int32 × Int32) := (lp_v8_readProgram_2 nf nf v0_3 v0_10 v0_11 v0_12 f0_0 f0_1 v1_2 f1_3  0 f1_3 v0_10 v0_11 v0_12 v1_2)
set_option maxHeartbeats 4000000 in
set_option maxRecDepth 100000 in
/-- ClassMill$Syntax.readProgram -/
theorem v8_readProgram (l : Launch) (dC : Nat → ClassId) (dI : Nat → Nat → Nat) (sz : Nat) (h0 : Nat) (qf0 : Nat) (qf1 : Nat) (qf0_0 : Nat) (qf0_1 : Nat) (qf0_2 : Nat) (v0_3 : Int32) (qf0_4 : Nat) (qf0_5 : Nat) (qf0_6 : Nat) (qf0_7 : Nat) (qf0_8 : Nat) (v0_9 : Int32) (v0_10 : Int32) (v0_11 : Int32) (v0_12 : Int32) (cf0_0 : ClassId) (f0_0 : (Nat → Int32)) (cf0_1 : ClassId) (f0_1 : (Nat → Int32)) (qf1_0 : Nat) (qf1_1 : Nat) (v1_2 : Int32) (qf1_3 : Nat) (qf1_4 : Nat) (qf1_5 : Nat) (qf1_6 : Nat) (qf1_7 : Nat) (qf1_8 : Nat) (qf1_9 : Nat) (qf1_10 : Nat) (qf1_11 : Nat) (qf1_12 : Nat) (qf1_13 : Nat) (qf1_14 : Nat) (qf1_15 : Nat) (qf1_16 : Nat) (qf1_17 : Nat) (qf1_18 : Nat) (qf1_19 : Nat) (v1_20 : Int32) (cf1_3 : ClassId) (f1_3 : (Nat → Int32)) (nf : Nat) (o1_3 : (Nat → Int32)) (w0_10 : Int32) (w0_11 : Int32) (w0_12 : Int32) (w1_2 : Int32) (hsp : sp_v8_readProgram nf v0_3 v0_10 v0_11 v0_12 f0_0 f0_1 v1_2 f1_3 = some (o1_3, w0_10, w0_11, w0_12, w1_2)) : Met l yX8_readProgram (.code yX8_readProgram cX8_readProgram 2 none :: VS_h8) ({ frames := 460, cells := 0, slots := 0, locals := 10389 }) (va_Pc [.ref h0] (fun U => U.heap.size = sz ∧ va_P (dC, dI) vwCl [(h0, .inr (8, [.ref qf0, .ref qf1])), (qf0, .inr (9, [.ref qf0_0, .ref qf0_1, .ref qf0_2, .int v0_3, .ref qf0_4, .ref qf0_5, .ref qf0_6, .ref qf0_7, .ref qf0_8, .int v0_9, .int v0_10, .int v0_11, .int v0_12])), (qf0_0, .inl (cf0_0, 3001, .inl f0_0)), (qf0_1, .inl (cf0_1, 3001, .inl f0_1)), (qf1, .inr (2, [.ref qf1_0, .ref qf1_1, .int v1_2, .ref qf1_3, .ref qf1_4, .ref qf1_5, .ref qf1_6, .ref qf1_7, .ref qf1_8, .ref qf1_9, .ref qf1_10, .ref qf1_11, .ref qf1_12, .ref qf1_13, .ref qf1_14, .ref qf1_15, .ref qf1_16, .ref qf1_17, .ref qf1_18, .ref qf1_19, .int v1_20])), (qf1_3, .inl (cf1_3, 334, .inl f1_3))] U.heap ∧ va_K (dC, dI) vwCl [(cf0_0, .int), (cf0_1, .int), (cf1_3, .int)] U ∧ va_D (fun _ => True) [(h0, .inr (8, [.ref qf0, .ref qf1])), (qf0, .inr (9, [.ref qf0_0, .ref qf0_1, .ref qf0_2, .int v0_3, .ref qf0_4, .ref qf0_5, .ref qf0_6, .ref qf0_7, .ref qf0_8, .int v0_9, .int v0_10, .int v0_11, .int v0_12])), (qf0_0, .inl (cf0_0, 3001, .inl f0_0)), (qf0_1, .inl (cf0_1, 3001, .inl f0_1)), (qf1, .inr (2, [.ref qf1_0, .ref qf1_1, .int v1_2, .ref qf1_3, .ref qf1_4, .ref qf1_5, .ref qf1_6, .ref qf1_7, .ref qf1_8, .ref qf1_9, .ref qf1_10, .ref qf1_11, .ref qf1_12, .ref qf1_13, .ref qf1_14, .ref qf1_15, .ref qf1_16, .ref qf1_17, .ref qf1_18, .ref qf1_19, .int v1_20])), (qf1_3, .inl (cf1_3, 334, .inl f1_3))])) (va_Qv (fun (u : Unit) => match u with | () => True) (fun (u : Unit) (t : State) => match u with | () => va_P (dC, dI) vwCl [(h0, .inr (8, [.ref qf0, .ref qf1])), (qf0, .inr (9, [.ref qf0_0, .ref qf0_1, .ref qf0_2, .int v0_3, .ref qf0_4, .ref qf0_5, .ref qf0_6, .ref qf0_7, .ref qf0_8, .int v0_9, .int w0_10, .int w0_11, .int w0_12])), (qf0_0, .inl (cf0_0, 3001, .inl f0_0)), (qf0_1, .inl (cf0_1, 3001, .inl f0_1)), (qf1, .inr (2, [.ref qf1_0, .ref qf1_1, .int w1_2, .ref qf1_3, .ref qf1_4, .ref qf1_5, .ref qf1_6, .ref qf1_7, .ref qf1_8, .ref qf1_9, .ref qf1_10, .ref qf1_11, .ref qf1_12, .ref qf1_13, .ref qf1_14, .ref qf1_15, .ref qf1_16, .ref qf1_17, .ref qf1_18, .ref qf1_19, .int v1_20])), (qf1_3, .inl (cf1_3, 334, .inl o1_3))] t.heap ∧ va_K (dC, dI) vwCl [(cf0_0, .int), (cf0_1, .int), (cf1_3, .int)] t ∧ va_D (va_A [(h0, .inr (8, [.ref qf0, .ref qf1])), (qf0, .inr (9, [.ref qf0_0, .ref qf0_1, .ref qf0_2, .int v0_3, .ref qf0_4, .ref qf0_5, .ref qf0_6, .ref qf0_7, .ref qf0_8, .int v0_9, .int v0_10, .int v0_11, .int v0_12])), (qf0_0, .inl (cf0_0, 3001, .inl f0_0)), (qf0_1, .inl (cf0_1, 3001, .inl f0_1)), (qf1, .inr (2, [.ref qf1_0, .ref qf1_1, .int v1_2, .ref qf1_3, .ref qf1_4, .ref qf1_5, .ref qf1_6, .ref qf1_7, .ref qf1_8, .ref qf1_9, .ref qf1_10, .ref qf1_11, .ref qf1_12, .ref qf1_13, .ref qf1_14, .ref qf1_15, .ref qf1_16, .ref qf1_17, .ref qf1_18, .ref qf1_19, .int v1_20])), (qf1_3, .inl (cf1_3, 334, .inl f1_3))] sz) [(h0, .inr (8, [.ref qf0, .ref qf1])), (qf0, .inr (9, [.ref qf0_0, .ref qf0_1, .ref qf0_2, .int v0_3, .ref qf0_4, .ref qf0_5, .ref qf0_6, .ref qf0_7, .ref qf0_8, .int v0_9, .int w0_10, .int w0_11, .int w0_12])), (qf0_0, .inl (cf0_0, 3001, .inl f0_0)), (qf0_1, .inl (cf0_1, 3001, .inl f0_1)), (qf1, .inr (2, [.ref qf1_0, .ref qf1_1, .int w1_2, .ref qf1_3, .ref qf1_4, .ref qf1_5, .ref qf1_6, .ref qf1_7, .ref qf1_8, .ref qf1_9, .ref qf1_10, .ref qf1_11, .ref qf1_12, .ref qf1_13, .ref qf1_14, .ref qf1_15, .ref qf1_16, .ref qf1_17, .ref qf1_18, .ref qf1_19, .int v1_20])), (qf1_3, .inl (cf1_3, 334, .inl o1_3))]) (va_A [(h0, .inr (8, [.ref qf0, .ref qf1])), (qf0, .inr (9, [.ref qf0_0, .ref qf0_1, .ref qf0_2, .int v0_3, .ref qf0_4, .ref qf0_5, .ref qf0_6, .ref qf0_7, .ref qf0_8, .int v0_9, .int v0_10, .int v0_11, .int v0_12])), (qf0_0, .inl (cf0_0, 3001, .inl f0_0)), (qf0_1, .inl (cf0_1, 3001, .inl f0_1)), (qf1, .inr (2, [.ref qf1_0, .ref qf1_1, .int v1_2, .ref qf1_3, .ref qf1_4, .ref qf1_5, .ref qf1_6, .ref qf1_7, .ref qf1_8, .ref qf1_9, .ref qf1_10, .ref qf1_11, .ref qf1_12, .ref qf1_13, .ref qf1_14, .ref qf1_15, .ref qf1_16, .ref qf1_17, .ref qf1_18, .ref qf1_19, .int v1_20])), (qf1_3, .inl (cf1_3, 334, .inl f1_3))] sz)) 0 0 (va_A [(h0, .inr (8, [.ref qf0, .ref qf1])), (qf0, .inr (9, [.ref qf0_0, .ref qf0_1, .ref qf0_2, .int v0_3, .ref qf0_4, .ref qf0_5, .ref qf0_6, .ref qf0_7, .ref qf0_8, .int v0_9, .int v0_10, .int v0_11, .int v0_12])), (qf0_0, .inl (cf0_0, 3001, .inl f0_0)), (qf0_1, .inl (cf0_1, 3001, .inl f0_1)), (qf1, .inr (2, [.ref qf1_0, .ref qf1_1, .int v1_2, .ref qf1_3, .ref qf1_4, .ref qf1_5, .ref qf1_6, .ref qf1_7, .ref qf1_8, .ref qf1_9, .ref qf1_10, .ref qf1_11, .ref qf1_12, .ref qf1_13, .ref qf1_14, .ref qf1_15, .ref qf1_16, .ref qf1_17, .ref qf1_18, .ref qf1_19, .int v1_20])), (qf1_3, .inl (cf1_3, 334, .inl f1_3))] sz) := by
  refine Met.ofW (cc := cX8_readProgram) (maxL := 2) (ret := none) (by decide) rfl ?_
  intro p e s m args below meth c s₁ B hml hv
  obtain ⟨rfl, hsz, hP, hK, hD0⟩ := hv
  have hx := B.exec
  have hb := B.bytes
  have hr := B.returns
  have hts := atoms_spec (ws := (.code yX8_readProgram cX8_readProgram 2 none :: VS_h8)) B.pre
  replace hts := fun w (h : w ∈ VS_h8) => hts w (List.mem_cons_of_mem _ h)
  have hown : s.vm.findClass RX8 = some m.cls := findClass_of_methodNamed B.named
  have hlocks := B.notSynchronized
  subst hsz
  have hD := hD0.self (sz := s.heap.size)
  generalize hAe : va_A [(h0, .inr (8, [.ref qf0, .ref qf1])), (qf0, .inr (9, [.ref qf0_0, .ref qf0_1, .ref qf0_2, .int v0_3, .ref qf0_4, .ref qf0_5, .ref qf0_6, .ref qf0_7, .ref qf0_8, .int v0_9, .int v0_10, .int v0_11, .int v0_12])), (qf0_0, .inl (cf0_0, 3001, .inl f0_0)), (qf0_1, .inl (cf0_1, 3001, .inl f0_1)), (qf1, .inr (2, [.ref qf1_0, .ref qf1_1, .int v1_2, .ref qf1_3, .ref qf1_4, .ref qf1_5, .ref qf1_6, .ref qf1_7, .ref qf1_8, .ref qf1_9, .ref qf1_10, .ref qf1_11, .ref qf1_12, .ref qf1_13, .ref qf1_14, .ref qf1_15, .ref qf1_16, .ref qf1_17, .ref qf1_18, .ref qf1_19, .int v1_20])), (qf1_3, .inl (cf1_3, 334, .inl f1_3))] s.heap.size = A at hD  ⊢
  have hA : ∀ q : Nat, s.heap.size ≤ q → A q := fun q h => by rw [← hAe]; exact Or.inr h
  have hP : va_P (dC, dI) vwCl [(h0, .inr (8, [.ref qf0, .ref qf1])), (qf0, .inr (9, [.ref qf0_0, .ref qf0_1, .ref qf0_2, .int v0_3, .ref qf0_4, .ref qf0_5, .ref qf0_6, .ref qf0_7, .ref qf0_8, .int v0_9, .int v0_10, .int v0_11, .int v0_12])), (qf0_0, .inl (cf0_0, 3001, .inl f0_0)), (qf0_1, .inl (cf0_1, 3001, .inl f0_1)), (qf1, .inr (2, [.ref qf1_0, .ref qf1_1, .int v1_2, .ref qf1_3, .ref qf1_4, .ref qf1_5, .ref qf1_6, .ref qf1_7, .ref qf1_8, .ref qf1_9, .ref qf1_10, .ref qf1_11, .ref qf1_12, .ref qf1_13, .ref qf1_14, .ref qf1_15, .ref qf1_16, .ref qf1_17, .ref qf1_18, .ref qf1_19, .int v1_20])), (qf1_3, .inl (cf1_3, 334, .inl f1_3))] s.heap := hP
  have hl := lv_entry ([.ref h0]) (n := 2) (Nat.le_of_ble_eq_true rfl)
  rw [lg_entry_eq]
  generalize (lg_sl ([.ref h0]) ++ List.replicate (2 - (lg_sl ([.ref h0])).length) Slot.unset).toArray = ls at hl ⊢
  have hl : lv_has ls 2 [(0, .ref h0)] := hl
  obtain ⟨H, hH⟩ : ∃ H : Heap, s.heap = H := ⟨_, rfl⟩
  rw [hH] at hP ⊢
  have hS : va_S A s.heap H [] := by rw [← hH]; exact va_S.rf
  obtain ⟨locs, hlo⟩ : ∃ locs : List Loc, locs = [] := ⟨_, rfl⟩
  rw [← hlo] at hS ⊢
  unfold sp_v8_readProgram at hsp
  refine lv_iconst (v := 0) hx hb dX8_readProgram_0 (by decide) ?_
  refine lv_istore_n (lv' := [(1, .int 0), (0, .ref h0)]) hx hb dX8_readProgram_1 rfl hl (by decide) rfl (fun ls hl => ?_)
  replace hl : lv_has ls 2 [(1, .int 0), (0, .ref h0)] := lv_sub hl [0, 1] rfl
  replace hP := hP.sub (ws' := [(h0, .inr (8, [.ref qf0, .ref qf1])), (qf0, .inr (9, [.ref qf0_0, .ref qf0_1, .ref qf0_2, .int v0_3, .ref qf0_4, .ref qf0_5, .ref qf0_6, .ref qf0_7, .ref qf0_8, .int v0_9, .int v0_10, .int v0_11, .int v0_12])), (qf0_0, .inl (cf0_0, 3001, .inl f0_0)), (qf0_1, .inl (cf0_1, 3001, .inl f0_1)), (qf1, .inr (2, [.ref qf1_0, .ref qf1_1, .int v1_2, .ref qf1_3, .ref qf1_4, .ref qf1_5, .ref qf1_6, .ref qf1_7, .ref qf1_8, .ref qf1_9, .ref qf1_10, .ref qf1_11, .ref qf1_12, .ref qf1_13, .ref qf1_14, .ref qf1_15, .ref qf1_16, .ref qf1_17, .ref qf1_18, .ref qf1_19, .int v1_20])), (qf1_3, .inl (cf1_3, 334, .inl f1_3))]) [0, 1, 2, 3, 4, 5] rfl
  replace hD := hD.sub (ws' := [(h0, .inr (8, [.ref qf0, .ref qf1])), (qf0, .inr (9, [.ref qf0_0, .ref qf0_1, .ref qf0_2, .int v0_3, .ref qf0_4, .ref qf0_5, .ref qf0_6, .ref qf0_7, .ref qf0_8, .int v0_9, .int v0_10, .int v0_11, .int v0_12])), (qf0_0, .inl (cf0_0, 3001, .inl f0_0)), (qf0_1, .inl (cf0_1, 3001, .inl f0_1)), (qf1, .inr (2, [.ref qf1_0, .ref qf1_1, .int v1_2, .ref qf1_3, .ref qf1_4, .ref qf1_5, .ref qf1_6, .ref qf1_7, .ref qf1_8, .ref qf1_9, .ref qf1_10, .ref qf1_11, .ref qf1_12, .ref qf1_13, .ref qf1_14, .ref qf1_15, .ref qf1_16, .ref qf1_17, .ref qf1_18, .ref qf1_19, .int v1_20])), (qf1_3, .inl (cf1_3, 334, .inl f1_3))]) [0, 1, 2, 3, 4, 5] (by decide) rfl
  replace hK := hK.sub (tys' := [(cf0_0, .int), (cf0_1, .int), (cf1_3, .int)]) [0, 1, 2] rfl
  obtain ⟨n_2, hn_2⟩ : ∃ z : Nat, z = nf := ⟨_, rfl⟩
  obtain ⟨l1_2, el1_2⟩ : ∃ z : Int32, z = 0 := ⟨_, rfl⟩
  obtain ⟨g1_3_2, eg1_3_2⟩ : ∃ z : Nat → Int32, z = f1_3 := ⟨_, rfl⟩
  obtain ⟨x0_10_2, ex0_10_2⟩ : ∃ z : Int32, z = v0_10 := ⟨_, rfl⟩
  obtain ⟨x0_11_2, ex0_11_2⟩ : ∃ z : Int32, z = v0_11 := ⟨_, rfl⟩
  obtain ⟨x0_12_2, ex0_12_2⟩ : ∃ z : Int32, z = v0_12 := ⟨_, rfl⟩
  obtain ⟨x1_2_2, ex1_2_2⟩ : ∃ z : Int32, z = v1_2 := ⟨_, rfl⟩
  replace hsp : lp_v8_readProgram_2 nf n_2 v0_3 v0_10 v0_11 v0_12 f0_0 f0_1 v1_2 f1_3 l1_2 g1_3_2 x0_10_2 x0_11_2 x0_12_2 x1_2_2 = some (o1_3, w0_10, w0_11, w0_12, w1_2) := by rw [hn_2, el1_2, eg1_3_2, ex0_10_2, ex0_11_2, ex0_12_2, ex1_2_2]; exact hsp
  replace hl : lv_has ls 2 [(1, .int l1_2), (0, .ref h0)] := by rw [el1_2]; exact hl
  replace hP : va_P (dC, dI) vwCl [(h0, .inr (8, [.ref qf0, .ref qf1])), (qf0, .inr (9, [.ref qf0_0, .ref qf0_1, .ref qf0_2, .int v0_3, .ref qf0_4, .ref qf0_5, .ref qf0_6, .ref qf0_7, .ref qf0_8, .int v0_9, .int x0_10_2, .int x0_11_2, .int x0_12_2])), (qf0_0, .inl (cf0_0, 3001, .inl f0_0)), (qf0_1, .inl (cf0_1, 3001, .inl f0_1)), (qf1, .inr (2, [.ref qf1_0, .ref qf1_1, .int x1_2_2, .ref qf1_3, .ref qf1_4, .ref qf1_5, .ref qf1_6, .ref qf1_7, .ref qf1_8, .ref qf1_9, .ref qf1_10, .ref qf1_11, .ref qf1_12, .ref qf1_13, .ref qf1_14, .ref qf1_15, .ref qf1_16, .ref qf1_17, .ref qf1_18, .ref qf1_19, .int v1_20])), (qf1_3, .inl (cf1_3, 334, .inl g1_3_2))] H := by rw [eg1_3_2, ex0_10_2, ex0_11_2, ex0_12_2, ex1_2_2]; exact hP
  replace hD : va_D A [(h0, .inr (8, [.ref qf0, .ref qf1])), (qf0, .inr (9, [.ref qf0_0, .ref qf0_1, .ref qf0_2, .int v0_3, .ref qf0_4, .ref qf0_5, .ref qf0_6, .ref qf0_7, .ref qf0_8, .int v0_9, .int x0_10_2, .int x0_11_2, .int x0_12_2])), (qf0_0, .inl (cf0_0, 3001, .inl f0_0)), (qf0_1, .inl (cf0_1, 3001, .inl f0_1)), (qf1, .inr (2, [.ref qf1_0, .ref qf1_1, .int x1_2_2, .ref qf1_3, .ref qf1_4, .ref qf1_5, .ref qf1_6, .ref qf1_7, .ref qf1_8, .ref qf1_9, .ref qf1_10, .ref qf1_11, .ref qf1_12, .ref qf1_13, .ref qf1_14, .ref qf1_15, .ref qf1_16, .ref qf1_17, .ref qf1_18, .ref qf1_19, .int v1_20])), (qf1_3, .inl (cf1_3, 334, .inl g1_3_2))] := by rw [eg1_3_2, ex0_10_2, ex0_11_2, ex0_12_2, ex1_2_2]; exact hD
  clear hn_2 el1_2 eg1_3_2 ex0_10_2 ex0_11_2 ex0_12_2 ex1_2_2
  try clear hlo
  try clear hH
  revert hsp
  revert hP
  revert hD
  revert hS
  revert hl
  revert x1_2_2
  revert x0_12_2
  revert x0_11_2
  revert x0_10_2
  revert g1_3_2
  revert l1_2
  revert ls
  revert locs
  revert H
  induction n_2 with
  | zero => intro H locs ls l1_2 g1_3_2 x0_10_2 x0_11_2 x0_12_2 x1_2_2  hl hS hD hP hsp; unfold lp_v8_readProgram_2 at hsp; cases hsp
  | succ n_2 ih_2 =>
    intro H locs ls l1_2 g1_3_2 x0_10_2 x0_11_2 x0_12_2 x1_2_2  hl hS hD hP hsp
    unfold lp_v8_readProgram_2 at hsp
    try dsimp only at hsp
    refine lv_iload_n hx hb dX8_readProgram_2 rfl (lv_at hl 0 rfl) ?_
    refine lv_sipush (v := 3000) hx hb dX8_readProgram_3 (by decide) ?_
    refine lv_icmp_ge (tgt := 43) hx hb dX8_readProgram_6 (by decide) (fun c_1 => ?_) (fun c_1 => ?_)
    · rw [if_pos c_1] at hsp
      have hr0 := Option.some.inj hsp
      clear hsp
      obtain ⟨hq0, hr1⟩ := Prod.mk.inj hr0
      clear hr0
      obtain ⟨hq1, hr2⟩ := Prod.mk.inj hr1
      clear hr1
      obtain ⟨hq2, hr3⟩ := Prod.mk.inj hr2
      clear hr2
      obtain ⟨hq3, hr4⟩ := Prod.mk.inj hr3
      clear hr3
      subst hq0
      subst hq1
      subst hq2
      subst hq3
      subst hr4
      have hP9 := hP.sub (ws' := [(h0, .inr (8, [.ref qf0, .ref qf1])), (qf0, .inr (9, [.ref qf0_0, .ref qf0_1, .ref qf0_2, .int v0_3, .ref qf0_4, .ref qf0_5, .ref qf0_6, .ref qf0_7, .ref qf0_8, .int v0_9, .int x0_10_2, .int x0_11_2, .int x0_12_2])), (qf0_0, .inl (cf0_0, 3001, .inl f0_0)), (qf0_1, .inl (cf0_1, 3001, .inl f0_1)), (qf1, .inr (2, [.ref qf1_0, .ref qf1_1, .int x1_2_2, .ref qf1_3, .ref qf1_4, .ref qf1_5, .ref qf1_6, .ref qf1_7, .ref qf1_8, .ref qf1_9, .ref qf1_10, .ref qf1_11, .ref qf1_12, .ref qf1_13, .ref qf1_14, .ref qf1_15, .ref qf1_16, .ref qf1_17, .ref qf1_18, .ref qf1_19, .int v1_20])), (qf1_3, .inl (cf1_3, 334, .inl g1_3_2))]) [0, 1, 2, 3, 4, 5] rfl
      have hD9 := hD.sub (ws' := [(h0, .inr (8, [.ref qf0, .ref qf1])), (qf0, .inr (9, [.ref qf0_0, .ref qf0_1, .ref qf0_2, .int v0_3, .ref qf0_4, .ref qf0_5, .ref qf0_6, .ref qf0_7, .ref qf0_8, .int v0_9, .int x0_10_2, .int x0_11_2, .int x0_12_2])), (qf0_0, .inl (cf0_0, 3001, .inl f0_0)), (qf0_1, .inl (cf0_1, 3001, .inl f0_1)), (qf1, .inr (2, [.ref qf1_0, .ref qf1_1, .int x1_2_2, .ref qf1_3, .ref qf1_4, .ref qf1_5, .ref qf1_6, .ref qf1_7, .ref qf1_8, .ref qf1_9, .ref qf1_10, .ref qf1_11, .ref qf1_12, .ref qf1_13, .ref qf1_14, .ref qf1_15, .ref qf1_16, .ref qf1_17, .ref qf1_18, .ref qf1_19, .int v1_20])), (qf1_3, .inl (cf1_3, 334, .inl g1_3_2))]) [0, 1, 2, 3, 4, 5] (by decide) rfl
      have hK9 := hK.sub (tys' := [(cf0_0, .int), (cf0_1, .int), (cf1_3, .int)]) [0, 1, 2] rfl
      exact W.vret hx hb hr (fun t ht hW => ⟨⟨(), rfl, trivial, by rw [ht]; exact hP9, va_K.moved hW.alike hK9, hD9⟩, hS.F ht⟩) hS.2.2 dX8_readProgram_43
    · rw [if_neg c_1] at hsp
      refine lv_aload_n hx hb dX8_readProgram_9 rfl (lv_at hl 1 rfl) ?_
      refine va_get (D := (dC, dI)) (ci := 8) (v := .ref qf0) (C := RX8) (T := TX8) (N := 2) hx hb hts uV_h8_X8 hown hK hP 0 rfl rfl 0 (by decide) (hts (.fieldLink RX8 7 "ClassMill$Syntax" "text" "LClassMill$Text;") mw_h8_135) (fun _ h9 => h9) rfl dX8_readProgram_10 ?_
      refine va_get (D := (dC, dI)) (ci := 9) (v := .int x0_11_2) (C := RX9) (T := TX9) (N := 13) hx hb hts uV_h8_X9 hown hK hP 1 rfl rfl 11 (by decide) (hts (.fieldLink RX8 19 "ClassMill$Text" "fault" "I") mw_h8_174) (fun _ h9 => h9) rfl dX8_readProgram_13 ?_
      refine lv_if_ne (tgt := 43) hx hb dX8_readProgram_16 (by decide) (fun c_2 => ?_) (fun c_2 => ?_)
      · rw [if_neg c_2] at hsp
        have hr0 := Option.some.inj hsp
        clear hsp
        obtain ⟨hq0, hr1⟩ := Prod.mk.inj hr0
        clear hr0
        obtain ⟨hq1, hr2⟩ := Prod.mk.inj hr1
        clear hr1
        obtain ⟨hq2, hr3⟩ := Prod.mk.inj hr2
        clear hr2
        obtain ⟨hq3, hr4⟩ := Prod.mk.inj hr3
        clear hr3
        subst hq0
        subst hq1
        subst hq2
        subst hq3
        subst hr4
        have hP9 := hP.sub (ws' := [(h0, .inr (8, [.ref qf0, .ref qf1])), (qf0, .inr (9, [.ref qf0_0, .ref qf0_1, .ref qf0_2, .int v0_3, .ref qf0_4, .ref qf0_5, .ref qf0_6, .ref qf0_7, .ref qf0_8, .int v0_9, .int x0_10_2, .int x0_11_2, .int x0_12_2])), (qf0_0, .inl (cf0_0, 3001, .inl f0_0)), (qf0_1, .inl (cf0_1, 3001, .inl f0_1)), (qf1, .inr (2, [.ref qf1_0, .ref qf1_1, .int x1_2_2, .ref qf1_3, .ref qf1_4, .ref qf1_5, .ref qf1_6, .ref qf1_7, .ref qf1_8, .ref qf1_9, .ref qf1_10, .ref qf1_11, .ref qf1_12, .ref qf1_13, .ref qf1_14, .ref qf1_15, .ref qf1_16, .ref qf1_17, .ref qf1_18, .ref qf1_19, .int v1_20])), (qf1_3, .inl (cf1_3, 334, .inl g1_3_2))]) [0, 1, 2, 3, 4, 5] rfl
        have hD9 := hD.sub (ws' := [(h0, .inr (8, [.ref qf0, .ref qf1])), (qf0, .inr (9, [.ref qf0_0, .ref qf0_1, .ref qf0_2, .int v0_3, .ref qf0_4, .ref qf0_5, .ref qf0_6, .ref qf0_7, .ref qf0_8, .int v0_9, .int x0_10_2, .int x0_11_2, .int x0_12_2])), (qf0_0, .inl (cf0_0, 3001, .inl f0_0)), (qf0_1, .inl (cf0_1, 3001, .inl f0_1)), (qf1, .inr (2, [.ref qf1_0, .ref qf1_1, .int x1_2_2, .ref qf1_3, .ref qf1_4, .ref qf1_5, .ref qf1_6, .ref qf1_7, .ref qf1_8, .ref qf1_9, .ref qf1_10, .ref qf1_11, .ref qf1_12, .ref qf1_13, .ref qf1_14, .ref qf1_15, .ref qf1_16, .ref qf1_17, .ref qf1_18, .ref qf1_19, .int v1_20])), (qf1_3, .inl (cf1_3, 334, .inl g1_3_2))]) [0, 1, 2, 3, 4, 5] (by decide) rfl
        have hK9 := hK.sub (tys' := [(cf0_0, .int), (cf0_1, .int), (cf1_3, .int)]) [0, 1, 2] rfl
        exact W.vret hx hb hr (fun t ht hW => ⟨⟨(), rfl, trivial, by rw [ht]; exact hP9, va_K.moved hW.alike hK9, hD9⟩, hS.F ht⟩) hS.2.2 dX8_readProgram_43
      · rw [if_pos c_2] at hsp
        refine lv_iload_n hx hb dX8_readProgram_19 rfl (lv_at hl 0 rfl) ?_
        refine lv_if_eq (tgt := 33) hx hb dX8_readProgram_20 (by decide) (fun c_3 => ?_) (fun c_3 => ?_)
        · rw [if_pos c_3] at hsp
          refine lv_aload_n hx hb dX8_readProgram_33 rfl (lv_at hl 1 rfl) ?_
          obtain ⟨⟨g901_0, u1_1, u1_2, u1_3, u1_4⟩, hu_1, hsp⟩ := ox_bind hsp
          try dsimp only at hsp
          have hPc := hP.sub (ws' := [(h0, .inr (8, [.ref qf0, .ref qf1])), (qf0, .inr (9, [.ref qf0_0, .ref qf0_1, .ref qf0_2, .int v0_3, .ref qf0_4, .ref qf0_5, .ref qf0_6, .ref qf0_7, .ref qf0_8, .int v0_9, .int x0_10_2, .int x0_11_2, .int x0_12_2])), (qf0_0, .inl (cf0_0, 3001, .inl f0_0)), (qf0_1, .inl (cf0_1, 3001, .inl f0_1)), (qf1, .inr (2, [.ref qf1_0, .ref qf1_1, .int x1_2_2, .ref qf1_3, .ref qf1_4, .ref qf1_5, .ref qf1_6, .ref qf1_7, .ref qf1_8, .ref qf1_9, .ref qf1_10, .ref qf1_11, .ref qf1_12, .ref qf1_13, .ref qf1_14, .ref qf1_15, .ref qf1_16, .ref qf1_17, .ref qf1_18, .ref qf1_19, .int v1_20])), (qf1_3, .inl (cf1_3, 334, .inl g1_3_2))]) [0, 1, 2, 3, 4, 5] rfl
          have hDc := hD.sub (ws' := [(h0, .inr (8, [.ref qf0, .ref qf1])), (qf0, .inr (9, [.ref qf0_0, .ref qf0_1, .ref qf0_2, .int v0_3, .ref qf0_4, .ref qf0_5, .ref qf0_6, .ref qf0_7, .ref qf0_8, .int v0_9, .int x0_10_2, .int x0_11_2, .int x0_12_2])), (qf0_0, .inl (cf0_0, 3001, .inl f0_0)), (qf0_1, .inl (cf0_1, 3001, .inl f0_1)), (qf1, .inr (2, [.ref qf1_0, .ref qf1_1, .int x1_2_2, .ref qf1_3, .ref qf1_4, .ref qf1_5, .ref qf1_6, .ref qf1_7, .ref qf1_8, .ref qf1_9, .ref qf1_10, .ref qf1_11, .ref qf1_12, .ref qf1_13, .ref qf1_14, .ref qf1_15, .ref qf1_16, .ref qf1_17, .ref qf1_18, .ref qf1_19, .int v1_20])), (qf1_3, .inl (cf1_3, 334, .inl g1_3_2))]) [0, 1, 2, 3, 4, 5] (by decide) rfl
          have hKc := hK.sub (tys' := [(cf0_0, .int), (cf0_1, .int), (cf1_3, .int)]) [0, 1, 2] rfl
          have hFc := va_free (wc := [(h0, .inr (8, [.ref qf0, .ref qf1])), (qf0, .inr (9, [.ref qf0_0, .ref qf0_1, .ref qf0_2, .int v0_3, .ref qf0_4, .ref qf0_5, .ref qf0_6, .ref qf0_7, .ref qf0_8, .int v0_9, .int x0_10_2, .int x0_11_2, .int x0_12_2])), (qf0_0, .inl (cf0_0, 3001, .inl f0_0)), (qf0_1, .inl (cf0_1, 3001, .inl f0_1)), (qf1, .inr (2, [.ref qf1_0, .ref qf1_1, .int x1_2_2, .ref qf1_3, .ref qf1_4, .ref qf1_5, .ref qf1_6, .ref qf1_7, .ref qf1_8, .ref qf1_9, .ref qf1_10, .ref qf1_11, .ref qf1_12, .ref qf1_13, .ref qf1_14, .ref qf1_15, .ref qf1_16, .ref qf1_17, .ref qf1_18, .ref qf1_19, .int v1_20])), (qf1_3, .inl (cf1_3, 334, .inl g1_3_2))]) hD hS hA [0, 1, 2, 3, 4, 5] rfl
          refine va_callv (va_runV (As := []) (rest := []) ⟨hx, hb, hml, hown, hts⟩ (v8_readClass l dC dI H.size h0 qf0 qf1 qf0_0 qf0_1 qf0_2 v0_3 qf0_4 qf0_5 qf0_6 qf0_7 qf0_8 v0_9 x0_10_2 x0_11_2 x0_12_2 cf0_0 f0_0 cf0_1 f0_1 qf1_0 qf1_1 x1_2_2 qf1_3 qf1_4 qf1_5 qf1_6 qf1_7 qf1_8 qf1_9 qf1_10 qf1_11 qf1_12 qf1_13 qf1_14 qf1_15 qf1_16 qf1_17 qf1_18 qf1_19 v1_20 cf1_3 g1_3_2 nf g901_0 u1_1 u1_2 u1_3 u1_4 hu_1) (cwV 0 hts gv_h8_45 rfl rfl rfl (by decide +kernel) ⟨Nat.le_of_ble_eq_true rfl, Nat.le_of_ble_eq_true rfl⟩) ⟨fun a U g mk q => by obtain ⟨q0, q1, qP, qK, qD⟩ := q; exact ⟨q0, q1, qP, va_K.moved (u := U) (U := U.calling g mk a) (Vm.Alike.refl U.vm) qK, qD⟩, va_recv hKc hPc (ci := 8) (q0 := 0) rfl rfl, fun U hU hW => ⟨rfl, by rw [hU], by rw [hU]; exact hPc, va_K.moved hW.alike hKc, hDc.weaken (fun _ _ _ _ => trivial)⟩⟩ rfl rfl hl.1 rfl (lv_room (Nat.le_of_ble_eq_true rfl)) dX8_readProgram_34 ⟨Nat.le_of_ble_eq_true rfl, Nat.le_of_ble_eq_true rfl⟩) hS (fun q _ h => hFc q h) hFc ?_
          clear hS
          intro u t H1 locs ht hvm hw hB hz1 hk1 hS
          obtain ⟨⟩ := u
          obtain ⟨hP1, hK1, hD1⟩ := hB
          rw [ht] at hP1
          have hK1 := va_K.moved hvm.symm hK1
          try dsimp only at hw
          have hPD := va_join (wr := []) (w1 := [(h0, .inr (8, [.ref qf0, .ref qf1])), (qf0, .inr (9, [.ref qf0_0, .ref qf0_1, .ref qf0_2, .int v0_3, .ref qf0_4, .ref qf0_5, .ref qf0_6, .ref qf0_7, .ref qf0_8, .int v0_9, .int u1_1, .int u1_2, .int u1_3])), (qf0_0, .inl (cf0_0, 3001, .inl f0_0)), (qf0_1, .inl (cf0_1, 3001, .inl f0_1)), (qf1, .inr (2, [.ref qf1_0, .ref qf1_1, .int u1_4, .ref qf1_3, .ref qf1_4, .ref qf1_5, .ref qf1_6, .ref qf1_7, .ref qf1_8, .ref qf1_9, .ref qf1_10, .ref qf1_11, .ref qf1_12, .ref qf1_13, .ref qf1_14, .ref qf1_15, .ref qf1_16, .ref qf1_17, .ref qf1_18, .ref qf1_19, .int v1_20])), (qf1_3, .inl (cf1_3, 334, .inl g901_0))]) hP hD [0, 1, 2, 3, 4, 5] [] rfl rfl (by decide) (by decide) hk1 hFc hP1 hD1
          clear hP hD
          obtain ⟨hP, hD⟩ := hPD
          replace hK := (hK.sub (tys' := []) [] rfl).app hK1
          clear hPc hDc hKc hFc hP1 hK1 hD1 hz1 hk1 ht hvm
          generalize H1 = H at hP hS ⊢
          replace hP : va_P (dC, dI) vwCl [(h0, .inr (8, [.ref qf0, .ref qf1])), (qf0, .inr (9, [.ref qf0_0, .ref qf0_1, .ref qf0_2, .int v0_3, .ref qf0_4, .ref qf0_5, .ref qf0_6, .ref qf0_7, .ref qf0_8, .int v0_9, .int u1_1, .int u1_2, .int u1_3])), (qf0_0, .inl (cf0_0, 3001, .inl f0_0)), (qf0_1, .inl (cf0_1, 3001, .inl f0_1)), (qf1, .inr (2, [.ref qf1_0, .ref qf1_1, .int u1_4, .ref qf1_3, .ref qf1_4, .ref qf1_5, .ref qf1_6, .ref qf1_7, .ref qf1_8, .ref qf1_9, .ref qf1_10, .ref qf1_11, .ref qf1_12, .ref qf1_13, .ref qf1_14, .ref qf1_15, .ref qf1_16, .ref qf1_17, .ref qf1_18, .ref qf1_19, .int v1_20])), (qf1_3, .inl (cf1_3, 334, .inl g901_0))] H := hP
          replace hD : va_D A [(h0, .inr (8, [.ref qf0, .ref qf1])), (qf0, .inr (9, [.ref qf0_0, .ref qf0_1, .ref qf0_2, .int v0_3, .ref qf0_4, .ref qf0_5, .ref qf0_6, .ref qf0_7, .ref qf0_8, .int v0_9, .int u1_1, .int u1_2, .int u1_3])), (qf0_0, .inl (cf0_0, 3001, .inl f0_0)), (qf0_1, .inl (cf0_1, 3001, .inl f0_1)), (qf1, .inr (2, [.ref qf1_0, .ref qf1_1, .int u1_4, .ref qf1_3, .ref qf1_4, .ref qf1_5, .ref qf1_6, .ref qf1_7, .ref qf1_8, .ref qf1_9, .ref qf1_10, .ref qf1_11, .ref qf1_12, .ref qf1_13, .ref qf1_14, .ref qf1_15, .ref qf1_16, .ref qf1_17, .ref qf1_18, .ref qf1_19, .int v1_20])), (qf1_3, .inl (cf1_3, 334, .inl g901_0))] := hD
          replace hK : va_K (dC, dI) vwCl [(cf0_0, .int), (cf0_1, .int), (cf1_3, .int)] s := hK
          refine lv_iinc (v := (l1_2 + 1)) (lv' := [(1, .int (l1_2 + 1)), (0, .ref h0)]) hx hb dX8_readProgram_37 hl (k := 0) rfl rfl (by decide) rfl (fun ls hl => ?_)
          refine lv_goto (tgt := 2) hx hb dX8_readProgram_40 (by decide) ?_
          exact ih_2 H locs ls (l1_2 + 1) g901_0 u1_1 u1_2 u1_3 u1_4 (lv_sub hl [0, 1] rfl) hS (hD.sub (ws' := [(h0, .inr (8, [.ref qf0, .ref qf1])), (qf0, .inr (9, [.ref qf0_0, .ref qf0_1, .ref qf0_2, .int v0_3, .ref qf0_4, .ref qf0_5, .ref qf0_6, .ref qf0_7, .ref qf0_8, .int v0_9, .int u1_1, .int u1_2, .int u1_3])), (qf0_0, .inl (cf0_0, 3001, .inl f0_0)), (qf0_1, .inl (cf0_1, 3001, .inl f0_1)), (qf1, .inr (2, [.ref qf1_0, .ref qf1_1, .int u1_4, .ref qf1_3, .ref qf1_4, .ref qf1_5, .ref qf1_6, .ref qf1_7, .ref qf1_8, .ref qf1_9, .ref qf1_10, .ref qf1_11, .ref qf1_12, .ref qf1_13, .ref qf1_14, .ref qf1_15, .ref qf1_16, .ref qf1_17, .ref qf1_18, .ref qf1_19, .int v1_20])), (qf1_3, .inl (cf1_3, 334, .inl g901_0))]) [0, 1, 2, 3, 4, 5] (by decide) rfl) (hP.sub (ws' := [(h0, .inr (8, [.ref qf0, .ref qf1])), (qf0, .inr (9, [.ref qf0_0, .ref qf0_1, .ref qf0_2, .int v0_3, .ref qf0_4, .ref qf0_5, .ref qf0_6, .ref qf0_7, .ref qf0_8, .int v0_9, .int u1_1, .int u1_2, .int u1_3])), (qf0_0, .inl (cf0_0, 3001, .inl f0_0)), (qf0_1, .inl (cf0_1, 3001, .inl f0_1)), (qf1, .inr (2, [.ref qf1_0, .ref qf1_1, .int u1_4, .ref qf1_3, .ref qf1_4, .ref qf1_5, .ref qf1_6, .ref qf1_7, .ref qf1_8, .ref qf1_9, .ref qf1_10, .ref qf1_11, .ref qf1_12, .ref qf1_13, .ref qf1_14, .ref qf1_15, .ref qf1_16, .ref qf1_17, .ref qf1_18, .ref qf1_19, .int v1_20])), (qf1_3, .inl (cf1_3, 334, .inl g901_0))]) [0, 1, 2, 3, 4, 5] rfl) hsp
        · rw [if_neg c_3] at hsp
          refine lv_aload_n hx hb dX8_readProgram_23 rfl (lv_at hl 1 rfl) ?_
          refine va_get (D := (dC, dI)) (ci := 8) (v := .ref qf0) (C := RX8) (T := TX8) (N := 2) hx hb hts uV_h8_X8 hown hK hP 0 rfl rfl 0 (by decide) (hts (.fieldLink RX8 7 "ClassMill$Syntax" "text" "LClassMill$Text;") mw_h8_135) (fun _ h9 => h9) rfl dX8_readProgram_24 ?_
          obtain ⟨u2_0, hu_2, hsp⟩ := ox_bind hsp
          try dsimp only at hsp
          have hPc := hP.sub (ws' := [(qf0, .inr (9, [.ref qf0_0, .ref qf0_1, .ref qf0_2, .int v0_3, .ref qf0_4, .ref qf0_5, .ref qf0_6, .ref qf0_7, .ref qf0_8, .int v0_9, .int x0_10_2, .int x0_11_2, .int x0_12_2])), (qf0_0, .inl (cf0_0, 3001, .inl f0_0))]) [1, 2] rfl
          have hDc := hD.sub (ws' := [(qf0, .inr (9, [.ref qf0_0, .ref qf0_1, .ref qf0_2, .int v0_3, .ref qf0_4, .ref qf0_5, .ref qf0_6, .ref qf0_7, .ref qf0_8, .int v0_9, .int x0_10_2, .int x0_11_2, .int x0_12_2])), (qf0_0, .inl (cf0_0, 3001, .inl f0_0))]) [1, 2] (by decide) rfl
          have hKc := hK.sub (tys' := [(cf0_0, .int)]) [0] rfl
          have hFc := va_free (wc := [(qf0, .inr (9, [.ref qf0_0, .ref qf0_1, .ref qf0_2, .int v0_3, .ref qf0_4, .ref qf0_5, .ref qf0_6, .ref qf0_7, .ref qf0_8, .int v0_9, .int x0_10_2, .int x0_11_2, .int x0_12_2])), (qf0_0, .inl (cf0_0, 3001, .inl f0_0))]) hD hS hA [1, 2] rfl
          refine va_calli (va_runV (As := []) (rest := []) ⟨hx, hb, hml, hown, hts⟩ (t9_kind l dC dI H.size qf0 qf0_0 qf0_1 qf0_2 v0_3 qf0_4 qf0_5 qf0_6 qf0_7 qf0_8 v0_9 x0_10_2 x0_11_2 x0_12_2 cf0_0 f0_0 nf u2_0 hu_2) (cwV 0 hts gv_h8_25 rfl rfl rfl (by decide +kernel) ⟨Nat.le_of_ble_eq_true rfl, Nat.le_of_ble_eq_true rfl⟩) ⟨fun a U g mk q => by obtain ⟨q0, q1, qP, qK, qD⟩ := q; exact ⟨q0, q1, qP, va_K.moved (u := U) (U := U.calling g mk a) (Vm.Alike.refl U.vm) qK, qD⟩, va_recv hKc hPc (ci := 9) (q0 := 0) rfl rfl, fun U hU hW => ⟨rfl, by rw [hU], by rw [hU]; exact hPc, va_K.moved hW.alike hKc, hDc.weaken (fun _ _ _ _ => trivial)⟩⟩ rfl rfl hl.1 rfl (lv_room (Nat.le_of_ble_eq_true rfl)) dX8_readProgram_27 ⟨Nat.le_of_ble_eq_true rfl, Nat.le_of_ble_eq_true rfl⟩) hS (fun q _ h => hFc q h) hFc ?_
          clear hS
          intro r_4 u t H1 locs ht hvm hw hB hz1 hk1 hS
          obtain ⟨⟩ := u
          obtain ⟨hP1, hK1, hD1⟩ := hB
          rw [ht] at hP1
          have hK1 := va_K.moved hvm.symm hK1
          try dsimp only at hw
          have hPD := va_join (wr := [(h0, .inr (8, [.ref qf0, .ref qf1])), (qf0_1, .inl (cf0_1, 3001, .inl f0_1)), (qf1, .inr (2, [.ref qf1_0, .ref qf1_1, .int x1_2_2, .ref qf1_3, .ref qf1_4, .ref qf1_5, .ref qf1_6, .ref qf1_7, .ref qf1_8, .ref qf1_9, .ref qf1_10, .ref qf1_11, .ref qf1_12, .ref qf1_13, .ref qf1_14, .ref qf1_15, .ref qf1_16, .ref qf1_17, .ref qf1_18, .ref qf1_19, .int v1_20])), (qf1_3, .inl (cf1_3, 334, .inl g1_3_2))]) (w1 := [(qf0, .inr (9, [.ref qf0_0, .ref qf0_1, .ref qf0_2, .int v0_3, .ref qf0_4, .ref qf0_5, .ref qf0_6, .ref qf0_7, .ref qf0_8, .int v0_9, .int x0_10_2, .int x0_11_2, .int x0_12_2])), (qf0_0, .inl (cf0_0, 3001, .inl f0_0))]) hP hD [1, 2] [0, 3, 4, 5] rfl rfl (by decide) (by decide) hk1 hFc hP1 hD1
          clear hP hD
          obtain ⟨hP, hD⟩ := hPD
          replace hK := (hK.sub (tys' := [(cf0_1, .int), (cf1_3, .int)]) [1, 2] rfl).app hK1
          clear hPc hDc hKc hFc hP1 hK1 hD1 hz1 hk1 ht hvm
          generalize H1 = H at hP hS ⊢
          replace hP : va_P (dC, dI) vwCl [(h0, .inr (8, [.ref qf0, .ref qf1])), (qf0_1, .inl (cf0_1, 3001, .inl f0_1)), (qf1, .inr (2, [.ref qf1_0, .ref qf1_1, .int x1_2_2, .ref qf1_3, .ref qf1_4, .ref qf1_5, .ref qf1_6, .ref qf1_7, .ref qf1_8, .ref qf1_9, .ref qf1_10, .ref qf1_11, .ref qf1_12, .ref qf1_13, .ref qf1_14, .ref qf1_15, .ref qf1_16, .ref qf1_17, .ref qf1_18, .ref qf1_19, .int v1_20])), (qf1_3, .inl (cf1_3, 334, .inl g1_3_2)), (qf0, .inr (9, [.ref qf0_0, .ref qf0_1, .ref qf0_2, .int v0_3, .ref qf0_4, .ref qf0_5, .ref qf0_6, .ref qf0_7, .ref qf0_8, .int v0_9, .int x0_10_2, .int x0_11_2, .int x0_12_2])), (qf0_0, .inl (cf0_0, 3001, .inl f0_0))] H := hP
          replace hD : va_D A [(h0, .inr (8, [.ref qf0, .ref qf1])), (qf0_1, .inl (cf0_1, 3001, .inl f0_1)), (qf1, .inr (2, [.ref qf1_0, .ref qf1_1, .int x1_2_2, .ref qf1_3, .ref qf1_4, .ref qf1_5, .ref qf1_6, .ref qf1_7, .ref qf1_8, .ref qf1_9, .ref qf1_10, .ref qf1_11, .ref qf1_12, .ref qf1_13, .ref qf1_14, .ref qf1_15, .ref qf1_16, .ref qf1_17, .ref qf1_18, .ref qf1_19, .int v1_20])), (qf1_3, .inl (cf1_3, 334, .inl g1_3_2)), (qf0, .inr (9, [.ref qf0_0, .ref qf0_1, .ref qf0_2, .int v0_3, .ref qf0_4, .ref qf0_5, .ref qf0_6, .ref qf0_7, .ref qf0_8, .int v0_9, .int x0_10_2, .int x0_11_2, .int x0_12_2])), (qf0_0, .inl (cf0_0, 3001, .inl f0_0))] := hD
          replace hK : va_K (dC, dI) vwCl [(cf0_1, .int), (cf1_3, .int), (cf0_0, .int)] s := hK
          obtain rfl := hw
          refine lv_if_eq (tgt := 43) hx hb dX8_readProgram_30 (by decide) (fun c_5 => ?_) (fun c_5 => ?_)
          · rw [if_pos c_5] at hsp
            have hr0 := Option.some.inj hsp
            clear hsp
            obtain ⟨hq0, hr1⟩ := Prod.mk.inj hr0
            clear hr0
            obtain ⟨hq1, hr2⟩ := Prod.mk.inj hr1
            clear hr1
            obtain ⟨hq2, hr3⟩ := Prod.mk.inj hr2
            clear hr2
            obtain ⟨hq3, hr4⟩ := Prod.mk.inj hr3
            clear hr3
            subst hq0
            subst hq1
            subst hq2
            subst hq3
            subst hr4
            have hP9 := hP.sub (ws' := [(h0, .inr (8, [.ref qf0, .ref qf1])), (qf0, .inr (9, [.ref qf0_0, .ref qf0_1, .ref qf0_2, .int v0_3, .ref qf0_4, .ref qf0_5, .ref qf0_6, .ref qf0_7, .ref qf0_8, .int v0_9, .int x0_10_2, .int x0_11_2, .int x0_12_2])), (qf0_0, .inl (cf0_0, 3001, .inl f0_0)), (qf0_1, .inl (cf0_1, 3001, .inl f0_1)), (qf1, .inr (2, [.ref qf1_0, .ref qf1_1, .int x1_2_2, .ref qf1_3, .ref qf1_4, .ref qf1_5, .ref qf1_6, .ref qf1_7, .ref qf1_8, .ref qf1_9, .ref qf1_10, .ref qf1_11, .ref qf1_12, .ref qf1_13, .ref qf1_14, .ref qf1_15, .ref qf1_16, .ref qf1_17, .ref qf1_18, .ref qf1_19, .int v1_20])), (qf1_3, .inl (cf1_3, 334, .inl g1_3_2))]) [0, 4, 5, 1, 2, 3] rfl
            have hD9 := hD.sub (ws' := [(h0, .inr (8, [.ref qf0, .ref qf1])), (qf0, .inr (9, [.ref qf0_0, .ref qf0_1, .ref qf0_2, .int v0_3, .ref qf0_4, .ref qf0_5, .ref qf0_6, .ref qf0_7, .ref qf0_8, .int v0_9, .int x0_10_2, .int x0_11_2, .int x0_12_2])), (qf0_0, .inl (cf0_0, 3001, .inl f0_0)), (qf0_1, .inl (cf0_1, 3001, .inl f0_1)), (qf1, .inr (2, [.ref qf1_0, .ref qf1_1, .int x1_2_2, .ref qf1_3, .ref qf1_4, .ref qf1_5, .ref qf1_6, .ref qf1_7, .ref qf1_8, .ref qf1_9, .ref qf1_10, .ref qf1_11, .ref qf1_12, .ref qf1_13, .ref qf1_14, .ref qf1_15, .ref qf1_16, .ref qf1_17, .ref qf1_18, .ref qf1_19, .int v1_20])), (qf1_3, .inl (cf1_3, 334, .inl g1_3_2))]) [0, 4, 5, 1, 2, 3] (by decide) rfl
            have hK9 := hK.sub (tys' := [(cf0_0, .int), (cf0_1, .int), (cf1_3, .int)]) [2, 0, 1] rfl
            exact W.vret hx hb hr (fun t ht hW => ⟨⟨(), rfl, trivial, by rw [ht]; exact hP9, va_K.moved hW.alike hK9, hD9⟩, hS.F ht⟩) hS.2.2 dX8_readProgram_43
          · rw [if_neg c_5] at hsp
            refine lv_aload_n hx hb dX8_readProgram_33 rfl (lv_at hl 1 rfl) ?_
            obtain ⟨⟨g903_0, u3_1, u3_2, u3_3, u3_4⟩, hu_3, hsp⟩ := ox_bind hsp
            try dsimp only at hsp
            have hPc := hP.sub (ws' := [(h0, .inr (8, [.ref qf0, .ref qf1])), (qf0, .inr (9, [.ref qf0_0, .ref qf0_1, .ref qf0_2, .int v0_3, .ref qf0_4, .ref qf0_5, .ref qf0_6, .ref qf0_7, .ref qf0_8, .int v0_9, .int x0_10_2, .int x0_11_2, .int x0_12_2])), (qf0_0, .inl (cf0_0, 3001, .inl f0_0)), (qf0_1, .inl (cf0_1, 3001, .inl f0_1)), (qf1, .inr (2, [.ref qf1_0, .ref qf1_1, .int x1_2_2, .ref qf1_3, .ref qf1_4, .ref qf1_5, .ref qf1_6, .ref qf1_7, .ref qf1_8, .ref qf1_9, .ref qf1_10, .ref qf1_11, .ref qf1_12, .ref qf1_13, .ref qf1_14, .ref qf1_15, .ref qf1_16, .ref qf1_17, .ref qf1_18, .ref qf1_19, .int v1_20])), (qf1_3, .inl (cf1_3, 334, .inl g1_3_2))]) [0, 4, 5, 1, 2, 3] rfl
            have hDc := hD.sub (ws' := [(h0, .inr (8, [.ref qf0, .ref qf1])), (qf0, .inr (9, [.ref qf0_0, .ref qf0_1, .ref qf0_2, .int v0_3, .ref qf0_4, .ref qf0_5, .ref qf0_6, .ref qf0_7, .ref qf0_8, .int v0_9, .int x0_10_2, .int x0_11_2, .int x0_12_2])), (qf0_0, .inl (cf0_0, 3001, .inl f0_0)), (qf0_1, .inl (cf0_1, 3001, .inl f0_1)), (qf1, .inr (2, [.ref qf1_0, .ref qf1_1, .int x1_2_2, .ref qf1_3, .ref qf1_4, .ref qf1_5, .ref qf1_6, .ref qf1_7, .ref qf1_8, .ref qf1_9, .ref qf1_10, .ref qf1_11, .ref qf1_12, .ref qf1_13, .ref qf1_14, .ref qf1_15, .ref qf1_16, .ref qf1_17, .ref qf1_18, .ref qf1_19, .int v1_20])), (qf1_3, .inl (cf1_3, 334, .inl g1_3_2))]) [0, 4, 5, 1, 2, 3] (by decide) rfl
            have hKc := hK.sub (tys' := [(cf0_0, .int), (cf0_1, .int), (cf1_3, .int)]) [2, 0, 1] rfl
            have hFc := va_free (wc := [(h0, .inr (8, [.ref qf0, .ref qf1])), (qf0, .inr (9, [.ref qf0_0, .ref qf0_1, .ref qf0_2, .int v0_3, .ref qf0_4, .ref qf0_5, .ref qf0_6, .ref qf0_7, .ref qf0_8, .int v0_9, .int x0_10_2, .int x0_11_2, .int x0_12_2])), (qf0_0, .inl (cf0_0, 3001, .inl f0_0)), (qf0_1, .inl (cf0_1, 3001, .inl f0_1)), (qf1, .inr (2, [.ref qf1_0, .ref qf1_1, .int x1_2_2, .ref qf1_3, .ref qf1_4, .ref qf1_5, .ref qf1_6, .ref qf1_7, .ref qf1_8, .ref qf1_9, .ref qf1_10, .ref qf1_11, .ref qf1_12, .ref qf1_13, .ref qf1_14, .ref qf1_15, .ref qf1_16, .ref qf1_17, .ref qf1_18, .ref qf1_19, .int v1_20])), (qf1_3, .inl (cf1_3, 334, .inl g1_3_2))]) hD hS hA [0, 4, 5, 1, 2, 3] rfl
            refine va_callv (va_runV (As := []) (rest := []) ⟨hx, hb, hml, hown, hts⟩ (v8_readClass l dC dI H.size h0 qf0 qf1 qf0_0 qf0_1 qf0_2 v0_3 qf0_4 qf0_5 qf0_6 qf0_7 qf0_8 v0_9 x0_10_2 x0_11_2 x0_12_2 cf0_0 f0_0 cf0_1 f0_1 qf1_0 qf1_1 x1_2_2 qf1_3 qf1_4 qf1_5 qf1_6 qf1_7 qf1_8 qf1_9 qf1_10 qf1_11 qf1_12 qf1_13 qf1_14 qf1_15 qf1_16 qf1_17 qf1_18 qf1_19 v1_20 cf1_3 g1_3_2 nf g903_0 u3_1 u3_2 u3_3 u3_4 hu_3) (cwV 0 hts gv_h8_45 rfl rfl rfl (by decide +kernel) ⟨Nat.le_of_ble_eq_true rfl, Nat.le_of_ble_eq_true rfl⟩) ⟨fun a U g mk q => by obtain ⟨q0, q1, qP, qK, qD⟩ := q; exact ⟨q0, q1, qP, va_K.moved (u := U) (U := U.calling g mk a) (Vm.Alike.refl U.vm) qK, qD⟩, va_recv hKc hPc (ci := 8) (q0 := 0) rfl rfl, fun U hU hW => ⟨rfl, by rw [hU], by rw [hU]; exact hPc, va_K.moved hW.alike hKc, hDc.weaken (fun _ _ _ _ => trivial)⟩⟩ rfl rfl hl.1 rfl (lv_room (Nat.le_of_ble_eq_true rfl)) dX8_readProgram_34 ⟨Nat.le_of_ble_eq_true rfl, Nat.le_of_ble_eq_true rfl⟩) hS (fun q _ h => hFc q h) hFc ?_
            clear hS
            intro u t H1 locs ht hvm hw hB hz1 hk1 hS
            obtain ⟨⟩ := u
            obtain ⟨hP1, hK1, hD1⟩ := hB
            rw [ht] at hP1
            have hK1 := va_K.moved hvm.symm hK1
            try dsimp only at hw
            have hPD := va_join (wr := []) (w1 := [(h0, .inr (8, [.ref qf0, .ref qf1])), (qf0, .inr (9, [.ref qf0_0, .ref qf0_1, .ref qf0_2, .int v0_3, .ref qf0_4, .ref qf0_5, .ref qf0_6, .ref qf0_7, .ref qf0_8, .int v0_9, .int u3_1, .int u3_2, .int u3_3])), (qf0_0, .inl (cf0_0, 3001, .inl f0_0)), (qf0_1, .inl (cf0_1, 3001, .inl f0_1)), (qf1, .inr (2, [.ref qf1_0, .ref qf1_1, .int u3_4, .ref qf1_3, .ref qf1_4, .ref qf1_5, .ref qf1_6, .ref qf1_7, .ref qf1_8, .ref qf1_9, .ref qf1_10, .ref qf1_11, .ref qf1_12, .ref qf1_13, .ref qf1_14, .ref qf1_15, .ref qf1_16, .ref qf1_17, .ref qf1_18, .ref qf1_19, .int v1_20])), (qf1_3, .inl (cf1_3, 334, .inl g903_0))]) hP hD [0, 4, 5, 1, 2, 3] [] rfl rfl (by decide) (by decide) hk1 hFc hP1 hD1
            clear hP hD
            obtain ⟨hP, hD⟩ := hPD
            replace hK := (hK.sub (tys' := []) [] rfl).app hK1
            clear hPc hDc hKc hFc hP1 hK1 hD1 hz1 hk1 ht hvm
            generalize H1 = H at hP hS ⊢
            replace hP : va_P (dC, dI) vwCl [(h0, .inr (8, [.ref qf0, .ref qf1])), (qf0, .inr (9, [.ref qf0_0, .ref qf0_1, .ref qf0_2, .int v0_3, .ref qf0_4, .ref qf0_5, .ref qf0_6, .ref qf0_7, .ref qf0_8, .int v0_9, .int u3_1, .int u3_2, .int u3_3])), (qf0_0, .inl (cf0_0, 3001, .inl f0_0)), (qf0_1, .inl (cf0_1, 3001, .inl f0_1)), (qf1, .inr (2, [.ref qf1_0, .ref qf1_1, .int u3_4, .ref qf1_3, .ref qf1_4, .ref qf1_5, .ref qf1_6, .ref qf1_7, .ref qf1_8, .ref qf1_9, .ref qf1_10, .ref qf1_11, .ref qf1_12, .ref qf1_13, .ref qf1_14, .ref qf1_15, .ref qf1_16, .ref qf1_17, .ref qf1_18, .ref qf1_19, .int v1_20])), (qf1_3, .inl (cf1_3, 334, .inl g903_0))] H := hP
            replace hD : va_D A [(h0, .inr (8, [.ref qf0, .ref qf1])), (qf0, .inr (9, [.ref qf0_0, .ref qf0_1, .ref qf0_2, .int v0_3, .ref qf0_4, .ref qf0_5, .ref qf0_6, .ref qf0_7, .ref qf0_8, .int v0_9, .int u3_1, .int u3_2, .int u3_3])), (qf0_0, .inl (cf0_0, 3001, .inl f0_0)), (qf0_1, .inl (cf0_1, 3001, .inl f0_1)), (qf1, .inr (2, [.ref qf1_0, .ref qf1_1, .int u3_4, .ref qf1_3, .ref qf1_4, .ref qf1_5, .ref qf1_6, .ref qf1_7, .ref qf1_8, .ref qf1_9, .ref qf1_10, .ref qf1_11, .ref qf1_12, .ref qf1_13, .ref qf1_14, .ref qf1_15, .ref qf1_16, .ref qf1_17, .ref qf1_18, .ref qf1_19, .int v1_20])), (qf1_3, .inl (cf1_3, 334, .inl g903_0))] := hD
            replace hK : va_K (dC, dI) vwCl [(cf0_0, .int), (cf0_1, .int), (cf1_3, .int)] s := hK
            refine lv_iinc (v := (l1_2 + 1)) (lv' := [(1, .int (l1_2 + 1)), (0, .ref h0)]) hx hb dX8_readProgram_37 hl (k := 0) rfl rfl (by decide) rfl (fun ls hl => ?_)
            refine lv_goto (tgt := 2) hx hb dX8_readProgram_40 (by decide) ?_
            exact ih_2 H locs ls (l1_2 + 1) g903_0 u3_1 u3_2 u3_3 u3_4 (lv_sub hl [0, 1] rfl) hS (hD.sub (ws' := [(h0, .inr (8, [.ref qf0, .ref qf1])), (qf0, .inr (9, [.ref qf0_0, .ref qf0_1, .ref qf0_2, .int v0_3, .ref qf0_4, .ref qf0_5, .ref qf0_6, .ref qf0_7, .ref qf0_8, .int v0_9, .int u3_1, .int u3_2, .int u3_3])), (qf0_0, .inl (cf0_0, 3001, .inl f0_0)), (qf0_1, .inl (cf0_1, 3001, .inl f0_1)), (qf1, .inr (2, [.ref qf1_0, .ref qf1_1, .int u3_4, .ref qf1_3, .ref qf1_4, .ref qf1_5, .ref qf1_6, .ref qf1_7, .ref qf1_8, .ref qf1_9, .ref qf1_10, .ref qf1_11, .ref qf1_12, .ref qf1_13, .ref qf1_14, .ref qf1_15, .ref qf1_16, .ref qf1_17, .ref qf1_18, .ref qf1_19, .int v1_20])), (qf1_3, .inl (cf1_3, 334, .inl g903_0))]) [0, 1, 2, 3, 4, 5] (by decide) rfl) (hP.sub (ws' := [(h0, .inr (8, [.ref qf0, .ref qf1])), (qf0, .inr (9, [.ref qf0_0, .ref qf0_1, .ref qf0_2, .int v0_3, .ref qf0_4, .ref qf0_5, .ref qf0_6, .ref qf0_7, .ref qf0_8, .int v0_9, .int u3_1, .int u3_2, .int u3_3])), (qf0_0, .inl (cf0_0, 3001, .inl f0_0)), (qf0_1, .inl (cf0_1, 3001, .inl f0_1)), (qf1, .inr (2, [.ref qf1_0, .ref qf1_1, .int u3_4, .ref qf1_3, .ref qf1_4, .ref qf1_5, .ref qf1_6, .ref qf1_7, .ref qf1_8, .ref qf1_9, .ref qf1_10, .ref qf1_11, .ref qf1_12, .ref qf1_13, .ref qf1_14, .ref qf1_15, .ref qf1_16, .ref qf1_17, .ref qf1_18, .ref qf1_19, .int v1_20])), (qf1_3, .inl (cf1_3, 334, .inl g903_0))]) [0, 1, 2, 3, 4, 5] rfl) hsp
