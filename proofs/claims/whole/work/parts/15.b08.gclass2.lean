set_option maxHeartbeats 4000000 in
set_option maxRecDepth 100000 in
/-- ClassMill$Heads.addParameter -/
theorem t2_addParameter (l : Launch) (dC : Nat → ClassId) (dI : Nat → Nat → Nat) (sz : Nat) (h0 : Nat) (a1 : Int32) (qf0 : Nat) (qf1 : Nat) (v2 : Int32) (qf3 : Nat) (qf4 : Nat) (qf5 : Nat) (qf6 : Nat) (qf7 : Nat) (qf8 : Nat) (qf9 : Nat) (qf10 : Nat) (qf11 : Nat) (qf12 : Nat) (qf13 : Nat) (qf14 : Nat) (qf15 : Nat) (qf16 : Nat) (qf17 : Nat) (qf18 : Nat) (qf19 : Nat) (v20 : Int32) (qf0_0 : Nat) (qf0_1 : Nat) (qf0_2 : Nat) (v0_3 : Int32) (qf0_4 : Nat) (qf0_5 : Nat) (qf0_6 : Nat) (qf0_7 : Nat) (qf0_8 : Nat) (v0_9 : Int32) (v0_10 : Int32) (v0_11 : Int32) (v0_12 : Int32) (cf0_0 : ClassId) (f0_0 : (Nat → Int32)) (cf0_2 : ClassId) (f0_2 : (Nat → Int32)) (cf4 : ClassId) (f4 : (Nat → Int32)) (cf0_1 : ClassId) (f0_1 : (Nat → Int32)) (cf15 : ClassId) (f15 : (Nat → Int32)) (cf16 : ClassId) (f16 : (Nat → Int32)) (cf17 : ClassId) (f17 : (Nat → Int32)) (nf : Nat) (o15 : (Nat → Int32)) (o16 : (Nat → Int32)) (o17 : (Nat → Int32)) (w0_10 : Int32) (w0_11 : Int32) (w0_12 : Int32) (hsp : sp_t2_addParameter nf a1 v0_3 v0_10 v0_11 v0_12 f0_0 f0_2 f4 f0_1 f15 f16 f17 = some (o15, o16, o17, w0_10, w0_11, w0_12)) : Met l yX2_addParameter (.code yX2_addParameter cX2_addParameter 7 none :: VS_h4) ({ frames := 3, cells := 0, slots := 0, locals := 67 }) (va_Pc [.ref h0, .int a1] (fun U => U.heap.size = sz ∧ va_P (dC, dI) vwCl [(h0, .inr (2, [.ref qf0, .ref qf1, .int v2, .ref qf3, .ref qf4, .ref qf5, .ref qf6, .ref qf7, .ref qf8, .ref qf9, .ref qf10, .ref qf11, .ref qf12, .ref qf13, .ref qf14, .ref qf15, .ref qf16, .ref qf17, .ref qf18, .ref qf19, .int v20])), (qf0, .inr (9, [.ref qf0_0, .ref qf0_1, .ref qf0_2, .int v0_3, .ref qf0_4, .ref qf0_5, .ref qf0_6, .ref qf0_7, .ref qf0_8, .int v0_9, .int v0_10, .int v0_11, .int v0_12])), (qf0_0, .inl (cf0_0, 3001, .inl f0_0)), (qf0_2, .inl (cf0_2, 3001, .inl f0_2)), (qf4, .inl (cf4, 1740, .inl f4)), (qf0_1, .inl (cf0_1, 3001, .inl f0_1)), (qf15, .inl (cf15, 96, .inl f15)), (qf16, .inl (cf16, 576, .inl f16)), (qf17, .inl (cf17, 576, .inl f17))] U.heap ∧ va_K (dC, dI) vwCl [(cf0_0, .int), (cf0_2, .int), (cf4, .int), (cf0_1, .int), (cf15, .int), (cf16, .int), (cf17, .int)] U ∧ va_D (fun _ => True) [(h0, .inr (2, [.ref qf0, .ref qf1, .int v2, .ref qf3, .ref qf4, .ref qf5, .ref qf6, .ref qf7, .ref qf8, .ref qf9, .ref qf10, .ref qf11, .ref qf12, .ref qf13, .ref qf14, .ref qf15, .ref qf16, .ref qf17, .ref qf18, .ref qf19, .int v20])), (qf0, .inr (9, [.ref qf0_0, .ref qf0_1, .ref qf0_2, .int v0_3, .ref qf0_4, .ref qf0_5, .ref qf0_6, .ref qf0_7, .ref qf0_8, .int v0_9, .int v0_10, .int v0_11, .int v0_12])), (qf0_0, .inl (cf0_0, 3001, .inl f0_0)), (qf0_2, .inl (cf0_2, 3001, .inl f0_2)), (qf4, .inl (cf4, 1740, .inl f4)), (qf0_1, .inl (cf0_1, 3001, .inl f0_1)), (qf15, .inl (cf15, 96, .inl f15)), (qf16, .inl (cf16, 576, .inl f16)), (qf17, .inl (cf17, 576, .inl f17))])) (va_Qv (fun (u : Unit) => match u with | () => True) (fun (u : Unit) (t : State) => match u with | () => va_P (dC, dI) vwCl [(h0, .inr (2, [.ref qf0, .ref qf1, .int v2, .ref qf3, .ref qf4, .ref qf5, .ref qf6, .ref qf7, .ref qf8, .ref qf9, .ref qf10, .ref qf11, .ref qf12, .ref qf13, .ref qf14, .ref qf15, .ref qf16, .ref qf17, .ref qf18, .ref qf19, .int v20])), (qf0, .inr (9, [.ref qf0_0, .ref qf0_1, .ref qf0_2, .int v0_3, .ref qf0_4, .ref qf0_5, .ref qf0_6, .ref qf0_7, .ref qf0_8, .int v0_9, .int w0_10, .int w0_11, .int w0_12])), (qf0_0, .inl (cf0_0, 3001, .inl f0_0)), (qf0_2, .inl (cf0_2, 3001, .inl f0_2)), (qf4, .inl (cf4, 1740, .inl f4)), (qf0_1, .inl (cf0_1, 3001, .inl f0_1)), (qf15, .inl (cf15, 96, .inl o15)), (qf16, .inl (cf16, 576, .inl o16)), (qf17, .inl (cf17, 576, .inl o17))] t.heap ∧ va_K (dC, dI) vwCl [(cf0_0, .int), (cf0_2, .int), (cf4, .int), (cf0_1, .int), (cf15, .int), (cf16, .int), (cf17, .int)] t ∧ va_D (va_A [(h0, .inr (2, [.ref qf0, .ref qf1, .int v2, .ref qf3, .ref qf4, .ref qf5, .ref qf6, .ref qf7, .ref qf8, .ref qf9, .ref qf10, .ref qf11, .ref qf12, .ref qf13, .ref qf14, .ref qf15, .ref qf16, .ref qf17, .ref qf18, .ref qf19, .int v20])), (qf0, .inr (9, [.ref qf0_0, .ref qf0_1, .ref qf0_2, .int v0_3, .ref qf0_4, .ref qf0_5, .ref qf0_6, .ref qf0_7, .ref qf0_8, .int v0_9, .int v0_10, .int v0_11, .int v0_12])), (qf0_0, .inl (cf0_0, 3001, .inl f0_0)), (qf0_2, .inl (cf0_2, 3001, .inl f0_2)), (qf4, .inl (cf4, 1740, .inl f4)), (qf0_1, .inl (cf0_1, 3001, .inl f0_1)), (qf15, .inl (cf15, 96, .inl f15)), (qf16, .inl (cf16, 576, .inl f16)), (qf17, .inl (cf17, 576, .inl f17))] sz) [(h0, .inr (2, [.ref qf0, .ref qf1, .int v2, .ref qf3, .ref qf4, .ref qf5, .ref qf6, .ref qf7, .ref qf8, .ref qf9, .ref qf10, .ref qf11, .ref qf12, .ref qf13, .ref qf14, .ref qf15, .ref qf16, .ref qf17, .ref qf18, .ref qf19, .int v20])), (qf0, .inr (9, [.ref qf0_0, .ref qf0_1, .ref qf0_2, .int v0_3, .ref qf0_4, .ref qf0_5, .ref qf0_6, .ref qf0_7, .ref qf0_8, .int v0_9, .int w0_10, .int w0_11, .int w0_12])), (qf0_0, .inl (cf0_0, 3001, .inl f0_0)), (qf0_2, .inl (cf0_2, 3001, .inl f0_2)), (qf4, .inl (cf4, 1740, .inl f4)), (qf0_1, .inl (cf0_1, 3001, .inl f0_1)), (qf15, .inl (cf15, 96, .inl o15)), (qf16, .inl (cf16, 576, .inl o16)), (qf17, .inl (cf17, 576, .inl o17))]) (va_A [(h0, .inr (2, [.ref qf0, .ref qf1, .int v2, .ref qf3, .ref qf4, .ref qf5, .ref qf6, .ref qf7, .ref qf8, .ref qf9, .ref qf10, .ref qf11, .ref qf12, .ref qf13, .ref qf14, .ref qf15, .ref qf16, .ref qf17, .ref qf18, .ref qf19, .int v20])), (qf0, .inr (9, [.ref qf0_0, .ref qf0_1, .ref qf0_2, .int v0_3, .ref qf0_4, .ref qf0_5, .ref qf0_6, .ref qf0_7, .ref qf0_8, .int v0_9, .int v0_10, .int v0_11, .int v0_12])), (qf0_0, .inl (cf0_0, 3001, .inl f0_0)), (qf0_2, .inl (cf0_2, 3001, .inl f0_2)), (qf4, .inl (cf4, 1740, .inl f4)), (qf0_1, .inl (cf0_1, 3001, .inl f0_1)), (qf15, .inl (cf15, 96, .inl f15)), (qf16, .inl (cf16, 576, .inl f16)), (qf17, .inl (cf17, 576, .inl f17))] sz)) 0 0 (va_A [(h0, .inr (2, [.ref qf0, .ref qf1, .int v2, .ref qf3, .ref qf4, .ref qf5, .ref qf6, .ref qf7, .ref qf8, .ref qf9, .ref qf10, .ref qf11, .ref qf12, .ref qf13, .ref qf14, .ref qf15, .ref qf16, .ref qf17, .ref qf18, .ref qf19, .int v20])), (qf0, .inr (9, [.ref qf0_0, .ref qf0_1, .ref qf0_2, .int v0_3, .ref qf0_4, .ref qf0_5, .ref qf0_6, .ref qf0_7, .ref qf0_8, .int v0_9, .int v0_10, .int v0_11, .int v0_12])), (qf0_0, .inl (cf0_0, 3001, .inl f0_0)), (qf0_2, .inl (cf0_2, 3001, .inl f0_2)), (qf4, .inl (cf4, 1740, .inl f4)), (qf0_1, .inl (cf0_1, 3001, .inl f0_1)), (qf15, .inl (cf15, 96, .inl f15)), (qf16, .inl (cf16, 576, .inl f16)), (qf17, .inl (cf17, 576, .inl f17))] sz) := by
  refine Met.ofW (cc := cX2_addParameter) (maxL := 7) (ret := none) (by decide) rfl ?_
  intro p e s m args below meth c s₁ B hml hv
  obtain ⟨rfl, hsz, hP, hK, hD0⟩ := hv
  have hx := B.exec
  have hb := B.bytes
  have hr := B.returns
  have hts := atoms_spec (ws := (.code yX2_addParameter cX2_addParameter 7 none :: VS_h4)) B.pre
  replace hts := fun w (h : w ∈ VS_h4) => hts w (List.mem_cons_of_mem _ h)
  have hown : s.vm.findClass RX2 = some m.cls := findClass_of_methodNamed B.named
  have hlocks := B.notSynchronized
  subst hsz
  have hD := hD0.self (sz := s.heap.size)
  generalize hAe : va_A [(h0, .inr (2, [.ref qf0, .ref qf1, .int v2, .ref qf3, .ref qf4, .ref qf5, .ref qf6, .ref qf7, .ref qf8, .ref qf9, .ref qf10, .ref qf11, .ref qf12, .ref qf13, .ref qf14, .ref qf15, .ref qf16, .ref qf17, .ref qf18, .ref qf19, .int v20])), (qf0, .inr (9, [.ref qf0_0, .ref qf0_1, .ref qf0_2, .int v0_3, .ref qf0_4, .ref qf0_5, .ref qf0_6, .ref qf0_7, .ref qf0_8, .int v0_9, .int v0_10, .int v0_11, .int v0_12])), (qf0_0, .inl (cf0_0, 3001, .inl f0_0)), (qf0_2, .inl (cf0_2, 3001, .inl f0_2)), (qf4, .inl (cf4, 1740, .inl f4)), (qf0_1, .inl (cf0_1, 3001, .inl f0_1)), (qf15, .inl (cf15, 96, .inl f15)), (qf16, .inl (cf16, 576, .inl f16)), (qf17, .inl (cf17, 576, .inl f17))] s.heap.size = A at hD  ⊢
  have hA : ∀ q : Nat, s.heap.size ≤ q → A q := fun q h => by rw [← hAe]; exact Or.inr h
  have hP : va_P (dC, dI) vwCl [(h0, .inr (2, [.ref qf0, .ref qf1, .int v2, .ref qf3, .ref qf4, .ref qf5, .ref qf6, .ref qf7, .ref qf8, .ref qf9, .ref qf10, .ref qf11, .ref qf12, .ref qf13, .ref qf14, .ref qf15, .ref qf16, .ref qf17, .ref qf18, .ref qf19, .int v20])), (qf0, .inr (9, [.ref qf0_0, .ref qf0_1, .ref qf0_2, .int v0_3, .ref qf0_4, .ref qf0_5, .ref qf0_6, .ref qf0_7, .ref qf0_8, .int v0_9, .int v0_10, .int v0_11, .int v0_12])), (qf0_0, .inl (cf0_0, 3001, .inl f0_0)), (qf0_2, .inl (cf0_2, 3001, .inl f0_2)), (qf4, .inl (cf4, 1740, .inl f4)), (qf0_1, .inl (cf0_1, 3001, .inl f0_1)), (qf15, .inl (cf15, 96, .inl f15)), (qf16, .inl (cf16, 576, .inl f16)), (qf17, .inl (cf17, 576, .inl f17))] s.heap := hP
  have hl := lv_entry ([.ref h0, .int a1]) (n := 7) (Nat.le_of_ble_eq_true rfl)
  rw [lg_entry_eq]
  generalize (lg_sl ([.ref h0, .int a1]) ++ List.replicate (7 - (lg_sl ([.ref h0, .int a1])).length) Slot.unset).toArray = ls at hl ⊢
  have hl : lv_has ls 7 [(0, .ref h0), (1, .int a1)] := hl
  obtain ⟨H, hH⟩ : ∃ H : Heap, s.heap = H := ⟨_, rfl⟩
  rw [hH] at hP ⊢
  have hS : va_S A s.heap H [] := by rw [← hH]; exact va_S.rf
  obtain ⟨locs, hlo⟩ : ∃ locs : List Loc, locs = [] := ⟨_, rfl⟩
  rw [← hlo] at hS ⊢
  unfold sp_t2_addParameter at hsp
  refine lv_aload_n hx hb dX2_addParameter_0 rfl (lv_at hl 0 rfl) ?_
  obtain ⟨⟨u1_0, u1_1, u1_2, u1_3⟩, hu_1, hsp⟩ := ox_bind hsp
  try dsimp only at hsp
  have hPc := hP.sub (ws' := [(h0, .inr (2, [.ref qf0, .ref qf1, .int v2, .ref qf3, .ref qf4, .ref qf5, .ref qf6, .ref qf7, .ref qf8, .ref qf9, .ref qf10, .ref qf11, .ref qf12, .ref qf13, .ref qf14, .ref qf15, .ref qf16, .ref qf17, .ref qf18, .ref qf19, .int v20])), (qf0, .inr (9, [.ref qf0_0, .ref qf0_1, .ref qf0_2, .int v0_3, .ref qf0_4, .ref qf0_5, .ref qf0_6, .ref qf0_7, .ref qf0_8, .int v0_9, .int v0_10, .int v0_11, .int v0_12])), (qf0_0, .inl (cf0_0, 3001, .inl f0_0)), (qf0_2, .inl (cf0_2, 3001, .inl f0_2)), (qf4, .inl (cf4, 1740, .inl f4)), (qf0_1, .inl (cf0_1, 3001, .inl f0_1))]) [0, 1, 2, 3, 4, 5] rfl
  have hDc := hD.sub (ws' := [(h0, .inr (2, [.ref qf0, .ref qf1, .int v2, .ref qf3, .ref qf4, .ref qf5, .ref qf6, .ref qf7, .ref qf8, .ref qf9, .ref qf10, .ref qf11, .ref qf12, .ref qf13, .ref qf14, .ref qf15, .ref qf16, .ref qf17, .ref qf18, .ref qf19, .int v20])), (qf0, .inr (9, [.ref qf0_0, .ref qf0_1, .ref qf0_2, .int v0_3, .ref qf0_4, .ref qf0_5, .ref qf0_6, .ref qf0_7, .ref qf0_8, .int v0_9, .int v0_10, .int v0_11, .int v0_12])), (qf0_0, .inl (cf0_0, 3001, .inl f0_0)), (qf0_2, .inl (cf0_2, 3001, .inl f0_2)), (qf4, .inl (cf4, 1740, .inl f4)), (qf0_1, .inl (cf0_1, 3001, .inl f0_1))]) [0, 1, 2, 3, 4, 5] (by decide) rfl
  have hKc := hK.sub (tys' := [(cf0_0, .int), (cf0_2, .int), (cf4, .int), (cf0_1, .int)]) [0, 1, 2, 3] rfl
  have hFc := va_free (wc := [(h0, .inr (2, [.ref qf0, .ref qf1, .int v2, .ref qf3, .ref qf4, .ref qf5, .ref qf6, .ref qf7, .ref qf8, .ref qf9, .ref qf10, .ref qf11, .ref qf12, .ref qf13, .ref qf14, .ref qf15, .ref qf16, .ref qf17, .ref qf18, .ref qf19, .int v20])), (qf0, .inr (9, [.ref qf0_0, .ref qf0_1, .ref qf0_2, .int v0_3, .ref qf0_4, .ref qf0_5, .ref qf0_6, .ref qf0_7, .ref qf0_8, .int v0_9, .int v0_10, .int v0_11, .int v0_12])), (qf0_0, .inl (cf0_0, 3001, .inl f0_0)), (qf0_2, .inl (cf0_2, 3001, .inl f0_2)), (qf4, .inl (cf4, 1740, .inl f4)), (qf0_1, .inl (cf0_1, 3001, .inl f0_1))]) hD hS hA [0, 1, 2, 3, 4, 5] rfl
  refine va_calli (va_runV (As := []) (rest := []) ⟨hx, hb, hml, hown, hts⟩ (t2_readType l dC dI H.size h0 qf0 qf1 v2 qf3 qf4 qf5 qf6 qf7 qf8 qf9 qf10 qf11 qf12 qf13 qf14 qf15 qf16 qf17 qf18 qf19 v20 qf0_0 qf0_1 qf0_2 v0_3 qf0_4 qf0_5 qf0_6 qf0_7 qf0_8 v0_9 v0_10 v0_11 v0_12 cf0_0 f0_0 cf0_2 f0_2 cf4 f4 cf0_1 f0_1 nf u1_0 u1_1 u1_2 u1_3 hu_1) (cwV 0 hts gv_h4_34 rfl rfl rfl (by decide +kernel) ⟨Nat.le_of_ble_eq_true rfl, Nat.le_of_ble_eq_true rfl⟩) ⟨fun a U g mk q => by obtain ⟨q0, q1, qP, qK, qD⟩ := q; exact ⟨q0, q1, qP, va_K.moved (u := U) (U := U.calling g mk a) (Vm.Alike.refl U.vm) qK, qD⟩, va_recv hKc hPc (ci := 2) (q0 := 0) rfl rfl, fun U hU hW => ⟨rfl, by rw [hU], by rw [hU]; exact hPc, va_K.moved hW.alike hKc, hDc.weaken (fun _ _ _ _ => trivial)⟩⟩ rfl rfl hl.1 rfl (lv_room (Nat.le_of_ble_eq_true rfl)) dX2_addParameter_1 ⟨Nat.le_of_ble_eq_true rfl, Nat.le_of_ble_eq_true rfl⟩) hS (fun q _ h => hFc q h) hFc ?_
  clear hS
  intro r_1 u t H1 locs ht hvm hw hB hz1 hk1 hS
  obtain ⟨⟩ := u
  obtain ⟨hP1, hK1, hD1⟩ := hB
  rw [ht] at hP1
  have hK1 := va_K.moved hvm.symm hK1
  try dsimp only at hw
  have hPD := va_join (wr := [(qf15, .inl (cf15, 96, .inl f15)), (qf16, .inl (cf16, 576, .inl f16)), (qf17, .inl (cf17, 576, .inl f17))]) (w1 := [(h0, .inr (2, [.ref qf0, .ref qf1, .int v2, .ref qf3, .ref qf4, .ref qf5, .ref qf6, .ref qf7, .ref qf8, .ref qf9, .ref qf10, .ref qf11, .ref qf12, .ref qf13, .ref qf14, .ref qf15, .ref qf16, .ref qf17, .ref qf18, .ref qf19, .int v20])), (qf0, .inr (9, [.ref qf0_0, .ref qf0_1, .ref qf0_2, .int v0_3, .ref qf0_4, .ref qf0_5, .ref qf0_6, .ref qf0_7, .ref qf0_8, .int v0_9, .int u1_1, .int u1_2, .int u1_3])), (qf0_0, .inl (cf0_0, 3001, .inl f0_0)), (qf0_2, .inl (cf0_2, 3001, .inl f0_2)), (qf4, .inl (cf4, 1740, .inl f4)), (qf0_1, .inl (cf0_1, 3001, .inl f0_1))]) hP hD [0, 1, 2, 3, 4, 5] [6, 7, 8] rfl rfl (by decide) (by decide) hk1 hFc hP1 hD1
  clear hP hD
  obtain ⟨hP, hD⟩ := hPD
  replace hK := (hK.sub (tys' := [(cf15, .int), (cf16, .int), (cf17, .int)]) [4, 5, 6] rfl).app hK1
  clear hPc hDc hKc hFc hP1 hK1 hD1 hz1 hk1 ht hvm
  generalize H1 = H at hP hS ⊢
  replace hP : va_P (dC, dI) vwCl [(qf15, .inl (cf15, 96, .inl f15)), (qf16, .inl (cf16, 576, .inl f16)), (qf17, .inl (cf17, 576, .inl f17)), (h0, .inr (2, [.ref qf0, .ref qf1, .int v2, .ref qf3, .ref qf4, .ref qf5, .ref qf6, .ref qf7, .ref qf8, .ref qf9, .ref qf10, .ref qf11, .ref qf12, .ref qf13, .ref qf14, .ref qf15, .ref qf16, .ref qf17, .ref qf18, .ref qf19, .int v20])), (qf0, .inr (9, [.ref qf0_0, .ref qf0_1, .ref qf0_2, .int v0_3, .ref qf0_4, .ref qf0_5, .ref qf0_6, .ref qf0_7, .ref qf0_8, .int v0_9, .int u1_1, .int u1_2, .int u1_3])), (qf0_0, .inl (cf0_0, 3001, .inl f0_0)), (qf0_2, .inl (cf0_2, 3001, .inl f0_2)), (qf4, .inl (cf4, 1740, .inl f4)), (qf0_1, .inl (cf0_1, 3001, .inl f0_1))] H := hP
  replace hD : va_D A [(qf15, .inl (cf15, 96, .inl f15)), (qf16, .inl (cf16, 576, .inl f16)), (qf17, .inl (cf17, 576, .inl f17)), (h0, .inr (2, [.ref qf0, .ref qf1, .int v2, .ref qf3, .ref qf4, .ref qf5, .ref qf6, .ref qf7, .ref qf8, .ref qf9, .ref qf10, .ref qf11, .ref qf12, .ref qf13, .ref qf14, .ref qf15, .ref qf16, .ref qf17, .ref qf18, .ref qf19, .int v20])), (qf0, .inr (9, [.ref qf0_0, .ref qf0_1, .ref qf0_2, .int v0_3, .ref qf0_4, .ref qf0_5, .ref qf0_6, .ref qf0_7, .ref qf0_8, .int v0_9, .int u1_1, .int u1_2, .int u1_3])), (qf0_0, .inl (cf0_0, 3001, .inl f0_0)), (qf0_2, .inl (cf0_2, 3001, .inl f0_2)), (qf4, .inl (cf4, 1740, .inl f4)), (qf0_1, .inl (cf0_1, 3001, .inl f0_1))] := hD
  replace hK : va_K (dC, dI) vwCl [(cf15, .int), (cf16, .int), (cf17, .int), (cf0_0, .int), (cf0_2, .int), (cf4, .int), (cf0_1, .int)] s := hK
  obtain rfl := hw
  refine lv_istore_n (lv' := [(2, .int u1_0), (0, .ref h0), (1, .int a1)]) hx hb dX2_addParameter_4 rfl hl (by decide) rfl (fun ls hl => ?_)
  refine lv_aload_n hx hb dX2_addParameter_5 rfl (lv_at hl 1 rfl) ?_
  refine va_get (D := (dC, dI)) (ci := 2) (v := .ref qf0) (C := RX2) (T := TX2) (N := 21) hx hb hts uV_h4_X2 hown hK hP 3 rfl rfl 0 (by decide) (hts (.fieldLink RX2 74 "ClassMill$Heads" "text" "LClassMill$Text;") mw_h4_145) (fun _ h9 => h9) rfl dX2_addParameter_6 ?_
  refine va_get (D := (dC, dI)) (ci := 9) (v := .int u1_1) (C := RX9) (T := TX9) (N := 13) hx hb hts uV_h4_X9 hown hK hP 4 rfl rfl 10 (by decide) (hts (.fieldLink RX2 118 "ClassMill$Text" "pos" "I") mw_h4_165) (fun _ h9 => h9) rfl dX2_addParameter_9 ?_
  refine lv_istore_n (lv' := [(3, .int u1_1), (2, .int u1_0), (0, .ref h0), (1, .int a1)]) hx hb dX2_addParameter_12 rfl hl (by decide) rfl (fun ls hl => ?_)
  refine lv_aload_n hx hb dX2_addParameter_13 rfl (lv_at hl 2 rfl) ?_
  refine va_get (D := (dC, dI)) (ci := 2) (v := .ref qf0) (C := RX2) (T := TX2) (N := 21) hx hb hts uV_h4_X2 hown hK hP 3 rfl rfl 0 (by decide) (hts (.fieldLink RX2 74 "ClassMill$Heads" "text" "LClassMill$Text;") mw_h4_145) (fun _ h9 => h9) rfl dX2_addParameter_14 ?_
  refine lv_iload_n hx hb dX2_addParameter_17 rfl (lv_at hl 0 rfl) ?_
  obtain ⟨u2_0, hu_2, hsp⟩ := ox_bind hsp
  try dsimp only at hsp
  have hPc := hP.sub (ws' := [(qf0, .inr (9, [.ref qf0_0, .ref qf0_1, .ref qf0_2, .int v0_3, .ref qf0_4, .ref qf0_5, .ref qf0_6, .ref qf0_7, .ref qf0_8, .int v0_9, .int u1_1, .int u1_2, .int u1_3])), (qf0_2, .inl (cf0_2, 3001, .inl f0_2))]) [4, 6] rfl
  have hDc := hD.sub (ws' := [(qf0, .inr (9, [.ref qf0_0, .ref qf0_1, .ref qf0_2, .int v0_3, .ref qf0_4, .ref qf0_5, .ref qf0_6, .ref qf0_7, .ref qf0_8, .int v0_9, .int u1_1, .int u1_2, .int u1_3])), (qf0_2, .inl (cf0_2, 3001, .inl f0_2))]) [4, 6] (by decide) rfl
  have hKc := hK.sub (tys' := [(cf0_2, .int)]) [4] rfl
  have hFc := va_free (wc := [(qf0, .inr (9, [.ref qf0_0, .ref qf0_1, .ref qf0_2, .int v0_3, .ref qf0_4, .ref qf0_5, .ref qf0_6, .ref qf0_7, .ref qf0_8, .int v0_9, .int u1_1, .int u1_2, .int u1_3])), (qf0_2, .inl (cf0_2, 3001, .inl f0_2))]) hD hS hA [4, 6] rfl
  refine va_calli (va_runV (As := [.int u1_1]) (rest := []) ⟨hx, hb, hml, hown, hts⟩ (t9_valueAt l dC dI H.size qf0 u1_1 qf0_0 qf0_1 qf0_2 v0_3 qf0_4 qf0_5 qf0_6 qf0_7 qf0_8 v0_9 u1_1 u1_2 u1_3 cf0_2 f0_2 nf u2_0 hu_2) (cwV 1 hts gv_h4_27 rfl rfl rfl (by decide +kernel) ⟨Nat.le_of_ble_eq_true rfl, Nat.le_of_ble_eq_true rfl⟩) ⟨fun a U g mk q => by obtain ⟨q0, q1, qP, qK, qD⟩ := q; exact ⟨q0, q1, qP, va_K.moved (u := U) (U := U.calling g mk a) (Vm.Alike.refl U.vm) qK, qD⟩, va_recv hKc hPc (ci := 9) (q0 := 0) rfl rfl, fun U hU hW => ⟨rfl, by rw [hU], by rw [hU]; exact hPc, va_K.moved hW.alike hKc, hDc.weaken (fun _ _ _ _ => trivial)⟩⟩ rfl rfl hl.1 rfl (lv_room (Nat.le_of_ble_eq_true rfl)) dX2_addParameter_18 ⟨Nat.le_of_ble_eq_true rfl, Nat.le_of_ble_eq_true rfl⟩) hS (fun q _ h => hFc q h) hFc ?_
  clear hS
  intro r_2 u t H1 locs ht hvm hw hB hz1 hk1 hS
  obtain ⟨⟩ := u
  obtain ⟨hP1, hK1, hD1⟩ := hB
  rw [ht] at hP1
  have hK1 := va_K.moved hvm.symm hK1
  try dsimp only at hw
  have hPD := va_join (wr := [(qf15, .inl (cf15, 96, .inl f15)), (qf16, .inl (cf16, 576, .inl f16)), (qf17, .inl (cf17, 576, .inl f17)), (h0, .inr (2, [.ref qf0, .ref qf1, .int v2, .ref qf3, .ref qf4, .ref qf5, .ref qf6, .ref qf7, .ref qf8, .ref qf9, .ref qf10, .ref qf11, .ref qf12, .ref qf13, .ref qf14, .ref qf15, .ref qf16, .ref qf17, .ref qf18, .ref qf19, .int v20])), (qf0_0, .inl (cf0_0, 3001, .inl f0_0)), (qf4, .inl (cf4, 1740, .inl f4)), (qf0_1, .inl (cf0_1, 3001, .inl f0_1))]) (w1 := [(qf0, .inr (9, [.ref qf0_0, .ref qf0_1, .ref qf0_2, .int v0_3, .ref qf0_4, .ref qf0_5, .ref qf0_6, .ref qf0_7, .ref qf0_8, .int v0_9, .int u1_1, .int u1_2, .int u1_3])), (qf0_2, .inl (cf0_2, 3001, .inl f0_2))]) hP hD [4, 6] [0, 1, 2, 3, 5, 7, 8] rfl rfl (by decide) (by decide) hk1 hFc hP1 hD1
  clear hP hD
  obtain ⟨hP, hD⟩ := hPD
  replace hK := (hK.sub (tys' := [(cf15, .int), (cf16, .int), (cf17, .int), (cf0_0, .int), (cf4, .int), (cf0_1, .int)]) [0, 1, 2, 3, 5, 6] rfl).app hK1
  clear hPc hDc hKc hFc hP1 hK1 hD1 hz1 hk1 ht hvm
  generalize H1 = H at hP hS ⊢
  replace hP : va_P (dC, dI) vwCl [(qf15, .inl (cf15, 96, .inl f15)), (qf16, .inl (cf16, 576, .inl f16)), (qf17, .inl (cf17, 576, .inl f17)), (h0, .inr (2, [.ref qf0, .ref qf1, .int v2, .ref qf3, .ref qf4, .ref qf5, .ref qf6, .ref qf7, .ref qf8, .ref qf9, .ref qf10, .ref qf11, .ref qf12, .ref qf13, .ref qf14, .ref qf15, .ref qf16, .ref qf17, .ref qf18, .ref qf19, .int v20])), (qf0_0, .inl (cf0_0, 3001, .inl f0_0)), (qf4, .inl (cf4, 1740, .inl f4)), (qf0_1, .inl (cf0_1, 3001, .inl f0_1)), (qf0, .inr (9, [.ref qf0_0, .ref qf0_1, .ref qf0_2, .int v0_3, .ref qf0_4, .ref qf0_5, .ref qf0_6, .ref qf0_7, .ref qf0_8, .int v0_9, .int u1_1, .int u1_2, .int u1_3])), (qf0_2, .inl (cf0_2, 3001, .inl f0_2))] H := hP
  replace hD : va_D A [(qf15, .inl (cf15, 96, .inl f15)), (qf16, .inl (cf16, 576, .inl f16)), (qf17, .inl (cf17, 576, .inl f17)), (h0, .inr (2, [.ref qf0, .ref qf1, .int v2, .ref qf3, .ref qf4, .ref qf5, .ref qf6, .ref qf7, .ref qf8, .ref qf9, .ref qf10, .ref qf11, .ref qf12, .ref qf13, .ref qf14, .ref qf15, .ref qf16, .ref qf17, .ref qf18, .ref qf19, .int v20])), (qf0_0, .inl (cf0_0, 3001, .inl f0_0)), (qf4, .inl (cf4, 1740, .inl f4)), (qf0_1, .inl (cf0_1, 3001, .inl f0_1)), (qf0, .inr (9, [.ref qf0_0, .ref qf0_1, .ref qf0_2, .int v0_3, .ref qf0_4, .ref qf0_5, .ref qf0_6, .ref qf0_7, .ref qf0_8, .int v0_9, .int u1_1, .int u1_2, .int u1_3])), (qf0_2, .inl (cf0_2, 3001, .inl f0_2))] := hD
  replace hK : va_K (dC, dI) vwCl [(cf15, .int), (cf16, .int), (cf17, .int), (cf0_0, .int), (cf4, .int), (cf0_1, .int), (cf0_2, .int)] s := hK
  obtain rfl := hw
  refine lv_istore (lv' := [(4, .int u2_0), (3, .int u1_1), (2, .int u1_0), (0, .ref h0), (1, .int a1)]) hx hb dX2_addParameter_21 hl (by decide) rfl (fun ls hl => ?_)
  refine lv_iload_n hx hb dX2_addParameter_23 rfl (lv_at hl 4 rfl) ?_
  refine lv_bipush (v := 6) hx hb dX2_addParameter_24 (by decide) ?_
  refine lv_imul hx hb dX2_addParameter_26 ?_
  refine lv_istore (lv' := [(5, .int (a1 * 6)), (4, .int u2_0), (3, .int u1_1), (2, .int u1_0), (0, .ref h0), (1, .int a1)]) hx hb dX2_addParameter_27 hl (by decide) rfl (fun ls hl => ?_)
  refine lv_aload_n hx hb dX2_addParameter_29 rfl (lv_at hl 4 rfl) ?_
  refine va_get (D := (dC, dI)) (ci := 2) (v := .ref qf15) (C := RX2) (T := TX2) (N := 21) hx hb hts uV_h4_X2 hown hK hP 3 rfl rfl 15 (by decide) (hts (.fieldLink RX2 58 "ClassMill$Heads" "parameters" "[I") mw_h4_170) (fun _ h9 => h9) rfl dX2_addParameter_30 ?_
  refine lv_iload_n hx hb dX2_addParameter_33 rfl (lv_at hl 5 rfl) ?_
  obtain ⟨hi_3, hsp⟩ := ox_in hsp
  refine va_iald hx hb hK hP 0 0 rfl rfl (i := a1) hi_3 dX2_addParameter_34 ?_
  refine lv_bipush (v := 6) hx hb dX2_addParameter_35 (by decide) ?_
  refine lv_icmp_lt (tgt := 51) hx hb dX2_addParameter_37 (by decide) (fun c_4 => ?_) (fun c_4 => ?_)
  · rw [if_pos c_4] at hsp
    refine lv_iconst (v := 0) hx hb dX2_addParameter_51 (by decide) ?_
    refine lv_istore (lv' := [(6, .int 0), (5, .int (a1 * 6)), (4, .int u2_0), (3, .int u1_1), (2, .int u1_0), (0, .ref h0), (1, .int a1)]) hx hb dX2_addParameter_52 hl (by decide) rfl (fun ls hl => ?_)
    replace hP := hP.sub (ws' := [(h0, .inr (2, [.ref qf0, .ref qf1, .int v2, .ref qf3, .ref qf4, .ref qf5, .ref qf6, .ref qf7, .ref qf8, .ref qf9, .ref qf10, .ref qf11, .ref qf12, .ref qf13, .ref qf14, .ref qf15, .ref qf16, .ref qf17, .ref qf18, .ref qf19, .int v20])), (qf0, .inr (9, [.ref qf0_0, .ref qf0_1, .ref qf0_2, .int v0_3, .ref qf0_4, .ref qf0_5, .ref qf0_6, .ref qf0_7, .ref qf0_8, .int v0_9, .int u1_1, .int u1_2, .int u1_3])), (qf0_0, .inl (cf0_0, 3001, .inl f0_0)), (qf0_2, .inl (cf0_2, 3001, .inl f0_2)), (qf4, .inl (cf4, 1740, .inl f4)), (qf0_1, .inl (cf0_1, 3001, .inl f0_1)), (qf15, .inl (cf15, 96, .inl f15)), (qf16, .inl (cf16, 576, .inl f16)), (qf17, .inl (cf17, 576, .inl f17))]) [3, 7, 4, 8, 5, 6, 0, 1, 2] rfl
    replace hD := hD.sub (ws' := [(h0, .inr (2, [.ref qf0, .ref qf1, .int v2, .ref qf3, .ref qf4, .ref qf5, .ref qf6, .ref qf7, .ref qf8, .ref qf9, .ref qf10, .ref qf11, .ref qf12, .ref qf13, .ref qf14, .ref qf15, .ref qf16, .ref qf17, .ref qf18, .ref qf19, .int v20])), (qf0, .inr (9, [.ref qf0_0, .ref qf0_1, .ref qf0_2, .int v0_3, .ref qf0_4, .ref qf0_5, .ref qf0_6, .ref qf0_7, .ref qf0_8, .int v0_9, .int u1_1, .int u1_2, .int u1_3])), (qf0_0, .inl (cf0_0, 3001, .inl f0_0)), (qf0_2, .inl (cf0_2, 3001, .inl f0_2)), (qf4, .inl (cf4, 1740, .inl f4)), (qf0_1, .inl (cf0_1, 3001, .inl f0_1)), (qf15, .inl (cf15, 96, .inl f15)), (qf16, .inl (cf16, 576, .inl f16)), (qf17, .inl (cf17, 576, .inl f17))]) [3, 7, 4, 8, 5, 6, 0, 1, 2] (by decide) rfl
    replace hK := hK.sub (tys' := [(cf0_0, .int), (cf0_2, .int), (cf4, .int), (cf0_1, .int), (cf15, .int), (cf16, .int), (cf17, .int)]) [3, 6, 4, 5, 0, 1, 2] rfl
    obtain ⟨n_54, hn_54⟩ : ∃ z : Nat, z = nf := ⟨_, rfl⟩
    obtain ⟨l1_54, el1_54⟩ : ∃ z : Int32, z = a1 := ⟨_, rfl⟩
    obtain ⟨l2_54, el2_54⟩ : ∃ z : Int32, z = u1_0 := ⟨_, rfl⟩
    obtain ⟨l3_54, el3_54⟩ : ∃ z : Int32, z = u1_1 := ⟨_, rfl⟩
    obtain ⟨l4_54, el4_54⟩ : ∃ z : Int32, z = u2_0 := ⟨_, rfl⟩
    obtain ⟨l5_54, el5_54⟩ : ∃ z : Int32, z = (a1 * 6) := ⟨_, rfl⟩
    obtain ⟨l6_54, el6_54⟩ : ∃ z : Int32, z = 0 := ⟨_, rfl⟩
    obtain ⟨g15_54, eg15_54⟩ : ∃ z : Nat → Int32, z = f15 := ⟨_, rfl⟩
    obtain ⟨g16_54, eg16_54⟩ : ∃ z : Nat → Int32, z = f16 := ⟨_, rfl⟩
    obtain ⟨g17_54, eg17_54⟩ : ∃ z : Nat → Int32, z = f17 := ⟨_, rfl⟩
    obtain ⟨x0_10_54, ex0_10_54⟩ : ∃ z : Int32, z = u1_1 := ⟨_, rfl⟩
    obtain ⟨x0_11_54, ex0_11_54⟩ : ∃ z : Int32, z = u1_2 := ⟨_, rfl⟩
    obtain ⟨x0_12_54, ex0_12_54⟩ : ∃ z : Int32, z = u1_3 := ⟨_, rfl⟩
    replace hsp : lp_t2_addParameter_54 nf n_54 a1 v0_3 v0_10 v0_11 v0_12 f0_0 f0_2 f4 f0_1 f15 f16 f17 l1_54 l2_54 l3_54 l4_54 l5_54 l6_54 g15_54 g16_54 g17_54 x0_10_54 x0_11_54 x0_12_54 = some (o15, o16, o17, w0_10, w0_11, w0_12) := by rw [hn_54, el1_54, el2_54, el3_54, el4_54, el5_54, el6_54, eg15_54, eg16_54, eg17_54, ex0_10_54, ex0_11_54, ex0_12_54]; exact hsp
    replace hl : lv_has ls 7 [(6, .int l6_54), (5, .int l5_54), (4, .int l4_54), (3, .int l3_54), (2, .int l2_54), (0, .ref h0), (1, .int l1_54)] := by rw [el1_54, el2_54, el3_54, el4_54, el5_54, el6_54]; exact hl
    replace hP : va_P (dC, dI) vwCl [(h0, .inr (2, [.ref qf0, .ref qf1, .int v2, .ref qf3, .ref qf4, .ref qf5, .ref qf6, .ref qf7, .ref qf8, .ref qf9, .ref qf10, .ref qf11, .ref qf12, .ref qf13, .ref qf14, .ref qf15, .ref qf16, .ref qf17, .ref qf18, .ref qf19, .int v20])), (qf0, .inr (9, [.ref qf0_0, .ref qf0_1, .ref qf0_2, .int v0_3, .ref qf0_4, .ref qf0_5, .ref qf0_6, .ref qf0_7, .ref qf0_8, .int v0_9, .int x0_10_54, .int x0_11_54, .int x0_12_54])), (qf0_0, .inl (cf0_0, 3001, .inl f0_0)), (qf0_2, .inl (cf0_2, 3001, .inl f0_2)), (qf4, .inl (cf4, 1740, .inl f4)), (qf0_1, .inl (cf0_1, 3001, .inl f0_1)), (qf15, .inl (cf15, 96, .inl g15_54)), (qf16, .inl (cf16, 576, .inl g16_54)), (qf17, .inl (cf17, 576, .inl g17_54))] H := by rw [eg15_54, eg16_54, eg17_54, ex0_10_54, ex0_11_54, ex0_12_54]; exact hP
    replace hD : va_D A [(h0, .inr (2, [.ref qf0, .ref qf1, .int v2, .ref qf3, .ref qf4, .ref qf5, .ref qf6, .ref qf7, .ref qf8, .ref qf9, .ref qf10, .ref qf11, .ref qf12, .ref qf13, .ref qf14, .ref qf15, .ref qf16, .ref qf17, .ref qf18, .ref qf19, .int v20])), (qf0, .inr (9, [.ref qf0_0, .ref qf0_1, .ref qf0_2, .int v0_3, .ref qf0_4, .ref qf0_5, .ref qf0_6, .ref qf0_7, .ref qf0_8, .int v0_9, .int x0_10_54, .int x0_11_54, .int x0_12_54])), (qf0_0, .inl (cf0_0, 3001, .inl f0_0)), (qf0_2, .inl (cf0_2, 3001, .inl f0_2)), (qf4, .inl (cf4, 1740, .inl f4)), (qf0_1, .inl (cf0_1, 3001, .inl f0_1)), (qf15, .inl (cf15, 96, .inl g15_54)), (qf16, .inl (cf16, 576, .inl g16_54)), (qf17, .inl (cf17, 576, .inl g17_54))] := by rw [eg15_54, eg16_54, eg17_54, ex0_10_54, ex0_11_54, ex0_12_54]; exact hD
    clear hn_54 el1_54 el2_54 el3_54 el4_54 el5_54 el6_54 eg15_54 eg16_54 eg17_54 ex0_10_54 ex0_11_54 ex0_12_54
    try clear hlo
    try clear hH
    revert hsp
    revert hP
    revert hD
    revert hS
    revert hl
    revert x0_12_54
    revert x0_11_54
    revert x0_10_54
    revert g17_54
    revert g16_54
    revert g15_54
    revert l6_54
    revert l5_54
    revert l4_54
    revert l3_54
    revert l2_54
    revert l1_54
    revert ls
    revert locs
    revert H
    induction n_54 with
    | zero => intro H locs ls l1_54 l2_54 l3_54 l4_54 l5_54 l6_54 g15_54 g16_54 g17_54 x0_10_54 x0_11_54 x0_12_54 hl hS hD hP hsp; unfold lp_t2_addParameter_54 at hsp; cases hsp
    | succ n_54 ih_54 =>
      intro H locs ls l1_54 l2_54 l3_54 l4_54 l5_54 l6_54 g15_54 g16_54 g17_54 x0_10_54 x0_11_54 x0_12_54 hl hS hD hP hsp
      unfold lp_t2_addParameter_54 at hsp
      try dsimp only at hsp
      refine lv_iload hx hb dX2_addParameter_54 (lv_at hl 0 rfl) ?_
      refine lv_aload_n hx hb dX2_addParameter_56 rfl (lv_at hl 5 rfl) ?_
      refine va_get (D := (dC, dI)) (ci := 2) (v := .ref qf15) (C := RX2) (T := TX2) (N := 21) hx hb hts uV_h4_X2 hown hK hP 0 rfl rfl 15 (by decide) (hts (.fieldLink RX2 58 "ClassMill$Heads" "parameters" "[I") mw_h4_170) (fun _ h9 => h9) rfl dX2_addParameter_57 ?_
      refine lv_iload_n hx hb dX2_addParameter_60 rfl (lv_at hl 6 rfl) ?_
      obtain ⟨hi_5, hsp⟩ := ox_in hsp
      refine va_iald hx hb hK hP 6 4 rfl rfl (i := l1_54) hi_5 dX2_addParameter_61 ?_
      refine lv_icmp_ge (tgt := 95) hx hb dX2_addParameter_62 (by decide) (fun c_6 => ?_) (fun c_6 => ?_)
      · rw [if_pos c_6] at hsp
        refine lv_aload_n hx hb dX2_addParameter_95 rfl (lv_at hl 5 rfl) ?_
        refine va_get (D := (dC, dI)) (ci := 2) (v := .ref qf16) (C := RX2) (T := TX2) (N := 21) hx hb hts uV_h4_X2 hown hK hP 0 rfl rfl 16 (by decide) (hts (.fieldLink RX2 61 "ClassMill$Heads" "parameterName" "[I") mw_h4_171) (fun _ h9 => h9) rfl dX2_addParameter_96 ?_
        refine lv_iload hx hb dX2_addParameter_99 (lv_at hl 1 rfl) ?_
        refine lv_aload_n hx hb dX2_addParameter_101 rfl (lv_at hl 5 rfl) ?_
        refine va_get (D := (dC, dI)) (ci := 2) (v := .ref qf15) (C := RX2) (T := TX2) (N := 21) hx hb hts uV_h4_X2 hown hK hP 0 rfl rfl 15 (by decide) (hts (.fieldLink RX2 58 "ClassMill$Heads" "parameters" "[I") mw_h4_170) (fun _ h9 => h9) rfl dX2_addParameter_102 ?_
        refine lv_iload_n hx hb dX2_addParameter_105 rfl (lv_at hl 6 rfl) ?_
        obtain ⟨hi_7, hsp⟩ := ox_in hsp
        refine va_iald hx hb hK hP 6 4 rfl rfl (i := l1_54) hi_7 dX2_addParameter_106 ?_
        refine lv_iadd hx hb dX2_addParameter_107 ?_
        refine lv_iload hx hb dX2_addParameter_108 (lv_at hl 2 rfl) ?_
        obtain ⟨hi_8, hsp⟩ := ox_in hsp
        refine va_iast hx hb hK hP hD hS 7 5 rfl rfl (i := (l5_54 + (g15_54 (l1_54 : Int32).toNatClampNeg))) (x := l4_54) hi_8 dX2_addParameter_110 ?_
        clear hP hD hS
        intro H locs hP hD hS
        replace hP : va_P (dC, dI) vwCl [(h0, .inr (2, [.ref qf0, .ref qf1, .int v2, .ref qf3, .ref qf4, .ref qf5, .ref qf6, .ref qf7, .ref qf8, .ref qf9, .ref qf10, .ref qf11, .ref qf12, .ref qf13, .ref qf14, .ref qf15, .ref qf16, .ref qf17, .ref qf18, .ref qf19, .int v20])), (qf0, .inr (9, [.ref qf0_0, .ref qf0_1, .ref qf0_2, .int v0_3, .ref qf0_4, .ref qf0_5, .ref qf0_6, .ref qf0_7, .ref qf0_8, .int v0_9, .int x0_10_54, .int x0_11_54, .int x0_12_54])), (qf0_0, .inl (cf0_0, 3001, .inl f0_0)), (qf0_2, .inl (cf0_2, 3001, .inl f0_2)), (qf4, .inl (cf4, 1740, .inl f4)), (qf0_1, .inl (cf0_1, 3001, .inl f0_1)), (qf15, .inl (cf15, 96, .inl g15_54)), (qf16, .inl (cf16, 576, .inl (upd g16_54 ((l5_54 + (g15_54 (l1_54 : Int32).toNatClampNeg)) : Int32).toNatClampNeg l4_54))), (qf17, .inl (cf17, 576, .inl g17_54))] H := hP
        replace hD : va_D A [(h0, .inr (2, [.ref qf0, .ref qf1, .int v2, .ref qf3, .ref qf4, .ref qf5, .ref qf6, .ref qf7, .ref qf8, .ref qf9, .ref qf10, .ref qf11, .ref qf12, .ref qf13, .ref qf14, .ref qf15, .ref qf16, .ref qf17, .ref qf18, .ref qf19, .int v20])), (qf0, .inr (9, [.ref qf0_0, .ref qf0_1, .ref qf0_2, .int v0_3, .ref qf0_4, .ref qf0_5, .ref qf0_6, .ref qf0_7, .ref qf0_8, .int v0_9, .int x0_10_54, .int x0_11_54, .int x0_12_54])), (qf0_0, .inl (cf0_0, 3001, .inl f0_0)), (qf0_2, .inl (cf0_2, 3001, .inl f0_2)), (qf4, .inl (cf4, 1740, .inl f4)), (qf0_1, .inl (cf0_1, 3001, .inl f0_1)), (qf15, .inl (cf15, 96, .inl g15_54)), (qf16, .inl (cf16, 576, .inl (upd g16_54 ((l5_54 + (g15_54 (l1_54 : Int32).toNatClampNeg)) : Int32).toNatClampNeg l4_54))), (qf17, .inl (cf17, 576, .inl g17_54))] := hD
        refine lv_aload_n hx hb dX2_addParameter_111 rfl (lv_at hl 5 rfl) ?_
        refine va_get (D := (dC, dI)) (ci := 2) (v := .ref qf17) (C := RX2) (T := TX2) (N := 21) hx hb hts uV_h4_X2 hown hK hP 0 rfl rfl 17 (by decide) (hts (.fieldLink RX2 64 "ClassMill$Heads" "parameterType" "[I") mw_h4_172) (fun _ h9 => h9) rfl dX2_addParameter_112 ?_
        refine lv_iload hx hb dX2_addParameter_115 (lv_at hl 1 rfl) ?_
        refine lv_aload_n hx hb dX2_addParameter_117 rfl (lv_at hl 5 rfl) ?_
        refine va_get (D := (dC, dI)) (ci := 2) (v := .ref qf15) (C := RX2) (T := TX2) (N := 21) hx hb hts uV_h4_X2 hown hK hP 0 rfl rfl 15 (by decide) (hts (.fieldLink RX2 58 "ClassMill$Heads" "parameters" "[I") mw_h4_170) (fun _ h9 => h9) rfl dX2_addParameter_118 ?_
        refine lv_iload_n hx hb dX2_addParameter_121 rfl (lv_at hl 6 rfl) ?_
        obtain ⟨hi_9, hsp⟩ := ox_in hsp
        refine va_iald hx hb hK hP 6 4 rfl rfl (i := l1_54) hi_9 dX2_addParameter_122 ?_
        refine lv_iadd hx hb dX2_addParameter_123 ?_
        refine lv_iload_n hx hb dX2_addParameter_124 rfl (lv_at hl 4 rfl) ?_
        obtain ⟨hi_10, hsp⟩ := ox_in hsp
        refine va_iast hx hb hK hP hD hS 8 6 rfl rfl (i := (l5_54 + (g15_54 (l1_54 : Int32).toNatClampNeg))) (x := l2_54) hi_10 dX2_addParameter_125 ?_
        clear hP hD hS
        intro H locs hP hD hS
        replace hP : va_P (dC, dI) vwCl [(h0, .inr (2, [.ref qf0, .ref qf1, .int v2, .ref qf3, .ref qf4, .ref qf5, .ref qf6, .ref qf7, .ref qf8, .ref qf9, .ref qf10, .ref qf11, .ref qf12, .ref qf13, .ref qf14, .ref qf15, .ref qf16, .ref qf17, .ref qf18, .ref qf19, .int v20])), (qf0, .inr (9, [.ref qf0_0, .ref qf0_1, .ref qf0_2, .int v0_3, .ref qf0_4, .ref qf0_5, .ref qf0_6, .ref qf0_7, .ref qf0_8, .int v0_9, .int x0_10_54, .int x0_11_54, .int x0_12_54])), (qf0_0, .inl (cf0_0, 3001, .inl f0_0)), (qf0_2, .inl (cf0_2, 3001, .inl f0_2)), (qf4, .inl (cf4, 1740, .inl f4)), (qf0_1, .inl (cf0_1, 3001, .inl f0_1)), (qf15, .inl (cf15, 96, .inl g15_54)), (qf16, .inl (cf16, 576, .inl (upd g16_54 ((l5_54 + (g15_54 (l1_54 : Int32).toNatClampNeg)) : Int32).toNatClampNeg l4_54))), (qf17, .inl (cf17, 576, .inl (upd g17_54 ((l5_54 + (g15_54 (l1_54 : Int32).toNatClampNeg)) : Int32).toNatClampNeg l2_54)))] H := hP
        replace hD : va_D A [(h0, .inr (2, [.ref qf0, .ref qf1, .int v2, .ref qf3, .ref qf4, .ref qf5, .ref qf6, .ref qf7, .ref qf8, .ref qf9, .ref qf10, .ref qf11, .ref qf12, .ref qf13, .ref qf14, .ref qf15, .ref qf16, .ref qf17, .ref qf18, .ref qf19, .int v20])), (qf0, .inr (9, [.ref qf0_0, .ref qf0_1, .ref qf0_2, .int v0_3, .ref qf0_4, .ref qf0_5, .ref qf0_6, .ref qf0_7, .ref qf0_8, .int v0_9, .int x0_10_54, .int x0_11_54, .int x0_12_54])), (qf0_0, .inl (cf0_0, 3001, .inl f0_0)), (qf0_2, .inl (cf0_2, 3001, .inl f0_2)), (qf4, .inl (cf4, 1740, .inl f4)), (qf0_1, .inl (cf0_1, 3001, .inl f0_1)), (qf15, .inl (cf15, 96, .inl g15_54)), (qf16, .inl (cf16, 576, .inl (upd g16_54 ((l5_54 + (g15_54 (l1_54 : Int32).toNatClampNeg)) : Int32).toNatClampNeg l4_54))), (qf17, .inl (cf17, 576, .inl (upd g17_54 ((l5_54 + (g15_54 (l1_54 : Int32).toNatClampNeg)) : Int32).toNatClampNeg l2_54)))] := hD
        refine lv_aload_n hx hb dX2_addParameter_126 rfl (lv_at hl 5 rfl) ?_
        refine va_get (D := (dC, dI)) (ci := 2) (v := .ref qf15) (C := RX2) (T := TX2) (N := 21) hx hb hts uV_h4_X2 hown hK hP 0 rfl rfl 15 (by decide) (hts (.fieldLink RX2 58 "ClassMill$Heads" "parameters" "[I") mw_h4_170) (fun _ h9 => h9) rfl dX2_addParameter_127 ?_
        refine lv_iload_n hx hb dX2_addParameter_130 rfl (lv_at hl 6 rfl) ?_
        refine lv_dup2_11 hx hb dX2_addParameter_131 rfl rfl ?_
        obtain ⟨hi_11, hsp⟩ := ox_in hsp
        refine va_iald hx hb hK hP 6 4 rfl rfl (i := l1_54) hi_11 dX2_addParameter_132 ?_
        refine lv_iconst (v := 1) hx hb dX2_addParameter_133 (by decide) ?_
        refine lv_iadd hx hb dX2_addParameter_134 ?_
        obtain ⟨hi_12, hsp⟩ := ox_in hsp
        refine va_iast hx hb hK hP hD hS 6 4 rfl rfl (i := l1_54) (x := ((g15_54 (l1_54 : Int32).toNatClampNeg) + 1)) hi_12 dX2_addParameter_135 ?_
        clear hP hD hS
        intro H locs hP hD hS
        replace hP : va_P (dC, dI) vwCl [(h0, .inr (2, [.ref qf0, .ref qf1, .int v2, .ref qf3, .ref qf4, .ref qf5, .ref qf6, .ref qf7, .ref qf8, .ref qf9, .ref qf10, .ref qf11, .ref qf12, .ref qf13, .ref qf14, .ref qf15, .ref qf16, .ref qf17, .ref qf18, .ref qf19, .int v20])), (qf0, .inr (9, [.ref qf0_0, .ref qf0_1, .ref qf0_2, .int v0_3, .ref qf0_4, .ref qf0_5, .ref qf0_6, .ref qf0_7, .ref qf0_8, .int v0_9, .int x0_10_54, .int x0_11_54, .int x0_12_54])), (qf0_0, .inl (cf0_0, 3001, .inl f0_0)), (qf0_2, .inl (cf0_2, 3001, .inl f0_2)), (qf4, .inl (cf4, 1740, .inl f4)), (qf0_1, .inl (cf0_1, 3001, .inl f0_1)), (qf15, .inl (cf15, 96, .inl (upd g15_54 (l1_54 : Int32).toNatClampNeg ((g15_54 (l1_54 : Int32).toNatClampNeg) + 1)))), (qf16, .inl (cf16, 576, .inl (upd g16_54 ((l5_54 + (g15_54 (l1_54 : Int32).toNatClampNeg)) : Int32).toNatClampNeg l4_54))), (qf17, .inl (cf17, 576, .inl (upd g17_54 ((l5_54 + (g15_54 (l1_54 : Int32).toNatClampNeg)) : Int32).toNatClampNeg l2_54)))] H := hP
        replace hD : va_D A [(h0, .inr (2, [.ref qf0, .ref qf1, .int v2, .ref qf3, .ref qf4, .ref qf5, .ref qf6, .ref qf7, .ref qf8, .ref qf9, .ref qf10, .ref qf11, .ref qf12, .ref qf13, .ref qf14, .ref qf15, .ref qf16, .ref qf17, .ref qf18, .ref qf19, .int v20])), (qf0, .inr (9, [.ref qf0_0, .ref qf0_1, .ref qf0_2, .int v0_3, .ref qf0_4, .ref qf0_5, .ref qf0_6, .ref qf0_7, .ref qf0_8, .int v0_9, .int x0_10_54, .int x0_11_54, .int x0_12_54])), (qf0_0, .inl (cf0_0, 3001, .inl f0_0)), (qf0_2, .inl (cf0_2, 3001, .inl f0_2)), (qf4, .inl (cf4, 1740, .inl f4)), (qf0_1, .inl (cf0_1, 3001, .inl f0_1)), (qf15, .inl (cf15, 96, .inl (upd g15_54 (l1_54 : Int32).toNatClampNeg ((g15_54 (l1_54 : Int32).toNatClampNeg) + 1)))), (qf16, .inl (cf16, 576, .inl (upd g16_54 ((l5_54 + (g15_54 (l1_54 : Int32).toNatClampNeg)) : Int32).toNatClampNeg l4_54))), (qf17, .inl (cf17, 576, .inl (upd g17_54 ((l5_54 + (g15_54 (l1_54 : Int32).toNatClampNeg)) : Int32).toNatClampNeg l2_54)))] := hD
        refine lv_aload_n hx hb dX2_addParameter_136 rfl (lv_at hl 5 rfl) ?_
        refine va_get (D := (dC, dI)) (ci := 2) (v := .ref qf0) (C := RX2) (T := TX2) (N := 21) hx hb hts uV_h4_X2 hown hK hP 0 rfl rfl 0 (by decide) (hts (.fieldLink RX2 74 "ClassMill$Heads" "text" "LClassMill$Text;") mw_h4_145) (fun _ h9 => h9) rfl dX2_addParameter_137 ?_
        refine lv_dup hx hb dX2_addParameter_140 rfl ?_
        refine va_get (D := (dC, dI)) (ci := 9) (v := .int x0_10_54) (C := RX9) (T := TX9) (N := 13) hx hb hts uV_h4_X9 hown hK hP 1 rfl rfl 10 (by decide) (hts (.fieldLink RX2 118 "ClassMill$Text" "pos" "I") mw_h4_165) (fun _ h9 => h9) rfl dX2_addParameter_141 ?_
        refine lv_iconst (v := 1) hx hb dX2_addParameter_144 (by decide) ?_
        refine lv_iadd hx hb dX2_addParameter_145 ?_
        refine va_put (D := (dC, dI)) (ci := 9) (v := .int (x0_10_54 + 1)) (ty := .int) (C := RX9) (T := TX9) (N := 13) hx hb hts uV_h4_X9 tyX9 tyX9_ok nmX9 hown hK hP hD hS 1 rfl rfl 10 (by decide) (hts (.fieldLink RX2 118 "ClassMill$Text" "pos" "I") mw_h4_165) (fun _ h9 => h9) rfl (by decide +kernel) rfl rfl (Nat.le_of_ble_eq_true rfl) dX2_addParameter_146 ?_
        clear hP hD hS
        intro H locs hP hD hS
        replace hP : va_P (dC, dI) vwCl [(h0, .inr (2, [.ref qf0, .ref qf1, .int v2, .ref qf3, .ref qf4, .ref qf5, .ref qf6, .ref qf7, .ref qf8, .ref qf9, .ref qf10, .ref qf11, .ref qf12, .ref qf13, .ref qf14, .ref qf15, .ref qf16, .ref qf17, .ref qf18, .ref qf19, .int v20])), (qf0, .inr (9, [.ref qf0_0, .ref qf0_1, .ref qf0_2, .int v0_3, .ref qf0_4, .ref qf0_5, .ref qf0_6, .ref qf0_7, .ref qf0_8, .int v0_9, .int (x0_10_54 + 1), .int x0_11_54, .int x0_12_54])), (qf0_0, .inl (cf0_0, 3001, .inl f0_0)), (qf0_2, .inl (cf0_2, 3001, .inl f0_2)), (qf4, .inl (cf4, 1740, .inl f4)), (qf0_1, .inl (cf0_1, 3001, .inl f0_1)), (qf15, .inl (cf15, 96, .inl (upd g15_54 (l1_54 : Int32).toNatClampNeg ((g15_54 (l1_54 : Int32).toNatClampNeg) + 1)))), (qf16, .inl (cf16, 576, .inl (upd g16_54 ((l5_54 + (g15_54 (l1_54 : Int32).toNatClampNeg)) : Int32).toNatClampNeg l4_54))), (qf17, .inl (cf17, 576, .inl (upd g17_54 ((l5_54 + (g15_54 (l1_54 : Int32).toNatClampNeg)) : Int32).toNatClampNeg l2_54)))] H := hP
        replace hD : va_D A [(h0, .inr (2, [.ref qf0, .ref qf1, .int v2, .ref qf3, .ref qf4, .ref qf5, .ref qf6, .ref qf7, .ref qf8, .ref qf9, .ref qf10, .ref qf11, .ref qf12, .ref qf13, .ref qf14, .ref qf15, .ref qf16, .ref qf17, .ref qf18, .ref qf19, .int v20])), (qf0, .inr (9, [.ref qf0_0, .ref qf0_1, .ref qf0_2, .int v0_3, .ref qf0_4, .ref qf0_5, .ref qf0_6, .ref qf0_7, .ref qf0_8, .int v0_9, .int (x0_10_54 + 1), .int x0_11_54, .int x0_12_54])), (qf0_0, .inl (cf0_0, 3001, .inl f0_0)), (qf0_2, .inl (cf0_2, 3001, .inl f0_2)), (qf4, .inl (cf4, 1740, .inl f4)), (qf0_1, .inl (cf0_1, 3001, .inl f0_1)), (qf15, .inl (cf15, 96, .inl (upd g15_54 (l1_54 : Int32).toNatClampNeg ((g15_54 (l1_54 : Int32).toNatClampNeg) + 1)))), (qf16, .inl (cf16, 576, .inl (upd g16_54 ((l5_54 + (g15_54 (l1_54 : Int32).toNatClampNeg)) : Int32).toNatClampNeg l4_54))), (qf17, .inl (cf17, 576, .inl (upd g17_54 ((l5_54 + (g15_54 (l1_54 : Int32).toNatClampNeg)) : Int32).toNatClampNeg l2_54)))] := hD
        refine lv_aload_n hx hb dX2_addParameter_149 rfl (lv_at hl 5 rfl) ?_
        refine va_get (D := (dC, dI)) (ci := 2) (v := .ref qf0) (C := RX2) (T := TX2) (N := 21) hx hb hts uV_h4_X2 hown hK hP 0 rfl rfl 0 (by decide) (hts (.fieldLink RX2 74 "ClassMill$Heads" "text" "LClassMill$Text;") mw_h4_145) (fun _ h9 => h9) rfl dX2_addParameter_150 ?_
        obtain ⟨u3_0, hu_3, hsp⟩ := ox_bind hsp
        try dsimp only at hsp
        have hPc := hP.sub (ws' := [(qf0, .inr (9, [.ref qf0_0, .ref qf0_1, .ref qf0_2, .int v0_3, .ref qf0_4, .ref qf0_5, .ref qf0_6, .ref qf0_7, .ref qf0_8, .int v0_9, .int (x0_10_54 + 1), .int x0_11_54, .int x0_12_54])), (qf0_0, .inl (cf0_0, 3001, .inl f0_0))]) [1, 2] rfl
        have hDc := hD.sub (ws' := [(qf0, .inr (9, [.ref qf0_0, .ref qf0_1, .ref qf0_2, .int v0_3, .ref qf0_4, .ref qf0_5, .ref qf0_6, .ref qf0_7, .ref qf0_8, .int v0_9, .int (x0_10_54 + 1), .int x0_11_54, .int x0_12_54])), (qf0_0, .inl (cf0_0, 3001, .inl f0_0))]) [1, 2] (by decide) rfl
        have hKc := hK.sub (tys' := [(cf0_0, .int)]) [0] rfl
        have hFc := va_free (wc := [(qf0, .inr (9, [.ref qf0_0, .ref qf0_1, .ref qf0_2, .int v0_3, .ref qf0_4, .ref qf0_5, .ref qf0_6, .ref qf0_7, .ref qf0_8, .int v0_9, .int (x0_10_54 + 1), .int x0_11_54, .int x0_12_54])), (qf0_0, .inl (cf0_0, 3001, .inl f0_0))]) hD hS hA [1, 2] rfl
        refine va_calli (va_runV (As := []) (rest := []) ⟨hx, hb, hml, hown, hts⟩ (t9_kind l dC dI H.size qf0 qf0_0 qf0_1 qf0_2 v0_3 qf0_4 qf0_5 qf0_6 qf0_7 qf0_8 v0_9 ((x0_10_54 + 1)) x0_11_54 x0_12_54 cf0_0 f0_0 nf u3_0 hu_3) (cwV 0 hts gv_h4_32 rfl rfl rfl (by decide +kernel) ⟨Nat.le_of_ble_eq_true rfl, Nat.le_of_ble_eq_true rfl⟩) ⟨fun a U g mk q => by obtain ⟨q0, q1, qP, qK, qD⟩ := q; exact ⟨q0, q1, qP, va_K.moved (u := U) (U := U.calling g mk a) (Vm.Alike.refl U.vm) qK, qD⟩, va_recv hKc hPc (ci := 9) (q0 := 0) rfl rfl, fun U hU hW => ⟨rfl, by rw [hU], by rw [hU]; exact hPc, va_K.moved hW.alike hKc, hDc.weaken (fun _ _ _ _ => trivial)⟩⟩ rfl rfl hl.1 rfl (lv_room (Nat.le_of_ble_eq_true rfl)) dX2_addParameter_153 ⟨Nat.le_of_ble_eq_true rfl, Nat.le_of_ble_eq_true rfl⟩) hS (fun q _ h => hFc q h) hFc ?_
        clear hS
        intro r_13 u t H1 locs ht hvm hw hB hz1 hk1 hS
        obtain ⟨⟩ := u
        obtain ⟨hP1, hK1, hD1⟩ := hB
        rw [ht] at hP1
        have hK1 := va_K.moved hvm.symm hK1
        try dsimp only at hw
        have hPD := va_join (wr := [(h0, .inr (2, [.ref qf0, .ref qf1, .int v2, .ref qf3, .ref qf4, .ref qf5, .ref qf6, .ref qf7, .ref qf8, .ref qf9, .ref qf10, .ref qf11, .ref qf12, .ref qf13, .ref qf14, .ref qf15, .ref qf16, .ref qf17, .ref qf18, .ref qf19, .int v20])), (qf0_2, .inl (cf0_2, 3001, .inl f0_2)), (qf4, .inl (cf4, 1740, .inl f4)), (qf0_1, .inl (cf0_1, 3001, .inl f0_1)), (qf15, .inl (cf15, 96, .inl (upd g15_54 (l1_54 : Int32).toNatClampNeg ((g15_54 (l1_54 : Int32).toNatClampNeg) + 1)))), (qf16, .inl (cf16, 576, .inl (upd g16_54 ((l5_54 + (g15_54 (l1_54 : Int32).toNatClampNeg)) : Int32).toNatClampNeg l4_54))), (qf17, .inl (cf17, 576, .inl (upd g17_54 ((l5_54 + (g15_54 (l1_54 : Int32).toNatClampNeg)) : Int32).toNatClampNeg l2_54)))]) (w1 := [(qf0, .inr (9, [.ref qf0_0, .ref qf0_1, .ref qf0_2, .int v0_3, .ref qf0_4, .ref qf0_5, .ref qf0_6, .ref qf0_7, .ref qf0_8, .int v0_9, .int (x0_10_54 + 1), .int x0_11_54, .int x0_12_54])), (qf0_0, .inl (cf0_0, 3001, .inl f0_0))]) hP hD [1, 2] [0, 3, 4, 5, 6, 7, 8] rfl rfl (by decide) (by decide) hk1 hFc hP1 hD1
        clear hP hD
        obtain ⟨hP, hD⟩ := hPD
        replace hK := (hK.sub (tys' := [(cf0_2, .int), (cf4, .int), (cf0_1, .int), (cf15, .int), (cf16, .int), (cf17, .int)]) [1, 2, 3, 4, 5, 6] rfl).app hK1
        clear hPc hDc hKc hFc hP1 hK1 hD1 hz1 hk1 ht hvm
        generalize H1 = H at hP hS ⊢
        replace hP : va_P (dC, dI) vwCl [(h0, .inr (2, [.ref qf0, .ref qf1, .int v2, .ref qf3, .ref qf4, .ref qf5, .ref qf6, .ref qf7, .ref qf8, .ref qf9, .ref qf10, .ref qf11, .ref qf12, .ref qf13, .ref qf14, .ref qf15, .ref qf16, .ref qf17, .ref qf18, .ref qf19, .int v20])), (qf0_2, .inl (cf0_2, 3001, .inl f0_2)), (qf4, .inl (cf4, 1740, .inl f4)), (qf0_1, .inl (cf0_1, 3001, .inl f0_1)), (qf15, .inl (cf15, 96, .inl (upd g15_54 (l1_54 : Int32).toNatClampNeg ((g15_54 (l1_54 : Int32).toNatClampNeg) + 1)))), (qf16, .inl (cf16, 576, .inl (upd g16_54 ((l5_54 + (g15_54 (l1_54 : Int32).toNatClampNeg)) : Int32).toNatClampNeg l4_54))), (qf17, .inl (cf17, 576, .inl (upd g17_54 ((l5_54 + (g15_54 (l1_54 : Int32).toNatClampNeg)) : Int32).toNatClampNeg l2_54))), (qf0, .inr (9, [.ref qf0_0, .ref qf0_1, .ref qf0_2, .int v0_3, .ref qf0_4, .ref qf0_5, .ref qf0_6, .ref qf0_7, .ref qf0_8, .int v0_9, .int (x0_10_54 + 1), .int x0_11_54, .int x0_12_54])), (qf0_0, .inl (cf0_0, 3001, .inl f0_0))] H := hP
        replace hD : va_D A [(h0, .inr (2, [.ref qf0, .ref qf1, .int v2, .ref qf3, .ref qf4, .ref qf5, .ref qf6, .ref qf7, .ref qf8, .ref qf9, .ref qf10, .ref qf11, .ref qf12, .ref qf13, .ref qf14, .ref qf15, .ref qf16, .ref qf17, .ref qf18, .ref qf19, .int v20])), (qf0_2, .inl (cf0_2, 3001, .inl f0_2)), (qf4, .inl (cf4, 1740, .inl f4)), (qf0_1, .inl (cf0_1, 3001, .inl f0_1)), (qf15, .inl (cf15, 96, .inl (upd g15_54 (l1_54 : Int32).toNatClampNeg ((g15_54 (l1_54 : Int32).toNatClampNeg) + 1)))), (qf16, .inl (cf16, 576, .inl (upd g16_54 ((l5_54 + (g15_54 (l1_54 : Int32).toNatClampNeg)) : Int32).toNatClampNeg l4_54))), (qf17, .inl (cf17, 576, .inl (upd g17_54 ((l5_54 + (g15_54 (l1_54 : Int32).toNatClampNeg)) : Int32).toNatClampNeg l2_54))), (qf0, .inr (9, [.ref qf0_0, .ref qf0_1, .ref qf0_2, .int v0_3, .ref qf0_4, .ref qf0_5, .ref qf0_6, .ref qf0_7, .ref qf0_8, .int v0_9, .int (x0_10_54 + 1), .int x0_11_54, .int x0_12_54])), (qf0_0, .inl (cf0_0, 3001, .inl f0_0))] := hD
        replace hK : va_K (dC, dI) vwCl [(cf0_2, .int), (cf4, .int), (cf0_1, .int), (cf15, .int), (cf16, .int), (cf17, .int), (cf0_0, .int)] s := hK
        obtain rfl := hw
        refine lv_bipush (v := 47) hx hb dX2_addParameter_156 (by decide) ?_
        refine lv_icmp_ne (tgt := 174) hx hb dX2_addParameter_158 (by decide) (fun c_14 => ?_) (fun c_14 => ?_)
        · rw [if_neg c_14] at hsp
          have hr0 := Option.some.inj hsp
          clear hsp
          obtain ⟨hq0, hr1⟩ := Prod.mk.inj hr0
          clear hr0
          obtain ⟨hq1, hr2⟩ := Prod.mk.inj hr1
          clear hr1
          obtain ⟨hq2, hr3⟩ := Prod.mk.inj hr2
          clear hr2
          obtain ⟨hq3, hr4⟩ := Prod.mk.inj hr3
          clear hr3
          obtain ⟨hq4, hr5⟩ := Prod.mk.inj hr4
          clear hr4
          subst hq0
          subst hq1
          subst hq2
          subst hq3
          subst hq4
          subst hr5
          have hP9 := hP.sub (ws' := [(h0, .inr (2, [.ref qf0, .ref qf1, .int v2, .ref qf3, .ref qf4, .ref qf5, .ref qf6, .ref qf7, .ref qf8, .ref qf9, .ref qf10, .ref qf11, .ref qf12, .ref qf13, .ref qf14, .ref qf15, .ref qf16, .ref qf17, .ref qf18, .ref qf19, .int v20])), (qf0, .inr (9, [.ref qf0_0, .ref qf0_1, .ref qf0_2, .int v0_3, .ref qf0_4, .ref qf0_5, .ref qf0_6, .ref qf0_7, .ref qf0_8, .int v0_9, .int (x0_10_54 + 1), .int x0_11_54, .int x0_12_54])), (qf0_0, .inl (cf0_0, 3001, .inl f0_0)), (qf0_2, .inl (cf0_2, 3001, .inl f0_2)), (qf4, .inl (cf4, 1740, .inl f4)), (qf0_1, .inl (cf0_1, 3001, .inl f0_1)), (qf15, .inl (cf15, 96, .inl (upd g15_54 (l1_54 : Int32).toNatClampNeg ((g15_54 (l1_54 : Int32).toNatClampNeg) + 1)))), (qf16, .inl (cf16, 576, .inl (upd g16_54 ((l5_54 + (g15_54 (l1_54 : Int32).toNatClampNeg)) : Int32).toNatClampNeg l4_54))), (qf17, .inl (cf17, 576, .inl (upd g17_54 ((l5_54 + (g15_54 (l1_54 : Int32).toNatClampNeg)) : Int32).toNatClampNeg l2_54)))]) [0, 7, 8, 1, 2, 3, 4, 5, 6] rfl
          have hD9 := hD.sub (ws' := [(h0, .inr (2, [.ref qf0, .ref qf1, .int v2, .ref qf3, .ref qf4, .ref qf5, .ref qf6, .ref qf7, .ref qf8, .ref qf9, .ref qf10, .ref qf11, .ref qf12, .ref qf13, .ref qf14, .ref qf15, .ref qf16, .ref qf17, .ref qf18, .ref qf19, .int v20])), (qf0, .inr (9, [.ref qf0_0, .ref qf0_1, .ref qf0_2, .int v0_3, .ref qf0_4, .ref qf0_5, .ref qf0_6, .ref qf0_7, .ref qf0_8, .int v0_9, .int (x0_10_54 + 1), .int x0_11_54, .int x0_12_54])), (qf0_0, .inl (cf0_0, 3001, .inl f0_0)), (qf0_2, .inl (cf0_2, 3001, .inl f0_2)), (qf4, .inl (cf4, 1740, .inl f4)), (qf0_1, .inl (cf0_1, 3001, .inl f0_1)), (qf15, .inl (cf15, 96, .inl (upd g15_54 (l1_54 : Int32).toNatClampNeg ((g15_54 (l1_54 : Int32).toNatClampNeg) + 1)))), (qf16, .inl (cf16, 576, .inl (upd g16_54 ((l5_54 + (g15_54 (l1_54 : Int32).toNatClampNeg)) : Int32).toNatClampNeg l4_54))), (qf17, .inl (cf17, 576, .inl (upd g17_54 ((l5_54 + (g15_54 (l1_54 : Int32).toNatClampNeg)) : Int32).toNatClampNeg l2_54)))]) [0, 7, 8, 1, 2, 3, 4, 5, 6] (by decide) rfl
          have hK9 := hK.sub (tys' := [(cf0_0, .int), (cf0_2, .int), (cf4, .int), (cf0_1, .int), (cf15, .int), (cf16, .int), (cf17, .int)]) [6, 0, 1, 2, 3, 4, 5] rfl
          exact W.vret hx hb hr (fun t ht hW => ⟨⟨(), rfl, trivial, by rw [ht]; exact hP9, va_K.moved hW.alike hK9, hD9⟩, hS.F ht⟩) hS.2.2 dX2_addParameter_174
        · rw [if_pos c_14] at hsp
          refine lv_aload_n hx hb dX2_addParameter_161 rfl (lv_at hl 5 rfl) ?_
          refine va_get (D := (dC, dI)) (ci := 2) (v := .ref qf0) (C := RX2) (T := TX2) (N := 21) hx hb hts uV_h4_X2 hown hK hP 0 rfl rfl 0 (by decide) (hts (.fieldLink RX2 74 "ClassMill$Heads" "text" "LClassMill$Text;") mw_h4_145) (fun _ h9 => h9) rfl dX2_addParameter_162 ?_
          refine lv_dup hx hb dX2_addParameter_165 rfl ?_
          refine va_get (D := (dC, dI)) (ci := 9) (v := .int (x0_10_54 + 1)) (C := RX9) (T := TX9) (N := 13) hx hb hts uV_h4_X9 hown hK hP 7 rfl rfl 10 (by decide) (hts (.fieldLink RX2 118 "ClassMill$Text" "pos" "I") mw_h4_165) (fun _ h9 => h9) rfl dX2_addParameter_166 ?_
          refine lv_iconst (v := 1) hx hb dX2_addParameter_169 (by decide) ?_
          refine lv_iadd hx hb dX2_addParameter_170 ?_
          refine va_put (D := (dC, dI)) (ci := 9) (v := .int ((x0_10_54 + 1) + 1)) (ty := .int) (C := RX9) (T := TX9) (N := 13) hx hb hts uV_h4_X9 tyX9 tyX9_ok nmX9 hown hK hP hD hS 7 rfl rfl 10 (by decide) (hts (.fieldLink RX2 118 "ClassMill$Text" "pos" "I") mw_h4_165) (fun _ h9 => h9) rfl (by decide +kernel) rfl rfl (Nat.le_of_ble_eq_true rfl) dX2_addParameter_171 ?_
          clear hP hD hS
          intro H locs hP hD hS
          replace hP : va_P (dC, dI) vwCl [(h0, .inr (2, [.ref qf0, .ref qf1, .int v2, .ref qf3, .ref qf4, .ref qf5, .ref qf6, .ref qf7, .ref qf8, .ref qf9, .ref qf10, .ref qf11, .ref qf12, .ref qf13, .ref qf14, .ref qf15, .ref qf16, .ref qf17, .ref qf18, .ref qf19, .int v20])), (qf0_2, .inl (cf0_2, 3001, .inl f0_2)), (qf4, .inl (cf4, 1740, .inl f4)), (qf0_1, .inl (cf0_1, 3001, .inl f0_1)), (qf15, .inl (cf15, 96, .inl (upd g15_54 (l1_54 : Int32).toNatClampNeg ((g15_54 (l1_54 : Int32).toNatClampNeg) + 1)))), (qf16, .inl (cf16, 576, .inl (upd g16_54 ((l5_54 + (g15_54 (l1_54 : Int32).toNatClampNeg)) : Int32).toNatClampNeg l4_54))), (qf17, .inl (cf17, 576, .inl (upd g17_54 ((l5_54 + (g15_54 (l1_54 : Int32).toNatClampNeg)) : Int32).toNatClampNeg l2_54))), (qf0, .inr (9, [.ref qf0_0, .ref qf0_1, .ref qf0_2, .int v0_3, .ref qf0_4, .ref qf0_5, .ref qf0_6, .ref qf0_7, .ref qf0_8, .int v0_9, .int ((x0_10_54 + 1) + 1), .int x0_11_54, .int x0_12_54])), (qf0_0, .inl (cf0_0, 3001, .inl f0_0))] H := hP
          replace hD : va_D A [(h0, .inr (2, [.ref qf0, .ref qf1, .int v2, .ref qf3, .ref qf4, .ref qf5, .ref qf6, .ref qf7, .ref qf8, .ref qf9, .ref qf10, .ref qf11, .ref qf12, .ref qf13, .ref qf14, .ref qf15, .ref qf16, .ref qf17, .ref qf18, .ref qf19, .int v20])), (qf0_2, .inl (cf0_2, 3001, .inl f0_2)), (qf4, .inl (cf4, 1740, .inl f4)), (qf0_1, .inl (cf0_1, 3001, .inl f0_1)), (qf15, .inl (cf15, 96, .inl (upd g15_54 (l1_54 : Int32).toNatClampNeg ((g15_54 (l1_54 : Int32).toNatClampNeg) + 1)))), (qf16, .inl (cf16, 576, .inl (upd g16_54 ((l5_54 + (g15_54 (l1_54 : Int32).toNatClampNeg)) : Int32).toNatClampNeg l4_54))), (qf17, .inl (cf17, 576, .inl (upd g17_54 ((l5_54 + (g15_54 (l1_54 : Int32).toNatClampNeg)) : Int32).toNatClampNeg l2_54))), (qf0, .inr (9, [.ref qf0_0, .ref qf0_1, .ref qf0_2, .int v0_3, .ref qf0_4, .ref qf0_5, .ref qf0_6, .ref qf0_7, .ref qf0_8, .int v0_9, .int ((x0_10_54 + 1) + 1), .int x0_11_54, .int x0_12_54])), (qf0_0, .inl (cf0_0, 3001, .inl f0_0))] := hD
          have hr0 := Option.some.inj hsp
          clear hsp
          obtain ⟨hq0, hr1⟩ := Prod.mk.inj hr0
          clear hr0
          obtain ⟨hq1, hr2⟩ := Prod.mk.inj hr1
          clear hr1
          obtain ⟨hq2, hr3⟩ := Prod.mk.inj hr2
          clear hr2
          obtain ⟨hq3, hr4⟩ := Prod.mk.inj hr3
          clear hr3
          obtain ⟨hq4, hr5⟩ := Prod.mk.inj hr4
          clear hr4
          subst hq0
          subst hq1
          subst hq2
          subst hq3
          subst hq4
          subst hr5
          have hP9 := hP.sub (ws' := [(h0, .inr (2, [.ref qf0, .ref qf1, .int v2, .ref qf3, .ref qf4, .ref qf5, .ref qf6, .ref qf7, .ref qf8, .ref qf9, .ref qf10, .ref qf11, .ref qf12, .ref qf13, .ref qf14, .ref qf15, .ref qf16, .ref qf17, .ref qf18, .ref qf19, .int v20])), (qf0, .inr (9, [.ref qf0_0, .ref qf0_1, .ref qf0_2, .int v0_3, .ref qf0_4, .ref qf0_5, .ref qf0_6, .ref qf0_7, .ref qf0_8, .int v0_9, .int ((x0_10_54 + 1) + 1), .int x0_11_54, .int x0_12_54])), (qf0_0, .inl (cf0_0, 3001, .inl f0_0)), (qf0_2, .inl (cf0_2, 3001, .inl f0_2)), (qf4, .inl (cf4, 1740, .inl f4)), (qf0_1, .inl (cf0_1, 3001, .inl f0_1)), (qf15, .inl (cf15, 96, .inl (upd g15_54 (l1_54 : Int32).toNatClampNeg ((g15_54 (l1_54 : Int32).toNatClampNeg) + 1)))), (qf16, .inl (cf16, 576, .inl (upd g16_54 ((l5_54 + (g15_54 (l1_54 : Int32).toNatClampNeg)) : Int32).toNatClampNeg l4_54))), (qf17, .inl (cf17, 576, .inl (upd g17_54 ((l5_54 + (g15_54 (l1_54 : Int32).toNatClampNeg)) : Int32).toNatClampNeg l2_54)))]) [0, 7, 8, 1, 2, 3, 4, 5, 6] rfl
          have hD9 := hD.sub (ws' := [(h0, .inr (2, [.ref qf0, .ref qf1, .int v2, .ref qf3, .ref qf4, .ref qf5, .ref qf6, .ref qf7, .ref qf8, .ref qf9, .ref qf10, .ref qf11, .ref qf12, .ref qf13, .ref qf14, .ref qf15, .ref qf16, .ref qf17, .ref qf18, .ref qf19, .int v20])), (qf0, .inr (9, [.ref qf0_0, .ref qf0_1, .ref qf0_2, .int v0_3, .ref qf0_4, .ref qf0_5, .ref qf0_6, .ref qf0_7, .ref qf0_8, .int v0_9, .int ((x0_10_54 + 1) + 1), .int x0_11_54, .int x0_12_54])), (qf0_0, .inl (cf0_0, 3001, .inl f0_0)), (qf0_2, .inl (cf0_2, 3001, .inl f0_2)), (qf4, .inl (cf4, 1740, .inl f4)), (qf0_1, .inl (cf0_1, 3001, .inl f0_1)), (qf15, .inl (cf15, 96, .inl (upd g15_54 (l1_54 : Int32).toNatClampNeg ((g15_54 (l1_54 : Int32).toNatClampNeg) + 1)))), (qf16, .inl (cf16, 576, .inl (upd g16_54 ((l5_54 + (g15_54 (l1_54 : Int32).toNatClampNeg)) : Int32).toNatClampNeg l4_54))), (qf17, .inl (cf17, 576, .inl (upd g17_54 ((l5_54 + (g15_54 (l1_54 : Int32).toNatClampNeg)) : Int32).toNatClampNeg l2_54)))]) [0, 7, 8, 1, 2, 3, 4, 5, 6] (by decide) rfl
          have hK9 := hK.sub (tys' := [(cf0_0, .int), (cf0_2, .int), (cf4, .int), (cf0_1, .int), (cf15, .int), (cf16, .int), (cf17, .int)]) [6, 0, 1, 2, 3, 4, 5] rfl
          exact W.vret hx hb hr (fun t ht hW => ⟨⟨(), rfl, trivial, by rw [ht]; exact hP9, va_K.moved hW.alike hK9, hD9⟩, hS.F ht⟩) hS.2.2 dX2_addParameter_174
      · rw [if_neg c_6] at hsp
        refine lv_aload_n hx hb dX2_addParameter_65 rfl (lv_at hl 5 rfl) ?_
        refine va_get (D := (dC, dI)) (ci := 2) (v := .ref qf16) (C := RX2) (T := TX2) (N := 21) hx hb hts uV_h4_X2 hown hK hP 0 rfl rfl 16 (by decide) (hts (.fieldLink RX2 61 "ClassMill$Heads" "parameterName" "[I") mw_h4_171) (fun _ h9 => h9) rfl dX2_addParameter_66 ?_
        refine lv_iload hx hb dX2_addParameter_69 (lv_at hl 1 rfl) ?_
        refine lv_iload hx hb dX2_addParameter_71 (lv_at hl 0 rfl) ?_
        refine lv_iadd hx hb dX2_addParameter_73 ?_
        obtain ⟨hi_15, hsp⟩ := ox_in hsp
        refine va_iald hx hb hK hP 7 5 rfl rfl (i := (l5_54 + l6_54)) hi_15 dX2_addParameter_74 ?_
        refine lv_iload hx hb dX2_addParameter_75 (lv_at hl 2 rfl) ?_
        refine lv_icmp_ne (tgt := 89) hx hb dX2_addParameter_77 (by decide) (fun c_16 => ?_) (fun c_16 => ?_)
        · rw [if_neg c_16] at hsp
          refine lv_iinc (v := (l6_54 + 1)) (lv' := [(6, .int (l6_54 + 1)), (5, .int l5_54), (4, .int l4_54), (3, .int l3_54), (2, .int l2_54), (0, .ref h0), (1, .int l1_54)]) hx hb dX2_addParameter_89 hl (k := 0) rfl rfl (by decide) rfl (fun ls hl => ?_)
          refine lv_goto (tgt := 54) hx hb dX2_addParameter_92 (by decide) ?_
          exact ih_54 H locs ls l1_54 l2_54 l3_54 l4_54 l5_54 (l6_54 + 1) g15_54 g16_54 g17_54 x0_10_54 x0_11_54 x0_12_54 (lv_sub hl [0, 1, 2, 3, 4, 5, 6] rfl) hS (hD.sub (ws' := [(h0, .inr (2, [.ref qf0, .ref qf1, .int v2, .ref qf3, .ref qf4, .ref qf5, .ref qf6, .ref qf7, .ref qf8, .ref qf9, .ref qf10, .ref qf11, .ref qf12, .ref qf13, .ref qf14, .ref qf15, .ref qf16, .ref qf17, .ref qf18, .ref qf19, .int v20])), (qf0, .inr (9, [.ref qf0_0, .ref qf0_1, .ref qf0_2, .int v0_3, .ref qf0_4, .ref qf0_5, .ref qf0_6, .ref qf0_7, .ref qf0_8, .int v0_9, .int x0_10_54, .int x0_11_54, .int x0_12_54])), (qf0_0, .inl (cf0_0, 3001, .inl f0_0)), (qf0_2, .inl (cf0_2, 3001, .inl f0_2)), (qf4, .inl (cf4, 1740, .inl f4)), (qf0_1, .inl (cf0_1, 3001, .inl f0_1)), (qf15, .inl (cf15, 96, .inl g15_54)), (qf16, .inl (cf16, 576, .inl g16_54)), (qf17, .inl (cf17, 576, .inl g17_54))]) [0, 1, 2, 3, 4, 5, 6, 7, 8] (by decide) rfl) (hP.sub (ws' := [(h0, .inr (2, [.ref qf0, .ref qf1, .int v2, .ref qf3, .ref qf4, .ref qf5, .ref qf6, .ref qf7, .ref qf8, .ref qf9, .ref qf10, .ref qf11, .ref qf12, .ref qf13, .ref qf14, .ref qf15, .ref qf16, .ref qf17, .ref qf18, .ref qf19, .int v20])), (qf0, .inr (9, [.ref qf0_0, .ref qf0_1, .ref qf0_2, .int v0_3, .ref qf0_4, .ref qf0_5, .ref qf0_6, .ref qf0_7, .ref qf0_8, .int v0_9, .int x0_10_54, .int x0_11_54, .int x0_12_54])), (qf0_0, .inl (cf0_0, 3001, .inl f0_0)), (qf0_2, .inl (cf0_2, 3001, .inl f0_2)), (qf4, .inl (cf4, 1740, .inl f4)), (qf0_1, .inl (cf0_1, 3001, .inl f0_1)), (qf15, .inl (cf15, 96, .inl g15_54)), (qf16, .inl (cf16, 576, .inl g16_54)), (qf17, .inl (cf17, 576, .inl g17_54))]) [0, 1, 2, 3, 4, 5, 6, 7, 8] rfl) hsp
        · rw [if_pos c_16] at hsp
          refine lv_aload_n hx hb dX2_addParameter_80 rfl (lv_at hl 5 rfl) ?_
          refine va_get (D := (dC, dI)) (ci := 2) (v := .ref qf0) (C := RX2) (T := TX2) (N := 21) hx hb hts uV_h4_X2 hown hK hP 0 rfl rfl 0 (by decide) (hts (.fieldLink RX2 74 "ClassMill$Heads" "text" "LClassMill$Text;") mw_h4_145) (fun _ h9 => h9) rfl dX2_addParameter_81 ?_
          refine lv_iconst (v := 4) hx hb dX2_addParameter_84 (by decide) ?_
          refine lv_iload_n hx hb dX2_addParameter_85 rfl (lv_at hl 3 rfl) ?_
          obtain ⟨⟨u4_0, u4_1⟩, hu_4, hsp⟩ := ox_bind hsp
          try dsimp only at hsp
          have hPc := hP.sub (ws' := [(qf0, .inr (9, [.ref qf0_0, .ref qf0_1, .ref qf0_2, .int v0_3, .ref qf0_4, .ref qf0_5, .ref qf0_6, .ref qf0_7, .ref qf0_8, .int v0_9, .int x0_10_54, .int x0_11_54, .int x0_12_54])), (qf0_1, .inl (cf0_1, 3001, .inl f0_1))]) [1, 5] rfl
          have hDc := hD.sub (ws' := [(qf0, .inr (9, [.ref qf0_0, .ref qf0_1, .ref qf0_2, .int v0_3, .ref qf0_4, .ref qf0_5, .ref qf0_6, .ref qf0_7, .ref qf0_8, .int v0_9, .int x0_10_54, .int x0_11_54, .int x0_12_54])), (qf0_1, .inl (cf0_1, 3001, .inl f0_1))]) [1, 5] (by decide) rfl
          have hKc := hK.sub (tys' := [(cf0_1, .int)]) [3] rfl
          have hFc := va_free (wc := [(qf0, .inr (9, [.ref qf0_0, .ref qf0_1, .ref qf0_2, .int v0_3, .ref qf0_4, .ref qf0_5, .ref qf0_6, .ref qf0_7, .ref qf0_8, .int v0_9, .int x0_10_54, .int x0_11_54, .int x0_12_54])), (qf0_1, .inl (cf0_1, 3001, .inl f0_1))]) hD hS hA [1, 5] rfl
          refine va_callv (va_runV (As := [.int 4, .int l3_54]) (rest := []) ⟨hx, hb, hml, hown, hts⟩ (t9_tell l dC dI H.size qf0 4 l3_54 qf0_0 qf0_1 qf0_2 v0_3 qf0_4 qf0_5 qf0_6 qf0_7 qf0_8 v0_9 x0_10_54 x0_11_54 x0_12_54 cf0_1 f0_1 nf u4_0 u4_1 hu_4) (cwV 2 hts gv_h4_33 rfl rfl rfl (by decide +kernel) ⟨Nat.le_of_ble_eq_true rfl, Nat.le_of_ble_eq_true rfl⟩) ⟨fun a U g mk q => by obtain ⟨q0, q1, qP, qK, qD⟩ := q; exact ⟨q0, q1, qP, va_K.moved (u := U) (U := U.calling g mk a) (Vm.Alike.refl U.vm) qK, qD⟩, va_recv hKc hPc (ci := 9) (q0 := 0) rfl rfl, fun U hU hW => ⟨rfl, by rw [hU], by rw [hU]; exact hPc, va_K.moved hW.alike hKc, hDc.weaken (fun _ _ _ _ => trivial)⟩⟩ rfl rfl hl.1 rfl (lv_room (Nat.le_of_ble_eq_true rfl)) dX2_addParameter_86 ⟨Nat.le_of_ble_eq_true rfl, Nat.le_of_ble_eq_true rfl⟩) hS (fun q _ h => hFc q h) hFc ?_
          clear hS
          intro u t H1 locs ht hvm hw hB hz1 hk1 hS
          obtain ⟨⟩ := u
          obtain ⟨hP1, hK1, hD1⟩ := hB
          rw [ht] at hP1
          have hK1 := va_K.moved hvm.symm hK1
          try dsimp only at hw
          have hPD := va_join (wr := [(h0, .inr (2, [.ref qf0, .ref qf1, .int v2, .ref qf3, .ref qf4, .ref qf5, .ref qf6, .ref qf7, .ref qf8, .ref qf9, .ref qf10, .ref qf11, .ref qf12, .ref qf13, .ref qf14, .ref qf15, .ref qf16, .ref qf17, .ref qf18, .ref qf19, .int v20])), (qf0_0, .inl (cf0_0, 3001, .inl f0_0)), (qf0_2, .inl (cf0_2, 3001, .inl f0_2)), (qf4, .inl (cf4, 1740, .inl f4)), (qf15, .inl (cf15, 96, .inl g15_54)), (qf16, .inl (cf16, 576, .inl g16_54)), (qf17, .inl (cf17, 576, .inl g17_54))]) (w1 := [(qf0, .inr (9, [.ref qf0_0, .ref qf0_1, .ref qf0_2, .int v0_3, .ref qf0_4, .ref qf0_5, .ref qf0_6, .ref qf0_7, .ref qf0_8, .int v0_9, .int x0_10_54, .int u4_0, .int u4_1])), (qf0_1, .inl (cf0_1, 3001, .inl f0_1))]) hP hD [1, 5] [0, 2, 3, 4, 6, 7, 8] rfl rfl (by decide) (by decide) hk1 hFc hP1 hD1
          clear hP hD
          obtain ⟨hP, hD⟩ := hPD
          replace hK := (hK.sub (tys' := [(cf0_0, .int), (cf0_2, .int), (cf4, .int), (cf15, .int), (cf16, .int), (cf17, .int)]) [0, 1, 2, 4, 5, 6] rfl).app hK1
          clear hPc hDc hKc hFc hP1 hK1 hD1 hz1 hk1 ht hvm
          generalize H1 = H at hP hS ⊢
          replace hP : va_P (dC, dI) vwCl [(h0, .inr (2, [.ref qf0, .ref qf1, .int v2, .ref qf3, .ref qf4, .ref qf5, .ref qf6, .ref qf7, .ref qf8, .ref qf9, .ref qf10, .ref qf11, .ref qf12, .ref qf13, .ref qf14, .ref qf15, .ref qf16, .ref qf17, .ref qf18, .ref qf19, .int v20])), (qf0_0, .inl (cf0_0, 3001, .inl f0_0)), (qf0_2, .inl (cf0_2, 3001, .inl f0_2)), (qf4, .inl (cf4, 1740, .inl f4)), (qf15, .inl (cf15, 96, .inl g15_54)), (qf16, .inl (cf16, 576, .inl g16_54)), (qf17, .inl (cf17, 576, .inl g17_54)), (qf0, .inr (9, [.ref qf0_0, .ref qf0_1, .ref qf0_2, .int v0_3, .ref qf0_4, .ref qf0_5, .ref qf0_6, .ref qf0_7, .ref qf0_8, .int v0_9, .int x0_10_54, .int u4_0, .int u4_1])), (qf0_1, .inl (cf0_1, 3001, .inl f0_1))] H := hP
          replace hD : va_D A [(h0, .inr (2, [.ref qf0, .ref qf1, .int v2, .ref qf3, .ref qf4, .ref qf5, .ref qf6, .ref qf7, .ref qf8, .ref qf9, .ref qf10, .ref qf11, .ref qf12, .ref qf13, .ref qf14, .ref qf15, .ref qf16, .ref qf17, .ref qf18, .ref qf19, .int v20])), (qf0_0, .inl (cf0_0, 3001, .inl f0_0)), (qf0_2, .inl (cf0_2, 3001, .inl f0_2)), (qf4, .inl (cf4, 1740, .inl f4)), (qf15, .inl (cf15, 96, .inl g15_54)), (qf16, .inl (cf16, 576, .inl g16_54)), (qf17, .inl (cf17, 576, .inl g17_54)), (qf0, .inr (9, [.ref qf0_0, .ref qf0_1, .ref qf0_2, .int v0_3, .ref qf0_4, .ref qf0_5, .ref qf0_6, .ref qf0_7, .ref qf0_8, .int v0_9, .int x0_10_54, .int u4_0, .int u4_1])), (qf0_1, .inl (cf0_1, 3001, .inl f0_1))] := hD
          replace hK : va_K (dC, dI) vwCl [(cf0_0, .int), (cf0_2, .int), (cf4, .int), (cf15, .int), (cf16, .int), (cf17, .int), (cf0_1, .int)] s := hK
          refine lv_iinc (v := (l6_54 + 1)) (lv' := [(6, .int (l6_54 + 1)), (5, .int l5_54), (4, .int l4_54), (3, .int l3_54), (2, .int l2_54), (0, .ref h0), (1, .int l1_54)]) hx hb dX2_addParameter_89 hl (k := 0) rfl rfl (by decide) rfl (fun ls hl => ?_)
          refine lv_goto (tgt := 54) hx hb dX2_addParameter_92 (by decide) ?_
          exact ih_54 H locs ls l1_54 l2_54 l3_54 l4_54 l5_54 (l6_54 + 1) g15_54 g16_54 g17_54 x0_10_54 u4_0 u4_1 (lv_sub hl [0, 1, 2, 3, 4, 5, 6] rfl) hS (hD.sub (ws' := [(h0, .inr (2, [.ref qf0, .ref qf1, .int v2, .ref qf3, .ref qf4, .ref qf5, .ref qf6, .ref qf7, .ref qf8, .ref qf9, .ref qf10, .ref qf11, .ref qf12, .ref qf13, .ref qf14, .ref qf15, .ref qf16, .ref qf17, .ref qf18, .ref qf19, .int v20])), (qf0, .inr (9, [.ref qf0_0, .ref qf0_1, .ref qf0_2, .int v0_3, .ref qf0_4, .ref qf0_5, .ref qf0_6, .ref qf0_7, .ref qf0_8, .int v0_9, .int x0_10_54, .int u4_0, .int u4_1])), (qf0_0, .inl (cf0_0, 3001, .inl f0_0)), (qf0_2, .inl (cf0_2, 3001, .inl f0_2)), (qf4, .inl (cf4, 1740, .inl f4)), (qf0_1, .inl (cf0_1, 3001, .inl f0_1)), (qf15, .inl (cf15, 96, .inl g15_54)), (qf16, .inl (cf16, 576, .inl g16_54)), (qf17, .inl (cf17, 576, .inl g17_54))]) [0, 7, 1, 2, 3, 8, 4, 5, 6] (by decide) rfl) (hP.sub (ws' := [(h0, .inr (2, [.ref qf0, .ref qf1, .int v2, .ref qf3, .ref qf4, .ref qf5, .ref qf6, .ref qf7, .ref qf8, .ref qf9, .ref qf10, .ref qf11, .ref qf12, .ref qf13, .ref qf14, .ref qf15, .ref qf16, .ref qf17, .ref qf18, .ref qf19, .int v20])), (qf0, .inr (9, [.ref qf0_0, .ref qf0_1, .ref qf0_2, .int v0_3, .ref qf0_4, .ref qf0_5, .ref qf0_6, .ref qf0_7, .ref qf0_8, .int v0_9, .int x0_10_54, .int u4_0, .int u4_1])), (qf0_0, .inl (cf0_0, 3001, .inl f0_0)), (qf0_2, .inl (cf0_2, 3001, .inl f0_2)), (qf4, .inl (cf4, 1740, .inl f4)), (qf0_1, .inl (cf0_1, 3001, .inl f0_1)), (qf15, .inl (cf15, 96, .inl g15_54)), (qf16, .inl (cf16, 576, .inl g16_54)), (qf17, .inl (cf17, 576, .inl g17_54))]) [0, 7, 1, 2, 3, 8, 4, 5, 6] rfl) hsp
  · rw [if_neg c_4] at hsp
    refine lv_aload_n hx hb dX2_addParameter_40 rfl (lv_at hl 4 rfl) ?_
    refine va_get (D := (dC, dI)) (ci := 2) (v := .ref qf0) (C := RX2) (T := TX2) (N := 21) hx hb hts uV_h4_X2 hown hK hP 3 rfl rfl 0 (by decide) (hts (.fieldLink RX2 74 "ClassMill$Heads" "text" "LClassMill$Text;") mw_h4_145) (fun _ h9 => h9) rfl dX2_addParameter_41 ?_
    refine lv_bipush (v := 11) hx hb dX2_addParameter_44 (by decide) ?_
    refine lv_iload_n hx hb dX2_addParameter_46 rfl (lv_at hl 2 rfl) ?_
    obtain ⟨⟨u5_0, u5_1⟩, hu_5, hsp⟩ := ox_bind hsp
    try dsimp only at hsp
    have hPc := hP.sub (ws' := [(qf0, .inr (9, [.ref qf0_0, .ref qf0_1, .ref qf0_2, .int v0_3, .ref qf0_4, .ref qf0_5, .ref qf0_6, .ref qf0_7, .ref qf0_8, .int v0_9, .int u1_1, .int u1_2, .int u1_3])), (qf0_1, .inl (cf0_1, 3001, .inl f0_1))]) [7, 6] rfl
    have hDc := hD.sub (ws' := [(qf0, .inr (9, [.ref qf0_0, .ref qf0_1, .ref qf0_2, .int v0_3, .ref qf0_4, .ref qf0_5, .ref qf0_6, .ref qf0_7, .ref qf0_8, .int v0_9, .int u1_1, .int u1_2, .int u1_3])), (qf0_1, .inl (cf0_1, 3001, .inl f0_1))]) [7, 6] (by decide) rfl
    have hKc := hK.sub (tys' := [(cf0_1, .int)]) [5] rfl
    have hFc := va_free (wc := [(qf0, .inr (9, [.ref qf0_0, .ref qf0_1, .ref qf0_2, .int v0_3, .ref qf0_4, .ref qf0_5, .ref qf0_6, .ref qf0_7, .ref qf0_8, .int v0_9, .int u1_1, .int u1_2, .int u1_3])), (qf0_1, .inl (cf0_1, 3001, .inl f0_1))]) hD hS hA [7, 6] rfl
    refine va_callv (va_runV (As := [.int 11, .int u1_1]) (rest := []) ⟨hx, hb, hml, hown, hts⟩ (t9_tell l dC dI H.size qf0 11 u1_1 qf0_0 qf0_1 qf0_2 v0_3 qf0_4 qf0_5 qf0_6 qf0_7 qf0_8 v0_9 u1_1 u1_2 u1_3 cf0_1 f0_1 nf u5_0 u5_1 hu_5) (cwV 2 hts gv_h4_33 rfl rfl rfl (by decide +kernel) ⟨Nat.le_of_ble_eq_true rfl, Nat.le_of_ble_eq_true rfl⟩) ⟨fun a U g mk q => by obtain ⟨q0, q1, qP, qK, qD⟩ := q; exact ⟨q0, q1, qP, va_K.moved (u := U) (U := U.calling g mk a) (Vm.Alike.refl U.vm) qK, qD⟩, va_recv hKc hPc (ci := 9) (q0 := 0) rfl rfl, fun U hU hW => ⟨rfl, by rw [hU], by rw [hU]; exact hPc, va_K.moved hW.alike hKc, hDc.weaken (fun _ _ _ _ => trivial)⟩⟩ rfl rfl hl.1 rfl (lv_room (Nat.le_of_ble_eq_true rfl)) dX2_addParameter_47 ⟨Nat.le_of_ble_eq_true rfl, Nat.le_of_ble_eq_true rfl⟩) hS (fun q _ h => hFc q h) hFc ?_
    clear hS
    intro u t H1 locs ht hvm hw hB hz1 hk1 hS
    obtain ⟨⟩ := u
    obtain ⟨hP1, hK1, hD1⟩ := hB
    rw [ht] at hP1
    have hK1 := va_K.moved hvm.symm hK1
    try dsimp only at hw
    have hPD := va_join (wr := [(qf15, .inl (cf15, 96, .inl f15)), (qf16, .inl (cf16, 576, .inl f16)), (qf17, .inl (cf17, 576, .inl f17)), (h0, .inr (2, [.ref qf0, .ref qf1, .int v2, .ref qf3, .ref qf4, .ref qf5, .ref qf6, .ref qf7, .ref qf8, .ref qf9, .ref qf10, .ref qf11, .ref qf12, .ref qf13, .ref qf14, .ref qf15, .ref qf16, .ref qf17, .ref qf18, .ref qf19, .int v20])), (qf0_0, .inl (cf0_0, 3001, .inl f0_0)), (qf4, .inl (cf4, 1740, .inl f4)), (qf0_2, .inl (cf0_2, 3001, .inl f0_2))]) (w1 := [(qf0, .inr (9, [.ref qf0_0, .ref qf0_1, .ref qf0_2, .int v0_3, .ref qf0_4, .ref qf0_5, .ref qf0_6, .ref qf0_7, .ref qf0_8, .int v0_9, .int u1_1, .int u5_0, .int u5_1])), (qf0_1, .inl (cf0_1, 3001, .inl f0_1))]) hP hD [7, 6] [0, 1, 2, 3, 4, 5, 8] rfl rfl (by decide) (by decide) hk1 hFc hP1 hD1
    clear hP hD
    obtain ⟨hP, hD⟩ := hPD
    replace hK := (hK.sub (tys' := [(cf15, .int), (cf16, .int), (cf17, .int), (cf0_0, .int), (cf4, .int), (cf0_2, .int)]) [0, 1, 2, 3, 4, 6] rfl).app hK1
    clear hPc hDc hKc hFc hP1 hK1 hD1 hz1 hk1 ht hvm
    generalize H1 = H at hP hS ⊢
    replace hP : va_P (dC, dI) vwCl [(qf15, .inl (cf15, 96, .inl f15)), (qf16, .inl (cf16, 576, .inl f16)), (qf17, .inl (cf17, 576, .inl f17)), (h0, .inr (2, [.ref qf0, .ref qf1, .int v2, .ref qf3, .ref qf4, .ref qf5, .ref qf6, .ref qf7, .ref qf8, .ref qf9, .ref qf10, .ref qf11, .ref qf12, .ref qf13, .ref qf14, .ref qf15, .ref qf16, .ref qf17, .ref qf18, .ref qf19, .int v20])), (qf0_0, .inl (cf0_0, 3001, .inl f0_0)), (qf4, .inl (cf4, 1740, .inl f4)), (qf0_2, .inl (cf0_2, 3001, .inl f0_2)), (qf0, .inr (9, [.ref qf0_0, .ref qf0_1, .ref qf0_2, .int v0_3, .ref qf0_4, .ref qf0_5, .ref qf0_6, .ref qf0_7, .ref qf0_8, .int v0_9, .int u1_1, .int u5_0, .int u5_1])), (qf0_1, .inl (cf0_1, 3001, .inl f0_1))] H := hP
    replace hD : va_D A [(qf15, .inl (cf15, 96, .inl f15)), (qf16, .inl (cf16, 576, .inl f16)), (qf17, .inl (cf17, 576, .inl f17)), (h0, .inr (2, [.ref qf0, .ref qf1, .int v2, .ref qf3, .ref qf4, .ref qf5, .ref qf6, .ref qf7, .ref qf8, .ref qf9, .ref qf10, .ref qf11, .ref qf12, .ref qf13, .ref qf14, .ref qf15, .ref qf16, .ref qf17, .ref qf18, .ref qf19, .int v20])), (qf0_0, .inl (cf0_0, 3001, .inl f0_0)), (qf4, .inl (cf4, 1740, .inl f4)), (qf0_2, .inl (cf0_2, 3001, .inl f0_2)), (qf0, .inr (9, [.ref qf0_0, .ref qf0_1, .ref qf0_2, .int v0_3, .ref qf0_4, .ref qf0_5, .ref qf0_6, .ref qf0_7, .ref qf0_8, .int v0_9, .int u1_1, .int u5_0, .int u5_1])), (qf0_1, .inl (cf0_1, 3001, .inl f0_1))] := hD
    replace hK : va_K (dC, dI) vwCl [(cf15, .int), (cf16, .int), (cf17, .int), (cf0_0, .int), (cf4, .int), (cf0_2, .int), (cf0_1, .int)] s := hK
    have hr0 := Option.some.inj hsp
    clear hsp
    obtain ⟨hq0, hr1⟩ := Prod.mk.inj hr0
    clear hr0
    obtain ⟨hq1, hr2⟩ := Prod.mk.inj hr1
    clear hr1
    obtain ⟨hq2, hr3⟩ := Prod.mk.inj hr2
    clear hr2
    obtain ⟨hq3, hr4⟩ := Prod.mk.inj hr3
    clear hr3
    obtain ⟨hq4, hr5⟩ := Prod.mk.inj hr4
    clear hr4
    subst hq0
    subst hq1
    subst hq2
    subst hq3
    subst hq4
    subst hr5
    have hP9 := hP.sub (ws' := [(h0, .inr (2, [.ref qf0, .ref qf1, .int v2, .ref qf3, .ref qf4, .ref qf5, .ref qf6, .ref qf7, .ref qf8, .ref qf9, .ref qf10, .ref qf11, .ref qf12, .ref qf13, .ref qf14, .ref qf15, .ref qf16, .ref qf17, .ref qf18, .ref qf19, .int v20])), (qf0, .inr (9, [.ref qf0_0, .ref qf0_1, .ref qf0_2, .int v0_3, .ref qf0_4, .ref qf0_5, .ref qf0_6, .ref qf0_7, .ref qf0_8, .int v0_9, .int u1_1, .int u5_0, .int u5_1])), (qf0_0, .inl (cf0_0, 3001, .inl f0_0)), (qf0_2, .inl (cf0_2, 3001, .inl f0_2)), (qf4, .inl (cf4, 1740, .inl f4)), (qf0_1, .inl (cf0_1, 3001, .inl f0_1)), (qf15, .inl (cf15, 96, .inl f15)), (qf16, .inl (cf16, 576, .inl f16)), (qf17, .inl (cf17, 576, .inl f17))]) [3, 7, 4, 6, 5, 8, 0, 1, 2] rfl
    have hD9 := hD.sub (ws' := [(h0, .inr (2, [.ref qf0, .ref qf1, .int v2, .ref qf3, .ref qf4, .ref qf5, .ref qf6, .ref qf7, .ref qf8, .ref qf9, .ref qf10, .ref qf11, .ref qf12, .ref qf13, .ref qf14, .ref qf15, .ref qf16, .ref qf17, .ref qf18, .ref qf19, .int v20])), (qf0, .inr (9, [.ref qf0_0, .ref qf0_1, .ref qf0_2, .int v0_3, .ref qf0_4, .ref qf0_5, .ref qf0_6, .ref qf0_7, .ref qf0_8, .int v0_9, .int u1_1, .int u5_0, .int u5_1])), (qf0_0, .inl (cf0_0, 3001, .inl f0_0)), (qf0_2, .inl (cf0_2, 3001, .inl f0_2)), (qf4, .inl (cf4, 1740, .inl f4)), (qf0_1, .inl (cf0_1, 3001, .inl f0_1)), (qf15, .inl (cf15, 96, .inl f15)), (qf16, .inl (cf16, 576, .inl f16)), (qf17, .inl (cf17, 576, .inl f17))]) [3, 7, 4, 6, 5, 8, 0, 1, 2] (by decide) rfl
    have hK9 := hK.sub (tys' := [(cf0_0, .int), (cf0_2, .int), (cf4, .int), (cf0_1, .int), (cf15, .int), (cf16, .int), (cf17, .int)]) [3, 5, 4, 6, 0, 1, 2] rfl
    exact W.vret hx hb hr (fun t ht hW => ⟨⟨(), rfl, trivial, by rw [ht]; exact hP9, va_K.moved hW.alike hK9, hD9⟩, hS.F ht⟩) hS.2.2 dX2_addParameter_50
def lp_t2_skipBlock_6 (nf n : Nat) (v0_3 : Int32) (v0_10 : Int32) (v0_11 : Int32) (f0_0 : Nat → Int32)  (l1_6 : Int32) (l2_6 : Int32) (l3_6 : Int32) (x0_10_6 : Int32) : Option (Int32) := match n with
  | 0 => none
  | n + 1 => (if 3000 ≤ l3_6 then (some x0_10_6) else (if l2_6 = 0 then (some x0_10_6) else ((sp_t9_kind nf v0_3 x0_10_6 v0_11 f0_0).bind (fun p1 => (if p1 = 0 then (some x0_10_6) else ((sp_t9_kind nf v0_3 x0_10_6 v0_11 f0_0).bind (fun p2 => (if p2 = 42 then (if (l1_6 + 1) ≤ 0 then (lp_t2_skipBlock_6 nf n v0_3 v0_10 v0_11 f0_0 (l1_6 + 1) 0 (l3_6 + 1) (x0_10_6 + 1)) else (lp_t2_skipBlock_6 nf n v0_3 v0_10 v0_11 f0_0 (l1_6 + 1) 1 (l3_6 + 1) (x0_10_6 + 1))) else ((sp_t9_kind nf v0_3 x0_10_6 v0_11 f0_0).bind (fun p3 => (if p3 = 43 then (if (l1_6 + (-1)) ≤ 0 then (lp_t2_skipBlock_6 nf n v0_3 v0_10 v0_11 f0_0 (l1_6 + (-1)) 0 (l3_6 + 1) (x0_10_6 + 1)) else (lp_t2_skipBlock_6 nf n v0_3 v0_10 v0_11 f0_0 (l1_6 + (-1)) 1 (l3_6 + 1) (x0_10_6 + 1))) else (if l1_6 ≤ 0 then (lp_t2_skipBlock_6 nf n v0_3 v0_10 v0_11 f0_0 l1_6 0 (l3_6 + 1) (x0_10_6 + 1)) else (lp_t2_skipBlock_6 nf n v0_3 v0_10 v0_11 f0_0 l1_6 1 (l3_6 + 1) (x0_10_6 + 1))))))))))))))
def sp_t2_skipBlock (nf : Nat) (v0_3 : Int32) (v0_10 : Int32) (v0_11 : Int32) (f0_0 : Nat → Int32) : Option (Int32) := (lp_t2_skipBlock_6 nf nf v0_3 v0_10 v0_11 f0_0 0 1 0 v0_10)
set_option maxHeartbeats 4000000 in
set_option maxRecDepth 100000 in
/-- ClassMill$Heads.skipBlock -/
theorem t2_skipBlock (l : Launch) (dC : Nat → ClassId) (dI : Nat → Nat → Nat) (sz : Nat) (h0 : Nat) (qf0 : Nat) (qf1 : Nat) (v2 : Int32) (qf3 : Nat) (qf4 : Nat) (qf5 : Nat) (qf6 : Nat) (qf7 : Nat) (qf8 : Nat) (qf9 : Nat) (qf10 : Nat) (qf11 : Nat) (qf12 : Nat) (qf13 : Nat) (qf14 : Nat) (qf15 : Nat) (qf16 : Nat) (qf17 : Nat) (qf18 : Nat) (qf19 : Nat) (v20 : Int32) (qf0_0 : Nat) (qf0_1 : Nat) (qf0_2 : Nat) (v0_3 : Int32) (qf0_4 : Nat) (qf0_5 : Nat) (qf0_6 : Nat) (qf0_7 : Nat) (qf0_8 : Nat) (v0_9 : Int32) (v0_10 : Int32) (v0_11 : Int32) (v0_12 : Int32) (cf0_0 : ClassId) (f0_0 : (Nat → Int32)) (nf : Nat) (w0_10 : Int32) (hsp : sp_t2_skipBlock nf v0_3 v0_10 v0_11 f0_0 = some w0_10) : Met l yX2_skipBlock (.code yX2_skipBlock cX2_skipBlock 4 none :: VS_h4) ({ frames := 1, cells := 0, slots := 0, locals := 20 }) (va_Pc [.ref h0] (fun U => U.heap.size = sz ∧ va_P (dC, dI) vwCl [(h0, .inr (2, [.ref qf0, .ref qf1, .int v2, .ref qf3, .ref qf4, .ref qf5, .ref qf6, .ref qf7, .ref qf8, .ref qf9, .ref qf10, .ref qf11, .ref qf12, .ref qf13, .ref qf14, .ref qf15, .ref qf16, .ref qf17, .ref qf18, .ref qf19, .int v20])), (qf0, .inr (9, [.ref qf0_0, .ref qf0_1, .ref qf0_2, .int v0_3, .ref qf0_4, .ref qf0_5, .ref qf0_6, .ref qf0_7, .ref qf0_8, .int v0_9, .int v0_10, .int v0_11, .int v0_12])), (qf0_0, .inl (cf0_0, 3001, .inl f0_0))] U.heap ∧ va_K (dC, dI) vwCl [(cf0_0, .int)] U ∧ va_D (fun _ => True) [(h0, .inr (2, [.ref qf0, .ref qf1, .int v2, .ref qf3, .ref qf4, .ref qf5, .ref qf6, .ref qf7, .ref qf8, .ref qf9, .ref qf10, .ref qf11, .ref qf12, .ref qf13, .ref qf14, .ref qf15, .ref qf16, .ref qf17, .ref qf18, .ref qf19, .int v20])), (qf0, .inr (9, [.ref qf0_0, .ref qf0_1, .ref qf0_2, .int v0_3, .ref qf0_4, .ref qf0_5, .ref qf0_6, .ref qf0_7, .ref qf0_8, .int v0_9, .int v0_10, .int v0_11, .int v0_12])), (qf0_0, .inl (cf0_0, 3001, .inl f0_0))])) (va_Qv (fun (u : Unit) => match u with | () => True) (fun (u : Unit) (t : State) => match u with | () => va_P (dC, dI) vwCl [(h0, .inr (2, [.ref qf0, .ref qf1, .int v2, .ref qf3, .ref qf4, .ref qf5, .ref qf6, .ref qf7, .ref qf8, .ref qf9, .ref qf10, .ref qf11, .ref qf12, .ref qf13, .ref qf14, .ref qf15, .ref qf16, .ref qf17, .ref qf18, .ref qf19, .int v20])), (qf0, .inr (9, [.ref qf0_0, .ref qf0_1, .ref qf0_2, .int v0_3, .ref qf0_4, .ref qf0_5, .ref qf0_6, .ref qf0_7, .ref qf0_8, .int v0_9, .int w0_10, .int v0_11, .int v0_12])), (qf0_0, .inl (cf0_0, 3001, .inl f0_0))] t.heap ∧ va_K (dC, dI) vwCl [(cf0_0, .int)] t ∧ va_D (va_A [(h0, .inr (2, [.ref qf0, .ref qf1, .int v2, .ref qf3, .ref qf4, .ref qf5, .ref qf6, .ref qf7, .ref qf8, .ref qf9, .ref qf10, .ref qf11, .ref qf12, .ref qf13, .ref qf14, .ref qf15, .ref qf16, .ref qf17, .ref qf18, .ref qf19, .int v20])), (qf0, .inr (9, [.ref qf0_0, .ref qf0_1, .ref qf0_2, .int v0_3, .ref qf0_4, .ref qf0_5, .ref qf0_6, .ref qf0_7, .ref qf0_8, .int v0_9, .int v0_10, .int v0_11, .int v0_12])), (qf0_0, .inl (cf0_0, 3001, .inl f0_0))] sz) [(h0, .inr (2, [.ref qf0, .ref qf1, .int v2, .ref qf3, .ref qf4, .ref qf5, .ref qf6, .ref qf7, .ref qf8, .ref qf9, .ref qf10, .ref qf11, .ref qf12, .ref qf13, .ref qf14, .ref qf15, .ref qf16, .ref qf17, .ref qf18, .ref qf19, .int v20])), (qf0, .inr (9, [.ref qf0_0, .ref qf0_1, .ref qf0_2, .int v0_3, .ref qf0_4, .ref qf0_5, .ref qf0_6, .ref qf0_7, .ref qf0_8, .int v0_9, .int w0_10, .int v0_11, .int v0_12])), (qf0_0, .inl (cf0_0, 3001, .inl f0_0))]) (va_A [(h0, .inr (2, [.ref qf0, .ref qf1, .int v2, .ref qf3, .ref qf4, .ref qf5, .ref qf6, .ref qf7, .ref qf8, .ref qf9, .ref qf10, .ref qf11, .ref qf12, .ref qf13, .ref qf14, .ref qf15, .ref qf16, .ref qf17, .ref qf18, .ref qf19, .int v20])), (qf0, .inr (9, [.ref qf0_0, .ref qf0_1, .ref qf0_2, .int v0_3, .ref qf0_4, .ref qf0_5, .ref qf0_6, .ref qf0_7, .ref qf0_8, .int v0_9, .int v0_10, .int v0_11, .int v0_12])), (qf0_0, .inl (cf0_0, 3001, .inl f0_0))] sz)) 0 0 (va_A [(h0, .inr (2, [.ref qf0, .ref qf1, .int v2, .ref qf3, .ref qf4, .ref qf5, .ref qf6, .ref qf7, .ref qf8, .ref qf9, .ref qf10, .ref qf11, .ref qf12, .ref qf13, .ref qf14, .ref qf15, .ref qf16, .ref qf17, .ref qf18, .ref qf19, .int v20])), (qf0, .inr (9, [.ref qf0_0, .ref qf0_1, .ref qf0_2, .int v0_3, .ref qf0_4, .ref qf0_5, .ref qf0_6, .ref qf0_7, .ref qf0_8, .int v0_9, .int v0_10, .int v0_11, .int v0_12])), (qf0_0, .inl (cf0_0, 3001, .inl f0_0))] sz) := by
  refine Met.ofW (cc := cX2_skipBlock) (maxL := 4) (ret := none) (by decide) rfl ?_
  intro p e s m args below meth c s₁ B hml hv
  obtain ⟨rfl, hsz, hP, hK, hD0⟩ := hv
  have hx := B.exec
  have hb := B.bytes
  have hr := B.returns
  have hts := atoms_spec (ws := (.code yX2_skipBlock cX2_skipBlock 4 none :: VS_h4)) B.pre
  replace hts := fun w (h : w ∈ VS_h4) => hts w (List.mem_cons_of_mem _ h)
  have hown : s.vm.findClass RX2 = some m.cls := findClass_of_methodNamed B.named
  have hlocks := B.notSynchronized
  subst hsz
  have hD := hD0.self (sz := s.heap.size)
  generalize hAe : va_A [(h0, .inr (2, [.ref qf0, .ref qf1, .int v2, .ref qf3, .ref qf4, .ref qf5, .ref qf6, .ref qf7, .ref qf8, .ref qf9, .ref qf10, .ref qf11, .ref qf12, .ref qf13, .ref qf14, .ref qf15, .ref qf16, .ref qf17, .ref qf18, .ref qf19, .int v20])), (qf0, .inr (9, [.ref qf0_0, .ref qf0_1, .ref qf0_2, .int v0_3, .ref qf0_4, .ref qf0_5, .ref qf0_6, .ref qf0_7, .ref qf0_8, .int v0_9, .int v0_10, .int v0_11, .int v0_12])), (qf0_0, .inl (cf0_0, 3001, .inl f0_0))] s.heap.size = A at hD  ⊢
  have hA : ∀ q : Nat, s.heap.size ≤ q → A q := fun q h => by rw [← hAe]; exact Or.inr h
  have hP : va_P (dC, dI) vwCl [(h0, .inr (2, [.ref qf0, .ref qf1, .int v2, .ref qf3, .ref qf4, .ref qf5, .ref qf6, .ref qf7, .ref qf8, .ref qf9, .ref qf10, .ref qf11, .ref qf12, .ref qf13, .ref qf14, .ref qf15, .ref qf16, .ref qf17, .ref qf18, .ref qf19, .int v20])), (qf0, .inr (9, [.ref qf0_0, .ref qf0_1, .ref qf0_2, .int v0_3, .ref qf0_4, .ref qf0_5, .ref qf0_6, .ref qf0_7, .ref qf0_8, .int v0_9, .int v0_10, .int v0_11, .int v0_12])), (qf0_0, .inl (cf0_0, 3001, .inl f0_0))] s.heap := hP
  have hl := lv_entry ([.ref h0]) (n := 4) (Nat.le_of_ble_eq_true rfl)
  rw [lg_entry_eq]
  generalize (lg_sl ([.ref h0]) ++ List.replicate (4 - (lg_sl ([.ref h0])).length) Slot.unset).toArray = ls at hl ⊢
  have hl : lv_has ls 4 [(0, .ref h0)] := hl
  obtain ⟨H, hH⟩ : ∃ H : Heap, s.heap = H := ⟨_, rfl⟩
  rw [hH] at hP ⊢
  have hS : va_S A s.heap H [] := by rw [← hH]; exact va_S.rf
  obtain ⟨locs, hlo⟩ : ∃ locs : List Loc, locs = [] := ⟨_, rfl⟩
  rw [← hlo] at hS ⊢
  unfold sp_t2_skipBlock at hsp
  refine lv_iconst (v := 0) hx hb dX2_skipBlock_0 (by decide) ?_
  refine lv_istore_n (lv' := [(1, .int 0), (0, .ref h0)]) hx hb dX2_skipBlock_1 rfl hl (by decide) rfl (fun ls hl => ?_)
  refine lv_iconst (v := 1) hx hb dX2_skipBlock_2 (by decide) ?_
  refine lv_istore_n (lv' := [(2, .int 1), (1, .int 0), (0, .ref h0)]) hx hb dX2_skipBlock_3 rfl hl (by decide) rfl (fun ls hl => ?_)
  refine lv_iconst (v := 0) hx hb dX2_skipBlock_4 (by decide) ?_
  refine lv_istore_n (lv' := [(3, .int 0), (2, .int 1), (1, .int 0), (0, .ref h0)]) hx hb dX2_skipBlock_5 rfl hl (by decide) rfl (fun ls hl => ?_)
  replace hP := hP.sub (ws' := [(h0, .inr (2, [.ref qf0, .ref qf1, .int v2, .ref qf3, .ref qf4, .ref qf5, .ref qf6, .ref qf7, .ref qf8, .ref qf9, .ref qf10, .ref qf11, .ref qf12, .ref qf13, .ref qf14, .ref qf15, .ref qf16, .ref qf17, .ref qf18, .ref qf19, .int v20])), (qf0, .inr (9, [.ref qf0_0, .ref qf0_1, .ref qf0_2, .int v0_3, .ref qf0_4, .ref qf0_5, .ref qf0_6, .ref qf0_7, .ref qf0_8, .int v0_9, .int v0_10, .int v0_11, .int v0_12])), (qf0_0, .inl (cf0_0, 3001, .inl f0_0))]) [0, 1, 2] rfl
  replace hD := hD.sub (ws' := [(h0, .inr (2, [.ref qf0, .ref qf1, .int v2, .ref qf3, .ref qf4, .ref qf5, .ref qf6, .ref qf7, .ref qf8, .ref qf9, .ref qf10, .ref qf11, .ref qf12, .ref qf13, .ref qf14, .ref qf15, .ref qf16, .ref qf17, .ref qf18, .ref qf19, .int v20])), (qf0, .inr (9, [.ref qf0_0, .ref qf0_1, .ref qf0_2, .int v0_3, .ref qf0_4, .ref qf0_5, .ref qf0_6, .ref qf0_7, .ref qf0_8, .int v0_9, .int v0_10, .int v0_11, .int v0_12])), (qf0_0, .inl (cf0_0, 3001, .inl f0_0))]) [0, 1, 2] (by decide) rfl
  replace hK := hK.sub (tys' := [(cf0_0, .int)]) [0] rfl
  obtain ⟨n_6, hn_6⟩ : ∃ z : Nat, z = nf := ⟨_, rfl⟩
  obtain ⟨l1_6, el1_6⟩ : ∃ z : Int32, z = 0 := ⟨_, rfl⟩
  obtain ⟨l2_6, el2_6⟩ : ∃ z : Int32, z = 1 := ⟨_, rfl⟩
  obtain ⟨l3_6, el3_6⟩ : ∃ z : Int32, z = 0 := ⟨_, rfl⟩
  obtain ⟨x0_10_6, ex0_10_6⟩ : ∃ z : Int32, z = v0_10 := ⟨_, rfl⟩
  replace hsp : lp_t2_skipBlock_6 nf n_6 v0_3 v0_10 v0_11 f0_0 l1_6 l2_6 l3_6 x0_10_6 = some w0_10 := by rw [hn_6, el1_6, el2_6, el3_6, ex0_10_6]; exact hsp
  replace hl : lv_has ls 4 [(3, .int l3_6), (2, .int l2_6), (1, .int l1_6), (0, .ref h0)] := by rw [el1_6, el2_6, el3_6]; exact hl
  replace hP : va_P (dC, dI) vwCl [(h0, .inr (2, [.ref qf0, .ref qf1, .int v2, .ref qf3, .ref qf4, .ref qf5, .ref qf6, .ref qf7, .ref qf8, .ref qf9, .ref qf10, .ref qf11, .ref qf12, .ref qf13, .ref qf14, .ref qf15, .ref qf16, .ref qf17, .ref qf18, .ref qf19, .int v20])), (qf0, .inr (9, [.ref qf0_0, .ref qf0_1, .ref qf0_2, .int v0_3, .ref qf0_4, .ref qf0_5, .ref qf0_6, .ref qf0_7, .ref qf0_8, .int v0_9, .int x0_10_6, .int v0_11, .int v0_12])), (qf0_0, .inl (cf0_0, 3001, .inl f0_0))] H := by rw [ex0_10_6]; exact hP
  replace hD : va_D A [(h0, .inr (2, [.ref qf0, .ref qf1, .int v2, .ref qf3, .ref qf4, .ref qf5, .ref qf6, .ref qf7, .ref qf8, .ref qf9, .ref qf10, .ref qf11, .ref qf12, .ref qf13, .ref qf14, .ref qf15, .ref qf16, .ref qf17, .ref qf18, .ref qf19, .int v20])), (qf0, .inr (9, [.ref qf0_0, .ref qf0_1, .ref qf0_2, .int v0_3, .ref qf0_4, .ref qf0_5, .ref qf0_6, .ref qf0_7, .ref qf0_8, .int v0_9, .int x0_10_6, .int v0_11, .int v0_12])), (qf0_0, .inl (cf0_0, 3001, .inl f0_0))] := by rw [ex0_10_6]; exact hD
  clear hn_6 el1_6 el2_6 el3_6 ex0_10_6
  try clear hlo
  try clear hH
  revert hsp
  revert hP
  revert hD
  revert hS
  revert hl
  revert x0_10_6
  revert l3_6
  revert l2_6
  revert l1_6
  revert ls
  revert locs
  revert H
  induction n_6 with
  | zero => intro H locs ls l1_6 l2_6 l3_6 x0_10_6 hl hS hD hP hsp; unfold lp_t2_skipBlock_6 at hsp; cases hsp
  | succ n_6 ih_6 =>
    intro H locs ls l1_6 l2_6 l3_6 x0_10_6 hl hS hD hP hsp
    unfold lp_t2_skipBlock_6 at hsp
    try dsimp only at hsp
    refine lv_iload_n hx hb dX2_skipBlock_6 rfl (lv_at hl 0 rfl) ?_
    refine lv_sipush (v := 3000) hx hb dX2_skipBlock_7 (by decide) ?_
    refine lv_icmp_ge (tgt := 89) hx hb dX2_skipBlock_10 (by decide) (fun c_1 => ?_) (fun c_1 => ?_)
    · rw [if_pos c_1] at hsp
      have hr0 := Option.some.inj hsp
      clear hsp
      subst hr0
      have hP9 := hP.sub (ws' := [(h0, .inr (2, [.ref qf0, .ref qf1, .int v2, .ref qf3, .ref qf4, .ref qf5, .ref qf6, .ref qf7, .ref qf8, .ref qf9, .ref qf10, .ref qf11, .ref qf12, .ref qf13, .ref qf14, .ref qf15, .ref qf16, .ref qf17, .ref qf18, .ref qf19, .int v20])), (qf0, .inr (9, [.ref qf0_0, .ref qf0_1, .ref qf0_2, .int v0_3, .ref qf0_4, .ref qf0_5, .ref qf0_6, .ref qf0_7, .ref qf0_8, .int v0_9, .int x0_10_6, .int v0_11, .int v0_12])), (qf0_0, .inl (cf0_0, 3001, .inl f0_0))]) [0, 1, 2] rfl
      have hD9 := hD.sub (ws' := [(h0, .inr (2, [.ref qf0, .ref qf1, .int v2, .ref qf3, .ref qf4, .ref qf5, .ref qf6, .ref qf7, .ref qf8, .ref qf9, .ref qf10, .ref qf11, .ref qf12, .ref qf13, .ref qf14, .ref qf15, .ref qf16, .ref qf17, .ref qf18, .ref qf19, .int v20])), (qf0, .inr (9, [.ref qf0_0, .ref qf0_1, .ref qf0_2, .int v0_3, .ref qf0_4, .ref qf0_5, .ref qf0_6, .ref qf0_7, .ref qf0_8, .int v0_9, .int x0_10_6, .int v0_11, .int v0_12])), (qf0_0, .inl (cf0_0, 3001, .inl f0_0))]) [0, 1, 2] (by decide) rfl
      have hK9 := hK.sub (tys' := [(cf0_0, .int)]) [0] rfl
      exact W.vret hx hb hr (fun t ht hW => ⟨⟨(), rfl, trivial, by rw [ht]; exact hP9, va_K.moved hW.alike hK9, hD9⟩, hS.F ht⟩) hS.2.2 dX2_skipBlock_89
    · rw [if_neg c_1] at hsp
      refine lv_iload_n hx hb dX2_skipBlock_13 rfl (lv_at hl 1 rfl) ?_
      refine lv_if_eq (tgt := 89) hx hb dX2_skipBlock_14 (by decide) (fun c_2 => ?_) (fun c_2 => ?_)
      · rw [if_pos c_2] at hsp
        have hr0 := Option.some.inj hsp
        clear hsp
        subst hr0
        have hP9 := hP.sub (ws' := [(h0, .inr (2, [.ref qf0, .ref qf1, .int v2, .ref qf3, .ref qf4, .ref qf5, .ref qf6, .ref qf7, .ref qf8, .ref qf9, .ref qf10, .ref qf11, .ref qf12, .ref qf13, .ref qf14, .ref qf15, .ref qf16, .ref qf17, .ref qf18, .ref qf19, .int v20])), (qf0, .inr (9, [.ref qf0_0, .ref qf0_1, .ref qf0_2, .int v0_3, .ref qf0_4, .ref qf0_5, .ref qf0_6, .ref qf0_7, .ref qf0_8, .int v0_9, .int x0_10_6, .int v0_11, .int v0_12])), (qf0_0, .inl (cf0_0, 3001, .inl f0_0))]) [0, 1, 2] rfl
        have hD9 := hD.sub (ws' := [(h0, .inr (2, [.ref qf0, .ref qf1, .int v2, .ref qf3, .ref qf4, .ref qf5, .ref qf6, .ref qf7, .ref qf8, .ref qf9, .ref qf10, .ref qf11, .ref qf12, .ref qf13, .ref qf14, .ref qf15, .ref qf16, .ref qf17, .ref qf18, .ref qf19, .int v20])), (qf0, .inr (9, [.ref qf0_0, .ref qf0_1, .ref qf0_2, .int v0_3, .ref qf0_4, .ref qf0_5, .ref qf0_6, .ref qf0_7, .ref qf0_8, .int v0_9, .int x0_10_6, .int v0_11, .int v0_12])), (qf0_0, .inl (cf0_0, 3001, .inl f0_0))]) [0, 1, 2] (by decide) rfl
        have hK9 := hK.sub (tys' := [(cf0_0, .int)]) [0] rfl
        exact W.vret hx hb hr (fun t ht hW => ⟨⟨(), rfl, trivial, by rw [ht]; exact hP9, va_K.moved hW.alike hK9, hD9⟩, hS.F ht⟩) hS.2.2 dX2_skipBlock_89
      · rw [if_neg c_2] at hsp
        refine lv_aload_n hx hb dX2_skipBlock_17 rfl (lv_at hl 3 rfl) ?_
        refine va_get (D := (dC, dI)) (ci := 2) (v := .ref qf0) (C := RX2) (T := TX2) (N := 21) hx hb hts uV_h4_X2 hown hK hP 0 rfl rfl 0 (by decide) (hts (.fieldLink RX2 74 "ClassMill$Heads" "text" "LClassMill$Text;") mw_h4_145) (fun _ h9 => h9) rfl dX2_skipBlock_18 ?_
        obtain ⟨u1_0, hu_1, hsp⟩ := ox_bind hsp
        try dsimp only at hsp
        have hPc := hP.sub (ws' := [(qf0, .inr (9, [.ref qf0_0, .ref qf0_1, .ref qf0_2, .int v0_3, .ref qf0_4, .ref qf0_5, .ref qf0_6, .ref qf0_7, .ref qf0_8, .int v0_9, .int x0_10_6, .int v0_11, .int v0_12])), (qf0_0, .inl (cf0_0, 3001, .inl f0_0))]) [1, 2] rfl
        have hDc := hD.sub (ws' := [(qf0, .inr (9, [.ref qf0_0, .ref qf0_1, .ref qf0_2, .int v0_3, .ref qf0_4, .ref qf0_5, .ref qf0_6, .ref qf0_7, .ref qf0_8, .int v0_9, .int x0_10_6, .int v0_11, .int v0_12])), (qf0_0, .inl (cf0_0, 3001, .inl f0_0))]) [1, 2] (by decide) rfl
        have hKc := hK.sub (tys' := [(cf0_0, .int)]) [0] rfl
        have hFc := va_free (wc := [(qf0, .inr (9, [.ref qf0_0, .ref qf0_1, .ref qf0_2, .int v0_3, .ref qf0_4, .ref qf0_5, .ref qf0_6, .ref qf0_7, .ref qf0_8, .int v0_9, .int x0_10_6, .int v0_11, .int v0_12])), (qf0_0, .inl (cf0_0, 3001, .inl f0_0))]) hD hS hA [1, 2] rfl
        refine va_calli (va_runV (As := []) (rest := []) ⟨hx, hb, hml, hown, hts⟩ (t9_kind l dC dI H.size qf0 qf0_0 qf0_1 qf0_2 v0_3 qf0_4 qf0_5 qf0_6 qf0_7 qf0_8 v0_9 x0_10_6 v0_11 v0_12 cf0_0 f0_0 nf u1_0 hu_1) (cwV 0 hts gv_h4_32 rfl rfl rfl (by decide +kernel) ⟨Nat.le_of_ble_eq_true rfl, Nat.le_of_ble_eq_true rfl⟩) ⟨fun a U g mk q => by obtain ⟨q0, q1, qP, qK, qD⟩ := q; exact ⟨q0, q1, qP, va_K.moved (u := U) (U := U.calling g mk a) (Vm.Alike.refl U.vm) qK, qD⟩, va_recv hKc hPc (ci := 9) (q0 := 0) rfl rfl, fun U hU hW => ⟨rfl, by rw [hU], by rw [hU]; exact hPc, va_K.moved hW.alike hKc, hDc.weaken (fun _ _ _ _ => trivial)⟩⟩ rfl rfl hl.1 rfl (lv_room (Nat.le_of_ble_eq_true rfl)) dX2_skipBlock_21 ⟨Nat.le_of_ble_eq_true rfl, Nat.le_of_ble_eq_true rfl⟩) hS (fun q _ h => hFc q h) hFc ?_
        clear hS
        intro r_3 u t H1 locs ht hvm hw hB hz1 hk1 hS
        obtain ⟨⟩ := u
        obtain ⟨hP1, hK1, hD1⟩ := hB
        rw [ht] at hP1
        have hK1 := va_K.moved hvm.symm hK1
        try dsimp only at hw
        have hPD := va_join (wr := [(h0, .inr (2, [.ref qf0, .ref qf1, .int v2, .ref qf3, .ref qf4, .ref qf5, .ref qf6, .ref qf7, .ref qf8, .ref qf9, .ref qf10, .ref qf11, .ref qf12, .ref qf13, .ref qf14, .ref qf15, .ref qf16, .ref qf17, .ref qf18, .ref qf19, .int v20]))]) (w1 := [(qf0, .inr (9, [.ref qf0_0, .ref qf0_1, .ref qf0_2, .int v0_3, .ref qf0_4, .ref qf0_5, .ref qf0_6, .ref qf0_7, .ref qf0_8, .int v0_9, .int x0_10_6, .int v0_11, .int v0_12])), (qf0_0, .inl (cf0_0, 3001, .inl f0_0))]) hP hD [1, 2] [0] rfl rfl (by decide) (by decide) hk1 hFc hP1 hD1
        clear hP hD
        obtain ⟨hP, hD⟩ := hPD
        replace hK := (hK.sub (tys' := []) [] rfl).app hK1
        clear hPc hDc hKc hFc hP1 hK1 hD1 hz1 hk1 ht hvm
        generalize H1 = H at hP hS ⊢
        replace hP : va_P (dC, dI) vwCl [(h0, .inr (2, [.ref qf0, .ref qf1, .int v2, .ref qf3, .ref qf4, .ref qf5, .ref qf6, .ref qf7, .ref qf8, .ref qf9, .ref qf10, .ref qf11, .ref qf12, .ref qf13, .ref qf14, .ref qf15, .ref qf16, .ref qf17, .ref qf18, .ref qf19, .int v20])), (qf0, .inr (9, [.ref qf0_0, .ref qf0_1, .ref qf0_2, .int v0_3, .ref qf0_4, .ref qf0_5, .ref qf0_6, .ref qf0_7, .ref qf0_8, .int v0_9, .int x0_10_6, .int v0_11, .int v0_12])), (qf0_0, .inl (cf0_0, 3001, .inl f0_0))] H := hP
        replace hD : va_D A [(h0, .inr (2, [.ref qf0, .ref qf1, .int v2, .ref qf3, .ref qf4, .ref qf5, .ref qf6, .ref qf7, .ref qf8, .ref qf9, .ref qf10, .ref qf11, .ref qf12, .ref qf13, .ref qf14, .ref qf15, .ref qf16, .ref qf17, .ref qf18, .ref qf19, .int v20])), (qf0, .inr (9, [.ref qf0_0, .ref qf0_1, .ref qf0_2, .int v0_3, .ref qf0_4, .ref qf0_5, .ref qf0_6, .ref qf0_7, .ref qf0_8, .int v0_9, .int x0_10_6, .int v0_11, .int v0_12])), (qf0_0, .inl (cf0_0, 3001, .inl f0_0))] := hD
        replace hK : va_K (dC, dI) vwCl [(cf0_0, .int)] s := hK
        obtain rfl := hw
        refine lv_if_eq (tgt := 89) hx hb dX2_skipBlock_24 (by decide) (fun c_4 => ?_) (fun c_4 => ?_)
        · rw [if_pos c_4] at hsp
          have hr0 := Option.some.inj hsp
          clear hsp
          subst hr0
          have hP9 := hP.sub (ws' := [(h0, .inr (2, [.ref qf0, .ref qf1, .int v2, .ref qf3, .ref qf4, .ref qf5, .ref qf6, .ref qf7, .ref qf8, .ref qf9, .ref qf10, .ref qf11, .ref qf12, .ref qf13, .ref qf14, .ref qf15, .ref qf16, .ref qf17, .ref qf18, .ref qf19, .int v20])), (qf0, .inr (9, [.ref qf0_0, .ref qf0_1, .ref qf0_2, .int v0_3, .ref qf0_4, .ref qf0_5, .ref qf0_6, .ref qf0_7, .ref qf0_8, .int v0_9, .int x0_10_6, .int v0_11, .int v0_12])), (qf0_0, .inl (cf0_0, 3001, .inl f0_0))]) [0, 1, 2] rfl
          have hD9 := hD.sub (ws' := [(h0, .inr (2, [.ref qf0, .ref qf1, .int v2, .ref qf3, .ref qf4, .ref qf5, .ref qf6, .ref qf7, .ref qf8, .ref qf9, .ref qf10, .ref qf11, .ref qf12, .ref qf13, .ref qf14, .ref qf15, .ref qf16, .ref qf17, .ref qf18, .ref qf19, .int v20])), (qf0, .inr (9, [.ref qf0_0, .ref qf0_1, .ref qf0_2, .int v0_3, .ref qf0_4, .ref qf0_5, .ref qf0_6, .ref qf0_7, .ref qf0_8, .int v0_9, .int x0_10_6, .int v0_11, .int v0_12])), (qf0_0, .inl (cf0_0, 3001, .inl f0_0))]) [0, 1, 2] (by decide) rfl
          have hK9 := hK.sub (tys' := [(cf0_0, .int)]) [0] rfl
          exact W.vret hx hb hr (fun t ht hW => ⟨⟨(), rfl, trivial, by rw [ht]; exact hP9, va_K.moved hW.alike hK9, hD9⟩, hS.F ht⟩) hS.2.2 dX2_skipBlock_89
        · rw [if_neg c_4] at hsp
          refine lv_aload_n hx hb dX2_skipBlock_27 rfl (lv_at hl 3 rfl) ?_
          refine va_get (D := (dC, dI)) (ci := 2) (v := .ref qf0) (C := RX2) (T := TX2) (N := 21) hx hb hts uV_h4_X2 hown hK hP 0 rfl rfl 0 (by decide) (hts (.fieldLink RX2 74 "ClassMill$Heads" "text" "LClassMill$Text;") mw_h4_145) (fun _ h9 => h9) rfl dX2_skipBlock_28 ?_
          obtain ⟨u2_0, hu_2, hsp⟩ := ox_bind hsp
          try dsimp only at hsp
          have hPc := hP.sub (ws' := [(qf0, .inr (9, [.ref qf0_0, .ref qf0_1, .ref qf0_2, .int v0_3, .ref qf0_4, .ref qf0_5, .ref qf0_6, .ref qf0_7, .ref qf0_8, .int v0_9, .int x0_10_6, .int v0_11, .int v0_12])), (qf0_0, .inl (cf0_0, 3001, .inl f0_0))]) [1, 2] rfl
          have hDc := hD.sub (ws' := [(qf0, .inr (9, [.ref qf0_0, .ref qf0_1, .ref qf0_2, .int v0_3, .ref qf0_4, .ref qf0_5, .ref qf0_6, .ref qf0_7, .ref qf0_8, .int v0_9, .int x0_10_6, .int v0_11, .int v0_12])), (qf0_0, .inl (cf0_0, 3001, .inl f0_0))]) [1, 2] (by decide) rfl
          have hKc := hK.sub (tys' := [(cf0_0, .int)]) [0] rfl
          have hFc := va_free (wc := [(qf0, .inr (9, [.ref qf0_0, .ref qf0_1, .ref qf0_2, .int v0_3, .ref qf0_4, .ref qf0_5, .ref qf0_6, .ref qf0_7, .ref qf0_8, .int v0_9, .int x0_10_6, .int v0_11, .int v0_12])), (qf0_0, .inl (cf0_0, 3001, .inl f0_0))]) hD hS hA [1, 2] rfl
          refine va_calli (va_runV (As := []) (rest := []) ⟨hx, hb, hml, hown, hts⟩ (t9_kind l dC dI H.size qf0 qf0_0 qf0_1 qf0_2 v0_3 qf0_4 qf0_5 qf0_6 qf0_7 qf0_8 v0_9 x0_10_6 v0_11 v0_12 cf0_0 f0_0 nf u2_0 hu_2) (cwV 0 hts gv_h4_32 rfl rfl rfl (by decide +kernel) ⟨Nat.le_of_ble_eq_true rfl, Nat.le_of_ble_eq_true rfl⟩) ⟨fun a U g mk q => by obtain ⟨q0, q1, qP, qK, qD⟩ := q; exact ⟨q0, q1, qP, va_K.moved (u := U) (U := U.calling g mk a) (Vm.Alike.refl U.vm) qK, qD⟩, va_recv hKc hPc (ci := 9) (q0 := 0) rfl rfl, fun U hU hW => ⟨rfl, by rw [hU], by rw [hU]; exact hPc, va_K.moved hW.alike hKc, hDc.weaken (fun _ _ _ _ => trivial)⟩⟩ rfl rfl hl.1 rfl (lv_room (Nat.le_of_ble_eq_true rfl)) dX2_skipBlock_31 ⟨Nat.le_of_ble_eq_true rfl, Nat.le_of_ble_eq_true rfl⟩) hS (fun q _ h => hFc q h) hFc ?_
          clear hS
          intro r_5 u t H1 locs ht hvm hw hB hz1 hk1 hS
          obtain ⟨⟩ := u
          obtain ⟨hP1, hK1, hD1⟩ := hB
          rw [ht] at hP1
          have hK1 := va_K.moved hvm.symm hK1
          try dsimp only at hw
          have hPD := va_join (wr := [(h0, .inr (2, [.ref qf0, .ref qf1, .int v2, .ref qf3, .ref qf4, .ref qf5, .ref qf6, .ref qf7, .ref qf8, .ref qf9, .ref qf10, .ref qf11, .ref qf12, .ref qf13, .ref qf14, .ref qf15, .ref qf16, .ref qf17, .ref qf18, .ref qf19, .int v20]))]) (w1 := [(qf0, .inr (9, [.ref qf0_0, .ref qf0_1, .ref qf0_2, .int v0_3, .ref qf0_4, .ref qf0_5, .ref qf0_6, .ref qf0_7, .ref qf0_8, .int v0_9, .int x0_10_6, .int v0_11, .int v0_12])), (qf0_0, .inl (cf0_0, 3001, .inl f0_0))]) hP hD [1, 2] [0] rfl rfl (by decide) (by decide) hk1 hFc hP1 hD1
          clear hP hD
          obtain ⟨hP, hD⟩ := hPD
          replace hK := (hK.sub (tys' := []) [] rfl).app hK1
          clear hPc hDc hKc hFc hP1 hK1 hD1 hz1 hk1 ht hvm
          generalize H1 = H at hP hS ⊢
          replace hP : va_P (dC, dI) vwCl [(h0, .inr (2, [.ref qf0, .ref qf1, .int v2, .ref qf3, .ref qf4, .ref qf5, .ref qf6, .ref qf7, .ref qf8, .ref qf9, .ref qf10, .ref qf11, .ref qf12, .ref qf13, .ref qf14, .ref qf15, .ref qf16, .ref qf17, .ref qf18, .ref qf19, .int v20])), (qf0, .inr (9, [.ref qf0_0, .ref qf0_1, .ref qf0_2, .int v0_3, .ref qf0_4, .ref qf0_5, .ref qf0_6, .ref qf0_7, .ref qf0_8, .int v0_9, .int x0_10_6, .int v0_11, .int v0_12])), (qf0_0, .inl (cf0_0, 3001, .inl f0_0))] H := hP
          replace hD : va_D A [(h0, .inr (2, [.ref qf0, .ref qf1, .int v2, .ref qf3, .ref qf4, .ref qf5, .ref qf6, .ref qf7, .ref qf8, .ref qf9, .ref qf10, .ref qf11, .ref qf12, .ref qf13, .ref qf14, .ref qf15, .ref qf16, .ref qf17, .ref qf18, .ref qf19, .int v20])), (qf0, .inr (9, [.ref qf0_0, .ref qf0_1, .ref qf0_2, .int v0_3, .ref qf0_4, .ref qf0_5, .ref qf0_6, .ref qf0_7, .ref qf0_8, .int v0_9, .int x0_10_6, .int v0_11, .int v0_12])), (qf0_0, .inl (cf0_0, 3001, .inl f0_0))] := hD
          replace hK : va_K (dC, dI) vwCl [(cf0_0, .int)] s := hK
          obtain rfl := hw
          refine lv_bipush (v := 42) hx hb dX2_skipBlock_34 (by decide) ?_
          refine lv_icmp_ne (tgt := 45) hx hb dX2_skipBlock_36 (by decide) (fun c_6 => ?_) (fun c_6 => ?_)
          · rw [if_neg c_6] at hsp
            refine lv_aload_n hx hb dX2_skipBlock_45 rfl (lv_at hl 3 rfl) ?_
            refine va_get (D := (dC, dI)) (ci := 2) (v := .ref qf0) (C := RX2) (T := TX2) (N := 21) hx hb hts uV_h4_X2 hown hK hP 0 rfl rfl 0 (by decide) (hts (.fieldLink RX2 74 "ClassMill$Heads" "text" "LClassMill$Text;") mw_h4_145) (fun _ h9 => h9) rfl dX2_skipBlock_46 ?_
            obtain ⟨u3_0, hu_3, hsp⟩ := ox_bind hsp
            try dsimp only at hsp
            have hPc := hP.sub (ws' := [(qf0, .inr (9, [.ref qf0_0, .ref qf0_1, .ref qf0_2, .int v0_3, .ref qf0_4, .ref qf0_5, .ref qf0_6, .ref qf0_7, .ref qf0_8, .int v0_9, .int x0_10_6, .int v0_11, .int v0_12])), (qf0_0, .inl (cf0_0, 3001, .inl f0_0))]) [1, 2] rfl
            have hDc := hD.sub (ws' := [(qf0, .inr (9, [.ref qf0_0, .ref qf0_1, .ref qf0_2, .int v0_3, .ref qf0_4, .ref qf0_5, .ref qf0_6, .ref qf0_7, .ref qf0_8, .int v0_9, .int x0_10_6, .int v0_11, .int v0_12])), (qf0_0, .inl (cf0_0, 3001, .inl f0_0))]) [1, 2] (by decide) rfl
            have hKc := hK.sub (tys' := [(cf0_0, .int)]) [0] rfl
            have hFc := va_free (wc := [(qf0, .inr (9, [.ref qf0_0, .ref qf0_1, .ref qf0_2, .int v0_3, .ref qf0_4, .ref qf0_5, .ref qf0_6, .ref qf0_7, .ref qf0_8, .int v0_9, .int x0_10_6, .int v0_11, .int v0_12])), (qf0_0, .inl (cf0_0, 3001, .inl f0_0))]) hD hS hA [1, 2] rfl
            refine va_calli (va_runV (As := []) (rest := []) ⟨hx, hb, hml, hown, hts⟩ (t9_kind l dC dI H.size qf0 qf0_0 qf0_1 qf0_2 v0_3 qf0_4 qf0_5 qf0_6 qf0_7 qf0_8 v0_9 x0_10_6 v0_11 v0_12 cf0_0 f0_0 nf u3_0 hu_3) (cwV 0 hts gv_h4_32 rfl rfl rfl (by decide +kernel) ⟨Nat.le_of_ble_eq_true rfl, Nat.le_of_ble_eq_true rfl⟩) ⟨fun a U g mk q => by obtain ⟨q0, q1, qP, qK, qD⟩ := q; exact ⟨q0, q1, qP, va_K.moved (u := U) (U := U.calling g mk a) (Vm.Alike.refl U.vm) qK, qD⟩, va_recv hKc hPc (ci := 9) (q0 := 0) rfl rfl, fun U hU hW => ⟨rfl, by rw [hU], by rw [hU]; exact hPc, va_K.moved hW.alike hKc, hDc.weaken (fun _ _ _ _ => trivial)⟩⟩ rfl rfl hl.1 rfl (lv_room (Nat.le_of_ble_eq_true rfl)) dX2_skipBlock_49 ⟨Nat.le_of_ble_eq_true rfl, Nat.le_of_ble_eq_true rfl⟩) hS (fun q _ h => hFc q h) hFc ?_
            clear hS
            intro r_7 u t H1 locs ht hvm hw hB hz1 hk1 hS
            obtain ⟨⟩ := u
            obtain ⟨hP1, hK1, hD1⟩ := hB
            rw [ht] at hP1
            have hK1 := va_K.moved hvm.symm hK1
            try dsimp only at hw
            have hPD := va_join (wr := [(h0, .inr (2, [.ref qf0, .ref qf1, .int v2, .ref qf3, .ref qf4, .ref qf5, .ref qf6, .ref qf7, .ref qf8, .ref qf9, .ref qf10, .ref qf11, .ref qf12, .ref qf13, .ref qf14, .ref qf15, .ref qf16, .ref qf17, .ref qf18, .ref qf19, .int v20]))]) (w1 := [(qf0, .inr (9, [.ref qf0_0, .ref qf0_1, .ref qf0_2, .int v0_3, .ref qf0_4, .ref qf0_5, .ref qf0_6, .ref qf0_7, .ref qf0_8, .int v0_9, .int x0_10_6, .int v0_11, .int v0_12])), (qf0_0, .inl (cf0_0, 3001, .inl f0_0))]) hP hD [1, 2] [0] rfl rfl (by decide) (by decide) hk1 hFc hP1 hD1
            clear hP hD
            obtain ⟨hP, hD⟩ := hPD
            replace hK := (hK.sub (tys' := []) [] rfl).app hK1
            clear hPc hDc hKc hFc hP1 hK1 hD1 hz1 hk1 ht hvm
            generalize H1 = H at hP hS ⊢
            replace hP : va_P (dC, dI) vwCl [(h0, .inr (2, [.ref qf0, .ref qf1, .int v2, .ref qf3, .ref qf4, .ref qf5, .ref qf6, .ref qf7, .ref qf8, .ref qf9, .ref qf10, .ref qf11, .ref qf12, .ref qf13, .ref qf14, .ref qf15, .ref qf16, .ref qf17, .ref qf18, .ref qf19, .int v20])), (qf0, .inr (9, [.ref qf0_0, .ref qf0_1, .ref qf0_2, .int v0_3, .ref qf0_4, .ref qf0_5, .ref qf0_6, .ref qf0_7, .ref qf0_8, .int v0_9, .int x0_10_6, .int v0_11, .int v0_12])), (qf0_0, .inl (cf0_0, 3001, .inl f0_0))] H := hP
            replace hD : va_D A [(h0, .inr (2, [.ref qf0, .ref qf1, .int v2, .ref qf3, .ref qf4, .ref qf5, .ref qf6, .ref qf7, .ref qf8, .ref qf9, .ref qf10, .ref qf11, .ref qf12, .ref qf13, .ref qf14, .ref qf15, .ref qf16, .ref qf17, .ref qf18, .ref qf19, .int v20])), (qf0, .inr (9, [.ref qf0_0, .ref qf0_1, .ref qf0_2, .int v0_3, .ref qf0_4, .ref qf0_5, .ref qf0_6, .ref qf0_7, .ref qf0_8, .int v0_9, .int x0_10_6, .int v0_11, .int v0_12])), (qf0_0, .inl (cf0_0, 3001, .inl f0_0))] := hD
            replace hK : va_K (dC, dI) vwCl [(cf0_0, .int)] s := hK
            obtain rfl := hw
            refine lv_bipush (v := 43) hx hb dX2_skipBlock_52 (by decide) ?_
            refine lv_icmp_ne (tgt := 60) hx hb dX2_skipBlock_54 (by decide) (fun c_8 => ?_) (fun c_8 => ?_)
            · rw [if_neg c_8] at hsp
              refine lv_aload_n hx hb dX2_skipBlock_60 rfl (lv_at hl 3 rfl) ?_
              refine va_get (D := (dC, dI)) (ci := 2) (v := .ref qf0) (C := RX2) (T := TX2) (N := 21) hx hb hts uV_h4_X2 hown hK hP 0 rfl rfl 0 (by decide) (hts (.fieldLink RX2 74 "ClassMill$Heads" "text" "LClassMill$Text;") mw_h4_145) (fun _ h9 => h9) rfl dX2_skipBlock_61 ?_
              refine lv_dup hx hb dX2_skipBlock_64 rfl ?_
              refine va_get (D := (dC, dI)) (ci := 9) (v := .int x0_10_6) (C := RX9) (T := TX9) (N := 13) hx hb hts uV_h4_X9 hown hK hP 1 rfl rfl 10 (by decide) (hts (.fieldLink RX2 118 "ClassMill$Text" "pos" "I") mw_h4_165) (fun _ h9 => h9) rfl dX2_skipBlock_65 ?_
              refine lv_iconst (v := 1) hx hb dX2_skipBlock_68 (by decide) ?_
              refine lv_iadd hx hb dX2_skipBlock_69 ?_
              refine va_put (D := (dC, dI)) (ci := 9) (v := .int (x0_10_6 + 1)) (ty := .int) (C := RX9) (T := TX9) (N := 13) hx hb hts uV_h4_X9 tyX9 tyX9_ok nmX9 hown hK hP hD hS 1 rfl rfl 10 (by decide) (hts (.fieldLink RX2 118 "ClassMill$Text" "pos" "I") mw_h4_165) (fun _ h9 => h9) rfl (by decide +kernel) rfl rfl (Nat.le_of_ble_eq_true rfl) dX2_skipBlock_70 ?_
              clear hP hD hS
              intro H locs hP hD hS
              replace hP : va_P (dC, dI) vwCl [(h0, .inr (2, [.ref qf0, .ref qf1, .int v2, .ref qf3, .ref qf4, .ref qf5, .ref qf6, .ref qf7, .ref qf8, .ref qf9, .ref qf10, .ref qf11, .ref qf12, .ref qf13, .ref qf14, .ref qf15, .ref qf16, .ref qf17, .ref qf18, .ref qf19, .int v20])), (qf0, .inr (9, [.ref qf0_0, .ref qf0_1, .ref qf0_2, .int v0_3, .ref qf0_4, .ref qf0_5, .ref qf0_6, .ref qf0_7, .ref qf0_8, .int v0_9, .int (x0_10_6 + 1), .int v0_11, .int v0_12])), (qf0_0, .inl (cf0_0, 3001, .inl f0_0))] H := hP
              replace hD : va_D A [(h0, .inr (2, [.ref qf0, .ref qf1, .int v2, .ref qf3, .ref qf4, .ref qf5, .ref qf6, .ref qf7, .ref qf8, .ref qf9, .ref qf10, .ref qf11, .ref qf12, .ref qf13, .ref qf14, .ref qf15, .ref qf16, .ref qf17, .ref qf18, .ref qf19, .int v20])), (qf0, .inr (9, [.ref qf0_0, .ref qf0_1, .ref qf0_2, .int v0_3, .ref qf0_4, .ref qf0_5, .ref qf0_6, .ref qf0_7, .ref qf0_8, .int v0_9, .int (x0_10_6 + 1), .int v0_11, .int v0_12])), (qf0_0, .inl (cf0_0, 3001, .inl f0_0))] := hD
              refine lv_iload_n hx hb dX2_skipBlock_73 rfl (lv_at hl 2 rfl) ?_
              refine lv_if_le (tgt := 81) hx hb dX2_skipBlock_74 (by decide) (fun c_9 => ?_) (fun c_9 => ?_)
              · rw [if_pos c_9] at hsp
                refine lv_iconst (v := 0) hx hb dX2_skipBlock_81 (by decide) ?_
                refine lv_istore_n (lv' := [(2, .int 0), (3, .int l3_6), (1, .int l1_6), (0, .ref h0)]) hx hb dX2_skipBlock_82 rfl hl (by decide) rfl (fun ls hl => ?_)
                refine lv_iinc (v := (l3_6 + 1)) (lv' := [(3, .int (l3_6 + 1)), (2, .int 0), (1, .int l1_6), (0, .ref h0)]) hx hb dX2_skipBlock_83 hl (k := 1) rfl rfl (by decide) rfl (fun ls hl => ?_)
                refine lv_goto (tgt := 6) hx hb dX2_skipBlock_86 (by decide) ?_
                exact ih_6 H locs ls l1_6 0 (l3_6 + 1) (x0_10_6 + 1) (lv_sub hl [0, 1, 2, 3] rfl) hS (hD.sub (ws' := [(h0, .inr (2, [.ref qf0, .ref qf1, .int v2, .ref qf3, .ref qf4, .ref qf5, .ref qf6, .ref qf7, .ref qf8, .ref qf9, .ref qf10, .ref qf11, .ref qf12, .ref qf13, .ref qf14, .ref qf15, .ref qf16, .ref qf17, .ref qf18, .ref qf19, .int v20])), (qf0, .inr (9, [.ref qf0_0, .ref qf0_1, .ref qf0_2, .int v0_3, .ref qf0_4, .ref qf0_5, .ref qf0_6, .ref qf0_7, .ref qf0_8, .int v0_9, .int (x0_10_6 + 1), .int v0_11, .int v0_12])), (qf0_0, .inl (cf0_0, 3001, .inl f0_0))]) [0, 1, 2] (by decide) rfl) (hP.sub (ws' := [(h0, .inr (2, [.ref qf0, .ref qf1, .int v2, .ref qf3, .ref qf4, .ref qf5, .ref qf6, .ref qf7, .ref qf8, .ref qf9, .ref qf10, .ref qf11, .ref qf12, .ref qf13, .ref qf14, .ref qf15, .ref qf16, .ref qf17, .ref qf18, .ref qf19, .int v20])), (qf0, .inr (9, [.ref qf0_0, .ref qf0_1, .ref qf0_2, .int v0_3, .ref qf0_4, .ref qf0_5, .ref qf0_6, .ref qf0_7, .ref qf0_8, .int v0_9, .int (x0_10_6 + 1), .int v0_11, .int v0_12])), (qf0_0, .inl (cf0_0, 3001, .inl f0_0))]) [0, 1, 2] rfl) hsp
              · rw [if_neg c_9] at hsp
                refine lv_iconst (v := 1) hx hb dX2_skipBlock_77 (by decide) ?_
                refine lv_goto (tgt := 82) hx hb dX2_skipBlock_78 (by decide) ?_
                refine lv_istore_n (lv' := [(2, .int 1), (3, .int l3_6), (1, .int l1_6), (0, .ref h0)]) hx hb dX2_skipBlock_82 rfl hl (by decide) rfl (fun ls hl => ?_)
                refine lv_iinc (v := (l3_6 + 1)) (lv' := [(3, .int (l3_6 + 1)), (2, .int 1), (1, .int l1_6), (0, .ref h0)]) hx hb dX2_skipBlock_83 hl (k := 1) rfl rfl (by decide) rfl (fun ls hl => ?_)
                refine lv_goto (tgt := 6) hx hb dX2_skipBlock_86 (by decide) ?_
                exact ih_6 H locs ls l1_6 1 (l3_6 + 1) (x0_10_6 + 1) (lv_sub hl [0, 1, 2, 3] rfl) hS (hD.sub (ws' := [(h0, .inr (2, [.ref qf0, .ref qf1, .int v2, .ref qf3, .ref qf4, .ref qf5, .ref qf6, .ref qf7, .ref qf8, .ref qf9, .ref qf10, .ref qf11, .ref qf12, .ref qf13, .ref qf14, .ref qf15, .ref qf16, .ref qf17, .ref qf18, .ref qf19, .int v20])), (qf0, .inr (9, [.ref qf0_0, .ref qf0_1, .ref qf0_2, .int v0_3, .ref qf0_4, .ref qf0_5, .ref qf0_6, .ref qf0_7, .ref qf0_8, .int v0_9, .int (x0_10_6 + 1), .int v0_11, .int v0_12])), (qf0_0, .inl (cf0_0, 3001, .inl f0_0))]) [0, 1, 2] (by decide) rfl) (hP.sub (ws' := [(h0, .inr (2, [.ref qf0, .ref qf1, .int v2, .ref qf3, .ref qf4, .ref qf5, .ref qf6, .ref qf7, .ref qf8, .ref qf9, .ref qf10, .ref qf11, .ref qf12, .ref qf13, .ref qf14, .ref qf15, .ref qf16, .ref qf17, .ref qf18, .ref qf19, .int v20])), (qf0, .inr (9, [.ref qf0_0, .ref qf0_1, .ref qf0_2, .int v0_3, .ref qf0_4, .ref qf0_5, .ref qf0_6, .ref qf0_7, .ref qf0_8, .int v0_9, .int (x0_10_6 + 1), .int v0_11, .int v0_12])), (qf0_0, .inl (cf0_0, 3001, .inl f0_0))]) [0, 1, 2] rfl) hsp
            · rw [if_pos c_8] at hsp
              refine lv_iinc (v := (l1_6 + (-1))) (lv' := [(1, .int (l1_6 + (-1))), (3, .int l3_6), (2, .int l2_6), (0, .ref h0)]) hx hb dX2_skipBlock_57 hl (k := 2) rfl rfl (by decide) rfl (fun ls hl => ?_)
              refine lv_aload_n hx hb dX2_skipBlock_60 rfl (lv_at hl 3 rfl) ?_
              refine va_get (D := (dC, dI)) (ci := 2) (v := .ref qf0) (C := RX2) (T := TX2) (N := 21) hx hb hts uV_h4_X2 hown hK hP 0 rfl rfl 0 (by decide) (hts (.fieldLink RX2 74 "ClassMill$Heads" "text" "LClassMill$Text;") mw_h4_145) (fun _ h9 => h9) rfl dX2_skipBlock_61 ?_
              refine lv_dup hx hb dX2_skipBlock_64 rfl ?_
              refine va_get (D := (dC, dI)) (ci := 9) (v := .int x0_10_6) (C := RX9) (T := TX9) (N := 13) hx hb hts uV_h4_X9 hown hK hP 1 rfl rfl 10 (by decide) (hts (.fieldLink RX2 118 "ClassMill$Text" "pos" "I") mw_h4_165) (fun _ h9 => h9) rfl dX2_skipBlock_65 ?_
              refine lv_iconst (v := 1) hx hb dX2_skipBlock_68 (by decide) ?_
              refine lv_iadd hx hb dX2_skipBlock_69 ?_
              refine va_put (D := (dC, dI)) (ci := 9) (v := .int (x0_10_6 + 1)) (ty := .int) (C := RX9) (T := TX9) (N := 13) hx hb hts uV_h4_X9 tyX9 tyX9_ok nmX9 hown hK hP hD hS 1 rfl rfl 10 (by decide) (hts (.fieldLink RX2 118 "ClassMill$Text" "pos" "I") mw_h4_165) (fun _ h9 => h9) rfl (by decide +kernel) rfl rfl (Nat.le_of_ble_eq_true rfl) dX2_skipBlock_70 ?_
              clear hP hD hS
              intro H locs hP hD hS
              replace hP : va_P (dC, dI) vwCl [(h0, .inr (2, [.ref qf0, .ref qf1, .int v2, .ref qf3, .ref qf4, .ref qf5, .ref qf6, .ref qf7, .ref qf8, .ref qf9, .ref qf10, .ref qf11, .ref qf12, .ref qf13, .ref qf14, .ref qf15, .ref qf16, .ref qf17, .ref qf18, .ref qf19, .int v20])), (qf0, .inr (9, [.ref qf0_0, .ref qf0_1, .ref qf0_2, .int v0_3, .ref qf0_4, .ref qf0_5, .ref qf0_6, .ref qf0_7, .ref qf0_8, .int v0_9, .int (x0_10_6 + 1), .int v0_11, .int v0_12])), (qf0_0, .inl (cf0_0, 3001, .inl f0_0))] H := hP
              replace hD : va_D A [(h0, .inr (2, [.ref qf0, .ref qf1, .int v2, .ref qf3, .ref qf4, .ref qf5, .ref qf6, .ref qf7, .ref qf8, .ref qf9, .ref qf10, .ref qf11, .ref qf12, .ref qf13, .ref qf14, .ref qf15, .ref qf16, .ref qf17, .ref qf18, .ref qf19, .int v20])), (qf0, .inr (9, [.ref qf0_0, .ref qf0_1, .ref qf0_2, .int v0_3, .ref qf0_4, .ref qf0_5, .ref qf0_6, .ref qf0_7, .ref qf0_8, .int v0_9, .int (x0_10_6 + 1), .int v0_11, .int v0_12])), (qf0_0, .inl (cf0_0, 3001, .inl f0_0))] := hD
              refine lv_iload_n hx hb dX2_skipBlock_73 rfl (lv_at hl 0 rfl) ?_
              refine lv_if_le (tgt := 81) hx hb dX2_skipBlock_74 (by decide) (fun c_10 => ?_) (fun c_10 => ?_)
              · rw [if_pos c_10] at hsp
                refine lv_iconst (v := 0) hx hb dX2_skipBlock_81 (by decide) ?_
                refine lv_istore_n (lv' := [(2, .int 0), (1, .int (l1_6 + (-1))), (3, .int l3_6), (0, .ref h0)]) hx hb dX2_skipBlock_82 rfl hl (by decide) rfl (fun ls hl => ?_)
                refine lv_iinc (v := (l3_6 + 1)) (lv' := [(3, .int (l3_6 + 1)), (2, .int 0), (1, .int (l1_6 + (-1))), (0, .ref h0)]) hx hb dX2_skipBlock_83 hl (k := 2) rfl rfl (by decide) rfl (fun ls hl => ?_)
                refine lv_goto (tgt := 6) hx hb dX2_skipBlock_86 (by decide) ?_
                exact ih_6 H locs ls (l1_6 + (-1)) 0 (l3_6 + 1) (x0_10_6 + 1) (lv_sub hl [0, 1, 2, 3] rfl) hS (hD.sub (ws' := [(h0, .inr (2, [.ref qf0, .ref qf1, .int v2, .ref qf3, .ref qf4, .ref qf5, .ref qf6, .ref qf7, .ref qf8, .ref qf9, .ref qf10, .ref qf11, .ref qf12, .ref qf13, .ref qf14, .ref qf15, .ref qf16, .ref qf17, .ref qf18, .ref qf19, .int v20])), (qf0, .inr (9, [.ref qf0_0, .ref qf0_1, .ref qf0_2, .int v0_3, .ref qf0_4, .ref qf0_5, .ref qf0_6, .ref qf0_7, .ref qf0_8, .int v0_9, .int (x0_10_6 + 1), .int v0_11, .int v0_12])), (qf0_0, .inl (cf0_0, 3001, .inl f0_0))]) [0, 1, 2] (by decide) rfl) (hP.sub (ws' := [(h0, .inr (2, [.ref qf0, .ref qf1, .int v2, .ref qf3, .ref qf4, .ref qf5, .ref qf6, .ref qf7, .ref qf8, .ref qf9, .ref qf10, .ref qf11, .ref qf12, .ref qf13, .ref qf14, .ref qf15, .ref qf16, .ref qf17, .ref qf18, .ref qf19, .int v20])), (qf0, .inr (9, [.ref qf0_0, .ref qf0_1, .ref qf0_2, .int v0_3, .ref qf0_4, .ref qf0_5, .ref qf0_6, .ref qf0_7, .ref qf0_8, .int v0_9, .int (x0_10_6 + 1), .int v0_11, .int v0_12])), (qf0_0, .inl (cf0_0, 3001, .inl f0_0))]) [0, 1, 2] rfl) hsp
              · rw [if_neg c_10] at hsp
                refine lv_iconst (v := 1) hx hb dX2_skipBlock_77 (by decide) ?_
                refine lv_goto (tgt := 82) hx hb dX2_skipBlock_78 (by decide) ?_
                refine lv_istore_n (lv' := [(2, .int 1), (1, .int (l1_6 + (-1))), (3, .int l3_6), (0, .ref h0)]) hx hb dX2_skipBlock_82 rfl hl (by decide) rfl (fun ls hl => ?_)
                refine lv_iinc (v := (l3_6 + 1)) (lv' := [(3, .int (l3_6 + 1)), (2, .int 1), (1, .int (l1_6 + (-1))), (0, .ref h0)]) hx hb dX2_skipBlock_83 hl (k := 2) rfl rfl (by decide) rfl (fun ls hl => ?_)
                refine lv_goto (tgt := 6) hx hb dX2_skipBlock_86 (by decide) ?_
                exact ih_6 H locs ls (l1_6 + (-1)) 1 (l3_6 + 1) (x0_10_6 + 1) (lv_sub hl [0, 1, 2, 3] rfl) hS (hD.sub (ws' := [(h0, .inr (2, [.ref qf0, .ref qf1, .int v2, .ref qf3, .ref qf4, .ref qf5, .ref qf6, .ref qf7, .ref qf8, .ref qf9, .ref qf10, .ref qf11, .ref qf12, .ref qf13, .ref qf14, .ref qf15, .ref qf16, .ref qf17, .ref qf18, .ref qf19, .int v20])), (qf0, .inr (9, [.ref qf0_0, .ref qf0_1, .ref qf0_2, .int v0_3, .ref qf0_4, .ref qf0_5, .ref qf0_6, .ref qf0_7, .ref qf0_8, .int v0_9, .int (x0_10_6 + 1), .int v0_11, .int v0_12])), (qf0_0, .inl (cf0_0, 3001, .inl f0_0))]) [0, 1, 2] (by decide) rfl) (hP.sub (ws' := [(h0, .inr (2, [.ref qf0, .ref qf1, .int v2, .ref qf3, .ref qf4, .ref qf5, .ref qf6, .ref qf7, .ref qf8, .ref qf9, .ref qf10, .ref qf11, .ref qf12, .ref qf13, .ref qf14, .ref qf15, .ref qf16, .ref qf17, .ref qf18, .ref qf19, .int v20])), (qf0, .inr (9, [.ref qf0_0, .ref qf0_1, .ref qf0_2, .int v0_3, .ref qf0_4, .ref qf0_5, .ref qf0_6, .ref qf0_7, .ref qf0_8, .int v0_9, .int (x0_10_6 + 1), .int v0_11, .int v0_12])), (qf0_0, .inl (cf0_0, 3001, .inl f0_0))]) [0, 1, 2] rfl) hsp
          · rw [if_pos c_6] at hsp
            refine lv_iinc (v := (l1_6 + 1)) (lv' := [(1, .int (l1_6 + 1)), (3, .int l3_6), (2, .int l2_6), (0, .ref h0)]) hx hb dX2_skipBlock_39 hl (k := 2) rfl rfl (by decide) rfl (fun ls hl => ?_)
            refine lv_goto (tgt := 60) hx hb dX2_skipBlock_42 (by decide) ?_
            refine lv_aload_n hx hb dX2_skipBlock_60 rfl (lv_at hl 3 rfl) ?_
            refine va_get (D := (dC, dI)) (ci := 2) (v := .ref qf0) (C := RX2) (T := TX2) (N := 21) hx hb hts uV_h4_X2 hown hK hP 0 rfl rfl 0 (by decide) (hts (.fieldLink RX2 74 "ClassMill$Heads" "text" "LClassMill$Text;") mw_h4_145) (fun _ h9 => h9) rfl dX2_skipBlock_61 ?_
            refine lv_dup hx hb dX2_skipBlock_64 rfl ?_
            refine va_get (D := (dC, dI)) (ci := 9) (v := .int x0_10_6) (C := RX9) (T := TX9) (N := 13) hx hb hts uV_h4_X9 hown hK hP 1 rfl rfl 10 (by decide) (hts (.fieldLink RX2 118 "ClassMill$Text" "pos" "I") mw_h4_165) (fun _ h9 => h9) rfl dX2_skipBlock_65 ?_
            refine lv_iconst (v := 1) hx hb dX2_skipBlock_68 (by decide) ?_
            refine lv_iadd hx hb dX2_skipBlock_69 ?_
            refine va_put (D := (dC, dI)) (ci := 9) (v := .int (x0_10_6 + 1)) (ty := .int) (C := RX9) (T := TX9) (N := 13) hx hb hts uV_h4_X9 tyX9 tyX9_ok nmX9 hown hK hP hD hS 1 rfl rfl 10 (by decide) (hts (.fieldLink RX2 118 "ClassMill$Text" "pos" "I") mw_h4_165) (fun _ h9 => h9) rfl (by decide +kernel) rfl rfl (Nat.le_of_ble_eq_true rfl) dX2_skipBlock_70 ?_
            clear hP hD hS
            intro H locs hP hD hS
            replace hP : va_P (dC, dI) vwCl [(h0, .inr (2, [.ref qf0, .ref qf1, .int v2, .ref qf3, .ref qf4, .ref qf5, .ref qf6, .ref qf7, .ref qf8, .ref qf9, .ref qf10, .ref qf11, .ref qf12, .ref qf13, .ref qf14, .ref qf15, .ref qf16, .ref qf17, .ref qf18, .ref qf19, .int v20])), (qf0, .inr (9, [.ref qf0_0, .ref qf0_1, .ref qf0_2, .int v0_3, .ref qf0_4, .ref qf0_5, .ref qf0_6, .ref qf0_7, .ref qf0_8, .int v0_9, .int (x0_10_6 + 1), .int v0_11, .int v0_12])), (qf0_0, .inl (cf0_0, 3001, .inl f0_0))] H := hP
            replace hD : va_D A [(h0, .inr (2, [.ref qf0, .ref qf1, .int v2, .ref qf3, .ref qf4, .ref qf5, .ref qf6, .ref qf7, .ref qf8, .ref qf9, .ref qf10, .ref qf11, .ref qf12, .ref qf13, .ref qf14, .ref qf15, .ref qf16, .ref qf17, .ref qf18, .ref qf19, .int v20])), (qf0, .inr (9, [.ref qf0_0, .ref qf0_1, .ref qf0_2, .int v0_3, .ref qf0_4, .ref qf0_5, .ref qf0_6, .ref qf0_7, .ref qf0_8, .int v0_9, .int (x0_10_6 + 1), .int v0_11, .int v0_12])), (qf0_0, .inl (cf0_0, 3001, .inl f0_0))] := hD
            refine lv_iload_n hx hb dX2_skipBlock_73 rfl (lv_at hl 0 rfl) ?_
            refine lv_if_le (tgt := 81) hx hb dX2_skipBlock_74 (by decide) (fun c_11 => ?_) (fun c_11 => ?_)
            · rw [if_pos c_11] at hsp
              refine lv_iconst (v := 0) hx hb dX2_skipBlock_81 (by decide) ?_
              refine lv_istore_n (lv' := [(2, .int 0), (1, .int (l1_6 + 1)), (3, .int l3_6), (0, .ref h0)]) hx hb dX2_skipBlock_82 rfl hl (by decide) rfl (fun ls hl => ?_)
              refine lv_iinc (v := (l3_6 + 1)) (lv' := [(3, .int (l3_6 + 1)), (2, .int 0), (1, .int (l1_6 + 1)), (0, .ref h0)]) hx hb dX2_skipBlock_83 hl (k := 2) rfl rfl (by decide) rfl (fun ls hl => ?_)
              refine lv_goto (tgt := 6) hx hb dX2_skipBlock_86 (by decide) ?_
              exact ih_6 H locs ls (l1_6 + 1) 0 (l3_6 + 1) (x0_10_6 + 1) (lv_sub hl [0, 1, 2, 3] rfl) hS (hD.sub (ws' := [(h0, .inr (2, [.ref qf0, .ref qf1, .int v2, .ref qf3, .ref qf4, .ref qf5, .ref qf6, .ref qf7, .ref qf8, .ref qf9, .ref qf10, .ref qf11, .ref qf12, .ref qf13, .ref qf14, .ref qf15, .ref qf16, .ref qf17, .ref qf18, .ref qf19, .int v20])), (qf0, .inr (9, [.ref qf0_0, .ref qf0_1, .ref qf0_2, .int v0_3, .ref qf0_4, .ref qf0_5, .ref qf0_6, .ref qf0_7, .ref qf0_8, .int v0_9, .int (x0_10_6 + 1), .int v0_11, .int v0_12])), (qf0_0, .inl (cf0_0, 3001, .inl f0_0))]) [0, 1, 2] (by decide) rfl) (hP.sub (ws' := [(h0, .inr (2, [.ref qf0, .ref qf1, .int v2, .ref qf3, .ref qf4, .ref qf5, .ref qf6, .ref qf7, .ref qf8, .ref qf9, .ref qf10, .ref qf11, .ref qf12, .ref qf13, .ref qf14, .ref qf15, .ref qf16, .ref qf17, .ref qf18, .ref qf19, .int v20])), (qf0, .inr (9, [.ref qf0_0, .ref qf0_1, .ref qf0_2, .int v0_3, .ref qf0_4, .ref qf0_5, .ref qf0_6, .ref qf0_7, .ref qf0_8, .int v0_9, .int (x0_10_6 + 1), .int v0_11, .int v0_12])), (qf0_0, .inl (cf0_0, 3001, .inl f0_0))]) [0, 1, 2] rfl) hsp
            · rw [if_neg c_11] at hsp
              refine lv_iconst (v := 1) hx hb dX2_skipBlock_77 (by decide) ?_
              refine lv_goto (tgt := 82) hx hb dX2_skipBlock_78 (by decide) ?_
              refine lv_istore_n (lv' := [(2, .int 1), (1, .int (l1_6 + 1)), (3, .int l3_6), (0, .ref h0)]) hx hb dX2_skipBlock_82 rfl hl (by decide) rfl (fun ls hl => ?_)
              refine lv_iinc (v := (l3_6 + 1)) (lv' := [(3, .int (l3_6 + 1)), (2, .int 1), (1, .int (l1_6 + 1)), (0, .ref h0)]) hx hb dX2_skipBlock_83 hl (k := 2) rfl rfl (by decide) rfl (fun ls hl => ?_)
              refine lv_goto (tgt := 6) hx hb dX2_skipBlock_86 (by decide) ?_
              exact ih_6 H locs ls (l1_6 + 1) 1 (l3_6 + 1) (x0_10_6 + 1) (lv_sub hl [0, 1, 2, 3] rfl) hS (hD.sub (ws' := [(h0, .inr (2, [.ref qf0, .ref qf1, .int v2, .ref qf3, .ref qf4, .ref qf5, .ref qf6, .ref qf7, .ref qf8, .ref qf9, .ref qf10, .ref qf11, .ref qf12, .ref qf13, .ref qf14, .ref qf15, .ref qf16, .ref qf17, .ref qf18, .ref qf19, .int v20])), (qf0, .inr (9, [.ref qf0_0, .ref qf0_1, .ref qf0_2, .int v0_3, .ref qf0_4, .ref qf0_5, .ref qf0_6, .ref qf0_7, .ref qf0_8, .int v0_9, .int (x0_10_6 + 1), .int v0_11, .int v0_12])), (qf0_0, .inl (cf0_0, 3001, .inl f0_0))]) [0, 1, 2] (by decide) rfl) (hP.sub (ws' := [(h0, .inr (2, [.ref qf0, .ref qf1, .int v2, .ref qf3, .ref qf4, .ref qf5, .ref qf6, .ref qf7, .ref qf8, .ref qf9, .ref qf10, .ref qf11, .ref qf12, .ref qf13, .ref qf14, .ref qf15, .ref qf16, .ref qf17, .ref qf18, .ref qf19, .int v20])), (qf0, .inr (9, [.ref qf0_0, .ref qf0_1, .ref qf0_2, .int v0_3, .ref qf0_4, .ref qf0_5, .ref qf0_6, .ref qf0_7, .ref qf0_8, .int v0_9, .int (x0_10_6 + 1), .int v0_11, .int v0_12])), (qf0_0, .inl (cf0_0, 3001, .inl f0_0))]) [0, 1, 2] rfl) hsp
def lp_t2_fieldIn_2 (nf n : Nat) (a1 : Int32) (a2 : Int32) (f5 : Nat → Int32) (f6 : Nat → Int32)  (l1_2 : Int32) (l2_2 : Int32) (l3_2 : Int32) : Option (Int32) := match n with
  | 0 => none
  | n + 1 => (if l1_2 < 0 then none else if 8 ≤ (l1_2 : Int32).toNatClampNeg then none else (if (f5 (l1_2 : Int32).toNatClampNeg) ≤ l3_2 then (some (-1)) else (if ((l1_2 * 12) + l3_2) < 0 then none else if 96 ≤ (((l1_2 * 12) + l3_2) : Int32).toNatClampNeg then none else (if (f6 (((l1_2 * 12) + l3_2) : Int32).toNatClampNeg) = l2_2 then (some ((l1_2 * 12) + l3_2)) else (lp_t2_fieldIn_2 nf n a1 a2 f5 f6 l1_2 l2_2 (l3_2 + 1))))))
def sp_t2_fieldIn (nf : Nat) (a1 : Int32) (a2 : Int32) (f5 : Nat → Int32) (f6 : Nat → Int32) : Option (Int32) := (lp_t2_fieldIn_2 nf nf a1 a2 f5 f6 a1 a2 0)
