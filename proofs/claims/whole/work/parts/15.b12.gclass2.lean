set_option maxHeartbeats 4000000 in
set_option maxRecDepth 100000 in
/-- ClassMill$Heads.checkClassHead -/
theorem t2_checkClassHead (l : Launch) (dC : Nat → ClassId) (dI : Nat → Nat → Nat) (sz : Nat) (h0 : Nat) (a1 : Int32) (qf0 : Nat) (qf1 : Nat) (v2 : Int32) (qf3 : Nat) (qf4 : Nat) (qf5 : Nat) (qf6 : Nat) (qf7 : Nat) (qf8 : Nat) (qf9 : Nat) (qf10 : Nat) (qf11 : Nat) (qf12 : Nat) (qf13 : Nat) (qf14 : Nat) (qf15 : Nat) (qf16 : Nat) (qf17 : Nat) (qf18 : Nat) (qf19 : Nat) (v20 : Int32) (cf3 : ClassId) (f3 : (Nat → Int32)) (qf0_0 : Nat) (qf0_1 : Nat) (qf0_2 : Nat) (v0_3 : Int32) (qf0_4 : Nat) (qf0_5 : Nat) (qf0_6 : Nat) (qf0_7 : Nat) (qf0_8 : Nat) (v0_9 : Int32) (v0_10 : Int32) (v0_11 : Int32) (v0_12 : Int32) (cf0_2 : ClassId) (f0_2 : (Nat → Int32)) (cf0_0 : ClassId) (f0_0 : (Nat → Int32)) (cf4 : ClassId) (f4 : (Nat → Int32)) (cf0_1 : ClassId) (f0_1 : (Nat → Int32)) (nf : Nat) (w0_11 : Int32) (w0_12 : Int32) (hsp : sp_t2_checkClassHead nf a1 v2 f3 v0_3 v0_11 v0_12 f0_2 f0_0 f4 f0_1 = some (w0_11, w0_12)) : Met l yX2_checkClassHead (.code yX2_checkClassHead cX2_checkClassHead 3 none :: VS_h4) ({ frames := 4, cells := 0, slots := 0, locals := 88 }) (va_Pc [.ref h0, .int a1] (fun U => U.heap.size = sz ∧ va_P (dC, dI) vwCl [(h0, .inr (2, [.ref qf0, .ref qf1, .int v2, .ref qf3, .ref qf4, .ref qf5, .ref qf6, .ref qf7, .ref qf8, .ref qf9, .ref qf10, .ref qf11, .ref qf12, .ref qf13, .ref qf14, .ref qf15, .ref qf16, .ref qf17, .ref qf18, .ref qf19, .int v20])), (qf3, .inl (cf3, 334, .inl f3)), (qf0, .inr (9, [.ref qf0_0, .ref qf0_1, .ref qf0_2, .int v0_3, .ref qf0_4, .ref qf0_5, .ref qf0_6, .ref qf0_7, .ref qf0_8, .int v0_9, .int v0_10, .int v0_11, .int v0_12])), (qf0_2, .inl (cf0_2, 3001, .inl f0_2)), (qf0_0, .inl (cf0_0, 3001, .inl f0_0)), (qf4, .inl (cf4, 1740, .inl f4)), (qf0_1, .inl (cf0_1, 3001, .inl f0_1))] U.heap ∧ va_K (dC, dI) vwCl [(cf3, .int), (cf0_2, .int), (cf0_0, .int), (cf4, .int), (cf0_1, .int)] U ∧ va_D (fun _ => True) [(h0, .inr (2, [.ref qf0, .ref qf1, .int v2, .ref qf3, .ref qf4, .ref qf5, .ref qf6, .ref qf7, .ref qf8, .ref qf9, .ref qf10, .ref qf11, .ref qf12, .ref qf13, .ref qf14, .ref qf15, .ref qf16, .ref qf17, .ref qf18, .ref qf19, .int v20])), (qf3, .inl (cf3, 334, .inl f3)), (qf0, .inr (9, [.ref qf0_0, .ref qf0_1, .ref qf0_2, .int v0_3, .ref qf0_4, .ref qf0_5, .ref qf0_6, .ref qf0_7, .ref qf0_8, .int v0_9, .int v0_10, .int v0_11, .int v0_12])), (qf0_2, .inl (cf0_2, 3001, .inl f0_2)), (qf0_0, .inl (cf0_0, 3001, .inl f0_0)), (qf4, .inl (cf4, 1740, .inl f4)), (qf0_1, .inl (cf0_1, 3001, .inl f0_1))])) (va_Qv (fun (u : Unit) => match u with | () => True) (fun (u : Unit) (t : State) => match u with | () => va_P (dC, dI) vwCl [(h0, .inr (2, [.ref qf0, .ref qf1, .int v2, .ref qf3, .ref qf4, .ref qf5, .ref qf6, .ref qf7, .ref qf8, .ref qf9, .ref qf10, .ref qf11, .ref qf12, .ref qf13, .ref qf14, .ref qf15, .ref qf16, .ref qf17, .ref qf18, .ref qf19, .int v20])), (qf3, .inl (cf3, 334, .inl f3)), (qf0, .inr (9, [.ref qf0_0, .ref qf0_1, .ref qf0_2, .int v0_3, .ref qf0_4, .ref qf0_5, .ref qf0_6, .ref qf0_7, .ref qf0_8, .int v0_9, .int v0_10, .int w0_11, .int w0_12])), (qf0_2, .inl (cf0_2, 3001, .inl f0_2)), (qf0_0, .inl (cf0_0, 3001, .inl f0_0)), (qf4, .inl (cf4, 1740, .inl f4)), (qf0_1, .inl (cf0_1, 3001, .inl f0_1))] t.heap ∧ va_K (dC, dI) vwCl [(cf3, .int), (cf0_2, .int), (cf0_0, .int), (cf4, .int), (cf0_1, .int)] t ∧ va_D (va_A [(h0, .inr (2, [.ref qf0, .ref qf1, .int v2, .ref qf3, .ref qf4, .ref qf5, .ref qf6, .ref qf7, .ref qf8, .ref qf9, .ref qf10, .ref qf11, .ref qf12, .ref qf13, .ref qf14, .ref qf15, .ref qf16, .ref qf17, .ref qf18, .ref qf19, .int v20])), (qf3, .inl (cf3, 334, .inl f3)), (qf0, .inr (9, [.ref qf0_0, .ref qf0_1, .ref qf0_2, .int v0_3, .ref qf0_4, .ref qf0_5, .ref qf0_6, .ref qf0_7, .ref qf0_8, .int v0_9, .int v0_10, .int v0_11, .int v0_12])), (qf0_2, .inl (cf0_2, 3001, .inl f0_2)), (qf0_0, .inl (cf0_0, 3001, .inl f0_0)), (qf4, .inl (cf4, 1740, .inl f4)), (qf0_1, .inl (cf0_1, 3001, .inl f0_1))] sz) [(h0, .inr (2, [.ref qf0, .ref qf1, .int v2, .ref qf3, .ref qf4, .ref qf5, .ref qf6, .ref qf7, .ref qf8, .ref qf9, .ref qf10, .ref qf11, .ref qf12, .ref qf13, .ref qf14, .ref qf15, .ref qf16, .ref qf17, .ref qf18, .ref qf19, .int v20])), (qf3, .inl (cf3, 334, .inl f3)), (qf0, .inr (9, [.ref qf0_0, .ref qf0_1, .ref qf0_2, .int v0_3, .ref qf0_4, .ref qf0_5, .ref qf0_6, .ref qf0_7, .ref qf0_8, .int v0_9, .int v0_10, .int w0_11, .int w0_12])), (qf0_2, .inl (cf0_2, 3001, .inl f0_2)), (qf0_0, .inl (cf0_0, 3001, .inl f0_0)), (qf4, .inl (cf4, 1740, .inl f4)), (qf0_1, .inl (cf0_1, 3001, .inl f0_1))]) (va_A [(h0, .inr (2, [.ref qf0, .ref qf1, .int v2, .ref qf3, .ref qf4, .ref qf5, .ref qf6, .ref qf7, .ref qf8, .ref qf9, .ref qf10, .ref qf11, .ref qf12, .ref qf13, .ref qf14, .ref qf15, .ref qf16, .ref qf17, .ref qf18, .ref qf19, .int v20])), (qf3, .inl (cf3, 334, .inl f3)), (qf0, .inr (9, [.ref qf0_0, .ref qf0_1, .ref qf0_2, .int v0_3, .ref qf0_4, .ref qf0_5, .ref qf0_6, .ref qf0_7, .ref qf0_8, .int v0_9, .int v0_10, .int v0_11, .int v0_12])), (qf0_2, .inl (cf0_2, 3001, .inl f0_2)), (qf0_0, .inl (cf0_0, 3001, .inl f0_0)), (qf4, .inl (cf4, 1740, .inl f4)), (qf0_1, .inl (cf0_1, 3001, .inl f0_1))] sz)) 0 0 (va_A [(h0, .inr (2, [.ref qf0, .ref qf1, .int v2, .ref qf3, .ref qf4, .ref qf5, .ref qf6, .ref qf7, .ref qf8, .ref qf9, .ref qf10, .ref qf11, .ref qf12, .ref qf13, .ref qf14, .ref qf15, .ref qf16, .ref qf17, .ref qf18, .ref qf19, .int v20])), (qf3, .inl (cf3, 334, .inl f3)), (qf0, .inr (9, [.ref qf0_0, .ref qf0_1, .ref qf0_2, .int v0_3, .ref qf0_4, .ref qf0_5, .ref qf0_6, .ref qf0_7, .ref qf0_8, .int v0_9, .int v0_10, .int v0_11, .int v0_12])), (qf0_2, .inl (cf0_2, 3001, .inl f0_2)), (qf0_0, .inl (cf0_0, 3001, .inl f0_0)), (qf4, .inl (cf4, 1740, .inl f4)), (qf0_1, .inl (cf0_1, 3001, .inl f0_1))] sz) := by
  refine Met.ofW (cc := cX2_checkClassHead) (maxL := 3) (ret := none) (by decide) rfl ?_
  intro p e s m args below meth c s₁ B hml hv
  obtain ⟨rfl, hsz, hP, hK, hD0⟩ := hv
  have hx := B.exec
  have hb := B.bytes
  have hr := B.returns
  have hts := atoms_spec (ws := (.code yX2_checkClassHead cX2_checkClassHead 3 none :: VS_h4)) B.pre
  replace hts := fun w (h : w ∈ VS_h4) => hts w (List.mem_cons_of_mem _ h)
  have hown : s.vm.findClass RX2 = some m.cls := findClass_of_methodNamed B.named
  have hlocks := B.notSynchronized
  subst hsz
  have hD := hD0.self (sz := s.heap.size)
  generalize hAe : va_A [(h0, .inr (2, [.ref qf0, .ref qf1, .int v2, .ref qf3, .ref qf4, .ref qf5, .ref qf6, .ref qf7, .ref qf8, .ref qf9, .ref qf10, .ref qf11, .ref qf12, .ref qf13, .ref qf14, .ref qf15, .ref qf16, .ref qf17, .ref qf18, .ref qf19, .int v20])), (qf3, .inl (cf3, 334, .inl f3)), (qf0, .inr (9, [.ref qf0_0, .ref qf0_1, .ref qf0_2, .int v0_3, .ref qf0_4, .ref qf0_5, .ref qf0_6, .ref qf0_7, .ref qf0_8, .int v0_9, .int v0_10, .int v0_11, .int v0_12])), (qf0_2, .inl (cf0_2, 3001, .inl f0_2)), (qf0_0, .inl (cf0_0, 3001, .inl f0_0)), (qf4, .inl (cf4, 1740, .inl f4)), (qf0_1, .inl (cf0_1, 3001, .inl f0_1))] s.heap.size = A at hD  ⊢
  have hA : ∀ q : Nat, s.heap.size ≤ q → A q := fun q h => by rw [← hAe]; exact Or.inr h
  have hP : va_P (dC, dI) vwCl [(h0, .inr (2, [.ref qf0, .ref qf1, .int v2, .ref qf3, .ref qf4, .ref qf5, .ref qf6, .ref qf7, .ref qf8, .ref qf9, .ref qf10, .ref qf11, .ref qf12, .ref qf13, .ref qf14, .ref qf15, .ref qf16, .ref qf17, .ref qf18, .ref qf19, .int v20])), (qf3, .inl (cf3, 334, .inl f3)), (qf0, .inr (9, [.ref qf0_0, .ref qf0_1, .ref qf0_2, .int v0_3, .ref qf0_4, .ref qf0_5, .ref qf0_6, .ref qf0_7, .ref qf0_8, .int v0_9, .int v0_10, .int v0_11, .int v0_12])), (qf0_2, .inl (cf0_2, 3001, .inl f0_2)), (qf0_0, .inl (cf0_0, 3001, .inl f0_0)), (qf4, .inl (cf4, 1740, .inl f4)), (qf0_1, .inl (cf0_1, 3001, .inl f0_1))] s.heap := hP
  have hl := lv_entry ([.ref h0, .int a1]) (n := 3) (Nat.le_of_ble_eq_true rfl)
  rw [lg_entry_eq]
  generalize (lg_sl ([.ref h0, .int a1]) ++ List.replicate (3 - (lg_sl ([.ref h0, .int a1])).length) Slot.unset).toArray = ls at hl ⊢
  have hl : lv_has ls 3 [(0, .ref h0), (1, .int a1)] := hl
  obtain ⟨H, hH⟩ : ∃ H : Heap, s.heap = H := ⟨_, rfl⟩
  rw [hH] at hP ⊢
  have hS : va_S A s.heap H [] := by rw [← hH]; exact va_S.rf
  obtain ⟨locs, hlo⟩ : ∃ locs : List Loc, locs = [] := ⟨_, rfl⟩
  rw [← hlo] at hS ⊢
  unfold sp_t2_checkClassHead at hsp
  refine lv_aload_n hx hb dX2_checkClassHead_0 rfl (lv_at hl 0 rfl) ?_
  refine va_get (D := (dC, dI)) (ci := 2) (v := .ref qf3) (C := RX2) (T := TX2) (N := 21) hx hb hts uV_h4_X2 hown hK hP 0 rfl rfl 3 (by decide) (hts (.fieldLink RX2 20 "ClassMill$Heads" "classAt" "[I") mw_h4_126) (fun _ h9 => h9) rfl dX2_checkClassHead_1 ?_
  refine lv_iload_n hx hb dX2_checkClassHead_4 rfl (lv_at hl 1 rfl) ?_
  obtain ⟨hi_1, hsp⟩ := ox_in hsp
  refine va_iald hx hb hK hP 1 0 rfl rfl (i := a1) hi_1 dX2_checkClassHead_5 ?_
  refine lv_istore_n (lv' := [(2, .int (f3 (a1 : Int32).toNatClampNeg)), (0, .ref h0), (1, .int a1)]) hx hb dX2_checkClassHead_6 rfl hl (by decide) rfl (fun ls hl => ?_)
  refine lv_iload_n hx hb dX2_checkClassHead_7 rfl (lv_at hl 2 rfl) ?_
  refine lv_bipush (v := 8) hx hb dX2_checkClassHead_8 (by decide) ?_
  refine lv_icmp_lt (tgt := 23) hx hb dX2_checkClassHead_10 (by decide) (fun c_2 => ?_) (fun c_2 => ?_)
  · rw [if_pos c_2] at hsp
    refine lv_aload_n hx hb dX2_checkClassHead_23 rfl (lv_at hl 1 rfl) ?_
    refine lv_iload_n hx hb dX2_checkClassHead_24 rfl (lv_at hl 0 rfl) ?_
    obtain ⟨u1_0, hu_1, hsp⟩ := ox_bind hsp
    try dsimp only at hsp
    have hPc := hP.sub (ws' := [(h0, .inr (2, [.ref qf0, .ref qf1, .int v2, .ref qf3, .ref qf4, .ref qf5, .ref qf6, .ref qf7, .ref qf8, .ref qf9, .ref qf10, .ref qf11, .ref qf12, .ref qf13, .ref qf14, .ref qf15, .ref qf16, .ref qf17, .ref qf18, .ref qf19, .int v20])), (qf0, .inr (9, [.ref qf0_0, .ref qf0_1, .ref qf0_2, .int v0_3, .ref qf0_4, .ref qf0_5, .ref qf0_6, .ref qf0_7, .ref qf0_8, .int v0_9, .int v0_10, .int v0_11, .int v0_12])), (qf0_2, .inl (cf0_2, 3001, .inl f0_2)), (qf0_0, .inl (cf0_0, 3001, .inl f0_0)), (qf4, .inl (cf4, 1740, .inl f4))]) [0, 2, 3, 4, 5] rfl
    have hDc := hD.sub (ws' := [(h0, .inr (2, [.ref qf0, .ref qf1, .int v2, .ref qf3, .ref qf4, .ref qf5, .ref qf6, .ref qf7, .ref qf8, .ref qf9, .ref qf10, .ref qf11, .ref qf12, .ref qf13, .ref qf14, .ref qf15, .ref qf16, .ref qf17, .ref qf18, .ref qf19, .int v20])), (qf0, .inr (9, [.ref qf0_0, .ref qf0_1, .ref qf0_2, .int v0_3, .ref qf0_4, .ref qf0_5, .ref qf0_6, .ref qf0_7, .ref qf0_8, .int v0_9, .int v0_10, .int v0_11, .int v0_12])), (qf0_2, .inl (cf0_2, 3001, .inl f0_2)), (qf0_0, .inl (cf0_0, 3001, .inl f0_0)), (qf4, .inl (cf4, 1740, .inl f4))]) [0, 2, 3, 4, 5] (by decide) rfl
    have hKc := hK.sub (tys' := [(cf0_2, .int), (cf0_0, .int), (cf4, .int)]) [1, 2, 3] rfl
    have hFc := va_free (wc := [(h0, .inr (2, [.ref qf0, .ref qf1, .int v2, .ref qf3, .ref qf4, .ref qf5, .ref qf6, .ref qf7, .ref qf8, .ref qf9, .ref qf10, .ref qf11, .ref qf12, .ref qf13, .ref qf14, .ref qf15, .ref qf16, .ref qf17, .ref qf18, .ref qf19, .int v20])), (qf0, .inr (9, [.ref qf0_0, .ref qf0_1, .ref qf0_2, .int v0_3, .ref qf0_4, .ref qf0_5, .ref qf0_6, .ref qf0_7, .ref qf0_8, .int v0_9, .int v0_10, .int v0_11, .int v0_12])), (qf0_2, .inl (cf0_2, 3001, .inl f0_2)), (qf0_0, .inl (cf0_0, 3001, .inl f0_0)), (qf4, .inl (cf4, 1740, .inl f4))]) hD hS hA [0, 2, 3, 4, 5] rfl
    refine va_calli (va_runV (As := [.int (f3 (a1 : Int32).toNatClampNeg)]) (rest := []) ⟨hx, hb, hml, hown, hts⟩ (t2_classAt l dC dI H.size h0 ((f3 (a1 : Int32).toNatClampNeg)) qf0 qf1 v2 qf3 qf4 qf5 qf6 qf7 qf8 qf9 qf10 qf11 qf12 qf13 qf14 qf15 qf16 qf17 qf18 qf19 v20 qf0_0 qf0_1 qf0_2 v0_3 qf0_4 qf0_5 qf0_6 qf0_7 qf0_8 v0_9 v0_10 v0_11 v0_12 cf0_2 f0_2 cf0_0 f0_0 cf4 f4 nf u1_0 hu_1) (cwV 1 hts gv_h4_30 rfl rfl rfl (by decide +kernel) ⟨Nat.le_of_ble_eq_true rfl, Nat.le_of_ble_eq_true rfl⟩) ⟨fun a U g mk q => by obtain ⟨q0, q1, qP, qK, qD⟩ := q; exact ⟨q0, q1, qP, va_K.moved (u := U) (U := U.calling g mk a) (Vm.Alike.refl U.vm) qK, qD⟩, va_recv hKc hPc (ci := 2) (q0 := 0) rfl rfl, fun U hU hW => ⟨rfl, by rw [hU], by rw [hU]; exact hPc, va_K.moved hW.alike hKc, hDc.weaken (fun _ _ _ _ => trivial)⟩⟩ rfl rfl hl.1 rfl (lv_room (Nat.le_of_ble_eq_true rfl)) dX2_checkClassHead_25 ⟨Nat.le_of_ble_eq_true rfl, Nat.le_of_ble_eq_true rfl⟩) hS (fun q _ h => hFc q h) hFc ?_
    clear hS
    intro r_3 u t H1 locs ht hvm hw hB hz1 hk1 hS
    obtain ⟨⟩ := u
    obtain ⟨hP1, hK1, hD1⟩ := hB
    rw [ht] at hP1
    have hK1 := va_K.moved hvm.symm hK1
    try dsimp only at hw
    have hPD := va_join (wr := [(qf3, .inl (cf3, 334, .inl f3)), (qf0_1, .inl (cf0_1, 3001, .inl f0_1))]) (w1 := [(h0, .inr (2, [.ref qf0, .ref qf1, .int v2, .ref qf3, .ref qf4, .ref qf5, .ref qf6, .ref qf7, .ref qf8, .ref qf9, .ref qf10, .ref qf11, .ref qf12, .ref qf13, .ref qf14, .ref qf15, .ref qf16, .ref qf17, .ref qf18, .ref qf19, .int v20])), (qf0, .inr (9, [.ref qf0_0, .ref qf0_1, .ref qf0_2, .int v0_3, .ref qf0_4, .ref qf0_5, .ref qf0_6, .ref qf0_7, .ref qf0_8, .int v0_9, .int v0_10, .int v0_11, .int v0_12])), (qf0_2, .inl (cf0_2, 3001, .inl f0_2)), (qf0_0, .inl (cf0_0, 3001, .inl f0_0)), (qf4, .inl (cf4, 1740, .inl f4))]) hP hD [0, 2, 3, 4, 5] [1, 6] rfl rfl (by decide) (by decide) hk1 hFc hP1 hD1
    clear hP hD
    obtain ⟨hP, hD⟩ := hPD
    replace hK := (hK.sub (tys' := [(cf3, .int), (cf0_1, .int)]) [0, 4] rfl).app hK1
    clear hPc hDc hKc hFc hP1 hK1 hD1 hz1 hk1 ht hvm
    generalize H1 = H at hP hS ⊢
    replace hP : va_P (dC, dI) vwCl [(qf3, .inl (cf3, 334, .inl f3)), (qf0_1, .inl (cf0_1, 3001, .inl f0_1)), (h0, .inr (2, [.ref qf0, .ref qf1, .int v2, .ref qf3, .ref qf4, .ref qf5, .ref qf6, .ref qf7, .ref qf8, .ref qf9, .ref qf10, .ref qf11, .ref qf12, .ref qf13, .ref qf14, .ref qf15, .ref qf16, .ref qf17, .ref qf18, .ref qf19, .int v20])), (qf0, .inr (9, [.ref qf0_0, .ref qf0_1, .ref qf0_2, .int v0_3, .ref qf0_4, .ref qf0_5, .ref qf0_6, .ref qf0_7, .ref qf0_8, .int v0_9, .int v0_10, .int v0_11, .int v0_12])), (qf0_2, .inl (cf0_2, 3001, .inl f0_2)), (qf0_0, .inl (cf0_0, 3001, .inl f0_0)), (qf4, .inl (cf4, 1740, .inl f4))] H := hP
    replace hD : va_D A [(qf3, .inl (cf3, 334, .inl f3)), (qf0_1, .inl (cf0_1, 3001, .inl f0_1)), (h0, .inr (2, [.ref qf0, .ref qf1, .int v2, .ref qf3, .ref qf4, .ref qf5, .ref qf6, .ref qf7, .ref qf8, .ref qf9, .ref qf10, .ref qf11, .ref qf12, .ref qf13, .ref qf14, .ref qf15, .ref qf16, .ref qf17, .ref qf18, .ref qf19, .int v20])), (qf0, .inr (9, [.ref qf0_0, .ref qf0_1, .ref qf0_2, .int v0_3, .ref qf0_4, .ref qf0_5, .ref qf0_6, .ref qf0_7, .ref qf0_8, .int v0_9, .int v0_10, .int v0_11, .int v0_12])), (qf0_2, .inl (cf0_2, 3001, .inl f0_2)), (qf0_0, .inl (cf0_0, 3001, .inl f0_0)), (qf4, .inl (cf4, 1740, .inl f4))] := hD
    replace hK : va_K (dC, dI) vwCl [(cf3, .int), (cf0_1, .int), (cf0_2, .int), (cf0_0, .int), (cf4, .int)] s := hK
    obtain rfl := hw
    refine lv_bipush (v := 8) hx hb dX2_checkClassHead_28 (by decide) ?_
    refine lv_iload_n hx hb dX2_checkClassHead_30 rfl (lv_at hl 2 rfl) ?_
    refine lv_iadd hx hb dX2_checkClassHead_31 ?_
    refine lv_icmp_eq (tgt := 44) hx hb dX2_checkClassHead_32 (by decide) (fun c_4 => ?_) (fun c_4 => ?_)
    · rw [if_pos c_4] at hsp
      refine lv_aload_n hx hb dX2_checkClassHead_44 rfl (lv_at hl 1 rfl) ?_
      refine lv_iload_n hx hb dX2_checkClassHead_45 rfl (lv_at hl 2 rfl) ?_
      obtain ⟨u2_0, hu_2, hsp⟩ := ox_bind hsp
      try dsimp only at hsp
      have hPc := hP.sub (ws' := [(h0, .inr (2, [.ref qf0, .ref qf1, .int v2, .ref qf3, .ref qf4, .ref qf5, .ref qf6, .ref qf7, .ref qf8, .ref qf9, .ref qf10, .ref qf11, .ref qf12, .ref qf13, .ref qf14, .ref qf15, .ref qf16, .ref qf17, .ref qf18, .ref qf19, .int v20])), (qf3, .inl (cf3, 334, .inl f3)), (qf0, .inr (9, [.ref qf0_0, .ref qf0_1, .ref qf0_2, .int v0_3, .ref qf0_4, .ref qf0_5, .ref qf0_6, .ref qf0_7, .ref qf0_8, .int v0_9, .int v0_10, .int v0_11, .int v0_12])), (qf0_0, .inl (cf0_0, 3001, .inl f0_0)), (qf0_2, .inl (cf0_2, 3001, .inl f0_2)), (qf4, .inl (cf4, 1740, .inl f4))]) [2, 0, 3, 5, 4, 6] rfl
      have hDc := hD.sub (ws' := [(h0, .inr (2, [.ref qf0, .ref qf1, .int v2, .ref qf3, .ref qf4, .ref qf5, .ref qf6, .ref qf7, .ref qf8, .ref qf9, .ref qf10, .ref qf11, .ref qf12, .ref qf13, .ref qf14, .ref qf15, .ref qf16, .ref qf17, .ref qf18, .ref qf19, .int v20])), (qf3, .inl (cf3, 334, .inl f3)), (qf0, .inr (9, [.ref qf0_0, .ref qf0_1, .ref qf0_2, .int v0_3, .ref qf0_4, .ref qf0_5, .ref qf0_6, .ref qf0_7, .ref qf0_8, .int v0_9, .int v0_10, .int v0_11, .int v0_12])), (qf0_0, .inl (cf0_0, 3001, .inl f0_0)), (qf0_2, .inl (cf0_2, 3001, .inl f0_2)), (qf4, .inl (cf4, 1740, .inl f4))]) [2, 0, 3, 5, 4, 6] (by decide) rfl
      have hKc := hK.sub (tys' := [(cf3, .int), (cf0_0, .int), (cf0_2, .int), (cf4, .int)]) [0, 3, 2, 4] rfl
      have hFc := va_free (wc := [(h0, .inr (2, [.ref qf0, .ref qf1, .int v2, .ref qf3, .ref qf4, .ref qf5, .ref qf6, .ref qf7, .ref qf8, .ref qf9, .ref qf10, .ref qf11, .ref qf12, .ref qf13, .ref qf14, .ref qf15, .ref qf16, .ref qf17, .ref qf18, .ref qf19, .int v20])), (qf3, .inl (cf3, 334, .inl f3)), (qf0, .inr (9, [.ref qf0_0, .ref qf0_1, .ref qf0_2, .int v0_3, .ref qf0_4, .ref qf0_5, .ref qf0_6, .ref qf0_7, .ref qf0_8, .int v0_9, .int v0_10, .int v0_11, .int v0_12])), (qf0_0, .inl (cf0_0, 3001, .inl f0_0)), (qf0_2, .inl (cf0_2, 3001, .inl f0_2)), (qf4, .inl (cf4, 1740, .inl f4))]) hD hS hA [2, 0, 3, 5, 4, 6] rfl
      refine va_calli (va_runV (As := [.int a1]) (rest := []) ⟨hx, hb, hml, hown, hts⟩ (t2_classAbove l dC dI H.size h0 a1 qf0 qf1 v2 qf3 qf4 qf5 qf6 qf7 qf8 qf9 qf10 qf11 qf12 qf13 qf14 qf15 qf16 qf17 qf18 qf19 v20 cf3 f3 qf0_0 qf0_1 qf0_2 v0_3 qf0_4 qf0_5 qf0_6 qf0_7 qf0_8 v0_9 v0_10 v0_11 v0_12 cf0_0 f0_0 cf0_2 f0_2 cf4 f4 nf u2_0 hu_2) (cwV 1 hts gv_h4_31 rfl rfl rfl (by decide +kernel) ⟨Nat.le_of_ble_eq_true rfl, Nat.le_of_ble_eq_true rfl⟩) ⟨fun a U g mk q => by obtain ⟨q0, q1, qP, qK, qD⟩ := q; exact ⟨q0, q1, qP, va_K.moved (u := U) (U := U.calling g mk a) (Vm.Alike.refl U.vm) qK, qD⟩, va_recv hKc hPc (ci := 2) (q0 := 0) rfl rfl, fun U hU hW => ⟨rfl, by rw [hU], by rw [hU]; exact hPc, va_K.moved hW.alike hKc, hDc.weaken (fun _ _ _ _ => trivial)⟩⟩ rfl rfl hl.1 rfl (lv_room (Nat.le_of_ble_eq_true rfl)) dX2_checkClassHead_46 ⟨Nat.le_of_ble_eq_true rfl, Nat.le_of_ble_eq_true rfl⟩) hS (fun q _ h => hFc q h) hFc ?_
      clear hS
      intro r_5 u t H1 locs ht hvm hw hB hz1 hk1 hS
      obtain ⟨⟩ := u
      obtain ⟨hP1, hK1, hD1⟩ := hB
      rw [ht] at hP1
      have hK1 := va_K.moved hvm.symm hK1
      try dsimp only at hw
      have hPD := va_join (wr := [(qf0_1, .inl (cf0_1, 3001, .inl f0_1))]) (w1 := [(h0, .inr (2, [.ref qf0, .ref qf1, .int v2, .ref qf3, .ref qf4, .ref qf5, .ref qf6, .ref qf7, .ref qf8, .ref qf9, .ref qf10, .ref qf11, .ref qf12, .ref qf13, .ref qf14, .ref qf15, .ref qf16, .ref qf17, .ref qf18, .ref qf19, .int v20])), (qf3, .inl (cf3, 334, .inl f3)), (qf0, .inr (9, [.ref qf0_0, .ref qf0_1, .ref qf0_2, .int v0_3, .ref qf0_4, .ref qf0_5, .ref qf0_6, .ref qf0_7, .ref qf0_8, .int v0_9, .int v0_10, .int v0_11, .int v0_12])), (qf0_0, .inl (cf0_0, 3001, .inl f0_0)), (qf0_2, .inl (cf0_2, 3001, .inl f0_2)), (qf4, .inl (cf4, 1740, .inl f4))]) hP hD [2, 0, 3, 5, 4, 6] [1] rfl rfl (by decide) (by decide) hk1 hFc hP1 hD1
      clear hP hD
      obtain ⟨hP, hD⟩ := hPD
      replace hK := (hK.sub (tys' := [(cf0_1, .int)]) [1] rfl).app hK1
      clear hPc hDc hKc hFc hP1 hK1 hD1 hz1 hk1 ht hvm
      generalize H1 = H at hP hS ⊢
      replace hP : va_P (dC, dI) vwCl [(qf0_1, .inl (cf0_1, 3001, .inl f0_1)), (h0, .inr (2, [.ref qf0, .ref qf1, .int v2, .ref qf3, .ref qf4, .ref qf5, .ref qf6, .ref qf7, .ref qf8, .ref qf9, .ref qf10, .ref qf11, .ref qf12, .ref qf13, .ref qf14, .ref qf15, .ref qf16, .ref qf17, .ref qf18, .ref qf19, .int v20])), (qf3, .inl (cf3, 334, .inl f3)), (qf0, .inr (9, [.ref qf0_0, .ref qf0_1, .ref qf0_2, .int v0_3, .ref qf0_4, .ref qf0_5, .ref qf0_6, .ref qf0_7, .ref qf0_8, .int v0_9, .int v0_10, .int v0_11, .int v0_12])), (qf0_0, .inl (cf0_0, 3001, .inl f0_0)), (qf0_2, .inl (cf0_2, 3001, .inl f0_2)), (qf4, .inl (cf4, 1740, .inl f4))] H := hP
      replace hD : va_D A [(qf0_1, .inl (cf0_1, 3001, .inl f0_1)), (h0, .inr (2, [.ref qf0, .ref qf1, .int v2, .ref qf3, .ref qf4, .ref qf5, .ref qf6, .ref qf7, .ref qf8, .ref qf9, .ref qf10, .ref qf11, .ref qf12, .ref qf13, .ref qf14, .ref qf15, .ref qf16, .ref qf17, .ref qf18, .ref qf19, .int v20])), (qf3, .inl (cf3, 334, .inl f3)), (qf0, .inr (9, [.ref qf0_0, .ref qf0_1, .ref qf0_2, .int v0_3, .ref qf0_4, .ref qf0_5, .ref qf0_6, .ref qf0_7, .ref qf0_8, .int v0_9, .int v0_10, .int v0_11, .int v0_12])), (qf0_0, .inl (cf0_0, 3001, .inl f0_0)), (qf0_2, .inl (cf0_2, 3001, .inl f0_2)), (qf4, .inl (cf4, 1740, .inl f4))] := hD
      replace hK : va_K (dC, dI) vwCl [(cf0_1, .int), (cf3, .int), (cf0_0, .int), (cf0_2, .int), (cf4, .int)] s := hK
      obtain rfl := hw
      refine lv_iconst (v := (-1)) hx hb dX2_checkClassHead_49 (by decide) ?_
      refine lv_icmp_ne (tgt := 64) hx hb dX2_checkClassHead_50 (by decide) (fun c_6 => ?_) (fun c_6 => ?_)
      · rw [if_neg c_6] at hsp
        refine lv_aload_n hx hb dX2_checkClassHead_64 rfl (lv_at hl 1 rfl) ?_
        refine lv_iload_n hx hb dX2_checkClassHead_65 rfl (lv_at hl 2 rfl) ?_
        obtain ⟨u3_0, hu_3, hsp⟩ := ox_bind hsp
        try dsimp only at hsp
        have hPc := hP.sub (ws' := [(h0, .inr (2, [.ref qf0, .ref qf1, .int v2, .ref qf3, .ref qf4, .ref qf5, .ref qf6, .ref qf7, .ref qf8, .ref qf9, .ref qf10, .ref qf11, .ref qf12, .ref qf13, .ref qf14, .ref qf15, .ref qf16, .ref qf17, .ref qf18, .ref qf19, .int v20])), (qf3, .inl (cf3, 334, .inl f3)), (qf0, .inr (9, [.ref qf0_0, .ref qf0_1, .ref qf0_2, .int v0_3, .ref qf0_4, .ref qf0_5, .ref qf0_6, .ref qf0_7, .ref qf0_8, .int v0_9, .int v0_10, .int v0_11, .int v0_12])), (qf0_0, .inl (cf0_0, 3001, .inl f0_0)), (qf0_2, .inl (cf0_2, 3001, .inl f0_2)), (qf4, .inl (cf4, 1740, .inl f4))]) [1, 2, 3, 4, 5, 6] rfl
        have hDc := hD.sub (ws' := [(h0, .inr (2, [.ref qf0, .ref qf1, .int v2, .ref qf3, .ref qf4, .ref qf5, .ref qf6, .ref qf7, .ref qf8, .ref qf9, .ref qf10, .ref qf11, .ref qf12, .ref qf13, .ref qf14, .ref qf15, .ref qf16, .ref qf17, .ref qf18, .ref qf19, .int v20])), (qf3, .inl (cf3, 334, .inl f3)), (qf0, .inr (9, [.ref qf0_0, .ref qf0_1, .ref qf0_2, .int v0_3, .ref qf0_4, .ref qf0_5, .ref qf0_6, .ref qf0_7, .ref qf0_8, .int v0_9, .int v0_10, .int v0_11, .int v0_12])), (qf0_0, .inl (cf0_0, 3001, .inl f0_0)), (qf0_2, .inl (cf0_2, 3001, .inl f0_2)), (qf4, .inl (cf4, 1740, .inl f4))]) [1, 2, 3, 4, 5, 6] (by decide) rfl
        have hKc := hK.sub (tys' := [(cf3, .int), (cf0_0, .int), (cf0_2, .int), (cf4, .int)]) [1, 2, 3, 4] rfl
        have hFc := va_free (wc := [(h0, .inr (2, [.ref qf0, .ref qf1, .int v2, .ref qf3, .ref qf4, .ref qf5, .ref qf6, .ref qf7, .ref qf8, .ref qf9, .ref qf10, .ref qf11, .ref qf12, .ref qf13, .ref qf14, .ref qf15, .ref qf16, .ref qf17, .ref qf18, .ref qf19, .int v20])), (qf3, .inl (cf3, 334, .inl f3)), (qf0, .inr (9, [.ref qf0_0, .ref qf0_1, .ref qf0_2, .int v0_3, .ref qf0_4, .ref qf0_5, .ref qf0_6, .ref qf0_7, .ref qf0_8, .int v0_9, .int v0_10, .int v0_11, .int v0_12])), (qf0_0, .inl (cf0_0, 3001, .inl f0_0)), (qf0_2, .inl (cf0_2, 3001, .inl f0_2)), (qf4, .inl (cf4, 1740, .inl f4))]) hD hS hA [1, 2, 3, 4, 5, 6] rfl
        refine va_calli (va_runV (As := [.int a1]) (rest := []) ⟨hx, hb, hml, hown, hts⟩ (t2_endsAbove l dC dI H.size h0 a1 qf0 qf1 v2 qf3 qf4 qf5 qf6 qf7 qf8 qf9 qf10 qf11 qf12 qf13 qf14 qf15 qf16 qf17 qf18 qf19 v20 cf3 f3 qf0_0 qf0_1 qf0_2 v0_3 qf0_4 qf0_5 qf0_6 qf0_7 qf0_8 v0_9 v0_10 v0_11 v0_12 cf0_0 f0_0 cf0_2 f0_2 cf4 f4 nf u3_0 hu_3) (cwV 1 hts gv_h4_41 rfl rfl rfl (by decide +kernel) ⟨Nat.le_of_ble_eq_true rfl, Nat.le_of_ble_eq_true rfl⟩) ⟨fun a U g mk q => by obtain ⟨q0, q1, qP, qK, qD⟩ := q; exact ⟨q0, q1, qP, va_K.moved (u := U) (U := U.calling g mk a) (Vm.Alike.refl U.vm) qK, qD⟩, va_recv hKc hPc (ci := 2) (q0 := 0) rfl rfl, fun U hU hW => ⟨rfl, by rw [hU], by rw [hU]; exact hPc, va_K.moved hW.alike hKc, hDc.weaken (fun _ _ _ _ => trivial)⟩⟩ rfl rfl hl.1 rfl (lv_room (Nat.le_of_ble_eq_true rfl)) dX2_checkClassHead_66 ⟨Nat.le_of_ble_eq_true rfl, Nat.le_of_ble_eq_true rfl⟩) hS (fun q _ h => hFc q h) hFc ?_
        clear hS
        intro r_7 u t H1 locs ht hvm hw hB hz1 hk1 hS
        obtain ⟨⟩ := u
        obtain ⟨hP1, hK1, hD1⟩ := hB
        rw [ht] at hP1
        have hK1 := va_K.moved hvm.symm hK1
        try dsimp only at hw
        have hPD := va_join (wr := [(qf0_1, .inl (cf0_1, 3001, .inl f0_1))]) (w1 := [(h0, .inr (2, [.ref qf0, .ref qf1, .int v2, .ref qf3, .ref qf4, .ref qf5, .ref qf6, .ref qf7, .ref qf8, .ref qf9, .ref qf10, .ref qf11, .ref qf12, .ref qf13, .ref qf14, .ref qf15, .ref qf16, .ref qf17, .ref qf18, .ref qf19, .int v20])), (qf3, .inl (cf3, 334, .inl f3)), (qf0, .inr (9, [.ref qf0_0, .ref qf0_1, .ref qf0_2, .int v0_3, .ref qf0_4, .ref qf0_5, .ref qf0_6, .ref qf0_7, .ref qf0_8, .int v0_9, .int v0_10, .int v0_11, .int v0_12])), (qf0_0, .inl (cf0_0, 3001, .inl f0_0)), (qf0_2, .inl (cf0_2, 3001, .inl f0_2)), (qf4, .inl (cf4, 1740, .inl f4))]) hP hD [1, 2, 3, 4, 5, 6] [0] rfl rfl (by decide) (by decide) hk1 hFc hP1 hD1
        clear hP hD
        obtain ⟨hP, hD⟩ := hPD
        replace hK := (hK.sub (tys' := [(cf0_1, .int)]) [0] rfl).app hK1
        clear hPc hDc hKc hFc hP1 hK1 hD1 hz1 hk1 ht hvm
        generalize H1 = H at hP hS ⊢
        replace hP : va_P (dC, dI) vwCl [(qf0_1, .inl (cf0_1, 3001, .inl f0_1)), (h0, .inr (2, [.ref qf0, .ref qf1, .int v2, .ref qf3, .ref qf4, .ref qf5, .ref qf6, .ref qf7, .ref qf8, .ref qf9, .ref qf10, .ref qf11, .ref qf12, .ref qf13, .ref qf14, .ref qf15, .ref qf16, .ref qf17, .ref qf18, .ref qf19, .int v20])), (qf3, .inl (cf3, 334, .inl f3)), (qf0, .inr (9, [.ref qf0_0, .ref qf0_1, .ref qf0_2, .int v0_3, .ref qf0_4, .ref qf0_5, .ref qf0_6, .ref qf0_7, .ref qf0_8, .int v0_9, .int v0_10, .int v0_11, .int v0_12])), (qf0_0, .inl (cf0_0, 3001, .inl f0_0)), (qf0_2, .inl (cf0_2, 3001, .inl f0_2)), (qf4, .inl (cf4, 1740, .inl f4))] H := hP
        replace hD : va_D A [(qf0_1, .inl (cf0_1, 3001, .inl f0_1)), (h0, .inr (2, [.ref qf0, .ref qf1, .int v2, .ref qf3, .ref qf4, .ref qf5, .ref qf6, .ref qf7, .ref qf8, .ref qf9, .ref qf10, .ref qf11, .ref qf12, .ref qf13, .ref qf14, .ref qf15, .ref qf16, .ref qf17, .ref qf18, .ref qf19, .int v20])), (qf3, .inl (cf3, 334, .inl f3)), (qf0, .inr (9, [.ref qf0_0, .ref qf0_1, .ref qf0_2, .int v0_3, .ref qf0_4, .ref qf0_5, .ref qf0_6, .ref qf0_7, .ref qf0_8, .int v0_9, .int v0_10, .int v0_11, .int v0_12])), (qf0_0, .inl (cf0_0, 3001, .inl f0_0)), (qf0_2, .inl (cf0_2, 3001, .inl f0_2)), (qf4, .inl (cf4, 1740, .inl f4))] := hD
        replace hK : va_K (dC, dI) vwCl [(cf0_1, .int), (cf3, .int), (cf0_0, .int), (cf0_2, .int), (cf4, .int)] s := hK
        obtain ⟨rfl, hz_3⟩ := hw
        rcases hz_3 with rfl | rfl
        · rw [if_pos rfl] at hsp
          refine lv_if_ne (tgt := 84) hx hb dX2_checkClassHead_69 (by decide) (fun c_8 => (show False by revert c_8; decide).elim) (fun c_8 => ?_)
          refine lv_aload_n hx hb dX2_checkClassHead_72 rfl (lv_at hl 1 rfl) ?_
          refine va_get (D := (dC, dI)) (ci := 2) (v := .ref qf0) (C := RX2) (T := TX2) (N := 21) hx hb hts uV_h4_X2 hown hK hP 1 rfl rfl 0 (by decide) (hts (.fieldLink RX2 74 "ClassMill$Heads" "text" "LClassMill$Text;") mw_h4_145) (fun _ h9 => h9) rfl dX2_checkClassHead_73 ?_
          refine lv_bipush (v := 6) hx hb dX2_checkClassHead_76 (by decide) ?_
          refine lv_iload_n hx hb dX2_checkClassHead_78 rfl (lv_at hl 0 rfl) ?_
          refine lv_iconst (v := 2) hx hb dX2_checkClassHead_79 (by decide) ?_
          refine lv_iadd hx hb dX2_checkClassHead_80 ?_
          obtain ⟨⟨u4_0, u4_1⟩, hu_4, hsp⟩ := ox_bind hsp
          try dsimp only at hsp
          have hPc := hP.sub (ws' := [(qf0, .inr (9, [.ref qf0_0, .ref qf0_1, .ref qf0_2, .int v0_3, .ref qf0_4, .ref qf0_5, .ref qf0_6, .ref qf0_7, .ref qf0_8, .int v0_9, .int v0_10, .int v0_11, .int v0_12])), (qf0_1, .inl (cf0_1, 3001, .inl f0_1))]) [3, 0] rfl
          have hDc := hD.sub (ws' := [(qf0, .inr (9, [.ref qf0_0, .ref qf0_1, .ref qf0_2, .int v0_3, .ref qf0_4, .ref qf0_5, .ref qf0_6, .ref qf0_7, .ref qf0_8, .int v0_9, .int v0_10, .int v0_11, .int v0_12])), (qf0_1, .inl (cf0_1, 3001, .inl f0_1))]) [3, 0] (by decide) rfl
          have hKc := hK.sub (tys' := [(cf0_1, .int)]) [0] rfl
          have hFc := va_free (wc := [(qf0, .inr (9, [.ref qf0_0, .ref qf0_1, .ref qf0_2, .int v0_3, .ref qf0_4, .ref qf0_5, .ref qf0_6, .ref qf0_7, .ref qf0_8, .int v0_9, .int v0_10, .int v0_11, .int v0_12])), (qf0_1, .inl (cf0_1, 3001, .inl f0_1))]) hD hS hA [3, 0] rfl
          refine va_callv (va_runV (As := [.int 6, .int ((f3 (a1 : Int32).toNatClampNeg) + 2)]) (rest := []) ⟨hx, hb, hml, hown, hts⟩ (t9_tell l dC dI H.size qf0 6 (((f3 (a1 : Int32).toNatClampNeg) + 2)) qf0_0 qf0_1 qf0_2 v0_3 qf0_4 qf0_5 qf0_6 qf0_7 qf0_8 v0_9 v0_10 v0_11 v0_12 cf0_1 f0_1 nf u4_0 u4_1 hu_4) (cwV 2 hts gv_h4_33 rfl rfl rfl (by decide +kernel) ⟨Nat.le_of_ble_eq_true rfl, Nat.le_of_ble_eq_true rfl⟩) ⟨fun a U g mk q => by obtain ⟨q0, q1, qP, qK, qD⟩ := q; exact ⟨q0, q1, qP, va_K.moved (u := U) (U := U.calling g mk a) (Vm.Alike.refl U.vm) qK, qD⟩, va_recv hKc hPc (ci := 9) (q0 := 0) rfl rfl, fun U hU hW => ⟨rfl, by rw [hU], by rw [hU]; exact hPc, va_K.moved hW.alike hKc, hDc.weaken (fun _ _ _ _ => trivial)⟩⟩ rfl rfl hl.1 rfl (lv_room (Nat.le_of_ble_eq_true rfl)) dX2_checkClassHead_81 ⟨Nat.le_of_ble_eq_true rfl, Nat.le_of_ble_eq_true rfl⟩) hS (fun q _ h => hFc q h) hFc ?_
          clear hS
          intro u t H1 locs ht hvm hw hB hz1 hk1 hS
          obtain ⟨⟩ := u
          obtain ⟨hP1, hK1, hD1⟩ := hB
          rw [ht] at hP1
          have hK1 := va_K.moved hvm.symm hK1
          try dsimp only at hw
          have hPD := va_join (wr := [(h0, .inr (2, [.ref qf0, .ref qf1, .int v2, .ref qf3, .ref qf4, .ref qf5, .ref qf6, .ref qf7, .ref qf8, .ref qf9, .ref qf10, .ref qf11, .ref qf12, .ref qf13, .ref qf14, .ref qf15, .ref qf16, .ref qf17, .ref qf18, .ref qf19, .int v20])), (qf3, .inl (cf3, 334, .inl f3)), (qf0_0, .inl (cf0_0, 3001, .inl f0_0)), (qf0_2, .inl (cf0_2, 3001, .inl f0_2)), (qf4, .inl (cf4, 1740, .inl f4))]) (w1 := [(qf0, .inr (9, [.ref qf0_0, .ref qf0_1, .ref qf0_2, .int v0_3, .ref qf0_4, .ref qf0_5, .ref qf0_6, .ref qf0_7, .ref qf0_8, .int v0_9, .int v0_10, .int u4_0, .int u4_1])), (qf0_1, .inl (cf0_1, 3001, .inl f0_1))]) hP hD [3, 0] [1, 2, 4, 5, 6] rfl rfl (by decide) (by decide) hk1 hFc hP1 hD1
          clear hP hD
          obtain ⟨hP, hD⟩ := hPD
          replace hK := (hK.sub (tys' := [(cf3, .int), (cf0_0, .int), (cf0_2, .int), (cf4, .int)]) [1, 2, 3, 4] rfl).app hK1
          clear hPc hDc hKc hFc hP1 hK1 hD1 hz1 hk1 ht hvm
          generalize H1 = H at hP hS ⊢
          replace hP : va_P (dC, dI) vwCl [(h0, .inr (2, [.ref qf0, .ref qf1, .int v2, .ref qf3, .ref qf4, .ref qf5, .ref qf6, .ref qf7, .ref qf8, .ref qf9, .ref qf10, .ref qf11, .ref qf12, .ref qf13, .ref qf14, .ref qf15, .ref qf16, .ref qf17, .ref qf18, .ref qf19, .int v20])), (qf3, .inl (cf3, 334, .inl f3)), (qf0_0, .inl (cf0_0, 3001, .inl f0_0)), (qf0_2, .inl (cf0_2, 3001, .inl f0_2)), (qf4, .inl (cf4, 1740, .inl f4)), (qf0, .inr (9, [.ref qf0_0, .ref qf0_1, .ref qf0_2, .int v0_3, .ref qf0_4, .ref qf0_5, .ref qf0_6, .ref qf0_7, .ref qf0_8, .int v0_9, .int v0_10, .int u4_0, .int u4_1])), (qf0_1, .inl (cf0_1, 3001, .inl f0_1))] H := hP
          replace hD : va_D A [(h0, .inr (2, [.ref qf0, .ref qf1, .int v2, .ref qf3, .ref qf4, .ref qf5, .ref qf6, .ref qf7, .ref qf8, .ref qf9, .ref qf10, .ref qf11, .ref qf12, .ref qf13, .ref qf14, .ref qf15, .ref qf16, .ref qf17, .ref qf18, .ref qf19, .int v20])), (qf3, .inl (cf3, 334, .inl f3)), (qf0_0, .inl (cf0_0, 3001, .inl f0_0)), (qf0_2, .inl (cf0_2, 3001, .inl f0_2)), (qf4, .inl (cf4, 1740, .inl f4)), (qf0, .inr (9, [.ref qf0_0, .ref qf0_1, .ref qf0_2, .int v0_3, .ref qf0_4, .ref qf0_5, .ref qf0_6, .ref qf0_7, .ref qf0_8, .int v0_9, .int v0_10, .int u4_0, .int u4_1])), (qf0_1, .inl (cf0_1, 3001, .inl f0_1))] := hD
          replace hK : va_K (dC, dI) vwCl [(cf3, .int), (cf0_0, .int), (cf0_2, .int), (cf4, .int), (cf0_1, .int)] s := hK
          have hr0 := Option.some.inj hsp
          clear hsp
          obtain ⟨hq0, hr1⟩ := Prod.mk.inj hr0
          clear hr0
          subst hq0
          subst hr1
          have hP9 := hP.sub (ws' := [(h0, .inr (2, [.ref qf0, .ref qf1, .int v2, .ref qf3, .ref qf4, .ref qf5, .ref qf6, .ref qf7, .ref qf8, .ref qf9, .ref qf10, .ref qf11, .ref qf12, .ref qf13, .ref qf14, .ref qf15, .ref qf16, .ref qf17, .ref qf18, .ref qf19, .int v20])), (qf3, .inl (cf3, 334, .inl f3)), (qf0, .inr (9, [.ref qf0_0, .ref qf0_1, .ref qf0_2, .int v0_3, .ref qf0_4, .ref qf0_5, .ref qf0_6, .ref qf0_7, .ref qf0_8, .int v0_9, .int v0_10, .int u4_0, .int u4_1])), (qf0_2, .inl (cf0_2, 3001, .inl f0_2)), (qf0_0, .inl (cf0_0, 3001, .inl f0_0)), (qf4, .inl (cf4, 1740, .inl f4)), (qf0_1, .inl (cf0_1, 3001, .inl f0_1))]) [0, 1, 5, 3, 2, 4, 6] rfl
          have hD9 := hD.sub (ws' := [(h0, .inr (2, [.ref qf0, .ref qf1, .int v2, .ref qf3, .ref qf4, .ref qf5, .ref qf6, .ref qf7, .ref qf8, .ref qf9, .ref qf10, .ref qf11, .ref qf12, .ref qf13, .ref qf14, .ref qf15, .ref qf16, .ref qf17, .ref qf18, .ref qf19, .int v20])), (qf3, .inl (cf3, 334, .inl f3)), (qf0, .inr (9, [.ref qf0_0, .ref qf0_1, .ref qf0_2, .int v0_3, .ref qf0_4, .ref qf0_5, .ref qf0_6, .ref qf0_7, .ref qf0_8, .int v0_9, .int v0_10, .int u4_0, .int u4_1])), (qf0_2, .inl (cf0_2, 3001, .inl f0_2)), (qf0_0, .inl (cf0_0, 3001, .inl f0_0)), (qf4, .inl (cf4, 1740, .inl f4)), (qf0_1, .inl (cf0_1, 3001, .inl f0_1))]) [0, 1, 5, 3, 2, 4, 6] (by decide) rfl
          have hK9 := hK.sub (tys' := [(cf3, .int), (cf0_2, .int), (cf0_0, .int), (cf4, .int), (cf0_1, .int)]) [0, 2, 1, 3, 4] rfl
          exact W.vret hx hb hr (fun t ht hW => ⟨⟨(), rfl, trivial, by rw [ht]; exact hP9, va_K.moved hW.alike hK9, hD9⟩, hS.F ht⟩) hS.2.2 dX2_checkClassHead_84
        · rw [if_neg (by decide)] at hsp
          refine lv_if_ne (tgt := 84) hx hb dX2_checkClassHead_69 (by decide) (fun c_9 => ?_) (fun c_9 => (show False by revert c_9; decide).elim)
          have hr0 := Option.some.inj hsp
          clear hsp
          obtain ⟨hq0, hr1⟩ := Prod.mk.inj hr0
          clear hr0
          subst hq0
          subst hr1
          have hP9 := hP.sub (ws' := [(h0, .inr (2, [.ref qf0, .ref qf1, .int v2, .ref qf3, .ref qf4, .ref qf5, .ref qf6, .ref qf7, .ref qf8, .ref qf9, .ref qf10, .ref qf11, .ref qf12, .ref qf13, .ref qf14, .ref qf15, .ref qf16, .ref qf17, .ref qf18, .ref qf19, .int v20])), (qf3, .inl (cf3, 334, .inl f3)), (qf0, .inr (9, [.ref qf0_0, .ref qf0_1, .ref qf0_2, .int v0_3, .ref qf0_4, .ref qf0_5, .ref qf0_6, .ref qf0_7, .ref qf0_8, .int v0_9, .int v0_10, .int v0_11, .int v0_12])), (qf0_2, .inl (cf0_2, 3001, .inl f0_2)), (qf0_0, .inl (cf0_0, 3001, .inl f0_0)), (qf4, .inl (cf4, 1740, .inl f4)), (qf0_1, .inl (cf0_1, 3001, .inl f0_1))]) [1, 2, 3, 5, 4, 6, 0] rfl
          have hD9 := hD.sub (ws' := [(h0, .inr (2, [.ref qf0, .ref qf1, .int v2, .ref qf3, .ref qf4, .ref qf5, .ref qf6, .ref qf7, .ref qf8, .ref qf9, .ref qf10, .ref qf11, .ref qf12, .ref qf13, .ref qf14, .ref qf15, .ref qf16, .ref qf17, .ref qf18, .ref qf19, .int v20])), (qf3, .inl (cf3, 334, .inl f3)), (qf0, .inr (9, [.ref qf0_0, .ref qf0_1, .ref qf0_2, .int v0_3, .ref qf0_4, .ref qf0_5, .ref qf0_6, .ref qf0_7, .ref qf0_8, .int v0_9, .int v0_10, .int v0_11, .int v0_12])), (qf0_2, .inl (cf0_2, 3001, .inl f0_2)), (qf0_0, .inl (cf0_0, 3001, .inl f0_0)), (qf4, .inl (cf4, 1740, .inl f4)), (qf0_1, .inl (cf0_1, 3001, .inl f0_1))]) [1, 2, 3, 5, 4, 6, 0] (by decide) rfl
          have hK9 := hK.sub (tys' := [(cf3, .int), (cf0_2, .int), (cf0_0, .int), (cf4, .int), (cf0_1, .int)]) [1, 3, 2, 4, 0] rfl
          exact W.vret hx hb hr (fun t ht hW => ⟨⟨(), rfl, trivial, by rw [ht]; exact hP9, va_K.moved hW.alike hK9, hD9⟩, hS.F ht⟩) hS.2.2 dX2_checkClassHead_84
      · rw [if_pos c_6] at hsp
        refine lv_aload_n hx hb dX2_checkClassHead_53 rfl (lv_at hl 1 rfl) ?_
        refine va_get (D := (dC, dI)) (ci := 2) (v := .ref qf0) (C := RX2) (T := TX2) (N := 21) hx hb hts uV_h4_X2 hown hK hP 1 rfl rfl 0 (by decide) (hts (.fieldLink RX2 74 "ClassMill$Heads" "text" "LClassMill$Text;") mw_h4_145) (fun _ h9 => h9) rfl dX2_checkClassHead_54 ?_
        refine lv_iconst (v := 5) hx hb dX2_checkClassHead_57 (by decide) ?_
        refine lv_iload_n hx hb dX2_checkClassHead_58 rfl (lv_at hl 0 rfl) ?_
        refine lv_iconst (v := 2) hx hb dX2_checkClassHead_59 (by decide) ?_
        refine lv_iadd hx hb dX2_checkClassHead_60 ?_
        obtain ⟨⟨u5_0, u5_1⟩, hu_5, hsp⟩ := ox_bind hsp
        try dsimp only at hsp
        have hPc := hP.sub (ws' := [(qf0, .inr (9, [.ref qf0_0, .ref qf0_1, .ref qf0_2, .int v0_3, .ref qf0_4, .ref qf0_5, .ref qf0_6, .ref qf0_7, .ref qf0_8, .int v0_9, .int v0_10, .int v0_11, .int v0_12])), (qf0_1, .inl (cf0_1, 3001, .inl f0_1))]) [3, 0] rfl
        have hDc := hD.sub (ws' := [(qf0, .inr (9, [.ref qf0_0, .ref qf0_1, .ref qf0_2, .int v0_3, .ref qf0_4, .ref qf0_5, .ref qf0_6, .ref qf0_7, .ref qf0_8, .int v0_9, .int v0_10, .int v0_11, .int v0_12])), (qf0_1, .inl (cf0_1, 3001, .inl f0_1))]) [3, 0] (by decide) rfl
        have hKc := hK.sub (tys' := [(cf0_1, .int)]) [0] rfl
        have hFc := va_free (wc := [(qf0, .inr (9, [.ref qf0_0, .ref qf0_1, .ref qf0_2, .int v0_3, .ref qf0_4, .ref qf0_5, .ref qf0_6, .ref qf0_7, .ref qf0_8, .int v0_9, .int v0_10, .int v0_11, .int v0_12])), (qf0_1, .inl (cf0_1, 3001, .inl f0_1))]) hD hS hA [3, 0] rfl
        refine va_callv (va_runV (As := [.int 5, .int ((f3 (a1 : Int32).toNatClampNeg) + 2)]) (rest := []) ⟨hx, hb, hml, hown, hts⟩ (t9_tell l dC dI H.size qf0 5 (((f3 (a1 : Int32).toNatClampNeg) + 2)) qf0_0 qf0_1 qf0_2 v0_3 qf0_4 qf0_5 qf0_6 qf0_7 qf0_8 v0_9 v0_10 v0_11 v0_12 cf0_1 f0_1 nf u5_0 u5_1 hu_5) (cwV 2 hts gv_h4_33 rfl rfl rfl (by decide +kernel) ⟨Nat.le_of_ble_eq_true rfl, Nat.le_of_ble_eq_true rfl⟩) ⟨fun a U g mk q => by obtain ⟨q0, q1, qP, qK, qD⟩ := q; exact ⟨q0, q1, qP, va_K.moved (u := U) (U := U.calling g mk a) (Vm.Alike.refl U.vm) qK, qD⟩, va_recv hKc hPc (ci := 9) (q0 := 0) rfl rfl, fun U hU hW => ⟨rfl, by rw [hU], by rw [hU]; exact hPc, va_K.moved hW.alike hKc, hDc.weaken (fun _ _ _ _ => trivial)⟩⟩ rfl rfl hl.1 rfl (lv_room (Nat.le_of_ble_eq_true rfl)) dX2_checkClassHead_61 ⟨Nat.le_of_ble_eq_true rfl, Nat.le_of_ble_eq_true rfl⟩) hS (fun q _ h => hFc q h) hFc ?_
        clear hS
        intro u t H1 locs ht hvm hw hB hz1 hk1 hS
        obtain ⟨⟩ := u
        obtain ⟨hP1, hK1, hD1⟩ := hB
        rw [ht] at hP1
        have hK1 := va_K.moved hvm.symm hK1
        try dsimp only at hw
        have hPD := va_join (wr := [(h0, .inr (2, [.ref qf0, .ref qf1, .int v2, .ref qf3, .ref qf4, .ref qf5, .ref qf6, .ref qf7, .ref qf8, .ref qf9, .ref qf10, .ref qf11, .ref qf12, .ref qf13, .ref qf14, .ref qf15, .ref qf16, .ref qf17, .ref qf18, .ref qf19, .int v20])), (qf3, .inl (cf3, 334, .inl f3)), (qf0_0, .inl (cf0_0, 3001, .inl f0_0)), (qf0_2, .inl (cf0_2, 3001, .inl f0_2)), (qf4, .inl (cf4, 1740, .inl f4))]) (w1 := [(qf0, .inr (9, [.ref qf0_0, .ref qf0_1, .ref qf0_2, .int v0_3, .ref qf0_4, .ref qf0_5, .ref qf0_6, .ref qf0_7, .ref qf0_8, .int v0_9, .int v0_10, .int u5_0, .int u5_1])), (qf0_1, .inl (cf0_1, 3001, .inl f0_1))]) hP hD [3, 0] [1, 2, 4, 5, 6] rfl rfl (by decide) (by decide) hk1 hFc hP1 hD1
        clear hP hD
        obtain ⟨hP, hD⟩ := hPD
        replace hK := (hK.sub (tys' := [(cf3, .int), (cf0_0, .int), (cf0_2, .int), (cf4, .int)]) [1, 2, 3, 4] rfl).app hK1
        clear hPc hDc hKc hFc hP1 hK1 hD1 hz1 hk1 ht hvm
        generalize H1 = H at hP hS ⊢
        replace hP : va_P (dC, dI) vwCl [(h0, .inr (2, [.ref qf0, .ref qf1, .int v2, .ref qf3, .ref qf4, .ref qf5, .ref qf6, .ref qf7, .ref qf8, .ref qf9, .ref qf10, .ref qf11, .ref qf12, .ref qf13, .ref qf14, .ref qf15, .ref qf16, .ref qf17, .ref qf18, .ref qf19, .int v20])), (qf3, .inl (cf3, 334, .inl f3)), (qf0_0, .inl (cf0_0, 3001, .inl f0_0)), (qf0_2, .inl (cf0_2, 3001, .inl f0_2)), (qf4, .inl (cf4, 1740, .inl f4)), (qf0, .inr (9, [.ref qf0_0, .ref qf0_1, .ref qf0_2, .int v0_3, .ref qf0_4, .ref qf0_5, .ref qf0_6, .ref qf0_7, .ref qf0_8, .int v0_9, .int v0_10, .int u5_0, .int u5_1])), (qf0_1, .inl (cf0_1, 3001, .inl f0_1))] H := hP
        replace hD : va_D A [(h0, .inr (2, [.ref qf0, .ref qf1, .int v2, .ref qf3, .ref qf4, .ref qf5, .ref qf6, .ref qf7, .ref qf8, .ref qf9, .ref qf10, .ref qf11, .ref qf12, .ref qf13, .ref qf14, .ref qf15, .ref qf16, .ref qf17, .ref qf18, .ref qf19, .int v20])), (qf3, .inl (cf3, 334, .inl f3)), (qf0_0, .inl (cf0_0, 3001, .inl f0_0)), (qf0_2, .inl (cf0_2, 3001, .inl f0_2)), (qf4, .inl (cf4, 1740, .inl f4)), (qf0, .inr (9, [.ref qf0_0, .ref qf0_1, .ref qf0_2, .int v0_3, .ref qf0_4, .ref qf0_5, .ref qf0_6, .ref qf0_7, .ref qf0_8, .int v0_9, .int v0_10, .int u5_0, .int u5_1])), (qf0_1, .inl (cf0_1, 3001, .inl f0_1))] := hD
        replace hK : va_K (dC, dI) vwCl [(cf3, .int), (cf0_0, .int), (cf0_2, .int), (cf4, .int), (cf0_1, .int)] s := hK
        refine lv_aload_n hx hb dX2_checkClassHead_64 rfl (lv_at hl 1 rfl) ?_
        refine lv_iload_n hx hb dX2_checkClassHead_65 rfl (lv_at hl 2 rfl) ?_
        obtain ⟨u6_0, hu_6, hsp⟩ := ox_bind hsp
        try dsimp only at hsp
        have hPc := hP.sub (ws' := [(h0, .inr (2, [.ref qf0, .ref qf1, .int v2, .ref qf3, .ref qf4, .ref qf5, .ref qf6, .ref qf7, .ref qf8, .ref qf9, .ref qf10, .ref qf11, .ref qf12, .ref qf13, .ref qf14, .ref qf15, .ref qf16, .ref qf17, .ref qf18, .ref qf19, .int v20])), (qf3, .inl (cf3, 334, .inl f3)), (qf0, .inr (9, [.ref qf0_0, .ref qf0_1, .ref qf0_2, .int v0_3, .ref qf0_4, .ref qf0_5, .ref qf0_6, .ref qf0_7, .ref qf0_8, .int v0_9, .int v0_10, .int u5_0, .int u5_1])), (qf0_0, .inl (cf0_0, 3001, .inl f0_0)), (qf0_2, .inl (cf0_2, 3001, .inl f0_2)), (qf4, .inl (cf4, 1740, .inl f4))]) [0, 1, 5, 2, 3, 4] rfl
        have hDc := hD.sub (ws' := [(h0, .inr (2, [.ref qf0, .ref qf1, .int v2, .ref qf3, .ref qf4, .ref qf5, .ref qf6, .ref qf7, .ref qf8, .ref qf9, .ref qf10, .ref qf11, .ref qf12, .ref qf13, .ref qf14, .ref qf15, .ref qf16, .ref qf17, .ref qf18, .ref qf19, .int v20])), (qf3, .inl (cf3, 334, .inl f3)), (qf0, .inr (9, [.ref qf0_0, .ref qf0_1, .ref qf0_2, .int v0_3, .ref qf0_4, .ref qf0_5, .ref qf0_6, .ref qf0_7, .ref qf0_8, .int v0_9, .int v0_10, .int u5_0, .int u5_1])), (qf0_0, .inl (cf0_0, 3001, .inl f0_0)), (qf0_2, .inl (cf0_2, 3001, .inl f0_2)), (qf4, .inl (cf4, 1740, .inl f4))]) [0, 1, 5, 2, 3, 4] (by decide) rfl
        have hKc := hK.sub (tys' := [(cf3, .int), (cf0_0, .int), (cf0_2, .int), (cf4, .int)]) [0, 1, 2, 3] rfl
        have hFc := va_free (wc := [(h0, .inr (2, [.ref qf0, .ref qf1, .int v2, .ref qf3, .ref qf4, .ref qf5, .ref qf6, .ref qf7, .ref qf8, .ref qf9, .ref qf10, .ref qf11, .ref qf12, .ref qf13, .ref qf14, .ref qf15, .ref qf16, .ref qf17, .ref qf18, .ref qf19, .int v20])), (qf3, .inl (cf3, 334, .inl f3)), (qf0, .inr (9, [.ref qf0_0, .ref qf0_1, .ref qf0_2, .int v0_3, .ref qf0_4, .ref qf0_5, .ref qf0_6, .ref qf0_7, .ref qf0_8, .int v0_9, .int v0_10, .int u5_0, .int u5_1])), (qf0_0, .inl (cf0_0, 3001, .inl f0_0)), (qf0_2, .inl (cf0_2, 3001, .inl f0_2)), (qf4, .inl (cf4, 1740, .inl f4))]) hD hS hA [0, 1, 5, 2, 3, 4] rfl
        refine va_calli (va_runV (As := [.int a1]) (rest := []) ⟨hx, hb, hml, hown, hts⟩ (t2_endsAbove l dC dI H.size h0 a1 qf0 qf1 v2 qf3 qf4 qf5 qf6 qf7 qf8 qf9 qf10 qf11 qf12 qf13 qf14 qf15 qf16 qf17 qf18 qf19 v20 cf3 f3 qf0_0 qf0_1 qf0_2 v0_3 qf0_4 qf0_5 qf0_6 qf0_7 qf0_8 v0_9 v0_10 u5_0 u5_1 cf0_0 f0_0 cf0_2 f0_2 cf4 f4 nf u6_0 hu_6) (cwV 1 hts gv_h4_41 rfl rfl rfl (by decide +kernel) ⟨Nat.le_of_ble_eq_true rfl, Nat.le_of_ble_eq_true rfl⟩) ⟨fun a U g mk q => by obtain ⟨q0, q1, qP, qK, qD⟩ := q; exact ⟨q0, q1, qP, va_K.moved (u := U) (U := U.calling g mk a) (Vm.Alike.refl U.vm) qK, qD⟩, va_recv hKc hPc (ci := 2) (q0 := 0) rfl rfl, fun U hU hW => ⟨rfl, by rw [hU], by rw [hU]; exact hPc, va_K.moved hW.alike hKc, hDc.weaken (fun _ _ _ _ => trivial)⟩⟩ rfl rfl hl.1 rfl (lv_room (Nat.le_of_ble_eq_true rfl)) dX2_checkClassHead_66 ⟨Nat.le_of_ble_eq_true rfl, Nat.le_of_ble_eq_true rfl⟩) hS (fun q _ h => hFc q h) hFc ?_
        clear hS
        intro r_10 u t H1 locs ht hvm hw hB hz1 hk1 hS
        obtain ⟨⟩ := u
        obtain ⟨hP1, hK1, hD1⟩ := hB
        rw [ht] at hP1
        have hK1 := va_K.moved hvm.symm hK1
        try dsimp only at hw
        have hPD := va_join (wr := [(qf0_1, .inl (cf0_1, 3001, .inl f0_1))]) (w1 := [(h0, .inr (2, [.ref qf0, .ref qf1, .int v2, .ref qf3, .ref qf4, .ref qf5, .ref qf6, .ref qf7, .ref qf8, .ref qf9, .ref qf10, .ref qf11, .ref qf12, .ref qf13, .ref qf14, .ref qf15, .ref qf16, .ref qf17, .ref qf18, .ref qf19, .int v20])), (qf3, .inl (cf3, 334, .inl f3)), (qf0, .inr (9, [.ref qf0_0, .ref qf0_1, .ref qf0_2, .int v0_3, .ref qf0_4, .ref qf0_5, .ref qf0_6, .ref qf0_7, .ref qf0_8, .int v0_9, .int v0_10, .int u5_0, .int u5_1])), (qf0_0, .inl (cf0_0, 3001, .inl f0_0)), (qf0_2, .inl (cf0_2, 3001, .inl f0_2)), (qf4, .inl (cf4, 1740, .inl f4))]) hP hD [0, 1, 5, 2, 3, 4] [6] rfl rfl (by decide) (by decide) hk1 hFc hP1 hD1
        clear hP hD
        obtain ⟨hP, hD⟩ := hPD
        replace hK := (hK.sub (tys' := [(cf0_1, .int)]) [4] rfl).app hK1
        clear hPc hDc hKc hFc hP1 hK1 hD1 hz1 hk1 ht hvm
        generalize H1 = H at hP hS ⊢
        replace hP : va_P (dC, dI) vwCl [(qf0_1, .inl (cf0_1, 3001, .inl f0_1)), (h0, .inr (2, [.ref qf0, .ref qf1, .int v2, .ref qf3, .ref qf4, .ref qf5, .ref qf6, .ref qf7, .ref qf8, .ref qf9, .ref qf10, .ref qf11, .ref qf12, .ref qf13, .ref qf14, .ref qf15, .ref qf16, .ref qf17, .ref qf18, .ref qf19, .int v20])), (qf3, .inl (cf3, 334, .inl f3)), (qf0, .inr (9, [.ref qf0_0, .ref qf0_1, .ref qf0_2, .int v0_3, .ref qf0_4, .ref qf0_5, .ref qf0_6, .ref qf0_7, .ref qf0_8, .int v0_9, .int v0_10, .int u5_0, .int u5_1])), (qf0_0, .inl (cf0_0, 3001, .inl f0_0)), (qf0_2, .inl (cf0_2, 3001, .inl f0_2)), (qf4, .inl (cf4, 1740, .inl f4))] H := hP
        replace hD : va_D A [(qf0_1, .inl (cf0_1, 3001, .inl f0_1)), (h0, .inr (2, [.ref qf0, .ref qf1, .int v2, .ref qf3, .ref qf4, .ref qf5, .ref qf6, .ref qf7, .ref qf8, .ref qf9, .ref qf10, .ref qf11, .ref qf12, .ref qf13, .ref qf14, .ref qf15, .ref qf16, .ref qf17, .ref qf18, .ref qf19, .int v20])), (qf3, .inl (cf3, 334, .inl f3)), (qf0, .inr (9, [.ref qf0_0, .ref qf0_1, .ref qf0_2, .int v0_3, .ref qf0_4, .ref qf0_5, .ref qf0_6, .ref qf0_7, .ref qf0_8, .int v0_9, .int v0_10, .int u5_0, .int u5_1])), (qf0_0, .inl (cf0_0, 3001, .inl f0_0)), (qf0_2, .inl (cf0_2, 3001, .inl f0_2)), (qf4, .inl (cf4, 1740, .inl f4))] := hD
        replace hK : va_K (dC, dI) vwCl [(cf0_1, .int), (cf3, .int), (cf0_0, .int), (cf0_2, .int), (cf4, .int)] s := hK
        obtain ⟨rfl, hz_6⟩ := hw
        rcases hz_6 with rfl | rfl
        · rw [if_pos rfl] at hsp
          refine lv_if_ne (tgt := 84) hx hb dX2_checkClassHead_69 (by decide) (fun c_11 => (show False by revert c_11; decide).elim) (fun c_11 => ?_)
          refine lv_aload_n hx hb dX2_checkClassHead_72 rfl (lv_at hl 1 rfl) ?_
          refine va_get (D := (dC, dI)) (ci := 2) (v := .ref qf0) (C := RX2) (T := TX2) (N := 21) hx hb hts uV_h4_X2 hown hK hP 1 rfl rfl 0 (by decide) (hts (.fieldLink RX2 74 "ClassMill$Heads" "text" "LClassMill$Text;") mw_h4_145) (fun _ h9 => h9) rfl dX2_checkClassHead_73 ?_
          refine lv_bipush (v := 6) hx hb dX2_checkClassHead_76 (by decide) ?_
          refine lv_iload_n hx hb dX2_checkClassHead_78 rfl (lv_at hl 0 rfl) ?_
          refine lv_iconst (v := 2) hx hb dX2_checkClassHead_79 (by decide) ?_
          refine lv_iadd hx hb dX2_checkClassHead_80 ?_
          obtain ⟨⟨u7_0, u7_1⟩, hu_7, hsp⟩ := ox_bind hsp
          try dsimp only at hsp
          have hPc := hP.sub (ws' := [(qf0, .inr (9, [.ref qf0_0, .ref qf0_1, .ref qf0_2, .int v0_3, .ref qf0_4, .ref qf0_5, .ref qf0_6, .ref qf0_7, .ref qf0_8, .int v0_9, .int v0_10, .int u5_0, .int u5_1])), (qf0_1, .inl (cf0_1, 3001, .inl f0_1))]) [3, 0] rfl
          have hDc := hD.sub (ws' := [(qf0, .inr (9, [.ref qf0_0, .ref qf0_1, .ref qf0_2, .int v0_3, .ref qf0_4, .ref qf0_5, .ref qf0_6, .ref qf0_7, .ref qf0_8, .int v0_9, .int v0_10, .int u5_0, .int u5_1])), (qf0_1, .inl (cf0_1, 3001, .inl f0_1))]) [3, 0] (by decide) rfl
          have hKc := hK.sub (tys' := [(cf0_1, .int)]) [0] rfl
          have hFc := va_free (wc := [(qf0, .inr (9, [.ref qf0_0, .ref qf0_1, .ref qf0_2, .int v0_3, .ref qf0_4, .ref qf0_5, .ref qf0_6, .ref qf0_7, .ref qf0_8, .int v0_9, .int v0_10, .int u5_0, .int u5_1])), (qf0_1, .inl (cf0_1, 3001, .inl f0_1))]) hD hS hA [3, 0] rfl
          refine va_callv (va_runV (As := [.int 6, .int ((f3 (a1 : Int32).toNatClampNeg) + 2)]) (rest := []) ⟨hx, hb, hml, hown, hts⟩ (t9_tell l dC dI H.size qf0 6 (((f3 (a1 : Int32).toNatClampNeg) + 2)) qf0_0 qf0_1 qf0_2 v0_3 qf0_4 qf0_5 qf0_6 qf0_7 qf0_8 v0_9 v0_10 u5_0 u5_1 cf0_1 f0_1 nf u7_0 u7_1 hu_7) (cwV 2 hts gv_h4_33 rfl rfl rfl (by decide +kernel) ⟨Nat.le_of_ble_eq_true rfl, Nat.le_of_ble_eq_true rfl⟩) ⟨fun a U g mk q => by obtain ⟨q0, q1, qP, qK, qD⟩ := q; exact ⟨q0, q1, qP, va_K.moved (u := U) (U := U.calling g mk a) (Vm.Alike.refl U.vm) qK, qD⟩, va_recv hKc hPc (ci := 9) (q0 := 0) rfl rfl, fun U hU hW => ⟨rfl, by rw [hU], by rw [hU]; exact hPc, va_K.moved hW.alike hKc, hDc.weaken (fun _ _ _ _ => trivial)⟩⟩ rfl rfl hl.1 rfl (lv_room (Nat.le_of_ble_eq_true rfl)) dX2_checkClassHead_81 ⟨Nat.le_of_ble_eq_true rfl, Nat.le_of_ble_eq_true rfl⟩) hS (fun q _ h => hFc q h) hFc ?_
          clear hS
          intro u t H1 locs ht hvm hw hB hz1 hk1 hS
          obtain ⟨⟩ := u
          obtain ⟨hP1, hK1, hD1⟩ := hB
          rw [ht] at hP1
          have hK1 := va_K.moved hvm.symm hK1
          try dsimp only at hw
          have hPD := va_join (wr := [(h0, .inr (2, [.ref qf0, .ref qf1, .int v2, .ref qf3, .ref qf4, .ref qf5, .ref qf6, .ref qf7, .ref qf8, .ref qf9, .ref qf10, .ref qf11, .ref qf12, .ref qf13, .ref qf14, .ref qf15, .ref qf16, .ref qf17, .ref qf18, .ref qf19, .int v20])), (qf3, .inl (cf3, 334, .inl f3)), (qf0_0, .inl (cf0_0, 3001, .inl f0_0)), (qf0_2, .inl (cf0_2, 3001, .inl f0_2)), (qf4, .inl (cf4, 1740, .inl f4))]) (w1 := [(qf0, .inr (9, [.ref qf0_0, .ref qf0_1, .ref qf0_2, .int v0_3, .ref qf0_4, .ref qf0_5, .ref qf0_6, .ref qf0_7, .ref qf0_8, .int v0_9, .int v0_10, .int u7_0, .int u7_1])), (qf0_1, .inl (cf0_1, 3001, .inl f0_1))]) hP hD [3, 0] [1, 2, 4, 5, 6] rfl rfl (by decide) (by decide) hk1 hFc hP1 hD1
          clear hP hD
          obtain ⟨hP, hD⟩ := hPD
          replace hK := (hK.sub (tys' := [(cf3, .int), (cf0_0, .int), (cf0_2, .int), (cf4, .int)]) [1, 2, 3, 4] rfl).app hK1
          clear hPc hDc hKc hFc hP1 hK1 hD1 hz1 hk1 ht hvm
          generalize H1 = H at hP hS ⊢
          replace hP : va_P (dC, dI) vwCl [(h0, .inr (2, [.ref qf0, .ref qf1, .int v2, .ref qf3, .ref qf4, .ref qf5, .ref qf6, .ref qf7, .ref qf8, .ref qf9, .ref qf10, .ref qf11, .ref qf12, .ref qf13, .ref qf14, .ref qf15, .ref qf16, .ref qf17, .ref qf18, .ref qf19, .int v20])), (qf3, .inl (cf3, 334, .inl f3)), (qf0_0, .inl (cf0_0, 3001, .inl f0_0)), (qf0_2, .inl (cf0_2, 3001, .inl f0_2)), (qf4, .inl (cf4, 1740, .inl f4)), (qf0, .inr (9, [.ref qf0_0, .ref qf0_1, .ref qf0_2, .int v0_3, .ref qf0_4, .ref qf0_5, .ref qf0_6, .ref qf0_7, .ref qf0_8, .int v0_9, .int v0_10, .int u7_0, .int u7_1])), (qf0_1, .inl (cf0_1, 3001, .inl f0_1))] H := hP
          replace hD : va_D A [(h0, .inr (2, [.ref qf0, .ref qf1, .int v2, .ref qf3, .ref qf4, .ref qf5, .ref qf6, .ref qf7, .ref qf8, .ref qf9, .ref qf10, .ref qf11, .ref qf12, .ref qf13, .ref qf14, .ref qf15, .ref qf16, .ref qf17, .ref qf18, .ref qf19, .int v20])), (qf3, .inl (cf3, 334, .inl f3)), (qf0_0, .inl (cf0_0, 3001, .inl f0_0)), (qf0_2, .inl (cf0_2, 3001, .inl f0_2)), (qf4, .inl (cf4, 1740, .inl f4)), (qf0, .inr (9, [.ref qf0_0, .ref qf0_1, .ref qf0_2, .int v0_3, .ref qf0_4, .ref qf0_5, .ref qf0_6, .ref qf0_7, .ref qf0_8, .int v0_9, .int v0_10, .int u7_0, .int u7_1])), (qf0_1, .inl (cf0_1, 3001, .inl f0_1))] := hD
          replace hK : va_K (dC, dI) vwCl [(cf3, .int), (cf0_0, .int), (cf0_2, .int), (cf4, .int), (cf0_1, .int)] s := hK
          have hr0 := Option.some.inj hsp
          clear hsp
          obtain ⟨hq0, hr1⟩ := Prod.mk.inj hr0
          clear hr0
          subst hq0
          subst hr1
          have hP9 := hP.sub (ws' := [(h0, .inr (2, [.ref qf0, .ref qf1, .int v2, .ref qf3, .ref qf4, .ref qf5, .ref qf6, .ref qf7, .ref qf8, .ref qf9, .ref qf10, .ref qf11, .ref qf12, .ref qf13, .ref qf14, .ref qf15, .ref qf16, .ref qf17, .ref qf18, .ref qf19, .int v20])), (qf3, .inl (cf3, 334, .inl f3)), (qf0, .inr (9, [.ref qf0_0, .ref qf0_1, .ref qf0_2, .int v0_3, .ref qf0_4, .ref qf0_5, .ref qf0_6, .ref qf0_7, .ref qf0_8, .int v0_9, .int v0_10, .int u7_0, .int u7_1])), (qf0_2, .inl (cf0_2, 3001, .inl f0_2)), (qf0_0, .inl (cf0_0, 3001, .inl f0_0)), (qf4, .inl (cf4, 1740, .inl f4)), (qf0_1, .inl (cf0_1, 3001, .inl f0_1))]) [0, 1, 5, 3, 2, 4, 6] rfl
          have hD9 := hD.sub (ws' := [(h0, .inr (2, [.ref qf0, .ref qf1, .int v2, .ref qf3, .ref qf4, .ref qf5, .ref qf6, .ref qf7, .ref qf8, .ref qf9, .ref qf10, .ref qf11, .ref qf12, .ref qf13, .ref qf14, .ref qf15, .ref qf16, .ref qf17, .ref qf18, .ref qf19, .int v20])), (qf3, .inl (cf3, 334, .inl f3)), (qf0, .inr (9, [.ref qf0_0, .ref qf0_1, .ref qf0_2, .int v0_3, .ref qf0_4, .ref qf0_5, .ref qf0_6, .ref qf0_7, .ref qf0_8, .int v0_9, .int v0_10, .int u7_0, .int u7_1])), (qf0_2, .inl (cf0_2, 3001, .inl f0_2)), (qf0_0, .inl (cf0_0, 3001, .inl f0_0)), (qf4, .inl (cf4, 1740, .inl f4)), (qf0_1, .inl (cf0_1, 3001, .inl f0_1))]) [0, 1, 5, 3, 2, 4, 6] (by decide) rfl
          have hK9 := hK.sub (tys' := [(cf3, .int), (cf0_2, .int), (cf0_0, .int), (cf4, .int), (cf0_1, .int)]) [0, 2, 1, 3, 4] rfl
          exact W.vret hx hb hr (fun t ht hW => ⟨⟨(), rfl, trivial, by rw [ht]; exact hP9, va_K.moved hW.alike hK9, hD9⟩, hS.F ht⟩) hS.2.2 dX2_checkClassHead_84
        · rw [if_neg (by decide)] at hsp
          refine lv_if_ne (tgt := 84) hx hb dX2_checkClassHead_69 (by decide) (fun c_12 => ?_) (fun c_12 => (show False by revert c_12; decide).elim)
          have hr0 := Option.some.inj hsp
          clear hsp
          obtain ⟨hq0, hr1⟩ := Prod.mk.inj hr0
          clear hr0
          subst hq0
          subst hr1
          have hP9 := hP.sub (ws' := [(h0, .inr (2, [.ref qf0, .ref qf1, .int v2, .ref qf3, .ref qf4, .ref qf5, .ref qf6, .ref qf7, .ref qf8, .ref qf9, .ref qf10, .ref qf11, .ref qf12, .ref qf13, .ref qf14, .ref qf15, .ref qf16, .ref qf17, .ref qf18, .ref qf19, .int v20])), (qf3, .inl (cf3, 334, .inl f3)), (qf0, .inr (9, [.ref qf0_0, .ref qf0_1, .ref qf0_2, .int v0_3, .ref qf0_4, .ref qf0_5, .ref qf0_6, .ref qf0_7, .ref qf0_8, .int v0_9, .int v0_10, .int u5_0, .int u5_1])), (qf0_2, .inl (cf0_2, 3001, .inl f0_2)), (qf0_0, .inl (cf0_0, 3001, .inl f0_0)), (qf4, .inl (cf4, 1740, .inl f4)), (qf0_1, .inl (cf0_1, 3001, .inl f0_1))]) [1, 2, 3, 5, 4, 6, 0] rfl
          have hD9 := hD.sub (ws' := [(h0, .inr (2, [.ref qf0, .ref qf1, .int v2, .ref qf3, .ref qf4, .ref qf5, .ref qf6, .ref qf7, .ref qf8, .ref qf9, .ref qf10, .ref qf11, .ref qf12, .ref qf13, .ref qf14, .ref qf15, .ref qf16, .ref qf17, .ref qf18, .ref qf19, .int v20])), (qf3, .inl (cf3, 334, .inl f3)), (qf0, .inr (9, [.ref qf0_0, .ref qf0_1, .ref qf0_2, .int v0_3, .ref qf0_4, .ref qf0_5, .ref qf0_6, .ref qf0_7, .ref qf0_8, .int v0_9, .int v0_10, .int u5_0, .int u5_1])), (qf0_2, .inl (cf0_2, 3001, .inl f0_2)), (qf0_0, .inl (cf0_0, 3001, .inl f0_0)), (qf4, .inl (cf4, 1740, .inl f4)), (qf0_1, .inl (cf0_1, 3001, .inl f0_1))]) [1, 2, 3, 5, 4, 6, 0] (by decide) rfl
          have hK9 := hK.sub (tys' := [(cf3, .int), (cf0_2, .int), (cf0_0, .int), (cf4, .int), (cf0_1, .int)]) [1, 3, 2, 4, 0] rfl
          exact W.vret hx hb hr (fun t ht hW => ⟨⟨(), rfl, trivial, by rw [ht]; exact hP9, va_K.moved hW.alike hK9, hD9⟩, hS.F ht⟩) hS.2.2 dX2_checkClassHead_84
    · rw [if_neg c_4] at hsp
      refine lv_aload_n hx hb dX2_checkClassHead_35 rfl (lv_at hl 1 rfl) ?_
      refine va_get (D := (dC, dI)) (ci := 2) (v := .ref qf0) (C := RX2) (T := TX2) (N := 21) hx hb hts uV_h4_X2 hown hK hP 2 rfl rfl 0 (by decide) (hts (.fieldLink RX2 74 "ClassMill$Heads" "text" "LClassMill$Text;") mw_h4_145) (fun _ h9 => h9) rfl dX2_checkClassHead_36 ?_
      refine lv_iconst (v := 4) hx hb dX2_checkClassHead_39 (by decide) ?_
      refine lv_iload_n hx hb dX2_checkClassHead_40 rfl (lv_at hl 0 rfl) ?_
      obtain ⟨⟨u8_0, u8_1⟩, hu_8, hsp⟩ := ox_bind hsp
      try dsimp only at hsp
      have hPc := hP.sub (ws' := [(qf0, .inr (9, [.ref qf0_0, .ref qf0_1, .ref qf0_2, .int v0_3, .ref qf0_4, .ref qf0_5, .ref qf0_6, .ref qf0_7, .ref qf0_8, .int v0_9, .int v0_10, .int v0_11, .int v0_12])), (qf0_1, .inl (cf0_1, 3001, .inl f0_1))]) [3, 1] rfl
      have hDc := hD.sub (ws' := [(qf0, .inr (9, [.ref qf0_0, .ref qf0_1, .ref qf0_2, .int v0_3, .ref qf0_4, .ref qf0_5, .ref qf0_6, .ref qf0_7, .ref qf0_8, .int v0_9, .int v0_10, .int v0_11, .int v0_12])), (qf0_1, .inl (cf0_1, 3001, .inl f0_1))]) [3, 1] (by decide) rfl
      have hKc := hK.sub (tys' := [(cf0_1, .int)]) [1] rfl
      have hFc := va_free (wc := [(qf0, .inr (9, [.ref qf0_0, .ref qf0_1, .ref qf0_2, .int v0_3, .ref qf0_4, .ref qf0_5, .ref qf0_6, .ref qf0_7, .ref qf0_8, .int v0_9, .int v0_10, .int v0_11, .int v0_12])), (qf0_1, .inl (cf0_1, 3001, .inl f0_1))]) hD hS hA [3, 1] rfl
      refine va_callv (va_runV (As := [.int 4, .int (f3 (a1 : Int32).toNatClampNeg)]) (rest := []) ⟨hx, hb, hml, hown, hts⟩ (t9_tell l dC dI H.size qf0 4 ((f3 (a1 : Int32).toNatClampNeg)) qf0_0 qf0_1 qf0_2 v0_3 qf0_4 qf0_5 qf0_6 qf0_7 qf0_8 v0_9 v0_10 v0_11 v0_12 cf0_1 f0_1 nf u8_0 u8_1 hu_8) (cwV 2 hts gv_h4_33 rfl rfl rfl (by decide +kernel) ⟨Nat.le_of_ble_eq_true rfl, Nat.le_of_ble_eq_true rfl⟩) ⟨fun a U g mk q => by obtain ⟨q0, q1, qP, qK, qD⟩ := q; exact ⟨q0, q1, qP, va_K.moved (u := U) (U := U.calling g mk a) (Vm.Alike.refl U.vm) qK, qD⟩, va_recv hKc hPc (ci := 9) (q0 := 0) rfl rfl, fun U hU hW => ⟨rfl, by rw [hU], by rw [hU]; exact hPc, va_K.moved hW.alike hKc, hDc.weaken (fun _ _ _ _ => trivial)⟩⟩ rfl rfl hl.1 rfl (lv_room (Nat.le_of_ble_eq_true rfl)) dX2_checkClassHead_41 ⟨Nat.le_of_ble_eq_true rfl, Nat.le_of_ble_eq_true rfl⟩) hS (fun q _ h => hFc q h) hFc ?_
      clear hS
      intro u t H1 locs ht hvm hw hB hz1 hk1 hS
      obtain ⟨⟩ := u
      obtain ⟨hP1, hK1, hD1⟩ := hB
      rw [ht] at hP1
      have hK1 := va_K.moved hvm.symm hK1
      try dsimp only at hw
      have hPD := va_join (wr := [(qf3, .inl (cf3, 334, .inl f3)), (h0, .inr (2, [.ref qf0, .ref qf1, .int v2, .ref qf3, .ref qf4, .ref qf5, .ref qf6, .ref qf7, .ref qf8, .ref qf9, .ref qf10, .ref qf11, .ref qf12, .ref qf13, .ref qf14, .ref qf15, .ref qf16, .ref qf17, .ref qf18, .ref qf19, .int v20])), (qf0_2, .inl (cf0_2, 3001, .inl f0_2)), (qf0_0, .inl (cf0_0, 3001, .inl f0_0)), (qf4, .inl (cf4, 1740, .inl f4))]) (w1 := [(qf0, .inr (9, [.ref qf0_0, .ref qf0_1, .ref qf0_2, .int v0_3, .ref qf0_4, .ref qf0_5, .ref qf0_6, .ref qf0_7, .ref qf0_8, .int v0_9, .int v0_10, .int u8_0, .int u8_1])), (qf0_1, .inl (cf0_1, 3001, .inl f0_1))]) hP hD [3, 1] [0, 2, 4, 5, 6] rfl rfl (by decide) (by decide) hk1 hFc hP1 hD1
      clear hP hD
      obtain ⟨hP, hD⟩ := hPD
      replace hK := (hK.sub (tys' := [(cf3, .int), (cf0_2, .int), (cf0_0, .int), (cf4, .int)]) [0, 2, 3, 4] rfl).app hK1
      clear hPc hDc hKc hFc hP1 hK1 hD1 hz1 hk1 ht hvm
      generalize H1 = H at hP hS ⊢
      replace hP : va_P (dC, dI) vwCl [(qf3, .inl (cf3, 334, .inl f3)), (h0, .inr (2, [.ref qf0, .ref qf1, .int v2, .ref qf3, .ref qf4, .ref qf5, .ref qf6, .ref qf7, .ref qf8, .ref qf9, .ref qf10, .ref qf11, .ref qf12, .ref qf13, .ref qf14, .ref qf15, .ref qf16, .ref qf17, .ref qf18, .ref qf19, .int v20])), (qf0_2, .inl (cf0_2, 3001, .inl f0_2)), (qf0_0, .inl (cf0_0, 3001, .inl f0_0)), (qf4, .inl (cf4, 1740, .inl f4)), (qf0, .inr (9, [.ref qf0_0, .ref qf0_1, .ref qf0_2, .int v0_3, .ref qf0_4, .ref qf0_5, .ref qf0_6, .ref qf0_7, .ref qf0_8, .int v0_9, .int v0_10, .int u8_0, .int u8_1])), (qf0_1, .inl (cf0_1, 3001, .inl f0_1))] H := hP
      replace hD : va_D A [(qf3, .inl (cf3, 334, .inl f3)), (h0, .inr (2, [.ref qf0, .ref qf1, .int v2, .ref qf3, .ref qf4, .ref qf5, .ref qf6, .ref qf7, .ref qf8, .ref qf9, .ref qf10, .ref qf11, .ref qf12, .ref qf13, .ref qf14, .ref qf15, .ref qf16, .ref qf17, .ref qf18, .ref qf19, .int v20])), (qf0_2, .inl (cf0_2, 3001, .inl f0_2)), (qf0_0, .inl (cf0_0, 3001, .inl f0_0)), (qf4, .inl (cf4, 1740, .inl f4)), (qf0, .inr (9, [.ref qf0_0, .ref qf0_1, .ref qf0_2, .int v0_3, .ref qf0_4, .ref qf0_5, .ref qf0_6, .ref qf0_7, .ref qf0_8, .int v0_9, .int v0_10, .int u8_0, .int u8_1])), (qf0_1, .inl (cf0_1, 3001, .inl f0_1))] := hD
      replace hK : va_K (dC, dI) vwCl [(cf3, .int), (cf0_2, .int), (cf0_0, .int), (cf4, .int), (cf0_1, .int)] s := hK
      refine lv_aload_n hx hb dX2_checkClassHead_44 rfl (lv_at hl 1 rfl) ?_
      refine lv_iload_n hx hb dX2_checkClassHead_45 rfl (lv_at hl 2 rfl) ?_
      obtain ⟨u9_0, hu_9, hsp⟩ := ox_bind hsp
      try dsimp only at hsp
      have hPc := hP.sub (ws' := [(h0, .inr (2, [.ref qf0, .ref qf1, .int v2, .ref qf3, .ref qf4, .ref qf5, .ref qf6, .ref qf7, .ref qf8, .ref qf9, .ref qf10, .ref qf11, .ref qf12, .ref qf13, .ref qf14, .ref qf15, .ref qf16, .ref qf17, .ref qf18, .ref qf19, .int v20])), (qf3, .inl (cf3, 334, .inl f3)), (qf0, .inr (9, [.ref qf0_0, .ref qf0_1, .ref qf0_2, .int v0_3, .ref qf0_4, .ref qf0_5, .ref qf0_6, .ref qf0_7, .ref qf0_8, .int v0_9, .int v0_10, .int u8_0, .int u8_1])), (qf0_0, .inl (cf0_0, 3001, .inl f0_0)), (qf0_2, .inl (cf0_2, 3001, .inl f0_2)), (qf4, .inl (cf4, 1740, .inl f4))]) [1, 0, 5, 3, 2, 4] rfl
      have hDc := hD.sub (ws' := [(h0, .inr (2, [.ref qf0, .ref qf1, .int v2, .ref qf3, .ref qf4, .ref qf5, .ref qf6, .ref qf7, .ref qf8, .ref qf9, .ref qf10, .ref qf11, .ref qf12, .ref qf13, .ref qf14, .ref qf15, .ref qf16, .ref qf17, .ref qf18, .ref qf19, .int v20])), (qf3, .inl (cf3, 334, .inl f3)), (qf0, .inr (9, [.ref qf0_0, .ref qf0_1, .ref qf0_2, .int v0_3, .ref qf0_4, .ref qf0_5, .ref qf0_6, .ref qf0_7, .ref qf0_8, .int v0_9, .int v0_10, .int u8_0, .int u8_1])), (qf0_0, .inl (cf0_0, 3001, .inl f0_0)), (qf0_2, .inl (cf0_2, 3001, .inl f0_2)), (qf4, .inl (cf4, 1740, .inl f4))]) [1, 0, 5, 3, 2, 4] (by decide) rfl
      have hKc := hK.sub (tys' := [(cf3, .int), (cf0_0, .int), (cf0_2, .int), (cf4, .int)]) [0, 2, 1, 3] rfl
      have hFc := va_free (wc := [(h0, .inr (2, [.ref qf0, .ref qf1, .int v2, .ref qf3, .ref qf4, .ref qf5, .ref qf6, .ref qf7, .ref qf8, .ref qf9, .ref qf10, .ref qf11, .ref qf12, .ref qf13, .ref qf14, .ref qf15, .ref qf16, .ref qf17, .ref qf18, .ref qf19, .int v20])), (qf3, .inl (cf3, 334, .inl f3)), (qf0, .inr (9, [.ref qf0_0, .ref qf0_1, .ref qf0_2, .int v0_3, .ref qf0_4, .ref qf0_5, .ref qf0_6, .ref qf0_7, .ref qf0_8, .int v0_9, .int v0_10, .int u8_0, .int u8_1])), (qf0_0, .inl (cf0_0, 3001, .inl f0_0)), (qf0_2, .inl (cf0_2, 3001, .inl f0_2)), (qf4, .inl (cf4, 1740, .inl f4))]) hD hS hA [1, 0, 5, 3, 2, 4] rfl
      refine va_calli (va_runV (As := [.int a1]) (rest := []) ⟨hx, hb, hml, hown, hts⟩ (t2_classAbove l dC dI H.size h0 a1 qf0 qf1 v2 qf3 qf4 qf5 qf6 qf7 qf8 qf9 qf10 qf11 qf12 qf13 qf14 qf15 qf16 qf17 qf18 qf19 v20 cf3 f3 qf0_0 qf0_1 qf0_2 v0_3 qf0_4 qf0_5 qf0_6 qf0_7 qf0_8 v0_9 v0_10 u8_0 u8_1 cf0_0 f0_0 cf0_2 f0_2 cf4 f4 nf u9_0 hu_9) (cwV 1 hts gv_h4_31 rfl rfl rfl (by decide +kernel) ⟨Nat.le_of_ble_eq_true rfl, Nat.le_of_ble_eq_true rfl⟩) ⟨fun a U g mk q => by obtain ⟨q0, q1, qP, qK, qD⟩ := q; exact ⟨q0, q1, qP, va_K.moved (u := U) (U := U.calling g mk a) (Vm.Alike.refl U.vm) qK, qD⟩, va_recv hKc hPc (ci := 2) (q0 := 0) rfl rfl, fun U hU hW => ⟨rfl, by rw [hU], by rw [hU]; exact hPc, va_K.moved hW.alike hKc, hDc.weaken (fun _ _ _ _ => trivial)⟩⟩ rfl rfl hl.1 rfl (lv_room (Nat.le_of_ble_eq_true rfl)) dX2_checkClassHead_46 ⟨Nat.le_of_ble_eq_true rfl, Nat.le_of_ble_eq_true rfl⟩) hS (fun q _ h => hFc q h) hFc ?_
      clear hS
      intro r_13 u t H1 locs ht hvm hw hB hz1 hk1 hS
      obtain ⟨⟩ := u
      obtain ⟨hP1, hK1, hD1⟩ := hB
      rw [ht] at hP1
      have hK1 := va_K.moved hvm.symm hK1
      try dsimp only at hw
      have hPD := va_join (wr := [(qf0_1, .inl (cf0_1, 3001, .inl f0_1))]) (w1 := [(h0, .inr (2, [.ref qf0, .ref qf1, .int v2, .ref qf3, .ref qf4, .ref qf5, .ref qf6, .ref qf7, .ref qf8, .ref qf9, .ref qf10, .ref qf11, .ref qf12, .ref qf13, .ref qf14, .ref qf15, .ref qf16, .ref qf17, .ref qf18, .ref qf19, .int v20])), (qf3, .inl (cf3, 334, .inl f3)), (qf0, .inr (9, [.ref qf0_0, .ref qf0_1, .ref qf0_2, .int v0_3, .ref qf0_4, .ref qf0_5, .ref qf0_6, .ref qf0_7, .ref qf0_8, .int v0_9, .int v0_10, .int u8_0, .int u8_1])), (qf0_0, .inl (cf0_0, 3001, .inl f0_0)), (qf0_2, .inl (cf0_2, 3001, .inl f0_2)), (qf4, .inl (cf4, 1740, .inl f4))]) hP hD [1, 0, 5, 3, 2, 4] [6] rfl rfl (by decide) (by decide) hk1 hFc hP1 hD1
      clear hP hD
      obtain ⟨hP, hD⟩ := hPD
      replace hK := (hK.sub (tys' := [(cf0_1, .int)]) [4] rfl).app hK1
      clear hPc hDc hKc hFc hP1 hK1 hD1 hz1 hk1 ht hvm
      generalize H1 = H at hP hS ⊢
      replace hP : va_P (dC, dI) vwCl [(qf0_1, .inl (cf0_1, 3001, .inl f0_1)), (h0, .inr (2, [.ref qf0, .ref qf1, .int v2, .ref qf3, .ref qf4, .ref qf5, .ref qf6, .ref qf7, .ref qf8, .ref qf9, .ref qf10, .ref qf11, .ref qf12, .ref qf13, .ref qf14, .ref qf15, .ref qf16, .ref qf17, .ref qf18, .ref qf19, .int v20])), (qf3, .inl (cf3, 334, .inl f3)), (qf0, .inr (9, [.ref qf0_0, .ref qf0_1, .ref qf0_2, .int v0_3, .ref qf0_4, .ref qf0_5, .ref qf0_6, .ref qf0_7, .ref qf0_8, .int v0_9, .int v0_10, .int u8_0, .int u8_1])), (qf0_0, .inl (cf0_0, 3001, .inl f0_0)), (qf0_2, .inl (cf0_2, 3001, .inl f0_2)), (qf4, .inl (cf4, 1740, .inl f4))] H := hP
      replace hD : va_D A [(qf0_1, .inl (cf0_1, 3001, .inl f0_1)), (h0, .inr (2, [.ref qf0, .ref qf1, .int v2, .ref qf3, .ref qf4, .ref qf5, .ref qf6, .ref qf7, .ref qf8, .ref qf9, .ref qf10, .ref qf11, .ref qf12, .ref qf13, .ref qf14, .ref qf15, .ref qf16, .ref qf17, .ref qf18, .ref qf19, .int v20])), (qf3, .inl (cf3, 334, .inl f3)), (qf0, .inr (9, [.ref qf0_0, .ref qf0_1, .ref qf0_2, .int v0_3, .ref qf0_4, .ref qf0_5, .ref qf0_6, .ref qf0_7, .ref qf0_8, .int v0_9, .int v0_10, .int u8_0, .int u8_1])), (qf0_0, .inl (cf0_0, 3001, .inl f0_0)), (qf0_2, .inl (cf0_2, 3001, .inl f0_2)), (qf4, .inl (cf4, 1740, .inl f4))] := hD
      replace hK : va_K (dC, dI) vwCl [(cf0_1, .int), (cf3, .int), (cf0_0, .int), (cf0_2, .int), (cf4, .int)] s := hK
      obtain rfl := hw
      refine lv_iconst (v := (-1)) hx hb dX2_checkClassHead_49 (by decide) ?_
      refine lv_icmp_ne (tgt := 64) hx hb dX2_checkClassHead_50 (by decide) (fun c_14 => ?_) (fun c_14 => ?_)
      · rw [if_neg c_14] at hsp
        refine lv_aload_n hx hb dX2_checkClassHead_64 rfl (lv_at hl 1 rfl) ?_
        refine lv_iload_n hx hb dX2_checkClassHead_65 rfl (lv_at hl 2 rfl) ?_
        obtain ⟨u10_0, hu_10, hsp⟩ := ox_bind hsp
        try dsimp only at hsp
        have hPc := hP.sub (ws' := [(h0, .inr (2, [.ref qf0, .ref qf1, .int v2, .ref qf3, .ref qf4, .ref qf5, .ref qf6, .ref qf7, .ref qf8, .ref qf9, .ref qf10, .ref qf11, .ref qf12, .ref qf13, .ref qf14, .ref qf15, .ref qf16, .ref qf17, .ref qf18, .ref qf19, .int v20])), (qf3, .inl (cf3, 334, .inl f3)), (qf0, .inr (9, [.ref qf0_0, .ref qf0_1, .ref qf0_2, .int v0_3, .ref qf0_4, .ref qf0_5, .ref qf0_6, .ref qf0_7, .ref qf0_8, .int v0_9, .int v0_10, .int u8_0, .int u8_1])), (qf0_0, .inl (cf0_0, 3001, .inl f0_0)), (qf0_2, .inl (cf0_2, 3001, .inl f0_2)), (qf4, .inl (cf4, 1740, .inl f4))]) [1, 2, 3, 4, 5, 6] rfl
        have hDc := hD.sub (ws' := [(h0, .inr (2, [.ref qf0, .ref qf1, .int v2, .ref qf3, .ref qf4, .ref qf5, .ref qf6, .ref qf7, .ref qf8, .ref qf9, .ref qf10, .ref qf11, .ref qf12, .ref qf13, .ref qf14, .ref qf15, .ref qf16, .ref qf17, .ref qf18, .ref qf19, .int v20])), (qf3, .inl (cf3, 334, .inl f3)), (qf0, .inr (9, [.ref qf0_0, .ref qf0_1, .ref qf0_2, .int v0_3, .ref qf0_4, .ref qf0_5, .ref qf0_6, .ref qf0_7, .ref qf0_8, .int v0_9, .int v0_10, .int u8_0, .int u8_1])), (qf0_0, .inl (cf0_0, 3001, .inl f0_0)), (qf0_2, .inl (cf0_2, 3001, .inl f0_2)), (qf4, .inl (cf4, 1740, .inl f4))]) [1, 2, 3, 4, 5, 6] (by decide) rfl
        have hKc := hK.sub (tys' := [(cf3, .int), (cf0_0, .int), (cf0_2, .int), (cf4, .int)]) [1, 2, 3, 4] rfl
        have hFc := va_free (wc := [(h0, .inr (2, [.ref qf0, .ref qf1, .int v2, .ref qf3, .ref qf4, .ref qf5, .ref qf6, .ref qf7, .ref qf8, .ref qf9, .ref qf10, .ref qf11, .ref qf12, .ref qf13, .ref qf14, .ref qf15, .ref qf16, .ref qf17, .ref qf18, .ref qf19, .int v20])), (qf3, .inl (cf3, 334, .inl f3)), (qf0, .inr (9, [.ref qf0_0, .ref qf0_1, .ref qf0_2, .int v0_3, .ref qf0_4, .ref qf0_5, .ref qf0_6, .ref qf0_7, .ref qf0_8, .int v0_9, .int v0_10, .int u8_0, .int u8_1])), (qf0_0, .inl (cf0_0, 3001, .inl f0_0)), (qf0_2, .inl (cf0_2, 3001, .inl f0_2)), (qf4, .inl (cf4, 1740, .inl f4))]) hD hS hA [1, 2, 3, 4, 5, 6] rfl
        refine va_calli (va_runV (As := [.int a1]) (rest := []) ⟨hx, hb, hml, hown, hts⟩ (t2_endsAbove l dC dI H.size h0 a1 qf0 qf1 v2 qf3 qf4 qf5 qf6 qf7 qf8 qf9 qf10 qf11 qf12 qf13 qf14 qf15 qf16 qf17 qf18 qf19 v20 cf3 f3 qf0_0 qf0_1 qf0_2 v0_3 qf0_4 qf0_5 qf0_6 qf0_7 qf0_8 v0_9 v0_10 u8_0 u8_1 cf0_0 f0_0 cf0_2 f0_2 cf4 f4 nf u10_0 hu_10) (cwV 1 hts gv_h4_41 rfl rfl rfl (by decide +kernel) ⟨Nat.le_of_ble_eq_true rfl, Nat.le_of_ble_eq_true rfl⟩) ⟨fun a U g mk q => by obtain ⟨q0, q1, qP, qK, qD⟩ := q; exact ⟨q0, q1, qP, va_K.moved (u := U) (U := U.calling g mk a) (Vm.Alike.refl U.vm) qK, qD⟩, va_recv hKc hPc (ci := 2) (q0 := 0) rfl rfl, fun U hU hW => ⟨rfl, by rw [hU], by rw [hU]; exact hPc, va_K.moved hW.alike hKc, hDc.weaken (fun _ _ _ _ => trivial)⟩⟩ rfl rfl hl.1 rfl (lv_room (Nat.le_of_ble_eq_true rfl)) dX2_checkClassHead_66 ⟨Nat.le_of_ble_eq_true rfl, Nat.le_of_ble_eq_true rfl⟩) hS (fun q _ h => hFc q h) hFc ?_
        clear hS
        intro r_15 u t H1 locs ht hvm hw hB hz1 hk1 hS
        obtain ⟨⟩ := u
        obtain ⟨hP1, hK1, hD1⟩ := hB
        rw [ht] at hP1
        have hK1 := va_K.moved hvm.symm hK1
        try dsimp only at hw
        have hPD := va_join (wr := [(qf0_1, .inl (cf0_1, 3001, .inl f0_1))]) (w1 := [(h0, .inr (2, [.ref qf0, .ref qf1, .int v2, .ref qf3, .ref qf4, .ref qf5, .ref qf6, .ref qf7, .ref qf8, .ref qf9, .ref qf10, .ref qf11, .ref qf12, .ref qf13, .ref qf14, .ref qf15, .ref qf16, .ref qf17, .ref qf18, .ref qf19, .int v20])), (qf3, .inl (cf3, 334, .inl f3)), (qf0, .inr (9, [.ref qf0_0, .ref qf0_1, .ref qf0_2, .int v0_3, .ref qf0_4, .ref qf0_5, .ref qf0_6, .ref qf0_7, .ref qf0_8, .int v0_9, .int v0_10, .int u8_0, .int u8_1])), (qf0_0, .inl (cf0_0, 3001, .inl f0_0)), (qf0_2, .inl (cf0_2, 3001, .inl f0_2)), (qf4, .inl (cf4, 1740, .inl f4))]) hP hD [1, 2, 3, 4, 5, 6] [0] rfl rfl (by decide) (by decide) hk1 hFc hP1 hD1
        clear hP hD
        obtain ⟨hP, hD⟩ := hPD
        replace hK := (hK.sub (tys' := [(cf0_1, .int)]) [0] rfl).app hK1
        clear hPc hDc hKc hFc hP1 hK1 hD1 hz1 hk1 ht hvm
        generalize H1 = H at hP hS ⊢
        replace hP : va_P (dC, dI) vwCl [(qf0_1, .inl (cf0_1, 3001, .inl f0_1)), (h0, .inr (2, [.ref qf0, .ref qf1, .int v2, .ref qf3, .ref qf4, .ref qf5, .ref qf6, .ref qf7, .ref qf8, .ref qf9, .ref qf10, .ref qf11, .ref qf12, .ref qf13, .ref qf14, .ref qf15, .ref qf16, .ref qf17, .ref qf18, .ref qf19, .int v20])), (qf3, .inl (cf3, 334, .inl f3)), (qf0, .inr (9, [.ref qf0_0, .ref qf0_1, .ref qf0_2, .int v0_3, .ref qf0_4, .ref qf0_5, .ref qf0_6, .ref qf0_7, .ref qf0_8, .int v0_9, .int v0_10, .int u8_0, .int u8_1])), (qf0_0, .inl (cf0_0, 3001, .inl f0_0)), (qf0_2, .inl (cf0_2, 3001, .inl f0_2)), (qf4, .inl (cf4, 1740, .inl f4))] H := hP
        replace hD : va_D A [(qf0_1, .inl (cf0_1, 3001, .inl f0_1)), (h0, .inr (2, [.ref qf0, .ref qf1, .int v2, .ref qf3, .ref qf4, .ref qf5, .ref qf6, .ref qf7, .ref qf8, .ref qf9, .ref qf10, .ref qf11, .ref qf12, .ref qf13, .ref qf14, .ref qf15, .ref qf16, .ref qf17, .ref qf18, .ref qf19, .int v20])), (qf3, .inl (cf3, 334, .inl f3)), (qf0, .inr (9, [.ref qf0_0, .ref qf0_1, .ref qf0_2, .int v0_3, .ref qf0_4, .ref qf0_5, .ref qf0_6, .ref qf0_7, .ref qf0_8, .int v0_9, .int v0_10, .int u8_0, .int u8_1])), (qf0_0, .inl (cf0_0, 3001, .inl f0_0)), (qf0_2, .inl (cf0_2, 3001, .inl f0_2)), (qf4, .inl (cf4, 1740, .inl f4))] := hD
        replace hK : va_K (dC, dI) vwCl [(cf0_1, .int), (cf3, .int), (cf0_0, .int), (cf0_2, .int), (cf4, .int)] s := hK
        obtain ⟨rfl, hz_10⟩ := hw
        rcases hz_10 with rfl | rfl
        · rw [if_pos rfl] at hsp
          refine lv_if_ne (tgt := 84) hx hb dX2_checkClassHead_69 (by decide) (fun c_16 => (show False by revert c_16; decide).elim) (fun c_16 => ?_)
          refine lv_aload_n hx hb dX2_checkClassHead_72 rfl (lv_at hl 1 rfl) ?_
          refine va_get (D := (dC, dI)) (ci := 2) (v := .ref qf0) (C := RX2) (T := TX2) (N := 21) hx hb hts uV_h4_X2 hown hK hP 1 rfl rfl 0 (by decide) (hts (.fieldLink RX2 74 "ClassMill$Heads" "text" "LClassMill$Text;") mw_h4_145) (fun _ h9 => h9) rfl dX2_checkClassHead_73 ?_
          refine lv_bipush (v := 6) hx hb dX2_checkClassHead_76 (by decide) ?_
          refine lv_iload_n hx hb dX2_checkClassHead_78 rfl (lv_at hl 0 rfl) ?_
          refine lv_iconst (v := 2) hx hb dX2_checkClassHead_79 (by decide) ?_
          refine lv_iadd hx hb dX2_checkClassHead_80 ?_
          obtain ⟨⟨u11_0, u11_1⟩, hu_11, hsp⟩ := ox_bind hsp
          try dsimp only at hsp
          have hPc := hP.sub (ws' := [(qf0, .inr (9, [.ref qf0_0, .ref qf0_1, .ref qf0_2, .int v0_3, .ref qf0_4, .ref qf0_5, .ref qf0_6, .ref qf0_7, .ref qf0_8, .int v0_9, .int v0_10, .int u8_0, .int u8_1])), (qf0_1, .inl (cf0_1, 3001, .inl f0_1))]) [3, 0] rfl
          have hDc := hD.sub (ws' := [(qf0, .inr (9, [.ref qf0_0, .ref qf0_1, .ref qf0_2, .int v0_3, .ref qf0_4, .ref qf0_5, .ref qf0_6, .ref qf0_7, .ref qf0_8, .int v0_9, .int v0_10, .int u8_0, .int u8_1])), (qf0_1, .inl (cf0_1, 3001, .inl f0_1))]) [3, 0] (by decide) rfl
          have hKc := hK.sub (tys' := [(cf0_1, .int)]) [0] rfl
          have hFc := va_free (wc := [(qf0, .inr (9, [.ref qf0_0, .ref qf0_1, .ref qf0_2, .int v0_3, .ref qf0_4, .ref qf0_5, .ref qf0_6, .ref qf0_7, .ref qf0_8, .int v0_9, .int v0_10, .int u8_0, .int u8_1])), (qf0_1, .inl (cf0_1, 3001, .inl f0_1))]) hD hS hA [3, 0] rfl
          refine va_callv (va_runV (As := [.int 6, .int ((f3 (a1 : Int32).toNatClampNeg) + 2)]) (rest := []) ⟨hx, hb, hml, hown, hts⟩ (t9_tell l dC dI H.size qf0 6 (((f3 (a1 : Int32).toNatClampNeg) + 2)) qf0_0 qf0_1 qf0_2 v0_3 qf0_4 qf0_5 qf0_6 qf0_7 qf0_8 v0_9 v0_10 u8_0 u8_1 cf0_1 f0_1 nf u11_0 u11_1 hu_11) (cwV 2 hts gv_h4_33 rfl rfl rfl (by decide +kernel) ⟨Nat.le_of_ble_eq_true rfl, Nat.le_of_ble_eq_true rfl⟩) ⟨fun a U g mk q => by obtain ⟨q0, q1, qP, qK, qD⟩ := q; exact ⟨q0, q1, qP, va_K.moved (u := U) (U := U.calling g mk a) (Vm.Alike.refl U.vm) qK, qD⟩, va_recv hKc hPc (ci := 9) (q0 := 0) rfl rfl, fun U hU hW => ⟨rfl, by rw [hU], by rw [hU]; exact hPc, va_K.moved hW.alike hKc, hDc.weaken (fun _ _ _ _ => trivial)⟩⟩ rfl rfl hl.1 rfl (lv_room (Nat.le_of_ble_eq_true rfl)) dX2_checkClassHead_81 ⟨Nat.le_of_ble_eq_true rfl, Nat.le_of_ble_eq_true rfl⟩) hS (fun q _ h => hFc q h) hFc ?_
          clear hS
          intro u t H1 locs ht hvm hw hB hz1 hk1 hS
          obtain ⟨⟩ := u
          obtain ⟨hP1, hK1, hD1⟩ := hB
          rw [ht] at hP1
          have hK1 := va_K.moved hvm.symm hK1
          try dsimp only at hw
          have hPD := va_join (wr := [(h0, .inr (2, [.ref qf0, .ref qf1, .int v2, .ref qf3, .ref qf4, .ref qf5, .ref qf6, .ref qf7, .ref qf8, .ref qf9, .ref qf10, .ref qf11, .ref qf12, .ref qf13, .ref qf14, .ref qf15, .ref qf16, .ref qf17, .ref qf18, .ref qf19, .int v20])), (qf3, .inl (cf3, 334, .inl f3)), (qf0_0, .inl (cf0_0, 3001, .inl f0_0)), (qf0_2, .inl (cf0_2, 3001, .inl f0_2)), (qf4, .inl (cf4, 1740, .inl f4))]) (w1 := [(qf0, .inr (9, [.ref qf0_0, .ref qf0_1, .ref qf0_2, .int v0_3, .ref qf0_4, .ref qf0_5, .ref qf0_6, .ref qf0_7, .ref qf0_8, .int v0_9, .int v0_10, .int u11_0, .int u11_1])), (qf0_1, .inl (cf0_1, 3001, .inl f0_1))]) hP hD [3, 0] [1, 2, 4, 5, 6] rfl rfl (by decide) (by decide) hk1 hFc hP1 hD1
          clear hP hD
          obtain ⟨hP, hD⟩ := hPD
          replace hK := (hK.sub (tys' := [(cf3, .int), (cf0_0, .int), (cf0_2, .int), (cf4, .int)]) [1, 2, 3, 4] rfl).app hK1
          clear hPc hDc hKc hFc hP1 hK1 hD1 hz1 hk1 ht hvm
          generalize H1 = H at hP hS ⊢
          replace hP : va_P (dC, dI) vwCl [(h0, .inr (2, [.ref qf0, .ref qf1, .int v2, .ref qf3, .ref qf4, .ref qf5, .ref qf6, .ref qf7, .ref qf8, .ref qf9, .ref qf10, .ref qf11, .ref qf12, .ref qf13, .ref qf14, .ref qf15, .ref qf16, .ref qf17, .ref qf18, .ref qf19, .int v20])), (qf3, .inl (cf3, 334, .inl f3)), (qf0_0, .inl (cf0_0, 3001, .inl f0_0)), (qf0_2, .inl (cf0_2, 3001, .inl f0_2)), (qf4, .inl (cf4, 1740, .inl f4)), (qf0, .inr (9, [.ref qf0_0, .ref qf0_1, .ref qf0_2, .int v0_3, .ref qf0_4, .ref qf0_5, .ref qf0_6, .ref qf0_7, .ref qf0_8, .int v0_9, .int v0_10, .int u11_0, .int u11_1])), (qf0_1, .inl (cf0_1, 3001, .inl f0_1))] H := hP
          replace hD : va_D A [(h0, .inr (2, [.ref qf0, .ref qf1, .int v2, .ref qf3, .ref qf4, .ref qf5, .ref qf6, .ref qf7, .ref qf8, .ref qf9, .ref qf10, .ref qf11, .ref qf12, .ref qf13, .ref qf14, .ref qf15, .ref qf16, .ref qf17, .ref qf18, .ref qf19, .int v20])), (qf3, .inl (cf3, 334, .inl f3)), (qf0_0, .inl (cf0_0, 3001, .inl f0_0)), (qf0_2, .inl (cf0_2, 3001, .inl f0_2)), (qf4, .inl (cf4, 1740, .inl f4)), (qf0, .inr (9, [.ref qf0_0, .ref qf0_1, .ref qf0_2, .int v0_3, .ref qf0_4, .ref qf0_5, .ref qf0_6, .ref qf0_7, .ref qf0_8, .int v0_9, .int v0_10, .int u11_0, .int u11_1])), (qf0_1, .inl (cf0_1, 3001, .inl f0_1))] := hD
          replace hK : va_K (dC, dI) vwCl [(cf3, .int), (cf0_0, .int), (cf0_2, .int), (cf4, .int), (cf0_1, .int)] s := hK
          have hr0 := Option.some.inj hsp
          clear hsp
          obtain ⟨hq0, hr1⟩ := Prod.mk.inj hr0
          clear hr0
          subst hq0
          subst hr1
          have hP9 := hP.sub (ws' := [(h0, .inr (2, [.ref qf0, .ref qf1, .int v2, .ref qf3, .ref qf4, .ref qf5, .ref qf6, .ref qf7, .ref qf8, .ref qf9, .ref qf10, .ref qf11, .ref qf12, .ref qf13, .ref qf14, .ref qf15, .ref qf16, .ref qf17, .ref qf18, .ref qf19, .int v20])), (qf3, .inl (cf3, 334, .inl f3)), (qf0, .inr (9, [.ref qf0_0, .ref qf0_1, .ref qf0_2, .int v0_3, .ref qf0_4, .ref qf0_5, .ref qf0_6, .ref qf0_7, .ref qf0_8, .int v0_9, .int v0_10, .int u11_0, .int u11_1])), (qf0_2, .inl (cf0_2, 3001, .inl f0_2)), (qf0_0, .inl (cf0_0, 3001, .inl f0_0)), (qf4, .inl (cf4, 1740, .inl f4)), (qf0_1, .inl (cf0_1, 3001, .inl f0_1))]) [0, 1, 5, 3, 2, 4, 6] rfl
          have hD9 := hD.sub (ws' := [(h0, .inr (2, [.ref qf0, .ref qf1, .int v2, .ref qf3, .ref qf4, .ref qf5, .ref qf6, .ref qf7, .ref qf8, .ref qf9, .ref qf10, .ref qf11, .ref qf12, .ref qf13, .ref qf14, .ref qf15, .ref qf16, .ref qf17, .ref qf18, .ref qf19, .int v20])), (qf3, .inl (cf3, 334, .inl f3)), (qf0, .inr (9, [.ref qf0_0, .ref qf0_1, .ref qf0_2, .int v0_3, .ref qf0_4, .ref qf0_5, .ref qf0_6, .ref qf0_7, .ref qf0_8, .int v0_9, .int v0_10, .int u11_0, .int u11_1])), (qf0_2, .inl (cf0_2, 3001, .inl f0_2)), (qf0_0, .inl (cf0_0, 3001, .inl f0_0)), (qf4, .inl (cf4, 1740, .inl f4)), (qf0_1, .inl (cf0_1, 3001, .inl f0_1))]) [0, 1, 5, 3, 2, 4, 6] (by decide) rfl
          have hK9 := hK.sub (tys' := [(cf3, .int), (cf0_2, .int), (cf0_0, .int), (cf4, .int), (cf0_1, .int)]) [0, 2, 1, 3, 4] rfl
          exact W.vret hx hb hr (fun t ht hW => ⟨⟨(), rfl, trivial, by rw [ht]; exact hP9, va_K.moved hW.alike hK9, hD9⟩, hS.F ht⟩) hS.2.2 dX2_checkClassHead_84
        · rw [if_neg (by decide)] at hsp
          refine lv_if_ne (tgt := 84) hx hb dX2_checkClassHead_69 (by decide) (fun c_17 => ?_) (fun c_17 => (show False by revert c_17; decide).elim)
          have hr0 := Option.some.inj hsp
          clear hsp
          obtain ⟨hq0, hr1⟩ := Prod.mk.inj hr0
          clear hr0
          subst hq0
          subst hr1
          have hP9 := hP.sub (ws' := [(h0, .inr (2, [.ref qf0, .ref qf1, .int v2, .ref qf3, .ref qf4, .ref qf5, .ref qf6, .ref qf7, .ref qf8, .ref qf9, .ref qf10, .ref qf11, .ref qf12, .ref qf13, .ref qf14, .ref qf15, .ref qf16, .ref qf17, .ref qf18, .ref qf19, .int v20])), (qf3, .inl (cf3, 334, .inl f3)), (qf0, .inr (9, [.ref qf0_0, .ref qf0_1, .ref qf0_2, .int v0_3, .ref qf0_4, .ref qf0_5, .ref qf0_6, .ref qf0_7, .ref qf0_8, .int v0_9, .int v0_10, .int u8_0, .int u8_1])), (qf0_2, .inl (cf0_2, 3001, .inl f0_2)), (qf0_0, .inl (cf0_0, 3001, .inl f0_0)), (qf4, .inl (cf4, 1740, .inl f4)), (qf0_1, .inl (cf0_1, 3001, .inl f0_1))]) [1, 2, 3, 5, 4, 6, 0] rfl
          have hD9 := hD.sub (ws' := [(h0, .inr (2, [.ref qf0, .ref qf1, .int v2, .ref qf3, .ref qf4, .ref qf5, .ref qf6, .ref qf7, .ref qf8, .ref qf9, .ref qf10, .ref qf11, .ref qf12, .ref qf13, .ref qf14, .ref qf15, .ref qf16, .ref qf17, .ref qf18, .ref qf19, .int v20])), (qf3, .inl (cf3, 334, .inl f3)), (qf0, .inr (9, [.ref qf0_0, .ref qf0_1, .ref qf0_2, .int v0_3, .ref qf0_4, .ref qf0_5, .ref qf0_6, .ref qf0_7, .ref qf0_8, .int v0_9, .int v0_10, .int u8_0, .int u8_1])), (qf0_2, .inl (cf0_2, 3001, .inl f0_2)), (qf0_0, .inl (cf0_0, 3001, .inl f0_0)), (qf4, .inl (cf4, 1740, .inl f4)), (qf0_1, .inl (cf0_1, 3001, .inl f0_1))]) [1, 2, 3, 5, 4, 6, 0] (by decide) rfl
          have hK9 := hK.sub (tys' := [(cf3, .int), (cf0_2, .int), (cf0_0, .int), (cf4, .int), (cf0_1, .int)]) [1, 3, 2, 4, 0] rfl
          exact W.vret hx hb hr (fun t ht hW => ⟨⟨(), rfl, trivial, by rw [ht]; exact hP9, va_K.moved hW.alike hK9, hD9⟩, hS.F ht⟩) hS.2.2 dX2_checkClassHead_84
      · rw [if_pos c_14] at hsp
        refine lv_aload_n hx hb dX2_checkClassHead_53 rfl (lv_at hl 1 rfl) ?_
        refine va_get (D := (dC, dI)) (ci := 2) (v := .ref qf0) (C := RX2) (T := TX2) (N := 21) hx hb hts uV_h4_X2 hown hK hP 1 rfl rfl 0 (by decide) (hts (.fieldLink RX2 74 "ClassMill$Heads" "text" "LClassMill$Text;") mw_h4_145) (fun _ h9 => h9) rfl dX2_checkClassHead_54 ?_
        refine lv_iconst (v := 5) hx hb dX2_checkClassHead_57 (by decide) ?_
        refine lv_iload_n hx hb dX2_checkClassHead_58 rfl (lv_at hl 0 rfl) ?_
        refine lv_iconst (v := 2) hx hb dX2_checkClassHead_59 (by decide) ?_
        refine lv_iadd hx hb dX2_checkClassHead_60 ?_
        obtain ⟨⟨u12_0, u12_1⟩, hu_12, hsp⟩ := ox_bind hsp
        try dsimp only at hsp
        have hPc := hP.sub (ws' := [(qf0, .inr (9, [.ref qf0_0, .ref qf0_1, .ref qf0_2, .int v0_3, .ref qf0_4, .ref qf0_5, .ref qf0_6, .ref qf0_7, .ref qf0_8, .int v0_9, .int v0_10, .int u8_0, .int u8_1])), (qf0_1, .inl (cf0_1, 3001, .inl f0_1))]) [3, 0] rfl
        have hDc := hD.sub (ws' := [(qf0, .inr (9, [.ref qf0_0, .ref qf0_1, .ref qf0_2, .int v0_3, .ref qf0_4, .ref qf0_5, .ref qf0_6, .ref qf0_7, .ref qf0_8, .int v0_9, .int v0_10, .int u8_0, .int u8_1])), (qf0_1, .inl (cf0_1, 3001, .inl f0_1))]) [3, 0] (by decide) rfl
        have hKc := hK.sub (tys' := [(cf0_1, .int)]) [0] rfl
        have hFc := va_free (wc := [(qf0, .inr (9, [.ref qf0_0, .ref qf0_1, .ref qf0_2, .int v0_3, .ref qf0_4, .ref qf0_5, .ref qf0_6, .ref qf0_7, .ref qf0_8, .int v0_9, .int v0_10, .int u8_0, .int u8_1])), (qf0_1, .inl (cf0_1, 3001, .inl f0_1))]) hD hS hA [3, 0] rfl
        refine va_callv (va_runV (As := [.int 5, .int ((f3 (a1 : Int32).toNatClampNeg) + 2)]) (rest := []) ⟨hx, hb, hml, hown, hts⟩ (t9_tell l dC dI H.size qf0 5 (((f3 (a1 : Int32).toNatClampNeg) + 2)) qf0_0 qf0_1 qf0_2 v0_3 qf0_4 qf0_5 qf0_6 qf0_7 qf0_8 v0_9 v0_10 u8_0 u8_1 cf0_1 f0_1 nf u12_0 u12_1 hu_12) (cwV 2 hts gv_h4_33 rfl rfl rfl (by decide +kernel) ⟨Nat.le_of_ble_eq_true rfl, Nat.le_of_ble_eq_true rfl⟩) ⟨fun a U g mk q => by obtain ⟨q0, q1, qP, qK, qD⟩ := q; exact ⟨q0, q1, qP, va_K.moved (u := U) (U := U.calling g mk a) (Vm.Alike.refl U.vm) qK, qD⟩, va_recv hKc hPc (ci := 9) (q0 := 0) rfl rfl, fun U hU hW => ⟨rfl, by rw [hU], by rw [hU]; exact hPc, va_K.moved hW.alike hKc, hDc.weaken (fun _ _ _ _ => trivial)⟩⟩ rfl rfl hl.1 rfl (lv_room (Nat.le_of_ble_eq_true rfl)) dX2_checkClassHead_61 ⟨Nat.le_of_ble_eq_true rfl, Nat.le_of_ble_eq_true rfl⟩) hS (fun q _ h => hFc q h) hFc ?_
        clear hS
        intro u t H1 locs ht hvm hw hB hz1 hk1 hS
        obtain ⟨⟩ := u
        obtain ⟨hP1, hK1, hD1⟩ := hB
        rw [ht] at hP1
        have hK1 := va_K.moved hvm.symm hK1
        try dsimp only at hw
        have hPD := va_join (wr := [(h0, .inr (2, [.ref qf0, .ref qf1, .int v2, .ref qf3, .ref qf4, .ref qf5, .ref qf6, .ref qf7, .ref qf8, .ref qf9, .ref qf10, .ref qf11, .ref qf12, .ref qf13, .ref qf14, .ref qf15, .ref qf16, .ref qf17, .ref qf18, .ref qf19, .int v20])), (qf3, .inl (cf3, 334, .inl f3)), (qf0_0, .inl (cf0_0, 3001, .inl f0_0)), (qf0_2, .inl (cf0_2, 3001, .inl f0_2)), (qf4, .inl (cf4, 1740, .inl f4))]) (w1 := [(qf0, .inr (9, [.ref qf0_0, .ref qf0_1, .ref qf0_2, .int v0_3, .ref qf0_4, .ref qf0_5, .ref qf0_6, .ref qf0_7, .ref qf0_8, .int v0_9, .int v0_10, .int u12_0, .int u12_1])), (qf0_1, .inl (cf0_1, 3001, .inl f0_1))]) hP hD [3, 0] [1, 2, 4, 5, 6] rfl rfl (by decide) (by decide) hk1 hFc hP1 hD1
        clear hP hD
        obtain ⟨hP, hD⟩ := hPD
        replace hK := (hK.sub (tys' := [(cf3, .int), (cf0_0, .int), (cf0_2, .int), (cf4, .int)]) [1, 2, 3, 4] rfl).app hK1
        clear hPc hDc hKc hFc hP1 hK1 hD1 hz1 hk1 ht hvm
        generalize H1 = H at hP hS ⊢
        replace hP : va_P (dC, dI) vwCl [(h0, .inr (2, [.ref qf0, .ref qf1, .int v2, .ref qf3, .ref qf4, .ref qf5, .ref qf6, .ref qf7, .ref qf8, .ref qf9, .ref qf10, .ref qf11, .ref qf12, .ref qf13, .ref qf14, .ref qf15, .ref qf16, .ref qf17, .ref qf18, .ref qf19, .int v20])), (qf3, .inl (cf3, 334, .inl f3)), (qf0_0, .inl (cf0_0, 3001, .inl f0_0)), (qf0_2, .inl (cf0_2, 3001, .inl f0_2)), (qf4, .inl (cf4, 1740, .inl f4)), (qf0, .inr (9, [.ref qf0_0, .ref qf0_1, .ref qf0_2, .int v0_3, .ref qf0_4, .ref qf0_5, .ref qf0_6, .ref qf0_7, .ref qf0_8, .int v0_9, .int v0_10, .int u12_0, .int u12_1])), (qf0_1, .inl (cf0_1, 3001, .inl f0_1))] H := hP
        replace hD : va_D A [(h0, .inr (2, [.ref qf0, .ref qf1, .int v2, .ref qf3, .ref qf4, .ref qf5, .ref qf6, .ref qf7, .ref qf8, .ref qf9, .ref qf10, .ref qf11, .ref qf12, .ref qf13, .ref qf14, .ref qf15, .ref qf16, .ref qf17, .ref qf18, .ref qf19, .int v20])), (qf3, .inl (cf3, 334, .inl f3)), (qf0_0, .inl (cf0_0, 3001, .inl f0_0)), (qf0_2, .inl (cf0_2, 3001, .inl f0_2)), (qf4, .inl (cf4, 1740, .inl f4)), (qf0, .inr (9, [.ref qf0_0, .ref qf0_1, .ref qf0_2, .int v0_3, .ref qf0_4, .ref qf0_5, .ref qf0_6, .ref qf0_7, .ref qf0_8, .int v0_9, .int v0_10, .int u12_0, .int u12_1])), (qf0_1, .inl (cf0_1, 3001, .inl f0_1))] := hD
        replace hK : va_K (dC, dI) vwCl [(cf3, .int), (cf0_0, .int), (cf0_2, .int), (cf4, .int), (cf0_1, .int)] s := hK
        refine lv_aload_n hx hb dX2_checkClassHead_64 rfl (lv_at hl 1 rfl) ?_
        refine lv_iload_n hx hb dX2_checkClassHead_65 rfl (lv_at hl 2 rfl) ?_
        obtain ⟨u13_0, hu_13, hsp⟩ := ox_bind hsp
        try dsimp only at hsp
        have hPc := hP.sub (ws' := [(h0, .inr (2, [.ref qf0, .ref qf1, .int v2, .ref qf3, .ref qf4, .ref qf5, .ref qf6, .ref qf7, .ref qf8, .ref qf9, .ref qf10, .ref qf11, .ref qf12, .ref qf13, .ref qf14, .ref qf15, .ref qf16, .ref qf17, .ref qf18, .ref qf19, .int v20])), (qf3, .inl (cf3, 334, .inl f3)), (qf0, .inr (9, [.ref qf0_0, .ref qf0_1, .ref qf0_2, .int v0_3, .ref qf0_4, .ref qf0_5, .ref qf0_6, .ref qf0_7, .ref qf0_8, .int v0_9, .int v0_10, .int u12_0, .int u12_1])), (qf0_0, .inl (cf0_0, 3001, .inl f0_0)), (qf0_2, .inl (cf0_2, 3001, .inl f0_2)), (qf4, .inl (cf4, 1740, .inl f4))]) [0, 1, 5, 2, 3, 4] rfl
        have hDc := hD.sub (ws' := [(h0, .inr (2, [.ref qf0, .ref qf1, .int v2, .ref qf3, .ref qf4, .ref qf5, .ref qf6, .ref qf7, .ref qf8, .ref qf9, .ref qf10, .ref qf11, .ref qf12, .ref qf13, .ref qf14, .ref qf15, .ref qf16, .ref qf17, .ref qf18, .ref qf19, .int v20])), (qf3, .inl (cf3, 334, .inl f3)), (qf0, .inr (9, [.ref qf0_0, .ref qf0_1, .ref qf0_2, .int v0_3, .ref qf0_4, .ref qf0_5, .ref qf0_6, .ref qf0_7, .ref qf0_8, .int v0_9, .int v0_10, .int u12_0, .int u12_1])), (qf0_0, .inl (cf0_0, 3001, .inl f0_0)), (qf0_2, .inl (cf0_2, 3001, .inl f0_2)), (qf4, .inl (cf4, 1740, .inl f4))]) [0, 1, 5, 2, 3, 4] (by decide) rfl
        have hKc := hK.sub (tys' := [(cf3, .int), (cf0_0, .int), (cf0_2, .int), (cf4, .int)]) [0, 1, 2, 3] rfl
        have hFc := va_free (wc := [(h0, .inr (2, [.ref qf0, .ref qf1, .int v2, .ref qf3, .ref qf4, .ref qf5, .ref qf6, .ref qf7, .ref qf8, .ref qf9, .ref qf10, .ref qf11, .ref qf12, .ref qf13, .ref qf14, .ref qf15, .ref qf16, .ref qf17, .ref qf18, .ref qf19, .int v20])), (qf3, .inl (cf3, 334, .inl f3)), (qf0, .inr (9, [.ref qf0_0, .ref qf0_1, .ref qf0_2, .int v0_3, .ref qf0_4, .ref qf0_5, .ref qf0_6, .ref qf0_7, .ref qf0_8, .int v0_9, .int v0_10, .int u12_0, .int u12_1])), (qf0_0, .inl (cf0_0, 3001, .inl f0_0)), (qf0_2, .inl (cf0_2, 3001, .inl f0_2)), (qf4, .inl (cf4, 1740, .inl f4))]) hD hS hA [0, 1, 5, 2, 3, 4] rfl
        refine va_calli (va_runV (As := [.int a1]) (rest := []) ⟨hx, hb, hml, hown, hts⟩ (t2_endsAbove l dC dI H.size h0 a1 qf0 qf1 v2 qf3 qf4 qf5 qf6 qf7 qf8 qf9 qf10 qf11 qf12 qf13 qf14 qf15 qf16 qf17 qf18 qf19 v20 cf3 f3 qf0_0 qf0_1 qf0_2 v0_3 qf0_4 qf0_5 qf0_6 qf0_7 qf0_8 v0_9 v0_10 u12_0 u12_1 cf0_0 f0_0 cf0_2 f0_2 cf4 f4 nf u13_0 hu_13) (cwV 1 hts gv_h4_41 rfl rfl rfl (by decide +kernel) ⟨Nat.le_of_ble_eq_true rfl, Nat.le_of_ble_eq_true rfl⟩) ⟨fun a U g mk q => by obtain ⟨q0, q1, qP, qK, qD⟩ := q; exact ⟨q0, q1, qP, va_K.moved (u := U) (U := U.calling g mk a) (Vm.Alike.refl U.vm) qK, qD⟩, va_recv hKc hPc (ci := 2) (q0 := 0) rfl rfl, fun U hU hW => ⟨rfl, by rw [hU], by rw [hU]; exact hPc, va_K.moved hW.alike hKc, hDc.weaken (fun _ _ _ _ => trivial)⟩⟩ rfl rfl hl.1 rfl (lv_room (Nat.le_of_ble_eq_true rfl)) dX2_checkClassHead_66 ⟨Nat.le_of_ble_eq_true rfl, Nat.le_of_ble_eq_true rfl⟩) hS (fun q _ h => hFc q h) hFc ?_
        clear hS
        intro r_18 u t H1 locs ht hvm hw hB hz1 hk1 hS
        obtain ⟨⟩ := u
        obtain ⟨hP1, hK1, hD1⟩ := hB
        rw [ht] at hP1
        have hK1 := va_K.moved hvm.symm hK1
        try dsimp only at hw
        have hPD := va_join (wr := [(qf0_1, .inl (cf0_1, 3001, .inl f0_1))]) (w1 := [(h0, .inr (2, [.ref qf0, .ref qf1, .int v2, .ref qf3, .ref qf4, .ref qf5, .ref qf6, .ref qf7, .ref qf8, .ref qf9, .ref qf10, .ref qf11, .ref qf12, .ref qf13, .ref qf14, .ref qf15, .ref qf16, .ref qf17, .ref qf18, .ref qf19, .int v20])), (qf3, .inl (cf3, 334, .inl f3)), (qf0, .inr (9, [.ref qf0_0, .ref qf0_1, .ref qf0_2, .int v0_3, .ref qf0_4, .ref qf0_5, .ref qf0_6, .ref qf0_7, .ref qf0_8, .int v0_9, .int v0_10, .int u12_0, .int u12_1])), (qf0_0, .inl (cf0_0, 3001, .inl f0_0)), (qf0_2, .inl (cf0_2, 3001, .inl f0_2)), (qf4, .inl (cf4, 1740, .inl f4))]) hP hD [0, 1, 5, 2, 3, 4] [6] rfl rfl (by decide) (by decide) hk1 hFc hP1 hD1
        clear hP hD
        obtain ⟨hP, hD⟩ := hPD
        replace hK := (hK.sub (tys' := [(cf0_1, .int)]) [4] rfl).app hK1
        clear hPc hDc hKc hFc hP1 hK1 hD1 hz1 hk1 ht hvm
        generalize H1 = H at hP hS ⊢
        replace hP : va_P (dC, dI) vwCl [(qf0_1, .inl (cf0_1, 3001, .inl f0_1)), (h0, .inr (2, [.ref qf0, .ref qf1, .int v2, .ref qf3, .ref qf4, .ref qf5, .ref qf6, .ref qf7, .ref qf8, .ref qf9, .ref qf10, .ref qf11, .ref qf12, .ref qf13, .ref qf14, .ref qf15, .ref qf16, .ref qf17, .ref qf18, .ref qf19, .int v20])), (qf3, .inl (cf3, 334, .inl f3)), (qf0, .inr (9, [.ref qf0_0, .ref qf0_1, .ref qf0_2, .int v0_3, .ref qf0_4, .ref qf0_5, .ref qf0_6, .ref qf0_7, .ref qf0_8, .int v0_9, .int v0_10, .int u12_0, .int u12_1])), (qf0_0, .inl (cf0_0, 3001, .inl f0_0)), (qf0_2, .inl (cf0_2, 3001, .inl f0_2)), (qf4, .inl (cf4, 1740, .inl f4))] H := hP
        replace hD : va_D A [(qf0_1, .inl (cf0_1, 3001, .inl f0_1)), (h0, .inr (2, [.ref qf0, .ref qf1, .int v2, .ref qf3, .ref qf4, .ref qf5, .ref qf6, .ref qf7, .ref qf8, .ref qf9, .ref qf10, .ref qf11, .ref qf12, .ref qf13, .ref qf14, .ref qf15, .ref qf16, .ref qf17, .ref qf18, .ref qf19, .int v20])), (qf3, .inl (cf3, 334, .inl f3)), (qf0, .inr (9, [.ref qf0_0, .ref qf0_1, .ref qf0_2, .int v0_3, .ref qf0_4, .ref qf0_5, .ref qf0_6, .ref qf0_7, .ref qf0_8, .int v0_9, .int v0_10, .int u12_0, .int u12_1])), (qf0_0, .inl (cf0_0, 3001, .inl f0_0)), (qf0_2, .inl (cf0_2, 3001, .inl f0_2)), (qf4, .inl (cf4, 1740, .inl f4))] := hD
        replace hK : va_K (dC, dI) vwCl [(cf0_1, .int), (cf3, .int), (cf0_0, .int), (cf0_2, .int), (cf4, .int)] s := hK
        obtain ⟨rfl, hz_13⟩ := hw
        rcases hz_13 with rfl | rfl
        · rw [if_pos rfl] at hsp
          refine lv_if_ne (tgt := 84) hx hb dX2_checkClassHead_69 (by decide) (fun c_19 => (show False by revert c_19; decide).elim) (fun c_19 => ?_)
          refine lv_aload_n hx hb dX2_checkClassHead_72 rfl (lv_at hl 1 rfl) ?_
          refine va_get (D := (dC, dI)) (ci := 2) (v := .ref qf0) (C := RX2) (T := TX2) (N := 21) hx hb hts uV_h4_X2 hown hK hP 1 rfl rfl 0 (by decide) (hts (.fieldLink RX2 74 "ClassMill$Heads" "text" "LClassMill$Text;") mw_h4_145) (fun _ h9 => h9) rfl dX2_checkClassHead_73 ?_
          refine lv_bipush (v := 6) hx hb dX2_checkClassHead_76 (by decide) ?_
          refine lv_iload_n hx hb dX2_checkClassHead_78 rfl (lv_at hl 0 rfl) ?_
          refine lv_iconst (v := 2) hx hb dX2_checkClassHead_79 (by decide) ?_
          refine lv_iadd hx hb dX2_checkClassHead_80 ?_
          obtain ⟨⟨u14_0, u14_1⟩, hu_14, hsp⟩ := ox_bind hsp
          try dsimp only at hsp
          have hPc := hP.sub (ws' := [(qf0, .inr (9, [.ref qf0_0, .ref qf0_1, .ref qf0_2, .int v0_3, .ref qf0_4, .ref qf0_5, .ref qf0_6, .ref qf0_7, .ref qf0_8, .int v0_9, .int v0_10, .int u12_0, .int u12_1])), (qf0_1, .inl (cf0_1, 3001, .inl f0_1))]) [3, 0] rfl
          have hDc := hD.sub (ws' := [(qf0, .inr (9, [.ref qf0_0, .ref qf0_1, .ref qf0_2, .int v0_3, .ref qf0_4, .ref qf0_5, .ref qf0_6, .ref qf0_7, .ref qf0_8, .int v0_9, .int v0_10, .int u12_0, .int u12_1])), (qf0_1, .inl (cf0_1, 3001, .inl f0_1))]) [3, 0] (by decide) rfl
          have hKc := hK.sub (tys' := [(cf0_1, .int)]) [0] rfl
          have hFc := va_free (wc := [(qf0, .inr (9, [.ref qf0_0, .ref qf0_1, .ref qf0_2, .int v0_3, .ref qf0_4, .ref qf0_5, .ref qf0_6, .ref qf0_7, .ref qf0_8, .int v0_9, .int v0_10, .int u12_0, .int u12_1])), (qf0_1, .inl (cf0_1, 3001, .inl f0_1))]) hD hS hA [3, 0] rfl
          refine va_callv (va_runV (As := [.int 6, .int ((f3 (a1 : Int32).toNatClampNeg) + 2)]) (rest := []) ⟨hx, hb, hml, hown, hts⟩ (t9_tell l dC dI H.size qf0 6 (((f3 (a1 : Int32).toNatClampNeg) + 2)) qf0_0 qf0_1 qf0_2 v0_3 qf0_4 qf0_5 qf0_6 qf0_7 qf0_8 v0_9 v0_10 u12_0 u12_1 cf0_1 f0_1 nf u14_0 u14_1 hu_14) (cwV 2 hts gv_h4_33 rfl rfl rfl (by decide +kernel) ⟨Nat.le_of_ble_eq_true rfl, Nat.le_of_ble_eq_true rfl⟩) ⟨fun a U g mk q => by obtain ⟨q0, q1, qP, qK, qD⟩ := q; exact ⟨q0, q1, qP, va_K.moved (u := U) (U := U.calling g mk a) (Vm.Alike.refl U.vm) qK, qD⟩, va_recv hKc hPc (ci := 9) (q0 := 0) rfl rfl, fun U hU hW => ⟨rfl, by rw [hU], by rw [hU]; exact hPc, va_K.moved hW.alike hKc, hDc.weaken (fun _ _ _ _ => trivial)⟩⟩ rfl rfl hl.1 rfl (lv_room (Nat.le_of_ble_eq_true rfl)) dX2_checkClassHead_81 ⟨Nat.le_of_ble_eq_true rfl, Nat.le_of_ble_eq_true rfl⟩) hS (fun q _ h => hFc q h) hFc ?_
          clear hS
          intro u t H1 locs ht hvm hw hB hz1 hk1 hS
          obtain ⟨⟩ := u
          obtain ⟨hP1, hK1, hD1⟩ := hB
          rw [ht] at hP1
          have hK1 := va_K.moved hvm.symm hK1
          try dsimp only at hw
          have hPD := va_join (wr := [(h0, .inr (2, [.ref qf0, .ref qf1, .int v2, .ref qf3, .ref qf4, .ref qf5, .ref qf6, .ref qf7, .ref qf8, .ref qf9, .ref qf10, .ref qf11, .ref qf12, .ref qf13, .ref qf14, .ref qf15, .ref qf16, .ref qf17, .ref qf18, .ref qf19, .int v20])), (qf3, .inl (cf3, 334, .inl f3)), (qf0_0, .inl (cf0_0, 3001, .inl f0_0)), (qf0_2, .inl (cf0_2, 3001, .inl f0_2)), (qf4, .inl (cf4, 1740, .inl f4))]) (w1 := [(qf0, .inr (9, [.ref qf0_0, .ref qf0_1, .ref qf0_2, .int v0_3, .ref qf0_4, .ref qf0_5, .ref qf0_6, .ref qf0_7, .ref qf0_8, .int v0_9, .int v0_10, .int u14_0, .int u14_1])), (qf0_1, .inl (cf0_1, 3001, .inl f0_1))]) hP hD [3, 0] [1, 2, 4, 5, 6] rfl rfl (by decide) (by decide) hk1 hFc hP1 hD1
          clear hP hD
          obtain ⟨hP, hD⟩ := hPD
          replace hK := (hK.sub (tys' := [(cf3, .int), (cf0_0, .int), (cf0_2, .int), (cf4, .int)]) [1, 2, 3, 4] rfl).app hK1
          clear hPc hDc hKc hFc hP1 hK1 hD1 hz1 hk1 ht hvm
          generalize H1 = H at hP hS ⊢
          replace hP : va_P (dC, dI) vwCl [(h0, .inr (2, [.ref qf0, .ref qf1, .int v2, .ref qf3, .ref qf4, .ref qf5, .ref qf6, .ref qf7, .ref qf8, .ref qf9, .ref qf10, .ref qf11, .ref qf12, .ref qf13, .ref qf14, .ref qf15, .ref qf16, .ref qf17, .ref qf18, .ref qf19, .int v20])), (qf3, .inl (cf3, 334, .inl f3)), (qf0_0, .inl (cf0_0, 3001, .inl f0_0)), (qf0_2, .inl (cf0_2, 3001, .inl f0_2)), (qf4, .inl (cf4, 1740, .inl f4)), (qf0, .inr (9, [.ref qf0_0, .ref qf0_1, .ref qf0_2, .int v0_3, .ref qf0_4, .ref qf0_5, .ref qf0_6, .ref qf0_7, .ref qf0_8, .int v0_9, .int v0_10, .int u14_0, .int u14_1])), (qf0_1, .inl (cf0_1, 3001, .inl f0_1))] H := hP
          replace hD : va_D A [(h0, .inr (2, [.ref qf0, .ref qf1, .int v2, .ref qf3, .ref qf4, .ref qf5, .ref qf6, .ref qf7, .ref qf8, .ref qf9, .ref qf10, .ref qf11, .ref qf12, .ref qf13, .ref qf14, .ref qf15, .ref qf16, .ref qf17, .ref qf18, .ref qf19, .int v20])), (qf3, .inl (cf3, 334, .inl f3)), (qf0_0, .inl (cf0_0, 3001, .inl f0_0)), (qf0_2, .inl (cf0_2, 3001, .inl f0_2)), (qf4, .inl (cf4, 1740, .inl f4)), (qf0, .inr (9, [.ref qf0_0, .ref qf0_1, .ref qf0_2, .int v0_3, .ref qf0_4, .ref qf0_5, .ref qf0_6, .ref qf0_7, .ref qf0_8, .int v0_9, .int v0_10, .int u14_0, .int u14_1])), (qf0_1, .inl (cf0_1, 3001, .inl f0_1))] := hD
          replace hK : va_K (dC, dI) vwCl [(cf3, .int), (cf0_0, .int), (cf0_2, .int), (cf4, .int), (cf0_1, .int)] s := hK
          have hr0 := Option.some.inj hsp
          clear hsp
          obtain ⟨hq0, hr1⟩ := Prod.mk.inj hr0
          clear hr0
          subst hq0
          subst hr1
          have hP9 := hP.sub (ws' := [(h0, .inr (2, [.ref qf0, .ref qf1, .int v2, .ref qf3, .ref qf4, .ref qf5, .ref qf6, .ref qf7, .ref qf8, .ref qf9, .ref qf10, .ref qf11, .ref qf12, .ref qf13, .ref qf14, .ref qf15, .ref qf16, .ref qf17, .ref qf18, .ref qf19, .int v20])), (qf3, .inl (cf3, 334, .inl f3)), (qf0, .inr (9, [.ref qf0_0, .ref qf0_1, .ref qf0_2, .int v0_3, .ref qf0_4, .ref qf0_5, .ref qf0_6, .ref qf0_7, .ref qf0_8, .int v0_9, .int v0_10, .int u14_0, .int u14_1])), (qf0_2, .inl (cf0_2, 3001, .inl f0_2)), (qf0_0, .inl (cf0_0, 3001, .inl f0_0)), (qf4, .inl (cf4, 1740, .inl f4)), (qf0_1, .inl (cf0_1, 3001, .inl f0_1))]) [0, 1, 5, 3, 2, 4, 6] rfl
          have hD9 := hD.sub (ws' := [(h0, .inr (2, [.ref qf0, .ref qf1, .int v2, .ref qf3, .ref qf4, .ref qf5, .ref qf6, .ref qf7, .ref qf8, .ref qf9, .ref qf10, .ref qf11, .ref qf12, .ref qf13, .ref qf14, .ref qf15, .ref qf16, .ref qf17, .ref qf18, .ref qf19, .int v20])), (qf3, .inl (cf3, 334, .inl f3)), (qf0, .inr (9, [.ref qf0_0, .ref qf0_1, .ref qf0_2, .int v0_3, .ref qf0_4, .ref qf0_5, .ref qf0_6, .ref qf0_7, .ref qf0_8, .int v0_9, .int v0_10, .int u14_0, .int u14_1])), (qf0_2, .inl (cf0_2, 3001, .inl f0_2)), (qf0_0, .inl (cf0_0, 3001, .inl f0_0)), (qf4, .inl (cf4, 1740, .inl f4)), (qf0_1, .inl (cf0_1, 3001, .inl f0_1))]) [0, 1, 5, 3, 2, 4, 6] (by decide) rfl
          have hK9 := hK.sub (tys' := [(cf3, .int), (cf0_2, .int), (cf0_0, .int), (cf4, .int), (cf0_1, .int)]) [0, 2, 1, 3, 4] rfl
          exact W.vret hx hb hr (fun t ht hW => ⟨⟨(), rfl, trivial, by rw [ht]; exact hP9, va_K.moved hW.alike hK9, hD9⟩, hS.F ht⟩) hS.2.2 dX2_checkClassHead_84
        · rw [if_neg (by decide)] at hsp
          refine lv_if_ne (tgt := 84) hx hb dX2_checkClassHead_69 (by decide) (fun c_20 => ?_) (fun c_20 => (show False by revert c_20; decide).elim)
          have hr0 := Option.some.inj hsp
          clear hsp
          obtain ⟨hq0, hr1⟩ := Prod.mk.inj hr0
          clear hr0
          subst hq0
          subst hr1
          have hP9 := hP.sub (ws' := [(h0, .inr (2, [.ref qf0, .ref qf1, .int v2, .ref qf3, .ref qf4, .ref qf5, .ref qf6, .ref qf7, .ref qf8, .ref qf9, .ref qf10, .ref qf11, .ref qf12, .ref qf13, .ref qf14, .ref qf15, .ref qf16, .ref qf17, .ref qf18, .ref qf19, .int v20])), (qf3, .inl (cf3, 334, .inl f3)), (qf0, .inr (9, [.ref qf0_0, .ref qf0_1, .ref qf0_2, .int v0_3, .ref qf0_4, .ref qf0_5, .ref qf0_6, .ref qf0_7, .ref qf0_8, .int v0_9, .int v0_10, .int u12_0, .int u12_1])), (qf0_2, .inl (cf0_2, 3001, .inl f0_2)), (qf0_0, .inl (cf0_0, 3001, .inl f0_0)), (qf4, .inl (cf4, 1740, .inl f4)), (qf0_1, .inl (cf0_1, 3001, .inl f0_1))]) [1, 2, 3, 5, 4, 6, 0] rfl
          have hD9 := hD.sub (ws' := [(h0, .inr (2, [.ref qf0, .ref qf1, .int v2, .ref qf3, .ref qf4, .ref qf5, .ref qf6, .ref qf7, .ref qf8, .ref qf9, .ref qf10, .ref qf11, .ref qf12, .ref qf13, .ref qf14, .ref qf15, .ref qf16, .ref qf17, .ref qf18, .ref qf19, .int v20])), (qf3, .inl (cf3, 334, .inl f3)), (qf0, .inr (9, [.ref qf0_0, .ref qf0_1, .ref qf0_2, .int v0_3, .ref qf0_4, .ref qf0_5, .ref qf0_6, .ref qf0_7, .ref qf0_8, .int v0_9, .int v0_10, .int u12_0, .int u12_1])), (qf0_2, .inl (cf0_2, 3001, .inl f0_2)), (qf0_0, .inl (cf0_0, 3001, .inl f0_0)), (qf4, .inl (cf4, 1740, .inl f4)), (qf0_1, .inl (cf0_1, 3001, .inl f0_1))]) [1, 2, 3, 5, 4, 6, 0] (by decide) rfl
          have hK9 := hK.sub (tys' := [(cf3, .int), (cf0_2, .int), (cf0_0, .int), (cf4, .int), (cf0_1, .int)]) [1, 3, 2, 4, 0] rfl
          exact W.vret hx hb hr (fun t ht hW => ⟨⟨(), rfl, trivial, by rw [ht]; exact hP9, va_K.moved hW.alike hK9, hD9⟩, hS.F ht⟩) hS.2.2 dX2_checkClassHead_84
  · rw [if_neg c_2] at hsp
    refine lv_aload_n hx hb dX2_checkClassHead_13 rfl (lv_at hl 1 rfl) ?_
    refine va_get (D := (dC, dI)) (ci := 2) (v := .ref qf0) (C := RX2) (T := TX2) (N := 21) hx hb hts uV_h4_X2 hown hK hP 0 rfl rfl 0 (by decide) (hts (.fieldLink RX2 74 "ClassMill$Heads" "text" "LClassMill$Text;") mw_h4_145) (fun _ h9 => h9) rfl dX2_checkClassHead_14 ?_
    refine lv_bipush (v := 11) hx hb dX2_checkClassHead_17 (by decide) ?_
    refine lv_iload_n hx hb dX2_checkClassHead_19 rfl (lv_at hl 0 rfl) ?_
    obtain ⟨⟨u15_0, u15_1⟩, hu_15, hsp⟩ := ox_bind hsp
    try dsimp only at hsp
    have hPc := hP.sub (ws' := [(qf0, .inr (9, [.ref qf0_0, .ref qf0_1, .ref qf0_2, .int v0_3, .ref qf0_4, .ref qf0_5, .ref qf0_6, .ref qf0_7, .ref qf0_8, .int v0_9, .int v0_10, .int v0_11, .int v0_12])), (qf0_1, .inl (cf0_1, 3001, .inl f0_1))]) [2, 6] rfl
    have hDc := hD.sub (ws' := [(qf0, .inr (9, [.ref qf0_0, .ref qf0_1, .ref qf0_2, .int v0_3, .ref qf0_4, .ref qf0_5, .ref qf0_6, .ref qf0_7, .ref qf0_8, .int v0_9, .int v0_10, .int v0_11, .int v0_12])), (qf0_1, .inl (cf0_1, 3001, .inl f0_1))]) [2, 6] (by decide) rfl
    have hKc := hK.sub (tys' := [(cf0_1, .int)]) [4] rfl
    have hFc := va_free (wc := [(qf0, .inr (9, [.ref qf0_0, .ref qf0_1, .ref qf0_2, .int v0_3, .ref qf0_4, .ref qf0_5, .ref qf0_6, .ref qf0_7, .ref qf0_8, .int v0_9, .int v0_10, .int v0_11, .int v0_12])), (qf0_1, .inl (cf0_1, 3001, .inl f0_1))]) hD hS hA [2, 6] rfl
    refine va_callv (va_runV (As := [.int 11, .int (f3 (a1 : Int32).toNatClampNeg)]) (rest := []) ⟨hx, hb, hml, hown, hts⟩ (t9_tell l dC dI H.size qf0 11 ((f3 (a1 : Int32).toNatClampNeg)) qf0_0 qf0_1 qf0_2 v0_3 qf0_4 qf0_5 qf0_6 qf0_7 qf0_8 v0_9 v0_10 v0_11 v0_12 cf0_1 f0_1 nf u15_0 u15_1 hu_15) (cwV 2 hts gv_h4_33 rfl rfl rfl (by decide +kernel) ⟨Nat.le_of_ble_eq_true rfl, Nat.le_of_ble_eq_true rfl⟩) ⟨fun a U g mk q => by obtain ⟨q0, q1, qP, qK, qD⟩ := q; exact ⟨q0, q1, qP, va_K.moved (u := U) (U := U.calling g mk a) (Vm.Alike.refl U.vm) qK, qD⟩, va_recv hKc hPc (ci := 9) (q0 := 0) rfl rfl, fun U hU hW => ⟨rfl, by rw [hU], by rw [hU]; exact hPc, va_K.moved hW.alike hKc, hDc.weaken (fun _ _ _ _ => trivial)⟩⟩ rfl rfl hl.1 rfl (lv_room (Nat.le_of_ble_eq_true rfl)) dX2_checkClassHead_20 ⟨Nat.le_of_ble_eq_true rfl, Nat.le_of_ble_eq_true rfl⟩) hS (fun q _ h => hFc q h) hFc ?_
    clear hS
    intro u t H1 locs ht hvm hw hB hz1 hk1 hS
    obtain ⟨⟩ := u
    obtain ⟨hP1, hK1, hD1⟩ := hB
    rw [ht] at hP1
    have hK1 := va_K.moved hvm.symm hK1
    try dsimp only at hw
    have hPD := va_join (wr := [(h0, .inr (2, [.ref qf0, .ref qf1, .int v2, .ref qf3, .ref qf4, .ref qf5, .ref qf6, .ref qf7, .ref qf8, .ref qf9, .ref qf10, .ref qf11, .ref qf12, .ref qf13, .ref qf14, .ref qf15, .ref qf16, .ref qf17, .ref qf18, .ref qf19, .int v20])), (qf3, .inl (cf3, 334, .inl f3)), (qf0_2, .inl (cf0_2, 3001, .inl f0_2)), (qf0_0, .inl (cf0_0, 3001, .inl f0_0)), (qf4, .inl (cf4, 1740, .inl f4))]) (w1 := [(qf0, .inr (9, [.ref qf0_0, .ref qf0_1, .ref qf0_2, .int v0_3, .ref qf0_4, .ref qf0_5, .ref qf0_6, .ref qf0_7, .ref qf0_8, .int v0_9, .int v0_10, .int u15_0, .int u15_1])), (qf0_1, .inl (cf0_1, 3001, .inl f0_1))]) hP hD [2, 6] [0, 1, 3, 4, 5] rfl rfl (by decide) (by decide) hk1 hFc hP1 hD1
    clear hP hD
    obtain ⟨hP, hD⟩ := hPD
    replace hK := (hK.sub (tys' := [(cf3, .int), (cf0_2, .int), (cf0_0, .int), (cf4, .int)]) [0, 1, 2, 3] rfl).app hK1
    clear hPc hDc hKc hFc hP1 hK1 hD1 hz1 hk1 ht hvm
    generalize H1 = H at hP hS ⊢
    replace hP : va_P (dC, dI) vwCl [(h0, .inr (2, [.ref qf0, .ref qf1, .int v2, .ref qf3, .ref qf4, .ref qf5, .ref qf6, .ref qf7, .ref qf8, .ref qf9, .ref qf10, .ref qf11, .ref qf12, .ref qf13, .ref qf14, .ref qf15, .ref qf16, .ref qf17, .ref qf18, .ref qf19, .int v20])), (qf3, .inl (cf3, 334, .inl f3)), (qf0_2, .inl (cf0_2, 3001, .inl f0_2)), (qf0_0, .inl (cf0_0, 3001, .inl f0_0)), (qf4, .inl (cf4, 1740, .inl f4)), (qf0, .inr (9, [.ref qf0_0, .ref qf0_1, .ref qf0_2, .int v0_3, .ref qf0_4, .ref qf0_5, .ref qf0_6, .ref qf0_7, .ref qf0_8, .int v0_9, .int v0_10, .int u15_0, .int u15_1])), (qf0_1, .inl (cf0_1, 3001, .inl f0_1))] H := hP
    replace hD : va_D A [(h0, .inr (2, [.ref qf0, .ref qf1, .int v2, .ref qf3, .ref qf4, .ref qf5, .ref qf6, .ref qf7, .ref qf8, .ref qf9, .ref qf10, .ref qf11, .ref qf12, .ref qf13, .ref qf14, .ref qf15, .ref qf16, .ref qf17, .ref qf18, .ref qf19, .int v20])), (qf3, .inl (cf3, 334, .inl f3)), (qf0_2, .inl (cf0_2, 3001, .inl f0_2)), (qf0_0, .inl (cf0_0, 3001, .inl f0_0)), (qf4, .inl (cf4, 1740, .inl f4)), (qf0, .inr (9, [.ref qf0_0, .ref qf0_1, .ref qf0_2, .int v0_3, .ref qf0_4, .ref qf0_5, .ref qf0_6, .ref qf0_7, .ref qf0_8, .int v0_9, .int v0_10, .int u15_0, .int u15_1])), (qf0_1, .inl (cf0_1, 3001, .inl f0_1))] := hD
    replace hK : va_K (dC, dI) vwCl [(cf3, .int), (cf0_2, .int), (cf0_0, .int), (cf4, .int), (cf0_1, .int)] s := hK
    refine lv_aload_n hx hb dX2_checkClassHead_23 rfl (lv_at hl 1 rfl) ?_
    refine lv_iload_n hx hb dX2_checkClassHead_24 rfl (lv_at hl 0 rfl) ?_
    obtain ⟨u16_0, hu_16, hsp⟩ := ox_bind hsp
    try dsimp only at hsp
    have hPc := hP.sub (ws' := [(h0, .inr (2, [.ref qf0, .ref qf1, .int v2, .ref qf3, .ref qf4, .ref qf5, .ref qf6, .ref qf7, .ref qf8, .ref qf9, .ref qf10, .ref qf11, .ref qf12, .ref qf13, .ref qf14, .ref qf15, .ref qf16, .ref qf17, .ref qf18, .ref qf19, .int v20])), (qf0, .inr (9, [.ref qf0_0, .ref qf0_1, .ref qf0_2, .int v0_3, .ref qf0_4, .ref qf0_5, .ref qf0_6, .ref qf0_7, .ref qf0_8, .int v0_9, .int v0_10, .int u15_0, .int u15_1])), (qf0_2, .inl (cf0_2, 3001, .inl f0_2)), (qf0_0, .inl (cf0_0, 3001, .inl f0_0)), (qf4, .inl (cf4, 1740, .inl f4))]) [0, 5, 2, 3, 4] rfl
    have hDc := hD.sub (ws' := [(h0, .inr (2, [.ref qf0, .ref qf1, .int v2, .ref qf3, .ref qf4, .ref qf5, .ref qf6, .ref qf7, .ref qf8, .ref qf9, .ref qf10, .ref qf11, .ref qf12, .ref qf13, .ref qf14, .ref qf15, .ref qf16, .ref qf17, .ref qf18, .ref qf19, .int v20])), (qf0, .inr (9, [.ref qf0_0, .ref qf0_1, .ref qf0_2, .int v0_3, .ref qf0_4, .ref qf0_5, .ref qf0_6, .ref qf0_7, .ref qf0_8, .int v0_9, .int v0_10, .int u15_0, .int u15_1])), (qf0_2, .inl (cf0_2, 3001, .inl f0_2)), (qf0_0, .inl (cf0_0, 3001, .inl f0_0)), (qf4, .inl (cf4, 1740, .inl f4))]) [0, 5, 2, 3, 4] (by decide) rfl
    have hKc := hK.sub (tys' := [(cf0_2, .int), (cf0_0, .int), (cf4, .int)]) [1, 2, 3] rfl
    have hFc := va_free (wc := [(h0, .inr (2, [.ref qf0, .ref qf1, .int v2, .ref qf3, .ref qf4, .ref qf5, .ref qf6, .ref qf7, .ref qf8, .ref qf9, .ref qf10, .ref qf11, .ref qf12, .ref qf13, .ref qf14, .ref qf15, .ref qf16, .ref qf17, .ref qf18, .ref qf19, .int v20])), (qf0, .inr (9, [.ref qf0_0, .ref qf0_1, .ref qf0_2, .int v0_3, .ref qf0_4, .ref qf0_5, .ref qf0_6, .ref qf0_7, .ref qf0_8, .int v0_9, .int v0_10, .int u15_0, .int u15_1])), (qf0_2, .inl (cf0_2, 3001, .inl f0_2)), (qf0_0, .inl (cf0_0, 3001, .inl f0_0)), (qf4, .inl (cf4, 1740, .inl f4))]) hD hS hA [0, 5, 2, 3, 4] rfl
    refine va_calli (va_runV (As := [.int (f3 (a1 : Int32).toNatClampNeg)]) (rest := []) ⟨hx, hb, hml, hown, hts⟩ (t2_classAt l dC dI H.size h0 ((f3 (a1 : Int32).toNatClampNeg)) qf0 qf1 v2 qf3 qf4 qf5 qf6 qf7 qf8 qf9 qf10 qf11 qf12 qf13 qf14 qf15 qf16 qf17 qf18 qf19 v20 qf0_0 qf0_1 qf0_2 v0_3 qf0_4 qf0_5 qf0_6 qf0_7 qf0_8 v0_9 v0_10 u15_0 u15_1 cf0_2 f0_2 cf0_0 f0_0 cf4 f4 nf u16_0 hu_16) (cwV 1 hts gv_h4_30 rfl rfl rfl (by decide +kernel) ⟨Nat.le_of_ble_eq_true rfl, Nat.le_of_ble_eq_true rfl⟩) ⟨fun a U g mk q => by obtain ⟨q0, q1, qP, qK, qD⟩ := q; exact ⟨q0, q1, qP, va_K.moved (u := U) (U := U.calling g mk a) (Vm.Alike.refl U.vm) qK, qD⟩, va_recv hKc hPc (ci := 2) (q0 := 0) rfl rfl, fun U hU hW => ⟨rfl, by rw [hU], by rw [hU]; exact hPc, va_K.moved hW.alike hKc, hDc.weaken (fun _ _ _ _ => trivial)⟩⟩ rfl rfl hl.1 rfl (lv_room (Nat.le_of_ble_eq_true rfl)) dX2_checkClassHead_25 ⟨Nat.le_of_ble_eq_true rfl, Nat.le_of_ble_eq_true rfl⟩) hS (fun q _ h => hFc q h) hFc ?_
    clear hS
    intro r_21 u t H1 locs ht hvm hw hB hz1 hk1 hS
    obtain ⟨⟩ := u
    obtain ⟨hP1, hK1, hD1⟩ := hB
    rw [ht] at hP1
    have hK1 := va_K.moved hvm.symm hK1
    try dsimp only at hw
    have hPD := va_join (wr := [(qf3, .inl (cf3, 334, .inl f3)), (qf0_1, .inl (cf0_1, 3001, .inl f0_1))]) (w1 := [(h0, .inr (2, [.ref qf0, .ref qf1, .int v2, .ref qf3, .ref qf4, .ref qf5, .ref qf6, .ref qf7, .ref qf8, .ref qf9, .ref qf10, .ref qf11, .ref qf12, .ref qf13, .ref qf14, .ref qf15, .ref qf16, .ref qf17, .ref qf18, .ref qf19, .int v20])), (qf0, .inr (9, [.ref qf0_0, .ref qf0_1, .ref qf0_2, .int v0_3, .ref qf0_4, .ref qf0_5, .ref qf0_6, .ref qf0_7, .ref qf0_8, .int v0_9, .int v0_10, .int u15_0, .int u15_1])), (qf0_2, .inl (cf0_2, 3001, .inl f0_2)), (qf0_0, .inl (cf0_0, 3001, .inl f0_0)), (qf4, .inl (cf4, 1740, .inl f4))]) hP hD [0, 5, 2, 3, 4] [1, 6] rfl rfl (by decide) (by decide) hk1 hFc hP1 hD1
    clear hP hD
    obtain ⟨hP, hD⟩ := hPD
    replace hK := (hK.sub (tys' := [(cf3, .int), (cf0_1, .int)]) [0, 4] rfl).app hK1
    clear hPc hDc hKc hFc hP1 hK1 hD1 hz1 hk1 ht hvm
    generalize H1 = H at hP hS ⊢
    replace hP : va_P (dC, dI) vwCl [(qf3, .inl (cf3, 334, .inl f3)), (qf0_1, .inl (cf0_1, 3001, .inl f0_1)), (h0, .inr (2, [.ref qf0, .ref qf1, .int v2, .ref qf3, .ref qf4, .ref qf5, .ref qf6, .ref qf7, .ref qf8, .ref qf9, .ref qf10, .ref qf11, .ref qf12, .ref qf13, .ref qf14, .ref qf15, .ref qf16, .ref qf17, .ref qf18, .ref qf19, .int v20])), (qf0, .inr (9, [.ref qf0_0, .ref qf0_1, .ref qf0_2, .int v0_3, .ref qf0_4, .ref qf0_5, .ref qf0_6, .ref qf0_7, .ref qf0_8, .int v0_9, .int v0_10, .int u15_0, .int u15_1])), (qf0_2, .inl (cf0_2, 3001, .inl f0_2)), (qf0_0, .inl (cf0_0, 3001, .inl f0_0)), (qf4, .inl (cf4, 1740, .inl f4))] H := hP
    replace hD : va_D A [(qf3, .inl (cf3, 334, .inl f3)), (qf0_1, .inl (cf0_1, 3001, .inl f0_1)), (h0, .inr (2, [.ref qf0, .ref qf1, .int v2, .ref qf3, .ref qf4, .ref qf5, .ref qf6, .ref qf7, .ref qf8, .ref qf9, .ref qf10, .ref qf11, .ref qf12, .ref qf13, .ref qf14, .ref qf15, .ref qf16, .ref qf17, .ref qf18, .ref qf19, .int v20])), (qf0, .inr (9, [.ref qf0_0, .ref qf0_1, .ref qf0_2, .int v0_3, .ref qf0_4, .ref qf0_5, .ref qf0_6, .ref qf0_7, .ref qf0_8, .int v0_9, .int v0_10, .int u15_0, .int u15_1])), (qf0_2, .inl (cf0_2, 3001, .inl f0_2)), (qf0_0, .inl (cf0_0, 3001, .inl f0_0)), (qf4, .inl (cf4, 1740, .inl f4))] := hD
    replace hK : va_K (dC, dI) vwCl [(cf3, .int), (cf0_1, .int), (cf0_2, .int), (cf0_0, .int), (cf4, .int)] s := hK
    obtain rfl := hw
    refine lv_bipush (v := 8) hx hb dX2_checkClassHead_28 (by decide) ?_
    refine lv_iload_n hx hb dX2_checkClassHead_30 rfl (lv_at hl 2 rfl) ?_
    refine lv_iadd hx hb dX2_checkClassHead_31 ?_
    refine lv_icmp_eq (tgt := 44) hx hb dX2_checkClassHead_32 (by decide) (fun c_22 => ?_) (fun c_22 => ?_)
    · rw [if_pos c_22] at hsp
      refine lv_aload_n hx hb dX2_checkClassHead_44 rfl (lv_at hl 1 rfl) ?_
      refine lv_iload_n hx hb dX2_checkClassHead_45 rfl (lv_at hl 2 rfl) ?_
      obtain ⟨u17_0, hu_17, hsp⟩ := ox_bind hsp
      try dsimp only at hsp
      have hPc := hP.sub (ws' := [(h0, .inr (2, [.ref qf0, .ref qf1, .int v2, .ref qf3, .ref qf4, .ref qf5, .ref qf6, .ref qf7, .ref qf8, .ref qf9, .ref qf10, .ref qf11, .ref qf12, .ref qf13, .ref qf14, .ref qf15, .ref qf16, .ref qf17, .ref qf18, .ref qf19, .int v20])), (qf3, .inl (cf3, 334, .inl f3)), (qf0, .inr (9, [.ref qf0_0, .ref qf0_1, .ref qf0_2, .int v0_3, .ref qf0_4, .ref qf0_5, .ref qf0_6, .ref qf0_7, .ref qf0_8, .int v0_9, .int v0_10, .int u15_0, .int u15_1])), (qf0_0, .inl (cf0_0, 3001, .inl f0_0)), (qf0_2, .inl (cf0_2, 3001, .inl f0_2)), (qf4, .inl (cf4, 1740, .inl f4))]) [2, 0, 3, 5, 4, 6] rfl
      have hDc := hD.sub (ws' := [(h0, .inr (2, [.ref qf0, .ref qf1, .int v2, .ref qf3, .ref qf4, .ref qf5, .ref qf6, .ref qf7, .ref qf8, .ref qf9, .ref qf10, .ref qf11, .ref qf12, .ref qf13, .ref qf14, .ref qf15, .ref qf16, .ref qf17, .ref qf18, .ref qf19, .int v20])), (qf3, .inl (cf3, 334, .inl f3)), (qf0, .inr (9, [.ref qf0_0, .ref qf0_1, .ref qf0_2, .int v0_3, .ref qf0_4, .ref qf0_5, .ref qf0_6, .ref qf0_7, .ref qf0_8, .int v0_9, .int v0_10, .int u15_0, .int u15_1])), (qf0_0, .inl (cf0_0, 3001, .inl f0_0)), (qf0_2, .inl (cf0_2, 3001, .inl f0_2)), (qf4, .inl (cf4, 1740, .inl f4))]) [2, 0, 3, 5, 4, 6] (by decide) rfl
      have hKc := hK.sub (tys' := [(cf3, .int), (cf0_0, .int), (cf0_2, .int), (cf4, .int)]) [0, 3, 2, 4] rfl
      have hFc := va_free (wc := [(h0, .inr (2, [.ref qf0, .ref qf1, .int v2, .ref qf3, .ref qf4, .ref qf5, .ref qf6, .ref qf7, .ref qf8, .ref qf9, .ref qf10, .ref qf11, .ref qf12, .ref qf13, .ref qf14, .ref qf15, .ref qf16, .ref qf17, .ref qf18, .ref qf19, .int v20])), (qf3, .inl (cf3, 334, .inl f3)), (qf0, .inr (9, [.ref qf0_0, .ref qf0_1, .ref qf0_2, .int v0_3, .ref qf0_4, .ref qf0_5, .ref qf0_6, .ref qf0_7, .ref qf0_8, .int v0_9, .int v0_10, .int u15_0, .int u15_1])), (qf0_0, .inl (cf0_0, 3001, .inl f0_0)), (qf0_2, .inl (cf0_2, 3001, .inl f0_2)), (qf4, .inl (cf4, 1740, .inl f4))]) hD hS hA [2, 0, 3, 5, 4, 6] rfl
      refine va_calli (va_runV (As := [.int a1]) (rest := []) ⟨hx, hb, hml, hown, hts⟩ (t2_classAbove l dC dI H.size h0 a1 qf0 qf1 v2 qf3 qf4 qf5 qf6 qf7 qf8 qf9 qf10 qf11 qf12 qf13 qf14 qf15 qf16 qf17 qf18 qf19 v20 cf3 f3 qf0_0 qf0_1 qf0_2 v0_3 qf0_4 qf0_5 qf0_6 qf0_7 qf0_8 v0_9 v0_10 u15_0 u15_1 cf0_0 f0_0 cf0_2 f0_2 cf4 f4 nf u17_0 hu_17) (cwV 1 hts gv_h4_31 rfl rfl rfl (by decide +kernel) ⟨Nat.le_of_ble_eq_true rfl, Nat.le_of_ble_eq_true rfl⟩) ⟨fun a U g mk q => by obtain ⟨q0, q1, qP, qK, qD⟩ := q; exact ⟨q0, q1, qP, va_K.moved (u := U) (U := U.calling g mk a) (Vm.Alike.refl U.vm) qK, qD⟩, va_recv hKc hPc (ci := 2) (q0 := 0) rfl rfl, fun U hU hW => ⟨rfl, by rw [hU], by rw [hU]; exact hPc, va_K.moved hW.alike hKc, hDc.weaken (fun _ _ _ _ => trivial)⟩⟩ rfl rfl hl.1 rfl (lv_room (Nat.le_of_ble_eq_true rfl)) dX2_checkClassHead_46 ⟨Nat.le_of_ble_eq_true rfl, Nat.le_of_ble_eq_true rfl⟩) hS (fun q _ h => hFc q h) hFc ?_
      clear hS
      intro r_23 u t H1 locs ht hvm hw hB hz1 hk1 hS
      obtain ⟨⟩ := u
      obtain ⟨hP1, hK1, hD1⟩ := hB
      rw [ht] at hP1
      have hK1 := va_K.moved hvm.symm hK1
      try dsimp only at hw
      have hPD := va_join (wr := [(qf0_1, .inl (cf0_1, 3001, .inl f0_1))]) (w1 := [(h0, .inr (2, [.ref qf0, .ref qf1, .int v2, .ref qf3, .ref qf4, .ref qf5, .ref qf6, .ref qf7, .ref qf8, .ref qf9, .ref qf10, .ref qf11, .ref qf12, .ref qf13, .ref qf14, .ref qf15, .ref qf16, .ref qf17, .ref qf18, .ref qf19, .int v20])), (qf3, .inl (cf3, 334, .inl f3)), (qf0, .inr (9, [.ref qf0_0, .ref qf0_1, .ref qf0_2, .int v0_3, .ref qf0_4, .ref qf0_5, .ref qf0_6, .ref qf0_7, .ref qf0_8, .int v0_9, .int v0_10, .int u15_0, .int u15_1])), (qf0_0, .inl (cf0_0, 3001, .inl f0_0)), (qf0_2, .inl (cf0_2, 3001, .inl f0_2)), (qf4, .inl (cf4, 1740, .inl f4))]) hP hD [2, 0, 3, 5, 4, 6] [1] rfl rfl (by decide) (by decide) hk1 hFc hP1 hD1
      clear hP hD
      obtain ⟨hP, hD⟩ := hPD
      replace hK := (hK.sub (tys' := [(cf0_1, .int)]) [1] rfl).app hK1
      clear hPc hDc hKc hFc hP1 hK1 hD1 hz1 hk1 ht hvm
      generalize H1 = H at hP hS ⊢
      replace hP : va_P (dC, dI) vwCl [(qf0_1, .inl (cf0_1, 3001, .inl f0_1)), (h0, .inr (2, [.ref qf0, .ref qf1, .int v2, .ref qf3, .ref qf4, .ref qf5, .ref qf6, .ref qf7, .ref qf8, .ref qf9, .ref qf10, .ref qf11, .ref qf12, .ref qf13, .ref qf14, .ref qf15, .ref qf16, .ref qf17, .ref qf18, .ref qf19, .int v20])), (qf3, .inl (cf3, 334, .inl f3)), (qf0, .inr (9, [.ref qf0_0, .ref qf0_1, .ref qf0_2, .int v0_3, .ref qf0_4, .ref qf0_5, .ref qf0_6, .ref qf0_7, .ref qf0_8, .int v0_9, .int v0_10, .int u15_0, .int u15_1])), (qf0_0, .inl (cf0_0, 3001, .inl f0_0)), (qf0_2, .inl (cf0_2, 3001, .inl f0_2)), (qf4, .inl (cf4, 1740, .inl f4))] H := hP
      replace hD : va_D A [(qf0_1, .inl (cf0_1, 3001, .inl f0_1)), (h0, .inr (2, [.ref qf0, .ref qf1, .int v2, .ref qf3, .ref qf4, .ref qf5, .ref qf6, .ref qf7, .ref qf8, .ref qf9, .ref qf10, .ref qf11, .ref qf12, .ref qf13, .ref qf14, .ref qf15, .ref qf16, .ref qf17, .ref qf18, .ref qf19, .int v20])), (qf3, .inl (cf3, 334, .inl f3)), (qf0, .inr (9, [.ref qf0_0, .ref qf0_1, .ref qf0_2, .int v0_3, .ref qf0_4, .ref qf0_5, .ref qf0_6, .ref qf0_7, .ref qf0_8, .int v0_9, .int v0_10, .int u15_0, .int u15_1])), (qf0_0, .inl (cf0_0, 3001, .inl f0_0)), (qf0_2, .inl (cf0_2, 3001, .inl f0_2)), (qf4, .inl (cf4, 1740, .inl f4))] := hD
      replace hK : va_K (dC, dI) vwCl [(cf0_1, .int), (cf3, .int), (cf0_0, .int), (cf0_2, .int), (cf4, .int)] s := hK
      obtain rfl := hw
      refine lv_iconst (v := (-1)) hx hb dX2_checkClassHead_49 (by decide) ?_
      refine lv_icmp_ne (tgt := 64) hx hb dX2_checkClassHead_50 (by decide) (fun c_24 => ?_) (fun c_24 => ?_)
      · rw [if_neg c_24] at hsp
        refine lv_aload_n hx hb dX2_checkClassHead_64 rfl (lv_at hl 1 rfl) ?_
        refine lv_iload_n hx hb dX2_checkClassHead_65 rfl (lv_at hl 2 rfl) ?_
        obtain ⟨u18_0, hu_18, hsp⟩ := ox_bind hsp
        try dsimp only at hsp
        have hPc := hP.sub (ws' := [(h0, .inr (2, [.ref qf0, .ref qf1, .int v2, .ref qf3, .ref qf4, .ref qf5, .ref qf6, .ref qf7, .ref qf8, .ref qf9, .ref qf10, .ref qf11, .ref qf12, .ref qf13, .ref qf14, .ref qf15, .ref qf16, .ref qf17, .ref qf18, .ref qf19, .int v20])), (qf3, .inl (cf3, 334, .inl f3)), (qf0, .inr (9, [.ref qf0_0, .ref qf0_1, .ref qf0_2, .int v0_3, .ref qf0_4, .ref qf0_5, .ref qf0_6, .ref qf0_7, .ref qf0_8, .int v0_9, .int v0_10, .int u15_0, .int u15_1])), (qf0_0, .inl (cf0_0, 3001, .inl f0_0)), (qf0_2, .inl (cf0_2, 3001, .inl f0_2)), (qf4, .inl (cf4, 1740, .inl f4))]) [1, 2, 3, 4, 5, 6] rfl
        have hDc := hD.sub (ws' := [(h0, .inr (2, [.ref qf0, .ref qf1, .int v2, .ref qf3, .ref qf4, .ref qf5, .ref qf6, .ref qf7, .ref qf8, .ref qf9, .ref qf10, .ref qf11, .ref qf12, .ref qf13, .ref qf14, .ref qf15, .ref qf16, .ref qf17, .ref qf18, .ref qf19, .int v20])), (qf3, .inl (cf3, 334, .inl f3)), (qf0, .inr (9, [.ref qf0_0, .ref qf0_1, .ref qf0_2, .int v0_3, .ref qf0_4, .ref qf0_5, .ref qf0_6, .ref qf0_7, .ref qf0_8, .int v0_9, .int v0_10, .int u15_0, .int u15_1])), (qf0_0, .inl (cf0_0, 3001, .inl f0_0)), (qf0_2, .inl (cf0_2, 3001, .inl f0_2)), (qf4, .inl (cf4, 1740, .inl f4))]) [1, 2, 3, 4, 5, 6] (by decide) rfl
        have hKc := hK.sub (tys' := [(cf3, .int), (cf0_0, .int), (cf0_2, .int), (cf4, .int)]) [1, 2, 3, 4] rfl
        have hFc := va_free (wc := [(h0, .inr (2, [.ref qf0, .ref qf1, .int v2, .ref qf3, .ref qf4, .ref qf5, .ref qf6, .ref qf7, .ref qf8, .ref qf9, .ref qf10, .ref qf11, .ref qf12, .ref qf13, .ref qf14, .ref qf15, .ref qf16, .ref qf17, .ref qf18, .ref qf19, .int v20])), (qf3, .inl (cf3, 334, .inl f3)), (qf0, .inr (9, [.ref qf0_0, .ref qf0_1, .ref qf0_2, .int v0_3, .ref qf0_4, .ref qf0_5, .ref qf0_6, .ref qf0_7, .ref qf0_8, .int v0_9, .int v0_10, .int u15_0, .int u15_1])), (qf0_0, .inl (cf0_0, 3001, .inl f0_0)), (qf0_2, .inl (cf0_2, 3001, .inl f0_2)), (qf4, .inl (cf4, 1740, .inl f4))]) hD hS hA [1, 2, 3, 4, 5, 6] rfl
        refine va_calli (va_runV (As := [.int a1]) (rest := []) ⟨hx, hb, hml, hown, hts⟩ (t2_endsAbove l dC dI H.size h0 a1 qf0 qf1 v2 qf3 qf4 qf5 qf6 qf7 qf8 qf9 qf10 qf11 qf12 qf13 qf14 qf15 qf16 qf17 qf18 qf19 v20 cf3 f3 qf0_0 qf0_1 qf0_2 v0_3 qf0_4 qf0_5 qf0_6 qf0_7 qf0_8 v0_9 v0_10 u15_0 u15_1 cf0_0 f0_0 cf0_2 f0_2 cf4 f4 nf u18_0 hu_18) (cwV 1 hts gv_h4_41 rfl rfl rfl (by decide +kernel) ⟨Nat.le_of_ble_eq_true rfl, Nat.le_of_ble_eq_true rfl⟩) ⟨fun a U g mk q => by obtain ⟨q0, q1, qP, qK, qD⟩ := q; exact ⟨q0, q1, qP, va_K.moved (u := U) (U := U.calling g mk a) (Vm.Alike.refl U.vm) qK, qD⟩, va_recv hKc hPc (ci := 2) (q0 := 0) rfl rfl, fun U hU hW => ⟨rfl, by rw [hU], by rw [hU]; exact hPc, va_K.moved hW.alike hKc, hDc.weaken (fun _ _ _ _ => trivial)⟩⟩ rfl rfl hl.1 rfl (lv_room (Nat.le_of_ble_eq_true rfl)) dX2_checkClassHead_66 ⟨Nat.le_of_ble_eq_true rfl, Nat.le_of_ble_eq_true rfl⟩) hS (fun q _ h => hFc q h) hFc ?_
        clear hS
        intro r_25 u t H1 locs ht hvm hw hB hz1 hk1 hS
        obtain ⟨⟩ := u
        obtain ⟨hP1, hK1, hD1⟩ := hB
        rw [ht] at hP1
        have hK1 := va_K.moved hvm.symm hK1
        try dsimp only at hw
        have hPD := va_join (wr := [(qf0_1, .inl (cf0_1, 3001, .inl f0_1))]) (w1 := [(h0, .inr (2, [.ref qf0, .ref qf1, .int v2, .ref qf3, .ref qf4, .ref qf5, .ref qf6, .ref qf7, .ref qf8, .ref qf9, .ref qf10, .ref qf11, .ref qf12, .ref qf13, .ref qf14, .ref qf15, .ref qf16, .ref qf17, .ref qf18, .ref qf19, .int v20])), (qf3, .inl (cf3, 334, .inl f3)), (qf0, .inr (9, [.ref qf0_0, .ref qf0_1, .ref qf0_2, .int v0_3, .ref qf0_4, .ref qf0_5, .ref qf0_6, .ref qf0_7, .ref qf0_8, .int v0_9, .int v0_10, .int u15_0, .int u15_1])), (qf0_0, .inl (cf0_0, 3001, .inl f0_0)), (qf0_2, .inl (cf0_2, 3001, .inl f0_2)), (qf4, .inl (cf4, 1740, .inl f4))]) hP hD [1, 2, 3, 4, 5, 6] [0] rfl rfl (by decide) (by decide) hk1 hFc hP1 hD1
        clear hP hD
        obtain ⟨hP, hD⟩ := hPD
        replace hK := (hK.sub (tys' := [(cf0_1, .int)]) [0] rfl).app hK1
        clear hPc hDc hKc hFc hP1 hK1 hD1 hz1 hk1 ht hvm
        generalize H1 = H at hP hS ⊢
        replace hP : va_P (dC, dI) vwCl [(qf0_1, .inl (cf0_1, 3001, .inl f0_1)), (h0, .inr (2, [.ref qf0, .ref qf1, .int v2, .ref qf3, .ref qf4, .ref qf5, .ref qf6, .ref qf7, .ref qf8, .ref qf9, .ref qf10, .ref qf11, .ref qf12, .ref qf13, .ref qf14, .ref qf15, .ref qf16, .ref qf17, .ref qf18, .ref qf19, .int v20])), (qf3, .inl (cf3, 334, .inl f3)), (qf0, .inr (9, [.ref qf0_0, .ref qf0_1, .ref qf0_2, .int v0_3, .ref qf0_4, .ref qf0_5, .ref qf0_6, .ref qf0_7, .ref qf0_8, .int v0_9, .int v0_10, .int u15_0, .int u15_1])), (qf0_0, .inl (cf0_0, 3001, .inl f0_0)), (qf0_2, .inl (cf0_2, 3001, .inl f0_2)), (qf4, .inl (cf4, 1740, .inl f4))] H := hP
        replace hD : va_D A [(qf0_1, .inl (cf0_1, 3001, .inl f0_1)), (h0, .inr (2, [.ref qf0, .ref qf1, .int v2, .ref qf3, .ref qf4, .ref qf5, .ref qf6, .ref qf7, .ref qf8, .ref qf9, .ref qf10, .ref qf11, .ref qf12, .ref qf13, .ref qf14, .ref qf15, .ref qf16, .ref qf17, .ref qf18, .ref qf19, .int v20])), (qf3, .inl (cf3, 334, .inl f3)), (qf0, .inr (9, [.ref qf0_0, .ref qf0_1, .ref qf0_2, .int v0_3, .ref qf0_4, .ref qf0_5, .ref qf0_6, .ref qf0_7, .ref qf0_8, .int v0_9, .int v0_10, .int u15_0, .int u15_1])), (qf0_0, .inl (cf0_0, 3001, .inl f0_0)), (qf0_2, .inl (cf0_2, 3001, .inl f0_2)), (qf4, .inl (cf4, 1740, .inl f4))] := hD
        replace hK : va_K (dC, dI) vwCl [(cf0_1, .int), (cf3, .int), (cf0_0, .int), (cf0_2, .int), (cf4, .int)] s := hK
        obtain ⟨rfl, hz_18⟩ := hw
        rcases hz_18 with rfl | rfl
        · rw [if_pos rfl] at hsp
          refine lv_if_ne (tgt := 84) hx hb dX2_checkClassHead_69 (by decide) (fun c_26 => (show False by revert c_26; decide).elim) (fun c_26 => ?_)
          refine lv_aload_n hx hb dX2_checkClassHead_72 rfl (lv_at hl 1 rfl) ?_
          refine va_get (D := (dC, dI)) (ci := 2) (v := .ref qf0) (C := RX2) (T := TX2) (N := 21) hx hb hts uV_h4_X2 hown hK hP 1 rfl rfl 0 (by decide) (hts (.fieldLink RX2 74 "ClassMill$Heads" "text" "LClassMill$Text;") mw_h4_145) (fun _ h9 => h9) rfl dX2_checkClassHead_73 ?_
          refine lv_bipush (v := 6) hx hb dX2_checkClassHead_76 (by decide) ?_
          refine lv_iload_n hx hb dX2_checkClassHead_78 rfl (lv_at hl 0 rfl) ?_
          refine lv_iconst (v := 2) hx hb dX2_checkClassHead_79 (by decide) ?_
          refine lv_iadd hx hb dX2_checkClassHead_80 ?_
          obtain ⟨⟨u19_0, u19_1⟩, hu_19, hsp⟩ := ox_bind hsp
          try dsimp only at hsp
          have hPc := hP.sub (ws' := [(qf0, .inr (9, [.ref qf0_0, .ref qf0_1, .ref qf0_2, .int v0_3, .ref qf0_4, .ref qf0_5, .ref qf0_6, .ref qf0_7, .ref qf0_8, .int v0_9, .int v0_10, .int u15_0, .int u15_1])), (qf0_1, .inl (cf0_1, 3001, .inl f0_1))]) [3, 0] rfl
          have hDc := hD.sub (ws' := [(qf0, .inr (9, [.ref qf0_0, .ref qf0_1, .ref qf0_2, .int v0_3, .ref qf0_4, .ref qf0_5, .ref qf0_6, .ref qf0_7, .ref qf0_8, .int v0_9, .int v0_10, .int u15_0, .int u15_1])), (qf0_1, .inl (cf0_1, 3001, .inl f0_1))]) [3, 0] (by decide) rfl
          have hKc := hK.sub (tys' := [(cf0_1, .int)]) [0] rfl
          have hFc := va_free (wc := [(qf0, .inr (9, [.ref qf0_0, .ref qf0_1, .ref qf0_2, .int v0_3, .ref qf0_4, .ref qf0_5, .ref qf0_6, .ref qf0_7, .ref qf0_8, .int v0_9, .int v0_10, .int u15_0, .int u15_1])), (qf0_1, .inl (cf0_1, 3001, .inl f0_1))]) hD hS hA [3, 0] rfl
          refine va_callv (va_runV (As := [.int 6, .int ((f3 (a1 : Int32).toNatClampNeg) + 2)]) (rest := []) ⟨hx, hb, hml, hown, hts⟩ (t9_tell l dC dI H.size qf0 6 (((f3 (a1 : Int32).toNatClampNeg) + 2)) qf0_0 qf0_1 qf0_2 v0_3 qf0_4 qf0_5 qf0_6 qf0_7 qf0_8 v0_9 v0_10 u15_0 u15_1 cf0_1 f0_1 nf u19_0 u19_1 hu_19) (cwV 2 hts gv_h4_33 rfl rfl rfl (by decide +kernel) ⟨Nat.le_of_ble_eq_true rfl, Nat.le_of_ble_eq_true rfl⟩) ⟨fun a U g mk q => by obtain ⟨q0, q1, qP, qK, qD⟩ := q; exact ⟨q0, q1, qP, va_K.moved (u := U) (U := U.calling g mk a) (Vm.Alike.refl U.vm) qK, qD⟩, va_recv hKc hPc (ci := 9) (q0 := 0) rfl rfl, fun U hU hW => ⟨rfl, by rw [hU], by rw [hU]; exact hPc, va_K.moved hW.alike hKc, hDc.weaken (fun _ _ _ _ => trivial)⟩⟩ rfl rfl hl.1 rfl (lv_room (Nat.le_of_ble_eq_true rfl)) dX2_checkClassHead_81 ⟨Nat.le_of_ble_eq_true rfl, Nat.le_of_ble_eq_true rfl⟩) hS (fun q _ h => hFc q h) hFc ?_
          clear hS
          intro u t H1 locs ht hvm hw hB hz1 hk1 hS
          obtain ⟨⟩ := u
          obtain ⟨hP1, hK1, hD1⟩ := hB
          rw [ht] at hP1
          have hK1 := va_K.moved hvm.symm hK1
          try dsimp only at hw
          have hPD := va_join (wr := [(h0, .inr (2, [.ref qf0, .ref qf1, .int v2, .ref qf3, .ref qf4, .ref qf5, .ref qf6, .ref qf7, .ref qf8, .ref qf9, .ref qf10, .ref qf11, .ref qf12, .ref qf13, .ref qf14, .ref qf15, .ref qf16, .ref qf17, .ref qf18, .ref qf19, .int v20])), (qf3, .inl (cf3, 334, .inl f3)), (qf0_0, .inl (cf0_0, 3001, .inl f0_0)), (qf0_2, .inl (cf0_2, 3001, .inl f0_2)), (qf4, .inl (cf4, 1740, .inl f4))]) (w1 := [(qf0, .inr (9, [.ref qf0_0, .ref qf0_1, .ref qf0_2, .int v0_3, .ref qf0_4, .ref qf0_5, .ref qf0_6, .ref qf0_7, .ref qf0_8, .int v0_9, .int v0_10, .int u19_0, .int u19_1])), (qf0_1, .inl (cf0_1, 3001, .inl f0_1))]) hP hD [3, 0] [1, 2, 4, 5, 6] rfl rfl (by decide) (by decide) hk1 hFc hP1 hD1
          clear hP hD
          obtain ⟨hP, hD⟩ := hPD
          replace hK := (hK.sub (tys' := [(cf3, .int), (cf0_0, .int), (cf0_2, .int), (cf4, .int)]) [1, 2, 3, 4] rfl).app hK1
          clear hPc hDc hKc hFc hP1 hK1 hD1 hz1 hk1 ht hvm
          generalize H1 = H at hP hS ⊢
          replace hP : va_P (dC, dI) vwCl [(h0, .inr (2, [.ref qf0, .ref qf1, .int v2, .ref qf3, .ref qf4, .ref qf5, .ref qf6, .ref qf7, .ref qf8, .ref qf9, .ref qf10, .ref qf11, .ref qf12, .ref qf13, .ref qf14, .ref qf15, .ref qf16, .ref qf17, .ref qf18, .ref qf19, .int v20])), (qf3, .inl (cf3, 334, .inl f3)), (qf0_0, .inl (cf0_0, 3001, .inl f0_0)), (qf0_2, .inl (cf0_2, 3001, .inl f0_2)), (qf4, .inl (cf4, 1740, .inl f4)), (qf0, .inr (9, [.ref qf0_0, .ref qf0_1, .ref qf0_2, .int v0_3, .ref qf0_4, .ref qf0_5, .ref qf0_6, .ref qf0_7, .ref qf0_8, .int v0_9, .int v0_10, .int u19_0, .int u19_1])), (qf0_1, .inl (cf0_1, 3001, .inl f0_1))] H := hP
          replace hD : va_D A [(h0, .inr (2, [.ref qf0, .ref qf1, .int v2, .ref qf3, .ref qf4, .ref qf5, .ref qf6, .ref qf7, .ref qf8, .ref qf9, .ref qf10, .ref qf11, .ref qf12, .ref qf13, .ref qf14, .ref qf15, .ref qf16, .ref qf17, .ref qf18, .ref qf19, .int v20])), (qf3, .inl (cf3, 334, .inl f3)), (qf0_0, .inl (cf0_0, 3001, .inl f0_0)), (qf0_2, .inl (cf0_2, 3001, .inl f0_2)), (qf4, .inl (cf4, 1740, .inl f4)), (qf0, .inr (9, [.ref qf0_0, .ref qf0_1, .ref qf0_2, .int v0_3, .ref qf0_4, .ref qf0_5, .ref qf0_6, .ref qf0_7, .ref qf0_8, .int v0_9, .int v0_10, .int u19_0, .int u19_1])), (qf0_1, .inl (cf0_1, 3001, .inl f0_1))] := hD
          replace hK : va_K (dC, dI) vwCl [(cf3, .int), (cf0_0, .int), (cf0_2, .int), (cf4, .int), (cf0_1, .int)] s := hK
          have hr0 := Option.some.inj hsp
          clear hsp
          obtain ⟨hq0, hr1⟩ := Prod.mk.inj hr0
          clear hr0
          subst hq0
          subst hr1
          have hP9 := hP.sub (ws' := [(h0, .inr (2, [.ref qf0, .ref qf1, .int v2, .ref qf3, .ref qf4, .ref qf5, .ref qf6, .ref qf7, .ref qf8, .ref qf9, .ref qf10, .ref qf11, .ref qf12, .ref qf13, .ref qf14, .ref qf15, .ref qf16, .ref qf17, .ref qf18, .ref qf19, .int v20])), (qf3, .inl (cf3, 334, .inl f3)), (qf0, .inr (9, [.ref qf0_0, .ref qf0_1, .ref qf0_2, .int v0_3, .ref qf0_4, .ref qf0_5, .ref qf0_6, .ref qf0_7, .ref qf0_8, .int v0_9, .int v0_10, .int u19_0, .int u19_1])), (qf0_2, .inl (cf0_2, 3001, .inl f0_2)), (qf0_0, .inl (cf0_0, 3001, .inl f0_0)), (qf4, .inl (cf4, 1740, .inl f4)), (qf0_1, .inl (cf0_1, 3001, .inl f0_1))]) [0, 1, 5, 3, 2, 4, 6] rfl
          have hD9 := hD.sub (ws' := [(h0, .inr (2, [.ref qf0, .ref qf1, .int v2, .ref qf3, .ref qf4, .ref qf5, .ref qf6, .ref qf7, .ref qf8, .ref qf9, .ref qf10, .ref qf11, .ref qf12, .ref qf13, .ref qf14, .ref qf15, .ref qf16, .ref qf17, .ref qf18, .ref qf19, .int v20])), (qf3, .inl (cf3, 334, .inl f3)), (qf0, .inr (9, [.ref qf0_0, .ref qf0_1, .ref qf0_2, .int v0_3, .ref qf0_4, .ref qf0_5, .ref qf0_6, .ref qf0_7, .ref qf0_8, .int v0_9, .int v0_10, .int u19_0, .int u19_1])), (qf0_2, .inl (cf0_2, 3001, .inl f0_2)), (qf0_0, .inl (cf0_0, 3001, .inl f0_0)), (qf4, .inl (cf4, 1740, .inl f4)), (qf0_1, .inl (cf0_1, 3001, .inl f0_1))]) [0, 1, 5, 3, 2, 4, 6] (by decide) rfl
          have hK9 := hK.sub (tys' := [(cf3, .int), (cf0_2, .int), (cf0_0, .int), (cf4, .int), (cf0_1, .int)]) [0, 2, 1, 3, 4] rfl
          exact W.vret hx hb hr (fun t ht hW => ⟨⟨(), rfl, trivial, by rw [ht]; exact hP9, va_K.moved hW.alike hK9, hD9⟩, hS.F ht⟩) hS.2.2 dX2_checkClassHead_84
        · rw [if_neg (by decide)] at hsp
          refine lv_if_ne (tgt := 84) hx hb dX2_checkClassHead_69 (by decide) (fun c_27 => ?_) (fun c_27 => (show False by revert c_27; decide).elim)
          have hr0 := Option.some.inj hsp
          clear hsp
          obtain ⟨hq0, hr1⟩ := Prod.mk.inj hr0
          clear hr0
          subst hq0
          subst hr1
          have hP9 := hP.sub (ws' := [(h0, .inr (2, [.ref qf0, .ref qf1, .int v2, .ref qf3, .ref qf4, .ref qf5, .ref qf6, .ref qf7, .ref qf8, .ref qf9, .ref qf10, .ref qf11, .ref qf12, .ref qf13, .ref qf14, .ref qf15, .ref qf16, .ref qf17, .ref qf18, .ref qf19, .int v20])), (qf3, .inl (cf3, 334, .inl f3)), (qf0, .inr (9, [.ref qf0_0, .ref qf0_1, .ref qf0_2, .int v0_3, .ref qf0_4, .ref qf0_5, .ref qf0_6, .ref qf0_7, .ref qf0_8, .int v0_9, .int v0_10, .int u15_0, .int u15_1])), (qf0_2, .inl (cf0_2, 3001, .inl f0_2)), (qf0_0, .inl (cf0_0, 3001, .inl f0_0)), (qf4, .inl (cf4, 1740, .inl f4)), (qf0_1, .inl (cf0_1, 3001, .inl f0_1))]) [1, 2, 3, 5, 4, 6, 0] rfl
          have hD9 := hD.sub (ws' := [(h0, .inr (2, [.ref qf0, .ref qf1, .int v2, .ref qf3, .ref qf4, .ref qf5, .ref qf6, .ref qf7, .ref qf8, .ref qf9, .ref qf10, .ref qf11, .ref qf12, .ref qf13, .ref qf14, .ref qf15, .ref qf16, .ref qf17, .ref qf18, .ref qf19, .int v20])), (qf3, .inl (cf3, 334, .inl f3)), (qf0, .inr (9, [.ref qf0_0, .ref qf0_1, .ref qf0_2, .int v0_3, .ref qf0_4, .ref qf0_5, .ref qf0_6, .ref qf0_7, .ref qf0_8, .int v0_9, .int v0_10, .int u15_0, .int u15_1])), (qf0_2, .inl (cf0_2, 3001, .inl f0_2)), (qf0_0, .inl (cf0_0, 3001, .inl f0_0)), (qf4, .inl (cf4, 1740, .inl f4)), (qf0_1, .inl (cf0_1, 3001, .inl f0_1))]) [1, 2, 3, 5, 4, 6, 0] (by decide) rfl
          have hK9 := hK.sub (tys' := [(cf3, .int), (cf0_2, .int), (cf0_0, .int), (cf4, .int), (cf0_1, .int)]) [1, 3, 2, 4, 0] rfl
          exact W.vret hx hb hr (fun t ht hW => ⟨⟨(), rfl, trivial, by rw [ht]; exact hP9, va_K.moved hW.alike hK9, hD9⟩, hS.F ht⟩) hS.2.2 dX2_checkClassHead_84
      · rw [if_pos c_24] at hsp
        refine lv_aload_n hx hb dX2_checkClassHead_53 rfl (lv_at hl 1 rfl) ?_
        refine va_get (D := (dC, dI)) (ci := 2) (v := .ref qf0) (C := RX2) (T := TX2) (N := 21) hx hb hts uV_h4_X2 hown hK hP 1 rfl rfl 0 (by decide) (hts (.fieldLink RX2 74 "ClassMill$Heads" "text" "LClassMill$Text;") mw_h4_145) (fun _ h9 => h9) rfl dX2_checkClassHead_54 ?_
        refine lv_iconst (v := 5) hx hb dX2_checkClassHead_57 (by decide) ?_
        refine lv_iload_n hx hb dX2_checkClassHead_58 rfl (lv_at hl 0 rfl) ?_
        refine lv_iconst (v := 2) hx hb dX2_checkClassHead_59 (by decide) ?_
        refine lv_iadd hx hb dX2_checkClassHead_60 ?_
        obtain ⟨⟨u20_0, u20_1⟩, hu_20, hsp⟩ := ox_bind hsp
        try dsimp only at hsp
        have hPc := hP.sub (ws' := [(qf0, .inr (9, [.ref qf0_0, .ref qf0_1, .ref qf0_2, .int v0_3, .ref qf0_4, .ref qf0_5, .ref qf0_6, .ref qf0_7, .ref qf0_8, .int v0_9, .int v0_10, .int u15_0, .int u15_1])), (qf0_1, .inl (cf0_1, 3001, .inl f0_1))]) [3, 0] rfl
        have hDc := hD.sub (ws' := [(qf0, .inr (9, [.ref qf0_0, .ref qf0_1, .ref qf0_2, .int v0_3, .ref qf0_4, .ref qf0_5, .ref qf0_6, .ref qf0_7, .ref qf0_8, .int v0_9, .int v0_10, .int u15_0, .int u15_1])), (qf0_1, .inl (cf0_1, 3001, .inl f0_1))]) [3, 0] (by decide) rfl
        have hKc := hK.sub (tys' := [(cf0_1, .int)]) [0] rfl
        have hFc := va_free (wc := [(qf0, .inr (9, [.ref qf0_0, .ref qf0_1, .ref qf0_2, .int v0_3, .ref qf0_4, .ref qf0_5, .ref qf0_6, .ref qf0_7, .ref qf0_8, .int v0_9, .int v0_10, .int u15_0, .int u15_1])), (qf0_1, .inl (cf0_1, 3001, .inl f0_1))]) hD hS hA [3, 0] rfl
        refine va_callv (va_runV (As := [.int 5, .int ((f3 (a1 : Int32).toNatClampNeg) + 2)]) (rest := []) ⟨hx, hb, hml, hown, hts⟩ (t9_tell l dC dI H.size qf0 5 (((f3 (a1 : Int32).toNatClampNeg) + 2)) qf0_0 qf0_1 qf0_2 v0_3 qf0_4 qf0_5 qf0_6 qf0_7 qf0_8 v0_9 v0_10 u15_0 u15_1 cf0_1 f0_1 nf u20_0 u20_1 hu_20) (cwV 2 hts gv_h4_33 rfl rfl rfl (by decide +kernel) ⟨Nat.le_of_ble_eq_true rfl, Nat.le_of_ble_eq_true rfl⟩) ⟨fun a U g mk q => by obtain ⟨q0, q1, qP, qK, qD⟩ := q; exact ⟨q0, q1, qP, va_K.moved (u := U) (U := U.calling g mk a) (Vm.Alike.refl U.vm) qK, qD⟩, va_recv hKc hPc (ci := 9) (q0 := 0) rfl rfl, fun U hU hW => ⟨rfl, by rw [hU], by rw [hU]; exact hPc, va_K.moved hW.alike hKc, hDc.weaken (fun _ _ _ _ => trivial)⟩⟩ rfl rfl hl.1 rfl (lv_room (Nat.le_of_ble_eq_true rfl)) dX2_checkClassHead_61 ⟨Nat.le_of_ble_eq_true rfl, Nat.le_of_ble_eq_true rfl⟩) hS (fun q _ h => hFc q h) hFc ?_
        clear hS
        intro u t H1 locs ht hvm hw hB hz1 hk1 hS
        obtain ⟨⟩ := u
        obtain ⟨hP1, hK1, hD1⟩ := hB
        rw [ht] at hP1
        have hK1 := va_K.moved hvm.symm hK1
        try dsimp only at hw
        have hPD := va_join (wr := [(h0, .inr (2, [.ref qf0, .ref qf1, .int v2, .ref qf3, .ref qf4, .ref qf5, .ref qf6, .ref qf7, .ref qf8, .ref qf9, .ref qf10, .ref qf11, .ref qf12, .ref qf13, .ref qf14, .ref qf15, .ref qf16, .ref qf17, .ref qf18, .ref qf19, .int v20])), (qf3, .inl (cf3, 334, .inl f3)), (qf0_0, .inl (cf0_0, 3001, .inl f0_0)), (qf0_2, .inl (cf0_2, 3001, .inl f0_2)), (qf4, .inl (cf4, 1740, .inl f4))]) (w1 := [(qf0, .inr (9, [.ref qf0_0, .ref qf0_1, .ref qf0_2, .int v0_3, .ref qf0_4, .ref qf0_5, .ref qf0_6, .ref qf0_7, .ref qf0_8, .int v0_9, .int v0_10, .int u20_0, .int u20_1])), (qf0_1, .inl (cf0_1, 3001, .inl f0_1))]) hP hD [3, 0] [1, 2, 4, 5, 6] rfl rfl (by decide) (by decide) hk1 hFc hP1 hD1
        clear hP hD
        obtain ⟨hP, hD⟩ := hPD
        replace hK := (hK.sub (tys' := [(cf3, .int), (cf0_0, .int), (cf0_2, .int), (cf4, .int)]) [1, 2, 3, 4] rfl).app hK1
        clear hPc hDc hKc hFc hP1 hK1 hD1 hz1 hk1 ht hvm
        generalize H1 = H at hP hS ⊢
        replace hP : va_P (dC, dI) vwCl [(h0, .inr (2, [.ref qf0, .ref qf1, .int v2, .ref qf3, .ref qf4, .ref qf5, .ref qf6, .ref qf7, .ref qf8, .ref qf9, .ref qf10, .ref qf11, .ref qf12, .ref qf13, .ref qf14, .ref qf15, .ref qf16, .ref qf17, .ref qf18, .ref qf19, .int v20])), (qf3, .inl (cf3, 334, .inl f3)), (qf0_0, .inl (cf0_0, 3001, .inl f0_0)), (qf0_2, .inl (cf0_2, 3001, .inl f0_2)), (qf4, .inl (cf4, 1740, .inl f4)), (qf0, .inr (9, [.ref qf0_0, .ref qf0_1, .ref qf0_2, .int v0_3, .ref qf0_4, .ref qf0_5, .ref qf0_6, .ref qf0_7, .ref qf0_8, .int v0_9, .int v0_10, .int u20_0, .int u20_1])), (qf0_1, .inl (cf0_1, 3001, .inl f0_1))] H := hP
        replace hD : va_D A [(h0, .inr (2, [.ref qf0, .ref qf1, .int v2, .ref qf3, .ref qf4, .ref qf5, .ref qf6, .ref qf7, .ref qf8, .ref qf9, .ref qf10, .ref qf11, .ref qf12, .ref qf13, .ref qf14, .ref qf15, .ref qf16, .ref qf17, .ref qf18, .ref qf19, .int v20])), (qf3, .inl (cf3, 334, .inl f3)), (qf0_0, .inl (cf0_0, 3001, .inl f0_0)), (qf0_2, .inl (cf0_2, 3001, .inl f0_2)), (qf4, .inl (cf4, 1740, .inl f4)), (qf0, .inr (9, [.ref qf0_0, .ref qf0_1, .ref qf0_2, .int v0_3, .ref qf0_4, .ref qf0_5, .ref qf0_6, .ref qf0_7, .ref qf0_8, .int v0_9, .int v0_10, .int u20_0, .int u20_1])), (qf0_1, .inl (cf0_1, 3001, .inl f0_1))] := hD
        replace hK : va_K (dC, dI) vwCl [(cf3, .int), (cf0_0, .int), (cf0_2, .int), (cf4, .int), (cf0_1, .int)] s := hK
        refine lv_aload_n hx hb dX2_checkClassHead_64 rfl (lv_at hl 1 rfl) ?_
        refine lv_iload_n hx hb dX2_checkClassHead_65 rfl (lv_at hl 2 rfl) ?_
        obtain ⟨u21_0, hu_21, hsp⟩ := ox_bind hsp
        try dsimp only at hsp
        have hPc := hP.sub (ws' := [(h0, .inr (2, [.ref qf0, .ref qf1, .int v2, .ref qf3, .ref qf4, .ref qf5, .ref qf6, .ref qf7, .ref qf8, .ref qf9, .ref qf10, .ref qf11, .ref qf12, .ref qf13, .ref qf14, .ref qf15, .ref qf16, .ref qf17, .ref qf18, .ref qf19, .int v20])), (qf3, .inl (cf3, 334, .inl f3)), (qf0, .inr (9, [.ref qf0_0, .ref qf0_1, .ref qf0_2, .int v0_3, .ref qf0_4, .ref qf0_5, .ref qf0_6, .ref qf0_7, .ref qf0_8, .int v0_9, .int v0_10, .int u20_0, .int u20_1])), (qf0_0, .inl (cf0_0, 3001, .inl f0_0)), (qf0_2, .inl (cf0_2, 3001, .inl f0_2)), (qf4, .inl (cf4, 1740, .inl f4))]) [0, 1, 5, 2, 3, 4] rfl
        have hDc := hD.sub (ws' := [(h0, .inr (2, [.ref qf0, .ref qf1, .int v2, .ref qf3, .ref qf4, .ref qf5, .ref qf6, .ref qf7, .ref qf8, .ref qf9, .ref qf10, .ref qf11, .ref qf12, .ref qf13, .ref qf14, .ref qf15, .ref qf16, .ref qf17, .ref qf18, .ref qf19, .int v20])), (qf3, .inl (cf3, 334, .inl f3)), (qf0, .inr (9, [.ref qf0_0, .ref qf0_1, .ref qf0_2, .int v0_3, .ref qf0_4, .ref qf0_5, .ref qf0_6, .ref qf0_7, .ref qf0_8, .int v0_9, .int v0_10, .int u20_0, .int u20_1])), (qf0_0, .inl (cf0_0, 3001, .inl f0_0)), (qf0_2, .inl (cf0_2, 3001, .inl f0_2)), (qf4, .inl (cf4, 1740, .inl f4))]) [0, 1, 5, 2, 3, 4] (by decide) rfl
        have hKc := hK.sub (tys' := [(cf3, .int), (cf0_0, .int), (cf0_2, .int), (cf4, .int)]) [0, 1, 2, 3] rfl
        have hFc := va_free (wc := [(h0, .inr (2, [.ref qf0, .ref qf1, .int v2, .ref qf3, .ref qf4, .ref qf5, .ref qf6, .ref qf7, .ref qf8, .ref qf9, .ref qf10, .ref qf11, .ref qf12, .ref qf13, .ref qf14, .ref qf15, .ref qf16, .ref qf17, .ref qf18, .ref qf19, .int v20])), (qf3, .inl (cf3, 334, .inl f3)), (qf0, .inr (9, [.ref qf0_0, .ref qf0_1, .ref qf0_2, .int v0_3, .ref qf0_4, .ref qf0_5, .ref qf0_6, .ref qf0_7, .ref qf0_8, .int v0_9, .int v0_10, .int u20_0, .int u20_1])), (qf0_0, .inl (cf0_0, 3001, .inl f0_0)), (qf0_2, .inl (cf0_2, 3001, .inl f0_2)), (qf4, .inl (cf4, 1740, .inl f4))]) hD hS hA [0, 1, 5, 2, 3, 4] rfl
        refine va_calli (va_runV (As := [.int a1]) (rest := []) ⟨hx, hb, hml, hown, hts⟩ (t2_endsAbove l dC dI H.size h0 a1 qf0 qf1 v2 qf3 qf4 qf5 qf6 qf7 qf8 qf9 qf10 qf11 qf12 qf13 qf14 qf15 qf16 qf17 qf18 qf19 v20 cf3 f3 qf0_0 qf0_1 qf0_2 v0_3 qf0_4 qf0_5 qf0_6 qf0_7 qf0_8 v0_9 v0_10 u20_0 u20_1 cf0_0 f0_0 cf0_2 f0_2 cf4 f4 nf u21_0 hu_21) (cwV 1 hts gv_h4_41 rfl rfl rfl (by decide +kernel) ⟨Nat.le_of_ble_eq_true rfl, Nat.le_of_ble_eq_true rfl⟩) ⟨fun a U g mk q => by obtain ⟨q0, q1, qP, qK, qD⟩ := q; exact ⟨q0, q1, qP, va_K.moved (u := U) (U := U.calling g mk a) (Vm.Alike.refl U.vm) qK, qD⟩, va_recv hKc hPc (ci := 2) (q0 := 0) rfl rfl, fun U hU hW => ⟨rfl, by rw [hU], by rw [hU]; exact hPc, va_K.moved hW.alike hKc, hDc.weaken (fun _ _ _ _ => trivial)⟩⟩ rfl rfl hl.1 rfl (lv_room (Nat.le_of_ble_eq_true rfl)) dX2_checkClassHead_66 ⟨Nat.le_of_ble_eq_true rfl, Nat.le_of_ble_eq_true rfl⟩) hS (fun q _ h => hFc q h) hFc ?_
        clear hS
        intro r_28 u t H1 locs ht hvm hw hB hz1 hk1 hS
        obtain ⟨⟩ := u
        obtain ⟨hP1, hK1, hD1⟩ := hB
        rw [ht] at hP1
        have hK1 := va_K.moved hvm.symm hK1
        try dsimp only at hw
        have hPD := va_join (wr := [(qf0_1, .inl (cf0_1, 3001, .inl f0_1))]) (w1 := [(h0, .inr (2, [.ref qf0, .ref qf1, .int v2, .ref qf3, .ref qf4, .ref qf5, .ref qf6, .ref qf7, .ref qf8, .ref qf9, .ref qf10, .ref qf11, .ref qf12, .ref qf13, .ref qf14, .ref qf15, .ref qf16, .ref qf17, .ref qf18, .ref qf19, .int v20])), (qf3, .inl (cf3, 334, .inl f3)), (qf0, .inr (9, [.ref qf0_0, .ref qf0_1, .ref qf0_2, .int v0_3, .ref qf0_4, .ref qf0_5, .ref qf0_6, .ref qf0_7, .ref qf0_8, .int v0_9, .int v0_10, .int u20_0, .int u20_1])), (qf0_0, .inl (cf0_0, 3001, .inl f0_0)), (qf0_2, .inl (cf0_2, 3001, .inl f0_2)), (qf4, .inl (cf4, 1740, .inl f4))]) hP hD [0, 1, 5, 2, 3, 4] [6] rfl rfl (by decide) (by decide) hk1 hFc hP1 hD1
        clear hP hD
        obtain ⟨hP, hD⟩ := hPD
        replace hK := (hK.sub (tys' := [(cf0_1, .int)]) [4] rfl).app hK1
        clear hPc hDc hKc hFc hP1 hK1 hD1 hz1 hk1 ht hvm
        generalize H1 = H at hP hS ⊢
        replace hP : va_P (dC, dI) vwCl [(qf0_1, .inl (cf0_1, 3001, .inl f0_1)), (h0, .inr (2, [.ref qf0, .ref qf1, .int v2, .ref qf3, .ref qf4, .ref qf5, .ref qf6, .ref qf7, .ref qf8, .ref qf9, .ref qf10, .ref qf11, .ref qf12, .ref qf13, .ref qf14, .ref qf15, .ref qf16, .ref qf17, .ref qf18, .ref qf19, .int v20])), (qf3, .inl (cf3, 334, .inl f3)), (qf0, .inr (9, [.ref qf0_0, .ref qf0_1, .ref qf0_2, .int v0_3, .ref qf0_4, .ref qf0_5, .ref qf0_6, .ref qf0_7, .ref qf0_8, .int v0_9, .int v0_10, .int u20_0, .int u20_1])), (qf0_0, .inl (cf0_0, 3001, .inl f0_0)), (qf0_2, .inl (cf0_2, 3001, .inl f0_2)), (qf4, .inl (cf4, 1740, .inl f4))] H := hP
        replace hD : va_D A [(qf0_1, .inl (cf0_1, 3001, .inl f0_1)), (h0, .inr (2, [.ref qf0, .ref qf1, .int v2, .ref qf3, .ref qf4, .ref qf5, .ref qf6, .ref qf7, .ref qf8, .ref qf9, .ref qf10, .ref qf11, .ref qf12, .ref qf13, .ref qf14, .ref qf15, .ref qf16, .ref qf17, .ref qf18, .ref qf19, .int v20])), (qf3, .inl (cf3, 334, .inl f3)), (qf0, .inr (9, [.ref qf0_0, .ref qf0_1, .ref qf0_2, .int v0_3, .ref qf0_4, .ref qf0_5, .ref qf0_6, .ref qf0_7, .ref qf0_8, .int v0_9, .int v0_10, .int u20_0, .int u20_1])), (qf0_0, .inl (cf0_0, 3001, .inl f0_0)), (qf0_2, .inl (cf0_2, 3001, .inl f0_2)), (qf4, .inl (cf4, 1740, .inl f4))] := hD
        replace hK : va_K (dC, dI) vwCl [(cf0_1, .int), (cf3, .int), (cf0_0, .int), (cf0_2, .int), (cf4, .int)] s := hK
        obtain ⟨rfl, hz_21⟩ := hw
        rcases hz_21 with rfl | rfl
        · rw [if_pos rfl] at hsp
          refine lv_if_ne (tgt := 84) hx hb dX2_checkClassHead_69 (by decide) (fun c_29 => (show False by revert c_29; decide).elim) (fun c_29 => ?_)
          refine lv_aload_n hx hb dX2_checkClassHead_72 rfl (lv_at hl 1 rfl) ?_
          refine va_get (D := (dC, dI)) (ci := 2) (v := .ref qf0) (C := RX2) (T := TX2) (N := 21) hx hb hts uV_h4_X2 hown hK hP 1 rfl rfl 0 (by decide) (hts (.fieldLink RX2 74 "ClassMill$Heads" "text" "LClassMill$Text;") mw_h4_145) (fun _ h9 => h9) rfl dX2_checkClassHead_73 ?_
          refine lv_bipush (v := 6) hx hb dX2_checkClassHead_76 (by decide) ?_
          refine lv_iload_n hx hb dX2_checkClassHead_78 rfl (lv_at hl 0 rfl) ?_
          refine lv_iconst (v := 2) hx hb dX2_checkClassHead_79 (by decide) ?_
          refine lv_iadd hx hb dX2_checkClassHead_80 ?_
          obtain ⟨⟨u22_0, u22_1⟩, hu_22, hsp⟩ := ox_bind hsp
          try dsimp only at hsp
          have hPc := hP.sub (ws' := [(qf0, .inr (9, [.ref qf0_0, .ref qf0_1, .ref qf0_2, .int v0_3, .ref qf0_4, .ref qf0_5, .ref qf0_6, .ref qf0_7, .ref qf0_8, .int v0_9, .int v0_10, .int u20_0, .int u20_1])), (qf0_1, .inl (cf0_1, 3001, .inl f0_1))]) [3, 0] rfl
          have hDc := hD.sub (ws' := [(qf0, .inr (9, [.ref qf0_0, .ref qf0_1, .ref qf0_2, .int v0_3, .ref qf0_4, .ref qf0_5, .ref qf0_6, .ref qf0_7, .ref qf0_8, .int v0_9, .int v0_10, .int u20_0, .int u20_1])), (qf0_1, .inl (cf0_1, 3001, .inl f0_1))]) [3, 0] (by decide) rfl
          have hKc := hK.sub (tys' := [(cf0_1, .int)]) [0] rfl
          have hFc := va_free (wc := [(qf0, .inr (9, [.ref qf0_0, .ref qf0_1, .ref qf0_2, .int v0_3, .ref qf0_4, .ref qf0_5, .ref qf0_6, .ref qf0_7, .ref qf0_8, .int v0_9, .int v0_10, .int u20_0, .int u20_1])), (qf0_1, .inl (cf0_1, 3001, .inl f0_1))]) hD hS hA [3, 0] rfl
          refine va_callv (va_runV (As := [.int 6, .int ((f3 (a1 : Int32).toNatClampNeg) + 2)]) (rest := []) ⟨hx, hb, hml, hown, hts⟩ (t9_tell l dC dI H.size qf0 6 (((f3 (a1 : Int32).toNatClampNeg) + 2)) qf0_0 qf0_1 qf0_2 v0_3 qf0_4 qf0_5 qf0_6 qf0_7 qf0_8 v0_9 v0_10 u20_0 u20_1 cf0_1 f0_1 nf u22_0 u22_1 hu_22) (cwV 2 hts gv_h4_33 rfl rfl rfl (by decide +kernel) ⟨Nat.le_of_ble_eq_true rfl, Nat.le_of_ble_eq_true rfl⟩) ⟨fun a U g mk q => by obtain ⟨q0, q1, qP, qK, qD⟩ := q; exact ⟨q0, q1, qP, va_K.moved (u := U) (U := U.calling g mk a) (Vm.Alike.refl U.vm) qK, qD⟩, va_recv hKc hPc (ci := 9) (q0 := 0) rfl rfl, fun U hU hW => ⟨rfl, by rw [hU], by rw [hU]; exact hPc, va_K.moved hW.alike hKc, hDc.weaken (fun _ _ _ _ => trivial)⟩⟩ rfl rfl hl.1 rfl (lv_room (Nat.le_of_ble_eq_true rfl)) dX2_checkClassHead_81 ⟨Nat.le_of_ble_eq_true rfl, Nat.le_of_ble_eq_true rfl⟩) hS (fun q _ h => hFc q h) hFc ?_
          clear hS
          intro u t H1 locs ht hvm hw hB hz1 hk1 hS
          obtain ⟨⟩ := u
          obtain ⟨hP1, hK1, hD1⟩ := hB
          rw [ht] at hP1
          have hK1 := va_K.moved hvm.symm hK1
          try dsimp only at hw
          have hPD := va_join (wr := [(h0, .inr (2, [.ref qf0, .ref qf1, .int v2, .ref qf3, .ref qf4, .ref qf5, .ref qf6, .ref qf7, .ref qf8, .ref qf9, .ref qf10, .ref qf11, .ref qf12, .ref qf13, .ref qf14, .ref qf15, .ref qf16, .ref qf17, .ref qf18, .ref qf19, .int v20])), (qf3, .inl (cf3, 334, .inl f3)), (qf0_0, .inl (cf0_0, 3001, .inl f0_0)), (qf0_2, .inl (cf0_2, 3001, .inl f0_2)), (qf4, .inl (cf4, 1740, .inl f4))]) (w1 := [(qf0, .inr (9, [.ref qf0_0, .ref qf0_1, .ref qf0_2, .int v0_3, .ref qf0_4, .ref qf0_5, .ref qf0_6, .ref qf0_7, .ref qf0_8, .int v0_9, .int v0_10, .int u22_0, .int u22_1])), (qf0_1, .inl (cf0_1, 3001, .inl f0_1))]) hP hD [3, 0] [1, 2, 4, 5, 6] rfl rfl (by decide) (by decide) hk1 hFc hP1 hD1
          clear hP hD
          obtain ⟨hP, hD⟩ := hPD
          replace hK := (hK.sub (tys' := [(cf3, .int), (cf0_0, .int), (cf0_2, .int), (cf4, .int)]) [1, 2, 3, 4] rfl).app hK1
          clear hPc hDc hKc hFc hP1 hK1 hD1 hz1 hk1 ht hvm
          generalize H1 = H at hP hS ⊢
          replace hP : va_P (dC, dI) vwCl [(h0, .inr (2, [.ref qf0, .ref qf1, .int v2, .ref qf3, .ref qf4, .ref qf5, .ref qf6, .ref qf7, .ref qf8, .ref qf9, .ref qf10, .ref qf11, .ref qf12, .ref qf13, .ref qf14, .ref qf15, .ref qf16, .ref qf17, .ref qf18, .ref qf19, .int v20])), (qf3, .inl (cf3, 334, .inl f3)), (qf0_0, .inl (cf0_0, 3001, .inl f0_0)), (qf0_2, .inl (cf0_2, 3001, .inl f0_2)), (qf4, .inl (cf4, 1740, .inl f4)), (qf0, .inr (9, [.ref qf0_0, .ref qf0_1, .ref qf0_2, .int v0_3, .ref qf0_4, .ref qf0_5, .ref qf0_6, .ref qf0_7, .ref qf0_8, .int v0_9, .int v0_10, .int u22_0, .int u22_1])), (qf0_1, .inl (cf0_1, 3001, .inl f0_1))] H := hP
          replace hD : va_D A [(h0, .inr (2, [.ref qf0, .ref qf1, .int v2, .ref qf3, .ref qf4, .ref qf5, .ref qf6, .ref qf7, .ref qf8, .ref qf9, .ref qf10, .ref qf11, .ref qf12, .ref qf13, .ref qf14, .ref qf15, .ref qf16, .ref qf17, .ref qf18, .ref qf19, .int v20])), (qf3, .inl (cf3, 334, .inl f3)), (qf0_0, .inl (cf0_0, 3001, .inl f0_0)), (qf0_2, .inl (cf0_2, 3001, .inl f0_2)), (qf4, .inl (cf4, 1740, .inl f4)), (qf0, .inr (9, [.ref qf0_0, .ref qf0_1, .ref qf0_2, .int v0_3, .ref qf0_4, .ref qf0_5, .ref qf0_6, .ref qf0_7, .ref qf0_8, .int v0_9, .int v0_10, .int u22_0, .int u22_1])), (qf0_1, .inl (cf0_1, 3001, .inl f0_1))] := hD
          replace hK : va_K (dC, dI) vwCl [(cf3, .int), (cf0_0, .int), (cf0_2, .int), (cf4, .int), (cf0_1, .int)] s := hK
          have hr0 := Option.some.inj hsp
          clear hsp
          obtain ⟨hq0, hr1⟩ := Prod.mk.inj hr0
          clear hr0
          subst hq0
          subst hr1
          have hP9 := hP.sub (ws' := [(h0, .inr (2, [.ref qf0, .ref qf1, .int v2, .ref qf3, .ref qf4, .ref qf5, .ref qf6, .ref qf7, .ref qf8, .ref qf9, .ref qf10, .ref qf11, .ref qf12, .ref qf13, .ref qf14, .ref qf15, .ref qf16, .ref qf17, .ref qf18, .ref qf19, .int v20])), (qf3, .inl (cf3, 334, .inl f3)), (qf0, .inr (9, [.ref qf0_0, .ref qf0_1, .ref qf0_2, .int v0_3, .ref qf0_4, .ref qf0_5, .ref qf0_6, .ref qf0_7, .ref qf0_8, .int v0_9, .int v0_10, .int u22_0, .int u22_1])), (qf0_2, .inl (cf0_2, 3001, .inl f0_2)), (qf0_0, .inl (cf0_0, 3001, .inl f0_0)), (qf4, .inl (cf4, 1740, .inl f4)), (qf0_1, .inl (cf0_1, 3001, .inl f0_1))]) [0, 1, 5, 3, 2, 4, 6] rfl
          have hD9 := hD.sub (ws' := [(h0, .inr (2, [.ref qf0, .ref qf1, .int v2, .ref qf3, .ref qf4, .ref qf5, .ref qf6, .ref qf7, .ref qf8, .ref qf9, .ref qf10, .ref qf11, .ref qf12, .ref qf13, .ref qf14, .ref qf15, .ref qf16, .ref qf17, .ref qf18, .ref qf19, .int v20])), (qf3, .inl (cf3, 334, .inl f3)), (qf0, .inr (9, [.ref qf0_0, .ref qf0_1, .ref qf0_2, .int v0_3, .ref qf0_4, .ref qf0_5, .ref qf0_6, .ref qf0_7, .ref qf0_8, .int v0_9, .int v0_10, .int u22_0, .int u22_1])), (qf0_2, .inl (cf0_2, 3001, .inl f0_2)), (qf0_0, .inl (cf0_0, 3001, .inl f0_0)), (qf4, .inl (cf4, 1740, .inl f4)), (qf0_1, .inl (cf0_1, 3001, .inl f0_1))]) [0, 1, 5, 3, 2, 4, 6] (by decide) rfl
          have hK9 := hK.sub (tys' := [(cf3, .int), (cf0_2, .int), (cf0_0, .int), (cf4, .int), (cf0_1, .int)]) [0, 2, 1, 3, 4] rfl
          exact W.vret hx hb hr (fun t ht hW => ⟨⟨(), rfl, trivial, by rw [ht]; exact hP9, va_K.moved hW.alike hK9, hD9⟩, hS.F ht⟩) hS.2.2 dX2_checkClassHead_84
        · rw [if_neg (by decide)] at hsp
          refine lv_if_ne (tgt := 84) hx hb dX2_checkClassHead_69 (by decide) (fun c_30 => ?_) (fun c_30 => (show False by revert c_30; decide).elim)
          have hr0 := Option.some.inj hsp
          clear hsp
          obtain ⟨hq0, hr1⟩ := Prod.mk.inj hr0
          clear hr0
          subst hq0
          subst hr1
          have hP9 := hP.sub (ws' := [(h0, .inr (2, [.ref qf0, .ref qf1, .int v2, .ref qf3, .ref qf4, .ref qf5, .ref qf6, .ref qf7, .ref qf8, .ref qf9, .ref qf10, .ref qf11, .ref qf12, .ref qf13, .ref qf14, .ref qf15, .ref qf16, .ref qf17, .ref qf18, .ref qf19, .int v20])), (qf3, .inl (cf3, 334, .inl f3)), (qf0, .inr (9, [.ref qf0_0, .ref qf0_1, .ref qf0_2, .int v0_3, .ref qf0_4, .ref qf0_5, .ref qf0_6, .ref qf0_7, .ref qf0_8, .int v0_9, .int v0_10, .int u20_0, .int u20_1])), (qf0_2, .inl (cf0_2, 3001, .inl f0_2)), (qf0_0, .inl (cf0_0, 3001, .inl f0_0)), (qf4, .inl (cf4, 1740, .inl f4)), (qf0_1, .inl (cf0_1, 3001, .inl f0_1))]) [1, 2, 3, 5, 4, 6, 0] rfl
          have hD9 := hD.sub (ws' := [(h0, .inr (2, [.ref qf0, .ref qf1, .int v2, .ref qf3, .ref qf4, .ref qf5, .ref qf6, .ref qf7, .ref qf8, .ref qf9, .ref qf10, .ref qf11, .ref qf12, .ref qf13, .ref qf14, .ref qf15, .ref qf16, .ref qf17, .ref qf18, .ref qf19, .int v20])), (qf3, .inl (cf3, 334, .inl f3)), (qf0, .inr (9, [.ref qf0_0, .ref qf0_1, .ref qf0_2, .int v0_3, .ref qf0_4, .ref qf0_5, .ref qf0_6, .ref qf0_7, .ref qf0_8, .int v0_9, .int v0_10, .int u20_0, .int u20_1])), (qf0_2, .inl (cf0_2, 3001, .inl f0_2)), (qf0_0, .inl (cf0_0, 3001, .inl f0_0)), (qf4, .inl (cf4, 1740, .inl f4)), (qf0_1, .inl (cf0_1, 3001, .inl f0_1))]) [1, 2, 3, 5, 4, 6, 0] (by decide) rfl
          have hK9 := hK.sub (tys' := [(cf3, .int), (cf0_2, .int), (cf0_0, .int), (cf4, .int), (cf0_1, .int)]) [1, 3, 2, 4, 0] rfl
          exact W.vret hx hb hr (fun t ht hW => ⟨⟨(), rfl, trivial, by rw [ht]; exact hP9, va_K.moved hW.alike hK9, hD9⟩, hS.F ht⟩) hS.2.2 dX2_checkClassHead_84
    · rw [if_neg c_22] at hsp
      refine lv_aload_n hx hb dX2_checkClassHead_35 rfl (lv_at hl 1 rfl) ?_
      refine va_get (D := (dC, dI)) (ci := 2) (v := .ref qf0) (C := RX2) (T := TX2) (N := 21) hx hb hts uV_h4_X2 hown hK hP 2 rfl rfl 0 (by decide) (hts (.fieldLink RX2 74 "ClassMill$Heads" "text" "LClassMill$Text;") mw_h4_145) (fun _ h9 => h9) rfl dX2_checkClassHead_36 ?_
      refine lv_iconst (v := 4) hx hb dX2_checkClassHead_39 (by decide) ?_
      refine lv_iload_n hx hb dX2_checkClassHead_40 rfl (lv_at hl 0 rfl) ?_
      obtain ⟨⟨u23_0, u23_1⟩, hu_23, hsp⟩ := ox_bind hsp
      try dsimp only at hsp
      have hPc := hP.sub (ws' := [(qf0, .inr (9, [.ref qf0_0, .ref qf0_1, .ref qf0_2, .int v0_3, .ref qf0_4, .ref qf0_5, .ref qf0_6, .ref qf0_7, .ref qf0_8, .int v0_9, .int v0_10, .int u15_0, .int u15_1])), (qf0_1, .inl (cf0_1, 3001, .inl f0_1))]) [3, 1] rfl
      have hDc := hD.sub (ws' := [(qf0, .inr (9, [.ref qf0_0, .ref qf0_1, .ref qf0_2, .int v0_3, .ref qf0_4, .ref qf0_5, .ref qf0_6, .ref qf0_7, .ref qf0_8, .int v0_9, .int v0_10, .int u15_0, .int u15_1])), (qf0_1, .inl (cf0_1, 3001, .inl f0_1))]) [3, 1] (by decide) rfl
      have hKc := hK.sub (tys' := [(cf0_1, .int)]) [1] rfl
      have hFc := va_free (wc := [(qf0, .inr (9, [.ref qf0_0, .ref qf0_1, .ref qf0_2, .int v0_3, .ref qf0_4, .ref qf0_5, .ref qf0_6, .ref qf0_7, .ref qf0_8, .int v0_9, .int v0_10, .int u15_0, .int u15_1])), (qf0_1, .inl (cf0_1, 3001, .inl f0_1))]) hD hS hA [3, 1] rfl
      refine va_callv (va_runV (As := [.int 4, .int (f3 (a1 : Int32).toNatClampNeg)]) (rest := []) ⟨hx, hb, hml, hown, hts⟩ (t9_tell l dC dI H.size qf0 4 ((f3 (a1 : Int32).toNatClampNeg)) qf0_0 qf0_1 qf0_2 v0_3 qf0_4 qf0_5 qf0_6 qf0_7 qf0_8 v0_9 v0_10 u15_0 u15_1 cf0_1 f0_1 nf u23_0 u23_1 hu_23) (cwV 2 hts gv_h4_33 rfl rfl rfl (by decide +kernel) ⟨Nat.le_of_ble_eq_true rfl, Nat.le_of_ble_eq_true rfl⟩) ⟨fun a U g mk q => by obtain ⟨q0, q1, qP, qK, qD⟩ := q; exact ⟨q0, q1, qP, va_K.moved (u := U) (U := U.calling g mk a) (Vm.Alike.refl U.vm) qK, qD⟩, va_recv hKc hPc (ci := 9) (q0 := 0) rfl rfl, fun U hU hW => ⟨rfl, by rw [hU], by rw [hU]; exact hPc, va_K.moved hW.alike hKc, hDc.weaken (fun _ _ _ _ => trivial)⟩⟩ rfl rfl hl.1 rfl (lv_room (Nat.le_of_ble_eq_true rfl)) dX2_checkClassHead_41 ⟨Nat.le_of_ble_eq_true rfl, Nat.le_of_ble_eq_true rfl⟩) hS (fun q _ h => hFc q h) hFc ?_
      clear hS
      intro u t H1 locs ht hvm hw hB hz1 hk1 hS
      obtain ⟨⟩ := u
      obtain ⟨hP1, hK1, hD1⟩ := hB
      rw [ht] at hP1
      have hK1 := va_K.moved hvm.symm hK1
      try dsimp only at hw
      have hPD := va_join (wr := [(qf3, .inl (cf3, 334, .inl f3)), (h0, .inr (2, [.ref qf0, .ref qf1, .int v2, .ref qf3, .ref qf4, .ref qf5, .ref qf6, .ref qf7, .ref qf8, .ref qf9, .ref qf10, .ref qf11, .ref qf12, .ref qf13, .ref qf14, .ref qf15, .ref qf16, .ref qf17, .ref qf18, .ref qf19, .int v20])), (qf0_2, .inl (cf0_2, 3001, .inl f0_2)), (qf0_0, .inl (cf0_0, 3001, .inl f0_0)), (qf4, .inl (cf4, 1740, .inl f4))]) (w1 := [(qf0, .inr (9, [.ref qf0_0, .ref qf0_1, .ref qf0_2, .int v0_3, .ref qf0_4, .ref qf0_5, .ref qf0_6, .ref qf0_7, .ref qf0_8, .int v0_9, .int v0_10, .int u23_0, .int u23_1])), (qf0_1, .inl (cf0_1, 3001, .inl f0_1))]) hP hD [3, 1] [0, 2, 4, 5, 6] rfl rfl (by decide) (by decide) hk1 hFc hP1 hD1
      clear hP hD
      obtain ⟨hP, hD⟩ := hPD
      replace hK := (hK.sub (tys' := [(cf3, .int), (cf0_2, .int), (cf0_0, .int), (cf4, .int)]) [0, 2, 3, 4] rfl).app hK1
      clear hPc hDc hKc hFc hP1 hK1 hD1 hz1 hk1 ht hvm
      generalize H1 = H at hP hS ⊢
      replace hP : va_P (dC, dI) vwCl [(qf3, .inl (cf3, 334, .inl f3)), (h0, .inr (2, [.ref qf0, .ref qf1, .int v2, .ref qf3, .ref qf4, .ref qf5, .ref qf6, .ref qf7, .ref qf8, .ref qf9, .ref qf10, .ref qf11, .ref qf12, .ref qf13, .ref qf14, .ref qf15, .ref qf16, .ref qf17, .ref qf18, .ref qf19, .int v20])), (qf0_2, .inl (cf0_2, 3001, .inl f0_2)), (qf0_0, .inl (cf0_0, 3001, .inl f0_0)), (qf4, .inl (cf4, 1740, .inl f4)), (qf0, .inr (9, [.ref qf0_0, .ref qf0_1, .ref qf0_2, .int v0_3, .ref qf0_4, .ref qf0_5, .ref qf0_6, .ref qf0_7, .ref qf0_8, .int v0_9, .int v0_10, .int u23_0, .int u23_1])), (qf0_1, .inl (cf0_1, 3001, .inl f0_1))] H := hP
      replace hD : va_D A [(qf3, .inl (cf3, 334, .inl f3)), (h0, .inr (2, [.ref qf0, .ref qf1, .int v2, .ref qf3, .ref qf4, .ref qf5, .ref qf6, .ref qf7, .ref qf8, .ref qf9, .ref qf10, .ref qf11, .ref qf12, .ref qf13, .ref qf14, .ref qf15, .ref qf16, .ref qf17, .ref qf18, .ref qf19, .int v20])), (qf0_2, .inl (cf0_2, 3001, .inl f0_2)), (qf0_0, .inl (cf0_0, 3001, .inl f0_0)), (qf4, .inl (cf4, 1740, .inl f4)), (qf0, .inr (9, [.ref qf0_0, .ref qf0_1, .ref qf0_2, .int v0_3, .ref qf0_4, .ref qf0_5, .ref qf0_6, .ref qf0_7, .ref qf0_8, .int v0_9, .int v0_10, .int u23_0, .int u23_1])), (qf0_1, .inl (cf0_1, 3001, .inl f0_1))] := hD
      replace hK : va_K (dC, dI) vwCl [(cf3, .int), (cf0_2, .int), (cf0_0, .int), (cf4, .int), (cf0_1, .int)] s := hK
      refine lv_aload_n hx hb dX2_checkClassHead_44 rfl (lv_at hl 1 rfl) ?_
      refine lv_iload_n hx hb dX2_checkClassHead_45 rfl (lv_at hl 2 rfl) ?_
      obtain ⟨u24_0, hu_24, hsp⟩ := ox_bind hsp
      try dsimp only at hsp
      have hPc := hP.sub (ws' := [(h0, .inr (2, [.ref qf0, .ref qf1, .int v2, .ref qf3, .ref qf4, .ref qf5, .ref qf6, .ref qf7, .ref qf8, .ref qf9, .ref qf10, .ref qf11, .ref qf12, .ref qf13, .ref qf14, .ref qf15, .ref qf16, .ref qf17, .ref qf18, .ref qf19, .int v20])), (qf3, .inl (cf3, 334, .inl f3)), (qf0, .inr (9, [.ref qf0_0, .ref qf0_1, .ref qf0_2, .int v0_3, .ref qf0_4, .ref qf0_5, .ref qf0_6, .ref qf0_7, .ref qf0_8, .int v0_9, .int v0_10, .int u23_0, .int u23_1])), (qf0_0, .inl (cf0_0, 3001, .inl f0_0)), (qf0_2, .inl (cf0_2, 3001, .inl f0_2)), (qf4, .inl (cf4, 1740, .inl f4))]) [1, 0, 5, 3, 2, 4] rfl
      have hDc := hD.sub (ws' := [(h0, .inr (2, [.ref qf0, .ref qf1, .int v2, .ref qf3, .ref qf4, .ref qf5, .ref qf6, .ref qf7, .ref qf8, .ref qf9, .ref qf10, .ref qf11, .ref qf12, .ref qf13, .ref qf14, .ref qf15, .ref qf16, .ref qf17, .ref qf18, .ref qf19, .int v20])), (qf3, .inl (cf3, 334, .inl f3)), (qf0, .inr (9, [.ref qf0_0, .ref qf0_1, .ref qf0_2, .int v0_3, .ref qf0_4, .ref qf0_5, .ref qf0_6, .ref qf0_7, .ref qf0_8, .int v0_9, .int v0_10, .int u23_0, .int u23_1])), (qf0_0, .inl (cf0_0, 3001, .inl f0_0)), (qf0_2, .inl (cf0_2, 3001, .inl f0_2)), (qf4, .inl (cf4, 1740, .inl f4))]) [1, 0, 5, 3, 2, 4] (by decide) rfl
      have hKc := hK.sub (tys' := [(cf3, .int), (cf0_0, .int), (cf0_2, .int), (cf4, .int)]) [0, 2, 1, 3] rfl
      have hFc := va_free (wc := [(h0, .inr (2, [.ref qf0, .ref qf1, .int v2, .ref qf3, .ref qf4, .ref qf5, .ref qf6, .ref qf7, .ref qf8, .ref qf9, .ref qf10, .ref qf11, .ref qf12, .ref qf13, .ref qf14, .ref qf15, .ref qf16, .ref qf17, .ref qf18, .ref qf19, .int v20])), (qf3, .inl (cf3, 334, .inl f3)), (qf0, .inr (9, [.ref qf0_0, .ref qf0_1, .ref qf0_2, .int v0_3, .ref qf0_4, .ref qf0_5, .ref qf0_6, .ref qf0_7, .ref qf0_8, .int v0_9, .int v0_10, .int u23_0, .int u23_1])), (qf0_0, .inl (cf0_0, 3001, .inl f0_0)), (qf0_2, .inl (cf0_2, 3001, .inl f0_2)), (qf4, .inl (cf4, 1740, .inl f4))]) hD hS hA [1, 0, 5, 3, 2, 4] rfl
      refine va_calli (va_runV (As := [.int a1]) (rest := []) ⟨hx, hb, hml, hown, hts⟩ (t2_classAbove l dC dI H.size h0 a1 qf0 qf1 v2 qf3 qf4 qf5 qf6 qf7 qf8 qf9 qf10 qf11 qf12 qf13 qf14 qf15 qf16 qf17 qf18 qf19 v20 cf3 f3 qf0_0 qf0_1 qf0_2 v0_3 qf0_4 qf0_5 qf0_6 qf0_7 qf0_8 v0_9 v0_10 u23_0 u23_1 cf0_0 f0_0 cf0_2 f0_2 cf4 f4 nf u24_0 hu_24) (cwV 1 hts gv_h4_31 rfl rfl rfl (by decide +kernel) ⟨Nat.le_of_ble_eq_true rfl, Nat.le_of_ble_eq_true rfl⟩) ⟨fun a U g mk q => by obtain ⟨q0, q1, qP, qK, qD⟩ := q; exact ⟨q0, q1, qP, va_K.moved (u := U) (U := U.calling g mk a) (Vm.Alike.refl U.vm) qK, qD⟩, va_recv hKc hPc (ci := 2) (q0 := 0) rfl rfl, fun U hU hW => ⟨rfl, by rw [hU], by rw [hU]; exact hPc, va_K.moved hW.alike hKc, hDc.weaken (fun _ _ _ _ => trivial)⟩⟩ rfl rfl hl.1 rfl (lv_room (Nat.le_of_ble_eq_true rfl)) dX2_checkClassHead_46 ⟨Nat.le_of_ble_eq_true rfl, Nat.le_of_ble_eq_true rfl⟩) hS (fun q _ h => hFc q h) hFc ?_
      clear hS
      intro r_31 u t H1 locs ht hvm hw hB hz1 hk1 hS
      obtain ⟨⟩ := u
      obtain ⟨hP1, hK1, hD1⟩ := hB
      rw [ht] at hP1
      have hK1 := va_K.moved hvm.symm hK1
      try dsimp only at hw
      have hPD := va_join (wr := [(qf0_1, .inl (cf0_1, 3001, .inl f0_1))]) (w1 := [(h0, .inr (2, [.ref qf0, .ref qf1, .int v2, .ref qf3, .ref qf4, .ref qf5, .ref qf6, .ref qf7, .ref qf8, .ref qf9, .ref qf10, .ref qf11, .ref qf12, .ref qf13, .ref qf14, .ref qf15, .ref qf16, .ref qf17, .ref qf18, .ref qf19, .int v20])), (qf3, .inl (cf3, 334, .inl f3)), (qf0, .inr (9, [.ref qf0_0, .ref qf0_1, .ref qf0_2, .int v0_3, .ref qf0_4, .ref qf0_5, .ref qf0_6, .ref qf0_7, .ref qf0_8, .int v0_9, .int v0_10, .int u23_0, .int u23_1])), (qf0_0, .inl (cf0_0, 3001, .inl f0_0)), (qf0_2, .inl (cf0_2, 3001, .inl f0_2)), (qf4, .inl (cf4, 1740, .inl f4))]) hP hD [1, 0, 5, 3, 2, 4] [6] rfl rfl (by decide) (by decide) hk1 hFc hP1 hD1
      clear hP hD
      obtain ⟨hP, hD⟩ := hPD
      replace hK := (hK.sub (tys' := [(cf0_1, .int)]) [4] rfl).app hK1
      clear hPc hDc hKc hFc hP1 hK1 hD1 hz1 hk1 ht hvm
      generalize H1 = H at hP hS ⊢
      replace hP : va_P (dC, dI) vwCl [(qf0_1, .inl (cf0_1, 3001, .inl f0_1)), (h0, .inr (2, [.ref qf0, .ref qf1, .int v2, .ref qf3, .ref qf4, .ref qf5, .ref qf6, .ref qf7, .ref qf8, .ref qf9, .ref qf10, .ref qf11, .ref qf12, .ref qf13, .ref qf14, .ref qf15, .ref qf16, .ref qf17, .ref qf18, .ref qf19, .int v20])), (qf3, .inl (cf3, 334, .inl f3)), (qf0, .inr (9, [.ref qf0_0, .ref qf0_1, .ref qf0_2, .int v0_3, .ref qf0_4, .ref qf0_5, .ref qf0_6, .ref qf0_7, .ref qf0_8, .int v0_9, .int v0_10, .int u23_0, .int u23_1])), (qf0_0, .inl (cf0_0, 3001, .inl f0_0)), (qf0_2, .inl (cf0_2, 3001, .inl f0_2)), (qf4, .inl (cf4, 1740, .inl f4))] H := hP
      replace hD : va_D A [(qf0_1, .inl (cf0_1, 3001, .inl f0_1)), (h0, .inr (2, [.ref qf0, .ref qf1, .int v2, .ref qf3, .ref qf4, .ref qf5, .ref qf6, .ref qf7, .ref qf8, .ref qf9, .ref qf10, .ref qf11, .ref qf12, .ref qf13, .ref qf14, .ref qf15, .ref qf16, .ref qf17, .ref qf18, .ref qf19, .int v20])), (qf3, .inl (cf3, 334, .inl f3)), (qf0, .inr (9, [.ref qf0_0, .ref qf0_1, .ref qf0_2, .int v0_3, .ref qf0_4, .ref qf0_5, .ref qf0_6, .ref qf0_7, .ref qf0_8, .int v0_9, .int v0_10, .int u23_0, .int u23_1])), (qf0_0, .inl (cf0_0, 3001, .inl f0_0)), (qf0_2, .inl (cf0_2, 3001, .inl f0_2)), (qf4, .inl (cf4, 1740, .inl f4))] := hD
      replace hK : va_K (dC, dI) vwCl [(cf0_1, .int), (cf3, .int), (cf0_0, .int), (cf0_2, .int), (cf4, .int)] s := hK
      obtain rfl := hw
      refine lv_iconst (v := (-1)) hx hb dX2_checkClassHead_49 (by decide) ?_
      refine lv_icmp_ne (tgt := 64) hx hb dX2_checkClassHead_50 (by decide) (fun c_32 => ?_) (fun c_32 => ?_)
      · rw [if_neg c_32] at hsp
        refine lv_aload_n hx hb dX2_checkClassHead_64 rfl (lv_at hl 1 rfl) ?_
        refine lv_iload_n hx hb dX2_checkClassHead_65 rfl (lv_at hl 2 rfl) ?_
        obtain ⟨u25_0, hu_25, hsp⟩ := ox_bind hsp
        try dsimp only at hsp
        have hPc := hP.sub (ws' := [(h0, .inr (2, [.ref qf0, .ref qf1, .int v2, .ref qf3, .ref qf4, .ref qf5, .ref qf6, .ref qf7, .ref qf8, .ref qf9, .ref qf10, .ref qf11, .ref qf12, .ref qf13, .ref qf14, .ref qf15, .ref qf16, .ref qf17, .ref qf18, .ref qf19, .int v20])), (qf3, .inl (cf3, 334, .inl f3)), (qf0, .inr (9, [.ref qf0_0, .ref qf0_1, .ref qf0_2, .int v0_3, .ref qf0_4, .ref qf0_5, .ref qf0_6, .ref qf0_7, .ref qf0_8, .int v0_9, .int v0_10, .int u23_0, .int u23_1])), (qf0_0, .inl (cf0_0, 3001, .inl f0_0)), (qf0_2, .inl (cf0_2, 3001, .inl f0_2)), (qf4, .inl (cf4, 1740, .inl f4))]) [1, 2, 3, 4, 5, 6] rfl
        have hDc := hD.sub (ws' := [(h0, .inr (2, [.ref qf0, .ref qf1, .int v2, .ref qf3, .ref qf4, .ref qf5, .ref qf6, .ref qf7, .ref qf8, .ref qf9, .ref qf10, .ref qf11, .ref qf12, .ref qf13, .ref qf14, .ref qf15, .ref qf16, .ref qf17, .ref qf18, .ref qf19, .int v20])), (qf3, .inl (cf3, 334, .inl f3)), (qf0, .inr (9, [.ref qf0_0, .ref qf0_1, .ref qf0_2, .int v0_3, .ref qf0_4, .ref qf0_5, .ref qf0_6, .ref qf0_7, .ref qf0_8, .int v0_9, .int v0_10, .int u23_0, .int u23_1])), (qf0_0, .inl (cf0_0, 3001, .inl f0_0)), (qf0_2, .inl (cf0_2, 3001, .inl f0_2)), (qf4, .inl (cf4, 1740, .inl f4))]) [1, 2, 3, 4, 5, 6] (by decide) rfl
        have hKc := hK.sub (tys' := [(cf3, .int), (cf0_0, .int), (cf0_2, .int), (cf4, .int)]) [1, 2, 3, 4] rfl
        have hFc := va_free (wc := [(h0, .inr (2, [.ref qf0, .ref qf1, .int v2, .ref qf3, .ref qf4, .ref qf5, .ref qf6, .ref qf7, .ref qf8, .ref qf9, .ref qf10, .ref qf11, .ref qf12, .ref qf13, .ref qf14, .ref qf15, .ref qf16, .ref qf17, .ref qf18, .ref qf19, .int v20])), (qf3, .inl (cf3, 334, .inl f3)), (qf0, .inr (9, [.ref qf0_0, .ref qf0_1, .ref qf0_2, .int v0_3, .ref qf0_4, .ref qf0_5, .ref qf0_6, .ref qf0_7, .ref qf0_8, .int v0_9, .int v0_10, .int u23_0, .int u23_1])), (qf0_0, .inl (cf0_0, 3001, .inl f0_0)), (qf0_2, .inl (cf0_2, 3001, .inl f0_2)), (qf4, .inl (cf4, 1740, .inl f4))]) hD hS hA [1, 2, 3, 4, 5, 6] rfl
        refine va_calli (va_runV (As := [.int a1]) (rest := []) ⟨hx, hb, hml, hown, hts⟩ (t2_endsAbove l dC dI H.size h0 a1 qf0 qf1 v2 qf3 qf4 qf5 qf6 qf7 qf8 qf9 qf10 qf11 qf12 qf13 qf14 qf15 qf16 qf17 qf18 qf19 v20 cf3 f3 qf0_0 qf0_1 qf0_2 v0_3 qf0_4 qf0_5 qf0_6 qf0_7 qf0_8 v0_9 v0_10 u23_0 u23_1 cf0_0 f0_0 cf0_2 f0_2 cf4 f4 nf u25_0 hu_25) (cwV 1 hts gv_h4_41 rfl rfl rfl (by decide +kernel) ⟨Nat.le_of_ble_eq_true rfl, Nat.le_of_ble_eq_true rfl⟩) ⟨fun a U g mk q => by obtain ⟨q0, q1, qP, qK, qD⟩ := q; exact ⟨q0, q1, qP, va_K.moved (u := U) (U := U.calling g mk a) (Vm.Alike.refl U.vm) qK, qD⟩, va_recv hKc hPc (ci := 2) (q0 := 0) rfl rfl, fun U hU hW => ⟨rfl, by rw [hU], by rw [hU]; exact hPc, va_K.moved hW.alike hKc, hDc.weaken (fun _ _ _ _ => trivial)⟩⟩ rfl rfl hl.1 rfl (lv_room (Nat.le_of_ble_eq_true rfl)) dX2_checkClassHead_66 ⟨Nat.le_of_ble_eq_true rfl, Nat.le_of_ble_eq_true rfl⟩) hS (fun q _ h => hFc q h) hFc ?_
        clear hS
        intro r_33 u t H1 locs ht hvm hw hB hz1 hk1 hS
        obtain ⟨⟩ := u
        obtain ⟨hP1, hK1, hD1⟩ := hB
        rw [ht] at hP1
        have hK1 := va_K.moved hvm.symm hK1
        try dsimp only at hw
        have hPD := va_join (wr := [(qf0_1, .inl (cf0_1, 3001, .inl f0_1))]) (w1 := [(h0, .inr (2, [.ref qf0, .ref qf1, .int v2, .ref qf3, .ref qf4, .ref qf5, .ref qf6, .ref qf7, .ref qf8, .ref qf9, .ref qf10, .ref qf11, .ref qf12, .ref qf13, .ref qf14, .ref qf15, .ref qf16, .ref qf17, .ref qf18, .ref qf19, .int v20])), (qf3, .inl (cf3, 334, .inl f3)), (qf0, .inr (9, [.ref qf0_0, .ref qf0_1, .ref qf0_2, .int v0_3, .ref qf0_4, .ref qf0_5, .ref qf0_6, .ref qf0_7, .ref qf0_8, .int v0_9, .int v0_10, .int u23_0, .int u23_1])), (qf0_0, .inl (cf0_0, 3001, .inl f0_0)), (qf0_2, .inl (cf0_2, 3001, .inl f0_2)), (qf4, .inl (cf4, 1740, .inl f4))]) hP hD [1, 2, 3, 4, 5, 6] [0] rfl rfl (by decide) (by decide) hk1 hFc hP1 hD1
        clear hP hD
        obtain ⟨hP, hD⟩ := hPD
        replace hK := (hK.sub (tys' := [(cf0_1, .int)]) [0] rfl).app hK1
        clear hPc hDc hKc hFc hP1 hK1 hD1 hz1 hk1 ht hvm
        generalize H1 = H at hP hS ⊢
        replace hP : va_P (dC, dI) vwCl [(qf0_1, .inl (cf0_1, 3001, .inl f0_1)), (h0, .inr (2, [.ref qf0, .ref qf1, .int v2, .ref qf3, .ref qf4, .ref qf5, .ref qf6, .ref qf7, .ref qf8, .ref qf9, .ref qf10, .ref qf11, .ref qf12, .ref qf13, .ref qf14, .ref qf15, .ref qf16, .ref qf17, .ref qf18, .ref qf19, .int v20])), (qf3, .inl (cf3, 334, .inl f3)), (qf0, .inr (9, [.ref qf0_0, .ref qf0_1, .ref qf0_2, .int v0_3, .ref qf0_4, .ref qf0_5, .ref qf0_6, .ref qf0_7, .ref qf0_8, .int v0_9, .int v0_10, .int u23_0, .int u23_1])), (qf0_0, .inl (cf0_0, 3001, .inl f0_0)), (qf0_2, .inl (cf0_2, 3001, .inl f0_2)), (qf4, .inl (cf4, 1740, .inl f4))] H := hP
        replace hD : va_D A [(qf0_1, .inl (cf0_1, 3001, .inl f0_1)), (h0, .inr (2, [.ref qf0, .ref qf1, .int v2, .ref qf3, .ref qf4, .ref qf5, .ref qf6, .ref qf7, .ref qf8, .ref qf9, .ref qf10, .ref qf11, .ref qf12, .ref qf13, .ref qf14, .ref qf15, .ref qf16, .ref qf17, .ref qf18, .ref qf19, .int v20])), (qf3, .inl (cf3, 334, .inl f3)), (qf0, .inr (9, [.ref qf0_0, .ref qf0_1, .ref qf0_2, .int v0_3, .ref qf0_4, .ref qf0_5, .ref qf0_6, .ref qf0_7, .ref qf0_8, .int v0_9, .int v0_10, .int u23_0, .int u23_1])), (qf0_0, .inl (cf0_0, 3001, .inl f0_0)), (qf0_2, .inl (cf0_2, 3001, .inl f0_2)), (qf4, .inl (cf4, 1740, .inl f4))] := hD
        replace hK : va_K (dC, dI) vwCl [(cf0_1, .int), (cf3, .int), (cf0_0, .int), (cf0_2, .int), (cf4, .int)] s := hK
        obtain ⟨rfl, hz_25⟩ := hw
        rcases hz_25 with rfl | rfl
        · rw [if_pos rfl] at hsp
          refine lv_if_ne (tgt := 84) hx hb dX2_checkClassHead_69 (by decide) (fun c_34 => (show False by revert c_34; decide).elim) (fun c_34 => ?_)
          refine lv_aload_n hx hb dX2_checkClassHead_72 rfl (lv_at hl 1 rfl) ?_
          refine va_get (D := (dC, dI)) (ci := 2) (v := .ref qf0) (C := RX2) (T := TX2) (N := 21) hx hb hts uV_h4_X2 hown hK hP 1 rfl rfl 0 (by decide) (hts (.fieldLink RX2 74 "ClassMill$Heads" "text" "LClassMill$Text;") mw_h4_145) (fun _ h9 => h9) rfl dX2_checkClassHead_73 ?_
          refine lv_bipush (v := 6) hx hb dX2_checkClassHead_76 (by decide) ?_
          refine lv_iload_n hx hb dX2_checkClassHead_78 rfl (lv_at hl 0 rfl) ?_
          refine lv_iconst (v := 2) hx hb dX2_checkClassHead_79 (by decide) ?_
          refine lv_iadd hx hb dX2_checkClassHead_80 ?_
          obtain ⟨⟨u26_0, u26_1⟩, hu_26, hsp⟩ := ox_bind hsp
          try dsimp only at hsp
          have hPc := hP.sub (ws' := [(qf0, .inr (9, [.ref qf0_0, .ref qf0_1, .ref qf0_2, .int v0_3, .ref qf0_4, .ref qf0_5, .ref qf0_6, .ref qf0_7, .ref qf0_8, .int v0_9, .int v0_10, .int u23_0, .int u23_1])), (qf0_1, .inl (cf0_1, 3001, .inl f0_1))]) [3, 0] rfl
          have hDc := hD.sub (ws' := [(qf0, .inr (9, [.ref qf0_0, .ref qf0_1, .ref qf0_2, .int v0_3, .ref qf0_4, .ref qf0_5, .ref qf0_6, .ref qf0_7, .ref qf0_8, .int v0_9, .int v0_10, .int u23_0, .int u23_1])), (qf0_1, .inl (cf0_1, 3001, .inl f0_1))]) [3, 0] (by decide) rfl
          have hKc := hK.sub (tys' := [(cf0_1, .int)]) [0] rfl
          have hFc := va_free (wc := [(qf0, .inr (9, [.ref qf0_0, .ref qf0_1, .ref qf0_2, .int v0_3, .ref qf0_4, .ref qf0_5, .ref qf0_6, .ref qf0_7, .ref qf0_8, .int v0_9, .int v0_10, .int u23_0, .int u23_1])), (qf0_1, .inl (cf0_1, 3001, .inl f0_1))]) hD hS hA [3, 0] rfl
          refine va_callv (va_runV (As := [.int 6, .int ((f3 (a1 : Int32).toNatClampNeg) + 2)]) (rest := []) ⟨hx, hb, hml, hown, hts⟩ (t9_tell l dC dI H.size qf0 6 (((f3 (a1 : Int32).toNatClampNeg) + 2)) qf0_0 qf0_1 qf0_2 v0_3 qf0_4 qf0_5 qf0_6 qf0_7 qf0_8 v0_9 v0_10 u23_0 u23_1 cf0_1 f0_1 nf u26_0 u26_1 hu_26) (cwV 2 hts gv_h4_33 rfl rfl rfl (by decide +kernel) ⟨Nat.le_of_ble_eq_true rfl, Nat.le_of_ble_eq_true rfl⟩) ⟨fun a U g mk q => by obtain ⟨q0, q1, qP, qK, qD⟩ := q; exact ⟨q0, q1, qP, va_K.moved (u := U) (U := U.calling g mk a) (Vm.Alike.refl U.vm) qK, qD⟩, va_recv hKc hPc (ci := 9) (q0 := 0) rfl rfl, fun U hU hW => ⟨rfl, by rw [hU], by rw [hU]; exact hPc, va_K.moved hW.alike hKc, hDc.weaken (fun _ _ _ _ => trivial)⟩⟩ rfl rfl hl.1 rfl (lv_room (Nat.le_of_ble_eq_true rfl)) dX2_checkClassHead_81 ⟨Nat.le_of_ble_eq_true rfl, Nat.le_of_ble_eq_true rfl⟩) hS (fun q _ h => hFc q h) hFc ?_
          clear hS
          intro u t H1 locs ht hvm hw hB hz1 hk1 hS
          obtain ⟨⟩ := u
          obtain ⟨hP1, hK1, hD1⟩ := hB
          rw [ht] at hP1
          have hK1 := va_K.moved hvm.symm hK1
          try dsimp only at hw
          have hPD := va_join (wr := [(h0, .inr (2, [.ref qf0, .ref qf1, .int v2, .ref qf3, .ref qf4, .ref qf5, .ref qf6, .ref qf7, .ref qf8, .ref qf9, .ref qf10, .ref qf11, .ref qf12, .ref qf13, .ref qf14, .ref qf15, .ref qf16, .ref qf17, .ref qf18, .ref qf19, .int v20])), (qf3, .inl (cf3, 334, .inl f3)), (qf0_0, .inl (cf0_0, 3001, .inl f0_0)), (qf0_2, .inl (cf0_2, 3001, .inl f0_2)), (qf4, .inl (cf4, 1740, .inl f4))]) (w1 := [(qf0, .inr (9, [.ref qf0_0, .ref qf0_1, .ref qf0_2, .int v0_3, .ref qf0_4, .ref qf0_5, .ref qf0_6, .ref qf0_7, .ref qf0_8, .int v0_9, .int v0_10, .int u26_0, .int u26_1])), (qf0_1, .inl (cf0_1, 3001, .inl f0_1))]) hP hD [3, 0] [1, 2, 4, 5, 6] rfl rfl (by decide) (by decide) hk1 hFc hP1 hD1
          clear hP hD
          obtain ⟨hP, hD⟩ := hPD
          replace hK := (hK.sub (tys' := [(cf3, .int), (cf0_0, .int), (cf0_2, .int), (cf4, .int)]) [1, 2, 3, 4] rfl).app hK1
          clear hPc hDc hKc hFc hP1 hK1 hD1 hz1 hk1 ht hvm
          generalize H1 = H at hP hS ⊢
          replace hP : va_P (dC, dI) vwCl [(h0, .inr (2, [.ref qf0, .ref qf1, .int v2, .ref qf3, .ref qf4, .ref qf5, .ref qf6, .ref qf7, .ref qf8, .ref qf9, .ref qf10, .ref qf11, .ref qf12, .ref qf13, .ref qf14, .ref qf15, .ref qf16, .ref qf17, .ref qf18, .ref qf19, .int v20])), (qf3, .inl (cf3, 334, .inl f3)), (qf0_0, .inl (cf0_0, 3001, .inl f0_0)), (qf0_2, .inl (cf0_2, 3001, .inl f0_2)), (qf4, .inl (cf4, 1740, .inl f4)), (qf0, .inr (9, [.ref qf0_0, .ref qf0_1, .ref qf0_2, .int v0_3, .ref qf0_4, .ref qf0_5, .ref qf0_6, .ref qf0_7, .ref qf0_8, .int v0_9, .int v0_10, .int u26_0, .int u26_1])), (qf0_1, .inl (cf0_1, 3001, .inl f0_1))] H := hP
          replace hD : va_D A [(h0, .inr (2, [.ref qf0, .ref qf1, .int v2, .ref qf3, .ref qf4, .ref qf5, .ref qf6, .ref qf7, .ref qf8, .ref qf9, .ref qf10, .ref qf11, .ref qf12, .ref qf13, .ref qf14, .ref qf15, .ref qf16, .ref qf17, .ref qf18, .ref qf19, .int v20])), (qf3, .inl (cf3, 334, .inl f3)), (qf0_0, .inl (cf0_0, 3001, .inl f0_0)), (qf0_2, .inl (cf0_2, 3001, .inl f0_2)), (qf4, .inl (cf4, 1740, .inl f4)), (qf0, .inr (9, [.ref qf0_0, .ref qf0_1, .ref qf0_2, .int v0_3, .ref qf0_4, .ref qf0_5, .ref qf0_6, .ref qf0_7, .ref qf0_8, .int v0_9, .int v0_10, .int u26_0, .int u26_1])), (qf0_1, .inl (cf0_1, 3001, .inl f0_1))] := hD
          replace hK : va_K (dC, dI) vwCl [(cf3, .int), (cf0_0, .int), (cf0_2, .int), (cf4, .int), (cf0_1, .int)] s := hK
          have hr0 := Option.some.inj hsp
          clear hsp
          obtain ⟨hq0, hr1⟩ := Prod.mk.inj hr0
          clear hr0
          subst hq0
          subst hr1
          have hP9 := hP.sub (ws' := [(h0, .inr (2, [.ref qf0, .ref qf1, .int v2, .ref qf3, .ref qf4, .ref qf5, .ref qf6, .ref qf7, .ref qf8, .ref qf9, .ref qf10, .ref qf11, .ref qf12, .ref qf13, .ref qf14, .ref qf15, .ref qf16, .ref qf17, .ref qf18, .ref qf19, .int v20])), (qf3, .inl (cf3, 334, .inl f3)), (qf0, .inr (9, [.ref qf0_0, .ref qf0_1, .ref qf0_2, .int v0_3, .ref qf0_4, .ref qf0_5, .ref qf0_6, .ref qf0_7, .ref qf0_8, .int v0_9, .int v0_10, .int u26_0, .int u26_1])), (qf0_2, .inl (cf0_2, 3001, .inl f0_2)), (qf0_0, .inl (cf0_0, 3001, .inl f0_0)), (qf4, .inl (cf4, 1740, .inl f4)), (qf0_1, .inl (cf0_1, 3001, .inl f0_1))]) [0, 1, 5, 3, 2, 4, 6] rfl
          have hD9 := hD.sub (ws' := [(h0, .inr (2, [.ref qf0, .ref qf1, .int v2, .ref qf3, .ref qf4, .ref qf5, .ref qf6, .ref qf7, .ref qf8, .ref qf9, .ref qf10, .ref qf11, .ref qf12, .ref qf13, .ref qf14, .ref qf15, .ref qf16, .ref qf17, .ref qf18, .ref qf19, .int v20])), (qf3, .inl (cf3, 334, .inl f3)), (qf0, .inr (9, [.ref qf0_0, .ref qf0_1, .ref qf0_2, .int v0_3, .ref qf0_4, .ref qf0_5, .ref qf0_6, .ref qf0_7, .ref qf0_8, .int v0_9, .int v0_10, .int u26_0, .int u26_1])), (qf0_2, .inl (cf0_2, 3001, .inl f0_2)), (qf0_0, .inl (cf0_0, 3001, .inl f0_0)), (qf4, .inl (cf4, 1740, .inl f4)), (qf0_1, .inl (cf0_1, 3001, .inl f0_1))]) [0, 1, 5, 3, 2, 4, 6] (by decide) rfl
          have hK9 := hK.sub (tys' := [(cf3, .int), (cf0_2, .int), (cf0_0, .int), (cf4, .int), (cf0_1, .int)]) [0, 2, 1, 3, 4] rfl
          exact W.vret hx hb hr (fun t ht hW => ⟨⟨(), rfl, trivial, by rw [ht]; exact hP9, va_K.moved hW.alike hK9, hD9⟩, hS.F ht⟩) hS.2.2 dX2_checkClassHead_84
        · rw [if_neg (by decide)] at hsp
          refine lv_if_ne (tgt := 84) hx hb dX2_checkClassHead_69 (by decide) (fun c_35 => ?_) (fun c_35 => (show False by revert c_35; decide).elim)
          have hr0 := Option.some.inj hsp
          clear hsp
          obtain ⟨hq0, hr1⟩ := Prod.mk.inj hr0
          clear hr0
          subst hq0
          subst hr1
          have hP9 := hP.sub (ws' := [(h0, .inr (2, [.ref qf0, .ref qf1, .int v2, .ref qf3, .ref qf4, .ref qf5, .ref qf6, .ref qf7, .ref qf8, .ref qf9, .ref qf10, .ref qf11, .ref qf12, .ref qf13, .ref qf14, .ref qf15, .ref qf16, .ref qf17, .ref qf18, .ref qf19, .int v20])), (qf3, .inl (cf3, 334, .inl f3)), (qf0, .inr (9, [.ref qf0_0, .ref qf0_1, .ref qf0_2, .int v0_3, .ref qf0_4, .ref qf0_5, .ref qf0_6, .ref qf0_7, .ref qf0_8, .int v0_9, .int v0_10, .int u23_0, .int u23_1])), (qf0_2, .inl (cf0_2, 3001, .inl f0_2)), (qf0_0, .inl (cf0_0, 3001, .inl f0_0)), (qf4, .inl (cf4, 1740, .inl f4)), (qf0_1, .inl (cf0_1, 3001, .inl f0_1))]) [1, 2, 3, 5, 4, 6, 0] rfl
          have hD9 := hD.sub (ws' := [(h0, .inr (2, [.ref qf0, .ref qf1, .int v2, .ref qf3, .ref qf4, .ref qf5, .ref qf6, .ref qf7, .ref qf8, .ref qf9, .ref qf10, .ref qf11, .ref qf12, .ref qf13, .ref qf14, .ref qf15, .ref qf16, .ref qf17, .ref qf18, .ref qf19, .int v20])), (qf3, .inl (cf3, 334, .inl f3)), (qf0, .inr (9, [.ref qf0_0, .ref qf0_1, .ref qf0_2, .int v0_3, .ref qf0_4, .ref qf0_5, .ref qf0_6, .ref qf0_7, .ref qf0_8, .int v0_9, .int v0_10, .int u23_0, .int u23_1])), (qf0_2, .inl (cf0_2, 3001, .inl f0_2)), (qf0_0, .inl (cf0_0, 3001, .inl f0_0)), (qf4, .inl (cf4, 1740, .inl f4)), (qf0_1, .inl (cf0_1, 3001, .inl f0_1))]) [1, 2, 3, 5, 4, 6, 0] (by decide) rfl
          have hK9 := hK.sub (tys' := [(cf3, .int), (cf0_2, .int), (cf0_0, .int), (cf4, .int), (cf0_1, .int)]) [1, 3, 2, 4, 0] rfl
          exact W.vret hx hb hr (fun t ht hW => ⟨⟨(), rfl, trivial, by rw [ht]; exact hP9, va_K.moved hW.alike hK9, hD9⟩, hS.F ht⟩) hS.2.2 dX2_checkClassHead_84
      · rw [if_pos c_32] at hsp
        refine lv_aload_n hx hb dX2_checkClassHead_53 rfl (lv_at hl 1 rfl) ?_
        refine va_get (D := (dC, dI)) (ci := 2) (v := .ref qf0) (C := RX2) (T := TX2) (N := 21) hx hb hts uV_h4_X2 hown hK hP 1 rfl rfl 0 (by decide) (hts (.fieldLink RX2 74 "ClassMill$Heads" "text" "LClassMill$Text;") mw_h4_145) (fun _ h9 => h9) rfl dX2_checkClassHead_54 ?_
        refine lv_iconst (v := 5) hx hb dX2_checkClassHead_57 (by decide) ?_
        refine lv_iload_n hx hb dX2_checkClassHead_58 rfl (lv_at hl 0 rfl) ?_
        refine lv_iconst (v := 2) hx hb dX2_checkClassHead_59 (by decide) ?_
        refine lv_iadd hx hb dX2_checkClassHead_60 ?_
        obtain ⟨⟨u27_0, u27_1⟩, hu_27, hsp⟩ := ox_bind hsp
        try dsimp only at hsp
        have hPc := hP.sub (ws' := [(qf0, .inr (9, [.ref qf0_0, .ref qf0_1, .ref qf0_2, .int v0_3, .ref qf0_4, .ref qf0_5, .ref qf0_6, .ref qf0_7, .ref qf0_8, .int v0_9, .int v0_10, .int u23_0, .int u23_1])), (qf0_1, .inl (cf0_1, 3001, .inl f0_1))]) [3, 0] rfl
        have hDc := hD.sub (ws' := [(qf0, .inr (9, [.ref qf0_0, .ref qf0_1, .ref qf0_2, .int v0_3, .ref qf0_4, .ref qf0_5, .ref qf0_6, .ref qf0_7, .ref qf0_8, .int v0_9, .int v0_10, .int u23_0, .int u23_1])), (qf0_1, .inl (cf0_1, 3001, .inl f0_1))]) [3, 0] (by decide) rfl
        have hKc := hK.sub (tys' := [(cf0_1, .int)]) [0] rfl
        have hFc := va_free (wc := [(qf0, .inr (9, [.ref qf0_0, .ref qf0_1, .ref qf0_2, .int v0_3, .ref qf0_4, .ref qf0_5, .ref qf0_6, .ref qf0_7, .ref qf0_8, .int v0_9, .int v0_10, .int u23_0, .int u23_1])), (qf0_1, .inl (cf0_1, 3001, .inl f0_1))]) hD hS hA [3, 0] rfl
        refine va_callv (va_runV (As := [.int 5, .int ((f3 (a1 : Int32).toNatClampNeg) + 2)]) (rest := []) ⟨hx, hb, hml, hown, hts⟩ (t9_tell l dC dI H.size qf0 5 (((f3 (a1 : Int32).toNatClampNeg) + 2)) qf0_0 qf0_1 qf0_2 v0_3 qf0_4 qf0_5 qf0_6 qf0_7 qf0_8 v0_9 v0_10 u23_0 u23_1 cf0_1 f0_1 nf u27_0 u27_1 hu_27) (cwV 2 hts gv_h4_33 rfl rfl rfl (by decide +kernel) ⟨Nat.le_of_ble_eq_true rfl, Nat.le_of_ble_eq_true rfl⟩) ⟨fun a U g mk q => by obtain ⟨q0, q1, qP, qK, qD⟩ := q; exact ⟨q0, q1, qP, va_K.moved (u := U) (U := U.calling g mk a) (Vm.Alike.refl U.vm) qK, qD⟩, va_recv hKc hPc (ci := 9) (q0 := 0) rfl rfl, fun U hU hW => ⟨rfl, by rw [hU], by rw [hU]; exact hPc, va_K.moved hW.alike hKc, hDc.weaken (fun _ _ _ _ => trivial)⟩⟩ rfl rfl hl.1 rfl (lv_room (Nat.le_of_ble_eq_true rfl)) dX2_checkClassHead_61 ⟨Nat.le_of_ble_eq_true rfl, Nat.le_of_ble_eq_true rfl⟩) hS (fun q _ h => hFc q h) hFc ?_
        clear hS
        intro u t H1 locs ht hvm hw hB hz1 hk1 hS
        obtain ⟨⟩ := u
        obtain ⟨hP1, hK1, hD1⟩ := hB
        rw [ht] at hP1
        have hK1 := va_K.moved hvm.symm hK1
        try dsimp only at hw
        have hPD := va_join (wr := [(h0, .inr (2, [.ref qf0, .ref qf1, .int v2, .ref qf3, .ref qf4, .ref qf5, .ref qf6, .ref qf7, .ref qf8, .ref qf9, .ref qf10, .ref qf11, .ref qf12, .ref qf13, .ref qf14, .ref qf15, .ref qf16, .ref qf17, .ref qf18, .ref qf19, .int v20])), (qf3, .inl (cf3, 334, .inl f3)), (qf0_0, .inl (cf0_0, 3001, .inl f0_0)), (qf0_2, .inl (cf0_2, 3001, .inl f0_2)), (qf4, .inl (cf4, 1740, .inl f4))]) (w1 := [(qf0, .inr (9, [.ref qf0_0, .ref qf0_1, .ref qf0_2, .int v0_3, .ref qf0_4, .ref qf0_5, .ref qf0_6, .ref qf0_7, .ref qf0_8, .int v0_9, .int v0_10, .int u27_0, .int u27_1])), (qf0_1, .inl (cf0_1, 3001, .inl f0_1))]) hP hD [3, 0] [1, 2, 4, 5, 6] rfl rfl (by decide) (by decide) hk1 hFc hP1 hD1
        clear hP hD
        obtain ⟨hP, hD⟩ := hPD
        replace hK := (hK.sub (tys' := [(cf3, .int), (cf0_0, .int), (cf0_2, .int), (cf4, .int)]) [1, 2, 3, 4] rfl).app hK1
        clear hPc hDc hKc hFc hP1 hK1 hD1 hz1 hk1 ht hvm
        generalize H1 = H at hP hS ⊢
        replace hP : va_P (dC, dI) vwCl [(h0, .inr (2, [.ref qf0, .ref qf1, .int v2, .ref qf3, .ref qf4, .ref qf5, .ref qf6, .ref qf7, .ref qf8, .ref qf9, .ref qf10, .ref qf11, .ref qf12, .ref qf13, .ref qf14, .ref qf15, .ref qf16, .ref qf17, .ref qf18, .ref qf19, .int v20])), (qf3, .inl (cf3, 334, .inl f3)), (qf0_0, .inl (cf0_0, 3001, .inl f0_0)), (qf0_2, .inl (cf0_2, 3001, .inl f0_2)), (qf4, .inl (cf4, 1740, .inl f4)), (qf0, .inr (9, [.ref qf0_0, .ref qf0_1, .ref qf0_2, .int v0_3, .ref qf0_4, .ref qf0_5, .ref qf0_6, .ref qf0_7, .ref qf0_8, .int v0_9, .int v0_10, .int u27_0, .int u27_1])), (qf0_1, .inl (cf0_1, 3001, .inl f0_1))] H := hP
        replace hD : va_D A [(h0, .inr (2, [.ref qf0, .ref qf1, .int v2, .ref qf3, .ref qf4, .ref qf5, .ref qf6, .ref qf7, .ref qf8, .ref qf9, .ref qf10, .ref qf11, .ref qf12, .ref qf13, .ref qf14, .ref qf15, .ref qf16, .ref qf17, .ref qf18, .ref qf19, .int v20])), (qf3, .inl (cf3, 334, .inl f3)), (qf0_0, .inl (cf0_0, 3001, .inl f0_0)), (qf0_2, .inl (cf0_2, 3001, .inl f0_2)), (qf4, .inl (cf4, 1740, .inl f4)), (qf0, .inr (9, [.ref qf0_0, .ref qf0_1, .ref qf0_2, .int v0_3, .ref qf0_4, .ref qf0_5, .ref qf0_6, .ref qf0_7, .ref qf0_8, .int v0_9, .int v0_10, .int u27_0, .int u27_1])), (qf0_1, .inl (cf0_1, 3001, .inl f0_1))] := hD
        replace hK : va_K (dC, dI) vwCl [(cf3, .int), (cf0_0, .int), (cf0_2, .int), (cf4, .int), (cf0_1, .int)] s := hK
        refine lv_aload_n hx hb dX2_checkClassHead_64 rfl (lv_at hl 1 rfl) ?_
        refine lv_iload_n hx hb dX2_checkClassHead_65 rfl (lv_at hl 2 rfl) ?_
        obtain ⟨u28_0, hu_28, hsp⟩ := ox_bind hsp
        try dsimp only at hsp
        have hPc := hP.sub (ws' := [(h0, .inr (2, [.ref qf0, .ref qf1, .int v2, .ref qf3, .ref qf4, .ref qf5, .ref qf6, .ref qf7, .ref qf8, .ref qf9, .ref qf10, .ref qf11, .ref qf12, .ref qf13, .ref qf14, .ref qf15, .ref qf16, .ref qf17, .ref qf18, .ref qf19, .int v20])), (qf3, .inl (cf3, 334, .inl f3)), (qf0, .inr (9, [.ref qf0_0, .ref qf0_1, .ref qf0_2, .int v0_3, .ref qf0_4, .ref qf0_5, .ref qf0_6, .ref qf0_7, .ref qf0_8, .int v0_9, .int v0_10, .int u27_0, .int u27_1])), (qf0_0, .inl (cf0_0, 3001, .inl f0_0)), (qf0_2, .inl (cf0_2, 3001, .inl f0_2)), (qf4, .inl (cf4, 1740, .inl f4))]) [0, 1, 5, 2, 3, 4] rfl
        have hDc := hD.sub (ws' := [(h0, .inr (2, [.ref qf0, .ref qf1, .int v2, .ref qf3, .ref qf4, .ref qf5, .ref qf6, .ref qf7, .ref qf8, .ref qf9, .ref qf10, .ref qf11, .ref qf12, .ref qf13, .ref qf14, .ref qf15, .ref qf16, .ref qf17, .ref qf18, .ref qf19, .int v20])), (qf3, .inl (cf3, 334, .inl f3)), (qf0, .inr (9, [.ref qf0_0, .ref qf0_1, .ref qf0_2, .int v0_3, .ref qf0_4, .ref qf0_5, .ref qf0_6, .ref qf0_7, .ref qf0_8, .int v0_9, .int v0_10, .int u27_0, .int u27_1])), (qf0_0, .inl (cf0_0, 3001, .inl f0_0)), (qf0_2, .inl (cf0_2, 3001, .inl f0_2)), (qf4, .inl (cf4, 1740, .inl f4))]) [0, 1, 5, 2, 3, 4] (by decide) rfl
        have hKc := hK.sub (tys' := [(cf3, .int), (cf0_0, .int), (cf0_2, .int), (cf4, .int)]) [0, 1, 2, 3] rfl
        have hFc := va_free (wc := [(h0, .inr (2, [.ref qf0, .ref qf1, .int v2, .ref qf3, .ref qf4, .ref qf5, .ref qf6, .ref qf7, .ref qf8, .ref qf9, .ref qf10, .ref qf11, .ref qf12, .ref qf13, .ref qf14, .ref qf15, .ref qf16, .ref qf17, .ref qf18, .ref qf19, .int v20])), (qf3, .inl (cf3, 334, .inl f3)), (qf0, .inr (9, [.ref qf0_0, .ref qf0_1, .ref qf0_2, .int v0_3, .ref qf0_4, .ref qf0_5, .ref qf0_6, .ref qf0_7, .ref qf0_8, .int v0_9, .int v0_10, .int u27_0, .int u27_1])), (qf0_0, .inl (cf0_0, 3001, .inl f0_0)), (qf0_2, .inl (cf0_2, 3001, .inl f0_2)), (qf4, .inl (cf4, 1740, .inl f4))]) hD hS hA [0, 1, 5, 2, 3, 4] rfl
        refine va_calli (va_runV (As := [.int a1]) (rest := []) ⟨hx, hb, hml, hown, hts⟩ (t2_endsAbove l dC dI H.size h0 a1 qf0 qf1 v2 qf3 qf4 qf5 qf6 qf7 qf8 qf9 qf10 qf11 qf12 qf13 qf14 qf15 qf16 qf17 qf18 qf19 v20 cf3 f3 qf0_0 qf0_1 qf0_2 v0_3 qf0_4 qf0_5 qf0_6 qf0_7 qf0_8 v0_9 v0_10 u27_0 u27_1 cf0_0 f0_0 cf0_2 f0_2 cf4 f4 nf u28_0 hu_28) (cwV 1 hts gv_h4_41 rfl rfl rfl (by decide +kernel) ⟨Nat.le_of_ble_eq_true rfl, Nat.le_of_ble_eq_true rfl⟩) ⟨fun a U g mk q => by obtain ⟨q0, q1, qP, qK, qD⟩ := q; exact ⟨q0, q1, qP, va_K.moved (u := U) (U := U.calling g mk a) (Vm.Alike.refl U.vm) qK, qD⟩, va_recv hKc hPc (ci := 2) (q0 := 0) rfl rfl, fun U hU hW => ⟨rfl, by rw [hU], by rw [hU]; exact hPc, va_K.moved hW.alike hKc, hDc.weaken (fun _ _ _ _ => trivial)⟩⟩ rfl rfl hl.1 rfl (lv_room (Nat.le_of_ble_eq_true rfl)) dX2_checkClassHead_66 ⟨Nat.le_of_ble_eq_true rfl, Nat.le_of_ble_eq_true rfl⟩) hS (fun q _ h => hFc q h) hFc ?_
        clear hS
        intro r_36 u t H1 locs ht hvm hw hB hz1 hk1 hS
        obtain ⟨⟩ := u
        obtain ⟨hP1, hK1, hD1⟩ := hB
        rw [ht] at hP1
        have hK1 := va_K.moved hvm.symm hK1
        try dsimp only at hw
        have hPD := va_join (wr := [(qf0_1, .inl (cf0_1, 3001, .inl f0_1))]) (w1 := [(h0, .inr (2, [.ref qf0, .ref qf1, .int v2, .ref qf3, .ref qf4, .ref qf5, .ref qf6, .ref qf7, .ref qf8, .ref qf9, .ref qf10, .ref qf11, .ref qf12, .ref qf13, .ref qf14, .ref qf15, .ref qf16, .ref qf17, .ref qf18, .ref qf19, .int v20])), (qf3, .inl (cf3, 334, .inl f3)), (qf0, .inr (9, [.ref qf0_0, .ref qf0_1, .ref qf0_2, .int v0_3, .ref qf0_4, .ref qf0_5, .ref qf0_6, .ref qf0_7, .ref qf0_8, .int v0_9, .int v0_10, .int u27_0, .int u27_1])), (qf0_0, .inl (cf0_0, 3001, .inl f0_0)), (qf0_2, .inl (cf0_2, 3001, .inl f0_2)), (qf4, .inl (cf4, 1740, .inl f4))]) hP hD [0, 1, 5, 2, 3, 4] [6] rfl rfl (by decide) (by decide) hk1 hFc hP1 hD1
        clear hP hD
        obtain ⟨hP, hD⟩ := hPD
        replace hK := (hK.sub (tys' := [(cf0_1, .int)]) [4] rfl).app hK1
        clear hPc hDc hKc hFc hP1 hK1 hD1 hz1 hk1 ht hvm
        generalize H1 = H at hP hS ⊢
        replace hP : va_P (dC, dI) vwCl [(qf0_1, .inl (cf0_1, 3001, .inl f0_1)), (h0, .inr (2, [.ref qf0, .ref qf1, .int v2, .ref qf3, .ref qf4, .ref qf5, .ref qf6, .ref qf7, .ref qf8, .ref qf9, .ref qf10, .ref qf11, .ref qf12, .ref qf13, .ref qf14, .ref qf15, .ref qf16, .ref qf17, .ref qf18, .ref qf19, .int v20])), (qf3, .inl (cf3, 334, .inl f3)), (qf0, .inr (9, [.ref qf0_0, .ref qf0_1, .ref qf0_2, .int v0_3, .ref qf0_4, .ref qf0_5, .ref qf0_6, .ref qf0_7, .ref qf0_8, .int v0_9, .int v0_10, .int u27_0, .int u27_1])), (qf0_0, .inl (cf0_0, 3001, .inl f0_0)), (qf0_2, .inl (cf0_2, 3001, .inl f0_2)), (qf4, .inl (cf4, 1740, .inl f4))] H := hP
        replace hD : va_D A [(qf0_1, .inl (cf0_1, 3001, .inl f0_1)), (h0, .inr (2, [.ref qf0, .ref qf1, .int v2, .ref qf3, .ref qf4, .ref qf5, .ref qf6, .ref qf7, .ref qf8, .ref qf9, .ref qf10, .ref qf11, .ref qf12, .ref qf13, .ref qf14, .ref qf15, .ref qf16, .ref qf17, .ref qf18, .ref qf19, .int v20])), (qf3, .inl (cf3, 334, .inl f3)), (qf0, .inr (9, [.ref qf0_0, .ref qf0_1, .ref qf0_2, .int v0_3, .ref qf0_4, .ref qf0_5, .ref qf0_6, .ref qf0_7, .ref qf0_8, .int v0_9, .int v0_10, .int u27_0, .int u27_1])), (qf0_0, .inl (cf0_0, 3001, .inl f0_0)), (qf0_2, .inl (cf0_2, 3001, .inl f0_2)), (qf4, .inl (cf4, 1740, .inl f4))] := hD
        replace hK : va_K (dC, dI) vwCl [(cf0_1, .int), (cf3, .int), (cf0_0, .int), (cf0_2, .int), (cf4, .int)] s := hK
        obtain ⟨rfl, hz_28⟩ := hw
        rcases hz_28 with rfl | rfl
        · rw [if_pos rfl] at hsp
          refine lv_if_ne (tgt := 84) hx hb dX2_checkClassHead_69 (by decide) (fun c_37 => (show False by revert c_37; decide).elim) (fun c_37 => ?_)
          refine lv_aload_n hx hb dX2_checkClassHead_72 rfl (lv_at hl 1 rfl) ?_
          refine va_get (D := (dC, dI)) (ci := 2) (v := .ref qf0) (C := RX2) (T := TX2) (N := 21) hx hb hts uV_h4_X2 hown hK hP 1 rfl rfl 0 (by decide) (hts (.fieldLink RX2 74 "ClassMill$Heads" "text" "LClassMill$Text;") mw_h4_145) (fun _ h9 => h9) rfl dX2_checkClassHead_73 ?_
          refine lv_bipush (v := 6) hx hb dX2_checkClassHead_76 (by decide) ?_
          refine lv_iload_n hx hb dX2_checkClassHead_78 rfl (lv_at hl 0 rfl) ?_
          refine lv_iconst (v := 2) hx hb dX2_checkClassHead_79 (by decide) ?_
          refine lv_iadd hx hb dX2_checkClassHead_80 ?_
          obtain ⟨⟨u29_0, u29_1⟩, hu_29, hsp⟩ := ox_bind hsp
          try dsimp only at hsp
          have hPc := hP.sub (ws' := [(qf0, .inr (9, [.ref qf0_0, .ref qf0_1, .ref qf0_2, .int v0_3, .ref qf0_4, .ref qf0_5, .ref qf0_6, .ref qf0_7, .ref qf0_8, .int v0_9, .int v0_10, .int u27_0, .int u27_1])), (qf0_1, .inl (cf0_1, 3001, .inl f0_1))]) [3, 0] rfl
          have hDc := hD.sub (ws' := [(qf0, .inr (9, [.ref qf0_0, .ref qf0_1, .ref qf0_2, .int v0_3, .ref qf0_4, .ref qf0_5, .ref qf0_6, .ref qf0_7, .ref qf0_8, .int v0_9, .int v0_10, .int u27_0, .int u27_1])), (qf0_1, .inl (cf0_1, 3001, .inl f0_1))]) [3, 0] (by decide) rfl
          have hKc := hK.sub (tys' := [(cf0_1, .int)]) [0] rfl
          have hFc := va_free (wc := [(qf0, .inr (9, [.ref qf0_0, .ref qf0_1, .ref qf0_2, .int v0_3, .ref qf0_4, .ref qf0_5, .ref qf0_6, .ref qf0_7, .ref qf0_8, .int v0_9, .int v0_10, .int u27_0, .int u27_1])), (qf0_1, .inl (cf0_1, 3001, .inl f0_1))]) hD hS hA [3, 0] rfl
          refine va_callv (va_runV (As := [.int 6, .int ((f3 (a1 : Int32).toNatClampNeg) + 2)]) (rest := []) ⟨hx, hb, hml, hown, hts⟩ (t9_tell l dC dI H.size qf0 6 (((f3 (a1 : Int32).toNatClampNeg) + 2)) qf0_0 qf0_1 qf0_2 v0_3 qf0_4 qf0_5 qf0_6 qf0_7 qf0_8 v0_9 v0_10 u27_0 u27_1 cf0_1 f0_1 nf u29_0 u29_1 hu_29) (cwV 2 hts gv_h4_33 rfl rfl rfl (by decide +kernel) ⟨Nat.le_of_ble_eq_true rfl, Nat.le_of_ble_eq_true rfl⟩) ⟨fun a U g mk q => by obtain ⟨q0, q1, qP, qK, qD⟩ := q; exact ⟨q0, q1, qP, va_K.moved (u := U) (U := U.calling g mk a) (Vm.Alike.refl U.vm) qK, qD⟩, va_recv hKc hPc (ci := 9) (q0 := 0) rfl rfl, fun U hU hW => ⟨rfl, by rw [hU], by rw [hU]; exact hPc, va_K.moved hW.alike hKc, hDc.weaken (fun _ _ _ _ => trivial)⟩⟩ rfl rfl hl.1 rfl (lv_room (Nat.le_of_ble_eq_true rfl)) dX2_checkClassHead_81 ⟨Nat.le_of_ble_eq_true rfl, Nat.le_of_ble_eq_true rfl⟩) hS (fun q _ h => hFc q h) hFc ?_
          clear hS
          intro u t H1 locs ht hvm hw hB hz1 hk1 hS
          obtain ⟨⟩ := u
          obtain ⟨hP1, hK1, hD1⟩ := hB
          rw [ht] at hP1
          have hK1 := va_K.moved hvm.symm hK1
          try dsimp only at hw
          have hPD := va_join (wr := [(h0, .inr (2, [.ref qf0, .ref qf1, .int v2, .ref qf3, .ref qf4, .ref qf5, .ref qf6, .ref qf7, .ref qf8, .ref qf9, .ref qf10, .ref qf11, .ref qf12, .ref qf13, .ref qf14, .ref qf15, .ref qf16, .ref qf17, .ref qf18, .ref qf19, .int v20])), (qf3, .inl (cf3, 334, .inl f3)), (qf0_0, .inl (cf0_0, 3001, .inl f0_0)), (qf0_2, .inl (cf0_2, 3001, .inl f0_2)), (qf4, .inl (cf4, 1740, .inl f4))]) (w1 := [(qf0, .inr (9, [.ref qf0_0, .ref qf0_1, .ref qf0_2, .int v0_3, .ref qf0_4, .ref qf0_5, .ref qf0_6, .ref qf0_7, .ref qf0_8, .int v0_9, .int v0_10, .int u29_0, .int u29_1])), (qf0_1, .inl (cf0_1, 3001, .inl f0_1))]) hP hD [3, 0] [1, 2, 4, 5, 6] rfl rfl (by decide) (by decide) hk1 hFc hP1 hD1
          clear hP hD
          obtain ⟨hP, hD⟩ := hPD
          replace hK := (hK.sub (tys' := [(cf3, .int), (cf0_0, .int), (cf0_2, .int), (cf4, .int)]) [1, 2, 3, 4] rfl).app hK1
          clear hPc hDc hKc hFc hP1 hK1 hD1 hz1 hk1 ht hvm
          generalize H1 = H at hP hS ⊢
          replace hP : va_P (dC, dI) vwCl [(h0, .inr (2, [.ref qf0, .ref qf1, .int v2, .ref qf3, .ref qf4, .ref qf5, .ref qf6, .ref qf7, .ref qf8, .ref qf9, .ref qf10, .ref qf11, .ref qf12, .ref qf13, .ref qf14, .ref qf15, .ref qf16, .ref qf17, .ref qf18, .ref qf19, .int v20])), (qf3, .inl (cf3, 334, .inl f3)), (qf0_0, .inl (cf0_0, 3001, .inl f0_0)), (qf0_2, .inl (cf0_2, 3001, .inl f0_2)), (qf4, .inl (cf4, 1740, .inl f4)), (qf0, .inr (9, [.ref qf0_0, .ref qf0_1, .ref qf0_2, .int v0_3, .ref qf0_4, .ref qf0_5, .ref qf0_6, .ref qf0_7, .ref qf0_8, .int v0_9, .int v0_10, .int u29_0, .int u29_1])), (qf0_1, .inl (cf0_1, 3001, .inl f0_1))] H := hP
          replace hD : va_D A [(h0, .inr (2, [.ref qf0, .ref qf1, .int v2, .ref qf3, .ref qf4, .ref qf5, .ref qf6, .ref qf7, .ref qf8, .ref qf9, .ref qf10, .ref qf11, .ref qf12, .ref qf13, .ref qf14, .ref qf15, .ref qf16, .ref qf17, .ref qf18, .ref qf19, .int v20])), (qf3, .inl (cf3, 334, .inl f3)), (qf0_0, .inl (cf0_0, 3001, .inl f0_0)), (qf0_2, .inl (cf0_2, 3001, .inl f0_2)), (qf4, .inl (cf4, 1740, .inl f4)), (qf0, .inr (9, [.ref qf0_0, .ref qf0_1, .ref qf0_2, .int v0_3, .ref qf0_4, .ref qf0_5, .ref qf0_6, .ref qf0_7, .ref qf0_8, .int v0_9, .int v0_10, .int u29_0, .int u29_1])), (qf0_1, .inl (cf0_1, 3001, .inl f0_1))] := hD
          replace hK : va_K (dC, dI) vwCl [(cf3, .int), (cf0_0, .int), (cf0_2, .int), (cf4, .int), (cf0_1, .int)] s := hK
          have hr0 := Option.some.inj hsp
          clear hsp
          obtain ⟨hq0, hr1⟩ := Prod.mk.inj hr0
          clear hr0
          subst hq0
          subst hr1
          have hP9 := hP.sub (ws' := [(h0, .inr (2, [.ref qf0, .ref qf1, .int v2, .ref qf3, .ref qf4, .ref qf5, .ref qf6, .ref qf7, .ref qf8, .ref qf9, .ref qf10, .ref qf11, .ref qf12, .ref qf13, .ref qf14, .ref qf15, .ref qf16, .ref qf17, .ref qf18, .ref qf19, .int v20])), (qf3, .inl (cf3, 334, .inl f3)), (qf0, .inr (9, [.ref qf0_0, .ref qf0_1, .ref qf0_2, .int v0_3, .ref qf0_4, .ref qf0_5, .ref qf0_6, .ref qf0_7, .ref qf0_8, .int v0_9, .int v0_10, .int u29_0, .int u29_1])), (qf0_2, .inl (cf0_2, 3001, .inl f0_2)), (qf0_0, .inl (cf0_0, 3001, .inl f0_0)), (qf4, .inl (cf4, 1740, .inl f4)), (qf0_1, .inl (cf0_1, 3001, .inl f0_1))]) [0, 1, 5, 3, 2, 4, 6] rfl
          have hD9 := hD.sub (ws' := [(h0, .inr (2, [.ref qf0, .ref qf1, .int v2, .ref qf3, .ref qf4, .ref qf5, .ref qf6, .ref qf7, .ref qf8, .ref qf9, .ref qf10, .ref qf11, .ref qf12, .ref qf13, .ref qf14, .ref qf15, .ref qf16, .ref qf17, .ref qf18, .ref qf19, .int v20])), (qf3, .inl (cf3, 334, .inl f3)), (qf0, .inr (9, [.ref qf0_0, .ref qf0_1, .ref qf0_2, .int v0_3, .ref qf0_4, .ref qf0_5, .ref qf0_6, .ref qf0_7, .ref qf0_8, .int v0_9, .int v0_10, .int u29_0, .int u29_1])), (qf0_2, .inl (cf0_2, 3001, .inl f0_2)), (qf0_0, .inl (cf0_0, 3001, .inl f0_0)), (qf4, .inl (cf4, 1740, .inl f4)), (qf0_1, .inl (cf0_1, 3001, .inl f0_1))]) [0, 1, 5, 3, 2, 4, 6] (by decide) rfl
          have hK9 := hK.sub (tys' := [(cf3, .int), (cf0_2, .int), (cf0_0, .int), (cf4, .int), (cf0_1, .int)]) [0, 2, 1, 3, 4] rfl
          exact W.vret hx hb hr (fun t ht hW => ⟨⟨(), rfl, trivial, by rw [ht]; exact hP9, va_K.moved hW.alike hK9, hD9⟩, hS.F ht⟩) hS.2.2 dX2_checkClassHead_84
        · rw [if_neg (by decide)] at hsp
          refine lv_if_ne (tgt := 84) hx hb dX2_checkClassHead_69 (by decide) (fun c_38 => ?_) (fun c_38 => (show False by revert c_38; decide).elim)
          have hr0 := Option.some.inj hsp
          clear hsp
          obtain ⟨hq0, hr1⟩ := Prod.mk.inj hr0
          clear hr0
          subst hq0
          subst hr1
          have hP9 := hP.sub (ws' := [(h0, .inr (2, [.ref qf0, .ref qf1, .int v2, .ref qf3, .ref qf4, .ref qf5, .ref qf6, .ref qf7, .ref qf8, .ref qf9, .ref qf10, .ref qf11, .ref qf12, .ref qf13, .ref qf14, .ref qf15, .ref qf16, .ref qf17, .ref qf18, .ref qf19, .int v20])), (qf3, .inl (cf3, 334, .inl f3)), (qf0, .inr (9, [.ref qf0_0, .ref qf0_1, .ref qf0_2, .int v0_3, .ref qf0_4, .ref qf0_5, .ref qf0_6, .ref qf0_7, .ref qf0_8, .int v0_9, .int v0_10, .int u27_0, .int u27_1])), (qf0_2, .inl (cf0_2, 3001, .inl f0_2)), (qf0_0, .inl (cf0_0, 3001, .inl f0_0)), (qf4, .inl (cf4, 1740, .inl f4)), (qf0_1, .inl (cf0_1, 3001, .inl f0_1))]) [1, 2, 3, 5, 4, 6, 0] rfl
          have hD9 := hD.sub (ws' := [(h0, .inr (2, [.ref qf0, .ref qf1, .int v2, .ref qf3, .ref qf4, .ref qf5, .ref qf6, .ref qf7, .ref qf8, .ref qf9, .ref qf10, .ref qf11, .ref qf12, .ref qf13, .ref qf14, .ref qf15, .ref qf16, .ref qf17, .ref qf18, .ref qf19, .int v20])), (qf3, .inl (cf3, 334, .inl f3)), (qf0, .inr (9, [.ref qf0_0, .ref qf0_1, .ref qf0_2, .int v0_3, .ref qf0_4, .ref qf0_5, .ref qf0_6, .ref qf0_7, .ref qf0_8, .int v0_9, .int v0_10, .int u27_0, .int u27_1])), (qf0_2, .inl (cf0_2, 3001, .inl f0_2)), (qf0_0, .inl (cf0_0, 3001, .inl f0_0)), (qf4, .inl (cf4, 1740, .inl f4)), (qf0_1, .inl (cf0_1, 3001, .inl f0_1))]) [1, 2, 3, 5, 4, 6, 0] (by decide) rfl
          have hK9 := hK.sub (tys' := [(cf3, .int), (cf0_2, .int), (cf0_0, .int), (cf4, .int), (cf0_1, .int)]) [1, 3, 2, 4, 0] rfl
          exact W.vret hx hb hr (fun t ht hW => ⟨⟨(), rfl, trivial, by rw [ht]; exact hP9, va_K.moved hW.alike hK9, hD9⟩, hS.F ht⟩) hS.2.2 dX2_checkClassHead_84
def sp_t2_addField (nf : Nat) (a1 : Int32) (a2 : Int32) (a3 : Int32) (f5 : Nat → Int32) (v0_3 : Int32) (v0_11 : Int32) (v0_12 : Int32) (f0_2 : Nat → Int32) (f6 : Nat → Int32) (f7 : Nat → Int32) (f0_1 : Nat → Int32) : Option ((Nat → Int32) × (Nat → Int32) × (Nat → Int32) × Int32 × Int32) := (if a1 < 0 then none else if 8 ≤ (a1 : Int32).toNatClampNeg then none else (if (f5 (a1 : Int32).toNatClampNeg) < 12 then ((sp_t9_valueAt nf a2 v0_3 f0_2).bind (fun p1 => ((sp_t2_fieldIn nf a1 p1 f5 f6).bind (fun p2 => (if p2 = (-1) then (if a1 < 0 then none else if 8 ≤ (a1 : Int32).toNatClampNeg then none else (if ((a1 * 12) + (f5 (a1 : Int32).toNatClampNeg)) < 0 then none else if 96 ≤ (((a1 * 12) + (f5 (a1 : Int32).toNatClampNeg)) : Int32).toNatClampNeg then none else (if ((a1 * 12) + (f5 (a1 : Int32).toNatClampNeg)) < 0 then none else if 96 ≤ (((a1 * 12) + (f5 (a1 : Int32).toNatClampNeg)) : Int32).toNatClampNeg then none else (if a1 < 0 then none else if 8 ≤ (a1 : Int32).toNatClampNeg then none else (if a1 < 0 then none else if 8 ≤ (a1 : Int32).toNatClampNeg then none else (some ((upd f5 (a1 : Int32).toNatClampNeg ((f5 (a1 : Int32).toNatClampNeg) + 1)), (upd f6 (((a1 * 12) + (f5 (a1 : Int32).toNatClampNeg)) : Int32).toNatClampNeg p1), (upd f7 (((a1 * 12) + (f5 (a1 : Int32).toNatClampNeg)) : Int32).toNatClampNeg a3), v0_11, v0_12))))))) else ((sp_t9_tell nf 4 a2 v0_3 v0_11 v0_12 f0_1).bind (fun p3 => (if a1 < 0 then none else if 8 ≤ (a1 : Int32).toNatClampNeg then none else (if ((a1 * 12) + (f5 (a1 : Int32).toNatClampNeg)) < 0 then none else if 96 ≤ (((a1 * 12) + (f5 (a1 : Int32).toNatClampNeg)) : Int32).toNatClampNeg then none else (if ((a1 * 12) + (f5 (a1 : Int32).toNatClampNeg)) < 0 then none else if 96 ≤ (((a1 * 12) + (f5 (a1 : Int32).toNatClampNeg)) : Int32).toNatClampNeg then none else (if a1 < 0 then none else if 8 ≤ (a1 : Int32).toNatClampNeg then none else (if a1 < 0 then none else if 8 ≤ (a1 : Int32).toNatClampNeg then none else (some ((upd f5 (a1 : Int32).toNatClampNeg ((f5 (a1 : Int32).toNatClampNeg) + 1)), (upd f6 (((a1 * 12) + (f5 (a1 : Int32).toNatClampNeg)) : Int32).toNatClampNeg p1), (upd f7 (((a1 * 12) + (f5 (a1 : Int32).toNatClampNeg)) : Int32).toNatClampNeg a3), p3.1, p3.2)))))))))))))) else ((sp_t9_tell nf 11 a2 v0_3 v0_11 v0_12 f0_1).bind (fun p4 => (some (f5, f6, f7, p4.1, p4.2))))))
