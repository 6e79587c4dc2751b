set_option maxHeartbeats 4000000 in
set_option maxRecDepth 100000 in
/-- ClassMill$Machine.fieldCell -/
theorem t5_fieldCell (l : Launch) (dC : Nat → ClassId) (dI : Nat → Nat → Nat) (sz : Nat) (h0 : Nat) (a1 : Int32) (a2 : Int32) (qf0 : Nat) (v1 : Int32) (v2 : Int32) (v3 : Int32) (v4 : Int32) (v5 : Int32) (v6 : Int32) (v7 : Int32) (qf8 : Nat) (qf9 : Nat) (qf10 : Nat) (qf11 : Nat) (qf12 : Nat) (qf13 : Nat) (qf14 : Nat) (qf15 : Nat) (qf16 : Nat) (v17 : Int32) (qf18 : Nat) (v19 : Int32) (v20 : Int32) (cf10 : ClassId) (f10 : (Nat → Int32)) (nf : Nat) (r0 : Int32) (hsp : sp_t5_fieldCell nf a1 a2 v4 f10 = some r0) : Met l yX5_fieldCell (.code yX5_fieldCell cX5_fieldCell 4 (some .int) :: VS_h3) ({ frames := 1, cells := 0, slots := 0, locals := 21 }) (va_Pc [.ref h0, .int a1, .int a2] (fun U => U.heap.size = sz ∧ va_P (dC, dI) vwCl [(h0, .inr (5, [.ref qf0, .int v1, .int v2, .int v3, .int v4, .int v5, .int v6, .int v7, .ref qf8, .ref qf9, .ref qf10, .ref qf11, .ref qf12, .ref qf13, .ref qf14, .ref qf15, .ref qf16, .int v17, .ref qf18, .int v19, .int v20])), (qf10, .inl (cf10, 2002, .inl f10))] U.heap ∧ va_K (dC, dI) vwCl [(cf10, .int)] U ∧ va_D (fun _ => True) [(h0, .inr (5, [.ref qf0, .int v1, .int v2, .int v3, .int v4, .int v5, .int v6, .int v7, .ref qf8, .ref qf9, .ref qf10, .ref qf11, .ref qf12, .ref qf13, .ref qf14, .ref qf15, .ref qf16, .int v17, .ref qf18, .int v19, .int v20])), (qf10, .inl (cf10, 2002, .inl f10))])) (va_Qi (fun (r : Int32) (u : Unit) => match u with | () => r0 = r) (fun (u : Unit) (t : State) => match u with | () => va_P (dC, dI) vwCl [(h0, .inr (5, [.ref qf0, .int v1, .int v2, .int v3, .int v4, .int v5, .int v6, .int v7, .ref qf8, .ref qf9, .ref qf10, .ref qf11, .ref qf12, .ref qf13, .ref qf14, .ref qf15, .ref qf16, .int v17, .ref qf18, .int v19, .int v20])), (qf10, .inl (cf10, 2002, .inl f10))] t.heap ∧ va_K (dC, dI) vwCl [(cf10, .int)] t ∧ va_D (va_A [(h0, .inr (5, [.ref qf0, .int v1, .int v2, .int v3, .int v4, .int v5, .int v6, .int v7, .ref qf8, .ref qf9, .ref qf10, .ref qf11, .ref qf12, .ref qf13, .ref qf14, .ref qf15, .ref qf16, .int v17, .ref qf18, .int v19, .int v20])), (qf10, .inl (cf10, 2002, .inl f10))] sz) [(h0, .inr (5, [.ref qf0, .int v1, .int v2, .int v3, .int v4, .int v5, .int v6, .int v7, .ref qf8, .ref qf9, .ref qf10, .ref qf11, .ref qf12, .ref qf13, .ref qf14, .ref qf15, .ref qf16, .int v17, .ref qf18, .int v19, .int v20])), (qf10, .inl (cf10, 2002, .inl f10))]) (va_A [(h0, .inr (5, [.ref qf0, .int v1, .int v2, .int v3, .int v4, .int v5, .int v6, .int v7, .ref qf8, .ref qf9, .ref qf10, .ref qf11, .ref qf12, .ref qf13, .ref qf14, .ref qf15, .ref qf16, .int v17, .ref qf18, .int v19, .int v20])), (qf10, .inl (cf10, 2002, .inl f10))] sz)) 0 0 (va_A [(h0, .inr (5, [.ref qf0, .int v1, .int v2, .int v3, .int v4, .int v5, .int v6, .int v7, .ref qf8, .ref qf9, .ref qf10, .ref qf11, .ref qf12, .ref qf13, .ref qf14, .ref qf15, .ref qf16, .int v17, .ref qf18, .int v19, .int v20])), (qf10, .inl (cf10, 2002, .inl f10))] sz) := by
  refine Met.ofW (cc := cX5_fieldCell) (maxL := 4) (ret := (some .int)) (by decide) rfl ?_
  intro p e s m args below meth c s₁ B hml hv
  obtain ⟨rfl, hsz, hP, hK, hD0⟩ := hv
  have hx := B.exec
  have hb := B.bytes
  have hr := B.returns
  have hts := atoms_spec (ws := (.code yX5_fieldCell cX5_fieldCell 4 (some .int) :: VS_h3)) B.pre
  replace hts := fun w (h : w ∈ VS_h3) => hts w (List.mem_cons_of_mem _ h)
  have hown : s.vm.findClass RX5 = some m.cls := findClass_of_methodNamed B.named
  have hlocks := B.notSynchronized
  subst hsz
  have hD := hD0.self (sz := s.heap.size)
  generalize hAe : va_A [(h0, .inr (5, [.ref qf0, .int v1, .int v2, .int v3, .int v4, .int v5, .int v6, .int v7, .ref qf8, .ref qf9, .ref qf10, .ref qf11, .ref qf12, .ref qf13, .ref qf14, .ref qf15, .ref qf16, .int v17, .ref qf18, .int v19, .int v20])), (qf10, .inl (cf10, 2002, .inl f10))] s.heap.size = A at hD  ⊢
  have hA : ∀ q : Nat, s.heap.size ≤ q → A q := fun q h => by rw [← hAe]; exact Or.inr h
  have hP : va_P (dC, dI) vwCl [(h0, .inr (5, [.ref qf0, .int v1, .int v2, .int v3, .int v4, .int v5, .int v6, .int v7, .ref qf8, .ref qf9, .ref qf10, .ref qf11, .ref qf12, .ref qf13, .ref qf14, .ref qf15, .ref qf16, .int v17, .ref qf18, .int v19, .int v20])), (qf10, .inl (cf10, 2002, .inl f10))] s.heap := hP
  have hl := lv_entry ([.ref h0, .int a1, .int a2]) (n := 4) (Nat.le_of_ble_eq_true rfl)
  rw [lg_entry_eq]
  generalize (lg_sl ([.ref h0, .int a1, .int a2]) ++ List.replicate (4 - (lg_sl ([.ref h0, .int a1, .int a2])).length) Slot.unset).toArray = ls at hl ⊢
  have hl : lv_has ls 4 [(0, .ref h0), (1, .int a1), (2, .int a2)] := hl
  obtain ⟨H, hH⟩ : ∃ H : Heap, s.heap = H := ⟨_, rfl⟩
  rw [hH] at hP ⊢
  have hS : va_S A s.heap H [] := by rw [← hH]; exact va_S.rf
  obtain ⟨locs, hlo⟩ : ∃ locs : List Loc, locs = [] := ⟨_, rfl⟩
  rw [← hlo] at hS ⊢
  unfold sp_t5_fieldCell at hsp
  refine lv_aload_n hx hb dX5_fieldCell_0 rfl (lv_at hl 0 rfl) ?_
  refine lv_iload_n hx hb dX5_fieldCell_1 rfl (lv_at hl 1 rfl) ?_
  obtain ⟨u1_0, hu_1, hsp⟩ := ox_bind hsp
  try dsimp only at hsp
  have hPc := hP.sub (ws' := [(h0, .inr (5, [.ref qf0, .int v1, .int v2, .int v3, .int v4, .int v5, .int v6, .int v7, .ref qf8, .ref qf9, .ref qf10, .ref qf11, .ref qf12, .ref qf13, .ref qf14, .ref qf15, .ref qf16, .int v17, .ref qf18, .int v19, .int v20]))]) [0] rfl
  have hDc := hD.sub (ws' := [(h0, .inr (5, [.ref qf0, .int v1, .int v2, .int v3, .int v4, .int v5, .int v6, .int v7, .ref qf8, .ref qf9, .ref qf10, .ref qf11, .ref qf12, .ref qf13, .ref qf14, .ref qf15, .ref qf16, .int v17, .ref qf18, .int v19, .int v20]))]) [0] (by decide) rfl
  have hKc := hK.sub (tys' := []) [] rfl
  have hFc := va_free (wc := [(h0, .inr (5, [.ref qf0, .int v1, .int v2, .int v3, .int v4, .int v5, .int v6, .int v7, .ref qf8, .ref qf9, .ref qf10, .ref qf11, .ref qf12, .ref qf13, .ref qf14, .ref qf15, .ref qf16, .int v17, .ref qf18, .int v19, .int v20]))]) hD hS hA [0] rfl
  refine va_calli (va_runV (As := [.int a1]) (rest := []) ⟨hx, hb, hml, hown, hts⟩ (t5_isObject l dC dI H.size h0 a1 qf0 v1 v2 v3 v4 v5 v6 v7 qf8 qf9 qf10 qf11 qf12 qf13 qf14 qf15 qf16 v17 qf18 v19 v20 nf u1_0 hu_1) (cwV 1 hts gv_h3_21 rfl rfl rfl (by decide +kernel) ⟨Nat.le_of_ble_eq_true rfl, Nat.le_of_ble_eq_true rfl⟩) ⟨fun a U g mk q => by obtain ⟨q0, q1, qP, qK, qD⟩ := q; exact ⟨q0, q1, qP, va_K.moved (u := U) (U := U.calling g mk a) (Vm.Alike.refl U.vm) qK, qD⟩, va_recv hKc hPc (ci := 5) (q0 := 0) rfl rfl, fun U hU hW => ⟨rfl, by rw [hU], by rw [hU]; exact hPc, va_K.moved hW.alike hKc, hDc.weaken (fun _ _ _ _ => trivial)⟩⟩ rfl rfl hl.1 rfl (lv_room (Nat.le_of_ble_eq_true rfl)) dX5_fieldCell_2 ⟨Nat.le_of_ble_eq_true rfl, Nat.le_of_ble_eq_true rfl⟩) hS (fun q _ h => hFc q h) hFc ?_
  clear hS
  intro r_1 u t H1 locs ht hvm hw hB hz1 hk1 hS
  obtain ⟨⟩ := u
  obtain ⟨hP1, hK1, hD1⟩ := hB
  rw [ht] at hP1
  have hK1 := va_K.moved hvm.symm hK1
  try dsimp only at hw
  have hPD := va_join (wr := [(qf10, .inl (cf10, 2002, .inl f10))]) (w1 := [(h0, .inr (5, [.ref qf0, .int v1, .int v2, .int v3, .int v4, .int v5, .int v6, .int v7, .ref qf8, .ref qf9, .ref qf10, .ref qf11, .ref qf12, .ref qf13, .ref qf14, .ref qf15, .ref qf16, .int v17, .ref qf18, .int v19, .int v20]))]) hP hD [0] [1] rfl rfl (by decide) (by decide) hk1 hFc hP1 hD1
  clear hP hD
  obtain ⟨hP, hD⟩ := hPD
  replace hK := (hK.sub (tys' := [(cf10, .int)]) [0] rfl).app hK1
  clear hPc hDc hKc hFc hP1 hK1 hD1 hz1 hk1 ht hvm
  generalize H1 = H at hP hS ⊢
  replace hP : va_P (dC, dI) vwCl [(qf10, .inl (cf10, 2002, .inl f10)), (h0, .inr (5, [.ref qf0, .int v1, .int v2, .int v3, .int v4, .int v5, .int v6, .int v7, .ref qf8, .ref qf9, .ref qf10, .ref qf11, .ref qf12, .ref qf13, .ref qf14, .ref qf15, .ref qf16, .int v17, .ref qf18, .int v19, .int v20]))] H := hP
  replace hD : va_D A [(qf10, .inl (cf10, 2002, .inl f10)), (h0, .inr (5, [.ref qf0, .int v1, .int v2, .int v3, .int v4, .int v5, .int v6, .int v7, .ref qf8, .ref qf9, .ref qf10, .ref qf11, .ref qf12, .ref qf13, .ref qf14, .ref qf15, .ref qf16, .int v17, .ref qf18, .int v19, .int v20]))] := hD
  replace hK : va_K (dC, dI) vwCl [(cf10, .int)] s := hK
  obtain ⟨rfl, hz_1⟩ := hw
  rcases hz_1 with rfl | rfl
  · rw [if_pos rfl] at hsp
    refine lv_if_eq (tgt := 19) hx hb dX5_fieldCell_5 (by decide) (fun c_2 => ?_) (fun c_2 => (show False by revert c_2; decide).elim)
    refine lv_iconst (v := (-1)) hx hb dX5_fieldCell_19 (by decide) ?_
    refine lv_istore_n (lv' := [(3, .int (-1)), (0, .ref h0), (1, .int a1), (2, .int a2)]) hx hb dX5_fieldCell_20 rfl hl (by decide) rfl (fun ls hl => ?_)
    refine lv_iload_n hx hb dX5_fieldCell_21 rfl (lv_at hl 3 rfl) ?_
    refine lv_if_lt (tgt := 36) hx hb dX5_fieldCell_22 (by decide) (fun c_3 => ?_) (fun c_3 => ?_)
    · rw [if_pos c_3] at hsp
      refine lv_iconst (v := (-1)) hx hb dX5_fieldCell_36 (by decide) ?_
      have hr0 := Option.some.inj hsp
      clear hsp
      subst hr0
      have hP9 := hP.sub (ws' := [(h0, .inr (5, [.ref qf0, .int v1, .int v2, .int v3, .int v4, .int v5, .int v6, .int v7, .ref qf8, .ref qf9, .ref qf10, .ref qf11, .ref qf12, .ref qf13, .ref qf14, .ref qf15, .ref qf16, .int v17, .ref qf18, .int v19, .int v20])), (qf10, .inl (cf10, 2002, .inl f10))]) [1, 0] rfl
      have hD9 := hD.sub (ws' := [(h0, .inr (5, [.ref qf0, .int v1, .int v2, .int v3, .int v4, .int v5, .int v6, .int v7, .ref qf8, .ref qf9, .ref qf10, .ref qf11, .ref qf12, .ref qf13, .ref qf14, .ref qf15, .ref qf16, .int v17, .ref qf18, .int v19, .int v20])), (qf10, .inl (cf10, 2002, .inl f10))]) [1, 0] (by decide) rfl
      have hK9 := hK.sub (tys' := [(cf10, .int)]) [0] rfl
      exact W.iret hx hb hr (fun t ht hW => ⟨⟨((-1)), (), rfl, rfl, by rw [ht]; exact hP9, va_K.moved hW.alike hK9, hD9⟩, hS.F ht⟩) hS.2.2 dX5_fieldCell_37
    · rw [if_neg c_3] at hsp
      refine lv_iload_n hx hb dX5_fieldCell_25 rfl (lv_at hl 0 rfl) ?_
      refine lv_sipush (v := 20000) hx hb dX5_fieldCell_26 (by decide) ?_
      refine lv_icmp_ge (tgt := 36) hx hb dX5_fieldCell_29 (by decide) (fun c_4 => (show False by revert c_4; decide).elim) (fun c_4 => ?_)
      refine lv_iload_n hx hb dX5_fieldCell_32 rfl (lv_at hl 0 rfl) ?_
      refine lv_goto (tgt := 37) hx hb dX5_fieldCell_33 (by decide) ?_
      have hr0 := Option.some.inj hsp
      clear hsp
      subst hr0
      have hP9 := hP.sub (ws' := [(h0, .inr (5, [.ref qf0, .int v1, .int v2, .int v3, .int v4, .int v5, .int v6, .int v7, .ref qf8, .ref qf9, .ref qf10, .ref qf11, .ref qf12, .ref qf13, .ref qf14, .ref qf15, .ref qf16, .int v17, .ref qf18, .int v19, .int v20])), (qf10, .inl (cf10, 2002, .inl f10))]) [1, 0] rfl
      have hD9 := hD.sub (ws' := [(h0, .inr (5, [.ref qf0, .int v1, .int v2, .int v3, .int v4, .int v5, .int v6, .int v7, .ref qf8, .ref qf9, .ref qf10, .ref qf11, .ref qf12, .ref qf13, .ref qf14, .ref qf15, .ref qf16, .int v17, .ref qf18, .int v19, .int v20])), (qf10, .inl (cf10, 2002, .inl f10))]) [1, 0] (by decide) rfl
      have hK9 := hK.sub (tys' := [(cf10, .int)]) [0] rfl
      exact W.iret hx hb hr (fun t ht hW => ⟨⟨((-1)), (), rfl, rfl, by rw [ht]; exact hP9, va_K.moved hW.alike hK9, hD9⟩, hS.F ht⟩) hS.2.2 dX5_fieldCell_37
  · rw [if_neg (by decide)] at hsp
    refine lv_if_eq (tgt := 19) hx hb dX5_fieldCell_5 (by decide) (fun c_5 => (show False by revert c_5; decide).elim) (fun c_5 => ?_)
    refine lv_aload_n hx hb dX5_fieldCell_8 rfl (lv_at hl 0 rfl) ?_
    refine va_get (D := (dC, dI)) (ci := 5) (v := .ref qf10) (C := RX5) (T := TX5) (N := 21) hx hb hts uV_h3_X5 hown hK hP 1 rfl rfl 10 (by decide) (hts (.fieldLink RX5 20 "ClassMill$Machine" "objectAt" "[I") mw_h3_118) (fun _ h9 => h9) rfl dX5_fieldCell_9 ?_
    refine lv_iload_n hx hb dX5_fieldCell_12 rfl (lv_at hl 1 rfl) ?_
    obtain ⟨hi_6, hsp⟩ := ox_in hsp
    refine va_iald hx hb hK hP 0 0 rfl rfl (i := a1) hi_6 dX5_fieldCell_13 ?_
    refine lv_iload_n hx hb dX5_fieldCell_14 rfl (lv_at hl 2 rfl) ?_
    refine lv_iadd hx hb dX5_fieldCell_15 ?_
    refine lv_goto (tgt := 20) hx hb dX5_fieldCell_16 (by decide) ?_
    refine lv_istore_n (lv' := [(3, .int ((f10 (a1 : Int32).toNatClampNeg) + a2)), (0, .ref h0), (1, .int a1), (2, .int a2)]) hx hb dX5_fieldCell_20 rfl hl (by decide) rfl (fun ls hl => ?_)
    refine lv_iload_n hx hb dX5_fieldCell_21 rfl (lv_at hl 3 rfl) ?_
    refine lv_if_lt (tgt := 36) hx hb dX5_fieldCell_22 (by decide) (fun c_7 => ?_) (fun c_7 => ?_)
    · rw [if_pos c_7] at hsp
      refine lv_iconst (v := (-1)) hx hb dX5_fieldCell_36 (by decide) ?_
      have hr0 := Option.some.inj hsp
      clear hsp
      subst hr0
      have hP9 := hP.sub (ws' := [(h0, .inr (5, [.ref qf0, .int v1, .int v2, .int v3, .int v4, .int v5, .int v6, .int v7, .ref qf8, .ref qf9, .ref qf10, .ref qf11, .ref qf12, .ref qf13, .ref qf14, .ref qf15, .ref qf16, .int v17, .ref qf18, .int v19, .int v20])), (qf10, .inl (cf10, 2002, .inl f10))]) [1, 0] rfl
      have hD9 := hD.sub (ws' := [(h0, .inr (5, [.ref qf0, .int v1, .int v2, .int v3, .int v4, .int v5, .int v6, .int v7, .ref qf8, .ref qf9, .ref qf10, .ref qf11, .ref qf12, .ref qf13, .ref qf14, .ref qf15, .ref qf16, .int v17, .ref qf18, .int v19, .int v20])), (qf10, .inl (cf10, 2002, .inl f10))]) [1, 0] (by decide) rfl
      have hK9 := hK.sub (tys' := [(cf10, .int)]) [0] rfl
      exact W.iret hx hb hr (fun t ht hW => ⟨⟨((-1)), (), rfl, rfl, by rw [ht]; exact hP9, va_K.moved hW.alike hK9, hD9⟩, hS.F ht⟩) hS.2.2 dX5_fieldCell_37
    · rw [if_neg c_7] at hsp
      refine lv_iload_n hx hb dX5_fieldCell_25 rfl (lv_at hl 0 rfl) ?_
      refine lv_sipush (v := 20000) hx hb dX5_fieldCell_26 (by decide) ?_
      refine lv_icmp_ge (tgt := 36) hx hb dX5_fieldCell_29 (by decide) (fun c_8 => ?_) (fun c_8 => ?_)
      · rw [if_pos c_8] at hsp
        refine lv_iconst (v := (-1)) hx hb dX5_fieldCell_36 (by decide) ?_
        have hr0 := Option.some.inj hsp
        clear hsp
        subst hr0
        have hP9 := hP.sub (ws' := [(h0, .inr (5, [.ref qf0, .int v1, .int v2, .int v3, .int v4, .int v5, .int v6, .int v7, .ref qf8, .ref qf9, .ref qf10, .ref qf11, .ref qf12, .ref qf13, .ref qf14, .ref qf15, .ref qf16, .int v17, .ref qf18, .int v19, .int v20])), (qf10, .inl (cf10, 2002, .inl f10))]) [1, 0] rfl
        have hD9 := hD.sub (ws' := [(h0, .inr (5, [.ref qf0, .int v1, .int v2, .int v3, .int v4, .int v5, .int v6, .int v7, .ref qf8, .ref qf9, .ref qf10, .ref qf11, .ref qf12, .ref qf13, .ref qf14, .ref qf15, .ref qf16, .int v17, .ref qf18, .int v19, .int v20])), (qf10, .inl (cf10, 2002, .inl f10))]) [1, 0] (by decide) rfl
        have hK9 := hK.sub (tys' := [(cf10, .int)]) [0] rfl
        exact W.iret hx hb hr (fun t ht hW => ⟨⟨((-1)), (), rfl, rfl, by rw [ht]; exact hP9, va_K.moved hW.alike hK9, hD9⟩, hS.F ht⟩) hS.2.2 dX5_fieldCell_37
      · rw [if_neg c_8] at hsp
        refine lv_iload_n hx hb dX5_fieldCell_32 rfl (lv_at hl 0 rfl) ?_
        refine lv_goto (tgt := 37) hx hb dX5_fieldCell_33 (by decide) ?_
        have hr0 := Option.some.inj hsp
        clear hsp
        subst hr0
        have hP9 := hP.sub (ws' := [(h0, .inr (5, [.ref qf0, .int v1, .int v2, .int v3, .int v4, .int v5, .int v6, .int v7, .ref qf8, .ref qf9, .ref qf10, .ref qf11, .ref qf12, .ref qf13, .ref qf14, .ref qf15, .ref qf16, .int v17, .ref qf18, .int v19, .int v20])), (qf10, .inl (cf10, 2002, .inl f10))]) [1, 0] rfl
        have hD9 := hD.sub (ws' := [(h0, .inr (5, [.ref qf0, .int v1, .int v2, .int v3, .int v4, .int v5, .int v6, .int v7, .ref qf8, .ref qf9, .ref qf10, .ref qf11, .ref qf12, .ref qf13, .ref qf14, .ref qf15, .ref qf16, .int v17, .ref qf18, .int v19, .int v20])), (qf10, .inl (cf10, 2002, .inl f10))]) [1, 0] (by decide) rfl
        have hK9 := hK.sub (tys' := [(cf10, .int)]) [0] rfl
        exact W.iret hx hb hr (fun t ht hW => ⟨⟨(((f10 (a1 : Int32).toNatClampNeg) + a2)), (), rfl, rfl, by rw [ht]; exact hP9, va_K.moved hW.alike hK9, hD9⟩, hS.F ht⟩) hS.2.2 dX5_fieldCell_37
def sp_t5_stepPrint (nf : Nat) (v1 : Int32) (v7 : Int32) (v17 : Int32) (f14 : Nat → Int32) (f16 : Nat → Int32) (f13 : Nat → Int32) (f8 : Nat → Int32) : Option ((Nat → Int32) × (Nat → Int32) × (Nat → Int32) × Int32 × Int32) := ((sp_t5_pop nf v1 v17 f14 f16).bind (fun p1 => (if 1000 ≤ v7 then ((sp_t5_goOn nf 1 v17 f13).bind (fun p2 => (some (p2, p1.2.1, f8, p1.2.2, (v7 + 1))))) else (if v7 < 0 then none else if 1000 ≤ (v7 : Int32).toNatClampNeg then none else ((sp_t5_goOn nf 1 v17 f13).bind (fun p3 => (some (p3, p1.2.1, (upd f8 (v7 : Int32).toNatClampNeg p1.1), p1.2.2, (v7 + 1)))))))))
set_option maxHeartbeats 4000000 in
set_option maxRecDepth 100000 in
/-- ClassMill$Machine.stepPrint -/
theorem t5_stepPrint (l : Launch) (dC : Nat → ClassId) (dI : Nat → Nat → Nat) (sz : Nat) (h0 : Nat) (qf0 : Nat) (v1 : Int32) (v2 : Int32) (v3 : Int32) (v4 : Int32) (v5 : Int32) (v6 : Int32) (v7 : Int32) (qf8 : Nat) (qf9 : Nat) (qf10 : Nat) (qf11 : Nat) (qf12 : Nat) (qf13 : Nat) (qf14 : Nat) (qf15 : Nat) (qf16 : Nat) (v17 : Int32) (qf18 : Nat) (v19 : Int32) (v20 : Int32) (cf14 : ClassId) (f14 : (Nat → Int32)) (cf16 : ClassId) (f16 : (Nat → Int32)) (cf13 : ClassId) (f13 : (Nat → Int32)) (cf8 : ClassId) (f8 : (Nat → Int32)) (nf : Nat) (o13 : (Nat → Int32)) (o14 : (Nat → Int32)) (o8 : (Nat → Int32)) (w1 : Int32) (w7 : Int32) (hsp : sp_t5_stepPrint nf v1 v7 v17 f14 f16 f13 f8 = some (o13, o14, o8, w1, w7)) : Met l yX5_stepPrint (.code yX5_stepPrint cX5_stepPrint 2 none :: VS_h3) ({ frames := 1, cells := 0, slots := 0, locals := 21 }) (va_Pc [.ref h0] (fun U => U.heap.size = sz ∧ va_P (dC, dI) vwCl [(h0, .inr (5, [.ref qf0, .int v1, .int v2, .int v3, .int v4, .int v5, .int v6, .int v7, .ref qf8, .ref qf9, .ref qf10, .ref qf11, .ref qf12, .ref qf13, .ref qf14, .ref qf15, .ref qf16, .int v17, .ref qf18, .int v19, .int v20])), (qf14, .inl (cf14, 60, .inl f14)), (qf16, .inl (cf16, 1800, .inl f16)), (qf13, .inl (cf13, 60, .inl f13)), (qf8, .inl (cf8, 1000, .inl f8))] U.heap ∧ va_K (dC, dI) vwCl [(cf14, .int), (cf16, .int), (cf13, .int), (cf8, .int)] U ∧ va_D (fun _ => True) [(h0, .inr (5, [.ref qf0, .int v1, .int v2, .int v3, .int v4, .int v5, .int v6, .int v7, .ref qf8, .ref qf9, .ref qf10, .ref qf11, .ref qf12, .ref qf13, .ref qf14, .ref qf15, .ref qf16, .int v17, .ref qf18, .int v19, .int v20])), (qf14, .inl (cf14, 60, .inl f14)), (qf16, .inl (cf16, 1800, .inl f16)), (qf13, .inl (cf13, 60, .inl f13)), (qf8, .inl (cf8, 1000, .inl f8))])) (va_Qv (fun (u : Unit) => match u with | () => True) (fun (u : Unit) (t : State) => match u with | () => va_P (dC, dI) vwCl [(h0, .inr (5, [.ref qf0, .int w1, .int v2, .int v3, .int v4, .int v5, .int v6, .int w7, .ref qf8, .ref qf9, .ref qf10, .ref qf11, .ref qf12, .ref qf13, .ref qf14, .ref qf15, .ref qf16, .int v17, .ref qf18, .int v19, .int v20])), (qf14, .inl (cf14, 60, .inl o14)), (qf16, .inl (cf16, 1800, .inl f16)), (qf13, .inl (cf13, 60, .inl o13)), (qf8, .inl (cf8, 1000, .inl o8))] t.heap ∧ va_K (dC, dI) vwCl [(cf14, .int), (cf16, .int), (cf13, .int), (cf8, .int)] t ∧ va_D (va_A [(h0, .inr (5, [.ref qf0, .int v1, .int v2, .int v3, .int v4, .int v5, .int v6, .int v7, .ref qf8, .ref qf9, .ref qf10, .ref qf11, .ref qf12, .ref qf13, .ref qf14, .ref qf15, .ref qf16, .int v17, .ref qf18, .int v19, .int v20])), (qf14, .inl (cf14, 60, .inl f14)), (qf16, .inl (cf16, 1800, .inl f16)), (qf13, .inl (cf13, 60, .inl f13)), (qf8, .inl (cf8, 1000, .inl f8))] sz) [(h0, .inr (5, [.ref qf0, .int w1, .int v2, .int v3, .int v4, .int v5, .int v6, .int w7, .ref qf8, .ref qf9, .ref qf10, .ref qf11, .ref qf12, .ref qf13, .ref qf14, .ref qf15, .ref qf16, .int v17, .ref qf18, .int v19, .int v20])), (qf14, .inl (cf14, 60, .inl o14)), (qf16, .inl (cf16, 1800, .inl f16)), (qf13, .inl (cf13, 60, .inl o13)), (qf8, .inl (cf8, 1000, .inl o8))]) (va_A [(h0, .inr (5, [.ref qf0, .int v1, .int v2, .int v3, .int v4, .int v5, .int v6, .int v7, .ref qf8, .ref qf9, .ref qf10, .ref qf11, .ref qf12, .ref qf13, .ref qf14, .ref qf15, .ref qf16, .int v17, .ref qf18, .int v19, .int v20])), (qf14, .inl (cf14, 60, .inl f14)), (qf16, .inl (cf16, 1800, .inl f16)), (qf13, .inl (cf13, 60, .inl f13)), (qf8, .inl (cf8, 1000, .inl f8))] sz)) 0 0 (va_A [(h0, .inr (5, [.ref qf0, .int v1, .int v2, .int v3, .int v4, .int v5, .int v6, .int v7, .ref qf8, .ref qf9, .ref qf10, .ref qf11, .ref qf12, .ref qf13, .ref qf14, .ref qf15, .ref qf16, .int v17, .ref qf18, .int v19, .int v20])), (qf14, .inl (cf14, 60, .inl f14)), (qf16, .inl (cf16, 1800, .inl f16)), (qf13, .inl (cf13, 60, .inl f13)), (qf8, .inl (cf8, 1000, .inl f8))] sz) := by
  refine Met.ofW (cc := cX5_stepPrint) (maxL := 2) (ret := none) (by decide) rfl ?_
  intro p e s m args below meth c s₁ B hml hv
  obtain ⟨rfl, hsz, hP, hK, hD0⟩ := hv
  have hx := B.exec
  have hb := B.bytes
  have hr := B.returns
  have hts := atoms_spec (ws := (.code yX5_stepPrint cX5_stepPrint 2 none :: VS_h3)) B.pre
  replace hts := fun w (h : w ∈ VS_h3) => hts w (List.mem_cons_of_mem _ h)
  have hown : s.vm.findClass RX5 = some m.cls := findClass_of_methodNamed B.named
  have hlocks := B.notSynchronized
  subst hsz
  have hD := hD0.self (sz := s.heap.size)
  generalize hAe : va_A [(h0, .inr (5, [.ref qf0, .int v1, .int v2, .int v3, .int v4, .int v5, .int v6, .int v7, .ref qf8, .ref qf9, .ref qf10, .ref qf11, .ref qf12, .ref qf13, .ref qf14, .ref qf15, .ref qf16, .int v17, .ref qf18, .int v19, .int v20])), (qf14, .inl (cf14, 60, .inl f14)), (qf16, .inl (cf16, 1800, .inl f16)), (qf13, .inl (cf13, 60, .inl f13)), (qf8, .inl (cf8, 1000, .inl f8))] s.heap.size = A at hD  ⊢
  have hA : ∀ q : Nat, s.heap.size ≤ q → A q := fun q h => by rw [← hAe]; exact Or.inr h
  have hP : va_P (dC, dI) vwCl [(h0, .inr (5, [.ref qf0, .int v1, .int v2, .int v3, .int v4, .int v5, .int v6, .int v7, .ref qf8, .ref qf9, .ref qf10, .ref qf11, .ref qf12, .ref qf13, .ref qf14, .ref qf15, .ref qf16, .int v17, .ref qf18, .int v19, .int v20])), (qf14, .inl (cf14, 60, .inl f14)), (qf16, .inl (cf16, 1800, .inl f16)), (qf13, .inl (cf13, 60, .inl f13)), (qf8, .inl (cf8, 1000, .inl f8))] s.heap := hP
  have hl := lv_entry ([.ref h0]) (n := 2) (Nat.le_of_ble_eq_true rfl)
  rw [lg_entry_eq]
  generalize (lg_sl ([.ref h0]) ++ List.replicate (2 - (lg_sl ([.ref h0])).length) Slot.unset).toArray = ls at hl ⊢
  have hl : lv_has ls 2 [(0, .ref h0)] := hl
  obtain ⟨H, hH⟩ : ∃ H : Heap, s.heap = H := ⟨_, rfl⟩
  rw [hH] at hP ⊢
  have hS : va_S A s.heap H [] := by rw [← hH]; exact va_S.rf
  obtain ⟨locs, hlo⟩ : ∃ locs : List Loc, locs = [] := ⟨_, rfl⟩
  rw [← hlo] at hS ⊢
  unfold sp_t5_stepPrint at hsp
  refine lv_aload_n hx hb dX5_stepPrint_0 rfl (lv_at hl 0 rfl) ?_
  obtain ⟨⟨u1_0, g901_1, u1_2⟩, hu_1, hsp⟩ := ox_bind hsp
  try dsimp only at hsp
  have hPc := hP.sub (ws' := [(h0, .inr (5, [.ref qf0, .int v1, .int v2, .int v3, .int v4, .int v5, .int v6, .int v7, .ref qf8, .ref qf9, .ref qf10, .ref qf11, .ref qf12, .ref qf13, .ref qf14, .ref qf15, .ref qf16, .int v17, .ref qf18, .int v19, .int v20])), (qf14, .inl (cf14, 60, .inl f14)), (qf16, .inl (cf16, 1800, .inl f16))]) [0, 1, 2] rfl
  have hDc := hD.sub (ws' := [(h0, .inr (5, [.ref qf0, .int v1, .int v2, .int v3, .int v4, .int v5, .int v6, .int v7, .ref qf8, .ref qf9, .ref qf10, .ref qf11, .ref qf12, .ref qf13, .ref qf14, .ref qf15, .ref qf16, .int v17, .ref qf18, .int v19, .int v20])), (qf14, .inl (cf14, 60, .inl f14)), (qf16, .inl (cf16, 1800, .inl f16))]) [0, 1, 2] (by decide) rfl
  have hKc := hK.sub (tys' := [(cf14, .int), (cf16, .int)]) [0, 1] rfl
  have hFc := va_free (wc := [(h0, .inr (5, [.ref qf0, .int v1, .int v2, .int v3, .int v4, .int v5, .int v6, .int v7, .ref qf8, .ref qf9, .ref qf10, .ref qf11, .ref qf12, .ref qf13, .ref qf14, .ref qf15, .ref qf16, .int v17, .ref qf18, .int v19, .int v20])), (qf14, .inl (cf14, 60, .inl f14)), (qf16, .inl (cf16, 1800, .inl f16))]) hD hS hA [0, 1, 2] rfl
  refine va_calli (va_runV (As := []) (rest := []) ⟨hx, hb, hml, hown, hts⟩ (t5_pop l dC dI H.size h0 qf0 v1 v2 v3 v4 v5 v6 v7 qf8 qf9 qf10 qf11 qf12 qf13 qf14 qf15 qf16 v17 qf18 v19 v20 cf14 f14 cf16 f16 nf u1_0 g901_1 u1_2 hu_1) (cwV 0 hts gv_h3_19 rfl rfl rfl (by decide +kernel) ⟨Nat.le_of_ble_eq_true rfl, Nat.le_of_ble_eq_true rfl⟩) ⟨fun a U g mk q => by obtain ⟨q0, q1, qP, qK, qD⟩ := q; exact ⟨q0, q1, qP, va_K.moved (u := U) (U := U.calling g mk a) (Vm.Alike.refl U.vm) qK, qD⟩, va_recv hKc hPc (ci := 5) (q0 := 0) rfl rfl, fun U hU hW => ⟨rfl, by rw [hU], by rw [hU]; exact hPc, va_K.moved hW.alike hKc, hDc.weaken (fun _ _ _ _ => trivial)⟩⟩ rfl rfl hl.1 rfl (lv_room (Nat.le_of_ble_eq_true rfl)) dX5_stepPrint_1 ⟨Nat.le_of_ble_eq_true rfl, Nat.le_of_ble_eq_true rfl⟩) hS (fun q _ h => hFc q h) hFc ?_
  clear hS
  intro r_1 u t H1 locs ht hvm hw hB hz1 hk1 hS
  obtain ⟨⟩ := u
  obtain ⟨hP1, hK1, hD1⟩ := hB
  rw [ht] at hP1
  have hK1 := va_K.moved hvm.symm hK1
  try dsimp only at hw
  have hPD := va_join (wr := [(qf13, .inl (cf13, 60, .inl f13)), (qf8, .inl (cf8, 1000, .inl f8))]) (w1 := [(h0, .inr (5, [.ref qf0, .int u1_2, .int v2, .int v3, .int v4, .int v5, .int v6, .int v7, .ref qf8, .ref qf9, .ref qf10, .ref qf11, .ref qf12, .ref qf13, .ref qf14, .ref qf15, .ref qf16, .int v17, .ref qf18, .int v19, .int v20])), (qf14, .inl (cf14, 60, .inl g901_1)), (qf16, .inl (cf16, 1800, .inl f16))]) hP hD [0, 1, 2] [3, 4] rfl rfl (by decide) (by decide) hk1 hFc hP1 hD1
  clear hP hD
  obtain ⟨hP, hD⟩ := hPD
  replace hK := (hK.sub (tys' := [(cf13, .int), (cf8, .int)]) [2, 3] rfl).app hK1
  clear hPc hDc hKc hFc hP1 hK1 hD1 hz1 hk1 ht hvm
  generalize H1 = H at hP hS ⊢
  replace hP : va_P (dC, dI) vwCl [(qf13, .inl (cf13, 60, .inl f13)), (qf8, .inl (cf8, 1000, .inl f8)), (h0, .inr (5, [.ref qf0, .int u1_2, .int v2, .int v3, .int v4, .int v5, .int v6, .int v7, .ref qf8, .ref qf9, .ref qf10, .ref qf11, .ref qf12, .ref qf13, .ref qf14, .ref qf15, .ref qf16, .int v17, .ref qf18, .int v19, .int v20])), (qf14, .inl (cf14, 60, .inl g901_1)), (qf16, .inl (cf16, 1800, .inl f16))] H := hP
  replace hD : va_D A [(qf13, .inl (cf13, 60, .inl f13)), (qf8, .inl (cf8, 1000, .inl f8)), (h0, .inr (5, [.ref qf0, .int u1_2, .int v2, .int v3, .int v4, .int v5, .int v6, .int v7, .ref qf8, .ref qf9, .ref qf10, .ref qf11, .ref qf12, .ref qf13, .ref qf14, .ref qf15, .ref qf16, .int v17, .ref qf18, .int v19, .int v20])), (qf14, .inl (cf14, 60, .inl g901_1)), (qf16, .inl (cf16, 1800, .inl f16))] := hD
  replace hK : va_K (dC, dI) vwCl [(cf13, .int), (cf8, .int), (cf14, .int), (cf16, .int)] s := hK
  obtain rfl := hw
  refine lv_istore_n (lv' := [(1, .int u1_0), (0, .ref h0)]) hx hb dX5_stepPrint_4 rfl hl (by decide) rfl (fun ls hl => ?_)
  refine lv_aload_n hx hb dX5_stepPrint_5 rfl (lv_at hl 1 rfl) ?_
  refine va_get (D := (dC, dI)) (ci := 5) (v := .int v7) (C := RX5) (T := TX5) (N := 21) hx hb hts uV_h3_X5 hown hK hP 2 rfl rfl 7 (by decide) (hts (.fieldLink RX5 69 "ClassMill$Machine" "prints" "I") mw_h3_79) (fun _ h9 => h9) rfl dX5_stepPrint_6 ?_
  refine lv_sipush (v := 1000) hx hb dX5_stepPrint_9 (by decide) ?_
  refine lv_icmp_ge (tgt := 25) hx hb dX5_stepPrint_12 (by decide) (fun c_2 => ?_) (fun c_2 => ?_)
  · rw [if_pos c_2] at hsp
    refine lv_aload_n hx hb dX5_stepPrint_25 rfl (lv_at hl 1 rfl) ?_
    refine lv_dup hx hb dX5_stepPrint_26 rfl ?_
    refine va_get (D := (dC, dI)) (ci := 5) (v := .int v7) (C := RX5) (T := TX5) (N := 21) hx hb hts uV_h3_X5 hown hK hP 2 rfl rfl 7 (by decide) (hts (.fieldLink RX5 69 "ClassMill$Machine" "prints" "I") mw_h3_79) (fun _ h9 => h9) rfl dX5_stepPrint_27 ?_
    refine lv_iconst (v := 1) hx hb dX5_stepPrint_30 (by decide) ?_
    refine lv_iadd hx hb dX5_stepPrint_31 ?_
    refine va_put (D := (dC, dI)) (ci := 5) (v := .int (v7 + 1)) (ty := .int) (C := RX5) (T := TX5) (N := 21) hx hb hts uV_h3_X5 tyX5 tyX5_ok nmX5 hown hK hP hD hS 2 rfl rfl 7 (by decide) (hts (.fieldLink RX5 69 "ClassMill$Machine" "prints" "I") mw_h3_79) (fun _ h9 => h9) rfl (by decide +kernel) rfl rfl (Nat.le_of_ble_eq_true rfl) dX5_stepPrint_32 ?_
    clear hP hD hS
    intro H locs hP hD hS
    replace hP : va_P (dC, dI) vwCl [(qf13, .inl (cf13, 60, .inl f13)), (qf8, .inl (cf8, 1000, .inl f8)), (h0, .inr (5, [.ref qf0, .int u1_2, .int v2, .int v3, .int v4, .int v5, .int v6, .int (v7 + 1), .ref qf8, .ref qf9, .ref qf10, .ref qf11, .ref qf12, .ref qf13, .ref qf14, .ref qf15, .ref qf16, .int v17, .ref qf18, .int v19, .int v20])), (qf14, .inl (cf14, 60, .inl g901_1)), (qf16, .inl (cf16, 1800, .inl f16))] H := hP
    replace hD : va_D A [(qf13, .inl (cf13, 60, .inl f13)), (qf8, .inl (cf8, 1000, .inl f8)), (h0, .inr (5, [.ref qf0, .int u1_2, .int v2, .int v3, .int v4, .int v5, .int v6, .int (v7 + 1), .ref qf8, .ref qf9, .ref qf10, .ref qf11, .ref qf12, .ref qf13, .ref qf14, .ref qf15, .ref qf16, .int v17, .ref qf18, .int v19, .int v20])), (qf14, .inl (cf14, 60, .inl g901_1)), (qf16, .inl (cf16, 1800, .inl f16))] := hD
    refine lv_aload_n hx hb dX5_stepPrint_35 rfl (lv_at hl 1 rfl) ?_
    refine lv_iconst (v := 1) hx hb dX5_stepPrint_36 (by decide) ?_
    obtain ⟨g902_0, hu_2, hsp⟩ := ox_bind hsp
    try dsimp only at hsp
    have hPc := hP.sub (ws' := [(h0, .inr (5, [.ref qf0, .int u1_2, .int v2, .int v3, .int v4, .int v5, .int v6, .int (v7 + 1), .ref qf8, .ref qf9, .ref qf10, .ref qf11, .ref qf12, .ref qf13, .ref qf14, .ref qf15, .ref qf16, .int v17, .ref qf18, .int v19, .int v20])), (qf13, .inl (cf13, 60, .inl f13))]) [2, 0] rfl
    have hDc := hD.sub (ws' := [(h0, .inr (5, [.ref qf0, .int u1_2, .int v2, .int v3, .int v4, .int v5, .int v6, .int (v7 + 1), .ref qf8, .ref qf9, .ref qf10, .ref qf11, .ref qf12, .ref qf13, .ref qf14, .ref qf15, .ref qf16, .int v17, .ref qf18, .int v19, .int v20])), (qf13, .inl (cf13, 60, .inl f13))]) [2, 0] (by decide) rfl
    have hKc := hK.sub (tys' := [(cf13, .int)]) [0] rfl
    have hFc := va_free (wc := [(h0, .inr (5, [.ref qf0, .int u1_2, .int v2, .int v3, .int v4, .int v5, .int v6, .int (v7 + 1), .ref qf8, .ref qf9, .ref qf10, .ref qf11, .ref qf12, .ref qf13, .ref qf14, .ref qf15, .ref qf16, .int v17, .ref qf18, .int v19, .int v20])), (qf13, .inl (cf13, 60, .inl f13))]) hD hS hA [2, 0] rfl
    refine va_callv (va_runV (As := [.int 1]) (rest := []) ⟨hx, hb, hml, hown, hts⟩ (t5_goOn l dC dI H.size h0 1 qf0 u1_2 v2 v3 v4 v5 v6 ((v7 + 1)) qf8 qf9 qf10 qf11 qf12 qf13 qf14 qf15 qf16 v17 qf18 v19 v20 cf13 f13 nf g902_0 hu_2) (cwV 1 hts gv_h3_16 rfl rfl rfl (by decide +kernel) ⟨Nat.le_of_ble_eq_true rfl, Nat.le_of_ble_eq_true rfl⟩) ⟨fun a U g mk q => by obtain ⟨q0, q1, qP, qK, qD⟩ := q; exact ⟨q0, q1, qP, va_K.moved (u := U) (U := U.calling g mk a) (Vm.Alike.refl U.vm) qK, qD⟩, va_recv hKc hPc (ci := 5) (q0 := 0) rfl rfl, fun U hU hW => ⟨rfl, by rw [hU], by rw [hU]; exact hPc, va_K.moved hW.alike hKc, hDc.weaken (fun _ _ _ _ => trivial)⟩⟩ rfl rfl hl.1 rfl (lv_room (Nat.le_of_ble_eq_true rfl)) dX5_stepPrint_37 ⟨Nat.le_of_ble_eq_true rfl, Nat.le_of_ble_eq_true rfl⟩) hS (fun q _ h => hFc q h) hFc ?_
    clear hS
    intro u t H1 locs ht hvm hw hB hz1 hk1 hS
    obtain ⟨⟩ := u
    obtain ⟨hP1, hK1, hD1⟩ := hB
    rw [ht] at hP1
    have hK1 := va_K.moved hvm.symm hK1
    try dsimp only at hw
    have hPD := va_join (wr := [(qf8, .inl (cf8, 1000, .inl f8)), (qf14, .inl (cf14, 60, .inl g901_1)), (qf16, .inl (cf16, 1800, .inl f16))]) (w1 := [(h0, .inr (5, [.ref qf0, .int u1_2, .int v2, .int v3, .int v4, .int v5, .int v6, .int (v7 + 1), .ref qf8, .ref qf9, .ref qf10, .ref qf11, .ref qf12, .ref qf13, .ref qf14, .ref qf15, .ref qf16, .int v17, .ref qf18, .int v19, .int v20])), (qf13, .inl (cf13, 60, .inl g902_0))]) hP hD [2, 0] [1, 3, 4] rfl rfl (by decide) (by decide) hk1 hFc hP1 hD1
    clear hP hD
    obtain ⟨hP, hD⟩ := hPD
    replace hK := (hK.sub (tys' := [(cf8, .int), (cf14, .int), (cf16, .int)]) [1, 2, 3] rfl).app hK1
    clear hPc hDc hKc hFc hP1 hK1 hD1 hz1 hk1 ht hvm
    generalize H1 = H at hP hS ⊢
    replace hP : va_P (dC, dI) vwCl [(qf8, .inl (cf8, 1000, .inl f8)), (qf14, .inl (cf14, 60, .inl g901_1)), (qf16, .inl (cf16, 1800, .inl f16)), (h0, .inr (5, [.ref qf0, .int u1_2, .int v2, .int v3, .int v4, .int v5, .int v6, .int (v7 + 1), .ref qf8, .ref qf9, .ref qf10, .ref qf11, .ref qf12, .ref qf13, .ref qf14, .ref qf15, .ref qf16, .int v17, .ref qf18, .int v19, .int v20])), (qf13, .inl (cf13, 60, .inl g902_0))] H := hP
    replace hD : va_D A [(qf8, .inl (cf8, 1000, .inl f8)), (qf14, .inl (cf14, 60, .inl g901_1)), (qf16, .inl (cf16, 1800, .inl f16)), (h0, .inr (5, [.ref qf0, .int u1_2, .int v2, .int v3, .int v4, .int v5, .int v6, .int (v7 + 1), .ref qf8, .ref qf9, .ref qf10, .ref qf11, .ref qf12, .ref qf13, .ref qf14, .ref qf15, .ref qf16, .int v17, .ref qf18, .int v19, .int v20])), (qf13, .inl (cf13, 60, .inl g902_0))] := hD
    replace hK : va_K (dC, dI) vwCl [(cf8, .int), (cf14, .int), (cf16, .int), (cf13, .int)] s := hK
    have hr0 := Option.some.inj hsp
    clear hsp
    obtain ⟨hq0, hr1⟩ := Prod.mk.inj hr0
    clear hr0
    obtain ⟨hq1, hr2⟩ := Prod.mk.inj hr1
    clear hr1
    obtain ⟨hq2, hr3⟩ := Prod.mk.inj hr2
    clear hr2
    obtain ⟨hq3, hr4⟩ := Prod.mk.inj hr3
    clear hr3
    subst hq0
    subst hq1
    subst hq2
    subst hq3
    subst hr4
    have hP9 := hP.sub (ws' := [(h0, .inr (5, [.ref qf0, .int u1_2, .int v2, .int v3, .int v4, .int v5, .int v6, .int (v7 + 1), .ref qf8, .ref qf9, .ref qf10, .ref qf11, .ref qf12, .ref qf13, .ref qf14, .ref qf15, .ref qf16, .int v17, .ref qf18, .int v19, .int v20])), (qf14, .inl (cf14, 60, .inl g901_1)), (qf16, .inl (cf16, 1800, .inl f16)), (qf13, .inl (cf13, 60, .inl g902_0)), (qf8, .inl (cf8, 1000, .inl f8))]) [3, 1, 2, 4, 0] rfl
    have hD9 := hD.sub (ws' := [(h0, .inr (5, [.ref qf0, .int u1_2, .int v2, .int v3, .int v4, .int v5, .int v6, .int (v7 + 1), .ref qf8, .ref qf9, .ref qf10, .ref qf11, .ref qf12, .ref qf13, .ref qf14, .ref qf15, .ref qf16, .int v17, .ref qf18, .int v19, .int v20])), (qf14, .inl (cf14, 60, .inl g901_1)), (qf16, .inl (cf16, 1800, .inl f16)), (qf13, .inl (cf13, 60, .inl g902_0)), (qf8, .inl (cf8, 1000, .inl f8))]) [3, 1, 2, 4, 0] (by decide) rfl
    have hK9 := hK.sub (tys' := [(cf14, .int), (cf16, .int), (cf13, .int), (cf8, .int)]) [1, 2, 3, 0] rfl
    exact W.vret hx hb hr (fun t ht hW => ⟨⟨(), rfl, trivial, by rw [ht]; exact hP9, va_K.moved hW.alike hK9, hD9⟩, hS.F ht⟩) hS.2.2 dX5_stepPrint_40
  · rw [if_neg c_2] at hsp
    refine lv_aload_n hx hb dX5_stepPrint_15 rfl (lv_at hl 1 rfl) ?_
    refine va_get (D := (dC, dI)) (ci := 5) (v := .ref qf8) (C := RX5) (T := TX5) (N := 21) hx hb hts uV_h3_X5 hown hK hP 2 rfl rfl 8 (by decide) (hts (.fieldLink RX5 13 "ClassMill$Machine" "printed" "[I") mw_h3_89) (fun _ h9 => h9) rfl dX5_stepPrint_16 ?_
    refine lv_aload_n hx hb dX5_stepPrint_19 rfl (lv_at hl 1 rfl) ?_
    refine va_get (D := (dC, dI)) (ci := 5) (v := .int v7) (C := RX5) (T := TX5) (N := 21) hx hb hts uV_h3_X5 hown hK hP 2 rfl rfl 7 (by decide) (hts (.fieldLink RX5 69 "ClassMill$Machine" "prints" "I") mw_h3_79) (fun _ h9 => h9) rfl dX5_stepPrint_20 ?_
    refine lv_iload_n hx hb dX5_stepPrint_23 rfl (lv_at hl 0 rfl) ?_
    obtain ⟨hi_3, hsp⟩ := ox_in hsp
    refine va_iast hx hb hK hP hD hS 1 1 rfl rfl (i := v7) (x := u1_0) hi_3 dX5_stepPrint_24 ?_
    clear hP hD hS
    intro H locs hP hD hS
    replace hP : va_P (dC, dI) vwCl [(qf13, .inl (cf13, 60, .inl f13)), (qf8, .inl (cf8, 1000, .inl (upd f8 (v7 : Int32).toNatClampNeg u1_0))), (h0, .inr (5, [.ref qf0, .int u1_2, .int v2, .int v3, .int v4, .int v5, .int v6, .int v7, .ref qf8, .ref qf9, .ref qf10, .ref qf11, .ref qf12, .ref qf13, .ref qf14, .ref qf15, .ref qf16, .int v17, .ref qf18, .int v19, .int v20])), (qf14, .inl (cf14, 60, .inl g901_1)), (qf16, .inl (cf16, 1800, .inl f16))] H := hP
    replace hD : va_D A [(qf13, .inl (cf13, 60, .inl f13)), (qf8, .inl (cf8, 1000, .inl (upd f8 (v7 : Int32).toNatClampNeg u1_0))), (h0, .inr (5, [.ref qf0, .int u1_2, .int v2, .int v3, .int v4, .int v5, .int v6, .int v7, .ref qf8, .ref qf9, .ref qf10, .ref qf11, .ref qf12, .ref qf13, .ref qf14, .ref qf15, .ref qf16, .int v17, .ref qf18, .int v19, .int v20])), (qf14, .inl (cf14, 60, .inl g901_1)), (qf16, .inl (cf16, 1800, .inl f16))] := hD
    refine lv_aload_n hx hb dX5_stepPrint_25 rfl (lv_at hl 1 rfl) ?_
    refine lv_dup hx hb dX5_stepPrint_26 rfl ?_
    refine va_get (D := (dC, dI)) (ci := 5) (v := .int v7) (C := RX5) (T := TX5) (N := 21) hx hb hts uV_h3_X5 hown hK hP 2 rfl rfl 7 (by decide) (hts (.fieldLink RX5 69 "ClassMill$Machine" "prints" "I") mw_h3_79) (fun _ h9 => h9) rfl dX5_stepPrint_27 ?_
    refine lv_iconst (v := 1) hx hb dX5_stepPrint_30 (by decide) ?_
    refine lv_iadd hx hb dX5_stepPrint_31 ?_
    refine va_put (D := (dC, dI)) (ci := 5) (v := .int (v7 + 1)) (ty := .int) (C := RX5) (T := TX5) (N := 21) hx hb hts uV_h3_X5 tyX5 tyX5_ok nmX5 hown hK hP hD hS 2 rfl rfl 7 (by decide) (hts (.fieldLink RX5 69 "ClassMill$Machine" "prints" "I") mw_h3_79) (fun _ h9 => h9) rfl (by decide +kernel) rfl rfl (Nat.le_of_ble_eq_true rfl) dX5_stepPrint_32 ?_
    clear hP hD hS
    intro H locs hP hD hS
    replace hP : va_P (dC, dI) vwCl [(qf13, .inl (cf13, 60, .inl f13)), (qf8, .inl (cf8, 1000, .inl (upd f8 (v7 : Int32).toNatClampNeg u1_0))), (h0, .inr (5, [.ref qf0, .int u1_2, .int v2, .int v3, .int v4, .int v5, .int v6, .int (v7 + 1), .ref qf8, .ref qf9, .ref qf10, .ref qf11, .ref qf12, .ref qf13, .ref qf14, .ref qf15, .ref qf16, .int v17, .ref qf18, .int v19, .int v20])), (qf14, .inl (cf14, 60, .inl g901_1)), (qf16, .inl (cf16, 1800, .inl f16))] H := hP
    replace hD : va_D A [(qf13, .inl (cf13, 60, .inl f13)), (qf8, .inl (cf8, 1000, .inl (upd f8 (v7 : Int32).toNatClampNeg u1_0))), (h0, .inr (5, [.ref qf0, .int u1_2, .int v2, .int v3, .int v4, .int v5, .int v6, .int (v7 + 1), .ref qf8, .ref qf9, .ref qf10, .ref qf11, .ref qf12, .ref qf13, .ref qf14, .ref qf15, .ref qf16, .int v17, .ref qf18, .int v19, .int v20])), (qf14, .inl (cf14, 60, .inl g901_1)), (qf16, .inl (cf16, 1800, .inl f16))] := hD
    refine lv_aload_n hx hb dX5_stepPrint_35 rfl (lv_at hl 1 rfl) ?_
    refine lv_iconst (v := 1) hx hb dX5_stepPrint_36 (by decide) ?_
    obtain ⟨g903_0, hu_3, hsp⟩ := ox_bind hsp
    try dsimp only at hsp
    have hPc := hP.sub (ws' := [(h0, .inr (5, [.ref qf0, .int u1_2, .int v2, .int v3, .int v4, .int v5, .int v6, .int (v7 + 1), .ref qf8, .ref qf9, .ref qf10, .ref qf11, .ref qf12, .ref qf13, .ref qf14, .ref qf15, .ref qf16, .int v17, .ref qf18, .int v19, .int v20])), (qf13, .inl (cf13, 60, .inl f13))]) [2, 0] rfl
    have hDc := hD.sub (ws' := [(h0, .inr (5, [.ref qf0, .int u1_2, .int v2, .int v3, .int v4, .int v5, .int v6, .int (v7 + 1), .ref qf8, .ref qf9, .ref qf10, .ref qf11, .ref qf12, .ref qf13, .ref qf14, .ref qf15, .ref qf16, .int v17, .ref qf18, .int v19, .int v20])), (qf13, .inl (cf13, 60, .inl f13))]) [2, 0] (by decide) rfl
    have hKc := hK.sub (tys' := [(cf13, .int)]) [0] rfl
    have hFc := va_free (wc := [(h0, .inr (5, [.ref qf0, .int u1_2, .int v2, .int v3, .int v4, .int v5, .int v6, .int (v7 + 1), .ref qf8, .ref qf9, .ref qf10, .ref qf11, .ref qf12, .ref qf13, .ref qf14, .ref qf15, .ref qf16, .int v17, .ref qf18, .int v19, .int v20])), (qf13, .inl (cf13, 60, .inl f13))]) hD hS hA [2, 0] rfl
    refine va_callv (va_runV (As := [.int 1]) (rest := []) ⟨hx, hb, hml, hown, hts⟩ (t5_goOn l dC dI H.size h0 1 qf0 u1_2 v2 v3 v4 v5 v6 ((v7 + 1)) qf8 qf9 qf10 qf11 qf12 qf13 qf14 qf15 qf16 v17 qf18 v19 v20 cf13 f13 nf g903_0 hu_3) (cwV 1 hts gv_h3_16 rfl rfl rfl (by decide +kernel) ⟨Nat.le_of_ble_eq_true rfl, Nat.le_of_ble_eq_true rfl⟩) ⟨fun a U g mk q => by obtain ⟨q0, q1, qP, qK, qD⟩ := q; exact ⟨q0, q1, qP, va_K.moved (u := U) (U := U.calling g mk a) (Vm.Alike.refl U.vm) qK, qD⟩, va_recv hKc hPc (ci := 5) (q0 := 0) rfl rfl, fun U hU hW => ⟨rfl, by rw [hU], by rw [hU]; exact hPc, va_K.moved hW.alike hKc, hDc.weaken (fun _ _ _ _ => trivial)⟩⟩ rfl rfl hl.1 rfl (lv_room (Nat.le_of_ble_eq_true rfl)) dX5_stepPrint_37 ⟨Nat.le_of_ble_eq_true rfl, Nat.le_of_ble_eq_true rfl⟩) hS (fun q _ h => hFc q h) hFc ?_
    clear hS
    intro u t H1 locs ht hvm hw hB hz1 hk1 hS
    obtain ⟨⟩ := u
    obtain ⟨hP1, hK1, hD1⟩ := hB
    rw [ht] at hP1
    have hK1 := va_K.moved hvm.symm hK1
    try dsimp only at hw
    have hPD := va_join (wr := [(qf8, .inl (cf8, 1000, .inl (upd f8 (v7 : Int32).toNatClampNeg u1_0))), (qf14, .inl (cf14, 60, .inl g901_1)), (qf16, .inl (cf16, 1800, .inl f16))]) (w1 := [(h0, .inr (5, [.ref qf0, .int u1_2, .int v2, .int v3, .int v4, .int v5, .int v6, .int (v7 + 1), .ref qf8, .ref qf9, .ref qf10, .ref qf11, .ref qf12, .ref qf13, .ref qf14, .ref qf15, .ref qf16, .int v17, .ref qf18, .int v19, .int v20])), (qf13, .inl (cf13, 60, .inl g903_0))]) hP hD [2, 0] [1, 3, 4] rfl rfl (by decide) (by decide) hk1 hFc hP1 hD1
    clear hP hD
    obtain ⟨hP, hD⟩ := hPD
    replace hK := (hK.sub (tys' := [(cf8, .int), (cf14, .int), (cf16, .int)]) [1, 2, 3] rfl).app hK1
    clear hPc hDc hKc hFc hP1 hK1 hD1 hz1 hk1 ht hvm
    generalize H1 = H at hP hS ⊢
    replace hP : va_P (dC, dI) vwCl [(qf8, .inl (cf8, 1000, .inl (upd f8 (v7 : Int32).toNatClampNeg u1_0))), (qf14, .inl (cf14, 60, .inl g901_1)), (qf16, .inl (cf16, 1800, .inl f16)), (h0, .inr (5, [.ref qf0, .int u1_2, .int v2, .int v3, .int v4, .int v5, .int v6, .int (v7 + 1), .ref qf8, .ref qf9, .ref qf10, .ref qf11, .ref qf12, .ref qf13, .ref qf14, .ref qf15, .ref qf16, .int v17, .ref qf18, .int v19, .int v20])), (qf13, .inl (cf13, 60, .inl g903_0))] H := hP
    replace hD : va_D A [(qf8, .inl (cf8, 1000, .inl (upd f8 (v7 : Int32).toNatClampNeg u1_0))), (qf14, .inl (cf14, 60, .inl g901_1)), (qf16, .inl (cf16, 1800, .inl f16)), (h0, .inr (5, [.ref qf0, .int u1_2, .int v2, .int v3, .int v4, .int v5, .int v6, .int (v7 + 1), .ref qf8, .ref qf9, .ref qf10, .ref qf11, .ref qf12, .ref qf13, .ref qf14, .ref qf15, .ref qf16, .int v17, .ref qf18, .int v19, .int v20])), (qf13, .inl (cf13, 60, .inl g903_0))] := hD
    replace hK : va_K (dC, dI) vwCl [(cf8, .int), (cf14, .int), (cf16, .int), (cf13, .int)] s := hK
    have hr0 := Option.some.inj hsp
    clear hsp
    obtain ⟨hq0, hr1⟩ := Prod.mk.inj hr0
    clear hr0
    obtain ⟨hq1, hr2⟩ := Prod.mk.inj hr1
    clear hr1
    obtain ⟨hq2, hr3⟩ := Prod.mk.inj hr2
    clear hr2
    obtain ⟨hq3, hr4⟩ := Prod.mk.inj hr3
    clear hr3
    subst hq0
    subst hq1
    subst hq2
    subst hq3
    subst hr4
    have hP9 := hP.sub (ws' := [(h0, .inr (5, [.ref qf0, .int u1_2, .int v2, .int v3, .int v4, .int v5, .int v6, .int (v7 + 1), .ref qf8, .ref qf9, .ref qf10, .ref qf11, .ref qf12, .ref qf13, .ref qf14, .ref qf15, .ref qf16, .int v17, .ref qf18, .int v19, .int v20])), (qf14, .inl (cf14, 60, .inl g901_1)), (qf16, .inl (cf16, 1800, .inl f16)), (qf13, .inl (cf13, 60, .inl g903_0)), (qf8, .inl (cf8, 1000, .inl (upd f8 (v7 : Int32).toNatClampNeg u1_0)))]) [3, 1, 2, 4, 0] rfl
    have hD9 := hD.sub (ws' := [(h0, .inr (5, [.ref qf0, .int u1_2, .int v2, .int v3, .int v4, .int v5, .int v6, .int (v7 + 1), .ref qf8, .ref qf9, .ref qf10, .ref qf11, .ref qf12, .ref qf13, .ref qf14, .ref qf15, .ref qf16, .int v17, .ref qf18, .int v19, .int v20])), (qf14, .inl (cf14, 60, .inl g901_1)), (qf16, .inl (cf16, 1800, .inl f16)), (qf13, .inl (cf13, 60, .inl g903_0)), (qf8, .inl (cf8, 1000, .inl (upd f8 (v7 : Int32).toNatClampNeg u1_0)))]) [3, 1, 2, 4, 0] (by decide) rfl
    have hK9 := hK.sub (tys' := [(cf14, .int), (cf16, .int), (cf13, .int), (cf8, .int)]) [1, 2, 3, 0] rfl
    exact W.vret hx hb hr (fun t ht hW => ⟨⟨(), rfl, trivial, by rw [ht]; exact hP9, va_K.moved hW.alike hK9, hD9⟩, hS.F ht⟩) hS.2.2 dX5_stepPrint_40
def sp_t5_stepLength (nf : Nat) (v1 : Int32) (v4 : Int32) (v17 : Int32) (v20 : Int32) (f14 : Nat → Int32) (f16 : Nat → Int32) (f10 : Nat → Int32) (f13 : Nat → Int32) : Option ((Nat → Int32) × (Nat → Int32) × (Nat → Int32) × Int32 × Int32) := ((sp_t5_pop nf v1 v17 f14 f16).bind (fun p1 => ((sp_t5_isObject nf p1.1 v4).bind (fun p2 => (if p2 = 0 then (some (f13, p1.2.1, f16, p1.2.2, (-2))) else (if (p1.1 + 1) < 0 then none else if 2002 ≤ ((p1.1 + 1) : Int32).toNatClampNeg then none else (if p1.1 < 0 then none else if 2002 ≤ (p1.1 : Int32).toNatClampNeg then none else ((sp_t5_give nf ((f10 ((p1.1 + 1) : Int32).toNatClampNeg) - (f10 (p1.1 : Int32).toNatClampNeg)) 1 p1.2.2 v17 p1.2.1 f16 f13).bind (fun p3 => (some (p3.1, p3.2.1, p3.2.2.1, p3.2.2.2, v20)))))))))))
set_option maxHeartbeats 4000000 in
set_option maxRecDepth 100000 in
/-- ClassMill$Machine.stepLength -/
theorem t5_stepLength (l : Launch) (dC : Nat → ClassId) (dI : Nat → Nat → Nat) (sz : Nat) (h0 : Nat) (qf0 : Nat) (v1 : Int32) (v2 : Int32) (v3 : Int32) (v4 : Int32) (v5 : Int32) (v6 : Int32) (v7 : Int32) (qf8 : Nat) (qf9 : Nat) (qf10 : Nat) (qf11 : Nat) (qf12 : Nat) (qf13 : Nat) (qf14 : Nat) (qf15 : Nat) (qf16 : Nat) (v17 : Int32) (qf18 : Nat) (v19 : Int32) (v20 : Int32) (cf14 : ClassId) (f14 : (Nat → Int32)) (cf16 : ClassId) (f16 : (Nat → Int32)) (cf10 : ClassId) (f10 : (Nat → Int32)) (cf13 : ClassId) (f13 : (Nat → Int32)) (nf : Nat) (o13 : (Nat → Int32)) (o14 : (Nat → Int32)) (o16 : (Nat → Int32)) (w1 : Int32) (w20 : Int32) (hsp : sp_t5_stepLength nf v1 v4 v17 v20 f14 f16 f10 f13 = some (o13, o14, o16, w1, w20)) : Met l yX5_stepLength (.code yX5_stepLength cX5_stepLength 2 none :: VS_h3) ({ frames := 2, cells := 0, slots := 0, locals := 44 }) (va_Pc [.ref h0] (fun U => U.heap.size = sz ∧ va_P (dC, dI) vwCl [(h0, .inr (5, [.ref qf0, .int v1, .int v2, .int v3, .int v4, .int v5, .int v6, .int v7, .ref qf8, .ref qf9, .ref qf10, .ref qf11, .ref qf12, .ref qf13, .ref qf14, .ref qf15, .ref qf16, .int v17, .ref qf18, .int v19, .int v20])), (qf14, .inl (cf14, 60, .inl f14)), (qf16, .inl (cf16, 1800, .inl f16)), (qf10, .inl (cf10, 2002, .inl f10)), (qf13, .inl (cf13, 60, .inl f13))] U.heap ∧ va_K (dC, dI) vwCl [(cf14, .int), (cf16, .int), (cf10, .int), (cf13, .int)] U ∧ va_D (fun _ => True) [(h0, .inr (5, [.ref qf0, .int v1, .int v2, .int v3, .int v4, .int v5, .int v6, .int v7, .ref qf8, .ref qf9, .ref qf10, .ref qf11, .ref qf12, .ref qf13, .ref qf14, .ref qf15, .ref qf16, .int v17, .ref qf18, .int v19, .int v20])), (qf14, .inl (cf14, 60, .inl f14)), (qf16, .inl (cf16, 1800, .inl f16)), (qf10, .inl (cf10, 2002, .inl f10)), (qf13, .inl (cf13, 60, .inl f13))])) (va_Qv (fun (u : Unit) => match u with | () => True) (fun (u : Unit) (t : State) => match u with | () => va_P (dC, dI) vwCl [(h0, .inr (5, [.ref qf0, .int w1, .int v2, .int v3, .int v4, .int v5, .int v6, .int v7, .ref qf8, .ref qf9, .ref qf10, .ref qf11, .ref qf12, .ref qf13, .ref qf14, .ref qf15, .ref qf16, .int v17, .ref qf18, .int v19, .int w20])), (qf14, .inl (cf14, 60, .inl o14)), (qf16, .inl (cf16, 1800, .inl o16)), (qf10, .inl (cf10, 2002, .inl f10)), (qf13, .inl (cf13, 60, .inl o13))] t.heap ∧ va_K (dC, dI) vwCl [(cf14, .int), (cf16, .int), (cf10, .int), (cf13, .int)] t ∧ va_D (va_A [(h0, .inr (5, [.ref qf0, .int v1, .int v2, .int v3, .int v4, .int v5, .int v6, .int v7, .ref qf8, .ref qf9, .ref qf10, .ref qf11, .ref qf12, .ref qf13, .ref qf14, .ref qf15, .ref qf16, .int v17, .ref qf18, .int v19, .int v20])), (qf14, .inl (cf14, 60, .inl f14)), (qf16, .inl (cf16, 1800, .inl f16)), (qf10, .inl (cf10, 2002, .inl f10)), (qf13, .inl (cf13, 60, .inl f13))] sz) [(h0, .inr (5, [.ref qf0, .int w1, .int v2, .int v3, .int v4, .int v5, .int v6, .int v7, .ref qf8, .ref qf9, .ref qf10, .ref qf11, .ref qf12, .ref qf13, .ref qf14, .ref qf15, .ref qf16, .int v17, .ref qf18, .int v19, .int w20])), (qf14, .inl (cf14, 60, .inl o14)), (qf16, .inl (cf16, 1800, .inl o16)), (qf10, .inl (cf10, 2002, .inl f10)), (qf13, .inl (cf13, 60, .inl o13))]) (va_A [(h0, .inr (5, [.ref qf0, .int v1, .int v2, .int v3, .int v4, .int v5, .int v6, .int v7, .ref qf8, .ref qf9, .ref qf10, .ref qf11, .ref qf12, .ref qf13, .ref qf14, .ref qf15, .ref qf16, .int v17, .ref qf18, .int v19, .int v20])), (qf14, .inl (cf14, 60, .inl f14)), (qf16, .inl (cf16, 1800, .inl f16)), (qf10, .inl (cf10, 2002, .inl f10)), (qf13, .inl (cf13, 60, .inl f13))] sz)) 0 0 (va_A [(h0, .inr (5, [.ref qf0, .int v1, .int v2, .int v3, .int v4, .int v5, .int v6, .int v7, .ref qf8, .ref qf9, .ref qf10, .ref qf11, .ref qf12, .ref qf13, .ref qf14, .ref qf15, .ref qf16, .int v17, .ref qf18, .int v19, .int v20])), (qf14, .inl (cf14, 60, .inl f14)), (qf16, .inl (cf16, 1800, .inl f16)), (qf10, .inl (cf10, 2002, .inl f10)), (qf13, .inl (cf13, 60, .inl f13))] sz) := by
  refine Met.ofW (cc := cX5_stepLength) (maxL := 2) (ret := none) (by decide) rfl ?_
  intro p e s m args below meth c s₁ B hml hv
  obtain ⟨rfl, hsz, hP, hK, hD0⟩ := hv
  have hx := B.exec
  have hb := B.bytes
  have hr := B.returns
  have hts := atoms_spec (ws := (.code yX5_stepLength cX5_stepLength 2 none :: VS_h3)) B.pre
  replace hts := fun w (h : w ∈ VS_h3) => hts w (List.mem_cons_of_mem _ h)
  have hown : s.vm.findClass RX5 = some m.cls := findClass_of_methodNamed B.named
  have hlocks := B.notSynchronized
  subst hsz
  have hD := hD0.self (sz := s.heap.size)
  generalize hAe : va_A [(h0, .inr (5, [.ref qf0, .int v1, .int v2, .int v3, .int v4, .int v5, .int v6, .int v7, .ref qf8, .ref qf9, .ref qf10, .ref qf11, .ref qf12, .ref qf13, .ref qf14, .ref qf15, .ref qf16, .int v17, .ref qf18, .int v19, .int v20])), (qf14, .inl (cf14, 60, .inl f14)), (qf16, .inl (cf16, 1800, .inl f16)), (qf10, .inl (cf10, 2002, .inl f10)), (qf13, .inl (cf13, 60, .inl f13))] s.heap.size = A at hD  ⊢
  have hA : ∀ q : Nat, s.heap.size ≤ q → A q := fun q h => by rw [← hAe]; exact Or.inr h
  have hP : va_P (dC, dI) vwCl [(h0, .inr (5, [.ref qf0, .int v1, .int v2, .int v3, .int v4, .int v5, .int v6, .int v7, .ref qf8, .ref qf9, .ref qf10, .ref qf11, .ref qf12, .ref qf13, .ref qf14, .ref qf15, .ref qf16, .int v17, .ref qf18, .int v19, .int v20])), (qf14, .inl (cf14, 60, .inl f14)), (qf16, .inl (cf16, 1800, .inl f16)), (qf10, .inl (cf10, 2002, .inl f10)), (qf13, .inl (cf13, 60, .inl f13))] s.heap := hP
  have hl := lv_entry ([.ref h0]) (n := 2) (Nat.le_of_ble_eq_true rfl)
  rw [lg_entry_eq]
  generalize (lg_sl ([.ref h0]) ++ List.replicate (2 - (lg_sl ([.ref h0])).length) Slot.unset).toArray = ls at hl ⊢
  have hl : lv_has ls 2 [(0, .ref h0)] := hl
  obtain ⟨H, hH⟩ : ∃ H : Heap, s.heap = H := ⟨_, rfl⟩
  rw [hH] at hP ⊢
  have hS : va_S A s.heap H [] := by rw [← hH]; exact va_S.rf
  obtain ⟨locs, hlo⟩ : ∃ locs : List Loc, locs = [] := ⟨_, rfl⟩
  rw [← hlo] at hS ⊢
  unfold sp_t5_stepLength at hsp
  refine lv_aload_n hx hb dX5_stepLength_0 rfl (lv_at hl 0 rfl) ?_
  obtain ⟨⟨u1_0, g901_1, u1_2⟩, hu_1, hsp⟩ := ox_bind hsp
  try dsimp only at hsp
  have hPc := hP.sub (ws' := [(h0, .inr (5, [.ref qf0, .int v1, .int v2, .int v3, .int v4, .int v5, .int v6, .int v7, .ref qf8, .ref qf9, .ref qf10, .ref qf11, .ref qf12, .ref qf13, .ref qf14, .ref qf15, .ref qf16, .int v17, .ref qf18, .int v19, .int v20])), (qf14, .inl (cf14, 60, .inl f14)), (qf16, .inl (cf16, 1800, .inl f16))]) [0, 1, 2] rfl
  have hDc := hD.sub (ws' := [(h0, .inr (5, [.ref qf0, .int v1, .int v2, .int v3, .int v4, .int v5, .int v6, .int v7, .ref qf8, .ref qf9, .ref qf10, .ref qf11, .ref qf12, .ref qf13, .ref qf14, .ref qf15, .ref qf16, .int v17, .ref qf18, .int v19, .int v20])), (qf14, .inl (cf14, 60, .inl f14)), (qf16, .inl (cf16, 1800, .inl f16))]) [0, 1, 2] (by decide) rfl
  have hKc := hK.sub (tys' := [(cf14, .int), (cf16, .int)]) [0, 1] rfl
  have hFc := va_free (wc := [(h0, .inr (5, [.ref qf0, .int v1, .int v2, .int v3, .int v4, .int v5, .int v6, .int v7, .ref qf8, .ref qf9, .ref qf10, .ref qf11, .ref qf12, .ref qf13, .ref qf14, .ref qf15, .ref qf16, .int v17, .ref qf18, .int v19, .int v20])), (qf14, .inl (cf14, 60, .inl f14)), (qf16, .inl (cf16, 1800, .inl f16))]) hD hS hA [0, 1, 2] rfl
  refine va_calli (va_runV (As := []) (rest := []) ⟨hx, hb, hml, hown, hts⟩ (t5_pop l dC dI H.size h0 qf0 v1 v2 v3 v4 v5 v6 v7 qf8 qf9 qf10 qf11 qf12 qf13 qf14 qf15 qf16 v17 qf18 v19 v20 cf14 f14 cf16 f16 nf u1_0 g901_1 u1_2 hu_1) (cwV 0 hts gv_h3_19 rfl rfl rfl (by decide +kernel) ⟨Nat.le_of_ble_eq_true rfl, Nat.le_of_ble_eq_true rfl⟩) ⟨fun a U g mk q => by obtain ⟨q0, q1, qP, qK, qD⟩ := q; exact ⟨q0, q1, qP, va_K.moved (u := U) (U := U.calling g mk a) (Vm.Alike.refl U.vm) qK, qD⟩, va_recv hKc hPc (ci := 5) (q0 := 0) rfl rfl, fun U hU hW => ⟨rfl, by rw [hU], by rw [hU]; exact hPc, va_K.moved hW.alike hKc, hDc.weaken (fun _ _ _ _ => trivial)⟩⟩ rfl rfl hl.1 rfl (lv_room (Nat.le_of_ble_eq_true rfl)) dX5_stepLength_1 ⟨Nat.le_of_ble_eq_true rfl, Nat.le_of_ble_eq_true rfl⟩) hS (fun q _ h => hFc q h) hFc ?_
  clear hS
  intro r_1 u t H1 locs ht hvm hw hB hz1 hk1 hS
  obtain ⟨⟩ := u
  obtain ⟨hP1, hK1, hD1⟩ := hB
  rw [ht] at hP1
  have hK1 := va_K.moved hvm.symm hK1
  try dsimp only at hw
  have hPD := va_join (wr := [(qf10, .inl (cf10, 2002, .inl f10)), (qf13, .inl (cf13, 60, .inl f13))]) (w1 := [(h0, .inr (5, [.ref qf0, .int u1_2, .int v2, .int v3, .int v4, .int v5, .int v6, .int v7, .ref qf8, .ref qf9, .ref qf10, .ref qf11, .ref qf12, .ref qf13, .ref qf14, .ref qf15, .ref qf16, .int v17, .ref qf18, .int v19, .int v20])), (qf14, .inl (cf14, 60, .inl g901_1)), (qf16, .inl (cf16, 1800, .inl f16))]) hP hD [0, 1, 2] [3, 4] rfl rfl (by decide) (by decide) hk1 hFc hP1 hD1
  clear hP hD
  obtain ⟨hP, hD⟩ := hPD
  replace hK := (hK.sub (tys' := [(cf10, .int), (cf13, .int)]) [2, 3] rfl).app hK1
  clear hPc hDc hKc hFc hP1 hK1 hD1 hz1 hk1 ht hvm
  generalize H1 = H at hP hS ⊢
  replace hP : va_P (dC, dI) vwCl [(qf10, .inl (cf10, 2002, .inl f10)), (qf13, .inl (cf13, 60, .inl f13)), (h0, .inr (5, [.ref qf0, .int u1_2, .int v2, .int v3, .int v4, .int v5, .int v6, .int v7, .ref qf8, .ref qf9, .ref qf10, .ref qf11, .ref qf12, .ref qf13, .ref qf14, .ref qf15, .ref qf16, .int v17, .ref qf18, .int v19, .int v20])), (qf14, .inl (cf14, 60, .inl g901_1)), (qf16, .inl (cf16, 1800, .inl f16))] H := hP
  replace hD : va_D A [(qf10, .inl (cf10, 2002, .inl f10)), (qf13, .inl (cf13, 60, .inl f13)), (h0, .inr (5, [.ref qf0, .int u1_2, .int v2, .int v3, .int v4, .int v5, .int v6, .int v7, .ref qf8, .ref qf9, .ref qf10, .ref qf11, .ref qf12, .ref qf13, .ref qf14, .ref qf15, .ref qf16, .int v17, .ref qf18, .int v19, .int v20])), (qf14, .inl (cf14, 60, .inl g901_1)), (qf16, .inl (cf16, 1800, .inl f16))] := hD
  replace hK : va_K (dC, dI) vwCl [(cf10, .int), (cf13, .int), (cf14, .int), (cf16, .int)] s := hK
  obtain rfl := hw
  refine lv_istore_n (lv' := [(1, .int u1_0), (0, .ref h0)]) hx hb dX5_stepLength_4 rfl hl (by decide) rfl (fun ls hl => ?_)
  refine lv_aload_n hx hb dX5_stepLength_5 rfl (lv_at hl 1 rfl) ?_
  refine lv_iload_n hx hb dX5_stepLength_6 rfl (lv_at hl 0 rfl) ?_
  obtain ⟨u2_0, hu_2, hsp⟩ := ox_bind hsp
  try dsimp only at hsp
  have hPc := hP.sub (ws' := [(h0, .inr (5, [.ref qf0, .int u1_2, .int v2, .int v3, .int v4, .int v5, .int v6, .int v7, .ref qf8, .ref qf9, .ref qf10, .ref qf11, .ref qf12, .ref qf13, .ref qf14, .ref qf15, .ref qf16, .int v17, .ref qf18, .int v19, .int v20]))]) [2] rfl
  have hDc := hD.sub (ws' := [(h0, .inr (5, [.ref qf0, .int u1_2, .int v2, .int v3, .int v4, .int v5, .int v6, .int v7, .ref qf8, .ref qf9, .ref qf10, .ref qf11, .ref qf12, .ref qf13, .ref qf14, .ref qf15, .ref qf16, .int v17, .ref qf18, .int v19, .int v20]))]) [2] (by decide) rfl
  have hKc := hK.sub (tys' := []) [] rfl
  have hFc := va_free (wc := [(h0, .inr (5, [.ref qf0, .int u1_2, .int v2, .int v3, .int v4, .int v5, .int v6, .int v7, .ref qf8, .ref qf9, .ref qf10, .ref qf11, .ref qf12, .ref qf13, .ref qf14, .ref qf15, .ref qf16, .int v17, .ref qf18, .int v19, .int v20]))]) hD hS hA [2] rfl
  refine va_calli (va_runV (As := [.int u1_0]) (rest := []) ⟨hx, hb, hml, hown, hts⟩ (t5_isObject l dC dI H.size h0 u1_0 qf0 u1_2 v2 v3 v4 v5 v6 v7 qf8 qf9 qf10 qf11 qf12 qf13 qf14 qf15 qf16 v17 qf18 v19 v20 nf u2_0 hu_2) (cwV 1 hts gv_h3_21 rfl rfl rfl (by decide +kernel) ⟨Nat.le_of_ble_eq_true rfl, Nat.le_of_ble_eq_true rfl⟩) ⟨fun a U g mk q => by obtain ⟨q0, q1, qP, qK, qD⟩ := q; exact ⟨q0, q1, qP, va_K.moved (u := U) (U := U.calling g mk a) (Vm.Alike.refl U.vm) qK, qD⟩, va_recv hKc hPc (ci := 5) (q0 := 0) rfl rfl, fun U hU hW => ⟨rfl, by rw [hU], by rw [hU]; exact hPc, va_K.moved hW.alike hKc, hDc.weaken (fun _ _ _ _ => trivial)⟩⟩ rfl rfl hl.1 rfl (lv_room (Nat.le_of_ble_eq_true rfl)) dX5_stepLength_7 ⟨Nat.le_of_ble_eq_true rfl, Nat.le_of_ble_eq_true rfl⟩) hS (fun q _ h => hFc q h) hFc ?_
  clear hS
  intro r_2 u t H1 locs ht hvm hw hB hz1 hk1 hS
  obtain ⟨⟩ := u
  obtain ⟨hP1, hK1, hD1⟩ := hB
  rw [ht] at hP1
  have hK1 := va_K.moved hvm.symm hK1
  try dsimp only at hw
  have hPD := va_join (wr := [(qf10, .inl (cf10, 2002, .inl f10)), (qf13, .inl (cf13, 60, .inl f13)), (qf14, .inl (cf14, 60, .inl g901_1)), (qf16, .inl (cf16, 1800, .inl f16))]) (w1 := [(h0, .inr (5, [.ref qf0, .int u1_2, .int v2, .int v3, .int v4, .int v5, .int v6, .int v7, .ref qf8, .ref qf9, .ref qf10, .ref qf11, .ref qf12, .ref qf13, .ref qf14, .ref qf15, .ref qf16, .int v17, .ref qf18, .int v19, .int v20]))]) hP hD [2] [0, 1, 3, 4] rfl rfl (by decide) (by decide) hk1 hFc hP1 hD1
  clear hP hD
  obtain ⟨hP, hD⟩ := hPD
  replace hK := (hK.sub (tys' := [(cf10, .int), (cf13, .int), (cf14, .int), (cf16, .int)]) [0, 1, 2, 3] rfl).app hK1
  clear hPc hDc hKc hFc hP1 hK1 hD1 hz1 hk1 ht hvm
  generalize H1 = H at hP hS ⊢
  replace hP : va_P (dC, dI) vwCl [(qf10, .inl (cf10, 2002, .inl f10)), (qf13, .inl (cf13, 60, .inl f13)), (qf14, .inl (cf14, 60, .inl g901_1)), (qf16, .inl (cf16, 1800, .inl f16)), (h0, .inr (5, [.ref qf0, .int u1_2, .int v2, .int v3, .int v4, .int v5, .int v6, .int v7, .ref qf8, .ref qf9, .ref qf10, .ref qf11, .ref qf12, .ref qf13, .ref qf14, .ref qf15, .ref qf16, .int v17, .ref qf18, .int v19, .int v20]))] H := hP
  replace hD : va_D A [(qf10, .inl (cf10, 2002, .inl f10)), (qf13, .inl (cf13, 60, .inl f13)), (qf14, .inl (cf14, 60, .inl g901_1)), (qf16, .inl (cf16, 1800, .inl f16)), (h0, .inr (5, [.ref qf0, .int u1_2, .int v2, .int v3, .int v4, .int v5, .int v6, .int v7, .ref qf8, .ref qf9, .ref qf10, .ref qf11, .ref qf12, .ref qf13, .ref qf14, .ref qf15, .ref qf16, .int v17, .ref qf18, .int v19, .int v20]))] := hD
  replace hK : va_K (dC, dI) vwCl [(cf10, .int), (cf13, .int), (cf14, .int), (cf16, .int)] s := hK
  obtain ⟨rfl, hz_2⟩ := hw
  rcases hz_2 with rfl | rfl
  · rw [if_pos rfl] at hsp
    refine lv_if_eq (tgt := 36) hx hb dX5_stepLength_10 (by decide) (fun c_3 => ?_) (fun c_3 => (show False by revert c_3; decide).elim)
    refine lv_aload_n hx hb dX5_stepLength_36 rfl (lv_at hl 1 rfl) ?_
    refine lv_bipush (v := (-2)) hx hb dX5_stepLength_37 (by decide) ?_
    refine va_put (D := (dC, dI)) (ci := 5) (v := .int (-2)) (ty := .int) (C := RX5) (T := TX5) (N := 21) hx hb hts uV_h3_X5 tyX5 tyX5_ok nmX5 hown hK hP hD hS 4 rfl rfl 20 (by decide) (hts (.fieldLink RX5 86 "ClassMill$Machine" "thrown" "I") mw_h3_117) (fun _ h9 => h9) rfl (by decide +kernel) rfl rfl (Nat.le_of_ble_eq_true rfl) dX5_stepLength_39 ?_
    clear hP hD hS
    intro H locs hP hD hS
    replace hP : va_P (dC, dI) vwCl [(qf10, .inl (cf10, 2002, .inl f10)), (qf13, .inl (cf13, 60, .inl f13)), (qf14, .inl (cf14, 60, .inl g901_1)), (qf16, .inl (cf16, 1800, .inl f16)), (h0, .inr (5, [.ref qf0, .int u1_2, .int v2, .int v3, .int v4, .int v5, .int v6, .int v7, .ref qf8, .ref qf9, .ref qf10, .ref qf11, .ref qf12, .ref qf13, .ref qf14, .ref qf15, .ref qf16, .int v17, .ref qf18, .int v19, .int (-2)]))] H := hP
    replace hD : va_D A [(qf10, .inl (cf10, 2002, .inl f10)), (qf13, .inl (cf13, 60, .inl f13)), (qf14, .inl (cf14, 60, .inl g901_1)), (qf16, .inl (cf16, 1800, .inl f16)), (h0, .inr (5, [.ref qf0, .int u1_2, .int v2, .int v3, .int v4, .int v5, .int v6, .int v7, .ref qf8, .ref qf9, .ref qf10, .ref qf11, .ref qf12, .ref qf13, .ref qf14, .ref qf15, .ref qf16, .int v17, .ref qf18, .int v19, .int (-2)]))] := hD
    have hr0 := Option.some.inj hsp
    clear hsp
    obtain ⟨hq0, hr1⟩ := Prod.mk.inj hr0
    clear hr0
    obtain ⟨hq1, hr2⟩ := Prod.mk.inj hr1
    clear hr1
    obtain ⟨hq2, hr3⟩ := Prod.mk.inj hr2
    clear hr2
    obtain ⟨hq3, hr4⟩ := Prod.mk.inj hr3
    clear hr3
    subst hq0
    subst hq1
    subst hq2
    subst hq3
    subst hr4
    have hP9 := hP.sub (ws' := [(h0, .inr (5, [.ref qf0, .int u1_2, .int v2, .int v3, .int v4, .int v5, .int v6, .int v7, .ref qf8, .ref qf9, .ref qf10, .ref qf11, .ref qf12, .ref qf13, .ref qf14, .ref qf15, .ref qf16, .int v17, .ref qf18, .int v19, .int (-2)])), (qf14, .inl (cf14, 60, .inl g901_1)), (qf16, .inl (cf16, 1800, .inl f16)), (qf10, .inl (cf10, 2002, .inl f10)), (qf13, .inl (cf13, 60, .inl f13))]) [4, 2, 3, 0, 1] rfl
    have hD9 := hD.sub (ws' := [(h0, .inr (5, [.ref qf0, .int u1_2, .int v2, .int v3, .int v4, .int v5, .int v6, .int v7, .ref qf8, .ref qf9, .ref qf10, .ref qf11, .ref qf12, .ref qf13, .ref qf14, .ref qf15, .ref qf16, .int v17, .ref qf18, .int v19, .int (-2)])), (qf14, .inl (cf14, 60, .inl g901_1)), (qf16, .inl (cf16, 1800, .inl f16)), (qf10, .inl (cf10, 2002, .inl f10)), (qf13, .inl (cf13, 60, .inl f13))]) [4, 2, 3, 0, 1] (by decide) rfl
    have hK9 := hK.sub (tys' := [(cf14, .int), (cf16, .int), (cf10, .int), (cf13, .int)]) [2, 3, 0, 1] rfl
    exact W.vret hx hb hr (fun t ht hW => ⟨⟨(), rfl, trivial, by rw [ht]; exact hP9, va_K.moved hW.alike hK9, hD9⟩, hS.F ht⟩) hS.2.2 dX5_stepLength_42
  · rw [if_neg (by decide)] at hsp
    refine lv_if_eq (tgt := 36) hx hb dX5_stepLength_10 (by decide) (fun c_4 => (show False by revert c_4; decide).elim) (fun c_4 => ?_)
    refine lv_aload_n hx hb dX5_stepLength_13 rfl (lv_at hl 1 rfl) ?_
    refine lv_aload_n hx hb dX5_stepLength_14 rfl (lv_at hl 1 rfl) ?_
    refine va_get (D := (dC, dI)) (ci := 5) (v := .ref qf10) (C := RX5) (T := TX5) (N := 21) hx hb hts uV_h3_X5 hown hK hP 4 rfl rfl 10 (by decide) (hts (.fieldLink RX5 20 "ClassMill$Machine" "objectAt" "[I") mw_h3_118) (fun _ h9 => h9) rfl dX5_stepLength_15 ?_
    refine lv_iload_n hx hb dX5_stepLength_18 rfl (lv_at hl 0 rfl) ?_
    refine lv_iconst (v := 1) hx hb dX5_stepLength_19 (by decide) ?_
    refine lv_iadd hx hb dX5_stepLength_20 ?_
    obtain ⟨hi_5, hsp⟩ := ox_in hsp
    refine va_iald hx hb hK hP 0 0 rfl rfl (i := (u1_0 + 1)) hi_5 dX5_stepLength_21 ?_
    refine lv_aload_n hx hb dX5_stepLength_22 rfl (lv_at hl 1 rfl) ?_
    refine va_get (D := (dC, dI)) (ci := 5) (v := .ref qf10) (C := RX5) (T := TX5) (N := 21) hx hb hts uV_h3_X5 hown hK hP 4 rfl rfl 10 (by decide) (hts (.fieldLink RX5 20 "ClassMill$Machine" "objectAt" "[I") mw_h3_118) (fun _ h9 => h9) rfl dX5_stepLength_23 ?_
    refine lv_iload_n hx hb dX5_stepLength_26 rfl (lv_at hl 0 rfl) ?_
    obtain ⟨hi_6, hsp⟩ := ox_in hsp
    refine va_iald hx hb hK hP 0 0 rfl rfl (i := u1_0) hi_6 dX5_stepLength_27 ?_
    refine lv_isub hx hb dX5_stepLength_28 ?_
    refine lv_iconst (v := 1) hx hb dX5_stepLength_29 (by decide) ?_
    obtain ⟨⟨g903_0, g903_1, g903_2, u3_3⟩, hu_3, hsp⟩ := ox_bind hsp
    try dsimp only at hsp
    have hPc := hP.sub (ws' := [(h0, .inr (5, [.ref qf0, .int u1_2, .int v2, .int v3, .int v4, .int v5, .int v6, .int v7, .ref qf8, .ref qf9, .ref qf10, .ref qf11, .ref qf12, .ref qf13, .ref qf14, .ref qf15, .ref qf16, .int v17, .ref qf18, .int v19, .int v20])), (qf14, .inl (cf14, 60, .inl g901_1)), (qf16, .inl (cf16, 1800, .inl f16)), (qf13, .inl (cf13, 60, .inl f13))]) [4, 2, 3, 1] rfl
    have hDc := hD.sub (ws' := [(h0, .inr (5, [.ref qf0, .int u1_2, .int v2, .int v3, .int v4, .int v5, .int v6, .int v7, .ref qf8, .ref qf9, .ref qf10, .ref qf11, .ref qf12, .ref qf13, .ref qf14, .ref qf15, .ref qf16, .int v17, .ref qf18, .int v19, .int v20])), (qf14, .inl (cf14, 60, .inl g901_1)), (qf16, .inl (cf16, 1800, .inl f16)), (qf13, .inl (cf13, 60, .inl f13))]) [4, 2, 3, 1] (by decide) rfl
    have hKc := hK.sub (tys' := [(cf14, .int), (cf16, .int), (cf13, .int)]) [2, 3, 1] rfl
    have hFc := va_free (wc := [(h0, .inr (5, [.ref qf0, .int u1_2, .int v2, .int v3, .int v4, .int v5, .int v6, .int v7, .ref qf8, .ref qf9, .ref qf10, .ref qf11, .ref qf12, .ref qf13, .ref qf14, .ref qf15, .ref qf16, .int v17, .ref qf18, .int v19, .int v20])), (qf14, .inl (cf14, 60, .inl g901_1)), (qf16, .inl (cf16, 1800, .inl f16)), (qf13, .inl (cf13, 60, .inl f13))]) hD hS hA [4, 2, 3, 1] rfl
    refine va_callv (va_runV (As := [.int ((f10 ((u1_0 + 1) : Int32).toNatClampNeg) - (f10 (u1_0 : Int32).toNatClampNeg)), .int 1]) (rest := []) ⟨hx, hb, hml, hown, hts⟩ (t5_give l dC dI H.size h0 (((f10 ((u1_0 + 1) : Int32).toNatClampNeg) - (f10 (u1_0 : Int32).toNatClampNeg))) 1 qf0 u1_2 v2 v3 v4 v5 v6 v7 qf8 qf9 qf10 qf11 qf12 qf13 qf14 qf15 qf16 v17 qf18 v19 v20 cf14 g901_1 cf16 f16 cf13 f13 nf g903_0 g903_1 g903_2 u3_3 hu_3) (cwV 2 hts gv_h3_18 rfl rfl rfl (by decide +kernel) ⟨Nat.le_of_ble_eq_true rfl, Nat.le_of_ble_eq_true rfl⟩) ⟨fun a U g mk q => by obtain ⟨q0, q1, qP, qK, qD⟩ := q; exact ⟨q0, q1, qP, va_K.moved (u := U) (U := U.calling g mk a) (Vm.Alike.refl U.vm) qK, qD⟩, va_recv hKc hPc (ci := 5) (q0 := 0) rfl rfl, fun U hU hW => ⟨rfl, by rw [hU], by rw [hU]; exact hPc, va_K.moved hW.alike hKc, hDc.weaken (fun _ _ _ _ => trivial)⟩⟩ rfl rfl hl.1 rfl (lv_room (Nat.le_of_ble_eq_true rfl)) dX5_stepLength_30 ⟨Nat.le_of_ble_eq_true rfl, Nat.le_of_ble_eq_true rfl⟩) hS (fun q _ h => hFc q h) hFc ?_
    clear hS
    intro u t H1 locs ht hvm hw hB hz1 hk1 hS
    obtain ⟨⟩ := u
    obtain ⟨hP1, hK1, hD1⟩ := hB
    rw [ht] at hP1
    have hK1 := va_K.moved hvm.symm hK1
    try dsimp only at hw
    have hPD := va_join (wr := [(qf10, .inl (cf10, 2002, .inl f10))]) (w1 := [(h0, .inr (5, [.ref qf0, .int u3_3, .int v2, .int v3, .int v4, .int v5, .int v6, .int v7, .ref qf8, .ref qf9, .ref qf10, .ref qf11, .ref qf12, .ref qf13, .ref qf14, .ref qf15, .ref qf16, .int v17, .ref qf18, .int v19, .int v20])), (qf14, .inl (cf14, 60, .inl g903_1)), (qf16, .inl (cf16, 1800, .inl g903_2)), (qf13, .inl (cf13, 60, .inl g903_0))]) hP hD [4, 2, 3, 1] [0] rfl rfl (by decide) (by decide) hk1 hFc hP1 hD1
    clear hP hD
    obtain ⟨hP, hD⟩ := hPD
    replace hK := (hK.sub (tys' := [(cf10, .int)]) [0] rfl).app hK1
    clear hPc hDc hKc hFc hP1 hK1 hD1 hz1 hk1 ht hvm
    generalize H1 = H at hP hS ⊢
    replace hP : va_P (dC, dI) vwCl [(qf10, .inl (cf10, 2002, .inl f10)), (h0, .inr (5, [.ref qf0, .int u3_3, .int v2, .int v3, .int v4, .int v5, .int v6, .int v7, .ref qf8, .ref qf9, .ref qf10, .ref qf11, .ref qf12, .ref qf13, .ref qf14, .ref qf15, .ref qf16, .int v17, .ref qf18, .int v19, .int v20])), (qf14, .inl (cf14, 60, .inl g903_1)), (qf16, .inl (cf16, 1800, .inl g903_2)), (qf13, .inl (cf13, 60, .inl g903_0))] H := hP
    replace hD : va_D A [(qf10, .inl (cf10, 2002, .inl f10)), (h0, .inr (5, [.ref qf0, .int u3_3, .int v2, .int v3, .int v4, .int v5, .int v6, .int v7, .ref qf8, .ref qf9, .ref qf10, .ref qf11, .ref qf12, .ref qf13, .ref qf14, .ref qf15, .ref qf16, .int v17, .ref qf18, .int v19, .int v20])), (qf14, .inl (cf14, 60, .inl g903_1)), (qf16, .inl (cf16, 1800, .inl g903_2)), (qf13, .inl (cf13, 60, .inl g903_0))] := hD
    replace hK : va_K (dC, dI) vwCl [(cf10, .int), (cf14, .int), (cf16, .int), (cf13, .int)] s := hK
    refine lv_goto (tgt := 42) hx hb dX5_stepLength_33 (by decide) ?_
    have hr0 := Option.some.inj hsp
    clear hsp
    obtain ⟨hq0, hr1⟩ := Prod.mk.inj hr0
    clear hr0
    obtain ⟨hq1, hr2⟩ := Prod.mk.inj hr1
    clear hr1
    obtain ⟨hq2, hr3⟩ := Prod.mk.inj hr2
    clear hr2
    obtain ⟨hq3, hr4⟩ := Prod.mk.inj hr3
    clear hr3
    subst hq0
    subst hq1
    subst hq2
    subst hq3
    subst hr4
    have hP9 := hP.sub (ws' := [(h0, .inr (5, [.ref qf0, .int u3_3, .int v2, .int v3, .int v4, .int v5, .int v6, .int v7, .ref qf8, .ref qf9, .ref qf10, .ref qf11, .ref qf12, .ref qf13, .ref qf14, .ref qf15, .ref qf16, .int v17, .ref qf18, .int v19, .int v20])), (qf14, .inl (cf14, 60, .inl g903_1)), (qf16, .inl (cf16, 1800, .inl g903_2)), (qf10, .inl (cf10, 2002, .inl f10)), (qf13, .inl (cf13, 60, .inl g903_0))]) [1, 2, 3, 0, 4] rfl
    have hD9 := hD.sub (ws' := [(h0, .inr (5, [.ref qf0, .int u3_3, .int v2, .int v3, .int v4, .int v5, .int v6, .int v7, .ref qf8, .ref qf9, .ref qf10, .ref qf11, .ref qf12, .ref qf13, .ref qf14, .ref qf15, .ref qf16, .int v17, .ref qf18, .int v19, .int v20])), (qf14, .inl (cf14, 60, .inl g903_1)), (qf16, .inl (cf16, 1800, .inl g903_2)), (qf10, .inl (cf10, 2002, .inl f10)), (qf13, .inl (cf13, 60, .inl g903_0))]) [1, 2, 3, 0, 4] (by decide) rfl
    have hK9 := hK.sub (tys' := [(cf14, .int), (cf16, .int), (cf10, .int), (cf13, .int)]) [1, 2, 0, 3] rfl
    exact W.vret hx hb hr (fun t ht hW => ⟨⟨(), rfl, trivial, by rw [ht]; exact hP9, va_K.moved hW.alike hK9, hD9⟩, hS.F ht⟩) hS.2.2 dX5_stepLength_42
def sp_t5_stepKin (nf : Nat) (a1 : Int32) (a2 : Int32) (v1 : Int32) (v4 : Int32) (v17 : Int32) (v20 : Int32) (f14 : Nat → Int32) (f16 : Nat → Int32) (f13 : Nat → Int32) (f9 : Nat → Int32) (f0_0_1 : Nat → Int32) : Option ((Nat → Int32) × (Nat → Int32) × (Nat → Int32) × Int32 × Int32) := ((sp_t5_pop nf v1 v17 f14 f16).bind (fun p1 => ((sp_t5_isObject nf p1.1 v4).bind (fun p2 => (if p2 = 0 then (if a1 = 193 then ((sp_t5_give nf 0 2 p1.2.2 v17 p1.2.1 f16 f13).bind (fun p4 => (some (p4.1, p4.2.1, p4.2.2.1, p4.2.2.2, v20)))) else (if p1.1 = 0 then ((sp_t5_give nf p1.1 2 p1.2.2 v17 p1.2.1 f16 f13).bind (fun p3 => (some (p3.1, p3.2.1, p3.2.2.1, p3.2.2.2, v20)))) else (some (f13, p1.2.1, f16, p1.2.2, (-5))))) else (if p1.1 < 0 then none else if 2001 ≤ (p1.1 : Int32).toNatClampNeg then none else ((sp_t4_fits nf (f9 (p1.1 : Int32).toNatClampNeg) a2 f0_0_1).bind (fun p5 => (if p5 = 0 then (if a1 = 193 then ((sp_t5_give nf 0 2 p1.2.2 v17 p1.2.1 f16 f13).bind (fun p7 => (some (p7.1, p7.2.1, p7.2.2.1, p7.2.2.2, v20)))) else (if p1.1 = 0 then ((sp_t5_give nf p1.1 2 p1.2.2 v17 p1.2.1 f16 f13).bind (fun p6 => (some (p6.1, p6.2.1, p6.2.2.1, p6.2.2.2, v20)))) else (some (f13, p1.2.1, f16, p1.2.2, (-5))))) else (if a1 = 193 then ((sp_t5_give nf 1 2 p1.2.2 v17 p1.2.1 f16 f13).bind (fun p10 => (some (p10.1, p10.2.1, p10.2.2.1, p10.2.2.2, v20)))) else (if p1.1 = 0 then ((sp_t5_give nf p1.1 2 p1.2.2 v17 p1.2.1 f16 f13).bind (fun p8 => (some (p8.1, p8.2.1, p8.2.2.1, p8.2.2.2, v20)))) else ((sp_t5_give nf p1.1 2 p1.2.2 v17 p1.2.1 f16 f13).bind (fun p9 => (some (p9.1, p9.2.1, p9.2.2.1, p9.2.2.2, v20)))))))))))))))
set_option maxHeartbeats 4000000 in
set_option maxRecDepth 100000 in
/-- ClassMill$Machine.stepKin -/
theorem t5_stepKin (l : Launch) (dC : Nat → ClassId) (dI : Nat → Nat → Nat) (sz : Nat) (h0 : Nat) (a1 : Int32) (a2 : Int32) (qf0 : Nat) (v1 : Int32) (v2 : Int32) (v3 : Int32) (v4 : Int32) (v5 : Int32) (v6 : Int32) (v7 : Int32) (qf8 : Nat) (qf9 : Nat) (qf10 : Nat) (qf11 : Nat) (qf12 : Nat) (qf13 : Nat) (qf14 : Nat) (qf15 : Nat) (qf16 : Nat) (v17 : Int32) (qf18 : Nat) (v19 : Int32) (v20 : Int32) (cf14 : ClassId) (f14 : (Nat → Int32)) (cf16 : ClassId) (f16 : (Nat → Int32)) (cf13 : ClassId) (f13 : (Nat → Int32)) (qf0_0 : Nat) (qf0_1 : Nat) (qf0_2 : Nat) (v0_3 : Int32) (v0_4 : Int32) (qf0_5 : Nat) (qf0_6 : Nat) (qf0_7 : Nat) (cf9 : ClassId) (f9 : (Nat → Int32)) (qf0_0_0 : Nat) (qf0_0_1 : Nat) (cf0_0_1 : ClassId) (f0_0_1 : (Nat → Int32)) (nf : Nat) (o13 : (Nat → Int32)) (o14 : (Nat → Int32)) (o16 : (Nat → Int32)) (w1 : Int32) (w20 : Int32) (hsp : sp_t5_stepKin nf a1 a2 v1 v4 v17 v20 f14 f16 f13 f9 f0_0_1 = some (o13, o14, o16, w1, w20)) : Met l yX5_stepKin (.code yX5_stepKin cX5_stepKin 5 none :: VS_h3) ({ frames := 2, cells := 0, slots := 0, locals := 44 }) (va_Pc [.ref h0, .int a1, .int a2] (fun U => U.heap.size = sz ∧ va_P (dC, dI) vwCl [(h0, .inr (5, [.ref qf0, .int v1, .int v2, .int v3, .int v4, .int v5, .int v6, .int v7, .ref qf8, .ref qf9, .ref qf10, .ref qf11, .ref qf12, .ref qf13, .ref qf14, .ref qf15, .ref qf16, .int v17, .ref qf18, .int v19, .int v20])), (qf14, .inl (cf14, 60, .inl f14)), (qf16, .inl (cf16, 1800, .inl f16)), (qf13, .inl (cf13, 60, .inl f13)), (qf0, .inr (7, [.ref qf0_0, .ref qf0_1, .ref qf0_2, .int v0_3, .int v0_4, .ref qf0_5, .ref qf0_6, .ref qf0_7])), (qf9, .inl (cf9, 2001, .inl f9)), (qf0_0, .inr (4, [.ref qf0_0_0, .ref qf0_0_1])), (qf0_0_1, .inl (cf0_0_1, 256, .inl f0_0_1))] U.heap ∧ va_K (dC, dI) vwCl [(cf14, .int), (cf16, .int), (cf13, .int), (cf9, .int), (cf0_0_1, .boolean)] U ∧ va_D (fun _ => True) [(h0, .inr (5, [.ref qf0, .int v1, .int v2, .int v3, .int v4, .int v5, .int v6, .int v7, .ref qf8, .ref qf9, .ref qf10, .ref qf11, .ref qf12, .ref qf13, .ref qf14, .ref qf15, .ref qf16, .int v17, .ref qf18, .int v19, .int v20])), (qf14, .inl (cf14, 60, .inl f14)), (qf16, .inl (cf16, 1800, .inl f16)), (qf13, .inl (cf13, 60, .inl f13)), (qf0, .inr (7, [.ref qf0_0, .ref qf0_1, .ref qf0_2, .int v0_3, .int v0_4, .ref qf0_5, .ref qf0_6, .ref qf0_7])), (qf9, .inl (cf9, 2001, .inl f9)), (qf0_0, .inr (4, [.ref qf0_0_0, .ref qf0_0_1])), (qf0_0_1, .inl (cf0_0_1, 256, .inl f0_0_1))])) (va_Qv (fun (u : Unit) => match u with | () => True) (fun (u : Unit) (t : State) => match u with | () => va_P (dC, dI) vwCl [(h0, .inr (5, [.ref qf0, .int w1, .int v2, .int v3, .int v4, .int v5, .int v6, .int v7, .ref qf8, .ref qf9, .ref qf10, .ref qf11, .ref qf12, .ref qf13, .ref qf14, .ref qf15, .ref qf16, .int v17, .ref qf18, .int v19, .int w20])), (qf14, .inl (cf14, 60, .inl o14)), (qf16, .inl (cf16, 1800, .inl o16)), (qf13, .inl (cf13, 60, .inl o13)), (qf0, .inr (7, [.ref qf0_0, .ref qf0_1, .ref qf0_2, .int v0_3, .int v0_4, .ref qf0_5, .ref qf0_6, .ref qf0_7])), (qf9, .inl (cf9, 2001, .inl f9)), (qf0_0, .inr (4, [.ref qf0_0_0, .ref qf0_0_1])), (qf0_0_1, .inl (cf0_0_1, 256, .inl f0_0_1))] t.heap ∧ va_K (dC, dI) vwCl [(cf14, .int), (cf16, .int), (cf13, .int), (cf9, .int), (cf0_0_1, .boolean)] t ∧ va_D (va_A [(h0, .inr (5, [.ref qf0, .int v1, .int v2, .int v3, .int v4, .int v5, .int v6, .int v7, .ref qf8, .ref qf9, .ref qf10, .ref qf11, .ref qf12, .ref qf13, .ref qf14, .ref qf15, .ref qf16, .int v17, .ref qf18, .int v19, .int v20])), (qf14, .inl (cf14, 60, .inl f14)), (qf16, .inl (cf16, 1800, .inl f16)), (qf13, .inl (cf13, 60, .inl f13)), (qf0, .inr (7, [.ref qf0_0, .ref qf0_1, .ref qf0_2, .int v0_3, .int v0_4, .ref qf0_5, .ref qf0_6, .ref qf0_7])), (qf9, .inl (cf9, 2001, .inl f9)), (qf0_0, .inr (4, [.ref qf0_0_0, .ref qf0_0_1])), (qf0_0_1, .inl (cf0_0_1, 256, .inl f0_0_1))] sz) [(h0, .inr (5, [.ref qf0, .int w1, .int v2, .int v3, .int v4, .int v5, .int v6, .int v7, .ref qf8, .ref qf9, .ref qf10, .ref qf11, .ref qf12, .ref qf13, .ref qf14, .ref qf15, .ref qf16, .int v17, .ref qf18, .int v19, .int w20])), (qf14, .inl (cf14, 60, .inl o14)), (qf16, .inl (cf16, 1800, .inl o16)), (qf13, .inl (cf13, 60, .inl o13)), (qf0, .inr (7, [.ref qf0_0, .ref qf0_1, .ref qf0_2, .int v0_3, .int v0_4, .ref qf0_5, .ref qf0_6, .ref qf0_7])), (qf9, .inl (cf9, 2001, .inl f9)), (qf0_0, .inr (4, [.ref qf0_0_0, .ref qf0_0_1])), (qf0_0_1, .inl (cf0_0_1, 256, .inl f0_0_1))]) (va_A [(h0, .inr (5, [.ref qf0, .int v1, .int v2, .int v3, .int v4, .int v5, .int v6, .int v7, .ref qf8, .ref qf9, .ref qf10, .ref qf11, .ref qf12, .ref qf13, .ref qf14, .ref qf15, .ref qf16, .int v17, .ref qf18, .int v19, .int v20])), (qf14, .inl (cf14, 60, .inl f14)), (qf16, .inl (cf16, 1800, .inl f16)), (qf13, .inl (cf13, 60, .inl f13)), (qf0, .inr (7, [.ref qf0_0, .ref qf0_1, .ref qf0_2, .int v0_3, .int v0_4, .ref qf0_5, .ref qf0_6, .ref qf0_7])), (qf9, .inl (cf9, 2001, .inl f9)), (qf0_0, .inr (4, [.ref qf0_0_0, .ref qf0_0_1])), (qf0_0_1, .inl (cf0_0_1, 256, .inl f0_0_1))] sz)) 0 0 (va_A [(h0, .inr (5, [.ref qf0, .int v1, .int v2, .int v3, .int v4, .int v5, .int v6, .int v7, .ref qf8, .ref qf9, .ref qf10, .ref qf11, .ref qf12, .ref qf13, .ref qf14, .ref qf15, .ref qf16, .int v17, .ref qf18, .int v19, .int v20])), (qf14, .inl (cf14, 60, .inl f14)), (qf16, .inl (cf16, 1800, .inl f16)), (qf13, .inl (cf13, 60, .inl f13)), (qf0, .inr (7, [.ref qf0_0, .ref qf0_1, .ref qf0_2, .int v0_3, .int v0_4, .ref qf0_5, .ref qf0_6, .ref qf0_7])), (qf9, .inl (cf9, 2001, .inl f9)), (qf0_0, .inr (4, [.ref qf0_0_0, .ref qf0_0_1])), (qf0_0_1, .inl (cf0_0_1, 256, .inl f0_0_1))] sz) := by
  refine Met.ofW (cc := cX5_stepKin) (maxL := 5) (ret := none) (by decide) rfl ?_
  intro p e s m args below meth c s₁ B hml hv
  obtain ⟨rfl, hsz, hP, hK, hD0⟩ := hv
  have hx := B.exec
  have hb := B.bytes
  have hr := B.returns
  have hts := atoms_spec (ws := (.code yX5_stepKin cX5_stepKin 5 none :: VS_h3)) B.pre
  replace hts := fun w (h : w ∈ VS_h3) => hts w (List.mem_cons_of_mem _ h)
  have hown : s.vm.findClass RX5 = some m.cls := findClass_of_methodNamed B.named
  have hlocks := B.notSynchronized
  subst hsz
  have hD := hD0.self (sz := s.heap.size)
  generalize hAe : va_A [(h0, .inr (5, [.ref qf0, .int v1, .int v2, .int v3, .int v4, .int v5, .int v6, .int v7, .ref qf8, .ref qf9, .ref qf10, .ref qf11, .ref qf12, .ref qf13, .ref qf14, .ref qf15, .ref qf16, .int v17, .ref qf18, .int v19, .int v20])), (qf14, .inl (cf14, 60, .inl f14)), (qf16, .inl (cf16, 1800, .inl f16)), (qf13, .inl (cf13, 60, .inl f13)), (qf0, .inr (7, [.ref qf0_0, .ref qf0_1, .ref qf0_2, .int v0_3, .int v0_4, .ref qf0_5, .ref qf0_6, .ref qf0_7])), (qf9, .inl (cf9, 2001, .inl f9)), (qf0_0, .inr (4, [.ref qf0_0_0, .ref qf0_0_1])), (qf0_0_1, .inl (cf0_0_1, 256, .inl f0_0_1))] s.heap.size = A at hD  ⊢
  have hA : ∀ q : Nat, s.heap.size ≤ q → A q := fun q h => by rw [← hAe]; exact Or.inr h
  have hP : va_P (dC, dI) vwCl [(h0, .inr (5, [.ref qf0, .int v1, .int v2, .int v3, .int v4, .int v5, .int v6, .int v7, .ref qf8, .ref qf9, .ref qf10, .ref qf11, .ref qf12, .ref qf13, .ref qf14, .ref qf15, .ref qf16, .int v17, .ref qf18, .int v19, .int v20])), (qf14, .inl (cf14, 60, .inl f14)), (qf16, .inl (cf16, 1800, .inl f16)), (qf13, .inl (cf13, 60, .inl f13)), (qf0, .inr (7, [.ref qf0_0, .ref qf0_1, .ref qf0_2, .int v0_3, .int v0_4, .ref qf0_5, .ref qf0_6, .ref qf0_7])), (qf9, .inl (cf9, 2001, .inl f9)), (qf0_0, .inr (4, [.ref qf0_0_0, .ref qf0_0_1])), (qf0_0_1, .inl (cf0_0_1, 256, .inl f0_0_1))] s.heap := hP
  have hl := lv_entry ([.ref h0, .int a1, .int a2]) (n := 5) (Nat.le_of_ble_eq_true rfl)
  rw [lg_entry_eq]
  generalize (lg_sl ([.ref h0, .int a1, .int a2]) ++ List.replicate (5 - (lg_sl ([.ref h0, .int a1, .int a2])).length) Slot.unset).toArray = ls at hl ⊢
  have hl : lv_has ls 5 [(0, .ref h0), (1, .int a1), (2, .int a2)] := hl
  obtain ⟨H, hH⟩ : ∃ H : Heap, s.heap = H := ⟨_, rfl⟩
  rw [hH] at hP ⊢
  have hS : va_S A s.heap H [] := by rw [← hH]; exact va_S.rf
  obtain ⟨locs, hlo⟩ : ∃ locs : List Loc, locs = [] := ⟨_, rfl⟩
  rw [← hlo] at hS ⊢
  unfold sp_t5_stepKin at hsp
  refine lv_aload_n hx hb dX5_stepKin_0 rfl (lv_at hl 0 rfl) ?_
  obtain ⟨⟨u1_0, g901_1, u1_2⟩, hu_1, hsp⟩ := ox_bind hsp
  try dsimp only at hsp
  have hPc := hP.sub (ws' := [(h0, .inr (5, [.ref qf0, .int v1, .int v2, .int v3, .int v4, .int v5, .int v6, .int v7, .ref qf8, .ref qf9, .ref qf10, .ref qf11, .ref qf12, .ref qf13, .ref qf14, .ref qf15, .ref qf16, .int v17, .ref qf18, .int v19, .int v20])), (qf14, .inl (cf14, 60, .inl f14)), (qf16, .inl (cf16, 1800, .inl f16))]) [0, 1, 2] rfl
  have hDc := hD.sub (ws' := [(h0, .inr (5, [.ref qf0, .int v1, .int v2, .int v3, .int v4, .int v5, .int v6, .int v7, .ref qf8, .ref qf9, .ref qf10, .ref qf11, .ref qf12, .ref qf13, .ref qf14, .ref qf15, .ref qf16, .int v17, .ref qf18, .int v19, .int v20])), (qf14, .inl (cf14, 60, .inl f14)), (qf16, .inl (cf16, 1800, .inl f16))]) [0, 1, 2] (by decide) rfl
  have hKc := hK.sub (tys' := [(cf14, .int), (cf16, .int)]) [0, 1] rfl
  have hFc := va_free (wc := [(h0, .inr (5, [.ref qf0, .int v1, .int v2, .int v3, .int v4, .int v5, .int v6, .int v7, .ref qf8, .ref qf9, .ref qf10, .ref qf11, .ref qf12, .ref qf13, .ref qf14, .ref qf15, .ref qf16, .int v17, .ref qf18, .int v19, .int v20])), (qf14, .inl (cf14, 60, .inl f14)), (qf16, .inl (cf16, 1800, .inl f16))]) hD hS hA [0, 1, 2] rfl
  refine va_calli (va_runV (As := []) (rest := []) ⟨hx, hb, hml, hown, hts⟩ (t5_pop l dC dI H.size h0 qf0 v1 v2 v3 v4 v5 v6 v7 qf8 qf9 qf10 qf11 qf12 qf13 qf14 qf15 qf16 v17 qf18 v19 v20 cf14 f14 cf16 f16 nf u1_0 g901_1 u1_2 hu_1) (cwV 0 hts gv_h3_19 rfl rfl rfl (by decide +kernel) ⟨Nat.le_of_ble_eq_true rfl, Nat.le_of_ble_eq_true rfl⟩) ⟨fun a U g mk q => by obtain ⟨q0, q1, qP, qK, qD⟩ := q; exact ⟨q0, q1, qP, va_K.moved (u := U) (U := U.calling g mk a) (Vm.Alike.refl U.vm) qK, qD⟩, va_recv hKc hPc (ci := 5) (q0 := 0) rfl rfl, fun U hU hW => ⟨rfl, by rw [hU], by rw [hU]; exact hPc, va_K.moved hW.alike hKc, hDc.weaken (fun _ _ _ _ => trivial)⟩⟩ rfl rfl hl.1 rfl (lv_room (Nat.le_of_ble_eq_true rfl)) dX5_stepKin_1 ⟨Nat.le_of_ble_eq_true rfl, Nat.le_of_ble_eq_true rfl⟩) hS (fun q _ h => hFc q h) hFc ?_
  clear hS
  intro r_1 u t H1 locs ht hvm hw hB hz1 hk1 hS
  obtain ⟨⟩ := u
  obtain ⟨hP1, hK1, hD1⟩ := hB
  rw [ht] at hP1
  have hK1 := va_K.moved hvm.symm hK1
  try dsimp only at hw
  have hPD := va_join (wr := [(qf13, .inl (cf13, 60, .inl f13)), (qf0, .inr (7, [.ref qf0_0, .ref qf0_1, .ref qf0_2, .int v0_3, .int v0_4, .ref qf0_5, .ref qf0_6, .ref qf0_7])), (qf9, .inl (cf9, 2001, .inl f9)), (qf0_0, .inr (4, [.ref qf0_0_0, .ref qf0_0_1])), (qf0_0_1, .inl (cf0_0_1, 256, .inl f0_0_1))]) (w1 := [(h0, .inr (5, [.ref qf0, .int u1_2, .int v2, .int v3, .int v4, .int v5, .int v6, .int v7, .ref qf8, .ref qf9, .ref qf10, .ref qf11, .ref qf12, .ref qf13, .ref qf14, .ref qf15, .ref qf16, .int v17, .ref qf18, .int v19, .int v20])), (qf14, .inl (cf14, 60, .inl g901_1)), (qf16, .inl (cf16, 1800, .inl f16))]) hP hD [0, 1, 2] [3, 4, 5, 6, 7] rfl rfl (by decide) (by decide) hk1 hFc hP1 hD1
  clear hP hD
  obtain ⟨hP, hD⟩ := hPD
  replace hK := (hK.sub (tys' := [(cf13, .int), (cf9, .int), (cf0_0_1, .boolean)]) [2, 3, 4] rfl).app hK1
  clear hPc hDc hKc hFc hP1 hK1 hD1 hz1 hk1 ht hvm
  generalize H1 = H at hP hS ⊢
  replace hP : va_P (dC, dI) vwCl [(qf13, .inl (cf13, 60, .inl f13)), (qf0, .inr (7, [.ref qf0_0, .ref qf0_1, .ref qf0_2, .int v0_3, .int v0_4, .ref qf0_5, .ref qf0_6, .ref qf0_7])), (qf9, .inl (cf9, 2001, .inl f9)), (qf0_0, .inr (4, [.ref qf0_0_0, .ref qf0_0_1])), (qf0_0_1, .inl (cf0_0_1, 256, .inl f0_0_1)), (h0, .inr (5, [.ref qf0, .int u1_2, .int v2, .int v3, .int v4, .int v5, .int v6, .int v7, .ref qf8, .ref qf9, .ref qf10, .ref qf11, .ref qf12, .ref qf13, .ref qf14, .ref qf15, .ref qf16, .int v17, .ref qf18, .int v19, .int v20])), (qf14, .inl (cf14, 60, .inl g901_1)), (qf16, .inl (cf16, 1800, .inl f16))] H := hP
  replace hD : va_D A [(qf13, .inl (cf13, 60, .inl f13)), (qf0, .inr (7, [.ref qf0_0, .ref qf0_1, .ref qf0_2, .int v0_3, .int v0_4, .ref qf0_5, .ref qf0_6, .ref qf0_7])), (qf9, .inl (cf9, 2001, .inl f9)), (qf0_0, .inr (4, [.ref qf0_0_0, .ref qf0_0_1])), (qf0_0_1, .inl (cf0_0_1, 256, .inl f0_0_1)), (h0, .inr (5, [.ref qf0, .int u1_2, .int v2, .int v3, .int v4, .int v5, .int v6, .int v7, .ref qf8, .ref qf9, .ref qf10, .ref qf11, .ref qf12, .ref qf13, .ref qf14, .ref qf15, .ref qf16, .int v17, .ref qf18, .int v19, .int v20])), (qf14, .inl (cf14, 60, .inl g901_1)), (qf16, .inl (cf16, 1800, .inl f16))] := hD
  replace hK : va_K (dC, dI) vwCl [(cf13, .int), (cf9, .int), (cf0_0_1, .boolean), (cf14, .int), (cf16, .int)] s := hK
  obtain rfl := hw
  refine lv_istore_n (lv' := [(3, .int u1_0), (0, .ref h0), (1, .int a1), (2, .int a2)]) hx hb dX5_stepKin_4 rfl hl (by decide) rfl (fun ls hl => ?_)
  refine lv_aload_n hx hb dX5_stepKin_5 rfl (lv_at hl 1 rfl) ?_
  refine lv_iload_n hx hb dX5_stepKin_6 rfl (lv_at hl 0 rfl) ?_
  obtain ⟨u2_0, hu_2, hsp⟩ := ox_bind hsp
  try dsimp only at hsp
  have hPc := hP.sub (ws' := [(h0, .inr (5, [.ref qf0, .int u1_2, .int v2, .int v3, .int v4, .int v5, .int v6, .int v7, .ref qf8, .ref qf9, .ref qf10, .ref qf11, .ref qf12, .ref qf13, .ref qf14, .ref qf15, .ref qf16, .int v17, .ref qf18, .int v19, .int v20]))]) [5] rfl
  have hDc := hD.sub (ws' := [(h0, .inr (5, [.ref qf0, .int u1_2, .int v2, .int v3, .int v4, .int v5, .int v6, .int v7, .ref qf8, .ref qf9, .ref qf10, .ref qf11, .ref qf12, .ref qf13, .ref qf14, .ref qf15, .ref qf16, .int v17, .ref qf18, .int v19, .int v20]))]) [5] (by decide) rfl
  have hKc := hK.sub (tys' := []) [] rfl
  have hFc := va_free (wc := [(h0, .inr (5, [.ref qf0, .int u1_2, .int v2, .int v3, .int v4, .int v5, .int v6, .int v7, .ref qf8, .ref qf9, .ref qf10, .ref qf11, .ref qf12, .ref qf13, .ref qf14, .ref qf15, .ref qf16, .int v17, .ref qf18, .int v19, .int v20]))]) hD hS hA [5] rfl
  refine va_calli (va_runV (As := [.int u1_0]) (rest := []) ⟨hx, hb, hml, hown, hts⟩ (t5_isObject l dC dI H.size h0 u1_0 qf0 u1_2 v2 v3 v4 v5 v6 v7 qf8 qf9 qf10 qf11 qf12 qf13 qf14 qf15 qf16 v17 qf18 v19 v20 nf u2_0 hu_2) (cwV 1 hts gv_h3_21 rfl rfl rfl (by decide +kernel) ⟨Nat.le_of_ble_eq_true rfl, Nat.le_of_ble_eq_true rfl⟩) ⟨fun a U g mk q => by obtain ⟨q0, q1, qP, qK, qD⟩ := q; exact ⟨q0, q1, qP, va_K.moved (u := U) (U := U.calling g mk a) (Vm.Alike.refl U.vm) qK, qD⟩, va_recv hKc hPc (ci := 5) (q0 := 0) rfl rfl, fun U hU hW => ⟨rfl, by rw [hU], by rw [hU]; exact hPc, va_K.moved hW.alike hKc, hDc.weaken (fun _ _ _ _ => trivial)⟩⟩ rfl rfl hl.1 rfl (lv_room (Nat.le_of_ble_eq_true rfl)) dX5_stepKin_7 ⟨Nat.le_of_ble_eq_true rfl, Nat.le_of_ble_eq_true rfl⟩) hS (fun q _ h => hFc q h) hFc ?_
  clear hS
  intro r_2 u t H1 locs ht hvm hw hB hz1 hk1 hS
  obtain ⟨⟩ := u
  obtain ⟨hP1, hK1, hD1⟩ := hB
  rw [ht] at hP1
  have hK1 := va_K.moved hvm.symm hK1
  try dsimp only at hw
  have hPD := va_join (wr := [(qf13, .inl (cf13, 60, .inl f13)), (qf0, .inr (7, [.ref qf0_0, .ref qf0_1, .ref qf0_2, .int v0_3, .int v0_4, .ref qf0_5, .ref qf0_6, .ref qf0_7])), (qf9, .inl (cf9, 2001, .inl f9)), (qf0_0, .inr (4, [.ref qf0_0_0, .ref qf0_0_1])), (qf0_0_1, .inl (cf0_0_1, 256, .inl f0_0_1)), (qf14, .inl (cf14, 60, .inl g901_1)), (qf16, .inl (cf16, 1800, .inl f16))]) (w1 := [(h0, .inr (5, [.ref qf0, .int u1_2, .int v2, .int v3, .int v4, .int v5, .int v6, .int v7, .ref qf8, .ref qf9, .ref qf10, .ref qf11, .ref qf12, .ref qf13, .ref qf14, .ref qf15, .ref qf16, .int v17, .ref qf18, .int v19, .int v20]))]) hP hD [5] [0, 1, 2, 3, 4, 6, 7] rfl rfl (by decide) (by decide) hk1 hFc hP1 hD1
  clear hP hD
  obtain ⟨hP, hD⟩ := hPD
  replace hK := (hK.sub (tys' := [(cf13, .int), (cf9, .int), (cf0_0_1, .boolean), (cf14, .int), (cf16, .int)]) [0, 1, 2, 3, 4] rfl).app hK1
  clear hPc hDc hKc hFc hP1 hK1 hD1 hz1 hk1 ht hvm
  generalize H1 = H at hP hS ⊢
  replace hP : va_P (dC, dI) vwCl [(qf13, .inl (cf13, 60, .inl f13)), (qf0, .inr (7, [.ref qf0_0, .ref qf0_1, .ref qf0_2, .int v0_3, .int v0_4, .ref qf0_5, .ref qf0_6, .ref qf0_7])), (qf9, .inl (cf9, 2001, .inl f9)), (qf0_0, .inr (4, [.ref qf0_0_0, .ref qf0_0_1])), (qf0_0_1, .inl (cf0_0_1, 256, .inl f0_0_1)), (qf14, .inl (cf14, 60, .inl g901_1)), (qf16, .inl (cf16, 1800, .inl f16)), (h0, .inr (5, [.ref qf0, .int u1_2, .int v2, .int v3, .int v4, .int v5, .int v6, .int v7, .ref qf8, .ref qf9, .ref qf10, .ref qf11, .ref qf12, .ref qf13, .ref qf14, .ref qf15, .ref qf16, .int v17, .ref qf18, .int v19, .int v20]))] H := hP
  replace hD : va_D A [(qf13, .inl (cf13, 60, .inl f13)), (qf0, .inr (7, [.ref qf0_0, .ref qf0_1, .ref qf0_2, .int v0_3, .int v0_4, .ref qf0_5, .ref qf0_6, .ref qf0_7])), (qf9, .inl (cf9, 2001, .inl f9)), (qf0_0, .inr (4, [.ref qf0_0_0, .ref qf0_0_1])), (qf0_0_1, .inl (cf0_0_1, 256, .inl f0_0_1)), (qf14, .inl (cf14, 60, .inl g901_1)), (qf16, .inl (cf16, 1800, .inl f16)), (h0, .inr (5, [.ref qf0, .int u1_2, .int v2, .int v3, .int v4, .int v5, .int v6, .int v7, .ref qf8, .ref qf9, .ref qf10, .ref qf11, .ref qf12, .ref qf13, .ref qf14, .ref qf15, .ref qf16, .int v17, .ref qf18, .int v19, .int v20]))] := hD
  replace hK : va_K (dC, dI) vwCl [(cf13, .int), (cf9, .int), (cf0_0_1, .boolean), (cf14, .int), (cf16, .int)] s := hK
  obtain ⟨rfl, hz_2⟩ := hw
  rcases hz_2 with rfl | rfl
  · rw [if_pos rfl] at hsp
    refine lv_if_eq (tgt := 37) hx hb dX5_stepKin_10 (by decide) (fun c_3 => ?_) (fun c_3 => (show False by revert c_3; decide).elim)
    refine lv_iconst (v := 0) hx hb dX5_stepKin_37 (by decide) ?_
    refine lv_istore (lv' := [(4, .int 0), (3, .int u1_0), (0, .ref h0), (1, .int a1), (2, .int a2)]) hx hb dX5_stepKin_38 hl (by decide) rfl (fun ls hl => ?_)
    refine lv_iload_n hx hb dX5_stepKin_40 rfl (lv_at hl 3 rfl) ?_
    refine lv_sipush (v := 193) hx hb dX5_stepKin_41 (by decide) ?_
    refine lv_icmp_ne (tgt := 65) hx hb dX5_stepKin_44 (by decide) (fun c_4 => ?_) (fun c_4 => ?_)
    · rw [if_neg c_4] at hsp
      refine lv_iload_n hx hb dX5_stepKin_65 rfl (lv_at hl 1 rfl) ?_
      refine lv_if_eq (tgt := 74) hx hb dX5_stepKin_66 (by decide) (fun c_5 => ?_) (fun c_5 => ?_)
      · rw [if_pos c_5] at hsp
        refine lv_aload_n hx hb dX5_stepKin_74 rfl (lv_at hl 2 rfl) ?_
        refine lv_iload_n hx hb dX5_stepKin_75 rfl (lv_at hl 1 rfl) ?_
        refine lv_iconst (v := 2) hx hb dX5_stepKin_76 (by decide) ?_
        obtain ⟨⟨g903_0, g903_1, g903_2, u3_3⟩, hu_3, hsp⟩ := ox_bind hsp
        try dsimp only at hsp
        have hPc := hP.sub (ws' := [(h0, .inr (5, [.ref qf0, .int u1_2, .int v2, .int v3, .int v4, .int v5, .int v6, .int v7, .ref qf8, .ref qf9, .ref qf10, .ref qf11, .ref qf12, .ref qf13, .ref qf14, .ref qf15, .ref qf16, .int v17, .ref qf18, .int v19, .int v20])), (qf14, .inl (cf14, 60, .inl g901_1)), (qf16, .inl (cf16, 1800, .inl f16)), (qf13, .inl (cf13, 60, .inl f13))]) [7, 5, 6, 0] rfl
        have hDc := hD.sub (ws' := [(h0, .inr (5, [.ref qf0, .int u1_2, .int v2, .int v3, .int v4, .int v5, .int v6, .int v7, .ref qf8, .ref qf9, .ref qf10, .ref qf11, .ref qf12, .ref qf13, .ref qf14, .ref qf15, .ref qf16, .int v17, .ref qf18, .int v19, .int v20])), (qf14, .inl (cf14, 60, .inl g901_1)), (qf16, .inl (cf16, 1800, .inl f16)), (qf13, .inl (cf13, 60, .inl f13))]) [7, 5, 6, 0] (by decide) rfl
        have hKc := hK.sub (tys' := [(cf14, .int), (cf16, .int), (cf13, .int)]) [3, 4, 0] rfl
        have hFc := va_free (wc := [(h0, .inr (5, [.ref qf0, .int u1_2, .int v2, .int v3, .int v4, .int v5, .int v6, .int v7, .ref qf8, .ref qf9, .ref qf10, .ref qf11, .ref qf12, .ref qf13, .ref qf14, .ref qf15, .ref qf16, .int v17, .ref qf18, .int v19, .int v20])), (qf14, .inl (cf14, 60, .inl g901_1)), (qf16, .inl (cf16, 1800, .inl f16)), (qf13, .inl (cf13, 60, .inl f13))]) hD hS hA [7, 5, 6, 0] rfl
        refine va_callv (va_runV (As := [.int u1_0, .int 2]) (rest := []) ⟨hx, hb, hml, hown, hts⟩ (t5_give l dC dI H.size h0 u1_0 2 qf0 u1_2 v2 v3 v4 v5 v6 v7 qf8 qf9 qf10 qf11 qf12 qf13 qf14 qf15 qf16 v17 qf18 v19 v20 cf14 g901_1 cf16 f16 cf13 f13 nf g903_0 g903_1 g903_2 u3_3 hu_3) (cwV 2 hts gv_h3_18 rfl rfl rfl (by decide +kernel) ⟨Nat.le_of_ble_eq_true rfl, Nat.le_of_ble_eq_true rfl⟩) ⟨fun a U g mk q => by obtain ⟨q0, q1, qP, qK, qD⟩ := q; exact ⟨q0, q1, qP, va_K.moved (u := U) (U := U.calling g mk a) (Vm.Alike.refl U.vm) qK, qD⟩, va_recv hKc hPc (ci := 5) (q0 := 0) rfl rfl, fun U hU hW => ⟨rfl, by rw [hU], by rw [hU]; exact hPc, va_K.moved hW.alike hKc, hDc.weaken (fun _ _ _ _ => trivial)⟩⟩ rfl rfl hl.1 rfl (lv_room (Nat.le_of_ble_eq_true rfl)) dX5_stepKin_77 ⟨Nat.le_of_ble_eq_true rfl, Nat.le_of_ble_eq_true rfl⟩) hS (fun q _ h => hFc q h) hFc ?_
        clear hS
        intro u t H1 locs ht hvm hw hB hz1 hk1 hS
        obtain ⟨⟩ := u
        obtain ⟨hP1, hK1, hD1⟩ := hB
        rw [ht] at hP1
        have hK1 := va_K.moved hvm.symm hK1
        try dsimp only at hw
        have hPD := va_join (wr := [(qf0, .inr (7, [.ref qf0_0, .ref qf0_1, .ref qf0_2, .int v0_3, .int v0_4, .ref qf0_5, .ref qf0_6, .ref qf0_7])), (qf9, .inl (cf9, 2001, .inl f9)), (qf0_0, .inr (4, [.ref qf0_0_0, .ref qf0_0_1])), (qf0_0_1, .inl (cf0_0_1, 256, .inl f0_0_1))]) (w1 := [(h0, .inr (5, [.ref qf0, .int u3_3, .int v2, .int v3, .int v4, .int v5, .int v6, .int v7, .ref qf8, .ref qf9, .ref qf10, .ref qf11, .ref qf12, .ref qf13, .ref qf14, .ref qf15, .ref qf16, .int v17, .ref qf18, .int v19, .int v20])), (qf14, .inl (cf14, 60, .inl g903_1)), (qf16, .inl (cf16, 1800, .inl g903_2)), (qf13, .inl (cf13, 60, .inl g903_0))]) hP hD [7, 5, 6, 0] [1, 2, 3, 4] rfl rfl (by decide) (by decide) hk1 hFc hP1 hD1
        clear hP hD
        obtain ⟨hP, hD⟩ := hPD
        replace hK := (hK.sub (tys' := [(cf9, .int), (cf0_0_1, .boolean)]) [1, 2] rfl).app hK1
        clear hPc hDc hKc hFc hP1 hK1 hD1 hz1 hk1 ht hvm
        generalize H1 = H at hP hS ⊢
        replace hP : va_P (dC, dI) vwCl [(qf0, .inr (7, [.ref qf0_0, .ref qf0_1, .ref qf0_2, .int v0_3, .int v0_4, .ref qf0_5, .ref qf0_6, .ref qf0_7])), (qf9, .inl (cf9, 2001, .inl f9)), (qf0_0, .inr (4, [.ref qf0_0_0, .ref qf0_0_1])), (qf0_0_1, .inl (cf0_0_1, 256, .inl f0_0_1)), (h0, .inr (5, [.ref qf0, .int u3_3, .int v2, .int v3, .int v4, .int v5, .int v6, .int v7, .ref qf8, .ref qf9, .ref qf10, .ref qf11, .ref qf12, .ref qf13, .ref qf14, .ref qf15, .ref qf16, .int v17, .ref qf18, .int v19, .int v20])), (qf14, .inl (cf14, 60, .inl g903_1)), (qf16, .inl (cf16, 1800, .inl g903_2)), (qf13, .inl (cf13, 60, .inl g903_0))] H := hP
        replace hD : va_D A [(qf0, .inr (7, [.ref qf0_0, .ref qf0_1, .ref qf0_2, .int v0_3, .int v0_4, .ref qf0_5, .ref qf0_6, .ref qf0_7])), (qf9, .inl (cf9, 2001, .inl f9)), (qf0_0, .inr (4, [.ref qf0_0_0, .ref qf0_0_1])), (qf0_0_1, .inl (cf0_0_1, 256, .inl f0_0_1)), (h0, .inr (5, [.ref qf0, .int u3_3, .int v2, .int v3, .int v4, .int v5, .int v6, .int v7, .ref qf8, .ref qf9, .ref qf10, .ref qf11, .ref qf12, .ref qf13, .ref qf14, .ref qf15, .ref qf16, .int v17, .ref qf18, .int v19, .int v20])), (qf14, .inl (cf14, 60, .inl g903_1)), (qf16, .inl (cf16, 1800, .inl g903_2)), (qf13, .inl (cf13, 60, .inl g903_0))] := hD
        replace hK : va_K (dC, dI) vwCl [(cf9, .int), (cf0_0_1, .boolean), (cf14, .int), (cf16, .int), (cf13, .int)] s := hK
        refine lv_goto (tgt := 89) hx hb dX5_stepKin_80 (by decide) ?_
        have hr0 := Option.some.inj hsp
        clear hsp
        obtain ⟨hq0, hr1⟩ := Prod.mk.inj hr0
        clear hr0
        obtain ⟨hq1, hr2⟩ := Prod.mk.inj hr1
        clear hr1
        obtain ⟨hq2, hr3⟩ := Prod.mk.inj hr2
        clear hr2
        obtain ⟨hq3, hr4⟩ := Prod.mk.inj hr3
        clear hr3
        subst hq0
        subst hq1
        subst hq2
        subst hq3
        subst hr4
        have hP9 := hP.sub (ws' := [(h0, .inr (5, [.ref qf0, .int u3_3, .int v2, .int v3, .int v4, .int v5, .int v6, .int v7, .ref qf8, .ref qf9, .ref qf10, .ref qf11, .ref qf12, .ref qf13, .ref qf14, .ref qf15, .ref qf16, .int v17, .ref qf18, .int v19, .int v20])), (qf14, .inl (cf14, 60, .inl g903_1)), (qf16, .inl (cf16, 1800, .inl g903_2)), (qf13, .inl (cf13, 60, .inl g903_0)), (qf0, .inr (7, [.ref qf0_0, .ref qf0_1, .ref qf0_2, .int v0_3, .int v0_4, .ref qf0_5, .ref qf0_6, .ref qf0_7])), (qf9, .inl (cf9, 2001, .inl f9)), (qf0_0, .inr (4, [.ref qf0_0_0, .ref qf0_0_1])), (qf0_0_1, .inl (cf0_0_1, 256, .inl f0_0_1))]) [4, 5, 6, 7, 0, 1, 2, 3] rfl
        have hD9 := hD.sub (ws' := [(h0, .inr (5, [.ref qf0, .int u3_3, .int v2, .int v3, .int v4, .int v5, .int v6, .int v7, .ref qf8, .ref qf9, .ref qf10, .ref qf11, .ref qf12, .ref qf13, .ref qf14, .ref qf15, .ref qf16, .int v17, .ref qf18, .int v19, .int v20])), (qf14, .inl (cf14, 60, .inl g903_1)), (qf16, .inl (cf16, 1800, .inl g903_2)), (qf13, .inl (cf13, 60, .inl g903_0)), (qf0, .inr (7, [.ref qf0_0, .ref qf0_1, .ref qf0_2, .int v0_3, .int v0_4, .ref qf0_5, .ref qf0_6, .ref qf0_7])), (qf9, .inl (cf9, 2001, .inl f9)), (qf0_0, .inr (4, [.ref qf0_0_0, .ref qf0_0_1])), (qf0_0_1, .inl (cf0_0_1, 256, .inl f0_0_1))]) [4, 5, 6, 7, 0, 1, 2, 3] (by decide) rfl
        have hK9 := hK.sub (tys' := [(cf14, .int), (cf16, .int), (cf13, .int), (cf9, .int), (cf0_0_1, .boolean)]) [2, 3, 4, 0, 1] rfl
        exact W.vret hx hb hr (fun t ht hW => ⟨⟨(), rfl, trivial, by rw [ht]; exact hP9, va_K.moved hW.alike hK9, hD9⟩, hS.F ht⟩) hS.2.2 dX5_stepKin_89
      · rw [if_neg c_5] at hsp
        refine lv_iload hx hb dX5_stepKin_69 (lv_at hl 0 rfl) ?_
        refine lv_if_eq (tgt := 83) hx hb dX5_stepKin_71 (by decide) (fun c_6 => ?_) (fun c_6 => (show False by revert c_6; decide).elim)
        refine lv_aload_n hx hb dX5_stepKin_83 rfl (lv_at hl 2 rfl) ?_
        refine lv_bipush (v := (-5)) hx hb dX5_stepKin_84 (by decide) ?_
        refine va_put (D := (dC, dI)) (ci := 5) (v := .int (-5)) (ty := .int) (C := RX5) (T := TX5) (N := 21) hx hb hts uV_h3_X5 tyX5 tyX5_ok nmX5 hown hK hP hD hS 7 rfl rfl 20 (by decide) (hts (.fieldLink RX5 86 "ClassMill$Machine" "thrown" "I") mw_h3_117) (fun _ h9 => h9) rfl (by decide +kernel) rfl rfl (Nat.le_of_ble_eq_true rfl) dX5_stepKin_86 ?_
        clear hP hD hS
        intro H locs hP hD hS
        replace hP : va_P (dC, dI) vwCl [(qf13, .inl (cf13, 60, .inl f13)), (qf0, .inr (7, [.ref qf0_0, .ref qf0_1, .ref qf0_2, .int v0_3, .int v0_4, .ref qf0_5, .ref qf0_6, .ref qf0_7])), (qf9, .inl (cf9, 2001, .inl f9)), (qf0_0, .inr (4, [.ref qf0_0_0, .ref qf0_0_1])), (qf0_0_1, .inl (cf0_0_1, 256, .inl f0_0_1)), (qf14, .inl (cf14, 60, .inl g901_1)), (qf16, .inl (cf16, 1800, .inl f16)), (h0, .inr (5, [.ref qf0, .int u1_2, .int v2, .int v3, .int v4, .int v5, .int v6, .int v7, .ref qf8, .ref qf9, .ref qf10, .ref qf11, .ref qf12, .ref qf13, .ref qf14, .ref qf15, .ref qf16, .int v17, .ref qf18, .int v19, .int (-5)]))] H := hP
        replace hD : va_D A [(qf13, .inl (cf13, 60, .inl f13)), (qf0, .inr (7, [.ref qf0_0, .ref qf0_1, .ref qf0_2, .int v0_3, .int v0_4, .ref qf0_5, .ref qf0_6, .ref qf0_7])), (qf9, .inl (cf9, 2001, .inl f9)), (qf0_0, .inr (4, [.ref qf0_0_0, .ref qf0_0_1])), (qf0_0_1, .inl (cf0_0_1, 256, .inl f0_0_1)), (qf14, .inl (cf14, 60, .inl g901_1)), (qf16, .inl (cf16, 1800, .inl f16)), (h0, .inr (5, [.ref qf0, .int u1_2, .int v2, .int v3, .int v4, .int v5, .int v6, .int v7, .ref qf8, .ref qf9, .ref qf10, .ref qf11, .ref qf12, .ref qf13, .ref qf14, .ref qf15, .ref qf16, .int v17, .ref qf18, .int v19, .int (-5)]))] := hD
        have hr0 := Option.some.inj hsp
        clear hsp
        obtain ⟨hq0, hr1⟩ := Prod.mk.inj hr0
        clear hr0
        obtain ⟨hq1, hr2⟩ := Prod.mk.inj hr1
        clear hr1
        obtain ⟨hq2, hr3⟩ := Prod.mk.inj hr2
        clear hr2
        obtain ⟨hq3, hr4⟩ := Prod.mk.inj hr3
        clear hr3
        subst hq0
        subst hq1
        subst hq2
        subst hq3
        subst hr4
        have hP9 := hP.sub (ws' := [(h0, .inr (5, [.ref qf0, .int u1_2, .int v2, .int v3, .int v4, .int v5, .int v6, .int v7, .ref qf8, .ref qf9, .ref qf10, .ref qf11, .ref qf12, .ref qf13, .ref qf14, .ref qf15, .ref qf16, .int v17, .ref qf18, .int v19, .int (-5)])), (qf14, .inl (cf14, 60, .inl g901_1)), (qf16, .inl (cf16, 1800, .inl f16)), (qf13, .inl (cf13, 60, .inl f13)), (qf0, .inr (7, [.ref qf0_0, .ref qf0_1, .ref qf0_2, .int v0_3, .int v0_4, .ref qf0_5, .ref qf0_6, .ref qf0_7])), (qf9, .inl (cf9, 2001, .inl f9)), (qf0_0, .inr (4, [.ref qf0_0_0, .ref qf0_0_1])), (qf0_0_1, .inl (cf0_0_1, 256, .inl f0_0_1))]) [7, 5, 6, 0, 1, 2, 3, 4] rfl
        have hD9 := hD.sub (ws' := [(h0, .inr (5, [.ref qf0, .int u1_2, .int v2, .int v3, .int v4, .int v5, .int v6, .int v7, .ref qf8, .ref qf9, .ref qf10, .ref qf11, .ref qf12, .ref qf13, .ref qf14, .ref qf15, .ref qf16, .int v17, .ref qf18, .int v19, .int (-5)])), (qf14, .inl (cf14, 60, .inl g901_1)), (qf16, .inl (cf16, 1800, .inl f16)), (qf13, .inl (cf13, 60, .inl f13)), (qf0, .inr (7, [.ref qf0_0, .ref qf0_1, .ref qf0_2, .int v0_3, .int v0_4, .ref qf0_5, .ref qf0_6, .ref qf0_7])), (qf9, .inl (cf9, 2001, .inl f9)), (qf0_0, .inr (4, [.ref qf0_0_0, .ref qf0_0_1])), (qf0_0_1, .inl (cf0_0_1, 256, .inl f0_0_1))]) [7, 5, 6, 0, 1, 2, 3, 4] (by decide) rfl
        have hK9 := hK.sub (tys' := [(cf14, .int), (cf16, .int), (cf13, .int), (cf9, .int), (cf0_0_1, .boolean)]) [3, 4, 0, 1, 2] rfl
        exact W.vret hx hb hr (fun t ht hW => ⟨⟨(), rfl, trivial, by rw [ht]; exact hP9, va_K.moved hW.alike hK9, hD9⟩, hS.F ht⟩) hS.2.2 dX5_stepKin_89
    · rw [if_pos c_4] at hsp
      refine lv_aload_n hx hb dX5_stepKin_47 rfl (lv_at hl 2 rfl) ?_
      refine lv_iload hx hb dX5_stepKin_48 (lv_at hl 0 rfl) ?_
      refine lv_if_eq (tgt := 57) hx hb dX5_stepKin_50 (by decide) (fun c_7 => ?_) (fun c_7 => (show False by revert c_7; decide).elim)
      refine lv_iconst (v := 0) hx hb dX5_stepKin_57 (by decide) ?_
      refine lv_iconst (v := 2) hx hb dX5_stepKin_58 (by decide) ?_
      obtain ⟨⟨g904_0, g904_1, g904_2, u4_3⟩, hu_4, hsp⟩ := ox_bind hsp
      try dsimp only at hsp
      have hPc := hP.sub (ws' := [(h0, .inr (5, [.ref qf0, .int u1_2, .int v2, .int v3, .int v4, .int v5, .int v6, .int v7, .ref qf8, .ref qf9, .ref qf10, .ref qf11, .ref qf12, .ref qf13, .ref qf14, .ref qf15, .ref qf16, .int v17, .ref qf18, .int v19, .int v20])), (qf14, .inl (cf14, 60, .inl g901_1)), (qf16, .inl (cf16, 1800, .inl f16)), (qf13, .inl (cf13, 60, .inl f13))]) [7, 5, 6, 0] rfl
      have hDc := hD.sub (ws' := [(h0, .inr (5, [.ref qf0, .int u1_2, .int v2, .int v3, .int v4, .int v5, .int v6, .int v7, .ref qf8, .ref qf9, .ref qf10, .ref qf11, .ref qf12, .ref qf13, .ref qf14, .ref qf15, .ref qf16, .int v17, .ref qf18, .int v19, .int v20])), (qf14, .inl (cf14, 60, .inl g901_1)), (qf16, .inl (cf16, 1800, .inl f16)), (qf13, .inl (cf13, 60, .inl f13))]) [7, 5, 6, 0] (by decide) rfl
      have hKc := hK.sub (tys' := [(cf14, .int), (cf16, .int), (cf13, .int)]) [3, 4, 0] rfl
      have hFc := va_free (wc := [(h0, .inr (5, [.ref qf0, .int u1_2, .int v2, .int v3, .int v4, .int v5, .int v6, .int v7, .ref qf8, .ref qf9, .ref qf10, .ref qf11, .ref qf12, .ref qf13, .ref qf14, .ref qf15, .ref qf16, .int v17, .ref qf18, .int v19, .int v20])), (qf14, .inl (cf14, 60, .inl g901_1)), (qf16, .inl (cf16, 1800, .inl f16)), (qf13, .inl (cf13, 60, .inl f13))]) hD hS hA [7, 5, 6, 0] rfl
      refine va_callv (va_runV (As := [.int 0, .int 2]) (rest := []) ⟨hx, hb, hml, hown, hts⟩ (t5_give l dC dI H.size h0 0 2 qf0 u1_2 v2 v3 v4 v5 v6 v7 qf8 qf9 qf10 qf11 qf12 qf13 qf14 qf15 qf16 v17 qf18 v19 v20 cf14 g901_1 cf16 f16 cf13 f13 nf g904_0 g904_1 g904_2 u4_3 hu_4) (cwV 2 hts gv_h3_18 rfl rfl rfl (by decide +kernel) ⟨Nat.le_of_ble_eq_true rfl, Nat.le_of_ble_eq_true rfl⟩) ⟨fun a U g mk q => by obtain ⟨q0, q1, qP, qK, qD⟩ := q; exact ⟨q0, q1, qP, va_K.moved (u := U) (U := U.calling g mk a) (Vm.Alike.refl U.vm) qK, qD⟩, va_recv hKc hPc (ci := 5) (q0 := 0) rfl rfl, fun U hU hW => ⟨rfl, by rw [hU], by rw [hU]; exact hPc, va_K.moved hW.alike hKc, hDc.weaken (fun _ _ _ _ => trivial)⟩⟩ rfl rfl hl.1 rfl (lv_room (Nat.le_of_ble_eq_true rfl)) dX5_stepKin_59 ⟨Nat.le_of_ble_eq_true rfl, Nat.le_of_ble_eq_true rfl⟩) hS (fun q _ h => hFc q h) hFc ?_
      clear hS
      intro u t H1 locs ht hvm hw hB hz1 hk1 hS
      obtain ⟨⟩ := u
      obtain ⟨hP1, hK1, hD1⟩ := hB
      rw [ht] at hP1
      have hK1 := va_K.moved hvm.symm hK1
      try dsimp only at hw
      have hPD := va_join (wr := [(qf0, .inr (7, [.ref qf0_0, .ref qf0_1, .ref qf0_2, .int v0_3, .int v0_4, .ref qf0_5, .ref qf0_6, .ref qf0_7])), (qf9, .inl (cf9, 2001, .inl f9)), (qf0_0, .inr (4, [.ref qf0_0_0, .ref qf0_0_1])), (qf0_0_1, .inl (cf0_0_1, 256, .inl f0_0_1))]) (w1 := [(h0, .inr (5, [.ref qf0, .int u4_3, .int v2, .int v3, .int v4, .int v5, .int v6, .int v7, .ref qf8, .ref qf9, .ref qf10, .ref qf11, .ref qf12, .ref qf13, .ref qf14, .ref qf15, .ref qf16, .int v17, .ref qf18, .int v19, .int v20])), (qf14, .inl (cf14, 60, .inl g904_1)), (qf16, .inl (cf16, 1800, .inl g904_2)), (qf13, .inl (cf13, 60, .inl g904_0))]) hP hD [7, 5, 6, 0] [1, 2, 3, 4] rfl rfl (by decide) (by decide) hk1 hFc hP1 hD1
      clear hP hD
      obtain ⟨hP, hD⟩ := hPD
      replace hK := (hK.sub (tys' := [(cf9, .int), (cf0_0_1, .boolean)]) [1, 2] rfl).app hK1
      clear hPc hDc hKc hFc hP1 hK1 hD1 hz1 hk1 ht hvm
      generalize H1 = H at hP hS ⊢
      replace hP : va_P (dC, dI) vwCl [(qf0, .inr (7, [.ref qf0_0, .ref qf0_1, .ref qf0_2, .int v0_3, .int v0_4, .ref qf0_5, .ref qf0_6, .ref qf0_7])), (qf9, .inl (cf9, 2001, .inl f9)), (qf0_0, .inr (4, [.ref qf0_0_0, .ref qf0_0_1])), (qf0_0_1, .inl (cf0_0_1, 256, .inl f0_0_1)), (h0, .inr (5, [.ref qf0, .int u4_3, .int v2, .int v3, .int v4, .int v5, .int v6, .int v7, .ref qf8, .ref qf9, .ref qf10, .ref qf11, .ref qf12, .ref qf13, .ref qf14, .ref qf15, .ref qf16, .int v17, .ref qf18, .int v19, .int v20])), (qf14, .inl (cf14, 60, .inl g904_1)), (qf16, .inl (cf16, 1800, .inl g904_2)), (qf13, .inl (cf13, 60, .inl g904_0))] H := hP
      replace hD : va_D A [(qf0, .inr (7, [.ref qf0_0, .ref qf0_1, .ref qf0_2, .int v0_3, .int v0_4, .ref qf0_5, .ref qf0_6, .ref qf0_7])), (qf9, .inl (cf9, 2001, .inl f9)), (qf0_0, .inr (4, [.ref qf0_0_0, .ref qf0_0_1])), (qf0_0_1, .inl (cf0_0_1, 256, .inl f0_0_1)), (h0, .inr (5, [.ref qf0, .int u4_3, .int v2, .int v3, .int v4, .int v5, .int v6, .int v7, .ref qf8, .ref qf9, .ref qf10, .ref qf11, .ref qf12, .ref qf13, .ref qf14, .ref qf15, .ref qf16, .int v17, .ref qf18, .int v19, .int v20])), (qf14, .inl (cf14, 60, .inl g904_1)), (qf16, .inl (cf16, 1800, .inl g904_2)), (qf13, .inl (cf13, 60, .inl g904_0))] := hD
      replace hK : va_K (dC, dI) vwCl [(cf9, .int), (cf0_0_1, .boolean), (cf14, .int), (cf16, .int), (cf13, .int)] s := hK
      refine lv_goto (tgt := 89) hx hb dX5_stepKin_62 (by decide) ?_
      have hr0 := Option.some.inj hsp
      clear hsp
      obtain ⟨hq0, hr1⟩ := Prod.mk.inj hr0
      clear hr0
      obtain ⟨hq1, hr2⟩ := Prod.mk.inj hr1
      clear hr1
      obtain ⟨hq2, hr3⟩ := Prod.mk.inj hr2
      clear hr2
      obtain ⟨hq3, hr4⟩ := Prod.mk.inj hr3
      clear hr3
      subst hq0
      subst hq1
      subst hq2
      subst hq3
      subst hr4
      have hP9 := hP.sub (ws' := [(h0, .inr (5, [.ref qf0, .int u4_3, .int v2, .int v3, .int v4, .int v5, .int v6, .int v7, .ref qf8, .ref qf9, .ref qf10, .ref qf11, .ref qf12, .ref qf13, .ref qf14, .ref qf15, .ref qf16, .int v17, .ref qf18, .int v19, .int v20])), (qf14, .inl (cf14, 60, .inl g904_1)), (qf16, .inl (cf16, 1800, .inl g904_2)), (qf13, .inl (cf13, 60, .inl g904_0)), (qf0, .inr (7, [.ref qf0_0, .ref qf0_1, .ref qf0_2, .int v0_3, .int v0_4, .ref qf0_5, .ref qf0_6, .ref qf0_7])), (qf9, .inl (cf9, 2001, .inl f9)), (qf0_0, .inr (4, [.ref qf0_0_0, .ref qf0_0_1])), (qf0_0_1, .inl (cf0_0_1, 256, .inl f0_0_1))]) [4, 5, 6, 7, 0, 1, 2, 3] rfl
      have hD9 := hD.sub (ws' := [(h0, .inr (5, [.ref qf0, .int u4_3, .int v2, .int v3, .int v4, .int v5, .int v6, .int v7, .ref qf8, .ref qf9, .ref qf10, .ref qf11, .ref qf12, .ref qf13, .ref qf14, .ref qf15, .ref qf16, .int v17, .ref qf18, .int v19, .int v20])), (qf14, .inl (cf14, 60, .inl g904_1)), (qf16, .inl (cf16, 1800, .inl g904_2)), (qf13, .inl (cf13, 60, .inl g904_0)), (qf0, .inr (7, [.ref qf0_0, .ref qf0_1, .ref qf0_2, .int v0_3, .int v0_4, .ref qf0_5, .ref qf0_6, .ref qf0_7])), (qf9, .inl (cf9, 2001, .inl f9)), (qf0_0, .inr (4, [.ref qf0_0_0, .ref qf0_0_1])), (qf0_0_1, .inl (cf0_0_1, 256, .inl f0_0_1))]) [4, 5, 6, 7, 0, 1, 2, 3] (by decide) rfl
      have hK9 := hK.sub (tys' := [(cf14, .int), (cf16, .int), (cf13, .int), (cf9, .int), (cf0_0_1, .boolean)]) [2, 3, 4, 0, 1] rfl
      exact W.vret hx hb hr (fun t ht hW => ⟨⟨(), rfl, trivial, by rw [ht]; exact hP9, va_K.moved hW.alike hK9, hD9⟩, hS.F ht⟩) hS.2.2 dX5_stepKin_89
  · rw [if_neg (by decide)] at hsp
    refine lv_if_eq (tgt := 37) hx hb dX5_stepKin_10 (by decide) (fun c_8 => (show False by revert c_8; decide).elim) (fun c_8 => ?_)
    refine lv_aload_n hx hb dX5_stepKin_13 rfl (lv_at hl 1 rfl) ?_
    refine va_get (D := (dC, dI)) (ci := 5) (v := .ref qf0) (C := RX5) (T := TX5) (N := 21) hx hb hts uV_h3_X5 hown hK hP 7 rfl rfl 0 (by decide) (hts (.fieldLink RX5 41 "ClassMill$Machine" "space" "LClassMill$Space;") mw_h3_128) (fun _ h9 => h9) rfl dX5_stepKin_14 ?_
    refine va_get (D := (dC, dI)) (ci := 7) (v := .ref qf0_0) (C := RX7) (T := TX7) (N := 8) hx hb hts uV_h3_X7 hown hK hP 1 rfl rfl 0 (by decide) (hts (.fieldLink RX5 232 "ClassMill$Space" "kin" "LClassMill$Kin;") mw_h3_129) (fun _ h9 => h9) rfl dX5_stepKin_17 ?_
    refine lv_aload_n hx hb dX5_stepKin_20 rfl (lv_at hl 1 rfl) ?_
    refine va_get (D := (dC, dI)) (ci := 5) (v := .ref qf9) (C := RX5) (T := TX5) (N := 21) hx hb hts uV_h3_X5 hown hK hP 7 rfl rfl 9 (by decide) (hts (.fieldLink RX5 17 "ClassMill$Machine" "objectType" "[I") mw_h3_130) (fun _ h9 => h9) rfl dX5_stepKin_21 ?_
    refine lv_iload_n hx hb dX5_stepKin_24 rfl (lv_at hl 0 rfl) ?_
    obtain ⟨hi_9, hsp⟩ := ox_in hsp
    refine va_iald hx hb hK hP 2 1 rfl rfl (i := u1_0) hi_9 dX5_stepKin_25 ?_
    refine lv_iload_n hx hb dX5_stepKin_26 rfl (lv_at hl 3 rfl) ?_
    obtain ⟨u5_0, hu_5, hsp⟩ := ox_bind hsp
    try dsimp only at hsp
    have hPc := hP.sub (ws' := [(qf0_0, .inr (4, [.ref qf0_0_0, .ref qf0_0_1])), (qf0_0_1, .inl (cf0_0_1, 256, .inl f0_0_1))]) [3, 4] rfl
    have hDc := hD.sub (ws' := [(qf0_0, .inr (4, [.ref qf0_0_0, .ref qf0_0_1])), (qf0_0_1, .inl (cf0_0_1, 256, .inl f0_0_1))]) [3, 4] (by decide) rfl
    have hKc := hK.sub (tys' := [(cf0_0_1, .boolean)]) [2] rfl
    have hFc := va_free (wc := [(qf0_0, .inr (4, [.ref qf0_0_0, .ref qf0_0_1])), (qf0_0_1, .inl (cf0_0_1, 256, .inl f0_0_1))]) hD hS hA [3, 4] rfl
    refine va_calli (va_runV (As := [.int (f9 (u1_0 : Int32).toNatClampNeg), .int a2]) (rest := []) ⟨hx, hb, hml, hown, hts⟩ (t4_fits l dC dI H.size qf0_0 ((f9 (u1_0 : Int32).toNatClampNeg)) a2 qf0_0_0 qf0_0_1 cf0_0_1 f0_0_1 nf u5_0 hu_5) (cwV 2 hts gv_h3_24 rfl rfl rfl (by decide +kernel) ⟨Nat.le_of_ble_eq_true rfl, Nat.le_of_ble_eq_true rfl⟩) ⟨fun a U g mk q => by obtain ⟨q0, q1, qP, qK, qD⟩ := q; exact ⟨q0, q1, qP, va_K.moved (u := U) (U := U.calling g mk a) (Vm.Alike.refl U.vm) qK, qD⟩, va_recv hKc hPc (ci := 4) (q0 := 0) rfl rfl, fun U hU hW => ⟨rfl, by rw [hU], by rw [hU]; exact hPc, va_K.moved hW.alike hKc, hDc.weaken (fun _ _ _ _ => trivial)⟩⟩ rfl rfl hl.1 rfl (lv_room (Nat.le_of_ble_eq_true rfl)) dX5_stepKin_27 ⟨Nat.le_of_ble_eq_true rfl, Nat.le_of_ble_eq_true rfl⟩) hS (fun q _ h => hFc q h) hFc ?_
    clear hS
    intro r_10 u t H1 locs ht hvm hw hB hz1 hk1 hS
    obtain ⟨⟩ := u
    obtain ⟨hP1, hK1, hD1⟩ := hB
    rw [ht] at hP1
    have hK1 := va_K.moved hvm.symm hK1
    try dsimp only at hw
    have hPD := va_join (wr := [(qf13, .inl (cf13, 60, .inl f13)), (qf0, .inr (7, [.ref qf0_0, .ref qf0_1, .ref qf0_2, .int v0_3, .int v0_4, .ref qf0_5, .ref qf0_6, .ref qf0_7])), (qf9, .inl (cf9, 2001, .inl f9)), (qf14, .inl (cf14, 60, .inl g901_1)), (qf16, .inl (cf16, 1800, .inl f16)), (h0, .inr (5, [.ref qf0, .int u1_2, .int v2, .int v3, .int v4, .int v5, .int v6, .int v7, .ref qf8, .ref qf9, .ref qf10, .ref qf11, .ref qf12, .ref qf13, .ref qf14, .ref qf15, .ref qf16, .int v17, .ref qf18, .int v19, .int v20]))]) (w1 := [(qf0_0, .inr (4, [.ref qf0_0_0, .ref qf0_0_1])), (qf0_0_1, .inl (cf0_0_1, 256, .inl f0_0_1))]) hP hD [3, 4] [0, 1, 2, 5, 6, 7] rfl rfl (by decide) (by decide) hk1 hFc hP1 hD1
    clear hP hD
    obtain ⟨hP, hD⟩ := hPD
    replace hK := (hK.sub (tys' := [(cf13, .int), (cf9, .int), (cf14, .int), (cf16, .int)]) [0, 1, 3, 4] rfl).app hK1
    clear hPc hDc hKc hFc hP1 hK1 hD1 hz1 hk1 ht hvm
    generalize H1 = H at hP hS ⊢
    replace hP : va_P (dC, dI) vwCl [(qf13, .inl (cf13, 60, .inl f13)), (qf0, .inr (7, [.ref qf0_0, .ref qf0_1, .ref qf0_2, .int v0_3, .int v0_4, .ref qf0_5, .ref qf0_6, .ref qf0_7])), (qf9, .inl (cf9, 2001, .inl f9)), (qf14, .inl (cf14, 60, .inl g901_1)), (qf16, .inl (cf16, 1800, .inl f16)), (h0, .inr (5, [.ref qf0, .int u1_2, .int v2, .int v3, .int v4, .int v5, .int v6, .int v7, .ref qf8, .ref qf9, .ref qf10, .ref qf11, .ref qf12, .ref qf13, .ref qf14, .ref qf15, .ref qf16, .int v17, .ref qf18, .int v19, .int v20])), (qf0_0, .inr (4, [.ref qf0_0_0, .ref qf0_0_1])), (qf0_0_1, .inl (cf0_0_1, 256, .inl f0_0_1))] H := hP
    replace hD : va_D A [(qf13, .inl (cf13, 60, .inl f13)), (qf0, .inr (7, [.ref qf0_0, .ref qf0_1, .ref qf0_2, .int v0_3, .int v0_4, .ref qf0_5, .ref qf0_6, .ref qf0_7])), (qf9, .inl (cf9, 2001, .inl f9)), (qf14, .inl (cf14, 60, .inl g901_1)), (qf16, .inl (cf16, 1800, .inl f16)), (h0, .inr (5, [.ref qf0, .int u1_2, .int v2, .int v3, .int v4, .int v5, .int v6, .int v7, .ref qf8, .ref qf9, .ref qf10, .ref qf11, .ref qf12, .ref qf13, .ref qf14, .ref qf15, .ref qf16, .int v17, .ref qf18, .int v19, .int v20])), (qf0_0, .inr (4, [.ref qf0_0_0, .ref qf0_0_1])), (qf0_0_1, .inl (cf0_0_1, 256, .inl f0_0_1))] := hD
    replace hK : va_K (dC, dI) vwCl [(cf13, .int), (cf9, .int), (cf14, .int), (cf16, .int), (cf0_0_1, .boolean)] s := hK
    obtain ⟨rfl, hz_5⟩ := hw
    rcases hz_5 with rfl | rfl
    · rw [if_pos rfl] at hsp
      refine lv_if_eq (tgt := 37) hx hb dX5_stepKin_30 (by decide) (fun c_11 => ?_) (fun c_11 => (show False by revert c_11; decide).elim)
      refine lv_iconst (v := 0) hx hb dX5_stepKin_37 (by decide) ?_
      refine lv_istore (lv' := [(4, .int 0), (3, .int u1_0), (0, .ref h0), (1, .int a1), (2, .int a2)]) hx hb dX5_stepKin_38 hl (by decide) rfl (fun ls hl => ?_)
      refine lv_iload_n hx hb dX5_stepKin_40 rfl (lv_at hl 3 rfl) ?_
      refine lv_sipush (v := 193) hx hb dX5_stepKin_41 (by decide) ?_
      refine lv_icmp_ne (tgt := 65) hx hb dX5_stepKin_44 (by decide) (fun c_12 => ?_) (fun c_12 => ?_)
      · rw [if_neg c_12] at hsp
        refine lv_iload_n hx hb dX5_stepKin_65 rfl (lv_at hl 1 rfl) ?_
        refine lv_if_eq (tgt := 74) hx hb dX5_stepKin_66 (by decide) (fun c_13 => ?_) (fun c_13 => ?_)
        · rw [if_pos c_13] at hsp
          refine lv_aload_n hx hb dX5_stepKin_74 rfl (lv_at hl 2 rfl) ?_
          refine lv_iload_n hx hb dX5_stepKin_75 rfl (lv_at hl 1 rfl) ?_
          refine lv_iconst (v := 2) hx hb dX5_stepKin_76 (by decide) ?_
          obtain ⟨⟨g906_0, g906_1, g906_2, u6_3⟩, hu_6, hsp⟩ := ox_bind hsp
          try dsimp only at hsp
          have hPc := hP.sub (ws' := [(h0, .inr (5, [.ref qf0, .int u1_2, .int v2, .int v3, .int v4, .int v5, .int v6, .int v7, .ref qf8, .ref qf9, .ref qf10, .ref qf11, .ref qf12, .ref qf13, .ref qf14, .ref qf15, .ref qf16, .int v17, .ref qf18, .int v19, .int v20])), (qf14, .inl (cf14, 60, .inl g901_1)), (qf16, .inl (cf16, 1800, .inl f16)), (qf13, .inl (cf13, 60, .inl f13))]) [5, 3, 4, 0] rfl
          have hDc := hD.sub (ws' := [(h0, .inr (5, [.ref qf0, .int u1_2, .int v2, .int v3, .int v4, .int v5, .int v6, .int v7, .ref qf8, .ref qf9, .ref qf10, .ref qf11, .ref qf12, .ref qf13, .ref qf14, .ref qf15, .ref qf16, .int v17, .ref qf18, .int v19, .int v20])), (qf14, .inl (cf14, 60, .inl g901_1)), (qf16, .inl (cf16, 1800, .inl f16)), (qf13, .inl (cf13, 60, .inl f13))]) [5, 3, 4, 0] (by decide) rfl
          have hKc := hK.sub (tys' := [(cf14, .int), (cf16, .int), (cf13, .int)]) [2, 3, 0] rfl
          have hFc := va_free (wc := [(h0, .inr (5, [.ref qf0, .int u1_2, .int v2, .int v3, .int v4, .int v5, .int v6, .int v7, .ref qf8, .ref qf9, .ref qf10, .ref qf11, .ref qf12, .ref qf13, .ref qf14, .ref qf15, .ref qf16, .int v17, .ref qf18, .int v19, .int v20])), (qf14, .inl (cf14, 60, .inl g901_1)), (qf16, .inl (cf16, 1800, .inl f16)), (qf13, .inl (cf13, 60, .inl f13))]) hD hS hA [5, 3, 4, 0] rfl
          refine va_callv (va_runV (As := [.int u1_0, .int 2]) (rest := []) ⟨hx, hb, hml, hown, hts⟩ (t5_give l dC dI H.size h0 u1_0 2 qf0 u1_2 v2 v3 v4 v5 v6 v7 qf8 qf9 qf10 qf11 qf12 qf13 qf14 qf15 qf16 v17 qf18 v19 v20 cf14 g901_1 cf16 f16 cf13 f13 nf g906_0 g906_1 g906_2 u6_3 hu_6) (cwV 2 hts gv_h3_18 rfl rfl rfl (by decide +kernel) ⟨Nat.le_of_ble_eq_true rfl, Nat.le_of_ble_eq_true rfl⟩) ⟨fun a U g mk q => by obtain ⟨q0, q1, qP, qK, qD⟩ := q; exact ⟨q0, q1, qP, va_K.moved (u := U) (U := U.calling g mk a) (Vm.Alike.refl U.vm) qK, qD⟩, va_recv hKc hPc (ci := 5) (q0 := 0) rfl rfl, fun U hU hW => ⟨rfl, by rw [hU], by rw [hU]; exact hPc, va_K.moved hW.alike hKc, hDc.weaken (fun _ _ _ _ => trivial)⟩⟩ rfl rfl hl.1 rfl (lv_room (Nat.le_of_ble_eq_true rfl)) dX5_stepKin_77 ⟨Nat.le_of_ble_eq_true rfl, Nat.le_of_ble_eq_true rfl⟩) hS (fun q _ h => hFc q h) hFc ?_
          clear hS
          intro u t H1 locs ht hvm hw hB hz1 hk1 hS
          obtain ⟨⟩ := u
          obtain ⟨hP1, hK1, hD1⟩ := hB
          rw [ht] at hP1
          have hK1 := va_K.moved hvm.symm hK1
          try dsimp only at hw
          have hPD := va_join (wr := [(qf0, .inr (7, [.ref qf0_0, .ref qf0_1, .ref qf0_2, .int v0_3, .int v0_4, .ref qf0_5, .ref qf0_6, .ref qf0_7])), (qf9, .inl (cf9, 2001, .inl f9)), (qf0_0, .inr (4, [.ref qf0_0_0, .ref qf0_0_1])), (qf0_0_1, .inl (cf0_0_1, 256, .inl f0_0_1))]) (w1 := [(h0, .inr (5, [.ref qf0, .int u6_3, .int v2, .int v3, .int v4, .int v5, .int v6, .int v7, .ref qf8, .ref qf9, .ref qf10, .ref qf11, .ref qf12, .ref qf13, .ref qf14, .ref qf15, .ref qf16, .int v17, .ref qf18, .int v19, .int v20])), (qf14, .inl (cf14, 60, .inl g906_1)), (qf16, .inl (cf16, 1800, .inl g906_2)), (qf13, .inl (cf13, 60, .inl g906_0))]) hP hD [5, 3, 4, 0] [1, 2, 6, 7] rfl rfl (by decide) (by decide) hk1 hFc hP1 hD1
          clear hP hD
          obtain ⟨hP, hD⟩ := hPD
          replace hK := (hK.sub (tys' := [(cf9, .int), (cf0_0_1, .boolean)]) [1, 4] rfl).app hK1
          clear hPc hDc hKc hFc hP1 hK1 hD1 hz1 hk1 ht hvm
          generalize H1 = H at hP hS ⊢
          replace hP : va_P (dC, dI) vwCl [(qf0, .inr (7, [.ref qf0_0, .ref qf0_1, .ref qf0_2, .int v0_3, .int v0_4, .ref qf0_5, .ref qf0_6, .ref qf0_7])), (qf9, .inl (cf9, 2001, .inl f9)), (qf0_0, .inr (4, [.ref qf0_0_0, .ref qf0_0_1])), (qf0_0_1, .inl (cf0_0_1, 256, .inl f0_0_1)), (h0, .inr (5, [.ref qf0, .int u6_3, .int v2, .int v3, .int v4, .int v5, .int v6, .int v7, .ref qf8, .ref qf9, .ref qf10, .ref qf11, .ref qf12, .ref qf13, .ref qf14, .ref qf15, .ref qf16, .int v17, .ref qf18, .int v19, .int v20])), (qf14, .inl (cf14, 60, .inl g906_1)), (qf16, .inl (cf16, 1800, .inl g906_2)), (qf13, .inl (cf13, 60, .inl g906_0))] H := hP
          replace hD : va_D A [(qf0, .inr (7, [.ref qf0_0, .ref qf0_1, .ref qf0_2, .int v0_3, .int v0_4, .ref qf0_5, .ref qf0_6, .ref qf0_7])), (qf9, .inl (cf9, 2001, .inl f9)), (qf0_0, .inr (4, [.ref qf0_0_0, .ref qf0_0_1])), (qf0_0_1, .inl (cf0_0_1, 256, .inl f0_0_1)), (h0, .inr (5, [.ref qf0, .int u6_3, .int v2, .int v3, .int v4, .int v5, .int v6, .int v7, .ref qf8, .ref qf9, .ref qf10, .ref qf11, .ref qf12, .ref qf13, .ref qf14, .ref qf15, .ref qf16, .int v17, .ref qf18, .int v19, .int v20])), (qf14, .inl (cf14, 60, .inl g906_1)), (qf16, .inl (cf16, 1800, .inl g906_2)), (qf13, .inl (cf13, 60, .inl g906_0))] := hD
          replace hK : va_K (dC, dI) vwCl [(cf9, .int), (cf0_0_1, .boolean), (cf14, .int), (cf16, .int), (cf13, .int)] s := hK
          refine lv_goto (tgt := 89) hx hb dX5_stepKin_80 (by decide) ?_
          have hr0 := Option.some.inj hsp
          clear hsp
          obtain ⟨hq0, hr1⟩ := Prod.mk.inj hr0
          clear hr0
          obtain ⟨hq1, hr2⟩ := Prod.mk.inj hr1
          clear hr1
          obtain ⟨hq2, hr3⟩ := Prod.mk.inj hr2
          clear hr2
          obtain ⟨hq3, hr4⟩ := Prod.mk.inj hr3
          clear hr3
          subst hq0
          subst hq1
          subst hq2
          subst hq3
          subst hr4
          have hP9 := hP.sub (ws' := [(h0, .inr (5, [.ref qf0, .int u6_3, .int v2, .int v3, .int v4, .int v5, .int v6, .int v7, .ref qf8, .ref qf9, .ref qf10, .ref qf11, .ref qf12, .ref qf13, .ref qf14, .ref qf15, .ref qf16, .int v17, .ref qf18, .int v19, .int v20])), (qf14, .inl (cf14, 60, .inl g906_1)), (qf16, .inl (cf16, 1800, .inl g906_2)), (qf13, .inl (cf13, 60, .inl g906_0)), (qf0, .inr (7, [.ref qf0_0, .ref qf0_1, .ref qf0_2, .int v0_3, .int v0_4, .ref qf0_5, .ref qf0_6, .ref qf0_7])), (qf9, .inl (cf9, 2001, .inl f9)), (qf0_0, .inr (4, [.ref qf0_0_0, .ref qf0_0_1])), (qf0_0_1, .inl (cf0_0_1, 256, .inl f0_0_1))]) [4, 5, 6, 7, 0, 1, 2, 3] rfl
          have hD9 := hD.sub (ws' := [(h0, .inr (5, [.ref qf0, .int u6_3, .int v2, .int v3, .int v4, .int v5, .int v6, .int v7, .ref qf8, .ref qf9, .ref qf10, .ref qf11, .ref qf12, .ref qf13, .ref qf14, .ref qf15, .ref qf16, .int v17, .ref qf18, .int v19, .int v20])), (qf14, .inl (cf14, 60, .inl g906_1)), (qf16, .inl (cf16, 1800, .inl g906_2)), (qf13, .inl (cf13, 60, .inl g906_0)), (qf0, .inr (7, [.ref qf0_0, .ref qf0_1, .ref qf0_2, .int v0_3, .int v0_4, .ref qf0_5, .ref qf0_6, .ref qf0_7])), (qf9, .inl (cf9, 2001, .inl f9)), (qf0_0, .inr (4, [.ref qf0_0_0, .ref qf0_0_1])), (qf0_0_1, .inl (cf0_0_1, 256, .inl f0_0_1))]) [4, 5, 6, 7, 0, 1, 2, 3] (by decide) rfl
          have hK9 := hK.sub (tys' := [(cf14, .int), (cf16, .int), (cf13, .int), (cf9, .int), (cf0_0_1, .boolean)]) [2, 3, 4, 0, 1] rfl
          exact W.vret hx hb hr (fun t ht hW => ⟨⟨(), rfl, trivial, by rw [ht]; exact hP9, va_K.moved hW.alike hK9, hD9⟩, hS.F ht⟩) hS.2.2 dX5_stepKin_89
        · rw [if_neg c_13] at hsp
          refine lv_iload hx hb dX5_stepKin_69 (lv_at hl 0 rfl) ?_
          refine lv_if_eq (tgt := 83) hx hb dX5_stepKin_71 (by decide) (fun c_14 => ?_) (fun c_14 => (show False by revert c_14; decide).elim)
          refine lv_aload_n hx hb dX5_stepKin_83 rfl (lv_at hl 2 rfl) ?_
          refine lv_bipush (v := (-5)) hx hb dX5_stepKin_84 (by decide) ?_
          refine va_put (D := (dC, dI)) (ci := 5) (v := .int (-5)) (ty := .int) (C := RX5) (T := TX5) (N := 21) hx hb hts uV_h3_X5 tyX5 tyX5_ok nmX5 hown hK hP hD hS 5 rfl rfl 20 (by decide) (hts (.fieldLink RX5 86 "ClassMill$Machine" "thrown" "I") mw_h3_117) (fun _ h9 => h9) rfl (by decide +kernel) rfl rfl (Nat.le_of_ble_eq_true rfl) dX5_stepKin_86 ?_
          clear hP hD hS
          intro H locs hP hD hS
          replace hP : va_P (dC, dI) vwCl [(qf13, .inl (cf13, 60, .inl f13)), (qf0, .inr (7, [.ref qf0_0, .ref qf0_1, .ref qf0_2, .int v0_3, .int v0_4, .ref qf0_5, .ref qf0_6, .ref qf0_7])), (qf9, .inl (cf9, 2001, .inl f9)), (qf14, .inl (cf14, 60, .inl g901_1)), (qf16, .inl (cf16, 1800, .inl f16)), (h0, .inr (5, [.ref qf0, .int u1_2, .int v2, .int v3, .int v4, .int v5, .int v6, .int v7, .ref qf8, .ref qf9, .ref qf10, .ref qf11, .ref qf12, .ref qf13, .ref qf14, .ref qf15, .ref qf16, .int v17, .ref qf18, .int v19, .int (-5)])), (qf0_0, .inr (4, [.ref qf0_0_0, .ref qf0_0_1])), (qf0_0_1, .inl (cf0_0_1, 256, .inl f0_0_1))] H := hP
          replace hD : va_D A [(qf13, .inl (cf13, 60, .inl f13)), (qf0, .inr (7, [.ref qf0_0, .ref qf0_1, .ref qf0_2, .int v0_3, .int v0_4, .ref qf0_5, .ref qf0_6, .ref qf0_7])), (qf9, .inl (cf9, 2001, .inl f9)), (qf14, .inl (cf14, 60, .inl g901_1)), (qf16, .inl (cf16, 1800, .inl f16)), (h0, .inr (5, [.ref qf0, .int u1_2, .int v2, .int v3, .int v4, .int v5, .int v6, .int v7, .ref qf8, .ref qf9, .ref qf10, .ref qf11, .ref qf12, .ref qf13, .ref qf14, .ref qf15, .ref qf16, .int v17, .ref qf18, .int v19, .int (-5)])), (qf0_0, .inr (4, [.ref qf0_0_0, .ref qf0_0_1])), (qf0_0_1, .inl (cf0_0_1, 256, .inl f0_0_1))] := hD
          have hr0 := Option.some.inj hsp
          clear hsp
          obtain ⟨hq0, hr1⟩ := Prod.mk.inj hr0
          clear hr0
          obtain ⟨hq1, hr2⟩ := Prod.mk.inj hr1
          clear hr1
          obtain ⟨hq2, hr3⟩ := Prod.mk.inj hr2
          clear hr2
          obtain ⟨hq3, hr4⟩ := Prod.mk.inj hr3
          clear hr3
          subst hq0
          subst hq1
          subst hq2
          subst hq3
          subst hr4
          have hP9 := hP.sub (ws' := [(h0, .inr (5, [.ref qf0, .int u1_2, .int v2, .int v3, .int v4, .int v5, .int v6, .int v7, .ref qf8, .ref qf9, .ref qf10, .ref qf11, .ref qf12, .ref qf13, .ref qf14, .ref qf15, .ref qf16, .int v17, .ref qf18, .int v19, .int (-5)])), (qf14, .inl (cf14, 60, .inl g901_1)), (qf16, .inl (cf16, 1800, .inl f16)), (qf13, .inl (cf13, 60, .inl f13)), (qf0, .inr (7, [.ref qf0_0, .ref qf0_1, .ref qf0_2, .int v0_3, .int v0_4, .ref qf0_5, .ref qf0_6, .ref qf0_7])), (qf9, .inl (cf9, 2001, .inl f9)), (qf0_0, .inr (4, [.ref qf0_0_0, .ref qf0_0_1])), (qf0_0_1, .inl (cf0_0_1, 256, .inl f0_0_1))]) [5, 3, 4, 0, 1, 2, 6, 7] rfl
          have hD9 := hD.sub (ws' := [(h0, .inr (5, [.ref qf0, .int u1_2, .int v2, .int v3, .int v4, .int v5, .int v6, .int v7, .ref qf8, .ref qf9, .ref qf10, .ref qf11, .ref qf12, .ref qf13, .ref qf14, .ref qf15, .ref qf16, .int v17, .ref qf18, .int v19, .int (-5)])), (qf14, .inl (cf14, 60, .inl g901_1)), (qf16, .inl (cf16, 1800, .inl f16)), (qf13, .inl (cf13, 60, .inl f13)), (qf0, .inr (7, [.ref qf0_0, .ref qf0_1, .ref qf0_2, .int v0_3, .int v0_4, .ref qf0_5, .ref qf0_6, .ref qf0_7])), (qf9, .inl (cf9, 2001, .inl f9)), (qf0_0, .inr (4, [.ref qf0_0_0, .ref qf0_0_1])), (qf0_0_1, .inl (cf0_0_1, 256, .inl f0_0_1))]) [5, 3, 4, 0, 1, 2, 6, 7] (by decide) rfl
          have hK9 := hK.sub (tys' := [(cf14, .int), (cf16, .int), (cf13, .int), (cf9, .int), (cf0_0_1, .boolean)]) [2, 3, 0, 1, 4] rfl
          exact W.vret hx hb hr (fun t ht hW => ⟨⟨(), rfl, trivial, by rw [ht]; exact hP9, va_K.moved hW.alike hK9, hD9⟩, hS.F ht⟩) hS.2.2 dX5_stepKin_89
      · rw [if_pos c_12] at hsp
        refine lv_aload_n hx hb dX5_stepKin_47 rfl (lv_at hl 2 rfl) ?_
        refine lv_iload hx hb dX5_stepKin_48 (lv_at hl 0 rfl) ?_
        refine lv_if_eq (tgt := 57) hx hb dX5_stepKin_50 (by decide) (fun c_15 => ?_) (fun c_15 => (show False by revert c_15; decide).elim)
        refine lv_iconst (v := 0) hx hb dX5_stepKin_57 (by decide) ?_
        refine lv_iconst (v := 2) hx hb dX5_stepKin_58 (by decide) ?_
        obtain ⟨⟨g907_0, g907_1, g907_2, u7_3⟩, hu_7, hsp⟩ := ox_bind hsp
        try dsimp only at hsp
        have hPc := hP.sub (ws' := [(h0, .inr (5, [.ref qf0, .int u1_2, .int v2, .int v3, .int v4, .int v5, .int v6, .int v7, .ref qf8, .ref qf9, .ref qf10, .ref qf11, .ref qf12, .ref qf13, .ref qf14, .ref qf15, .ref qf16, .int v17, .ref qf18, .int v19, .int v20])), (qf14, .inl (cf14, 60, .inl g901_1)), (qf16, .inl (cf16, 1800, .inl f16)), (qf13, .inl (cf13, 60, .inl f13))]) [5, 3, 4, 0] rfl
        have hDc := hD.sub (ws' := [(h0, .inr (5, [.ref qf0, .int u1_2, .int v2, .int v3, .int v4, .int v5, .int v6, .int v7, .ref qf8, .ref qf9, .ref qf10, .ref qf11, .ref qf12, .ref qf13, .ref qf14, .ref qf15, .ref qf16, .int v17, .ref qf18, .int v19, .int v20])), (qf14, .inl (cf14, 60, .inl g901_1)), (qf16, .inl (cf16, 1800, .inl f16)), (qf13, .inl (cf13, 60, .inl f13))]) [5, 3, 4, 0] (by decide) rfl
        have hKc := hK.sub (tys' := [(cf14, .int), (cf16, .int), (cf13, .int)]) [2, 3, 0] rfl
        have hFc := va_free (wc := [(h0, .inr (5, [.ref qf0, .int u1_2, .int v2, .int v3, .int v4, .int v5, .int v6, .int v7, .ref qf8, .ref qf9, .ref qf10, .ref qf11, .ref qf12, .ref qf13, .ref qf14, .ref qf15, .ref qf16, .int v17, .ref qf18, .int v19, .int v20])), (qf14, .inl (cf14, 60, .inl g901_1)), (qf16, .inl (cf16, 1800, .inl f16)), (qf13, .inl (cf13, 60, .inl f13))]) hD hS hA [5, 3, 4, 0] rfl
        refine va_callv (va_runV (As := [.int 0, .int 2]) (rest := []) ⟨hx, hb, hml, hown, hts⟩ (t5_give l dC dI H.size h0 0 2 qf0 u1_2 v2 v3 v4 v5 v6 v7 qf8 qf9 qf10 qf11 qf12 qf13 qf14 qf15 qf16 v17 qf18 v19 v20 cf14 g901_1 cf16 f16 cf13 f13 nf g907_0 g907_1 g907_2 u7_3 hu_7) (cwV 2 hts gv_h3_18 rfl rfl rfl (by decide +kernel) ⟨Nat.le_of_ble_eq_true rfl, Nat.le_of_ble_eq_true rfl⟩) ⟨fun a U g mk q => by obtain ⟨q0, q1, qP, qK, qD⟩ := q; exact ⟨q0, q1, qP, va_K.moved (u := U) (U := U.calling g mk a) (Vm.Alike.refl U.vm) qK, qD⟩, va_recv hKc hPc (ci := 5) (q0 := 0) rfl rfl, fun U hU hW => ⟨rfl, by rw [hU], by rw [hU]; exact hPc, va_K.moved hW.alike hKc, hDc.weaken (fun _ _ _ _ => trivial)⟩⟩ rfl rfl hl.1 rfl (lv_room (Nat.le_of_ble_eq_true rfl)) dX5_stepKin_59 ⟨Nat.le_of_ble_eq_true rfl, Nat.le_of_ble_eq_true rfl⟩) hS (fun q _ h => hFc q h) hFc ?_
        clear hS
        intro u t H1 locs ht hvm hw hB hz1 hk1 hS
        obtain ⟨⟩ := u
        obtain ⟨hP1, hK1, hD1⟩ := hB
        rw [ht] at hP1
        have hK1 := va_K.moved hvm.symm hK1
        try dsimp only at hw
        have hPD := va_join (wr := [(qf0, .inr (7, [.ref qf0_0, .ref qf0_1, .ref qf0_2, .int v0_3, .int v0_4, .ref qf0_5, .ref qf0_6, .ref qf0_7])), (qf9, .inl (cf9, 2001, .inl f9)), (qf0_0, .inr (4, [.ref qf0_0_0, .ref qf0_0_1])), (qf0_0_1, .inl (cf0_0_1, 256, .inl f0_0_1))]) (w1 := [(h0, .inr (5, [.ref qf0, .int u7_3, .int v2, .int v3, .int v4, .int v5, .int v6, .int v7, .ref qf8, .ref qf9, .ref qf10, .ref qf11, .ref qf12, .ref qf13, .ref qf14, .ref qf15, .ref qf16, .int v17, .ref qf18, .int v19, .int v20])), (qf14, .inl (cf14, 60, .inl g907_1)), (qf16, .inl (cf16, 1800, .inl g907_2)), (qf13, .inl (cf13, 60, .inl g907_0))]) hP hD [5, 3, 4, 0] [1, 2, 6, 7] rfl rfl (by decide) (by decide) hk1 hFc hP1 hD1
        clear hP hD
        obtain ⟨hP, hD⟩ := hPD
        replace hK := (hK.sub (tys' := [(cf9, .int), (cf0_0_1, .boolean)]) [1, 4] rfl).app hK1
        clear hPc hDc hKc hFc hP1 hK1 hD1 hz1 hk1 ht hvm
        generalize H1 = H at hP hS ⊢
        replace hP : va_P (dC, dI) vwCl [(qf0, .inr (7, [.ref qf0_0, .ref qf0_1, .ref qf0_2, .int v0_3, .int v0_4, .ref qf0_5, .ref qf0_6, .ref qf0_7])), (qf9, .inl (cf9, 2001, .inl f9)), (qf0_0, .inr (4, [.ref qf0_0_0, .ref qf0_0_1])), (qf0_0_1, .inl (cf0_0_1, 256, .inl f0_0_1)), (h0, .inr (5, [.ref qf0, .int u7_3, .int v2, .int v3, .int v4, .int v5, .int v6, .int v7, .ref qf8, .ref qf9, .ref qf10, .ref qf11, .ref qf12, .ref qf13, .ref qf14, .ref qf15, .ref qf16, .int v17, .ref qf18, .int v19, .int v20])), (qf14, .inl (cf14, 60, .inl g907_1)), (qf16, .inl (cf16, 1800, .inl g907_2)), (qf13, .inl (cf13, 60, .inl g907_0))] H := hP
        replace hD : va_D A [(qf0, .inr (7, [.ref qf0_0, .ref qf0_1, .ref qf0_2, .int v0_3, .int v0_4, .ref qf0_5, .ref qf0_6, .ref qf0_7])), (qf9, .inl (cf9, 2001, .inl f9)), (qf0_0, .inr (4, [.ref qf0_0_0, .ref qf0_0_1])), (qf0_0_1, .inl (cf0_0_1, 256, .inl f0_0_1)), (h0, .inr (5, [.ref qf0, .int u7_3, .int v2, .int v3, .int v4, .int v5, .int v6, .int v7, .ref qf8, .ref qf9, .ref qf10, .ref qf11, .ref qf12, .ref qf13, .ref qf14, .ref qf15, .ref qf16, .int v17, .ref qf18, .int v19, .int v20])), (qf14, .inl (cf14, 60, .inl g907_1)), (qf16, .inl (cf16, 1800, .inl g907_2)), (qf13, .inl (cf13, 60, .inl g907_0))] := hD
        replace hK : va_K (dC, dI) vwCl [(cf9, .int), (cf0_0_1, .boolean), (cf14, .int), (cf16, .int), (cf13, .int)] s := hK
        refine lv_goto (tgt := 89) hx hb dX5_stepKin_62 (by decide) ?_
        have hr0 := Option.some.inj hsp
        clear hsp
        obtain ⟨hq0, hr1⟩ := Prod.mk.inj hr0
        clear hr0
        obtain ⟨hq1, hr2⟩ := Prod.mk.inj hr1
        clear hr1
        obtain ⟨hq2, hr3⟩ := Prod.mk.inj hr2
        clear hr2
        obtain ⟨hq3, hr4⟩ := Prod.mk.inj hr3
        clear hr3
        subst hq0
        subst hq1
        subst hq2
        subst hq3
        subst hr4
        have hP9 := hP.sub (ws' := [(h0, .inr (5, [.ref qf0, .int u7_3, .int v2, .int v3, .int v4, .int v5, .int v6, .int v7, .ref qf8, .ref qf9, .ref qf10, .ref qf11, .ref qf12, .ref qf13, .ref qf14, .ref qf15, .ref qf16, .int v17, .ref qf18, .int v19, .int v20])), (qf14, .inl (cf14, 60, .inl g907_1)), (qf16, .inl (cf16, 1800, .inl g907_2)), (qf13, .inl (cf13, 60, .inl g907_0)), (qf0, .inr (7, [.ref qf0_0, .ref qf0_1, .ref qf0_2, .int v0_3, .int v0_4, .ref qf0_5, .ref qf0_6, .ref qf0_7])), (qf9, .inl (cf9, 2001, .inl f9)), (qf0_0, .inr (4, [.ref qf0_0_0, .ref qf0_0_1])), (qf0_0_1, .inl (cf0_0_1, 256, .inl f0_0_1))]) [4, 5, 6, 7, 0, 1, 2, 3] rfl
        have hD9 := hD.sub (ws' := [(h0, .inr (5, [.ref qf0, .int u7_3, .int v2, .int v3, .int v4, .int v5, .int v6, .int v7, .ref qf8, .ref qf9, .ref qf10, .ref qf11, .ref qf12, .ref qf13, .ref qf14, .ref qf15, .ref qf16, .int v17, .ref qf18, .int v19, .int v20])), (qf14, .inl (cf14, 60, .inl g907_1)), (qf16, .inl (cf16, 1800, .inl g907_2)), (qf13, .inl (cf13, 60, .inl g907_0)), (qf0, .inr (7, [.ref qf0_0, .ref qf0_1, .ref qf0_2, .int v0_3, .int v0_4, .ref qf0_5, .ref qf0_6, .ref qf0_7])), (qf9, .inl (cf9, 2001, .inl f9)), (qf0_0, .inr (4, [.ref qf0_0_0, .ref qf0_0_1])), (qf0_0_1, .inl (cf0_0_1, 256, .inl f0_0_1))]) [4, 5, 6, 7, 0, 1, 2, 3] (by decide) rfl
        have hK9 := hK.sub (tys' := [(cf14, .int), (cf16, .int), (cf13, .int), (cf9, .int), (cf0_0_1, .boolean)]) [2, 3, 4, 0, 1] rfl
        exact W.vret hx hb hr (fun t ht hW => ⟨⟨(), rfl, trivial, by rw [ht]; exact hP9, va_K.moved hW.alike hK9, hD9⟩, hS.F ht⟩) hS.2.2 dX5_stepKin_89
    · rw [if_neg (by decide)] at hsp
      refine lv_if_eq (tgt := 37) hx hb dX5_stepKin_30 (by decide) (fun c_16 => (show False by revert c_16; decide).elim) (fun c_16 => ?_)
      refine lv_iconst (v := 1) hx hb dX5_stepKin_33 (by decide) ?_
      refine lv_goto (tgt := 38) hx hb dX5_stepKin_34 (by decide) ?_
      refine lv_istore (lv' := [(4, .int 1), (3, .int u1_0), (0, .ref h0), (1, .int a1), (2, .int a2)]) hx hb dX5_stepKin_38 hl (by decide) rfl (fun ls hl => ?_)
      refine lv_iload_n hx hb dX5_stepKin_40 rfl (lv_at hl 3 rfl) ?_
      refine lv_sipush (v := 193) hx hb dX5_stepKin_41 (by decide) ?_
      refine lv_icmp_ne (tgt := 65) hx hb dX5_stepKin_44 (by decide) (fun c_17 => ?_) (fun c_17 => ?_)
      · rw [if_neg c_17] at hsp
        refine lv_iload_n hx hb dX5_stepKin_65 rfl (lv_at hl 1 rfl) ?_
        refine lv_if_eq (tgt := 74) hx hb dX5_stepKin_66 (by decide) (fun c_18 => ?_) (fun c_18 => ?_)
        · rw [if_pos c_18] at hsp
          refine lv_aload_n hx hb dX5_stepKin_74 rfl (lv_at hl 2 rfl) ?_
          refine lv_iload_n hx hb dX5_stepKin_75 rfl (lv_at hl 1 rfl) ?_
          refine lv_iconst (v := 2) hx hb dX5_stepKin_76 (by decide) ?_
          obtain ⟨⟨g908_0, g908_1, g908_2, u8_3⟩, hu_8, hsp⟩ := ox_bind hsp
          try dsimp only at hsp
          have hPc := hP.sub (ws' := [(h0, .inr (5, [.ref qf0, .int u1_2, .int v2, .int v3, .int v4, .int v5, .int v6, .int v7, .ref qf8, .ref qf9, .ref qf10, .ref qf11, .ref qf12, .ref qf13, .ref qf14, .ref qf15, .ref qf16, .int v17, .ref qf18, .int v19, .int v20])), (qf14, .inl (cf14, 60, .inl g901_1)), (qf16, .inl (cf16, 1800, .inl f16)), (qf13, .inl (cf13, 60, .inl f13))]) [5, 3, 4, 0] rfl
          have hDc := hD.sub (ws' := [(h0, .inr (5, [.ref qf0, .int u1_2, .int v2, .int v3, .int v4, .int v5, .int v6, .int v7, .ref qf8, .ref qf9, .ref qf10, .ref qf11, .ref qf12, .ref qf13, .ref qf14, .ref qf15, .ref qf16, .int v17, .ref qf18, .int v19, .int v20])), (qf14, .inl (cf14, 60, .inl g901_1)), (qf16, .inl (cf16, 1800, .inl f16)), (qf13, .inl (cf13, 60, .inl f13))]) [5, 3, 4, 0] (by decide) rfl
          have hKc := hK.sub (tys' := [(cf14, .int), (cf16, .int), (cf13, .int)]) [2, 3, 0] rfl
          have hFc := va_free (wc := [(h0, .inr (5, [.ref qf0, .int u1_2, .int v2, .int v3, .int v4, .int v5, .int v6, .int v7, .ref qf8, .ref qf9, .ref qf10, .ref qf11, .ref qf12, .ref qf13, .ref qf14, .ref qf15, .ref qf16, .int v17, .ref qf18, .int v19, .int v20])), (qf14, .inl (cf14, 60, .inl g901_1)), (qf16, .inl (cf16, 1800, .inl f16)), (qf13, .inl (cf13, 60, .inl f13))]) hD hS hA [5, 3, 4, 0] rfl
          refine va_callv (va_runV (As := [.int u1_0, .int 2]) (rest := []) ⟨hx, hb, hml, hown, hts⟩ (t5_give l dC dI H.size h0 u1_0 2 qf0 u1_2 v2 v3 v4 v5 v6 v7 qf8 qf9 qf10 qf11 qf12 qf13 qf14 qf15 qf16 v17 qf18 v19 v20 cf14 g901_1 cf16 f16 cf13 f13 nf g908_0 g908_1 g908_2 u8_3 hu_8) (cwV 2 hts gv_h3_18 rfl rfl rfl (by decide +kernel) ⟨Nat.le_of_ble_eq_true rfl, Nat.le_of_ble_eq_true rfl⟩) ⟨fun a U g mk q => by obtain ⟨q0, q1, qP, qK, qD⟩ := q; exact ⟨q0, q1, qP, va_K.moved (u := U) (U := U.calling g mk a) (Vm.Alike.refl U.vm) qK, qD⟩, va_recv hKc hPc (ci := 5) (q0 := 0) rfl rfl, fun U hU hW => ⟨rfl, by rw [hU], by rw [hU]; exact hPc, va_K.moved hW.alike hKc, hDc.weaken (fun _ _ _ _ => trivial)⟩⟩ rfl rfl hl.1 rfl (lv_room (Nat.le_of_ble_eq_true rfl)) dX5_stepKin_77 ⟨Nat.le_of_ble_eq_true rfl, Nat.le_of_ble_eq_true rfl⟩) hS (fun q _ h => hFc q h) hFc ?_
          clear hS
          intro u t H1 locs ht hvm hw hB hz1 hk1 hS
          obtain ⟨⟩ := u
          obtain ⟨hP1, hK1, hD1⟩ := hB
          rw [ht] at hP1
          have hK1 := va_K.moved hvm.symm hK1
          try dsimp only at hw
          have hPD := va_join (wr := [(qf0, .inr (7, [.ref qf0_0, .ref qf0_1, .ref qf0_2, .int v0_3, .int v0_4, .ref qf0_5, .ref qf0_6, .ref qf0_7])), (qf9, .inl (cf9, 2001, .inl f9)), (qf0_0, .inr (4, [.ref qf0_0_0, .ref qf0_0_1])), (qf0_0_1, .inl (cf0_0_1, 256, .inl f0_0_1))]) (w1 := [(h0, .inr (5, [.ref qf0, .int u8_3, .int v2, .int v3, .int v4, .int v5, .int v6, .int v7, .ref qf8, .ref qf9, .ref qf10, .ref qf11, .ref qf12, .ref qf13, .ref qf14, .ref qf15, .ref qf16, .int v17, .ref qf18, .int v19, .int v20])), (qf14, .inl (cf14, 60, .inl g908_1)), (qf16, .inl (cf16, 1800, .inl g908_2)), (qf13, .inl (cf13, 60, .inl g908_0))]) hP hD [5, 3, 4, 0] [1, 2, 6, 7] rfl rfl (by decide) (by decide) hk1 hFc hP1 hD1
          clear hP hD
          obtain ⟨hP, hD⟩ := hPD
          replace hK := (hK.sub (tys' := [(cf9, .int), (cf0_0_1, .boolean)]) [1, 4] rfl).app hK1
          clear hPc hDc hKc hFc hP1 hK1 hD1 hz1 hk1 ht hvm
          generalize H1 = H at hP hS ⊢
          replace hP : va_P (dC, dI) vwCl [(qf0, .inr (7, [.ref qf0_0, .ref qf0_1, .ref qf0_2, .int v0_3, .int v0_4, .ref qf0_5, .ref qf0_6, .ref qf0_7])), (qf9, .inl (cf9, 2001, .inl f9)), (qf0_0, .inr (4, [.ref qf0_0_0, .ref qf0_0_1])), (qf0_0_1, .inl (cf0_0_1, 256, .inl f0_0_1)), (h0, .inr (5, [.ref qf0, .int u8_3, .int v2, .int v3, .int v4, .int v5, .int v6, .int v7, .ref qf8, .ref qf9, .ref qf10, .ref qf11, .ref qf12, .ref qf13, .ref qf14, .ref qf15, .ref qf16, .int v17, .ref qf18, .int v19, .int v20])), (qf14, .inl (cf14, 60, .inl g908_1)), (qf16, .inl (cf16, 1800, .inl g908_2)), (qf13, .inl (cf13, 60, .inl g908_0))] H := hP
          replace hD : va_D A [(qf0, .inr (7, [.ref qf0_0, .ref qf0_1, .ref qf0_2, .int v0_3, .int v0_4, .ref qf0_5, .ref qf0_6, .ref qf0_7])), (qf9, .inl (cf9, 2001, .inl f9)), (qf0_0, .inr (4, [.ref qf0_0_0, .ref qf0_0_1])), (qf0_0_1, .inl (cf0_0_1, 256, .inl f0_0_1)), (h0, .inr (5, [.ref qf0, .int u8_3, .int v2, .int v3, .int v4, .int v5, .int v6, .int v7, .ref qf8, .ref qf9, .ref qf10, .ref qf11, .ref qf12, .ref qf13, .ref qf14, .ref qf15, .ref qf16, .int v17, .ref qf18, .int v19, .int v20])), (qf14, .inl (cf14, 60, .inl g908_1)), (qf16, .inl (cf16, 1800, .inl g908_2)), (qf13, .inl (cf13, 60, .inl g908_0))] := hD
          replace hK : va_K (dC, dI) vwCl [(cf9, .int), (cf0_0_1, .boolean), (cf14, .int), (cf16, .int), (cf13, .int)] s := hK
          refine lv_goto (tgt := 89) hx hb dX5_stepKin_80 (by decide) ?_
          have hr0 := Option.some.inj hsp
          clear hsp
          obtain ⟨hq0, hr1⟩ := Prod.mk.inj hr0
          clear hr0
          obtain ⟨hq1, hr2⟩ := Prod.mk.inj hr1
          clear hr1
          obtain ⟨hq2, hr3⟩ := Prod.mk.inj hr2
          clear hr2
          obtain ⟨hq3, hr4⟩ := Prod.mk.inj hr3
          clear hr3
          subst hq0
          subst hq1
          subst hq2
          subst hq3
          subst hr4
          have hP9 := hP.sub (ws' := [(h0, .inr (5, [.ref qf0, .int u8_3, .int v2, .int v3, .int v4, .int v5, .int v6, .int v7, .ref qf8, .ref qf9, .ref qf10, .ref qf11, .ref qf12, .ref qf13, .ref qf14, .ref qf15, .ref qf16, .int v17, .ref qf18, .int v19, .int v20])), (qf14, .inl (cf14, 60, .inl g908_1)), (qf16, .inl (cf16, 1800, .inl g908_2)), (qf13, .inl (cf13, 60, .inl g908_0)), (qf0, .inr (7, [.ref qf0_0, .ref qf0_1, .ref qf0_2, .int v0_3, .int v0_4, .ref qf0_5, .ref qf0_6, .ref qf0_7])), (qf9, .inl (cf9, 2001, .inl f9)), (qf0_0, .inr (4, [.ref qf0_0_0, .ref qf0_0_1])), (qf0_0_1, .inl (cf0_0_1, 256, .inl f0_0_1))]) [4, 5, 6, 7, 0, 1, 2, 3] rfl
          have hD9 := hD.sub (ws' := [(h0, .inr (5, [.ref qf0, .int u8_3, .int v2, .int v3, .int v4, .int v5, .int v6, .int v7, .ref qf8, .ref qf9, .ref qf10, .ref qf11, .ref qf12, .ref qf13, .ref qf14, .ref qf15, .ref qf16, .int v17, .ref qf18, .int v19, .int v20])), (qf14, .inl (cf14, 60, .inl g908_1)), (qf16, .inl (cf16, 1800, .inl g908_2)), (qf13, .inl (cf13, 60, .inl g908_0)), (qf0, .inr (7, [.ref qf0_0, .ref qf0_1, .ref qf0_2, .int v0_3, .int v0_4, .ref qf0_5, .ref qf0_6, .ref qf0_7])), (qf9, .inl (cf9, 2001, .inl f9)), (qf0_0, .inr (4, [.ref qf0_0_0, .ref qf0_0_1])), (qf0_0_1, .inl (cf0_0_1, 256, .inl f0_0_1))]) [4, 5, 6, 7, 0, 1, 2, 3] (by decide) rfl
          have hK9 := hK.sub (tys' := [(cf14, .int), (cf16, .int), (cf13, .int), (cf9, .int), (cf0_0_1, .boolean)]) [2, 3, 4, 0, 1] rfl
          exact W.vret hx hb hr (fun t ht hW => ⟨⟨(), rfl, trivial, by rw [ht]; exact hP9, va_K.moved hW.alike hK9, hD9⟩, hS.F ht⟩) hS.2.2 dX5_stepKin_89
        · rw [if_neg c_18] at hsp
          refine lv_iload hx hb dX5_stepKin_69 (lv_at hl 0 rfl) ?_
          refine lv_if_eq (tgt := 83) hx hb dX5_stepKin_71 (by decide) (fun c_19 => (show False by revert c_19; decide).elim) (fun c_19 => ?_)
          refine lv_aload_n hx hb dX5_stepKin_74 rfl (lv_at hl 2 rfl) ?_
          refine lv_iload_n hx hb dX5_stepKin_75 rfl (lv_at hl 1 rfl) ?_
          refine lv_iconst (v := 2) hx hb dX5_stepKin_76 (by decide) ?_
          obtain ⟨⟨g909_0, g909_1, g909_2, u9_3⟩, hu_9, hsp⟩ := ox_bind hsp
          try dsimp only at hsp
          have hPc := hP.sub (ws' := [(h0, .inr (5, [.ref qf0, .int u1_2, .int v2, .int v3, .int v4, .int v5, .int v6, .int v7, .ref qf8, .ref qf9, .ref qf10, .ref qf11, .ref qf12, .ref qf13, .ref qf14, .ref qf15, .ref qf16, .int v17, .ref qf18, .int v19, .int v20])), (qf14, .inl (cf14, 60, .inl g901_1)), (qf16, .inl (cf16, 1800, .inl f16)), (qf13, .inl (cf13, 60, .inl f13))]) [5, 3, 4, 0] rfl
          have hDc := hD.sub (ws' := [(h0, .inr (5, [.ref qf0, .int u1_2, .int v2, .int v3, .int v4, .int v5, .int v6, .int v7, .ref qf8, .ref qf9, .ref qf10, .ref qf11, .ref qf12, .ref qf13, .ref qf14, .ref qf15, .ref qf16, .int v17, .ref qf18, .int v19, .int v20])), (qf14, .inl (cf14, 60, .inl g901_1)), (qf16, .inl (cf16, 1800, .inl f16)), (qf13, .inl (cf13, 60, .inl f13))]) [5, 3, 4, 0] (by decide) rfl
          have hKc := hK.sub (tys' := [(cf14, .int), (cf16, .int), (cf13, .int)]) [2, 3, 0] rfl
          have hFc := va_free (wc := [(h0, .inr (5, [.ref qf0, .int u1_2, .int v2, .int v3, .int v4, .int v5, .int v6, .int v7, .ref qf8, .ref qf9, .ref qf10, .ref qf11, .ref qf12, .ref qf13, .ref qf14, .ref qf15, .ref qf16, .int v17, .ref qf18, .int v19, .int v20])), (qf14, .inl (cf14, 60, .inl g901_1)), (qf16, .inl (cf16, 1800, .inl f16)), (qf13, .inl (cf13, 60, .inl f13))]) hD hS hA [5, 3, 4, 0] rfl
          refine va_callv (va_runV (As := [.int u1_0, .int 2]) (rest := []) ⟨hx, hb, hml, hown, hts⟩ (t5_give l dC dI H.size h0 u1_0 2 qf0 u1_2 v2 v3 v4 v5 v6 v7 qf8 qf9 qf10 qf11 qf12 qf13 qf14 qf15 qf16 v17 qf18 v19 v20 cf14 g901_1 cf16 f16 cf13 f13 nf g909_0 g909_1 g909_2 u9_3 hu_9) (cwV 2 hts gv_h3_18 rfl rfl rfl (by decide +kernel) ⟨Nat.le_of_ble_eq_true rfl, Nat.le_of_ble_eq_true rfl⟩) ⟨fun a U g mk q => by obtain ⟨q0, q1, qP, qK, qD⟩ := q; exact ⟨q0, q1, qP, va_K.moved (u := U) (U := U.calling g mk a) (Vm.Alike.refl U.vm) qK, qD⟩, va_recv hKc hPc (ci := 5) (q0 := 0) rfl rfl, fun U hU hW => ⟨rfl, by rw [hU], by rw [hU]; exact hPc, va_K.moved hW.alike hKc, hDc.weaken (fun _ _ _ _ => trivial)⟩⟩ rfl rfl hl.1 rfl (lv_room (Nat.le_of_ble_eq_true rfl)) dX5_stepKin_77 ⟨Nat.le_of_ble_eq_true rfl, Nat.le_of_ble_eq_true rfl⟩) hS (fun q _ h => hFc q h) hFc ?_
          clear hS
          intro u t H1 locs ht hvm hw hB hz1 hk1 hS
          obtain ⟨⟩ := u
          obtain ⟨hP1, hK1, hD1⟩ := hB
          rw [ht] at hP1
          have hK1 := va_K.moved hvm.symm hK1
          try dsimp only at hw
          have hPD := va_join (wr := [(qf0, .inr (7, [.ref qf0_0, .ref qf0_1, .ref qf0_2, .int v0_3, .int v0_4, .ref qf0_5, .ref qf0_6, .ref qf0_7])), (qf9, .inl (cf9, 2001, .inl f9)), (qf0_0, .inr (4, [.ref qf0_0_0, .ref qf0_0_1])), (qf0_0_1, .inl (cf0_0_1, 256, .inl f0_0_1))]) (w1 := [(h0, .inr (5, [.ref qf0, .int u9_3, .int v2, .int v3, .int v4, .int v5, .int v6, .int v7, .ref qf8, .ref qf9, .ref qf10, .ref qf11, .ref qf12, .ref qf13, .ref qf14, .ref qf15, .ref qf16, .int v17, .ref qf18, .int v19, .int v20])), (qf14, .inl (cf14, 60, .inl g909_1)), (qf16, .inl (cf16, 1800, .inl g909_2)), (qf13, .inl (cf13, 60, .inl g909_0))]) hP hD [5, 3, 4, 0] [1, 2, 6, 7] rfl rfl (by decide) (by decide) hk1 hFc hP1 hD1
          clear hP hD
          obtain ⟨hP, hD⟩ := hPD
          replace hK := (hK.sub (tys' := [(cf9, .int), (cf0_0_1, .boolean)]) [1, 4] rfl).app hK1
          clear hPc hDc hKc hFc hP1 hK1 hD1 hz1 hk1 ht hvm
          generalize H1 = H at hP hS ⊢
          replace hP : va_P (dC, dI) vwCl [(qf0, .inr (7, [.ref qf0_0, .ref qf0_1, .ref qf0_2, .int v0_3, .int v0_4, .ref qf0_5, .ref qf0_6, .ref qf0_7])), (qf9, .inl (cf9, 2001, .inl f9)), (qf0_0, .inr (4, [.ref qf0_0_0, .ref qf0_0_1])), (qf0_0_1, .inl (cf0_0_1, 256, .inl f0_0_1)), (h0, .inr (5, [.ref qf0, .int u9_3, .int v2, .int v3, .int v4, .int v5, .int v6, .int v7, .ref qf8, .ref qf9, .ref qf10, .ref qf11, .ref qf12, .ref qf13, .ref qf14, .ref qf15, .ref qf16, .int v17, .ref qf18, .int v19, .int v20])), (qf14, .inl (cf14, 60, .inl g909_1)), (qf16, .inl (cf16, 1800, .inl g909_2)), (qf13, .inl (cf13, 60, .inl g909_0))] H := hP
          replace hD : va_D A [(qf0, .inr (7, [.ref qf0_0, .ref qf0_1, .ref qf0_2, .int v0_3, .int v0_4, .ref qf0_5, .ref qf0_6, .ref qf0_7])), (qf9, .inl (cf9, 2001, .inl f9)), (qf0_0, .inr (4, [.ref qf0_0_0, .ref qf0_0_1])), (qf0_0_1, .inl (cf0_0_1, 256, .inl f0_0_1)), (h0, .inr (5, [.ref qf0, .int u9_3, .int v2, .int v3, .int v4, .int v5, .int v6, .int v7, .ref qf8, .ref qf9, .ref qf10, .ref qf11, .ref qf12, .ref qf13, .ref qf14, .ref qf15, .ref qf16, .int v17, .ref qf18, .int v19, .int v20])), (qf14, .inl (cf14, 60, .inl g909_1)), (qf16, .inl (cf16, 1800, .inl g909_2)), (qf13, .inl (cf13, 60, .inl g909_0))] := hD
          replace hK : va_K (dC, dI) vwCl [(cf9, .int), (cf0_0_1, .boolean), (cf14, .int), (cf16, .int), (cf13, .int)] s := hK
          refine lv_goto (tgt := 89) hx hb dX5_stepKin_80 (by decide) ?_
          have hr0 := Option.some.inj hsp
          clear hsp
          obtain ⟨hq0, hr1⟩ := Prod.mk.inj hr0
          clear hr0
          obtain ⟨hq1, hr2⟩ := Prod.mk.inj hr1
          clear hr1
          obtain ⟨hq2, hr3⟩ := Prod.mk.inj hr2
          clear hr2
          obtain ⟨hq3, hr4⟩ := Prod.mk.inj hr3
          clear hr3
          subst hq0
          subst hq1
          subst hq2
          subst hq3
          subst hr4
          have hP9 := hP.sub (ws' := [(h0, .inr (5, [.ref qf0, .int u9_3, .int v2, .int v3, .int v4, .int v5, .int v6, .int v7, .ref qf8, .ref qf9, .ref qf10, .ref qf11, .ref qf12, .ref qf13, .ref qf14, .ref qf15, .ref qf16, .int v17, .ref qf18, .int v19, .int v20])), (qf14, .inl (cf14, 60, .inl g909_1)), (qf16, .inl (cf16, 1800, .inl g909_2)), (qf13, .inl (cf13, 60, .inl g909_0)), (qf0, .inr (7, [.ref qf0_0, .ref qf0_1, .ref qf0_2, .int v0_3, .int v0_4, .ref qf0_5, .ref qf0_6, .ref qf0_7])), (qf9, .inl (cf9, 2001, .inl f9)), (qf0_0, .inr (4, [.ref qf0_0_0, .ref qf0_0_1])), (qf0_0_1, .inl (cf0_0_1, 256, .inl f0_0_1))]) [4, 5, 6, 7, 0, 1, 2, 3] rfl
          have hD9 := hD.sub (ws' := [(h0, .inr (5, [.ref qf0, .int u9_3, .int v2, .int v3, .int v4, .int v5, .int v6, .int v7, .ref qf8, .ref qf9, .ref qf10, .ref qf11, .ref qf12, .ref qf13, .ref qf14, .ref qf15, .ref qf16, .int v17, .ref qf18, .int v19, .int v20])), (qf14, .inl (cf14, 60, .inl g909_1)), (qf16, .inl (cf16, 1800, .inl g909_2)), (qf13, .inl (cf13, 60, .inl g909_0)), (qf0, .inr (7, [.ref qf0_0, .ref qf0_1, .ref qf0_2, .int v0_3, .int v0_4, .ref qf0_5, .ref qf0_6, .ref qf0_7])), (qf9, .inl (cf9, 2001, .inl f9)), (qf0_0, .inr (4, [.ref qf0_0_0, .ref qf0_0_1])), (qf0_0_1, .inl (cf0_0_1, 256, .inl f0_0_1))]) [4, 5, 6, 7, 0, 1, 2, 3] (by decide) rfl
          have hK9 := hK.sub (tys' := [(cf14, .int), (cf16, .int), (cf13, .int), (cf9, .int), (cf0_0_1, .boolean)]) [2, 3, 4, 0, 1] rfl
          exact W.vret hx hb hr (fun t ht hW => ⟨⟨(), rfl, trivial, by rw [ht]; exact hP9, va_K.moved hW.alike hK9, hD9⟩, hS.F ht⟩) hS.2.2 dX5_stepKin_89
      · rw [if_pos c_17] at hsp
        refine lv_aload_n hx hb dX5_stepKin_47 rfl (lv_at hl 2 rfl) ?_
        refine lv_iload hx hb dX5_stepKin_48 (lv_at hl 0 rfl) ?_
        refine lv_if_eq (tgt := 57) hx hb dX5_stepKin_50 (by decide) (fun c_20 => (show False by revert c_20; decide).elim) (fun c_20 => ?_)
        refine lv_iconst (v := 1) hx hb dX5_stepKin_53 (by decide) ?_
        refine lv_goto (tgt := 58) hx hb dX5_stepKin_54 (by decide) ?_
        refine lv_iconst (v := 2) hx hb dX5_stepKin_58 (by decide) ?_
        obtain ⟨⟨g910_0, g910_1, g910_2, u10_3⟩, hu_10, hsp⟩ := ox_bind hsp
        try dsimp only at hsp
        have hPc := hP.sub (ws' := [(h0, .inr (5, [.ref qf0, .int u1_2, .int v2, .int v3, .int v4, .int v5, .int v6, .int v7, .ref qf8, .ref qf9, .ref qf10, .ref qf11, .ref qf12, .ref qf13, .ref qf14, .ref qf15, .ref qf16, .int v17, .ref qf18, .int v19, .int v20])), (qf14, .inl (cf14, 60, .inl g901_1)), (qf16, .inl (cf16, 1800, .inl f16)), (qf13, .inl (cf13, 60, .inl f13))]) [5, 3, 4, 0] rfl
        have hDc := hD.sub (ws' := [(h0, .inr (5, [.ref qf0, .int u1_2, .int v2, .int v3, .int v4, .int v5, .int v6, .int v7, .ref qf8, .ref qf9, .ref qf10, .ref qf11, .ref qf12, .ref qf13, .ref qf14, .ref qf15, .ref qf16, .int v17, .ref qf18, .int v19, .int v20])), (qf14, .inl (cf14, 60, .inl g901_1)), (qf16, .inl (cf16, 1800, .inl f16)), (qf13, .inl (cf13, 60, .inl f13))]) [5, 3, 4, 0] (by decide) rfl
        have hKc := hK.sub (tys' := [(cf14, .int), (cf16, .int), (cf13, .int)]) [2, 3, 0] rfl
        have hFc := va_free (wc := [(h0, .inr (5, [.ref qf0, .int u1_2, .int v2, .int v3, .int v4, .int v5, .int v6, .int v7, .ref qf8, .ref qf9, .ref qf10, .ref qf11, .ref qf12, .ref qf13, .ref qf14, .ref qf15, .ref qf16, .int v17, .ref qf18, .int v19, .int v20])), (qf14, .inl (cf14, 60, .inl g901_1)), (qf16, .inl (cf16, 1800, .inl f16)), (qf13, .inl (cf13, 60, .inl f13))]) hD hS hA [5, 3, 4, 0] rfl
        refine va_callv (va_runV (As := [.int 1, .int 2]) (rest := []) ⟨hx, hb, hml, hown, hts⟩ (t5_give l dC dI H.size h0 1 2 qf0 u1_2 v2 v3 v4 v5 v6 v7 qf8 qf9 qf10 qf11 qf12 qf13 qf14 qf15 qf16 v17 qf18 v19 v20 cf14 g901_1 cf16 f16 cf13 f13 nf g910_0 g910_1 g910_2 u10_3 hu_10) (cwV 2 hts gv_h3_18 rfl rfl rfl (by decide +kernel) ⟨Nat.le_of_ble_eq_true rfl, Nat.le_of_ble_eq_true rfl⟩) ⟨fun a U g mk q => by obtain ⟨q0, q1, qP, qK, qD⟩ := q; exact ⟨q0, q1, qP, va_K.moved (u := U) (U := U.calling g mk a) (Vm.Alike.refl U.vm) qK, qD⟩, va_recv hKc hPc (ci := 5) (q0 := 0) rfl rfl, fun U hU hW => ⟨rfl, by rw [hU], by rw [hU]; exact hPc, va_K.moved hW.alike hKc, hDc.weaken (fun _ _ _ _ => trivial)⟩⟩ rfl rfl hl.1 rfl (lv_room (Nat.le_of_ble_eq_true rfl)) dX5_stepKin_59 ⟨Nat.le_of_ble_eq_true rfl, Nat.le_of_ble_eq_true rfl⟩) hS (fun q _ h => hFc q h) hFc ?_
        clear hS
        intro u t H1 locs ht hvm hw hB hz1 hk1 hS
        obtain ⟨⟩ := u
        obtain ⟨hP1, hK1, hD1⟩ := hB
        rw [ht] at hP1
        have hK1 := va_K.moved hvm.symm hK1
        try dsimp only at hw
        have hPD := va_join (wr := [(qf0, .inr (7, [.ref qf0_0, .ref qf0_1, .ref qf0_2, .int v0_3, .int v0_4, .ref qf0_5, .ref qf0_6, .ref qf0_7])), (qf9, .inl (cf9, 2001, .inl f9)), (qf0_0, .inr (4, [.ref qf0_0_0, .ref qf0_0_1])), (qf0_0_1, .inl (cf0_0_1, 256, .inl f0_0_1))]) (w1 := [(h0, .inr (5, [.ref qf0, .int u10_3, .int v2, .int v3, .int v4, .int v5, .int v6, .int v7, .ref qf8, .ref qf9, .ref qf10, .ref qf11, .ref qf12, .ref qf13, .ref qf14, .ref qf15, .ref qf16, .int v17, .ref qf18, .int v19, .int v20])), (qf14, .inl (cf14, 60, .inl g910_1)), (qf16, .inl (cf16, 1800, .inl g910_2)), (qf13, .inl (cf13, 60, .inl g910_0))]) hP hD [5, 3, 4, 0] [1, 2, 6, 7] rfl rfl (by decide) (by decide) hk1 hFc hP1 hD1
        clear hP hD
        obtain ⟨hP, hD⟩ := hPD
        replace hK := (hK.sub (tys' := [(cf9, .int), (cf0_0_1, .boolean)]) [1, 4] rfl).app hK1
        clear hPc hDc hKc hFc hP1 hK1 hD1 hz1 hk1 ht hvm
        generalize H1 = H at hP hS ⊢
        replace hP : va_P (dC, dI) vwCl [(qf0, .inr (7, [.ref qf0_0, .ref qf0_1, .ref qf0_2, .int v0_3, .int v0_4, .ref qf0_5, .ref qf0_6, .ref qf0_7])), (qf9, .inl (cf9, 2001, .inl f9)), (qf0_0, .inr (4, [.ref qf0_0_0, .ref qf0_0_1])), (qf0_0_1, .inl (cf0_0_1, 256, .inl f0_0_1)), (h0, .inr (5, [.ref qf0, .int u10_3, .int v2, .int v3, .int v4, .int v5, .int v6, .int v7, .ref qf8, .ref qf9, .ref qf10, .ref qf11, .ref qf12, .ref qf13, .ref qf14, .ref qf15, .ref qf16, .int v17, .ref qf18, .int v19, .int v20])), (qf14, .inl (cf14, 60, .inl g910_1)), (qf16, .inl (cf16, 1800, .inl g910_2)), (qf13, .inl (cf13, 60, .inl g910_0))] H := hP
        replace hD : va_D A [(qf0, .inr (7, [.ref qf0_0, .ref qf0_1, .ref qf0_2, .int v0_3, .int v0_4, .ref qf0_5, .ref qf0_6, .ref qf0_7])), (qf9, .inl (cf9, 2001, .inl f9)), (qf0_0, .inr (4, [.ref qf0_0_0, .ref qf0_0_1])), (qf0_0_1, .inl (cf0_0_1, 256, .inl f0_0_1)), (h0, .inr (5, [.ref qf0, .int u10_3, .int v2, .int v3, .int v4, .int v5, .int v6, .int v7, .ref qf8, .ref qf9, .ref qf10, .ref qf11, .ref qf12, .ref qf13, .ref qf14, .ref qf15, .ref qf16, .int v17, .ref qf18, .int v19, .int v20])), (qf14, .inl (cf14, 60, .inl g910_1)), (qf16, .inl (cf16, 1800, .inl g910_2)), (qf13, .inl (cf13, 60, .inl g910_0))] := hD
        replace hK : va_K (dC, dI) vwCl [(cf9, .int), (cf0_0_1, .boolean), (cf14, .int), (cf16, .int), (cf13, .int)] s := hK
        refine lv_goto (tgt := 89) hx hb dX5_stepKin_62 (by decide) ?_
        have hr0 := Option.some.inj hsp
        clear hsp
        obtain ⟨hq0, hr1⟩ := Prod.mk.inj hr0
        clear hr0
        obtain ⟨hq1, hr2⟩ := Prod.mk.inj hr1
        clear hr1
        obtain ⟨hq2, hr3⟩ := Prod.mk.inj hr2
        clear hr2
        obtain ⟨hq3, hr4⟩ := Prod.mk.inj hr3
        clear hr3
        subst hq0
        subst hq1
        subst hq2
        subst hq3
        subst hr4
        have hP9 := hP.sub (ws' := [(h0, .inr (5, [.ref qf0, .int u10_3, .int v2, .int v3, .int v4, .int v5, .int v6, .int v7, .ref qf8, .ref qf9, .ref qf10, .ref qf11, .ref qf12, .ref qf13, .ref qf14, .ref qf15, .ref qf16, .int v17, .ref qf18, .int v19, .int v20])), (qf14, .inl (cf14, 60, .inl g910_1)), (qf16, .inl (cf16, 1800, .inl g910_2)), (qf13, .inl (cf13, 60, .inl g910_0)), (qf0, .inr (7, [.ref qf0_0, .ref qf0_1, .ref qf0_2, .int v0_3, .int v0_4, .ref qf0_5, .ref qf0_6, .ref qf0_7])), (qf9, .inl (cf9, 2001, .inl f9)), (qf0_0, .inr (4, [.ref qf0_0_0, .ref qf0_0_1])), (qf0_0_1, .inl (cf0_0_1, 256, .inl f0_0_1))]) [4, 5, 6, 7, 0, 1, 2, 3] rfl
        have hD9 := hD.sub (ws' := [(h0, .inr (5, [.ref qf0, .int u10_3, .int v2, .int v3, .int v4, .int v5, .int v6, .int v7, .ref qf8, .ref qf9, .ref qf10, .ref qf11, .ref qf12, .ref qf13, .ref qf14, .ref qf15, .ref qf16, .int v17, .ref qf18, .int v19, .int v20])), (qf14, .inl (cf14, 60, .inl g910_1)), (qf16, .inl (cf16, 1800, .inl g910_2)), (qf13, .inl (cf13, 60, .inl g910_0)), (qf0, .inr (7, [.ref qf0_0, .ref qf0_1, .ref qf0_2, .int v0_3, .int v0_4, .ref qf0_5, .ref qf0_6, .ref qf0_7])), (qf9, .inl (cf9, 2001, .inl f9)), (qf0_0, .inr (4, [.ref qf0_0_0, .ref qf0_0_1])), (qf0_0_1, .inl (cf0_0_1, 256, .inl f0_0_1))]) [4, 5, 6, 7, 0, 1, 2, 3] (by decide) rfl
        have hK9 := hK.sub (tys' := [(cf14, .int), (cf16, .int), (cf13, .int), (cf9, .int), (cf0_0_1, .boolean)]) [2, 3, 4, 0, 1] rfl
        exact W.vret hx hb hr (fun t ht hW => ⟨⟨(), rfl, trivial, by rw [ht]; exact hP9, va_K.moved hW.alike hK9, hD9⟩, hS.F ht⟩) hS.2.2 dX5_stepKin_89
def sp_t5_stepThrow (nf : Nat) (v1 : Int32) (v17 : Int32) (f14 : Nat → Int32) (f16 : Nat → Int32) : Option ((Nat → Int32) × Int32 × Int32) := ((sp_t5_pop nf v1 v17 f14 f16).bind (fun p1 => (if p1.1 = 0 then (some (p1.2.1, p1.2.2, (-2))) else (some (p1.2.1, p1.2.2, p1.1)))))
