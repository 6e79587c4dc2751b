set_option maxHeartbeats 4000000 in
set_option maxRecDepth 100000 in
/-- ClassMill$Heads.nameOfType -/
theorem t2_nameOfType (l : Launch) (dC : Nat → ClassId) (dI : Nat → Nat → Nat) (sz : Nat) (h0 : Nat) (a1 : Int32) (qf0 : Nat) (qf1 : Nat) (v2 : Int32) (qf3 : Nat) (qf4 : Nat) (qf5 : Nat) (qf6 : Nat) (qf7 : Nat) (qf8 : Nat) (qf9 : Nat) (qf10 : Nat) (qf11 : Nat) (qf12 : Nat) (qf13 : Nat) (qf14 : Nat) (qf15 : Nat) (qf16 : Nat) (qf17 : Nat) (qf18 : Nat) (qf19 : Nat) (v20 : Int32) (cf18 : ClassId) (f18 : (Nat → Int32)) (nf : Nat) (r0 : Int32) (hsp : sp_t2_nameOfType nf a1 f18 = some r0) : Met l yX2_nameOfType (.code yX2_nameOfType cX2_nameOfType 3 (some .int) :: VS_h4) ({ frames := 0, cells := 0, slots := 0, locals := 0 }) (va_Pc [.ref h0, .int a1] (fun U => U.heap.size = sz ∧ va_P (dC, dI) vwCl [(h0, .inr (2, [.ref qf0, .ref qf1, .int v2, .ref qf3, .ref qf4, .ref qf5, .ref qf6, .ref qf7, .ref qf8, .ref qf9, .ref qf10, .ref qf11, .ref qf12, .ref qf13, .ref qf14, .ref qf15, .ref qf16, .ref qf17, .ref qf18, .ref qf19, .int v20])), (qf18, .inl (cf18, 32, .inl f18))] U.heap ∧ va_K (dC, dI) vwCl [(cf18, .int)] U ∧ va_D (fun _ => True) [(h0, .inr (2, [.ref qf0, .ref qf1, .int v2, .ref qf3, .ref qf4, .ref qf5, .ref qf6, .ref qf7, .ref qf8, .ref qf9, .ref qf10, .ref qf11, .ref qf12, .ref qf13, .ref qf14, .ref qf15, .ref qf16, .ref qf17, .ref qf18, .ref qf19, .int v20])), (qf18, .inl (cf18, 32, .inl f18))])) (va_Qi (fun (r : Int32) (u : Unit) => match u with | () => r0 = r) (fun (u : Unit) (t : State) => match u with | () => va_P (dC, dI) vwCl [(h0, .inr (2, [.ref qf0, .ref qf1, .int v2, .ref qf3, .ref qf4, .ref qf5, .ref qf6, .ref qf7, .ref qf8, .ref qf9, .ref qf10, .ref qf11, .ref qf12, .ref qf13, .ref qf14, .ref qf15, .ref qf16, .ref qf17, .ref qf18, .ref qf19, .int v20])), (qf18, .inl (cf18, 32, .inl f18))] t.heap ∧ va_K (dC, dI) vwCl [(cf18, .int)] t ∧ va_D (va_A [(h0, .inr (2, [.ref qf0, .ref qf1, .int v2, .ref qf3, .ref qf4, .ref qf5, .ref qf6, .ref qf7, .ref qf8, .ref qf9, .ref qf10, .ref qf11, .ref qf12, .ref qf13, .ref qf14, .ref qf15, .ref qf16, .ref qf17, .ref qf18, .ref qf19, .int v20])), (qf18, .inl (cf18, 32, .inl f18))] sz) [(h0, .inr (2, [.ref qf0, .ref qf1, .int v2, .ref qf3, .ref qf4, .ref qf5, .ref qf6, .ref qf7, .ref qf8, .ref qf9, .ref qf10, .ref qf11, .ref qf12, .ref qf13, .ref qf14, .ref qf15, .ref qf16, .ref qf17, .ref qf18, .ref qf19, .int v20])), (qf18, .inl (cf18, 32, .inl f18))]) (va_A [(h0, .inr (2, [.ref qf0, .ref qf1, .int v2, .ref qf3, .ref qf4, .ref qf5, .ref qf6, .ref qf7, .ref qf8, .ref qf9, .ref qf10, .ref qf11, .ref qf12, .ref qf13, .ref qf14, .ref qf15, .ref qf16, .ref qf17, .ref qf18, .ref qf19, .int v20])), (qf18, .inl (cf18, 32, .inl f18))] sz)) 0 0 (va_A [(h0, .inr (2, [.ref qf0, .ref qf1, .int v2, .ref qf3, .ref qf4, .ref qf5, .ref qf6, .ref qf7, .ref qf8, .ref qf9, .ref qf10, .ref qf11, .ref qf12, .ref qf13, .ref qf14, .ref qf15, .ref qf16, .ref qf17, .ref qf18, .ref qf19, .int v20])), (qf18, .inl (cf18, 32, .inl f18))] sz) := by
  refine Met.ofW (cc := cX2_nameOfType) (maxL := 3) (ret := (some .int)) (by decide) rfl ?_
  intro p e s m args below meth c s₁ B hml hv
  obtain ⟨rfl, hsz, hP, hK, hD0⟩ := hv
  have hx := B.exec
  have hb := B.bytes
  have hr := B.returns
  have hts := atoms_spec (ws := (.code yX2_nameOfType cX2_nameOfType 3 (some .int) :: VS_h4)) B.pre
  replace hts := fun w (h : w ∈ VS_h4) => hts w (List.mem_cons_of_mem _ h)
  have hown : s.vm.findClass RX2 = some m.cls := findClass_of_methodNamed B.named
  have hlocks := B.notSynchronized
  subst hsz
  have hD := hD0.self (sz := s.heap.size)
  generalize hAe : va_A [(h0, .inr (2, [.ref qf0, .ref qf1, .int v2, .ref qf3, .ref qf4, .ref qf5, .ref qf6, .ref qf7, .ref qf8, .ref qf9, .ref qf10, .ref qf11, .ref qf12, .ref qf13, .ref qf14, .ref qf15, .ref qf16, .ref qf17, .ref qf18, .ref qf19, .int v20])), (qf18, .inl (cf18, 32, .inl f18))] s.heap.size = A at hD  ⊢
  have hA : ∀ q : Nat, s.heap.size ≤ q → A q := fun q h => by rw [← hAe]; exact Or.inr h
  have hP : va_P (dC, dI) vwCl [(h0, .inr (2, [.ref qf0, .ref qf1, .int v2, .ref qf3, .ref qf4, .ref qf5, .ref qf6, .ref qf7, .ref qf8, .ref qf9, .ref qf10, .ref qf11, .ref qf12, .ref qf13, .ref qf14, .ref qf15, .ref qf16, .ref qf17, .ref qf18, .ref qf19, .int v20])), (qf18, .inl (cf18, 32, .inl f18))] s.heap := hP
  have hl := lv_entry ([.ref h0, .int a1]) (n := 3) (Nat.le_of_ble_eq_true rfl)
  rw [lg_entry_eq]
  generalize (lg_sl ([.ref h0, .int a1]) ++ List.replicate (3 - (lg_sl ([.ref h0, .int a1])).length) Slot.unset).toArray = ls at hl ⊢
  have hl : lv_has ls 3 [(0, .ref h0), (1, .int a1)] := hl
  obtain ⟨H, hH⟩ : ∃ H : Heap, s.heap = H := ⟨_, rfl⟩
  rw [hH] at hP ⊢
  have hS : va_S A s.heap H [] := by rw [← hH]; exact va_S.rf
  obtain ⟨locs, hlo⟩ : ∃ locs : List Loc, locs = [] := ⟨_, rfl⟩
  rw [← hlo] at hS ⊢
  unfold sp_t2_nameOfType at hsp
  refine lv_iload_n hx hb dX2_nameOfType_0 rfl (lv_at hl 1 rfl) ?_
  refine lv_if_lt (tgt := 17) hx hb dX2_nameOfType_1 (by decide) (fun c_1 => ?_) (fun c_1 => ?_)
  · rw [if_pos c_1] at hsp
    refine lv_iload_n hx hb dX2_nameOfType_17 rfl (lv_at hl 1 rfl) ?_
    refine lv_bipush (v := 100) hx hb dX2_nameOfType_18 (by decide) ?_
    refine lv_icmp_lt (tgt := 33) hx hb dX2_nameOfType_20 (by decide) (fun c_2 => ?_) (fun c_2 => ?_)
    · rw [if_pos c_2] at hsp
      refine lv_iconst (v := 0) hx hb dX2_nameOfType_33 (by decide) ?_
      refine lv_istore_n (lv' := [(2, .int 0), (0, .ref h0), (1, .int a1)]) hx hb dX2_nameOfType_34 rfl hl (by decide) rfl (fun ls hl => ?_)
      refine lv_iload_n hx hb dX2_nameOfType_35 rfl (lv_at hl 0 rfl) ?_
      refine lv_if_eq (tgt := 54) hx hb dX2_nameOfType_36 (by decide) (fun c_3 => ?_) (fun c_3 => (show False by revert c_3; decide).elim)
      refine lv_bipush (v := 31) hx hb dX2_nameOfType_54 (by decide) ?_
      have hr0 := Option.some.inj hsp
      clear hsp
      subst hr0
      have hP9 := hP.sub (ws' := [(h0, .inr (2, [.ref qf0, .ref qf1, .int v2, .ref qf3, .ref qf4, .ref qf5, .ref qf6, .ref qf7, .ref qf8, .ref qf9, .ref qf10, .ref qf11, .ref qf12, .ref qf13, .ref qf14, .ref qf15, .ref qf16, .ref qf17, .ref qf18, .ref qf19, .int v20])), (qf18, .inl (cf18, 32, .inl f18))]) [0, 1] rfl
      have hD9 := hD.sub (ws' := [(h0, .inr (2, [.ref qf0, .ref qf1, .int v2, .ref qf3, .ref qf4, .ref qf5, .ref qf6, .ref qf7, .ref qf8, .ref qf9, .ref qf10, .ref qf11, .ref qf12, .ref qf13, .ref qf14, .ref qf15, .ref qf16, .ref qf17, .ref qf18, .ref qf19, .int v20])), (qf18, .inl (cf18, 32, .inl f18))]) [0, 1] (by decide) rfl
      have hK9 := hK.sub (tys' := [(cf18, .int)]) [0] rfl
      exact W.iret hx hb hr (fun t ht hW => ⟨⟨(31), (), rfl, rfl, by rw [ht]; exact hP9, va_K.moved hW.alike hK9, hD9⟩, hS.F ht⟩) hS.2.2 dX2_nameOfType_56
    · rw [if_neg c_2] at hsp
      refine lv_iload_n hx hb dX2_nameOfType_23 rfl (lv_at hl 1 rfl) ?_
      refine lv_bipush (v := 116) hx hb dX2_nameOfType_24 (by decide) ?_
      refine lv_icmp_ge (tgt := 33) hx hb dX2_nameOfType_26 (by decide) (fun c_4 => ?_) (fun c_4 => ?_)
      · rw [if_pos c_4] at hsp
        refine lv_iconst (v := 0) hx hb dX2_nameOfType_33 (by decide) ?_
        refine lv_istore_n (lv' := [(2, .int 0), (0, .ref h0), (1, .int a1)]) hx hb dX2_nameOfType_34 rfl hl (by decide) rfl (fun ls hl => ?_)
        refine lv_iload_n hx hb dX2_nameOfType_35 rfl (lv_at hl 0 rfl) ?_
        refine lv_if_eq (tgt := 54) hx hb dX2_nameOfType_36 (by decide) (fun c_5 => ?_) (fun c_5 => (show False by revert c_5; decide).elim)
        refine lv_bipush (v := 31) hx hb dX2_nameOfType_54 (by decide) ?_
        have hr0 := Option.some.inj hsp
        clear hsp
        subst hr0
        have hP9 := hP.sub (ws' := [(h0, .inr (2, [.ref qf0, .ref qf1, .int v2, .ref qf3, .ref qf4, .ref qf5, .ref qf6, .ref qf7, .ref qf8, .ref qf9, .ref qf10, .ref qf11, .ref qf12, .ref qf13, .ref qf14, .ref qf15, .ref qf16, .ref qf17, .ref qf18, .ref qf19, .int v20])), (qf18, .inl (cf18, 32, .inl f18))]) [0, 1] rfl
        have hD9 := hD.sub (ws' := [(h0, .inr (2, [.ref qf0, .ref qf1, .int v2, .ref qf3, .ref qf4, .ref qf5, .ref qf6, .ref qf7, .ref qf8, .ref qf9, .ref qf10, .ref qf11, .ref qf12, .ref qf13, .ref qf14, .ref qf15, .ref qf16, .ref qf17, .ref qf18, .ref qf19, .int v20])), (qf18, .inl (cf18, 32, .inl f18))]) [0, 1] (by decide) rfl
        have hK9 := hK.sub (tys' := [(cf18, .int)]) [0] rfl
        exact W.iret hx hb hr (fun t ht hW => ⟨⟨(31), (), rfl, rfl, by rw [ht]; exact hP9, va_K.moved hW.alike hK9, hD9⟩, hS.F ht⟩) hS.2.2 dX2_nameOfType_56
      · rw [if_neg c_4] at hsp
        refine lv_iconst (v := 1) hx hb dX2_nameOfType_29 (by decide) ?_
        refine lv_goto (tgt := 34) hx hb dX2_nameOfType_30 (by decide) ?_
        refine lv_istore_n (lv' := [(2, .int 1), (0, .ref h0), (1, .int a1)]) hx hb dX2_nameOfType_34 rfl hl (by decide) rfl (fun ls hl => ?_)
        refine lv_iload_n hx hb dX2_nameOfType_35 rfl (lv_at hl 0 rfl) ?_
        refine lv_if_eq (tgt := 54) hx hb dX2_nameOfType_36 (by decide) (fun c_6 => (show False by revert c_6; decide).elim) (fun c_6 => ?_)
        refine lv_aload_n hx hb dX2_nameOfType_39 rfl (lv_at hl 1 rfl) ?_
        refine va_get (D := (dC, dI)) (ci := 2) (v := .ref qf18) (C := RX2) (T := TX2) (N := 21) hx hb hts uV_h4_X2 hown hK hP 0 rfl rfl 18 (by decide) (hts (.fieldLink RX2 67 "ClassMill$Heads" "typeName" "[I") mw_h4_147) (fun _ h9 => h9) rfl dX2_nameOfType_40 ?_
        refine lv_bipush (v := 16) hx hb dX2_nameOfType_43 (by decide) ?_
        refine lv_iload_n hx hb dX2_nameOfType_45 rfl (lv_at hl 2 rfl) ?_
        refine lv_iadd hx hb dX2_nameOfType_46 ?_
        refine lv_bipush (v := 100) hx hb dX2_nameOfType_47 (by decide) ?_
        refine lv_isub hx hb dX2_nameOfType_49 ?_
        obtain ⟨hi_7, hsp⟩ := ox_in hsp
        refine va_iald hx hb hK hP 1 0 rfl rfl (i := ((16 + a1) - 100)) hi_7 dX2_nameOfType_50 ?_
        refine lv_goto (tgt := 56) hx hb dX2_nameOfType_51 (by decide) ?_
        have hr0 := Option.some.inj hsp
        clear hsp
        subst hr0
        have hP9 := hP.sub (ws' := [(h0, .inr (2, [.ref qf0, .ref qf1, .int v2, .ref qf3, .ref qf4, .ref qf5, .ref qf6, .ref qf7, .ref qf8, .ref qf9, .ref qf10, .ref qf11, .ref qf12, .ref qf13, .ref qf14, .ref qf15, .ref qf16, .ref qf17, .ref qf18, .ref qf19, .int v20])), (qf18, .inl (cf18, 32, .inl f18))]) [0, 1] rfl
        have hD9 := hD.sub (ws' := [(h0, .inr (2, [.ref qf0, .ref qf1, .int v2, .ref qf3, .ref qf4, .ref qf5, .ref qf6, .ref qf7, .ref qf8, .ref qf9, .ref qf10, .ref qf11, .ref qf12, .ref qf13, .ref qf14, .ref qf15, .ref qf16, .ref qf17, .ref qf18, .ref qf19, .int v20])), (qf18, .inl (cf18, 32, .inl f18))]) [0, 1] (by decide) rfl
        have hK9 := hK.sub (tys' := [(cf18, .int)]) [0] rfl
        exact W.iret hx hb hr (fun t ht hW => ⟨⟨((f18 (((16 + a1) - 100) : Int32).toNatClampNeg)), (), rfl, rfl, by rw [ht]; exact hP9, va_K.moved hW.alike hK9, hD9⟩, hS.F ht⟩) hS.2.2 dX2_nameOfType_56
  · rw [if_neg c_1] at hsp
    refine lv_iload_n hx hb dX2_nameOfType_4 rfl (lv_at hl 1 rfl) ?_
    refine lv_bipush (v := 16) hx hb dX2_nameOfType_5 (by decide) ?_
    refine lv_icmp_ge (tgt := 17) hx hb dX2_nameOfType_7 (by decide) (fun c_8 => ?_) (fun c_8 => ?_)
    · rw [if_pos c_8] at hsp
      refine lv_iload_n hx hb dX2_nameOfType_17 rfl (lv_at hl 1 rfl) ?_
      refine lv_bipush (v := 100) hx hb dX2_nameOfType_18 (by decide) ?_
      refine lv_icmp_lt (tgt := 33) hx hb dX2_nameOfType_20 (by decide) (fun c_9 => ?_) (fun c_9 => ?_)
      · rw [if_pos c_9] at hsp
        refine lv_iconst (v := 0) hx hb dX2_nameOfType_33 (by decide) ?_
        refine lv_istore_n (lv' := [(2, .int 0), (0, .ref h0), (1, .int a1)]) hx hb dX2_nameOfType_34 rfl hl (by decide) rfl (fun ls hl => ?_)
        refine lv_iload_n hx hb dX2_nameOfType_35 rfl (lv_at hl 0 rfl) ?_
        refine lv_if_eq (tgt := 54) hx hb dX2_nameOfType_36 (by decide) (fun c_10 => ?_) (fun c_10 => (show False by revert c_10; decide).elim)
        refine lv_bipush (v := 31) hx hb dX2_nameOfType_54 (by decide) ?_
        have hr0 := Option.some.inj hsp
        clear hsp
        subst hr0
        have hP9 := hP.sub (ws' := [(h0, .inr (2, [.ref qf0, .ref qf1, .int v2, .ref qf3, .ref qf4, .ref qf5, .ref qf6, .ref qf7, .ref qf8, .ref qf9, .ref qf10, .ref qf11, .ref qf12, .ref qf13, .ref qf14, .ref qf15, .ref qf16, .ref qf17, .ref qf18, .ref qf19, .int v20])), (qf18, .inl (cf18, 32, .inl f18))]) [0, 1] rfl
        have hD9 := hD.sub (ws' := [(h0, .inr (2, [.ref qf0, .ref qf1, .int v2, .ref qf3, .ref qf4, .ref qf5, .ref qf6, .ref qf7, .ref qf8, .ref qf9, .ref qf10, .ref qf11, .ref qf12, .ref qf13, .ref qf14, .ref qf15, .ref qf16, .ref qf17, .ref qf18, .ref qf19, .int v20])), (qf18, .inl (cf18, 32, .inl f18))]) [0, 1] (by decide) rfl
        have hK9 := hK.sub (tys' := [(cf18, .int)]) [0] rfl
        exact W.iret hx hb hr (fun t ht hW => ⟨⟨(31), (), rfl, rfl, by rw [ht]; exact hP9, va_K.moved hW.alike hK9, hD9⟩, hS.F ht⟩) hS.2.2 dX2_nameOfType_56
      · rw [if_neg c_9] at hsp
        refine lv_iload_n hx hb dX2_nameOfType_23 rfl (lv_at hl 1 rfl) ?_
        refine lv_bipush (v := 116) hx hb dX2_nameOfType_24 (by decide) ?_
        refine lv_icmp_ge (tgt := 33) hx hb dX2_nameOfType_26 (by decide) (fun c_11 => ?_) (fun c_11 => ?_)
        · rw [if_pos c_11] at hsp
          refine lv_iconst (v := 0) hx hb dX2_nameOfType_33 (by decide) ?_
          refine lv_istore_n (lv' := [(2, .int 0), (0, .ref h0), (1, .int a1)]) hx hb dX2_nameOfType_34 rfl hl (by decide) rfl (fun ls hl => ?_)
          refine lv_iload_n hx hb dX2_nameOfType_35 rfl (lv_at hl 0 rfl) ?_
          refine lv_if_eq (tgt := 54) hx hb dX2_nameOfType_36 (by decide) (fun c_12 => ?_) (fun c_12 => (show False by revert c_12; decide).elim)
          refine lv_bipush (v := 31) hx hb dX2_nameOfType_54 (by decide) ?_
          have hr0 := Option.some.inj hsp
          clear hsp
          subst hr0
          have hP9 := hP.sub (ws' := [(h0, .inr (2, [.ref qf0, .ref qf1, .int v2, .ref qf3, .ref qf4, .ref qf5, .ref qf6, .ref qf7, .ref qf8, .ref qf9, .ref qf10, .ref qf11, .ref qf12, .ref qf13, .ref qf14, .ref qf15, .ref qf16, .ref qf17, .ref qf18, .ref qf19, .int v20])), (qf18, .inl (cf18, 32, .inl f18))]) [0, 1] rfl
          have hD9 := hD.sub (ws' := [(h0, .inr (2, [.ref qf0, .ref qf1, .int v2, .ref qf3, .ref qf4, .ref qf5, .ref qf6, .ref qf7, .ref qf8, .ref qf9, .ref qf10, .ref qf11, .ref qf12, .ref qf13, .ref qf14, .ref qf15, .ref qf16, .ref qf17, .ref qf18, .ref qf19, .int v20])), (qf18, .inl (cf18, 32, .inl f18))]) [0, 1] (by decide) rfl
          have hK9 := hK.sub (tys' := [(cf18, .int)]) [0] rfl
          exact W.iret hx hb hr (fun t ht hW => ⟨⟨(31), (), rfl, rfl, by rw [ht]; exact hP9, va_K.moved hW.alike hK9, hD9⟩, hS.F ht⟩) hS.2.2 dX2_nameOfType_56
        · rw [if_neg c_11] at hsp
          refine lv_iconst (v := 1) hx hb dX2_nameOfType_29 (by decide) ?_
          refine lv_goto (tgt := 34) hx hb dX2_nameOfType_30 (by decide) ?_
          refine lv_istore_n (lv' := [(2, .int 1), (0, .ref h0), (1, .int a1)]) hx hb dX2_nameOfType_34 rfl hl (by decide) rfl (fun ls hl => ?_)
          refine lv_iload_n hx hb dX2_nameOfType_35 rfl (lv_at hl 0 rfl) ?_
          refine lv_if_eq (tgt := 54) hx hb dX2_nameOfType_36 (by decide) (fun c_13 => (show False by revert c_13; decide).elim) (fun c_13 => ?_)
          refine lv_aload_n hx hb dX2_nameOfType_39 rfl (lv_at hl 1 rfl) ?_
          refine va_get (D := (dC, dI)) (ci := 2) (v := .ref qf18) (C := RX2) (T := TX2) (N := 21) hx hb hts uV_h4_X2 hown hK hP 0 rfl rfl 18 (by decide) (hts (.fieldLink RX2 67 "ClassMill$Heads" "typeName" "[I") mw_h4_147) (fun _ h9 => h9) rfl dX2_nameOfType_40 ?_
          refine lv_bipush (v := 16) hx hb dX2_nameOfType_43 (by decide) ?_
          refine lv_iload_n hx hb dX2_nameOfType_45 rfl (lv_at hl 2 rfl) ?_
          refine lv_iadd hx hb dX2_nameOfType_46 ?_
          refine lv_bipush (v := 100) hx hb dX2_nameOfType_47 (by decide) ?_
          refine lv_isub hx hb dX2_nameOfType_49 ?_
          obtain ⟨hi_14, hsp⟩ := ox_in hsp
          refine va_iald hx hb hK hP 1 0 rfl rfl (i := ((16 + a1) - 100)) hi_14 dX2_nameOfType_50 ?_
          refine lv_goto (tgt := 56) hx hb dX2_nameOfType_51 (by decide) ?_
          have hr0 := Option.some.inj hsp
          clear hsp
          subst hr0
          have hP9 := hP.sub (ws' := [(h0, .inr (2, [.ref qf0, .ref qf1, .int v2, .ref qf3, .ref qf4, .ref qf5, .ref qf6, .ref qf7, .ref qf8, .ref qf9, .ref qf10, .ref qf11, .ref qf12, .ref qf13, .ref qf14, .ref qf15, .ref qf16, .ref qf17, .ref qf18, .ref qf19, .int v20])), (qf18, .inl (cf18, 32, .inl f18))]) [0, 1] rfl
          have hD9 := hD.sub (ws' := [(h0, .inr (2, [.ref qf0, .ref qf1, .int v2, .ref qf3, .ref qf4, .ref qf5, .ref qf6, .ref qf7, .ref qf8, .ref qf9, .ref qf10, .ref qf11, .ref qf12, .ref qf13, .ref qf14, .ref qf15, .ref qf16, .ref qf17, .ref qf18, .ref qf19, .int v20])), (qf18, .inl (cf18, 32, .inl f18))]) [0, 1] (by decide) rfl
          have hK9 := hK.sub (tys' := [(cf18, .int)]) [0] rfl
          exact W.iret hx hb hr (fun t ht hW => ⟨⟨((f18 (((16 + a1) - 100) : Int32).toNatClampNeg)), (), rfl, rfl, by rw [ht]; exact hP9, va_K.moved hW.alike hK9, hD9⟩, hS.F ht⟩) hS.2.2 dX2_nameOfType_56
    · rw [if_neg c_8] at hsp
      refine lv_aload_n hx hb dX2_nameOfType_10 rfl (lv_at hl 0 rfl) ?_
      refine va_get (D := (dC, dI)) (ci := 2) (v := .ref qf18) (C := RX2) (T := TX2) (N := 21) hx hb hts uV_h4_X2 hown hK hP 0 rfl rfl 18 (by decide) (hts (.fieldLink RX2 67 "ClassMill$Heads" "typeName" "[I") mw_h4_147) (fun _ h9 => h9) rfl dX2_nameOfType_11 ?_
      refine lv_iload_n hx hb dX2_nameOfType_14 rfl (lv_at hl 1 rfl) ?_
      obtain ⟨hi_15, hsp⟩ := ox_in hsp
      refine va_iald hx hb hK hP 1 0 rfl rfl (i := a1) hi_15 dX2_nameOfType_15 ?_
      have hr0 := Option.some.inj hsp
      clear hsp
      subst hr0
      have hP9 := hP.sub (ws' := [(h0, .inr (2, [.ref qf0, .ref qf1, .int v2, .ref qf3, .ref qf4, .ref qf5, .ref qf6, .ref qf7, .ref qf8, .ref qf9, .ref qf10, .ref qf11, .ref qf12, .ref qf13, .ref qf14, .ref qf15, .ref qf16, .ref qf17, .ref qf18, .ref qf19, .int v20])), (qf18, .inl (cf18, 32, .inl f18))]) [0, 1] rfl
      have hD9 := hD.sub (ws' := [(h0, .inr (2, [.ref qf0, .ref qf1, .int v2, .ref qf3, .ref qf4, .ref qf5, .ref qf6, .ref qf7, .ref qf8, .ref qf9, .ref qf10, .ref qf11, .ref qf12, .ref qf13, .ref qf14, .ref qf15, .ref qf16, .ref qf17, .ref qf18, .ref qf19, .int v20])), (qf18, .inl (cf18, 32, .inl f18))]) [0, 1] (by decide) rfl
      have hK9 := hK.sub (tys' := [(cf18, .int)]) [0] rfl
      exact W.iret hx hb hr (fun t ht hW => ⟨⟨((f18 (a1 : Int32).toNatClampNeg)), (), rfl, rfl, by rw [ht]; exact hP9, va_K.moved hW.alike hK9, hD9⟩, hS.F ht⟩) hS.2.2 dX2_nameOfType_16
def sp_t2_tokenOfClass (nf : Nat) (a1 : Int32) (v2 : Int32) (f3 : Nat → Int32) : Option (Int32) := (if a1 < 0 then (some (-1)) else (if v2 ≤ a1 then (some (-1)) else (if a1 < 0 then none else if 334 ≤ (a1 : Int32).toNatClampNeg then none else (some (f3 (a1 : Int32).toNatClampNeg)))))
set_option maxHeartbeats 4000000 in
set_option maxRecDepth 100000 in
/-- ClassMill$Heads.tokenOfClass -/
theorem t2_tokenOfClass (l : Launch) (dC : Nat → ClassId) (dI : Nat → Nat → Nat) (sz : Nat) (h0 : Nat) (a1 : Int32) (qf0 : Nat) (qf1 : Nat) (v2 : Int32) (qf3 : Nat) (qf4 : Nat) (qf5 : Nat) (qf6 : Nat) (qf7 : Nat) (qf8 : Nat) (qf9 : Nat) (qf10 : Nat) (qf11 : Nat) (qf12 : Nat) (qf13 : Nat) (qf14 : Nat) (qf15 : Nat) (qf16 : Nat) (qf17 : Nat) (qf18 : Nat) (qf19 : Nat) (v20 : Int32) (cf3 : ClassId) (f3 : (Nat → Int32)) (nf : Nat) (r0 : Int32) (hsp : sp_t2_tokenOfClass nf a1 v2 f3 = some r0) : Met l yX2_tokenOfClass (.code yX2_tokenOfClass cX2_tokenOfClass 2 (some .int) :: VS_h4) ({ frames := 0, cells := 0, slots := 0, locals := 0 }) (va_Pc [.ref h0, .int a1] (fun U => U.heap.size = sz ∧ va_P (dC, dI) vwCl [(h0, .inr (2, [.ref qf0, .ref qf1, .int v2, .ref qf3, .ref qf4, .ref qf5, .ref qf6, .ref qf7, .ref qf8, .ref qf9, .ref qf10, .ref qf11, .ref qf12, .ref qf13, .ref qf14, .ref qf15, .ref qf16, .ref qf17, .ref qf18, .ref qf19, .int v20])), (qf3, .inl (cf3, 334, .inl f3))] U.heap ∧ va_K (dC, dI) vwCl [(cf3, .int)] U ∧ va_D (fun _ => True) [(h0, .inr (2, [.ref qf0, .ref qf1, .int v2, .ref qf3, .ref qf4, .ref qf5, .ref qf6, .ref qf7, .ref qf8, .ref qf9, .ref qf10, .ref qf11, .ref qf12, .ref qf13, .ref qf14, .ref qf15, .ref qf16, .ref qf17, .ref qf18, .ref qf19, .int v20])), (qf3, .inl (cf3, 334, .inl f3))])) (va_Qi (fun (r : Int32) (u : Unit) => match u with | () => r0 = r) (fun (u : Unit) (t : State) => match u with | () => va_P (dC, dI) vwCl [(h0, .inr (2, [.ref qf0, .ref qf1, .int v2, .ref qf3, .ref qf4, .ref qf5, .ref qf6, .ref qf7, .ref qf8, .ref qf9, .ref qf10, .ref qf11, .ref qf12, .ref qf13, .ref qf14, .ref qf15, .ref qf16, .ref qf17, .ref qf18, .ref qf19, .int v20])), (qf3, .inl (cf3, 334, .inl f3))] t.heap ∧ va_K (dC, dI) vwCl [(cf3, .int)] t ∧ va_D (va_A [(h0, .inr (2, [.ref qf0, .ref qf1, .int v2, .ref qf3, .ref qf4, .ref qf5, .ref qf6, .ref qf7, .ref qf8, .ref qf9, .ref qf10, .ref qf11, .ref qf12, .ref qf13, .ref qf14, .ref qf15, .ref qf16, .ref qf17, .ref qf18, .ref qf19, .int v20])), (qf3, .inl (cf3, 334, .inl f3))] sz) [(h0, .inr (2, [.ref qf0, .ref qf1, .int v2, .ref qf3, .ref qf4, .ref qf5, .ref qf6, .ref qf7, .ref qf8, .ref qf9, .ref qf10, .ref qf11, .ref qf12, .ref qf13, .ref qf14, .ref qf15, .ref qf16, .ref qf17, .ref qf18, .ref qf19, .int v20])), (qf3, .inl (cf3, 334, .inl f3))]) (va_A [(h0, .inr (2, [.ref qf0, .ref qf1, .int v2, .ref qf3, .ref qf4, .ref qf5, .ref qf6, .ref qf7, .ref qf8, .ref qf9, .ref qf10, .ref qf11, .ref qf12, .ref qf13, .ref qf14, .ref qf15, .ref qf16, .ref qf17, .ref qf18, .ref qf19, .int v20])), (qf3, .inl (cf3, 334, .inl f3))] sz)) 0 0 (va_A [(h0, .inr (2, [.ref qf0, .ref qf1, .int v2, .ref qf3, .ref qf4, .ref qf5, .ref qf6, .ref qf7, .ref qf8, .ref qf9, .ref qf10, .ref qf11, .ref qf12, .ref qf13, .ref qf14, .ref qf15, .ref qf16, .ref qf17, .ref qf18, .ref qf19, .int v20])), (qf3, .inl (cf3, 334, .inl f3))] sz) := by
  refine Met.ofW (cc := cX2_tokenOfClass) (maxL := 2) (ret := (some .int)) (by decide) rfl ?_
  intro p e s m args below meth c s₁ B hml hv
  obtain ⟨rfl, hsz, hP, hK, hD0⟩ := hv
  have hx := B.exec
  have hb := B.bytes
  have hr := B.returns
  have hts := atoms_spec (ws := (.code yX2_tokenOfClass cX2_tokenOfClass 2 (some .int) :: VS_h4)) B.pre
  replace hts := fun w (h : w ∈ VS_h4) => hts w (List.mem_cons_of_mem _ h)
  have hown : s.vm.findClass RX2 = some m.cls := findClass_of_methodNamed B.named
  have hlocks := B.notSynchronized
  subst hsz
  have hD := hD0.self (sz := s.heap.size)
  generalize hAe : va_A [(h0, .inr (2, [.ref qf0, .ref qf1, .int v2, .ref qf3, .ref qf4, .ref qf5, .ref qf6, .ref qf7, .ref qf8, .ref qf9, .ref qf10, .ref qf11, .ref qf12, .ref qf13, .ref qf14, .ref qf15, .ref qf16, .ref qf17, .ref qf18, .ref qf19, .int v20])), (qf3, .inl (cf3, 334, .inl f3))] s.heap.size = A at hD  ⊢
  have hA : ∀ q : Nat, s.heap.size ≤ q → A q := fun q h => by rw [← hAe]; exact Or.inr h
  have hP : va_P (dC, dI) vwCl [(h0, .inr (2, [.ref qf0, .ref qf1, .int v2, .ref qf3, .ref qf4, .ref qf5, .ref qf6, .ref qf7, .ref qf8, .ref qf9, .ref qf10, .ref qf11, .ref qf12, .ref qf13, .ref qf14, .ref qf15, .ref qf16, .ref qf17, .ref qf18, .ref qf19, .int v20])), (qf3, .inl (cf3, 334, .inl f3))] s.heap := hP
  have hl := lv_entry ([.ref h0, .int a1]) (n := 2) (Nat.le_of_ble_eq_true rfl)
  rw [lg_entry_eq]
  generalize (lg_sl ([.ref h0, .int a1]) ++ List.replicate (2 - (lg_sl ([.ref h0, .int a1])).length) Slot.unset).toArray = ls at hl ⊢
  have hl : lv_has ls 2 [(0, .ref h0), (1, .int a1)] := hl
  obtain ⟨H, hH⟩ : ∃ H : Heap, s.heap = H := ⟨_, rfl⟩
  rw [hH] at hP ⊢
  have hS : va_S A s.heap H [] := by rw [← hH]; exact va_S.rf
  obtain ⟨locs, hlo⟩ : ∃ locs : List Loc, locs = [] := ⟨_, rfl⟩
  rw [← hlo] at hS ⊢
  unfold sp_t2_tokenOfClass at hsp
  refine lv_iload_n hx hb dX2_tokenOfClass_0 rfl (lv_at hl 1 rfl) ?_
  refine lv_if_lt (tgt := 21) hx hb dX2_tokenOfClass_1 (by decide) (fun c_1 => ?_) (fun c_1 => ?_)
  · rw [if_pos c_1] at hsp
    refine lv_iconst (v := (-1)) hx hb dX2_tokenOfClass_21 (by decide) ?_
    have hr0 := Option.some.inj hsp
    clear hsp
    subst hr0
    have hP9 := hP.sub (ws' := [(h0, .inr (2, [.ref qf0, .ref qf1, .int v2, .ref qf3, .ref qf4, .ref qf5, .ref qf6, .ref qf7, .ref qf8, .ref qf9, .ref qf10, .ref qf11, .ref qf12, .ref qf13, .ref qf14, .ref qf15, .ref qf16, .ref qf17, .ref qf18, .ref qf19, .int v20])), (qf3, .inl (cf3, 334, .inl f3))]) [0, 1] rfl
    have hD9 := hD.sub (ws' := [(h0, .inr (2, [.ref qf0, .ref qf1, .int v2, .ref qf3, .ref qf4, .ref qf5, .ref qf6, .ref qf7, .ref qf8, .ref qf9, .ref qf10, .ref qf11, .ref qf12, .ref qf13, .ref qf14, .ref qf15, .ref qf16, .ref qf17, .ref qf18, .ref qf19, .int v20])), (qf3, .inl (cf3, 334, .inl f3))]) [0, 1] (by decide) rfl
    have hK9 := hK.sub (tys' := [(cf3, .int)]) [0] rfl
    exact W.iret hx hb hr (fun t ht hW => ⟨⟨((-1)), (), rfl, rfl, by rw [ht]; exact hP9, va_K.moved hW.alike hK9, hD9⟩, hS.F ht⟩) hS.2.2 dX2_tokenOfClass_22
  · rw [if_neg c_1] at hsp
    refine lv_iload_n hx hb dX2_tokenOfClass_4 rfl (lv_at hl 1 rfl) ?_
    refine lv_aload_n hx hb dX2_tokenOfClass_5 rfl (lv_at hl 0 rfl) ?_
    refine va_get (D := (dC, dI)) (ci := 2) (v := .int v2) (C := RX2) (T := TX2) (N := 21) hx hb hts uV_h4_X2 hown hK hP 0 rfl rfl 2 (by decide) (hts (.fieldLink RX2 78 "ClassMill$Heads" "classes" "I") mw_h4_125) (fun _ h9 => h9) rfl dX2_tokenOfClass_6 ?_
    refine lv_icmp_ge (tgt := 21) hx hb dX2_tokenOfClass_9 (by decide) (fun c_2 => ?_) (fun c_2 => ?_)
    · rw [if_pos c_2] at hsp
      refine lv_iconst (v := (-1)) hx hb dX2_tokenOfClass_21 (by decide) ?_
      have hr0 := Option.some.inj hsp
      clear hsp
      subst hr0
      have hP9 := hP.sub (ws' := [(h0, .inr (2, [.ref qf0, .ref qf1, .int v2, .ref qf3, .ref qf4, .ref qf5, .ref qf6, .ref qf7, .ref qf8, .ref qf9, .ref qf10, .ref qf11, .ref qf12, .ref qf13, .ref qf14, .ref qf15, .ref qf16, .ref qf17, .ref qf18, .ref qf19, .int v20])), (qf3, .inl (cf3, 334, .inl f3))]) [0, 1] rfl
      have hD9 := hD.sub (ws' := [(h0, .inr (2, [.ref qf0, .ref qf1, .int v2, .ref qf3, .ref qf4, .ref qf5, .ref qf6, .ref qf7, .ref qf8, .ref qf9, .ref qf10, .ref qf11, .ref qf12, .ref qf13, .ref qf14, .ref qf15, .ref qf16, .ref qf17, .ref qf18, .ref qf19, .int v20])), (qf3, .inl (cf3, 334, .inl f3))]) [0, 1] (by decide) rfl
      have hK9 := hK.sub (tys' := [(cf3, .int)]) [0] rfl
      exact W.iret hx hb hr (fun t ht hW => ⟨⟨((-1)), (), rfl, rfl, by rw [ht]; exact hP9, va_K.moved hW.alike hK9, hD9⟩, hS.F ht⟩) hS.2.2 dX2_tokenOfClass_22
    · rw [if_neg c_2] at hsp
      refine lv_aload_n hx hb dX2_tokenOfClass_12 rfl (lv_at hl 0 rfl) ?_
      refine va_get (D := (dC, dI)) (ci := 2) (v := .ref qf3) (C := RX2) (T := TX2) (N := 21) hx hb hts uV_h4_X2 hown hK hP 0 rfl rfl 3 (by decide) (hts (.fieldLink RX2 20 "ClassMill$Heads" "classAt" "[I") mw_h4_126) (fun _ h9 => h9) rfl dX2_tokenOfClass_13 ?_
      refine lv_iload_n hx hb dX2_tokenOfClass_16 rfl (lv_at hl 1 rfl) ?_
      obtain ⟨hi_3, hsp⟩ := ox_in hsp
      refine va_iald hx hb hK hP 1 0 rfl rfl (i := a1) hi_3 dX2_tokenOfClass_17 ?_
      refine lv_goto (tgt := 22) hx hb dX2_tokenOfClass_18 (by decide) ?_
      have hr0 := Option.some.inj hsp
      clear hsp
      subst hr0
      have hP9 := hP.sub (ws' := [(h0, .inr (2, [.ref qf0, .ref qf1, .int v2, .ref qf3, .ref qf4, .ref qf5, .ref qf6, .ref qf7, .ref qf8, .ref qf9, .ref qf10, .ref qf11, .ref qf12, .ref qf13, .ref qf14, .ref qf15, .ref qf16, .ref qf17, .ref qf18, .ref qf19, .int v20])), (qf3, .inl (cf3, 334, .inl f3))]) [0, 1] rfl
      have hD9 := hD.sub (ws' := [(h0, .inr (2, [.ref qf0, .ref qf1, .int v2, .ref qf3, .ref qf4, .ref qf5, .ref qf6, .ref qf7, .ref qf8, .ref qf9, .ref qf10, .ref qf11, .ref qf12, .ref qf13, .ref qf14, .ref qf15, .ref qf16, .ref qf17, .ref qf18, .ref qf19, .int v20])), (qf3, .inl (cf3, 334, .inl f3))]) [0, 1] (by decide) rfl
      have hK9 := hK.sub (tys' := [(cf3, .int)]) [0] rfl
      exact W.iret hx hb hr (fun t ht hW => ⟨⟨((f3 (a1 : Int32).toNatClampNeg)), (), rfl, rfl, by rw [ht]; exact hP9, va_K.moved hW.alike hK9, hD9⟩, hS.F ht⟩) hS.2.2 dX2_tokenOfClass_22
def sp_t2_classAbove (nf : Nat) (a1 : Int32) (v2 : Int32) (f3 : Nat → Int32) (v0_3 : Int32) (f0_0 : Nat → Int32) (f0_2 : Nat → Int32) (f4 : Nat → Int32) : Option (Int32) := ((sp_t2_tokenOfClass nf a1 v2 f3).bind (fun p1 => ((sp_t9_kindAt nf (p1 + 1) v0_3 f0_0).bind (fun p2 => (if p2 = 16 then ((sp_t2_classAt nf (p1 + 2) v0_3 f0_2 f0_0 f4).bind (fun p3 => (some p3))) else (some 0))))))
set_option maxHeartbeats 4000000 in
set_option maxRecDepth 100000 in
/-- ClassMill$Heads.classAbove -/
theorem t2_classAbove (l : Launch) (dC : Nat → ClassId) (dI : Nat → Nat → Nat) (sz : Nat) (h0 : Nat) (a1 : Int32) (qf0 : Nat) (qf1 : Nat) (v2 : Int32) (qf3 : Nat) (qf4 : Nat) (qf5 : Nat) (qf6 : Nat) (qf7 : Nat) (qf8 : Nat) (qf9 : Nat) (qf10 : Nat) (qf11 : Nat) (qf12 : Nat) (qf13 : Nat) (qf14 : Nat) (qf15 : Nat) (qf16 : Nat) (qf17 : Nat) (qf18 : Nat) (qf19 : Nat) (v20 : Int32) (cf3 : ClassId) (f3 : (Nat → Int32)) (qf0_0 : Nat) (qf0_1 : Nat) (qf0_2 : Nat) (v0_3 : Int32) (qf0_4 : Nat) (qf0_5 : Nat) (qf0_6 : Nat) (qf0_7 : Nat) (qf0_8 : Nat) (v0_9 : Int32) (v0_10 : Int32) (v0_11 : Int32) (v0_12 : Int32) (cf0_0 : ClassId) (f0_0 : (Nat → Int32)) (cf0_2 : ClassId) (f0_2 : (Nat → Int32)) (cf4 : ClassId) (f4 : (Nat → Int32)) (nf : Nat) (r0 : Int32) (hsp : sp_t2_classAbove nf a1 v2 f3 v0_3 f0_0 f0_2 f4 = some r0) : Met l yX2_classAbove (.code yX2_classAbove cX2_classAbove 3 (some .int) :: VS_h4) ({ frames := 2, cells := 0, slots := 0, locals := 43 }) (va_Pc [.ref h0, .int a1] (fun U => U.heap.size = sz ∧ va_P (dC, dI) vwCl [(h0, .inr (2, [.ref qf0, .ref qf1, .int v2, .ref qf3, .ref qf4, .ref qf5, .ref qf6, .ref qf7, .ref qf8, .ref qf9, .ref qf10, .ref qf11, .ref qf12, .ref qf13, .ref qf14, .ref qf15, .ref qf16, .ref qf17, .ref qf18, .ref qf19, .int v20])), (qf3, .inl (cf3, 334, .inl f3)), (qf0, .inr (9, [.ref qf0_0, .ref qf0_1, .ref qf0_2, .int v0_3, .ref qf0_4, .ref qf0_5, .ref qf0_6, .ref qf0_7, .ref qf0_8, .int v0_9, .int v0_10, .int v0_11, .int v0_12])), (qf0_0, .inl (cf0_0, 3001, .inl f0_0)), (qf0_2, .inl (cf0_2, 3001, .inl f0_2)), (qf4, .inl (cf4, 1740, .inl f4))] U.heap ∧ va_K (dC, dI) vwCl [(cf3, .int), (cf0_0, .int), (cf0_2, .int), (cf4, .int)] U ∧ va_D (fun _ => True) [(h0, .inr (2, [.ref qf0, .ref qf1, .int v2, .ref qf3, .ref qf4, .ref qf5, .ref qf6, .ref qf7, .ref qf8, .ref qf9, .ref qf10, .ref qf11, .ref qf12, .ref qf13, .ref qf14, .ref qf15, .ref qf16, .ref qf17, .ref qf18, .ref qf19, .int v20])), (qf3, .inl (cf3, 334, .inl f3)), (qf0, .inr (9, [.ref qf0_0, .ref qf0_1, .ref qf0_2, .int v0_3, .ref qf0_4, .ref qf0_5, .ref qf0_6, .ref qf0_7, .ref qf0_8, .int v0_9, .int v0_10, .int v0_11, .int v0_12])), (qf0_0, .inl (cf0_0, 3001, .inl f0_0)), (qf0_2, .inl (cf0_2, 3001, .inl f0_2)), (qf4, .inl (cf4, 1740, .inl f4))])) (va_Qi (fun (r : Int32) (u : Unit) => match u with | () => r0 = r) (fun (u : Unit) (t : State) => match u with | () => va_P (dC, dI) vwCl [(h0, .inr (2, [.ref qf0, .ref qf1, .int v2, .ref qf3, .ref qf4, .ref qf5, .ref qf6, .ref qf7, .ref qf8, .ref qf9, .ref qf10, .ref qf11, .ref qf12, .ref qf13, .ref qf14, .ref qf15, .ref qf16, .ref qf17, .ref qf18, .ref qf19, .int v20])), (qf3, .inl (cf3, 334, .inl f3)), (qf0, .inr (9, [.ref qf0_0, .ref qf0_1, .ref qf0_2, .int v0_3, .ref qf0_4, .ref qf0_5, .ref qf0_6, .ref qf0_7, .ref qf0_8, .int v0_9, .int v0_10, .int v0_11, .int v0_12])), (qf0_0, .inl (cf0_0, 3001, .inl f0_0)), (qf0_2, .inl (cf0_2, 3001, .inl f0_2)), (qf4, .inl (cf4, 1740, .inl f4))] t.heap ∧ va_K (dC, dI) vwCl [(cf3, .int), (cf0_0, .int), (cf0_2, .int), (cf4, .int)] t ∧ va_D (va_A [(h0, .inr (2, [.ref qf0, .ref qf1, .int v2, .ref qf3, .ref qf4, .ref qf5, .ref qf6, .ref qf7, .ref qf8, .ref qf9, .ref qf10, .ref qf11, .ref qf12, .ref qf13, .ref qf14, .ref qf15, .ref qf16, .ref qf17, .ref qf18, .ref qf19, .int v20])), (qf3, .inl (cf3, 334, .inl f3)), (qf0, .inr (9, [.ref qf0_0, .ref qf0_1, .ref qf0_2, .int v0_3, .ref qf0_4, .ref qf0_5, .ref qf0_6, .ref qf0_7, .ref qf0_8, .int v0_9, .int v0_10, .int v0_11, .int v0_12])), (qf0_0, .inl (cf0_0, 3001, .inl f0_0)), (qf0_2, .inl (cf0_2, 3001, .inl f0_2)), (qf4, .inl (cf4, 1740, .inl f4))] sz) [(h0, .inr (2, [.ref qf0, .ref qf1, .int v2, .ref qf3, .ref qf4, .ref qf5, .ref qf6, .ref qf7, .ref qf8, .ref qf9, .ref qf10, .ref qf11, .ref qf12, .ref qf13, .ref qf14, .ref qf15, .ref qf16, .ref qf17, .ref qf18, .ref qf19, .int v20])), (qf3, .inl (cf3, 334, .inl f3)), (qf0, .inr (9, [.ref qf0_0, .ref qf0_1, .ref qf0_2, .int v0_3, .ref qf0_4, .ref qf0_5, .ref qf0_6, .ref qf0_7, .ref qf0_8, .int v0_9, .int v0_10, .int v0_11, .int v0_12])), (qf0_0, .inl (cf0_0, 3001, .inl f0_0)), (qf0_2, .inl (cf0_2, 3001, .inl f0_2)), (qf4, .inl (cf4, 1740, .inl f4))]) (va_A [(h0, .inr (2, [.ref qf0, .ref qf1, .int v2, .ref qf3, .ref qf4, .ref qf5, .ref qf6, .ref qf7, .ref qf8, .ref qf9, .ref qf10, .ref qf11, .ref qf12, .ref qf13, .ref qf14, .ref qf15, .ref qf16, .ref qf17, .ref qf18, .ref qf19, .int v20])), (qf3, .inl (cf3, 334, .inl f3)), (qf0, .inr (9, [.ref qf0_0, .ref qf0_1, .ref qf0_2, .int v0_3, .ref qf0_4, .ref qf0_5, .ref qf0_6, .ref qf0_7, .ref qf0_8, .int v0_9, .int v0_10, .int v0_11, .int v0_12])), (qf0_0, .inl (cf0_0, 3001, .inl f0_0)), (qf0_2, .inl (cf0_2, 3001, .inl f0_2)), (qf4, .inl (cf4, 1740, .inl f4))] sz)) 0 0 (va_A [(h0, .inr (2, [.ref qf0, .ref qf1, .int v2, .ref qf3, .ref qf4, .ref qf5, .ref qf6, .ref qf7, .ref qf8, .ref qf9, .ref qf10, .ref qf11, .ref qf12, .ref qf13, .ref qf14, .ref qf15, .ref qf16, .ref qf17, .ref qf18, .ref qf19, .int v20])), (qf3, .inl (cf3, 334, .inl f3)), (qf0, .inr (9, [.ref qf0_0, .ref qf0_1, .ref qf0_2, .int v0_3, .ref qf0_4, .ref qf0_5, .ref qf0_6, .ref qf0_7, .ref qf0_8, .int v0_9, .int v0_10, .int v0_11, .int v0_12])), (qf0_0, .inl (cf0_0, 3001, .inl f0_0)), (qf0_2, .inl (cf0_2, 3001, .inl f0_2)), (qf4, .inl (cf4, 1740, .inl f4))] sz) := by
  refine Met.ofW (cc := cX2_classAbove) (maxL := 3) (ret := (some .int)) (by decide) rfl ?_
  intro p e s m args below meth c s₁ B hml hv
  obtain ⟨rfl, hsz, hP, hK, hD0⟩ := hv
  have hx := B.exec
  have hb := B.bytes
  have hr := B.returns
  have hts := atoms_spec (ws := (.code yX2_classAbove cX2_classAbove 3 (some .int) :: VS_h4)) B.pre
  replace hts := fun w (h : w ∈ VS_h4) => hts w (List.mem_cons_of_mem _ h)
  have hown : s.vm.findClass RX2 = some m.cls := findClass_of_methodNamed B.named
  have hlocks := B.notSynchronized
  subst hsz
  have hD := hD0.self (sz := s.heap.size)
  generalize hAe : va_A [(h0, .inr (2, [.ref qf0, .ref qf1, .int v2, .ref qf3, .ref qf4, .ref qf5, .ref qf6, .ref qf7, .ref qf8, .ref qf9, .ref qf10, .ref qf11, .ref qf12, .ref qf13, .ref qf14, .ref qf15, .ref qf16, .ref qf17, .ref qf18, .ref qf19, .int v20])), (qf3, .inl (cf3, 334, .inl f3)), (qf0, .inr (9, [.ref qf0_0, .ref qf0_1, .ref qf0_2, .int v0_3, .ref qf0_4, .ref qf0_5, .ref qf0_6, .ref qf0_7, .ref qf0_8, .int v0_9, .int v0_10, .int v0_11, .int v0_12])), (qf0_0, .inl (cf0_0, 3001, .inl f0_0)), (qf0_2, .inl (cf0_2, 3001, .inl f0_2)), (qf4, .inl (cf4, 1740, .inl f4))] s.heap.size = A at hD  ⊢
  have hA : ∀ q : Nat, s.heap.size ≤ q → A q := fun q h => by rw [← hAe]; exact Or.inr h
  have hP : va_P (dC, dI) vwCl [(h0, .inr (2, [.ref qf0, .ref qf1, .int v2, .ref qf3, .ref qf4, .ref qf5, .ref qf6, .ref qf7, .ref qf8, .ref qf9, .ref qf10, .ref qf11, .ref qf12, .ref qf13, .ref qf14, .ref qf15, .ref qf16, .ref qf17, .ref qf18, .ref qf19, .int v20])), (qf3, .inl (cf3, 334, .inl f3)), (qf0, .inr (9, [.ref qf0_0, .ref qf0_1, .ref qf0_2, .int v0_3, .ref qf0_4, .ref qf0_5, .ref qf0_6, .ref qf0_7, .ref qf0_8, .int v0_9, .int v0_10, .int v0_11, .int v0_12])), (qf0_0, .inl (cf0_0, 3001, .inl f0_0)), (qf0_2, .inl (cf0_2, 3001, .inl f0_2)), (qf4, .inl (cf4, 1740, .inl f4))] s.heap := hP
  have hl := lv_entry ([.ref h0, .int a1]) (n := 3) (Nat.le_of_ble_eq_true rfl)
  rw [lg_entry_eq]
  generalize (lg_sl ([.ref h0, .int a1]) ++ List.replicate (3 - (lg_sl ([.ref h0, .int a1])).length) Slot.unset).toArray = ls at hl ⊢
  have hl : lv_has ls 3 [(0, .ref h0), (1, .int a1)] := hl
  obtain ⟨H, hH⟩ : ∃ H : Heap, s.heap = H := ⟨_, rfl⟩
  rw [hH] at hP ⊢
  have hS : va_S A s.heap H [] := by rw [← hH]; exact va_S.rf
  obtain ⟨locs, hlo⟩ : ∃ locs : List Loc, locs = [] := ⟨_, rfl⟩
  rw [← hlo] at hS ⊢
  unfold sp_t2_classAbove at hsp
  refine lv_aload_n hx hb dX2_classAbove_0 rfl (lv_at hl 0 rfl) ?_
  refine lv_iload_n hx hb dX2_classAbove_1 rfl (lv_at hl 1 rfl) ?_
  obtain ⟨u1_0, hu_1, hsp⟩ := ox_bind hsp
  try dsimp only at hsp
  have hPc := hP.sub (ws' := [(h0, .inr (2, [.ref qf0, .ref qf1, .int v2, .ref qf3, .ref qf4, .ref qf5, .ref qf6, .ref qf7, .ref qf8, .ref qf9, .ref qf10, .ref qf11, .ref qf12, .ref qf13, .ref qf14, .ref qf15, .ref qf16, .ref qf17, .ref qf18, .ref qf19, .int v20])), (qf3, .inl (cf3, 334, .inl f3))]) [0, 1] rfl
  have hDc := hD.sub (ws' := [(h0, .inr (2, [.ref qf0, .ref qf1, .int v2, .ref qf3, .ref qf4, .ref qf5, .ref qf6, .ref qf7, .ref qf8, .ref qf9, .ref qf10, .ref qf11, .ref qf12, .ref qf13, .ref qf14, .ref qf15, .ref qf16, .ref qf17, .ref qf18, .ref qf19, .int v20])), (qf3, .inl (cf3, 334, .inl f3))]) [0, 1] (by decide) rfl
  have hKc := hK.sub (tys' := [(cf3, .int)]) [0] rfl
  have hFc := va_free (wc := [(h0, .inr (2, [.ref qf0, .ref qf1, .int v2, .ref qf3, .ref qf4, .ref qf5, .ref qf6, .ref qf7, .ref qf8, .ref qf9, .ref qf10, .ref qf11, .ref qf12, .ref qf13, .ref qf14, .ref qf15, .ref qf16, .ref qf17, .ref qf18, .ref qf19, .int v20])), (qf3, .inl (cf3, 334, .inl f3))]) hD hS hA [0, 1] rfl
  refine va_calli (va_runV (As := [.int a1]) (rest := []) ⟨hx, hb, hml, hown, hts⟩ (t2_tokenOfClass l dC dI H.size h0 a1 qf0 qf1 v2 qf3 qf4 qf5 qf6 qf7 qf8 qf9 qf10 qf11 qf12 qf13 qf14 qf15 qf16 qf17 qf18 qf19 v20 cf3 f3 nf u1_0 hu_1) (cwV 1 hts gv_h4_29 rfl rfl rfl (by decide +kernel) ⟨Nat.le_of_ble_eq_true rfl, Nat.le_of_ble_eq_true rfl⟩) ⟨fun a U g mk q => by obtain ⟨q0, q1, qP, qK, qD⟩ := q; exact ⟨q0, q1, qP, va_K.moved (u := U) (U := U.calling g mk a) (Vm.Alike.refl U.vm) qK, qD⟩, va_recv hKc hPc (ci := 2) (q0 := 0) rfl rfl, fun U hU hW => ⟨rfl, by rw [hU], by rw [hU]; exact hPc, va_K.moved hW.alike hKc, hDc.weaken (fun _ _ _ _ => trivial)⟩⟩ rfl rfl hl.1 rfl (lv_room (Nat.le_of_ble_eq_true rfl)) dX2_classAbove_2 ⟨Nat.le_of_ble_eq_true rfl, Nat.le_of_ble_eq_true rfl⟩) hS (fun q _ h => hFc q h) hFc ?_
  clear hS
  intro r_1 u t H1 locs ht hvm hw hB hz1 hk1 hS
  obtain ⟨⟩ := u
  obtain ⟨hP1, hK1, hD1⟩ := hB
  rw [ht] at hP1
  have hK1 := va_K.moved hvm.symm hK1
  try dsimp only at hw
  have hPD := va_join (wr := [(qf0, .inr (9, [.ref qf0_0, .ref qf0_1, .ref qf0_2, .int v0_3, .ref qf0_4, .ref qf0_5, .ref qf0_6, .ref qf0_7, .ref qf0_8, .int v0_9, .int v0_10, .int v0_11, .int v0_12])), (qf0_0, .inl (cf0_0, 3001, .inl f0_0)), (qf0_2, .inl (cf0_2, 3001, .inl f0_2)), (qf4, .inl (cf4, 1740, .inl f4))]) (w1 := [(h0, .inr (2, [.ref qf0, .ref qf1, .int v2, .ref qf3, .ref qf4, .ref qf5, .ref qf6, .ref qf7, .ref qf8, .ref qf9, .ref qf10, .ref qf11, .ref qf12, .ref qf13, .ref qf14, .ref qf15, .ref qf16, .ref qf17, .ref qf18, .ref qf19, .int v20])), (qf3, .inl (cf3, 334, .inl f3))]) hP hD [0, 1] [2, 3, 4, 5] rfl rfl (by decide) (by decide) hk1 hFc hP1 hD1
  clear hP hD
  obtain ⟨hP, hD⟩ := hPD
  replace hK := (hK.sub (tys' := [(cf0_0, .int), (cf0_2, .int), (cf4, .int)]) [1, 2, 3] rfl).app hK1
  clear hPc hDc hKc hFc hP1 hK1 hD1 hz1 hk1 ht hvm
  generalize H1 = H at hP hS ⊢
  replace hP : va_P (dC, dI) vwCl [(qf0, .inr (9, [.ref qf0_0, .ref qf0_1, .ref qf0_2, .int v0_3, .ref qf0_4, .ref qf0_5, .ref qf0_6, .ref qf0_7, .ref qf0_8, .int v0_9, .int v0_10, .int v0_11, .int v0_12])), (qf0_0, .inl (cf0_0, 3001, .inl f0_0)), (qf0_2, .inl (cf0_2, 3001, .inl f0_2)), (qf4, .inl (cf4, 1740, .inl f4)), (h0, .inr (2, [.ref qf0, .ref qf1, .int v2, .ref qf3, .ref qf4, .ref qf5, .ref qf6, .ref qf7, .ref qf8, .ref qf9, .ref qf10, .ref qf11, .ref qf12, .ref qf13, .ref qf14, .ref qf15, .ref qf16, .ref qf17, .ref qf18, .ref qf19, .int v20])), (qf3, .inl (cf3, 334, .inl f3))] H := hP
  replace hD : va_D A [(qf0, .inr (9, [.ref qf0_0, .ref qf0_1, .ref qf0_2, .int v0_3, .ref qf0_4, .ref qf0_5, .ref qf0_6, .ref qf0_7, .ref qf0_8, .int v0_9, .int v0_10, .int v0_11, .int v0_12])), (qf0_0, .inl (cf0_0, 3001, .inl f0_0)), (qf0_2, .inl (cf0_2, 3001, .inl f0_2)), (qf4, .inl (cf4, 1740, .inl f4)), (h0, .inr (2, [.ref qf0, .ref qf1, .int v2, .ref qf3, .ref qf4, .ref qf5, .ref qf6, .ref qf7, .ref qf8, .ref qf9, .ref qf10, .ref qf11, .ref qf12, .ref qf13, .ref qf14, .ref qf15, .ref qf16, .ref qf17, .ref qf18, .ref qf19, .int v20])), (qf3, .inl (cf3, 334, .inl f3))] := hD
  replace hK : va_K (dC, dI) vwCl [(cf0_0, .int), (cf0_2, .int), (cf4, .int), (cf3, .int)] s := hK
  obtain rfl := hw
  refine lv_istore_n (lv' := [(2, .int u1_0), (0, .ref h0), (1, .int a1)]) hx hb dX2_classAbove_5 rfl hl (by decide) rfl (fun ls hl => ?_)
  refine lv_aload_n hx hb dX2_classAbove_6 rfl (lv_at hl 1 rfl) ?_
  refine va_get (D := (dC, dI)) (ci := 2) (v := .ref qf0) (C := RX2) (T := TX2) (N := 21) hx hb hts uV_h4_X2 hown hK hP 4 rfl rfl 0 (by decide) (hts (.fieldLink RX2 74 "ClassMill$Heads" "text" "LClassMill$Text;") mw_h4_145) (fun _ h9 => h9) rfl dX2_classAbove_7 ?_
  refine lv_iload_n hx hb dX2_classAbove_10 rfl (lv_at hl 0 rfl) ?_
  refine lv_iconst (v := 1) hx hb dX2_classAbove_11 (by decide) ?_
  refine lv_iadd hx hb dX2_classAbove_12 ?_
  obtain ⟨u2_0, hu_2, hsp⟩ := ox_bind hsp
  try dsimp only at hsp
  have hPc := hP.sub (ws' := [(qf0, .inr (9, [.ref qf0_0, .ref qf0_1, .ref qf0_2, .int v0_3, .ref qf0_4, .ref qf0_5, .ref qf0_6, .ref qf0_7, .ref qf0_8, .int v0_9, .int v0_10, .int v0_11, .int v0_12])), (qf0_0, .inl (cf0_0, 3001, .inl f0_0))]) [0, 1] rfl
  have hDc := hD.sub (ws' := [(qf0, .inr (9, [.ref qf0_0, .ref qf0_1, .ref qf0_2, .int v0_3, .ref qf0_4, .ref qf0_5, .ref qf0_6, .ref qf0_7, .ref qf0_8, .int v0_9, .int v0_10, .int v0_11, .int v0_12])), (qf0_0, .inl (cf0_0, 3001, .inl f0_0))]) [0, 1] (by decide) rfl
  have hKc := hK.sub (tys' := [(cf0_0, .int)]) [0] rfl
  have hFc := va_free (wc := [(qf0, .inr (9, [.ref qf0_0, .ref qf0_1, .ref qf0_2, .int v0_3, .ref qf0_4, .ref qf0_5, .ref qf0_6, .ref qf0_7, .ref qf0_8, .int v0_9, .int v0_10, .int v0_11, .int v0_12])), (qf0_0, .inl (cf0_0, 3001, .inl f0_0))]) hD hS hA [0, 1] rfl
  refine va_calli (va_runV (As := [.int (u1_0 + 1)]) (rest := []) ⟨hx, hb, hml, hown, hts⟩ (t9_kindAt l dC dI H.size qf0 ((u1_0 + 1)) qf0_0 qf0_1 qf0_2 v0_3 qf0_4 qf0_5 qf0_6 qf0_7 qf0_8 v0_9 v0_10 v0_11 v0_12 cf0_0 f0_0 nf u2_0 hu_2) (cwV 1 hts gv_h4_28 rfl rfl rfl (by decide +kernel) ⟨Nat.le_of_ble_eq_true rfl, Nat.le_of_ble_eq_true rfl⟩) ⟨fun a U g mk q => by obtain ⟨q0, q1, qP, qK, qD⟩ := q; exact ⟨q0, q1, qP, va_K.moved (u := U) (U := U.calling g mk a) (Vm.Alike.refl U.vm) qK, qD⟩, va_recv hKc hPc (ci := 9) (q0 := 0) rfl rfl, fun U hU hW => ⟨rfl, by rw [hU], by rw [hU]; exact hPc, va_K.moved hW.alike hKc, hDc.weaken (fun _ _ _ _ => trivial)⟩⟩ rfl rfl hl.1 rfl (lv_room (Nat.le_of_ble_eq_true rfl)) dX2_classAbove_13 ⟨Nat.le_of_ble_eq_true rfl, Nat.le_of_ble_eq_true rfl⟩) hS (fun q _ h => hFc q h) hFc ?_
  clear hS
  intro r_2 u t H1 locs ht hvm hw hB hz1 hk1 hS
  obtain ⟨⟩ := u
  obtain ⟨hP1, hK1, hD1⟩ := hB
  rw [ht] at hP1
  have hK1 := va_K.moved hvm.symm hK1
  try dsimp only at hw
  have hPD := va_join (wr := [(qf0_2, .inl (cf0_2, 3001, .inl f0_2)), (qf4, .inl (cf4, 1740, .inl f4)), (h0, .inr (2, [.ref qf0, .ref qf1, .int v2, .ref qf3, .ref qf4, .ref qf5, .ref qf6, .ref qf7, .ref qf8, .ref qf9, .ref qf10, .ref qf11, .ref qf12, .ref qf13, .ref qf14, .ref qf15, .ref qf16, .ref qf17, .ref qf18, .ref qf19, .int v20])), (qf3, .inl (cf3, 334, .inl f3))]) (w1 := [(qf0, .inr (9, [.ref qf0_0, .ref qf0_1, .ref qf0_2, .int v0_3, .ref qf0_4, .ref qf0_5, .ref qf0_6, .ref qf0_7, .ref qf0_8, .int v0_9, .int v0_10, .int v0_11, .int v0_12])), (qf0_0, .inl (cf0_0, 3001, .inl f0_0))]) hP hD [0, 1] [2, 3, 4, 5] rfl rfl (by decide) (by decide) hk1 hFc hP1 hD1
  clear hP hD
  obtain ⟨hP, hD⟩ := hPD
  replace hK := (hK.sub (tys' := [(cf0_2, .int), (cf4, .int), (cf3, .int)]) [1, 2, 3] rfl).app hK1
  clear hPc hDc hKc hFc hP1 hK1 hD1 hz1 hk1 ht hvm
  generalize H1 = H at hP hS ⊢
  replace hP : va_P (dC, dI) vwCl [(qf0_2, .inl (cf0_2, 3001, .inl f0_2)), (qf4, .inl (cf4, 1740, .inl f4)), (h0, .inr (2, [.ref qf0, .ref qf1, .int v2, .ref qf3, .ref qf4, .ref qf5, .ref qf6, .ref qf7, .ref qf8, .ref qf9, .ref qf10, .ref qf11, .ref qf12, .ref qf13, .ref qf14, .ref qf15, .ref qf16, .ref qf17, .ref qf18, .ref qf19, .int v20])), (qf3, .inl (cf3, 334, .inl f3)), (qf0, .inr (9, [.ref qf0_0, .ref qf0_1, .ref qf0_2, .int v0_3, .ref qf0_4, .ref qf0_5, .ref qf0_6, .ref qf0_7, .ref qf0_8, .int v0_9, .int v0_10, .int v0_11, .int v0_12])), (qf0_0, .inl (cf0_0, 3001, .inl f0_0))] H := hP
  replace hD : va_D A [(qf0_2, .inl (cf0_2, 3001, .inl f0_2)), (qf4, .inl (cf4, 1740, .inl f4)), (h0, .inr (2, [.ref qf0, .ref qf1, .int v2, .ref qf3, .ref qf4, .ref qf5, .ref qf6, .ref qf7, .ref qf8, .ref qf9, .ref qf10, .ref qf11, .ref qf12, .ref qf13, .ref qf14, .ref qf15, .ref qf16, .ref qf17, .ref qf18, .ref qf19, .int v20])), (qf3, .inl (cf3, 334, .inl f3)), (qf0, .inr (9, [.ref qf0_0, .ref qf0_1, .ref qf0_2, .int v0_3, .ref qf0_4, .ref qf0_5, .ref qf0_6, .ref qf0_7, .ref qf0_8, .int v0_9, .int v0_10, .int v0_11, .int v0_12])), (qf0_0, .inl (cf0_0, 3001, .inl f0_0))] := hD
  replace hK : va_K (dC, dI) vwCl [(cf0_2, .int), (cf4, .int), (cf3, .int), (cf0_0, .int)] s := hK
  obtain rfl := hw
  refine lv_bipush (v := 16) hx hb dX2_classAbove_16 (by decide) ?_
  refine lv_icmp_ne (tgt := 31) hx hb dX2_classAbove_18 (by decide) (fun c_3 => ?_) (fun c_3 => ?_)
  · rw [if_neg c_3] at hsp
    refine lv_iconst (v := 0) hx hb dX2_classAbove_31 (by decide) ?_
    have hr0 := Option.some.inj hsp
    clear hsp
    subst hr0
    have hP9 := hP.sub (ws' := [(h0, .inr (2, [.ref qf0, .ref qf1, .int v2, .ref qf3, .ref qf4, .ref qf5, .ref qf6, .ref qf7, .ref qf8, .ref qf9, .ref qf10, .ref qf11, .ref qf12, .ref qf13, .ref qf14, .ref qf15, .ref qf16, .ref qf17, .ref qf18, .ref qf19, .int v20])), (qf3, .inl (cf3, 334, .inl f3)), (qf0, .inr (9, [.ref qf0_0, .ref qf0_1, .ref qf0_2, .int v0_3, .ref qf0_4, .ref qf0_5, .ref qf0_6, .ref qf0_7, .ref qf0_8, .int v0_9, .int v0_10, .int v0_11, .int v0_12])), (qf0_0, .inl (cf0_0, 3001, .inl f0_0)), (qf0_2, .inl (cf0_2, 3001, .inl f0_2)), (qf4, .inl (cf4, 1740, .inl f4))]) [2, 3, 4, 5, 0, 1] rfl
    have hD9 := hD.sub (ws' := [(h0, .inr (2, [.ref qf0, .ref qf1, .int v2, .ref qf3, .ref qf4, .ref qf5, .ref qf6, .ref qf7, .ref qf8, .ref qf9, .ref qf10, .ref qf11, .ref qf12, .ref qf13, .ref qf14, .ref qf15, .ref qf16, .ref qf17, .ref qf18, .ref qf19, .int v20])), (qf3, .inl (cf3, 334, .inl f3)), (qf0, .inr (9, [.ref qf0_0, .ref qf0_1, .ref qf0_2, .int v0_3, .ref qf0_4, .ref qf0_5, .ref qf0_6, .ref qf0_7, .ref qf0_8, .int v0_9, .int v0_10, .int v0_11, .int v0_12])), (qf0_0, .inl (cf0_0, 3001, .inl f0_0)), (qf0_2, .inl (cf0_2, 3001, .inl f0_2)), (qf4, .inl (cf4, 1740, .inl f4))]) [2, 3, 4, 5, 0, 1] (by decide) rfl
    have hK9 := hK.sub (tys' := [(cf3, .int), (cf0_0, .int), (cf0_2, .int), (cf4, .int)]) [2, 3, 0, 1] rfl
    exact W.iret hx hb hr (fun t ht hW => ⟨⟨(0), (), rfl, rfl, by rw [ht]; exact hP9, va_K.moved hW.alike hK9, hD9⟩, hS.F ht⟩) hS.2.2 dX2_classAbove_32
  · rw [if_pos c_3] at hsp
    refine lv_aload_n hx hb dX2_classAbove_21 rfl (lv_at hl 1 rfl) ?_
    refine lv_iload_n hx hb dX2_classAbove_22 rfl (lv_at hl 0 rfl) ?_
    refine lv_iconst (v := 2) hx hb dX2_classAbove_23 (by decide) ?_
    refine lv_iadd hx hb dX2_classAbove_24 ?_
    obtain ⟨u3_0, hu_3, hsp⟩ := ox_bind hsp
    try dsimp only at hsp
    have hPc := hP.sub (ws' := [(h0, .inr (2, [.ref qf0, .ref qf1, .int v2, .ref qf3, .ref qf4, .ref qf5, .ref qf6, .ref qf7, .ref qf8, .ref qf9, .ref qf10, .ref qf11, .ref qf12, .ref qf13, .ref qf14, .ref qf15, .ref qf16, .ref qf17, .ref qf18, .ref qf19, .int v20])), (qf0, .inr (9, [.ref qf0_0, .ref qf0_1, .ref qf0_2, .int v0_3, .ref qf0_4, .ref qf0_5, .ref qf0_6, .ref qf0_7, .ref qf0_8, .int v0_9, .int v0_10, .int v0_11, .int v0_12])), (qf0_2, .inl (cf0_2, 3001, .inl f0_2)), (qf0_0, .inl (cf0_0, 3001, .inl f0_0)), (qf4, .inl (cf4, 1740, .inl f4))]) [2, 4, 0, 5, 1] rfl
    have hDc := hD.sub (ws' := [(h0, .inr (2, [.ref qf0, .ref qf1, .int v2, .ref qf3, .ref qf4, .ref qf5, .ref qf6, .ref qf7, .ref qf8, .ref qf9, .ref qf10, .ref qf11, .ref qf12, .ref qf13, .ref qf14, .ref qf15, .ref qf16, .ref qf17, .ref qf18, .ref qf19, .int v20])), (qf0, .inr (9, [.ref qf0_0, .ref qf0_1, .ref qf0_2, .int v0_3, .ref qf0_4, .ref qf0_5, .ref qf0_6, .ref qf0_7, .ref qf0_8, .int v0_9, .int v0_10, .int v0_11, .int v0_12])), (qf0_2, .inl (cf0_2, 3001, .inl f0_2)), (qf0_0, .inl (cf0_0, 3001, .inl f0_0)), (qf4, .inl (cf4, 1740, .inl f4))]) [2, 4, 0, 5, 1] (by decide) rfl
    have hKc := hK.sub (tys' := [(cf0_2, .int), (cf0_0, .int), (cf4, .int)]) [0, 3, 1] rfl
    have hFc := va_free (wc := [(h0, .inr (2, [.ref qf0, .ref qf1, .int v2, .ref qf3, .ref qf4, .ref qf5, .ref qf6, .ref qf7, .ref qf8, .ref qf9, .ref qf10, .ref qf11, .ref qf12, .ref qf13, .ref qf14, .ref qf15, .ref qf16, .ref qf17, .ref qf18, .ref qf19, .int v20])), (qf0, .inr (9, [.ref qf0_0, .ref qf0_1, .ref qf0_2, .int v0_3, .ref qf0_4, .ref qf0_5, .ref qf0_6, .ref qf0_7, .ref qf0_8, .int v0_9, .int v0_10, .int v0_11, .int v0_12])), (qf0_2, .inl (cf0_2, 3001, .inl f0_2)), (qf0_0, .inl (cf0_0, 3001, .inl f0_0)), (qf4, .inl (cf4, 1740, .inl f4))]) hD hS hA [2, 4, 0, 5, 1] rfl
    refine va_calli (va_runV (As := [.int (u1_0 + 2)]) (rest := []) ⟨hx, hb, hml, hown, hts⟩ (t2_classAt l dC dI H.size h0 ((u1_0 + 2)) qf0 qf1 v2 qf3 qf4 qf5 qf6 qf7 qf8 qf9 qf10 qf11 qf12 qf13 qf14 qf15 qf16 qf17 qf18 qf19 v20 qf0_0 qf0_1 qf0_2 v0_3 qf0_4 qf0_5 qf0_6 qf0_7 qf0_8 v0_9 v0_10 v0_11 v0_12 cf0_2 f0_2 cf0_0 f0_0 cf4 f4 nf u3_0 hu_3) (cwV 1 hts gv_h4_30 rfl rfl rfl (by decide +kernel) ⟨Nat.le_of_ble_eq_true rfl, Nat.le_of_ble_eq_true rfl⟩) ⟨fun a U g mk q => by obtain ⟨q0, q1, qP, qK, qD⟩ := q; exact ⟨q0, q1, qP, va_K.moved (u := U) (U := U.calling g mk a) (Vm.Alike.refl U.vm) qK, qD⟩, va_recv hKc hPc (ci := 2) (q0 := 0) rfl rfl, fun U hU hW => ⟨rfl, by rw [hU], by rw [hU]; exact hPc, va_K.moved hW.alike hKc, hDc.weaken (fun _ _ _ _ => trivial)⟩⟩ rfl rfl hl.1 rfl (lv_room (Nat.le_of_ble_eq_true rfl)) dX2_classAbove_25 ⟨Nat.le_of_ble_eq_true rfl, Nat.le_of_ble_eq_true rfl⟩) hS (fun q _ h => hFc q h) hFc ?_
    clear hS
    intro r_4 u t H1 locs ht hvm hw hB hz1 hk1 hS
    obtain ⟨⟩ := u
    obtain ⟨hP1, hK1, hD1⟩ := hB
    rw [ht] at hP1
    have hK1 := va_K.moved hvm.symm hK1
    try dsimp only at hw
    have hPD := va_join (wr := [(qf3, .inl (cf3, 334, .inl f3))]) (w1 := [(h0, .inr (2, [.ref qf0, .ref qf1, .int v2, .ref qf3, .ref qf4, .ref qf5, .ref qf6, .ref qf7, .ref qf8, .ref qf9, .ref qf10, .ref qf11, .ref qf12, .ref qf13, .ref qf14, .ref qf15, .ref qf16, .ref qf17, .ref qf18, .ref qf19, .int v20])), (qf0, .inr (9, [.ref qf0_0, .ref qf0_1, .ref qf0_2, .int v0_3, .ref qf0_4, .ref qf0_5, .ref qf0_6, .ref qf0_7, .ref qf0_8, .int v0_9, .int v0_10, .int v0_11, .int v0_12])), (qf0_2, .inl (cf0_2, 3001, .inl f0_2)), (qf0_0, .inl (cf0_0, 3001, .inl f0_0)), (qf4, .inl (cf4, 1740, .inl f4))]) hP hD [2, 4, 0, 5, 1] [3] rfl rfl (by decide) (by decide) hk1 hFc hP1 hD1
    clear hP hD
    obtain ⟨hP, hD⟩ := hPD
    replace hK := (hK.sub (tys' := [(cf3, .int)]) [2] rfl).app hK1
    clear hPc hDc hKc hFc hP1 hK1 hD1 hz1 hk1 ht hvm
    generalize H1 = H at hP hS ⊢
    replace hP : va_P (dC, dI) vwCl [(qf3, .inl (cf3, 334, .inl f3)), (h0, .inr (2, [.ref qf0, .ref qf1, .int v2, .ref qf3, .ref qf4, .ref qf5, .ref qf6, .ref qf7, .ref qf8, .ref qf9, .ref qf10, .ref qf11, .ref qf12, .ref qf13, .ref qf14, .ref qf15, .ref qf16, .ref qf17, .ref qf18, .ref qf19, .int v20])), (qf0, .inr (9, [.ref qf0_0, .ref qf0_1, .ref qf0_2, .int v0_3, .ref qf0_4, .ref qf0_5, .ref qf0_6, .ref qf0_7, .ref qf0_8, .int v0_9, .int v0_10, .int v0_11, .int v0_12])), (qf0_2, .inl (cf0_2, 3001, .inl f0_2)), (qf0_0, .inl (cf0_0, 3001, .inl f0_0)), (qf4, .inl (cf4, 1740, .inl f4))] H := hP
    replace hD : va_D A [(qf3, .inl (cf3, 334, .inl f3)), (h0, .inr (2, [.ref qf0, .ref qf1, .int v2, .ref qf3, .ref qf4, .ref qf5, .ref qf6, .ref qf7, .ref qf8, .ref qf9, .ref qf10, .ref qf11, .ref qf12, .ref qf13, .ref qf14, .ref qf15, .ref qf16, .ref qf17, .ref qf18, .ref qf19, .int v20])), (qf0, .inr (9, [.ref qf0_0, .ref qf0_1, .ref qf0_2, .int v0_3, .ref qf0_4, .ref qf0_5, .ref qf0_6, .ref qf0_7, .ref qf0_8, .int v0_9, .int v0_10, .int v0_11, .int v0_12])), (qf0_2, .inl (cf0_2, 3001, .inl f0_2)), (qf0_0, .inl (cf0_0, 3001, .inl f0_0)), (qf4, .inl (cf4, 1740, .inl f4))] := hD
    replace hK : va_K (dC, dI) vwCl [(cf3, .int), (cf0_2, .int), (cf0_0, .int), (cf4, .int)] s := hK
    obtain rfl := hw
    refine lv_goto (tgt := 32) hx hb dX2_classAbove_28 (by decide) ?_
    have hr0 := Option.some.inj hsp
    clear hsp
    subst hr0
    have hP9 := hP.sub (ws' := [(h0, .inr (2, [.ref qf0, .ref qf1, .int v2, .ref qf3, .ref qf4, .ref qf5, .ref qf6, .ref qf7, .ref qf8, .ref qf9, .ref qf10, .ref qf11, .ref qf12, .ref qf13, .ref qf14, .ref qf15, .ref qf16, .ref qf17, .ref qf18, .ref qf19, .int v20])), (qf3, .inl (cf3, 334, .inl f3)), (qf0, .inr (9, [.ref qf0_0, .ref qf0_1, .ref qf0_2, .int v0_3, .ref qf0_4, .ref qf0_5, .ref qf0_6, .ref qf0_7, .ref qf0_8, .int v0_9, .int v0_10, .int v0_11, .int v0_12])), (qf0_0, .inl (cf0_0, 3001, .inl f0_0)), (qf0_2, .inl (cf0_2, 3001, .inl f0_2)), (qf4, .inl (cf4, 1740, .inl f4))]) [1, 0, 2, 4, 3, 5] rfl
    have hD9 := hD.sub (ws' := [(h0, .inr (2, [.ref qf0, .ref qf1, .int v2, .ref qf3, .ref qf4, .ref qf5, .ref qf6, .ref qf7, .ref qf8, .ref qf9, .ref qf10, .ref qf11, .ref qf12, .ref qf13, .ref qf14, .ref qf15, .ref qf16, .ref qf17, .ref qf18, .ref qf19, .int v20])), (qf3, .inl (cf3, 334, .inl f3)), (qf0, .inr (9, [.ref qf0_0, .ref qf0_1, .ref qf0_2, .int v0_3, .ref qf0_4, .ref qf0_5, .ref qf0_6, .ref qf0_7, .ref qf0_8, .int v0_9, .int v0_10, .int v0_11, .int v0_12])), (qf0_0, .inl (cf0_0, 3001, .inl f0_0)), (qf0_2, .inl (cf0_2, 3001, .inl f0_2)), (qf4, .inl (cf4, 1740, .inl f4))]) [1, 0, 2, 4, 3, 5] (by decide) rfl
    have hK9 := hK.sub (tys' := [(cf3, .int), (cf0_0, .int), (cf0_2, .int), (cf4, .int)]) [0, 2, 1, 3] rfl
    exact W.iret hx hb hr (fun t ht hW => ⟨⟨(u3_0), (), rfl, rfl, by rw [ht]; exact hP9, va_K.moved hW.alike hK9, hD9⟩, hS.F ht⟩) hS.2.2 dX2_classAbove_32
def lp_t2_endsAbove_7 (nf n : Nat) (a1 : Int32) (v2 : Int32) (f3 : Nat → Int32) (v0_3 : Int32) (f0_0 : Nat → Int32) (f0_2 : Nat → Int32) (f4 : Nat → Int32)  (l1_7 : Int32) (l2_7 : Int32) (l3_7 : Int32) : Option (Int32) := match n with
  | 0 => none
  | n + 1 => (if v2 < l3_7 then (if 8 ≤ l2_7 then (some 0) else (some 1)) else (if l2_7 < 8 then (if 8 ≤ l2_7 then (some 0) else (some 1)) else ((sp_t2_classAbove nf (l2_7 - 8) v2 f3 v0_3 f0_0 f0_2 f4).bind (fun p1 => (lp_t2_endsAbove_7 nf n a1 v2 f3 v0_3 f0_0 f0_2 f4 l1_7 p1 (l3_7 + 1))))))
def sp_t2_endsAbove (nf : Nat) (a1 : Int32) (v2 : Int32) (f3 : Nat → Int32) (v0_3 : Int32) (f0_0 : Nat → Int32) (f0_2 : Nat → Int32) (f4 : Nat → Int32) : Option (Int32) := (lp_t2_endsAbove_7 nf nf a1 v2 f3 v0_3 f0_0 f0_2 f4 a1 (8 + a1) 0)
set_option maxHeartbeats 4000000 in
set_option maxRecDepth 100000 in
/-- ClassMill$Heads.endsAbove -/
theorem t2_endsAbove (l : Launch) (dC : Nat → ClassId) (dI : Nat → Nat → Nat) (sz : Nat) (h0 : Nat) (a1 : Int32) (qf0 : Nat) (qf1 : Nat) (v2 : Int32) (qf3 : Nat) (qf4 : Nat) (qf5 : Nat) (qf6 : Nat) (qf7 : Nat) (qf8 : Nat) (qf9 : Nat) (qf10 : Nat) (qf11 : Nat) (qf12 : Nat) (qf13 : Nat) (qf14 : Nat) (qf15 : Nat) (qf16 : Nat) (qf17 : Nat) (qf18 : Nat) (qf19 : Nat) (v20 : Int32) (cf3 : ClassId) (f3 : (Nat → Int32)) (qf0_0 : Nat) (qf0_1 : Nat) (qf0_2 : Nat) (v0_3 : Int32) (qf0_4 : Nat) (qf0_5 : Nat) (qf0_6 : Nat) (qf0_7 : Nat) (qf0_8 : Nat) (v0_9 : Int32) (v0_10 : Int32) (v0_11 : Int32) (v0_12 : Int32) (cf0_0 : ClassId) (f0_0 : (Nat → Int32)) (cf0_2 : ClassId) (f0_2 : (Nat → Int32)) (cf4 : ClassId) (f4 : (Nat → Int32)) (nf : Nat) (r0 : Int32) (hsp : sp_t2_endsAbove nf a1 v2 f3 v0_3 f0_0 f0_2 f4 = some r0) : Met l yX2_endsAbove (.code yX2_endsAbove cX2_endsAbove 4 (some .boolean) :: VS_h4) ({ frames := 3, cells := 0, slots := 0, locals := 65 }) (va_Pc [.ref h0, .int a1] (fun U => U.heap.size = sz ∧ va_P (dC, dI) vwCl [(h0, .inr (2, [.ref qf0, .ref qf1, .int v2, .ref qf3, .ref qf4, .ref qf5, .ref qf6, .ref qf7, .ref qf8, .ref qf9, .ref qf10, .ref qf11, .ref qf12, .ref qf13, .ref qf14, .ref qf15, .ref qf16, .ref qf17, .ref qf18, .ref qf19, .int v20])), (qf3, .inl (cf3, 334, .inl f3)), (qf0, .inr (9, [.ref qf0_0, .ref qf0_1, .ref qf0_2, .int v0_3, .ref qf0_4, .ref qf0_5, .ref qf0_6, .ref qf0_7, .ref qf0_8, .int v0_9, .int v0_10, .int v0_11, .int v0_12])), (qf0_0, .inl (cf0_0, 3001, .inl f0_0)), (qf0_2, .inl (cf0_2, 3001, .inl f0_2)), (qf4, .inl (cf4, 1740, .inl f4))] U.heap ∧ va_K (dC, dI) vwCl [(cf3, .int), (cf0_0, .int), (cf0_2, .int), (cf4, .int)] U ∧ va_D (fun _ => True) [(h0, .inr (2, [.ref qf0, .ref qf1, .int v2, .ref qf3, .ref qf4, .ref qf5, .ref qf6, .ref qf7, .ref qf8, .ref qf9, .ref qf10, .ref qf11, .ref qf12, .ref qf13, .ref qf14, .ref qf15, .ref qf16, .ref qf17, .ref qf18, .ref qf19, .int v20])), (qf3, .inl (cf3, 334, .inl f3)), (qf0, .inr (9, [.ref qf0_0, .ref qf0_1, .ref qf0_2, .int v0_3, .ref qf0_4, .ref qf0_5, .ref qf0_6, .ref qf0_7, .ref qf0_8, .int v0_9, .int v0_10, .int v0_11, .int v0_12])), (qf0_0, .inl (cf0_0, 3001, .inl f0_0)), (qf0_2, .inl (cf0_2, 3001, .inl f0_2)), (qf4, .inl (cf4, 1740, .inl f4))])) (va_Qi (fun (r : Int32) (u : Unit) => match u with | () => r0 = r ∧ (r0 = 0 ∨ r0 = 1)) (fun (u : Unit) (t : State) => match u with | () => va_P (dC, dI) vwCl [(h0, .inr (2, [.ref qf0, .ref qf1, .int v2, .ref qf3, .ref qf4, .ref qf5, .ref qf6, .ref qf7, .ref qf8, .ref qf9, .ref qf10, .ref qf11, .ref qf12, .ref qf13, .ref qf14, .ref qf15, .ref qf16, .ref qf17, .ref qf18, .ref qf19, .int v20])), (qf3, .inl (cf3, 334, .inl f3)), (qf0, .inr (9, [.ref qf0_0, .ref qf0_1, .ref qf0_2, .int v0_3, .ref qf0_4, .ref qf0_5, .ref qf0_6, .ref qf0_7, .ref qf0_8, .int v0_9, .int v0_10, .int v0_11, .int v0_12])), (qf0_0, .inl (cf0_0, 3001, .inl f0_0)), (qf0_2, .inl (cf0_2, 3001, .inl f0_2)), (qf4, .inl (cf4, 1740, .inl f4))] t.heap ∧ va_K (dC, dI) vwCl [(cf3, .int), (cf0_0, .int), (cf0_2, .int), (cf4, .int)] t ∧ va_D (va_A [(h0, .inr (2, [.ref qf0, .ref qf1, .int v2, .ref qf3, .ref qf4, .ref qf5, .ref qf6, .ref qf7, .ref qf8, .ref qf9, .ref qf10, .ref qf11, .ref qf12, .ref qf13, .ref qf14, .ref qf15, .ref qf16, .ref qf17, .ref qf18, .ref qf19, .int v20])), (qf3, .inl (cf3, 334, .inl f3)), (qf0, .inr (9, [.ref qf0_0, .ref qf0_1, .ref qf0_2, .int v0_3, .ref qf0_4, .ref qf0_5, .ref qf0_6, .ref qf0_7, .ref qf0_8, .int v0_9, .int v0_10, .int v0_11, .int v0_12])), (qf0_0, .inl (cf0_0, 3001, .inl f0_0)), (qf0_2, .inl (cf0_2, 3001, .inl f0_2)), (qf4, .inl (cf4, 1740, .inl f4))] sz) [(h0, .inr (2, [.ref qf0, .ref qf1, .int v2, .ref qf3, .ref qf4, .ref qf5, .ref qf6, .ref qf7, .ref qf8, .ref qf9, .ref qf10, .ref qf11, .ref qf12, .ref qf13, .ref qf14, .ref qf15, .ref qf16, .ref qf17, .ref qf18, .ref qf19, .int v20])), (qf3, .inl (cf3, 334, .inl f3)), (qf0, .inr (9, [.ref qf0_0, .ref qf0_1, .ref qf0_2, .int v0_3, .ref qf0_4, .ref qf0_5, .ref qf0_6, .ref qf0_7, .ref qf0_8, .int v0_9, .int v0_10, .int v0_11, .int v0_12])), (qf0_0, .inl (cf0_0, 3001, .inl f0_0)), (qf0_2, .inl (cf0_2, 3001, .inl f0_2)), (qf4, .inl (cf4, 1740, .inl f4))]) (va_A [(h0, .inr (2, [.ref qf0, .ref qf1, .int v2, .ref qf3, .ref qf4, .ref qf5, .ref qf6, .ref qf7, .ref qf8, .ref qf9, .ref qf10, .ref qf11, .ref qf12, .ref qf13, .ref qf14, .ref qf15, .ref qf16, .ref qf17, .ref qf18, .ref qf19, .int v20])), (qf3, .inl (cf3, 334, .inl f3)), (qf0, .inr (9, [.ref qf0_0, .ref qf0_1, .ref qf0_2, .int v0_3, .ref qf0_4, .ref qf0_5, .ref qf0_6, .ref qf0_7, .ref qf0_8, .int v0_9, .int v0_10, .int v0_11, .int v0_12])), (qf0_0, .inl (cf0_0, 3001, .inl f0_0)), (qf0_2, .inl (cf0_2, 3001, .inl f0_2)), (qf4, .inl (cf4, 1740, .inl f4))] sz)) 0 0 (va_A [(h0, .inr (2, [.ref qf0, .ref qf1, .int v2, .ref qf3, .ref qf4, .ref qf5, .ref qf6, .ref qf7, .ref qf8, .ref qf9, .ref qf10, .ref qf11, .ref qf12, .ref qf13, .ref qf14, .ref qf15, .ref qf16, .ref qf17, .ref qf18, .ref qf19, .int v20])), (qf3, .inl (cf3, 334, .inl f3)), (qf0, .inr (9, [.ref qf0_0, .ref qf0_1, .ref qf0_2, .int v0_3, .ref qf0_4, .ref qf0_5, .ref qf0_6, .ref qf0_7, .ref qf0_8, .int v0_9, .int v0_10, .int v0_11, .int v0_12])), (qf0_0, .inl (cf0_0, 3001, .inl f0_0)), (qf0_2, .inl (cf0_2, 3001, .inl f0_2)), (qf4, .inl (cf4, 1740, .inl f4))] sz) := by
  refine Met.ofW (cc := cX2_endsAbove) (maxL := 4) (ret := (some .boolean)) (by decide) rfl ?_
  intro p e s m args below meth c s₁ B hml hv
  obtain ⟨rfl, hsz, hP, hK, hD0⟩ := hv
  have hx := B.exec
  have hb := B.bytes
  have hr := B.returns
  have hts := atoms_spec (ws := (.code yX2_endsAbove cX2_endsAbove 4 (some .boolean) :: VS_h4)) B.pre
  replace hts := fun w (h : w ∈ VS_h4) => hts w (List.mem_cons_of_mem _ h)
  have hown : s.vm.findClass RX2 = some m.cls := findClass_of_methodNamed B.named
  have hlocks := B.notSynchronized
  subst hsz
  have hD := hD0.self (sz := s.heap.size)
  generalize hAe : va_A [(h0, .inr (2, [.ref qf0, .ref qf1, .int v2, .ref qf3, .ref qf4, .ref qf5, .ref qf6, .ref qf7, .ref qf8, .ref qf9, .ref qf10, .ref qf11, .ref qf12, .ref qf13, .ref qf14, .ref qf15, .ref qf16, .ref qf17, .ref qf18, .ref qf19, .int v20])), (qf3, .inl (cf3, 334, .inl f3)), (qf0, .inr (9, [.ref qf0_0, .ref qf0_1, .ref qf0_2, .int v0_3, .ref qf0_4, .ref qf0_5, .ref qf0_6, .ref qf0_7, .ref qf0_8, .int v0_9, .int v0_10, .int v0_11, .int v0_12])), (qf0_0, .inl (cf0_0, 3001, .inl f0_0)), (qf0_2, .inl (cf0_2, 3001, .inl f0_2)), (qf4, .inl (cf4, 1740, .inl f4))] s.heap.size = A at hD  ⊢
  have hA : ∀ q : Nat, s.heap.size ≤ q → A q := fun q h => by rw [← hAe]; exact Or.inr h
  have hP : va_P (dC, dI) vwCl [(h0, .inr (2, [.ref qf0, .ref qf1, .int v2, .ref qf3, .ref qf4, .ref qf5, .ref qf6, .ref qf7, .ref qf8, .ref qf9, .ref qf10, .ref qf11, .ref qf12, .ref qf13, .ref qf14, .ref qf15, .ref qf16, .ref qf17, .ref qf18, .ref qf19, .int v20])), (qf3, .inl (cf3, 334, .inl f3)), (qf0, .inr (9, [.ref qf0_0, .ref qf0_1, .ref qf0_2, .int v0_3, .ref qf0_4, .ref qf0_5, .ref qf0_6, .ref qf0_7, .ref qf0_8, .int v0_9, .int v0_10, .int v0_11, .int v0_12])), (qf0_0, .inl (cf0_0, 3001, .inl f0_0)), (qf0_2, .inl (cf0_2, 3001, .inl f0_2)), (qf4, .inl (cf4, 1740, .inl f4))] s.heap := hP
  have hl := lv_entry ([.ref h0, .int a1]) (n := 4) (Nat.le_of_ble_eq_true rfl)
  rw [lg_entry_eq]
  generalize (lg_sl ([.ref h0, .int a1]) ++ List.replicate (4 - (lg_sl ([.ref h0, .int a1])).length) Slot.unset).toArray = ls at hl ⊢
  have hl : lv_has ls 4 [(0, .ref h0), (1, .int a1)] := hl
  obtain ⟨H, hH⟩ : ∃ H : Heap, s.heap = H := ⟨_, rfl⟩
  rw [hH] at hP ⊢
  have hS : va_S A s.heap H [] := by rw [← hH]; exact va_S.rf
  obtain ⟨locs, hlo⟩ : ∃ locs : List Loc, locs = [] := ⟨_, rfl⟩
  rw [← hlo] at hS ⊢
  unfold sp_t2_endsAbove at hsp
  refine lv_bipush (v := 8) hx hb dX2_endsAbove_0 (by decide) ?_
  refine lv_iload_n hx hb dX2_endsAbove_2 rfl (lv_at hl 1 rfl) ?_
  refine lv_iadd hx hb dX2_endsAbove_3 ?_
  refine lv_istore_n (lv' := [(2, .int (8 + a1)), (0, .ref h0), (1, .int a1)]) hx hb dX2_endsAbove_4 rfl hl (by decide) rfl (fun ls hl => ?_)
  refine lv_iconst (v := 0) hx hb dX2_endsAbove_5 (by decide) ?_
  refine lv_istore_n (lv' := [(3, .int 0), (2, .int (8 + a1)), (0, .ref h0), (1, .int a1)]) hx hb dX2_endsAbove_6 rfl hl (by decide) rfl (fun ls hl => ?_)
  replace hP := hP.sub (ws' := [(h0, .inr (2, [.ref qf0, .ref qf1, .int v2, .ref qf3, .ref qf4, .ref qf5, .ref qf6, .ref qf7, .ref qf8, .ref qf9, .ref qf10, .ref qf11, .ref qf12, .ref qf13, .ref qf14, .ref qf15, .ref qf16, .ref qf17, .ref qf18, .ref qf19, .int v20])), (qf3, .inl (cf3, 334, .inl f3)), (qf0, .inr (9, [.ref qf0_0, .ref qf0_1, .ref qf0_2, .int v0_3, .ref qf0_4, .ref qf0_5, .ref qf0_6, .ref qf0_7, .ref qf0_8, .int v0_9, .int v0_10, .int v0_11, .int v0_12])), (qf0_0, .inl (cf0_0, 3001, .inl f0_0)), (qf0_2, .inl (cf0_2, 3001, .inl f0_2)), (qf4, .inl (cf4, 1740, .inl f4))]) [0, 1, 2, 3, 4, 5] rfl
  replace hD := hD.sub (ws' := [(h0, .inr (2, [.ref qf0, .ref qf1, .int v2, .ref qf3, .ref qf4, .ref qf5, .ref qf6, .ref qf7, .ref qf8, .ref qf9, .ref qf10, .ref qf11, .ref qf12, .ref qf13, .ref qf14, .ref qf15, .ref qf16, .ref qf17, .ref qf18, .ref qf19, .int v20])), (qf3, .inl (cf3, 334, .inl f3)), (qf0, .inr (9, [.ref qf0_0, .ref qf0_1, .ref qf0_2, .int v0_3, .ref qf0_4, .ref qf0_5, .ref qf0_6, .ref qf0_7, .ref qf0_8, .int v0_9, .int v0_10, .int v0_11, .int v0_12])), (qf0_0, .inl (cf0_0, 3001, .inl f0_0)), (qf0_2, .inl (cf0_2, 3001, .inl f0_2)), (qf4, .inl (cf4, 1740, .inl f4))]) [0, 1, 2, 3, 4, 5] (by decide) rfl
  replace hK := hK.sub (tys' := [(cf3, .int), (cf0_0, .int), (cf0_2, .int), (cf4, .int)]) [0, 1, 2, 3] rfl
  obtain ⟨n_7, hn_7⟩ : ∃ z : Nat, z = nf := ⟨_, rfl⟩
  obtain ⟨l1_7, el1_7⟩ : ∃ z : Int32, z = a1 := ⟨_, rfl⟩
  obtain ⟨l2_7, el2_7⟩ : ∃ z : Int32, z = (8 + a1) := ⟨_, rfl⟩
  obtain ⟨l3_7, el3_7⟩ : ∃ z : Int32, z = 0 := ⟨_, rfl⟩
  replace hsp : lp_t2_endsAbove_7 nf n_7 a1 v2 f3 v0_3 f0_0 f0_2 f4 l1_7 l2_7 l3_7 = some r0 := by rw [hn_7, el1_7, el2_7, el3_7]; exact hsp
  replace hl : lv_has ls 4 [(3, .int l3_7), (2, .int l2_7), (0, .ref h0), (1, .int l1_7)] := by rw [el1_7, el2_7, el3_7]; exact hl
  clear hn_7 el1_7 el2_7 el3_7
  try clear hlo
  try clear hH
  revert hsp
  revert hP
  revert hD
  revert hS
  revert hl
  revert l3_7
  revert l2_7
  revert l1_7
  revert ls
  revert locs
  revert H
  induction n_7 with
  | zero => intro H locs ls l1_7 l2_7 l3_7 hl hS hD hP hsp; unfold lp_t2_endsAbove_7 at hsp; cases hsp
  | succ n_7 ih_7 =>
    intro H locs ls l1_7 l2_7 l3_7 hl hS hD hP hsp
    unfold lp_t2_endsAbove_7 at hsp
    try dsimp only at hsp
    refine lv_iload_n hx hb dX2_endsAbove_7 rfl (lv_at hl 0 rfl) ?_
    refine lv_aload_n hx hb dX2_endsAbove_8 rfl (lv_at hl 2 rfl) ?_
    refine va_get (D := (dC, dI)) (ci := 2) (v := .int v2) (C := RX2) (T := TX2) (N := 21) hx hb hts uV_h4_X2 hown hK hP 0 rfl rfl 2 (by decide) (hts (.fieldLink RX2 78 "ClassMill$Heads" "classes" "I") mw_h4_125) (fun _ h9 => h9) rfl dX2_endsAbove_9 ?_
    refine lv_icmp_gt (tgt := 36) hx hb dX2_endsAbove_12 (by decide) (fun c_1 => ?_) (fun c_1 => ?_)
    · rw [if_pos c_1] at hsp
      refine lv_iload_n hx hb dX2_endsAbove_36 rfl (lv_at hl 1 rfl) ?_
      refine lv_bipush (v := 8) hx hb dX2_endsAbove_37 (by decide) ?_
      refine lv_icmp_ge (tgt := 46) hx hb dX2_endsAbove_39 (by decide) (fun c_2 => ?_) (fun c_2 => ?_)
      · rw [if_pos c_2] at hsp
        refine lv_iconst (v := 0) hx hb dX2_endsAbove_46 (by decide) ?_
        have hr0 := Option.some.inj hsp
        clear hsp
        subst hr0
        have hP9 := hP.sub (ws' := [(h0, .inr (2, [.ref qf0, .ref qf1, .int v2, .ref qf3, .ref qf4, .ref qf5, .ref qf6, .ref qf7, .ref qf8, .ref qf9, .ref qf10, .ref qf11, .ref qf12, .ref qf13, .ref qf14, .ref qf15, .ref qf16, .ref qf17, .ref qf18, .ref qf19, .int v20])), (qf3, .inl (cf3, 334, .inl f3)), (qf0, .inr (9, [.ref qf0_0, .ref qf0_1, .ref qf0_2, .int v0_3, .ref qf0_4, .ref qf0_5, .ref qf0_6, .ref qf0_7, .ref qf0_8, .int v0_9, .int v0_10, .int v0_11, .int v0_12])), (qf0_0, .inl (cf0_0, 3001, .inl f0_0)), (qf0_2, .inl (cf0_2, 3001, .inl f0_2)), (qf4, .inl (cf4, 1740, .inl f4))]) [0, 1, 2, 3, 4, 5] rfl
        have hD9 := hD.sub (ws' := [(h0, .inr (2, [.ref qf0, .ref qf1, .int v2, .ref qf3, .ref qf4, .ref qf5, .ref qf6, .ref qf7, .ref qf8, .ref qf9, .ref qf10, .ref qf11, .ref qf12, .ref qf13, .ref qf14, .ref qf15, .ref qf16, .ref qf17, .ref qf18, .ref qf19, .int v20])), (qf3, .inl (cf3, 334, .inl f3)), (qf0, .inr (9, [.ref qf0_0, .ref qf0_1, .ref qf0_2, .int v0_3, .ref qf0_4, .ref qf0_5, .ref qf0_6, .ref qf0_7, .ref qf0_8, .int v0_9, .int v0_10, .int v0_11, .int v0_12])), (qf0_0, .inl (cf0_0, 3001, .inl f0_0)), (qf0_2, .inl (cf0_2, 3001, .inl f0_2)), (qf4, .inl (cf4, 1740, .inl f4))]) [0, 1, 2, 3, 4, 5] (by decide) rfl
        have hK9 := hK.sub (tys' := [(cf3, .int), (cf0_0, .int), (cf0_2, .int), (cf4, .int)]) [0, 1, 2, 3] rfl
        exact W.zret hx hb hr (by decide) (fun t ht hW => ⟨⟨(0), (), rfl, ⟨rfl, Or.inl rfl⟩, by rw [ht]; exact hP9, va_K.moved hW.alike hK9, hD9⟩, hS.F ht⟩) hS.2.2 dX2_endsAbove_47
      · rw [if_neg c_2] at hsp
        refine lv_iconst (v := 1) hx hb dX2_endsAbove_42 (by decide) ?_
        refine lv_goto (tgt := 47) hx hb dX2_endsAbove_43 (by decide) ?_
        have hr0 := Option.some.inj hsp
        clear hsp
        subst hr0
        have hP9 := hP.sub (ws' := [(h0, .inr (2, [.ref qf0, .ref qf1, .int v2, .ref qf3, .ref qf4, .ref qf5, .ref qf6, .ref qf7, .ref qf8, .ref qf9, .ref qf10, .ref qf11, .ref qf12, .ref qf13, .ref qf14, .ref qf15, .ref qf16, .ref qf17, .ref qf18, .ref qf19, .int v20])), (qf3, .inl (cf3, 334, .inl f3)), (qf0, .inr (9, [.ref qf0_0, .ref qf0_1, .ref qf0_2, .int v0_3, .ref qf0_4, .ref qf0_5, .ref qf0_6, .ref qf0_7, .ref qf0_8, .int v0_9, .int v0_10, .int v0_11, .int v0_12])), (qf0_0, .inl (cf0_0, 3001, .inl f0_0)), (qf0_2, .inl (cf0_2, 3001, .inl f0_2)), (qf4, .inl (cf4, 1740, .inl f4))]) [0, 1, 2, 3, 4, 5] rfl
        have hD9 := hD.sub (ws' := [(h0, .inr (2, [.ref qf0, .ref qf1, .int v2, .ref qf3, .ref qf4, .ref qf5, .ref qf6, .ref qf7, .ref qf8, .ref qf9, .ref qf10, .ref qf11, .ref qf12, .ref qf13, .ref qf14, .ref qf15, .ref qf16, .ref qf17, .ref qf18, .ref qf19, .int v20])), (qf3, .inl (cf3, 334, .inl f3)), (qf0, .inr (9, [.ref qf0_0, .ref qf0_1, .ref qf0_2, .int v0_3, .ref qf0_4, .ref qf0_5, .ref qf0_6, .ref qf0_7, .ref qf0_8, .int v0_9, .int v0_10, .int v0_11, .int v0_12])), (qf0_0, .inl (cf0_0, 3001, .inl f0_0)), (qf0_2, .inl (cf0_2, 3001, .inl f0_2)), (qf4, .inl (cf4, 1740, .inl f4))]) [0, 1, 2, 3, 4, 5] (by decide) rfl
        have hK9 := hK.sub (tys' := [(cf3, .int), (cf0_0, .int), (cf0_2, .int), (cf4, .int)]) [0, 1, 2, 3] rfl
        exact W.zret hx hb hr (by decide) (fun t ht hW => ⟨⟨(1), (), rfl, ⟨rfl, Or.inr rfl⟩, by rw [ht]; exact hP9, va_K.moved hW.alike hK9, hD9⟩, hS.F ht⟩) hS.2.2 dX2_endsAbove_47
    · rw [if_neg c_1] at hsp
      refine lv_iload_n hx hb dX2_endsAbove_15 rfl (lv_at hl 1 rfl) ?_
      refine lv_bipush (v := 8) hx hb dX2_endsAbove_16 (by decide) ?_
      refine lv_icmp_lt (tgt := 36) hx hb dX2_endsAbove_18 (by decide) (fun c_3 => ?_) (fun c_3 => ?_)
      · rw [if_pos c_3] at hsp
        refine lv_iload_n hx hb dX2_endsAbove_36 rfl (lv_at hl 1 rfl) ?_
        refine lv_bipush (v := 8) hx hb dX2_endsAbove_37 (by decide) ?_
        refine lv_icmp_ge (tgt := 46) hx hb dX2_endsAbove_39 (by decide) (fun c_4 => ?_) (fun c_4 => ?_)
        · rw [if_pos c_4] at hsp
          refine lv_iconst (v := 0) hx hb dX2_endsAbove_46 (by decide) ?_
          have hr0 := Option.some.inj hsp
          clear hsp
          subst hr0
          have hP9 := hP.sub (ws' := [(h0, .inr (2, [.ref qf0, .ref qf1, .int v2, .ref qf3, .ref qf4, .ref qf5, .ref qf6, .ref qf7, .ref qf8, .ref qf9, .ref qf10, .ref qf11, .ref qf12, .ref qf13, .ref qf14, .ref qf15, .ref qf16, .ref qf17, .ref qf18, .ref qf19, .int v20])), (qf3, .inl (cf3, 334, .inl f3)), (qf0, .inr (9, [.ref qf0_0, .ref qf0_1, .ref qf0_2, .int v0_3, .ref qf0_4, .ref qf0_5, .ref qf0_6, .ref qf0_7, .ref qf0_8, .int v0_9, .int v0_10, .int v0_11, .int v0_12])), (qf0_0, .inl (cf0_0, 3001, .inl f0_0)), (qf0_2, .inl (cf0_2, 3001, .inl f0_2)), (qf4, .inl (cf4, 1740, .inl f4))]) [0, 1, 2, 3, 4, 5] rfl
          have hD9 := hD.sub (ws' := [(h0, .inr (2, [.ref qf0, .ref qf1, .int v2, .ref qf3, .ref qf4, .ref qf5, .ref qf6, .ref qf7, .ref qf8, .ref qf9, .ref qf10, .ref qf11, .ref qf12, .ref qf13, .ref qf14, .ref qf15, .ref qf16, .ref qf17, .ref qf18, .ref qf19, .int v20])), (qf3, .inl (cf3, 334, .inl f3)), (qf0, .inr (9, [.ref qf0_0, .ref qf0_1, .ref qf0_2, .int v0_3, .ref qf0_4, .ref qf0_5, .ref qf0_6, .ref qf0_7, .ref qf0_8, .int v0_9, .int v0_10, .int v0_11, .int v0_12])), (qf0_0, .inl (cf0_0, 3001, .inl f0_0)), (qf0_2, .inl (cf0_2, 3001, .inl f0_2)), (qf4, .inl (cf4, 1740, .inl f4))]) [0, 1, 2, 3, 4, 5] (by decide) rfl
          have hK9 := hK.sub (tys' := [(cf3, .int), (cf0_0, .int), (cf0_2, .int), (cf4, .int)]) [0, 1, 2, 3] rfl
          exact W.zret hx hb hr (by decide) (fun t ht hW => ⟨⟨(0), (), rfl, ⟨rfl, Or.inl rfl⟩, by rw [ht]; exact hP9, va_K.moved hW.alike hK9, hD9⟩, hS.F ht⟩) hS.2.2 dX2_endsAbove_47
        · rw [if_neg c_4] at hsp
          refine lv_iconst (v := 1) hx hb dX2_endsAbove_42 (by decide) ?_
          refine lv_goto (tgt := 47) hx hb dX2_endsAbove_43 (by decide) ?_
          have hr0 := Option.some.inj hsp
          clear hsp
          subst hr0
          have hP9 := hP.sub (ws' := [(h0, .inr (2, [.ref qf0, .ref qf1, .int v2, .ref qf3, .ref qf4, .ref qf5, .ref qf6, .ref qf7, .ref qf8, .ref qf9, .ref qf10, .ref qf11, .ref qf12, .ref qf13, .ref qf14, .ref qf15, .ref qf16, .ref qf17, .ref qf18, .ref qf19, .int v20])), (qf3, .inl (cf3, 334, .inl f3)), (qf0, .inr (9, [.ref qf0_0, .ref qf0_1, .ref qf0_2, .int v0_3, .ref qf0_4, .ref qf0_5, .ref qf0_6, .ref qf0_7, .ref qf0_8, .int v0_9, .int v0_10, .int v0_11, .int v0_12])), (qf0_0, .inl (cf0_0, 3001, .inl f0_0)), (qf0_2, .inl (cf0_2, 3001, .inl f0_2)), (qf4, .inl (cf4, 1740, .inl f4))]) [0, 1, 2, 3, 4, 5] rfl
          have hD9 := hD.sub (ws' := [(h0, .inr (2, [.ref qf0, .ref qf1, .int v2, .ref qf3, .ref qf4, .ref qf5, .ref qf6, .ref qf7, .ref qf8, .ref qf9, .ref qf10, .ref qf11, .ref qf12, .ref qf13, .ref qf14, .ref qf15, .ref qf16, .ref qf17, .ref qf18, .ref qf19, .int v20])), (qf3, .inl (cf3, 334, .inl f3)), (qf0, .inr (9, [.ref qf0_0, .ref qf0_1, .ref qf0_2, .int v0_3, .ref qf0_4, .ref qf0_5, .ref qf0_6, .ref qf0_7, .ref qf0_8, .int v0_9, .int v0_10, .int v0_11, .int v0_12])), (qf0_0, .inl (cf0_0, 3001, .inl f0_0)), (qf0_2, .inl (cf0_2, 3001, .inl f0_2)), (qf4, .inl (cf4, 1740, .inl f4))]) [0, 1, 2, 3, 4, 5] (by decide) rfl
          have hK9 := hK.sub (tys' := [(cf3, .int), (cf0_0, .int), (cf0_2, .int), (cf4, .int)]) [0, 1, 2, 3] rfl
          exact W.zret hx hb hr (by decide) (fun t ht hW => ⟨⟨(1), (), rfl, ⟨rfl, Or.inr rfl⟩, by rw [ht]; exact hP9, va_K.moved hW.alike hK9, hD9⟩, hS.F ht⟩) hS.2.2 dX2_endsAbove_47
      · rw [if_neg c_3] at hsp
        refine lv_aload_n hx hb dX2_endsAbove_21 rfl (lv_at hl 2 rfl) ?_
        refine lv_iload_n hx hb dX2_endsAbove_22 rfl (lv_at hl 1 rfl) ?_
        refine lv_bipush (v := 8) hx hb dX2_endsAbove_23 (by decide) ?_
        refine lv_isub hx hb dX2_endsAbove_25 ?_
        obtain ⟨u1_0, hu_1, hsp⟩ := ox_bind hsp
        try dsimp only at hsp
        have hPc := hP.sub (ws' := [(h0, .inr (2, [.ref qf0, .ref qf1, .int v2, .ref qf3, .ref qf4, .ref qf5, .ref qf6, .ref qf7, .ref qf8, .ref qf9, .ref qf10, .ref qf11, .ref qf12, .ref qf13, .ref qf14, .ref qf15, .ref qf16, .ref qf17, .ref qf18, .ref qf19, .int v20])), (qf3, .inl (cf3, 334, .inl f3)), (qf0, .inr (9, [.ref qf0_0, .ref qf0_1, .ref qf0_2, .int v0_3, .ref qf0_4, .ref qf0_5, .ref qf0_6, .ref qf0_7, .ref qf0_8, .int v0_9, .int v0_10, .int v0_11, .int v0_12])), (qf0_0, .inl (cf0_0, 3001, .inl f0_0)), (qf0_2, .inl (cf0_2, 3001, .inl f0_2)), (qf4, .inl (cf4, 1740, .inl f4))]) [0, 1, 2, 3, 4, 5] rfl
        have hDc := hD.sub (ws' := [(h0, .inr (2, [.ref qf0, .ref qf1, .int v2, .ref qf3, .ref qf4, .ref qf5, .ref qf6, .ref qf7, .ref qf8, .ref qf9, .ref qf10, .ref qf11, .ref qf12, .ref qf13, .ref qf14, .ref qf15, .ref qf16, .ref qf17, .ref qf18, .ref qf19, .int v20])), (qf3, .inl (cf3, 334, .inl f3)), (qf0, .inr (9, [.ref qf0_0, .ref qf0_1, .ref qf0_2, .int v0_3, .ref qf0_4, .ref qf0_5, .ref qf0_6, .ref qf0_7, .ref qf0_8, .int v0_9, .int v0_10, .int v0_11, .int v0_12])), (qf0_0, .inl (cf0_0, 3001, .inl f0_0)), (qf0_2, .inl (cf0_2, 3001, .inl f0_2)), (qf4, .inl (cf4, 1740, .inl f4))]) [0, 1, 2, 3, 4, 5] (by decide) rfl
        have hKc := hK.sub (tys' := [(cf3, .int), (cf0_0, .int), (cf0_2, .int), (cf4, .int)]) [0, 1, 2, 3] rfl
        have hFc := va_free (wc := [(h0, .inr (2, [.ref qf0, .ref qf1, .int v2, .ref qf3, .ref qf4, .ref qf5, .ref qf6, .ref qf7, .ref qf8, .ref qf9, .ref qf10, .ref qf11, .ref qf12, .ref qf13, .ref qf14, .ref qf15, .ref qf16, .ref qf17, .ref qf18, .ref qf19, .int v20])), (qf3, .inl (cf3, 334, .inl f3)), (qf0, .inr (9, [.ref qf0_0, .ref qf0_1, .ref qf0_2, .int v0_3, .ref qf0_4, .ref qf0_5, .ref qf0_6, .ref qf0_7, .ref qf0_8, .int v0_9, .int v0_10, .int v0_11, .int v0_12])), (qf0_0, .inl (cf0_0, 3001, .inl f0_0)), (qf0_2, .inl (cf0_2, 3001, .inl f0_2)), (qf4, .inl (cf4, 1740, .inl f4))]) hD hS hA [0, 1, 2, 3, 4, 5] rfl
        refine va_calli (va_runV (As := [.int (l2_7 - 8)]) (rest := []) ⟨hx, hb, hml, hown, hts⟩ (t2_classAbove l dC dI H.size h0 ((l2_7 - 8)) qf0 qf1 v2 qf3 qf4 qf5 qf6 qf7 qf8 qf9 qf10 qf11 qf12 qf13 qf14 qf15 qf16 qf17 qf18 qf19 v20 cf3 f3 qf0_0 qf0_1 qf0_2 v0_3 qf0_4 qf0_5 qf0_6 qf0_7 qf0_8 v0_9 v0_10 v0_11 v0_12 cf0_0 f0_0 cf0_2 f0_2 cf4 f4 nf u1_0 hu_1) (cwV 1 hts gv_h4_31 rfl rfl rfl (by decide +kernel) ⟨Nat.le_of_ble_eq_true rfl, Nat.le_of_ble_eq_true rfl⟩) ⟨fun a U g mk q => by obtain ⟨q0, q1, qP, qK, qD⟩ := q; exact ⟨q0, q1, qP, va_K.moved (u := U) (U := U.calling g mk a) (Vm.Alike.refl U.vm) qK, qD⟩, va_recv hKc hPc (ci := 2) (q0 := 0) rfl rfl, fun U hU hW => ⟨rfl, by rw [hU], by rw [hU]; exact hPc, va_K.moved hW.alike hKc, hDc.weaken (fun _ _ _ _ => trivial)⟩⟩ rfl rfl hl.1 rfl (lv_room (Nat.le_of_ble_eq_true rfl)) dX2_endsAbove_26 ⟨Nat.le_of_ble_eq_true rfl, Nat.le_of_ble_eq_true rfl⟩) hS (fun q _ h => hFc q h) hFc ?_
        clear hS
        intro r_5 u t H1 locs ht hvm hw hB hz1 hk1 hS
        obtain ⟨⟩ := u
        obtain ⟨hP1, hK1, hD1⟩ := hB
        rw [ht] at hP1
        have hK1 := va_K.moved hvm.symm hK1
        try dsimp only at hw
        have hPD := va_join (wr := []) (w1 := [(h0, .inr (2, [.ref qf0, .ref qf1, .int v2, .ref qf3, .ref qf4, .ref qf5, .ref qf6, .ref qf7, .ref qf8, .ref qf9, .ref qf10, .ref qf11, .ref qf12, .ref qf13, .ref qf14, .ref qf15, .ref qf16, .ref qf17, .ref qf18, .ref qf19, .int v20])), (qf3, .inl (cf3, 334, .inl f3)), (qf0, .inr (9, [.ref qf0_0, .ref qf0_1, .ref qf0_2, .int v0_3, .ref qf0_4, .ref qf0_5, .ref qf0_6, .ref qf0_7, .ref qf0_8, .int v0_9, .int v0_10, .int v0_11, .int v0_12])), (qf0_0, .inl (cf0_0, 3001, .inl f0_0)), (qf0_2, .inl (cf0_2, 3001, .inl f0_2)), (qf4, .inl (cf4, 1740, .inl f4))]) hP hD [0, 1, 2, 3, 4, 5] [] rfl rfl (by decide) (by decide) hk1 hFc hP1 hD1
        clear hP hD
        obtain ⟨hP, hD⟩ := hPD
        replace hK := (hK.sub (tys' := []) [] rfl).app hK1
        clear hPc hDc hKc hFc hP1 hK1 hD1 hz1 hk1 ht hvm
        generalize H1 = H at hP hS ⊢
        replace hP : va_P (dC, dI) vwCl [(h0, .inr (2, [.ref qf0, .ref qf1, .int v2, .ref qf3, .ref qf4, .ref qf5, .ref qf6, .ref qf7, .ref qf8, .ref qf9, .ref qf10, .ref qf11, .ref qf12, .ref qf13, .ref qf14, .ref qf15, .ref qf16, .ref qf17, .ref qf18, .ref qf19, .int v20])), (qf3, .inl (cf3, 334, .inl f3)), (qf0, .inr (9, [.ref qf0_0, .ref qf0_1, .ref qf0_2, .int v0_3, .ref qf0_4, .ref qf0_5, .ref qf0_6, .ref qf0_7, .ref qf0_8, .int v0_9, .int v0_10, .int v0_11, .int v0_12])), (qf0_0, .inl (cf0_0, 3001, .inl f0_0)), (qf0_2, .inl (cf0_2, 3001, .inl f0_2)), (qf4, .inl (cf4, 1740, .inl f4))] H := hP
        replace hD : va_D A [(h0, .inr (2, [.ref qf0, .ref qf1, .int v2, .ref qf3, .ref qf4, .ref qf5, .ref qf6, .ref qf7, .ref qf8, .ref qf9, .ref qf10, .ref qf11, .ref qf12, .ref qf13, .ref qf14, .ref qf15, .ref qf16, .ref qf17, .ref qf18, .ref qf19, .int v20])), (qf3, .inl (cf3, 334, .inl f3)), (qf0, .inr (9, [.ref qf0_0, .ref qf0_1, .ref qf0_2, .int v0_3, .ref qf0_4, .ref qf0_5, .ref qf0_6, .ref qf0_7, .ref qf0_8, .int v0_9, .int v0_10, .int v0_11, .int v0_12])), (qf0_0, .inl (cf0_0, 3001, .inl f0_0)), (qf0_2, .inl (cf0_2, 3001, .inl f0_2)), (qf4, .inl (cf4, 1740, .inl f4))] := hD
        replace hK : va_K (dC, dI) vwCl [(cf3, .int), (cf0_0, .int), (cf0_2, .int), (cf4, .int)] s := hK
        obtain rfl := hw
        refine lv_istore_n (lv' := [(2, .int u1_0), (3, .int l3_7), (0, .ref h0), (1, .int l1_7)]) hx hb dX2_endsAbove_29 rfl hl (by decide) rfl (fun ls hl => ?_)
        refine lv_iinc (v := (l3_7 + 1)) (lv' := [(3, .int (l3_7 + 1)), (2, .int u1_0), (0, .ref h0), (1, .int l1_7)]) hx hb dX2_endsAbove_30 hl (k := 1) rfl rfl (by decide) rfl (fun ls hl => ?_)
        refine lv_goto (tgt := 7) hx hb dX2_endsAbove_33 (by decide) ?_
        exact ih_7 H locs ls l1_7 u1_0 (l3_7 + 1) (lv_sub hl [0, 1, 2, 3] rfl) hS (hD.sub (ws' := [(h0, .inr (2, [.ref qf0, .ref qf1, .int v2, .ref qf3, .ref qf4, .ref qf5, .ref qf6, .ref qf7, .ref qf8, .ref qf9, .ref qf10, .ref qf11, .ref qf12, .ref qf13, .ref qf14, .ref qf15, .ref qf16, .ref qf17, .ref qf18, .ref qf19, .int v20])), (qf3, .inl (cf3, 334, .inl f3)), (qf0, .inr (9, [.ref qf0_0, .ref qf0_1, .ref qf0_2, .int v0_3, .ref qf0_4, .ref qf0_5, .ref qf0_6, .ref qf0_7, .ref qf0_8, .int v0_9, .int v0_10, .int v0_11, .int v0_12])), (qf0_0, .inl (cf0_0, 3001, .inl f0_0)), (qf0_2, .inl (cf0_2, 3001, .inl f0_2)), (qf4, .inl (cf4, 1740, .inl f4))]) [0, 1, 2, 3, 4, 5] (by decide) rfl) (hP.sub (ws' := [(h0, .inr (2, [.ref qf0, .ref qf1, .int v2, .ref qf3, .ref qf4, .ref qf5, .ref qf6, .ref qf7, .ref qf8, .ref qf9, .ref qf10, .ref qf11, .ref qf12, .ref qf13, .ref qf14, .ref qf15, .ref qf16, .ref qf17, .ref qf18, .ref qf19, .int v20])), (qf3, .inl (cf3, 334, .inl f3)), (qf0, .inr (9, [.ref qf0_0, .ref qf0_1, .ref qf0_2, .int v0_3, .ref qf0_4, .ref qf0_5, .ref qf0_6, .ref qf0_7, .ref qf0_8, .int v0_9, .int v0_10, .int v0_11, .int v0_12])), (qf0_0, .inl (cf0_0, 3001, .inl f0_0)), (qf0_2, .inl (cf0_2, 3001, .inl f0_2)), (qf4, .inl (cf4, 1740, .inl f4))]) [0, 1, 2, 3, 4, 5] rfl) hsp
def sp_t2_readType (nf : Nat) (v0_3 : Int32) (v0_10 : Int32) (v0_11 : Int32) (v0_12 : Int32) (f0_0 : Nat → Int32) (f0_2 : Nat → Int32) (f4 : Nat → Int32) (f0_1 : Nat → Int32) : Option (Int32 × Int32 × Int32 × Int32) := ((sp_t9_kind nf v0_3 v0_10 v0_11 f0_0).bind (fun p1 => (if p1 = 10 then (some (302, (v0_10 + 1), v0_11, v0_12)) else (if p1 = 2 then ((sp_t2_classAt nf v0_10 v0_3 f0_2 f0_0 f4).bind (fun p3 => (if p3 = (-1) then ((sp_t9_tell nf 5 v0_10 v0_3 v0_11 v0_12 f0_1).bind (fun p5 => (some (305, (v0_10 + 1), p5.1, p5.2)))) else ((sp_t9_kind nf v0_3 (v0_10 + 1) v0_11 f0_0).bind (fun p4 => (if p4 = 44 then (if p1 = 20 then (some (200, ((v0_10 + 1) + 2), v0_11, v0_12)) else (some ((100 + p3), ((v0_10 + 1) + 2), v0_11, v0_12))) else (if p1 = 20 then (some (301, (v0_10 + 1), v0_11, v0_12)) else (some (p3, (v0_10 + 1), v0_11, v0_12))))))))) else ((sp_t9_kind nf v0_3 (v0_10 + 1) v0_11 f0_0).bind (fun p2 => (if p2 = 44 then (if p1 = 20 then (some (200, ((v0_10 + 1) + 2), v0_11, v0_12)) else (some (100, ((v0_10 + 1) + 2), v0_11, v0_12))) else (if p1 = 20 then (some (301, (v0_10 + 1), v0_11, v0_12)) else (some (0, (v0_10 + 1), v0_11, v0_12))))))))))
set_option maxHeartbeats 4000000 in
set_option maxRecDepth 100000 in
/-- ClassMill$Heads.readType -/
theorem t2_readType (l : Launch) (dC : Nat → ClassId) (dI : Nat → Nat → Nat) (sz : Nat) (h0 : Nat) (qf0 : Nat) (qf1 : Nat) (v2 : Int32) (qf3 : Nat) (qf4 : Nat) (qf5 : Nat) (qf6 : Nat) (qf7 : Nat) (qf8 : Nat) (qf9 : Nat) (qf10 : Nat) (qf11 : Nat) (qf12 : Nat) (qf13 : Nat) (qf14 : Nat) (qf15 : Nat) (qf16 : Nat) (qf17 : Nat) (qf18 : Nat) (qf19 : Nat) (v20 : Int32) (qf0_0 : Nat) (qf0_1 : Nat) (qf0_2 : Nat) (v0_3 : Int32) (qf0_4 : Nat) (qf0_5 : Nat) (qf0_6 : Nat) (qf0_7 : Nat) (qf0_8 : Nat) (v0_9 : Int32) (v0_10 : Int32) (v0_11 : Int32) (v0_12 : Int32) (cf0_0 : ClassId) (f0_0 : (Nat → Int32)) (cf0_2 : ClassId) (f0_2 : (Nat → Int32)) (cf4 : ClassId) (f4 : (Nat → Int32)) (cf0_1 : ClassId) (f0_1 : (Nat → Int32)) (nf : Nat) (r0 : Int32) (w0_10 : Int32) (w0_11 : Int32) (w0_12 : Int32) (hsp : sp_t2_readType nf v0_3 v0_10 v0_11 v0_12 f0_0 f0_2 f4 f0_1 = some (r0, w0_10, w0_11, w0_12)) : Met l yX2_readType (.code yX2_readType cX2_readType 5 (some .int) :: VS_h4) ({ frames := 2, cells := 0, slots := 0, locals := 43 }) (va_Pc [.ref h0] (fun U => U.heap.size = sz ∧ va_P (dC, dI) vwCl [(h0, .inr (2, [.ref qf0, .ref qf1, .int v2, .ref qf3, .ref qf4, .ref qf5, .ref qf6, .ref qf7, .ref qf8, .ref qf9, .ref qf10, .ref qf11, .ref qf12, .ref qf13, .ref qf14, .ref qf15, .ref qf16, .ref qf17, .ref qf18, .ref qf19, .int v20])), (qf0, .inr (9, [.ref qf0_0, .ref qf0_1, .ref qf0_2, .int v0_3, .ref qf0_4, .ref qf0_5, .ref qf0_6, .ref qf0_7, .ref qf0_8, .int v0_9, .int v0_10, .int v0_11, .int v0_12])), (qf0_0, .inl (cf0_0, 3001, .inl f0_0)), (qf0_2, .inl (cf0_2, 3001, .inl f0_2)), (qf4, .inl (cf4, 1740, .inl f4)), (qf0_1, .inl (cf0_1, 3001, .inl f0_1))] U.heap ∧ va_K (dC, dI) vwCl [(cf0_0, .int), (cf0_2, .int), (cf4, .int), (cf0_1, .int)] U ∧ va_D (fun _ => True) [(h0, .inr (2, [.ref qf0, .ref qf1, .int v2, .ref qf3, .ref qf4, .ref qf5, .ref qf6, .ref qf7, .ref qf8, .ref qf9, .ref qf10, .ref qf11, .ref qf12, .ref qf13, .ref qf14, .ref qf15, .ref qf16, .ref qf17, .ref qf18, .ref qf19, .int v20])), (qf0, .inr (9, [.ref qf0_0, .ref qf0_1, .ref qf0_2, .int v0_3, .ref qf0_4, .ref qf0_5, .ref qf0_6, .ref qf0_7, .ref qf0_8, .int v0_9, .int v0_10, .int v0_11, .int v0_12])), (qf0_0, .inl (cf0_0, 3001, .inl f0_0)), (qf0_2, .inl (cf0_2, 3001, .inl f0_2)), (qf4, .inl (cf4, 1740, .inl f4)), (qf0_1, .inl (cf0_1, 3001, .inl f0_1))])) (va_Qi (fun (r : Int32) (u : Unit) => match u with | () => r0 = r) (fun (u : Unit) (t : State) => match u with | () => va_P (dC, dI) vwCl [(h0, .inr (2, [.ref qf0, .ref qf1, .int v2, .ref qf3, .ref qf4, .ref qf5, .ref qf6, .ref qf7, .ref qf8, .ref qf9, .ref qf10, .ref qf11, .ref qf12, .ref qf13, .ref qf14, .ref qf15, .ref qf16, .ref qf17, .ref qf18, .ref qf19, .int v20])), (qf0, .inr (9, [.ref qf0_0, .ref qf0_1, .ref qf0_2, .int v0_3, .ref qf0_4, .ref qf0_5, .ref qf0_6, .ref qf0_7, .ref qf0_8, .int v0_9, .int w0_10, .int w0_11, .int w0_12])), (qf0_0, .inl (cf0_0, 3001, .inl f0_0)), (qf0_2, .inl (cf0_2, 3001, .inl f0_2)), (qf4, .inl (cf4, 1740, .inl f4)), (qf0_1, .inl (cf0_1, 3001, .inl f0_1))] t.heap ∧ va_K (dC, dI) vwCl [(cf0_0, .int), (cf0_2, .int), (cf4, .int), (cf0_1, .int)] t ∧ va_D (va_A [(h0, .inr (2, [.ref qf0, .ref qf1, .int v2, .ref qf3, .ref qf4, .ref qf5, .ref qf6, .ref qf7, .ref qf8, .ref qf9, .ref qf10, .ref qf11, .ref qf12, .ref qf13, .ref qf14, .ref qf15, .ref qf16, .ref qf17, .ref qf18, .ref qf19, .int v20])), (qf0, .inr (9, [.ref qf0_0, .ref qf0_1, .ref qf0_2, .int v0_3, .ref qf0_4, .ref qf0_5, .ref qf0_6, .ref qf0_7, .ref qf0_8, .int v0_9, .int v0_10, .int v0_11, .int v0_12])), (qf0_0, .inl (cf0_0, 3001, .inl f0_0)), (qf0_2, .inl (cf0_2, 3001, .inl f0_2)), (qf4, .inl (cf4, 1740, .inl f4)), (qf0_1, .inl (cf0_1, 3001, .inl f0_1))] sz) [(h0, .inr (2, [.ref qf0, .ref qf1, .int v2, .ref qf3, .ref qf4, .ref qf5, .ref qf6, .ref qf7, .ref qf8, .ref qf9, .ref qf10, .ref qf11, .ref qf12, .ref qf13, .ref qf14, .ref qf15, .ref qf16, .ref qf17, .ref qf18, .ref qf19, .int v20])), (qf0, .inr (9, [.ref qf0_0, .ref qf0_1, .ref qf0_2, .int v0_3, .ref qf0_4, .ref qf0_5, .ref qf0_6, .ref qf0_7, .ref qf0_8, .int v0_9, .int w0_10, .int w0_11, .int w0_12])), (qf0_0, .inl (cf0_0, 3001, .inl f0_0)), (qf0_2, .inl (cf0_2, 3001, .inl f0_2)), (qf4, .inl (cf4, 1740, .inl f4)), (qf0_1, .inl (cf0_1, 3001, .inl f0_1))]) (va_A [(h0, .inr (2, [.ref qf0, .ref qf1, .int v2, .ref qf3, .ref qf4, .ref qf5, .ref qf6, .ref qf7, .ref qf8, .ref qf9, .ref qf10, .ref qf11, .ref qf12, .ref qf13, .ref qf14, .ref qf15, .ref qf16, .ref qf17, .ref qf18, .ref qf19, .int v20])), (qf0, .inr (9, [.ref qf0_0, .ref qf0_1, .ref qf0_2, .int v0_3, .ref qf0_4, .ref qf0_5, .ref qf0_6, .ref qf0_7, .ref qf0_8, .int v0_9, .int v0_10, .int v0_11, .int v0_12])), (qf0_0, .inl (cf0_0, 3001, .inl f0_0)), (qf0_2, .inl (cf0_2, 3001, .inl f0_2)), (qf4, .inl (cf4, 1740, .inl f4)), (qf0_1, .inl (cf0_1, 3001, .inl f0_1))] sz)) 0 0 (va_A [(h0, .inr (2, [.ref qf0, .ref qf1, .int v2, .ref qf3, .ref qf4, .ref qf5, .ref qf6, .ref qf7, .ref qf8, .ref qf9, .ref qf10, .ref qf11, .ref qf12, .ref qf13, .ref qf14, .ref qf15, .ref qf16, .ref qf17, .ref qf18, .ref qf19, .int v20])), (qf0, .inr (9, [.ref qf0_0, .ref qf0_1, .ref qf0_2, .int v0_3, .ref qf0_4, .ref qf0_5, .ref qf0_6, .ref qf0_7, .ref qf0_8, .int v0_9, .int v0_10, .int v0_11, .int v0_12])), (qf0_0, .inl (cf0_0, 3001, .inl f0_0)), (qf0_2, .inl (cf0_2, 3001, .inl f0_2)), (qf4, .inl (cf4, 1740, .inl f4)), (qf0_1, .inl (cf0_1, 3001, .inl f0_1))] sz) := by
  refine Met.ofW (cc := cX2_readType) (maxL := 5) (ret := (some .int)) (by decide) rfl ?_
  intro p e s m args below meth c s₁ B hml hv
  obtain ⟨rfl, hsz, hP, hK, hD0⟩ := hv
  have hx := B.exec
  have hb := B.bytes
  have hr := B.returns
  have hts := atoms_spec (ws := (.code yX2_readType cX2_readType 5 (some .int) :: VS_h4)) B.pre
  replace hts := fun w (h : w ∈ VS_h4) => hts w (List.mem_cons_of_mem _ h)
  have hown : s.vm.findClass RX2 = some m.cls := findClass_of_methodNamed B.named
  have hlocks := B.notSynchronized
  subst hsz
  have hD := hD0.self (sz := s.heap.size)
  generalize hAe : va_A [(h0, .inr (2, [.ref qf0, .ref qf1, .int v2, .ref qf3, .ref qf4, .ref qf5, .ref qf6, .ref qf7, .ref qf8, .ref qf9, .ref qf10, .ref qf11, .ref qf12, .ref qf13, .ref qf14, .ref qf15, .ref qf16, .ref qf17, .ref qf18, .ref qf19, .int v20])), (qf0, .inr (9, [.ref qf0_0, .ref qf0_1, .ref qf0_2, .int v0_3, .ref qf0_4, .ref qf0_5, .ref qf0_6, .ref qf0_7, .ref qf0_8, .int v0_9, .int v0_10, .int v0_11, .int v0_12])), (qf0_0, .inl (cf0_0, 3001, .inl f0_0)), (qf0_2, .inl (cf0_2, 3001, .inl f0_2)), (qf4, .inl (cf4, 1740, .inl f4)), (qf0_1, .inl (cf0_1, 3001, .inl f0_1))] s.heap.size = A at hD  ⊢
  have hA : ∀ q : Nat, s.heap.size ≤ q → A q := fun q h => by rw [← hAe]; exact Or.inr h
  have hP : va_P (dC, dI) vwCl [(h0, .inr (2, [.ref qf0, .ref qf1, .int v2, .ref qf3, .ref qf4, .ref qf5, .ref qf6, .ref qf7, .ref qf8, .ref qf9, .ref qf10, .ref qf11, .ref qf12, .ref qf13, .ref qf14, .ref qf15, .ref qf16, .ref qf17, .ref qf18, .ref qf19, .int v20])), (qf0, .inr (9, [.ref qf0_0, .ref qf0_1, .ref qf0_2, .int v0_3, .ref qf0_4, .ref qf0_5, .ref qf0_6, .ref qf0_7, .ref qf0_8, .int v0_9, .int v0_10, .int v0_11, .int v0_12])), (qf0_0, .inl (cf0_0, 3001, .inl f0_0)), (qf0_2, .inl (cf0_2, 3001, .inl f0_2)), (qf4, .inl (cf4, 1740, .inl f4)), (qf0_1, .inl (cf0_1, 3001, .inl f0_1))] s.heap := hP
  have hl := lv_entry ([.ref h0]) (n := 5) (Nat.le_of_ble_eq_true rfl)
  rw [lg_entry_eq]
  generalize (lg_sl ([.ref h0]) ++ List.replicate (5 - (lg_sl ([.ref h0])).length) Slot.unset).toArray = ls at hl ⊢
  have hl : lv_has ls 5 [(0, .ref h0)] := hl
  obtain ⟨H, hH⟩ : ∃ H : Heap, s.heap = H := ⟨_, rfl⟩
  rw [hH] at hP ⊢
  have hS : va_S A s.heap H [] := by rw [← hH]; exact va_S.rf
  obtain ⟨locs, hlo⟩ : ∃ locs : List Loc, locs = [] := ⟨_, rfl⟩
  rw [← hlo] at hS ⊢
  unfold sp_t2_readType at hsp
  refine lv_aload_n hx hb dX2_readType_0 rfl (lv_at hl 0 rfl) ?_
  refine va_get (D := (dC, dI)) (ci := 2) (v := .ref qf0) (C := RX2) (T := TX2) (N := 21) hx hb hts uV_h4_X2 hown hK hP 0 rfl rfl 0 (by decide) (hts (.fieldLink RX2 74 "ClassMill$Heads" "text" "LClassMill$Text;") mw_h4_145) (fun _ h9 => h9) rfl dX2_readType_1 ?_
  obtain ⟨u1_0, hu_1, hsp⟩ := ox_bind hsp
  try dsimp only at hsp
  have hPc := hP.sub (ws' := [(qf0, .inr (9, [.ref qf0_0, .ref qf0_1, .ref qf0_2, .int v0_3, .ref qf0_4, .ref qf0_5, .ref qf0_6, .ref qf0_7, .ref qf0_8, .int v0_9, .int v0_10, .int v0_11, .int v0_12])), (qf0_0, .inl (cf0_0, 3001, .inl f0_0))]) [1, 2] rfl
  have hDc := hD.sub (ws' := [(qf0, .inr (9, [.ref qf0_0, .ref qf0_1, .ref qf0_2, .int v0_3, .ref qf0_4, .ref qf0_5, .ref qf0_6, .ref qf0_7, .ref qf0_8, .int v0_9, .int v0_10, .int v0_11, .int v0_12])), (qf0_0, .inl (cf0_0, 3001, .inl f0_0))]) [1, 2] (by decide) rfl
  have hKc := hK.sub (tys' := [(cf0_0, .int)]) [0] rfl
  have hFc := va_free (wc := [(qf0, .inr (9, [.ref qf0_0, .ref qf0_1, .ref qf0_2, .int v0_3, .ref qf0_4, .ref qf0_5, .ref qf0_6, .ref qf0_7, .ref qf0_8, .int v0_9, .int v0_10, .int v0_11, .int v0_12])), (qf0_0, .inl (cf0_0, 3001, .inl f0_0))]) hD hS hA [1, 2] rfl
  refine va_calli (va_runV (As := []) (rest := []) ⟨hx, hb, hml, hown, hts⟩ (t9_kind l dC dI H.size qf0 qf0_0 qf0_1 qf0_2 v0_3 qf0_4 qf0_5 qf0_6 qf0_7 qf0_8 v0_9 v0_10 v0_11 v0_12 cf0_0 f0_0 nf u1_0 hu_1) (cwV 0 hts gv_h4_32 rfl rfl rfl (by decide +kernel) ⟨Nat.le_of_ble_eq_true rfl, Nat.le_of_ble_eq_true rfl⟩) ⟨fun a U g mk q => by obtain ⟨q0, q1, qP, qK, qD⟩ := q; exact ⟨q0, q1, qP, va_K.moved (u := U) (U := U.calling g mk a) (Vm.Alike.refl U.vm) qK, qD⟩, va_recv hKc hPc (ci := 9) (q0 := 0) rfl rfl, fun U hU hW => ⟨rfl, by rw [hU], by rw [hU]; exact hPc, va_K.moved hW.alike hKc, hDc.weaken (fun _ _ _ _ => trivial)⟩⟩ rfl rfl hl.1 rfl (lv_room (Nat.le_of_ble_eq_true rfl)) dX2_readType_4 ⟨Nat.le_of_ble_eq_true rfl, Nat.le_of_ble_eq_true rfl⟩) hS (fun q _ h => hFc q h) hFc ?_
  clear hS
  intro r_1 u t H1 locs ht hvm hw hB hz1 hk1 hS
  obtain ⟨⟩ := u
  obtain ⟨hP1, hK1, hD1⟩ := hB
  rw [ht] at hP1
  have hK1 := va_K.moved hvm.symm hK1
  try dsimp only at hw
  have hPD := va_join (wr := [(h0, .inr (2, [.ref qf0, .ref qf1, .int v2, .ref qf3, .ref qf4, .ref qf5, .ref qf6, .ref qf7, .ref qf8, .ref qf9, .ref qf10, .ref qf11, .ref qf12, .ref qf13, .ref qf14, .ref qf15, .ref qf16, .ref qf17, .ref qf18, .ref qf19, .int v20])), (qf0_2, .inl (cf0_2, 3001, .inl f0_2)), (qf4, .inl (cf4, 1740, .inl f4)), (qf0_1, .inl (cf0_1, 3001, .inl f0_1))]) (w1 := [(qf0, .inr (9, [.ref qf0_0, .ref qf0_1, .ref qf0_2, .int v0_3, .ref qf0_4, .ref qf0_5, .ref qf0_6, .ref qf0_7, .ref qf0_8, .int v0_9, .int v0_10, .int v0_11, .int v0_12])), (qf0_0, .inl (cf0_0, 3001, .inl f0_0))]) hP hD [1, 2] [0, 3, 4, 5] rfl rfl (by decide) (by decide) hk1 hFc hP1 hD1
  clear hP hD
  obtain ⟨hP, hD⟩ := hPD
  replace hK := (hK.sub (tys' := [(cf0_2, .int), (cf4, .int), (cf0_1, .int)]) [1, 2, 3] rfl).app hK1
  clear hPc hDc hKc hFc hP1 hK1 hD1 hz1 hk1 ht hvm
  generalize H1 = H at hP hS ⊢
  replace hP : va_P (dC, dI) vwCl [(h0, .inr (2, [.ref qf0, .ref qf1, .int v2, .ref qf3, .ref qf4, .ref qf5, .ref qf6, .ref qf7, .ref qf8, .ref qf9, .ref qf10, .ref qf11, .ref qf12, .ref qf13, .ref qf14, .ref qf15, .ref qf16, .ref qf17, .ref qf18, .ref qf19, .int v20])), (qf0_2, .inl (cf0_2, 3001, .inl f0_2)), (qf4, .inl (cf4, 1740, .inl f4)), (qf0_1, .inl (cf0_1, 3001, .inl f0_1)), (qf0, .inr (9, [.ref qf0_0, .ref qf0_1, .ref qf0_2, .int v0_3, .ref qf0_4, .ref qf0_5, .ref qf0_6, .ref qf0_7, .ref qf0_8, .int v0_9, .int v0_10, .int v0_11, .int v0_12])), (qf0_0, .inl (cf0_0, 3001, .inl f0_0))] H := hP
  replace hD : va_D A [(h0, .inr (2, [.ref qf0, .ref qf1, .int v2, .ref qf3, .ref qf4, .ref qf5, .ref qf6, .ref qf7, .ref qf8, .ref qf9, .ref qf10, .ref qf11, .ref qf12, .ref qf13, .ref qf14, .ref qf15, .ref qf16, .ref qf17, .ref qf18, .ref qf19, .int v20])), (qf0_2, .inl (cf0_2, 3001, .inl f0_2)), (qf4, .inl (cf4, 1740, .inl f4)), (qf0_1, .inl (cf0_1, 3001, .inl f0_1)), (qf0, .inr (9, [.ref qf0_0, .ref qf0_1, .ref qf0_2, .int v0_3, .ref qf0_4, .ref qf0_5, .ref qf0_6, .ref qf0_7, .ref qf0_8, .int v0_9, .int v0_10, .int v0_11, .int v0_12])), (qf0_0, .inl (cf0_0, 3001, .inl f0_0))] := hD
  replace hK : va_K (dC, dI) vwCl [(cf0_2, .int), (cf4, .int), (cf0_1, .int), (cf0_0, .int)] s := hK
  obtain rfl := hw
  refine lv_istore_n (lv' := [(1, .int u1_0), (0, .ref h0)]) hx hb dX2_readType_7 rfl hl (by decide) rfl (fun ls hl => ?_)
  refine lv_aload_n hx hb dX2_readType_8 rfl (lv_at hl 1 rfl) ?_
  refine va_get (D := (dC, dI)) (ci := 2) (v := .ref qf0) (C := RX2) (T := TX2) (N := 21) hx hb hts uV_h4_X2 hown hK hP 0 rfl rfl 0 (by decide) (hts (.fieldLink RX2 74 "ClassMill$Heads" "text" "LClassMill$Text;") mw_h4_145) (fun _ h9 => h9) rfl dX2_readType_9 ?_
  refine va_get (D := (dC, dI)) (ci := 9) (v := .int v0_10) (C := RX9) (T := TX9) (N := 13) hx hb hts uV_h4_X9 hown hK hP 4 rfl rfl 10 (by decide) (hts (.fieldLink RX2 118 "ClassMill$Text" "pos" "I") mw_h4_165) (fun _ h9 => h9) rfl dX2_readType_12 ?_
  refine lv_istore_n (lv' := [(2, .int v0_10), (1, .int u1_0), (0, .ref h0)]) hx hb dX2_readType_15 rfl hl (by decide) rfl (fun ls hl => ?_)
  refine lv_aload_n hx hb dX2_readType_16 rfl (lv_at hl 2 rfl) ?_
  refine va_get (D := (dC, dI)) (ci := 2) (v := .ref qf0) (C := RX2) (T := TX2) (N := 21) hx hb hts uV_h4_X2 hown hK hP 0 rfl rfl 0 (by decide) (hts (.fieldLink RX2 74 "ClassMill$Heads" "text" "LClassMill$Text;") mw_h4_145) (fun _ h9 => h9) rfl dX2_readType_17 ?_
  refine lv_dup hx hb dX2_readType_20 rfl ?_
  refine va_get (D := (dC, dI)) (ci := 9) (v := .int v0_10) (C := RX9) (T := TX9) (N := 13) hx hb hts uV_h4_X9 hown hK hP 4 rfl rfl 10 (by decide) (hts (.fieldLink RX2 118 "ClassMill$Text" "pos" "I") mw_h4_165) (fun _ h9 => h9) rfl dX2_readType_21 ?_
  refine lv_iconst (v := 1) hx hb dX2_readType_24 (by decide) ?_
  refine lv_iadd hx hb dX2_readType_25 ?_
  refine va_put (D := (dC, dI)) (ci := 9) (v := .int (v0_10 + 1)) (ty := .int) (C := RX9) (T := TX9) (N := 13) hx hb hts uV_h4_X9 tyX9 tyX9_ok nmX9 hown hK hP hD hS 4 rfl rfl 10 (by decide) (hts (.fieldLink RX2 118 "ClassMill$Text" "pos" "I") mw_h4_165) (fun _ h9 => h9) rfl (by decide +kernel) rfl rfl (Nat.le_of_ble_eq_true rfl) dX2_readType_26 ?_
  clear hP hD hS
  intro H locs hP hD hS
  replace hP : va_P (dC, dI) vwCl [(h0, .inr (2, [.ref qf0, .ref qf1, .int v2, .ref qf3, .ref qf4, .ref qf5, .ref qf6, .ref qf7, .ref qf8, .ref qf9, .ref qf10, .ref qf11, .ref qf12, .ref qf13, .ref qf14, .ref qf15, .ref qf16, .ref qf17, .ref qf18, .ref qf19, .int v20])), (qf0_2, .inl (cf0_2, 3001, .inl f0_2)), (qf4, .inl (cf4, 1740, .inl f4)), (qf0_1, .inl (cf0_1, 3001, .inl f0_1)), (qf0, .inr (9, [.ref qf0_0, .ref qf0_1, .ref qf0_2, .int v0_3, .ref qf0_4, .ref qf0_5, .ref qf0_6, .ref qf0_7, .ref qf0_8, .int v0_9, .int (v0_10 + 1), .int v0_11, .int v0_12])), (qf0_0, .inl (cf0_0, 3001, .inl f0_0))] H := hP
  replace hD : va_D A [(h0, .inr (2, [.ref qf0, .ref qf1, .int v2, .ref qf3, .ref qf4, .ref qf5, .ref qf6, .ref qf7, .ref qf8, .ref qf9, .ref qf10, .ref qf11, .ref qf12, .ref qf13, .ref qf14, .ref qf15, .ref qf16, .ref qf17, .ref qf18, .ref qf19, .int v20])), (qf0_2, .inl (cf0_2, 3001, .inl f0_2)), (qf4, .inl (cf4, 1740, .inl f4)), (qf0_1, .inl (cf0_1, 3001, .inl f0_1)), (qf0, .inr (9, [.ref qf0_0, .ref qf0_1, .ref qf0_2, .int v0_3, .ref qf0_4, .ref qf0_5, .ref qf0_6, .ref qf0_7, .ref qf0_8, .int v0_9, .int (v0_10 + 1), .int v0_11, .int v0_12])), (qf0_0, .inl (cf0_0, 3001, .inl f0_0))] := hD
  refine lv_iload_n hx hb dX2_readType_29 rfl (lv_at hl 1 rfl) ?_
  refine lv_bipush (v := 10) hx hb dX2_readType_30 (by decide) ?_
  refine lv_icmp_ne (tgt := 39) hx hb dX2_readType_32 (by decide) (fun c_2 => ?_) (fun c_2 => ?_)
  · rw [if_neg c_2] at hsp
    refine lv_iload_n hx hb dX2_readType_39 rfl (lv_at hl 1 rfl) ?_
    refine lv_iconst (v := 2) hx hb dX2_readType_40 (by decide) ?_
    refine lv_icmp_ne (tgt := 52) hx hb dX2_readType_41 (by decide) (fun c_3 => ?_) (fun c_3 => ?_)
    · rw [if_neg c_3] at hsp
      refine lv_iconst (v := 0) hx hb dX2_readType_52 (by decide) ?_
      refine lv_istore_n (lv' := [(3, .int 0), (2, .int v0_10), (1, .int u1_0), (0, .ref h0)]) hx hb dX2_readType_53 rfl hl (by decide) rfl (fun ls hl => ?_)
      refine lv_iload_n hx hb dX2_readType_54 rfl (lv_at hl 0 rfl) ?_
      refine lv_iconst (v := (-1)) hx hb dX2_readType_55 (by decide) ?_
      refine lv_icmp_ne (tgt := 72) hx hb dX2_readType_56 (by decide) (fun c_4 => ?_) (fun c_4 => (show False by revert c_4; decide).elim)
      refine lv_aload_n hx hb dX2_readType_72 rfl (lv_at hl 3 rfl) ?_
      refine va_get (D := (dC, dI)) (ci := 2) (v := .ref qf0) (C := RX2) (T := TX2) (N := 21) hx hb hts uV_h4_X2 hown hK hP 0 rfl rfl 0 (by decide) (hts (.fieldLink RX2 74 "ClassMill$Heads" "text" "LClassMill$Text;") mw_h4_145) (fun _ h9 => h9) rfl dX2_readType_73 ?_
      obtain ⟨u2_0, hu_2, hsp⟩ := ox_bind hsp
      try dsimp only at hsp
      have hPc := hP.sub (ws' := [(qf0, .inr (9, [.ref qf0_0, .ref qf0_1, .ref qf0_2, .int v0_3, .ref qf0_4, .ref qf0_5, .ref qf0_6, .ref qf0_7, .ref qf0_8, .int v0_9, .int (v0_10 + 1), .int v0_11, .int v0_12])), (qf0_0, .inl (cf0_0, 3001, .inl f0_0))]) [4, 5] rfl
      have hDc := hD.sub (ws' := [(qf0, .inr (9, [.ref qf0_0, .ref qf0_1, .ref qf0_2, .int v0_3, .ref qf0_4, .ref qf0_5, .ref qf0_6, .ref qf0_7, .ref qf0_8, .int v0_9, .int (v0_10 + 1), .int v0_11, .int v0_12])), (qf0_0, .inl (cf0_0, 3001, .inl f0_0))]) [4, 5] (by decide) rfl
      have hKc := hK.sub (tys' := [(cf0_0, .int)]) [3] rfl
      have hFc := va_free (wc := [(qf0, .inr (9, [.ref qf0_0, .ref qf0_1, .ref qf0_2, .int v0_3, .ref qf0_4, .ref qf0_5, .ref qf0_6, .ref qf0_7, .ref qf0_8, .int v0_9, .int (v0_10 + 1), .int v0_11, .int v0_12])), (qf0_0, .inl (cf0_0, 3001, .inl f0_0))]) hD hS hA [4, 5] rfl
      refine va_calli (va_runV (As := []) (rest := []) ⟨hx, hb, hml, hown, hts⟩ (t9_kind l dC dI H.size qf0 qf0_0 qf0_1 qf0_2 v0_3 qf0_4 qf0_5 qf0_6 qf0_7 qf0_8 v0_9 ((v0_10 + 1)) v0_11 v0_12 cf0_0 f0_0 nf u2_0 hu_2) (cwV 0 hts gv_h4_32 rfl rfl rfl (by decide +kernel) ⟨Nat.le_of_ble_eq_true rfl, Nat.le_of_ble_eq_true rfl⟩) ⟨fun a U g mk q => by obtain ⟨q0, q1, qP, qK, qD⟩ := q; exact ⟨q0, q1, qP, va_K.moved (u := U) (U := U.calling g mk a) (Vm.Alike.refl U.vm) qK, qD⟩, va_recv hKc hPc (ci := 9) (q0 := 0) rfl rfl, fun U hU hW => ⟨rfl, by rw [hU], by rw [hU]; exact hPc, va_K.moved hW.alike hKc, hDc.weaken (fun _ _ _ _ => trivial)⟩⟩ rfl rfl hl.1 rfl (lv_room (Nat.le_of_ble_eq_true rfl)) dX2_readType_76 ⟨Nat.le_of_ble_eq_true rfl, Nat.le_of_ble_eq_true rfl⟩) hS (fun q _ h => hFc q h) hFc ?_
      clear hS
      intro r_5 u t H1 locs ht hvm hw hB hz1 hk1 hS
      obtain ⟨⟩ := u
      obtain ⟨hP1, hK1, hD1⟩ := hB
      rw [ht] at hP1
      have hK1 := va_K.moved hvm.symm hK1
      try dsimp only at hw
      have hPD := va_join (wr := [(h0, .inr (2, [.ref qf0, .ref qf1, .int v2, .ref qf3, .ref qf4, .ref qf5, .ref qf6, .ref qf7, .ref qf8, .ref qf9, .ref qf10, .ref qf11, .ref qf12, .ref qf13, .ref qf14, .ref qf15, .ref qf16, .ref qf17, .ref qf18, .ref qf19, .int v20])), (qf0_2, .inl (cf0_2, 3001, .inl f0_2)), (qf4, .inl (cf4, 1740, .inl f4)), (qf0_1, .inl (cf0_1, 3001, .inl f0_1))]) (w1 := [(qf0, .inr (9, [.ref qf0_0, .ref qf0_1, .ref qf0_2, .int v0_3, .ref qf0_4, .ref qf0_5, .ref qf0_6, .ref qf0_7, .ref qf0_8, .int v0_9, .int (v0_10 + 1), .int v0_11, .int v0_12])), (qf0_0, .inl (cf0_0, 3001, .inl f0_0))]) hP hD [4, 5] [0, 1, 2, 3] rfl rfl (by decide) (by decide) hk1 hFc hP1 hD1
      clear hP hD
      obtain ⟨hP, hD⟩ := hPD
      replace hK := (hK.sub (tys' := [(cf0_2, .int), (cf4, .int), (cf0_1, .int)]) [0, 1, 2] rfl).app hK1
      clear hPc hDc hKc hFc hP1 hK1 hD1 hz1 hk1 ht hvm
      generalize H1 = H at hP hS ⊢
      replace hP : va_P (dC, dI) vwCl [(h0, .inr (2, [.ref qf0, .ref qf1, .int v2, .ref qf3, .ref qf4, .ref qf5, .ref qf6, .ref qf7, .ref qf8, .ref qf9, .ref qf10, .ref qf11, .ref qf12, .ref qf13, .ref qf14, .ref qf15, .ref qf16, .ref qf17, .ref qf18, .ref qf19, .int v20])), (qf0_2, .inl (cf0_2, 3001, .inl f0_2)), (qf4, .inl (cf4, 1740, .inl f4)), (qf0_1, .inl (cf0_1, 3001, .inl f0_1)), (qf0, .inr (9, [.ref qf0_0, .ref qf0_1, .ref qf0_2, .int v0_3, .ref qf0_4, .ref qf0_5, .ref qf0_6, .ref qf0_7, .ref qf0_8, .int v0_9, .int (v0_10 + 1), .int v0_11, .int v0_12])), (qf0_0, .inl (cf0_0, 3001, .inl f0_0))] H := hP
      replace hD : va_D A [(h0, .inr (2, [.ref qf0, .ref qf1, .int v2, .ref qf3, .ref qf4, .ref qf5, .ref qf6, .ref qf7, .ref qf8, .ref qf9, .ref qf10, .ref qf11, .ref qf12, .ref qf13, .ref qf14, .ref qf15, .ref qf16, .ref qf17, .ref qf18, .ref qf19, .int v20])), (qf0_2, .inl (cf0_2, 3001, .inl f0_2)), (qf4, .inl (cf4, 1740, .inl f4)), (qf0_1, .inl (cf0_1, 3001, .inl f0_1)), (qf0, .inr (9, [.ref qf0_0, .ref qf0_1, .ref qf0_2, .int v0_3, .ref qf0_4, .ref qf0_5, .ref qf0_6, .ref qf0_7, .ref qf0_8, .int v0_9, .int (v0_10 + 1), .int v0_11, .int v0_12])), (qf0_0, .inl (cf0_0, 3001, .inl f0_0))] := hD
      replace hK : va_K (dC, dI) vwCl [(cf0_2, .int), (cf4, .int), (cf0_1, .int), (cf0_0, .int)] s := hK
      obtain rfl := hw
      refine lv_bipush (v := 44) hx hb dX2_readType_79 (by decide) ?_
      refine lv_icmp_ne (tgt := 88) hx hb dX2_readType_81 (by decide) (fun c_6 => ?_) (fun c_6 => ?_)
      · rw [if_neg c_6] at hsp
        refine lv_iconst (v := 0) hx hb dX2_readType_88 (by decide) ?_
        refine lv_istore (lv' := [(4, .int 0), (3, .int 0), (2, .int v0_10), (1, .int u1_0), (0, .ref h0)]) hx hb dX2_readType_89 hl (by decide) rfl (fun ls hl => ?_)
        refine lv_iload hx hb dX2_readType_91 (lv_at hl 0 rfl) ?_
        refine lv_if_eq (tgt := 109) hx hb dX2_readType_93 (by decide) (fun c_7 => ?_) (fun c_7 => (show False by revert c_7; decide).elim)
        refine lv_iload_n hx hb dX2_readType_109 rfl (lv_at hl 3 rfl) ?_
        refine lv_bipush (v := 20) hx hb dX2_readType_110 (by decide) ?_
        refine lv_icmp_ne (tgt := 130) hx hb dX2_readType_112 (by decide) (fun c_8 => ?_) (fun c_8 => ?_)
        · rw [if_neg c_8] at hsp
          refine lv_iload hx hb dX2_readType_130 (lv_at hl 0 rfl) ?_
          refine lv_if_eq (tgt := 142) hx hb dX2_readType_132 (by decide) (fun c_9 => ?_) (fun c_9 => (show False by revert c_9; decide).elim)
          refine lv_iload_n hx hb dX2_readType_142 rfl (lv_at hl 1 rfl) ?_
          have hr0 := Option.some.inj hsp
          clear hsp
          obtain ⟨hq0, hr1⟩ := Prod.mk.inj hr0
          clear hr0
          obtain ⟨hq1, hr2⟩ := Prod.mk.inj hr1
          clear hr1
          obtain ⟨hq2, hr3⟩ := Prod.mk.inj hr2
          clear hr2
          subst hq0
          subst hq1
          subst hq2
          subst hr3
          have hP9 := hP.sub (ws' := [(h0, .inr (2, [.ref qf0, .ref qf1, .int v2, .ref qf3, .ref qf4, .ref qf5, .ref qf6, .ref qf7, .ref qf8, .ref qf9, .ref qf10, .ref qf11, .ref qf12, .ref qf13, .ref qf14, .ref qf15, .ref qf16, .ref qf17, .ref qf18, .ref qf19, .int v20])), (qf0, .inr (9, [.ref qf0_0, .ref qf0_1, .ref qf0_2, .int v0_3, .ref qf0_4, .ref qf0_5, .ref qf0_6, .ref qf0_7, .ref qf0_8, .int v0_9, .int (v0_10 + 1), .int v0_11, .int v0_12])), (qf0_0, .inl (cf0_0, 3001, .inl f0_0)), (qf0_2, .inl (cf0_2, 3001, .inl f0_2)), (qf4, .inl (cf4, 1740, .inl f4)), (qf0_1, .inl (cf0_1, 3001, .inl f0_1))]) [0, 4, 5, 1, 2, 3] rfl
          have hD9 := hD.sub (ws' := [(h0, .inr (2, [.ref qf0, .ref qf1, .int v2, .ref qf3, .ref qf4, .ref qf5, .ref qf6, .ref qf7, .ref qf8, .ref qf9, .ref qf10, .ref qf11, .ref qf12, .ref qf13, .ref qf14, .ref qf15, .ref qf16, .ref qf17, .ref qf18, .ref qf19, .int v20])), (qf0, .inr (9, [.ref qf0_0, .ref qf0_1, .ref qf0_2, .int v0_3, .ref qf0_4, .ref qf0_5, .ref qf0_6, .ref qf0_7, .ref qf0_8, .int v0_9, .int (v0_10 + 1), .int v0_11, .int v0_12])), (qf0_0, .inl (cf0_0, 3001, .inl f0_0)), (qf0_2, .inl (cf0_2, 3001, .inl f0_2)), (qf4, .inl (cf4, 1740, .inl f4)), (qf0_1, .inl (cf0_1, 3001, .inl f0_1))]) [0, 4, 5, 1, 2, 3] (by decide) rfl
          have hK9 := hK.sub (tys' := [(cf0_0, .int), (cf0_2, .int), (cf4, .int), (cf0_1, .int)]) [3, 0, 1, 2] rfl
          exact W.iret hx hb hr (fun t ht hW => ⟨⟨(0), (), rfl, rfl, by rw [ht]; exact hP9, va_K.moved hW.alike hK9, hD9⟩, hS.F ht⟩) hS.2.2 dX2_readType_143
        · rw [if_pos c_8] at hsp
          refine lv_iload hx hb dX2_readType_115 (lv_at hl 0 rfl) ?_
          refine lv_if_eq (tgt := 126) hx hb dX2_readType_117 (by decide) (fun c_10 => ?_) (fun c_10 => (show False by revert c_10; decide).elim)
          refine lv_sipush (v := 301) hx hb dX2_readType_126 (by decide) ?_
          have hr0 := Option.some.inj hsp
          clear hsp
          obtain ⟨hq0, hr1⟩ := Prod.mk.inj hr0
          clear hr0
          obtain ⟨hq1, hr2⟩ := Prod.mk.inj hr1
          clear hr1
          obtain ⟨hq2, hr3⟩ := Prod.mk.inj hr2
          clear hr2
          subst hq0
          subst hq1
          subst hq2
          subst hr3
          have hP9 := hP.sub (ws' := [(h0, .inr (2, [.ref qf0, .ref qf1, .int v2, .ref qf3, .ref qf4, .ref qf5, .ref qf6, .ref qf7, .ref qf8, .ref qf9, .ref qf10, .ref qf11, .ref qf12, .ref qf13, .ref qf14, .ref qf15, .ref qf16, .ref qf17, .ref qf18, .ref qf19, .int v20])), (qf0, .inr (9, [.ref qf0_0, .ref qf0_1, .ref qf0_2, .int v0_3, .ref qf0_4, .ref qf0_5, .ref qf0_6, .ref qf0_7, .ref qf0_8, .int v0_9, .int (v0_10 + 1), .int v0_11, .int v0_12])), (qf0_0, .inl (cf0_0, 3001, .inl f0_0)), (qf0_2, .inl (cf0_2, 3001, .inl f0_2)), (qf4, .inl (cf4, 1740, .inl f4)), (qf0_1, .inl (cf0_1, 3001, .inl f0_1))]) [0, 4, 5, 1, 2, 3] rfl
          have hD9 := hD.sub (ws' := [(h0, .inr (2, [.ref qf0, .ref qf1, .int v2, .ref qf3, .ref qf4, .ref qf5, .ref qf6, .ref qf7, .ref qf8, .ref qf9, .ref qf10, .ref qf11, .ref qf12, .ref qf13, .ref qf14, .ref qf15, .ref qf16, .ref qf17, .ref qf18, .ref qf19, .int v20])), (qf0, .inr (9, [.ref qf0_0, .ref qf0_1, .ref qf0_2, .int v0_3, .ref qf0_4, .ref qf0_5, .ref qf0_6, .ref qf0_7, .ref qf0_8, .int v0_9, .int (v0_10 + 1), .int v0_11, .int v0_12])), (qf0_0, .inl (cf0_0, 3001, .inl f0_0)), (qf0_2, .inl (cf0_2, 3001, .inl f0_2)), (qf4, .inl (cf4, 1740, .inl f4)), (qf0_1, .inl (cf0_1, 3001, .inl f0_1))]) [0, 4, 5, 1, 2, 3] (by decide) rfl
          have hK9 := hK.sub (tys' := [(cf0_0, .int), (cf0_2, .int), (cf4, .int), (cf0_1, .int)]) [3, 0, 1, 2] rfl
          exact W.iret hx hb hr (fun t ht hW => ⟨⟨(301), (), rfl, rfl, by rw [ht]; exact hP9, va_K.moved hW.alike hK9, hD9⟩, hS.F ht⟩) hS.2.2 dX2_readType_129
      · rw [if_pos c_6] at hsp
        refine lv_iconst (v := 1) hx hb dX2_readType_84 (by decide) ?_
        refine lv_goto (tgt := 89) hx hb dX2_readType_85 (by decide) ?_
        refine lv_istore (lv' := [(4, .int 1), (3, .int 0), (2, .int v0_10), (1, .int u1_0), (0, .ref h0)]) hx hb dX2_readType_89 hl (by decide) rfl (fun ls hl => ?_)
        refine lv_iload hx hb dX2_readType_91 (lv_at hl 0 rfl) ?_
        refine lv_if_eq (tgt := 109) hx hb dX2_readType_93 (by decide) (fun c_11 => (show False by revert c_11; decide).elim) (fun c_11 => ?_)
        refine lv_aload_n hx hb dX2_readType_96 rfl (lv_at hl 4 rfl) ?_
        refine va_get (D := (dC, dI)) (ci := 2) (v := .ref qf0) (C := RX2) (T := TX2) (N := 21) hx hb hts uV_h4_X2 hown hK hP 0 rfl rfl 0 (by decide) (hts (.fieldLink RX2 74 "ClassMill$Heads" "text" "LClassMill$Text;") mw_h4_145) (fun _ h9 => h9) rfl dX2_readType_97 ?_
        refine lv_dup hx hb dX2_readType_100 rfl ?_
        refine va_get (D := (dC, dI)) (ci := 9) (v := .int (v0_10 + 1)) (C := RX9) (T := TX9) (N := 13) hx hb hts uV_h4_X9 hown hK hP 4 rfl rfl 10 (by decide) (hts (.fieldLink RX2 118 "ClassMill$Text" "pos" "I") mw_h4_165) (fun _ h9 => h9) rfl dX2_readType_101 ?_
        refine lv_iconst (v := 2) hx hb dX2_readType_104 (by decide) ?_
        refine lv_iadd hx hb dX2_readType_105 ?_
        refine va_put (D := (dC, dI)) (ci := 9) (v := .int ((v0_10 + 1) + 2)) (ty := .int) (C := RX9) (T := TX9) (N := 13) hx hb hts uV_h4_X9 tyX9 tyX9_ok nmX9 hown hK hP hD hS 4 rfl rfl 10 (by decide) (hts (.fieldLink RX2 118 "ClassMill$Text" "pos" "I") mw_h4_165) (fun _ h9 => h9) rfl (by decide +kernel) rfl rfl (Nat.le_of_ble_eq_true rfl) dX2_readType_106 ?_
        clear hP hD hS
        intro H locs hP hD hS
        replace hP : va_P (dC, dI) vwCl [(h0, .inr (2, [.ref qf0, .ref qf1, .int v2, .ref qf3, .ref qf4, .ref qf5, .ref qf6, .ref qf7, .ref qf8, .ref qf9, .ref qf10, .ref qf11, .ref qf12, .ref qf13, .ref qf14, .ref qf15, .ref qf16, .ref qf17, .ref qf18, .ref qf19, .int v20])), (qf0_2, .inl (cf0_2, 3001, .inl f0_2)), (qf4, .inl (cf4, 1740, .inl f4)), (qf0_1, .inl (cf0_1, 3001, .inl f0_1)), (qf0, .inr (9, [.ref qf0_0, .ref qf0_1, .ref qf0_2, .int v0_3, .ref qf0_4, .ref qf0_5, .ref qf0_6, .ref qf0_7, .ref qf0_8, .int v0_9, .int ((v0_10 + 1) + 2), .int v0_11, .int v0_12])), (qf0_0, .inl (cf0_0, 3001, .inl f0_0))] H := hP
        replace hD : va_D A [(h0, .inr (2, [.ref qf0, .ref qf1, .int v2, .ref qf3, .ref qf4, .ref qf5, .ref qf6, .ref qf7, .ref qf8, .ref qf9, .ref qf10, .ref qf11, .ref qf12, .ref qf13, .ref qf14, .ref qf15, .ref qf16, .ref qf17, .ref qf18, .ref qf19, .int v20])), (qf0_2, .inl (cf0_2, 3001, .inl f0_2)), (qf4, .inl (cf4, 1740, .inl f4)), (qf0_1, .inl (cf0_1, 3001, .inl f0_1)), (qf0, .inr (9, [.ref qf0_0, .ref qf0_1, .ref qf0_2, .int v0_3, .ref qf0_4, .ref qf0_5, .ref qf0_6, .ref qf0_7, .ref qf0_8, .int v0_9, .int ((v0_10 + 1) + 2), .int v0_11, .int v0_12])), (qf0_0, .inl (cf0_0, 3001, .inl f0_0))] := hD
        refine lv_iload_n hx hb dX2_readType_109 rfl (lv_at hl 3 rfl) ?_
        refine lv_bipush (v := 20) hx hb dX2_readType_110 (by decide) ?_
        refine lv_icmp_ne (tgt := 130) hx hb dX2_readType_112 (by decide) (fun c_12 => ?_) (fun c_12 => ?_)
        · rw [if_neg c_12] at hsp
          refine lv_iload hx hb dX2_readType_130 (lv_at hl 0 rfl) ?_
          refine lv_if_eq (tgt := 142) hx hb dX2_readType_132 (by decide) (fun c_13 => (show False by revert c_13; decide).elim) (fun c_13 => ?_)
          refine lv_bipush (v := 100) hx hb dX2_readType_135 (by decide) ?_
          refine lv_iload_n hx hb dX2_readType_137 rfl (lv_at hl 1 rfl) ?_
          refine lv_iadd hx hb dX2_readType_138 ?_
          refine lv_topi (fun y_14 ey_14 => ?_)
          obtain rfl : y_14 = 100 := ey_14.trans (by decide)
          refine lv_goto (tgt := 143) hx hb dX2_readType_139 (by decide) ?_
          have hr0 := Option.some.inj hsp
          clear hsp
          obtain ⟨hq0, hr1⟩ := Prod.mk.inj hr0
          clear hr0
          obtain ⟨hq1, hr2⟩ := Prod.mk.inj hr1
          clear hr1
          obtain ⟨hq2, hr3⟩ := Prod.mk.inj hr2
          clear hr2
          subst hq0
          subst hq1
          subst hq2
          subst hr3
          have hP9 := hP.sub (ws' := [(h0, .inr (2, [.ref qf0, .ref qf1, .int v2, .ref qf3, .ref qf4, .ref qf5, .ref qf6, .ref qf7, .ref qf8, .ref qf9, .ref qf10, .ref qf11, .ref qf12, .ref qf13, .ref qf14, .ref qf15, .ref qf16, .ref qf17, .ref qf18, .ref qf19, .int v20])), (qf0, .inr (9, [.ref qf0_0, .ref qf0_1, .ref qf0_2, .int v0_3, .ref qf0_4, .ref qf0_5, .ref qf0_6, .ref qf0_7, .ref qf0_8, .int v0_9, .int ((v0_10 + 1) + 2), .int v0_11, .int v0_12])), (qf0_0, .inl (cf0_0, 3001, .inl f0_0)), (qf0_2, .inl (cf0_2, 3001, .inl f0_2)), (qf4, .inl (cf4, 1740, .inl f4)), (qf0_1, .inl (cf0_1, 3001, .inl f0_1))]) [0, 4, 5, 1, 2, 3] rfl
          have hD9 := hD.sub (ws' := [(h0, .inr (2, [.ref qf0, .ref qf1, .int v2, .ref qf3, .ref qf4, .ref qf5, .ref qf6, .ref qf7, .ref qf8, .ref qf9, .ref qf10, .ref qf11, .ref qf12, .ref qf13, .ref qf14, .ref qf15, .ref qf16, .ref qf17, .ref qf18, .ref qf19, .int v20])), (qf0, .inr (9, [.ref qf0_0, .ref qf0_1, .ref qf0_2, .int v0_3, .ref qf0_4, .ref qf0_5, .ref qf0_6, .ref qf0_7, .ref qf0_8, .int v0_9, .int ((v0_10 + 1) + 2), .int v0_11, .int v0_12])), (qf0_0, .inl (cf0_0, 3001, .inl f0_0)), (qf0_2, .inl (cf0_2, 3001, .inl f0_2)), (qf4, .inl (cf4, 1740, .inl f4)), (qf0_1, .inl (cf0_1, 3001, .inl f0_1))]) [0, 4, 5, 1, 2, 3] (by decide) rfl
          have hK9 := hK.sub (tys' := [(cf0_0, .int), (cf0_2, .int), (cf4, .int), (cf0_1, .int)]) [3, 0, 1, 2] rfl
          exact W.iret hx hb hr (fun t ht hW => ⟨⟨(100), (), rfl, rfl, by rw [ht]; exact hP9, va_K.moved hW.alike hK9, hD9⟩, hS.F ht⟩) hS.2.2 dX2_readType_143
        · rw [if_pos c_12] at hsp
          refine lv_iload hx hb dX2_readType_115 (lv_at hl 0 rfl) ?_
          refine lv_if_eq (tgt := 126) hx hb dX2_readType_117 (by decide) (fun c_15 => (show False by revert c_15; decide).elim) (fun c_15 => ?_)
          refine lv_sipush (v := 200) hx hb dX2_readType_120 (by decide) ?_
          refine lv_goto (tgt := 129) hx hb dX2_readType_123 (by decide) ?_
          have hr0 := Option.some.inj hsp
          clear hsp
          obtain ⟨hq0, hr1⟩ := Prod.mk.inj hr0
          clear hr0
          obtain ⟨hq1, hr2⟩ := Prod.mk.inj hr1
          clear hr1
          obtain ⟨hq2, hr3⟩ := Prod.mk.inj hr2
          clear hr2
          subst hq0
          subst hq1
          subst hq2
          subst hr3
          have hP9 := hP.sub (ws' := [(h0, .inr (2, [.ref qf0, .ref qf1, .int v2, .ref qf3, .ref qf4, .ref qf5, .ref qf6, .ref qf7, .ref qf8, .ref qf9, .ref qf10, .ref qf11, .ref qf12, .ref qf13, .ref qf14, .ref qf15, .ref qf16, .ref qf17, .ref qf18, .ref qf19, .int v20])), (qf0, .inr (9, [.ref qf0_0, .ref qf0_1, .ref qf0_2, .int v0_3, .ref qf0_4, .ref qf0_5, .ref qf0_6, .ref qf0_7, .ref qf0_8, .int v0_9, .int ((v0_10 + 1) + 2), .int v0_11, .int v0_12])), (qf0_0, .inl (cf0_0, 3001, .inl f0_0)), (qf0_2, .inl (cf0_2, 3001, .inl f0_2)), (qf4, .inl (cf4, 1740, .inl f4)), (qf0_1, .inl (cf0_1, 3001, .inl f0_1))]) [0, 4, 5, 1, 2, 3] rfl
          have hD9 := hD.sub (ws' := [(h0, .inr (2, [.ref qf0, .ref qf1, .int v2, .ref qf3, .ref qf4, .ref qf5, .ref qf6, .ref qf7, .ref qf8, .ref qf9, .ref qf10, .ref qf11, .ref qf12, .ref qf13, .ref qf14, .ref qf15, .ref qf16, .ref qf17, .ref qf18, .ref qf19, .int v20])), (qf0, .inr (9, [.ref qf0_0, .ref qf0_1, .ref qf0_2, .int v0_3, .ref qf0_4, .ref qf0_5, .ref qf0_6, .ref qf0_7, .ref qf0_8, .int v0_9, .int ((v0_10 + 1) + 2), .int v0_11, .int v0_12])), (qf0_0, .inl (cf0_0, 3001, .inl f0_0)), (qf0_2, .inl (cf0_2, 3001, .inl f0_2)), (qf4, .inl (cf4, 1740, .inl f4)), (qf0_1, .inl (cf0_1, 3001, .inl f0_1))]) [0, 4, 5, 1, 2, 3] (by decide) rfl
          have hK9 := hK.sub (tys' := [(cf0_0, .int), (cf0_2, .int), (cf4, .int), (cf0_1, .int)]) [3, 0, 1, 2] rfl
          exact W.iret hx hb hr (fun t ht hW => ⟨⟨(200), (), rfl, rfl, by rw [ht]; exact hP9, va_K.moved hW.alike hK9, hD9⟩, hS.F ht⟩) hS.2.2 dX2_readType_129
    · rw [if_pos c_3] at hsp
      refine lv_aload_n hx hb dX2_readType_44 rfl (lv_at hl 2 rfl) ?_
      refine lv_iload_n hx hb dX2_readType_45 rfl (lv_at hl 0 rfl) ?_
      obtain ⟨u3_0, hu_3, hsp⟩ := ox_bind hsp
      try dsimp only at hsp
      have hPc := hP.sub (ws' := [(h0, .inr (2, [.ref qf0, .ref qf1, .int v2, .ref qf3, .ref qf4, .ref qf5, .ref qf6, .ref qf7, .ref qf8, .ref qf9, .ref qf10, .ref qf11, .ref qf12, .ref qf13, .ref qf14, .ref qf15, .ref qf16, .ref qf17, .ref qf18, .ref qf19, .int v20])), (qf0, .inr (9, [.ref qf0_0, .ref qf0_1, .ref qf0_2, .int v0_3, .ref qf0_4, .ref qf0_5, .ref qf0_6, .ref qf0_7, .ref qf0_8, .int v0_9, .int (v0_10 + 1), .int v0_11, .int v0_12])), (qf0_2, .inl (cf0_2, 3001, .inl f0_2)), (qf0_0, .inl (cf0_0, 3001, .inl f0_0)), (qf4, .inl (cf4, 1740, .inl f4))]) [0, 4, 1, 5, 2] rfl
      have hDc := hD.sub (ws' := [(h0, .inr (2, [.ref qf0, .ref qf1, .int v2, .ref qf3, .ref qf4, .ref qf5, .ref qf6, .ref qf7, .ref qf8, .ref qf9, .ref qf10, .ref qf11, .ref qf12, .ref qf13, .ref qf14, .ref qf15, .ref qf16, .ref qf17, .ref qf18, .ref qf19, .int v20])), (qf0, .inr (9, [.ref qf0_0, .ref qf0_1, .ref qf0_2, .int v0_3, .ref qf0_4, .ref qf0_5, .ref qf0_6, .ref qf0_7, .ref qf0_8, .int v0_9, .int (v0_10 + 1), .int v0_11, .int v0_12])), (qf0_2, .inl (cf0_2, 3001, .inl f0_2)), (qf0_0, .inl (cf0_0, 3001, .inl f0_0)), (qf4, .inl (cf4, 1740, .inl f4))]) [0, 4, 1, 5, 2] (by decide) rfl
      have hKc := hK.sub (tys' := [(cf0_2, .int), (cf0_0, .int), (cf4, .int)]) [0, 3, 1] rfl
      have hFc := va_free (wc := [(h0, .inr (2, [.ref qf0, .ref qf1, .int v2, .ref qf3, .ref qf4, .ref qf5, .ref qf6, .ref qf7, .ref qf8, .ref qf9, .ref qf10, .ref qf11, .ref qf12, .ref qf13, .ref qf14, .ref qf15, .ref qf16, .ref qf17, .ref qf18, .ref qf19, .int v20])), (qf0, .inr (9, [.ref qf0_0, .ref qf0_1, .ref qf0_2, .int v0_3, .ref qf0_4, .ref qf0_5, .ref qf0_6, .ref qf0_7, .ref qf0_8, .int v0_9, .int (v0_10 + 1), .int v0_11, .int v0_12])), (qf0_2, .inl (cf0_2, 3001, .inl f0_2)), (qf0_0, .inl (cf0_0, 3001, .inl f0_0)), (qf4, .inl (cf4, 1740, .inl f4))]) hD hS hA [0, 4, 1, 5, 2] rfl
      refine va_calli (va_runV (As := [.int v0_10]) (rest := []) ⟨hx, hb, hml, hown, hts⟩ (t2_classAt l dC dI H.size h0 v0_10 qf0 qf1 v2 qf3 qf4 qf5 qf6 qf7 qf8 qf9 qf10 qf11 qf12 qf13 qf14 qf15 qf16 qf17 qf18 qf19 v20 qf0_0 qf0_1 qf0_2 v0_3 qf0_4 qf0_5 qf0_6 qf0_7 qf0_8 v0_9 ((v0_10 + 1)) v0_11 v0_12 cf0_2 f0_2 cf0_0 f0_0 cf4 f4 nf u3_0 hu_3) (cwV 1 hts gv_h4_30 rfl rfl rfl (by decide +kernel) ⟨Nat.le_of_ble_eq_true rfl, Nat.le_of_ble_eq_true rfl⟩) ⟨fun a U g mk q => by obtain ⟨q0, q1, qP, qK, qD⟩ := q; exact ⟨q0, q1, qP, va_K.moved (u := U) (U := U.calling g mk a) (Vm.Alike.refl U.vm) qK, qD⟩, va_recv hKc hPc (ci := 2) (q0 := 0) rfl rfl, fun U hU hW => ⟨rfl, by rw [hU], by rw [hU]; exact hPc, va_K.moved hW.alike hKc, hDc.weaken (fun _ _ _ _ => trivial)⟩⟩ rfl rfl hl.1 rfl (lv_room (Nat.le_of_ble_eq_true rfl)) dX2_readType_46 ⟨Nat.le_of_ble_eq_true rfl, Nat.le_of_ble_eq_true rfl⟩) hS (fun q _ h => hFc q h) hFc ?_
      clear hS
      intro r_16 u t H1 locs ht hvm hw hB hz1 hk1 hS
      obtain ⟨⟩ := u
      obtain ⟨hP1, hK1, hD1⟩ := hB
      rw [ht] at hP1
      have hK1 := va_K.moved hvm.symm hK1
      try dsimp only at hw
      have hPD := va_join (wr := [(qf0_1, .inl (cf0_1, 3001, .inl f0_1))]) (w1 := [(h0, .inr (2, [.ref qf0, .ref qf1, .int v2, .ref qf3, .ref qf4, .ref qf5, .ref qf6, .ref qf7, .ref qf8, .ref qf9, .ref qf10, .ref qf11, .ref qf12, .ref qf13, .ref qf14, .ref qf15, .ref qf16, .ref qf17, .ref qf18, .ref qf19, .int v20])), (qf0, .inr (9, [.ref qf0_0, .ref qf0_1, .ref qf0_2, .int v0_3, .ref qf0_4, .ref qf0_5, .ref qf0_6, .ref qf0_7, .ref qf0_8, .int v0_9, .int (v0_10 + 1), .int v0_11, .int v0_12])), (qf0_2, .inl (cf0_2, 3001, .inl f0_2)), (qf0_0, .inl (cf0_0, 3001, .inl f0_0)), (qf4, .inl (cf4, 1740, .inl f4))]) hP hD [0, 4, 1, 5, 2] [3] rfl rfl (by decide) (by decide) hk1 hFc hP1 hD1
      clear hP hD
      obtain ⟨hP, hD⟩ := hPD
      replace hK := (hK.sub (tys' := [(cf0_1, .int)]) [2] rfl).app hK1
      clear hPc hDc hKc hFc hP1 hK1 hD1 hz1 hk1 ht hvm
      generalize H1 = H at hP hS ⊢
      replace hP : va_P (dC, dI) vwCl [(qf0_1, .inl (cf0_1, 3001, .inl f0_1)), (h0, .inr (2, [.ref qf0, .ref qf1, .int v2, .ref qf3, .ref qf4, .ref qf5, .ref qf6, .ref qf7, .ref qf8, .ref qf9, .ref qf10, .ref qf11, .ref qf12, .ref qf13, .ref qf14, .ref qf15, .ref qf16, .ref qf17, .ref qf18, .ref qf19, .int v20])), (qf0, .inr (9, [.ref qf0_0, .ref qf0_1, .ref qf0_2, .int v0_3, .ref qf0_4, .ref qf0_5, .ref qf0_6, .ref qf0_7, .ref qf0_8, .int v0_9, .int (v0_10 + 1), .int v0_11, .int v0_12])), (qf0_2, .inl (cf0_2, 3001, .inl f0_2)), (qf0_0, .inl (cf0_0, 3001, .inl f0_0)), (qf4, .inl (cf4, 1740, .inl f4))] H := hP
      replace hD : va_D A [(qf0_1, .inl (cf0_1, 3001, .inl f0_1)), (h0, .inr (2, [.ref qf0, .ref qf1, .int v2, .ref qf3, .ref qf4, .ref qf5, .ref qf6, .ref qf7, .ref qf8, .ref qf9, .ref qf10, .ref qf11, .ref qf12, .ref qf13, .ref qf14, .ref qf15, .ref qf16, .ref qf17, .ref qf18, .ref qf19, .int v20])), (qf0, .inr (9, [.ref qf0_0, .ref qf0_1, .ref qf0_2, .int v0_3, .ref qf0_4, .ref qf0_5, .ref qf0_6, .ref qf0_7, .ref qf0_8, .int v0_9, .int (v0_10 + 1), .int v0_11, .int v0_12])), (qf0_2, .inl (cf0_2, 3001, .inl f0_2)), (qf0_0, .inl (cf0_0, 3001, .inl f0_0)), (qf4, .inl (cf4, 1740, .inl f4))] := hD
      replace hK : va_K (dC, dI) vwCl [(cf0_1, .int), (cf0_2, .int), (cf0_0, .int), (cf4, .int)] s := hK
      obtain rfl := hw
      refine lv_goto (tgt := 53) hx hb dX2_readType_49 (by decide) ?_
      refine lv_istore_n (lv' := [(3, .int u3_0), (2, .int v0_10), (1, .int u1_0), (0, .ref h0)]) hx hb dX2_readType_53 rfl hl (by decide) rfl (fun ls hl => ?_)
      refine lv_iload_n hx hb dX2_readType_54 rfl (lv_at hl 0 rfl) ?_
      refine lv_iconst (v := (-1)) hx hb dX2_readType_55 (by decide) ?_
      refine lv_icmp_ne (tgt := 72) hx hb dX2_readType_56 (by decide) (fun c_17 => ?_) (fun c_17 => ?_)
      · rw [if_neg c_17] at hsp
        refine lv_aload_n hx hb dX2_readType_72 rfl (lv_at hl 3 rfl) ?_
        refine va_get (D := (dC, dI)) (ci := 2) (v := .ref qf0) (C := RX2) (T := TX2) (N := 21) hx hb hts uV_h4_X2 hown hK hP 1 rfl rfl 0 (by decide) (hts (.fieldLink RX2 74 "ClassMill$Heads" "text" "LClassMill$Text;") mw_h4_145) (fun _ h9 => h9) rfl dX2_readType_73 ?_
        obtain ⟨u4_0, hu_4, hsp⟩ := ox_bind hsp
        try dsimp only at hsp
        have hPc := hP.sub (ws' := [(qf0, .inr (9, [.ref qf0_0, .ref qf0_1, .ref qf0_2, .int v0_3, .ref qf0_4, .ref qf0_5, .ref qf0_6, .ref qf0_7, .ref qf0_8, .int v0_9, .int (v0_10 + 1), .int v0_11, .int v0_12])), (qf0_0, .inl (cf0_0, 3001, .inl f0_0))]) [2, 4] rfl
        have hDc := hD.sub (ws' := [(qf0, .inr (9, [.ref qf0_0, .ref qf0_1, .ref qf0_2, .int v0_3, .ref qf0_4, .ref qf0_5, .ref qf0_6, .ref qf0_7, .ref qf0_8, .int v0_9, .int (v0_10 + 1), .int v0_11, .int v0_12])), (qf0_0, .inl (cf0_0, 3001, .inl f0_0))]) [2, 4] (by decide) rfl
        have hKc := hK.sub (tys' := [(cf0_0, .int)]) [2] rfl
        have hFc := va_free (wc := [(qf0, .inr (9, [.ref qf0_0, .ref qf0_1, .ref qf0_2, .int v0_3, .ref qf0_4, .ref qf0_5, .ref qf0_6, .ref qf0_7, .ref qf0_8, .int v0_9, .int (v0_10 + 1), .int v0_11, .int v0_12])), (qf0_0, .inl (cf0_0, 3001, .inl f0_0))]) hD hS hA [2, 4] rfl
        refine va_calli (va_runV (As := []) (rest := []) ⟨hx, hb, hml, hown, hts⟩ (t9_kind l dC dI H.size qf0 qf0_0 qf0_1 qf0_2 v0_3 qf0_4 qf0_5 qf0_6 qf0_7 qf0_8 v0_9 ((v0_10 + 1)) v0_11 v0_12 cf0_0 f0_0 nf u4_0 hu_4) (cwV 0 hts gv_h4_32 rfl rfl rfl (by decide +kernel) ⟨Nat.le_of_ble_eq_true rfl, Nat.le_of_ble_eq_true rfl⟩) ⟨fun a U g mk q => by obtain ⟨q0, q1, qP, qK, qD⟩ := q; exact ⟨q0, q1, qP, va_K.moved (u := U) (U := U.calling g mk a) (Vm.Alike.refl U.vm) qK, qD⟩, va_recv hKc hPc (ci := 9) (q0 := 0) rfl rfl, fun U hU hW => ⟨rfl, by rw [hU], by rw [hU]; exact hPc, va_K.moved hW.alike hKc, hDc.weaken (fun _ _ _ _ => trivial)⟩⟩ rfl rfl hl.1 rfl (lv_room (Nat.le_of_ble_eq_true rfl)) dX2_readType_76 ⟨Nat.le_of_ble_eq_true rfl, Nat.le_of_ble_eq_true rfl⟩) hS (fun q _ h => hFc q h) hFc ?_
        clear hS
        intro r_18 u t H1 locs ht hvm hw hB hz1 hk1 hS
        obtain ⟨⟩ := u
        obtain ⟨hP1, hK1, hD1⟩ := hB
        rw [ht] at hP1
        have hK1 := va_K.moved hvm.symm hK1
        try dsimp only at hw
        have hPD := va_join (wr := [(qf0_1, .inl (cf0_1, 3001, .inl f0_1)), (h0, .inr (2, [.ref qf0, .ref qf1, .int v2, .ref qf3, .ref qf4, .ref qf5, .ref qf6, .ref qf7, .ref qf8, .ref qf9, .ref qf10, .ref qf11, .ref qf12, .ref qf13, .ref qf14, .ref qf15, .ref qf16, .ref qf17, .ref qf18, .ref qf19, .int v20])), (qf0_2, .inl (cf0_2, 3001, .inl f0_2)), (qf4, .inl (cf4, 1740, .inl f4))]) (w1 := [(qf0, .inr (9, [.ref qf0_0, .ref qf0_1, .ref qf0_2, .int v0_3, .ref qf0_4, .ref qf0_5, .ref qf0_6, .ref qf0_7, .ref qf0_8, .int v0_9, .int (v0_10 + 1), .int v0_11, .int v0_12])), (qf0_0, .inl (cf0_0, 3001, .inl f0_0))]) hP hD [2, 4] [0, 1, 3, 5] rfl rfl (by decide) (by decide) hk1 hFc hP1 hD1
        clear hP hD
        obtain ⟨hP, hD⟩ := hPD
        replace hK := (hK.sub (tys' := [(cf0_1, .int), (cf0_2, .int), (cf4, .int)]) [0, 1, 3] rfl).app hK1
        clear hPc hDc hKc hFc hP1 hK1 hD1 hz1 hk1 ht hvm
        generalize H1 = H at hP hS ⊢
        replace hP : va_P (dC, dI) vwCl [(qf0_1, .inl (cf0_1, 3001, .inl f0_1)), (h0, .inr (2, [.ref qf0, .ref qf1, .int v2, .ref qf3, .ref qf4, .ref qf5, .ref qf6, .ref qf7, .ref qf8, .ref qf9, .ref qf10, .ref qf11, .ref qf12, .ref qf13, .ref qf14, .ref qf15, .ref qf16, .ref qf17, .ref qf18, .ref qf19, .int v20])), (qf0_2, .inl (cf0_2, 3001, .inl f0_2)), (qf4, .inl (cf4, 1740, .inl f4)), (qf0, .inr (9, [.ref qf0_0, .ref qf0_1, .ref qf0_2, .int v0_3, .ref qf0_4, .ref qf0_5, .ref qf0_6, .ref qf0_7, .ref qf0_8, .int v0_9, .int (v0_10 + 1), .int v0_11, .int v0_12])), (qf0_0, .inl (cf0_0, 3001, .inl f0_0))] H := hP
        replace hD : va_D A [(qf0_1, .inl (cf0_1, 3001, .inl f0_1)), (h0, .inr (2, [.ref qf0, .ref qf1, .int v2, .ref qf3, .ref qf4, .ref qf5, .ref qf6, .ref qf7, .ref qf8, .ref qf9, .ref qf10, .ref qf11, .ref qf12, .ref qf13, .ref qf14, .ref qf15, .ref qf16, .ref qf17, .ref qf18, .ref qf19, .int v20])), (qf0_2, .inl (cf0_2, 3001, .inl f0_2)), (qf4, .inl (cf4, 1740, .inl f4)), (qf0, .inr (9, [.ref qf0_0, .ref qf0_1, .ref qf0_2, .int v0_3, .ref qf0_4, .ref qf0_5, .ref qf0_6, .ref qf0_7, .ref qf0_8, .int v0_9, .int (v0_10 + 1), .int v0_11, .int v0_12])), (qf0_0, .inl (cf0_0, 3001, .inl f0_0))] := hD
        replace hK : va_K (dC, dI) vwCl [(cf0_1, .int), (cf0_2, .int), (cf4, .int), (cf0_0, .int)] s := hK
        obtain rfl := hw
        refine lv_bipush (v := 44) hx hb dX2_readType_79 (by decide) ?_
        refine lv_icmp_ne (tgt := 88) hx hb dX2_readType_81 (by decide) (fun c_19 => ?_) (fun c_19 => ?_)
        · rw [if_neg c_19] at hsp
          refine lv_iconst (v := 0) hx hb dX2_readType_88 (by decide) ?_
          refine lv_istore (lv' := [(4, .int 0), (3, .int u3_0), (2, .int v0_10), (1, .int u1_0), (0, .ref h0)]) hx hb dX2_readType_89 hl (by decide) rfl (fun ls hl => ?_)
          refine lv_iload hx hb dX2_readType_91 (lv_at hl 0 rfl) ?_
          refine lv_if_eq (tgt := 109) hx hb dX2_readType_93 (by decide) (fun c_20 => ?_) (fun c_20 => (show False by revert c_20; decide).elim)
          refine lv_iload_n hx hb dX2_readType_109 rfl (lv_at hl 3 rfl) ?_
          refine lv_bipush (v := 20) hx hb dX2_readType_110 (by decide) ?_
          refine lv_icmp_ne (tgt := 130) hx hb dX2_readType_112 (by decide) (fun c_21 => ?_) (fun c_21 => ?_)
          · rw [if_neg c_21] at hsp
            refine lv_iload hx hb dX2_readType_130 (lv_at hl 0 rfl) ?_
            refine lv_if_eq (tgt := 142) hx hb dX2_readType_132 (by decide) (fun c_22 => ?_) (fun c_22 => (show False by revert c_22; decide).elim)
            refine lv_iload_n hx hb dX2_readType_142 rfl (lv_at hl 1 rfl) ?_
            have hr0 := Option.some.inj hsp
            clear hsp
            obtain ⟨hq0, hr1⟩ := Prod.mk.inj hr0
            clear hr0
            obtain ⟨hq1, hr2⟩ := Prod.mk.inj hr1
            clear hr1
            obtain ⟨hq2, hr3⟩ := Prod.mk.inj hr2
            clear hr2
            subst hq0
            subst hq1
            subst hq2
            subst hr3
            have hP9 := hP.sub (ws' := [(h0, .inr (2, [.ref qf0, .ref qf1, .int v2, .ref qf3, .ref qf4, .ref qf5, .ref qf6, .ref qf7, .ref qf8, .ref qf9, .ref qf10, .ref qf11, .ref qf12, .ref qf13, .ref qf14, .ref qf15, .ref qf16, .ref qf17, .ref qf18, .ref qf19, .int v20])), (qf0, .inr (9, [.ref qf0_0, .ref qf0_1, .ref qf0_2, .int v0_3, .ref qf0_4, .ref qf0_5, .ref qf0_6, .ref qf0_7, .ref qf0_8, .int v0_9, .int (v0_10 + 1), .int v0_11, .int v0_12])), (qf0_0, .inl (cf0_0, 3001, .inl f0_0)), (qf0_2, .inl (cf0_2, 3001, .inl f0_2)), (qf4, .inl (cf4, 1740, .inl f4)), (qf0_1, .inl (cf0_1, 3001, .inl f0_1))]) [1, 4, 5, 2, 3, 0] rfl
            have hD9 := hD.sub (ws' := [(h0, .inr (2, [.ref qf0, .ref qf1, .int v2, .ref qf3, .ref qf4, .ref qf5, .ref qf6, .ref qf7, .ref qf8, .ref qf9, .ref qf10, .ref qf11, .ref qf12, .ref qf13, .ref qf14, .ref qf15, .ref qf16, .ref qf17, .ref qf18, .ref qf19, .int v20])), (qf0, .inr (9, [.ref qf0_0, .ref qf0_1, .ref qf0_2, .int v0_3, .ref qf0_4, .ref qf0_5, .ref qf0_6, .ref qf0_7, .ref qf0_8, .int v0_9, .int (v0_10 + 1), .int v0_11, .int v0_12])), (qf0_0, .inl (cf0_0, 3001, .inl f0_0)), (qf0_2, .inl (cf0_2, 3001, .inl f0_2)), (qf4, .inl (cf4, 1740, .inl f4)), (qf0_1, .inl (cf0_1, 3001, .inl f0_1))]) [1, 4, 5, 2, 3, 0] (by decide) rfl
            have hK9 := hK.sub (tys' := [(cf0_0, .int), (cf0_2, .int), (cf4, .int), (cf0_1, .int)]) [3, 1, 2, 0] rfl
            exact W.iret hx hb hr (fun t ht hW => ⟨⟨(u3_0), (), rfl, rfl, by rw [ht]; exact hP9, va_K.moved hW.alike hK9, hD9⟩, hS.F ht⟩) hS.2.2 dX2_readType_143
          · rw [if_pos c_21] at hsp
            refine lv_iload hx hb dX2_readType_115 (lv_at hl 0 rfl) ?_
            refine lv_if_eq (tgt := 126) hx hb dX2_readType_117 (by decide) (fun c_23 => ?_) (fun c_23 => (show False by revert c_23; decide).elim)
            refine lv_sipush (v := 301) hx hb dX2_readType_126 (by decide) ?_
            have hr0 := Option.some.inj hsp
            clear hsp
            obtain ⟨hq0, hr1⟩ := Prod.mk.inj hr0
            clear hr0
            obtain ⟨hq1, hr2⟩ := Prod.mk.inj hr1
            clear hr1
            obtain ⟨hq2, hr3⟩ := Prod.mk.inj hr2
            clear hr2
            subst hq0
            subst hq1
            subst hq2
            subst hr3
            have hP9 := hP.sub (ws' := [(h0, .inr (2, [.ref qf0, .ref qf1, .int v2, .ref qf3, .ref qf4, .ref qf5, .ref qf6, .ref qf7, .ref qf8, .ref qf9, .ref qf10, .ref qf11, .ref qf12, .ref qf13, .ref qf14, .ref qf15, .ref qf16, .ref qf17, .ref qf18, .ref qf19, .int v20])), (qf0, .inr (9, [.ref qf0_0, .ref qf0_1, .ref qf0_2, .int v0_3, .ref qf0_4, .ref qf0_5, .ref qf0_6, .ref qf0_7, .ref qf0_8, .int v0_9, .int (v0_10 + 1), .int v0_11, .int v0_12])), (qf0_0, .inl (cf0_0, 3001, .inl f0_0)), (qf0_2, .inl (cf0_2, 3001, .inl f0_2)), (qf4, .inl (cf4, 1740, .inl f4)), (qf0_1, .inl (cf0_1, 3001, .inl f0_1))]) [1, 4, 5, 2, 3, 0] rfl
            have hD9 := hD.sub (ws' := [(h0, .inr (2, [.ref qf0, .ref qf1, .int v2, .ref qf3, .ref qf4, .ref qf5, .ref qf6, .ref qf7, .ref qf8, .ref qf9, .ref qf10, .ref qf11, .ref qf12, .ref qf13, .ref qf14, .ref qf15, .ref qf16, .ref qf17, .ref qf18, .ref qf19, .int v20])), (qf0, .inr (9, [.ref qf0_0, .ref qf0_1, .ref qf0_2, .int v0_3, .ref qf0_4, .ref qf0_5, .ref qf0_6, .ref qf0_7, .ref qf0_8, .int v0_9, .int (v0_10 + 1), .int v0_11, .int v0_12])), (qf0_0, .inl (cf0_0, 3001, .inl f0_0)), (qf0_2, .inl (cf0_2, 3001, .inl f0_2)), (qf4, .inl (cf4, 1740, .inl f4)), (qf0_1, .inl (cf0_1, 3001, .inl f0_1))]) [1, 4, 5, 2, 3, 0] (by decide) rfl
            have hK9 := hK.sub (tys' := [(cf0_0, .int), (cf0_2, .int), (cf4, .int), (cf0_1, .int)]) [3, 1, 2, 0] rfl
            exact W.iret hx hb hr (fun t ht hW => ⟨⟨(301), (), rfl, rfl, by rw [ht]; exact hP9, va_K.moved hW.alike hK9, hD9⟩, hS.F ht⟩) hS.2.2 dX2_readType_129
        · rw [if_pos c_19] at hsp
          refine lv_iconst (v := 1) hx hb dX2_readType_84 (by decide) ?_
          refine lv_goto (tgt := 89) hx hb dX2_readType_85 (by decide) ?_
          refine lv_istore (lv' := [(4, .int 1), (3, .int u3_0), (2, .int v0_10), (1, .int u1_0), (0, .ref h0)]) hx hb dX2_readType_89 hl (by decide) rfl (fun ls hl => ?_)
          refine lv_iload hx hb dX2_readType_91 (lv_at hl 0 rfl) ?_
          refine lv_if_eq (tgt := 109) hx hb dX2_readType_93 (by decide) (fun c_24 => (show False by revert c_24; decide).elim) (fun c_24 => ?_)
          refine lv_aload_n hx hb dX2_readType_96 rfl (lv_at hl 4 rfl) ?_
          refine va_get (D := (dC, dI)) (ci := 2) (v := .ref qf0) (C := RX2) (T := TX2) (N := 21) hx hb hts uV_h4_X2 hown hK hP 1 rfl rfl 0 (by decide) (hts (.fieldLink RX2 74 "ClassMill$Heads" "text" "LClassMill$Text;") mw_h4_145) (fun _ h9 => h9) rfl dX2_readType_97 ?_
          refine lv_dup hx hb dX2_readType_100 rfl ?_
          refine va_get (D := (dC, dI)) (ci := 9) (v := .int (v0_10 + 1)) (C := RX9) (T := TX9) (N := 13) hx hb hts uV_h4_X9 hown hK hP 4 rfl rfl 10 (by decide) (hts (.fieldLink RX2 118 "ClassMill$Text" "pos" "I") mw_h4_165) (fun _ h9 => h9) rfl dX2_readType_101 ?_
          refine lv_iconst (v := 2) hx hb dX2_readType_104 (by decide) ?_
          refine lv_iadd hx hb dX2_readType_105 ?_
          refine va_put (D := (dC, dI)) (ci := 9) (v := .int ((v0_10 + 1) + 2)) (ty := .int) (C := RX9) (T := TX9) (N := 13) hx hb hts uV_h4_X9 tyX9 tyX9_ok nmX9 hown hK hP hD hS 4 rfl rfl 10 (by decide) (hts (.fieldLink RX2 118 "ClassMill$Text" "pos" "I") mw_h4_165) (fun _ h9 => h9) rfl (by decide +kernel) rfl rfl (Nat.le_of_ble_eq_true rfl) dX2_readType_106 ?_
          clear hP hD hS
          intro H locs hP hD hS
          replace hP : va_P (dC, dI) vwCl [(qf0_1, .inl (cf0_1, 3001, .inl f0_1)), (h0, .inr (2, [.ref qf0, .ref qf1, .int v2, .ref qf3, .ref qf4, .ref qf5, .ref qf6, .ref qf7, .ref qf8, .ref qf9, .ref qf10, .ref qf11, .ref qf12, .ref qf13, .ref qf14, .ref qf15, .ref qf16, .ref qf17, .ref qf18, .ref qf19, .int v20])), (qf0_2, .inl (cf0_2, 3001, .inl f0_2)), (qf4, .inl (cf4, 1740, .inl f4)), (qf0, .inr (9, [.ref qf0_0, .ref qf0_1, .ref qf0_2, .int v0_3, .ref qf0_4, .ref qf0_5, .ref qf0_6, .ref qf0_7, .ref qf0_8, .int v0_9, .int ((v0_10 + 1) + 2), .int v0_11, .int v0_12])), (qf0_0, .inl (cf0_0, 3001, .inl f0_0))] H := hP
          replace hD : va_D A [(qf0_1, .inl (cf0_1, 3001, .inl f0_1)), (h0, .inr (2, [.ref qf0, .ref qf1, .int v2, .ref qf3, .ref qf4, .ref qf5, .ref qf6, .ref qf7, .ref qf8, .ref qf9, .ref qf10, .ref qf11, .ref qf12, .ref qf13, .ref qf14, .ref qf15, .ref qf16, .ref qf17, .ref qf18, .ref qf19, .int v20])), (qf0_2, .inl (cf0_2, 3001, .inl f0_2)), (qf4, .inl (cf4, 1740, .inl f4)), (qf0, .inr (9, [.ref qf0_0, .ref qf0_1, .ref qf0_2, .int v0_3, .ref qf0_4, .ref qf0_5, .ref qf0_6, .ref qf0_7, .ref qf0_8, .int v0_9, .int ((v0_10 + 1) + 2), .int v0_11, .int v0_12])), (qf0_0, .inl (cf0_0, 3001, .inl f0_0))] := hD
          refine lv_iload_n hx hb dX2_readType_109 rfl (lv_at hl 3 rfl) ?_
          refine lv_bipush (v := 20) hx hb dX2_readType_110 (by decide) ?_
          refine lv_icmp_ne (tgt := 130) hx hb dX2_readType_112 (by decide) (fun c_25 => ?_) (fun c_25 => ?_)
          · rw [if_neg c_25] at hsp
            refine lv_iload hx hb dX2_readType_130 (lv_at hl 0 rfl) ?_
            refine lv_if_eq (tgt := 142) hx hb dX2_readType_132 (by decide) (fun c_26 => (show False by revert c_26; decide).elim) (fun c_26 => ?_)
            refine lv_bipush (v := 100) hx hb dX2_readType_135 (by decide) ?_
            refine lv_iload_n hx hb dX2_readType_137 rfl (lv_at hl 1 rfl) ?_
            refine lv_iadd hx hb dX2_readType_138 ?_
            refine lv_goto (tgt := 143) hx hb dX2_readType_139 (by decide) ?_
            have hr0 := Option.some.inj hsp
            clear hsp
            obtain ⟨hq0, hr1⟩ := Prod.mk.inj hr0
            clear hr0
            obtain ⟨hq1, hr2⟩ := Prod.mk.inj hr1
            clear hr1
            obtain ⟨hq2, hr3⟩ := Prod.mk.inj hr2
            clear hr2
            subst hq0
            subst hq1
            subst hq2
            subst hr3
            have hP9 := hP.sub (ws' := [(h0, .inr (2, [.ref qf0, .ref qf1, .int v2, .ref qf3, .ref qf4, .ref qf5, .ref qf6, .ref qf7, .ref qf8, .ref qf9, .ref qf10, .ref qf11, .ref qf12, .ref qf13, .ref qf14, .ref qf15, .ref qf16, .ref qf17, .ref qf18, .ref qf19, .int v20])), (qf0, .inr (9, [.ref qf0_0, .ref qf0_1, .ref qf0_2, .int v0_3, .ref qf0_4, .ref qf0_5, .ref qf0_6, .ref qf0_7, .ref qf0_8, .int v0_9, .int ((v0_10 + 1) + 2), .int v0_11, .int v0_12])), (qf0_0, .inl (cf0_0, 3001, .inl f0_0)), (qf0_2, .inl (cf0_2, 3001, .inl f0_2)), (qf4, .inl (cf4, 1740, .inl f4)), (qf0_1, .inl (cf0_1, 3001, .inl f0_1))]) [1, 4, 5, 2, 3, 0] rfl
            have hD9 := hD.sub (ws' := [(h0, .inr (2, [.ref qf0, .ref qf1, .int v2, .ref qf3, .ref qf4, .ref qf5, .ref qf6, .ref qf7, .ref qf8, .ref qf9, .ref qf10, .ref qf11, .ref qf12, .ref qf13, .ref qf14, .ref qf15, .ref qf16, .ref qf17, .ref qf18, .ref qf19, .int v20])), (qf0, .inr (9, [.ref qf0_0, .ref qf0_1, .ref qf0_2, .int v0_3, .ref qf0_4, .ref qf0_5, .ref qf0_6, .ref qf0_7, .ref qf0_8, .int v0_9, .int ((v0_10 + 1) + 2), .int v0_11, .int v0_12])), (qf0_0, .inl (cf0_0, 3001, .inl f0_0)), (qf0_2, .inl (cf0_2, 3001, .inl f0_2)), (qf4, .inl (cf4, 1740, .inl f4)), (qf0_1, .inl (cf0_1, 3001, .inl f0_1))]) [1, 4, 5, 2, 3, 0] (by decide) rfl
            have hK9 := hK.sub (tys' := [(cf0_0, .int), (cf0_2, .int), (cf4, .int), (cf0_1, .int)]) [3, 1, 2, 0] rfl
            exact W.iret hx hb hr (fun t ht hW => ⟨⟨((100 + u3_0)), (), rfl, rfl, by rw [ht]; exact hP9, va_K.moved hW.alike hK9, hD9⟩, hS.F ht⟩) hS.2.2 dX2_readType_143
          · rw [if_pos c_25] at hsp
            refine lv_iload hx hb dX2_readType_115 (lv_at hl 0 rfl) ?_
            refine lv_if_eq (tgt := 126) hx hb dX2_readType_117 (by decide) (fun c_27 => (show False by revert c_27; decide).elim) (fun c_27 => ?_)
            refine lv_sipush (v := 200) hx hb dX2_readType_120 (by decide) ?_
            refine lv_goto (tgt := 129) hx hb dX2_readType_123 (by decide) ?_
            have hr0 := Option.some.inj hsp
            clear hsp
            obtain ⟨hq0, hr1⟩ := Prod.mk.inj hr0
            clear hr0
            obtain ⟨hq1, hr2⟩ := Prod.mk.inj hr1
            clear hr1
            obtain ⟨hq2, hr3⟩ := Prod.mk.inj hr2
            clear hr2
            subst hq0
            subst hq1
            subst hq2
            subst hr3
            have hP9 := hP.sub (ws' := [(h0, .inr (2, [.ref qf0, .ref qf1, .int v2, .ref qf3, .ref qf4, .ref qf5, .ref qf6, .ref qf7, .ref qf8, .ref qf9, .ref qf10, .ref qf11, .ref qf12, .ref qf13, .ref qf14, .ref qf15, .ref qf16, .ref qf17, .ref qf18, .ref qf19, .int v20])), (qf0, .inr (9, [.ref qf0_0, .ref qf0_1, .ref qf0_2, .int v0_3, .ref qf0_4, .ref qf0_5, .ref qf0_6, .ref qf0_7, .ref qf0_8, .int v0_9, .int ((v0_10 + 1) + 2), .int v0_11, .int v0_12])), (qf0_0, .inl (cf0_0, 3001, .inl f0_0)), (qf0_2, .inl (cf0_2, 3001, .inl f0_2)), (qf4, .inl (cf4, 1740, .inl f4)), (qf0_1, .inl (cf0_1, 3001, .inl f0_1))]) [1, 4, 5, 2, 3, 0] rfl
            have hD9 := hD.sub (ws' := [(h0, .inr (2, [.ref qf0, .ref qf1, .int v2, .ref qf3, .ref qf4, .ref qf5, .ref qf6, .ref qf7, .ref qf8, .ref qf9, .ref qf10, .ref qf11, .ref qf12, .ref qf13, .ref qf14, .ref qf15, .ref qf16, .ref qf17, .ref qf18, .ref qf19, .int v20])), (qf0, .inr (9, [.ref qf0_0, .ref qf0_1, .ref qf0_2, .int v0_3, .ref qf0_4, .ref qf0_5, .ref qf0_6, .ref qf0_7, .ref qf0_8, .int v0_9, .int ((v0_10 + 1) + 2), .int v0_11, .int v0_12])), (qf0_0, .inl (cf0_0, 3001, .inl f0_0)), (qf0_2, .inl (cf0_2, 3001, .inl f0_2)), (qf4, .inl (cf4, 1740, .inl f4)), (qf0_1, .inl (cf0_1, 3001, .inl f0_1))]) [1, 4, 5, 2, 3, 0] (by decide) rfl
            have hK9 := hK.sub (tys' := [(cf0_0, .int), (cf0_2, .int), (cf4, .int), (cf0_1, .int)]) [3, 1, 2, 0] rfl
            exact W.iret hx hb hr (fun t ht hW => ⟨⟨(200), (), rfl, rfl, by rw [ht]; exact hP9, va_K.moved hW.alike hK9, hD9⟩, hS.F ht⟩) hS.2.2 dX2_readType_129
      · rw [if_pos c_17] at hsp
        refine lv_aload_n hx hb dX2_readType_59 rfl (lv_at hl 3 rfl) ?_
        refine va_get (D := (dC, dI)) (ci := 2) (v := .ref qf0) (C := RX2) (T := TX2) (N := 21) hx hb hts uV_h4_X2 hown hK hP 1 rfl rfl 0 (by decide) (hts (.fieldLink RX2 74 "ClassMill$Heads" "text" "LClassMill$Text;") mw_h4_145) (fun _ h9 => h9) rfl dX2_readType_60 ?_
        refine lv_iconst (v := 5) hx hb dX2_readType_63 (by decide) ?_
        refine lv_iload_n hx hb dX2_readType_64 rfl (lv_at hl 1 rfl) ?_
        obtain ⟨⟨u5_0, u5_1⟩, hu_5, hsp⟩ := ox_bind hsp
        try dsimp only at hsp
        have hPc := hP.sub (ws' := [(qf0, .inr (9, [.ref qf0_0, .ref qf0_1, .ref qf0_2, .int v0_3, .ref qf0_4, .ref qf0_5, .ref qf0_6, .ref qf0_7, .ref qf0_8, .int v0_9, .int (v0_10 + 1), .int v0_11, .int v0_12])), (qf0_1, .inl (cf0_1, 3001, .inl f0_1))]) [2, 0] rfl
        have hDc := hD.sub (ws' := [(qf0, .inr (9, [.ref qf0_0, .ref qf0_1, .ref qf0_2, .int v0_3, .ref qf0_4, .ref qf0_5, .ref qf0_6, .ref qf0_7, .ref qf0_8, .int v0_9, .int (v0_10 + 1), .int v0_11, .int v0_12])), (qf0_1, .inl (cf0_1, 3001, .inl f0_1))]) [2, 0] (by decide) rfl
        have hKc := hK.sub (tys' := [(cf0_1, .int)]) [0] rfl
        have hFc := va_free (wc := [(qf0, .inr (9, [.ref qf0_0, .ref qf0_1, .ref qf0_2, .int v0_3, .ref qf0_4, .ref qf0_5, .ref qf0_6, .ref qf0_7, .ref qf0_8, .int v0_9, .int (v0_10 + 1), .int v0_11, .int v0_12])), (qf0_1, .inl (cf0_1, 3001, .inl f0_1))]) hD hS hA [2, 0] rfl
        refine va_callv (va_runV (As := [.int 5, .int v0_10]) (rest := []) ⟨hx, hb, hml, hown, hts⟩ (t9_tell l dC dI H.size qf0 5 v0_10 qf0_0 qf0_1 qf0_2 v0_3 qf0_4 qf0_5 qf0_6 qf0_7 qf0_8 v0_9 ((v0_10 + 1)) v0_11 v0_12 cf0_1 f0_1 nf u5_0 u5_1 hu_5) (cwV 2 hts gv_h4_33 rfl rfl rfl (by decide +kernel) ⟨Nat.le_of_ble_eq_true rfl, Nat.le_of_ble_eq_true rfl⟩) ⟨fun a U g mk q => by obtain ⟨q0, q1, qP, qK, qD⟩ := q; exact ⟨q0, q1, qP, va_K.moved (u := U) (U := U.calling g mk a) (Vm.Alike.refl U.vm) qK, qD⟩, va_recv hKc hPc (ci := 9) (q0 := 0) rfl rfl, fun U hU hW => ⟨rfl, by rw [hU], by rw [hU]; exact hPc, va_K.moved hW.alike hKc, hDc.weaken (fun _ _ _ _ => trivial)⟩⟩ rfl rfl hl.1 rfl (lv_room (Nat.le_of_ble_eq_true rfl)) dX2_readType_65 ⟨Nat.le_of_ble_eq_true rfl, Nat.le_of_ble_eq_true rfl⟩) hS (fun q _ h => hFc q h) hFc ?_
        clear hS
        intro u t H1 locs ht hvm hw hB hz1 hk1 hS
        obtain ⟨⟩ := u
        obtain ⟨hP1, hK1, hD1⟩ := hB
        rw [ht] at hP1
        have hK1 := va_K.moved hvm.symm hK1
        try dsimp only at hw
        have hPD := va_join (wr := [(h0, .inr (2, [.ref qf0, .ref qf1, .int v2, .ref qf3, .ref qf4, .ref qf5, .ref qf6, .ref qf7, .ref qf8, .ref qf9, .ref qf10, .ref qf11, .ref qf12, .ref qf13, .ref qf14, .ref qf15, .ref qf16, .ref qf17, .ref qf18, .ref qf19, .int v20])), (qf0_2, .inl (cf0_2, 3001, .inl f0_2)), (qf0_0, .inl (cf0_0, 3001, .inl f0_0)), (qf4, .inl (cf4, 1740, .inl f4))]) (w1 := [(qf0, .inr (9, [.ref qf0_0, .ref qf0_1, .ref qf0_2, .int v0_3, .ref qf0_4, .ref qf0_5, .ref qf0_6, .ref qf0_7, .ref qf0_8, .int v0_9, .int (v0_10 + 1), .int u5_0, .int u5_1])), (qf0_1, .inl (cf0_1, 3001, .inl f0_1))]) hP hD [2, 0] [1, 3, 4, 5] rfl rfl (by decide) (by decide) hk1 hFc hP1 hD1
        clear hP hD
        obtain ⟨hP, hD⟩ := hPD
        replace hK := (hK.sub (tys' := [(cf0_2, .int), (cf0_0, .int), (cf4, .int)]) [1, 2, 3] rfl).app hK1
        clear hPc hDc hKc hFc hP1 hK1 hD1 hz1 hk1 ht hvm
        generalize H1 = H at hP hS ⊢
        replace hP : va_P (dC, dI) vwCl [(h0, .inr (2, [.ref qf0, .ref qf1, .int v2, .ref qf3, .ref qf4, .ref qf5, .ref qf6, .ref qf7, .ref qf8, .ref qf9, .ref qf10, .ref qf11, .ref qf12, .ref qf13, .ref qf14, .ref qf15, .ref qf16, .ref qf17, .ref qf18, .ref qf19, .int v20])), (qf0_2, .inl (cf0_2, 3001, .inl f0_2)), (qf0_0, .inl (cf0_0, 3001, .inl f0_0)), (qf4, .inl (cf4, 1740, .inl f4)), (qf0, .inr (9, [.ref qf0_0, .ref qf0_1, .ref qf0_2, .int v0_3, .ref qf0_4, .ref qf0_5, .ref qf0_6, .ref qf0_7, .ref qf0_8, .int v0_9, .int (v0_10 + 1), .int u5_0, .int u5_1])), (qf0_1, .inl (cf0_1, 3001, .inl f0_1))] H := hP
        replace hD : va_D A [(h0, .inr (2, [.ref qf0, .ref qf1, .int v2, .ref qf3, .ref qf4, .ref qf5, .ref qf6, .ref qf7, .ref qf8, .ref qf9, .ref qf10, .ref qf11, .ref qf12, .ref qf13, .ref qf14, .ref qf15, .ref qf16, .ref qf17, .ref qf18, .ref qf19, .int v20])), (qf0_2, .inl (cf0_2, 3001, .inl f0_2)), (qf0_0, .inl (cf0_0, 3001, .inl f0_0)), (qf4, .inl (cf4, 1740, .inl f4)), (qf0, .inr (9, [.ref qf0_0, .ref qf0_1, .ref qf0_2, .int v0_3, .ref qf0_4, .ref qf0_5, .ref qf0_6, .ref qf0_7, .ref qf0_8, .int v0_9, .int (v0_10 + 1), .int u5_0, .int u5_1])), (qf0_1, .inl (cf0_1, 3001, .inl f0_1))] := hD
        replace hK : va_K (dC, dI) vwCl [(cf0_2, .int), (cf0_0, .int), (cf4, .int), (cf0_1, .int)] s := hK
        refine lv_sipush (v := 305) hx hb dX2_readType_68 (by decide) ?_
        have hr0 := Option.some.inj hsp
        clear hsp
        obtain ⟨hq0, hr1⟩ := Prod.mk.inj hr0
        clear hr0
        obtain ⟨hq1, hr2⟩ := Prod.mk.inj hr1
        clear hr1
        obtain ⟨hq2, hr3⟩ := Prod.mk.inj hr2
        clear hr2
        subst hq0
        subst hq1
        subst hq2
        subst hr3
        have hP9 := hP.sub (ws' := [(h0, .inr (2, [.ref qf0, .ref qf1, .int v2, .ref qf3, .ref qf4, .ref qf5, .ref qf6, .ref qf7, .ref qf8, .ref qf9, .ref qf10, .ref qf11, .ref qf12, .ref qf13, .ref qf14, .ref qf15, .ref qf16, .ref qf17, .ref qf18, .ref qf19, .int v20])), (qf0, .inr (9, [.ref qf0_0, .ref qf0_1, .ref qf0_2, .int v0_3, .ref qf0_4, .ref qf0_5, .ref qf0_6, .ref qf0_7, .ref qf0_8, .int v0_9, .int (v0_10 + 1), .int u5_0, .int u5_1])), (qf0_0, .inl (cf0_0, 3001, .inl f0_0)), (qf0_2, .inl (cf0_2, 3001, .inl f0_2)), (qf4, .inl (cf4, 1740, .inl f4)), (qf0_1, .inl (cf0_1, 3001, .inl f0_1))]) [0, 4, 2, 1, 3, 5] rfl
        have hD9 := hD.sub (ws' := [(h0, .inr (2, [.ref qf0, .ref qf1, .int v2, .ref qf3, .ref qf4, .ref qf5, .ref qf6, .ref qf7, .ref qf8, .ref qf9, .ref qf10, .ref qf11, .ref qf12, .ref qf13, .ref qf14, .ref qf15, .ref qf16, .ref qf17, .ref qf18, .ref qf19, .int v20])), (qf0, .inr (9, [.ref qf0_0, .ref qf0_1, .ref qf0_2, .int v0_3, .ref qf0_4, .ref qf0_5, .ref qf0_6, .ref qf0_7, .ref qf0_8, .int v0_9, .int (v0_10 + 1), .int u5_0, .int u5_1])), (qf0_0, .inl (cf0_0, 3001, .inl f0_0)), (qf0_2, .inl (cf0_2, 3001, .inl f0_2)), (qf4, .inl (cf4, 1740, .inl f4)), (qf0_1, .inl (cf0_1, 3001, .inl f0_1))]) [0, 4, 2, 1, 3, 5] (by decide) rfl
        have hK9 := hK.sub (tys' := [(cf0_0, .int), (cf0_2, .int), (cf4, .int), (cf0_1, .int)]) [1, 0, 2, 3] rfl
        exact W.iret hx hb hr (fun t ht hW => ⟨⟨(305), (), rfl, rfl, by rw [ht]; exact hP9, va_K.moved hW.alike hK9, hD9⟩, hS.F ht⟩) hS.2.2 dX2_readType_71
  · rw [if_pos c_2] at hsp
    refine lv_sipush (v := 302) hx hb dX2_readType_35 (by decide) ?_
    have hr0 := Option.some.inj hsp
    clear hsp
    obtain ⟨hq0, hr1⟩ := Prod.mk.inj hr0
    clear hr0
    obtain ⟨hq1, hr2⟩ := Prod.mk.inj hr1
    clear hr1
    obtain ⟨hq2, hr3⟩ := Prod.mk.inj hr2
    clear hr2
    subst hq0
    subst hq1
    subst hq2
    subst hr3
    have hP9 := hP.sub (ws' := [(h0, .inr (2, [.ref qf0, .ref qf1, .int v2, .ref qf3, .ref qf4, .ref qf5, .ref qf6, .ref qf7, .ref qf8, .ref qf9, .ref qf10, .ref qf11, .ref qf12, .ref qf13, .ref qf14, .ref qf15, .ref qf16, .ref qf17, .ref qf18, .ref qf19, .int v20])), (qf0, .inr (9, [.ref qf0_0, .ref qf0_1, .ref qf0_2, .int v0_3, .ref qf0_4, .ref qf0_5, .ref qf0_6, .ref qf0_7, .ref qf0_8, .int v0_9, .int (v0_10 + 1), .int v0_11, .int v0_12])), (qf0_0, .inl (cf0_0, 3001, .inl f0_0)), (qf0_2, .inl (cf0_2, 3001, .inl f0_2)), (qf4, .inl (cf4, 1740, .inl f4)), (qf0_1, .inl (cf0_1, 3001, .inl f0_1))]) [0, 4, 5, 1, 2, 3] rfl
    have hD9 := hD.sub (ws' := [(h0, .inr (2, [.ref qf0, .ref qf1, .int v2, .ref qf3, .ref qf4, .ref qf5, .ref qf6, .ref qf7, .ref qf8, .ref qf9, .ref qf10, .ref qf11, .ref qf12, .ref qf13, .ref qf14, .ref qf15, .ref qf16, .ref qf17, .ref qf18, .ref qf19, .int v20])), (qf0, .inr (9, [.ref qf0_0, .ref qf0_1, .ref qf0_2, .int v0_3, .ref qf0_4, .ref qf0_5, .ref qf0_6, .ref qf0_7, .ref qf0_8, .int v0_9, .int (v0_10 + 1), .int v0_11, .int v0_12])), (qf0_0, .inl (cf0_0, 3001, .inl f0_0)), (qf0_2, .inl (cf0_2, 3001, .inl f0_2)), (qf4, .inl (cf4, 1740, .inl f4)), (qf0_1, .inl (cf0_1, 3001, .inl f0_1))]) [0, 4, 5, 1, 2, 3] (by decide) rfl
    have hK9 := hK.sub (tys' := [(cf0_0, .int), (cf0_2, .int), (cf4, .int), (cf0_1, .int)]) [3, 0, 1, 2] rfl
    exact W.iret hx hb hr (fun t ht hW => ⟨⟨(302), (), rfl, rfl, by rw [ht]; exact hP9, va_K.moved hW.alike hK9, hD9⟩, hS.F ht⟩) hS.2.2 dX2_readType_38
def lp_t2_addParameter_54 (nf n : Nat) (a1 : Int32) (v0_3 : Int32) (v0_10 : Int32) (v0_11 : Int32) (v0_12 : Int32) (f0_0 : Nat → Int32) (f0_2 : Nat → Int32) (f4 : Nat → Int32) (f0_1 : Nat → Int32) (f15 : Nat → Int32) (f16 : Nat → Int32) (f17 : Nat → Int32)  (l1_54 : Int32) (l2_54 : Int32) (l3_54 : Int32) (l4_54 : Int32) (l5_54 : Int32) (l6_54 : Int32) (g15_54 : Nat → Int32) (g16_54 : Nat → Int32) (g17_54 : Nat → Int32) (x0_10_54 : Int32) (x0_11_54 : Int32) (x0_12_54 : Int32) : Option ((Nat → Int32) × (Nat → Int32) × (Nat → Int32) × Int32 × Int32 × Int32) := match n with
  | 0 => none
  | n + 1 => (if l1_54 < 0 then none else if 96 ≤ (l1_54 : Int32).toNatClampNeg then none else (if (g15_54 (l1_54 : Int32).toNatClampNeg) ≤ l6_54 then (if l1_54 < 0 then none else if 96 ≤ (l1_54 : Int32).toNatClampNeg then none else (if (l5_54 + (g15_54 (l1_54 : Int32).toNatClampNeg)) < 0 then none else if 576 ≤ ((l5_54 + (g15_54 (l1_54 : Int32).toNatClampNeg)) : Int32).toNatClampNeg then none else (if l1_54 < 0 then none else if 96 ≤ (l1_54 : Int32).toNatClampNeg then none else (if (l5_54 + (g15_54 (l1_54 : Int32).toNatClampNeg)) < 0 then none else if 576 ≤ ((l5_54 + (g15_54 (l1_54 : Int32).toNatClampNeg)) : Int32).toNatClampNeg then none else (if l1_54 < 0 then none else if 96 ≤ (l1_54 : Int32).toNatClampNeg then none else (if l1_54 < 0 then none else if 96 ≤ (l1_54 : Int32).toNatClampNeg then none else ((sp_t9_kind nf v0_3 (x0_10_54 + 1) x0_11_54 f0_0).bind (fun p3 => (if p3 = 47 then (some ((upd g15_54 (l1_54 : Int32).toNatClampNeg ((g15_54 (l1_54 : Int32).toNatClampNeg) + 1)), (upd g16_54 ((l5_54 + (g15_54 (l1_54 : Int32).toNatClampNeg)) : Int32).toNatClampNeg l4_54), (upd g17_54 ((l5_54 + (g15_54 (l1_54 : Int32).toNatClampNeg)) : Int32).toNatClampNeg l2_54), ((x0_10_54 + 1) + 1), x0_11_54, x0_12_54)) else (some ((upd g15_54 (l1_54 : Int32).toNatClampNeg ((g15_54 (l1_54 : Int32).toNatClampNeg) + 1)), (upd g16_54 ((l5_54 + (g15_54 (l1_54 : Int32).toNatClampNeg)) : Int32).toNatClampNeg l4_54), (upd g17_54 ((l5_54 + (g15_54 (l1_54 : Int32).toNatClampNeg)) : Int32).toNatClampNeg l2_54), (x0_10_54 + 1), x0_11_54, x0_12_54))))))))))) else (if (l5_54 + l6_54) < 0 then none else if 576 ≤ ((l5_54 + l6_54) : Int32).toNatClampNeg then none else (if (g16_54 ((l5_54 + l6_54) : Int32).toNatClampNeg) = l4_54 then ((sp_t9_tell nf 4 l3_54 v0_3 x0_11_54 x0_12_54 f0_1).bind (fun p4 => (lp_t2_addParameter_54 nf n a1 v0_3 v0_10 v0_11 v0_12 f0_0 f0_2 f4 f0_1 f15 f16 f17 l1_54 l2_54 l3_54 l4_54 l5_54 (l6_54 + 1) g15_54 g16_54 g17_54 x0_10_54 p4.1 p4.2))) else (lp_t2_addParameter_54 nf n a1 v0_3 v0_10 v0_11 v0_12 f0_0 f0_2 f4 f0_1 f15 f16 f17 l1_54 l2_54 l3_54 l4_54 l5_54 (l6_54 + 1) g15_54 g16_54 g17_54 x0_10_54 x0_11_54 x0_12_54)))))
def sp_t2_addParameter (nf : Nat) (a1 : Int32) (v0_3 : Int32) (v0_10 : Int32) (v0_11 : Int32) (v0_12 : Int32) (f0_0 : Nat → Int32) (f0_2 : Nat → Int32) (f4 : Nat → Int32) (f0_1 : Nat → Int32) (f15 : Nat → Int32) (f16 : Nat → Int32) (f17 : Nat → Int32) : Option ((Nat → Int32) × (Nat → Int32) × (Nat → Int32) × Int32 × Int32 × Int32) := ((sp_t2_readType nf v0_3 v0_10 v0_11 v0_12 f0_0 f0_2 f4 f0_1).bind (fun p1 => ((sp_t9_valueAt nf p1.2.1 v0_3 f0_2).bind (fun p2 => (if a1 < 0 then none else if 96 ≤ (a1 : Int32).toNatClampNeg then none else (if (f15 (a1 : Int32).toNatClampNeg) < 6 then (lp_t2_addParameter_54 nf nf a1 v0_3 v0_10 v0_11 v0_12 f0_0 f0_2 f4 f0_1 f15 f16 f17 a1 p1.1 p1.2.1 p2 (a1 * 6) 0 f15 f16 f17 p1.2.1 p1.2.2.1 p1.2.2.2) else ((sp_t9_tell nf 11 p1.2.1 v0_3 p1.2.2.1 p1.2.2.2 f0_1).bind (fun p5 => (some (f15, f16, f17, p1.2.1, p5.1, p5.2))))))))))
