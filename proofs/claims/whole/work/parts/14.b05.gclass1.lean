set_option maxHeartbeats 4000000 in
set_option maxRecDepth 100000 in
/-- ClassMill$Machine.tellTop -/
theorem t5_tellTop (l : Launch) (dC : Nat → ClassId) (dI : Nat → Nat → Nat) (sz : Nat) (h0 : Nat) (a1 : Int32) (qf0 : Nat) (v1 : Int32) (v2 : Int32) (v3 : Int32) (v4 : Int32) (v5 : Int32) (v6 : Int32) (v7 : Int32) (qf8 : Nat) (qf9 : Nat) (qf10 : Nat) (qf11 : Nat) (qf12 : Nat) (qf13 : Nat) (qf14 : Nat) (qf15 : Nat) (qf16 : Nat) (v17 : Int32) (qf18 : Nat) (v19 : Int32) (v20 : Int32) (cf12 : ClassId) (f12 : (Nat → Int32)) (cf13 : ClassId) (f13 : (Nat → Int32)) (cf14 : ClassId) (f14 : (Nat → Int32)) (nf : Nat) (r0 : Int32) (hsp : sp_t5_tellTop nf a1 v1 v17 f12 f13 f14 = some r0) : Met l yX5_tellTop (.code yX5_tellTop cX5_tellTop 2 (some .int) :: VS_h3) ({ frames := 0, cells := 0, slots := 0, locals := 0 }) (va_Pc [.ref h0, .int a1] (fun U => U.heap.size = sz ∧ va_P (dC, dI) vwCl [(h0, .inr (5, [.ref qf0, .int v1, .int v2, .int v3, .int v4, .int v5, .int v6, .int v7, .ref qf8, .ref qf9, .ref qf10, .ref qf11, .ref qf12, .ref qf13, .ref qf14, .ref qf15, .ref qf16, .int v17, .ref qf18, .int v19, .int v20])), (qf12, .inl (cf12, 60, .inl f12)), (qf13, .inl (cf13, 60, .inl f13)), (qf14, .inl (cf14, 60, .inl f14))] U.heap ∧ va_K (dC, dI) vwCl [(cf12, .int), (cf13, .int), (cf14, .int)] U ∧ va_D (fun _ => True) [(h0, .inr (5, [.ref qf0, .int v1, .int v2, .int v3, .int v4, .int v5, .int v6, .int v7, .ref qf8, .ref qf9, .ref qf10, .ref qf11, .ref qf12, .ref qf13, .ref qf14, .ref qf15, .ref qf16, .int v17, .ref qf18, .int v19, .int v20])), (qf12, .inl (cf12, 60, .inl f12)), (qf13, .inl (cf13, 60, .inl f13)), (qf14, .inl (cf14, 60, .inl f14))])) (va_Qi (fun (r : Int32) (u : Unit) => match u with | () => r0 = r) (fun (u : Unit) (t : State) => match u with | () => va_P (dC, dI) vwCl [(h0, .inr (5, [.ref qf0, .int v1, .int v2, .int v3, .int v4, .int v5, .int v6, .int v7, .ref qf8, .ref qf9, .ref qf10, .ref qf11, .ref qf12, .ref qf13, .ref qf14, .ref qf15, .ref qf16, .int v17, .ref qf18, .int v19, .int v20])), (qf12, .inl (cf12, 60, .inl f12)), (qf13, .inl (cf13, 60, .inl f13)), (qf14, .inl (cf14, 60, .inl f14))] t.heap ∧ va_K (dC, dI) vwCl [(cf12, .int), (cf13, .int), (cf14, .int)] t ∧ va_D (va_A [(h0, .inr (5, [.ref qf0, .int v1, .int v2, .int v3, .int v4, .int v5, .int v6, .int v7, .ref qf8, .ref qf9, .ref qf10, .ref qf11, .ref qf12, .ref qf13, .ref qf14, .ref qf15, .ref qf16, .int v17, .ref qf18, .int v19, .int v20])), (qf12, .inl (cf12, 60, .inl f12)), (qf13, .inl (cf13, 60, .inl f13)), (qf14, .inl (cf14, 60, .inl f14))] sz) [(h0, .inr (5, [.ref qf0, .int v1, .int v2, .int v3, .int v4, .int v5, .int v6, .int v7, .ref qf8, .ref qf9, .ref qf10, .ref qf11, .ref qf12, .ref qf13, .ref qf14, .ref qf15, .ref qf16, .int v17, .ref qf18, .int v19, .int v20])), (qf12, .inl (cf12, 60, .inl f12)), (qf13, .inl (cf13, 60, .inl f13)), (qf14, .inl (cf14, 60, .inl f14))]) (va_A [(h0, .inr (5, [.ref qf0, .int v1, .int v2, .int v3, .int v4, .int v5, .int v6, .int v7, .ref qf8, .ref qf9, .ref qf10, .ref qf11, .ref qf12, .ref qf13, .ref qf14, .ref qf15, .ref qf16, .int v17, .ref qf18, .int v19, .int v20])), (qf12, .inl (cf12, 60, .inl f12)), (qf13, .inl (cf13, 60, .inl f13)), (qf14, .inl (cf14, 60, .inl f14))] sz)) 0 0 (va_A [(h0, .inr (5, [.ref qf0, .int v1, .int v2, .int v3, .int v4, .int v5, .int v6, .int v7, .ref qf8, .ref qf9, .ref qf10, .ref qf11, .ref qf12, .ref qf13, .ref qf14, .ref qf15, .ref qf16, .int v17, .ref qf18, .int v19, .int v20])), (qf12, .inl (cf12, 60, .inl f12)), (qf13, .inl (cf13, 60, .inl f13)), (qf14, .inl (cf14, 60, .inl f14))] sz) := by
  refine Met.ofW (cc := cX5_tellTop) (maxL := 2) (ret := (some .int)) (by decide) rfl ?_
  intro p e s m args below meth c s₁ B hml hv
  obtain ⟨rfl, hsz, hP, hK, hD0⟩ := hv
  have hx := B.exec
  have hb := B.bytes
  have hr := B.returns
  have hts := atoms_spec (ws := (.code yX5_tellTop cX5_tellTop 2 (some .int) :: VS_h3)) B.pre
  replace hts := fun w (h : w ∈ VS_h3) => hts w (List.mem_cons_of_mem _ h)
  have hown : s.vm.findClass RX5 = some m.cls := findClass_of_methodNamed B.named
  have hlocks := B.notSynchronized
  subst hsz
  have hD := hD0.self (sz := s.heap.size)
  generalize hAe : va_A [(h0, .inr (5, [.ref qf0, .int v1, .int v2, .int v3, .int v4, .int v5, .int v6, .int v7, .ref qf8, .ref qf9, .ref qf10, .ref qf11, .ref qf12, .ref qf13, .ref qf14, .ref qf15, .ref qf16, .int v17, .ref qf18, .int v19, .int v20])), (qf12, .inl (cf12, 60, .inl f12)), (qf13, .inl (cf13, 60, .inl f13)), (qf14, .inl (cf14, 60, .inl f14))] s.heap.size = A at hD  ⊢
  have hA : ∀ q : Nat, s.heap.size ≤ q → A q := fun q h => by rw [← hAe]; exact Or.inr h
  have hP : va_P (dC, dI) vwCl [(h0, .inr (5, [.ref qf0, .int v1, .int v2, .int v3, .int v4, .int v5, .int v6, .int v7, .ref qf8, .ref qf9, .ref qf10, .ref qf11, .ref qf12, .ref qf13, .ref qf14, .ref qf15, .ref qf16, .int v17, .ref qf18, .int v19, .int v20])), (qf12, .inl (cf12, 60, .inl f12)), (qf13, .inl (cf13, 60, .inl f13)), (qf14, .inl (cf14, 60, .inl f14))] s.heap := hP
  have hl := lv_entry ([.ref h0, .int a1]) (n := 2) (Nat.le_of_ble_eq_true rfl)
  rw [lg_entry_eq]
  generalize (lg_sl ([.ref h0, .int a1]) ++ List.replicate (2 - (lg_sl ([.ref h0, .int a1])).length) Slot.unset).toArray = ls at hl ⊢
  have hl : lv_has ls 2 [(0, .ref h0), (1, .int a1)] := hl
  obtain ⟨H, hH⟩ : ∃ H : Heap, s.heap = H := ⟨_, rfl⟩
  rw [hH] at hP ⊢
  have hS : va_S A s.heap H [] := by rw [← hH]; exact va_S.rf
  obtain ⟨locs, hlo⟩ : ∃ locs : List Loc, locs = [] := ⟨_, rfl⟩
  rw [← hlo] at hS ⊢
  unfold sp_t5_tellTop at hsp
  refine lv_aload_n hx hb dX5_tellTop_0 rfl (lv_at hl 0 rfl) ?_
  refine va_get (D := (dC, dI)) (ci := 5) (v := .int v1) (C := RX5) (T := TX5) (N := 21) hx hb hts uV_h3_X5 hown hK hP 0 rfl rfl 1 (by decide) (hts (.fieldLink RX5 54 "ClassMill$Machine" "state" "I") mw_h3_73) (fun _ h9 => h9) rfl dX5_tellTop_1 ?_
  refine lv_iconst (v := 1) hx hb dX5_tellTop_4 (by decide) ?_
  refine lv_icmp_eq (tgt := 10) hx hb dX5_tellTop_5 (by decide) (fun c_1 => ?_) (fun c_1 => ?_)
  · rw [if_pos c_1] at hsp
    refine lv_iload_n hx hb dX5_tellTop_10 rfl (lv_at hl 1 rfl) ?_
    by_cases hs_2 : a1 = 7
    · rw [if_pos hs_2] at hsp
      refine lv_tableIn (tgt := 40) hx hb dX5_tellTop_11 (by rw [hs_2]; decide) (by rw [hs_2]; decide) (off := 29) (by rw [hs_2]; rfl) (by decide) ?_
      refine lv_bipush (v := 8) hx hb dX5_tellTop_40 (by decide) ?_
      refine lv_aload_n hx hb dX5_tellTop_42 rfl (lv_at hl 0 rfl) ?_
      refine va_get (D := (dC, dI)) (ci := 5) (v := .ref qf12) (C := RX5) (T := TX5) (N := 21) hx hb hts uV_h3_X5 hown hK hP 0 rfl rfl 12 (by decide) (hts (.fieldLink RX5 26 "ClassMill$Machine" "methods" "[I") mw_h3_85) (fun _ h9 => h9) rfl dX5_tellTop_43 ?_
      refine lv_aload_n hx hb dX5_tellTop_46 rfl (lv_at hl 0 rfl) ?_
      refine va_get (D := (dC, dI)) (ci := 5) (v := .int v17) (C := RX5) (T := TX5) (N := 21) hx hb hts uV_h3_X5 hown hK hP 0 rfl rfl 17 (by decide) (hts (.fieldLink RX5 97 "ClassMill$Machine" "top" "I") mw_h3_86) (fun _ h9 => h9) rfl dX5_tellTop_47 ?_
      obtain ⟨hi_3, hsp⟩ := ox_in hsp
      refine va_iald hx hb hK hP 1 0 rfl rfl (i := v17) hi_3 dX5_tellTop_50 ?_
      refine lv_bipush (v := 12) hx hb dX5_tellTop_51 (by decide) ?_
      refine lv_idiv hx hb dX5_tellTop_53 (by decide) ?_
      refine lv_iadd hx hb dX5_tellTop_54 ?_
      have hr0 := Option.some.inj hsp
      clear hsp
      subst hr0
      have hP9 := hP.sub (ws' := [(h0, .inr (5, [.ref qf0, .int v1, .int v2, .int v3, .int v4, .int v5, .int v6, .int v7, .ref qf8, .ref qf9, .ref qf10, .ref qf11, .ref qf12, .ref qf13, .ref qf14, .ref qf15, .ref qf16, .int v17, .ref qf18, .int v19, .int v20])), (qf12, .inl (cf12, 60, .inl f12)), (qf13, .inl (cf13, 60, .inl f13)), (qf14, .inl (cf14, 60, .inl f14))]) [0, 1, 2, 3] rfl
      have hD9 := hD.sub (ws' := [(h0, .inr (5, [.ref qf0, .int v1, .int v2, .int v3, .int v4, .int v5, .int v6, .int v7, .ref qf8, .ref qf9, .ref qf10, .ref qf11, .ref qf12, .ref qf13, .ref qf14, .ref qf15, .ref qf16, .int v17, .ref qf18, .int v19, .int v20])), (qf12, .inl (cf12, 60, .inl f12)), (qf13, .inl (cf13, 60, .inl f13)), (qf14, .inl (cf14, 60, .inl f14))]) [0, 1, 2, 3] (by decide) rfl
      have hK9 := hK.sub (tys' := [(cf12, .int), (cf13, .int), (cf14, .int)]) [0, 1, 2] rfl
      exact W.iret hx hb hr (fun t ht hW => ⟨⟨((8 + ((f12 (v17 : Int32).toNatClampNeg) / 12))), (), rfl, rfl, by rw [ht]; exact hP9, va_K.moved hW.alike hK9, hD9⟩, hS.F ht⟩) hS.2.2 dX5_tellTop_55
    rw [if_neg hs_2] at hsp
    by_cases hs_4 : a1 = 8
    · rw [if_pos hs_4] at hsp
      refine lv_tableIn (tgt := 56) hx hb dX5_tellTop_11 (by rw [hs_4]; decide) (by rw [hs_4]; decide) (off := 45) (by rw [hs_4]; rfl) (by decide) ?_
      refine lv_aload_n hx hb dX5_tellTop_56 rfl (lv_at hl 0 rfl) ?_
      refine va_get (D := (dC, dI)) (ci := 5) (v := .ref qf12) (C := RX5) (T := TX5) (N := 21) hx hb hts uV_h3_X5 hown hK hP 0 rfl rfl 12 (by decide) (hts (.fieldLink RX5 26 "ClassMill$Machine" "methods" "[I") mw_h3_85) (fun _ h9 => h9) rfl dX5_tellTop_57 ?_
      refine lv_aload_n hx hb dX5_tellTop_60 rfl (lv_at hl 0 rfl) ?_
      refine va_get (D := (dC, dI)) (ci := 5) (v := .int v17) (C := RX5) (T := TX5) (N := 21) hx hb hts uV_h3_X5 hown hK hP 0 rfl rfl 17 (by decide) (hts (.fieldLink RX5 97 "ClassMill$Machine" "top" "I") mw_h3_86) (fun _ h9 => h9) rfl dX5_tellTop_61 ?_
      obtain ⟨hi_5, hsp⟩ := ox_in hsp
      refine va_iald hx hb hK hP 1 0 rfl rfl (i := v17) hi_5 dX5_tellTop_64 ?_
      refine lv_bipush (v := 12) hx hb dX5_tellTop_65 (by decide) ?_
      refine lv_irem hx hb dX5_tellTop_67 (by decide) ?_
      have hr0 := Option.some.inj hsp
      clear hsp
      subst hr0
      have hP9 := hP.sub (ws' := [(h0, .inr (5, [.ref qf0, .int v1, .int v2, .int v3, .int v4, .int v5, .int v6, .int v7, .ref qf8, .ref qf9, .ref qf10, .ref qf11, .ref qf12, .ref qf13, .ref qf14, .ref qf15, .ref qf16, .int v17, .ref qf18, .int v19, .int v20])), (qf12, .inl (cf12, 60, .inl f12)), (qf13, .inl (cf13, 60, .inl f13)), (qf14, .inl (cf14, 60, .inl f14))]) [0, 1, 2, 3] rfl
      have hD9 := hD.sub (ws' := [(h0, .inr (5, [.ref qf0, .int v1, .int v2, .int v3, .int v4, .int v5, .int v6, .int v7, .ref qf8, .ref qf9, .ref qf10, .ref qf11, .ref qf12, .ref qf13, .ref qf14, .ref qf15, .ref qf16, .int v17, .ref qf18, .int v19, .int v20])), (qf12, .inl (cf12, 60, .inl f12)), (qf13, .inl (cf13, 60, .inl f13)), (qf14, .inl (cf14, 60, .inl f14))]) [0, 1, 2, 3] (by decide) rfl
      have hK9 := hK.sub (tys' := [(cf12, .int), (cf13, .int), (cf14, .int)]) [0, 1, 2] rfl
      exact W.iret hx hb hr (fun t ht hW => ⟨⟨(((f12 (v17 : Int32).toNatClampNeg) - (f12 (v17 : Int32).toNatClampNeg) / 12 * 12)), (), rfl, rfl, by rw [ht]; exact hP9, va_K.moved hW.alike hK9, hD9⟩, hS.F ht⟩) hS.2.2 dX5_tellTop_68
    rw [if_neg hs_4] at hsp
    by_cases hs_6 : a1 = 9
    · rw [if_pos hs_6] at hsp
      refine lv_tableIn (tgt := 69) hx hb dX5_tellTop_11 (by rw [hs_6]; decide) (by rw [hs_6]; decide) (off := 58) (by rw [hs_6]; rfl) (by decide) ?_
      refine lv_aload_n hx hb dX5_tellTop_69 rfl (lv_at hl 0 rfl) ?_
      refine va_get (D := (dC, dI)) (ci := 5) (v := .ref qf13) (C := RX5) (T := TX5) (N := 21) hx hb hts uV_h3_X5 hown hK hP 0 rfl rfl 13 (by decide) (hts (.fieldLink RX5 29 "ClassMill$Machine" "places" "[I") mw_h3_87) (fun _ h9 => h9) rfl dX5_tellTop_70 ?_
      refine lv_aload_n hx hb dX5_tellTop_73 rfl (lv_at hl 0 rfl) ?_
      refine va_get (D := (dC, dI)) (ci := 5) (v := .int v17) (C := RX5) (T := TX5) (N := 21) hx hb hts uV_h3_X5 hown hK hP 0 rfl rfl 17 (by decide) (hts (.fieldLink RX5 97 "ClassMill$Machine" "top" "I") mw_h3_86) (fun _ h9 => h9) rfl dX5_tellTop_74 ?_
      obtain ⟨hi_7, hsp⟩ := ox_in hsp
      refine va_iald hx hb hK hP 2 1 rfl rfl (i := v17) hi_7 dX5_tellTop_77 ?_
      have hr0 := Option.some.inj hsp
      clear hsp
      subst hr0
      have hP9 := hP.sub (ws' := [(h0, .inr (5, [.ref qf0, .int v1, .int v2, .int v3, .int v4, .int v5, .int v6, .int v7, .ref qf8, .ref qf9, .ref qf10, .ref qf11, .ref qf12, .ref qf13, .ref qf14, .ref qf15, .ref qf16, .int v17, .ref qf18, .int v19, .int v20])), (qf12, .inl (cf12, 60, .inl f12)), (qf13, .inl (cf13, 60, .inl f13)), (qf14, .inl (cf14, 60, .inl f14))]) [0, 1, 2, 3] rfl
      have hD9 := hD.sub (ws' := [(h0, .inr (5, [.ref qf0, .int v1, .int v2, .int v3, .int v4, .int v5, .int v6, .int v7, .ref qf8, .ref qf9, .ref qf10, .ref qf11, .ref qf12, .ref qf13, .ref qf14, .ref qf15, .ref qf16, .int v17, .ref qf18, .int v19, .int v20])), (qf12, .inl (cf12, 60, .inl f12)), (qf13, .inl (cf13, 60, .inl f13)), (qf14, .inl (cf14, 60, .inl f14))]) [0, 1, 2, 3] (by decide) rfl
      have hK9 := hK.sub (tys' := [(cf12, .int), (cf13, .int), (cf14, .int)]) [0, 1, 2] rfl
      exact W.iret hx hb hr (fun t ht hW => ⟨⟨((f13 (v17 : Int32).toNatClampNeg)), (), rfl, rfl, by rw [ht]; exact hP9, va_K.moved hW.alike hK9, hD9⟩, hS.F ht⟩) hS.2.2 dX5_tellTop_78
    rw [if_neg hs_6] at hsp
    by_cases hs_8 : a1 = 10
    · rw [if_pos hs_8] at hsp
      refine lv_tableIn (tgt := 79) hx hb dX5_tellTop_11 (by rw [hs_8]; decide) (by rw [hs_8]; decide) (off := 68) (by rw [hs_8]; rfl) (by decide) ?_
      refine lv_aload_n hx hb dX5_tellTop_79 rfl (lv_at hl 0 rfl) ?_
      refine va_get (D := (dC, dI)) (ci := 5) (v := .ref qf14) (C := RX5) (T := TX5) (N := 21) hx hb hts uV_h3_X5 hown hK hP 0 rfl rfl 14 (by decide) (hts (.fieldLink RX5 32 "ClassMill$Machine" "heights" "[I") mw_h3_88) (fun _ h9 => h9) rfl dX5_tellTop_80 ?_
      refine lv_aload_n hx hb dX5_tellTop_83 rfl (lv_at hl 0 rfl) ?_
      refine va_get (D := (dC, dI)) (ci := 5) (v := .int v17) (C := RX5) (T := TX5) (N := 21) hx hb hts uV_h3_X5 hown hK hP 0 rfl rfl 17 (by decide) (hts (.fieldLink RX5 97 "ClassMill$Machine" "top" "I") mw_h3_86) (fun _ h9 => h9) rfl dX5_tellTop_84 ?_
      obtain ⟨hi_9, hsp⟩ := ox_in hsp
      refine va_iald hx hb hK hP 3 2 rfl rfl (i := v17) hi_9 dX5_tellTop_87 ?_
      have hr0 := Option.some.inj hsp
      clear hsp
      subst hr0
      have hP9 := hP.sub (ws' := [(h0, .inr (5, [.ref qf0, .int v1, .int v2, .int v3, .int v4, .int v5, .int v6, .int v7, .ref qf8, .ref qf9, .ref qf10, .ref qf11, .ref qf12, .ref qf13, .ref qf14, .ref qf15, .ref qf16, .int v17, .ref qf18, .int v19, .int v20])), (qf12, .inl (cf12, 60, .inl f12)), (qf13, .inl (cf13, 60, .inl f13)), (qf14, .inl (cf14, 60, .inl f14))]) [0, 1, 2, 3] rfl
      have hD9 := hD.sub (ws' := [(h0, .inr (5, [.ref qf0, .int v1, .int v2, .int v3, .int v4, .int v5, .int v6, .int v7, .ref qf8, .ref qf9, .ref qf10, .ref qf11, .ref qf12, .ref qf13, .ref qf14, .ref qf15, .ref qf16, .int v17, .ref qf18, .int v19, .int v20])), (qf12, .inl (cf12, 60, .inl f12)), (qf13, .inl (cf13, 60, .inl f13)), (qf14, .inl (cf14, 60, .inl f14))]) [0, 1, 2, 3] (by decide) rfl
      have hK9 := hK.sub (tys' := [(cf12, .int), (cf13, .int), (cf14, .int)]) [0, 1, 2] rfl
      exact W.iret hx hb hr (fun t ht hW => ⟨⟨((f14 (v17 : Int32).toNatClampNeg)), (), rfl, rfl, by rw [ht]; exact hP9, va_K.moved hW.alike hK9, hD9⟩, hS.F ht⟩) hS.2.2 dX5_tellTop_88
    rw [if_neg hs_8] at hsp
    refine lv_tableOut (tgt := 89) hx hb dX5_tellTop_11 (by have a0 := lv_neT hs_2 (a := 7) rfl; have a1 := lv_neT hs_4 (a := 8) rfl; have a2 := lv_neT hs_6 (a := 9) rfl; have a3 := lv_neT hs_8 (a := 10) rfl; omega) (by decide) ?_
    refine lv_iconst (v := (-1)) hx hb dX5_tellTop_89 (by decide) ?_
    have hr0 := Option.some.inj hsp
    clear hsp
    subst hr0
    have hP9 := hP.sub (ws' := [(h0, .inr (5, [.ref qf0, .int v1, .int v2, .int v3, .int v4, .int v5, .int v6, .int v7, .ref qf8, .ref qf9, .ref qf10, .ref qf11, .ref qf12, .ref qf13, .ref qf14, .ref qf15, .ref qf16, .int v17, .ref qf18, .int v19, .int v20])), (qf12, .inl (cf12, 60, .inl f12)), (qf13, .inl (cf13, 60, .inl f13)), (qf14, .inl (cf14, 60, .inl f14))]) [0, 1, 2, 3] rfl
    have hD9 := hD.sub (ws' := [(h0, .inr (5, [.ref qf0, .int v1, .int v2, .int v3, .int v4, .int v5, .int v6, .int v7, .ref qf8, .ref qf9, .ref qf10, .ref qf11, .ref qf12, .ref qf13, .ref qf14, .ref qf15, .ref qf16, .int v17, .ref qf18, .int v19, .int v20])), (qf12, .inl (cf12, 60, .inl f12)), (qf13, .inl (cf13, 60, .inl f13)), (qf14, .inl (cf14, 60, .inl f14))]) [0, 1, 2, 3] (by decide) rfl
    have hK9 := hK.sub (tys' := [(cf12, .int), (cf13, .int), (cf14, .int)]) [0, 1, 2] rfl
    exact W.iret hx hb hr (fun t ht hW => ⟨⟨((-1)), (), rfl, rfl, by rw [ht]; exact hP9, va_K.moved hW.alike hK9, hD9⟩, hS.F ht⟩) hS.2.2 dX5_tellTop_90
  · rw [if_neg c_1] at hsp
    refine lv_iconst (v := (-1)) hx hb dX5_tellTop_8 (by decide) ?_
    have hr0 := Option.some.inj hsp
    clear hsp
    subst hr0
    have hP9 := hP.sub (ws' := [(h0, .inr (5, [.ref qf0, .int v1, .int v2, .int v3, .int v4, .int v5, .int v6, .int v7, .ref qf8, .ref qf9, .ref qf10, .ref qf11, .ref qf12, .ref qf13, .ref qf14, .ref qf15, .ref qf16, .int v17, .ref qf18, .int v19, .int v20])), (qf12, .inl (cf12, 60, .inl f12)), (qf13, .inl (cf13, 60, .inl f13)), (qf14, .inl (cf14, 60, .inl f14))]) [0, 1, 2, 3] rfl
    have hD9 := hD.sub (ws' := [(h0, .inr (5, [.ref qf0, .int v1, .int v2, .int v3, .int v4, .int v5, .int v6, .int v7, .ref qf8, .ref qf9, .ref qf10, .ref qf11, .ref qf12, .ref qf13, .ref qf14, .ref qf15, .ref qf16, .int v17, .ref qf18, .int v19, .int v20])), (qf12, .inl (cf12, 60, .inl f12)), (qf13, .inl (cf13, 60, .inl f13)), (qf14, .inl (cf14, 60, .inl f14))]) [0, 1, 2, 3] (by decide) rfl
    have hK9 := hK.sub (tys' := [(cf12, .int), (cf13, .int), (cf14, .int)]) [0, 1, 2] rfl
    exact W.iret hx hb hr (fun t ht hW => ⟨⟨((-1)), (), rfl, rfl, by rw [ht]; exact hP9, va_K.moved hW.alike hK9, hD9⟩, hS.F ht⟩) hS.2.2 dX5_tellTop_9
def sp_t5_printedAt (nf : Nat) (a1 : Int32) (v7 : Int32) (f8 : Nat → Int32) : Option (Int32) := (if a1 < 0 then (some 0) else (if v7 ≤ a1 then (some 0) else (if 1000 ≤ a1 then (some 0) else (if a1 < 0 then none else if 1000 ≤ (a1 : Int32).toNatClampNeg then none else (some (f8 (a1 : Int32).toNatClampNeg))))))
set_option maxHeartbeats 4000000 in
set_option maxRecDepth 100000 in
/-- ClassMill$Machine.printedAt -/
theorem t5_printedAt (l : Launch) (dC : Nat → ClassId) (dI : Nat → Nat → Nat) (sz : Nat) (h0 : Nat) (a1 : Int32) (qf0 : Nat) (v1 : Int32) (v2 : Int32) (v3 : Int32) (v4 : Int32) (v5 : Int32) (v6 : Int32) (v7 : Int32) (qf8 : Nat) (qf9 : Nat) (qf10 : Nat) (qf11 : Nat) (qf12 : Nat) (qf13 : Nat) (qf14 : Nat) (qf15 : Nat) (qf16 : Nat) (v17 : Int32) (qf18 : Nat) (v19 : Int32) (v20 : Int32) (cf8 : ClassId) (f8 : (Nat → Int32)) (nf : Nat) (r0 : Int32) (hsp : sp_t5_printedAt nf a1 v7 f8 = some r0) : Met l yX5_printedAt (.code yX5_printedAt cX5_printedAt 2 (some .int) :: VS_h3) ({ frames := 0, cells := 0, slots := 0, locals := 0 }) (va_Pc [.ref h0, .int a1] (fun U => U.heap.size = sz ∧ va_P (dC, dI) vwCl [(h0, .inr (5, [.ref qf0, .int v1, .int v2, .int v3, .int v4, .int v5, .int v6, .int v7, .ref qf8, .ref qf9, .ref qf10, .ref qf11, .ref qf12, .ref qf13, .ref qf14, .ref qf15, .ref qf16, .int v17, .ref qf18, .int v19, .int v20])), (qf8, .inl (cf8, 1000, .inl f8))] U.heap ∧ va_K (dC, dI) vwCl [(cf8, .int)] U ∧ va_D (fun _ => True) [(h0, .inr (5, [.ref qf0, .int v1, .int v2, .int v3, .int v4, .int v5, .int v6, .int v7, .ref qf8, .ref qf9, .ref qf10, .ref qf11, .ref qf12, .ref qf13, .ref qf14, .ref qf15, .ref qf16, .int v17, .ref qf18, .int v19, .int v20])), (qf8, .inl (cf8, 1000, .inl f8))])) (va_Qi (fun (r : Int32) (u : Unit) => match u with | () => r0 = r) (fun (u : Unit) (t : State) => match u with | () => va_P (dC, dI) vwCl [(h0, .inr (5, [.ref qf0, .int v1, .int v2, .int v3, .int v4, .int v5, .int v6, .int v7, .ref qf8, .ref qf9, .ref qf10, .ref qf11, .ref qf12, .ref qf13, .ref qf14, .ref qf15, .ref qf16, .int v17, .ref qf18, .int v19, .int v20])), (qf8, .inl (cf8, 1000, .inl f8))] t.heap ∧ va_K (dC, dI) vwCl [(cf8, .int)] t ∧ va_D (va_A [(h0, .inr (5, [.ref qf0, .int v1, .int v2, .int v3, .int v4, .int v5, .int v6, .int v7, .ref qf8, .ref qf9, .ref qf10, .ref qf11, .ref qf12, .ref qf13, .ref qf14, .ref qf15, .ref qf16, .int v17, .ref qf18, .int v19, .int v20])), (qf8, .inl (cf8, 1000, .inl f8))] sz) [(h0, .inr (5, [.ref qf0, .int v1, .int v2, .int v3, .int v4, .int v5, .int v6, .int v7, .ref qf8, .ref qf9, .ref qf10, .ref qf11, .ref qf12, .ref qf13, .ref qf14, .ref qf15, .ref qf16, .int v17, .ref qf18, .int v19, .int v20])), (qf8, .inl (cf8, 1000, .inl f8))]) (va_A [(h0, .inr (5, [.ref qf0, .int v1, .int v2, .int v3, .int v4, .int v5, .int v6, .int v7, .ref qf8, .ref qf9, .ref qf10, .ref qf11, .ref qf12, .ref qf13, .ref qf14, .ref qf15, .ref qf16, .int v17, .ref qf18, .int v19, .int v20])), (qf8, .inl (cf8, 1000, .inl f8))] sz)) 0 0 (va_A [(h0, .inr (5, [.ref qf0, .int v1, .int v2, .int v3, .int v4, .int v5, .int v6, .int v7, .ref qf8, .ref qf9, .ref qf10, .ref qf11, .ref qf12, .ref qf13, .ref qf14, .ref qf15, .ref qf16, .int v17, .ref qf18, .int v19, .int v20])), (qf8, .inl (cf8, 1000, .inl f8))] sz) := by
  refine Met.ofW (cc := cX5_printedAt) (maxL := 2) (ret := (some .int)) (by decide) rfl ?_
  intro p e s m args below meth c s₁ B hml hv
  obtain ⟨rfl, hsz, hP, hK, hD0⟩ := hv
  have hx := B.exec
  have hb := B.bytes
  have hr := B.returns
  have hts := atoms_spec (ws := (.code yX5_printedAt cX5_printedAt 2 (some .int) :: VS_h3)) B.pre
  replace hts := fun w (h : w ∈ VS_h3) => hts w (List.mem_cons_of_mem _ h)
  have hown : s.vm.findClass RX5 = some m.cls := findClass_of_methodNamed B.named
  have hlocks := B.notSynchronized
  subst hsz
  have hD := hD0.self (sz := s.heap.size)
  generalize hAe : va_A [(h0, .inr (5, [.ref qf0, .int v1, .int v2, .int v3, .int v4, .int v5, .int v6, .int v7, .ref qf8, .ref qf9, .ref qf10, .ref qf11, .ref qf12, .ref qf13, .ref qf14, .ref qf15, .ref qf16, .int v17, .ref qf18, .int v19, .int v20])), (qf8, .inl (cf8, 1000, .inl f8))] s.heap.size = A at hD  ⊢
  have hA : ∀ q : Nat, s.heap.size ≤ q → A q := fun q h => by rw [← hAe]; exact Or.inr h
  have hP : va_P (dC, dI) vwCl [(h0, .inr (5, [.ref qf0, .int v1, .int v2, .int v3, .int v4, .int v5, .int v6, .int v7, .ref qf8, .ref qf9, .ref qf10, .ref qf11, .ref qf12, .ref qf13, .ref qf14, .ref qf15, .ref qf16, .int v17, .ref qf18, .int v19, .int v20])), (qf8, .inl (cf8, 1000, .inl f8))] s.heap := hP
  have hl := lv_entry ([.ref h0, .int a1]) (n := 2) (Nat.le_of_ble_eq_true rfl)
  rw [lg_entry_eq]
  generalize (lg_sl ([.ref h0, .int a1]) ++ List.replicate (2 - (lg_sl ([.ref h0, .int a1])).length) Slot.unset).toArray = ls at hl ⊢
  have hl : lv_has ls 2 [(0, .ref h0), (1, .int a1)] := hl
  obtain ⟨H, hH⟩ : ∃ H : Heap, s.heap = H := ⟨_, rfl⟩
  rw [hH] at hP ⊢
  have hS : va_S A s.heap H [] := by rw [← hH]; exact va_S.rf
  obtain ⟨locs, hlo⟩ : ∃ locs : List Loc, locs = [] := ⟨_, rfl⟩
  rw [← hlo] at hS ⊢
  unfold sp_t5_printedAt at hsp
  refine lv_iload_n hx hb dX5_printedAt_0 rfl (lv_at hl 1 rfl) ?_
  refine lv_if_lt (tgt := 28) hx hb dX5_printedAt_1 (by decide) (fun c_1 => ?_) (fun c_1 => ?_)
  · rw [if_pos c_1] at hsp
    refine lv_iconst (v := 0) hx hb dX5_printedAt_28 (by decide) ?_
    have hr0 := Option.some.inj hsp
    clear hsp
    subst hr0
    have hP9 := hP.sub (ws' := [(h0, .inr (5, [.ref qf0, .int v1, .int v2, .int v3, .int v4, .int v5, .int v6, .int v7, .ref qf8, .ref qf9, .ref qf10, .ref qf11, .ref qf12, .ref qf13, .ref qf14, .ref qf15, .ref qf16, .int v17, .ref qf18, .int v19, .int v20])), (qf8, .inl (cf8, 1000, .inl f8))]) [0, 1] rfl
    have hD9 := hD.sub (ws' := [(h0, .inr (5, [.ref qf0, .int v1, .int v2, .int v3, .int v4, .int v5, .int v6, .int v7, .ref qf8, .ref qf9, .ref qf10, .ref qf11, .ref qf12, .ref qf13, .ref qf14, .ref qf15, .ref qf16, .int v17, .ref qf18, .int v19, .int v20])), (qf8, .inl (cf8, 1000, .inl f8))]) [0, 1] (by decide) rfl
    have hK9 := hK.sub (tys' := [(cf8, .int)]) [0] rfl
    exact W.iret hx hb hr (fun t ht hW => ⟨⟨(0), (), rfl, rfl, by rw [ht]; exact hP9, va_K.moved hW.alike hK9, hD9⟩, hS.F ht⟩) hS.2.2 dX5_printedAt_29
  · rw [if_neg c_1] at hsp
    refine lv_iload_n hx hb dX5_printedAt_4 rfl (lv_at hl 1 rfl) ?_
    refine lv_aload_n hx hb dX5_printedAt_5 rfl (lv_at hl 0 rfl) ?_
    refine va_get (D := (dC, dI)) (ci := 5) (v := .int v7) (C := RX5) (T := TX5) (N := 21) hx hb hts uV_h3_X5 hown hK hP 0 rfl rfl 7 (by decide) (hts (.fieldLink RX5 69 "ClassMill$Machine" "prints" "I") mw_h3_79) (fun _ h9 => h9) rfl dX5_printedAt_6 ?_
    refine lv_icmp_ge (tgt := 28) hx hb dX5_printedAt_9 (by decide) (fun c_2 => ?_) (fun c_2 => ?_)
    · rw [if_pos c_2] at hsp
      refine lv_iconst (v := 0) hx hb dX5_printedAt_28 (by decide) ?_
      have hr0 := Option.some.inj hsp
      clear hsp
      subst hr0
      have hP9 := hP.sub (ws' := [(h0, .inr (5, [.ref qf0, .int v1, .int v2, .int v3, .int v4, .int v5, .int v6, .int v7, .ref qf8, .ref qf9, .ref qf10, .ref qf11, .ref qf12, .ref qf13, .ref qf14, .ref qf15, .ref qf16, .int v17, .ref qf18, .int v19, .int v20])), (qf8, .inl (cf8, 1000, .inl f8))]) [0, 1] rfl
      have hD9 := hD.sub (ws' := [(h0, .inr (5, [.ref qf0, .int v1, .int v2, .int v3, .int v4, .int v5, .int v6, .int v7, .ref qf8, .ref qf9, .ref qf10, .ref qf11, .ref qf12, .ref qf13, .ref qf14, .ref qf15, .ref qf16, .int v17, .ref qf18, .int v19, .int v20])), (qf8, .inl (cf8, 1000, .inl f8))]) [0, 1] (by decide) rfl
      have hK9 := hK.sub (tys' := [(cf8, .int)]) [0] rfl
      exact W.iret hx hb hr (fun t ht hW => ⟨⟨(0), (), rfl, rfl, by rw [ht]; exact hP9, va_K.moved hW.alike hK9, hD9⟩, hS.F ht⟩) hS.2.2 dX5_printedAt_29
    · rw [if_neg c_2] at hsp
      refine lv_iload_n hx hb dX5_printedAt_12 rfl (lv_at hl 1 rfl) ?_
      refine lv_sipush (v := 1000) hx hb dX5_printedAt_13 (by decide) ?_
      refine lv_icmp_ge (tgt := 28) hx hb dX5_printedAt_16 (by decide) (fun c_3 => ?_) (fun c_3 => ?_)
      · rw [if_pos c_3] at hsp
        refine lv_iconst (v := 0) hx hb dX5_printedAt_28 (by decide) ?_
        have hr0 := Option.some.inj hsp
        clear hsp
        subst hr0
        have hP9 := hP.sub (ws' := [(h0, .inr (5, [.ref qf0, .int v1, .int v2, .int v3, .int v4, .int v5, .int v6, .int v7, .ref qf8, .ref qf9, .ref qf10, .ref qf11, .ref qf12, .ref qf13, .ref qf14, .ref qf15, .ref qf16, .int v17, .ref qf18, .int v19, .int v20])), (qf8, .inl (cf8, 1000, .inl f8))]) [0, 1] rfl
        have hD9 := hD.sub (ws' := [(h0, .inr (5, [.ref qf0, .int v1, .int v2, .int v3, .int v4, .int v5, .int v6, .int v7, .ref qf8, .ref qf9, .ref qf10, .ref qf11, .ref qf12, .ref qf13, .ref qf14, .ref qf15, .ref qf16, .int v17, .ref qf18, .int v19, .int v20])), (qf8, .inl (cf8, 1000, .inl f8))]) [0, 1] (by decide) rfl
        have hK9 := hK.sub (tys' := [(cf8, .int)]) [0] rfl
        exact W.iret hx hb hr (fun t ht hW => ⟨⟨(0), (), rfl, rfl, by rw [ht]; exact hP9, va_K.moved hW.alike hK9, hD9⟩, hS.F ht⟩) hS.2.2 dX5_printedAt_29
      · rw [if_neg c_3] at hsp
        refine lv_aload_n hx hb dX5_printedAt_19 rfl (lv_at hl 0 rfl) ?_
        refine va_get (D := (dC, dI)) (ci := 5) (v := .ref qf8) (C := RX5) (T := TX5) (N := 21) hx hb hts uV_h3_X5 hown hK hP 0 rfl rfl 8 (by decide) (hts (.fieldLink RX5 13 "ClassMill$Machine" "printed" "[I") mw_h3_89) (fun _ h9 => h9) rfl dX5_printedAt_20 ?_
        refine lv_iload_n hx hb dX5_printedAt_23 rfl (lv_at hl 1 rfl) ?_
        obtain ⟨hi_4, hsp⟩ := ox_in hsp
        refine va_iald hx hb hK hP 1 0 rfl rfl (i := a1) hi_4 dX5_printedAt_24 ?_
        refine lv_goto (tgt := 29) hx hb dX5_printedAt_25 (by decide) ?_
        have hr0 := Option.some.inj hsp
        clear hsp
        subst hr0
        have hP9 := hP.sub (ws' := [(h0, .inr (5, [.ref qf0, .int v1, .int v2, .int v3, .int v4, .int v5, .int v6, .int v7, .ref qf8, .ref qf9, .ref qf10, .ref qf11, .ref qf12, .ref qf13, .ref qf14, .ref qf15, .ref qf16, .int v17, .ref qf18, .int v19, .int v20])), (qf8, .inl (cf8, 1000, .inl f8))]) [0, 1] rfl
        have hD9 := hD.sub (ws' := [(h0, .inr (5, [.ref qf0, .int v1, .int v2, .int v3, .int v4, .int v5, .int v6, .int v7, .ref qf8, .ref qf9, .ref qf10, .ref qf11, .ref qf12, .ref qf13, .ref qf14, .ref qf15, .ref qf16, .int v17, .ref qf18, .int v19, .int v20])), (qf8, .inl (cf8, 1000, .inl f8))]) [0, 1] (by decide) rfl
        have hK9 := hK.sub (tys' := [(cf8, .int)]) [0] rfl
        exact W.iret hx hb hr (fun t ht hW => ⟨⟨((f8 (a1 : Int32).toNatClampNeg)), (), rfl, rfl, by rw [ht]; exact hP9, va_K.moved hW.alike hK9, hD9⟩, hS.F ht⟩) hS.2.2 dX5_printedAt_29
def sp_t5_push (nf : Nat) (a1 : Int32) (v1 : Int32) (v17 : Int32) (f14 : Nat → Int32) (f16 : Nat → Int32) : Option ((Nat → Int32) × (Nat → Int32) × Int32) := (if v17 < 0 then none else if 60 ≤ (v17 : Int32).toNatClampNeg then none else (if (f14 (v17 : Int32).toNatClampNeg) < 30 then (if ((v17 * 30) + (f14 (v17 : Int32).toNatClampNeg)) < 0 then none else if 1800 ≤ (((v17 * 30) + (f14 (v17 : Int32).toNatClampNeg)) : Int32).toNatClampNeg then none else (if v17 < 0 then none else if 60 ≤ (v17 : Int32).toNatClampNeg then none else (some ((upd f14 (v17 : Int32).toNatClampNeg ((f14 (v17 : Int32).toNatClampNeg) + 1)), (upd f16 (((v17 * 30) + (f14 (v17 : Int32).toNatClampNeg)) : Int32).toNatClampNeg a1), v1)))) else (some (f14, f16, 6))))
set_option maxHeartbeats 4000000 in
set_option maxRecDepth 100000 in
/-- ClassMill$Machine.push -/
theorem t5_push (l : Launch) (dC : Nat → ClassId) (dI : Nat → Nat → Nat) (sz : Nat) (h0 : Nat) (a1 : Int32) (qf0 : Nat) (v1 : Int32) (v2 : Int32) (v3 : Int32) (v4 : Int32) (v5 : Int32) (v6 : Int32) (v7 : Int32) (qf8 : Nat) (qf9 : Nat) (qf10 : Nat) (qf11 : Nat) (qf12 : Nat) (qf13 : Nat) (qf14 : Nat) (qf15 : Nat) (qf16 : Nat) (v17 : Int32) (qf18 : Nat) (v19 : Int32) (v20 : Int32) (cf14 : ClassId) (f14 : (Nat → Int32)) (cf16 : ClassId) (f16 : (Nat → Int32)) (nf : Nat) (o14 : (Nat → Int32)) (o16 : (Nat → Int32)) (w1 : Int32) (hsp : sp_t5_push nf a1 v1 v17 f14 f16 = some (o14, o16, w1)) : Met l yX5_push (.code yX5_push cX5_push 3 none :: VS_h3) ({ frames := 0, cells := 0, slots := 0, locals := 0 }) (va_Pc [.ref h0, .int a1] (fun U => U.heap.size = sz ∧ va_P (dC, dI) vwCl [(h0, .inr (5, [.ref qf0, .int v1, .int v2, .int v3, .int v4, .int v5, .int v6, .int v7, .ref qf8, .ref qf9, .ref qf10, .ref qf11, .ref qf12, .ref qf13, .ref qf14, .ref qf15, .ref qf16, .int v17, .ref qf18, .int v19, .int v20])), (qf14, .inl (cf14, 60, .inl f14)), (qf16, .inl (cf16, 1800, .inl f16))] U.heap ∧ va_K (dC, dI) vwCl [(cf14, .int), (cf16, .int)] U ∧ va_D (fun _ => True) [(h0, .inr (5, [.ref qf0, .int v1, .int v2, .int v3, .int v4, .int v5, .int v6, .int v7, .ref qf8, .ref qf9, .ref qf10, .ref qf11, .ref qf12, .ref qf13, .ref qf14, .ref qf15, .ref qf16, .int v17, .ref qf18, .int v19, .int v20])), (qf14, .inl (cf14, 60, .inl f14)), (qf16, .inl (cf16, 1800, .inl f16))])) (va_Qv (fun (u : Unit) => match u with | () => True) (fun (u : Unit) (t : State) => match u with | () => va_P (dC, dI) vwCl [(h0, .inr (5, [.ref qf0, .int w1, .int v2, .int v3, .int v4, .int v5, .int v6, .int v7, .ref qf8, .ref qf9, .ref qf10, .ref qf11, .ref qf12, .ref qf13, .ref qf14, .ref qf15, .ref qf16, .int v17, .ref qf18, .int v19, .int v20])), (qf14, .inl (cf14, 60, .inl o14)), (qf16, .inl (cf16, 1800, .inl o16))] t.heap ∧ va_K (dC, dI) vwCl [(cf14, .int), (cf16, .int)] t ∧ va_D (va_A [(h0, .inr (5, [.ref qf0, .int v1, .int v2, .int v3, .int v4, .int v5, .int v6, .int v7, .ref qf8, .ref qf9, .ref qf10, .ref qf11, .ref qf12, .ref qf13, .ref qf14, .ref qf15, .ref qf16, .int v17, .ref qf18, .int v19, .int v20])), (qf14, .inl (cf14, 60, .inl f14)), (qf16, .inl (cf16, 1800, .inl f16))] sz) [(h0, .inr (5, [.ref qf0, .int w1, .int v2, .int v3, .int v4, .int v5, .int v6, .int v7, .ref qf8, .ref qf9, .ref qf10, .ref qf11, .ref qf12, .ref qf13, .ref qf14, .ref qf15, .ref qf16, .int v17, .ref qf18, .int v19, .int v20])), (qf14, .inl (cf14, 60, .inl o14)), (qf16, .inl (cf16, 1800, .inl o16))]) (va_A [(h0, .inr (5, [.ref qf0, .int v1, .int v2, .int v3, .int v4, .int v5, .int v6, .int v7, .ref qf8, .ref qf9, .ref qf10, .ref qf11, .ref qf12, .ref qf13, .ref qf14, .ref qf15, .ref qf16, .int v17, .ref qf18, .int v19, .int v20])), (qf14, .inl (cf14, 60, .inl f14)), (qf16, .inl (cf16, 1800, .inl f16))] sz)) 0 0 (va_A [(h0, .inr (5, [.ref qf0, .int v1, .int v2, .int v3, .int v4, .int v5, .int v6, .int v7, .ref qf8, .ref qf9, .ref qf10, .ref qf11, .ref qf12, .ref qf13, .ref qf14, .ref qf15, .ref qf16, .int v17, .ref qf18, .int v19, .int v20])), (qf14, .inl (cf14, 60, .inl f14)), (qf16, .inl (cf16, 1800, .inl f16))] sz) := by
  refine Met.ofW (cc := cX5_push) (maxL := 3) (ret := none) (by decide) rfl ?_
  intro p e s m args below meth c s₁ B hml hv
  obtain ⟨rfl, hsz, hP, hK, hD0⟩ := hv
  have hx := B.exec
  have hb := B.bytes
  have hr := B.returns
  have hts := atoms_spec (ws := (.code yX5_push cX5_push 3 none :: VS_h3)) B.pre
  replace hts := fun w (h : w ∈ VS_h3) => hts w (List.mem_cons_of_mem _ h)
  have hown : s.vm.findClass RX5 = some m.cls := findClass_of_methodNamed B.named
  have hlocks := B.notSynchronized
  subst hsz
  have hD := hD0.self (sz := s.heap.size)
  generalize hAe : va_A [(h0, .inr (5, [.ref qf0, .int v1, .int v2, .int v3, .int v4, .int v5, .int v6, .int v7, .ref qf8, .ref qf9, .ref qf10, .ref qf11, .ref qf12, .ref qf13, .ref qf14, .ref qf15, .ref qf16, .int v17, .ref qf18, .int v19, .int v20])), (qf14, .inl (cf14, 60, .inl f14)), (qf16, .inl (cf16, 1800, .inl f16))] s.heap.size = A at hD  ⊢
  have hA : ∀ q : Nat, s.heap.size ≤ q → A q := fun q h => by rw [← hAe]; exact Or.inr h
  have hP : va_P (dC, dI) vwCl [(h0, .inr (5, [.ref qf0, .int v1, .int v2, .int v3, .int v4, .int v5, .int v6, .int v7, .ref qf8, .ref qf9, .ref qf10, .ref qf11, .ref qf12, .ref qf13, .ref qf14, .ref qf15, .ref qf16, .int v17, .ref qf18, .int v19, .int v20])), (qf14, .inl (cf14, 60, .inl f14)), (qf16, .inl (cf16, 1800, .inl f16))] s.heap := hP
  have hl := lv_entry ([.ref h0, .int a1]) (n := 3) (Nat.le_of_ble_eq_true rfl)
  rw [lg_entry_eq]
  generalize (lg_sl ([.ref h0, .int a1]) ++ List.replicate (3 - (lg_sl ([.ref h0, .int a1])).length) Slot.unset).toArray = ls at hl ⊢
  have hl : lv_has ls 3 [(0, .ref h0), (1, .int a1)] := hl
  obtain ⟨H, hH⟩ : ∃ H : Heap, s.heap = H := ⟨_, rfl⟩
  rw [hH] at hP ⊢
  have hS : va_S A s.heap H [] := by rw [← hH]; exact va_S.rf
  obtain ⟨locs, hlo⟩ : ∃ locs : List Loc, locs = [] := ⟨_, rfl⟩
  rw [← hlo] at hS ⊢
  unfold sp_t5_push at hsp
  refine lv_aload_n hx hb dX5_push_0 rfl (lv_at hl 0 rfl) ?_
  refine va_get (D := (dC, dI)) (ci := 5) (v := .ref qf14) (C := RX5) (T := TX5) (N := 21) hx hb hts uV_h3_X5 hown hK hP 0 rfl rfl 14 (by decide) (hts (.fieldLink RX5 32 "ClassMill$Machine" "heights" "[I") mw_h3_88) (fun _ h9 => h9) rfl dX5_push_1 ?_
  refine lv_aload_n hx hb dX5_push_4 rfl (lv_at hl 0 rfl) ?_
  refine va_get (D := (dC, dI)) (ci := 5) (v := .int v17) (C := RX5) (T := TX5) (N := 21) hx hb hts uV_h3_X5 hown hK hP 0 rfl rfl 17 (by decide) (hts (.fieldLink RX5 97 "ClassMill$Machine" "top" "I") mw_h3_86) (fun _ h9 => h9) rfl dX5_push_5 ?_
  obtain ⟨hi_1, hsp⟩ := ox_in hsp
  refine va_iald hx hb hK hP 1 0 rfl rfl (i := v17) hi_1 dX5_push_8 ?_
  refine lv_istore_n (lv' := [(2, .int (f14 (v17 : Int32).toNatClampNeg)), (0, .ref h0), (1, .int a1)]) hx hb dX5_push_9 rfl hl (by decide) rfl (fun ls hl => ?_)
  refine lv_iload_n hx hb dX5_push_10 rfl (lv_at hl 0 rfl) ?_
  refine lv_bipush (v := 30) hx hb dX5_push_11 (by decide) ?_
  refine lv_icmp_lt (tgt := 23) hx hb dX5_push_13 (by decide) (fun c_2 => ?_) (fun c_2 => ?_)
  · rw [if_pos c_2] at hsp
    refine lv_aload_n hx hb dX5_push_23 rfl (lv_at hl 1 rfl) ?_
    refine va_get (D := (dC, dI)) (ci := 5) (v := .ref qf16) (C := RX5) (T := TX5) (N := 21) hx hb hts uV_h3_X5 hown hK hP 0 rfl rfl 16 (by decide) (hts (.fieldLink RX5 38 "ClassMill$Machine" "stack" "[I") mw_h3_90) (fun _ h9 => h9) rfl dX5_push_24 ?_
    refine lv_aload_n hx hb dX5_push_27 rfl (lv_at hl 1 rfl) ?_
    refine va_get (D := (dC, dI)) (ci := 5) (v := .int v17) (C := RX5) (T := TX5) (N := 21) hx hb hts uV_h3_X5 hown hK hP 0 rfl rfl 17 (by decide) (hts (.fieldLink RX5 97 "ClassMill$Machine" "top" "I") mw_h3_86) (fun _ h9 => h9) rfl dX5_push_28 ?_
    refine lv_bipush (v := 30) hx hb dX5_push_31 (by decide) ?_
    refine lv_imul hx hb dX5_push_33 ?_
    refine lv_iload_n hx hb dX5_push_34 rfl (lv_at hl 0 rfl) ?_
    refine lv_iadd hx hb dX5_push_35 ?_
    refine lv_iload_n hx hb dX5_push_36 rfl (lv_at hl 2 rfl) ?_
    obtain ⟨hi_3, hsp⟩ := ox_in hsp
    refine va_iast hx hb hK hP hD hS 2 1 rfl rfl (i := ((v17 * 30) + (f14 (v17 : Int32).toNatClampNeg))) (x := a1) hi_3 dX5_push_37 ?_
    clear hP hD hS
    intro H locs hP hD hS
    replace hP : va_P (dC, dI) vwCl [(h0, .inr (5, [.ref qf0, .int v1, .int v2, .int v3, .int v4, .int v5, .int v6, .int v7, .ref qf8, .ref qf9, .ref qf10, .ref qf11, .ref qf12, .ref qf13, .ref qf14, .ref qf15, .ref qf16, .int v17, .ref qf18, .int v19, .int v20])), (qf14, .inl (cf14, 60, .inl f14)), (qf16, .inl (cf16, 1800, .inl (upd f16 (((v17 * 30) + (f14 (v17 : Int32).toNatClampNeg)) : Int32).toNatClampNeg a1)))] H := hP
    replace hD : va_D A [(h0, .inr (5, [.ref qf0, .int v1, .int v2, .int v3, .int v4, .int v5, .int v6, .int v7, .ref qf8, .ref qf9, .ref qf10, .ref qf11, .ref qf12, .ref qf13, .ref qf14, .ref qf15, .ref qf16, .int v17, .ref qf18, .int v19, .int v20])), (qf14, .inl (cf14, 60, .inl f14)), (qf16, .inl (cf16, 1800, .inl (upd f16 (((v17 * 30) + (f14 (v17 : Int32).toNatClampNeg)) : Int32).toNatClampNeg a1)))] := hD
    refine lv_aload_n hx hb dX5_push_38 rfl (lv_at hl 1 rfl) ?_
    refine va_get (D := (dC, dI)) (ci := 5) (v := .ref qf14) (C := RX5) (T := TX5) (N := 21) hx hb hts uV_h3_X5 hown hK hP 0 rfl rfl 14 (by decide) (hts (.fieldLink RX5 32 "ClassMill$Machine" "heights" "[I") mw_h3_88) (fun _ h9 => h9) rfl dX5_push_39 ?_
    refine lv_aload_n hx hb dX5_push_42 rfl (lv_at hl 1 rfl) ?_
    refine va_get (D := (dC, dI)) (ci := 5) (v := .int v17) (C := RX5) (T := TX5) (N := 21) hx hb hts uV_h3_X5 hown hK hP 0 rfl rfl 17 (by decide) (hts (.fieldLink RX5 97 "ClassMill$Machine" "top" "I") mw_h3_86) (fun _ h9 => h9) rfl dX5_push_43 ?_
    refine lv_iload_n hx hb dX5_push_46 rfl (lv_at hl 0 rfl) ?_
    refine lv_iconst (v := 1) hx hb dX5_push_47 (by decide) ?_
    refine lv_iadd hx hb dX5_push_48 ?_
    obtain ⟨hi_4, hsp⟩ := ox_in hsp
    refine va_iast hx hb hK hP hD hS 1 0 rfl rfl (i := v17) (x := ((f14 (v17 : Int32).toNatClampNeg) + 1)) hi_4 dX5_push_49 ?_
    clear hP hD hS
    intro H locs hP hD hS
    replace hP : va_P (dC, dI) vwCl [(h0, .inr (5, [.ref qf0, .int v1, .int v2, .int v3, .int v4, .int v5, .int v6, .int v7, .ref qf8, .ref qf9, .ref qf10, .ref qf11, .ref qf12, .ref qf13, .ref qf14, .ref qf15, .ref qf16, .int v17, .ref qf18, .int v19, .int v20])), (qf14, .inl (cf14, 60, .inl (upd f14 (v17 : Int32).toNatClampNeg ((f14 (v17 : Int32).toNatClampNeg) + 1)))), (qf16, .inl (cf16, 1800, .inl (upd f16 (((v17 * 30) + (f14 (v17 : Int32).toNatClampNeg)) : Int32).toNatClampNeg a1)))] H := hP
    replace hD : va_D A [(h0, .inr (5, [.ref qf0, .int v1, .int v2, .int v3, .int v4, .int v5, .int v6, .int v7, .ref qf8, .ref qf9, .ref qf10, .ref qf11, .ref qf12, .ref qf13, .ref qf14, .ref qf15, .ref qf16, .int v17, .ref qf18, .int v19, .int v20])), (qf14, .inl (cf14, 60, .inl (upd f14 (v17 : Int32).toNatClampNeg ((f14 (v17 : Int32).toNatClampNeg) + 1)))), (qf16, .inl (cf16, 1800, .inl (upd f16 (((v17 * 30) + (f14 (v17 : Int32).toNatClampNeg)) : Int32).toNatClampNeg a1)))] := hD
    have hr0 := Option.some.inj hsp
    clear hsp
    obtain ⟨hq0, hr1⟩ := Prod.mk.inj hr0
    clear hr0
    obtain ⟨hq1, hr2⟩ := Prod.mk.inj hr1
    clear hr1
    subst hq0
    subst hq1
    subst hr2
    have hP9 := hP.sub (ws' := [(h0, .inr (5, [.ref qf0, .int v1, .int v2, .int v3, .int v4, .int v5, .int v6, .int v7, .ref qf8, .ref qf9, .ref qf10, .ref qf11, .ref qf12, .ref qf13, .ref qf14, .ref qf15, .ref qf16, .int v17, .ref qf18, .int v19, .int v20])), (qf14, .inl (cf14, 60, .inl (upd f14 (v17 : Int32).toNatClampNeg ((f14 (v17 : Int32).toNatClampNeg) + 1)))), (qf16, .inl (cf16, 1800, .inl (upd f16 (((v17 * 30) + (f14 (v17 : Int32).toNatClampNeg)) : Int32).toNatClampNeg a1)))]) [0, 1, 2] rfl
    have hD9 := hD.sub (ws' := [(h0, .inr (5, [.ref qf0, .int v1, .int v2, .int v3, .int v4, .int v5, .int v6, .int v7, .ref qf8, .ref qf9, .ref qf10, .ref qf11, .ref qf12, .ref qf13, .ref qf14, .ref qf15, .ref qf16, .int v17, .ref qf18, .int v19, .int v20])), (qf14, .inl (cf14, 60, .inl (upd f14 (v17 : Int32).toNatClampNeg ((f14 (v17 : Int32).toNatClampNeg) + 1)))), (qf16, .inl (cf16, 1800, .inl (upd f16 (((v17 * 30) + (f14 (v17 : Int32).toNatClampNeg)) : Int32).toNatClampNeg a1)))]) [0, 1, 2] (by decide) rfl
    have hK9 := hK.sub (tys' := [(cf14, .int), (cf16, .int)]) [0, 1] rfl
    exact W.vret hx hb hr (fun t ht hW => ⟨⟨(), rfl, trivial, by rw [ht]; exact hP9, va_K.moved hW.alike hK9, hD9⟩, hS.F ht⟩) hS.2.2 dX5_push_50
  · rw [if_neg c_2] at hsp
    refine lv_aload_n hx hb dX5_push_16 rfl (lv_at hl 1 rfl) ?_
    refine lv_bipush (v := 6) hx hb dX5_push_17 (by decide) ?_
    refine va_put (D := (dC, dI)) (ci := 5) (v := .int 6) (ty := .int) (C := RX5) (T := TX5) (N := 21) hx hb hts uV_h3_X5 tyX5 tyX5_ok nmX5 hown hK hP hD hS 0 rfl rfl 1 (by decide) (hts (.fieldLink RX5 54 "ClassMill$Machine" "state" "I") mw_h3_73) (fun _ h9 => h9) rfl (by decide +kernel) rfl rfl (Nat.le_of_ble_eq_true rfl) dX5_push_19 ?_
    clear hP hD hS
    intro H locs hP hD hS
    replace hP : va_P (dC, dI) vwCl [(h0, .inr (5, [.ref qf0, .int 6, .int v2, .int v3, .int v4, .int v5, .int v6, .int v7, .ref qf8, .ref qf9, .ref qf10, .ref qf11, .ref qf12, .ref qf13, .ref qf14, .ref qf15, .ref qf16, .int v17, .ref qf18, .int v19, .int v20])), (qf14, .inl (cf14, 60, .inl f14)), (qf16, .inl (cf16, 1800, .inl f16))] H := hP
    replace hD : va_D A [(h0, .inr (5, [.ref qf0, .int 6, .int v2, .int v3, .int v4, .int v5, .int v6, .int v7, .ref qf8, .ref qf9, .ref qf10, .ref qf11, .ref qf12, .ref qf13, .ref qf14, .ref qf15, .ref qf16, .int v17, .ref qf18, .int v19, .int v20])), (qf14, .inl (cf14, 60, .inl f14)), (qf16, .inl (cf16, 1800, .inl f16))] := hD
    have hr0 := Option.some.inj hsp
    clear hsp
    obtain ⟨hq0, hr1⟩ := Prod.mk.inj hr0
    clear hr0
    obtain ⟨hq1, hr2⟩ := Prod.mk.inj hr1
    clear hr1
    subst hq0
    subst hq1
    subst hr2
    have hP9 := hP.sub (ws' := [(h0, .inr (5, [.ref qf0, .int 6, .int v2, .int v3, .int v4, .int v5, .int v6, .int v7, .ref qf8, .ref qf9, .ref qf10, .ref qf11, .ref qf12, .ref qf13, .ref qf14, .ref qf15, .ref qf16, .int v17, .ref qf18, .int v19, .int v20])), (qf14, .inl (cf14, 60, .inl f14)), (qf16, .inl (cf16, 1800, .inl f16))]) [0, 1, 2] rfl
    have hD9 := hD.sub (ws' := [(h0, .inr (5, [.ref qf0, .int 6, .int v2, .int v3, .int v4, .int v5, .int v6, .int v7, .ref qf8, .ref qf9, .ref qf10, .ref qf11, .ref qf12, .ref qf13, .ref qf14, .ref qf15, .ref qf16, .int v17, .ref qf18, .int v19, .int v20])), (qf14, .inl (cf14, 60, .inl f14)), (qf16, .inl (cf16, 1800, .inl f16))]) [0, 1, 2] (by decide) rfl
    have hK9 := hK.sub (tys' := [(cf14, .int), (cf16, .int)]) [0, 1] rfl
    exact W.vret hx hb hr (fun t ht hW => ⟨⟨(), rfl, trivial, by rw [ht]; exact hP9, va_K.moved hW.alike hK9, hD9⟩, hS.F ht⟩) hS.2.2 dX5_push_22
def sp_t5_pop (nf : Nat) (v1 : Int32) (v17 : Int32) (f14 : Nat → Int32) (f16 : Nat → Int32) : Option (Int32 × (Nat → Int32) × Int32) := (if v17 < 0 then none else if 60 ≤ (v17 : Int32).toNatClampNeg then none else (if 0 ≤ ((f14 (v17 : Int32).toNatClampNeg) - 1) then (if v17 < 0 then none else if 60 ≤ (v17 : Int32).toNatClampNeg then none else (if ((v17 * 30) + ((f14 (v17 : Int32).toNatClampNeg) - 1)) < 0 then none else if 1800 ≤ (((v17 * 30) + ((f14 (v17 : Int32).toNatClampNeg) - 1)) : Int32).toNatClampNeg then none else (some ((f16 (((v17 * 30) + ((f14 (v17 : Int32).toNatClampNeg) - 1)) : Int32).toNatClampNeg), (upd f14 (v17 : Int32).toNatClampNeg ((f14 (v17 : Int32).toNatClampNeg) - 1)), v1)))) else (some (0, f14, 6))))
set_option maxHeartbeats 4000000 in
set_option maxRecDepth 100000 in
/-- ClassMill$Machine.pop -/
theorem t5_pop (l : Launch) (dC : Nat → ClassId) (dI : Nat → Nat → Nat) (sz : Nat) (h0 : Nat) (qf0 : Nat) (v1 : Int32) (v2 : Int32) (v3 : Int32) (v4 : Int32) (v5 : Int32) (v6 : Int32) (v7 : Int32) (qf8 : Nat) (qf9 : Nat) (qf10 : Nat) (qf11 : Nat) (qf12 : Nat) (qf13 : Nat) (qf14 : Nat) (qf15 : Nat) (qf16 : Nat) (v17 : Int32) (qf18 : Nat) (v19 : Int32) (v20 : Int32) (cf14 : ClassId) (f14 : (Nat → Int32)) (cf16 : ClassId) (f16 : (Nat → Int32)) (nf : Nat) (r0 : Int32) (o14 : (Nat → Int32)) (w1 : Int32) (hsp : sp_t5_pop nf v1 v17 f14 f16 = some (r0, o14, w1)) : Met l yX5_pop (.code yX5_pop cX5_pop 2 (some .int) :: VS_h3) ({ frames := 0, cells := 0, slots := 0, locals := 0 }) (va_Pc [.ref h0] (fun U => U.heap.size = sz ∧ va_P (dC, dI) vwCl [(h0, .inr (5, [.ref qf0, .int v1, .int v2, .int v3, .int v4, .int v5, .int v6, .int v7, .ref qf8, .ref qf9, .ref qf10, .ref qf11, .ref qf12, .ref qf13, .ref qf14, .ref qf15, .ref qf16, .int v17, .ref qf18, .int v19, .int v20])), (qf14, .inl (cf14, 60, .inl f14)), (qf16, .inl (cf16, 1800, .inl f16))] U.heap ∧ va_K (dC, dI) vwCl [(cf14, .int), (cf16, .int)] U ∧ va_D (fun _ => True) [(h0, .inr (5, [.ref qf0, .int v1, .int v2, .int v3, .int v4, .int v5, .int v6, .int v7, .ref qf8, .ref qf9, .ref qf10, .ref qf11, .ref qf12, .ref qf13, .ref qf14, .ref qf15, .ref qf16, .int v17, .ref qf18, .int v19, .int v20])), (qf14, .inl (cf14, 60, .inl f14)), (qf16, .inl (cf16, 1800, .inl f16))])) (va_Qi (fun (r : Int32) (u : Unit) => match u with | () => r0 = r) (fun (u : Unit) (t : State) => match u with | () => va_P (dC, dI) vwCl [(h0, .inr (5, [.ref qf0, .int w1, .int v2, .int v3, .int v4, .int v5, .int v6, .int v7, .ref qf8, .ref qf9, .ref qf10, .ref qf11, .ref qf12, .ref qf13, .ref qf14, .ref qf15, .ref qf16, .int v17, .ref qf18, .int v19, .int v20])), (qf14, .inl (cf14, 60, .inl o14)), (qf16, .inl (cf16, 1800, .inl f16))] t.heap ∧ va_K (dC, dI) vwCl [(cf14, .int), (cf16, .int)] t ∧ va_D (va_A [(h0, .inr (5, [.ref qf0, .int v1, .int v2, .int v3, .int v4, .int v5, .int v6, .int v7, .ref qf8, .ref qf9, .ref qf10, .ref qf11, .ref qf12, .ref qf13, .ref qf14, .ref qf15, .ref qf16, .int v17, .ref qf18, .int v19, .int v20])), (qf14, .inl (cf14, 60, .inl f14)), (qf16, .inl (cf16, 1800, .inl f16))] sz) [(h0, .inr (5, [.ref qf0, .int w1, .int v2, .int v3, .int v4, .int v5, .int v6, .int v7, .ref qf8, .ref qf9, .ref qf10, .ref qf11, .ref qf12, .ref qf13, .ref qf14, .ref qf15, .ref qf16, .int v17, .ref qf18, .int v19, .int v20])), (qf14, .inl (cf14, 60, .inl o14)), (qf16, .inl (cf16, 1800, .inl f16))]) (va_A [(h0, .inr (5, [.ref qf0, .int v1, .int v2, .int v3, .int v4, .int v5, .int v6, .int v7, .ref qf8, .ref qf9, .ref qf10, .ref qf11, .ref qf12, .ref qf13, .ref qf14, .ref qf15, .ref qf16, .int v17, .ref qf18, .int v19, .int v20])), (qf14, .inl (cf14, 60, .inl f14)), (qf16, .inl (cf16, 1800, .inl f16))] sz)) 0 0 (va_A [(h0, .inr (5, [.ref qf0, .int v1, .int v2, .int v3, .int v4, .int v5, .int v6, .int v7, .ref qf8, .ref qf9, .ref qf10, .ref qf11, .ref qf12, .ref qf13, .ref qf14, .ref qf15, .ref qf16, .int v17, .ref qf18, .int v19, .int v20])), (qf14, .inl (cf14, 60, .inl f14)), (qf16, .inl (cf16, 1800, .inl f16))] sz) := by
  refine Met.ofW (cc := cX5_pop) (maxL := 2) (ret := (some .int)) (by decide) rfl ?_
  intro p e s m args below meth c s₁ B hml hv
  obtain ⟨rfl, hsz, hP, hK, hD0⟩ := hv
  have hx := B.exec
  have hb := B.bytes
  have hr := B.returns
  have hts := atoms_spec (ws := (.code yX5_pop cX5_pop 2 (some .int) :: VS_h3)) B.pre
  replace hts := fun w (h : w ∈ VS_h3) => hts w (List.mem_cons_of_mem _ h)
  have hown : s.vm.findClass RX5 = some m.cls := findClass_of_methodNamed B.named
  have hlocks := B.notSynchronized
  subst hsz
  have hD := hD0.self (sz := s.heap.size)
  generalize hAe : va_A [(h0, .inr (5, [.ref qf0, .int v1, .int v2, .int v3, .int v4, .int v5, .int v6, .int v7, .ref qf8, .ref qf9, .ref qf10, .ref qf11, .ref qf12, .ref qf13, .ref qf14, .ref qf15, .ref qf16, .int v17, .ref qf18, .int v19, .int v20])), (qf14, .inl (cf14, 60, .inl f14)), (qf16, .inl (cf16, 1800, .inl f16))] s.heap.size = A at hD  ⊢
  have hA : ∀ q : Nat, s.heap.size ≤ q → A q := fun q h => by rw [← hAe]; exact Or.inr h
  have hP : va_P (dC, dI) vwCl [(h0, .inr (5, [.ref qf0, .int v1, .int v2, .int v3, .int v4, .int v5, .int v6, .int v7, .ref qf8, .ref qf9, .ref qf10, .ref qf11, .ref qf12, .ref qf13, .ref qf14, .ref qf15, .ref qf16, .int v17, .ref qf18, .int v19, .int v20])), (qf14, .inl (cf14, 60, .inl f14)), (qf16, .inl (cf16, 1800, .inl f16))] s.heap := hP
  have hl := lv_entry ([.ref h0]) (n := 2) (Nat.le_of_ble_eq_true rfl)
  rw [lg_entry_eq]
  generalize (lg_sl ([.ref h0]) ++ List.replicate (2 - (lg_sl ([.ref h0])).length) Slot.unset).toArray = ls at hl ⊢
  have hl : lv_has ls 2 [(0, .ref h0)] := hl
  obtain ⟨H, hH⟩ : ∃ H : Heap, s.heap = H := ⟨_, rfl⟩
  rw [hH] at hP ⊢
  have hS : va_S A s.heap H [] := by rw [← hH]; exact va_S.rf
  obtain ⟨locs, hlo⟩ : ∃ locs : List Loc, locs = [] := ⟨_, rfl⟩
  rw [← hlo] at hS ⊢
  unfold sp_t5_pop at hsp
  refine lv_aload_n hx hb dX5_pop_0 rfl (lv_at hl 0 rfl) ?_
  refine va_get (D := (dC, dI)) (ci := 5) (v := .ref qf14) (C := RX5) (T := TX5) (N := 21) hx hb hts uV_h3_X5 hown hK hP 0 rfl rfl 14 (by decide) (hts (.fieldLink RX5 32 "ClassMill$Machine" "heights" "[I") mw_h3_88) (fun _ h9 => h9) rfl dX5_pop_1 ?_
  refine lv_aload_n hx hb dX5_pop_4 rfl (lv_at hl 0 rfl) ?_
  refine va_get (D := (dC, dI)) (ci := 5) (v := .int v17) (C := RX5) (T := TX5) (N := 21) hx hb hts uV_h3_X5 hown hK hP 0 rfl rfl 17 (by decide) (hts (.fieldLink RX5 97 "ClassMill$Machine" "top" "I") mw_h3_86) (fun _ h9 => h9) rfl dX5_pop_5 ?_
  obtain ⟨hi_1, hsp⟩ := ox_in hsp
  refine va_iald hx hb hK hP 1 0 rfl rfl (i := v17) hi_1 dX5_pop_8 ?_
  refine lv_iconst (v := 1) hx hb dX5_pop_9 (by decide) ?_
  refine lv_isub hx hb dX5_pop_10 ?_
  refine lv_istore_n (lv' := [(1, .int ((f14 (v17 : Int32).toNatClampNeg) - 1)), (0, .ref h0)]) hx hb dX5_pop_11 rfl hl (by decide) rfl (fun ls hl => ?_)
  refine lv_iload_n hx hb dX5_pop_12 rfl (lv_at hl 0 rfl) ?_
  refine lv_if_ge (tgt := 24) hx hb dX5_pop_13 (by decide) (fun c_2 => ?_) (fun c_2 => ?_)
  · rw [if_pos c_2] at hsp
    refine lv_aload_n hx hb dX5_pop_24 rfl (lv_at hl 1 rfl) ?_
    refine va_get (D := (dC, dI)) (ci := 5) (v := .ref qf14) (C := RX5) (T := TX5) (N := 21) hx hb hts uV_h3_X5 hown hK hP 0 rfl rfl 14 (by decide) (hts (.fieldLink RX5 32 "ClassMill$Machine" "heights" "[I") mw_h3_88) (fun _ h9 => h9) rfl dX5_pop_25 ?_
    refine lv_aload_n hx hb dX5_pop_28 rfl (lv_at hl 1 rfl) ?_
    refine va_get (D := (dC, dI)) (ci := 5) (v := .int v17) (C := RX5) (T := TX5) (N := 21) hx hb hts uV_h3_X5 hown hK hP 0 rfl rfl 17 (by decide) (hts (.fieldLink RX5 97 "ClassMill$Machine" "top" "I") mw_h3_86) (fun _ h9 => h9) rfl dX5_pop_29 ?_
    refine lv_iload_n hx hb dX5_pop_32 rfl (lv_at hl 0 rfl) ?_
    obtain ⟨hi_3, hsp⟩ := ox_in hsp
    refine va_iast hx hb hK hP hD hS 1 0 rfl rfl (i := v17) (x := ((f14 (v17 : Int32).toNatClampNeg) - 1)) hi_3 dX5_pop_33 ?_
    clear hP hD hS
    intro H locs hP hD hS
    replace hP : va_P (dC, dI) vwCl [(h0, .inr (5, [.ref qf0, .int v1, .int v2, .int v3, .int v4, .int v5, .int v6, .int v7, .ref qf8, .ref qf9, .ref qf10, .ref qf11, .ref qf12, .ref qf13, .ref qf14, .ref qf15, .ref qf16, .int v17, .ref qf18, .int v19, .int v20])), (qf14, .inl (cf14, 60, .inl (upd f14 (v17 : Int32).toNatClampNeg ((f14 (v17 : Int32).toNatClampNeg) - 1)))), (qf16, .inl (cf16, 1800, .inl f16))] H := hP
    replace hD : va_D A [(h0, .inr (5, [.ref qf0, .int v1, .int v2, .int v3, .int v4, .int v5, .int v6, .int v7, .ref qf8, .ref qf9, .ref qf10, .ref qf11, .ref qf12, .ref qf13, .ref qf14, .ref qf15, .ref qf16, .int v17, .ref qf18, .int v19, .int v20])), (qf14, .inl (cf14, 60, .inl (upd f14 (v17 : Int32).toNatClampNeg ((f14 (v17 : Int32).toNatClampNeg) - 1)))), (qf16, .inl (cf16, 1800, .inl f16))] := hD
    refine lv_aload_n hx hb dX5_pop_34 rfl (lv_at hl 1 rfl) ?_
    refine va_get (D := (dC, dI)) (ci := 5) (v := .ref qf16) (C := RX5) (T := TX5) (N := 21) hx hb hts uV_h3_X5 hown hK hP 0 rfl rfl 16 (by decide) (hts (.fieldLink RX5 38 "ClassMill$Machine" "stack" "[I") mw_h3_90) (fun _ h9 => h9) rfl dX5_pop_35 ?_
    refine lv_aload_n hx hb dX5_pop_38 rfl (lv_at hl 1 rfl) ?_
    refine va_get (D := (dC, dI)) (ci := 5) (v := .int v17) (C := RX5) (T := TX5) (N := 21) hx hb hts uV_h3_X5 hown hK hP 0 rfl rfl 17 (by decide) (hts (.fieldLink RX5 97 "ClassMill$Machine" "top" "I") mw_h3_86) (fun _ h9 => h9) rfl dX5_pop_39 ?_
    refine lv_bipush (v := 30) hx hb dX5_pop_42 (by decide) ?_
    refine lv_imul hx hb dX5_pop_44 ?_
    refine lv_iload_n hx hb dX5_pop_45 rfl (lv_at hl 0 rfl) ?_
    refine lv_iadd hx hb dX5_pop_46 ?_
    obtain ⟨hi_4, hsp⟩ := ox_in hsp
    refine va_iald hx hb hK hP 2 1 rfl rfl (i := ((v17 * 30) + ((f14 (v17 : Int32).toNatClampNeg) - 1))) hi_4 dX5_pop_47 ?_
    have hr0 := Option.some.inj hsp
    clear hsp
    obtain ⟨hq0, hr1⟩ := Prod.mk.inj hr0
    clear hr0
    obtain ⟨hq1, hr2⟩ := Prod.mk.inj hr1
    clear hr1
    subst hq0
    subst hq1
    subst hr2
    have hP9 := hP.sub (ws' := [(h0, .inr (5, [.ref qf0, .int v1, .int v2, .int v3, .int v4, .int v5, .int v6, .int v7, .ref qf8, .ref qf9, .ref qf10, .ref qf11, .ref qf12, .ref qf13, .ref qf14, .ref qf15, .ref qf16, .int v17, .ref qf18, .int v19, .int v20])), (qf14, .inl (cf14, 60, .inl (upd f14 (v17 : Int32).toNatClampNeg ((f14 (v17 : Int32).toNatClampNeg) - 1)))), (qf16, .inl (cf16, 1800, .inl f16))]) [0, 1, 2] rfl
    have hD9 := hD.sub (ws' := [(h0, .inr (5, [.ref qf0, .int v1, .int v2, .int v3, .int v4, .int v5, .int v6, .int v7, .ref qf8, .ref qf9, .ref qf10, .ref qf11, .ref qf12, .ref qf13, .ref qf14, .ref qf15, .ref qf16, .int v17, .ref qf18, .int v19, .int v20])), (qf14, .inl (cf14, 60, .inl (upd f14 (v17 : Int32).toNatClampNeg ((f14 (v17 : Int32).toNatClampNeg) - 1)))), (qf16, .inl (cf16, 1800, .inl f16))]) [0, 1, 2] (by decide) rfl
    have hK9 := hK.sub (tys' := [(cf14, .int), (cf16, .int)]) [0, 1] rfl
    exact W.iret hx hb hr (fun t ht hW => ⟨⟨((f16 (((v17 * 30) + ((f14 (v17 : Int32).toNatClampNeg) - 1)) : Int32).toNatClampNeg)), (), rfl, rfl, by rw [ht]; exact hP9, va_K.moved hW.alike hK9, hD9⟩, hS.F ht⟩) hS.2.2 dX5_pop_48
  · rw [if_neg c_2] at hsp
    refine lv_aload_n hx hb dX5_pop_16 rfl (lv_at hl 1 rfl) ?_
    refine lv_bipush (v := 6) hx hb dX5_pop_17 (by decide) ?_
    refine va_put (D := (dC, dI)) (ci := 5) (v := .int 6) (ty := .int) (C := RX5) (T := TX5) (N := 21) hx hb hts uV_h3_X5 tyX5 tyX5_ok nmX5 hown hK hP hD hS 0 rfl rfl 1 (by decide) (hts (.fieldLink RX5 54 "ClassMill$Machine" "state" "I") mw_h3_73) (fun _ h9 => h9) rfl (by decide +kernel) rfl rfl (Nat.le_of_ble_eq_true rfl) dX5_pop_19 ?_
    clear hP hD hS
    intro H locs hP hD hS
    replace hP : va_P (dC, dI) vwCl [(h0, .inr (5, [.ref qf0, .int 6, .int v2, .int v3, .int v4, .int v5, .int v6, .int v7, .ref qf8, .ref qf9, .ref qf10, .ref qf11, .ref qf12, .ref qf13, .ref qf14, .ref qf15, .ref qf16, .int v17, .ref qf18, .int v19, .int v20])), (qf14, .inl (cf14, 60, .inl f14)), (qf16, .inl (cf16, 1800, .inl f16))] H := hP
    replace hD : va_D A [(h0, .inr (5, [.ref qf0, .int 6, .int v2, .int v3, .int v4, .int v5, .int v6, .int v7, .ref qf8, .ref qf9, .ref qf10, .ref qf11, .ref qf12, .ref qf13, .ref qf14, .ref qf15, .ref qf16, .int v17, .ref qf18, .int v19, .int v20])), (qf14, .inl (cf14, 60, .inl f14)), (qf16, .inl (cf16, 1800, .inl f16))] := hD
    refine lv_iconst (v := 0) hx hb dX5_pop_22 (by decide) ?_
    have hr0 := Option.some.inj hsp
    clear hsp
    obtain ⟨hq0, hr1⟩ := Prod.mk.inj hr0
    clear hr0
    obtain ⟨hq1, hr2⟩ := Prod.mk.inj hr1
    clear hr1
    subst hq0
    subst hq1
    subst hr2
    have hP9 := hP.sub (ws' := [(h0, .inr (5, [.ref qf0, .int 6, .int v2, .int v3, .int v4, .int v5, .int v6, .int v7, .ref qf8, .ref qf9, .ref qf10, .ref qf11, .ref qf12, .ref qf13, .ref qf14, .ref qf15, .ref qf16, .int v17, .ref qf18, .int v19, .int v20])), (qf14, .inl (cf14, 60, .inl f14)), (qf16, .inl (cf16, 1800, .inl f16))]) [0, 1, 2] rfl
    have hD9 := hD.sub (ws' := [(h0, .inr (5, [.ref qf0, .int 6, .int v2, .int v3, .int v4, .int v5, .int v6, .int v7, .ref qf8, .ref qf9, .ref qf10, .ref qf11, .ref qf12, .ref qf13, .ref qf14, .ref qf15, .ref qf16, .int v17, .ref qf18, .int v19, .int v20])), (qf14, .inl (cf14, 60, .inl f14)), (qf16, .inl (cf16, 1800, .inl f16))]) [0, 1, 2] (by decide) rfl
    have hK9 := hK.sub (tys' := [(cf14, .int), (cf16, .int)]) [0, 1] rfl
    exact W.iret hx hb hr (fun t ht hW => ⟨⟨(0), (), rfl, rfl, by rw [ht]; exact hP9, va_K.moved hW.alike hK9, hD9⟩, hS.F ht⟩) hS.2.2 dX5_pop_23
def sp_t5_goOn (nf : Nat) (a1 : Int32) (v17 : Int32) (f13 : Nat → Int32) : Option ((Nat → Int32)) := (if v17 < 0 then none else if 60 ≤ (v17 : Int32).toNatClampNeg then none else (if v17 < 0 then none else if 60 ≤ (v17 : Int32).toNatClampNeg then none else (some (upd f13 (v17 : Int32).toNatClampNeg ((f13 (v17 : Int32).toNatClampNeg) + a1)))))
set_option maxHeartbeats 4000000 in
set_option maxRecDepth 100000 in
/-- ClassMill$Machine.goOn -/
theorem t5_goOn (l : Launch) (dC : Nat → ClassId) (dI : Nat → Nat → Nat) (sz : Nat) (h0 : Nat) (a1 : Int32) (qf0 : Nat) (v1 : Int32) (v2 : Int32) (v3 : Int32) (v4 : Int32) (v5 : Int32) (v6 : Int32) (v7 : Int32) (qf8 : Nat) (qf9 : Nat) (qf10 : Nat) (qf11 : Nat) (qf12 : Nat) (qf13 : Nat) (qf14 : Nat) (qf15 : Nat) (qf16 : Nat) (v17 : Int32) (qf18 : Nat) (v19 : Int32) (v20 : Int32) (cf13 : ClassId) (f13 : (Nat → Int32)) (nf : Nat) (o13 : (Nat → Int32)) (hsp : sp_t5_goOn nf a1 v17 f13 = some o13) : Met l yX5_goOn (.code yX5_goOn cX5_goOn 2 none :: VS_h3) ({ frames := 0, cells := 0, slots := 0, locals := 0 }) (va_Pc [.ref h0, .int a1] (fun U => U.heap.size = sz ∧ va_P (dC, dI) vwCl [(h0, .inr (5, [.ref qf0, .int v1, .int v2, .int v3, .int v4, .int v5, .int v6, .int v7, .ref qf8, .ref qf9, .ref qf10, .ref qf11, .ref qf12, .ref qf13, .ref qf14, .ref qf15, .ref qf16, .int v17, .ref qf18, .int v19, .int v20])), (qf13, .inl (cf13, 60, .inl f13))] U.heap ∧ va_K (dC, dI) vwCl [(cf13, .int)] U ∧ va_D (fun _ => True) [(h0, .inr (5, [.ref qf0, .int v1, .int v2, .int v3, .int v4, .int v5, .int v6, .int v7, .ref qf8, .ref qf9, .ref qf10, .ref qf11, .ref qf12, .ref qf13, .ref qf14, .ref qf15, .ref qf16, .int v17, .ref qf18, .int v19, .int v20])), (qf13, .inl (cf13, 60, .inl f13))])) (va_Qv (fun (u : Unit) => match u with | () => True) (fun (u : Unit) (t : State) => match u with | () => va_P (dC, dI) vwCl [(h0, .inr (5, [.ref qf0, .int v1, .int v2, .int v3, .int v4, .int v5, .int v6, .int v7, .ref qf8, .ref qf9, .ref qf10, .ref qf11, .ref qf12, .ref qf13, .ref qf14, .ref qf15, .ref qf16, .int v17, .ref qf18, .int v19, .int v20])), (qf13, .inl (cf13, 60, .inl o13))] t.heap ∧ va_K (dC, dI) vwCl [(cf13, .int)] t ∧ va_D (va_A [(h0, .inr (5, [.ref qf0, .int v1, .int v2, .int v3, .int v4, .int v5, .int v6, .int v7, .ref qf8, .ref qf9, .ref qf10, .ref qf11, .ref qf12, .ref qf13, .ref qf14, .ref qf15, .ref qf16, .int v17, .ref qf18, .int v19, .int v20])), (qf13, .inl (cf13, 60, .inl f13))] sz) [(h0, .inr (5, [.ref qf0, .int v1, .int v2, .int v3, .int v4, .int v5, .int v6, .int v7, .ref qf8, .ref qf9, .ref qf10, .ref qf11, .ref qf12, .ref qf13, .ref qf14, .ref qf15, .ref qf16, .int v17, .ref qf18, .int v19, .int v20])), (qf13, .inl (cf13, 60, .inl o13))]) (va_A [(h0, .inr (5, [.ref qf0, .int v1, .int v2, .int v3, .int v4, .int v5, .int v6, .int v7, .ref qf8, .ref qf9, .ref qf10, .ref qf11, .ref qf12, .ref qf13, .ref qf14, .ref qf15, .ref qf16, .int v17, .ref qf18, .int v19, .int v20])), (qf13, .inl (cf13, 60, .inl f13))] sz)) 0 0 (va_A [(h0, .inr (5, [.ref qf0, .int v1, .int v2, .int v3, .int v4, .int v5, .int v6, .int v7, .ref qf8, .ref qf9, .ref qf10, .ref qf11, .ref qf12, .ref qf13, .ref qf14, .ref qf15, .ref qf16, .int v17, .ref qf18, .int v19, .int v20])), (qf13, .inl (cf13, 60, .inl f13))] sz) := by
  refine Met.ofW (cc := cX5_goOn) (maxL := 2) (ret := none) (by decide) rfl ?_
  intro p e s m args below meth c s₁ B hml hv
  obtain ⟨rfl, hsz, hP, hK, hD0⟩ := hv
  have hx := B.exec
  have hb := B.bytes
  have hr := B.returns
  have hts := atoms_spec (ws := (.code yX5_goOn cX5_goOn 2 none :: VS_h3)) B.pre
  replace hts := fun w (h : w ∈ VS_h3) => hts w (List.mem_cons_of_mem _ h)
  have hown : s.vm.findClass RX5 = some m.cls := findClass_of_methodNamed B.named
  have hlocks := B.notSynchronized
  subst hsz
  have hD := hD0.self (sz := s.heap.size)
  generalize hAe : va_A [(h0, .inr (5, [.ref qf0, .int v1, .int v2, .int v3, .int v4, .int v5, .int v6, .int v7, .ref qf8, .ref qf9, .ref qf10, .ref qf11, .ref qf12, .ref qf13, .ref qf14, .ref qf15, .ref qf16, .int v17, .ref qf18, .int v19, .int v20])), (qf13, .inl (cf13, 60, .inl f13))] s.heap.size = A at hD  ⊢
  have hA : ∀ q : Nat, s.heap.size ≤ q → A q := fun q h => by rw [← hAe]; exact Or.inr h
  have hP : va_P (dC, dI) vwCl [(h0, .inr (5, [.ref qf0, .int v1, .int v2, .int v3, .int v4, .int v5, .int v6, .int v7, .ref qf8, .ref qf9, .ref qf10, .ref qf11, .ref qf12, .ref qf13, .ref qf14, .ref qf15, .ref qf16, .int v17, .ref qf18, .int v19, .int v20])), (qf13, .inl (cf13, 60, .inl f13))] s.heap := hP
  have hl := lv_entry ([.ref h0, .int a1]) (n := 2) (Nat.le_of_ble_eq_true rfl)
  rw [lg_entry_eq]
  generalize (lg_sl ([.ref h0, .int a1]) ++ List.replicate (2 - (lg_sl ([.ref h0, .int a1])).length) Slot.unset).toArray = ls at hl ⊢
  have hl : lv_has ls 2 [(0, .ref h0), (1, .int a1)] := hl
  obtain ⟨H, hH⟩ : ∃ H : Heap, s.heap = H := ⟨_, rfl⟩
  rw [hH] at hP ⊢
  have hS : va_S A s.heap H [] := by rw [← hH]; exact va_S.rf
  obtain ⟨locs, hlo⟩ : ∃ locs : List Loc, locs = [] := ⟨_, rfl⟩
  rw [← hlo] at hS ⊢
  unfold sp_t5_goOn at hsp
  refine lv_aload_n hx hb dX5_goOn_0 rfl (lv_at hl 0 rfl) ?_
  refine va_get (D := (dC, dI)) (ci := 5) (v := .ref qf13) (C := RX5) (T := TX5) (N := 21) hx hb hts uV_h3_X5 hown hK hP 0 rfl rfl 13 (by decide) (hts (.fieldLink RX5 29 "ClassMill$Machine" "places" "[I") mw_h3_87) (fun _ h9 => h9) rfl dX5_goOn_1 ?_
  refine lv_aload_n hx hb dX5_goOn_4 rfl (lv_at hl 0 rfl) ?_
  refine va_get (D := (dC, dI)) (ci := 5) (v := .int v17) (C := RX5) (T := TX5) (N := 21) hx hb hts uV_h3_X5 hown hK hP 0 rfl rfl 17 (by decide) (hts (.fieldLink RX5 97 "ClassMill$Machine" "top" "I") mw_h3_86) (fun _ h9 => h9) rfl dX5_goOn_5 ?_
  refine lv_dup2_11 hx hb dX5_goOn_8 rfl rfl ?_
  obtain ⟨hi_1, hsp⟩ := ox_in hsp
  refine va_iald hx hb hK hP 1 0 rfl rfl (i := v17) hi_1 dX5_goOn_9 ?_
  refine lv_iload_n hx hb dX5_goOn_10 rfl (lv_at hl 1 rfl) ?_
  refine lv_iadd hx hb dX5_goOn_11 ?_
  obtain ⟨hi_2, hsp⟩ := ox_in hsp
  refine va_iast hx hb hK hP hD hS 1 0 rfl rfl (i := v17) (x := ((f13 (v17 : Int32).toNatClampNeg) + a1)) hi_2 dX5_goOn_12 ?_
  clear hP hD hS
  intro H locs hP hD hS
  replace hP : va_P (dC, dI) vwCl [(h0, .inr (5, [.ref qf0, .int v1, .int v2, .int v3, .int v4, .int v5, .int v6, .int v7, .ref qf8, .ref qf9, .ref qf10, .ref qf11, .ref qf12, .ref qf13, .ref qf14, .ref qf15, .ref qf16, .int v17, .ref qf18, .int v19, .int v20])), (qf13, .inl (cf13, 60, .inl (upd f13 (v17 : Int32).toNatClampNeg ((f13 (v17 : Int32).toNatClampNeg) + a1))))] H := hP
  replace hD : va_D A [(h0, .inr (5, [.ref qf0, .int v1, .int v2, .int v3, .int v4, .int v5, .int v6, .int v7, .ref qf8, .ref qf9, .ref qf10, .ref qf11, .ref qf12, .ref qf13, .ref qf14, .ref qf15, .ref qf16, .int v17, .ref qf18, .int v19, .int v20])), (qf13, .inl (cf13, 60, .inl (upd f13 (v17 : Int32).toNatClampNeg ((f13 (v17 : Int32).toNatClampNeg) + a1))))] := hD
  have hr0 := Option.some.inj hsp
  clear hsp
  subst hr0
  have hP9 := hP.sub (ws' := [(h0, .inr (5, [.ref qf0, .int v1, .int v2, .int v3, .int v4, .int v5, .int v6, .int v7, .ref qf8, .ref qf9, .ref qf10, .ref qf11, .ref qf12, .ref qf13, .ref qf14, .ref qf15, .ref qf16, .int v17, .ref qf18, .int v19, .int v20])), (qf13, .inl (cf13, 60, .inl (upd f13 (v17 : Int32).toNatClampNeg ((f13 (v17 : Int32).toNatClampNeg) + a1))))]) [0, 1] rfl
  have hD9 := hD.sub (ws' := [(h0, .inr (5, [.ref qf0, .int v1, .int v2, .int v3, .int v4, .int v5, .int v6, .int v7, .ref qf8, .ref qf9, .ref qf10, .ref qf11, .ref qf12, .ref qf13, .ref qf14, .ref qf15, .ref qf16, .int v17, .ref qf18, .int v19, .int v20])), (qf13, .inl (cf13, 60, .inl (upd f13 (v17 : Int32).toNatClampNeg ((f13 (v17 : Int32).toNatClampNeg) + a1))))]) [0, 1] (by decide) rfl
  have hK9 := hK.sub (tys' := [(cf13, .int)]) [0] rfl
  exact W.vret hx hb hr (fun t ht hW => ⟨⟨(), rfl, trivial, by rw [ht]; exact hP9, va_K.moved hW.alike hK9, hD9⟩, hS.F ht⟩) hS.2.2 dX5_goOn_13
def sp_t5_give (nf : Nat) (a1 : Int32) (a2 : Int32) (v1 : Int32) (v17 : Int32) (f14 : Nat → Int32) (f16 : Nat → Int32) (f13 : Nat → Int32) : Option ((Nat → Int32) × (Nat → Int32) × (Nat → Int32) × Int32) := ((sp_t5_push nf a1 v1 v17 f14 f16).bind (fun p1 => ((sp_t5_goOn nf a2 v17 f13).bind (fun p2 => (some (p2, p1.1, p1.2.1, p1.2.2))))))
set_option maxHeartbeats 4000000 in
set_option maxRecDepth 100000 in
/-- ClassMill$Machine.give -/
theorem t5_give (l : Launch) (dC : Nat → ClassId) (dI : Nat → Nat → Nat) (sz : Nat) (h0 : Nat) (a1 : Int32) (a2 : Int32) (qf0 : Nat) (v1 : Int32) (v2 : Int32) (v3 : Int32) (v4 : Int32) (v5 : Int32) (v6 : Int32) (v7 : Int32) (qf8 : Nat) (qf9 : Nat) (qf10 : Nat) (qf11 : Nat) (qf12 : Nat) (qf13 : Nat) (qf14 : Nat) (qf15 : Nat) (qf16 : Nat) (v17 : Int32) (qf18 : Nat) (v19 : Int32) (v20 : Int32) (cf14 : ClassId) (f14 : (Nat → Int32)) (cf16 : ClassId) (f16 : (Nat → Int32)) (cf13 : ClassId) (f13 : (Nat → Int32)) (nf : Nat) (o13 : (Nat → Int32)) (o14 : (Nat → Int32)) (o16 : (Nat → Int32)) (w1 : Int32) (hsp : sp_t5_give nf a1 a2 v1 v17 f14 f16 f13 = some (o13, o14, o16, w1)) : Met l yX5_give (.code yX5_give cX5_give 3 none :: VS_h3) ({ frames := 1, cells := 0, slots := 0, locals := 22 }) (va_Pc [.ref h0, .int a1, .int a2] (fun U => U.heap.size = sz ∧ va_P (dC, dI) vwCl [(h0, .inr (5, [.ref qf0, .int v1, .int v2, .int v3, .int v4, .int v5, .int v6, .int v7, .ref qf8, .ref qf9, .ref qf10, .ref qf11, .ref qf12, .ref qf13, .ref qf14, .ref qf15, .ref qf16, .int v17, .ref qf18, .int v19, .int v20])), (qf14, .inl (cf14, 60, .inl f14)), (qf16, .inl (cf16, 1800, .inl f16)), (qf13, .inl (cf13, 60, .inl f13))] U.heap ∧ va_K (dC, dI) vwCl [(cf14, .int), (cf16, .int), (cf13, .int)] U ∧ va_D (fun _ => True) [(h0, .inr (5, [.ref qf0, .int v1, .int v2, .int v3, .int v4, .int v5, .int v6, .int v7, .ref qf8, .ref qf9, .ref qf10, .ref qf11, .ref qf12, .ref qf13, .ref qf14, .ref qf15, .ref qf16, .int v17, .ref qf18, .int v19, .int v20])), (qf14, .inl (cf14, 60, .inl f14)), (qf16, .inl (cf16, 1800, .inl f16)), (qf13, .inl (cf13, 60, .inl f13))])) (va_Qv (fun (u : Unit) => match u with | () => True) (fun (u : Unit) (t : State) => match u with | () => va_P (dC, dI) vwCl [(h0, .inr (5, [.ref qf0, .int w1, .int v2, .int v3, .int v4, .int v5, .int v6, .int v7, .ref qf8, .ref qf9, .ref qf10, .ref qf11, .ref qf12, .ref qf13, .ref qf14, .ref qf15, .ref qf16, .int v17, .ref qf18, .int v19, .int v20])), (qf14, .inl (cf14, 60, .inl o14)), (qf16, .inl (cf16, 1800, .inl o16)), (qf13, .inl (cf13, 60, .inl o13))] t.heap ∧ va_K (dC, dI) vwCl [(cf14, .int), (cf16, .int), (cf13, .int)] t ∧ va_D (va_A [(h0, .inr (5, [.ref qf0, .int v1, .int v2, .int v3, .int v4, .int v5, .int v6, .int v7, .ref qf8, .ref qf9, .ref qf10, .ref qf11, .ref qf12, .ref qf13, .ref qf14, .ref qf15, .ref qf16, .int v17, .ref qf18, .int v19, .int v20])), (qf14, .inl (cf14, 60, .inl f14)), (qf16, .inl (cf16, 1800, .inl f16)), (qf13, .inl (cf13, 60, .inl f13))] sz) [(h0, .inr (5, [.ref qf0, .int w1, .int v2, .int v3, .int v4, .int v5, .int v6, .int v7, .ref qf8, .ref qf9, .ref qf10, .ref qf11, .ref qf12, .ref qf13, .ref qf14, .ref qf15, .ref qf16, .int v17, .ref qf18, .int v19, .int v20])), (qf14, .inl (cf14, 60, .inl o14)), (qf16, .inl (cf16, 1800, .inl o16)), (qf13, .inl (cf13, 60, .inl o13))]) (va_A [(h0, .inr (5, [.ref qf0, .int v1, .int v2, .int v3, .int v4, .int v5, .int v6, .int v7, .ref qf8, .ref qf9, .ref qf10, .ref qf11, .ref qf12, .ref qf13, .ref qf14, .ref qf15, .ref qf16, .int v17, .ref qf18, .int v19, .int v20])), (qf14, .inl (cf14, 60, .inl f14)), (qf16, .inl (cf16, 1800, .inl f16)), (qf13, .inl (cf13, 60, .inl f13))] sz)) 0 0 (va_A [(h0, .inr (5, [.ref qf0, .int v1, .int v2, .int v3, .int v4, .int v5, .int v6, .int v7, .ref qf8, .ref qf9, .ref qf10, .ref qf11, .ref qf12, .ref qf13, .ref qf14, .ref qf15, .ref qf16, .int v17, .ref qf18, .int v19, .int v20])), (qf14, .inl (cf14, 60, .inl f14)), (qf16, .inl (cf16, 1800, .inl f16)), (qf13, .inl (cf13, 60, .inl f13))] sz) := by
  refine Met.ofW (cc := cX5_give) (maxL := 3) (ret := none) (by decide) rfl ?_
  intro p e s m args below meth c s₁ B hml hv
  obtain ⟨rfl, hsz, hP, hK, hD0⟩ := hv
  have hx := B.exec
  have hb := B.bytes
  have hr := B.returns
  have hts := atoms_spec (ws := (.code yX5_give cX5_give 3 none :: VS_h3)) B.pre
  replace hts := fun w (h : w ∈ VS_h3) => hts w (List.mem_cons_of_mem _ h)
  have hown : s.vm.findClass RX5 = some m.cls := findClass_of_methodNamed B.named
  have hlocks := B.notSynchronized
  subst hsz
  have hD := hD0.self (sz := s.heap.size)
  generalize hAe : va_A [(h0, .inr (5, [.ref qf0, .int v1, .int v2, .int v3, .int v4, .int v5, .int v6, .int v7, .ref qf8, .ref qf9, .ref qf10, .ref qf11, .ref qf12, .ref qf13, .ref qf14, .ref qf15, .ref qf16, .int v17, .ref qf18, .int v19, .int v20])), (qf14, .inl (cf14, 60, .inl f14)), (qf16, .inl (cf16, 1800, .inl f16)), (qf13, .inl (cf13, 60, .inl f13))] s.heap.size = A at hD  ⊢
  have hA : ∀ q : Nat, s.heap.size ≤ q → A q := fun q h => by rw [← hAe]; exact Or.inr h
  have hP : va_P (dC, dI) vwCl [(h0, .inr (5, [.ref qf0, .int v1, .int v2, .int v3, .int v4, .int v5, .int v6, .int v7, .ref qf8, .ref qf9, .ref qf10, .ref qf11, .ref qf12, .ref qf13, .ref qf14, .ref qf15, .ref qf16, .int v17, .ref qf18, .int v19, .int v20])), (qf14, .inl (cf14, 60, .inl f14)), (qf16, .inl (cf16, 1800, .inl f16)), (qf13, .inl (cf13, 60, .inl f13))] s.heap := hP
  have hl := lv_entry ([.ref h0, .int a1, .int a2]) (n := 3) (Nat.le_of_ble_eq_true rfl)
  rw [lg_entry_eq]
  generalize (lg_sl ([.ref h0, .int a1, .int a2]) ++ List.replicate (3 - (lg_sl ([.ref h0, .int a1, .int a2])).length) Slot.unset).toArray = ls at hl ⊢
  have hl : lv_has ls 3 [(0, .ref h0), (1, .int a1), (2, .int a2)] := hl
  obtain ⟨H, hH⟩ : ∃ H : Heap, s.heap = H := ⟨_, rfl⟩
  rw [hH] at hP ⊢
  have hS : va_S A s.heap H [] := by rw [← hH]; exact va_S.rf
  obtain ⟨locs, hlo⟩ : ∃ locs : List Loc, locs = [] := ⟨_, rfl⟩
  rw [← hlo] at hS ⊢
  unfold sp_t5_give at hsp
  refine lv_aload_n hx hb dX5_give_0 rfl (lv_at hl 0 rfl) ?_
  refine lv_iload_n hx hb dX5_give_1 rfl (lv_at hl 1 rfl) ?_
  obtain ⟨⟨g901_0, g901_1, u1_2⟩, hu_1, hsp⟩ := ox_bind hsp
  try dsimp only at hsp
  have hPc := hP.sub (ws' := [(h0, .inr (5, [.ref qf0, .int v1, .int v2, .int v3, .int v4, .int v5, .int v6, .int v7, .ref qf8, .ref qf9, .ref qf10, .ref qf11, .ref qf12, .ref qf13, .ref qf14, .ref qf15, .ref qf16, .int v17, .ref qf18, .int v19, .int v20])), (qf14, .inl (cf14, 60, .inl f14)), (qf16, .inl (cf16, 1800, .inl f16))]) [0, 1, 2] rfl
  have hDc := hD.sub (ws' := [(h0, .inr (5, [.ref qf0, .int v1, .int v2, .int v3, .int v4, .int v5, .int v6, .int v7, .ref qf8, .ref qf9, .ref qf10, .ref qf11, .ref qf12, .ref qf13, .ref qf14, .ref qf15, .ref qf16, .int v17, .ref qf18, .int v19, .int v20])), (qf14, .inl (cf14, 60, .inl f14)), (qf16, .inl (cf16, 1800, .inl f16))]) [0, 1, 2] (by decide) rfl
  have hKc := hK.sub (tys' := [(cf14, .int), (cf16, .int)]) [0, 1] rfl
  have hFc := va_free (wc := [(h0, .inr (5, [.ref qf0, .int v1, .int v2, .int v3, .int v4, .int v5, .int v6, .int v7, .ref qf8, .ref qf9, .ref qf10, .ref qf11, .ref qf12, .ref qf13, .ref qf14, .ref qf15, .ref qf16, .int v17, .ref qf18, .int v19, .int v20])), (qf14, .inl (cf14, 60, .inl f14)), (qf16, .inl (cf16, 1800, .inl f16))]) hD hS hA [0, 1, 2] rfl
  refine va_callv (va_runV (As := [.int a1]) (rest := []) ⟨hx, hb, hml, hown, hts⟩ (t5_push l dC dI H.size h0 a1 qf0 v1 v2 v3 v4 v5 v6 v7 qf8 qf9 qf10 qf11 qf12 qf13 qf14 qf15 qf16 v17 qf18 v19 v20 cf14 f14 cf16 f16 nf g901_0 g901_1 u1_2 hu_1) (cwV 1 hts gv_h3_15 rfl rfl rfl (by decide +kernel) ⟨Nat.le_of_ble_eq_true rfl, Nat.le_of_ble_eq_true rfl⟩) ⟨fun a U g mk q => by obtain ⟨q0, q1, qP, qK, qD⟩ := q; exact ⟨q0, q1, qP, va_K.moved (u := U) (U := U.calling g mk a) (Vm.Alike.refl U.vm) qK, qD⟩, va_recv hKc hPc (ci := 5) (q0 := 0) rfl rfl, fun U hU hW => ⟨rfl, by rw [hU], by rw [hU]; exact hPc, va_K.moved hW.alike hKc, hDc.weaken (fun _ _ _ _ => trivial)⟩⟩ rfl rfl hl.1 rfl (lv_room (Nat.le_of_ble_eq_true rfl)) dX5_give_2 ⟨Nat.le_of_ble_eq_true rfl, Nat.le_of_ble_eq_true rfl⟩) hS (fun q _ h => hFc q h) hFc ?_
  clear hS
  intro u t H1 locs ht hvm hw hB hz1 hk1 hS
  obtain ⟨⟩ := u
  obtain ⟨hP1, hK1, hD1⟩ := hB
  rw [ht] at hP1
  have hK1 := va_K.moved hvm.symm hK1
  try dsimp only at hw
  have hPD := va_join (wr := [(qf13, .inl (cf13, 60, .inl f13))]) (w1 := [(h0, .inr (5, [.ref qf0, .int u1_2, .int v2, .int v3, .int v4, .int v5, .int v6, .int v7, .ref qf8, .ref qf9, .ref qf10, .ref qf11, .ref qf12, .ref qf13, .ref qf14, .ref qf15, .ref qf16, .int v17, .ref qf18, .int v19, .int v20])), (qf14, .inl (cf14, 60, .inl g901_0)), (qf16, .inl (cf16, 1800, .inl g901_1))]) hP hD [0, 1, 2] [3] rfl rfl (by decide) (by decide) hk1 hFc hP1 hD1
  clear hP hD
  obtain ⟨hP, hD⟩ := hPD
  replace hK := (hK.sub (tys' := [(cf13, .int)]) [2] rfl).app hK1
  clear hPc hDc hKc hFc hP1 hK1 hD1 hz1 hk1 ht hvm
  generalize H1 = H at hP hS ⊢
  replace hP : va_P (dC, dI) vwCl [(qf13, .inl (cf13, 60, .inl f13)), (h0, .inr (5, [.ref qf0, .int u1_2, .int v2, .int v3, .int v4, .int v5, .int v6, .int v7, .ref qf8, .ref qf9, .ref qf10, .ref qf11, .ref qf12, .ref qf13, .ref qf14, .ref qf15, .ref qf16, .int v17, .ref qf18, .int v19, .int v20])), (qf14, .inl (cf14, 60, .inl g901_0)), (qf16, .inl (cf16, 1800, .inl g901_1))] H := hP
  replace hD : va_D A [(qf13, .inl (cf13, 60, .inl f13)), (h0, .inr (5, [.ref qf0, .int u1_2, .int v2, .int v3, .int v4, .int v5, .int v6, .int v7, .ref qf8, .ref qf9, .ref qf10, .ref qf11, .ref qf12, .ref qf13, .ref qf14, .ref qf15, .ref qf16, .int v17, .ref qf18, .int v19, .int v20])), (qf14, .inl (cf14, 60, .inl g901_0)), (qf16, .inl (cf16, 1800, .inl g901_1))] := hD
  replace hK : va_K (dC, dI) vwCl [(cf13, .int), (cf14, .int), (cf16, .int)] s := hK
  refine lv_aload_n hx hb dX5_give_5 rfl (lv_at hl 0 rfl) ?_
  refine lv_iload_n hx hb dX5_give_6 rfl (lv_at hl 2 rfl) ?_
  obtain ⟨g902_0, hu_2, hsp⟩ := ox_bind hsp
  try dsimp only at hsp
  have hPc := hP.sub (ws' := [(h0, .inr (5, [.ref qf0, .int u1_2, .int v2, .int v3, .int v4, .int v5, .int v6, .int v7, .ref qf8, .ref qf9, .ref qf10, .ref qf11, .ref qf12, .ref qf13, .ref qf14, .ref qf15, .ref qf16, .int v17, .ref qf18, .int v19, .int v20])), (qf13, .inl (cf13, 60, .inl f13))]) [1, 0] rfl
  have hDc := hD.sub (ws' := [(h0, .inr (5, [.ref qf0, .int u1_2, .int v2, .int v3, .int v4, .int v5, .int v6, .int v7, .ref qf8, .ref qf9, .ref qf10, .ref qf11, .ref qf12, .ref qf13, .ref qf14, .ref qf15, .ref qf16, .int v17, .ref qf18, .int v19, .int v20])), (qf13, .inl (cf13, 60, .inl f13))]) [1, 0] (by decide) rfl
  have hKc := hK.sub (tys' := [(cf13, .int)]) [0] rfl
  have hFc := va_free (wc := [(h0, .inr (5, [.ref qf0, .int u1_2, .int v2, .int v3, .int v4, .int v5, .int v6, .int v7, .ref qf8, .ref qf9, .ref qf10, .ref qf11, .ref qf12, .ref qf13, .ref qf14, .ref qf15, .ref qf16, .int v17, .ref qf18, .int v19, .int v20])), (qf13, .inl (cf13, 60, .inl f13))]) hD hS hA [1, 0] rfl
  refine va_callv (va_runV (As := [.int a2]) (rest := []) ⟨hx, hb, hml, hown, hts⟩ (t5_goOn l dC dI H.size h0 a2 qf0 u1_2 v2 v3 v4 v5 v6 v7 qf8 qf9 qf10 qf11 qf12 qf13 qf14 qf15 qf16 v17 qf18 v19 v20 cf13 f13 nf g902_0 hu_2) (cwV 1 hts gv_h3_16 rfl rfl rfl (by decide +kernel) ⟨Nat.le_of_ble_eq_true rfl, Nat.le_of_ble_eq_true rfl⟩) ⟨fun a U g mk q => by obtain ⟨q0, q1, qP, qK, qD⟩ := q; exact ⟨q0, q1, qP, va_K.moved (u := U) (U := U.calling g mk a) (Vm.Alike.refl U.vm) qK, qD⟩, va_recv hKc hPc (ci := 5) (q0 := 0) rfl rfl, fun U hU hW => ⟨rfl, by rw [hU], by rw [hU]; exact hPc, va_K.moved hW.alike hKc, hDc.weaken (fun _ _ _ _ => trivial)⟩⟩ rfl rfl hl.1 rfl (lv_room (Nat.le_of_ble_eq_true rfl)) dX5_give_7 ⟨Nat.le_of_ble_eq_true rfl, Nat.le_of_ble_eq_true rfl⟩) hS (fun q _ h => hFc q h) hFc ?_
  clear hS
  intro u t H1 locs ht hvm hw hB hz1 hk1 hS
  obtain ⟨⟩ := u
  obtain ⟨hP1, hK1, hD1⟩ := hB
  rw [ht] at hP1
  have hK1 := va_K.moved hvm.symm hK1
  try dsimp only at hw
  have hPD := va_join (wr := [(qf14, .inl (cf14, 60, .inl g901_0)), (qf16, .inl (cf16, 1800, .inl g901_1))]) (w1 := [(h0, .inr (5, [.ref qf0, .int u1_2, .int v2, .int v3, .int v4, .int v5, .int v6, .int v7, .ref qf8, .ref qf9, .ref qf10, .ref qf11, .ref qf12, .ref qf13, .ref qf14, .ref qf15, .ref qf16, .int v17, .ref qf18, .int v19, .int v20])), (qf13, .inl (cf13, 60, .inl g902_0))]) hP hD [1, 0] [2, 3] rfl rfl (by decide) (by decide) hk1 hFc hP1 hD1
  clear hP hD
  obtain ⟨hP, hD⟩ := hPD
  replace hK := (hK.sub (tys' := [(cf14, .int), (cf16, .int)]) [1, 2] rfl).app hK1
  clear hPc hDc hKc hFc hP1 hK1 hD1 hz1 hk1 ht hvm
  generalize H1 = H at hP hS ⊢
  replace hP : va_P (dC, dI) vwCl [(qf14, .inl (cf14, 60, .inl g901_0)), (qf16, .inl (cf16, 1800, .inl g901_1)), (h0, .inr (5, [.ref qf0, .int u1_2, .int v2, .int v3, .int v4, .int v5, .int v6, .int v7, .ref qf8, .ref qf9, .ref qf10, .ref qf11, .ref qf12, .ref qf13, .ref qf14, .ref qf15, .ref qf16, .int v17, .ref qf18, .int v19, .int v20])), (qf13, .inl (cf13, 60, .inl g902_0))] H := hP
  replace hD : va_D A [(qf14, .inl (cf14, 60, .inl g901_0)), (qf16, .inl (cf16, 1800, .inl g901_1)), (h0, .inr (5, [.ref qf0, .int u1_2, .int v2, .int v3, .int v4, .int v5, .int v6, .int v7, .ref qf8, .ref qf9, .ref qf10, .ref qf11, .ref qf12, .ref qf13, .ref qf14, .ref qf15, .ref qf16, .int v17, .ref qf18, .int v19, .int v20])), (qf13, .inl (cf13, 60, .inl g902_0))] := hD
  replace hK : va_K (dC, dI) vwCl [(cf14, .int), (cf16, .int), (cf13, .int)] s := hK
  have hr0 := Option.some.inj hsp
  clear hsp
  obtain ⟨hq0, hr1⟩ := Prod.mk.inj hr0
  clear hr0
  obtain ⟨hq1, hr2⟩ := Prod.mk.inj hr1
  clear hr1
  obtain ⟨hq2, hr3⟩ := Prod.mk.inj hr2
  clear hr2
  subst hq0
  subst hq1
  subst hq2
  subst hr3
  have hP9 := hP.sub (ws' := [(h0, .inr (5, [.ref qf0, .int u1_2, .int v2, .int v3, .int v4, .int v5, .int v6, .int v7, .ref qf8, .ref qf9, .ref qf10, .ref qf11, .ref qf12, .ref qf13, .ref qf14, .ref qf15, .ref qf16, .int v17, .ref qf18, .int v19, .int v20])), (qf14, .inl (cf14, 60, .inl g901_0)), (qf16, .inl (cf16, 1800, .inl g901_1)), (qf13, .inl (cf13, 60, .inl g902_0))]) [2, 0, 1, 3] rfl
  have hD9 := hD.sub (ws' := [(h0, .inr (5, [.ref qf0, .int u1_2, .int v2, .int v3, .int v4, .int v5, .int v6, .int v7, .ref qf8, .ref qf9, .ref qf10, .ref qf11, .ref qf12, .ref qf13, .ref qf14, .ref qf15, .ref qf16, .int v17, .ref qf18, .int v19, .int v20])), (qf14, .inl (cf14, 60, .inl g901_0)), (qf16, .inl (cf16, 1800, .inl g901_1)), (qf13, .inl (cf13, 60, .inl g902_0))]) [2, 0, 1, 3] (by decide) rfl
  have hK9 := hK.sub (tys' := [(cf14, .int), (cf16, .int), (cf13, .int)]) [0, 1, 2] rfl
  exact W.vret hx hb hr (fun t ht hW => ⟨⟨(), rfl, trivial, by rw [ht]; exact hP9, va_K.moved hW.alike hK9, hD9⟩, hS.F ht⟩) hS.2.2 dX5_give_10
def sp_t5_stepLocal (nf : Nat) (a1 : Int32) (a2 : Int32) (v1 : Int32) (v17 : Int32) (f15 : Nat → Int32) (f14 : Nat → Int32) (f16 : Nat → Int32) (f13 : Nat → Int32) : Option ((Nat → Int32) × (Nat → Int32) × (Nat → Int32) × (Nat → Int32) × Int32) := (if a2 < 30 then (if a1 = 21 then (if ((v17 * 30) + a2) < 0 then none else if 1800 ≤ (((v17 * 30) + a2) : Int32).toNatClampNeg then none else ((sp_t5_give nf (f15 (((v17 * 30) + a2) : Int32).toNatClampNeg) 2 v1 v17 f14 f16 f13).bind (fun p1 => (some (p1.1, p1.2.1, f15, p1.2.2.1, p1.2.2.2))))) else (if a1 = 25 then (if ((v17 * 30) + a2) < 0 then none else if 1800 ≤ (((v17 * 30) + a2) : Int32).toNatClampNeg then none else ((sp_t5_give nf (f15 (((v17 * 30) + a2) : Int32).toNatClampNeg) 2 v1 v17 f14 f16 f13).bind (fun p4 => (some (p4.1, p4.2.1, f15, p4.2.2.1, p4.2.2.2))))) else ((sp_t5_pop nf v1 v17 f14 f16).bind (fun p2 => (if ((v17 * 30) + a2) < 0 then none else if 1800 ≤ (((v17 * 30) + a2) : Int32).toNatClampNeg then none else ((sp_t5_goOn nf 2 v17 f13).bind (fun p3 => (some (p3, p2.2.1, (upd f15 (((v17 * 30) + a2) : Int32).toNatClampNeg p2.1), f16, p2.2.2))))))))) else (some (f13, f14, f15, f16, 6)))
set_option maxHeartbeats 4000000 in
set_option maxRecDepth 100000 in
/-- ClassMill$Machine.stepLocal -/
theorem t5_stepLocal (l : Launch) (dC : Nat → ClassId) (dI : Nat → Nat → Nat) (sz : Nat) (h0 : Nat) (a1 : Int32) (a2 : Int32) (qf0 : Nat) (v1 : Int32) (v2 : Int32) (v3 : Int32) (v4 : Int32) (v5 : Int32) (v6 : Int32) (v7 : Int32) (qf8 : Nat) (qf9 : Nat) (qf10 : Nat) (qf11 : Nat) (qf12 : Nat) (qf13 : Nat) (qf14 : Nat) (qf15 : Nat) (qf16 : Nat) (v17 : Int32) (qf18 : Nat) (v19 : Int32) (v20 : Int32) (cf15 : ClassId) (f15 : (Nat → Int32)) (cf14 : ClassId) (f14 : (Nat → Int32)) (cf16 : ClassId) (f16 : (Nat → Int32)) (cf13 : ClassId) (f13 : (Nat → Int32)) (nf : Nat) (o13 : (Nat → Int32)) (o14 : (Nat → Int32)) (o15 : (Nat → Int32)) (o16 : (Nat → Int32)) (w1 : Int32) (hsp : sp_t5_stepLocal nf a1 a2 v1 v17 f15 f14 f16 f13 = some (o13, o14, o15, o16, w1)) : Met l yX5_stepLocal (.code yX5_stepLocal cX5_stepLocal 4 none :: VS_h3) ({ frames := 2, cells := 0, slots := 0, locals := 44 }) (va_Pc [.ref h0, .int a1, .int a2] (fun U => U.heap.size = sz ∧ va_P (dC, dI) vwCl [(h0, .inr (5, [.ref qf0, .int v1, .int v2, .int v3, .int v4, .int v5, .int v6, .int v7, .ref qf8, .ref qf9, .ref qf10, .ref qf11, .ref qf12, .ref qf13, .ref qf14, .ref qf15, .ref qf16, .int v17, .ref qf18, .int v19, .int v20])), (qf15, .inl (cf15, 1800, .inl f15)), (qf14, .inl (cf14, 60, .inl f14)), (qf16, .inl (cf16, 1800, .inl f16)), (qf13, .inl (cf13, 60, .inl f13))] U.heap ∧ va_K (dC, dI) vwCl [(cf15, .int), (cf14, .int), (cf16, .int), (cf13, .int)] U ∧ va_D (fun _ => True) [(h0, .inr (5, [.ref qf0, .int v1, .int v2, .int v3, .int v4, .int v5, .int v6, .int v7, .ref qf8, .ref qf9, .ref qf10, .ref qf11, .ref qf12, .ref qf13, .ref qf14, .ref qf15, .ref qf16, .int v17, .ref qf18, .int v19, .int v20])), (qf15, .inl (cf15, 1800, .inl f15)), (qf14, .inl (cf14, 60, .inl f14)), (qf16, .inl (cf16, 1800, .inl f16)), (qf13, .inl (cf13, 60, .inl f13))])) (va_Qv (fun (u : Unit) => match u with | () => True) (fun (u : Unit) (t : State) => match u with | () => va_P (dC, dI) vwCl [(h0, .inr (5, [.ref qf0, .int w1, .int v2, .int v3, .int v4, .int v5, .int v6, .int v7, .ref qf8, .ref qf9, .ref qf10, .ref qf11, .ref qf12, .ref qf13, .ref qf14, .ref qf15, .ref qf16, .int v17, .ref qf18, .int v19, .int v20])), (qf15, .inl (cf15, 1800, .inl o15)), (qf14, .inl (cf14, 60, .inl o14)), (qf16, .inl (cf16, 1800, .inl o16)), (qf13, .inl (cf13, 60, .inl o13))] t.heap ∧ va_K (dC, dI) vwCl [(cf15, .int), (cf14, .int), (cf16, .int), (cf13, .int)] t ∧ va_D (va_A [(h0, .inr (5, [.ref qf0, .int v1, .int v2, .int v3, .int v4, .int v5, .int v6, .int v7, .ref qf8, .ref qf9, .ref qf10, .ref qf11, .ref qf12, .ref qf13, .ref qf14, .ref qf15, .ref qf16, .int v17, .ref qf18, .int v19, .int v20])), (qf15, .inl (cf15, 1800, .inl f15)), (qf14, .inl (cf14, 60, .inl f14)), (qf16, .inl (cf16, 1800, .inl f16)), (qf13, .inl (cf13, 60, .inl f13))] sz) [(h0, .inr (5, [.ref qf0, .int w1, .int v2, .int v3, .int v4, .int v5, .int v6, .int v7, .ref qf8, .ref qf9, .ref qf10, .ref qf11, .ref qf12, .ref qf13, .ref qf14, .ref qf15, .ref qf16, .int v17, .ref qf18, .int v19, .int v20])), (qf15, .inl (cf15, 1800, .inl o15)), (qf14, .inl (cf14, 60, .inl o14)), (qf16, .inl (cf16, 1800, .inl o16)), (qf13, .inl (cf13, 60, .inl o13))]) (va_A [(h0, .inr (5, [.ref qf0, .int v1, .int v2, .int v3, .int v4, .int v5, .int v6, .int v7, .ref qf8, .ref qf9, .ref qf10, .ref qf11, .ref qf12, .ref qf13, .ref qf14, .ref qf15, .ref qf16, .int v17, .ref qf18, .int v19, .int v20])), (qf15, .inl (cf15, 1800, .inl f15)), (qf14, .inl (cf14, 60, .inl f14)), (qf16, .inl (cf16, 1800, .inl f16)), (qf13, .inl (cf13, 60, .inl f13))] sz)) 0 0 (va_A [(h0, .inr (5, [.ref qf0, .int v1, .int v2, .int v3, .int v4, .int v5, .int v6, .int v7, .ref qf8, .ref qf9, .ref qf10, .ref qf11, .ref qf12, .ref qf13, .ref qf14, .ref qf15, .ref qf16, .int v17, .ref qf18, .int v19, .int v20])), (qf15, .inl (cf15, 1800, .inl f15)), (qf14, .inl (cf14, 60, .inl f14)), (qf16, .inl (cf16, 1800, .inl f16)), (qf13, .inl (cf13, 60, .inl f13))] sz) := by
  refine Met.ofW (cc := cX5_stepLocal) (maxL := 4) (ret := none) (by decide) rfl ?_
  intro p e s m args below meth c s₁ B hml hv
  obtain ⟨rfl, hsz, hP, hK, hD0⟩ := hv
  have hx := B.exec
  have hb := B.bytes
  have hr := B.returns
  have hts := atoms_spec (ws := (.code yX5_stepLocal cX5_stepLocal 4 none :: VS_h3)) B.pre
  replace hts := fun w (h : w ∈ VS_h3) => hts w (List.mem_cons_of_mem _ h)
  have hown : s.vm.findClass RX5 = some m.cls := findClass_of_methodNamed B.named
  have hlocks := B.notSynchronized
  subst hsz
  have hD := hD0.self (sz := s.heap.size)
  generalize hAe : va_A [(h0, .inr (5, [.ref qf0, .int v1, .int v2, .int v3, .int v4, .int v5, .int v6, .int v7, .ref qf8, .ref qf9, .ref qf10, .ref qf11, .ref qf12, .ref qf13, .ref qf14, .ref qf15, .ref qf16, .int v17, .ref qf18, .int v19, .int v20])), (qf15, .inl (cf15, 1800, .inl f15)), (qf14, .inl (cf14, 60, .inl f14)), (qf16, .inl (cf16, 1800, .inl f16)), (qf13, .inl (cf13, 60, .inl f13))] s.heap.size = A at hD  ⊢
  have hA : ∀ q : Nat, s.heap.size ≤ q → A q := fun q h => by rw [← hAe]; exact Or.inr h
  have hP : va_P (dC, dI) vwCl [(h0, .inr (5, [.ref qf0, .int v1, .int v2, .int v3, .int v4, .int v5, .int v6, .int v7, .ref qf8, .ref qf9, .ref qf10, .ref qf11, .ref qf12, .ref qf13, .ref qf14, .ref qf15, .ref qf16, .int v17, .ref qf18, .int v19, .int v20])), (qf15, .inl (cf15, 1800, .inl f15)), (qf14, .inl (cf14, 60, .inl f14)), (qf16, .inl (cf16, 1800, .inl f16)), (qf13, .inl (cf13, 60, .inl f13))] s.heap := hP
  have hl := lv_entry ([.ref h0, .int a1, .int a2]) (n := 4) (Nat.le_of_ble_eq_true rfl)
  rw [lg_entry_eq]
  generalize (lg_sl ([.ref h0, .int a1, .int a2]) ++ List.replicate (4 - (lg_sl ([.ref h0, .int a1, .int a2])).length) Slot.unset).toArray = ls at hl ⊢
  have hl : lv_has ls 4 [(0, .ref h0), (1, .int a1), (2, .int a2)] := hl
  obtain ⟨H, hH⟩ : ∃ H : Heap, s.heap = H := ⟨_, rfl⟩
  rw [hH] at hP ⊢
  have hS : va_S A s.heap H [] := by rw [← hH]; exact va_S.rf
  obtain ⟨locs, hlo⟩ : ∃ locs : List Loc, locs = [] := ⟨_, rfl⟩
  rw [← hlo] at hS ⊢
  unfold sp_t5_stepLocal at hsp
  refine lv_aload_n hx hb dX5_stepLocal_0 rfl (lv_at hl 0 rfl) ?_
  refine va_get (D := (dC, dI)) (ci := 5) (v := .int v17) (C := RX5) (T := TX5) (N := 21) hx hb hts uV_h3_X5 hown hK hP 0 rfl rfl 17 (by decide) (hts (.fieldLink RX5 97 "ClassMill$Machine" "top" "I") mw_h3_86) (fun _ h9 => h9) rfl dX5_stepLocal_1 ?_
  refine lv_bipush (v := 30) hx hb dX5_stepLocal_4 (by decide) ?_
  refine lv_imul hx hb dX5_stepLocal_6 ?_
  refine lv_iload_n hx hb dX5_stepLocal_7 rfl (lv_at hl 2 rfl) ?_
  refine lv_iadd hx hb dX5_stepLocal_8 ?_
  refine lv_istore_n (lv' := [(3, .int ((v17 * 30) + a2)), (0, .ref h0), (1, .int a1), (2, .int a2)]) hx hb dX5_stepLocal_9 rfl hl (by decide) rfl (fun ls hl => ?_)
  refine lv_iload_n hx hb dX5_stepLocal_10 rfl (lv_at hl 3 rfl) ?_
  refine lv_bipush (v := 30) hx hb dX5_stepLocal_11 (by decide) ?_
  refine lv_icmp_lt (tgt := 25) hx hb dX5_stepLocal_13 (by decide) (fun c_1 => ?_) (fun c_1 => ?_)
  · rw [if_pos c_1] at hsp
    refine lv_iload_n hx hb dX5_stepLocal_25 rfl (lv_at hl 2 rfl) ?_
    refine lv_bipush (v := 21) hx hb dX5_stepLocal_26 (by decide) ?_
    refine lv_icmp_eq (tgt := 37) hx hb dX5_stepLocal_28 (by decide) (fun c_2 => ?_) (fun c_2 => ?_)
    · rw [if_pos c_2] at hsp
      refine lv_aload_n hx hb dX5_stepLocal_37 rfl (lv_at hl 1 rfl) ?_
      refine lv_aload_n hx hb dX5_stepLocal_38 rfl (lv_at hl 1 rfl) ?_
      refine va_get (D := (dC, dI)) (ci := 5) (v := .ref qf15) (C := RX5) (T := TX5) (N := 21) hx hb hts uV_h3_X5 hown hK hP 0 rfl rfl 15 (by decide) (hts (.fieldLink RX5 35 "ClassMill$Machine" "locals" "[I") mw_h3_108) (fun _ h9 => h9) rfl dX5_stepLocal_39 ?_
      refine lv_iload_n hx hb dX5_stepLocal_42 rfl (lv_at hl 0 rfl) ?_
      obtain ⟨hi_3, hsp⟩ := ox_in hsp
      refine va_iald hx hb hK hP 1 0 rfl rfl (i := ((v17 * 30) + a2)) hi_3 dX5_stepLocal_43 ?_
      refine lv_iconst (v := 2) hx hb dX5_stepLocal_44 (by decide) ?_
      obtain ⟨⟨g901_0, g901_1, g901_2, u1_3⟩, hu_1, hsp⟩ := ox_bind hsp
      try dsimp only at hsp
      have hPc := hP.sub (ws' := [(h0, .inr (5, [.ref qf0, .int v1, .int v2, .int v3, .int v4, .int v5, .int v6, .int v7, .ref qf8, .ref qf9, .ref qf10, .ref qf11, .ref qf12, .ref qf13, .ref qf14, .ref qf15, .ref qf16, .int v17, .ref qf18, .int v19, .int v20])), (qf14, .inl (cf14, 60, .inl f14)), (qf16, .inl (cf16, 1800, .inl f16)), (qf13, .inl (cf13, 60, .inl f13))]) [0, 2, 3, 4] rfl
      have hDc := hD.sub (ws' := [(h0, .inr (5, [.ref qf0, .int v1, .int v2, .int v3, .int v4, .int v5, .int v6, .int v7, .ref qf8, .ref qf9, .ref qf10, .ref qf11, .ref qf12, .ref qf13, .ref qf14, .ref qf15, .ref qf16, .int v17, .ref qf18, .int v19, .int v20])), (qf14, .inl (cf14, 60, .inl f14)), (qf16, .inl (cf16, 1800, .inl f16)), (qf13, .inl (cf13, 60, .inl f13))]) [0, 2, 3, 4] (by decide) rfl
      have hKc := hK.sub (tys' := [(cf14, .int), (cf16, .int), (cf13, .int)]) [1, 2, 3] rfl
      have hFc := va_free (wc := [(h0, .inr (5, [.ref qf0, .int v1, .int v2, .int v3, .int v4, .int v5, .int v6, .int v7, .ref qf8, .ref qf9, .ref qf10, .ref qf11, .ref qf12, .ref qf13, .ref qf14, .ref qf15, .ref qf16, .int v17, .ref qf18, .int v19, .int v20])), (qf14, .inl (cf14, 60, .inl f14)), (qf16, .inl (cf16, 1800, .inl f16)), (qf13, .inl (cf13, 60, .inl f13))]) hD hS hA [0, 2, 3, 4] rfl
      refine va_callv (va_runV (As := [.int (f15 (((v17 * 30) + a2) : Int32).toNatClampNeg), .int 2]) (rest := []) ⟨hx, hb, hml, hown, hts⟩ (t5_give l dC dI H.size h0 ((f15 (((v17 * 30) + a2) : Int32).toNatClampNeg)) 2 qf0 v1 v2 v3 v4 v5 v6 v7 qf8 qf9 qf10 qf11 qf12 qf13 qf14 qf15 qf16 v17 qf18 v19 v20 cf14 f14 cf16 f16 cf13 f13 nf g901_0 g901_1 g901_2 u1_3 hu_1) (cwV 2 hts gv_h3_18 rfl rfl rfl (by decide +kernel) ⟨Nat.le_of_ble_eq_true rfl, Nat.le_of_ble_eq_true rfl⟩) ⟨fun a U g mk q => by obtain ⟨q0, q1, qP, qK, qD⟩ := q; exact ⟨q0, q1, qP, va_K.moved (u := U) (U := U.calling g mk a) (Vm.Alike.refl U.vm) qK, qD⟩, va_recv hKc hPc (ci := 5) (q0 := 0) rfl rfl, fun U hU hW => ⟨rfl, by rw [hU], by rw [hU]; exact hPc, va_K.moved hW.alike hKc, hDc.weaken (fun _ _ _ _ => trivial)⟩⟩ rfl rfl hl.1 rfl (lv_room (Nat.le_of_ble_eq_true rfl)) dX5_stepLocal_45 ⟨Nat.le_of_ble_eq_true rfl, Nat.le_of_ble_eq_true rfl⟩) hS (fun q _ h => hFc q h) hFc ?_
      clear hS
      intro u t H1 locs ht hvm hw hB hz1 hk1 hS
      obtain ⟨⟩ := u
      obtain ⟨hP1, hK1, hD1⟩ := hB
      rw [ht] at hP1
      have hK1 := va_K.moved hvm.symm hK1
      try dsimp only at hw
      have hPD := va_join (wr := [(qf15, .inl (cf15, 1800, .inl f15))]) (w1 := [(h0, .inr (5, [.ref qf0, .int u1_3, .int v2, .int v3, .int v4, .int v5, .int v6, .int v7, .ref qf8, .ref qf9, .ref qf10, .ref qf11, .ref qf12, .ref qf13, .ref qf14, .ref qf15, .ref qf16, .int v17, .ref qf18, .int v19, .int v20])), (qf14, .inl (cf14, 60, .inl g901_1)), (qf16, .inl (cf16, 1800, .inl g901_2)), (qf13, .inl (cf13, 60, .inl g901_0))]) hP hD [0, 2, 3, 4] [1] rfl rfl (by decide) (by decide) hk1 hFc hP1 hD1
      clear hP hD
      obtain ⟨hP, hD⟩ := hPD
      replace hK := (hK.sub (tys' := [(cf15, .int)]) [0] rfl).app hK1
      clear hPc hDc hKc hFc hP1 hK1 hD1 hz1 hk1 ht hvm
      generalize H1 = H at hP hS ⊢
      replace hP : va_P (dC, dI) vwCl [(qf15, .inl (cf15, 1800, .inl f15)), (h0, .inr (5, [.ref qf0, .int u1_3, .int v2, .int v3, .int v4, .int v5, .int v6, .int v7, .ref qf8, .ref qf9, .ref qf10, .ref qf11, .ref qf12, .ref qf13, .ref qf14, .ref qf15, .ref qf16, .int v17, .ref qf18, .int v19, .int v20])), (qf14, .inl (cf14, 60, .inl g901_1)), (qf16, .inl (cf16, 1800, .inl g901_2)), (qf13, .inl (cf13, 60, .inl g901_0))] H := hP
      replace hD : va_D A [(qf15, .inl (cf15, 1800, .inl f15)), (h0, .inr (5, [.ref qf0, .int u1_3, .int v2, .int v3, .int v4, .int v5, .int v6, .int v7, .ref qf8, .ref qf9, .ref qf10, .ref qf11, .ref qf12, .ref qf13, .ref qf14, .ref qf15, .ref qf16, .int v17, .ref qf18, .int v19, .int v20])), (qf14, .inl (cf14, 60, .inl g901_1)), (qf16, .inl (cf16, 1800, .inl g901_2)), (qf13, .inl (cf13, 60, .inl g901_0))] := hD
      replace hK : va_K (dC, dI) vwCl [(cf15, .int), (cf14, .int), (cf16, .int), (cf13, .int)] s := hK
      refine lv_goto (tgt := 66) hx hb dX5_stepLocal_48 (by decide) ?_
      have hr0 := Option.some.inj hsp
      clear hsp
      obtain ⟨hq0, hr1⟩ := Prod.mk.inj hr0
      clear hr0
      obtain ⟨hq1, hr2⟩ := Prod.mk.inj hr1
      clear hr1
      obtain ⟨hq2, hr3⟩ := Prod.mk.inj hr2
      clear hr2
      obtain ⟨hq3, hr4⟩ := Prod.mk.inj hr3
      clear hr3
      subst hq0
      subst hq1
      subst hq2
      subst hq3
      subst hr4
      have hP9 := hP.sub (ws' := [(h0, .inr (5, [.ref qf0, .int u1_3, .int v2, .int v3, .int v4, .int v5, .int v6, .int v7, .ref qf8, .ref qf9, .ref qf10, .ref qf11, .ref qf12, .ref qf13, .ref qf14, .ref qf15, .ref qf16, .int v17, .ref qf18, .int v19, .int v20])), (qf15, .inl (cf15, 1800, .inl f15)), (qf14, .inl (cf14, 60, .inl g901_1)), (qf16, .inl (cf16, 1800, .inl g901_2)), (qf13, .inl (cf13, 60, .inl g901_0))]) [1, 0, 2, 3, 4] rfl
      have hD9 := hD.sub (ws' := [(h0, .inr (5, [.ref qf0, .int u1_3, .int v2, .int v3, .int v4, .int v5, .int v6, .int v7, .ref qf8, .ref qf9, .ref qf10, .ref qf11, .ref qf12, .ref qf13, .ref qf14, .ref qf15, .ref qf16, .int v17, .ref qf18, .int v19, .int v20])), (qf15, .inl (cf15, 1800, .inl f15)), (qf14, .inl (cf14, 60, .inl g901_1)), (qf16, .inl (cf16, 1800, .inl g901_2)), (qf13, .inl (cf13, 60, .inl g901_0))]) [1, 0, 2, 3, 4] (by decide) rfl
      have hK9 := hK.sub (tys' := [(cf15, .int), (cf14, .int), (cf16, .int), (cf13, .int)]) [0, 1, 2, 3] rfl
      exact W.vret hx hb hr (fun t ht hW => ⟨⟨(), rfl, trivial, by rw [ht]; exact hP9, va_K.moved hW.alike hK9, hD9⟩, hS.F ht⟩) hS.2.2 dX5_stepLocal_66
    · rw [if_neg c_2] at hsp
      refine lv_iload_n hx hb dX5_stepLocal_31 rfl (lv_at hl 2 rfl) ?_
      refine lv_bipush (v := 25) hx hb dX5_stepLocal_32 (by decide) ?_
      refine lv_icmp_ne (tgt := 51) hx hb dX5_stepLocal_34 (by decide) (fun c_4 => ?_) (fun c_4 => ?_)
      · rw [if_neg c_4] at hsp
        refine lv_aload_n hx hb dX5_stepLocal_51 rfl (lv_at hl 1 rfl) ?_
        refine va_get (D := (dC, dI)) (ci := 5) (v := .ref qf15) (C := RX5) (T := TX5) (N := 21) hx hb hts uV_h3_X5 hown hK hP 0 rfl rfl 15 (by decide) (hts (.fieldLink RX5 35 "ClassMill$Machine" "locals" "[I") mw_h3_108) (fun _ h9 => h9) rfl dX5_stepLocal_52 ?_
        refine lv_iload_n hx hb dX5_stepLocal_55 rfl (lv_at hl 0 rfl) ?_
        refine lv_aload_n hx hb dX5_stepLocal_56 rfl (lv_at hl 1 rfl) ?_
        obtain ⟨⟨u2_0, g902_1, u2_2⟩, hu_2, hsp⟩ := ox_bind hsp
        try dsimp only at hsp
        have hPc := hP.sub (ws' := [(h0, .inr (5, [.ref qf0, .int v1, .int v2, .int v3, .int v4, .int v5, .int v6, .int v7, .ref qf8, .ref qf9, .ref qf10, .ref qf11, .ref qf12, .ref qf13, .ref qf14, .ref qf15, .ref qf16, .int v17, .ref qf18, .int v19, .int v20])), (qf14, .inl (cf14, 60, .inl f14)), (qf16, .inl (cf16, 1800, .inl f16))]) [0, 2, 3] rfl
        have hDc := hD.sub (ws' := [(h0, .inr (5, [.ref qf0, .int v1, .int v2, .int v3, .int v4, .int v5, .int v6, .int v7, .ref qf8, .ref qf9, .ref qf10, .ref qf11, .ref qf12, .ref qf13, .ref qf14, .ref qf15, .ref qf16, .int v17, .ref qf18, .int v19, .int v20])), (qf14, .inl (cf14, 60, .inl f14)), (qf16, .inl (cf16, 1800, .inl f16))]) [0, 2, 3] (by decide) rfl
        have hKc := hK.sub (tys' := [(cf14, .int), (cf16, .int)]) [1, 2] rfl
        have hFc := va_free (wc := [(h0, .inr (5, [.ref qf0, .int v1, .int v2, .int v3, .int v4, .int v5, .int v6, .int v7, .ref qf8, .ref qf9, .ref qf10, .ref qf11, .ref qf12, .ref qf13, .ref qf14, .ref qf15, .ref qf16, .int v17, .ref qf18, .int v19, .int v20])), (qf14, .inl (cf14, 60, .inl f14)), (qf16, .inl (cf16, 1800, .inl f16))]) hD hS hA [0, 2, 3] rfl
        refine va_calli (va_runV (As := []) (rest := [.int ((v17 * 30) + a2), .ref qf15]) ⟨hx, hb, hml, hown, hts⟩ (t5_pop l dC dI H.size h0 qf0 v1 v2 v3 v4 v5 v6 v7 qf8 qf9 qf10 qf11 qf12 qf13 qf14 qf15 qf16 v17 qf18 v19 v20 cf14 f14 cf16 f16 nf u2_0 g902_1 u2_2 hu_2) (cwV 0 hts gv_h3_19 rfl rfl rfl (by decide +kernel) ⟨Nat.le_of_ble_eq_true rfl, Nat.le_of_ble_eq_true rfl⟩) ⟨fun a U g mk q => by obtain ⟨q0, q1, qP, qK, qD⟩ := q; exact ⟨q0, q1, qP, va_K.moved (u := U) (U := U.calling g mk a) (Vm.Alike.refl U.vm) qK, qD⟩, va_recv hKc hPc (ci := 5) (q0 := 0) rfl rfl, fun U hU hW => ⟨rfl, by rw [hU], by rw [hU]; exact hPc, va_K.moved hW.alike hKc, hDc.weaken (fun _ _ _ _ => trivial)⟩⟩ rfl rfl hl.1 rfl (lv_room (Nat.le_of_ble_eq_true rfl)) dX5_stepLocal_57 ⟨Nat.le_of_ble_eq_true rfl, Nat.le_of_ble_eq_true rfl⟩) hS (fun q _ h => hFc q h) hFc ?_
        clear hS
        intro r_5 u t H1 locs ht hvm hw hB hz1 hk1 hS
        obtain ⟨⟩ := u
        obtain ⟨hP1, hK1, hD1⟩ := hB
        rw [ht] at hP1
        have hK1 := va_K.moved hvm.symm hK1
        try dsimp only at hw
        have hPD := va_join (wr := [(qf15, .inl (cf15, 1800, .inl f15)), (qf13, .inl (cf13, 60, .inl f13))]) (w1 := [(h0, .inr (5, [.ref qf0, .int u2_2, .int v2, .int v3, .int v4, .int v5, .int v6, .int v7, .ref qf8, .ref qf9, .ref qf10, .ref qf11, .ref qf12, .ref qf13, .ref qf14, .ref qf15, .ref qf16, .int v17, .ref qf18, .int v19, .int v20])), (qf14, .inl (cf14, 60, .inl g902_1)), (qf16, .inl (cf16, 1800, .inl f16))]) hP hD [0, 2, 3] [1, 4] rfl rfl (by decide) (by decide) hk1 hFc hP1 hD1
        clear hP hD
        obtain ⟨hP, hD⟩ := hPD
        replace hK := (hK.sub (tys' := [(cf15, .int), (cf13, .int)]) [0, 3] rfl).app hK1
        clear hPc hDc hKc hFc hP1 hK1 hD1 hz1 hk1 ht hvm
        generalize H1 = H at hP hS ⊢
        replace hP : va_P (dC, dI) vwCl [(qf15, .inl (cf15, 1800, .inl f15)), (qf13, .inl (cf13, 60, .inl f13)), (h0, .inr (5, [.ref qf0, .int u2_2, .int v2, .int v3, .int v4, .int v5, .int v6, .int v7, .ref qf8, .ref qf9, .ref qf10, .ref qf11, .ref qf12, .ref qf13, .ref qf14, .ref qf15, .ref qf16, .int v17, .ref qf18, .int v19, .int v20])), (qf14, .inl (cf14, 60, .inl g902_1)), (qf16, .inl (cf16, 1800, .inl f16))] H := hP
        replace hD : va_D A [(qf15, .inl (cf15, 1800, .inl f15)), (qf13, .inl (cf13, 60, .inl f13)), (h0, .inr (5, [.ref qf0, .int u2_2, .int v2, .int v3, .int v4, .int v5, .int v6, .int v7, .ref qf8, .ref qf9, .ref qf10, .ref qf11, .ref qf12, .ref qf13, .ref qf14, .ref qf15, .ref qf16, .int v17, .ref qf18, .int v19, .int v20])), (qf14, .inl (cf14, 60, .inl g902_1)), (qf16, .inl (cf16, 1800, .inl f16))] := hD
        replace hK : va_K (dC, dI) vwCl [(cf15, .int), (cf13, .int), (cf14, .int), (cf16, .int)] s := hK
        obtain rfl := hw
        obtain ⟨hi_6, hsp⟩ := ox_in hsp
        refine va_iast hx hb hK hP hD hS 0 0 rfl rfl (i := ((v17 * 30) + a2)) (x := u2_0) hi_6 dX5_stepLocal_60 ?_
        clear hP hD hS
        intro H locs hP hD hS
        replace hP : va_P (dC, dI) vwCl [(qf15, .inl (cf15, 1800, .inl (upd f15 (((v17 * 30) + a2) : Int32).toNatClampNeg u2_0))), (qf13, .inl (cf13, 60, .inl f13)), (h0, .inr (5, [.ref qf0, .int u2_2, .int v2, .int v3, .int v4, .int v5, .int v6, .int v7, .ref qf8, .ref qf9, .ref qf10, .ref qf11, .ref qf12, .ref qf13, .ref qf14, .ref qf15, .ref qf16, .int v17, .ref qf18, .int v19, .int v20])), (qf14, .inl (cf14, 60, .inl g902_1)), (qf16, .inl (cf16, 1800, .inl f16))] H := hP
        replace hD : va_D A [(qf15, .inl (cf15, 1800, .inl (upd f15 (((v17 * 30) + a2) : Int32).toNatClampNeg u2_0))), (qf13, .inl (cf13, 60, .inl f13)), (h0, .inr (5, [.ref qf0, .int u2_2, .int v2, .int v3, .int v4, .int v5, .int v6, .int v7, .ref qf8, .ref qf9, .ref qf10, .ref qf11, .ref qf12, .ref qf13, .ref qf14, .ref qf15, .ref qf16, .int v17, .ref qf18, .int v19, .int v20])), (qf14, .inl (cf14, 60, .inl g902_1)), (qf16, .inl (cf16, 1800, .inl f16))] := hD
        refine lv_aload_n hx hb dX5_stepLocal_61 rfl (lv_at hl 1 rfl) ?_
        refine lv_iconst (v := 2) hx hb dX5_stepLocal_62 (by decide) ?_
        obtain ⟨g903_0, hu_3, hsp⟩ := ox_bind hsp
        try dsimp only at hsp
        have hPc := hP.sub (ws' := [(h0, .inr (5, [.ref qf0, .int u2_2, .int v2, .int v3, .int v4, .int v5, .int v6, .int v7, .ref qf8, .ref qf9, .ref qf10, .ref qf11, .ref qf12, .ref qf13, .ref qf14, .ref qf15, .ref qf16, .int v17, .ref qf18, .int v19, .int v20])), (qf13, .inl (cf13, 60, .inl f13))]) [2, 1] rfl
        have hDc := hD.sub (ws' := [(h0, .inr (5, [.ref qf0, .int u2_2, .int v2, .int v3, .int v4, .int v5, .int v6, .int v7, .ref qf8, .ref qf9, .ref qf10, .ref qf11, .ref qf12, .ref qf13, .ref qf14, .ref qf15, .ref qf16, .int v17, .ref qf18, .int v19, .int v20])), (qf13, .inl (cf13, 60, .inl f13))]) [2, 1] (by decide) rfl
        have hKc := hK.sub (tys' := [(cf13, .int)]) [1] rfl
        have hFc := va_free (wc := [(h0, .inr (5, [.ref qf0, .int u2_2, .int v2, .int v3, .int v4, .int v5, .int v6, .int v7, .ref qf8, .ref qf9, .ref qf10, .ref qf11, .ref qf12, .ref qf13, .ref qf14, .ref qf15, .ref qf16, .int v17, .ref qf18, .int v19, .int v20])), (qf13, .inl (cf13, 60, .inl f13))]) hD hS hA [2, 1] rfl
        refine va_callv (va_runV (As := [.int 2]) (rest := []) ⟨hx, hb, hml, hown, hts⟩ (t5_goOn l dC dI H.size h0 2 qf0 u2_2 v2 v3 v4 v5 v6 v7 qf8 qf9 qf10 qf11 qf12 qf13 qf14 qf15 qf16 v17 qf18 v19 v20 cf13 f13 nf g903_0 hu_3) (cwV 1 hts gv_h3_16 rfl rfl rfl (by decide +kernel) ⟨Nat.le_of_ble_eq_true rfl, Nat.le_of_ble_eq_true rfl⟩) ⟨fun a U g mk q => by obtain ⟨q0, q1, qP, qK, qD⟩ := q; exact ⟨q0, q1, qP, va_K.moved (u := U) (U := U.calling g mk a) (Vm.Alike.refl U.vm) qK, qD⟩, va_recv hKc hPc (ci := 5) (q0 := 0) rfl rfl, fun U hU hW => ⟨rfl, by rw [hU], by rw [hU]; exact hPc, va_K.moved hW.alike hKc, hDc.weaken (fun _ _ _ _ => trivial)⟩⟩ rfl rfl hl.1 rfl (lv_room (Nat.le_of_ble_eq_true rfl)) dX5_stepLocal_63 ⟨Nat.le_of_ble_eq_true rfl, Nat.le_of_ble_eq_true rfl⟩) hS (fun q _ h => hFc q h) hFc ?_
        clear hS
        intro u t H1 locs ht hvm hw hB hz1 hk1 hS
        obtain ⟨⟩ := u
        obtain ⟨hP1, hK1, hD1⟩ := hB
        rw [ht] at hP1
        have hK1 := va_K.moved hvm.symm hK1
        try dsimp only at hw
        have hPD := va_join (wr := [(qf15, .inl (cf15, 1800, .inl (upd f15 (((v17 * 30) + a2) : Int32).toNatClampNeg u2_0))), (qf14, .inl (cf14, 60, .inl g902_1)), (qf16, .inl (cf16, 1800, .inl f16))]) (w1 := [(h0, .inr (5, [.ref qf0, .int u2_2, .int v2, .int v3, .int v4, .int v5, .int v6, .int v7, .ref qf8, .ref qf9, .ref qf10, .ref qf11, .ref qf12, .ref qf13, .ref qf14, .ref qf15, .ref qf16, .int v17, .ref qf18, .int v19, .int v20])), (qf13, .inl (cf13, 60, .inl g903_0))]) hP hD [2, 1] [0, 3, 4] rfl rfl (by decide) (by decide) hk1 hFc hP1 hD1
        clear hP hD
        obtain ⟨hP, hD⟩ := hPD
        replace hK := (hK.sub (tys' := [(cf15, .int), (cf14, .int), (cf16, .int)]) [0, 2, 3] rfl).app hK1
        clear hPc hDc hKc hFc hP1 hK1 hD1 hz1 hk1 ht hvm
        generalize H1 = H at hP hS ⊢
        replace hP : va_P (dC, dI) vwCl [(qf15, .inl (cf15, 1800, .inl (upd f15 (((v17 * 30) + a2) : Int32).toNatClampNeg u2_0))), (qf14, .inl (cf14, 60, .inl g902_1)), (qf16, .inl (cf16, 1800, .inl f16)), (h0, .inr (5, [.ref qf0, .int u2_2, .int v2, .int v3, .int v4, .int v5, .int v6, .int v7, .ref qf8, .ref qf9, .ref qf10, .ref qf11, .ref qf12, .ref qf13, .ref qf14, .ref qf15, .ref qf16, .int v17, .ref qf18, .int v19, .int v20])), (qf13, .inl (cf13, 60, .inl g903_0))] H := hP
        replace hD : va_D A [(qf15, .inl (cf15, 1800, .inl (upd f15 (((v17 * 30) + a2) : Int32).toNatClampNeg u2_0))), (qf14, .inl (cf14, 60, .inl g902_1)), (qf16, .inl (cf16, 1800, .inl f16)), (h0, .inr (5, [.ref qf0, .int u2_2, .int v2, .int v3, .int v4, .int v5, .int v6, .int v7, .ref qf8, .ref qf9, .ref qf10, .ref qf11, .ref qf12, .ref qf13, .ref qf14, .ref qf15, .ref qf16, .int v17, .ref qf18, .int v19, .int v20])), (qf13, .inl (cf13, 60, .inl g903_0))] := hD
        replace hK : va_K (dC, dI) vwCl [(cf15, .int), (cf14, .int), (cf16, .int), (cf13, .int)] s := hK
        have hr0 := Option.some.inj hsp
        clear hsp
        obtain ⟨hq0, hr1⟩ := Prod.mk.inj hr0
        clear hr0
        obtain ⟨hq1, hr2⟩ := Prod.mk.inj hr1
        clear hr1
        obtain ⟨hq2, hr3⟩ := Prod.mk.inj hr2
        clear hr2
        obtain ⟨hq3, hr4⟩ := Prod.mk.inj hr3
        clear hr3
        subst hq0
        subst hq1
        subst hq2
        subst hq3
        subst hr4
        have hP9 := hP.sub (ws' := [(h0, .inr (5, [.ref qf0, .int u2_2, .int v2, .int v3, .int v4, .int v5, .int v6, .int v7, .ref qf8, .ref qf9, .ref qf10, .ref qf11, .ref qf12, .ref qf13, .ref qf14, .ref qf15, .ref qf16, .int v17, .ref qf18, .int v19, .int v20])), (qf15, .inl (cf15, 1800, .inl (upd f15 (((v17 * 30) + a2) : Int32).toNatClampNeg u2_0))), (qf14, .inl (cf14, 60, .inl g902_1)), (qf16, .inl (cf16, 1800, .inl f16)), (qf13, .inl (cf13, 60, .inl g903_0))]) [3, 0, 1, 2, 4] rfl
        have hD9 := hD.sub (ws' := [(h0, .inr (5, [.ref qf0, .int u2_2, .int v2, .int v3, .int v4, .int v5, .int v6, .int v7, .ref qf8, .ref qf9, .ref qf10, .ref qf11, .ref qf12, .ref qf13, .ref qf14, .ref qf15, .ref qf16, .int v17, .ref qf18, .int v19, .int v20])), (qf15, .inl (cf15, 1800, .inl (upd f15 (((v17 * 30) + a2) : Int32).toNatClampNeg u2_0))), (qf14, .inl (cf14, 60, .inl g902_1)), (qf16, .inl (cf16, 1800, .inl f16)), (qf13, .inl (cf13, 60, .inl g903_0))]) [3, 0, 1, 2, 4] (by decide) rfl
        have hK9 := hK.sub (tys' := [(cf15, .int), (cf14, .int), (cf16, .int), (cf13, .int)]) [0, 1, 2, 3] rfl
        exact W.vret hx hb hr (fun t ht hW => ⟨⟨(), rfl, trivial, by rw [ht]; exact hP9, va_K.moved hW.alike hK9, hD9⟩, hS.F ht⟩) hS.2.2 dX5_stepLocal_66
      · rw [if_pos c_4] at hsp
        refine lv_aload_n hx hb dX5_stepLocal_37 rfl (lv_at hl 1 rfl) ?_
        refine lv_aload_n hx hb dX5_stepLocal_38 rfl (lv_at hl 1 rfl) ?_
        refine va_get (D := (dC, dI)) (ci := 5) (v := .ref qf15) (C := RX5) (T := TX5) (N := 21) hx hb hts uV_h3_X5 hown hK hP 0 rfl rfl 15 (by decide) (hts (.fieldLink RX5 35 "ClassMill$Machine" "locals" "[I") mw_h3_108) (fun _ h9 => h9) rfl dX5_stepLocal_39 ?_
        refine lv_iload_n hx hb dX5_stepLocal_42 rfl (lv_at hl 0 rfl) ?_
        obtain ⟨hi_7, hsp⟩ := ox_in hsp
        refine va_iald hx hb hK hP 1 0 rfl rfl (i := ((v17 * 30) + a2)) hi_7 dX5_stepLocal_43 ?_
        refine lv_iconst (v := 2) hx hb dX5_stepLocal_44 (by decide) ?_
        obtain ⟨⟨g904_0, g904_1, g904_2, u4_3⟩, hu_4, hsp⟩ := ox_bind hsp
        try dsimp only at hsp
        have hPc := hP.sub (ws' := [(h0, .inr (5, [.ref qf0, .int v1, .int v2, .int v3, .int v4, .int v5, .int v6, .int v7, .ref qf8, .ref qf9, .ref qf10, .ref qf11, .ref qf12, .ref qf13, .ref qf14, .ref qf15, .ref qf16, .int v17, .ref qf18, .int v19, .int v20])), (qf14, .inl (cf14, 60, .inl f14)), (qf16, .inl (cf16, 1800, .inl f16)), (qf13, .inl (cf13, 60, .inl f13))]) [0, 2, 3, 4] rfl
        have hDc := hD.sub (ws' := [(h0, .inr (5, [.ref qf0, .int v1, .int v2, .int v3, .int v4, .int v5, .int v6, .int v7, .ref qf8, .ref qf9, .ref qf10, .ref qf11, .ref qf12, .ref qf13, .ref qf14, .ref qf15, .ref qf16, .int v17, .ref qf18, .int v19, .int v20])), (qf14, .inl (cf14, 60, .inl f14)), (qf16, .inl (cf16, 1800, .inl f16)), (qf13, .inl (cf13, 60, .inl f13))]) [0, 2, 3, 4] (by decide) rfl
        have hKc := hK.sub (tys' := [(cf14, .int), (cf16, .int), (cf13, .int)]) [1, 2, 3] rfl
        have hFc := va_free (wc := [(h0, .inr (5, [.ref qf0, .int v1, .int v2, .int v3, .int v4, .int v5, .int v6, .int v7, .ref qf8, .ref qf9, .ref qf10, .ref qf11, .ref qf12, .ref qf13, .ref qf14, .ref qf15, .ref qf16, .int v17, .ref qf18, .int v19, .int v20])), (qf14, .inl (cf14, 60, .inl f14)), (qf16, .inl (cf16, 1800, .inl f16)), (qf13, .inl (cf13, 60, .inl f13))]) hD hS hA [0, 2, 3, 4] rfl
        refine va_callv (va_runV (As := [.int (f15 (((v17 * 30) + a2) : Int32).toNatClampNeg), .int 2]) (rest := []) ⟨hx, hb, hml, hown, hts⟩ (t5_give l dC dI H.size h0 ((f15 (((v17 * 30) + a2) : Int32).toNatClampNeg)) 2 qf0 v1 v2 v3 v4 v5 v6 v7 qf8 qf9 qf10 qf11 qf12 qf13 qf14 qf15 qf16 v17 qf18 v19 v20 cf14 f14 cf16 f16 cf13 f13 nf g904_0 g904_1 g904_2 u4_3 hu_4) (cwV 2 hts gv_h3_18 rfl rfl rfl (by decide +kernel) ⟨Nat.le_of_ble_eq_true rfl, Nat.le_of_ble_eq_true rfl⟩) ⟨fun a U g mk q => by obtain ⟨q0, q1, qP, qK, qD⟩ := q; exact ⟨q0, q1, qP, va_K.moved (u := U) (U := U.calling g mk a) (Vm.Alike.refl U.vm) qK, qD⟩, va_recv hKc hPc (ci := 5) (q0 := 0) rfl rfl, fun U hU hW => ⟨rfl, by rw [hU], by rw [hU]; exact hPc, va_K.moved hW.alike hKc, hDc.weaken (fun _ _ _ _ => trivial)⟩⟩ rfl rfl hl.1 rfl (lv_room (Nat.le_of_ble_eq_true rfl)) dX5_stepLocal_45 ⟨Nat.le_of_ble_eq_true rfl, Nat.le_of_ble_eq_true rfl⟩) hS (fun q _ h => hFc q h) hFc ?_
        clear hS
        intro u t H1 locs ht hvm hw hB hz1 hk1 hS
        obtain ⟨⟩ := u
        obtain ⟨hP1, hK1, hD1⟩ := hB
        rw [ht] at hP1
        have hK1 := va_K.moved hvm.symm hK1
        try dsimp only at hw
        have hPD := va_join (wr := [(qf15, .inl (cf15, 1800, .inl f15))]) (w1 := [(h0, .inr (5, [.ref qf0, .int u4_3, .int v2, .int v3, .int v4, .int v5, .int v6, .int v7, .ref qf8, .ref qf9, .ref qf10, .ref qf11, .ref qf12, .ref qf13, .ref qf14, .ref qf15, .ref qf16, .int v17, .ref qf18, .int v19, .int v20])), (qf14, .inl (cf14, 60, .inl g904_1)), (qf16, .inl (cf16, 1800, .inl g904_2)), (qf13, .inl (cf13, 60, .inl g904_0))]) hP hD [0, 2, 3, 4] [1] rfl rfl (by decide) (by decide) hk1 hFc hP1 hD1
        clear hP hD
        obtain ⟨hP, hD⟩ := hPD
        replace hK := (hK.sub (tys' := [(cf15, .int)]) [0] rfl).app hK1
        clear hPc hDc hKc hFc hP1 hK1 hD1 hz1 hk1 ht hvm
        generalize H1 = H at hP hS ⊢
        replace hP : va_P (dC, dI) vwCl [(qf15, .inl (cf15, 1800, .inl f15)), (h0, .inr (5, [.ref qf0, .int u4_3, .int v2, .int v3, .int v4, .int v5, .int v6, .int v7, .ref qf8, .ref qf9, .ref qf10, .ref qf11, .ref qf12, .ref qf13, .ref qf14, .ref qf15, .ref qf16, .int v17, .ref qf18, .int v19, .int v20])), (qf14, .inl (cf14, 60, .inl g904_1)), (qf16, .inl (cf16, 1800, .inl g904_2)), (qf13, .inl (cf13, 60, .inl g904_0))] H := hP
        replace hD : va_D A [(qf15, .inl (cf15, 1800, .inl f15)), (h0, .inr (5, [.ref qf0, .int u4_3, .int v2, .int v3, .int v4, .int v5, .int v6, .int v7, .ref qf8, .ref qf9, .ref qf10, .ref qf11, .ref qf12, .ref qf13, .ref qf14, .ref qf15, .ref qf16, .int v17, .ref qf18, .int v19, .int v20])), (qf14, .inl (cf14, 60, .inl g904_1)), (qf16, .inl (cf16, 1800, .inl g904_2)), (qf13, .inl (cf13, 60, .inl g904_0))] := hD
        replace hK : va_K (dC, dI) vwCl [(cf15, .int), (cf14, .int), (cf16, .int), (cf13, .int)] s := hK
        refine lv_goto (tgt := 66) hx hb dX5_stepLocal_48 (by decide) ?_
        have hr0 := Option.some.inj hsp
        clear hsp
        obtain ⟨hq0, hr1⟩ := Prod.mk.inj hr0
        clear hr0
        obtain ⟨hq1, hr2⟩ := Prod.mk.inj hr1
        clear hr1
        obtain ⟨hq2, hr3⟩ := Prod.mk.inj hr2
        clear hr2
        obtain ⟨hq3, hr4⟩ := Prod.mk.inj hr3
        clear hr3
        subst hq0
        subst hq1
        subst hq2
        subst hq3
        subst hr4
        have hP9 := hP.sub (ws' := [(h0, .inr (5, [.ref qf0, .int u4_3, .int v2, .int v3, .int v4, .int v5, .int v6, .int v7, .ref qf8, .ref qf9, .ref qf10, .ref qf11, .ref qf12, .ref qf13, .ref qf14, .ref qf15, .ref qf16, .int v17, .ref qf18, .int v19, .int v20])), (qf15, .inl (cf15, 1800, .inl f15)), (qf14, .inl (cf14, 60, .inl g904_1)), (qf16, .inl (cf16, 1800, .inl g904_2)), (qf13, .inl (cf13, 60, .inl g904_0))]) [1, 0, 2, 3, 4] rfl
        have hD9 := hD.sub (ws' := [(h0, .inr (5, [.ref qf0, .int u4_3, .int v2, .int v3, .int v4, .int v5, .int v6, .int v7, .ref qf8, .ref qf9, .ref qf10, .ref qf11, .ref qf12, .ref qf13, .ref qf14, .ref qf15, .ref qf16, .int v17, .ref qf18, .int v19, .int v20])), (qf15, .inl (cf15, 1800, .inl f15)), (qf14, .inl (cf14, 60, .inl g904_1)), (qf16, .inl (cf16, 1800, .inl g904_2)), (qf13, .inl (cf13, 60, .inl g904_0))]) [1, 0, 2, 3, 4] (by decide) rfl
        have hK9 := hK.sub (tys' := [(cf15, .int), (cf14, .int), (cf16, .int), (cf13, .int)]) [0, 1, 2, 3] rfl
        exact W.vret hx hb hr (fun t ht hW => ⟨⟨(), rfl, trivial, by rw [ht]; exact hP9, va_K.moved hW.alike hK9, hD9⟩, hS.F ht⟩) hS.2.2 dX5_stepLocal_66
  · rw [if_neg c_1] at hsp
    refine lv_aload_n hx hb dX5_stepLocal_16 rfl (lv_at hl 1 rfl) ?_
    refine lv_bipush (v := 6) hx hb dX5_stepLocal_17 (by decide) ?_
    refine va_put (D := (dC, dI)) (ci := 5) (v := .int 6) (ty := .int) (C := RX5) (T := TX5) (N := 21) hx hb hts uV_h3_X5 tyX5 tyX5_ok nmX5 hown hK hP hD hS 0 rfl rfl 1 (by decide) (hts (.fieldLink RX5 54 "ClassMill$Machine" "state" "I") mw_h3_73) (fun _ h9 => h9) rfl (by decide +kernel) rfl rfl (Nat.le_of_ble_eq_true rfl) dX5_stepLocal_19 ?_
    clear hP hD hS
    intro H locs hP hD hS
    replace hP : va_P (dC, dI) vwCl [(h0, .inr (5, [.ref qf0, .int 6, .int v2, .int v3, .int v4, .int v5, .int v6, .int v7, .ref qf8, .ref qf9, .ref qf10, .ref qf11, .ref qf12, .ref qf13, .ref qf14, .ref qf15, .ref qf16, .int v17, .ref qf18, .int v19, .int v20])), (qf15, .inl (cf15, 1800, .inl f15)), (qf14, .inl (cf14, 60, .inl f14)), (qf16, .inl (cf16, 1800, .inl f16)), (qf13, .inl (cf13, 60, .inl f13))] H := hP
    replace hD : va_D A [(h0, .inr (5, [.ref qf0, .int 6, .int v2, .int v3, .int v4, .int v5, .int v6, .int v7, .ref qf8, .ref qf9, .ref qf10, .ref qf11, .ref qf12, .ref qf13, .ref qf14, .ref qf15, .ref qf16, .int v17, .ref qf18, .int v19, .int v20])), (qf15, .inl (cf15, 1800, .inl f15)), (qf14, .inl (cf14, 60, .inl f14)), (qf16, .inl (cf16, 1800, .inl f16)), (qf13, .inl (cf13, 60, .inl f13))] := hD
    refine lv_goto (tgt := 66) hx hb dX5_stepLocal_22 (by decide) ?_
    have hr0 := Option.some.inj hsp
    clear hsp
    obtain ⟨hq0, hr1⟩ := Prod.mk.inj hr0
    clear hr0
    obtain ⟨hq1, hr2⟩ := Prod.mk.inj hr1
    clear hr1
    obtain ⟨hq2, hr3⟩ := Prod.mk.inj hr2
    clear hr2
    obtain ⟨hq3, hr4⟩ := Prod.mk.inj hr3
    clear hr3
    subst hq0
    subst hq1
    subst hq2
    subst hq3
    subst hr4
    have hP9 := hP.sub (ws' := [(h0, .inr (5, [.ref qf0, .int 6, .int v2, .int v3, .int v4, .int v5, .int v6, .int v7, .ref qf8, .ref qf9, .ref qf10, .ref qf11, .ref qf12, .ref qf13, .ref qf14, .ref qf15, .ref qf16, .int v17, .ref qf18, .int v19, .int v20])), (qf15, .inl (cf15, 1800, .inl f15)), (qf14, .inl (cf14, 60, .inl f14)), (qf16, .inl (cf16, 1800, .inl f16)), (qf13, .inl (cf13, 60, .inl f13))]) [0, 1, 2, 3, 4] rfl
    have hD9 := hD.sub (ws' := [(h0, .inr (5, [.ref qf0, .int 6, .int v2, .int v3, .int v4, .int v5, .int v6, .int v7, .ref qf8, .ref qf9, .ref qf10, .ref qf11, .ref qf12, .ref qf13, .ref qf14, .ref qf15, .ref qf16, .int v17, .ref qf18, .int v19, .int v20])), (qf15, .inl (cf15, 1800, .inl f15)), (qf14, .inl (cf14, 60, .inl f14)), (qf16, .inl (cf16, 1800, .inl f16)), (qf13, .inl (cf13, 60, .inl f13))]) [0, 1, 2, 3, 4] (by decide) rfl
    have hK9 := hK.sub (tys' := [(cf15, .int), (cf14, .int), (cf16, .int), (cf13, .int)]) [0, 1, 2, 3] rfl
    exact W.vret hx hb hr (fun t ht hW => ⟨⟨(), rfl, trivial, by rw [ht]; exact hP9, va_K.moved hW.alike hK9, hD9⟩, hS.F ht⟩) hS.2.2 dX5_stepLocal_66
def sp_t5_compares (nf : Nat) (a1 : Int32) (a2 : Int32) (a3 : Int32) : Option (Int32) := (if a1 = 159 then (if a2 = a3 then (some 1) else (some 0)) else (if a1 = 160 then (if a2 = a3 then (some 0) else (some 1)) else (if a1 = 161 then (if a3 ≤ a2 then (some 0) else (some 1)) else (if a1 = 162 then (if a2 < a3 then (some 0) else (some 1)) else (if a1 = 163 then (if a2 ≤ a3 then (some 0) else (some 1)) else (if a1 = 164 then (if a3 < a2 then (some 0) else (some 1)) else (if a1 = 165 then (if a2 = a3 then (some 1) else (some 0)) else (if a1 = 166 then (if a2 = a3 then (some 0) else (some 1)) else (if a3 < a2 then (some 0) else (some 1))))))))))
