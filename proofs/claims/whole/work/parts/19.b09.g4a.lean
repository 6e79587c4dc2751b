set_option maxHeartbeats 4000000 in
set_option maxRecDepth 100000 in
/-- ClassMill$Machine.computed -/
theorem v5_computed (l : Launch) (dC : Nat → ClassId) (dI : Nat → Nat → Nat) (sz : Nat) (a1 : Int32) (a2 : Int32) (a3 : Int32) (nf : Nat) (r0 : Int32) (hsp : sp_v5_computed nf a1 a2 a3 = some r0) : Met l yX5_computed (.code yX5_computed cX5_computed 3 (some .int) :: VS_h7) ({ frames := 0, cells := 0, slots := 0, locals := 0 }) (va_Pc [.int a1, .int a2, .int a3] (fun U => U.heap.size = sz ∧ va_P (dC, dI) vwCl [] U.heap ∧ va_K (dC, dI) vwCl [] U ∧ va_D (fun _ => True) [])) (va_Qi (fun (r : Int32) (u : Unit) => match u with | () => r0 = r) (fun (u : Unit) (t : State) => match u with | () => va_P (dC, dI) vwCl [] t.heap ∧ va_K (dC, dI) vwCl [] t ∧ va_D (va_A [] sz) []) (va_A [] sz)) 0 0 (va_A [] sz) := by
  refine Met.ofW (cc := cX5_computed) (maxL := 3) (ret := (some .int)) (by decide) rfl ?_
  intro p e s m args below meth c s₁ B hml hv
  obtain ⟨rfl, hsz, hP, hK, hD0⟩ := hv
  have hx := B.exec
  have hb := B.bytes
  have hr := B.returns
  have hts := atoms_spec (ws := (.code yX5_computed cX5_computed 3 (some .int) :: VS_h7)) B.pre
  replace hts := fun w (h : w ∈ VS_h7) => hts w (List.mem_cons_of_mem _ h)
  have hown : s.vm.findClass RX5 = some m.cls := findClass_of_methodNamed B.named
  have hlocks := B.notSynchronized
  subst hsz
  have hD := hD0.self (sz := s.heap.size)
  generalize hAe : va_A [] s.heap.size = A at hD  ⊢
  have hA : ∀ q : Nat, s.heap.size ≤ q → A q := fun q h => by rw [← hAe]; exact Or.inr h
  have hP : va_P (dC, dI) vwCl [] s.heap := hP
  have hl := lv_entry ([.int a1, .int a2, .int a3]) (n := 3) (Nat.le_of_ble_eq_true rfl)
  rw [lg_entry_eq]
  generalize (lg_sl ([.int a1, .int a2, .int a3]) ++ List.replicate (3 - (lg_sl ([.int a1, .int a2, .int a3])).length) Slot.unset).toArray = ls at hl ⊢
  have hl : lv_has ls 3 [(0, .int a1), (1, .int a2), (2, .int a3)] := hl
  obtain ⟨H, hH⟩ : ∃ H : Heap, s.heap = H := ⟨_, rfl⟩
  rw [hH] at hP ⊢
  have hS : va_S A s.heap H [] := by rw [← hH]; exact va_S.rf
  obtain ⟨locs, hlo⟩ : ∃ locs : List Loc, locs = [] := ⟨_, rfl⟩
  rw [← hlo] at hS ⊢
  unfold sp_v5_computed at hsp
  refine lv_iload_n hx hb dX5_computed_0 rfl (lv_at hl 0 rfl) ?_
  by_cases hs_1 : a1 = 96
  · rw [if_pos hs_1] at hsp
    refine lv_tableIn (tgt := 148) hx hb dX5_computed_1 (by rw [hs_1]; decide) (by rw [hs_1]; decide) (off := 147) (by rw [hs_1]; rfl) (by decide) ?_
    refine lv_iload_n hx hb dX5_computed_148 rfl (lv_at hl 1 rfl) ?_
    refine lv_iload_n hx hb dX5_computed_149 rfl (lv_at hl 2 rfl) ?_
    refine lv_iadd hx hb dX5_computed_150 ?_
    have hr0 := Option.some.inj hsp
    clear hsp
    subst hr0
    have hP9 := hP.sub (ws' := []) [] rfl
    have hD9 := hD.sub (ws' := []) [] (by decide) rfl
    have hK9 := hK.sub (tys' := []) [] rfl
    exact W.iret hx hb hr (fun t ht hW => ⟨⟨((a2 + a3)), (), rfl, rfl, by rw [ht]; exact hP9, va_K.moved hW.alike hK9, hD9⟩, hS.F ht⟩) hS.2.2 dX5_computed_151
  rw [if_neg hs_1] at hsp
  by_cases hs_2 : a1 = 97
  · rw [if_pos hs_2] at hsp
    refine lv_tableIn (tgt := 204) hx hb dX5_computed_1 (by rw [hs_2]; decide) (by rw [hs_2]; decide) (off := 203) (by rw [hs_2]; rfl) (by decide) ?_
    refine lv_iload_n hx hb dX5_computed_204 rfl (lv_at hl 1 rfl) ?_
    refine lv_iload_n hx hb dX5_computed_205 rfl (lv_at hl 2 rfl) ?_
    refine lv_ixor hx hb dX5_computed_206 ?_
    have hr0 := Option.some.inj hsp
    clear hsp
    subst hr0
    have hP9 := hP.sub (ws' := []) [] rfl
    have hD9 := hD.sub (ws' := []) [] (by decide) rfl
    have hK9 := hK.sub (tys' := []) [] rfl
    exact W.iret hx hb hr (fun t ht hW => ⟨⟨((a2 ^^^ a3)), (), rfl, rfl, by rw [ht]; exact hP9, va_K.moved hW.alike hK9, hD9⟩, hS.F ht⟩) hS.2.2 dX5_computed_207
  rw [if_neg hs_2] at hsp
  by_cases hs_3 : a1 = 98
  · rw [if_pos hs_3] at hsp
    refine lv_tableIn (tgt := 204) hx hb dX5_computed_1 (by rw [hs_3]; decide) (by rw [hs_3]; decide) (off := 203) (by rw [hs_3]; rfl) (by decide) ?_
    refine lv_iload_n hx hb dX5_computed_204 rfl (lv_at hl 1 rfl) ?_
    refine lv_iload_n hx hb dX5_computed_205 rfl (lv_at hl 2 rfl) ?_
    refine lv_ixor hx hb dX5_computed_206 ?_
    have hr0 := Option.some.inj hsp
    clear hsp
    subst hr0
    have hP9 := hP.sub (ws' := []) [] rfl
    have hD9 := hD.sub (ws' := []) [] (by decide) rfl
    have hK9 := hK.sub (tys' := []) [] rfl
    exact W.iret hx hb hr (fun t ht hW => ⟨⟨((a2 ^^^ a3)), (), rfl, rfl, by rw [ht]; exact hP9, va_K.moved hW.alike hK9, hD9⟩, hS.F ht⟩) hS.2.2 dX5_computed_207
  rw [if_neg hs_3] at hsp
  by_cases hs_4 : a1 = 99
  · rw [if_pos hs_4] at hsp
    refine lv_tableIn (tgt := 204) hx hb dX5_computed_1 (by rw [hs_4]; decide) (by rw [hs_4]; decide) (off := 203) (by rw [hs_4]; rfl) (by decide) ?_
    refine lv_iload_n hx hb dX5_computed_204 rfl (lv_at hl 1 rfl) ?_
    refine lv_iload_n hx hb dX5_computed_205 rfl (lv_at hl 2 rfl) ?_
    refine lv_ixor hx hb dX5_computed_206 ?_
    have hr0 := Option.some.inj hsp
    clear hsp
    subst hr0
    have hP9 := hP.sub (ws' := []) [] rfl
    have hD9 := hD.sub (ws' := []) [] (by decide) rfl
    have hK9 := hK.sub (tys' := []) [] rfl
    exact W.iret hx hb hr (fun t ht hW => ⟨⟨((a2 ^^^ a3)), (), rfl, rfl, by rw [ht]; exact hP9, va_K.moved hW.alike hK9, hD9⟩, hS.F ht⟩) hS.2.2 dX5_computed_207
  rw [if_neg hs_4] at hsp
  by_cases hs_5 : a1 = 100
  · rw [if_pos hs_5] at hsp
    refine lv_tableIn (tgt := 152) hx hb dX5_computed_1 (by rw [hs_5]; decide) (by rw [hs_5]; decide) (off := 151) (by rw [hs_5]; rfl) (by decide) ?_
    refine lv_iload_n hx hb dX5_computed_152 rfl (lv_at hl 1 rfl) ?_
    refine lv_iload_n hx hb dX5_computed_153 rfl (lv_at hl 2 rfl) ?_
    refine lv_isub hx hb dX5_computed_154 ?_
    have hr0 := Option.some.inj hsp
    clear hsp
    subst hr0
    have hP9 := hP.sub (ws' := []) [] rfl
    have hD9 := hD.sub (ws' := []) [] (by decide) rfl
    have hK9 := hK.sub (tys' := []) [] rfl
    exact W.iret hx hb hr (fun t ht hW => ⟨⟨((a2 - a3)), (), rfl, rfl, by rw [ht]; exact hP9, va_K.moved hW.alike hK9, hD9⟩, hS.F ht⟩) hS.2.2 dX5_computed_155
  rw [if_neg hs_5] at hsp
  by_cases hs_6 : a1 = 101
  · rw [if_pos hs_6] at hsp
    refine lv_tableIn (tgt := 204) hx hb dX5_computed_1 (by rw [hs_6]; decide) (by rw [hs_6]; decide) (off := 203) (by rw [hs_6]; rfl) (by decide) ?_
    refine lv_iload_n hx hb dX5_computed_204 rfl (lv_at hl 1 rfl) ?_
    refine lv_iload_n hx hb dX5_computed_205 rfl (lv_at hl 2 rfl) ?_
    refine lv_ixor hx hb dX5_computed_206 ?_
    have hr0 := Option.some.inj hsp
    clear hsp
    subst hr0
    have hP9 := hP.sub (ws' := []) [] rfl
    have hD9 := hD.sub (ws' := []) [] (by decide) rfl
    have hK9 := hK.sub (tys' := []) [] rfl
    exact W.iret hx hb hr (fun t ht hW => ⟨⟨((a2 ^^^ a3)), (), rfl, rfl, by rw [ht]; exact hP9, va_K.moved hW.alike hK9, hD9⟩, hS.F ht⟩) hS.2.2 dX5_computed_207
  rw [if_neg hs_6] at hsp
  by_cases hs_7 : a1 = 102
  · rw [if_pos hs_7] at hsp
    refine lv_tableIn (tgt := 204) hx hb dX5_computed_1 (by rw [hs_7]; decide) (by rw [hs_7]; decide) (off := 203) (by rw [hs_7]; rfl) (by decide) ?_
    refine lv_iload_n hx hb dX5_computed_204 rfl (lv_at hl 1 rfl) ?_
    refine lv_iload_n hx hb dX5_computed_205 rfl (lv_at hl 2 rfl) ?_
    refine lv_ixor hx hb dX5_computed_206 ?_
    have hr0 := Option.some.inj hsp
    clear hsp
    subst hr0
    have hP9 := hP.sub (ws' := []) [] rfl
    have hD9 := hD.sub (ws' := []) [] (by decide) rfl
    have hK9 := hK.sub (tys' := []) [] rfl
    exact W.iret hx hb hr (fun t ht hW => ⟨⟨((a2 ^^^ a3)), (), rfl, rfl, by rw [ht]; exact hP9, va_K.moved hW.alike hK9, hD9⟩, hS.F ht⟩) hS.2.2 dX5_computed_207
  rw [if_neg hs_7] at hsp
  by_cases hs_8 : a1 = 103
  · rw [if_pos hs_8] at hsp
    refine lv_tableIn (tgt := 204) hx hb dX5_computed_1 (by rw [hs_8]; decide) (by rw [hs_8]; decide) (off := 203) (by rw [hs_8]; rfl) (by decide) ?_
    refine lv_iload_n hx hb dX5_computed_204 rfl (lv_at hl 1 rfl) ?_
    refine lv_iload_n hx hb dX5_computed_205 rfl (lv_at hl 2 rfl) ?_
    refine lv_ixor hx hb dX5_computed_206 ?_
    have hr0 := Option.some.inj hsp
    clear hsp
    subst hr0
    have hP9 := hP.sub (ws' := []) [] rfl
    have hD9 := hD.sub (ws' := []) [] (by decide) rfl
    have hK9 := hK.sub (tys' := []) [] rfl
    exact W.iret hx hb hr (fun t ht hW => ⟨⟨((a2 ^^^ a3)), (), rfl, rfl, by rw [ht]; exact hP9, va_K.moved hW.alike hK9, hD9⟩, hS.F ht⟩) hS.2.2 dX5_computed_207
  rw [if_neg hs_8] at hsp
  by_cases hs_9 : a1 = 104
  · rw [if_pos hs_9] at hsp
    refine lv_tableIn (tgt := 156) hx hb dX5_computed_1 (by rw [hs_9]; decide) (by rw [hs_9]; decide) (off := 155) (by rw [hs_9]; rfl) (by decide) ?_
    refine lv_iload_n hx hb dX5_computed_156 rfl (lv_at hl 1 rfl) ?_
    refine lv_iload_n hx hb dX5_computed_157 rfl (lv_at hl 2 rfl) ?_
    refine lv_imul hx hb dX5_computed_158 ?_
    have hr0 := Option.some.inj hsp
    clear hsp
    subst hr0
    have hP9 := hP.sub (ws' := []) [] rfl
    have hD9 := hD.sub (ws' := []) [] (by decide) rfl
    have hK9 := hK.sub (tys' := []) [] rfl
    exact W.iret hx hb hr (fun t ht hW => ⟨⟨((a2 * a3)), (), rfl, rfl, by rw [ht]; exact hP9, va_K.moved hW.alike hK9, hD9⟩, hS.F ht⟩) hS.2.2 dX5_computed_159
  rw [if_neg hs_9] at hsp
  by_cases hs_10 : a1 = 105
  · rw [if_pos hs_10] at hsp
    refine lv_tableIn (tgt := 204) hx hb dX5_computed_1 (by rw [hs_10]; decide) (by rw [hs_10]; decide) (off := 203) (by rw [hs_10]; rfl) (by decide) ?_
    refine lv_iload_n hx hb dX5_computed_204 rfl (lv_at hl 1 rfl) ?_
    refine lv_iload_n hx hb dX5_computed_205 rfl (lv_at hl 2 rfl) ?_
    refine lv_ixor hx hb dX5_computed_206 ?_
    have hr0 := Option.some.inj hsp
    clear hsp
    subst hr0
    have hP9 := hP.sub (ws' := []) [] rfl
    have hD9 := hD.sub (ws' := []) [] (by decide) rfl
    have hK9 := hK.sub (tys' := []) [] rfl
    exact W.iret hx hb hr (fun t ht hW => ⟨⟨((a2 ^^^ a3)), (), rfl, rfl, by rw [ht]; exact hP9, va_K.moved hW.alike hK9, hD9⟩, hS.F ht⟩) hS.2.2 dX5_computed_207
  rw [if_neg hs_10] at hsp
  by_cases hs_11 : a1 = 106
  · rw [if_pos hs_11] at hsp
    refine lv_tableIn (tgt := 204) hx hb dX5_computed_1 (by rw [hs_11]; decide) (by rw [hs_11]; decide) (off := 203) (by rw [hs_11]; rfl) (by decide) ?_
    refine lv_iload_n hx hb dX5_computed_204 rfl (lv_at hl 1 rfl) ?_
    refine lv_iload_n hx hb dX5_computed_205 rfl (lv_at hl 2 rfl) ?_
    refine lv_ixor hx hb dX5_computed_206 ?_
    have hr0 := Option.some.inj hsp
    clear hsp
    subst hr0
    have hP9 := hP.sub (ws' := []) [] rfl
    have hD9 := hD.sub (ws' := []) [] (by decide) rfl
    have hK9 := hK.sub (tys' := []) [] rfl
    exact W.iret hx hb hr (fun t ht hW => ⟨⟨((a2 ^^^ a3)), (), rfl, rfl, by rw [ht]; exact hP9, va_K.moved hW.alike hK9, hD9⟩, hS.F ht⟩) hS.2.2 dX5_computed_207
  rw [if_neg hs_11] at hsp
  by_cases hs_12 : a1 = 107
  · rw [if_pos hs_12] at hsp
    refine lv_tableIn (tgt := 204) hx hb dX5_computed_1 (by rw [hs_12]; decide) (by rw [hs_12]; decide) (off := 203) (by rw [hs_12]; rfl) (by decide) ?_
    refine lv_iload_n hx hb dX5_computed_204 rfl (lv_at hl 1 rfl) ?_
    refine lv_iload_n hx hb dX5_computed_205 rfl (lv_at hl 2 rfl) ?_
    refine lv_ixor hx hb dX5_computed_206 ?_
    have hr0 := Option.some.inj hsp
    clear hsp
    subst hr0
    have hP9 := hP.sub (ws' := []) [] rfl
    have hD9 := hD.sub (ws' := []) [] (by decide) rfl
    have hK9 := hK.sub (tys' := []) [] rfl
    exact W.iret hx hb hr (fun t ht hW => ⟨⟨((a2 ^^^ a3)), (), rfl, rfl, by rw [ht]; exact hP9, va_K.moved hW.alike hK9, hD9⟩, hS.F ht⟩) hS.2.2 dX5_computed_207
  rw [if_neg hs_12] at hsp
  by_cases hs_13 : a1 = 108
  · rw [if_pos hs_13] at hsp
    refine lv_tableIn (tgt := 160) hx hb dX5_computed_1 (by rw [hs_13]; decide) (by rw [hs_13]; decide) (off := 159) (by rw [hs_13]; rfl) (by decide) ?_
    refine lv_iload_n hx hb dX5_computed_160 rfl (lv_at hl 2 rfl) ?_
    refine lv_if_ne (tgt := 168) hx hb dX5_computed_161 (by decide) (fun c_14 => ?_) (fun c_14 => ?_)
    · rw [if_neg c_14] at hsp
      refine lv_iload_n hx hb dX5_computed_168 rfl (lv_at hl 1 rfl) ?_
      refine lv_iload_n hx hb dX5_computed_169 rfl (lv_at hl 2 rfl) ?_
      obtain ⟨hz_15, hsp⟩ := ox_nz hsp
      refine lv_idiv hx hb dX5_computed_170 hz_15 ?_
      have hr0 := Option.some.inj hsp
      clear hsp
      subst hr0
      have hP9 := hP.sub (ws' := []) [] rfl
      have hD9 := hD.sub (ws' := []) [] (by decide) rfl
      have hK9 := hK.sub (tys' := []) [] rfl
      exact W.iret hx hb hr (fun t ht hW => ⟨⟨((a2 / a3)), (), rfl, rfl, by rw [ht]; exact hP9, va_K.moved hW.alike hK9, hD9⟩, hS.F ht⟩) hS.2.2 dX5_computed_171
    · rw [if_pos c_14] at hsp
      refine lv_iconst (v := 0) hx hb dX5_computed_164 (by decide) ?_
      refine lv_goto (tgt := 171) hx hb dX5_computed_165 (by decide) ?_
      have hr0 := Option.some.inj hsp
      clear hsp
      subst hr0
      have hP9 := hP.sub (ws' := []) [] rfl
      have hD9 := hD.sub (ws' := []) [] (by decide) rfl
      have hK9 := hK.sub (tys' := []) [] rfl
      exact W.iret hx hb hr (fun t ht hW => ⟨⟨(0), (), rfl, rfl, by rw [ht]; exact hP9, va_K.moved hW.alike hK9, hD9⟩, hS.F ht⟩) hS.2.2 dX5_computed_171
  rw [if_neg hs_13] at hsp
  by_cases hs_16 : a1 = 109
  · rw [if_pos hs_16] at hsp
    refine lv_tableIn (tgt := 204) hx hb dX5_computed_1 (by rw [hs_16]; decide) (by rw [hs_16]; decide) (off := 203) (by rw [hs_16]; rfl) (by decide) ?_
    refine lv_iload_n hx hb dX5_computed_204 rfl (lv_at hl 1 rfl) ?_
    refine lv_iload_n hx hb dX5_computed_205 rfl (lv_at hl 2 rfl) ?_
    refine lv_ixor hx hb dX5_computed_206 ?_
    have hr0 := Option.some.inj hsp
    clear hsp
    subst hr0
    have hP9 := hP.sub (ws' := []) [] rfl
    have hD9 := hD.sub (ws' := []) [] (by decide) rfl
    have hK9 := hK.sub (tys' := []) [] rfl
    exact W.iret hx hb hr (fun t ht hW => ⟨⟨((a2 ^^^ a3)), (), rfl, rfl, by rw [ht]; exact hP9, va_K.moved hW.alike hK9, hD9⟩, hS.F ht⟩) hS.2.2 dX5_computed_207
  rw [if_neg hs_16] at hsp
  by_cases hs_17 : a1 = 110
  · rw [if_pos hs_17] at hsp
    refine lv_tableIn (tgt := 204) hx hb dX5_computed_1 (by rw [hs_17]; decide) (by rw [hs_17]; decide) (off := 203) (by rw [hs_17]; rfl) (by decide) ?_
    refine lv_iload_n hx hb dX5_computed_204 rfl (lv_at hl 1 rfl) ?_
    refine lv_iload_n hx hb dX5_computed_205 rfl (lv_at hl 2 rfl) ?_
    refine lv_ixor hx hb dX5_computed_206 ?_
    have hr0 := Option.some.inj hsp
    clear hsp
    subst hr0
    have hP9 := hP.sub (ws' := []) [] rfl
    have hD9 := hD.sub (ws' := []) [] (by decide) rfl
    have hK9 := hK.sub (tys' := []) [] rfl
    exact W.iret hx hb hr (fun t ht hW => ⟨⟨((a2 ^^^ a3)), (), rfl, rfl, by rw [ht]; exact hP9, va_K.moved hW.alike hK9, hD9⟩, hS.F ht⟩) hS.2.2 dX5_computed_207
  rw [if_neg hs_17] at hsp
  by_cases hs_18 : a1 = 111
  · rw [if_pos hs_18] at hsp
    refine lv_tableIn (tgt := 204) hx hb dX5_computed_1 (by rw [hs_18]; decide) (by rw [hs_18]; decide) (off := 203) (by rw [hs_18]; rfl) (by decide) ?_
    refine lv_iload_n hx hb dX5_computed_204 rfl (lv_at hl 1 rfl) ?_
    refine lv_iload_n hx hb dX5_computed_205 rfl (lv_at hl 2 rfl) ?_
    refine lv_ixor hx hb dX5_computed_206 ?_
    have hr0 := Option.some.inj hsp
    clear hsp
    subst hr0
    have hP9 := hP.sub (ws' := []) [] rfl
    have hD9 := hD.sub (ws' := []) [] (by decide) rfl
    have hK9 := hK.sub (tys' := []) [] rfl
    exact W.iret hx hb hr (fun t ht hW => ⟨⟨((a2 ^^^ a3)), (), rfl, rfl, by rw [ht]; exact hP9, va_K.moved hW.alike hK9, hD9⟩, hS.F ht⟩) hS.2.2 dX5_computed_207
  rw [if_neg hs_18] at hsp
  by_cases hs_19 : a1 = 112
  · rw [if_pos hs_19] at hsp
    refine lv_tableIn (tgt := 172) hx hb dX5_computed_1 (by rw [hs_19]; decide) (by rw [hs_19]; decide) (off := 171) (by rw [hs_19]; rfl) (by decide) ?_
    refine lv_iload_n hx hb dX5_computed_172 rfl (lv_at hl 2 rfl) ?_
    refine lv_if_ne (tgt := 180) hx hb dX5_computed_173 (by decide) (fun c_20 => ?_) (fun c_20 => ?_)
    · rw [if_neg c_20] at hsp
      refine lv_iload_n hx hb dX5_computed_180 rfl (lv_at hl 1 rfl) ?_
      refine lv_iload_n hx hb dX5_computed_181 rfl (lv_at hl 2 rfl) ?_
      obtain ⟨hz_21, hsp⟩ := ox_nz hsp
      refine lv_irem hx hb dX5_computed_182 hz_21 ?_
      have hr0 := Option.some.inj hsp
      clear hsp
      subst hr0
      have hP9 := hP.sub (ws' := []) [] rfl
      have hD9 := hD.sub (ws' := []) [] (by decide) rfl
      have hK9 := hK.sub (tys' := []) [] rfl
      exact W.iret hx hb hr (fun t ht hW => ⟨⟨((a2 - a2 / a3 * a3)), (), rfl, rfl, by rw [ht]; exact hP9, va_K.moved hW.alike hK9, hD9⟩, hS.F ht⟩) hS.2.2 dX5_computed_183
    · rw [if_pos c_20] at hsp
      refine lv_iconst (v := 0) hx hb dX5_computed_176 (by decide) ?_
      refine lv_goto (tgt := 183) hx hb dX5_computed_177 (by decide) ?_
      have hr0 := Option.some.inj hsp
      clear hsp
      subst hr0
      have hP9 := hP.sub (ws' := []) [] rfl
      have hD9 := hD.sub (ws' := []) [] (by decide) rfl
      have hK9 := hK.sub (tys' := []) [] rfl
      exact W.iret hx hb hr (fun t ht hW => ⟨⟨(0), (), rfl, rfl, by rw [ht]; exact hP9, va_K.moved hW.alike hK9, hD9⟩, hS.F ht⟩) hS.2.2 dX5_computed_183
  rw [if_neg hs_19] at hsp
  by_cases hs_22 : a1 = 113
  · rw [if_pos hs_22] at hsp
    refine lv_tableIn (tgt := 204) hx hb dX5_computed_1 (by rw [hs_22]; decide) (by rw [hs_22]; decide) (off := 203) (by rw [hs_22]; rfl) (by decide) ?_
    refine lv_iload_n hx hb dX5_computed_204 rfl (lv_at hl 1 rfl) ?_
    refine lv_iload_n hx hb dX5_computed_205 rfl (lv_at hl 2 rfl) ?_
    refine lv_ixor hx hb dX5_computed_206 ?_
    have hr0 := Option.some.inj hsp
    clear hsp
    subst hr0
    have hP9 := hP.sub (ws' := []) [] rfl
    have hD9 := hD.sub (ws' := []) [] (by decide) rfl
    have hK9 := hK.sub (tys' := []) [] rfl
    exact W.iret hx hb hr (fun t ht hW => ⟨⟨((a2 ^^^ a3)), (), rfl, rfl, by rw [ht]; exact hP9, va_K.moved hW.alike hK9, hD9⟩, hS.F ht⟩) hS.2.2 dX5_computed_207
  rw [if_neg hs_22] at hsp
  by_cases hs_23 : a1 = 114
  · rw [if_pos hs_23] at hsp
    refine lv_tableIn (tgt := 204) hx hb dX5_computed_1 (by rw [hs_23]; decide) (by rw [hs_23]; decide) (off := 203) (by rw [hs_23]; rfl) (by decide) ?_
    refine lv_iload_n hx hb dX5_computed_204 rfl (lv_at hl 1 rfl) ?_
    refine lv_iload_n hx hb dX5_computed_205 rfl (lv_at hl 2 rfl) ?_
    refine lv_ixor hx hb dX5_computed_206 ?_
    have hr0 := Option.some.inj hsp
    clear hsp
    subst hr0
    have hP9 := hP.sub (ws' := []) [] rfl
    have hD9 := hD.sub (ws' := []) [] (by decide) rfl
    have hK9 := hK.sub (tys' := []) [] rfl
    exact W.iret hx hb hr (fun t ht hW => ⟨⟨((a2 ^^^ a3)), (), rfl, rfl, by rw [ht]; exact hP9, va_K.moved hW.alike hK9, hD9⟩, hS.F ht⟩) hS.2.2 dX5_computed_207
  rw [if_neg hs_23] at hsp
  by_cases hs_24 : a1 = 115
  · rw [if_pos hs_24] at hsp
    refine lv_tableIn (tgt := 204) hx hb dX5_computed_1 (by rw [hs_24]; decide) (by rw [hs_24]; decide) (off := 203) (by rw [hs_24]; rfl) (by decide) ?_
    refine lv_iload_n hx hb dX5_computed_204 rfl (lv_at hl 1 rfl) ?_
    refine lv_iload_n hx hb dX5_computed_205 rfl (lv_at hl 2 rfl) ?_
    refine lv_ixor hx hb dX5_computed_206 ?_
    have hr0 := Option.some.inj hsp
    clear hsp
    subst hr0
    have hP9 := hP.sub (ws' := []) [] rfl
    have hD9 := hD.sub (ws' := []) [] (by decide) rfl
    have hK9 := hK.sub (tys' := []) [] rfl
    exact W.iret hx hb hr (fun t ht hW => ⟨⟨((a2 ^^^ a3)), (), rfl, rfl, by rw [ht]; exact hP9, va_K.moved hW.alike hK9, hD9⟩, hS.F ht⟩) hS.2.2 dX5_computed_207
  rw [if_neg hs_24] at hsp
  by_cases hs_25 : a1 = 116
  · rw [if_pos hs_25] at hsp
    refine lv_tableIn (tgt := 204) hx hb dX5_computed_1 (by rw [hs_25]; decide) (by rw [hs_25]; decide) (off := 203) (by rw [hs_25]; rfl) (by decide) ?_
    refine lv_iload_n hx hb dX5_computed_204 rfl (lv_at hl 1 rfl) ?_
    refine lv_iload_n hx hb dX5_computed_205 rfl (lv_at hl 2 rfl) ?_
    refine lv_ixor hx hb dX5_computed_206 ?_
    have hr0 := Option.some.inj hsp
    clear hsp
    subst hr0
    have hP9 := hP.sub (ws' := []) [] rfl
    have hD9 := hD.sub (ws' := []) [] (by decide) rfl
    have hK9 := hK.sub (tys' := []) [] rfl
    exact W.iret hx hb hr (fun t ht hW => ⟨⟨((a2 ^^^ a3)), (), rfl, rfl, by rw [ht]; exact hP9, va_K.moved hW.alike hK9, hD9⟩, hS.F ht⟩) hS.2.2 dX5_computed_207
  rw [if_neg hs_25] at hsp
  by_cases hs_26 : a1 = 117
  · rw [if_pos hs_26] at hsp
    refine lv_tableIn (tgt := 204) hx hb dX5_computed_1 (by rw [hs_26]; decide) (by rw [hs_26]; decide) (off := 203) (by rw [hs_26]; rfl) (by decide) ?_
    refine lv_iload_n hx hb dX5_computed_204 rfl (lv_at hl 1 rfl) ?_
    refine lv_iload_n hx hb dX5_computed_205 rfl (lv_at hl 2 rfl) ?_
    refine lv_ixor hx hb dX5_computed_206 ?_
    have hr0 := Option.some.inj hsp
    clear hsp
    subst hr0
    have hP9 := hP.sub (ws' := []) [] rfl
    have hD9 := hD.sub (ws' := []) [] (by decide) rfl
    have hK9 := hK.sub (tys' := []) [] rfl
    exact W.iret hx hb hr (fun t ht hW => ⟨⟨((a2 ^^^ a3)), (), rfl, rfl, by rw [ht]; exact hP9, va_K.moved hW.alike hK9, hD9⟩, hS.F ht⟩) hS.2.2 dX5_computed_207
  rw [if_neg hs_26] at hsp
  by_cases hs_27 : a1 = 118
  · rw [if_pos hs_27] at hsp
    refine lv_tableIn (tgt := 204) hx hb dX5_computed_1 (by rw [hs_27]; decide) (by rw [hs_27]; decide) (off := 203) (by rw [hs_27]; rfl) (by decide) ?_
    refine lv_iload_n hx hb dX5_computed_204 rfl (lv_at hl 1 rfl) ?_
    refine lv_iload_n hx hb dX5_computed_205 rfl (lv_at hl 2 rfl) ?_
    refine lv_ixor hx hb dX5_computed_206 ?_
    have hr0 := Option.some.inj hsp
    clear hsp
    subst hr0
    have hP9 := hP.sub (ws' := []) [] rfl
    have hD9 := hD.sub (ws' := []) [] (by decide) rfl
    have hK9 := hK.sub (tys' := []) [] rfl
    exact W.iret hx hb hr (fun t ht hW => ⟨⟨((a2 ^^^ a3)), (), rfl, rfl, by rw [ht]; exact hP9, va_K.moved hW.alike hK9, hD9⟩, hS.F ht⟩) hS.2.2 dX5_computed_207
  rw [if_neg hs_27] at hsp
  by_cases hs_28 : a1 = 119
  · rw [if_pos hs_28] at hsp
    refine lv_tableIn (tgt := 204) hx hb dX5_computed_1 (by rw [hs_28]; decide) (by rw [hs_28]; decide) (off := 203) (by rw [hs_28]; rfl) (by decide) ?_
    refine lv_iload_n hx hb dX5_computed_204 rfl (lv_at hl 1 rfl) ?_
    refine lv_iload_n hx hb dX5_computed_205 rfl (lv_at hl 2 rfl) ?_
    refine lv_ixor hx hb dX5_computed_206 ?_
    have hr0 := Option.some.inj hsp
    clear hsp
    subst hr0
    have hP9 := hP.sub (ws' := []) [] rfl
    have hD9 := hD.sub (ws' := []) [] (by decide) rfl
    have hK9 := hK.sub (tys' := []) [] rfl
    exact W.iret hx hb hr (fun t ht hW => ⟨⟨((a2 ^^^ a3)), (), rfl, rfl, by rw [ht]; exact hP9, va_K.moved hW.alike hK9, hD9⟩, hS.F ht⟩) hS.2.2 dX5_computed_207
  rw [if_neg hs_28] at hsp
  by_cases hs_29 : a1 = 120
  · rw [if_pos hs_29] at hsp
    refine lv_tableIn (tgt := 184) hx hb dX5_computed_1 (by rw [hs_29]; decide) (by rw [hs_29]; decide) (off := 183) (by rw [hs_29]; rfl) (by decide) ?_
    refine lv_iload_n hx hb dX5_computed_184 rfl (lv_at hl 1 rfl) ?_
    refine lv_iload_n hx hb dX5_computed_185 rfl (lv_at hl 2 rfl) ?_
    refine lv_ishl hx hb dX5_computed_186 ?_
    have hr0 := Option.some.inj hsp
    clear hsp
    subst hr0
    have hP9 := hP.sub (ws' := []) [] rfl
    have hD9 := hD.sub (ws' := []) [] (by decide) rfl
    have hK9 := hK.sub (tys' := []) [] rfl
    exact W.iret hx hb hr (fun t ht hW => ⟨⟨((a2 <<< (a3 &&& 31))), (), rfl, rfl, by rw [ht]; exact hP9, va_K.moved hW.alike hK9, hD9⟩, hS.F ht⟩) hS.2.2 dX5_computed_187
  rw [if_neg hs_29] at hsp
  by_cases hs_30 : a1 = 121
  · rw [if_pos hs_30] at hsp
    refine lv_tableIn (tgt := 204) hx hb dX5_computed_1 (by rw [hs_30]; decide) (by rw [hs_30]; decide) (off := 203) (by rw [hs_30]; rfl) (by decide) ?_
    refine lv_iload_n hx hb dX5_computed_204 rfl (lv_at hl 1 rfl) ?_
    refine lv_iload_n hx hb dX5_computed_205 rfl (lv_at hl 2 rfl) ?_
    refine lv_ixor hx hb dX5_computed_206 ?_
    have hr0 := Option.some.inj hsp
    clear hsp
    subst hr0
    have hP9 := hP.sub (ws' := []) [] rfl
    have hD9 := hD.sub (ws' := []) [] (by decide) rfl
    have hK9 := hK.sub (tys' := []) [] rfl
    exact W.iret hx hb hr (fun t ht hW => ⟨⟨((a2 ^^^ a3)), (), rfl, rfl, by rw [ht]; exact hP9, va_K.moved hW.alike hK9, hD9⟩, hS.F ht⟩) hS.2.2 dX5_computed_207
  rw [if_neg hs_30] at hsp
  by_cases hs_31 : a1 = 122
  · rw [if_pos hs_31] at hsp
    refine lv_tableIn (tgt := 188) hx hb dX5_computed_1 (by rw [hs_31]; decide) (by rw [hs_31]; decide) (off := 187) (by rw [hs_31]; rfl) (by decide) ?_
    refine lv_iload_n hx hb dX5_computed_188 rfl (lv_at hl 1 rfl) ?_
    refine lv_iload_n hx hb dX5_computed_189 rfl (lv_at hl 2 rfl) ?_
    refine lv_ishr hx hb dX5_computed_190 ?_
    have hr0 := Option.some.inj hsp
    clear hsp
    subst hr0
    have hP9 := hP.sub (ws' := []) [] rfl
    have hD9 := hD.sub (ws' := []) [] (by decide) rfl
    have hK9 := hK.sub (tys' := []) [] rfl
    exact W.iret hx hb hr (fun t ht hW => ⟨⟨((a2 >>> (a3 &&& 31))), (), rfl, rfl, by rw [ht]; exact hP9, va_K.moved hW.alike hK9, hD9⟩, hS.F ht⟩) hS.2.2 dX5_computed_191
  rw [if_neg hs_31] at hsp
  by_cases hs_32 : a1 = 123
  · rw [if_pos hs_32] at hsp
    refine lv_tableIn (tgt := 204) hx hb dX5_computed_1 (by rw [hs_32]; decide) (by rw [hs_32]; decide) (off := 203) (by rw [hs_32]; rfl) (by decide) ?_
    refine lv_iload_n hx hb dX5_computed_204 rfl (lv_at hl 1 rfl) ?_
    refine lv_iload_n hx hb dX5_computed_205 rfl (lv_at hl 2 rfl) ?_
    refine lv_ixor hx hb dX5_computed_206 ?_
    have hr0 := Option.some.inj hsp
    clear hsp
    subst hr0
    have hP9 := hP.sub (ws' := []) [] rfl
    have hD9 := hD.sub (ws' := []) [] (by decide) rfl
    have hK9 := hK.sub (tys' := []) [] rfl
    exact W.iret hx hb hr (fun t ht hW => ⟨⟨((a2 ^^^ a3)), (), rfl, rfl, by rw [ht]; exact hP9, va_K.moved hW.alike hK9, hD9⟩, hS.F ht⟩) hS.2.2 dX5_computed_207
  rw [if_neg hs_32] at hsp
  by_cases hs_33 : a1 = 124
  · rw [if_pos hs_33] at hsp
    refine lv_tableIn (tgt := 192) hx hb dX5_computed_1 (by rw [hs_33]; decide) (by rw [hs_33]; decide) (off := 191) (by rw [hs_33]; rfl) (by decide) ?_
    refine lv_iload_n hx hb dX5_computed_192 rfl (lv_at hl 1 rfl) ?_
    refine lv_iload_n hx hb dX5_computed_193 rfl (lv_at hl 2 rfl) ?_
    refine lv_iushr hx hb dX5_computed_194 rfl ?_
    have hr0 := Option.some.inj hsp
    clear hsp
    subst hr0
    have hP9 := hP.sub (ws' := []) [] rfl
    have hD9 := hD.sub (ws' := []) [] (by decide) rfl
    have hK9 := hK.sub (tys' := []) [] rfl
    exact W.iret hx hb hr (fun t ht hW => ⟨⟨(((a2 : Int32).toUInt32 >>> ((a3 : Int32).toUInt32 &&& Int32.toUInt32 31)).toInt32), (), rfl, rfl, by rw [ht]; exact hP9, va_K.moved hW.alike hK9, hD9⟩, hS.F ht⟩) hS.2.2 dX5_computed_195
  rw [if_neg hs_33] at hsp
  by_cases hs_34 : a1 = 125
  · rw [if_pos hs_34] at hsp
    refine lv_tableIn (tgt := 204) hx hb dX5_computed_1 (by rw [hs_34]; decide) (by rw [hs_34]; decide) (off := 203) (by rw [hs_34]; rfl) (by decide) ?_
    refine lv_iload_n hx hb dX5_computed_204 rfl (lv_at hl 1 rfl) ?_
    refine lv_iload_n hx hb dX5_computed_205 rfl (lv_at hl 2 rfl) ?_
    refine lv_ixor hx hb dX5_computed_206 ?_
    have hr0 := Option.some.inj hsp
    clear hsp
    subst hr0
    have hP9 := hP.sub (ws' := []) [] rfl
    have hD9 := hD.sub (ws' := []) [] (by decide) rfl
    have hK9 := hK.sub (tys' := []) [] rfl
    exact W.iret hx hb hr (fun t ht hW => ⟨⟨((a2 ^^^ a3)), (), rfl, rfl, by rw [ht]; exact hP9, va_K.moved hW.alike hK9, hD9⟩, hS.F ht⟩) hS.2.2 dX5_computed_207
  rw [if_neg hs_34] at hsp
  by_cases hs_35 : a1 = 126
  · rw [if_pos hs_35] at hsp
    refine lv_tableIn (tgt := 196) hx hb dX5_computed_1 (by rw [hs_35]; decide) (by rw [hs_35]; decide) (off := 195) (by rw [hs_35]; rfl) (by decide) ?_
    refine lv_iload_n hx hb dX5_computed_196 rfl (lv_at hl 1 rfl) ?_
    refine lv_iload_n hx hb dX5_computed_197 rfl (lv_at hl 2 rfl) ?_
    refine lv_iand hx hb dX5_computed_198 ?_
    have hr0 := Option.some.inj hsp
    clear hsp
    subst hr0
    have hP9 := hP.sub (ws' := []) [] rfl
    have hD9 := hD.sub (ws' := []) [] (by decide) rfl
    have hK9 := hK.sub (tys' := []) [] rfl
    exact W.iret hx hb hr (fun t ht hW => ⟨⟨((a2 &&& a3)), (), rfl, rfl, by rw [ht]; exact hP9, va_K.moved hW.alike hK9, hD9⟩, hS.F ht⟩) hS.2.2 dX5_computed_199
  rw [if_neg hs_35] at hsp
  by_cases hs_36 : a1 = 127
  · rw [if_pos hs_36] at hsp
    refine lv_tableIn (tgt := 204) hx hb dX5_computed_1 (by rw [hs_36]; decide) (by rw [hs_36]; decide) (off := 203) (by rw [hs_36]; rfl) (by decide) ?_
    refine lv_iload_n hx hb dX5_computed_204 rfl (lv_at hl 1 rfl) ?_
    refine lv_iload_n hx hb dX5_computed_205 rfl (lv_at hl 2 rfl) ?_
    refine lv_ixor hx hb dX5_computed_206 ?_
    have hr0 := Option.some.inj hsp
    clear hsp
    subst hr0
    have hP9 := hP.sub (ws' := []) [] rfl
    have hD9 := hD.sub (ws' := []) [] (by decide) rfl
    have hK9 := hK.sub (tys' := []) [] rfl
    exact W.iret hx hb hr (fun t ht hW => ⟨⟨((a2 ^^^ a3)), (), rfl, rfl, by rw [ht]; exact hP9, va_K.moved hW.alike hK9, hD9⟩, hS.F ht⟩) hS.2.2 dX5_computed_207
  rw [if_neg hs_36] at hsp
  by_cases hs_37 : a1 = 128
  · rw [if_pos hs_37] at hsp
    refine lv_tableIn (tgt := 200) hx hb dX5_computed_1 (by rw [hs_37]; decide) (by rw [hs_37]; decide) (off := 199) (by rw [hs_37]; rfl) (by decide) ?_
    refine lv_iload_n hx hb dX5_computed_200 rfl (lv_at hl 1 rfl) ?_
    refine lv_iload_n hx hb dX5_computed_201 rfl (lv_at hl 2 rfl) ?_
    refine lv_ior hx hb dX5_computed_202 ?_
    have hr0 := Option.some.inj hsp
    clear hsp
    subst hr0
    have hP9 := hP.sub (ws' := []) [] rfl
    have hD9 := hD.sub (ws' := []) [] (by decide) rfl
    have hK9 := hK.sub (tys' := []) [] rfl
    exact W.iret hx hb hr (fun t ht hW => ⟨⟨((a2 ||| a3)), (), rfl, rfl, by rw [ht]; exact hP9, va_K.moved hW.alike hK9, hD9⟩, hS.F ht⟩) hS.2.2 dX5_computed_203
  rw [if_neg hs_37] at hsp
  refine lv_tableOut (tgt := 204) hx hb dX5_computed_1 (by have a0 := lv_neT hs_1 (a := 96) rfl; have a1 := lv_neT hs_2 (a := 97) rfl; have a2 := lv_neT hs_3 (a := 98) rfl; have a3 := lv_neT hs_4 (a := 99) rfl; have a4 := lv_neT hs_5 (a := 100) rfl; have a5 := lv_neT hs_6 (a := 101) rfl; have a6 := lv_neT hs_7 (a := 102) rfl; have a7 := lv_neT hs_8 (a := 103) rfl; have a8 := lv_neT hs_9 (a := 104) rfl; have a9 := lv_neT hs_10 (a := 105) rfl; have a10 := lv_neT hs_11 (a := 106) rfl; have a11 := lv_neT hs_12 (a := 107) rfl; have a12 := lv_neT hs_13 (a := 108) rfl; have a13 := lv_neT hs_16 (a := 109) rfl; have a14 := lv_neT hs_17 (a := 110) rfl; have a15 := lv_neT hs_18 (a := 111) rfl; have a16 := lv_neT hs_19 (a := 112) rfl; have a17 := lv_neT hs_22 (a := 113) rfl; have a18 := lv_neT hs_23 (a := 114) rfl; have a19 := lv_neT hs_24 (a := 115) rfl; have a20 := lv_neT hs_25 (a := 116) rfl; have a21 := lv_neT hs_26 (a := 117) rfl; have a22 := lv_neT hs_27 (a := 118) rfl; have a23 := lv_neT hs_28 (a := 119) rfl; have a24 := lv_neT hs_29 (a := 120) rfl; have a25 := lv_neT hs_30 (a := 121) rfl; have a26 := lv_neT hs_31 (a := 122) rfl; have a27 := lv_neT hs_32 (a := 123) rfl; have a28 := lv_neT hs_33 (a := 124) rfl; have a29 := lv_neT hs_34 (a := 125) rfl; have a30 := lv_neT hs_35 (a := 126) rfl; have a31 := lv_neT hs_36 (a := 127) rfl; have a32 := lv_neT hs_37 (a := 128) rfl; omega) (by decide) ?_
  refine lv_iload_n hx hb dX5_computed_204 rfl (lv_at hl 1 rfl) ?_
  refine lv_iload_n hx hb dX5_computed_205 rfl (lv_at hl 2 rfl) ?_
  refine lv_ixor hx hb dX5_computed_206 ?_
  have hr0 := Option.some.inj hsp
  clear hsp
  subst hr0
  have hP9 := hP.sub (ws' := []) [] rfl
  have hD9 := hD.sub (ws' := []) [] (by decide) rfl
  have hK9 := hK.sub (tys' := []) [] rfl
  exact W.iret hx hb hr (fun t ht hW => ⟨⟨((a2 ^^^ a3)), (), rfl, rfl, by rw [ht]; exact hP9, va_K.moved hW.alike hK9, hD9⟩, hS.F ht⟩) hS.2.2 dX5_computed_207
def sp_v5_make (nf : Nat) (a1 : Int32) (a2 : Int32) (v1 : Int32) (v4 : Int32) (v5 : Int32) (f9 : Nat → Int32) (f10 : Nat → Int32) (f11 : Nat → Int32) : Option (Int32 × (Nat → Int32) × (Nat → Int32) × (Nat → Int32) × Int32 × Int32 × Int32) := (if 2000 ≤ v4 then (some (0, f10, f11, f9, 4, v4, v5)) else (if a2 < 0 then (some (0, f10, f11, f9, 4, v4, v5)) else (if a2 ≤ (20000 - v5) then (if (v4 + 1) < 0 then none else if 2001 ≤ ((v4 + 1) : Int32).toNatClampNeg then none else (if (v4 + 1) < 0 then none else if 2002 ≤ ((v4 + 1) : Int32).toNatClampNeg then none else ((sp_jd_fill4 nf v5 (v5 + a2) 0 20000 f11).bind (fun p1 => (if ((v4 + 1) + 1) < 0 then none else if 2002 ≤ (((v4 + 1) + 1) : Int32).toNatClampNeg then none else (some ((v4 + 1), (upd (upd f10 ((v4 + 1) : Int32).toNatClampNeg v5) (((v4 + 1) + 1) : Int32).toNatClampNeg (v5 + a2)), p1, (upd f9 ((v4 + 1) : Int32).toNatClampNeg a1), v1, (v4 + 1), (v5 + a2)))))))) else (some (0, f10, f11, f9, 4, v4, v5)))))
set_option maxHeartbeats 4000000 in
set_option maxRecDepth 100000 in
/-- ClassMill$Machine.make -/
theorem v5_make (l : Launch) (dC : Nat → ClassId) (dI : Nat → Nat → Nat) (sz : Nat) (h0 : Nat) (a1 : Int32) (a2 : Int32) (qf0 : Nat) (v1 : Int32) (v2 : Int32) (v3 : Int32) (v4 : Int32) (v5 : Int32) (v6 : Int32) (v7 : Int32) (qf8 : Nat) (qf9 : Nat) (qf10 : Nat) (qf11 : Nat) (qf12 : Nat) (qf13 : Nat) (qf14 : Nat) (qf15 : Nat) (qf16 : Nat) (v17 : Int32) (qf18 : Nat) (v19 : Int32) (v20 : Int32) (cf9 : ClassId) (f9 : (Nat → Int32)) (cf10 : ClassId) (f10 : (Nat → Int32)) (cf11 : ClassId) (f11 : (Nat → Int32)) (nf : Nat) (r0 : Int32) (o10 : (Nat → Int32)) (o11 : (Nat → Int32)) (o9 : (Nat → Int32)) (w1 : Int32) (w4 : Int32) (w5 : Int32) (hsp : sp_v5_make nf a1 a2 v1 v4 v5 f9 f10 f11 = some (r0, o10, o11, o9, w1, w4, w5)) : Met l yX5_make (.code yX5_make cX5_make 3 (some .int) :: VS_h7) ({ frames := 2, cells := 0, slots := 0, locals := 46 }) (va_Pc [.ref h0, .int a1, .int a2] (fun U => U.heap.size = sz ∧ va_P (dC, dI) vwCl [(h0, .inr (5, [.ref qf0, .int v1, .int v2, .int v3, .int v4, .int v5, .int v6, .int v7, .ref qf8, .ref qf9, .ref qf10, .ref qf11, .ref qf12, .ref qf13, .ref qf14, .ref qf15, .ref qf16, .int v17, .ref qf18, .int v19, .int v20])), (qf9, .inl (cf9, 2001, .inl f9)), (qf10, .inl (cf10, 2002, .inl f10)), (qf11, .inl (cf11, 20000, .inl f11))] U.heap ∧ va_K (dC, dI) vwCl [(cf9, .int), (cf10, .int), (cf11, .int)] U ∧ va_D (fun _ => True) [(h0, .inr (5, [.ref qf0, .int v1, .int v2, .int v3, .int v4, .int v5, .int v6, .int v7, .ref qf8, .ref qf9, .ref qf10, .ref qf11, .ref qf12, .ref qf13, .ref qf14, .ref qf15, .ref qf16, .int v17, .ref qf18, .int v19, .int v20])), (qf9, .inl (cf9, 2001, .inl f9)), (qf10, .inl (cf10, 2002, .inl f10)), (qf11, .inl (cf11, 20000, .inl f11))])) (va_Qi (fun (r : Int32) (u : Unit) => match u with | () => r0 = r) (fun (u : Unit) (t : State) => match u with | () => va_P (dC, dI) vwCl [(h0, .inr (5, [.ref qf0, .int w1, .int v2, .int v3, .int w4, .int w5, .int v6, .int v7, .ref qf8, .ref qf9, .ref qf10, .ref qf11, .ref qf12, .ref qf13, .ref qf14, .ref qf15, .ref qf16, .int v17, .ref qf18, .int v19, .int v20])), (qf9, .inl (cf9, 2001, .inl o9)), (qf10, .inl (cf10, 2002, .inl o10)), (qf11, .inl (cf11, 20000, .inl o11))] t.heap ∧ va_K (dC, dI) vwCl [(cf9, .int), (cf10, .int), (cf11, .int)] t ∧ va_D (va_A [(h0, .inr (5, [.ref qf0, .int v1, .int v2, .int v3, .int v4, .int v5, .int v6, .int v7, .ref qf8, .ref qf9, .ref qf10, .ref qf11, .ref qf12, .ref qf13, .ref qf14, .ref qf15, .ref qf16, .int v17, .ref qf18, .int v19, .int v20])), (qf9, .inl (cf9, 2001, .inl f9)), (qf10, .inl (cf10, 2002, .inl f10)), (qf11, .inl (cf11, 20000, .inl f11))] sz) [(h0, .inr (5, [.ref qf0, .int w1, .int v2, .int v3, .int w4, .int w5, .int v6, .int v7, .ref qf8, .ref qf9, .ref qf10, .ref qf11, .ref qf12, .ref qf13, .ref qf14, .ref qf15, .ref qf16, .int v17, .ref qf18, .int v19, .int v20])), (qf9, .inl (cf9, 2001, .inl o9)), (qf10, .inl (cf10, 2002, .inl o10)), (qf11, .inl (cf11, 20000, .inl o11))]) (va_A [(h0, .inr (5, [.ref qf0, .int v1, .int v2, .int v3, .int v4, .int v5, .int v6, .int v7, .ref qf8, .ref qf9, .ref qf10, .ref qf11, .ref qf12, .ref qf13, .ref qf14, .ref qf15, .ref qf16, .int v17, .ref qf18, .int v19, .int v20])), (qf9, .inl (cf9, 2001, .inl f9)), (qf10, .inl (cf10, 2002, .inl f10)), (qf11, .inl (cf11, 20000, .inl f11))] sz)) 0 0 (va_A [(h0, .inr (5, [.ref qf0, .int v1, .int v2, .int v3, .int v4, .int v5, .int v6, .int v7, .ref qf8, .ref qf9, .ref qf10, .ref qf11, .ref qf12, .ref qf13, .ref qf14, .ref qf15, .ref qf16, .int v17, .ref qf18, .int v19, .int v20])), (qf9, .inl (cf9, 2001, .inl f9)), (qf10, .inl (cf10, 2002, .inl f10)), (qf11, .inl (cf11, 20000, .inl f11))] sz) := by
  refine Met.ofW (cc := cX5_make) (maxL := 3) (ret := (some .int)) (by decide) rfl ?_
  intro p e s m args below meth c s₁ B hml hv
  obtain ⟨rfl, hsz, hP, hK, hD0⟩ := hv
  have hx := B.exec
  have hb := B.bytes
  have hr := B.returns
  have hts := atoms_spec (ws := (.code yX5_make cX5_make 3 (some .int) :: VS_h7)) B.pre
  replace hts := fun w (h : w ∈ VS_h7) => hts w (List.mem_cons_of_mem _ h)
  have hown : s.vm.findClass RX5 = some m.cls := findClass_of_methodNamed B.named
  have hlocks := B.notSynchronized
  subst hsz
  have hD := hD0.self (sz := s.heap.size)
  generalize hAe : va_A [(h0, .inr (5, [.ref qf0, .int v1, .int v2, .int v3, .int v4, .int v5, .int v6, .int v7, .ref qf8, .ref qf9, .ref qf10, .ref qf11, .ref qf12, .ref qf13, .ref qf14, .ref qf15, .ref qf16, .int v17, .ref qf18, .int v19, .int v20])), (qf9, .inl (cf9, 2001, .inl f9)), (qf10, .inl (cf10, 2002, .inl f10)), (qf11, .inl (cf11, 20000, .inl f11))] s.heap.size = A at hD  ⊢
  have hA : ∀ q : Nat, s.heap.size ≤ q → A q := fun q h => by rw [← hAe]; exact Or.inr h
  have hP : va_P (dC, dI) vwCl [(h0, .inr (5, [.ref qf0, .int v1, .int v2, .int v3, .int v4, .int v5, .int v6, .int v7, .ref qf8, .ref qf9, .ref qf10, .ref qf11, .ref qf12, .ref qf13, .ref qf14, .ref qf15, .ref qf16, .int v17, .ref qf18, .int v19, .int v20])), (qf9, .inl (cf9, 2001, .inl f9)), (qf10, .inl (cf10, 2002, .inl f10)), (qf11, .inl (cf11, 20000, .inl f11))] s.heap := hP
  have hl := lv_entry ([.ref h0, .int a1, .int a2]) (n := 3) (Nat.le_of_ble_eq_true rfl)
  rw [lg_entry_eq]
  generalize (lg_sl ([.ref h0, .int a1, .int a2]) ++ List.replicate (3 - (lg_sl ([.ref h0, .int a1, .int a2])).length) Slot.unset).toArray = ls at hl ⊢
  have hl : lv_has ls 3 [(0, .ref h0), (1, .int a1), (2, .int a2)] := hl
  obtain ⟨H, hH⟩ : ∃ H : Heap, s.heap = H := ⟨_, rfl⟩
  rw [hH] at hP ⊢
  have hS : va_S A s.heap H [] := by rw [← hH]; exact va_S.rf
  obtain ⟨locs, hlo⟩ : ∃ locs : List Loc, locs = [] := ⟨_, rfl⟩
  rw [← hlo] at hS ⊢
  unfold sp_v5_make at hsp
  refine lv_aload_n hx hb dX5_make_0 rfl (lv_at hl 0 rfl) ?_
  refine va_get (D := (dC, dI)) (ci := 5) (v := .int v4) (C := RX5) (T := TX5) (N := 21) hx hb hts uV_h7_X5 hown hK hP 0 rfl rfl 4 (by decide) (hts (.fieldLink RX5 60 "ClassMill$Machine" "objects" "I") mw_h7_258) (fun _ h9 => h9) rfl dX5_make_1 ?_
  refine lv_sipush (v := 2000) hx hb dX5_make_4 (by decide) ?_
  refine lv_icmp_ge (tgt := 26) hx hb dX5_make_7 (by decide) (fun c_1 => ?_) (fun c_1 => ?_)
  · rw [if_pos c_1] at hsp
    refine lv_aload_n hx hb dX5_make_26 rfl (lv_at hl 0 rfl) ?_
    refine lv_iconst (v := 4) hx hb dX5_make_27 (by decide) ?_
    refine va_put (D := (dC, dI)) (ci := 5) (v := .int 4) (ty := .int) (C := RX5) (T := TX5) (N := 21) hx hb hts uV_h7_X5 tyX5 tyX5_ok nmX5 hown hK hP hD hS 0 rfl rfl 1 (by decide) (hts (.fieldLink RX5 54 "ClassMill$Machine" "state" "I") mw_h7_259) (fun _ h9 => h9) rfl (by decide +kernel) rfl rfl (Nat.le_of_ble_eq_true rfl) dX5_make_28 ?_
    clear hP hD hS
    intro H locs hP hD hS
    replace hP : va_P (dC, dI) vwCl [(h0, .inr (5, [.ref qf0, .int 4, .int v2, .int v3, .int v4, .int v5, .int v6, .int v7, .ref qf8, .ref qf9, .ref qf10, .ref qf11, .ref qf12, .ref qf13, .ref qf14, .ref qf15, .ref qf16, .int v17, .ref qf18, .int v19, .int v20])), (qf9, .inl (cf9, 2001, .inl f9)), (qf10, .inl (cf10, 2002, .inl f10)), (qf11, .inl (cf11, 20000, .inl f11))] H := hP
    replace hD : va_D A [(h0, .inr (5, [.ref qf0, .int 4, .int v2, .int v3, .int v4, .int v5, .int v6, .int v7, .ref qf8, .ref qf9, .ref qf10, .ref qf11, .ref qf12, .ref qf13, .ref qf14, .ref qf15, .ref qf16, .int v17, .ref qf18, .int v19, .int v20])), (qf9, .inl (cf9, 2001, .inl f9)), (qf10, .inl (cf10, 2002, .inl f10)), (qf11, .inl (cf11, 20000, .inl f11))] := hD
    refine lv_iconst (v := 0) hx hb dX5_make_31 (by decide) ?_
    have hr0 := Option.some.inj hsp
    clear hsp
    obtain ⟨hq0, hr1⟩ := Prod.mk.inj hr0
    clear hr0
    obtain ⟨hq1, hr2⟩ := Prod.mk.inj hr1
    clear hr1
    obtain ⟨hq2, hr3⟩ := Prod.mk.inj hr2
    clear hr2
    obtain ⟨hq3, hr4⟩ := Prod.mk.inj hr3
    clear hr3
    obtain ⟨hq4, hr5⟩ := Prod.mk.inj hr4
    clear hr4
    obtain ⟨hq5, hr6⟩ := Prod.mk.inj hr5
    clear hr5
    subst hq0
    subst hq1
    subst hq2
    subst hq3
    subst hq4
    subst hq5
    subst hr6
    have hP9 := hP.sub (ws' := [(h0, .inr (5, [.ref qf0, .int 4, .int v2, .int v3, .int v4, .int v5, .int v6, .int v7, .ref qf8, .ref qf9, .ref qf10, .ref qf11, .ref qf12, .ref qf13, .ref qf14, .ref qf15, .ref qf16, .int v17, .ref qf18, .int v19, .int v20])), (qf9, .inl (cf9, 2001, .inl f9)), (qf10, .inl (cf10, 2002, .inl f10)), (qf11, .inl (cf11, 20000, .inl f11))]) [0, 1, 2, 3] rfl
    have hD9 := hD.sub (ws' := [(h0, .inr (5, [.ref qf0, .int 4, .int v2, .int v3, .int v4, .int v5, .int v6, .int v7, .ref qf8, .ref qf9, .ref qf10, .ref qf11, .ref qf12, .ref qf13, .ref qf14, .ref qf15, .ref qf16, .int v17, .ref qf18, .int v19, .int v20])), (qf9, .inl (cf9, 2001, .inl f9)), (qf10, .inl (cf10, 2002, .inl f10)), (qf11, .inl (cf11, 20000, .inl f11))]) [0, 1, 2, 3] (by decide) rfl
    have hK9 := hK.sub (tys' := [(cf9, .int), (cf10, .int), (cf11, .int)]) [0, 1, 2] rfl
    exact W.iret hx hb hr (fun t ht hW => ⟨⟨(0), (), rfl, rfl, by rw [ht]; exact hP9, va_K.moved hW.alike hK9, hD9⟩, hS.F ht⟩) hS.2.2 dX5_make_32
  · rw [if_neg c_1] at hsp
    refine lv_iload_n hx hb dX5_make_10 rfl (lv_at hl 2 rfl) ?_
    refine lv_if_lt (tgt := 26) hx hb dX5_make_11 (by decide) (fun c_2 => ?_) (fun c_2 => ?_)
    · rw [if_pos c_2] at hsp
      refine lv_aload_n hx hb dX5_make_26 rfl (lv_at hl 0 rfl) ?_
      refine lv_iconst (v := 4) hx hb dX5_make_27 (by decide) ?_
      refine va_put (D := (dC, dI)) (ci := 5) (v := .int 4) (ty := .int) (C := RX5) (T := TX5) (N := 21) hx hb hts uV_h7_X5 tyX5 tyX5_ok nmX5 hown hK hP hD hS 0 rfl rfl 1 (by decide) (hts (.fieldLink RX5 54 "ClassMill$Machine" "state" "I") mw_h7_259) (fun _ h9 => h9) rfl (by decide +kernel) rfl rfl (Nat.le_of_ble_eq_true rfl) dX5_make_28 ?_
      clear hP hD hS
      intro H locs hP hD hS
      replace hP : va_P (dC, dI) vwCl [(h0, .inr (5, [.ref qf0, .int 4, .int v2, .int v3, .int v4, .int v5, .int v6, .int v7, .ref qf8, .ref qf9, .ref qf10, .ref qf11, .ref qf12, .ref qf13, .ref qf14, .ref qf15, .ref qf16, .int v17, .ref qf18, .int v19, .int v20])), (qf9, .inl (cf9, 2001, .inl f9)), (qf10, .inl (cf10, 2002, .inl f10)), (qf11, .inl (cf11, 20000, .inl f11))] H := hP
      replace hD : va_D A [(h0, .inr (5, [.ref qf0, .int 4, .int v2, .int v3, .int v4, .int v5, .int v6, .int v7, .ref qf8, .ref qf9, .ref qf10, .ref qf11, .ref qf12, .ref qf13, .ref qf14, .ref qf15, .ref qf16, .int v17, .ref qf18, .int v19, .int v20])), (qf9, .inl (cf9, 2001, .inl f9)), (qf10, .inl (cf10, 2002, .inl f10)), (qf11, .inl (cf11, 20000, .inl f11))] := hD
      refine lv_iconst (v := 0) hx hb dX5_make_31 (by decide) ?_
      have hr0 := Option.some.inj hsp
      clear hsp
      obtain ⟨hq0, hr1⟩ := Prod.mk.inj hr0
      clear hr0
      obtain ⟨hq1, hr2⟩ := Prod.mk.inj hr1
      clear hr1
      obtain ⟨hq2, hr3⟩ := Prod.mk.inj hr2
      clear hr2
      obtain ⟨hq3, hr4⟩ := Prod.mk.inj hr3
      clear hr3
      obtain ⟨hq4, hr5⟩ := Prod.mk.inj hr4
      clear hr4
      obtain ⟨hq5, hr6⟩ := Prod.mk.inj hr5
      clear hr5
      subst hq0
      subst hq1
      subst hq2
      subst hq3
      subst hq4
      subst hq5
      subst hr6
      have hP9 := hP.sub (ws' := [(h0, .inr (5, [.ref qf0, .int 4, .int v2, .int v3, .int v4, .int v5, .int v6, .int v7, .ref qf8, .ref qf9, .ref qf10, .ref qf11, .ref qf12, .ref qf13, .ref qf14, .ref qf15, .ref qf16, .int v17, .ref qf18, .int v19, .int v20])), (qf9, .inl (cf9, 2001, .inl f9)), (qf10, .inl (cf10, 2002, .inl f10)), (qf11, .inl (cf11, 20000, .inl f11))]) [0, 1, 2, 3] rfl
      have hD9 := hD.sub (ws' := [(h0, .inr (5, [.ref qf0, .int 4, .int v2, .int v3, .int v4, .int v5, .int v6, .int v7, .ref qf8, .ref qf9, .ref qf10, .ref qf11, .ref qf12, .ref qf13, .ref qf14, .ref qf15, .ref qf16, .int v17, .ref qf18, .int v19, .int v20])), (qf9, .inl (cf9, 2001, .inl f9)), (qf10, .inl (cf10, 2002, .inl f10)), (qf11, .inl (cf11, 20000, .inl f11))]) [0, 1, 2, 3] (by decide) rfl
      have hK9 := hK.sub (tys' := [(cf9, .int), (cf10, .int), (cf11, .int)]) [0, 1, 2] rfl
      exact W.iret hx hb hr (fun t ht hW => ⟨⟨(0), (), rfl, rfl, by rw [ht]; exact hP9, va_K.moved hW.alike hK9, hD9⟩, hS.F ht⟩) hS.2.2 dX5_make_32
    · rw [if_neg c_2] at hsp
      refine lv_iload_n hx hb dX5_make_14 rfl (lv_at hl 2 rfl) ?_
      refine lv_sipush (v := 20000) hx hb dX5_make_15 (by decide) ?_
      refine lv_aload_n hx hb dX5_make_18 rfl (lv_at hl 0 rfl) ?_
      refine va_get (D := (dC, dI)) (ci := 5) (v := .int v5) (C := RX5) (T := TX5) (N := 21) hx hb hts uV_h7_X5 hown hK hP 0 rfl rfl 5 (by decide) (hts (.fieldLink RX5 63 "ClassMill$Machine" "cells" "I") mw_h7_260) (fun _ h9 => h9) rfl dX5_make_19 ?_
      refine lv_isub hx hb dX5_make_22 ?_
      refine lv_icmp_le (tgt := 33) hx hb dX5_make_23 (by decide) (fun c_3 => ?_) (fun c_3 => ?_)
      · rw [if_pos c_3] at hsp
        refine lv_aload_n hx hb dX5_make_33 rfl (lv_at hl 0 rfl) ?_
        refine lv_dup hx hb dX5_make_34 rfl ?_
        refine va_get (D := (dC, dI)) (ci := 5) (v := .int v4) (C := RX5) (T := TX5) (N := 21) hx hb hts uV_h7_X5 hown hK hP 0 rfl rfl 4 (by decide) (hts (.fieldLink RX5 60 "ClassMill$Machine" "objects" "I") mw_h7_258) (fun _ h9 => h9) rfl dX5_make_35 ?_
        refine lv_iconst (v := 1) hx hb dX5_make_38 (by decide) ?_
        refine lv_iadd hx hb dX5_make_39 ?_
        refine va_put (D := (dC, dI)) (ci := 5) (v := .int (v4 + 1)) (ty := .int) (C := RX5) (T := TX5) (N := 21) hx hb hts uV_h7_X5 tyX5 tyX5_ok nmX5 hown hK hP hD hS 0 rfl rfl 4 (by decide) (hts (.fieldLink RX5 60 "ClassMill$Machine" "objects" "I") mw_h7_258) (fun _ h9 => h9) rfl (by decide +kernel) rfl rfl (Nat.le_of_ble_eq_true rfl) dX5_make_40 ?_
        clear hP hD hS
        intro H locs hP hD hS
        replace hP : va_P (dC, dI) vwCl [(h0, .inr (5, [.ref qf0, .int v1, .int v2, .int v3, .int (v4 + 1), .int v5, .int v6, .int v7, .ref qf8, .ref qf9, .ref qf10, .ref qf11, .ref qf12, .ref qf13, .ref qf14, .ref qf15, .ref qf16, .int v17, .ref qf18, .int v19, .int v20])), (qf9, .inl (cf9, 2001, .inl f9)), (qf10, .inl (cf10, 2002, .inl f10)), (qf11, .inl (cf11, 20000, .inl f11))] H := hP
        replace hD : va_D A [(h0, .inr (5, [.ref qf0, .int v1, .int v2, .int v3, .int (v4 + 1), .int v5, .int v6, .int v7, .ref qf8, .ref qf9, .ref qf10, .ref qf11, .ref qf12, .ref qf13, .ref qf14, .ref qf15, .ref qf16, .int v17, .ref qf18, .int v19, .int v20])), (qf9, .inl (cf9, 2001, .inl f9)), (qf10, .inl (cf10, 2002, .inl f10)), (qf11, .inl (cf11, 20000, .inl f11))] := hD
        refine lv_aload_n hx hb dX5_make_43 rfl (lv_at hl 0 rfl) ?_
        refine va_get (D := (dC, dI)) (ci := 5) (v := .ref qf9) (C := RX5) (T := TX5) (N := 21) hx hb hts uV_h7_X5 hown hK hP 0 rfl rfl 9 (by decide) (hts (.fieldLink RX5 17 "ClassMill$Machine" "objectType" "[I") mw_h7_261) (fun _ h9 => h9) rfl dX5_make_44 ?_
        refine lv_aload_n hx hb dX5_make_47 rfl (lv_at hl 0 rfl) ?_
        refine va_get (D := (dC, dI)) (ci := 5) (v := .int (v4 + 1)) (C := RX5) (T := TX5) (N := 21) hx hb hts uV_h7_X5 hown hK hP 0 rfl rfl 4 (by decide) (hts (.fieldLink RX5 60 "ClassMill$Machine" "objects" "I") mw_h7_258) (fun _ h9 => h9) rfl dX5_make_48 ?_
        refine lv_iload_n hx hb dX5_make_51 rfl (lv_at hl 1 rfl) ?_
        obtain ⟨hi_4, hsp⟩ := ox_in hsp
        refine va_iast hx hb hK hP hD hS 1 0 rfl rfl (i := (v4 + 1)) (x := a1) hi_4 dX5_make_52 ?_
        clear hP hD hS
        intro H locs hP hD hS
        replace hP : va_P (dC, dI) vwCl [(h0, .inr (5, [.ref qf0, .int v1, .int v2, .int v3, .int (v4 + 1), .int v5, .int v6, .int v7, .ref qf8, .ref qf9, .ref qf10, .ref qf11, .ref qf12, .ref qf13, .ref qf14, .ref qf15, .ref qf16, .int v17, .ref qf18, .int v19, .int v20])), (qf9, .inl (cf9, 2001, .inl (upd f9 ((v4 + 1) : Int32).toNatClampNeg a1))), (qf10, .inl (cf10, 2002, .inl f10)), (qf11, .inl (cf11, 20000, .inl f11))] H := hP
        replace hD : va_D A [(h0, .inr (5, [.ref qf0, .int v1, .int v2, .int v3, .int (v4 + 1), .int v5, .int v6, .int v7, .ref qf8, .ref qf9, .ref qf10, .ref qf11, .ref qf12, .ref qf13, .ref qf14, .ref qf15, .ref qf16, .int v17, .ref qf18, .int v19, .int v20])), (qf9, .inl (cf9, 2001, .inl (upd f9 ((v4 + 1) : Int32).toNatClampNeg a1))), (qf10, .inl (cf10, 2002, .inl f10)), (qf11, .inl (cf11, 20000, .inl f11))] := hD
        refine lv_aload_n hx hb dX5_make_53 rfl (lv_at hl 0 rfl) ?_
        refine va_get (D := (dC, dI)) (ci := 5) (v := .ref qf10) (C := RX5) (T := TX5) (N := 21) hx hb hts uV_h7_X5 hown hK hP 0 rfl rfl 10 (by decide) (hts (.fieldLink RX5 20 "ClassMill$Machine" "objectAt" "[I") mw_h7_262) (fun _ h9 => h9) rfl dX5_make_54 ?_
        refine lv_aload_n hx hb dX5_make_57 rfl (lv_at hl 0 rfl) ?_
        refine va_get (D := (dC, dI)) (ci := 5) (v := .int (v4 + 1)) (C := RX5) (T := TX5) (N := 21) hx hb hts uV_h7_X5 hown hK hP 0 rfl rfl 4 (by decide) (hts (.fieldLink RX5 60 "ClassMill$Machine" "objects" "I") mw_h7_258) (fun _ h9 => h9) rfl dX5_make_58 ?_
        refine lv_aload_n hx hb dX5_make_61 rfl (lv_at hl 0 rfl) ?_
        refine va_get (D := (dC, dI)) (ci := 5) (v := .int v5) (C := RX5) (T := TX5) (N := 21) hx hb hts uV_h7_X5 hown hK hP 0 rfl rfl 5 (by decide) (hts (.fieldLink RX5 63 "ClassMill$Machine" "cells" "I") mw_h7_260) (fun _ h9 => h9) rfl dX5_make_62 ?_
        obtain ⟨hi_5, hsp⟩ := ox_in hsp
        refine va_iast hx hb hK hP hD hS 2 1 rfl rfl (i := (v4 + 1)) (x := v5) hi_5 dX5_make_65 ?_
        clear hP hD hS
        intro H locs hP hD hS
        replace hP : va_P (dC, dI) vwCl [(h0, .inr (5, [.ref qf0, .int v1, .int v2, .int v3, .int (v4 + 1), .int v5, .int v6, .int v7, .ref qf8, .ref qf9, .ref qf10, .ref qf11, .ref qf12, .ref qf13, .ref qf14, .ref qf15, .ref qf16, .int v17, .ref qf18, .int v19, .int v20])), (qf9, .inl (cf9, 2001, .inl (upd f9 ((v4 + 1) : Int32).toNatClampNeg a1))), (qf10, .inl (cf10, 2002, .inl (upd f10 ((v4 + 1) : Int32).toNatClampNeg v5))), (qf11, .inl (cf11, 20000, .inl f11))] H := hP
        replace hD : va_D A [(h0, .inr (5, [.ref qf0, .int v1, .int v2, .int v3, .int (v4 + 1), .int v5, .int v6, .int v7, .ref qf8, .ref qf9, .ref qf10, .ref qf11, .ref qf12, .ref qf13, .ref qf14, .ref qf15, .ref qf16, .int v17, .ref qf18, .int v19, .int v20])), (qf9, .inl (cf9, 2001, .inl (upd f9 ((v4 + 1) : Int32).toNatClampNeg a1))), (qf10, .inl (cf10, 2002, .inl (upd f10 ((v4 + 1) : Int32).toNatClampNeg v5))), (qf11, .inl (cf11, 20000, .inl f11))] := hD
        refine lv_aload_n hx hb dX5_make_66 rfl (lv_at hl 0 rfl) ?_
        refine va_get (D := (dC, dI)) (ci := 5) (v := .ref qf11) (C := RX5) (T := TX5) (N := 21) hx hb hts uV_h7_X5 hown hK hP 0 rfl rfl 11 (by decide) (hts (.fieldLink RX5 23 "ClassMill$Machine" "cell" "[I") mw_h7_263) (fun _ h9 => h9) rfl dX5_make_67 ?_
        refine lv_aload_n hx hb dX5_make_70 rfl (lv_at hl 0 rfl) ?_
        refine va_get (D := (dC, dI)) (ci := 5) (v := .int v5) (C := RX5) (T := TX5) (N := 21) hx hb hts uV_h7_X5 hown hK hP 0 rfl rfl 5 (by decide) (hts (.fieldLink RX5 63 "ClassMill$Machine" "cells" "I") mw_h7_260) (fun _ h9 => h9) rfl dX5_make_71 ?_
        refine lv_aload_n hx hb dX5_make_74 rfl (lv_at hl 0 rfl) ?_
        refine va_get (D := (dC, dI)) (ci := 5) (v := .int v5) (C := RX5) (T := TX5) (N := 21) hx hb hts uV_h7_X5 hown hK hP 0 rfl rfl 5 (by decide) (hts (.fieldLink RX5 63 "ClassMill$Machine" "cells" "I") mw_h7_260) (fun _ h9 => h9) rfl dX5_make_75 ?_
        refine lv_iload_n hx hb dX5_make_78 rfl (lv_at hl 2 rfl) ?_
        refine lv_iadd hx hb dX5_make_79 ?_
        refine lv_iconst (v := 0) hx hb dX5_make_80 (by decide) ?_
        obtain ⟨g901_0, hu_1, hsp⟩ := ox_bind hsp
        try dsimp only at hsp
        have hPc := hP.sub (ws' := [(qf11, .inl (cf11, 20000, .inl f11))]) [3] rfl
        have hDc := hD.sub (ws' := [(qf11, .inl (cf11, 20000, .inl f11))]) [3] (by decide) rfl
        have hKc := hK.sub (tys' := [(cf11, .int)]) [2] rfl
        have hFc := va_free (wc := [(qf11, .inl (cf11, 20000, .inl f11))]) hD hS hA [3] rfl
        refine va_callv (va_runS (As := [.ref qf11, .int v5, .int (v5 + a2), .int 0]) (rest := []) ⟨hx, hb, hml, hown, hts⟩ (jd_fill4 l dC dI H.size qf11 v5 ((v5 + a2)) 0 cf11 20000 f11 nf g901_0 hu_1) (va_cwS 4 hts gv_h7_48 rfl rfl rfl (by decide +kernel) ⟨Nat.le_of_ble_eq_true rfl, Nat.le_of_ble_eq_true rfl⟩) ⟨fun a U g mk q => by obtain ⟨q0, q1, qP, qK, qD⟩ := q; exact ⟨q0, q1, qP, va_K.moved (u := U) (U := U.calling g mk a) (Vm.Alike.refl U.vm) qK, qD⟩, fun U hU hW => ⟨rfl, by rw [hU], by rw [hU]; exact hPc, va_K.moved hW.alike hKc, hDc.weaken (fun _ _ _ _ => trivial)⟩⟩ rfl rfl hl.1 rfl (lv_room (Nat.le_of_ble_eq_true rfl)) dX5_make_81 ⟨Nat.le_of_ble_eq_true rfl, Nat.le_of_ble_eq_true rfl⟩) hS (fun q _ h => hFc q h) hFc ?_
        clear hS
        intro u t H1 locs ht hvm hw hB hz1 hk1 hS
        obtain ⟨⟩ := u
        obtain ⟨hP1, hK1, hD1⟩ := hB
        rw [ht] at hP1
        have hK1 := va_K.moved hvm.symm hK1
        try dsimp only at hw
        have hPD := va_join (wr := [(h0, .inr (5, [.ref qf0, .int v1, .int v2, .int v3, .int (v4 + 1), .int v5, .int v6, .int v7, .ref qf8, .ref qf9, .ref qf10, .ref qf11, .ref qf12, .ref qf13, .ref qf14, .ref qf15, .ref qf16, .int v17, .ref qf18, .int v19, .int v20])), (qf9, .inl (cf9, 2001, .inl (upd f9 ((v4 + 1) : Int32).toNatClampNeg a1))), (qf10, .inl (cf10, 2002, .inl (upd f10 ((v4 + 1) : Int32).toNatClampNeg v5)))]) (w1 := [(qf11, .inl (cf11, 20000, .inl g901_0))]) hP hD [3] [0, 1, 2] rfl rfl (by decide) (by decide) hk1 hFc hP1 hD1
        clear hP hD
        obtain ⟨hP, hD⟩ := hPD
        replace hK := (hK.sub (tys' := [(cf9, .int), (cf10, .int)]) [0, 1] rfl).app hK1
        clear hPc hDc hKc hFc hP1 hK1 hD1 hz1 hk1 ht hvm
        generalize H1 = H at hP hS ⊢
        replace hP : va_P (dC, dI) vwCl [(h0, .inr (5, [.ref qf0, .int v1, .int v2, .int v3, .int (v4 + 1), .int v5, .int v6, .int v7, .ref qf8, .ref qf9, .ref qf10, .ref qf11, .ref qf12, .ref qf13, .ref qf14, .ref qf15, .ref qf16, .int v17, .ref qf18, .int v19, .int v20])), (qf9, .inl (cf9, 2001, .inl (upd f9 ((v4 + 1) : Int32).toNatClampNeg a1))), (qf10, .inl (cf10, 2002, .inl (upd f10 ((v4 + 1) : Int32).toNatClampNeg v5))), (qf11, .inl (cf11, 20000, .inl g901_0))] H := hP
        replace hD : va_D A [(h0, .inr (5, [.ref qf0, .int v1, .int v2, .int v3, .int (v4 + 1), .int v5, .int v6, .int v7, .ref qf8, .ref qf9, .ref qf10, .ref qf11, .ref qf12, .ref qf13, .ref qf14, .ref qf15, .ref qf16, .int v17, .ref qf18, .int v19, .int v20])), (qf9, .inl (cf9, 2001, .inl (upd f9 ((v4 + 1) : Int32).toNatClampNeg a1))), (qf10, .inl (cf10, 2002, .inl (upd f10 ((v4 + 1) : Int32).toNatClampNeg v5))), (qf11, .inl (cf11, 20000, .inl g901_0))] := hD
        replace hK : va_K (dC, dI) vwCl [(cf9, .int), (cf10, .int), (cf11, .int)] s := hK
        refine lv_aload_n hx hb dX5_make_84 rfl (lv_at hl 0 rfl) ?_
        refine lv_dup hx hb dX5_make_85 rfl ?_
        refine va_get (D := (dC, dI)) (ci := 5) (v := .int v5) (C := RX5) (T := TX5) (N := 21) hx hb hts uV_h7_X5 hown hK hP 0 rfl rfl 5 (by decide) (hts (.fieldLink RX5 63 "ClassMill$Machine" "cells" "I") mw_h7_260) (fun _ h9 => h9) rfl dX5_make_86 ?_
        refine lv_iload_n hx hb dX5_make_89 rfl (lv_at hl 2 rfl) ?_
        refine lv_iadd hx hb dX5_make_90 ?_
        refine va_put (D := (dC, dI)) (ci := 5) (v := .int (v5 + a2)) (ty := .int) (C := RX5) (T := TX5) (N := 21) hx hb hts uV_h7_X5 tyX5 tyX5_ok nmX5 hown hK hP hD hS 0 rfl rfl 5 (by decide) (hts (.fieldLink RX5 63 "ClassMill$Machine" "cells" "I") mw_h7_260) (fun _ h9 => h9) rfl (by decide +kernel) rfl rfl (Nat.le_of_ble_eq_true rfl) dX5_make_91 ?_
        clear hP hD hS
        intro H locs hP hD hS
        replace hP : va_P (dC, dI) vwCl [(h0, .inr (5, [.ref qf0, .int v1, .int v2, .int v3, .int (v4 + 1), .int (v5 + a2), .int v6, .int v7, .ref qf8, .ref qf9, .ref qf10, .ref qf11, .ref qf12, .ref qf13, .ref qf14, .ref qf15, .ref qf16, .int v17, .ref qf18, .int v19, .int v20])), (qf9, .inl (cf9, 2001, .inl (upd f9 ((v4 + 1) : Int32).toNatClampNeg a1))), (qf10, .inl (cf10, 2002, .inl (upd f10 ((v4 + 1) : Int32).toNatClampNeg v5))), (qf11, .inl (cf11, 20000, .inl g901_0))] H := hP
        replace hD : va_D A [(h0, .inr (5, [.ref qf0, .int v1, .int v2, .int v3, .int (v4 + 1), .int (v5 + a2), .int v6, .int v7, .ref qf8, .ref qf9, .ref qf10, .ref qf11, .ref qf12, .ref qf13, .ref qf14, .ref qf15, .ref qf16, .int v17, .ref qf18, .int v19, .int v20])), (qf9, .inl (cf9, 2001, .inl (upd f9 ((v4 + 1) : Int32).toNatClampNeg a1))), (qf10, .inl (cf10, 2002, .inl (upd f10 ((v4 + 1) : Int32).toNatClampNeg v5))), (qf11, .inl (cf11, 20000, .inl g901_0))] := hD
        refine lv_aload_n hx hb dX5_make_94 rfl (lv_at hl 0 rfl) ?_
        refine va_get (D := (dC, dI)) (ci := 5) (v := .ref qf10) (C := RX5) (T := TX5) (N := 21) hx hb hts uV_h7_X5 hown hK hP 0 rfl rfl 10 (by decide) (hts (.fieldLink RX5 20 "ClassMill$Machine" "objectAt" "[I") mw_h7_262) (fun _ h9 => h9) rfl dX5_make_95 ?_
        refine lv_aload_n hx hb dX5_make_98 rfl (lv_at hl 0 rfl) ?_
        refine va_get (D := (dC, dI)) (ci := 5) (v := .int (v4 + 1)) (C := RX5) (T := TX5) (N := 21) hx hb hts uV_h7_X5 hown hK hP 0 rfl rfl 4 (by decide) (hts (.fieldLink RX5 60 "ClassMill$Machine" "objects" "I") mw_h7_258) (fun _ h9 => h9) rfl dX5_make_99 ?_
        refine lv_iconst (v := 1) hx hb dX5_make_102 (by decide) ?_
        refine lv_iadd hx hb dX5_make_103 ?_
        refine lv_aload_n hx hb dX5_make_104 rfl (lv_at hl 0 rfl) ?_
        refine va_get (D := (dC, dI)) (ci := 5) (v := .int (v5 + a2)) (C := RX5) (T := TX5) (N := 21) hx hb hts uV_h7_X5 hown hK hP 0 rfl rfl 5 (by decide) (hts (.fieldLink RX5 63 "ClassMill$Machine" "cells" "I") mw_h7_260) (fun _ h9 => h9) rfl dX5_make_105 ?_
        obtain ⟨hi_6, hsp⟩ := ox_in hsp
        refine va_iast hx hb hK hP hD hS 2 1 rfl rfl (i := ((v4 + 1) + 1)) (x := (v5 + a2)) hi_6 dX5_make_108 ?_
        clear hP hD hS
        intro H locs hP hD hS
        replace hP : va_P (dC, dI) vwCl [(h0, .inr (5, [.ref qf0, .int v1, .int v2, .int v3, .int (v4 + 1), .int (v5 + a2), .int v6, .int v7, .ref qf8, .ref qf9, .ref qf10, .ref qf11, .ref qf12, .ref qf13, .ref qf14, .ref qf15, .ref qf16, .int v17, .ref qf18, .int v19, .int v20])), (qf9, .inl (cf9, 2001, .inl (upd f9 ((v4 + 1) : Int32).toNatClampNeg a1))), (qf10, .inl (cf10, 2002, .inl (upd (upd f10 ((v4 + 1) : Int32).toNatClampNeg v5) (((v4 + 1) + 1) : Int32).toNatClampNeg (v5 + a2)))), (qf11, .inl (cf11, 20000, .inl g901_0))] H := hP
        replace hD : va_D A [(h0, .inr (5, [.ref qf0, .int v1, .int v2, .int v3, .int (v4 + 1), .int (v5 + a2), .int v6, .int v7, .ref qf8, .ref qf9, .ref qf10, .ref qf11, .ref qf12, .ref qf13, .ref qf14, .ref qf15, .ref qf16, .int v17, .ref qf18, .int v19, .int v20])), (qf9, .inl (cf9, 2001, .inl (upd f9 ((v4 + 1) : Int32).toNatClampNeg a1))), (qf10, .inl (cf10, 2002, .inl (upd (upd f10 ((v4 + 1) : Int32).toNatClampNeg v5) (((v4 + 1) + 1) : Int32).toNatClampNeg (v5 + a2)))), (qf11, .inl (cf11, 20000, .inl g901_0))] := hD
        refine lv_aload_n hx hb dX5_make_109 rfl (lv_at hl 0 rfl) ?_
        refine va_get (D := (dC, dI)) (ci := 5) (v := .int (v4 + 1)) (C := RX5) (T := TX5) (N := 21) hx hb hts uV_h7_X5 hown hK hP 0 rfl rfl 4 (by decide) (hts (.fieldLink RX5 60 "ClassMill$Machine" "objects" "I") mw_h7_258) (fun _ h9 => h9) rfl dX5_make_110 ?_
        have hr0 := Option.some.inj hsp
        clear hsp
        obtain ⟨hq0, hr1⟩ := Prod.mk.inj hr0
        clear hr0
        obtain ⟨hq1, hr2⟩ := Prod.mk.inj hr1
        clear hr1
        obtain ⟨hq2, hr3⟩ := Prod.mk.inj hr2
        clear hr2
        obtain ⟨hq3, hr4⟩ := Prod.mk.inj hr3
        clear hr3
        obtain ⟨hq4, hr5⟩ := Prod.mk.inj hr4
        clear hr4
        obtain ⟨hq5, hr6⟩ := Prod.mk.inj hr5
        clear hr5
        subst hq0
        subst hq1
        subst hq2
        subst hq3
        subst hq4
        subst hq5
        subst hr6
        have hP9 := hP.sub (ws' := [(h0, .inr (5, [.ref qf0, .int v1, .int v2, .int v3, .int (v4 + 1), .int (v5 + a2), .int v6, .int v7, .ref qf8, .ref qf9, .ref qf10, .ref qf11, .ref qf12, .ref qf13, .ref qf14, .ref qf15, .ref qf16, .int v17, .ref qf18, .int v19, .int v20])), (qf9, .inl (cf9, 2001, .inl (upd f9 ((v4 + 1) : Int32).toNatClampNeg a1))), (qf10, .inl (cf10, 2002, .inl (upd (upd f10 ((v4 + 1) : Int32).toNatClampNeg v5) (((v4 + 1) + 1) : Int32).toNatClampNeg (v5 + a2)))), (qf11, .inl (cf11, 20000, .inl g901_0))]) [0, 1, 2, 3] rfl
        have hD9 := hD.sub (ws' := [(h0, .inr (5, [.ref qf0, .int v1, .int v2, .int v3, .int (v4 + 1), .int (v5 + a2), .int v6, .int v7, .ref qf8, .ref qf9, .ref qf10, .ref qf11, .ref qf12, .ref qf13, .ref qf14, .ref qf15, .ref qf16, .int v17, .ref qf18, .int v19, .int v20])), (qf9, .inl (cf9, 2001, .inl (upd f9 ((v4 + 1) : Int32).toNatClampNeg a1))), (qf10, .inl (cf10, 2002, .inl (upd (upd f10 ((v4 + 1) : Int32).toNatClampNeg v5) (((v4 + 1) + 1) : Int32).toNatClampNeg (v5 + a2)))), (qf11, .inl (cf11, 20000, .inl g901_0))]) [0, 1, 2, 3] (by decide) rfl
        have hK9 := hK.sub (tys' := [(cf9, .int), (cf10, .int), (cf11, .int)]) [0, 1, 2] rfl
        exact W.iret hx hb hr (fun t ht hW => ⟨⟨((v4 + 1)), (), rfl, rfl, by rw [ht]; exact hP9, va_K.moved hW.alike hK9, hD9⟩, hS.F ht⟩) hS.2.2 dX5_make_113
      · rw [if_neg c_3] at hsp
        refine lv_aload_n hx hb dX5_make_26 rfl (lv_at hl 0 rfl) ?_
        refine lv_iconst (v := 4) hx hb dX5_make_27 (by decide) ?_
        refine va_put (D := (dC, dI)) (ci := 5) (v := .int 4) (ty := .int) (C := RX5) (T := TX5) (N := 21) hx hb hts uV_h7_X5 tyX5 tyX5_ok nmX5 hown hK hP hD hS 0 rfl rfl 1 (by decide) (hts (.fieldLink RX5 54 "ClassMill$Machine" "state" "I") mw_h7_259) (fun _ h9 => h9) rfl (by decide +kernel) rfl rfl (Nat.le_of_ble_eq_true rfl) dX5_make_28 ?_
        clear hP hD hS
        intro H locs hP hD hS
        replace hP : va_P (dC, dI) vwCl [(h0, .inr (5, [.ref qf0, .int 4, .int v2, .int v3, .int v4, .int v5, .int v6, .int v7, .ref qf8, .ref qf9, .ref qf10, .ref qf11, .ref qf12, .ref qf13, .ref qf14, .ref qf15, .ref qf16, .int v17, .ref qf18, .int v19, .int v20])), (qf9, .inl (cf9, 2001, .inl f9)), (qf10, .inl (cf10, 2002, .inl f10)), (qf11, .inl (cf11, 20000, .inl f11))] H := hP
        replace hD : va_D A [(h0, .inr (5, [.ref qf0, .int 4, .int v2, .int v3, .int v4, .int v5, .int v6, .int v7, .ref qf8, .ref qf9, .ref qf10, .ref qf11, .ref qf12, .ref qf13, .ref qf14, .ref qf15, .ref qf16, .int v17, .ref qf18, .int v19, .int v20])), (qf9, .inl (cf9, 2001, .inl f9)), (qf10, .inl (cf10, 2002, .inl f10)), (qf11, .inl (cf11, 20000, .inl f11))] := hD
        refine lv_iconst (v := 0) hx hb dX5_make_31 (by decide) ?_
        have hr0 := Option.some.inj hsp
        clear hsp
        obtain ⟨hq0, hr1⟩ := Prod.mk.inj hr0
        clear hr0
        obtain ⟨hq1, hr2⟩ := Prod.mk.inj hr1
        clear hr1
        obtain ⟨hq2, hr3⟩ := Prod.mk.inj hr2
        clear hr2
        obtain ⟨hq3, hr4⟩ := Prod.mk.inj hr3
        clear hr3
        obtain ⟨hq4, hr5⟩ := Prod.mk.inj hr4
        clear hr4
        obtain ⟨hq5, hr6⟩ := Prod.mk.inj hr5
        clear hr5
        subst hq0
        subst hq1
        subst hq2
        subst hq3
        subst hq4
        subst hq5
        subst hr6
        have hP9 := hP.sub (ws' := [(h0, .inr (5, [.ref qf0, .int 4, .int v2, .int v3, .int v4, .int v5, .int v6, .int v7, .ref qf8, .ref qf9, .ref qf10, .ref qf11, .ref qf12, .ref qf13, .ref qf14, .ref qf15, .ref qf16, .int v17, .ref qf18, .int v19, .int v20])), (qf9, .inl (cf9, 2001, .inl f9)), (qf10, .inl (cf10, 2002, .inl f10)), (qf11, .inl (cf11, 20000, .inl f11))]) [0, 1, 2, 3] rfl
        have hD9 := hD.sub (ws' := [(h0, .inr (5, [.ref qf0, .int 4, .int v2, .int v3, .int v4, .int v5, .int v6, .int v7, .ref qf8, .ref qf9, .ref qf10, .ref qf11, .ref qf12, .ref qf13, .ref qf14, .ref qf15, .ref qf16, .int v17, .ref qf18, .int v19, .int v20])), (qf9, .inl (cf9, 2001, .inl f9)), (qf10, .inl (cf10, 2002, .inl f10)), (qf11, .inl (cf11, 20000, .inl f11))]) [0, 1, 2, 3] (by decide) rfl
        have hK9 := hK.sub (tys' := [(cf9, .int), (cf10, .int), (cf11, .int)]) [0, 1, 2] rfl
        exact W.iret hx hb hr (fun t ht hW => ⟨⟨(0), (), rfl, rfl, by rw [ht]; exact hP9, va_K.moved hW.alike hK9, hD9⟩, hS.F ht⟩) hS.2.2 dX5_make_32
def sp_v5_giveNew (nf : Nat) (a1 : Int32) (a2 : Int32) (v1 : Int32) (v4 : Int32) (v5 : Int32) (v17 : Int32) (f9 : Nat → Int32) (f10 : Nat → Int32) (f11 : Nat → Int32) (f14 : Nat → Int32) (f16 : Nat → Int32) (f13 : Nat → Int32) : Option ((Nat → Int32) × (Nat → Int32) × (Nat → Int32) × (Nat → Int32) × (Nat → Int32) × (Nat → Int32) × Int32 × Int32 × Int32) := ((sp_v5_make nf a1 a2 v1 v4 v5 f9 f10 f11).bind (fun p1 => (if p1.1 = 0 then (some (p1.2.1, p1.2.2.1, f13, f14, f16, p1.2.2.2.1, p1.2.2.2.2.1, p1.2.2.2.2.2.1, p1.2.2.2.2.2.2)) else ((sp_t5_give nf p1.1 2 p1.2.2.2.2.1 v17 f14 f16 f13).bind (fun p2 => (some (p1.2.1, p1.2.2.1, p2.1, p2.2.1, p2.2.2.1, p1.2.2.2.1, p2.2.2.2, p1.2.2.2.2.2.1, p1.2.2.2.2.2.2)))))))
set_option maxHeartbeats 4000000 in
set_option maxRecDepth 100000 in
/-- ClassMill$Machine.giveNew -/
theorem v5_giveNew (l : Launch) (dC : Nat → ClassId) (dI : Nat → Nat → Nat) (sz : Nat) (h0 : Nat) (a1 : Int32) (a2 : Int32) (qf0 : Nat) (v1 : Int32) (v2 : Int32) (v3 : Int32) (v4 : Int32) (v5 : Int32) (v6 : Int32) (v7 : Int32) (qf8 : Nat) (qf9 : Nat) (qf10 : Nat) (qf11 : Nat) (qf12 : Nat) (qf13 : Nat) (qf14 : Nat) (qf15 : Nat) (qf16 : Nat) (v17 : Int32) (qf18 : Nat) (v19 : Int32) (v20 : Int32) (cf9 : ClassId) (f9 : (Nat → Int32)) (cf10 : ClassId) (f10 : (Nat → Int32)) (cf11 : ClassId) (f11 : (Nat → Int32)) (cf14 : ClassId) (f14 : (Nat → Int32)) (cf16 : ClassId) (f16 : (Nat → Int32)) (cf13 : ClassId) (f13 : (Nat → Int32)) (nf : Nat) (o10 : (Nat → Int32)) (o11 : (Nat → Int32)) (o13 : (Nat → Int32)) (o14 : (Nat → Int32)) (o16 : (Nat → Int32)) (o9 : (Nat → Int32)) (w1 : Int32) (w4 : Int32) (w5 : Int32) (hsp : sp_v5_giveNew nf a1 a2 v1 v4 v5 v17 f9 f10 f11 f14 f16 f13 = some (o10, o11, o13, o14, o16, o9, w1, w4, w5)) : Met l yX5_giveNew (.code yX5_giveNew cX5_giveNew 4 none :: VS_h7) ({ frames := 3, cells := 0, slots := 0, locals := 68 }) (va_Pc [.ref h0, .int a1, .int a2] (fun U => U.heap.size = sz ∧ va_P (dC, dI) vwCl [(h0, .inr (5, [.ref qf0, .int v1, .int v2, .int v3, .int v4, .int v5, .int v6, .int v7, .ref qf8, .ref qf9, .ref qf10, .ref qf11, .ref qf12, .ref qf13, .ref qf14, .ref qf15, .ref qf16, .int v17, .ref qf18, .int v19, .int v20])), (qf9, .inl (cf9, 2001, .inl f9)), (qf10, .inl (cf10, 2002, .inl f10)), (qf11, .inl (cf11, 20000, .inl f11)), (qf14, .inl (cf14, 60, .inl f14)), (qf16, .inl (cf16, 1800, .inl f16)), (qf13, .inl (cf13, 60, .inl f13))] U.heap ∧ va_K (dC, dI) vwCl [(cf9, .int), (cf10, .int), (cf11, .int), (cf14, .int), (cf16, .int), (cf13, .int)] U ∧ va_D (fun _ => True) [(h0, .inr (5, [.ref qf0, .int v1, .int v2, .int v3, .int v4, .int v5, .int v6, .int v7, .ref qf8, .ref qf9, .ref qf10, .ref qf11, .ref qf12, .ref qf13, .ref qf14, .ref qf15, .ref qf16, .int v17, .ref qf18, .int v19, .int v20])), (qf9, .inl (cf9, 2001, .inl f9)), (qf10, .inl (cf10, 2002, .inl f10)), (qf11, .inl (cf11, 20000, .inl f11)), (qf14, .inl (cf14, 60, .inl f14)), (qf16, .inl (cf16, 1800, .inl f16)), (qf13, .inl (cf13, 60, .inl f13))])) (va_Qv (fun (u : Unit) => match u with | () => True) (fun (u : Unit) (t : State) => match u with | () => va_P (dC, dI) vwCl [(h0, .inr (5, [.ref qf0, .int w1, .int v2, .int v3, .int w4, .int w5, .int v6, .int v7, .ref qf8, .ref qf9, .ref qf10, .ref qf11, .ref qf12, .ref qf13, .ref qf14, .ref qf15, .ref qf16, .int v17, .ref qf18, .int v19, .int v20])), (qf9, .inl (cf9, 2001, .inl o9)), (qf10, .inl (cf10, 2002, .inl o10)), (qf11, .inl (cf11, 20000, .inl o11)), (qf14, .inl (cf14, 60, .inl o14)), (qf16, .inl (cf16, 1800, .inl o16)), (qf13, .inl (cf13, 60, .inl o13))] t.heap ∧ va_K (dC, dI) vwCl [(cf9, .int), (cf10, .int), (cf11, .int), (cf14, .int), (cf16, .int), (cf13, .int)] t ∧ va_D (va_A [(h0, .inr (5, [.ref qf0, .int v1, .int v2, .int v3, .int v4, .int v5, .int v6, .int v7, .ref qf8, .ref qf9, .ref qf10, .ref qf11, .ref qf12, .ref qf13, .ref qf14, .ref qf15, .ref qf16, .int v17, .ref qf18, .int v19, .int v20])), (qf9, .inl (cf9, 2001, .inl f9)), (qf10, .inl (cf10, 2002, .inl f10)), (qf11, .inl (cf11, 20000, .inl f11)), (qf14, .inl (cf14, 60, .inl f14)), (qf16, .inl (cf16, 1800, .inl f16)), (qf13, .inl (cf13, 60, .inl f13))] sz) [(h0, .inr (5, [.ref qf0, .int w1, .int v2, .int v3, .int w4, .int w5, .int v6, .int v7, .ref qf8, .ref qf9, .ref qf10, .ref qf11, .ref qf12, .ref qf13, .ref qf14, .ref qf15, .ref qf16, .int v17, .ref qf18, .int v19, .int v20])), (qf9, .inl (cf9, 2001, .inl o9)), (qf10, .inl (cf10, 2002, .inl o10)), (qf11, .inl (cf11, 20000, .inl o11)), (qf14, .inl (cf14, 60, .inl o14)), (qf16, .inl (cf16, 1800, .inl o16)), (qf13, .inl (cf13, 60, .inl o13))]) (va_A [(h0, .inr (5, [.ref qf0, .int v1, .int v2, .int v3, .int v4, .int v5, .int v6, .int v7, .ref qf8, .ref qf9, .ref qf10, .ref qf11, .ref qf12, .ref qf13, .ref qf14, .ref qf15, .ref qf16, .int v17, .ref qf18, .int v19, .int v20])), (qf9, .inl (cf9, 2001, .inl f9)), (qf10, .inl (cf10, 2002, .inl f10)), (qf11, .inl (cf11, 20000, .inl f11)), (qf14, .inl (cf14, 60, .inl f14)), (qf16, .inl (cf16, 1800, .inl f16)), (qf13, .inl (cf13, 60, .inl f13))] sz)) 0 0 (va_A [(h0, .inr (5, [.ref qf0, .int v1, .int v2, .int v3, .int v4, .int v5, .int v6, .int v7, .ref qf8, .ref qf9, .ref qf10, .ref qf11, .ref qf12, .ref qf13, .ref qf14, .ref qf15, .ref qf16, .int v17, .ref qf18, .int v19, .int v20])), (qf9, .inl (cf9, 2001, .inl f9)), (qf10, .inl (cf10, 2002, .inl f10)), (qf11, .inl (cf11, 20000, .inl f11)), (qf14, .inl (cf14, 60, .inl f14)), (qf16, .inl (cf16, 1800, .inl f16)), (qf13, .inl (cf13, 60, .inl f13))] sz) := by
  refine Met.ofW (cc := cX5_giveNew) (maxL := 4) (ret := none) (by decide) rfl ?_
  intro p e s m args below meth c s₁ B hml hv
  obtain ⟨rfl, hsz, hP, hK, hD0⟩ := hv
  have hx := B.exec
  have hb := B.bytes
  have hr := B.returns
  have hts := atoms_spec (ws := (.code yX5_giveNew cX5_giveNew 4 none :: VS_h7)) B.pre
  replace hts := fun w (h : w ∈ VS_h7) => hts w (List.mem_cons_of_mem _ h)
  have hown : s.vm.findClass RX5 = some m.cls := findClass_of_methodNamed B.named
  have hlocks := B.notSynchronized
  subst hsz
  have hD := hD0.self (sz := s.heap.size)
  generalize hAe : va_A [(h0, .inr (5, [.ref qf0, .int v1, .int v2, .int v3, .int v4, .int v5, .int v6, .int v7, .ref qf8, .ref qf9, .ref qf10, .ref qf11, .ref qf12, .ref qf13, .ref qf14, .ref qf15, .ref qf16, .int v17, .ref qf18, .int v19, .int v20])), (qf9, .inl (cf9, 2001, .inl f9)), (qf10, .inl (cf10, 2002, .inl f10)), (qf11, .inl (cf11, 20000, .inl f11)), (qf14, .inl (cf14, 60, .inl f14)), (qf16, .inl (cf16, 1800, .inl f16)), (qf13, .inl (cf13, 60, .inl f13))] s.heap.size = A at hD  ⊢
  have hA : ∀ q : Nat, s.heap.size ≤ q → A q := fun q h => by rw [← hAe]; exact Or.inr h
  have hP : va_P (dC, dI) vwCl [(h0, .inr (5, [.ref qf0, .int v1, .int v2, .int v3, .int v4, .int v5, .int v6, .int v7, .ref qf8, .ref qf9, .ref qf10, .ref qf11, .ref qf12, .ref qf13, .ref qf14, .ref qf15, .ref qf16, .int v17, .ref qf18, .int v19, .int v20])), (qf9, .inl (cf9, 2001, .inl f9)), (qf10, .inl (cf10, 2002, .inl f10)), (qf11, .inl (cf11, 20000, .inl f11)), (qf14, .inl (cf14, 60, .inl f14)), (qf16, .inl (cf16, 1800, .inl f16)), (qf13, .inl (cf13, 60, .inl f13))] s.heap := hP
  have hl := lv_entry ([.ref h0, .int a1, .int a2]) (n := 4) (Nat.le_of_ble_eq_true rfl)
  rw [lg_entry_eq]
  generalize (lg_sl ([.ref h0, .int a1, .int a2]) ++ List.replicate (4 - (lg_sl ([.ref h0, .int a1, .int a2])).length) Slot.unset).toArray = ls at hl ⊢
  have hl : lv_has ls 4 [(0, .ref h0), (1, .int a1), (2, .int a2)] := hl
  obtain ⟨H, hH⟩ : ∃ H : Heap, s.heap = H := ⟨_, rfl⟩
  rw [hH] at hP ⊢
  have hS : va_S A s.heap H [] := by rw [← hH]; exact va_S.rf
  obtain ⟨locs, hlo⟩ : ∃ locs : List Loc, locs = [] := ⟨_, rfl⟩
  rw [← hlo] at hS ⊢
  unfold sp_v5_giveNew at hsp
  refine lv_aload_n hx hb dX5_giveNew_0 rfl (lv_at hl 0 rfl) ?_
  refine lv_iload_n hx hb dX5_giveNew_1 rfl (lv_at hl 1 rfl) ?_
  refine lv_iload_n hx hb dX5_giveNew_2 rfl (lv_at hl 2 rfl) ?_
  obtain ⟨⟨u1_0, g901_1, g901_2, g901_3, u1_4, u1_5, u1_6⟩, hu_1, hsp⟩ := ox_bind hsp
  try dsimp only at hsp
  have hPc := hP.sub (ws' := [(h0, .inr (5, [.ref qf0, .int v1, .int v2, .int v3, .int v4, .int v5, .int v6, .int v7, .ref qf8, .ref qf9, .ref qf10, .ref qf11, .ref qf12, .ref qf13, .ref qf14, .ref qf15, .ref qf16, .int v17, .ref qf18, .int v19, .int v20])), (qf9, .inl (cf9, 2001, .inl f9)), (qf10, .inl (cf10, 2002, .inl f10)), (qf11, .inl (cf11, 20000, .inl f11))]) [0, 1, 2, 3] rfl
  have hDc := hD.sub (ws' := [(h0, .inr (5, [.ref qf0, .int v1, .int v2, .int v3, .int v4, .int v5, .int v6, .int v7, .ref qf8, .ref qf9, .ref qf10, .ref qf11, .ref qf12, .ref qf13, .ref qf14, .ref qf15, .ref qf16, .int v17, .ref qf18, .int v19, .int v20])), (qf9, .inl (cf9, 2001, .inl f9)), (qf10, .inl (cf10, 2002, .inl f10)), (qf11, .inl (cf11, 20000, .inl f11))]) [0, 1, 2, 3] (by decide) rfl
  have hKc := hK.sub (tys' := [(cf9, .int), (cf10, .int), (cf11, .int)]) [0, 1, 2] rfl
  have hFc := va_free (wc := [(h0, .inr (5, [.ref qf0, .int v1, .int v2, .int v3, .int v4, .int v5, .int v6, .int v7, .ref qf8, .ref qf9, .ref qf10, .ref qf11, .ref qf12, .ref qf13, .ref qf14, .ref qf15, .ref qf16, .int v17, .ref qf18, .int v19, .int v20])), (qf9, .inl (cf9, 2001, .inl f9)), (qf10, .inl (cf10, 2002, .inl f10)), (qf11, .inl (cf11, 20000, .inl f11))]) hD hS hA [0, 1, 2, 3] rfl
  refine va_calli (va_runV (As := [.int a1, .int a2]) (rest := []) ⟨hx, hb, hml, hown, hts⟩ (v5_make l dC dI H.size h0 a1 a2 qf0 v1 v2 v3 v4 v5 v6 v7 qf8 qf9 qf10 qf11 qf12 qf13 qf14 qf15 qf16 v17 qf18 v19 v20 cf9 f9 cf10 f10 cf11 f11 nf u1_0 g901_1 g901_2 g901_3 u1_4 u1_5 u1_6 hu_1) (cwV 2 hts gv_h7_56 rfl rfl rfl (by decide +kernel) ⟨Nat.le_of_ble_eq_true rfl, Nat.le_of_ble_eq_true rfl⟩) ⟨fun a U g mk q => by obtain ⟨q0, q1, qP, qK, qD⟩ := q; exact ⟨q0, q1, qP, va_K.moved (u := U) (U := U.calling g mk a) (Vm.Alike.refl U.vm) qK, qD⟩, va_recv hKc hPc (ci := 5) (q0 := 0) rfl rfl, fun U hU hW => ⟨rfl, by rw [hU], by rw [hU]; exact hPc, va_K.moved hW.alike hKc, hDc.weaken (fun _ _ _ _ => trivial)⟩⟩ rfl rfl hl.1 rfl (lv_room (Nat.le_of_ble_eq_true rfl)) dX5_giveNew_3 ⟨Nat.le_of_ble_eq_true rfl, Nat.le_of_ble_eq_true rfl⟩) hS (fun q _ h => hFc q h) hFc ?_
  clear hS
  intro r_1 u t H1 locs ht hvm hw hB hz1 hk1 hS
  obtain ⟨⟩ := u
  obtain ⟨hP1, hK1, hD1⟩ := hB
  rw [ht] at hP1
  have hK1 := va_K.moved hvm.symm hK1
  try dsimp only at hw
  have hPD := va_join (wr := [(qf14, .inl (cf14, 60, .inl f14)), (qf16, .inl (cf16, 1800, .inl f16)), (qf13, .inl (cf13, 60, .inl f13))]) (w1 := [(h0, .inr (5, [.ref qf0, .int u1_4, .int v2, .int v3, .int u1_5, .int u1_6, .int v6, .int v7, .ref qf8, .ref qf9, .ref qf10, .ref qf11, .ref qf12, .ref qf13, .ref qf14, .ref qf15, .ref qf16, .int v17, .ref qf18, .int v19, .int v20])), (qf9, .inl (cf9, 2001, .inl g901_3)), (qf10, .inl (cf10, 2002, .inl g901_1)), (qf11, .inl (cf11, 20000, .inl g901_2))]) hP hD [0, 1, 2, 3] [4, 5, 6] rfl rfl (by decide) (by decide) hk1 hFc hP1 hD1
  clear hP hD
  obtain ⟨hP, hD⟩ := hPD
  replace hK := (hK.sub (tys' := [(cf14, .int), (cf16, .int), (cf13, .int)]) [3, 4, 5] rfl).app hK1
  clear hPc hDc hKc hFc hP1 hK1 hD1 hz1 hk1 ht hvm
  generalize H1 = H at hP hS ⊢
  replace hP : va_P (dC, dI) vwCl [(qf14, .inl (cf14, 60, .inl f14)), (qf16, .inl (cf16, 1800, .inl f16)), (qf13, .inl (cf13, 60, .inl f13)), (h0, .inr (5, [.ref qf0, .int u1_4, .int v2, .int v3, .int u1_5, .int u1_6, .int v6, .int v7, .ref qf8, .ref qf9, .ref qf10, .ref qf11, .ref qf12, .ref qf13, .ref qf14, .ref qf15, .ref qf16, .int v17, .ref qf18, .int v19, .int v20])), (qf9, .inl (cf9, 2001, .inl g901_3)), (qf10, .inl (cf10, 2002, .inl g901_1)), (qf11, .inl (cf11, 20000, .inl g901_2))] H := hP
  replace hD : va_D A [(qf14, .inl (cf14, 60, .inl f14)), (qf16, .inl (cf16, 1800, .inl f16)), (qf13, .inl (cf13, 60, .inl f13)), (h0, .inr (5, [.ref qf0, .int u1_4, .int v2, .int v3, .int u1_5, .int u1_6, .int v6, .int v7, .ref qf8, .ref qf9, .ref qf10, .ref qf11, .ref qf12, .ref qf13, .ref qf14, .ref qf15, .ref qf16, .int v17, .ref qf18, .int v19, .int v20])), (qf9, .inl (cf9, 2001, .inl g901_3)), (qf10, .inl (cf10, 2002, .inl g901_1)), (qf11, .inl (cf11, 20000, .inl g901_2))] := hD
  replace hK : va_K (dC, dI) vwCl [(cf14, .int), (cf16, .int), (cf13, .int), (cf9, .int), (cf10, .int), (cf11, .int)] s := hK
  obtain rfl := hw
  refine lv_istore_n (lv' := [(3, .int u1_0), (0, .ref h0), (1, .int a1), (2, .int a2)]) hx hb dX5_giveNew_6 rfl hl (by decide) rfl (fun ls hl => ?_)
  refine lv_iload_n hx hb dX5_giveNew_7 rfl (lv_at hl 0 rfl) ?_
  refine lv_if_eq (tgt := 17) hx hb dX5_giveNew_8 (by decide) (fun c_2 => ?_) (fun c_2 => ?_)
  · rw [if_pos c_2] at hsp
    have hr0 := Option.some.inj hsp
    clear hsp
    obtain ⟨hq0, hr1⟩ := Prod.mk.inj hr0
    clear hr0
    obtain ⟨hq1, hr2⟩ := Prod.mk.inj hr1
    clear hr1
    obtain ⟨hq2, hr3⟩ := Prod.mk.inj hr2
    clear hr2
    obtain ⟨hq3, hr4⟩ := Prod.mk.inj hr3
    clear hr3
    obtain ⟨hq4, hr5⟩ := Prod.mk.inj hr4
    clear hr4
    obtain ⟨hq5, hr6⟩ := Prod.mk.inj hr5
    clear hr5
    obtain ⟨hq6, hr7⟩ := Prod.mk.inj hr6
    clear hr6
    obtain ⟨hq7, hr8⟩ := Prod.mk.inj hr7
    clear hr7
    subst hq0
    subst hq1
    subst hq2
    subst hq3
    subst hq4
    subst hq5
    subst hq6
    subst hq7
    subst hr8
    have hP9 := hP.sub (ws' := [(h0, .inr (5, [.ref qf0, .int u1_4, .int v2, .int v3, .int u1_5, .int u1_6, .int v6, .int v7, .ref qf8, .ref qf9, .ref qf10, .ref qf11, .ref qf12, .ref qf13, .ref qf14, .ref qf15, .ref qf16, .int v17, .ref qf18, .int v19, .int v20])), (qf9, .inl (cf9, 2001, .inl g901_3)), (qf10, .inl (cf10, 2002, .inl g901_1)), (qf11, .inl (cf11, 20000, .inl g901_2)), (qf14, .inl (cf14, 60, .inl f14)), (qf16, .inl (cf16, 1800, .inl f16)), (qf13, .inl (cf13, 60, .inl f13))]) [3, 4, 5, 6, 0, 1, 2] rfl
    have hD9 := hD.sub (ws' := [(h0, .inr (5, [.ref qf0, .int u1_4, .int v2, .int v3, .int u1_5, .int u1_6, .int v6, .int v7, .ref qf8, .ref qf9, .ref qf10, .ref qf11, .ref qf12, .ref qf13, .ref qf14, .ref qf15, .ref qf16, .int v17, .ref qf18, .int v19, .int v20])), (qf9, .inl (cf9, 2001, .inl g901_3)), (qf10, .inl (cf10, 2002, .inl g901_1)), (qf11, .inl (cf11, 20000, .inl g901_2)), (qf14, .inl (cf14, 60, .inl f14)), (qf16, .inl (cf16, 1800, .inl f16)), (qf13, .inl (cf13, 60, .inl f13))]) [3, 4, 5, 6, 0, 1, 2] (by decide) rfl
    have hK9 := hK.sub (tys' := [(cf9, .int), (cf10, .int), (cf11, .int), (cf14, .int), (cf16, .int), (cf13, .int)]) [3, 4, 5, 0, 1, 2] rfl
    exact W.vret hx hb hr (fun t ht hW => ⟨⟨(), rfl, trivial, by rw [ht]; exact hP9, va_K.moved hW.alike hK9, hD9⟩, hS.F ht⟩) hS.2.2 dX5_giveNew_17
  · rw [if_neg c_2] at hsp
    refine lv_aload_n hx hb dX5_giveNew_11 rfl (lv_at hl 1 rfl) ?_
    refine lv_iload_n hx hb dX5_giveNew_12 rfl (lv_at hl 0 rfl) ?_
    refine lv_iconst (v := 2) hx hb dX5_giveNew_13 (by decide) ?_
    obtain ⟨⟨g902_0, g902_1, g902_2, u2_3⟩, hu_2, hsp⟩ := ox_bind hsp
    try dsimp only at hsp
    have hPc := hP.sub (ws' := [(h0, .inr (5, [.ref qf0, .int u1_4, .int v2, .int v3, .int u1_5, .int u1_6, .int v6, .int v7, .ref qf8, .ref qf9, .ref qf10, .ref qf11, .ref qf12, .ref qf13, .ref qf14, .ref qf15, .ref qf16, .int v17, .ref qf18, .int v19, .int v20])), (qf14, .inl (cf14, 60, .inl f14)), (qf16, .inl (cf16, 1800, .inl f16)), (qf13, .inl (cf13, 60, .inl f13))]) [3, 0, 1, 2] rfl
    have hDc := hD.sub (ws' := [(h0, .inr (5, [.ref qf0, .int u1_4, .int v2, .int v3, .int u1_5, .int u1_6, .int v6, .int v7, .ref qf8, .ref qf9, .ref qf10, .ref qf11, .ref qf12, .ref qf13, .ref qf14, .ref qf15, .ref qf16, .int v17, .ref qf18, .int v19, .int v20])), (qf14, .inl (cf14, 60, .inl f14)), (qf16, .inl (cf16, 1800, .inl f16)), (qf13, .inl (cf13, 60, .inl f13))]) [3, 0, 1, 2] (by decide) rfl
    have hKc := hK.sub (tys' := [(cf14, .int), (cf16, .int), (cf13, .int)]) [0, 1, 2] rfl
    have hFc := va_free (wc := [(h0, .inr (5, [.ref qf0, .int u1_4, .int v2, .int v3, .int u1_5, .int u1_6, .int v6, .int v7, .ref qf8, .ref qf9, .ref qf10, .ref qf11, .ref qf12, .ref qf13, .ref qf14, .ref qf15, .ref qf16, .int v17, .ref qf18, .int v19, .int v20])), (qf14, .inl (cf14, 60, .inl f14)), (qf16, .inl (cf16, 1800, .inl f16)), (qf13, .inl (cf13, 60, .inl f13))]) hD hS hA [3, 0, 1, 2] rfl
    refine va_callv (va_runV (As := [.int u1_0, .int 2]) (rest := []) ⟨hx, hb, hml, hown, hts⟩ (t5_give l dC dI H.size h0 u1_0 2 qf0 u1_4 v2 v3 u1_5 u1_6 v6 v7 qf8 qf9 qf10 qf11 qf12 qf13 qf14 qf15 qf16 v17 qf18 v19 v20 cf14 f14 cf16 f16 cf13 f13 nf g902_0 g902_1 g902_2 u2_3 hu_2) (cwV 2 hts gv_h7_51 rfl rfl rfl (by decide +kernel) ⟨Nat.le_of_ble_eq_true rfl, Nat.le_of_ble_eq_true rfl⟩) ⟨fun a U g mk q => by obtain ⟨q0, q1, qP, qK, qD⟩ := q; exact ⟨q0, q1, qP, va_K.moved (u := U) (U := U.calling g mk a) (Vm.Alike.refl U.vm) qK, qD⟩, va_recv hKc hPc (ci := 5) (q0 := 0) rfl rfl, fun U hU hW => ⟨rfl, by rw [hU], by rw [hU]; exact hPc, va_K.moved hW.alike hKc, hDc.weaken (fun _ _ _ _ => trivial)⟩⟩ rfl rfl hl.1 rfl (lv_room (Nat.le_of_ble_eq_true rfl)) dX5_giveNew_14 ⟨Nat.le_of_ble_eq_true rfl, Nat.le_of_ble_eq_true rfl⟩) hS (fun q _ h => hFc q h) hFc ?_
    clear hS
    intro u t H1 locs ht hvm hw hB hz1 hk1 hS
    obtain ⟨⟩ := u
    obtain ⟨hP1, hK1, hD1⟩ := hB
    rw [ht] at hP1
    have hK1 := va_K.moved hvm.symm hK1
    try dsimp only at hw
    have hPD := va_join (wr := [(qf9, .inl (cf9, 2001, .inl g901_3)), (qf10, .inl (cf10, 2002, .inl g901_1)), (qf11, .inl (cf11, 20000, .inl g901_2))]) (w1 := [(h0, .inr (5, [.ref qf0, .int u2_3, .int v2, .int v3, .int u1_5, .int u1_6, .int v6, .int v7, .ref qf8, .ref qf9, .ref qf10, .ref qf11, .ref qf12, .ref qf13, .ref qf14, .ref qf15, .ref qf16, .int v17, .ref qf18, .int v19, .int v20])), (qf14, .inl (cf14, 60, .inl g902_1)), (qf16, .inl (cf16, 1800, .inl g902_2)), (qf13, .inl (cf13, 60, .inl g902_0))]) hP hD [3, 0, 1, 2] [4, 5, 6] rfl rfl (by decide) (by decide) hk1 hFc hP1 hD1
    clear hP hD
    obtain ⟨hP, hD⟩ := hPD
    replace hK := (hK.sub (tys' := [(cf9, .int), (cf10, .int), (cf11, .int)]) [3, 4, 5] rfl).app hK1
    clear hPc hDc hKc hFc hP1 hK1 hD1 hz1 hk1 ht hvm
    generalize H1 = H at hP hS ⊢
    replace hP : va_P (dC, dI) vwCl [(qf9, .inl (cf9, 2001, .inl g901_3)), (qf10, .inl (cf10, 2002, .inl g901_1)), (qf11, .inl (cf11, 20000, .inl g901_2)), (h0, .inr (5, [.ref qf0, .int u2_3, .int v2, .int v3, .int u1_5, .int u1_6, .int v6, .int v7, .ref qf8, .ref qf9, .ref qf10, .ref qf11, .ref qf12, .ref qf13, .ref qf14, .ref qf15, .ref qf16, .int v17, .ref qf18, .int v19, .int v20])), (qf14, .inl (cf14, 60, .inl g902_1)), (qf16, .inl (cf16, 1800, .inl g902_2)), (qf13, .inl (cf13, 60, .inl g902_0))] H := hP
    replace hD : va_D A [(qf9, .inl (cf9, 2001, .inl g901_3)), (qf10, .inl (cf10, 2002, .inl g901_1)), (qf11, .inl (cf11, 20000, .inl g901_2)), (h0, .inr (5, [.ref qf0, .int u2_3, .int v2, .int v3, .int u1_5, .int u1_6, .int v6, .int v7, .ref qf8, .ref qf9, .ref qf10, .ref qf11, .ref qf12, .ref qf13, .ref qf14, .ref qf15, .ref qf16, .int v17, .ref qf18, .int v19, .int v20])), (qf14, .inl (cf14, 60, .inl g902_1)), (qf16, .inl (cf16, 1800, .inl g902_2)), (qf13, .inl (cf13, 60, .inl g902_0))] := hD
    replace hK : va_K (dC, dI) vwCl [(cf9, .int), (cf10, .int), (cf11, .int), (cf14, .int), (cf16, .int), (cf13, .int)] s := hK
    have hr0 := Option.some.inj hsp
    clear hsp
    obtain ⟨hq0, hr1⟩ := Prod.mk.inj hr0
    clear hr0
    obtain ⟨hq1, hr2⟩ := Prod.mk.inj hr1
    clear hr1
    obtain ⟨hq2, hr3⟩ := Prod.mk.inj hr2
    clear hr2
    obtain ⟨hq3, hr4⟩ := Prod.mk.inj hr3
    clear hr3
    obtain ⟨hq4, hr5⟩ := Prod.mk.inj hr4
    clear hr4
    obtain ⟨hq5, hr6⟩ := Prod.mk.inj hr5
    clear hr5
    obtain ⟨hq6, hr7⟩ := Prod.mk.inj hr6
    clear hr6
    obtain ⟨hq7, hr8⟩ := Prod.mk.inj hr7
    clear hr7
    subst hq0
    subst hq1
    subst hq2
    subst hq3
    subst hq4
    subst hq5
    subst hq6
    subst hq7
    subst hr8
    have hP9 := hP.sub (ws' := [(h0, .inr (5, [.ref qf0, .int u2_3, .int v2, .int v3, .int u1_5, .int u1_6, .int v6, .int v7, .ref qf8, .ref qf9, .ref qf10, .ref qf11, .ref qf12, .ref qf13, .ref qf14, .ref qf15, .ref qf16, .int v17, .ref qf18, .int v19, .int v20])), (qf9, .inl (cf9, 2001, .inl g901_3)), (qf10, .inl (cf10, 2002, .inl g901_1)), (qf11, .inl (cf11, 20000, .inl g901_2)), (qf14, .inl (cf14, 60, .inl g902_1)), (qf16, .inl (cf16, 1800, .inl g902_2)), (qf13, .inl (cf13, 60, .inl g902_0))]) [3, 0, 1, 2, 4, 5, 6] rfl
    have hD9 := hD.sub (ws' := [(h0, .inr (5, [.ref qf0, .int u2_3, .int v2, .int v3, .int u1_5, .int u1_6, .int v6, .int v7, .ref qf8, .ref qf9, .ref qf10, .ref qf11, .ref qf12, .ref qf13, .ref qf14, .ref qf15, .ref qf16, .int v17, .ref qf18, .int v19, .int v20])), (qf9, .inl (cf9, 2001, .inl g901_3)), (qf10, .inl (cf10, 2002, .inl g901_1)), (qf11, .inl (cf11, 20000, .inl g901_2)), (qf14, .inl (cf14, 60, .inl g902_1)), (qf16, .inl (cf16, 1800, .inl g902_2)), (qf13, .inl (cf13, 60, .inl g902_0))]) [3, 0, 1, 2, 4, 5, 6] (by decide) rfl
    have hK9 := hK.sub (tys' := [(cf9, .int), (cf10, .int), (cf11, .int), (cf14, .int), (cf16, .int), (cf13, .int)]) [0, 1, 2, 3, 4, 5] rfl
    exact W.vret hx hb hr (fun t ht hW => ⟨⟨(), rfl, trivial, by rw [ht]; exact hP9, va_K.moved hW.alike hK9, hD9⟩, hS.F ht⟩) hS.2.2 dX5_giveNew_17
def sp_v5_stepNewArray (nf : Nat) (a1 : Int32) (v1 : Int32) (v4 : Int32) (v5 : Int32) (v17 : Int32) (v20 : Int32) (f14 : Nat → Int32) (f16 : Nat → Int32) (f9 : Nat → Int32) (f10 : Nat → Int32) (f11 : Nat → Int32) (f13 : Nat → Int32) : Option ((Nat → Int32) × (Nat → Int32) × (Nat → Int32) × (Nat → Int32) × (Nat → Int32) × (Nat → Int32) × Int32 × Int32 × Int32 × Int32) := ((sp_t5_pop nf v1 v17 f14 f16).bind (fun p1 => (if 0 ≤ p1.1 then ((sp_v5_giveNew nf a1 p1.1 p1.2.2 v4 v5 v17 f9 f10 f11 p1.2.1 f16 f13).bind (fun p2 => (some (p2.1, p2.2.1, p2.2.2.1, p2.2.2.2.1, p2.2.2.2.2.1, p2.2.2.2.2.2.1, p2.2.2.2.2.2.2.1, v20, p2.2.2.2.2.2.2.2.1, p2.2.2.2.2.2.2.2.2)))) else (some (f10, f11, f13, p1.2.1, f16, f9, p1.2.2, (-6), v4, v5)))))
set_option maxHeartbeats 4000000 in
set_option maxRecDepth 100000 in
/-- ClassMill$Machine.stepNewArray -/
theorem v5_stepNewArray (l : Launch) (dC : Nat → ClassId) (dI : Nat → Nat → Nat) (sz : Nat) (h0 : Nat) (a1 : Int32) (qf0 : Nat) (v1 : Int32) (v2 : Int32) (v3 : Int32) (v4 : Int32) (v5 : Int32) (v6 : Int32) (v7 : Int32) (qf8 : Nat) (qf9 : Nat) (qf10 : Nat) (qf11 : Nat) (qf12 : Nat) (qf13 : Nat) (qf14 : Nat) (qf15 : Nat) (qf16 : Nat) (v17 : Int32) (qf18 : Nat) (v19 : Int32) (v20 : Int32) (cf14 : ClassId) (f14 : (Nat → Int32)) (cf16 : ClassId) (f16 : (Nat → Int32)) (cf9 : ClassId) (f9 : (Nat → Int32)) (cf10 : ClassId) (f10 : (Nat → Int32)) (cf11 : ClassId) (f11 : (Nat → Int32)) (cf13 : ClassId) (f13 : (Nat → Int32)) (nf : Nat) (o10 : (Nat → Int32)) (o11 : (Nat → Int32)) (o13 : (Nat → Int32)) (o14 : (Nat → Int32)) (o16 : (Nat → Int32)) (o9 : (Nat → Int32)) (w1 : Int32) (w20 : Int32) (w4 : Int32) (w5 : Int32) (hsp : sp_v5_stepNewArray nf a1 v1 v4 v5 v17 v20 f14 f16 f9 f10 f11 f13 = some (o10, o11, o13, o14, o16, o9, w1, w20, w4, w5)) : Met l yX5_stepNewArray (.code yX5_stepNewArray cX5_stepNewArray 3 none :: VS_h7) ({ frames := 4, cells := 0, slots := 0, locals := 91 }) (va_Pc [.ref h0, .int a1] (fun U => U.heap.size = sz ∧ va_P (dC, dI) vwCl [(h0, .inr (5, [.ref qf0, .int v1, .int v2, .int v3, .int v4, .int v5, .int v6, .int v7, .ref qf8, .ref qf9, .ref qf10, .ref qf11, .ref qf12, .ref qf13, .ref qf14, .ref qf15, .ref qf16, .int v17, .ref qf18, .int v19, .int v20])), (qf14, .inl (cf14, 60, .inl f14)), (qf16, .inl (cf16, 1800, .inl f16)), (qf9, .inl (cf9, 2001, .inl f9)), (qf10, .inl (cf10, 2002, .inl f10)), (qf11, .inl (cf11, 20000, .inl f11)), (qf13, .inl (cf13, 60, .inl f13))] U.heap ∧ va_K (dC, dI) vwCl [(cf14, .int), (cf16, .int), (cf9, .int), (cf10, .int), (cf11, .int), (cf13, .int)] U ∧ va_D (fun _ => True) [(h0, .inr (5, [.ref qf0, .int v1, .int v2, .int v3, .int v4, .int v5, .int v6, .int v7, .ref qf8, .ref qf9, .ref qf10, .ref qf11, .ref qf12, .ref qf13, .ref qf14, .ref qf15, .ref qf16, .int v17, .ref qf18, .int v19, .int v20])), (qf14, .inl (cf14, 60, .inl f14)), (qf16, .inl (cf16, 1800, .inl f16)), (qf9, .inl (cf9, 2001, .inl f9)), (qf10, .inl (cf10, 2002, .inl f10)), (qf11, .inl (cf11, 20000, .inl f11)), (qf13, .inl (cf13, 60, .inl f13))])) (va_Qv (fun (u : Unit) => match u with | () => True) (fun (u : Unit) (t : State) => match u with | () => va_P (dC, dI) vwCl [(h0, .inr (5, [.ref qf0, .int w1, .int v2, .int v3, .int w4, .int w5, .int v6, .int v7, .ref qf8, .ref qf9, .ref qf10, .ref qf11, .ref qf12, .ref qf13, .ref qf14, .ref qf15, .ref qf16, .int v17, .ref qf18, .int v19, .int w20])), (qf14, .inl (cf14, 60, .inl o14)), (qf16, .inl (cf16, 1800, .inl o16)), (qf9, .inl (cf9, 2001, .inl o9)), (qf10, .inl (cf10, 2002, .inl o10)), (qf11, .inl (cf11, 20000, .inl o11)), (qf13, .inl (cf13, 60, .inl o13))] t.heap ∧ va_K (dC, dI) vwCl [(cf14, .int), (cf16, .int), (cf9, .int), (cf10, .int), (cf11, .int), (cf13, .int)] t ∧ va_D (va_A [(h0, .inr (5, [.ref qf0, .int v1, .int v2, .int v3, .int v4, .int v5, .int v6, .int v7, .ref qf8, .ref qf9, .ref qf10, .ref qf11, .ref qf12, .ref qf13, .ref qf14, .ref qf15, .ref qf16, .int v17, .ref qf18, .int v19, .int v20])), (qf14, .inl (cf14, 60, .inl f14)), (qf16, .inl (cf16, 1800, .inl f16)), (qf9, .inl (cf9, 2001, .inl f9)), (qf10, .inl (cf10, 2002, .inl f10)), (qf11, .inl (cf11, 20000, .inl f11)), (qf13, .inl (cf13, 60, .inl f13))] sz) [(h0, .inr (5, [.ref qf0, .int w1, .int v2, .int v3, .int w4, .int w5, .int v6, .int v7, .ref qf8, .ref qf9, .ref qf10, .ref qf11, .ref qf12, .ref qf13, .ref qf14, .ref qf15, .ref qf16, .int v17, .ref qf18, .int v19, .int w20])), (qf14, .inl (cf14, 60, .inl o14)), (qf16, .inl (cf16, 1800, .inl o16)), (qf9, .inl (cf9, 2001, .inl o9)), (qf10, .inl (cf10, 2002, .inl o10)), (qf11, .inl (cf11, 20000, .inl o11)), (qf13, .inl (cf13, 60, .inl o13))]) (va_A [(h0, .inr (5, [.ref qf0, .int v1, .int v2, .int v3, .int v4, .int v5, .int v6, .int v7, .ref qf8, .ref qf9, .ref qf10, .ref qf11, .ref qf12, .ref qf13, .ref qf14, .ref qf15, .ref qf16, .int v17, .ref qf18, .int v19, .int v20])), (qf14, .inl (cf14, 60, .inl f14)), (qf16, .inl (cf16, 1800, .inl f16)), (qf9, .inl (cf9, 2001, .inl f9)), (qf10, .inl (cf10, 2002, .inl f10)), (qf11, .inl (cf11, 20000, .inl f11)), (qf13, .inl (cf13, 60, .inl f13))] sz)) 0 0 (va_A [(h0, .inr (5, [.ref qf0, .int v1, .int v2, .int v3, .int v4, .int v5, .int v6, .int v7, .ref qf8, .ref qf9, .ref qf10, .ref qf11, .ref qf12, .ref qf13, .ref qf14, .ref qf15, .ref qf16, .int v17, .ref qf18, .int v19, .int v20])), (qf14, .inl (cf14, 60, .inl f14)), (qf16, .inl (cf16, 1800, .inl f16)), (qf9, .inl (cf9, 2001, .inl f9)), (qf10, .inl (cf10, 2002, .inl f10)), (qf11, .inl (cf11, 20000, .inl f11)), (qf13, .inl (cf13, 60, .inl f13))] sz) := by
  refine Met.ofW (cc := cX5_stepNewArray) (maxL := 3) (ret := none) (by decide) rfl ?_
  intro p e s m args below meth c s₁ B hml hv
  obtain ⟨rfl, hsz, hP, hK, hD0⟩ := hv
  have hx := B.exec
  have hb := B.bytes
  have hr := B.returns
  have hts := atoms_spec (ws := (.code yX5_stepNewArray cX5_stepNewArray 3 none :: VS_h7)) B.pre
  replace hts := fun w (h : w ∈ VS_h7) => hts w (List.mem_cons_of_mem _ h)
  have hown : s.vm.findClass RX5 = some m.cls := findClass_of_methodNamed B.named
  have hlocks := B.notSynchronized
  subst hsz
  have hD := hD0.self (sz := s.heap.size)
  generalize hAe : va_A [(h0, .inr (5, [.ref qf0, .int v1, .int v2, .int v3, .int v4, .int v5, .int v6, .int v7, .ref qf8, .ref qf9, .ref qf10, .ref qf11, .ref qf12, .ref qf13, .ref qf14, .ref qf15, .ref qf16, .int v17, .ref qf18, .int v19, .int v20])), (qf14, .inl (cf14, 60, .inl f14)), (qf16, .inl (cf16, 1800, .inl f16)), (qf9, .inl (cf9, 2001, .inl f9)), (qf10, .inl (cf10, 2002, .inl f10)), (qf11, .inl (cf11, 20000, .inl f11)), (qf13, .inl (cf13, 60, .inl f13))] s.heap.size = A at hD  ⊢
  have hA : ∀ q : Nat, s.heap.size ≤ q → A q := fun q h => by rw [← hAe]; exact Or.inr h
  have hP : va_P (dC, dI) vwCl [(h0, .inr (5, [.ref qf0, .int v1, .int v2, .int v3, .int v4, .int v5, .int v6, .int v7, .ref qf8, .ref qf9, .ref qf10, .ref qf11, .ref qf12, .ref qf13, .ref qf14, .ref qf15, .ref qf16, .int v17, .ref qf18, .int v19, .int v20])), (qf14, .inl (cf14, 60, .inl f14)), (qf16, .inl (cf16, 1800, .inl f16)), (qf9, .inl (cf9, 2001, .inl f9)), (qf10, .inl (cf10, 2002, .inl f10)), (qf11, .inl (cf11, 20000, .inl f11)), (qf13, .inl (cf13, 60, .inl f13))] s.heap := hP
  have hl := lv_entry ([.ref h0, .int a1]) (n := 3) (Nat.le_of_ble_eq_true rfl)
  rw [lg_entry_eq]
  generalize (lg_sl ([.ref h0, .int a1]) ++ List.replicate (3 - (lg_sl ([.ref h0, .int a1])).length) Slot.unset).toArray = ls at hl ⊢
  have hl : lv_has ls 3 [(0, .ref h0), (1, .int a1)] := hl
  obtain ⟨H, hH⟩ : ∃ H : Heap, s.heap = H := ⟨_, rfl⟩
  rw [hH] at hP ⊢
  have hS : va_S A s.heap H [] := by rw [← hH]; exact va_S.rf
  obtain ⟨locs, hlo⟩ : ∃ locs : List Loc, locs = [] := ⟨_, rfl⟩
  rw [← hlo] at hS ⊢
  unfold sp_v5_stepNewArray at hsp
  refine lv_aload_n hx hb dX5_stepNewArray_0 rfl (lv_at hl 0 rfl) ?_
  obtain ⟨⟨u1_0, g901_1, u1_2⟩, hu_1, hsp⟩ := ox_bind hsp
  try dsimp only at hsp
  have hPc := hP.sub (ws' := [(h0, .inr (5, [.ref qf0, .int v1, .int v2, .int v3, .int v4, .int v5, .int v6, .int v7, .ref qf8, .ref qf9, .ref qf10, .ref qf11, .ref qf12, .ref qf13, .ref qf14, .ref qf15, .ref qf16, .int v17, .ref qf18, .int v19, .int v20])), (qf14, .inl (cf14, 60, .inl f14)), (qf16, .inl (cf16, 1800, .inl f16))]) [0, 1, 2] rfl
  have hDc := hD.sub (ws' := [(h0, .inr (5, [.ref qf0, .int v1, .int v2, .int v3, .int v4, .int v5, .int v6, .int v7, .ref qf8, .ref qf9, .ref qf10, .ref qf11, .ref qf12, .ref qf13, .ref qf14, .ref qf15, .ref qf16, .int v17, .ref qf18, .int v19, .int v20])), (qf14, .inl (cf14, 60, .inl f14)), (qf16, .inl (cf16, 1800, .inl f16))]) [0, 1, 2] (by decide) rfl
  have hKc := hK.sub (tys' := [(cf14, .int), (cf16, .int)]) [0, 1] rfl
  have hFc := va_free (wc := [(h0, .inr (5, [.ref qf0, .int v1, .int v2, .int v3, .int v4, .int v5, .int v6, .int v7, .ref qf8, .ref qf9, .ref qf10, .ref qf11, .ref qf12, .ref qf13, .ref qf14, .ref qf15, .ref qf16, .int v17, .ref qf18, .int v19, .int v20])), (qf14, .inl (cf14, 60, .inl f14)), (qf16, .inl (cf16, 1800, .inl f16))]) hD hS hA [0, 1, 2] rfl
  refine va_calli (va_runV (As := []) (rest := []) ⟨hx, hb, hml, hown, hts⟩ (t5_pop l dC dI H.size h0 qf0 v1 v2 v3 v4 v5 v6 v7 qf8 qf9 qf10 qf11 qf12 qf13 qf14 qf15 qf16 v17 qf18 v19 v20 cf14 f14 cf16 f16 nf u1_0 g901_1 u1_2 hu_1) (cwV 0 hts gv_h7_52 rfl rfl rfl (by decide +kernel) ⟨Nat.le_of_ble_eq_true rfl, Nat.le_of_ble_eq_true rfl⟩) ⟨fun a U g mk q => by obtain ⟨q0, q1, qP, qK, qD⟩ := q; exact ⟨q0, q1, qP, va_K.moved (u := U) (U := U.calling g mk a) (Vm.Alike.refl U.vm) qK, qD⟩, va_recv hKc hPc (ci := 5) (q0 := 0) rfl rfl, fun U hU hW => ⟨rfl, by rw [hU], by rw [hU]; exact hPc, va_K.moved hW.alike hKc, hDc.weaken (fun _ _ _ _ => trivial)⟩⟩ rfl rfl hl.1 rfl (lv_room (Nat.le_of_ble_eq_true rfl)) dX5_stepNewArray_1 ⟨Nat.le_of_ble_eq_true rfl, Nat.le_of_ble_eq_true rfl⟩) hS (fun q _ h => hFc q h) hFc ?_
  clear hS
  intro r_1 u t H1 locs ht hvm hw hB hz1 hk1 hS
  obtain ⟨⟩ := u
  obtain ⟨hP1, hK1, hD1⟩ := hB
  rw [ht] at hP1
  have hK1 := va_K.moved hvm.symm hK1
  try dsimp only at hw
  have hPD := va_join (wr := [(qf9, .inl (cf9, 2001, .inl f9)), (qf10, .inl (cf10, 2002, .inl f10)), (qf11, .inl (cf11, 20000, .inl f11)), (qf13, .inl (cf13, 60, .inl f13))]) (w1 := [(h0, .inr (5, [.ref qf0, .int u1_2, .int v2, .int v3, .int v4, .int v5, .int v6, .int v7, .ref qf8, .ref qf9, .ref qf10, .ref qf11, .ref qf12, .ref qf13, .ref qf14, .ref qf15, .ref qf16, .int v17, .ref qf18, .int v19, .int v20])), (qf14, .inl (cf14, 60, .inl g901_1)), (qf16, .inl (cf16, 1800, .inl f16))]) hP hD [0, 1, 2] [3, 4, 5, 6] rfl rfl (by decide) (by decide) hk1 hFc hP1 hD1
  clear hP hD
  obtain ⟨hP, hD⟩ := hPD
  replace hK := (hK.sub (tys' := [(cf9, .int), (cf10, .int), (cf11, .int), (cf13, .int)]) [2, 3, 4, 5] rfl).app hK1
  clear hPc hDc hKc hFc hP1 hK1 hD1 hz1 hk1 ht hvm
  generalize H1 = H at hP hS ⊢
  replace hP : va_P (dC, dI) vwCl [(qf9, .inl (cf9, 2001, .inl f9)), (qf10, .inl (cf10, 2002, .inl f10)), (qf11, .inl (cf11, 20000, .inl f11)), (qf13, .inl (cf13, 60, .inl f13)), (h0, .inr (5, [.ref qf0, .int u1_2, .int v2, .int v3, .int v4, .int v5, .int v6, .int v7, .ref qf8, .ref qf9, .ref qf10, .ref qf11, .ref qf12, .ref qf13, .ref qf14, .ref qf15, .ref qf16, .int v17, .ref qf18, .int v19, .int v20])), (qf14, .inl (cf14, 60, .inl g901_1)), (qf16, .inl (cf16, 1800, .inl f16))] H := hP
  replace hD : va_D A [(qf9, .inl (cf9, 2001, .inl f9)), (qf10, .inl (cf10, 2002, .inl f10)), (qf11, .inl (cf11, 20000, .inl f11)), (qf13, .inl (cf13, 60, .inl f13)), (h0, .inr (5, [.ref qf0, .int u1_2, .int v2, .int v3, .int v4, .int v5, .int v6, .int v7, .ref qf8, .ref qf9, .ref qf10, .ref qf11, .ref qf12, .ref qf13, .ref qf14, .ref qf15, .ref qf16, .int v17, .ref qf18, .int v19, .int v20])), (qf14, .inl (cf14, 60, .inl g901_1)), (qf16, .inl (cf16, 1800, .inl f16))] := hD
  replace hK : va_K (dC, dI) vwCl [(cf9, .int), (cf10, .int), (cf11, .int), (cf13, .int), (cf14, .int), (cf16, .int)] s := hK
  obtain rfl := hw
  refine lv_istore_n (lv' := [(2, .int u1_0), (0, .ref h0), (1, .int a1)]) hx hb dX5_stepNewArray_4 rfl hl (by decide) rfl (fun ls hl => ?_)
  refine lv_iload_n hx hb dX5_stepNewArray_5 rfl (lv_at hl 0 rfl) ?_
  refine lv_if_ge (tgt := 18) hx hb dX5_stepNewArray_6 (by decide) (fun c_2 => ?_) (fun c_2 => ?_)
  · rw [if_pos c_2] at hsp
    refine lv_aload_n hx hb dX5_stepNewArray_18 rfl (lv_at hl 1 rfl) ?_
    refine lv_iload_n hx hb dX5_stepNewArray_19 rfl (lv_at hl 2 rfl) ?_
    refine lv_iload_n hx hb dX5_stepNewArray_20 rfl (lv_at hl 0 rfl) ?_
    obtain ⟨⟨g902_0, g902_1, g902_2, g902_3, g902_4, g902_5, u2_6, u2_7, u2_8⟩, hu_2, hsp⟩ := ox_bind hsp
    try dsimp only at hsp
    have hPc := hP.sub (ws' := [(h0, .inr (5, [.ref qf0, .int u1_2, .int v2, .int v3, .int v4, .int v5, .int v6, .int v7, .ref qf8, .ref qf9, .ref qf10, .ref qf11, .ref qf12, .ref qf13, .ref qf14, .ref qf15, .ref qf16, .int v17, .ref qf18, .int v19, .int v20])), (qf9, .inl (cf9, 2001, .inl f9)), (qf10, .inl (cf10, 2002, .inl f10)), (qf11, .inl (cf11, 20000, .inl f11)), (qf14, .inl (cf14, 60, .inl g901_1)), (qf16, .inl (cf16, 1800, .inl f16)), (qf13, .inl (cf13, 60, .inl f13))]) [4, 0, 1, 2, 5, 6, 3] rfl
    have hDc := hD.sub (ws' := [(h0, .inr (5, [.ref qf0, .int u1_2, .int v2, .int v3, .int v4, .int v5, .int v6, .int v7, .ref qf8, .ref qf9, .ref qf10, .ref qf11, .ref qf12, .ref qf13, .ref qf14, .ref qf15, .ref qf16, .int v17, .ref qf18, .int v19, .int v20])), (qf9, .inl (cf9, 2001, .inl f9)), (qf10, .inl (cf10, 2002, .inl f10)), (qf11, .inl (cf11, 20000, .inl f11)), (qf14, .inl (cf14, 60, .inl g901_1)), (qf16, .inl (cf16, 1800, .inl f16)), (qf13, .inl (cf13, 60, .inl f13))]) [4, 0, 1, 2, 5, 6, 3] (by decide) rfl
    have hKc := hK.sub (tys' := [(cf9, .int), (cf10, .int), (cf11, .int), (cf14, .int), (cf16, .int), (cf13, .int)]) [0, 1, 2, 4, 5, 3] rfl
    have hFc := va_free (wc := [(h0, .inr (5, [.ref qf0, .int u1_2, .int v2, .int v3, .int v4, .int v5, .int v6, .int v7, .ref qf8, .ref qf9, .ref qf10, .ref qf11, .ref qf12, .ref qf13, .ref qf14, .ref qf15, .ref qf16, .int v17, .ref qf18, .int v19, .int v20])), (qf9, .inl (cf9, 2001, .inl f9)), (qf10, .inl (cf10, 2002, .inl f10)), (qf11, .inl (cf11, 20000, .inl f11)), (qf14, .inl (cf14, 60, .inl g901_1)), (qf16, .inl (cf16, 1800, .inl f16)), (qf13, .inl (cf13, 60, .inl f13))]) hD hS hA [4, 0, 1, 2, 5, 6, 3] rfl
    refine va_callv (va_runV (As := [.int a1, .int u1_0]) (rest := []) ⟨hx, hb, hml, hown, hts⟩ (v5_giveNew l dC dI H.size h0 a1 u1_0 qf0 u1_2 v2 v3 v4 v5 v6 v7 qf8 qf9 qf10 qf11 qf12 qf13 qf14 qf15 qf16 v17 qf18 v19 v20 cf9 f9 cf10 f10 cf11 f11 cf14 g901_1 cf16 f16 cf13 f13 nf g902_0 g902_1 g902_2 g902_3 g902_4 g902_5 u2_6 u2_7 u2_8 hu_2) (cwV 2 hts gv_h7_57 rfl rfl rfl (by decide +kernel) ⟨Nat.le_of_ble_eq_true rfl, Nat.le_of_ble_eq_true rfl⟩) ⟨fun a U g mk q => by obtain ⟨q0, q1, qP, qK, qD⟩ := q; exact ⟨q0, q1, qP, va_K.moved (u := U) (U := U.calling g mk a) (Vm.Alike.refl U.vm) qK, qD⟩, va_recv hKc hPc (ci := 5) (q0 := 0) rfl rfl, fun U hU hW => ⟨rfl, by rw [hU], by rw [hU]; exact hPc, va_K.moved hW.alike hKc, hDc.weaken (fun _ _ _ _ => trivial)⟩⟩ rfl rfl hl.1 rfl (lv_room (Nat.le_of_ble_eq_true rfl)) dX5_stepNewArray_21 ⟨Nat.le_of_ble_eq_true rfl, Nat.le_of_ble_eq_true rfl⟩) hS (fun q _ h => hFc q h) hFc ?_
    clear hS
    intro u t H1 locs ht hvm hw hB hz1 hk1 hS
    obtain ⟨⟩ := u
    obtain ⟨hP1, hK1, hD1⟩ := hB
    rw [ht] at hP1
    have hK1 := va_K.moved hvm.symm hK1
    try dsimp only at hw
    have hPD := va_join (wr := []) (w1 := [(h0, .inr (5, [.ref qf0, .int u2_6, .int v2, .int v3, .int u2_7, .int u2_8, .int v6, .int v7, .ref qf8, .ref qf9, .ref qf10, .ref qf11, .ref qf12, .ref qf13, .ref qf14, .ref qf15, .ref qf16, .int v17, .ref qf18, .int v19, .int v20])), (qf9, .inl (cf9, 2001, .inl g902_5)), (qf10, .inl (cf10, 2002, .inl g902_0)), (qf11, .inl (cf11, 20000, .inl g902_1)), (qf14, .inl (cf14, 60, .inl g902_3)), (qf16, .inl (cf16, 1800, .inl g902_4)), (qf13, .inl (cf13, 60, .inl g902_2))]) hP hD [4, 0, 1, 2, 5, 6, 3] [] rfl rfl (by decide) (by decide) hk1 hFc hP1 hD1
    clear hP hD
    obtain ⟨hP, hD⟩ := hPD
    replace hK := (hK.sub (tys' := []) [] rfl).app hK1
    clear hPc hDc hKc hFc hP1 hK1 hD1 hz1 hk1 ht hvm
    generalize H1 = H at hP hS ⊢
    replace hP : va_P (dC, dI) vwCl [(h0, .inr (5, [.ref qf0, .int u2_6, .int v2, .int v3, .int u2_7, .int u2_8, .int v6, .int v7, .ref qf8, .ref qf9, .ref qf10, .ref qf11, .ref qf12, .ref qf13, .ref qf14, .ref qf15, .ref qf16, .int v17, .ref qf18, .int v19, .int v20])), (qf9, .inl (cf9, 2001, .inl g902_5)), (qf10, .inl (cf10, 2002, .inl g902_0)), (qf11, .inl (cf11, 20000, .inl g902_1)), (qf14, .inl (cf14, 60, .inl g902_3)), (qf16, .inl (cf16, 1800, .inl g902_4)), (qf13, .inl (cf13, 60, .inl g902_2))] H := hP
    replace hD : va_D A [(h0, .inr (5, [.ref qf0, .int u2_6, .int v2, .int v3, .int u2_7, .int u2_8, .int v6, .int v7, .ref qf8, .ref qf9, .ref qf10, .ref qf11, .ref qf12, .ref qf13, .ref qf14, .ref qf15, .ref qf16, .int v17, .ref qf18, .int v19, .int v20])), (qf9, .inl (cf9, 2001, .inl g902_5)), (qf10, .inl (cf10, 2002, .inl g902_0)), (qf11, .inl (cf11, 20000, .inl g902_1)), (qf14, .inl (cf14, 60, .inl g902_3)), (qf16, .inl (cf16, 1800, .inl g902_4)), (qf13, .inl (cf13, 60, .inl g902_2))] := hD
    replace hK : va_K (dC, dI) vwCl [(cf9, .int), (cf10, .int), (cf11, .int), (cf14, .int), (cf16, .int), (cf13, .int)] s := hK
    have hr0 := Option.some.inj hsp
    clear hsp
    obtain ⟨hq0, hr1⟩ := Prod.mk.inj hr0
    clear hr0
    obtain ⟨hq1, hr2⟩ := Prod.mk.inj hr1
    clear hr1
    obtain ⟨hq2, hr3⟩ := Prod.mk.inj hr2
    clear hr2
    obtain ⟨hq3, hr4⟩ := Prod.mk.inj hr3
    clear hr3
    obtain ⟨hq4, hr5⟩ := Prod.mk.inj hr4
    clear hr4
    obtain ⟨hq5, hr6⟩ := Prod.mk.inj hr5
    clear hr5
    obtain ⟨hq6, hr7⟩ := Prod.mk.inj hr6
    clear hr6
    obtain ⟨hq7, hr8⟩ := Prod.mk.inj hr7
    clear hr7
    obtain ⟨hq8, hr9⟩ := Prod.mk.inj hr8
    clear hr8
    subst hq0
    subst hq1
    subst hq2
    subst hq3
    subst hq4
    subst hq5
    subst hq6
    subst hq7
    subst hq8
    subst hr9
    have hP9 := hP.sub (ws' := [(h0, .inr (5, [.ref qf0, .int u2_6, .int v2, .int v3, .int u2_7, .int u2_8, .int v6, .int v7, .ref qf8, .ref qf9, .ref qf10, .ref qf11, .ref qf12, .ref qf13, .ref qf14, .ref qf15, .ref qf16, .int v17, .ref qf18, .int v19, .int v20])), (qf14, .inl (cf14, 60, .inl g902_3)), (qf16, .inl (cf16, 1800, .inl g902_4)), (qf9, .inl (cf9, 2001, .inl g902_5)), (qf10, .inl (cf10, 2002, .inl g902_0)), (qf11, .inl (cf11, 20000, .inl g902_1)), (qf13, .inl (cf13, 60, .inl g902_2))]) [0, 4, 5, 1, 2, 3, 6] rfl
    have hD9 := hD.sub (ws' := [(h0, .inr (5, [.ref qf0, .int u2_6, .int v2, .int v3, .int u2_7, .int u2_8, .int v6, .int v7, .ref qf8, .ref qf9, .ref qf10, .ref qf11, .ref qf12, .ref qf13, .ref qf14, .ref qf15, .ref qf16, .int v17, .ref qf18, .int v19, .int v20])), (qf14, .inl (cf14, 60, .inl g902_3)), (qf16, .inl (cf16, 1800, .inl g902_4)), (qf9, .inl (cf9, 2001, .inl g902_5)), (qf10, .inl (cf10, 2002, .inl g902_0)), (qf11, .inl (cf11, 20000, .inl g902_1)), (qf13, .inl (cf13, 60, .inl g902_2))]) [0, 4, 5, 1, 2, 3, 6] (by decide) rfl
    have hK9 := hK.sub (tys' := [(cf14, .int), (cf16, .int), (cf9, .int), (cf10, .int), (cf11, .int), (cf13, .int)]) [3, 4, 0, 1, 2, 5] rfl
    exact W.vret hx hb hr (fun t ht hW => ⟨⟨(), rfl, trivial, by rw [ht]; exact hP9, va_K.moved hW.alike hK9, hD9⟩, hS.F ht⟩) hS.2.2 dX5_stepNewArray_24
  · rw [if_neg c_2] at hsp
    refine lv_aload_n hx hb dX5_stepNewArray_9 rfl (lv_at hl 1 rfl) ?_
    refine lv_bipush (v := (-6)) hx hb dX5_stepNewArray_10 (by decide) ?_
    refine va_put (D := (dC, dI)) (ci := 5) (v := .int (-6)) (ty := .int) (C := RX5) (T := TX5) (N := 21) hx hb hts uV_h7_X5 tyX5 tyX5_ok nmX5 hown hK hP hD hS 4 rfl rfl 20 (by decide) (hts (.fieldLink RX5 86 "ClassMill$Machine" "thrown" "I") mw_h7_272) (fun _ h9 => h9) rfl (by decide +kernel) rfl rfl (Nat.le_of_ble_eq_true rfl) dX5_stepNewArray_12 ?_
    clear hP hD hS
    intro H locs hP hD hS
    replace hP : va_P (dC, dI) vwCl [(qf9, .inl (cf9, 2001, .inl f9)), (qf10, .inl (cf10, 2002, .inl f10)), (qf11, .inl (cf11, 20000, .inl f11)), (qf13, .inl (cf13, 60, .inl f13)), (h0, .inr (5, [.ref qf0, .int u1_2, .int v2, .int v3, .int v4, .int v5, .int v6, .int v7, .ref qf8, .ref qf9, .ref qf10, .ref qf11, .ref qf12, .ref qf13, .ref qf14, .ref qf15, .ref qf16, .int v17, .ref qf18, .int v19, .int (-6)])), (qf14, .inl (cf14, 60, .inl g901_1)), (qf16, .inl (cf16, 1800, .inl f16))] H := hP
    replace hD : va_D A [(qf9, .inl (cf9, 2001, .inl f9)), (qf10, .inl (cf10, 2002, .inl f10)), (qf11, .inl (cf11, 20000, .inl f11)), (qf13, .inl (cf13, 60, .inl f13)), (h0, .inr (5, [.ref qf0, .int u1_2, .int v2, .int v3, .int v4, .int v5, .int v6, .int v7, .ref qf8, .ref qf9, .ref qf10, .ref qf11, .ref qf12, .ref qf13, .ref qf14, .ref qf15, .ref qf16, .int v17, .ref qf18, .int v19, .int (-6)])), (qf14, .inl (cf14, 60, .inl g901_1)), (qf16, .inl (cf16, 1800, .inl f16))] := hD
    refine lv_goto (tgt := 24) hx hb dX5_stepNewArray_15 (by decide) ?_
    have hr0 := Option.some.inj hsp
    clear hsp
    obtain ⟨hq0, hr1⟩ := Prod.mk.inj hr0
    clear hr0
    obtain ⟨hq1, hr2⟩ := Prod.mk.inj hr1
    clear hr1
    obtain ⟨hq2, hr3⟩ := Prod.mk.inj hr2
    clear hr2
    obtain ⟨hq3, hr4⟩ := Prod.mk.inj hr3
    clear hr3
    obtain ⟨hq4, hr5⟩ := Prod.mk.inj hr4
    clear hr4
    obtain ⟨hq5, hr6⟩ := Prod.mk.inj hr5
    clear hr5
    obtain ⟨hq6, hr7⟩ := Prod.mk.inj hr6
    clear hr6
    obtain ⟨hq7, hr8⟩ := Prod.mk.inj hr7
    clear hr7
    obtain ⟨hq8, hr9⟩ := Prod.mk.inj hr8
    clear hr8
    subst hq0
    subst hq1
    subst hq2
    subst hq3
    subst hq4
    subst hq5
    subst hq6
    subst hq7
    subst hq8
    subst hr9
    have hP9 := hP.sub (ws' := [(h0, .inr (5, [.ref qf0, .int u1_2, .int v2, .int v3, .int v4, .int v5, .int v6, .int v7, .ref qf8, .ref qf9, .ref qf10, .ref qf11, .ref qf12, .ref qf13, .ref qf14, .ref qf15, .ref qf16, .int v17, .ref qf18, .int v19, .int (-6)])), (qf14, .inl (cf14, 60, .inl g901_1)), (qf16, .inl (cf16, 1800, .inl f16)), (qf9, .inl (cf9, 2001, .inl f9)), (qf10, .inl (cf10, 2002, .inl f10)), (qf11, .inl (cf11, 20000, .inl f11)), (qf13, .inl (cf13, 60, .inl f13))]) [4, 5, 6, 0, 1, 2, 3] rfl
    have hD9 := hD.sub (ws' := [(h0, .inr (5, [.ref qf0, .int u1_2, .int v2, .int v3, .int v4, .int v5, .int v6, .int v7, .ref qf8, .ref qf9, .ref qf10, .ref qf11, .ref qf12, .ref qf13, .ref qf14, .ref qf15, .ref qf16, .int v17, .ref qf18, .int v19, .int (-6)])), (qf14, .inl (cf14, 60, .inl g901_1)), (qf16, .inl (cf16, 1800, .inl f16)), (qf9, .inl (cf9, 2001, .inl f9)), (qf10, .inl (cf10, 2002, .inl f10)), (qf11, .inl (cf11, 20000, .inl f11)), (qf13, .inl (cf13, 60, .inl f13))]) [4, 5, 6, 0, 1, 2, 3] (by decide) rfl
    have hK9 := hK.sub (tys' := [(cf14, .int), (cf16, .int), (cf9, .int), (cf10, .int), (cf11, .int), (cf13, .int)]) [4, 5, 0, 1, 2, 3] rfl
    exact W.vret hx hb hr (fun t ht hW => ⟨⟨(), rfl, trivial, by rw [ht]; exact hP9, va_K.moved hW.alike hK9, hD9⟩, hS.F ht⟩) hS.2.2 dX5_stepNewArray_24
def sp_v9_copyName (nf : Nat) (a1 : Int32) (a3 : Int32) (v9 : Int32) (f5 : Nat → Int32) (na2 : Nat) (fa2 : Nat → Int32) (f4 : Nat → Int32) : Option ((Nat → Int32)) := ((sp_t9_nameLength nf a1 v9 f5).bind (fun p1 => (if a3 < 0 then (some fa2) else (if (nI na2) < (a3 + p1) then (some fa2) else (if p1 ≤ 0 then (some fa2) else (if a1 < 0 then none else if 1741 ≤ (a1 : Int32).toNatClampNeg then none else (if cp_ok (f5 (a1 : Int32).toNatClampNeg) a3 p1 6400 na2 = true then (if cp_fit .byte f4 (f5 (a1 : Int32).toNatClampNeg) p1 = true then (some (va_cpy f4 fa2 ((f5 (a1 : Int32).toNatClampNeg) : Int32).toNatClampNeg (a3 : Int32).toNatClampNeg (p1 : Int32).toNatClampNeg)) else none) else none)))))))
