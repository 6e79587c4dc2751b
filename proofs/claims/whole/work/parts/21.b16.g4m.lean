set_option maxHeartbeats 4000000 in
set_option maxRecDepth 100000 in
/-- ClassMillModel.reckon -/
theorem vm_reckon (l : Launch) (dC : Nat → ClassId) (dI : Nat → Nat → Nat) (sz : Nat) (a1 : Int32) (a2 : Int32) (a3 : Int32) (nf : Nat) (r0 : Int32) (hsp : sp_vm_reckon nf a1 a2 a3 = some r0) : Met l yX13_reckon (.code yX13_reckon cX13_reckon 3 (some .int) :: VS_h9) ({ frames := 0, cells := 0, slots := 0, locals := 0 }) (va_Pc [.int a1, .int a2, .int a3] (fun U => U.heap.size = sz ∧ va_P (dC, dI) vwCl [] U.heap ∧ va_K (dC, dI) vwCl [] U ∧ va_D (fun _ => True) [])) (va_Qi (fun (r : Int32) (u : Unit) => match u with | () => r0 = r) (fun (u : Unit) (t : State) => match u with | () => va_P (dC, dI) vwCl [] t.heap ∧ va_K (dC, dI) vwCl [] t ∧ va_D (va_A [] sz) []) (va_A [] sz)) 0 0 (va_A [] sz) := by
  refine Met.ofW (cc := cX13_reckon) (maxL := 3) (ret := (some .int)) (by decide) rfl ?_
  intro p e s m args below meth c s₁ B hml hv
  obtain ⟨rfl, hsz, hP, hK, hD0⟩ := hv
  have hx := B.exec
  have hb := B.bytes
  have hr := B.returns
  have hts := atoms_spec (ws := (.code yX13_reckon cX13_reckon 3 (some .int) :: VS_h9)) B.pre
  replace hts := fun w (h : w ∈ VS_h9) => hts w (List.mem_cons_of_mem _ h)
  have hown : s.vm.findClass RX13 = some m.cls := findClass_of_methodNamed B.named
  have hlocks := B.notSynchronized
  subst hsz
  have hD := hD0.self (sz := s.heap.size)
  generalize hAe : va_A [] s.heap.size = A at hD  ⊢
  have hA : ∀ q : Nat, s.heap.size ≤ q → A q := fun q h => by rw [← hAe]; exact Or.inr h
  have hP : va_P (dC, dI) vwCl [] s.heap := hP
  have hl := lv_entry ([.int a1, .int a2, .int a3]) (n := 3) (Nat.le_of_ble_eq_true rfl)
  rw [lg_entry_eq]
  generalize (lg_sl ([.int a1, .int a2, .int a3]) ++ List.replicate (3 - (lg_sl ([.int a1, .int a2, .int a3])).length) Slot.unset).toArray = ls at hl ⊢
  have hl : lv_has ls 3 [(0, .int a1), (1, .int a2), (2, .int a3)] := hl
  obtain ⟨H, hH⟩ : ∃ H : Heap, s.heap = H := ⟨_, rfl⟩
  rw [hH] at hP ⊢
  have hS : va_S A s.heap H [] := by rw [← hH]; exact va_S.rf
  obtain ⟨locs, hlo⟩ : ∃ locs : List Loc, locs = [] := ⟨_, rfl⟩
  rw [← hlo] at hS ⊢
  unfold sp_vm_reckon at hsp
  refine jn_use (α := Heap × List Loc × Array Slot × Int32 × Int32) (fun x9 => x9.1) (fun x9 => x9.2.1) (fun x9 => F0 m 188 x9.2.2.1 []) (fun x9 => match x9 with | (H, locs, ls, l1_188, l2_188) => lv_has ls 3 [(1, .int l1_188), (2, .int l2_188)] ∧ va_S A s.heap H locs ∧ va_D A [] ∧ va_P (dC, dI) vwCl [] H ∧ jn_vm_reckon_188 nf a1 a2 a3 l1_188 l2_188 = some r0) ?_ ?_
  · intro x9 hJ9
    obtain ⟨H, locs, ls, l1_188, l2_188⟩ := x9
    obtain ⟨hl, hS, hD, hP, hsp⟩ := hJ9
    replace hl : lv_has ls 3 [(1, .int l1_188), (2, .int l2_188)] := hl
    replace hS : va_S A s.heap H locs := hS
    replace hD : va_D A [] := hD
    replace hP : va_P (dC, dI) vwCl [] H := hP
    replace hsp : jn_vm_reckon_188 nf a1 a2 a3 l1_188 l2_188 = some r0 := hsp
    show W _ _ _ _ _ _ _ _ _ _ H locs _ _ _ (F0 m 188 ls [])
    unfold jn_vm_reckon_188 at hsp
    try dsimp only at hsp
    refine lv_iload_n hx hb dX13_reckon_188 rfl (lv_at hl 0 rfl) ?_
    refine lv_iload_n hx hb dX13_reckon_189 rfl (lv_at hl 1 rfl) ?_
    refine lv_ixor hx hb dX13_reckon_190 ?_
    have hr0 := Option.some.inj hsp
    clear hsp
    subst hr0
    have hP9 := hP.sub (ws' := []) [] rfl
    have hD9 := hD.sub (ws' := []) [] (by decide) rfl
    have hK9 := hK.sub (tys' := []) [] rfl
    exact W.iret hx hb hr (fun t ht hW => ⟨⟨((l1_188 ^^^ l2_188)), (), rfl, rfl, by rw [ht]; exact hP9, va_K.moved hW.alike hK9, hD9⟩, hS.F ht⟩) hS.2.2 dX13_reckon_191
  intro hj_188
  refine lv_iload_n hx hb dX13_reckon_0 rfl (lv_at hl 0 rfl) ?_
  by_cases hs_1 : a1 = 96
  · rw [if_pos hs_1] at hsp
    refine lv_tableIn (tgt := 148) hx hb dX13_reckon_1 (by rw [hs_1]; decide) (by rw [hs_1]; decide) (off := 147) (by rw [hs_1]; rfl) (by decide) ?_
    refine lv_iload_n hx hb dX13_reckon_148 rfl (lv_at hl 1 rfl) ?_
    refine lv_iload_n hx hb dX13_reckon_149 rfl (lv_at hl 2 rfl) ?_
    refine lv_iadd hx hb dX13_reckon_150 ?_
    have hr0 := Option.some.inj hsp
    clear hsp
    subst hr0
    have hP9 := hP.sub (ws' := []) [] rfl
    have hD9 := hD.sub (ws' := []) [] (by decide) rfl
    have hK9 := hK.sub (tys' := []) [] rfl
    exact W.iret hx hb hr (fun t ht hW => ⟨⟨((a2 + a3)), (), rfl, rfl, by rw [ht]; exact hP9, va_K.moved hW.alike hK9, hD9⟩, hS.F ht⟩) hS.2.2 dX13_reckon_151
  rw [if_neg hs_1] at hsp
  by_cases hs_2 : a1 = 97
  · rw [if_pos hs_2] at hsp
    refine lv_tableIn (tgt := 188) hx hb dX13_reckon_1 (by rw [hs_2]; decide) (by rw [hs_2]; decide) (off := 187) (by rw [hs_2]; rfl) (by decide) ?_
    exact hj_188 (H, locs, ls, a2, a3) ⟨lv_sub hl [1, 2] rfl, hS, hD.sub (ws' := []) [] (by decide) rfl, hP.sub (ws' := []) [] rfl, hsp⟩
  rw [if_neg hs_2] at hsp
  by_cases hs_3 : a1 = 98
  · rw [if_pos hs_3] at hsp
    refine lv_tableIn (tgt := 188) hx hb dX13_reckon_1 (by rw [hs_3]; decide) (by rw [hs_3]; decide) (off := 187) (by rw [hs_3]; rfl) (by decide) ?_
    exact hj_188 (H, locs, ls, a2, a3) ⟨lv_sub hl [1, 2] rfl, hS, hD.sub (ws' := []) [] (by decide) rfl, hP.sub (ws' := []) [] rfl, hsp⟩
  rw [if_neg hs_3] at hsp
  by_cases hs_4 : a1 = 99
  · rw [if_pos hs_4] at hsp
    refine lv_tableIn (tgt := 188) hx hb dX13_reckon_1 (by rw [hs_4]; decide) (by rw [hs_4]; decide) (off := 187) (by rw [hs_4]; rfl) (by decide) ?_
    exact hj_188 (H, locs, ls, a2, a3) ⟨lv_sub hl [1, 2] rfl, hS, hD.sub (ws' := []) [] (by decide) rfl, hP.sub (ws' := []) [] rfl, hsp⟩
  rw [if_neg hs_4] at hsp
  by_cases hs_5 : a1 = 100
  · rw [if_pos hs_5] at hsp
    refine lv_tableIn (tgt := 152) hx hb dX13_reckon_1 (by rw [hs_5]; decide) (by rw [hs_5]; decide) (off := 151) (by rw [hs_5]; rfl) (by decide) ?_
    refine lv_iload_n hx hb dX13_reckon_152 rfl (lv_at hl 1 rfl) ?_
    refine lv_iload_n hx hb dX13_reckon_153 rfl (lv_at hl 2 rfl) ?_
    refine lv_isub hx hb dX13_reckon_154 ?_
    have hr0 := Option.some.inj hsp
    clear hsp
    subst hr0
    have hP9 := hP.sub (ws' := []) [] rfl
    have hD9 := hD.sub (ws' := []) [] (by decide) rfl
    have hK9 := hK.sub (tys' := []) [] rfl
    exact W.iret hx hb hr (fun t ht hW => ⟨⟨((a2 - a3)), (), rfl, rfl, by rw [ht]; exact hP9, va_K.moved hW.alike hK9, hD9⟩, hS.F ht⟩) hS.2.2 dX13_reckon_155
  rw [if_neg hs_5] at hsp
  by_cases hs_6 : a1 = 101
  · rw [if_pos hs_6] at hsp
    refine lv_tableIn (tgt := 188) hx hb dX13_reckon_1 (by rw [hs_6]; decide) (by rw [hs_6]; decide) (off := 187) (by rw [hs_6]; rfl) (by decide) ?_
    exact hj_188 (H, locs, ls, a2, a3) ⟨lv_sub hl [1, 2] rfl, hS, hD.sub (ws' := []) [] (by decide) rfl, hP.sub (ws' := []) [] rfl, hsp⟩
  rw [if_neg hs_6] at hsp
  by_cases hs_7 : a1 = 102
  · rw [if_pos hs_7] at hsp
    refine lv_tableIn (tgt := 188) hx hb dX13_reckon_1 (by rw [hs_7]; decide) (by rw [hs_7]; decide) (off := 187) (by rw [hs_7]; rfl) (by decide) ?_
    exact hj_188 (H, locs, ls, a2, a3) ⟨lv_sub hl [1, 2] rfl, hS, hD.sub (ws' := []) [] (by decide) rfl, hP.sub (ws' := []) [] rfl, hsp⟩
  rw [if_neg hs_7] at hsp
  by_cases hs_8 : a1 = 103
  · rw [if_pos hs_8] at hsp
    refine lv_tableIn (tgt := 188) hx hb dX13_reckon_1 (by rw [hs_8]; decide) (by rw [hs_8]; decide) (off := 187) (by rw [hs_8]; rfl) (by decide) ?_
    exact hj_188 (H, locs, ls, a2, a3) ⟨lv_sub hl [1, 2] rfl, hS, hD.sub (ws' := []) [] (by decide) rfl, hP.sub (ws' := []) [] rfl, hsp⟩
  rw [if_neg hs_8] at hsp
  by_cases hs_9 : a1 = 104
  · rw [if_pos hs_9] at hsp
    refine lv_tableIn (tgt := 156) hx hb dX13_reckon_1 (by rw [hs_9]; decide) (by rw [hs_9]; decide) (off := 155) (by rw [hs_9]; rfl) (by decide) ?_
    refine lv_iload_n hx hb dX13_reckon_156 rfl (lv_at hl 1 rfl) ?_
    refine lv_iload_n hx hb dX13_reckon_157 rfl (lv_at hl 2 rfl) ?_
    refine lv_imul hx hb dX13_reckon_158 ?_
    have hr0 := Option.some.inj hsp
    clear hsp
    subst hr0
    have hP9 := hP.sub (ws' := []) [] rfl
    have hD9 := hD.sub (ws' := []) [] (by decide) rfl
    have hK9 := hK.sub (tys' := []) [] rfl
    exact W.iret hx hb hr (fun t ht hW => ⟨⟨((a2 * a3)), (), rfl, rfl, by rw [ht]; exact hP9, va_K.moved hW.alike hK9, hD9⟩, hS.F ht⟩) hS.2.2 dX13_reckon_159
  rw [if_neg hs_9] at hsp
  by_cases hs_10 : a1 = 105
  · rw [if_pos hs_10] at hsp
    refine lv_tableIn (tgt := 188) hx hb dX13_reckon_1 (by rw [hs_10]; decide) (by rw [hs_10]; decide) (off := 187) (by rw [hs_10]; rfl) (by decide) ?_
    exact hj_188 (H, locs, ls, a2, a3) ⟨lv_sub hl [1, 2] rfl, hS, hD.sub (ws' := []) [] (by decide) rfl, hP.sub (ws' := []) [] rfl, hsp⟩
  rw [if_neg hs_10] at hsp
  by_cases hs_11 : a1 = 106
  · rw [if_pos hs_11] at hsp
    refine lv_tableIn (tgt := 188) hx hb dX13_reckon_1 (by rw [hs_11]; decide) (by rw [hs_11]; decide) (off := 187) (by rw [hs_11]; rfl) (by decide) ?_
    exact hj_188 (H, locs, ls, a2, a3) ⟨lv_sub hl [1, 2] rfl, hS, hD.sub (ws' := []) [] (by decide) rfl, hP.sub (ws' := []) [] rfl, hsp⟩
  rw [if_neg hs_11] at hsp
  by_cases hs_12 : a1 = 107
  · rw [if_pos hs_12] at hsp
    refine lv_tableIn (tgt := 188) hx hb dX13_reckon_1 (by rw [hs_12]; decide) (by rw [hs_12]; decide) (off := 187) (by rw [hs_12]; rfl) (by decide) ?_
    exact hj_188 (H, locs, ls, a2, a3) ⟨lv_sub hl [1, 2] rfl, hS, hD.sub (ws' := []) [] (by decide) rfl, hP.sub (ws' := []) [] rfl, hsp⟩
  rw [if_neg hs_12] at hsp
  by_cases hs_13 : a1 = 108
  · rw [if_pos hs_13] at hsp
    refine lv_tableIn (tgt := 160) hx hb dX13_reckon_1 (by rw [hs_13]; decide) (by rw [hs_13]; decide) (off := 159) (by rw [hs_13]; rfl) (by decide) ?_
    refine lv_iload_n hx hb dX13_reckon_160 rfl (lv_at hl 1 rfl) ?_
    refine lv_iload_n hx hb dX13_reckon_161 rfl (lv_at hl 2 rfl) ?_
    obtain ⟨hz_14, hsp⟩ := ox_nz hsp
    refine lv_idiv hx hb dX13_reckon_162 hz_14 ?_
    have hr0 := Option.some.inj hsp
    clear hsp
    subst hr0
    have hP9 := hP.sub (ws' := []) [] rfl
    have hD9 := hD.sub (ws' := []) [] (by decide) rfl
    have hK9 := hK.sub (tys' := []) [] rfl
    exact W.iret hx hb hr (fun t ht hW => ⟨⟨((a2 / a3)), (), rfl, rfl, by rw [ht]; exact hP9, va_K.moved hW.alike hK9, hD9⟩, hS.F ht⟩) hS.2.2 dX13_reckon_163
  rw [if_neg hs_13] at hsp
  by_cases hs_15 : a1 = 109
  · rw [if_pos hs_15] at hsp
    refine lv_tableIn (tgt := 188) hx hb dX13_reckon_1 (by rw [hs_15]; decide) (by rw [hs_15]; decide) (off := 187) (by rw [hs_15]; rfl) (by decide) ?_
    exact hj_188 (H, locs, ls, a2, a3) ⟨lv_sub hl [1, 2] rfl, hS, hD.sub (ws' := []) [] (by decide) rfl, hP.sub (ws' := []) [] rfl, hsp⟩
  rw [if_neg hs_15] at hsp
  by_cases hs_16 : a1 = 110
  · rw [if_pos hs_16] at hsp
    refine lv_tableIn (tgt := 188) hx hb dX13_reckon_1 (by rw [hs_16]; decide) (by rw [hs_16]; decide) (off := 187) (by rw [hs_16]; rfl) (by decide) ?_
    exact hj_188 (H, locs, ls, a2, a3) ⟨lv_sub hl [1, 2] rfl, hS, hD.sub (ws' := []) [] (by decide) rfl, hP.sub (ws' := []) [] rfl, hsp⟩
  rw [if_neg hs_16] at hsp
  by_cases hs_17 : a1 = 111
  · rw [if_pos hs_17] at hsp
    refine lv_tableIn (tgt := 188) hx hb dX13_reckon_1 (by rw [hs_17]; decide) (by rw [hs_17]; decide) (off := 187) (by rw [hs_17]; rfl) (by decide) ?_
    exact hj_188 (H, locs, ls, a2, a3) ⟨lv_sub hl [1, 2] rfl, hS, hD.sub (ws' := []) [] (by decide) rfl, hP.sub (ws' := []) [] rfl, hsp⟩
  rw [if_neg hs_17] at hsp
  by_cases hs_18 : a1 = 112
  · rw [if_pos hs_18] at hsp
    refine lv_tableIn (tgt := 164) hx hb dX13_reckon_1 (by rw [hs_18]; decide) (by rw [hs_18]; decide) (off := 163) (by rw [hs_18]; rfl) (by decide) ?_
    refine lv_iload_n hx hb dX13_reckon_164 rfl (lv_at hl 1 rfl) ?_
    refine lv_iload_n hx hb dX13_reckon_165 rfl (lv_at hl 2 rfl) ?_
    obtain ⟨hz_19, hsp⟩ := ox_nz hsp
    refine lv_irem hx hb dX13_reckon_166 hz_19 ?_
    have hr0 := Option.some.inj hsp
    clear hsp
    subst hr0
    have hP9 := hP.sub (ws' := []) [] rfl
    have hD9 := hD.sub (ws' := []) [] (by decide) rfl
    have hK9 := hK.sub (tys' := []) [] rfl
    exact W.iret hx hb hr (fun t ht hW => ⟨⟨((a2 - a2 / a3 * a3)), (), rfl, rfl, by rw [ht]; exact hP9, va_K.moved hW.alike hK9, hD9⟩, hS.F ht⟩) hS.2.2 dX13_reckon_167
  rw [if_neg hs_18] at hsp
  by_cases hs_20 : a1 = 113
  · rw [if_pos hs_20] at hsp
    refine lv_tableIn (tgt := 188) hx hb dX13_reckon_1 (by rw [hs_20]; decide) (by rw [hs_20]; decide) (off := 187) (by rw [hs_20]; rfl) (by decide) ?_
    exact hj_188 (H, locs, ls, a2, a3) ⟨lv_sub hl [1, 2] rfl, hS, hD.sub (ws' := []) [] (by decide) rfl, hP.sub (ws' := []) [] rfl, hsp⟩
  rw [if_neg hs_20] at hsp
  by_cases hs_21 : a1 = 114
  · rw [if_pos hs_21] at hsp
    refine lv_tableIn (tgt := 188) hx hb dX13_reckon_1 (by rw [hs_21]; decide) (by rw [hs_21]; decide) (off := 187) (by rw [hs_21]; rfl) (by decide) ?_
    exact hj_188 (H, locs, ls, a2, a3) ⟨lv_sub hl [1, 2] rfl, hS, hD.sub (ws' := []) [] (by decide) rfl, hP.sub (ws' := []) [] rfl, hsp⟩
  rw [if_neg hs_21] at hsp
  by_cases hs_22 : a1 = 115
  · rw [if_pos hs_22] at hsp
    refine lv_tableIn (tgt := 188) hx hb dX13_reckon_1 (by rw [hs_22]; decide) (by rw [hs_22]; decide) (off := 187) (by rw [hs_22]; rfl) (by decide) ?_
    exact hj_188 (H, locs, ls, a2, a3) ⟨lv_sub hl [1, 2] rfl, hS, hD.sub (ws' := []) [] (by decide) rfl, hP.sub (ws' := []) [] rfl, hsp⟩
  rw [if_neg hs_22] at hsp
  by_cases hs_23 : a1 = 116
  · rw [if_pos hs_23] at hsp
    refine lv_tableIn (tgt := 188) hx hb dX13_reckon_1 (by rw [hs_23]; decide) (by rw [hs_23]; decide) (off := 187) (by rw [hs_23]; rfl) (by decide) ?_
    exact hj_188 (H, locs, ls, a2, a3) ⟨lv_sub hl [1, 2] rfl, hS, hD.sub (ws' := []) [] (by decide) rfl, hP.sub (ws' := []) [] rfl, hsp⟩
  rw [if_neg hs_23] at hsp
  by_cases hs_24 : a1 = 117
  · rw [if_pos hs_24] at hsp
    refine lv_tableIn (tgt := 188) hx hb dX13_reckon_1 (by rw [hs_24]; decide) (by rw [hs_24]; decide) (off := 187) (by rw [hs_24]; rfl) (by decide) ?_
    exact hj_188 (H, locs, ls, a2, a3) ⟨lv_sub hl [1, 2] rfl, hS, hD.sub (ws' := []) [] (by decide) rfl, hP.sub (ws' := []) [] rfl, hsp⟩
  rw [if_neg hs_24] at hsp
  by_cases hs_25 : a1 = 118
  · rw [if_pos hs_25] at hsp
    refine lv_tableIn (tgt := 188) hx hb dX13_reckon_1 (by rw [hs_25]; decide) (by rw [hs_25]; decide) (off := 187) (by rw [hs_25]; rfl) (by decide) ?_
    exact hj_188 (H, locs, ls, a2, a3) ⟨lv_sub hl [1, 2] rfl, hS, hD.sub (ws' := []) [] (by decide) rfl, hP.sub (ws' := []) [] rfl, hsp⟩
  rw [if_neg hs_25] at hsp
  by_cases hs_26 : a1 = 119
  · rw [if_pos hs_26] at hsp
    refine lv_tableIn (tgt := 188) hx hb dX13_reckon_1 (by rw [hs_26]; decide) (by rw [hs_26]; decide) (off := 187) (by rw [hs_26]; rfl) (by decide) ?_
    exact hj_188 (H, locs, ls, a2, a3) ⟨lv_sub hl [1, 2] rfl, hS, hD.sub (ws' := []) [] (by decide) rfl, hP.sub (ws' := []) [] rfl, hsp⟩
  rw [if_neg hs_26] at hsp
  by_cases hs_27 : a1 = 120
  · rw [if_pos hs_27] at hsp
    refine lv_tableIn (tgt := 168) hx hb dX13_reckon_1 (by rw [hs_27]; decide) (by rw [hs_27]; decide) (off := 167) (by rw [hs_27]; rfl) (by decide) ?_
    refine lv_iload_n hx hb dX13_reckon_168 rfl (lv_at hl 1 rfl) ?_
    refine lv_iload_n hx hb dX13_reckon_169 rfl (lv_at hl 2 rfl) ?_
    refine lv_ishl hx hb dX13_reckon_170 ?_
    have hr0 := Option.some.inj hsp
    clear hsp
    subst hr0
    have hP9 := hP.sub (ws' := []) [] rfl
    have hD9 := hD.sub (ws' := []) [] (by decide) rfl
    have hK9 := hK.sub (tys' := []) [] rfl
    exact W.iret hx hb hr (fun t ht hW => ⟨⟨((a2 <<< (a3 &&& 31))), (), rfl, rfl, by rw [ht]; exact hP9, va_K.moved hW.alike hK9, hD9⟩, hS.F ht⟩) hS.2.2 dX13_reckon_171
  rw [if_neg hs_27] at hsp
  by_cases hs_28 : a1 = 121
  · rw [if_pos hs_28] at hsp
    refine lv_tableIn (tgt := 188) hx hb dX13_reckon_1 (by rw [hs_28]; decide) (by rw [hs_28]; decide) (off := 187) (by rw [hs_28]; rfl) (by decide) ?_
    exact hj_188 (H, locs, ls, a2, a3) ⟨lv_sub hl [1, 2] rfl, hS, hD.sub (ws' := []) [] (by decide) rfl, hP.sub (ws' := []) [] rfl, hsp⟩
  rw [if_neg hs_28] at hsp
  by_cases hs_29 : a1 = 122
  · rw [if_pos hs_29] at hsp
    refine lv_tableIn (tgt := 172) hx hb dX13_reckon_1 (by rw [hs_29]; decide) (by rw [hs_29]; decide) (off := 171) (by rw [hs_29]; rfl) (by decide) ?_
    refine lv_iload_n hx hb dX13_reckon_172 rfl (lv_at hl 1 rfl) ?_
    refine lv_iload_n hx hb dX13_reckon_173 rfl (lv_at hl 2 rfl) ?_
    refine lv_ishr hx hb dX13_reckon_174 ?_
    have hr0 := Option.some.inj hsp
    clear hsp
    subst hr0
    have hP9 := hP.sub (ws' := []) [] rfl
    have hD9 := hD.sub (ws' := []) [] (by decide) rfl
    have hK9 := hK.sub (tys' := []) [] rfl
    exact W.iret hx hb hr (fun t ht hW => ⟨⟨((a2 >>> (a3 &&& 31))), (), rfl, rfl, by rw [ht]; exact hP9, va_K.moved hW.alike hK9, hD9⟩, hS.F ht⟩) hS.2.2 dX13_reckon_175
  rw [if_neg hs_29] at hsp
  by_cases hs_30 : a1 = 123
  · rw [if_pos hs_30] at hsp
    refine lv_tableIn (tgt := 188) hx hb dX13_reckon_1 (by rw [hs_30]; decide) (by rw [hs_30]; decide) (off := 187) (by rw [hs_30]; rfl) (by decide) ?_
    exact hj_188 (H, locs, ls, a2, a3) ⟨lv_sub hl [1, 2] rfl, hS, hD.sub (ws' := []) [] (by decide) rfl, hP.sub (ws' := []) [] rfl, hsp⟩
  rw [if_neg hs_30] at hsp
  by_cases hs_31 : a1 = 124
  · rw [if_pos hs_31] at hsp
    refine lv_tableIn (tgt := 176) hx hb dX13_reckon_1 (by rw [hs_31]; decide) (by rw [hs_31]; decide) (off := 175) (by rw [hs_31]; rfl) (by decide) ?_
    refine lv_iload_n hx hb dX13_reckon_176 rfl (lv_at hl 1 rfl) ?_
    refine lv_iload_n hx hb dX13_reckon_177 rfl (lv_at hl 2 rfl) ?_
    refine lv_iushr hx hb dX13_reckon_178 rfl ?_
    have hr0 := Option.some.inj hsp
    clear hsp
    subst hr0
    have hP9 := hP.sub (ws' := []) [] rfl
    have hD9 := hD.sub (ws' := []) [] (by decide) rfl
    have hK9 := hK.sub (tys' := []) [] rfl
    exact W.iret hx hb hr (fun t ht hW => ⟨⟨(((a2 : Int32).toUInt32 >>> ((a3 : Int32).toUInt32 &&& Int32.toUInt32 31)).toInt32), (), rfl, rfl, by rw [ht]; exact hP9, va_K.moved hW.alike hK9, hD9⟩, hS.F ht⟩) hS.2.2 dX13_reckon_179
  rw [if_neg hs_31] at hsp
  by_cases hs_32 : a1 = 125
  · rw [if_pos hs_32] at hsp
    refine lv_tableIn (tgt := 188) hx hb dX13_reckon_1 (by rw [hs_32]; decide) (by rw [hs_32]; decide) (off := 187) (by rw [hs_32]; rfl) (by decide) ?_
    exact hj_188 (H, locs, ls, a2, a3) ⟨lv_sub hl [1, 2] rfl, hS, hD.sub (ws' := []) [] (by decide) rfl, hP.sub (ws' := []) [] rfl, hsp⟩
  rw [if_neg hs_32] at hsp
  by_cases hs_33 : a1 = 126
  · rw [if_pos hs_33] at hsp
    refine lv_tableIn (tgt := 180) hx hb dX13_reckon_1 (by rw [hs_33]; decide) (by rw [hs_33]; decide) (off := 179) (by rw [hs_33]; rfl) (by decide) ?_
    refine lv_iload_n hx hb dX13_reckon_180 rfl (lv_at hl 1 rfl) ?_
    refine lv_iload_n hx hb dX13_reckon_181 rfl (lv_at hl 2 rfl) ?_
    refine lv_iand hx hb dX13_reckon_182 ?_
    have hr0 := Option.some.inj hsp
    clear hsp
    subst hr0
    have hP9 := hP.sub (ws' := []) [] rfl
    have hD9 := hD.sub (ws' := []) [] (by decide) rfl
    have hK9 := hK.sub (tys' := []) [] rfl
    exact W.iret hx hb hr (fun t ht hW => ⟨⟨((a2 &&& a3)), (), rfl, rfl, by rw [ht]; exact hP9, va_K.moved hW.alike hK9, hD9⟩, hS.F ht⟩) hS.2.2 dX13_reckon_183
  rw [if_neg hs_33] at hsp
  by_cases hs_34 : a1 = 127
  · rw [if_pos hs_34] at hsp
    refine lv_tableIn (tgt := 188) hx hb dX13_reckon_1 (by rw [hs_34]; decide) (by rw [hs_34]; decide) (off := 187) (by rw [hs_34]; rfl) (by decide) ?_
    exact hj_188 (H, locs, ls, a2, a3) ⟨lv_sub hl [1, 2] rfl, hS, hD.sub (ws' := []) [] (by decide) rfl, hP.sub (ws' := []) [] rfl, hsp⟩
  rw [if_neg hs_34] at hsp
  by_cases hs_35 : a1 = 128
  · rw [if_pos hs_35] at hsp
    refine lv_tableIn (tgt := 184) hx hb dX13_reckon_1 (by rw [hs_35]; decide) (by rw [hs_35]; decide) (off := 183) (by rw [hs_35]; rfl) (by decide) ?_
    refine lv_iload_n hx hb dX13_reckon_184 rfl (lv_at hl 1 rfl) ?_
    refine lv_iload_n hx hb dX13_reckon_185 rfl (lv_at hl 2 rfl) ?_
    refine lv_ior hx hb dX13_reckon_186 ?_
    have hr0 := Option.some.inj hsp
    clear hsp
    subst hr0
    have hP9 := hP.sub (ws' := []) [] rfl
    have hD9 := hD.sub (ws' := []) [] (by decide) rfl
    have hK9 := hK.sub (tys' := []) [] rfl
    exact W.iret hx hb hr (fun t ht hW => ⟨⟨((a2 ||| a3)), (), rfl, rfl, by rw [ht]; exact hP9, va_K.moved hW.alike hK9, hD9⟩, hS.F ht⟩) hS.2.2 dX13_reckon_187
  rw [if_neg hs_35] at hsp
  refine lv_tableOut (tgt := 188) hx hb dX13_reckon_1 (by have a0 := lv_neT hs_1 (a := 96) rfl; have a1 := lv_neT hs_2 (a := 97) rfl; have a2 := lv_neT hs_3 (a := 98) rfl; have a3 := lv_neT hs_4 (a := 99) rfl; have a4 := lv_neT hs_5 (a := 100) rfl; have a5 := lv_neT hs_6 (a := 101) rfl; have a6 := lv_neT hs_7 (a := 102) rfl; have a7 := lv_neT hs_8 (a := 103) rfl; have a8 := lv_neT hs_9 (a := 104) rfl; have a9 := lv_neT hs_10 (a := 105) rfl; have a10 := lv_neT hs_11 (a := 106) rfl; have a11 := lv_neT hs_12 (a := 107) rfl; have a12 := lv_neT hs_13 (a := 108) rfl; have a13 := lv_neT hs_15 (a := 109) rfl; have a14 := lv_neT hs_16 (a := 110) rfl; have a15 := lv_neT hs_17 (a := 111) rfl; have a16 := lv_neT hs_18 (a := 112) rfl; have a17 := lv_neT hs_20 (a := 113) rfl; have a18 := lv_neT hs_21 (a := 114) rfl; have a19 := lv_neT hs_22 (a := 115) rfl; have a20 := lv_neT hs_23 (a := 116) rfl; have a21 := lv_neT hs_24 (a := 117) rfl; have a22 := lv_neT hs_25 (a := 118) rfl; have a23 := lv_neT hs_26 (a := 119) rfl; have a24 := lv_neT hs_27 (a := 120) rfl; have a25 := lv_neT hs_28 (a := 121) rfl; have a26 := lv_neT hs_29 (a := 122) rfl; have a27 := lv_neT hs_30 (a := 123) rfl; have a28 := lv_neT hs_31 (a := 124) rfl; have a29 := lv_neT hs_32 (a := 125) rfl; have a30 := lv_neT hs_33 (a := 126) rfl; have a31 := lv_neT hs_34 (a := 127) rfl; have a32 := lv_neT hs_35 (a := 128) rfl; omega) (by decide) ?_
  exact hj_188 (H, locs, ls, a2, a3) ⟨lv_sub hl [1, 2] rfl, hS, hD.sub (ws' := []) [] (by decide) rfl, hP.sub (ws' := []) [] rfl, hsp⟩
def jn_vm_jumps_100 (nf : Nat) (a1 : Int32) (v149 : Int32) (f153 : Nat → Int32) (f154 : Nat → Int32)  (l2_100 : Int32) (l3_100 : Int32) (g153_100 : Nat → Int32) : Option (Int32 × (Nat → Int32)) := (if l3_100 = l2_100 then (some (1, g153_100)) else (some (0, g153_100)))
def jn_vm_jumps_111 (nf : Nat) (a1 : Int32) (v149 : Int32) (f153 : Nat → Int32) (f154 : Nat → Int32)  (l2_111 : Int32) (l3_111 : Int32) (g153_111 : Nat → Int32) : Option (Int32 × (Nat → Int32)) := (if l3_111 = l2_111 then (some (0, g153_111)) else (some (1, g153_111)))
def jn_vm_jumps_155 (nf : Nat) (a1 : Int32) (v149 : Int32) (f153 : Nat → Int32) (f154 : Nat → Int32)  (l2_155 : Int32) (l3_155 : Int32) (g153_155 : Nat → Int32) : Option (Int32 × (Nat → Int32)) := (if l2_155 < l3_155 then (some (0, g153_155)) else (some (1, g153_155)))
def sp_vm_jumps (nf : Nat) (a1 : Int32) (v149 : Int32) (f153 : Nat → Int32) (f154 : Nat → Int32) : Option (Int32 × (Nat → Int32)) := (if a1 = 167 then (some (1, f153)) else ((sp_tm_drop nf v149 f153 f154).bind (fun p1 => (if a1 = 153 then (if p1.1 = 0 then (some (1, p1.2)) else (some (0, p1.2))) else (if a1 = 154 then (if p1.1 = 0 then (some (0, p1.2)) else (some (1, p1.2))) else ((sp_tm_drop nf v149 p1.2 f154).bind (fun p2 => (if a1 = 159 then (jn_vm_jumps_100 nf a1 v149 f153 f154  p1.1 p2.1 p2.2) else (if a1 = 160 then (jn_vm_jumps_111 nf a1 v149 f153 f154  p1.1 p2.1 p2.2) else (if a1 = 161 then (if p1.1 ≤ p2.1 then (some (0, p2.2)) else (some (1, p2.2))) else (if a1 = 162 then (if p2.1 < p1.1 then (some (0, p2.2)) else (some (1, p2.2))) else (if a1 = 163 then (if p2.1 ≤ p1.1 then (some (0, p2.2)) else (some (1, p2.2))) else (if a1 = 164 then (jn_vm_jumps_155 nf a1 v149 f153 f154  p1.1 p2.1 p2.2) else (if a1 = 165 then (jn_vm_jumps_100 nf a1 v149 f153 f154  p1.1 p2.1 p2.2) else (if a1 = 166 then (jn_vm_jumps_111 nf a1 v149 f153 f154  p1.1 p2.1 p2.2) else (jn_vm_jumps_155 nf a1 v149 f153 f154  p1.1 p2.1 p2.2))))))))))))))))
set_option maxHeartbeats 4000000 in
set_option maxRecDepth 100000 in
/-- ClassMillModel.jumps -/
theorem vm_jumps (l : Launch) (dC : Nat → ClassId) (dI : Nat → Nat → Nat) (sz : Nat) (h0 : Nat) (zs : (List Value)) (a1 : Int32) (v149 : Int32) (qf153 : Nat) (qf154 : Nat) (cf153 : ClassId) (f153 : (Nat → Int32)) (cf154 : ClassId) (f154 : (Nat → Int32)) (nf : Nat) (r0 : Int32) (o153 : (Nat → Int32)) (hlen : zs.length = 155) (hf149 : zs[149]? = some (.int v149)) (hf153 : zs[153]? = some (.ref qf153)) (hf154 : zs[154]? = some (.ref qf154)) (hsp : sp_vm_jumps nf a1 v149 f153 f154 = some (r0, o153)) : Met l yX13_jumps (.code yX13_jumps cX13_jumps 4 (some .boolean) :: VS_h9) ({ frames := 1, cells := 0, slots := 0, locals := 21 }) (va_Pc [.ref h0, .int a1] (fun U => U.heap.size = sz ∧ va_P (dC, dI) vwCl [(h0, .inr (13, zs)), (qf153, .inl (cf153, 60, .inl f153)), (qf154, .inl (cf154, 3600, .inl f154))] U.heap ∧ va_K (dC, dI) vwCl [(cf153, .int), (cf154, .int)] U ∧ va_D (fun _ => True) [(h0, .inr (13, zs)), (qf153, .inl (cf153, 60, .inl f153)), (qf154, .inl (cf154, 3600, .inl f154))])) (va_Qi (fun (r : Int32) (u : (List Value)) => match u with | (zo1) => (r0 = r ∧ (r0 = 0 ∨ r0 = 1)) ∧ zo1.length = 155 ∧ (∀ j : Nat, zo1[j]? = zs[j]?)) (fun (u : (List Value)) (t : State) => match u with | (zo1) => va_P (dC, dI) vwCl [(h0, .inr (13, zo1)), (qf153, .inl (cf153, 60, .inl o153)), (qf154, .inl (cf154, 3600, .inl f154))] t.heap ∧ va_K (dC, dI) vwCl [(cf153, .int), (cf154, .int)] t ∧ va_D (va_A [(h0, .inr (13, zs)), (qf153, .inl (cf153, 60, .inl f153)), (qf154, .inl (cf154, 3600, .inl f154))] sz) [(h0, .inr (13, zo1)), (qf153, .inl (cf153, 60, .inl o153)), (qf154, .inl (cf154, 3600, .inl f154))]) (va_A [(h0, .inr (13, zs)), (qf153, .inl (cf153, 60, .inl f153)), (qf154, .inl (cf154, 3600, .inl f154))] sz)) 0 0 (va_A [(h0, .inr (13, zs)), (qf153, .inl (cf153, 60, .inl f153)), (qf154, .inl (cf154, 3600, .inl f154))] sz) := by
  refine Met.ofW (cc := cX13_jumps) (maxL := 4) (ret := (some .boolean)) (by decide) rfl ?_
  intro p e s m args below meth c s₁ B hml hv
  obtain ⟨rfl, hsz, hP, hK, hD0⟩ := hv
  have hx := B.exec
  have hb := B.bytes
  have hr := B.returns
  have hts := atoms_spec (ws := (.code yX13_jumps cX13_jumps 4 (some .boolean) :: VS_h9)) B.pre
  replace hts := fun w (h : w ∈ VS_h9) => hts w (List.mem_cons_of_mem _ h)
  have hown : s.vm.findClass RX13 = some m.cls := findClass_of_methodNamed B.named
  have hlocks := B.notSynchronized
  subst hsz
  have hD := hD0.self (sz := s.heap.size)
  generalize hAe : va_A [(h0, .inr (13, zs)), (qf153, .inl (cf153, 60, .inl f153)), (qf154, .inl (cf154, 3600, .inl f154))] s.heap.size = A at hD  ⊢
  have hA : ∀ q : Nat, s.heap.size ≤ q → A q := fun q h => by rw [← hAe]; exact Or.inr h
  have hP : va_P (dC, dI) vwCl [(h0, .inr (13, zs)), (qf153, .inl (cf153, 60, .inl f153)), (qf154, .inl (cf154, 3600, .inl f154))] s.heap := hP
  have hl := lv_entry ([.ref h0, .int a1]) (n := 4) (Nat.le_of_ble_eq_true rfl)
  rw [lg_entry_eq]
  generalize (lg_sl ([.ref h0, .int a1]) ++ List.replicate (4 - (lg_sl ([.ref h0, .int a1])).length) Slot.unset).toArray = ls at hl ⊢
  have hl : lv_has ls 4 [(0, .ref h0), (1, .int a1)] := hl
  obtain ⟨H, hH⟩ : ∃ H : Heap, s.heap = H := ⟨_, rfl⟩
  rw [hH] at hP ⊢
  have hS : va_S A s.heap H [] := by rw [← hH]; exact va_S.rf
  obtain ⟨locs, hlo⟩ : ∃ locs : List Loc, locs = [] := ⟨_, rfl⟩
  rw [← hlo] at hS ⊢
  have hrs0 : ∀ j : Nat, zs[j]? = zs[j]? := fun _  => rfl
  unfold sp_vm_jumps at hsp
  refine jn_use (α := Heap × List Loc × Array Slot × List Value × Int32 × Int32 × (Nat → Int32)) (fun x9 => x9.1) (fun x9 => x9.2.1) (fun x9 => F0 m 155 x9.2.2.1 []) (fun x9 => match x9 with | (H, locs, ls, z155, l2_155, l3_155, g153_155) => lv_has ls 4 [(2, .int l2_155), (3, .int l3_155)] ∧ va_S A s.heap H locs ∧ va_D A [(h0, .inr (13, z155)), (qf153, .inl (cf153, 60, .inl g153_155)), (qf154, .inl (cf154, 3600, .inl f154))] ∧ va_P (dC, dI) vwCl [(h0, .inr (13, z155)), (qf153, .inl (cf153, 60, .inl g153_155)), (qf154, .inl (cf154, 3600, .inl f154))] H ∧ z155[149]? = some (.int v149) ∧ z155[153]? = some (.ref qf153) ∧ z155[154]? = some (.ref qf154) ∧ z155.length = 155 ∧ (∀ j : Nat, z155[j]? = zs[j]?) ∧ jn_vm_jumps_155 nf a1 v149 f153 f154 l2_155 l3_155 g153_155 = some (r0, o153)) ?_ ?_
  · intro x9 hJ9
    obtain ⟨H, locs, ls, z155, l2_155, l3_155, g153_155⟩ := x9
    obtain ⟨hl, hS, hD, hP, hfh_155_149, hfh_155_153, hfh_155_154, hlh_155, hrh_155, hsp⟩ := hJ9
    replace hl : lv_has ls 4 [(2, .int l2_155), (3, .int l3_155)] := hl
    replace hS : va_S A s.heap H locs := hS
    replace hD : va_D A [(h0, .inr (13, z155)), (qf153, .inl (cf153, 60, .inl g153_155)), (qf154, .inl (cf154, 3600, .inl f154))] := hD
    replace hP : va_P (dC, dI) vwCl [(h0, .inr (13, z155)), (qf153, .inl (cf153, 60, .inl g153_155)), (qf154, .inl (cf154, 3600, .inl f154))] H := hP
    replace hsp : jn_vm_jumps_155 nf a1 v149 f153 f154 l2_155 l3_155 g153_155 = some (r0, o153) := hsp
    show W _ _ _ _ _ _ _ _ _ _ H locs _ _ _ (F0 m 155 ls [])
    unfold jn_vm_jumps_155 at hsp
    try dsimp only at hsp
    refine lv_iload_n hx hb dX13_jumps_155 rfl (lv_at hl 1 rfl) ?_
    refine lv_iload_n hx hb dX13_jumps_156 rfl (lv_at hl 0 rfl) ?_
    refine lv_icmp_gt (tgt := 164) hx hb dX13_jumps_157 (by decide) (fun c_21 => ?_) (fun c_21 => ?_)
    · rw [if_pos c_21] at hsp
      refine lv_iconst (v := 0) hx hb dX13_jumps_164 (by decide) ?_
      have hr0 := Option.some.inj hsp
      clear hsp
      obtain ⟨hq0, hr1⟩ := Prod.mk.inj hr0
      clear hr0
      subst hq0
      subst hr1
      have hP9 := hP.sub (ws' := [(h0, .inr (13, z155)), (qf153, .inl (cf153, 60, .inl g153_155)), (qf154, .inl (cf154, 3600, .inl f154))]) [0, 1, 2] rfl
      have hD9 := hD.sub (ws' := [(h0, .inr (13, z155)), (qf153, .inl (cf153, 60, .inl g153_155)), (qf154, .inl (cf154, 3600, .inl f154))]) [0, 1, 2] (by decide) rfl
      have hK9 := hK.sub (tys' := [(cf153, .int), (cf154, .int)]) [0, 1] rfl
      exact W.zret hx hb hr (by decide) (fun t ht hW => ⟨⟨(0), (z155), rfl, ⟨⟨rfl, Or.inl rfl⟩, hlh_155, hrh_155⟩, by rw [ht]; exact hP9, va_K.moved hW.alike hK9, hD9⟩, hS.F ht⟩) hS.2.2 dX13_jumps_165
    · rw [if_neg c_21] at hsp
      refine lv_iconst (v := 1) hx hb dX13_jumps_160 (by decide) ?_
      refine lv_goto (tgt := 165) hx hb dX13_jumps_161 (by decide) ?_
      have hr0 := Option.some.inj hsp
      clear hsp
      obtain ⟨hq0, hr1⟩ := Prod.mk.inj hr0
      clear hr0
      subst hq0
      subst hr1
      have hP9 := hP.sub (ws' := [(h0, .inr (13, z155)), (qf153, .inl (cf153, 60, .inl g153_155)), (qf154, .inl (cf154, 3600, .inl f154))]) [0, 1, 2] rfl
      have hD9 := hD.sub (ws' := [(h0, .inr (13, z155)), (qf153, .inl (cf153, 60, .inl g153_155)), (qf154, .inl (cf154, 3600, .inl f154))]) [0, 1, 2] (by decide) rfl
      have hK9 := hK.sub (tys' := [(cf153, .int), (cf154, .int)]) [0, 1] rfl
      exact W.zret hx hb hr (by decide) (fun t ht hW => ⟨⟨(1), (z155), rfl, ⟨⟨rfl, Or.inr rfl⟩, hlh_155, hrh_155⟩, by rw [ht]; exact hP9, va_K.moved hW.alike hK9, hD9⟩, hS.F ht⟩) hS.2.2 dX13_jumps_165
  intro hj_155
  refine jn_use (α := Heap × List Loc × Array Slot × List Value × Int32 × Int32 × (Nat → Int32)) (fun x9 => x9.1) (fun x9 => x9.2.1) (fun x9 => F0 m 111 x9.2.2.1 []) (fun x9 => match x9 with | (H, locs, ls, z111, l2_111, l3_111, g153_111) => lv_has ls 4 [(2, .int l2_111), (3, .int l3_111)] ∧ va_S A s.heap H locs ∧ va_D A [(h0, .inr (13, z111)), (qf153, .inl (cf153, 60, .inl g153_111)), (qf154, .inl (cf154, 3600, .inl f154))] ∧ va_P (dC, dI) vwCl [(h0, .inr (13, z111)), (qf153, .inl (cf153, 60, .inl g153_111)), (qf154, .inl (cf154, 3600, .inl f154))] H ∧ z111[149]? = some (.int v149) ∧ z111[153]? = some (.ref qf153) ∧ z111[154]? = some (.ref qf154) ∧ z111.length = 155 ∧ (∀ j : Nat, z111[j]? = zs[j]?) ∧ jn_vm_jumps_111 nf a1 v149 f153 f154 l2_111 l3_111 g153_111 = some (r0, o153)) ?_ ?_
  · intro x9 hJ9
    obtain ⟨H, locs, ls, z111, l2_111, l3_111, g153_111⟩ := x9
    obtain ⟨hl, hS, hD, hP, hfh_111_149, hfh_111_153, hfh_111_154, hlh_111, hrh_111, hsp⟩ := hJ9
    replace hl : lv_has ls 4 [(2, .int l2_111), (3, .int l3_111)] := hl
    replace hS : va_S A s.heap H locs := hS
    replace hD : va_D A [(h0, .inr (13, z111)), (qf153, .inl (cf153, 60, .inl g153_111)), (qf154, .inl (cf154, 3600, .inl f154))] := hD
    replace hP : va_P (dC, dI) vwCl [(h0, .inr (13, z111)), (qf153, .inl (cf153, 60, .inl g153_111)), (qf154, .inl (cf154, 3600, .inl f154))] H := hP
    replace hsp : jn_vm_jumps_111 nf a1 v149 f153 f154 l2_111 l3_111 g153_111 = some (r0, o153) := hsp
    show W _ _ _ _ _ _ _ _ _ _ H locs _ _ _ (F0 m 111 ls [])
    unfold jn_vm_jumps_111 at hsp
    try dsimp only at hsp
    refine lv_iload_n hx hb dX13_jumps_111 rfl (lv_at hl 1 rfl) ?_
    refine lv_iload_n hx hb dX13_jumps_112 rfl (lv_at hl 0 rfl) ?_
    refine lv_icmp_eq (tgt := 120) hx hb dX13_jumps_113 (by decide) (fun c_20 => ?_) (fun c_20 => ?_)
    · rw [if_pos c_20] at hsp
      refine lv_iconst (v := 0) hx hb dX13_jumps_120 (by decide) ?_
      have hr0 := Option.some.inj hsp
      clear hsp
      obtain ⟨hq0, hr1⟩ := Prod.mk.inj hr0
      clear hr0
      subst hq0
      subst hr1
      have hP9 := hP.sub (ws' := [(h0, .inr (13, z111)), (qf153, .inl (cf153, 60, .inl g153_111)), (qf154, .inl (cf154, 3600, .inl f154))]) [0, 1, 2] rfl
      have hD9 := hD.sub (ws' := [(h0, .inr (13, z111)), (qf153, .inl (cf153, 60, .inl g153_111)), (qf154, .inl (cf154, 3600, .inl f154))]) [0, 1, 2] (by decide) rfl
      have hK9 := hK.sub (tys' := [(cf153, .int), (cf154, .int)]) [0, 1] rfl
      exact W.zret hx hb hr (by decide) (fun t ht hW => ⟨⟨(0), (z111), rfl, ⟨⟨rfl, Or.inl rfl⟩, hlh_111, hrh_111⟩, by rw [ht]; exact hP9, va_K.moved hW.alike hK9, hD9⟩, hS.F ht⟩) hS.2.2 dX13_jumps_121
    · rw [if_neg c_20] at hsp
      refine lv_iconst (v := 1) hx hb dX13_jumps_116 (by decide) ?_
      refine lv_goto (tgt := 121) hx hb dX13_jumps_117 (by decide) ?_
      have hr0 := Option.some.inj hsp
      clear hsp
      obtain ⟨hq0, hr1⟩ := Prod.mk.inj hr0
      clear hr0
      subst hq0
      subst hr1
      have hP9 := hP.sub (ws' := [(h0, .inr (13, z111)), (qf153, .inl (cf153, 60, .inl g153_111)), (qf154, .inl (cf154, 3600, .inl f154))]) [0, 1, 2] rfl
      have hD9 := hD.sub (ws' := [(h0, .inr (13, z111)), (qf153, .inl (cf153, 60, .inl g153_111)), (qf154, .inl (cf154, 3600, .inl f154))]) [0, 1, 2] (by decide) rfl
      have hK9 := hK.sub (tys' := [(cf153, .int), (cf154, .int)]) [0, 1] rfl
      exact W.zret hx hb hr (by decide) (fun t ht hW => ⟨⟨(1), (z111), rfl, ⟨⟨rfl, Or.inr rfl⟩, hlh_111, hrh_111⟩, by rw [ht]; exact hP9, va_K.moved hW.alike hK9, hD9⟩, hS.F ht⟩) hS.2.2 dX13_jumps_121
  intro hj_111
  refine jn_use (α := Heap × List Loc × Array Slot × List Value × Int32 × Int32 × (Nat → Int32)) (fun x9 => x9.1) (fun x9 => x9.2.1) (fun x9 => F0 m 100 x9.2.2.1 []) (fun x9 => match x9 with | (H, locs, ls, z100, l2_100, l3_100, g153_100) => lv_has ls 4 [(2, .int l2_100), (3, .int l3_100)] ∧ va_S A s.heap H locs ∧ va_D A [(h0, .inr (13, z100)), (qf153, .inl (cf153, 60, .inl g153_100)), (qf154, .inl (cf154, 3600, .inl f154))] ∧ va_P (dC, dI) vwCl [(h0, .inr (13, z100)), (qf153, .inl (cf153, 60, .inl g153_100)), (qf154, .inl (cf154, 3600, .inl f154))] H ∧ z100[149]? = some (.int v149) ∧ z100[153]? = some (.ref qf153) ∧ z100[154]? = some (.ref qf154) ∧ z100.length = 155 ∧ (∀ j : Nat, z100[j]? = zs[j]?) ∧ jn_vm_jumps_100 nf a1 v149 f153 f154 l2_100 l3_100 g153_100 = some (r0, o153)) ?_ ?_
  · intro x9 hJ9
    obtain ⟨H, locs, ls, z100, l2_100, l3_100, g153_100⟩ := x9
    obtain ⟨hl, hS, hD, hP, hfh_100_149, hfh_100_153, hfh_100_154, hlh_100, hrh_100, hsp⟩ := hJ9
    replace hl : lv_has ls 4 [(2, .int l2_100), (3, .int l3_100)] := hl
    replace hS : va_S A s.heap H locs := hS
    replace hD : va_D A [(h0, .inr (13, z100)), (qf153, .inl (cf153, 60, .inl g153_100)), (qf154, .inl (cf154, 3600, .inl f154))] := hD
    replace hP : va_P (dC, dI) vwCl [(h0, .inr (13, z100)), (qf153, .inl (cf153, 60, .inl g153_100)), (qf154, .inl (cf154, 3600, .inl f154))] H := hP
    replace hsp : jn_vm_jumps_100 nf a1 v149 f153 f154 l2_100 l3_100 g153_100 = some (r0, o153) := hsp
    show W _ _ _ _ _ _ _ _ _ _ H locs _ _ _ (F0 m 100 ls [])
    unfold jn_vm_jumps_100 at hsp
    try dsimp only at hsp
    refine lv_iload_n hx hb dX13_jumps_100 rfl (lv_at hl 1 rfl) ?_
    refine lv_iload_n hx hb dX13_jumps_101 rfl (lv_at hl 0 rfl) ?_
    refine lv_icmp_ne (tgt := 109) hx hb dX13_jumps_102 (by decide) (fun c_19 => ?_) (fun c_19 => ?_)
    · rw [if_neg c_19] at hsp
      refine lv_iconst (v := 0) hx hb dX13_jumps_109 (by decide) ?_
      have hr0 := Option.some.inj hsp
      clear hsp
      obtain ⟨hq0, hr1⟩ := Prod.mk.inj hr0
      clear hr0
      subst hq0
      subst hr1
      have hP9 := hP.sub (ws' := [(h0, .inr (13, z100)), (qf153, .inl (cf153, 60, .inl g153_100)), (qf154, .inl (cf154, 3600, .inl f154))]) [0, 1, 2] rfl
      have hD9 := hD.sub (ws' := [(h0, .inr (13, z100)), (qf153, .inl (cf153, 60, .inl g153_100)), (qf154, .inl (cf154, 3600, .inl f154))]) [0, 1, 2] (by decide) rfl
      have hK9 := hK.sub (tys' := [(cf153, .int), (cf154, .int)]) [0, 1] rfl
      exact W.zret hx hb hr (by decide) (fun t ht hW => ⟨⟨(0), (z100), rfl, ⟨⟨rfl, Or.inl rfl⟩, hlh_100, hrh_100⟩, by rw [ht]; exact hP9, va_K.moved hW.alike hK9, hD9⟩, hS.F ht⟩) hS.2.2 dX13_jumps_110
    · rw [if_pos c_19] at hsp
      refine lv_iconst (v := 1) hx hb dX13_jumps_105 (by decide) ?_
      refine lv_goto (tgt := 110) hx hb dX13_jumps_106 (by decide) ?_
      have hr0 := Option.some.inj hsp
      clear hsp
      obtain ⟨hq0, hr1⟩ := Prod.mk.inj hr0
      clear hr0
      subst hq0
      subst hr1
      have hP9 := hP.sub (ws' := [(h0, .inr (13, z100)), (qf153, .inl (cf153, 60, .inl g153_100)), (qf154, .inl (cf154, 3600, .inl f154))]) [0, 1, 2] rfl
      have hD9 := hD.sub (ws' := [(h0, .inr (13, z100)), (qf153, .inl (cf153, 60, .inl g153_100)), (qf154, .inl (cf154, 3600, .inl f154))]) [0, 1, 2] (by decide) rfl
      have hK9 := hK.sub (tys' := [(cf153, .int), (cf154, .int)]) [0, 1] rfl
      exact W.zret hx hb hr (by decide) (fun t ht hW => ⟨⟨(1), (z100), rfl, ⟨⟨rfl, Or.inr rfl⟩, hlh_100, hrh_100⟩, by rw [ht]; exact hP9, va_K.moved hW.alike hK9, hD9⟩, hS.F ht⟩) hS.2.2 dX13_jumps_110
  intro hj_100
  refine lv_iload_n hx hb dX13_jumps_0 rfl (lv_at hl 1 rfl) ?_
  refine lv_sipush (v := 167) hx hb dX13_jumps_1 (by decide) ?_
  refine lv_icmp_ne (tgt := 9) hx hb dX13_jumps_4 (by decide) (fun c_1 => ?_) (fun c_1 => ?_)
  · rw [if_neg c_1] at hsp
    refine lv_aload_n hx hb dX13_jumps_9 rfl (lv_at hl 0 rfl) ?_
    obtain ⟨⟨u1_0, g901_1⟩, hu_1, hsp⟩ := ox_bind hsp
    try dsimp only at hsp
    have hPc := hP.sub (ws' := [(h0, .inr (13, zs)), (qf153, .inl (cf153, 60, .inl f153)), (qf154, .inl (cf154, 3600, .inl f154))]) [0, 1, 2] rfl
    have hDc := hD.sub (ws' := [(h0, .inr (13, zs)), (qf153, .inl (cf153, 60, .inl f153)), (qf154, .inl (cf154, 3600, .inl f154))]) [0, 1, 2] (by decide) rfl
    have hKc := hK.sub (tys' := [(cf153, .int), (cf154, .int)]) [0, 1] rfl
    have hFc := va_free (wc := [(h0, .inr (13, zs)), (qf153, .inl (cf153, 60, .inl f153)), (qf154, .inl (cf154, 3600, .inl f154))]) hD hS hA [0, 1, 2] rfl
    refine va_calli (va_runV (As := []) (rest := []) ⟨hx, hb, hml, hown, hts⟩ (tm_drop l dC dI H.size h0 zs v149 qf153 qf154 cf153 f153 cf154 f154 nf u1_0 g901_1 hlen hf149 hf153 hf154 hu_1) (cwV 0 hts gv_h9_75 rfl rfl rfl (by decide +kernel) ⟨Nat.le_of_ble_eq_true rfl, Nat.le_of_ble_eq_true rfl⟩) ⟨fun a U g mk q => by obtain ⟨q0, q1, qP, qK, qD⟩ := q; exact ⟨q0, q1, qP, va_K.moved (u := U) (U := U.calling g mk a) (Vm.Alike.refl U.vm) qK, qD⟩, va_recv hKc hPc (ci := 13) (q0 := 0) rfl rfl, fun U hU hW => ⟨rfl, by rw [hU], by rw [hU]; exact hPc, va_K.moved hW.alike hKc, hDc.weaken (fun _ _ _ _ => trivial)⟩⟩ rfl rfl hl.1 rfl (lv_room (Nat.le_of_ble_eq_true rfl)) dX13_jumps_10 ⟨Nat.le_of_ble_eq_true rfl, Nat.le_of_ble_eq_true rfl⟩) hS (fun q _ h => hFc q h) hFc ?_
    clear hS
    intro r_2 u t H1 locs ht hvm hw hB hz1 hk1 hS
    obtain ⟨z_1, rfl⟩ : ∃ z, z = u := ⟨_, rfl⟩
    obtain ⟨hP1, hK1, hD1⟩ := hB
    rw [ht] at hP1
    have hK1 := va_K.moved hvm.symm hK1
    try dsimp only at hw
    have hPD := va_join (wr := []) (w1 := [(h0, .inr (13, z_1)), (qf153, .inl (cf153, 60, .inl g901_1)), (qf154, .inl (cf154, 3600, .inl f154))]) hP hD [0, 1, 2] [] rfl rfl (by decide) (by decide) hk1 hFc hP1 hD1
    clear hP hD
    obtain ⟨hP, hD⟩ := hPD
    replace hK := (hK.sub (tys' := []) [] rfl).app hK1
    clear hPc hDc hKc hFc hP1 hK1 hD1 hz1 hk1 ht hvm
    generalize H1 = H at hP hS ⊢
    replace hP : va_P (dC, dI) vwCl [(h0, .inr (13, z_1)), (qf153, .inl (cf153, 60, .inl g901_1)), (qf154, .inl (cf154, 3600, .inl f154))] H := hP
    replace hD : va_D A [(h0, .inr (13, z_1)), (qf153, .inl (cf153, 60, .inl g901_1)), (qf154, .inl (cf154, 3600, .inl f154))] := hD
    replace hK : va_K (dC, dI) vwCl [(cf153, .int), (cf154, .int)] s := hK
    obtain ⟨hwa_1, hln_1, hre_1⟩ := hw
    have hfk_1_149 : z_1[149]? = some (.int v149) := (hre_1 149 ).trans (hf149)
    have hfk_1_153 : z_1[153]? = some (.ref qf153) := (hre_1 153 ).trans (hf153)
    have hfk_1_154 : z_1[154]? = some (.ref qf154) := (hre_1 154 ).trans (hf154)
    have hrq_1 : ∀ j : Nat, z_1[j]? = zs[j]? := fun j  => (hre_1 j ).trans (hrs0 j )
    obtain rfl := hwa_1
    refine lv_istore_n (lv' := [(2, .int u1_0), (0, .ref h0), (1, .int a1)]) hx hb dX13_jumps_13 rfl hl (by decide) rfl (fun ls hl => ?_)
    refine lv_iload_n hx hb dX13_jumps_14 rfl (lv_at hl 2 rfl) ?_
    refine lv_sipush (v := 153) hx hb dX13_jumps_15 (by decide) ?_
    refine lv_icmp_ne (tgt := 31) hx hb dX13_jumps_18 (by decide) (fun c_3 => ?_) (fun c_3 => ?_)
    · rw [if_neg c_3] at hsp
      refine lv_iload_n hx hb dX13_jumps_31 rfl (lv_at hl 2 rfl) ?_
      refine lv_sipush (v := 154) hx hb dX13_jumps_32 (by decide) ?_
      refine lv_icmp_ne (tgt := 48) hx hb dX13_jumps_35 (by decide) (fun c_4 => ?_) (fun c_4 => ?_)
      · rw [if_neg c_4] at hsp
        refine lv_aload_n hx hb dX13_jumps_48 rfl (lv_at hl 1 rfl) ?_
        obtain ⟨⟨u2_0, g902_1⟩, hu_2, hsp⟩ := ox_bind hsp
        try dsimp only at hsp
        have hPc := hP.sub (ws' := [(h0, .inr (13, z_1)), (qf153, .inl (cf153, 60, .inl g901_1)), (qf154, .inl (cf154, 3600, .inl f154))]) [0, 1, 2] rfl
        have hDc := hD.sub (ws' := [(h0, .inr (13, z_1)), (qf153, .inl (cf153, 60, .inl g901_1)), (qf154, .inl (cf154, 3600, .inl f154))]) [0, 1, 2] (by decide) rfl
        have hKc := hK.sub (tys' := [(cf153, .int), (cf154, .int)]) [0, 1] rfl
        have hFc := va_free (wc := [(h0, .inr (13, z_1)), (qf153, .inl (cf153, 60, .inl g901_1)), (qf154, .inl (cf154, 3600, .inl f154))]) hD hS hA [0, 1, 2] rfl
        refine va_calli (va_runV (As := []) (rest := []) ⟨hx, hb, hml, hown, hts⟩ (tm_drop l dC dI H.size h0 z_1 v149 qf153 qf154 cf153 g901_1 cf154 f154 nf u2_0 g902_1 hln_1 hfk_1_149 hfk_1_153 hfk_1_154 hu_2) (cwV 0 hts gv_h9_75 rfl rfl rfl (by decide +kernel) ⟨Nat.le_of_ble_eq_true rfl, Nat.le_of_ble_eq_true rfl⟩) ⟨fun a U g mk q => by obtain ⟨q0, q1, qP, qK, qD⟩ := q; exact ⟨q0, q1, qP, va_K.moved (u := U) (U := U.calling g mk a) (Vm.Alike.refl U.vm) qK, qD⟩, va_recv hKc hPc (ci := 13) (q0 := 0) rfl rfl, fun U hU hW => ⟨rfl, by rw [hU], by rw [hU]; exact hPc, va_K.moved hW.alike hKc, hDc.weaken (fun _ _ _ _ => trivial)⟩⟩ rfl rfl hl.1 rfl (lv_room (Nat.le_of_ble_eq_true rfl)) dX13_jumps_49 ⟨Nat.le_of_ble_eq_true rfl, Nat.le_of_ble_eq_true rfl⟩) hS (fun q _ h => hFc q h) hFc ?_
        clear hS
        intro r_5 u t H1 locs ht hvm hw hB hz1 hk1 hS
        obtain ⟨z_2, rfl⟩ : ∃ z, z = u := ⟨_, rfl⟩
        obtain ⟨hP1, hK1, hD1⟩ := hB
        rw [ht] at hP1
        have hK1 := va_K.moved hvm.symm hK1
        try dsimp only at hw
        have hPD := va_join (wr := []) (w1 := [(h0, .inr (13, z_2)), (qf153, .inl (cf153, 60, .inl g902_1)), (qf154, .inl (cf154, 3600, .inl f154))]) hP hD [0, 1, 2] [] rfl rfl (by decide) (by decide) hk1 hFc hP1 hD1
        clear hP hD
        obtain ⟨hP, hD⟩ := hPD
        replace hK := (hK.sub (tys' := []) [] rfl).app hK1
        clear hPc hDc hKc hFc hP1 hK1 hD1 hz1 hk1 ht hvm
        generalize H1 = H at hP hS ⊢
        replace hP : va_P (dC, dI) vwCl [(h0, .inr (13, z_2)), (qf153, .inl (cf153, 60, .inl g902_1)), (qf154, .inl (cf154, 3600, .inl f154))] H := hP
        replace hD : va_D A [(h0, .inr (13, z_2)), (qf153, .inl (cf153, 60, .inl g902_1)), (qf154, .inl (cf154, 3600, .inl f154))] := hD
        replace hK : va_K (dC, dI) vwCl [(cf153, .int), (cf154, .int)] s := hK
        obtain ⟨hwa_2, hln_2, hre_2⟩ := hw
        have hfk_2_149 : z_2[149]? = some (.int v149) := (hre_2 149 ).trans (hfk_1_149)
        have hfk_2_153 : z_2[153]? = some (.ref qf153) := (hre_2 153 ).trans (hfk_1_153)
        have hfk_2_154 : z_2[154]? = some (.ref qf154) := (hre_2 154 ).trans (hfk_1_154)
        have hrq_2 : ∀ j : Nat, z_2[j]? = zs[j]? := fun j  => (hre_2 j ).trans (hrq_1 j )
        obtain rfl := hwa_2
        refine lv_istore_n (lv' := [(3, .int u2_0), (2, .int u1_0), (0, .ref h0), (1, .int a1)]) hx hb dX13_jumps_52 rfl hl (by decide) rfl (fun ls hl => ?_)
        refine lv_iload_n hx hb dX13_jumps_53 rfl (lv_at hl 3 rfl) ?_
        by_cases hs_6 : a1 = 159
        · rw [if_pos hs_6] at hsp
          refine lv_tableIn (tgt := 100) hx hb dX13_jumps_54 (by rw [hs_6]; decide) (by rw [hs_6]; decide) (off := 46) (by rw [hs_6]; rfl) (by decide) ?_
          exact hj_100 (H, locs, ls, z_2, u1_0, u2_0, g902_1) ⟨lv_sub hl [1, 0] rfl, hS, hD.sub (ws' := [(h0, .inr (13, z_2)), (qf153, .inl (cf153, 60, .inl g902_1)), (qf154, .inl (cf154, 3600, .inl f154))]) [0, 1, 2] (by decide) rfl, hP.sub (ws' := [(h0, .inr (13, z_2)), (qf153, .inl (cf153, 60, .inl g902_1)), (qf154, .inl (cf154, 3600, .inl f154))]) [0, 1, 2] rfl, hfk_2_149, hfk_2_153, hfk_2_154, hln_2, hrq_2, hsp⟩
        rw [if_neg hs_6] at hsp
        by_cases hs_7 : a1 = 160
        · rw [if_pos hs_7] at hsp
          refine lv_tableIn (tgt := 111) hx hb dX13_jumps_54 (by rw [hs_7]; decide) (by rw [hs_7]; decide) (off := 57) (by rw [hs_7]; rfl) (by decide) ?_
          exact hj_111 (H, locs, ls, z_2, u1_0, u2_0, g902_1) ⟨lv_sub hl [1, 0] rfl, hS, hD.sub (ws' := [(h0, .inr (13, z_2)), (qf153, .inl (cf153, 60, .inl g902_1)), (qf154, .inl (cf154, 3600, .inl f154))]) [0, 1, 2] (by decide) rfl, hP.sub (ws' := [(h0, .inr (13, z_2)), (qf153, .inl (cf153, 60, .inl g902_1)), (qf154, .inl (cf154, 3600, .inl f154))]) [0, 1, 2] rfl, hfk_2_149, hfk_2_153, hfk_2_154, hln_2, hrq_2, hsp⟩
        rw [if_neg hs_7] at hsp
        by_cases hs_8 : a1 = 161
        · rw [if_pos hs_8] at hsp
          refine lv_tableIn (tgt := 122) hx hb dX13_jumps_54 (by rw [hs_8]; decide) (by rw [hs_8]; decide) (off := 68) (by rw [hs_8]; rfl) (by decide) ?_
          refine lv_iload_n hx hb dX13_jumps_122 rfl (lv_at hl 0 rfl) ?_
          refine lv_iload_n hx hb dX13_jumps_123 rfl (lv_at hl 1 rfl) ?_
          refine lv_icmp_ge (tgt := 131) hx hb dX13_jumps_124 (by decide) (fun c_9 => ?_) (fun c_9 => ?_)
          · rw [if_pos c_9] at hsp
            refine lv_iconst (v := 0) hx hb dX13_jumps_131 (by decide) ?_
            have hr0 := Option.some.inj hsp
            clear hsp
            obtain ⟨hq0, hr1⟩ := Prod.mk.inj hr0
            clear hr0
            subst hq0
            subst hr1
            have hP9 := hP.sub (ws' := [(h0, .inr (13, z_2)), (qf153, .inl (cf153, 60, .inl g902_1)), (qf154, .inl (cf154, 3600, .inl f154))]) [0, 1, 2] rfl
            have hD9 := hD.sub (ws' := [(h0, .inr (13, z_2)), (qf153, .inl (cf153, 60, .inl g902_1)), (qf154, .inl (cf154, 3600, .inl f154))]) [0, 1, 2] (by decide) rfl
            have hK9 := hK.sub (tys' := [(cf153, .int), (cf154, .int)]) [0, 1] rfl
            exact W.zret hx hb hr (by decide) (fun t ht hW => ⟨⟨(0), (z_2), rfl, ⟨⟨rfl, Or.inl rfl⟩, hln_2, hrq_2⟩, by rw [ht]; exact hP9, va_K.moved hW.alike hK9, hD9⟩, hS.F ht⟩) hS.2.2 dX13_jumps_132
          · rw [if_neg c_9] at hsp
            refine lv_iconst (v := 1) hx hb dX13_jumps_127 (by decide) ?_
            refine lv_goto (tgt := 132) hx hb dX13_jumps_128 (by decide) ?_
            have hr0 := Option.some.inj hsp
            clear hsp
            obtain ⟨hq0, hr1⟩ := Prod.mk.inj hr0
            clear hr0
            subst hq0
            subst hr1
            have hP9 := hP.sub (ws' := [(h0, .inr (13, z_2)), (qf153, .inl (cf153, 60, .inl g902_1)), (qf154, .inl (cf154, 3600, .inl f154))]) [0, 1, 2] rfl
            have hD9 := hD.sub (ws' := [(h0, .inr (13, z_2)), (qf153, .inl (cf153, 60, .inl g902_1)), (qf154, .inl (cf154, 3600, .inl f154))]) [0, 1, 2] (by decide) rfl
            have hK9 := hK.sub (tys' := [(cf153, .int), (cf154, .int)]) [0, 1] rfl
            exact W.zret hx hb hr (by decide) (fun t ht hW => ⟨⟨(1), (z_2), rfl, ⟨⟨rfl, Or.inr rfl⟩, hln_2, hrq_2⟩, by rw [ht]; exact hP9, va_K.moved hW.alike hK9, hD9⟩, hS.F ht⟩) hS.2.2 dX13_jumps_132
        rw [if_neg hs_8] at hsp
        by_cases hs_10 : a1 = 162
        · rw [if_pos hs_10] at hsp
          refine lv_tableIn (tgt := 133) hx hb dX13_jumps_54 (by rw [hs_10]; decide) (by rw [hs_10]; decide) (off := 79) (by rw [hs_10]; rfl) (by decide) ?_
          refine lv_iload_n hx hb dX13_jumps_133 rfl (lv_at hl 0 rfl) ?_
          refine lv_iload_n hx hb dX13_jumps_134 rfl (lv_at hl 1 rfl) ?_
          refine lv_icmp_lt (tgt := 142) hx hb dX13_jumps_135 (by decide) (fun c_11 => ?_) (fun c_11 => ?_)
          · rw [if_pos c_11] at hsp
            refine lv_iconst (v := 0) hx hb dX13_jumps_142 (by decide) ?_
            have hr0 := Option.some.inj hsp
            clear hsp
            obtain ⟨hq0, hr1⟩ := Prod.mk.inj hr0
            clear hr0
            subst hq0
            subst hr1
            have hP9 := hP.sub (ws' := [(h0, .inr (13, z_2)), (qf153, .inl (cf153, 60, .inl g902_1)), (qf154, .inl (cf154, 3600, .inl f154))]) [0, 1, 2] rfl
            have hD9 := hD.sub (ws' := [(h0, .inr (13, z_2)), (qf153, .inl (cf153, 60, .inl g902_1)), (qf154, .inl (cf154, 3600, .inl f154))]) [0, 1, 2] (by decide) rfl
            have hK9 := hK.sub (tys' := [(cf153, .int), (cf154, .int)]) [0, 1] rfl
            exact W.zret hx hb hr (by decide) (fun t ht hW => ⟨⟨(0), (z_2), rfl, ⟨⟨rfl, Or.inl rfl⟩, hln_2, hrq_2⟩, by rw [ht]; exact hP9, va_K.moved hW.alike hK9, hD9⟩, hS.F ht⟩) hS.2.2 dX13_jumps_143
          · rw [if_neg c_11] at hsp
            refine lv_iconst (v := 1) hx hb dX13_jumps_138 (by decide) ?_
            refine lv_goto (tgt := 143) hx hb dX13_jumps_139 (by decide) ?_
            have hr0 := Option.some.inj hsp
            clear hsp
            obtain ⟨hq0, hr1⟩ := Prod.mk.inj hr0
            clear hr0
            subst hq0
            subst hr1
            have hP9 := hP.sub (ws' := [(h0, .inr (13, z_2)), (qf153, .inl (cf153, 60, .inl g902_1)), (qf154, .inl (cf154, 3600, .inl f154))]) [0, 1, 2] rfl
            have hD9 := hD.sub (ws' := [(h0, .inr (13, z_2)), (qf153, .inl (cf153, 60, .inl g902_1)), (qf154, .inl (cf154, 3600, .inl f154))]) [0, 1, 2] (by decide) rfl
            have hK9 := hK.sub (tys' := [(cf153, .int), (cf154, .int)]) [0, 1] rfl
            exact W.zret hx hb hr (by decide) (fun t ht hW => ⟨⟨(1), (z_2), rfl, ⟨⟨rfl, Or.inr rfl⟩, hln_2, hrq_2⟩, by rw [ht]; exact hP9, va_K.moved hW.alike hK9, hD9⟩, hS.F ht⟩) hS.2.2 dX13_jumps_143
        rw [if_neg hs_10] at hsp
        by_cases hs_12 : a1 = 163
        · rw [if_pos hs_12] at hsp
          refine lv_tableIn (tgt := 144) hx hb dX13_jumps_54 (by rw [hs_12]; decide) (by rw [hs_12]; decide) (off := 90) (by rw [hs_12]; rfl) (by decide) ?_
          refine lv_iload_n hx hb dX13_jumps_144 rfl (lv_at hl 0 rfl) ?_
          refine lv_iload_n hx hb dX13_jumps_145 rfl (lv_at hl 1 rfl) ?_
          refine lv_icmp_le (tgt := 153) hx hb dX13_jumps_146 (by decide) (fun c_13 => ?_) (fun c_13 => ?_)
          · rw [if_pos c_13] at hsp
            refine lv_iconst (v := 0) hx hb dX13_jumps_153 (by decide) ?_
            have hr0 := Option.some.inj hsp
            clear hsp
            obtain ⟨hq0, hr1⟩ := Prod.mk.inj hr0
            clear hr0
            subst hq0
            subst hr1
            have hP9 := hP.sub (ws' := [(h0, .inr (13, z_2)), (qf153, .inl (cf153, 60, .inl g902_1)), (qf154, .inl (cf154, 3600, .inl f154))]) [0, 1, 2] rfl
            have hD9 := hD.sub (ws' := [(h0, .inr (13, z_2)), (qf153, .inl (cf153, 60, .inl g902_1)), (qf154, .inl (cf154, 3600, .inl f154))]) [0, 1, 2] (by decide) rfl
            have hK9 := hK.sub (tys' := [(cf153, .int), (cf154, .int)]) [0, 1] rfl
            exact W.zret hx hb hr (by decide) (fun t ht hW => ⟨⟨(0), (z_2), rfl, ⟨⟨rfl, Or.inl rfl⟩, hln_2, hrq_2⟩, by rw [ht]; exact hP9, va_K.moved hW.alike hK9, hD9⟩, hS.F ht⟩) hS.2.2 dX13_jumps_154
          · rw [if_neg c_13] at hsp
            refine lv_iconst (v := 1) hx hb dX13_jumps_149 (by decide) ?_
            refine lv_goto (tgt := 154) hx hb dX13_jumps_150 (by decide) ?_
            have hr0 := Option.some.inj hsp
            clear hsp
            obtain ⟨hq0, hr1⟩ := Prod.mk.inj hr0
            clear hr0
            subst hq0
            subst hr1
            have hP9 := hP.sub (ws' := [(h0, .inr (13, z_2)), (qf153, .inl (cf153, 60, .inl g902_1)), (qf154, .inl (cf154, 3600, .inl f154))]) [0, 1, 2] rfl
            have hD9 := hD.sub (ws' := [(h0, .inr (13, z_2)), (qf153, .inl (cf153, 60, .inl g902_1)), (qf154, .inl (cf154, 3600, .inl f154))]) [0, 1, 2] (by decide) rfl
            have hK9 := hK.sub (tys' := [(cf153, .int), (cf154, .int)]) [0, 1] rfl
            exact W.zret hx hb hr (by decide) (fun t ht hW => ⟨⟨(1), (z_2), rfl, ⟨⟨rfl, Or.inr rfl⟩, hln_2, hrq_2⟩, by rw [ht]; exact hP9, va_K.moved hW.alike hK9, hD9⟩, hS.F ht⟩) hS.2.2 dX13_jumps_154
        rw [if_neg hs_12] at hsp
        by_cases hs_14 : a1 = 164
        · rw [if_pos hs_14] at hsp
          refine lv_tableIn (tgt := 155) hx hb dX13_jumps_54 (by rw [hs_14]; decide) (by rw [hs_14]; decide) (off := 101) (by rw [hs_14]; rfl) (by decide) ?_
          exact hj_155 (H, locs, ls, z_2, u1_0, u2_0, g902_1) ⟨lv_sub hl [1, 0] rfl, hS, hD.sub (ws' := [(h0, .inr (13, z_2)), (qf153, .inl (cf153, 60, .inl g902_1)), (qf154, .inl (cf154, 3600, .inl f154))]) [0, 1, 2] (by decide) rfl, hP.sub (ws' := [(h0, .inr (13, z_2)), (qf153, .inl (cf153, 60, .inl g902_1)), (qf154, .inl (cf154, 3600, .inl f154))]) [0, 1, 2] rfl, hfk_2_149, hfk_2_153, hfk_2_154, hln_2, hrq_2, hsp⟩
        rw [if_neg hs_14] at hsp
        by_cases hs_15 : a1 = 165
        · rw [if_pos hs_15] at hsp
          refine lv_tableIn (tgt := 100) hx hb dX13_jumps_54 (by rw [hs_15]; decide) (by rw [hs_15]; decide) (off := 46) (by rw [hs_15]; rfl) (by decide) ?_
          exact hj_100 (H, locs, ls, z_2, u1_0, u2_0, g902_1) ⟨lv_sub hl [1, 0] rfl, hS, hD.sub (ws' := [(h0, .inr (13, z_2)), (qf153, .inl (cf153, 60, .inl g902_1)), (qf154, .inl (cf154, 3600, .inl f154))]) [0, 1, 2] (by decide) rfl, hP.sub (ws' := [(h0, .inr (13, z_2)), (qf153, .inl (cf153, 60, .inl g902_1)), (qf154, .inl (cf154, 3600, .inl f154))]) [0, 1, 2] rfl, hfk_2_149, hfk_2_153, hfk_2_154, hln_2, hrq_2, hsp⟩
        rw [if_neg hs_15] at hsp
        by_cases hs_16 : a1 = 166
        · rw [if_pos hs_16] at hsp
          refine lv_tableIn (tgt := 111) hx hb dX13_jumps_54 (by rw [hs_16]; decide) (by rw [hs_16]; decide) (off := 57) (by rw [hs_16]; rfl) (by decide) ?_
          exact hj_111 (H, locs, ls, z_2, u1_0, u2_0, g902_1) ⟨lv_sub hl [1, 0] rfl, hS, hD.sub (ws' := [(h0, .inr (13, z_2)), (qf153, .inl (cf153, 60, .inl g902_1)), (qf154, .inl (cf154, 3600, .inl f154))]) [0, 1, 2] (by decide) rfl, hP.sub (ws' := [(h0, .inr (13, z_2)), (qf153, .inl (cf153, 60, .inl g902_1)), (qf154, .inl (cf154, 3600, .inl f154))]) [0, 1, 2] rfl, hfk_2_149, hfk_2_153, hfk_2_154, hln_2, hrq_2, hsp⟩
        rw [if_neg hs_16] at hsp
        refine lv_tableOut (tgt := 155) hx hb dX13_jumps_54 (by have a0 := lv_neT hs_6 (a := 159) rfl; have a1 := lv_neT hs_7 (a := 160) rfl; have a2 := lv_neT hs_8 (a := 161) rfl; have a3 := lv_neT hs_10 (a := 162) rfl; have a4 := lv_neT hs_12 (a := 163) rfl; have a5 := lv_neT hs_14 (a := 164) rfl; have a6 := lv_neT hs_15 (a := 165) rfl; have a7 := lv_neT hs_16 (a := 166) rfl; omega) (by decide) ?_
        exact hj_155 (H, locs, ls, z_2, u1_0, u2_0, g902_1) ⟨lv_sub hl [1, 0] rfl, hS, hD.sub (ws' := [(h0, .inr (13, z_2)), (qf153, .inl (cf153, 60, .inl g902_1)), (qf154, .inl (cf154, 3600, .inl f154))]) [0, 1, 2] (by decide) rfl, hP.sub (ws' := [(h0, .inr (13, z_2)), (qf153, .inl (cf153, 60, .inl g902_1)), (qf154, .inl (cf154, 3600, .inl f154))]) [0, 1, 2] rfl, hfk_2_149, hfk_2_153, hfk_2_154, hln_2, hrq_2, hsp⟩
      · rw [if_pos c_4] at hsp
        refine lv_iload_n hx hb dX13_jumps_38 rfl (lv_at hl 0 rfl) ?_
        refine lv_if_eq (tgt := 46) hx hb dX13_jumps_39 (by decide) (fun c_17 => ?_) (fun c_17 => ?_)
        · rw [if_pos c_17] at hsp
          refine lv_iconst (v := 0) hx hb dX13_jumps_46 (by decide) ?_
          have hr0 := Option.some.inj hsp
          clear hsp
          obtain ⟨hq0, hr1⟩ := Prod.mk.inj hr0
          clear hr0
          subst hq0
          subst hr1
          have hP9 := hP.sub (ws' := [(h0, .inr (13, z_1)), (qf153, .inl (cf153, 60, .inl g901_1)), (qf154, .inl (cf154, 3600, .inl f154))]) [0, 1, 2] rfl
          have hD9 := hD.sub (ws' := [(h0, .inr (13, z_1)), (qf153, .inl (cf153, 60, .inl g901_1)), (qf154, .inl (cf154, 3600, .inl f154))]) [0, 1, 2] (by decide) rfl
          have hK9 := hK.sub (tys' := [(cf153, .int), (cf154, .int)]) [0, 1] rfl
          exact W.zret hx hb hr (by decide) (fun t ht hW => ⟨⟨(0), (z_1), rfl, ⟨⟨rfl, Or.inl rfl⟩, hln_1, hrq_1⟩, by rw [ht]; exact hP9, va_K.moved hW.alike hK9, hD9⟩, hS.F ht⟩) hS.2.2 dX13_jumps_47
        · rw [if_neg c_17] at hsp
          refine lv_iconst (v := 1) hx hb dX13_jumps_42 (by decide) ?_
          refine lv_goto (tgt := 47) hx hb dX13_jumps_43 (by decide) ?_
          have hr0 := Option.some.inj hsp
          clear hsp
          obtain ⟨hq0, hr1⟩ := Prod.mk.inj hr0
          clear hr0
          subst hq0
          subst hr1
          have hP9 := hP.sub (ws' := [(h0, .inr (13, z_1)), (qf153, .inl (cf153, 60, .inl g901_1)), (qf154, .inl (cf154, 3600, .inl f154))]) [0, 1, 2] rfl
          have hD9 := hD.sub (ws' := [(h0, .inr (13, z_1)), (qf153, .inl (cf153, 60, .inl g901_1)), (qf154, .inl (cf154, 3600, .inl f154))]) [0, 1, 2] (by decide) rfl
          have hK9 := hK.sub (tys' := [(cf153, .int), (cf154, .int)]) [0, 1] rfl
          exact W.zret hx hb hr (by decide) (fun t ht hW => ⟨⟨(1), (z_1), rfl, ⟨⟨rfl, Or.inr rfl⟩, hln_1, hrq_1⟩, by rw [ht]; exact hP9, va_K.moved hW.alike hK9, hD9⟩, hS.F ht⟩) hS.2.2 dX13_jumps_47
    · rw [if_pos c_3] at hsp
      refine lv_iload_n hx hb dX13_jumps_21 rfl (lv_at hl 0 rfl) ?_
      refine lv_if_ne (tgt := 29) hx hb dX13_jumps_22 (by decide) (fun c_18 => ?_) (fun c_18 => ?_)
      · rw [if_neg c_18] at hsp
        refine lv_iconst (v := 0) hx hb dX13_jumps_29 (by decide) ?_
        have hr0 := Option.some.inj hsp
        clear hsp
        obtain ⟨hq0, hr1⟩ := Prod.mk.inj hr0
        clear hr0
        subst hq0
        subst hr1
        have hP9 := hP.sub (ws' := [(h0, .inr (13, z_1)), (qf153, .inl (cf153, 60, .inl g901_1)), (qf154, .inl (cf154, 3600, .inl f154))]) [0, 1, 2] rfl
        have hD9 := hD.sub (ws' := [(h0, .inr (13, z_1)), (qf153, .inl (cf153, 60, .inl g901_1)), (qf154, .inl (cf154, 3600, .inl f154))]) [0, 1, 2] (by decide) rfl
        have hK9 := hK.sub (tys' := [(cf153, .int), (cf154, .int)]) [0, 1] rfl
        exact W.zret hx hb hr (by decide) (fun t ht hW => ⟨⟨(0), (z_1), rfl, ⟨⟨rfl, Or.inl rfl⟩, hln_1, hrq_1⟩, by rw [ht]; exact hP9, va_K.moved hW.alike hK9, hD9⟩, hS.F ht⟩) hS.2.2 dX13_jumps_30
      · rw [if_pos c_18] at hsp
        refine lv_iconst (v := 1) hx hb dX13_jumps_25 (by decide) ?_
        refine lv_goto (tgt := 30) hx hb dX13_jumps_26 (by decide) ?_
        have hr0 := Option.some.inj hsp
        clear hsp
        obtain ⟨hq0, hr1⟩ := Prod.mk.inj hr0
        clear hr0
        subst hq0
        subst hr1
        have hP9 := hP.sub (ws' := [(h0, .inr (13, z_1)), (qf153, .inl (cf153, 60, .inl g901_1)), (qf154, .inl (cf154, 3600, .inl f154))]) [0, 1, 2] rfl
        have hD9 := hD.sub (ws' := [(h0, .inr (13, z_1)), (qf153, .inl (cf153, 60, .inl g901_1)), (qf154, .inl (cf154, 3600, .inl f154))]) [0, 1, 2] (by decide) rfl
        have hK9 := hK.sub (tys' := [(cf153, .int), (cf154, .int)]) [0, 1] rfl
        exact W.zret hx hb hr (by decide) (fun t ht hW => ⟨⟨(1), (z_1), rfl, ⟨⟨rfl, Or.inr rfl⟩, hln_1, hrq_1⟩, by rw [ht]; exact hP9, va_K.moved hW.alike hK9, hD9⟩, hS.F ht⟩) hS.2.2 dX13_jumps_30
  · rw [if_pos c_1] at hsp
    refine lv_iconst (v := 1) hx hb dX13_jumps_7 (by decide) ?_
    have hr0 := Option.some.inj hsp
    clear hsp
    obtain ⟨hq0, hr1⟩ := Prod.mk.inj hr0
    clear hr0
    subst hq0
    subst hr1
    have hP9 := hP.sub (ws' := [(h0, .inr (13, zs)), (qf153, .inl (cf153, 60, .inl f153)), (qf154, .inl (cf154, 3600, .inl f154))]) [0, 1, 2] rfl
    have hD9 := hD.sub (ws' := [(h0, .inr (13, zs)), (qf153, .inl (cf153, 60, .inl f153)), (qf154, .inl (cf154, 3600, .inl f154))]) [0, 1, 2] (by decide) rfl
    have hK9 := hK.sub (tys' := [(cf153, .int), (cf154, .int)]) [0, 1] rfl
    exact W.zret hx hb hr (by decide) (fun t ht hW => ⟨⟨(1), (zs), rfl, ⟨⟨rfl, Or.inr rfl⟩, hlen, hrs0⟩, by rw [ht]; exact hP9, va_K.moved hW.alike hK9, hD9⟩, hS.F ht⟩) hS.2.2 dX13_jumps_8
def sp_vm_look (nf : Nat) (a1 : Int32) (v1 : Int32) (v98 : Int32) (v99 : Int32) (v138 : Int32) (v139 : Int32) (v140 : Int32) (v141 : Int32) (v142 : Int32) (v143 : Int32) (v149 : Int32) (f150 : Nat → Int32) (f151 : Nat → Int32) (f152 : Nat → Int32) (f153 : Nat → Int32) : Option (Int32) := (if a1 = 0 then (some v138) else (if a1 = 1 then (if v138 = 2 then (some v139) else (if v138 = 3 then (some v139) else (some (-1)))) else (if a1 = 2 then (if v138 = 0 then (some 0) else (some v140)) else (if a1 = 3 then (if v138 = 0 then (some 0) else (some v141)) else (if a1 = 4 then (if v138 = 0 then (some 0) else (some v142)) else (if a1 = 5 then (if v138 = 0 then (some 0) else (some v149)) else (if a1 = 6 then (if v138 = 0 then (some 0) else (some v143)) else (if a1 = 7 then (if v138 = 1 then (if (v149 - 1) < 0 then none else if 60 ≤ ((v149 - 1) : Int32).toNatClampNeg then none else (some (f150 ((v149 - 1) : Int32).toNatClampNeg))) else (some (-1))) else (if a1 = 8 then (if v138 = 1 then (if (v149 - 1) < 0 then none else if 60 ≤ ((v149 - 1) : Int32).toNatClampNeg then none else (some (f151 ((v149 - 1) : Int32).toNatClampNeg))) else (some (-1))) else (if a1 = 9 then (if v138 = 1 then (if (v149 - 1) < 0 then none else if 60 ≤ ((v149 - 1) : Int32).toNatClampNeg then none else (some (f152 ((v149 - 1) : Int32).toNatClampNeg))) else (some (-1))) else (if a1 = 10 then (if v138 = 1 then (if (v149 - 1) < 0 then none else if 60 ≤ ((v149 - 1) : Int32).toNatClampNeg then none else (some (f153 ((v149 - 1) : Int32).toNatClampNeg))) else (some (-1))) else (if a1 = 11 then (some v98) else (if a1 = 12 then (if v99 = 0 then (some 0) else (some 1)) else (if a1 = 13 then (some v1) else (some (-1))))))))))))))))
set_option maxHeartbeats 4000000 in
set_option maxRecDepth 100000 in
/-- ClassMillModel.look -/
theorem vm_look (l : Launch) (dC : Nat → ClassId) (dI : Nat → Nat → Nat) (sz : Nat) (h0 : Nat) (zs : (List Value)) (a1 : Int32) (v1 : Int32) (v98 : Int32) (v99 : Int32) (v138 : Int32) (v139 : Int32) (v140 : Int32) (v141 : Int32) (v142 : Int32) (v143 : Int32) (v149 : Int32) (qf150 : Nat) (qf151 : Nat) (qf152 : Nat) (qf153 : Nat) (cf150 : ClassId) (f150 : (Nat → Int32)) (cf151 : ClassId) (f151 : (Nat → Int32)) (cf152 : ClassId) (f152 : (Nat → Int32)) (cf153 : ClassId) (f153 : (Nat → Int32)) (nf : Nat) (r0 : Int32) (hlen : zs.length = 155) (hf1 : zs[1]? = some (.int v1)) (hf98 : zs[98]? = some (.int v98)) (hf99 : zs[99]? = some (.int v99)) (hf138 : zs[138]? = some (.int v138)) (hf139 : zs[139]? = some (.int v139)) (hf140 : zs[140]? = some (.int v140)) (hf141 : zs[141]? = some (.int v141)) (hf142 : zs[142]? = some (.int v142)) (hf143 : zs[143]? = some (.int v143)) (hf149 : zs[149]? = some (.int v149)) (hf150 : zs[150]? = some (.ref qf150)) (hf151 : zs[151]? = some (.ref qf151)) (hf152 : zs[152]? = some (.ref qf152)) (hf153 : zs[153]? = some (.ref qf153)) (hsp : sp_vm_look nf a1 v1 v98 v99 v138 v139 v140 v141 v142 v143 v149 f150 f151 f152 f153 = some r0) : Met l yX13_look (.code yX13_look cX13_look 2 (some .int) :: VS_h9) ({ frames := 0, cells := 0, slots := 0, locals := 0 }) (va_Pc [.ref h0, .int a1] (fun U => U.heap.size = sz ∧ va_P (dC, dI) vwCl [(h0, .inr (13, zs)), (qf150, .inl (cf150, 60, .inl f150)), (qf151, .inl (cf151, 60, .inl f151)), (qf152, .inl (cf152, 60, .inl f152)), (qf153, .inl (cf153, 60, .inl f153))] U.heap ∧ va_K (dC, dI) vwCl [(cf150, .int), (cf151, .int), (cf152, .int), (cf153, .int)] U ∧ va_D (fun _ => True) [(h0, .inr (13, zs)), (qf150, .inl (cf150, 60, .inl f150)), (qf151, .inl (cf151, 60, .inl f151)), (qf152, .inl (cf152, 60, .inl f152)), (qf153, .inl (cf153, 60, .inl f153))])) (va_Qi (fun (r : Int32) (u : (List Value)) => match u with | (zo1) => r0 = r ∧ zo1.length = 155 ∧ (∀ j : Nat, zo1[j]? = zs[j]?)) (fun (u : (List Value)) (t : State) => match u with | (zo1) => va_P (dC, dI) vwCl [(h0, .inr (13, zo1)), (qf150, .inl (cf150, 60, .inl f150)), (qf151, .inl (cf151, 60, .inl f151)), (qf152, .inl (cf152, 60, .inl f152)), (qf153, .inl (cf153, 60, .inl f153))] t.heap ∧ va_K (dC, dI) vwCl [(cf150, .int), (cf151, .int), (cf152, .int), (cf153, .int)] t ∧ va_D (va_A [(h0, .inr (13, zs)), (qf150, .inl (cf150, 60, .inl f150)), (qf151, .inl (cf151, 60, .inl f151)), (qf152, .inl (cf152, 60, .inl f152)), (qf153, .inl (cf153, 60, .inl f153))] sz) [(h0, .inr (13, zo1)), (qf150, .inl (cf150, 60, .inl f150)), (qf151, .inl (cf151, 60, .inl f151)), (qf152, .inl (cf152, 60, .inl f152)), (qf153, .inl (cf153, 60, .inl f153))]) (va_A [(h0, .inr (13, zs)), (qf150, .inl (cf150, 60, .inl f150)), (qf151, .inl (cf151, 60, .inl f151)), (qf152, .inl (cf152, 60, .inl f152)), (qf153, .inl (cf153, 60, .inl f153))] sz)) 0 0 (va_A [(h0, .inr (13, zs)), (qf150, .inl (cf150, 60, .inl f150)), (qf151, .inl (cf151, 60, .inl f151)), (qf152, .inl (cf152, 60, .inl f152)), (qf153, .inl (cf153, 60, .inl f153))] sz) := by
  refine Met.ofW (cc := cX13_look) (maxL := 2) (ret := (some .int)) (by decide) rfl ?_
  intro p e s m args below meth c s₁ B hml hv
  obtain ⟨rfl, hsz, hP, hK, hD0⟩ := hv
  have hx := B.exec
  have hb := B.bytes
  have hr := B.returns
  have hts := atoms_spec (ws := (.code yX13_look cX13_look 2 (some .int) :: VS_h9)) B.pre
  replace hts := fun w (h : w ∈ VS_h9) => hts w (List.mem_cons_of_mem _ h)
  have hown : s.vm.findClass RX13 = some m.cls := findClass_of_methodNamed B.named
  have hlocks := B.notSynchronized
  subst hsz
  have hD := hD0.self (sz := s.heap.size)
  generalize hAe : va_A [(h0, .inr (13, zs)), (qf150, .inl (cf150, 60, .inl f150)), (qf151, .inl (cf151, 60, .inl f151)), (qf152, .inl (cf152, 60, .inl f152)), (qf153, .inl (cf153, 60, .inl f153))] s.heap.size = A at hD  ⊢
  have hA : ∀ q : Nat, s.heap.size ≤ q → A q := fun q h => by rw [← hAe]; exact Or.inr h
  have hP : va_P (dC, dI) vwCl [(h0, .inr (13, zs)), (qf150, .inl (cf150, 60, .inl f150)), (qf151, .inl (cf151, 60, .inl f151)), (qf152, .inl (cf152, 60, .inl f152)), (qf153, .inl (cf153, 60, .inl f153))] s.heap := hP
  have hl := lv_entry ([.ref h0, .int a1]) (n := 2) (Nat.le_of_ble_eq_true rfl)
  rw [lg_entry_eq]
  generalize (lg_sl ([.ref h0, .int a1]) ++ List.replicate (2 - (lg_sl ([.ref h0, .int a1])).length) Slot.unset).toArray = ls at hl ⊢
  have hl : lv_has ls 2 [(0, .ref h0), (1, .int a1)] := hl
  obtain ⟨H, hH⟩ : ∃ H : Heap, s.heap = H := ⟨_, rfl⟩
  rw [hH] at hP ⊢
  have hS : va_S A s.heap H [] := by rw [← hH]; exact va_S.rf
  obtain ⟨locs, hlo⟩ : ∃ locs : List Loc, locs = [] := ⟨_, rfl⟩
  rw [← hlo] at hS ⊢
  have hrs0 : ∀ j : Nat, zs[j]? = zs[j]? := fun _  => rfl
  unfold sp_vm_look at hsp
  refine lv_iload_n hx hb dX13_look_0 rfl (lv_at hl 1 rfl) ?_
  by_cases hs_1 : a1 = 0
  · rw [if_pos hs_1] at hsp
    refine lv_tableIn (tgt := 72) hx hb dX13_look_1 (by rw [hs_1]; decide) (by rw [hs_1]; decide) (off := 71) (by rw [hs_1]; rfl) (by decide) ?_
    refine lv_aload_n hx hb dX13_look_72 rfl (lv_at hl 0 rfl) ?_
    refine va_get (D := (dC, dI)) (ci := 13) (v := .int v138) (C := RX13) (T := TX13) (N := 155) hx hb hts uV_h9_X13 hown hK hP 0 rfl rfl 138 (by decide) (hts (.fieldLink RX13 858 "ClassMillModel" "state" "I") mw_h9_364) (fun _ h9 => h9) hf138 dX13_look_73 ?_
    have hr0 := Option.some.inj hsp
    clear hsp
    subst hr0
    have hP9 := hP.sub (ws' := [(h0, .inr (13, zs)), (qf150, .inl (cf150, 60, .inl f150)), (qf151, .inl (cf151, 60, .inl f151)), (qf152, .inl (cf152, 60, .inl f152)), (qf153, .inl (cf153, 60, .inl f153))]) [0, 1, 2, 3, 4] rfl
    have hD9 := hD.sub (ws' := [(h0, .inr (13, zs)), (qf150, .inl (cf150, 60, .inl f150)), (qf151, .inl (cf151, 60, .inl f151)), (qf152, .inl (cf152, 60, .inl f152)), (qf153, .inl (cf153, 60, .inl f153))]) [0, 1, 2, 3, 4] (by decide) rfl
    have hK9 := hK.sub (tys' := [(cf150, .int), (cf151, .int), (cf152, .int), (cf153, .int)]) [0, 1, 2, 3] rfl
    exact W.iret hx hb hr (fun t ht hW => ⟨⟨(v138), (zs), rfl, ⟨rfl, hlen, hrs0⟩, by rw [ht]; exact hP9, va_K.moved hW.alike hK9, hD9⟩, hS.F ht⟩) hS.2.2 dX13_look_76
  rw [if_neg hs_1] at hsp
  by_cases hs_2 : a1 = 1
  · rw [if_pos hs_2] at hsp
    refine lv_tableIn (tgt := 77) hx hb dX13_look_1 (by rw [hs_2]; decide) (by rw [hs_2]; decide) (off := 76) (by rw [hs_2]; rfl) (by decide) ?_
    refine lv_aload_n hx hb dX13_look_77 rfl (lv_at hl 0 rfl) ?_
    refine va_get (D := (dC, dI)) (ci := 13) (v := .int v138) (C := RX13) (T := TX13) (N := 155) hx hb hts uV_h9_X13 hown hK hP 0 rfl rfl 138 (by decide) (hts (.fieldLink RX13 858 "ClassMillModel" "state" "I") mw_h9_364) (fun _ h9 => h9) hf138 dX13_look_78 ?_
    refine lv_iconst (v := 2) hx hb dX13_look_81 (by decide) ?_
    refine lv_icmp_eq (tgt := 93) hx hb dX13_look_82 (by decide) (fun c_3 => ?_) (fun c_3 => ?_)
    · rw [if_pos c_3] at hsp
      refine lv_aload_n hx hb dX13_look_93 rfl (lv_at hl 0 rfl) ?_
      refine va_get (D := (dC, dI)) (ci := 13) (v := .int v139) (C := RX13) (T := TX13) (N := 155) hx hb hts uV_h9_X13 hown hK hP 0 rfl rfl 139 (by decide) (hts (.fieldLink RX13 1043 "ClassMillModel" "gave" "I") mw_h9_365) (fun _ h9 => h9) hf139 dX13_look_94 ?_
      refine lv_goto (tgt := 101) hx hb dX13_look_97 (by decide) ?_
      have hr0 := Option.some.inj hsp
      clear hsp
      subst hr0
      have hP9 := hP.sub (ws' := [(h0, .inr (13, zs)), (qf150, .inl (cf150, 60, .inl f150)), (qf151, .inl (cf151, 60, .inl f151)), (qf152, .inl (cf152, 60, .inl f152)), (qf153, .inl (cf153, 60, .inl f153))]) [0, 1, 2, 3, 4] rfl
      have hD9 := hD.sub (ws' := [(h0, .inr (13, zs)), (qf150, .inl (cf150, 60, .inl f150)), (qf151, .inl (cf151, 60, .inl f151)), (qf152, .inl (cf152, 60, .inl f152)), (qf153, .inl (cf153, 60, .inl f153))]) [0, 1, 2, 3, 4] (by decide) rfl
      have hK9 := hK.sub (tys' := [(cf150, .int), (cf151, .int), (cf152, .int), (cf153, .int)]) [0, 1, 2, 3] rfl
      exact W.iret hx hb hr (fun t ht hW => ⟨⟨(v139), (zs), rfl, ⟨rfl, hlen, hrs0⟩, by rw [ht]; exact hP9, va_K.moved hW.alike hK9, hD9⟩, hS.F ht⟩) hS.2.2 dX13_look_101
    · rw [if_neg c_3] at hsp
      refine lv_aload_n hx hb dX13_look_85 rfl (lv_at hl 0 rfl) ?_
      refine va_get (D := (dC, dI)) (ci := 13) (v := .int v138) (C := RX13) (T := TX13) (N := 155) hx hb hts uV_h9_X13 hown hK hP 0 rfl rfl 138 (by decide) (hts (.fieldLink RX13 858 "ClassMillModel" "state" "I") mw_h9_364) (fun _ h9 => h9) hf138 dX13_look_86 ?_
      refine lv_iconst (v := 3) hx hb dX13_look_89 (by decide) ?_
      refine lv_icmp_ne (tgt := 100) hx hb dX13_look_90 (by decide) (fun c_4 => ?_) (fun c_4 => ?_)
      · rw [if_neg c_4] at hsp
        refine lv_iconst (v := (-1)) hx hb dX13_look_100 (by decide) ?_
        have hr0 := Option.some.inj hsp
        clear hsp
        subst hr0
        have hP9 := hP.sub (ws' := [(h0, .inr (13, zs)), (qf150, .inl (cf150, 60, .inl f150)), (qf151, .inl (cf151, 60, .inl f151)), (qf152, .inl (cf152, 60, .inl f152)), (qf153, .inl (cf153, 60, .inl f153))]) [0, 1, 2, 3, 4] rfl
        have hD9 := hD.sub (ws' := [(h0, .inr (13, zs)), (qf150, .inl (cf150, 60, .inl f150)), (qf151, .inl (cf151, 60, .inl f151)), (qf152, .inl (cf152, 60, .inl f152)), (qf153, .inl (cf153, 60, .inl f153))]) [0, 1, 2, 3, 4] (by decide) rfl
        have hK9 := hK.sub (tys' := [(cf150, .int), (cf151, .int), (cf152, .int), (cf153, .int)]) [0, 1, 2, 3] rfl
        exact W.iret hx hb hr (fun t ht hW => ⟨⟨((-1)), (zs), rfl, ⟨rfl, hlen, hrs0⟩, by rw [ht]; exact hP9, va_K.moved hW.alike hK9, hD9⟩, hS.F ht⟩) hS.2.2 dX13_look_101
      · rw [if_pos c_4] at hsp
        refine lv_aload_n hx hb dX13_look_93 rfl (lv_at hl 0 rfl) ?_
        refine va_get (D := (dC, dI)) (ci := 13) (v := .int v139) (C := RX13) (T := TX13) (N := 155) hx hb hts uV_h9_X13 hown hK hP 0 rfl rfl 139 (by decide) (hts (.fieldLink RX13 1043 "ClassMillModel" "gave" "I") mw_h9_365) (fun _ h9 => h9) hf139 dX13_look_94 ?_
        refine lv_goto (tgt := 101) hx hb dX13_look_97 (by decide) ?_
        have hr0 := Option.some.inj hsp
        clear hsp
        subst hr0
        have hP9 := hP.sub (ws' := [(h0, .inr (13, zs)), (qf150, .inl (cf150, 60, .inl f150)), (qf151, .inl (cf151, 60, .inl f151)), (qf152, .inl (cf152, 60, .inl f152)), (qf153, .inl (cf153, 60, .inl f153))]) [0, 1, 2, 3, 4] rfl
        have hD9 := hD.sub (ws' := [(h0, .inr (13, zs)), (qf150, .inl (cf150, 60, .inl f150)), (qf151, .inl (cf151, 60, .inl f151)), (qf152, .inl (cf152, 60, .inl f152)), (qf153, .inl (cf153, 60, .inl f153))]) [0, 1, 2, 3, 4] (by decide) rfl
        have hK9 := hK.sub (tys' := [(cf150, .int), (cf151, .int), (cf152, .int), (cf153, .int)]) [0, 1, 2, 3] rfl
        exact W.iret hx hb hr (fun t ht hW => ⟨⟨(v139), (zs), rfl, ⟨rfl, hlen, hrs0⟩, by rw [ht]; exact hP9, va_K.moved hW.alike hK9, hD9⟩, hS.F ht⟩) hS.2.2 dX13_look_101
  rw [if_neg hs_2] at hsp
  by_cases hs_5 : a1 = 2
  · rw [if_pos hs_5] at hsp
    refine lv_tableIn (tgt := 102) hx hb dX13_look_1 (by rw [hs_5]; decide) (by rw [hs_5]; decide) (off := 101) (by rw [hs_5]; rfl) (by decide) ?_
    refine lv_aload_n hx hb dX13_look_102 rfl (lv_at hl 0 rfl) ?_
    refine va_get (D := (dC, dI)) (ci := 13) (v := .int v138) (C := RX13) (T := TX13) (N := 155) hx hb hts uV_h9_X13 hown hK hP 0 rfl rfl 138 (by decide) (hts (.fieldLink RX13 858 "ClassMillModel" "state" "I") mw_h9_364) (fun _ h9 => h9) hf138 dX13_look_103 ?_
    refine lv_if_ne (tgt := 113) hx hb dX13_look_106 (by decide) (fun c_6 => ?_) (fun c_6 => ?_)
    · rw [if_neg c_6] at hsp
      refine lv_aload_n hx hb dX13_look_113 rfl (lv_at hl 0 rfl) ?_
      refine va_get (D := (dC, dI)) (ci := 13) (v := .int v140) (C := RX13) (T := TX13) (N := 155) hx hb hts uV_h9_X13 hown hK hP 0 rfl rfl 140 (by decide) (hts (.fieldLink RX13 1046 "ClassMillModel" "steps" "I") mw_h9_366) (fun _ h9 => h9) hf140 dX13_look_114 ?_
      have hr0 := Option.some.inj hsp
      clear hsp
      subst hr0
      have hP9 := hP.sub (ws' := [(h0, .inr (13, zs)), (qf150, .inl (cf150, 60, .inl f150)), (qf151, .inl (cf151, 60, .inl f151)), (qf152, .inl (cf152, 60, .inl f152)), (qf153, .inl (cf153, 60, .inl f153))]) [0, 1, 2, 3, 4] rfl
      have hD9 := hD.sub (ws' := [(h0, .inr (13, zs)), (qf150, .inl (cf150, 60, .inl f150)), (qf151, .inl (cf151, 60, .inl f151)), (qf152, .inl (cf152, 60, .inl f152)), (qf153, .inl (cf153, 60, .inl f153))]) [0, 1, 2, 3, 4] (by decide) rfl
      have hK9 := hK.sub (tys' := [(cf150, .int), (cf151, .int), (cf152, .int), (cf153, .int)]) [0, 1, 2, 3] rfl
      exact W.iret hx hb hr (fun t ht hW => ⟨⟨(v140), (zs), rfl, ⟨rfl, hlen, hrs0⟩, by rw [ht]; exact hP9, va_K.moved hW.alike hK9, hD9⟩, hS.F ht⟩) hS.2.2 dX13_look_117
    · rw [if_pos c_6] at hsp
      refine lv_iconst (v := 0) hx hb dX13_look_109 (by decide) ?_
      refine lv_goto (tgt := 117) hx hb dX13_look_110 (by decide) ?_
      have hr0 := Option.some.inj hsp
      clear hsp
      subst hr0
      have hP9 := hP.sub (ws' := [(h0, .inr (13, zs)), (qf150, .inl (cf150, 60, .inl f150)), (qf151, .inl (cf151, 60, .inl f151)), (qf152, .inl (cf152, 60, .inl f152)), (qf153, .inl (cf153, 60, .inl f153))]) [0, 1, 2, 3, 4] rfl
      have hD9 := hD.sub (ws' := [(h0, .inr (13, zs)), (qf150, .inl (cf150, 60, .inl f150)), (qf151, .inl (cf151, 60, .inl f151)), (qf152, .inl (cf152, 60, .inl f152)), (qf153, .inl (cf153, 60, .inl f153))]) [0, 1, 2, 3, 4] (by decide) rfl
      have hK9 := hK.sub (tys' := [(cf150, .int), (cf151, .int), (cf152, .int), (cf153, .int)]) [0, 1, 2, 3] rfl
      exact W.iret hx hb hr (fun t ht hW => ⟨⟨(0), (zs), rfl, ⟨rfl, hlen, hrs0⟩, by rw [ht]; exact hP9, va_K.moved hW.alike hK9, hD9⟩, hS.F ht⟩) hS.2.2 dX13_look_117
  rw [if_neg hs_5] at hsp
  by_cases hs_7 : a1 = 3
  · rw [if_pos hs_7] at hsp
    refine lv_tableIn (tgt := 118) hx hb dX13_look_1 (by rw [hs_7]; decide) (by rw [hs_7]; decide) (off := 117) (by rw [hs_7]; rfl) (by decide) ?_
    refine lv_aload_n hx hb dX13_look_118 rfl (lv_at hl 0 rfl) ?_
    refine va_get (D := (dC, dI)) (ci := 13) (v := .int v138) (C := RX13) (T := TX13) (N := 155) hx hb hts uV_h9_X13 hown hK hP 0 rfl rfl 138 (by decide) (hts (.fieldLink RX13 858 "ClassMillModel" "state" "I") mw_h9_364) (fun _ h9 => h9) hf138 dX13_look_119 ?_
    refine lv_if_ne (tgt := 129) hx hb dX13_look_122 (by decide) (fun c_8 => ?_) (fun c_8 => ?_)
    · rw [if_neg c_8] at hsp
      refine lv_aload_n hx hb dX13_look_129 rfl (lv_at hl 0 rfl) ?_
      refine va_get (D := (dC, dI)) (ci := 13) (v := .int v141) (C := RX13) (T := TX13) (N := 155) hx hb hts uV_h9_X13 hown hK hP 0 rfl rfl 141 (by decide) (hts (.fieldLink RX13 1049 "ClassMillModel" "objects" "I") mw_h9_367) (fun _ h9 => h9) hf141 dX13_look_130 ?_
      have hr0 := Option.some.inj hsp
      clear hsp
      subst hr0
      have hP9 := hP.sub (ws' := [(h0, .inr (13, zs)), (qf150, .inl (cf150, 60, .inl f150)), (qf151, .inl (cf151, 60, .inl f151)), (qf152, .inl (cf152, 60, .inl f152)), (qf153, .inl (cf153, 60, .inl f153))]) [0, 1, 2, 3, 4] rfl
      have hD9 := hD.sub (ws' := [(h0, .inr (13, zs)), (qf150, .inl (cf150, 60, .inl f150)), (qf151, .inl (cf151, 60, .inl f151)), (qf152, .inl (cf152, 60, .inl f152)), (qf153, .inl (cf153, 60, .inl f153))]) [0, 1, 2, 3, 4] (by decide) rfl
      have hK9 := hK.sub (tys' := [(cf150, .int), (cf151, .int), (cf152, .int), (cf153, .int)]) [0, 1, 2, 3] rfl
      exact W.iret hx hb hr (fun t ht hW => ⟨⟨(v141), (zs), rfl, ⟨rfl, hlen, hrs0⟩, by rw [ht]; exact hP9, va_K.moved hW.alike hK9, hD9⟩, hS.F ht⟩) hS.2.2 dX13_look_133
    · rw [if_pos c_8] at hsp
      refine lv_iconst (v := 0) hx hb dX13_look_125 (by decide) ?_
      refine lv_goto (tgt := 133) hx hb dX13_look_126 (by decide) ?_
      have hr0 := Option.some.inj hsp
      clear hsp
      subst hr0
      have hP9 := hP.sub (ws' := [(h0, .inr (13, zs)), (qf150, .inl (cf150, 60, .inl f150)), (qf151, .inl (cf151, 60, .inl f151)), (qf152, .inl (cf152, 60, .inl f152)), (qf153, .inl (cf153, 60, .inl f153))]) [0, 1, 2, 3, 4] rfl
      have hD9 := hD.sub (ws' := [(h0, .inr (13, zs)), (qf150, .inl (cf150, 60, .inl f150)), (qf151, .inl (cf151, 60, .inl f151)), (qf152, .inl (cf152, 60, .inl f152)), (qf153, .inl (cf153, 60, .inl f153))]) [0, 1, 2, 3, 4] (by decide) rfl
      have hK9 := hK.sub (tys' := [(cf150, .int), (cf151, .int), (cf152, .int), (cf153, .int)]) [0, 1, 2, 3] rfl
      exact W.iret hx hb hr (fun t ht hW => ⟨⟨(0), (zs), rfl, ⟨rfl, hlen, hrs0⟩, by rw [ht]; exact hP9, va_K.moved hW.alike hK9, hD9⟩, hS.F ht⟩) hS.2.2 dX13_look_133
  rw [if_neg hs_7] at hsp
  by_cases hs_9 : a1 = 4
  · rw [if_pos hs_9] at hsp
    refine lv_tableIn (tgt := 134) hx hb dX13_look_1 (by rw [hs_9]; decide) (by rw [hs_9]; decide) (off := 133) (by rw [hs_9]; rfl) (by decide) ?_
    refine lv_aload_n hx hb dX13_look_134 rfl (lv_at hl 0 rfl) ?_
    refine va_get (D := (dC, dI)) (ci := 13) (v := .int v138) (C := RX13) (T := TX13) (N := 155) hx hb hts uV_h9_X13 hown hK hP 0 rfl rfl 138 (by decide) (hts (.fieldLink RX13 858 "ClassMillModel" "state" "I") mw_h9_364) (fun _ h9 => h9) hf138 dX13_look_135 ?_
    refine lv_if_ne (tgt := 145) hx hb dX13_look_138 (by decide) (fun c_10 => ?_) (fun c_10 => ?_)
    · rw [if_neg c_10] at hsp
      refine lv_aload_n hx hb dX13_look_145 rfl (lv_at hl 0 rfl) ?_
      refine va_get (D := (dC, dI)) (ci := 13) (v := .int v142) (C := RX13) (T := TX13) (N := 155) hx hb hts uV_h9_X13 hown hK hP 0 rfl rfl 142 (by decide) (hts (.fieldLink RX13 1052 "ClassMillModel" "fieldsMade" "I") mw_h9_368) (fun _ h9 => h9) hf142 dX13_look_146 ?_
      have hr0 := Option.some.inj hsp
      clear hsp
      subst hr0
      have hP9 := hP.sub (ws' := [(h0, .inr (13, zs)), (qf150, .inl (cf150, 60, .inl f150)), (qf151, .inl (cf151, 60, .inl f151)), (qf152, .inl (cf152, 60, .inl f152)), (qf153, .inl (cf153, 60, .inl f153))]) [0, 1, 2, 3, 4] rfl
      have hD9 := hD.sub (ws' := [(h0, .inr (13, zs)), (qf150, .inl (cf150, 60, .inl f150)), (qf151, .inl (cf151, 60, .inl f151)), (qf152, .inl (cf152, 60, .inl f152)), (qf153, .inl (cf153, 60, .inl f153))]) [0, 1, 2, 3, 4] (by decide) rfl
      have hK9 := hK.sub (tys' := [(cf150, .int), (cf151, .int), (cf152, .int), (cf153, .int)]) [0, 1, 2, 3] rfl
      exact W.iret hx hb hr (fun t ht hW => ⟨⟨(v142), (zs), rfl, ⟨rfl, hlen, hrs0⟩, by rw [ht]; exact hP9, va_K.moved hW.alike hK9, hD9⟩, hS.F ht⟩) hS.2.2 dX13_look_149
    · rw [if_pos c_10] at hsp
      refine lv_iconst (v := 0) hx hb dX13_look_141 (by decide) ?_
      refine lv_goto (tgt := 149) hx hb dX13_look_142 (by decide) ?_
      have hr0 := Option.some.inj hsp
      clear hsp
      subst hr0
      have hP9 := hP.sub (ws' := [(h0, .inr (13, zs)), (qf150, .inl (cf150, 60, .inl f150)), (qf151, .inl (cf151, 60, .inl f151)), (qf152, .inl (cf152, 60, .inl f152)), (qf153, .inl (cf153, 60, .inl f153))]) [0, 1, 2, 3, 4] rfl
      have hD9 := hD.sub (ws' := [(h0, .inr (13, zs)), (qf150, .inl (cf150, 60, .inl f150)), (qf151, .inl (cf151, 60, .inl f151)), (qf152, .inl (cf152, 60, .inl f152)), (qf153, .inl (cf153, 60, .inl f153))]) [0, 1, 2, 3, 4] (by decide) rfl
      have hK9 := hK.sub (tys' := [(cf150, .int), (cf151, .int), (cf152, .int), (cf153, .int)]) [0, 1, 2, 3] rfl
      exact W.iret hx hb hr (fun t ht hW => ⟨⟨(0), (zs), rfl, ⟨rfl, hlen, hrs0⟩, by rw [ht]; exact hP9, va_K.moved hW.alike hK9, hD9⟩, hS.F ht⟩) hS.2.2 dX13_look_149
  rw [if_neg hs_9] at hsp
  by_cases hs_11 : a1 = 5
  · rw [if_pos hs_11] at hsp
    refine lv_tableIn (tgt := 150) hx hb dX13_look_1 (by rw [hs_11]; decide) (by rw [hs_11]; decide) (off := 149) (by rw [hs_11]; rfl) (by decide) ?_
    refine lv_aload_n hx hb dX13_look_150 rfl (lv_at hl 0 rfl) ?_
    refine va_get (D := (dC, dI)) (ci := 13) (v := .int v138) (C := RX13) (T := TX13) (N := 155) hx hb hts uV_h9_X13 hown hK hP 0 rfl rfl 138 (by decide) (hts (.fieldLink RX13 858 "ClassMillModel" "state" "I") mw_h9_364) (fun _ h9 => h9) hf138 dX13_look_151 ?_
    refine lv_if_ne (tgt := 161) hx hb dX13_look_154 (by decide) (fun c_12 => ?_) (fun c_12 => ?_)
    · rw [if_neg c_12] at hsp
      refine lv_aload_n hx hb dX13_look_161 rfl (lv_at hl 0 rfl) ?_
      refine va_get (D := (dC, dI)) (ci := 13) (v := .int v149) (C := RX13) (T := TX13) (N := 155) hx hb hts uV_h9_X13 hown hK hP 0 rfl rfl 149 (by decide) (hts (.fieldLink RX13 1058 "ClassMillModel" "depth" "I") mw_h9_370) (fun _ h9 => h9) hf149 dX13_look_162 ?_
      have hr0 := Option.some.inj hsp
      clear hsp
      subst hr0
      have hP9 := hP.sub (ws' := [(h0, .inr (13, zs)), (qf150, .inl (cf150, 60, .inl f150)), (qf151, .inl (cf151, 60, .inl f151)), (qf152, .inl (cf152, 60, .inl f152)), (qf153, .inl (cf153, 60, .inl f153))]) [0, 1, 2, 3, 4] rfl
      have hD9 := hD.sub (ws' := [(h0, .inr (13, zs)), (qf150, .inl (cf150, 60, .inl f150)), (qf151, .inl (cf151, 60, .inl f151)), (qf152, .inl (cf152, 60, .inl f152)), (qf153, .inl (cf153, 60, .inl f153))]) [0, 1, 2, 3, 4] (by decide) rfl
      have hK9 := hK.sub (tys' := [(cf150, .int), (cf151, .int), (cf152, .int), (cf153, .int)]) [0, 1, 2, 3] rfl
      exact W.iret hx hb hr (fun t ht hW => ⟨⟨(v149), (zs), rfl, ⟨rfl, hlen, hrs0⟩, by rw [ht]; exact hP9, va_K.moved hW.alike hK9, hD9⟩, hS.F ht⟩) hS.2.2 dX13_look_165
    · rw [if_pos c_12] at hsp
      refine lv_iconst (v := 0) hx hb dX13_look_157 (by decide) ?_
      refine lv_goto (tgt := 165) hx hb dX13_look_158 (by decide) ?_
      have hr0 := Option.some.inj hsp
      clear hsp
      subst hr0
      have hP9 := hP.sub (ws' := [(h0, .inr (13, zs)), (qf150, .inl (cf150, 60, .inl f150)), (qf151, .inl (cf151, 60, .inl f151)), (qf152, .inl (cf152, 60, .inl f152)), (qf153, .inl (cf153, 60, .inl f153))]) [0, 1, 2, 3, 4] rfl
      have hD9 := hD.sub (ws' := [(h0, .inr (13, zs)), (qf150, .inl (cf150, 60, .inl f150)), (qf151, .inl (cf151, 60, .inl f151)), (qf152, .inl (cf152, 60, .inl f152)), (qf153, .inl (cf153, 60, .inl f153))]) [0, 1, 2, 3, 4] (by decide) rfl
      have hK9 := hK.sub (tys' := [(cf150, .int), (cf151, .int), (cf152, .int), (cf153, .int)]) [0, 1, 2, 3] rfl
      exact W.iret hx hb hr (fun t ht hW => ⟨⟨(0), (zs), rfl, ⟨rfl, hlen, hrs0⟩, by rw [ht]; exact hP9, va_K.moved hW.alike hK9, hD9⟩, hS.F ht⟩) hS.2.2 dX13_look_165
  rw [if_neg hs_11] at hsp
  by_cases hs_13 : a1 = 6
  · rw [if_pos hs_13] at hsp
    refine lv_tableIn (tgt := 166) hx hb dX13_look_1 (by rw [hs_13]; decide) (by rw [hs_13]; decide) (off := 165) (by rw [hs_13]; rfl) (by decide) ?_
    refine lv_aload_n hx hb dX13_look_166 rfl (lv_at hl 0 rfl) ?_
    refine va_get (D := (dC, dI)) (ci := 13) (v := .int v138) (C := RX13) (T := TX13) (N := 155) hx hb hts uV_h9_X13 hown hK hP 0 rfl rfl 138 (by decide) (hts (.fieldLink RX13 858 "ClassMillModel" "state" "I") mw_h9_364) (fun _ h9 => h9) hf138 dX13_look_167 ?_
    refine lv_if_ne (tgt := 177) hx hb dX13_look_170 (by decide) (fun c_14 => ?_) (fun c_14 => ?_)
    · rw [if_neg c_14] at hsp
      refine lv_aload_n hx hb dX13_look_177 rfl (lv_at hl 0 rfl) ?_
      refine va_get (D := (dC, dI)) (ci := 13) (v := .int v143) (C := RX13) (T := TX13) (N := 155) hx hb hts uV_h9_X13 hown hK hP 0 rfl rfl 143 (by decide) (hts (.fieldLink RX13 1055 "ClassMillModel" "printedMany" "I") mw_h9_369) (fun _ h9 => h9) hf143 dX13_look_178 ?_
      have hr0 := Option.some.inj hsp
      clear hsp
      subst hr0
      have hP9 := hP.sub (ws' := [(h0, .inr (13, zs)), (qf150, .inl (cf150, 60, .inl f150)), (qf151, .inl (cf151, 60, .inl f151)), (qf152, .inl (cf152, 60, .inl f152)), (qf153, .inl (cf153, 60, .inl f153))]) [0, 1, 2, 3, 4] rfl
      have hD9 := hD.sub (ws' := [(h0, .inr (13, zs)), (qf150, .inl (cf150, 60, .inl f150)), (qf151, .inl (cf151, 60, .inl f151)), (qf152, .inl (cf152, 60, .inl f152)), (qf153, .inl (cf153, 60, .inl f153))]) [0, 1, 2, 3, 4] (by decide) rfl
      have hK9 := hK.sub (tys' := [(cf150, .int), (cf151, .int), (cf152, .int), (cf153, .int)]) [0, 1, 2, 3] rfl
      exact W.iret hx hb hr (fun t ht hW => ⟨⟨(v143), (zs), rfl, ⟨rfl, hlen, hrs0⟩, by rw [ht]; exact hP9, va_K.moved hW.alike hK9, hD9⟩, hS.F ht⟩) hS.2.2 dX13_look_181
    · rw [if_pos c_14] at hsp
      refine lv_iconst (v := 0) hx hb dX13_look_173 (by decide) ?_
      refine lv_goto (tgt := 181) hx hb dX13_look_174 (by decide) ?_
      have hr0 := Option.some.inj hsp
      clear hsp
      subst hr0
      have hP9 := hP.sub (ws' := [(h0, .inr (13, zs)), (qf150, .inl (cf150, 60, .inl f150)), (qf151, .inl (cf151, 60, .inl f151)), (qf152, .inl (cf152, 60, .inl f152)), (qf153, .inl (cf153, 60, .inl f153))]) [0, 1, 2, 3, 4] rfl
      have hD9 := hD.sub (ws' := [(h0, .inr (13, zs)), (qf150, .inl (cf150, 60, .inl f150)), (qf151, .inl (cf151, 60, .inl f151)), (qf152, .inl (cf152, 60, .inl f152)), (qf153, .inl (cf153, 60, .inl f153))]) [0, 1, 2, 3, 4] (by decide) rfl
      have hK9 := hK.sub (tys' := [(cf150, .int), (cf151, .int), (cf152, .int), (cf153, .int)]) [0, 1, 2, 3] rfl
      exact W.iret hx hb hr (fun t ht hW => ⟨⟨(0), (zs), rfl, ⟨rfl, hlen, hrs0⟩, by rw [ht]; exact hP9, va_K.moved hW.alike hK9, hD9⟩, hS.F ht⟩) hS.2.2 dX13_look_181
  rw [if_neg hs_13] at hsp
  by_cases hs_15 : a1 = 7
  · rw [if_pos hs_15] at hsp
    refine lv_tableIn (tgt := 182) hx hb dX13_look_1 (by rw [hs_15]; decide) (by rw [hs_15]; decide) (off := 181) (by rw [hs_15]; rfl) (by decide) ?_
    refine lv_aload_n hx hb dX13_look_182 rfl (lv_at hl 0 rfl) ?_
    refine va_get (D := (dC, dI)) (ci := 13) (v := .int v138) (C := RX13) (T := TX13) (N := 155) hx hb hts uV_h9_X13 hown hK hP 0 rfl rfl 138 (by decide) (hts (.fieldLink RX13 858 "ClassMillModel" "state" "I") mw_h9_364) (fun _ h9 => h9) hf138 dX13_look_183 ?_
    refine lv_iconst (v := 1) hx hb dX13_look_186 (by decide) ?_
    refine lv_icmp_ne (tgt := 204) hx hb dX13_look_187 (by decide) (fun c_16 => ?_) (fun c_16 => ?_)
    · rw [if_neg c_16] at hsp
      refine lv_iconst (v := (-1)) hx hb dX13_look_204 (by decide) ?_
      have hr0 := Option.some.inj hsp
      clear hsp
      subst hr0
      have hP9 := hP.sub (ws' := [(h0, .inr (13, zs)), (qf150, .inl (cf150, 60, .inl f150)), (qf151, .inl (cf151, 60, .inl f151)), (qf152, .inl (cf152, 60, .inl f152)), (qf153, .inl (cf153, 60, .inl f153))]) [0, 1, 2, 3, 4] rfl
      have hD9 := hD.sub (ws' := [(h0, .inr (13, zs)), (qf150, .inl (cf150, 60, .inl f150)), (qf151, .inl (cf151, 60, .inl f151)), (qf152, .inl (cf152, 60, .inl f152)), (qf153, .inl (cf153, 60, .inl f153))]) [0, 1, 2, 3, 4] (by decide) rfl
      have hK9 := hK.sub (tys' := [(cf150, .int), (cf151, .int), (cf152, .int), (cf153, .int)]) [0, 1, 2, 3] rfl
      exact W.iret hx hb hr (fun t ht hW => ⟨⟨((-1)), (zs), rfl, ⟨rfl, hlen, hrs0⟩, by rw [ht]; exact hP9, va_K.moved hW.alike hK9, hD9⟩, hS.F ht⟩) hS.2.2 dX13_look_205
    · rw [if_pos c_16] at hsp
      refine lv_aload_n hx hb dX13_look_190 rfl (lv_at hl 0 rfl) ?_
      refine va_get (D := (dC, dI)) (ci := 13) (v := .ref qf150) (C := RX13) (T := TX13) (N := 155) hx hb hts uV_h9_X13 hown hK hP 0 rfl rfl 150 (by decide) (hts (.fieldLink RX13 294 "ClassMillModel" "runClass" "[I") mw_h9_387) (fun _ h9 => h9) hf150 dX13_look_191 ?_
      refine lv_aload_n hx hb dX13_look_194 rfl (lv_at hl 0 rfl) ?_
      refine va_get (D := (dC, dI)) (ci := 13) (v := .int v149) (C := RX13) (T := TX13) (N := 155) hx hb hts uV_h9_X13 hown hK hP 0 rfl rfl 149 (by decide) (hts (.fieldLink RX13 1058 "ClassMillModel" "depth" "I") mw_h9_370) (fun _ h9 => h9) hf149 dX13_look_195 ?_
      refine lv_iconst (v := 1) hx hb dX13_look_198 (by decide) ?_
      refine lv_isub hx hb dX13_look_199 ?_
      obtain ⟨hi_17, hsp⟩ := ox_in hsp
      refine va_iald hx hb hK hP 1 0 rfl rfl (i := (v149 - 1)) hi_17 dX13_look_200 ?_
      refine lv_goto (tgt := 205) hx hb dX13_look_201 (by decide) ?_
      have hr0 := Option.some.inj hsp
      clear hsp
      subst hr0
      have hP9 := hP.sub (ws' := [(h0, .inr (13, zs)), (qf150, .inl (cf150, 60, .inl f150)), (qf151, .inl (cf151, 60, .inl f151)), (qf152, .inl (cf152, 60, .inl f152)), (qf153, .inl (cf153, 60, .inl f153))]) [0, 1, 2, 3, 4] rfl
      have hD9 := hD.sub (ws' := [(h0, .inr (13, zs)), (qf150, .inl (cf150, 60, .inl f150)), (qf151, .inl (cf151, 60, .inl f151)), (qf152, .inl (cf152, 60, .inl f152)), (qf153, .inl (cf153, 60, .inl f153))]) [0, 1, 2, 3, 4] (by decide) rfl
      have hK9 := hK.sub (tys' := [(cf150, .int), (cf151, .int), (cf152, .int), (cf153, .int)]) [0, 1, 2, 3] rfl
      exact W.iret hx hb hr (fun t ht hW => ⟨⟨((f150 ((v149 - 1) : Int32).toNatClampNeg)), (zs), rfl, ⟨rfl, hlen, hrs0⟩, by rw [ht]; exact hP9, va_K.moved hW.alike hK9, hD9⟩, hS.F ht⟩) hS.2.2 dX13_look_205
  rw [if_neg hs_15] at hsp
  by_cases hs_18 : a1 = 8
  · rw [if_pos hs_18] at hsp
    refine lv_tableIn (tgt := 206) hx hb dX13_look_1 (by rw [hs_18]; decide) (by rw [hs_18]; decide) (off := 205) (by rw [hs_18]; rfl) (by decide) ?_
    refine lv_aload_n hx hb dX13_look_206 rfl (lv_at hl 0 rfl) ?_
    refine va_get (D := (dC, dI)) (ci := 13) (v := .int v138) (C := RX13) (T := TX13) (N := 155) hx hb hts uV_h9_X13 hown hK hP 0 rfl rfl 138 (by decide) (hts (.fieldLink RX13 858 "ClassMillModel" "state" "I") mw_h9_364) (fun _ h9 => h9) hf138 dX13_look_207 ?_
    refine lv_iconst (v := 1) hx hb dX13_look_210 (by decide) ?_
    refine lv_icmp_ne (tgt := 228) hx hb dX13_look_211 (by decide) (fun c_19 => ?_) (fun c_19 => ?_)
    · rw [if_neg c_19] at hsp
      refine lv_iconst (v := (-1)) hx hb dX13_look_228 (by decide) ?_
      have hr0 := Option.some.inj hsp
      clear hsp
      subst hr0
      have hP9 := hP.sub (ws' := [(h0, .inr (13, zs)), (qf150, .inl (cf150, 60, .inl f150)), (qf151, .inl (cf151, 60, .inl f151)), (qf152, .inl (cf152, 60, .inl f152)), (qf153, .inl (cf153, 60, .inl f153))]) [0, 1, 2, 3, 4] rfl
      have hD9 := hD.sub (ws' := [(h0, .inr (13, zs)), (qf150, .inl (cf150, 60, .inl f150)), (qf151, .inl (cf151, 60, .inl f151)), (qf152, .inl (cf152, 60, .inl f152)), (qf153, .inl (cf153, 60, .inl f153))]) [0, 1, 2, 3, 4] (by decide) rfl
      have hK9 := hK.sub (tys' := [(cf150, .int), (cf151, .int), (cf152, .int), (cf153, .int)]) [0, 1, 2, 3] rfl
      exact W.iret hx hb hr (fun t ht hW => ⟨⟨((-1)), (zs), rfl, ⟨rfl, hlen, hrs0⟩, by rw [ht]; exact hP9, va_K.moved hW.alike hK9, hD9⟩, hS.F ht⟩) hS.2.2 dX13_look_229
    · rw [if_pos c_19] at hsp
      refine lv_aload_n hx hb dX13_look_214 rfl (lv_at hl 0 rfl) ?_
      refine va_get (D := (dC, dI)) (ci := 13) (v := .ref qf151) (C := RX13) (T := TX13) (N := 155) hx hb hts uV_h9_X13 hown hK hP 0 rfl rfl 151 (by decide) (hts (.fieldLink RX13 297 "ClassMillModel" "runMethod" "[I") mw_h9_388) (fun _ h9 => h9) hf151 dX13_look_215 ?_
      refine lv_aload_n hx hb dX13_look_218 rfl (lv_at hl 0 rfl) ?_
      refine va_get (D := (dC, dI)) (ci := 13) (v := .int v149) (C := RX13) (T := TX13) (N := 155) hx hb hts uV_h9_X13 hown hK hP 0 rfl rfl 149 (by decide) (hts (.fieldLink RX13 1058 "ClassMillModel" "depth" "I") mw_h9_370) (fun _ h9 => h9) hf149 dX13_look_219 ?_
      refine lv_iconst (v := 1) hx hb dX13_look_222 (by decide) ?_
      refine lv_isub hx hb dX13_look_223 ?_
      obtain ⟨hi_20, hsp⟩ := ox_in hsp
      refine va_iald hx hb hK hP 2 1 rfl rfl (i := (v149 - 1)) hi_20 dX13_look_224 ?_
      refine lv_goto (tgt := 229) hx hb dX13_look_225 (by decide) ?_
      have hr0 := Option.some.inj hsp
      clear hsp
      subst hr0
      have hP9 := hP.sub (ws' := [(h0, .inr (13, zs)), (qf150, .inl (cf150, 60, .inl f150)), (qf151, .inl (cf151, 60, .inl f151)), (qf152, .inl (cf152, 60, .inl f152)), (qf153, .inl (cf153, 60, .inl f153))]) [0, 1, 2, 3, 4] rfl
      have hD9 := hD.sub (ws' := [(h0, .inr (13, zs)), (qf150, .inl (cf150, 60, .inl f150)), (qf151, .inl (cf151, 60, .inl f151)), (qf152, .inl (cf152, 60, .inl f152)), (qf153, .inl (cf153, 60, .inl f153))]) [0, 1, 2, 3, 4] (by decide) rfl
      have hK9 := hK.sub (tys' := [(cf150, .int), (cf151, .int), (cf152, .int), (cf153, .int)]) [0, 1, 2, 3] rfl
      exact W.iret hx hb hr (fun t ht hW => ⟨⟨((f151 ((v149 - 1) : Int32).toNatClampNeg)), (zs), rfl, ⟨rfl, hlen, hrs0⟩, by rw [ht]; exact hP9, va_K.moved hW.alike hK9, hD9⟩, hS.F ht⟩) hS.2.2 dX13_look_229
  rw [if_neg hs_18] at hsp
  by_cases hs_21 : a1 = 9
  · rw [if_pos hs_21] at hsp
    refine lv_tableIn (tgt := 230) hx hb dX13_look_1 (by rw [hs_21]; decide) (by rw [hs_21]; decide) (off := 229) (by rw [hs_21]; rfl) (by decide) ?_
    refine lv_aload_n hx hb dX13_look_230 rfl (lv_at hl 0 rfl) ?_
    refine va_get (D := (dC, dI)) (ci := 13) (v := .int v138) (C := RX13) (T := TX13) (N := 155) hx hb hts uV_h9_X13 hown hK hP 0 rfl rfl 138 (by decide) (hts (.fieldLink RX13 858 "ClassMillModel" "state" "I") mw_h9_364) (fun _ h9 => h9) hf138 dX13_look_231 ?_
    refine lv_iconst (v := 1) hx hb dX13_look_234 (by decide) ?_
    refine lv_icmp_ne (tgt := 252) hx hb dX13_look_235 (by decide) (fun c_22 => ?_) (fun c_22 => ?_)
    · rw [if_neg c_22] at hsp
      refine lv_iconst (v := (-1)) hx hb dX13_look_252 (by decide) ?_
      have hr0 := Option.some.inj hsp
      clear hsp
      subst hr0
      have hP9 := hP.sub (ws' := [(h0, .inr (13, zs)), (qf150, .inl (cf150, 60, .inl f150)), (qf151, .inl (cf151, 60, .inl f151)), (qf152, .inl (cf152, 60, .inl f152)), (qf153, .inl (cf153, 60, .inl f153))]) [0, 1, 2, 3, 4] rfl
      have hD9 := hD.sub (ws' := [(h0, .inr (13, zs)), (qf150, .inl (cf150, 60, .inl f150)), (qf151, .inl (cf151, 60, .inl f151)), (qf152, .inl (cf152, 60, .inl f152)), (qf153, .inl (cf153, 60, .inl f153))]) [0, 1, 2, 3, 4] (by decide) rfl
      have hK9 := hK.sub (tys' := [(cf150, .int), (cf151, .int), (cf152, .int), (cf153, .int)]) [0, 1, 2, 3] rfl
      exact W.iret hx hb hr (fun t ht hW => ⟨⟨((-1)), (zs), rfl, ⟨rfl, hlen, hrs0⟩, by rw [ht]; exact hP9, va_K.moved hW.alike hK9, hD9⟩, hS.F ht⟩) hS.2.2 dX13_look_253
    · rw [if_pos c_22] at hsp
      refine lv_aload_n hx hb dX13_look_238 rfl (lv_at hl 0 rfl) ?_
      refine va_get (D := (dC, dI)) (ci := 13) (v := .ref qf152) (C := RX13) (T := TX13) (N := 155) hx hb hts uV_h9_X13 hown hK hP 0 rfl rfl 152 (by decide) (hts (.fieldLink RX13 300 "ClassMillModel" "runPlace" "[I") mw_h9_389) (fun _ h9 => h9) hf152 dX13_look_239 ?_
      refine lv_aload_n hx hb dX13_look_242 rfl (lv_at hl 0 rfl) ?_
      refine va_get (D := (dC, dI)) (ci := 13) (v := .int v149) (C := RX13) (T := TX13) (N := 155) hx hb hts uV_h9_X13 hown hK hP 0 rfl rfl 149 (by decide) (hts (.fieldLink RX13 1058 "ClassMillModel" "depth" "I") mw_h9_370) (fun _ h9 => h9) hf149 dX13_look_243 ?_
      refine lv_iconst (v := 1) hx hb dX13_look_246 (by decide) ?_
      refine lv_isub hx hb dX13_look_247 ?_
      obtain ⟨hi_23, hsp⟩ := ox_in hsp
      refine va_iald hx hb hK hP 3 2 rfl rfl (i := (v149 - 1)) hi_23 dX13_look_248 ?_
      refine lv_goto (tgt := 253) hx hb dX13_look_249 (by decide) ?_
      have hr0 := Option.some.inj hsp
      clear hsp
      subst hr0
      have hP9 := hP.sub (ws' := [(h0, .inr (13, zs)), (qf150, .inl (cf150, 60, .inl f150)), (qf151, .inl (cf151, 60, .inl f151)), (qf152, .inl (cf152, 60, .inl f152)), (qf153, .inl (cf153, 60, .inl f153))]) [0, 1, 2, 3, 4] rfl
      have hD9 := hD.sub (ws' := [(h0, .inr (13, zs)), (qf150, .inl (cf150, 60, .inl f150)), (qf151, .inl (cf151, 60, .inl f151)), (qf152, .inl (cf152, 60, .inl f152)), (qf153, .inl (cf153, 60, .inl f153))]) [0, 1, 2, 3, 4] (by decide) rfl
      have hK9 := hK.sub (tys' := [(cf150, .int), (cf151, .int), (cf152, .int), (cf153, .int)]) [0, 1, 2, 3] rfl
      exact W.iret hx hb hr (fun t ht hW => ⟨⟨((f152 ((v149 - 1) : Int32).toNatClampNeg)), (zs), rfl, ⟨rfl, hlen, hrs0⟩, by rw [ht]; exact hP9, va_K.moved hW.alike hK9, hD9⟩, hS.F ht⟩) hS.2.2 dX13_look_253
  rw [if_neg hs_21] at hsp
  by_cases hs_24 : a1 = 10
  · rw [if_pos hs_24] at hsp
    refine lv_tableIn (tgt := 254) hx hb dX13_look_1 (by rw [hs_24]; decide) (by rw [hs_24]; decide) (off := 253) (by rw [hs_24]; rfl) (by decide) ?_
    refine lv_aload_n hx hb dX13_look_254 rfl (lv_at hl 0 rfl) ?_
    refine va_get (D := (dC, dI)) (ci := 13) (v := .int v138) (C := RX13) (T := TX13) (N := 155) hx hb hts uV_h9_X13 hown hK hP 0 rfl rfl 138 (by decide) (hts (.fieldLink RX13 858 "ClassMillModel" "state" "I") mw_h9_364) (fun _ h9 => h9) hf138 dX13_look_255 ?_
    refine lv_iconst (v := 1) hx hb dX13_look_258 (by decide) ?_
    refine lv_icmp_ne (tgt := 276) hx hb dX13_look_259 (by decide) (fun c_25 => ?_) (fun c_25 => ?_)
    · rw [if_neg c_25] at hsp
      refine lv_iconst (v := (-1)) hx hb dX13_look_276 (by decide) ?_
      have hr0 := Option.some.inj hsp
      clear hsp
      subst hr0
      have hP9 := hP.sub (ws' := [(h0, .inr (13, zs)), (qf150, .inl (cf150, 60, .inl f150)), (qf151, .inl (cf151, 60, .inl f151)), (qf152, .inl (cf152, 60, .inl f152)), (qf153, .inl (cf153, 60, .inl f153))]) [0, 1, 2, 3, 4] rfl
      have hD9 := hD.sub (ws' := [(h0, .inr (13, zs)), (qf150, .inl (cf150, 60, .inl f150)), (qf151, .inl (cf151, 60, .inl f151)), (qf152, .inl (cf152, 60, .inl f152)), (qf153, .inl (cf153, 60, .inl f153))]) [0, 1, 2, 3, 4] (by decide) rfl
      have hK9 := hK.sub (tys' := [(cf150, .int), (cf151, .int), (cf152, .int), (cf153, .int)]) [0, 1, 2, 3] rfl
      exact W.iret hx hb hr (fun t ht hW => ⟨⟨((-1)), (zs), rfl, ⟨rfl, hlen, hrs0⟩, by rw [ht]; exact hP9, va_K.moved hW.alike hK9, hD9⟩, hS.F ht⟩) hS.2.2 dX13_look_277
    · rw [if_pos c_25] at hsp
      refine lv_aload_n hx hb dX13_look_262 rfl (lv_at hl 0 rfl) ?_
      refine va_get (D := (dC, dI)) (ci := 13) (v := .ref qf153) (C := RX13) (T := TX13) (N := 155) hx hb hts uV_h9_X13 hown hK hP 0 rfl rfl 153 (by decide) (hts (.fieldLink RX13 303 "ClassMillModel" "runStack" "[I") mw_h9_390) (fun _ h9 => h9) hf153 dX13_look_263 ?_
      refine lv_aload_n hx hb dX13_look_266 rfl (lv_at hl 0 rfl) ?_
      refine va_get (D := (dC, dI)) (ci := 13) (v := .int v149) (C := RX13) (T := TX13) (N := 155) hx hb hts uV_h9_X13 hown hK hP 0 rfl rfl 149 (by decide) (hts (.fieldLink RX13 1058 "ClassMillModel" "depth" "I") mw_h9_370) (fun _ h9 => h9) hf149 dX13_look_267 ?_
      refine lv_iconst (v := 1) hx hb dX13_look_270 (by decide) ?_
      refine lv_isub hx hb dX13_look_271 ?_
      obtain ⟨hi_26, hsp⟩ := ox_in hsp
      refine va_iald hx hb hK hP 4 3 rfl rfl (i := (v149 - 1)) hi_26 dX13_look_272 ?_
      refine lv_goto (tgt := 277) hx hb dX13_look_273 (by decide) ?_
      have hr0 := Option.some.inj hsp
      clear hsp
      subst hr0
      have hP9 := hP.sub (ws' := [(h0, .inr (13, zs)), (qf150, .inl (cf150, 60, .inl f150)), (qf151, .inl (cf151, 60, .inl f151)), (qf152, .inl (cf152, 60, .inl f152)), (qf153, .inl (cf153, 60, .inl f153))]) [0, 1, 2, 3, 4] rfl
      have hD9 := hD.sub (ws' := [(h0, .inr (13, zs)), (qf150, .inl (cf150, 60, .inl f150)), (qf151, .inl (cf151, 60, .inl f151)), (qf152, .inl (cf152, 60, .inl f152)), (qf153, .inl (cf153, 60, .inl f153))]) [0, 1, 2, 3, 4] (by decide) rfl
      have hK9 := hK.sub (tys' := [(cf150, .int), (cf151, .int), (cf152, .int), (cf153, .int)]) [0, 1, 2, 3] rfl
      exact W.iret hx hb hr (fun t ht hW => ⟨⟨((f153 ((v149 - 1) : Int32).toNatClampNeg)), (zs), rfl, ⟨rfl, hlen, hrs0⟩, by rw [ht]; exact hP9, va_K.moved hW.alike hK9, hD9⟩, hS.F ht⟩) hS.2.2 dX13_look_277
  rw [if_neg hs_24] at hsp
  by_cases hs_27 : a1 = 11
  · rw [if_pos hs_27] at hsp
    refine lv_tableIn (tgt := 278) hx hb dX13_look_1 (by rw [hs_27]; decide) (by rw [hs_27]; decide) (off := 277) (by rw [hs_27]; rfl) (by decide) ?_
    refine lv_aload_n hx hb dX13_look_278 rfl (lv_at hl 0 rfl) ?_
    refine va_get (D := (dC, dI)) (ci := 13) (v := .int v98) (C := RX13) (T := TX13) (N := 155) hx hb hts uV_h9_X13 hown hK hP 0 rfl rfl 98 (by decide) (hts (.fieldLink RX13 833 "ClassMillModel" "there" "I") mw_h9_276) (fun _ h9 => h9) hf98 dX13_look_279 ?_
    have hr0 := Option.some.inj hsp
    clear hsp
    subst hr0
    have hP9 := hP.sub (ws' := [(h0, .inr (13, zs)), (qf150, .inl (cf150, 60, .inl f150)), (qf151, .inl (cf151, 60, .inl f151)), (qf152, .inl (cf152, 60, .inl f152)), (qf153, .inl (cf153, 60, .inl f153))]) [0, 1, 2, 3, 4] rfl
    have hD9 := hD.sub (ws' := [(h0, .inr (13, zs)), (qf150, .inl (cf150, 60, .inl f150)), (qf151, .inl (cf151, 60, .inl f151)), (qf152, .inl (cf152, 60, .inl f152)), (qf153, .inl (cf153, 60, .inl f153))]) [0, 1, 2, 3, 4] (by decide) rfl
    have hK9 := hK.sub (tys' := [(cf150, .int), (cf151, .int), (cf152, .int), (cf153, .int)]) [0, 1, 2, 3] rfl
    exact W.iret hx hb hr (fun t ht hW => ⟨⟨(v98), (zs), rfl, ⟨rfl, hlen, hrs0⟩, by rw [ht]; exact hP9, va_K.moved hW.alike hK9, hD9⟩, hS.F ht⟩) hS.2.2 dX13_look_282
  rw [if_neg hs_27] at hsp
  by_cases hs_28 : a1 = 12
  · rw [if_pos hs_28] at hsp
    refine lv_tableIn (tgt := 283) hx hb dX13_look_1 (by rw [hs_28]; decide) (by rw [hs_28]; decide) (off := 282) (by rw [hs_28]; rfl) (by decide) ?_
    refine lv_aload_n hx hb dX13_look_283 rfl (lv_at hl 0 rfl) ?_
    refine va_get (D := (dC, dI)) (ci := 13) (v := .int v99) (C := RX13) (T := TX13) (N := 155) hx hb hts uV_h9_X13 hown hK hP 0 rfl rfl 99 (by decide) (hts (.fieldLink RX13 855 "ClassMillModel" "verified" "Z") mw_h9_363) (fun _ h9 => h9) hf99 dX13_look_284 ?_
    refine lv_if_eq (tgt := 294) hx hb dX13_look_287 (by decide) (fun c_29 => ?_) (fun c_29 => ?_)
    · rw [if_pos c_29] at hsp
      refine lv_iconst (v := 0) hx hb dX13_look_294 (by decide) ?_
      have hr0 := Option.some.inj hsp
      clear hsp
      subst hr0
      have hP9 := hP.sub (ws' := [(h0, .inr (13, zs)), (qf150, .inl (cf150, 60, .inl f150)), (qf151, .inl (cf151, 60, .inl f151)), (qf152, .inl (cf152, 60, .inl f152)), (qf153, .inl (cf153, 60, .inl f153))]) [0, 1, 2, 3, 4] rfl
      have hD9 := hD.sub (ws' := [(h0, .inr (13, zs)), (qf150, .inl (cf150, 60, .inl f150)), (qf151, .inl (cf151, 60, .inl f151)), (qf152, .inl (cf152, 60, .inl f152)), (qf153, .inl (cf153, 60, .inl f153))]) [0, 1, 2, 3, 4] (by decide) rfl
      have hK9 := hK.sub (tys' := [(cf150, .int), (cf151, .int), (cf152, .int), (cf153, .int)]) [0, 1, 2, 3] rfl
      exact W.iret hx hb hr (fun t ht hW => ⟨⟨(0), (zs), rfl, ⟨rfl, hlen, hrs0⟩, by rw [ht]; exact hP9, va_K.moved hW.alike hK9, hD9⟩, hS.F ht⟩) hS.2.2 dX13_look_295
    · rw [if_neg c_29] at hsp
      refine lv_iconst (v := 1) hx hb dX13_look_290 (by decide) ?_
      refine lv_goto (tgt := 295) hx hb dX13_look_291 (by decide) ?_
      have hr0 := Option.some.inj hsp
      clear hsp
      subst hr0
      have hP9 := hP.sub (ws' := [(h0, .inr (13, zs)), (qf150, .inl (cf150, 60, .inl f150)), (qf151, .inl (cf151, 60, .inl f151)), (qf152, .inl (cf152, 60, .inl f152)), (qf153, .inl (cf153, 60, .inl f153))]) [0, 1, 2, 3, 4] rfl
      have hD9 := hD.sub (ws' := [(h0, .inr (13, zs)), (qf150, .inl (cf150, 60, .inl f150)), (qf151, .inl (cf151, 60, .inl f151)), (qf152, .inl (cf152, 60, .inl f152)), (qf153, .inl (cf153, 60, .inl f153))]) [0, 1, 2, 3, 4] (by decide) rfl
      have hK9 := hK.sub (tys' := [(cf150, .int), (cf151, .int), (cf152, .int), (cf153, .int)]) [0, 1, 2, 3] rfl
      exact W.iret hx hb hr (fun t ht hW => ⟨⟨(1), (zs), rfl, ⟨rfl, hlen, hrs0⟩, by rw [ht]; exact hP9, va_K.moved hW.alike hK9, hD9⟩, hS.F ht⟩) hS.2.2 dX13_look_295
  rw [if_neg hs_28] at hsp
  by_cases hs_30 : a1 = 13
  · rw [if_pos hs_30] at hsp
    refine lv_tableIn (tgt := 296) hx hb dX13_look_1 (by rw [hs_30]; decide) (by rw [hs_30]; decide) (off := 295) (by rw [hs_30]; rfl) (by decide) ?_
    refine lv_aload_n hx hb dX13_look_296 rfl (lv_at hl 0 rfl) ?_
    refine va_get (D := (dC, dI)) (ci := 13) (v := .int v1) (C := RX13) (T := TX13) (N := 155) hx hb hts uV_h9_X13 hown hK hP 0 rfl rfl 1 (by decide) (hts (.fieldLink RX13 312 "ClassMillModel" "taped" "I") mw_h9_391) (fun _ h9 => h9) hf1 dX13_look_297 ?_
    have hr0 := Option.some.inj hsp
    clear hsp
    subst hr0
    have hP9 := hP.sub (ws' := [(h0, .inr (13, zs)), (qf150, .inl (cf150, 60, .inl f150)), (qf151, .inl (cf151, 60, .inl f151)), (qf152, .inl (cf152, 60, .inl f152)), (qf153, .inl (cf153, 60, .inl f153))]) [0, 1, 2, 3, 4] rfl
    have hD9 := hD.sub (ws' := [(h0, .inr (13, zs)), (qf150, .inl (cf150, 60, .inl f150)), (qf151, .inl (cf151, 60, .inl f151)), (qf152, .inl (cf152, 60, .inl f152)), (qf153, .inl (cf153, 60, .inl f153))]) [0, 1, 2, 3, 4] (by decide) rfl
    have hK9 := hK.sub (tys' := [(cf150, .int), (cf151, .int), (cf152, .int), (cf153, .int)]) [0, 1, 2, 3] rfl
    exact W.iret hx hb hr (fun t ht hW => ⟨⟨(v1), (zs), rfl, ⟨rfl, hlen, hrs0⟩, by rw [ht]; exact hP9, va_K.moved hW.alike hK9, hD9⟩, hS.F ht⟩) hS.2.2 dX13_look_300
  rw [if_neg hs_30] at hsp
  refine lv_tableOut (tgt := 301) hx hb dX13_look_1 (by have a0 := lv_neT hs_1 (a := 0) rfl; have a1 := lv_neT hs_2 (a := 1) rfl; have a2 := lv_neT hs_5 (a := 2) rfl; have a3 := lv_neT hs_7 (a := 3) rfl; have a4 := lv_neT hs_9 (a := 4) rfl; have a5 := lv_neT hs_11 (a := 5) rfl; have a6 := lv_neT hs_13 (a := 6) rfl; have a7 := lv_neT hs_15 (a := 7) rfl; have a8 := lv_neT hs_18 (a := 8) rfl; have a9 := lv_neT hs_21 (a := 9) rfl; have a10 := lv_neT hs_24 (a := 10) rfl; have a11 := lv_neT hs_27 (a := 11) rfl; have a12 := lv_neT hs_28 (a := 12) rfl; have a13 := lv_neT hs_30 (a := 13) rfl; omega) (by decide) ?_
  refine lv_iconst (v := (-1)) hx hb dX13_look_301 (by decide) ?_
  have hr0 := Option.some.inj hsp
  clear hsp
  subst hr0
  have hP9 := hP.sub (ws' := [(h0, .inr (13, zs)), (qf150, .inl (cf150, 60, .inl f150)), (qf151, .inl (cf151, 60, .inl f151)), (qf152, .inl (cf152, 60, .inl f152)), (qf153, .inl (cf153, 60, .inl f153))]) [0, 1, 2, 3, 4] rfl
  have hD9 := hD.sub (ws' := [(h0, .inr (13, zs)), (qf150, .inl (cf150, 60, .inl f150)), (qf151, .inl (cf151, 60, .inl f151)), (qf152, .inl (cf152, 60, .inl f152)), (qf153, .inl (cf153, 60, .inl f153))]) [0, 1, 2, 3, 4] (by decide) rfl
  have hK9 := hK.sub (tys' := [(cf150, .int), (cf151, .int), (cf152, .int), (cf153, .int)]) [0, 1, 2, 3] rfl
  exact W.iret hx hb hr (fun t ht hW => ⟨⟨((-1)), (zs), rfl, ⟨rfl, hlen, hrs0⟩, by rw [ht]; exact hP9, va_K.moved hW.alike hK9, hD9⟩, hS.F ht⟩) hS.2.2 dX13_look_302
def jn_vm_heads_167 (nf : Nat) (v9 : Int32) (v10 : Int32) (v24 : Int32) (v28 : Int32) (f25 : Nat → Int32) (f5 : Nat → Int32) (f6 : Nat → Int32) (f2 : Nat → Int32) (f27 : Nat → Int32) (f26 : Nat → Int32) (f31 : Nat → Int32) (f32 : Nat → Int32) (f33 : Nat → Int32) (f35 : Nat → Int32) (f34 : Nat → Int32) (f29 : Nat → Int32) (f30 : Nat → Int32) (f37 : Nat → Int32) (f36 : Nat → Int32) (f40 : Nat → Int32) (f41 : Nat → Int32) (f42 : Nat → Int32) (f44 : Nat → Int32) (f43 : Nat → Int32) (nS477 : Nat) (fS477 : Nat → Int32) (kk_50 : Int32 → (Nat → Int32) → (Nat → Int32) → (Nat → Int32) → Int32 → Int32 → Option ((Nat → Int32) × (Nat → Int32) × (Nat → Int32) × Int32 × Int32)) (l1_167 : Int32) (l2_167 : Int32) (g27_167 : Nat → Int32) (g35_167 : Nat → Int32) (g44_167 : Nat → Int32) (x10_167 : Int32) (x9_167 : Int32) : Option ((Nat → Int32) × (Nat → Int32) × (Nat → Int32) × Int32 × Int32) := (if l2_167 = (-1) then (kk_50 (l1_167 + 1) g27_167 g35_167 g44_167 x10_167 x9_167) else (if l1_167 < 0 then none else if 400 ≤ (l1_167 : Int32).toNatClampNeg then none else ((sp_tm_wrong nf 6 (f26 (l1_167 : Int32).toNatClampNeg) x9_167 x10_167 f5).bind (fun p1 => (kk_50 (l1_167 + 1) g27_167 g35_167 g44_167 p1.1 p1.2)))))
def lp_vm_heads_139 (nf n : Nat) (v9 : Int32) (v10 : Int32) (v24 : Int32) (v28 : Int32) (f25 : Nat → Int32) (f5 : Nat → Int32) (f6 : Nat → Int32) (f2 : Nat → Int32) (f27 : Nat → Int32) (f26 : Nat → Int32) (f31 : Nat → Int32) (f32 : Nat → Int32) (f33 : Nat → Int32) (f35 : Nat → Int32) (f34 : Nat → Int32) (f29 : Nat → Int32) (f30 : Nat → Int32) (f37 : Nat → Int32) (f36 : Nat → Int32) (f40 : Nat → Int32) (f41 : Nat → Int32) (f42 : Nat → Int32) (f44 : Nat → Int32) (f43 : Nat → Int32) (nS477 : Nat) (fS477 : Nat → Int32) (kk_50 : Int32 → (Nat → Int32) → (Nat → Int32) → (Nat → Int32) → Int32 → Int32 → Option ((Nat → Int32) × (Nat → Int32) × (Nat → Int32) × Int32 × Int32)) (l1_139 : Int32) (l2_139 : Int32) (l3_139 : Int32) (g27_139 : Nat → Int32) (g35_139 : Nat → Int32) (g44_139 : Nat → Int32) (x10_139 : Int32) (x9_139 : Int32) : Option ((Nat → Int32) × (Nat → Int32) × (Nat → Int32) × Int32 × Int32) := match n with
  | 0 => none
  | n + 1 => (if (v24 + 9) < l3_139 then (jn_vm_heads_167 nf v9 v10 v24 v28 f25 f5 f6 f2 f27 f26 f31 f32 f33 f35 f34 f29 f30 f37 f36 f40 f41 f42 f44 f43 nS477 fS477 kk_50 l1_139 l2_139 g27_139 g35_139 g44_139 x10_139 x9_139) else (if l2_139 = (-1) then (jn_vm_heads_167 nf v9 v10 v24 v28 f25 f5 f6 f2 f27 f26 f31 f32 f33 f35 f34 f29 f30 f37 f36 f40 f41 f42 f44 f43 nS477 fS477 kk_50 l1_139 l2_139 g27_139 g35_139 g44_139 x10_139 x9_139) else ((sp_tm_upperOf nf l2_139 g27_139).bind (fun p1 => (lp_vm_heads_139 nf n v9 v10 v24 v28 f25 f5 f6 f2 f27 f26 f31 f32 f33 f35 f34 f29 f30 f37 f36 f40 f41 f42 f44 f43 nS477 fS477 kk_50 l1_139 p1 (l3_139 + 1) g27_139 g35_139 g44_139 x10_139 x9_139)))))
def jn_vm_heads_132 (nf : Nat) (v9 : Int32) (v10 : Int32) (v24 : Int32) (v28 : Int32) (f25 : Nat → Int32) (f5 : Nat → Int32) (f6 : Nat → Int32) (f2 : Nat → Int32) (f27 : Nat → Int32) (f26 : Nat → Int32) (f31 : Nat → Int32) (f32 : Nat → Int32) (f33 : Nat → Int32) (f35 : Nat → Int32) (f34 : Nat → Int32) (f29 : Nat → Int32) (f30 : Nat → Int32) (f37 : Nat → Int32) (f36 : Nat → Int32) (f40 : Nat → Int32) (f41 : Nat → Int32) (f42 : Nat → Int32) (f44 : Nat → Int32) (f43 : Nat → Int32) (nS477 : Nat) (fS477 : Nat → Int32) (kk_50 : Int32 → (Nat → Int32) → (Nat → Int32) → (Nat → Int32) → Int32 → Int32 → Option ((Nat → Int32) × (Nat → Int32) × (Nat → Int32) × Int32 × Int32)) (l1_132 : Int32) (g27_132 : Nat → Int32) (g35_132 : Nat → Int32) (g44_132 : Nat → Int32) (x10_132 : Int32) (x9_132 : Int32) : Option ((Nat → Int32) × (Nat → Int32) × (Nat → Int32) × Int32 × Int32) := (lp_vm_heads_139 nf nf v9 v10 v24 v28 f25 f5 f6 f2 f27 f26 f31 f32 f33 f35 f34 f29 f30 f37 f36 f40 f41 f42 f44 f43 nS477 fS477 kk_50 l1_132 (8 + l1_132) 0 g27_132 g35_132 g44_132 x10_132 x9_132)
def jn_vm_heads_111 (nf : Nat) (v9 : Int32) (v10 : Int32) (v24 : Int32) (v28 : Int32) (f25 : Nat → Int32) (f5 : Nat → Int32) (f6 : Nat → Int32) (f2 : Nat → Int32) (f27 : Nat → Int32) (f26 : Nat → Int32) (f31 : Nat → Int32) (f32 : Nat → Int32) (f33 : Nat → Int32) (f35 : Nat → Int32) (f34 : Nat → Int32) (f29 : Nat → Int32) (f30 : Nat → Int32) (f37 : Nat → Int32) (f36 : Nat → Int32) (f40 : Nat → Int32) (f41 : Nat → Int32) (f42 : Nat → Int32) (f44 : Nat → Int32) (f43 : Nat → Int32) (nS477 : Nat) (fS477 : Nat → Int32) (kk_50 : Int32 → (Nat → Int32) → (Nat → Int32) → (Nat → Int32) → Int32 → Int32 → Option ((Nat → Int32) × (Nat → Int32) × (Nat → Int32) × Int32 × Int32)) (l1_111 : Int32) (g27_111 : Nat → Int32) (g35_111 : Nat → Int32) (g44_111 : Nat → Int32) (x10_111 : Int32) (x9_111 : Int32) : Option ((Nat → Int32) × (Nat → Int32) × (Nat → Int32) × Int32 × Int32) := (if l1_111 < 0 then none else if 400 ≤ (l1_111 : Int32).toNatClampNeg then none else (if (g27_111 (l1_111 : Int32).toNatClampNeg) = (-1) then (if l1_111 < 0 then none else if 400 ≤ (l1_111 : Int32).toNatClampNeg then none else ((sp_tm_wrong nf 5 (f26 (l1_111 : Int32).toNatClampNeg) x9_111 x10_111 f5).bind (fun p1 => (jn_vm_heads_132 nf v9 v10 v24 v28 f25 f5 f6 f2 f27 f26 f31 f32 f33 f35 f34 f29 f30 f37 f36 f40 f41 f42 f44 f43 nS477 fS477 kk_50 l1_111 g27_111 g35_111 g44_111 p1.1 p1.2)))) else (jn_vm_heads_132 nf v9 v10 v24 v28 f25 f5 f6 f2 f27 f26 f31 f32 f33 f35 f34 f29 f30 f37 f36 f40 f41 f42 f44 f43 nS477 fS477 kk_50 l1_111 g27_111 g35_111 g44_111 x10_111 x9_111)))
def jn_vm_heads_83 (nf : Nat) (v9 : Int32) (v10 : Int32) (v24 : Int32) (v28 : Int32) (f25 : Nat → Int32) (f5 : Nat → Int32) (f6 : Nat → Int32) (f2 : Nat → Int32) (f27 : Nat → Int32) (f26 : Nat → Int32) (f31 : Nat → Int32) (f32 : Nat → Int32) (f33 : Nat → Int32) (f35 : Nat → Int32) (f34 : Nat → Int32) (f29 : Nat → Int32) (f30 : Nat → Int32) (f37 : Nat → Int32) (f36 : Nat → Int32) (f40 : Nat → Int32) (f41 : Nat → Int32) (f42 : Nat → Int32) (f44 : Nat → Int32) (f43 : Nat → Int32) (nS477 : Nat) (fS477 : Nat → Int32) (kk_50 : Int32 → (Nat → Int32) → (Nat → Int32) → (Nat → Int32) → Int32 → Int32 → Option ((Nat → Int32) × (Nat → Int32) × (Nat → Int32) × Int32 × Int32)) (l1_83 : Int32) (g27_83 : Nat → Int32) (g35_83 : Nat → Int32) (g44_83 : Nat → Int32) (x10_83 : Int32) (x9_83 : Int32) : Option ((Nat → Int32) × (Nat → Int32) × (Nat → Int32) × Int32 × Int32) := (if l1_83 < 0 then none else if 400 ≤ (l1_83 : Int32).toNatClampNeg then none else ((sp_vm_classOf nf (f25 (l1_83 : Int32).toNatClampNeg) v24 f5 f6 f2 f25 nS477 fS477).bind (fun p1 => (if p1 = (8 + l1_83) then (jn_vm_heads_111 nf v9 v10 v24 v28 f25 f5 f6 f2 f27 f26 f31 f32 f33 f35 f34 f29 f30 f37 f36 f40 f41 f42 f44 f43 nS477 fS477 kk_50 l1_83 g27_83 g35_83 g44_83 x10_83 x9_83) else (if l1_83 < 0 then none else if 400 ≤ (l1_83 : Int32).toNatClampNeg then none else ((sp_tm_wrong nf 4 (f25 (l1_83 : Int32).toNatClampNeg) x9_83 x10_83 f5).bind (fun p2 => (jn_vm_heads_111 nf v9 v10 v24 v28 f25 f5 f6 f2 f27 f26 f31 f32 f33 f35 f34 f29 f30 f37 f36 f40 f41 f42 f44 f43 nS477 fS477 kk_50 l1_83 g27_83 g35_83 g44_83 p2.1 p2.2))))))))
def lp_vm_heads_220 (nf n : Nat) (v9 : Int32) (v10 : Int32) (v24 : Int32) (v28 : Int32) (f25 : Nat → Int32) (f5 : Nat → Int32) (f6 : Nat → Int32) (f2 : Nat → Int32) (f27 : Nat → Int32) (f26 : Nat → Int32) (f31 : Nat → Int32) (f32 : Nat → Int32) (f33 : Nat → Int32) (f35 : Nat → Int32) (f34 : Nat → Int32) (f29 : Nat → Int32) (f30 : Nat → Int32) (f37 : Nat → Int32) (f36 : Nat → Int32) (f40 : Nat → Int32) (f41 : Nat → Int32) (f42 : Nat → Int32) (f44 : Nat → Int32) (f43 : Nat → Int32) (nS477 : Nat) (fS477 : Nat → Int32)  (l1_220 : Int32) (g27_220 : Nat → Int32) (g35_220 : Nat → Int32) (g44_220 : Nat → Int32) (x10_220 : Int32) (x9_220 : Int32) : Option ((Nat → Int32) × (Nat → Int32) × (Nat → Int32) × Int32 × Int32) := match n with
  | 0 => none
  | n + 1 => (if v28 ≤ l1_220 then (some (g27_220, g35_220, g44_220, x10_220, x9_220)) else (if x9_220 = 0 then (if l1_220 < 0 then none else if 800 ≤ (l1_220 : Int32).toNatClampNeg then none else (if (f30 (l1_220 : Int32).toNatClampNeg) ≤ 0 then (lp_vm_heads_220 nf n v9 v10 v24 v28 f25 f5 f6 f2 f27 f26 f31 f32 f33 f35 f34 f29 f30 f37 f36 f40 f41 f42 f44 f43 nS477 fS477 (l1_220 + 1) g27_220 g35_220 g44_220 x10_220 x9_220) else ((sp_vm_overrides nf l1_220 x9_220 x10_220 v28 f29 g27_220 f34 f30 f6 f5 f2 g35_220 f37 f36 g44_220).bind (fun p1 => (lp_vm_heads_220 nf n v9 v10 v24 v28 f25 f5 f6 f2 f27 f26 f31 f32 f33 f35 f34 f29 f30 f37 f36 f40 f41 f42 f44 f43 nS477 fS477 (l1_220 + 1) g27_220 g35_220 g44_220 p1.1 p1.2))))) else (some (g27_220, g35_220, g44_220, x10_220, x9_220))))
def jn_vm_heads_218 (nf : Nat) (v9 : Int32) (v10 : Int32) (v24 : Int32) (v28 : Int32) (f25 : Nat → Int32) (f5 : Nat → Int32) (f6 : Nat → Int32) (f2 : Nat → Int32) (f27 : Nat → Int32) (f26 : Nat → Int32) (f31 : Nat → Int32) (f32 : Nat → Int32) (f33 : Nat → Int32) (f35 : Nat → Int32) (f34 : Nat → Int32) (f29 : Nat → Int32) (f30 : Nat → Int32) (f37 : Nat → Int32) (f36 : Nat → Int32) (f40 : Nat → Int32) (f41 : Nat → Int32) (f42 : Nat → Int32) (f44 : Nat → Int32) (f43 : Nat → Int32) (nS477 : Nat) (fS477 : Nat → Int32)  (g27_218 : Nat → Int32) (g35_218 : Nat → Int32) (g44_218 : Nat → Int32) (x10_218 : Int32) (x9_218 : Int32) : Option ((Nat → Int32) × (Nat → Int32) × (Nat → Int32) × Int32 × Int32) := (lp_vm_heads_220 nf nf v9 v10 v24 v28 f25 f5 f6 f2 f27 f26 f31 f32 f33 f35 f34 f29 f30 f37 f36 f40 f41 f42 f44 f43 nS477 fS477  0 g27_218 g35_218 g44_218 x10_218 x9_218)
def lp_vm_heads_192 (nf n : Nat) (v9 : Int32) (v10 : Int32) (v24 : Int32) (v28 : Int32) (f25 : Nat → Int32) (f5 : Nat → Int32) (f6 : Nat → Int32) (f2 : Nat → Int32) (f27 : Nat → Int32) (f26 : Nat → Int32) (f31 : Nat → Int32) (f32 : Nat → Int32) (f33 : Nat → Int32) (f35 : Nat → Int32) (f34 : Nat → Int32) (f29 : Nat → Int32) (f30 : Nat → Int32) (f37 : Nat → Int32) (f36 : Nat → Int32) (f40 : Nat → Int32) (f41 : Nat → Int32) (f42 : Nat → Int32) (f44 : Nat → Int32) (f43 : Nat → Int32) (nS477 : Nat) (fS477 : Nat → Int32)  (l1_192 : Int32) (g27_192 : Nat → Int32) (g35_192 : Nat → Int32) (g44_192 : Nat → Int32) (x10_192 : Int32) (x9_192 : Int32) : Option ((Nat → Int32) × (Nat → Int32) × (Nat → Int32) × Int32 × Int32) := match n with
  | 0 => none
  | n + 1 => (if v28 ≤ l1_192 then (jn_vm_heads_218 nf v9 v10 v24 v28 f25 f5 f6 f2 f27 f26 f31 f32 f33 f35 f34 f29 f30 f37 f36 f40 f41 f42 f44 f43 nS477 fS477  g27_192 g35_192 g44_192 x10_192 x9_192) else (if x9_192 = 0 then ((sp_vm_memberHead nf l1_192 x9_192 x10_192 v24 f31 f32 f33 f5 f6 f2 f25 g35_192 f34 f29 f30 f37 f36 f40 f41 f42 g44_192 f43 nS477 fS477).bind (fun p1 => (lp_vm_heads_192 nf n v9 v10 v24 v28 f25 f5 f6 f2 f27 f26 f31 f32 f33 f35 f34 f29 f30 f37 f36 f40 f41 f42 f44 f43 nS477 fS477 (l1_192 + 1) g27_192 p1.1 p1.2.1 p1.2.2.1 p1.2.2.2))) else (jn_vm_heads_218 nf v9 v10 v24 v28 f25 f5 f6 f2 f27 f26 f31 f32 f33 f35 f34 f29 f30 f37 f36 f40 f41 f42 f44 f43 nS477 fS477  g27_192 g35_192 g44_192 x10_192 x9_192)))
def jn_vm_heads_190 (nf : Nat) (v9 : Int32) (v10 : Int32) (v24 : Int32) (v28 : Int32) (f25 : Nat → Int32) (f5 : Nat → Int32) (f6 : Nat → Int32) (f2 : Nat → Int32) (f27 : Nat → Int32) (f26 : Nat → Int32) (f31 : Nat → Int32) (f32 : Nat → Int32) (f33 : Nat → Int32) (f35 : Nat → Int32) (f34 : Nat → Int32) (f29 : Nat → Int32) (f30 : Nat → Int32) (f37 : Nat → Int32) (f36 : Nat → Int32) (f40 : Nat → Int32) (f41 : Nat → Int32) (f42 : Nat → Int32) (f44 : Nat → Int32) (f43 : Nat → Int32) (nS477 : Nat) (fS477 : Nat → Int32)  (g27_190 : Nat → Int32) (g35_190 : Nat → Int32) (g44_190 : Nat → Int32) (x10_190 : Int32) (x9_190 : Int32) : Option ((Nat → Int32) × (Nat → Int32) × (Nat → Int32) × Int32 × Int32) := (lp_vm_heads_192 nf nf v9 v10 v24 v28 f25 f5 f6 f2 f27 f26 f31 f32 f33 f35 f34 f29 f30 f37 f36 f40 f41 f42 f44 f43 nS477 fS477  0 g27_190 g35_190 g44_190 x10_190 x9_190)
def lp_vm_heads_50 (nf n : Nat) (v9 : Int32) (v10 : Int32) (v24 : Int32) (v28 : Int32) (f25 : Nat → Int32) (f5 : Nat → Int32) (f6 : Nat → Int32) (f2 : Nat → Int32) (f27 : Nat → Int32) (f26 : Nat → Int32) (f31 : Nat → Int32) (f32 : Nat → Int32) (f33 : Nat → Int32) (f35 : Nat → Int32) (f34 : Nat → Int32) (f29 : Nat → Int32) (f30 : Nat → Int32) (f37 : Nat → Int32) (f36 : Nat → Int32) (f40 : Nat → Int32) (f41 : Nat → Int32) (f42 : Nat → Int32) (f44 : Nat → Int32) (f43 : Nat → Int32) (nS477 : Nat) (fS477 : Nat → Int32)  (l1_50 : Int32) (g27_50 : Nat → Int32) (g35_50 : Nat → Int32) (g44_50 : Nat → Int32) (x10_50 : Int32) (x9_50 : Int32) : Option ((Nat → Int32) × (Nat → Int32) × (Nat → Int32) × Int32 × Int32) := match n with
  | 0 => none
  | n + 1 => (if v24 ≤ l1_50 then (jn_vm_heads_190 nf v9 v10 v24 v28 f25 f5 f6 f2 f27 f26 f31 f32 f33 f35 f34 f29 f30 f37 f36 f40 f41 f42 f44 f43 nS477 fS477  g27_50 g35_50 g44_50 x10_50 x9_50) else (if x9_50 = 0 then (if l1_50 = 8 then (if l1_50 < 0 then none else if 400 ≤ (l1_50 : Int32).toNatClampNeg then none else ((sp_tm_wrong nf 11 (f25 (l1_50 : Int32).toNatClampNeg) x9_50 x10_50 f5).bind (fun p1 => (jn_vm_heads_83 nf v9 v10 v24 v28 f25 f5 f6 f2 f27 f26 f31 f32 f33 f35 f34 f29 f30 f37 f36 f40 f41 f42 f44 f43 nS477 fS477 (lp_vm_heads_50 nf n v9 v10 v24 v28 f25 f5 f6 f2 f27 f26 f31 f32 f33 f35 f34 f29 f30 f37 f36 f40 f41 f42 f44 f43 nS477 fS477) l1_50 g27_50 g35_50 g44_50 p1.1 p1.2)))) else (jn_vm_heads_83 nf v9 v10 v24 v28 f25 f5 f6 f2 f27 f26 f31 f32 f33 f35 f34 f29 f30 f37 f36 f40 f41 f42 f44 f43 nS477 fS477 (lp_vm_heads_50 nf n v9 v10 v24 v28 f25 f5 f6 f2 f27 f26 f31 f32 f33 f35 f34 f29 f30 f37 f36 f40 f41 f42 f44 f43 nS477 fS477) l1_50 g27_50 g35_50 g44_50 x10_50 x9_50)) else (jn_vm_heads_190 nf v9 v10 v24 v28 f25 f5 f6 f2 f27 f26 f31 f32 f33 f35 f34 f29 f30 f37 f36 f40 f41 f42 f44 f43 nS477 fS477  g27_50 g35_50 g44_50 x10_50 x9_50)))
def lp_vm_heads_2 (nf n : Nat) (v9 : Int32) (v10 : Int32) (v24 : Int32) (v28 : Int32) (f25 : Nat → Int32) (f5 : Nat → Int32) (f6 : Nat → Int32) (f2 : Nat → Int32) (f27 : Nat → Int32) (f26 : Nat → Int32) (f31 : Nat → Int32) (f32 : Nat → Int32) (f33 : Nat → Int32) (f35 : Nat → Int32) (f34 : Nat → Int32) (f29 : Nat → Int32) (f30 : Nat → Int32) (f37 : Nat → Int32) (f36 : Nat → Int32) (f40 : Nat → Int32) (f41 : Nat → Int32) (f42 : Nat → Int32) (f44 : Nat → Int32) (f43 : Nat → Int32) (nS477 : Nat) (fS477 : Nat → Int32)  (l1_2 : Int32) (g27_2 : Nat → Int32) (g35_2 : Nat → Int32) (g44_2 : Nat → Int32) (x10_2 : Int32) (x9_2 : Int32) : Option ((Nat → Int32) × (Nat → Int32) × (Nat → Int32) × Int32 × Int32) := match n with
  | 0 => none
  | n + 1 => (if v24 ≤ l1_2 then (lp_vm_heads_50 nf nf v9 v10 v24 v28 f25 f5 f6 f2 f27 f26 f31 f32 f33 f35 f34 f29 f30 f37 f36 f40 f41 f42 f44 f43 nS477 fS477  0 g27_2 g35_2 g44_2 x10_2 x9_2) else (if l1_2 < 0 then none else if 400 ≤ (l1_2 : Int32).toNatClampNeg then none else (if (f26 (l1_2 : Int32).toNatClampNeg) = (-1) then (if l1_2 < 0 then none else if 400 ≤ (l1_2 : Int32).toNatClampNeg then none else (lp_vm_heads_2 nf n v9 v10 v24 v28 f25 f5 f6 f2 f27 f26 f31 f32 f33 f35 f34 f29 f30 f37 f36 f40 f41 f42 f44 f43 nS477 fS477 (l1_2 + 1) (upd g27_2 (l1_2 : Int32).toNatClampNeg 0) g35_2 g44_2 x10_2 x9_2)) else (if l1_2 < 0 then none else if 400 ≤ (l1_2 : Int32).toNatClampNeg then none else ((sp_vm_classOf nf (f26 (l1_2 : Int32).toNatClampNeg) v24 f5 f6 f2 f25 nS477 fS477).bind (fun p1 => (if l1_2 < 0 then none else if 400 ≤ (l1_2 : Int32).toNatClampNeg then none else (lp_vm_heads_2 nf n v9 v10 v24 v28 f25 f5 f6 f2 f27 f26 f31 f32 f33 f35 f34 f29 f30 f37 f36 f40 f41 f42 f44 f43 nS477 fS477 (l1_2 + 1) (upd g27_2 (l1_2 : Int32).toNatClampNeg p1) g35_2 g44_2 x10_2 x9_2))))))))
def sp_vm_heads (nf : Nat) (v9 : Int32) (v10 : Int32) (v24 : Int32) (v28 : Int32) (f25 : Nat → Int32) (f5 : Nat → Int32) (f6 : Nat → Int32) (f2 : Nat → Int32) (f27 : Nat → Int32) (f26 : Nat → Int32) (f31 : Nat → Int32) (f32 : Nat → Int32) (f33 : Nat → Int32) (f35 : Nat → Int32) (f34 : Nat → Int32) (f29 : Nat → Int32) (f30 : Nat → Int32) (f37 : Nat → Int32) (f36 : Nat → Int32) (f40 : Nat → Int32) (f41 : Nat → Int32) (f42 : Nat → Int32) (f44 : Nat → Int32) (f43 : Nat → Int32) (nS477 : Nat) (fS477 : Nat → Int32) : Option ((Nat → Int32) × (Nat → Int32) × (Nat → Int32) × Int32 × Int32) := (lp_vm_heads_2 nf nf v9 v10 v24 v28 f25 f5 f6 f2 f27 f26 f31 f32 f33 f35 f34 f29 f30 f37 f36 f40 f41 f42 f44 f43 nS477 fS477  0 f27 f35 f44 v10 v9)
