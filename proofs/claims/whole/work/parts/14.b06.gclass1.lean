set_option maxHeartbeats 4000000 in
set_option maxRecDepth 100000 in
/-- ClassMill$Machine.compares -/
theorem t5_compares (l : Launch) (dC : Nat → ClassId) (dI : Nat → Nat → Nat) (sz : Nat) (a1 : Int32) (a2 : Int32) (a3 : Int32) (nf : Nat) (r0 : Int32) (hsp : sp_t5_compares nf a1 a2 a3 = some r0) : Met l yX5_compares (.code yX5_compares cX5_compares 3 (some .boolean) :: VS_h3) ({ frames := 0, cells := 0, slots := 0, locals := 0 }) (va_Pc [.int a1, .int a2, .int a3] (fun U => U.heap.size = sz ∧ va_P (dC, dI) vwCl [] U.heap ∧ va_K (dC, dI) vwCl [] U ∧ va_D (fun _ => True) [])) (va_Qi (fun (r : Int32) (u : Unit) => match u with | () => r0 = r ∧ (r0 = 0 ∨ r0 = 1)) (fun (u : Unit) (t : State) => match u with | () => va_P (dC, dI) vwCl [] t.heap ∧ va_K (dC, dI) vwCl [] t ∧ va_D (va_A [] sz) []) (va_A [] sz)) 0 0 (va_A [] sz) := by
  refine Met.ofW (cc := cX5_compares) (maxL := 3) (ret := (some .boolean)) (by decide) rfl ?_
  intro p e s m args below meth c s₁ B hml hv
  obtain ⟨rfl, hsz, hP, hK, hD0⟩ := hv
  have hx := B.exec
  have hb := B.bytes
  have hr := B.returns
  have hts := atoms_spec (ws := (.code yX5_compares cX5_compares 3 (some .boolean) :: VS_h3)) B.pre
  replace hts := fun w (h : w ∈ VS_h3) => hts w (List.mem_cons_of_mem _ h)
  have hown : s.vm.findClass RX5 = some m.cls := findClass_of_methodNamed B.named
  have hlocks := B.notSynchronized
  subst hsz
  have hD := hD0.self (sz := s.heap.size)
  generalize hAe : va_A [] s.heap.size = A at hD  ⊢
  have hA : ∀ q : Nat, s.heap.size ≤ q → A q := fun q h => by rw [← hAe]; exact Or.inr h
  have hP : va_P (dC, dI) vwCl [] s.heap := hP
  have hl := lv_entry ([.int a1, .int a2, .int a3]) (n := 3) (Nat.le_of_ble_eq_true rfl)
  rw [lg_entry_eq]
  generalize (lg_sl ([.int a1, .int a2, .int a3]) ++ List.replicate (3 - (lg_sl ([.int a1, .int a2, .int a3])).length) Slot.unset).toArray = ls at hl ⊢
  have hl : lv_has ls 3 [(0, .int a1), (1, .int a2), (2, .int a3)] := hl
  obtain ⟨H, hH⟩ : ∃ H : Heap, s.heap = H := ⟨_, rfl⟩
  rw [hH] at hP ⊢
  have hS : va_S A s.heap H [] := by rw [← hH]; exact va_S.rf
  obtain ⟨locs, hlo⟩ : ∃ locs : List Loc, locs = [] := ⟨_, rfl⟩
  rw [← hlo] at hS ⊢
  unfold sp_t5_compares at hsp
  refine lv_iload_n hx hb dX5_compares_0 rfl (lv_at hl 0 rfl) ?_
  by_cases hs_1 : a1 = 159
  · rw [if_pos hs_1] at hsp
    refine lv_tableIn (tgt := 48) hx hb dX5_compares_1 (by rw [hs_1]; decide) (by rw [hs_1]; decide) (off := 47) (by rw [hs_1]; rfl) (by decide) ?_
    refine lv_iload_n hx hb dX5_compares_48 rfl (lv_at hl 1 rfl) ?_
    refine lv_iload_n hx hb dX5_compares_49 rfl (lv_at hl 2 rfl) ?_
    refine lv_icmp_ne (tgt := 57) hx hb dX5_compares_50 (by decide) (fun c_2 => ?_) (fun c_2 => ?_)
    · rw [if_neg c_2] at hsp
      refine lv_iconst (v := 0) hx hb dX5_compares_57 (by decide) ?_
      have hr0 := Option.some.inj hsp
      clear hsp
      subst hr0
      have hP9 := hP.sub (ws' := []) [] rfl
      have hD9 := hD.sub (ws' := []) [] (by decide) rfl
      have hK9 := hK.sub (tys' := []) [] rfl
      exact W.zret hx hb hr (by decide) (fun t ht hW => ⟨⟨(0), (), rfl, ⟨rfl, Or.inl rfl⟩, by rw [ht]; exact hP9, va_K.moved hW.alike hK9, hD9⟩, hS.F ht⟩) hS.2.2 dX5_compares_58
    · rw [if_pos c_2] at hsp
      refine lv_iconst (v := 1) hx hb dX5_compares_53 (by decide) ?_
      refine lv_goto (tgt := 58) hx hb dX5_compares_54 (by decide) ?_
      have hr0 := Option.some.inj hsp
      clear hsp
      subst hr0
      have hP9 := hP.sub (ws' := []) [] rfl
      have hD9 := hD.sub (ws' := []) [] (by decide) rfl
      have hK9 := hK.sub (tys' := []) [] rfl
      exact W.zret hx hb hr (by decide) (fun t ht hW => ⟨⟨(1), (), rfl, ⟨rfl, Or.inr rfl⟩, by rw [ht]; exact hP9, va_K.moved hW.alike hK9, hD9⟩, hS.F ht⟩) hS.2.2 dX5_compares_58
  rw [if_neg hs_1] at hsp
  by_cases hs_3 : a1 = 160
  · rw [if_pos hs_3] at hsp
    refine lv_tableIn (tgt := 59) hx hb dX5_compares_1 (by rw [hs_3]; decide) (by rw [hs_3]; decide) (off := 58) (by rw [hs_3]; rfl) (by decide) ?_
    refine lv_iload_n hx hb dX5_compares_59 rfl (lv_at hl 1 rfl) ?_
    refine lv_iload_n hx hb dX5_compares_60 rfl (lv_at hl 2 rfl) ?_
    refine lv_icmp_eq (tgt := 68) hx hb dX5_compares_61 (by decide) (fun c_4 => ?_) (fun c_4 => ?_)
    · rw [if_pos c_4] at hsp
      refine lv_iconst (v := 0) hx hb dX5_compares_68 (by decide) ?_
      have hr0 := Option.some.inj hsp
      clear hsp
      subst hr0
      have hP9 := hP.sub (ws' := []) [] rfl
      have hD9 := hD.sub (ws' := []) [] (by decide) rfl
      have hK9 := hK.sub (tys' := []) [] rfl
      exact W.zret hx hb hr (by decide) (fun t ht hW => ⟨⟨(0), (), rfl, ⟨rfl, Or.inl rfl⟩, by rw [ht]; exact hP9, va_K.moved hW.alike hK9, hD9⟩, hS.F ht⟩) hS.2.2 dX5_compares_69
    · rw [if_neg c_4] at hsp
      refine lv_iconst (v := 1) hx hb dX5_compares_64 (by decide) ?_
      refine lv_goto (tgt := 69) hx hb dX5_compares_65 (by decide) ?_
      have hr0 := Option.some.inj hsp
      clear hsp
      subst hr0
      have hP9 := hP.sub (ws' := []) [] rfl
      have hD9 := hD.sub (ws' := []) [] (by decide) rfl
      have hK9 := hK.sub (tys' := []) [] rfl
      exact W.zret hx hb hr (by decide) (fun t ht hW => ⟨⟨(1), (), rfl, ⟨rfl, Or.inr rfl⟩, by rw [ht]; exact hP9, va_K.moved hW.alike hK9, hD9⟩, hS.F ht⟩) hS.2.2 dX5_compares_69
  rw [if_neg hs_3] at hsp
  by_cases hs_5 : a1 = 161
  · rw [if_pos hs_5] at hsp
    refine lv_tableIn (tgt := 70) hx hb dX5_compares_1 (by rw [hs_5]; decide) (by rw [hs_5]; decide) (off := 69) (by rw [hs_5]; rfl) (by decide) ?_
    refine lv_iload_n hx hb dX5_compares_70 rfl (lv_at hl 1 rfl) ?_
    refine lv_iload_n hx hb dX5_compares_71 rfl (lv_at hl 2 rfl) ?_
    refine lv_icmp_ge (tgt := 79) hx hb dX5_compares_72 (by decide) (fun c_6 => ?_) (fun c_6 => ?_)
    · rw [if_pos c_6] at hsp
      refine lv_iconst (v := 0) hx hb dX5_compares_79 (by decide) ?_
      have hr0 := Option.some.inj hsp
      clear hsp
      subst hr0
      have hP9 := hP.sub (ws' := []) [] rfl
      have hD9 := hD.sub (ws' := []) [] (by decide) rfl
      have hK9 := hK.sub (tys' := []) [] rfl
      exact W.zret hx hb hr (by decide) (fun t ht hW => ⟨⟨(0), (), rfl, ⟨rfl, Or.inl rfl⟩, by rw [ht]; exact hP9, va_K.moved hW.alike hK9, hD9⟩, hS.F ht⟩) hS.2.2 dX5_compares_80
    · rw [if_neg c_6] at hsp
      refine lv_iconst (v := 1) hx hb dX5_compares_75 (by decide) ?_
      refine lv_goto (tgt := 80) hx hb dX5_compares_76 (by decide) ?_
      have hr0 := Option.some.inj hsp
      clear hsp
      subst hr0
      have hP9 := hP.sub (ws' := []) [] rfl
      have hD9 := hD.sub (ws' := []) [] (by decide) rfl
      have hK9 := hK.sub (tys' := []) [] rfl
      exact W.zret hx hb hr (by decide) (fun t ht hW => ⟨⟨(1), (), rfl, ⟨rfl, Or.inr rfl⟩, by rw [ht]; exact hP9, va_K.moved hW.alike hK9, hD9⟩, hS.F ht⟩) hS.2.2 dX5_compares_80
  rw [if_neg hs_5] at hsp
  by_cases hs_7 : a1 = 162
  · rw [if_pos hs_7] at hsp
    refine lv_tableIn (tgt := 81) hx hb dX5_compares_1 (by rw [hs_7]; decide) (by rw [hs_7]; decide) (off := 80) (by rw [hs_7]; rfl) (by decide) ?_
    refine lv_iload_n hx hb dX5_compares_81 rfl (lv_at hl 1 rfl) ?_
    refine lv_iload_n hx hb dX5_compares_82 rfl (lv_at hl 2 rfl) ?_
    refine lv_icmp_lt (tgt := 90) hx hb dX5_compares_83 (by decide) (fun c_8 => ?_) (fun c_8 => ?_)
    · rw [if_pos c_8] at hsp
      refine lv_iconst (v := 0) hx hb dX5_compares_90 (by decide) ?_
      have hr0 := Option.some.inj hsp
      clear hsp
      subst hr0
      have hP9 := hP.sub (ws' := []) [] rfl
      have hD9 := hD.sub (ws' := []) [] (by decide) rfl
      have hK9 := hK.sub (tys' := []) [] rfl
      exact W.zret hx hb hr (by decide) (fun t ht hW => ⟨⟨(0), (), rfl, ⟨rfl, Or.inl rfl⟩, by rw [ht]; exact hP9, va_K.moved hW.alike hK9, hD9⟩, hS.F ht⟩) hS.2.2 dX5_compares_91
    · rw [if_neg c_8] at hsp
      refine lv_iconst (v := 1) hx hb dX5_compares_86 (by decide) ?_
      refine lv_goto (tgt := 91) hx hb dX5_compares_87 (by decide) ?_
      have hr0 := Option.some.inj hsp
      clear hsp
      subst hr0
      have hP9 := hP.sub (ws' := []) [] rfl
      have hD9 := hD.sub (ws' := []) [] (by decide) rfl
      have hK9 := hK.sub (tys' := []) [] rfl
      exact W.zret hx hb hr (by decide) (fun t ht hW => ⟨⟨(1), (), rfl, ⟨rfl, Or.inr rfl⟩, by rw [ht]; exact hP9, va_K.moved hW.alike hK9, hD9⟩, hS.F ht⟩) hS.2.2 dX5_compares_91
  rw [if_neg hs_7] at hsp
  by_cases hs_9 : a1 = 163
  · rw [if_pos hs_9] at hsp
    refine lv_tableIn (tgt := 92) hx hb dX5_compares_1 (by rw [hs_9]; decide) (by rw [hs_9]; decide) (off := 91) (by rw [hs_9]; rfl) (by decide) ?_
    refine lv_iload_n hx hb dX5_compares_92 rfl (lv_at hl 1 rfl) ?_
    refine lv_iload_n hx hb dX5_compares_93 rfl (lv_at hl 2 rfl) ?_
    refine lv_icmp_le (tgt := 101) hx hb dX5_compares_94 (by decide) (fun c_10 => ?_) (fun c_10 => ?_)
    · rw [if_pos c_10] at hsp
      refine lv_iconst (v := 0) hx hb dX5_compares_101 (by decide) ?_
      have hr0 := Option.some.inj hsp
      clear hsp
      subst hr0
      have hP9 := hP.sub (ws' := []) [] rfl
      have hD9 := hD.sub (ws' := []) [] (by decide) rfl
      have hK9 := hK.sub (tys' := []) [] rfl
      exact W.zret hx hb hr (by decide) (fun t ht hW => ⟨⟨(0), (), rfl, ⟨rfl, Or.inl rfl⟩, by rw [ht]; exact hP9, va_K.moved hW.alike hK9, hD9⟩, hS.F ht⟩) hS.2.2 dX5_compares_102
    · rw [if_neg c_10] at hsp
      refine lv_iconst (v := 1) hx hb dX5_compares_97 (by decide) ?_
      refine lv_goto (tgt := 102) hx hb dX5_compares_98 (by decide) ?_
      have hr0 := Option.some.inj hsp
      clear hsp
      subst hr0
      have hP9 := hP.sub (ws' := []) [] rfl
      have hD9 := hD.sub (ws' := []) [] (by decide) rfl
      have hK9 := hK.sub (tys' := []) [] rfl
      exact W.zret hx hb hr (by decide) (fun t ht hW => ⟨⟨(1), (), rfl, ⟨rfl, Or.inr rfl⟩, by rw [ht]; exact hP9, va_K.moved hW.alike hK9, hD9⟩, hS.F ht⟩) hS.2.2 dX5_compares_102
  rw [if_neg hs_9] at hsp
  by_cases hs_11 : a1 = 164
  · rw [if_pos hs_11] at hsp
    refine lv_tableIn (tgt := 103) hx hb dX5_compares_1 (by rw [hs_11]; decide) (by rw [hs_11]; decide) (off := 102) (by rw [hs_11]; rfl) (by decide) ?_
    refine lv_iload_n hx hb dX5_compares_103 rfl (lv_at hl 1 rfl) ?_
    refine lv_iload_n hx hb dX5_compares_104 rfl (lv_at hl 2 rfl) ?_
    refine lv_icmp_gt (tgt := 112) hx hb dX5_compares_105 (by decide) (fun c_12 => ?_) (fun c_12 => ?_)
    · rw [if_pos c_12] at hsp
      refine lv_iconst (v := 0) hx hb dX5_compares_112 (by decide) ?_
      have hr0 := Option.some.inj hsp
      clear hsp
      subst hr0
      have hP9 := hP.sub (ws' := []) [] rfl
      have hD9 := hD.sub (ws' := []) [] (by decide) rfl
      have hK9 := hK.sub (tys' := []) [] rfl
      exact W.zret hx hb hr (by decide) (fun t ht hW => ⟨⟨(0), (), rfl, ⟨rfl, Or.inl rfl⟩, by rw [ht]; exact hP9, va_K.moved hW.alike hK9, hD9⟩, hS.F ht⟩) hS.2.2 dX5_compares_113
    · rw [if_neg c_12] at hsp
      refine lv_iconst (v := 1) hx hb dX5_compares_108 (by decide) ?_
      refine lv_goto (tgt := 113) hx hb dX5_compares_109 (by decide) ?_
      have hr0 := Option.some.inj hsp
      clear hsp
      subst hr0
      have hP9 := hP.sub (ws' := []) [] rfl
      have hD9 := hD.sub (ws' := []) [] (by decide) rfl
      have hK9 := hK.sub (tys' := []) [] rfl
      exact W.zret hx hb hr (by decide) (fun t ht hW => ⟨⟨(1), (), rfl, ⟨rfl, Or.inr rfl⟩, by rw [ht]; exact hP9, va_K.moved hW.alike hK9, hD9⟩, hS.F ht⟩) hS.2.2 dX5_compares_113
  rw [if_neg hs_11] at hsp
  by_cases hs_13 : a1 = 165
  · rw [if_pos hs_13] at hsp
    refine lv_tableIn (tgt := 48) hx hb dX5_compares_1 (by rw [hs_13]; decide) (by rw [hs_13]; decide) (off := 47) (by rw [hs_13]; rfl) (by decide) ?_
    refine lv_iload_n hx hb dX5_compares_48 rfl (lv_at hl 1 rfl) ?_
    refine lv_iload_n hx hb dX5_compares_49 rfl (lv_at hl 2 rfl) ?_
    refine lv_icmp_ne (tgt := 57) hx hb dX5_compares_50 (by decide) (fun c_14 => ?_) (fun c_14 => ?_)
    · rw [if_neg c_14] at hsp
      refine lv_iconst (v := 0) hx hb dX5_compares_57 (by decide) ?_
      have hr0 := Option.some.inj hsp
      clear hsp
      subst hr0
      have hP9 := hP.sub (ws' := []) [] rfl
      have hD9 := hD.sub (ws' := []) [] (by decide) rfl
      have hK9 := hK.sub (tys' := []) [] rfl
      exact W.zret hx hb hr (by decide) (fun t ht hW => ⟨⟨(0), (), rfl, ⟨rfl, Or.inl rfl⟩, by rw [ht]; exact hP9, va_K.moved hW.alike hK9, hD9⟩, hS.F ht⟩) hS.2.2 dX5_compares_58
    · rw [if_pos c_14] at hsp
      refine lv_iconst (v := 1) hx hb dX5_compares_53 (by decide) ?_
      refine lv_goto (tgt := 58) hx hb dX5_compares_54 (by decide) ?_
      have hr0 := Option.some.inj hsp
      clear hsp
      subst hr0
      have hP9 := hP.sub (ws' := []) [] rfl
      have hD9 := hD.sub (ws' := []) [] (by decide) rfl
      have hK9 := hK.sub (tys' := []) [] rfl
      exact W.zret hx hb hr (by decide) (fun t ht hW => ⟨⟨(1), (), rfl, ⟨rfl, Or.inr rfl⟩, by rw [ht]; exact hP9, va_K.moved hW.alike hK9, hD9⟩, hS.F ht⟩) hS.2.2 dX5_compares_58
  rw [if_neg hs_13] at hsp
  by_cases hs_15 : a1 = 166
  · rw [if_pos hs_15] at hsp
    refine lv_tableIn (tgt := 59) hx hb dX5_compares_1 (by rw [hs_15]; decide) (by rw [hs_15]; decide) (off := 58) (by rw [hs_15]; rfl) (by decide) ?_
    refine lv_iload_n hx hb dX5_compares_59 rfl (lv_at hl 1 rfl) ?_
    refine lv_iload_n hx hb dX5_compares_60 rfl (lv_at hl 2 rfl) ?_
    refine lv_icmp_eq (tgt := 68) hx hb dX5_compares_61 (by decide) (fun c_16 => ?_) (fun c_16 => ?_)
    · rw [if_pos c_16] at hsp
      refine lv_iconst (v := 0) hx hb dX5_compares_68 (by decide) ?_
      have hr0 := Option.some.inj hsp
      clear hsp
      subst hr0
      have hP9 := hP.sub (ws' := []) [] rfl
      have hD9 := hD.sub (ws' := []) [] (by decide) rfl
      have hK9 := hK.sub (tys' := []) [] rfl
      exact W.zret hx hb hr (by decide) (fun t ht hW => ⟨⟨(0), (), rfl, ⟨rfl, Or.inl rfl⟩, by rw [ht]; exact hP9, va_K.moved hW.alike hK9, hD9⟩, hS.F ht⟩) hS.2.2 dX5_compares_69
    · rw [if_neg c_16] at hsp
      refine lv_iconst (v := 1) hx hb dX5_compares_64 (by decide) ?_
      refine lv_goto (tgt := 69) hx hb dX5_compares_65 (by decide) ?_
      have hr0 := Option.some.inj hsp
      clear hsp
      subst hr0
      have hP9 := hP.sub (ws' := []) [] rfl
      have hD9 := hD.sub (ws' := []) [] (by decide) rfl
      have hK9 := hK.sub (tys' := []) [] rfl
      exact W.zret hx hb hr (by decide) (fun t ht hW => ⟨⟨(1), (), rfl, ⟨rfl, Or.inr rfl⟩, by rw [ht]; exact hP9, va_K.moved hW.alike hK9, hD9⟩, hS.F ht⟩) hS.2.2 dX5_compares_69
  rw [if_neg hs_15] at hsp
  refine lv_tableOut (tgt := 103) hx hb dX5_compares_1 (by have a0 := lv_neT hs_1 (a := 159) rfl; have a1 := lv_neT hs_3 (a := 160) rfl; have a2 := lv_neT hs_5 (a := 161) rfl; have a3 := lv_neT hs_7 (a := 162) rfl; have a4 := lv_neT hs_9 (a := 163) rfl; have a5 := lv_neT hs_11 (a := 164) rfl; have a6 := lv_neT hs_13 (a := 165) rfl; have a7 := lv_neT hs_15 (a := 166) rfl; omega) (by decide) ?_
  refine lv_iload_n hx hb dX5_compares_103 rfl (lv_at hl 1 rfl) ?_
  refine lv_iload_n hx hb dX5_compares_104 rfl (lv_at hl 2 rfl) ?_
  refine lv_icmp_gt (tgt := 112) hx hb dX5_compares_105 (by decide) (fun c_17 => ?_) (fun c_17 => ?_)
  · rw [if_pos c_17] at hsp
    refine lv_iconst (v := 0) hx hb dX5_compares_112 (by decide) ?_
    have hr0 := Option.some.inj hsp
    clear hsp
    subst hr0
    have hP9 := hP.sub (ws' := []) [] rfl
    have hD9 := hD.sub (ws' := []) [] (by decide) rfl
    have hK9 := hK.sub (tys' := []) [] rfl
    exact W.zret hx hb hr (by decide) (fun t ht hW => ⟨⟨(0), (), rfl, ⟨rfl, Or.inl rfl⟩, by rw [ht]; exact hP9, va_K.moved hW.alike hK9, hD9⟩, hS.F ht⟩) hS.2.2 dX5_compares_113
  · rw [if_neg c_17] at hsp
    refine lv_iconst (v := 1) hx hb dX5_compares_108 (by decide) ?_
    refine lv_goto (tgt := 113) hx hb dX5_compares_109 (by decide) ?_
    have hr0 := Option.some.inj hsp
    clear hsp
    subst hr0
    have hP9 := hP.sub (ws' := []) [] rfl
    have hD9 := hD.sub (ws' := []) [] (by decide) rfl
    have hK9 := hK.sub (tys' := []) [] rfl
    exact W.zret hx hb hr (by decide) (fun t ht hW => ⟨⟨(1), (), rfl, ⟨rfl, Or.inr rfl⟩, by rw [ht]; exact hP9, va_K.moved hW.alike hK9, hD9⟩, hS.F ht⟩) hS.2.2 dX5_compares_113
def sp_t5_isObject (nf : Nat) (a1 : Int32) (v4 : Int32) : Option (Int32) := (if a1 ≤ 0 then (some 0) else (if v4 < a1 then (some 0) else (if 2000 < a1 then (some 0) else (some 1))))
set_option maxHeartbeats 4000000 in
set_option maxRecDepth 100000 in
/-- ClassMill$Machine.isObject -/
theorem t5_isObject (l : Launch) (dC : Nat → ClassId) (dI : Nat → Nat → Nat) (sz : Nat) (h0 : Nat) (a1 : Int32) (qf0 : Nat) (v1 : Int32) (v2 : Int32) (v3 : Int32) (v4 : Int32) (v5 : Int32) (v6 : Int32) (v7 : Int32) (qf8 : Nat) (qf9 : Nat) (qf10 : Nat) (qf11 : Nat) (qf12 : Nat) (qf13 : Nat) (qf14 : Nat) (qf15 : Nat) (qf16 : Nat) (v17 : Int32) (qf18 : Nat) (v19 : Int32) (v20 : Int32) (nf : Nat) (r0 : Int32) (hsp : sp_t5_isObject nf a1 v4 = some r0) : Met l yX5_isObject (.code yX5_isObject cX5_isObject 2 (some .boolean) :: VS_h3) ({ frames := 0, cells := 0, slots := 0, locals := 0 }) (va_Pc [.ref h0, .int a1] (fun U => U.heap.size = sz ∧ va_P (dC, dI) vwCl [(h0, .inr (5, [.ref qf0, .int v1, .int v2, .int v3, .int v4, .int v5, .int v6, .int v7, .ref qf8, .ref qf9, .ref qf10, .ref qf11, .ref qf12, .ref qf13, .ref qf14, .ref qf15, .ref qf16, .int v17, .ref qf18, .int v19, .int v20]))] U.heap ∧ va_K (dC, dI) vwCl [] U ∧ va_D (fun _ => True) [(h0, .inr (5, [.ref qf0, .int v1, .int v2, .int v3, .int v4, .int v5, .int v6, .int v7, .ref qf8, .ref qf9, .ref qf10, .ref qf11, .ref qf12, .ref qf13, .ref qf14, .ref qf15, .ref qf16, .int v17, .ref qf18, .int v19, .int v20]))])) (va_Qi (fun (r : Int32) (u : Unit) => match u with | () => r0 = r ∧ (r0 = 0 ∨ r0 = 1)) (fun (u : Unit) (t : State) => match u with | () => va_P (dC, dI) vwCl [(h0, .inr (5, [.ref qf0, .int v1, .int v2, .int v3, .int v4, .int v5, .int v6, .int v7, .ref qf8, .ref qf9, .ref qf10, .ref qf11, .ref qf12, .ref qf13, .ref qf14, .ref qf15, .ref qf16, .int v17, .ref qf18, .int v19, .int v20]))] t.heap ∧ va_K (dC, dI) vwCl [] t ∧ va_D (va_A [(h0, .inr (5, [.ref qf0, .int v1, .int v2, .int v3, .int v4, .int v5, .int v6, .int v7, .ref qf8, .ref qf9, .ref qf10, .ref qf11, .ref qf12, .ref qf13, .ref qf14, .ref qf15, .ref qf16, .int v17, .ref qf18, .int v19, .int v20]))] sz) [(h0, .inr (5, [.ref qf0, .int v1, .int v2, .int v3, .int v4, .int v5, .int v6, .int v7, .ref qf8, .ref qf9, .ref qf10, .ref qf11, .ref qf12, .ref qf13, .ref qf14, .ref qf15, .ref qf16, .int v17, .ref qf18, .int v19, .int v20]))]) (va_A [(h0, .inr (5, [.ref qf0, .int v1, .int v2, .int v3, .int v4, .int v5, .int v6, .int v7, .ref qf8, .ref qf9, .ref qf10, .ref qf11, .ref qf12, .ref qf13, .ref qf14, .ref qf15, .ref qf16, .int v17, .ref qf18, .int v19, .int v20]))] sz)) 0 0 (va_A [(h0, .inr (5, [.ref qf0, .int v1, .int v2, .int v3, .int v4, .int v5, .int v6, .int v7, .ref qf8, .ref qf9, .ref qf10, .ref qf11, .ref qf12, .ref qf13, .ref qf14, .ref qf15, .ref qf16, .int v17, .ref qf18, .int v19, .int v20]))] sz) := by
  refine Met.ofW (cc := cX5_isObject) (maxL := 2) (ret := (some .boolean)) (by decide) rfl ?_
  intro p e s m args below meth c s₁ B hml hv
  obtain ⟨rfl, hsz, hP, hK, hD0⟩ := hv
  have hx := B.exec
  have hb := B.bytes
  have hr := B.returns
  have hts := atoms_spec (ws := (.code yX5_isObject cX5_isObject 2 (some .boolean) :: VS_h3)) B.pre
  replace hts := fun w (h : w ∈ VS_h3) => hts w (List.mem_cons_of_mem _ h)
  have hown : s.vm.findClass RX5 = some m.cls := findClass_of_methodNamed B.named
  have hlocks := B.notSynchronized
  subst hsz
  have hD := hD0.self (sz := s.heap.size)
  generalize hAe : va_A [(h0, .inr (5, [.ref qf0, .int v1, .int v2, .int v3, .int v4, .int v5, .int v6, .int v7, .ref qf8, .ref qf9, .ref qf10, .ref qf11, .ref qf12, .ref qf13, .ref qf14, .ref qf15, .ref qf16, .int v17, .ref qf18, .int v19, .int v20]))] s.heap.size = A at hD  ⊢
  have hA : ∀ q : Nat, s.heap.size ≤ q → A q := fun q h => by rw [← hAe]; exact Or.inr h
  have hP : va_P (dC, dI) vwCl [(h0, .inr (5, [.ref qf0, .int v1, .int v2, .int v3, .int v4, .int v5, .int v6, .int v7, .ref qf8, .ref qf9, .ref qf10, .ref qf11, .ref qf12, .ref qf13, .ref qf14, .ref qf15, .ref qf16, .int v17, .ref qf18, .int v19, .int v20]))] s.heap := hP
  have hl := lv_entry ([.ref h0, .int a1]) (n := 2) (Nat.le_of_ble_eq_true rfl)
  rw [lg_entry_eq]
  generalize (lg_sl ([.ref h0, .int a1]) ++ List.replicate (2 - (lg_sl ([.ref h0, .int a1])).length) Slot.unset).toArray = ls at hl ⊢
  have hl : lv_has ls 2 [(0, .ref h0), (1, .int a1)] := hl
  obtain ⟨H, hH⟩ : ∃ H : Heap, s.heap = H := ⟨_, rfl⟩
  rw [hH] at hP ⊢
  have hS : va_S A s.heap H [] := by rw [← hH]; exact va_S.rf
  obtain ⟨locs, hlo⟩ : ∃ locs : List Loc, locs = [] := ⟨_, rfl⟩
  rw [← hlo] at hS ⊢
  unfold sp_t5_isObject at hsp
  refine lv_iload_n hx hb dX5_isObject_0 rfl (lv_at hl 1 rfl) ?_
  refine lv_if_le (tgt := 23) hx hb dX5_isObject_1 (by decide) (fun c_1 => ?_) (fun c_1 => ?_)
  · rw [if_pos c_1] at hsp
    refine lv_iconst (v := 0) hx hb dX5_isObject_23 (by decide) ?_
    have hr0 := Option.some.inj hsp
    clear hsp
    subst hr0
    have hP9 := hP.sub (ws' := [(h0, .inr (5, [.ref qf0, .int v1, .int v2, .int v3, .int v4, .int v5, .int v6, .int v7, .ref qf8, .ref qf9, .ref qf10, .ref qf11, .ref qf12, .ref qf13, .ref qf14, .ref qf15, .ref qf16, .int v17, .ref qf18, .int v19, .int v20]))]) [0] rfl
    have hD9 := hD.sub (ws' := [(h0, .inr (5, [.ref qf0, .int v1, .int v2, .int v3, .int v4, .int v5, .int v6, .int v7, .ref qf8, .ref qf9, .ref qf10, .ref qf11, .ref qf12, .ref qf13, .ref qf14, .ref qf15, .ref qf16, .int v17, .ref qf18, .int v19, .int v20]))]) [0] (by decide) rfl
    have hK9 := hK.sub (tys' := []) [] rfl
    exact W.zret hx hb hr (by decide) (fun t ht hW => ⟨⟨(0), (), rfl, ⟨rfl, Or.inl rfl⟩, by rw [ht]; exact hP9, va_K.moved hW.alike hK9, hD9⟩, hS.F ht⟩) hS.2.2 dX5_isObject_24
  · rw [if_neg c_1] at hsp
    refine lv_iload_n hx hb dX5_isObject_4 rfl (lv_at hl 1 rfl) ?_
    refine lv_aload_n hx hb dX5_isObject_5 rfl (lv_at hl 0 rfl) ?_
    refine va_get (D := (dC, dI)) (ci := 5) (v := .int v4) (C := RX5) (T := TX5) (N := 21) hx hb hts uV_h3_X5 hown hK hP 0 rfl rfl 4 (by decide) (hts (.fieldLink RX5 60 "ClassMill$Machine" "objects" "I") mw_h3_76) (fun _ h9 => h9) rfl dX5_isObject_6 ?_
    refine lv_icmp_gt (tgt := 23) hx hb dX5_isObject_9 (by decide) (fun c_2 => ?_) (fun c_2 => ?_)
    · rw [if_pos c_2] at hsp
      refine lv_iconst (v := 0) hx hb dX5_isObject_23 (by decide) ?_
      have hr0 := Option.some.inj hsp
      clear hsp
      subst hr0
      have hP9 := hP.sub (ws' := [(h0, .inr (5, [.ref qf0, .int v1, .int v2, .int v3, .int v4, .int v5, .int v6, .int v7, .ref qf8, .ref qf9, .ref qf10, .ref qf11, .ref qf12, .ref qf13, .ref qf14, .ref qf15, .ref qf16, .int v17, .ref qf18, .int v19, .int v20]))]) [0] rfl
      have hD9 := hD.sub (ws' := [(h0, .inr (5, [.ref qf0, .int v1, .int v2, .int v3, .int v4, .int v5, .int v6, .int v7, .ref qf8, .ref qf9, .ref qf10, .ref qf11, .ref qf12, .ref qf13, .ref qf14, .ref qf15, .ref qf16, .int v17, .ref qf18, .int v19, .int v20]))]) [0] (by decide) rfl
      have hK9 := hK.sub (tys' := []) [] rfl
      exact W.zret hx hb hr (by decide) (fun t ht hW => ⟨⟨(0), (), rfl, ⟨rfl, Or.inl rfl⟩, by rw [ht]; exact hP9, va_K.moved hW.alike hK9, hD9⟩, hS.F ht⟩) hS.2.2 dX5_isObject_24
    · rw [if_neg c_2] at hsp
      refine lv_iload_n hx hb dX5_isObject_12 rfl (lv_at hl 1 rfl) ?_
      refine lv_sipush (v := 2000) hx hb dX5_isObject_13 (by decide) ?_
      refine lv_icmp_gt (tgt := 23) hx hb dX5_isObject_16 (by decide) (fun c_3 => ?_) (fun c_3 => ?_)
      · rw [if_pos c_3] at hsp
        refine lv_iconst (v := 0) hx hb dX5_isObject_23 (by decide) ?_
        have hr0 := Option.some.inj hsp
        clear hsp
        subst hr0
        have hP9 := hP.sub (ws' := [(h0, .inr (5, [.ref qf0, .int v1, .int v2, .int v3, .int v4, .int v5, .int v6, .int v7, .ref qf8, .ref qf9, .ref qf10, .ref qf11, .ref qf12, .ref qf13, .ref qf14, .ref qf15, .ref qf16, .int v17, .ref qf18, .int v19, .int v20]))]) [0] rfl
        have hD9 := hD.sub (ws' := [(h0, .inr (5, [.ref qf0, .int v1, .int v2, .int v3, .int v4, .int v5, .int v6, .int v7, .ref qf8, .ref qf9, .ref qf10, .ref qf11, .ref qf12, .ref qf13, .ref qf14, .ref qf15, .ref qf16, .int v17, .ref qf18, .int v19, .int v20]))]) [0] (by decide) rfl
        have hK9 := hK.sub (tys' := []) [] rfl
        exact W.zret hx hb hr (by decide) (fun t ht hW => ⟨⟨(0), (), rfl, ⟨rfl, Or.inl rfl⟩, by rw [ht]; exact hP9, va_K.moved hW.alike hK9, hD9⟩, hS.F ht⟩) hS.2.2 dX5_isObject_24
      · rw [if_neg c_3] at hsp
        refine lv_iconst (v := 1) hx hb dX5_isObject_19 (by decide) ?_
        refine lv_goto (tgt := 24) hx hb dX5_isObject_20 (by decide) ?_
        have hr0 := Option.some.inj hsp
        clear hsp
        subst hr0
        have hP9 := hP.sub (ws' := [(h0, .inr (5, [.ref qf0, .int v1, .int v2, .int v3, .int v4, .int v5, .int v6, .int v7, .ref qf8, .ref qf9, .ref qf10, .ref qf11, .ref qf12, .ref qf13, .ref qf14, .ref qf15, .ref qf16, .int v17, .ref qf18, .int v19, .int v20]))]) [0] rfl
        have hD9 := hD.sub (ws' := [(h0, .inr (5, [.ref qf0, .int v1, .int v2, .int v3, .int v4, .int v5, .int v6, .int v7, .ref qf8, .ref qf9, .ref qf10, .ref qf11, .ref qf12, .ref qf13, .ref qf14, .ref qf15, .ref qf16, .int v17, .ref qf18, .int v19, .int v20]))]) [0] (by decide) rfl
        have hK9 := hK.sub (tys' := []) [] rfl
        exact W.zret hx hb hr (by decide) (fun t ht hW => ⟨⟨(1), (), rfl, ⟨rfl, Or.inr rfl⟩, by rw [ht]; exact hP9, va_K.moved hW.alike hK9, hD9⟩, hS.F ht⟩) hS.2.2 dX5_isObject_24
def sp_t5_cellOf (nf : Nat) (a1 : Int32) (a2 : Int32) (v4 : Int32) (v20 : Int32) (f10 : Nat → Int32) : Option (Int32 × Int32) := ((sp_t5_isObject nf a1 v4).bind (fun p1 => (if p1 = 0 then (some ((-1), (-2))) else (if a2 < 0 then (some ((-1), (-3))) else (if (a1 + 1) < 0 then none else if 2002 ≤ ((a1 + 1) : Int32).toNatClampNeg then none else (if a1 < 0 then none else if 2002 ≤ (a1 : Int32).toNatClampNeg then none else (if a2 < ((f10 ((a1 + 1) : Int32).toNatClampNeg) - (f10 (a1 : Int32).toNatClampNeg)) then (if a1 < 0 then none else if 2002 ≤ (a1 : Int32).toNatClampNeg then none else (some (((f10 (a1 : Int32).toNatClampNeg) + a2), v20))) else (some ((-1), (-3))))))))))
set_option maxHeartbeats 4000000 in
set_option maxRecDepth 100000 in
/-- ClassMill$Machine.cellOf -/
theorem t5_cellOf (l : Launch) (dC : Nat → ClassId) (dI : Nat → Nat → Nat) (sz : Nat) (h0 : Nat) (a1 : Int32) (a2 : Int32) (qf0 : Nat) (v1 : Int32) (v2 : Int32) (v3 : Int32) (v4 : Int32) (v5 : Int32) (v6 : Int32) (v7 : Int32) (qf8 : Nat) (qf9 : Nat) (qf10 : Nat) (qf11 : Nat) (qf12 : Nat) (qf13 : Nat) (qf14 : Nat) (qf15 : Nat) (qf16 : Nat) (v17 : Int32) (qf18 : Nat) (v19 : Int32) (v20 : Int32) (cf10 : ClassId) (f10 : (Nat → Int32)) (nf : Nat) (r0 : Int32) (w20 : Int32) (hsp : sp_t5_cellOf nf a1 a2 v4 v20 f10 = some (r0, w20)) : Met l yX5_cellOf (.code yX5_cellOf cX5_cellOf 3 (some .int) :: VS_h3) ({ frames := 1, cells := 0, slots := 0, locals := 21 }) (va_Pc [.ref h0, .int a1, .int a2] (fun U => U.heap.size = sz ∧ va_P (dC, dI) vwCl [(h0, .inr (5, [.ref qf0, .int v1, .int v2, .int v3, .int v4, .int v5, .int v6, .int v7, .ref qf8, .ref qf9, .ref qf10, .ref qf11, .ref qf12, .ref qf13, .ref qf14, .ref qf15, .ref qf16, .int v17, .ref qf18, .int v19, .int v20])), (qf10, .inl (cf10, 2002, .inl f10))] U.heap ∧ va_K (dC, dI) vwCl [(cf10, .int)] U ∧ va_D (fun _ => True) [(h0, .inr (5, [.ref qf0, .int v1, .int v2, .int v3, .int v4, .int v5, .int v6, .int v7, .ref qf8, .ref qf9, .ref qf10, .ref qf11, .ref qf12, .ref qf13, .ref qf14, .ref qf15, .ref qf16, .int v17, .ref qf18, .int v19, .int v20])), (qf10, .inl (cf10, 2002, .inl f10))])) (va_Qi (fun (r : Int32) (u : Unit) => match u with | () => r0 = r) (fun (u : Unit) (t : State) => match u with | () => va_P (dC, dI) vwCl [(h0, .inr (5, [.ref qf0, .int v1, .int v2, .int v3, .int v4, .int v5, .int v6, .int v7, .ref qf8, .ref qf9, .ref qf10, .ref qf11, .ref qf12, .ref qf13, .ref qf14, .ref qf15, .ref qf16, .int v17, .ref qf18, .int v19, .int w20])), (qf10, .inl (cf10, 2002, .inl f10))] t.heap ∧ va_K (dC, dI) vwCl [(cf10, .int)] t ∧ va_D (va_A [(h0, .inr (5, [.ref qf0, .int v1, .int v2, .int v3, .int v4, .int v5, .int v6, .int v7, .ref qf8, .ref qf9, .ref qf10, .ref qf11, .ref qf12, .ref qf13, .ref qf14, .ref qf15, .ref qf16, .int v17, .ref qf18, .int v19, .int v20])), (qf10, .inl (cf10, 2002, .inl f10))] sz) [(h0, .inr (5, [.ref qf0, .int v1, .int v2, .int v3, .int v4, .int v5, .int v6, .int v7, .ref qf8, .ref qf9, .ref qf10, .ref qf11, .ref qf12, .ref qf13, .ref qf14, .ref qf15, .ref qf16, .int v17, .ref qf18, .int v19, .int w20])), (qf10, .inl (cf10, 2002, .inl f10))]) (va_A [(h0, .inr (5, [.ref qf0, .int v1, .int v2, .int v3, .int v4, .int v5, .int v6, .int v7, .ref qf8, .ref qf9, .ref qf10, .ref qf11, .ref qf12, .ref qf13, .ref qf14, .ref qf15, .ref qf16, .int v17, .ref qf18, .int v19, .int v20])), (qf10, .inl (cf10, 2002, .inl f10))] sz)) 0 0 (va_A [(h0, .inr (5, [.ref qf0, .int v1, .int v2, .int v3, .int v4, .int v5, .int v6, .int v7, .ref qf8, .ref qf9, .ref qf10, .ref qf11, .ref qf12, .ref qf13, .ref qf14, .ref qf15, .ref qf16, .int v17, .ref qf18, .int v19, .int v20])), (qf10, .inl (cf10, 2002, .inl f10))] sz) := by
  refine Met.ofW (cc := cX5_cellOf) (maxL := 3) (ret := (some .int)) (by decide) rfl ?_
  intro p e s m args below meth c s₁ B hml hv
  obtain ⟨rfl, hsz, hP, hK, hD0⟩ := hv
  have hx := B.exec
  have hb := B.bytes
  have hr := B.returns
  have hts := atoms_spec (ws := (.code yX5_cellOf cX5_cellOf 3 (some .int) :: VS_h3)) B.pre
  replace hts := fun w (h : w ∈ VS_h3) => hts w (List.mem_cons_of_mem _ h)
  have hown : s.vm.findClass RX5 = some m.cls := findClass_of_methodNamed B.named
  have hlocks := B.notSynchronized
  subst hsz
  have hD := hD0.self (sz := s.heap.size)
  generalize hAe : va_A [(h0, .inr (5, [.ref qf0, .int v1, .int v2, .int v3, .int v4, .int v5, .int v6, .int v7, .ref qf8, .ref qf9, .ref qf10, .ref qf11, .ref qf12, .ref qf13, .ref qf14, .ref qf15, .ref qf16, .int v17, .ref qf18, .int v19, .int v20])), (qf10, .inl (cf10, 2002, .inl f10))] s.heap.size = A at hD  ⊢
  have hA : ∀ q : Nat, s.heap.size ≤ q → A q := fun q h => by rw [← hAe]; exact Or.inr h
  have hP : va_P (dC, dI) vwCl [(h0, .inr (5, [.ref qf0, .int v1, .int v2, .int v3, .int v4, .int v5, .int v6, .int v7, .ref qf8, .ref qf9, .ref qf10, .ref qf11, .ref qf12, .ref qf13, .ref qf14, .ref qf15, .ref qf16, .int v17, .ref qf18, .int v19, .int v20])), (qf10, .inl (cf10, 2002, .inl f10))] s.heap := hP
  have hl := lv_entry ([.ref h0, .int a1, .int a2]) (n := 3) (Nat.le_of_ble_eq_true rfl)
  rw [lg_entry_eq]
  generalize (lg_sl ([.ref h0, .int a1, .int a2]) ++ List.replicate (3 - (lg_sl ([.ref h0, .int a1, .int a2])).length) Slot.unset).toArray = ls at hl ⊢
  have hl : lv_has ls 3 [(0, .ref h0), (1, .int a1), (2, .int a2)] := hl
  obtain ⟨H, hH⟩ : ∃ H : Heap, s.heap = H := ⟨_, rfl⟩
  rw [hH] at hP ⊢
  have hS : va_S A s.heap H [] := by rw [← hH]; exact va_S.rf
  obtain ⟨locs, hlo⟩ : ∃ locs : List Loc, locs = [] := ⟨_, rfl⟩
  rw [← hlo] at hS ⊢
  unfold sp_t5_cellOf at hsp
  refine lv_aload_n hx hb dX5_cellOf_0 rfl (lv_at hl 0 rfl) ?_
  refine lv_iload_n hx hb dX5_cellOf_1 rfl (lv_at hl 1 rfl) ?_
  obtain ⟨u1_0, hu_1, hsp⟩ := ox_bind hsp
  try dsimp only at hsp
  have hPc := hP.sub (ws' := [(h0, .inr (5, [.ref qf0, .int v1, .int v2, .int v3, .int v4, .int v5, .int v6, .int v7, .ref qf8, .ref qf9, .ref qf10, .ref qf11, .ref qf12, .ref qf13, .ref qf14, .ref qf15, .ref qf16, .int v17, .ref qf18, .int v19, .int v20]))]) [0] rfl
  have hDc := hD.sub (ws' := [(h0, .inr (5, [.ref qf0, .int v1, .int v2, .int v3, .int v4, .int v5, .int v6, .int v7, .ref qf8, .ref qf9, .ref qf10, .ref qf11, .ref qf12, .ref qf13, .ref qf14, .ref qf15, .ref qf16, .int v17, .ref qf18, .int v19, .int v20]))]) [0] (by decide) rfl
  have hKc := hK.sub (tys' := []) [] rfl
  have hFc := va_free (wc := [(h0, .inr (5, [.ref qf0, .int v1, .int v2, .int v3, .int v4, .int v5, .int v6, .int v7, .ref qf8, .ref qf9, .ref qf10, .ref qf11, .ref qf12, .ref qf13, .ref qf14, .ref qf15, .ref qf16, .int v17, .ref qf18, .int v19, .int v20]))]) hD hS hA [0] rfl
  refine va_calli (va_runV (As := [.int a1]) (rest := []) ⟨hx, hb, hml, hown, hts⟩ (t5_isObject l dC dI H.size h0 a1 qf0 v1 v2 v3 v4 v5 v6 v7 qf8 qf9 qf10 qf11 qf12 qf13 qf14 qf15 qf16 v17 qf18 v19 v20 nf u1_0 hu_1) (cwV 1 hts gv_h3_21 rfl rfl rfl (by decide +kernel) ⟨Nat.le_of_ble_eq_true rfl, Nat.le_of_ble_eq_true rfl⟩) ⟨fun a U g mk q => by obtain ⟨q0, q1, qP, qK, qD⟩ := q; exact ⟨q0, q1, qP, va_K.moved (u := U) (U := U.calling g mk a) (Vm.Alike.refl U.vm) qK, qD⟩, va_recv hKc hPc (ci := 5) (q0 := 0) rfl rfl, fun U hU hW => ⟨rfl, by rw [hU], by rw [hU]; exact hPc, va_K.moved hW.alike hKc, hDc.weaken (fun _ _ _ _ => trivial)⟩⟩ rfl rfl hl.1 rfl (lv_room (Nat.le_of_ble_eq_true rfl)) dX5_cellOf_2 ⟨Nat.le_of_ble_eq_true rfl, Nat.le_of_ble_eq_true rfl⟩) hS (fun q _ h => hFc q h) hFc ?_
  clear hS
  intro r_1 u t H1 locs ht hvm hw hB hz1 hk1 hS
  obtain ⟨⟩ := u
  obtain ⟨hP1, hK1, hD1⟩ := hB
  rw [ht] at hP1
  have hK1 := va_K.moved hvm.symm hK1
  try dsimp only at hw
  have hPD := va_join (wr := [(qf10, .inl (cf10, 2002, .inl f10))]) (w1 := [(h0, .inr (5, [.ref qf0, .int v1, .int v2, .int v3, .int v4, .int v5, .int v6, .int v7, .ref qf8, .ref qf9, .ref qf10, .ref qf11, .ref qf12, .ref qf13, .ref qf14, .ref qf15, .ref qf16, .int v17, .ref qf18, .int v19, .int v20]))]) hP hD [0] [1] rfl rfl (by decide) (by decide) hk1 hFc hP1 hD1
  clear hP hD
  obtain ⟨hP, hD⟩ := hPD
  replace hK := (hK.sub (tys' := [(cf10, .int)]) [0] rfl).app hK1
  clear hPc hDc hKc hFc hP1 hK1 hD1 hz1 hk1 ht hvm
  generalize H1 = H at hP hS ⊢
  replace hP : va_P (dC, dI) vwCl [(qf10, .inl (cf10, 2002, .inl f10)), (h0, .inr (5, [.ref qf0, .int v1, .int v2, .int v3, .int v4, .int v5, .int v6, .int v7, .ref qf8, .ref qf9, .ref qf10, .ref qf11, .ref qf12, .ref qf13, .ref qf14, .ref qf15, .ref qf16, .int v17, .ref qf18, .int v19, .int v20]))] H := hP
  replace hD : va_D A [(qf10, .inl (cf10, 2002, .inl f10)), (h0, .inr (5, [.ref qf0, .int v1, .int v2, .int v3, .int v4, .int v5, .int v6, .int v7, .ref qf8, .ref qf9, .ref qf10, .ref qf11, .ref qf12, .ref qf13, .ref qf14, .ref qf15, .ref qf16, .int v17, .ref qf18, .int v19, .int v20]))] := hD
  replace hK : va_K (dC, dI) vwCl [(cf10, .int)] s := hK
  obtain ⟨rfl, hz_1⟩ := hw
  rcases hz_1 with rfl | rfl
  · rw [if_pos rfl] at hsp
    refine lv_if_ne (tgt := 16) hx hb dX5_cellOf_5 (by decide) (fun c_2 => (show False by revert c_2; decide).elim) (fun c_2 => ?_)
    refine lv_aload_n hx hb dX5_cellOf_8 rfl (lv_at hl 0 rfl) ?_
    refine lv_bipush (v := (-2)) hx hb dX5_cellOf_9 (by decide) ?_
    refine va_put (D := (dC, dI)) (ci := 5) (v := .int (-2)) (ty := .int) (C := RX5) (T := TX5) (N := 21) hx hb hts uV_h3_X5 tyX5 tyX5_ok nmX5 hown hK hP hD hS 1 rfl rfl 20 (by decide) (hts (.fieldLink RX5 86 "ClassMill$Machine" "thrown" "I") mw_h3_117) (fun _ h9 => h9) rfl (by decide +kernel) rfl rfl (Nat.le_of_ble_eq_true rfl) dX5_cellOf_11 ?_
    clear hP hD hS
    intro H locs hP hD hS
    replace hP : va_P (dC, dI) vwCl [(qf10, .inl (cf10, 2002, .inl f10)), (h0, .inr (5, [.ref qf0, .int v1, .int v2, .int v3, .int v4, .int v5, .int v6, .int v7, .ref qf8, .ref qf9, .ref qf10, .ref qf11, .ref qf12, .ref qf13, .ref qf14, .ref qf15, .ref qf16, .int v17, .ref qf18, .int v19, .int (-2)]))] H := hP
    replace hD : va_D A [(qf10, .inl (cf10, 2002, .inl f10)), (h0, .inr (5, [.ref qf0, .int v1, .int v2, .int v3, .int v4, .int v5, .int v6, .int v7, .ref qf8, .ref qf9, .ref qf10, .ref qf11, .ref qf12, .ref qf13, .ref qf14, .ref qf15, .ref qf16, .int v17, .ref qf18, .int v19, .int (-2)]))] := hD
    refine lv_iconst (v := (-1)) hx hb dX5_cellOf_14 (by decide) ?_
    have hr0 := Option.some.inj hsp
    clear hsp
    obtain ⟨hq0, hr1⟩ := Prod.mk.inj hr0
    clear hr0
    subst hq0
    subst hr1
    have hP9 := hP.sub (ws' := [(h0, .inr (5, [.ref qf0, .int v1, .int v2, .int v3, .int v4, .int v5, .int v6, .int v7, .ref qf8, .ref qf9, .ref qf10, .ref qf11, .ref qf12, .ref qf13, .ref qf14, .ref qf15, .ref qf16, .int v17, .ref qf18, .int v19, .int (-2)])), (qf10, .inl (cf10, 2002, .inl f10))]) [1, 0] rfl
    have hD9 := hD.sub (ws' := [(h0, .inr (5, [.ref qf0, .int v1, .int v2, .int v3, .int v4, .int v5, .int v6, .int v7, .ref qf8, .ref qf9, .ref qf10, .ref qf11, .ref qf12, .ref qf13, .ref qf14, .ref qf15, .ref qf16, .int v17, .ref qf18, .int v19, .int (-2)])), (qf10, .inl (cf10, 2002, .inl f10))]) [1, 0] (by decide) rfl
    have hK9 := hK.sub (tys' := [(cf10, .int)]) [0] rfl
    exact W.iret hx hb hr (fun t ht hW => ⟨⟨((-1)), (), rfl, rfl, by rw [ht]; exact hP9, va_K.moved hW.alike hK9, hD9⟩, hS.F ht⟩) hS.2.2 dX5_cellOf_15
  · rw [if_neg (by decide)] at hsp
    refine lv_if_ne (tgt := 16) hx hb dX5_cellOf_5 (by decide) (fun c_3 => ?_) (fun c_3 => (show False by revert c_3; decide).elim)
    refine lv_iload_n hx hb dX5_cellOf_16 rfl (lv_at hl 2 rfl) ?_
    refine lv_if_lt (tgt := 39) hx hb dX5_cellOf_17 (by decide) (fun c_4 => ?_) (fun c_4 => ?_)
    · rw [if_pos c_4] at hsp
      refine lv_aload_n hx hb dX5_cellOf_39 rfl (lv_at hl 0 rfl) ?_
      refine lv_bipush (v := (-3)) hx hb dX5_cellOf_40 (by decide) ?_
      refine va_put (D := (dC, dI)) (ci := 5) (v := .int (-3)) (ty := .int) (C := RX5) (T := TX5) (N := 21) hx hb hts uV_h3_X5 tyX5 tyX5_ok nmX5 hown hK hP hD hS 1 rfl rfl 20 (by decide) (hts (.fieldLink RX5 86 "ClassMill$Machine" "thrown" "I") mw_h3_117) (fun _ h9 => h9) rfl (by decide +kernel) rfl rfl (Nat.le_of_ble_eq_true rfl) dX5_cellOf_42 ?_
      clear hP hD hS
      intro H locs hP hD hS
      replace hP : va_P (dC, dI) vwCl [(qf10, .inl (cf10, 2002, .inl f10)), (h0, .inr (5, [.ref qf0, .int v1, .int v2, .int v3, .int v4, .int v5, .int v6, .int v7, .ref qf8, .ref qf9, .ref qf10, .ref qf11, .ref qf12, .ref qf13, .ref qf14, .ref qf15, .ref qf16, .int v17, .ref qf18, .int v19, .int (-3)]))] H := hP
      replace hD : va_D A [(qf10, .inl (cf10, 2002, .inl f10)), (h0, .inr (5, [.ref qf0, .int v1, .int v2, .int v3, .int v4, .int v5, .int v6, .int v7, .ref qf8, .ref qf9, .ref qf10, .ref qf11, .ref qf12, .ref qf13, .ref qf14, .ref qf15, .ref qf16, .int v17, .ref qf18, .int v19, .int (-3)]))] := hD
      refine lv_iconst (v := (-1)) hx hb dX5_cellOf_45 (by decide) ?_
      have hr0 := Option.some.inj hsp
      clear hsp
      obtain ⟨hq0, hr1⟩ := Prod.mk.inj hr0
      clear hr0
      subst hq0
      subst hr1
      have hP9 := hP.sub (ws' := [(h0, .inr (5, [.ref qf0, .int v1, .int v2, .int v3, .int v4, .int v5, .int v6, .int v7, .ref qf8, .ref qf9, .ref qf10, .ref qf11, .ref qf12, .ref qf13, .ref qf14, .ref qf15, .ref qf16, .int v17, .ref qf18, .int v19, .int (-3)])), (qf10, .inl (cf10, 2002, .inl f10))]) [1, 0] rfl
      have hD9 := hD.sub (ws' := [(h0, .inr (5, [.ref qf0, .int v1, .int v2, .int v3, .int v4, .int v5, .int v6, .int v7, .ref qf8, .ref qf9, .ref qf10, .ref qf11, .ref qf12, .ref qf13, .ref qf14, .ref qf15, .ref qf16, .int v17, .ref qf18, .int v19, .int (-3)])), (qf10, .inl (cf10, 2002, .inl f10))]) [1, 0] (by decide) rfl
      have hK9 := hK.sub (tys' := [(cf10, .int)]) [0] rfl
      exact W.iret hx hb hr (fun t ht hW => ⟨⟨((-1)), (), rfl, rfl, by rw [ht]; exact hP9, va_K.moved hW.alike hK9, hD9⟩, hS.F ht⟩) hS.2.2 dX5_cellOf_46
    · rw [if_neg c_4] at hsp
      refine lv_iload_n hx hb dX5_cellOf_20 rfl (lv_at hl 2 rfl) ?_
      refine lv_aload_n hx hb dX5_cellOf_21 rfl (lv_at hl 0 rfl) ?_
      refine va_get (D := (dC, dI)) (ci := 5) (v := .ref qf10) (C := RX5) (T := TX5) (N := 21) hx hb hts uV_h3_X5 hown hK hP 1 rfl rfl 10 (by decide) (hts (.fieldLink RX5 20 "ClassMill$Machine" "objectAt" "[I") mw_h3_118) (fun _ h9 => h9) rfl dX5_cellOf_22 ?_
      refine lv_iload_n hx hb dX5_cellOf_25 rfl (lv_at hl 1 rfl) ?_
      refine lv_iconst (v := 1) hx hb dX5_cellOf_26 (by decide) ?_
      refine lv_iadd hx hb dX5_cellOf_27 ?_
      obtain ⟨hi_5, hsp⟩ := ox_in hsp
      refine va_iald hx hb hK hP 0 0 rfl rfl (i := (a1 + 1)) hi_5 dX5_cellOf_28 ?_
      refine lv_aload_n hx hb dX5_cellOf_29 rfl (lv_at hl 0 rfl) ?_
      refine va_get (D := (dC, dI)) (ci := 5) (v := .ref qf10) (C := RX5) (T := TX5) (N := 21) hx hb hts uV_h3_X5 hown hK hP 1 rfl rfl 10 (by decide) (hts (.fieldLink RX5 20 "ClassMill$Machine" "objectAt" "[I") mw_h3_118) (fun _ h9 => h9) rfl dX5_cellOf_30 ?_
      refine lv_iload_n hx hb dX5_cellOf_33 rfl (lv_at hl 1 rfl) ?_
      obtain ⟨hi_6, hsp⟩ := ox_in hsp
      refine va_iald hx hb hK hP 0 0 rfl rfl (i := a1) hi_6 dX5_cellOf_34 ?_
      refine lv_isub hx hb dX5_cellOf_35 ?_
      refine lv_icmp_lt (tgt := 47) hx hb dX5_cellOf_36 (by decide) (fun c_7 => ?_) (fun c_7 => ?_)
      · rw [if_pos c_7] at hsp
        refine lv_aload_n hx hb dX5_cellOf_47 rfl (lv_at hl 0 rfl) ?_
        refine va_get (D := (dC, dI)) (ci := 5) (v := .ref qf10) (C := RX5) (T := TX5) (N := 21) hx hb hts uV_h3_X5 hown hK hP 1 rfl rfl 10 (by decide) (hts (.fieldLink RX5 20 "ClassMill$Machine" "objectAt" "[I") mw_h3_118) (fun _ h9 => h9) rfl dX5_cellOf_48 ?_
        refine lv_iload_n hx hb dX5_cellOf_51 rfl (lv_at hl 1 rfl) ?_
        obtain ⟨hi_8, hsp⟩ := ox_in hsp
        refine va_iald hx hb hK hP 0 0 rfl rfl (i := a1) hi_8 dX5_cellOf_52 ?_
        refine lv_iload_n hx hb dX5_cellOf_53 rfl (lv_at hl 2 rfl) ?_
        refine lv_iadd hx hb dX5_cellOf_54 ?_
        have hr0 := Option.some.inj hsp
        clear hsp
        obtain ⟨hq0, hr1⟩ := Prod.mk.inj hr0
        clear hr0
        subst hq0
        subst hr1
        have hP9 := hP.sub (ws' := [(h0, .inr (5, [.ref qf0, .int v1, .int v2, .int v3, .int v4, .int v5, .int v6, .int v7, .ref qf8, .ref qf9, .ref qf10, .ref qf11, .ref qf12, .ref qf13, .ref qf14, .ref qf15, .ref qf16, .int v17, .ref qf18, .int v19, .int v20])), (qf10, .inl (cf10, 2002, .inl f10))]) [1, 0] rfl
        have hD9 := hD.sub (ws' := [(h0, .inr (5, [.ref qf0, .int v1, .int v2, .int v3, .int v4, .int v5, .int v6, .int v7, .ref qf8, .ref qf9, .ref qf10, .ref qf11, .ref qf12, .ref qf13, .ref qf14, .ref qf15, .ref qf16, .int v17, .ref qf18, .int v19, .int v20])), (qf10, .inl (cf10, 2002, .inl f10))]) [1, 0] (by decide) rfl
        have hK9 := hK.sub (tys' := [(cf10, .int)]) [0] rfl
        exact W.iret hx hb hr (fun t ht hW => ⟨⟨(((f10 (a1 : Int32).toNatClampNeg) + a2)), (), rfl, rfl, by rw [ht]; exact hP9, va_K.moved hW.alike hK9, hD9⟩, hS.F ht⟩) hS.2.2 dX5_cellOf_55
      · rw [if_neg c_7] at hsp
        refine lv_aload_n hx hb dX5_cellOf_39 rfl (lv_at hl 0 rfl) ?_
        refine lv_bipush (v := (-3)) hx hb dX5_cellOf_40 (by decide) ?_
        refine va_put (D := (dC, dI)) (ci := 5) (v := .int (-3)) (ty := .int) (C := RX5) (T := TX5) (N := 21) hx hb hts uV_h3_X5 tyX5 tyX5_ok nmX5 hown hK hP hD hS 1 rfl rfl 20 (by decide) (hts (.fieldLink RX5 86 "ClassMill$Machine" "thrown" "I") mw_h3_117) (fun _ h9 => h9) rfl (by decide +kernel) rfl rfl (Nat.le_of_ble_eq_true rfl) dX5_cellOf_42 ?_
        clear hP hD hS
        intro H locs hP hD hS
        replace hP : va_P (dC, dI) vwCl [(qf10, .inl (cf10, 2002, .inl f10)), (h0, .inr (5, [.ref qf0, .int v1, .int v2, .int v3, .int v4, .int v5, .int v6, .int v7, .ref qf8, .ref qf9, .ref qf10, .ref qf11, .ref qf12, .ref qf13, .ref qf14, .ref qf15, .ref qf16, .int v17, .ref qf18, .int v19, .int (-3)]))] H := hP
        replace hD : va_D A [(qf10, .inl (cf10, 2002, .inl f10)), (h0, .inr (5, [.ref qf0, .int v1, .int v2, .int v3, .int v4, .int v5, .int v6, .int v7, .ref qf8, .ref qf9, .ref qf10, .ref qf11, .ref qf12, .ref qf13, .ref qf14, .ref qf15, .ref qf16, .int v17, .ref qf18, .int v19, .int (-3)]))] := hD
        refine lv_iconst (v := (-1)) hx hb dX5_cellOf_45 (by decide) ?_
        have hr0 := Option.some.inj hsp
        clear hsp
        obtain ⟨hq0, hr1⟩ := Prod.mk.inj hr0
        clear hr0
        subst hq0
        subst hr1
        have hP9 := hP.sub (ws' := [(h0, .inr (5, [.ref qf0, .int v1, .int v2, .int v3, .int v4, .int v5, .int v6, .int v7, .ref qf8, .ref qf9, .ref qf10, .ref qf11, .ref qf12, .ref qf13, .ref qf14, .ref qf15, .ref qf16, .int v17, .ref qf18, .int v19, .int (-3)])), (qf10, .inl (cf10, 2002, .inl f10))]) [1, 0] rfl
        have hD9 := hD.sub (ws' := [(h0, .inr (5, [.ref qf0, .int v1, .int v2, .int v3, .int v4, .int v5, .int v6, .int v7, .ref qf8, .ref qf9, .ref qf10, .ref qf11, .ref qf12, .ref qf13, .ref qf14, .ref qf15, .ref qf16, .int v17, .ref qf18, .int v19, .int (-3)])), (qf10, .inl (cf10, 2002, .inl f10))]) [1, 0] (by decide) rfl
        have hK9 := hK.sub (tys' := [(cf10, .int)]) [0] rfl
        exact W.iret hx hb hr (fun t ht hW => ⟨⟨((-1)), (), rfl, rfl, by rw [ht]; exact hP9, va_K.moved hW.alike hK9, hD9⟩, hS.F ht⟩) hS.2.2 dX5_cellOf_46
def sp_t5_stepElement (nf : Nat) (v1 : Int32) (v4 : Int32) (v17 : Int32) (v20 : Int32) (f14 : Nat → Int32) (f16 : Nat → Int32) (f10 : Nat → Int32) (f11 : Nat → Int32) (f13 : Nat → Int32) : Option ((Nat → Int32) × (Nat → Int32) × (Nat → Int32) × Int32 × Int32) := ((sp_t5_pop nf v1 v17 f14 f16).bind (fun p1 => ((sp_t5_pop nf p1.2.2 v17 p1.2.1 f16).bind (fun p2 => ((sp_t5_cellOf nf p2.1 p1.1 v4 v20 f10).bind (fun p3 => (if p3.1 < 0 then (some (f13, p2.2.1, f16, p2.2.2, p3.2)) else (if 20000 ≤ p3.1 then (some (f13, p2.2.1, f16, p2.2.2, p3.2)) else (if p3.1 < 0 then none else if 20000 ≤ (p3.1 : Int32).toNatClampNeg then none else ((sp_t5_give nf (f11 (p3.1 : Int32).toNatClampNeg) 1 p2.2.2 v17 p2.2.1 f16 f13).bind (fun p4 => (some (p4.1, p4.2.1, p4.2.2.1, p4.2.2.2, p3.2)))))))))))))
set_option maxHeartbeats 4000000 in
set_option maxRecDepth 100000 in
/-- ClassMill$Machine.stepElement -/
theorem t5_stepElement (l : Launch) (dC : Nat → ClassId) (dI : Nat → Nat → Nat) (sz : Nat) (h0 : Nat) (qf0 : Nat) (v1 : Int32) (v2 : Int32) (v3 : Int32) (v4 : Int32) (v5 : Int32) (v6 : Int32) (v7 : Int32) (qf8 : Nat) (qf9 : Nat) (qf10 : Nat) (qf11 : Nat) (qf12 : Nat) (qf13 : Nat) (qf14 : Nat) (qf15 : Nat) (qf16 : Nat) (v17 : Int32) (qf18 : Nat) (v19 : Int32) (v20 : Int32) (cf14 : ClassId) (f14 : (Nat → Int32)) (cf16 : ClassId) (f16 : (Nat → Int32)) (cf10 : ClassId) (f10 : (Nat → Int32)) (cf11 : ClassId) (f11 : (Nat → Int32)) (cf13 : ClassId) (f13 : (Nat → Int32)) (nf : Nat) (o13 : (Nat → Int32)) (o14 : (Nat → Int32)) (o16 : (Nat → Int32)) (w1 : Int32) (w20 : Int32) (hsp : sp_t5_stepElement nf v1 v4 v17 v20 f14 f16 f10 f11 f13 = some (o13, o14, o16, w1, w20)) : Met l yX5_stepElement (.code yX5_stepElement cX5_stepElement 4 none :: VS_h3) ({ frames := 2, cells := 0, slots := 0, locals := 44 }) (va_Pc [.ref h0] (fun U => U.heap.size = sz ∧ va_P (dC, dI) vwCl [(h0, .inr (5, [.ref qf0, .int v1, .int v2, .int v3, .int v4, .int v5, .int v6, .int v7, .ref qf8, .ref qf9, .ref qf10, .ref qf11, .ref qf12, .ref qf13, .ref qf14, .ref qf15, .ref qf16, .int v17, .ref qf18, .int v19, .int v20])), (qf14, .inl (cf14, 60, .inl f14)), (qf16, .inl (cf16, 1800, .inl f16)), (qf10, .inl (cf10, 2002, .inl f10)), (qf11, .inl (cf11, 20000, .inl f11)), (qf13, .inl (cf13, 60, .inl f13))] U.heap ∧ va_K (dC, dI) vwCl [(cf14, .int), (cf16, .int), (cf10, .int), (cf11, .int), (cf13, .int)] U ∧ va_D (fun _ => True) [(h0, .inr (5, [.ref qf0, .int v1, .int v2, .int v3, .int v4, .int v5, .int v6, .int v7, .ref qf8, .ref qf9, .ref qf10, .ref qf11, .ref qf12, .ref qf13, .ref qf14, .ref qf15, .ref qf16, .int v17, .ref qf18, .int v19, .int v20])), (qf14, .inl (cf14, 60, .inl f14)), (qf16, .inl (cf16, 1800, .inl f16)), (qf10, .inl (cf10, 2002, .inl f10)), (qf11, .inl (cf11, 20000, .inl f11)), (qf13, .inl (cf13, 60, .inl f13))])) (va_Qv (fun (u : Unit) => match u with | () => True) (fun (u : Unit) (t : State) => match u with | () => va_P (dC, dI) vwCl [(h0, .inr (5, [.ref qf0, .int w1, .int v2, .int v3, .int v4, .int v5, .int v6, .int v7, .ref qf8, .ref qf9, .ref qf10, .ref qf11, .ref qf12, .ref qf13, .ref qf14, .ref qf15, .ref qf16, .int v17, .ref qf18, .int v19, .int w20])), (qf14, .inl (cf14, 60, .inl o14)), (qf16, .inl (cf16, 1800, .inl o16)), (qf10, .inl (cf10, 2002, .inl f10)), (qf11, .inl (cf11, 20000, .inl f11)), (qf13, .inl (cf13, 60, .inl o13))] t.heap ∧ va_K (dC, dI) vwCl [(cf14, .int), (cf16, .int), (cf10, .int), (cf11, .int), (cf13, .int)] t ∧ va_D (va_A [(h0, .inr (5, [.ref qf0, .int v1, .int v2, .int v3, .int v4, .int v5, .int v6, .int v7, .ref qf8, .ref qf9, .ref qf10, .ref qf11, .ref qf12, .ref qf13, .ref qf14, .ref qf15, .ref qf16, .int v17, .ref qf18, .int v19, .int v20])), (qf14, .inl (cf14, 60, .inl f14)), (qf16, .inl (cf16, 1800, .inl f16)), (qf10, .inl (cf10, 2002, .inl f10)), (qf11, .inl (cf11, 20000, .inl f11)), (qf13, .inl (cf13, 60, .inl f13))] sz) [(h0, .inr (5, [.ref qf0, .int w1, .int v2, .int v3, .int v4, .int v5, .int v6, .int v7, .ref qf8, .ref qf9, .ref qf10, .ref qf11, .ref qf12, .ref qf13, .ref qf14, .ref qf15, .ref qf16, .int v17, .ref qf18, .int v19, .int w20])), (qf14, .inl (cf14, 60, .inl o14)), (qf16, .inl (cf16, 1800, .inl o16)), (qf10, .inl (cf10, 2002, .inl f10)), (qf11, .inl (cf11, 20000, .inl f11)), (qf13, .inl (cf13, 60, .inl o13))]) (va_A [(h0, .inr (5, [.ref qf0, .int v1, .int v2, .int v3, .int v4, .int v5, .int v6, .int v7, .ref qf8, .ref qf9, .ref qf10, .ref qf11, .ref qf12, .ref qf13, .ref qf14, .ref qf15, .ref qf16, .int v17, .ref qf18, .int v19, .int v20])), (qf14, .inl (cf14, 60, .inl f14)), (qf16, .inl (cf16, 1800, .inl f16)), (qf10, .inl (cf10, 2002, .inl f10)), (qf11, .inl (cf11, 20000, .inl f11)), (qf13, .inl (cf13, 60, .inl f13))] sz)) 0 0 (va_A [(h0, .inr (5, [.ref qf0, .int v1, .int v2, .int v3, .int v4, .int v5, .int v6, .int v7, .ref qf8, .ref qf9, .ref qf10, .ref qf11, .ref qf12, .ref qf13, .ref qf14, .ref qf15, .ref qf16, .int v17, .ref qf18, .int v19, .int v20])), (qf14, .inl (cf14, 60, .inl f14)), (qf16, .inl (cf16, 1800, .inl f16)), (qf10, .inl (cf10, 2002, .inl f10)), (qf11, .inl (cf11, 20000, .inl f11)), (qf13, .inl (cf13, 60, .inl f13))] sz) := by
  refine Met.ofW (cc := cX5_stepElement) (maxL := 4) (ret := none) (by decide) rfl ?_
  intro p e s m args below meth c s₁ B hml hv
  obtain ⟨rfl, hsz, hP, hK, hD0⟩ := hv
  have hx := B.exec
  have hb := B.bytes
  have hr := B.returns
  have hts := atoms_spec (ws := (.code yX5_stepElement cX5_stepElement 4 none :: VS_h3)) B.pre
  replace hts := fun w (h : w ∈ VS_h3) => hts w (List.mem_cons_of_mem _ h)
  have hown : s.vm.findClass RX5 = some m.cls := findClass_of_methodNamed B.named
  have hlocks := B.notSynchronized
  subst hsz
  have hD := hD0.self (sz := s.heap.size)
  generalize hAe : va_A [(h0, .inr (5, [.ref qf0, .int v1, .int v2, .int v3, .int v4, .int v5, .int v6, .int v7, .ref qf8, .ref qf9, .ref qf10, .ref qf11, .ref qf12, .ref qf13, .ref qf14, .ref qf15, .ref qf16, .int v17, .ref qf18, .int v19, .int v20])), (qf14, .inl (cf14, 60, .inl f14)), (qf16, .inl (cf16, 1800, .inl f16)), (qf10, .inl (cf10, 2002, .inl f10)), (qf11, .inl (cf11, 20000, .inl f11)), (qf13, .inl (cf13, 60, .inl f13))] s.heap.size = A at hD  ⊢
  have hA : ∀ q : Nat, s.heap.size ≤ q → A q := fun q h => by rw [← hAe]; exact Or.inr h
  have hP : va_P (dC, dI) vwCl [(h0, .inr (5, [.ref qf0, .int v1, .int v2, .int v3, .int v4, .int v5, .int v6, .int v7, .ref qf8, .ref qf9, .ref qf10, .ref qf11, .ref qf12, .ref qf13, .ref qf14, .ref qf15, .ref qf16, .int v17, .ref qf18, .int v19, .int v20])), (qf14, .inl (cf14, 60, .inl f14)), (qf16, .inl (cf16, 1800, .inl f16)), (qf10, .inl (cf10, 2002, .inl f10)), (qf11, .inl (cf11, 20000, .inl f11)), (qf13, .inl (cf13, 60, .inl f13))] s.heap := hP
  have hl := lv_entry ([.ref h0]) (n := 4) (Nat.le_of_ble_eq_true rfl)
  rw [lg_entry_eq]
  generalize (lg_sl ([.ref h0]) ++ List.replicate (4 - (lg_sl ([.ref h0])).length) Slot.unset).toArray = ls at hl ⊢
  have hl : lv_has ls 4 [(0, .ref h0)] := hl
  obtain ⟨H, hH⟩ : ∃ H : Heap, s.heap = H := ⟨_, rfl⟩
  rw [hH] at hP ⊢
  have hS : va_S A s.heap H [] := by rw [← hH]; exact va_S.rf
  obtain ⟨locs, hlo⟩ : ∃ locs : List Loc, locs = [] := ⟨_, rfl⟩
  rw [← hlo] at hS ⊢
  unfold sp_t5_stepElement at hsp
  refine lv_aload_n hx hb dX5_stepElement_0 rfl (lv_at hl 0 rfl) ?_
  obtain ⟨⟨u1_0, g901_1, u1_2⟩, hu_1, hsp⟩ := ox_bind hsp
  try dsimp only at hsp
  have hPc := hP.sub (ws' := [(h0, .inr (5, [.ref qf0, .int v1, .int v2, .int v3, .int v4, .int v5, .int v6, .int v7, .ref qf8, .ref qf9, .ref qf10, .ref qf11, .ref qf12, .ref qf13, .ref qf14, .ref qf15, .ref qf16, .int v17, .ref qf18, .int v19, .int v20])), (qf14, .inl (cf14, 60, .inl f14)), (qf16, .inl (cf16, 1800, .inl f16))]) [0, 1, 2] rfl
  have hDc := hD.sub (ws' := [(h0, .inr (5, [.ref qf0, .int v1, .int v2, .int v3, .int v4, .int v5, .int v6, .int v7, .ref qf8, .ref qf9, .ref qf10, .ref qf11, .ref qf12, .ref qf13, .ref qf14, .ref qf15, .ref qf16, .int v17, .ref qf18, .int v19, .int v20])), (qf14, .inl (cf14, 60, .inl f14)), (qf16, .inl (cf16, 1800, .inl f16))]) [0, 1, 2] (by decide) rfl
  have hKc := hK.sub (tys' := [(cf14, .int), (cf16, .int)]) [0, 1] rfl
  have hFc := va_free (wc := [(h0, .inr (5, [.ref qf0, .int v1, .int v2, .int v3, .int v4, .int v5, .int v6, .int v7, .ref qf8, .ref qf9, .ref qf10, .ref qf11, .ref qf12, .ref qf13, .ref qf14, .ref qf15, .ref qf16, .int v17, .ref qf18, .int v19, .int v20])), (qf14, .inl (cf14, 60, .inl f14)), (qf16, .inl (cf16, 1800, .inl f16))]) hD hS hA [0, 1, 2] rfl
  refine va_calli (va_runV (As := []) (rest := []) ⟨hx, hb, hml, hown, hts⟩ (t5_pop l dC dI H.size h0 qf0 v1 v2 v3 v4 v5 v6 v7 qf8 qf9 qf10 qf11 qf12 qf13 qf14 qf15 qf16 v17 qf18 v19 v20 cf14 f14 cf16 f16 nf u1_0 g901_1 u1_2 hu_1) (cwV 0 hts gv_h3_19 rfl rfl rfl (by decide +kernel) ⟨Nat.le_of_ble_eq_true rfl, Nat.le_of_ble_eq_true rfl⟩) ⟨fun a U g mk q => by obtain ⟨q0, q1, qP, qK, qD⟩ := q; exact ⟨q0, q1, qP, va_K.moved (u := U) (U := U.calling g mk a) (Vm.Alike.refl U.vm) qK, qD⟩, va_recv hKc hPc (ci := 5) (q0 := 0) rfl rfl, fun U hU hW => ⟨rfl, by rw [hU], by rw [hU]; exact hPc, va_K.moved hW.alike hKc, hDc.weaken (fun _ _ _ _ => trivial)⟩⟩ rfl rfl hl.1 rfl (lv_room (Nat.le_of_ble_eq_true rfl)) dX5_stepElement_1 ⟨Nat.le_of_ble_eq_true rfl, Nat.le_of_ble_eq_true rfl⟩) hS (fun q _ h => hFc q h) hFc ?_
  clear hS
  intro r_1 u t H1 locs ht hvm hw hB hz1 hk1 hS
  obtain ⟨⟩ := u
  obtain ⟨hP1, hK1, hD1⟩ := hB
  rw [ht] at hP1
  have hK1 := va_K.moved hvm.symm hK1
  try dsimp only at hw
  have hPD := va_join (wr := [(qf10, .inl (cf10, 2002, .inl f10)), (qf11, .inl (cf11, 20000, .inl f11)), (qf13, .inl (cf13, 60, .inl f13))]) (w1 := [(h0, .inr (5, [.ref qf0, .int u1_2, .int v2, .int v3, .int v4, .int v5, .int v6, .int v7, .ref qf8, .ref qf9, .ref qf10, .ref qf11, .ref qf12, .ref qf13, .ref qf14, .ref qf15, .ref qf16, .int v17, .ref qf18, .int v19, .int v20])), (qf14, .inl (cf14, 60, .inl g901_1)), (qf16, .inl (cf16, 1800, .inl f16))]) hP hD [0, 1, 2] [3, 4, 5] rfl rfl (by decide) (by decide) hk1 hFc hP1 hD1
  clear hP hD
  obtain ⟨hP, hD⟩ := hPD
  replace hK := (hK.sub (tys' := [(cf10, .int), (cf11, .int), (cf13, .int)]) [2, 3, 4] rfl).app hK1
  clear hPc hDc hKc hFc hP1 hK1 hD1 hz1 hk1 ht hvm
  generalize H1 = H at hP hS ⊢
  replace hP : va_P (dC, dI) vwCl [(qf10, .inl (cf10, 2002, .inl f10)), (qf11, .inl (cf11, 20000, .inl f11)), (qf13, .inl (cf13, 60, .inl f13)), (h0, .inr (5, [.ref qf0, .int u1_2, .int v2, .int v3, .int v4, .int v5, .int v6, .int v7, .ref qf8, .ref qf9, .ref qf10, .ref qf11, .ref qf12, .ref qf13, .ref qf14, .ref qf15, .ref qf16, .int v17, .ref qf18, .int v19, .int v20])), (qf14, .inl (cf14, 60, .inl g901_1)), (qf16, .inl (cf16, 1800, .inl f16))] H := hP
  replace hD : va_D A [(qf10, .inl (cf10, 2002, .inl f10)), (qf11, .inl (cf11, 20000, .inl f11)), (qf13, .inl (cf13, 60, .inl f13)), (h0, .inr (5, [.ref qf0, .int u1_2, .int v2, .int v3, .int v4, .int v5, .int v6, .int v7, .ref qf8, .ref qf9, .ref qf10, .ref qf11, .ref qf12, .ref qf13, .ref qf14, .ref qf15, .ref qf16, .int v17, .ref qf18, .int v19, .int v20])), (qf14, .inl (cf14, 60, .inl g901_1)), (qf16, .inl (cf16, 1800, .inl f16))] := hD
  replace hK : va_K (dC, dI) vwCl [(cf10, .int), (cf11, .int), (cf13, .int), (cf14, .int), (cf16, .int)] s := hK
  obtain rfl := hw
  refine lv_istore_n (lv' := [(1, .int u1_0), (0, .ref h0)]) hx hb dX5_stepElement_4 rfl hl (by decide) rfl (fun ls hl => ?_)
  refine lv_aload_n hx hb dX5_stepElement_5 rfl (lv_at hl 1 rfl) ?_
  obtain ⟨⟨u2_0, g902_1, u2_2⟩, hu_2, hsp⟩ := ox_bind hsp
  try dsimp only at hsp
  have hPc := hP.sub (ws' := [(h0, .inr (5, [.ref qf0, .int u1_2, .int v2, .int v3, .int v4, .int v5, .int v6, .int v7, .ref qf8, .ref qf9, .ref qf10, .ref qf11, .ref qf12, .ref qf13, .ref qf14, .ref qf15, .ref qf16, .int v17, .ref qf18, .int v19, .int v20])), (qf14, .inl (cf14, 60, .inl g901_1)), (qf16, .inl (cf16, 1800, .inl f16))]) [3, 4, 5] rfl
  have hDc := hD.sub (ws' := [(h0, .inr (5, [.ref qf0, .int u1_2, .int v2, .int v3, .int v4, .int v5, .int v6, .int v7, .ref qf8, .ref qf9, .ref qf10, .ref qf11, .ref qf12, .ref qf13, .ref qf14, .ref qf15, .ref qf16, .int v17, .ref qf18, .int v19, .int v20])), (qf14, .inl (cf14, 60, .inl g901_1)), (qf16, .inl (cf16, 1800, .inl f16))]) [3, 4, 5] (by decide) rfl
  have hKc := hK.sub (tys' := [(cf14, .int), (cf16, .int)]) [3, 4] rfl
  have hFc := va_free (wc := [(h0, .inr (5, [.ref qf0, .int u1_2, .int v2, .int v3, .int v4, .int v5, .int v6, .int v7, .ref qf8, .ref qf9, .ref qf10, .ref qf11, .ref qf12, .ref qf13, .ref qf14, .ref qf15, .ref qf16, .int v17, .ref qf18, .int v19, .int v20])), (qf14, .inl (cf14, 60, .inl g901_1)), (qf16, .inl (cf16, 1800, .inl f16))]) hD hS hA [3, 4, 5] rfl
  refine va_calli (va_runV (As := []) (rest := []) ⟨hx, hb, hml, hown, hts⟩ (t5_pop l dC dI H.size h0 qf0 u1_2 v2 v3 v4 v5 v6 v7 qf8 qf9 qf10 qf11 qf12 qf13 qf14 qf15 qf16 v17 qf18 v19 v20 cf14 g901_1 cf16 f16 nf u2_0 g902_1 u2_2 hu_2) (cwV 0 hts gv_h3_19 rfl rfl rfl (by decide +kernel) ⟨Nat.le_of_ble_eq_true rfl, Nat.le_of_ble_eq_true rfl⟩) ⟨fun a U g mk q => by obtain ⟨q0, q1, qP, qK, qD⟩ := q; exact ⟨q0, q1, qP, va_K.moved (u := U) (U := U.calling g mk a) (Vm.Alike.refl U.vm) qK, qD⟩, va_recv hKc hPc (ci := 5) (q0 := 0) rfl rfl, fun U hU hW => ⟨rfl, by rw [hU], by rw [hU]; exact hPc, va_K.moved hW.alike hKc, hDc.weaken (fun _ _ _ _ => trivial)⟩⟩ rfl rfl hl.1 rfl (lv_room (Nat.le_of_ble_eq_true rfl)) dX5_stepElement_6 ⟨Nat.le_of_ble_eq_true rfl, Nat.le_of_ble_eq_true rfl⟩) hS (fun q _ h => hFc q h) hFc ?_
  clear hS
  intro r_2 u t H1 locs ht hvm hw hB hz1 hk1 hS
  obtain ⟨⟩ := u
  obtain ⟨hP1, hK1, hD1⟩ := hB
  rw [ht] at hP1
  have hK1 := va_K.moved hvm.symm hK1
  try dsimp only at hw
  have hPD := va_join (wr := [(qf10, .inl (cf10, 2002, .inl f10)), (qf11, .inl (cf11, 20000, .inl f11)), (qf13, .inl (cf13, 60, .inl f13))]) (w1 := [(h0, .inr (5, [.ref qf0, .int u2_2, .int v2, .int v3, .int v4, .int v5, .int v6, .int v7, .ref qf8, .ref qf9, .ref qf10, .ref qf11, .ref qf12, .ref qf13, .ref qf14, .ref qf15, .ref qf16, .int v17, .ref qf18, .int v19, .int v20])), (qf14, .inl (cf14, 60, .inl g902_1)), (qf16, .inl (cf16, 1800, .inl f16))]) hP hD [3, 4, 5] [0, 1, 2] rfl rfl (by decide) (by decide) hk1 hFc hP1 hD1
  clear hP hD
  obtain ⟨hP, hD⟩ := hPD
  replace hK := (hK.sub (tys' := [(cf10, .int), (cf11, .int), (cf13, .int)]) [0, 1, 2] rfl).app hK1
  clear hPc hDc hKc hFc hP1 hK1 hD1 hz1 hk1 ht hvm
  generalize H1 = H at hP hS ⊢
  replace hP : va_P (dC, dI) vwCl [(qf10, .inl (cf10, 2002, .inl f10)), (qf11, .inl (cf11, 20000, .inl f11)), (qf13, .inl (cf13, 60, .inl f13)), (h0, .inr (5, [.ref qf0, .int u2_2, .int v2, .int v3, .int v4, .int v5, .int v6, .int v7, .ref qf8, .ref qf9, .ref qf10, .ref qf11, .ref qf12, .ref qf13, .ref qf14, .ref qf15, .ref qf16, .int v17, .ref qf18, .int v19, .int v20])), (qf14, .inl (cf14, 60, .inl g902_1)), (qf16, .inl (cf16, 1800, .inl f16))] H := hP
  replace hD : va_D A [(qf10, .inl (cf10, 2002, .inl f10)), (qf11, .inl (cf11, 20000, .inl f11)), (qf13, .inl (cf13, 60, .inl f13)), (h0, .inr (5, [.ref qf0, .int u2_2, .int v2, .int v3, .int v4, .int v5, .int v6, .int v7, .ref qf8, .ref qf9, .ref qf10, .ref qf11, .ref qf12, .ref qf13, .ref qf14, .ref qf15, .ref qf16, .int v17, .ref qf18, .int v19, .int v20])), (qf14, .inl (cf14, 60, .inl g902_1)), (qf16, .inl (cf16, 1800, .inl f16))] := hD
  replace hK : va_K (dC, dI) vwCl [(cf10, .int), (cf11, .int), (cf13, .int), (cf14, .int), (cf16, .int)] s := hK
  obtain rfl := hw
  refine lv_istore_n (lv' := [(2, .int u2_0), (1, .int u1_0), (0, .ref h0)]) hx hb dX5_stepElement_9 rfl hl (by decide) rfl (fun ls hl => ?_)
  refine lv_aload_n hx hb dX5_stepElement_10 rfl (lv_at hl 2 rfl) ?_
  refine lv_iload_n hx hb dX5_stepElement_11 rfl (lv_at hl 0 rfl) ?_
  refine lv_iload_n hx hb dX5_stepElement_12 rfl (lv_at hl 1 rfl) ?_
  obtain ⟨⟨u3_0, u3_1⟩, hu_3, hsp⟩ := ox_bind hsp
  try dsimp only at hsp
  have hPc := hP.sub (ws' := [(h0, .inr (5, [.ref qf0, .int u2_2, .int v2, .int v3, .int v4, .int v5, .int v6, .int v7, .ref qf8, .ref qf9, .ref qf10, .ref qf11, .ref qf12, .ref qf13, .ref qf14, .ref qf15, .ref qf16, .int v17, .ref qf18, .int v19, .int v20])), (qf10, .inl (cf10, 2002, .inl f10))]) [3, 0] rfl
  have hDc := hD.sub (ws' := [(h0, .inr (5, [.ref qf0, .int u2_2, .int v2, .int v3, .int v4, .int v5, .int v6, .int v7, .ref qf8, .ref qf9, .ref qf10, .ref qf11, .ref qf12, .ref qf13, .ref qf14, .ref qf15, .ref qf16, .int v17, .ref qf18, .int v19, .int v20])), (qf10, .inl (cf10, 2002, .inl f10))]) [3, 0] (by decide) rfl
  have hKc := hK.sub (tys' := [(cf10, .int)]) [0] rfl
  have hFc := va_free (wc := [(h0, .inr (5, [.ref qf0, .int u2_2, .int v2, .int v3, .int v4, .int v5, .int v6, .int v7, .ref qf8, .ref qf9, .ref qf10, .ref qf11, .ref qf12, .ref qf13, .ref qf14, .ref qf15, .ref qf16, .int v17, .ref qf18, .int v19, .int v20])), (qf10, .inl (cf10, 2002, .inl f10))]) hD hS hA [3, 0] rfl
  refine va_calli (va_runV (As := [.int u2_0, .int u1_0]) (rest := []) ⟨hx, hb, hml, hown, hts⟩ (t5_cellOf l dC dI H.size h0 u2_0 u1_0 qf0 u2_2 v2 v3 v4 v5 v6 v7 qf8 qf9 qf10 qf11 qf12 qf13 qf14 qf15 qf16 v17 qf18 v19 v20 cf10 f10 nf u3_0 u3_1 hu_3) (cwV 2 hts gv_h3_22 rfl rfl rfl (by decide +kernel) ⟨Nat.le_of_ble_eq_true rfl, Nat.le_of_ble_eq_true rfl⟩) ⟨fun a U g mk q => by obtain ⟨q0, q1, qP, qK, qD⟩ := q; exact ⟨q0, q1, qP, va_K.moved (u := U) (U := U.calling g mk a) (Vm.Alike.refl U.vm) qK, qD⟩, va_recv hKc hPc (ci := 5) (q0 := 0) rfl rfl, fun U hU hW => ⟨rfl, by rw [hU], by rw [hU]; exact hPc, va_K.moved hW.alike hKc, hDc.weaken (fun _ _ _ _ => trivial)⟩⟩ rfl rfl hl.1 rfl (lv_room (Nat.le_of_ble_eq_true rfl)) dX5_stepElement_13 ⟨Nat.le_of_ble_eq_true rfl, Nat.le_of_ble_eq_true rfl⟩) hS (fun q _ h => hFc q h) hFc ?_
  clear hS
  intro r_3 u t H1 locs ht hvm hw hB hz1 hk1 hS
  obtain ⟨⟩ := u
  obtain ⟨hP1, hK1, hD1⟩ := hB
  rw [ht] at hP1
  have hK1 := va_K.moved hvm.symm hK1
  try dsimp only at hw
  have hPD := va_join (wr := [(qf11, .inl (cf11, 20000, .inl f11)), (qf13, .inl (cf13, 60, .inl f13)), (qf14, .inl (cf14, 60, .inl g902_1)), (qf16, .inl (cf16, 1800, .inl f16))]) (w1 := [(h0, .inr (5, [.ref qf0, .int u2_2, .int v2, .int v3, .int v4, .int v5, .int v6, .int v7, .ref qf8, .ref qf9, .ref qf10, .ref qf11, .ref qf12, .ref qf13, .ref qf14, .ref qf15, .ref qf16, .int v17, .ref qf18, .int v19, .int u3_1])), (qf10, .inl (cf10, 2002, .inl f10))]) hP hD [3, 0] [1, 2, 4, 5] rfl rfl (by decide) (by decide) hk1 hFc hP1 hD1
  clear hP hD
  obtain ⟨hP, hD⟩ := hPD
  replace hK := (hK.sub (tys' := [(cf11, .int), (cf13, .int), (cf14, .int), (cf16, .int)]) [1, 2, 3, 4] rfl).app hK1
  clear hPc hDc hKc hFc hP1 hK1 hD1 hz1 hk1 ht hvm
  generalize H1 = H at hP hS ⊢
  replace hP : va_P (dC, dI) vwCl [(qf11, .inl (cf11, 20000, .inl f11)), (qf13, .inl (cf13, 60, .inl f13)), (qf14, .inl (cf14, 60, .inl g902_1)), (qf16, .inl (cf16, 1800, .inl f16)), (h0, .inr (5, [.ref qf0, .int u2_2, .int v2, .int v3, .int v4, .int v5, .int v6, .int v7, .ref qf8, .ref qf9, .ref qf10, .ref qf11, .ref qf12, .ref qf13, .ref qf14, .ref qf15, .ref qf16, .int v17, .ref qf18, .int v19, .int u3_1])), (qf10, .inl (cf10, 2002, .inl f10))] H := hP
  replace hD : va_D A [(qf11, .inl (cf11, 20000, .inl f11)), (qf13, .inl (cf13, 60, .inl f13)), (qf14, .inl (cf14, 60, .inl g902_1)), (qf16, .inl (cf16, 1800, .inl f16)), (h0, .inr (5, [.ref qf0, .int u2_2, .int v2, .int v3, .int v4, .int v5, .int v6, .int v7, .ref qf8, .ref qf9, .ref qf10, .ref qf11, .ref qf12, .ref qf13, .ref qf14, .ref qf15, .ref qf16, .int v17, .ref qf18, .int v19, .int u3_1])), (qf10, .inl (cf10, 2002, .inl f10))] := hD
  replace hK : va_K (dC, dI) vwCl [(cf11, .int), (cf13, .int), (cf14, .int), (cf16, .int), (cf10, .int)] s := hK
  obtain rfl := hw
  refine lv_istore_n (lv' := [(3, .int u3_0), (2, .int u2_0), (1, .int u1_0), (0, .ref h0)]) hx hb dX5_stepElement_16 rfl hl (by decide) rfl (fun ls hl => ?_)
  refine lv_iload_n hx hb dX5_stepElement_17 rfl (lv_at hl 0 rfl) ?_
  refine lv_if_lt (tgt := 39) hx hb dX5_stepElement_18 (by decide) (fun c_4 => ?_) (fun c_4 => ?_)
  · rw [if_pos c_4] at hsp
    have hr0 := Option.some.inj hsp
    clear hsp
    obtain ⟨hq0, hr1⟩ := Prod.mk.inj hr0
    clear hr0
    obtain ⟨hq1, hr2⟩ := Prod.mk.inj hr1
    clear hr1
    obtain ⟨hq2, hr3⟩ := Prod.mk.inj hr2
    clear hr2
    obtain ⟨hq3, hr4⟩ := Prod.mk.inj hr3
    clear hr3
    subst hq0
    subst hq1
    subst hq2
    subst hq3
    subst hr4
    have hP9 := hP.sub (ws' := [(h0, .inr (5, [.ref qf0, .int u2_2, .int v2, .int v3, .int v4, .int v5, .int v6, .int v7, .ref qf8, .ref qf9, .ref qf10, .ref qf11, .ref qf12, .ref qf13, .ref qf14, .ref qf15, .ref qf16, .int v17, .ref qf18, .int v19, .int u3_1])), (qf14, .inl (cf14, 60, .inl g902_1)), (qf16, .inl (cf16, 1800, .inl f16)), (qf10, .inl (cf10, 2002, .inl f10)), (qf11, .inl (cf11, 20000, .inl f11)), (qf13, .inl (cf13, 60, .inl f13))]) [4, 2, 3, 5, 0, 1] rfl
    have hD9 := hD.sub (ws' := [(h0, .inr (5, [.ref qf0, .int u2_2, .int v2, .int v3, .int v4, .int v5, .int v6, .int v7, .ref qf8, .ref qf9, .ref qf10, .ref qf11, .ref qf12, .ref qf13, .ref qf14, .ref qf15, .ref qf16, .int v17, .ref qf18, .int v19, .int u3_1])), (qf14, .inl (cf14, 60, .inl g902_1)), (qf16, .inl (cf16, 1800, .inl f16)), (qf10, .inl (cf10, 2002, .inl f10)), (qf11, .inl (cf11, 20000, .inl f11)), (qf13, .inl (cf13, 60, .inl f13))]) [4, 2, 3, 5, 0, 1] (by decide) rfl
    have hK9 := hK.sub (tys' := [(cf14, .int), (cf16, .int), (cf10, .int), (cf11, .int), (cf13, .int)]) [2, 3, 4, 0, 1] rfl
    exact W.vret hx hb hr (fun t ht hW => ⟨⟨(), rfl, trivial, by rw [ht]; exact hP9, va_K.moved hW.alike hK9, hD9⟩, hS.F ht⟩) hS.2.2 dX5_stepElement_39
  · rw [if_neg c_4] at hsp
    refine lv_iload_n hx hb dX5_stepElement_21 rfl (lv_at hl 0 rfl) ?_
    refine lv_sipush (v := 20000) hx hb dX5_stepElement_22 (by decide) ?_
    refine lv_icmp_ge (tgt := 39) hx hb dX5_stepElement_25 (by decide) (fun c_5 => ?_) (fun c_5 => ?_)
    · rw [if_pos c_5] at hsp
      have hr0 := Option.some.inj hsp
      clear hsp
      obtain ⟨hq0, hr1⟩ := Prod.mk.inj hr0
      clear hr0
      obtain ⟨hq1, hr2⟩ := Prod.mk.inj hr1
      clear hr1
      obtain ⟨hq2, hr3⟩ := Prod.mk.inj hr2
      clear hr2
      obtain ⟨hq3, hr4⟩ := Prod.mk.inj hr3
      clear hr3
      subst hq0
      subst hq1
      subst hq2
      subst hq3
      subst hr4
      have hP9 := hP.sub (ws' := [(h0, .inr (5, [.ref qf0, .int u2_2, .int v2, .int v3, .int v4, .int v5, .int v6, .int v7, .ref qf8, .ref qf9, .ref qf10, .ref qf11, .ref qf12, .ref qf13, .ref qf14, .ref qf15, .ref qf16, .int v17, .ref qf18, .int v19, .int u3_1])), (qf14, .inl (cf14, 60, .inl g902_1)), (qf16, .inl (cf16, 1800, .inl f16)), (qf10, .inl (cf10, 2002, .inl f10)), (qf11, .inl (cf11, 20000, .inl f11)), (qf13, .inl (cf13, 60, .inl f13))]) [4, 2, 3, 5, 0, 1] rfl
      have hD9 := hD.sub (ws' := [(h0, .inr (5, [.ref qf0, .int u2_2, .int v2, .int v3, .int v4, .int v5, .int v6, .int v7, .ref qf8, .ref qf9, .ref qf10, .ref qf11, .ref qf12, .ref qf13, .ref qf14, .ref qf15, .ref qf16, .int v17, .ref qf18, .int v19, .int u3_1])), (qf14, .inl (cf14, 60, .inl g902_1)), (qf16, .inl (cf16, 1800, .inl f16)), (qf10, .inl (cf10, 2002, .inl f10)), (qf11, .inl (cf11, 20000, .inl f11)), (qf13, .inl (cf13, 60, .inl f13))]) [4, 2, 3, 5, 0, 1] (by decide) rfl
      have hK9 := hK.sub (tys' := [(cf14, .int), (cf16, .int), (cf10, .int), (cf11, .int), (cf13, .int)]) [2, 3, 4, 0, 1] rfl
      exact W.vret hx hb hr (fun t ht hW => ⟨⟨(), rfl, trivial, by rw [ht]; exact hP9, va_K.moved hW.alike hK9, hD9⟩, hS.F ht⟩) hS.2.2 dX5_stepElement_39
    · rw [if_neg c_5] at hsp
      refine lv_aload_n hx hb dX5_stepElement_28 rfl (lv_at hl 3 rfl) ?_
      refine lv_aload_n hx hb dX5_stepElement_29 rfl (lv_at hl 3 rfl) ?_
      refine va_get (D := (dC, dI)) (ci := 5) (v := .ref qf11) (C := RX5) (T := TX5) (N := 21) hx hb hts uV_h3_X5 hown hK hP 4 rfl rfl 11 (by decide) (hts (.fieldLink RX5 23 "ClassMill$Machine" "cell" "[I") mw_h3_123) (fun _ h9 => h9) rfl dX5_stepElement_30 ?_
      refine lv_iload_n hx hb dX5_stepElement_33 rfl (lv_at hl 0 rfl) ?_
      obtain ⟨hi_6, hsp⟩ := ox_in hsp
      refine va_iald hx hb hK hP 0 0 rfl rfl (i := u3_0) hi_6 dX5_stepElement_34 ?_
      refine lv_iconst (v := 1) hx hb dX5_stepElement_35 (by decide) ?_
      obtain ⟨⟨g904_0, g904_1, g904_2, u4_3⟩, hu_4, hsp⟩ := ox_bind hsp
      try dsimp only at hsp
      have hPc := hP.sub (ws' := [(h0, .inr (5, [.ref qf0, .int u2_2, .int v2, .int v3, .int v4, .int v5, .int v6, .int v7, .ref qf8, .ref qf9, .ref qf10, .ref qf11, .ref qf12, .ref qf13, .ref qf14, .ref qf15, .ref qf16, .int v17, .ref qf18, .int v19, .int u3_1])), (qf14, .inl (cf14, 60, .inl g902_1)), (qf16, .inl (cf16, 1800, .inl f16)), (qf13, .inl (cf13, 60, .inl f13))]) [4, 2, 3, 1] rfl
      have hDc := hD.sub (ws' := [(h0, .inr (5, [.ref qf0, .int u2_2, .int v2, .int v3, .int v4, .int v5, .int v6, .int v7, .ref qf8, .ref qf9, .ref qf10, .ref qf11, .ref qf12, .ref qf13, .ref qf14, .ref qf15, .ref qf16, .int v17, .ref qf18, .int v19, .int u3_1])), (qf14, .inl (cf14, 60, .inl g902_1)), (qf16, .inl (cf16, 1800, .inl f16)), (qf13, .inl (cf13, 60, .inl f13))]) [4, 2, 3, 1] (by decide) rfl
      have hKc := hK.sub (tys' := [(cf14, .int), (cf16, .int), (cf13, .int)]) [2, 3, 1] rfl
      have hFc := va_free (wc := [(h0, .inr (5, [.ref qf0, .int u2_2, .int v2, .int v3, .int v4, .int v5, .int v6, .int v7, .ref qf8, .ref qf9, .ref qf10, .ref qf11, .ref qf12, .ref qf13, .ref qf14, .ref qf15, .ref qf16, .int v17, .ref qf18, .int v19, .int u3_1])), (qf14, .inl (cf14, 60, .inl g902_1)), (qf16, .inl (cf16, 1800, .inl f16)), (qf13, .inl (cf13, 60, .inl f13))]) hD hS hA [4, 2, 3, 1] rfl
      refine va_callv (va_runV (As := [.int (f11 (u3_0 : Int32).toNatClampNeg), .int 1]) (rest := []) ⟨hx, hb, hml, hown, hts⟩ (t5_give l dC dI H.size h0 ((f11 (u3_0 : Int32).toNatClampNeg)) 1 qf0 u2_2 v2 v3 v4 v5 v6 v7 qf8 qf9 qf10 qf11 qf12 qf13 qf14 qf15 qf16 v17 qf18 v19 u3_1 cf14 g902_1 cf16 f16 cf13 f13 nf g904_0 g904_1 g904_2 u4_3 hu_4) (cwV 2 hts gv_h3_18 rfl rfl rfl (by decide +kernel) ⟨Nat.le_of_ble_eq_true rfl, Nat.le_of_ble_eq_true rfl⟩) ⟨fun a U g mk q => by obtain ⟨q0, q1, qP, qK, qD⟩ := q; exact ⟨q0, q1, qP, va_K.moved (u := U) (U := U.calling g mk a) (Vm.Alike.refl U.vm) qK, qD⟩, va_recv hKc hPc (ci := 5) (q0 := 0) rfl rfl, fun U hU hW => ⟨rfl, by rw [hU], by rw [hU]; exact hPc, va_K.moved hW.alike hKc, hDc.weaken (fun _ _ _ _ => trivial)⟩⟩ rfl rfl hl.1 rfl (lv_room (Nat.le_of_ble_eq_true rfl)) dX5_stepElement_36 ⟨Nat.le_of_ble_eq_true rfl, Nat.le_of_ble_eq_true rfl⟩) hS (fun q _ h => hFc q h) hFc ?_
      clear hS
      intro u t H1 locs ht hvm hw hB hz1 hk1 hS
      obtain ⟨⟩ := u
      obtain ⟨hP1, hK1, hD1⟩ := hB
      rw [ht] at hP1
      have hK1 := va_K.moved hvm.symm hK1
      try dsimp only at hw
      have hPD := va_join (wr := [(qf11, .inl (cf11, 20000, .inl f11)), (qf10, .inl (cf10, 2002, .inl f10))]) (w1 := [(h0, .inr (5, [.ref qf0, .int u4_3, .int v2, .int v3, .int v4, .int v5, .int v6, .int v7, .ref qf8, .ref qf9, .ref qf10, .ref qf11, .ref qf12, .ref qf13, .ref qf14, .ref qf15, .ref qf16, .int v17, .ref qf18, .int v19, .int u3_1])), (qf14, .inl (cf14, 60, .inl g904_1)), (qf16, .inl (cf16, 1800, .inl g904_2)), (qf13, .inl (cf13, 60, .inl g904_0))]) hP hD [4, 2, 3, 1] [0, 5] rfl rfl (by decide) (by decide) hk1 hFc hP1 hD1
      clear hP hD
      obtain ⟨hP, hD⟩ := hPD
      replace hK := (hK.sub (tys' := [(cf11, .int), (cf10, .int)]) [0, 4] rfl).app hK1
      clear hPc hDc hKc hFc hP1 hK1 hD1 hz1 hk1 ht hvm
      generalize H1 = H at hP hS ⊢
      replace hP : va_P (dC, dI) vwCl [(qf11, .inl (cf11, 20000, .inl f11)), (qf10, .inl (cf10, 2002, .inl f10)), (h0, .inr (5, [.ref qf0, .int u4_3, .int v2, .int v3, .int v4, .int v5, .int v6, .int v7, .ref qf8, .ref qf9, .ref qf10, .ref qf11, .ref qf12, .ref qf13, .ref qf14, .ref qf15, .ref qf16, .int v17, .ref qf18, .int v19, .int u3_1])), (qf14, .inl (cf14, 60, .inl g904_1)), (qf16, .inl (cf16, 1800, .inl g904_2)), (qf13, .inl (cf13, 60, .inl g904_0))] H := hP
      replace hD : va_D A [(qf11, .inl (cf11, 20000, .inl f11)), (qf10, .inl (cf10, 2002, .inl f10)), (h0, .inr (5, [.ref qf0, .int u4_3, .int v2, .int v3, .int v4, .int v5, .int v6, .int v7, .ref qf8, .ref qf9, .ref qf10, .ref qf11, .ref qf12, .ref qf13, .ref qf14, .ref qf15, .ref qf16, .int v17, .ref qf18, .int v19, .int u3_1])), (qf14, .inl (cf14, 60, .inl g904_1)), (qf16, .inl (cf16, 1800, .inl g904_2)), (qf13, .inl (cf13, 60, .inl g904_0))] := hD
      replace hK : va_K (dC, dI) vwCl [(cf11, .int), (cf10, .int), (cf14, .int), (cf16, .int), (cf13, .int)] s := hK
      have hr0 := Option.some.inj hsp
      clear hsp
      obtain ⟨hq0, hr1⟩ := Prod.mk.inj hr0
      clear hr0
      obtain ⟨hq1, hr2⟩ := Prod.mk.inj hr1
      clear hr1
      obtain ⟨hq2, hr3⟩ := Prod.mk.inj hr2
      clear hr2
      obtain ⟨hq3, hr4⟩ := Prod.mk.inj hr3
      clear hr3
      subst hq0
      subst hq1
      subst hq2
      subst hq3
      subst hr4
      have hP9 := hP.sub (ws' := [(h0, .inr (5, [.ref qf0, .int u4_3, .int v2, .int v3, .int v4, .int v5, .int v6, .int v7, .ref qf8, .ref qf9, .ref qf10, .ref qf11, .ref qf12, .ref qf13, .ref qf14, .ref qf15, .ref qf16, .int v17, .ref qf18, .int v19, .int u3_1])), (qf14, .inl (cf14, 60, .inl g904_1)), (qf16, .inl (cf16, 1800, .inl g904_2)), (qf10, .inl (cf10, 2002, .inl f10)), (qf11, .inl (cf11, 20000, .inl f11)), (qf13, .inl (cf13, 60, .inl g904_0))]) [2, 3, 4, 1, 0, 5] rfl
      have hD9 := hD.sub (ws' := [(h0, .inr (5, [.ref qf0, .int u4_3, .int v2, .int v3, .int v4, .int v5, .int v6, .int v7, .ref qf8, .ref qf9, .ref qf10, .ref qf11, .ref qf12, .ref qf13, .ref qf14, .ref qf15, .ref qf16, .int v17, .ref qf18, .int v19, .int u3_1])), (qf14, .inl (cf14, 60, .inl g904_1)), (qf16, .inl (cf16, 1800, .inl g904_2)), (qf10, .inl (cf10, 2002, .inl f10)), (qf11, .inl (cf11, 20000, .inl f11)), (qf13, .inl (cf13, 60, .inl g904_0))]) [2, 3, 4, 1, 0, 5] (by decide) rfl
      have hK9 := hK.sub (tys' := [(cf14, .int), (cf16, .int), (cf10, .int), (cf11, .int), (cf13, .int)]) [2, 3, 1, 0, 4] rfl
      exact W.vret hx hb hr (fun t ht hW => ⟨⟨(), rfl, trivial, by rw [ht]; exact hP9, va_K.moved hW.alike hK9, hD9⟩, hS.F ht⟩) hS.2.2 dX5_stepElement_39
def sp_t5_stepGiveElement (nf : Nat) (a1 : Int32) (v1 : Int32) (v4 : Int32) (v17 : Int32) (v20 : Int32) (f14 : Nat → Int32) (f16 : Nat → Int32) (f10 : Nat → Int32) (f11 : Nat → Int32) (f13 : Nat → Int32) (f9 : Nat → Int32) (f0_0_1 : Nat → Int32) : Option ((Nat → Int32) × (Nat → Int32) × (Nat → Int32) × Int32 × Int32) := ((sp_t5_pop nf v1 v17 f14 f16).bind (fun p1 => ((sp_t5_pop nf p1.2.2 v17 p1.2.1 f16).bind (fun p2 => ((sp_t5_pop nf p2.2.2 v17 p2.2.1 f16).bind (fun p3 => ((sp_t5_cellOf nf p3.1 p2.1 v4 v20 f10).bind (fun p4 => (if p4.1 < 0 then (some (f11, f13, p3.2.1, p3.2.2, p4.2)) else (if p4.1 < 20000 then (if a1 = 83 then ((sp_t5_isObject nf p1.1 v4).bind (fun p6 => (if p6 = 0 then (if p4.1 < 0 then none else if 20000 ≤ (p4.1 : Int32).toNatClampNeg then none else ((sp_t5_goOn nf 1 v17 f13).bind (fun p7 => (some ((upd f11 (p4.1 : Int32).toNatClampNeg p1.1), p7, p3.2.1, p3.2.2, p4.2))))) else (if p1.1 < 0 then none else if 2001 ≤ (p1.1 : Int32).toNatClampNeg then none else (if p3.1 < 0 then none else if 2001 ≤ (p3.1 : Int32).toNatClampNeg then none else ((sp_t4_elementOf nf (f9 (p3.1 : Int32).toNatClampNeg)).bind (fun p8 => ((sp_t4_fits nf (f9 (p1.1 : Int32).toNatClampNeg) p8 f0_0_1).bind (fun p9 => (if p9 = 0 then (some (f11, f13, p3.2.1, p3.2.2, (-7))) else (if p4.1 < 0 then none else if 20000 ≤ (p4.1 : Int32).toNatClampNeg then none else ((sp_t5_goOn nf 1 v17 f13).bind (fun p10 => (some ((upd f11 (p4.1 : Int32).toNatClampNeg p1.1), p10, p3.2.1, p3.2.2, p4.2))))))))))))))) else (if p4.1 < 0 then none else if 20000 ≤ (p4.1 : Int32).toNatClampNeg then none else ((sp_t5_goOn nf 1 v17 f13).bind (fun p5 => (some ((upd f11 (p4.1 : Int32).toNatClampNeg p1.1), p5, p3.2.1, p3.2.2, p4.2)))))) else (some (f11, f13, p3.2.1, p3.2.2, p4.2))))))))))))
set_option maxHeartbeats 4000000 in
set_option maxRecDepth 100000 in
/-- ClassMill$Machine.stepGiveElement -/
theorem t5_stepGiveElement (l : Launch) (dC : Nat → ClassId) (dI : Nat → Nat → Nat) (sz : Nat) (h0 : Nat) (a1 : Int32) (qf0 : Nat) (v1 : Int32) (v2 : Int32) (v3 : Int32) (v4 : Int32) (v5 : Int32) (v6 : Int32) (v7 : Int32) (qf8 : Nat) (qf9 : Nat) (qf10 : Nat) (qf11 : Nat) (qf12 : Nat) (qf13 : Nat) (qf14 : Nat) (qf15 : Nat) (qf16 : Nat) (v17 : Int32) (qf18 : Nat) (v19 : Int32) (v20 : Int32) (cf14 : ClassId) (f14 : (Nat → Int32)) (cf16 : ClassId) (f16 : (Nat → Int32)) (cf10 : ClassId) (f10 : (Nat → Int32)) (cf11 : ClassId) (f11 : (Nat → Int32)) (cf13 : ClassId) (f13 : (Nat → Int32)) (qf0_0 : Nat) (qf0_1 : Nat) (qf0_2 : Nat) (v0_3 : Int32) (v0_4 : Int32) (qf0_5 : Nat) (qf0_6 : Nat) (qf0_7 : Nat) (cf9 : ClassId) (f9 : (Nat → Int32)) (qf0_0_0 : Nat) (qf0_0_1 : Nat) (cf0_0_1 : ClassId) (f0_0_1 : (Nat → Int32)) (nf : Nat) (o11 : (Nat → Int32)) (o13 : (Nat → Int32)) (o14 : (Nat → Int32)) (w1 : Int32) (w20 : Int32) (hsp : sp_t5_stepGiveElement nf a1 v1 v4 v17 v20 f14 f16 f10 f11 f13 f9 f0_0_1 = some (o11, o13, o14, w1, w20)) : Met l yX5_stepGiveElement (.code yX5_stepGiveElement cX5_stepGiveElement 6 none :: VS_h3) ({ frames := 2, cells := 0, slots := 0, locals := 43 }) (va_Pc [.ref h0, .int a1] (fun U => U.heap.size = sz ∧ va_P (dC, dI) vwCl [(h0, .inr (5, [.ref qf0, .int v1, .int v2, .int v3, .int v4, .int v5, .int v6, .int v7, .ref qf8, .ref qf9, .ref qf10, .ref qf11, .ref qf12, .ref qf13, .ref qf14, .ref qf15, .ref qf16, .int v17, .ref qf18, .int v19, .int v20])), (qf14, .inl (cf14, 60, .inl f14)), (qf16, .inl (cf16, 1800, .inl f16)), (qf10, .inl (cf10, 2002, .inl f10)), (qf11, .inl (cf11, 20000, .inl f11)), (qf13, .inl (cf13, 60, .inl f13)), (qf0, .inr (7, [.ref qf0_0, .ref qf0_1, .ref qf0_2, .int v0_3, .int v0_4, .ref qf0_5, .ref qf0_6, .ref qf0_7])), (qf9, .inl (cf9, 2001, .inl f9)), (qf0_0, .inr (4, [.ref qf0_0_0, .ref qf0_0_1])), (qf0_0_1, .inl (cf0_0_1, 256, .inl f0_0_1))] U.heap ∧ va_K (dC, dI) vwCl [(cf14, .int), (cf16, .int), (cf10, .int), (cf11, .int), (cf13, .int), (cf9, .int), (cf0_0_1, .boolean)] U ∧ va_D (fun _ => True) [(h0, .inr (5, [.ref qf0, .int v1, .int v2, .int v3, .int v4, .int v5, .int v6, .int v7, .ref qf8, .ref qf9, .ref qf10, .ref qf11, .ref qf12, .ref qf13, .ref qf14, .ref qf15, .ref qf16, .int v17, .ref qf18, .int v19, .int v20])), (qf14, .inl (cf14, 60, .inl f14)), (qf16, .inl (cf16, 1800, .inl f16)), (qf10, .inl (cf10, 2002, .inl f10)), (qf11, .inl (cf11, 20000, .inl f11)), (qf13, .inl (cf13, 60, .inl f13)), (qf0, .inr (7, [.ref qf0_0, .ref qf0_1, .ref qf0_2, .int v0_3, .int v0_4, .ref qf0_5, .ref qf0_6, .ref qf0_7])), (qf9, .inl (cf9, 2001, .inl f9)), (qf0_0, .inr (4, [.ref qf0_0_0, .ref qf0_0_1])), (qf0_0_1, .inl (cf0_0_1, 256, .inl f0_0_1))])) (va_Qv (fun (u : Unit) => match u with | () => True) (fun (u : Unit) (t : State) => match u with | () => va_P (dC, dI) vwCl [(h0, .inr (5, [.ref qf0, .int w1, .int v2, .int v3, .int v4, .int v5, .int v6, .int v7, .ref qf8, .ref qf9, .ref qf10, .ref qf11, .ref qf12, .ref qf13, .ref qf14, .ref qf15, .ref qf16, .int v17, .ref qf18, .int v19, .int w20])), (qf14, .inl (cf14, 60, .inl o14)), (qf16, .inl (cf16, 1800, .inl f16)), (qf10, .inl (cf10, 2002, .inl f10)), (qf11, .inl (cf11, 20000, .inl o11)), (qf13, .inl (cf13, 60, .inl o13)), (qf0, .inr (7, [.ref qf0_0, .ref qf0_1, .ref qf0_2, .int v0_3, .int v0_4, .ref qf0_5, .ref qf0_6, .ref qf0_7])), (qf9, .inl (cf9, 2001, .inl f9)), (qf0_0, .inr (4, [.ref qf0_0_0, .ref qf0_0_1])), (qf0_0_1, .inl (cf0_0_1, 256, .inl f0_0_1))] t.heap ∧ va_K (dC, dI) vwCl [(cf14, .int), (cf16, .int), (cf10, .int), (cf11, .int), (cf13, .int), (cf9, .int), (cf0_0_1, .boolean)] t ∧ va_D (va_A [(h0, .inr (5, [.ref qf0, .int v1, .int v2, .int v3, .int v4, .int v5, .int v6, .int v7, .ref qf8, .ref qf9, .ref qf10, .ref qf11, .ref qf12, .ref qf13, .ref qf14, .ref qf15, .ref qf16, .int v17, .ref qf18, .int v19, .int v20])), (qf14, .inl (cf14, 60, .inl f14)), (qf16, .inl (cf16, 1800, .inl f16)), (qf10, .inl (cf10, 2002, .inl f10)), (qf11, .inl (cf11, 20000, .inl f11)), (qf13, .inl (cf13, 60, .inl f13)), (qf0, .inr (7, [.ref qf0_0, .ref qf0_1, .ref qf0_2, .int v0_3, .int v0_4, .ref qf0_5, .ref qf0_6, .ref qf0_7])), (qf9, .inl (cf9, 2001, .inl f9)), (qf0_0, .inr (4, [.ref qf0_0_0, .ref qf0_0_1])), (qf0_0_1, .inl (cf0_0_1, 256, .inl f0_0_1))] sz) [(h0, .inr (5, [.ref qf0, .int w1, .int v2, .int v3, .int v4, .int v5, .int v6, .int v7, .ref qf8, .ref qf9, .ref qf10, .ref qf11, .ref qf12, .ref qf13, .ref qf14, .ref qf15, .ref qf16, .int v17, .ref qf18, .int v19, .int w20])), (qf14, .inl (cf14, 60, .inl o14)), (qf16, .inl (cf16, 1800, .inl f16)), (qf10, .inl (cf10, 2002, .inl f10)), (qf11, .inl (cf11, 20000, .inl o11)), (qf13, .inl (cf13, 60, .inl o13)), (qf0, .inr (7, [.ref qf0_0, .ref qf0_1, .ref qf0_2, .int v0_3, .int v0_4, .ref qf0_5, .ref qf0_6, .ref qf0_7])), (qf9, .inl (cf9, 2001, .inl f9)), (qf0_0, .inr (4, [.ref qf0_0_0, .ref qf0_0_1])), (qf0_0_1, .inl (cf0_0_1, 256, .inl f0_0_1))]) (va_A [(h0, .inr (5, [.ref qf0, .int v1, .int v2, .int v3, .int v4, .int v5, .int v6, .int v7, .ref qf8, .ref qf9, .ref qf10, .ref qf11, .ref qf12, .ref qf13, .ref qf14, .ref qf15, .ref qf16, .int v17, .ref qf18, .int v19, .int v20])), (qf14, .inl (cf14, 60, .inl f14)), (qf16, .inl (cf16, 1800, .inl f16)), (qf10, .inl (cf10, 2002, .inl f10)), (qf11, .inl (cf11, 20000, .inl f11)), (qf13, .inl (cf13, 60, .inl f13)), (qf0, .inr (7, [.ref qf0_0, .ref qf0_1, .ref qf0_2, .int v0_3, .int v0_4, .ref qf0_5, .ref qf0_6, .ref qf0_7])), (qf9, .inl (cf9, 2001, .inl f9)), (qf0_0, .inr (4, [.ref qf0_0_0, .ref qf0_0_1])), (qf0_0_1, .inl (cf0_0_1, 256, .inl f0_0_1))] sz)) 0 0 (va_A [(h0, .inr (5, [.ref qf0, .int v1, .int v2, .int v3, .int v4, .int v5, .int v6, .int v7, .ref qf8, .ref qf9, .ref qf10, .ref qf11, .ref qf12, .ref qf13, .ref qf14, .ref qf15, .ref qf16, .int v17, .ref qf18, .int v19, .int v20])), (qf14, .inl (cf14, 60, .inl f14)), (qf16, .inl (cf16, 1800, .inl f16)), (qf10, .inl (cf10, 2002, .inl f10)), (qf11, .inl (cf11, 20000, .inl f11)), (qf13, .inl (cf13, 60, .inl f13)), (qf0, .inr (7, [.ref qf0_0, .ref qf0_1, .ref qf0_2, .int v0_3, .int v0_4, .ref qf0_5, .ref qf0_6, .ref qf0_7])), (qf9, .inl (cf9, 2001, .inl f9)), (qf0_0, .inr (4, [.ref qf0_0_0, .ref qf0_0_1])), (qf0_0_1, .inl (cf0_0_1, 256, .inl f0_0_1))] sz) := by
  refine Met.ofW (cc := cX5_stepGiveElement) (maxL := 6) (ret := none) (by decide) rfl ?_
  intro p e s m args below meth c s₁ B hml hv
  obtain ⟨rfl, hsz, hP, hK, hD0⟩ := hv
  have hx := B.exec
  have hb := B.bytes
  have hr := B.returns
  have hts := atoms_spec (ws := (.code yX5_stepGiveElement cX5_stepGiveElement 6 none :: VS_h3)) B.pre
  replace hts := fun w (h : w ∈ VS_h3) => hts w (List.mem_cons_of_mem _ h)
  have hown : s.vm.findClass RX5 = some m.cls := findClass_of_methodNamed B.named
  have hlocks := B.notSynchronized
  subst hsz
  have hD := hD0.self (sz := s.heap.size)
  generalize hAe : va_A [(h0, .inr (5, [.ref qf0, .int v1, .int v2, .int v3, .int v4, .int v5, .int v6, .int v7, .ref qf8, .ref qf9, .ref qf10, .ref qf11, .ref qf12, .ref qf13, .ref qf14, .ref qf15, .ref qf16, .int v17, .ref qf18, .int v19, .int v20])), (qf14, .inl (cf14, 60, .inl f14)), (qf16, .inl (cf16, 1800, .inl f16)), (qf10, .inl (cf10, 2002, .inl f10)), (qf11, .inl (cf11, 20000, .inl f11)), (qf13, .inl (cf13, 60, .inl f13)), (qf0, .inr (7, [.ref qf0_0, .ref qf0_1, .ref qf0_2, .int v0_3, .int v0_4, .ref qf0_5, .ref qf0_6, .ref qf0_7])), (qf9, .inl (cf9, 2001, .inl f9)), (qf0_0, .inr (4, [.ref qf0_0_0, .ref qf0_0_1])), (qf0_0_1, .inl (cf0_0_1, 256, .inl f0_0_1))] s.heap.size = A at hD  ⊢
  have hA : ∀ q : Nat, s.heap.size ≤ q → A q := fun q h => by rw [← hAe]; exact Or.inr h
  have hP : va_P (dC, dI) vwCl [(h0, .inr (5, [.ref qf0, .int v1, .int v2, .int v3, .int v4, .int v5, .int v6, .int v7, .ref qf8, .ref qf9, .ref qf10, .ref qf11, .ref qf12, .ref qf13, .ref qf14, .ref qf15, .ref qf16, .int v17, .ref qf18, .int v19, .int v20])), (qf14, .inl (cf14, 60, .inl f14)), (qf16, .inl (cf16, 1800, .inl f16)), (qf10, .inl (cf10, 2002, .inl f10)), (qf11, .inl (cf11, 20000, .inl f11)), (qf13, .inl (cf13, 60, .inl f13)), (qf0, .inr (7, [.ref qf0_0, .ref qf0_1, .ref qf0_2, .int v0_3, .int v0_4, .ref qf0_5, .ref qf0_6, .ref qf0_7])), (qf9, .inl (cf9, 2001, .inl f9)), (qf0_0, .inr (4, [.ref qf0_0_0, .ref qf0_0_1])), (qf0_0_1, .inl (cf0_0_1, 256, .inl f0_0_1))] s.heap := hP
  have hl := lv_entry ([.ref h0, .int a1]) (n := 6) (Nat.le_of_ble_eq_true rfl)
  rw [lg_entry_eq]
  generalize (lg_sl ([.ref h0, .int a1]) ++ List.replicate (6 - (lg_sl ([.ref h0, .int a1])).length) Slot.unset).toArray = ls at hl ⊢
  have hl : lv_has ls 6 [(0, .ref h0), (1, .int a1)] := hl
  obtain ⟨H, hH⟩ : ∃ H : Heap, s.heap = H := ⟨_, rfl⟩
  rw [hH] at hP ⊢
  have hS : va_S A s.heap H [] := by rw [← hH]; exact va_S.rf
  obtain ⟨locs, hlo⟩ : ∃ locs : List Loc, locs = [] := ⟨_, rfl⟩
  rw [← hlo] at hS ⊢
  unfold sp_t5_stepGiveElement at hsp
  refine lv_aload_n hx hb dX5_stepGiveElement_0 rfl (lv_at hl 0 rfl) ?_
  obtain ⟨⟨u1_0, g901_1, u1_2⟩, hu_1, hsp⟩ := ox_bind hsp
  try dsimp only at hsp
  have hPc := hP.sub (ws' := [(h0, .inr (5, [.ref qf0, .int v1, .int v2, .int v3, .int v4, .int v5, .int v6, .int v7, .ref qf8, .ref qf9, .ref qf10, .ref qf11, .ref qf12, .ref qf13, .ref qf14, .ref qf15, .ref qf16, .int v17, .ref qf18, .int v19, .int v20])), (qf14, .inl (cf14, 60, .inl f14)), (qf16, .inl (cf16, 1800, .inl f16))]) [0, 1, 2] rfl
  have hDc := hD.sub (ws' := [(h0, .inr (5, [.ref qf0, .int v1, .int v2, .int v3, .int v4, .int v5, .int v6, .int v7, .ref qf8, .ref qf9, .ref qf10, .ref qf11, .ref qf12, .ref qf13, .ref qf14, .ref qf15, .ref qf16, .int v17, .ref qf18, .int v19, .int v20])), (qf14, .inl (cf14, 60, .inl f14)), (qf16, .inl (cf16, 1800, .inl f16))]) [0, 1, 2] (by decide) rfl
  have hKc := hK.sub (tys' := [(cf14, .int), (cf16, .int)]) [0, 1] rfl
  have hFc := va_free (wc := [(h0, .inr (5, [.ref qf0, .int v1, .int v2, .int v3, .int v4, .int v5, .int v6, .int v7, .ref qf8, .ref qf9, .ref qf10, .ref qf11, .ref qf12, .ref qf13, .ref qf14, .ref qf15, .ref qf16, .int v17, .ref qf18, .int v19, .int v20])), (qf14, .inl (cf14, 60, .inl f14)), (qf16, .inl (cf16, 1800, .inl f16))]) hD hS hA [0, 1, 2] rfl
  refine va_calli (va_runV (As := []) (rest := []) ⟨hx, hb, hml, hown, hts⟩ (t5_pop l dC dI H.size h0 qf0 v1 v2 v3 v4 v5 v6 v7 qf8 qf9 qf10 qf11 qf12 qf13 qf14 qf15 qf16 v17 qf18 v19 v20 cf14 f14 cf16 f16 nf u1_0 g901_1 u1_2 hu_1) (cwV 0 hts gv_h3_19 rfl rfl rfl (by decide +kernel) ⟨Nat.le_of_ble_eq_true rfl, Nat.le_of_ble_eq_true rfl⟩) ⟨fun a U g mk q => by obtain ⟨q0, q1, qP, qK, qD⟩ := q; exact ⟨q0, q1, qP, va_K.moved (u := U) (U := U.calling g mk a) (Vm.Alike.refl U.vm) qK, qD⟩, va_recv hKc hPc (ci := 5) (q0 := 0) rfl rfl, fun U hU hW => ⟨rfl, by rw [hU], by rw [hU]; exact hPc, va_K.moved hW.alike hKc, hDc.weaken (fun _ _ _ _ => trivial)⟩⟩ rfl rfl hl.1 rfl (lv_room (Nat.le_of_ble_eq_true rfl)) dX5_stepGiveElement_1 ⟨Nat.le_of_ble_eq_true rfl, Nat.le_of_ble_eq_true rfl⟩) hS (fun q _ h => hFc q h) hFc ?_
  clear hS
  intro r_1 u t H1 locs ht hvm hw hB hz1 hk1 hS
  obtain ⟨⟩ := u
  obtain ⟨hP1, hK1, hD1⟩ := hB
  rw [ht] at hP1
  have hK1 := va_K.moved hvm.symm hK1
  try dsimp only at hw
  have hPD := va_join (wr := [(qf10, .inl (cf10, 2002, .inl f10)), (qf11, .inl (cf11, 20000, .inl f11)), (qf13, .inl (cf13, 60, .inl f13)), (qf0, .inr (7, [.ref qf0_0, .ref qf0_1, .ref qf0_2, .int v0_3, .int v0_4, .ref qf0_5, .ref qf0_6, .ref qf0_7])), (qf9, .inl (cf9, 2001, .inl f9)), (qf0_0, .inr (4, [.ref qf0_0_0, .ref qf0_0_1])), (qf0_0_1, .inl (cf0_0_1, 256, .inl f0_0_1))]) (w1 := [(h0, .inr (5, [.ref qf0, .int u1_2, .int v2, .int v3, .int v4, .int v5, .int v6, .int v7, .ref qf8, .ref qf9, .ref qf10, .ref qf11, .ref qf12, .ref qf13, .ref qf14, .ref qf15, .ref qf16, .int v17, .ref qf18, .int v19, .int v20])), (qf14, .inl (cf14, 60, .inl g901_1)), (qf16, .inl (cf16, 1800, .inl f16))]) hP hD [0, 1, 2] [3, 4, 5, 6, 7, 8, 9] rfl rfl (by decide) (by decide) hk1 hFc hP1 hD1
  clear hP hD
  obtain ⟨hP, hD⟩ := hPD
  replace hK := (hK.sub (tys' := [(cf10, .int), (cf11, .int), (cf13, .int), (cf9, .int), (cf0_0_1, .boolean)]) [2, 3, 4, 5, 6] rfl).app hK1
  clear hPc hDc hKc hFc hP1 hK1 hD1 hz1 hk1 ht hvm
  generalize H1 = H at hP hS ⊢
  replace hP : va_P (dC, dI) vwCl [(qf10, .inl (cf10, 2002, .inl f10)), (qf11, .inl (cf11, 20000, .inl f11)), (qf13, .inl (cf13, 60, .inl f13)), (qf0, .inr (7, [.ref qf0_0, .ref qf0_1, .ref qf0_2, .int v0_3, .int v0_4, .ref qf0_5, .ref qf0_6, .ref qf0_7])), (qf9, .inl (cf9, 2001, .inl f9)), (qf0_0, .inr (4, [.ref qf0_0_0, .ref qf0_0_1])), (qf0_0_1, .inl (cf0_0_1, 256, .inl f0_0_1)), (h0, .inr (5, [.ref qf0, .int u1_2, .int v2, .int v3, .int v4, .int v5, .int v6, .int v7, .ref qf8, .ref qf9, .ref qf10, .ref qf11, .ref qf12, .ref qf13, .ref qf14, .ref qf15, .ref qf16, .int v17, .ref qf18, .int v19, .int v20])), (qf14, .inl (cf14, 60, .inl g901_1)), (qf16, .inl (cf16, 1800, .inl f16))] H := hP
  replace hD : va_D A [(qf10, .inl (cf10, 2002, .inl f10)), (qf11, .inl (cf11, 20000, .inl f11)), (qf13, .inl (cf13, 60, .inl f13)), (qf0, .inr (7, [.ref qf0_0, .ref qf0_1, .ref qf0_2, .int v0_3, .int v0_4, .ref qf0_5, .ref qf0_6, .ref qf0_7])), (qf9, .inl (cf9, 2001, .inl f9)), (qf0_0, .inr (4, [.ref qf0_0_0, .ref qf0_0_1])), (qf0_0_1, .inl (cf0_0_1, 256, .inl f0_0_1)), (h0, .inr (5, [.ref qf0, .int u1_2, .int v2, .int v3, .int v4, .int v5, .int v6, .int v7, .ref qf8, .ref qf9, .ref qf10, .ref qf11, .ref qf12, .ref qf13, .ref qf14, .ref qf15, .ref qf16, .int v17, .ref qf18, .int v19, .int v20])), (qf14, .inl (cf14, 60, .inl g901_1)), (qf16, .inl (cf16, 1800, .inl f16))] := hD
  replace hK : va_K (dC, dI) vwCl [(cf10, .int), (cf11, .int), (cf13, .int), (cf9, .int), (cf0_0_1, .boolean), (cf14, .int), (cf16, .int)] s := hK
  obtain rfl := hw
  refine lv_istore_n (lv' := [(2, .int u1_0), (0, .ref h0), (1, .int a1)]) hx hb dX5_stepGiveElement_4 rfl hl (by decide) rfl (fun ls hl => ?_)
  refine lv_aload_n hx hb dX5_stepGiveElement_5 rfl (lv_at hl 1 rfl) ?_
  obtain ⟨⟨u2_0, g902_1, u2_2⟩, hu_2, hsp⟩ := ox_bind hsp
  try dsimp only at hsp
  have hPc := hP.sub (ws' := [(h0, .inr (5, [.ref qf0, .int u1_2, .int v2, .int v3, .int v4, .int v5, .int v6, .int v7, .ref qf8, .ref qf9, .ref qf10, .ref qf11, .ref qf12, .ref qf13, .ref qf14, .ref qf15, .ref qf16, .int v17, .ref qf18, .int v19, .int v20])), (qf14, .inl (cf14, 60, .inl g901_1)), (qf16, .inl (cf16, 1800, .inl f16))]) [7, 8, 9] rfl
  have hDc := hD.sub (ws' := [(h0, .inr (5, [.ref qf0, .int u1_2, .int v2, .int v3, .int v4, .int v5, .int v6, .int v7, .ref qf8, .ref qf9, .ref qf10, .ref qf11, .ref qf12, .ref qf13, .ref qf14, .ref qf15, .ref qf16, .int v17, .ref qf18, .int v19, .int v20])), (qf14, .inl (cf14, 60, .inl g901_1)), (qf16, .inl (cf16, 1800, .inl f16))]) [7, 8, 9] (by decide) rfl
  have hKc := hK.sub (tys' := [(cf14, .int), (cf16, .int)]) [5, 6] rfl
  have hFc := va_free (wc := [(h0, .inr (5, [.ref qf0, .int u1_2, .int v2, .int v3, .int v4, .int v5, .int v6, .int v7, .ref qf8, .ref qf9, .ref qf10, .ref qf11, .ref qf12, .ref qf13, .ref qf14, .ref qf15, .ref qf16, .int v17, .ref qf18, .int v19, .int v20])), (qf14, .inl (cf14, 60, .inl g901_1)), (qf16, .inl (cf16, 1800, .inl f16))]) hD hS hA [7, 8, 9] rfl
  refine va_calli (va_runV (As := []) (rest := []) ⟨hx, hb, hml, hown, hts⟩ (t5_pop l dC dI H.size h0 qf0 u1_2 v2 v3 v4 v5 v6 v7 qf8 qf9 qf10 qf11 qf12 qf13 qf14 qf15 qf16 v17 qf18 v19 v20 cf14 g901_1 cf16 f16 nf u2_0 g902_1 u2_2 hu_2) (cwV 0 hts gv_h3_19 rfl rfl rfl (by decide +kernel) ⟨Nat.le_of_ble_eq_true rfl, Nat.le_of_ble_eq_true rfl⟩) ⟨fun a U g mk q => by obtain ⟨q0, q1, qP, qK, qD⟩ := q; exact ⟨q0, q1, qP, va_K.moved (u := U) (U := U.calling g mk a) (Vm.Alike.refl U.vm) qK, qD⟩, va_recv hKc hPc (ci := 5) (q0 := 0) rfl rfl, fun U hU hW => ⟨rfl, by rw [hU], by rw [hU]; exact hPc, va_K.moved hW.alike hKc, hDc.weaken (fun _ _ _ _ => trivial)⟩⟩ rfl rfl hl.1 rfl (lv_room (Nat.le_of_ble_eq_true rfl)) dX5_stepGiveElement_6 ⟨Nat.le_of_ble_eq_true rfl, Nat.le_of_ble_eq_true rfl⟩) hS (fun q _ h => hFc q h) hFc ?_
  clear hS
  intro r_2 u t H1 locs ht hvm hw hB hz1 hk1 hS
  obtain ⟨⟩ := u
  obtain ⟨hP1, hK1, hD1⟩ := hB
  rw [ht] at hP1
  have hK1 := va_K.moved hvm.symm hK1
  try dsimp only at hw
  have hPD := va_join (wr := [(qf10, .inl (cf10, 2002, .inl f10)), (qf11, .inl (cf11, 20000, .inl f11)), (qf13, .inl (cf13, 60, .inl f13)), (qf0, .inr (7, [.ref qf0_0, .ref qf0_1, .ref qf0_2, .int v0_3, .int v0_4, .ref qf0_5, .ref qf0_6, .ref qf0_7])), (qf9, .inl (cf9, 2001, .inl f9)), (qf0_0, .inr (4, [.ref qf0_0_0, .ref qf0_0_1])), (qf0_0_1, .inl (cf0_0_1, 256, .inl f0_0_1))]) (w1 := [(h0, .inr (5, [.ref qf0, .int u2_2, .int v2, .int v3, .int v4, .int v5, .int v6, .int v7, .ref qf8, .ref qf9, .ref qf10, .ref qf11, .ref qf12, .ref qf13, .ref qf14, .ref qf15, .ref qf16, .int v17, .ref qf18, .int v19, .int v20])), (qf14, .inl (cf14, 60, .inl g902_1)), (qf16, .inl (cf16, 1800, .inl f16))]) hP hD [7, 8, 9] [0, 1, 2, 3, 4, 5, 6] rfl rfl (by decide) (by decide) hk1 hFc hP1 hD1
  clear hP hD
  obtain ⟨hP, hD⟩ := hPD
  replace hK := (hK.sub (tys' := [(cf10, .int), (cf11, .int), (cf13, .int), (cf9, .int), (cf0_0_1, .boolean)]) [0, 1, 2, 3, 4] rfl).app hK1
  clear hPc hDc hKc hFc hP1 hK1 hD1 hz1 hk1 ht hvm
  generalize H1 = H at hP hS ⊢
  replace hP : va_P (dC, dI) vwCl [(qf10, .inl (cf10, 2002, .inl f10)), (qf11, .inl (cf11, 20000, .inl f11)), (qf13, .inl (cf13, 60, .inl f13)), (qf0, .inr (7, [.ref qf0_0, .ref qf0_1, .ref qf0_2, .int v0_3, .int v0_4, .ref qf0_5, .ref qf0_6, .ref qf0_7])), (qf9, .inl (cf9, 2001, .inl f9)), (qf0_0, .inr (4, [.ref qf0_0_0, .ref qf0_0_1])), (qf0_0_1, .inl (cf0_0_1, 256, .inl f0_0_1)), (h0, .inr (5, [.ref qf0, .int u2_2, .int v2, .int v3, .int v4, .int v5, .int v6, .int v7, .ref qf8, .ref qf9, .ref qf10, .ref qf11, .ref qf12, .ref qf13, .ref qf14, .ref qf15, .ref qf16, .int v17, .ref qf18, .int v19, .int v20])), (qf14, .inl (cf14, 60, .inl g902_1)), (qf16, .inl (cf16, 1800, .inl f16))] H := hP
  replace hD : va_D A [(qf10, .inl (cf10, 2002, .inl f10)), (qf11, .inl (cf11, 20000, .inl f11)), (qf13, .inl (cf13, 60, .inl f13)), (qf0, .inr (7, [.ref qf0_0, .ref qf0_1, .ref qf0_2, .int v0_3, .int v0_4, .ref qf0_5, .ref qf0_6, .ref qf0_7])), (qf9, .inl (cf9, 2001, .inl f9)), (qf0_0, .inr (4, [.ref qf0_0_0, .ref qf0_0_1])), (qf0_0_1, .inl (cf0_0_1, 256, .inl f0_0_1)), (h0, .inr (5, [.ref qf0, .int u2_2, .int v2, .int v3, .int v4, .int v5, .int v6, .int v7, .ref qf8, .ref qf9, .ref qf10, .ref qf11, .ref qf12, .ref qf13, .ref qf14, .ref qf15, .ref qf16, .int v17, .ref qf18, .int v19, .int v20])), (qf14, .inl (cf14, 60, .inl g902_1)), (qf16, .inl (cf16, 1800, .inl f16))] := hD
  replace hK : va_K (dC, dI) vwCl [(cf10, .int), (cf11, .int), (cf13, .int), (cf9, .int), (cf0_0_1, .boolean), (cf14, .int), (cf16, .int)] s := hK
  obtain rfl := hw
  refine lv_istore_n (lv' := [(3, .int u2_0), (2, .int u1_0), (0, .ref h0), (1, .int a1)]) hx hb dX5_stepGiveElement_9 rfl hl (by decide) rfl (fun ls hl => ?_)
  refine lv_aload_n hx hb dX5_stepGiveElement_10 rfl (lv_at hl 2 rfl) ?_
  obtain ⟨⟨u3_0, g903_1, u3_2⟩, hu_3, hsp⟩ := ox_bind hsp
  try dsimp only at hsp
  have hPc := hP.sub (ws' := [(h0, .inr (5, [.ref qf0, .int u2_2, .int v2, .int v3, .int v4, .int v5, .int v6, .int v7, .ref qf8, .ref qf9, .ref qf10, .ref qf11, .ref qf12, .ref qf13, .ref qf14, .ref qf15, .ref qf16, .int v17, .ref qf18, .int v19, .int v20])), (qf14, .inl (cf14, 60, .inl g902_1)), (qf16, .inl (cf16, 1800, .inl f16))]) [7, 8, 9] rfl
  have hDc := hD.sub (ws' := [(h0, .inr (5, [.ref qf0, .int u2_2, .int v2, .int v3, .int v4, .int v5, .int v6, .int v7, .ref qf8, .ref qf9, .ref qf10, .ref qf11, .ref qf12, .ref qf13, .ref qf14, .ref qf15, .ref qf16, .int v17, .ref qf18, .int v19, .int v20])), (qf14, .inl (cf14, 60, .inl g902_1)), (qf16, .inl (cf16, 1800, .inl f16))]) [7, 8, 9] (by decide) rfl
  have hKc := hK.sub (tys' := [(cf14, .int), (cf16, .int)]) [5, 6] rfl
  have hFc := va_free (wc := [(h0, .inr (5, [.ref qf0, .int u2_2, .int v2, .int v3, .int v4, .int v5, .int v6, .int v7, .ref qf8, .ref qf9, .ref qf10, .ref qf11, .ref qf12, .ref qf13, .ref qf14, .ref qf15, .ref qf16, .int v17, .ref qf18, .int v19, .int v20])), (qf14, .inl (cf14, 60, .inl g902_1)), (qf16, .inl (cf16, 1800, .inl f16))]) hD hS hA [7, 8, 9] rfl
  refine va_calli (va_runV (As := []) (rest := []) ⟨hx, hb, hml, hown, hts⟩ (t5_pop l dC dI H.size h0 qf0 u2_2 v2 v3 v4 v5 v6 v7 qf8 qf9 qf10 qf11 qf12 qf13 qf14 qf15 qf16 v17 qf18 v19 v20 cf14 g902_1 cf16 f16 nf u3_0 g903_1 u3_2 hu_3) (cwV 0 hts gv_h3_19 rfl rfl rfl (by decide +kernel) ⟨Nat.le_of_ble_eq_true rfl, Nat.le_of_ble_eq_true rfl⟩) ⟨fun a U g mk q => by obtain ⟨q0, q1, qP, qK, qD⟩ := q; exact ⟨q0, q1, qP, va_K.moved (u := U) (U := U.calling g mk a) (Vm.Alike.refl U.vm) qK, qD⟩, va_recv hKc hPc (ci := 5) (q0 := 0) rfl rfl, fun U hU hW => ⟨rfl, by rw [hU], by rw [hU]; exact hPc, va_K.moved hW.alike hKc, hDc.weaken (fun _ _ _ _ => trivial)⟩⟩ rfl rfl hl.1 rfl (lv_room (Nat.le_of_ble_eq_true rfl)) dX5_stepGiveElement_11 ⟨Nat.le_of_ble_eq_true rfl, Nat.le_of_ble_eq_true rfl⟩) hS (fun q _ h => hFc q h) hFc ?_
  clear hS
  intro r_3 u t H1 locs ht hvm hw hB hz1 hk1 hS
  obtain ⟨⟩ := u
  obtain ⟨hP1, hK1, hD1⟩ := hB
  rw [ht] at hP1
  have hK1 := va_K.moved hvm.symm hK1
  try dsimp only at hw
  have hPD := va_join (wr := [(qf10, .inl (cf10, 2002, .inl f10)), (qf11, .inl (cf11, 20000, .inl f11)), (qf13, .inl (cf13, 60, .inl f13)), (qf0, .inr (7, [.ref qf0_0, .ref qf0_1, .ref qf0_2, .int v0_3, .int v0_4, .ref qf0_5, .ref qf0_6, .ref qf0_7])), (qf9, .inl (cf9, 2001, .inl f9)), (qf0_0, .inr (4, [.ref qf0_0_0, .ref qf0_0_1])), (qf0_0_1, .inl (cf0_0_1, 256, .inl f0_0_1))]) (w1 := [(h0, .inr (5, [.ref qf0, .int u3_2, .int v2, .int v3, .int v4, .int v5, .int v6, .int v7, .ref qf8, .ref qf9, .ref qf10, .ref qf11, .ref qf12, .ref qf13, .ref qf14, .ref qf15, .ref qf16, .int v17, .ref qf18, .int v19, .int v20])), (qf14, .inl (cf14, 60, .inl g903_1)), (qf16, .inl (cf16, 1800, .inl f16))]) hP hD [7, 8, 9] [0, 1, 2, 3, 4, 5, 6] rfl rfl (by decide) (by decide) hk1 hFc hP1 hD1
  clear hP hD
  obtain ⟨hP, hD⟩ := hPD
  replace hK := (hK.sub (tys' := [(cf10, .int), (cf11, .int), (cf13, .int), (cf9, .int), (cf0_0_1, .boolean)]) [0, 1, 2, 3, 4] rfl).app hK1
  clear hPc hDc hKc hFc hP1 hK1 hD1 hz1 hk1 ht hvm
  generalize H1 = H at hP hS ⊢
  replace hP : va_P (dC, dI) vwCl [(qf10, .inl (cf10, 2002, .inl f10)), (qf11, .inl (cf11, 20000, .inl f11)), (qf13, .inl (cf13, 60, .inl f13)), (qf0, .inr (7, [.ref qf0_0, .ref qf0_1, .ref qf0_2, .int v0_3, .int v0_4, .ref qf0_5, .ref qf0_6, .ref qf0_7])), (qf9, .inl (cf9, 2001, .inl f9)), (qf0_0, .inr (4, [.ref qf0_0_0, .ref qf0_0_1])), (qf0_0_1, .inl (cf0_0_1, 256, .inl f0_0_1)), (h0, .inr (5, [.ref qf0, .int u3_2, .int v2, .int v3, .int v4, .int v5, .int v6, .int v7, .ref qf8, .ref qf9, .ref qf10, .ref qf11, .ref qf12, .ref qf13, .ref qf14, .ref qf15, .ref qf16, .int v17, .ref qf18, .int v19, .int v20])), (qf14, .inl (cf14, 60, .inl g903_1)), (qf16, .inl (cf16, 1800, .inl f16))] H := hP
  replace hD : va_D A [(qf10, .inl (cf10, 2002, .inl f10)), (qf11, .inl (cf11, 20000, .inl f11)), (qf13, .inl (cf13, 60, .inl f13)), (qf0, .inr (7, [.ref qf0_0, .ref qf0_1, .ref qf0_2, .int v0_3, .int v0_4, .ref qf0_5, .ref qf0_6, .ref qf0_7])), (qf9, .inl (cf9, 2001, .inl f9)), (qf0_0, .inr (4, [.ref qf0_0_0, .ref qf0_0_1])), (qf0_0_1, .inl (cf0_0_1, 256, .inl f0_0_1)), (h0, .inr (5, [.ref qf0, .int u3_2, .int v2, .int v3, .int v4, .int v5, .int v6, .int v7, .ref qf8, .ref qf9, .ref qf10, .ref qf11, .ref qf12, .ref qf13, .ref qf14, .ref qf15, .ref qf16, .int v17, .ref qf18, .int v19, .int v20])), (qf14, .inl (cf14, 60, .inl g903_1)), (qf16, .inl (cf16, 1800, .inl f16))] := hD
  replace hK : va_K (dC, dI) vwCl [(cf10, .int), (cf11, .int), (cf13, .int), (cf9, .int), (cf0_0_1, .boolean), (cf14, .int), (cf16, .int)] s := hK
  obtain rfl := hw
  refine lv_istore (lv' := [(4, .int u3_0), (3, .int u2_0), (2, .int u1_0), (0, .ref h0), (1, .int a1)]) hx hb dX5_stepGiveElement_14 hl (by decide) rfl (fun ls hl => ?_)
  refine lv_aload_n hx hb dX5_stepGiveElement_16 rfl (lv_at hl 3 rfl) ?_
  refine lv_iload hx hb dX5_stepGiveElement_17 (lv_at hl 0 rfl) ?_
  refine lv_iload_n hx hb dX5_stepGiveElement_19 rfl (lv_at hl 1 rfl) ?_
  obtain ⟨⟨u4_0, u4_1⟩, hu_4, hsp⟩ := ox_bind hsp
  try dsimp only at hsp
  have hPc := hP.sub (ws' := [(h0, .inr (5, [.ref qf0, .int u3_2, .int v2, .int v3, .int v4, .int v5, .int v6, .int v7, .ref qf8, .ref qf9, .ref qf10, .ref qf11, .ref qf12, .ref qf13, .ref qf14, .ref qf15, .ref qf16, .int v17, .ref qf18, .int v19, .int v20])), (qf10, .inl (cf10, 2002, .inl f10))]) [7, 0] rfl
  have hDc := hD.sub (ws' := [(h0, .inr (5, [.ref qf0, .int u3_2, .int v2, .int v3, .int v4, .int v5, .int v6, .int v7, .ref qf8, .ref qf9, .ref qf10, .ref qf11, .ref qf12, .ref qf13, .ref qf14, .ref qf15, .ref qf16, .int v17, .ref qf18, .int v19, .int v20])), (qf10, .inl (cf10, 2002, .inl f10))]) [7, 0] (by decide) rfl
  have hKc := hK.sub (tys' := [(cf10, .int)]) [0] rfl
  have hFc := va_free (wc := [(h0, .inr (5, [.ref qf0, .int u3_2, .int v2, .int v3, .int v4, .int v5, .int v6, .int v7, .ref qf8, .ref qf9, .ref qf10, .ref qf11, .ref qf12, .ref qf13, .ref qf14, .ref qf15, .ref qf16, .int v17, .ref qf18, .int v19, .int v20])), (qf10, .inl (cf10, 2002, .inl f10))]) hD hS hA [7, 0] rfl
  refine va_calli (va_runV (As := [.int u3_0, .int u2_0]) (rest := []) ⟨hx, hb, hml, hown, hts⟩ (t5_cellOf l dC dI H.size h0 u3_0 u2_0 qf0 u3_2 v2 v3 v4 v5 v6 v7 qf8 qf9 qf10 qf11 qf12 qf13 qf14 qf15 qf16 v17 qf18 v19 v20 cf10 f10 nf u4_0 u4_1 hu_4) (cwV 2 hts gv_h3_22 rfl rfl rfl (by decide +kernel) ⟨Nat.le_of_ble_eq_true rfl, Nat.le_of_ble_eq_true rfl⟩) ⟨fun a U g mk q => by obtain ⟨q0, q1, qP, qK, qD⟩ := q; exact ⟨q0, q1, qP, va_K.moved (u := U) (U := U.calling g mk a) (Vm.Alike.refl U.vm) qK, qD⟩, va_recv hKc hPc (ci := 5) (q0 := 0) rfl rfl, fun U hU hW => ⟨rfl, by rw [hU], by rw [hU]; exact hPc, va_K.moved hW.alike hKc, hDc.weaken (fun _ _ _ _ => trivial)⟩⟩ rfl rfl hl.1 rfl (lv_room (Nat.le_of_ble_eq_true rfl)) dX5_stepGiveElement_20 ⟨Nat.le_of_ble_eq_true rfl, Nat.le_of_ble_eq_true rfl⟩) hS (fun q _ h => hFc q h) hFc ?_
  clear hS
  intro r_4 u t H1 locs ht hvm hw hB hz1 hk1 hS
  obtain ⟨⟩ := u
  obtain ⟨hP1, hK1, hD1⟩ := hB
  rw [ht] at hP1
  have hK1 := va_K.moved hvm.symm hK1
  try dsimp only at hw
  have hPD := va_join (wr := [(qf11, .inl (cf11, 20000, .inl f11)), (qf13, .inl (cf13, 60, .inl f13)), (qf0, .inr (7, [.ref qf0_0, .ref qf0_1, .ref qf0_2, .int v0_3, .int v0_4, .ref qf0_5, .ref qf0_6, .ref qf0_7])), (qf9, .inl (cf9, 2001, .inl f9)), (qf0_0, .inr (4, [.ref qf0_0_0, .ref qf0_0_1])), (qf0_0_1, .inl (cf0_0_1, 256, .inl f0_0_1)), (qf14, .inl (cf14, 60, .inl g903_1)), (qf16, .inl (cf16, 1800, .inl f16))]) (w1 := [(h0, .inr (5, [.ref qf0, .int u3_2, .int v2, .int v3, .int v4, .int v5, .int v6, .int v7, .ref qf8, .ref qf9, .ref qf10, .ref qf11, .ref qf12, .ref qf13, .ref qf14, .ref qf15, .ref qf16, .int v17, .ref qf18, .int v19, .int u4_1])), (qf10, .inl (cf10, 2002, .inl f10))]) hP hD [7, 0] [1, 2, 3, 4, 5, 6, 8, 9] rfl rfl (by decide) (by decide) hk1 hFc hP1 hD1
  clear hP hD
  obtain ⟨hP, hD⟩ := hPD
  replace hK := (hK.sub (tys' := [(cf11, .int), (cf13, .int), (cf9, .int), (cf0_0_1, .boolean), (cf14, .int), (cf16, .int)]) [1, 2, 3, 4, 5, 6] rfl).app hK1
  clear hPc hDc hKc hFc hP1 hK1 hD1 hz1 hk1 ht hvm
  generalize H1 = H at hP hS ⊢
  replace hP : va_P (dC, dI) vwCl [(qf11, .inl (cf11, 20000, .inl f11)), (qf13, .inl (cf13, 60, .inl f13)), (qf0, .inr (7, [.ref qf0_0, .ref qf0_1, .ref qf0_2, .int v0_3, .int v0_4, .ref qf0_5, .ref qf0_6, .ref qf0_7])), (qf9, .inl (cf9, 2001, .inl f9)), (qf0_0, .inr (4, [.ref qf0_0_0, .ref qf0_0_1])), (qf0_0_1, .inl (cf0_0_1, 256, .inl f0_0_1)), (qf14, .inl (cf14, 60, .inl g903_1)), (qf16, .inl (cf16, 1800, .inl f16)), (h0, .inr (5, [.ref qf0, .int u3_2, .int v2, .int v3, .int v4, .int v5, .int v6, .int v7, .ref qf8, .ref qf9, .ref qf10, .ref qf11, .ref qf12, .ref qf13, .ref qf14, .ref qf15, .ref qf16, .int v17, .ref qf18, .int v19, .int u4_1])), (qf10, .inl (cf10, 2002, .inl f10))] H := hP
  replace hD : va_D A [(qf11, .inl (cf11, 20000, .inl f11)), (qf13, .inl (cf13, 60, .inl f13)), (qf0, .inr (7, [.ref qf0_0, .ref qf0_1, .ref qf0_2, .int v0_3, .int v0_4, .ref qf0_5, .ref qf0_6, .ref qf0_7])), (qf9, .inl (cf9, 2001, .inl f9)), (qf0_0, .inr (4, [.ref qf0_0_0, .ref qf0_0_1])), (qf0_0_1, .inl (cf0_0_1, 256, .inl f0_0_1)), (qf14, .inl (cf14, 60, .inl g903_1)), (qf16, .inl (cf16, 1800, .inl f16)), (h0, .inr (5, [.ref qf0, .int u3_2, .int v2, .int v3, .int v4, .int v5, .int v6, .int v7, .ref qf8, .ref qf9, .ref qf10, .ref qf11, .ref qf12, .ref qf13, .ref qf14, .ref qf15, .ref qf16, .int v17, .ref qf18, .int v19, .int u4_1])), (qf10, .inl (cf10, 2002, .inl f10))] := hD
  replace hK : va_K (dC, dI) vwCl [(cf11, .int), (cf13, .int), (cf9, .int), (cf0_0_1, .boolean), (cf14, .int), (cf16, .int), (cf10, .int)] s := hK
  obtain rfl := hw
  refine lv_istore (lv' := [(5, .int u4_0), (4, .int u3_0), (3, .int u2_0), (2, .int u1_0), (0, .ref h0), (1, .int a1)]) hx hb dX5_stepGiveElement_23 hl (by decide) rfl (fun ls hl => ?_)
  refine lv_iload hx hb dX5_stepGiveElement_25 (lv_at hl 0 rfl) ?_
  refine lv_if_lt (tgt := 38) hx hb dX5_stepGiveElement_27 (by decide) (fun c_5 => ?_) (fun c_5 => ?_)
  · rw [if_pos c_5] at hsp
    have hr0 := Option.some.inj hsp
    clear hsp
    obtain ⟨hq0, hr1⟩ := Prod.mk.inj hr0
    clear hr0
    obtain ⟨hq1, hr2⟩ := Prod.mk.inj hr1
    clear hr1
    obtain ⟨hq2, hr3⟩ := Prod.mk.inj hr2
    clear hr2
    obtain ⟨hq3, hr4⟩ := Prod.mk.inj hr3
    clear hr3
    subst hq0
    subst hq1
    subst hq2
    subst hq3
    subst hr4
    have hP9 := hP.sub (ws' := [(h0, .inr (5, [.ref qf0, .int u3_2, .int v2, .int v3, .int v4, .int v5, .int v6, .int v7, .ref qf8, .ref qf9, .ref qf10, .ref qf11, .ref qf12, .ref qf13, .ref qf14, .ref qf15, .ref qf16, .int v17, .ref qf18, .int v19, .int u4_1])), (qf14, .inl (cf14, 60, .inl g903_1)), (qf16, .inl (cf16, 1800, .inl f16)), (qf10, .inl (cf10, 2002, .inl f10)), (qf11, .inl (cf11, 20000, .inl f11)), (qf13, .inl (cf13, 60, .inl f13)), (qf0, .inr (7, [.ref qf0_0, .ref qf0_1, .ref qf0_2, .int v0_3, .int v0_4, .ref qf0_5, .ref qf0_6, .ref qf0_7])), (qf9, .inl (cf9, 2001, .inl f9)), (qf0_0, .inr (4, [.ref qf0_0_0, .ref qf0_0_1])), (qf0_0_1, .inl (cf0_0_1, 256, .inl f0_0_1))]) [8, 6, 7, 9, 0, 1, 2, 3, 4, 5] rfl
    have hD9 := hD.sub (ws' := [(h0, .inr (5, [.ref qf0, .int u3_2, .int v2, .int v3, .int v4, .int v5, .int v6, .int v7, .ref qf8, .ref qf9, .ref qf10, .ref qf11, .ref qf12, .ref qf13, .ref qf14, .ref qf15, .ref qf16, .int v17, .ref qf18, .int v19, .int u4_1])), (qf14, .inl (cf14, 60, .inl g903_1)), (qf16, .inl (cf16, 1800, .inl f16)), (qf10, .inl (cf10, 2002, .inl f10)), (qf11, .inl (cf11, 20000, .inl f11)), (qf13, .inl (cf13, 60, .inl f13)), (qf0, .inr (7, [.ref qf0_0, .ref qf0_1, .ref qf0_2, .int v0_3, .int v0_4, .ref qf0_5, .ref qf0_6, .ref qf0_7])), (qf9, .inl (cf9, 2001, .inl f9)), (qf0_0, .inr (4, [.ref qf0_0_0, .ref qf0_0_1])), (qf0_0_1, .inl (cf0_0_1, 256, .inl f0_0_1))]) [8, 6, 7, 9, 0, 1, 2, 3, 4, 5] (by decide) rfl
    have hK9 := hK.sub (tys' := [(cf14, .int), (cf16, .int), (cf10, .int), (cf11, .int), (cf13, .int), (cf9, .int), (cf0_0_1, .boolean)]) [4, 5, 6, 0, 1, 2, 3] rfl
    exact W.vret hx hb hr (fun t ht hW => ⟨⟨(), rfl, trivial, by rw [ht]; exact hP9, va_K.moved hW.alike hK9, hD9⟩, hS.F ht⟩) hS.2.2 dX5_stepGiveElement_38
  · rw [if_neg c_5] at hsp
    refine lv_iload hx hb dX5_stepGiveElement_30 (lv_at hl 0 rfl) ?_
    refine lv_sipush (v := 20000) hx hb dX5_stepGiveElement_32 (by decide) ?_
    refine lv_icmp_lt (tgt := 39) hx hb dX5_stepGiveElement_35 (by decide) (fun c_6 => ?_) (fun c_6 => ?_)
    · rw [if_pos c_6] at hsp
      refine lv_iload_n hx hb dX5_stepGiveElement_39 rfl (lv_at hl 5 rfl) ?_
      refine lv_bipush (v := 83) hx hb dX5_stepGiveElement_40 (by decide) ?_
      refine lv_icmp_ne (tgt := 89) hx hb dX5_stepGiveElement_42 (by decide) (fun c_7 => ?_) (fun c_7 => ?_)
      · rw [if_neg c_7] at hsp
        refine lv_aload_n hx hb dX5_stepGiveElement_89 rfl (lv_at hl 4 rfl) ?_
        refine va_get (D := (dC, dI)) (ci := 5) (v := .ref qf11) (C := RX5) (T := TX5) (N := 21) hx hb hts uV_h3_X5 hown hK hP 8 rfl rfl 11 (by decide) (hts (.fieldLink RX5 23 "ClassMill$Machine" "cell" "[I") mw_h3_123) (fun _ h9 => h9) rfl dX5_stepGiveElement_90 ?_
        refine lv_iload hx hb dX5_stepGiveElement_93 (lv_at hl 0 rfl) ?_
        refine lv_iload_n hx hb dX5_stepGiveElement_95 rfl (lv_at hl 3 rfl) ?_
        obtain ⟨hi_8, hsp⟩ := ox_in hsp
        refine va_iast hx hb hK hP hD hS 0 0 rfl rfl (i := u4_0) (x := u1_0) hi_8 dX5_stepGiveElement_96 ?_
        clear hP hD hS
        intro H locs hP hD hS
        replace hP : va_P (dC, dI) vwCl [(qf11, .inl (cf11, 20000, .inl (upd f11 (u4_0 : Int32).toNatClampNeg u1_0))), (qf13, .inl (cf13, 60, .inl f13)), (qf0, .inr (7, [.ref qf0_0, .ref qf0_1, .ref qf0_2, .int v0_3, .int v0_4, .ref qf0_5, .ref qf0_6, .ref qf0_7])), (qf9, .inl (cf9, 2001, .inl f9)), (qf0_0, .inr (4, [.ref qf0_0_0, .ref qf0_0_1])), (qf0_0_1, .inl (cf0_0_1, 256, .inl f0_0_1)), (qf14, .inl (cf14, 60, .inl g903_1)), (qf16, .inl (cf16, 1800, .inl f16)), (h0, .inr (5, [.ref qf0, .int u3_2, .int v2, .int v3, .int v4, .int v5, .int v6, .int v7, .ref qf8, .ref qf9, .ref qf10, .ref qf11, .ref qf12, .ref qf13, .ref qf14, .ref qf15, .ref qf16, .int v17, .ref qf18, .int v19, .int u4_1])), (qf10, .inl (cf10, 2002, .inl f10))] H := hP
        replace hD : va_D A [(qf11, .inl (cf11, 20000, .inl (upd f11 (u4_0 : Int32).toNatClampNeg u1_0))), (qf13, .inl (cf13, 60, .inl f13)), (qf0, .inr (7, [.ref qf0_0, .ref qf0_1, .ref qf0_2, .int v0_3, .int v0_4, .ref qf0_5, .ref qf0_6, .ref qf0_7])), (qf9, .inl (cf9, 2001, .inl f9)), (qf0_0, .inr (4, [.ref qf0_0_0, .ref qf0_0_1])), (qf0_0_1, .inl (cf0_0_1, 256, .inl f0_0_1)), (qf14, .inl (cf14, 60, .inl g903_1)), (qf16, .inl (cf16, 1800, .inl f16)), (h0, .inr (5, [.ref qf0, .int u3_2, .int v2, .int v3, .int v4, .int v5, .int v6, .int v7, .ref qf8, .ref qf9, .ref qf10, .ref qf11, .ref qf12, .ref qf13, .ref qf14, .ref qf15, .ref qf16, .int v17, .ref qf18, .int v19, .int u4_1])), (qf10, .inl (cf10, 2002, .inl f10))] := hD
        refine lv_aload_n hx hb dX5_stepGiveElement_97 rfl (lv_at hl 4 rfl) ?_
        refine lv_iconst (v := 1) hx hb dX5_stepGiveElement_98 (by decide) ?_
        obtain ⟨g905_0, hu_5, hsp⟩ := ox_bind hsp
        try dsimp only at hsp
        have hPc := hP.sub (ws' := [(h0, .inr (5, [.ref qf0, .int u3_2, .int v2, .int v3, .int v4, .int v5, .int v6, .int v7, .ref qf8, .ref qf9, .ref qf10, .ref qf11, .ref qf12, .ref qf13, .ref qf14, .ref qf15, .ref qf16, .int v17, .ref qf18, .int v19, .int u4_1])), (qf13, .inl (cf13, 60, .inl f13))]) [8, 1] rfl
        have hDc := hD.sub (ws' := [(h0, .inr (5, [.ref qf0, .int u3_2, .int v2, .int v3, .int v4, .int v5, .int v6, .int v7, .ref qf8, .ref qf9, .ref qf10, .ref qf11, .ref qf12, .ref qf13, .ref qf14, .ref qf15, .ref qf16, .int v17, .ref qf18, .int v19, .int u4_1])), (qf13, .inl (cf13, 60, .inl f13))]) [8, 1] (by decide) rfl
        have hKc := hK.sub (tys' := [(cf13, .int)]) [1] rfl
        have hFc := va_free (wc := [(h0, .inr (5, [.ref qf0, .int u3_2, .int v2, .int v3, .int v4, .int v5, .int v6, .int v7, .ref qf8, .ref qf9, .ref qf10, .ref qf11, .ref qf12, .ref qf13, .ref qf14, .ref qf15, .ref qf16, .int v17, .ref qf18, .int v19, .int u4_1])), (qf13, .inl (cf13, 60, .inl f13))]) hD hS hA [8, 1] rfl
        refine va_callv (va_runV (As := [.int 1]) (rest := []) ⟨hx, hb, hml, hown, hts⟩ (t5_goOn l dC dI H.size h0 1 qf0 u3_2 v2 v3 v4 v5 v6 v7 qf8 qf9 qf10 qf11 qf12 qf13 qf14 qf15 qf16 v17 qf18 v19 u4_1 cf13 f13 nf g905_0 hu_5) (cwV 1 hts gv_h3_16 rfl rfl rfl (by decide +kernel) ⟨Nat.le_of_ble_eq_true rfl, Nat.le_of_ble_eq_true rfl⟩) ⟨fun a U g mk q => by obtain ⟨q0, q1, qP, qK, qD⟩ := q; exact ⟨q0, q1, qP, va_K.moved (u := U) (U := U.calling g mk a) (Vm.Alike.refl U.vm) qK, qD⟩, va_recv hKc hPc (ci := 5) (q0 := 0) rfl rfl, fun U hU hW => ⟨rfl, by rw [hU], by rw [hU]; exact hPc, va_K.moved hW.alike hKc, hDc.weaken (fun _ _ _ _ => trivial)⟩⟩ rfl rfl hl.1 rfl (lv_room (Nat.le_of_ble_eq_true rfl)) dX5_stepGiveElement_99 ⟨Nat.le_of_ble_eq_true rfl, Nat.le_of_ble_eq_true rfl⟩) hS (fun q _ h => hFc q h) hFc ?_
        clear hS
        intro u t H1 locs ht hvm hw hB hz1 hk1 hS
        obtain ⟨⟩ := u
        obtain ⟨hP1, hK1, hD1⟩ := hB
        rw [ht] at hP1
        have hK1 := va_K.moved hvm.symm hK1
        try dsimp only at hw
        have hPD := va_join (wr := [(qf11, .inl (cf11, 20000, .inl (upd f11 (u4_0 : Int32).toNatClampNeg u1_0))), (qf0, .inr (7, [.ref qf0_0, .ref qf0_1, .ref qf0_2, .int v0_3, .int v0_4, .ref qf0_5, .ref qf0_6, .ref qf0_7])), (qf9, .inl (cf9, 2001, .inl f9)), (qf0_0, .inr (4, [.ref qf0_0_0, .ref qf0_0_1])), (qf0_0_1, .inl (cf0_0_1, 256, .inl f0_0_1)), (qf14, .inl (cf14, 60, .inl g903_1)), (qf16, .inl (cf16, 1800, .inl f16)), (qf10, .inl (cf10, 2002, .inl f10))]) (w1 := [(h0, .inr (5, [.ref qf0, .int u3_2, .int v2, .int v3, .int v4, .int v5, .int v6, .int v7, .ref qf8, .ref qf9, .ref qf10, .ref qf11, .ref qf12, .ref qf13, .ref qf14, .ref qf15, .ref qf16, .int v17, .ref qf18, .int v19, .int u4_1])), (qf13, .inl (cf13, 60, .inl g905_0))]) hP hD [8, 1] [0, 2, 3, 4, 5, 6, 7, 9] rfl rfl (by decide) (by decide) hk1 hFc hP1 hD1
        clear hP hD
        obtain ⟨hP, hD⟩ := hPD
        replace hK := (hK.sub (tys' := [(cf11, .int), (cf9, .int), (cf0_0_1, .boolean), (cf14, .int), (cf16, .int), (cf10, .int)]) [0, 2, 3, 4, 5, 6] rfl).app hK1
        clear hPc hDc hKc hFc hP1 hK1 hD1 hz1 hk1 ht hvm
        generalize H1 = H at hP hS ⊢
        replace hP : va_P (dC, dI) vwCl [(qf11, .inl (cf11, 20000, .inl (upd f11 (u4_0 : Int32).toNatClampNeg u1_0))), (qf0, .inr (7, [.ref qf0_0, .ref qf0_1, .ref qf0_2, .int v0_3, .int v0_4, .ref qf0_5, .ref qf0_6, .ref qf0_7])), (qf9, .inl (cf9, 2001, .inl f9)), (qf0_0, .inr (4, [.ref qf0_0_0, .ref qf0_0_1])), (qf0_0_1, .inl (cf0_0_1, 256, .inl f0_0_1)), (qf14, .inl (cf14, 60, .inl g903_1)), (qf16, .inl (cf16, 1800, .inl f16)), (qf10, .inl (cf10, 2002, .inl f10)), (h0, .inr (5, [.ref qf0, .int u3_2, .int v2, .int v3, .int v4, .int v5, .int v6, .int v7, .ref qf8, .ref qf9, .ref qf10, .ref qf11, .ref qf12, .ref qf13, .ref qf14, .ref qf15, .ref qf16, .int v17, .ref qf18, .int v19, .int u4_1])), (qf13, .inl (cf13, 60, .inl g905_0))] H := hP
        replace hD : va_D A [(qf11, .inl (cf11, 20000, .inl (upd f11 (u4_0 : Int32).toNatClampNeg u1_0))), (qf0, .inr (7, [.ref qf0_0, .ref qf0_1, .ref qf0_2, .int v0_3, .int v0_4, .ref qf0_5, .ref qf0_6, .ref qf0_7])), (qf9, .inl (cf9, 2001, .inl f9)), (qf0_0, .inr (4, [.ref qf0_0_0, .ref qf0_0_1])), (qf0_0_1, .inl (cf0_0_1, 256, .inl f0_0_1)), (qf14, .inl (cf14, 60, .inl g903_1)), (qf16, .inl (cf16, 1800, .inl f16)), (qf10, .inl (cf10, 2002, .inl f10)), (h0, .inr (5, [.ref qf0, .int u3_2, .int v2, .int v3, .int v4, .int v5, .int v6, .int v7, .ref qf8, .ref qf9, .ref qf10, .ref qf11, .ref qf12, .ref qf13, .ref qf14, .ref qf15, .ref qf16, .int v17, .ref qf18, .int v19, .int u4_1])), (qf13, .inl (cf13, 60, .inl g905_0))] := hD
        replace hK : va_K (dC, dI) vwCl [(cf11, .int), (cf9, .int), (cf0_0_1, .boolean), (cf14, .int), (cf16, .int), (cf10, .int), (cf13, .int)] s := hK
        have hr0 := Option.some.inj hsp
        clear hsp
        obtain ⟨hq0, hr1⟩ := Prod.mk.inj hr0
        clear hr0
        obtain ⟨hq1, hr2⟩ := Prod.mk.inj hr1
        clear hr1
        obtain ⟨hq2, hr3⟩ := Prod.mk.inj hr2
        clear hr2
        obtain ⟨hq3, hr4⟩ := Prod.mk.inj hr3
        clear hr3
        subst hq0
        subst hq1
        subst hq2
        subst hq3
        subst hr4
        have hP9 := hP.sub (ws' := [(h0, .inr (5, [.ref qf0, .int u3_2, .int v2, .int v3, .int v4, .int v5, .int v6, .int v7, .ref qf8, .ref qf9, .ref qf10, .ref qf11, .ref qf12, .ref qf13, .ref qf14, .ref qf15, .ref qf16, .int v17, .ref qf18, .int v19, .int u4_1])), (qf14, .inl (cf14, 60, .inl g903_1)), (qf16, .inl (cf16, 1800, .inl f16)), (qf10, .inl (cf10, 2002, .inl f10)), (qf11, .inl (cf11, 20000, .inl (upd f11 (u4_0 : Int32).toNatClampNeg u1_0))), (qf13, .inl (cf13, 60, .inl g905_0)), (qf0, .inr (7, [.ref qf0_0, .ref qf0_1, .ref qf0_2, .int v0_3, .int v0_4, .ref qf0_5, .ref qf0_6, .ref qf0_7])), (qf9, .inl (cf9, 2001, .inl f9)), (qf0_0, .inr (4, [.ref qf0_0_0, .ref qf0_0_1])), (qf0_0_1, .inl (cf0_0_1, 256, .inl f0_0_1))]) [8, 5, 6, 7, 0, 9, 1, 2, 3, 4] rfl
        have hD9 := hD.sub (ws' := [(h0, .inr (5, [.ref qf0, .int u3_2, .int v2, .int v3, .int v4, .int v5, .int v6, .int v7, .ref qf8, .ref qf9, .ref qf10, .ref qf11, .ref qf12, .ref qf13, .ref qf14, .ref qf15, .ref qf16, .int v17, .ref qf18, .int v19, .int u4_1])), (qf14, .inl (cf14, 60, .inl g903_1)), (qf16, .inl (cf16, 1800, .inl f16)), (qf10, .inl (cf10, 2002, .inl f10)), (qf11, .inl (cf11, 20000, .inl (upd f11 (u4_0 : Int32).toNatClampNeg u1_0))), (qf13, .inl (cf13, 60, .inl g905_0)), (qf0, .inr (7, [.ref qf0_0, .ref qf0_1, .ref qf0_2, .int v0_3, .int v0_4, .ref qf0_5, .ref qf0_6, .ref qf0_7])), (qf9, .inl (cf9, 2001, .inl f9)), (qf0_0, .inr (4, [.ref qf0_0_0, .ref qf0_0_1])), (qf0_0_1, .inl (cf0_0_1, 256, .inl f0_0_1))]) [8, 5, 6, 7, 0, 9, 1, 2, 3, 4] (by decide) rfl
        have hK9 := hK.sub (tys' := [(cf14, .int), (cf16, .int), (cf10, .int), (cf11, .int), (cf13, .int), (cf9, .int), (cf0_0_1, .boolean)]) [3, 4, 5, 0, 6, 1, 2] rfl
        exact W.vret hx hb hr (fun t ht hW => ⟨⟨(), rfl, trivial, by rw [ht]; exact hP9, va_K.moved hW.alike hK9, hD9⟩, hS.F ht⟩) hS.2.2 dX5_stepGiveElement_102
      · rw [if_pos c_7] at hsp
        refine lv_aload_n hx hb dX5_stepGiveElement_45 rfl (lv_at hl 4 rfl) ?_
        refine lv_iload_n hx hb dX5_stepGiveElement_46 rfl (lv_at hl 3 rfl) ?_
        obtain ⟨u6_0, hu_6, hsp⟩ := ox_bind hsp
        try dsimp only at hsp
        have hPc := hP.sub (ws' := [(h0, .inr (5, [.ref qf0, .int u3_2, .int v2, .int v3, .int v4, .int v5, .int v6, .int v7, .ref qf8, .ref qf9, .ref qf10, .ref qf11, .ref qf12, .ref qf13, .ref qf14, .ref qf15, .ref qf16, .int v17, .ref qf18, .int v19, .int u4_1]))]) [8] rfl
        have hDc := hD.sub (ws' := [(h0, .inr (5, [.ref qf0, .int u3_2, .int v2, .int v3, .int v4, .int v5, .int v6, .int v7, .ref qf8, .ref qf9, .ref qf10, .ref qf11, .ref qf12, .ref qf13, .ref qf14, .ref qf15, .ref qf16, .int v17, .ref qf18, .int v19, .int u4_1]))]) [8] (by decide) rfl
        have hKc := hK.sub (tys' := []) [] rfl
        have hFc := va_free (wc := [(h0, .inr (5, [.ref qf0, .int u3_2, .int v2, .int v3, .int v4, .int v5, .int v6, .int v7, .ref qf8, .ref qf9, .ref qf10, .ref qf11, .ref qf12, .ref qf13, .ref qf14, .ref qf15, .ref qf16, .int v17, .ref qf18, .int v19, .int u4_1]))]) hD hS hA [8] rfl
        refine va_calli (va_runV (As := [.int u1_0]) (rest := []) ⟨hx, hb, hml, hown, hts⟩ (t5_isObject l dC dI H.size h0 u1_0 qf0 u3_2 v2 v3 v4 v5 v6 v7 qf8 qf9 qf10 qf11 qf12 qf13 qf14 qf15 qf16 v17 qf18 v19 u4_1 nf u6_0 hu_6) (cwV 1 hts gv_h3_21 rfl rfl rfl (by decide +kernel) ⟨Nat.le_of_ble_eq_true rfl, Nat.le_of_ble_eq_true rfl⟩) ⟨fun a U g mk q => by obtain ⟨q0, q1, qP, qK, qD⟩ := q; exact ⟨q0, q1, qP, va_K.moved (u := U) (U := U.calling g mk a) (Vm.Alike.refl U.vm) qK, qD⟩, va_recv hKc hPc (ci := 5) (q0 := 0) rfl rfl, fun U hU hW => ⟨rfl, by rw [hU], by rw [hU]; exact hPc, va_K.moved hW.alike hKc, hDc.weaken (fun _ _ _ _ => trivial)⟩⟩ rfl rfl hl.1 rfl (lv_room (Nat.le_of_ble_eq_true rfl)) dX5_stepGiveElement_47 ⟨Nat.le_of_ble_eq_true rfl, Nat.le_of_ble_eq_true rfl⟩) hS (fun q _ h => hFc q h) hFc ?_
        clear hS
        intro r_9 u t H1 locs ht hvm hw hB hz1 hk1 hS
        obtain ⟨⟩ := u
        obtain ⟨hP1, hK1, hD1⟩ := hB
        rw [ht] at hP1
        have hK1 := va_K.moved hvm.symm hK1
        try dsimp only at hw
        have hPD := va_join (wr := [(qf11, .inl (cf11, 20000, .inl f11)), (qf13, .inl (cf13, 60, .inl f13)), (qf0, .inr (7, [.ref qf0_0, .ref qf0_1, .ref qf0_2, .int v0_3, .int v0_4, .ref qf0_5, .ref qf0_6, .ref qf0_7])), (qf9, .inl (cf9, 2001, .inl f9)), (qf0_0, .inr (4, [.ref qf0_0_0, .ref qf0_0_1])), (qf0_0_1, .inl (cf0_0_1, 256, .inl f0_0_1)), (qf14, .inl (cf14, 60, .inl g903_1)), (qf16, .inl (cf16, 1800, .inl f16)), (qf10, .inl (cf10, 2002, .inl f10))]) (w1 := [(h0, .inr (5, [.ref qf0, .int u3_2, .int v2, .int v3, .int v4, .int v5, .int v6, .int v7, .ref qf8, .ref qf9, .ref qf10, .ref qf11, .ref qf12, .ref qf13, .ref qf14, .ref qf15, .ref qf16, .int v17, .ref qf18, .int v19, .int u4_1]))]) hP hD [8] [0, 1, 2, 3, 4, 5, 6, 7, 9] rfl rfl (by decide) (by decide) hk1 hFc hP1 hD1
        clear hP hD
        obtain ⟨hP, hD⟩ := hPD
        replace hK := (hK.sub (tys' := [(cf11, .int), (cf13, .int), (cf9, .int), (cf0_0_1, .boolean), (cf14, .int), (cf16, .int), (cf10, .int)]) [0, 1, 2, 3, 4, 5, 6] rfl).app hK1
        clear hPc hDc hKc hFc hP1 hK1 hD1 hz1 hk1 ht hvm
        generalize H1 = H at hP hS ⊢
        replace hP : va_P (dC, dI) vwCl [(qf11, .inl (cf11, 20000, .inl f11)), (qf13, .inl (cf13, 60, .inl f13)), (qf0, .inr (7, [.ref qf0_0, .ref qf0_1, .ref qf0_2, .int v0_3, .int v0_4, .ref qf0_5, .ref qf0_6, .ref qf0_7])), (qf9, .inl (cf9, 2001, .inl f9)), (qf0_0, .inr (4, [.ref qf0_0_0, .ref qf0_0_1])), (qf0_0_1, .inl (cf0_0_1, 256, .inl f0_0_1)), (qf14, .inl (cf14, 60, .inl g903_1)), (qf16, .inl (cf16, 1800, .inl f16)), (qf10, .inl (cf10, 2002, .inl f10)), (h0, .inr (5, [.ref qf0, .int u3_2, .int v2, .int v3, .int v4, .int v5, .int v6, .int v7, .ref qf8, .ref qf9, .ref qf10, .ref qf11, .ref qf12, .ref qf13, .ref qf14, .ref qf15, .ref qf16, .int v17, .ref qf18, .int v19, .int u4_1]))] H := hP
        replace hD : va_D A [(qf11, .inl (cf11, 20000, .inl f11)), (qf13, .inl (cf13, 60, .inl f13)), (qf0, .inr (7, [.ref qf0_0, .ref qf0_1, .ref qf0_2, .int v0_3, .int v0_4, .ref qf0_5, .ref qf0_6, .ref qf0_7])), (qf9, .inl (cf9, 2001, .inl f9)), (qf0_0, .inr (4, [.ref qf0_0_0, .ref qf0_0_1])), (qf0_0_1, .inl (cf0_0_1, 256, .inl f0_0_1)), (qf14, .inl (cf14, 60, .inl g903_1)), (qf16, .inl (cf16, 1800, .inl f16)), (qf10, .inl (cf10, 2002, .inl f10)), (h0, .inr (5, [.ref qf0, .int u3_2, .int v2, .int v3, .int v4, .int v5, .int v6, .int v7, .ref qf8, .ref qf9, .ref qf10, .ref qf11, .ref qf12, .ref qf13, .ref qf14, .ref qf15, .ref qf16, .int v17, .ref qf18, .int v19, .int u4_1]))] := hD
        replace hK : va_K (dC, dI) vwCl [(cf11, .int), (cf13, .int), (cf9, .int), (cf0_0_1, .boolean), (cf14, .int), (cf16, .int), (cf10, .int)] s := hK
        obtain ⟨rfl, hz_6⟩ := hw
        rcases hz_6 with rfl | rfl
        · rw [if_pos rfl] at hsp
          refine lv_if_eq (tgt := 89) hx hb dX5_stepGiveElement_50 (by decide) (fun c_10 => ?_) (fun c_10 => (show False by revert c_10; decide).elim)
          refine lv_aload_n hx hb dX5_stepGiveElement_89 rfl (lv_at hl 4 rfl) ?_
          refine va_get (D := (dC, dI)) (ci := 5) (v := .ref qf11) (C := RX5) (T := TX5) (N := 21) hx hb hts uV_h3_X5 hown hK hP 9 rfl rfl 11 (by decide) (hts (.fieldLink RX5 23 "ClassMill$Machine" "cell" "[I") mw_h3_123) (fun _ h9 => h9) rfl dX5_stepGiveElement_90 ?_
          refine lv_iload hx hb dX5_stepGiveElement_93 (lv_at hl 0 rfl) ?_
          refine lv_iload_n hx hb dX5_stepGiveElement_95 rfl (lv_at hl 3 rfl) ?_
          obtain ⟨hi_11, hsp⟩ := ox_in hsp
          refine va_iast hx hb hK hP hD hS 0 0 rfl rfl (i := u4_0) (x := u1_0) hi_11 dX5_stepGiveElement_96 ?_
          clear hP hD hS
          intro H locs hP hD hS
          replace hP : va_P (dC, dI) vwCl [(qf11, .inl (cf11, 20000, .inl (upd f11 (u4_0 : Int32).toNatClampNeg u1_0))), (qf13, .inl (cf13, 60, .inl f13)), (qf0, .inr (7, [.ref qf0_0, .ref qf0_1, .ref qf0_2, .int v0_3, .int v0_4, .ref qf0_5, .ref qf0_6, .ref qf0_7])), (qf9, .inl (cf9, 2001, .inl f9)), (qf0_0, .inr (4, [.ref qf0_0_0, .ref qf0_0_1])), (qf0_0_1, .inl (cf0_0_1, 256, .inl f0_0_1)), (qf14, .inl (cf14, 60, .inl g903_1)), (qf16, .inl (cf16, 1800, .inl f16)), (qf10, .inl (cf10, 2002, .inl f10)), (h0, .inr (5, [.ref qf0, .int u3_2, .int v2, .int v3, .int v4, .int v5, .int v6, .int v7, .ref qf8, .ref qf9, .ref qf10, .ref qf11, .ref qf12, .ref qf13, .ref qf14, .ref qf15, .ref qf16, .int v17, .ref qf18, .int v19, .int u4_1]))] H := hP
          replace hD : va_D A [(qf11, .inl (cf11, 20000, .inl (upd f11 (u4_0 : Int32).toNatClampNeg u1_0))), (qf13, .inl (cf13, 60, .inl f13)), (qf0, .inr (7, [.ref qf0_0, .ref qf0_1, .ref qf0_2, .int v0_3, .int v0_4, .ref qf0_5, .ref qf0_6, .ref qf0_7])), (qf9, .inl (cf9, 2001, .inl f9)), (qf0_0, .inr (4, [.ref qf0_0_0, .ref qf0_0_1])), (qf0_0_1, .inl (cf0_0_1, 256, .inl f0_0_1)), (qf14, .inl (cf14, 60, .inl g903_1)), (qf16, .inl (cf16, 1800, .inl f16)), (qf10, .inl (cf10, 2002, .inl f10)), (h0, .inr (5, [.ref qf0, .int u3_2, .int v2, .int v3, .int v4, .int v5, .int v6, .int v7, .ref qf8, .ref qf9, .ref qf10, .ref qf11, .ref qf12, .ref qf13, .ref qf14, .ref qf15, .ref qf16, .int v17, .ref qf18, .int v19, .int u4_1]))] := hD
          refine lv_aload_n hx hb dX5_stepGiveElement_97 rfl (lv_at hl 4 rfl) ?_
          refine lv_iconst (v := 1) hx hb dX5_stepGiveElement_98 (by decide) ?_
          obtain ⟨g907_0, hu_7, hsp⟩ := ox_bind hsp
          try dsimp only at hsp
          have hPc := hP.sub (ws' := [(h0, .inr (5, [.ref qf0, .int u3_2, .int v2, .int v3, .int v4, .int v5, .int v6, .int v7, .ref qf8, .ref qf9, .ref qf10, .ref qf11, .ref qf12, .ref qf13, .ref qf14, .ref qf15, .ref qf16, .int v17, .ref qf18, .int v19, .int u4_1])), (qf13, .inl (cf13, 60, .inl f13))]) [9, 1] rfl
          have hDc := hD.sub (ws' := [(h0, .inr (5, [.ref qf0, .int u3_2, .int v2, .int v3, .int v4, .int v5, .int v6, .int v7, .ref qf8, .ref qf9, .ref qf10, .ref qf11, .ref qf12, .ref qf13, .ref qf14, .ref qf15, .ref qf16, .int v17, .ref qf18, .int v19, .int u4_1])), (qf13, .inl (cf13, 60, .inl f13))]) [9, 1] (by decide) rfl
          have hKc := hK.sub (tys' := [(cf13, .int)]) [1] rfl
          have hFc := va_free (wc := [(h0, .inr (5, [.ref qf0, .int u3_2, .int v2, .int v3, .int v4, .int v5, .int v6, .int v7, .ref qf8, .ref qf9, .ref qf10, .ref qf11, .ref qf12, .ref qf13, .ref qf14, .ref qf15, .ref qf16, .int v17, .ref qf18, .int v19, .int u4_1])), (qf13, .inl (cf13, 60, .inl f13))]) hD hS hA [9, 1] rfl
          refine va_callv (va_runV (As := [.int 1]) (rest := []) ⟨hx, hb, hml, hown, hts⟩ (t5_goOn l dC dI H.size h0 1 qf0 u3_2 v2 v3 v4 v5 v6 v7 qf8 qf9 qf10 qf11 qf12 qf13 qf14 qf15 qf16 v17 qf18 v19 u4_1 cf13 f13 nf g907_0 hu_7) (cwV 1 hts gv_h3_16 rfl rfl rfl (by decide +kernel) ⟨Nat.le_of_ble_eq_true rfl, Nat.le_of_ble_eq_true rfl⟩) ⟨fun a U g mk q => by obtain ⟨q0, q1, qP, qK, qD⟩ := q; exact ⟨q0, q1, qP, va_K.moved (u := U) (U := U.calling g mk a) (Vm.Alike.refl U.vm) qK, qD⟩, va_recv hKc hPc (ci := 5) (q0 := 0) rfl rfl, fun U hU hW => ⟨rfl, by rw [hU], by rw [hU]; exact hPc, va_K.moved hW.alike hKc, hDc.weaken (fun _ _ _ _ => trivial)⟩⟩ rfl rfl hl.1 rfl (lv_room (Nat.le_of_ble_eq_true rfl)) dX5_stepGiveElement_99 ⟨Nat.le_of_ble_eq_true rfl, Nat.le_of_ble_eq_true rfl⟩) hS (fun q _ h => hFc q h) hFc ?_
          clear hS
          intro u t H1 locs ht hvm hw hB hz1 hk1 hS
          obtain ⟨⟩ := u
          obtain ⟨hP1, hK1, hD1⟩ := hB
          rw [ht] at hP1
          have hK1 := va_K.moved hvm.symm hK1
          try dsimp only at hw
          have hPD := va_join (wr := [(qf11, .inl (cf11, 20000, .inl (upd f11 (u4_0 : Int32).toNatClampNeg u1_0))), (qf0, .inr (7, [.ref qf0_0, .ref qf0_1, .ref qf0_2, .int v0_3, .int v0_4, .ref qf0_5, .ref qf0_6, .ref qf0_7])), (qf9, .inl (cf9, 2001, .inl f9)), (qf0_0, .inr (4, [.ref qf0_0_0, .ref qf0_0_1])), (qf0_0_1, .inl (cf0_0_1, 256, .inl f0_0_1)), (qf14, .inl (cf14, 60, .inl g903_1)), (qf16, .inl (cf16, 1800, .inl f16)), (qf10, .inl (cf10, 2002, .inl f10))]) (w1 := [(h0, .inr (5, [.ref qf0, .int u3_2, .int v2, .int v3, .int v4, .int v5, .int v6, .int v7, .ref qf8, .ref qf9, .ref qf10, .ref qf11, .ref qf12, .ref qf13, .ref qf14, .ref qf15, .ref qf16, .int v17, .ref qf18, .int v19, .int u4_1])), (qf13, .inl (cf13, 60, .inl g907_0))]) hP hD [9, 1] [0, 2, 3, 4, 5, 6, 7, 8] rfl rfl (by decide) (by decide) hk1 hFc hP1 hD1
          clear hP hD
          obtain ⟨hP, hD⟩ := hPD
          replace hK := (hK.sub (tys' := [(cf11, .int), (cf9, .int), (cf0_0_1, .boolean), (cf14, .int), (cf16, .int), (cf10, .int)]) [0, 2, 3, 4, 5, 6] rfl).app hK1
          clear hPc hDc hKc hFc hP1 hK1 hD1 hz1 hk1 ht hvm
          generalize H1 = H at hP hS ⊢
          replace hP : va_P (dC, dI) vwCl [(qf11, .inl (cf11, 20000, .inl (upd f11 (u4_0 : Int32).toNatClampNeg u1_0))), (qf0, .inr (7, [.ref qf0_0, .ref qf0_1, .ref qf0_2, .int v0_3, .int v0_4, .ref qf0_5, .ref qf0_6, .ref qf0_7])), (qf9, .inl (cf9, 2001, .inl f9)), (qf0_0, .inr (4, [.ref qf0_0_0, .ref qf0_0_1])), (qf0_0_1, .inl (cf0_0_1, 256, .inl f0_0_1)), (qf14, .inl (cf14, 60, .inl g903_1)), (qf16, .inl (cf16, 1800, .inl f16)), (qf10, .inl (cf10, 2002, .inl f10)), (h0, .inr (5, [.ref qf0, .int u3_2, .int v2, .int v3, .int v4, .int v5, .int v6, .int v7, .ref qf8, .ref qf9, .ref qf10, .ref qf11, .ref qf12, .ref qf13, .ref qf14, .ref qf15, .ref qf16, .int v17, .ref qf18, .int v19, .int u4_1])), (qf13, .inl (cf13, 60, .inl g907_0))] H := hP
          replace hD : va_D A [(qf11, .inl (cf11, 20000, .inl (upd f11 (u4_0 : Int32).toNatClampNeg u1_0))), (qf0, .inr (7, [.ref qf0_0, .ref qf0_1, .ref qf0_2, .int v0_3, .int v0_4, .ref qf0_5, .ref qf0_6, .ref qf0_7])), (qf9, .inl (cf9, 2001, .inl f9)), (qf0_0, .inr (4, [.ref qf0_0_0, .ref qf0_0_1])), (qf0_0_1, .inl (cf0_0_1, 256, .inl f0_0_1)), (qf14, .inl (cf14, 60, .inl g903_1)), (qf16, .inl (cf16, 1800, .inl f16)), (qf10, .inl (cf10, 2002, .inl f10)), (h0, .inr (5, [.ref qf0, .int u3_2, .int v2, .int v3, .int v4, .int v5, .int v6, .int v7, .ref qf8, .ref qf9, .ref qf10, .ref qf11, .ref qf12, .ref qf13, .ref qf14, .ref qf15, .ref qf16, .int v17, .ref qf18, .int v19, .int u4_1])), (qf13, .inl (cf13, 60, .inl g907_0))] := hD
          replace hK : va_K (dC, dI) vwCl [(cf11, .int), (cf9, .int), (cf0_0_1, .boolean), (cf14, .int), (cf16, .int), (cf10, .int), (cf13, .int)] s := hK
          have hr0 := Option.some.inj hsp
          clear hsp
          obtain ⟨hq0, hr1⟩ := Prod.mk.inj hr0
          clear hr0
          obtain ⟨hq1, hr2⟩ := Prod.mk.inj hr1
          clear hr1
          obtain ⟨hq2, hr3⟩ := Prod.mk.inj hr2
          clear hr2
          obtain ⟨hq3, hr4⟩ := Prod.mk.inj hr3
          clear hr3
          subst hq0
          subst hq1
          subst hq2
          subst hq3
          subst hr4
          have hP9 := hP.sub (ws' := [(h0, .inr (5, [.ref qf0, .int u3_2, .int v2, .int v3, .int v4, .int v5, .int v6, .int v7, .ref qf8, .ref qf9, .ref qf10, .ref qf11, .ref qf12, .ref qf13, .ref qf14, .ref qf15, .ref qf16, .int v17, .ref qf18, .int v19, .int u4_1])), (qf14, .inl (cf14, 60, .inl g903_1)), (qf16, .inl (cf16, 1800, .inl f16)), (qf10, .inl (cf10, 2002, .inl f10)), (qf11, .inl (cf11, 20000, .inl (upd f11 (u4_0 : Int32).toNatClampNeg u1_0))), (qf13, .inl (cf13, 60, .inl g907_0)), (qf0, .inr (7, [.ref qf0_0, .ref qf0_1, .ref qf0_2, .int v0_3, .int v0_4, .ref qf0_5, .ref qf0_6, .ref qf0_7])), (qf9, .inl (cf9, 2001, .inl f9)), (qf0_0, .inr (4, [.ref qf0_0_0, .ref qf0_0_1])), (qf0_0_1, .inl (cf0_0_1, 256, .inl f0_0_1))]) [8, 5, 6, 7, 0, 9, 1, 2, 3, 4] rfl
          have hD9 := hD.sub (ws' := [(h0, .inr (5, [.ref qf0, .int u3_2, .int v2, .int v3, .int v4, .int v5, .int v6, .int v7, .ref qf8, .ref qf9, .ref qf10, .ref qf11, .ref qf12, .ref qf13, .ref qf14, .ref qf15, .ref qf16, .int v17, .ref qf18, .int v19, .int u4_1])), (qf14, .inl (cf14, 60, .inl g903_1)), (qf16, .inl (cf16, 1800, .inl f16)), (qf10, .inl (cf10, 2002, .inl f10)), (qf11, .inl (cf11, 20000, .inl (upd f11 (u4_0 : Int32).toNatClampNeg u1_0))), (qf13, .inl (cf13, 60, .inl g907_0)), (qf0, .inr (7, [.ref qf0_0, .ref qf0_1, .ref qf0_2, .int v0_3, .int v0_4, .ref qf0_5, .ref qf0_6, .ref qf0_7])), (qf9, .inl (cf9, 2001, .inl f9)), (qf0_0, .inr (4, [.ref qf0_0_0, .ref qf0_0_1])), (qf0_0_1, .inl (cf0_0_1, 256, .inl f0_0_1))]) [8, 5, 6, 7, 0, 9, 1, 2, 3, 4] (by decide) rfl
          have hK9 := hK.sub (tys' := [(cf14, .int), (cf16, .int), (cf10, .int), (cf11, .int), (cf13, .int), (cf9, .int), (cf0_0_1, .boolean)]) [3, 4, 5, 0, 6, 1, 2] rfl
          exact W.vret hx hb hr (fun t ht hW => ⟨⟨(), rfl, trivial, by rw [ht]; exact hP9, va_K.moved hW.alike hK9, hD9⟩, hS.F ht⟩) hS.2.2 dX5_stepGiveElement_102
        · rw [if_neg (by decide)] at hsp
          refine lv_if_eq (tgt := 89) hx hb dX5_stepGiveElement_50 (by decide) (fun c_12 => (show False by revert c_12; decide).elim) (fun c_12 => ?_)
          refine lv_aload_n hx hb dX5_stepGiveElement_53 rfl (lv_at hl 4 rfl) ?_
          refine va_get (D := (dC, dI)) (ci := 5) (v := .ref qf0) (C := RX5) (T := TX5) (N := 21) hx hb hts uV_h3_X5 hown hK hP 9 rfl rfl 0 (by decide) (hts (.fieldLink RX5 41 "ClassMill$Machine" "space" "LClassMill$Space;") mw_h3_128) (fun _ h9 => h9) rfl dX5_stepGiveElement_54 ?_
          refine va_get (D := (dC, dI)) (ci := 7) (v := .ref qf0_0) (C := RX7) (T := TX7) (N := 8) hx hb hts uV_h3_X7 hown hK hP 2 rfl rfl 0 (by decide) (hts (.fieldLink RX5 232 "ClassMill$Space" "kin" "LClassMill$Kin;") mw_h3_129) (fun _ h9 => h9) rfl dX5_stepGiveElement_57 ?_
          refine lv_aload_n hx hb dX5_stepGiveElement_60 rfl (lv_at hl 4 rfl) ?_
          refine va_get (D := (dC, dI)) (ci := 5) (v := .ref qf9) (C := RX5) (T := TX5) (N := 21) hx hb hts uV_h3_X5 hown hK hP 9 rfl rfl 9 (by decide) (hts (.fieldLink RX5 17 "ClassMill$Machine" "objectType" "[I") mw_h3_130) (fun _ h9 => h9) rfl dX5_stepGiveElement_61 ?_
          refine lv_iload_n hx hb dX5_stepGiveElement_64 rfl (lv_at hl 3 rfl) ?_
          obtain ⟨hi_13, hsp⟩ := ox_in hsp
          refine va_iald hx hb hK hP 3 2 rfl rfl (i := u1_0) hi_13 dX5_stepGiveElement_65 ?_
          refine lv_aload_n hx hb dX5_stepGiveElement_66 rfl (lv_at hl 4 rfl) ?_
          refine va_get (D := (dC, dI)) (ci := 5) (v := .ref qf9) (C := RX5) (T := TX5) (N := 21) hx hb hts uV_h3_X5 hown hK hP 9 rfl rfl 9 (by decide) (hts (.fieldLink RX5 17 "ClassMill$Machine" "objectType" "[I") mw_h3_130) (fun _ h9 => h9) rfl dX5_stepGiveElement_67 ?_
          refine lv_iload hx hb dX5_stepGiveElement_70 (lv_at hl 1 rfl) ?_
          obtain ⟨hi_14, hsp⟩ := ox_in hsp
          refine va_iald hx hb hK hP 3 2 rfl rfl (i := u3_0) hi_14 dX5_stepGiveElement_72 ?_
          obtain ⟨u8_0, hu_8, hsp⟩ := ox_bind hsp
          try dsimp only at hsp
          have hPc := hP.sub (ws' := []) [] rfl
          have hDc := hD.sub (ws' := []) [] (by decide) rfl
          have hKc := hK.sub (tys' := []) [] rfl
          have hFc := va_free (wc := []) hD hS hA [] rfl
          refine va_calli (va_runS (As := [.int (f9 (u3_0 : Int32).toNatClampNeg)]) (rest := [.int (f9 (u1_0 : Int32).toNatClampNeg), .ref qf0_0]) ⟨hx, hb, hml, hown, hts⟩ (t4_elementOf l dC dI H.size ((f9 (u3_0 : Int32).toNatClampNeg)) nf u8_0 hu_8) (va_cwS 1 hts gv_h3_23 rfl rfl rfl (by decide +kernel) ⟨Nat.le_of_ble_eq_true rfl, Nat.le_of_ble_eq_true rfl⟩) ⟨fun a U g mk q => by obtain ⟨q0, q1, qP, qK, qD⟩ := q; exact ⟨q0, q1, qP, va_K.moved (u := U) (U := U.calling g mk a) (Vm.Alike.refl U.vm) qK, qD⟩, fun U hU hW => ⟨rfl, by rw [hU], by rw [hU]; exact hPc, va_K.moved hW.alike hKc, hDc.weaken (fun _ _ _ _ => trivial)⟩⟩ rfl rfl hl.1 rfl (lv_room (Nat.le_of_ble_eq_true rfl)) dX5_stepGiveElement_73 ⟨Nat.le_of_ble_eq_true rfl, Nat.le_of_ble_eq_true rfl⟩) hS (fun q _ h => hFc q h) hFc ?_
          clear hS
          intro r_15 u t H1 locs ht hvm hw hB hz1 hk1 hS
          obtain ⟨⟩ := u
          obtain ⟨hP1, hK1, hD1⟩ := hB
          rw [ht] at hP1
          have hK1 := va_K.moved hvm.symm hK1
          try dsimp only at hw
          have hPD := va_join (wr := [(qf11, .inl (cf11, 20000, .inl f11)), (qf13, .inl (cf13, 60, .inl f13)), (qf0, .inr (7, [.ref qf0_0, .ref qf0_1, .ref qf0_2, .int v0_3, .int v0_4, .ref qf0_5, .ref qf0_6, .ref qf0_7])), (qf9, .inl (cf9, 2001, .inl f9)), (qf0_0, .inr (4, [.ref qf0_0_0, .ref qf0_0_1])), (qf0_0_1, .inl (cf0_0_1, 256, .inl f0_0_1)), (qf14, .inl (cf14, 60, .inl g903_1)), (qf16, .inl (cf16, 1800, .inl f16)), (qf10, .inl (cf10, 2002, .inl f10)), (h0, .inr (5, [.ref qf0, .int u3_2, .int v2, .int v3, .int v4, .int v5, .int v6, .int v7, .ref qf8, .ref qf9, .ref qf10, .ref qf11, .ref qf12, .ref qf13, .ref qf14, .ref qf15, .ref qf16, .int v17, .ref qf18, .int v19, .int u4_1]))]) (w1 := []) hP hD [] [0, 1, 2, 3, 4, 5, 6, 7, 8, 9] rfl rfl (by decide) (by decide) hk1 hFc hP1 hD1
          clear hP hD
          obtain ⟨hP, hD⟩ := hPD
          replace hK := (hK.sub (tys' := [(cf11, .int), (cf13, .int), (cf9, .int), (cf0_0_1, .boolean), (cf14, .int), (cf16, .int), (cf10, .int)]) [0, 1, 2, 3, 4, 5, 6] rfl).app hK1
          clear hPc hDc hKc hFc hP1 hK1 hD1 hz1 hk1 ht hvm
          generalize H1 = H at hP hS ⊢
          replace hP : va_P (dC, dI) vwCl [(qf11, .inl (cf11, 20000, .inl f11)), (qf13, .inl (cf13, 60, .inl f13)), (qf0, .inr (7, [.ref qf0_0, .ref qf0_1, .ref qf0_2, .int v0_3, .int v0_4, .ref qf0_5, .ref qf0_6, .ref qf0_7])), (qf9, .inl (cf9, 2001, .inl f9)), (qf0_0, .inr (4, [.ref qf0_0_0, .ref qf0_0_1])), (qf0_0_1, .inl (cf0_0_1, 256, .inl f0_0_1)), (qf14, .inl (cf14, 60, .inl g903_1)), (qf16, .inl (cf16, 1800, .inl f16)), (qf10, .inl (cf10, 2002, .inl f10)), (h0, .inr (5, [.ref qf0, .int u3_2, .int v2, .int v3, .int v4, .int v5, .int v6, .int v7, .ref qf8, .ref qf9, .ref qf10, .ref qf11, .ref qf12, .ref qf13, .ref qf14, .ref qf15, .ref qf16, .int v17, .ref qf18, .int v19, .int u4_1]))] H := hP
          replace hD : va_D A [(qf11, .inl (cf11, 20000, .inl f11)), (qf13, .inl (cf13, 60, .inl f13)), (qf0, .inr (7, [.ref qf0_0, .ref qf0_1, .ref qf0_2, .int v0_3, .int v0_4, .ref qf0_5, .ref qf0_6, .ref qf0_7])), (qf9, .inl (cf9, 2001, .inl f9)), (qf0_0, .inr (4, [.ref qf0_0_0, .ref qf0_0_1])), (qf0_0_1, .inl (cf0_0_1, 256, .inl f0_0_1)), (qf14, .inl (cf14, 60, .inl g903_1)), (qf16, .inl (cf16, 1800, .inl f16)), (qf10, .inl (cf10, 2002, .inl f10)), (h0, .inr (5, [.ref qf0, .int u3_2, .int v2, .int v3, .int v4, .int v5, .int v6, .int v7, .ref qf8, .ref qf9, .ref qf10, .ref qf11, .ref qf12, .ref qf13, .ref qf14, .ref qf15, .ref qf16, .int v17, .ref qf18, .int v19, .int u4_1]))] := hD
          replace hK : va_K (dC, dI) vwCl [(cf11, .int), (cf13, .int), (cf9, .int), (cf0_0_1, .boolean), (cf14, .int), (cf16, .int), (cf10, .int)] s := hK
          obtain rfl := hw
          obtain ⟨u9_0, hu_9, hsp⟩ := ox_bind hsp
          try dsimp only at hsp
          have hPc := hP.sub (ws' := [(qf0_0, .inr (4, [.ref qf0_0_0, .ref qf0_0_1])), (qf0_0_1, .inl (cf0_0_1, 256, .inl f0_0_1))]) [4, 5] rfl
          have hDc := hD.sub (ws' := [(qf0_0, .inr (4, [.ref qf0_0_0, .ref qf0_0_1])), (qf0_0_1, .inl (cf0_0_1, 256, .inl f0_0_1))]) [4, 5] (by decide) rfl
          have hKc := hK.sub (tys' := [(cf0_0_1, .boolean)]) [3] rfl
          have hFc := va_free (wc := [(qf0_0, .inr (4, [.ref qf0_0_0, .ref qf0_0_1])), (qf0_0_1, .inl (cf0_0_1, 256, .inl f0_0_1))]) hD hS hA [4, 5] rfl
          refine va_calli (va_runV (As := [.int (f9 (u1_0 : Int32).toNatClampNeg), .int u8_0]) (rest := []) ⟨hx, hb, hml, hown, hts⟩ (t4_fits l dC dI H.size qf0_0 ((f9 (u1_0 : Int32).toNatClampNeg)) u8_0 qf0_0_0 qf0_0_1 cf0_0_1 f0_0_1 nf u9_0 hu_9) (cwV 2 hts gv_h3_24 rfl rfl rfl (by decide +kernel) ⟨Nat.le_of_ble_eq_true rfl, Nat.le_of_ble_eq_true rfl⟩) ⟨fun a U g mk q => by obtain ⟨q0, q1, qP, qK, qD⟩ := q; exact ⟨q0, q1, qP, va_K.moved (u := U) (U := U.calling g mk a) (Vm.Alike.refl U.vm) qK, qD⟩, va_recv hKc hPc (ci := 4) (q0 := 0) rfl rfl, fun U hU hW => ⟨rfl, by rw [hU], by rw [hU]; exact hPc, va_K.moved hW.alike hKc, hDc.weaken (fun _ _ _ _ => trivial)⟩⟩ rfl rfl hl.1 rfl (lv_room (Nat.le_of_ble_eq_true rfl)) dX5_stepGiveElement_76 ⟨Nat.le_of_ble_eq_true rfl, Nat.le_of_ble_eq_true rfl⟩) hS (fun q _ h => hFc q h) hFc ?_
          clear hS
          intro r_16 u t H1 locs ht hvm hw hB hz1 hk1 hS
          obtain ⟨⟩ := u
          obtain ⟨hP1, hK1, hD1⟩ := hB
          rw [ht] at hP1
          have hK1 := va_K.moved hvm.symm hK1
          try dsimp only at hw
          have hPD := va_join (wr := [(qf11, .inl (cf11, 20000, .inl f11)), (qf13, .inl (cf13, 60, .inl f13)), (qf0, .inr (7, [.ref qf0_0, .ref qf0_1, .ref qf0_2, .int v0_3, .int v0_4, .ref qf0_5, .ref qf0_6, .ref qf0_7])), (qf9, .inl (cf9, 2001, .inl f9)), (qf14, .inl (cf14, 60, .inl g903_1)), (qf16, .inl (cf16, 1800, .inl f16)), (qf10, .inl (cf10, 2002, .inl f10)), (h0, .inr (5, [.ref qf0, .int u3_2, .int v2, .int v3, .int v4, .int v5, .int v6, .int v7, .ref qf8, .ref qf9, .ref qf10, .ref qf11, .ref qf12, .ref qf13, .ref qf14, .ref qf15, .ref qf16, .int v17, .ref qf18, .int v19, .int u4_1]))]) (w1 := [(qf0_0, .inr (4, [.ref qf0_0_0, .ref qf0_0_1])), (qf0_0_1, .inl (cf0_0_1, 256, .inl f0_0_1))]) hP hD [4, 5] [0, 1, 2, 3, 6, 7, 8, 9] rfl rfl (by decide) (by decide) hk1 hFc hP1 hD1
          clear hP hD
          obtain ⟨hP, hD⟩ := hPD
          replace hK := (hK.sub (tys' := [(cf11, .int), (cf13, .int), (cf9, .int), (cf14, .int), (cf16, .int), (cf10, .int)]) [0, 1, 2, 4, 5, 6] rfl).app hK1
          clear hPc hDc hKc hFc hP1 hK1 hD1 hz1 hk1 ht hvm
          generalize H1 = H at hP hS ⊢
          replace hP : va_P (dC, dI) vwCl [(qf11, .inl (cf11, 20000, .inl f11)), (qf13, .inl (cf13, 60, .inl f13)), (qf0, .inr (7, [.ref qf0_0, .ref qf0_1, .ref qf0_2, .int v0_3, .int v0_4, .ref qf0_5, .ref qf0_6, .ref qf0_7])), (qf9, .inl (cf9, 2001, .inl f9)), (qf14, .inl (cf14, 60, .inl g903_1)), (qf16, .inl (cf16, 1800, .inl f16)), (qf10, .inl (cf10, 2002, .inl f10)), (h0, .inr (5, [.ref qf0, .int u3_2, .int v2, .int v3, .int v4, .int v5, .int v6, .int v7, .ref qf8, .ref qf9, .ref qf10, .ref qf11, .ref qf12, .ref qf13, .ref qf14, .ref qf15, .ref qf16, .int v17, .ref qf18, .int v19, .int u4_1])), (qf0_0, .inr (4, [.ref qf0_0_0, .ref qf0_0_1])), (qf0_0_1, .inl (cf0_0_1, 256, .inl f0_0_1))] H := hP
          replace hD : va_D A [(qf11, .inl (cf11, 20000, .inl f11)), (qf13, .inl (cf13, 60, .inl f13)), (qf0, .inr (7, [.ref qf0_0, .ref qf0_1, .ref qf0_2, .int v0_3, .int v0_4, .ref qf0_5, .ref qf0_6, .ref qf0_7])), (qf9, .inl (cf9, 2001, .inl f9)), (qf14, .inl (cf14, 60, .inl g903_1)), (qf16, .inl (cf16, 1800, .inl f16)), (qf10, .inl (cf10, 2002, .inl f10)), (h0, .inr (5, [.ref qf0, .int u3_2, .int v2, .int v3, .int v4, .int v5, .int v6, .int v7, .ref qf8, .ref qf9, .ref qf10, .ref qf11, .ref qf12, .ref qf13, .ref qf14, .ref qf15, .ref qf16, .int v17, .ref qf18, .int v19, .int u4_1])), (qf0_0, .inr (4, [.ref qf0_0_0, .ref qf0_0_1])), (qf0_0_1, .inl (cf0_0_1, 256, .inl f0_0_1))] := hD
          replace hK : va_K (dC, dI) vwCl [(cf11, .int), (cf13, .int), (cf9, .int), (cf14, .int), (cf16, .int), (cf10, .int), (cf0_0_1, .boolean)] s := hK
          obtain ⟨rfl, hz_9⟩ := hw
          rcases hz_9 with rfl | rfl
          · rw [if_pos rfl] at hsp
            refine lv_if_ne (tgt := 89) hx hb dX5_stepGiveElement_79 (by decide) (fun c_17 => (show False by revert c_17; decide).elim) (fun c_17 => ?_)
            refine lv_aload_n hx hb dX5_stepGiveElement_82 rfl (lv_at hl 4 rfl) ?_
            refine lv_bipush (v := (-7)) hx hb dX5_stepGiveElement_83 (by decide) ?_
            refine va_put (D := (dC, dI)) (ci := 5) (v := .int (-7)) (ty := .int) (C := RX5) (T := TX5) (N := 21) hx hb hts uV_h3_X5 tyX5 tyX5_ok nmX5 hown hK hP hD hS 7 rfl rfl 20 (by decide) (hts (.fieldLink RX5 86 "ClassMill$Machine" "thrown" "I") mw_h3_117) (fun _ h9 => h9) rfl (by decide +kernel) rfl rfl (Nat.le_of_ble_eq_true rfl) dX5_stepGiveElement_85 ?_
            clear hP hD hS
            intro H locs hP hD hS
            replace hP : va_P (dC, dI) vwCl [(qf11, .inl (cf11, 20000, .inl f11)), (qf13, .inl (cf13, 60, .inl f13)), (qf0, .inr (7, [.ref qf0_0, .ref qf0_1, .ref qf0_2, .int v0_3, .int v0_4, .ref qf0_5, .ref qf0_6, .ref qf0_7])), (qf9, .inl (cf9, 2001, .inl f9)), (qf14, .inl (cf14, 60, .inl g903_1)), (qf16, .inl (cf16, 1800, .inl f16)), (qf10, .inl (cf10, 2002, .inl f10)), (h0, .inr (5, [.ref qf0, .int u3_2, .int v2, .int v3, .int v4, .int v5, .int v6, .int v7, .ref qf8, .ref qf9, .ref qf10, .ref qf11, .ref qf12, .ref qf13, .ref qf14, .ref qf15, .ref qf16, .int v17, .ref qf18, .int v19, .int (-7)])), (qf0_0, .inr (4, [.ref qf0_0_0, .ref qf0_0_1])), (qf0_0_1, .inl (cf0_0_1, 256, .inl f0_0_1))] H := hP
            replace hD : va_D A [(qf11, .inl (cf11, 20000, .inl f11)), (qf13, .inl (cf13, 60, .inl f13)), (qf0, .inr (7, [.ref qf0_0, .ref qf0_1, .ref qf0_2, .int v0_3, .int v0_4, .ref qf0_5, .ref qf0_6, .ref qf0_7])), (qf9, .inl (cf9, 2001, .inl f9)), (qf14, .inl (cf14, 60, .inl g903_1)), (qf16, .inl (cf16, 1800, .inl f16)), (qf10, .inl (cf10, 2002, .inl f10)), (h0, .inr (5, [.ref qf0, .int u3_2, .int v2, .int v3, .int v4, .int v5, .int v6, .int v7, .ref qf8, .ref qf9, .ref qf10, .ref qf11, .ref qf12, .ref qf13, .ref qf14, .ref qf15, .ref qf16, .int v17, .ref qf18, .int v19, .int (-7)])), (qf0_0, .inr (4, [.ref qf0_0_0, .ref qf0_0_1])), (qf0_0_1, .inl (cf0_0_1, 256, .inl f0_0_1))] := hD
            have hr0 := Option.some.inj hsp
            clear hsp
            obtain ⟨hq0, hr1⟩ := Prod.mk.inj hr0
            clear hr0
            obtain ⟨hq1, hr2⟩ := Prod.mk.inj hr1
            clear hr1
            obtain ⟨hq2, hr3⟩ := Prod.mk.inj hr2
            clear hr2
            obtain ⟨hq3, hr4⟩ := Prod.mk.inj hr3
            clear hr3
            subst hq0
            subst hq1
            subst hq2
            subst hq3
            subst hr4
            have hP9 := hP.sub (ws' := [(h0, .inr (5, [.ref qf0, .int u3_2, .int v2, .int v3, .int v4, .int v5, .int v6, .int v7, .ref qf8, .ref qf9, .ref qf10, .ref qf11, .ref qf12, .ref qf13, .ref qf14, .ref qf15, .ref qf16, .int v17, .ref qf18, .int v19, .int (-7)])), (qf14, .inl (cf14, 60, .inl g903_1)), (qf16, .inl (cf16, 1800, .inl f16)), (qf10, .inl (cf10, 2002, .inl f10)), (qf11, .inl (cf11, 20000, .inl f11)), (qf13, .inl (cf13, 60, .inl f13)), (qf0, .inr (7, [.ref qf0_0, .ref qf0_1, .ref qf0_2, .int v0_3, .int v0_4, .ref qf0_5, .ref qf0_6, .ref qf0_7])), (qf9, .inl (cf9, 2001, .inl f9)), (qf0_0, .inr (4, [.ref qf0_0_0, .ref qf0_0_1])), (qf0_0_1, .inl (cf0_0_1, 256, .inl f0_0_1))]) [7, 4, 5, 6, 0, 1, 2, 3, 8, 9] rfl
            have hD9 := hD.sub (ws' := [(h0, .inr (5, [.ref qf0, .int u3_2, .int v2, .int v3, .int v4, .int v5, .int v6, .int v7, .ref qf8, .ref qf9, .ref qf10, .ref qf11, .ref qf12, .ref qf13, .ref qf14, .ref qf15, .ref qf16, .int v17, .ref qf18, .int v19, .int (-7)])), (qf14, .inl (cf14, 60, .inl g903_1)), (qf16, .inl (cf16, 1800, .inl f16)), (qf10, .inl (cf10, 2002, .inl f10)), (qf11, .inl (cf11, 20000, .inl f11)), (qf13, .inl (cf13, 60, .inl f13)), (qf0, .inr (7, [.ref qf0_0, .ref qf0_1, .ref qf0_2, .int v0_3, .int v0_4, .ref qf0_5, .ref qf0_6, .ref qf0_7])), (qf9, .inl (cf9, 2001, .inl f9)), (qf0_0, .inr (4, [.ref qf0_0_0, .ref qf0_0_1])), (qf0_0_1, .inl (cf0_0_1, 256, .inl f0_0_1))]) [7, 4, 5, 6, 0, 1, 2, 3, 8, 9] (by decide) rfl
            have hK9 := hK.sub (tys' := [(cf14, .int), (cf16, .int), (cf10, .int), (cf11, .int), (cf13, .int), (cf9, .int), (cf0_0_1, .boolean)]) [3, 4, 5, 0, 1, 2, 6] rfl
            exact W.vret hx hb hr (fun t ht hW => ⟨⟨(), rfl, trivial, by rw [ht]; exact hP9, va_K.moved hW.alike hK9, hD9⟩, hS.F ht⟩) hS.2.2 dX5_stepGiveElement_88
          · rw [if_neg (by decide)] at hsp
            refine lv_if_ne (tgt := 89) hx hb dX5_stepGiveElement_79 (by decide) (fun c_18 => ?_) (fun c_18 => (show False by revert c_18; decide).elim)
            refine lv_aload_n hx hb dX5_stepGiveElement_89 rfl (lv_at hl 4 rfl) ?_
            refine va_get (D := (dC, dI)) (ci := 5) (v := .ref qf11) (C := RX5) (T := TX5) (N := 21) hx hb hts uV_h3_X5 hown hK hP 7 rfl rfl 11 (by decide) (hts (.fieldLink RX5 23 "ClassMill$Machine" "cell" "[I") mw_h3_123) (fun _ h9 => h9) rfl dX5_stepGiveElement_90 ?_
            refine lv_iload hx hb dX5_stepGiveElement_93 (lv_at hl 0 rfl) ?_
            refine lv_iload_n hx hb dX5_stepGiveElement_95 rfl (lv_at hl 3 rfl) ?_
            obtain ⟨hi_19, hsp⟩ := ox_in hsp
            refine va_iast hx hb hK hP hD hS 0 0 rfl rfl (i := u4_0) (x := u1_0) hi_19 dX5_stepGiveElement_96 ?_
            clear hP hD hS
            intro H locs hP hD hS
            replace hP : va_P (dC, dI) vwCl [(qf11, .inl (cf11, 20000, .inl (upd f11 (u4_0 : Int32).toNatClampNeg u1_0))), (qf13, .inl (cf13, 60, .inl f13)), (qf0, .inr (7, [.ref qf0_0, .ref qf0_1, .ref qf0_2, .int v0_3, .int v0_4, .ref qf0_5, .ref qf0_6, .ref qf0_7])), (qf9, .inl (cf9, 2001, .inl f9)), (qf14, .inl (cf14, 60, .inl g903_1)), (qf16, .inl (cf16, 1800, .inl f16)), (qf10, .inl (cf10, 2002, .inl f10)), (h0, .inr (5, [.ref qf0, .int u3_2, .int v2, .int v3, .int v4, .int v5, .int v6, .int v7, .ref qf8, .ref qf9, .ref qf10, .ref qf11, .ref qf12, .ref qf13, .ref qf14, .ref qf15, .ref qf16, .int v17, .ref qf18, .int v19, .int u4_1])), (qf0_0, .inr (4, [.ref qf0_0_0, .ref qf0_0_1])), (qf0_0_1, .inl (cf0_0_1, 256, .inl f0_0_1))] H := hP
            replace hD : va_D A [(qf11, .inl (cf11, 20000, .inl (upd f11 (u4_0 : Int32).toNatClampNeg u1_0))), (qf13, .inl (cf13, 60, .inl f13)), (qf0, .inr (7, [.ref qf0_0, .ref qf0_1, .ref qf0_2, .int v0_3, .int v0_4, .ref qf0_5, .ref qf0_6, .ref qf0_7])), (qf9, .inl (cf9, 2001, .inl f9)), (qf14, .inl (cf14, 60, .inl g903_1)), (qf16, .inl (cf16, 1800, .inl f16)), (qf10, .inl (cf10, 2002, .inl f10)), (h0, .inr (5, [.ref qf0, .int u3_2, .int v2, .int v3, .int v4, .int v5, .int v6, .int v7, .ref qf8, .ref qf9, .ref qf10, .ref qf11, .ref qf12, .ref qf13, .ref qf14, .ref qf15, .ref qf16, .int v17, .ref qf18, .int v19, .int u4_1])), (qf0_0, .inr (4, [.ref qf0_0_0, .ref qf0_0_1])), (qf0_0_1, .inl (cf0_0_1, 256, .inl f0_0_1))] := hD
            refine lv_aload_n hx hb dX5_stepGiveElement_97 rfl (lv_at hl 4 rfl) ?_
            refine lv_iconst (v := 1) hx hb dX5_stepGiveElement_98 (by decide) ?_
            obtain ⟨g910_0, hu_10, hsp⟩ := ox_bind hsp
            try dsimp only at hsp
            have hPc := hP.sub (ws' := [(h0, .inr (5, [.ref qf0, .int u3_2, .int v2, .int v3, .int v4, .int v5, .int v6, .int v7, .ref qf8, .ref qf9, .ref qf10, .ref qf11, .ref qf12, .ref qf13, .ref qf14, .ref qf15, .ref qf16, .int v17, .ref qf18, .int v19, .int u4_1])), (qf13, .inl (cf13, 60, .inl f13))]) [7, 1] rfl
            have hDc := hD.sub (ws' := [(h0, .inr (5, [.ref qf0, .int u3_2, .int v2, .int v3, .int v4, .int v5, .int v6, .int v7, .ref qf8, .ref qf9, .ref qf10, .ref qf11, .ref qf12, .ref qf13, .ref qf14, .ref qf15, .ref qf16, .int v17, .ref qf18, .int v19, .int u4_1])), (qf13, .inl (cf13, 60, .inl f13))]) [7, 1] (by decide) rfl
            have hKc := hK.sub (tys' := [(cf13, .int)]) [1] rfl
            have hFc := va_free (wc := [(h0, .inr (5, [.ref qf0, .int u3_2, .int v2, .int v3, .int v4, .int v5, .int v6, .int v7, .ref qf8, .ref qf9, .ref qf10, .ref qf11, .ref qf12, .ref qf13, .ref qf14, .ref qf15, .ref qf16, .int v17, .ref qf18, .int v19, .int u4_1])), (qf13, .inl (cf13, 60, .inl f13))]) hD hS hA [7, 1] rfl
            refine va_callv (va_runV (As := [.int 1]) (rest := []) ⟨hx, hb, hml, hown, hts⟩ (t5_goOn l dC dI H.size h0 1 qf0 u3_2 v2 v3 v4 v5 v6 v7 qf8 qf9 qf10 qf11 qf12 qf13 qf14 qf15 qf16 v17 qf18 v19 u4_1 cf13 f13 nf g910_0 hu_10) (cwV 1 hts gv_h3_16 rfl rfl rfl (by decide +kernel) ⟨Nat.le_of_ble_eq_true rfl, Nat.le_of_ble_eq_true rfl⟩) ⟨fun a U g mk q => by obtain ⟨q0, q1, qP, qK, qD⟩ := q; exact ⟨q0, q1, qP, va_K.moved (u := U) (U := U.calling g mk a) (Vm.Alike.refl U.vm) qK, qD⟩, va_recv hKc hPc (ci := 5) (q0 := 0) rfl rfl, fun U hU hW => ⟨rfl, by rw [hU], by rw [hU]; exact hPc, va_K.moved hW.alike hKc, hDc.weaken (fun _ _ _ _ => trivial)⟩⟩ rfl rfl hl.1 rfl (lv_room (Nat.le_of_ble_eq_true rfl)) dX5_stepGiveElement_99 ⟨Nat.le_of_ble_eq_true rfl, Nat.le_of_ble_eq_true rfl⟩) hS (fun q _ h => hFc q h) hFc ?_
            clear hS
            intro u t H1 locs ht hvm hw hB hz1 hk1 hS
            obtain ⟨⟩ := u
            obtain ⟨hP1, hK1, hD1⟩ := hB
            rw [ht] at hP1
            have hK1 := va_K.moved hvm.symm hK1
            try dsimp only at hw
            have hPD := va_join (wr := [(qf11, .inl (cf11, 20000, .inl (upd f11 (u4_0 : Int32).toNatClampNeg u1_0))), (qf0, .inr (7, [.ref qf0_0, .ref qf0_1, .ref qf0_2, .int v0_3, .int v0_4, .ref qf0_5, .ref qf0_6, .ref qf0_7])), (qf9, .inl (cf9, 2001, .inl f9)), (qf14, .inl (cf14, 60, .inl g903_1)), (qf16, .inl (cf16, 1800, .inl f16)), (qf10, .inl (cf10, 2002, .inl f10)), (qf0_0, .inr (4, [.ref qf0_0_0, .ref qf0_0_1])), (qf0_0_1, .inl (cf0_0_1, 256, .inl f0_0_1))]) (w1 := [(h0, .inr (5, [.ref qf0, .int u3_2, .int v2, .int v3, .int v4, .int v5, .int v6, .int v7, .ref qf8, .ref qf9, .ref qf10, .ref qf11, .ref qf12, .ref qf13, .ref qf14, .ref qf15, .ref qf16, .int v17, .ref qf18, .int v19, .int u4_1])), (qf13, .inl (cf13, 60, .inl g910_0))]) hP hD [7, 1] [0, 2, 3, 4, 5, 6, 8, 9] rfl rfl (by decide) (by decide) hk1 hFc hP1 hD1
            clear hP hD
            obtain ⟨hP, hD⟩ := hPD
            replace hK := (hK.sub (tys' := [(cf11, .int), (cf9, .int), (cf14, .int), (cf16, .int), (cf10, .int), (cf0_0_1, .boolean)]) [0, 2, 3, 4, 5, 6] rfl).app hK1
            clear hPc hDc hKc hFc hP1 hK1 hD1 hz1 hk1 ht hvm
            generalize H1 = H at hP hS ⊢
            replace hP : va_P (dC, dI) vwCl [(qf11, .inl (cf11, 20000, .inl (upd f11 (u4_0 : Int32).toNatClampNeg u1_0))), (qf0, .inr (7, [.ref qf0_0, .ref qf0_1, .ref qf0_2, .int v0_3, .int v0_4, .ref qf0_5, .ref qf0_6, .ref qf0_7])), (qf9, .inl (cf9, 2001, .inl f9)), (qf14, .inl (cf14, 60, .inl g903_1)), (qf16, .inl (cf16, 1800, .inl f16)), (qf10, .inl (cf10, 2002, .inl f10)), (qf0_0, .inr (4, [.ref qf0_0_0, .ref qf0_0_1])), (qf0_0_1, .inl (cf0_0_1, 256, .inl f0_0_1)), (h0, .inr (5, [.ref qf0, .int u3_2, .int v2, .int v3, .int v4, .int v5, .int v6, .int v7, .ref qf8, .ref qf9, .ref qf10, .ref qf11, .ref qf12, .ref qf13, .ref qf14, .ref qf15, .ref qf16, .int v17, .ref qf18, .int v19, .int u4_1])), (qf13, .inl (cf13, 60, .inl g910_0))] H := hP
            replace hD : va_D A [(qf11, .inl (cf11, 20000, .inl (upd f11 (u4_0 : Int32).toNatClampNeg u1_0))), (qf0, .inr (7, [.ref qf0_0, .ref qf0_1, .ref qf0_2, .int v0_3, .int v0_4, .ref qf0_5, .ref qf0_6, .ref qf0_7])), (qf9, .inl (cf9, 2001, .inl f9)), (qf14, .inl (cf14, 60, .inl g903_1)), (qf16, .inl (cf16, 1800, .inl f16)), (qf10, .inl (cf10, 2002, .inl f10)), (qf0_0, .inr (4, [.ref qf0_0_0, .ref qf0_0_1])), (qf0_0_1, .inl (cf0_0_1, 256, .inl f0_0_1)), (h0, .inr (5, [.ref qf0, .int u3_2, .int v2, .int v3, .int v4, .int v5, .int v6, .int v7, .ref qf8, .ref qf9, .ref qf10, .ref qf11, .ref qf12, .ref qf13, .ref qf14, .ref qf15, .ref qf16, .int v17, .ref qf18, .int v19, .int u4_1])), (qf13, .inl (cf13, 60, .inl g910_0))] := hD
            replace hK : va_K (dC, dI) vwCl [(cf11, .int), (cf9, .int), (cf14, .int), (cf16, .int), (cf10, .int), (cf0_0_1, .boolean), (cf13, .int)] s := hK
            have hr0 := Option.some.inj hsp
            clear hsp
            obtain ⟨hq0, hr1⟩ := Prod.mk.inj hr0
            clear hr0
            obtain ⟨hq1, hr2⟩ := Prod.mk.inj hr1
            clear hr1
            obtain ⟨hq2, hr3⟩ := Prod.mk.inj hr2
            clear hr2
            obtain ⟨hq3, hr4⟩ := Prod.mk.inj hr3
            clear hr3
            subst hq0
            subst hq1
            subst hq2
            subst hq3
            subst hr4
            have hP9 := hP.sub (ws' := [(h0, .inr (5, [.ref qf0, .int u3_2, .int v2, .int v3, .int v4, .int v5, .int v6, .int v7, .ref qf8, .ref qf9, .ref qf10, .ref qf11, .ref qf12, .ref qf13, .ref qf14, .ref qf15, .ref qf16, .int v17, .ref qf18, .int v19, .int u4_1])), (qf14, .inl (cf14, 60, .inl g903_1)), (qf16, .inl (cf16, 1800, .inl f16)), (qf10, .inl (cf10, 2002, .inl f10)), (qf11, .inl (cf11, 20000, .inl (upd f11 (u4_0 : Int32).toNatClampNeg u1_0))), (qf13, .inl (cf13, 60, .inl g910_0)), (qf0, .inr (7, [.ref qf0_0, .ref qf0_1, .ref qf0_2, .int v0_3, .int v0_4, .ref qf0_5, .ref qf0_6, .ref qf0_7])), (qf9, .inl (cf9, 2001, .inl f9)), (qf0_0, .inr (4, [.ref qf0_0_0, .ref qf0_0_1])), (qf0_0_1, .inl (cf0_0_1, 256, .inl f0_0_1))]) [8, 3, 4, 5, 0, 9, 1, 2, 6, 7] rfl
            have hD9 := hD.sub (ws' := [(h0, .inr (5, [.ref qf0, .int u3_2, .int v2, .int v3, .int v4, .int v5, .int v6, .int v7, .ref qf8, .ref qf9, .ref qf10, .ref qf11, .ref qf12, .ref qf13, .ref qf14, .ref qf15, .ref qf16, .int v17, .ref qf18, .int v19, .int u4_1])), (qf14, .inl (cf14, 60, .inl g903_1)), (qf16, .inl (cf16, 1800, .inl f16)), (qf10, .inl (cf10, 2002, .inl f10)), (qf11, .inl (cf11, 20000, .inl (upd f11 (u4_0 : Int32).toNatClampNeg u1_0))), (qf13, .inl (cf13, 60, .inl g910_0)), (qf0, .inr (7, [.ref qf0_0, .ref qf0_1, .ref qf0_2, .int v0_3, .int v0_4, .ref qf0_5, .ref qf0_6, .ref qf0_7])), (qf9, .inl (cf9, 2001, .inl f9)), (qf0_0, .inr (4, [.ref qf0_0_0, .ref qf0_0_1])), (qf0_0_1, .inl (cf0_0_1, 256, .inl f0_0_1))]) [8, 3, 4, 5, 0, 9, 1, 2, 6, 7] (by decide) rfl
            have hK9 := hK.sub (tys' := [(cf14, .int), (cf16, .int), (cf10, .int), (cf11, .int), (cf13, .int), (cf9, .int), (cf0_0_1, .boolean)]) [2, 3, 4, 0, 6, 1, 5] rfl
            exact W.vret hx hb hr (fun t ht hW => ⟨⟨(), rfl, trivial, by rw [ht]; exact hP9, va_K.moved hW.alike hK9, hD9⟩, hS.F ht⟩) hS.2.2 dX5_stepGiveElement_102
    · rw [if_neg c_6] at hsp
      have hr0 := Option.some.inj hsp
      clear hsp
      obtain ⟨hq0, hr1⟩ := Prod.mk.inj hr0
      clear hr0
      obtain ⟨hq1, hr2⟩ := Prod.mk.inj hr1
      clear hr1
      obtain ⟨hq2, hr3⟩ := Prod.mk.inj hr2
      clear hr2
      obtain ⟨hq3, hr4⟩ := Prod.mk.inj hr3
      clear hr3
      subst hq0
      subst hq1
      subst hq2
      subst hq3
      subst hr4
      have hP9 := hP.sub (ws' := [(h0, .inr (5, [.ref qf0, .int u3_2, .int v2, .int v3, .int v4, .int v5, .int v6, .int v7, .ref qf8, .ref qf9, .ref qf10, .ref qf11, .ref qf12, .ref qf13, .ref qf14, .ref qf15, .ref qf16, .int v17, .ref qf18, .int v19, .int u4_1])), (qf14, .inl (cf14, 60, .inl g903_1)), (qf16, .inl (cf16, 1800, .inl f16)), (qf10, .inl (cf10, 2002, .inl f10)), (qf11, .inl (cf11, 20000, .inl f11)), (qf13, .inl (cf13, 60, .inl f13)), (qf0, .inr (7, [.ref qf0_0, .ref qf0_1, .ref qf0_2, .int v0_3, .int v0_4, .ref qf0_5, .ref qf0_6, .ref qf0_7])), (qf9, .inl (cf9, 2001, .inl f9)), (qf0_0, .inr (4, [.ref qf0_0_0, .ref qf0_0_1])), (qf0_0_1, .inl (cf0_0_1, 256, .inl f0_0_1))]) [8, 6, 7, 9, 0, 1, 2, 3, 4, 5] rfl
      have hD9 := hD.sub (ws' := [(h0, .inr (5, [.ref qf0, .int u3_2, .int v2, .int v3, .int v4, .int v5, .int v6, .int v7, .ref qf8, .ref qf9, .ref qf10, .ref qf11, .ref qf12, .ref qf13, .ref qf14, .ref qf15, .ref qf16, .int v17, .ref qf18, .int v19, .int u4_1])), (qf14, .inl (cf14, 60, .inl g903_1)), (qf16, .inl (cf16, 1800, .inl f16)), (qf10, .inl (cf10, 2002, .inl f10)), (qf11, .inl (cf11, 20000, .inl f11)), (qf13, .inl (cf13, 60, .inl f13)), (qf0, .inr (7, [.ref qf0_0, .ref qf0_1, .ref qf0_2, .int v0_3, .int v0_4, .ref qf0_5, .ref qf0_6, .ref qf0_7])), (qf9, .inl (cf9, 2001, .inl f9)), (qf0_0, .inr (4, [.ref qf0_0_0, .ref qf0_0_1])), (qf0_0_1, .inl (cf0_0_1, 256, .inl f0_0_1))]) [8, 6, 7, 9, 0, 1, 2, 3, 4, 5] (by decide) rfl
      have hK9 := hK.sub (tys' := [(cf14, .int), (cf16, .int), (cf10, .int), (cf11, .int), (cf13, .int), (cf9, .int), (cf0_0_1, .boolean)]) [4, 5, 6, 0, 1, 2, 3] rfl
      exact W.vret hx hb hr (fun t ht hW => ⟨⟨(), rfl, trivial, by rw [ht]; exact hP9, va_K.moved hW.alike hK9, hD9⟩, hS.F ht⟩) hS.2.2 dX5_stepGiveElement_38
def sp_t5_fieldCell (nf : Nat) (a1 : Int32) (a2 : Int32) (v4 : Int32) (f10 : Nat → Int32) : Option (Int32) := ((sp_t5_isObject nf a1 v4).bind (fun p1 => (if p1 = 0 then (if a2 < 0 then (some (-1)) else (some (-1))) else (if a1 < 0 then none else if 2002 ≤ (a1 : Int32).toNatClampNeg then none else (if a2 < 0 then (some (-1)) else (if 20000 ≤ ((f10 (a1 : Int32).toNatClampNeg) + a2) then (some (-1)) else (some ((f10 (a1 : Int32).toNatClampNeg) + a2))))))))
