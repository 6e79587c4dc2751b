set_option maxHeartbeats 4000000 in
set_option maxRecDepth 100000 in
/-- ClassMillModel.unfit -/
theorem tm_unfit (l : Launch) (dC : Nat → ClassId) (dI : Nat → Nat → Nat) (sz : Nat) (h0 : Nat) (zs : (List Value)) (a1 : Int32) (v114 : Int32) (nf : Nat) (w114 : Int32) (hlen : zs.length = 155) (hf114 : zs[114]? = some (.int v114)) (hsp : sp_tm_unfit nf a1 v114 = some w114) : Met l yX13_unfit (.code yX13_unfit cX13_unfit 2 none :: VS_h5) ({ frames := 0, cells := 0, slots := 0, locals := 0 }) (va_Pc [.ref h0, .int a1] (fun U => U.heap.size = sz ∧ va_P (dC, dI) vwCl [(h0, .inr (13, zs))] U.heap ∧ va_K (dC, dI) vwCl [] U ∧ va_D (fun _ => True) [(h0, .inr (13, zs))])) (va_Qv (fun (u : (List Value)) => match u with | (zo1) => True ∧ zo1.length = 155 ∧ (∀ j : Nat, j ≠ 114 → zo1[j]? = zs[j]?) ∧ zo1[114]? = some (.int w114)) (fun (u : (List Value)) (t : State) => match u with | (zo1) => va_P (dC, dI) vwCl [(h0, .inr (13, zo1))] t.heap ∧ va_K (dC, dI) vwCl [] t ∧ va_D (va_A [(h0, .inr (13, zs))] sz) [(h0, .inr (13, zo1))]) (va_A [(h0, .inr (13, zs))] sz)) 0 0 (va_A [(h0, .inr (13, zs))] sz) := by
  refine Met.ofW (cc := cX13_unfit) (maxL := 2) (ret := none) (by decide) rfl ?_
  intro p e s m args below meth c s₁ B hml hv
  obtain ⟨rfl, hsz, hP, hK, hD0⟩ := hv
  have hx := B.exec
  have hb := B.bytes
  have hr := B.returns
  have hts := atoms_spec (ws := (.code yX13_unfit cX13_unfit 2 none :: VS_h5)) B.pre
  replace hts := fun w (h : w ∈ VS_h5) => hts w (List.mem_cons_of_mem _ h)
  have hown : s.vm.findClass RX13 = some m.cls := findClass_of_methodNamed B.named
  have hlocks := B.notSynchronized
  subst hsz
  have hD := hD0.self (sz := s.heap.size)
  generalize hAe : va_A [(h0, .inr (13, zs))] s.heap.size = A at hD  ⊢
  have hA : ∀ q : Nat, s.heap.size ≤ q → A q := fun q h => by rw [← hAe]; exact Or.inr h
  have hP : va_P (dC, dI) vwCl [(h0, .inr (13, zs))] s.heap := hP
  have hl := lv_entry ([.ref h0, .int a1]) (n := 2) (Nat.le_of_ble_eq_true rfl)
  rw [lg_entry_eq]
  generalize (lg_sl ([.ref h0, .int a1]) ++ List.replicate (2 - (lg_sl ([.ref h0, .int a1])).length) Slot.unset).toArray = ls at hl ⊢
  have hl : lv_has ls 2 [(0, .ref h0), (1, .int a1)] := hl
  obtain ⟨H, hH⟩ : ∃ H : Heap, s.heap = H := ⟨_, rfl⟩
  rw [hH] at hP ⊢
  have hS : va_S A s.heap H [] := by rw [← hH]; exact va_S.rf
  obtain ⟨locs, hlo⟩ : ∃ locs : List Loc, locs = [] := ⟨_, rfl⟩
  rw [← hlo] at hS ⊢
  have hrs0 : ∀ j : Nat, j ≠ 114 → zs[j]? = zs[j]? := fun _ _  => rfl
  unfold sp_tm_unfit at hsp
  refine lv_aload_n hx hb dX13_unfit_0 rfl (lv_at hl 0 rfl) ?_
  refine va_get (D := (dC, dI)) (ci := 13) (v := .int v114) (C := RX13) (T := TX13) (N := 155) hx hb hts uV_h5_X13 hown hK hP 0 rfl rfl 114 (by decide) (hts (.fieldLink RX13 764 "ClassMillModel" "form" "I") mw_h5_85) (fun _ h9 => h9) hf114 dX13_unfit_1 ?_
  refine lv_iconst (v := (-1)) hx hb dX13_unfit_4 (by decide) ?_
  refine lv_icmp_ne (tgt := 13) hx hb dX13_unfit_5 (by decide) (fun c_1 => ?_) (fun c_1 => ?_)
  · rw [if_neg c_1] at hsp
    have hr0 := Option.some.inj hsp
    clear hsp
    subst hr0
    have hP9 := hP.sub (ws' := [(h0, .inr (13, zs))]) [0] rfl
    have hD9 := hD.sub (ws' := [(h0, .inr (13, zs))]) [0] (by decide) rfl
    have hK9 := hK.sub (tys' := []) [] rfl
    exact W.vret hx hb hr (fun t ht hW => ⟨⟨(zs), rfl, ⟨trivial, hlen, hrs0, hf114⟩, by rw [ht]; exact hP9, va_K.moved hW.alike hK9, hD9⟩, hS.F ht⟩) hS.2.2 dX13_unfit_13
  · rw [if_pos c_1] at hsp
    refine lv_aload_n hx hb dX13_unfit_8 rfl (lv_at hl 0 rfl) ?_
    refine lv_iload_n hx hb dX13_unfit_9 rfl (lv_at hl 1 rfl) ?_
    refine va_put (D := (dC, dI)) (ci := 13) (v := .int a1) (ty := .int) (C := RX13) (T := TX13) (N := 155) hx hb hts uV_h5_X13 tyX13 tyX13_ok nmX13 hown hK hP hD hS 0 rfl rfl 114 (by decide) (hts (.fieldLink RX13 764 "ClassMillModel" "form" "I") mw_h5_85) (fun _ h9 => h9) rfl (by decide +kernel) rfl rfl (by rw [hlen]; decide) dX13_unfit_10 ?_
    clear hP hD hS
    intro H locs hP hD hS
    obtain ⟨fs_2, efs_2⟩ : ∃ zf : List Value, zf = zs.set 114 (.int a1) := ⟨_, rfl⟩
    rw [← efs_2] at hP hD
    have hlfs_2 : fs_2.length = 155 := by rw [efs_2, List.length_set]; exact hlen
    have hfs_2_114 : fs_2[114]? = some (.int a1) := by rw [efs_2, List.getElem?_set_self (by rw [hlen]; decide)]
    replace hP : va_P (dC, dI) vwCl [(h0, .inr (13, fs_2))] H := hP
    replace hD : va_D A [(h0, .inr (13, fs_2))] := hD
    have hrs_3 : ∀ j : Nat, j ≠ 114 → fs_2[j]? = zs[j]? := fun j g114 => ((congrArg (fun z : List Value => z[j]?) efs_2).trans (List.getElem?_set_ne (Ne.symm g114))).trans (hrs0 j g114)
    have hr0 := Option.some.inj hsp
    clear hsp
    subst hr0
    have hP9 := hP.sub (ws' := [(h0, .inr (13, fs_2))]) [0] rfl
    have hD9 := hD.sub (ws' := [(h0, .inr (13, fs_2))]) [0] (by decide) rfl
    have hK9 := hK.sub (tys' := []) [] rfl
    exact W.vret hx hb hr (fun t ht hW => ⟨⟨(fs_2), rfl, ⟨trivial, hlfs_2, hrs_3, hfs_2_114⟩, by rw [ht]; exact hP9, va_K.moved hW.alike hK9, hD9⟩, hS.F ht⟩) hS.2.2 dX13_unfit_13
def sp_tm_constantOf (nf : Nat) (a1 : Int32) (a2 : Int32) (f103 : Nat → Int32) (f102 : Nat → Int32) : Option (Int32) := (if a2 < 1 then (some (-1)) else (if a1 < 0 then none else if 8 ≤ (a1 : Int32).toNatClampNeg then none else (if (f103 (a1 : Int32).toNatClampNeg) < a2 then (some (-1)) else (if ((256 * a1) + a2) < 0 then none else if 2048 ≤ (((256 * a1) + a2) : Int32).toNatClampNeg then none else (some (f102 (((256 * a1) + a2) : Int32).toNatClampNeg))))))
set_option maxHeartbeats 4000000 in
set_option maxRecDepth 100000 in
/-- ClassMillModel.constantOf -/
theorem tm_constantOf (l : Launch) (dC : Nat → ClassId) (dI : Nat → Nat → Nat) (sz : Nat) (h0 : Nat) (zs : (List Value)) (a1 : Int32) (a2 : Int32) (qf102 : Nat) (qf103 : Nat) (cf103 : ClassId) (f103 : (Nat → Int32)) (cf102 : ClassId) (f102 : (Nat → Int32)) (nf : Nat) (r0 : Int32) (hlen : zs.length = 155) (hf102 : zs[102]? = some (.ref qf102)) (hf103 : zs[103]? = some (.ref qf103)) (hsp : sp_tm_constantOf nf a1 a2 f103 f102 = some r0) : Met l yX13_constantOf (.code yX13_constantOf cX13_constantOf 3 (some .int) :: VS_h5) ({ frames := 0, cells := 0, slots := 0, locals := 0 }) (va_Pc [.ref h0, .int a1, .int a2] (fun U => U.heap.size = sz ∧ va_P (dC, dI) vwCl [(h0, .inr (13, zs)), (qf103, .inl (cf103, 8, .inl f103)), (qf102, .inl (cf102, 2048, .inl f102))] U.heap ∧ va_K (dC, dI) vwCl [(cf103, .int), (cf102, .int)] U ∧ va_D (fun _ => True) [(h0, .inr (13, zs)), (qf103, .inl (cf103, 8, .inl f103)), (qf102, .inl (cf102, 2048, .inl f102))])) (va_Qi (fun (r : Int32) (u : (List Value)) => match u with | (zo1) => r0 = r ∧ zo1.length = 155 ∧ (∀ j : Nat, zo1[j]? = zs[j]?)) (fun (u : (List Value)) (t : State) => match u with | (zo1) => va_P (dC, dI) vwCl [(h0, .inr (13, zo1)), (qf103, .inl (cf103, 8, .inl f103)), (qf102, .inl (cf102, 2048, .inl f102))] t.heap ∧ va_K (dC, dI) vwCl [(cf103, .int), (cf102, .int)] t ∧ va_D (va_A [(h0, .inr (13, zs)), (qf103, .inl (cf103, 8, .inl f103)), (qf102, .inl (cf102, 2048, .inl f102))] sz) [(h0, .inr (13, zo1)), (qf103, .inl (cf103, 8, .inl f103)), (qf102, .inl (cf102, 2048, .inl f102))]) (va_A [(h0, .inr (13, zs)), (qf103, .inl (cf103, 8, .inl f103)), (qf102, .inl (cf102, 2048, .inl f102))] sz)) 0 0 (va_A [(h0, .inr (13, zs)), (qf103, .inl (cf103, 8, .inl f103)), (qf102, .inl (cf102, 2048, .inl f102))] sz) := by
  refine Met.ofW (cc := cX13_constantOf) (maxL := 3) (ret := (some .int)) (by decide) rfl ?_
  intro p e s m args below meth c s₁ B hml hv
  obtain ⟨rfl, hsz, hP, hK, hD0⟩ := hv
  have hx := B.exec
  have hb := B.bytes
  have hr := B.returns
  have hts := atoms_spec (ws := (.code yX13_constantOf cX13_constantOf 3 (some .int) :: VS_h5)) B.pre
  replace hts := fun w (h : w ∈ VS_h5) => hts w (List.mem_cons_of_mem _ h)
  have hown : s.vm.findClass RX13 = some m.cls := findClass_of_methodNamed B.named
  have hlocks := B.notSynchronized
  subst hsz
  have hD := hD0.self (sz := s.heap.size)
  generalize hAe : va_A [(h0, .inr (13, zs)), (qf103, .inl (cf103, 8, .inl f103)), (qf102, .inl (cf102, 2048, .inl f102))] s.heap.size = A at hD  ⊢
  have hA : ∀ q : Nat, s.heap.size ≤ q → A q := fun q h => by rw [← hAe]; exact Or.inr h
  have hP : va_P (dC, dI) vwCl [(h0, .inr (13, zs)), (qf103, .inl (cf103, 8, .inl f103)), (qf102, .inl (cf102, 2048, .inl f102))] s.heap := hP
  have hl := lv_entry ([.ref h0, .int a1, .int a2]) (n := 3) (Nat.le_of_ble_eq_true rfl)
  rw [lg_entry_eq]
  generalize (lg_sl ([.ref h0, .int a1, .int a2]) ++ List.replicate (3 - (lg_sl ([.ref h0, .int a1, .int a2])).length) Slot.unset).toArray = ls at hl ⊢
  have hl : lv_has ls 3 [(0, .ref h0), (1, .int a1), (2, .int a2)] := hl
  obtain ⟨H, hH⟩ : ∃ H : Heap, s.heap = H := ⟨_, rfl⟩
  rw [hH] at hP ⊢
  have hS : va_S A s.heap H [] := by rw [← hH]; exact va_S.rf
  obtain ⟨locs, hlo⟩ : ∃ locs : List Loc, locs = [] := ⟨_, rfl⟩
  rw [← hlo] at hS ⊢
  have hrs0 : ∀ j : Nat, zs[j]? = zs[j]? := fun _  => rfl
  unfold sp_tm_constantOf at hsp
  refine lv_iload_n hx hb dX13_constantOf_0 rfl (lv_at hl 2 rfl) ?_
  refine lv_iconst (v := 1) hx hb dX13_constantOf_1 (by decide) ?_
  refine lv_icmp_lt (tgt := 30) hx hb dX13_constantOf_2 (by decide) (fun c_1 => ?_) (fun c_1 => ?_)
  · rw [if_pos c_1] at hsp
    refine lv_iconst (v := (-1)) hx hb dX13_constantOf_30 (by decide) ?_
    have hr0 := Option.some.inj hsp
    clear hsp
    subst hr0
    have hP9 := hP.sub (ws' := [(h0, .inr (13, zs)), (qf103, .inl (cf103, 8, .inl f103)), (qf102, .inl (cf102, 2048, .inl f102))]) [0, 1, 2] rfl
    have hD9 := hD.sub (ws' := [(h0, .inr (13, zs)), (qf103, .inl (cf103, 8, .inl f103)), (qf102, .inl (cf102, 2048, .inl f102))]) [0, 1, 2] (by decide) rfl
    have hK9 := hK.sub (tys' := [(cf103, .int), (cf102, .int)]) [0, 1] rfl
    exact W.iret hx hb hr (fun t ht hW => ⟨⟨((-1)), (zs), rfl, ⟨rfl, hlen, hrs0⟩, by rw [ht]; exact hP9, va_K.moved hW.alike hK9, hD9⟩, hS.F ht⟩) hS.2.2 dX13_constantOf_31
  · rw [if_neg c_1] at hsp
    refine lv_iload_n hx hb dX13_constantOf_5 rfl (lv_at hl 2 rfl) ?_
    refine lv_aload_n hx hb dX13_constantOf_6 rfl (lv_at hl 0 rfl) ?_
    refine va_get (D := (dC, dI)) (ci := 13) (v := .ref qf103) (C := RX13) (T := TX13) (N := 155) hx hb hts uV_h5_X13 hown hK hP 0 rfl rfl 103 (by decide) (hts (.fieldLink RX13 218 "ClassMillModel" "constantMany" "[I") mw_h5_87) (fun _ h9 => h9) hf103 dX13_constantOf_7 ?_
    refine lv_iload_n hx hb dX13_constantOf_10 rfl (lv_at hl 1 rfl) ?_
    obtain ⟨hi_2, hsp⟩ := ox_in hsp
    refine va_iald hx hb hK hP 1 0 rfl rfl (i := a1) hi_2 dX13_constantOf_11 ?_
    refine lv_icmp_gt (tgt := 30) hx hb dX13_constantOf_12 (by decide) (fun c_3 => ?_) (fun c_3 => ?_)
    · rw [if_pos c_3] at hsp
      refine lv_iconst (v := (-1)) hx hb dX13_constantOf_30 (by decide) ?_
      have hr0 := Option.some.inj hsp
      clear hsp
      subst hr0
      have hP9 := hP.sub (ws' := [(h0, .inr (13, zs)), (qf103, .inl (cf103, 8, .inl f103)), (qf102, .inl (cf102, 2048, .inl f102))]) [0, 1, 2] rfl
      have hD9 := hD.sub (ws' := [(h0, .inr (13, zs)), (qf103, .inl (cf103, 8, .inl f103)), (qf102, .inl (cf102, 2048, .inl f102))]) [0, 1, 2] (by decide) rfl
      have hK9 := hK.sub (tys' := [(cf103, .int), (cf102, .int)]) [0, 1] rfl
      exact W.iret hx hb hr (fun t ht hW => ⟨⟨((-1)), (zs), rfl, ⟨rfl, hlen, hrs0⟩, by rw [ht]; exact hP9, va_K.moved hW.alike hK9, hD9⟩, hS.F ht⟩) hS.2.2 dX13_constantOf_31
    · rw [if_neg c_3] at hsp
      refine lv_aload_n hx hb dX13_constantOf_15 rfl (lv_at hl 0 rfl) ?_
      refine va_get (D := (dC, dI)) (ci := 13) (v := .ref qf102) (C := RX13) (T := TX13) (N := 155) hx hb hts uV_h5_X13 hown hK hP 0 rfl rfl 102 (by decide) (hts (.fieldLink RX13 215 "ClassMillModel" "constantAt" "[I") mw_h5_88) (fun _ h9 => h9) hf102 dX13_constantOf_16 ?_
      refine lv_sipush (v := 256) hx hb dX13_constantOf_19 (by decide) ?_
      refine lv_iload_n hx hb dX13_constantOf_22 rfl (lv_at hl 1 rfl) ?_
      refine lv_imul hx hb dX13_constantOf_23 ?_
      refine lv_iload_n hx hb dX13_constantOf_24 rfl (lv_at hl 2 rfl) ?_
      refine lv_iadd hx hb dX13_constantOf_25 ?_
      obtain ⟨hi_4, hsp⟩ := ox_in hsp
      refine va_iald hx hb hK hP 2 1 rfl rfl (i := ((256 * a1) + a2)) hi_4 dX13_constantOf_26 ?_
      refine lv_goto (tgt := 31) hx hb dX13_constantOf_27 (by decide) ?_
      have hr0 := Option.some.inj hsp
      clear hsp
      subst hr0
      have hP9 := hP.sub (ws' := [(h0, .inr (13, zs)), (qf103, .inl (cf103, 8, .inl f103)), (qf102, .inl (cf102, 2048, .inl f102))]) [0, 1, 2] rfl
      have hD9 := hD.sub (ws' := [(h0, .inr (13, zs)), (qf103, .inl (cf103, 8, .inl f103)), (qf102, .inl (cf102, 2048, .inl f102))]) [0, 1, 2] (by decide) rfl
      have hK9 := hK.sub (tys' := [(cf103, .int), (cf102, .int)]) [0, 1] rfl
      exact W.iret hx hb hr (fun t ht hW => ⟨⟨((f102 (((256 * a1) + a2) : Int32).toNatClampNeg)), (zs), rfl, ⟨rfl, hlen, hrs0⟩, by rw [ht]; exact hP9, va_K.moved hW.alike hK9, hD9⟩, hS.F ht⟩) hS.2.2 dX13_constantOf_31
def sp_tm_isNamePart (nf : Nat) (a1 : Int32) (a2 : Int32) : Option (Int32) := ((sp_tm_isLetter nf a1).bind (fun p1 => (if p1 = 0 then (if a2 = 0 then ((sp_tm_isDigit nf a1).bind (fun p2 => (if p2 = 0 then (if a1 = 95 then (some 1) else (some 0)) else (some 1)))) else (some 0)) else (some 1))))
set_option maxHeartbeats 4000000 in
set_option maxRecDepth 100000 in
/-- ClassMillModel.isNamePart -/
theorem tm_isNamePart (l : Launch) (dC : Nat → ClassId) (dI : Nat → Nat → Nat) (sz : Nat) (a1 : Int32) (a2 : Int32) (nf : Nat) (r0 : Int32) (hsp : sp_tm_isNamePart nf a1 a2 = some r0) : Met l yX13_isNamePart (.code yX13_isNamePart cX13_isNamePart 2 (some .boolean) :: VS_h5) ({ frames := 1, cells := 0, slots := 0, locals := 20 }) (va_Pc [.int a1, .int a2] (fun U => U.heap.size = sz ∧ va_P (dC, dI) vwCl [] U.heap ∧ va_K (dC, dI) vwCl [] U ∧ va_D (fun _ => True) [])) (va_Qi (fun (r : Int32) (u : Unit) => match u with | () => r0 = r ∧ (r0 = 0 ∨ r0 = 1)) (fun (u : Unit) (t : State) => match u with | () => va_P (dC, dI) vwCl [] t.heap ∧ va_K (dC, dI) vwCl [] t ∧ va_D (va_A [] sz) []) (va_A [] sz)) 0 0 (va_A [] sz) := by
  refine Met.ofW (cc := cX13_isNamePart) (maxL := 2) (ret := (some .boolean)) (by decide) rfl ?_
  intro p e s m args below meth c s₁ B hml hv
  obtain ⟨rfl, hsz, hP, hK, hD0⟩ := hv
  have hx := B.exec
  have hb := B.bytes
  have hr := B.returns
  have hts := atoms_spec (ws := (.code yX13_isNamePart cX13_isNamePart 2 (some .boolean) :: VS_h5)) B.pre
  replace hts := fun w (h : w ∈ VS_h5) => hts w (List.mem_cons_of_mem _ h)
  have hown : s.vm.findClass RX13 = some m.cls := findClass_of_methodNamed B.named
  have hlocks := B.notSynchronized
  subst hsz
  have hD := hD0.self (sz := s.heap.size)
  generalize hAe : va_A [] s.heap.size = A at hD  ⊢
  have hA : ∀ q : Nat, s.heap.size ≤ q → A q := fun q h => by rw [← hAe]; exact Or.inr h
  have hP : va_P (dC, dI) vwCl [] s.heap := hP
  have hl := lv_entry ([.int a1, .int a2]) (n := 2) (Nat.le_of_ble_eq_true rfl)
  rw [lg_entry_eq]
  generalize (lg_sl ([.int a1, .int a2]) ++ List.replicate (2 - (lg_sl ([.int a1, .int a2])).length) Slot.unset).toArray = ls at hl ⊢
  have hl : lv_has ls 2 [(0, .int a1), (1, .int a2)] := hl
  obtain ⟨H, hH⟩ : ∃ H : Heap, s.heap = H := ⟨_, rfl⟩
  rw [hH] at hP ⊢
  have hS : va_S A s.heap H [] := by rw [← hH]; exact va_S.rf
  obtain ⟨locs, hlo⟩ : ∃ locs : List Loc, locs = [] := ⟨_, rfl⟩
  rw [← hlo] at hS ⊢
  unfold sp_tm_isNamePart at hsp
  refine lv_iload_n hx hb dX13_isNamePart_0 rfl (lv_at hl 0 rfl) ?_
  obtain ⟨u1_0, hu_1, hsp⟩ := ox_bind hsp
  try dsimp only at hsp
  have hPc := hP.sub (ws' := []) [] rfl
  have hDc := hD.sub (ws' := []) [] (by decide) rfl
  have hKc := hK.sub (tys' := []) [] rfl
  have hFc := va_free (wc := []) hD hS hA [] rfl
  refine va_calli (va_runS (As := [.int a1]) (rest := []) ⟨hx, hb, hml, hown, hts⟩ (tm_isLetter l dC dI H.size a1 nf u1_0 hu_1) (va_cwS 1 hts gv_h5_10 rfl rfl rfl (by decide +kernel) ⟨Nat.le_of_ble_eq_true rfl, Nat.le_of_ble_eq_true rfl⟩) ⟨fun a U g mk q => by obtain ⟨q0, q1, qP, qK, qD⟩ := q; exact ⟨q0, q1, qP, va_K.moved (u := U) (U := U.calling g mk a) (Vm.Alike.refl U.vm) qK, qD⟩, fun U hU hW => ⟨rfl, by rw [hU], by rw [hU]; exact hPc, va_K.moved hW.alike hKc, hDc.weaken (fun _ _ _ _ => trivial)⟩⟩ rfl rfl hl.1 rfl (lv_room (Nat.le_of_ble_eq_true rfl)) dX13_isNamePart_1 ⟨Nat.le_of_ble_eq_true rfl, Nat.le_of_ble_eq_true rfl⟩) hS (fun q _ h => hFc q h) hFc ?_
  clear hS
  intro r_1 u t H1 locs ht hvm hw hB hz1 hk1 hS
  obtain ⟨⟩ := u
  obtain ⟨hP1, hK1, hD1⟩ := hB
  rw [ht] at hP1
  have hK1 := va_K.moved hvm.symm hK1
  try dsimp only at hw
  have hPD := va_join (wr := []) (w1 := []) hP hD [] [] rfl rfl (by decide) (by decide) hk1 hFc hP1 hD1
  clear hP hD
  obtain ⟨hP, hD⟩ := hPD
  replace hK := (hK.sub (tys' := []) [] rfl).app hK1
  clear hPc hDc hKc hFc hP1 hK1 hD1 hz1 hk1 ht hvm
  generalize H1 = H at hP hS ⊢
  replace hP : va_P (dC, dI) vwCl [] H := hP
  replace hD : va_D A [] := hD
  replace hK : va_K (dC, dI) vwCl [] s := hK
  obtain ⟨rfl, hz_1⟩ := hw
  rcases hz_1 with rfl | rfl
  · rw [if_pos rfl] at hsp
    refine lv_if_ne (tgt := 24) hx hb dX13_isNamePart_4 (by decide) (fun c_2 => (show False by revert c_2; decide).elim) (fun c_2 => ?_)
    refine lv_iload_n hx hb dX13_isNamePart_7 rfl (lv_at hl 1 rfl) ?_
    refine lv_if_ne (tgt := 28) hx hb dX13_isNamePart_8 (by decide) (fun c_3 => ?_) (fun c_3 => ?_)
    · rw [if_neg c_3] at hsp
      refine lv_iconst (v := 0) hx hb dX13_isNamePart_28 (by decide) ?_
      have hr0 := Option.some.inj hsp
      clear hsp
      subst hr0
      have hP9 := hP.sub (ws' := []) [] rfl
      have hD9 := hD.sub (ws' := []) [] (by decide) rfl
      have hK9 := hK.sub (tys' := []) [] rfl
      exact W.zret hx hb hr (by decide) (fun t ht hW => ⟨⟨(0), (), rfl, ⟨rfl, Or.inl rfl⟩, by rw [ht]; exact hP9, va_K.moved hW.alike hK9, hD9⟩, hS.F ht⟩) hS.2.2 dX13_isNamePart_29
    · rw [if_pos c_3] at hsp
      refine lv_iload_n hx hb dX13_isNamePart_11 rfl (lv_at hl 0 rfl) ?_
      obtain ⟨u2_0, hu_2, hsp⟩ := ox_bind hsp
      try dsimp only at hsp
      have hPc := hP.sub (ws' := []) [] rfl
      have hDc := hD.sub (ws' := []) [] (by decide) rfl
      have hKc := hK.sub (tys' := []) [] rfl
      have hFc := va_free (wc := []) hD hS hA [] rfl
      refine va_calli (va_runS (As := [.int a1]) (rest := []) ⟨hx, hb, hml, hown, hts⟩ (tm_isDigit l dC dI H.size a1 nf u2_0 hu_2) (va_cwS 1 hts gv_h5_11 rfl rfl rfl (by decide +kernel) ⟨Nat.le_of_ble_eq_true rfl, Nat.le_of_ble_eq_true rfl⟩) ⟨fun a U g mk q => by obtain ⟨q0, q1, qP, qK, qD⟩ := q; exact ⟨q0, q1, qP, va_K.moved (u := U) (U := U.calling g mk a) (Vm.Alike.refl U.vm) qK, qD⟩, fun U hU hW => ⟨rfl, by rw [hU], by rw [hU]; exact hPc, va_K.moved hW.alike hKc, hDc.weaken (fun _ _ _ _ => trivial)⟩⟩ rfl rfl hl.1 rfl (lv_room (Nat.le_of_ble_eq_true rfl)) dX13_isNamePart_12 ⟨Nat.le_of_ble_eq_true rfl, Nat.le_of_ble_eq_true rfl⟩) hS (fun q _ h => hFc q h) hFc ?_
      clear hS
      intro r_4 u t H1 locs ht hvm hw hB hz1 hk1 hS
      obtain ⟨⟩ := u
      obtain ⟨hP1, hK1, hD1⟩ := hB
      rw [ht] at hP1
      have hK1 := va_K.moved hvm.symm hK1
      try dsimp only at hw
      have hPD := va_join (wr := []) (w1 := []) hP hD [] [] rfl rfl (by decide) (by decide) hk1 hFc hP1 hD1
      clear hP hD
      obtain ⟨hP, hD⟩ := hPD
      replace hK := (hK.sub (tys' := []) [] rfl).app hK1
      clear hPc hDc hKc hFc hP1 hK1 hD1 hz1 hk1 ht hvm
      generalize H1 = H at hP hS ⊢
      replace hP : va_P (dC, dI) vwCl [] H := hP
      replace hD : va_D A [] := hD
      replace hK : va_K (dC, dI) vwCl [] s := hK
      obtain ⟨rfl, hz_2⟩ := hw
      rcases hz_2 with rfl | rfl
      · rw [if_pos rfl] at hsp
        refine lv_if_ne (tgt := 24) hx hb dX13_isNamePart_15 (by decide) (fun c_5 => (show False by revert c_5; decide).elim) (fun c_5 => ?_)
        refine lv_iload_n hx hb dX13_isNamePart_18 rfl (lv_at hl 0 rfl) ?_
        refine lv_bipush (v := 95) hx hb dX13_isNamePart_19 (by decide) ?_
        refine lv_icmp_ne (tgt := 28) hx hb dX13_isNamePart_21 (by decide) (fun c_6 => ?_) (fun c_6 => ?_)
        · rw [if_neg c_6] at hsp
          refine lv_iconst (v := 0) hx hb dX13_isNamePart_28 (by decide) ?_
          have hr0 := Option.some.inj hsp
          clear hsp
          subst hr0
          have hP9 := hP.sub (ws' := []) [] rfl
          have hD9 := hD.sub (ws' := []) [] (by decide) rfl
          have hK9 := hK.sub (tys' := []) [] rfl
          exact W.zret hx hb hr (by decide) (fun t ht hW => ⟨⟨(0), (), rfl, ⟨rfl, Or.inl rfl⟩, by rw [ht]; exact hP9, va_K.moved hW.alike hK9, hD9⟩, hS.F ht⟩) hS.2.2 dX13_isNamePart_29
        · rw [if_pos c_6] at hsp
          refine lv_iconst (v := 1) hx hb dX13_isNamePart_24 (by decide) ?_
          refine lv_goto (tgt := 29) hx hb dX13_isNamePart_25 (by decide) ?_
          have hr0 := Option.some.inj hsp
          clear hsp
          subst hr0
          have hP9 := hP.sub (ws' := []) [] rfl
          have hD9 := hD.sub (ws' := []) [] (by decide) rfl
          have hK9 := hK.sub (tys' := []) [] rfl
          exact W.zret hx hb hr (by decide) (fun t ht hW => ⟨⟨(1), (), rfl, ⟨rfl, Or.inr rfl⟩, by rw [ht]; exact hP9, va_K.moved hW.alike hK9, hD9⟩, hS.F ht⟩) hS.2.2 dX13_isNamePart_29
      · rw [if_neg (by decide)] at hsp
        refine lv_if_ne (tgt := 24) hx hb dX13_isNamePart_15 (by decide) (fun c_7 => ?_) (fun c_7 => (show False by revert c_7; decide).elim)
        refine lv_iconst (v := 1) hx hb dX13_isNamePart_24 (by decide) ?_
        refine lv_goto (tgt := 29) hx hb dX13_isNamePart_25 (by decide) ?_
        have hr0 := Option.some.inj hsp
        clear hsp
        subst hr0
        have hP9 := hP.sub (ws' := []) [] rfl
        have hD9 := hD.sub (ws' := []) [] (by decide) rfl
        have hK9 := hK.sub (tys' := []) [] rfl
        exact W.zret hx hb hr (by decide) (fun t ht hW => ⟨⟨(1), (), rfl, ⟨rfl, Or.inr rfl⟩, by rw [ht]; exact hP9, va_K.moved hW.alike hK9, hD9⟩, hS.F ht⟩) hS.2.2 dX13_isNamePart_29
  · rw [if_neg (by decide)] at hsp
    refine lv_if_ne (tgt := 24) hx hb dX13_isNamePart_4 (by decide) (fun c_8 => ?_) (fun c_8 => (show False by revert c_8; decide).elim)
    refine lv_iconst (v := 1) hx hb dX13_isNamePart_24 (by decide) ?_
    refine lv_goto (tgt := 29) hx hb dX13_isNamePart_25 (by decide) ?_
    have hr0 := Option.some.inj hsp
    clear hsp
    subst hr0
    have hP9 := hP.sub (ws' := []) [] rfl
    have hD9 := hD.sub (ws' := []) [] (by decide) rfl
    have hK9 := hK.sub (tys' := []) [] rfl
    exact W.zret hx hb hr (by decide) (fun t ht hW => ⟨⟨(1), (), rfl, ⟨rfl, Or.inr rfl⟩, by rw [ht]; exact hP9, va_K.moved hW.alike hK9, hD9⟩, hS.F ht⟩) hS.2.2 dX13_isNamePart_29
def sp_tm_pairAt (nf : Nat) (a1 : Int32) (f112 : Nat → Int32) : Option (Int32) := (if a1 < 0 then none else if 6000 ≤ (a1 : Int32).toNatClampNeg then none else (if (a1 + 1) < 0 then none else if 6000 ≤ ((a1 + 1) : Int32).toNatClampNeg then none else (some (((f112 (a1 : Int32).toNatClampNeg) <<< (8 &&& 31)) ||| (f112 ((a1 + 1) : Int32).toNatClampNeg)))))
set_option maxHeartbeats 4000000 in
set_option maxRecDepth 100000 in
/-- ClassMillModel.pairAt -/
theorem tm_pairAt (l : Launch) (dC : Nat → ClassId) (dI : Nat → Nat → Nat) (sz : Nat) (h0 : Nat) (zs : (List Value)) (a1 : Int32) (qf112 : Nat) (cf112 : ClassId) (f112 : (Nat → Int32)) (nf : Nat) (r0 : Int32) (hlen : zs.length = 155) (hf112 : zs[112]? = some (.ref qf112)) (hsp : sp_tm_pairAt nf a1 f112 = some r0) : Met l yX13_pairAt (.code yX13_pairAt cX13_pairAt 2 (some .int) :: VS_h5) ({ frames := 0, cells := 0, slots := 0, locals := 0 }) (va_Pc [.ref h0, .int a1] (fun U => U.heap.size = sz ∧ va_P (dC, dI) vwCl [(h0, .inr (13, zs)), (qf112, .inl (cf112, 6000, .inl f112))] U.heap ∧ va_K (dC, dI) vwCl [(cf112, .int)] U ∧ va_D (fun _ => True) [(h0, .inr (13, zs)), (qf112, .inl (cf112, 6000, .inl f112))])) (va_Qi (fun (r : Int32) (u : (List Value)) => match u with | (zo1) => r0 = r ∧ zo1.length = 155 ∧ (∀ j : Nat, zo1[j]? = zs[j]?)) (fun (u : (List Value)) (t : State) => match u with | (zo1) => va_P (dC, dI) vwCl [(h0, .inr (13, zo1)), (qf112, .inl (cf112, 6000, .inl f112))] t.heap ∧ va_K (dC, dI) vwCl [(cf112, .int)] t ∧ va_D (va_A [(h0, .inr (13, zs)), (qf112, .inl (cf112, 6000, .inl f112))] sz) [(h0, .inr (13, zo1)), (qf112, .inl (cf112, 6000, .inl f112))]) (va_A [(h0, .inr (13, zs)), (qf112, .inl (cf112, 6000, .inl f112))] sz)) 0 0 (va_A [(h0, .inr (13, zs)), (qf112, .inl (cf112, 6000, .inl f112))] sz) := by
  refine Met.ofW (cc := cX13_pairAt) (maxL := 2) (ret := (some .int)) (by decide) rfl ?_
  intro p e s m args below meth c s₁ B hml hv
  obtain ⟨rfl, hsz, hP, hK, hD0⟩ := hv
  have hx := B.exec
  have hb := B.bytes
  have hr := B.returns
  have hts := atoms_spec (ws := (.code yX13_pairAt cX13_pairAt 2 (some .int) :: VS_h5)) B.pre
  replace hts := fun w (h : w ∈ VS_h5) => hts w (List.mem_cons_of_mem _ h)
  have hown : s.vm.findClass RX13 = some m.cls := findClass_of_methodNamed B.named
  have hlocks := B.notSynchronized
  subst hsz
  have hD := hD0.self (sz := s.heap.size)
  generalize hAe : va_A [(h0, .inr (13, zs)), (qf112, .inl (cf112, 6000, .inl f112))] s.heap.size = A at hD  ⊢
  have hA : ∀ q : Nat, s.heap.size ≤ q → A q := fun q h => by rw [← hAe]; exact Or.inr h
  have hP : va_P (dC, dI) vwCl [(h0, .inr (13, zs)), (qf112, .inl (cf112, 6000, .inl f112))] s.heap := hP
  have hl := lv_entry ([.ref h0, .int a1]) (n := 2) (Nat.le_of_ble_eq_true rfl)
  rw [lg_entry_eq]
  generalize (lg_sl ([.ref h0, .int a1]) ++ List.replicate (2 - (lg_sl ([.ref h0, .int a1])).length) Slot.unset).toArray = ls at hl ⊢
  have hl : lv_has ls 2 [(0, .ref h0), (1, .int a1)] := hl
  obtain ⟨H, hH⟩ : ∃ H : Heap, s.heap = H := ⟨_, rfl⟩
  rw [hH] at hP ⊢
  have hS : va_S A s.heap H [] := by rw [← hH]; exact va_S.rf
  obtain ⟨locs, hlo⟩ : ∃ locs : List Loc, locs = [] := ⟨_, rfl⟩
  rw [← hlo] at hS ⊢
  have hrs0 : ∀ j : Nat, zs[j]? = zs[j]? := fun _  => rfl
  unfold sp_tm_pairAt at hsp
  refine lv_aload_n hx hb dX13_pairAt_0 rfl (lv_at hl 0 rfl) ?_
  refine va_get (D := (dC, dI)) (ci := 13) (v := .ref qf112) (C := RX13) (T := TX13) (N := 155) hx hb hts uV_h5_X13 hown hK hP 0 rfl rfl 112 (by decide) (hts (.fieldLink RX13 245 "ClassMillModel" "look" "[I") mw_h5_98) (fun _ h9 => h9) hf112 dX13_pairAt_1 ?_
  refine lv_iload_n hx hb dX13_pairAt_4 rfl (lv_at hl 1 rfl) ?_
  obtain ⟨hi_1, hsp⟩ := ox_in hsp
  refine va_iald hx hb hK hP 1 0 rfl rfl (i := a1) hi_1 dX13_pairAt_5 ?_
  refine lv_bipush (v := 8) hx hb dX13_pairAt_6 (by decide) ?_
  refine lv_ishl hx hb dX13_pairAt_8 ?_
  refine lv_aload_n hx hb dX13_pairAt_9 rfl (lv_at hl 0 rfl) ?_
  refine va_get (D := (dC, dI)) (ci := 13) (v := .ref qf112) (C := RX13) (T := TX13) (N := 155) hx hb hts uV_h5_X13 hown hK hP 0 rfl rfl 112 (by decide) (hts (.fieldLink RX13 245 "ClassMillModel" "look" "[I") mw_h5_98) (fun _ h9 => h9) hf112 dX13_pairAt_10 ?_
  refine lv_iload_n hx hb dX13_pairAt_13 rfl (lv_at hl 1 rfl) ?_
  refine lv_iconst (v := 1) hx hb dX13_pairAt_14 (by decide) ?_
  refine lv_iadd hx hb dX13_pairAt_15 ?_
  obtain ⟨hi_2, hsp⟩ := ox_in hsp
  refine va_iald hx hb hK hP 1 0 rfl rfl (i := (a1 + 1)) hi_2 dX13_pairAt_16 ?_
  refine lv_ior hx hb dX13_pairAt_17 ?_
  have hr0 := Option.some.inj hsp
  clear hsp
  subst hr0
  have hP9 := hP.sub (ws' := [(h0, .inr (13, zs)), (qf112, .inl (cf112, 6000, .inl f112))]) [0, 1] rfl
  have hD9 := hD.sub (ws' := [(h0, .inr (13, zs)), (qf112, .inl (cf112, 6000, .inl f112))]) [0, 1] (by decide) rfl
  have hK9 := hK.sub (tys' := [(cf112, .int)]) [0] rfl
  exact W.iret hx hb hr (fun t ht hW => ⟨⟨((((f112 (a1 : Int32).toNatClampNeg) <<< (8 &&& 31)) ||| (f112 ((a1 + 1) : Int32).toNatClampNeg))), (zs), rfl, ⟨rfl, hlen, hrs0⟩, by rw [ht]; exact hP9, va_K.moved hW.alike hK9, hD9⟩, hS.F ht⟩) hS.2.2 dX13_pairAt_18
def sp_tm_nameAt (nf : Nat) (a1 : Int32) (f104 : Nat → Int32) (f102 : Nat → Int32) (f100 : Nat → Int32) : Option (Int32) := (if (a1 - 8) < 0 then none else if 8 ≤ ((a1 - 8) : Int32).toNatClampNeg then none else (if ((256 * (a1 - 8)) + (f104 ((a1 - 8) : Int32).toNatClampNeg)) < 0 then none else if 2048 ≤ (((256 * (a1 - 8)) + (f104 ((a1 - 8) : Int32).toNatClampNeg)) : Int32).toNatClampNeg then none else (if (((6000 * (a1 - 8)) + (f102 (((256 * (a1 - 8)) + (f104 ((a1 - 8) : Int32).toNatClampNeg)) : Int32).toNatClampNeg)) + 1) < 0 then none else if 48000 ≤ ((((6000 * (a1 - 8)) + (f102 (((256 * (a1 - 8)) + (f104 ((a1 - 8) : Int32).toNatClampNeg)) : Int32).toNatClampNeg)) + 1) : Int32).toNatClampNeg then none else (if ((256 * (a1 - 8)) + (f100 ((((6000 * (a1 - 8)) + (f102 (((256 * (a1 - 8)) + (f104 ((a1 - 8) : Int32).toNatClampNeg)) : Int32).toNatClampNeg)) + 1) : Int32).toNatClampNeg)) < 0 then none else if 2048 ≤ (((256 * (a1 - 8)) + (f100 ((((6000 * (a1 - 8)) + (f102 (((256 * (a1 - 8)) + (f104 ((a1 - 8) : Int32).toNatClampNeg)) : Int32).toNatClampNeg)) + 1) : Int32).toNatClampNeg)) : Int32).toNatClampNeg then none else (some (((6000 * (a1 - 8)) + (f102 (((256 * (a1 - 8)) + (f100 ((((6000 * (a1 - 8)) + (f102 (((256 * (a1 - 8)) + (f104 ((a1 - 8) : Int32).toNatClampNeg)) : Int32).toNatClampNeg)) + 1) : Int32).toNatClampNeg)) : Int32).toNatClampNeg)) + 1))))))
set_option maxHeartbeats 4000000 in
set_option maxRecDepth 100000 in
/-- ClassMillModel.nameAt -/
theorem tm_nameAt (l : Launch) (dC : Nat → ClassId) (dI : Nat → Nat → Nat) (sz : Nat) (h0 : Nat) (zs : (List Value)) (a1 : Int32) (qf100 : Nat) (qf102 : Nat) (qf104 : Nat) (cf104 : ClassId) (f104 : (Nat → Int32)) (cf102 : ClassId) (f102 : (Nat → Int32)) (cf100 : ClassId) (f100 : (Nat → Int32)) (nf : Nat) (r0 : Int32) (hlen : zs.length = 155) (hf100 : zs[100]? = some (.ref qf100)) (hf102 : zs[102]? = some (.ref qf102)) (hf104 : zs[104]? = some (.ref qf104)) (hsp : sp_tm_nameAt nf a1 f104 f102 f100 = some r0) : Met l yX13_nameAt (.code yX13_nameAt cX13_nameAt 4 (some .int) :: VS_h5) ({ frames := 0, cells := 0, slots := 0, locals := 0 }) (va_Pc [.ref h0, .int a1] (fun U => U.heap.size = sz ∧ va_P (dC, dI) vwCl [(h0, .inr (13, zs)), (qf104, .inl (cf104, 8, .inl f104)), (qf102, .inl (cf102, 2048, .inl f102)), (qf100, .inl (cf100, 48000, .inl f100))] U.heap ∧ va_K (dC, dI) vwCl [(cf104, .int), (cf102, .int), (cf100, .int)] U ∧ va_D (fun _ => True) [(h0, .inr (13, zs)), (qf104, .inl (cf104, 8, .inl f104)), (qf102, .inl (cf102, 2048, .inl f102)), (qf100, .inl (cf100, 48000, .inl f100))])) (va_Qi (fun (r : Int32) (u : (List Value)) => match u with | (zo1) => r0 = r ∧ zo1.length = 155 ∧ (∀ j : Nat, zo1[j]? = zs[j]?)) (fun (u : (List Value)) (t : State) => match u with | (zo1) => va_P (dC, dI) vwCl [(h0, .inr (13, zo1)), (qf104, .inl (cf104, 8, .inl f104)), (qf102, .inl (cf102, 2048, .inl f102)), (qf100, .inl (cf100, 48000, .inl f100))] t.heap ∧ va_K (dC, dI) vwCl [(cf104, .int), (cf102, .int), (cf100, .int)] t ∧ va_D (va_A [(h0, .inr (13, zs)), (qf104, .inl (cf104, 8, .inl f104)), (qf102, .inl (cf102, 2048, .inl f102)), (qf100, .inl (cf100, 48000, .inl f100))] sz) [(h0, .inr (13, zo1)), (qf104, .inl (cf104, 8, .inl f104)), (qf102, .inl (cf102, 2048, .inl f102)), (qf100, .inl (cf100, 48000, .inl f100))]) (va_A [(h0, .inr (13, zs)), (qf104, .inl (cf104, 8, .inl f104)), (qf102, .inl (cf102, 2048, .inl f102)), (qf100, .inl (cf100, 48000, .inl f100))] sz)) 0 0 (va_A [(h0, .inr (13, zs)), (qf104, .inl (cf104, 8, .inl f104)), (qf102, .inl (cf102, 2048, .inl f102)), (qf100, .inl (cf100, 48000, .inl f100))] sz) := by
  refine Met.ofW (cc := cX13_nameAt) (maxL := 4) (ret := (some .int)) (by decide) rfl ?_
  intro p e s m args below meth c s₁ B hml hv
  obtain ⟨rfl, hsz, hP, hK, hD0⟩ := hv
  have hx := B.exec
  have hb := B.bytes
  have hr := B.returns
  have hts := atoms_spec (ws := (.code yX13_nameAt cX13_nameAt 4 (some .int) :: VS_h5)) B.pre
  replace hts := fun w (h : w ∈ VS_h5) => hts w (List.mem_cons_of_mem _ h)
  have hown : s.vm.findClass RX13 = some m.cls := findClass_of_methodNamed B.named
  have hlocks := B.notSynchronized
  subst hsz
  have hD := hD0.self (sz := s.heap.size)
  generalize hAe : va_A [(h0, .inr (13, zs)), (qf104, .inl (cf104, 8, .inl f104)), (qf102, .inl (cf102, 2048, .inl f102)), (qf100, .inl (cf100, 48000, .inl f100))] s.heap.size = A at hD  ⊢
  have hA : ∀ q : Nat, s.heap.size ≤ q → A q := fun q h => by rw [← hAe]; exact Or.inr h
  have hP : va_P (dC, dI) vwCl [(h0, .inr (13, zs)), (qf104, .inl (cf104, 8, .inl f104)), (qf102, .inl (cf102, 2048, .inl f102)), (qf100, .inl (cf100, 48000, .inl f100))] s.heap := hP
  have hl := lv_entry ([.ref h0, .int a1]) (n := 4) (Nat.le_of_ble_eq_true rfl)
  rw [lg_entry_eq]
  generalize (lg_sl ([.ref h0, .int a1]) ++ List.replicate (4 - (lg_sl ([.ref h0, .int a1])).length) Slot.unset).toArray = ls at hl ⊢
  have hl : lv_has ls 4 [(0, .ref h0), (1, .int a1)] := hl
  obtain ⟨H, hH⟩ : ∃ H : Heap, s.heap = H := ⟨_, rfl⟩
  rw [hH] at hP ⊢
  have hS : va_S A s.heap H [] := by rw [← hH]; exact va_S.rf
  obtain ⟨locs, hlo⟩ : ∃ locs : List Loc, locs = [] := ⟨_, rfl⟩
  rw [← hlo] at hS ⊢
  have hrs0 : ∀ j : Nat, zs[j]? = zs[j]? := fun _  => rfl
  unfold sp_tm_nameAt at hsp
  refine lv_iload_n hx hb dX13_nameAt_0 rfl (lv_at hl 1 rfl) ?_
  refine lv_bipush (v := 8) hx hb dX13_nameAt_1 (by decide) ?_
  refine lv_isub hx hb dX13_nameAt_3 ?_
  refine lv_istore_n (lv' := [(2, .int (a1 - 8)), (0, .ref h0), (1, .int a1)]) hx hb dX13_nameAt_4 rfl hl (by decide) rfl (fun ls hl => ?_)
  refine lv_sipush (v := 6000) hx hb dX13_nameAt_5 (by decide) ?_
  refine lv_iload_n hx hb dX13_nameAt_8 rfl (lv_at hl 0 rfl) ?_
  refine lv_imul hx hb dX13_nameAt_9 ?_
  refine lv_aload_n hx hb dX13_nameAt_10 rfl (lv_at hl 1 rfl) ?_
  refine va_get (D := (dC, dI)) (ci := 13) (v := .ref qf102) (C := RX13) (T := TX13) (N := 155) hx hb hts uV_h5_X13 hown hK hP 0 rfl rfl 102 (by decide) (hts (.fieldLink RX13 215 "ClassMillModel" "constantAt" "[I") mw_h5_88) (fun _ h9 => h9) hf102 dX13_nameAt_11 ?_
  refine lv_sipush (v := 256) hx hb dX13_nameAt_14 (by decide) ?_
  refine lv_iload_n hx hb dX13_nameAt_17 rfl (lv_at hl 0 rfl) ?_
  refine lv_imul hx hb dX13_nameAt_18 ?_
  refine lv_aload_n hx hb dX13_nameAt_19 rfl (lv_at hl 1 rfl) ?_
  refine va_get (D := (dC, dI)) (ci := 13) (v := .ref qf104) (C := RX13) (T := TX13) (N := 155) hx hb hts uV_h5_X13 hown hK hP 0 rfl rfl 104 (by decide) (hts (.fieldLink RX13 221 "ClassMillModel" "ownClass" "[I") mw_h5_99) (fun _ h9 => h9) hf104 dX13_nameAt_20 ?_
  refine lv_iload_n hx hb dX13_nameAt_23 rfl (lv_at hl 0 rfl) ?_
  obtain ⟨hi_1, hsp⟩ := ox_in hsp
  refine va_iald hx hb hK hP 1 0 rfl rfl (i := (a1 - 8)) hi_1 dX13_nameAt_24 ?_
  refine lv_iadd hx hb dX13_nameAt_25 ?_
  obtain ⟨hi_2, hsp⟩ := ox_in hsp
  refine va_iald hx hb hK hP 2 1 rfl rfl (i := ((256 * (a1 - 8)) + (f104 ((a1 - 8) : Int32).toNatClampNeg))) hi_2 dX13_nameAt_26 ?_
  refine lv_iadd hx hb dX13_nameAt_27 ?_
  refine lv_istore_n (lv' := [(3, .int ((6000 * (a1 - 8)) + (f102 (((256 * (a1 - 8)) + (f104 ((a1 - 8) : Int32).toNatClampNeg)) : Int32).toNatClampNeg))), (2, .int (a1 - 8)), (0, .ref h0), (1, .int a1)]) hx hb dX13_nameAt_28 rfl hl (by decide) rfl (fun ls hl => ?_)
  refine lv_sipush (v := 6000) hx hb dX13_nameAt_29 (by decide) ?_
  refine lv_iload_n hx hb dX13_nameAt_32 rfl (lv_at hl 1 rfl) ?_
  refine lv_imul hx hb dX13_nameAt_33 ?_
  refine lv_aload_n hx hb dX13_nameAt_34 rfl (lv_at hl 2 rfl) ?_
  refine va_get (D := (dC, dI)) (ci := 13) (v := .ref qf102) (C := RX13) (T := TX13) (N := 155) hx hb hts uV_h5_X13 hown hK hP 0 rfl rfl 102 (by decide) (hts (.fieldLink RX13 215 "ClassMillModel" "constantAt" "[I") mw_h5_88) (fun _ h9 => h9) hf102 dX13_nameAt_35 ?_
  refine lv_sipush (v := 256) hx hb dX13_nameAt_38 (by decide) ?_
  refine lv_iload_n hx hb dX13_nameAt_41 rfl (lv_at hl 1 rfl) ?_
  refine lv_imul hx hb dX13_nameAt_42 ?_
  refine lv_aload_n hx hb dX13_nameAt_43 rfl (lv_at hl 2 rfl) ?_
  refine va_get (D := (dC, dI)) (ci := 13) (v := .ref qf100) (C := RX13) (T := TX13) (N := 155) hx hb hts uV_h5_X13 hown hK hP 0 rfl rfl 100 (by decide) (hts (.fieldLink RX13 209 "ClassMillModel" "bytes" "[I") mw_h5_100) (fun _ h9 => h9) hf100 dX13_nameAt_44 ?_
  refine lv_iload_n hx hb dX13_nameAt_47 rfl (lv_at hl 0 rfl) ?_
  refine lv_iconst (v := 1) hx hb dX13_nameAt_48 (by decide) ?_
  refine lv_iadd hx hb dX13_nameAt_49 ?_
  obtain ⟨hi_3, hsp⟩ := ox_in hsp
  refine va_iald hx hb hK hP 3 2 rfl rfl (i := (((6000 * (a1 - 8)) + (f102 (((256 * (a1 - 8)) + (f104 ((a1 - 8) : Int32).toNatClampNeg)) : Int32).toNatClampNeg)) + 1)) hi_3 dX13_nameAt_50 ?_
  refine lv_iadd hx hb dX13_nameAt_51 ?_
  obtain ⟨hi_4, hsp⟩ := ox_in hsp
  refine va_iald hx hb hK hP 2 1 rfl rfl (i := ((256 * (a1 - 8)) + (f100 ((((6000 * (a1 - 8)) + (f102 (((256 * (a1 - 8)) + (f104 ((a1 - 8) : Int32).toNatClampNeg)) : Int32).toNatClampNeg)) + 1) : Int32).toNatClampNeg))) hi_4 dX13_nameAt_52 ?_
  refine lv_iadd hx hb dX13_nameAt_53 ?_
  refine lv_iconst (v := 1) hx hb dX13_nameAt_54 (by decide) ?_
  refine lv_iadd hx hb dX13_nameAt_55 ?_
  have hr0 := Option.some.inj hsp
  clear hsp
  subst hr0
  have hP9 := hP.sub (ws' := [(h0, .inr (13, zs)), (qf104, .inl (cf104, 8, .inl f104)), (qf102, .inl (cf102, 2048, .inl f102)), (qf100, .inl (cf100, 48000, .inl f100))]) [0, 1, 2, 3] rfl
  have hD9 := hD.sub (ws' := [(h0, .inr (13, zs)), (qf104, .inl (cf104, 8, .inl f104)), (qf102, .inl (cf102, 2048, .inl f102)), (qf100, .inl (cf100, 48000, .inl f100))]) [0, 1, 2, 3] (by decide) rfl
  have hK9 := hK.sub (tys' := [(cf104, .int), (cf102, .int), (cf100, .int)]) [0, 1, 2] rfl
  exact W.iret hx hb hr (fun t ht hW => ⟨⟨((((6000 * (a1 - 8)) + (f102 (((256 * (a1 - 8)) + (f100 ((((6000 * (a1 - 8)) + (f102 (((256 * (a1 - 8)) + (f104 ((a1 - 8) : Int32).toNatClampNeg)) : Int32).toNatClampNeg)) + 1) : Int32).toNatClampNeg)) : Int32).toNatClampNeg)) + 1)), (zs), rfl, ⟨rfl, hlen, hrs0⟩, by rw [ht]; exact hP9, va_K.moved hW.alike hK9, hD9⟩, hS.F ht⟩) hS.2.2 dX13_nameAt_56
def sp_tm_clear (nf : Nat)  : Option (Int32 × Int32 × Int32) := (some (0, 0, 0))
set_option maxHeartbeats 4000000 in
set_option maxRecDepth 100000 in
/-- ClassMillModel.clear -/
theorem tm_clear (l : Launch) (dC : Nat → ClassId) (dI : Nat → Nat → Nat) (sz : Nat) (h0 : Nat) (zs : (List Value)) (v98 : Int32) (v99 : Int32) (v138 : Int32) (nf : Nat) (w138 : Int32) (w98 : Int32) (w99 : Int32) (hlen : zs.length = 155) (hf98 : zs[98]? = some (.int v98)) (hf99 : zs[99]? = some (.int v99)) (hf138 : zs[138]? = some (.int v138)) (hsp : sp_tm_clear nf  = some (w138, w98, w99)) : Met l yX13_clear (.code yX13_clear cX13_clear 1 none :: VS_h5) ({ frames := 0, cells := 0, slots := 0, locals := 0 }) (va_Pc [.ref h0] (fun U => U.heap.size = sz ∧ va_P (dC, dI) vwCl [(h0, .inr (13, zs))] U.heap ∧ va_K (dC, dI) vwCl [] U ∧ va_D (fun _ => True) [(h0, .inr (13, zs))])) (va_Qv (fun (u : (List Value)) => match u with | (zo1) => True ∧ zo1.length = 155 ∧ (∀ j : Nat, j ≠ 138 → j ≠ 98 → j ≠ 99 → zo1[j]? = zs[j]?) ∧ zo1[138]? = some (.int w138) ∧ zo1[98]? = some (.int w98) ∧ zo1[99]? = some (.int w99)) (fun (u : (List Value)) (t : State) => match u with | (zo1) => va_P (dC, dI) vwCl [(h0, .inr (13, zo1))] t.heap ∧ va_K (dC, dI) vwCl [] t ∧ va_D (va_A [(h0, .inr (13, zs))] sz) [(h0, .inr (13, zo1))]) (va_A [(h0, .inr (13, zs))] sz)) 0 0 (va_A [(h0, .inr (13, zs))] sz) := by
  refine Met.ofW (cc := cX13_clear) (maxL := 1) (ret := none) (by decide) rfl ?_
  intro p e s m args below meth c s₁ B hml hv
  obtain ⟨rfl, hsz, hP, hK, hD0⟩ := hv
  have hx := B.exec
  have hb := B.bytes
  have hr := B.returns
  have hts := atoms_spec (ws := (.code yX13_clear cX13_clear 1 none :: VS_h5)) B.pre
  replace hts := fun w (h : w ∈ VS_h5) => hts w (List.mem_cons_of_mem _ h)
  have hown : s.vm.findClass RX13 = some m.cls := findClass_of_methodNamed B.named
  have hlocks := B.notSynchronized
  subst hsz
  have hD := hD0.self (sz := s.heap.size)
  generalize hAe : va_A [(h0, .inr (13, zs))] s.heap.size = A at hD  ⊢
  have hA : ∀ q : Nat, s.heap.size ≤ q → A q := fun q h => by rw [← hAe]; exact Or.inr h
  have hP : va_P (dC, dI) vwCl [(h0, .inr (13, zs))] s.heap := hP
  have hl := lv_entry ([.ref h0]) (n := 1) (Nat.le_of_ble_eq_true rfl)
  rw [lg_entry_eq]
  generalize (lg_sl ([.ref h0]) ++ List.replicate (1 - (lg_sl ([.ref h0])).length) Slot.unset).toArray = ls at hl ⊢
  have hl : lv_has ls 1 [(0, .ref h0)] := hl
  obtain ⟨H, hH⟩ : ∃ H : Heap, s.heap = H := ⟨_, rfl⟩
  rw [hH] at hP ⊢
  have hS : va_S A s.heap H [] := by rw [← hH]; exact va_S.rf
  obtain ⟨locs, hlo⟩ : ∃ locs : List Loc, locs = [] := ⟨_, rfl⟩
  rw [← hlo] at hS ⊢
  have hrs0 : ∀ j : Nat, j ≠ 138 → j ≠ 98 → j ≠ 99 → zs[j]? = zs[j]? := fun _ _ _ _  => rfl
  unfold sp_tm_clear at hsp
  refine lv_aload_n hx hb dX13_clear_0 rfl (lv_at hl 0 rfl) ?_
  refine lv_iconst (v := 0) hx hb dX13_clear_1 (by decide) ?_
  refine va_put (D := (dC, dI)) (ci := 13) (v := .int 0) (ty := .int) (C := RX13) (T := TX13) (N := 155) hx hb hts uV_h5_X13 tyX13 tyX13_ok nmX13 hown hK hP hD hS 0 rfl rfl 98 (by decide) (hts (.fieldLink RX13 833 "ClassMillModel" "there" "I") mw_h5_101) (fun _ h9 => h9) rfl (by decide +kernel) rfl rfl (by rw [hlen]; decide) dX13_clear_2 ?_
  clear hP hD hS
  intro H locs hP hD hS
  obtain ⟨fs_1, efs_1⟩ : ∃ zf : List Value, zf = zs.set 98 (.int 0) := ⟨_, rfl⟩
  rw [← efs_1] at hP hD
  have hlfs_1 : fs_1.length = 155 := by rw [efs_1, List.length_set]; exact hlen
  have hfs_1_99 : fs_1[99]? = some (.int v99) := by rw [efs_1, List.getElem?_set_ne (by decide)]; exact hf99
  have hfs_1_138 : fs_1[138]? = some (.int v138) := by rw [efs_1, List.getElem?_set_ne (by decide)]; exact hf138
  have hfs_1_98 : fs_1[98]? = some (.int 0) := by rw [efs_1, List.getElem?_set_self (by rw [hlen]; decide)]
  replace hP : va_P (dC, dI) vwCl [(h0, .inr (13, fs_1))] H := hP
  replace hD : va_D A [(h0, .inr (13, fs_1))] := hD
  have hrs_2 : ∀ j : Nat, j ≠ 138 → j ≠ 98 → j ≠ 99 → fs_1[j]? = zs[j]? := fun j g138 g98 g99 => ((congrArg (fun z : List Value => z[j]?) efs_1).trans (List.getElem?_set_ne (Ne.symm g98))).trans (hrs0 j g138 g98 g99)
  refine lv_aload_n hx hb dX13_clear_5 rfl (lv_at hl 0 rfl) ?_
  refine lv_iconst (v := 0) hx hb dX13_clear_6 (by decide) ?_
  refine va_put (D := (dC, dI)) (ci := 13) (v := .int 0) (ty := .boolean) (C := RX13) (T := TX13) (N := 155) hx hb hts uV_h5_X13 tyX13 tyX13_ok nmX13 hown hK hP hD hS 0 rfl rfl 99 (by decide) (hts (.fieldLink RX13 855 "ClassMillModel" "verified" "Z") mw_h5_102) (fun _ h9 => h9) rfl (by decide +kernel) rfl rfl (by rw [hlfs_1]; decide) dX13_clear_7 ?_
  clear hP hD hS
  intro H locs hP hD hS
  obtain ⟨fs_3, efs_3⟩ : ∃ zf : List Value, zf = fs_1.set 99 (.int 0) := ⟨_, rfl⟩
  rw [← efs_3] at hP hD
  have hlfs_3 : fs_3.length = 155 := by rw [efs_3, List.length_set]; exact hlfs_1
  have hfs_3_138 : fs_3[138]? = some (.int v138) := by rw [efs_3, List.getElem?_set_ne (by decide)]; exact hfs_1_138
  have hfs_3_98 : fs_3[98]? = some (.int 0) := by rw [efs_3, List.getElem?_set_ne (by decide)]; exact hfs_1_98
  have hfs_3_99 : fs_3[99]? = some (.int 0) := by rw [efs_3, List.getElem?_set_self (by rw [hlfs_1]; decide)]
  replace hP : va_P (dC, dI) vwCl [(h0, .inr (13, fs_3))] H := hP
  replace hD : va_D A [(h0, .inr (13, fs_3))] := hD
  have hrs_4 : ∀ j : Nat, j ≠ 138 → j ≠ 98 → j ≠ 99 → fs_3[j]? = zs[j]? := fun j g138 g98 g99 => ((congrArg (fun z : List Value => z[j]?) efs_3).trans (List.getElem?_set_ne (Ne.symm g99))).trans (hrs_2 j g138 g98 g99)
  refine lv_aload_n hx hb dX13_clear_10 rfl (lv_at hl 0 rfl) ?_
  refine lv_iconst (v := 0) hx hb dX13_clear_11 (by decide) ?_
  refine va_put (D := (dC, dI)) (ci := 13) (v := .int 0) (ty := .int) (C := RX13) (T := TX13) (N := 155) hx hb hts uV_h5_X13 tyX13 tyX13_ok nmX13 hown hK hP hD hS 0 rfl rfl 138 (by decide) (hts (.fieldLink RX13 858 "ClassMillModel" "state" "I") mw_h5_103) (fun _ h9 => h9) rfl (by decide +kernel) rfl rfl (by rw [hlfs_3]; decide) dX13_clear_12 ?_
  clear hP hD hS
  intro H locs hP hD hS
  obtain ⟨fs_5, efs_5⟩ : ∃ zf : List Value, zf = fs_3.set 138 (.int 0) := ⟨_, rfl⟩
  rw [← efs_5] at hP hD
  have hlfs_5 : fs_5.length = 155 := by rw [efs_5, List.length_set]; exact hlfs_3
  have hfs_5_98 : fs_5[98]? = some (.int 0) := by rw [efs_5, List.getElem?_set_ne (by decide)]; exact hfs_3_98
  have hfs_5_99 : fs_5[99]? = some (.int 0) := by rw [efs_5, List.getElem?_set_ne (by decide)]; exact hfs_3_99
  have hfs_5_138 : fs_5[138]? = some (.int 0) := by rw [efs_5, List.getElem?_set_self (by rw [hlfs_3]; decide)]
  replace hP : va_P (dC, dI) vwCl [(h0, .inr (13, fs_5))] H := hP
  replace hD : va_D A [(h0, .inr (13, fs_5))] := hD
  have hrs_6 : ∀ j : Nat, j ≠ 138 → j ≠ 98 → j ≠ 99 → fs_5[j]? = zs[j]? := fun j g138 g98 g99 => ((congrArg (fun z : List Value => z[j]?) efs_5).trans (List.getElem?_set_ne (Ne.symm g138))).trans (hrs_4 j g138 g98 g99)
  have hr0 := Option.some.inj hsp
  clear hsp
  obtain ⟨hq0, hr1⟩ := Prod.mk.inj hr0
  clear hr0
  obtain ⟨hq1, hr2⟩ := Prod.mk.inj hr1
  clear hr1
  subst hq0
  subst hq1
  subst hr2
  have hP9 := hP.sub (ws' := [(h0, .inr (13, fs_5))]) [0] rfl
  have hD9 := hD.sub (ws' := [(h0, .inr (13, fs_5))]) [0] (by decide) rfl
  have hK9 := hK.sub (tys' := []) [] rfl
  exact W.vret hx hb hr (fun t ht hW => ⟨⟨(fs_5), rfl, ⟨trivial, hlfs_5, hrs_6, hfs_5_138, hfs_5_98, hfs_5_99⟩, by rw [ht]; exact hP9, va_K.moved hW.alike hK9, hD9⟩, hS.F ht⟩) hS.2.2 dX13_clear_15
def sp_tm_byteAt (nf : Nat) (a1 : Int32) (a2 : Int32) (f100 : Nat → Int32) : Option (Int32) := (if ((6000 * a1) + a2) < 0 then none else if 48000 ≤ (((6000 * a1) + a2) : Int32).toNatClampNeg then none else (some (f100 (((6000 * a1) + a2) : Int32).toNatClampNeg)))
set_option maxHeartbeats 4000000 in
set_option maxRecDepth 100000 in
/-- ClassMillModel.byteAt -/
theorem tm_byteAt (l : Launch) (dC : Nat → ClassId) (dI : Nat → Nat → Nat) (sz : Nat) (h0 : Nat) (zs : (List Value)) (a1 : Int32) (a2 : Int32) (qf100 : Nat) (cf100 : ClassId) (f100 : (Nat → Int32)) (nf : Nat) (r0 : Int32) (hlen : zs.length = 155) (hf100 : zs[100]? = some (.ref qf100)) (hsp : sp_tm_byteAt nf a1 a2 f100 = some r0) : Met l yX13_byteAt (.code yX13_byteAt cX13_byteAt 3 (some .int) :: VS_h5) ({ frames := 0, cells := 0, slots := 0, locals := 0 }) (va_Pc [.ref h0, .int a1, .int a2] (fun U => U.heap.size = sz ∧ va_P (dC, dI) vwCl [(h0, .inr (13, zs)), (qf100, .inl (cf100, 48000, .inl f100))] U.heap ∧ va_K (dC, dI) vwCl [(cf100, .int)] U ∧ va_D (fun _ => True) [(h0, .inr (13, zs)), (qf100, .inl (cf100, 48000, .inl f100))])) (va_Qi (fun (r : Int32) (u : (List Value)) => match u with | (zo1) => r0 = r ∧ zo1.length = 155 ∧ (∀ j : Nat, zo1[j]? = zs[j]?)) (fun (u : (List Value)) (t : State) => match u with | (zo1) => va_P (dC, dI) vwCl [(h0, .inr (13, zo1)), (qf100, .inl (cf100, 48000, .inl f100))] t.heap ∧ va_K (dC, dI) vwCl [(cf100, .int)] t ∧ va_D (va_A [(h0, .inr (13, zs)), (qf100, .inl (cf100, 48000, .inl f100))] sz) [(h0, .inr (13, zo1)), (qf100, .inl (cf100, 48000, .inl f100))]) (va_A [(h0, .inr (13, zs)), (qf100, .inl (cf100, 48000, .inl f100))] sz)) 0 0 (va_A [(h0, .inr (13, zs)), (qf100, .inl (cf100, 48000, .inl f100))] sz) := by
  refine Met.ofW (cc := cX13_byteAt) (maxL := 3) (ret := (some .int)) (by decide) rfl ?_
  intro p e s m args below meth c s₁ B hml hv
  obtain ⟨rfl, hsz, hP, hK, hD0⟩ := hv
  have hx := B.exec
  have hb := B.bytes
  have hr := B.returns
  have hts := atoms_spec (ws := (.code yX13_byteAt cX13_byteAt 3 (some .int) :: VS_h5)) B.pre
  replace hts := fun w (h : w ∈ VS_h5) => hts w (List.mem_cons_of_mem _ h)
  have hown : s.vm.findClass RX13 = some m.cls := findClass_of_methodNamed B.named
  have hlocks := B.notSynchronized
  subst hsz
  have hD := hD0.self (sz := s.heap.size)
  generalize hAe : va_A [(h0, .inr (13, zs)), (qf100, .inl (cf100, 48000, .inl f100))] s.heap.size = A at hD  ⊢
  have hA : ∀ q : Nat, s.heap.size ≤ q → A q := fun q h => by rw [← hAe]; exact Or.inr h
  have hP : va_P (dC, dI) vwCl [(h0, .inr (13, zs)), (qf100, .inl (cf100, 48000, .inl f100))] s.heap := hP
  have hl := lv_entry ([.ref h0, .int a1, .int a2]) (n := 3) (Nat.le_of_ble_eq_true rfl)
  rw [lg_entry_eq]
  generalize (lg_sl ([.ref h0, .int a1, .int a2]) ++ List.replicate (3 - (lg_sl ([.ref h0, .int a1, .int a2])).length) Slot.unset).toArray = ls at hl ⊢
  have hl : lv_has ls 3 [(0, .ref h0), (1, .int a1), (2, .int a2)] := hl
  obtain ⟨H, hH⟩ : ∃ H : Heap, s.heap = H := ⟨_, rfl⟩
  rw [hH] at hP ⊢
  have hS : va_S A s.heap H [] := by rw [← hH]; exact va_S.rf
  obtain ⟨locs, hlo⟩ : ∃ locs : List Loc, locs = [] := ⟨_, rfl⟩
  rw [← hlo] at hS ⊢
  have hrs0 : ∀ j : Nat, zs[j]? = zs[j]? := fun _  => rfl
  unfold sp_tm_byteAt at hsp
  refine lv_aload_n hx hb dX13_byteAt_0 rfl (lv_at hl 0 rfl) ?_
  refine va_get (D := (dC, dI)) (ci := 13) (v := .ref qf100) (C := RX13) (T := TX13) (N := 155) hx hb hts uV_h5_X13 hown hK hP 0 rfl rfl 100 (by decide) (hts (.fieldLink RX13 209 "ClassMillModel" "bytes" "[I") mw_h5_100) (fun _ h9 => h9) hf100 dX13_byteAt_1 ?_
  refine lv_sipush (v := 6000) hx hb dX13_byteAt_4 (by decide) ?_
  refine lv_iload_n hx hb dX13_byteAt_7 rfl (lv_at hl 1 rfl) ?_
  refine lv_imul hx hb dX13_byteAt_8 ?_
  refine lv_iload_n hx hb dX13_byteAt_9 rfl (lv_at hl 2 rfl) ?_
  refine lv_iadd hx hb dX13_byteAt_10 ?_
  obtain ⟨hi_1, hsp⟩ := ox_in hsp
  refine va_iald hx hb hK hP 1 0 rfl rfl (i := ((6000 * a1) + a2)) hi_1 dX13_byteAt_11 ?_
  have hr0 := Option.some.inj hsp
  clear hsp
  subst hr0
  have hP9 := hP.sub (ws' := [(h0, .inr (13, zs)), (qf100, .inl (cf100, 48000, .inl f100))]) [0, 1] rfl
  have hD9 := hD.sub (ws' := [(h0, .inr (13, zs)), (qf100, .inl (cf100, 48000, .inl f100))]) [0, 1] (by decide) rfl
  have hK9 := hK.sub (tys' := [(cf100, .int)]) [0] rfl
  exact W.iret hx hb hr (fun t ht hW => ⟨⟨((f100 (((6000 * a1) + a2) : Int32).toNatClampNeg)), (zs), rfl, ⟨rfl, hlen, hrs0⟩, by rw [ht]; exact hP9, va_K.moved hW.alike hK9, hD9⟩, hS.F ht⟩) hS.2.2 dX13_byteAt_12
def sp_tm_textOfClass (nf : Nat) (a1 : Int32) (a2 : Int32) (f102 : Nat → Int32) (f100 : Nat → Int32) : Option (Int32) := (if ((256 * a1) + a2) < 0 then none else if 2048 ≤ (((256 * a1) + a2) : Int32).toNatClampNeg then none else ((sp_tm_byteAt nf a1 ((f102 (((256 * a1) + a2) : Int32).toNatClampNeg) + 1) f100).bind (fun p1 => (some p1))))
set_option maxHeartbeats 4000000 in
set_option maxRecDepth 100000 in
/-- ClassMillModel.textOfClass -/
theorem tm_textOfClass (l : Launch) (dC : Nat → ClassId) (dI : Nat → Nat → Nat) (sz : Nat) (h0 : Nat) (zs : (List Value)) (a1 : Int32) (a2 : Int32) (qf100 : Nat) (qf102 : Nat) (cf102 : ClassId) (f102 : (Nat → Int32)) (cf100 : ClassId) (f100 : (Nat → Int32)) (nf : Nat) (r0 : Int32) (hlen : zs.length = 155) (hf100 : zs[100]? = some (.ref qf100)) (hf102 : zs[102]? = some (.ref qf102)) (hsp : sp_tm_textOfClass nf a1 a2 f102 f100 = some r0) : Met l yX13_textOfClass (.code yX13_textOfClass cX13_textOfClass 3 (some .int) :: VS_h5) ({ frames := 1, cells := 0, slots := 0, locals := 22 }) (va_Pc [.ref h0, .int a1, .int a2] (fun U => U.heap.size = sz ∧ va_P (dC, dI) vwCl [(h0, .inr (13, zs)), (qf102, .inl (cf102, 2048, .inl f102)), (qf100, .inl (cf100, 48000, .inl f100))] U.heap ∧ va_K (dC, dI) vwCl [(cf102, .int), (cf100, .int)] U ∧ va_D (fun _ => True) [(h0, .inr (13, zs)), (qf102, .inl (cf102, 2048, .inl f102)), (qf100, .inl (cf100, 48000, .inl f100))])) (va_Qi (fun (r : Int32) (u : (List Value)) => match u with | (zo1) => r0 = r ∧ zo1.length = 155 ∧ (∀ j : Nat, zo1[j]? = zs[j]?)) (fun (u : (List Value)) (t : State) => match u with | (zo1) => va_P (dC, dI) vwCl [(h0, .inr (13, zo1)), (qf102, .inl (cf102, 2048, .inl f102)), (qf100, .inl (cf100, 48000, .inl f100))] t.heap ∧ va_K (dC, dI) vwCl [(cf102, .int), (cf100, .int)] t ∧ va_D (va_A [(h0, .inr (13, zs)), (qf102, .inl (cf102, 2048, .inl f102)), (qf100, .inl (cf100, 48000, .inl f100))] sz) [(h0, .inr (13, zo1)), (qf102, .inl (cf102, 2048, .inl f102)), (qf100, .inl (cf100, 48000, .inl f100))]) (va_A [(h0, .inr (13, zs)), (qf102, .inl (cf102, 2048, .inl f102)), (qf100, .inl (cf100, 48000, .inl f100))] sz)) 0 0 (va_A [(h0, .inr (13, zs)), (qf102, .inl (cf102, 2048, .inl f102)), (qf100, .inl (cf100, 48000, .inl f100))] sz) := by
  refine Met.ofW (cc := cX13_textOfClass) (maxL := 3) (ret := (some .int)) (by decide) rfl ?_
  intro p e s m args below meth c s₁ B hml hv
  obtain ⟨rfl, hsz, hP, hK, hD0⟩ := hv
  have hx := B.exec
  have hb := B.bytes
  have hr := B.returns
  have hts := atoms_spec (ws := (.code yX13_textOfClass cX13_textOfClass 3 (some .int) :: VS_h5)) B.pre
  replace hts := fun w (h : w ∈ VS_h5) => hts w (List.mem_cons_of_mem _ h)
  have hown : s.vm.findClass RX13 = some m.cls := findClass_of_methodNamed B.named
  have hlocks := B.notSynchronized
  subst hsz
  have hD := hD0.self (sz := s.heap.size)
  generalize hAe : va_A [(h0, .inr (13, zs)), (qf102, .inl (cf102, 2048, .inl f102)), (qf100, .inl (cf100, 48000, .inl f100))] s.heap.size = A at hD  ⊢
  have hA : ∀ q : Nat, s.heap.size ≤ q → A q := fun q h => by rw [← hAe]; exact Or.inr h
  have hP : va_P (dC, dI) vwCl [(h0, .inr (13, zs)), (qf102, .inl (cf102, 2048, .inl f102)), (qf100, .inl (cf100, 48000, .inl f100))] s.heap := hP
  have hl := lv_entry ([.ref h0, .int a1, .int a2]) (n := 3) (Nat.le_of_ble_eq_true rfl)
  rw [lg_entry_eq]
  generalize (lg_sl ([.ref h0, .int a1, .int a2]) ++ List.replicate (3 - (lg_sl ([.ref h0, .int a1, .int a2])).length) Slot.unset).toArray = ls at hl ⊢
  have hl : lv_has ls 3 [(0, .ref h0), (1, .int a1), (2, .int a2)] := hl
  obtain ⟨H, hH⟩ : ∃ H : Heap, s.heap = H := ⟨_, rfl⟩
  rw [hH] at hP ⊢
  have hS : va_S A s.heap H [] := by rw [← hH]; exact va_S.rf
  obtain ⟨locs, hlo⟩ : ∃ locs : List Loc, locs = [] := ⟨_, rfl⟩
  rw [← hlo] at hS ⊢
  have hrs0 : ∀ j : Nat, zs[j]? = zs[j]? := fun _  => rfl
  unfold sp_tm_textOfClass at hsp
  refine lv_aload_n hx hb dX13_textOfClass_0 rfl (lv_at hl 0 rfl) ?_
  refine lv_iload_n hx hb dX13_textOfClass_1 rfl (lv_at hl 1 rfl) ?_
  refine lv_aload_n hx hb dX13_textOfClass_2 rfl (lv_at hl 0 rfl) ?_
  refine va_get (D := (dC, dI)) (ci := 13) (v := .ref qf102) (C := RX13) (T := TX13) (N := 155) hx hb hts uV_h5_X13 hown hK hP 0 rfl rfl 102 (by decide) (hts (.fieldLink RX13 215 "ClassMillModel" "constantAt" "[I") mw_h5_88) (fun _ h9 => h9) hf102 dX13_textOfClass_3 ?_
  refine lv_sipush (v := 256) hx hb dX13_textOfClass_6 (by decide) ?_
  refine lv_iload_n hx hb dX13_textOfClass_9 rfl (lv_at hl 1 rfl) ?_
  refine lv_imul hx hb dX13_textOfClass_10 ?_
  refine lv_iload_n hx hb dX13_textOfClass_11 rfl (lv_at hl 2 rfl) ?_
  refine lv_iadd hx hb dX13_textOfClass_12 ?_
  obtain ⟨hi_1, hsp⟩ := ox_in hsp
  refine va_iald hx hb hK hP 1 0 rfl rfl (i := ((256 * a1) + a2)) hi_1 dX13_textOfClass_13 ?_
  refine lv_iconst (v := 1) hx hb dX13_textOfClass_14 (by decide) ?_
  refine lv_iadd hx hb dX13_textOfClass_15 ?_
  obtain ⟨u1_0, hu_1, hsp⟩ := ox_bind hsp
  try dsimp only at hsp
  have hPc := hP.sub (ws' := [(h0, .inr (13, zs)), (qf100, .inl (cf100, 48000, .inl f100))]) [0, 2] rfl
  have hDc := hD.sub (ws' := [(h0, .inr (13, zs)), (qf100, .inl (cf100, 48000, .inl f100))]) [0, 2] (by decide) rfl
  have hKc := hK.sub (tys' := [(cf100, .int)]) [1] rfl
  have hFc := va_free (wc := [(h0, .inr (13, zs)), (qf100, .inl (cf100, 48000, .inl f100))]) hD hS hA [0, 2] rfl
  refine va_calli (va_runV (As := [.int a1, .int ((f102 (((256 * a1) + a2) : Int32).toNatClampNeg) + 1)]) (rest := []) ⟨hx, hb, hml, hown, hts⟩ (tm_byteAt l dC dI H.size h0 zs a1 (((f102 (((256 * a1) + a2) : Int32).toNatClampNeg) + 1)) qf100 cf100 f100 nf u1_0 hlen hf100 hu_1) (cwV 2 hts gv_h5_13 rfl rfl rfl (by decide +kernel) ⟨Nat.le_of_ble_eq_true rfl, Nat.le_of_ble_eq_true rfl⟩) ⟨fun a U g mk q => by obtain ⟨q0, q1, qP, qK, qD⟩ := q; exact ⟨q0, q1, qP, va_K.moved (u := U) (U := U.calling g mk a) (Vm.Alike.refl U.vm) qK, qD⟩, va_recv hKc hPc (ci := 13) (q0 := 0) rfl rfl, fun U hU hW => ⟨rfl, by rw [hU], by rw [hU]; exact hPc, va_K.moved hW.alike hKc, hDc.weaken (fun _ _ _ _ => trivial)⟩⟩ rfl rfl hl.1 rfl (lv_room (Nat.le_of_ble_eq_true rfl)) dX13_textOfClass_16 ⟨Nat.le_of_ble_eq_true rfl, Nat.le_of_ble_eq_true rfl⟩) hS (fun q _ h => hFc q h) hFc ?_
  clear hS
  intro r_2 u t H1 locs ht hvm hw hB hz1 hk1 hS
  obtain ⟨z_1, rfl⟩ : ∃ z, z = u := ⟨_, rfl⟩
  obtain ⟨hP1, hK1, hD1⟩ := hB
  rw [ht] at hP1
  have hK1 := va_K.moved hvm.symm hK1
  try dsimp only at hw
  have hPD := va_join (wr := [(qf102, .inl (cf102, 2048, .inl f102))]) (w1 := [(h0, .inr (13, z_1)), (qf100, .inl (cf100, 48000, .inl f100))]) hP hD [0, 2] [1] rfl rfl (by decide) (by decide) hk1 hFc hP1 hD1
  clear hP hD
  obtain ⟨hP, hD⟩ := hPD
  replace hK := (hK.sub (tys' := [(cf102, .int)]) [0] rfl).app hK1
  clear hPc hDc hKc hFc hP1 hK1 hD1 hz1 hk1 ht hvm
  generalize H1 = H at hP hS ⊢
  replace hP : va_P (dC, dI) vwCl [(qf102, .inl (cf102, 2048, .inl f102)), (h0, .inr (13, z_1)), (qf100, .inl (cf100, 48000, .inl f100))] H := hP
  replace hD : va_D A [(qf102, .inl (cf102, 2048, .inl f102)), (h0, .inr (13, z_1)), (qf100, .inl (cf100, 48000, .inl f100))] := hD
  replace hK : va_K (dC, dI) vwCl [(cf102, .int), (cf100, .int)] s := hK
  obtain ⟨hwa_1, hln_1, hre_1⟩ := hw
  have hfk_1_100 : z_1[100]? = some (.ref qf100) := (hre_1 100 ).trans (hf100)
  have hfk_1_102 : z_1[102]? = some (.ref qf102) := (hre_1 102 ).trans (hf102)
  have hrq_1 : ∀ j : Nat, z_1[j]? = zs[j]? := fun j  => (hre_1 j ).trans (hrs0 j )
  obtain rfl := hwa_1
  have hr0 := Option.some.inj hsp
  clear hsp
  subst hr0
  have hP9 := hP.sub (ws' := [(h0, .inr (13, z_1)), (qf102, .inl (cf102, 2048, .inl f102)), (qf100, .inl (cf100, 48000, .inl f100))]) [1, 0, 2] rfl
  have hD9 := hD.sub (ws' := [(h0, .inr (13, z_1)), (qf102, .inl (cf102, 2048, .inl f102)), (qf100, .inl (cf100, 48000, .inl f100))]) [1, 0, 2] (by decide) rfl
  have hK9 := hK.sub (tys' := [(cf102, .int), (cf100, .int)]) [0, 1] rfl
  exact W.iret hx hb hr (fun t ht hW => ⟨⟨(u1_0), (z_1), rfl, ⟨rfl, hln_1, hrq_1⟩, by rw [ht]; exact hP9, va_K.moved hW.alike hK9, hD9⟩, hS.F ht⟩) hS.2.2 dX13_textOfClass_19
def sp_tm_isRow (nf : Nat) (a1 : Int32) : Option (Int32) := (if a1 = 3 then (some 1) else (if a1 < 4 then (some 0) else (if (a1 - a1 / 2 * 2) = 1 then (some 1) else (some 0))))
set_option maxHeartbeats 4000000 in
set_option maxRecDepth 100000 in
/-- ClassMillModel.isRow -/
theorem tm_isRow (l : Launch) (dC : Nat → ClassId) (dI : Nat → Nat → Nat) (sz : Nat) (a1 : Int32) (nf : Nat) (r0 : Int32) (hsp : sp_tm_isRow nf a1 = some r0) : Met l yX13_isRow (.code yX13_isRow cX13_isRow 1 (some .boolean) :: VS_h5) ({ frames := 0, cells := 0, slots := 0, locals := 0 }) (va_Pc [.int a1] (fun U => U.heap.size = sz ∧ va_P (dC, dI) vwCl [] U.heap ∧ va_K (dC, dI) vwCl [] U ∧ va_D (fun _ => True) [])) (va_Qi (fun (r : Int32) (u : Unit) => match u with | () => r0 = r ∧ (r0 = 0 ∨ r0 = 1)) (fun (u : Unit) (t : State) => match u with | () => va_P (dC, dI) vwCl [] t.heap ∧ va_K (dC, dI) vwCl [] t ∧ va_D (va_A [] sz) []) (va_A [] sz)) 0 0 (va_A [] sz) := by
  refine Met.ofW (cc := cX13_isRow) (maxL := 1) (ret := (some .boolean)) (by decide) rfl ?_
  intro p e s m args below meth c s₁ B hml hv
  obtain ⟨rfl, hsz, hP, hK, hD0⟩ := hv
  have hx := B.exec
  have hb := B.bytes
  have hr := B.returns
  have hts := atoms_spec (ws := (.code yX13_isRow cX13_isRow 1 (some .boolean) :: VS_h5)) B.pre
  replace hts := fun w (h : w ∈ VS_h5) => hts w (List.mem_cons_of_mem _ h)
  have hown : s.vm.findClass RX13 = some m.cls := findClass_of_methodNamed B.named
  have hlocks := B.notSynchronized
  subst hsz
  have hD := hD0.self (sz := s.heap.size)
  generalize hAe : va_A [] s.heap.size = A at hD  ⊢
  have hA : ∀ q : Nat, s.heap.size ≤ q → A q := fun q h => by rw [← hAe]; exact Or.inr h
  have hP : va_P (dC, dI) vwCl [] s.heap := hP
  have hl := lv_entry ([.int a1]) (n := 1) (Nat.le_of_ble_eq_true rfl)
  rw [lg_entry_eq]
  generalize (lg_sl ([.int a1]) ++ List.replicate (1 - (lg_sl ([.int a1])).length) Slot.unset).toArray = ls at hl ⊢
  have hl : lv_has ls 1 [(0, .int a1)] := hl
  obtain ⟨H, hH⟩ : ∃ H : Heap, s.heap = H := ⟨_, rfl⟩
  rw [hH] at hP ⊢
  have hS : va_S A s.heap H [] := by rw [← hH]; exact va_S.rf
  obtain ⟨locs, hlo⟩ : ∃ locs : List Loc, locs = [] := ⟨_, rfl⟩
  rw [← hlo] at hS ⊢
  unfold sp_tm_isRow at hsp
  refine lv_iload_n hx hb dX13_isRow_0 rfl (lv_at hl 0 rfl) ?_
  refine lv_iconst (v := 3) hx hb dX13_isRow_1 (by decide) ?_
  refine lv_icmp_eq (tgt := 17) hx hb dX13_isRow_2 (by decide) (fun c_1 => ?_) (fun c_1 => ?_)
  · rw [if_pos c_1] at hsp
    refine lv_iconst (v := 1) hx hb dX13_isRow_17 (by decide) ?_
    refine lv_goto (tgt := 22) hx hb dX13_isRow_18 (by decide) ?_
    have hr0 := Option.some.inj hsp
    clear hsp
    subst hr0
    have hP9 := hP.sub (ws' := []) [] rfl
    have hD9 := hD.sub (ws' := []) [] (by decide) rfl
    have hK9 := hK.sub (tys' := []) [] rfl
    exact W.zret hx hb hr (by decide) (fun t ht hW => ⟨⟨(1), (), rfl, ⟨rfl, Or.inr rfl⟩, by rw [ht]; exact hP9, va_K.moved hW.alike hK9, hD9⟩, hS.F ht⟩) hS.2.2 dX13_isRow_22
  · rw [if_neg c_1] at hsp
    refine lv_iload_n hx hb dX13_isRow_5 rfl (lv_at hl 0 rfl) ?_
    refine lv_iconst (v := 4) hx hb dX13_isRow_6 (by decide) ?_
    refine lv_icmp_lt (tgt := 21) hx hb dX13_isRow_7 (by decide) (fun c_2 => ?_) (fun c_2 => ?_)
    · rw [if_pos c_2] at hsp
      refine lv_iconst (v := 0) hx hb dX13_isRow_21 (by decide) ?_
      have hr0 := Option.some.inj hsp
      clear hsp
      subst hr0
      have hP9 := hP.sub (ws' := []) [] rfl
      have hD9 := hD.sub (ws' := []) [] (by decide) rfl
      have hK9 := hK.sub (tys' := []) [] rfl
      exact W.zret hx hb hr (by decide) (fun t ht hW => ⟨⟨(0), (), rfl, ⟨rfl, Or.inl rfl⟩, by rw [ht]; exact hP9, va_K.moved hW.alike hK9, hD9⟩, hS.F ht⟩) hS.2.2 dX13_isRow_22
    · rw [if_neg c_2] at hsp
      refine lv_iload_n hx hb dX13_isRow_10 rfl (lv_at hl 0 rfl) ?_
      refine lv_iconst (v := 2) hx hb dX13_isRow_11 (by decide) ?_
      refine lv_irem hx hb dX13_isRow_12 (by decide) ?_
      refine lv_iconst (v := 1) hx hb dX13_isRow_13 (by decide) ?_
      refine lv_icmp_ne (tgt := 21) hx hb dX13_isRow_14 (by decide) (fun c_3 => ?_) (fun c_3 => ?_)
      · rw [if_neg c_3] at hsp
        refine lv_iconst (v := 0) hx hb dX13_isRow_21 (by decide) ?_
        have hr0 := Option.some.inj hsp
        clear hsp
        subst hr0
        have hP9 := hP.sub (ws' := []) [] rfl
        have hD9 := hD.sub (ws' := []) [] (by decide) rfl
        have hK9 := hK.sub (tys' := []) [] rfl
        exact W.zret hx hb hr (by decide) (fun t ht hW => ⟨⟨(0), (), rfl, ⟨rfl, Or.inl rfl⟩, by rw [ht]; exact hP9, va_K.moved hW.alike hK9, hD9⟩, hS.F ht⟩) hS.2.2 dX13_isRow_22
      · rw [if_pos c_3] at hsp
        refine lv_iconst (v := 1) hx hb dX13_isRow_17 (by decide) ?_
        refine lv_goto (tgt := 22) hx hb dX13_isRow_18 (by decide) ?_
        have hr0 := Option.some.inj hsp
        clear hsp
        subst hr0
        have hP9 := hP.sub (ws' := []) [] rfl
        have hD9 := hD.sub (ws' := []) [] (by decide) rfl
        have hK9 := hK.sub (tys' := []) [] rfl
        exact W.zret hx hb hr (by decide) (fun t ht hW => ⟨⟨(1), (), rfl, ⟨rfl, Or.inr rfl⟩, by rw [ht]; exact hP9, va_K.moved hW.alike hK9, hD9⟩, hS.F ht⟩) hS.2.2 dX13_isRow_22
def sp_tm_isThere (nf : Nat) (a1 : Int32) : Option (Int32) := (if a1 < 4 then (some 1) else (if 16 ≤ ((a1 - 4) / 2) then (some 0) else (some 1)))
set_option maxHeartbeats 4000000 in
set_option maxRecDepth 100000 in
/-- ClassMillModel.isThere -/
theorem tm_isThere (l : Launch) (dC : Nat → ClassId) (dI : Nat → Nat → Nat) (sz : Nat) (a1 : Int32) (nf : Nat) (r0 : Int32) (hsp : sp_tm_isThere nf a1 = some r0) : Met l yX13_isThere (.code yX13_isThere cX13_isThere 1 (some .boolean) :: VS_h5) ({ frames := 0, cells := 0, slots := 0, locals := 0 }) (va_Pc [.int a1] (fun U => U.heap.size = sz ∧ va_P (dC, dI) vwCl [] U.heap ∧ va_K (dC, dI) vwCl [] U ∧ va_D (fun _ => True) [])) (va_Qi (fun (r : Int32) (u : Unit) => match u with | () => r0 = r ∧ (r0 = 0 ∨ r0 = 1)) (fun (u : Unit) (t : State) => match u with | () => va_P (dC, dI) vwCl [] t.heap ∧ va_K (dC, dI) vwCl [] t ∧ va_D (va_A [] sz) []) (va_A [] sz)) 0 0 (va_A [] sz) := by
  refine Met.ofW (cc := cX13_isThere) (maxL := 1) (ret := (some .boolean)) (by decide) rfl ?_
  intro p e s m args below meth c s₁ B hml hv
  obtain ⟨rfl, hsz, hP, hK, hD0⟩ := hv
  have hx := B.exec
  have hb := B.bytes
  have hr := B.returns
  have hts := atoms_spec (ws := (.code yX13_isThere cX13_isThere 1 (some .boolean) :: VS_h5)) B.pre
  replace hts := fun w (h : w ∈ VS_h5) => hts w (List.mem_cons_of_mem _ h)
  have hown : s.vm.findClass RX13 = some m.cls := findClass_of_methodNamed B.named
  have hlocks := B.notSynchronized
  subst hsz
  have hD := hD0.self (sz := s.heap.size)
  generalize hAe : va_A [] s.heap.size = A at hD  ⊢
  have hA : ∀ q : Nat, s.heap.size ≤ q → A q := fun q h => by rw [← hAe]; exact Or.inr h
  have hP : va_P (dC, dI) vwCl [] s.heap := hP
  have hl := lv_entry ([.int a1]) (n := 1) (Nat.le_of_ble_eq_true rfl)
  rw [lg_entry_eq]
  generalize (lg_sl ([.int a1]) ++ List.replicate (1 - (lg_sl ([.int a1])).length) Slot.unset).toArray = ls at hl ⊢
  have hl : lv_has ls 1 [(0, .int a1)] := hl
  obtain ⟨H, hH⟩ : ∃ H : Heap, s.heap = H := ⟨_, rfl⟩
  rw [hH] at hP ⊢
  have hS : va_S A s.heap H [] := by rw [← hH]; exact va_S.rf
  obtain ⟨locs, hlo⟩ : ∃ locs : List Loc, locs = [] := ⟨_, rfl⟩
  rw [← hlo] at hS ⊢
  unfold sp_tm_isThere at hsp
  refine lv_iload_n hx hb dX13_isThere_0 rfl (lv_at hl 0 rfl) ?_
  refine lv_iconst (v := 4) hx hb dX13_isThere_1 (by decide) ?_
  refine lv_icmp_lt (tgt := 15) hx hb dX13_isThere_2 (by decide) (fun c_1 => ?_) (fun c_1 => ?_)
  · rw [if_pos c_1] at hsp
    refine lv_iconst (v := 1) hx hb dX13_isThere_15 (by decide) ?_
    refine lv_goto (tgt := 20) hx hb dX13_isThere_16 (by decide) ?_
    have hr0 := Option.some.inj hsp
    clear hsp
    subst hr0
    have hP9 := hP.sub (ws' := []) [] rfl
    have hD9 := hD.sub (ws' := []) [] (by decide) rfl
    have hK9 := hK.sub (tys' := []) [] rfl
    exact W.zret hx hb hr (by decide) (fun t ht hW => ⟨⟨(1), (), rfl, ⟨rfl, Or.inr rfl⟩, by rw [ht]; exact hP9, va_K.moved hW.alike hK9, hD9⟩, hS.F ht⟩) hS.2.2 dX13_isThere_20
  · rw [if_neg c_1] at hsp
    refine lv_iload_n hx hb dX13_isThere_5 rfl (lv_at hl 0 rfl) ?_
    refine lv_iconst (v := 4) hx hb dX13_isThere_6 (by decide) ?_
    refine lv_isub hx hb dX13_isThere_7 ?_
    refine lv_iconst (v := 2) hx hb dX13_isThere_8 (by decide) ?_
    refine lv_idiv hx hb dX13_isThere_9 (by decide) ?_
    refine lv_bipush (v := 16) hx hb dX13_isThere_10 (by decide) ?_
    refine lv_icmp_ge (tgt := 19) hx hb dX13_isThere_12 (by decide) (fun c_2 => ?_) (fun c_2 => ?_)
    · rw [if_pos c_2] at hsp
      refine lv_iconst (v := 0) hx hb dX13_isThere_19 (by decide) ?_
      have hr0 := Option.some.inj hsp
      clear hsp
      subst hr0
      have hP9 := hP.sub (ws' := []) [] rfl
      have hD9 := hD.sub (ws' := []) [] (by decide) rfl
      have hK9 := hK.sub (tys' := []) [] rfl
      exact W.zret hx hb hr (by decide) (fun t ht hW => ⟨⟨(0), (), rfl, ⟨rfl, Or.inl rfl⟩, by rw [ht]; exact hP9, va_K.moved hW.alike hK9, hD9⟩, hS.F ht⟩) hS.2.2 dX13_isThere_20
    · rw [if_neg c_2] at hsp
      refine lv_iconst (v := 1) hx hb dX13_isThere_15 (by decide) ?_
      refine lv_goto (tgt := 20) hx hb dX13_isThere_16 (by decide) ?_
      have hr0 := Option.some.inj hsp
      clear hsp
      subst hr0
      have hP9 := hP.sub (ws' := []) [] rfl
      have hD9 := hD.sub (ws' := []) [] (by decide) rfl
      have hK9 := hK.sub (tys' := []) [] rfl
      exact W.zret hx hb hr (by decide) (fun t ht hW => ⟨⟨(1), (), rfl, ⟨rfl, Or.inr rfl⟩, by rw [ht]; exact hP9, va_K.moved hW.alike hK9, hD9⟩, hS.F ht⟩) hS.2.2 dX13_isThere_20
def sp_tm_nameText (nf : Nat) (a1 : Int32) (a2 : Int32) (a3 : Int32) (f107 : Nat → Int32) (f100 : Nat → Int32) (f109 : Nat → Int32) : Option (Int32) := (if a3 = 0 then (if ((12 * a1) + a2) < 0 then none else if 96 ≤ (((12 * a1) + a2) : Int32).toNatClampNeg then none else ((sp_tm_byteAt nf a1 (f107 (((12 * a1) + a2) : Int32).toNatClampNeg) f100).bind (fun p1 => (some p1)))) else (if ((12 * a1) + a2) < 0 then none else if 96 ≤ (((12 * a1) + a2) : Int32).toNatClampNeg then none else ((sp_tm_byteAt nf a1 ((f109 (((12 * a1) + a2) : Int32).toNatClampNeg) + 1) f100).bind (fun p2 => (some p2)))))
set_option maxHeartbeats 4000000 in
set_option maxRecDepth 100000 in
/-- ClassMillModel.nameText -/
theorem tm_nameText (l : Launch) (dC : Nat → ClassId) (dI : Nat → Nat → Nat) (sz : Nat) (h0 : Nat) (zs : (List Value)) (a1 : Int32) (a2 : Int32) (a3 : Int32) (qf100 : Nat) (qf107 : Nat) (qf109 : Nat) (cf107 : ClassId) (f107 : (Nat → Int32)) (cf100 : ClassId) (f100 : (Nat → Int32)) (cf109 : ClassId) (f109 : (Nat → Int32)) (nf : Nat) (r0 : Int32) (hlen : zs.length = 155) (hf100 : zs[100]? = some (.ref qf100)) (hf107 : zs[107]? = some (.ref qf107)) (hf109 : zs[109]? = some (.ref qf109)) (hsp : sp_tm_nameText nf a1 a2 a3 f107 f100 f109 = some r0) : Met l yX13_nameText (.code yX13_nameText cX13_nameText 4 (some .int) :: VS_h5) ({ frames := 1, cells := 0, slots := 0, locals := 22 }) (va_Pc [.ref h0, .int a1, .int a2, .int a3] (fun U => U.heap.size = sz ∧ va_P (dC, dI) vwCl [(h0, .inr (13, zs)), (qf107, .inl (cf107, 96, .inl f107)), (qf100, .inl (cf100, 48000, .inl f100)), (qf109, .inl (cf109, 96, .inl f109))] U.heap ∧ va_K (dC, dI) vwCl [(cf107, .int), (cf100, .int), (cf109, .int)] U ∧ va_D (fun _ => True) [(h0, .inr (13, zs)), (qf107, .inl (cf107, 96, .inl f107)), (qf100, .inl (cf100, 48000, .inl f100)), (qf109, .inl (cf109, 96, .inl f109))])) (va_Qi (fun (r : Int32) (u : (List Value)) => match u with | (zo1) => r0 = r ∧ zo1.length = 155 ∧ (∀ j : Nat, zo1[j]? = zs[j]?)) (fun (u : (List Value)) (t : State) => match u with | (zo1) => va_P (dC, dI) vwCl [(h0, .inr (13, zo1)), (qf107, .inl (cf107, 96, .inl f107)), (qf100, .inl (cf100, 48000, .inl f100)), (qf109, .inl (cf109, 96, .inl f109))] t.heap ∧ va_K (dC, dI) vwCl [(cf107, .int), (cf100, .int), (cf109, .int)] t ∧ va_D (va_A [(h0, .inr (13, zs)), (qf107, .inl (cf107, 96, .inl f107)), (qf100, .inl (cf100, 48000, .inl f100)), (qf109, .inl (cf109, 96, .inl f109))] sz) [(h0, .inr (13, zo1)), (qf107, .inl (cf107, 96, .inl f107)), (qf100, .inl (cf100, 48000, .inl f100)), (qf109, .inl (cf109, 96, .inl f109))]) (va_A [(h0, .inr (13, zs)), (qf107, .inl (cf107, 96, .inl f107)), (qf100, .inl (cf100, 48000, .inl f100)), (qf109, .inl (cf109, 96, .inl f109))] sz)) 0 0 (va_A [(h0, .inr (13, zs)), (qf107, .inl (cf107, 96, .inl f107)), (qf100, .inl (cf100, 48000, .inl f100)), (qf109, .inl (cf109, 96, .inl f109))] sz) := by
  refine Met.ofW (cc := cX13_nameText) (maxL := 4) (ret := (some .int)) (by decide) rfl ?_
  intro p e s m args below meth c s₁ B hml hv
  obtain ⟨rfl, hsz, hP, hK, hD0⟩ := hv
  have hx := B.exec
  have hb := B.bytes
  have hr := B.returns
  have hts := atoms_spec (ws := (.code yX13_nameText cX13_nameText 4 (some .int) :: VS_h5)) B.pre
  replace hts := fun w (h : w ∈ VS_h5) => hts w (List.mem_cons_of_mem _ h)
  have hown : s.vm.findClass RX13 = some m.cls := findClass_of_methodNamed B.named
  have hlocks := B.notSynchronized
  subst hsz
  have hD := hD0.self (sz := s.heap.size)
  generalize hAe : va_A [(h0, .inr (13, zs)), (qf107, .inl (cf107, 96, .inl f107)), (qf100, .inl (cf100, 48000, .inl f100)), (qf109, .inl (cf109, 96, .inl f109))] s.heap.size = A at hD  ⊢
  have hA : ∀ q : Nat, s.heap.size ≤ q → A q := fun q h => by rw [← hAe]; exact Or.inr h
  have hP : va_P (dC, dI) vwCl [(h0, .inr (13, zs)), (qf107, .inl (cf107, 96, .inl f107)), (qf100, .inl (cf100, 48000, .inl f100)), (qf109, .inl (cf109, 96, .inl f109))] s.heap := hP
  have hl := lv_entry ([.ref h0, .int a1, .int a2, .int a3]) (n := 4) (Nat.le_of_ble_eq_true rfl)
  rw [lg_entry_eq]
  generalize (lg_sl ([.ref h0, .int a1, .int a2, .int a3]) ++ List.replicate (4 - (lg_sl ([.ref h0, .int a1, .int a2, .int a3])).length) Slot.unset).toArray = ls at hl ⊢
  have hl : lv_has ls 4 [(0, .ref h0), (1, .int a1), (2, .int a2), (3, .int a3)] := hl
  obtain ⟨H, hH⟩ : ∃ H : Heap, s.heap = H := ⟨_, rfl⟩
  rw [hH] at hP ⊢
  have hS : va_S A s.heap H [] := by rw [← hH]; exact va_S.rf
  obtain ⟨locs, hlo⟩ : ∃ locs : List Loc, locs = [] := ⟨_, rfl⟩
  rw [← hlo] at hS ⊢
  have hrs0 : ∀ j : Nat, zs[j]? = zs[j]? := fun _  => rfl
  unfold sp_tm_nameText at hsp
  refine lv_iload_n hx hb dX13_nameText_0 rfl (lv_at hl 3 rfl) ?_
  refine lv_if_eq (tgt := 25) hx hb dX13_nameText_1 (by decide) (fun c_1 => ?_) (fun c_1 => ?_)
  · rw [if_pos c_1] at hsp
    refine lv_aload_n hx hb dX13_nameText_25 rfl (lv_at hl 0 rfl) ?_
    refine lv_iload_n hx hb dX13_nameText_26 rfl (lv_at hl 1 rfl) ?_
    refine lv_aload_n hx hb dX13_nameText_27 rfl (lv_at hl 0 rfl) ?_
    refine va_get (D := (dC, dI)) (ci := 13) (v := .ref qf107) (C := RX13) (T := TX13) (N := 155) hx hb hts uV_h5_X13 hown hK hP 0 rfl rfl 107 (by decide) (hts (.fieldLink RX13 230 "ClassMillModel" "fieldAt" "[I") mw_h5_112) (fun _ h9 => h9) hf107 dX13_nameText_28 ?_
    refine lv_bipush (v := 12) hx hb dX13_nameText_31 (by decide) ?_
    refine lv_iload_n hx hb dX13_nameText_33 rfl (lv_at hl 1 rfl) ?_
    refine lv_imul hx hb dX13_nameText_34 ?_
    refine lv_iload_n hx hb dX13_nameText_35 rfl (lv_at hl 2 rfl) ?_
    refine lv_iadd hx hb dX13_nameText_36 ?_
    obtain ⟨hi_2, hsp⟩ := ox_in hsp
    refine va_iald hx hb hK hP 1 0 rfl rfl (i := ((12 * a1) + a2)) hi_2 dX13_nameText_37 ?_
    obtain ⟨u1_0, hu_1, hsp⟩ := ox_bind hsp
    try dsimp only at hsp
    have hPc := hP.sub (ws' := [(h0, .inr (13, zs)), (qf100, .inl (cf100, 48000, .inl f100))]) [0, 2] rfl
    have hDc := hD.sub (ws' := [(h0, .inr (13, zs)), (qf100, .inl (cf100, 48000, .inl f100))]) [0, 2] (by decide) rfl
    have hKc := hK.sub (tys' := [(cf100, .int)]) [1] rfl
    have hFc := va_free (wc := [(h0, .inr (13, zs)), (qf100, .inl (cf100, 48000, .inl f100))]) hD hS hA [0, 2] rfl
    refine va_calli (va_runV (As := [.int a1, .int (f107 (((12 * a1) + a2) : Int32).toNatClampNeg)]) (rest := []) ⟨hx, hb, hml, hown, hts⟩ (tm_byteAt l dC dI H.size h0 zs a1 ((f107 (((12 * a1) + a2) : Int32).toNatClampNeg)) qf100 cf100 f100 nf u1_0 hlen hf100 hu_1) (cwV 2 hts gv_h5_13 rfl rfl rfl (by decide +kernel) ⟨Nat.le_of_ble_eq_true rfl, Nat.le_of_ble_eq_true rfl⟩) ⟨fun a U g mk q => by obtain ⟨q0, q1, qP, qK, qD⟩ := q; exact ⟨q0, q1, qP, va_K.moved (u := U) (U := U.calling g mk a) (Vm.Alike.refl U.vm) qK, qD⟩, va_recv hKc hPc (ci := 13) (q0 := 0) rfl rfl, fun U hU hW => ⟨rfl, by rw [hU], by rw [hU]; exact hPc, va_K.moved hW.alike hKc, hDc.weaken (fun _ _ _ _ => trivial)⟩⟩ rfl rfl hl.1 rfl (lv_room (Nat.le_of_ble_eq_true rfl)) dX13_nameText_38 ⟨Nat.le_of_ble_eq_true rfl, Nat.le_of_ble_eq_true rfl⟩) hS (fun q _ h => hFc q h) hFc ?_
    clear hS
    intro r_3 u t H1 locs ht hvm hw hB hz1 hk1 hS
    obtain ⟨z_1, rfl⟩ : ∃ z, z = u := ⟨_, rfl⟩
    obtain ⟨hP1, hK1, hD1⟩ := hB
    rw [ht] at hP1
    have hK1 := va_K.moved hvm.symm hK1
    try dsimp only at hw
    have hPD := va_join (wr := [(qf107, .inl (cf107, 96, .inl f107)), (qf109, .inl (cf109, 96, .inl f109))]) (w1 := [(h0, .inr (13, z_1)), (qf100, .inl (cf100, 48000, .inl f100))]) hP hD [0, 2] [1, 3] rfl rfl (by decide) (by decide) hk1 hFc hP1 hD1
    clear hP hD
    obtain ⟨hP, hD⟩ := hPD
    replace hK := (hK.sub (tys' := [(cf107, .int), (cf109, .int)]) [0, 2] rfl).app hK1
    clear hPc hDc hKc hFc hP1 hK1 hD1 hz1 hk1 ht hvm
    generalize H1 = H at hP hS ⊢
    replace hP : va_P (dC, dI) vwCl [(qf107, .inl (cf107, 96, .inl f107)), (qf109, .inl (cf109, 96, .inl f109)), (h0, .inr (13, z_1)), (qf100, .inl (cf100, 48000, .inl f100))] H := hP
    replace hD : va_D A [(qf107, .inl (cf107, 96, .inl f107)), (qf109, .inl (cf109, 96, .inl f109)), (h0, .inr (13, z_1)), (qf100, .inl (cf100, 48000, .inl f100))] := hD
    replace hK : va_K (dC, dI) vwCl [(cf107, .int), (cf109, .int), (cf100, .int)] s := hK
    obtain ⟨hwa_1, hln_1, hre_1⟩ := hw
    have hfk_1_100 : z_1[100]? = some (.ref qf100) := (hre_1 100 ).trans (hf100)
    have hfk_1_107 : z_1[107]? = some (.ref qf107) := (hre_1 107 ).trans (hf107)
    have hfk_1_109 : z_1[109]? = some (.ref qf109) := (hre_1 109 ).trans (hf109)
    have hrq_1 : ∀ j : Nat, z_1[j]? = zs[j]? := fun j  => (hre_1 j ).trans (hrs0 j )
    obtain rfl := hwa_1
    have hr0 := Option.some.inj hsp
    clear hsp
    subst hr0
    have hP9 := hP.sub (ws' := [(h0, .inr (13, z_1)), (qf107, .inl (cf107, 96, .inl f107)), (qf100, .inl (cf100, 48000, .inl f100)), (qf109, .inl (cf109, 96, .inl f109))]) [2, 0, 3, 1] rfl
    have hD9 := hD.sub (ws' := [(h0, .inr (13, z_1)), (qf107, .inl (cf107, 96, .inl f107)), (qf100, .inl (cf100, 48000, .inl f100)), (qf109, .inl (cf109, 96, .inl f109))]) [2, 0, 3, 1] (by decide) rfl
    have hK9 := hK.sub (tys' := [(cf107, .int), (cf100, .int), (cf109, .int)]) [0, 2, 1] rfl
    exact W.iret hx hb hr (fun t ht hW => ⟨⟨(u1_0), (z_1), rfl, ⟨rfl, hln_1, hrq_1⟩, by rw [ht]; exact hP9, va_K.moved hW.alike hK9, hD9⟩, hS.F ht⟩) hS.2.2 dX13_nameText_41
  · rw [if_neg c_1] at hsp
    refine lv_aload_n hx hb dX13_nameText_4 rfl (lv_at hl 0 rfl) ?_
    refine lv_iload_n hx hb dX13_nameText_5 rfl (lv_at hl 1 rfl) ?_
    refine lv_aload_n hx hb dX13_nameText_6 rfl (lv_at hl 0 rfl) ?_
    refine va_get (D := (dC, dI)) (ci := 13) (v := .ref qf109) (C := RX13) (T := TX13) (N := 155) hx hb hts uV_h5_X13 hown hK hP 0 rfl rfl 109 (by decide) (hts (.fieldLink RX13 236 "ClassMillModel" "methodAt" "[I") mw_h5_113) (fun _ h9 => h9) hf109 dX13_nameText_7 ?_
    refine lv_bipush (v := 12) hx hb dX13_nameText_10 (by decide) ?_
    refine lv_iload_n hx hb dX13_nameText_12 rfl (lv_at hl 1 rfl) ?_
    refine lv_imul hx hb dX13_nameText_13 ?_
    refine lv_iload_n hx hb dX13_nameText_14 rfl (lv_at hl 2 rfl) ?_
    refine lv_iadd hx hb dX13_nameText_15 ?_
    obtain ⟨hi_4, hsp⟩ := ox_in hsp
    refine va_iald hx hb hK hP 3 2 rfl rfl (i := ((12 * a1) + a2)) hi_4 dX13_nameText_16 ?_
    refine lv_iconst (v := 1) hx hb dX13_nameText_17 (by decide) ?_
    refine lv_iadd hx hb dX13_nameText_18 ?_
    obtain ⟨u2_0, hu_2, hsp⟩ := ox_bind hsp
    try dsimp only at hsp
    have hPc := hP.sub (ws' := [(h0, .inr (13, zs)), (qf100, .inl (cf100, 48000, .inl f100))]) [0, 2] rfl
    have hDc := hD.sub (ws' := [(h0, .inr (13, zs)), (qf100, .inl (cf100, 48000, .inl f100))]) [0, 2] (by decide) rfl
    have hKc := hK.sub (tys' := [(cf100, .int)]) [1] rfl
    have hFc := va_free (wc := [(h0, .inr (13, zs)), (qf100, .inl (cf100, 48000, .inl f100))]) hD hS hA [0, 2] rfl
    refine va_calli (va_runV (As := [.int a1, .int ((f109 (((12 * a1) + a2) : Int32).toNatClampNeg) + 1)]) (rest := []) ⟨hx, hb, hml, hown, hts⟩ (tm_byteAt l dC dI H.size h0 zs a1 (((f109 (((12 * a1) + a2) : Int32).toNatClampNeg) + 1)) qf100 cf100 f100 nf u2_0 hlen hf100 hu_2) (cwV 2 hts gv_h5_13 rfl rfl rfl (by decide +kernel) ⟨Nat.le_of_ble_eq_true rfl, Nat.le_of_ble_eq_true rfl⟩) ⟨fun a U g mk q => by obtain ⟨q0, q1, qP, qK, qD⟩ := q; exact ⟨q0, q1, qP, va_K.moved (u := U) (U := U.calling g mk a) (Vm.Alike.refl U.vm) qK, qD⟩, va_recv hKc hPc (ci := 13) (q0 := 0) rfl rfl, fun U hU hW => ⟨rfl, by rw [hU], by rw [hU]; exact hPc, va_K.moved hW.alike hKc, hDc.weaken (fun _ _ _ _ => trivial)⟩⟩ rfl rfl hl.1 rfl (lv_room (Nat.le_of_ble_eq_true rfl)) dX13_nameText_19 ⟨Nat.le_of_ble_eq_true rfl, Nat.le_of_ble_eq_true rfl⟩) hS (fun q _ h => hFc q h) hFc ?_
    clear hS
    intro r_5 u t H1 locs ht hvm hw hB hz1 hk1 hS
    obtain ⟨z_2, rfl⟩ : ∃ z, z = u := ⟨_, rfl⟩
    obtain ⟨hP1, hK1, hD1⟩ := hB
    rw [ht] at hP1
    have hK1 := va_K.moved hvm.symm hK1
    try dsimp only at hw
    have hPD := va_join (wr := [(qf107, .inl (cf107, 96, .inl f107)), (qf109, .inl (cf109, 96, .inl f109))]) (w1 := [(h0, .inr (13, z_2)), (qf100, .inl (cf100, 48000, .inl f100))]) hP hD [0, 2] [1, 3] rfl rfl (by decide) (by decide) hk1 hFc hP1 hD1
    clear hP hD
    obtain ⟨hP, hD⟩ := hPD
    replace hK := (hK.sub (tys' := [(cf107, .int), (cf109, .int)]) [0, 2] rfl).app hK1
    clear hPc hDc hKc hFc hP1 hK1 hD1 hz1 hk1 ht hvm
    generalize H1 = H at hP hS ⊢
    replace hP : va_P (dC, dI) vwCl [(qf107, .inl (cf107, 96, .inl f107)), (qf109, .inl (cf109, 96, .inl f109)), (h0, .inr (13, z_2)), (qf100, .inl (cf100, 48000, .inl f100))] H := hP
    replace hD : va_D A [(qf107, .inl (cf107, 96, .inl f107)), (qf109, .inl (cf109, 96, .inl f109)), (h0, .inr (13, z_2)), (qf100, .inl (cf100, 48000, .inl f100))] := hD
    replace hK : va_K (dC, dI) vwCl [(cf107, .int), (cf109, .int), (cf100, .int)] s := hK
    obtain ⟨hwa_2, hln_2, hre_2⟩ := hw
    have hfk_2_100 : z_2[100]? = some (.ref qf100) := (hre_2 100 ).trans (hf100)
    have hfk_2_107 : z_2[107]? = some (.ref qf107) := (hre_2 107 ).trans (hf107)
    have hfk_2_109 : z_2[109]? = some (.ref qf109) := (hre_2 109 ).trans (hf109)
    have hrq_2 : ∀ j : Nat, z_2[j]? = zs[j]? := fun j  => (hre_2 j ).trans (hrs0 j )
    obtain rfl := hwa_2
    refine lv_goto (tgt := 41) hx hb dX13_nameText_22 (by decide) ?_
    have hr0 := Option.some.inj hsp
    clear hsp
    subst hr0
    have hP9 := hP.sub (ws' := [(h0, .inr (13, z_2)), (qf107, .inl (cf107, 96, .inl f107)), (qf100, .inl (cf100, 48000, .inl f100)), (qf109, .inl (cf109, 96, .inl f109))]) [2, 0, 3, 1] rfl
    have hD9 := hD.sub (ws' := [(h0, .inr (13, z_2)), (qf107, .inl (cf107, 96, .inl f107)), (qf100, .inl (cf100, 48000, .inl f100)), (qf109, .inl (cf109, 96, .inl f109))]) [2, 0, 3, 1] (by decide) rfl
    have hK9 := hK.sub (tys' := [(cf107, .int), (cf100, .int), (cf109, .int)]) [0, 2, 1] rfl
    exact W.iret hx hb hr (fun t ht hW => ⟨⟨(u2_0), (z_2), rfl, ⟨rfl, hln_2, hrq_2⟩, by rw [ht]; exact hP9, va_K.moved hW.alike hK9, hD9⟩, hS.F ht⟩) hS.2.2 dX13_nameText_41
def sp_tm_kindText (nf : Nat) (a1 : Int32) (a2 : Int32) (a3 : Int32) (f107 : Nat → Int32) (f100 : Nat → Int32) (f109 : Nat → Int32) : Option (Int32) := (if a3 = 0 then (if ((12 * a1) + a2) < 0 then none else if 96 ≤ (((12 * a1) + a2) : Int32).toNatClampNeg then none else ((sp_tm_byteAt nf a1 ((f107 (((12 * a1) + a2) : Int32).toNatClampNeg) + 1) f100).bind (fun p1 => (some p1)))) else (if ((12 * a1) + a2) < 0 then none else if 96 ≤ (((12 * a1) + a2) : Int32).toNatClampNeg then none else ((sp_tm_byteAt nf a1 ((f109 (((12 * a1) + a2) : Int32).toNatClampNeg) + 2) f100).bind (fun p2 => (some p2)))))
set_option maxHeartbeats 4000000 in
set_option maxRecDepth 100000 in
/-- ClassMillModel.kindText -/
theorem tm_kindText (l : Launch) (dC : Nat → ClassId) (dI : Nat → Nat → Nat) (sz : Nat) (h0 : Nat) (zs : (List Value)) (a1 : Int32) (a2 : Int32) (a3 : Int32) (qf100 : Nat) (qf107 : Nat) (qf109 : Nat) (cf107 : ClassId) (f107 : (Nat → Int32)) (cf100 : ClassId) (f100 : (Nat → Int32)) (cf109 : ClassId) (f109 : (Nat → Int32)) (nf : Nat) (r0 : Int32) (hlen : zs.length = 155) (hf100 : zs[100]? = some (.ref qf100)) (hf107 : zs[107]? = some (.ref qf107)) (hf109 : zs[109]? = some (.ref qf109)) (hsp : sp_tm_kindText nf a1 a2 a3 f107 f100 f109 = some r0) : Met l yX13_kindText (.code yX13_kindText cX13_kindText 4 (some .int) :: VS_h5) ({ frames := 1, cells := 0, slots := 0, locals := 22 }) (va_Pc [.ref h0, .int a1, .int a2, .int a3] (fun U => U.heap.size = sz ∧ va_P (dC, dI) vwCl [(h0, .inr (13, zs)), (qf107, .inl (cf107, 96, .inl f107)), (qf100, .inl (cf100, 48000, .inl f100)), (qf109, .inl (cf109, 96, .inl f109))] U.heap ∧ va_K (dC, dI) vwCl [(cf107, .int), (cf100, .int), (cf109, .int)] U ∧ va_D (fun _ => True) [(h0, .inr (13, zs)), (qf107, .inl (cf107, 96, .inl f107)), (qf100, .inl (cf100, 48000, .inl f100)), (qf109, .inl (cf109, 96, .inl f109))])) (va_Qi (fun (r : Int32) (u : (List Value)) => match u with | (zo1) => r0 = r ∧ zo1.length = 155 ∧ (∀ j : Nat, zo1[j]? = zs[j]?)) (fun (u : (List Value)) (t : State) => match u with | (zo1) => va_P (dC, dI) vwCl [(h0, .inr (13, zo1)), (qf107, .inl (cf107, 96, .inl f107)), (qf100, .inl (cf100, 48000, .inl f100)), (qf109, .inl (cf109, 96, .inl f109))] t.heap ∧ va_K (dC, dI) vwCl [(cf107, .int), (cf100, .int), (cf109, .int)] t ∧ va_D (va_A [(h0, .inr (13, zs)), (qf107, .inl (cf107, 96, .inl f107)), (qf100, .inl (cf100, 48000, .inl f100)), (qf109, .inl (cf109, 96, .inl f109))] sz) [(h0, .inr (13, zo1)), (qf107, .inl (cf107, 96, .inl f107)), (qf100, .inl (cf100, 48000, .inl f100)), (qf109, .inl (cf109, 96, .inl f109))]) (va_A [(h0, .inr (13, zs)), (qf107, .inl (cf107, 96, .inl f107)), (qf100, .inl (cf100, 48000, .inl f100)), (qf109, .inl (cf109, 96, .inl f109))] sz)) 0 0 (va_A [(h0, .inr (13, zs)), (qf107, .inl (cf107, 96, .inl f107)), (qf100, .inl (cf100, 48000, .inl f100)), (qf109, .inl (cf109, 96, .inl f109))] sz) := by
  refine Met.ofW (cc := cX13_kindText) (maxL := 4) (ret := (some .int)) (by decide) rfl ?_
  intro p e s m args below meth c s₁ B hml hv
  obtain ⟨rfl, hsz, hP, hK, hD0⟩ := hv
  have hx := B.exec
  have hb := B.bytes
  have hr := B.returns
  have hts := atoms_spec (ws := (.code yX13_kindText cX13_kindText 4 (some .int) :: VS_h5)) B.pre
  replace hts := fun w (h : w ∈ VS_h5) => hts w (List.mem_cons_of_mem _ h)
  have hown : s.vm.findClass RX13 = some m.cls := findClass_of_methodNamed B.named
  have hlocks := B.notSynchronized
  subst hsz
  have hD := hD0.self (sz := s.heap.size)
  generalize hAe : va_A [(h0, .inr (13, zs)), (qf107, .inl (cf107, 96, .inl f107)), (qf100, .inl (cf100, 48000, .inl f100)), (qf109, .inl (cf109, 96, .inl f109))] s.heap.size = A at hD  ⊢
  have hA : ∀ q : Nat, s.heap.size ≤ q → A q := fun q h => by rw [← hAe]; exact Or.inr h
  have hP : va_P (dC, dI) vwCl [(h0, .inr (13, zs)), (qf107, .inl (cf107, 96, .inl f107)), (qf100, .inl (cf100, 48000, .inl f100)), (qf109, .inl (cf109, 96, .inl f109))] s.heap := hP
  have hl := lv_entry ([.ref h0, .int a1, .int a2, .int a3]) (n := 4) (Nat.le_of_ble_eq_true rfl)
  rw [lg_entry_eq]
  generalize (lg_sl ([.ref h0, .int a1, .int a2, .int a3]) ++ List.replicate (4 - (lg_sl ([.ref h0, .int a1, .int a2, .int a3])).length) Slot.unset).toArray = ls at hl ⊢
  have hl : lv_has ls 4 [(0, .ref h0), (1, .int a1), (2, .int a2), (3, .int a3)] := hl
  obtain ⟨H, hH⟩ : ∃ H : Heap, s.heap = H := ⟨_, rfl⟩
  rw [hH] at hP ⊢
  have hS : va_S A s.heap H [] := by rw [← hH]; exact va_S.rf
  obtain ⟨locs, hlo⟩ : ∃ locs : List Loc, locs = [] := ⟨_, rfl⟩
  rw [← hlo] at hS ⊢
  have hrs0 : ∀ j : Nat, zs[j]? = zs[j]? := fun _  => rfl
  unfold sp_tm_kindText at hsp
  refine lv_iload_n hx hb dX13_kindText_0 rfl (lv_at hl 3 rfl) ?_
  refine lv_if_eq (tgt := 25) hx hb dX13_kindText_1 (by decide) (fun c_1 => ?_) (fun c_1 => ?_)
  · rw [if_pos c_1] at hsp
    refine lv_aload_n hx hb dX13_kindText_25 rfl (lv_at hl 0 rfl) ?_
    refine lv_iload_n hx hb dX13_kindText_26 rfl (lv_at hl 1 rfl) ?_
    refine lv_aload_n hx hb dX13_kindText_27 rfl (lv_at hl 0 rfl) ?_
    refine va_get (D := (dC, dI)) (ci := 13) (v := .ref qf107) (C := RX13) (T := TX13) (N := 155) hx hb hts uV_h5_X13 hown hK hP 0 rfl rfl 107 (by decide) (hts (.fieldLink RX13 230 "ClassMillModel" "fieldAt" "[I") mw_h5_112) (fun _ h9 => h9) hf107 dX13_kindText_28 ?_
    refine lv_bipush (v := 12) hx hb dX13_kindText_31 (by decide) ?_
    refine lv_iload_n hx hb dX13_kindText_33 rfl (lv_at hl 1 rfl) ?_
    refine lv_imul hx hb dX13_kindText_34 ?_
    refine lv_iload_n hx hb dX13_kindText_35 rfl (lv_at hl 2 rfl) ?_
    refine lv_iadd hx hb dX13_kindText_36 ?_
    obtain ⟨hi_2, hsp⟩ := ox_in hsp
    refine va_iald hx hb hK hP 1 0 rfl rfl (i := ((12 * a1) + a2)) hi_2 dX13_kindText_37 ?_
    refine lv_iconst (v := 1) hx hb dX13_kindText_38 (by decide) ?_
    refine lv_iadd hx hb dX13_kindText_39 ?_
    obtain ⟨u1_0, hu_1, hsp⟩ := ox_bind hsp
    try dsimp only at hsp
    have hPc := hP.sub (ws' := [(h0, .inr (13, zs)), (qf100, .inl (cf100, 48000, .inl f100))]) [0, 2] rfl
    have hDc := hD.sub (ws' := [(h0, .inr (13, zs)), (qf100, .inl (cf100, 48000, .inl f100))]) [0, 2] (by decide) rfl
    have hKc := hK.sub (tys' := [(cf100, .int)]) [1] rfl
    have hFc := va_free (wc := [(h0, .inr (13, zs)), (qf100, .inl (cf100, 48000, .inl f100))]) hD hS hA [0, 2] rfl
    refine va_calli (va_runV (As := [.int a1, .int ((f107 (((12 * a1) + a2) : Int32).toNatClampNeg) + 1)]) (rest := []) ⟨hx, hb, hml, hown, hts⟩ (tm_byteAt l dC dI H.size h0 zs a1 (((f107 (((12 * a1) + a2) : Int32).toNatClampNeg) + 1)) qf100 cf100 f100 nf u1_0 hlen hf100 hu_1) (cwV 2 hts gv_h5_13 rfl rfl rfl (by decide +kernel) ⟨Nat.le_of_ble_eq_true rfl, Nat.le_of_ble_eq_true rfl⟩) ⟨fun a U g mk q => by obtain ⟨q0, q1, qP, qK, qD⟩ := q; exact ⟨q0, q1, qP, va_K.moved (u := U) (U := U.calling g mk a) (Vm.Alike.refl U.vm) qK, qD⟩, va_recv hKc hPc (ci := 13) (q0 := 0) rfl rfl, fun U hU hW => ⟨rfl, by rw [hU], by rw [hU]; exact hPc, va_K.moved hW.alike hKc, hDc.weaken (fun _ _ _ _ => trivial)⟩⟩ rfl rfl hl.1 rfl (lv_room (Nat.le_of_ble_eq_true rfl)) dX13_kindText_40 ⟨Nat.le_of_ble_eq_true rfl, Nat.le_of_ble_eq_true rfl⟩) hS (fun q _ h => hFc q h) hFc ?_
    clear hS
    intro r_3 u t H1 locs ht hvm hw hB hz1 hk1 hS
    obtain ⟨z_1, rfl⟩ : ∃ z, z = u := ⟨_, rfl⟩
    obtain ⟨hP1, hK1, hD1⟩ := hB
    rw [ht] at hP1
    have hK1 := va_K.moved hvm.symm hK1
    try dsimp only at hw
    have hPD := va_join (wr := [(qf107, .inl (cf107, 96, .inl f107)), (qf109, .inl (cf109, 96, .inl f109))]) (w1 := [(h0, .inr (13, z_1)), (qf100, .inl (cf100, 48000, .inl f100))]) hP hD [0, 2] [1, 3] rfl rfl (by decide) (by decide) hk1 hFc hP1 hD1
    clear hP hD
    obtain ⟨hP, hD⟩ := hPD
    replace hK := (hK.sub (tys' := [(cf107, .int), (cf109, .int)]) [0, 2] rfl).app hK1
    clear hPc hDc hKc hFc hP1 hK1 hD1 hz1 hk1 ht hvm
    generalize H1 = H at hP hS ⊢
    replace hP : va_P (dC, dI) vwCl [(qf107, .inl (cf107, 96, .inl f107)), (qf109, .inl (cf109, 96, .inl f109)), (h0, .inr (13, z_1)), (qf100, .inl (cf100, 48000, .inl f100))] H := hP
    replace hD : va_D A [(qf107, .inl (cf107, 96, .inl f107)), (qf109, .inl (cf109, 96, .inl f109)), (h0, .inr (13, z_1)), (qf100, .inl (cf100, 48000, .inl f100))] := hD
    replace hK : va_K (dC, dI) vwCl [(cf107, .int), (cf109, .int), (cf100, .int)] s := hK
    obtain ⟨hwa_1, hln_1, hre_1⟩ := hw
    have hfk_1_100 : z_1[100]? = some (.ref qf100) := (hre_1 100 ).trans (hf100)
    have hfk_1_107 : z_1[107]? = some (.ref qf107) := (hre_1 107 ).trans (hf107)
    have hfk_1_109 : z_1[109]? = some (.ref qf109) := (hre_1 109 ).trans (hf109)
    have hrq_1 : ∀ j : Nat, z_1[j]? = zs[j]? := fun j  => (hre_1 j ).trans (hrs0 j )
    obtain rfl := hwa_1
    have hr0 := Option.some.inj hsp
    clear hsp
    subst hr0
    have hP9 := hP.sub (ws' := [(h0, .inr (13, z_1)), (qf107, .inl (cf107, 96, .inl f107)), (qf100, .inl (cf100, 48000, .inl f100)), (qf109, .inl (cf109, 96, .inl f109))]) [2, 0, 3, 1] rfl
    have hD9 := hD.sub (ws' := [(h0, .inr (13, z_1)), (qf107, .inl (cf107, 96, .inl f107)), (qf100, .inl (cf100, 48000, .inl f100)), (qf109, .inl (cf109, 96, .inl f109))]) [2, 0, 3, 1] (by decide) rfl
    have hK9 := hK.sub (tys' := [(cf107, .int), (cf100, .int), (cf109, .int)]) [0, 2, 1] rfl
    exact W.iret hx hb hr (fun t ht hW => ⟨⟨(u1_0), (z_1), rfl, ⟨rfl, hln_1, hrq_1⟩, by rw [ht]; exact hP9, va_K.moved hW.alike hK9, hD9⟩, hS.F ht⟩) hS.2.2 dX13_kindText_43
  · rw [if_neg c_1] at hsp
    refine lv_aload_n hx hb dX13_kindText_4 rfl (lv_at hl 0 rfl) ?_
    refine lv_iload_n hx hb dX13_kindText_5 rfl (lv_at hl 1 rfl) ?_
    refine lv_aload_n hx hb dX13_kindText_6 rfl (lv_at hl 0 rfl) ?_
    refine va_get (D := (dC, dI)) (ci := 13) (v := .ref qf109) (C := RX13) (T := TX13) (N := 155) hx hb hts uV_h5_X13 hown hK hP 0 rfl rfl 109 (by decide) (hts (.fieldLink RX13 236 "ClassMillModel" "methodAt" "[I") mw_h5_113) (fun _ h9 => h9) hf109 dX13_kindText_7 ?_
    refine lv_bipush (v := 12) hx hb dX13_kindText_10 (by decide) ?_
    refine lv_iload_n hx hb dX13_kindText_12 rfl (lv_at hl 1 rfl) ?_
    refine lv_imul hx hb dX13_kindText_13 ?_
    refine lv_iload_n hx hb dX13_kindText_14 rfl (lv_at hl 2 rfl) ?_
    refine lv_iadd hx hb dX13_kindText_15 ?_
    obtain ⟨hi_4, hsp⟩ := ox_in hsp
    refine va_iald hx hb hK hP 3 2 rfl rfl (i := ((12 * a1) + a2)) hi_4 dX13_kindText_16 ?_
    refine lv_iconst (v := 2) hx hb dX13_kindText_17 (by decide) ?_
    refine lv_iadd hx hb dX13_kindText_18 ?_
    obtain ⟨u2_0, hu_2, hsp⟩ := ox_bind hsp
    try dsimp only at hsp
    have hPc := hP.sub (ws' := [(h0, .inr (13, zs)), (qf100, .inl (cf100, 48000, .inl f100))]) [0, 2] rfl
    have hDc := hD.sub (ws' := [(h0, .inr (13, zs)), (qf100, .inl (cf100, 48000, .inl f100))]) [0, 2] (by decide) rfl
    have hKc := hK.sub (tys' := [(cf100, .int)]) [1] rfl
    have hFc := va_free (wc := [(h0, .inr (13, zs)), (qf100, .inl (cf100, 48000, .inl f100))]) hD hS hA [0, 2] rfl
    refine va_calli (va_runV (As := [.int a1, .int ((f109 (((12 * a1) + a2) : Int32).toNatClampNeg) + 2)]) (rest := []) ⟨hx, hb, hml, hown, hts⟩ (tm_byteAt l dC dI H.size h0 zs a1 (((f109 (((12 * a1) + a2) : Int32).toNatClampNeg) + 2)) qf100 cf100 f100 nf u2_0 hlen hf100 hu_2) (cwV 2 hts gv_h5_13 rfl rfl rfl (by decide +kernel) ⟨Nat.le_of_ble_eq_true rfl, Nat.le_of_ble_eq_true rfl⟩) ⟨fun a U g mk q => by obtain ⟨q0, q1, qP, qK, qD⟩ := q; exact ⟨q0, q1, qP, va_K.moved (u := U) (U := U.calling g mk a) (Vm.Alike.refl U.vm) qK, qD⟩, va_recv hKc hPc (ci := 13) (q0 := 0) rfl rfl, fun U hU hW => ⟨rfl, by rw [hU], by rw [hU]; exact hPc, va_K.moved hW.alike hKc, hDc.weaken (fun _ _ _ _ => trivial)⟩⟩ rfl rfl hl.1 rfl (lv_room (Nat.le_of_ble_eq_true rfl)) dX13_kindText_19 ⟨Nat.le_of_ble_eq_true rfl, Nat.le_of_ble_eq_true rfl⟩) hS (fun q _ h => hFc q h) hFc ?_
    clear hS
    intro r_5 u t H1 locs ht hvm hw hB hz1 hk1 hS
    obtain ⟨z_2, rfl⟩ : ∃ z, z = u := ⟨_, rfl⟩
    obtain ⟨hP1, hK1, hD1⟩ := hB
    rw [ht] at hP1
    have hK1 := va_K.moved hvm.symm hK1
    try dsimp only at hw
    have hPD := va_join (wr := [(qf107, .inl (cf107, 96, .inl f107)), (qf109, .inl (cf109, 96, .inl f109))]) (w1 := [(h0, .inr (13, z_2)), (qf100, .inl (cf100, 48000, .inl f100))]) hP hD [0, 2] [1, 3] rfl rfl (by decide) (by decide) hk1 hFc hP1 hD1
    clear hP hD
    obtain ⟨hP, hD⟩ := hPD
    replace hK := (hK.sub (tys' := [(cf107, .int), (cf109, .int)]) [0, 2] rfl).app hK1
    clear hPc hDc hKc hFc hP1 hK1 hD1 hz1 hk1 ht hvm
    generalize H1 = H at hP hS ⊢
    replace hP : va_P (dC, dI) vwCl [(qf107, .inl (cf107, 96, .inl f107)), (qf109, .inl (cf109, 96, .inl f109)), (h0, .inr (13, z_2)), (qf100, .inl (cf100, 48000, .inl f100))] H := hP
    replace hD : va_D A [(qf107, .inl (cf107, 96, .inl f107)), (qf109, .inl (cf109, 96, .inl f109)), (h0, .inr (13, z_2)), (qf100, .inl (cf100, 48000, .inl f100))] := hD
    replace hK : va_K (dC, dI) vwCl [(cf107, .int), (cf109, .int), (cf100, .int)] s := hK
    obtain ⟨hwa_2, hln_2, hre_2⟩ := hw
    have hfk_2_100 : z_2[100]? = some (.ref qf100) := (hre_2 100 ).trans (hf100)
    have hfk_2_107 : z_2[107]? = some (.ref qf107) := (hre_2 107 ).trans (hf107)
    have hfk_2_109 : z_2[109]? = some (.ref qf109) := (hre_2 109 ).trans (hf109)
    have hrq_2 : ∀ j : Nat, z_2[j]? = zs[j]? := fun j  => (hre_2 j ).trans (hrs0 j )
    obtain rfl := hwa_2
    refine lv_goto (tgt := 43) hx hb dX13_kindText_22 (by decide) ?_
    have hr0 := Option.some.inj hsp
    clear hsp
    subst hr0
    have hP9 := hP.sub (ws' := [(h0, .inr (13, z_2)), (qf107, .inl (cf107, 96, .inl f107)), (qf100, .inl (cf100, 48000, .inl f100)), (qf109, .inl (cf109, 96, .inl f109))]) [2, 0, 3, 1] rfl
    have hD9 := hD.sub (ws' := [(h0, .inr (13, z_2)), (qf107, .inl (cf107, 96, .inl f107)), (qf100, .inl (cf100, 48000, .inl f100)), (qf109, .inl (cf109, 96, .inl f109))]) [2, 0, 3, 1] (by decide) rfl
    have hK9 := hK.sub (tys' := [(cf107, .int), (cf100, .int), (cf109, .int)]) [0, 2, 1] rfl
    exact W.iret hx hb hr (fun t ht hW => ⟨⟨(u2_0), (z_2), rfl, ⟨rfl, hln_2, hrq_2⟩, by rw [ht]; exact hP9, va_K.moved hW.alike hK9, hD9⟩, hS.F ht⟩) hS.2.2 dX13_kindText_43
def sp_tm_bad (nf : Nat) (a1 : Int32) (a2 : Int32) (a3 : Int32) (a4 : Int32) : Option (Int32 × Int32 × Int32 × Int32 × Int32) := (some (0, a1, a2, a3, a4))
