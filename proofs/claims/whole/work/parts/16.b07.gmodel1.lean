set_option maxHeartbeats 4000000 in
set_option maxRecDepth 100000 in
/-- ClassMillModel.drop -/
theorem tm_drop (l : Launch) (dC : Nat → ClassId) (dI : Nat → Nat → Nat) (sz : Nat) (h0 : Nat) (zs : (List Value)) (v149 : Int32) (qf153 : Nat) (qf154 : Nat) (cf153 : ClassId) (f153 : (Nat → Int32)) (cf154 : ClassId) (f154 : (Nat → Int32)) (nf : Nat) (r0 : Int32) (o153 : (Nat → Int32)) (hlen : zs.length = 155) (hf149 : zs[149]? = some (.int v149)) (hf153 : zs[153]? = some (.ref qf153)) (hf154 : zs[154]? = some (.ref qf154)) (hsp : sp_tm_drop nf v149 f153 f154 = some (r0, o153)) : Met l yX13_drop (.code yX13_drop cX13_drop 2 (some .int) :: VS_h5) ({ frames := 0, cells := 0, slots := 0, locals := 0 }) (va_Pc [.ref h0] (fun U => U.heap.size = sz ∧ va_P (dC, dI) vwCl [(h0, .inr (13, zs)), (qf153, .inl (cf153, 60, .inl f153)), (qf154, .inl (cf154, 3600, .inl f154))] U.heap ∧ va_K (dC, dI) vwCl [(cf153, .int), (cf154, .int)] U ∧ va_D (fun _ => True) [(h0, .inr (13, zs)), (qf153, .inl (cf153, 60, .inl f153)), (qf154, .inl (cf154, 3600, .inl f154))])) (va_Qi (fun (r : Int32) (u : (List Value)) => match u with | (zo1) => r0 = r ∧ zo1.length = 155 ∧ (∀ j : Nat, zo1[j]? = zs[j]?)) (fun (u : (List Value)) (t : State) => match u with | (zo1) => va_P (dC, dI) vwCl [(h0, .inr (13, zo1)), (qf153, .inl (cf153, 60, .inl o153)), (qf154, .inl (cf154, 3600, .inl f154))] t.heap ∧ va_K (dC, dI) vwCl [(cf153, .int), (cf154, .int)] t ∧ va_D (va_A [(h0, .inr (13, zs)), (qf153, .inl (cf153, 60, .inl f153)), (qf154, .inl (cf154, 3600, .inl f154))] sz) [(h0, .inr (13, zo1)), (qf153, .inl (cf153, 60, .inl o153)), (qf154, .inl (cf154, 3600, .inl f154))]) (va_A [(h0, .inr (13, zs)), (qf153, .inl (cf153, 60, .inl f153)), (qf154, .inl (cf154, 3600, .inl f154))] sz)) 0 0 (va_A [(h0, .inr (13, zs)), (qf153, .inl (cf153, 60, .inl f153)), (qf154, .inl (cf154, 3600, .inl f154))] sz) := by
  refine Met.ofW (cc := cX13_drop) (maxL := 2) (ret := (some .int)) (by decide) rfl ?_
  intro p e s m args below meth c s₁ B hml hv
  obtain ⟨rfl, hsz, hP, hK, hD0⟩ := hv
  have hx := B.exec
  have hb := B.bytes
  have hr := B.returns
  have hts := atoms_spec (ws := (.code yX13_drop cX13_drop 2 (some .int) :: VS_h5)) B.pre
  replace hts := fun w (h : w ∈ VS_h5) => hts w (List.mem_cons_of_mem _ h)
  have hown : s.vm.findClass RX13 = some m.cls := findClass_of_methodNamed B.named
  have hlocks := B.notSynchronized
  subst hsz
  have hD := hD0.self (sz := s.heap.size)
  generalize hAe : va_A [(h0, .inr (13, zs)), (qf153, .inl (cf153, 60, .inl f153)), (qf154, .inl (cf154, 3600, .inl f154))] s.heap.size = A at hD  ⊢
  have hA : ∀ q : Nat, s.heap.size ≤ q → A q := fun q h => by rw [← hAe]; exact Or.inr h
  have hP : va_P (dC, dI) vwCl [(h0, .inr (13, zs)), (qf153, .inl (cf153, 60, .inl f153)), (qf154, .inl (cf154, 3600, .inl f154))] s.heap := hP
  have hl := lv_entry ([.ref h0]) (n := 2) (Nat.le_of_ble_eq_true rfl)
  rw [lg_entry_eq]
  generalize (lg_sl ([.ref h0]) ++ List.replicate (2 - (lg_sl ([.ref h0])).length) Slot.unset).toArray = ls at hl ⊢
  have hl : lv_has ls 2 [(0, .ref h0)] := hl
  obtain ⟨H, hH⟩ : ∃ H : Heap, s.heap = H := ⟨_, rfl⟩
  rw [hH] at hP ⊢
  have hS : va_S A s.heap H [] := by rw [← hH]; exact va_S.rf
  obtain ⟨locs, hlo⟩ : ∃ locs : List Loc, locs = [] := ⟨_, rfl⟩
  rw [← hlo] at hS ⊢
  have hrs0 : ∀ j : Nat, zs[j]? = zs[j]? := fun _  => rfl
  unfold sp_tm_drop at hsp
  refine lv_aload_n hx hb dX13_drop_0 rfl (lv_at hl 0 rfl) ?_
  refine va_get (D := (dC, dI)) (ci := 13) (v := .int v149) (C := RX13) (T := TX13) (N := 155) hx hb hts uV_h5_X13 hown hK hP 0 rfl rfl 149 (by decide) (hts (.fieldLink RX13 1058 "ClassMillModel" "depth" "I") mw_h5_133) (fun _ h9 => h9) hf149 dX13_drop_1 ?_
  refine lv_iconst (v := 1) hx hb dX13_drop_4 (by decide) ?_
  refine lv_isub hx hb dX13_drop_5 ?_
  refine lv_istore_n (lv' := [(1, .int (v149 - 1)), (0, .ref h0)]) hx hb dX13_drop_6 rfl hl (by decide) rfl (fun ls hl => ?_)
  refine lv_aload_n hx hb dX13_drop_7 rfl (lv_at hl 1 rfl) ?_
  refine va_get (D := (dC, dI)) (ci := 13) (v := .ref qf153) (C := RX13) (T := TX13) (N := 155) hx hb hts uV_h5_X13 hown hK hP 0 rfl rfl 153 (by decide) (hts (.fieldLink RX13 303 "ClassMillModel" "runStack" "[I") mw_h5_135) (fun _ h9 => h9) hf153 dX13_drop_8 ?_
  refine lv_iload_n hx hb dX13_drop_11 rfl (lv_at hl 0 rfl) ?_
  refine lv_dup2_11 hx hb dX13_drop_12 rfl rfl ?_
  obtain ⟨hi_1, hsp⟩ := ox_in hsp
  refine va_iald hx hb hK hP 1 0 rfl rfl (i := (v149 - 1)) hi_1 dX13_drop_13 ?_
  refine lv_iconst (v := 1) hx hb dX13_drop_14 (by decide) ?_
  refine lv_isub hx hb dX13_drop_15 ?_
  obtain ⟨hi_2, hsp⟩ := ox_in hsp
  refine va_iast hx hb hK hP hD hS 1 0 rfl rfl (i := (v149 - 1)) (x := ((f153 ((v149 - 1) : Int32).toNatClampNeg) - 1)) hi_2 dX13_drop_16 ?_
  clear hP hD hS
  intro H locs hP hD hS
  replace hP : va_P (dC, dI) vwCl [(h0, .inr (13, zs)), (qf153, .inl (cf153, 60, .inl (upd f153 ((v149 - 1) : Int32).toNatClampNeg ((f153 ((v149 - 1) : Int32).toNatClampNeg) - 1)))), (qf154, .inl (cf154, 3600, .inl f154))] H := hP
  replace hD : va_D A [(h0, .inr (13, zs)), (qf153, .inl (cf153, 60, .inl (upd f153 ((v149 - 1) : Int32).toNatClampNeg ((f153 ((v149 - 1) : Int32).toNatClampNeg) - 1)))), (qf154, .inl (cf154, 3600, .inl f154))] := hD
  refine lv_aload_n hx hb dX13_drop_17 rfl (lv_at hl 1 rfl) ?_
  refine va_get (D := (dC, dI)) (ci := 13) (v := .ref qf154) (C := RX13) (T := TX13) (N := 155) hx hb hts uV_h5_X13 hown hK hP 0 rfl rfl 154 (by decide) (hts (.fieldLink RX13 306 "ClassMillModel" "cells" "[I") mw_h5_134) (fun _ h9 => h9) hf154 dX13_drop_18 ?_
  refine lv_bipush (v := 60) hx hb dX13_drop_21 (by decide) ?_
  refine lv_iload_n hx hb dX13_drop_23 rfl (lv_at hl 0 rfl) ?_
  refine lv_imul hx hb dX13_drop_24 ?_
  refine lv_bipush (v := 30) hx hb dX13_drop_25 (by decide) ?_
  refine lv_iadd hx hb dX13_drop_27 ?_
  refine lv_aload_n hx hb dX13_drop_28 rfl (lv_at hl 1 rfl) ?_
  refine va_get (D := (dC, dI)) (ci := 13) (v := .ref qf153) (C := RX13) (T := TX13) (N := 155) hx hb hts uV_h5_X13 hown hK hP 0 rfl rfl 153 (by decide) (hts (.fieldLink RX13 303 "ClassMillModel" "runStack" "[I") mw_h5_135) (fun _ h9 => h9) hf153 dX13_drop_29 ?_
  refine lv_iload_n hx hb dX13_drop_32 rfl (lv_at hl 0 rfl) ?_
  obtain ⟨hi_3, hsp⟩ := ox_in hsp
  refine va_iald hx hb hK hP 1 0 rfl rfl (i := (v149 - 1)) hi_3 dX13_drop_33 ?_
  refine lv_iadd hx hb dX13_drop_34 ?_
  obtain ⟨hi_4, hsp⟩ := ox_in hsp
  refine va_iald hx hb hK hP 2 1 rfl rfl (i := (((60 * (v149 - 1)) + 30) + ((upd f153 ((v149 - 1) : Int32).toNatClampNeg ((f153 ((v149 - 1) : Int32).toNatClampNeg) - 1)) ((v149 - 1) : Int32).toNatClampNeg))) hi_4 dX13_drop_35 ?_
  have hr0 := Option.some.inj hsp
  clear hsp
  obtain ⟨hq0, hr1⟩ := Prod.mk.inj hr0
  clear hr0
  subst hq0
  subst hr1
  have hP9 := hP.sub (ws' := [(h0, .inr (13, zs)), (qf153, .inl (cf153, 60, .inl (upd f153 ((v149 - 1) : Int32).toNatClampNeg ((f153 ((v149 - 1) : Int32).toNatClampNeg) - 1)))), (qf154, .inl (cf154, 3600, .inl f154))]) [0, 1, 2] rfl
  have hD9 := hD.sub (ws' := [(h0, .inr (13, zs)), (qf153, .inl (cf153, 60, .inl (upd f153 ((v149 - 1) : Int32).toNatClampNeg ((f153 ((v149 - 1) : Int32).toNatClampNeg) - 1)))), (qf154, .inl (cf154, 3600, .inl f154))]) [0, 1, 2] (by decide) rfl
  have hK9 := hK.sub (tys' := [(cf153, .int), (cf154, .int)]) [0, 1] rfl
  exact W.iret hx hb hr (fun t ht hW => ⟨⟨((f154 ((((60 * (v149 - 1)) + 30) + ((upd f153 ((v149 - 1) : Int32).toNatClampNeg ((f153 ((v149 - 1) : Int32).toNatClampNeg) - 1)) ((v149 - 1) : Int32).toNatClampNeg)) : Int32).toNatClampNeg)), (zs), rfl, ⟨rfl, hlen, hrs0⟩, by rw [ht]; exact hP9, va_K.moved hW.alike hK9, hD9⟩, hS.F ht⟩) hS.2.2 dX13_drop_36
def sp_tm_opAt (nf : Nat) (a1 : Int32) (v149 : Int32) (f150 : Nat → Int32) (f151 : Nat → Int32) (f109 : Nat → Int32) (f100 : Nat → Int32) : Option (Int32) := (if (v149 - 1) < 0 then none else if 60 ≤ ((v149 - 1) : Int32).toNatClampNeg then none else (if (v149 - 1) < 0 then none else if 60 ≤ ((v149 - 1) : Int32).toNatClampNeg then none else (if (v149 - 1) < 0 then none else if 60 ≤ ((v149 - 1) : Int32).toNatClampNeg then none else (if ((12 * ((f150 ((v149 - 1) : Int32).toNatClampNeg) - 8)) + (f151 ((v149 - 1) : Int32).toNatClampNeg)) < 0 then none else if 96 ≤ (((12 * ((f150 ((v149 - 1) : Int32).toNatClampNeg) - 8)) + (f151 ((v149 - 1) : Int32).toNatClampNeg)) : Int32).toNatClampNeg then none else ((sp_tm_byteAt nf ((f150 ((v149 - 1) : Int32).toNatClampNeg) - 8) (((f109 (((12 * ((f150 ((v149 - 1) : Int32).toNatClampNeg) - 8)) + (f151 ((v149 - 1) : Int32).toNatClampNeg)) : Int32).toNatClampNeg) + 7) + a1) f100).bind (fun p1 => (some p1)))))))
set_option maxHeartbeats 4000000 in
set_option maxRecDepth 100000 in
/-- ClassMillModel.opAt -/
theorem tm_opAt (l : Launch) (dC : Nat → ClassId) (dI : Nat → Nat → Nat) (sz : Nat) (h0 : Nat) (zs : (List Value)) (a1 : Int32) (qf100 : Nat) (qf109 : Nat) (v149 : Int32) (qf150 : Nat) (qf151 : Nat) (cf150 : ClassId) (f150 : (Nat → Int32)) (cf151 : ClassId) (f151 : (Nat → Int32)) (cf109 : ClassId) (f109 : (Nat → Int32)) (cf100 : ClassId) (f100 : (Nat → Int32)) (nf : Nat) (r0 : Int32) (hlen : zs.length = 155) (hf100 : zs[100]? = some (.ref qf100)) (hf109 : zs[109]? = some (.ref qf109)) (hf149 : zs[149]? = some (.int v149)) (hf150 : zs[150]? = some (.ref qf150)) (hf151 : zs[151]? = some (.ref qf151)) (hsp : sp_tm_opAt nf a1 v149 f150 f151 f109 f100 = some r0) : Met l yX13_opAt (.code yX13_opAt cX13_opAt 2 (some .int) :: VS_h5) ({ frames := 1, cells := 0, slots := 0, locals := 22 }) (va_Pc [.ref h0, .int a1] (fun U => U.heap.size = sz ∧ va_P (dC, dI) vwCl [(h0, .inr (13, zs)), (qf150, .inl (cf150, 60, .inl f150)), (qf151, .inl (cf151, 60, .inl f151)), (qf109, .inl (cf109, 96, .inl f109)), (qf100, .inl (cf100, 48000, .inl f100))] U.heap ∧ va_K (dC, dI) vwCl [(cf150, .int), (cf151, .int), (cf109, .int), (cf100, .int)] U ∧ va_D (fun _ => True) [(h0, .inr (13, zs)), (qf150, .inl (cf150, 60, .inl f150)), (qf151, .inl (cf151, 60, .inl f151)), (qf109, .inl (cf109, 96, .inl f109)), (qf100, .inl (cf100, 48000, .inl f100))])) (va_Qi (fun (r : Int32) (u : (List Value)) => match u with | (zo1) => r0 = r ∧ zo1.length = 155 ∧ (∀ j : Nat, zo1[j]? = zs[j]?)) (fun (u : (List Value)) (t : State) => match u with | (zo1) => va_P (dC, dI) vwCl [(h0, .inr (13, zo1)), (qf150, .inl (cf150, 60, .inl f150)), (qf151, .inl (cf151, 60, .inl f151)), (qf109, .inl (cf109, 96, .inl f109)), (qf100, .inl (cf100, 48000, .inl f100))] t.heap ∧ va_K (dC, dI) vwCl [(cf150, .int), (cf151, .int), (cf109, .int), (cf100, .int)] t ∧ va_D (va_A [(h0, .inr (13, zs)), (qf150, .inl (cf150, 60, .inl f150)), (qf151, .inl (cf151, 60, .inl f151)), (qf109, .inl (cf109, 96, .inl f109)), (qf100, .inl (cf100, 48000, .inl f100))] sz) [(h0, .inr (13, zo1)), (qf150, .inl (cf150, 60, .inl f150)), (qf151, .inl (cf151, 60, .inl f151)), (qf109, .inl (cf109, 96, .inl f109)), (qf100, .inl (cf100, 48000, .inl f100))]) (va_A [(h0, .inr (13, zs)), (qf150, .inl (cf150, 60, .inl f150)), (qf151, .inl (cf151, 60, .inl f151)), (qf109, .inl (cf109, 96, .inl f109)), (qf100, .inl (cf100, 48000, .inl f100))] sz)) 0 0 (va_A [(h0, .inr (13, zs)), (qf150, .inl (cf150, 60, .inl f150)), (qf151, .inl (cf151, 60, .inl f151)), (qf109, .inl (cf109, 96, .inl f109)), (qf100, .inl (cf100, 48000, .inl f100))] sz) := by
  refine Met.ofW (cc := cX13_opAt) (maxL := 2) (ret := (some .int)) (by decide) rfl ?_
  intro p e s m args below meth c s₁ B hml hv
  obtain ⟨rfl, hsz, hP, hK, hD0⟩ := hv
  have hx := B.exec
  have hb := B.bytes
  have hr := B.returns
  have hts := atoms_spec (ws := (.code yX13_opAt cX13_opAt 2 (some .int) :: VS_h5)) B.pre
  replace hts := fun w (h : w ∈ VS_h5) => hts w (List.mem_cons_of_mem _ h)
  have hown : s.vm.findClass RX13 = some m.cls := findClass_of_methodNamed B.named
  have hlocks := B.notSynchronized
  subst hsz
  have hD := hD0.self (sz := s.heap.size)
  generalize hAe : va_A [(h0, .inr (13, zs)), (qf150, .inl (cf150, 60, .inl f150)), (qf151, .inl (cf151, 60, .inl f151)), (qf109, .inl (cf109, 96, .inl f109)), (qf100, .inl (cf100, 48000, .inl f100))] s.heap.size = A at hD  ⊢
  have hA : ∀ q : Nat, s.heap.size ≤ q → A q := fun q h => by rw [← hAe]; exact Or.inr h
  have hP : va_P (dC, dI) vwCl [(h0, .inr (13, zs)), (qf150, .inl (cf150, 60, .inl f150)), (qf151, .inl (cf151, 60, .inl f151)), (qf109, .inl (cf109, 96, .inl f109)), (qf100, .inl (cf100, 48000, .inl f100))] s.heap := hP
  have hl := lv_entry ([.ref h0, .int a1]) (n := 2) (Nat.le_of_ble_eq_true rfl)
  rw [lg_entry_eq]
  generalize (lg_sl ([.ref h0, .int a1]) ++ List.replicate (2 - (lg_sl ([.ref h0, .int a1])).length) Slot.unset).toArray = ls at hl ⊢
  have hl : lv_has ls 2 [(0, .ref h0), (1, .int a1)] := hl
  obtain ⟨H, hH⟩ : ∃ H : Heap, s.heap = H := ⟨_, rfl⟩
  rw [hH] at hP ⊢
  have hS : va_S A s.heap H [] := by rw [← hH]; exact va_S.rf
  obtain ⟨locs, hlo⟩ : ∃ locs : List Loc, locs = [] := ⟨_, rfl⟩
  rw [← hlo] at hS ⊢
  have hrs0 : ∀ j : Nat, zs[j]? = zs[j]? := fun _  => rfl
  unfold sp_tm_opAt at hsp
  refine lv_aload_n hx hb dX13_opAt_0 rfl (lv_at hl 0 rfl) ?_
  refine lv_aload_n hx hb dX13_opAt_1 rfl (lv_at hl 0 rfl) ?_
  refine va_get (D := (dC, dI)) (ci := 13) (v := .ref qf150) (C := RX13) (T := TX13) (N := 155) hx hb hts uV_h5_X13 hown hK hP 0 rfl rfl 150 (by decide) (hts (.fieldLink RX13 294 "ClassMillModel" "runClass" "[I") mw_h5_136) (fun _ h9 => h9) hf150 dX13_opAt_2 ?_
  refine lv_aload_n hx hb dX13_opAt_5 rfl (lv_at hl 0 rfl) ?_
  refine va_get (D := (dC, dI)) (ci := 13) (v := .int v149) (C := RX13) (T := TX13) (N := 155) hx hb hts uV_h5_X13 hown hK hP 0 rfl rfl 149 (by decide) (hts (.fieldLink RX13 1058 "ClassMillModel" "depth" "I") mw_h5_133) (fun _ h9 => h9) hf149 dX13_opAt_6 ?_
  refine lv_iconst (v := 1) hx hb dX13_opAt_9 (by decide) ?_
  refine lv_isub hx hb dX13_opAt_10 ?_
  obtain ⟨hi_1, hsp⟩ := ox_in hsp
  refine va_iald hx hb hK hP 1 0 rfl rfl (i := (v149 - 1)) hi_1 dX13_opAt_11 ?_
  refine lv_bipush (v := 8) hx hb dX13_opAt_12 (by decide) ?_
  refine lv_isub hx hb dX13_opAt_14 ?_
  refine lv_aload_n hx hb dX13_opAt_15 rfl (lv_at hl 0 rfl) ?_
  refine va_get (D := (dC, dI)) (ci := 13) (v := .ref qf109) (C := RX13) (T := TX13) (N := 155) hx hb hts uV_h5_X13 hown hK hP 0 rfl rfl 109 (by decide) (hts (.fieldLink RX13 236 "ClassMillModel" "methodAt" "[I") mw_h5_113) (fun _ h9 => h9) hf109 dX13_opAt_16 ?_
  refine lv_bipush (v := 12) hx hb dX13_opAt_19 (by decide) ?_
  refine lv_aload_n hx hb dX13_opAt_21 rfl (lv_at hl 0 rfl) ?_
  refine va_get (D := (dC, dI)) (ci := 13) (v := .ref qf150) (C := RX13) (T := TX13) (N := 155) hx hb hts uV_h5_X13 hown hK hP 0 rfl rfl 150 (by decide) (hts (.fieldLink RX13 294 "ClassMillModel" "runClass" "[I") mw_h5_136) (fun _ h9 => h9) hf150 dX13_opAt_22 ?_
  refine lv_aload_n hx hb dX13_opAt_25 rfl (lv_at hl 0 rfl) ?_
  refine va_get (D := (dC, dI)) (ci := 13) (v := .int v149) (C := RX13) (T := TX13) (N := 155) hx hb hts uV_h5_X13 hown hK hP 0 rfl rfl 149 (by decide) (hts (.fieldLink RX13 1058 "ClassMillModel" "depth" "I") mw_h5_133) (fun _ h9 => h9) hf149 dX13_opAt_26 ?_
  refine lv_iconst (v := 1) hx hb dX13_opAt_29 (by decide) ?_
  refine lv_isub hx hb dX13_opAt_30 ?_
  obtain ⟨hi_2, hsp⟩ := ox_in hsp
  refine va_iald hx hb hK hP 1 0 rfl rfl (i := (v149 - 1)) hi_2 dX13_opAt_31 ?_
  refine lv_bipush (v := 8) hx hb dX13_opAt_32 (by decide) ?_
  refine lv_isub hx hb dX13_opAt_34 ?_
  refine lv_imul hx hb dX13_opAt_35 ?_
  refine lv_aload_n hx hb dX13_opAt_36 rfl (lv_at hl 0 rfl) ?_
  refine va_get (D := (dC, dI)) (ci := 13) (v := .ref qf151) (C := RX13) (T := TX13) (N := 155) hx hb hts uV_h5_X13 hown hK hP 0 rfl rfl 151 (by decide) (hts (.fieldLink RX13 297 "ClassMillModel" "runMethod" "[I") mw_h5_137) (fun _ h9 => h9) hf151 dX13_opAt_37 ?_
  refine lv_aload_n hx hb dX13_opAt_40 rfl (lv_at hl 0 rfl) ?_
  refine va_get (D := (dC, dI)) (ci := 13) (v := .int v149) (C := RX13) (T := TX13) (N := 155) hx hb hts uV_h5_X13 hown hK hP 0 rfl rfl 149 (by decide) (hts (.fieldLink RX13 1058 "ClassMillModel" "depth" "I") mw_h5_133) (fun _ h9 => h9) hf149 dX13_opAt_41 ?_
  refine lv_iconst (v := 1) hx hb dX13_opAt_44 (by decide) ?_
  refine lv_isub hx hb dX13_opAt_45 ?_
  obtain ⟨hi_3, hsp⟩ := ox_in hsp
  refine va_iald hx hb hK hP 2 1 rfl rfl (i := (v149 - 1)) hi_3 dX13_opAt_46 ?_
  refine lv_iadd hx hb dX13_opAt_47 ?_
  obtain ⟨hi_4, hsp⟩ := ox_in hsp
  refine va_iald hx hb hK hP 3 2 rfl rfl (i := ((12 * ((f150 ((v149 - 1) : Int32).toNatClampNeg) - 8)) + (f151 ((v149 - 1) : Int32).toNatClampNeg))) hi_4 dX13_opAt_48 ?_
  refine lv_bipush (v := 7) hx hb dX13_opAt_49 (by decide) ?_
  refine lv_iadd hx hb dX13_opAt_51 ?_
  refine lv_iload_n hx hb dX13_opAt_52 rfl (lv_at hl 1 rfl) ?_
  refine lv_iadd hx hb dX13_opAt_53 ?_
  obtain ⟨u1_0, hu_1, hsp⟩ := ox_bind hsp
  try dsimp only at hsp
  have hPc := hP.sub (ws' := [(h0, .inr (13, zs)), (qf100, .inl (cf100, 48000, .inl f100))]) [0, 4] rfl
  have hDc := hD.sub (ws' := [(h0, .inr (13, zs)), (qf100, .inl (cf100, 48000, .inl f100))]) [0, 4] (by decide) rfl
  have hKc := hK.sub (tys' := [(cf100, .int)]) [3] rfl
  have hFc := va_free (wc := [(h0, .inr (13, zs)), (qf100, .inl (cf100, 48000, .inl f100))]) hD hS hA [0, 4] rfl
  refine va_calli (va_runV (As := [.int ((f150 ((v149 - 1) : Int32).toNatClampNeg) - 8), .int (((f109 (((12 * ((f150 ((v149 - 1) : Int32).toNatClampNeg) - 8)) + (f151 ((v149 - 1) : Int32).toNatClampNeg)) : Int32).toNatClampNeg) + 7) + a1)]) (rest := []) ⟨hx, hb, hml, hown, hts⟩ (tm_byteAt l dC dI H.size h0 zs (((f150 ((v149 - 1) : Int32).toNatClampNeg) - 8)) ((((f109 (((12 * ((f150 ((v149 - 1) : Int32).toNatClampNeg) - 8)) + (f151 ((v149 - 1) : Int32).toNatClampNeg)) : Int32).toNatClampNeg) + 7) + a1)) qf100 cf100 f100 nf u1_0 hlen hf100 hu_1) (cwV 2 hts gv_h5_13 rfl rfl rfl (by decide +kernel) ⟨Nat.le_of_ble_eq_true rfl, Nat.le_of_ble_eq_true rfl⟩) ⟨fun a U g mk q => by obtain ⟨q0, q1, qP, qK, qD⟩ := q; exact ⟨q0, q1, qP, va_K.moved (u := U) (U := U.calling g mk a) (Vm.Alike.refl U.vm) qK, qD⟩, va_recv hKc hPc (ci := 13) (q0 := 0) rfl rfl, fun U hU hW => ⟨rfl, by rw [hU], by rw [hU]; exact hPc, va_K.moved hW.alike hKc, hDc.weaken (fun _ _ _ _ => trivial)⟩⟩ rfl rfl hl.1 rfl (lv_room (Nat.le_of_ble_eq_true rfl)) dX13_opAt_54 ⟨Nat.le_of_ble_eq_true rfl, Nat.le_of_ble_eq_true rfl⟩) hS (fun q _ h => hFc q h) hFc ?_
  clear hS
  intro r_5 u t H1 locs ht hvm hw hB hz1 hk1 hS
  obtain ⟨z_1, rfl⟩ : ∃ z, z = u := ⟨_, rfl⟩
  obtain ⟨hP1, hK1, hD1⟩ := hB
  rw [ht] at hP1
  have hK1 := va_K.moved hvm.symm hK1
  try dsimp only at hw
  have hPD := va_join (wr := [(qf150, .inl (cf150, 60, .inl f150)), (qf151, .inl (cf151, 60, .inl f151)), (qf109, .inl (cf109, 96, .inl f109))]) (w1 := [(h0, .inr (13, z_1)), (qf100, .inl (cf100, 48000, .inl f100))]) hP hD [0, 4] [1, 2, 3] rfl rfl (by decide) (by decide) hk1 hFc hP1 hD1
  clear hP hD
  obtain ⟨hP, hD⟩ := hPD
  replace hK := (hK.sub (tys' := [(cf150, .int), (cf151, .int), (cf109, .int)]) [0, 1, 2] rfl).app hK1
  clear hPc hDc hKc hFc hP1 hK1 hD1 hz1 hk1 ht hvm
  generalize H1 = H at hP hS ⊢
  replace hP : va_P (dC, dI) vwCl [(qf150, .inl (cf150, 60, .inl f150)), (qf151, .inl (cf151, 60, .inl f151)), (qf109, .inl (cf109, 96, .inl f109)), (h0, .inr (13, z_1)), (qf100, .inl (cf100, 48000, .inl f100))] H := hP
  replace hD : va_D A [(qf150, .inl (cf150, 60, .inl f150)), (qf151, .inl (cf151, 60, .inl f151)), (qf109, .inl (cf109, 96, .inl f109)), (h0, .inr (13, z_1)), (qf100, .inl (cf100, 48000, .inl f100))] := hD
  replace hK : va_K (dC, dI) vwCl [(cf150, .int), (cf151, .int), (cf109, .int), (cf100, .int)] s := hK
  obtain ⟨hwa_1, hln_1, hre_1⟩ := hw
  have hfk_1_100 : z_1[100]? = some (.ref qf100) := (hre_1 100 ).trans (hf100)
  have hfk_1_109 : z_1[109]? = some (.ref qf109) := (hre_1 109 ).trans (hf109)
  have hfk_1_149 : z_1[149]? = some (.int v149) := (hre_1 149 ).trans (hf149)
  have hfk_1_150 : z_1[150]? = some (.ref qf150) := (hre_1 150 ).trans (hf150)
  have hfk_1_151 : z_1[151]? = some (.ref qf151) := (hre_1 151 ).trans (hf151)
  have hrq_1 : ∀ j : Nat, z_1[j]? = zs[j]? := fun j  => (hre_1 j ).trans (hrs0 j )
  obtain rfl := hwa_1
  have hr0 := Option.some.inj hsp
  clear hsp
  subst hr0
  have hP9 := hP.sub (ws' := [(h0, .inr (13, z_1)), (qf150, .inl (cf150, 60, .inl f150)), (qf151, .inl (cf151, 60, .inl f151)), (qf109, .inl (cf109, 96, .inl f109)), (qf100, .inl (cf100, 48000, .inl f100))]) [3, 0, 1, 2, 4] rfl
  have hD9 := hD.sub (ws' := [(h0, .inr (13, z_1)), (qf150, .inl (cf150, 60, .inl f150)), (qf151, .inl (cf151, 60, .inl f151)), (qf109, .inl (cf109, 96, .inl f109)), (qf100, .inl (cf100, 48000, .inl f100))]) [3, 0, 1, 2, 4] (by decide) rfl
  have hK9 := hK.sub (tys' := [(cf150, .int), (cf151, .int), (cf109, .int), (cf100, .int)]) [0, 1, 2, 3] rfl
  exact W.iret hx hb hr (fun t ht hW => ⟨⟨(u1_0), (z_1), rfl, ⟨rfl, hln_1, hrq_1⟩, by rw [ht]; exact hP9, va_K.moved hW.alike hK9, hD9⟩, hS.F ht⟩) hS.2.2 dX13_opAt_57
def sp_tm_on (nf : Nat) (a1 : Int32) (v149 : Int32) (f152 : Nat → Int32) : Option ((Nat → Int32)) := (if (v149 - 1) < 0 then none else if 60 ≤ ((v149 - 1) : Int32).toNatClampNeg then none else (if (v149 - 1) < 0 then none else if 60 ≤ ((v149 - 1) : Int32).toNatClampNeg then none else (some (upd f152 ((v149 - 1) : Int32).toNatClampNeg ((f152 ((v149 - 1) : Int32).toNatClampNeg) + a1)))))
set_option maxHeartbeats 4000000 in
set_option maxRecDepth 100000 in
/-- ClassMillModel.on -/
theorem tm_on (l : Launch) (dC : Nat → ClassId) (dI : Nat → Nat → Nat) (sz : Nat) (h0 : Nat) (zs : (List Value)) (a1 : Int32) (v149 : Int32) (qf152 : Nat) (cf152 : ClassId) (f152 : (Nat → Int32)) (nf : Nat) (o152 : (Nat → Int32)) (hlen : zs.length = 155) (hf149 : zs[149]? = some (.int v149)) (hf152 : zs[152]? = some (.ref qf152)) (hsp : sp_tm_on nf a1 v149 f152 = some o152) : Met l yX13_on (.code yX13_on cX13_on 2 none :: VS_h5) ({ frames := 0, cells := 0, slots := 0, locals := 0 }) (va_Pc [.ref h0, .int a1] (fun U => U.heap.size = sz ∧ va_P (dC, dI) vwCl [(h0, .inr (13, zs)), (qf152, .inl (cf152, 60, .inl f152))] U.heap ∧ va_K (dC, dI) vwCl [(cf152, .int)] U ∧ va_D (fun _ => True) [(h0, .inr (13, zs)), (qf152, .inl (cf152, 60, .inl f152))])) (va_Qv (fun (u : (List Value)) => match u with | (zo1) => True ∧ zo1.length = 155 ∧ (∀ j : Nat, zo1[j]? = zs[j]?)) (fun (u : (List Value)) (t : State) => match u with | (zo1) => va_P (dC, dI) vwCl [(h0, .inr (13, zo1)), (qf152, .inl (cf152, 60, .inl o152))] t.heap ∧ va_K (dC, dI) vwCl [(cf152, .int)] t ∧ va_D (va_A [(h0, .inr (13, zs)), (qf152, .inl (cf152, 60, .inl f152))] sz) [(h0, .inr (13, zo1)), (qf152, .inl (cf152, 60, .inl o152))]) (va_A [(h0, .inr (13, zs)), (qf152, .inl (cf152, 60, .inl f152))] sz)) 0 0 (va_A [(h0, .inr (13, zs)), (qf152, .inl (cf152, 60, .inl f152))] sz) := by
  refine Met.ofW (cc := cX13_on) (maxL := 2) (ret := none) (by decide) rfl ?_
  intro p e s m args below meth c s₁ B hml hv
  obtain ⟨rfl, hsz, hP, hK, hD0⟩ := hv
  have hx := B.exec
  have hb := B.bytes
  have hr := B.returns
  have hts := atoms_spec (ws := (.code yX13_on cX13_on 2 none :: VS_h5)) B.pre
  replace hts := fun w (h : w ∈ VS_h5) => hts w (List.mem_cons_of_mem _ h)
  have hown : s.vm.findClass RX13 = some m.cls := findClass_of_methodNamed B.named
  have hlocks := B.notSynchronized
  subst hsz
  have hD := hD0.self (sz := s.heap.size)
  generalize hAe : va_A [(h0, .inr (13, zs)), (qf152, .inl (cf152, 60, .inl f152))] s.heap.size = A at hD  ⊢
  have hA : ∀ q : Nat, s.heap.size ≤ q → A q := fun q h => by rw [← hAe]; exact Or.inr h
  have hP : va_P (dC, dI) vwCl [(h0, .inr (13, zs)), (qf152, .inl (cf152, 60, .inl f152))] s.heap := hP
  have hl := lv_entry ([.ref h0, .int a1]) (n := 2) (Nat.le_of_ble_eq_true rfl)
  rw [lg_entry_eq]
  generalize (lg_sl ([.ref h0, .int a1]) ++ List.replicate (2 - (lg_sl ([.ref h0, .int a1])).length) Slot.unset).toArray = ls at hl ⊢
  have hl : lv_has ls 2 [(0, .ref h0), (1, .int a1)] := hl
  obtain ⟨H, hH⟩ : ∃ H : Heap, s.heap = H := ⟨_, rfl⟩
  rw [hH] at hP ⊢
  have hS : va_S A s.heap H [] := by rw [← hH]; exact va_S.rf
  obtain ⟨locs, hlo⟩ : ∃ locs : List Loc, locs = [] := ⟨_, rfl⟩
  rw [← hlo] at hS ⊢
  have hrs0 : ∀ j : Nat, zs[j]? = zs[j]? := fun _  => rfl
  unfold sp_tm_on at hsp
  refine lv_aload_n hx hb dX13_on_0 rfl (lv_at hl 0 rfl) ?_
  refine va_get (D := (dC, dI)) (ci := 13) (v := .ref qf152) (C := RX13) (T := TX13) (N := 155) hx hb hts uV_h5_X13 hown hK hP 0 rfl rfl 152 (by decide) (hts (.fieldLink RX13 300 "ClassMillModel" "runPlace" "[I") mw_h5_138) (fun _ h9 => h9) hf152 dX13_on_1 ?_
  refine lv_aload_n hx hb dX13_on_4 rfl (lv_at hl 0 rfl) ?_
  refine va_get (D := (dC, dI)) (ci := 13) (v := .int v149) (C := RX13) (T := TX13) (N := 155) hx hb hts uV_h5_X13 hown hK hP 0 rfl rfl 149 (by decide) (hts (.fieldLink RX13 1058 "ClassMillModel" "depth" "I") mw_h5_133) (fun _ h9 => h9) hf149 dX13_on_5 ?_
  refine lv_iconst (v := 1) hx hb dX13_on_8 (by decide) ?_
  refine lv_isub hx hb dX13_on_9 ?_
  refine lv_dup2_11 hx hb dX13_on_10 rfl rfl ?_
  obtain ⟨hi_1, hsp⟩ := ox_in hsp
  refine va_iald hx hb hK hP 1 0 rfl rfl (i := (v149 - 1)) hi_1 dX13_on_11 ?_
  refine lv_iload_n hx hb dX13_on_12 rfl (lv_at hl 1 rfl) ?_
  refine lv_iadd hx hb dX13_on_13 ?_
  obtain ⟨hi_2, hsp⟩ := ox_in hsp
  refine va_iast hx hb hK hP hD hS 1 0 rfl rfl (i := (v149 - 1)) (x := ((f152 ((v149 - 1) : Int32).toNatClampNeg) + a1)) hi_2 dX13_on_14 ?_
  clear hP hD hS
  intro H locs hP hD hS
  replace hP : va_P (dC, dI) vwCl [(h0, .inr (13, zs)), (qf152, .inl (cf152, 60, .inl (upd f152 ((v149 - 1) : Int32).toNatClampNeg ((f152 ((v149 - 1) : Int32).toNatClampNeg) + a1))))] H := hP
  replace hD : va_D A [(h0, .inr (13, zs)), (qf152, .inl (cf152, 60, .inl (upd f152 ((v149 - 1) : Int32).toNatClampNeg ((f152 ((v149 - 1) : Int32).toNatClampNeg) + a1))))] := hD
  have hr0 := Option.some.inj hsp
  clear hsp
  subst hr0
  have hP9 := hP.sub (ws' := [(h0, .inr (13, zs)), (qf152, .inl (cf152, 60, .inl (upd f152 ((v149 - 1) : Int32).toNatClampNeg ((f152 ((v149 - 1) : Int32).toNatClampNeg) + a1))))]) [0, 1] rfl
  have hD9 := hD.sub (ws' := [(h0, .inr (13, zs)), (qf152, .inl (cf152, 60, .inl (upd f152 ((v149 - 1) : Int32).toNatClampNeg ((f152 ((v149 - 1) : Int32).toNatClampNeg) + a1))))]) [0, 1] (by decide) rfl
  have hK9 := hK.sub (tys' := [(cf152, .int)]) [0] rfl
  exact W.vret hx hb hr (fun t ht hW => ⟨⟨(zs), rfl, ⟨trivial, hlen, hrs0⟩, by rw [ht]; exact hP9, va_K.moved hW.alike hK9, hD9⟩, hS.F ht⟩) hS.2.2 dX13_on_15
def sp_tm_cell (nf : Nat) (a1 : Int32) (v149 : Int32) (f154 : Nat → Int32) : Option (Int32) := (if ((60 * (v149 - 1)) + a1) < 0 then none else if 3600 ≤ (((60 * (v149 - 1)) + a1) : Int32).toNatClampNeg then none else (some (f154 (((60 * (v149 - 1)) + a1) : Int32).toNatClampNeg)))
set_option maxHeartbeats 4000000 in
set_option maxRecDepth 100000 in
/-- ClassMillModel.cell -/
theorem tm_cell (l : Launch) (dC : Nat → ClassId) (dI : Nat → Nat → Nat) (sz : Nat) (h0 : Nat) (zs : (List Value)) (a1 : Int32) (v149 : Int32) (qf154 : Nat) (cf154 : ClassId) (f154 : (Nat → Int32)) (nf : Nat) (r0 : Int32) (hlen : zs.length = 155) (hf149 : zs[149]? = some (.int v149)) (hf154 : zs[154]? = some (.ref qf154)) (hsp : sp_tm_cell nf a1 v149 f154 = some r0) : Met l yX13_cell (.code yX13_cell cX13_cell 2 (some .int) :: VS_h5) ({ frames := 0, cells := 0, slots := 0, locals := 0 }) (va_Pc [.ref h0, .int a1] (fun U => U.heap.size = sz ∧ va_P (dC, dI) vwCl [(h0, .inr (13, zs)), (qf154, .inl (cf154, 3600, .inl f154))] U.heap ∧ va_K (dC, dI) vwCl [(cf154, .int)] U ∧ va_D (fun _ => True) [(h0, .inr (13, zs)), (qf154, .inl (cf154, 3600, .inl f154))])) (va_Qi (fun (r : Int32) (u : (List Value)) => match u with | (zo1) => r0 = r ∧ zo1.length = 155 ∧ (∀ j : Nat, zo1[j]? = zs[j]?)) (fun (u : (List Value)) (t : State) => match u with | (zo1) => va_P (dC, dI) vwCl [(h0, .inr (13, zo1)), (qf154, .inl (cf154, 3600, .inl f154))] t.heap ∧ va_K (dC, dI) vwCl [(cf154, .int)] t ∧ va_D (va_A [(h0, .inr (13, zs)), (qf154, .inl (cf154, 3600, .inl f154))] sz) [(h0, .inr (13, zo1)), (qf154, .inl (cf154, 3600, .inl f154))]) (va_A [(h0, .inr (13, zs)), (qf154, .inl (cf154, 3600, .inl f154))] sz)) 0 0 (va_A [(h0, .inr (13, zs)), (qf154, .inl (cf154, 3600, .inl f154))] sz) := by
  refine Met.ofW (cc := cX13_cell) (maxL := 2) (ret := (some .int)) (by decide) rfl ?_
  intro p e s m args below meth c s₁ B hml hv
  obtain ⟨rfl, hsz, hP, hK, hD0⟩ := hv
  have hx := B.exec
  have hb := B.bytes
  have hr := B.returns
  have hts := atoms_spec (ws := (.code yX13_cell cX13_cell 2 (some .int) :: VS_h5)) B.pre
  replace hts := fun w (h : w ∈ VS_h5) => hts w (List.mem_cons_of_mem _ h)
  have hown : s.vm.findClass RX13 = some m.cls := findClass_of_methodNamed B.named
  have hlocks := B.notSynchronized
  subst hsz
  have hD := hD0.self (sz := s.heap.size)
  generalize hAe : va_A [(h0, .inr (13, zs)), (qf154, .inl (cf154, 3600, .inl f154))] s.heap.size = A at hD  ⊢
  have hA : ∀ q : Nat, s.heap.size ≤ q → A q := fun q h => by rw [← hAe]; exact Or.inr h
  have hP : va_P (dC, dI) vwCl [(h0, .inr (13, zs)), (qf154, .inl (cf154, 3600, .inl f154))] s.heap := hP
  have hl := lv_entry ([.ref h0, .int a1]) (n := 2) (Nat.le_of_ble_eq_true rfl)
  rw [lg_entry_eq]
  generalize (lg_sl ([.ref h0, .int a1]) ++ List.replicate (2 - (lg_sl ([.ref h0, .int a1])).length) Slot.unset).toArray = ls at hl ⊢
  have hl : lv_has ls 2 [(0, .ref h0), (1, .int a1)] := hl
  obtain ⟨H, hH⟩ : ∃ H : Heap, s.heap = H := ⟨_, rfl⟩
  rw [hH] at hP ⊢
  have hS : va_S A s.heap H [] := by rw [← hH]; exact va_S.rf
  obtain ⟨locs, hlo⟩ : ∃ locs : List Loc, locs = [] := ⟨_, rfl⟩
  rw [← hlo] at hS ⊢
  have hrs0 : ∀ j : Nat, zs[j]? = zs[j]? := fun _  => rfl
  unfold sp_tm_cell at hsp
  refine lv_aload_n hx hb dX13_cell_0 rfl (lv_at hl 0 rfl) ?_
  refine va_get (D := (dC, dI)) (ci := 13) (v := .ref qf154) (C := RX13) (T := TX13) (N := 155) hx hb hts uV_h5_X13 hown hK hP 0 rfl rfl 154 (by decide) (hts (.fieldLink RX13 306 "ClassMillModel" "cells" "[I") mw_h5_134) (fun _ h9 => h9) hf154 dX13_cell_1 ?_
  refine lv_bipush (v := 60) hx hb dX13_cell_4 (by decide) ?_
  refine lv_aload_n hx hb dX13_cell_6 rfl (lv_at hl 0 rfl) ?_
  refine va_get (D := (dC, dI)) (ci := 13) (v := .int v149) (C := RX13) (T := TX13) (N := 155) hx hb hts uV_h5_X13 hown hK hP 0 rfl rfl 149 (by decide) (hts (.fieldLink RX13 1058 "ClassMillModel" "depth" "I") mw_h5_133) (fun _ h9 => h9) hf149 dX13_cell_7 ?_
  refine lv_iconst (v := 1) hx hb dX13_cell_10 (by decide) ?_
  refine lv_isub hx hb dX13_cell_11 ?_
  refine lv_imul hx hb dX13_cell_12 ?_
  refine lv_iload_n hx hb dX13_cell_13 rfl (lv_at hl 1 rfl) ?_
  refine lv_iadd hx hb dX13_cell_14 ?_
  obtain ⟨hi_1, hsp⟩ := ox_in hsp
  refine va_iald hx hb hK hP 1 0 rfl rfl (i := ((60 * (v149 - 1)) + a1)) hi_1 dX13_cell_15 ?_
  have hr0 := Option.some.inj hsp
  clear hsp
  subst hr0
  have hP9 := hP.sub (ws' := [(h0, .inr (13, zs)), (qf154, .inl (cf154, 3600, .inl f154))]) [0, 1] rfl
  have hD9 := hD.sub (ws' := [(h0, .inr (13, zs)), (qf154, .inl (cf154, 3600, .inl f154))]) [0, 1] (by decide) rfl
  have hK9 := hK.sub (tys' := [(cf154, .int)]) [0] rfl
  exact W.iret hx hb hr (fun t ht hW => ⟨⟨((f154 (((60 * (v149 - 1)) + a1) : Int32).toNatClampNeg)), (zs), rfl, ⟨rfl, hlen, hrs0⟩, by rw [ht]; exact hP9, va_K.moved hW.alike hK9, hD9⟩, hS.F ht⟩) hS.2.2 dX13_cell_16
def sp_tm_memberPart (nf : Nat) (a1 : Int32) (a2 : Int32) (v149 : Int32) (f150 : Nat → Int32) (f102 : Nat → Int32) (f100 : Nat → Int32) : Option (Int32) := (if (v149 - 1) < 0 then none else if 60 ≤ ((v149 - 1) : Int32).toNatClampNeg then none else (if ((256 * ((f150 ((v149 - 1) : Int32).toNatClampNeg) - 8)) + a1) < 0 then none else if 2048 ≤ (((256 * ((f150 ((v149 - 1) : Int32).toNatClampNeg) - 8)) + a1) : Int32).toNatClampNeg then none else ((sp_tm_byteAt nf ((f150 ((v149 - 1) : Int32).toNatClampNeg) - 8) (((f102 (((256 * ((f150 ((v149 - 1) : Int32).toNatClampNeg) - 8)) + a1) : Int32).toNatClampNeg) + 1) + a2) f100).bind (fun p1 => (some p1)))))
set_option maxHeartbeats 4000000 in
set_option maxRecDepth 100000 in
/-- ClassMillModel.memberPart -/
theorem tm_memberPart (l : Launch) (dC : Nat → ClassId) (dI : Nat → Nat → Nat) (sz : Nat) (h0 : Nat) (zs : (List Value)) (a1 : Int32) (a2 : Int32) (qf100 : Nat) (qf102 : Nat) (v149 : Int32) (qf150 : Nat) (cf150 : ClassId) (f150 : (Nat → Int32)) (cf102 : ClassId) (f102 : (Nat → Int32)) (cf100 : ClassId) (f100 : (Nat → Int32)) (nf : Nat) (r0 : Int32) (hlen : zs.length = 155) (hf100 : zs[100]? = some (.ref qf100)) (hf102 : zs[102]? = some (.ref qf102)) (hf149 : zs[149]? = some (.int v149)) (hf150 : zs[150]? = some (.ref qf150)) (hsp : sp_tm_memberPart nf a1 a2 v149 f150 f102 f100 = some r0) : Met l yX13_memberPart (.code yX13_memberPart cX13_memberPart 4 (some .int) :: VS_h5) ({ frames := 1, cells := 0, slots := 0, locals := 22 }) (va_Pc [.ref h0, .int a1, .int a2] (fun U => U.heap.size = sz ∧ va_P (dC, dI) vwCl [(h0, .inr (13, zs)), (qf150, .inl (cf150, 60, .inl f150)), (qf102, .inl (cf102, 2048, .inl f102)), (qf100, .inl (cf100, 48000, .inl f100))] U.heap ∧ va_K (dC, dI) vwCl [(cf150, .int), (cf102, .int), (cf100, .int)] U ∧ va_D (fun _ => True) [(h0, .inr (13, zs)), (qf150, .inl (cf150, 60, .inl f150)), (qf102, .inl (cf102, 2048, .inl f102)), (qf100, .inl (cf100, 48000, .inl f100))])) (va_Qi (fun (r : Int32) (u : (List Value)) => match u with | (zo1) => r0 = r ∧ zo1.length = 155 ∧ (∀ j : Nat, zo1[j]? = zs[j]?)) (fun (u : (List Value)) (t : State) => match u with | (zo1) => va_P (dC, dI) vwCl [(h0, .inr (13, zo1)), (qf150, .inl (cf150, 60, .inl f150)), (qf102, .inl (cf102, 2048, .inl f102)), (qf100, .inl (cf100, 48000, .inl f100))] t.heap ∧ va_K (dC, dI) vwCl [(cf150, .int), (cf102, .int), (cf100, .int)] t ∧ va_D (va_A [(h0, .inr (13, zs)), (qf150, .inl (cf150, 60, .inl f150)), (qf102, .inl (cf102, 2048, .inl f102)), (qf100, .inl (cf100, 48000, .inl f100))] sz) [(h0, .inr (13, zo1)), (qf150, .inl (cf150, 60, .inl f150)), (qf102, .inl (cf102, 2048, .inl f102)), (qf100, .inl (cf100, 48000, .inl f100))]) (va_A [(h0, .inr (13, zs)), (qf150, .inl (cf150, 60, .inl f150)), (qf102, .inl (cf102, 2048, .inl f102)), (qf100, .inl (cf100, 48000, .inl f100))] sz)) 0 0 (va_A [(h0, .inr (13, zs)), (qf150, .inl (cf150, 60, .inl f150)), (qf102, .inl (cf102, 2048, .inl f102)), (qf100, .inl (cf100, 48000, .inl f100))] sz) := by
  refine Met.ofW (cc := cX13_memberPart) (maxL := 4) (ret := (some .int)) (by decide) rfl ?_
  intro p e s m args below meth c s₁ B hml hv
  obtain ⟨rfl, hsz, hP, hK, hD0⟩ := hv
  have hx := B.exec
  have hb := B.bytes
  have hr := B.returns
  have hts := atoms_spec (ws := (.code yX13_memberPart cX13_memberPart 4 (some .int) :: VS_h5)) B.pre
  replace hts := fun w (h : w ∈ VS_h5) => hts w (List.mem_cons_of_mem _ h)
  have hown : s.vm.findClass RX13 = some m.cls := findClass_of_methodNamed B.named
  have hlocks := B.notSynchronized
  subst hsz
  have hD := hD0.self (sz := s.heap.size)
  generalize hAe : va_A [(h0, .inr (13, zs)), (qf150, .inl (cf150, 60, .inl f150)), (qf102, .inl (cf102, 2048, .inl f102)), (qf100, .inl (cf100, 48000, .inl f100))] s.heap.size = A at hD  ⊢
  have hA : ∀ q : Nat, s.heap.size ≤ q → A q := fun q h => by rw [← hAe]; exact Or.inr h
  have hP : va_P (dC, dI) vwCl [(h0, .inr (13, zs)), (qf150, .inl (cf150, 60, .inl f150)), (qf102, .inl (cf102, 2048, .inl f102)), (qf100, .inl (cf100, 48000, .inl f100))] s.heap := hP
  have hl := lv_entry ([.ref h0, .int a1, .int a2]) (n := 4) (Nat.le_of_ble_eq_true rfl)
  rw [lg_entry_eq]
  generalize (lg_sl ([.ref h0, .int a1, .int a2]) ++ List.replicate (4 - (lg_sl ([.ref h0, .int a1, .int a2])).length) Slot.unset).toArray = ls at hl ⊢
  have hl : lv_has ls 4 [(0, .ref h0), (1, .int a1), (2, .int a2)] := hl
  obtain ⟨H, hH⟩ : ∃ H : Heap, s.heap = H := ⟨_, rfl⟩
  rw [hH] at hP ⊢
  have hS : va_S A s.heap H [] := by rw [← hH]; exact va_S.rf
  obtain ⟨locs, hlo⟩ : ∃ locs : List Loc, locs = [] := ⟨_, rfl⟩
  rw [← hlo] at hS ⊢
  have hrs0 : ∀ j : Nat, zs[j]? = zs[j]? := fun _  => rfl
  unfold sp_tm_memberPart at hsp
  refine lv_aload_n hx hb dX13_memberPart_0 rfl (lv_at hl 0 rfl) ?_
  refine va_get (D := (dC, dI)) (ci := 13) (v := .ref qf150) (C := RX13) (T := TX13) (N := 155) hx hb hts uV_h5_X13 hown hK hP 0 rfl rfl 150 (by decide) (hts (.fieldLink RX13 294 "ClassMillModel" "runClass" "[I") mw_h5_136) (fun _ h9 => h9) hf150 dX13_memberPart_1 ?_
  refine lv_aload_n hx hb dX13_memberPart_4 rfl (lv_at hl 0 rfl) ?_
  refine va_get (D := (dC, dI)) (ci := 13) (v := .int v149) (C := RX13) (T := TX13) (N := 155) hx hb hts uV_h5_X13 hown hK hP 0 rfl rfl 149 (by decide) (hts (.fieldLink RX13 1058 "ClassMillModel" "depth" "I") mw_h5_133) (fun _ h9 => h9) hf149 dX13_memberPart_5 ?_
  refine lv_iconst (v := 1) hx hb dX13_memberPart_8 (by decide) ?_
  refine lv_isub hx hb dX13_memberPart_9 ?_
  obtain ⟨hi_1, hsp⟩ := ox_in hsp
  refine va_iald hx hb hK hP 1 0 rfl rfl (i := (v149 - 1)) hi_1 dX13_memberPart_10 ?_
  refine lv_bipush (v := 8) hx hb dX13_memberPart_11 (by decide) ?_
  refine lv_isub hx hb dX13_memberPart_13 ?_
  refine lv_istore_n (lv' := [(3, .int ((f150 ((v149 - 1) : Int32).toNatClampNeg) - 8)), (0, .ref h0), (1, .int a1), (2, .int a2)]) hx hb dX13_memberPart_14 rfl hl (by decide) rfl (fun ls hl => ?_)
  refine lv_aload_n hx hb dX13_memberPart_15 rfl (lv_at hl 1 rfl) ?_
  refine lv_iload_n hx hb dX13_memberPart_16 rfl (lv_at hl 0 rfl) ?_
  refine lv_aload_n hx hb dX13_memberPart_17 rfl (lv_at hl 1 rfl) ?_
  refine va_get (D := (dC, dI)) (ci := 13) (v := .ref qf102) (C := RX13) (T := TX13) (N := 155) hx hb hts uV_h5_X13 hown hK hP 0 rfl rfl 102 (by decide) (hts (.fieldLink RX13 215 "ClassMillModel" "constantAt" "[I") mw_h5_88) (fun _ h9 => h9) hf102 dX13_memberPart_18 ?_
  refine lv_sipush (v := 256) hx hb dX13_memberPart_21 (by decide) ?_
  refine lv_iload_n hx hb dX13_memberPart_24 rfl (lv_at hl 0 rfl) ?_
  refine lv_imul hx hb dX13_memberPart_25 ?_
  refine lv_iload_n hx hb dX13_memberPart_26 rfl (lv_at hl 2 rfl) ?_
  refine lv_iadd hx hb dX13_memberPart_27 ?_
  obtain ⟨hi_2, hsp⟩ := ox_in hsp
  refine va_iald hx hb hK hP 2 1 rfl rfl (i := ((256 * ((f150 ((v149 - 1) : Int32).toNatClampNeg) - 8)) + a1)) hi_2 dX13_memberPart_28 ?_
  refine lv_iconst (v := 1) hx hb dX13_memberPart_29 (by decide) ?_
  refine lv_iadd hx hb dX13_memberPart_30 ?_
  refine lv_iload_n hx hb dX13_memberPart_31 rfl (lv_at hl 3 rfl) ?_
  refine lv_iadd hx hb dX13_memberPart_32 ?_
  obtain ⟨u1_0, hu_1, hsp⟩ := ox_bind hsp
  try dsimp only at hsp
  have hPc := hP.sub (ws' := [(h0, .inr (13, zs)), (qf100, .inl (cf100, 48000, .inl f100))]) [0, 3] rfl
  have hDc := hD.sub (ws' := [(h0, .inr (13, zs)), (qf100, .inl (cf100, 48000, .inl f100))]) [0, 3] (by decide) rfl
  have hKc := hK.sub (tys' := [(cf100, .int)]) [2] rfl
  have hFc := va_free (wc := [(h0, .inr (13, zs)), (qf100, .inl (cf100, 48000, .inl f100))]) hD hS hA [0, 3] rfl
  refine va_calli (va_runV (As := [.int ((f150 ((v149 - 1) : Int32).toNatClampNeg) - 8), .int (((f102 (((256 * ((f150 ((v149 - 1) : Int32).toNatClampNeg) - 8)) + a1) : Int32).toNatClampNeg) + 1) + a2)]) (rest := []) ⟨hx, hb, hml, hown, hts⟩ (tm_byteAt l dC dI H.size h0 zs (((f150 ((v149 - 1) : Int32).toNatClampNeg) - 8)) ((((f102 (((256 * ((f150 ((v149 - 1) : Int32).toNatClampNeg) - 8)) + a1) : Int32).toNatClampNeg) + 1) + a2)) qf100 cf100 f100 nf u1_0 hlen hf100 hu_1) (cwV 2 hts gv_h5_13 rfl rfl rfl (by decide +kernel) ⟨Nat.le_of_ble_eq_true rfl, Nat.le_of_ble_eq_true rfl⟩) ⟨fun a U g mk q => by obtain ⟨q0, q1, qP, qK, qD⟩ := q; exact ⟨q0, q1, qP, va_K.moved (u := U) (U := U.calling g mk a) (Vm.Alike.refl U.vm) qK, qD⟩, va_recv hKc hPc (ci := 13) (q0 := 0) rfl rfl, fun U hU hW => ⟨rfl, by rw [hU], by rw [hU]; exact hPc, va_K.moved hW.alike hKc, hDc.weaken (fun _ _ _ _ => trivial)⟩⟩ rfl rfl hl.1 rfl (lv_room (Nat.le_of_ble_eq_true rfl)) dX13_memberPart_33 ⟨Nat.le_of_ble_eq_true rfl, Nat.le_of_ble_eq_true rfl⟩) hS (fun q _ h => hFc q h) hFc ?_
  clear hS
  intro r_3 u t H1 locs ht hvm hw hB hz1 hk1 hS
  obtain ⟨z_1, rfl⟩ : ∃ z, z = u := ⟨_, rfl⟩
  obtain ⟨hP1, hK1, hD1⟩ := hB
  rw [ht] at hP1
  have hK1 := va_K.moved hvm.symm hK1
  try dsimp only at hw
  have hPD := va_join (wr := [(qf150, .inl (cf150, 60, .inl f150)), (qf102, .inl (cf102, 2048, .inl f102))]) (w1 := [(h0, .inr (13, z_1)), (qf100, .inl (cf100, 48000, .inl f100))]) hP hD [0, 3] [1, 2] rfl rfl (by decide) (by decide) hk1 hFc hP1 hD1
  clear hP hD
  obtain ⟨hP, hD⟩ := hPD
  replace hK := (hK.sub (tys' := [(cf150, .int), (cf102, .int)]) [0, 1] rfl).app hK1
  clear hPc hDc hKc hFc hP1 hK1 hD1 hz1 hk1 ht hvm
  generalize H1 = H at hP hS ⊢
  replace hP : va_P (dC, dI) vwCl [(qf150, .inl (cf150, 60, .inl f150)), (qf102, .inl (cf102, 2048, .inl f102)), (h0, .inr (13, z_1)), (qf100, .inl (cf100, 48000, .inl f100))] H := hP
  replace hD : va_D A [(qf150, .inl (cf150, 60, .inl f150)), (qf102, .inl (cf102, 2048, .inl f102)), (h0, .inr (13, z_1)), (qf100, .inl (cf100, 48000, .inl f100))] := hD
  replace hK : va_K (dC, dI) vwCl [(cf150, .int), (cf102, .int), (cf100, .int)] s := hK
  obtain ⟨hwa_1, hln_1, hre_1⟩ := hw
  have hfk_1_100 : z_1[100]? = some (.ref qf100) := (hre_1 100 ).trans (hf100)
  have hfk_1_102 : z_1[102]? = some (.ref qf102) := (hre_1 102 ).trans (hf102)
  have hfk_1_149 : z_1[149]? = some (.int v149) := (hre_1 149 ).trans (hf149)
  have hfk_1_150 : z_1[150]? = some (.ref qf150) := (hre_1 150 ).trans (hf150)
  have hrq_1 : ∀ j : Nat, z_1[j]? = zs[j]? := fun j  => (hre_1 j ).trans (hrs0 j )
  obtain rfl := hwa_1
  have hr0 := Option.some.inj hsp
  clear hsp
  subst hr0
  have hP9 := hP.sub (ws' := [(h0, .inr (13, z_1)), (qf150, .inl (cf150, 60, .inl f150)), (qf102, .inl (cf102, 2048, .inl f102)), (qf100, .inl (cf100, 48000, .inl f100))]) [2, 0, 1, 3] rfl
  have hD9 := hD.sub (ws' := [(h0, .inr (13, z_1)), (qf150, .inl (cf150, 60, .inl f150)), (qf102, .inl (cf102, 2048, .inl f102)), (qf100, .inl (cf100, 48000, .inl f100))]) [2, 0, 1, 3] (by decide) rfl
  have hK9 := hK.sub (tys' := [(cf150, .int), (cf102, .int), (cf100, .int)]) [0, 1, 2] rfl
  exact W.iret hx hb hr (fun t ht hW => ⟨⟨(u1_0), (z_1), rfl, ⟨rfl, hln_1, hrq_1⟩, by rw [ht]; exact hP9, va_K.moved hW.alike hK9, hD9⟩, hS.F ht⟩) hS.2.2 dX13_memberPart_36
def sp_tm_told (nf : Nat) (a1 : Int32) (f144 : Nat → Int32) : Option (Int32) := (if a1 < 0 then none else if 2001 ≤ (a1 : Int32).toNatClampNeg then none else (if (f144 (a1 : Int32).toNatClampNeg) = 99 then (some 200) else (if a1 < 0 then none else if 2001 ≤ (a1 : Int32).toNatClampNeg then none else (some (f144 (a1 : Int32).toNatClampNeg)))))
set_option maxHeartbeats 4000000 in
set_option maxRecDepth 100000 in
/-- ClassMillModel.told -/
theorem tm_told (l : Launch) (dC : Nat → ClassId) (dI : Nat → Nat → Nat) (sz : Nat) (h0 : Nat) (zs : (List Value)) (a1 : Int32) (qf144 : Nat) (cf144 : ClassId) (f144 : (Nat → Int32)) (nf : Nat) (r0 : Int32) (hlen : zs.length = 155) (hf144 : zs[144]? = some (.ref qf144)) (hsp : sp_tm_told nf a1 f144 = some r0) : Met l yX13_told (.code yX13_told cX13_told 2 (some .int) :: VS_h5) ({ frames := 0, cells := 0, slots := 0, locals := 0 }) (va_Pc [.ref h0, .int a1] (fun U => U.heap.size = sz ∧ va_P (dC, dI) vwCl [(h0, .inr (13, zs)), (qf144, .inl (cf144, 2001, .inl f144))] U.heap ∧ va_K (dC, dI) vwCl [(cf144, .int)] U ∧ va_D (fun _ => True) [(h0, .inr (13, zs)), (qf144, .inl (cf144, 2001, .inl f144))])) (va_Qi (fun (r : Int32) (u : (List Value)) => match u with | (zo1) => r0 = r ∧ zo1.length = 155 ∧ (∀ j : Nat, zo1[j]? = zs[j]?)) (fun (u : (List Value)) (t : State) => match u with | (zo1) => va_P (dC, dI) vwCl [(h0, .inr (13, zo1)), (qf144, .inl (cf144, 2001, .inl f144))] t.heap ∧ va_K (dC, dI) vwCl [(cf144, .int)] t ∧ va_D (va_A [(h0, .inr (13, zs)), (qf144, .inl (cf144, 2001, .inl f144))] sz) [(h0, .inr (13, zo1)), (qf144, .inl (cf144, 2001, .inl f144))]) (va_A [(h0, .inr (13, zs)), (qf144, .inl (cf144, 2001, .inl f144))] sz)) 0 0 (va_A [(h0, .inr (13, zs)), (qf144, .inl (cf144, 2001, .inl f144))] sz) := by
  refine Met.ofW (cc := cX13_told) (maxL := 2) (ret := (some .int)) (by decide) rfl ?_
  intro p e s m args below meth c s₁ B hml hv
  obtain ⟨rfl, hsz, hP, hK, hD0⟩ := hv
  have hx := B.exec
  have hb := B.bytes
  have hr := B.returns
  have hts := atoms_spec (ws := (.code yX13_told cX13_told 2 (some .int) :: VS_h5)) B.pre
  replace hts := fun w (h : w ∈ VS_h5) => hts w (List.mem_cons_of_mem _ h)
  have hown : s.vm.findClass RX13 = some m.cls := findClass_of_methodNamed B.named
  have hlocks := B.notSynchronized
  subst hsz
  have hD := hD0.self (sz := s.heap.size)
  generalize hAe : va_A [(h0, .inr (13, zs)), (qf144, .inl (cf144, 2001, .inl f144))] s.heap.size = A at hD  ⊢
  have hA : ∀ q : Nat, s.heap.size ≤ q → A q := fun q h => by rw [← hAe]; exact Or.inr h
  have hP : va_P (dC, dI) vwCl [(h0, .inr (13, zs)), (qf144, .inl (cf144, 2001, .inl f144))] s.heap := hP
  have hl := lv_entry ([.ref h0, .int a1]) (n := 2) (Nat.le_of_ble_eq_true rfl)
  rw [lg_entry_eq]
  generalize (lg_sl ([.ref h0, .int a1]) ++ List.replicate (2 - (lg_sl ([.ref h0, .int a1])).length) Slot.unset).toArray = ls at hl ⊢
  have hl : lv_has ls 2 [(0, .ref h0), (1, .int a1)] := hl
  obtain ⟨H, hH⟩ : ∃ H : Heap, s.heap = H := ⟨_, rfl⟩
  rw [hH] at hP ⊢
  have hS : va_S A s.heap H [] := by rw [← hH]; exact va_S.rf
  obtain ⟨locs, hlo⟩ : ∃ locs : List Loc, locs = [] := ⟨_, rfl⟩
  rw [← hlo] at hS ⊢
  have hrs0 : ∀ j : Nat, zs[j]? = zs[j]? := fun _  => rfl
  unfold sp_tm_told at hsp
  refine lv_aload_n hx hb dX13_told_0 rfl (lv_at hl 0 rfl) ?_
  refine va_get (D := (dC, dI)) (ci := 13) (v := .ref qf144) (C := RX13) (T := TX13) (N := 155) hx hb hts uV_h5_X13 hown hK hP 0 rfl rfl 144 (by decide) (hts (.fieldLink RX13 279 "ClassMillModel" "sort" "[I") mw_h5_139) (fun _ h9 => h9) hf144 dX13_told_1 ?_
  refine lv_iload_n hx hb dX13_told_4 rfl (lv_at hl 1 rfl) ?_
  obtain ⟨hi_1, hsp⟩ := ox_in hsp
  refine va_iald hx hb hK hP 1 0 rfl rfl (i := a1) hi_1 dX13_told_5 ?_
  refine lv_bipush (v := 99) hx hb dX13_told_6 (by decide) ?_
  refine lv_icmp_ne (tgt := 17) hx hb dX13_told_8 (by decide) (fun c_2 => ?_) (fun c_2 => ?_)
  · rw [if_neg c_2] at hsp
    refine lv_aload_n hx hb dX13_told_17 rfl (lv_at hl 0 rfl) ?_
    refine va_get (D := (dC, dI)) (ci := 13) (v := .ref qf144) (C := RX13) (T := TX13) (N := 155) hx hb hts uV_h5_X13 hown hK hP 0 rfl rfl 144 (by decide) (hts (.fieldLink RX13 279 "ClassMillModel" "sort" "[I") mw_h5_139) (fun _ h9 => h9) hf144 dX13_told_18 ?_
    refine lv_iload_n hx hb dX13_told_21 rfl (lv_at hl 1 rfl) ?_
    obtain ⟨hi_3, hsp⟩ := ox_in hsp
    refine va_iald hx hb hK hP 1 0 rfl rfl (i := a1) hi_3 dX13_told_22 ?_
    have hr0 := Option.some.inj hsp
    clear hsp
    subst hr0
    have hP9 := hP.sub (ws' := [(h0, .inr (13, zs)), (qf144, .inl (cf144, 2001, .inl f144))]) [0, 1] rfl
    have hD9 := hD.sub (ws' := [(h0, .inr (13, zs)), (qf144, .inl (cf144, 2001, .inl f144))]) [0, 1] (by decide) rfl
    have hK9 := hK.sub (tys' := [(cf144, .int)]) [0] rfl
    exact W.iret hx hb hr (fun t ht hW => ⟨⟨((f144 (a1 : Int32).toNatClampNeg)), (zs), rfl, ⟨rfl, hlen, hrs0⟩, by rw [ht]; exact hP9, va_K.moved hW.alike hK9, hD9⟩, hS.F ht⟩) hS.2.2 dX13_told_23
  · rw [if_pos c_2] at hsp
    refine lv_sipush (v := 200) hx hb dX13_told_11 (by decide) ?_
    refine lv_goto (tgt := 23) hx hb dX13_told_14 (by decide) ?_
    have hr0 := Option.some.inj hsp
    clear hsp
    subst hr0
    have hP9 := hP.sub (ws' := [(h0, .inr (13, zs)), (qf144, .inl (cf144, 2001, .inl f144))]) [0, 1] rfl
    have hD9 := hD.sub (ws' := [(h0, .inr (13, zs)), (qf144, .inl (cf144, 2001, .inl f144))]) [0, 1] (by decide) rfl
    have hK9 := hK.sub (tys' := [(cf144, .int)]) [0] rfl
    exact W.iret hx hb hr (fun t ht hW => ⟨⟨(200), (zs), rfl, ⟨rfl, hlen, hrs0⟩, by rw [ht]; exact hP9, va_K.moved hW.alike hK9, hD9⟩, hS.F ht⟩) hS.2.2 dX13_told_23
def sp_tm_out (nf : Nat) (a1 : Int32) (v138 : Int32) (v143 : Int32) (f148 : Nat → Int32) : Option (Int32) := (if v138 ≤ 0 then (some 0) else (if a1 < 0 then (some 0) else (if v143 ≤ a1 then (some 0) else (if 1000 ≤ a1 then (some 0) else (if a1 < 0 then none else if 1000 ≤ (a1 : Int32).toNatClampNeg then none else (some (f148 (a1 : Int32).toNatClampNeg)))))))
set_option maxHeartbeats 4000000 in
set_option maxRecDepth 100000 in
/-- ClassMillModel.out -/
theorem tm_out (l : Launch) (dC : Nat → ClassId) (dI : Nat → Nat → Nat) (sz : Nat) (h0 : Nat) (zs : (List Value)) (a1 : Int32) (v138 : Int32) (v143 : Int32) (qf148 : Nat) (cf148 : ClassId) (f148 : (Nat → Int32)) (nf : Nat) (r0 : Int32) (hlen : zs.length = 155) (hf138 : zs[138]? = some (.int v138)) (hf143 : zs[143]? = some (.int v143)) (hf148 : zs[148]? = some (.ref qf148)) (hsp : sp_tm_out nf a1 v138 v143 f148 = some r0) : Met l yX13_out (.code yX13_out cX13_out 2 (some .int) :: VS_h5) ({ frames := 0, cells := 0, slots := 0, locals := 0 }) (va_Pc [.ref h0, .int a1] (fun U => U.heap.size = sz ∧ va_P (dC, dI) vwCl [(h0, .inr (13, zs)), (qf148, .inl (cf148, 1000, .inl f148))] U.heap ∧ va_K (dC, dI) vwCl [(cf148, .int)] U ∧ va_D (fun _ => True) [(h0, .inr (13, zs)), (qf148, .inl (cf148, 1000, .inl f148))])) (va_Qi (fun (r : Int32) (u : (List Value)) => match u with | (zo1) => r0 = r ∧ zo1.length = 155 ∧ (∀ j : Nat, zo1[j]? = zs[j]?)) (fun (u : (List Value)) (t : State) => match u with | (zo1) => va_P (dC, dI) vwCl [(h0, .inr (13, zo1)), (qf148, .inl (cf148, 1000, .inl f148))] t.heap ∧ va_K (dC, dI) vwCl [(cf148, .int)] t ∧ va_D (va_A [(h0, .inr (13, zs)), (qf148, .inl (cf148, 1000, .inl f148))] sz) [(h0, .inr (13, zo1)), (qf148, .inl (cf148, 1000, .inl f148))]) (va_A [(h0, .inr (13, zs)), (qf148, .inl (cf148, 1000, .inl f148))] sz)) 0 0 (va_A [(h0, .inr (13, zs)), (qf148, .inl (cf148, 1000, .inl f148))] sz) := by
  refine Met.ofW (cc := cX13_out) (maxL := 2) (ret := (some .int)) (by decide) rfl ?_
  intro p e s m args below meth c s₁ B hml hv
  obtain ⟨rfl, hsz, hP, hK, hD0⟩ := hv
  have hx := B.exec
  have hb := B.bytes
  have hr := B.returns
  have hts := atoms_spec (ws := (.code yX13_out cX13_out 2 (some .int) :: VS_h5)) B.pre
  replace hts := fun w (h : w ∈ VS_h5) => hts w (List.mem_cons_of_mem _ h)
  have hown : s.vm.findClass RX13 = some m.cls := findClass_of_methodNamed B.named
  have hlocks := B.notSynchronized
  subst hsz
  have hD := hD0.self (sz := s.heap.size)
  generalize hAe : va_A [(h0, .inr (13, zs)), (qf148, .inl (cf148, 1000, .inl f148))] s.heap.size = A at hD  ⊢
  have hA : ∀ q : Nat, s.heap.size ≤ q → A q := fun q h => by rw [← hAe]; exact Or.inr h
  have hP : va_P (dC, dI) vwCl [(h0, .inr (13, zs)), (qf148, .inl (cf148, 1000, .inl f148))] s.heap := hP
  have hl := lv_entry ([.ref h0, .int a1]) (n := 2) (Nat.le_of_ble_eq_true rfl)
  rw [lg_entry_eq]
  generalize (lg_sl ([.ref h0, .int a1]) ++ List.replicate (2 - (lg_sl ([.ref h0, .int a1])).length) Slot.unset).toArray = ls at hl ⊢
  have hl : lv_has ls 2 [(0, .ref h0), (1, .int a1)] := hl
  obtain ⟨H, hH⟩ : ∃ H : Heap, s.heap = H := ⟨_, rfl⟩
  rw [hH] at hP ⊢
  have hS : va_S A s.heap H [] := by rw [← hH]; exact va_S.rf
  obtain ⟨locs, hlo⟩ : ∃ locs : List Loc, locs = [] := ⟨_, rfl⟩
  rw [← hlo] at hS ⊢
  have hrs0 : ∀ j : Nat, zs[j]? = zs[j]? := fun _  => rfl
  unfold sp_tm_out at hsp
  refine lv_aload_n hx hb dX13_out_0 rfl (lv_at hl 0 rfl) ?_
  refine va_get (D := (dC, dI)) (ci := 13) (v := .int v138) (C := RX13) (T := TX13) (N := 155) hx hb hts uV_h5_X13 hown hK hP 0 rfl rfl 138 (by decide) (hts (.fieldLink RX13 858 "ClassMillModel" "state" "I") mw_h5_103) (fun _ h9 => h9) hf138 dX13_out_1 ?_
  refine lv_if_le (tgt := 35) hx hb dX13_out_4 (by decide) (fun c_1 => ?_) (fun c_1 => ?_)
  · rw [if_pos c_1] at hsp
    refine lv_iconst (v := 0) hx hb dX13_out_35 (by decide) ?_
    have hr0 := Option.some.inj hsp
    clear hsp
    subst hr0
    have hP9 := hP.sub (ws' := [(h0, .inr (13, zs)), (qf148, .inl (cf148, 1000, .inl f148))]) [0, 1] rfl
    have hD9 := hD.sub (ws' := [(h0, .inr (13, zs)), (qf148, .inl (cf148, 1000, .inl f148))]) [0, 1] (by decide) rfl
    have hK9 := hK.sub (tys' := [(cf148, .int)]) [0] rfl
    exact W.iret hx hb hr (fun t ht hW => ⟨⟨(0), (zs), rfl, ⟨rfl, hlen, hrs0⟩, by rw [ht]; exact hP9, va_K.moved hW.alike hK9, hD9⟩, hS.F ht⟩) hS.2.2 dX13_out_36
  · rw [if_neg c_1] at hsp
    refine lv_iload_n hx hb dX13_out_7 rfl (lv_at hl 1 rfl) ?_
    refine lv_if_lt (tgt := 35) hx hb dX13_out_8 (by decide) (fun c_2 => ?_) (fun c_2 => ?_)
    · rw [if_pos c_2] at hsp
      refine lv_iconst (v := 0) hx hb dX13_out_35 (by decide) ?_
      have hr0 := Option.some.inj hsp
      clear hsp
      subst hr0
      have hP9 := hP.sub (ws' := [(h0, .inr (13, zs)), (qf148, .inl (cf148, 1000, .inl f148))]) [0, 1] rfl
      have hD9 := hD.sub (ws' := [(h0, .inr (13, zs)), (qf148, .inl (cf148, 1000, .inl f148))]) [0, 1] (by decide) rfl
      have hK9 := hK.sub (tys' := [(cf148, .int)]) [0] rfl
      exact W.iret hx hb hr (fun t ht hW => ⟨⟨(0), (zs), rfl, ⟨rfl, hlen, hrs0⟩, by rw [ht]; exact hP9, va_K.moved hW.alike hK9, hD9⟩, hS.F ht⟩) hS.2.2 dX13_out_36
    · rw [if_neg c_2] at hsp
      refine lv_iload_n hx hb dX13_out_11 rfl (lv_at hl 1 rfl) ?_
      refine lv_aload_n hx hb dX13_out_12 rfl (lv_at hl 0 rfl) ?_
      refine va_get (D := (dC, dI)) (ci := 13) (v := .int v143) (C := RX13) (T := TX13) (N := 155) hx hb hts uV_h5_X13 hown hK hP 0 rfl rfl 143 (by decide) (hts (.fieldLink RX13 1055 "ClassMillModel" "printedMany" "I") mw_h5_148) (fun _ h9 => h9) hf143 dX13_out_13 ?_
      refine lv_icmp_ge (tgt := 35) hx hb dX13_out_16 (by decide) (fun c_3 => ?_) (fun c_3 => ?_)
      · rw [if_pos c_3] at hsp
        refine lv_iconst (v := 0) hx hb dX13_out_35 (by decide) ?_
        have hr0 := Option.some.inj hsp
        clear hsp
        subst hr0
        have hP9 := hP.sub (ws' := [(h0, .inr (13, zs)), (qf148, .inl (cf148, 1000, .inl f148))]) [0, 1] rfl
        have hD9 := hD.sub (ws' := [(h0, .inr (13, zs)), (qf148, .inl (cf148, 1000, .inl f148))]) [0, 1] (by decide) rfl
        have hK9 := hK.sub (tys' := [(cf148, .int)]) [0] rfl
        exact W.iret hx hb hr (fun t ht hW => ⟨⟨(0), (zs), rfl, ⟨rfl, hlen, hrs0⟩, by rw [ht]; exact hP9, va_K.moved hW.alike hK9, hD9⟩, hS.F ht⟩) hS.2.2 dX13_out_36
      · rw [if_neg c_3] at hsp
        refine lv_iload_n hx hb dX13_out_19 rfl (lv_at hl 1 rfl) ?_
        refine lv_sipush (v := 1000) hx hb dX13_out_20 (by decide) ?_
        refine lv_icmp_ge (tgt := 35) hx hb dX13_out_23 (by decide) (fun c_4 => ?_) (fun c_4 => ?_)
        · rw [if_pos c_4] at hsp
          refine lv_iconst (v := 0) hx hb dX13_out_35 (by decide) ?_
          have hr0 := Option.some.inj hsp
          clear hsp
          subst hr0
          have hP9 := hP.sub (ws' := [(h0, .inr (13, zs)), (qf148, .inl (cf148, 1000, .inl f148))]) [0, 1] rfl
          have hD9 := hD.sub (ws' := [(h0, .inr (13, zs)), (qf148, .inl (cf148, 1000, .inl f148))]) [0, 1] (by decide) rfl
          have hK9 := hK.sub (tys' := [(cf148, .int)]) [0] rfl
          exact W.iret hx hb hr (fun t ht hW => ⟨⟨(0), (zs), rfl, ⟨rfl, hlen, hrs0⟩, by rw [ht]; exact hP9, va_K.moved hW.alike hK9, hD9⟩, hS.F ht⟩) hS.2.2 dX13_out_36
        · rw [if_neg c_4] at hsp
          refine lv_aload_n hx hb dX13_out_26 rfl (lv_at hl 0 rfl) ?_
          refine va_get (D := (dC, dI)) (ci := 13) (v := .ref qf148) (C := RX13) (T := TX13) (N := 155) hx hb hts uV_h5_X13 hown hK hP 0 rfl rfl 148 (by decide) (hts (.fieldLink RX13 291 "ClassMillModel" "printed" "[I") mw_h5_149) (fun _ h9 => h9) hf148 dX13_out_27 ?_
          refine lv_iload_n hx hb dX13_out_30 rfl (lv_at hl 1 rfl) ?_
          obtain ⟨hi_5, hsp⟩ := ox_in hsp
          refine va_iald hx hb hK hP 1 0 rfl rfl (i := a1) hi_5 dX13_out_31 ?_
          refine lv_goto (tgt := 36) hx hb dX13_out_32 (by decide) ?_
          have hr0 := Option.some.inj hsp
          clear hsp
          subst hr0
          have hP9 := hP.sub (ws' := [(h0, .inr (13, zs)), (qf148, .inl (cf148, 1000, .inl f148))]) [0, 1] rfl
          have hD9 := hD.sub (ws' := [(h0, .inr (13, zs)), (qf148, .inl (cf148, 1000, .inl f148))]) [0, 1] (by decide) rfl
          have hK9 := hK.sub (tys' := [(cf148, .int)]) [0] rfl
          exact W.iret hx hb hr (fun t ht hW => ⟨⟨((f148 (a1 : Int32).toNatClampNeg)), (zs), rfl, ⟨rfl, hlen, hrs0⟩, by rw [ht]; exact hP9, va_K.moved hW.alike hK9, hD9⟩, hS.F ht⟩) hS.2.2 dX13_out_36
