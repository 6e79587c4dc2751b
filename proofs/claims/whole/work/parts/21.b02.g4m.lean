set_option maxHeartbeats 4000000 in
set_option maxRecDepth 100000 in
/-- ClassMillModel.add -/
theorem vm_add (l : Launch) (dC : Nat → ClassId) (dI : Nat → Nat → Nat) (sz : Nat) (h0 : Nat) (zs : (List Value)) (a1 : Int32) (a2 : Int32) (a3 : Int32) (qf11 : Nat) (qf12 : Nat) (qf13 : Nat) (qf14 : Nat) (qf15 : Nat) (qf16 : Nat) (qf17 : Nat) (qf18 : Nat) (qf19 : Nat) (qf20 : Nat) (qf21 : Nat) (v22 : Int32) (cf11 : ClassId) (f11 : (Nat → Int32)) (cf12 : ClassId) (f12 : (Nat → Int32)) (cf13 : ClassId) (f13 : (Nat → Int32)) (cf14 : ClassId) (f14 : (Nat → Int32)) (cf15 : ClassId) (f15 : (Nat → Int32)) (cf16 : ClassId) (f16 : (Nat → Int32)) (cf17 : ClassId) (f17 : (Nat → Int32)) (cf18 : ClassId) (f18 : (Nat → Int32)) (cf19 : ClassId) (f19 : (Nat → Int32)) (cf20 : ClassId) (f20 : (Nat → Int32)) (cf21 : ClassId) (f21 : (Nat → Int32)) (nf : Nat) (r0 : Int32) (o11 : (Nat → Int32)) (o12 : (Nat → Int32)) (o13 : (Nat → Int32)) (o14 : (Nat → Int32)) (o15 : (Nat → Int32)) (o16 : (Nat → Int32)) (o17 : (Nat → Int32)) (o18 : (Nat → Int32)) (o19 : (Nat → Int32)) (o20 : (Nat → Int32)) (o21 : (Nat → Int32)) (w22 : Int32) (hlen : zs.length = 155) (hf11 : zs[11]? = some (.ref qf11)) (hf12 : zs[12]? = some (.ref qf12)) (hf13 : zs[13]? = some (.ref qf13)) (hf14 : zs[14]? = some (.ref qf14)) (hf15 : zs[15]? = some (.ref qf15)) (hf16 : zs[16]? = some (.ref qf16)) (hf17 : zs[17]? = some (.ref qf17)) (hf18 : zs[18]? = some (.ref qf18)) (hf19 : zs[19]? = some (.ref qf19)) (hf20 : zs[20]? = some (.ref qf20)) (hf21 : zs[21]? = some (.ref qf21)) (hf22 : zs[22]? = some (.int v22)) (hsp : sp_vm_add nf a1 a2 a3 v22 f11 f12 f13 f14 f15 f16 f17 f18 f19 f20 f21 = some (r0, o11, o12, o13, o14, o15, o16, o17, o18, o19, o20, o21, w22)) : Met l yX13_add (.code yX13_add cX13_add 4 (some .int) :: VS_h9) ({ frames := 0, cells := 0, slots := 0, locals := 0 }) (va_Pc [.ref h0, .int a1, .int a2, .int a3] (fun U => U.heap.size = sz ∧ va_P (dC, dI) vwCl [(h0, .inr (13, zs)), (qf11, .inl (cf11, 9000, .inl f11)), (qf12, .inl (cf12, 9000, .inl f12)), (qf13, .inl (cf13, 9000, .inl f13)), (qf14, .inl (cf14, 9000, .inl f14)), (qf15, .inl (cf15, 9000, .inl f15)), (qf16, .inl (cf16, 9000, .inl f16)), (qf17, .inl (cf17, 9000, .inl f17)), (qf18, .inl (cf18, 9000, .inl f18)), (qf19, .inl (cf19, 9000, .inl f19)), (qf20, .inl (cf20, 9000, .inl f20)), (qf21, .inl (cf21, 9000, .inl f21))] U.heap ∧ va_K (dC, dI) vwCl [(cf11, .int), (cf12, .int), (cf13, .int), (cf14, .int), (cf15, .int), (cf16, .int), (cf17, .int), (cf18, .int), (cf19, .int), (cf20, .int), (cf21, .boolean)] U ∧ va_D (fun _ => True) [(h0, .inr (13, zs)), (qf11, .inl (cf11, 9000, .inl f11)), (qf12, .inl (cf12, 9000, .inl f12)), (qf13, .inl (cf13, 9000, .inl f13)), (qf14, .inl (cf14, 9000, .inl f14)), (qf15, .inl (cf15, 9000, .inl f15)), (qf16, .inl (cf16, 9000, .inl f16)), (qf17, .inl (cf17, 9000, .inl f17)), (qf18, .inl (cf18, 9000, .inl f18)), (qf19, .inl (cf19, 9000, .inl f19)), (qf20, .inl (cf20, 9000, .inl f20)), (qf21, .inl (cf21, 9000, .inl f21))])) (va_Qi (fun (r : Int32) (u : (List Value)) => match u with | (zo1) => r0 = r ∧ zo1.length = 155 ∧ (∀ j : Nat, j ≠ 22 → zo1[j]? = zs[j]?) ∧ zo1[22]? = some (.int w22)) (fun (u : (List Value)) (t : State) => match u with | (zo1) => va_P (dC, dI) vwCl [(h0, .inr (13, zo1)), (qf11, .inl (cf11, 9000, .inl o11)), (qf12, .inl (cf12, 9000, .inl o12)), (qf13, .inl (cf13, 9000, .inl o13)), (qf14, .inl (cf14, 9000, .inl o14)), (qf15, .inl (cf15, 9000, .inl o15)), (qf16, .inl (cf16, 9000, .inl o16)), (qf17, .inl (cf17, 9000, .inl o17)), (qf18, .inl (cf18, 9000, .inl o18)), (qf19, .inl (cf19, 9000, .inl o19)), (qf20, .inl (cf20, 9000, .inl o20)), (qf21, .inl (cf21, 9000, .inl o21))] t.heap ∧ va_K (dC, dI) vwCl [(cf11, .int), (cf12, .int), (cf13, .int), (cf14, .int), (cf15, .int), (cf16, .int), (cf17, .int), (cf18, .int), (cf19, .int), (cf20, .int), (cf21, .boolean)] t ∧ va_D (va_A [(h0, .inr (13, zs)), (qf11, .inl (cf11, 9000, .inl f11)), (qf12, .inl (cf12, 9000, .inl f12)), (qf13, .inl (cf13, 9000, .inl f13)), (qf14, .inl (cf14, 9000, .inl f14)), (qf15, .inl (cf15, 9000, .inl f15)), (qf16, .inl (cf16, 9000, .inl f16)), (qf17, .inl (cf17, 9000, .inl f17)), (qf18, .inl (cf18, 9000, .inl f18)), (qf19, .inl (cf19, 9000, .inl f19)), (qf20, .inl (cf20, 9000, .inl f20)), (qf21, .inl (cf21, 9000, .inl f21))] sz) [(h0, .inr (13, zo1)), (qf11, .inl (cf11, 9000, .inl o11)), (qf12, .inl (cf12, 9000, .inl o12)), (qf13, .inl (cf13, 9000, .inl o13)), (qf14, .inl (cf14, 9000, .inl o14)), (qf15, .inl (cf15, 9000, .inl o15)), (qf16, .inl (cf16, 9000, .inl o16)), (qf17, .inl (cf17, 9000, .inl o17)), (qf18, .inl (cf18, 9000, .inl o18)), (qf19, .inl (cf19, 9000, .inl o19)), (qf20, .inl (cf20, 9000, .inl o20)), (qf21, .inl (cf21, 9000, .inl o21))]) (va_A [(h0, .inr (13, zs)), (qf11, .inl (cf11, 9000, .inl f11)), (qf12, .inl (cf12, 9000, .inl f12)), (qf13, .inl (cf13, 9000, .inl f13)), (qf14, .inl (cf14, 9000, .inl f14)), (qf15, .inl (cf15, 9000, .inl f15)), (qf16, .inl (cf16, 9000, .inl f16)), (qf17, .inl (cf17, 9000, .inl f17)), (qf18, .inl (cf18, 9000, .inl f18)), (qf19, .inl (cf19, 9000, .inl f19)), (qf20, .inl (cf20, 9000, .inl f20)), (qf21, .inl (cf21, 9000, .inl f21))] sz)) 0 0 (va_A [(h0, .inr (13, zs)), (qf11, .inl (cf11, 9000, .inl f11)), (qf12, .inl (cf12, 9000, .inl f12)), (qf13, .inl (cf13, 9000, .inl f13)), (qf14, .inl (cf14, 9000, .inl f14)), (qf15, .inl (cf15, 9000, .inl f15)), (qf16, .inl (cf16, 9000, .inl f16)), (qf17, .inl (cf17, 9000, .inl f17)), (qf18, .inl (cf18, 9000, .inl f18)), (qf19, .inl (cf19, 9000, .inl f19)), (qf20, .inl (cf20, 9000, .inl f20)), (qf21, .inl (cf21, 9000, .inl f21))] sz) := by
  refine Met.ofW (cc := cX13_add) (maxL := 4) (ret := (some .int)) (by decide) rfl ?_
  intro p e s m args below meth c s₁ B hml hv
  obtain ⟨rfl, hsz, hP, hK, hD0⟩ := hv
  have hx := B.exec
  have hb := B.bytes
  have hr := B.returns
  have hts := atoms_spec (ws := (.code yX13_add cX13_add 4 (some .int) :: VS_h9)) B.pre
  replace hts := fun w (h : w ∈ VS_h9) => hts w (List.mem_cons_of_mem _ h)
  have hown : s.vm.findClass RX13 = some m.cls := findClass_of_methodNamed B.named
  have hlocks := B.notSynchronized
  subst hsz
  have hD := hD0.self (sz := s.heap.size)
  generalize hAe : va_A [(h0, .inr (13, zs)), (qf11, .inl (cf11, 9000, .inl f11)), (qf12, .inl (cf12, 9000, .inl f12)), (qf13, .inl (cf13, 9000, .inl f13)), (qf14, .inl (cf14, 9000, .inl f14)), (qf15, .inl (cf15, 9000, .inl f15)), (qf16, .inl (cf16, 9000, .inl f16)), (qf17, .inl (cf17, 9000, .inl f17)), (qf18, .inl (cf18, 9000, .inl f18)), (qf19, .inl (cf19, 9000, .inl f19)), (qf20, .inl (cf20, 9000, .inl f20)), (qf21, .inl (cf21, 9000, .inl f21))] s.heap.size = A at hD  ⊢
  have hA : ∀ q : Nat, s.heap.size ≤ q → A q := fun q h => by rw [← hAe]; exact Or.inr h
  have hP : va_P (dC, dI) vwCl [(h0, .inr (13, zs)), (qf11, .inl (cf11, 9000, .inl f11)), (qf12, .inl (cf12, 9000, .inl f12)), (qf13, .inl (cf13, 9000, .inl f13)), (qf14, .inl (cf14, 9000, .inl f14)), (qf15, .inl (cf15, 9000, .inl f15)), (qf16, .inl (cf16, 9000, .inl f16)), (qf17, .inl (cf17, 9000, .inl f17)), (qf18, .inl (cf18, 9000, .inl f18)), (qf19, .inl (cf19, 9000, .inl f19)), (qf20, .inl (cf20, 9000, .inl f20)), (qf21, .inl (cf21, 9000, .inl f21))] s.heap := hP
  have hl := lv_entry ([.ref h0, .int a1, .int a2, .int a3]) (n := 4) (Nat.le_of_ble_eq_true rfl)
  rw [lg_entry_eq]
  generalize (lg_sl ([.ref h0, .int a1, .int a2, .int a3]) ++ List.replicate (4 - (lg_sl ([.ref h0, .int a1, .int a2, .int a3])).length) Slot.unset).toArray = ls at hl ⊢
  have hl : lv_has ls 4 [(0, .ref h0), (1, .int a1), (2, .int a2), (3, .int a3)] := hl
  obtain ⟨H, hH⟩ : ∃ H : Heap, s.heap = H := ⟨_, rfl⟩
  rw [hH] at hP ⊢
  have hS : va_S A s.heap H [] := by rw [← hH]; exact va_S.rf
  obtain ⟨locs, hlo⟩ : ∃ locs : List Loc, locs = [] := ⟨_, rfl⟩
  rw [← hlo] at hS ⊢
  have hrs0 : ∀ j : Nat, j ≠ 22 → zs[j]? = zs[j]? := fun _ _  => rfl
  unfold sp_vm_add at hsp
  refine lv_aload_n hx hb dX13_add_0 rfl (lv_at hl 0 rfl) ?_
  refine va_get (D := (dC, dI)) (ci := 13) (v := .ref qf11) (C := RX13) (T := TX13) (N := 155) hx hb hts uV_h9_X13 hown hK hP 0 rfl rfl 11 (by decide) (hts (.fieldLink RX13 28 "ClassMillModel" "node" "[I") mw_h9_38) (fun _ h9 => h9) hf11 dX13_add_1 ?_
  refine lv_aload_n hx hb dX13_add_4 rfl (lv_at hl 0 rfl) ?_
  refine va_get (D := (dC, dI)) (ci := 13) (v := .int v22) (C := RX13) (T := TX13) (N := 155) hx hb hts uV_h9_X13 hown hK hP 0 rfl rfl 22 (by decide) (hts (.fieldLink RX13 373 "ClassMillModel" "nodes" "I") mw_h9_39) (fun _ h9 => h9) hf22 dX13_add_5 ?_
  refine lv_iload_n hx hb dX13_add_8 rfl (lv_at hl 1 rfl) ?_
  obtain ⟨hi_1, hsp⟩ := ox_in hsp
  refine va_iast hx hb hK hP hD hS 1 0 rfl rfl (i := v22) (x := a1) hi_1 dX13_add_9 ?_
  clear hP hD hS
  intro H locs hP hD hS
  replace hP : va_P (dC, dI) vwCl [(h0, .inr (13, zs)), (qf11, .inl (cf11, 9000, .inl (upd f11 (v22 : Int32).toNatClampNeg a1))), (qf12, .inl (cf12, 9000, .inl f12)), (qf13, .inl (cf13, 9000, .inl f13)), (qf14, .inl (cf14, 9000, .inl f14)), (qf15, .inl (cf15, 9000, .inl f15)), (qf16, .inl (cf16, 9000, .inl f16)), (qf17, .inl (cf17, 9000, .inl f17)), (qf18, .inl (cf18, 9000, .inl f18)), (qf19, .inl (cf19, 9000, .inl f19)), (qf20, .inl (cf20, 9000, .inl f20)), (qf21, .inl (cf21, 9000, .inl f21))] H := hP
  replace hD : va_D A [(h0, .inr (13, zs)), (qf11, .inl (cf11, 9000, .inl (upd f11 (v22 : Int32).toNatClampNeg a1))), (qf12, .inl (cf12, 9000, .inl f12)), (qf13, .inl (cf13, 9000, .inl f13)), (qf14, .inl (cf14, 9000, .inl f14)), (qf15, .inl (cf15, 9000, .inl f15)), (qf16, .inl (cf16, 9000, .inl f16)), (qf17, .inl (cf17, 9000, .inl f17)), (qf18, .inl (cf18, 9000, .inl f18)), (qf19, .inl (cf19, 9000, .inl f19)), (qf20, .inl (cf20, 9000, .inl f20)), (qf21, .inl (cf21, 9000, .inl f21))] := hD
  refine lv_aload_n hx hb dX13_add_10 rfl (lv_at hl 0 rfl) ?_
  refine va_get (D := (dC, dI)) (ci := 13) (v := .ref qf12) (C := RX13) (T := TX13) (N := 155) hx hb hts uV_h9_X13 hown hK hP 0 rfl rfl 12 (by decide) (hts (.fieldLink RX13 31 "ClassMillModel" "tok" "[I") mw_h9_40) (fun _ h9 => h9) hf12 dX13_add_11 ?_
  refine lv_aload_n hx hb dX13_add_14 rfl (lv_at hl 0 rfl) ?_
  refine va_get (D := (dC, dI)) (ci := 13) (v := .int v22) (C := RX13) (T := TX13) (N := 155) hx hb hts uV_h9_X13 hown hK hP 0 rfl rfl 22 (by decide) (hts (.fieldLink RX13 373 "ClassMillModel" "nodes" "I") mw_h9_39) (fun _ h9 => h9) hf22 dX13_add_15 ?_
  refine lv_iload_n hx hb dX13_add_18 rfl (lv_at hl 2 rfl) ?_
  obtain ⟨hi_2, hsp⟩ := ox_in hsp
  refine va_iast hx hb hK hP hD hS 2 1 rfl rfl (i := v22) (x := a2) hi_2 dX13_add_19 ?_
  clear hP hD hS
  intro H locs hP hD hS
  replace hP : va_P (dC, dI) vwCl [(h0, .inr (13, zs)), (qf11, .inl (cf11, 9000, .inl (upd f11 (v22 : Int32).toNatClampNeg a1))), (qf12, .inl (cf12, 9000, .inl (upd f12 (v22 : Int32).toNatClampNeg a2))), (qf13, .inl (cf13, 9000, .inl f13)), (qf14, .inl (cf14, 9000, .inl f14)), (qf15, .inl (cf15, 9000, .inl f15)), (qf16, .inl (cf16, 9000, .inl f16)), (qf17, .inl (cf17, 9000, .inl f17)), (qf18, .inl (cf18, 9000, .inl f18)), (qf19, .inl (cf19, 9000, .inl f19)), (qf20, .inl (cf20, 9000, .inl f20)), (qf21, .inl (cf21, 9000, .inl f21))] H := hP
  replace hD : va_D A [(h0, .inr (13, zs)), (qf11, .inl (cf11, 9000, .inl (upd f11 (v22 : Int32).toNatClampNeg a1))), (qf12, .inl (cf12, 9000, .inl (upd f12 (v22 : Int32).toNatClampNeg a2))), (qf13, .inl (cf13, 9000, .inl f13)), (qf14, .inl (cf14, 9000, .inl f14)), (qf15, .inl (cf15, 9000, .inl f15)), (qf16, .inl (cf16, 9000, .inl f16)), (qf17, .inl (cf17, 9000, .inl f17)), (qf18, .inl (cf18, 9000, .inl f18)), (qf19, .inl (cf19, 9000, .inl f19)), (qf20, .inl (cf20, 9000, .inl f20)), (qf21, .inl (cf21, 9000, .inl f21))] := hD
  refine lv_aload_n hx hb dX13_add_20 rfl (lv_at hl 0 rfl) ?_
  refine va_get (D := (dC, dI)) (ci := 13) (v := .ref qf13) (C := RX13) (T := TX13) (N := 155) hx hb hts uV_h9_X13 hown hK hP 0 rfl rfl 13 (by decide) (hts (.fieldLink RX13 34 "ClassMillModel" "begun" "[I") mw_h9_41) (fun _ h9 => h9) hf13 dX13_add_21 ?_
  refine lv_aload_n hx hb dX13_add_24 rfl (lv_at hl 0 rfl) ?_
  refine va_get (D := (dC, dI)) (ci := 13) (v := .int v22) (C := RX13) (T := TX13) (N := 155) hx hb hts uV_h9_X13 hown hK hP 0 rfl rfl 22 (by decide) (hts (.fieldLink RX13 373 "ClassMillModel" "nodes" "I") mw_h9_39) (fun _ h9 => h9) hf22 dX13_add_25 ?_
  refine lv_iload_n hx hb dX13_add_28 rfl (lv_at hl 3 rfl) ?_
  obtain ⟨hi_3, hsp⟩ := ox_in hsp
  refine va_iast hx hb hK hP hD hS 3 2 rfl rfl (i := v22) (x := a3) hi_3 dX13_add_29 ?_
  clear hP hD hS
  intro H locs hP hD hS
  replace hP : va_P (dC, dI) vwCl [(h0, .inr (13, zs)), (qf11, .inl (cf11, 9000, .inl (upd f11 (v22 : Int32).toNatClampNeg a1))), (qf12, .inl (cf12, 9000, .inl (upd f12 (v22 : Int32).toNatClampNeg a2))), (qf13, .inl (cf13, 9000, .inl (upd f13 (v22 : Int32).toNatClampNeg a3))), (qf14, .inl (cf14, 9000, .inl f14)), (qf15, .inl (cf15, 9000, .inl f15)), (qf16, .inl (cf16, 9000, .inl f16)), (qf17, .inl (cf17, 9000, .inl f17)), (qf18, .inl (cf18, 9000, .inl f18)), (qf19, .inl (cf19, 9000, .inl f19)), (qf20, .inl (cf20, 9000, .inl f20)), (qf21, .inl (cf21, 9000, .inl f21))] H := hP
  replace hD : va_D A [(h0, .inr (13, zs)), (qf11, .inl (cf11, 9000, .inl (upd f11 (v22 : Int32).toNatClampNeg a1))), (qf12, .inl (cf12, 9000, .inl (upd f12 (v22 : Int32).toNatClampNeg a2))), (qf13, .inl (cf13, 9000, .inl (upd f13 (v22 : Int32).toNatClampNeg a3))), (qf14, .inl (cf14, 9000, .inl f14)), (qf15, .inl (cf15, 9000, .inl f15)), (qf16, .inl (cf16, 9000, .inl f16)), (qf17, .inl (cf17, 9000, .inl f17)), (qf18, .inl (cf18, 9000, .inl f18)), (qf19, .inl (cf19, 9000, .inl f19)), (qf20, .inl (cf20, 9000, .inl f20)), (qf21, .inl (cf21, 9000, .inl f21))] := hD
  refine lv_aload_n hx hb dX13_add_30 rfl (lv_at hl 0 rfl) ?_
  refine va_get (D := (dC, dI)) (ci := 13) (v := .ref qf14) (C := RX13) (T := TX13) (N := 155) hx hb hts uV_h9_X13 hown hK hP 0 rfl rfl 14 (by decide) (hts (.fieldLink RX13 37 "ClassMillModel" "one" "[I") mw_h9_42) (fun _ h9 => h9) hf14 dX13_add_31 ?_
  refine lv_aload_n hx hb dX13_add_34 rfl (lv_at hl 0 rfl) ?_
  refine va_get (D := (dC, dI)) (ci := 13) (v := .int v22) (C := RX13) (T := TX13) (N := 155) hx hb hts uV_h9_X13 hown hK hP 0 rfl rfl 22 (by decide) (hts (.fieldLink RX13 373 "ClassMillModel" "nodes" "I") mw_h9_39) (fun _ h9 => h9) hf22 dX13_add_35 ?_
  refine lv_iconst (v := (-1)) hx hb dX13_add_38 (by decide) ?_
  obtain ⟨hi_4, hsp⟩ := ox_in hsp
  refine va_iast hx hb hK hP hD hS 4 3 rfl rfl (i := v22) (x := (-1)) hi_4 dX13_add_39 ?_
  clear hP hD hS
  intro H locs hP hD hS
  replace hP : va_P (dC, dI) vwCl [(h0, .inr (13, zs)), (qf11, .inl (cf11, 9000, .inl (upd f11 (v22 : Int32).toNatClampNeg a1))), (qf12, .inl (cf12, 9000, .inl (upd f12 (v22 : Int32).toNatClampNeg a2))), (qf13, .inl (cf13, 9000, .inl (upd f13 (v22 : Int32).toNatClampNeg a3))), (qf14, .inl (cf14, 9000, .inl (upd f14 (v22 : Int32).toNatClampNeg (-1)))), (qf15, .inl (cf15, 9000, .inl f15)), (qf16, .inl (cf16, 9000, .inl f16)), (qf17, .inl (cf17, 9000, .inl f17)), (qf18, .inl (cf18, 9000, .inl f18)), (qf19, .inl (cf19, 9000, .inl f19)), (qf20, .inl (cf20, 9000, .inl f20)), (qf21, .inl (cf21, 9000, .inl f21))] H := hP
  replace hD : va_D A [(h0, .inr (13, zs)), (qf11, .inl (cf11, 9000, .inl (upd f11 (v22 : Int32).toNatClampNeg a1))), (qf12, .inl (cf12, 9000, .inl (upd f12 (v22 : Int32).toNatClampNeg a2))), (qf13, .inl (cf13, 9000, .inl (upd f13 (v22 : Int32).toNatClampNeg a3))), (qf14, .inl (cf14, 9000, .inl (upd f14 (v22 : Int32).toNatClampNeg (-1)))), (qf15, .inl (cf15, 9000, .inl f15)), (qf16, .inl (cf16, 9000, .inl f16)), (qf17, .inl (cf17, 9000, .inl f17)), (qf18, .inl (cf18, 9000, .inl f18)), (qf19, .inl (cf19, 9000, .inl f19)), (qf20, .inl (cf20, 9000, .inl f20)), (qf21, .inl (cf21, 9000, .inl f21))] := hD
  refine lv_aload_n hx hb dX13_add_40 rfl (lv_at hl 0 rfl) ?_
  refine va_get (D := (dC, dI)) (ci := 13) (v := .ref qf15) (C := RX13) (T := TX13) (N := 155) hx hb hts uV_h9_X13 hown hK hP 0 rfl rfl 15 (by decide) (hts (.fieldLink RX13 40 "ClassMillModel" "two" "[I") mw_h9_43) (fun _ h9 => h9) hf15 dX13_add_41 ?_
  refine lv_aload_n hx hb dX13_add_44 rfl (lv_at hl 0 rfl) ?_
  refine va_get (D := (dC, dI)) (ci := 13) (v := .int v22) (C := RX13) (T := TX13) (N := 155) hx hb hts uV_h9_X13 hown hK hP 0 rfl rfl 22 (by decide) (hts (.fieldLink RX13 373 "ClassMillModel" "nodes" "I") mw_h9_39) (fun _ h9 => h9) hf22 dX13_add_45 ?_
  refine lv_iconst (v := (-1)) hx hb dX13_add_48 (by decide) ?_
  obtain ⟨hi_5, hsp⟩ := ox_in hsp
  refine va_iast hx hb hK hP hD hS 5 4 rfl rfl (i := v22) (x := (-1)) hi_5 dX13_add_49 ?_
  clear hP hD hS
  intro H locs hP hD hS
  replace hP : va_P (dC, dI) vwCl [(h0, .inr (13, zs)), (qf11, .inl (cf11, 9000, .inl (upd f11 (v22 : Int32).toNatClampNeg a1))), (qf12, .inl (cf12, 9000, .inl (upd f12 (v22 : Int32).toNatClampNeg a2))), (qf13, .inl (cf13, 9000, .inl (upd f13 (v22 : Int32).toNatClampNeg a3))), (qf14, .inl (cf14, 9000, .inl (upd f14 (v22 : Int32).toNatClampNeg (-1)))), (qf15, .inl (cf15, 9000, .inl (upd f15 (v22 : Int32).toNatClampNeg (-1)))), (qf16, .inl (cf16, 9000, .inl f16)), (qf17, .inl (cf17, 9000, .inl f17)), (qf18, .inl (cf18, 9000, .inl f18)), (qf19, .inl (cf19, 9000, .inl f19)), (qf20, .inl (cf20, 9000, .inl f20)), (qf21, .inl (cf21, 9000, .inl f21))] H := hP
  replace hD : va_D A [(h0, .inr (13, zs)), (qf11, .inl (cf11, 9000, .inl (upd f11 (v22 : Int32).toNatClampNeg a1))), (qf12, .inl (cf12, 9000, .inl (upd f12 (v22 : Int32).toNatClampNeg a2))), (qf13, .inl (cf13, 9000, .inl (upd f13 (v22 : Int32).toNatClampNeg a3))), (qf14, .inl (cf14, 9000, .inl (upd f14 (v22 : Int32).toNatClampNeg (-1)))), (qf15, .inl (cf15, 9000, .inl (upd f15 (v22 : Int32).toNatClampNeg (-1)))), (qf16, .inl (cf16, 9000, .inl f16)), (qf17, .inl (cf17, 9000, .inl f17)), (qf18, .inl (cf18, 9000, .inl f18)), (qf19, .inl (cf19, 9000, .inl f19)), (qf20, .inl (cf20, 9000, .inl f20)), (qf21, .inl (cf21, 9000, .inl f21))] := hD
  refine lv_aload_n hx hb dX13_add_50 rfl (lv_at hl 0 rfl) ?_
  refine va_get (D := (dC, dI)) (ci := 13) (v := .ref qf16) (C := RX13) (T := TX13) (N := 155) hx hb hts uV_h9_X13 hown hK hP 0 rfl rfl 16 (by decide) (hts (.fieldLink RX13 43 "ClassMillModel" "three" "[I") mw_h9_44) (fun _ h9 => h9) hf16 dX13_add_51 ?_
  refine lv_aload_n hx hb dX13_add_54 rfl (lv_at hl 0 rfl) ?_
  refine va_get (D := (dC, dI)) (ci := 13) (v := .int v22) (C := RX13) (T := TX13) (N := 155) hx hb hts uV_h9_X13 hown hK hP 0 rfl rfl 22 (by decide) (hts (.fieldLink RX13 373 "ClassMillModel" "nodes" "I") mw_h9_39) (fun _ h9 => h9) hf22 dX13_add_55 ?_
  refine lv_iconst (v := (-1)) hx hb dX13_add_58 (by decide) ?_
  obtain ⟨hi_6, hsp⟩ := ox_in hsp
  refine va_iast hx hb hK hP hD hS 6 5 rfl rfl (i := v22) (x := (-1)) hi_6 dX13_add_59 ?_
  clear hP hD hS
  intro H locs hP hD hS
  replace hP : va_P (dC, dI) vwCl [(h0, .inr (13, zs)), (qf11, .inl (cf11, 9000, .inl (upd f11 (v22 : Int32).toNatClampNeg a1))), (qf12, .inl (cf12, 9000, .inl (upd f12 (v22 : Int32).toNatClampNeg a2))), (qf13, .inl (cf13, 9000, .inl (upd f13 (v22 : Int32).toNatClampNeg a3))), (qf14, .inl (cf14, 9000, .inl (upd f14 (v22 : Int32).toNatClampNeg (-1)))), (qf15, .inl (cf15, 9000, .inl (upd f15 (v22 : Int32).toNatClampNeg (-1)))), (qf16, .inl (cf16, 9000, .inl (upd f16 (v22 : Int32).toNatClampNeg (-1)))), (qf17, .inl (cf17, 9000, .inl f17)), (qf18, .inl (cf18, 9000, .inl f18)), (qf19, .inl (cf19, 9000, .inl f19)), (qf20, .inl (cf20, 9000, .inl f20)), (qf21, .inl (cf21, 9000, .inl f21))] H := hP
  replace hD : va_D A [(h0, .inr (13, zs)), (qf11, .inl (cf11, 9000, .inl (upd f11 (v22 : Int32).toNatClampNeg a1))), (qf12, .inl (cf12, 9000, .inl (upd f12 (v22 : Int32).toNatClampNeg a2))), (qf13, .inl (cf13, 9000, .inl (upd f13 (v22 : Int32).toNatClampNeg a3))), (qf14, .inl (cf14, 9000, .inl (upd f14 (v22 : Int32).toNatClampNeg (-1)))), (qf15, .inl (cf15, 9000, .inl (upd f15 (v22 : Int32).toNatClampNeg (-1)))), (qf16, .inl (cf16, 9000, .inl (upd f16 (v22 : Int32).toNatClampNeg (-1)))), (qf17, .inl (cf17, 9000, .inl f17)), (qf18, .inl (cf18, 9000, .inl f18)), (qf19, .inl (cf19, 9000, .inl f19)), (qf20, .inl (cf20, 9000, .inl f20)), (qf21, .inl (cf21, 9000, .inl f21))] := hD
  refine lv_aload_n hx hb dX13_add_60 rfl (lv_at hl 0 rfl) ?_
  refine va_get (D := (dC, dI)) (ci := 13) (v := .ref qf17) (C := RX13) (T := TX13) (N := 155) hx hb hts uV_h9_X13 hown hK hP 0 rfl rfl 17 (by decide) (hts (.fieldLink RX13 46 "ClassMillModel" "next" "[I") mw_h9_45) (fun _ h9 => h9) hf17 dX13_add_61 ?_
  refine lv_aload_n hx hb dX13_add_64 rfl (lv_at hl 0 rfl) ?_
  refine va_get (D := (dC, dI)) (ci := 13) (v := .int v22) (C := RX13) (T := TX13) (N := 155) hx hb hts uV_h9_X13 hown hK hP 0 rfl rfl 22 (by decide) (hts (.fieldLink RX13 373 "ClassMillModel" "nodes" "I") mw_h9_39) (fun _ h9 => h9) hf22 dX13_add_65 ?_
  refine lv_iconst (v := (-1)) hx hb dX13_add_68 (by decide) ?_
  obtain ⟨hi_7, hsp⟩ := ox_in hsp
  refine va_iast hx hb hK hP hD hS 7 6 rfl rfl (i := v22) (x := (-1)) hi_7 dX13_add_69 ?_
  clear hP hD hS
  intro H locs hP hD hS
  replace hP : va_P (dC, dI) vwCl [(h0, .inr (13, zs)), (qf11, .inl (cf11, 9000, .inl (upd f11 (v22 : Int32).toNatClampNeg a1))), (qf12, .inl (cf12, 9000, .inl (upd f12 (v22 : Int32).toNatClampNeg a2))), (qf13, .inl (cf13, 9000, .inl (upd f13 (v22 : Int32).toNatClampNeg a3))), (qf14, .inl (cf14, 9000, .inl (upd f14 (v22 : Int32).toNatClampNeg (-1)))), (qf15, .inl (cf15, 9000, .inl (upd f15 (v22 : Int32).toNatClampNeg (-1)))), (qf16, .inl (cf16, 9000, .inl (upd f16 (v22 : Int32).toNatClampNeg (-1)))), (qf17, .inl (cf17, 9000, .inl (upd f17 (v22 : Int32).toNatClampNeg (-1)))), (qf18, .inl (cf18, 9000, .inl f18)), (qf19, .inl (cf19, 9000, .inl f19)), (qf20, .inl (cf20, 9000, .inl f20)), (qf21, .inl (cf21, 9000, .inl f21))] H := hP
  replace hD : va_D A [(h0, .inr (13, zs)), (qf11, .inl (cf11, 9000, .inl (upd f11 (v22 : Int32).toNatClampNeg a1))), (qf12, .inl (cf12, 9000, .inl (upd f12 (v22 : Int32).toNatClampNeg a2))), (qf13, .inl (cf13, 9000, .inl (upd f13 (v22 : Int32).toNatClampNeg a3))), (qf14, .inl (cf14, 9000, .inl (upd f14 (v22 : Int32).toNatClampNeg (-1)))), (qf15, .inl (cf15, 9000, .inl (upd f15 (v22 : Int32).toNatClampNeg (-1)))), (qf16, .inl (cf16, 9000, .inl (upd f16 (v22 : Int32).toNatClampNeg (-1)))), (qf17, .inl (cf17, 9000, .inl (upd f17 (v22 : Int32).toNatClampNeg (-1)))), (qf18, .inl (cf18, 9000, .inl f18)), (qf19, .inl (cf19, 9000, .inl f19)), (qf20, .inl (cf20, 9000, .inl f20)), (qf21, .inl (cf21, 9000, .inl f21))] := hD
  refine lv_aload_n hx hb dX13_add_70 rfl (lv_at hl 0 rfl) ?_
  refine va_get (D := (dC, dI)) (ci := 13) (v := .ref qf18) (C := RX13) (T := TX13) (N := 155) hx hb hts uV_h9_X13 hown hK hP 0 rfl rfl 18 (by decide) (hts (.fieldLink RX13 49 "ClassMillModel" "gives" "[I") mw_h9_46) (fun _ h9 => h9) hf18 dX13_add_71 ?_
  refine lv_aload_n hx hb dX13_add_74 rfl (lv_at hl 0 rfl) ?_
  refine va_get (D := (dC, dI)) (ci := 13) (v := .int v22) (C := RX13) (T := TX13) (N := 155) hx hb hts uV_h9_X13 hown hK hP 0 rfl rfl 22 (by decide) (hts (.fieldLink RX13 373 "ClassMillModel" "nodes" "I") mw_h9_39) (fun _ h9 => h9) hf22 dX13_add_75 ?_
  refine lv_iconst (v := 0) hx hb dX13_add_78 (by decide) ?_
  obtain ⟨hi_8, hsp⟩ := ox_in hsp
  refine va_iast hx hb hK hP hD hS 8 7 rfl rfl (i := v22) (x := 0) hi_8 dX13_add_79 ?_
  clear hP hD hS
  intro H locs hP hD hS
  replace hP : va_P (dC, dI) vwCl [(h0, .inr (13, zs)), (qf11, .inl (cf11, 9000, .inl (upd f11 (v22 : Int32).toNatClampNeg a1))), (qf12, .inl (cf12, 9000, .inl (upd f12 (v22 : Int32).toNatClampNeg a2))), (qf13, .inl (cf13, 9000, .inl (upd f13 (v22 : Int32).toNatClampNeg a3))), (qf14, .inl (cf14, 9000, .inl (upd f14 (v22 : Int32).toNatClampNeg (-1)))), (qf15, .inl (cf15, 9000, .inl (upd f15 (v22 : Int32).toNatClampNeg (-1)))), (qf16, .inl (cf16, 9000, .inl (upd f16 (v22 : Int32).toNatClampNeg (-1)))), (qf17, .inl (cf17, 9000, .inl (upd f17 (v22 : Int32).toNatClampNeg (-1)))), (qf18, .inl (cf18, 9000, .inl (upd f18 (v22 : Int32).toNatClampNeg 0))), (qf19, .inl (cf19, 9000, .inl f19)), (qf20, .inl (cf20, 9000, .inl f20)), (qf21, .inl (cf21, 9000, .inl f21))] H := hP
  replace hD : va_D A [(h0, .inr (13, zs)), (qf11, .inl (cf11, 9000, .inl (upd f11 (v22 : Int32).toNatClampNeg a1))), (qf12, .inl (cf12, 9000, .inl (upd f12 (v22 : Int32).toNatClampNeg a2))), (qf13, .inl (cf13, 9000, .inl (upd f13 (v22 : Int32).toNatClampNeg a3))), (qf14, .inl (cf14, 9000, .inl (upd f14 (v22 : Int32).toNatClampNeg (-1)))), (qf15, .inl (cf15, 9000, .inl (upd f15 (v22 : Int32).toNatClampNeg (-1)))), (qf16, .inl (cf16, 9000, .inl (upd f16 (v22 : Int32).toNatClampNeg (-1)))), (qf17, .inl (cf17, 9000, .inl (upd f17 (v22 : Int32).toNatClampNeg (-1)))), (qf18, .inl (cf18, 9000, .inl (upd f18 (v22 : Int32).toNatClampNeg 0))), (qf19, .inl (cf19, 9000, .inl f19)), (qf20, .inl (cf20, 9000, .inl f20)), (qf21, .inl (cf21, 9000, .inl f21))] := hD
  refine lv_aload_n hx hb dX13_add_80 rfl (lv_at hl 0 rfl) ?_
  refine va_get (D := (dC, dI)) (ci := 13) (v := .ref qf19) (C := RX13) (T := TX13) (N := 155) hx hb hts uV_h9_X13 hown hK hP 0 rfl rfl 19 (by decide) (hts (.fieldLink RX13 52 "ClassMillModel" "means" "[I") mw_h9_47) (fun _ h9 => h9) hf19 dX13_add_81 ?_
  refine lv_aload_n hx hb dX13_add_84 rfl (lv_at hl 0 rfl) ?_
  refine va_get (D := (dC, dI)) (ci := 13) (v := .int v22) (C := RX13) (T := TX13) (N := 155) hx hb hts uV_h9_X13 hown hK hP 0 rfl rfl 22 (by decide) (hts (.fieldLink RX13 373 "ClassMillModel" "nodes" "I") mw_h9_39) (fun _ h9 => h9) hf22 dX13_add_85 ?_
  refine lv_iconst (v := 0) hx hb dX13_add_88 (by decide) ?_
  obtain ⟨hi_9, hsp⟩ := ox_in hsp
  refine va_iast hx hb hK hP hD hS 9 8 rfl rfl (i := v22) (x := 0) hi_9 dX13_add_89 ?_
  clear hP hD hS
  intro H locs hP hD hS
  replace hP : va_P (dC, dI) vwCl [(h0, .inr (13, zs)), (qf11, .inl (cf11, 9000, .inl (upd f11 (v22 : Int32).toNatClampNeg a1))), (qf12, .inl (cf12, 9000, .inl (upd f12 (v22 : Int32).toNatClampNeg a2))), (qf13, .inl (cf13, 9000, .inl (upd f13 (v22 : Int32).toNatClampNeg a3))), (qf14, .inl (cf14, 9000, .inl (upd f14 (v22 : Int32).toNatClampNeg (-1)))), (qf15, .inl (cf15, 9000, .inl (upd f15 (v22 : Int32).toNatClampNeg (-1)))), (qf16, .inl (cf16, 9000, .inl (upd f16 (v22 : Int32).toNatClampNeg (-1)))), (qf17, .inl (cf17, 9000, .inl (upd f17 (v22 : Int32).toNatClampNeg (-1)))), (qf18, .inl (cf18, 9000, .inl (upd f18 (v22 : Int32).toNatClampNeg 0))), (qf19, .inl (cf19, 9000, .inl (upd f19 (v22 : Int32).toNatClampNeg 0))), (qf20, .inl (cf20, 9000, .inl f20)), (qf21, .inl (cf21, 9000, .inl f21))] H := hP
  replace hD : va_D A [(h0, .inr (13, zs)), (qf11, .inl (cf11, 9000, .inl (upd f11 (v22 : Int32).toNatClampNeg a1))), (qf12, .inl (cf12, 9000, .inl (upd f12 (v22 : Int32).toNatClampNeg a2))), (qf13, .inl (cf13, 9000, .inl (upd f13 (v22 : Int32).toNatClampNeg a3))), (qf14, .inl (cf14, 9000, .inl (upd f14 (v22 : Int32).toNatClampNeg (-1)))), (qf15, .inl (cf15, 9000, .inl (upd f15 (v22 : Int32).toNatClampNeg (-1)))), (qf16, .inl (cf16, 9000, .inl (upd f16 (v22 : Int32).toNatClampNeg (-1)))), (qf17, .inl (cf17, 9000, .inl (upd f17 (v22 : Int32).toNatClampNeg (-1)))), (qf18, .inl (cf18, 9000, .inl (upd f18 (v22 : Int32).toNatClampNeg 0))), (qf19, .inl (cf19, 9000, .inl (upd f19 (v22 : Int32).toNatClampNeg 0))), (qf20, .inl (cf20, 9000, .inl f20)), (qf21, .inl (cf21, 9000, .inl f21))] := hD
  refine lv_aload_n hx hb dX13_add_90 rfl (lv_at hl 0 rfl) ?_
  refine va_get (D := (dC, dI)) (ci := 13) (v := .ref qf20) (C := RX13) (T := TX13) (N := 155) hx hb hts uV_h9_X13 hown hK hP 0 rfl rfl 20 (by decide) (hts (.fieldLink RX13 55 "ClassMillModel" "slot" "[I") mw_h9_48) (fun _ h9 => h9) hf20 dX13_add_91 ?_
  refine lv_aload_n hx hb dX13_add_94 rfl (lv_at hl 0 rfl) ?_
  refine va_get (D := (dC, dI)) (ci := 13) (v := .int v22) (C := RX13) (T := TX13) (N := 155) hx hb hts uV_h9_X13 hown hK hP 0 rfl rfl 22 (by decide) (hts (.fieldLink RX13 373 "ClassMillModel" "nodes" "I") mw_h9_39) (fun _ h9 => h9) hf22 dX13_add_95 ?_
  refine lv_iconst (v := 0) hx hb dX13_add_98 (by decide) ?_
  obtain ⟨hi_10, hsp⟩ := ox_in hsp
  refine va_iast hx hb hK hP hD hS 10 9 rfl rfl (i := v22) (x := 0) hi_10 dX13_add_99 ?_
  clear hP hD hS
  intro H locs hP hD hS
  replace hP : va_P (dC, dI) vwCl [(h0, .inr (13, zs)), (qf11, .inl (cf11, 9000, .inl (upd f11 (v22 : Int32).toNatClampNeg a1))), (qf12, .inl (cf12, 9000, .inl (upd f12 (v22 : Int32).toNatClampNeg a2))), (qf13, .inl (cf13, 9000, .inl (upd f13 (v22 : Int32).toNatClampNeg a3))), (qf14, .inl (cf14, 9000, .inl (upd f14 (v22 : Int32).toNatClampNeg (-1)))), (qf15, .inl (cf15, 9000, .inl (upd f15 (v22 : Int32).toNatClampNeg (-1)))), (qf16, .inl (cf16, 9000, .inl (upd f16 (v22 : Int32).toNatClampNeg (-1)))), (qf17, .inl (cf17, 9000, .inl (upd f17 (v22 : Int32).toNatClampNeg (-1)))), (qf18, .inl (cf18, 9000, .inl (upd f18 (v22 : Int32).toNatClampNeg 0))), (qf19, .inl (cf19, 9000, .inl (upd f19 (v22 : Int32).toNatClampNeg 0))), (qf20, .inl (cf20, 9000, .inl (upd f20 (v22 : Int32).toNatClampNeg 0))), (qf21, .inl (cf21, 9000, .inl f21))] H := hP
  replace hD : va_D A [(h0, .inr (13, zs)), (qf11, .inl (cf11, 9000, .inl (upd f11 (v22 : Int32).toNatClampNeg a1))), (qf12, .inl (cf12, 9000, .inl (upd f12 (v22 : Int32).toNatClampNeg a2))), (qf13, .inl (cf13, 9000, .inl (upd f13 (v22 : Int32).toNatClampNeg a3))), (qf14, .inl (cf14, 9000, .inl (upd f14 (v22 : Int32).toNatClampNeg (-1)))), (qf15, .inl (cf15, 9000, .inl (upd f15 (v22 : Int32).toNatClampNeg (-1)))), (qf16, .inl (cf16, 9000, .inl (upd f16 (v22 : Int32).toNatClampNeg (-1)))), (qf17, .inl (cf17, 9000, .inl (upd f17 (v22 : Int32).toNatClampNeg (-1)))), (qf18, .inl (cf18, 9000, .inl (upd f18 (v22 : Int32).toNatClampNeg 0))), (qf19, .inl (cf19, 9000, .inl (upd f19 (v22 : Int32).toNatClampNeg 0))), (qf20, .inl (cf20, 9000, .inl (upd f20 (v22 : Int32).toNatClampNeg 0))), (qf21, .inl (cf21, 9000, .inl f21))] := hD
  refine lv_aload_n hx hb dX13_add_100 rfl (lv_at hl 0 rfl) ?_
  refine va_get (D := (dC, dI)) (ci := 13) (v := .ref qf21) (C := RX13) (T := TX13) (N := 155) hx hb hts uV_h9_X13 hown hK hP 0 rfl rfl 21 (by decide) (hts (.fieldLink RX13 58 "ClassMillModel" "inBrackets" "[Z") mw_h9_49) (fun _ h9 => h9) hf21 dX13_add_101 ?_
  refine lv_aload_n hx hb dX13_add_104 rfl (lv_at hl 0 rfl) ?_
  refine va_get (D := (dC, dI)) (ci := 13) (v := .int v22) (C := RX13) (T := TX13) (N := 155) hx hb hts uV_h9_X13 hown hK hP 0 rfl rfl 22 (by decide) (hts (.fieldLink RX13 373 "ClassMillModel" "nodes" "I") mw_h9_39) (fun _ h9 => h9) hf22 dX13_add_105 ?_
  refine lv_iconst (v := 0) hx hb dX13_add_108 (by decide) ?_
  obtain ⟨hi_11, hsp⟩ := ox_in hsp
  refine va_zast hx hb hK hP hD hS 11 10 rfl rfl (i := v22) (x := 0) hi_11 dX13_add_109 ?_
  clear hP hD hS
  intro H locs hP hD hS
  replace hP : va_P (dC, dI) vwCl [(h0, .inr (13, zs)), (qf11, .inl (cf11, 9000, .inl (upd f11 (v22 : Int32).toNatClampNeg a1))), (qf12, .inl (cf12, 9000, .inl (upd f12 (v22 : Int32).toNatClampNeg a2))), (qf13, .inl (cf13, 9000, .inl (upd f13 (v22 : Int32).toNatClampNeg a3))), (qf14, .inl (cf14, 9000, .inl (upd f14 (v22 : Int32).toNatClampNeg (-1)))), (qf15, .inl (cf15, 9000, .inl (upd f15 (v22 : Int32).toNatClampNeg (-1)))), (qf16, .inl (cf16, 9000, .inl (upd f16 (v22 : Int32).toNatClampNeg (-1)))), (qf17, .inl (cf17, 9000, .inl (upd f17 (v22 : Int32).toNatClampNeg (-1)))), (qf18, .inl (cf18, 9000, .inl (upd f18 (v22 : Int32).toNatClampNeg 0))), (qf19, .inl (cf19, 9000, .inl (upd f19 (v22 : Int32).toNatClampNeg 0))), (qf20, .inl (cf20, 9000, .inl (upd f20 (v22 : Int32).toNatClampNeg 0))), (qf21, .inl (cf21, 9000, .inl (upd f21 (v22 : Int32).toNatClampNeg (vp_nar .boolean 0))))] H := hP
  replace hD : va_D A [(h0, .inr (13, zs)), (qf11, .inl (cf11, 9000, .inl (upd f11 (v22 : Int32).toNatClampNeg a1))), (qf12, .inl (cf12, 9000, .inl (upd f12 (v22 : Int32).toNatClampNeg a2))), (qf13, .inl (cf13, 9000, .inl (upd f13 (v22 : Int32).toNatClampNeg a3))), (qf14, .inl (cf14, 9000, .inl (upd f14 (v22 : Int32).toNatClampNeg (-1)))), (qf15, .inl (cf15, 9000, .inl (upd f15 (v22 : Int32).toNatClampNeg (-1)))), (qf16, .inl (cf16, 9000, .inl (upd f16 (v22 : Int32).toNatClampNeg (-1)))), (qf17, .inl (cf17, 9000, .inl (upd f17 (v22 : Int32).toNatClampNeg (-1)))), (qf18, .inl (cf18, 9000, .inl (upd f18 (v22 : Int32).toNatClampNeg 0))), (qf19, .inl (cf19, 9000, .inl (upd f19 (v22 : Int32).toNatClampNeg 0))), (qf20, .inl (cf20, 9000, .inl (upd f20 (v22 : Int32).toNatClampNeg 0))), (qf21, .inl (cf21, 9000, .inl (upd f21 (v22 : Int32).toNatClampNeg (vp_nar .boolean 0))))] := hD
  refine lv_aload_n hx hb dX13_add_110 rfl (lv_at hl 0 rfl) ?_
  refine lv_dup hx hb dX13_add_111 rfl ?_
  refine va_get (D := (dC, dI)) (ci := 13) (v := .int v22) (C := RX13) (T := TX13) (N := 155) hx hb hts uV_h9_X13 hown hK hP 0 rfl rfl 22 (by decide) (hts (.fieldLink RX13 373 "ClassMillModel" "nodes" "I") mw_h9_39) (fun _ h9 => h9) hf22 dX13_add_112 ?_
  refine lv_iconst (v := 1) hx hb dX13_add_115 (by decide) ?_
  refine lv_iadd hx hb dX13_add_116 ?_
  refine va_put (D := (dC, dI)) (ci := 13) (v := .int (v22 + 1)) (ty := .int) (C := RX13) (T := TX13) (N := 155) hx hb hts uV_h9_X13 tyX13 tyX13_ok nmX13 hown hK hP hD hS 0 rfl rfl 22 (by decide) (hts (.fieldLink RX13 373 "ClassMillModel" "nodes" "I") mw_h9_39) (fun _ h9 => h9) rfl (by decide +kernel) rfl rfl (by rw [hlen]; decide) dX13_add_117 ?_
  clear hP hD hS
  intro H locs hP hD hS
  obtain ⟨fs_12, efs_12⟩ : ∃ zf : List Value, zf = zs.set 22 (.int (v22 + 1)) := ⟨_, rfl⟩
  rw [← efs_12] at hP hD
  have hlfs_12 : fs_12.length = 155 := by rw [efs_12, List.length_set]; exact hlen
  have hfs_12_11 : fs_12[11]? = some (.ref qf11) := by rw [efs_12, List.getElem?_set_ne (by decide)]; exact hf11
  have hfs_12_12 : fs_12[12]? = some (.ref qf12) := by rw [efs_12, List.getElem?_set_ne (by decide)]; exact hf12
  have hfs_12_13 : fs_12[13]? = some (.ref qf13) := by rw [efs_12, List.getElem?_set_ne (by decide)]; exact hf13
  have hfs_12_14 : fs_12[14]? = some (.ref qf14) := by rw [efs_12, List.getElem?_set_ne (by decide)]; exact hf14
  have hfs_12_15 : fs_12[15]? = some (.ref qf15) := by rw [efs_12, List.getElem?_set_ne (by decide)]; exact hf15
  have hfs_12_16 : fs_12[16]? = some (.ref qf16) := by rw [efs_12, List.getElem?_set_ne (by decide)]; exact hf16
  have hfs_12_17 : fs_12[17]? = some (.ref qf17) := by rw [efs_12, List.getElem?_set_ne (by decide)]; exact hf17
  have hfs_12_18 : fs_12[18]? = some (.ref qf18) := by rw [efs_12, List.getElem?_set_ne (by decide)]; exact hf18
  have hfs_12_19 : fs_12[19]? = some (.ref qf19) := by rw [efs_12, List.getElem?_set_ne (by decide)]; exact hf19
  have hfs_12_20 : fs_12[20]? = some (.ref qf20) := by rw [efs_12, List.getElem?_set_ne (by decide)]; exact hf20
  have hfs_12_21 : fs_12[21]? = some (.ref qf21) := by rw [efs_12, List.getElem?_set_ne (by decide)]; exact hf21
  have hfs_12_22 : fs_12[22]? = some (.int (v22 + 1)) := by rw [efs_12, List.getElem?_set_self (by rw [hlen]; decide)]
  replace hP : va_P (dC, dI) vwCl [(h0, .inr (13, fs_12)), (qf11, .inl (cf11, 9000, .inl (upd f11 (v22 : Int32).toNatClampNeg a1))), (qf12, .inl (cf12, 9000, .inl (upd f12 (v22 : Int32).toNatClampNeg a2))), (qf13, .inl (cf13, 9000, .inl (upd f13 (v22 : Int32).toNatClampNeg a3))), (qf14, .inl (cf14, 9000, .inl (upd f14 (v22 : Int32).toNatClampNeg (-1)))), (qf15, .inl (cf15, 9000, .inl (upd f15 (v22 : Int32).toNatClampNeg (-1)))), (qf16, .inl (cf16, 9000, .inl (upd f16 (v22 : Int32).toNatClampNeg (-1)))), (qf17, .inl (cf17, 9000, .inl (upd f17 (v22 : Int32).toNatClampNeg (-1)))), (qf18, .inl (cf18, 9000, .inl (upd f18 (v22 : Int32).toNatClampNeg 0))), (qf19, .inl (cf19, 9000, .inl (upd f19 (v22 : Int32).toNatClampNeg 0))), (qf20, .inl (cf20, 9000, .inl (upd f20 (v22 : Int32).toNatClampNeg 0))), (qf21, .inl (cf21, 9000, .inl (upd f21 (v22 : Int32).toNatClampNeg (vp_nar .boolean 0))))] H := hP
  replace hD : va_D A [(h0, .inr (13, fs_12)), (qf11, .inl (cf11, 9000, .inl (upd f11 (v22 : Int32).toNatClampNeg a1))), (qf12, .inl (cf12, 9000, .inl (upd f12 (v22 : Int32).toNatClampNeg a2))), (qf13, .inl (cf13, 9000, .inl (upd f13 (v22 : Int32).toNatClampNeg a3))), (qf14, .inl (cf14, 9000, .inl (upd f14 (v22 : Int32).toNatClampNeg (-1)))), (qf15, .inl (cf15, 9000, .inl (upd f15 (v22 : Int32).toNatClampNeg (-1)))), (qf16, .inl (cf16, 9000, .inl (upd f16 (v22 : Int32).toNatClampNeg (-1)))), (qf17, .inl (cf17, 9000, .inl (upd f17 (v22 : Int32).toNatClampNeg (-1)))), (qf18, .inl (cf18, 9000, .inl (upd f18 (v22 : Int32).toNatClampNeg 0))), (qf19, .inl (cf19, 9000, .inl (upd f19 (v22 : Int32).toNatClampNeg 0))), (qf20, .inl (cf20, 9000, .inl (upd f20 (v22 : Int32).toNatClampNeg 0))), (qf21, .inl (cf21, 9000, .inl (upd f21 (v22 : Int32).toNatClampNeg (vp_nar .boolean 0))))] := hD
  have hrs_13 : ∀ j : Nat, j ≠ 22 → fs_12[j]? = zs[j]? := fun j g22 => ((congrArg (fun z : List Value => z[j]?) efs_12).trans (List.getElem?_set_ne (Ne.symm g22))).trans (hrs0 j g22)
  refine lv_aload_n hx hb dX13_add_120 rfl (lv_at hl 0 rfl) ?_
  refine va_get (D := (dC, dI)) (ci := 13) (v := .int (v22 + 1)) (C := RX13) (T := TX13) (N := 155) hx hb hts uV_h9_X13 hown hK hP 0 rfl rfl 22 (by decide) (hts (.fieldLink RX13 373 "ClassMillModel" "nodes" "I") mw_h9_39) (fun _ h9 => h9) hfs_12_22 dX13_add_121 ?_
  refine lv_iconst (v := 1) hx hb dX13_add_124 (by decide) ?_
  refine lv_isub hx hb dX13_add_125 ?_
  have hr0 := Option.some.inj hsp
  clear hsp
  obtain ⟨hq0, hr1⟩ := Prod.mk.inj hr0
  clear hr0
  obtain ⟨hq1, hr2⟩ := Prod.mk.inj hr1
  clear hr1
  obtain ⟨hq2, hr3⟩ := Prod.mk.inj hr2
  clear hr2
  obtain ⟨hq3, hr4⟩ := Prod.mk.inj hr3
  clear hr3
  obtain ⟨hq4, hr5⟩ := Prod.mk.inj hr4
  clear hr4
  obtain ⟨hq5, hr6⟩ := Prod.mk.inj hr5
  clear hr5
  obtain ⟨hq6, hr7⟩ := Prod.mk.inj hr6
  clear hr6
  obtain ⟨hq7, hr8⟩ := Prod.mk.inj hr7
  clear hr7
  obtain ⟨hq8, hr9⟩ := Prod.mk.inj hr8
  clear hr8
  obtain ⟨hq9, hr10⟩ := Prod.mk.inj hr9
  clear hr9
  obtain ⟨hq10, hr11⟩ := Prod.mk.inj hr10
  clear hr10
  obtain ⟨hq11, hr12⟩ := Prod.mk.inj hr11
  clear hr11
  subst hq0
  subst hq1
  subst hq2
  subst hq3
  subst hq4
  subst hq5
  subst hq6
  subst hq7
  subst hq8
  subst hq9
  subst hq10
  subst hq11
  subst hr12
  have hP9 := hP.sub (ws' := [(h0, .inr (13, fs_12)), (qf11, .inl (cf11, 9000, .inl (upd f11 (v22 : Int32).toNatClampNeg a1))), (qf12, .inl (cf12, 9000, .inl (upd f12 (v22 : Int32).toNatClampNeg a2))), (qf13, .inl (cf13, 9000, .inl (upd f13 (v22 : Int32).toNatClampNeg a3))), (qf14, .inl (cf14, 9000, .inl (upd f14 (v22 : Int32).toNatClampNeg (-1)))), (qf15, .inl (cf15, 9000, .inl (upd f15 (v22 : Int32).toNatClampNeg (-1)))), (qf16, .inl (cf16, 9000, .inl (upd f16 (v22 : Int32).toNatClampNeg (-1)))), (qf17, .inl (cf17, 9000, .inl (upd f17 (v22 : Int32).toNatClampNeg (-1)))), (qf18, .inl (cf18, 9000, .inl (upd f18 (v22 : Int32).toNatClampNeg 0))), (qf19, .inl (cf19, 9000, .inl (upd f19 (v22 : Int32).toNatClampNeg 0))), (qf20, .inl (cf20, 9000, .inl (upd f20 (v22 : Int32).toNatClampNeg 0))), (qf21, .inl (cf21, 9000, .inl (upd f21 (v22 : Int32).toNatClampNeg (vp_nar .boolean 0))))]) [0, 1, 2, 3, 4, 5, 6, 7, 8, 9, 10, 11] rfl
  have hD9 := hD.sub (ws' := [(h0, .inr (13, fs_12)), (qf11, .inl (cf11, 9000, .inl (upd f11 (v22 : Int32).toNatClampNeg a1))), (qf12, .inl (cf12, 9000, .inl (upd f12 (v22 : Int32).toNatClampNeg a2))), (qf13, .inl (cf13, 9000, .inl (upd f13 (v22 : Int32).toNatClampNeg a3))), (qf14, .inl (cf14, 9000, .inl (upd f14 (v22 : Int32).toNatClampNeg (-1)))), (qf15, .inl (cf15, 9000, .inl (upd f15 (v22 : Int32).toNatClampNeg (-1)))), (qf16, .inl (cf16, 9000, .inl (upd f16 (v22 : Int32).toNatClampNeg (-1)))), (qf17, .inl (cf17, 9000, .inl (upd f17 (v22 : Int32).toNatClampNeg (-1)))), (qf18, .inl (cf18, 9000, .inl (upd f18 (v22 : Int32).toNatClampNeg 0))), (qf19, .inl (cf19, 9000, .inl (upd f19 (v22 : Int32).toNatClampNeg 0))), (qf20, .inl (cf20, 9000, .inl (upd f20 (v22 : Int32).toNatClampNeg 0))), (qf21, .inl (cf21, 9000, .inl (upd f21 (v22 : Int32).toNatClampNeg (vp_nar .boolean 0))))]) [0, 1, 2, 3, 4, 5, 6, 7, 8, 9, 10, 11] (by decide) rfl
  have hK9 := hK.sub (tys' := [(cf11, .int), (cf12, .int), (cf13, .int), (cf14, .int), (cf15, .int), (cf16, .int), (cf17, .int), (cf18, .int), (cf19, .int), (cf20, .int), (cf21, .boolean)]) [0, 1, 2, 3, 4, 5, 6, 7, 8, 9, 10] rfl
  exact W.iret hx hb hr (fun t ht hW => ⟨⟨(((v22 + 1) - 1)), (fs_12), rfl, ⟨rfl, hlfs_12, hrs_13, hfs_12_22⟩, by rw [ht]; exact hP9, va_K.moved hW.alike hK9, hD9⟩, hS.F ht⟩) hS.2.2 dX13_add_126
def jn_vm_type_96 (nf : Nat) (v9 : Int32) (v10 : Int32) (v23 : Int32) (v45 : Int32) (v46 : Int32) (v47 : Int32) (f4 : Nat → Int32) (f7 : Nat → Int32) (f5 : Nat → Int32)  (x10_96 : Int32) (x23_96 : Int32) (x45_96 : Int32) (x46_96 : Int32) (x47_96 : Int32) (x9_96 : Int32) : Option (Int32 × Int32 × Int32 × Int32 × Int32 × Int32) := (if x9_96 = 0 then ((sp_tm_isSign nf x23_96 91 f4 f7).bind (fun p1 => (if p1 = 0 then (some (x10_96, x23_96, x45_96, x46_96, x47_96, x9_96)) else ((sp_tm_sign_ nf 93 x9_96 x10_96 (x23_96 + 1) f4 f7 f5).bind (fun p2 => (some (p2.1, p2.2.1, x45_96, x46_96, 1, p2.2.2))))))) else (some (x10_96, x23_96, x45_96, x46_96, x47_96, x9_96)))
def jn_vm_type_68 (nf : Nat) (v9 : Int32) (v10 : Int32) (v23 : Int32) (v45 : Int32) (v46 : Int32) (v47 : Int32) (f4 : Nat → Int32) (f7 : Nat → Int32) (f5 : Nat → Int32)  (s0_68 : Int32) (x10_68 : Int32) (x23_68 : Int32) (x45_68 : Int32) (x46_68 : Int32) (x47_68 : Int32) (x9_68 : Int32) : Option (Int32 × Int32 × Int32 × Int32 × Int32 × Int32) := (if s0_68 = 0 then (jn_vm_type_96 nf v9 v10 v23 v45 v46 v47 f4 f7 f5  x10_68 (x23_68 + 1) s0_68 x46_68 x47_68 x9_68) else ((sp_tm_name nf x9_68 x10_68 x23_68 f4 f5).bind (fun p1 => (jn_vm_type_96 nf v9 v10 v23 v45 v46 v47 f4 f7 f5  p1.2.1 p1.2.2.1 s0_68 x46_68 x47_68 p1.2.2.2))))
def sp_vm_type (nf : Nat) (v9 : Int32) (v10 : Int32) (v23 : Int32) (v45 : Int32) (v46 : Int32) (v47 : Int32) (f4 : Nat → Int32) (f7 : Nat → Int32) (f5 : Nat → Int32) : Option (Int32 × Int32 × Int32 × Int32 × Int32 × Int32) := (if v9 = 0 then ((sp_tm_isWord nf v23 0 f4 f7).bind (fun p1 => (if p1 = 0 then ((sp_tm_isWord nf v23 10 f4 f7).bind (fun p2 => (if p2 = 0 then (jn_vm_type_68 nf v9 v10 v23 v45 v46 v47 f4 f7 f5  3 v10 v23 v45 v23 0 v9) else (jn_vm_type_68 nf v9 v10 v23 v45 v46 v47 f4 f7 f5  0 v10 v23 v45 v23 0 v9)))) else (some (v10, (v23 + 1), 1, v23, 0, v9))))) else (some (v10, v23, v45, v46, v47, v9)))
set_option maxHeartbeats 4000000 in
set_option maxRecDepth 100000 in
/-- ClassMillModel.type -/
theorem vm_type (l : Launch) (dC : Nat → ClassId) (dI : Nat → Nat → Nat) (sz : Nat) (h0 : Nat) (zs : (List Value)) (qf4 : Nat) (qf5 : Nat) (qf7 : Nat) (v9 : Int32) (v10 : Int32) (v23 : Int32) (v45 : Int32) (v46 : Int32) (v47 : Int32) (cf4 : ClassId) (f4 : (Nat → Int32)) (cf7 : ClassId) (f7 : (Nat → Int32)) (cf5 : ClassId) (f5 : (Nat → Int32)) (nf : Nat) (w10 : Int32) (w23 : Int32) (w45 : Int32) (w46 : Int32) (w47 : Int32) (w9 : Int32) (hlen : zs.length = 155) (hf4 : zs[4]? = some (.ref qf4)) (hf5 : zs[5]? = some (.ref qf5)) (hf7 : zs[7]? = some (.ref qf7)) (hf9 : zs[9]? = some (.int v9)) (hf10 : zs[10]? = some (.int v10)) (hf23 : zs[23]? = some (.int v23)) (hf45 : zs[45]? = some (.int v45)) (hf46 : zs[46]? = some (.int v46)) (hf47 : zs[47]? = some (.int v47)) (hsp : sp_vm_type nf v9 v10 v23 v45 v46 v47 f4 f7 f5 = some (w10, w23, w45, w46, w47, w9)) : Met l yX13_type (.code yX13_type cX13_type 1 none :: VS_h9) ({ frames := 3, cells := 0, slots := 0, locals := 63 }) (va_Pc [.ref h0] (fun U => U.heap.size = sz ∧ va_P (dC, dI) vwCl [(h0, .inr (13, zs)), (qf4, .inl (cf4, 3008, .inl f4)), (qf7, .inl (cf7, 3002, .inl f7)), (qf5, .inl (cf5, 3002, .inl f5))] U.heap ∧ va_K (dC, dI) vwCl [(cf4, .int), (cf7, .int), (cf5, .int)] U ∧ va_D (fun _ => True) [(h0, .inr (13, zs)), (qf4, .inl (cf4, 3008, .inl f4)), (qf7, .inl (cf7, 3002, .inl f7)), (qf5, .inl (cf5, 3002, .inl f5))])) (va_Qv (fun (u : (List Value)) => match u with | (zo1) => True ∧ zo1.length = 155 ∧ (∀ j : Nat, j ≠ 10 → j ≠ 23 → j ≠ 45 → j ≠ 46 → j ≠ 47 → j ≠ 9 → zo1[j]? = zs[j]?) ∧ zo1[10]? = some (.int w10) ∧ zo1[23]? = some (.int w23) ∧ zo1[45]? = some (.int w45) ∧ zo1[46]? = some (.int w46) ∧ zo1[47]? = some (.int w47) ∧ zo1[9]? = some (.int w9)) (fun (u : (List Value)) (t : State) => match u with | (zo1) => va_P (dC, dI) vwCl [(h0, .inr (13, zo1)), (qf4, .inl (cf4, 3008, .inl f4)), (qf7, .inl (cf7, 3002, .inl f7)), (qf5, .inl (cf5, 3002, .inl f5))] t.heap ∧ va_K (dC, dI) vwCl [(cf4, .int), (cf7, .int), (cf5, .int)] t ∧ va_D (va_A [(h0, .inr (13, zs)), (qf4, .inl (cf4, 3008, .inl f4)), (qf7, .inl (cf7, 3002, .inl f7)), (qf5, .inl (cf5, 3002, .inl f5))] sz) [(h0, .inr (13, zo1)), (qf4, .inl (cf4, 3008, .inl f4)), (qf7, .inl (cf7, 3002, .inl f7)), (qf5, .inl (cf5, 3002, .inl f5))]) (va_A [(h0, .inr (13, zs)), (qf4, .inl (cf4, 3008, .inl f4)), (qf7, .inl (cf7, 3002, .inl f7)), (qf5, .inl (cf5, 3002, .inl f5))] sz)) 0 0 (va_A [(h0, .inr (13, zs)), (qf4, .inl (cf4, 3008, .inl f4)), (qf7, .inl (cf7, 3002, .inl f7)), (qf5, .inl (cf5, 3002, .inl f5))] sz) := by
  refine Met.ofW (cc := cX13_type) (maxL := 1) (ret := none) (by decide) rfl ?_
  intro p e s m args below meth c s₁ B hml hv
  obtain ⟨rfl, hsz, hP, hK, hD0⟩ := hv
  have hx := B.exec
  have hb := B.bytes
  have hr := B.returns
  have hts := atoms_spec (ws := (.code yX13_type cX13_type 1 none :: VS_h9)) B.pre
  replace hts := fun w (h : w ∈ VS_h9) => hts w (List.mem_cons_of_mem _ h)
  have hown : s.vm.findClass RX13 = some m.cls := findClass_of_methodNamed B.named
  have hlocks := B.notSynchronized
  subst hsz
  have hD := hD0.self (sz := s.heap.size)
  generalize hAe : va_A [(h0, .inr (13, zs)), (qf4, .inl (cf4, 3008, .inl f4)), (qf7, .inl (cf7, 3002, .inl f7)), (qf5, .inl (cf5, 3002, .inl f5))] s.heap.size = A at hD  ⊢
  have hA : ∀ q : Nat, s.heap.size ≤ q → A q := fun q h => by rw [← hAe]; exact Or.inr h
  have hP : va_P (dC, dI) vwCl [(h0, .inr (13, zs)), (qf4, .inl (cf4, 3008, .inl f4)), (qf7, .inl (cf7, 3002, .inl f7)), (qf5, .inl (cf5, 3002, .inl f5))] s.heap := hP
  have hl := lv_entry ([.ref h0]) (n := 1) (Nat.le_of_ble_eq_true rfl)
  rw [lg_entry_eq]
  generalize (lg_sl ([.ref h0]) ++ List.replicate (1 - (lg_sl ([.ref h0])).length) Slot.unset).toArray = ls at hl ⊢
  have hl : lv_has ls 1 [(0, .ref h0)] := hl
  obtain ⟨H, hH⟩ : ∃ H : Heap, s.heap = H := ⟨_, rfl⟩
  rw [hH] at hP ⊢
  have hS : va_S A s.heap H [] := by rw [← hH]; exact va_S.rf
  obtain ⟨locs, hlo⟩ : ∃ locs : List Loc, locs = [] := ⟨_, rfl⟩
  rw [← hlo] at hS ⊢
  have hrs0 : ∀ j : Nat, j ≠ 10 → j ≠ 23 → j ≠ 45 → j ≠ 46 → j ≠ 47 → j ≠ 9 → zs[j]? = zs[j]? := fun _ _ _ _ _ _ _  => rfl
  unfold sp_vm_type at hsp
  refine jn_use (α := Heap × List Loc × Array Slot × List Value × Int32 × Int32 × Int32 × Int32 × Int32 × Int32) (fun x9 => x9.1) (fun x9 => x9.2.1) (fun x9 => F0 m 96 x9.2.2.1 []) (fun x9 => match x9 with | (H, locs, ls, z96, x10_96, x23_96, x45_96, x46_96, x47_96, x9_96) => lv_has ls 1 [(0, .ref h0)] ∧ va_S A s.heap H locs ∧ va_D A [(h0, .inr (13, z96)), (qf4, .inl (cf4, 3008, .inl f4)), (qf7, .inl (cf7, 3002, .inl f7)), (qf5, .inl (cf5, 3002, .inl f5))] ∧ va_P (dC, dI) vwCl [(h0, .inr (13, z96)), (qf4, .inl (cf4, 3008, .inl f4)), (qf7, .inl (cf7, 3002, .inl f7)), (qf5, .inl (cf5, 3002, .inl f5))] H ∧ z96[4]? = some (.ref qf4) ∧ z96[5]? = some (.ref qf5) ∧ z96[7]? = some (.ref qf7) ∧ z96[9]? = some (.int x9_96) ∧ z96[10]? = some (.int x10_96) ∧ z96[23]? = some (.int x23_96) ∧ z96[45]? = some (.int x45_96) ∧ z96[46]? = some (.int x46_96) ∧ z96[47]? = some (.int x47_96) ∧ z96.length = 155 ∧ (∀ j : Nat, j ≠ 10 → j ≠ 23 → j ≠ 45 → j ≠ 46 → j ≠ 47 → j ≠ 9 → z96[j]? = zs[j]?) ∧ jn_vm_type_96 nf v9 v10 v23 v45 v46 v47 f4 f7 f5 x10_96 x23_96 x45_96 x46_96 x47_96 x9_96 = some (w10, w23, w45, w46, w47, w9)) ?_ ?_
  · intro x9 hJ9
    obtain ⟨H, locs, ls, z96, x10_96, x23_96, x45_96, x46_96, x47_96, x9_96⟩ := x9
    obtain ⟨hl, hS, hD, hP, hfh_96_4, hfh_96_5, hfh_96_7, hfh_96_9, hfh_96_10, hfh_96_23, hfh_96_45, hfh_96_46, hfh_96_47, hlh_96, hrh_96, hsp⟩ := hJ9
    replace hl : lv_has ls 1 [(0, .ref h0)] := hl
    replace hS : va_S A s.heap H locs := hS
    replace hD : va_D A [(h0, .inr (13, z96)), (qf4, .inl (cf4, 3008, .inl f4)), (qf7, .inl (cf7, 3002, .inl f7)), (qf5, .inl (cf5, 3002, .inl f5))] := hD
    replace hP : va_P (dC, dI) vwCl [(h0, .inr (13, z96)), (qf4, .inl (cf4, 3008, .inl f4)), (qf7, .inl (cf7, 3002, .inl f7)), (qf5, .inl (cf5, 3002, .inl f5))] H := hP
    replace hsp : jn_vm_type_96 nf v9 v10 v23 v45 v46 v47 f4 f7 f5 x10_96 x23_96 x45_96 x46_96 x47_96 x9_96 = some (w10, w23, w45, w46, w47, w9) := hsp
    show W _ _ _ _ _ _ _ _ _ _ H locs _ _ _ (F0 m 96 ls [])
    unfold jn_vm_type_96 at hsp
    try dsimp only at hsp
    refine lv_aload_n hx hb dX13_type_96 rfl (lv_at hl 0 rfl) ?_
    refine va_get (D := (dC, dI)) (ci := 13) (v := .int x9_96) (C := RX13) (T := TX13) (N := 155) hx hb hts uV_h9_X13 hown hK hP 0 rfl rfl 9 (by decide) (hts (.fieldLink RX13 319 "ClassMillModel" "fault" "I") mw_h9_66) (fun _ h9 => h9) hfh_96_9 dX13_type_97 ?_
    refine lv_if_ne (tgt := 116) hx hb dX13_type_100 (by decide) (fun c_22 => ?_) (fun c_22 => ?_)
    · rw [if_neg c_22] at hsp
      have hr0 := Option.some.inj hsp
      clear hsp
      obtain ⟨hq0, hr1⟩ := Prod.mk.inj hr0
      clear hr0
      obtain ⟨hq1, hr2⟩ := Prod.mk.inj hr1
      clear hr1
      obtain ⟨hq2, hr3⟩ := Prod.mk.inj hr2
      clear hr2
      obtain ⟨hq3, hr4⟩ := Prod.mk.inj hr3
      clear hr3
      obtain ⟨hq4, hr5⟩ := Prod.mk.inj hr4
      clear hr4
      subst hq0
      subst hq1
      subst hq2
      subst hq3
      subst hq4
      subst hr5
      have hP9 := hP.sub (ws' := [(h0, .inr (13, z96)), (qf4, .inl (cf4, 3008, .inl f4)), (qf7, .inl (cf7, 3002, .inl f7)), (qf5, .inl (cf5, 3002, .inl f5))]) [0, 1, 2, 3] rfl
      have hD9 := hD.sub (ws' := [(h0, .inr (13, z96)), (qf4, .inl (cf4, 3008, .inl f4)), (qf7, .inl (cf7, 3002, .inl f7)), (qf5, .inl (cf5, 3002, .inl f5))]) [0, 1, 2, 3] (by decide) rfl
      have hK9 := hK.sub (tys' := [(cf4, .int), (cf7, .int), (cf5, .int)]) [0, 1, 2] rfl
      exact W.vret hx hb hr (fun t ht hW => ⟨⟨(z96), rfl, ⟨trivial, hlh_96, hrh_96, hfh_96_10, hfh_96_23, hfh_96_45, hfh_96_46, hfh_96_47, hfh_96_9⟩, by rw [ht]; exact hP9, va_K.moved hW.alike hK9, hD9⟩, hS.F ht⟩) hS.2.2 dX13_type_116
    · rw [if_pos c_22] at hsp
      refine lv_aload_n hx hb dX13_type_103 rfl (lv_at hl 0 rfl) ?_
      refine lv_aload_n hx hb dX13_type_104 rfl (lv_at hl 0 rfl) ?_
      refine va_get (D := (dC, dI)) (ci := 13) (v := .int x23_96) (C := RX13) (T := TX13) (N := 155) hx hb hts uV_h9_X13 hown hK hP 0 rfl rfl 23 (by decide) (hts (.fieldLink RX13 376 "ClassMillModel" "cursor" "I") mw_h9_67) (fun _ h9 => h9) hfh_96_23 dX13_type_105 ?_
      refine lv_bipush (v := 91) hx hb dX13_type_108 (by decide) ?_
      obtain ⟨u4_0, hu_4, hsp⟩ := ox_bind hsp
      try dsimp only at hsp
      have hPc := hP.sub (ws' := [(h0, .inr (13, z96)), (qf4, .inl (cf4, 3008, .inl f4)), (qf7, .inl (cf7, 3002, .inl f7))]) [0, 1, 2] rfl
      have hDc := hD.sub (ws' := [(h0, .inr (13, z96)), (qf4, .inl (cf4, 3008, .inl f4)), (qf7, .inl (cf7, 3002, .inl f7))]) [0, 1, 2] (by decide) rfl
      have hKc := hK.sub (tys' := [(cf4, .int), (cf7, .int)]) [0, 1] rfl
      have hFc := va_free (wc := [(h0, .inr (13, z96)), (qf4, .inl (cf4, 3008, .inl f4)), (qf7, .inl (cf7, 3002, .inl f7))]) hD hS hA [0, 1, 2] rfl
      refine va_calli (va_runV (As := [.int x23_96, .int 91]) (rest := []) ⟨hx, hb, hml, hown, hts⟩ (tm_isSign l dC dI H.size h0 z96 x23_96 91 qf4 qf7 cf4 f4 cf7 f7 nf u4_0 hlh_96 hfh_96_4 hfh_96_7 hu_4) (cwV 2 hts gv_h9_10 rfl rfl rfl (by decide +kernel) ⟨Nat.le_of_ble_eq_true rfl, Nat.le_of_ble_eq_true rfl⟩) ⟨fun a U g mk q => by obtain ⟨q0, q1, qP, qK, qD⟩ := q; exact ⟨q0, q1, qP, va_K.moved (u := U) (U := U.calling g mk a) (Vm.Alike.refl U.vm) qK, qD⟩, va_recv hKc hPc (ci := 13) (q0 := 0) rfl rfl, fun U hU hW => ⟨rfl, by rw [hU], by rw [hU]; exact hPc, va_K.moved hW.alike hKc, hDc.weaken (fun _ _ _ _ => trivial)⟩⟩ rfl rfl hl.1 rfl (lv_room (Nat.le_of_ble_eq_true rfl)) dX13_type_110 ⟨Nat.le_of_ble_eq_true rfl, Nat.le_of_ble_eq_true rfl⟩) hS (fun q _ h => hFc q h) hFc ?_
      clear hS
      intro r_23 u t H1 locs ht hvm hw hB hz1 hk1 hS
      obtain ⟨z_4, rfl⟩ : ∃ z, z = u := ⟨_, rfl⟩
      obtain ⟨hP1, hK1, hD1⟩ := hB
      rw [ht] at hP1
      have hK1 := va_K.moved hvm.symm hK1
      try dsimp only at hw
      have hPD := va_join (wr := [(qf5, .inl (cf5, 3002, .inl f5))]) (w1 := [(h0, .inr (13, z_4)), (qf4, .inl (cf4, 3008, .inl f4)), (qf7, .inl (cf7, 3002, .inl f7))]) hP hD [0, 1, 2] [3] rfl rfl (by decide) (by decide) hk1 hFc hP1 hD1
      clear hP hD
      obtain ⟨hP, hD⟩ := hPD
      replace hK := (hK.sub (tys' := [(cf5, .int)]) [2] rfl).app hK1
      clear hPc hDc hKc hFc hP1 hK1 hD1 hz1 hk1 ht hvm
      generalize H1 = H at hP hS ⊢
      replace hP : va_P (dC, dI) vwCl [(qf5, .inl (cf5, 3002, .inl f5)), (h0, .inr (13, z_4)), (qf4, .inl (cf4, 3008, .inl f4)), (qf7, .inl (cf7, 3002, .inl f7))] H := hP
      replace hD : va_D A [(qf5, .inl (cf5, 3002, .inl f5)), (h0, .inr (13, z_4)), (qf4, .inl (cf4, 3008, .inl f4)), (qf7, .inl (cf7, 3002, .inl f7))] := hD
      replace hK : va_K (dC, dI) vwCl [(cf5, .int), (cf4, .int), (cf7, .int)] s := hK
      obtain ⟨hwa_4, hln_4, hre_4⟩ := hw
      have hfk_4_4 : z_4[4]? = some (.ref qf4) := (hre_4 4 ).trans (hfh_96_4)
      have hfk_4_5 : z_4[5]? = some (.ref qf5) := (hre_4 5 ).trans (hfh_96_5)
      have hfk_4_7 : z_4[7]? = some (.ref qf7) := (hre_4 7 ).trans (hfh_96_7)
      have hfk_4_9 : z_4[9]? = some (.int x9_96) := (hre_4 9 ).trans (hfh_96_9)
      have hfk_4_10 : z_4[10]? = some (.int x10_96) := (hre_4 10 ).trans (hfh_96_10)
      have hfk_4_23 : z_4[23]? = some (.int x23_96) := (hre_4 23 ).trans (hfh_96_23)
      have hfk_4_45 : z_4[45]? = some (.int x45_96) := (hre_4 45 ).trans (hfh_96_45)
      have hfk_4_46 : z_4[46]? = some (.int x46_96) := (hre_4 46 ).trans (hfh_96_46)
      have hfk_4_47 : z_4[47]? = some (.int x47_96) := (hre_4 47 ).trans (hfh_96_47)
      have hrq_4 : ∀ j : Nat, j ≠ 10 → j ≠ 23 → j ≠ 45 → j ≠ 46 → j ≠ 47 → j ≠ 9 → z_4[j]? = zs[j]? := fun j g10 g23 g45 g46 g47 g9 => (hre_4 j ).trans (hrh_96 j g10 g23 g45 g46 g47 g9)
      obtain ⟨rfl, hz_4⟩ := hwa_4
      rcases hz_4 with rfl | rfl
      · rw [if_pos rfl] at hsp
        refine lv_if_ne (tgt := 117) hx hb dX13_type_113 (by decide) (fun c_24 => (show False by revert c_24; decide).elim) (fun c_24 => ?_)
        have hr0 := Option.some.inj hsp
        clear hsp
        obtain ⟨hq0, hr1⟩ := Prod.mk.inj hr0
        clear hr0
        obtain ⟨hq1, hr2⟩ := Prod.mk.inj hr1
        clear hr1
        obtain ⟨hq2, hr3⟩ := Prod.mk.inj hr2
        clear hr2
        obtain ⟨hq3, hr4⟩ := Prod.mk.inj hr3
        clear hr3
        obtain ⟨hq4, hr5⟩ := Prod.mk.inj hr4
        clear hr4
        subst hq0
        subst hq1
        subst hq2
        subst hq3
        subst hq4
        subst hr5
        have hP9 := hP.sub (ws' := [(h0, .inr (13, z_4)), (qf4, .inl (cf4, 3008, .inl f4)), (qf7, .inl (cf7, 3002, .inl f7)), (qf5, .inl (cf5, 3002, .inl f5))]) [1, 2, 3, 0] rfl
        have hD9 := hD.sub (ws' := [(h0, .inr (13, z_4)), (qf4, .inl (cf4, 3008, .inl f4)), (qf7, .inl (cf7, 3002, .inl f7)), (qf5, .inl (cf5, 3002, .inl f5))]) [1, 2, 3, 0] (by decide) rfl
        have hK9 := hK.sub (tys' := [(cf4, .int), (cf7, .int), (cf5, .int)]) [1, 2, 0] rfl
        exact W.vret hx hb hr (fun t ht hW => ⟨⟨(z_4), rfl, ⟨trivial, hln_4, hrq_4, hfk_4_10, hfk_4_23, hfk_4_45, hfk_4_46, hfk_4_47, hfk_4_9⟩, by rw [ht]; exact hP9, va_K.moved hW.alike hK9, hD9⟩, hS.F ht⟩) hS.2.2 dX13_type_116
      · rw [if_neg (by decide)] at hsp
        refine lv_if_ne (tgt := 117) hx hb dX13_type_113 (by decide) (fun c_25 => ?_) (fun c_25 => (show False by revert c_25; decide).elim)
        refine lv_aload_n hx hb dX13_type_117 rfl (lv_at hl 0 rfl) ?_
        refine lv_dup hx hb dX13_type_118 rfl ?_
        refine va_get (D := (dC, dI)) (ci := 13) (v := .int x23_96) (C := RX13) (T := TX13) (N := 155) hx hb hts uV_h9_X13 hown hK hP 1 rfl rfl 23 (by decide) (hts (.fieldLink RX13 376 "ClassMillModel" "cursor" "I") mw_h9_67) (fun _ h9 => h9) hfk_4_23 dX13_type_119 ?_
        refine lv_iconst (v := 1) hx hb dX13_type_122 (by decide) ?_
        refine lv_iadd hx hb dX13_type_123 ?_
        refine va_put (D := (dC, dI)) (ci := 13) (v := .int (x23_96 + 1)) (ty := .int) (C := RX13) (T := TX13) (N := 155) hx hb hts uV_h9_X13 tyX13 tyX13_ok nmX13 hown hK hP hD hS 1 rfl rfl 23 (by decide) (hts (.fieldLink RX13 376 "ClassMillModel" "cursor" "I") mw_h9_67) (fun _ h9 => h9) rfl (by decide +kernel) rfl rfl (by rw [hln_4]; decide) dX13_type_124 ?_
        clear hP hD hS
        intro H locs hP hD hS
        obtain ⟨fs_26, efs_26⟩ : ∃ zf : List Value, zf = z_4.set 23 (.int (x23_96 + 1)) := ⟨_, rfl⟩
        rw [← efs_26] at hP hD
        have hlfs_26 : fs_26.length = 155 := by rw [efs_26, List.length_set]; exact hln_4
        have hfs_26_4 : fs_26[4]? = some (.ref qf4) := by rw [efs_26, List.getElem?_set_ne (by decide)]; exact hfk_4_4
        have hfs_26_5 : fs_26[5]? = some (.ref qf5) := by rw [efs_26, List.getElem?_set_ne (by decide)]; exact hfk_4_5
        have hfs_26_7 : fs_26[7]? = some (.ref qf7) := by rw [efs_26, List.getElem?_set_ne (by decide)]; exact hfk_4_7
        have hfs_26_9 : fs_26[9]? = some (.int x9_96) := by rw [efs_26, List.getElem?_set_ne (by decide)]; exact hfk_4_9
        have hfs_26_10 : fs_26[10]? = some (.int x10_96) := by rw [efs_26, List.getElem?_set_ne (by decide)]; exact hfk_4_10
        have hfs_26_45 : fs_26[45]? = some (.int x45_96) := by rw [efs_26, List.getElem?_set_ne (by decide)]; exact hfk_4_45
        have hfs_26_46 : fs_26[46]? = some (.int x46_96) := by rw [efs_26, List.getElem?_set_ne (by decide)]; exact hfk_4_46
        have hfs_26_47 : fs_26[47]? = some (.int x47_96) := by rw [efs_26, List.getElem?_set_ne (by decide)]; exact hfk_4_47
        have hfs_26_23 : fs_26[23]? = some (.int (x23_96 + 1)) := by rw [efs_26, List.getElem?_set_self (by rw [hln_4]; decide)]
        replace hP : va_P (dC, dI) vwCl [(qf5, .inl (cf5, 3002, .inl f5)), (h0, .inr (13, fs_26)), (qf4, .inl (cf4, 3008, .inl f4)), (qf7, .inl (cf7, 3002, .inl f7))] H := hP
        replace hD : va_D A [(qf5, .inl (cf5, 3002, .inl f5)), (h0, .inr (13, fs_26)), (qf4, .inl (cf4, 3008, .inl f4)), (qf7, .inl (cf7, 3002, .inl f7))] := hD
        have hrs_27 : ∀ j : Nat, j ≠ 10 → j ≠ 23 → j ≠ 45 → j ≠ 46 → j ≠ 47 → j ≠ 9 → fs_26[j]? = zs[j]? := fun j g10 g23 g45 g46 g47 g9 => ((congrArg (fun z : List Value => z[j]?) efs_26).trans (List.getElem?_set_ne (Ne.symm g23))).trans (hrq_4 j g10 g23 g45 g46 g47 g9)
        refine lv_aload_n hx hb dX13_type_127 rfl (lv_at hl 0 rfl) ?_
        refine lv_bipush (v := 93) hx hb dX13_type_128 (by decide) ?_
        obtain ⟨⟨u5_0, u5_1, u5_2⟩, hu_5, hsp⟩ := ox_bind hsp
        try dsimp only at hsp
        have hPc := hP.sub (ws' := [(h0, .inr (13, fs_26)), (qf4, .inl (cf4, 3008, .inl f4)), (qf7, .inl (cf7, 3002, .inl f7)), (qf5, .inl (cf5, 3002, .inl f5))]) [1, 2, 3, 0] rfl
        have hDc := hD.sub (ws' := [(h0, .inr (13, fs_26)), (qf4, .inl (cf4, 3008, .inl f4)), (qf7, .inl (cf7, 3002, .inl f7)), (qf5, .inl (cf5, 3002, .inl f5))]) [1, 2, 3, 0] (by decide) rfl
        have hKc := hK.sub (tys' := [(cf4, .int), (cf7, .int), (cf5, .int)]) [1, 2, 0] rfl
        have hFc := va_free (wc := [(h0, .inr (13, fs_26)), (qf4, .inl (cf4, 3008, .inl f4)), (qf7, .inl (cf7, 3002, .inl f7)), (qf5, .inl (cf5, 3002, .inl f5))]) hD hS hA [1, 2, 3, 0] rfl
        refine va_callv (va_runV (As := [.int 93]) (rest := []) ⟨hx, hb, hml, hown, hts⟩ (tm_sign_ l dC dI H.size h0 fs_26 93 qf4 qf5 qf7 x9_96 x10_96 ((x23_96 + 1)) cf4 f4 cf7 f7 cf5 f5 nf u5_0 u5_1 u5_2 hlfs_26 hfs_26_4 hfs_26_5 hfs_26_7 hfs_26_9 hfs_26_10 hfs_26_23 hu_5) (cwV 1 hts gv_h9_11 rfl rfl rfl (by decide +kernel) ⟨Nat.le_of_ble_eq_true rfl, Nat.le_of_ble_eq_true rfl⟩) ⟨fun a U g mk q => by obtain ⟨q0, q1, qP, qK, qD⟩ := q; exact ⟨q0, q1, qP, va_K.moved (u := U) (U := U.calling g mk a) (Vm.Alike.refl U.vm) qK, qD⟩, va_recv hKc hPc (ci := 13) (q0 := 0) rfl rfl, fun U hU hW => ⟨rfl, by rw [hU], by rw [hU]; exact hPc, va_K.moved hW.alike hKc, hDc.weaken (fun _ _ _ _ => trivial)⟩⟩ rfl rfl hl.1 rfl (lv_room (Nat.le_of_ble_eq_true rfl)) dX13_type_130 ⟨Nat.le_of_ble_eq_true rfl, Nat.le_of_ble_eq_true rfl⟩) hS (fun q _ h => hFc q h) hFc ?_
        clear hS
        intro u t H1 locs ht hvm hw hB hz1 hk1 hS
        obtain ⟨z_5, rfl⟩ : ∃ z, z = u := ⟨_, rfl⟩
        obtain ⟨hP1, hK1, hD1⟩ := hB
        rw [ht] at hP1
        have hK1 := va_K.moved hvm.symm hK1
        try dsimp only at hw
        have hPD := va_join (wr := []) (w1 := [(h0, .inr (13, z_5)), (qf4, .inl (cf4, 3008, .inl f4)), (qf7, .inl (cf7, 3002, .inl f7)), (qf5, .inl (cf5, 3002, .inl f5))]) hP hD [1, 2, 3, 0] [] rfl rfl (by decide) (by decide) hk1 hFc hP1 hD1
        clear hP hD
        obtain ⟨hP, hD⟩ := hPD
        replace hK := (hK.sub (tys' := []) [] rfl).app hK1
        clear hPc hDc hKc hFc hP1 hK1 hD1 hz1 hk1 ht hvm
        generalize H1 = H at hP hS ⊢
        replace hP : va_P (dC, dI) vwCl [(h0, .inr (13, z_5)), (qf4, .inl (cf4, 3008, .inl f4)), (qf7, .inl (cf7, 3002, .inl f7)), (qf5, .inl (cf5, 3002, .inl f5))] H := hP
        replace hD : va_D A [(h0, .inr (13, z_5)), (qf4, .inl (cf4, 3008, .inl f4)), (qf7, .inl (cf7, 3002, .inl f7)), (qf5, .inl (cf5, 3002, .inl f5))] := hD
        replace hK : va_K (dC, dI) vwCl [(cf4, .int), (cf7, .int), (cf5, .int)] s := hK
        obtain ⟨hwa_5, hln_5, hre_5, hch_5_10, hch_5_23, hch_5_9⟩ := hw
        have hfk_5_4 : z_5[4]? = some (.ref qf4) := (hre_5 4 (by decide) (by decide) (by decide)).trans (hfs_26_4)
        have hfk_5_5 : z_5[5]? = some (.ref qf5) := (hre_5 5 (by decide) (by decide) (by decide)).trans (hfs_26_5)
        have hfk_5_7 : z_5[7]? = some (.ref qf7) := (hre_5 7 (by decide) (by decide) (by decide)).trans (hfs_26_7)
        have hfk_5_45 : z_5[45]? = some (.int x45_96) := (hre_5 45 (by decide) (by decide) (by decide)).trans (hfs_26_45)
        have hfk_5_46 : z_5[46]? = some (.int x46_96) := (hre_5 46 (by decide) (by decide) (by decide)).trans (hfs_26_46)
        have hfk_5_47 : z_5[47]? = some (.int x47_96) := (hre_5 47 (by decide) (by decide) (by decide)).trans (hfs_26_47)
        have hrq_5 : ∀ j : Nat, j ≠ 10 → j ≠ 23 → j ≠ 45 → j ≠ 46 → j ≠ 47 → j ≠ 9 → z_5[j]? = zs[j]? := fun j g10 g23 g45 g46 g47 g9 => (hre_5 j g10 g23 g9).trans (hrs_27 j g10 g23 g45 g46 g47 g9)
        refine lv_aload_n hx hb dX13_type_133 rfl (lv_at hl 0 rfl) ?_
        refine lv_iconst (v := 1) hx hb dX13_type_134 (by decide) ?_
        refine va_put (D := (dC, dI)) (ci := 13) (v := .int 1) (ty := .boolean) (C := RX13) (T := TX13) (N := 155) hx hb hts uV_h9_X13 tyX13 tyX13_ok nmX13 hown hK hP hD hS 0 rfl rfl 47 (by decide) (hts (.fieldLink RX13 396 "ClassMillModel" "rowed" "Z") mw_h9_68) (fun _ h9 => h9) rfl (by decide +kernel) rfl rfl (by rw [hln_5]; decide) dX13_type_135 ?_
        clear hP hD hS
        intro H locs hP hD hS
        obtain ⟨fs_28, efs_28⟩ : ∃ zf : List Value, zf = z_5.set 47 (.int 1) := ⟨_, rfl⟩
        rw [← efs_28] at hP hD
        have hlfs_28 : fs_28.length = 155 := by rw [efs_28, List.length_set]; exact hln_5
        have hfs_28_4 : fs_28[4]? = some (.ref qf4) := by rw [efs_28, List.getElem?_set_ne (by decide)]; exact hfk_5_4
        have hfs_28_5 : fs_28[5]? = some (.ref qf5) := by rw [efs_28, List.getElem?_set_ne (by decide)]; exact hfk_5_5
        have hfs_28_7 : fs_28[7]? = some (.ref qf7) := by rw [efs_28, List.getElem?_set_ne (by decide)]; exact hfk_5_7
        have hfs_28_9 : fs_28[9]? = some (.int u5_2) := by rw [efs_28, List.getElem?_set_ne (by decide)]; exact hch_5_9
        have hfs_28_10 : fs_28[10]? = some (.int u5_0) := by rw [efs_28, List.getElem?_set_ne (by decide)]; exact hch_5_10
        have hfs_28_23 : fs_28[23]? = some (.int u5_1) := by rw [efs_28, List.getElem?_set_ne (by decide)]; exact hch_5_23
        have hfs_28_45 : fs_28[45]? = some (.int x45_96) := by rw [efs_28, List.getElem?_set_ne (by decide)]; exact hfk_5_45
        have hfs_28_46 : fs_28[46]? = some (.int x46_96) := by rw [efs_28, List.getElem?_set_ne (by decide)]; exact hfk_5_46
        have hfs_28_47 : fs_28[47]? = some (.int 1) := by rw [efs_28, List.getElem?_set_self (by rw [hln_5]; decide)]
        replace hP : va_P (dC, dI) vwCl [(h0, .inr (13, fs_28)), (qf4, .inl (cf4, 3008, .inl f4)), (qf7, .inl (cf7, 3002, .inl f7)), (qf5, .inl (cf5, 3002, .inl f5))] H := hP
        replace hD : va_D A [(h0, .inr (13, fs_28)), (qf4, .inl (cf4, 3008, .inl f4)), (qf7, .inl (cf7, 3002, .inl f7)), (qf5, .inl (cf5, 3002, .inl f5))] := hD
        have hrs_29 : ∀ j : Nat, j ≠ 10 → j ≠ 23 → j ≠ 45 → j ≠ 46 → j ≠ 47 → j ≠ 9 → fs_28[j]? = zs[j]? := fun j g10 g23 g45 g46 g47 g9 => ((congrArg (fun z : List Value => z[j]?) efs_28).trans (List.getElem?_set_ne (Ne.symm g47))).trans (hrq_5 j g10 g23 g45 g46 g47 g9)
        have hr0 := Option.some.inj hsp
        clear hsp
        obtain ⟨hq0, hr1⟩ := Prod.mk.inj hr0
        clear hr0
        obtain ⟨hq1, hr2⟩ := Prod.mk.inj hr1
        clear hr1
        obtain ⟨hq2, hr3⟩ := Prod.mk.inj hr2
        clear hr2
        obtain ⟨hq3, hr4⟩ := Prod.mk.inj hr3
        clear hr3
        obtain ⟨hq4, hr5⟩ := Prod.mk.inj hr4
        clear hr4
        subst hq0
        subst hq1
        subst hq2
        subst hq3
        subst hq4
        subst hr5
        have hP9 := hP.sub (ws' := [(h0, .inr (13, fs_28)), (qf4, .inl (cf4, 3008, .inl f4)), (qf7, .inl (cf7, 3002, .inl f7)), (qf5, .inl (cf5, 3002, .inl f5))]) [0, 1, 2, 3] rfl
        have hD9 := hD.sub (ws' := [(h0, .inr (13, fs_28)), (qf4, .inl (cf4, 3008, .inl f4)), (qf7, .inl (cf7, 3002, .inl f7)), (qf5, .inl (cf5, 3002, .inl f5))]) [0, 1, 2, 3] (by decide) rfl
        have hK9 := hK.sub (tys' := [(cf4, .int), (cf7, .int), (cf5, .int)]) [0, 1, 2] rfl
        exact W.vret hx hb hr (fun t ht hW => ⟨⟨(fs_28), rfl, ⟨trivial, hlfs_28, hrs_29, hfs_28_10, hfs_28_23, hfs_28_45, hfs_28_46, hfs_28_47, hfs_28_9⟩, by rw [ht]; exact hP9, va_K.moved hW.alike hK9, hD9⟩, hS.F ht⟩) hS.2.2 dX13_type_138
  intro hj_96
  refine jn_use (α := Heap × List Loc × Array Slot × List Value × Int32 × Int32 × Int32 × Int32 × Int32 × Int32 × Int32) (fun x9 => x9.1) (fun x9 => x9.2.1) (fun x9 => F0 m 68 x9.2.2.1 [.int (x9.2.2.2.2.1), .ref h0]) (fun x9 => match x9 with | (H, locs, ls, z68, s0_68, x10_68, x23_68, x45_68, x46_68, x47_68, x9_68) => lv_has ls 1 [(0, .ref h0)] ∧ va_S A s.heap H locs ∧ va_D A [(h0, .inr (13, z68)), (qf4, .inl (cf4, 3008, .inl f4)), (qf7, .inl (cf7, 3002, .inl f7)), (qf5, .inl (cf5, 3002, .inl f5))] ∧ va_P (dC, dI) vwCl [(h0, .inr (13, z68)), (qf4, .inl (cf4, 3008, .inl f4)), (qf7, .inl (cf7, 3002, .inl f7)), (qf5, .inl (cf5, 3002, .inl f5))] H ∧ z68[4]? = some (.ref qf4) ∧ z68[5]? = some (.ref qf5) ∧ z68[7]? = some (.ref qf7) ∧ z68[9]? = some (.int x9_68) ∧ z68[10]? = some (.int x10_68) ∧ z68[23]? = some (.int x23_68) ∧ z68[45]? = some (.int x45_68) ∧ z68[46]? = some (.int x46_68) ∧ z68[47]? = some (.int x47_68) ∧ z68.length = 155 ∧ (∀ j : Nat, j ≠ 10 → j ≠ 23 → j ≠ 45 → j ≠ 46 → j ≠ 47 → j ≠ 9 → z68[j]? = zs[j]?) ∧ jn_vm_type_68 nf v9 v10 v23 v45 v46 v47 f4 f7 f5 s0_68 x10_68 x23_68 x45_68 x46_68 x47_68 x9_68 = some (w10, w23, w45, w46, w47, w9)) ?_ ?_
  · intro x9 hJ9
    obtain ⟨H, locs, ls, z68, s0_68, x10_68, x23_68, x45_68, x46_68, x47_68, x9_68⟩ := x9
    obtain ⟨hl, hS, hD, hP, hfh_68_4, hfh_68_5, hfh_68_7, hfh_68_9, hfh_68_10, hfh_68_23, hfh_68_45, hfh_68_46, hfh_68_47, hlh_68, hrh_68, hsp⟩ := hJ9
    replace hl : lv_has ls 1 [(0, .ref h0)] := hl
    replace hS : va_S A s.heap H locs := hS
    replace hD : va_D A [(h0, .inr (13, z68)), (qf4, .inl (cf4, 3008, .inl f4)), (qf7, .inl (cf7, 3002, .inl f7)), (qf5, .inl (cf5, 3002, .inl f5))] := hD
    replace hP : va_P (dC, dI) vwCl [(h0, .inr (13, z68)), (qf4, .inl (cf4, 3008, .inl f4)), (qf7, .inl (cf7, 3002, .inl f7)), (qf5, .inl (cf5, 3002, .inl f5))] H := hP
    replace hsp : jn_vm_type_68 nf v9 v10 v23 v45 v46 v47 f4 f7 f5 s0_68 x10_68 x23_68 x45_68 x46_68 x47_68 x9_68 = some (w10, w23, w45, w46, w47, w9) := hsp
    show W _ _ _ _ _ _ _ _ _ _ H locs _ _ _ (F0 m 68 ls [.int s0_68, .ref h0])
    unfold jn_vm_type_68 at hsp
    try dsimp only at hsp
    refine va_put (D := (dC, dI)) (ci := 13) (v := .int s0_68) (ty := .int) (C := RX13) (T := TX13) (N := 155) hx hb hts uV_h9_X13 tyX13 tyX13_ok nmX13 hown hK hP hD hS 0 rfl rfl 45 (by decide) (hts (.fieldLink RX13 400 "ClassMillModel" "base" "I") mw_h9_69) (fun _ h9 => h9) rfl (by decide +kernel) rfl rfl (by rw [hlh_68]; decide) dX13_type_68 ?_
    clear hP hD hS
    intro H locs hP hD hS
    obtain ⟨fs_16, efs_16⟩ : ∃ zf : List Value, zf = z68.set 45 (.int s0_68) := ⟨_, rfl⟩
    rw [← efs_16] at hP hD
    have hlfs_16 : fs_16.length = 155 := by rw [efs_16, List.length_set]; exact hlh_68
    have hfs_16_4 : fs_16[4]? = some (.ref qf4) := by rw [efs_16, List.getElem?_set_ne (by decide)]; exact hfh_68_4
    have hfs_16_5 : fs_16[5]? = some (.ref qf5) := by rw [efs_16, List.getElem?_set_ne (by decide)]; exact hfh_68_5
    have hfs_16_7 : fs_16[7]? = some (.ref qf7) := by rw [efs_16, List.getElem?_set_ne (by decide)]; exact hfh_68_7
    have hfs_16_9 : fs_16[9]? = some (.int x9_68) := by rw [efs_16, List.getElem?_set_ne (by decide)]; exact hfh_68_9
    have hfs_16_10 : fs_16[10]? = some (.int x10_68) := by rw [efs_16, List.getElem?_set_ne (by decide)]; exact hfh_68_10
    have hfs_16_23 : fs_16[23]? = some (.int x23_68) := by rw [efs_16, List.getElem?_set_ne (by decide)]; exact hfh_68_23
    have hfs_16_46 : fs_16[46]? = some (.int x46_68) := by rw [efs_16, List.getElem?_set_ne (by decide)]; exact hfh_68_46
    have hfs_16_47 : fs_16[47]? = some (.int x47_68) := by rw [efs_16, List.getElem?_set_ne (by decide)]; exact hfh_68_47
    have hfs_16_45 : fs_16[45]? = some (.int s0_68) := by rw [efs_16, List.getElem?_set_self (by rw [hlh_68]; decide)]
    replace hP : va_P (dC, dI) vwCl [(h0, .inr (13, fs_16)), (qf4, .inl (cf4, 3008, .inl f4)), (qf7, .inl (cf7, 3002, .inl f7)), (qf5, .inl (cf5, 3002, .inl f5))] H := hP
    replace hD : va_D A [(h0, .inr (13, fs_16)), (qf4, .inl (cf4, 3008, .inl f4)), (qf7, .inl (cf7, 3002, .inl f7)), (qf5, .inl (cf5, 3002, .inl f5))] := hD
    have hrs_17 : ∀ j : Nat, j ≠ 10 → j ≠ 23 → j ≠ 45 → j ≠ 46 → j ≠ 47 → j ≠ 9 → fs_16[j]? = zs[j]? := fun j g10 g23 g45 g46 g47 g9 => ((congrArg (fun z : List Value => z[j]?) efs_16).trans (List.getElem?_set_ne (Ne.symm g45))).trans (hrh_68 j g10 g23 g45 g46 g47 g9)
    refine lv_aload_n hx hb dX13_type_71 rfl (lv_at hl 0 rfl) ?_
    refine va_get (D := (dC, dI)) (ci := 13) (v := .int s0_68) (C := RX13) (T := TX13) (N := 155) hx hb hts uV_h9_X13 hown hK hP 0 rfl rfl 45 (by decide) (hts (.fieldLink RX13 400 "ClassMillModel" "base" "I") mw_h9_69) (fun _ h9 => h9) hfs_16_45 dX13_type_72 ?_
    refine lv_if_ne (tgt := 91) hx hb dX13_type_75 (by decide) (fun c_18 => ?_) (fun c_18 => ?_)
    · rw [if_neg c_18] at hsp
      refine lv_aload_n hx hb dX13_type_91 rfl (lv_at hl 0 rfl) ?_
      obtain ⟨⟨u3_0, u3_1, u3_2, u3_3⟩, hu_3, hsp⟩ := ox_bind hsp
      try dsimp only at hsp
      have hPc := hP.sub (ws' := [(h0, .inr (13, fs_16)), (qf4, .inl (cf4, 3008, .inl f4)), (qf5, .inl (cf5, 3002, .inl f5))]) [0, 1, 3] rfl
      have hDc := hD.sub (ws' := [(h0, .inr (13, fs_16)), (qf4, .inl (cf4, 3008, .inl f4)), (qf5, .inl (cf5, 3002, .inl f5))]) [0, 1, 3] (by decide) rfl
      have hKc := hK.sub (tys' := [(cf4, .int), (cf5, .int)]) [0, 2] rfl
      have hFc := va_free (wc := [(h0, .inr (13, fs_16)), (qf4, .inl (cf4, 3008, .inl f4)), (qf5, .inl (cf5, 3002, .inl f5))]) hD hS hA [0, 1, 3] rfl
      refine va_calli (va_runV (As := []) (rest := []) ⟨hx, hb, hml, hown, hts⟩ (tm_name l dC dI H.size h0 fs_16 qf4 qf5 x9_68 x10_68 x23_68 cf4 f4 cf5 f5 nf u3_0 u3_1 u3_2 u3_3 hlfs_16 hfs_16_4 hfs_16_5 hfs_16_9 hfs_16_10 hfs_16_23 hu_3) (cwV 0 hts gv_h9_9 rfl rfl rfl (by decide +kernel) ⟨Nat.le_of_ble_eq_true rfl, Nat.le_of_ble_eq_true rfl⟩) ⟨fun a U g mk q => by obtain ⟨q0, q1, qP, qK, qD⟩ := q; exact ⟨q0, q1, qP, va_K.moved (u := U) (U := U.calling g mk a) (Vm.Alike.refl U.vm) qK, qD⟩, va_recv hKc hPc (ci := 13) (q0 := 0) rfl rfl, fun U hU hW => ⟨rfl, by rw [hU], by rw [hU]; exact hPc, va_K.moved hW.alike hKc, hDc.weaken (fun _ _ _ _ => trivial)⟩⟩ rfl rfl hl.1 rfl (lv_room (Nat.le_of_ble_eq_true rfl)) dX13_type_92 ⟨Nat.le_of_ble_eq_true rfl, Nat.le_of_ble_eq_true rfl⟩) hS (fun q _ h => hFc q h) hFc ?_
      clear hS
      intro r_19 u t H1 locs ht hvm hw hB hz1 hk1 hS
      obtain ⟨z_3, rfl⟩ : ∃ z, z = u := ⟨_, rfl⟩
      obtain ⟨hP1, hK1, hD1⟩ := hB
      rw [ht] at hP1
      have hK1 := va_K.moved hvm.symm hK1
      try dsimp only at hw
      have hPD := va_join (wr := [(qf7, .inl (cf7, 3002, .inl f7))]) (w1 := [(h0, .inr (13, z_3)), (qf4, .inl (cf4, 3008, .inl f4)), (qf5, .inl (cf5, 3002, .inl f5))]) hP hD [0, 1, 3] [2] rfl rfl (by decide) (by decide) hk1 hFc hP1 hD1
      clear hP hD
      obtain ⟨hP, hD⟩ := hPD
      replace hK := (hK.sub (tys' := [(cf7, .int)]) [1] rfl).app hK1
      clear hPc hDc hKc hFc hP1 hK1 hD1 hz1 hk1 ht hvm
      generalize H1 = H at hP hS ⊢
      replace hP : va_P (dC, dI) vwCl [(qf7, .inl (cf7, 3002, .inl f7)), (h0, .inr (13, z_3)), (qf4, .inl (cf4, 3008, .inl f4)), (qf5, .inl (cf5, 3002, .inl f5))] H := hP
      replace hD : va_D A [(qf7, .inl (cf7, 3002, .inl f7)), (h0, .inr (13, z_3)), (qf4, .inl (cf4, 3008, .inl f4)), (qf5, .inl (cf5, 3002, .inl f5))] := hD
      replace hK : va_K (dC, dI) vwCl [(cf7, .int), (cf4, .int), (cf5, .int)] s := hK
      obtain ⟨hwa_3, hln_3, hre_3, hch_3_10, hch_3_23, hch_3_9⟩ := hw
      have hfk_3_4 : z_3[4]? = some (.ref qf4) := (hre_3 4 (by decide) (by decide) (by decide)).trans (hfs_16_4)
      have hfk_3_5 : z_3[5]? = some (.ref qf5) := (hre_3 5 (by decide) (by decide) (by decide)).trans (hfs_16_5)
      have hfk_3_7 : z_3[7]? = some (.ref qf7) := (hre_3 7 (by decide) (by decide) (by decide)).trans (hfs_16_7)
      have hfk_3_45 : z_3[45]? = some (.int s0_68) := (hre_3 45 (by decide) (by decide) (by decide)).trans (hfs_16_45)
      have hfk_3_46 : z_3[46]? = some (.int x46_68) := (hre_3 46 (by decide) (by decide) (by decide)).trans (hfs_16_46)
      have hfk_3_47 : z_3[47]? = some (.int x47_68) := (hre_3 47 (by decide) (by decide) (by decide)).trans (hfs_16_47)
      have hrq_3 : ∀ j : Nat, j ≠ 10 → j ≠ 23 → j ≠ 45 → j ≠ 46 → j ≠ 47 → j ≠ 9 → z_3[j]? = zs[j]? := fun j g10 g23 g45 g46 g47 g9 => (hre_3 j g10 g23 g9).trans (hrs_17 j g10 g23 g45 g46 g47 g9)
      obtain rfl := hwa_3
      refine lv_pop hx hb dX13_type_95 rfl ?_
      exact hj_96 (H, locs, ls, z_3, u3_1, u3_2, s0_68, x46_68, x47_68, u3_3) ⟨lv_sub hl [0] rfl, hS, hD.sub (ws' := [(h0, .inr (13, z_3)), (qf4, .inl (cf4, 3008, .inl f4)), (qf7, .inl (cf7, 3002, .inl f7)), (qf5, .inl (cf5, 3002, .inl f5))]) [1, 2, 0, 3] (by decide) rfl, hP.sub (ws' := [(h0, .inr (13, z_3)), (qf4, .inl (cf4, 3008, .inl f4)), (qf7, .inl (cf7, 3002, .inl f7)), (qf5, .inl (cf5, 3002, .inl f5))]) [1, 2, 0, 3] rfl, hfk_3_4, hfk_3_5, hfk_3_7, hch_3_9, hch_3_10, hch_3_23, hfk_3_45, hfk_3_46, hfk_3_47, hln_3, hrq_3, hsp⟩
    · rw [if_pos c_18] at hsp
      refine lv_aload_n hx hb dX13_type_78 rfl (lv_at hl 0 rfl) ?_
      refine lv_dup hx hb dX13_type_79 rfl ?_
      refine va_get (D := (dC, dI)) (ci := 13) (v := .int x23_68) (C := RX13) (T := TX13) (N := 155) hx hb hts uV_h9_X13 hown hK hP 0 rfl rfl 23 (by decide) (hts (.fieldLink RX13 376 "ClassMillModel" "cursor" "I") mw_h9_67) (fun _ h9 => h9) hfs_16_23 dX13_type_80 ?_
      refine lv_iconst (v := 1) hx hb dX13_type_83 (by decide) ?_
      refine lv_iadd hx hb dX13_type_84 ?_
      refine va_put (D := (dC, dI)) (ci := 13) (v := .int (x23_68 + 1)) (ty := .int) (C := RX13) (T := TX13) (N := 155) hx hb hts uV_h9_X13 tyX13 tyX13_ok nmX13 hown hK hP hD hS 0 rfl rfl 23 (by decide) (hts (.fieldLink RX13 376 "ClassMillModel" "cursor" "I") mw_h9_67) (fun _ h9 => h9) rfl (by decide +kernel) rfl rfl (by rw [hlfs_16]; decide) dX13_type_85 ?_
      clear hP hD hS
      intro H locs hP hD hS
      obtain ⟨fs_20, efs_20⟩ : ∃ zf : List Value, zf = fs_16.set 23 (.int (x23_68 + 1)) := ⟨_, rfl⟩
      rw [← efs_20] at hP hD
      have hlfs_20 : fs_20.length = 155 := by rw [efs_20, List.length_set]; exact hlfs_16
      have hfs_20_4 : fs_20[4]? = some (.ref qf4) := by rw [efs_20, List.getElem?_set_ne (by decide)]; exact hfs_16_4
      have hfs_20_5 : fs_20[5]? = some (.ref qf5) := by rw [efs_20, List.getElem?_set_ne (by decide)]; exact hfs_16_5
      have hfs_20_7 : fs_20[7]? = some (.ref qf7) := by rw [efs_20, List.getElem?_set_ne (by decide)]; exact hfs_16_7
      have hfs_20_9 : fs_20[9]? = some (.int x9_68) := by rw [efs_20, List.getElem?_set_ne (by decide)]; exact hfs_16_9
      have hfs_20_10 : fs_20[10]? = some (.int x10_68) := by rw [efs_20, List.getElem?_set_ne (by decide)]; exact hfs_16_10
      have hfs_20_46 : fs_20[46]? = some (.int x46_68) := by rw [efs_20, List.getElem?_set_ne (by decide)]; exact hfs_16_46
      have hfs_20_47 : fs_20[47]? = some (.int x47_68) := by rw [efs_20, List.getElem?_set_ne (by decide)]; exact hfs_16_47
      have hfs_20_45 : fs_20[45]? = some (.int s0_68) := by rw [efs_20, List.getElem?_set_ne (by decide)]; exact hfs_16_45
      have hfs_20_23 : fs_20[23]? = some (.int (x23_68 + 1)) := by rw [efs_20, List.getElem?_set_self (by rw [hlfs_16]; decide)]
      replace hP : va_P (dC, dI) vwCl [(h0, .inr (13, fs_20)), (qf4, .inl (cf4, 3008, .inl f4)), (qf7, .inl (cf7, 3002, .inl f7)), (qf5, .inl (cf5, 3002, .inl f5))] H := hP
      replace hD : va_D A [(h0, .inr (13, fs_20)), (qf4, .inl (cf4, 3008, .inl f4)), (qf7, .inl (cf7, 3002, .inl f7)), (qf5, .inl (cf5, 3002, .inl f5))] := hD
      have hrs_21 : ∀ j : Nat, j ≠ 10 → j ≠ 23 → j ≠ 45 → j ≠ 46 → j ≠ 47 → j ≠ 9 → fs_20[j]? = zs[j]? := fun j g10 g23 g45 g46 g47 g9 => ((congrArg (fun z : List Value => z[j]?) efs_20).trans (List.getElem?_set_ne (Ne.symm g23))).trans (hrs_17 j g10 g23 g45 g46 g47 g9)
      refine lv_goto (tgt := 96) hx hb dX13_type_88 (by decide) ?_
      exact hj_96 (H, locs, ls, fs_20, x10_68, (x23_68 + 1), s0_68, x46_68, x47_68, x9_68) ⟨lv_sub hl [0] rfl, hS, hD.sub (ws' := [(h0, .inr (13, fs_20)), (qf4, .inl (cf4, 3008, .inl f4)), (qf7, .inl (cf7, 3002, .inl f7)), (qf5, .inl (cf5, 3002, .inl f5))]) [0, 1, 2, 3] (by decide) rfl, hP.sub (ws' := [(h0, .inr (13, fs_20)), (qf4, .inl (cf4, 3008, .inl f4)), (qf7, .inl (cf7, 3002, .inl f7)), (qf5, .inl (cf5, 3002, .inl f5))]) [0, 1, 2, 3] rfl, hfs_20_4, hfs_20_5, hfs_20_7, hfs_20_9, hfs_20_10, hfs_20_23, hfs_20_45, hfs_20_46, hfs_20_47, hlfs_20, hrs_21, hsp⟩
  intro hj_68
  refine lv_aload_n hx hb dX13_type_0 rfl (lv_at hl 0 rfl) ?_
  refine va_get (D := (dC, dI)) (ci := 13) (v := .int v9) (C := RX13) (T := TX13) (N := 155) hx hb hts uV_h9_X13 hown hK hP 0 rfl rfl 9 (by decide) (hts (.fieldLink RX13 319 "ClassMillModel" "fault" "I") mw_h9_66) (fun _ h9 => h9) hf9 dX13_type_1 ?_
  refine lv_if_eq (tgt := 8) hx hb dX13_type_4 (by decide) (fun c_1 => ?_) (fun c_1 => ?_)
  · rw [if_pos c_1] at hsp
    refine lv_aload_n hx hb dX13_type_8 rfl (lv_at hl 0 rfl) ?_
    refine lv_aload_n hx hb dX13_type_9 rfl (lv_at hl 0 rfl) ?_
    refine va_get (D := (dC, dI)) (ci := 13) (v := .int v23) (C := RX13) (T := TX13) (N := 155) hx hb hts uV_h9_X13 hown hK hP 0 rfl rfl 23 (by decide) (hts (.fieldLink RX13 376 "ClassMillModel" "cursor" "I") mw_h9_67) (fun _ h9 => h9) hf23 dX13_type_10 ?_
    refine va_put (D := (dC, dI)) (ci := 13) (v := .int v23) (ty := .int) (C := RX13) (T := TX13) (N := 155) hx hb hts uV_h9_X13 tyX13 tyX13_ok nmX13 hown hK hP hD hS 0 rfl rfl 46 (by decide) (hts (.fieldLink RX13 393 "ClassMillModel" "baseToken" "I") mw_h9_70) (fun _ h9 => h9) rfl (by decide +kernel) rfl rfl (by rw [hlen]; decide) dX13_type_13 ?_
    clear hP hD hS
    intro H locs hP hD hS
    obtain ⟨fs_2, efs_2⟩ : ∃ zf : List Value, zf = zs.set 46 (.int v23) := ⟨_, rfl⟩
    rw [← efs_2] at hP hD
    have hlfs_2 : fs_2.length = 155 := by rw [efs_2, List.length_set]; exact hlen
    have hfs_2_4 : fs_2[4]? = some (.ref qf4) := by rw [efs_2, List.getElem?_set_ne (by decide)]; exact hf4
    have hfs_2_5 : fs_2[5]? = some (.ref qf5) := by rw [efs_2, List.getElem?_set_ne (by decide)]; exact hf5
    have hfs_2_7 : fs_2[7]? = some (.ref qf7) := by rw [efs_2, List.getElem?_set_ne (by decide)]; exact hf7
    have hfs_2_9 : fs_2[9]? = some (.int v9) := by rw [efs_2, List.getElem?_set_ne (by decide)]; exact hf9
    have hfs_2_10 : fs_2[10]? = some (.int v10) := by rw [efs_2, List.getElem?_set_ne (by decide)]; exact hf10
    have hfs_2_23 : fs_2[23]? = some (.int v23) := by rw [efs_2, List.getElem?_set_ne (by decide)]; exact hf23
    have hfs_2_45 : fs_2[45]? = some (.int v45) := by rw [efs_2, List.getElem?_set_ne (by decide)]; exact hf45
    have hfs_2_47 : fs_2[47]? = some (.int v47) := by rw [efs_2, List.getElem?_set_ne (by decide)]; exact hf47
    have hfs_2_46 : fs_2[46]? = some (.int v23) := by rw [efs_2, List.getElem?_set_self (by rw [hlen]; decide)]
    replace hP : va_P (dC, dI) vwCl [(h0, .inr (13, fs_2)), (qf4, .inl (cf4, 3008, .inl f4)), (qf7, .inl (cf7, 3002, .inl f7)), (qf5, .inl (cf5, 3002, .inl f5))] H := hP
    replace hD : va_D A [(h0, .inr (13, fs_2)), (qf4, .inl (cf4, 3008, .inl f4)), (qf7, .inl (cf7, 3002, .inl f7)), (qf5, .inl (cf5, 3002, .inl f5))] := hD
    have hrs_3 : ∀ j : Nat, j ≠ 10 → j ≠ 23 → j ≠ 45 → j ≠ 46 → j ≠ 47 → j ≠ 9 → fs_2[j]? = zs[j]? := fun j g10 g23 g45 g46 g47 g9 => ((congrArg (fun z : List Value => z[j]?) efs_2).trans (List.getElem?_set_ne (Ne.symm g46))).trans (hrs0 j g10 g23 g45 g46 g47 g9)
    refine lv_aload_n hx hb dX13_type_16 rfl (lv_at hl 0 rfl) ?_
    refine lv_iconst (v := 0) hx hb dX13_type_17 (by decide) ?_
    refine va_put (D := (dC, dI)) (ci := 13) (v := .int 0) (ty := .boolean) (C := RX13) (T := TX13) (N := 155) hx hb hts uV_h9_X13 tyX13 tyX13_ok nmX13 hown hK hP hD hS 0 rfl rfl 47 (by decide) (hts (.fieldLink RX13 396 "ClassMillModel" "rowed" "Z") mw_h9_68) (fun _ h9 => h9) rfl (by decide +kernel) rfl rfl (by rw [hlfs_2]; decide) dX13_type_18 ?_
    clear hP hD hS
    intro H locs hP hD hS
    obtain ⟨fs_4, efs_4⟩ : ∃ zf : List Value, zf = fs_2.set 47 (.int 0) := ⟨_, rfl⟩
    rw [← efs_4] at hP hD
    have hlfs_4 : fs_4.length = 155 := by rw [efs_4, List.length_set]; exact hlfs_2
    have hfs_4_4 : fs_4[4]? = some (.ref qf4) := by rw [efs_4, List.getElem?_set_ne (by decide)]; exact hfs_2_4
    have hfs_4_5 : fs_4[5]? = some (.ref qf5) := by rw [efs_4, List.getElem?_set_ne (by decide)]; exact hfs_2_5
    have hfs_4_7 : fs_4[7]? = some (.ref qf7) := by rw [efs_4, List.getElem?_set_ne (by decide)]; exact hfs_2_7
    have hfs_4_9 : fs_4[9]? = some (.int v9) := by rw [efs_4, List.getElem?_set_ne (by decide)]; exact hfs_2_9
    have hfs_4_10 : fs_4[10]? = some (.int v10) := by rw [efs_4, List.getElem?_set_ne (by decide)]; exact hfs_2_10
    have hfs_4_23 : fs_4[23]? = some (.int v23) := by rw [efs_4, List.getElem?_set_ne (by decide)]; exact hfs_2_23
    have hfs_4_45 : fs_4[45]? = some (.int v45) := by rw [efs_4, List.getElem?_set_ne (by decide)]; exact hfs_2_45
    have hfs_4_46 : fs_4[46]? = some (.int v23) := by rw [efs_4, List.getElem?_set_ne (by decide)]; exact hfs_2_46
    have hfs_4_47 : fs_4[47]? = some (.int 0) := by rw [efs_4, List.getElem?_set_self (by rw [hlfs_2]; decide)]
    replace hP : va_P (dC, dI) vwCl [(h0, .inr (13, fs_4)), (qf4, .inl (cf4, 3008, .inl f4)), (qf7, .inl (cf7, 3002, .inl f7)), (qf5, .inl (cf5, 3002, .inl f5))] H := hP
    replace hD : va_D A [(h0, .inr (13, fs_4)), (qf4, .inl (cf4, 3008, .inl f4)), (qf7, .inl (cf7, 3002, .inl f7)), (qf5, .inl (cf5, 3002, .inl f5))] := hD
    have hrs_5 : ∀ j : Nat, j ≠ 10 → j ≠ 23 → j ≠ 45 → j ≠ 46 → j ≠ 47 → j ≠ 9 → fs_4[j]? = zs[j]? := fun j g10 g23 g45 g46 g47 g9 => ((congrArg (fun z : List Value => z[j]?) efs_4).trans (List.getElem?_set_ne (Ne.symm g47))).trans (hrs_3 j g10 g23 g45 g46 g47 g9)
    refine lv_aload_n hx hb dX13_type_21 rfl (lv_at hl 0 rfl) ?_
    refine lv_aload_n hx hb dX13_type_22 rfl (lv_at hl 0 rfl) ?_
    refine va_get (D := (dC, dI)) (ci := 13) (v := .int v23) (C := RX13) (T := TX13) (N := 155) hx hb hts uV_h9_X13 hown hK hP 0 rfl rfl 23 (by decide) (hts (.fieldLink RX13 376 "ClassMillModel" "cursor" "I") mw_h9_67) (fun _ h9 => h9) hfs_4_23 dX13_type_23 ?_
    refine lv_iconst (v := 0) hx hb dX13_type_26 (by decide) ?_
    obtain ⟨u1_0, hu_1, hsp⟩ := ox_bind hsp
    try dsimp only at hsp
    have hPc := hP.sub (ws' := [(h0, .inr (13, fs_4)), (qf4, .inl (cf4, 3008, .inl f4)), (qf7, .inl (cf7, 3002, .inl f7))]) [0, 1, 2] rfl
    have hDc := hD.sub (ws' := [(h0, .inr (13, fs_4)), (qf4, .inl (cf4, 3008, .inl f4)), (qf7, .inl (cf7, 3002, .inl f7))]) [0, 1, 2] (by decide) rfl
    have hKc := hK.sub (tys' := [(cf4, .int), (cf7, .int)]) [0, 1] rfl
    have hFc := va_free (wc := [(h0, .inr (13, fs_4)), (qf4, .inl (cf4, 3008, .inl f4)), (qf7, .inl (cf7, 3002, .inl f7))]) hD hS hA [0, 1, 2] rfl
    refine va_calli (va_runV (As := [.int v23, .int 0]) (rest := []) ⟨hx, hb, hml, hown, hts⟩ (tm_isWord l dC dI H.size h0 fs_4 v23 0 qf4 qf7 cf4 f4 cf7 f7 nf u1_0 hlfs_4 hfs_4_4 hfs_4_7 hu_1) (cwV 2 hts gv_h9_8 rfl rfl rfl (by decide +kernel) ⟨Nat.le_of_ble_eq_true rfl, Nat.le_of_ble_eq_true rfl⟩) ⟨fun a U g mk q => by obtain ⟨q0, q1, qP, qK, qD⟩ := q; exact ⟨q0, q1, qP, va_K.moved (u := U) (U := U.calling g mk a) (Vm.Alike.refl U.vm) qK, qD⟩, va_recv hKc hPc (ci := 13) (q0 := 0) rfl rfl, fun U hU hW => ⟨rfl, by rw [hU], by rw [hU]; exact hPc, va_K.moved hW.alike hKc, hDc.weaken (fun _ _ _ _ => trivial)⟩⟩ rfl rfl hl.1 rfl (lv_room (Nat.le_of_ble_eq_true rfl)) dX13_type_27 ⟨Nat.le_of_ble_eq_true rfl, Nat.le_of_ble_eq_true rfl⟩) hS (fun q _ h => hFc q h) hFc ?_
    clear hS
    intro r_6 u t H1 locs ht hvm hw hB hz1 hk1 hS
    obtain ⟨z_1, rfl⟩ : ∃ z, z = u := ⟨_, rfl⟩
    obtain ⟨hP1, hK1, hD1⟩ := hB
    rw [ht] at hP1
    have hK1 := va_K.moved hvm.symm hK1
    try dsimp only at hw
    have hPD := va_join (wr := [(qf5, .inl (cf5, 3002, .inl f5))]) (w1 := [(h0, .inr (13, z_1)), (qf4, .inl (cf4, 3008, .inl f4)), (qf7, .inl (cf7, 3002, .inl f7))]) hP hD [0, 1, 2] [3] rfl rfl (by decide) (by decide) hk1 hFc hP1 hD1
    clear hP hD
    obtain ⟨hP, hD⟩ := hPD
    replace hK := (hK.sub (tys' := [(cf5, .int)]) [2] rfl).app hK1
    clear hPc hDc hKc hFc hP1 hK1 hD1 hz1 hk1 ht hvm
    generalize H1 = H at hP hS ⊢
    replace hP : va_P (dC, dI) vwCl [(qf5, .inl (cf5, 3002, .inl f5)), (h0, .inr (13, z_1)), (qf4, .inl (cf4, 3008, .inl f4)), (qf7, .inl (cf7, 3002, .inl f7))] H := hP
    replace hD : va_D A [(qf5, .inl (cf5, 3002, .inl f5)), (h0, .inr (13, z_1)), (qf4, .inl (cf4, 3008, .inl f4)), (qf7, .inl (cf7, 3002, .inl f7))] := hD
    replace hK : va_K (dC, dI) vwCl [(cf5, .int), (cf4, .int), (cf7, .int)] s := hK
    obtain ⟨hwa_1, hln_1, hre_1⟩ := hw
    have hfk_1_4 : z_1[4]? = some (.ref qf4) := (hre_1 4 ).trans (hfs_4_4)
    have hfk_1_5 : z_1[5]? = some (.ref qf5) := (hre_1 5 ).trans (hfs_4_5)
    have hfk_1_7 : z_1[7]? = some (.ref qf7) := (hre_1 7 ).trans (hfs_4_7)
    have hfk_1_9 : z_1[9]? = some (.int v9) := (hre_1 9 ).trans (hfs_4_9)
    have hfk_1_10 : z_1[10]? = some (.int v10) := (hre_1 10 ).trans (hfs_4_10)
    have hfk_1_23 : z_1[23]? = some (.int v23) := (hre_1 23 ).trans (hfs_4_23)
    have hfk_1_45 : z_1[45]? = some (.int v45) := (hre_1 45 ).trans (hfs_4_45)
    have hfk_1_46 : z_1[46]? = some (.int v23) := (hre_1 46 ).trans (hfs_4_46)
    have hfk_1_47 : z_1[47]? = some (.int 0) := (hre_1 47 ).trans (hfs_4_47)
    have hrq_1 : ∀ j : Nat, j ≠ 10 → j ≠ 23 → j ≠ 45 → j ≠ 46 → j ≠ 47 → j ≠ 9 → z_1[j]? = zs[j]? := fun j g10 g23 g45 g46 g47 g9 => (hre_1 j ).trans (hrs_5 j g10 g23 g45 g46 g47 g9)
    obtain ⟨rfl, hz_1⟩ := hwa_1
    rcases hz_1 with rfl | rfl
    · rw [if_pos rfl] at hsp
      refine lv_if_eq (tgt := 49) hx hb dX13_type_30 (by decide) (fun c_7 => ?_) (fun c_7 => (show False by revert c_7; decide).elim)
      refine lv_aload_n hx hb dX13_type_49 rfl (lv_at hl 0 rfl) ?_
      refine lv_aload_n hx hb dX13_type_50 rfl (lv_at hl 0 rfl) ?_
      refine lv_aload_n hx hb dX13_type_51 rfl (lv_at hl 0 rfl) ?_
      refine va_get (D := (dC, dI)) (ci := 13) (v := .int v23) (C := RX13) (T := TX13) (N := 155) hx hb hts uV_h9_X13 hown hK hP 1 rfl rfl 23 (by decide) (hts (.fieldLink RX13 376 "ClassMillModel" "cursor" "I") mw_h9_67) (fun _ h9 => h9) hfk_1_23 dX13_type_52 ?_
      refine lv_bipush (v := 10) hx hb dX13_type_55 (by decide) ?_
      obtain ⟨u2_0, hu_2, hsp⟩ := ox_bind hsp
      try dsimp only at hsp
      have hPc := hP.sub (ws' := [(h0, .inr (13, z_1)), (qf4, .inl (cf4, 3008, .inl f4)), (qf7, .inl (cf7, 3002, .inl f7))]) [1, 2, 3] rfl
      have hDc := hD.sub (ws' := [(h0, .inr (13, z_1)), (qf4, .inl (cf4, 3008, .inl f4)), (qf7, .inl (cf7, 3002, .inl f7))]) [1, 2, 3] (by decide) rfl
      have hKc := hK.sub (tys' := [(cf4, .int), (cf7, .int)]) [1, 2] rfl
      have hFc := va_free (wc := [(h0, .inr (13, z_1)), (qf4, .inl (cf4, 3008, .inl f4)), (qf7, .inl (cf7, 3002, .inl f7))]) hD hS hA [1, 2, 3] rfl
      refine va_calli (va_runV (As := [.int v23, .int 10]) (rest := [.ref h0]) ⟨hx, hb, hml, hown, hts⟩ (tm_isWord l dC dI H.size h0 z_1 v23 10 qf4 qf7 cf4 f4 cf7 f7 nf u2_0 hln_1 hfk_1_4 hfk_1_7 hu_2) (cwV 2 hts gv_h9_8 rfl rfl rfl (by decide +kernel) ⟨Nat.le_of_ble_eq_true rfl, Nat.le_of_ble_eq_true rfl⟩) ⟨fun a U g mk q => by obtain ⟨q0, q1, qP, qK, qD⟩ := q; exact ⟨q0, q1, qP, va_K.moved (u := U) (U := U.calling g mk a) (Vm.Alike.refl U.vm) qK, qD⟩, va_recv hKc hPc (ci := 13) (q0 := 0) rfl rfl, fun U hU hW => ⟨rfl, by rw [hU], by rw [hU]; exact hPc, va_K.moved hW.alike hKc, hDc.weaken (fun _ _ _ _ => trivial)⟩⟩ rfl rfl hl.1 rfl (lv_room (Nat.le_of_ble_eq_true rfl)) dX13_type_57 ⟨Nat.le_of_ble_eq_true rfl, Nat.le_of_ble_eq_true rfl⟩) hS (fun q _ h => hFc q h) hFc ?_
      clear hS
      intro r_8 u t H1 locs ht hvm hw hB hz1 hk1 hS
      obtain ⟨z_2, rfl⟩ : ∃ z, z = u := ⟨_, rfl⟩
      obtain ⟨hP1, hK1, hD1⟩ := hB
      rw [ht] at hP1
      have hK1 := va_K.moved hvm.symm hK1
      try dsimp only at hw
      have hPD := va_join (wr := [(qf5, .inl (cf5, 3002, .inl f5))]) (w1 := [(h0, .inr (13, z_2)), (qf4, .inl (cf4, 3008, .inl f4)), (qf7, .inl (cf7, 3002, .inl f7))]) hP hD [1, 2, 3] [0] rfl rfl (by decide) (by decide) hk1 hFc hP1 hD1
      clear hP hD
      obtain ⟨hP, hD⟩ := hPD
      replace hK := (hK.sub (tys' := [(cf5, .int)]) [0] rfl).app hK1
      clear hPc hDc hKc hFc hP1 hK1 hD1 hz1 hk1 ht hvm
      generalize H1 = H at hP hS ⊢
      replace hP : va_P (dC, dI) vwCl [(qf5, .inl (cf5, 3002, .inl f5)), (h0, .inr (13, z_2)), (qf4, .inl (cf4, 3008, .inl f4)), (qf7, .inl (cf7, 3002, .inl f7))] H := hP
      replace hD : va_D A [(qf5, .inl (cf5, 3002, .inl f5)), (h0, .inr (13, z_2)), (qf4, .inl (cf4, 3008, .inl f4)), (qf7, .inl (cf7, 3002, .inl f7))] := hD
      replace hK : va_K (dC, dI) vwCl [(cf5, .int), (cf4, .int), (cf7, .int)] s := hK
      obtain ⟨hwa_2, hln_2, hre_2⟩ := hw
      have hfk_2_4 : z_2[4]? = some (.ref qf4) := (hre_2 4 ).trans (hfk_1_4)
      have hfk_2_5 : z_2[5]? = some (.ref qf5) := (hre_2 5 ).trans (hfk_1_5)
      have hfk_2_7 : z_2[7]? = some (.ref qf7) := (hre_2 7 ).trans (hfk_1_7)
      have hfk_2_9 : z_2[9]? = some (.int v9) := (hre_2 9 ).trans (hfk_1_9)
      have hfk_2_10 : z_2[10]? = some (.int v10) := (hre_2 10 ).trans (hfk_1_10)
      have hfk_2_23 : z_2[23]? = some (.int v23) := (hre_2 23 ).trans (hfk_1_23)
      have hfk_2_45 : z_2[45]? = some (.int v45) := (hre_2 45 ).trans (hfk_1_45)
      have hfk_2_46 : z_2[46]? = some (.int v23) := (hre_2 46 ).trans (hfk_1_46)
      have hfk_2_47 : z_2[47]? = some (.int 0) := (hre_2 47 ).trans (hfk_1_47)
      have hrq_2 : ∀ j : Nat, j ≠ 10 → j ≠ 23 → j ≠ 45 → j ≠ 46 → j ≠ 47 → j ≠ 9 → z_2[j]? = zs[j]? := fun j g10 g23 g45 g46 g47 g9 => (hre_2 j ).trans (hrq_1 j g10 g23 g45 g46 g47 g9)
      obtain ⟨rfl, hz_2⟩ := hwa_2
      rcases hz_2 with rfl | rfl
      · rw [if_pos rfl] at hsp
        refine lv_if_eq (tgt := 67) hx hb dX13_type_60 (by decide) (fun c_9 => ?_) (fun c_9 => (show False by revert c_9; decide).elim)
        refine lv_iconst (v := 3) hx hb dX13_type_67 (by decide) ?_
        exact hj_68 (H, locs, ls, z_2, 3, v10, v23, v45, v23, 0, v9) ⟨lv_sub hl [0] rfl, hS, hD.sub (ws' := [(h0, .inr (13, z_2)), (qf4, .inl (cf4, 3008, .inl f4)), (qf7, .inl (cf7, 3002, .inl f7)), (qf5, .inl (cf5, 3002, .inl f5))]) [1, 2, 3, 0] (by decide) rfl, hP.sub (ws' := [(h0, .inr (13, z_2)), (qf4, .inl (cf4, 3008, .inl f4)), (qf7, .inl (cf7, 3002, .inl f7)), (qf5, .inl (cf5, 3002, .inl f5))]) [1, 2, 3, 0] rfl, hfk_2_4, hfk_2_5, hfk_2_7, hfk_2_9, hfk_2_10, hfk_2_23, hfk_2_45, hfk_2_46, hfk_2_47, hln_2, hrq_2, hsp⟩
      · rw [if_neg (by decide)] at hsp
        refine lv_if_eq (tgt := 67) hx hb dX13_type_60 (by decide) (fun c_10 => (show False by revert c_10; decide).elim) (fun c_10 => ?_)
        refine lv_iconst (v := 0) hx hb dX13_type_63 (by decide) ?_
        refine lv_goto (tgt := 68) hx hb dX13_type_64 (by decide) ?_
        exact hj_68 (H, locs, ls, z_2, 0, v10, v23, v45, v23, 0, v9) ⟨lv_sub hl [0] rfl, hS, hD.sub (ws' := [(h0, .inr (13, z_2)), (qf4, .inl (cf4, 3008, .inl f4)), (qf7, .inl (cf7, 3002, .inl f7)), (qf5, .inl (cf5, 3002, .inl f5))]) [1, 2, 3, 0] (by decide) rfl, hP.sub (ws' := [(h0, .inr (13, z_2)), (qf4, .inl (cf4, 3008, .inl f4)), (qf7, .inl (cf7, 3002, .inl f7)), (qf5, .inl (cf5, 3002, .inl f5))]) [1, 2, 3, 0] rfl, hfk_2_4, hfk_2_5, hfk_2_7, hfk_2_9, hfk_2_10, hfk_2_23, hfk_2_45, hfk_2_46, hfk_2_47, hln_2, hrq_2, hsp⟩
    · rw [if_neg (by decide)] at hsp
      refine lv_if_eq (tgt := 49) hx hb dX13_type_30 (by decide) (fun c_11 => (show False by revert c_11; decide).elim) (fun c_11 => ?_)
      refine lv_aload_n hx hb dX13_type_33 rfl (lv_at hl 0 rfl) ?_
      refine lv_iconst (v := 1) hx hb dX13_type_34 (by decide) ?_
      refine va_put (D := (dC, dI)) (ci := 13) (v := .int 1) (ty := .int) (C := RX13) (T := TX13) (N := 155) hx hb hts uV_h9_X13 tyX13 tyX13_ok nmX13 hown hK hP hD hS 1 rfl rfl 45 (by decide) (hts (.fieldLink RX13 400 "ClassMillModel" "base" "I") mw_h9_69) (fun _ h9 => h9) rfl (by decide +kernel) rfl rfl (by rw [hln_1]; decide) dX13_type_35 ?_
      clear hP hD hS
      intro H locs hP hD hS
      obtain ⟨fs_12, efs_12⟩ : ∃ zf : List Value, zf = z_1.set 45 (.int 1) := ⟨_, rfl⟩
      rw [← efs_12] at hP hD
      have hlfs_12 : fs_12.length = 155 := by rw [efs_12, List.length_set]; exact hln_1
      have hfs_12_4 : fs_12[4]? = some (.ref qf4) := by rw [efs_12, List.getElem?_set_ne (by decide)]; exact hfk_1_4
      have hfs_12_5 : fs_12[5]? = some (.ref qf5) := by rw [efs_12, List.getElem?_set_ne (by decide)]; exact hfk_1_5
      have hfs_12_7 : fs_12[7]? = some (.ref qf7) := by rw [efs_12, List.getElem?_set_ne (by decide)]; exact hfk_1_7
      have hfs_12_9 : fs_12[9]? = some (.int v9) := by rw [efs_12, List.getElem?_set_ne (by decide)]; exact hfk_1_9
      have hfs_12_10 : fs_12[10]? = some (.int v10) := by rw [efs_12, List.getElem?_set_ne (by decide)]; exact hfk_1_10
      have hfs_12_23 : fs_12[23]? = some (.int v23) := by rw [efs_12, List.getElem?_set_ne (by decide)]; exact hfk_1_23
      have hfs_12_46 : fs_12[46]? = some (.int v23) := by rw [efs_12, List.getElem?_set_ne (by decide)]; exact hfk_1_46
      have hfs_12_47 : fs_12[47]? = some (.int 0) := by rw [efs_12, List.getElem?_set_ne (by decide)]; exact hfk_1_47
      have hfs_12_45 : fs_12[45]? = some (.int 1) := by rw [efs_12, List.getElem?_set_self (by rw [hln_1]; decide)]
      replace hP : va_P (dC, dI) vwCl [(qf5, .inl (cf5, 3002, .inl f5)), (h0, .inr (13, fs_12)), (qf4, .inl (cf4, 3008, .inl f4)), (qf7, .inl (cf7, 3002, .inl f7))] H := hP
      replace hD : va_D A [(qf5, .inl (cf5, 3002, .inl f5)), (h0, .inr (13, fs_12)), (qf4, .inl (cf4, 3008, .inl f4)), (qf7, .inl (cf7, 3002, .inl f7))] := hD
      have hrs_13 : ∀ j : Nat, j ≠ 10 → j ≠ 23 → j ≠ 45 → j ≠ 46 → j ≠ 47 → j ≠ 9 → fs_12[j]? = zs[j]? := fun j g10 g23 g45 g46 g47 g9 => ((congrArg (fun z : List Value => z[j]?) efs_12).trans (List.getElem?_set_ne (Ne.symm g45))).trans (hrq_1 j g10 g23 g45 g46 g47 g9)
      refine lv_aload_n hx hb dX13_type_38 rfl (lv_at hl 0 rfl) ?_
      refine lv_dup hx hb dX13_type_39 rfl ?_
      refine va_get (D := (dC, dI)) (ci := 13) (v := .int v23) (C := RX13) (T := TX13) (N := 155) hx hb hts uV_h9_X13 hown hK hP 1 rfl rfl 23 (by decide) (hts (.fieldLink RX13 376 "ClassMillModel" "cursor" "I") mw_h9_67) (fun _ h9 => h9) hfs_12_23 dX13_type_40 ?_
      refine lv_iconst (v := 1) hx hb dX13_type_43 (by decide) ?_
      refine lv_iadd hx hb dX13_type_44 ?_
      refine va_put (D := (dC, dI)) (ci := 13) (v := .int (v23 + 1)) (ty := .int) (C := RX13) (T := TX13) (N := 155) hx hb hts uV_h9_X13 tyX13 tyX13_ok nmX13 hown hK hP hD hS 1 rfl rfl 23 (by decide) (hts (.fieldLink RX13 376 "ClassMillModel" "cursor" "I") mw_h9_67) (fun _ h9 => h9) rfl (by decide +kernel) rfl rfl (by rw [hlfs_12]; decide) dX13_type_45 ?_
      clear hP hD hS
      intro H locs hP hD hS
      obtain ⟨fs_14, efs_14⟩ : ∃ zf : List Value, zf = fs_12.set 23 (.int (v23 + 1)) := ⟨_, rfl⟩
      rw [← efs_14] at hP hD
      have hlfs_14 : fs_14.length = 155 := by rw [efs_14, List.length_set]; exact hlfs_12
      have hfs_14_4 : fs_14[4]? = some (.ref qf4) := by rw [efs_14, List.getElem?_set_ne (by decide)]; exact hfs_12_4
      have hfs_14_5 : fs_14[5]? = some (.ref qf5) := by rw [efs_14, List.getElem?_set_ne (by decide)]; exact hfs_12_5
      have hfs_14_7 : fs_14[7]? = some (.ref qf7) := by rw [efs_14, List.getElem?_set_ne (by decide)]; exact hfs_12_7
      have hfs_14_9 : fs_14[9]? = some (.int v9) := by rw [efs_14, List.getElem?_set_ne (by decide)]; exact hfs_12_9
      have hfs_14_10 : fs_14[10]? = some (.int v10) := by rw [efs_14, List.getElem?_set_ne (by decide)]; exact hfs_12_10
      have hfs_14_46 : fs_14[46]? = some (.int v23) := by rw [efs_14, List.getElem?_set_ne (by decide)]; exact hfs_12_46
      have hfs_14_47 : fs_14[47]? = some (.int 0) := by rw [efs_14, List.getElem?_set_ne (by decide)]; exact hfs_12_47
      have hfs_14_45 : fs_14[45]? = some (.int 1) := by rw [efs_14, List.getElem?_set_ne (by decide)]; exact hfs_12_45
      have hfs_14_23 : fs_14[23]? = some (.int (v23 + 1)) := by rw [efs_14, List.getElem?_set_self (by rw [hlfs_12]; decide)]
      replace hP : va_P (dC, dI) vwCl [(qf5, .inl (cf5, 3002, .inl f5)), (h0, .inr (13, fs_14)), (qf4, .inl (cf4, 3008, .inl f4)), (qf7, .inl (cf7, 3002, .inl f7))] H := hP
      replace hD : va_D A [(qf5, .inl (cf5, 3002, .inl f5)), (h0, .inr (13, fs_14)), (qf4, .inl (cf4, 3008, .inl f4)), (qf7, .inl (cf7, 3002, .inl f7))] := hD
      have hrs_15 : ∀ j : Nat, j ≠ 10 → j ≠ 23 → j ≠ 45 → j ≠ 46 → j ≠ 47 → j ≠ 9 → fs_14[j]? = zs[j]? := fun j g10 g23 g45 g46 g47 g9 => ((congrArg (fun z : List Value => z[j]?) efs_14).trans (List.getElem?_set_ne (Ne.symm g23))).trans (hrs_13 j g10 g23 g45 g46 g47 g9)
      have hr0 := Option.some.inj hsp
      clear hsp
      obtain ⟨hq0, hr1⟩ := Prod.mk.inj hr0
      clear hr0
      obtain ⟨hq1, hr2⟩ := Prod.mk.inj hr1
      clear hr1
      obtain ⟨hq2, hr3⟩ := Prod.mk.inj hr2
      clear hr2
      obtain ⟨hq3, hr4⟩ := Prod.mk.inj hr3
      clear hr3
      obtain ⟨hq4, hr5⟩ := Prod.mk.inj hr4
      clear hr4
      subst hq0
      subst hq1
      subst hq2
      subst hq3
      subst hq4
      subst hr5
      have hP9 := hP.sub (ws' := [(h0, .inr (13, fs_14)), (qf4, .inl (cf4, 3008, .inl f4)), (qf7, .inl (cf7, 3002, .inl f7)), (qf5, .inl (cf5, 3002, .inl f5))]) [1, 2, 3, 0] rfl
      have hD9 := hD.sub (ws' := [(h0, .inr (13, fs_14)), (qf4, .inl (cf4, 3008, .inl f4)), (qf7, .inl (cf7, 3002, .inl f7)), (qf5, .inl (cf5, 3002, .inl f5))]) [1, 2, 3, 0] (by decide) rfl
      have hK9 := hK.sub (tys' := [(cf4, .int), (cf7, .int), (cf5, .int)]) [1, 2, 0] rfl
      exact W.vret hx hb hr (fun t ht hW => ⟨⟨(fs_14), rfl, ⟨trivial, hlfs_14, hrs_15, hfs_14_10, hfs_14_23, hfs_14_45, hfs_14_46, hfs_14_47, hfs_14_9⟩, by rw [ht]; exact hP9, va_K.moved hW.alike hK9, hD9⟩, hS.F ht⟩) hS.2.2 dX13_type_48
  · rw [if_neg c_1] at hsp
    have hr0 := Option.some.inj hsp
    clear hsp
    obtain ⟨hq0, hr1⟩ := Prod.mk.inj hr0
    clear hr0
    obtain ⟨hq1, hr2⟩ := Prod.mk.inj hr1
    clear hr1
    obtain ⟨hq2, hr3⟩ := Prod.mk.inj hr2
    clear hr2
    obtain ⟨hq3, hr4⟩ := Prod.mk.inj hr3
    clear hr3
    obtain ⟨hq4, hr5⟩ := Prod.mk.inj hr4
    clear hr4
    subst hq0
    subst hq1
    subst hq2
    subst hq3
    subst hq4
    subst hr5
    have hP9 := hP.sub (ws' := [(h0, .inr (13, zs)), (qf4, .inl (cf4, 3008, .inl f4)), (qf7, .inl (cf7, 3002, .inl f7)), (qf5, .inl (cf5, 3002, .inl f5))]) [0, 1, 2, 3] rfl
    have hD9 := hD.sub (ws' := [(h0, .inr (13, zs)), (qf4, .inl (cf4, 3008, .inl f4)), (qf7, .inl (cf7, 3002, .inl f7)), (qf5, .inl (cf5, 3002, .inl f5))]) [0, 1, 2, 3] (by decide) rfl
    have hK9 := hK.sub (tys' := [(cf4, .int), (cf7, .int), (cf5, .int)]) [0, 1, 2] rfl
    exact W.vret hx hb hr (fun t ht hW => ⟨⟨(zs), rfl, ⟨trivial, hlen, hrs0, hf10, hf23, hf45, hf46, hf47, hf9⟩, by rw [ht]; exact hP9, va_K.moved hW.alike hK9, hD9⟩, hS.F ht⟩) hS.2.2 dX13_type_7
def sp_vm_strength (nf : Nat) (a1 : Int32) (f4 : Nat → Int32) (f7 : Nat → Int32) : Option (Int32) := ((sp_tm_isWord nf a1 9 f4 f7).bind (fun p1 => (if p1 = 0 then (if a1 < 0 then none else if 3008 ≤ (a1 : Int32).toNatClampNeg then none else (if (f4 (a1 : Int32).toNatClampNeg) = 4 then (if a1 < 0 then none else if 3002 ≤ (a1 : Int32).toNatClampNeg then none else ((sp_tm_sign nf 0 124 124).bind (fun p2 => (if (f7 (a1 : Int32).toNatClampNeg) = p2 then (some 0) else ((sp_tm_sign nf 0 38 38).bind (fun p3 => (if (f7 (a1 : Int32).toNatClampNeg) = p3 then (some 1) else (if (f7 (a1 : Int32).toNatClampNeg) = 124 then (some 2) else (if (f7 (a1 : Int32).toNatClampNeg) = 94 then (some 3) else (if (f7 (a1 : Int32).toNatClampNeg) = 38 then (some 4) else ((sp_tm_sign nf 0 61 61).bind (fun p4 => (if (f7 (a1 : Int32).toNatClampNeg) = p4 then (some 5) else ((sp_tm_sign nf 0 33 61).bind (fun p5 => (if (f7 (a1 : Int32).toNatClampNeg) = p5 then (some 5) else (if (f7 (a1 : Int32).toNatClampNeg) = 60 then (some 6) else (if (f7 (a1 : Int32).toNatClampNeg) = 62 then (some 6) else ((sp_tm_sign nf 0 60 61).bind (fun p6 => (if (f7 (a1 : Int32).toNatClampNeg) = p6 then (some 6) else ((sp_tm_sign nf 0 62 61).bind (fun p7 => (if (f7 (a1 : Int32).toNatClampNeg) = p7 then (some 6) else ((sp_tm_sign nf 0 60 60).bind (fun p8 => (if (f7 (a1 : Int32).toNatClampNeg) = p8 then (some 7) else ((sp_tm_sign nf 0 62 62).bind (fun p9 => (if (f7 (a1 : Int32).toNatClampNeg) = p9 then (some 7) else ((sp_tm_sign nf 62 62 62).bind (fun p10 => (if (f7 (a1 : Int32).toNatClampNeg) = p10 then (some 7) else (if (f7 (a1 : Int32).toNatClampNeg) = 43 then (some 8) else (if (f7 (a1 : Int32).toNatClampNeg) = 45 then (some 8) else (if (f7 (a1 : Int32).toNatClampNeg) = 42 then (some 9) else (if (f7 (a1 : Int32).toNatClampNeg) = 47 then (some 9) else (if (f7 (a1 : Int32).toNatClampNeg) = 37 then (some 9) else (some (-1)))))))))))))))))))))))))))))))))))))))) else (some (-1)))) else (some 6))))
