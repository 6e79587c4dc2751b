set_option maxHeartbeats 4000000 in
set_option maxRecDepth 100000 in
/-- ClassMill$Verifier.tellNumber -/
theorem t11_tellNumber (l : Launch) (dC : Nat → ClassId) (dI : Nat → Nat → Nat) (sz : Nat) (h0 : Nat) (a1 : Int32) (a2 : Int32) (a3 : Int32) (a4 : Int32) (qf0 : Nat) (qf1 : Nat) (v2 : Int32) (v3 : Int32) (v4 : Int32) (qf5 : Nat) (v6 : Int32) (v7 : Int32) (qf8 : Nat) (qf9 : Nat) (qf10 : Nat) (qf11 : Nat) (qf12 : Nat) (qf13 : Nat) (qf14 : Nat) (qf15 : Nat) (v16 : Int32) (v17 : Int32) (v18 : Int32) (v19 : Int32) (v20 : Int32) (nf : Nat) (r0 : Int32) (w2 : Int32) (w3 : Int32) (w4 : Int32) (hsp : sp_t11_tellNumber nf a1 a2 a3 a4 = some (r0, w2, w3, w4)) : Met l yX11_tellNumber (.code yX11_tellNumber cX11_tellNumber 5 (some .int) :: VS_h3) ({ frames := 0, cells := 0, slots := 0, locals := 0 }) (va_Pc [.ref h0, .int a1, .int a2, .int a3, .int a4] (fun U => U.heap.size = sz ∧ va_P (dC, dI) vwCl [(h0, .inr (11, [.ref qf0, .ref qf1, .int v2, .int v3, .int v4, .ref qf5, .int v6, .int v7, .ref qf8, .ref qf9, .ref qf10, .ref qf11, .ref qf12, .ref qf13, .ref qf14, .ref qf15, .int v16, .int v17, .int v18, .int v19, .int v20]))] U.heap ∧ va_K (dC, dI) vwCl [] U ∧ va_D (fun _ => True) [(h0, .inr (11, [.ref qf0, .ref qf1, .int v2, .int v3, .int v4, .ref qf5, .int v6, .int v7, .ref qf8, .ref qf9, .ref qf10, .ref qf11, .ref qf12, .ref qf13, .ref qf14, .ref qf15, .int v16, .int v17, .int v18, .int v19, .int v20]))])) (va_Qi (fun (r : Int32) (u : Unit) => match u with | () => r0 = r) (fun (u : Unit) (t : State) => match u with | () => va_P (dC, dI) vwCl [(h0, .inr (11, [.ref qf0, .ref qf1, .int w2, .int w3, .int w4, .ref qf5, .int v6, .int v7, .ref qf8, .ref qf9, .ref qf10, .ref qf11, .ref qf12, .ref qf13, .ref qf14, .ref qf15, .int v16, .int v17, .int v18, .int v19, .int v20]))] t.heap ∧ va_K (dC, dI) vwCl [] t ∧ va_D (va_A [(h0, .inr (11, [.ref qf0, .ref qf1, .int v2, .int v3, .int v4, .ref qf5, .int v6, .int v7, .ref qf8, .ref qf9, .ref qf10, .ref qf11, .ref qf12, .ref qf13, .ref qf14, .ref qf15, .int v16, .int v17, .int v18, .int v19, .int v20]))] sz) [(h0, .inr (11, [.ref qf0, .ref qf1, .int w2, .int w3, .int w4, .ref qf5, .int v6, .int v7, .ref qf8, .ref qf9, .ref qf10, .ref qf11, .ref qf12, .ref qf13, .ref qf14, .ref qf15, .int v16, .int v17, .int v18, .int v19, .int v20]))]) (va_A [(h0, .inr (11, [.ref qf0, .ref qf1, .int v2, .int v3, .int v4, .ref qf5, .int v6, .int v7, .ref qf8, .ref qf9, .ref qf10, .ref qf11, .ref qf12, .ref qf13, .ref qf14, .ref qf15, .int v16, .int v17, .int v18, .int v19, .int v20]))] sz)) 0 0 (va_A [(h0, .inr (11, [.ref qf0, .ref qf1, .int v2, .int v3, .int v4, .ref qf5, .int v6, .int v7, .ref qf8, .ref qf9, .ref qf10, .ref qf11, .ref qf12, .ref qf13, .ref qf14, .ref qf15, .int v16, .int v17, .int v18, .int v19, .int v20]))] sz) := by
  refine Met.ofW (cc := cX11_tellNumber) (maxL := 5) (ret := (some .int)) (by decide) rfl ?_
  intro p e s m args below meth c s₁ B hml hv
  obtain ⟨rfl, hsz, hP, hK, hD0⟩ := hv
  have hx := B.exec
  have hb := B.bytes
  have hr := B.returns
  have hts := atoms_spec (ws := (.code yX11_tellNumber cX11_tellNumber 5 (some .int) :: VS_h3)) B.pre
  replace hts := fun w (h : w ∈ VS_h3) => hts w (List.mem_cons_of_mem _ h)
  have hown : s.vm.findClass RX11 = some m.cls := findClass_of_methodNamed B.named
  have hlocks := B.notSynchronized
  subst hsz
  have hD := hD0.self (sz := s.heap.size)
  generalize hAe : va_A [(h0, .inr (11, [.ref qf0, .ref qf1, .int v2, .int v3, .int v4, .ref qf5, .int v6, .int v7, .ref qf8, .ref qf9, .ref qf10, .ref qf11, .ref qf12, .ref qf13, .ref qf14, .ref qf15, .int v16, .int v17, .int v18, .int v19, .int v20]))] s.heap.size = A at hD  ⊢
  have hA : ∀ q : Nat, s.heap.size ≤ q → A q := fun q h => by rw [← hAe]; exact Or.inr h
  have hP : va_P (dC, dI) vwCl [(h0, .inr (11, [.ref qf0, .ref qf1, .int v2, .int v3, .int v4, .ref qf5, .int v6, .int v7, .ref qf8, .ref qf9, .ref qf10, .ref qf11, .ref qf12, .ref qf13, .ref qf14, .ref qf15, .int v16, .int v17, .int v18, .int v19, .int v20]))] s.heap := hP
  have hl := lv_entry ([.ref h0, .int a1, .int a2, .int a3, .int a4]) (n := 5) (Nat.le_of_ble_eq_true rfl)
  rw [lg_entry_eq]
  generalize (lg_sl ([.ref h0, .int a1, .int a2, .int a3, .int a4]) ++ List.replicate (5 - (lg_sl ([.ref h0, .int a1, .int a2, .int a3, .int a4])).length) Slot.unset).toArray = ls at hl ⊢
  have hl : lv_has ls 5 [(0, .ref h0), (1, .int a1), (2, .int a2), (3, .int a3), (4, .int a4)] := hl
  obtain ⟨H, hH⟩ : ∃ H : Heap, s.heap = H := ⟨_, rfl⟩
  rw [hH] at hP ⊢
  have hS : va_S A s.heap H [] := by rw [← hH]; exact va_S.rf
  obtain ⟨locs, hlo⟩ : ∃ locs : List Loc, locs = [] := ⟨_, rfl⟩
  rw [← hlo] at hS ⊢
  unfold sp_t11_tellNumber at hsp
  refine lv_aload_n hx hb dX11_tellNumber_0 rfl (lv_at hl 0 rfl) ?_
  refine lv_iload_n hx hb dX11_tellNumber_1 rfl (lv_at hl 2 rfl) ?_
  refine va_put (D := (dC, dI)) (ci := 11) (v := .int a2) (ty := .int) (C := RX11) (T := TX11) (N := 21) hx hb hts uV_h3_X11 tyX11 tyX11_ok nmX11 hown hK hP hD hS 0 rfl rfl 2 (by decide) (hts (.fieldLink RX11 11 "ClassMill$Verifier" "toldClass" "I") mw_h3_148) (fun _ h9 => h9) rfl (by decide +kernel) rfl rfl (Nat.le_of_ble_eq_true rfl) dX11_tellNumber_2 ?_
  clear hP hD hS
  intro H locs hP hD hS
  replace hP : va_P (dC, dI) vwCl [(h0, .inr (11, [.ref qf0, .ref qf1, .int a2, .int v3, .int v4, .ref qf5, .int v6, .int v7, .ref qf8, .ref qf9, .ref qf10, .ref qf11, .ref qf12, .ref qf13, .ref qf14, .ref qf15, .int v16, .int v17, .int v18, .int v19, .int v20]))] H := hP
  replace hD : va_D A [(h0, .inr (11, [.ref qf0, .ref qf1, .int a2, .int v3, .int v4, .ref qf5, .int v6, .int v7, .ref qf8, .ref qf9, .ref qf10, .ref qf11, .ref qf12, .ref qf13, .ref qf14, .ref qf15, .int v16, .int v17, .int v18, .int v19, .int v20]))] := hD
  refine lv_aload_n hx hb dX11_tellNumber_5 rfl (lv_at hl 0 rfl) ?_
  refine lv_iload_n hx hb dX11_tellNumber_6 rfl (lv_at hl 3 rfl) ?_
  refine va_put (D := (dC, dI)) (ci := 11) (v := .int a3) (ty := .int) (C := RX11) (T := TX11) (N := 21) hx hb hts uV_h3_X11 tyX11 tyX11_ok nmX11 hown hK hP hD hS 0 rfl rfl 3 (by decide) (hts (.fieldLink RX11 17 "ClassMill$Verifier" "toldMethod" "I") mw_h3_149) (fun _ h9 => h9) rfl (by decide +kernel) rfl rfl (Nat.le_of_ble_eq_true rfl) dX11_tellNumber_7 ?_
  clear hP hD hS
  intro H locs hP hD hS
  replace hP : va_P (dC, dI) vwCl [(h0, .inr (11, [.ref qf0, .ref qf1, .int a2, .int a3, .int v4, .ref qf5, .int v6, .int v7, .ref qf8, .ref qf9, .ref qf10, .ref qf11, .ref qf12, .ref qf13, .ref qf14, .ref qf15, .int v16, .int v17, .int v18, .int v19, .int v20]))] H := hP
  replace hD : va_D A [(h0, .inr (11, [.ref qf0, .ref qf1, .int a2, .int a3, .int v4, .ref qf5, .int v6, .int v7, .ref qf8, .ref qf9, .ref qf10, .ref qf11, .ref qf12, .ref qf13, .ref qf14, .ref qf15, .int v16, .int v17, .int v18, .int v19, .int v20]))] := hD
  refine lv_aload_n hx hb dX11_tellNumber_10 rfl (lv_at hl 0 rfl) ?_
  refine lv_iload hx hb dX11_tellNumber_11 (lv_at hl 4 rfl) ?_
  refine va_put (D := (dC, dI)) (ci := 11) (v := .int a4) (ty := .int) (C := RX11) (T := TX11) (N := 21) hx hb hts uV_h3_X11 tyX11 tyX11_ok nmX11 hown hK hP hD hS 0 rfl rfl 4 (by decide) (hts (.fieldLink RX11 20 "ClassMill$Verifier" "toldPlace" "I") mw_h3_150) (fun _ h9 => h9) rfl (by decide +kernel) rfl rfl (Nat.le_of_ble_eq_true rfl) dX11_tellNumber_13 ?_
  clear hP hD hS
  intro H locs hP hD hS
  replace hP : va_P (dC, dI) vwCl [(h0, .inr (11, [.ref qf0, .ref qf1, .int a2, .int a3, .int a4, .ref qf5, .int v6, .int v7, .ref qf8, .ref qf9, .ref qf10, .ref qf11, .ref qf12, .ref qf13, .ref qf14, .ref qf15, .int v16, .int v17, .int v18, .int v19, .int v20]))] H := hP
  replace hD : va_D A [(h0, .inr (11, [.ref qf0, .ref qf1, .int a2, .int a3, .int a4, .ref qf5, .int v6, .int v7, .ref qf8, .ref qf9, .ref qf10, .ref qf11, .ref qf12, .ref qf13, .ref qf14, .ref qf15, .int v16, .int v17, .int v18, .int v19, .int v20]))] := hD
  refine lv_iload_n hx hb dX11_tellNumber_16 rfl (lv_at hl 1 rfl) ?_
  have hr0 := Option.some.inj hsp
  clear hsp
  obtain ⟨hq0, hr1⟩ := Prod.mk.inj hr0
  clear hr0
  obtain ⟨hq1, hr2⟩ := Prod.mk.inj hr1
  clear hr1
  obtain ⟨hq2, hr3⟩ := Prod.mk.inj hr2
  clear hr2
  subst hq0
  subst hq1
  subst hq2
  subst hr3
  have hP9 := hP.sub (ws' := [(h0, .inr (11, [.ref qf0, .ref qf1, .int a2, .int a3, .int a4, .ref qf5, .int v6, .int v7, .ref qf8, .ref qf9, .ref qf10, .ref qf11, .ref qf12, .ref qf13, .ref qf14, .ref qf15, .int v16, .int v17, .int v18, .int v19, .int v20]))]) [0] rfl
  have hD9 := hD.sub (ws' := [(h0, .inr (11, [.ref qf0, .ref qf1, .int a2, .int a3, .int a4, .ref qf5, .int v6, .int v7, .ref qf8, .ref qf9, .ref qf10, .ref qf11, .ref qf12, .ref qf13, .ref qf14, .ref qf15, .int v16, .int v17, .int v18, .int v19, .int v20]))]) [0] (by decide) rfl
  have hK9 := hK.sub (tys' := []) [] rfl
  exact W.iret hx hb hr (fun t ht hW => ⟨⟨(a1), (), rfl, rfl, by rw [ht]; exact hP9, va_K.moved hW.alike hK9, hD9⟩, hS.F ht⟩) hS.2.2 dX11_tellNumber_17
def sp_t11_at (nf : Nat) (a1 : Int32) (a2 : Int32) : Option (Int32 × Int32) := (some (a1, a2))
set_option maxHeartbeats 4000000 in
set_option maxRecDepth 100000 in
/-- ClassMill$Verifier.at -/
theorem t11_at (l : Launch) (dC : Nat → ClassId) (dI : Nat → Nat → Nat) (sz : Nat) (h0 : Nat) (a1 : Int32) (a2 : Int32) (qf0 : Nat) (qf1 : Nat) (v2 : Int32) (v3 : Int32) (v4 : Int32) (qf5 : Nat) (v6 : Int32) (v7 : Int32) (qf8 : Nat) (qf9 : Nat) (qf10 : Nat) (qf11 : Nat) (qf12 : Nat) (qf13 : Nat) (qf14 : Nat) (qf15 : Nat) (v16 : Int32) (v17 : Int32) (v18 : Int32) (v19 : Int32) (v20 : Int32) (nf : Nat) (r0 : Int32) (w7 : Int32) (hsp : sp_t11_at nf a1 a2 = some (r0, w7)) : Met l yX11_at (.code yX11_at cX11_at 3 (some .int) :: VS_h3) ({ frames := 0, cells := 0, slots := 0, locals := 0 }) (va_Pc [.ref h0, .int a1, .int a2] (fun U => U.heap.size = sz ∧ va_P (dC, dI) vwCl [(h0, .inr (11, [.ref qf0, .ref qf1, .int v2, .int v3, .int v4, .ref qf5, .int v6, .int v7, .ref qf8, .ref qf9, .ref qf10, .ref qf11, .ref qf12, .ref qf13, .ref qf14, .ref qf15, .int v16, .int v17, .int v18, .int v19, .int v20]))] U.heap ∧ va_K (dC, dI) vwCl [] U ∧ va_D (fun _ => True) [(h0, .inr (11, [.ref qf0, .ref qf1, .int v2, .int v3, .int v4, .ref qf5, .int v6, .int v7, .ref qf8, .ref qf9, .ref qf10, .ref qf11, .ref qf12, .ref qf13, .ref qf14, .ref qf15, .int v16, .int v17, .int v18, .int v19, .int v20]))])) (va_Qi (fun (r : Int32) (u : Unit) => match u with | () => r0 = r) (fun (u : Unit) (t : State) => match u with | () => va_P (dC, dI) vwCl [(h0, .inr (11, [.ref qf0, .ref qf1, .int v2, .int v3, .int v4, .ref qf5, .int v6, .int w7, .ref qf8, .ref qf9, .ref qf10, .ref qf11, .ref qf12, .ref qf13, .ref qf14, .ref qf15, .int v16, .int v17, .int v18, .int v19, .int v20]))] t.heap ∧ va_K (dC, dI) vwCl [] t ∧ va_D (va_A [(h0, .inr (11, [.ref qf0, .ref qf1, .int v2, .int v3, .int v4, .ref qf5, .int v6, .int v7, .ref qf8, .ref qf9, .ref qf10, .ref qf11, .ref qf12, .ref qf13, .ref qf14, .ref qf15, .int v16, .int v17, .int v18, .int v19, .int v20]))] sz) [(h0, .inr (11, [.ref qf0, .ref qf1, .int v2, .int v3, .int v4, .ref qf5, .int v6, .int w7, .ref qf8, .ref qf9, .ref qf10, .ref qf11, .ref qf12, .ref qf13, .ref qf14, .ref qf15, .int v16, .int v17, .int v18, .int v19, .int v20]))]) (va_A [(h0, .inr (11, [.ref qf0, .ref qf1, .int v2, .int v3, .int v4, .ref qf5, .int v6, .int v7, .ref qf8, .ref qf9, .ref qf10, .ref qf11, .ref qf12, .ref qf13, .ref qf14, .ref qf15, .int v16, .int v17, .int v18, .int v19, .int v20]))] sz)) 0 0 (va_A [(h0, .inr (11, [.ref qf0, .ref qf1, .int v2, .int v3, .int v4, .ref qf5, .int v6, .int v7, .ref qf8, .ref qf9, .ref qf10, .ref qf11, .ref qf12, .ref qf13, .ref qf14, .ref qf15, .int v16, .int v17, .int v18, .int v19, .int v20]))] sz) := by
  refine Met.ofW (cc := cX11_at) (maxL := 3) (ret := (some .int)) (by decide) rfl ?_
  intro p e s m args below meth c s₁ B hml hv
  obtain ⟨rfl, hsz, hP, hK, hD0⟩ := hv
  have hx := B.exec
  have hb := B.bytes
  have hr := B.returns
  have hts := atoms_spec (ws := (.code yX11_at cX11_at 3 (some .int) :: VS_h3)) B.pre
  replace hts := fun w (h : w ∈ VS_h3) => hts w (List.mem_cons_of_mem _ h)
  have hown : s.vm.findClass RX11 = some m.cls := findClass_of_methodNamed B.named
  have hlocks := B.notSynchronized
  subst hsz
  have hD := hD0.self (sz := s.heap.size)
  generalize hAe : va_A [(h0, .inr (11, [.ref qf0, .ref qf1, .int v2, .int v3, .int v4, .ref qf5, .int v6, .int v7, .ref qf8, .ref qf9, .ref qf10, .ref qf11, .ref qf12, .ref qf13, .ref qf14, .ref qf15, .int v16, .int v17, .int v18, .int v19, .int v20]))] s.heap.size = A at hD  ⊢
  have hA : ∀ q : Nat, s.heap.size ≤ q → A q := fun q h => by rw [← hAe]; exact Or.inr h
  have hP : va_P (dC, dI) vwCl [(h0, .inr (11, [.ref qf0, .ref qf1, .int v2, .int v3, .int v4, .ref qf5, .int v6, .int v7, .ref qf8, .ref qf9, .ref qf10, .ref qf11, .ref qf12, .ref qf13, .ref qf14, .ref qf15, .int v16, .int v17, .int v18, .int v19, .int v20]))] s.heap := hP
  have hl := lv_entry ([.ref h0, .int a1, .int a2]) (n := 3) (Nat.le_of_ble_eq_true rfl)
  rw [lg_entry_eq]
  generalize (lg_sl ([.ref h0, .int a1, .int a2]) ++ List.replicate (3 - (lg_sl ([.ref h0, .int a1, .int a2])).length) Slot.unset).toArray = ls at hl ⊢
  have hl : lv_has ls 3 [(0, .ref h0), (1, .int a1), (2, .int a2)] := hl
  obtain ⟨H, hH⟩ : ∃ H : Heap, s.heap = H := ⟨_, rfl⟩
  rw [hH] at hP ⊢
  have hS : va_S A s.heap H [] := by rw [← hH]; exact va_S.rf
  obtain ⟨locs, hlo⟩ : ∃ locs : List Loc, locs = [] := ⟨_, rfl⟩
  rw [← hlo] at hS ⊢
  unfold sp_t11_at at hsp
  refine lv_aload_n hx hb dX11_at_0 rfl (lv_at hl 0 rfl) ?_
  refine lv_iload_n hx hb dX11_at_1 rfl (lv_at hl 2 rfl) ?_
  refine va_put (D := (dC, dI)) (ci := 11) (v := .int a2) (ty := .int) (C := RX11) (T := TX11) (N := 21) hx hb hts uV_h3_X11 tyX11 tyX11_ok nmX11 hown hK hP hD hS 0 rfl rfl 7 (by decide) (hts (.fieldLink RX11 129 "ClassMill$Verifier" "place" "I") mw_h3_151) (fun _ h9 => h9) rfl (by decide +kernel) rfl rfl (Nat.le_of_ble_eq_true rfl) dX11_at_2 ?_
  clear hP hD hS
  intro H locs hP hD hS
  replace hP : va_P (dC, dI) vwCl [(h0, .inr (11, [.ref qf0, .ref qf1, .int v2, .int v3, .int v4, .ref qf5, .int v6, .int a2, .ref qf8, .ref qf9, .ref qf10, .ref qf11, .ref qf12, .ref qf13, .ref qf14, .ref qf15, .int v16, .int v17, .int v18, .int v19, .int v20]))] H := hP
  replace hD : va_D A [(h0, .inr (11, [.ref qf0, .ref qf1, .int v2, .int v3, .int v4, .ref qf5, .int v6, .int a2, .ref qf8, .ref qf9, .ref qf10, .ref qf11, .ref qf12, .ref qf13, .ref qf14, .ref qf15, .int v16, .int v17, .int v18, .int v19, .int v20]))] := hD
  refine lv_iload_n hx hb dX11_at_5 rfl (lv_at hl 1 rfl) ?_
  have hr0 := Option.some.inj hsp
  clear hsp
  obtain ⟨hq0, hr1⟩ := Prod.mk.inj hr0
  clear hr0
  subst hq0
  subst hr1
  have hP9 := hP.sub (ws' := [(h0, .inr (11, [.ref qf0, .ref qf1, .int v2, .int v3, .int v4, .ref qf5, .int v6, .int a2, .ref qf8, .ref qf9, .ref qf10, .ref qf11, .ref qf12, .ref qf13, .ref qf14, .ref qf15, .int v16, .int v17, .int v18, .int v19, .int v20]))]) [0] rfl
  have hD9 := hD.sub (ws' := [(h0, .inr (11, [.ref qf0, .ref qf1, .int v2, .int v3, .int v4, .ref qf5, .int v6, .int a2, .ref qf8, .ref qf9, .ref qf10, .ref qf11, .ref qf12, .ref qf13, .ref qf14, .ref qf15, .int v16, .int v17, .int v18, .int v19, .int v20]))]) [0] (by decide) rfl
  have hK9 := hK.sub (tys' := []) [] rfl
  exact W.iret hx hb hr (fun t ht hW => ⟨⟨(a1), (), rfl, rfl, by rw [ht]; exact hP9, va_K.moved hW.alike hK9, hD9⟩, hS.F ht⟩) hS.2.2 dX11_at_6
def sp_t11_info (nf : Nat) (a1 : Int32) (v6 : Int32) (v5_12 : Int32) (f5_13 : Nat → Int32) : Option (Int32) := ((sp_t3_of nf v6 a1 v5_12 f5_13).bind (fun p1 => (some p1)))
set_option maxHeartbeats 4000000 in
set_option maxRecDepth 100000 in
/-- ClassMill$Verifier.info -/
theorem t11_info (l : Launch) (dC : Nat → ClassId) (dI : Nat → Nat → Nat) (sz : Nat) (h0 : Nat) (a1 : Int32) (qf0 : Nat) (qf1 : Nat) (v2 : Int32) (v3 : Int32) (v4 : Int32) (qf5 : Nat) (v6 : Int32) (v7 : Int32) (qf8 : Nat) (qf9 : Nat) (qf10 : Nat) (qf11 : Nat) (qf12 : Nat) (qf13 : Nat) (qf14 : Nat) (qf15 : Nat) (v16 : Int32) (v17 : Int32) (v18 : Int32) (v19 : Int32) (v20 : Int32) (qf5_0 : Nat) (v5_1 : Int32) (v5_2 : Int32) (v5_3 : Int32) (qf5_4 : Nat) (qf5_5 : Nat) (qf5_6 : Nat) (v5_7 : Int32) (v5_8 : Int32) (v5_9 : Int32) (v5_10 : Int32) (qf5_11 : Nat) (v5_12 : Int32) (qf5_13 : Nat) (cf5_13 : ClassId) (f5_13 : (Nat → Int32)) (nf : Nat) (r0 : Int32) (hsp : sp_t11_info nf a1 v6 v5_12 f5_13 = some r0) : Met l yX11_info (.code yX11_info cX11_info 2 (some .int) :: VS_h3) ({ frames := 1, cells := 0, slots := 0, locals := 23 }) (va_Pc [.ref h0, .int a1] (fun U => U.heap.size = sz ∧ va_P (dC, dI) vwCl [(h0, .inr (11, [.ref qf0, .ref qf1, .int v2, .int v3, .int v4, .ref qf5, .int v6, .int v7, .ref qf8, .ref qf9, .ref qf10, .ref qf11, .ref qf12, .ref qf13, .ref qf14, .ref qf15, .int v16, .int v17, .int v18, .int v19, .int v20])), (qf5, .inr (3, [.ref qf5_0, .int v5_1, .int v5_2, .int v5_3, .ref qf5_4, .ref qf5_5, .ref qf5_6, .int v5_7, .int v5_8, .int v5_9, .int v5_10, .ref qf5_11, .int v5_12, .ref qf5_13])), (qf5_13, .inl (cf5_13, 144, .inl f5_13))] U.heap ∧ va_K (dC, dI) vwCl [(cf5_13, .int)] U ∧ va_D (fun _ => True) [(h0, .inr (11, [.ref qf0, .ref qf1, .int v2, .int v3, .int v4, .ref qf5, .int v6, .int v7, .ref qf8, .ref qf9, .ref qf10, .ref qf11, .ref qf12, .ref qf13, .ref qf14, .ref qf15, .int v16, .int v17, .int v18, .int v19, .int v20])), (qf5, .inr (3, [.ref qf5_0, .int v5_1, .int v5_2, .int v5_3, .ref qf5_4, .ref qf5_5, .ref qf5_6, .int v5_7, .int v5_8, .int v5_9, .int v5_10, .ref qf5_11, .int v5_12, .ref qf5_13])), (qf5_13, .inl (cf5_13, 144, .inl f5_13))])) (va_Qi (fun (r : Int32) (u : Unit) => match u with | () => r0 = r) (fun (u : Unit) (t : State) => match u with | () => va_P (dC, dI) vwCl [(h0, .inr (11, [.ref qf0, .ref qf1, .int v2, .int v3, .int v4, .ref qf5, .int v6, .int v7, .ref qf8, .ref qf9, .ref qf10, .ref qf11, .ref qf12, .ref qf13, .ref qf14, .ref qf15, .int v16, .int v17, .int v18, .int v19, .int v20])), (qf5, .inr (3, [.ref qf5_0, .int v5_1, .int v5_2, .int v5_3, .ref qf5_4, .ref qf5_5, .ref qf5_6, .int v5_7, .int v5_8, .int v5_9, .int v5_10, .ref qf5_11, .int v5_12, .ref qf5_13])), (qf5_13, .inl (cf5_13, 144, .inl f5_13))] t.heap ∧ va_K (dC, dI) vwCl [(cf5_13, .int)] t ∧ va_D (va_A [(h0, .inr (11, [.ref qf0, .ref qf1, .int v2, .int v3, .int v4, .ref qf5, .int v6, .int v7, .ref qf8, .ref qf9, .ref qf10, .ref qf11, .ref qf12, .ref qf13, .ref qf14, .ref qf15, .int v16, .int v17, .int v18, .int v19, .int v20])), (qf5, .inr (3, [.ref qf5_0, .int v5_1, .int v5_2, .int v5_3, .ref qf5_4, .ref qf5_5, .ref qf5_6, .int v5_7, .int v5_8, .int v5_9, .int v5_10, .ref qf5_11, .int v5_12, .ref qf5_13])), (qf5_13, .inl (cf5_13, 144, .inl f5_13))] sz) [(h0, .inr (11, [.ref qf0, .ref qf1, .int v2, .int v3, .int v4, .ref qf5, .int v6, .int v7, .ref qf8, .ref qf9, .ref qf10, .ref qf11, .ref qf12, .ref qf13, .ref qf14, .ref qf15, .int v16, .int v17, .int v18, .int v19, .int v20])), (qf5, .inr (3, [.ref qf5_0, .int v5_1, .int v5_2, .int v5_3, .ref qf5_4, .ref qf5_5, .ref qf5_6, .int v5_7, .int v5_8, .int v5_9, .int v5_10, .ref qf5_11, .int v5_12, .ref qf5_13])), (qf5_13, .inl (cf5_13, 144, .inl f5_13))]) (va_A [(h0, .inr (11, [.ref qf0, .ref qf1, .int v2, .int v3, .int v4, .ref qf5, .int v6, .int v7, .ref qf8, .ref qf9, .ref qf10, .ref qf11, .ref qf12, .ref qf13, .ref qf14, .ref qf15, .int v16, .int v17, .int v18, .int v19, .int v20])), (qf5, .inr (3, [.ref qf5_0, .int v5_1, .int v5_2, .int v5_3, .ref qf5_4, .ref qf5_5, .ref qf5_6, .int v5_7, .int v5_8, .int v5_9, .int v5_10, .ref qf5_11, .int v5_12, .ref qf5_13])), (qf5_13, .inl (cf5_13, 144, .inl f5_13))] sz)) 0 0 (va_A [(h0, .inr (11, [.ref qf0, .ref qf1, .int v2, .int v3, .int v4, .ref qf5, .int v6, .int v7, .ref qf8, .ref qf9, .ref qf10, .ref qf11, .ref qf12, .ref qf13, .ref qf14, .ref qf15, .int v16, .int v17, .int v18, .int v19, .int v20])), (qf5, .inr (3, [.ref qf5_0, .int v5_1, .int v5_2, .int v5_3, .ref qf5_4, .ref qf5_5, .ref qf5_6, .int v5_7, .int v5_8, .int v5_9, .int v5_10, .ref qf5_11, .int v5_12, .ref qf5_13])), (qf5_13, .inl (cf5_13, 144, .inl f5_13))] sz) := by
  refine Met.ofW (cc := cX11_info) (maxL := 2) (ret := (some .int)) (by decide) rfl ?_
  intro p e s m args below meth c s₁ B hml hv
  obtain ⟨rfl, hsz, hP, hK, hD0⟩ := hv
  have hx := B.exec
  have hb := B.bytes
  have hr := B.returns
  have hts := atoms_spec (ws := (.code yX11_info cX11_info 2 (some .int) :: VS_h3)) B.pre
  replace hts := fun w (h : w ∈ VS_h3) => hts w (List.mem_cons_of_mem _ h)
  have hown : s.vm.findClass RX11 = some m.cls := findClass_of_methodNamed B.named
  have hlocks := B.notSynchronized
  subst hsz
  have hD := hD0.self (sz := s.heap.size)
  generalize hAe : va_A [(h0, .inr (11, [.ref qf0, .ref qf1, .int v2, .int v3, .int v4, .ref qf5, .int v6, .int v7, .ref qf8, .ref qf9, .ref qf10, .ref qf11, .ref qf12, .ref qf13, .ref qf14, .ref qf15, .int v16, .int v17, .int v18, .int v19, .int v20])), (qf5, .inr (3, [.ref qf5_0, .int v5_1, .int v5_2, .int v5_3, .ref qf5_4, .ref qf5_5, .ref qf5_6, .int v5_7, .int v5_8, .int v5_9, .int v5_10, .ref qf5_11, .int v5_12, .ref qf5_13])), (qf5_13, .inl (cf5_13, 144, .inl f5_13))] s.heap.size = A at hD  ⊢
  have hA : ∀ q : Nat, s.heap.size ≤ q → A q := fun q h => by rw [← hAe]; exact Or.inr h
  have hP : va_P (dC, dI) vwCl [(h0, .inr (11, [.ref qf0, .ref qf1, .int v2, .int v3, .int v4, .ref qf5, .int v6, .int v7, .ref qf8, .ref qf9, .ref qf10, .ref qf11, .ref qf12, .ref qf13, .ref qf14, .ref qf15, .int v16, .int v17, .int v18, .int v19, .int v20])), (qf5, .inr (3, [.ref qf5_0, .int v5_1, .int v5_2, .int v5_3, .ref qf5_4, .ref qf5_5, .ref qf5_6, .int v5_7, .int v5_8, .int v5_9, .int v5_10, .ref qf5_11, .int v5_12, .ref qf5_13])), (qf5_13, .inl (cf5_13, 144, .inl f5_13))] s.heap := hP
  have hl := lv_entry ([.ref h0, .int a1]) (n := 2) (Nat.le_of_ble_eq_true rfl)
  rw [lg_entry_eq]
  generalize (lg_sl ([.ref h0, .int a1]) ++ List.replicate (2 - (lg_sl ([.ref h0, .int a1])).length) Slot.unset).toArray = ls at hl ⊢
  have hl : lv_has ls 2 [(0, .ref h0), (1, .int a1)] := hl
  obtain ⟨H, hH⟩ : ∃ H : Heap, s.heap = H := ⟨_, rfl⟩
  rw [hH] at hP ⊢
  have hS : va_S A s.heap H [] := by rw [← hH]; exact va_S.rf
  obtain ⟨locs, hlo⟩ : ∃ locs : List Loc, locs = [] := ⟨_, rfl⟩
  rw [← hlo] at hS ⊢
  unfold sp_t11_info at hsp
  refine lv_aload_n hx hb dX11_info_0 rfl (lv_at hl 0 rfl) ?_
  refine va_get (D := (dC, dI)) (ci := 11) (v := .ref qf5) (C := RX11) (T := TX11) (N := 21) hx hb hts uV_h3_X11 hown hK hP 0 rfl rfl 5 (by decide) (hts (.fieldLink RX11 62 "ClassMill$Verifier" "image" "LClassMill$Image;") mw_h3_161) (fun _ h9 => h9) rfl dX11_info_1 ?_
  refine lv_aload_n hx hb dX11_info_4 rfl (lv_at hl 0 rfl) ?_
  refine va_get (D := (dC, dI)) (ci := 11) (v := .int v6) (C := RX11) (T := TX11) (N := 21) hx hb hts uV_h3_X11 hown hK hP 0 rfl rfl 6 (by decide) (hts (.fieldLink RX11 103 "ClassMill$Verifier" "method" "I") mw_h3_162) (fun _ h9 => h9) rfl dX11_info_5 ?_
  refine lv_iload_n hx hb dX11_info_8 rfl (lv_at hl 1 rfl) ?_
  obtain ⟨u1_0, hu_1, hsp⟩ := ox_bind hsp
  try dsimp only at hsp
  have hPc := hP.sub (ws' := [(qf5, .inr (3, [.ref qf5_0, .int v5_1, .int v5_2, .int v5_3, .ref qf5_4, .ref qf5_5, .ref qf5_6, .int v5_7, .int v5_8, .int v5_9, .int v5_10, .ref qf5_11, .int v5_12, .ref qf5_13])), (qf5_13, .inl (cf5_13, 144, .inl f5_13))]) [1, 2] rfl
  have hDc := hD.sub (ws' := [(qf5, .inr (3, [.ref qf5_0, .int v5_1, .int v5_2, .int v5_3, .ref qf5_4, .ref qf5_5, .ref qf5_6, .int v5_7, .int v5_8, .int v5_9, .int v5_10, .ref qf5_11, .int v5_12, .ref qf5_13])), (qf5_13, .inl (cf5_13, 144, .inl f5_13))]) [1, 2] (by decide) rfl
  have hKc := hK.sub (tys' := [(cf5_13, .int)]) [0] rfl
  have hFc := va_free (wc := [(qf5, .inr (3, [.ref qf5_0, .int v5_1, .int v5_2, .int v5_3, .ref qf5_4, .ref qf5_5, .ref qf5_6, .int v5_7, .int v5_8, .int v5_9, .int v5_10, .ref qf5_11, .int v5_12, .ref qf5_13])), (qf5_13, .inl (cf5_13, 144, .inl f5_13))]) hD hS hA [1, 2] rfl
  refine va_calli (va_runV (As := [.int v6, .int a1]) (rest := []) ⟨hx, hb, hml, hown, hts⟩ (t3_of l dC dI H.size qf5 v6 a1 qf5_0 v5_1 v5_2 v5_3 qf5_4 qf5_5 qf5_6 v5_7 v5_8 v5_9 v5_10 qf5_11 v5_12 qf5_13 cf5_13 f5_13 nf u1_0 hu_1) (cwV 2 hts gv_h3_29 rfl rfl rfl (by decide +kernel) ⟨Nat.le_of_ble_eq_true rfl, Nat.le_of_ble_eq_true rfl⟩) ⟨fun a U g mk q => by obtain ⟨q0, q1, qP, qK, qD⟩ := q; exact ⟨q0, q1, qP, va_K.moved (u := U) (U := U.calling g mk a) (Vm.Alike.refl U.vm) qK, qD⟩, va_recv hKc hPc (ci := 3) (q0 := 0) rfl rfl, fun U hU hW => ⟨rfl, by rw [hU], by rw [hU]; exact hPc, va_K.moved hW.alike hKc, hDc.weaken (fun _ _ _ _ => trivial)⟩⟩ rfl rfl hl.1 rfl (lv_room (Nat.le_of_ble_eq_true rfl)) dX11_info_9 ⟨Nat.le_of_ble_eq_true rfl, Nat.le_of_ble_eq_true rfl⟩) hS (fun q _ h => hFc q h) hFc ?_
  clear hS
  intro r_1 u t H1 locs ht hvm hw hB hz1 hk1 hS
  obtain ⟨⟩ := u
  obtain ⟨hP1, hK1, hD1⟩ := hB
  rw [ht] at hP1
  have hK1 := va_K.moved hvm.symm hK1
  try dsimp only at hw
  have hPD := va_join (wr := [(h0, .inr (11, [.ref qf0, .ref qf1, .int v2, .int v3, .int v4, .ref qf5, .int v6, .int v7, .ref qf8, .ref qf9, .ref qf10, .ref qf11, .ref qf12, .ref qf13, .ref qf14, .ref qf15, .int v16, .int v17, .int v18, .int v19, .int v20]))]) (w1 := [(qf5, .inr (3, [.ref qf5_0, .int v5_1, .int v5_2, .int v5_3, .ref qf5_4, .ref qf5_5, .ref qf5_6, .int v5_7, .int v5_8, .int v5_9, .int v5_10, .ref qf5_11, .int v5_12, .ref qf5_13])), (qf5_13, .inl (cf5_13, 144, .inl f5_13))]) hP hD [1, 2] [0] rfl rfl (by decide) (by decide) hk1 hFc hP1 hD1
  clear hP hD
  obtain ⟨hP, hD⟩ := hPD
  replace hK := (hK.sub (tys' := []) [] rfl).app hK1
  clear hPc hDc hKc hFc hP1 hK1 hD1 hz1 hk1 ht hvm
  generalize H1 = H at hP hS ⊢
  replace hP : va_P (dC, dI) vwCl [(h0, .inr (11, [.ref qf0, .ref qf1, .int v2, .int v3, .int v4, .ref qf5, .int v6, .int v7, .ref qf8, .ref qf9, .ref qf10, .ref qf11, .ref qf12, .ref qf13, .ref qf14, .ref qf15, .int v16, .int v17, .int v18, .int v19, .int v20])), (qf5, .inr (3, [.ref qf5_0, .int v5_1, .int v5_2, .int v5_3, .ref qf5_4, .ref qf5_5, .ref qf5_6, .int v5_7, .int v5_8, .int v5_9, .int v5_10, .ref qf5_11, .int v5_12, .ref qf5_13])), (qf5_13, .inl (cf5_13, 144, .inl f5_13))] H := hP
  replace hD : va_D A [(h0, .inr (11, [.ref qf0, .ref qf1, .int v2, .int v3, .int v4, .ref qf5, .int v6, .int v7, .ref qf8, .ref qf9, .ref qf10, .ref qf11, .ref qf12, .ref qf13, .ref qf14, .ref qf15, .int v16, .int v17, .int v18, .int v19, .int v20])), (qf5, .inr (3, [.ref qf5_0, .int v5_1, .int v5_2, .int v5_3, .ref qf5_4, .ref qf5_5, .ref qf5_6, .int v5_7, .int v5_8, .int v5_9, .int v5_10, .ref qf5_11, .int v5_12, .ref qf5_13])), (qf5_13, .inl (cf5_13, 144, .inl f5_13))] := hD
  replace hK : va_K (dC, dI) vwCl [(cf5_13, .int)] s := hK
  obtain rfl := hw
  have hr0 := Option.some.inj hsp
  clear hsp
  subst hr0
  have hP9 := hP.sub (ws' := [(h0, .inr (11, [.ref qf0, .ref qf1, .int v2, .int v3, .int v4, .ref qf5, .int v6, .int v7, .ref qf8, .ref qf9, .ref qf10, .ref qf11, .ref qf12, .ref qf13, .ref qf14, .ref qf15, .int v16, .int v17, .int v18, .int v19, .int v20])), (qf5, .inr (3, [.ref qf5_0, .int v5_1, .int v5_2, .int v5_3, .ref qf5_4, .ref qf5_5, .ref qf5_6, .int v5_7, .int v5_8, .int v5_9, .int v5_10, .ref qf5_11, .int v5_12, .ref qf5_13])), (qf5_13, .inl (cf5_13, 144, .inl f5_13))]) [0, 1, 2] rfl
  have hD9 := hD.sub (ws' := [(h0, .inr (11, [.ref qf0, .ref qf1, .int v2, .int v3, .int v4, .ref qf5, .int v6, .int v7, .ref qf8, .ref qf9, .ref qf10, .ref qf11, .ref qf12, .ref qf13, .ref qf14, .ref qf15, .int v16, .int v17, .int v18, .int v19, .int v20])), (qf5, .inr (3, [.ref qf5_0, .int v5_1, .int v5_2, .int v5_3, .ref qf5_4, .ref qf5_5, .ref qf5_6, .int v5_7, .int v5_8, .int v5_9, .int v5_10, .ref qf5_11, .int v5_12, .ref qf5_13])), (qf5_13, .inl (cf5_13, 144, .inl f5_13))]) [0, 1, 2] (by decide) rfl
  have hK9 := hK.sub (tys' := [(cf5_13, .int)]) [0] rfl
  exact W.iret hx hb hr (fun t ht hW => ⟨⟨(u1_0), (), rfl, rfl, by rw [ht]; exact hP9, va_K.moved hW.alike hK9, hD9⟩, hS.F ht⟩) hS.2.2 dX11_info_12
def sp_t11_codeAt (nf : Nat) (a1 : Int32) (v6 : Int32) (v5_1 : Int32) (v5_12 : Int32) (f5_13 : Nat → Int32) (nb : Nat) (f5_0 : Nat → Int32) : Option (Int32) := ((sp_t11_info nf 6 v6 v5_12 f5_13).bind (fun p1 => ((sp_ti_byteAt nf (p1 + a1) v5_1 nb f5_0).bind (fun p2 => (some p2)))))
set_option maxHeartbeats 4000000 in
set_option maxRecDepth 100000 in
/-- ClassMill$Verifier.codeAt -/
theorem t11_codeAt (l : Launch) (dC : Nat → ClassId) (dI : Nat → Nat → Nat) (sz : Nat) (h0 : Nat) (a1 : Int32) (qf0 : Nat) (qf1 : Nat) (v2 : Int32) (v3 : Int32) (v4 : Int32) (qf5 : Nat) (v6 : Int32) (v7 : Int32) (qf8 : Nat) (qf9 : Nat) (qf10 : Nat) (qf11 : Nat) (qf12 : Nat) (qf13 : Nat) (qf14 : Nat) (qf15 : Nat) (v16 : Int32) (v17 : Int32) (v18 : Int32) (v19 : Int32) (v20 : Int32) (qf5_0 : Nat) (v5_1 : Int32) (v5_2 : Int32) (v5_3 : Int32) (qf5_4 : Nat) (qf5_5 : Nat) (qf5_6 : Nat) (v5_7 : Int32) (v5_8 : Int32) (v5_9 : Int32) (v5_10 : Int32) (qf5_11 : Nat) (v5_12 : Int32) (qf5_13 : Nat) (cf5_13 : ClassId) (f5_13 : (Nat → Int32)) (cf5_0 : ClassId) (nb : Nat) (f5_0 : (Nat → Int32)) (nf : Nat) (r0 : Int32) (hsp : sp_t11_codeAt nf a1 v6 v5_1 v5_12 f5_13 nb f5_0 = some r0) : Met l yX11_codeAt (.code yX11_codeAt cX11_codeAt 2 (some .int) :: VS_h3) ({ frames := 2, cells := 0, slots := 0, locals := 44 }) (va_Pc [.ref h0, .int a1] (fun U => U.heap.size = sz ∧ va_P (dC, dI) vwCl [(h0, .inr (11, [.ref qf0, .ref qf1, .int v2, .int v3, .int v4, .ref qf5, .int v6, .int v7, .ref qf8, .ref qf9, .ref qf10, .ref qf11, .ref qf12, .ref qf13, .ref qf14, .ref qf15, .int v16, .int v17, .int v18, .int v19, .int v20])), (qf5, .inr (3, [.ref qf5_0, .int v5_1, .int v5_2, .int v5_3, .ref qf5_4, .ref qf5_5, .ref qf5_6, .int v5_7, .int v5_8, .int v5_9, .int v5_10, .ref qf5_11, .int v5_12, .ref qf5_13])), (qf5_13, .inl (cf5_13, 144, .inl f5_13)), (qf5_0, .inl (cf5_0, nb, .inl f5_0))] U.heap ∧ va_K (dC, dI) vwCl [(cf5_13, .int), (cf5_0, .byte)] U ∧ va_D (fun _ => True) [(h0, .inr (11, [.ref qf0, .ref qf1, .int v2, .int v3, .int v4, .ref qf5, .int v6, .int v7, .ref qf8, .ref qf9, .ref qf10, .ref qf11, .ref qf12, .ref qf13, .ref qf14, .ref qf15, .int v16, .int v17, .int v18, .int v19, .int v20])), (qf5, .inr (3, [.ref qf5_0, .int v5_1, .int v5_2, .int v5_3, .ref qf5_4, .ref qf5_5, .ref qf5_6, .int v5_7, .int v5_8, .int v5_9, .int v5_10, .ref qf5_11, .int v5_12, .ref qf5_13])), (qf5_13, .inl (cf5_13, 144, .inl f5_13)), (qf5_0, .inl (cf5_0, nb, .inl f5_0))])) (va_Qi (fun (r : Int32) (u : Unit) => match u with | () => r0 = r) (fun (u : Unit) (t : State) => match u with | () => va_P (dC, dI) vwCl [(h0, .inr (11, [.ref qf0, .ref qf1, .int v2, .int v3, .int v4, .ref qf5, .int v6, .int v7, .ref qf8, .ref qf9, .ref qf10, .ref qf11, .ref qf12, .ref qf13, .ref qf14, .ref qf15, .int v16, .int v17, .int v18, .int v19, .int v20])), (qf5, .inr (3, [.ref qf5_0, .int v5_1, .int v5_2, .int v5_3, .ref qf5_4, .ref qf5_5, .ref qf5_6, .int v5_7, .int v5_8, .int v5_9, .int v5_10, .ref qf5_11, .int v5_12, .ref qf5_13])), (qf5_13, .inl (cf5_13, 144, .inl f5_13)), (qf5_0, .inl (cf5_0, nb, .inl f5_0))] t.heap ∧ va_K (dC, dI) vwCl [(cf5_13, .int), (cf5_0, .byte)] t ∧ va_D (va_A [(h0, .inr (11, [.ref qf0, .ref qf1, .int v2, .int v3, .int v4, .ref qf5, .int v6, .int v7, .ref qf8, .ref qf9, .ref qf10, .ref qf11, .ref qf12, .ref qf13, .ref qf14, .ref qf15, .int v16, .int v17, .int v18, .int v19, .int v20])), (qf5, .inr (3, [.ref qf5_0, .int v5_1, .int v5_2, .int v5_3, .ref qf5_4, .ref qf5_5, .ref qf5_6, .int v5_7, .int v5_8, .int v5_9, .int v5_10, .ref qf5_11, .int v5_12, .ref qf5_13])), (qf5_13, .inl (cf5_13, 144, .inl f5_13)), (qf5_0, .inl (cf5_0, nb, .inl f5_0))] sz) [(h0, .inr (11, [.ref qf0, .ref qf1, .int v2, .int v3, .int v4, .ref qf5, .int v6, .int v7, .ref qf8, .ref qf9, .ref qf10, .ref qf11, .ref qf12, .ref qf13, .ref qf14, .ref qf15, .int v16, .int v17, .int v18, .int v19, .int v20])), (qf5, .inr (3, [.ref qf5_0, .int v5_1, .int v5_2, .int v5_3, .ref qf5_4, .ref qf5_5, .ref qf5_6, .int v5_7, .int v5_8, .int v5_9, .int v5_10, .ref qf5_11, .int v5_12, .ref qf5_13])), (qf5_13, .inl (cf5_13, 144, .inl f5_13)), (qf5_0, .inl (cf5_0, nb, .inl f5_0))]) (va_A [(h0, .inr (11, [.ref qf0, .ref qf1, .int v2, .int v3, .int v4, .ref qf5, .int v6, .int v7, .ref qf8, .ref qf9, .ref qf10, .ref qf11, .ref qf12, .ref qf13, .ref qf14, .ref qf15, .int v16, .int v17, .int v18, .int v19, .int v20])), (qf5, .inr (3, [.ref qf5_0, .int v5_1, .int v5_2, .int v5_3, .ref qf5_4, .ref qf5_5, .ref qf5_6, .int v5_7, .int v5_8, .int v5_9, .int v5_10, .ref qf5_11, .int v5_12, .ref qf5_13])), (qf5_13, .inl (cf5_13, 144, .inl f5_13)), (qf5_0, .inl (cf5_0, nb, .inl f5_0))] sz)) 0 0 (va_A [(h0, .inr (11, [.ref qf0, .ref qf1, .int v2, .int v3, .int v4, .ref qf5, .int v6, .int v7, .ref qf8, .ref qf9, .ref qf10, .ref qf11, .ref qf12, .ref qf13, .ref qf14, .ref qf15, .int v16, .int v17, .int v18, .int v19, .int v20])), (qf5, .inr (3, [.ref qf5_0, .int v5_1, .int v5_2, .int v5_3, .ref qf5_4, .ref qf5_5, .ref qf5_6, .int v5_7, .int v5_8, .int v5_9, .int v5_10, .ref qf5_11, .int v5_12, .ref qf5_13])), (qf5_13, .inl (cf5_13, 144, .inl f5_13)), (qf5_0, .inl (cf5_0, nb, .inl f5_0))] sz) := by
  refine Met.ofW (cc := cX11_codeAt) (maxL := 2) (ret := (some .int)) (by decide) rfl ?_
  intro p e s m args below meth c s₁ B hml hv
  obtain ⟨rfl, hsz, hP, hK, hD0⟩ := hv
  have hx := B.exec
  have hb := B.bytes
  have hr := B.returns
  have hts := atoms_spec (ws := (.code yX11_codeAt cX11_codeAt 2 (some .int) :: VS_h3)) B.pre
  replace hts := fun w (h : w ∈ VS_h3) => hts w (List.mem_cons_of_mem _ h)
  have hown : s.vm.findClass RX11 = some m.cls := findClass_of_methodNamed B.named
  have hlocks := B.notSynchronized
  subst hsz
  have hD := hD0.self (sz := s.heap.size)
  generalize hAe : va_A [(h0, .inr (11, [.ref qf0, .ref qf1, .int v2, .int v3, .int v4, .ref qf5, .int v6, .int v7, .ref qf8, .ref qf9, .ref qf10, .ref qf11, .ref qf12, .ref qf13, .ref qf14, .ref qf15, .int v16, .int v17, .int v18, .int v19, .int v20])), (qf5, .inr (3, [.ref qf5_0, .int v5_1, .int v5_2, .int v5_3, .ref qf5_4, .ref qf5_5, .ref qf5_6, .int v5_7, .int v5_8, .int v5_9, .int v5_10, .ref qf5_11, .int v5_12, .ref qf5_13])), (qf5_13, .inl (cf5_13, 144, .inl f5_13)), (qf5_0, .inl (cf5_0, nb, .inl f5_0))] s.heap.size = A at hD  ⊢
  have hA : ∀ q : Nat, s.heap.size ≤ q → A q := fun q h => by rw [← hAe]; exact Or.inr h
  have hP : va_P (dC, dI) vwCl [(h0, .inr (11, [.ref qf0, .ref qf1, .int v2, .int v3, .int v4, .ref qf5, .int v6, .int v7, .ref qf8, .ref qf9, .ref qf10, .ref qf11, .ref qf12, .ref qf13, .ref qf14, .ref qf15, .int v16, .int v17, .int v18, .int v19, .int v20])), (qf5, .inr (3, [.ref qf5_0, .int v5_1, .int v5_2, .int v5_3, .ref qf5_4, .ref qf5_5, .ref qf5_6, .int v5_7, .int v5_8, .int v5_9, .int v5_10, .ref qf5_11, .int v5_12, .ref qf5_13])), (qf5_13, .inl (cf5_13, 144, .inl f5_13)), (qf5_0, .inl (cf5_0, nb, .inl f5_0))] s.heap := hP
  have hl := lv_entry ([.ref h0, .int a1]) (n := 2) (Nat.le_of_ble_eq_true rfl)
  rw [lg_entry_eq]
  generalize (lg_sl ([.ref h0, .int a1]) ++ List.replicate (2 - (lg_sl ([.ref h0, .int a1])).length) Slot.unset).toArray = ls at hl ⊢
  have hl : lv_has ls 2 [(0, .ref h0), (1, .int a1)] := hl
  obtain ⟨H, hH⟩ : ∃ H : Heap, s.heap = H := ⟨_, rfl⟩
  rw [hH] at hP ⊢
  have hS : va_S A s.heap H [] := by rw [← hH]; exact va_S.rf
  obtain ⟨locs, hlo⟩ : ∃ locs : List Loc, locs = [] := ⟨_, rfl⟩
  rw [← hlo] at hS ⊢
  unfold sp_t11_codeAt at hsp
  refine lv_aload_n hx hb dX11_codeAt_0 rfl (lv_at hl 0 rfl) ?_
  refine va_get (D := (dC, dI)) (ci := 11) (v := .ref qf5) (C := RX11) (T := TX11) (N := 21) hx hb hts uV_h3_X11 hown hK hP 0 rfl rfl 5 (by decide) (hts (.fieldLink RX11 62 "ClassMill$Verifier" "image" "LClassMill$Image;") mw_h3_161) (fun _ h9 => h9) rfl dX11_codeAt_1 ?_
  refine lv_aload_n hx hb dX11_codeAt_4 rfl (lv_at hl 0 rfl) ?_
  refine lv_bipush (v := 6) hx hb dX11_codeAt_5 (by decide) ?_
  obtain ⟨u1_0, hu_1, hsp⟩ := ox_bind hsp
  try dsimp only at hsp
  have hPc := hP.sub (ws' := [(h0, .inr (11, [.ref qf0, .ref qf1, .int v2, .int v3, .int v4, .ref qf5, .int v6, .int v7, .ref qf8, .ref qf9, .ref qf10, .ref qf11, .ref qf12, .ref qf13, .ref qf14, .ref qf15, .int v16, .int v17, .int v18, .int v19, .int v20])), (qf5, .inr (3, [.ref qf5_0, .int v5_1, .int v5_2, .int v5_3, .ref qf5_4, .ref qf5_5, .ref qf5_6, .int v5_7, .int v5_8, .int v5_9, .int v5_10, .ref qf5_11, .int v5_12, .ref qf5_13])), (qf5_13, .inl (cf5_13, 144, .inl f5_13))]) [0, 1, 2] rfl
  have hDc := hD.sub (ws' := [(h0, .inr (11, [.ref qf0, .ref qf1, .int v2, .int v3, .int v4, .ref qf5, .int v6, .int v7, .ref qf8, .ref qf9, .ref qf10, .ref qf11, .ref qf12, .ref qf13, .ref qf14, .ref qf15, .int v16, .int v17, .int v18, .int v19, .int v20])), (qf5, .inr (3, [.ref qf5_0, .int v5_1, .int v5_2, .int v5_3, .ref qf5_4, .ref qf5_5, .ref qf5_6, .int v5_7, .int v5_8, .int v5_9, .int v5_10, .ref qf5_11, .int v5_12, .ref qf5_13])), (qf5_13, .inl (cf5_13, 144, .inl f5_13))]) [0, 1, 2] (by decide) rfl
  have hKc := hK.sub (tys' := [(cf5_13, .int)]) [0] rfl
  have hFc := va_free (wc := [(h0, .inr (11, [.ref qf0, .ref qf1, .int v2, .int v3, .int v4, .ref qf5, .int v6, .int v7, .ref qf8, .ref qf9, .ref qf10, .ref qf11, .ref qf12, .ref qf13, .ref qf14, .ref qf15, .int v16, .int v17, .int v18, .int v19, .int v20])), (qf5, .inr (3, [.ref qf5_0, .int v5_1, .int v5_2, .int v5_3, .ref qf5_4, .ref qf5_5, .ref qf5_6, .int v5_7, .int v5_8, .int v5_9, .int v5_10, .ref qf5_11, .int v5_12, .ref qf5_13])), (qf5_13, .inl (cf5_13, 144, .inl f5_13))]) hD hS hA [0, 1, 2] rfl
  refine va_calli (va_runV (As := [.int 6]) (rest := [.ref qf5]) ⟨hx, hb, hml, hown, hts⟩ (t11_info l dC dI H.size h0 6 qf0 qf1 v2 v3 v4 qf5 v6 v7 qf8 qf9 qf10 qf11 qf12 qf13 qf14 qf15 v16 v17 v18 v19 v20 qf5_0 v5_1 v5_2 v5_3 qf5_4 qf5_5 qf5_6 v5_7 v5_8 v5_9 v5_10 qf5_11 v5_12 qf5_13 cf5_13 f5_13 nf u1_0 hu_1) (cwV 1 hts gv_h3_35 rfl rfl rfl (by decide +kernel) ⟨Nat.le_of_ble_eq_true rfl, Nat.le_of_ble_eq_true rfl⟩) ⟨fun a U g mk q => by obtain ⟨q0, q1, qP, qK, qD⟩ := q; exact ⟨q0, q1, qP, va_K.moved (u := U) (U := U.calling g mk a) (Vm.Alike.refl U.vm) qK, qD⟩, va_recv hKc hPc (ci := 11) (q0 := 0) rfl rfl, fun U hU hW => ⟨rfl, by rw [hU], by rw [hU]; exact hPc, va_K.moved hW.alike hKc, hDc.weaken (fun _ _ _ _ => trivial)⟩⟩ rfl rfl hl.1 rfl (lv_room (Nat.le_of_ble_eq_true rfl)) dX11_codeAt_7 ⟨Nat.le_of_ble_eq_true rfl, Nat.le_of_ble_eq_true rfl⟩) hS (fun q _ h => hFc q h) hFc ?_
  clear hS
  intro r_1 u t H1 locs ht hvm hw hB hz1 hk1 hS
  obtain ⟨⟩ := u
  obtain ⟨hP1, hK1, hD1⟩ := hB
  rw [ht] at hP1
  have hK1 := va_K.moved hvm.symm hK1
  try dsimp only at hw
  have hPD := va_join (wr := [(qf5_0, .inl (cf5_0, nb, .inl f5_0))]) (w1 := [(h0, .inr (11, [.ref qf0, .ref qf1, .int v2, .int v3, .int v4, .ref qf5, .int v6, .int v7, .ref qf8, .ref qf9, .ref qf10, .ref qf11, .ref qf12, .ref qf13, .ref qf14, .ref qf15, .int v16, .int v17, .int v18, .int v19, .int v20])), (qf5, .inr (3, [.ref qf5_0, .int v5_1, .int v5_2, .int v5_3, .ref qf5_4, .ref qf5_5, .ref qf5_6, .int v5_7, .int v5_8, .int v5_9, .int v5_10, .ref qf5_11, .int v5_12, .ref qf5_13])), (qf5_13, .inl (cf5_13, 144, .inl f5_13))]) hP hD [0, 1, 2] [3] rfl rfl (by decide) (by decide) hk1 hFc hP1 hD1
  clear hP hD
  obtain ⟨hP, hD⟩ := hPD
  replace hK := (hK.sub (tys' := [(cf5_0, .byte)]) [1] rfl).app hK1
  clear hPc hDc hKc hFc hP1 hK1 hD1 hz1 hk1 ht hvm
  generalize H1 = H at hP hS ⊢
  replace hP : va_P (dC, dI) vwCl [(qf5_0, .inl (cf5_0, nb, .inl f5_0)), (h0, .inr (11, [.ref qf0, .ref qf1, .int v2, .int v3, .int v4, .ref qf5, .int v6, .int v7, .ref qf8, .ref qf9, .ref qf10, .ref qf11, .ref qf12, .ref qf13, .ref qf14, .ref qf15, .int v16, .int v17, .int v18, .int v19, .int v20])), (qf5, .inr (3, [.ref qf5_0, .int v5_1, .int v5_2, .int v5_3, .ref qf5_4, .ref qf5_5, .ref qf5_6, .int v5_7, .int v5_8, .int v5_9, .int v5_10, .ref qf5_11, .int v5_12, .ref qf5_13])), (qf5_13, .inl (cf5_13, 144, .inl f5_13))] H := hP
  replace hD : va_D A [(qf5_0, .inl (cf5_0, nb, .inl f5_0)), (h0, .inr (11, [.ref qf0, .ref qf1, .int v2, .int v3, .int v4, .ref qf5, .int v6, .int v7, .ref qf8, .ref qf9, .ref qf10, .ref qf11, .ref qf12, .ref qf13, .ref qf14, .ref qf15, .int v16, .int v17, .int v18, .int v19, .int v20])), (qf5, .inr (3, [.ref qf5_0, .int v5_1, .int v5_2, .int v5_3, .ref qf5_4, .ref qf5_5, .ref qf5_6, .int v5_7, .int v5_8, .int v5_9, .int v5_10, .ref qf5_11, .int v5_12, .ref qf5_13])), (qf5_13, .inl (cf5_13, 144, .inl f5_13))] := hD
  replace hK : va_K (dC, dI) vwCl [(cf5_0, .byte), (cf5_13, .int)] s := hK
  obtain rfl := hw
  refine lv_iload_n hx hb dX11_codeAt_10 rfl (lv_at hl 1 rfl) ?_
  refine lv_iadd hx hb dX11_codeAt_11 ?_
  obtain ⟨u2_0, hu_2, hsp⟩ := ox_bind hsp
  try dsimp only at hsp
  have hPc := hP.sub (ws' := [(qf5, .inr (3, [.ref qf5_0, .int v5_1, .int v5_2, .int v5_3, .ref qf5_4, .ref qf5_5, .ref qf5_6, .int v5_7, .int v5_8, .int v5_9, .int v5_10, .ref qf5_11, .int v5_12, .ref qf5_13])), (qf5_0, .inl (cf5_0, nb, .inl f5_0))]) [2, 0] rfl
  have hDc := hD.sub (ws' := [(qf5, .inr (3, [.ref qf5_0, .int v5_1, .int v5_2, .int v5_3, .ref qf5_4, .ref qf5_5, .ref qf5_6, .int v5_7, .int v5_8, .int v5_9, .int v5_10, .ref qf5_11, .int v5_12, .ref qf5_13])), (qf5_0, .inl (cf5_0, nb, .inl f5_0))]) [2, 0] (by decide) rfl
  have hKc := hK.sub (tys' := [(cf5_0, .byte)]) [0] rfl
  have hFc := va_free (wc := [(qf5, .inr (3, [.ref qf5_0, .int v5_1, .int v5_2, .int v5_3, .ref qf5_4, .ref qf5_5, .ref qf5_6, .int v5_7, .int v5_8, .int v5_9, .int v5_10, .ref qf5_11, .int v5_12, .ref qf5_13])), (qf5_0, .inl (cf5_0, nb, .inl f5_0))]) hD hS hA [2, 0] rfl
  refine va_calli (va_runV (As := [.int (u1_0 + a1)]) (rest := []) ⟨hx, hb, hml, hown, hts⟩ (ti_byteAt l dC dI H.size qf5 ((u1_0 + a1)) qf5_0 v5_1 v5_2 v5_3 qf5_4 qf5_5 qf5_6 v5_7 v5_8 v5_9 v5_10 qf5_11 v5_12 qf5_13 cf5_0 nb f5_0 nf u2_0 hu_2) (cwV 1 hts gv_h3_34 rfl rfl rfl (by decide +kernel) ⟨Nat.le_of_ble_eq_true rfl, Nat.le_of_ble_eq_true rfl⟩) ⟨fun a U g mk q => by obtain ⟨q0, q1, qP, qK, qD⟩ := q; exact ⟨q0, q1, qP, va_K.moved (u := U) (U := U.calling g mk a) (Vm.Alike.refl U.vm) qK, qD⟩, va_recv hKc hPc (ci := 3) (q0 := 0) rfl rfl, fun U hU hW => ⟨rfl, by rw [hU], by rw [hU]; exact hPc, va_K.moved hW.alike hKc, hDc.weaken (fun _ _ _ _ => trivial)⟩⟩ rfl rfl hl.1 rfl (lv_room (Nat.le_of_ble_eq_true rfl)) dX11_codeAt_12 ⟨Nat.le_of_ble_eq_true rfl, Nat.le_of_ble_eq_true rfl⟩) hS (fun q _ h => hFc q h) hFc ?_
  clear hS
  intro r_2 u t H1 locs ht hvm hw hB hz1 hk1 hS
  obtain ⟨⟩ := u
  obtain ⟨hP1, hK1, hD1⟩ := hB
  rw [ht] at hP1
  have hK1 := va_K.moved hvm.symm hK1
  try dsimp only at hw
  have hPD := va_join (wr := [(h0, .inr (11, [.ref qf0, .ref qf1, .int v2, .int v3, .int v4, .ref qf5, .int v6, .int v7, .ref qf8, .ref qf9, .ref qf10, .ref qf11, .ref qf12, .ref qf13, .ref qf14, .ref qf15, .int v16, .int v17, .int v18, .int v19, .int v20])), (qf5_13, .inl (cf5_13, 144, .inl f5_13))]) (w1 := [(qf5, .inr (3, [.ref qf5_0, .int v5_1, .int v5_2, .int v5_3, .ref qf5_4, .ref qf5_5, .ref qf5_6, .int v5_7, .int v5_8, .int v5_9, .int v5_10, .ref qf5_11, .int v5_12, .ref qf5_13])), (qf5_0, .inl (cf5_0, nb, .inl f5_0))]) hP hD [2, 0] [1, 3] rfl rfl (by decide) (by decide) hk1 hFc hP1 hD1
  clear hP hD
  obtain ⟨hP, hD⟩ := hPD
  replace hK := (hK.sub (tys' := [(cf5_13, .int)]) [1] rfl).app hK1
  clear hPc hDc hKc hFc hP1 hK1 hD1 hz1 hk1 ht hvm
  generalize H1 = H at hP hS ⊢
  replace hP : va_P (dC, dI) vwCl [(h0, .inr (11, [.ref qf0, .ref qf1, .int v2, .int v3, .int v4, .ref qf5, .int v6, .int v7, .ref qf8, .ref qf9, .ref qf10, .ref qf11, .ref qf12, .ref qf13, .ref qf14, .ref qf15, .int v16, .int v17, .int v18, .int v19, .int v20])), (qf5_13, .inl (cf5_13, 144, .inl f5_13)), (qf5, .inr (3, [.ref qf5_0, .int v5_1, .int v5_2, .int v5_3, .ref qf5_4, .ref qf5_5, .ref qf5_6, .int v5_7, .int v5_8, .int v5_9, .int v5_10, .ref qf5_11, .int v5_12, .ref qf5_13])), (qf5_0, .inl (cf5_0, nb, .inl f5_0))] H := hP
  replace hD : va_D A [(h0, .inr (11, [.ref qf0, .ref qf1, .int v2, .int v3, .int v4, .ref qf5, .int v6, .int v7, .ref qf8, .ref qf9, .ref qf10, .ref qf11, .ref qf12, .ref qf13, .ref qf14, .ref qf15, .int v16, .int v17, .int v18, .int v19, .int v20])), (qf5_13, .inl (cf5_13, 144, .inl f5_13)), (qf5, .inr (3, [.ref qf5_0, .int v5_1, .int v5_2, .int v5_3, .ref qf5_4, .ref qf5_5, .ref qf5_6, .int v5_7, .int v5_8, .int v5_9, .int v5_10, .ref qf5_11, .int v5_12, .ref qf5_13])), (qf5_0, .inl (cf5_0, nb, .inl f5_0))] := hD
  replace hK : va_K (dC, dI) vwCl [(cf5_13, .int), (cf5_0, .byte)] s := hK
  obtain rfl := hw
  have hr0 := Option.some.inj hsp
  clear hsp
  subst hr0
  have hP9 := hP.sub (ws' := [(h0, .inr (11, [.ref qf0, .ref qf1, .int v2, .int v3, .int v4, .ref qf5, .int v6, .int v7, .ref qf8, .ref qf9, .ref qf10, .ref qf11, .ref qf12, .ref qf13, .ref qf14, .ref qf15, .int v16, .int v17, .int v18, .int v19, .int v20])), (qf5, .inr (3, [.ref qf5_0, .int v5_1, .int v5_2, .int v5_3, .ref qf5_4, .ref qf5_5, .ref qf5_6, .int v5_7, .int v5_8, .int v5_9, .int v5_10, .ref qf5_11, .int v5_12, .ref qf5_13])), (qf5_13, .inl (cf5_13, 144, .inl f5_13)), (qf5_0, .inl (cf5_0, nb, .inl f5_0))]) [0, 2, 1, 3] rfl
  have hD9 := hD.sub (ws' := [(h0, .inr (11, [.ref qf0, .ref qf1, .int v2, .int v3, .int v4, .ref qf5, .int v6, .int v7, .ref qf8, .ref qf9, .ref qf10, .ref qf11, .ref qf12, .ref qf13, .ref qf14, .ref qf15, .int v16, .int v17, .int v18, .int v19, .int v20])), (qf5, .inr (3, [.ref qf5_0, .int v5_1, .int v5_2, .int v5_3, .ref qf5_4, .ref qf5_5, .ref qf5_6, .int v5_7, .int v5_8, .int v5_9, .int v5_10, .ref qf5_11, .int v5_12, .ref qf5_13])), (qf5_13, .inl (cf5_13, 144, .inl f5_13)), (qf5_0, .inl (cf5_0, nb, .inl f5_0))]) [0, 2, 1, 3] (by decide) rfl
  have hK9 := hK.sub (tys' := [(cf5_13, .int), (cf5_0, .byte)]) [0, 1] rfl
  exact W.iret hx hb hr (fun t ht hW => ⟨⟨(u2_0), (), rfl, rfl, by rw [ht]; exact hP9, va_K.moved hW.alike hK9, hD9⟩, hS.F ht⟩) hS.2.2 dX11_codeAt_15
def sp_t11_aimOf (nf : Nat) (a1 : Int32) (v6 : Int32) (v5_1 : Int32) (v5_12 : Int32) (f5_13 : Nat → Int32) (nb : Nat) (f5_0 : Nat → Int32) : Option (Int32) := ((sp_t11_codeAt nf (a1 + 1) v6 v5_1 v5_12 f5_13 nb f5_0).bind (fun p1 => ((sp_t11_codeAt nf (a1 + 2) v6 v5_1 v5_12 f5_13 nb f5_0).bind (fun p2 => (some (a1 + ((((p1 <<< (8 &&& 31)) ||| p2) : Int32).toInt16.toInt32)))))))
set_option maxHeartbeats 4000000 in
set_option maxRecDepth 100000 in
/-- ClassMill$Verifier.aimOf -/
theorem t11_aimOf (l : Launch) (dC : Nat → ClassId) (dI : Nat → Nat → Nat) (sz : Nat) (h0 : Nat) (a1 : Int32) (qf0 : Nat) (qf1 : Nat) (v2 : Int32) (v3 : Int32) (v4 : Int32) (qf5 : Nat) (v6 : Int32) (v7 : Int32) (qf8 : Nat) (qf9 : Nat) (qf10 : Nat) (qf11 : Nat) (qf12 : Nat) (qf13 : Nat) (qf14 : Nat) (qf15 : Nat) (v16 : Int32) (v17 : Int32) (v18 : Int32) (v19 : Int32) (v20 : Int32) (qf5_0 : Nat) (v5_1 : Int32) (v5_2 : Int32) (v5_3 : Int32) (qf5_4 : Nat) (qf5_5 : Nat) (qf5_6 : Nat) (v5_7 : Int32) (v5_8 : Int32) (v5_9 : Int32) (v5_10 : Int32) (qf5_11 : Nat) (v5_12 : Int32) (qf5_13 : Nat) (cf5_13 : ClassId) (f5_13 : (Nat → Int32)) (cf5_0 : ClassId) (nb : Nat) (f5_0 : (Nat → Int32)) (nf : Nat) (r0 : Int32) (hsp : sp_t11_aimOf nf a1 v6 v5_1 v5_12 f5_13 nb f5_0 = some r0) : Met l yX11_aimOf (.code yX11_aimOf cX11_aimOf 2 (some .int) :: VS_h3) ({ frames := 3, cells := 0, slots := 0, locals := 65 }) (va_Pc [.ref h0, .int a1] (fun U => U.heap.size = sz ∧ va_P (dC, dI) vwCl [(h0, .inr (11, [.ref qf0, .ref qf1, .int v2, .int v3, .int v4, .ref qf5, .int v6, .int v7, .ref qf8, .ref qf9, .ref qf10, .ref qf11, .ref qf12, .ref qf13, .ref qf14, .ref qf15, .int v16, .int v17, .int v18, .int v19, .int v20])), (qf5, .inr (3, [.ref qf5_0, .int v5_1, .int v5_2, .int v5_3, .ref qf5_4, .ref qf5_5, .ref qf5_6, .int v5_7, .int v5_8, .int v5_9, .int v5_10, .ref qf5_11, .int v5_12, .ref qf5_13])), (qf5_13, .inl (cf5_13, 144, .inl f5_13)), (qf5_0, .inl (cf5_0, nb, .inl f5_0))] U.heap ∧ va_K (dC, dI) vwCl [(cf5_13, .int), (cf5_0, .byte)] U ∧ va_D (fun _ => True) [(h0, .inr (11, [.ref qf0, .ref qf1, .int v2, .int v3, .int v4, .ref qf5, .int v6, .int v7, .ref qf8, .ref qf9, .ref qf10, .ref qf11, .ref qf12, .ref qf13, .ref qf14, .ref qf15, .int v16, .int v17, .int v18, .int v19, .int v20])), (qf5, .inr (3, [.ref qf5_0, .int v5_1, .int v5_2, .int v5_3, .ref qf5_4, .ref qf5_5, .ref qf5_6, .int v5_7, .int v5_8, .int v5_9, .int v5_10, .ref qf5_11, .int v5_12, .ref qf5_13])), (qf5_13, .inl (cf5_13, 144, .inl f5_13)), (qf5_0, .inl (cf5_0, nb, .inl f5_0))])) (va_Qi (fun (r : Int32) (u : Unit) => match u with | () => r0 = r) (fun (u : Unit) (t : State) => match u with | () => va_P (dC, dI) vwCl [(h0, .inr (11, [.ref qf0, .ref qf1, .int v2, .int v3, .int v4, .ref qf5, .int v6, .int v7, .ref qf8, .ref qf9, .ref qf10, .ref qf11, .ref qf12, .ref qf13, .ref qf14, .ref qf15, .int v16, .int v17, .int v18, .int v19, .int v20])), (qf5, .inr (3, [.ref qf5_0, .int v5_1, .int v5_2, .int v5_3, .ref qf5_4, .ref qf5_5, .ref qf5_6, .int v5_7, .int v5_8, .int v5_9, .int v5_10, .ref qf5_11, .int v5_12, .ref qf5_13])), (qf5_13, .inl (cf5_13, 144, .inl f5_13)), (qf5_0, .inl (cf5_0, nb, .inl f5_0))] t.heap ∧ va_K (dC, dI) vwCl [(cf5_13, .int), (cf5_0, .byte)] t ∧ va_D (va_A [(h0, .inr (11, [.ref qf0, .ref qf1, .int v2, .int v3, .int v4, .ref qf5, .int v6, .int v7, .ref qf8, .ref qf9, .ref qf10, .ref qf11, .ref qf12, .ref qf13, .ref qf14, .ref qf15, .int v16, .int v17, .int v18, .int v19, .int v20])), (qf5, .inr (3, [.ref qf5_0, .int v5_1, .int v5_2, .int v5_3, .ref qf5_4, .ref qf5_5, .ref qf5_6, .int v5_7, .int v5_8, .int v5_9, .int v5_10, .ref qf5_11, .int v5_12, .ref qf5_13])), (qf5_13, .inl (cf5_13, 144, .inl f5_13)), (qf5_0, .inl (cf5_0, nb, .inl f5_0))] sz) [(h0, .inr (11, [.ref qf0, .ref qf1, .int v2, .int v3, .int v4, .ref qf5, .int v6, .int v7, .ref qf8, .ref qf9, .ref qf10, .ref qf11, .ref qf12, .ref qf13, .ref qf14, .ref qf15, .int v16, .int v17, .int v18, .int v19, .int v20])), (qf5, .inr (3, [.ref qf5_0, .int v5_1, .int v5_2, .int v5_3, .ref qf5_4, .ref qf5_5, .ref qf5_6, .int v5_7, .int v5_8, .int v5_9, .int v5_10, .ref qf5_11, .int v5_12, .ref qf5_13])), (qf5_13, .inl (cf5_13, 144, .inl f5_13)), (qf5_0, .inl (cf5_0, nb, .inl f5_0))]) (va_A [(h0, .inr (11, [.ref qf0, .ref qf1, .int v2, .int v3, .int v4, .ref qf5, .int v6, .int v7, .ref qf8, .ref qf9, .ref qf10, .ref qf11, .ref qf12, .ref qf13, .ref qf14, .ref qf15, .int v16, .int v17, .int v18, .int v19, .int v20])), (qf5, .inr (3, [.ref qf5_0, .int v5_1, .int v5_2, .int v5_3, .ref qf5_4, .ref qf5_5, .ref qf5_6, .int v5_7, .int v5_8, .int v5_9, .int v5_10, .ref qf5_11, .int v5_12, .ref qf5_13])), (qf5_13, .inl (cf5_13, 144, .inl f5_13)), (qf5_0, .inl (cf5_0, nb, .inl f5_0))] sz)) 0 0 (va_A [(h0, .inr (11, [.ref qf0, .ref qf1, .int v2, .int v3, .int v4, .ref qf5, .int v6, .int v7, .ref qf8, .ref qf9, .ref qf10, .ref qf11, .ref qf12, .ref qf13, .ref qf14, .ref qf15, .int v16, .int v17, .int v18, .int v19, .int v20])), (qf5, .inr (3, [.ref qf5_0, .int v5_1, .int v5_2, .int v5_3, .ref qf5_4, .ref qf5_5, .ref qf5_6, .int v5_7, .int v5_8, .int v5_9, .int v5_10, .ref qf5_11, .int v5_12, .ref qf5_13])), (qf5_13, .inl (cf5_13, 144, .inl f5_13)), (qf5_0, .inl (cf5_0, nb, .inl f5_0))] sz) := by
  refine Met.ofW (cc := cX11_aimOf) (maxL := 2) (ret := (some .int)) (by decide) rfl ?_
  intro p e s m args below meth c s₁ B hml hv
  obtain ⟨rfl, hsz, hP, hK, hD0⟩ := hv
  have hx := B.exec
  have hb := B.bytes
  have hr := B.returns
  have hts := atoms_spec (ws := (.code yX11_aimOf cX11_aimOf 2 (some .int) :: VS_h3)) B.pre
  replace hts := fun w (h : w ∈ VS_h3) => hts w (List.mem_cons_of_mem _ h)
  have hown : s.vm.findClass RX11 = some m.cls := findClass_of_methodNamed B.named
  have hlocks := B.notSynchronized
  subst hsz
  have hD := hD0.self (sz := s.heap.size)
  generalize hAe : va_A [(h0, .inr (11, [.ref qf0, .ref qf1, .int v2, .int v3, .int v4, .ref qf5, .int v6, .int v7, .ref qf8, .ref qf9, .ref qf10, .ref qf11, .ref qf12, .ref qf13, .ref qf14, .ref qf15, .int v16, .int v17, .int v18, .int v19, .int v20])), (qf5, .inr (3, [.ref qf5_0, .int v5_1, .int v5_2, .int v5_3, .ref qf5_4, .ref qf5_5, .ref qf5_6, .int v5_7, .int v5_8, .int v5_9, .int v5_10, .ref qf5_11, .int v5_12, .ref qf5_13])), (qf5_13, .inl (cf5_13, 144, .inl f5_13)), (qf5_0, .inl (cf5_0, nb, .inl f5_0))] s.heap.size = A at hD  ⊢
  have hA : ∀ q : Nat, s.heap.size ≤ q → A q := fun q h => by rw [← hAe]; exact Or.inr h
  have hP : va_P (dC, dI) vwCl [(h0, .inr (11, [.ref qf0, .ref qf1, .int v2, .int v3, .int v4, .ref qf5, .int v6, .int v7, .ref qf8, .ref qf9, .ref qf10, .ref qf11, .ref qf12, .ref qf13, .ref qf14, .ref qf15, .int v16, .int v17, .int v18, .int v19, .int v20])), (qf5, .inr (3, [.ref qf5_0, .int v5_1, .int v5_2, .int v5_3, .ref qf5_4, .ref qf5_5, .ref qf5_6, .int v5_7, .int v5_8, .int v5_9, .int v5_10, .ref qf5_11, .int v5_12, .ref qf5_13])), (qf5_13, .inl (cf5_13, 144, .inl f5_13)), (qf5_0, .inl (cf5_0, nb, .inl f5_0))] s.heap := hP
  have hl := lv_entry ([.ref h0, .int a1]) (n := 2) (Nat.le_of_ble_eq_true rfl)
  rw [lg_entry_eq]
  generalize (lg_sl ([.ref h0, .int a1]) ++ List.replicate (2 - (lg_sl ([.ref h0, .int a1])).length) Slot.unset).toArray = ls at hl ⊢
  have hl : lv_has ls 2 [(0, .ref h0), (1, .int a1)] := hl
  obtain ⟨H, hH⟩ : ∃ H : Heap, s.heap = H := ⟨_, rfl⟩
  rw [hH] at hP ⊢
  have hS : va_S A s.heap H [] := by rw [← hH]; exact va_S.rf
  obtain ⟨locs, hlo⟩ : ∃ locs : List Loc, locs = [] := ⟨_, rfl⟩
  rw [← hlo] at hS ⊢
  unfold sp_t11_aimOf at hsp
  refine lv_iload_n hx hb dX11_aimOf_0 rfl (lv_at hl 1 rfl) ?_
  refine lv_aload_n hx hb dX11_aimOf_1 rfl (lv_at hl 0 rfl) ?_
  refine lv_iload_n hx hb dX11_aimOf_2 rfl (lv_at hl 1 rfl) ?_
  refine lv_iconst (v := 1) hx hb dX11_aimOf_3 (by decide) ?_
  refine lv_iadd hx hb dX11_aimOf_4 ?_
  obtain ⟨u1_0, hu_1, hsp⟩ := ox_bind hsp
  try dsimp only at hsp
  have hPc := hP.sub (ws' := [(h0, .inr (11, [.ref qf0, .ref qf1, .int v2, .int v3, .int v4, .ref qf5, .int v6, .int v7, .ref qf8, .ref qf9, .ref qf10, .ref qf11, .ref qf12, .ref qf13, .ref qf14, .ref qf15, .int v16, .int v17, .int v18, .int v19, .int v20])), (qf5, .inr (3, [.ref qf5_0, .int v5_1, .int v5_2, .int v5_3, .ref qf5_4, .ref qf5_5, .ref qf5_6, .int v5_7, .int v5_8, .int v5_9, .int v5_10, .ref qf5_11, .int v5_12, .ref qf5_13])), (qf5_13, .inl (cf5_13, 144, .inl f5_13)), (qf5_0, .inl (cf5_0, nb, .inl f5_0))]) [0, 1, 2, 3] rfl
  have hDc := hD.sub (ws' := [(h0, .inr (11, [.ref qf0, .ref qf1, .int v2, .int v3, .int v4, .ref qf5, .int v6, .int v7, .ref qf8, .ref qf9, .ref qf10, .ref qf11, .ref qf12, .ref qf13, .ref qf14, .ref qf15, .int v16, .int v17, .int v18, .int v19, .int v20])), (qf5, .inr (3, [.ref qf5_0, .int v5_1, .int v5_2, .int v5_3, .ref qf5_4, .ref qf5_5, .ref qf5_6, .int v5_7, .int v5_8, .int v5_9, .int v5_10, .ref qf5_11, .int v5_12, .ref qf5_13])), (qf5_13, .inl (cf5_13, 144, .inl f5_13)), (qf5_0, .inl (cf5_0, nb, .inl f5_0))]) [0, 1, 2, 3] (by decide) rfl
  have hKc := hK.sub (tys' := [(cf5_13, .int), (cf5_0, .byte)]) [0, 1] rfl
  have hFc := va_free (wc := [(h0, .inr (11, [.ref qf0, .ref qf1, .int v2, .int v3, .int v4, .ref qf5, .int v6, .int v7, .ref qf8, .ref qf9, .ref qf10, .ref qf11, .ref qf12, .ref qf13, .ref qf14, .ref qf15, .int v16, .int v17, .int v18, .int v19, .int v20])), (qf5, .inr (3, [.ref qf5_0, .int v5_1, .int v5_2, .int v5_3, .ref qf5_4, .ref qf5_5, .ref qf5_6, .int v5_7, .int v5_8, .int v5_9, .int v5_10, .ref qf5_11, .int v5_12, .ref qf5_13])), (qf5_13, .inl (cf5_13, 144, .inl f5_13)), (qf5_0, .inl (cf5_0, nb, .inl f5_0))]) hD hS hA [0, 1, 2, 3] rfl
  refine va_calli (va_runV (As := [.int (a1 + 1)]) (rest := [.int a1]) ⟨hx, hb, hml, hown, hts⟩ (t11_codeAt l dC dI H.size h0 ((a1 + 1)) qf0 qf1 v2 v3 v4 qf5 v6 v7 qf8 qf9 qf10 qf11 qf12 qf13 qf14 qf15 v16 v17 v18 v19 v20 qf5_0 v5_1 v5_2 v5_3 qf5_4 qf5_5 qf5_6 v5_7 v5_8 v5_9 v5_10 qf5_11 v5_12 qf5_13 cf5_13 f5_13 cf5_0 nb f5_0 nf u1_0 hu_1) (cwV 1 hts gv_h3_36 rfl rfl rfl (by decide +kernel) ⟨Nat.le_of_ble_eq_true rfl, Nat.le_of_ble_eq_true rfl⟩) ⟨fun a U g mk q => by obtain ⟨q0, q1, qP, qK, qD⟩ := q; exact ⟨q0, q1, qP, va_K.moved (u := U) (U := U.calling g mk a) (Vm.Alike.refl U.vm) qK, qD⟩, va_recv hKc hPc (ci := 11) (q0 := 0) rfl rfl, fun U hU hW => ⟨rfl, by rw [hU], by rw [hU]; exact hPc, va_K.moved hW.alike hKc, hDc.weaken (fun _ _ _ _ => trivial)⟩⟩ rfl rfl hl.1 rfl (lv_room (Nat.le_of_ble_eq_true rfl)) dX11_aimOf_5 ⟨Nat.le_of_ble_eq_true rfl, Nat.le_of_ble_eq_true rfl⟩) hS (fun q _ h => hFc q h) hFc ?_
  clear hS
  intro r_1 u t H1 locs ht hvm hw hB hz1 hk1 hS
  obtain ⟨⟩ := u
  obtain ⟨hP1, hK1, hD1⟩ := hB
  rw [ht] at hP1
  have hK1 := va_K.moved hvm.symm hK1
  try dsimp only at hw
  have hPD := va_join (wr := []) (w1 := [(h0, .inr (11, [.ref qf0, .ref qf1, .int v2, .int v3, .int v4, .ref qf5, .int v6, .int v7, .ref qf8, .ref qf9, .ref qf10, .ref qf11, .ref qf12, .ref qf13, .ref qf14, .ref qf15, .int v16, .int v17, .int v18, .int v19, .int v20])), (qf5, .inr (3, [.ref qf5_0, .int v5_1, .int v5_2, .int v5_3, .ref qf5_4, .ref qf5_5, .ref qf5_6, .int v5_7, .int v5_8, .int v5_9, .int v5_10, .ref qf5_11, .int v5_12, .ref qf5_13])), (qf5_13, .inl (cf5_13, 144, .inl f5_13)), (qf5_0, .inl (cf5_0, nb, .inl f5_0))]) hP hD [0, 1, 2, 3] [] rfl rfl (by decide) (by decide) hk1 hFc hP1 hD1
  clear hP hD
  obtain ⟨hP, hD⟩ := hPD
  replace hK := (hK.sub (tys' := []) [] rfl).app hK1
  clear hPc hDc hKc hFc hP1 hK1 hD1 hz1 hk1 ht hvm
  generalize H1 = H at hP hS ⊢
  replace hP : va_P (dC, dI) vwCl [(h0, .inr (11, [.ref qf0, .ref qf1, .int v2, .int v3, .int v4, .ref qf5, .int v6, .int v7, .ref qf8, .ref qf9, .ref qf10, .ref qf11, .ref qf12, .ref qf13, .ref qf14, .ref qf15, .int v16, .int v17, .int v18, .int v19, .int v20])), (qf5, .inr (3, [.ref qf5_0, .int v5_1, .int v5_2, .int v5_3, .ref qf5_4, .ref qf5_5, .ref qf5_6, .int v5_7, .int v5_8, .int v5_9, .int v5_10, .ref qf5_11, .int v5_12, .ref qf5_13])), (qf5_13, .inl (cf5_13, 144, .inl f5_13)), (qf5_0, .inl (cf5_0, nb, .inl f5_0))] H := hP
  replace hD : va_D A [(h0, .inr (11, [.ref qf0, .ref qf1, .int v2, .int v3, .int v4, .ref qf5, .int v6, .int v7, .ref qf8, .ref qf9, .ref qf10, .ref qf11, .ref qf12, .ref qf13, .ref qf14, .ref qf15, .int v16, .int v17, .int v18, .int v19, .int v20])), (qf5, .inr (3, [.ref qf5_0, .int v5_1, .int v5_2, .int v5_3, .ref qf5_4, .ref qf5_5, .ref qf5_6, .int v5_7, .int v5_8, .int v5_9, .int v5_10, .ref qf5_11, .int v5_12, .ref qf5_13])), (qf5_13, .inl (cf5_13, 144, .inl f5_13)), (qf5_0, .inl (cf5_0, nb, .inl f5_0))] := hD
  replace hK : va_K (dC, dI) vwCl [(cf5_13, .int), (cf5_0, .byte)] s := hK
  obtain rfl := hw
  refine lv_bipush (v := 8) hx hb dX11_aimOf_8 (by decide) ?_
  refine lv_ishl hx hb dX11_aimOf_10 ?_
  refine lv_aload_n hx hb dX11_aimOf_11 rfl (lv_at hl 0 rfl) ?_
  refine lv_iload_n hx hb dX11_aimOf_12 rfl (lv_at hl 1 rfl) ?_
  refine lv_iconst (v := 2) hx hb dX11_aimOf_13 (by decide) ?_
  refine lv_iadd hx hb dX11_aimOf_14 ?_
  obtain ⟨u2_0, hu_2, hsp⟩ := ox_bind hsp
  try dsimp only at hsp
  have hPc := hP.sub (ws' := [(h0, .inr (11, [.ref qf0, .ref qf1, .int v2, .int v3, .int v4, .ref qf5, .int v6, .int v7, .ref qf8, .ref qf9, .ref qf10, .ref qf11, .ref qf12, .ref qf13, .ref qf14, .ref qf15, .int v16, .int v17, .int v18, .int v19, .int v20])), (qf5, .inr (3, [.ref qf5_0, .int v5_1, .int v5_2, .int v5_3, .ref qf5_4, .ref qf5_5, .ref qf5_6, .int v5_7, .int v5_8, .int v5_9, .int v5_10, .ref qf5_11, .int v5_12, .ref qf5_13])), (qf5_13, .inl (cf5_13, 144, .inl f5_13)), (qf5_0, .inl (cf5_0, nb, .inl f5_0))]) [0, 1, 2, 3] rfl
  have hDc := hD.sub (ws' := [(h0, .inr (11, [.ref qf0, .ref qf1, .int v2, .int v3, .int v4, .ref qf5, .int v6, .int v7, .ref qf8, .ref qf9, .ref qf10, .ref qf11, .ref qf12, .ref qf13, .ref qf14, .ref qf15, .int v16, .int v17, .int v18, .int v19, .int v20])), (qf5, .inr (3, [.ref qf5_0, .int v5_1, .int v5_2, .int v5_3, .ref qf5_4, .ref qf5_5, .ref qf5_6, .int v5_7, .int v5_8, .int v5_9, .int v5_10, .ref qf5_11, .int v5_12, .ref qf5_13])), (qf5_13, .inl (cf5_13, 144, .inl f5_13)), (qf5_0, .inl (cf5_0, nb, .inl f5_0))]) [0, 1, 2, 3] (by decide) rfl
  have hKc := hK.sub (tys' := [(cf5_13, .int), (cf5_0, .byte)]) [0, 1] rfl
  have hFc := va_free (wc := [(h0, .inr (11, [.ref qf0, .ref qf1, .int v2, .int v3, .int v4, .ref qf5, .int v6, .int v7, .ref qf8, .ref qf9, .ref qf10, .ref qf11, .ref qf12, .ref qf13, .ref qf14, .ref qf15, .int v16, .int v17, .int v18, .int v19, .int v20])), (qf5, .inr (3, [.ref qf5_0, .int v5_1, .int v5_2, .int v5_3, .ref qf5_4, .ref qf5_5, .ref qf5_6, .int v5_7, .int v5_8, .int v5_9, .int v5_10, .ref qf5_11, .int v5_12, .ref qf5_13])), (qf5_13, .inl (cf5_13, 144, .inl f5_13)), (qf5_0, .inl (cf5_0, nb, .inl f5_0))]) hD hS hA [0, 1, 2, 3] rfl
  refine va_calli (va_runV (As := [.int (a1 + 2)]) (rest := [.int (u1_0 <<< (8 &&& 31)), .int a1]) ⟨hx, hb, hml, hown, hts⟩ (t11_codeAt l dC dI H.size h0 ((a1 + 2)) qf0 qf1 v2 v3 v4 qf5 v6 v7 qf8 qf9 qf10 qf11 qf12 qf13 qf14 qf15 v16 v17 v18 v19 v20 qf5_0 v5_1 v5_2 v5_3 qf5_4 qf5_5 qf5_6 v5_7 v5_8 v5_9 v5_10 qf5_11 v5_12 qf5_13 cf5_13 f5_13 cf5_0 nb f5_0 nf u2_0 hu_2) (cwV 1 hts gv_h3_36 rfl rfl rfl (by decide +kernel) ⟨Nat.le_of_ble_eq_true rfl, Nat.le_of_ble_eq_true rfl⟩) ⟨fun a U g mk q => by obtain ⟨q0, q1, qP, qK, qD⟩ := q; exact ⟨q0, q1, qP, va_K.moved (u := U) (U := U.calling g mk a) (Vm.Alike.refl U.vm) qK, qD⟩, va_recv hKc hPc (ci := 11) (q0 := 0) rfl rfl, fun U hU hW => ⟨rfl, by rw [hU], by rw [hU]; exact hPc, va_K.moved hW.alike hKc, hDc.weaken (fun _ _ _ _ => trivial)⟩⟩ rfl rfl hl.1 rfl (lv_room (Nat.le_of_ble_eq_true rfl)) dX11_aimOf_15 ⟨Nat.le_of_ble_eq_true rfl, Nat.le_of_ble_eq_true rfl⟩) hS (fun q _ h => hFc q h) hFc ?_
  clear hS
  intro r_2 u t H1 locs ht hvm hw hB hz1 hk1 hS
  obtain ⟨⟩ := u
  obtain ⟨hP1, hK1, hD1⟩ := hB
  rw [ht] at hP1
  have hK1 := va_K.moved hvm.symm hK1
  try dsimp only at hw
  have hPD := va_join (wr := []) (w1 := [(h0, .inr (11, [.ref qf0, .ref qf1, .int v2, .int v3, .int v4, .ref qf5, .int v6, .int v7, .ref qf8, .ref qf9, .ref qf10, .ref qf11, .ref qf12, .ref qf13, .ref qf14, .ref qf15, .int v16, .int v17, .int v18, .int v19, .int v20])), (qf5, .inr (3, [.ref qf5_0, .int v5_1, .int v5_2, .int v5_3, .ref qf5_4, .ref qf5_5, .ref qf5_6, .int v5_7, .int v5_8, .int v5_9, .int v5_10, .ref qf5_11, .int v5_12, .ref qf5_13])), (qf5_13, .inl (cf5_13, 144, .inl f5_13)), (qf5_0, .inl (cf5_0, nb, .inl f5_0))]) hP hD [0, 1, 2, 3] [] rfl rfl (by decide) (by decide) hk1 hFc hP1 hD1
  clear hP hD
  obtain ⟨hP, hD⟩ := hPD
  replace hK := (hK.sub (tys' := []) [] rfl).app hK1
  clear hPc hDc hKc hFc hP1 hK1 hD1 hz1 hk1 ht hvm
  generalize H1 = H at hP hS ⊢
  replace hP : va_P (dC, dI) vwCl [(h0, .inr (11, [.ref qf0, .ref qf1, .int v2, .int v3, .int v4, .ref qf5, .int v6, .int v7, .ref qf8, .ref qf9, .ref qf10, .ref qf11, .ref qf12, .ref qf13, .ref qf14, .ref qf15, .int v16, .int v17, .int v18, .int v19, .int v20])), (qf5, .inr (3, [.ref qf5_0, .int v5_1, .int v5_2, .int v5_3, .ref qf5_4, .ref qf5_5, .ref qf5_6, .int v5_7, .int v5_8, .int v5_9, .int v5_10, .ref qf5_11, .int v5_12, .ref qf5_13])), (qf5_13, .inl (cf5_13, 144, .inl f5_13)), (qf5_0, .inl (cf5_0, nb, .inl f5_0))] H := hP
  replace hD : va_D A [(h0, .inr (11, [.ref qf0, .ref qf1, .int v2, .int v3, .int v4, .ref qf5, .int v6, .int v7, .ref qf8, .ref qf9, .ref qf10, .ref qf11, .ref qf12, .ref qf13, .ref qf14, .ref qf15, .int v16, .int v17, .int v18, .int v19, .int v20])), (qf5, .inr (3, [.ref qf5_0, .int v5_1, .int v5_2, .int v5_3, .ref qf5_4, .ref qf5_5, .ref qf5_6, .int v5_7, .int v5_8, .int v5_9, .int v5_10, .ref qf5_11, .int v5_12, .ref qf5_13])), (qf5_13, .inl (cf5_13, 144, .inl f5_13)), (qf5_0, .inl (cf5_0, nb, .inl f5_0))] := hD
  replace hK : va_K (dC, dI) vwCl [(cf5_13, .int), (cf5_0, .byte)] s := hK
  obtain rfl := hw
  refine lv_ior hx hb dX11_aimOf_18 ?_
  refine lv_i2s hx hb dX11_aimOf_19 rfl ?_
  refine lv_iadd hx hb dX11_aimOf_20 ?_
  have hr0 := Option.some.inj hsp
  clear hsp
  subst hr0
  have hP9 := hP.sub (ws' := [(h0, .inr (11, [.ref qf0, .ref qf1, .int v2, .int v3, .int v4, .ref qf5, .int v6, .int v7, .ref qf8, .ref qf9, .ref qf10, .ref qf11, .ref qf12, .ref qf13, .ref qf14, .ref qf15, .int v16, .int v17, .int v18, .int v19, .int v20])), (qf5, .inr (3, [.ref qf5_0, .int v5_1, .int v5_2, .int v5_3, .ref qf5_4, .ref qf5_5, .ref qf5_6, .int v5_7, .int v5_8, .int v5_9, .int v5_10, .ref qf5_11, .int v5_12, .ref qf5_13])), (qf5_13, .inl (cf5_13, 144, .inl f5_13)), (qf5_0, .inl (cf5_0, nb, .inl f5_0))]) [0, 1, 2, 3] rfl
  have hD9 := hD.sub (ws' := [(h0, .inr (11, [.ref qf0, .ref qf1, .int v2, .int v3, .int v4, .ref qf5, .int v6, .int v7, .ref qf8, .ref qf9, .ref qf10, .ref qf11, .ref qf12, .ref qf13, .ref qf14, .ref qf15, .int v16, .int v17, .int v18, .int v19, .int v20])), (qf5, .inr (3, [.ref qf5_0, .int v5_1, .int v5_2, .int v5_3, .ref qf5_4, .ref qf5_5, .ref qf5_6, .int v5_7, .int v5_8, .int v5_9, .int v5_10, .ref qf5_11, .int v5_12, .ref qf5_13])), (qf5_13, .inl (cf5_13, 144, .inl f5_13)), (qf5_0, .inl (cf5_0, nb, .inl f5_0))]) [0, 1, 2, 3] (by decide) rfl
  have hK9 := hK.sub (tys' := [(cf5_13, .int), (cf5_0, .byte)]) [0, 1] rfl
  exact W.iret hx hb hr (fun t ht hW => ⟨⟨((a1 + ((((u1_0 <<< (8 &&& 31)) ||| u2_0) : Int32).toInt16.toInt32))), (), rfl, rfl, by rw [ht]; exact hP9, va_K.moved hW.alike hK9, hD9⟩, hS.F ht⟩) hS.2.2 dX11_aimOf_21
def sp_t11_isJump (nf : Nat) (a1 : Int32) : Option (Int32) := (if a1 = 153 then (some 1) else (if a1 = 154 then (some 1) else (if a1 < 159 then (some 0) else (if 167 < a1 then (some 0) else (some 1)))))
set_option maxHeartbeats 4000000 in
set_option maxRecDepth 100000 in
/-- ClassMill$Verifier.isJump -/
theorem t11_isJump (l : Launch) (dC : Nat → ClassId) (dI : Nat → Nat → Nat) (sz : Nat) (a1 : Int32) (nf : Nat) (r0 : Int32) (hsp : sp_t11_isJump nf a1 = some r0) : Met l yX11_isJump (.code yX11_isJump cX11_isJump 1 (some .boolean) :: VS_h3) ({ frames := 0, cells := 0, slots := 0, locals := 0 }) (va_Pc [.int a1] (fun U => U.heap.size = sz ∧ va_P (dC, dI) vwCl [] U.heap ∧ va_K (dC, dI) vwCl [] U ∧ va_D (fun _ => True) [])) (va_Qi (fun (r : Int32) (u : Unit) => match u with | () => r0 = r ∧ (r0 = 0 ∨ r0 = 1)) (fun (u : Unit) (t : State) => match u with | () => va_P (dC, dI) vwCl [] t.heap ∧ va_K (dC, dI) vwCl [] t ∧ va_D (va_A [] sz) []) (va_A [] sz)) 0 0 (va_A [] sz) := by
  refine Met.ofW (cc := cX11_isJump) (maxL := 1) (ret := (some .boolean)) (by decide) rfl ?_
  intro p e s m args below meth c s₁ B hml hv
  obtain ⟨rfl, hsz, hP, hK, hD0⟩ := hv
  have hx := B.exec
  have hb := B.bytes
  have hr := B.returns
  have hts := atoms_spec (ws := (.code yX11_isJump cX11_isJump 1 (some .boolean) :: VS_h3)) B.pre
  replace hts := fun w (h : w ∈ VS_h3) => hts w (List.mem_cons_of_mem _ h)
  have hown : s.vm.findClass RX11 = some m.cls := findClass_of_methodNamed B.named
  have hlocks := B.notSynchronized
  subst hsz
  have hD := hD0.self (sz := s.heap.size)
  generalize hAe : va_A [] s.heap.size = A at hD  ⊢
  have hA : ∀ q : Nat, s.heap.size ≤ q → A q := fun q h => by rw [← hAe]; exact Or.inr h
  have hP : va_P (dC, dI) vwCl [] s.heap := hP
  have hl := lv_entry ([.int a1]) (n := 1) (Nat.le_of_ble_eq_true rfl)
  rw [lg_entry_eq]
  generalize (lg_sl ([.int a1]) ++ List.replicate (1 - (lg_sl ([.int a1])).length) Slot.unset).toArray = ls at hl ⊢
  have hl : lv_has ls 1 [(0, .int a1)] := hl
  obtain ⟨H, hH⟩ : ∃ H : Heap, s.heap = H := ⟨_, rfl⟩
  rw [hH] at hP ⊢
  have hS : va_S A s.heap H [] := by rw [← hH]; exact va_S.rf
  obtain ⟨locs, hlo⟩ : ∃ locs : List Loc, locs = [] := ⟨_, rfl⟩
  rw [← hlo] at hS ⊢
  unfold sp_t11_isJump at hsp
  refine lv_iload_n hx hb dX11_isJump_0 rfl (lv_at hl 0 rfl) ?_
  refine lv_sipush (v := 153) hx hb dX11_isJump_1 (by decide) ?_
  refine lv_icmp_eq (tgt := 28) hx hb dX11_isJump_4 (by decide) (fun c_1 => ?_) (fun c_1 => ?_)
  · rw [if_pos c_1] at hsp
    refine lv_iconst (v := 1) hx hb dX11_isJump_28 (by decide) ?_
    refine lv_goto (tgt := 33) hx hb dX11_isJump_29 (by decide) ?_
    have hr0 := Option.some.inj hsp
    clear hsp
    subst hr0
    have hP9 := hP.sub (ws' := []) [] rfl
    have hD9 := hD.sub (ws' := []) [] (by decide) rfl
    have hK9 := hK.sub (tys' := []) [] rfl
    exact W.zret hx hb hr (by decide) (fun t ht hW => ⟨⟨(1), (), rfl, ⟨rfl, Or.inr rfl⟩, by rw [ht]; exact hP9, va_K.moved hW.alike hK9, hD9⟩, hS.F ht⟩) hS.2.2 dX11_isJump_33
  · rw [if_neg c_1] at hsp
    refine lv_iload_n hx hb dX11_isJump_7 rfl (lv_at hl 0 rfl) ?_
    refine lv_sipush (v := 154) hx hb dX11_isJump_8 (by decide) ?_
    refine lv_icmp_eq (tgt := 28) hx hb dX11_isJump_11 (by decide) (fun c_2 => ?_) (fun c_2 => ?_)
    · rw [if_pos c_2] at hsp
      refine lv_iconst (v := 1) hx hb dX11_isJump_28 (by decide) ?_
      refine lv_goto (tgt := 33) hx hb dX11_isJump_29 (by decide) ?_
      have hr0 := Option.some.inj hsp
      clear hsp
      subst hr0
      have hP9 := hP.sub (ws' := []) [] rfl
      have hD9 := hD.sub (ws' := []) [] (by decide) rfl
      have hK9 := hK.sub (tys' := []) [] rfl
      exact W.zret hx hb hr (by decide) (fun t ht hW => ⟨⟨(1), (), rfl, ⟨rfl, Or.inr rfl⟩, by rw [ht]; exact hP9, va_K.moved hW.alike hK9, hD9⟩, hS.F ht⟩) hS.2.2 dX11_isJump_33
    · rw [if_neg c_2] at hsp
      refine lv_iload_n hx hb dX11_isJump_14 rfl (lv_at hl 0 rfl) ?_
      refine lv_sipush (v := 159) hx hb dX11_isJump_15 (by decide) ?_
      refine lv_icmp_lt (tgt := 32) hx hb dX11_isJump_18 (by decide) (fun c_3 => ?_) (fun c_3 => ?_)
      · rw [if_pos c_3] at hsp
        refine lv_iconst (v := 0) hx hb dX11_isJump_32 (by decide) ?_
        have hr0 := Option.some.inj hsp
        clear hsp
        subst hr0
        have hP9 := hP.sub (ws' := []) [] rfl
        have hD9 := hD.sub (ws' := []) [] (by decide) rfl
        have hK9 := hK.sub (tys' := []) [] rfl
        exact W.zret hx hb hr (by decide) (fun t ht hW => ⟨⟨(0), (), rfl, ⟨rfl, Or.inl rfl⟩, by rw [ht]; exact hP9, va_K.moved hW.alike hK9, hD9⟩, hS.F ht⟩) hS.2.2 dX11_isJump_33
      · rw [if_neg c_3] at hsp
        refine lv_iload_n hx hb dX11_isJump_21 rfl (lv_at hl 0 rfl) ?_
        refine lv_sipush (v := 167) hx hb dX11_isJump_22 (by decide) ?_
        refine lv_icmp_gt (tgt := 32) hx hb dX11_isJump_25 (by decide) (fun c_4 => ?_) (fun c_4 => ?_)
        · rw [if_pos c_4] at hsp
          refine lv_iconst (v := 0) hx hb dX11_isJump_32 (by decide) ?_
          have hr0 := Option.some.inj hsp
          clear hsp
          subst hr0
          have hP9 := hP.sub (ws' := []) [] rfl
          have hD9 := hD.sub (ws' := []) [] (by decide) rfl
          have hK9 := hK.sub (tys' := []) [] rfl
          exact W.zret hx hb hr (by decide) (fun t ht hW => ⟨⟨(0), (), rfl, ⟨rfl, Or.inl rfl⟩, by rw [ht]; exact hP9, va_K.moved hW.alike hK9, hD9⟩, hS.F ht⟩) hS.2.2 dX11_isJump_33
        · rw [if_neg c_4] at hsp
          refine lv_iconst (v := 1) hx hb dX11_isJump_28 (by decide) ?_
          refine lv_goto (tgt := 33) hx hb dX11_isJump_29 (by decide) ?_
          have hr0 := Option.some.inj hsp
          clear hsp
          subst hr0
          have hP9 := hP.sub (ws' := []) [] rfl
          have hD9 := hD.sub (ws' := []) [] (by decide) rfl
          have hK9 := hK.sub (tys' := []) [] rfl
          exact W.zret hx hb hr (by decide) (fun t ht hW => ⟨⟨(1), (), rfl, ⟨rfl, Or.inr rfl⟩, by rw [ht]; exact hP9, va_K.moved hW.alike hK9, hD9⟩, hS.F ht⟩) hS.2.2 dX11_isJump_33
def sp_t11_isArithmetic (nf : Nat) (a1 : Int32) : Option (Int32) := (if a1 = 96 then (some 1) else (if a1 = 97 then (some 0) else (if a1 = 98 then (some 0) else (if a1 = 99 then (some 0) else (if a1 = 100 then (some 1) else (if a1 = 101 then (some 0) else (if a1 = 102 then (some 0) else (if a1 = 103 then (some 0) else (if a1 = 104 then (some 1) else (if a1 = 105 then (some 0) else (if a1 = 106 then (some 0) else (if a1 = 107 then (some 0) else (if a1 = 108 then (some 1) else (if a1 = 109 then (some 0) else (if a1 = 110 then (some 0) else (if a1 = 111 then (some 0) else (if a1 = 112 then (some 1) else (if a1 = 113 then (some 0) else (if a1 = 114 then (some 0) else (if a1 = 115 then (some 0) else (if a1 = 116 then (some 0) else (if a1 = 117 then (some 0) else (if a1 = 118 then (some 0) else (if a1 = 119 then (some 0) else (if a1 = 120 then (some 1) else (if a1 = 121 then (some 0) else (if a1 = 122 then (some 1) else (if a1 = 123 then (some 0) else (if a1 = 124 then (some 1) else (if a1 = 125 then (some 0) else (if a1 = 126 then (some 1) else (if a1 = 127 then (some 0) else (if a1 = 128 then (some 1) else (if a1 = 129 then (some 0) else (if a1 = 130 then (some 1) else (some 0))))))))))))))))))))))))))))))))))))
set_option maxHeartbeats 4000000 in
set_option maxRecDepth 100000 in
/-- ClassMill$Verifier.isArithmetic -/
theorem t11_isArithmetic (l : Launch) (dC : Nat → ClassId) (dI : Nat → Nat → Nat) (sz : Nat) (a1 : Int32) (nf : Nat) (r0 : Int32) (hsp : sp_t11_isArithmetic nf a1 = some r0) : Met l yX11_isArithmetic (.code yX11_isArithmetic cX11_isArithmetic 1 (some .boolean) :: VS_h3) ({ frames := 0, cells := 0, slots := 0, locals := 0 }) (va_Pc [.int a1] (fun U => U.heap.size = sz ∧ va_P (dC, dI) vwCl [] U.heap ∧ va_K (dC, dI) vwCl [] U ∧ va_D (fun _ => True) [])) (va_Qi (fun (r : Int32) (u : Unit) => match u with | () => r0 = r ∧ (r0 = 0 ∨ r0 = 1)) (fun (u : Unit) (t : State) => match u with | () => va_P (dC, dI) vwCl [] t.heap ∧ va_K (dC, dI) vwCl [] t ∧ va_D (va_A [] sz) []) (va_A [] sz)) 0 0 (va_A [] sz) := by
  refine Met.ofW (cc := cX11_isArithmetic) (maxL := 1) (ret := (some .boolean)) (by decide) rfl ?_
  intro p e s m args below meth c s₁ B hml hv
  obtain ⟨rfl, hsz, hP, hK, hD0⟩ := hv
  have hx := B.exec
  have hb := B.bytes
  have hr := B.returns
  have hts := atoms_spec (ws := (.code yX11_isArithmetic cX11_isArithmetic 1 (some .boolean) :: VS_h3)) B.pre
  replace hts := fun w (h : w ∈ VS_h3) => hts w (List.mem_cons_of_mem _ h)
  have hown : s.vm.findClass RX11 = some m.cls := findClass_of_methodNamed B.named
  have hlocks := B.notSynchronized
  subst hsz
  have hD := hD0.self (sz := s.heap.size)
  generalize hAe : va_A [] s.heap.size = A at hD  ⊢
  have hA : ∀ q : Nat, s.heap.size ≤ q → A q := fun q h => by rw [← hAe]; exact Or.inr h
  have hP : va_P (dC, dI) vwCl [] s.heap := hP
  have hl := lv_entry ([.int a1]) (n := 1) (Nat.le_of_ble_eq_true rfl)
  rw [lg_entry_eq]
  generalize (lg_sl ([.int a1]) ++ List.replicate (1 - (lg_sl ([.int a1])).length) Slot.unset).toArray = ls at hl ⊢
  have hl : lv_has ls 1 [(0, .int a1)] := hl
  obtain ⟨H, hH⟩ : ∃ H : Heap, s.heap = H := ⟨_, rfl⟩
  rw [hH] at hP ⊢
  have hS : va_S A s.heap H [] := by rw [← hH]; exact va_S.rf
  obtain ⟨locs, hlo⟩ : ∃ locs : List Loc, locs = [] := ⟨_, rfl⟩
  rw [← hlo] at hS ⊢
  unfold sp_t11_isArithmetic at hsp
  refine lv_iload_n hx hb dX11_isArithmetic_0 rfl (lv_at hl 0 rfl) ?_
  by_cases hs_1 : a1 = 96
  · rw [if_pos hs_1] at hsp
    refine lv_tableIn (tgt := 156) hx hb dX11_isArithmetic_1 (by rw [hs_1]; decide) (by rw [hs_1]; decide) (off := 155) (by rw [hs_1]; rfl) (by decide) ?_
    refine lv_iconst (v := 1) hx hb dX11_isArithmetic_156 (by decide) ?_
    have hr0 := Option.some.inj hsp
    clear hsp
    subst hr0
    have hP9 := hP.sub (ws' := []) [] rfl
    have hD9 := hD.sub (ws' := []) [] (by decide) rfl
    have hK9 := hK.sub (tys' := []) [] rfl
    exact W.zret hx hb hr (by decide) (fun t ht hW => ⟨⟨(1), (), rfl, ⟨rfl, Or.inr rfl⟩, by rw [ht]; exact hP9, va_K.moved hW.alike hK9, hD9⟩, hS.F ht⟩) hS.2.2 dX11_isArithmetic_157
  rw [if_neg hs_1] at hsp
  by_cases hs_2 : a1 = 97
  · rw [if_pos hs_2] at hsp
    refine lv_tableIn (tgt := 158) hx hb dX11_isArithmetic_1 (by rw [hs_2]; decide) (by rw [hs_2]; decide) (off := 157) (by rw [hs_2]; rfl) (by decide) ?_
    refine lv_iconst (v := 0) hx hb dX11_isArithmetic_158 (by decide) ?_
    have hr0 := Option.some.inj hsp
    clear hsp
    subst hr0
    have hP9 := hP.sub (ws' := []) [] rfl
    have hD9 := hD.sub (ws' := []) [] (by decide) rfl
    have hK9 := hK.sub (tys' := []) [] rfl
    exact W.zret hx hb hr (by decide) (fun t ht hW => ⟨⟨(0), (), rfl, ⟨rfl, Or.inl rfl⟩, by rw [ht]; exact hP9, va_K.moved hW.alike hK9, hD9⟩, hS.F ht⟩) hS.2.2 dX11_isArithmetic_159
  rw [if_neg hs_2] at hsp
  by_cases hs_3 : a1 = 98
  · rw [if_pos hs_3] at hsp
    refine lv_tableIn (tgt := 158) hx hb dX11_isArithmetic_1 (by rw [hs_3]; decide) (by rw [hs_3]; decide) (off := 157) (by rw [hs_3]; rfl) (by decide) ?_
    refine lv_iconst (v := 0) hx hb dX11_isArithmetic_158 (by decide) ?_
    have hr0 := Option.some.inj hsp
    clear hsp
    subst hr0
    have hP9 := hP.sub (ws' := []) [] rfl
    have hD9 := hD.sub (ws' := []) [] (by decide) rfl
    have hK9 := hK.sub (tys' := []) [] rfl
    exact W.zret hx hb hr (by decide) (fun t ht hW => ⟨⟨(0), (), rfl, ⟨rfl, Or.inl rfl⟩, by rw [ht]; exact hP9, va_K.moved hW.alike hK9, hD9⟩, hS.F ht⟩) hS.2.2 dX11_isArithmetic_159
  rw [if_neg hs_3] at hsp
  by_cases hs_4 : a1 = 99
  · rw [if_pos hs_4] at hsp
    refine lv_tableIn (tgt := 158) hx hb dX11_isArithmetic_1 (by rw [hs_4]; decide) (by rw [hs_4]; decide) (off := 157) (by rw [hs_4]; rfl) (by decide) ?_
    refine lv_iconst (v := 0) hx hb dX11_isArithmetic_158 (by decide) ?_
    have hr0 := Option.some.inj hsp
    clear hsp
    subst hr0
    have hP9 := hP.sub (ws' := []) [] rfl
    have hD9 := hD.sub (ws' := []) [] (by decide) rfl
    have hK9 := hK.sub (tys' := []) [] rfl
    exact W.zret hx hb hr (by decide) (fun t ht hW => ⟨⟨(0), (), rfl, ⟨rfl, Or.inl rfl⟩, by rw [ht]; exact hP9, va_K.moved hW.alike hK9, hD9⟩, hS.F ht⟩) hS.2.2 dX11_isArithmetic_159
  rw [if_neg hs_4] at hsp
  by_cases hs_5 : a1 = 100
  · rw [if_pos hs_5] at hsp
    refine lv_tableIn (tgt := 156) hx hb dX11_isArithmetic_1 (by rw [hs_5]; decide) (by rw [hs_5]; decide) (off := 155) (by rw [hs_5]; rfl) (by decide) ?_
    refine lv_iconst (v := 1) hx hb dX11_isArithmetic_156 (by decide) ?_
    have hr0 := Option.some.inj hsp
    clear hsp
    subst hr0
    have hP9 := hP.sub (ws' := []) [] rfl
    have hD9 := hD.sub (ws' := []) [] (by decide) rfl
    have hK9 := hK.sub (tys' := []) [] rfl
    exact W.zret hx hb hr (by decide) (fun t ht hW => ⟨⟨(1), (), rfl, ⟨rfl, Or.inr rfl⟩, by rw [ht]; exact hP9, va_K.moved hW.alike hK9, hD9⟩, hS.F ht⟩) hS.2.2 dX11_isArithmetic_157
  rw [if_neg hs_5] at hsp
  by_cases hs_6 : a1 = 101
  · rw [if_pos hs_6] at hsp
    refine lv_tableIn (tgt := 158) hx hb dX11_isArithmetic_1 (by rw [hs_6]; decide) (by rw [hs_6]; decide) (off := 157) (by rw [hs_6]; rfl) (by decide) ?_
    refine lv_iconst (v := 0) hx hb dX11_isArithmetic_158 (by decide) ?_
    have hr0 := Option.some.inj hsp
    clear hsp
    subst hr0
    have hP9 := hP.sub (ws' := []) [] rfl
    have hD9 := hD.sub (ws' := []) [] (by decide) rfl
    have hK9 := hK.sub (tys' := []) [] rfl
    exact W.zret hx hb hr (by decide) (fun t ht hW => ⟨⟨(0), (), rfl, ⟨rfl, Or.inl rfl⟩, by rw [ht]; exact hP9, va_K.moved hW.alike hK9, hD9⟩, hS.F ht⟩) hS.2.2 dX11_isArithmetic_159
  rw [if_neg hs_6] at hsp
  by_cases hs_7 : a1 = 102
  · rw [if_pos hs_7] at hsp
    refine lv_tableIn (tgt := 158) hx hb dX11_isArithmetic_1 (by rw [hs_7]; decide) (by rw [hs_7]; decide) (off := 157) (by rw [hs_7]; rfl) (by decide) ?_
    refine lv_iconst (v := 0) hx hb dX11_isArithmetic_158 (by decide) ?_
    have hr0 := Option.some.inj hsp
    clear hsp
    subst hr0
    have hP9 := hP.sub (ws' := []) [] rfl
    have hD9 := hD.sub (ws' := []) [] (by decide) rfl
    have hK9 := hK.sub (tys' := []) [] rfl
    exact W.zret hx hb hr (by decide) (fun t ht hW => ⟨⟨(0), (), rfl, ⟨rfl, Or.inl rfl⟩, by rw [ht]; exact hP9, va_K.moved hW.alike hK9, hD9⟩, hS.F ht⟩) hS.2.2 dX11_isArithmetic_159
  rw [if_neg hs_7] at hsp
  by_cases hs_8 : a1 = 103
  · rw [if_pos hs_8] at hsp
    refine lv_tableIn (tgt := 158) hx hb dX11_isArithmetic_1 (by rw [hs_8]; decide) (by rw [hs_8]; decide) (off := 157) (by rw [hs_8]; rfl) (by decide) ?_
    refine lv_iconst (v := 0) hx hb dX11_isArithmetic_158 (by decide) ?_
    have hr0 := Option.some.inj hsp
    clear hsp
    subst hr0
    have hP9 := hP.sub (ws' := []) [] rfl
    have hD9 := hD.sub (ws' := []) [] (by decide) rfl
    have hK9 := hK.sub (tys' := []) [] rfl
    exact W.zret hx hb hr (by decide) (fun t ht hW => ⟨⟨(0), (), rfl, ⟨rfl, Or.inl rfl⟩, by rw [ht]; exact hP9, va_K.moved hW.alike hK9, hD9⟩, hS.F ht⟩) hS.2.2 dX11_isArithmetic_159
  rw [if_neg hs_8] at hsp
  by_cases hs_9 : a1 = 104
  · rw [if_pos hs_9] at hsp
    refine lv_tableIn (tgt := 156) hx hb dX11_isArithmetic_1 (by rw [hs_9]; decide) (by rw [hs_9]; decide) (off := 155) (by rw [hs_9]; rfl) (by decide) ?_
    refine lv_iconst (v := 1) hx hb dX11_isArithmetic_156 (by decide) ?_
    have hr0 := Option.some.inj hsp
    clear hsp
    subst hr0
    have hP9 := hP.sub (ws' := []) [] rfl
    have hD9 := hD.sub (ws' := []) [] (by decide) rfl
    have hK9 := hK.sub (tys' := []) [] rfl
    exact W.zret hx hb hr (by decide) (fun t ht hW => ⟨⟨(1), (), rfl, ⟨rfl, Or.inr rfl⟩, by rw [ht]; exact hP9, va_K.moved hW.alike hK9, hD9⟩, hS.F ht⟩) hS.2.2 dX11_isArithmetic_157
  rw [if_neg hs_9] at hsp
  by_cases hs_10 : a1 = 105
  · rw [if_pos hs_10] at hsp
    refine lv_tableIn (tgt := 158) hx hb dX11_isArithmetic_1 (by rw [hs_10]; decide) (by rw [hs_10]; decide) (off := 157) (by rw [hs_10]; rfl) (by decide) ?_
    refine lv_iconst (v := 0) hx hb dX11_isArithmetic_158 (by decide) ?_
    have hr0 := Option.some.inj hsp
    clear hsp
    subst hr0
    have hP9 := hP.sub (ws' := []) [] rfl
    have hD9 := hD.sub (ws' := []) [] (by decide) rfl
    have hK9 := hK.sub (tys' := []) [] rfl
    exact W.zret hx hb hr (by decide) (fun t ht hW => ⟨⟨(0), (), rfl, ⟨rfl, Or.inl rfl⟩, by rw [ht]; exact hP9, va_K.moved hW.alike hK9, hD9⟩, hS.F ht⟩) hS.2.2 dX11_isArithmetic_159
  rw [if_neg hs_10] at hsp
  by_cases hs_11 : a1 = 106
  · rw [if_pos hs_11] at hsp
    refine lv_tableIn (tgt := 158) hx hb dX11_isArithmetic_1 (by rw [hs_11]; decide) (by rw [hs_11]; decide) (off := 157) (by rw [hs_11]; rfl) (by decide) ?_
    refine lv_iconst (v := 0) hx hb dX11_isArithmetic_158 (by decide) ?_
    have hr0 := Option.some.inj hsp
    clear hsp
    subst hr0
    have hP9 := hP.sub (ws' := []) [] rfl
    have hD9 := hD.sub (ws' := []) [] (by decide) rfl
    have hK9 := hK.sub (tys' := []) [] rfl
    exact W.zret hx hb hr (by decide) (fun t ht hW => ⟨⟨(0), (), rfl, ⟨rfl, Or.inl rfl⟩, by rw [ht]; exact hP9, va_K.moved hW.alike hK9, hD9⟩, hS.F ht⟩) hS.2.2 dX11_isArithmetic_159
  rw [if_neg hs_11] at hsp
  by_cases hs_12 : a1 = 107
  · rw [if_pos hs_12] at hsp
    refine lv_tableIn (tgt := 158) hx hb dX11_isArithmetic_1 (by rw [hs_12]; decide) (by rw [hs_12]; decide) (off := 157) (by rw [hs_12]; rfl) (by decide) ?_
    refine lv_iconst (v := 0) hx hb dX11_isArithmetic_158 (by decide) ?_
    have hr0 := Option.some.inj hsp
    clear hsp
    subst hr0
    have hP9 := hP.sub (ws' := []) [] rfl
    have hD9 := hD.sub (ws' := []) [] (by decide) rfl
    have hK9 := hK.sub (tys' := []) [] rfl
    exact W.zret hx hb hr (by decide) (fun t ht hW => ⟨⟨(0), (), rfl, ⟨rfl, Or.inl rfl⟩, by rw [ht]; exact hP9, va_K.moved hW.alike hK9, hD9⟩, hS.F ht⟩) hS.2.2 dX11_isArithmetic_159
  rw [if_neg hs_12] at hsp
  by_cases hs_13 : a1 = 108
  · rw [if_pos hs_13] at hsp
    refine lv_tableIn (tgt := 156) hx hb dX11_isArithmetic_1 (by rw [hs_13]; decide) (by rw [hs_13]; decide) (off := 155) (by rw [hs_13]; rfl) (by decide) ?_
    refine lv_iconst (v := 1) hx hb dX11_isArithmetic_156 (by decide) ?_
    have hr0 := Option.some.inj hsp
    clear hsp
    subst hr0
    have hP9 := hP.sub (ws' := []) [] rfl
    have hD9 := hD.sub (ws' := []) [] (by decide) rfl
    have hK9 := hK.sub (tys' := []) [] rfl
    exact W.zret hx hb hr (by decide) (fun t ht hW => ⟨⟨(1), (), rfl, ⟨rfl, Or.inr rfl⟩, by rw [ht]; exact hP9, va_K.moved hW.alike hK9, hD9⟩, hS.F ht⟩) hS.2.2 dX11_isArithmetic_157
  rw [if_neg hs_13] at hsp
  by_cases hs_14 : a1 = 109
  · rw [if_pos hs_14] at hsp
    refine lv_tableIn (tgt := 158) hx hb dX11_isArithmetic_1 (by rw [hs_14]; decide) (by rw [hs_14]; decide) (off := 157) (by rw [hs_14]; rfl) (by decide) ?_
    refine lv_iconst (v := 0) hx hb dX11_isArithmetic_158 (by decide) ?_
    have hr0 := Option.some.inj hsp
    clear hsp
    subst hr0
    have hP9 := hP.sub (ws' := []) [] rfl
    have hD9 := hD.sub (ws' := []) [] (by decide) rfl
    have hK9 := hK.sub (tys' := []) [] rfl
    exact W.zret hx hb hr (by decide) (fun t ht hW => ⟨⟨(0), (), rfl, ⟨rfl, Or.inl rfl⟩, by rw [ht]; exact hP9, va_K.moved hW.alike hK9, hD9⟩, hS.F ht⟩) hS.2.2 dX11_isArithmetic_159
  rw [if_neg hs_14] at hsp
  by_cases hs_15 : a1 = 110
  · rw [if_pos hs_15] at hsp
    refine lv_tableIn (tgt := 158) hx hb dX11_isArithmetic_1 (by rw [hs_15]; decide) (by rw [hs_15]; decide) (off := 157) (by rw [hs_15]; rfl) (by decide) ?_
    refine lv_iconst (v := 0) hx hb dX11_isArithmetic_158 (by decide) ?_
    have hr0 := Option.some.inj hsp
    clear hsp
    subst hr0
    have hP9 := hP.sub (ws' := []) [] rfl
    have hD9 := hD.sub (ws' := []) [] (by decide) rfl
    have hK9 := hK.sub (tys' := []) [] rfl
    exact W.zret hx hb hr (by decide) (fun t ht hW => ⟨⟨(0), (), rfl, ⟨rfl, Or.inl rfl⟩, by rw [ht]; exact hP9, va_K.moved hW.alike hK9, hD9⟩, hS.F ht⟩) hS.2.2 dX11_isArithmetic_159
  rw [if_neg hs_15] at hsp
  by_cases hs_16 : a1 = 111
  · rw [if_pos hs_16] at hsp
    refine lv_tableIn (tgt := 158) hx hb dX11_isArithmetic_1 (by rw [hs_16]; decide) (by rw [hs_16]; decide) (off := 157) (by rw [hs_16]; rfl) (by decide) ?_
    refine lv_iconst (v := 0) hx hb dX11_isArithmetic_158 (by decide) ?_
    have hr0 := Option.some.inj hsp
    clear hsp
    subst hr0
    have hP9 := hP.sub (ws' := []) [] rfl
    have hD9 := hD.sub (ws' := []) [] (by decide) rfl
    have hK9 := hK.sub (tys' := []) [] rfl
    exact W.zret hx hb hr (by decide) (fun t ht hW => ⟨⟨(0), (), rfl, ⟨rfl, Or.inl rfl⟩, by rw [ht]; exact hP9, va_K.moved hW.alike hK9, hD9⟩, hS.F ht⟩) hS.2.2 dX11_isArithmetic_159
  rw [if_neg hs_16] at hsp
  by_cases hs_17 : a1 = 112
  · rw [if_pos hs_17] at hsp
    refine lv_tableIn (tgt := 156) hx hb dX11_isArithmetic_1 (by rw [hs_17]; decide) (by rw [hs_17]; decide) (off := 155) (by rw [hs_17]; rfl) (by decide) ?_
    refine lv_iconst (v := 1) hx hb dX11_isArithmetic_156 (by decide) ?_
    have hr0 := Option.some.inj hsp
    clear hsp
    subst hr0
    have hP9 := hP.sub (ws' := []) [] rfl
    have hD9 := hD.sub (ws' := []) [] (by decide) rfl
    have hK9 := hK.sub (tys' := []) [] rfl
    exact W.zret hx hb hr (by decide) (fun t ht hW => ⟨⟨(1), (), rfl, ⟨rfl, Or.inr rfl⟩, by rw [ht]; exact hP9, va_K.moved hW.alike hK9, hD9⟩, hS.F ht⟩) hS.2.2 dX11_isArithmetic_157
  rw [if_neg hs_17] at hsp
  by_cases hs_18 : a1 = 113
  · rw [if_pos hs_18] at hsp
    refine lv_tableIn (tgt := 158) hx hb dX11_isArithmetic_1 (by rw [hs_18]; decide) (by rw [hs_18]; decide) (off := 157) (by rw [hs_18]; rfl) (by decide) ?_
    refine lv_iconst (v := 0) hx hb dX11_isArithmetic_158 (by decide) ?_
    have hr0 := Option.some.inj hsp
    clear hsp
    subst hr0
    have hP9 := hP.sub (ws' := []) [] rfl
    have hD9 := hD.sub (ws' := []) [] (by decide) rfl
    have hK9 := hK.sub (tys' := []) [] rfl
    exact W.zret hx hb hr (by decide) (fun t ht hW => ⟨⟨(0), (), rfl, ⟨rfl, Or.inl rfl⟩, by rw [ht]; exact hP9, va_K.moved hW.alike hK9, hD9⟩, hS.F ht⟩) hS.2.2 dX11_isArithmetic_159
  rw [if_neg hs_18] at hsp
  by_cases hs_19 : a1 = 114
  · rw [if_pos hs_19] at hsp
    refine lv_tableIn (tgt := 158) hx hb dX11_isArithmetic_1 (by rw [hs_19]; decide) (by rw [hs_19]; decide) (off := 157) (by rw [hs_19]; rfl) (by decide) ?_
    refine lv_iconst (v := 0) hx hb dX11_isArithmetic_158 (by decide) ?_
    have hr0 := Option.some.inj hsp
    clear hsp
    subst hr0
    have hP9 := hP.sub (ws' := []) [] rfl
    have hD9 := hD.sub (ws' := []) [] (by decide) rfl
    have hK9 := hK.sub (tys' := []) [] rfl
    exact W.zret hx hb hr (by decide) (fun t ht hW => ⟨⟨(0), (), rfl, ⟨rfl, Or.inl rfl⟩, by rw [ht]; exact hP9, va_K.moved hW.alike hK9, hD9⟩, hS.F ht⟩) hS.2.2 dX11_isArithmetic_159
  rw [if_neg hs_19] at hsp
  by_cases hs_20 : a1 = 115
  · rw [if_pos hs_20] at hsp
    refine lv_tableIn (tgt := 158) hx hb dX11_isArithmetic_1 (by rw [hs_20]; decide) (by rw [hs_20]; decide) (off := 157) (by rw [hs_20]; rfl) (by decide) ?_
    refine lv_iconst (v := 0) hx hb dX11_isArithmetic_158 (by decide) ?_
    have hr0 := Option.some.inj hsp
    clear hsp
    subst hr0
    have hP9 := hP.sub (ws' := []) [] rfl
    have hD9 := hD.sub (ws' := []) [] (by decide) rfl
    have hK9 := hK.sub (tys' := []) [] rfl
    exact W.zret hx hb hr (by decide) (fun t ht hW => ⟨⟨(0), (), rfl, ⟨rfl, Or.inl rfl⟩, by rw [ht]; exact hP9, va_K.moved hW.alike hK9, hD9⟩, hS.F ht⟩) hS.2.2 dX11_isArithmetic_159
  rw [if_neg hs_20] at hsp
  by_cases hs_21 : a1 = 116
  · rw [if_pos hs_21] at hsp
    refine lv_tableIn (tgt := 158) hx hb dX11_isArithmetic_1 (by rw [hs_21]; decide) (by rw [hs_21]; decide) (off := 157) (by rw [hs_21]; rfl) (by decide) ?_
    refine lv_iconst (v := 0) hx hb dX11_isArithmetic_158 (by decide) ?_
    have hr0 := Option.some.inj hsp
    clear hsp
    subst hr0
    have hP9 := hP.sub (ws' := []) [] rfl
    have hD9 := hD.sub (ws' := []) [] (by decide) rfl
    have hK9 := hK.sub (tys' := []) [] rfl
    exact W.zret hx hb hr (by decide) (fun t ht hW => ⟨⟨(0), (), rfl, ⟨rfl, Or.inl rfl⟩, by rw [ht]; exact hP9, va_K.moved hW.alike hK9, hD9⟩, hS.F ht⟩) hS.2.2 dX11_isArithmetic_159
  rw [if_neg hs_21] at hsp
  by_cases hs_22 : a1 = 117
  · rw [if_pos hs_22] at hsp
    refine lv_tableIn (tgt := 158) hx hb dX11_isArithmetic_1 (by rw [hs_22]; decide) (by rw [hs_22]; decide) (off := 157) (by rw [hs_22]; rfl) (by decide) ?_
    refine lv_iconst (v := 0) hx hb dX11_isArithmetic_158 (by decide) ?_
    have hr0 := Option.some.inj hsp
    clear hsp
    subst hr0
    have hP9 := hP.sub (ws' := []) [] rfl
    have hD9 := hD.sub (ws' := []) [] (by decide) rfl
    have hK9 := hK.sub (tys' := []) [] rfl
    exact W.zret hx hb hr (by decide) (fun t ht hW => ⟨⟨(0), (), rfl, ⟨rfl, Or.inl rfl⟩, by rw [ht]; exact hP9, va_K.moved hW.alike hK9, hD9⟩, hS.F ht⟩) hS.2.2 dX11_isArithmetic_159
  rw [if_neg hs_22] at hsp
  by_cases hs_23 : a1 = 118
  · rw [if_pos hs_23] at hsp
    refine lv_tableIn (tgt := 158) hx hb dX11_isArithmetic_1 (by rw [hs_23]; decide) (by rw [hs_23]; decide) (off := 157) (by rw [hs_23]; rfl) (by decide) ?_
    refine lv_iconst (v := 0) hx hb dX11_isArithmetic_158 (by decide) ?_
    have hr0 := Option.some.inj hsp
    clear hsp
    subst hr0
    have hP9 := hP.sub (ws' := []) [] rfl
    have hD9 := hD.sub (ws' := []) [] (by decide) rfl
    have hK9 := hK.sub (tys' := []) [] rfl
    exact W.zret hx hb hr (by decide) (fun t ht hW => ⟨⟨(0), (), rfl, ⟨rfl, Or.inl rfl⟩, by rw [ht]; exact hP9, va_K.moved hW.alike hK9, hD9⟩, hS.F ht⟩) hS.2.2 dX11_isArithmetic_159
  rw [if_neg hs_23] at hsp
  by_cases hs_24 : a1 = 119
  · rw [if_pos hs_24] at hsp
    refine lv_tableIn (tgt := 158) hx hb dX11_isArithmetic_1 (by rw [hs_24]; decide) (by rw [hs_24]; decide) (off := 157) (by rw [hs_24]; rfl) (by decide) ?_
    refine lv_iconst (v := 0) hx hb dX11_isArithmetic_158 (by decide) ?_
    have hr0 := Option.some.inj hsp
    clear hsp
    subst hr0
    have hP9 := hP.sub (ws' := []) [] rfl
    have hD9 := hD.sub (ws' := []) [] (by decide) rfl
    have hK9 := hK.sub (tys' := []) [] rfl
    exact W.zret hx hb hr (by decide) (fun t ht hW => ⟨⟨(0), (), rfl, ⟨rfl, Or.inl rfl⟩, by rw [ht]; exact hP9, va_K.moved hW.alike hK9, hD9⟩, hS.F ht⟩) hS.2.2 dX11_isArithmetic_159
  rw [if_neg hs_24] at hsp
  by_cases hs_25 : a1 = 120
  · rw [if_pos hs_25] at hsp
    refine lv_tableIn (tgt := 156) hx hb dX11_isArithmetic_1 (by rw [hs_25]; decide) (by rw [hs_25]; decide) (off := 155) (by rw [hs_25]; rfl) (by decide) ?_
    refine lv_iconst (v := 1) hx hb dX11_isArithmetic_156 (by decide) ?_
    have hr0 := Option.some.inj hsp
    clear hsp
    subst hr0
    have hP9 := hP.sub (ws' := []) [] rfl
    have hD9 := hD.sub (ws' := []) [] (by decide) rfl
    have hK9 := hK.sub (tys' := []) [] rfl
    exact W.zret hx hb hr (by decide) (fun t ht hW => ⟨⟨(1), (), rfl, ⟨rfl, Or.inr rfl⟩, by rw [ht]; exact hP9, va_K.moved hW.alike hK9, hD9⟩, hS.F ht⟩) hS.2.2 dX11_isArithmetic_157
  rw [if_neg hs_25] at hsp
  by_cases hs_26 : a1 = 121
  · rw [if_pos hs_26] at hsp
    refine lv_tableIn (tgt := 158) hx hb dX11_isArithmetic_1 (by rw [hs_26]; decide) (by rw [hs_26]; decide) (off := 157) (by rw [hs_26]; rfl) (by decide) ?_
    refine lv_iconst (v := 0) hx hb dX11_isArithmetic_158 (by decide) ?_
    have hr0 := Option.some.inj hsp
    clear hsp
    subst hr0
    have hP9 := hP.sub (ws' := []) [] rfl
    have hD9 := hD.sub (ws' := []) [] (by decide) rfl
    have hK9 := hK.sub (tys' := []) [] rfl
    exact W.zret hx hb hr (by decide) (fun t ht hW => ⟨⟨(0), (), rfl, ⟨rfl, Or.inl rfl⟩, by rw [ht]; exact hP9, va_K.moved hW.alike hK9, hD9⟩, hS.F ht⟩) hS.2.2 dX11_isArithmetic_159
  rw [if_neg hs_26] at hsp
  by_cases hs_27 : a1 = 122
  · rw [if_pos hs_27] at hsp
    refine lv_tableIn (tgt := 156) hx hb dX11_isArithmetic_1 (by rw [hs_27]; decide) (by rw [hs_27]; decide) (off := 155) (by rw [hs_27]; rfl) (by decide) ?_
    refine lv_iconst (v := 1) hx hb dX11_isArithmetic_156 (by decide) ?_
    have hr0 := Option.some.inj hsp
    clear hsp
    subst hr0
    have hP9 := hP.sub (ws' := []) [] rfl
    have hD9 := hD.sub (ws' := []) [] (by decide) rfl
    have hK9 := hK.sub (tys' := []) [] rfl
    exact W.zret hx hb hr (by decide) (fun t ht hW => ⟨⟨(1), (), rfl, ⟨rfl, Or.inr rfl⟩, by rw [ht]; exact hP9, va_K.moved hW.alike hK9, hD9⟩, hS.F ht⟩) hS.2.2 dX11_isArithmetic_157
  rw [if_neg hs_27] at hsp
  by_cases hs_28 : a1 = 123
  · rw [if_pos hs_28] at hsp
    refine lv_tableIn (tgt := 158) hx hb dX11_isArithmetic_1 (by rw [hs_28]; decide) (by rw [hs_28]; decide) (off := 157) (by rw [hs_28]; rfl) (by decide) ?_
    refine lv_iconst (v := 0) hx hb dX11_isArithmetic_158 (by decide) ?_
    have hr0 := Option.some.inj hsp
    clear hsp
    subst hr0
    have hP9 := hP.sub (ws' := []) [] rfl
    have hD9 := hD.sub (ws' := []) [] (by decide) rfl
    have hK9 := hK.sub (tys' := []) [] rfl
    exact W.zret hx hb hr (by decide) (fun t ht hW => ⟨⟨(0), (), rfl, ⟨rfl, Or.inl rfl⟩, by rw [ht]; exact hP9, va_K.moved hW.alike hK9, hD9⟩, hS.F ht⟩) hS.2.2 dX11_isArithmetic_159
  rw [if_neg hs_28] at hsp
  by_cases hs_29 : a1 = 124
  · rw [if_pos hs_29] at hsp
    refine lv_tableIn (tgt := 156) hx hb dX11_isArithmetic_1 (by rw [hs_29]; decide) (by rw [hs_29]; decide) (off := 155) (by rw [hs_29]; rfl) (by decide) ?_
    refine lv_iconst (v := 1) hx hb dX11_isArithmetic_156 (by decide) ?_
    have hr0 := Option.some.inj hsp
    clear hsp
    subst hr0
    have hP9 := hP.sub (ws' := []) [] rfl
    have hD9 := hD.sub (ws' := []) [] (by decide) rfl
    have hK9 := hK.sub (tys' := []) [] rfl
    exact W.zret hx hb hr (by decide) (fun t ht hW => ⟨⟨(1), (), rfl, ⟨rfl, Or.inr rfl⟩, by rw [ht]; exact hP9, va_K.moved hW.alike hK9, hD9⟩, hS.F ht⟩) hS.2.2 dX11_isArithmetic_157
  rw [if_neg hs_29] at hsp
  by_cases hs_30 : a1 = 125
  · rw [if_pos hs_30] at hsp
    refine lv_tableIn (tgt := 158) hx hb dX11_isArithmetic_1 (by rw [hs_30]; decide) (by rw [hs_30]; decide) (off := 157) (by rw [hs_30]; rfl) (by decide) ?_
    refine lv_iconst (v := 0) hx hb dX11_isArithmetic_158 (by decide) ?_
    have hr0 := Option.some.inj hsp
    clear hsp
    subst hr0
    have hP9 := hP.sub (ws' := []) [] rfl
    have hD9 := hD.sub (ws' := []) [] (by decide) rfl
    have hK9 := hK.sub (tys' := []) [] rfl
    exact W.zret hx hb hr (by decide) (fun t ht hW => ⟨⟨(0), (), rfl, ⟨rfl, Or.inl rfl⟩, by rw [ht]; exact hP9, va_K.moved hW.alike hK9, hD9⟩, hS.F ht⟩) hS.2.2 dX11_isArithmetic_159
  rw [if_neg hs_30] at hsp
  by_cases hs_31 : a1 = 126
  · rw [if_pos hs_31] at hsp
    refine lv_tableIn (tgt := 156) hx hb dX11_isArithmetic_1 (by rw [hs_31]; decide) (by rw [hs_31]; decide) (off := 155) (by rw [hs_31]; rfl) (by decide) ?_
    refine lv_iconst (v := 1) hx hb dX11_isArithmetic_156 (by decide) ?_
    have hr0 := Option.some.inj hsp
    clear hsp
    subst hr0
    have hP9 := hP.sub (ws' := []) [] rfl
    have hD9 := hD.sub (ws' := []) [] (by decide) rfl
    have hK9 := hK.sub (tys' := []) [] rfl
    exact W.zret hx hb hr (by decide) (fun t ht hW => ⟨⟨(1), (), rfl, ⟨rfl, Or.inr rfl⟩, by rw [ht]; exact hP9, va_K.moved hW.alike hK9, hD9⟩, hS.F ht⟩) hS.2.2 dX11_isArithmetic_157
  rw [if_neg hs_31] at hsp
  by_cases hs_32 : a1 = 127
  · rw [if_pos hs_32] at hsp
    refine lv_tableIn (tgt := 158) hx hb dX11_isArithmetic_1 (by rw [hs_32]; decide) (by rw [hs_32]; decide) (off := 157) (by rw [hs_32]; rfl) (by decide) ?_
    refine lv_iconst (v := 0) hx hb dX11_isArithmetic_158 (by decide) ?_
    have hr0 := Option.some.inj hsp
    clear hsp
    subst hr0
    have hP9 := hP.sub (ws' := []) [] rfl
    have hD9 := hD.sub (ws' := []) [] (by decide) rfl
    have hK9 := hK.sub (tys' := []) [] rfl
    exact W.zret hx hb hr (by decide) (fun t ht hW => ⟨⟨(0), (), rfl, ⟨rfl, Or.inl rfl⟩, by rw [ht]; exact hP9, va_K.moved hW.alike hK9, hD9⟩, hS.F ht⟩) hS.2.2 dX11_isArithmetic_159
  rw [if_neg hs_32] at hsp
  by_cases hs_33 : a1 = 128
  · rw [if_pos hs_33] at hsp
    refine lv_tableIn (tgt := 156) hx hb dX11_isArithmetic_1 (by rw [hs_33]; decide) (by rw [hs_33]; decide) (off := 155) (by rw [hs_33]; rfl) (by decide) ?_
    refine lv_iconst (v := 1) hx hb dX11_isArithmetic_156 (by decide) ?_
    have hr0 := Option.some.inj hsp
    clear hsp
    subst hr0
    have hP9 := hP.sub (ws' := []) [] rfl
    have hD9 := hD.sub (ws' := []) [] (by decide) rfl
    have hK9 := hK.sub (tys' := []) [] rfl
    exact W.zret hx hb hr (by decide) (fun t ht hW => ⟨⟨(1), (), rfl, ⟨rfl, Or.inr rfl⟩, by rw [ht]; exact hP9, va_K.moved hW.alike hK9, hD9⟩, hS.F ht⟩) hS.2.2 dX11_isArithmetic_157
  rw [if_neg hs_33] at hsp
  by_cases hs_34 : a1 = 129
  · rw [if_pos hs_34] at hsp
    refine lv_tableIn (tgt := 158) hx hb dX11_isArithmetic_1 (by rw [hs_34]; decide) (by rw [hs_34]; decide) (off := 157) (by rw [hs_34]; rfl) (by decide) ?_
    refine lv_iconst (v := 0) hx hb dX11_isArithmetic_158 (by decide) ?_
    have hr0 := Option.some.inj hsp
    clear hsp
    subst hr0
    have hP9 := hP.sub (ws' := []) [] rfl
    have hD9 := hD.sub (ws' := []) [] (by decide) rfl
    have hK9 := hK.sub (tys' := []) [] rfl
    exact W.zret hx hb hr (by decide) (fun t ht hW => ⟨⟨(0), (), rfl, ⟨rfl, Or.inl rfl⟩, by rw [ht]; exact hP9, va_K.moved hW.alike hK9, hD9⟩, hS.F ht⟩) hS.2.2 dX11_isArithmetic_159
  rw [if_neg hs_34] at hsp
  by_cases hs_35 : a1 = 130
  · rw [if_pos hs_35] at hsp
    refine lv_tableIn (tgt := 156) hx hb dX11_isArithmetic_1 (by rw [hs_35]; decide) (by rw [hs_35]; decide) (off := 155) (by rw [hs_35]; rfl) (by decide) ?_
    refine lv_iconst (v := 1) hx hb dX11_isArithmetic_156 (by decide) ?_
    have hr0 := Option.some.inj hsp
    clear hsp
    subst hr0
    have hP9 := hP.sub (ws' := []) [] rfl
    have hD9 := hD.sub (ws' := []) [] (by decide) rfl
    have hK9 := hK.sub (tys' := []) [] rfl
    exact W.zret hx hb hr (by decide) (fun t ht hW => ⟨⟨(1), (), rfl, ⟨rfl, Or.inr rfl⟩, by rw [ht]; exact hP9, va_K.moved hW.alike hK9, hD9⟩, hS.F ht⟩) hS.2.2 dX11_isArithmetic_157
  rw [if_neg hs_35] at hsp
  refine lv_tableOut (tgt := 158) hx hb dX11_isArithmetic_1 (by have a0 := lv_neT hs_1 (a := 96) rfl; have a1 := lv_neT hs_2 (a := 97) rfl; have a2 := lv_neT hs_3 (a := 98) rfl; have a3 := lv_neT hs_4 (a := 99) rfl; have a4 := lv_neT hs_5 (a := 100) rfl; have a5 := lv_neT hs_6 (a := 101) rfl; have a6 := lv_neT hs_7 (a := 102) rfl; have a7 := lv_neT hs_8 (a := 103) rfl; have a8 := lv_neT hs_9 (a := 104) rfl; have a9 := lv_neT hs_10 (a := 105) rfl; have a10 := lv_neT hs_11 (a := 106) rfl; have a11 := lv_neT hs_12 (a := 107) rfl; have a12 := lv_neT hs_13 (a := 108) rfl; have a13 := lv_neT hs_14 (a := 109) rfl; have a14 := lv_neT hs_15 (a := 110) rfl; have a15 := lv_neT hs_16 (a := 111) rfl; have a16 := lv_neT hs_17 (a := 112) rfl; have a17 := lv_neT hs_18 (a := 113) rfl; have a18 := lv_neT hs_19 (a := 114) rfl; have a19 := lv_neT hs_20 (a := 115) rfl; have a20 := lv_neT hs_21 (a := 116) rfl; have a21 := lv_neT hs_22 (a := 117) rfl; have a22 := lv_neT hs_23 (a := 118) rfl; have a23 := lv_neT hs_24 (a := 119) rfl; have a24 := lv_neT hs_25 (a := 120) rfl; have a25 := lv_neT hs_26 (a := 121) rfl; have a26 := lv_neT hs_27 (a := 122) rfl; have a27 := lv_neT hs_28 (a := 123) rfl; have a28 := lv_neT hs_29 (a := 124) rfl; have a29 := lv_neT hs_30 (a := 125) rfl; have a30 := lv_neT hs_31 (a := 126) rfl; have a31 := lv_neT hs_32 (a := 127) rfl; have a32 := lv_neT hs_33 (a := 128) rfl; have a33 := lv_neT hs_34 (a := 129) rfl; have a34 := lv_neT hs_35 (a := 130) rfl; omega) (by decide) ?_
  refine lv_iconst (v := 0) hx hb dX11_isArithmetic_158 (by decide) ?_
  have hr0 := Option.some.inj hsp
  clear hsp
  subst hr0
  have hP9 := hP.sub (ws' := []) [] rfl
  have hD9 := hD.sub (ws' := []) [] (by decide) rfl
  have hK9 := hK.sub (tys' := []) [] rfl
  exact W.zret hx hb hr (by decide) (fun t ht hW => ⟨⟨(0), (), rfl, ⟨rfl, Or.inl rfl⟩, by rw [ht]; exact hP9, va_K.moved hW.alike hK9, hD9⟩, hS.F ht⟩) hS.2.2 dX11_isArithmetic_159
def sp_t11_isBare (nf : Nat) (a1 : Int32) : Option (Int32) := (if a1 = 46 then (some 1) else (if a1 = 50 then (some 1) else (if a1 = 79 then (some 1) else (if a1 = 83 then (some 1) else (if a1 = 87 then (some 1) else (if a1 = 89 then (some 1) else (if a1 = 116 then (some 1) else (if a1 = 172 then (some 1) else (if a1 = 176 then (some 1) else (if a1 = 177 then (some 1) else (if a1 = 186 then (some 1) else (if a1 = 190 then (some 1) else (if a1 = 191 then (some 1) else ((sp_t11_isArithmetic nf a1).bind (fun p1 => (if p1 = 0 then (some 0) else (some 1)))))))))))))))))
