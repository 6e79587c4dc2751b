set_option maxHeartbeats 4000000 in
set_option maxRecDepth 100000 in
/-- ClassMill$Values.beginMethod -/
theorem t10_beginMethod (l : Launch) (dC : Nat → ClassId) (dI : Nat → Nat → Nat) (sz : Nat) (h0 : Nat) (a1 : Int32) (a2 : Int32) (qf0 : Nat) (qf1 : Nat) (qf2 : Nat) (qf3 : Nat) (qf4 : Nat) (qf5 : Nat) (qf6 : Nat) (qf7 : Nat) (qf8 : Nat) (qf9 : Nat) (v10 : Int32) (v11 : Int32) (v12 : Int32) (v13 : Int32) (v14 : Int32) (v15 : Int32) (v16 : Int32) (v17 : Int32) (v18 : Int32) (nf : Nat) (w10 : Int32) (w16 : Int32) (w17 : Int32) (w18 : Int32) (hsp : sp_t10_beginMethod nf a1 a2 = some (w10, w16, w17, w18)) : Met l yX10_beginMethod (.code yX10_beginMethod cX10_beginMethod 3 none :: VS_h4) ({ frames := 0, cells := 0, slots := 0, locals := 0 }) (va_Pc [.ref h0, .int a1, .int a2] (fun U => U.heap.size = sz ∧ va_P (dC, dI) vwCl [(h0, .inr (10, [.ref qf0, .ref qf1, .ref qf2, .ref qf3, .ref qf4, .ref qf5, .ref qf6, .ref qf7, .ref qf8, .ref qf9, .int v10, .int v11, .int v12, .int v13, .int v14, .int v15, .int v16, .int v17, .int v18]))] U.heap ∧ va_K (dC, dI) vwCl [] U ∧ va_D (fun _ => True) [(h0, .inr (10, [.ref qf0, .ref qf1, .ref qf2, .ref qf3, .ref qf4, .ref qf5, .ref qf6, .ref qf7, .ref qf8, .ref qf9, .int v10, .int v11, .int v12, .int v13, .int v14, .int v15, .int v16, .int v17, .int v18]))])) (va_Qv (fun (u : Unit) => match u with | () => True) (fun (u : Unit) (t : State) => match u with | () => va_P (dC, dI) vwCl [(h0, .inr (10, [.ref qf0, .ref qf1, .ref qf2, .ref qf3, .ref qf4, .ref qf5, .ref qf6, .ref qf7, .ref qf8, .ref qf9, .int w10, .int v11, .int v12, .int v13, .int v14, .int v15, .int w16, .int w17, .int w18]))] t.heap ∧ va_K (dC, dI) vwCl [] t ∧ va_D (va_A [(h0, .inr (10, [.ref qf0, .ref qf1, .ref qf2, .ref qf3, .ref qf4, .ref qf5, .ref qf6, .ref qf7, .ref qf8, .ref qf9, .int v10, .int v11, .int v12, .int v13, .int v14, .int v15, .int v16, .int v17, .int v18]))] sz) [(h0, .inr (10, [.ref qf0, .ref qf1, .ref qf2, .ref qf3, .ref qf4, .ref qf5, .ref qf6, .ref qf7, .ref qf8, .ref qf9, .int w10, .int v11, .int v12, .int v13, .int v14, .int v15, .int w16, .int w17, .int w18]))]) (va_A [(h0, .inr (10, [.ref qf0, .ref qf1, .ref qf2, .ref qf3, .ref qf4, .ref qf5, .ref qf6, .ref qf7, .ref qf8, .ref qf9, .int v10, .int v11, .int v12, .int v13, .int v14, .int v15, .int v16, .int v17, .int v18]))] sz)) 0 0 (va_A [(h0, .inr (10, [.ref qf0, .ref qf1, .ref qf2, .ref qf3, .ref qf4, .ref qf5, .ref qf6, .ref qf7, .ref qf8, .ref qf9, .int v10, .int v11, .int v12, .int v13, .int v14, .int v15, .int v16, .int v17, .int v18]))] sz) := by
  refine Met.ofW (cc := cX10_beginMethod) (maxL := 3) (ret := none) (by decide) rfl ?_
  intro p e s m args below meth c s₁ B hml hv
  obtain ⟨rfl, hsz, hP, hK, hD0⟩ := hv
  have hx := B.exec
  have hb := B.bytes
  have hr := B.returns
  have hts := atoms_spec (ws := (.code yX10_beginMethod cX10_beginMethod 3 none :: VS_h4)) B.pre
  replace hts := fun w (h : w ∈ VS_h4) => hts w (List.mem_cons_of_mem _ h)
  have hown : s.vm.findClass RX10 = some m.cls := findClass_of_methodNamed B.named
  have hlocks := B.notSynchronized
  subst hsz
  have hD := hD0.self (sz := s.heap.size)
  generalize hAe : va_A [(h0, .inr (10, [.ref qf0, .ref qf1, .ref qf2, .ref qf3, .ref qf4, .ref qf5, .ref qf6, .ref qf7, .ref qf8, .ref qf9, .int v10, .int v11, .int v12, .int v13, .int v14, .int v15, .int v16, .int v17, .int v18]))] s.heap.size = A at hD  ⊢
  have hA : ∀ q : Nat, s.heap.size ≤ q → A q := fun q h => by rw [← hAe]; exact Or.inr h
  have hP : va_P (dC, dI) vwCl [(h0, .inr (10, [.ref qf0, .ref qf1, .ref qf2, .ref qf3, .ref qf4, .ref qf5, .ref qf6, .ref qf7, .ref qf8, .ref qf9, .int v10, .int v11, .int v12, .int v13, .int v14, .int v15, .int v16, .int v17, .int v18]))] s.heap := hP
  have hl := lv_entry ([.ref h0, .int a1, .int a2]) (n := 3) (Nat.le_of_ble_eq_true rfl)
  rw [lg_entry_eq]
  generalize (lg_sl ([.ref h0, .int a1, .int a2]) ++ List.replicate (3 - (lg_sl ([.ref h0, .int a1, .int a2])).length) Slot.unset).toArray = ls at hl ⊢
  have hl : lv_has ls 3 [(0, .ref h0), (1, .int a1), (2, .int a2)] := hl
  obtain ⟨H, hH⟩ : ∃ H : Heap, s.heap = H := ⟨_, rfl⟩
  rw [hH] at hP ⊢
  have hS : va_S A s.heap H [] := by rw [← hH]; exact va_S.rf
  obtain ⟨locs, hlo⟩ : ∃ locs : List Loc, locs = [] := ⟨_, rfl⟩
  rw [← hlo] at hS ⊢
  unfold sp_t10_beginMethod at hsp
  refine lv_aload_n hx hb dX10_beginMethod_0 rfl (lv_at hl 0 rfl) ?_
  refine lv_iload_n hx hb dX10_beginMethod_1 rfl (lv_at hl 1 rfl) ?_
  refine va_put (D := (dC, dI)) (ci := 10) (v := .int a1) (ty := .int) (C := RX10) (T := TX10) (N := 19) hx hb hts uV_h4_X10 tyX10 tyX10_ok nmX10 hown hK hP hD hS 0 rfl rfl 16 (by decide) (hts (.fieldLink RX10 54 "ClassMill$Values" "own" "I") mw_h4_278) (fun _ h9 => h9) rfl (by decide +kernel) rfl rfl (Nat.le_of_ble_eq_true rfl) dX10_beginMethod_2 ?_
  clear hP hD hS
  intro H locs hP hD hS
  replace hP : va_P (dC, dI) vwCl [(h0, .inr (10, [.ref qf0, .ref qf1, .ref qf2, .ref qf3, .ref qf4, .ref qf5, .ref qf6, .ref qf7, .ref qf8, .ref qf9, .int v10, .int v11, .int v12, .int v13, .int v14, .int v15, .int a1, .int v17, .int v18]))] H := hP
  replace hD : va_D A [(h0, .inr (10, [.ref qf0, .ref qf1, .ref qf2, .ref qf3, .ref qf4, .ref qf5, .ref qf6, .ref qf7, .ref qf8, .ref qf9, .int v10, .int v11, .int v12, .int v13, .int v14, .int v15, .int a1, .int v17, .int v18]))] := hD
  refine lv_aload_n hx hb dX10_beginMethod_5 rfl (lv_at hl 0 rfl) ?_
  refine lv_iload_n hx hb dX10_beginMethod_6 rfl (lv_at hl 2 rfl) ?_
  rcases ox_01 hsp with ⟨rfl, hsp⟩ | ⟨rfl, hsp⟩
  · skip
    refine va_put (D := (dC, dI)) (ci := 10) (v := .int 0) (ty := .boolean) (C := RX10) (T := TX10) (N := 19) hx hb hts uV_h4_X10 tyX10 tyX10_ok nmX10 hown hK hP hD hS 0 rfl rfl 17 (by decide) (hts (.fieldLink RX10 58 "ClassMill$Values" "fixed" "Z") mw_h4_279) (fun _ h9 => h9) rfl (by decide +kernel) rfl rfl (Nat.le_of_ble_eq_true rfl) dX10_beginMethod_7 ?_
    clear hP hD hS
    intro H locs hP hD hS
    replace hP : va_P (dC, dI) vwCl [(h0, .inr (10, [.ref qf0, .ref qf1, .ref qf2, .ref qf3, .ref qf4, .ref qf5, .ref qf6, .ref qf7, .ref qf8, .ref qf9, .int v10, .int v11, .int v12, .int v13, .int v14, .int v15, .int a1, .int 0, .int v18]))] H := hP
    replace hD : va_D A [(h0, .inr (10, [.ref qf0, .ref qf1, .ref qf2, .ref qf3, .ref qf4, .ref qf5, .ref qf6, .ref qf7, .ref qf8, .ref qf9, .int v10, .int v11, .int v12, .int v13, .int v14, .int v15, .int a1, .int 0, .int v18]))] := hD
    refine lv_aload_n hx hb dX10_beginMethod_10 rfl (lv_at hl 0 rfl) ?_
    refine lv_iconst (v := (-1)) hx hb dX10_beginMethod_11 (by decide) ?_
    refine va_put (D := (dC, dI)) (ci := 10) (v := .int (-1)) (ty := .int) (C := RX10) (T := TX10) (N := 19) hx hb hts uV_h4_X10 tyX10 tyX10_ok nmX10 hown hK hP hD hS 0 rfl rfl 18 (by decide) (hts (.fieldLink RX10 62 "ClassMill$Values" "alone" "I") mw_h4_280) (fun _ h9 => h9) rfl (by decide +kernel) rfl rfl (Nat.le_of_ble_eq_true rfl) dX10_beginMethod_12 ?_
    clear hP hD hS
    intro H locs hP hD hS
    replace hP : va_P (dC, dI) vwCl [(h0, .inr (10, [.ref qf0, .ref qf1, .ref qf2, .ref qf3, .ref qf4, .ref qf5, .ref qf6, .ref qf7, .ref qf8, .ref qf9, .int v10, .int v11, .int v12, .int v13, .int v14, .int v15, .int a1, .int 0, .int (-1)]))] H := hP
    replace hD : va_D A [(h0, .inr (10, [.ref qf0, .ref qf1, .ref qf2, .ref qf3, .ref qf4, .ref qf5, .ref qf6, .ref qf7, .ref qf8, .ref qf9, .int v10, .int v11, .int v12, .int v13, .int v14, .int v15, .int a1, .int 0, .int (-1)]))] := hD
    refine lv_aload_n hx hb dX10_beginMethod_15 rfl (lv_at hl 0 rfl) ?_
    refine lv_iconst (v := 0) hx hb dX10_beginMethod_16 (by decide) ?_
    refine va_put (D := (dC, dI)) (ci := 10) (v := .int 0) (ty := .int) (C := RX10) (T := TX10) (N := 19) hx hb hts uV_h4_X10 tyX10 tyX10_ok nmX10 hown hK hP hD hS 0 rfl rfl 10 (by decide) (hts (.fieldLink RX10 65 "ClassMill$Values" "open" "I") mw_h4_281) (fun _ h9 => h9) rfl (by decide +kernel) rfl rfl (Nat.le_of_ble_eq_true rfl) dX10_beginMethod_17 ?_
    clear hP hD hS
    intro H locs hP hD hS
    replace hP : va_P (dC, dI) vwCl [(h0, .inr (10, [.ref qf0, .ref qf1, .ref qf2, .ref qf3, .ref qf4, .ref qf5, .ref qf6, .ref qf7, .ref qf8, .ref qf9, .int 0, .int v11, .int v12, .int v13, .int v14, .int v15, .int a1, .int 0, .int (-1)]))] H := hP
    replace hD : va_D A [(h0, .inr (10, [.ref qf0, .ref qf1, .ref qf2, .ref qf3, .ref qf4, .ref qf5, .ref qf6, .ref qf7, .ref qf8, .ref qf9, .int 0, .int v11, .int v12, .int v13, .int v14, .int v15, .int a1, .int 0, .int (-1)]))] := hD
    have hr0 := Option.some.inj hsp
    clear hsp
    obtain ⟨hq0, hr1⟩ := Prod.mk.inj hr0
    clear hr0
    obtain ⟨hq1, hr2⟩ := Prod.mk.inj hr1
    clear hr1
    obtain ⟨hq2, hr3⟩ := Prod.mk.inj hr2
    clear hr2
    subst hq0
    subst hq1
    subst hq2
    subst hr3
    have hP9 := hP.sub (ws' := [(h0, .inr (10, [.ref qf0, .ref qf1, .ref qf2, .ref qf3, .ref qf4, .ref qf5, .ref qf6, .ref qf7, .ref qf8, .ref qf9, .int 0, .int v11, .int v12, .int v13, .int v14, .int v15, .int a1, .int 0, .int (-1)]))]) [0] rfl
    have hD9 := hD.sub (ws' := [(h0, .inr (10, [.ref qf0, .ref qf1, .ref qf2, .ref qf3, .ref qf4, .ref qf5, .ref qf6, .ref qf7, .ref qf8, .ref qf9, .int 0, .int v11, .int v12, .int v13, .int v14, .int v15, .int a1, .int 0, .int (-1)]))]) [0] (by decide) rfl
    have hK9 := hK.sub (tys' := []) [] rfl
    exact W.vret hx hb hr (fun t ht hW => ⟨⟨(), rfl, trivial, by rw [ht]; exact hP9, va_K.moved hW.alike hK9, hD9⟩, hS.F ht⟩) hS.2.2 dX10_beginMethod_20
  · skip
    refine va_put (D := (dC, dI)) (ci := 10) (v := .int 1) (ty := .boolean) (C := RX10) (T := TX10) (N := 19) hx hb hts uV_h4_X10 tyX10 tyX10_ok nmX10 hown hK hP hD hS 0 rfl rfl 17 (by decide) (hts (.fieldLink RX10 58 "ClassMill$Values" "fixed" "Z") mw_h4_279) (fun _ h9 => h9) rfl (by decide +kernel) rfl rfl (Nat.le_of_ble_eq_true rfl) dX10_beginMethod_7 ?_
    clear hP hD hS
    intro H locs hP hD hS
    replace hP : va_P (dC, dI) vwCl [(h0, .inr (10, [.ref qf0, .ref qf1, .ref qf2, .ref qf3, .ref qf4, .ref qf5, .ref qf6, .ref qf7, .ref qf8, .ref qf9, .int v10, .int v11, .int v12, .int v13, .int v14, .int v15, .int a1, .int 1, .int v18]))] H := hP
    replace hD : va_D A [(h0, .inr (10, [.ref qf0, .ref qf1, .ref qf2, .ref qf3, .ref qf4, .ref qf5, .ref qf6, .ref qf7, .ref qf8, .ref qf9, .int v10, .int v11, .int v12, .int v13, .int v14, .int v15, .int a1, .int 1, .int v18]))] := hD
    refine lv_aload_n hx hb dX10_beginMethod_10 rfl (lv_at hl 0 rfl) ?_
    refine lv_iconst (v := (-1)) hx hb dX10_beginMethod_11 (by decide) ?_
    refine va_put (D := (dC, dI)) (ci := 10) (v := .int (-1)) (ty := .int) (C := RX10) (T := TX10) (N := 19) hx hb hts uV_h4_X10 tyX10 tyX10_ok nmX10 hown hK hP hD hS 0 rfl rfl 18 (by decide) (hts (.fieldLink RX10 62 "ClassMill$Values" "alone" "I") mw_h4_280) (fun _ h9 => h9) rfl (by decide +kernel) rfl rfl (Nat.le_of_ble_eq_true rfl) dX10_beginMethod_12 ?_
    clear hP hD hS
    intro H locs hP hD hS
    replace hP : va_P (dC, dI) vwCl [(h0, .inr (10, [.ref qf0, .ref qf1, .ref qf2, .ref qf3, .ref qf4, .ref qf5, .ref qf6, .ref qf7, .ref qf8, .ref qf9, .int v10, .int v11, .int v12, .int v13, .int v14, .int v15, .int a1, .int 1, .int (-1)]))] H := hP
    replace hD : va_D A [(h0, .inr (10, [.ref qf0, .ref qf1, .ref qf2, .ref qf3, .ref qf4, .ref qf5, .ref qf6, .ref qf7, .ref qf8, .ref qf9, .int v10, .int v11, .int v12, .int v13, .int v14, .int v15, .int a1, .int 1, .int (-1)]))] := hD
    refine lv_aload_n hx hb dX10_beginMethod_15 rfl (lv_at hl 0 rfl) ?_
    refine lv_iconst (v := 0) hx hb dX10_beginMethod_16 (by decide) ?_
    refine va_put (D := (dC, dI)) (ci := 10) (v := .int 0) (ty := .int) (C := RX10) (T := TX10) (N := 19) hx hb hts uV_h4_X10 tyX10 tyX10_ok nmX10 hown hK hP hD hS 0 rfl rfl 10 (by decide) (hts (.fieldLink RX10 65 "ClassMill$Values" "open" "I") mw_h4_281) (fun _ h9 => h9) rfl (by decide +kernel) rfl rfl (Nat.le_of_ble_eq_true rfl) dX10_beginMethod_17 ?_
    clear hP hD hS
    intro H locs hP hD hS
    replace hP : va_P (dC, dI) vwCl [(h0, .inr (10, [.ref qf0, .ref qf1, .ref qf2, .ref qf3, .ref qf4, .ref qf5, .ref qf6, .ref qf7, .ref qf8, .ref qf9, .int 0, .int v11, .int v12, .int v13, .int v14, .int v15, .int a1, .int 1, .int (-1)]))] H := hP
    replace hD : va_D A [(h0, .inr (10, [.ref qf0, .ref qf1, .ref qf2, .ref qf3, .ref qf4, .ref qf5, .ref qf6, .ref qf7, .ref qf8, .ref qf9, .int 0, .int v11, .int v12, .int v13, .int v14, .int v15, .int a1, .int 1, .int (-1)]))] := hD
    have hr0 := Option.some.inj hsp
    clear hsp
    obtain ⟨hq0, hr1⟩ := Prod.mk.inj hr0
    clear hr0
    obtain ⟨hq1, hr2⟩ := Prod.mk.inj hr1
    clear hr1
    obtain ⟨hq2, hr3⟩ := Prod.mk.inj hr2
    clear hr2
    subst hq0
    subst hq1
    subst hq2
    subst hr3
    have hP9 := hP.sub (ws' := [(h0, .inr (10, [.ref qf0, .ref qf1, .ref qf2, .ref qf3, .ref qf4, .ref qf5, .ref qf6, .ref qf7, .ref qf8, .ref qf9, .int 0, .int v11, .int v12, .int v13, .int v14, .int v15, .int a1, .int 1, .int (-1)]))]) [0] rfl
    have hD9 := hD.sub (ws' := [(h0, .inr (10, [.ref qf0, .ref qf1, .ref qf2, .ref qf3, .ref qf4, .ref qf5, .ref qf6, .ref qf7, .ref qf8, .ref qf9, .int 0, .int v11, .int v12, .int v13, .int v14, .int v15, .int a1, .int 1, .int (-1)]))]) [0] (by decide) rfl
    have hK9 := hK.sub (tys' := []) [] rfl
    exact W.vret hx hb hr (fun t ht hW => ⟨⟨(), rfl, trivial, by rw [ht]; exact hP9, va_K.moved hW.alike hK9, hD9⟩, hS.F ht⟩) hS.2.2 dX10_beginMethod_20
def sp_t10_isPair (nf : Nat) (a1 : Int32) (a2 : Int32) (f2_1 : Nat → Int32) : Option (Int32) := ((sp_t4_isReference nf a1).bind (fun p1 => (if p1 = 0 then (if a1 = a2 then ((sp_t4_isNumber nf a1).bind (fun p2 => (if p2 = 0 then (some 0) else (some 1)))) else (some 0)) else ((sp_t4_isReference nf a2).bind (fun p3 => (if p3 = 0 then (if a1 = a2 then ((sp_t4_isNumber nf a1).bind (fun p4 => (if p4 = 0 then (some 0) else (some 1)))) else (some 0)) else ((sp_t4_oneFits nf a1 a2 f2_1).bind (fun p5 => (if p5 = 0 then (some 0) else (some 1))))))))))
set_option maxHeartbeats 4000000 in
set_option maxRecDepth 100000 in
/-- ClassMill$Values.isPair -/
theorem t10_isPair (l : Launch) (dC : Nat → ClassId) (dI : Nat → Nat → Nat) (sz : Nat) (h0 : Nat) (a1 : Int32) (a2 : Int32) (qf0 : Nat) (qf1 : Nat) (qf2 : Nat) (qf3 : Nat) (qf4 : Nat) (qf5 : Nat) (qf6 : Nat) (qf7 : Nat) (qf8 : Nat) (qf9 : Nat) (v10 : Int32) (v11 : Int32) (v12 : Int32) (v13 : Int32) (v14 : Int32) (v15 : Int32) (v16 : Int32) (v17 : Int32) (v18 : Int32) (qf2_0 : Nat) (qf2_1 : Nat) (cf2_1 : ClassId) (f2_1 : (Nat → Int32)) (nf : Nat) (r0 : Int32) (hsp : sp_t10_isPair nf a1 a2 f2_1 = some r0) : Met l yX10_isPair (.code yX10_isPair cX10_isPair 3 (some .boolean) :: VS_h4) ({ frames := 2, cells := 0, slots := 0, locals := 45 }) (va_Pc [.ref h0, .int a1, .int a2] (fun U => U.heap.size = sz ∧ va_P (dC, dI) vwCl [(h0, .inr (10, [.ref qf0, .ref qf1, .ref qf2, .ref qf3, .ref qf4, .ref qf5, .ref qf6, .ref qf7, .ref qf8, .ref qf9, .int v10, .int v11, .int v12, .int v13, .int v14, .int v15, .int v16, .int v17, .int v18])), (qf2, .inr (4, [.ref qf2_0, .ref qf2_1])), (qf2_1, .inl (cf2_1, 256, .inl f2_1))] U.heap ∧ va_K (dC, dI) vwCl [(cf2_1, .boolean)] U ∧ va_D (fun _ => True) [(h0, .inr (10, [.ref qf0, .ref qf1, .ref qf2, .ref qf3, .ref qf4, .ref qf5, .ref qf6, .ref qf7, .ref qf8, .ref qf9, .int v10, .int v11, .int v12, .int v13, .int v14, .int v15, .int v16, .int v17, .int v18])), (qf2, .inr (4, [.ref qf2_0, .ref qf2_1])), (qf2_1, .inl (cf2_1, 256, .inl f2_1))])) (va_Qi (fun (r : Int32) (u : Unit) => match u with | () => r0 = r ∧ (r0 = 0 ∨ r0 = 1)) (fun (u : Unit) (t : State) => match u with | () => va_P (dC, dI) vwCl [(h0, .inr (10, [.ref qf0, .ref qf1, .ref qf2, .ref qf3, .ref qf4, .ref qf5, .ref qf6, .ref qf7, .ref qf8, .ref qf9, .int v10, .int v11, .int v12, .int v13, .int v14, .int v15, .int v16, .int v17, .int v18])), (qf2, .inr (4, [.ref qf2_0, .ref qf2_1])), (qf2_1, .inl (cf2_1, 256, .inl f2_1))] t.heap ∧ va_K (dC, dI) vwCl [(cf2_1, .boolean)] t ∧ va_D (va_A [(h0, .inr (10, [.ref qf0, .ref qf1, .ref qf2, .ref qf3, .ref qf4, .ref qf5, .ref qf6, .ref qf7, .ref qf8, .ref qf9, .int v10, .int v11, .int v12, .int v13, .int v14, .int v15, .int v16, .int v17, .int v18])), (qf2, .inr (4, [.ref qf2_0, .ref qf2_1])), (qf2_1, .inl (cf2_1, 256, .inl f2_1))] sz) [(h0, .inr (10, [.ref qf0, .ref qf1, .ref qf2, .ref qf3, .ref qf4, .ref qf5, .ref qf6, .ref qf7, .ref qf8, .ref qf9, .int v10, .int v11, .int v12, .int v13, .int v14, .int v15, .int v16, .int v17, .int v18])), (qf2, .inr (4, [.ref qf2_0, .ref qf2_1])), (qf2_1, .inl (cf2_1, 256, .inl f2_1))]) (va_A [(h0, .inr (10, [.ref qf0, .ref qf1, .ref qf2, .ref qf3, .ref qf4, .ref qf5, .ref qf6, .ref qf7, .ref qf8, .ref qf9, .int v10, .int v11, .int v12, .int v13, .int v14, .int v15, .int v16, .int v17, .int v18])), (qf2, .inr (4, [.ref qf2_0, .ref qf2_1])), (qf2_1, .inl (cf2_1, 256, .inl f2_1))] sz)) 0 0 (va_A [(h0, .inr (10, [.ref qf0, .ref qf1, .ref qf2, .ref qf3, .ref qf4, .ref qf5, .ref qf6, .ref qf7, .ref qf8, .ref qf9, .int v10, .int v11, .int v12, .int v13, .int v14, .int v15, .int v16, .int v17, .int v18])), (qf2, .inr (4, [.ref qf2_0, .ref qf2_1])), (qf2_1, .inl (cf2_1, 256, .inl f2_1))] sz) := by
  refine Met.ofW (cc := cX10_isPair) (maxL := 3) (ret := (some .boolean)) (by decide) rfl ?_
  intro p e s m args below meth c s₁ B hml hv
  obtain ⟨rfl, hsz, hP, hK, hD0⟩ := hv
  have hx := B.exec
  have hb := B.bytes
  have hr := B.returns
  have hts := atoms_spec (ws := (.code yX10_isPair cX10_isPair 3 (some .boolean) :: VS_h4)) B.pre
  replace hts := fun w (h : w ∈ VS_h4) => hts w (List.mem_cons_of_mem _ h)
  have hown : s.vm.findClass RX10 = some m.cls := findClass_of_methodNamed B.named
  have hlocks := B.notSynchronized
  subst hsz
  have hD := hD0.self (sz := s.heap.size)
  generalize hAe : va_A [(h0, .inr (10, [.ref qf0, .ref qf1, .ref qf2, .ref qf3, .ref qf4, .ref qf5, .ref qf6, .ref qf7, .ref qf8, .ref qf9, .int v10, .int v11, .int v12, .int v13, .int v14, .int v15, .int v16, .int v17, .int v18])), (qf2, .inr (4, [.ref qf2_0, .ref qf2_1])), (qf2_1, .inl (cf2_1, 256, .inl f2_1))] s.heap.size = A at hD  ⊢
  have hA : ∀ q : Nat, s.heap.size ≤ q → A q := fun q h => by rw [← hAe]; exact Or.inr h
  have hP : va_P (dC, dI) vwCl [(h0, .inr (10, [.ref qf0, .ref qf1, .ref qf2, .ref qf3, .ref qf4, .ref qf5, .ref qf6, .ref qf7, .ref qf8, .ref qf9, .int v10, .int v11, .int v12, .int v13, .int v14, .int v15, .int v16, .int v17, .int v18])), (qf2, .inr (4, [.ref qf2_0, .ref qf2_1])), (qf2_1, .inl (cf2_1, 256, .inl f2_1))] s.heap := hP
  have hl := lv_entry ([.ref h0, .int a1, .int a2]) (n := 3) (Nat.le_of_ble_eq_true rfl)
  rw [lg_entry_eq]
  generalize (lg_sl ([.ref h0, .int a1, .int a2]) ++ List.replicate (3 - (lg_sl ([.ref h0, .int a1, .int a2])).length) Slot.unset).toArray = ls at hl ⊢
  have hl : lv_has ls 3 [(0, .ref h0), (1, .int a1), (2, .int a2)] := hl
  obtain ⟨H, hH⟩ : ∃ H : Heap, s.heap = H := ⟨_, rfl⟩
  rw [hH] at hP ⊢
  have hS : va_S A s.heap H [] := by rw [← hH]; exact va_S.rf
  obtain ⟨locs, hlo⟩ : ∃ locs : List Loc, locs = [] := ⟨_, rfl⟩
  rw [← hlo] at hS ⊢
  unfold sp_t10_isPair at hsp
  refine lv_iload_n hx hb dX10_isPair_0 rfl (lv_at hl 1 rfl) ?_
  obtain ⟨u1_0, hu_1, hsp⟩ := ox_bind hsp
  try dsimp only at hsp
  have hPc := hP.sub (ws' := []) [] rfl
  have hDc := hD.sub (ws' := []) [] (by decide) rfl
  have hKc := hK.sub (tys' := []) [] rfl
  have hFc := va_free (wc := []) hD hS hA [] rfl
  refine va_calli (va_runS (As := [.int a1]) (rest := []) ⟨hx, hb, hml, hown, hts⟩ (t4_isReference l dC dI H.size a1 nf u1_0 hu_1) (va_cwS 1 hts gv_h4_60 rfl rfl rfl (by decide +kernel) ⟨Nat.le_of_ble_eq_true rfl, Nat.le_of_ble_eq_true rfl⟩) ⟨fun a U g mk q => by obtain ⟨q0, q1, qP, qK, qD⟩ := q; exact ⟨q0, q1, qP, va_K.moved (u := U) (U := U.calling g mk a) (Vm.Alike.refl U.vm) qK, qD⟩, fun U hU hW => ⟨rfl, by rw [hU], by rw [hU]; exact hPc, va_K.moved hW.alike hKc, hDc.weaken (fun _ _ _ _ => trivial)⟩⟩ rfl rfl hl.1 rfl (lv_room (Nat.le_of_ble_eq_true rfl)) dX10_isPair_1 ⟨Nat.le_of_ble_eq_true rfl, Nat.le_of_ble_eq_true rfl⟩) hS (fun q _ h => hFc q h) hFc ?_
  clear hS
  intro r_1 u t H1 locs ht hvm hw hB hz1 hk1 hS
  obtain ⟨⟩ := u
  obtain ⟨hP1, hK1, hD1⟩ := hB
  rw [ht] at hP1
  have hK1 := va_K.moved hvm.symm hK1
  try dsimp only at hw
  have hPD := va_join (wr := [(h0, .inr (10, [.ref qf0, .ref qf1, .ref qf2, .ref qf3, .ref qf4, .ref qf5, .ref qf6, .ref qf7, .ref qf8, .ref qf9, .int v10, .int v11, .int v12, .int v13, .int v14, .int v15, .int v16, .int v17, .int v18])), (qf2, .inr (4, [.ref qf2_0, .ref qf2_1])), (qf2_1, .inl (cf2_1, 256, .inl f2_1))]) (w1 := []) hP hD [] [0, 1, 2] rfl rfl (by decide) (by decide) hk1 hFc hP1 hD1
  clear hP hD
  obtain ⟨hP, hD⟩ := hPD
  replace hK := (hK.sub (tys' := [(cf2_1, .boolean)]) [0] rfl).app hK1
  clear hPc hDc hKc hFc hP1 hK1 hD1 hz1 hk1 ht hvm
  generalize H1 = H at hP hS ⊢
  replace hP : va_P (dC, dI) vwCl [(h0, .inr (10, [.ref qf0, .ref qf1, .ref qf2, .ref qf3, .ref qf4, .ref qf5, .ref qf6, .ref qf7, .ref qf8, .ref qf9, .int v10, .int v11, .int v12, .int v13, .int v14, .int v15, .int v16, .int v17, .int v18])), (qf2, .inr (4, [.ref qf2_0, .ref qf2_1])), (qf2_1, .inl (cf2_1, 256, .inl f2_1))] H := hP
  replace hD : va_D A [(h0, .inr (10, [.ref qf0, .ref qf1, .ref qf2, .ref qf3, .ref qf4, .ref qf5, .ref qf6, .ref qf7, .ref qf8, .ref qf9, .int v10, .int v11, .int v12, .int v13, .int v14, .int v15, .int v16, .int v17, .int v18])), (qf2, .inr (4, [.ref qf2_0, .ref qf2_1])), (qf2_1, .inl (cf2_1, 256, .inl f2_1))] := hD
  replace hK : va_K (dC, dI) vwCl [(cf2_1, .boolean)] s := hK
  obtain ⟨rfl, hz_1⟩ := hw
  rcases hz_1 with rfl | rfl
  · rw [if_pos rfl] at hsp
    refine lv_if_eq (tgt := 24) hx hb dX10_isPair_4 (by decide) (fun c_2 => ?_) (fun c_2 => (show False by revert c_2; decide).elim)
    refine lv_iload_n hx hb dX10_isPair_24 rfl (lv_at hl 1 rfl) ?_
    refine lv_iload_n hx hb dX10_isPair_25 rfl (lv_at hl 2 rfl) ?_
    refine lv_icmp_ne (tgt := 40) hx hb dX10_isPair_26 (by decide) (fun c_3 => ?_) (fun c_3 => ?_)
    · rw [if_neg c_3] at hsp
      refine lv_iconst (v := 0) hx hb dX10_isPair_40 (by decide) ?_
      have hr0 := Option.some.inj hsp
      clear hsp
      subst hr0
      have hP9 := hP.sub (ws' := [(h0, .inr (10, [.ref qf0, .ref qf1, .ref qf2, .ref qf3, .ref qf4, .ref qf5, .ref qf6, .ref qf7, .ref qf8, .ref qf9, .int v10, .int v11, .int v12, .int v13, .int v14, .int v15, .int v16, .int v17, .int v18])), (qf2, .inr (4, [.ref qf2_0, .ref qf2_1])), (qf2_1, .inl (cf2_1, 256, .inl f2_1))]) [0, 1, 2] rfl
      have hD9 := hD.sub (ws' := [(h0, .inr (10, [.ref qf0, .ref qf1, .ref qf2, .ref qf3, .ref qf4, .ref qf5, .ref qf6, .ref qf7, .ref qf8, .ref qf9, .int v10, .int v11, .int v12, .int v13, .int v14, .int v15, .int v16, .int v17, .int v18])), (qf2, .inr (4, [.ref qf2_0, .ref qf2_1])), (qf2_1, .inl (cf2_1, 256, .inl f2_1))]) [0, 1, 2] (by decide) rfl
      have hK9 := hK.sub (tys' := [(cf2_1, .boolean)]) [0] rfl
      exact W.zret hx hb hr (by decide) (fun t ht hW => ⟨⟨(0), (), rfl, ⟨rfl, Or.inl rfl⟩, by rw [ht]; exact hP9, va_K.moved hW.alike hK9, hD9⟩, hS.F ht⟩) hS.2.2 dX10_isPair_41
    · rw [if_pos c_3] at hsp
      refine lv_iload_n hx hb dX10_isPair_29 rfl (lv_at hl 1 rfl) ?_
      obtain ⟨u2_0, hu_2, hsp⟩ := ox_bind hsp
      try dsimp only at hsp
      have hPc := hP.sub (ws' := []) [] rfl
      have hDc := hD.sub (ws' := []) [] (by decide) rfl
      have hKc := hK.sub (tys' := []) [] rfl
      have hFc := va_free (wc := []) hD hS hA [] rfl
      refine va_calli (va_runS (As := [.int a1]) (rest := []) ⟨hx, hb, hml, hown, hts⟩ (t4_isNumber l dC dI H.size a1 nf u2_0 hu_2) (va_cwS 1 hts gv_h4_61 rfl rfl rfl (by decide +kernel) ⟨Nat.le_of_ble_eq_true rfl, Nat.le_of_ble_eq_true rfl⟩) ⟨fun a U g mk q => by obtain ⟨q0, q1, qP, qK, qD⟩ := q; exact ⟨q0, q1, qP, va_K.moved (u := U) (U := U.calling g mk a) (Vm.Alike.refl U.vm) qK, qD⟩, fun U hU hW => ⟨rfl, by rw [hU], by rw [hU]; exact hPc, va_K.moved hW.alike hKc, hDc.weaken (fun _ _ _ _ => trivial)⟩⟩ rfl rfl hl.1 rfl (lv_room (Nat.le_of_ble_eq_true rfl)) dX10_isPair_30 ⟨Nat.le_of_ble_eq_true rfl, Nat.le_of_ble_eq_true rfl⟩) hS (fun q _ h => hFc q h) hFc ?_
      clear hS
      intro r_4 u t H1 locs ht hvm hw hB hz1 hk1 hS
      obtain ⟨⟩ := u
      obtain ⟨hP1, hK1, hD1⟩ := hB
      rw [ht] at hP1
      have hK1 := va_K.moved hvm.symm hK1
      try dsimp only at hw
      have hPD := va_join (wr := [(h0, .inr (10, [.ref qf0, .ref qf1, .ref qf2, .ref qf3, .ref qf4, .ref qf5, .ref qf6, .ref qf7, .ref qf8, .ref qf9, .int v10, .int v11, .int v12, .int v13, .int v14, .int v15, .int v16, .int v17, .int v18])), (qf2, .inr (4, [.ref qf2_0, .ref qf2_1])), (qf2_1, .inl (cf2_1, 256, .inl f2_1))]) (w1 := []) hP hD [] [0, 1, 2] rfl rfl (by decide) (by decide) hk1 hFc hP1 hD1
      clear hP hD
      obtain ⟨hP, hD⟩ := hPD
      replace hK := (hK.sub (tys' := [(cf2_1, .boolean)]) [0] rfl).app hK1
      clear hPc hDc hKc hFc hP1 hK1 hD1 hz1 hk1 ht hvm
      generalize H1 = H at hP hS ⊢
      replace hP : va_P (dC, dI) vwCl [(h0, .inr (10, [.ref qf0, .ref qf1, .ref qf2, .ref qf3, .ref qf4, .ref qf5, .ref qf6, .ref qf7, .ref qf8, .ref qf9, .int v10, .int v11, .int v12, .int v13, .int v14, .int v15, .int v16, .int v17, .int v18])), (qf2, .inr (4, [.ref qf2_0, .ref qf2_1])), (qf2_1, .inl (cf2_1, 256, .inl f2_1))] H := hP
      replace hD : va_D A [(h0, .inr (10, [.ref qf0, .ref qf1, .ref qf2, .ref qf3, .ref qf4, .ref qf5, .ref qf6, .ref qf7, .ref qf8, .ref qf9, .int v10, .int v11, .int v12, .int v13, .int v14, .int v15, .int v16, .int v17, .int v18])), (qf2, .inr (4, [.ref qf2_0, .ref qf2_1])), (qf2_1, .inl (cf2_1, 256, .inl f2_1))] := hD
      replace hK : va_K (dC, dI) vwCl [(cf2_1, .boolean)] s := hK
      obtain ⟨rfl, hz_2⟩ := hw
      rcases hz_2 with rfl | rfl
      · rw [if_pos rfl] at hsp
        refine lv_if_eq (tgt := 40) hx hb dX10_isPair_33 (by decide) (fun c_5 => ?_) (fun c_5 => (show False by revert c_5; decide).elim)
        refine lv_iconst (v := 0) hx hb dX10_isPair_40 (by decide) ?_
        have hr0 := Option.some.inj hsp
        clear hsp
        subst hr0
        have hP9 := hP.sub (ws' := [(h0, .inr (10, [.ref qf0, .ref qf1, .ref qf2, .ref qf3, .ref qf4, .ref qf5, .ref qf6, .ref qf7, .ref qf8, .ref qf9, .int v10, .int v11, .int v12, .int v13, .int v14, .int v15, .int v16, .int v17, .int v18])), (qf2, .inr (4, [.ref qf2_0, .ref qf2_1])), (qf2_1, .inl (cf2_1, 256, .inl f2_1))]) [0, 1, 2] rfl
        have hD9 := hD.sub (ws' := [(h0, .inr (10, [.ref qf0, .ref qf1, .ref qf2, .ref qf3, .ref qf4, .ref qf5, .ref qf6, .ref qf7, .ref qf8, .ref qf9, .int v10, .int v11, .int v12, .int v13, .int v14, .int v15, .int v16, .int v17, .int v18])), (qf2, .inr (4, [.ref qf2_0, .ref qf2_1])), (qf2_1, .inl (cf2_1, 256, .inl f2_1))]) [0, 1, 2] (by decide) rfl
        have hK9 := hK.sub (tys' := [(cf2_1, .boolean)]) [0] rfl
        exact W.zret hx hb hr (by decide) (fun t ht hW => ⟨⟨(0), (), rfl, ⟨rfl, Or.inl rfl⟩, by rw [ht]; exact hP9, va_K.moved hW.alike hK9, hD9⟩, hS.F ht⟩) hS.2.2 dX10_isPair_41
      · rw [if_neg (by decide)] at hsp
        refine lv_if_eq (tgt := 40) hx hb dX10_isPair_33 (by decide) (fun c_6 => (show False by revert c_6; decide).elim) (fun c_6 => ?_)
        refine lv_iconst (v := 1) hx hb dX10_isPair_36 (by decide) ?_
        refine lv_goto (tgt := 41) hx hb dX10_isPair_37 (by decide) ?_
        have hr0 := Option.some.inj hsp
        clear hsp
        subst hr0
        have hP9 := hP.sub (ws' := [(h0, .inr (10, [.ref qf0, .ref qf1, .ref qf2, .ref qf3, .ref qf4, .ref qf5, .ref qf6, .ref qf7, .ref qf8, .ref qf9, .int v10, .int v11, .int v12, .int v13, .int v14, .int v15, .int v16, .int v17, .int v18])), (qf2, .inr (4, [.ref qf2_0, .ref qf2_1])), (qf2_1, .inl (cf2_1, 256, .inl f2_1))]) [0, 1, 2] rfl
        have hD9 := hD.sub (ws' := [(h0, .inr (10, [.ref qf0, .ref qf1, .ref qf2, .ref qf3, .ref qf4, .ref qf5, .ref qf6, .ref qf7, .ref qf8, .ref qf9, .int v10, .int v11, .int v12, .int v13, .int v14, .int v15, .int v16, .int v17, .int v18])), (qf2, .inr (4, [.ref qf2_0, .ref qf2_1])), (qf2_1, .inl (cf2_1, 256, .inl f2_1))]) [0, 1, 2] (by decide) rfl
        have hK9 := hK.sub (tys' := [(cf2_1, .boolean)]) [0] rfl
        exact W.zret hx hb hr (by decide) (fun t ht hW => ⟨⟨(1), (), rfl, ⟨rfl, Or.inr rfl⟩, by rw [ht]; exact hP9, va_K.moved hW.alike hK9, hD9⟩, hS.F ht⟩) hS.2.2 dX10_isPair_41
  · rw [if_neg (by decide)] at hsp
    refine lv_if_eq (tgt := 24) hx hb dX10_isPair_4 (by decide) (fun c_7 => (show False by revert c_7; decide).elim) (fun c_7 => ?_)
    refine lv_iload_n hx hb dX10_isPair_7 rfl (lv_at hl 2 rfl) ?_
    obtain ⟨u3_0, hu_3, hsp⟩ := ox_bind hsp
    try dsimp only at hsp
    have hPc := hP.sub (ws' := []) [] rfl
    have hDc := hD.sub (ws' := []) [] (by decide) rfl
    have hKc := hK.sub (tys' := []) [] rfl
    have hFc := va_free (wc := []) hD hS hA [] rfl
    refine va_calli (va_runS (As := [.int a2]) (rest := []) ⟨hx, hb, hml, hown, hts⟩ (t4_isReference l dC dI H.size a2 nf u3_0 hu_3) (va_cwS 1 hts gv_h4_60 rfl rfl rfl (by decide +kernel) ⟨Nat.le_of_ble_eq_true rfl, Nat.le_of_ble_eq_true rfl⟩) ⟨fun a U g mk q => by obtain ⟨q0, q1, qP, qK, qD⟩ := q; exact ⟨q0, q1, qP, va_K.moved (u := U) (U := U.calling g mk a) (Vm.Alike.refl U.vm) qK, qD⟩, fun U hU hW => ⟨rfl, by rw [hU], by rw [hU]; exact hPc, va_K.moved hW.alike hKc, hDc.weaken (fun _ _ _ _ => trivial)⟩⟩ rfl rfl hl.1 rfl (lv_room (Nat.le_of_ble_eq_true rfl)) dX10_isPair_8 ⟨Nat.le_of_ble_eq_true rfl, Nat.le_of_ble_eq_true rfl⟩) hS (fun q _ h => hFc q h) hFc ?_
    clear hS
    intro r_8 u t H1 locs ht hvm hw hB hz1 hk1 hS
    obtain ⟨⟩ := u
    obtain ⟨hP1, hK1, hD1⟩ := hB
    rw [ht] at hP1
    have hK1 := va_K.moved hvm.symm hK1
    try dsimp only at hw
    have hPD := va_join (wr := [(h0, .inr (10, [.ref qf0, .ref qf1, .ref qf2, .ref qf3, .ref qf4, .ref qf5, .ref qf6, .ref qf7, .ref qf8, .ref qf9, .int v10, .int v11, .int v12, .int v13, .int v14, .int v15, .int v16, .int v17, .int v18])), (qf2, .inr (4, [.ref qf2_0, .ref qf2_1])), (qf2_1, .inl (cf2_1, 256, .inl f2_1))]) (w1 := []) hP hD [] [0, 1, 2] rfl rfl (by decide) (by decide) hk1 hFc hP1 hD1
    clear hP hD
    obtain ⟨hP, hD⟩ := hPD
    replace hK := (hK.sub (tys' := [(cf2_1, .boolean)]) [0] rfl).app hK1
    clear hPc hDc hKc hFc hP1 hK1 hD1 hz1 hk1 ht hvm
    generalize H1 = H at hP hS ⊢
    replace hP : va_P (dC, dI) vwCl [(h0, .inr (10, [.ref qf0, .ref qf1, .ref qf2, .ref qf3, .ref qf4, .ref qf5, .ref qf6, .ref qf7, .ref qf8, .ref qf9, .int v10, .int v11, .int v12, .int v13, .int v14, .int v15, .int v16, .int v17, .int v18])), (qf2, .inr (4, [.ref qf2_0, .ref qf2_1])), (qf2_1, .inl (cf2_1, 256, .inl f2_1))] H := hP
    replace hD : va_D A [(h0, .inr (10, [.ref qf0, .ref qf1, .ref qf2, .ref qf3, .ref qf4, .ref qf5, .ref qf6, .ref qf7, .ref qf8, .ref qf9, .int v10, .int v11, .int v12, .int v13, .int v14, .int v15, .int v16, .int v17, .int v18])), (qf2, .inr (4, [.ref qf2_0, .ref qf2_1])), (qf2_1, .inl (cf2_1, 256, .inl f2_1))] := hD
    replace hK : va_K (dC, dI) vwCl [(cf2_1, .boolean)] s := hK
    obtain ⟨rfl, hz_3⟩ := hw
    rcases hz_3 with rfl | rfl
    · rw [if_pos rfl] at hsp
      refine lv_if_eq (tgt := 24) hx hb dX10_isPair_11 (by decide) (fun c_9 => ?_) (fun c_9 => (show False by revert c_9; decide).elim)
      refine lv_iload_n hx hb dX10_isPair_24 rfl (lv_at hl 1 rfl) ?_
      refine lv_iload_n hx hb dX10_isPair_25 rfl (lv_at hl 2 rfl) ?_
      refine lv_icmp_ne (tgt := 40) hx hb dX10_isPair_26 (by decide) (fun c_10 => ?_) (fun c_10 => ?_)
      · rw [if_neg c_10] at hsp
        refine lv_iconst (v := 0) hx hb dX10_isPair_40 (by decide) ?_
        have hr0 := Option.some.inj hsp
        clear hsp
        subst hr0
        have hP9 := hP.sub (ws' := [(h0, .inr (10, [.ref qf0, .ref qf1, .ref qf2, .ref qf3, .ref qf4, .ref qf5, .ref qf6, .ref qf7, .ref qf8, .ref qf9, .int v10, .int v11, .int v12, .int v13, .int v14, .int v15, .int v16, .int v17, .int v18])), (qf2, .inr (4, [.ref qf2_0, .ref qf2_1])), (qf2_1, .inl (cf2_1, 256, .inl f2_1))]) [0, 1, 2] rfl
        have hD9 := hD.sub (ws' := [(h0, .inr (10, [.ref qf0, .ref qf1, .ref qf2, .ref qf3, .ref qf4, .ref qf5, .ref qf6, .ref qf7, .ref qf8, .ref qf9, .int v10, .int v11, .int v12, .int v13, .int v14, .int v15, .int v16, .int v17, .int v18])), (qf2, .inr (4, [.ref qf2_0, .ref qf2_1])), (qf2_1, .inl (cf2_1, 256, .inl f2_1))]) [0, 1, 2] (by decide) rfl
        have hK9 := hK.sub (tys' := [(cf2_1, .boolean)]) [0] rfl
        exact W.zret hx hb hr (by decide) (fun t ht hW => ⟨⟨(0), (), rfl, ⟨rfl, Or.inl rfl⟩, by rw [ht]; exact hP9, va_K.moved hW.alike hK9, hD9⟩, hS.F ht⟩) hS.2.2 dX10_isPair_41
      · rw [if_pos c_10] at hsp
        refine lv_iload_n hx hb dX10_isPair_29 rfl (lv_at hl 1 rfl) ?_
        obtain ⟨u4_0, hu_4, hsp⟩ := ox_bind hsp
        try dsimp only at hsp
        have hPc := hP.sub (ws' := []) [] rfl
        have hDc := hD.sub (ws' := []) [] (by decide) rfl
        have hKc := hK.sub (tys' := []) [] rfl
        have hFc := va_free (wc := []) hD hS hA [] rfl
        refine va_calli (va_runS (As := [.int a1]) (rest := []) ⟨hx, hb, hml, hown, hts⟩ (t4_isNumber l dC dI H.size a1 nf u4_0 hu_4) (va_cwS 1 hts gv_h4_61 rfl rfl rfl (by decide +kernel) ⟨Nat.le_of_ble_eq_true rfl, Nat.le_of_ble_eq_true rfl⟩) ⟨fun a U g mk q => by obtain ⟨q0, q1, qP, qK, qD⟩ := q; exact ⟨q0, q1, qP, va_K.moved (u := U) (U := U.calling g mk a) (Vm.Alike.refl U.vm) qK, qD⟩, fun U hU hW => ⟨rfl, by rw [hU], by rw [hU]; exact hPc, va_K.moved hW.alike hKc, hDc.weaken (fun _ _ _ _ => trivial)⟩⟩ rfl rfl hl.1 rfl (lv_room (Nat.le_of_ble_eq_true rfl)) dX10_isPair_30 ⟨Nat.le_of_ble_eq_true rfl, Nat.le_of_ble_eq_true rfl⟩) hS (fun q _ h => hFc q h) hFc ?_
        clear hS
        intro r_11 u t H1 locs ht hvm hw hB hz1 hk1 hS
        obtain ⟨⟩ := u
        obtain ⟨hP1, hK1, hD1⟩ := hB
        rw [ht] at hP1
        have hK1 := va_K.moved hvm.symm hK1
        try dsimp only at hw
        have hPD := va_join (wr := [(h0, .inr (10, [.ref qf0, .ref qf1, .ref qf2, .ref qf3, .ref qf4, .ref qf5, .ref qf6, .ref qf7, .ref qf8, .ref qf9, .int v10, .int v11, .int v12, .int v13, .int v14, .int v15, .int v16, .int v17, .int v18])), (qf2, .inr (4, [.ref qf2_0, .ref qf2_1])), (qf2_1, .inl (cf2_1, 256, .inl f2_1))]) (w1 := []) hP hD [] [0, 1, 2] rfl rfl (by decide) (by decide) hk1 hFc hP1 hD1
        clear hP hD
        obtain ⟨hP, hD⟩ := hPD
        replace hK := (hK.sub (tys' := [(cf2_1, .boolean)]) [0] rfl).app hK1
        clear hPc hDc hKc hFc hP1 hK1 hD1 hz1 hk1 ht hvm
        generalize H1 = H at hP hS ⊢
        replace hP : va_P (dC, dI) vwCl [(h0, .inr (10, [.ref qf0, .ref qf1, .ref qf2, .ref qf3, .ref qf4, .ref qf5, .ref qf6, .ref qf7, .ref qf8, .ref qf9, .int v10, .int v11, .int v12, .int v13, .int v14, .int v15, .int v16, .int v17, .int v18])), (qf2, .inr (4, [.ref qf2_0, .ref qf2_1])), (qf2_1, .inl (cf2_1, 256, .inl f2_1))] H := hP
        replace hD : va_D A [(h0, .inr (10, [.ref qf0, .ref qf1, .ref qf2, .ref qf3, .ref qf4, .ref qf5, .ref qf6, .ref qf7, .ref qf8, .ref qf9, .int v10, .int v11, .int v12, .int v13, .int v14, .int v15, .int v16, .int v17, .int v18])), (qf2, .inr (4, [.ref qf2_0, .ref qf2_1])), (qf2_1, .inl (cf2_1, 256, .inl f2_1))] := hD
        replace hK : va_K (dC, dI) vwCl [(cf2_1, .boolean)] s := hK
        obtain ⟨rfl, hz_4⟩ := hw
        rcases hz_4 with rfl | rfl
        · rw [if_pos rfl] at hsp
          refine lv_if_eq (tgt := 40) hx hb dX10_isPair_33 (by decide) (fun c_12 => ?_) (fun c_12 => (show False by revert c_12; decide).elim)
          refine lv_iconst (v := 0) hx hb dX10_isPair_40 (by decide) ?_
          have hr0 := Option.some.inj hsp
          clear hsp
          subst hr0
          have hP9 := hP.sub (ws' := [(h0, .inr (10, [.ref qf0, .ref qf1, .ref qf2, .ref qf3, .ref qf4, .ref qf5, .ref qf6, .ref qf7, .ref qf8, .ref qf9, .int v10, .int v11, .int v12, .int v13, .int v14, .int v15, .int v16, .int v17, .int v18])), (qf2, .inr (4, [.ref qf2_0, .ref qf2_1])), (qf2_1, .inl (cf2_1, 256, .inl f2_1))]) [0, 1, 2] rfl
          have hD9 := hD.sub (ws' := [(h0, .inr (10, [.ref qf0, .ref qf1, .ref qf2, .ref qf3, .ref qf4, .ref qf5, .ref qf6, .ref qf7, .ref qf8, .ref qf9, .int v10, .int v11, .int v12, .int v13, .int v14, .int v15, .int v16, .int v17, .int v18])), (qf2, .inr (4, [.ref qf2_0, .ref qf2_1])), (qf2_1, .inl (cf2_1, 256, .inl f2_1))]) [0, 1, 2] (by decide) rfl
          have hK9 := hK.sub (tys' := [(cf2_1, .boolean)]) [0] rfl
          exact W.zret hx hb hr (by decide) (fun t ht hW => ⟨⟨(0), (), rfl, ⟨rfl, Or.inl rfl⟩, by rw [ht]; exact hP9, va_K.moved hW.alike hK9, hD9⟩, hS.F ht⟩) hS.2.2 dX10_isPair_41
        · rw [if_neg (by decide)] at hsp
          refine lv_if_eq (tgt := 40) hx hb dX10_isPair_33 (by decide) (fun c_13 => (show False by revert c_13; decide).elim) (fun c_13 => ?_)
          refine lv_iconst (v := 1) hx hb dX10_isPair_36 (by decide) ?_
          refine lv_goto (tgt := 41) hx hb dX10_isPair_37 (by decide) ?_
          have hr0 := Option.some.inj hsp
          clear hsp
          subst hr0
          have hP9 := hP.sub (ws' := [(h0, .inr (10, [.ref qf0, .ref qf1, .ref qf2, .ref qf3, .ref qf4, .ref qf5, .ref qf6, .ref qf7, .ref qf8, .ref qf9, .int v10, .int v11, .int v12, .int v13, .int v14, .int v15, .int v16, .int v17, .int v18])), (qf2, .inr (4, [.ref qf2_0, .ref qf2_1])), (qf2_1, .inl (cf2_1, 256, .inl f2_1))]) [0, 1, 2] rfl
          have hD9 := hD.sub (ws' := [(h0, .inr (10, [.ref qf0, .ref qf1, .ref qf2, .ref qf3, .ref qf4, .ref qf5, .ref qf6, .ref qf7, .ref qf8, .ref qf9, .int v10, .int v11, .int v12, .int v13, .int v14, .int v15, .int v16, .int v17, .int v18])), (qf2, .inr (4, [.ref qf2_0, .ref qf2_1])), (qf2_1, .inl (cf2_1, 256, .inl f2_1))]) [0, 1, 2] (by decide) rfl
          have hK9 := hK.sub (tys' := [(cf2_1, .boolean)]) [0] rfl
          exact W.zret hx hb hr (by decide) (fun t ht hW => ⟨⟨(1), (), rfl, ⟨rfl, Or.inr rfl⟩, by rw [ht]; exact hP9, va_K.moved hW.alike hK9, hD9⟩, hS.F ht⟩) hS.2.2 dX10_isPair_41
    · rw [if_neg (by decide)] at hsp
      refine lv_if_eq (tgt := 24) hx hb dX10_isPair_11 (by decide) (fun c_14 => (show False by revert c_14; decide).elim) (fun c_14 => ?_)
      refine lv_aload_n hx hb dX10_isPair_14 rfl (lv_at hl 0 rfl) ?_
      refine va_get (D := (dC, dI)) (ci := 10) (v := .ref qf2) (C := RX10) (T := TX10) (N := 19) hx hb hts uV_h4_X10 hown hK hP 0 rfl rfl 2 (by decide) (hts (.fieldLink RX10 45 "ClassMill$Values" "kin" "LClassMill$Kin;") mw_h4_290) (fun _ h9 => h9) rfl dX10_isPair_15 ?_
      refine lv_iload_n hx hb dX10_isPair_18 rfl (lv_at hl 1 rfl) ?_
      refine lv_iload_n hx hb dX10_isPair_19 rfl (lv_at hl 2 rfl) ?_
      obtain ⟨u5_0, hu_5, hsp⟩ := ox_bind hsp
      try dsimp only at hsp
      have hPc := hP.sub (ws' := [(qf2, .inr (4, [.ref qf2_0, .ref qf2_1])), (qf2_1, .inl (cf2_1, 256, .inl f2_1))]) [1, 2] rfl
      have hDc := hD.sub (ws' := [(qf2, .inr (4, [.ref qf2_0, .ref qf2_1])), (qf2_1, .inl (cf2_1, 256, .inl f2_1))]) [1, 2] (by decide) rfl
      have hKc := hK.sub (tys' := [(cf2_1, .boolean)]) [0] rfl
      have hFc := va_free (wc := [(qf2, .inr (4, [.ref qf2_0, .ref qf2_1])), (qf2_1, .inl (cf2_1, 256, .inl f2_1))]) hD hS hA [1, 2] rfl
      refine va_calli (va_runV (As := [.int a1, .int a2]) (rest := []) ⟨hx, hb, hml, hown, hts⟩ (t4_oneFits l dC dI H.size qf2 a1 a2 qf2_0 qf2_1 cf2_1 f2_1 nf u5_0 hu_5) (cwV 2 hts gv_h4_62 rfl rfl rfl (by decide +kernel) ⟨Nat.le_of_ble_eq_true rfl, Nat.le_of_ble_eq_true rfl⟩) ⟨fun a U g mk q => by obtain ⟨q0, q1, qP, qK, qD⟩ := q; exact ⟨q0, q1, qP, va_K.moved (u := U) (U := U.calling g mk a) (Vm.Alike.refl U.vm) qK, qD⟩, va_recv hKc hPc (ci := 4) (q0 := 0) rfl rfl, fun U hU hW => ⟨rfl, by rw [hU], by rw [hU]; exact hPc, va_K.moved hW.alike hKc, hDc.weaken (fun _ _ _ _ => trivial)⟩⟩ rfl rfl hl.1 rfl (lv_room (Nat.le_of_ble_eq_true rfl)) dX10_isPair_20 ⟨Nat.le_of_ble_eq_true rfl, Nat.le_of_ble_eq_true rfl⟩) hS (fun q _ h => hFc q h) hFc ?_
      clear hS
      intro r_15 u t H1 locs ht hvm hw hB hz1 hk1 hS
      obtain ⟨⟩ := u
      obtain ⟨hP1, hK1, hD1⟩ := hB
      rw [ht] at hP1
      have hK1 := va_K.moved hvm.symm hK1
      try dsimp only at hw
      have hPD := va_join (wr := [(h0, .inr (10, [.ref qf0, .ref qf1, .ref qf2, .ref qf3, .ref qf4, .ref qf5, .ref qf6, .ref qf7, .ref qf8, .ref qf9, .int v10, .int v11, .int v12, .int v13, .int v14, .int v15, .int v16, .int v17, .int v18]))]) (w1 := [(qf2, .inr (4, [.ref qf2_0, .ref qf2_1])), (qf2_1, .inl (cf2_1, 256, .inl f2_1))]) hP hD [1, 2] [0] rfl rfl (by decide) (by decide) hk1 hFc hP1 hD1
      clear hP hD
      obtain ⟨hP, hD⟩ := hPD
      replace hK := (hK.sub (tys' := []) [] rfl).app hK1
      clear hPc hDc hKc hFc hP1 hK1 hD1 hz1 hk1 ht hvm
      generalize H1 = H at hP hS ⊢
      replace hP : va_P (dC, dI) vwCl [(h0, .inr (10, [.ref qf0, .ref qf1, .ref qf2, .ref qf3, .ref qf4, .ref qf5, .ref qf6, .ref qf7, .ref qf8, .ref qf9, .int v10, .int v11, .int v12, .int v13, .int v14, .int v15, .int v16, .int v17, .int v18])), (qf2, .inr (4, [.ref qf2_0, .ref qf2_1])), (qf2_1, .inl (cf2_1, 256, .inl f2_1))] H := hP
      replace hD : va_D A [(h0, .inr (10, [.ref qf0, .ref qf1, .ref qf2, .ref qf3, .ref qf4, .ref qf5, .ref qf6, .ref qf7, .ref qf8, .ref qf9, .int v10, .int v11, .int v12, .int v13, .int v14, .int v15, .int v16, .int v17, .int v18])), (qf2, .inr (4, [.ref qf2_0, .ref qf2_1])), (qf2_1, .inl (cf2_1, 256, .inl f2_1))] := hD
      replace hK : va_K (dC, dI) vwCl [(cf2_1, .boolean)] s := hK
      obtain ⟨rfl, hz_5⟩ := hw
      rcases hz_5 with rfl | rfl
      · rw [if_pos rfl] at hsp
        have hr0 := Option.some.inj hsp
        clear hsp
        subst hr0
        have hP9 := hP.sub (ws' := [(h0, .inr (10, [.ref qf0, .ref qf1, .ref qf2, .ref qf3, .ref qf4, .ref qf5, .ref qf6, .ref qf7, .ref qf8, .ref qf9, .int v10, .int v11, .int v12, .int v13, .int v14, .int v15, .int v16, .int v17, .int v18])), (qf2, .inr (4, [.ref qf2_0, .ref qf2_1])), (qf2_1, .inl (cf2_1, 256, .inl f2_1))]) [0, 1, 2] rfl
        have hD9 := hD.sub (ws' := [(h0, .inr (10, [.ref qf0, .ref qf1, .ref qf2, .ref qf3, .ref qf4, .ref qf5, .ref qf6, .ref qf7, .ref qf8, .ref qf9, .int v10, .int v11, .int v12, .int v13, .int v14, .int v15, .int v16, .int v17, .int v18])), (qf2, .inr (4, [.ref qf2_0, .ref qf2_1])), (qf2_1, .inl (cf2_1, 256, .inl f2_1))]) [0, 1, 2] (by decide) rfl
        have hK9 := hK.sub (tys' := [(cf2_1, .boolean)]) [0] rfl
        exact W.zret hx hb hr (by decide) (fun t ht hW => ⟨⟨(0), (), rfl, ⟨rfl, Or.inl rfl⟩, by rw [ht]; exact hP9, va_K.moved hW.alike hK9, hD9⟩, hS.F ht⟩) hS.2.2 dX10_isPair_23
      · rw [if_neg (by decide)] at hsp
        have hr0 := Option.some.inj hsp
        clear hsp
        subst hr0
        have hP9 := hP.sub (ws' := [(h0, .inr (10, [.ref qf0, .ref qf1, .ref qf2, .ref qf3, .ref qf4, .ref qf5, .ref qf6, .ref qf7, .ref qf8, .ref qf9, .int v10, .int v11, .int v12, .int v13, .int v14, .int v15, .int v16, .int v17, .int v18])), (qf2, .inr (4, [.ref qf2_0, .ref qf2_1])), (qf2_1, .inl (cf2_1, 256, .inl f2_1))]) [0, 1, 2] rfl
        have hD9 := hD.sub (ws' := [(h0, .inr (10, [.ref qf0, .ref qf1, .ref qf2, .ref qf3, .ref qf4, .ref qf5, .ref qf6, .ref qf7, .ref qf8, .ref qf9, .int v10, .int v11, .int v12, .int v13, .int v14, .int v15, .int v16, .int v17, .int v18])), (qf2, .inr (4, [.ref qf2_0, .ref qf2_1])), (qf2_1, .inl (cf2_1, 256, .inl f2_1))]) [0, 1, 2] (by decide) rfl
        have hK9 := hK.sub (tys' := [(cf2_1, .boolean)]) [0] rfl
        exact W.zret hx hb hr (by decide) (fun t ht hW => ⟨⟨(1), (), rfl, ⟨rfl, Or.inr rfl⟩, by rw [ht]; exact hP9, va_K.moved hW.alike hK9, hD9⟩, hS.F ht⟩) hS.2.2 dX10_isPair_23
def sp_t10_isSignDue (nf : Nat) (a1 : Int32) (a2 : Int32) (v10 : Int32) (f5 : Nat → Int32) : Option (Int32) := (if v10 ≤ a1 then (some 0) else (if (v10 - 1) < 0 then none else if 420 ≤ ((v10 - 1) : Int32).toNatClampNeg then none else ((sp_t9_level nf (f5 ((v10 - 1) : Int32).toNatClampNeg)).bind (fun p1 => (if p1 < a2 then (some 0) else (some 1))))))
set_option maxHeartbeats 4000000 in
set_option maxRecDepth 100000 in
/-- ClassMill$Values.isSignDue -/
theorem t10_isSignDue (l : Launch) (dC : Nat → ClassId) (dI : Nat → Nat → Nat) (sz : Nat) (h0 : Nat) (a1 : Int32) (a2 : Int32) (qf0 : Nat) (qf1 : Nat) (qf2 : Nat) (qf3 : Nat) (qf4 : Nat) (qf5 : Nat) (qf6 : Nat) (qf7 : Nat) (qf8 : Nat) (qf9 : Nat) (v10 : Int32) (v11 : Int32) (v12 : Int32) (v13 : Int32) (v14 : Int32) (v15 : Int32) (v16 : Int32) (v17 : Int32) (v18 : Int32) (cf5 : ClassId) (f5 : (Nat → Int32)) (nf : Nat) (r0 : Int32) (hsp : sp_t10_isSignDue nf a1 a2 v10 f5 = some r0) : Met l yX10_isSignDue (.code yX10_isSignDue cX10_isSignDue 3 (some .boolean) :: VS_h4) ({ frames := 1, cells := 0, slots := 0, locals := 20 }) (va_Pc [.ref h0, .int a1, .int a2] (fun U => U.heap.size = sz ∧ va_P (dC, dI) vwCl [(h0, .inr (10, [.ref qf0, .ref qf1, .ref qf2, .ref qf3, .ref qf4, .ref qf5, .ref qf6, .ref qf7, .ref qf8, .ref qf9, .int v10, .int v11, .int v12, .int v13, .int v14, .int v15, .int v16, .int v17, .int v18])), (qf5, .inl (cf5, 420, .inl f5))] U.heap ∧ va_K (dC, dI) vwCl [(cf5, .int)] U ∧ va_D (fun _ => True) [(h0, .inr (10, [.ref qf0, .ref qf1, .ref qf2, .ref qf3, .ref qf4, .ref qf5, .ref qf6, .ref qf7, .ref qf8, .ref qf9, .int v10, .int v11, .int v12, .int v13, .int v14, .int v15, .int v16, .int v17, .int v18])), (qf5, .inl (cf5, 420, .inl f5))])) (va_Qi (fun (r : Int32) (u : Unit) => match u with | () => r0 = r ∧ (r0 = 0 ∨ r0 = 1)) (fun (u : Unit) (t : State) => match u with | () => va_P (dC, dI) vwCl [(h0, .inr (10, [.ref qf0, .ref qf1, .ref qf2, .ref qf3, .ref qf4, .ref qf5, .ref qf6, .ref qf7, .ref qf8, .ref qf9, .int v10, .int v11, .int v12, .int v13, .int v14, .int v15, .int v16, .int v17, .int v18])), (qf5, .inl (cf5, 420, .inl f5))] t.heap ∧ va_K (dC, dI) vwCl [(cf5, .int)] t ∧ va_D (va_A [(h0, .inr (10, [.ref qf0, .ref qf1, .ref qf2, .ref qf3, .ref qf4, .ref qf5, .ref qf6, .ref qf7, .ref qf8, .ref qf9, .int v10, .int v11, .int v12, .int v13, .int v14, .int v15, .int v16, .int v17, .int v18])), (qf5, .inl (cf5, 420, .inl f5))] sz) [(h0, .inr (10, [.ref qf0, .ref qf1, .ref qf2, .ref qf3, .ref qf4, .ref qf5, .ref qf6, .ref qf7, .ref qf8, .ref qf9, .int v10, .int v11, .int v12, .int v13, .int v14, .int v15, .int v16, .int v17, .int v18])), (qf5, .inl (cf5, 420, .inl f5))]) (va_A [(h0, .inr (10, [.ref qf0, .ref qf1, .ref qf2, .ref qf3, .ref qf4, .ref qf5, .ref qf6, .ref qf7, .ref qf8, .ref qf9, .int v10, .int v11, .int v12, .int v13, .int v14, .int v15, .int v16, .int v17, .int v18])), (qf5, .inl (cf5, 420, .inl f5))] sz)) 0 0 (va_A [(h0, .inr (10, [.ref qf0, .ref qf1, .ref qf2, .ref qf3, .ref qf4, .ref qf5, .ref qf6, .ref qf7, .ref qf8, .ref qf9, .int v10, .int v11, .int v12, .int v13, .int v14, .int v15, .int v16, .int v17, .int v18])), (qf5, .inl (cf5, 420, .inl f5))] sz) := by
  refine Met.ofW (cc := cX10_isSignDue) (maxL := 3) (ret := (some .boolean)) (by decide) rfl ?_
  intro p e s m args below meth c s₁ B hml hv
  obtain ⟨rfl, hsz, hP, hK, hD0⟩ := hv
  have hx := B.exec
  have hb := B.bytes
  have hr := B.returns
  have hts := atoms_spec (ws := (.code yX10_isSignDue cX10_isSignDue 3 (some .boolean) :: VS_h4)) B.pre
  replace hts := fun w (h : w ∈ VS_h4) => hts w (List.mem_cons_of_mem _ h)
  have hown : s.vm.findClass RX10 = some m.cls := findClass_of_methodNamed B.named
  have hlocks := B.notSynchronized
  subst hsz
  have hD := hD0.self (sz := s.heap.size)
  generalize hAe : va_A [(h0, .inr (10, [.ref qf0, .ref qf1, .ref qf2, .ref qf3, .ref qf4, .ref qf5, .ref qf6, .ref qf7, .ref qf8, .ref qf9, .int v10, .int v11, .int v12, .int v13, .int v14, .int v15, .int v16, .int v17, .int v18])), (qf5, .inl (cf5, 420, .inl f5))] s.heap.size = A at hD  ⊢
  have hA : ∀ q : Nat, s.heap.size ≤ q → A q := fun q h => by rw [← hAe]; exact Or.inr h
  have hP : va_P (dC, dI) vwCl [(h0, .inr (10, [.ref qf0, .ref qf1, .ref qf2, .ref qf3, .ref qf4, .ref qf5, .ref qf6, .ref qf7, .ref qf8, .ref qf9, .int v10, .int v11, .int v12, .int v13, .int v14, .int v15, .int v16, .int v17, .int v18])), (qf5, .inl (cf5, 420, .inl f5))] s.heap := hP
  have hl := lv_entry ([.ref h0, .int a1, .int a2]) (n := 3) (Nat.le_of_ble_eq_true rfl)
  rw [lg_entry_eq]
  generalize (lg_sl ([.ref h0, .int a1, .int a2]) ++ List.replicate (3 - (lg_sl ([.ref h0, .int a1, .int a2])).length) Slot.unset).toArray = ls at hl ⊢
  have hl : lv_has ls 3 [(0, .ref h0), (1, .int a1), (2, .int a2)] := hl
  obtain ⟨H, hH⟩ : ∃ H : Heap, s.heap = H := ⟨_, rfl⟩
  rw [hH] at hP ⊢
  have hS : va_S A s.heap H [] := by rw [← hH]; exact va_S.rf
  obtain ⟨locs, hlo⟩ : ∃ locs : List Loc, locs = [] := ⟨_, rfl⟩
  rw [← hlo] at hS ⊢
  unfold sp_t10_isSignDue at hsp
  refine lv_aload_n hx hb dX10_isSignDue_0 rfl (lv_at hl 0 rfl) ?_
  refine va_get (D := (dC, dI)) (ci := 10) (v := .int v10) (C := RX10) (T := TX10) (N := 19) hx hb hts uV_h4_X10 hown hK hP 0 rfl rfl 10 (by decide) (hts (.fieldLink RX10 65 "ClassMill$Values" "open" "I") mw_h4_281) (fun _ h9 => h9) rfl dX10_isSignDue_1 ?_
  refine lv_iload_n hx hb dX10_isSignDue_4 rfl (lv_at hl 1 rfl) ?_
  refine lv_icmp_le (tgt := 30) hx hb dX10_isSignDue_5 (by decide) (fun c_1 => ?_) (fun c_1 => ?_)
  · rw [if_pos c_1] at hsp
    refine lv_iconst (v := 0) hx hb dX10_isSignDue_30 (by decide) ?_
    have hr0 := Option.some.inj hsp
    clear hsp
    subst hr0
    have hP9 := hP.sub (ws' := [(h0, .inr (10, [.ref qf0, .ref qf1, .ref qf2, .ref qf3, .ref qf4, .ref qf5, .ref qf6, .ref qf7, .ref qf8, .ref qf9, .int v10, .int v11, .int v12, .int v13, .int v14, .int v15, .int v16, .int v17, .int v18])), (qf5, .inl (cf5, 420, .inl f5))]) [0, 1] rfl
    have hD9 := hD.sub (ws' := [(h0, .inr (10, [.ref qf0, .ref qf1, .ref qf2, .ref qf3, .ref qf4, .ref qf5, .ref qf6, .ref qf7, .ref qf8, .ref qf9, .int v10, .int v11, .int v12, .int v13, .int v14, .int v15, .int v16, .int v17, .int v18])), (qf5, .inl (cf5, 420, .inl f5))]) [0, 1] (by decide) rfl
    have hK9 := hK.sub (tys' := [(cf5, .int)]) [0] rfl
    exact W.zret hx hb hr (by decide) (fun t ht hW => ⟨⟨(0), (), rfl, ⟨rfl, Or.inl rfl⟩, by rw [ht]; exact hP9, va_K.moved hW.alike hK9, hD9⟩, hS.F ht⟩) hS.2.2 dX10_isSignDue_31
  · rw [if_neg c_1] at hsp
    refine lv_aload_n hx hb dX10_isSignDue_8 rfl (lv_at hl 0 rfl) ?_
    refine va_get (D := (dC, dI)) (ci := 10) (v := .ref qf5) (C := RX10) (T := TX10) (N := 19) hx hb hts uV_h4_X10 hown hK hP 0 rfl rfl 5 (by decide) (hts (.fieldLink RX10 15 "ClassMill$Values" "signs" "[I") mw_h4_295) (fun _ h9 => h9) rfl dX10_isSignDue_9 ?_
    refine lv_aload_n hx hb dX10_isSignDue_12 rfl (lv_at hl 0 rfl) ?_
    refine va_get (D := (dC, dI)) (ci := 10) (v := .int v10) (C := RX10) (T := TX10) (N := 19) hx hb hts uV_h4_X10 hown hK hP 0 rfl rfl 10 (by decide) (hts (.fieldLink RX10 65 "ClassMill$Values" "open" "I") mw_h4_281) (fun _ h9 => h9) rfl dX10_isSignDue_13 ?_
    refine lv_iconst (v := 1) hx hb dX10_isSignDue_16 (by decide) ?_
    refine lv_isub hx hb dX10_isSignDue_17 ?_
    obtain ⟨hi_2, hsp⟩ := ox_in hsp
    refine va_iald hx hb hK hP 1 0 rfl rfl (i := (v10 - 1)) hi_2 dX10_isSignDue_18 ?_
    obtain ⟨u1_0, hu_1, hsp⟩ := ox_bind hsp
    try dsimp only at hsp
    have hPc := hP.sub (ws' := []) [] rfl
    have hDc := hD.sub (ws' := []) [] (by decide) rfl
    have hKc := hK.sub (tys' := []) [] rfl
    have hFc := va_free (wc := []) hD hS hA [] rfl
    refine va_calli (va_runS (As := [.int (f5 ((v10 - 1) : Int32).toNatClampNeg)]) (rest := []) ⟨hx, hb, hml, hown, hts⟩ (t9_level l dC dI H.size ((f5 ((v10 - 1) : Int32).toNatClampNeg)) nf u1_0 hu_1) (va_cwS 1 hts gv_h4_64 rfl rfl rfl (by decide +kernel) ⟨Nat.le_of_ble_eq_true rfl, Nat.le_of_ble_eq_true rfl⟩) ⟨fun a U g mk q => by obtain ⟨q0, q1, qP, qK, qD⟩ := q; exact ⟨q0, q1, qP, va_K.moved (u := U) (U := U.calling g mk a) (Vm.Alike.refl U.vm) qK, qD⟩, fun U hU hW => ⟨rfl, by rw [hU], by rw [hU]; exact hPc, va_K.moved hW.alike hKc, hDc.weaken (fun _ _ _ _ => trivial)⟩⟩ rfl rfl hl.1 rfl (lv_room (Nat.le_of_ble_eq_true rfl)) dX10_isSignDue_19 ⟨Nat.le_of_ble_eq_true rfl, Nat.le_of_ble_eq_true rfl⟩) hS (fun q _ h => hFc q h) hFc ?_
    clear hS
    intro r_3 u t H1 locs ht hvm hw hB hz1 hk1 hS
    obtain ⟨⟩ := u
    obtain ⟨hP1, hK1, hD1⟩ := hB
    rw [ht] at hP1
    have hK1 := va_K.moved hvm.symm hK1
    try dsimp only at hw
    have hPD := va_join (wr := [(h0, .inr (10, [.ref qf0, .ref qf1, .ref qf2, .ref qf3, .ref qf4, .ref qf5, .ref qf6, .ref qf7, .ref qf8, .ref qf9, .int v10, .int v11, .int v12, .int v13, .int v14, .int v15, .int v16, .int v17, .int v18])), (qf5, .inl (cf5, 420, .inl f5))]) (w1 := []) hP hD [] [0, 1] rfl rfl (by decide) (by decide) hk1 hFc hP1 hD1
    clear hP hD
    obtain ⟨hP, hD⟩ := hPD
    replace hK := (hK.sub (tys' := [(cf5, .int)]) [0] rfl).app hK1
    clear hPc hDc hKc hFc hP1 hK1 hD1 hz1 hk1 ht hvm
    generalize H1 = H at hP hS ⊢
    replace hP : va_P (dC, dI) vwCl [(h0, .inr (10, [.ref qf0, .ref qf1, .ref qf2, .ref qf3, .ref qf4, .ref qf5, .ref qf6, .ref qf7, .ref qf8, .ref qf9, .int v10, .int v11, .int v12, .int v13, .int v14, .int v15, .int v16, .int v17, .int v18])), (qf5, .inl (cf5, 420, .inl f5))] H := hP
    replace hD : va_D A [(h0, .inr (10, [.ref qf0, .ref qf1, .ref qf2, .ref qf3, .ref qf4, .ref qf5, .ref qf6, .ref qf7, .ref qf8, .ref qf9, .int v10, .int v11, .int v12, .int v13, .int v14, .int v15, .int v16, .int v17, .int v18])), (qf5, .inl (cf5, 420, .inl f5))] := hD
    replace hK : va_K (dC, dI) vwCl [(cf5, .int)] s := hK
    obtain rfl := hw
    refine lv_iload_n hx hb dX10_isSignDue_22 rfl (lv_at hl 2 rfl) ?_
    refine lv_icmp_lt (tgt := 30) hx hb dX10_isSignDue_23 (by decide) (fun c_4 => ?_) (fun c_4 => ?_)
    · rw [if_pos c_4] at hsp
      refine lv_iconst (v := 0) hx hb dX10_isSignDue_30 (by decide) ?_
      have hr0 := Option.some.inj hsp
      clear hsp
      subst hr0
      have hP9 := hP.sub (ws' := [(h0, .inr (10, [.ref qf0, .ref qf1, .ref qf2, .ref qf3, .ref qf4, .ref qf5, .ref qf6, .ref qf7, .ref qf8, .ref qf9, .int v10, .int v11, .int v12, .int v13, .int v14, .int v15, .int v16, .int v17, .int v18])), (qf5, .inl (cf5, 420, .inl f5))]) [0, 1] rfl
      have hD9 := hD.sub (ws' := [(h0, .inr (10, [.ref qf0, .ref qf1, .ref qf2, .ref qf3, .ref qf4, .ref qf5, .ref qf6, .ref qf7, .ref qf8, .ref qf9, .int v10, .int v11, .int v12, .int v13, .int v14, .int v15, .int v16, .int v17, .int v18])), (qf5, .inl (cf5, 420, .inl f5))]) [0, 1] (by decide) rfl
      have hK9 := hK.sub (tys' := [(cf5, .int)]) [0] rfl
      exact W.zret hx hb hr (by decide) (fun t ht hW => ⟨⟨(0), (), rfl, ⟨rfl, Or.inl rfl⟩, by rw [ht]; exact hP9, va_K.moved hW.alike hK9, hD9⟩, hS.F ht⟩) hS.2.2 dX10_isSignDue_31
    · rw [if_neg c_4] at hsp
      refine lv_iconst (v := 1) hx hb dX10_isSignDue_26 (by decide) ?_
      refine lv_goto (tgt := 31) hx hb dX10_isSignDue_27 (by decide) ?_
      have hr0 := Option.some.inj hsp
      clear hsp
      subst hr0
      have hP9 := hP.sub (ws' := [(h0, .inr (10, [.ref qf0, .ref qf1, .ref qf2, .ref qf3, .ref qf4, .ref qf5, .ref qf6, .ref qf7, .ref qf8, .ref qf9, .int v10, .int v11, .int v12, .int v13, .int v14, .int v15, .int v16, .int v17, .int v18])), (qf5, .inl (cf5, 420, .inl f5))]) [0, 1] rfl
      have hD9 := hD.sub (ws' := [(h0, .inr (10, [.ref qf0, .ref qf1, .ref qf2, .ref qf3, .ref qf4, .ref qf5, .ref qf6, .ref qf7, .ref qf8, .ref qf9, .int v10, .int v11, .int v12, .int v13, .int v14, .int v15, .int v16, .int v17, .int v18])), (qf5, .inl (cf5, 420, .inl f5))]) [0, 1] (by decide) rfl
      have hK9 := hK.sub (tys' := [(cf5, .int)]) [0] rfl
      exact W.zret hx hb hr (by decide) (fun t ht hW => ⟨⟨(1), (), rfl, ⟨rfl, Or.inr rfl⟩, by rw [ht]; exact hP9, va_K.moved hW.alike hK9, hD9⟩, hS.F ht⟩) hS.2.2 dX10_isSignDue_31
def sp_t10_wantType (nf : Nat) (a1 : Int32) (a2 : Int32) (v0_3 : Int32) (v0_11 : Int32) (v0_12 : Int32) (f0_1 : Nat → Int32) : Option (Int32 × Int32) := (if a1 = 0 then ((sp_t9_tell nf 6 a2 v0_3 v0_11 v0_12 f0_1).bind (fun p1 => (some (p1.1, p1.2)))) else (some (v0_11, v0_12)))
set_option maxHeartbeats 4000000 in
set_option maxRecDepth 100000 in
/-- ClassMill$Values.wantType -/
theorem t10_wantType (l : Launch) (dC : Nat → ClassId) (dI : Nat → Nat → Nat) (sz : Nat) (h0 : Nat) (a1 : Int32) (a2 : Int32) (qf0 : Nat) (qf1 : Nat) (qf2 : Nat) (qf3 : Nat) (qf4 : Nat) (qf5 : Nat) (qf6 : Nat) (qf7 : Nat) (qf8 : Nat) (qf9 : Nat) (v10 : Int32) (v11 : Int32) (v12 : Int32) (v13 : Int32) (v14 : Int32) (v15 : Int32) (v16 : Int32) (v17 : Int32) (v18 : Int32) (qf0_0 : Nat) (qf0_1 : Nat) (qf0_2 : Nat) (v0_3 : Int32) (qf0_4 : Nat) (qf0_5 : Nat) (qf0_6 : Nat) (qf0_7 : Nat) (qf0_8 : Nat) (v0_9 : Int32) (v0_10 : Int32) (v0_11 : Int32) (v0_12 : Int32) (cf0_1 : ClassId) (f0_1 : (Nat → Int32)) (nf : Nat) (w0_11 : Int32) (w0_12 : Int32) (hsp : sp_t10_wantType nf a1 a2 v0_3 v0_11 v0_12 f0_1 = some (w0_11, w0_12)) : Met l yX10_wantType (.code yX10_wantType cX10_wantType 3 none :: VS_h4) ({ frames := 1, cells := 0, slots := 0, locals := 22 }) (va_Pc [.ref h0, .int a1, .int a2] (fun U => U.heap.size = sz ∧ va_P (dC, dI) vwCl [(h0, .inr (10, [.ref qf0, .ref qf1, .ref qf2, .ref qf3, .ref qf4, .ref qf5, .ref qf6, .ref qf7, .ref qf8, .ref qf9, .int v10, .int v11, .int v12, .int v13, .int v14, .int v15, .int v16, .int v17, .int v18])), (qf0, .inr (9, [.ref qf0_0, .ref qf0_1, .ref qf0_2, .int v0_3, .ref qf0_4, .ref qf0_5, .ref qf0_6, .ref qf0_7, .ref qf0_8, .int v0_9, .int v0_10, .int v0_11, .int v0_12])), (qf0_1, .inl (cf0_1, 3001, .inl f0_1))] U.heap ∧ va_K (dC, dI) vwCl [(cf0_1, .int)] U ∧ va_D (fun _ => True) [(h0, .inr (10, [.ref qf0, .ref qf1, .ref qf2, .ref qf3, .ref qf4, .ref qf5, .ref qf6, .ref qf7, .ref qf8, .ref qf9, .int v10, .int v11, .int v12, .int v13, .int v14, .int v15, .int v16, .int v17, .int v18])), (qf0, .inr (9, [.ref qf0_0, .ref qf0_1, .ref qf0_2, .int v0_3, .ref qf0_4, .ref qf0_5, .ref qf0_6, .ref qf0_7, .ref qf0_8, .int v0_9, .int v0_10, .int v0_11, .int v0_12])), (qf0_1, .inl (cf0_1, 3001, .inl f0_1))])) (va_Qv (fun (u : Unit) => match u with | () => True) (fun (u : Unit) (t : State) => match u with | () => va_P (dC, dI) vwCl [(h0, .inr (10, [.ref qf0, .ref qf1, .ref qf2, .ref qf3, .ref qf4, .ref qf5, .ref qf6, .ref qf7, .ref qf8, .ref qf9, .int v10, .int v11, .int v12, .int v13, .int v14, .int v15, .int v16, .int v17, .int v18])), (qf0, .inr (9, [.ref qf0_0, .ref qf0_1, .ref qf0_2, .int v0_3, .ref qf0_4, .ref qf0_5, .ref qf0_6, .ref qf0_7, .ref qf0_8, .int v0_9, .int v0_10, .int w0_11, .int w0_12])), (qf0_1, .inl (cf0_1, 3001, .inl f0_1))] t.heap ∧ va_K (dC, dI) vwCl [(cf0_1, .int)] t ∧ va_D (va_A [(h0, .inr (10, [.ref qf0, .ref qf1, .ref qf2, .ref qf3, .ref qf4, .ref qf5, .ref qf6, .ref qf7, .ref qf8, .ref qf9, .int v10, .int v11, .int v12, .int v13, .int v14, .int v15, .int v16, .int v17, .int v18])), (qf0, .inr (9, [.ref qf0_0, .ref qf0_1, .ref qf0_2, .int v0_3, .ref qf0_4, .ref qf0_5, .ref qf0_6, .ref qf0_7, .ref qf0_8, .int v0_9, .int v0_10, .int v0_11, .int v0_12])), (qf0_1, .inl (cf0_1, 3001, .inl f0_1))] sz) [(h0, .inr (10, [.ref qf0, .ref qf1, .ref qf2, .ref qf3, .ref qf4, .ref qf5, .ref qf6, .ref qf7, .ref qf8, .ref qf9, .int v10, .int v11, .int v12, .int v13, .int v14, .int v15, .int v16, .int v17, .int v18])), (qf0, .inr (9, [.ref qf0_0, .ref qf0_1, .ref qf0_2, .int v0_3, .ref qf0_4, .ref qf0_5, .ref qf0_6, .ref qf0_7, .ref qf0_8, .int v0_9, .int v0_10, .int w0_11, .int w0_12])), (qf0_1, .inl (cf0_1, 3001, .inl f0_1))]) (va_A [(h0, .inr (10, [.ref qf0, .ref qf1, .ref qf2, .ref qf3, .ref qf4, .ref qf5, .ref qf6, .ref qf7, .ref qf8, .ref qf9, .int v10, .int v11, .int v12, .int v13, .int v14, .int v15, .int v16, .int v17, .int v18])), (qf0, .inr (9, [.ref qf0_0, .ref qf0_1, .ref qf0_2, .int v0_3, .ref qf0_4, .ref qf0_5, .ref qf0_6, .ref qf0_7, .ref qf0_8, .int v0_9, .int v0_10, .int v0_11, .int v0_12])), (qf0_1, .inl (cf0_1, 3001, .inl f0_1))] sz)) 0 0 (va_A [(h0, .inr (10, [.ref qf0, .ref qf1, .ref qf2, .ref qf3, .ref qf4, .ref qf5, .ref qf6, .ref qf7, .ref qf8, .ref qf9, .int v10, .int v11, .int v12, .int v13, .int v14, .int v15, .int v16, .int v17, .int v18])), (qf0, .inr (9, [.ref qf0_0, .ref qf0_1, .ref qf0_2, .int v0_3, .ref qf0_4, .ref qf0_5, .ref qf0_6, .ref qf0_7, .ref qf0_8, .int v0_9, .int v0_10, .int v0_11, .int v0_12])), (qf0_1, .inl (cf0_1, 3001, .inl f0_1))] sz) := by
  refine Met.ofW (cc := cX10_wantType) (maxL := 3) (ret := none) (by decide) rfl ?_
  intro p e s m args below meth c s₁ B hml hv
  obtain ⟨rfl, hsz, hP, hK, hD0⟩ := hv
  have hx := B.exec
  have hb := B.bytes
  have hr := B.returns
  have hts := atoms_spec (ws := (.code yX10_wantType cX10_wantType 3 none :: VS_h4)) B.pre
  replace hts := fun w (h : w ∈ VS_h4) => hts w (List.mem_cons_of_mem _ h)
  have hown : s.vm.findClass RX10 = some m.cls := findClass_of_methodNamed B.named
  have hlocks := B.notSynchronized
  subst hsz
  have hD := hD0.self (sz := s.heap.size)
  generalize hAe : va_A [(h0, .inr (10, [.ref qf0, .ref qf1, .ref qf2, .ref qf3, .ref qf4, .ref qf5, .ref qf6, .ref qf7, .ref qf8, .ref qf9, .int v10, .int v11, .int v12, .int v13, .int v14, .int v15, .int v16, .int v17, .int v18])), (qf0, .inr (9, [.ref qf0_0, .ref qf0_1, .ref qf0_2, .int v0_3, .ref qf0_4, .ref qf0_5, .ref qf0_6, .ref qf0_7, .ref qf0_8, .int v0_9, .int v0_10, .int v0_11, .int v0_12])), (qf0_1, .inl (cf0_1, 3001, .inl f0_1))] s.heap.size = A at hD  ⊢
  have hA : ∀ q : Nat, s.heap.size ≤ q → A q := fun q h => by rw [← hAe]; exact Or.inr h
  have hP : va_P (dC, dI) vwCl [(h0, .inr (10, [.ref qf0, .ref qf1, .ref qf2, .ref qf3, .ref qf4, .ref qf5, .ref qf6, .ref qf7, .ref qf8, .ref qf9, .int v10, .int v11, .int v12, .int v13, .int v14, .int v15, .int v16, .int v17, .int v18])), (qf0, .inr (9, [.ref qf0_0, .ref qf0_1, .ref qf0_2, .int v0_3, .ref qf0_4, .ref qf0_5, .ref qf0_6, .ref qf0_7, .ref qf0_8, .int v0_9, .int v0_10, .int v0_11, .int v0_12])), (qf0_1, .inl (cf0_1, 3001, .inl f0_1))] s.heap := hP
  have hl := lv_entry ([.ref h0, .int a1, .int a2]) (n := 3) (Nat.le_of_ble_eq_true rfl)
  rw [lg_entry_eq]
  generalize (lg_sl ([.ref h0, .int a1, .int a2]) ++ List.replicate (3 - (lg_sl ([.ref h0, .int a1, .int a2])).length) Slot.unset).toArray = ls at hl ⊢
  have hl : lv_has ls 3 [(0, .ref h0), (1, .int a1), (2, .int a2)] := hl
  obtain ⟨H, hH⟩ : ∃ H : Heap, s.heap = H := ⟨_, rfl⟩
  rw [hH] at hP ⊢
  have hS : va_S A s.heap H [] := by rw [← hH]; exact va_S.rf
  obtain ⟨locs, hlo⟩ : ∃ locs : List Loc, locs = [] := ⟨_, rfl⟩
  rw [← hlo] at hS ⊢
  unfold sp_t10_wantType at hsp
  refine lv_iload_n hx hb dX10_wantType_0 rfl (lv_at hl 1 rfl) ?_
  refine lv_if_ne (tgt := 14) hx hb dX10_wantType_1 (by decide) (fun c_1 => ?_) (fun c_1 => ?_)
  · rw [if_neg c_1] at hsp
    have hr0 := Option.some.inj hsp
    clear hsp
    obtain ⟨hq0, hr1⟩ := Prod.mk.inj hr0
    clear hr0
    subst hq0
    subst hr1
    have hP9 := hP.sub (ws' := [(h0, .inr (10, [.ref qf0, .ref qf1, .ref qf2, .ref qf3, .ref qf4, .ref qf5, .ref qf6, .ref qf7, .ref qf8, .ref qf9, .int v10, .int v11, .int v12, .int v13, .int v14, .int v15, .int v16, .int v17, .int v18])), (qf0, .inr (9, [.ref qf0_0, .ref qf0_1, .ref qf0_2, .int v0_3, .ref qf0_4, .ref qf0_5, .ref qf0_6, .ref qf0_7, .ref qf0_8, .int v0_9, .int v0_10, .int v0_11, .int v0_12])), (qf0_1, .inl (cf0_1, 3001, .inl f0_1))]) [0, 1, 2] rfl
    have hD9 := hD.sub (ws' := [(h0, .inr (10, [.ref qf0, .ref qf1, .ref qf2, .ref qf3, .ref qf4, .ref qf5, .ref qf6, .ref qf7, .ref qf8, .ref qf9, .int v10, .int v11, .int v12, .int v13, .int v14, .int v15, .int v16, .int v17, .int v18])), (qf0, .inr (9, [.ref qf0_0, .ref qf0_1, .ref qf0_2, .int v0_3, .ref qf0_4, .ref qf0_5, .ref qf0_6, .ref qf0_7, .ref qf0_8, .int v0_9, .int v0_10, .int v0_11, .int v0_12])), (qf0_1, .inl (cf0_1, 3001, .inl f0_1))]) [0, 1, 2] (by decide) rfl
    have hK9 := hK.sub (tys' := [(cf0_1, .int)]) [0] rfl
    exact W.vret hx hb hr (fun t ht hW => ⟨⟨(), rfl, trivial, by rw [ht]; exact hP9, va_K.moved hW.alike hK9, hD9⟩, hS.F ht⟩) hS.2.2 dX10_wantType_14
  · rw [if_pos c_1] at hsp
    refine lv_aload_n hx hb dX10_wantType_4 rfl (lv_at hl 0 rfl) ?_
    refine va_get (D := (dC, dI)) (ci := 10) (v := .ref qf0) (C := RX10) (T := TX10) (N := 19) hx hb hts uV_h4_X10 hown hK hP 0 rfl rfl 0 (by decide) (hts (.fieldLink RX10 31 "ClassMill$Values" "text" "LClassMill$Text;") mw_h4_297) (fun _ h9 => h9) rfl dX10_wantType_5 ?_
    refine lv_bipush (v := 6) hx hb dX10_wantType_8 (by decide) ?_
    refine lv_iload_n hx hb dX10_wantType_10 rfl (lv_at hl 2 rfl) ?_
    obtain ⟨⟨u1_0, u1_1⟩, hu_1, hsp⟩ := ox_bind hsp
    try dsimp only at hsp
    have hPc := hP.sub (ws' := [(qf0, .inr (9, [.ref qf0_0, .ref qf0_1, .ref qf0_2, .int v0_3, .ref qf0_4, .ref qf0_5, .ref qf0_6, .ref qf0_7, .ref qf0_8, .int v0_9, .int v0_10, .int v0_11, .int v0_12])), (qf0_1, .inl (cf0_1, 3001, .inl f0_1))]) [1, 2] rfl
    have hDc := hD.sub (ws' := [(qf0, .inr (9, [.ref qf0_0, .ref qf0_1, .ref qf0_2, .int v0_3, .ref qf0_4, .ref qf0_5, .ref qf0_6, .ref qf0_7, .ref qf0_8, .int v0_9, .int v0_10, .int v0_11, .int v0_12])), (qf0_1, .inl (cf0_1, 3001, .inl f0_1))]) [1, 2] (by decide) rfl
    have hKc := hK.sub (tys' := [(cf0_1, .int)]) [0] rfl
    have hFc := va_free (wc := [(qf0, .inr (9, [.ref qf0_0, .ref qf0_1, .ref qf0_2, .int v0_3, .ref qf0_4, .ref qf0_5, .ref qf0_6, .ref qf0_7, .ref qf0_8, .int v0_9, .int v0_10, .int v0_11, .int v0_12])), (qf0_1, .inl (cf0_1, 3001, .inl f0_1))]) hD hS hA [1, 2] rfl
    refine va_callv (va_runV (As := [.int 6, .int a2]) (rest := []) ⟨hx, hb, hml, hown, hts⟩ (t9_tell l dC dI H.size qf0 6 a2 qf0_0 qf0_1 qf0_2 v0_3 qf0_4 qf0_5 qf0_6 qf0_7 qf0_8 v0_9 v0_10 v0_11 v0_12 cf0_1 f0_1 nf u1_0 u1_1 hu_1) (cwV 2 hts gv_h4_65 rfl rfl rfl (by decide +kernel) ⟨Nat.le_of_ble_eq_true rfl, Nat.le_of_ble_eq_true rfl⟩) ⟨fun a U g mk q => by obtain ⟨q0, q1, qP, qK, qD⟩ := q; exact ⟨q0, q1, qP, va_K.moved (u := U) (U := U.calling g mk a) (Vm.Alike.refl U.vm) qK, qD⟩, va_recv hKc hPc (ci := 9) (q0 := 0) rfl rfl, fun U hU hW => ⟨rfl, by rw [hU], by rw [hU]; exact hPc, va_K.moved hW.alike hKc, hDc.weaken (fun _ _ _ _ => trivial)⟩⟩ rfl rfl hl.1 rfl (lv_room (Nat.le_of_ble_eq_true rfl)) dX10_wantType_11 ⟨Nat.le_of_ble_eq_true rfl, Nat.le_of_ble_eq_true rfl⟩) hS (fun q _ h => hFc q h) hFc ?_
    clear hS
    intro u t H1 locs ht hvm hw hB hz1 hk1 hS
    obtain ⟨⟩ := u
    obtain ⟨hP1, hK1, hD1⟩ := hB
    rw [ht] at hP1
    have hK1 := va_K.moved hvm.symm hK1
    try dsimp only at hw
    have hPD := va_join (wr := [(h0, .inr (10, [.ref qf0, .ref qf1, .ref qf2, .ref qf3, .ref qf4, .ref qf5, .ref qf6, .ref qf7, .ref qf8, .ref qf9, .int v10, .int v11, .int v12, .int v13, .int v14, .int v15, .int v16, .int v17, .int v18]))]) (w1 := [(qf0, .inr (9, [.ref qf0_0, .ref qf0_1, .ref qf0_2, .int v0_3, .ref qf0_4, .ref qf0_5, .ref qf0_6, .ref qf0_7, .ref qf0_8, .int v0_9, .int v0_10, .int u1_0, .int u1_1])), (qf0_1, .inl (cf0_1, 3001, .inl f0_1))]) hP hD [1, 2] [0] rfl rfl (by decide) (by decide) hk1 hFc hP1 hD1
    clear hP hD
    obtain ⟨hP, hD⟩ := hPD
    replace hK := (hK.sub (tys' := []) [] rfl).app hK1
    clear hPc hDc hKc hFc hP1 hK1 hD1 hz1 hk1 ht hvm
    generalize H1 = H at hP hS ⊢
    replace hP : va_P (dC, dI) vwCl [(h0, .inr (10, [.ref qf0, .ref qf1, .ref qf2, .ref qf3, .ref qf4, .ref qf5, .ref qf6, .ref qf7, .ref qf8, .ref qf9, .int v10, .int v11, .int v12, .int v13, .int v14, .int v15, .int v16, .int v17, .int v18])), (qf0, .inr (9, [.ref qf0_0, .ref qf0_1, .ref qf0_2, .int v0_3, .ref qf0_4, .ref qf0_5, .ref qf0_6, .ref qf0_7, .ref qf0_8, .int v0_9, .int v0_10, .int u1_0, .int u1_1])), (qf0_1, .inl (cf0_1, 3001, .inl f0_1))] H := hP
    replace hD : va_D A [(h0, .inr (10, [.ref qf0, .ref qf1, .ref qf2, .ref qf3, .ref qf4, .ref qf5, .ref qf6, .ref qf7, .ref qf8, .ref qf9, .int v10, .int v11, .int v12, .int v13, .int v14, .int v15, .int v16, .int v17, .int v18])), (qf0, .inr (9, [.ref qf0_0, .ref qf0_1, .ref qf0_2, .int v0_3, .ref qf0_4, .ref qf0_5, .ref qf0_6, .ref qf0_7, .ref qf0_8, .int v0_9, .int v0_10, .int u1_0, .int u1_1])), (qf0_1, .inl (cf0_1, 3001, .inl f0_1))] := hD
    replace hK : va_K (dC, dI) vwCl [(cf0_1, .int)] s := hK
    have hr0 := Option.some.inj hsp
    clear hsp
    obtain ⟨hq0, hr1⟩ := Prod.mk.inj hr0
    clear hr0
    subst hq0
    subst hr1
    have hP9 := hP.sub (ws' := [(h0, .inr (10, [.ref qf0, .ref qf1, .ref qf2, .ref qf3, .ref qf4, .ref qf5, .ref qf6, .ref qf7, .ref qf8, .ref qf9, .int v10, .int v11, .int v12, .int v13, .int v14, .int v15, .int v16, .int v17, .int v18])), (qf0, .inr (9, [.ref qf0_0, .ref qf0_1, .ref qf0_2, .int v0_3, .ref qf0_4, .ref qf0_5, .ref qf0_6, .ref qf0_7, .ref qf0_8, .int v0_9, .int v0_10, .int u1_0, .int u1_1])), (qf0_1, .inl (cf0_1, 3001, .inl f0_1))]) [0, 1, 2] rfl
    have hD9 := hD.sub (ws' := [(h0, .inr (10, [.ref qf0, .ref qf1, .ref qf2, .ref qf3, .ref qf4, .ref qf5, .ref qf6, .ref qf7, .ref qf8, .ref qf9, .int v10, .int v11, .int v12, .int v13, .int v14, .int v15, .int v16, .int v17, .int v18])), (qf0, .inr (9, [.ref qf0_0, .ref qf0_1, .ref qf0_2, .int v0_3, .ref qf0_4, .ref qf0_5, .ref qf0_6, .ref qf0_7, .ref qf0_8, .int v0_9, .int v0_10, .int u1_0, .int u1_1])), (qf0_1, .inl (cf0_1, 3001, .inl f0_1))]) [0, 1, 2] (by decide) rfl
    have hK9 := hK.sub (tys' := [(cf0_1, .int)]) [0] rfl
    exact W.vret hx hb hr (fun t ht hW => ⟨⟨(), rfl, trivial, by rw [ht]; exact hP9, va_K.moved hW.alike hK9, hD9⟩, hS.F ht⟩) hS.2.2 dX10_wantType_14
def sp_t10_compareOp (nf : Nat) (a1 : Int32) (a2 : Int32) : Option (Int32) := (if a1 = 52 then (if a2 = 0 then (some 165) else (some 159)) else (if a1 = 53 then (if a2 = 0 then (some 166) else (some 160)) else (if a1 = 54 then (some 161) else (if a1 = 55 then (some 164) else (if a1 = 56 then (some 163) else (if a1 = 57 then (some 162) else (some 164)))))))
set_option maxHeartbeats 4000000 in
set_option maxRecDepth 100000 in
/-- ClassMill$Values.compareOp -/
theorem t10_compareOp (l : Launch) (dC : Nat → ClassId) (dI : Nat → Nat → Nat) (sz : Nat) (a1 : Int32) (a2 : Int32) (nf : Nat) (r0 : Int32) (hsp : sp_t10_compareOp nf a1 a2 = some r0) : Met l yX10_compareOp (.code yX10_compareOp cX10_compareOp 2 (some .int) :: VS_h4) ({ frames := 0, cells := 0, slots := 0, locals := 0 }) (va_Pc [.int a1, .int a2] (fun U => U.heap.size = sz ∧ va_P (dC, dI) vwCl [] U.heap ∧ va_K (dC, dI) vwCl [] U ∧ va_D (fun _ => True) [])) (va_Qi (fun (r : Int32) (u : Unit) => match u with | () => r0 = r) (fun (u : Unit) (t : State) => match u with | () => va_P (dC, dI) vwCl [] t.heap ∧ va_K (dC, dI) vwCl [] t ∧ va_D (va_A [] sz) []) (va_A [] sz)) 0 0 (va_A [] sz) := by
  refine Met.ofW (cc := cX10_compareOp) (maxL := 2) (ret := (some .int)) (by decide) rfl ?_
  intro p e s m args below meth c s₁ B hml hv
  obtain ⟨rfl, hsz, hP, hK, hD0⟩ := hv
  have hx := B.exec
  have hb := B.bytes
  have hr := B.returns
  have hts := atoms_spec (ws := (.code yX10_compareOp cX10_compareOp 2 (some .int) :: VS_h4)) B.pre
  replace hts := fun w (h : w ∈ VS_h4) => hts w (List.mem_cons_of_mem _ h)
  have hown : s.vm.findClass RX10 = some m.cls := findClass_of_methodNamed B.named
  have hlocks := B.notSynchronized
  subst hsz
  have hD := hD0.self (sz := s.heap.size)
  generalize hAe : va_A [] s.heap.size = A at hD  ⊢
  have hA : ∀ q : Nat, s.heap.size ≤ q → A q := fun q h => by rw [← hAe]; exact Or.inr h
  have hP : va_P (dC, dI) vwCl [] s.heap := hP
  have hl := lv_entry ([.int a1, .int a2]) (n := 2) (Nat.le_of_ble_eq_true rfl)
  rw [lg_entry_eq]
  generalize (lg_sl ([.int a1, .int a2]) ++ List.replicate (2 - (lg_sl ([.int a1, .int a2])).length) Slot.unset).toArray = ls at hl ⊢
  have hl : lv_has ls 2 [(0, .int a1), (1, .int a2)] := hl
  obtain ⟨H, hH⟩ : ∃ H : Heap, s.heap = H := ⟨_, rfl⟩
  rw [hH] at hP ⊢
  have hS : va_S A s.heap H [] := by rw [← hH]; exact va_S.rf
  obtain ⟨locs, hlo⟩ : ∃ locs : List Loc, locs = [] := ⟨_, rfl⟩
  rw [← hlo] at hS ⊢
  unfold sp_t10_compareOp at hsp
  refine lv_iload_n hx hb dX10_compareOp_0 rfl (lv_at hl 0 rfl) ?_
  by_cases hs_1 : a1 = 52
  · rw [if_pos hs_1] at hsp
    refine lv_tableIn (tgt := 40) hx hb dX10_compareOp_1 (by rw [hs_1]; decide) (by rw [hs_1]; decide) (off := 39) (by rw [hs_1]; rfl) (by decide) ?_
    refine lv_iload_n hx hb dX10_compareOp_40 rfl (lv_at hl 1 rfl) ?_
    refine lv_if_eq (tgt := 50) hx hb dX10_compareOp_41 (by decide) (fun c_2 => ?_) (fun c_2 => ?_)
    · rw [if_pos c_2] at hsp
      refine lv_sipush (v := 165) hx hb dX10_compareOp_50 (by decide) ?_
      have hr0 := Option.some.inj hsp
      clear hsp
      subst hr0
      have hP9 := hP.sub (ws' := []) [] rfl
      have hD9 := hD.sub (ws' := []) [] (by decide) rfl
      have hK9 := hK.sub (tys' := []) [] rfl
      exact W.iret hx hb hr (fun t ht hW => ⟨⟨(165), (), rfl, rfl, by rw [ht]; exact hP9, va_K.moved hW.alike hK9, hD9⟩, hS.F ht⟩) hS.2.2 dX10_compareOp_53
    · rw [if_neg c_2] at hsp
      refine lv_sipush (v := 159) hx hb dX10_compareOp_44 (by decide) ?_
      refine lv_goto (tgt := 53) hx hb dX10_compareOp_47 (by decide) ?_
      have hr0 := Option.some.inj hsp
      clear hsp
      subst hr0
      have hP9 := hP.sub (ws' := []) [] rfl
      have hD9 := hD.sub (ws' := []) [] (by decide) rfl
      have hK9 := hK.sub (tys' := []) [] rfl
      exact W.iret hx hb hr (fun t ht hW => ⟨⟨(159), (), rfl, rfl, by rw [ht]; exact hP9, va_K.moved hW.alike hK9, hD9⟩, hS.F ht⟩) hS.2.2 dX10_compareOp_53
  rw [if_neg hs_1] at hsp
  by_cases hs_3 : a1 = 53
  · rw [if_pos hs_3] at hsp
    refine lv_tableIn (tgt := 54) hx hb dX10_compareOp_1 (by rw [hs_3]; decide) (by rw [hs_3]; decide) (off := 53) (by rw [hs_3]; rfl) (by decide) ?_
    refine lv_iload_n hx hb dX10_compareOp_54 rfl (lv_at hl 1 rfl) ?_
    refine lv_if_eq (tgt := 64) hx hb dX10_compareOp_55 (by decide) (fun c_4 => ?_) (fun c_4 => ?_)
    · rw [if_pos c_4] at hsp
      refine lv_sipush (v := 166) hx hb dX10_compareOp_64 (by decide) ?_
      have hr0 := Option.some.inj hsp
      clear hsp
      subst hr0
      have hP9 := hP.sub (ws' := []) [] rfl
      have hD9 := hD.sub (ws' := []) [] (by decide) rfl
      have hK9 := hK.sub (tys' := []) [] rfl
      exact W.iret hx hb hr (fun t ht hW => ⟨⟨(166), (), rfl, rfl, by rw [ht]; exact hP9, va_K.moved hW.alike hK9, hD9⟩, hS.F ht⟩) hS.2.2 dX10_compareOp_67
    · rw [if_neg c_4] at hsp
      refine lv_sipush (v := 160) hx hb dX10_compareOp_58 (by decide) ?_
      refine lv_goto (tgt := 67) hx hb dX10_compareOp_61 (by decide) ?_
      have hr0 := Option.some.inj hsp
      clear hsp
      subst hr0
      have hP9 := hP.sub (ws' := []) [] rfl
      have hD9 := hD.sub (ws' := []) [] (by decide) rfl
      have hK9 := hK.sub (tys' := []) [] rfl
      exact W.iret hx hb hr (fun t ht hW => ⟨⟨(160), (), rfl, rfl, by rw [ht]; exact hP9, va_K.moved hW.alike hK9, hD9⟩, hS.F ht⟩) hS.2.2 dX10_compareOp_67
  rw [if_neg hs_3] at hsp
  by_cases hs_5 : a1 = 54
  · rw [if_pos hs_5] at hsp
    refine lv_tableIn (tgt := 68) hx hb dX10_compareOp_1 (by rw [hs_5]; decide) (by rw [hs_5]; decide) (off := 67) (by rw [hs_5]; rfl) (by decide) ?_
    refine lv_sipush (v := 161) hx hb dX10_compareOp_68 (by decide) ?_
    have hr0 := Option.some.inj hsp
    clear hsp
    subst hr0
    have hP9 := hP.sub (ws' := []) [] rfl
    have hD9 := hD.sub (ws' := []) [] (by decide) rfl
    have hK9 := hK.sub (tys' := []) [] rfl
    exact W.iret hx hb hr (fun t ht hW => ⟨⟨(161), (), rfl, rfl, by rw [ht]; exact hP9, va_K.moved hW.alike hK9, hD9⟩, hS.F ht⟩) hS.2.2 dX10_compareOp_71
  rw [if_neg hs_5] at hsp
  by_cases hs_6 : a1 = 55
  · rw [if_pos hs_6] at hsp
    refine lv_tableIn (tgt := 80) hx hb dX10_compareOp_1 (by rw [hs_6]; decide) (by rw [hs_6]; decide) (off := 79) (by rw [hs_6]; rfl) (by decide) ?_
    refine lv_sipush (v := 164) hx hb dX10_compareOp_80 (by decide) ?_
    have hr0 := Option.some.inj hsp
    clear hsp
    subst hr0
    have hP9 := hP.sub (ws' := []) [] rfl
    have hD9 := hD.sub (ws' := []) [] (by decide) rfl
    have hK9 := hK.sub (tys' := []) [] rfl
    exact W.iret hx hb hr (fun t ht hW => ⟨⟨(164), (), rfl, rfl, by rw [ht]; exact hP9, va_K.moved hW.alike hK9, hD9⟩, hS.F ht⟩) hS.2.2 dX10_compareOp_83
  rw [if_neg hs_6] at hsp
  by_cases hs_7 : a1 = 56
  · rw [if_pos hs_7] at hsp
    refine lv_tableIn (tgt := 76) hx hb dX10_compareOp_1 (by rw [hs_7]; decide) (by rw [hs_7]; decide) (off := 75) (by rw [hs_7]; rfl) (by decide) ?_
    refine lv_sipush (v := 163) hx hb dX10_compareOp_76 (by decide) ?_
    have hr0 := Option.some.inj hsp
    clear hsp
    subst hr0
    have hP9 := hP.sub (ws' := []) [] rfl
    have hD9 := hD.sub (ws' := []) [] (by decide) rfl
    have hK9 := hK.sub (tys' := []) [] rfl
    exact W.iret hx hb hr (fun t ht hW => ⟨⟨(163), (), rfl, rfl, by rw [ht]; exact hP9, va_K.moved hW.alike hK9, hD9⟩, hS.F ht⟩) hS.2.2 dX10_compareOp_79
  rw [if_neg hs_7] at hsp
  by_cases hs_8 : a1 = 57
  · rw [if_pos hs_8] at hsp
    refine lv_tableIn (tgt := 72) hx hb dX10_compareOp_1 (by rw [hs_8]; decide) (by rw [hs_8]; decide) (off := 71) (by rw [hs_8]; rfl) (by decide) ?_
    refine lv_sipush (v := 162) hx hb dX10_compareOp_72 (by decide) ?_
    have hr0 := Option.some.inj hsp
    clear hsp
    subst hr0
    have hP9 := hP.sub (ws' := []) [] rfl
    have hD9 := hD.sub (ws' := []) [] (by decide) rfl
    have hK9 := hK.sub (tys' := []) [] rfl
    exact W.iret hx hb hr (fun t ht hW => ⟨⟨(162), (), rfl, rfl, by rw [ht]; exact hP9, va_K.moved hW.alike hK9, hD9⟩, hS.F ht⟩) hS.2.2 dX10_compareOp_75
  rw [if_neg hs_8] at hsp
  refine lv_tableOut (tgt := 80) hx hb dX10_compareOp_1 (by have a0 := lv_neT hs_1 (a := 52) rfl; have a1 := lv_neT hs_3 (a := 53) rfl; have a2 := lv_neT hs_5 (a := 54) rfl; have a3 := lv_neT hs_6 (a := 55) rfl; have a4 := lv_neT hs_7 (a := 56) rfl; have a5 := lv_neT hs_8 (a := 57) rfl; omega) (by decide) ?_
  refine lv_sipush (v := 164) hx hb dX10_compareOp_80 (by decide) ?_
  have hr0 := Option.some.inj hsp
  clear hsp
  subst hr0
  have hP9 := hP.sub (ws' := []) [] rfl
  have hD9 := hD.sub (ws' := []) [] (by decide) rfl
  have hK9 := hK.sub (tys' := []) [] rfl
  exact W.iret hx hb hr (fun t ht hW => ⟨⟨(164), (), rfl, rfl, by rw [ht]; exact hP9, va_K.moved hW.alike hK9, hD9⟩, hS.F ht⟩) hS.2.2 dX10_compareOp_83
def sp_t10_arithmeticOp (nf : Nat) (a1 : Int32) : Option (Int32) := (if a1 = 58 then (some 120) else (if a1 = 59 then (some 122) else (if a1 = 60 then (some 124) else (if a1 = 61 then (some 96) else (if a1 = 62 then (some 100) else (if a1 = 63 then (some 104) else (if a1 = 64 then (some 108) else (if a1 = 65 then (some 112) else (if a1 = 66 then (some 126) else (if a1 = 67 then (some 130) else (if a1 = 68 then (some 128) else (some 130))))))))))))
set_option maxHeartbeats 4000000 in
set_option maxRecDepth 100000 in
/-- ClassMill$Values.arithmeticOp -/
theorem t10_arithmeticOp (l : Launch) (dC : Nat → ClassId) (dI : Nat → Nat → Nat) (sz : Nat) (a1 : Int32) (nf : Nat) (r0 : Int32) (hsp : sp_t10_arithmeticOp nf a1 = some r0) : Met l yX10_arithmeticOp (.code yX10_arithmeticOp cX10_arithmeticOp 1 (some .int) :: VS_h4) ({ frames := 0, cells := 0, slots := 0, locals := 0 }) (va_Pc [.int a1] (fun U => U.heap.size = sz ∧ va_P (dC, dI) vwCl [] U.heap ∧ va_K (dC, dI) vwCl [] U ∧ va_D (fun _ => True) [])) (va_Qi (fun (r : Int32) (u : Unit) => match u with | () => r0 = r) (fun (u : Unit) (t : State) => match u with | () => va_P (dC, dI) vwCl [] t.heap ∧ va_K (dC, dI) vwCl [] t ∧ va_D (va_A [] sz) []) (va_A [] sz)) 0 0 (va_A [] sz) := by
  refine Met.ofW (cc := cX10_arithmeticOp) (maxL := 1) (ret := (some .int)) (by decide) rfl ?_
  intro p e s m args below meth c s₁ B hml hv
  obtain ⟨rfl, hsz, hP, hK, hD0⟩ := hv
  have hx := B.exec
  have hb := B.bytes
  have hr := B.returns
  have hts := atoms_spec (ws := (.code yX10_arithmeticOp cX10_arithmeticOp 1 (some .int) :: VS_h4)) B.pre
  replace hts := fun w (h : w ∈ VS_h4) => hts w (List.mem_cons_of_mem _ h)
  have hown : s.vm.findClass RX10 = some m.cls := findClass_of_methodNamed B.named
  have hlocks := B.notSynchronized
  subst hsz
  have hD := hD0.self (sz := s.heap.size)
  generalize hAe : va_A [] s.heap.size = A at hD  ⊢
  have hA : ∀ q : Nat, s.heap.size ≤ q → A q := fun q h => by rw [← hAe]; exact Or.inr h
  have hP : va_P (dC, dI) vwCl [] s.heap := hP
  have hl := lv_entry ([.int a1]) (n := 1) (Nat.le_of_ble_eq_true rfl)
  rw [lg_entry_eq]
  generalize (lg_sl ([.int a1]) ++ List.replicate (1 - (lg_sl ([.int a1])).length) Slot.unset).toArray = ls at hl ⊢
  have hl : lv_has ls 1 [(0, .int a1)] := hl
  obtain ⟨H, hH⟩ : ∃ H : Heap, s.heap = H := ⟨_, rfl⟩
  rw [hH] at hP ⊢
  have hS : va_S A s.heap H [] := by rw [← hH]; exact va_S.rf
  obtain ⟨locs, hlo⟩ : ∃ locs : List Loc, locs = [] := ⟨_, rfl⟩
  rw [← hlo] at hS ⊢
  unfold sp_t10_arithmeticOp at hsp
  refine lv_iload_n hx hb dX10_arithmeticOp_0 rfl (lv_at hl 0 rfl) ?_
  by_cases hs_1 : a1 = 58
  · rw [if_pos hs_1] at hsp
    refine lv_tableIn (tgt := 75) hx hb dX10_arithmeticOp_1 (by rw [hs_1]; decide) (by rw [hs_1]; decide) (off := 74) (by rw [hs_1]; rfl) (by decide) ?_
    refine lv_bipush (v := 120) hx hb dX10_arithmeticOp_75 (by decide) ?_
    have hr0 := Option.some.inj hsp
    clear hsp
    subst hr0
    have hP9 := hP.sub (ws' := []) [] rfl
    have hD9 := hD.sub (ws' := []) [] (by decide) rfl
    have hK9 := hK.sub (tys' := []) [] rfl
    exact W.iret hx hb hr (fun t ht hW => ⟨⟨(120), (), rfl, rfl, by rw [ht]; exact hP9, va_K.moved hW.alike hK9, hD9⟩, hS.F ht⟩) hS.2.2 dX10_arithmeticOp_77
  rw [if_neg hs_1] at hsp
  by_cases hs_2 : a1 = 59
  · rw [if_pos hs_2] at hsp
    refine lv_tableIn (tgt := 78) hx hb dX10_arithmeticOp_1 (by rw [hs_2]; decide) (by rw [hs_2]; decide) (off := 77) (by rw [hs_2]; rfl) (by decide) ?_
    refine lv_bipush (v := 122) hx hb dX10_arithmeticOp_78 (by decide) ?_
    have hr0 := Option.some.inj hsp
    clear hsp
    subst hr0
    have hP9 := hP.sub (ws' := []) [] rfl
    have hD9 := hD.sub (ws' := []) [] (by decide) rfl
    have hK9 := hK.sub (tys' := []) [] rfl
    exact W.iret hx hb hr (fun t ht hW => ⟨⟨(122), (), rfl, rfl, by rw [ht]; exact hP9, va_K.moved hW.alike hK9, hD9⟩, hS.F ht⟩) hS.2.2 dX10_arithmeticOp_80
  rw [if_neg hs_2] at hsp
  by_cases hs_3 : a1 = 60
  · rw [if_pos hs_3] at hsp
    refine lv_tableIn (tgt := 81) hx hb dX10_arithmeticOp_1 (by rw [hs_3]; decide) (by rw [hs_3]; decide) (off := 80) (by rw [hs_3]; rfl) (by decide) ?_
    refine lv_bipush (v := 124) hx hb dX10_arithmeticOp_81 (by decide) ?_
    have hr0 := Option.some.inj hsp
    clear hsp
    subst hr0
    have hP9 := hP.sub (ws' := []) [] rfl
    have hD9 := hD.sub (ws' := []) [] (by decide) rfl
    have hK9 := hK.sub (tys' := []) [] rfl
    exact W.iret hx hb hr (fun t ht hW => ⟨⟨(124), (), rfl, rfl, by rw [ht]; exact hP9, va_K.moved hW.alike hK9, hD9⟩, hS.F ht⟩) hS.2.2 dX10_arithmeticOp_83
  rw [if_neg hs_3] at hsp
  by_cases hs_4 : a1 = 61
  · rw [if_pos hs_4] at hsp
    refine lv_tableIn (tgt := 60) hx hb dX10_arithmeticOp_1 (by rw [hs_4]; decide) (by rw [hs_4]; decide) (off := 59) (by rw [hs_4]; rfl) (by decide) ?_
    refine lv_bipush (v := 96) hx hb dX10_arithmeticOp_60 (by decide) ?_
    have hr0 := Option.some.inj hsp
    clear hsp
    subst hr0
    have hP9 := hP.sub (ws' := []) [] rfl
    have hD9 := hD.sub (ws' := []) [] (by decide) rfl
    have hK9 := hK.sub (tys' := []) [] rfl
    exact W.iret hx hb hr (fun t ht hW => ⟨⟨(96), (), rfl, rfl, by rw [ht]; exact hP9, va_K.moved hW.alike hK9, hD9⟩, hS.F ht⟩) hS.2.2 dX10_arithmeticOp_62
  rw [if_neg hs_4] at hsp
  by_cases hs_5 : a1 = 62
  · rw [if_pos hs_5] at hsp
    refine lv_tableIn (tgt := 63) hx hb dX10_arithmeticOp_1 (by rw [hs_5]; decide) (by rw [hs_5]; decide) (off := 62) (by rw [hs_5]; rfl) (by decide) ?_
    refine lv_bipush (v := 100) hx hb dX10_arithmeticOp_63 (by decide) ?_
    have hr0 := Option.some.inj hsp
    clear hsp
    subst hr0
    have hP9 := hP.sub (ws' := []) [] rfl
    have hD9 := hD.sub (ws' := []) [] (by decide) rfl
    have hK9 := hK.sub (tys' := []) [] rfl
    exact W.iret hx hb hr (fun t ht hW => ⟨⟨(100), (), rfl, rfl, by rw [ht]; exact hP9, va_K.moved hW.alike hK9, hD9⟩, hS.F ht⟩) hS.2.2 dX10_arithmeticOp_65
  rw [if_neg hs_5] at hsp
  by_cases hs_6 : a1 = 63
  · rw [if_pos hs_6] at hsp
    refine lv_tableIn (tgt := 66) hx hb dX10_arithmeticOp_1 (by rw [hs_6]; decide) (by rw [hs_6]; decide) (off := 65) (by rw [hs_6]; rfl) (by decide) ?_
    refine lv_bipush (v := 104) hx hb dX10_arithmeticOp_66 (by decide) ?_
    have hr0 := Option.some.inj hsp
    clear hsp
    subst hr0
    have hP9 := hP.sub (ws' := []) [] rfl
    have hD9 := hD.sub (ws' := []) [] (by decide) rfl
    have hK9 := hK.sub (tys' := []) [] rfl
    exact W.iret hx hb hr (fun t ht hW => ⟨⟨(104), (), rfl, rfl, by rw [ht]; exact hP9, va_K.moved hW.alike hK9, hD9⟩, hS.F ht⟩) hS.2.2 dX10_arithmeticOp_68
  rw [if_neg hs_6] at hsp
  by_cases hs_7 : a1 = 64
  · rw [if_pos hs_7] at hsp
    refine lv_tableIn (tgt := 69) hx hb dX10_arithmeticOp_1 (by rw [hs_7]; decide) (by rw [hs_7]; decide) (off := 68) (by rw [hs_7]; rfl) (by decide) ?_
    refine lv_bipush (v := 108) hx hb dX10_arithmeticOp_69 (by decide) ?_
    have hr0 := Option.some.inj hsp
    clear hsp
    subst hr0
    have hP9 := hP.sub (ws' := []) [] rfl
    have hD9 := hD.sub (ws' := []) [] (by decide) rfl
    have hK9 := hK.sub (tys' := []) [] rfl
    exact W.iret hx hb hr (fun t ht hW => ⟨⟨(108), (), rfl, rfl, by rw [ht]; exact hP9, va_K.moved hW.alike hK9, hD9⟩, hS.F ht⟩) hS.2.2 dX10_arithmeticOp_71
  rw [if_neg hs_7] at hsp
  by_cases hs_8 : a1 = 65
  · rw [if_pos hs_8] at hsp
    refine lv_tableIn (tgt := 72) hx hb dX10_arithmeticOp_1 (by rw [hs_8]; decide) (by rw [hs_8]; decide) (off := 71) (by rw [hs_8]; rfl) (by decide) ?_
    refine lv_bipush (v := 112) hx hb dX10_arithmeticOp_72 (by decide) ?_
    have hr0 := Option.some.inj hsp
    clear hsp
    subst hr0
    have hP9 := hP.sub (ws' := []) [] rfl
    have hD9 := hD.sub (ws' := []) [] (by decide) rfl
    have hK9 := hK.sub (tys' := []) [] rfl
    exact W.iret hx hb hr (fun t ht hW => ⟨⟨(112), (), rfl, rfl, by rw [ht]; exact hP9, va_K.moved hW.alike hK9, hD9⟩, hS.F ht⟩) hS.2.2 dX10_arithmeticOp_74
  rw [if_neg hs_8] at hsp
  by_cases hs_9 : a1 = 66
  · rw [if_pos hs_9] at hsp
    refine lv_tableIn (tgt := 84) hx hb dX10_arithmeticOp_1 (by rw [hs_9]; decide) (by rw [hs_9]; decide) (off := 83) (by rw [hs_9]; rfl) (by decide) ?_
    refine lv_bipush (v := 126) hx hb dX10_arithmeticOp_84 (by decide) ?_
    have hr0 := Option.some.inj hsp
    clear hsp
    subst hr0
    have hP9 := hP.sub (ws' := []) [] rfl
    have hD9 := hD.sub (ws' := []) [] (by decide) rfl
    have hK9 := hK.sub (tys' := []) [] rfl
    exact W.iret hx hb hr (fun t ht hW => ⟨⟨(126), (), rfl, rfl, by rw [ht]; exact hP9, va_K.moved hW.alike hK9, hD9⟩, hS.F ht⟩) hS.2.2 dX10_arithmeticOp_86
  rw [if_neg hs_9] at hsp
  by_cases hs_10 : a1 = 67
  · rw [if_pos hs_10] at hsp
    refine lv_tableIn (tgt := 91) hx hb dX10_arithmeticOp_1 (by rw [hs_10]; decide) (by rw [hs_10]; decide) (off := 90) (by rw [hs_10]; rfl) (by decide) ?_
    refine lv_sipush (v := 130) hx hb dX10_arithmeticOp_91 (by decide) ?_
    have hr0 := Option.some.inj hsp
    clear hsp
    subst hr0
    have hP9 := hP.sub (ws' := []) [] rfl
    have hD9 := hD.sub (ws' := []) [] (by decide) rfl
    have hK9 := hK.sub (tys' := []) [] rfl
    exact W.iret hx hb hr (fun t ht hW => ⟨⟨(130), (), rfl, rfl, by rw [ht]; exact hP9, va_K.moved hW.alike hK9, hD9⟩, hS.F ht⟩) hS.2.2 dX10_arithmeticOp_94
  rw [if_neg hs_10] at hsp
  by_cases hs_11 : a1 = 68
  · rw [if_pos hs_11] at hsp
    refine lv_tableIn (tgt := 87) hx hb dX10_arithmeticOp_1 (by rw [hs_11]; decide) (by rw [hs_11]; decide) (off := 86) (by rw [hs_11]; rfl) (by decide) ?_
    refine lv_sipush (v := 128) hx hb dX10_arithmeticOp_87 (by decide) ?_
    have hr0 := Option.some.inj hsp
    clear hsp
    subst hr0
    have hP9 := hP.sub (ws' := []) [] rfl
    have hD9 := hD.sub (ws' := []) [] (by decide) rfl
    have hK9 := hK.sub (tys' := []) [] rfl
    exact W.iret hx hb hr (fun t ht hW => ⟨⟨(128), (), rfl, rfl, by rw [ht]; exact hP9, va_K.moved hW.alike hK9, hD9⟩, hS.F ht⟩) hS.2.2 dX10_arithmeticOp_90
  rw [if_neg hs_11] at hsp
  refine lv_tableOut (tgt := 91) hx hb dX10_arithmeticOp_1 (by have a0 := lv_neT hs_1 (a := 58) rfl; have a1 := lv_neT hs_2 (a := 59) rfl; have a2 := lv_neT hs_3 (a := 60) rfl; have a3 := lv_neT hs_4 (a := 61) rfl; have a4 := lv_neT hs_5 (a := 62) rfl; have a5 := lv_neT hs_6 (a := 63) rfl; have a6 := lv_neT hs_7 (a := 64) rfl; have a7 := lv_neT hs_8 (a := 65) rfl; have a8 := lv_neT hs_9 (a := 66) rfl; have a9 := lv_neT hs_10 (a := 67) rfl; have a10 := lv_neT hs_11 (a := 68) rfl; omega) (by decide) ?_
  refine lv_sipush (v := 130) hx hb dX10_arithmeticOp_91 (by decide) ?_
  have hr0 := Option.some.inj hsp
  clear hsp
  subst hr0
  have hP9 := hP.sub (ws' := []) [] rfl
  have hD9 := hD.sub (ws' := []) [] (by decide) rfl
  have hK9 := hK.sub (tys' := []) [] rfl
  exact W.iret hx hb hr (fun t ht hW => ⟨⟨(130), (), rfl, rfl, by rw [ht]; exact hP9, va_K.moved hW.alike hK9, hD9⟩, hS.F ht⟩) hS.2.2 dX10_arithmeticOp_94
def sp_t10_readNamedClass (nf : Nat) (a1 : Int32) (a2 : Int32) (v1_0_3 : Int32) (f1_0_2 : Nat → Int32) (f1_0_0 : Nat → Int32) (f1_4 : Nat → Int32) (v0_3 : Int32) (v0_11 : Int32) (v0_12 : Int32) (f0_1 : Nat → Int32) : Option (Int32 × Int32 × Int32 × Int32) := ((sp_t2_classAt nf a1 v1_0_3 f1_0_2 f1_0_0 f1_4).bind (fun p1 => (if p1 = (-1) then ((sp_t9_tell nf 5 a1 v0_3 v0_11 v0_12 f0_1).bind (fun p2 => (some (p1, a2, p2.1, p2.2)))) else (some (p1, a2, v0_11, v0_12)))))
set_option maxHeartbeats 4000000 in
set_option maxRecDepth 100000 in
/-- ClassMill$Values.readNamedClass -/
theorem t10_readNamedClass (l : Launch) (dC : Nat → ClassId) (dI : Nat → Nat → Nat) (sz : Nat) (h0 : Nat) (a1 : Int32) (a2 : Int32) (qf0 : Nat) (qf1 : Nat) (qf2 : Nat) (qf3 : Nat) (qf4 : Nat) (qf5 : Nat) (qf6 : Nat) (qf7 : Nat) (qf8 : Nat) (qf9 : Nat) (v10 : Int32) (v11 : Int32) (v12 : Int32) (v13 : Int32) (v14 : Int32) (v15 : Int32) (v16 : Int32) (v17 : Int32) (v18 : Int32) (qf1_0 : Nat) (qf1_1 : Nat) (v1_2 : Int32) (qf1_3 : Nat) (qf1_4 : Nat) (qf1_5 : Nat) (qf1_6 : Nat) (qf1_7 : Nat) (qf1_8 : Nat) (qf1_9 : Nat) (qf1_10 : Nat) (qf1_11 : Nat) (qf1_12 : Nat) (qf1_13 : Nat) (qf1_14 : Nat) (qf1_15 : Nat) (qf1_16 : Nat) (qf1_17 : Nat) (qf1_18 : Nat) (qf1_19 : Nat) (v1_20 : Int32) (qf1_0_0 : Nat) (qf1_0_1 : Nat) (qf1_0_2 : Nat) (v1_0_3 : Int32) (qf1_0_4 : Nat) (qf1_0_5 : Nat) (qf1_0_6 : Nat) (qf1_0_7 : Nat) (qf1_0_8 : Nat) (v1_0_9 : Int32) (v1_0_10 : Int32) (v1_0_11 : Int32) (v1_0_12 : Int32) (cf1_0_2 : ClassId) (f1_0_2 : (Nat → Int32)) (cf1_0_0 : ClassId) (f1_0_0 : (Nat → Int32)) (cf1_4 : ClassId) (f1_4 : (Nat → Int32)) (qf0_0 : Nat) (qf0_1 : Nat) (qf0_2 : Nat) (v0_3 : Int32) (qf0_4 : Nat) (qf0_5 : Nat) (qf0_6 : Nat) (qf0_7 : Nat) (qf0_8 : Nat) (v0_9 : Int32) (v0_10 : Int32) (v0_11 : Int32) (v0_12 : Int32) (cf0_1 : ClassId) (f0_1 : (Nat → Int32)) (nf : Nat) (r0 : Int32) (w0_10 : Int32) (w0_11 : Int32) (w0_12 : Int32) (hsp : sp_t10_readNamedClass nf a1 a2 v1_0_3 f1_0_2 f1_0_0 f1_4 v0_3 v0_11 v0_12 f0_1 = some (r0, w0_10, w0_11, w0_12)) : Met l yX10_readNamedClass (.code yX10_readNamedClass cX10_readNamedClass 4 (some .int) :: VS_h4) ({ frames := 2, cells := 0, slots := 0, locals := 43 }) (va_Pc [.ref h0, .int a1, .int a2] (fun U => U.heap.size = sz ∧ va_P (dC, dI) vwCl [(h0, .inr (10, [.ref qf0, .ref qf1, .ref qf2, .ref qf3, .ref qf4, .ref qf5, .ref qf6, .ref qf7, .ref qf8, .ref qf9, .int v10, .int v11, .int v12, .int v13, .int v14, .int v15, .int v16, .int v17, .int v18])), (qf1, .inr (2, [.ref qf1_0, .ref qf1_1, .int v1_2, .ref qf1_3, .ref qf1_4, .ref qf1_5, .ref qf1_6, .ref qf1_7, .ref qf1_8, .ref qf1_9, .ref qf1_10, .ref qf1_11, .ref qf1_12, .ref qf1_13, .ref qf1_14, .ref qf1_15, .ref qf1_16, .ref qf1_17, .ref qf1_18, .ref qf1_19, .int v1_20])), (qf1_0, .inr (9, [.ref qf1_0_0, .ref qf1_0_1, .ref qf1_0_2, .int v1_0_3, .ref qf1_0_4, .ref qf1_0_5, .ref qf1_0_6, .ref qf1_0_7, .ref qf1_0_8, .int v1_0_9, .int v1_0_10, .int v1_0_11, .int v1_0_12])), (qf1_0_2, .inl (cf1_0_2, 3001, .inl f1_0_2)), (qf1_0_0, .inl (cf1_0_0, 3001, .inl f1_0_0)), (qf1_4, .inl (cf1_4, 1740, .inl f1_4)), (qf0, .inr (9, [.ref qf0_0, .ref qf0_1, .ref qf0_2, .int v0_3, .ref qf0_4, .ref qf0_5, .ref qf0_6, .ref qf0_7, .ref qf0_8, .int v0_9, .int v0_10, .int v0_11, .int v0_12])), (qf0_1, .inl (cf0_1, 3001, .inl f0_1))] U.heap ∧ va_K (dC, dI) vwCl [(cf1_0_2, .int), (cf1_0_0, .int), (cf1_4, .int), (cf0_1, .int)] U ∧ va_D (fun _ => True) [(h0, .inr (10, [.ref qf0, .ref qf1, .ref qf2, .ref qf3, .ref qf4, .ref qf5, .ref qf6, .ref qf7, .ref qf8, .ref qf9, .int v10, .int v11, .int v12, .int v13, .int v14, .int v15, .int v16, .int v17, .int v18])), (qf1, .inr (2, [.ref qf1_0, .ref qf1_1, .int v1_2, .ref qf1_3, .ref qf1_4, .ref qf1_5, .ref qf1_6, .ref qf1_7, .ref qf1_8, .ref qf1_9, .ref qf1_10, .ref qf1_11, .ref qf1_12, .ref qf1_13, .ref qf1_14, .ref qf1_15, .ref qf1_16, .ref qf1_17, .ref qf1_18, .ref qf1_19, .int v1_20])), (qf1_0, .inr (9, [.ref qf1_0_0, .ref qf1_0_1, .ref qf1_0_2, .int v1_0_3, .ref qf1_0_4, .ref qf1_0_5, .ref qf1_0_6, .ref qf1_0_7, .ref qf1_0_8, .int v1_0_9, .int v1_0_10, .int v1_0_11, .int v1_0_12])), (qf1_0_2, .inl (cf1_0_2, 3001, .inl f1_0_2)), (qf1_0_0, .inl (cf1_0_0, 3001, .inl f1_0_0)), (qf1_4, .inl (cf1_4, 1740, .inl f1_4)), (qf0, .inr (9, [.ref qf0_0, .ref qf0_1, .ref qf0_2, .int v0_3, .ref qf0_4, .ref qf0_5, .ref qf0_6, .ref qf0_7, .ref qf0_8, .int v0_9, .int v0_10, .int v0_11, .int v0_12])), (qf0_1, .inl (cf0_1, 3001, .inl f0_1))])) (va_Qi (fun (r : Int32) (u : Unit) => match u with | () => r0 = r) (fun (u : Unit) (t : State) => match u with | () => va_P (dC, dI) vwCl [(h0, .inr (10, [.ref qf0, .ref qf1, .ref qf2, .ref qf3, .ref qf4, .ref qf5, .ref qf6, .ref qf7, .ref qf8, .ref qf9, .int v10, .int v11, .int v12, .int v13, .int v14, .int v15, .int v16, .int v17, .int v18])), (qf1, .inr (2, [.ref qf1_0, .ref qf1_1, .int v1_2, .ref qf1_3, .ref qf1_4, .ref qf1_5, .ref qf1_6, .ref qf1_7, .ref qf1_8, .ref qf1_9, .ref qf1_10, .ref qf1_11, .ref qf1_12, .ref qf1_13, .ref qf1_14, .ref qf1_15, .ref qf1_16, .ref qf1_17, .ref qf1_18, .ref qf1_19, .int v1_20])), (qf1_0, .inr (9, [.ref qf1_0_0, .ref qf1_0_1, .ref qf1_0_2, .int v1_0_3, .ref qf1_0_4, .ref qf1_0_5, .ref qf1_0_6, .ref qf1_0_7, .ref qf1_0_8, .int v1_0_9, .int v1_0_10, .int v1_0_11, .int v1_0_12])), (qf1_0_2, .inl (cf1_0_2, 3001, .inl f1_0_2)), (qf1_0_0, .inl (cf1_0_0, 3001, .inl f1_0_0)), (qf1_4, .inl (cf1_4, 1740, .inl f1_4)), (qf0, .inr (9, [.ref qf0_0, .ref qf0_1, .ref qf0_2, .int v0_3, .ref qf0_4, .ref qf0_5, .ref qf0_6, .ref qf0_7, .ref qf0_8, .int v0_9, .int w0_10, .int w0_11, .int w0_12])), (qf0_1, .inl (cf0_1, 3001, .inl f0_1))] t.heap ∧ va_K (dC, dI) vwCl [(cf1_0_2, .int), (cf1_0_0, .int), (cf1_4, .int), (cf0_1, .int)] t ∧ va_D (va_A [(h0, .inr (10, [.ref qf0, .ref qf1, .ref qf2, .ref qf3, .ref qf4, .ref qf5, .ref qf6, .ref qf7, .ref qf8, .ref qf9, .int v10, .int v11, .int v12, .int v13, .int v14, .int v15, .int v16, .int v17, .int v18])), (qf1, .inr (2, [.ref qf1_0, .ref qf1_1, .int v1_2, .ref qf1_3, .ref qf1_4, .ref qf1_5, .ref qf1_6, .ref qf1_7, .ref qf1_8, .ref qf1_9, .ref qf1_10, .ref qf1_11, .ref qf1_12, .ref qf1_13, .ref qf1_14, .ref qf1_15, .ref qf1_16, .ref qf1_17, .ref qf1_18, .ref qf1_19, .int v1_20])), (qf1_0, .inr (9, [.ref qf1_0_0, .ref qf1_0_1, .ref qf1_0_2, .int v1_0_3, .ref qf1_0_4, .ref qf1_0_5, .ref qf1_0_6, .ref qf1_0_7, .ref qf1_0_8, .int v1_0_9, .int v1_0_10, .int v1_0_11, .int v1_0_12])), (qf1_0_2, .inl (cf1_0_2, 3001, .inl f1_0_2)), (qf1_0_0, .inl (cf1_0_0, 3001, .inl f1_0_0)), (qf1_4, .inl (cf1_4, 1740, .inl f1_4)), (qf0, .inr (9, [.ref qf0_0, .ref qf0_1, .ref qf0_2, .int v0_3, .ref qf0_4, .ref qf0_5, .ref qf0_6, .ref qf0_7, .ref qf0_8, .int v0_9, .int v0_10, .int v0_11, .int v0_12])), (qf0_1, .inl (cf0_1, 3001, .inl f0_1))] sz) [(h0, .inr (10, [.ref qf0, .ref qf1, .ref qf2, .ref qf3, .ref qf4, .ref qf5, .ref qf6, .ref qf7, .ref qf8, .ref qf9, .int v10, .int v11, .int v12, .int v13, .int v14, .int v15, .int v16, .int v17, .int v18])), (qf1, .inr (2, [.ref qf1_0, .ref qf1_1, .int v1_2, .ref qf1_3, .ref qf1_4, .ref qf1_5, .ref qf1_6, .ref qf1_7, .ref qf1_8, .ref qf1_9, .ref qf1_10, .ref qf1_11, .ref qf1_12, .ref qf1_13, .ref qf1_14, .ref qf1_15, .ref qf1_16, .ref qf1_17, .ref qf1_18, .ref qf1_19, .int v1_20])), (qf1_0, .inr (9, [.ref qf1_0_0, .ref qf1_0_1, .ref qf1_0_2, .int v1_0_3, .ref qf1_0_4, .ref qf1_0_5, .ref qf1_0_6, .ref qf1_0_7, .ref qf1_0_8, .int v1_0_9, .int v1_0_10, .int v1_0_11, .int v1_0_12])), (qf1_0_2, .inl (cf1_0_2, 3001, .inl f1_0_2)), (qf1_0_0, .inl (cf1_0_0, 3001, .inl f1_0_0)), (qf1_4, .inl (cf1_4, 1740, .inl f1_4)), (qf0, .inr (9, [.ref qf0_0, .ref qf0_1, .ref qf0_2, .int v0_3, .ref qf0_4, .ref qf0_5, .ref qf0_6, .ref qf0_7, .ref qf0_8, .int v0_9, .int w0_10, .int w0_11, .int w0_12])), (qf0_1, .inl (cf0_1, 3001, .inl f0_1))]) (va_A [(h0, .inr (10, [.ref qf0, .ref qf1, .ref qf2, .ref qf3, .ref qf4, .ref qf5, .ref qf6, .ref qf7, .ref qf8, .ref qf9, .int v10, .int v11, .int v12, .int v13, .int v14, .int v15, .int v16, .int v17, .int v18])), (qf1, .inr (2, [.ref qf1_0, .ref qf1_1, .int v1_2, .ref qf1_3, .ref qf1_4, .ref qf1_5, .ref qf1_6, .ref qf1_7, .ref qf1_8, .ref qf1_9, .ref qf1_10, .ref qf1_11, .ref qf1_12, .ref qf1_13, .ref qf1_14, .ref qf1_15, .ref qf1_16, .ref qf1_17, .ref qf1_18, .ref qf1_19, .int v1_20])), (qf1_0, .inr (9, [.ref qf1_0_0, .ref qf1_0_1, .ref qf1_0_2, .int v1_0_3, .ref qf1_0_4, .ref qf1_0_5, .ref qf1_0_6, .ref qf1_0_7, .ref qf1_0_8, .int v1_0_9, .int v1_0_10, .int v1_0_11, .int v1_0_12])), (qf1_0_2, .inl (cf1_0_2, 3001, .inl f1_0_2)), (qf1_0_0, .inl (cf1_0_0, 3001, .inl f1_0_0)), (qf1_4, .inl (cf1_4, 1740, .inl f1_4)), (qf0, .inr (9, [.ref qf0_0, .ref qf0_1, .ref qf0_2, .int v0_3, .ref qf0_4, .ref qf0_5, .ref qf0_6, .ref qf0_7, .ref qf0_8, .int v0_9, .int v0_10, .int v0_11, .int v0_12])), (qf0_1, .inl (cf0_1, 3001, .inl f0_1))] sz)) 0 0 (va_A [(h0, .inr (10, [.ref qf0, .ref qf1, .ref qf2, .ref qf3, .ref qf4, .ref qf5, .ref qf6, .ref qf7, .ref qf8, .ref qf9, .int v10, .int v11, .int v12, .int v13, .int v14, .int v15, .int v16, .int v17, .int v18])), (qf1, .inr (2, [.ref qf1_0, .ref qf1_1, .int v1_2, .ref qf1_3, .ref qf1_4, .ref qf1_5, .ref qf1_6, .ref qf1_7, .ref qf1_8, .ref qf1_9, .ref qf1_10, .ref qf1_11, .ref qf1_12, .ref qf1_13, .ref qf1_14, .ref qf1_15, .ref qf1_16, .ref qf1_17, .ref qf1_18, .ref qf1_19, .int v1_20])), (qf1_0, .inr (9, [.ref qf1_0_0, .ref qf1_0_1, .ref qf1_0_2, .int v1_0_3, .ref qf1_0_4, .ref qf1_0_5, .ref qf1_0_6, .ref qf1_0_7, .ref qf1_0_8, .int v1_0_9, .int v1_0_10, .int v1_0_11, .int v1_0_12])), (qf1_0_2, .inl (cf1_0_2, 3001, .inl f1_0_2)), (qf1_0_0, .inl (cf1_0_0, 3001, .inl f1_0_0)), (qf1_4, .inl (cf1_4, 1740, .inl f1_4)), (qf0, .inr (9, [.ref qf0_0, .ref qf0_1, .ref qf0_2, .int v0_3, .ref qf0_4, .ref qf0_5, .ref qf0_6, .ref qf0_7, .ref qf0_8, .int v0_9, .int v0_10, .int v0_11, .int v0_12])), (qf0_1, .inl (cf0_1, 3001, .inl f0_1))] sz) := by
  refine Met.ofW (cc := cX10_readNamedClass) (maxL := 4) (ret := (some .int)) (by decide) rfl ?_
  intro p e s m args below meth c s₁ B hml hv
  obtain ⟨rfl, hsz, hP, hK, hD0⟩ := hv
  have hx := B.exec
  have hb := B.bytes
  have hr := B.returns
  have hts := atoms_spec (ws := (.code yX10_readNamedClass cX10_readNamedClass 4 (some .int) :: VS_h4)) B.pre
  replace hts := fun w (h : w ∈ VS_h4) => hts w (List.mem_cons_of_mem _ h)
  have hown : s.vm.findClass RX10 = some m.cls := findClass_of_methodNamed B.named
  have hlocks := B.notSynchronized
  subst hsz
  have hD := hD0.self (sz := s.heap.size)
  generalize hAe : va_A [(h0, .inr (10, [.ref qf0, .ref qf1, .ref qf2, .ref qf3, .ref qf4, .ref qf5, .ref qf6, .ref qf7, .ref qf8, .ref qf9, .int v10, .int v11, .int v12, .int v13, .int v14, .int v15, .int v16, .int v17, .int v18])), (qf1, .inr (2, [.ref qf1_0, .ref qf1_1, .int v1_2, .ref qf1_3, .ref qf1_4, .ref qf1_5, .ref qf1_6, .ref qf1_7, .ref qf1_8, .ref qf1_9, .ref qf1_10, .ref qf1_11, .ref qf1_12, .ref qf1_13, .ref qf1_14, .ref qf1_15, .ref qf1_16, .ref qf1_17, .ref qf1_18, .ref qf1_19, .int v1_20])), (qf1_0, .inr (9, [.ref qf1_0_0, .ref qf1_0_1, .ref qf1_0_2, .int v1_0_3, .ref qf1_0_4, .ref qf1_0_5, .ref qf1_0_6, .ref qf1_0_7, .ref qf1_0_8, .int v1_0_9, .int v1_0_10, .int v1_0_11, .int v1_0_12])), (qf1_0_2, .inl (cf1_0_2, 3001, .inl f1_0_2)), (qf1_0_0, .inl (cf1_0_0, 3001, .inl f1_0_0)), (qf1_4, .inl (cf1_4, 1740, .inl f1_4)), (qf0, .inr (9, [.ref qf0_0, .ref qf0_1, .ref qf0_2, .int v0_3, .ref qf0_4, .ref qf0_5, .ref qf0_6, .ref qf0_7, .ref qf0_8, .int v0_9, .int v0_10, .int v0_11, .int v0_12])), (qf0_1, .inl (cf0_1, 3001, .inl f0_1))] s.heap.size = A at hD  ⊢
  have hA : ∀ q : Nat, s.heap.size ≤ q → A q := fun q h => by rw [← hAe]; exact Or.inr h
  have hP : va_P (dC, dI) vwCl [(h0, .inr (10, [.ref qf0, .ref qf1, .ref qf2, .ref qf3, .ref qf4, .ref qf5, .ref qf6, .ref qf7, .ref qf8, .ref qf9, .int v10, .int v11, .int v12, .int v13, .int v14, .int v15, .int v16, .int v17, .int v18])), (qf1, .inr (2, [.ref qf1_0, .ref qf1_1, .int v1_2, .ref qf1_3, .ref qf1_4, .ref qf1_5, .ref qf1_6, .ref qf1_7, .ref qf1_8, .ref qf1_9, .ref qf1_10, .ref qf1_11, .ref qf1_12, .ref qf1_13, .ref qf1_14, .ref qf1_15, .ref qf1_16, .ref qf1_17, .ref qf1_18, .ref qf1_19, .int v1_20])), (qf1_0, .inr (9, [.ref qf1_0_0, .ref qf1_0_1, .ref qf1_0_2, .int v1_0_3, .ref qf1_0_4, .ref qf1_0_5, .ref qf1_0_6, .ref qf1_0_7, .ref qf1_0_8, .int v1_0_9, .int v1_0_10, .int v1_0_11, .int v1_0_12])), (qf1_0_2, .inl (cf1_0_2, 3001, .inl f1_0_2)), (qf1_0_0, .inl (cf1_0_0, 3001, .inl f1_0_0)), (qf1_4, .inl (cf1_4, 1740, .inl f1_4)), (qf0, .inr (9, [.ref qf0_0, .ref qf0_1, .ref qf0_2, .int v0_3, .ref qf0_4, .ref qf0_5, .ref qf0_6, .ref qf0_7, .ref qf0_8, .int v0_9, .int v0_10, .int v0_11, .int v0_12])), (qf0_1, .inl (cf0_1, 3001, .inl f0_1))] s.heap := hP
  have hl := lv_entry ([.ref h0, .int a1, .int a2]) (n := 4) (Nat.le_of_ble_eq_true rfl)
  rw [lg_entry_eq]
  generalize (lg_sl ([.ref h0, .int a1, .int a2]) ++ List.replicate (4 - (lg_sl ([.ref h0, .int a1, .int a2])).length) Slot.unset).toArray = ls at hl ⊢
  have hl : lv_has ls 4 [(0, .ref h0), (1, .int a1), (2, .int a2)] := hl
  obtain ⟨H, hH⟩ : ∃ H : Heap, s.heap = H := ⟨_, rfl⟩
  rw [hH] at hP ⊢
  have hS : va_S A s.heap H [] := by rw [← hH]; exact va_S.rf
  obtain ⟨locs, hlo⟩ : ∃ locs : List Loc, locs = [] := ⟨_, rfl⟩
  rw [← hlo] at hS ⊢
  unfold sp_t10_readNamedClass at hsp
  refine lv_aload_n hx hb dX10_readNamedClass_0 rfl (lv_at hl 0 rfl) ?_
  refine va_get (D := (dC, dI)) (ci := 10) (v := .ref qf1) (C := RX10) (T := TX10) (N := 19) hx hb hts uV_h4_X10 hown hK hP 0 rfl rfl 1 (by decide) (hts (.fieldLink RX10 35 "ClassMill$Values" "heads" "LClassMill$Heads;") mw_h4_306) (fun _ h9 => h9) rfl dX10_readNamedClass_1 ?_
  refine lv_iload_n hx hb dX10_readNamedClass_4 rfl (lv_at hl 1 rfl) ?_
  obtain ⟨u1_0, hu_1, hsp⟩ := ox_bind hsp
  try dsimp only at hsp
  have hPc := hP.sub (ws' := [(qf1, .inr (2, [.ref qf1_0, .ref qf1_1, .int v1_2, .ref qf1_3, .ref qf1_4, .ref qf1_5, .ref qf1_6, .ref qf1_7, .ref qf1_8, .ref qf1_9, .ref qf1_10, .ref qf1_11, .ref qf1_12, .ref qf1_13, .ref qf1_14, .ref qf1_15, .ref qf1_16, .ref qf1_17, .ref qf1_18, .ref qf1_19, .int v1_20])), (qf1_0, .inr (9, [.ref qf1_0_0, .ref qf1_0_1, .ref qf1_0_2, .int v1_0_3, .ref qf1_0_4, .ref qf1_0_5, .ref qf1_0_6, .ref qf1_0_7, .ref qf1_0_8, .int v1_0_9, .int v1_0_10, .int v1_0_11, .int v1_0_12])), (qf1_0_2, .inl (cf1_0_2, 3001, .inl f1_0_2)), (qf1_0_0, .inl (cf1_0_0, 3001, .inl f1_0_0)), (qf1_4, .inl (cf1_4, 1740, .inl f1_4))]) [1, 2, 3, 4, 5] rfl
  have hDc := hD.sub (ws' := [(qf1, .inr (2, [.ref qf1_0, .ref qf1_1, .int v1_2, .ref qf1_3, .ref qf1_4, .ref qf1_5, .ref qf1_6, .ref qf1_7, .ref qf1_8, .ref qf1_9, .ref qf1_10, .ref qf1_11, .ref qf1_12, .ref qf1_13, .ref qf1_14, .ref qf1_15, .ref qf1_16, .ref qf1_17, .ref qf1_18, .ref qf1_19, .int v1_20])), (qf1_0, .inr (9, [.ref qf1_0_0, .ref qf1_0_1, .ref qf1_0_2, .int v1_0_3, .ref qf1_0_4, .ref qf1_0_5, .ref qf1_0_6, .ref qf1_0_7, .ref qf1_0_8, .int v1_0_9, .int v1_0_10, .int v1_0_11, .int v1_0_12])), (qf1_0_2, .inl (cf1_0_2, 3001, .inl f1_0_2)), (qf1_0_0, .inl (cf1_0_0, 3001, .inl f1_0_0)), (qf1_4, .inl (cf1_4, 1740, .inl f1_4))]) [1, 2, 3, 4, 5] (by decide) rfl
  have hKc := hK.sub (tys' := [(cf1_0_2, .int), (cf1_0_0, .int), (cf1_4, .int)]) [0, 1, 2] rfl
  have hFc := va_free (wc := [(qf1, .inr (2, [.ref qf1_0, .ref qf1_1, .int v1_2, .ref qf1_3, .ref qf1_4, .ref qf1_5, .ref qf1_6, .ref qf1_7, .ref qf1_8, .ref qf1_9, .ref qf1_10, .ref qf1_11, .ref qf1_12, .ref qf1_13, .ref qf1_14, .ref qf1_15, .ref qf1_16, .ref qf1_17, .ref qf1_18, .ref qf1_19, .int v1_20])), (qf1_0, .inr (9, [.ref qf1_0_0, .ref qf1_0_1, .ref qf1_0_2, .int v1_0_3, .ref qf1_0_4, .ref qf1_0_5, .ref qf1_0_6, .ref qf1_0_7, .ref qf1_0_8, .int v1_0_9, .int v1_0_10, .int v1_0_11, .int v1_0_12])), (qf1_0_2, .inl (cf1_0_2, 3001, .inl f1_0_2)), (qf1_0_0, .inl (cf1_0_0, 3001, .inl f1_0_0)), (qf1_4, .inl (cf1_4, 1740, .inl f1_4))]) hD hS hA [1, 2, 3, 4, 5] rfl
  refine va_calli (va_runV (As := [.int a1]) (rest := []) ⟨hx, hb, hml, hown, hts⟩ (t2_classAt l dC dI H.size qf1 a1 qf1_0 qf1_1 v1_2 qf1_3 qf1_4 qf1_5 qf1_6 qf1_7 qf1_8 qf1_9 qf1_10 qf1_11 qf1_12 qf1_13 qf1_14 qf1_15 qf1_16 qf1_17 qf1_18 qf1_19 v1_20 qf1_0_0 qf1_0_1 qf1_0_2 v1_0_3 qf1_0_4 qf1_0_5 qf1_0_6 qf1_0_7 qf1_0_8 v1_0_9 v1_0_10 v1_0_11 v1_0_12 cf1_0_2 f1_0_2 cf1_0_0 f1_0_0 cf1_4 f1_4 nf u1_0 hu_1) (cwV 1 hts gv_h4_69 rfl rfl rfl (by decide +kernel) ⟨Nat.le_of_ble_eq_true rfl, Nat.le_of_ble_eq_true rfl⟩) ⟨fun a U g mk q => by obtain ⟨q0, q1, qP, qK, qD⟩ := q; exact ⟨q0, q1, qP, va_K.moved (u := U) (U := U.calling g mk a) (Vm.Alike.refl U.vm) qK, qD⟩, va_recv hKc hPc (ci := 2) (q0 := 0) rfl rfl, fun U hU hW => ⟨rfl, by rw [hU], by rw [hU]; exact hPc, va_K.moved hW.alike hKc, hDc.weaken (fun _ _ _ _ => trivial)⟩⟩ rfl rfl hl.1 rfl (lv_room (Nat.le_of_ble_eq_true rfl)) dX10_readNamedClass_5 ⟨Nat.le_of_ble_eq_true rfl, Nat.le_of_ble_eq_true rfl⟩) hS (fun q _ h => hFc q h) hFc ?_
  clear hS
  intro r_1 u t H1 locs ht hvm hw hB hz1 hk1 hS
  obtain ⟨⟩ := u
  obtain ⟨hP1, hK1, hD1⟩ := hB
  rw [ht] at hP1
  have hK1 := va_K.moved hvm.symm hK1
  try dsimp only at hw
  have hPD := va_join (wr := [(h0, .inr (10, [.ref qf0, .ref qf1, .ref qf2, .ref qf3, .ref qf4, .ref qf5, .ref qf6, .ref qf7, .ref qf8, .ref qf9, .int v10, .int v11, .int v12, .int v13, .int v14, .int v15, .int v16, .int v17, .int v18])), (qf0, .inr (9, [.ref qf0_0, .ref qf0_1, .ref qf0_2, .int v0_3, .ref qf0_4, .ref qf0_5, .ref qf0_6, .ref qf0_7, .ref qf0_8, .int v0_9, .int v0_10, .int v0_11, .int v0_12])), (qf0_1, .inl (cf0_1, 3001, .inl f0_1))]) (w1 := [(qf1, .inr (2, [.ref qf1_0, .ref qf1_1, .int v1_2, .ref qf1_3, .ref qf1_4, .ref qf1_5, .ref qf1_6, .ref qf1_7, .ref qf1_8, .ref qf1_9, .ref qf1_10, .ref qf1_11, .ref qf1_12, .ref qf1_13, .ref qf1_14, .ref qf1_15, .ref qf1_16, .ref qf1_17, .ref qf1_18, .ref qf1_19, .int v1_20])), (qf1_0, .inr (9, [.ref qf1_0_0, .ref qf1_0_1, .ref qf1_0_2, .int v1_0_3, .ref qf1_0_4, .ref qf1_0_5, .ref qf1_0_6, .ref qf1_0_7, .ref qf1_0_8, .int v1_0_9, .int v1_0_10, .int v1_0_11, .int v1_0_12])), (qf1_0_2, .inl (cf1_0_2, 3001, .inl f1_0_2)), (qf1_0_0, .inl (cf1_0_0, 3001, .inl f1_0_0)), (qf1_4, .inl (cf1_4, 1740, .inl f1_4))]) hP hD [1, 2, 3, 4, 5] [0, 6, 7] rfl rfl (by decide) (by decide) hk1 hFc hP1 hD1
  clear hP hD
  obtain ⟨hP, hD⟩ := hPD
  replace hK := (hK.sub (tys' := [(cf0_1, .int)]) [3] rfl).app hK1
  clear hPc hDc hKc hFc hP1 hK1 hD1 hz1 hk1 ht hvm
  generalize H1 = H at hP hS ⊢
  replace hP : va_P (dC, dI) vwCl [(h0, .inr (10, [.ref qf0, .ref qf1, .ref qf2, .ref qf3, .ref qf4, .ref qf5, .ref qf6, .ref qf7, .ref qf8, .ref qf9, .int v10, .int v11, .int v12, .int v13, .int v14, .int v15, .int v16, .int v17, .int v18])), (qf0, .inr (9, [.ref qf0_0, .ref qf0_1, .ref qf0_2, .int v0_3, .ref qf0_4, .ref qf0_5, .ref qf0_6, .ref qf0_7, .ref qf0_8, .int v0_9, .int v0_10, .int v0_11, .int v0_12])), (qf0_1, .inl (cf0_1, 3001, .inl f0_1)), (qf1, .inr (2, [.ref qf1_0, .ref qf1_1, .int v1_2, .ref qf1_3, .ref qf1_4, .ref qf1_5, .ref qf1_6, .ref qf1_7, .ref qf1_8, .ref qf1_9, .ref qf1_10, .ref qf1_11, .ref qf1_12, .ref qf1_13, .ref qf1_14, .ref qf1_15, .ref qf1_16, .ref qf1_17, .ref qf1_18, .ref qf1_19, .int v1_20])), (qf1_0, .inr (9, [.ref qf1_0_0, .ref qf1_0_1, .ref qf1_0_2, .int v1_0_3, .ref qf1_0_4, .ref qf1_0_5, .ref qf1_0_6, .ref qf1_0_7, .ref qf1_0_8, .int v1_0_9, .int v1_0_10, .int v1_0_11, .int v1_0_12])), (qf1_0_2, .inl (cf1_0_2, 3001, .inl f1_0_2)), (qf1_0_0, .inl (cf1_0_0, 3001, .inl f1_0_0)), (qf1_4, .inl (cf1_4, 1740, .inl f1_4))] H := hP
  replace hD : va_D A [(h0, .inr (10, [.ref qf0, .ref qf1, .ref qf2, .ref qf3, .ref qf4, .ref qf5, .ref qf6, .ref qf7, .ref qf8, .ref qf9, .int v10, .int v11, .int v12, .int v13, .int v14, .int v15, .int v16, .int v17, .int v18])), (qf0, .inr (9, [.ref qf0_0, .ref qf0_1, .ref qf0_2, .int v0_3, .ref qf0_4, .ref qf0_5, .ref qf0_6, .ref qf0_7, .ref qf0_8, .int v0_9, .int v0_10, .int v0_11, .int v0_12])), (qf0_1, .inl (cf0_1, 3001, .inl f0_1)), (qf1, .inr (2, [.ref qf1_0, .ref qf1_1, .int v1_2, .ref qf1_3, .ref qf1_4, .ref qf1_5, .ref qf1_6, .ref qf1_7, .ref qf1_8, .ref qf1_9, .ref qf1_10, .ref qf1_11, .ref qf1_12, .ref qf1_13, .ref qf1_14, .ref qf1_15, .ref qf1_16, .ref qf1_17, .ref qf1_18, .ref qf1_19, .int v1_20])), (qf1_0, .inr (9, [.ref qf1_0_0, .ref qf1_0_1, .ref qf1_0_2, .int v1_0_3, .ref qf1_0_4, .ref qf1_0_5, .ref qf1_0_6, .ref qf1_0_7, .ref qf1_0_8, .int v1_0_9, .int v1_0_10, .int v1_0_11, .int v1_0_12])), (qf1_0_2, .inl (cf1_0_2, 3001, .inl f1_0_2)), (qf1_0_0, .inl (cf1_0_0, 3001, .inl f1_0_0)), (qf1_4, .inl (cf1_4, 1740, .inl f1_4))] := hD
  replace hK : va_K (dC, dI) vwCl [(cf0_1, .int), (cf1_0_2, .int), (cf1_0_0, .int), (cf1_4, .int)] s := hK
  obtain rfl := hw
  refine lv_istore_n (lv' := [(3, .int u1_0), (0, .ref h0), (1, .int a1), (2, .int a2)]) hx hb dX10_readNamedClass_8 rfl hl (by decide) rfl (fun ls hl => ?_)
  refine lv_iload_n hx hb dX10_readNamedClass_9 rfl (lv_at hl 0 rfl) ?_
  refine lv_iconst (v := (-1)) hx hb dX10_readNamedClass_10 (by decide) ?_
  refine lv_icmp_ne (tgt := 23) hx hb dX10_readNamedClass_11 (by decide) (fun c_2 => ?_) (fun c_2 => ?_)
  · rw [if_neg c_2] at hsp
    refine lv_aload_n hx hb dX10_readNamedClass_23 rfl (lv_at hl 1 rfl) ?_
    refine va_get (D := (dC, dI)) (ci := 10) (v := .ref qf0) (C := RX10) (T := TX10) (N := 19) hx hb hts uV_h4_X10 hown hK hP 0 rfl rfl 0 (by decide) (hts (.fieldLink RX10 31 "ClassMill$Values" "text" "LClassMill$Text;") mw_h4_297) (fun _ h9 => h9) rfl dX10_readNamedClass_24 ?_
    refine lv_iload_n hx hb dX10_readNamedClass_27 rfl (lv_at hl 3 rfl) ?_
    refine va_put (D := (dC, dI)) (ci := 9) (v := .int a2) (ty := .int) (C := RX9) (T := TX9) (N := 13) hx hb hts uV_h4_X9 tyX9 tyX9_ok nmX9 hown hK hP hD hS 1 rfl rfl 10 (by decide) (hts (.fieldLink RX10 72 "ClassMill$Text" "pos" "I") mw_h4_307) (fun _ h9 => h9) rfl (by decide +kernel) rfl rfl (Nat.le_of_ble_eq_true rfl) dX10_readNamedClass_28 ?_
    clear hP hD hS
    intro H locs hP hD hS
    replace hP : va_P (dC, dI) vwCl [(h0, .inr (10, [.ref qf0, .ref qf1, .ref qf2, .ref qf3, .ref qf4, .ref qf5, .ref qf6, .ref qf7, .ref qf8, .ref qf9, .int v10, .int v11, .int v12, .int v13, .int v14, .int v15, .int v16, .int v17, .int v18])), (qf0, .inr (9, [.ref qf0_0, .ref qf0_1, .ref qf0_2, .int v0_3, .ref qf0_4, .ref qf0_5, .ref qf0_6, .ref qf0_7, .ref qf0_8, .int v0_9, .int a2, .int v0_11, .int v0_12])), (qf0_1, .inl (cf0_1, 3001, .inl f0_1)), (qf1, .inr (2, [.ref qf1_0, .ref qf1_1, .int v1_2, .ref qf1_3, .ref qf1_4, .ref qf1_5, .ref qf1_6, .ref qf1_7, .ref qf1_8, .ref qf1_9, .ref qf1_10, .ref qf1_11, .ref qf1_12, .ref qf1_13, .ref qf1_14, .ref qf1_15, .ref qf1_16, .ref qf1_17, .ref qf1_18, .ref qf1_19, .int v1_20])), (qf1_0, .inr (9, [.ref qf1_0_0, .ref qf1_0_1, .ref qf1_0_2, .int v1_0_3, .ref qf1_0_4, .ref qf1_0_5, .ref qf1_0_6, .ref qf1_0_7, .ref qf1_0_8, .int v1_0_9, .int v1_0_10, .int v1_0_11, .int v1_0_12])), (qf1_0_2, .inl (cf1_0_2, 3001, .inl f1_0_2)), (qf1_0_0, .inl (cf1_0_0, 3001, .inl f1_0_0)), (qf1_4, .inl (cf1_4, 1740, .inl f1_4))] H := hP
    replace hD : va_D A [(h0, .inr (10, [.ref qf0, .ref qf1, .ref qf2, .ref qf3, .ref qf4, .ref qf5, .ref qf6, .ref qf7, .ref qf8, .ref qf9, .int v10, .int v11, .int v12, .int v13, .int v14, .int v15, .int v16, .int v17, .int v18])), (qf0, .inr (9, [.ref qf0_0, .ref qf0_1, .ref qf0_2, .int v0_3, .ref qf0_4, .ref qf0_5, .ref qf0_6, .ref qf0_7, .ref qf0_8, .int v0_9, .int a2, .int v0_11, .int v0_12])), (qf0_1, .inl (cf0_1, 3001, .inl f0_1)), (qf1, .inr (2, [.ref qf1_0, .ref qf1_1, .int v1_2, .ref qf1_3, .ref qf1_4, .ref qf1_5, .ref qf1_6, .ref qf1_7, .ref qf1_8, .ref qf1_9, .ref qf1_10, .ref qf1_11, .ref qf1_12, .ref qf1_13, .ref qf1_14, .ref qf1_15, .ref qf1_16, .ref qf1_17, .ref qf1_18, .ref qf1_19, .int v1_20])), (qf1_0, .inr (9, [.ref qf1_0_0, .ref qf1_0_1, .ref qf1_0_2, .int v1_0_3, .ref qf1_0_4, .ref qf1_0_5, .ref qf1_0_6, .ref qf1_0_7, .ref qf1_0_8, .int v1_0_9, .int v1_0_10, .int v1_0_11, .int v1_0_12])), (qf1_0_2, .inl (cf1_0_2, 3001, .inl f1_0_2)), (qf1_0_0, .inl (cf1_0_0, 3001, .inl f1_0_0)), (qf1_4, .inl (cf1_4, 1740, .inl f1_4))] := hD
    refine lv_iload_n hx hb dX10_readNamedClass_31 rfl (lv_at hl 0 rfl) ?_
    have hr0 := Option.some.inj hsp
    clear hsp
    obtain ⟨hq0, hr1⟩ := Prod.mk.inj hr0
    clear hr0
    obtain ⟨hq1, hr2⟩ := Prod.mk.inj hr1
    clear hr1
    obtain ⟨hq2, hr3⟩ := Prod.mk.inj hr2
    clear hr2
    subst hq0
    subst hq1
    subst hq2
    subst hr3
    have hP9 := hP.sub (ws' := [(h0, .inr (10, [.ref qf0, .ref qf1, .ref qf2, .ref qf3, .ref qf4, .ref qf5, .ref qf6, .ref qf7, .ref qf8, .ref qf9, .int v10, .int v11, .int v12, .int v13, .int v14, .int v15, .int v16, .int v17, .int v18])), (qf1, .inr (2, [.ref qf1_0, .ref qf1_1, .int v1_2, .ref qf1_3, .ref qf1_4, .ref qf1_5, .ref qf1_6, .ref qf1_7, .ref qf1_8, .ref qf1_9, .ref qf1_10, .ref qf1_11, .ref qf1_12, .ref qf1_13, .ref qf1_14, .ref qf1_15, .ref qf1_16, .ref qf1_17, .ref qf1_18, .ref qf1_19, .int v1_20])), (qf1_0, .inr (9, [.ref qf1_0_0, .ref qf1_0_1, .ref qf1_0_2, .int v1_0_3, .ref qf1_0_4, .ref qf1_0_5, .ref qf1_0_6, .ref qf1_0_7, .ref qf1_0_8, .int v1_0_9, .int v1_0_10, .int v1_0_11, .int v1_0_12])), (qf1_0_2, .inl (cf1_0_2, 3001, .inl f1_0_2)), (qf1_0_0, .inl (cf1_0_0, 3001, .inl f1_0_0)), (qf1_4, .inl (cf1_4, 1740, .inl f1_4)), (qf0, .inr (9, [.ref qf0_0, .ref qf0_1, .ref qf0_2, .int v0_3, .ref qf0_4, .ref qf0_5, .ref qf0_6, .ref qf0_7, .ref qf0_8, .int v0_9, .int a2, .int v0_11, .int v0_12])), (qf0_1, .inl (cf0_1, 3001, .inl f0_1))]) [0, 3, 4, 5, 6, 7, 1, 2] rfl
    have hD9 := hD.sub (ws' := [(h0, .inr (10, [.ref qf0, .ref qf1, .ref qf2, .ref qf3, .ref qf4, .ref qf5, .ref qf6, .ref qf7, .ref qf8, .ref qf9, .int v10, .int v11, .int v12, .int v13, .int v14, .int v15, .int v16, .int v17, .int v18])), (qf1, .inr (2, [.ref qf1_0, .ref qf1_1, .int v1_2, .ref qf1_3, .ref qf1_4, .ref qf1_5, .ref qf1_6, .ref qf1_7, .ref qf1_8, .ref qf1_9, .ref qf1_10, .ref qf1_11, .ref qf1_12, .ref qf1_13, .ref qf1_14, .ref qf1_15, .ref qf1_16, .ref qf1_17, .ref qf1_18, .ref qf1_19, .int v1_20])), (qf1_0, .inr (9, [.ref qf1_0_0, .ref qf1_0_1, .ref qf1_0_2, .int v1_0_3, .ref qf1_0_4, .ref qf1_0_5, .ref qf1_0_6, .ref qf1_0_7, .ref qf1_0_8, .int v1_0_9, .int v1_0_10, .int v1_0_11, .int v1_0_12])), (qf1_0_2, .inl (cf1_0_2, 3001, .inl f1_0_2)), (qf1_0_0, .inl (cf1_0_0, 3001, .inl f1_0_0)), (qf1_4, .inl (cf1_4, 1740, .inl f1_4)), (qf0, .inr (9, [.ref qf0_0, .ref qf0_1, .ref qf0_2, .int v0_3, .ref qf0_4, .ref qf0_5, .ref qf0_6, .ref qf0_7, .ref qf0_8, .int v0_9, .int a2, .int v0_11, .int v0_12])), (qf0_1, .inl (cf0_1, 3001, .inl f0_1))]) [0, 3, 4, 5, 6, 7, 1, 2] (by decide) rfl
    have hK9 := hK.sub (tys' := [(cf1_0_2, .int), (cf1_0_0, .int), (cf1_4, .int), (cf0_1, .int)]) [1, 2, 3, 0] rfl
    exact W.iret hx hb hr (fun t ht hW => ⟨⟨(u1_0), (), rfl, rfl, by rw [ht]; exact hP9, va_K.moved hW.alike hK9, hD9⟩, hS.F ht⟩) hS.2.2 dX10_readNamedClass_32
  · rw [if_pos c_2] at hsp
    refine lv_aload_n hx hb dX10_readNamedClass_14 rfl (lv_at hl 1 rfl) ?_
    refine va_get (D := (dC, dI)) (ci := 10) (v := .ref qf0) (C := RX10) (T := TX10) (N := 19) hx hb hts uV_h4_X10 hown hK hP 0 rfl rfl 0 (by decide) (hts (.fieldLink RX10 31 "ClassMill$Values" "text" "LClassMill$Text;") mw_h4_297) (fun _ h9 => h9) rfl dX10_readNamedClass_15 ?_
    refine lv_iconst (v := 5) hx hb dX10_readNamedClass_18 (by decide) ?_
    refine lv_iload_n hx hb dX10_readNamedClass_19 rfl (lv_at hl 2 rfl) ?_
    obtain ⟨⟨u2_0, u2_1⟩, hu_2, hsp⟩ := ox_bind hsp
    try dsimp only at hsp
    have hPc := hP.sub (ws' := [(qf0, .inr (9, [.ref qf0_0, .ref qf0_1, .ref qf0_2, .int v0_3, .ref qf0_4, .ref qf0_5, .ref qf0_6, .ref qf0_7, .ref qf0_8, .int v0_9, .int v0_10, .int v0_11, .int v0_12])), (qf0_1, .inl (cf0_1, 3001, .inl f0_1))]) [1, 2] rfl
    have hDc := hD.sub (ws' := [(qf0, .inr (9, [.ref qf0_0, .ref qf0_1, .ref qf0_2, .int v0_3, .ref qf0_4, .ref qf0_5, .ref qf0_6, .ref qf0_7, .ref qf0_8, .int v0_9, .int v0_10, .int v0_11, .int v0_12])), (qf0_1, .inl (cf0_1, 3001, .inl f0_1))]) [1, 2] (by decide) rfl
    have hKc := hK.sub (tys' := [(cf0_1, .int)]) [0] rfl
    have hFc := va_free (wc := [(qf0, .inr (9, [.ref qf0_0, .ref qf0_1, .ref qf0_2, .int v0_3, .ref qf0_4, .ref qf0_5, .ref qf0_6, .ref qf0_7, .ref qf0_8, .int v0_9, .int v0_10, .int v0_11, .int v0_12])), (qf0_1, .inl (cf0_1, 3001, .inl f0_1))]) hD hS hA [1, 2] rfl
    refine va_callv (va_runV (As := [.int 5, .int a1]) (rest := []) ⟨hx, hb, hml, hown, hts⟩ (t9_tell l dC dI H.size qf0 5 a1 qf0_0 qf0_1 qf0_2 v0_3 qf0_4 qf0_5 qf0_6 qf0_7 qf0_8 v0_9 v0_10 v0_11 v0_12 cf0_1 f0_1 nf u2_0 u2_1 hu_2) (cwV 2 hts gv_h4_65 rfl rfl rfl (by decide +kernel) ⟨Nat.le_of_ble_eq_true rfl, Nat.le_of_ble_eq_true rfl⟩) ⟨fun a U g mk q => by obtain ⟨q0, q1, qP, qK, qD⟩ := q; exact ⟨q0, q1, qP, va_K.moved (u := U) (U := U.calling g mk a) (Vm.Alike.refl U.vm) qK, qD⟩, va_recv hKc hPc (ci := 9) (q0 := 0) rfl rfl, fun U hU hW => ⟨rfl, by rw [hU], by rw [hU]; exact hPc, va_K.moved hW.alike hKc, hDc.weaken (fun _ _ _ _ => trivial)⟩⟩ rfl rfl hl.1 rfl (lv_room (Nat.le_of_ble_eq_true rfl)) dX10_readNamedClass_20 ⟨Nat.le_of_ble_eq_true rfl, Nat.le_of_ble_eq_true rfl⟩) hS (fun q _ h => hFc q h) hFc ?_
    clear hS
    intro u t H1 locs ht hvm hw hB hz1 hk1 hS
    obtain ⟨⟩ := u
    obtain ⟨hP1, hK1, hD1⟩ := hB
    rw [ht] at hP1
    have hK1 := va_K.moved hvm.symm hK1
    try dsimp only at hw
    have hPD := va_join (wr := [(h0, .inr (10, [.ref qf0, .ref qf1, .ref qf2, .ref qf3, .ref qf4, .ref qf5, .ref qf6, .ref qf7, .ref qf8, .ref qf9, .int v10, .int v11, .int v12, .int v13, .int v14, .int v15, .int v16, .int v17, .int v18])), (qf1, .inr (2, [.ref qf1_0, .ref qf1_1, .int v1_2, .ref qf1_3, .ref qf1_4, .ref qf1_5, .ref qf1_6, .ref qf1_7, .ref qf1_8, .ref qf1_9, .ref qf1_10, .ref qf1_11, .ref qf1_12, .ref qf1_13, .ref qf1_14, .ref qf1_15, .ref qf1_16, .ref qf1_17, .ref qf1_18, .ref qf1_19, .int v1_20])), (qf1_0, .inr (9, [.ref qf1_0_0, .ref qf1_0_1, .ref qf1_0_2, .int v1_0_3, .ref qf1_0_4, .ref qf1_0_5, .ref qf1_0_6, .ref qf1_0_7, .ref qf1_0_8, .int v1_0_9, .int v1_0_10, .int v1_0_11, .int v1_0_12])), (qf1_0_2, .inl (cf1_0_2, 3001, .inl f1_0_2)), (qf1_0_0, .inl (cf1_0_0, 3001, .inl f1_0_0)), (qf1_4, .inl (cf1_4, 1740, .inl f1_4))]) (w1 := [(qf0, .inr (9, [.ref qf0_0, .ref qf0_1, .ref qf0_2, .int v0_3, .ref qf0_4, .ref qf0_5, .ref qf0_6, .ref qf0_7, .ref qf0_8, .int v0_9, .int v0_10, .int u2_0, .int u2_1])), (qf0_1, .inl (cf0_1, 3001, .inl f0_1))]) hP hD [1, 2] [0, 3, 4, 5, 6, 7] rfl rfl (by decide) (by decide) hk1 hFc hP1 hD1
    clear hP hD
    obtain ⟨hP, hD⟩ := hPD
    replace hK := (hK.sub (tys' := [(cf1_0_2, .int), (cf1_0_0, .int), (cf1_4, .int)]) [1, 2, 3] rfl).app hK1
    clear hPc hDc hKc hFc hP1 hK1 hD1 hz1 hk1 ht hvm
    generalize H1 = H at hP hS ⊢
    replace hP : va_P (dC, dI) vwCl [(h0, .inr (10, [.ref qf0, .ref qf1, .ref qf2, .ref qf3, .ref qf4, .ref qf5, .ref qf6, .ref qf7, .ref qf8, .ref qf9, .int v10, .int v11, .int v12, .int v13, .int v14, .int v15, .int v16, .int v17, .int v18])), (qf1, .inr (2, [.ref qf1_0, .ref qf1_1, .int v1_2, .ref qf1_3, .ref qf1_4, .ref qf1_5, .ref qf1_6, .ref qf1_7, .ref qf1_8, .ref qf1_9, .ref qf1_10, .ref qf1_11, .ref qf1_12, .ref qf1_13, .ref qf1_14, .ref qf1_15, .ref qf1_16, .ref qf1_17, .ref qf1_18, .ref qf1_19, .int v1_20])), (qf1_0, .inr (9, [.ref qf1_0_0, .ref qf1_0_1, .ref qf1_0_2, .int v1_0_3, .ref qf1_0_4, .ref qf1_0_5, .ref qf1_0_6, .ref qf1_0_7, .ref qf1_0_8, .int v1_0_9, .int v1_0_10, .int v1_0_11, .int v1_0_12])), (qf1_0_2, .inl (cf1_0_2, 3001, .inl f1_0_2)), (qf1_0_0, .inl (cf1_0_0, 3001, .inl f1_0_0)), (qf1_4, .inl (cf1_4, 1740, .inl f1_4)), (qf0, .inr (9, [.ref qf0_0, .ref qf0_1, .ref qf0_2, .int v0_3, .ref qf0_4, .ref qf0_5, .ref qf0_6, .ref qf0_7, .ref qf0_8, .int v0_9, .int v0_10, .int u2_0, .int u2_1])), (qf0_1, .inl (cf0_1, 3001, .inl f0_1))] H := hP
    replace hD : va_D A [(h0, .inr (10, [.ref qf0, .ref qf1, .ref qf2, .ref qf3, .ref qf4, .ref qf5, .ref qf6, .ref qf7, .ref qf8, .ref qf9, .int v10, .int v11, .int v12, .int v13, .int v14, .int v15, .int v16, .int v17, .int v18])), (qf1, .inr (2, [.ref qf1_0, .ref qf1_1, .int v1_2, .ref qf1_3, .ref qf1_4, .ref qf1_5, .ref qf1_6, .ref qf1_7, .ref qf1_8, .ref qf1_9, .ref qf1_10, .ref qf1_11, .ref qf1_12, .ref qf1_13, .ref qf1_14, .ref qf1_15, .ref qf1_16, .ref qf1_17, .ref qf1_18, .ref qf1_19, .int v1_20])), (qf1_0, .inr (9, [.ref qf1_0_0, .ref qf1_0_1, .ref qf1_0_2, .int v1_0_3, .ref qf1_0_4, .ref qf1_0_5, .ref qf1_0_6, .ref qf1_0_7, .ref qf1_0_8, .int v1_0_9, .int v1_0_10, .int v1_0_11, .int v1_0_12])), (qf1_0_2, .inl (cf1_0_2, 3001, .inl f1_0_2)), (qf1_0_0, .inl (cf1_0_0, 3001, .inl f1_0_0)), (qf1_4, .inl (cf1_4, 1740, .inl f1_4)), (qf0, .inr (9, [.ref qf0_0, .ref qf0_1, .ref qf0_2, .int v0_3, .ref qf0_4, .ref qf0_5, .ref qf0_6, .ref qf0_7, .ref qf0_8, .int v0_9, .int v0_10, .int u2_0, .int u2_1])), (qf0_1, .inl (cf0_1, 3001, .inl f0_1))] := hD
    replace hK : va_K (dC, dI) vwCl [(cf1_0_2, .int), (cf1_0_0, .int), (cf1_4, .int), (cf0_1, .int)] s := hK
    refine lv_aload_n hx hb dX10_readNamedClass_23 rfl (lv_at hl 1 rfl) ?_
    refine va_get (D := (dC, dI)) (ci := 10) (v := .ref qf0) (C := RX10) (T := TX10) (N := 19) hx hb hts uV_h4_X10 hown hK hP 0 rfl rfl 0 (by decide) (hts (.fieldLink RX10 31 "ClassMill$Values" "text" "LClassMill$Text;") mw_h4_297) (fun _ h9 => h9) rfl dX10_readNamedClass_24 ?_
    refine lv_iload_n hx hb dX10_readNamedClass_27 rfl (lv_at hl 3 rfl) ?_
    refine va_put (D := (dC, dI)) (ci := 9) (v := .int a2) (ty := .int) (C := RX9) (T := TX9) (N := 13) hx hb hts uV_h4_X9 tyX9 tyX9_ok nmX9 hown hK hP hD hS 6 rfl rfl 10 (by decide) (hts (.fieldLink RX10 72 "ClassMill$Text" "pos" "I") mw_h4_307) (fun _ h9 => h9) rfl (by decide +kernel) rfl rfl (Nat.le_of_ble_eq_true rfl) dX10_readNamedClass_28 ?_
    clear hP hD hS
    intro H locs hP hD hS
    replace hP : va_P (dC, dI) vwCl [(h0, .inr (10, [.ref qf0, .ref qf1, .ref qf2, .ref qf3, .ref qf4, .ref qf5, .ref qf6, .ref qf7, .ref qf8, .ref qf9, .int v10, .int v11, .int v12, .int v13, .int v14, .int v15, .int v16, .int v17, .int v18])), (qf1, .inr (2, [.ref qf1_0, .ref qf1_1, .int v1_2, .ref qf1_3, .ref qf1_4, .ref qf1_5, .ref qf1_6, .ref qf1_7, .ref qf1_8, .ref qf1_9, .ref qf1_10, .ref qf1_11, .ref qf1_12, .ref qf1_13, .ref qf1_14, .ref qf1_15, .ref qf1_16, .ref qf1_17, .ref qf1_18, .ref qf1_19, .int v1_20])), (qf1_0, .inr (9, [.ref qf1_0_0, .ref qf1_0_1, .ref qf1_0_2, .int v1_0_3, .ref qf1_0_4, .ref qf1_0_5, .ref qf1_0_6, .ref qf1_0_7, .ref qf1_0_8, .int v1_0_9, .int v1_0_10, .int v1_0_11, .int v1_0_12])), (qf1_0_2, .inl (cf1_0_2, 3001, .inl f1_0_2)), (qf1_0_0, .inl (cf1_0_0, 3001, .inl f1_0_0)), (qf1_4, .inl (cf1_4, 1740, .inl f1_4)), (qf0, .inr (9, [.ref qf0_0, .ref qf0_1, .ref qf0_2, .int v0_3, .ref qf0_4, .ref qf0_5, .ref qf0_6, .ref qf0_7, .ref qf0_8, .int v0_9, .int a2, .int u2_0, .int u2_1])), (qf0_1, .inl (cf0_1, 3001, .inl f0_1))] H := hP
    replace hD : va_D A [(h0, .inr (10, [.ref qf0, .ref qf1, .ref qf2, .ref qf3, .ref qf4, .ref qf5, .ref qf6, .ref qf7, .ref qf8, .ref qf9, .int v10, .int v11, .int v12, .int v13, .int v14, .int v15, .int v16, .int v17, .int v18])), (qf1, .inr (2, [.ref qf1_0, .ref qf1_1, .int v1_2, .ref qf1_3, .ref qf1_4, .ref qf1_5, .ref qf1_6, .ref qf1_7, .ref qf1_8, .ref qf1_9, .ref qf1_10, .ref qf1_11, .ref qf1_12, .ref qf1_13, .ref qf1_14, .ref qf1_15, .ref qf1_16, .ref qf1_17, .ref qf1_18, .ref qf1_19, .int v1_20])), (qf1_0, .inr (9, [.ref qf1_0_0, .ref qf1_0_1, .ref qf1_0_2, .int v1_0_3, .ref qf1_0_4, .ref qf1_0_5, .ref qf1_0_6, .ref qf1_0_7, .ref qf1_0_8, .int v1_0_9, .int v1_0_10, .int v1_0_11, .int v1_0_12])), (qf1_0_2, .inl (cf1_0_2, 3001, .inl f1_0_2)), (qf1_0_0, .inl (cf1_0_0, 3001, .inl f1_0_0)), (qf1_4, .inl (cf1_4, 1740, .inl f1_4)), (qf0, .inr (9, [.ref qf0_0, .ref qf0_1, .ref qf0_2, .int v0_3, .ref qf0_4, .ref qf0_5, .ref qf0_6, .ref qf0_7, .ref qf0_8, .int v0_9, .int a2, .int u2_0, .int u2_1])), (qf0_1, .inl (cf0_1, 3001, .inl f0_1))] := hD
    refine lv_iload_n hx hb dX10_readNamedClass_31 rfl (lv_at hl 0 rfl) ?_
    have hr0 := Option.some.inj hsp
    clear hsp
    obtain ⟨hq0, hr1⟩ := Prod.mk.inj hr0
    clear hr0
    obtain ⟨hq1, hr2⟩ := Prod.mk.inj hr1
    clear hr1
    obtain ⟨hq2, hr3⟩ := Prod.mk.inj hr2
    clear hr2
    subst hq0
    subst hq1
    subst hq2
    subst hr3
    have hP9 := hP.sub (ws' := [(h0, .inr (10, [.ref qf0, .ref qf1, .ref qf2, .ref qf3, .ref qf4, .ref qf5, .ref qf6, .ref qf7, .ref qf8, .ref qf9, .int v10, .int v11, .int v12, .int v13, .int v14, .int v15, .int v16, .int v17, .int v18])), (qf1, .inr (2, [.ref qf1_0, .ref qf1_1, .int v1_2, .ref qf1_3, .ref qf1_4, .ref qf1_5, .ref qf1_6, .ref qf1_7, .ref qf1_8, .ref qf1_9, .ref qf1_10, .ref qf1_11, .ref qf1_12, .ref qf1_13, .ref qf1_14, .ref qf1_15, .ref qf1_16, .ref qf1_17, .ref qf1_18, .ref qf1_19, .int v1_20])), (qf1_0, .inr (9, [.ref qf1_0_0, .ref qf1_0_1, .ref qf1_0_2, .int v1_0_3, .ref qf1_0_4, .ref qf1_0_5, .ref qf1_0_6, .ref qf1_0_7, .ref qf1_0_8, .int v1_0_9, .int v1_0_10, .int v1_0_11, .int v1_0_12])), (qf1_0_2, .inl (cf1_0_2, 3001, .inl f1_0_2)), (qf1_0_0, .inl (cf1_0_0, 3001, .inl f1_0_0)), (qf1_4, .inl (cf1_4, 1740, .inl f1_4)), (qf0, .inr (9, [.ref qf0_0, .ref qf0_1, .ref qf0_2, .int v0_3, .ref qf0_4, .ref qf0_5, .ref qf0_6, .ref qf0_7, .ref qf0_8, .int v0_9, .int a2, .int u2_0, .int u2_1])), (qf0_1, .inl (cf0_1, 3001, .inl f0_1))]) [0, 1, 2, 3, 4, 5, 6, 7] rfl
    have hD9 := hD.sub (ws' := [(h0, .inr (10, [.ref qf0, .ref qf1, .ref qf2, .ref qf3, .ref qf4, .ref qf5, .ref qf6, .ref qf7, .ref qf8, .ref qf9, .int v10, .int v11, .int v12, .int v13, .int v14, .int v15, .int v16, .int v17, .int v18])), (qf1, .inr (2, [.ref qf1_0, .ref qf1_1, .int v1_2, .ref qf1_3, .ref qf1_4, .ref qf1_5, .ref qf1_6, .ref qf1_7, .ref qf1_8, .ref qf1_9, .ref qf1_10, .ref qf1_11, .ref qf1_12, .ref qf1_13, .ref qf1_14, .ref qf1_15, .ref qf1_16, .ref qf1_17, .ref qf1_18, .ref qf1_19, .int v1_20])), (qf1_0, .inr (9, [.ref qf1_0_0, .ref qf1_0_1, .ref qf1_0_2, .int v1_0_3, .ref qf1_0_4, .ref qf1_0_5, .ref qf1_0_6, .ref qf1_0_7, .ref qf1_0_8, .int v1_0_9, .int v1_0_10, .int v1_0_11, .int v1_0_12])), (qf1_0_2, .inl (cf1_0_2, 3001, .inl f1_0_2)), (qf1_0_0, .inl (cf1_0_0, 3001, .inl f1_0_0)), (qf1_4, .inl (cf1_4, 1740, .inl f1_4)), (qf0, .inr (9, [.ref qf0_0, .ref qf0_1, .ref qf0_2, .int v0_3, .ref qf0_4, .ref qf0_5, .ref qf0_6, .ref qf0_7, .ref qf0_8, .int v0_9, .int a2, .int u2_0, .int u2_1])), (qf0_1, .inl (cf0_1, 3001, .inl f0_1))]) [0, 1, 2, 3, 4, 5, 6, 7] (by decide) rfl
    have hK9 := hK.sub (tys' := [(cf1_0_2, .int), (cf1_0_0, .int), (cf1_4, .int), (cf0_1, .int)]) [0, 1, 2, 3] rfl
    exact W.iret hx hb hr (fun t ht hW => ⟨⟨(u1_0), (), rfl, rfl, by rw [ht]; exact hP9, va_K.moved hW.alike hK9, hD9⟩, hS.F ht⟩) hS.2.2 dX10_readNamedClass_32
def sp_t10_wantKinOf (nf : Nat) (a1 : Int32) (a2 : Int32) (v12 : Int32) (v0_3 : Int32) (v0_11 : Int32) (v0_12 : Int32) (f0_1 : Nat → Int32) (f2_1 : Nat → Int32) : Option (Int32 × Int32) := ((sp_t4_isReference nf v12).bind (fun p1 => (if p1 = 0 then ((sp_t10_wantType nf 0 a2 v0_3 v0_11 v0_12 f0_1).bind (fun p2 => (some (p2.1, p2.2)))) else ((sp_t4_oneFits nf v12 a1 f2_1).bind (fun p3 => (if p3 = 0 then ((sp_t10_wantType nf 0 a2 v0_3 v0_11 v0_12 f0_1).bind (fun p4 => (some (p4.1, p4.2)))) else ((sp_t10_wantType nf 1 a2 v0_3 v0_11 v0_12 f0_1).bind (fun p5 => (some (p5.1, p5.2))))))))))
