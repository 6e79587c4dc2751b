set_option maxHeartbeats 4000000 in
set_option maxRecDepth 100000 in
/-- ClassMill$Bodies.beginProgram -/
theorem t0_beginProgram (l : Launch) (dC : Nat → ClassId) (dI : Nat → Nat → Nat) (sz : Nat) (h0 : Nat) (qf0 : Nat) (qf1 : Nat) (qf2 : Nat) (qf3 : Nat) (qf4 : Nat) (qf5 : Nat) (qf6 : Nat) (v7 : Int32) (v8 : Int32) (v9 : Int32) (v10 : Int32) (qf11 : Nat) (v12 : Int32) (nf : Nat) (w7 : Int32) (hsp : sp_t0_beginProgram nf  = some w7) : Met l yX0_beginProgram (.code yX0_beginProgram cX0_beginProgram 1 none :: VS_h4) ({ frames := 0, cells := 0, slots := 0, locals := 0 }) (va_Pc [.ref h0] (fun U => U.heap.size = sz ∧ va_P (dC, dI) vwCl [(h0, .inr (0, [.ref qf0, .ref qf1, .ref qf2, .ref qf3, .ref qf4, .ref qf5, .ref qf6, .int v7, .int v8, .int v9, .int v10, .ref qf11, .int v12]))] U.heap ∧ va_K (dC, dI) vwCl [] U ∧ va_D (fun _ => True) [(h0, .inr (0, [.ref qf0, .ref qf1, .ref qf2, .ref qf3, .ref qf4, .ref qf5, .ref qf6, .int v7, .int v8, .int v9, .int v10, .ref qf11, .int v12]))])) (va_Qv (fun (u : Unit) => match u with | () => True) (fun (u : Unit) (t : State) => match u with | () => va_P (dC, dI) vwCl [(h0, .inr (0, [.ref qf0, .ref qf1, .ref qf2, .ref qf3, .ref qf4, .ref qf5, .ref qf6, .int w7, .int v8, .int v9, .int v10, .ref qf11, .int v12]))] t.heap ∧ va_K (dC, dI) vwCl [] t ∧ va_D (va_A [(h0, .inr (0, [.ref qf0, .ref qf1, .ref qf2, .ref qf3, .ref qf4, .ref qf5, .ref qf6, .int v7, .int v8, .int v9, .int v10, .ref qf11, .int v12]))] sz) [(h0, .inr (0, [.ref qf0, .ref qf1, .ref qf2, .ref qf3, .ref qf4, .ref qf5, .ref qf6, .int w7, .int v8, .int v9, .int v10, .ref qf11, .int v12]))]) (va_A [(h0, .inr (0, [.ref qf0, .ref qf1, .ref qf2, .ref qf3, .ref qf4, .ref qf5, .ref qf6, .int v7, .int v8, .int v9, .int v10, .ref qf11, .int v12]))] sz)) 0 0 (va_A [(h0, .inr (0, [.ref qf0, .ref qf1, .ref qf2, .ref qf3, .ref qf4, .ref qf5, .ref qf6, .int v7, .int v8, .int v9, .int v10, .ref qf11, .int v12]))] sz) := by
  refine Met.ofW (cc := cX0_beginProgram) (maxL := 1) (ret := none) (by decide) rfl ?_
  intro p e s m args below meth c s₁ B hml hv
  obtain ⟨rfl, hsz, hP, hK, hD0⟩ := hv
  have hx := B.exec
  have hb := B.bytes
  have hr := B.returns
  have hts := atoms_spec (ws := (.code yX0_beginProgram cX0_beginProgram 1 none :: VS_h4)) B.pre
  replace hts := fun w (h : w ∈ VS_h4) => hts w (List.mem_cons_of_mem _ h)
  have hown : s.vm.findClass RX0 = some m.cls := findClass_of_methodNamed B.named
  have hlocks := B.notSynchronized
  subst hsz
  have hD := hD0.self (sz := s.heap.size)
  generalize hAe : va_A [(h0, .inr (0, [.ref qf0, .ref qf1, .ref qf2, .ref qf3, .ref qf4, .ref qf5, .ref qf6, .int v7, .int v8, .int v9, .int v10, .ref qf11, .int v12]))] s.heap.size = A at hD  ⊢
  have hA : ∀ q : Nat, s.heap.size ≤ q → A q := fun q h => by rw [← hAe]; exact Or.inr h
  have hP : va_P (dC, dI) vwCl [(h0, .inr (0, [.ref qf0, .ref qf1, .ref qf2, .ref qf3, .ref qf4, .ref qf5, .ref qf6, .int v7, .int v8, .int v9, .int v10, .ref qf11, .int v12]))] s.heap := hP
  have hl := lv_entry ([.ref h0]) (n := 1) (Nat.le_of_ble_eq_true rfl)
  rw [lg_entry_eq]
  generalize (lg_sl ([.ref h0]) ++ List.replicate (1 - (lg_sl ([.ref h0])).length) Slot.unset).toArray = ls at hl ⊢
  have hl : lv_has ls 1 [(0, .ref h0)] := hl
  obtain ⟨H, hH⟩ : ∃ H : Heap, s.heap = H := ⟨_, rfl⟩
  rw [hH] at hP ⊢
  have hS : va_S A s.heap H [] := by rw [← hH]; exact va_S.rf
  obtain ⟨locs, hlo⟩ : ∃ locs : List Loc, locs = [] := ⟨_, rfl⟩
  rw [← hlo] at hS ⊢
  unfold sp_t0_beginProgram at hsp
  refine lv_aload_n hx hb dX0_beginProgram_0 rfl (lv_at hl 0 rfl) ?_
  refine lv_iconst (v := (-1)) hx hb dX0_beginProgram_1 (by decide) ?_
  refine va_put (D := (dC, dI)) (ci := 0) (v := .int (-1)) (ty := .int) (C := RX0) (T := TX0) (N := 13) hx hb hts uV_h4_X0 tyX0 tyX0_ok nmX0 hown hK hP hD hS 0 rfl rfl 7 (by decide) (hts (.fieldLink RX0 65 "ClassMill$Bodies" "muchAt" "I") mw_h4_394) (fun _ h9 => h9) rfl (by decide +kernel) rfl rfl (Nat.le_of_ble_eq_true rfl) dX0_beginProgram_2 ?_
  clear hP hD hS
  intro H locs hP hD hS
  replace hP : va_P (dC, dI) vwCl [(h0, .inr (0, [.ref qf0, .ref qf1, .ref qf2, .ref qf3, .ref qf4, .ref qf5, .ref qf6, .int (-1), .int v8, .int v9, .int v10, .ref qf11, .int v12]))] H := hP
  replace hD : va_D A [(h0, .inr (0, [.ref qf0, .ref qf1, .ref qf2, .ref qf3, .ref qf4, .ref qf5, .ref qf6, .int (-1), .int v8, .int v9, .int v10, .ref qf11, .int v12]))] := hD
  have hr0 := Option.some.inj hsp
  clear hsp
  subst hr0
  have hP9 := hP.sub (ws' := [(h0, .inr (0, [.ref qf0, .ref qf1, .ref qf2, .ref qf3, .ref qf4, .ref qf5, .ref qf6, .int (-1), .int v8, .int v9, .int v10, .ref qf11, .int v12]))]) [0] rfl
  have hD9 := hD.sub (ws' := [(h0, .inr (0, [.ref qf0, .ref qf1, .ref qf2, .ref qf3, .ref qf4, .ref qf5, .ref qf6, .int (-1), .int v8, .int v9, .int v10, .ref qf11, .int v12]))]) [0] (by decide) rfl
  have hK9 := hK.sub (tys' := []) [] rfl
  exact W.vret hx hb hr (fun t ht hW => ⟨⟨(), rfl, trivial, by rw [ht]; exact hP9, va_K.moved hW.alike hK9, hD9⟩, hS.F ht⟩) hS.2.2 dX0_beginProgram_5
def sp_t0_closeProgram (nf : Nat) (v7 : Int32) (v0_3 : Int32) (v0_11 : Int32) (v0_12 : Int32) (f0_1 : Nat → Int32) : Option (Int32 × Int32) := (if v7 = (-1) then (some (v0_11, v0_12)) else ((sp_t9_tell nf 11 v7 v0_3 v0_11 v0_12 f0_1).bind (fun p1 => (some (p1.1, p1.2)))))
set_option maxHeartbeats 4000000 in
set_option maxRecDepth 100000 in
/-- ClassMill$Bodies.closeProgram -/
theorem t0_closeProgram (l : Launch) (dC : Nat → ClassId) (dI : Nat → Nat → Nat) (sz : Nat) (h0 : Nat) (qf0 : Nat) (qf1 : Nat) (qf2 : Nat) (qf3 : Nat) (qf4 : Nat) (qf5 : Nat) (qf6 : Nat) (v7 : Int32) (v8 : Int32) (v9 : Int32) (v10 : Int32) (qf11 : Nat) (v12 : Int32) (qf0_0 : Nat) (qf0_1 : Nat) (qf0_2 : Nat) (v0_3 : Int32) (qf0_4 : Nat) (qf0_5 : Nat) (qf0_6 : Nat) (qf0_7 : Nat) (qf0_8 : Nat) (v0_9 : Int32) (v0_10 : Int32) (v0_11 : Int32) (v0_12 : Int32) (cf0_1 : ClassId) (f0_1 : (Nat → Int32)) (nf : Nat) (w0_11 : Int32) (w0_12 : Int32) (hsp : sp_t0_closeProgram nf v7 v0_3 v0_11 v0_12 f0_1 = some (w0_11, w0_12)) : Met l yX0_closeProgram (.code yX0_closeProgram cX0_closeProgram 1 none :: VS_h4) ({ frames := 1, cells := 0, slots := 0, locals := 22 }) (va_Pc [.ref h0] (fun U => U.heap.size = sz ∧ va_P (dC, dI) vwCl [(h0, .inr (0, [.ref qf0, .ref qf1, .ref qf2, .ref qf3, .ref qf4, .ref qf5, .ref qf6, .int v7, .int v8, .int v9, .int v10, .ref qf11, .int v12])), (qf0, .inr (9, [.ref qf0_0, .ref qf0_1, .ref qf0_2, .int v0_3, .ref qf0_4, .ref qf0_5, .ref qf0_6, .ref qf0_7, .ref qf0_8, .int v0_9, .int v0_10, .int v0_11, .int v0_12])), (qf0_1, .inl (cf0_1, 3001, .inl f0_1))] U.heap ∧ va_K (dC, dI) vwCl [(cf0_1, .int)] U ∧ va_D (fun _ => True) [(h0, .inr (0, [.ref qf0, .ref qf1, .ref qf2, .ref qf3, .ref qf4, .ref qf5, .ref qf6, .int v7, .int v8, .int v9, .int v10, .ref qf11, .int v12])), (qf0, .inr (9, [.ref qf0_0, .ref qf0_1, .ref qf0_2, .int v0_3, .ref qf0_4, .ref qf0_5, .ref qf0_6, .ref qf0_7, .ref qf0_8, .int v0_9, .int v0_10, .int v0_11, .int v0_12])), (qf0_1, .inl (cf0_1, 3001, .inl f0_1))])) (va_Qv (fun (u : Unit) => match u with | () => True) (fun (u : Unit) (t : State) => match u with | () => va_P (dC, dI) vwCl [(h0, .inr (0, [.ref qf0, .ref qf1, .ref qf2, .ref qf3, .ref qf4, .ref qf5, .ref qf6, .int v7, .int v8, .int v9, .int v10, .ref qf11, .int v12])), (qf0, .inr (9, [.ref qf0_0, .ref qf0_1, .ref qf0_2, .int v0_3, .ref qf0_4, .ref qf0_5, .ref qf0_6, .ref qf0_7, .ref qf0_8, .int v0_9, .int v0_10, .int w0_11, .int w0_12])), (qf0_1, .inl (cf0_1, 3001, .inl f0_1))] t.heap ∧ va_K (dC, dI) vwCl [(cf0_1, .int)] t ∧ va_D (va_A [(h0, .inr (0, [.ref qf0, .ref qf1, .ref qf2, .ref qf3, .ref qf4, .ref qf5, .ref qf6, .int v7, .int v8, .int v9, .int v10, .ref qf11, .int v12])), (qf0, .inr (9, [.ref qf0_0, .ref qf0_1, .ref qf0_2, .int v0_3, .ref qf0_4, .ref qf0_5, .ref qf0_6, .ref qf0_7, .ref qf0_8, .int v0_9, .int v0_10, .int v0_11, .int v0_12])), (qf0_1, .inl (cf0_1, 3001, .inl f0_1))] sz) [(h0, .inr (0, [.ref qf0, .ref qf1, .ref qf2, .ref qf3, .ref qf4, .ref qf5, .ref qf6, .int v7, .int v8, .int v9, .int v10, .ref qf11, .int v12])), (qf0, .inr (9, [.ref qf0_0, .ref qf0_1, .ref qf0_2, .int v0_3, .ref qf0_4, .ref qf0_5, .ref qf0_6, .ref qf0_7, .ref qf0_8, .int v0_9, .int v0_10, .int w0_11, .int w0_12])), (qf0_1, .inl (cf0_1, 3001, .inl f0_1))]) (va_A [(h0, .inr (0, [.ref qf0, .ref qf1, .ref qf2, .ref qf3, .ref qf4, .ref qf5, .ref qf6, .int v7, .int v8, .int v9, .int v10, .ref qf11, .int v12])), (qf0, .inr (9, [.ref qf0_0, .ref qf0_1, .ref qf0_2, .int v0_3, .ref qf0_4, .ref qf0_5, .ref qf0_6, .ref qf0_7, .ref qf0_8, .int v0_9, .int v0_10, .int v0_11, .int v0_12])), (qf0_1, .inl (cf0_1, 3001, .inl f0_1))] sz)) 0 0 (va_A [(h0, .inr (0, [.ref qf0, .ref qf1, .ref qf2, .ref qf3, .ref qf4, .ref qf5, .ref qf6, .int v7, .int v8, .int v9, .int v10, .ref qf11, .int v12])), (qf0, .inr (9, [.ref qf0_0, .ref qf0_1, .ref qf0_2, .int v0_3, .ref qf0_4, .ref qf0_5, .ref qf0_6, .ref qf0_7, .ref qf0_8, .int v0_9, .int v0_10, .int v0_11, .int v0_12])), (qf0_1, .inl (cf0_1, 3001, .inl f0_1))] sz) := by
  refine Met.ofW (cc := cX0_closeProgram) (maxL := 1) (ret := none) (by decide) rfl ?_
  intro p e s m args below meth c s₁ B hml hv
  obtain ⟨rfl, hsz, hP, hK, hD0⟩ := hv
  have hx := B.exec
  have hb := B.bytes
  have hr := B.returns
  have hts := atoms_spec (ws := (.code yX0_closeProgram cX0_closeProgram 1 none :: VS_h4)) B.pre
  replace hts := fun w (h : w ∈ VS_h4) => hts w (List.mem_cons_of_mem _ h)
  have hown : s.vm.findClass RX0 = some m.cls := findClass_of_methodNamed B.named
  have hlocks := B.notSynchronized
  subst hsz
  have hD := hD0.self (sz := s.heap.size)
  generalize hAe : va_A [(h0, .inr (0, [.ref qf0, .ref qf1, .ref qf2, .ref qf3, .ref qf4, .ref qf5, .ref qf6, .int v7, .int v8, .int v9, .int v10, .ref qf11, .int v12])), (qf0, .inr (9, [.ref qf0_0, .ref qf0_1, .ref qf0_2, .int v0_3, .ref qf0_4, .ref qf0_5, .ref qf0_6, .ref qf0_7, .ref qf0_8, .int v0_9, .int v0_10, .int v0_11, .int v0_12])), (qf0_1, .inl (cf0_1, 3001, .inl f0_1))] s.heap.size = A at hD  ⊢
  have hA : ∀ q : Nat, s.heap.size ≤ q → A q := fun q h => by rw [← hAe]; exact Or.inr h
  have hP : va_P (dC, dI) vwCl [(h0, .inr (0, [.ref qf0, .ref qf1, .ref qf2, .ref qf3, .ref qf4, .ref qf5, .ref qf6, .int v7, .int v8, .int v9, .int v10, .ref qf11, .int v12])), (qf0, .inr (9, [.ref qf0_0, .ref qf0_1, .ref qf0_2, .int v0_3, .ref qf0_4, .ref qf0_5, .ref qf0_6, .ref qf0_7, .ref qf0_8, .int v0_9, .int v0_10, .int v0_11, .int v0_12])), (qf0_1, .inl (cf0_1, 3001, .inl f0_1))] s.heap := hP
  have hl := lv_entry ([.ref h0]) (n := 1) (Nat.le_of_ble_eq_true rfl)
  rw [lg_entry_eq]
  generalize (lg_sl ([.ref h0]) ++ List.replicate (1 - (lg_sl ([.ref h0])).length) Slot.unset).toArray = ls at hl ⊢
  have hl : lv_has ls 1 [(0, .ref h0)] := hl
  obtain ⟨H, hH⟩ : ∃ H : Heap, s.heap = H := ⟨_, rfl⟩
  rw [hH] at hP ⊢
  have hS : va_S A s.heap H [] := by rw [← hH]; exact va_S.rf
  obtain ⟨locs, hlo⟩ : ∃ locs : List Loc, locs = [] := ⟨_, rfl⟩
  rw [← hlo] at hS ⊢
  unfold sp_t0_closeProgram at hsp
  refine lv_aload_n hx hb dX0_closeProgram_0 rfl (lv_at hl 0 rfl) ?_
  refine va_get (D := (dC, dI)) (ci := 0) (v := .int v7) (C := RX0) (T := TX0) (N := 13) hx hb hts uV_h4_X0 hown hK hP 0 rfl rfl 7 (by decide) (hts (.fieldLink RX0 65 "ClassMill$Bodies" "muchAt" "I") mw_h4_394) (fun _ h9 => h9) rfl dX0_closeProgram_1 ?_
  refine lv_iconst (v := (-1)) hx hb dX0_closeProgram_4 (by decide) ?_
  refine lv_icmp_eq (tgt := 21) hx hb dX0_closeProgram_5 (by decide) (fun c_1 => ?_) (fun c_1 => ?_)
  · rw [if_pos c_1] at hsp
    have hr0 := Option.some.inj hsp
    clear hsp
    obtain ⟨hq0, hr1⟩ := Prod.mk.inj hr0
    clear hr0
    subst hq0
    subst hr1
    have hP9 := hP.sub (ws' := [(h0, .inr (0, [.ref qf0, .ref qf1, .ref qf2, .ref qf3, .ref qf4, .ref qf5, .ref qf6, .int v7, .int v8, .int v9, .int v10, .ref qf11, .int v12])), (qf0, .inr (9, [.ref qf0_0, .ref qf0_1, .ref qf0_2, .int v0_3, .ref qf0_4, .ref qf0_5, .ref qf0_6, .ref qf0_7, .ref qf0_8, .int v0_9, .int v0_10, .int v0_11, .int v0_12])), (qf0_1, .inl (cf0_1, 3001, .inl f0_1))]) [0, 1, 2] rfl
    have hD9 := hD.sub (ws' := [(h0, .inr (0, [.ref qf0, .ref qf1, .ref qf2, .ref qf3, .ref qf4, .ref qf5, .ref qf6, .int v7, .int v8, .int v9, .int v10, .ref qf11, .int v12])), (qf0, .inr (9, [.ref qf0_0, .ref qf0_1, .ref qf0_2, .int v0_3, .ref qf0_4, .ref qf0_5, .ref qf0_6, .ref qf0_7, .ref qf0_8, .int v0_9, .int v0_10, .int v0_11, .int v0_12])), (qf0_1, .inl (cf0_1, 3001, .inl f0_1))]) [0, 1, 2] (by decide) rfl
    have hK9 := hK.sub (tys' := [(cf0_1, .int)]) [0] rfl
    exact W.vret hx hb hr (fun t ht hW => ⟨⟨(), rfl, trivial, by rw [ht]; exact hP9, va_K.moved hW.alike hK9, hD9⟩, hS.F ht⟩) hS.2.2 dX0_closeProgram_21
  · rw [if_neg c_1] at hsp
    refine lv_aload_n hx hb dX0_closeProgram_8 rfl (lv_at hl 0 rfl) ?_
    refine va_get (D := (dC, dI)) (ci := 0) (v := .ref qf0) (C := RX0) (T := TX0) (N := 13) hx hb hts uV_h4_X0 hown hK hP 0 rfl rfl 0 (by decide) (hts (.fieldLink RX0 34 "ClassMill$Bodies" "text" "LClassMill$Text;") mw_h4_396) (fun _ h9 => h9) rfl dX0_closeProgram_9 ?_
    refine lv_bipush (v := 11) hx hb dX0_closeProgram_12 (by decide) ?_
    refine lv_aload_n hx hb dX0_closeProgram_14 rfl (lv_at hl 0 rfl) ?_
    refine va_get (D := (dC, dI)) (ci := 0) (v := .int v7) (C := RX0) (T := TX0) (N := 13) hx hb hts uV_h4_X0 hown hK hP 0 rfl rfl 7 (by decide) (hts (.fieldLink RX0 65 "ClassMill$Bodies" "muchAt" "I") mw_h4_394) (fun _ h9 => h9) rfl dX0_closeProgram_15 ?_
    obtain ⟨⟨u1_0, u1_1⟩, hu_1, hsp⟩ := ox_bind hsp
    try dsimp only at hsp
    have hPc := hP.sub (ws' := [(qf0, .inr (9, [.ref qf0_0, .ref qf0_1, .ref qf0_2, .int v0_3, .ref qf0_4, .ref qf0_5, .ref qf0_6, .ref qf0_7, .ref qf0_8, .int v0_9, .int v0_10, .int v0_11, .int v0_12])), (qf0_1, .inl (cf0_1, 3001, .inl f0_1))]) [1, 2] rfl
    have hDc := hD.sub (ws' := [(qf0, .inr (9, [.ref qf0_0, .ref qf0_1, .ref qf0_2, .int v0_3, .ref qf0_4, .ref qf0_5, .ref qf0_6, .ref qf0_7, .ref qf0_8, .int v0_9, .int v0_10, .int v0_11, .int v0_12])), (qf0_1, .inl (cf0_1, 3001, .inl f0_1))]) [1, 2] (by decide) rfl
    have hKc := hK.sub (tys' := [(cf0_1, .int)]) [0] rfl
    have hFc := va_free (wc := [(qf0, .inr (9, [.ref qf0_0, .ref qf0_1, .ref qf0_2, .int v0_3, .ref qf0_4, .ref qf0_5, .ref qf0_6, .ref qf0_7, .ref qf0_8, .int v0_9, .int v0_10, .int v0_11, .int v0_12])), (qf0_1, .inl (cf0_1, 3001, .inl f0_1))]) hD hS hA [1, 2] rfl
    refine va_callv (va_runV (As := [.int 11, .int v7]) (rest := []) ⟨hx, hb, hml, hown, hts⟩ (t9_tell l dC dI H.size qf0 11 v7 qf0_0 qf0_1 qf0_2 v0_3 qf0_4 qf0_5 qf0_6 qf0_7 qf0_8 v0_9 v0_10 v0_11 v0_12 cf0_1 f0_1 nf u1_0 u1_1 hu_1) (cwV 2 hts gv_h4_97 rfl rfl rfl (by decide +kernel) ⟨Nat.le_of_ble_eq_true rfl, Nat.le_of_ble_eq_true rfl⟩) ⟨fun a U g mk q => by obtain ⟨q0, q1, qP, qK, qD⟩ := q; exact ⟨q0, q1, qP, va_K.moved (u := U) (U := U.calling g mk a) (Vm.Alike.refl U.vm) qK, qD⟩, va_recv hKc hPc (ci := 9) (q0 := 0) rfl rfl, fun U hU hW => ⟨rfl, by rw [hU], by rw [hU]; exact hPc, va_K.moved hW.alike hKc, hDc.weaken (fun _ _ _ _ => trivial)⟩⟩ rfl rfl hl.1 rfl (lv_room (Nat.le_of_ble_eq_true rfl)) dX0_closeProgram_18 ⟨Nat.le_of_ble_eq_true rfl, Nat.le_of_ble_eq_true rfl⟩) hS (fun q _ h => hFc q h) hFc ?_
    clear hS
    intro u t H1 locs ht hvm hw hB hz1 hk1 hS
    obtain ⟨⟩ := u
    obtain ⟨hP1, hK1, hD1⟩ := hB
    rw [ht] at hP1
    have hK1 := va_K.moved hvm.symm hK1
    try dsimp only at hw
    have hPD := va_join (wr := [(h0, .inr (0, [.ref qf0, .ref qf1, .ref qf2, .ref qf3, .ref qf4, .ref qf5, .ref qf6, .int v7, .int v8, .int v9, .int v10, .ref qf11, .int v12]))]) (w1 := [(qf0, .inr (9, [.ref qf0_0, .ref qf0_1, .ref qf0_2, .int v0_3, .ref qf0_4, .ref qf0_5, .ref qf0_6, .ref qf0_7, .ref qf0_8, .int v0_9, .int v0_10, .int u1_0, .int u1_1])), (qf0_1, .inl (cf0_1, 3001, .inl f0_1))]) hP hD [1, 2] [0] rfl rfl (by decide) (by decide) hk1 hFc hP1 hD1
    clear hP hD
    obtain ⟨hP, hD⟩ := hPD
    replace hK := (hK.sub (tys' := []) [] rfl).app hK1
    clear hPc hDc hKc hFc hP1 hK1 hD1 hz1 hk1 ht hvm
    generalize H1 = H at hP hS ⊢
    replace hP : va_P (dC, dI) vwCl [(h0, .inr (0, [.ref qf0, .ref qf1, .ref qf2, .ref qf3, .ref qf4, .ref qf5, .ref qf6, .int v7, .int v8, .int v9, .int v10, .ref qf11, .int v12])), (qf0, .inr (9, [.ref qf0_0, .ref qf0_1, .ref qf0_2, .int v0_3, .ref qf0_4, .ref qf0_5, .ref qf0_6, .ref qf0_7, .ref qf0_8, .int v0_9, .int v0_10, .int u1_0, .int u1_1])), (qf0_1, .inl (cf0_1, 3001, .inl f0_1))] H := hP
    replace hD : va_D A [(h0, .inr (0, [.ref qf0, .ref qf1, .ref qf2, .ref qf3, .ref qf4, .ref qf5, .ref qf6, .int v7, .int v8, .int v9, .int v10, .ref qf11, .int v12])), (qf0, .inr (9, [.ref qf0_0, .ref qf0_1, .ref qf0_2, .int v0_3, .ref qf0_4, .ref qf0_5, .ref qf0_6, .ref qf0_7, .ref qf0_8, .int v0_9, .int v0_10, .int u1_0, .int u1_1])), (qf0_1, .inl (cf0_1, 3001, .inl f0_1))] := hD
    replace hK : va_K (dC, dI) vwCl [(cf0_1, .int)] s := hK
    have hr0 := Option.some.inj hsp
    clear hsp
    obtain ⟨hq0, hr1⟩ := Prod.mk.inj hr0
    clear hr0
    subst hq0
    subst hr1
    have hP9 := hP.sub (ws' := [(h0, .inr (0, [.ref qf0, .ref qf1, .ref qf2, .ref qf3, .ref qf4, .ref qf5, .ref qf6, .int v7, .int v8, .int v9, .int v10, .ref qf11, .int v12])), (qf0, .inr (9, [.ref qf0_0, .ref qf0_1, .ref qf0_2, .int v0_3, .ref qf0_4, .ref qf0_5, .ref qf0_6, .ref qf0_7, .ref qf0_8, .int v0_9, .int v0_10, .int u1_0, .int u1_1])), (qf0_1, .inl (cf0_1, 3001, .inl f0_1))]) [0, 1, 2] rfl
    have hD9 := hD.sub (ws' := [(h0, .inr (0, [.ref qf0, .ref qf1, .ref qf2, .ref qf3, .ref qf4, .ref qf5, .ref qf6, .int v7, .int v8, .int v9, .int v10, .ref qf11, .int v12])), (qf0, .inr (9, [.ref qf0_0, .ref qf0_1, .ref qf0_2, .int v0_3, .ref qf0_4, .ref qf0_5, .ref qf0_6, .ref qf0_7, .ref qf0_8, .int v0_9, .int v0_10, .int u1_0, .int u1_1])), (qf0_1, .inl (cf0_1, 3001, .inl f0_1))]) [0, 1, 2] (by decide) rfl
    have hK9 := hK.sub (tys' := [(cf0_1, .int)]) [0] rfl
    exact W.vret hx hb hr (fun t ht hW => ⟨⟨(), rfl, trivial, by rw [ht]; exact hP9, va_K.moved hW.alike hK9, hD9⟩, hS.F ht⟩) hS.2.2 dX0_closeProgram_21
def sp_t0_noteMuch (nf : Nat) (a1 : Int32) (a2 : Int32) (v7 : Int32) : Option (Int32) := (if a1 = 0 then (some v7) else (if v7 = (-1) then (some a2) else (some v7)))
set_option maxHeartbeats 4000000 in
set_option maxRecDepth 100000 in
/-- ClassMill$Bodies.noteMuch -/
theorem t0_noteMuch (l : Launch) (dC : Nat → ClassId) (dI : Nat → Nat → Nat) (sz : Nat) (h0 : Nat) (a1 : Int32) (a2 : Int32) (qf0 : Nat) (qf1 : Nat) (qf2 : Nat) (qf3 : Nat) (qf4 : Nat) (qf5 : Nat) (qf6 : Nat) (v7 : Int32) (v8 : Int32) (v9 : Int32) (v10 : Int32) (qf11 : Nat) (v12 : Int32) (nf : Nat) (w7 : Int32) (hsp : sp_t0_noteMuch nf a1 a2 v7 = some w7) : Met l yX0_noteMuch (.code yX0_noteMuch cX0_noteMuch 3 none :: VS_h4) ({ frames := 0, cells := 0, slots := 0, locals := 0 }) (va_Pc [.ref h0, .int a1, .int a2] (fun U => U.heap.size = sz ∧ va_P (dC, dI) vwCl [(h0, .inr (0, [.ref qf0, .ref qf1, .ref qf2, .ref qf3, .ref qf4, .ref qf5, .ref qf6, .int v7, .int v8, .int v9, .int v10, .ref qf11, .int v12]))] U.heap ∧ va_K (dC, dI) vwCl [] U ∧ va_D (fun _ => True) [(h0, .inr (0, [.ref qf0, .ref qf1, .ref qf2, .ref qf3, .ref qf4, .ref qf5, .ref qf6, .int v7, .int v8, .int v9, .int v10, .ref qf11, .int v12]))])) (va_Qv (fun (u : Unit) => match u with | () => True) (fun (u : Unit) (t : State) => match u with | () => va_P (dC, dI) vwCl [(h0, .inr (0, [.ref qf0, .ref qf1, .ref qf2, .ref qf3, .ref qf4, .ref qf5, .ref qf6, .int w7, .int v8, .int v9, .int v10, .ref qf11, .int v12]))] t.heap ∧ va_K (dC, dI) vwCl [] t ∧ va_D (va_A [(h0, .inr (0, [.ref qf0, .ref qf1, .ref qf2, .ref qf3, .ref qf4, .ref qf5, .ref qf6, .int v7, .int v8, .int v9, .int v10, .ref qf11, .int v12]))] sz) [(h0, .inr (0, [.ref qf0, .ref qf1, .ref qf2, .ref qf3, .ref qf4, .ref qf5, .ref qf6, .int w7, .int v8, .int v9, .int v10, .ref qf11, .int v12]))]) (va_A [(h0, .inr (0, [.ref qf0, .ref qf1, .ref qf2, .ref qf3, .ref qf4, .ref qf5, .ref qf6, .int v7, .int v8, .int v9, .int v10, .ref qf11, .int v12]))] sz)) 0 0 (va_A [(h0, .inr (0, [.ref qf0, .ref qf1, .ref qf2, .ref qf3, .ref qf4, .ref qf5, .ref qf6, .int v7, .int v8, .int v9, .int v10, .ref qf11, .int v12]))] sz) := by
  refine Met.ofW (cc := cX0_noteMuch) (maxL := 3) (ret := none) (by decide) rfl ?_
  intro p e s m args below meth c s₁ B hml hv
  obtain ⟨rfl, hsz, hP, hK, hD0⟩ := hv
  have hx := B.exec
  have hb := B.bytes
  have hr := B.returns
  have hts := atoms_spec (ws := (.code yX0_noteMuch cX0_noteMuch 3 none :: VS_h4)) B.pre
  replace hts := fun w (h : w ∈ VS_h4) => hts w (List.mem_cons_of_mem _ h)
  have hown : s.vm.findClass RX0 = some m.cls := findClass_of_methodNamed B.named
  have hlocks := B.notSynchronized
  subst hsz
  have hD := hD0.self (sz := s.heap.size)
  generalize hAe : va_A [(h0, .inr (0, [.ref qf0, .ref qf1, .ref qf2, .ref qf3, .ref qf4, .ref qf5, .ref qf6, .int v7, .int v8, .int v9, .int v10, .ref qf11, .int v12]))] s.heap.size = A at hD  ⊢
  have hA : ∀ q : Nat, s.heap.size ≤ q → A q := fun q h => by rw [← hAe]; exact Or.inr h
  have hP : va_P (dC, dI) vwCl [(h0, .inr (0, [.ref qf0, .ref qf1, .ref qf2, .ref qf3, .ref qf4, .ref qf5, .ref qf6, .int v7, .int v8, .int v9, .int v10, .ref qf11, .int v12]))] s.heap := hP
  have hl := lv_entry ([.ref h0, .int a1, .int a2]) (n := 3) (Nat.le_of_ble_eq_true rfl)
  rw [lg_entry_eq]
  generalize (lg_sl ([.ref h0, .int a1, .int a2]) ++ List.replicate (3 - (lg_sl ([.ref h0, .int a1, .int a2])).length) Slot.unset).toArray = ls at hl ⊢
  have hl : lv_has ls 3 [(0, .ref h0), (1, .int a1), (2, .int a2)] := hl
  obtain ⟨H, hH⟩ : ∃ H : Heap, s.heap = H := ⟨_, rfl⟩
  rw [hH] at hP ⊢
  have hS : va_S A s.heap H [] := by rw [← hH]; exact va_S.rf
  obtain ⟨locs, hlo⟩ : ∃ locs : List Loc, locs = [] := ⟨_, rfl⟩
  rw [← hlo] at hS ⊢
  unfold sp_t0_noteMuch at hsp
  refine lv_iload_n hx hb dX0_noteMuch_0 rfl (lv_at hl 1 rfl) ?_
  refine lv_if_eq (tgt := 17) hx hb dX0_noteMuch_1 (by decide) (fun c_1 => ?_) (fun c_1 => ?_)
  · rw [if_pos c_1] at hsp
    have hr0 := Option.some.inj hsp
    clear hsp
    subst hr0
    have hP9 := hP.sub (ws' := [(h0, .inr (0, [.ref qf0, .ref qf1, .ref qf2, .ref qf3, .ref qf4, .ref qf5, .ref qf6, .int v7, .int v8, .int v9, .int v10, .ref qf11, .int v12]))]) [0] rfl
    have hD9 := hD.sub (ws' := [(h0, .inr (0, [.ref qf0, .ref qf1, .ref qf2, .ref qf3, .ref qf4, .ref qf5, .ref qf6, .int v7, .int v8, .int v9, .int v10, .ref qf11, .int v12]))]) [0] (by decide) rfl
    have hK9 := hK.sub (tys' := []) [] rfl
    exact W.vret hx hb hr (fun t ht hW => ⟨⟨(), rfl, trivial, by rw [ht]; exact hP9, va_K.moved hW.alike hK9, hD9⟩, hS.F ht⟩) hS.2.2 dX0_noteMuch_17
  · rw [if_neg c_1] at hsp
    refine lv_aload_n hx hb dX0_noteMuch_4 rfl (lv_at hl 0 rfl) ?_
    refine va_get (D := (dC, dI)) (ci := 0) (v := .int v7) (C := RX0) (T := TX0) (N := 13) hx hb hts uV_h4_X0 hown hK hP 0 rfl rfl 7 (by decide) (hts (.fieldLink RX0 65 "ClassMill$Bodies" "muchAt" "I") mw_h4_394) (fun _ h9 => h9) rfl dX0_noteMuch_5 ?_
    refine lv_iconst (v := (-1)) hx hb dX0_noteMuch_8 (by decide) ?_
    refine lv_icmp_ne (tgt := 17) hx hb dX0_noteMuch_9 (by decide) (fun c_2 => ?_) (fun c_2 => ?_)
    · rw [if_neg c_2] at hsp
      have hr0 := Option.some.inj hsp
      clear hsp
      subst hr0
      have hP9 := hP.sub (ws' := [(h0, .inr (0, [.ref qf0, .ref qf1, .ref qf2, .ref qf3, .ref qf4, .ref qf5, .ref qf6, .int v7, .int v8, .int v9, .int v10, .ref qf11, .int v12]))]) [0] rfl
      have hD9 := hD.sub (ws' := [(h0, .inr (0, [.ref qf0, .ref qf1, .ref qf2, .ref qf3, .ref qf4, .ref qf5, .ref qf6, .int v7, .int v8, .int v9, .int v10, .ref qf11, .int v12]))]) [0] (by decide) rfl
      have hK9 := hK.sub (tys' := []) [] rfl
      exact W.vret hx hb hr (fun t ht hW => ⟨⟨(), rfl, trivial, by rw [ht]; exact hP9, va_K.moved hW.alike hK9, hD9⟩, hS.F ht⟩) hS.2.2 dX0_noteMuch_17
    · rw [if_pos c_2] at hsp
      refine lv_aload_n hx hb dX0_noteMuch_12 rfl (lv_at hl 0 rfl) ?_
      refine lv_iload_n hx hb dX0_noteMuch_13 rfl (lv_at hl 2 rfl) ?_
      refine va_put (D := (dC, dI)) (ci := 0) (v := .int a2) (ty := .int) (C := RX0) (T := TX0) (N := 13) hx hb hts uV_h4_X0 tyX0 tyX0_ok nmX0 hown hK hP hD hS 0 rfl rfl 7 (by decide) (hts (.fieldLink RX0 65 "ClassMill$Bodies" "muchAt" "I") mw_h4_394) (fun _ h9 => h9) rfl (by decide +kernel) rfl rfl (Nat.le_of_ble_eq_true rfl) dX0_noteMuch_14 ?_
      clear hP hD hS
      intro H locs hP hD hS
      replace hP : va_P (dC, dI) vwCl [(h0, .inr (0, [.ref qf0, .ref qf1, .ref qf2, .ref qf3, .ref qf4, .ref qf5, .ref qf6, .int a2, .int v8, .int v9, .int v10, .ref qf11, .int v12]))] H := hP
      replace hD : va_D A [(h0, .inr (0, [.ref qf0, .ref qf1, .ref qf2, .ref qf3, .ref qf4, .ref qf5, .ref qf6, .int a2, .int v8, .int v9, .int v10, .ref qf11, .int v12]))] := hD
      have hr0 := Option.some.inj hsp
      clear hsp
      subst hr0
      have hP9 := hP.sub (ws' := [(h0, .inr (0, [.ref qf0, .ref qf1, .ref qf2, .ref qf3, .ref qf4, .ref qf5, .ref qf6, .int a2, .int v8, .int v9, .int v10, .ref qf11, .int v12]))]) [0] rfl
      have hD9 := hD.sub (ws' := [(h0, .inr (0, [.ref qf0, .ref qf1, .ref qf2, .ref qf3, .ref qf4, .ref qf5, .ref qf6, .int a2, .int v8, .int v9, .int v10, .ref qf11, .int v12]))]) [0] (by decide) rfl
      have hK9 := hK.sub (tys' := []) [] rfl
      exact W.vret hx hb hr (fun t ht hW => ⟨⟨(), rfl, trivial, by rw [ht]; exact hP9, va_K.moved hW.alike hK9, hD9⟩, hS.F ht⟩) hS.2.2 dX0_noteMuch_17
def sp_t0_beginClass (nf : Nat) (a1 : Int32) (f3_1_18 : Nat → Int32) (f3_2 : Nat → Int32) (f3_3 : Nat → Int32) (f3_6 : Nat → Int32) (f3_1_1_0 : Nat → Int32) (f3_1_5 : Nat → Int32) (f3_1_9 : Nat → Int32) (f3_1_6 : Nat → Int32) (f3_1_8 : Nat → Int32) : Option ((Nat → Int32) × (Nat → Int32) × (Nat → Int32) × Int32 × Int32 × Int32) := ((sp_t6_beginClass nf a1 f3_1_18 f3_2 f3_3 f3_6 f3_1_1_0 f3_1_5 f3_1_9 f3_1_6 f3_1_8).bind (fun p1 => (some (p1.1, p1.2.1, p1.2.2.1, p1.2.2.2.1, p1.2.2.2.2.1, p1.2.2.2.2.2))))
set_option maxHeartbeats 4000000 in
set_option maxRecDepth 100000 in
/-- ClassMill$Bodies.beginClass -/
theorem t0_beginClass (l : Launch) (dC : Nat → ClassId) (dI : Nat → Nat → Nat) (sz : Nat) (h0 : Nat) (a1 : Int32) (qf0 : Nat) (qf1 : Nat) (qf2 : Nat) (qf3 : Nat) (qf4 : Nat) (qf5 : Nat) (qf6 : Nat) (v7 : Int32) (v8 : Int32) (v9 : Int32) (v10 : Int32) (qf11 : Nat) (v12 : Int32) (qf3_0 : Nat) (qf3_1 : Nat) (qf3_2 : Nat) (qf3_3 : Nat) (v3_4 : Int32) (v3_5 : Int32) (qf3_6 : Nat) (v3_7 : Int32) (qf3_1_0 : Nat) (qf3_1_1 : Nat) (v3_1_2 : Int32) (qf3_1_3 : Nat) (qf3_1_4 : Nat) (qf3_1_5 : Nat) (qf3_1_6 : Nat) (qf3_1_7 : Nat) (qf3_1_8 : Nat) (qf3_1_9 : Nat) (qf3_1_10 : Nat) (qf3_1_11 : Nat) (qf3_1_12 : Nat) (qf3_1_13 : Nat) (qf3_1_14 : Nat) (qf3_1_15 : Nat) (qf3_1_16 : Nat) (qf3_1_17 : Nat) (qf3_1_18 : Nat) (qf3_1_19 : Nat) (v3_1_20 : Int32) (cf3_1_18 : ClassId) (f3_1_18 : (Nat → Int32)) (cf3_2 : ClassId) (f3_2 : (Nat → Int32)) (cf3_3 : ClassId) (f3_3 : (Nat → Int32)) (cf3_6 : ClassId) (f3_6 : (Nat → Int32)) (qf3_1_1_0 : Nat) (qf3_1_1_1 : Nat) (cf3_1_1_0 : ClassId) (f3_1_1_0 : (Nat → Int32)) (cf3_1_5 : ClassId) (f3_1_5 : (Nat → Int32)) (cf3_1_9 : ClassId) (f3_1_9 : (Nat → Int32)) (cf3_1_6 : ClassId) (f3_1_6 : (Nat → Int32)) (cf3_1_8 : ClassId) (f3_1_8 : (Nat → Int32)) (nf : Nat) (o3_2 : (Nat → Int32)) (o3_3 : (Nat → Int32)) (o3_6 : (Nat → Int32)) (w3_4 : Int32) (w3_5 : Int32) (w3_7 : Int32) (hsp : sp_t0_beginClass nf a1 f3_1_18 f3_2 f3_3 f3_6 f3_1_1_0 f3_1_5 f3_1_9 f3_1_6 f3_1_8 = some (o3_2, o3_3, o3_6, w3_4, w3_5, w3_7)) : Met l yX0_beginClass (.code yX0_beginClass cX0_beginClass 2 none :: VS_h4) ({ frames := 3, cells := 0, slots := 0, locals := 68 }) (va_Pc [.ref h0, .int a1] (fun U => U.heap.size = sz ∧ va_P (dC, dI) vwCl [(h0, .inr (0, [.ref qf0, .ref qf1, .ref qf2, .ref qf3, .ref qf4, .ref qf5, .ref qf6, .int v7, .int v8, .int v9, .int v10, .ref qf11, .int v12])), (qf3, .inr (6, [.ref qf3_0, .ref qf3_1, .ref qf3_2, .ref qf3_3, .int v3_4, .int v3_5, .ref qf3_6, .int v3_7])), (qf3_1, .inr (2, [.ref qf3_1_0, .ref qf3_1_1, .int v3_1_2, .ref qf3_1_3, .ref qf3_1_4, .ref qf3_1_5, .ref qf3_1_6, .ref qf3_1_7, .ref qf3_1_8, .ref qf3_1_9, .ref qf3_1_10, .ref qf3_1_11, .ref qf3_1_12, .ref qf3_1_13, .ref qf3_1_14, .ref qf3_1_15, .ref qf3_1_16, .ref qf3_1_17, .ref qf3_1_18, .ref qf3_1_19, .int v3_1_20])), (qf3_1_18, .inl (cf3_1_18, 32, .inl f3_1_18)), (qf3_2, .inl (cf3_2, 201, .inl f3_2)), (qf3_3, .inl (cf3_3, 201, .inl f3_3)), (qf3_6, .inl (cf3_6, 6000, .inl f3_6)), (qf3_1_1, .inr (4, [.ref qf3_1_1_0, .ref qf3_1_1_1])), (qf3_1_1_0, .inl (cf3_1_1_0, 16, .inl f3_1_1_0)), (qf3_1_5, .inl (cf3_1_5, 8, .inl f3_1_5)), (qf3_1_9, .inl (cf3_1_9, 8, .inl f3_1_9)), (qf3_1_6, .inl (cf3_1_6, 96, .inl f3_1_6)), (qf3_1_8, .inl (cf3_1_8, 96, .inl f3_1_8))] U.heap ∧ va_K (dC, dI) vwCl [(cf3_1_18, .int), (cf3_2, .int), (cf3_3, .int), (cf3_6, .byte), (cf3_1_1_0, .int), (cf3_1_5, .int), (cf3_1_9, .int), (cf3_1_6, .int), (cf3_1_8, .int)] U ∧ va_D (fun _ => True) [(h0, .inr (0, [.ref qf0, .ref qf1, .ref qf2, .ref qf3, .ref qf4, .ref qf5, .ref qf6, .int v7, .int v8, .int v9, .int v10, .ref qf11, .int v12])), (qf3, .inr (6, [.ref qf3_0, .ref qf3_1, .ref qf3_2, .ref qf3_3, .int v3_4, .int v3_5, .ref qf3_6, .int v3_7])), (qf3_1, .inr (2, [.ref qf3_1_0, .ref qf3_1_1, .int v3_1_2, .ref qf3_1_3, .ref qf3_1_4, .ref qf3_1_5, .ref qf3_1_6, .ref qf3_1_7, .ref qf3_1_8, .ref qf3_1_9, .ref qf3_1_10, .ref qf3_1_11, .ref qf3_1_12, .ref qf3_1_13, .ref qf3_1_14, .ref qf3_1_15, .ref qf3_1_16, .ref qf3_1_17, .ref qf3_1_18, .ref qf3_1_19, .int v3_1_20])), (qf3_1_18, .inl (cf3_1_18, 32, .inl f3_1_18)), (qf3_2, .inl (cf3_2, 201, .inl f3_2)), (qf3_3, .inl (cf3_3, 201, .inl f3_3)), (qf3_6, .inl (cf3_6, 6000, .inl f3_6)), (qf3_1_1, .inr (4, [.ref qf3_1_1_0, .ref qf3_1_1_1])), (qf3_1_1_0, .inl (cf3_1_1_0, 16, .inl f3_1_1_0)), (qf3_1_5, .inl (cf3_1_5, 8, .inl f3_1_5)), (qf3_1_9, .inl (cf3_1_9, 8, .inl f3_1_9)), (qf3_1_6, .inl (cf3_1_6, 96, .inl f3_1_6)), (qf3_1_8, .inl (cf3_1_8, 96, .inl f3_1_8))])) (va_Qv (fun (u : Unit) => match u with | () => True) (fun (u : Unit) (t : State) => match u with | () => va_P (dC, dI) vwCl [(h0, .inr (0, [.ref qf0, .ref qf1, .ref qf2, .ref qf3, .ref qf4, .ref qf5, .ref qf6, .int v7, .int v8, .int v9, .int v10, .ref qf11, .int v12])), (qf3, .inr (6, [.ref qf3_0, .ref qf3_1, .ref qf3_2, .ref qf3_3, .int w3_4, .int w3_5, .ref qf3_6, .int w3_7])), (qf3_1, .inr (2, [.ref qf3_1_0, .ref qf3_1_1, .int v3_1_2, .ref qf3_1_3, .ref qf3_1_4, .ref qf3_1_5, .ref qf3_1_6, .ref qf3_1_7, .ref qf3_1_8, .ref qf3_1_9, .ref qf3_1_10, .ref qf3_1_11, .ref qf3_1_12, .ref qf3_1_13, .ref qf3_1_14, .ref qf3_1_15, .ref qf3_1_16, .ref qf3_1_17, .ref qf3_1_18, .ref qf3_1_19, .int v3_1_20])), (qf3_1_18, .inl (cf3_1_18, 32, .inl f3_1_18)), (qf3_2, .inl (cf3_2, 201, .inl o3_2)), (qf3_3, .inl (cf3_3, 201, .inl o3_3)), (qf3_6, .inl (cf3_6, 6000, .inl o3_6)), (qf3_1_1, .inr (4, [.ref qf3_1_1_0, .ref qf3_1_1_1])), (qf3_1_1_0, .inl (cf3_1_1_0, 16, .inl f3_1_1_0)), (qf3_1_5, .inl (cf3_1_5, 8, .inl f3_1_5)), (qf3_1_9, .inl (cf3_1_9, 8, .inl f3_1_9)), (qf3_1_6, .inl (cf3_1_6, 96, .inl f3_1_6)), (qf3_1_8, .inl (cf3_1_8, 96, .inl f3_1_8))] t.heap ∧ va_K (dC, dI) vwCl [(cf3_1_18, .int), (cf3_2, .int), (cf3_3, .int), (cf3_6, .byte), (cf3_1_1_0, .int), (cf3_1_5, .int), (cf3_1_9, .int), (cf3_1_6, .int), (cf3_1_8, .int)] t ∧ va_D (va_A [(h0, .inr (0, [.ref qf0, .ref qf1, .ref qf2, .ref qf3, .ref qf4, .ref qf5, .ref qf6, .int v7, .int v8, .int v9, .int v10, .ref qf11, .int v12])), (qf3, .inr (6, [.ref qf3_0, .ref qf3_1, .ref qf3_2, .ref qf3_3, .int v3_4, .int v3_5, .ref qf3_6, .int v3_7])), (qf3_1, .inr (2, [.ref qf3_1_0, .ref qf3_1_1, .int v3_1_2, .ref qf3_1_3, .ref qf3_1_4, .ref qf3_1_5, .ref qf3_1_6, .ref qf3_1_7, .ref qf3_1_8, .ref qf3_1_9, .ref qf3_1_10, .ref qf3_1_11, .ref qf3_1_12, .ref qf3_1_13, .ref qf3_1_14, .ref qf3_1_15, .ref qf3_1_16, .ref qf3_1_17, .ref qf3_1_18, .ref qf3_1_19, .int v3_1_20])), (qf3_1_18, .inl (cf3_1_18, 32, .inl f3_1_18)), (qf3_2, .inl (cf3_2, 201, .inl f3_2)), (qf3_3, .inl (cf3_3, 201, .inl f3_3)), (qf3_6, .inl (cf3_6, 6000, .inl f3_6)), (qf3_1_1, .inr (4, [.ref qf3_1_1_0, .ref qf3_1_1_1])), (qf3_1_1_0, .inl (cf3_1_1_0, 16, .inl f3_1_1_0)), (qf3_1_5, .inl (cf3_1_5, 8, .inl f3_1_5)), (qf3_1_9, .inl (cf3_1_9, 8, .inl f3_1_9)), (qf3_1_6, .inl (cf3_1_6, 96, .inl f3_1_6)), (qf3_1_8, .inl (cf3_1_8, 96, .inl f3_1_8))] sz) [(h0, .inr (0, [.ref qf0, .ref qf1, .ref qf2, .ref qf3, .ref qf4, .ref qf5, .ref qf6, .int v7, .int v8, .int v9, .int v10, .ref qf11, .int v12])), (qf3, .inr (6, [.ref qf3_0, .ref qf3_1, .ref qf3_2, .ref qf3_3, .int w3_4, .int w3_5, .ref qf3_6, .int w3_7])), (qf3_1, .inr (2, [.ref qf3_1_0, .ref qf3_1_1, .int v3_1_2, .ref qf3_1_3, .ref qf3_1_4, .ref qf3_1_5, .ref qf3_1_6, .ref qf3_1_7, .ref qf3_1_8, .ref qf3_1_9, .ref qf3_1_10, .ref qf3_1_11, .ref qf3_1_12, .ref qf3_1_13, .ref qf3_1_14, .ref qf3_1_15, .ref qf3_1_16, .ref qf3_1_17, .ref qf3_1_18, .ref qf3_1_19, .int v3_1_20])), (qf3_1_18, .inl (cf3_1_18, 32, .inl f3_1_18)), (qf3_2, .inl (cf3_2, 201, .inl o3_2)), (qf3_3, .inl (cf3_3, 201, .inl o3_3)), (qf3_6, .inl (cf3_6, 6000, .inl o3_6)), (qf3_1_1, .inr (4, [.ref qf3_1_1_0, .ref qf3_1_1_1])), (qf3_1_1_0, .inl (cf3_1_1_0, 16, .inl f3_1_1_0)), (qf3_1_5, .inl (cf3_1_5, 8, .inl f3_1_5)), (qf3_1_9, .inl (cf3_1_9, 8, .inl f3_1_9)), (qf3_1_6, .inl (cf3_1_6, 96, .inl f3_1_6)), (qf3_1_8, .inl (cf3_1_8, 96, .inl f3_1_8))]) (va_A [(h0, .inr (0, [.ref qf0, .ref qf1, .ref qf2, .ref qf3, .ref qf4, .ref qf5, .ref qf6, .int v7, .int v8, .int v9, .int v10, .ref qf11, .int v12])), (qf3, .inr (6, [.ref qf3_0, .ref qf3_1, .ref qf3_2, .ref qf3_3, .int v3_4, .int v3_5, .ref qf3_6, .int v3_7])), (qf3_1, .inr (2, [.ref qf3_1_0, .ref qf3_1_1, .int v3_1_2, .ref qf3_1_3, .ref qf3_1_4, .ref qf3_1_5, .ref qf3_1_6, .ref qf3_1_7, .ref qf3_1_8, .ref qf3_1_9, .ref qf3_1_10, .ref qf3_1_11, .ref qf3_1_12, .ref qf3_1_13, .ref qf3_1_14, .ref qf3_1_15, .ref qf3_1_16, .ref qf3_1_17, .ref qf3_1_18, .ref qf3_1_19, .int v3_1_20])), (qf3_1_18, .inl (cf3_1_18, 32, .inl f3_1_18)), (qf3_2, .inl (cf3_2, 201, .inl f3_2)), (qf3_3, .inl (cf3_3, 201, .inl f3_3)), (qf3_6, .inl (cf3_6, 6000, .inl f3_6)), (qf3_1_1, .inr (4, [.ref qf3_1_1_0, .ref qf3_1_1_1])), (qf3_1_1_0, .inl (cf3_1_1_0, 16, .inl f3_1_1_0)), (qf3_1_5, .inl (cf3_1_5, 8, .inl f3_1_5)), (qf3_1_9, .inl (cf3_1_9, 8, .inl f3_1_9)), (qf3_1_6, .inl (cf3_1_6, 96, .inl f3_1_6)), (qf3_1_8, .inl (cf3_1_8, 96, .inl f3_1_8))] sz)) 0 0 (va_A [(h0, .inr (0, [.ref qf0, .ref qf1, .ref qf2, .ref qf3, .ref qf4, .ref qf5, .ref qf6, .int v7, .int v8, .int v9, .int v10, .ref qf11, .int v12])), (qf3, .inr (6, [.ref qf3_0, .ref qf3_1, .ref qf3_2, .ref qf3_3, .int v3_4, .int v3_5, .ref qf3_6, .int v3_7])), (qf3_1, .inr (2, [.ref qf3_1_0, .ref qf3_1_1, .int v3_1_2, .ref qf3_1_3, .ref qf3_1_4, .ref qf3_1_5, .ref qf3_1_6, .ref qf3_1_7, .ref qf3_1_8, .ref qf3_1_9, .ref qf3_1_10, .ref qf3_1_11, .ref qf3_1_12, .ref qf3_1_13, .ref qf3_1_14, .ref qf3_1_15, .ref qf3_1_16, .ref qf3_1_17, .ref qf3_1_18, .ref qf3_1_19, .int v3_1_20])), (qf3_1_18, .inl (cf3_1_18, 32, .inl f3_1_18)), (qf3_2, .inl (cf3_2, 201, .inl f3_2)), (qf3_3, .inl (cf3_3, 201, .inl f3_3)), (qf3_6, .inl (cf3_6, 6000, .inl f3_6)), (qf3_1_1, .inr (4, [.ref qf3_1_1_0, .ref qf3_1_1_1])), (qf3_1_1_0, .inl (cf3_1_1_0, 16, .inl f3_1_1_0)), (qf3_1_5, .inl (cf3_1_5, 8, .inl f3_1_5)), (qf3_1_9, .inl (cf3_1_9, 8, .inl f3_1_9)), (qf3_1_6, .inl (cf3_1_6, 96, .inl f3_1_6)), (qf3_1_8, .inl (cf3_1_8, 96, .inl f3_1_8))] sz) := by
  refine Met.ofW (cc := cX0_beginClass) (maxL := 2) (ret := none) (by decide) rfl ?_
  intro p e s m args below meth c s₁ B hml hv
  obtain ⟨rfl, hsz, hP, hK, hD0⟩ := hv
  have hx := B.exec
  have hb := B.bytes
  have hr := B.returns
  have hts := atoms_spec (ws := (.code yX0_beginClass cX0_beginClass 2 none :: VS_h4)) B.pre
  replace hts := fun w (h : w ∈ VS_h4) => hts w (List.mem_cons_of_mem _ h)
  have hown : s.vm.findClass RX0 = some m.cls := findClass_of_methodNamed B.named
  have hlocks := B.notSynchronized
  subst hsz
  have hD := hD0.self (sz := s.heap.size)
  generalize hAe : va_A [(h0, .inr (0, [.ref qf0, .ref qf1, .ref qf2, .ref qf3, .ref qf4, .ref qf5, .ref qf6, .int v7, .int v8, .int v9, .int v10, .ref qf11, .int v12])), (qf3, .inr (6, [.ref qf3_0, .ref qf3_1, .ref qf3_2, .ref qf3_3, .int v3_4, .int v3_5, .ref qf3_6, .int v3_7])), (qf3_1, .inr (2, [.ref qf3_1_0, .ref qf3_1_1, .int v3_1_2, .ref qf3_1_3, .ref qf3_1_4, .ref qf3_1_5, .ref qf3_1_6, .ref qf3_1_7, .ref qf3_1_8, .ref qf3_1_9, .ref qf3_1_10, .ref qf3_1_11, .ref qf3_1_12, .ref qf3_1_13, .ref qf3_1_14, .ref qf3_1_15, .ref qf3_1_16, .ref qf3_1_17, .ref qf3_1_18, .ref qf3_1_19, .int v3_1_20])), (qf3_1_18, .inl (cf3_1_18, 32, .inl f3_1_18)), (qf3_2, .inl (cf3_2, 201, .inl f3_2)), (qf3_3, .inl (cf3_3, 201, .inl f3_3)), (qf3_6, .inl (cf3_6, 6000, .inl f3_6)), (qf3_1_1, .inr (4, [.ref qf3_1_1_0, .ref qf3_1_1_1])), (qf3_1_1_0, .inl (cf3_1_1_0, 16, .inl f3_1_1_0)), (qf3_1_5, .inl (cf3_1_5, 8, .inl f3_1_5)), (qf3_1_9, .inl (cf3_1_9, 8, .inl f3_1_9)), (qf3_1_6, .inl (cf3_1_6, 96, .inl f3_1_6)), (qf3_1_8, .inl (cf3_1_8, 96, .inl f3_1_8))] s.heap.size = A at hD  ⊢
  have hA : ∀ q : Nat, s.heap.size ≤ q → A q := fun q h => by rw [← hAe]; exact Or.inr h
  have hP : va_P (dC, dI) vwCl [(h0, .inr (0, [.ref qf0, .ref qf1, .ref qf2, .ref qf3, .ref qf4, .ref qf5, .ref qf6, .int v7, .int v8, .int v9, .int v10, .ref qf11, .int v12])), (qf3, .inr (6, [.ref qf3_0, .ref qf3_1, .ref qf3_2, .ref qf3_3, .int v3_4, .int v3_5, .ref qf3_6, .int v3_7])), (qf3_1, .inr (2, [.ref qf3_1_0, .ref qf3_1_1, .int v3_1_2, .ref qf3_1_3, .ref qf3_1_4, .ref qf3_1_5, .ref qf3_1_6, .ref qf3_1_7, .ref qf3_1_8, .ref qf3_1_9, .ref qf3_1_10, .ref qf3_1_11, .ref qf3_1_12, .ref qf3_1_13, .ref qf3_1_14, .ref qf3_1_15, .ref qf3_1_16, .ref qf3_1_17, .ref qf3_1_18, .ref qf3_1_19, .int v3_1_20])), (qf3_1_18, .inl (cf3_1_18, 32, .inl f3_1_18)), (qf3_2, .inl (cf3_2, 201, .inl f3_2)), (qf3_3, .inl (cf3_3, 201, .inl f3_3)), (qf3_6, .inl (cf3_6, 6000, .inl f3_6)), (qf3_1_1, .inr (4, [.ref qf3_1_1_0, .ref qf3_1_1_1])), (qf3_1_1_0, .inl (cf3_1_1_0, 16, .inl f3_1_1_0)), (qf3_1_5, .inl (cf3_1_5, 8, .inl f3_1_5)), (qf3_1_9, .inl (cf3_1_9, 8, .inl f3_1_9)), (qf3_1_6, .inl (cf3_1_6, 96, .inl f3_1_6)), (qf3_1_8, .inl (cf3_1_8, 96, .inl f3_1_8))] s.heap := hP
  have hl := lv_entry ([.ref h0, .int a1]) (n := 2) (Nat.le_of_ble_eq_true rfl)
  rw [lg_entry_eq]
  generalize (lg_sl ([.ref h0, .int a1]) ++ List.replicate (2 - (lg_sl ([.ref h0, .int a1])).length) Slot.unset).toArray = ls at hl ⊢
  have hl : lv_has ls 2 [(0, .ref h0), (1, .int a1)] := hl
  obtain ⟨H, hH⟩ : ∃ H : Heap, s.heap = H := ⟨_, rfl⟩
  rw [hH] at hP ⊢
  have hS : va_S A s.heap H [] := by rw [← hH]; exact va_S.rf
  obtain ⟨locs, hlo⟩ : ∃ locs : List Loc, locs = [] := ⟨_, rfl⟩
  rw [← hlo] at hS ⊢
  unfold sp_t0_beginClass at hsp
  refine lv_aload_n hx hb dX0_beginClass_0 rfl (lv_at hl 0 rfl) ?_
  refine va_get (D := (dC, dI)) (ci := 0) (v := .ref qf3) (C := RX0) (T := TX0) (N := 13) hx hb hts uV_h4_X0 hown hK hP 0 rfl rfl 3 (by decide) (hts (.fieldLink RX0 52 "ClassMill$Bodies" "pool" "LClassMill$Pool;") mw_h4_401) (fun _ h9 => h9) rfl dX0_beginClass_1 ?_
  refine lv_iload_n hx hb dX0_beginClass_4 rfl (lv_at hl 1 rfl) ?_
  obtain ⟨⟨g901_0, g901_1, g901_2, u1_3, u1_4, u1_5⟩, hu_1, hsp⟩ := ox_bind hsp
  try dsimp only at hsp
  have hPc := hP.sub (ws' := [(qf3, .inr (6, [.ref qf3_0, .ref qf3_1, .ref qf3_2, .ref qf3_3, .int v3_4, .int v3_5, .ref qf3_6, .int v3_7])), (qf3_1, .inr (2, [.ref qf3_1_0, .ref qf3_1_1, .int v3_1_2, .ref qf3_1_3, .ref qf3_1_4, .ref qf3_1_5, .ref qf3_1_6, .ref qf3_1_7, .ref qf3_1_8, .ref qf3_1_9, .ref qf3_1_10, .ref qf3_1_11, .ref qf3_1_12, .ref qf3_1_13, .ref qf3_1_14, .ref qf3_1_15, .ref qf3_1_16, .ref qf3_1_17, .ref qf3_1_18, .ref qf3_1_19, .int v3_1_20])), (qf3_1_18, .inl (cf3_1_18, 32, .inl f3_1_18)), (qf3_2, .inl (cf3_2, 201, .inl f3_2)), (qf3_3, .inl (cf3_3, 201, .inl f3_3)), (qf3_6, .inl (cf3_6, 6000, .inl f3_6)), (qf3_1_1, .inr (4, [.ref qf3_1_1_0, .ref qf3_1_1_1])), (qf3_1_1_0, .inl (cf3_1_1_0, 16, .inl f3_1_1_0)), (qf3_1_5, .inl (cf3_1_5, 8, .inl f3_1_5)), (qf3_1_9, .inl (cf3_1_9, 8, .inl f3_1_9)), (qf3_1_6, .inl (cf3_1_6, 96, .inl f3_1_6)), (qf3_1_8, .inl (cf3_1_8, 96, .inl f3_1_8))]) [1, 2, 3, 4, 5, 6, 7, 8, 9, 10, 11, 12] rfl
  have hDc := hD.sub (ws' := [(qf3, .inr (6, [.ref qf3_0, .ref qf3_1, .ref qf3_2, .ref qf3_3, .int v3_4, .int v3_5, .ref qf3_6, .int v3_7])), (qf3_1, .inr (2, [.ref qf3_1_0, .ref qf3_1_1, .int v3_1_2, .ref qf3_1_3, .ref qf3_1_4, .ref qf3_1_5, .ref qf3_1_6, .ref qf3_1_7, .ref qf3_1_8, .ref qf3_1_9, .ref qf3_1_10, .ref qf3_1_11, .ref qf3_1_12, .ref qf3_1_13, .ref qf3_1_14, .ref qf3_1_15, .ref qf3_1_16, .ref qf3_1_17, .ref qf3_1_18, .ref qf3_1_19, .int v3_1_20])), (qf3_1_18, .inl (cf3_1_18, 32, .inl f3_1_18)), (qf3_2, .inl (cf3_2, 201, .inl f3_2)), (qf3_3, .inl (cf3_3, 201, .inl f3_3)), (qf3_6, .inl (cf3_6, 6000, .inl f3_6)), (qf3_1_1, .inr (4, [.ref qf3_1_1_0, .ref qf3_1_1_1])), (qf3_1_1_0, .inl (cf3_1_1_0, 16, .inl f3_1_1_0)), (qf3_1_5, .inl (cf3_1_5, 8, .inl f3_1_5)), (qf3_1_9, .inl (cf3_1_9, 8, .inl f3_1_9)), (qf3_1_6, .inl (cf3_1_6, 96, .inl f3_1_6)), (qf3_1_8, .inl (cf3_1_8, 96, .inl f3_1_8))]) [1, 2, 3, 4, 5, 6, 7, 8, 9, 10, 11, 12] (by decide) rfl
  have hKc := hK.sub (tys' := [(cf3_1_18, .int), (cf3_2, .int), (cf3_3, .int), (cf3_6, .byte), (cf3_1_1_0, .int), (cf3_1_5, .int), (cf3_1_9, .int), (cf3_1_6, .int), (cf3_1_8, .int)]) [0, 1, 2, 3, 4, 5, 6, 7, 8] rfl
  have hFc := va_free (wc := [(qf3, .inr (6, [.ref qf3_0, .ref qf3_1, .ref qf3_2, .ref qf3_3, .int v3_4, .int v3_5, .ref qf3_6, .int v3_7])), (qf3_1, .inr (2, [.ref qf3_1_0, .ref qf3_1_1, .int v3_1_2, .ref qf3_1_3, .ref qf3_1_4, .ref qf3_1_5, .ref qf3_1_6, .ref qf3_1_7, .ref qf3_1_8, .ref qf3_1_9, .ref qf3_1_10, .ref qf3_1_11, .ref qf3_1_12, .ref qf3_1_13, .ref qf3_1_14, .ref qf3_1_15, .ref qf3_1_16, .ref qf3_1_17, .ref qf3_1_18, .ref qf3_1_19, .int v3_1_20])), (qf3_1_18, .inl (cf3_1_18, 32, .inl f3_1_18)), (qf3_2, .inl (cf3_2, 201, .inl f3_2)), (qf3_3, .inl (cf3_3, 201, .inl f3_3)), (qf3_6, .inl (cf3_6, 6000, .inl f3_6)), (qf3_1_1, .inr (4, [.ref qf3_1_1_0, .ref qf3_1_1_1])), (qf3_1_1_0, .inl (cf3_1_1_0, 16, .inl f3_1_1_0)), (qf3_1_5, .inl (cf3_1_5, 8, .inl f3_1_5)), (qf3_1_9, .inl (cf3_1_9, 8, .inl f3_1_9)), (qf3_1_6, .inl (cf3_1_6, 96, .inl f3_1_6)), (qf3_1_8, .inl (cf3_1_8, 96, .inl f3_1_8))]) hD hS hA [1, 2, 3, 4, 5, 6, 7, 8, 9, 10, 11, 12] rfl
  refine va_callv (va_runV (As := [.int a1]) (rest := []) ⟨hx, hb, hml, hown, hts⟩ (t6_beginClass l dC dI H.size qf3 a1 qf3_0 qf3_1 qf3_2 qf3_3 v3_4 v3_5 qf3_6 v3_7 qf3_1_0 qf3_1_1 v3_1_2 qf3_1_3 qf3_1_4 qf3_1_5 qf3_1_6 qf3_1_7 qf3_1_8 qf3_1_9 qf3_1_10 qf3_1_11 qf3_1_12 qf3_1_13 qf3_1_14 qf3_1_15 qf3_1_16 qf3_1_17 qf3_1_18 qf3_1_19 v3_1_20 cf3_1_18 f3_1_18 cf3_2 f3_2 cf3_3 f3_3 cf3_6 f3_6 qf3_1_1_0 qf3_1_1_1 cf3_1_1_0 f3_1_1_0 cf3_1_5 f3_1_5 cf3_1_9 f3_1_9 cf3_1_6 f3_1_6 cf3_1_8 f3_1_8 nf g901_0 g901_1 g901_2 u1_3 u1_4 u1_5 hu_1) (cwV 1 hts gv_h4_98 rfl rfl rfl (by decide +kernel) ⟨Nat.le_of_ble_eq_true rfl, Nat.le_of_ble_eq_true rfl⟩) ⟨fun a U g mk q => by obtain ⟨q0, q1, qP, qK, qD⟩ := q; exact ⟨q0, q1, qP, va_K.moved (u := U) (U := U.calling g mk a) (Vm.Alike.refl U.vm) qK, qD⟩, va_recv hKc hPc (ci := 6) (q0 := 0) rfl rfl, fun U hU hW => ⟨rfl, by rw [hU], by rw [hU]; exact hPc, va_K.moved hW.alike hKc, hDc.weaken (fun _ _ _ _ => trivial)⟩⟩ rfl rfl hl.1 rfl (lv_room (Nat.le_of_ble_eq_true rfl)) dX0_beginClass_5 ⟨Nat.le_of_ble_eq_true rfl, Nat.le_of_ble_eq_true rfl⟩) hS (fun q _ h => hFc q h) hFc ?_
  clear hS
  intro u t H1 locs ht hvm hw hB hz1 hk1 hS
  obtain ⟨⟩ := u
  obtain ⟨hP1, hK1, hD1⟩ := hB
  rw [ht] at hP1
  have hK1 := va_K.moved hvm.symm hK1
  try dsimp only at hw
  have hPD := va_join (wr := [(h0, .inr (0, [.ref qf0, .ref qf1, .ref qf2, .ref qf3, .ref qf4, .ref qf5, .ref qf6, .int v7, .int v8, .int v9, .int v10, .ref qf11, .int v12]))]) (w1 := [(qf3, .inr (6, [.ref qf3_0, .ref qf3_1, .ref qf3_2, .ref qf3_3, .int u1_3, .int u1_4, .ref qf3_6, .int u1_5])), (qf3_1, .inr (2, [.ref qf3_1_0, .ref qf3_1_1, .int v3_1_2, .ref qf3_1_3, .ref qf3_1_4, .ref qf3_1_5, .ref qf3_1_6, .ref qf3_1_7, .ref qf3_1_8, .ref qf3_1_9, .ref qf3_1_10, .ref qf3_1_11, .ref qf3_1_12, .ref qf3_1_13, .ref qf3_1_14, .ref qf3_1_15, .ref qf3_1_16, .ref qf3_1_17, .ref qf3_1_18, .ref qf3_1_19, .int v3_1_20])), (qf3_1_18, .inl (cf3_1_18, 32, .inl f3_1_18)), (qf3_2, .inl (cf3_2, 201, .inl g901_0)), (qf3_3, .inl (cf3_3, 201, .inl g901_1)), (qf3_6, .inl (cf3_6, 6000, .inl g901_2)), (qf3_1_1, .inr (4, [.ref qf3_1_1_0, .ref qf3_1_1_1])), (qf3_1_1_0, .inl (cf3_1_1_0, 16, .inl f3_1_1_0)), (qf3_1_5, .inl (cf3_1_5, 8, .inl f3_1_5)), (qf3_1_9, .inl (cf3_1_9, 8, .inl f3_1_9)), (qf3_1_6, .inl (cf3_1_6, 96, .inl f3_1_6)), (qf3_1_8, .inl (cf3_1_8, 96, .inl f3_1_8))]) hP hD [1, 2, 3, 4, 5, 6, 7, 8, 9, 10, 11, 12] [0] rfl rfl (by decide) (by decide) hk1 hFc hP1 hD1
  clear hP hD
  obtain ⟨hP, hD⟩ := hPD
  replace hK := (hK.sub (tys' := []) [] rfl).app hK1
  clear hPc hDc hKc hFc hP1 hK1 hD1 hz1 hk1 ht hvm
  generalize H1 = H at hP hS ⊢
  replace hP : va_P (dC, dI) vwCl [(h0, .inr (0, [.ref qf0, .ref qf1, .ref qf2, .ref qf3, .ref qf4, .ref qf5, .ref qf6, .int v7, .int v8, .int v9, .int v10, .ref qf11, .int v12])), (qf3, .inr (6, [.ref qf3_0, .ref qf3_1, .ref qf3_2, .ref qf3_3, .int u1_3, .int u1_4, .ref qf3_6, .int u1_5])), (qf3_1, .inr (2, [.ref qf3_1_0, .ref qf3_1_1, .int v3_1_2, .ref qf3_1_3, .ref qf3_1_4, .ref qf3_1_5, .ref qf3_1_6, .ref qf3_1_7, .ref qf3_1_8, .ref qf3_1_9, .ref qf3_1_10, .ref qf3_1_11, .ref qf3_1_12, .ref qf3_1_13, .ref qf3_1_14, .ref qf3_1_15, .ref qf3_1_16, .ref qf3_1_17, .ref qf3_1_18, .ref qf3_1_19, .int v3_1_20])), (qf3_1_18, .inl (cf3_1_18, 32, .inl f3_1_18)), (qf3_2, .inl (cf3_2, 201, .inl g901_0)), (qf3_3, .inl (cf3_3, 201, .inl g901_1)), (qf3_6, .inl (cf3_6, 6000, .inl g901_2)), (qf3_1_1, .inr (4, [.ref qf3_1_1_0, .ref qf3_1_1_1])), (qf3_1_1_0, .inl (cf3_1_1_0, 16, .inl f3_1_1_0)), (qf3_1_5, .inl (cf3_1_5, 8, .inl f3_1_5)), (qf3_1_9, .inl (cf3_1_9, 8, .inl f3_1_9)), (qf3_1_6, .inl (cf3_1_6, 96, .inl f3_1_6)), (qf3_1_8, .inl (cf3_1_8, 96, .inl f3_1_8))] H := hP
  replace hD : va_D A [(h0, .inr (0, [.ref qf0, .ref qf1, .ref qf2, .ref qf3, .ref qf4, .ref qf5, .ref qf6, .int v7, .int v8, .int v9, .int v10, .ref qf11, .int v12])), (qf3, .inr (6, [.ref qf3_0, .ref qf3_1, .ref qf3_2, .ref qf3_3, .int u1_3, .int u1_4, .ref qf3_6, .int u1_5])), (qf3_1, .inr (2, [.ref qf3_1_0, .ref qf3_1_1, .int v3_1_2, .ref qf3_1_3, .ref qf3_1_4, .ref qf3_1_5, .ref qf3_1_6, .ref qf3_1_7, .ref qf3_1_8, .ref qf3_1_9, .ref qf3_1_10, .ref qf3_1_11, .ref qf3_1_12, .ref qf3_1_13, .ref qf3_1_14, .ref qf3_1_15, .ref qf3_1_16, .ref qf3_1_17, .ref qf3_1_18, .ref qf3_1_19, .int v3_1_20])), (qf3_1_18, .inl (cf3_1_18, 32, .inl f3_1_18)), (qf3_2, .inl (cf3_2, 201, .inl g901_0)), (qf3_3, .inl (cf3_3, 201, .inl g901_1)), (qf3_6, .inl (cf3_6, 6000, .inl g901_2)), (qf3_1_1, .inr (4, [.ref qf3_1_1_0, .ref qf3_1_1_1])), (qf3_1_1_0, .inl (cf3_1_1_0, 16, .inl f3_1_1_0)), (qf3_1_5, .inl (cf3_1_5, 8, .inl f3_1_5)), (qf3_1_9, .inl (cf3_1_9, 8, .inl f3_1_9)), (qf3_1_6, .inl (cf3_1_6, 96, .inl f3_1_6)), (qf3_1_8, .inl (cf3_1_8, 96, .inl f3_1_8))] := hD
  replace hK : va_K (dC, dI) vwCl [(cf3_1_18, .int), (cf3_2, .int), (cf3_3, .int), (cf3_6, .byte), (cf3_1_1_0, .int), (cf3_1_5, .int), (cf3_1_9, .int), (cf3_1_6, .int), (cf3_1_8, .int)] s := hK
  have hr0 := Option.some.inj hsp
  clear hsp
  obtain ⟨hq0, hr1⟩ := Prod.mk.inj hr0
  clear hr0
  obtain ⟨hq1, hr2⟩ := Prod.mk.inj hr1
  clear hr1
  obtain ⟨hq2, hr3⟩ := Prod.mk.inj hr2
  clear hr2
  obtain ⟨hq3, hr4⟩ := Prod.mk.inj hr3
  clear hr3
  obtain ⟨hq4, hr5⟩ := Prod.mk.inj hr4
  clear hr4
  subst hq0
  subst hq1
  subst hq2
  subst hq3
  subst hq4
  subst hr5
  have hP9 := hP.sub (ws' := [(h0, .inr (0, [.ref qf0, .ref qf1, .ref qf2, .ref qf3, .ref qf4, .ref qf5, .ref qf6, .int v7, .int v8, .int v9, .int v10, .ref qf11, .int v12])), (qf3, .inr (6, [.ref qf3_0, .ref qf3_1, .ref qf3_2, .ref qf3_3, .int u1_3, .int u1_4, .ref qf3_6, .int u1_5])), (qf3_1, .inr (2, [.ref qf3_1_0, .ref qf3_1_1, .int v3_1_2, .ref qf3_1_3, .ref qf3_1_4, .ref qf3_1_5, .ref qf3_1_6, .ref qf3_1_7, .ref qf3_1_8, .ref qf3_1_9, .ref qf3_1_10, .ref qf3_1_11, .ref qf3_1_12, .ref qf3_1_13, .ref qf3_1_14, .ref qf3_1_15, .ref qf3_1_16, .ref qf3_1_17, .ref qf3_1_18, .ref qf3_1_19, .int v3_1_20])), (qf3_1_18, .inl (cf3_1_18, 32, .inl f3_1_18)), (qf3_2, .inl (cf3_2, 201, .inl g901_0)), (qf3_3, .inl (cf3_3, 201, .inl g901_1)), (qf3_6, .inl (cf3_6, 6000, .inl g901_2)), (qf3_1_1, .inr (4, [.ref qf3_1_1_0, .ref qf3_1_1_1])), (qf3_1_1_0, .inl (cf3_1_1_0, 16, .inl f3_1_1_0)), (qf3_1_5, .inl (cf3_1_5, 8, .inl f3_1_5)), (qf3_1_9, .inl (cf3_1_9, 8, .inl f3_1_9)), (qf3_1_6, .inl (cf3_1_6, 96, .inl f3_1_6)), (qf3_1_8, .inl (cf3_1_8, 96, .inl f3_1_8))]) [0, 1, 2, 3, 4, 5, 6, 7, 8, 9, 10, 11, 12] rfl
  have hD9 := hD.sub (ws' := [(h0, .inr (0, [.ref qf0, .ref qf1, .ref qf2, .ref qf3, .ref qf4, .ref qf5, .ref qf6, .int v7, .int v8, .int v9, .int v10, .ref qf11, .int v12])), (qf3, .inr (6, [.ref qf3_0, .ref qf3_1, .ref qf3_2, .ref qf3_3, .int u1_3, .int u1_4, .ref qf3_6, .int u1_5])), (qf3_1, .inr (2, [.ref qf3_1_0, .ref qf3_1_1, .int v3_1_2, .ref qf3_1_3, .ref qf3_1_4, .ref qf3_1_5, .ref qf3_1_6, .ref qf3_1_7, .ref qf3_1_8, .ref qf3_1_9, .ref qf3_1_10, .ref qf3_1_11, .ref qf3_1_12, .ref qf3_1_13, .ref qf3_1_14, .ref qf3_1_15, .ref qf3_1_16, .ref qf3_1_17, .ref qf3_1_18, .ref qf3_1_19, .int v3_1_20])), (qf3_1_18, .inl (cf3_1_18, 32, .inl f3_1_18)), (qf3_2, .inl (cf3_2, 201, .inl g901_0)), (qf3_3, .inl (cf3_3, 201, .inl g901_1)), (qf3_6, .inl (cf3_6, 6000, .inl g901_2)), (qf3_1_1, .inr (4, [.ref qf3_1_1_0, .ref qf3_1_1_1])), (qf3_1_1_0, .inl (cf3_1_1_0, 16, .inl f3_1_1_0)), (qf3_1_5, .inl (cf3_1_5, 8, .inl f3_1_5)), (qf3_1_9, .inl (cf3_1_9, 8, .inl f3_1_9)), (qf3_1_6, .inl (cf3_1_6, 96, .inl f3_1_6)), (qf3_1_8, .inl (cf3_1_8, 96, .inl f3_1_8))]) [0, 1, 2, 3, 4, 5, 6, 7, 8, 9, 10, 11, 12] (by decide) rfl
  have hK9 := hK.sub (tys' := [(cf3_1_18, .int), (cf3_2, .int), (cf3_3, .int), (cf3_6, .byte), (cf3_1_1_0, .int), (cf3_1_5, .int), (cf3_1_9, .int), (cf3_1_6, .int), (cf3_1_8, .int)]) [0, 1, 2, 3, 4, 5, 6, 7, 8] rfl
  exact W.vret hx hb hr (fun t ht hW => ⟨⟨(), rfl, trivial, by rw [ht]; exact hP9, va_K.moved hW.alike hK9, hD9⟩, hS.F ht⟩) hS.2.2 dX0_beginClass_8
def sp_t0_checkTwice (nf : Nat) (a1 : Int32) (v0_3 : Int32) (v0_11 : Int32) (v0_12 : Int32) (f0_2 : Nat → Int32) (v4_7 : Int32) (f4_5 : Nat → Int32) (f0_1 : Nat → Int32) : Option (Int32 × Int32) := ((sp_t9_valueAt nf a1 v0_3 f0_2).bind (fun p1 => ((sp_t1_localOf nf p1 v4_7 f4_5).bind (fun p2 => (if p2 = (-1) then (some (v0_11, v0_12)) else ((sp_t9_tell nf 4 a1 v0_3 v0_11 v0_12 f0_1).bind (fun p3 => (some (p3.1, p3.2)))))))))
set_option maxHeartbeats 4000000 in
set_option maxRecDepth 100000 in
/-- ClassMill$Bodies.checkTwice -/
theorem t0_checkTwice (l : Launch) (dC : Nat → ClassId) (dI : Nat → Nat → Nat) (sz : Nat) (h0 : Nat) (a1 : Int32) (qf0 : Nat) (qf1 : Nat) (qf2 : Nat) (qf3 : Nat) (qf4 : Nat) (qf5 : Nat) (qf6 : Nat) (v7 : Int32) (v8 : Int32) (v9 : Int32) (v10 : Int32) (qf11 : Nat) (v12 : Int32) (qf0_0 : Nat) (qf0_1 : Nat) (qf0_2 : Nat) (v0_3 : Int32) (qf0_4 : Nat) (qf0_5 : Nat) (qf0_6 : Nat) (qf0_7 : Nat) (qf0_8 : Nat) (v0_9 : Int32) (v0_10 : Int32) (v0_11 : Int32) (v0_12 : Int32) (cf0_2 : ClassId) (f0_2 : (Nat → Int32)) (qf4_0 : Nat) (v4_1 : Int32) (qf4_2 : Nat) (v4_3 : Int32) (v4_4 : Int32) (qf4_5 : Nat) (qf4_6 : Nat) (v4_7 : Int32) (v4_8 : Int32) (qf4_9 : Nat) (v4_10 : Int32) (qf4_11 : Nat) (qf4_12 : Nat) (qf4_13 : Nat) (v4_14 : Int32) (v4_15 : Int32) (cf4_5 : ClassId) (f4_5 : (Nat → Int32)) (cf0_1 : ClassId) (f0_1 : (Nat → Int32)) (nf : Nat) (w0_11 : Int32) (w0_12 : Int32) (hsp : sp_t0_checkTwice nf a1 v0_3 v0_11 v0_12 f0_2 v4_7 f4_5 f0_1 = some (w0_11, w0_12)) : Met l yX0_checkTwice (.code yX0_checkTwice cX0_checkTwice 2 none :: VS_h4) ({ frames := 2, cells := 0, slots := 0, locals := 35 }) (va_Pc [.ref h0, .int a1] (fun U => U.heap.size = sz ∧ va_P (dC, dI) vwCl [(h0, .inr (0, [.ref qf0, .ref qf1, .ref qf2, .ref qf3, .ref qf4, .ref qf5, .ref qf6, .int v7, .int v8, .int v9, .int v10, .ref qf11, .int v12])), (qf0, .inr (9, [.ref qf0_0, .ref qf0_1, .ref qf0_2, .int v0_3, .ref qf0_4, .ref qf0_5, .ref qf0_6, .ref qf0_7, .ref qf0_8, .int v0_9, .int v0_10, .int v0_11, .int v0_12])), (qf0_2, .inl (cf0_2, 3001, .inl f0_2)), (qf4, .inr (1, [.ref qf4_0, .int v4_1, .ref qf4_2, .int v4_3, .int v4_4, .ref qf4_5, .ref qf4_6, .int v4_7, .int v4_8, .ref qf4_9, .int v4_10, .ref qf4_11, .ref qf4_12, .ref qf4_13, .int v4_14, .int v4_15])), (qf4_5, .inl (cf4_5, 750, .inl f4_5)), (qf0_1, .inl (cf0_1, 3001, .inl f0_1))] U.heap ∧ va_K (dC, dI) vwCl [(cf0_2, .int), (cf4_5, .int), (cf0_1, .int)] U ∧ va_D (fun _ => True) [(h0, .inr (0, [.ref qf0, .ref qf1, .ref qf2, .ref qf3, .ref qf4, .ref qf5, .ref qf6, .int v7, .int v8, .int v9, .int v10, .ref qf11, .int v12])), (qf0, .inr (9, [.ref qf0_0, .ref qf0_1, .ref qf0_2, .int v0_3, .ref qf0_4, .ref qf0_5, .ref qf0_6, .ref qf0_7, .ref qf0_8, .int v0_9, .int v0_10, .int v0_11, .int v0_12])), (qf0_2, .inl (cf0_2, 3001, .inl f0_2)), (qf4, .inr (1, [.ref qf4_0, .int v4_1, .ref qf4_2, .int v4_3, .int v4_4, .ref qf4_5, .ref qf4_6, .int v4_7, .int v4_8, .ref qf4_9, .int v4_10, .ref qf4_11, .ref qf4_12, .ref qf4_13, .int v4_14, .int v4_15])), (qf4_5, .inl (cf4_5, 750, .inl f4_5)), (qf0_1, .inl (cf0_1, 3001, .inl f0_1))])) (va_Qv (fun (u : Unit) => match u with | () => True) (fun (u : Unit) (t : State) => match u with | () => va_P (dC, dI) vwCl [(h0, .inr (0, [.ref qf0, .ref qf1, .ref qf2, .ref qf3, .ref qf4, .ref qf5, .ref qf6, .int v7, .int v8, .int v9, .int v10, .ref qf11, .int v12])), (qf0, .inr (9, [.ref qf0_0, .ref qf0_1, .ref qf0_2, .int v0_3, .ref qf0_4, .ref qf0_5, .ref qf0_6, .ref qf0_7, .ref qf0_8, .int v0_9, .int v0_10, .int w0_11, .int w0_12])), (qf0_2, .inl (cf0_2, 3001, .inl f0_2)), (qf4, .inr (1, [.ref qf4_0, .int v4_1, .ref qf4_2, .int v4_3, .int v4_4, .ref qf4_5, .ref qf4_6, .int v4_7, .int v4_8, .ref qf4_9, .int v4_10, .ref qf4_11, .ref qf4_12, .ref qf4_13, .int v4_14, .int v4_15])), (qf4_5, .inl (cf4_5, 750, .inl f4_5)), (qf0_1, .inl (cf0_1, 3001, .inl f0_1))] t.heap ∧ va_K (dC, dI) vwCl [(cf0_2, .int), (cf4_5, .int), (cf0_1, .int)] t ∧ va_D (va_A [(h0, .inr (0, [.ref qf0, .ref qf1, .ref qf2, .ref qf3, .ref qf4, .ref qf5, .ref qf6, .int v7, .int v8, .int v9, .int v10, .ref qf11, .int v12])), (qf0, .inr (9, [.ref qf0_0, .ref qf0_1, .ref qf0_2, .int v0_3, .ref qf0_4, .ref qf0_5, .ref qf0_6, .ref qf0_7, .ref qf0_8, .int v0_9, .int v0_10, .int v0_11, .int v0_12])), (qf0_2, .inl (cf0_2, 3001, .inl f0_2)), (qf4, .inr (1, [.ref qf4_0, .int v4_1, .ref qf4_2, .int v4_3, .int v4_4, .ref qf4_5, .ref qf4_6, .int v4_7, .int v4_8, .ref qf4_9, .int v4_10, .ref qf4_11, .ref qf4_12, .ref qf4_13, .int v4_14, .int v4_15])), (qf4_5, .inl (cf4_5, 750, .inl f4_5)), (qf0_1, .inl (cf0_1, 3001, .inl f0_1))] sz) [(h0, .inr (0, [.ref qf0, .ref qf1, .ref qf2, .ref qf3, .ref qf4, .ref qf5, .ref qf6, .int v7, .int v8, .int v9, .int v10, .ref qf11, .int v12])), (qf0, .inr (9, [.ref qf0_0, .ref qf0_1, .ref qf0_2, .int v0_3, .ref qf0_4, .ref qf0_5, .ref qf0_6, .ref qf0_7, .ref qf0_8, .int v0_9, .int v0_10, .int w0_11, .int w0_12])), (qf0_2, .inl (cf0_2, 3001, .inl f0_2)), (qf4, .inr (1, [.ref qf4_0, .int v4_1, .ref qf4_2, .int v4_3, .int v4_4, .ref qf4_5, .ref qf4_6, .int v4_7, .int v4_8, .ref qf4_9, .int v4_10, .ref qf4_11, .ref qf4_12, .ref qf4_13, .int v4_14, .int v4_15])), (qf4_5, .inl (cf4_5, 750, .inl f4_5)), (qf0_1, .inl (cf0_1, 3001, .inl f0_1))]) (va_A [(h0, .inr (0, [.ref qf0, .ref qf1, .ref qf2, .ref qf3, .ref qf4, .ref qf5, .ref qf6, .int v7, .int v8, .int v9, .int v10, .ref qf11, .int v12])), (qf0, .inr (9, [.ref qf0_0, .ref qf0_1, .ref qf0_2, .int v0_3, .ref qf0_4, .ref qf0_5, .ref qf0_6, .ref qf0_7, .ref qf0_8, .int v0_9, .int v0_10, .int v0_11, .int v0_12])), (qf0_2, .inl (cf0_2, 3001, .inl f0_2)), (qf4, .inr (1, [.ref qf4_0, .int v4_1, .ref qf4_2, .int v4_3, .int v4_4, .ref qf4_5, .ref qf4_6, .int v4_7, .int v4_8, .ref qf4_9, .int v4_10, .ref qf4_11, .ref qf4_12, .ref qf4_13, .int v4_14, .int v4_15])), (qf4_5, .inl (cf4_5, 750, .inl f4_5)), (qf0_1, .inl (cf0_1, 3001, .inl f0_1))] sz)) 0 0 (va_A [(h0, .inr (0, [.ref qf0, .ref qf1, .ref qf2, .ref qf3, .ref qf4, .ref qf5, .ref qf6, .int v7, .int v8, .int v9, .int v10, .ref qf11, .int v12])), (qf0, .inr (9, [.ref qf0_0, .ref qf0_1, .ref qf0_2, .int v0_3, .ref qf0_4, .ref qf0_5, .ref qf0_6, .ref qf0_7, .ref qf0_8, .int v0_9, .int v0_10, .int v0_11, .int v0_12])), (qf0_2, .inl (cf0_2, 3001, .inl f0_2)), (qf4, .inr (1, [.ref qf4_0, .int v4_1, .ref qf4_2, .int v4_3, .int v4_4, .ref qf4_5, .ref qf4_6, .int v4_7, .int v4_8, .ref qf4_9, .int v4_10, .ref qf4_11, .ref qf4_12, .ref qf4_13, .int v4_14, .int v4_15])), (qf4_5, .inl (cf4_5, 750, .inl f4_5)), (qf0_1, .inl (cf0_1, 3001, .inl f0_1))] sz) := by
  refine Met.ofW (cc := cX0_checkTwice) (maxL := 2) (ret := none) (by decide) rfl ?_
  intro p e s m args below meth c s₁ B hml hv
  obtain ⟨rfl, hsz, hP, hK, hD0⟩ := hv
  have hx := B.exec
  have hb := B.bytes
  have hr := B.returns
  have hts := atoms_spec (ws := (.code yX0_checkTwice cX0_checkTwice 2 none :: VS_h4)) B.pre
  replace hts := fun w (h : w ∈ VS_h4) => hts w (List.mem_cons_of_mem _ h)
  have hown : s.vm.findClass RX0 = some m.cls := findClass_of_methodNamed B.named
  have hlocks := B.notSynchronized
  subst hsz
  have hD := hD0.self (sz := s.heap.size)
  generalize hAe : va_A [(h0, .inr (0, [.ref qf0, .ref qf1, .ref qf2, .ref qf3, .ref qf4, .ref qf5, .ref qf6, .int v7, .int v8, .int v9, .int v10, .ref qf11, .int v12])), (qf0, .inr (9, [.ref qf0_0, .ref qf0_1, .ref qf0_2, .int v0_3, .ref qf0_4, .ref qf0_5, .ref qf0_6, .ref qf0_7, .ref qf0_8, .int v0_9, .int v0_10, .int v0_11, .int v0_12])), (qf0_2, .inl (cf0_2, 3001, .inl f0_2)), (qf4, .inr (1, [.ref qf4_0, .int v4_1, .ref qf4_2, .int v4_3, .int v4_4, .ref qf4_5, .ref qf4_6, .int v4_7, .int v4_8, .ref qf4_9, .int v4_10, .ref qf4_11, .ref qf4_12, .ref qf4_13, .int v4_14, .int v4_15])), (qf4_5, .inl (cf4_5, 750, .inl f4_5)), (qf0_1, .inl (cf0_1, 3001, .inl f0_1))] s.heap.size = A at hD  ⊢
  have hA : ∀ q : Nat, s.heap.size ≤ q → A q := fun q h => by rw [← hAe]; exact Or.inr h
  have hP : va_P (dC, dI) vwCl [(h0, .inr (0, [.ref qf0, .ref qf1, .ref qf2, .ref qf3, .ref qf4, .ref qf5, .ref qf6, .int v7, .int v8, .int v9, .int v10, .ref qf11, .int v12])), (qf0, .inr (9, [.ref qf0_0, .ref qf0_1, .ref qf0_2, .int v0_3, .ref qf0_4, .ref qf0_5, .ref qf0_6, .ref qf0_7, .ref qf0_8, .int v0_9, .int v0_10, .int v0_11, .int v0_12])), (qf0_2, .inl (cf0_2, 3001, .inl f0_2)), (qf4, .inr (1, [.ref qf4_0, .int v4_1, .ref qf4_2, .int v4_3, .int v4_4, .ref qf4_5, .ref qf4_6, .int v4_7, .int v4_8, .ref qf4_9, .int v4_10, .ref qf4_11, .ref qf4_12, .ref qf4_13, .int v4_14, .int v4_15])), (qf4_5, .inl (cf4_5, 750, .inl f4_5)), (qf0_1, .inl (cf0_1, 3001, .inl f0_1))] s.heap := hP
  have hl := lv_entry ([.ref h0, .int a1]) (n := 2) (Nat.le_of_ble_eq_true rfl)
  rw [lg_entry_eq]
  generalize (lg_sl ([.ref h0, .int a1]) ++ List.replicate (2 - (lg_sl ([.ref h0, .int a1])).length) Slot.unset).toArray = ls at hl ⊢
  have hl : lv_has ls 2 [(0, .ref h0), (1, .int a1)] := hl
  obtain ⟨H, hH⟩ : ∃ H : Heap, s.heap = H := ⟨_, rfl⟩
  rw [hH] at hP ⊢
  have hS : va_S A s.heap H [] := by rw [← hH]; exact va_S.rf
  obtain ⟨locs, hlo⟩ : ∃ locs : List Loc, locs = [] := ⟨_, rfl⟩
  rw [← hlo] at hS ⊢
  unfold sp_t0_checkTwice at hsp
  refine lv_aload_n hx hb dX0_checkTwice_0 rfl (lv_at hl 0 rfl) ?_
  refine va_get (D := (dC, dI)) (ci := 0) (v := .ref qf4) (C := RX0) (T := TX0) (N := 13) hx hb hts uV_h4_X0 hown hK hP 0 rfl rfl 4 (by decide) (hts (.fieldLink RX0 16 "ClassMill$Bodies" "code" "LClassMill$Code;") mw_h4_444) (fun _ h9 => h9) rfl dX0_checkTwice_1 ?_
  refine lv_aload_n hx hb dX0_checkTwice_4 rfl (lv_at hl 0 rfl) ?_
  refine va_get (D := (dC, dI)) (ci := 0) (v := .ref qf0) (C := RX0) (T := TX0) (N := 13) hx hb hts uV_h4_X0 hown hK hP 0 rfl rfl 0 (by decide) (hts (.fieldLink RX0 34 "ClassMill$Bodies" "text" "LClassMill$Text;") mw_h4_396) (fun _ h9 => h9) rfl dX0_checkTwice_5 ?_
  refine lv_iload_n hx hb dX0_checkTwice_8 rfl (lv_at hl 1 rfl) ?_
  obtain ⟨u1_0, hu_1, hsp⟩ := ox_bind hsp
  try dsimp only at hsp
  have hPc := hP.sub (ws' := [(qf0, .inr (9, [.ref qf0_0, .ref qf0_1, .ref qf0_2, .int v0_3, .ref qf0_4, .ref qf0_5, .ref qf0_6, .ref qf0_7, .ref qf0_8, .int v0_9, .int v0_10, .int v0_11, .int v0_12])), (qf0_2, .inl (cf0_2, 3001, .inl f0_2))]) [1, 2] rfl
  have hDc := hD.sub (ws' := [(qf0, .inr (9, [.ref qf0_0, .ref qf0_1, .ref qf0_2, .int v0_3, .ref qf0_4, .ref qf0_5, .ref qf0_6, .ref qf0_7, .ref qf0_8, .int v0_9, .int v0_10, .int v0_11, .int v0_12])), (qf0_2, .inl (cf0_2, 3001, .inl f0_2))]) [1, 2] (by decide) rfl
  have hKc := hK.sub (tys' := [(cf0_2, .int)]) [0] rfl
  have hFc := va_free (wc := [(qf0, .inr (9, [.ref qf0_0, .ref qf0_1, .ref qf0_2, .int v0_3, .ref qf0_4, .ref qf0_5, .ref qf0_6, .ref qf0_7, .ref qf0_8, .int v0_9, .int v0_10, .int v0_11, .int v0_12])), (qf0_2, .inl (cf0_2, 3001, .inl f0_2))]) hD hS hA [1, 2] rfl
  refine va_calli (va_runV (As := [.int a1]) (rest := [.ref qf4]) ⟨hx, hb, hml, hown, hts⟩ (t9_valueAt l dC dI H.size qf0 a1 qf0_0 qf0_1 qf0_2 v0_3 qf0_4 qf0_5 qf0_6 qf0_7 qf0_8 v0_9 v0_10 v0_11 v0_12 cf0_2 f0_2 nf u1_0 hu_1) (cwV 1 hts gv_h4_114 rfl rfl rfl (by decide +kernel) ⟨Nat.le_of_ble_eq_true rfl, Nat.le_of_ble_eq_true rfl⟩) ⟨fun a U g mk q => by obtain ⟨q0, q1, qP, qK, qD⟩ := q; exact ⟨q0, q1, qP, va_K.moved (u := U) (U := U.calling g mk a) (Vm.Alike.refl U.vm) qK, qD⟩, va_recv hKc hPc (ci := 9) (q0 := 0) rfl rfl, fun U hU hW => ⟨rfl, by rw [hU], by rw [hU]; exact hPc, va_K.moved hW.alike hKc, hDc.weaken (fun _ _ _ _ => trivial)⟩⟩ rfl rfl hl.1 rfl (lv_room (Nat.le_of_ble_eq_true rfl)) dX0_checkTwice_9 ⟨Nat.le_of_ble_eq_true rfl, Nat.le_of_ble_eq_true rfl⟩) hS (fun q _ h => hFc q h) hFc ?_
  clear hS
  intro r_1 u t H1 locs ht hvm hw hB hz1 hk1 hS
  obtain ⟨⟩ := u
  obtain ⟨hP1, hK1, hD1⟩ := hB
  rw [ht] at hP1
  have hK1 := va_K.moved hvm.symm hK1
  try dsimp only at hw
  have hPD := va_join (wr := [(h0, .inr (0, [.ref qf0, .ref qf1, .ref qf2, .ref qf3, .ref qf4, .ref qf5, .ref qf6, .int v7, .int v8, .int v9, .int v10, .ref qf11, .int v12])), (qf4, .inr (1, [.ref qf4_0, .int v4_1, .ref qf4_2, .int v4_3, .int v4_4, .ref qf4_5, .ref qf4_6, .int v4_7, .int v4_8, .ref qf4_9, .int v4_10, .ref qf4_11, .ref qf4_12, .ref qf4_13, .int v4_14, .int v4_15])), (qf4_5, .inl (cf4_5, 750, .inl f4_5)), (qf0_1, .inl (cf0_1, 3001, .inl f0_1))]) (w1 := [(qf0, .inr (9, [.ref qf0_0, .ref qf0_1, .ref qf0_2, .int v0_3, .ref qf0_4, .ref qf0_5, .ref qf0_6, .ref qf0_7, .ref qf0_8, .int v0_9, .int v0_10, .int v0_11, .int v0_12])), (qf0_2, .inl (cf0_2, 3001, .inl f0_2))]) hP hD [1, 2] [0, 3, 4, 5] rfl rfl (by decide) (by decide) hk1 hFc hP1 hD1
  clear hP hD
  obtain ⟨hP, hD⟩ := hPD
  replace hK := (hK.sub (tys' := [(cf4_5, .int), (cf0_1, .int)]) [1, 2] rfl).app hK1
  clear hPc hDc hKc hFc hP1 hK1 hD1 hz1 hk1 ht hvm
  generalize H1 = H at hP hS ⊢
  replace hP : va_P (dC, dI) vwCl [(h0, .inr (0, [.ref qf0, .ref qf1, .ref qf2, .ref qf3, .ref qf4, .ref qf5, .ref qf6, .int v7, .int v8, .int v9, .int v10, .ref qf11, .int v12])), (qf4, .inr (1, [.ref qf4_0, .int v4_1, .ref qf4_2, .int v4_3, .int v4_4, .ref qf4_5, .ref qf4_6, .int v4_7, .int v4_8, .ref qf4_9, .int v4_10, .ref qf4_11, .ref qf4_12, .ref qf4_13, .int v4_14, .int v4_15])), (qf4_5, .inl (cf4_5, 750, .inl f4_5)), (qf0_1, .inl (cf0_1, 3001, .inl f0_1)), (qf0, .inr (9, [.ref qf0_0, .ref qf0_1, .ref qf0_2, .int v0_3, .ref qf0_4, .ref qf0_5, .ref qf0_6, .ref qf0_7, .ref qf0_8, .int v0_9, .int v0_10, .int v0_11, .int v0_12])), (qf0_2, .inl (cf0_2, 3001, .inl f0_2))] H := hP
  replace hD : va_D A [(h0, .inr (0, [.ref qf0, .ref qf1, .ref qf2, .ref qf3, .ref qf4, .ref qf5, .ref qf6, .int v7, .int v8, .int v9, .int v10, .ref qf11, .int v12])), (qf4, .inr (1, [.ref qf4_0, .int v4_1, .ref qf4_2, .int v4_3, .int v4_4, .ref qf4_5, .ref qf4_6, .int v4_7, .int v4_8, .ref qf4_9, .int v4_10, .ref qf4_11, .ref qf4_12, .ref qf4_13, .int v4_14, .int v4_15])), (qf4_5, .inl (cf4_5, 750, .inl f4_5)), (qf0_1, .inl (cf0_1, 3001, .inl f0_1)), (qf0, .inr (9, [.ref qf0_0, .ref qf0_1, .ref qf0_2, .int v0_3, .ref qf0_4, .ref qf0_5, .ref qf0_6, .ref qf0_7, .ref qf0_8, .int v0_9, .int v0_10, .int v0_11, .int v0_12])), (qf0_2, .inl (cf0_2, 3001, .inl f0_2))] := hD
  replace hK : va_K (dC, dI) vwCl [(cf4_5, .int), (cf0_1, .int), (cf0_2, .int)] s := hK
  obtain rfl := hw
  obtain ⟨u2_0, hu_2, hsp⟩ := ox_bind hsp
  try dsimp only at hsp
  have hPc := hP.sub (ws' := [(qf4, .inr (1, [.ref qf4_0, .int v4_1, .ref qf4_2, .int v4_3, .int v4_4, .ref qf4_5, .ref qf4_6, .int v4_7, .int v4_8, .ref qf4_9, .int v4_10, .ref qf4_11, .ref qf4_12, .ref qf4_13, .int v4_14, .int v4_15])), (qf4_5, .inl (cf4_5, 750, .inl f4_5))]) [1, 2] rfl
  have hDc := hD.sub (ws' := [(qf4, .inr (1, [.ref qf4_0, .int v4_1, .ref qf4_2, .int v4_3, .int v4_4, .ref qf4_5, .ref qf4_6, .int v4_7, .int v4_8, .ref qf4_9, .int v4_10, .ref qf4_11, .ref qf4_12, .ref qf4_13, .int v4_14, .int v4_15])), (qf4_5, .inl (cf4_5, 750, .inl f4_5))]) [1, 2] (by decide) rfl
  have hKc := hK.sub (tys' := [(cf4_5, .int)]) [0] rfl
  have hFc := va_free (wc := [(qf4, .inr (1, [.ref qf4_0, .int v4_1, .ref qf4_2, .int v4_3, .int v4_4, .ref qf4_5, .ref qf4_6, .int v4_7, .int v4_8, .ref qf4_9, .int v4_10, .ref qf4_11, .ref qf4_12, .ref qf4_13, .int v4_14, .int v4_15])), (qf4_5, .inl (cf4_5, 750, .inl f4_5))]) hD hS hA [1, 2] rfl
  refine va_calli (va_runV (As := [.int u1_0]) (rest := []) ⟨hx, hb, hml, hown, hts⟩ (t1_localOf l dC dI H.size qf4 u1_0 qf4_0 v4_1 qf4_2 v4_3 v4_4 qf4_5 qf4_6 v4_7 v4_8 qf4_9 v4_10 qf4_11 qf4_12 qf4_13 v4_14 v4_15 cf4_5 f4_5 nf u2_0 hu_2) (cwV 1 hts gv_h4_115 rfl rfl rfl (by decide +kernel) ⟨Nat.le_of_ble_eq_true rfl, Nat.le_of_ble_eq_true rfl⟩) ⟨fun a U g mk q => by obtain ⟨q0, q1, qP, qK, qD⟩ := q; exact ⟨q0, q1, qP, va_K.moved (u := U) (U := U.calling g mk a) (Vm.Alike.refl U.vm) qK, qD⟩, va_recv hKc hPc (ci := 1) (q0 := 0) rfl rfl, fun U hU hW => ⟨rfl, by rw [hU], by rw [hU]; exact hPc, va_K.moved hW.alike hKc, hDc.weaken (fun _ _ _ _ => trivial)⟩⟩ rfl rfl hl.1 rfl (lv_room (Nat.le_of_ble_eq_true rfl)) dX0_checkTwice_12 ⟨Nat.le_of_ble_eq_true rfl, Nat.le_of_ble_eq_true rfl⟩) hS (fun q _ h => hFc q h) hFc ?_
  clear hS
  intro r_2 u t H1 locs ht hvm hw hB hz1 hk1 hS
  obtain ⟨⟩ := u
  obtain ⟨hP1, hK1, hD1⟩ := hB
  rw [ht] at hP1
  have hK1 := va_K.moved hvm.symm hK1
  try dsimp only at hw
  have hPD := va_join (wr := [(h0, .inr (0, [.ref qf0, .ref qf1, .ref qf2, .ref qf3, .ref qf4, .ref qf5, .ref qf6, .int v7, .int v8, .int v9, .int v10, .ref qf11, .int v12])), (qf0_1, .inl (cf0_1, 3001, .inl f0_1)), (qf0, .inr (9, [.ref qf0_0, .ref qf0_1, .ref qf0_2, .int v0_3, .ref qf0_4, .ref qf0_5, .ref qf0_6, .ref qf0_7, .ref qf0_8, .int v0_9, .int v0_10, .int v0_11, .int v0_12])), (qf0_2, .inl (cf0_2, 3001, .inl f0_2))]) (w1 := [(qf4, .inr (1, [.ref qf4_0, .int v4_1, .ref qf4_2, .int v4_3, .int v4_4, .ref qf4_5, .ref qf4_6, .int v4_7, .int v4_8, .ref qf4_9, .int v4_10, .ref qf4_11, .ref qf4_12, .ref qf4_13, .int v4_14, .int v4_15])), (qf4_5, .inl (cf4_5, 750, .inl f4_5))]) hP hD [1, 2] [0, 3, 4, 5] rfl rfl (by decide) (by decide) hk1 hFc hP1 hD1
  clear hP hD
  obtain ⟨hP, hD⟩ := hPD
  replace hK := (hK.sub (tys' := [(cf0_1, .int), (cf0_2, .int)]) [1, 2] rfl).app hK1
  clear hPc hDc hKc hFc hP1 hK1 hD1 hz1 hk1 ht hvm
  generalize H1 = H at hP hS ⊢
  replace hP : va_P (dC, dI) vwCl [(h0, .inr (0, [.ref qf0, .ref qf1, .ref qf2, .ref qf3, .ref qf4, .ref qf5, .ref qf6, .int v7, .int v8, .int v9, .int v10, .ref qf11, .int v12])), (qf0_1, .inl (cf0_1, 3001, .inl f0_1)), (qf0, .inr (9, [.ref qf0_0, .ref qf0_1, .ref qf0_2, .int v0_3, .ref qf0_4, .ref qf0_5, .ref qf0_6, .ref qf0_7, .ref qf0_8, .int v0_9, .int v0_10, .int v0_11, .int v0_12])), (qf0_2, .inl (cf0_2, 3001, .inl f0_2)), (qf4, .inr (1, [.ref qf4_0, .int v4_1, .ref qf4_2, .int v4_3, .int v4_4, .ref qf4_5, .ref qf4_6, .int v4_7, .int v4_8, .ref qf4_9, .int v4_10, .ref qf4_11, .ref qf4_12, .ref qf4_13, .int v4_14, .int v4_15])), (qf4_5, .inl (cf4_5, 750, .inl f4_5))] H := hP
  replace hD : va_D A [(h0, .inr (0, [.ref qf0, .ref qf1, .ref qf2, .ref qf3, .ref qf4, .ref qf5, .ref qf6, .int v7, .int v8, .int v9, .int v10, .ref qf11, .int v12])), (qf0_1, .inl (cf0_1, 3001, .inl f0_1)), (qf0, .inr (9, [.ref qf0_0, .ref qf0_1, .ref qf0_2, .int v0_3, .ref qf0_4, .ref qf0_5, .ref qf0_6, .ref qf0_7, .ref qf0_8, .int v0_9, .int v0_10, .int v0_11, .int v0_12])), (qf0_2, .inl (cf0_2, 3001, .inl f0_2)), (qf4, .inr (1, [.ref qf4_0, .int v4_1, .ref qf4_2, .int v4_3, .int v4_4, .ref qf4_5, .ref qf4_6, .int v4_7, .int v4_8, .ref qf4_9, .int v4_10, .ref qf4_11, .ref qf4_12, .ref qf4_13, .int v4_14, .int v4_15])), (qf4_5, .inl (cf4_5, 750, .inl f4_5))] := hD
  replace hK : va_K (dC, dI) vwCl [(cf0_1, .int), (cf0_2, .int), (cf4_5, .int)] s := hK
  obtain rfl := hw
  refine lv_iconst (v := (-1)) hx hb dX0_checkTwice_15 (by decide) ?_
  refine lv_icmp_eq (tgt := 28) hx hb dX0_checkTwice_16 (by decide) (fun c_3 => ?_) (fun c_3 => ?_)
  · rw [if_pos c_3] at hsp
    have hr0 := Option.some.inj hsp
    clear hsp
    obtain ⟨hq0, hr1⟩ := Prod.mk.inj hr0
    clear hr0
    subst hq0
    subst hr1
    have hP9 := hP.sub (ws' := [(h0, .inr (0, [.ref qf0, .ref qf1, .ref qf2, .ref qf3, .ref qf4, .ref qf5, .ref qf6, .int v7, .int v8, .int v9, .int v10, .ref qf11, .int v12])), (qf0, .inr (9, [.ref qf0_0, .ref qf0_1, .ref qf0_2, .int v0_3, .ref qf0_4, .ref qf0_5, .ref qf0_6, .ref qf0_7, .ref qf0_8, .int v0_9, .int v0_10, .int v0_11, .int v0_12])), (qf0_2, .inl (cf0_2, 3001, .inl f0_2)), (qf4, .inr (1, [.ref qf4_0, .int v4_1, .ref qf4_2, .int v4_3, .int v4_4, .ref qf4_5, .ref qf4_6, .int v4_7, .int v4_8, .ref qf4_9, .int v4_10, .ref qf4_11, .ref qf4_12, .ref qf4_13, .int v4_14, .int v4_15])), (qf4_5, .inl (cf4_5, 750, .inl f4_5)), (qf0_1, .inl (cf0_1, 3001, .inl f0_1))]) [0, 2, 3, 4, 5, 1] rfl
    have hD9 := hD.sub (ws' := [(h0, .inr (0, [.ref qf0, .ref qf1, .ref qf2, .ref qf3, .ref qf4, .ref qf5, .ref qf6, .int v7, .int v8, .int v9, .int v10, .ref qf11, .int v12])), (qf0, .inr (9, [.ref qf0_0, .ref qf0_1, .ref qf0_2, .int v0_3, .ref qf0_4, .ref qf0_5, .ref qf0_6, .ref qf0_7, .ref qf0_8, .int v0_9, .int v0_10, .int v0_11, .int v0_12])), (qf0_2, .inl (cf0_2, 3001, .inl f0_2)), (qf4, .inr (1, [.ref qf4_0, .int v4_1, .ref qf4_2, .int v4_3, .int v4_4, .ref qf4_5, .ref qf4_6, .int v4_7, .int v4_8, .ref qf4_9, .int v4_10, .ref qf4_11, .ref qf4_12, .ref qf4_13, .int v4_14, .int v4_15])), (qf4_5, .inl (cf4_5, 750, .inl f4_5)), (qf0_1, .inl (cf0_1, 3001, .inl f0_1))]) [0, 2, 3, 4, 5, 1] (by decide) rfl
    have hK9 := hK.sub (tys' := [(cf0_2, .int), (cf4_5, .int), (cf0_1, .int)]) [1, 2, 0] rfl
    exact W.vret hx hb hr (fun t ht hW => ⟨⟨(), rfl, trivial, by rw [ht]; exact hP9, va_K.moved hW.alike hK9, hD9⟩, hS.F ht⟩) hS.2.2 dX0_checkTwice_28
  · rw [if_neg c_3] at hsp
    refine lv_aload_n hx hb dX0_checkTwice_19 rfl (lv_at hl 0 rfl) ?_
    refine va_get (D := (dC, dI)) (ci := 0) (v := .ref qf0) (C := RX0) (T := TX0) (N := 13) hx hb hts uV_h4_X0 hown hK hP 0 rfl rfl 0 (by decide) (hts (.fieldLink RX0 34 "ClassMill$Bodies" "text" "LClassMill$Text;") mw_h4_396) (fun _ h9 => h9) rfl dX0_checkTwice_20 ?_
    refine lv_iconst (v := 4) hx hb dX0_checkTwice_23 (by decide) ?_
    refine lv_iload_n hx hb dX0_checkTwice_24 rfl (lv_at hl 1 rfl) ?_
    obtain ⟨⟨u3_0, u3_1⟩, hu_3, hsp⟩ := ox_bind hsp
    try dsimp only at hsp
    have hPc := hP.sub (ws' := [(qf0, .inr (9, [.ref qf0_0, .ref qf0_1, .ref qf0_2, .int v0_3, .ref qf0_4, .ref qf0_5, .ref qf0_6, .ref qf0_7, .ref qf0_8, .int v0_9, .int v0_10, .int v0_11, .int v0_12])), (qf0_1, .inl (cf0_1, 3001, .inl f0_1))]) [2, 1] rfl
    have hDc := hD.sub (ws' := [(qf0, .inr (9, [.ref qf0_0, .ref qf0_1, .ref qf0_2, .int v0_3, .ref qf0_4, .ref qf0_5, .ref qf0_6, .ref qf0_7, .ref qf0_8, .int v0_9, .int v0_10, .int v0_11, .int v0_12])), (qf0_1, .inl (cf0_1, 3001, .inl f0_1))]) [2, 1] (by decide) rfl
    have hKc := hK.sub (tys' := [(cf0_1, .int)]) [0] rfl
    have hFc := va_free (wc := [(qf0, .inr (9, [.ref qf0_0, .ref qf0_1, .ref qf0_2, .int v0_3, .ref qf0_4, .ref qf0_5, .ref qf0_6, .ref qf0_7, .ref qf0_8, .int v0_9, .int v0_10, .int v0_11, .int v0_12])), (qf0_1, .inl (cf0_1, 3001, .inl f0_1))]) hD hS hA [2, 1] rfl
    refine va_callv (va_runV (As := [.int 4, .int a1]) (rest := []) ⟨hx, hb, hml, hown, hts⟩ (t9_tell l dC dI H.size qf0 4 a1 qf0_0 qf0_1 qf0_2 v0_3 qf0_4 qf0_5 qf0_6 qf0_7 qf0_8 v0_9 v0_10 v0_11 v0_12 cf0_1 f0_1 nf u3_0 u3_1 hu_3) (cwV 2 hts gv_h4_97 rfl rfl rfl (by decide +kernel) ⟨Nat.le_of_ble_eq_true rfl, Nat.le_of_ble_eq_true rfl⟩) ⟨fun a U g mk q => by obtain ⟨q0, q1, qP, qK, qD⟩ := q; exact ⟨q0, q1, qP, va_K.moved (u := U) (U := U.calling g mk a) (Vm.Alike.refl U.vm) qK, qD⟩, va_recv hKc hPc (ci := 9) (q0 := 0) rfl rfl, fun U hU hW => ⟨rfl, by rw [hU], by rw [hU]; exact hPc, va_K.moved hW.alike hKc, hDc.weaken (fun _ _ _ _ => trivial)⟩⟩ rfl rfl hl.1 rfl (lv_room (Nat.le_of_ble_eq_true rfl)) dX0_checkTwice_25 ⟨Nat.le_of_ble_eq_true rfl, Nat.le_of_ble_eq_true rfl⟩) hS (fun q _ h => hFc q h) hFc ?_
    clear hS
    intro u t H1 locs ht hvm hw hB hz1 hk1 hS
    obtain ⟨⟩ := u
    obtain ⟨hP1, hK1, hD1⟩ := hB
    rw [ht] at hP1
    have hK1 := va_K.moved hvm.symm hK1
    try dsimp only at hw
    have hPD := va_join (wr := [(h0, .inr (0, [.ref qf0, .ref qf1, .ref qf2, .ref qf3, .ref qf4, .ref qf5, .ref qf6, .int v7, .int v8, .int v9, .int v10, .ref qf11, .int v12])), (qf0_2, .inl (cf0_2, 3001, .inl f0_2)), (qf4, .inr (1, [.ref qf4_0, .int v4_1, .ref qf4_2, .int v4_3, .int v4_4, .ref qf4_5, .ref qf4_6, .int v4_7, .int v4_8, .ref qf4_9, .int v4_10, .ref qf4_11, .ref qf4_12, .ref qf4_13, .int v4_14, .int v4_15])), (qf4_5, .inl (cf4_5, 750, .inl f4_5))]) (w1 := [(qf0, .inr (9, [.ref qf0_0, .ref qf0_1, .ref qf0_2, .int v0_3, .ref qf0_4, .ref qf0_5, .ref qf0_6, .ref qf0_7, .ref qf0_8, .int v0_9, .int v0_10, .int u3_0, .int u3_1])), (qf0_1, .inl (cf0_1, 3001, .inl f0_1))]) hP hD [2, 1] [0, 3, 4, 5] rfl rfl (by decide) (by decide) hk1 hFc hP1 hD1
    clear hP hD
    obtain ⟨hP, hD⟩ := hPD
    replace hK := (hK.sub (tys' := [(cf0_2, .int), (cf4_5, .int)]) [1, 2] rfl).app hK1
    clear hPc hDc hKc hFc hP1 hK1 hD1 hz1 hk1 ht hvm
    generalize H1 = H at hP hS ⊢
    replace hP : va_P (dC, dI) vwCl [(h0, .inr (0, [.ref qf0, .ref qf1, .ref qf2, .ref qf3, .ref qf4, .ref qf5, .ref qf6, .int v7, .int v8, .int v9, .int v10, .ref qf11, .int v12])), (qf0_2, .inl (cf0_2, 3001, .inl f0_2)), (qf4, .inr (1, [.ref qf4_0, .int v4_1, .ref qf4_2, .int v4_3, .int v4_4, .ref qf4_5, .ref qf4_6, .int v4_7, .int v4_8, .ref qf4_9, .int v4_10, .ref qf4_11, .ref qf4_12, .ref qf4_13, .int v4_14, .int v4_15])), (qf4_5, .inl (cf4_5, 750, .inl f4_5)), (qf0, .inr (9, [.ref qf0_0, .ref qf0_1, .ref qf0_2, .int v0_3, .ref qf0_4, .ref qf0_5, .ref qf0_6, .ref qf0_7, .ref qf0_8, .int v0_9, .int v0_10, .int u3_0, .int u3_1])), (qf0_1, .inl (cf0_1, 3001, .inl f0_1))] H := hP
    replace hD : va_D A [(h0, .inr (0, [.ref qf0, .ref qf1, .ref qf2, .ref qf3, .ref qf4, .ref qf5, .ref qf6, .int v7, .int v8, .int v9, .int v10, .ref qf11, .int v12])), (qf0_2, .inl (cf0_2, 3001, .inl f0_2)), (qf4, .inr (1, [.ref qf4_0, .int v4_1, .ref qf4_2, .int v4_3, .int v4_4, .ref qf4_5, .ref qf4_6, .int v4_7, .int v4_8, .ref qf4_9, .int v4_10, .ref qf4_11, .ref qf4_12, .ref qf4_13, .int v4_14, .int v4_15])), (qf4_5, .inl (cf4_5, 750, .inl f4_5)), (qf0, .inr (9, [.ref qf0_0, .ref qf0_1, .ref qf0_2, .int v0_3, .ref qf0_4, .ref qf0_5, .ref qf0_6, .ref qf0_7, .ref qf0_8, .int v0_9, .int v0_10, .int u3_0, .int u3_1])), (qf0_1, .inl (cf0_1, 3001, .inl f0_1))] := hD
    replace hK : va_K (dC, dI) vwCl [(cf0_2, .int), (cf4_5, .int), (cf0_1, .int)] s := hK
    have hr0 := Option.some.inj hsp
    clear hsp
    obtain ⟨hq0, hr1⟩ := Prod.mk.inj hr0
    clear hr0
    subst hq0
    subst hr1
    have hP9 := hP.sub (ws' := [(h0, .inr (0, [.ref qf0, .ref qf1, .ref qf2, .ref qf3, .ref qf4, .ref qf5, .ref qf6, .int v7, .int v8, .int v9, .int v10, .ref qf11, .int v12])), (qf0, .inr (9, [.ref qf0_0, .ref qf0_1, .ref qf0_2, .int v0_3, .ref qf0_4, .ref qf0_5, .ref qf0_6, .ref qf0_7, .ref qf0_8, .int v0_9, .int v0_10, .int u3_0, .int u3_1])), (qf0_2, .inl (cf0_2, 3001, .inl f0_2)), (qf4, .inr (1, [.ref qf4_0, .int v4_1, .ref qf4_2, .int v4_3, .int v4_4, .ref qf4_5, .ref qf4_6, .int v4_7, .int v4_8, .ref qf4_9, .int v4_10, .ref qf4_11, .ref qf4_12, .ref qf4_13, .int v4_14, .int v4_15])), (qf4_5, .inl (cf4_5, 750, .inl f4_5)), (qf0_1, .inl (cf0_1, 3001, .inl f0_1))]) [0, 4, 1, 2, 3, 5] rfl
    have hD9 := hD.sub (ws' := [(h0, .inr (0, [.ref qf0, .ref qf1, .ref qf2, .ref qf3, .ref qf4, .ref qf5, .ref qf6, .int v7, .int v8, .int v9, .int v10, .ref qf11, .int v12])), (qf0, .inr (9, [.ref qf0_0, .ref qf0_1, .ref qf0_2, .int v0_3, .ref qf0_4, .ref qf0_5, .ref qf0_6, .ref qf0_7, .ref qf0_8, .int v0_9, .int v0_10, .int u3_0, .int u3_1])), (qf0_2, .inl (cf0_2, 3001, .inl f0_2)), (qf4, .inr (1, [.ref qf4_0, .int v4_1, .ref qf4_2, .int v4_3, .int v4_4, .ref qf4_5, .ref qf4_6, .int v4_7, .int v4_8, .ref qf4_9, .int v4_10, .ref qf4_11, .ref qf4_12, .ref qf4_13, .int v4_14, .int v4_15])), (qf4_5, .inl (cf4_5, 750, .inl f4_5)), (qf0_1, .inl (cf0_1, 3001, .inl f0_1))]) [0, 4, 1, 2, 3, 5] (by decide) rfl
    have hK9 := hK.sub (tys' := [(cf0_2, .int), (cf4_5, .int), (cf0_1, .int)]) [0, 1, 2] rfl
    exact W.vret hx hb hr (fun t ht hW => ⟨⟨(), rfl, trivial, by rw [ht]; exact hP9, va_K.moved hW.alike hK9, hD9⟩, hS.F ht⟩) hS.2.2 dX0_checkTwice_28
def sp_t0_closeAlone (nf : Nat) (a1 : Int32) (v5_11 : Int32) (v5_12 : Int32) (v4_1 : Int32) (v4_3 : Int32) (f4_0 : Nat → Int32) (v0_3 : Int32) (v0_11 : Int32) (v0_12 : Int32) (f0_1 : Nat → Int32) : Option ((Nat → Int32) × Int32 × Int32 × Int32 × Int32) := (if v5_11 = 1 then (if v5_12 = 303 then (some (f4_0, v0_11, v0_12, v4_1, v4_3)) else ((sp_t1_op nf 87 v4_1 f4_0).bind (fun p1 => ((sp_t1_pop nf 1 v4_3).bind (fun p2 => (some (p1.1, v0_11, v0_12, p1.2, p2))))))) else ((sp_t9_tell nf 6 a1 v0_3 v0_11 v0_12 f0_1).bind (fun p3 => (if v5_12 = 303 then (some (f4_0, p3.1, p3.2, v4_1, v4_3)) else ((sp_t1_op nf 87 v4_1 f4_0).bind (fun p4 => ((sp_t1_pop nf 1 v4_3).bind (fun p5 => (some (p4.1, p3.1, p3.2, p4.2, p5))))))))))
set_option maxHeartbeats 4000000 in
set_option maxRecDepth 100000 in
/-- ClassMill$Bodies.closeAlone -/
theorem t0_closeAlone (l : Launch) (dC : Nat → ClassId) (dI : Nat → Nat → Nat) (sz : Nat) (h0 : Nat) (a1 : Int32) (qf0 : Nat) (qf1 : Nat) (qf2 : Nat) (qf3 : Nat) (qf4 : Nat) (qf5 : Nat) (qf6 : Nat) (v7 : Int32) (v8 : Int32) (v9 : Int32) (v10 : Int32) (qf11 : Nat) (v12 : Int32) (qf5_0 : Nat) (qf5_1 : Nat) (qf5_2 : Nat) (qf5_3 : Nat) (qf5_4 : Nat) (qf5_5 : Nat) (qf5_6 : Nat) (qf5_7 : Nat) (qf5_8 : Nat) (qf5_9 : Nat) (v5_10 : Int32) (v5_11 : Int32) (v5_12 : Int32) (v5_13 : Int32) (v5_14 : Int32) (v5_15 : Int32) (v5_16 : Int32) (v5_17 : Int32) (v5_18 : Int32) (qf4_0 : Nat) (v4_1 : Int32) (qf4_2 : Nat) (v4_3 : Int32) (v4_4 : Int32) (qf4_5 : Nat) (qf4_6 : Nat) (v4_7 : Int32) (v4_8 : Int32) (qf4_9 : Nat) (v4_10 : Int32) (qf4_11 : Nat) (qf4_12 : Nat) (qf4_13 : Nat) (v4_14 : Int32) (v4_15 : Int32) (cf4_0 : ClassId) (f4_0 : (Nat → Int32)) (qf0_0 : Nat) (qf0_1 : Nat) (qf0_2 : Nat) (v0_3 : Int32) (qf0_4 : Nat) (qf0_5 : Nat) (qf0_6 : Nat) (qf0_7 : Nat) (qf0_8 : Nat) (v0_9 : Int32) (v0_10 : Int32) (v0_11 : Int32) (v0_12 : Int32) (cf0_1 : ClassId) (f0_1 : (Nat → Int32)) (nf : Nat) (o4_0 : (Nat → Int32)) (w0_11 : Int32) (w0_12 : Int32) (w4_1 : Int32) (w4_3 : Int32) (hsp : sp_t0_closeAlone nf a1 v5_11 v5_12 v4_1 v4_3 f4_0 v0_3 v0_11 v0_12 f0_1 = some (o4_0, w0_11, w0_12, w4_1, w4_3)) : Met l yX0_closeAlone (.code yX0_closeAlone cX0_closeAlone 2 none :: VS_h4) ({ frames := 2, cells := 0, slots := 0, locals := 36 }) (va_Pc [.ref h0, .int a1] (fun U => U.heap.size = sz ∧ va_P (dC, dI) vwCl [(h0, .inr (0, [.ref qf0, .ref qf1, .ref qf2, .ref qf3, .ref qf4, .ref qf5, .ref qf6, .int v7, .int v8, .int v9, .int v10, .ref qf11, .int v12])), (qf5, .inr (10, [.ref qf5_0, .ref qf5_1, .ref qf5_2, .ref qf5_3, .ref qf5_4, .ref qf5_5, .ref qf5_6, .ref qf5_7, .ref qf5_8, .ref qf5_9, .int v5_10, .int v5_11, .int v5_12, .int v5_13, .int v5_14, .int v5_15, .int v5_16, .int v5_17, .int v5_18])), (qf4, .inr (1, [.ref qf4_0, .int v4_1, .ref qf4_2, .int v4_3, .int v4_4, .ref qf4_5, .ref qf4_6, .int v4_7, .int v4_8, .ref qf4_9, .int v4_10, .ref qf4_11, .ref qf4_12, .ref qf4_13, .int v4_14, .int v4_15])), (qf4_0, .inl (cf4_0, 1500, .inl f4_0)), (qf0, .inr (9, [.ref qf0_0, .ref qf0_1, .ref qf0_2, .int v0_3, .ref qf0_4, .ref qf0_5, .ref qf0_6, .ref qf0_7, .ref qf0_8, .int v0_9, .int v0_10, .int v0_11, .int v0_12])), (qf0_1, .inl (cf0_1, 3001, .inl f0_1))] U.heap ∧ va_K (dC, dI) vwCl [(cf4_0, .byte), (cf0_1, .int)] U ∧ va_D (fun _ => True) [(h0, .inr (0, [.ref qf0, .ref qf1, .ref qf2, .ref qf3, .ref qf4, .ref qf5, .ref qf6, .int v7, .int v8, .int v9, .int v10, .ref qf11, .int v12])), (qf5, .inr (10, [.ref qf5_0, .ref qf5_1, .ref qf5_2, .ref qf5_3, .ref qf5_4, .ref qf5_5, .ref qf5_6, .ref qf5_7, .ref qf5_8, .ref qf5_9, .int v5_10, .int v5_11, .int v5_12, .int v5_13, .int v5_14, .int v5_15, .int v5_16, .int v5_17, .int v5_18])), (qf4, .inr (1, [.ref qf4_0, .int v4_1, .ref qf4_2, .int v4_3, .int v4_4, .ref qf4_5, .ref qf4_6, .int v4_7, .int v4_8, .ref qf4_9, .int v4_10, .ref qf4_11, .ref qf4_12, .ref qf4_13, .int v4_14, .int v4_15])), (qf4_0, .inl (cf4_0, 1500, .inl f4_0)), (qf0, .inr (9, [.ref qf0_0, .ref qf0_1, .ref qf0_2, .int v0_3, .ref qf0_4, .ref qf0_5, .ref qf0_6, .ref qf0_7, .ref qf0_8, .int v0_9, .int v0_10, .int v0_11, .int v0_12])), (qf0_1, .inl (cf0_1, 3001, .inl f0_1))])) (va_Qv (fun (u : Unit) => match u with | () => True) (fun (u : Unit) (t : State) => match u with | () => va_P (dC, dI) vwCl [(h0, .inr (0, [.ref qf0, .ref qf1, .ref qf2, .ref qf3, .ref qf4, .ref qf5, .ref qf6, .int v7, .int v8, .int v9, .int v10, .ref qf11, .int v12])), (qf5, .inr (10, [.ref qf5_0, .ref qf5_1, .ref qf5_2, .ref qf5_3, .ref qf5_4, .ref qf5_5, .ref qf5_6, .ref qf5_7, .ref qf5_8, .ref qf5_9, .int v5_10, .int v5_11, .int v5_12, .int v5_13, .int v5_14, .int v5_15, .int v5_16, .int v5_17, .int v5_18])), (qf4, .inr (1, [.ref qf4_0, .int w4_1, .ref qf4_2, .int w4_3, .int v4_4, .ref qf4_5, .ref qf4_6, .int v4_7, .int v4_8, .ref qf4_9, .int v4_10, .ref qf4_11, .ref qf4_12, .ref qf4_13, .int v4_14, .int v4_15])), (qf4_0, .inl (cf4_0, 1500, .inl o4_0)), (qf0, .inr (9, [.ref qf0_0, .ref qf0_1, .ref qf0_2, .int v0_3, .ref qf0_4, .ref qf0_5, .ref qf0_6, .ref qf0_7, .ref qf0_8, .int v0_9, .int v0_10, .int w0_11, .int w0_12])), (qf0_1, .inl (cf0_1, 3001, .inl f0_1))] t.heap ∧ va_K (dC, dI) vwCl [(cf4_0, .byte), (cf0_1, .int)] t ∧ va_D (va_A [(h0, .inr (0, [.ref qf0, .ref qf1, .ref qf2, .ref qf3, .ref qf4, .ref qf5, .ref qf6, .int v7, .int v8, .int v9, .int v10, .ref qf11, .int v12])), (qf5, .inr (10, [.ref qf5_0, .ref qf5_1, .ref qf5_2, .ref qf5_3, .ref qf5_4, .ref qf5_5, .ref qf5_6, .ref qf5_7, .ref qf5_8, .ref qf5_9, .int v5_10, .int v5_11, .int v5_12, .int v5_13, .int v5_14, .int v5_15, .int v5_16, .int v5_17, .int v5_18])), (qf4, .inr (1, [.ref qf4_0, .int v4_1, .ref qf4_2, .int v4_3, .int v4_4, .ref qf4_5, .ref qf4_6, .int v4_7, .int v4_8, .ref qf4_9, .int v4_10, .ref qf4_11, .ref qf4_12, .ref qf4_13, .int v4_14, .int v4_15])), (qf4_0, .inl (cf4_0, 1500, .inl f4_0)), (qf0, .inr (9, [.ref qf0_0, .ref qf0_1, .ref qf0_2, .int v0_3, .ref qf0_4, .ref qf0_5, .ref qf0_6, .ref qf0_7, .ref qf0_8, .int v0_9, .int v0_10, .int v0_11, .int v0_12])), (qf0_1, .inl (cf0_1, 3001, .inl f0_1))] sz) [(h0, .inr (0, [.ref qf0, .ref qf1, .ref qf2, .ref qf3, .ref qf4, .ref qf5, .ref qf6, .int v7, .int v8, .int v9, .int v10, .ref qf11, .int v12])), (qf5, .inr (10, [.ref qf5_0, .ref qf5_1, .ref qf5_2, .ref qf5_3, .ref qf5_4, .ref qf5_5, .ref qf5_6, .ref qf5_7, .ref qf5_8, .ref qf5_9, .int v5_10, .int v5_11, .int v5_12, .int v5_13, .int v5_14, .int v5_15, .int v5_16, .int v5_17, .int v5_18])), (qf4, .inr (1, [.ref qf4_0, .int w4_1, .ref qf4_2, .int w4_3, .int v4_4, .ref qf4_5, .ref qf4_6, .int v4_7, .int v4_8, .ref qf4_9, .int v4_10, .ref qf4_11, .ref qf4_12, .ref qf4_13, .int v4_14, .int v4_15])), (qf4_0, .inl (cf4_0, 1500, .inl o4_0)), (qf0, .inr (9, [.ref qf0_0, .ref qf0_1, .ref qf0_2, .int v0_3, .ref qf0_4, .ref qf0_5, .ref qf0_6, .ref qf0_7, .ref qf0_8, .int v0_9, .int v0_10, .int w0_11, .int w0_12])), (qf0_1, .inl (cf0_1, 3001, .inl f0_1))]) (va_A [(h0, .inr (0, [.ref qf0, .ref qf1, .ref qf2, .ref qf3, .ref qf4, .ref qf5, .ref qf6, .int v7, .int v8, .int v9, .int v10, .ref qf11, .int v12])), (qf5, .inr (10, [.ref qf5_0, .ref qf5_1, .ref qf5_2, .ref qf5_3, .ref qf5_4, .ref qf5_5, .ref qf5_6, .ref qf5_7, .ref qf5_8, .ref qf5_9, .int v5_10, .int v5_11, .int v5_12, .int v5_13, .int v5_14, .int v5_15, .int v5_16, .int v5_17, .int v5_18])), (qf4, .inr (1, [.ref qf4_0, .int v4_1, .ref qf4_2, .int v4_3, .int v4_4, .ref qf4_5, .ref qf4_6, .int v4_7, .int v4_8, .ref qf4_9, .int v4_10, .ref qf4_11, .ref qf4_12, .ref qf4_13, .int v4_14, .int v4_15])), (qf4_0, .inl (cf4_0, 1500, .inl f4_0)), (qf0, .inr (9, [.ref qf0_0, .ref qf0_1, .ref qf0_2, .int v0_3, .ref qf0_4, .ref qf0_5, .ref qf0_6, .ref qf0_7, .ref qf0_8, .int v0_9, .int v0_10, .int v0_11, .int v0_12])), (qf0_1, .inl (cf0_1, 3001, .inl f0_1))] sz)) 0 0 (va_A [(h0, .inr (0, [.ref qf0, .ref qf1, .ref qf2, .ref qf3, .ref qf4, .ref qf5, .ref qf6, .int v7, .int v8, .int v9, .int v10, .ref qf11, .int v12])), (qf5, .inr (10, [.ref qf5_0, .ref qf5_1, .ref qf5_2, .ref qf5_3, .ref qf5_4, .ref qf5_5, .ref qf5_6, .ref qf5_7, .ref qf5_8, .ref qf5_9, .int v5_10, .int v5_11, .int v5_12, .int v5_13, .int v5_14, .int v5_15, .int v5_16, .int v5_17, .int v5_18])), (qf4, .inr (1, [.ref qf4_0, .int v4_1, .ref qf4_2, .int v4_3, .int v4_4, .ref qf4_5, .ref qf4_6, .int v4_7, .int v4_8, .ref qf4_9, .int v4_10, .ref qf4_11, .ref qf4_12, .ref qf4_13, .int v4_14, .int v4_15])), (qf4_0, .inl (cf4_0, 1500, .inl f4_0)), (qf0, .inr (9, [.ref qf0_0, .ref qf0_1, .ref qf0_2, .int v0_3, .ref qf0_4, .ref qf0_5, .ref qf0_6, .ref qf0_7, .ref qf0_8, .int v0_9, .int v0_10, .int v0_11, .int v0_12])), (qf0_1, .inl (cf0_1, 3001, .inl f0_1))] sz) := by
  refine Met.ofW (cc := cX0_closeAlone) (maxL := 2) (ret := none) (by decide) rfl ?_
  intro p e s m args below meth c s₁ B hml hv
  obtain ⟨rfl, hsz, hP, hK, hD0⟩ := hv
  have hx := B.exec
  have hb := B.bytes
  have hr := B.returns
  have hts := atoms_spec (ws := (.code yX0_closeAlone cX0_closeAlone 2 none :: VS_h4)) B.pre
  replace hts := fun w (h : w ∈ VS_h4) => hts w (List.mem_cons_of_mem _ h)
  have hown : s.vm.findClass RX0 = some m.cls := findClass_of_methodNamed B.named
  have hlocks := B.notSynchronized
  subst hsz
  have hD := hD0.self (sz := s.heap.size)
  generalize hAe : va_A [(h0, .inr (0, [.ref qf0, .ref qf1, .ref qf2, .ref qf3, .ref qf4, .ref qf5, .ref qf6, .int v7, .int v8, .int v9, .int v10, .ref qf11, .int v12])), (qf5, .inr (10, [.ref qf5_0, .ref qf5_1, .ref qf5_2, .ref qf5_3, .ref qf5_4, .ref qf5_5, .ref qf5_6, .ref qf5_7, .ref qf5_8, .ref qf5_9, .int v5_10, .int v5_11, .int v5_12, .int v5_13, .int v5_14, .int v5_15, .int v5_16, .int v5_17, .int v5_18])), (qf4, .inr (1, [.ref qf4_0, .int v4_1, .ref qf4_2, .int v4_3, .int v4_4, .ref qf4_5, .ref qf4_6, .int v4_7, .int v4_8, .ref qf4_9, .int v4_10, .ref qf4_11, .ref qf4_12, .ref qf4_13, .int v4_14, .int v4_15])), (qf4_0, .inl (cf4_0, 1500, .inl f4_0)), (qf0, .inr (9, [.ref qf0_0, .ref qf0_1, .ref qf0_2, .int v0_3, .ref qf0_4, .ref qf0_5, .ref qf0_6, .ref qf0_7, .ref qf0_8, .int v0_9, .int v0_10, .int v0_11, .int v0_12])), (qf0_1, .inl (cf0_1, 3001, .inl f0_1))] s.heap.size = A at hD  ⊢
  have hA : ∀ q : Nat, s.heap.size ≤ q → A q := fun q h => by rw [← hAe]; exact Or.inr h
  have hP : va_P (dC, dI) vwCl [(h0, .inr (0, [.ref qf0, .ref qf1, .ref qf2, .ref qf3, .ref qf4, .ref qf5, .ref qf6, .int v7, .int v8, .int v9, .int v10, .ref qf11, .int v12])), (qf5, .inr (10, [.ref qf5_0, .ref qf5_1, .ref qf5_2, .ref qf5_3, .ref qf5_4, .ref qf5_5, .ref qf5_6, .ref qf5_7, .ref qf5_8, .ref qf5_9, .int v5_10, .int v5_11, .int v5_12, .int v5_13, .int v5_14, .int v5_15, .int v5_16, .int v5_17, .int v5_18])), (qf4, .inr (1, [.ref qf4_0, .int v4_1, .ref qf4_2, .int v4_3, .int v4_4, .ref qf4_5, .ref qf4_6, .int v4_7, .int v4_8, .ref qf4_9, .int v4_10, .ref qf4_11, .ref qf4_12, .ref qf4_13, .int v4_14, .int v4_15])), (qf4_0, .inl (cf4_0, 1500, .inl f4_0)), (qf0, .inr (9, [.ref qf0_0, .ref qf0_1, .ref qf0_2, .int v0_3, .ref qf0_4, .ref qf0_5, .ref qf0_6, .ref qf0_7, .ref qf0_8, .int v0_9, .int v0_10, .int v0_11, .int v0_12])), (qf0_1, .inl (cf0_1, 3001, .inl f0_1))] s.heap := hP
  have hl := lv_entry ([.ref h0, .int a1]) (n := 2) (Nat.le_of_ble_eq_true rfl)
  rw [lg_entry_eq]
  generalize (lg_sl ([.ref h0, .int a1]) ++ List.replicate (2 - (lg_sl ([.ref h0, .int a1])).length) Slot.unset).toArray = ls at hl ⊢
  have hl : lv_has ls 2 [(0, .ref h0), (1, .int a1)] := hl
  obtain ⟨H, hH⟩ : ∃ H : Heap, s.heap = H := ⟨_, rfl⟩
  rw [hH] at hP ⊢
  have hS : va_S A s.heap H [] := by rw [← hH]; exact va_S.rf
  obtain ⟨locs, hlo⟩ : ∃ locs : List Loc, locs = [] := ⟨_, rfl⟩
  rw [← hlo] at hS ⊢
  unfold sp_t0_closeAlone at hsp
  refine lv_aload_n hx hb dX0_closeAlone_0 rfl (lv_at hl 0 rfl) ?_
  refine va_get (D := (dC, dI)) (ci := 0) (v := .ref qf5) (C := RX0) (T := TX0) (N := 13) hx hb hts uV_h4_X0 hown hK hP 0 rfl rfl 5 (by decide) (hts (.fieldLink RX0 61 "ClassMill$Bodies" "values" "LClassMill$Values;") mw_h4_451) (fun _ h9 => h9) rfl dX0_closeAlone_1 ?_
  refine va_get (D := (dC, dI)) (ci := 10) (v := .int v5_11) (C := RX10) (T := TX10) (N := 19) hx hb hts uV_h4_X10 hown hK hP 1 rfl rfl 11 (by decide) (hts (.fieldLink RX0 260 "ClassMill$Values" "form" "I") mw_h4_452) (fun _ h9 => h9) rfl dX0_closeAlone_4 ?_
  refine lv_iconst (v := 1) hx hb dX0_closeAlone_7 (by decide) ?_
  refine lv_icmp_eq (tgt := 21) hx hb dX0_closeAlone_8 (by decide) (fun c_1 => ?_) (fun c_1 => ?_)
  · rw [if_pos c_1] at hsp
    refine lv_aload_n hx hb dX0_closeAlone_21 rfl (lv_at hl 0 rfl) ?_
    refine va_get (D := (dC, dI)) (ci := 0) (v := .ref qf5) (C := RX0) (T := TX0) (N := 13) hx hb hts uV_h4_X0 hown hK hP 0 rfl rfl 5 (by decide) (hts (.fieldLink RX0 61 "ClassMill$Bodies" "values" "LClassMill$Values;") mw_h4_451) (fun _ h9 => h9) rfl dX0_closeAlone_22 ?_
    refine va_get (D := (dC, dI)) (ci := 10) (v := .int v5_12) (C := RX10) (T := TX10) (N := 19) hx hb hts uV_h4_X10 hown hK hP 1 rfl rfl 12 (by decide) (hts (.fieldLink RX0 245 "ClassMill$Values" "type" "I") mw_h4_453) (fun _ h9 => h9) rfl dX0_closeAlone_25 ?_
    refine lv_sipush (v := 303) hx hb dX0_closeAlone_28 (by decide) ?_
    refine lv_icmp_eq (tgt := 51) hx hb dX0_closeAlone_31 (by decide) (fun c_2 => ?_) (fun c_2 => ?_)
    · rw [if_pos c_2] at hsp
      have hr0 := Option.some.inj hsp
      clear hsp
      obtain ⟨hq0, hr1⟩ := Prod.mk.inj hr0
      clear hr0
      obtain ⟨hq1, hr2⟩ := Prod.mk.inj hr1
      clear hr1
      obtain ⟨hq2, hr3⟩ := Prod.mk.inj hr2
      clear hr2
      obtain ⟨hq3, hr4⟩ := Prod.mk.inj hr3
      clear hr3
      subst hq0
      subst hq1
      subst hq2
      subst hq3
      subst hr4
      have hP9 := hP.sub (ws' := [(h0, .inr (0, [.ref qf0, .ref qf1, .ref qf2, .ref qf3, .ref qf4, .ref qf5, .ref qf6, .int v7, .int v8, .int v9, .int v10, .ref qf11, .int v12])), (qf5, .inr (10, [.ref qf5_0, .ref qf5_1, .ref qf5_2, .ref qf5_3, .ref qf5_4, .ref qf5_5, .ref qf5_6, .ref qf5_7, .ref qf5_8, .ref qf5_9, .int v5_10, .int v5_11, .int v5_12, .int v5_13, .int v5_14, .int v5_15, .int v5_16, .int v5_17, .int v5_18])), (qf4, .inr (1, [.ref qf4_0, .int v4_1, .ref qf4_2, .int v4_3, .int v4_4, .ref qf4_5, .ref qf4_6, .int v4_7, .int v4_8, .ref qf4_9, .int v4_10, .ref qf4_11, .ref qf4_12, .ref qf4_13, .int v4_14, .int v4_15])), (qf4_0, .inl (cf4_0, 1500, .inl f4_0)), (qf0, .inr (9, [.ref qf0_0, .ref qf0_1, .ref qf0_2, .int v0_3, .ref qf0_4, .ref qf0_5, .ref qf0_6, .ref qf0_7, .ref qf0_8, .int v0_9, .int v0_10, .int v0_11, .int v0_12])), (qf0_1, .inl (cf0_1, 3001, .inl f0_1))]) [0, 1, 2, 3, 4, 5] rfl
      have hD9 := hD.sub (ws' := [(h0, .inr (0, [.ref qf0, .ref qf1, .ref qf2, .ref qf3, .ref qf4, .ref qf5, .ref qf6, .int v7, .int v8, .int v9, .int v10, .ref qf11, .int v12])), (qf5, .inr (10, [.ref qf5_0, .ref qf5_1, .ref qf5_2, .ref qf5_3, .ref qf5_4, .ref qf5_5, .ref qf5_6, .ref qf5_7, .ref qf5_8, .ref qf5_9, .int v5_10, .int v5_11, .int v5_12, .int v5_13, .int v5_14, .int v5_15, .int v5_16, .int v5_17, .int v5_18])), (qf4, .inr (1, [.ref qf4_0, .int v4_1, .ref qf4_2, .int v4_3, .int v4_4, .ref qf4_5, .ref qf4_6, .int v4_7, .int v4_8, .ref qf4_9, .int v4_10, .ref qf4_11, .ref qf4_12, .ref qf4_13, .int v4_14, .int v4_15])), (qf4_0, .inl (cf4_0, 1500, .inl f4_0)), (qf0, .inr (9, [.ref qf0_0, .ref qf0_1, .ref qf0_2, .int v0_3, .ref qf0_4, .ref qf0_5, .ref qf0_6, .ref qf0_7, .ref qf0_8, .int v0_9, .int v0_10, .int v0_11, .int v0_12])), (qf0_1, .inl (cf0_1, 3001, .inl f0_1))]) [0, 1, 2, 3, 4, 5] (by decide) rfl
      have hK9 := hK.sub (tys' := [(cf4_0, .byte), (cf0_1, .int)]) [0, 1] rfl
      exact W.vret hx hb hr (fun t ht hW => ⟨⟨(), rfl, trivial, by rw [ht]; exact hP9, va_K.moved hW.alike hK9, hD9⟩, hS.F ht⟩) hS.2.2 dX0_closeAlone_51
    · rw [if_neg c_2] at hsp
      refine lv_aload_n hx hb dX0_closeAlone_34 rfl (lv_at hl 0 rfl) ?_
      refine va_get (D := (dC, dI)) (ci := 0) (v := .ref qf4) (C := RX0) (T := TX0) (N := 13) hx hb hts uV_h4_X0 hown hK hP 0 rfl rfl 4 (by decide) (hts (.fieldLink RX0 16 "ClassMill$Bodies" "code" "LClassMill$Code;") mw_h4_444) (fun _ h9 => h9) rfl dX0_closeAlone_35 ?_
      refine lv_bipush (v := 87) hx hb dX0_closeAlone_38 (by decide) ?_
      obtain ⟨⟨g901_0, u1_1⟩, hu_1, hsp⟩ := ox_bind hsp
      try dsimp only at hsp
      have hPc := hP.sub (ws' := [(qf4, .inr (1, [.ref qf4_0, .int v4_1, .ref qf4_2, .int v4_3, .int v4_4, .ref qf4_5, .ref qf4_6, .int v4_7, .int v4_8, .ref qf4_9, .int v4_10, .ref qf4_11, .ref qf4_12, .ref qf4_13, .int v4_14, .int v4_15])), (qf4_0, .inl (cf4_0, 1500, .inl f4_0))]) [2, 3] rfl
      have hDc := hD.sub (ws' := [(qf4, .inr (1, [.ref qf4_0, .int v4_1, .ref qf4_2, .int v4_3, .int v4_4, .ref qf4_5, .ref qf4_6, .int v4_7, .int v4_8, .ref qf4_9, .int v4_10, .ref qf4_11, .ref qf4_12, .ref qf4_13, .int v4_14, .int v4_15])), (qf4_0, .inl (cf4_0, 1500, .inl f4_0))]) [2, 3] (by decide) rfl
      have hKc := hK.sub (tys' := [(cf4_0, .byte)]) [0] rfl
      have hFc := va_free (wc := [(qf4, .inr (1, [.ref qf4_0, .int v4_1, .ref qf4_2, .int v4_3, .int v4_4, .ref qf4_5, .ref qf4_6, .int v4_7, .int v4_8, .ref qf4_9, .int v4_10, .ref qf4_11, .ref qf4_12, .ref qf4_13, .int v4_14, .int v4_15])), (qf4_0, .inl (cf4_0, 1500, .inl f4_0))]) hD hS hA [2, 3] rfl
      refine va_callv (va_runV (As := [.int 87]) (rest := []) ⟨hx, hb, hml, hown, hts⟩ (t1_op l dC dI H.size qf4 87 qf4_0 v4_1 qf4_2 v4_3 v4_4 qf4_5 qf4_6 v4_7 v4_8 qf4_9 v4_10 qf4_11 qf4_12 qf4_13 v4_14 v4_15 cf4_0 f4_0 nf g901_0 u1_1 hu_1) (cwV 1 hts gv_h4_113 rfl rfl rfl (by decide +kernel) ⟨Nat.le_of_ble_eq_true rfl, Nat.le_of_ble_eq_true rfl⟩) ⟨fun a U g mk q => by obtain ⟨q0, q1, qP, qK, qD⟩ := q; exact ⟨q0, q1, qP, va_K.moved (u := U) (U := U.calling g mk a) (Vm.Alike.refl U.vm) qK, qD⟩, va_recv hKc hPc (ci := 1) (q0 := 0) rfl rfl, fun U hU hW => ⟨rfl, by rw [hU], by rw [hU]; exact hPc, va_K.moved hW.alike hKc, hDc.weaken (fun _ _ _ _ => trivial)⟩⟩ rfl rfl hl.1 rfl (lv_room (Nat.le_of_ble_eq_true rfl)) dX0_closeAlone_40 ⟨Nat.le_of_ble_eq_true rfl, Nat.le_of_ble_eq_true rfl⟩) hS (fun q _ h => hFc q h) hFc ?_
      clear hS
      intro u t H1 locs ht hvm hw hB hz1 hk1 hS
      obtain ⟨⟩ := u
      obtain ⟨hP1, hK1, hD1⟩ := hB
      rw [ht] at hP1
      have hK1 := va_K.moved hvm.symm hK1
      try dsimp only at hw
      have hPD := va_join (wr := [(h0, .inr (0, [.ref qf0, .ref qf1, .ref qf2, .ref qf3, .ref qf4, .ref qf5, .ref qf6, .int v7, .int v8, .int v9, .int v10, .ref qf11, .int v12])), (qf5, .inr (10, [.ref qf5_0, .ref qf5_1, .ref qf5_2, .ref qf5_3, .ref qf5_4, .ref qf5_5, .ref qf5_6, .ref qf5_7, .ref qf5_8, .ref qf5_9, .int v5_10, .int v5_11, .int v5_12, .int v5_13, .int v5_14, .int v5_15, .int v5_16, .int v5_17, .int v5_18])), (qf0, .inr (9, [.ref qf0_0, .ref qf0_1, .ref qf0_2, .int v0_3, .ref qf0_4, .ref qf0_5, .ref qf0_6, .ref qf0_7, .ref qf0_8, .int v0_9, .int v0_10, .int v0_11, .int v0_12])), (qf0_1, .inl (cf0_1, 3001, .inl f0_1))]) (w1 := [(qf4, .inr (1, [.ref qf4_0, .int u1_1, .ref qf4_2, .int v4_3, .int v4_4, .ref qf4_5, .ref qf4_6, .int v4_7, .int v4_8, .ref qf4_9, .int v4_10, .ref qf4_11, .ref qf4_12, .ref qf4_13, .int v4_14, .int v4_15])), (qf4_0, .inl (cf4_0, 1500, .inl g901_0))]) hP hD [2, 3] [0, 1, 4, 5] rfl rfl (by decide) (by decide) hk1 hFc hP1 hD1
      clear hP hD
      obtain ⟨hP, hD⟩ := hPD
      replace hK := (hK.sub (tys' := [(cf0_1, .int)]) [1] rfl).app hK1
      clear hPc hDc hKc hFc hP1 hK1 hD1 hz1 hk1 ht hvm
      generalize H1 = H at hP hS ⊢
      replace hP : va_P (dC, dI) vwCl [(h0, .inr (0, [.ref qf0, .ref qf1, .ref qf2, .ref qf3, .ref qf4, .ref qf5, .ref qf6, .int v7, .int v8, .int v9, .int v10, .ref qf11, .int v12])), (qf5, .inr (10, [.ref qf5_0, .ref qf5_1, .ref qf5_2, .ref qf5_3, .ref qf5_4, .ref qf5_5, .ref qf5_6, .ref qf5_7, .ref qf5_8, .ref qf5_9, .int v5_10, .int v5_11, .int v5_12, .int v5_13, .int v5_14, .int v5_15, .int v5_16, .int v5_17, .int v5_18])), (qf0, .inr (9, [.ref qf0_0, .ref qf0_1, .ref qf0_2, .int v0_3, .ref qf0_4, .ref qf0_5, .ref qf0_6, .ref qf0_7, .ref qf0_8, .int v0_9, .int v0_10, .int v0_11, .int v0_12])), (qf0_1, .inl (cf0_1, 3001, .inl f0_1)), (qf4, .inr (1, [.ref qf4_0, .int u1_1, .ref qf4_2, .int v4_3, .int v4_4, .ref qf4_5, .ref qf4_6, .int v4_7, .int v4_8, .ref qf4_9, .int v4_10, .ref qf4_11, .ref qf4_12, .ref qf4_13, .int v4_14, .int v4_15])), (qf4_0, .inl (cf4_0, 1500, .inl g901_0))] H := hP
      replace hD : va_D A [(h0, .inr (0, [.ref qf0, .ref qf1, .ref qf2, .ref qf3, .ref qf4, .ref qf5, .ref qf6, .int v7, .int v8, .int v9, .int v10, .ref qf11, .int v12])), (qf5, .inr (10, [.ref qf5_0, .ref qf5_1, .ref qf5_2, .ref qf5_3, .ref qf5_4, .ref qf5_5, .ref qf5_6, .ref qf5_7, .ref qf5_8, .ref qf5_9, .int v5_10, .int v5_11, .int v5_12, .int v5_13, .int v5_14, .int v5_15, .int v5_16, .int v5_17, .int v5_18])), (qf0, .inr (9, [.ref qf0_0, .ref qf0_1, .ref qf0_2, .int v0_3, .ref qf0_4, .ref qf0_5, .ref qf0_6, .ref qf0_7, .ref qf0_8, .int v0_9, .int v0_10, .int v0_11, .int v0_12])), (qf0_1, .inl (cf0_1, 3001, .inl f0_1)), (qf4, .inr (1, [.ref qf4_0, .int u1_1, .ref qf4_2, .int v4_3, .int v4_4, .ref qf4_5, .ref qf4_6, .int v4_7, .int v4_8, .ref qf4_9, .int v4_10, .ref qf4_11, .ref qf4_12, .ref qf4_13, .int v4_14, .int v4_15])), (qf4_0, .inl (cf4_0, 1500, .inl g901_0))] := hD
      replace hK : va_K (dC, dI) vwCl [(cf0_1, .int), (cf4_0, .byte)] s := hK
      refine lv_aload_n hx hb dX0_closeAlone_43 rfl (lv_at hl 0 rfl) ?_
      refine va_get (D := (dC, dI)) (ci := 0) (v := .ref qf4) (C := RX0) (T := TX0) (N := 13) hx hb hts uV_h4_X0 hown hK hP 0 rfl rfl 4 (by decide) (hts (.fieldLink RX0 16 "ClassMill$Bodies" "code" "LClassMill$Code;") mw_h4_444) (fun _ h9 => h9) rfl dX0_closeAlone_44 ?_
      refine lv_iconst (v := 1) hx hb dX0_closeAlone_47 (by decide) ?_
      obtain ⟨u2_0, hu_2, hsp⟩ := ox_bind hsp
      try dsimp only at hsp
      have hPc := hP.sub (ws' := [(qf4, .inr (1, [.ref qf4_0, .int u1_1, .ref qf4_2, .int v4_3, .int v4_4, .ref qf4_5, .ref qf4_6, .int v4_7, .int v4_8, .ref qf4_9, .int v4_10, .ref qf4_11, .ref qf4_12, .ref qf4_13, .int v4_14, .int v4_15]))]) [4] rfl
      have hDc := hD.sub (ws' := [(qf4, .inr (1, [.ref qf4_0, .int u1_1, .ref qf4_2, .int v4_3, .int v4_4, .ref qf4_5, .ref qf4_6, .int v4_7, .int v4_8, .ref qf4_9, .int v4_10, .ref qf4_11, .ref qf4_12, .ref qf4_13, .int v4_14, .int v4_15]))]) [4] (by decide) rfl
      have hKc := hK.sub (tys' := []) [] rfl
      have hFc := va_free (wc := [(qf4, .inr (1, [.ref qf4_0, .int u1_1, .ref qf4_2, .int v4_3, .int v4_4, .ref qf4_5, .ref qf4_6, .int v4_7, .int v4_8, .ref qf4_9, .int v4_10, .ref qf4_11, .ref qf4_12, .ref qf4_13, .int v4_14, .int v4_15]))]) hD hS hA [4] rfl
      refine va_callv (va_runV (As := [.int 1]) (rest := []) ⟨hx, hb, hml, hown, hts⟩ (t1_pop l dC dI H.size qf4 1 qf4_0 u1_1 qf4_2 v4_3 v4_4 qf4_5 qf4_6 v4_7 v4_8 qf4_9 v4_10 qf4_11 qf4_12 qf4_13 v4_14 v4_15 nf u2_0 hu_2) (cwV 1 hts gv_h4_118 rfl rfl rfl (by decide +kernel) ⟨Nat.le_of_ble_eq_true rfl, Nat.le_of_ble_eq_true rfl⟩) ⟨fun a U g mk q => by obtain ⟨q0, q1, qP, qK, qD⟩ := q; exact ⟨q0, q1, qP, va_K.moved (u := U) (U := U.calling g mk a) (Vm.Alike.refl U.vm) qK, qD⟩, va_recv hKc hPc (ci := 1) (q0 := 0) rfl rfl, fun U hU hW => ⟨rfl, by rw [hU], by rw [hU]; exact hPc, va_K.moved hW.alike hKc, hDc.weaken (fun _ _ _ _ => trivial)⟩⟩ rfl rfl hl.1 rfl (lv_room (Nat.le_of_ble_eq_true rfl)) dX0_closeAlone_48 ⟨Nat.le_of_ble_eq_true rfl, Nat.le_of_ble_eq_true rfl⟩) hS (fun q _ h => hFc q h) hFc ?_
      clear hS
      intro u t H1 locs ht hvm hw hB hz1 hk1 hS
      obtain ⟨⟩ := u
      obtain ⟨hP1, hK1, hD1⟩ := hB
      rw [ht] at hP1
      have hK1 := va_K.moved hvm.symm hK1
      try dsimp only at hw
      have hPD := va_join (wr := [(h0, .inr (0, [.ref qf0, .ref qf1, .ref qf2, .ref qf3, .ref qf4, .ref qf5, .ref qf6, .int v7, .int v8, .int v9, .int v10, .ref qf11, .int v12])), (qf5, .inr (10, [.ref qf5_0, .ref qf5_1, .ref qf5_2, .ref qf5_3, .ref qf5_4, .ref qf5_5, .ref qf5_6, .ref qf5_7, .ref qf5_8, .ref qf5_9, .int v5_10, .int v5_11, .int v5_12, .int v5_13, .int v5_14, .int v5_15, .int v5_16, .int v5_17, .int v5_18])), (qf0, .inr (9, [.ref qf0_0, .ref qf0_1, .ref qf0_2, .int v0_3, .ref qf0_4, .ref qf0_5, .ref qf0_6, .ref qf0_7, .ref qf0_8, .int v0_9, .int v0_10, .int v0_11, .int v0_12])), (qf0_1, .inl (cf0_1, 3001, .inl f0_1)), (qf4_0, .inl (cf4_0, 1500, .inl g901_0))]) (w1 := [(qf4, .inr (1, [.ref qf4_0, .int u1_1, .ref qf4_2, .int u2_0, .int v4_4, .ref qf4_5, .ref qf4_6, .int v4_7, .int v4_8, .ref qf4_9, .int v4_10, .ref qf4_11, .ref qf4_12, .ref qf4_13, .int v4_14, .int v4_15]))]) hP hD [4] [0, 1, 2, 3, 5] rfl rfl (by decide) (by decide) hk1 hFc hP1 hD1
      clear hP hD
      obtain ⟨hP, hD⟩ := hPD
      replace hK := (hK.sub (tys' := [(cf0_1, .int), (cf4_0, .byte)]) [0, 1] rfl).app hK1
      clear hPc hDc hKc hFc hP1 hK1 hD1 hz1 hk1 ht hvm
      generalize H1 = H at hP hS ⊢
      replace hP : va_P (dC, dI) vwCl [(h0, .inr (0, [.ref qf0, .ref qf1, .ref qf2, .ref qf3, .ref qf4, .ref qf5, .ref qf6, .int v7, .int v8, .int v9, .int v10, .ref qf11, .int v12])), (qf5, .inr (10, [.ref qf5_0, .ref qf5_1, .ref qf5_2, .ref qf5_3, .ref qf5_4, .ref qf5_5, .ref qf5_6, .ref qf5_7, .ref qf5_8, .ref qf5_9, .int v5_10, .int v5_11, .int v5_12, .int v5_13, .int v5_14, .int v5_15, .int v5_16, .int v5_17, .int v5_18])), (qf0, .inr (9, [.ref qf0_0, .ref qf0_1, .ref qf0_2, .int v0_3, .ref qf0_4, .ref qf0_5, .ref qf0_6, .ref qf0_7, .ref qf0_8, .int v0_9, .int v0_10, .int v0_11, .int v0_12])), (qf0_1, .inl (cf0_1, 3001, .inl f0_1)), (qf4_0, .inl (cf4_0, 1500, .inl g901_0)), (qf4, .inr (1, [.ref qf4_0, .int u1_1, .ref qf4_2, .int u2_0, .int v4_4, .ref qf4_5, .ref qf4_6, .int v4_7, .int v4_8, .ref qf4_9, .int v4_10, .ref qf4_11, .ref qf4_12, .ref qf4_13, .int v4_14, .int v4_15]))] H := hP
      replace hD : va_D A [(h0, .inr (0, [.ref qf0, .ref qf1, .ref qf2, .ref qf3, .ref qf4, .ref qf5, .ref qf6, .int v7, .int v8, .int v9, .int v10, .ref qf11, .int v12])), (qf5, .inr (10, [.ref qf5_0, .ref qf5_1, .ref qf5_2, .ref qf5_3, .ref qf5_4, .ref qf5_5, .ref qf5_6, .ref qf5_7, .ref qf5_8, .ref qf5_9, .int v5_10, .int v5_11, .int v5_12, .int v5_13, .int v5_14, .int v5_15, .int v5_16, .int v5_17, .int v5_18])), (qf0, .inr (9, [.ref qf0_0, .ref qf0_1, .ref qf0_2, .int v0_3, .ref qf0_4, .ref qf0_5, .ref qf0_6, .ref qf0_7, .ref qf0_8, .int v0_9, .int v0_10, .int v0_11, .int v0_12])), (qf0_1, .inl (cf0_1, 3001, .inl f0_1)), (qf4_0, .inl (cf4_0, 1500, .inl g901_0)), (qf4, .inr (1, [.ref qf4_0, .int u1_1, .ref qf4_2, .int u2_0, .int v4_4, .ref qf4_5, .ref qf4_6, .int v4_7, .int v4_8, .ref qf4_9, .int v4_10, .ref qf4_11, .ref qf4_12, .ref qf4_13, .int v4_14, .int v4_15]))] := hD
      replace hK : va_K (dC, dI) vwCl [(cf0_1, .int), (cf4_0, .byte)] s := hK
      have hr0 := Option.some.inj hsp
      clear hsp
      obtain ⟨hq0, hr1⟩ := Prod.mk.inj hr0
      clear hr0
      obtain ⟨hq1, hr2⟩ := Prod.mk.inj hr1
      clear hr1
      obtain ⟨hq2, hr3⟩ := Prod.mk.inj hr2
      clear hr2
      obtain ⟨hq3, hr4⟩ := Prod.mk.inj hr3
      clear hr3
      subst hq0
      subst hq1
      subst hq2
      subst hq3
      subst hr4
      have hP9 := hP.sub (ws' := [(h0, .inr (0, [.ref qf0, .ref qf1, .ref qf2, .ref qf3, .ref qf4, .ref qf5, .ref qf6, .int v7, .int v8, .int v9, .int v10, .ref qf11, .int v12])), (qf5, .inr (10, [.ref qf5_0, .ref qf5_1, .ref qf5_2, .ref qf5_3, .ref qf5_4, .ref qf5_5, .ref qf5_6, .ref qf5_7, .ref qf5_8, .ref qf5_9, .int v5_10, .int v5_11, .int v5_12, .int v5_13, .int v5_14, .int v5_15, .int v5_16, .int v5_17, .int v5_18])), (qf4, .inr (1, [.ref qf4_0, .int u1_1, .ref qf4_2, .int u2_0, .int v4_4, .ref qf4_5, .ref qf4_6, .int v4_7, .int v4_8, .ref qf4_9, .int v4_10, .ref qf4_11, .ref qf4_12, .ref qf4_13, .int v4_14, .int v4_15])), (qf4_0, .inl (cf4_0, 1500, .inl g901_0)), (qf0, .inr (9, [.ref qf0_0, .ref qf0_1, .ref qf0_2, .int v0_3, .ref qf0_4, .ref qf0_5, .ref qf0_6, .ref qf0_7, .ref qf0_8, .int v0_9, .int v0_10, .int v0_11, .int v0_12])), (qf0_1, .inl (cf0_1, 3001, .inl f0_1))]) [0, 1, 5, 4, 2, 3] rfl
      have hD9 := hD.sub (ws' := [(h0, .inr (0, [.ref qf0, .ref qf1, .ref qf2, .ref qf3, .ref qf4, .ref qf5, .ref qf6, .int v7, .int v8, .int v9, .int v10, .ref qf11, .int v12])), (qf5, .inr (10, [.ref qf5_0, .ref qf5_1, .ref qf5_2, .ref qf5_3, .ref qf5_4, .ref qf5_5, .ref qf5_6, .ref qf5_7, .ref qf5_8, .ref qf5_9, .int v5_10, .int v5_11, .int v5_12, .int v5_13, .int v5_14, .int v5_15, .int v5_16, .int v5_17, .int v5_18])), (qf4, .inr (1, [.ref qf4_0, .int u1_1, .ref qf4_2, .int u2_0, .int v4_4, .ref qf4_5, .ref qf4_6, .int v4_7, .int v4_8, .ref qf4_9, .int v4_10, .ref qf4_11, .ref qf4_12, .ref qf4_13, .int v4_14, .int v4_15])), (qf4_0, .inl (cf4_0, 1500, .inl g901_0)), (qf0, .inr (9, [.ref qf0_0, .ref qf0_1, .ref qf0_2, .int v0_3, .ref qf0_4, .ref qf0_5, .ref qf0_6, .ref qf0_7, .ref qf0_8, .int v0_9, .int v0_10, .int v0_11, .int v0_12])), (qf0_1, .inl (cf0_1, 3001, .inl f0_1))]) [0, 1, 5, 4, 2, 3] (by decide) rfl
      have hK9 := hK.sub (tys' := [(cf4_0, .byte), (cf0_1, .int)]) [1, 0] rfl
      exact W.vret hx hb hr (fun t ht hW => ⟨⟨(), rfl, trivial, by rw [ht]; exact hP9, va_K.moved hW.alike hK9, hD9⟩, hS.F ht⟩) hS.2.2 dX0_closeAlone_51
  · rw [if_neg c_1] at hsp
    refine lv_aload_n hx hb dX0_closeAlone_11 rfl (lv_at hl 0 rfl) ?_
    refine va_get (D := (dC, dI)) (ci := 0) (v := .ref qf0) (C := RX0) (T := TX0) (N := 13) hx hb hts uV_h4_X0 hown hK hP 0 rfl rfl 0 (by decide) (hts (.fieldLink RX0 34 "ClassMill$Bodies" "text" "LClassMill$Text;") mw_h4_396) (fun _ h9 => h9) rfl dX0_closeAlone_12 ?_
    refine lv_bipush (v := 6) hx hb dX0_closeAlone_15 (by decide) ?_
    refine lv_iload_n hx hb dX0_closeAlone_17 rfl (lv_at hl 1 rfl) ?_
    obtain ⟨⟨u3_0, u3_1⟩, hu_3, hsp⟩ := ox_bind hsp
    try dsimp only at hsp
    have hPc := hP.sub (ws' := [(qf0, .inr (9, [.ref qf0_0, .ref qf0_1, .ref qf0_2, .int v0_3, .ref qf0_4, .ref qf0_5, .ref qf0_6, .ref qf0_7, .ref qf0_8, .int v0_9, .int v0_10, .int v0_11, .int v0_12])), (qf0_1, .inl (cf0_1, 3001, .inl f0_1))]) [4, 5] rfl
    have hDc := hD.sub (ws' := [(qf0, .inr (9, [.ref qf0_0, .ref qf0_1, .ref qf0_2, .int v0_3, .ref qf0_4, .ref qf0_5, .ref qf0_6, .ref qf0_7, .ref qf0_8, .int v0_9, .int v0_10, .int v0_11, .int v0_12])), (qf0_1, .inl (cf0_1, 3001, .inl f0_1))]) [4, 5] (by decide) rfl
    have hKc := hK.sub (tys' := [(cf0_1, .int)]) [1] rfl
    have hFc := va_free (wc := [(qf0, .inr (9, [.ref qf0_0, .ref qf0_1, .ref qf0_2, .int v0_3, .ref qf0_4, .ref qf0_5, .ref qf0_6, .ref qf0_7, .ref qf0_8, .int v0_9, .int v0_10, .int v0_11, .int v0_12])), (qf0_1, .inl (cf0_1, 3001, .inl f0_1))]) hD hS hA [4, 5] rfl
    refine va_callv (va_runV (As := [.int 6, .int a1]) (rest := []) ⟨hx, hb, hml, hown, hts⟩ (t9_tell l dC dI H.size qf0 6 a1 qf0_0 qf0_1 qf0_2 v0_3 qf0_4 qf0_5 qf0_6 qf0_7 qf0_8 v0_9 v0_10 v0_11 v0_12 cf0_1 f0_1 nf u3_0 u3_1 hu_3) (cwV 2 hts gv_h4_97 rfl rfl rfl (by decide +kernel) ⟨Nat.le_of_ble_eq_true rfl, Nat.le_of_ble_eq_true rfl⟩) ⟨fun a U g mk q => by obtain ⟨q0, q1, qP, qK, qD⟩ := q; exact ⟨q0, q1, qP, va_K.moved (u := U) (U := U.calling g mk a) (Vm.Alike.refl U.vm) qK, qD⟩, va_recv hKc hPc (ci := 9) (q0 := 0) rfl rfl, fun U hU hW => ⟨rfl, by rw [hU], by rw [hU]; exact hPc, va_K.moved hW.alike hKc, hDc.weaken (fun _ _ _ _ => trivial)⟩⟩ rfl rfl hl.1 rfl (lv_room (Nat.le_of_ble_eq_true rfl)) dX0_closeAlone_18 ⟨Nat.le_of_ble_eq_true rfl, Nat.le_of_ble_eq_true rfl⟩) hS (fun q _ h => hFc q h) hFc ?_
    clear hS
    intro u t H1 locs ht hvm hw hB hz1 hk1 hS
    obtain ⟨⟩ := u
    obtain ⟨hP1, hK1, hD1⟩ := hB
    rw [ht] at hP1
    have hK1 := va_K.moved hvm.symm hK1
    try dsimp only at hw
    have hPD := va_join (wr := [(h0, .inr (0, [.ref qf0, .ref qf1, .ref qf2, .ref qf3, .ref qf4, .ref qf5, .ref qf6, .int v7, .int v8, .int v9, .int v10, .ref qf11, .int v12])), (qf5, .inr (10, [.ref qf5_0, .ref qf5_1, .ref qf5_2, .ref qf5_3, .ref qf5_4, .ref qf5_5, .ref qf5_6, .ref qf5_7, .ref qf5_8, .ref qf5_9, .int v5_10, .int v5_11, .int v5_12, .int v5_13, .int v5_14, .int v5_15, .int v5_16, .int v5_17, .int v5_18])), (qf4, .inr (1, [.ref qf4_0, .int v4_1, .ref qf4_2, .int v4_3, .int v4_4, .ref qf4_5, .ref qf4_6, .int v4_7, .int v4_8, .ref qf4_9, .int v4_10, .ref qf4_11, .ref qf4_12, .ref qf4_13, .int v4_14, .int v4_15])), (qf4_0, .inl (cf4_0, 1500, .inl f4_0))]) (w1 := [(qf0, .inr (9, [.ref qf0_0, .ref qf0_1, .ref qf0_2, .int v0_3, .ref qf0_4, .ref qf0_5, .ref qf0_6, .ref qf0_7, .ref qf0_8, .int v0_9, .int v0_10, .int u3_0, .int u3_1])), (qf0_1, .inl (cf0_1, 3001, .inl f0_1))]) hP hD [4, 5] [0, 1, 2, 3] rfl rfl (by decide) (by decide) hk1 hFc hP1 hD1
    clear hP hD
    obtain ⟨hP, hD⟩ := hPD
    replace hK := (hK.sub (tys' := [(cf4_0, .byte)]) [0] rfl).app hK1
    clear hPc hDc hKc hFc hP1 hK1 hD1 hz1 hk1 ht hvm
    generalize H1 = H at hP hS ⊢
    replace hP : va_P (dC, dI) vwCl [(h0, .inr (0, [.ref qf0, .ref qf1, .ref qf2, .ref qf3, .ref qf4, .ref qf5, .ref qf6, .int v7, .int v8, .int v9, .int v10, .ref qf11, .int v12])), (qf5, .inr (10, [.ref qf5_0, .ref qf5_1, .ref qf5_2, .ref qf5_3, .ref qf5_4, .ref qf5_5, .ref qf5_6, .ref qf5_7, .ref qf5_8, .ref qf5_9, .int v5_10, .int v5_11, .int v5_12, .int v5_13, .int v5_14, .int v5_15, .int v5_16, .int v5_17, .int v5_18])), (qf4, .inr (1, [.ref qf4_0, .int v4_1, .ref qf4_2, .int v4_3, .int v4_4, .ref qf4_5, .ref qf4_6, .int v4_7, .int v4_8, .ref qf4_9, .int v4_10, .ref qf4_11, .ref qf4_12, .ref qf4_13, .int v4_14, .int v4_15])), (qf4_0, .inl (cf4_0, 1500, .inl f4_0)), (qf0, .inr (9, [.ref qf0_0, .ref qf0_1, .ref qf0_2, .int v0_3, .ref qf0_4, .ref qf0_5, .ref qf0_6, .ref qf0_7, .ref qf0_8, .int v0_9, .int v0_10, .int u3_0, .int u3_1])), (qf0_1, .inl (cf0_1, 3001, .inl f0_1))] H := hP
    replace hD : va_D A [(h0, .inr (0, [.ref qf0, .ref qf1, .ref qf2, .ref qf3, .ref qf4, .ref qf5, .ref qf6, .int v7, .int v8, .int v9, .int v10, .ref qf11, .int v12])), (qf5, .inr (10, [.ref qf5_0, .ref qf5_1, .ref qf5_2, .ref qf5_3, .ref qf5_4, .ref qf5_5, .ref qf5_6, .ref qf5_7, .ref qf5_8, .ref qf5_9, .int v5_10, .int v5_11, .int v5_12, .int v5_13, .int v5_14, .int v5_15, .int v5_16, .int v5_17, .int v5_18])), (qf4, .inr (1, [.ref qf4_0, .int v4_1, .ref qf4_2, .int v4_3, .int v4_4, .ref qf4_5, .ref qf4_6, .int v4_7, .int v4_8, .ref qf4_9, .int v4_10, .ref qf4_11, .ref qf4_12, .ref qf4_13, .int v4_14, .int v4_15])), (qf4_0, .inl (cf4_0, 1500, .inl f4_0)), (qf0, .inr (9, [.ref qf0_0, .ref qf0_1, .ref qf0_2, .int v0_3, .ref qf0_4, .ref qf0_5, .ref qf0_6, .ref qf0_7, .ref qf0_8, .int v0_9, .int v0_10, .int u3_0, .int u3_1])), (qf0_1, .inl (cf0_1, 3001, .inl f0_1))] := hD
    replace hK : va_K (dC, dI) vwCl [(cf4_0, .byte), (cf0_1, .int)] s := hK
    refine lv_aload_n hx hb dX0_closeAlone_21 rfl (lv_at hl 0 rfl) ?_
    refine va_get (D := (dC, dI)) (ci := 0) (v := .ref qf5) (C := RX0) (T := TX0) (N := 13) hx hb hts uV_h4_X0 hown hK hP 0 rfl rfl 5 (by decide) (hts (.fieldLink RX0 61 "ClassMill$Bodies" "values" "LClassMill$Values;") mw_h4_451) (fun _ h9 => h9) rfl dX0_closeAlone_22 ?_
    refine va_get (D := (dC, dI)) (ci := 10) (v := .int v5_12) (C := RX10) (T := TX10) (N := 19) hx hb hts uV_h4_X10 hown hK hP 1 rfl rfl 12 (by decide) (hts (.fieldLink RX0 245 "ClassMill$Values" "type" "I") mw_h4_453) (fun _ h9 => h9) rfl dX0_closeAlone_25 ?_
    refine lv_sipush (v := 303) hx hb dX0_closeAlone_28 (by decide) ?_
    refine lv_icmp_eq (tgt := 51) hx hb dX0_closeAlone_31 (by decide) (fun c_3 => ?_) (fun c_3 => ?_)
    · rw [if_pos c_3] at hsp
      have hr0 := Option.some.inj hsp
      clear hsp
      obtain ⟨hq0, hr1⟩ := Prod.mk.inj hr0
      clear hr0
      obtain ⟨hq1, hr2⟩ := Prod.mk.inj hr1
      clear hr1
      obtain ⟨hq2, hr3⟩ := Prod.mk.inj hr2
      clear hr2
      obtain ⟨hq3, hr4⟩ := Prod.mk.inj hr3
      clear hr3
      subst hq0
      subst hq1
      subst hq2
      subst hq3
      subst hr4
      have hP9 := hP.sub (ws' := [(h0, .inr (0, [.ref qf0, .ref qf1, .ref qf2, .ref qf3, .ref qf4, .ref qf5, .ref qf6, .int v7, .int v8, .int v9, .int v10, .ref qf11, .int v12])), (qf5, .inr (10, [.ref qf5_0, .ref qf5_1, .ref qf5_2, .ref qf5_3, .ref qf5_4, .ref qf5_5, .ref qf5_6, .ref qf5_7, .ref qf5_8, .ref qf5_9, .int v5_10, .int v5_11, .int v5_12, .int v5_13, .int v5_14, .int v5_15, .int v5_16, .int v5_17, .int v5_18])), (qf4, .inr (1, [.ref qf4_0, .int v4_1, .ref qf4_2, .int v4_3, .int v4_4, .ref qf4_5, .ref qf4_6, .int v4_7, .int v4_8, .ref qf4_9, .int v4_10, .ref qf4_11, .ref qf4_12, .ref qf4_13, .int v4_14, .int v4_15])), (qf4_0, .inl (cf4_0, 1500, .inl f4_0)), (qf0, .inr (9, [.ref qf0_0, .ref qf0_1, .ref qf0_2, .int v0_3, .ref qf0_4, .ref qf0_5, .ref qf0_6, .ref qf0_7, .ref qf0_8, .int v0_9, .int v0_10, .int u3_0, .int u3_1])), (qf0_1, .inl (cf0_1, 3001, .inl f0_1))]) [0, 1, 2, 3, 4, 5] rfl
      have hD9 := hD.sub (ws' := [(h0, .inr (0, [.ref qf0, .ref qf1, .ref qf2, .ref qf3, .ref qf4, .ref qf5, .ref qf6, .int v7, .int v8, .int v9, .int v10, .ref qf11, .int v12])), (qf5, .inr (10, [.ref qf5_0, .ref qf5_1, .ref qf5_2, .ref qf5_3, .ref qf5_4, .ref qf5_5, .ref qf5_6, .ref qf5_7, .ref qf5_8, .ref qf5_9, .int v5_10, .int v5_11, .int v5_12, .int v5_13, .int v5_14, .int v5_15, .int v5_16, .int v5_17, .int v5_18])), (qf4, .inr (1, [.ref qf4_0, .int v4_1, .ref qf4_2, .int v4_3, .int v4_4, .ref qf4_5, .ref qf4_6, .int v4_7, .int v4_8, .ref qf4_9, .int v4_10, .ref qf4_11, .ref qf4_12, .ref qf4_13, .int v4_14, .int v4_15])), (qf4_0, .inl (cf4_0, 1500, .inl f4_0)), (qf0, .inr (9, [.ref qf0_0, .ref qf0_1, .ref qf0_2, .int v0_3, .ref qf0_4, .ref qf0_5, .ref qf0_6, .ref qf0_7, .ref qf0_8, .int v0_9, .int v0_10, .int u3_0, .int u3_1])), (qf0_1, .inl (cf0_1, 3001, .inl f0_1))]) [0, 1, 2, 3, 4, 5] (by decide) rfl
      have hK9 := hK.sub (tys' := [(cf4_0, .byte), (cf0_1, .int)]) [0, 1] rfl
      exact W.vret hx hb hr (fun t ht hW => ⟨⟨(), rfl, trivial, by rw [ht]; exact hP9, va_K.moved hW.alike hK9, hD9⟩, hS.F ht⟩) hS.2.2 dX0_closeAlone_51
    · rw [if_neg c_3] at hsp
      refine lv_aload_n hx hb dX0_closeAlone_34 rfl (lv_at hl 0 rfl) ?_
      refine va_get (D := (dC, dI)) (ci := 0) (v := .ref qf4) (C := RX0) (T := TX0) (N := 13) hx hb hts uV_h4_X0 hown hK hP 0 rfl rfl 4 (by decide) (hts (.fieldLink RX0 16 "ClassMill$Bodies" "code" "LClassMill$Code;") mw_h4_444) (fun _ h9 => h9) rfl dX0_closeAlone_35 ?_
      refine lv_bipush (v := 87) hx hb dX0_closeAlone_38 (by decide) ?_
      obtain ⟨⟨g904_0, u4_1⟩, hu_4, hsp⟩ := ox_bind hsp
      try dsimp only at hsp
      have hPc := hP.sub (ws' := [(qf4, .inr (1, [.ref qf4_0, .int v4_1, .ref qf4_2, .int v4_3, .int v4_4, .ref qf4_5, .ref qf4_6, .int v4_7, .int v4_8, .ref qf4_9, .int v4_10, .ref qf4_11, .ref qf4_12, .ref qf4_13, .int v4_14, .int v4_15])), (qf4_0, .inl (cf4_0, 1500, .inl f4_0))]) [2, 3] rfl
      have hDc := hD.sub (ws' := [(qf4, .inr (1, [.ref qf4_0, .int v4_1, .ref qf4_2, .int v4_3, .int v4_4, .ref qf4_5, .ref qf4_6, .int v4_7, .int v4_8, .ref qf4_9, .int v4_10, .ref qf4_11, .ref qf4_12, .ref qf4_13, .int v4_14, .int v4_15])), (qf4_0, .inl (cf4_0, 1500, .inl f4_0))]) [2, 3] (by decide) rfl
      have hKc := hK.sub (tys' := [(cf4_0, .byte)]) [0] rfl
      have hFc := va_free (wc := [(qf4, .inr (1, [.ref qf4_0, .int v4_1, .ref qf4_2, .int v4_3, .int v4_4, .ref qf4_5, .ref qf4_6, .int v4_7, .int v4_8, .ref qf4_9, .int v4_10, .ref qf4_11, .ref qf4_12, .ref qf4_13, .int v4_14, .int v4_15])), (qf4_0, .inl (cf4_0, 1500, .inl f4_0))]) hD hS hA [2, 3] rfl
      refine va_callv (va_runV (As := [.int 87]) (rest := []) ⟨hx, hb, hml, hown, hts⟩ (t1_op l dC dI H.size qf4 87 qf4_0 v4_1 qf4_2 v4_3 v4_4 qf4_5 qf4_6 v4_7 v4_8 qf4_9 v4_10 qf4_11 qf4_12 qf4_13 v4_14 v4_15 cf4_0 f4_0 nf g904_0 u4_1 hu_4) (cwV 1 hts gv_h4_113 rfl rfl rfl (by decide +kernel) ⟨Nat.le_of_ble_eq_true rfl, Nat.le_of_ble_eq_true rfl⟩) ⟨fun a U g mk q => by obtain ⟨q0, q1, qP, qK, qD⟩ := q; exact ⟨q0, q1, qP, va_K.moved (u := U) (U := U.calling g mk a) (Vm.Alike.refl U.vm) qK, qD⟩, va_recv hKc hPc (ci := 1) (q0 := 0) rfl rfl, fun U hU hW => ⟨rfl, by rw [hU], by rw [hU]; exact hPc, va_K.moved hW.alike hKc, hDc.weaken (fun _ _ _ _ => trivial)⟩⟩ rfl rfl hl.1 rfl (lv_room (Nat.le_of_ble_eq_true rfl)) dX0_closeAlone_40 ⟨Nat.le_of_ble_eq_true rfl, Nat.le_of_ble_eq_true rfl⟩) hS (fun q _ h => hFc q h) hFc ?_
      clear hS
      intro u t H1 locs ht hvm hw hB hz1 hk1 hS
      obtain ⟨⟩ := u
      obtain ⟨hP1, hK1, hD1⟩ := hB
      rw [ht] at hP1
      have hK1 := va_K.moved hvm.symm hK1
      try dsimp only at hw
      have hPD := va_join (wr := [(h0, .inr (0, [.ref qf0, .ref qf1, .ref qf2, .ref qf3, .ref qf4, .ref qf5, .ref qf6, .int v7, .int v8, .int v9, .int v10, .ref qf11, .int v12])), (qf5, .inr (10, [.ref qf5_0, .ref qf5_1, .ref qf5_2, .ref qf5_3, .ref qf5_4, .ref qf5_5, .ref qf5_6, .ref qf5_7, .ref qf5_8, .ref qf5_9, .int v5_10, .int v5_11, .int v5_12, .int v5_13, .int v5_14, .int v5_15, .int v5_16, .int v5_17, .int v5_18])), (qf0, .inr (9, [.ref qf0_0, .ref qf0_1, .ref qf0_2, .int v0_3, .ref qf0_4, .ref qf0_5, .ref qf0_6, .ref qf0_7, .ref qf0_8, .int v0_9, .int v0_10, .int u3_0, .int u3_1])), (qf0_1, .inl (cf0_1, 3001, .inl f0_1))]) (w1 := [(qf4, .inr (1, [.ref qf4_0, .int u4_1, .ref qf4_2, .int v4_3, .int v4_4, .ref qf4_5, .ref qf4_6, .int v4_7, .int v4_8, .ref qf4_9, .int v4_10, .ref qf4_11, .ref qf4_12, .ref qf4_13, .int v4_14, .int v4_15])), (qf4_0, .inl (cf4_0, 1500, .inl g904_0))]) hP hD [2, 3] [0, 1, 4, 5] rfl rfl (by decide) (by decide) hk1 hFc hP1 hD1
      clear hP hD
      obtain ⟨hP, hD⟩ := hPD
      replace hK := (hK.sub (tys' := [(cf0_1, .int)]) [1] rfl).app hK1
      clear hPc hDc hKc hFc hP1 hK1 hD1 hz1 hk1 ht hvm
      generalize H1 = H at hP hS ⊢
      replace hP : va_P (dC, dI) vwCl [(h0, .inr (0, [.ref qf0, .ref qf1, .ref qf2, .ref qf3, .ref qf4, .ref qf5, .ref qf6, .int v7, .int v8, .int v9, .int v10, .ref qf11, .int v12])), (qf5, .inr (10, [.ref qf5_0, .ref qf5_1, .ref qf5_2, .ref qf5_3, .ref qf5_4, .ref qf5_5, .ref qf5_6, .ref qf5_7, .ref qf5_8, .ref qf5_9, .int v5_10, .int v5_11, .int v5_12, .int v5_13, .int v5_14, .int v5_15, .int v5_16, .int v5_17, .int v5_18])), (qf0, .inr (9, [.ref qf0_0, .ref qf0_1, .ref qf0_2, .int v0_3, .ref qf0_4, .ref qf0_5, .ref qf0_6, .ref qf0_7, .ref qf0_8, .int v0_9, .int v0_10, .int u3_0, .int u3_1])), (qf0_1, .inl (cf0_1, 3001, .inl f0_1)), (qf4, .inr (1, [.ref qf4_0, .int u4_1, .ref qf4_2, .int v4_3, .int v4_4, .ref qf4_5, .ref qf4_6, .int v4_7, .int v4_8, .ref qf4_9, .int v4_10, .ref qf4_11, .ref qf4_12, .ref qf4_13, .int v4_14, .int v4_15])), (qf4_0, .inl (cf4_0, 1500, .inl g904_0))] H := hP
      replace hD : va_D A [(h0, .inr (0, [.ref qf0, .ref qf1, .ref qf2, .ref qf3, .ref qf4, .ref qf5, .ref qf6, .int v7, .int v8, .int v9, .int v10, .ref qf11, .int v12])), (qf5, .inr (10, [.ref qf5_0, .ref qf5_1, .ref qf5_2, .ref qf5_3, .ref qf5_4, .ref qf5_5, .ref qf5_6, .ref qf5_7, .ref qf5_8, .ref qf5_9, .int v5_10, .int v5_11, .int v5_12, .int v5_13, .int v5_14, .int v5_15, .int v5_16, .int v5_17, .int v5_18])), (qf0, .inr (9, [.ref qf0_0, .ref qf0_1, .ref qf0_2, .int v0_3, .ref qf0_4, .ref qf0_5, .ref qf0_6, .ref qf0_7, .ref qf0_8, .int v0_9, .int v0_10, .int u3_0, .int u3_1])), (qf0_1, .inl (cf0_1, 3001, .inl f0_1)), (qf4, .inr (1, [.ref qf4_0, .int u4_1, .ref qf4_2, .int v4_3, .int v4_4, .ref qf4_5, .ref qf4_6, .int v4_7, .int v4_8, .ref qf4_9, .int v4_10, .ref qf4_11, .ref qf4_12, .ref qf4_13, .int v4_14, .int v4_15])), (qf4_0, .inl (cf4_0, 1500, .inl g904_0))] := hD
      replace hK : va_K (dC, dI) vwCl [(cf0_1, .int), (cf4_0, .byte)] s := hK
      refine lv_aload_n hx hb dX0_closeAlone_43 rfl (lv_at hl 0 rfl) ?_
      refine va_get (D := (dC, dI)) (ci := 0) (v := .ref qf4) (C := RX0) (T := TX0) (N := 13) hx hb hts uV_h4_X0 hown hK hP 0 rfl rfl 4 (by decide) (hts (.fieldLink RX0 16 "ClassMill$Bodies" "code" "LClassMill$Code;") mw_h4_444) (fun _ h9 => h9) rfl dX0_closeAlone_44 ?_
      refine lv_iconst (v := 1) hx hb dX0_closeAlone_47 (by decide) ?_
      obtain ⟨u5_0, hu_5, hsp⟩ := ox_bind hsp
      try dsimp only at hsp
      have hPc := hP.sub (ws' := [(qf4, .inr (1, [.ref qf4_0, .int u4_1, .ref qf4_2, .int v4_3, .int v4_4, .ref qf4_5, .ref qf4_6, .int v4_7, .int v4_8, .ref qf4_9, .int v4_10, .ref qf4_11, .ref qf4_12, .ref qf4_13, .int v4_14, .int v4_15]))]) [4] rfl
      have hDc := hD.sub (ws' := [(qf4, .inr (1, [.ref qf4_0, .int u4_1, .ref qf4_2, .int v4_3, .int v4_4, .ref qf4_5, .ref qf4_6, .int v4_7, .int v4_8, .ref qf4_9, .int v4_10, .ref qf4_11, .ref qf4_12, .ref qf4_13, .int v4_14, .int v4_15]))]) [4] (by decide) rfl
      have hKc := hK.sub (tys' := []) [] rfl
      have hFc := va_free (wc := [(qf4, .inr (1, [.ref qf4_0, .int u4_1, .ref qf4_2, .int v4_3, .int v4_4, .ref qf4_5, .ref qf4_6, .int v4_7, .int v4_8, .ref qf4_9, .int v4_10, .ref qf4_11, .ref qf4_12, .ref qf4_13, .int v4_14, .int v4_15]))]) hD hS hA [4] rfl
      refine va_callv (va_runV (As := [.int 1]) (rest := []) ⟨hx, hb, hml, hown, hts⟩ (t1_pop l dC dI H.size qf4 1 qf4_0 u4_1 qf4_2 v4_3 v4_4 qf4_5 qf4_6 v4_7 v4_8 qf4_9 v4_10 qf4_11 qf4_12 qf4_13 v4_14 v4_15 nf u5_0 hu_5) (cwV 1 hts gv_h4_118 rfl rfl rfl (by decide +kernel) ⟨Nat.le_of_ble_eq_true rfl, Nat.le_of_ble_eq_true rfl⟩) ⟨fun a U g mk q => by obtain ⟨q0, q1, qP, qK, qD⟩ := q; exact ⟨q0, q1, qP, va_K.moved (u := U) (U := U.calling g mk a) (Vm.Alike.refl U.vm) qK, qD⟩, va_recv hKc hPc (ci := 1) (q0 := 0) rfl rfl, fun U hU hW => ⟨rfl, by rw [hU], by rw [hU]; exact hPc, va_K.moved hW.alike hKc, hDc.weaken (fun _ _ _ _ => trivial)⟩⟩ rfl rfl hl.1 rfl (lv_room (Nat.le_of_ble_eq_true rfl)) dX0_closeAlone_48 ⟨Nat.le_of_ble_eq_true rfl, Nat.le_of_ble_eq_true rfl⟩) hS (fun q _ h => hFc q h) hFc ?_
      clear hS
      intro u t H1 locs ht hvm hw hB hz1 hk1 hS
      obtain ⟨⟩ := u
      obtain ⟨hP1, hK1, hD1⟩ := hB
      rw [ht] at hP1
      have hK1 := va_K.moved hvm.symm hK1
      try dsimp only at hw
      have hPD := va_join (wr := [(h0, .inr (0, [.ref qf0, .ref qf1, .ref qf2, .ref qf3, .ref qf4, .ref qf5, .ref qf6, .int v7, .int v8, .int v9, .int v10, .ref qf11, .int v12])), (qf5, .inr (10, [.ref qf5_0, .ref qf5_1, .ref qf5_2, .ref qf5_3, .ref qf5_4, .ref qf5_5, .ref qf5_6, .ref qf5_7, .ref qf5_8, .ref qf5_9, .int v5_10, .int v5_11, .int v5_12, .int v5_13, .int v5_14, .int v5_15, .int v5_16, .int v5_17, .int v5_18])), (qf0, .inr (9, [.ref qf0_0, .ref qf0_1, .ref qf0_2, .int v0_3, .ref qf0_4, .ref qf0_5, .ref qf0_6, .ref qf0_7, .ref qf0_8, .int v0_9, .int v0_10, .int u3_0, .int u3_1])), (qf0_1, .inl (cf0_1, 3001, .inl f0_1)), (qf4_0, .inl (cf4_0, 1500, .inl g904_0))]) (w1 := [(qf4, .inr (1, [.ref qf4_0, .int u4_1, .ref qf4_2, .int u5_0, .int v4_4, .ref qf4_5, .ref qf4_6, .int v4_7, .int v4_8, .ref qf4_9, .int v4_10, .ref qf4_11, .ref qf4_12, .ref qf4_13, .int v4_14, .int v4_15]))]) hP hD [4] [0, 1, 2, 3, 5] rfl rfl (by decide) (by decide) hk1 hFc hP1 hD1
      clear hP hD
      obtain ⟨hP, hD⟩ := hPD
      replace hK := (hK.sub (tys' := [(cf0_1, .int), (cf4_0, .byte)]) [0, 1] rfl).app hK1
      clear hPc hDc hKc hFc hP1 hK1 hD1 hz1 hk1 ht hvm
      generalize H1 = H at hP hS ⊢
      replace hP : va_P (dC, dI) vwCl [(h0, .inr (0, [.ref qf0, .ref qf1, .ref qf2, .ref qf3, .ref qf4, .ref qf5, .ref qf6, .int v7, .int v8, .int v9, .int v10, .ref qf11, .int v12])), (qf5, .inr (10, [.ref qf5_0, .ref qf5_1, .ref qf5_2, .ref qf5_3, .ref qf5_4, .ref qf5_5, .ref qf5_6, .ref qf5_7, .ref qf5_8, .ref qf5_9, .int v5_10, .int v5_11, .int v5_12, .int v5_13, .int v5_14, .int v5_15, .int v5_16, .int v5_17, .int v5_18])), (qf0, .inr (9, [.ref qf0_0, .ref qf0_1, .ref qf0_2, .int v0_3, .ref qf0_4, .ref qf0_5, .ref qf0_6, .ref qf0_7, .ref qf0_8, .int v0_9, .int v0_10, .int u3_0, .int u3_1])), (qf0_1, .inl (cf0_1, 3001, .inl f0_1)), (qf4_0, .inl (cf4_0, 1500, .inl g904_0)), (qf4, .inr (1, [.ref qf4_0, .int u4_1, .ref qf4_2, .int u5_0, .int v4_4, .ref qf4_5, .ref qf4_6, .int v4_7, .int v4_8, .ref qf4_9, .int v4_10, .ref qf4_11, .ref qf4_12, .ref qf4_13, .int v4_14, .int v4_15]))] H := hP
      replace hD : va_D A [(h0, .inr (0, [.ref qf0, .ref qf1, .ref qf2, .ref qf3, .ref qf4, .ref qf5, .ref qf6, .int v7, .int v8, .int v9, .int v10, .ref qf11, .int v12])), (qf5, .inr (10, [.ref qf5_0, .ref qf5_1, .ref qf5_2, .ref qf5_3, .ref qf5_4, .ref qf5_5, .ref qf5_6, .ref qf5_7, .ref qf5_8, .ref qf5_9, .int v5_10, .int v5_11, .int v5_12, .int v5_13, .int v5_14, .int v5_15, .int v5_16, .int v5_17, .int v5_18])), (qf0, .inr (9, [.ref qf0_0, .ref qf0_1, .ref qf0_2, .int v0_3, .ref qf0_4, .ref qf0_5, .ref qf0_6, .ref qf0_7, .ref qf0_8, .int v0_9, .int v0_10, .int u3_0, .int u3_1])), (qf0_1, .inl (cf0_1, 3001, .inl f0_1)), (qf4_0, .inl (cf4_0, 1500, .inl g904_0)), (qf4, .inr (1, [.ref qf4_0, .int u4_1, .ref qf4_2, .int u5_0, .int v4_4, .ref qf4_5, .ref qf4_6, .int v4_7, .int v4_8, .ref qf4_9, .int v4_10, .ref qf4_11, .ref qf4_12, .ref qf4_13, .int v4_14, .int v4_15]))] := hD
      replace hK : va_K (dC, dI) vwCl [(cf0_1, .int), (cf4_0, .byte)] s := hK
      have hr0 := Option.some.inj hsp
      clear hsp
      obtain ⟨hq0, hr1⟩ := Prod.mk.inj hr0
      clear hr0
      obtain ⟨hq1, hr2⟩ := Prod.mk.inj hr1
      clear hr1
      obtain ⟨hq2, hr3⟩ := Prod.mk.inj hr2
      clear hr2
      obtain ⟨hq3, hr4⟩ := Prod.mk.inj hr3
      clear hr3
      subst hq0
      subst hq1
      subst hq2
      subst hq3
      subst hr4
      have hP9 := hP.sub (ws' := [(h0, .inr (0, [.ref qf0, .ref qf1, .ref qf2, .ref qf3, .ref qf4, .ref qf5, .ref qf6, .int v7, .int v8, .int v9, .int v10, .ref qf11, .int v12])), (qf5, .inr (10, [.ref qf5_0, .ref qf5_1, .ref qf5_2, .ref qf5_3, .ref qf5_4, .ref qf5_5, .ref qf5_6, .ref qf5_7, .ref qf5_8, .ref qf5_9, .int v5_10, .int v5_11, .int v5_12, .int v5_13, .int v5_14, .int v5_15, .int v5_16, .int v5_17, .int v5_18])), (qf4, .inr (1, [.ref qf4_0, .int u4_1, .ref qf4_2, .int u5_0, .int v4_4, .ref qf4_5, .ref qf4_6, .int v4_7, .int v4_8, .ref qf4_9, .int v4_10, .ref qf4_11, .ref qf4_12, .ref qf4_13, .int v4_14, .int v4_15])), (qf4_0, .inl (cf4_0, 1500, .inl g904_0)), (qf0, .inr (9, [.ref qf0_0, .ref qf0_1, .ref qf0_2, .int v0_3, .ref qf0_4, .ref qf0_5, .ref qf0_6, .ref qf0_7, .ref qf0_8, .int v0_9, .int v0_10, .int u3_0, .int u3_1])), (qf0_1, .inl (cf0_1, 3001, .inl f0_1))]) [0, 1, 5, 4, 2, 3] rfl
      have hD9 := hD.sub (ws' := [(h0, .inr (0, [.ref qf0, .ref qf1, .ref qf2, .ref qf3, .ref qf4, .ref qf5, .ref qf6, .int v7, .int v8, .int v9, .int v10, .ref qf11, .int v12])), (qf5, .inr (10, [.ref qf5_0, .ref qf5_1, .ref qf5_2, .ref qf5_3, .ref qf5_4, .ref qf5_5, .ref qf5_6, .ref qf5_7, .ref qf5_8, .ref qf5_9, .int v5_10, .int v5_11, .int v5_12, .int v5_13, .int v5_14, .int v5_15, .int v5_16, .int v5_17, .int v5_18])), (qf4, .inr (1, [.ref qf4_0, .int u4_1, .ref qf4_2, .int u5_0, .int v4_4, .ref qf4_5, .ref qf4_6, .int v4_7, .int v4_8, .ref qf4_9, .int v4_10, .ref qf4_11, .ref qf4_12, .ref qf4_13, .int v4_14, .int v4_15])), (qf4_0, .inl (cf4_0, 1500, .inl g904_0)), (qf0, .inr (9, [.ref qf0_0, .ref qf0_1, .ref qf0_2, .int v0_3, .ref qf0_4, .ref qf0_5, .ref qf0_6, .ref qf0_7, .ref qf0_8, .int v0_9, .int v0_10, .int u3_0, .int u3_1])), (qf0_1, .inl (cf0_1, 3001, .inl f0_1))]) [0, 1, 5, 4, 2, 3] (by decide) rfl
      have hK9 := hK.sub (tys' := [(cf4_0, .byte), (cf0_1, .int)]) [1, 0] rfl
      exact W.vret hx hb hr (fun t ht hW => ⟨⟨(), rfl, trivial, by rw [ht]; exact hP9, va_K.moved hW.alike hK9, hD9⟩, hS.F ht⟩) hS.2.2 dX0_closeAlone_51
def sp_t0_closeGiving (nf : Nat) (a1 : Int32) (a2 : Int32) (a3 : Int32) (a4 : Int32) (v4_1 : Int32) (v4_3 : Int32) (f4_0 : Nat → Int32) (v3_4 : Int32) (v3_5 : Int32) (f3_1_18 : Nat → Int32) (f3_2 : Nat → Int32) (f3_3 : Nat → Int32) (f3_1_6 : Nat → Int32) (f3_1_8 : Nat → Int32) : Option ((Nat → Int32) × (Nat → Int32) × (Nat → Int32) × Int32 × Int32 × Int32 × Int32) := (if a1 = 2 then ((sp_t1_store nf a4 a2 v4_1 v4_3 f4_0).bind (fun p1 => (some (f3_2, f3_3, p1.1, v3_4, v3_5, p1.2.1, p1.2.2)))) else (if a1 = 3 then ((sp_t6_fieldOf nf a3 a4 v3_4 v3_5 f3_1_18 f3_2 f3_3 f3_1_6 f3_1_8).bind (fun p2 => ((sp_t1_op_ nf 181 p2.1 v4_1 f4_0).bind (fun p3 => ((sp_t1_pop nf 2 v4_3).bind (fun p4 => (some (p2.2.1, p2.2.2.1, p3.1, p2.2.2.2.1, p2.2.2.2.2, p3.2, p4)))))))) else (if a2 = 301 then ((sp_t1_op nf 79 v4_1 f4_0).bind (fun p7 => ((sp_t1_pop nf 3 v4_3).bind (fun p8 => (some (f3_2, f3_3, p7.1, v3_4, v3_5, p7.2, p8)))))) else ((sp_t1_op nf 83 v4_1 f4_0).bind (fun p5 => ((sp_t1_pop nf 3 v4_3).bind (fun p6 => (some (f3_2, f3_3, p5.1, v3_4, v3_5, p5.2, p6)))))))))
