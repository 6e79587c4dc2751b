set_option maxHeartbeats 4000000 in
set_option maxRecDepth 100000 in
/-- Syntax(text, heads) -/
theorem ct_syn (l : Launch) (dC : Nat → ClassId) (dI : Nat → Nat → Nat) (sz : Nat) (h0 : Nat) (qt qh : Nat)  : Met l yX8_init wsX8_init ({ frames := 1, cells := 0, slots := 0, locals := 12 }) (va_Pc [.ref h0, .ref qt, .ref qh] (fun U => U.heap.size = sz ∧ va_P (dC, dI) vwCl [(h0, .inr (8, [.null, .null]))] U.heap ∧ va_K (dC, dI) vwCl [] U ∧ va_D (fun _ => True) [(h0, .inr (8, [.null, .null]))])) (va_Qv (fun (u : Unit) => match u with | () => True) (fun (u : Unit) (t : State) => match u with | () => va_P (dC, dI) vwCl [(h0, .inr (8, [.ref qt, .ref qh]))] t.heap ∧ va_K (dC, dI) vwCl [] t ∧ va_D (va_A [(h0, .inr (8, [.null, .null]))] sz) [(h0, .inr (8, [.ref qt, .ref qh]))]) (va_A [(h0, .inr (8, [.null, .null]))] sz)) 0 0 (va_A [(h0, .inr (8, [.null, .null]))] sz) := by
  refine Met.ofW (cc := cX8_init) (maxL := 3) (ret := none) (by decide) rfl ?_
  intro p e s m args below meth c s₁ B hml hv
  obtain ⟨rfl, hsz, hP, hK, hD0⟩ := hv
  have hx := B.exec
  have hb := B.bytes
  have hr := B.returns
  have hts := atoms_spec (ws := wsX8_init) B.pre
  have hown : s.vm.findClass RX8 = some m.cls := findClass_of_methodNamed B.named
  have hlocks := B.notSynchronized
  have hin : meth.name = "<init>" := (name_of_methodNamed B.named B.method).1
  subst hsz
  have hD := hD0.self (sz := s.heap.size)
  generalize hAe : va_A [(h0, .inr (8, [.null, .null]))] s.heap.size = A at hD  ⊢
  have hA : ∀ q : Nat, s.heap.size ≤ q → A q := fun q h => by rw [← hAe]; exact Or.inr h
  have hP : va_P (dC, dI) vwCl [(h0, .inr (8, [.null, .null]))] s.heap := hP
  have hl := lv_entry ([.ref h0, .ref qt, .ref qh]) (n := 3) (Nat.le_of_ble_eq_true rfl)
  rw [lg_entry_eq]
  generalize (lg_sl ([.ref h0, .ref qt, .ref qh]) ++ List.replicate (3 - (lg_sl ([.ref h0, .ref qt, .ref qh])).length) Slot.unset).toArray = ls at hl ⊢
  have hl : lv_has ls 3 [(0, .ref h0), (1, .ref qt), (2, .ref qh)] := hl
  obtain ⟨H, hH⟩ : ∃ H : Heap, s.heap = H := ⟨_, rfl⟩
  rw [hH] at hP ⊢
  have hS : va_S A s.heap H [] := by rw [← hH]; exact va_S.rf
  obtain ⟨locs, hlo⟩ : ∃ locs : List Loc, locs = [] := ⟨_, rfl⟩
  rw [← hlo] at hS ⊢
  refine lv_aload_n hx hb dX8_init_0 rfl (lv_at hl 0 rfl) ?_
  refine W.objInit hx hb hown (hts (.methodLink RX8 1 objectInit) (by decide +kernel)) (hts (.instanceMethod objectInit) (by decide +kernel)) (hts (.code objectInit ⟨#[0xb1]⟩ 1 none) (by decide +kernel)) rfl (by rw [hml]; exact hl.1) rfl dX8_init_1 (Nat.le_of_ble_eq_true rfl) (Nat.le_of_ble_eq_true rfl) ?_
  refine W.eq (g2 := F0 m 4 ls []) rfl ?_
  refine lv_aload_n hx hb dX8_init_4 rfl (lv_at hl 0 rfl) ?_
  refine lv_aload_n hx hb dX8_init_5 rfl (lv_at hl 1 rfl) ?_
  refine va_putF (D := (dC, dI)) (ci := 8) (v := .ref qt) (ty := .object "ClassMill$Text") (C := RX8) (T := TX8) (N := 2) hx hb hts uX8_init_X8 tyX8 tyX8_ok nmX8 hown hK hP hD hS 0 rfl rfl 0 (by decide) (hts (.fieldLink RX8 7 "ClassMill$Syntax" "text" "LClassMill$Text;") (by decide +kernel)) (fun _ h9 => h9) rfl hin rfl (by decide +kernel) rfl rfl (Nat.le_of_ble_eq_true rfl) dX8_init_6 ?_
  clear hP hD hS
  intro H locs hP hD hS
  replace hP : va_P (dC, dI) vwCl [(h0, .inr (8, [.ref qt, .null]))] H := hP
  replace hD : va_D A [(h0, .inr (8, [.ref qt, .null]))] := hD
  refine lv_aload_n hx hb dX8_init_9 rfl (lv_at hl 0 rfl) ?_
  refine lv_aload_n hx hb dX8_init_10 rfl (lv_at hl 2 rfl) ?_
  refine va_putF (D := (dC, dI)) (ci := 8) (v := .ref qh) (ty := .object "ClassMill$Heads") (C := RX8) (T := TX8) (N := 2) hx hb hts uX8_init_X8 tyX8 tyX8_ok nmX8 hown hK hP hD hS 0 rfl rfl 1 (by decide) (hts (.fieldLink RX8 13 "ClassMill$Syntax" "heads" "LClassMill$Heads;") (by decide +kernel)) (fun _ h9 => h9) rfl hin rfl (by decide +kernel) rfl rfl (Nat.le_of_ble_eq_true rfl) dX8_init_11 ?_
  clear hP hD hS
  intro H locs hP hD hS
  replace hP : va_P (dC, dI) vwCl [(h0, .inr (8, [.ref qt, .ref qh]))] H := hP
  replace hD : va_D A [(h0, .inr (8, [.ref qt, .ref qh]))] := hD
  have hP9 := hP.sub (ws' := [(h0, .inr (8, [.ref qt, .ref qh]))]) [0] rfl
  have hD9 := hD.sub (ws' := [(h0, .inr (8, [.ref qt, .ref qh]))]) [0] (by decide) rfl
  have hK9 := hK.sub (tys' := []) [] rfl
  exact W.vret hx hb hr (fun t ht hW => ⟨⟨(), rfl, trivial, by rw [ht]; exact hP9, va_K.moved hW.alike hK9, hD9⟩, hS.F ht⟩) hS.2.2 dX8_init_14
set_option maxHeartbeats 4000000 in
set_option maxRecDepth 100000 in
/-- Code() -/
theorem ct_code (l : Launch) (dC : Nat → ClassId) (dI : Nat → Nat → Nat) (sz : Nat) (h0 : Nat)   : Met l yX1_init wsX1_init ({ frames := 1, cells := 8, slots := 8500, locals := 12 }) (va_Pc [.ref h0] (fun U => U.heap.size = sz ∧ va_P (dC, dI) vwCl [(h0, .inr (1, [.null, .int 0, .null, .int 0, .int 0, .null, .null, .int 0, .int 0, .null, .int 0, .null, .null, .null, .int 0, .int 0]))] U.heap ∧ va_K (dC, dI) vwCl [] U ∧ va_D (fun _ => True) [(h0, .inr (1, [.null, .int 0, .null, .int 0, .int 0, .null, .null, .int 0, .int 0, .null, .int 0, .null, .null, .null, .int 0, .int 0]))])) (va_Qv (fun (u : Unit) => match u with | () => True) (fun (u : Unit) (t : State) => match u with | () => va_P (dC, dI) vwCl [] t.heap ∧ va_K (dC, dI) vwCl [] t ∧ va_D (va_A [(h0, .inr (1, [.null, .int 0, .null, .int 0, .int 0, .null, .null, .int 0, .int 0, .null, .int 0, .null, .null, .null, .int 0, .int 0]))] sz) []) (va_A [(h0, .inr (1, [.null, .int 0, .null, .int 0, .int 0, .null, .null, .int 0, .int 0, .null, .int 0, .null, .null, .null, .int 0, .int 0]))] sz)) 8 8500 (va_A [(h0, .inr (1, [.null, .int 0, .null, .int 0, .int 0, .null, .null, .int 0, .int 0, .null, .int 0, .null, .null, .null, .int 0, .int 0]))] sz) := by
  refine Met.ofW (cc := cX1_init) (maxL := 1) (ret := none) (by decide) rfl ?_
  intro p e s m args below meth c s₁ B hml hv
  obtain ⟨rfl, hsz, hP, hK, hD0⟩ := hv
  have hx := B.exec
  have hb := B.bytes
  have hr := B.returns
  have hts := atoms_spec (ws := wsX1_init) B.pre
  have hown : s.vm.findClass RX1 = some m.cls := findClass_of_methodNamed B.named
  have hlocks := B.notSynchronized
  have hin : meth.name = "<init>" := (name_of_methodNamed B.named B.method).1
  subst hsz
  have hD := hD0.self (sz := s.heap.size)
  generalize hAe : va_A [(h0, .inr (1, [.null, .int 0, .null, .int 0, .int 0, .null, .null, .int 0, .int 0, .null, .int 0, .null, .null, .null, .int 0, .int 0]))] s.heap.size = A at hD  ⊢
  have hA : ∀ q : Nat, s.heap.size ≤ q → A q := fun q h => by rw [← hAe]; exact Or.inr h
  have hP : va_P (dC, dI) vwCl [(h0, .inr (1, [.null, .int 0, .null, .int 0, .int 0, .null, .null, .int 0, .int 0, .null, .int 0, .null, .null, .null, .int 0, .int 0]))] s.heap := hP
  have hl := lv_entry ([.ref h0]) (n := 1) (Nat.le_of_ble_eq_true rfl)
  rw [lg_entry_eq]
  generalize (lg_sl ([.ref h0]) ++ List.replicate (1 - (lg_sl ([.ref h0])).length) Slot.unset).toArray = ls at hl ⊢
  have hl : lv_has ls 1 [(0, .ref h0)] := hl
  obtain ⟨H, hH⟩ : ∃ H : Heap, s.heap = H := ⟨_, rfl⟩
  rw [hH] at hP ⊢
  have hS : va_S A s.heap H [] := by rw [← hH]; exact va_S.rf
  obtain ⟨locs, hlo⟩ : ∃ locs : List Loc, locs = [] := ⟨_, rfl⟩
  rw [← hlo] at hS ⊢
  refine lv_aload_n hx hb dX1_init_0 rfl (lv_at hl 0 rfl) ?_
  refine W.objInit hx hb hown (hts (.methodLink RX1 7 objectInit) (by decide +kernel)) (hts (.instanceMethod objectInit) (by decide +kernel)) (hts (.code objectInit ⟨#[0xb1]⟩ 1 none) (by decide +kernel)) rfl (by rw [hml]; exact hl.1) rfl dX1_init_1 (Nat.le_of_ble_eq_true rfl) (Nat.le_of_ble_eq_true rfl) ?_
  refine W.eq (g2 := F0 m 4 ls []) rfl ?_
  refine lv_aload_n hx hb dX1_init_4 rfl (lv_at hl 0 rfl) ?_
  refine lv_sipush (v := 1500) hx hb dX1_init_5 (by decide) ?_
  refine va_newa (atype := .byte) (ty := .byte) (N' := 1500) (a0 := (1500, .inl (fun _ => 0))) hx hb (hts (.arrayClass .byte) (by decide +kernel)) rfl hK hP hD hS hA (fun _ => rfl) (by decide) (by decide) (by decide) (Nat.le_of_ble_eq_true rfl) (Nat.le_of_ble_eq_true rfl) dX1_init_8 ?_
  clear hK hP hD hS
  intro q_1 cq_1 H hK hP hD hS
  refine W.widen (k := 1) (n := 1500) (Nat.le_of_ble_eq_true rfl) (Nat.le_of_ble_eq_true rfl) ?_
  replace hP := hP.sub (ws' := [(h0, .inr (1, [.null, .int 0, .null, .int 0, .int 0, .null, .null, .int 0, .int 0, .null, .int 0, .null, .null, .null, .int 0, .int 0]))]) [0] rfl
  replace hD := hD.sub (ws' := [(h0, .inr (1, [.null, .int 0, .null, .int 0, .int 0, .null, .null, .int 0, .int 0, .null, .int 0, .null, .null, .null, .int 0, .int 0]))]) [0] (by decide) rfl
  replace hK := hK.sub (tys' := []) [] rfl
  refine va_putF (D := (dC, dI)) (ci := 1) (v := .ref q_1) (ty := .array .byte) (C := RX1) (T := TX1) (N := 16) hx hb hts uX1_init_X1 tyX1 tyX1_ok nmX1 hown hK hP hD hS 0 rfl rfl 0 (by decide) (hts (.fieldLink RX1 13 "ClassMill$Code" "bytes" "[B") (by decide +kernel)) (fun _ h9 => h9) rfl hin rfl (by decide +kernel) rfl rfl (Nat.le_of_ble_eq_true rfl) dX1_init_10 ?_
  clear hP hD hS
  intro H locs hP hD hS
  replace hP : va_P (dC, dI) vwCl [(h0, .inr (1, [.ref q_1, .int 0, .null, .int 0, .int 0, .null, .null, .int 0, .int 0, .null, .int 0, .null, .null, .null, .int 0, .int 0]))] H := hP
  replace hD : va_D A [(h0, .inr (1, [.ref q_1, .int 0, .null, .int 0, .int 0, .null, .null, .int 0, .int 0, .null, .int 0, .null, .null, .null, .int 0, .int 0]))] := hD
  refine lv_aload_n hx hb dX1_init_13 rfl (lv_at hl 0 rfl) ?_
  refine lv_bipush (v := 20) hx hb dX1_init_14 (by decide) ?_
  refine va_newa (atype := .int) (ty := .int) (N' := 20) (a0 := (20, .inl (fun _ => 0))) hx hb (hts (.arrayClass .int) (by decide +kernel)) rfl hK hP hD hS hA (fun _ => rfl) (by decide) (by decide) (by decide) (Nat.le_of_ble_eq_true rfl) (Nat.le_of_ble_eq_true rfl) dX1_init_16 ?_
  clear hK hP hD hS
  intro q_2 cq_2 H hK hP hD hS
  refine W.widen (k := 2) (n := 1520) (Nat.le_of_ble_eq_true rfl) (Nat.le_of_ble_eq_true rfl) ?_
  replace hP := hP.sub (ws' := [(h0, .inr (1, [.ref q_1, .int 0, .null, .int 0, .int 0, .null, .null, .int 0, .int 0, .null, .int 0, .null, .null, .null, .int 0, .int 0]))]) [0] rfl
  replace hD := hD.sub (ws' := [(h0, .inr (1, [.ref q_1, .int 0, .null, .int 0, .int 0, .null, .null, .int 0, .int 0, .null, .int 0, .null, .null, .null, .int 0, .int 0]))]) [0] (by decide) rfl
  replace hK := hK.sub (tys' := []) [] rfl
  refine va_putF (D := (dC, dI)) (ci := 1) (v := .ref q_2) (ty := .array .int) (C := RX1) (T := TX1) (N := 16) hx hb hts uX1_init_X1 tyX1 tyX1_ok nmX1 hown hK hP hD hS 0 rfl rfl 2 (by decide) (hts (.fieldLink RX1 17 "ClassMill$Code" "stack" "[I") (by decide +kernel)) (fun _ h9 => h9) rfl hin rfl (by decide +kernel) rfl rfl (Nat.le_of_ble_eq_true rfl) dX1_init_18 ?_
  clear hP hD hS
  intro H locs hP hD hS
  replace hP : va_P (dC, dI) vwCl [(h0, .inr (1, [.ref q_1, .int 0, .ref q_2, .int 0, .int 0, .null, .null, .int 0, .int 0, .null, .int 0, .null, .null, .null, .int 0, .int 0]))] H := hP
  replace hD : va_D A [(h0, .inr (1, [.ref q_1, .int 0, .ref q_2, .int 0, .int 0, .null, .null, .int 0, .int 0, .null, .int 0, .null, .null, .null, .int 0, .int 0]))] := hD
  refine lv_aload_n hx hb dX1_init_21 rfl (lv_at hl 0 rfl) ?_
  refine lv_sipush (v := 750) hx hb dX1_init_22 (by decide) ?_
  refine va_newa (atype := .int) (ty := .int) (N' := 750) (a0 := (750, .inl (fun _ => 0))) hx hb (hts (.arrayClass .int) (by decide +kernel)) rfl hK hP hD hS hA (fun _ => rfl) (by decide) (by decide) (by decide) (Nat.le_of_ble_eq_true rfl) (Nat.le_of_ble_eq_true rfl) dX1_init_25 ?_
  clear hK hP hD hS
  intro q_3 cq_3 H hK hP hD hS
  refine W.widen (k := 3) (n := 2270) (Nat.le_of_ble_eq_true rfl) (Nat.le_of_ble_eq_true rfl) ?_
  replace hP := hP.sub (ws' := [(h0, .inr (1, [.ref q_1, .int 0, .ref q_2, .int 0, .int 0, .null, .null, .int 0, .int 0, .null, .int 0, .null, .null, .null, .int 0, .int 0]))]) [0] rfl
  replace hD := hD.sub (ws' := [(h0, .inr (1, [.ref q_1, .int 0, .ref q_2, .int 0, .int 0, .null, .null, .int 0, .int 0, .null, .int 0, .null, .null, .null, .int 0, .int 0]))]) [0] (by decide) rfl
  replace hK := hK.sub (tys' := []) [] rfl
  refine va_putF (D := (dC, dI)) (ci := 1) (v := .ref q_3) (ty := .array .int) (C := RX1) (T := TX1) (N := 16) hx hb hts uX1_init_X1 tyX1 tyX1_ok nmX1 hown hK hP hD hS 0 rfl rfl 5 (by decide) (hts (.fieldLink RX1 21 "ClassMill$Code" "localName" "[I") (by decide +kernel)) (fun _ h9 => h9) rfl hin rfl (by decide +kernel) rfl rfl (Nat.le_of_ble_eq_true rfl) dX1_init_27 ?_
  clear hP hD hS
  intro H locs hP hD hS
  replace hP : va_P (dC, dI) vwCl [(h0, .inr (1, [.ref q_1, .int 0, .ref q_2, .int 0, .int 0, .ref q_3, .null, .int 0, .int 0, .null, .int 0, .null, .null, .null, .int 0, .int 0]))] H := hP
  replace hD : va_D A [(h0, .inr (1, [.ref q_1, .int 0, .ref q_2, .int 0, .int 0, .ref q_3, .null, .int 0, .int 0, .null, .int 0, .null, .null, .null, .int 0, .int 0]))] := hD
  refine lv_aload_n hx hb dX1_init_30 rfl (lv_at hl 0 rfl) ?_
  refine lv_sipush (v := 750) hx hb dX1_init_31 (by decide) ?_
  refine va_newa (atype := .int) (ty := .int) (N' := 750) (a0 := (750, .inl (fun _ => 0))) hx hb (hts (.arrayClass .int) (by decide +kernel)) rfl hK hP hD hS hA (fun _ => rfl) (by decide) (by decide) (by decide) (Nat.le_of_ble_eq_true rfl) (Nat.le_of_ble_eq_true rfl) dX1_init_34 ?_
  clear hK hP hD hS
  intro q_4 cq_4 H hK hP hD hS
  refine W.widen (k := 4) (n := 3020) (Nat.le_of_ble_eq_true rfl) (Nat.le_of_ble_eq_true rfl) ?_
  replace hP := hP.sub (ws' := [(h0, .inr (1, [.ref q_1, .int 0, .ref q_2, .int 0, .int 0, .ref q_3, .null, .int 0, .int 0, .null, .int 0, .null, .null, .null, .int 0, .int 0]))]) [0] rfl
  replace hD := hD.sub (ws' := [(h0, .inr (1, [.ref q_1, .int 0, .ref q_2, .int 0, .int 0, .ref q_3, .null, .int 0, .int 0, .null, .int 0, .null, .null, .null, .int 0, .int 0]))]) [0] (by decide) rfl
  replace hK := hK.sub (tys' := []) [] rfl
  refine va_putF (D := (dC, dI)) (ci := 1) (v := .ref q_4) (ty := .array .int) (C := RX1) (T := TX1) (N := 16) hx hb hts uX1_init_X1 tyX1 tyX1_ok nmX1 hown hK hP hD hS 0 rfl rfl 6 (by decide) (hts (.fieldLink RX1 24 "ClassMill$Code" "localType" "[I") (by decide +kernel)) (fun _ h9 => h9) rfl hin rfl (by decide +kernel) rfl rfl (Nat.le_of_ble_eq_true rfl) dX1_init_36 ?_
  clear hP hD hS
  intro H locs hP hD hS
  replace hP : va_P (dC, dI) vwCl [(h0, .inr (1, [.ref q_1, .int 0, .ref q_2, .int 0, .int 0, .ref q_3, .ref q_4, .int 0, .int 0, .null, .int 0, .null, .null, .null, .int 0, .int 0]))] H := hP
  replace hD : va_D A [(h0, .inr (1, [.ref q_1, .int 0, .ref q_2, .int 0, .int 0, .ref q_3, .ref q_4, .int 0, .int 0, .null, .int 0, .null, .null, .null, .int 0, .int 0]))] := hD
  refine lv_aload_n hx hb dX1_init_39 rfl (lv_at hl 0 rfl) ?_
  refine lv_bipush (v := 80) hx hb dX1_init_40 (by decide) ?_
  refine va_newa (atype := .int) (ty := .int) (N' := 80) (a0 := (80, .inl (fun _ => 0))) hx hb (hts (.arrayClass .int) (by decide +kernel)) rfl hK hP hD hS hA (fun _ => rfl) (by decide) (by decide) (by decide) (Nat.le_of_ble_eq_true rfl) (Nat.le_of_ble_eq_true rfl) dX1_init_42 ?_
  clear hK hP hD hS
  intro q_5 cq_5 H hK hP hD hS
  refine W.widen (k := 5) (n := 3100) (Nat.le_of_ble_eq_true rfl) (Nat.le_of_ble_eq_true rfl) ?_
  replace hP := hP.sub (ws' := [(h0, .inr (1, [.ref q_1, .int 0, .ref q_2, .int 0, .int 0, .ref q_3, .ref q_4, .int 0, .int 0, .null, .int 0, .null, .null, .null, .int 0, .int 0]))]) [0] rfl
  replace hD := hD.sub (ws' := [(h0, .inr (1, [.ref q_1, .int 0, .ref q_2, .int 0, .int 0, .ref q_3, .ref q_4, .int 0, .int 0, .null, .int 0, .null, .null, .null, .int 0, .int 0]))]) [0] (by decide) rfl
  replace hK := hK.sub (tys' := []) [] rfl
  refine va_putF (D := (dC, dI)) (ci := 1) (v := .ref q_5) (ty := .array .int) (C := RX1) (T := TX1) (N := 16) hx hb hts uX1_init_X1 tyX1 tyX1_ok nmX1 hown hK hP hD hS 0 rfl rfl 9 (by decide) (hts (.fieldLink RX1 27 "ClassMill$Code" "handlers" "[I") (by decide +kernel)) (fun _ h9 => h9) rfl hin rfl (by decide +kernel) rfl rfl (Nat.le_of_ble_eq_true rfl) dX1_init_44 ?_
  clear hP hD hS
  intro H locs hP hD hS
  replace hP : va_P (dC, dI) vwCl [(h0, .inr (1, [.ref q_1, .int 0, .ref q_2, .int 0, .int 0, .ref q_3, .ref q_4, .int 0, .int 0, .ref q_5, .int 0, .null, .null, .null, .int 0, .int 0]))] H := hP
  replace hD : va_D A [(h0, .inr (1, [.ref q_1, .int 0, .ref q_2, .int 0, .int 0, .ref q_3, .ref q_4, .int 0, .int 0, .ref q_5, .int 0, .null, .null, .null, .int 0, .int 0]))] := hD
  refine lv_aload_n hx hb dX1_init_47 rfl (lv_at hl 0 rfl) ?_
  refine lv_bipush (v := 100) hx hb dX1_init_48 (by decide) ?_
  refine va_newa (atype := .int) (ty := .int) (N' := 100) (a0 := (100, .inl (fun _ => 0))) hx hb (hts (.arrayClass .int) (by decide +kernel)) rfl hK hP hD hS hA (fun _ => rfl) (by decide) (by decide) (by decide) (Nat.le_of_ble_eq_true rfl) (Nat.le_of_ble_eq_true rfl) dX1_init_50 ?_
  clear hK hP hD hS
  intro q_6 cq_6 H hK hP hD hS
  refine W.widen (k := 6) (n := 3200) (Nat.le_of_ble_eq_true rfl) (Nat.le_of_ble_eq_true rfl) ?_
  replace hP := hP.sub (ws' := [(h0, .inr (1, [.ref q_1, .int 0, .ref q_2, .int 0, .int 0, .ref q_3, .ref q_4, .int 0, .int 0, .ref q_5, .int 0, .null, .null, .null, .int 0, .int 0]))]) [0] rfl
  replace hD := hD.sub (ws' := [(h0, .inr (1, [.ref q_1, .int 0, .ref q_2, .int 0, .int 0, .ref q_3, .ref q_4, .int 0, .int 0, .ref q_5, .int 0, .null, .null, .null, .int 0, .int 0]))]) [0] (by decide) rfl
  replace hK := hK.sub (tys' := []) [] rfl
  refine va_putF (D := (dC, dI)) (ci := 1) (v := .ref q_6) (ty := .array .int) (C := RX1) (T := TX1) (N := 16) hx hb hts uX1_init_X1 tyX1 tyX1_ok nmX1 hown hK hP hD hS 0 rfl rfl 11 (by decide) (hts (.fieldLink RX1 30 "ClassMill$Code" "framePlace" "[I") (by decide +kernel)) (fun _ h9 => h9) rfl hin rfl (by decide +kernel) rfl rfl (Nat.le_of_ble_eq_true rfl) dX1_init_52 ?_
  clear hP hD hS
  intro H locs hP hD hS
  replace hP : va_P (dC, dI) vwCl [(h0, .inr (1, [.ref q_1, .int 0, .ref q_2, .int 0, .int 0, .ref q_3, .ref q_4, .int 0, .int 0, .ref q_5, .int 0, .ref q_6, .null, .null, .int 0, .int 0]))] H := hP
  replace hD : va_D A [(h0, .inr (1, [.ref q_1, .int 0, .ref q_2, .int 0, .int 0, .ref q_3, .ref q_4, .int 0, .int 0, .ref q_5, .int 0, .ref q_6, .null, .null, .int 0, .int 0]))] := hD
  refine lv_aload_n hx hb dX1_init_55 rfl (lv_at hl 0 rfl) ?_
  refine lv_sipush (v := 5200) hx hb dX1_init_56 (by decide) ?_
  refine va_newa (atype := .int) (ty := .int) (N' := 5200) (a0 := (5200, .inl (fun _ => 0))) hx hb (hts (.arrayClass .int) (by decide +kernel)) rfl hK hP hD hS hA (fun _ => rfl) (by decide) (by decide) (by decide) (Nat.le_of_ble_eq_true rfl) (Nat.le_of_ble_eq_true rfl) dX1_init_59 ?_
  clear hK hP hD hS
  intro q_7 cq_7 H hK hP hD hS
  refine W.widen (k := 7) (n := 8400) (Nat.le_of_ble_eq_true rfl) (Nat.le_of_ble_eq_true rfl) ?_
  replace hP := hP.sub (ws' := [(h0, .inr (1, [.ref q_1, .int 0, .ref q_2, .int 0, .int 0, .ref q_3, .ref q_4, .int 0, .int 0, .ref q_5, .int 0, .ref q_6, .null, .null, .int 0, .int 0]))]) [0] rfl
  replace hD := hD.sub (ws' := [(h0, .inr (1, [.ref q_1, .int 0, .ref q_2, .int 0, .int 0, .ref q_3, .ref q_4, .int 0, .int 0, .ref q_5, .int 0, .ref q_6, .null, .null, .int 0, .int 0]))]) [0] (by decide) rfl
  replace hK := hK.sub (tys' := []) [] rfl
  refine va_putF (D := (dC, dI)) (ci := 1) (v := .ref q_7) (ty := .array .int) (C := RX1) (T := TX1) (N := 16) hx hb hts uX1_init_X1 tyX1 tyX1_ok nmX1 hown hK hP hD hS 0 rfl rfl 12 (by decide) (hts (.fieldLink RX1 33 "ClassMill$Code" "frameRow" "[I") (by decide +kernel)) (fun _ h9 => h9) rfl hin rfl (by decide +kernel) rfl rfl (Nat.le_of_ble_eq_true rfl) dX1_init_61 ?_
  clear hP hD hS
  intro H locs hP hD hS
  replace hP : va_P (dC, dI) vwCl [(h0, .inr (1, [.ref q_1, .int 0, .ref q_2, .int 0, .int 0, .ref q_3, .ref q_4, .int 0, .int 0, .ref q_5, .int 0, .ref q_6, .ref q_7, .null, .int 0, .int 0]))] H := hP
  replace hD : va_D A [(h0, .inr (1, [.ref q_1, .int 0, .ref q_2, .int 0, .int 0, .ref q_3, .ref q_4, .int 0, .int 0, .ref q_5, .int 0, .ref q_6, .ref q_7, .null, .int 0, .int 0]))] := hD
  refine lv_aload_n hx hb dX1_init_64 rfl (lv_at hl 0 rfl) ?_
  refine lv_bipush (v := 100) hx hb dX1_init_65 (by decide) ?_
  refine va_newa (atype := .int) (ty := .int) (N' := 100) (a0 := (100, .inl (fun _ => 0))) hx hb (hts (.arrayClass .int) (by decide +kernel)) rfl hK hP hD hS hA (fun _ => rfl) (by decide) (by decide) (by decide) (Nat.le_of_ble_eq_true rfl) (Nat.le_of_ble_eq_true rfl) dX1_init_67 ?_
  clear hK hP hD hS
  intro q_8 cq_8 H hK hP hD hS
  refine W.widen (k := 8) (n := 8500) (Nat.le_of_ble_eq_true rfl) (Nat.le_of_ble_eq_true rfl) ?_
  replace hP := hP.sub (ws' := [(h0, .inr (1, [.ref q_1, .int 0, .ref q_2, .int 0, .int 0, .ref q_3, .ref q_4, .int 0, .int 0, .ref q_5, .int 0, .ref q_6, .ref q_7, .null, .int 0, .int 0]))]) [0] rfl
  replace hD := hD.sub (ws' := [(h0, .inr (1, [.ref q_1, .int 0, .ref q_2, .int 0, .int 0, .ref q_3, .ref q_4, .int 0, .int 0, .ref q_5, .int 0, .ref q_6, .ref q_7, .null, .int 0, .int 0]))]) [0] (by decide) rfl
  replace hK := hK.sub (tys' := []) [] rfl
  refine va_putF (D := (dC, dI)) (ci := 1) (v := .ref q_8) (ty := .array .int) (C := RX1) (T := TX1) (N := 16) hx hb hts uX1_init_X1 tyX1 tyX1_ok nmX1 hown hK hP hD hS 0 rfl rfl 13 (by decide) (hts (.fieldLink RX1 36 "ClassMill$Code" "frameOrder" "[I") (by decide +kernel)) (fun _ h9 => h9) rfl hin rfl (by decide +kernel) rfl rfl (Nat.le_of_ble_eq_true rfl) dX1_init_69 ?_
  clear hP hD hS
  intro H locs hP hD hS
  replace hP : va_P (dC, dI) vwCl [(h0, .inr (1, [.ref q_1, .int 0, .ref q_2, .int 0, .int 0, .ref q_3, .ref q_4, .int 0, .int 0, .ref q_5, .int 0, .ref q_6, .ref q_7, .ref q_8, .int 0, .int 0]))] H := hP
  replace hD : va_D A [(h0, .inr (1, [.ref q_1, .int 0, .ref q_2, .int 0, .int 0, .ref q_3, .ref q_4, .int 0, .int 0, .ref q_5, .int 0, .ref q_6, .ref q_7, .ref q_8, .int 0, .int 0]))] := hD
  have hP9 := hP.sub (ws' := []) [] rfl
  have hD9 := hD.sub (ws' := []) [] (by decide) rfl
  have hK9 := hK.sub (tys' := []) [] rfl
  exact W.vret hx hb hr (fun t ht hW => ⟨⟨(), rfl, trivial, by rw [ht]; exact hP9, va_K.moved hW.alike hK9, hD9⟩, hS.F ht⟩) hS.2.2 dX1_init_72
set_option maxHeartbeats 4000000 in
set_option maxRecDepth 100000 in
/-- Pool(text, heads) -/
theorem ct_pool (l : Launch) (dC : Nat → ClassId) (dI : Nat → Nat → Nat) (sz : Nat) (h0 : Nat) (qt qh : Nat)  : Met l yX6_init wsX6_init ({ frames := 1, cells := 3, slots := 6402, locals := 12 }) (va_Pc [.ref h0, .ref qt, .ref qh] (fun U => U.heap.size = sz ∧ va_P (dC, dI) vwCl [(h0, .inr (6, [.null, .null, .null, .null, .int 0, .int 0, .null, .int 0]))] U.heap ∧ va_K (dC, dI) vwCl [] U ∧ va_D (fun _ => True) [(h0, .inr (6, [.null, .null, .null, .null, .int 0, .int 0, .null, .int 0]))])) (va_Qv (fun (u : Unit) => match u with | () => True) (fun (u : Unit) (t : State) => match u with | () => va_P (dC, dI) vwCl [] t.heap ∧ va_K (dC, dI) vwCl [] t ∧ va_D (va_A [(h0, .inr (6, [.null, .null, .null, .null, .int 0, .int 0, .null, .int 0]))] sz) []) (va_A [(h0, .inr (6, [.null, .null, .null, .null, .int 0, .int 0, .null, .int 0]))] sz)) 3 6402 (va_A [(h0, .inr (6, [.null, .null, .null, .null, .int 0, .int 0, .null, .int 0]))] sz) := by
  refine Met.ofW (cc := cX6_init) (maxL := 3) (ret := none) (by decide) rfl ?_
  intro p e s m args below meth c s₁ B hml hv
  obtain ⟨rfl, hsz, hP, hK, hD0⟩ := hv
  have hx := B.exec
  have hb := B.bytes
  have hr := B.returns
  have hts := atoms_spec (ws := wsX6_init) B.pre
  have hown : s.vm.findClass RX6 = some m.cls := findClass_of_methodNamed B.named
  have hlocks := B.notSynchronized
  have hin : meth.name = "<init>" := (name_of_methodNamed B.named B.method).1
  subst hsz
  have hD := hD0.self (sz := s.heap.size)
  generalize hAe : va_A [(h0, .inr (6, [.null, .null, .null, .null, .int 0, .int 0, .null, .int 0]))] s.heap.size = A at hD  ⊢
  have hA : ∀ q : Nat, s.heap.size ≤ q → A q := fun q h => by rw [← hAe]; exact Or.inr h
  have hP : va_P (dC, dI) vwCl [(h0, .inr (6, [.null, .null, .null, .null, .int 0, .int 0, .null, .int 0]))] s.heap := hP
  have hl := lv_entry ([.ref h0, .ref qt, .ref qh]) (n := 3) (Nat.le_of_ble_eq_true rfl)
  rw [lg_entry_eq]
  generalize (lg_sl ([.ref h0, .ref qt, .ref qh]) ++ List.replicate (3 - (lg_sl ([.ref h0, .ref qt, .ref qh])).length) Slot.unset).toArray = ls at hl ⊢
  have hl : lv_has ls 3 [(0, .ref h0), (1, .ref qt), (2, .ref qh)] := hl
  obtain ⟨H, hH⟩ : ∃ H : Heap, s.heap = H := ⟨_, rfl⟩
  rw [hH] at hP ⊢
  have hS : va_S A s.heap H [] := by rw [← hH]; exact va_S.rf
  obtain ⟨locs, hlo⟩ : ∃ locs : List Loc, locs = [] := ⟨_, rfl⟩
  rw [← hlo] at hS ⊢
  refine lv_aload_n hx hb dX6_init_0 rfl (lv_at hl 0 rfl) ?_
  refine W.objInit hx hb hown (hts (.methodLink RX6 1 objectInit) (by decide +kernel)) (hts (.instanceMethod objectInit) (by decide +kernel)) (hts (.code objectInit ⟨#[0xb1]⟩ 1 none) (by decide +kernel)) rfl (by rw [hml]; exact hl.1) rfl dX6_init_1 (Nat.le_of_ble_eq_true rfl) (Nat.le_of_ble_eq_true rfl) ?_
  refine W.eq (g2 := F0 m 4 ls []) rfl ?_
  refine lv_aload_n hx hb dX6_init_4 rfl (lv_at hl 0 rfl) ?_
  refine lv_sipush (v := 201) hx hb dX6_init_5 (by decide) ?_
  refine va_newa (atype := .int) (ty := .int) (N' := 201) (a0 := (201, .inl (fun _ => 0))) hx hb (hts (.arrayClass .int) (by decide +kernel)) rfl hK hP hD hS hA (fun _ => rfl) (by decide) (by decide) (by decide) (Nat.le_of_ble_eq_true rfl) (Nat.le_of_ble_eq_true rfl) dX6_init_8 ?_
  clear hK hP hD hS
  intro q_1 cq_1 H hK hP hD hS
  refine W.widen (k := 1) (n := 201) (Nat.le_of_ble_eq_true rfl) (Nat.le_of_ble_eq_true rfl) ?_
  replace hP := hP.sub (ws' := [(h0, .inr (6, [.null, .null, .null, .null, .int 0, .int 0, .null, .int 0]))]) [0] rfl
  replace hD := hD.sub (ws' := [(h0, .inr (6, [.null, .null, .null, .null, .int 0, .int 0, .null, .int 0]))]) [0] (by decide) rfl
  replace hK := hK.sub (tys' := []) [] rfl
  refine va_putF (D := (dC, dI)) (ci := 6) (v := .ref q_1) (ty := .array .int) (C := RX6) (T := TX6) (N := 8) hx hb hts uX6_init_X6 tyX6 tyX6_ok nmX6 hown hK hP hD hS 0 rfl rfl 2 (by decide) (hts (.fieldLink RX6 9 "ClassMill$Pool" "tags" "[I") (by decide +kernel)) (fun _ h9 => h9) rfl hin rfl (by decide +kernel) rfl rfl (Nat.le_of_ble_eq_true rfl) dX6_init_10 ?_
  clear hP hD hS
  intro H locs hP hD hS
  replace hP : va_P (dC, dI) vwCl [(h0, .inr (6, [.null, .null, .ref q_1, .null, .int 0, .int 0, .null, .int 0]))] H := hP
  replace hD : va_D A [(h0, .inr (6, [.null, .null, .ref q_1, .null, .int 0, .int 0, .null, .int 0]))] := hD
  refine lv_aload_n hx hb dX6_init_13 rfl (lv_at hl 0 rfl) ?_
  refine lv_sipush (v := 201) hx hb dX6_init_14 (by decide) ?_
  refine va_newa (atype := .int) (ty := .int) (N' := 201) (a0 := (201, .inl (fun _ => 0))) hx hb (hts (.arrayClass .int) (by decide +kernel)) rfl hK hP hD hS hA (fun _ => rfl) (by decide) (by decide) (by decide) (Nat.le_of_ble_eq_true rfl) (Nat.le_of_ble_eq_true rfl) dX6_init_17 ?_
  clear hK hP hD hS
  intro q_2 cq_2 H hK hP hD hS
  refine W.widen (k := 2) (n := 402) (Nat.le_of_ble_eq_true rfl) (Nat.le_of_ble_eq_true rfl) ?_
  replace hP := hP.sub (ws' := [(h0, .inr (6, [.null, .null, .ref q_1, .null, .int 0, .int 0, .null, .int 0]))]) [0] rfl
  replace hD := hD.sub (ws' := [(h0, .inr (6, [.null, .null, .ref q_1, .null, .int 0, .int 0, .null, .int 0]))]) [0] (by decide) rfl
  replace hK := hK.sub (tys' := []) [] rfl
  refine va_putF (D := (dC, dI)) (ci := 6) (v := .ref q_2) (ty := .array .int) (C := RX6) (T := TX6) (N := 8) hx hb hts uX6_init_X6 tyX6 tyX6_ok nmX6 hown hK hP hD hS 0 rfl rfl 3 (by decide) (hts (.fieldLink RX6 13 "ClassMill$Pool" "values" "[I") (by decide +kernel)) (fun _ h9 => h9) rfl hin rfl (by decide +kernel) rfl rfl (Nat.le_of_ble_eq_true rfl) dX6_init_19 ?_
  clear hP hD hS
  intro H locs hP hD hS
  replace hP : va_P (dC, dI) vwCl [(h0, .inr (6, [.null, .null, .ref q_1, .ref q_2, .int 0, .int 0, .null, .int 0]))] H := hP
  replace hD : va_D A [(h0, .inr (6, [.null, .null, .ref q_1, .ref q_2, .int 0, .int 0, .null, .int 0]))] := hD
  refine lv_aload_n hx hb dX6_init_22 rfl (lv_at hl 0 rfl) ?_
  refine lv_sipush (v := 6000) hx hb dX6_init_23 (by decide) ?_
  refine va_newa (atype := .byte) (ty := .byte) (N' := 6000) (a0 := (6000, .inl (fun _ => 0))) hx hb (hts (.arrayClass .byte) (by decide +kernel)) rfl hK hP hD hS hA (fun _ => rfl) (by decide) (by decide) (by decide) (Nat.le_of_ble_eq_true rfl) (Nat.le_of_ble_eq_true rfl) dX6_init_26 ?_
  clear hK hP hD hS
  intro q_3 cq_3 H hK hP hD hS
  refine W.widen (k := 3) (n := 6402) (Nat.le_of_ble_eq_true rfl) (Nat.le_of_ble_eq_true rfl) ?_
  replace hP := hP.sub (ws' := [(h0, .inr (6, [.null, .null, .ref q_1, .ref q_2, .int 0, .int 0, .null, .int 0]))]) [0] rfl
  replace hD := hD.sub (ws' := [(h0, .inr (6, [.null, .null, .ref q_1, .ref q_2, .int 0, .int 0, .null, .int 0]))]) [0] (by decide) rfl
  replace hK := hK.sub (tys' := []) [] rfl
  refine va_putF (D := (dC, dI)) (ci := 6) (v := .ref q_3) (ty := .array .byte) (C := RX6) (T := TX6) (N := 8) hx hb hts uX6_init_X6 tyX6 tyX6_ok nmX6 hown hK hP hD hS 0 rfl rfl 6 (by decide) (hts (.fieldLink RX6 16 "ClassMill$Pool" "body" "[B") (by decide +kernel)) (fun _ h9 => h9) rfl hin rfl (by decide +kernel) rfl rfl (Nat.le_of_ble_eq_true rfl) dX6_init_28 ?_
  clear hP hD hS
  intro H locs hP hD hS
  replace hP : va_P (dC, dI) vwCl [(h0, .inr (6, [.null, .null, .ref q_1, .ref q_2, .int 0, .int 0, .ref q_3, .int 0]))] H := hP
  replace hD : va_D A [(h0, .inr (6, [.null, .null, .ref q_1, .ref q_2, .int 0, .int 0, .ref q_3, .int 0]))] := hD
  refine lv_aload_n hx hb dX6_init_31 rfl (lv_at hl 0 rfl) ?_
  refine lv_aload_n hx hb dX6_init_32 rfl (lv_at hl 1 rfl) ?_
  refine va_putF (D := (dC, dI)) (ci := 6) (v := .ref qt) (ty := .object "ClassMill$Text") (C := RX6) (T := TX6) (N := 8) hx hb hts uX6_init_X6 tyX6 tyX6_ok nmX6 hown hK hP hD hS 0 rfl rfl 0 (by decide) (hts (.fieldLink RX6 20 "ClassMill$Pool" "text" "LClassMill$Text;") (by decide +kernel)) (fun _ h9 => h9) rfl hin rfl (by decide +kernel) rfl rfl (Nat.le_of_ble_eq_true rfl) dX6_init_33 ?_
  clear hP hD hS
  intro H locs hP hD hS
  replace hP : va_P (dC, dI) vwCl [(h0, .inr (6, [.ref qt, .null, .ref q_1, .ref q_2, .int 0, .int 0, .ref q_3, .int 0]))] H := hP
  replace hD : va_D A [(h0, .inr (6, [.ref qt, .null, .ref q_1, .ref q_2, .int 0, .int 0, .ref q_3, .int 0]))] := hD
  refine lv_aload_n hx hb dX6_init_36 rfl (lv_at hl 0 rfl) ?_
  refine lv_aload_n hx hb dX6_init_37 rfl (lv_at hl 2 rfl) ?_
  refine va_putF (D := (dC, dI)) (ci := 6) (v := .ref qh) (ty := .object "ClassMill$Heads") (C := RX6) (T := TX6) (N := 8) hx hb hts uX6_init_X6 tyX6 tyX6_ok nmX6 hown hK hP hD hS 0 rfl rfl 1 (by decide) (hts (.fieldLink RX6 24 "ClassMill$Pool" "heads" "LClassMill$Heads;") (by decide +kernel)) (fun _ h9 => h9) rfl hin rfl (by decide +kernel) rfl rfl (Nat.le_of_ble_eq_true rfl) dX6_init_38 ?_
  clear hP hD hS
  intro H locs hP hD hS
  replace hP : va_P (dC, dI) vwCl [(h0, .inr (6, [.ref qt, .ref qh, .ref q_1, .ref q_2, .int 0, .int 0, .ref q_3, .int 0]))] H := hP
  replace hD : va_D A [(h0, .inr (6, [.ref qt, .ref qh, .ref q_1, .ref q_2, .int 0, .int 0, .ref q_3, .int 0]))] := hD
  have hP9 := hP.sub (ws' := []) [] rfl
  have hD9 := hD.sub (ws' := []) [] (by decide) rfl
  have hK9 := hK.sub (tys' := []) [] rfl
  exact W.vret hx hb hr (fun t ht hW => ⟨⟨(), rfl, trivial, by rw [ht]; exact hP9, va_K.moved hW.alike hK9, hD9⟩, hS.F ht⟩) hS.2.2 dX6_init_41
set_option maxHeartbeats 4000000 in
set_option maxRecDepth 100000 in
/-- Image() -/
theorem ct_img (l : Launch) (dC : Nat → ClassId) (dI : Nat → Nat → Nat) (sz : Nat) (h0 : Nat)   : Met l yX3_init wsX3_init ({ frames := 1, cells := 6, slots := 936, locals := 12 }) (va_Pc [.ref h0] (fun U => U.heap.size = sz ∧ va_P (dC, dI) vwCl [(h0, .inr (3, [.null, .int 0, .int 0, .int 0, .null, .null, .null, .int 0, .int 0, .int 0, .int 0, .null, .int 0, .null]))] U.heap ∧ va_K (dC, dI) vwCl [] U ∧ va_D (fun _ => True) [(h0, .inr (3, [.null, .int 0, .int 0, .int 0, .null, .null, .null, .int 0, .int 0, .int 0, .int 0, .null, .int 0, .null]))])) (va_Qv (fun (u : Nat × Nat × Nat × Nat × Nat × Nat) => match u with | (qo1, qo2, qo3, qo4, qo5, qo6) => True) (fun (u : Nat × Nat × Nat × Nat × Nat × Nat) (t : State) => match u with | (qo1, qo2, qo3, qo4, qo5, qo6) => va_P (dC, dI) vwCl [(h0, .inr (3, [.ref qo1, .int 0, .int 0, .int 0, .ref qo2, .ref qo3, .ref qo4, .int 0, .int 0, .int 0, .int 0, .ref qo5, .int 0, .ref qo6]))] t.heap ∧ va_K (dC, dI) vwCl [] t ∧ va_D (va_A [(h0, .inr (3, [.null, .int 0, .int 0, .int 0, .null, .null, .null, .int 0, .int 0, .int 0, .int 0, .null, .int 0, .null]))] sz) [(h0, .inr (3, [.ref qo1, .int 0, .int 0, .int 0, .ref qo2, .ref qo3, .ref qo4, .int 0, .int 0, .int 0, .int 0, .ref qo5, .int 0, .ref qo6]))]) (va_A [(h0, .inr (3, [.null, .int 0, .int 0, .int 0, .null, .null, .null, .int 0, .int 0, .int 0, .int 0, .null, .int 0, .null]))] sz)) 6 936 (va_A [(h0, .inr (3, [.null, .int 0, .int 0, .int 0, .null, .null, .null, .int 0, .int 0, .int 0, .int 0, .null, .int 0, .null]))] sz) := by
  refine Met.ofW (cc := cX3_init) (maxL := 1) (ret := none) (by decide) rfl ?_
  intro p e s m args below meth c s₁ B hml hv
  obtain ⟨rfl, hsz, hP, hK, hD0⟩ := hv
  have hx := B.exec
  have hb := B.bytes
  have hr := B.returns
  have hts := atoms_spec (ws := wsX3_init) B.pre
  have hown : s.vm.findClass RX3 = some m.cls := findClass_of_methodNamed B.named
  have hlocks := B.notSynchronized
  have hin : meth.name = "<init>" := (name_of_methodNamed B.named B.method).1
  subst hsz
  have hD := hD0.self (sz := s.heap.size)
  generalize hAe : va_A [(h0, .inr (3, [.null, .int 0, .int 0, .int 0, .null, .null, .null, .int 0, .int 0, .int 0, .int 0, .null, .int 0, .null]))] s.heap.size = A at hD  ⊢
  have hA : ∀ q : Nat, s.heap.size ≤ q → A q := fun q h => by rw [← hAe]; exact Or.inr h
  have hP : va_P (dC, dI) vwCl [(h0, .inr (3, [.null, .int 0, .int 0, .int 0, .null, .null, .null, .int 0, .int 0, .int 0, .int 0, .null, .int 0, .null]))] s.heap := hP
  have hl := lv_entry ([.ref h0]) (n := 1) (Nat.le_of_ble_eq_true rfl)
  rw [lg_entry_eq]
  generalize (lg_sl ([.ref h0]) ++ List.replicate (1 - (lg_sl ([.ref h0])).length) Slot.unset).toArray = ls at hl ⊢
  have hl : lv_has ls 1 [(0, .ref h0)] := hl
  obtain ⟨H, hH⟩ : ∃ H : Heap, s.heap = H := ⟨_, rfl⟩
  rw [hH] at hP ⊢
  have hS : va_S A s.heap H [] := by rw [← hH]; exact va_S.rf
  obtain ⟨locs, hlo⟩ : ∃ locs : List Loc, locs = [] := ⟨_, rfl⟩
  rw [← hlo] at hS ⊢
  refine lv_aload_n hx hb dX3_init_0 rfl (lv_at hl 0 rfl) ?_
  refine W.objInit hx hb hown (hts (.methodLink RX3 3 objectInit) (by decide +kernel)) (hts (.instanceMethod objectInit) (by decide +kernel)) (hts (.code objectInit ⟨#[0xb1]⟩ 1 none) (by decide +kernel)) rfl (by rw [hml]; exact hl.1) rfl dX3_init_1 (Nat.le_of_ble_eq_true rfl) (Nat.le_of_ble_eq_true rfl) ?_
  refine W.eq (g2 := F0 m 4 ls []) rfl ?_
  refine lv_aload_n hx hb dX3_init_4 rfl (lv_at hl 0 rfl) ?_
  refine lv_iconst (v := 0) hx hb dX3_init_5 (by decide) ?_
  refine va_newa (atype := .byte) (ty := .byte) (N' := 0) (a0 := (0, .inl (fun _ => 0))) hx hb (hts (.arrayClass .byte) (by decide +kernel)) rfl hK hP hD hS hA (fun _ => rfl) (by decide) (by decide) (by decide) (Nat.le_of_ble_eq_true rfl) (Nat.le_of_ble_eq_true rfl) dX3_init_6 ?_
  clear hK hP hD hS
  intro q_1 cq_1 H hK hP hD hS
  refine W.widen (k := 1) (n := 0) (Nat.le_of_ble_eq_true rfl) (Nat.le_of_ble_eq_true rfl) ?_
  replace hP := hP.sub (ws' := [(h0, .inr (3, [.null, .int 0, .int 0, .int 0, .null, .null, .null, .int 0, .int 0, .int 0, .int 0, .null, .int 0, .null]))]) [0] rfl
  replace hD := hD.sub (ws' := [(h0, .inr (3, [.null, .int 0, .int 0, .int 0, .null, .null, .null, .int 0, .int 0, .int 0, .int 0, .null, .int 0, .null]))]) [0] (by decide) rfl
  replace hK := hK.sub (tys' := []) [] rfl
  refine va_put (D := (dC, dI)) (ci := 3) (v := .ref q_1) (ty := .array .byte) (C := RX3) (T := TX3) (N := 14) hx hb hts uX3_init_X3 tyX3 tyX3_ok nmX3 hown hK hP hD hS 0 rfl rfl 0 (by decide) (hts (.fieldLink RX3 9 "ClassMill$Image" "bytes" "[B") (by decide +kernel)) (fun _ h9 => h9) rfl (by decide +kernel) rfl rfl (Nat.le_of_ble_eq_true rfl) dX3_init_8 ?_
  clear hP hD hS
  intro H locs hP hD hS
  replace hP : va_P (dC, dI) vwCl [(h0, .inr (3, [.ref q_1, .int 0, .int 0, .int 0, .null, .null, .null, .int 0, .int 0, .int 0, .int 0, .null, .int 0, .null]))] H := hP
  replace hD : va_D A [(h0, .inr (3, [.ref q_1, .int 0, .int 0, .int 0, .null, .null, .null, .int 0, .int 0, .int 0, .int 0, .null, .int 0, .null]))] := hD
  refine lv_aload_n hx hb dX3_init_11 rfl (lv_at hl 0 rfl) ?_
  refine lv_sipush (v := 256) hx hb dX3_init_12 (by decide) ?_
  refine va_newa (atype := .int) (ty := .int) (N' := 256) (a0 := (256, .inl (fun _ => 0))) hx hb (hts (.arrayClass .int) (by decide +kernel)) rfl hK hP hD hS hA (fun _ => rfl) (by decide) (by decide) (by decide) (Nat.le_of_ble_eq_true rfl) (Nat.le_of_ble_eq_true rfl) dX3_init_15 ?_
  clear hK hP hD hS
  intro q_2 cq_2 H hK hP hD hS
  refine W.widen (k := 2) (n := 256) (Nat.le_of_ble_eq_true rfl) (Nat.le_of_ble_eq_true rfl) ?_
  replace hP := hP.sub (ws' := [(h0, .inr (3, [.ref q_1, .int 0, .int 0, .int 0, .null, .null, .null, .int 0, .int 0, .int 0, .int 0, .null, .int 0, .null]))]) [0] rfl
  replace hD := hD.sub (ws' := [(h0, .inr (3, [.ref q_1, .int 0, .int 0, .int 0, .null, .null, .null, .int 0, .int 0, .int 0, .int 0, .null, .int 0, .null]))]) [0] (by decide) rfl
  replace hK := hK.sub (tys' := []) [] rfl
  refine va_putF (D := (dC, dI)) (ci := 3) (v := .ref q_2) (ty := .array .int) (C := RX3) (T := TX3) (N := 14) hx hb hts uX3_init_X3 tyX3 tyX3_ok nmX3 hown hK hP hD hS 0 rfl rfl 4 (by decide) (hts (.fieldLink RX3 15 "ClassMill$Image" "tags" "[I") (by decide +kernel)) (fun _ h9 => h9) rfl hin rfl (by decide +kernel) rfl rfl (Nat.le_of_ble_eq_true rfl) dX3_init_17 ?_
  clear hP hD hS
  intro H locs hP hD hS
  replace hP : va_P (dC, dI) vwCl [(h0, .inr (3, [.ref q_1, .int 0, .int 0, .int 0, .ref q_2, .null, .null, .int 0, .int 0, .int 0, .int 0, .null, .int 0, .null]))] H := hP
  replace hD : va_D A [(h0, .inr (3, [.ref q_1, .int 0, .int 0, .int 0, .ref q_2, .null, .null, .int 0, .int 0, .int 0, .int 0, .null, .int 0, .null]))] := hD
  refine lv_aload_n hx hb dX3_init_20 rfl (lv_at hl 0 rfl) ?_
  refine lv_sipush (v := 256) hx hb dX3_init_21 (by decide) ?_
  refine va_newa (atype := .int) (ty := .int) (N' := 256) (a0 := (256, .inl (fun _ => 0))) hx hb (hts (.arrayClass .int) (by decide +kernel)) rfl hK hP hD hS hA (fun _ => rfl) (by decide) (by decide) (by decide) (Nat.le_of_ble_eq_true rfl) (Nat.le_of_ble_eq_true rfl) dX3_init_24 ?_
  clear hK hP hD hS
  intro q_3 cq_3 H hK hP hD hS
  refine W.widen (k := 3) (n := 512) (Nat.le_of_ble_eq_true rfl) (Nat.le_of_ble_eq_true rfl) ?_
  replace hP := hP.sub (ws' := [(h0, .inr (3, [.ref q_1, .int 0, .int 0, .int 0, .ref q_2, .null, .null, .int 0, .int 0, .int 0, .int 0, .null, .int 0, .null]))]) [0] rfl
  replace hD := hD.sub (ws' := [(h0, .inr (3, [.ref q_1, .int 0, .int 0, .int 0, .ref q_2, .null, .null, .int 0, .int 0, .int 0, .int 0, .null, .int 0, .null]))]) [0] (by decide) rfl
  replace hK := hK.sub (tys' := []) [] rfl
  refine va_putF (D := (dC, dI)) (ci := 3) (v := .ref q_3) (ty := .array .int) (C := RX3) (T := TX3) (N := 14) hx hb hts uX3_init_X3 tyX3 tyX3_ok nmX3 hown hK hP hD hS 0 rfl rfl 5 (by decide) (hts (.fieldLink RX3 19 "ClassMill$Image" "at" "[I") (by decide +kernel)) (fun _ h9 => h9) rfl hin rfl (by decide +kernel) rfl rfl (Nat.le_of_ble_eq_true rfl) dX3_init_26 ?_
  clear hP hD hS
  intro H locs hP hD hS
  replace hP : va_P (dC, dI) vwCl [(h0, .inr (3, [.ref q_1, .int 0, .int 0, .int 0, .ref q_2, .ref q_3, .null, .int 0, .int 0, .int 0, .int 0, .null, .int 0, .null]))] H := hP
  replace hD : va_D A [(h0, .inr (3, [.ref q_1, .int 0, .int 0, .int 0, .ref q_2, .ref q_3, .null, .int 0, .int 0, .int 0, .int 0, .null, .int 0, .null]))] := hD
  refine lv_aload_n hx hb dX3_init_29 rfl (lv_at hl 0 rfl) ?_
  refine lv_sipush (v := 256) hx hb dX3_init_30 (by decide) ?_
  refine va_newa (atype := .int) (ty := .int) (N' := 256) (a0 := (256, .inl (fun _ => 0))) hx hb (hts (.arrayClass .int) (by decide +kernel)) rfl hK hP hD hS hA (fun _ => rfl) (by decide) (by decide) (by decide) (Nat.le_of_ble_eq_true rfl) (Nat.le_of_ble_eq_true rfl) dX3_init_33 ?_
  clear hK hP hD hS
  intro q_4 cq_4 H hK hP hD hS
  refine W.widen (k := 4) (n := 768) (Nat.le_of_ble_eq_true rfl) (Nat.le_of_ble_eq_true rfl) ?_
  replace hP := hP.sub (ws' := [(h0, .inr (3, [.ref q_1, .int 0, .int 0, .int 0, .ref q_2, .ref q_3, .null, .int 0, .int 0, .int 0, .int 0, .null, .int 0, .null]))]) [0] rfl
  replace hD := hD.sub (ws' := [(h0, .inr (3, [.ref q_1, .int 0, .int 0, .int 0, .ref q_2, .ref q_3, .null, .int 0, .int 0, .int 0, .int 0, .null, .int 0, .null]))]) [0] (by decide) rfl
  replace hK := hK.sub (tys' := []) [] rfl
  refine va_putF (D := (dC, dI)) (ci := 3) (v := .ref q_4) (ty := .array .int) (C := RX3) (T := TX3) (N := 14) hx hb hts uX3_init_X3 tyX3 tyX3_ok nmX3 hown hK hP hD hS 0 rfl rfl 6 (by decide) (hts (.fieldLink RX3 22 "ClassMill$Image" "textStop" "[I") (by decide +kernel)) (fun _ h9 => h9) rfl hin rfl (by decide +kernel) rfl rfl (Nat.le_of_ble_eq_true rfl) dX3_init_35 ?_
  clear hP hD hS
  intro H locs hP hD hS
  replace hP : va_P (dC, dI) vwCl [(h0, .inr (3, [.ref q_1, .int 0, .int 0, .int 0, .ref q_2, .ref q_3, .ref q_4, .int 0, .int 0, .int 0, .int 0, .null, .int 0, .null]))] H := hP
  replace hD : va_D A [(h0, .inr (3, [.ref q_1, .int 0, .int 0, .int 0, .ref q_2, .ref q_3, .ref q_4, .int 0, .int 0, .int 0, .int 0, .null, .int 0, .null]))] := hD
  refine lv_aload_n hx hb dX3_init_38 rfl (lv_at hl 0 rfl) ?_
  refine lv_bipush (v := 24) hx hb dX3_init_39 (by decide) ?_
  refine va_newa (atype := .int) (ty := .int) (N' := 24) (a0 := (24, .inl (fun _ => 0))) hx hb (hts (.arrayClass .int) (by decide +kernel)) rfl hK hP hD hS hA (fun _ => rfl) (by decide) (by decide) (by decide) (Nat.le_of_ble_eq_true rfl) (Nat.le_of_ble_eq_true rfl) dX3_init_41 ?_
  clear hK hP hD hS
  intro q_5 cq_5 H hK hP hD hS
  refine W.widen (k := 5) (n := 792) (Nat.le_of_ble_eq_true rfl) (Nat.le_of_ble_eq_true rfl) ?_
  replace hP := hP.sub (ws' := [(h0, .inr (3, [.ref q_1, .int 0, .int 0, .int 0, .ref q_2, .ref q_3, .ref q_4, .int 0, .int 0, .int 0, .int 0, .null, .int 0, .null]))]) [0] rfl
  replace hD := hD.sub (ws' := [(h0, .inr (3, [.ref q_1, .int 0, .int 0, .int 0, .ref q_2, .ref q_3, .ref q_4, .int 0, .int 0, .int 0, .int 0, .null, .int 0, .null]))]) [0] (by decide) rfl
  replace hK := hK.sub (tys' := []) [] rfl
  refine va_putF (D := (dC, dI)) (ci := 3) (v := .ref q_5) (ty := .array .int) (C := RX3) (T := TX3) (N := 14) hx hb hts uX3_init_X3 tyX3 tyX3_ok nmX3 hown hK hP hD hS 0 rfl rfl 11 (by decide) (hts (.fieldLink RX3 27 "ClassMill$Image" "field" "[I") (by decide +kernel)) (fun _ h9 => h9) rfl hin rfl (by decide +kernel) rfl rfl (Nat.le_of_ble_eq_true rfl) dX3_init_43 ?_
  clear hP hD hS
  intro H locs hP hD hS
  replace hP : va_P (dC, dI) vwCl [(h0, .inr (3, [.ref q_1, .int 0, .int 0, .int 0, .ref q_2, .ref q_3, .ref q_4, .int 0, .int 0, .int 0, .int 0, .ref q_5, .int 0, .null]))] H := hP
  replace hD : va_D A [(h0, .inr (3, [.ref q_1, .int 0, .int 0, .int 0, .ref q_2, .ref q_3, .ref q_4, .int 0, .int 0, .int 0, .int 0, .ref q_5, .int 0, .null]))] := hD
  refine lv_aload_n hx hb dX3_init_46 rfl (lv_at hl 0 rfl) ?_
  refine lv_sipush (v := 144) hx hb dX3_init_47 (by decide) ?_
  refine va_newa (atype := .int) (ty := .int) (N' := 144) (a0 := (144, .inl (fun _ => 0))) hx hb (hts (.arrayClass .int) (by decide +kernel)) rfl hK hP hD hS hA (fun _ => rfl) (by decide) (by decide) (by decide) (Nat.le_of_ble_eq_true rfl) (Nat.le_of_ble_eq_true rfl) dX3_init_50 ?_
  clear hK hP hD hS
  intro q_6 cq_6 H hK hP hD hS
  refine W.widen (k := 6) (n := 936) (Nat.le_of_ble_eq_true rfl) (Nat.le_of_ble_eq_true rfl) ?_
  replace hP := hP.sub (ws' := [(h0, .inr (3, [.ref q_1, .int 0, .int 0, .int 0, .ref q_2, .ref q_3, .ref q_4, .int 0, .int 0, .int 0, .int 0, .ref q_5, .int 0, .null]))]) [0] rfl
  replace hD := hD.sub (ws' := [(h0, .inr (3, [.ref q_1, .int 0, .int 0, .int 0, .ref q_2, .ref q_3, .ref q_4, .int 0, .int 0, .int 0, .int 0, .ref q_5, .int 0, .null]))]) [0] (by decide) rfl
  replace hK := hK.sub (tys' := []) [] rfl
  refine va_putF (D := (dC, dI)) (ci := 3) (v := .ref q_6) (ty := .array .int) (C := RX3) (T := TX3) (N := 14) hx hb hts uX3_init_X3 tyX3 tyX3_ok nmX3 hown hK hP hD hS 0 rfl rfl 13 (by decide) (hts (.fieldLink RX3 30 "ClassMill$Image" "method" "[I") (by decide +kernel)) (fun _ h9 => h9) rfl hin rfl (by decide +kernel) rfl rfl (Nat.le_of_ble_eq_true rfl) dX3_init_52 ?_
  clear hP hD hS
  intro H locs hP hD hS
  replace hP : va_P (dC, dI) vwCl [(h0, .inr (3, [.ref q_1, .int 0, .int 0, .int 0, .ref q_2, .ref q_3, .ref q_4, .int 0, .int 0, .int 0, .int 0, .ref q_5, .int 0, .ref q_6]))] H := hP
  replace hD : va_D A [(h0, .inr (3, [.ref q_1, .int 0, .int 0, .int 0, .ref q_2, .ref q_3, .ref q_4, .int 0, .int 0, .int 0, .int 0, .ref q_5, .int 0, .ref q_6]))] := hD
  have hP9 := hP.sub (ws' := [(h0, .inr (3, [.ref q_1, .int 0, .int 0, .int 0, .ref q_2, .ref q_3, .ref q_4, .int 0, .int 0, .int 0, .int 0, .ref q_5, .int 0, .ref q_6]))]) [0] rfl
  have hD9 := hD.sub (ws' := [(h0, .inr (3, [.ref q_1, .int 0, .int 0, .int 0, .ref q_2, .ref q_3, .ref q_4, .int 0, .int 0, .int 0, .int 0, .ref q_5, .int 0, .ref q_6]))]) [0] (by decide) rfl
  have hK9 := hK.sub (tys' := []) [] rfl
  exact W.vret hx hb hr (fun t ht hW => ⟨⟨(q_1, q_2, q_3, q_4, q_5, q_6), rfl, trivial, by rw [ht]; exact hP9, va_K.moved hW.alike hK9, hD9⟩, hS.F ht⟩) hS.2.2 dX3_init_55
set_option maxHeartbeats 4000000 in
set_option maxRecDepth 100000 in
/-- Heads(text) -/
theorem ct_heads (l : Launch) (dC : Nat → ClassId) (dI : Nat → Nat → Nat) (sz : Nat) (h0 : Nat) (qt : Nat)  : Met l yX2_init wsX2_init ({ frames := 3, cells := 20, slots := 4540, locals := 64 }) (va_Pc [.ref h0, .ref qt] (fun U => U.heap.size = sz ∧ va_P (dC, dI) vwCl [(h0, .inr (2, [.null, .null, .int 0, .null, .null, .null, .null, .null, .null, .null, .null, .null, .null, .null, .null, .null, .null, .null, .null, .null, .int 0]))] U.heap ∧ va_K (dC, dI) vwCl [] U ∧ va_D (fun _ => True) [(h0, .inr (2, [.null, .null, .int 0, .null, .null, .null, .null, .null, .null, .null, .null, .null, .null, .null, .null, .null, .null, .null, .null, .null, .int 0]))])) (va_Qv (fun (u : Nat × Nat × Nat × Nat × Nat × Nat × Nat × Nat × Nat × Nat × Nat × Nat × Nat × Nat × Nat × Nat × Nat × Nat × Nat × Nat × ClassId × (Nat → Int32) × ClassId × (Nat → Int32) × ClassId × ClassId × ClassId × ClassId × ClassId) => match u with | (qo1, qo2, qo3, qo4, qo5, qo6, qo7, qo8, qo9, qo10, qo11, qo12, qo13, qo14, qo15, qo16, qo17, qo18, qo19, qo20, co1, fo1, co2, go1, co3, co4, co5, co6, co7) => ∀ i, i < 16 → fo1 i = kinF i) (fun (u : Nat × Nat × Nat × Nat × Nat × Nat × Nat × Nat × Nat × Nat × Nat × Nat × Nat × Nat × Nat × Nat × Nat × Nat × Nat × Nat × ClassId × (Nat → Int32) × ClassId × (Nat → Int32) × ClassId × ClassId × ClassId × ClassId × ClassId) (t : State) => match u with | (qo1, qo2, qo3, qo4, qo5, qo6, qo7, qo8, qo9, qo10, qo11, qo12, qo13, qo14, qo15, qo16, qo17, qo18, qo19, qo20, co1, fo1, co2, go1, co3, co4, co5, co6, co7) => va_P (dC, dI) vwCl [(h0, .inr (2, [.ref qt, .ref qo1, .int 0, .ref qo2, .ref qo3, .ref qo4, .ref qo5, .ref qo6, .ref qo7, .ref qo8, .ref qo9, .ref qo10, .ref qo11, .ref qo12, .ref qo13, .ref qo14, .ref qo15, .ref qo16, .ref qo17, .ref qo18, .int 0])), (qo1, .inr (4, [.ref qo19, .ref qo20])), (qo19, .inl (co1, 16, .inl fo1)), (qo20, .inl (co2, 256, .inl go1)), (qo2, .inl (co3, 334, .inl (fun _ => 0))), (qo4, .inl (co4, 8, .inl (fun _ => 0))), (qo8, .inl (co5, 8, .inl (fun _ => 0))), (qo5, .inl (co6, 96, .inl (fun _ => 0))), (qo9, .inl (co7, 96, .inl (fun _ => 0)))] t.heap ∧ va_K (dC, dI) vwCl [(co1, .int), (co2, .boolean), (co3, .int), (co4, .int), (co5, .int), (co6, .int), (co7, .int)] t ∧ va_D (va_A [(h0, .inr (2, [.null, .null, .int 0, .null, .null, .null, .null, .null, .null, .null, .null, .null, .null, .null, .null, .null, .null, .null, .null, .null, .int 0]))] sz) [(h0, .inr (2, [.ref qt, .ref qo1, .int 0, .ref qo2, .ref qo3, .ref qo4, .ref qo5, .ref qo6, .ref qo7, .ref qo8, .ref qo9, .ref qo10, .ref qo11, .ref qo12, .ref qo13, .ref qo14, .ref qo15, .ref qo16, .ref qo17, .ref qo18, .int 0])), (qo1, .inr (4, [.ref qo19, .ref qo20])), (qo19, .inl (co1, 16, .inl fo1)), (qo20, .inl (co2, 256, .inl go1)), (qo2, .inl (co3, 334, .inl (fun _ => 0))), (qo4, .inl (co4, 8, .inl (fun _ => 0))), (qo8, .inl (co5, 8, .inl (fun _ => 0))), (qo5, .inl (co6, 96, .inl (fun _ => 0))), (qo9, .inl (co7, 96, .inl (fun _ => 0)))]) (va_A [(h0, .inr (2, [.null, .null, .int 0, .null, .null, .null, .null, .null, .null, .null, .null, .null, .null, .null, .null, .null, .null, .null, .null, .null, .int 0]))] sz)) 20 4540 (va_A [(h0, .inr (2, [.null, .null, .int 0, .null, .null, .null, .null, .null, .null, .null, .null, .null, .null, .null, .null, .null, .null, .null, .null, .null, .int 0]))] sz) := by
  refine Met.ofW (cc := cX2_init) (maxL := 2) (ret := none) (by decide) rfl ?_
  intro p e s m args below meth c s₁ B hml hv
  obtain ⟨rfl, hsz, hP, hK, hD0⟩ := hv
  have hx := B.exec
  have hb := B.bytes
  have hr := B.returns
  have hts := atoms_spec (ws := wsX2_init) B.pre
  have hown : s.vm.findClass RX2 = some m.cls := findClass_of_methodNamed B.named
  have hlocks := B.notSynchronized
  have hin : meth.name = "<init>" := (name_of_methodNamed B.named B.method).1
  subst hsz
  have hD := hD0.self (sz := s.heap.size)
  generalize hAe : va_A [(h0, .inr (2, [.null, .null, .int 0, .null, .null, .null, .null, .null, .null, .null, .null, .null, .null, .null, .null, .null, .null, .null, .null, .null, .int 0]))] s.heap.size = A at hD  ⊢
  have hA : ∀ q : Nat, s.heap.size ≤ q → A q := fun q h => by rw [← hAe]; exact Or.inr h
  have hP : va_P (dC, dI) vwCl [(h0, .inr (2, [.null, .null, .int 0, .null, .null, .null, .null, .null, .null, .null, .null, .null, .null, .null, .null, .null, .null, .null, .null, .null, .int 0]))] s.heap := hP
  have hl := lv_entry ([.ref h0, .ref qt]) (n := 2) (Nat.le_of_ble_eq_true rfl)
  rw [lg_entry_eq]
  generalize (lg_sl ([.ref h0, .ref qt]) ++ List.replicate (2 - (lg_sl ([.ref h0, .ref qt])).length) Slot.unset).toArray = ls at hl ⊢
  have hl : lv_has ls 2 [(0, .ref h0), (1, .ref qt)] := hl
  obtain ⟨H, hH⟩ : ∃ H : Heap, s.heap = H := ⟨_, rfl⟩
  rw [hH] at hP ⊢
  have hS : va_S A s.heap H [] := by rw [← hH]; exact va_S.rf
  obtain ⟨locs, hlo⟩ : ∃ locs : List Loc, locs = [] := ⟨_, rfl⟩
  rw [← hlo] at hS ⊢
  refine lv_aload_n hx hb dX2_init_0 rfl (lv_at hl 0 rfl) ?_
  refine W.objInit hx hb hown (hts (.methodLink RX2 5 objectInit) (by decide +kernel)) (hts (.instanceMethod objectInit) (by decide +kernel)) (hts (.code objectInit ⟨#[0xb1]⟩ 1 none) (by decide +kernel)) rfl (by rw [hml]; exact hl.1) rfl dX2_init_1 (Nat.le_of_ble_eq_true rfl) (Nat.le_of_ble_eq_true rfl) ?_
  refine W.eq (g2 := F0 m 4 ls []) rfl ?_
  refine lv_aload_n hx hb dX2_init_4 rfl (lv_at hl 0 rfl) ?_
  refine va_new (ci := 4) (fs := [.null, .null]) (C := RX4) (T := TX4) (N := 2) hx hb hts uX2_init_X4 tyX4 tyX4_ok hown (hts (.classLink RX2 11 RX4) (by decide +kernel)) (hts (.instantiable RX4 2) (by decide +kernel)) (hts (.initialized RX4) (by decide +kernel)) hK hP hD hS hA rfl (fun j hj => by rcases (show j = 0 ∨ j = 1 by omega) with rfl | rfl <;> rfl) (Nat.le_of_ble_eq_true rfl) (Nat.le_of_ble_eq_true rfl) dX2_init_5 ?_
  clear hP hD hS
  intro q_1 H hP hD hS
  refine W.widen (k := 1) (n := 2) (Nat.le_of_ble_eq_true rfl) (Nat.le_of_ble_eq_true rfl) ?_
  replace hP : va_P (dC, dI) vwCl [(h0, .inr (2, [.null, .null, .int 0, .null, .null, .null, .null, .null, .null, .null, .null, .null, .null, .null, .null, .null, .null, .null, .null, .null, .int 0])), (q_1, .inr (4, [.null, .null]))] H := hP
  replace hD : va_D A [(h0, .inr (2, [.null, .null, .int 0, .null, .null, .null, .null, .null, .null, .null, .null, .null, .null, .null, .null, .null, .null, .null, .null, .null, .int 0])), (q_1, .inr (4, [.null, .null]))] := hD
  refine lv_dup hx hb dX2_init_8 rfl ?_
  have hPc := hP.sub (ws' := [(q_1, .inr (4, [.null, .null]))]) [1] rfl
  have hDc := hD.sub (ws' := [(q_1, .inr (4, [.null, .null]))]) [1] (by decide) rfl
  have hKc := hK.sub (tys' := []) [] rfl
  have hFc := va_free (wc := [(q_1, .inr (4, [.null, .null]))]) hD hS hA [1] rfl
  refine va_callv (va_runI (As := []) (rest := [.ref q_1, .ref h0]) ⟨hx, hb, hml, hown, hts⟩ (ct_kinit l dC dI H.size q_1) (cwI 0 hts gX2_init_X4_init rfl rfl rfl (hts (.initialized RX4) (by decide +kernel)) (hts (.methodLink RX2 13 yX4_init) (by decide +kernel)) (hts (.instanceMethod yX4_init) (by decide +kernel)) rfl (by decide +kernel) ⟨Nat.le_of_ble_eq_true rfl, Nat.le_of_ble_eq_true rfl⟩) ⟨fun a U g mk q => by obtain ⟨q0, q1, qP, qK, qD⟩ := q; exact ⟨q0, q1, qP, va_K.moved (u := U) (U := U.calling g mk a) (Vm.Alike.refl U.vm) qK, qD⟩, fun U hU hW => ⟨rfl, by rw [hU], by rw [hU]; exact hPc, va_K.moved hW.alike hKc, hDc.weaken (fun _ _ _ _ => trivial)⟩⟩ rfl rfl hl.1 rfl (lv_room (Nat.le_of_ble_eq_true rfl)) dX2_init_9 ⟨Nat.le_of_ble_eq_true rfl, Nat.le_of_ble_eq_true rfl⟩) hS (fun q _ h => hFc q h) hFc ?_
  clear hS
  intro u t H1 locs ht hvm hw hB hz1 hk1 hS
  obtain ⟨q_2, q_3, ca_4, cu_5, f_6, g_7⟩ := u
  obtain ⟨hP1, hK1, hD1⟩ := hB
  rw [ht] at hP1
  have hK1 := va_K.moved hvm.symm hK1
  try dsimp only at hw
  have hPD := va_join (wr := [(h0, .inr (2, [.null, .null, .int 0, .null, .null, .null, .null, .null, .null, .null, .null, .null, .null, .null, .null, .null, .null, .null, .null, .null, .int 0]))]) (w1 := [(q_1, .inr (4, [.ref q_2, .ref q_3])), (q_2, .inl (ca_4, 16, .inl f_6)), (q_3, .inl (cu_5, 256, .inl g_7))]) hP hD [1] [0] rfl rfl (by decide) (by decide) hk1 hFc hP1 hD1
  clear hP hD
  obtain ⟨hP, hD⟩ := hPD
  replace hK := (hK.sub (tys' := []) [] rfl).app hK1
  clear hPc hDc hKc hFc hP1 hK1 hD1 hz1 hk1 ht hvm
  generalize H1 = H at hP hS ⊢
  replace hP : va_P (dC, dI) vwCl [(h0, .inr (2, [.null, .null, .int 0, .null, .null, .null, .null, .null, .null, .null, .null, .null, .null, .null, .null, .null, .null, .null, .null, .null, .int 0])), (q_1, .inr (4, [.ref q_2, .ref q_3])), (q_2, .inl (ca_4, 16, .inl f_6)), (q_3, .inl (cu_5, 256, .inl g_7))] H := hP
  replace hD : va_D A [(h0, .inr (2, [.null, .null, .int 0, .null, .null, .null, .null, .null, .null, .null, .null, .null, .null, .null, .null, .null, .null, .null, .null, .null, .int 0])), (q_1, .inr (4, [.ref q_2, .ref q_3])), (q_2, .inl (ca_4, 16, .inl f_6)), (q_3, .inl (cu_5, 256, .inl g_7))] := hD
  replace hK : va_K (dC, dI) vwCl [(ca_4, .int), (cu_5, .boolean)] s := hK
  refine W.widen (k := 3) (n := 274) (Nat.le_of_ble_eq_true rfl) (Nat.le_of_ble_eq_true rfl) ?_
  have hkf := hw
  refine va_putF (D := (dC, dI)) (ci := 2) (v := .ref q_1) (ty := .object "ClassMill$Kin") (C := RX2) (T := TX2) (N := 21) hx hb hts uX2_init_X2 tyX2 tyX2_ok nmX2 hown hK hP hD hS 0 rfl rfl 1 (by decide) (hts (.fieldLink RX2 14 "ClassMill$Heads" "kin" "LClassMill$Kin;") (by decide +kernel)) (fun _ h9 => h9) rfl hin rfl (by decide +kernel) rfl rfl (Nat.le_of_ble_eq_true rfl) dX2_init_12 ?_
  clear hP hD hS
  intro H locs hP hD hS
  replace hP : va_P (dC, dI) vwCl [(h0, .inr (2, [.null, .ref q_1, .int 0, .null, .null, .null, .null, .null, .null, .null, .null, .null, .null, .null, .null, .null, .null, .null, .null, .null, .int 0])), (q_1, .inr (4, [.ref q_2, .ref q_3])), (q_2, .inl (ca_4, 16, .inl f_6)), (q_3, .inl (cu_5, 256, .inl g_7))] H := hP
  replace hD : va_D A [(h0, .inr (2, [.null, .ref q_1, .int 0, .null, .null, .null, .null, .null, .null, .null, .null, .null, .null, .null, .null, .null, .null, .null, .null, .null, .int 0])), (q_1, .inr (4, [.ref q_2, .ref q_3])), (q_2, .inl (ca_4, 16, .inl f_6)), (q_3, .inl (cu_5, 256, .inl g_7))] := hD
  refine lv_aload_n hx hb dX2_init_15 rfl (lv_at hl 0 rfl) ?_
  refine lv_sipush (v := 334) hx hb dX2_init_16 (by decide) ?_
  refine va_newa (atype := .int) (ty := .int) (N' := 334) (a0 := (334, .inl (fun _ => 0))) hx hb (hts (.arrayClass .int) (by decide +kernel)) rfl hK hP hD hS hA (fun _ => rfl) (by decide) (by decide) (by decide) (Nat.le_of_ble_eq_true rfl) (Nat.le_of_ble_eq_true rfl) dX2_init_19 ?_
  clear hK hP hD hS
  intro q_8 cq_8 H hK hP hD hS
  refine W.widen (k := 4) (n := 608) (Nat.le_of_ble_eq_true rfl) (Nat.le_of_ble_eq_true rfl) ?_
  replace hK : va_K (dC, dI) vwCl [(ca_4, .int), (cu_5, .boolean), (cq_8, .int)] s := hK
  replace hP : va_P (dC, dI) vwCl [(h0, .inr (2, [.null, .ref q_1, .int 0, .null, .null, .null, .null, .null, .null, .null, .null, .null, .null, .null, .null, .null, .null, .null, .null, .null, .int 0])), (q_1, .inr (4, [.ref q_2, .ref q_3])), (q_2, .inl (ca_4, 16, .inl f_6)), (q_3, .inl (cu_5, 256, .inl g_7)), (q_8, .inl (cq_8, 334, .inl (fun _ => 0)))] H := hP
  replace hD : va_D A [(h0, .inr (2, [.null, .ref q_1, .int 0, .null, .null, .null, .null, .null, .null, .null, .null, .null, .null, .null, .null, .null, .null, .null, .null, .null, .int 0])), (q_1, .inr (4, [.ref q_2, .ref q_3])), (q_2, .inl (ca_4, 16, .inl f_6)), (q_3, .inl (cu_5, 256, .inl g_7)), (q_8, .inl (cq_8, 334, .inl (fun _ => 0)))] := hD
  refine va_putF (D := (dC, dI)) (ci := 2) (v := .ref q_8) (ty := .array .int) (C := RX2) (T := TX2) (N := 21) hx hb hts uX2_init_X2 tyX2 tyX2_ok nmX2 hown hK hP hD hS 0 rfl rfl 3 (by decide) (hts (.fieldLink RX2 20 "ClassMill$Heads" "classAt" "[I") (by decide +kernel)) (fun _ h9 => h9) rfl hin rfl (by decide +kernel) rfl rfl (Nat.le_of_ble_eq_true rfl) dX2_init_21 ?_
  clear hP hD hS
  intro H locs hP hD hS
  replace hP : va_P (dC, dI) vwCl [(h0, .inr (2, [.null, .ref q_1, .int 0, .ref q_8, .null, .null, .null, .null, .null, .null, .null, .null, .null, .null, .null, .null, .null, .null, .null, .null, .int 0])), (q_1, .inr (4, [.ref q_2, .ref q_3])), (q_2, .inl (ca_4, 16, .inl f_6)), (q_3, .inl (cu_5, 256, .inl g_7)), (q_8, .inl (cq_8, 334, .inl (fun _ => 0)))] H := hP
  replace hD : va_D A [(h0, .inr (2, [.null, .ref q_1, .int 0, .ref q_8, .null, .null, .null, .null, .null, .null, .null, .null, .null, .null, .null, .null, .null, .null, .null, .null, .int 0])), (q_1, .inr (4, [.ref q_2, .ref q_3])), (q_2, .inl (ca_4, 16, .inl f_6)), (q_3, .inl (cu_5, 256, .inl g_7)), (q_8, .inl (cq_8, 334, .inl (fun _ => 0)))] := hD
  refine lv_aload_n hx hb dX2_init_24 rfl (lv_at hl 0 rfl) ?_
  refine lv_sipush (v := 1740) hx hb dX2_init_25 (by decide) ?_
  refine va_newa (atype := .int) (ty := .int) (N' := 1740) (a0 := (1740, .inl (fun _ => 0))) hx hb (hts (.arrayClass .int) (by decide +kernel)) rfl hK hP hD hS hA (fun _ => rfl) (by decide) (by decide) (by decide) (Nat.le_of_ble_eq_true rfl) (Nat.le_of_ble_eq_true rfl) dX2_init_28 ?_
  clear hK hP hD hS
  intro q_9 cq_9 H hK hP hD hS
  refine W.widen (k := 5) (n := 2348) (Nat.le_of_ble_eq_true rfl) (Nat.le_of_ble_eq_true rfl) ?_
  replace hP := hP.sub (ws' := [(h0, .inr (2, [.null, .ref q_1, .int 0, .ref q_8, .null, .null, .null, .null, .null, .null, .null, .null, .null, .null, .null, .null, .null, .null, .null, .null, .int 0])), (q_1, .inr (4, [.ref q_2, .ref q_3])), (q_2, .inl (ca_4, 16, .inl f_6)), (q_3, .inl (cu_5, 256, .inl g_7)), (q_8, .inl (cq_8, 334, .inl (fun _ => 0)))]) [0, 1, 2, 3, 4] rfl
  replace hD := hD.sub (ws' := [(h0, .inr (2, [.null, .ref q_1, .int 0, .ref q_8, .null, .null, .null, .null, .null, .null, .null, .null, .null, .null, .null, .null, .null, .null, .null, .null, .int 0])), (q_1, .inr (4, [.ref q_2, .ref q_3])), (q_2, .inl (ca_4, 16, .inl f_6)), (q_3, .inl (cu_5, 256, .inl g_7)), (q_8, .inl (cq_8, 334, .inl (fun _ => 0)))]) [0, 1, 2, 3, 4] (by decide) rfl
  replace hK := hK.sub (tys' := [(ca_4, .int), (cu_5, .boolean), (cq_8, .int)]) [0, 1, 2] rfl
  refine va_putF (D := (dC, dI)) (ci := 2) (v := .ref q_9) (ty := .array .int) (C := RX2) (T := TX2) (N := 21) hx hb hts uX2_init_X2 tyX2 tyX2_ok nmX2 hown hK hP hD hS 0 rfl rfl 4 (by decide) (hts (.fieldLink RX2 24 "ClassMill$Heads" "classOfName" "[I") (by decide +kernel)) (fun _ h9 => h9) rfl hin rfl (by decide +kernel) rfl rfl (Nat.le_of_ble_eq_true rfl) dX2_init_30 ?_
  clear hP hD hS
  intro H locs hP hD hS
  replace hP : va_P (dC, dI) vwCl [(h0, .inr (2, [.null, .ref q_1, .int 0, .ref q_8, .ref q_9, .null, .null, .null, .null, .null, .null, .null, .null, .null, .null, .null, .null, .null, .null, .null, .int 0])), (q_1, .inr (4, [.ref q_2, .ref q_3])), (q_2, .inl (ca_4, 16, .inl f_6)), (q_3, .inl (cu_5, 256, .inl g_7)), (q_8, .inl (cq_8, 334, .inl (fun _ => 0)))] H := hP
  replace hD : va_D A [(h0, .inr (2, [.null, .ref q_1, .int 0, .ref q_8, .ref q_9, .null, .null, .null, .null, .null, .null, .null, .null, .null, .null, .null, .null, .null, .null, .null, .int 0])), (q_1, .inr (4, [.ref q_2, .ref q_3])), (q_2, .inl (ca_4, 16, .inl f_6)), (q_3, .inl (cu_5, 256, .inl g_7)), (q_8, .inl (cq_8, 334, .inl (fun _ => 0)))] := hD
  refine lv_aload_n hx hb dX2_init_33 rfl (lv_at hl 0 rfl) ?_
  refine lv_bipush (v := 8) hx hb dX2_init_34 (by decide) ?_
  refine va_newa (atype := .int) (ty := .int) (N' := 8) (a0 := (8, .inl (fun _ => 0))) hx hb (hts (.arrayClass .int) (by decide +kernel)) rfl hK hP hD hS hA (fun _ => rfl) (by decide) (by decide) (by decide) (Nat.le_of_ble_eq_true rfl) (Nat.le_of_ble_eq_true rfl) dX2_init_36 ?_
  clear hK hP hD hS
  intro q_10 cq_10 H hK hP hD hS
  refine W.widen (k := 6) (n := 2356) (Nat.le_of_ble_eq_true rfl) (Nat.le_of_ble_eq_true rfl) ?_
  replace hK : va_K (dC, dI) vwCl [(ca_4, .int), (cu_5, .boolean), (cq_8, .int), (cq_10, .int)] s := hK
  replace hP : va_P (dC, dI) vwCl [(h0, .inr (2, [.null, .ref q_1, .int 0, .ref q_8, .ref q_9, .null, .null, .null, .null, .null, .null, .null, .null, .null, .null, .null, .null, .null, .null, .null, .int 0])), (q_1, .inr (4, [.ref q_2, .ref q_3])), (q_2, .inl (ca_4, 16, .inl f_6)), (q_3, .inl (cu_5, 256, .inl g_7)), (q_8, .inl (cq_8, 334, .inl (fun _ => 0))), (q_10, .inl (cq_10, 8, .inl (fun _ => 0)))] H := hP
  replace hD : va_D A [(h0, .inr (2, [.null, .ref q_1, .int 0, .ref q_8, .ref q_9, .null, .null, .null, .null, .null, .null, .null, .null, .null, .null, .null, .null, .null, .null, .null, .int 0])), (q_1, .inr (4, [.ref q_2, .ref q_3])), (q_2, .inl (ca_4, 16, .inl f_6)), (q_3, .inl (cu_5, 256, .inl g_7)), (q_8, .inl (cq_8, 334, .inl (fun _ => 0))), (q_10, .inl (cq_10, 8, .inl (fun _ => 0)))] := hD
  refine va_putF (D := (dC, dI)) (ci := 2) (v := .ref q_10) (ty := .array .int) (C := RX2) (T := TX2) (N := 21) hx hb hts uX2_init_X2 tyX2 tyX2_ok nmX2 hown hK hP hD hS 0 rfl rfl 5 (by decide) (hts (.fieldLink RX2 27 "ClassMill$Heads" "fields" "[I") (by decide +kernel)) (fun _ h9 => h9) rfl hin rfl (by decide +kernel) rfl rfl (Nat.le_of_ble_eq_true rfl) dX2_init_38 ?_
  clear hP hD hS
  intro H locs hP hD hS
  replace hP : va_P (dC, dI) vwCl [(h0, .inr (2, [.null, .ref q_1, .int 0, .ref q_8, .ref q_9, .ref q_10, .null, .null, .null, .null, .null, .null, .null, .null, .null, .null, .null, .null, .null, .null, .int 0])), (q_1, .inr (4, [.ref q_2, .ref q_3])), (q_2, .inl (ca_4, 16, .inl f_6)), (q_3, .inl (cu_5, 256, .inl g_7)), (q_8, .inl (cq_8, 334, .inl (fun _ => 0))), (q_10, .inl (cq_10, 8, .inl (fun _ => 0)))] H := hP
  replace hD : va_D A [(h0, .inr (2, [.null, .ref q_1, .int 0, .ref q_8, .ref q_9, .ref q_10, .null, .null, .null, .null, .null, .null, .null, .null, .null, .null, .null, .null, .null, .null, .int 0])), (q_1, .inr (4, [.ref q_2, .ref q_3])), (q_2, .inl (ca_4, 16, .inl f_6)), (q_3, .inl (cu_5, 256, .inl g_7)), (q_8, .inl (cq_8, 334, .inl (fun _ => 0))), (q_10, .inl (cq_10, 8, .inl (fun _ => 0)))] := hD
  refine lv_aload_n hx hb dX2_init_41 rfl (lv_at hl 0 rfl) ?_
  refine lv_bipush (v := 96) hx hb dX2_init_42 (by decide) ?_
  refine va_newa (atype := .int) (ty := .int) (N' := 96) (a0 := (96, .inl (fun _ => 0))) hx hb (hts (.arrayClass .int) (by decide +kernel)) rfl hK hP hD hS hA (fun _ => rfl) (by decide) (by decide) (by decide) (Nat.le_of_ble_eq_true rfl) (Nat.le_of_ble_eq_true rfl) dX2_init_44 ?_
  clear hK hP hD hS
  intro q_11 cq_11 H hK hP hD hS
  refine W.widen (k := 7) (n := 2452) (Nat.le_of_ble_eq_true rfl) (Nat.le_of_ble_eq_true rfl) ?_
  replace hK : va_K (dC, dI) vwCl [(ca_4, .int), (cu_5, .boolean), (cq_8, .int), (cq_10, .int), (cq_11, .int)] s := hK
  replace hP : va_P (dC, dI) vwCl [(h0, .inr (2, [.null, .ref q_1, .int 0, .ref q_8, .ref q_9, .ref q_10, .null, .null, .null, .null, .null, .null, .null, .null, .null, .null, .null, .null, .null, .null, .int 0])), (q_1, .inr (4, [.ref q_2, .ref q_3])), (q_2, .inl (ca_4, 16, .inl f_6)), (q_3, .inl (cu_5, 256, .inl g_7)), (q_8, .inl (cq_8, 334, .inl (fun _ => 0))), (q_10, .inl (cq_10, 8, .inl (fun _ => 0))), (q_11, .inl (cq_11, 96, .inl (fun _ => 0)))] H := hP
  replace hD : va_D A [(h0, .inr (2, [.null, .ref q_1, .int 0, .ref q_8, .ref q_9, .ref q_10, .null, .null, .null, .null, .null, .null, .null, .null, .null, .null, .null, .null, .null, .null, .int 0])), (q_1, .inr (4, [.ref q_2, .ref q_3])), (q_2, .inl (ca_4, 16, .inl f_6)), (q_3, .inl (cu_5, 256, .inl g_7)), (q_8, .inl (cq_8, 334, .inl (fun _ => 0))), (q_10, .inl (cq_10, 8, .inl (fun _ => 0))), (q_11, .inl (cq_11, 96, .inl (fun _ => 0)))] := hD
  refine va_putF (D := (dC, dI)) (ci := 2) (v := .ref q_11) (ty := .array .int) (C := RX2) (T := TX2) (N := 21) hx hb hts uX2_init_X2 tyX2 tyX2_ok nmX2 hown hK hP hD hS 0 rfl rfl 6 (by decide) (hts (.fieldLink RX2 30 "ClassMill$Heads" "fieldName" "[I") (by decide +kernel)) (fun _ h9 => h9) rfl hin rfl (by decide +kernel) rfl rfl (Nat.le_of_ble_eq_true rfl) dX2_init_46 ?_
  clear hP hD hS
  intro H locs hP hD hS
  replace hP : va_P (dC, dI) vwCl [(h0, .inr (2, [.null, .ref q_1, .int 0, .ref q_8, .ref q_9, .ref q_10, .ref q_11, .null, .null, .null, .null, .null, .null, .null, .null, .null, .null, .null, .null, .null, .int 0])), (q_1, .inr (4, [.ref q_2, .ref q_3])), (q_2, .inl (ca_4, 16, .inl f_6)), (q_3, .inl (cu_5, 256, .inl g_7)), (q_8, .inl (cq_8, 334, .inl (fun _ => 0))), (q_10, .inl (cq_10, 8, .inl (fun _ => 0))), (q_11, .inl (cq_11, 96, .inl (fun _ => 0)))] H := hP
  replace hD : va_D A [(h0, .inr (2, [.null, .ref q_1, .int 0, .ref q_8, .ref q_9, .ref q_10, .ref q_11, .null, .null, .null, .null, .null, .null, .null, .null, .null, .null, .null, .null, .null, .int 0])), (q_1, .inr (4, [.ref q_2, .ref q_3])), (q_2, .inl (ca_4, 16, .inl f_6)), (q_3, .inl (cu_5, 256, .inl g_7)), (q_8, .inl (cq_8, 334, .inl (fun _ => 0))), (q_10, .inl (cq_10, 8, .inl (fun _ => 0))), (q_11, .inl (cq_11, 96, .inl (fun _ => 0)))] := hD
  refine lv_aload_n hx hb dX2_init_49 rfl (lv_at hl 0 rfl) ?_
  refine lv_bipush (v := 96) hx hb dX2_init_50 (by decide) ?_
  refine va_newa (atype := .int) (ty := .int) (N' := 96) (a0 := (96, .inl (fun _ => 0))) hx hb (hts (.arrayClass .int) (by decide +kernel)) rfl hK hP hD hS hA (fun _ => rfl) (by decide) (by decide) (by decide) (Nat.le_of_ble_eq_true rfl) (Nat.le_of_ble_eq_true rfl) dX2_init_52 ?_
  clear hK hP hD hS
  intro q_12 cq_12 H hK hP hD hS
  refine W.widen (k := 8) (n := 2548) (Nat.le_of_ble_eq_true rfl) (Nat.le_of_ble_eq_true rfl) ?_
  replace hP := hP.sub (ws' := [(h0, .inr (2, [.null, .ref q_1, .int 0, .ref q_8, .ref q_9, .ref q_10, .ref q_11, .null, .null, .null, .null, .null, .null, .null, .null, .null, .null, .null, .null, .null, .int 0])), (q_1, .inr (4, [.ref q_2, .ref q_3])), (q_2, .inl (ca_4, 16, .inl f_6)), (q_3, .inl (cu_5, 256, .inl g_7)), (q_8, .inl (cq_8, 334, .inl (fun _ => 0))), (q_10, .inl (cq_10, 8, .inl (fun _ => 0))), (q_11, .inl (cq_11, 96, .inl (fun _ => 0)))]) [0, 1, 2, 3, 4, 5, 6] rfl
  replace hD := hD.sub (ws' := [(h0, .inr (2, [.null, .ref q_1, .int 0, .ref q_8, .ref q_9, .ref q_10, .ref q_11, .null, .null, .null, .null, .null, .null, .null, .null, .null, .null, .null, .null, .null, .int 0])), (q_1, .inr (4, [.ref q_2, .ref q_3])), (q_2, .inl (ca_4, 16, .inl f_6)), (q_3, .inl (cu_5, 256, .inl g_7)), (q_8, .inl (cq_8, 334, .inl (fun _ => 0))), (q_10, .inl (cq_10, 8, .inl (fun _ => 0))), (q_11, .inl (cq_11, 96, .inl (fun _ => 0)))]) [0, 1, 2, 3, 4, 5, 6] (by decide) rfl
  replace hK := hK.sub (tys' := [(ca_4, .int), (cu_5, .boolean), (cq_8, .int), (cq_10, .int), (cq_11, .int)]) [0, 1, 2, 3, 4] rfl
  refine va_putF (D := (dC, dI)) (ci := 2) (v := .ref q_12) (ty := .array .int) (C := RX2) (T := TX2) (N := 21) hx hb hts uX2_init_X2 tyX2 tyX2_ok nmX2 hown hK hP hD hS 0 rfl rfl 7 (by decide) (hts (.fieldLink RX2 33 "ClassMill$Heads" "fieldType" "[I") (by decide +kernel)) (fun _ h9 => h9) rfl hin rfl (by decide +kernel) rfl rfl (Nat.le_of_ble_eq_true rfl) dX2_init_54 ?_
  clear hP hD hS
  intro H locs hP hD hS
  replace hP : va_P (dC, dI) vwCl [(h0, .inr (2, [.null, .ref q_1, .int 0, .ref q_8, .ref q_9, .ref q_10, .ref q_11, .ref q_12, .null, .null, .null, .null, .null, .null, .null, .null, .null, .null, .null, .null, .int 0])), (q_1, .inr (4, [.ref q_2, .ref q_3])), (q_2, .inl (ca_4, 16, .inl f_6)), (q_3, .inl (cu_5, 256, .inl g_7)), (q_8, .inl (cq_8, 334, .inl (fun _ => 0))), (q_10, .inl (cq_10, 8, .inl (fun _ => 0))), (q_11, .inl (cq_11, 96, .inl (fun _ => 0)))] H := hP
  replace hD : va_D A [(h0, .inr (2, [.null, .ref q_1, .int 0, .ref q_8, .ref q_9, .ref q_10, .ref q_11, .ref q_12, .null, .null, .null, .null, .null, .null, .null, .null, .null, .null, .null, .null, .int 0])), (q_1, .inr (4, [.ref q_2, .ref q_3])), (q_2, .inl (ca_4, 16, .inl f_6)), (q_3, .inl (cu_5, 256, .inl g_7)), (q_8, .inl (cq_8, 334, .inl (fun _ => 0))), (q_10, .inl (cq_10, 8, .inl (fun _ => 0))), (q_11, .inl (cq_11, 96, .inl (fun _ => 0)))] := hD
  refine lv_aload_n hx hb dX2_init_57 rfl (lv_at hl 0 rfl) ?_
  refine lv_bipush (v := 96) hx hb dX2_init_58 (by decide) ?_
  refine va_newa (atype := .int) (ty := .int) (N' := 96) (a0 := (96, .inl (fun _ => 0))) hx hb (hts (.arrayClass .int) (by decide +kernel)) rfl hK hP hD hS hA (fun _ => rfl) (by decide) (by decide) (by decide) (Nat.le_of_ble_eq_true rfl) (Nat.le_of_ble_eq_true rfl) dX2_init_60 ?_
  clear hK hP hD hS
  intro q_13 cq_13 H hK hP hD hS
  refine W.widen (k := 9) (n := 2644) (Nat.le_of_ble_eq_true rfl) (Nat.le_of_ble_eq_true rfl) ?_
  replace hP := hP.sub (ws' := [(h0, .inr (2, [.null, .ref q_1, .int 0, .ref q_8, .ref q_9, .ref q_10, .ref q_11, .ref q_12, .null, .null, .null, .null, .null, .null, .null, .null, .null, .null, .null, .null, .int 0])), (q_1, .inr (4, [.ref q_2, .ref q_3])), (q_2, .inl (ca_4, 16, .inl f_6)), (q_3, .inl (cu_5, 256, .inl g_7)), (q_8, .inl (cq_8, 334, .inl (fun _ => 0))), (q_10, .inl (cq_10, 8, .inl (fun _ => 0))), (q_11, .inl (cq_11, 96, .inl (fun _ => 0)))]) [0, 1, 2, 3, 4, 5, 6] rfl
  replace hD := hD.sub (ws' := [(h0, .inr (2, [.null, .ref q_1, .int 0, .ref q_8, .ref q_9, .ref q_10, .ref q_11, .ref q_12, .null, .null, .null, .null, .null, .null, .null, .null, .null, .null, .null, .null, .int 0])), (q_1, .inr (4, [.ref q_2, .ref q_3])), (q_2, .inl (ca_4, 16, .inl f_6)), (q_3, .inl (cu_5, 256, .inl g_7)), (q_8, .inl (cq_8, 334, .inl (fun _ => 0))), (q_10, .inl (cq_10, 8, .inl (fun _ => 0))), (q_11, .inl (cq_11, 96, .inl (fun _ => 0)))]) [0, 1, 2, 3, 4, 5, 6] (by decide) rfl
  replace hK := hK.sub (tys' := [(ca_4, .int), (cu_5, .boolean), (cq_8, .int), (cq_10, .int), (cq_11, .int)]) [0, 1, 2, 3, 4] rfl
  refine va_putF (D := (dC, dI)) (ci := 2) (v := .ref q_13) (ty := .array .int) (C := RX2) (T := TX2) (N := 21) hx hb hts uX2_init_X2 tyX2 tyX2_ok nmX2 hown hK hP hD hS 0 rfl rfl 8 (by decide) (hts (.fieldLink RX2 36 "ClassMill$Heads" "fieldKind" "[I") (by decide +kernel)) (fun _ h9 => h9) rfl hin rfl (by decide +kernel) rfl rfl (Nat.le_of_ble_eq_true rfl) dX2_init_62 ?_
  clear hP hD hS
  intro H locs hP hD hS
  replace hP : va_P (dC, dI) vwCl [(h0, .inr (2, [.null, .ref q_1, .int 0, .ref q_8, .ref q_9, .ref q_10, .ref q_11, .ref q_12, .ref q_13, .null, .null, .null, .null, .null, .null, .null, .null, .null, .null, .null, .int 0])), (q_1, .inr (4, [.ref q_2, .ref q_3])), (q_2, .inl (ca_4, 16, .inl f_6)), (q_3, .inl (cu_5, 256, .inl g_7)), (q_8, .inl (cq_8, 334, .inl (fun _ => 0))), (q_10, .inl (cq_10, 8, .inl (fun _ => 0))), (q_11, .inl (cq_11, 96, .inl (fun _ => 0)))] H := hP
  replace hD : va_D A [(h0, .inr (2, [.null, .ref q_1, .int 0, .ref q_8, .ref q_9, .ref q_10, .ref q_11, .ref q_12, .ref q_13, .null, .null, .null, .null, .null, .null, .null, .null, .null, .null, .null, .int 0])), (q_1, .inr (4, [.ref q_2, .ref q_3])), (q_2, .inl (ca_4, 16, .inl f_6)), (q_3, .inl (cu_5, 256, .inl g_7)), (q_8, .inl (cq_8, 334, .inl (fun _ => 0))), (q_10, .inl (cq_10, 8, .inl (fun _ => 0))), (q_11, .inl (cq_11, 96, .inl (fun _ => 0)))] := hD
  refine lv_aload_n hx hb dX2_init_65 rfl (lv_at hl 0 rfl) ?_
  refine lv_bipush (v := 8) hx hb dX2_init_66 (by decide) ?_
  refine va_newa (atype := .int) (ty := .int) (N' := 8) (a0 := (8, .inl (fun _ => 0))) hx hb (hts (.arrayClass .int) (by decide +kernel)) rfl hK hP hD hS hA (fun _ => rfl) (by decide) (by decide) (by decide) (Nat.le_of_ble_eq_true rfl) (Nat.le_of_ble_eq_true rfl) dX2_init_68 ?_
  clear hK hP hD hS
  intro q_14 cq_14 H hK hP hD hS
  refine W.widen (k := 10) (n := 2652) (Nat.le_of_ble_eq_true rfl) (Nat.le_of_ble_eq_true rfl) ?_
  replace hK : va_K (dC, dI) vwCl [(ca_4, .int), (cu_5, .boolean), (cq_8, .int), (cq_10, .int), (cq_11, .int), (cq_14, .int)] s := hK
  replace hP : va_P (dC, dI) vwCl [(h0, .inr (2, [.null, .ref q_1, .int 0, .ref q_8, .ref q_9, .ref q_10, .ref q_11, .ref q_12, .ref q_13, .null, .null, .null, .null, .null, .null, .null, .null, .null, .null, .null, .int 0])), (q_1, .inr (4, [.ref q_2, .ref q_3])), (q_2, .inl (ca_4, 16, .inl f_6)), (q_3, .inl (cu_5, 256, .inl g_7)), (q_8, .inl (cq_8, 334, .inl (fun _ => 0))), (q_10, .inl (cq_10, 8, .inl (fun _ => 0))), (q_11, .inl (cq_11, 96, .inl (fun _ => 0))), (q_14, .inl (cq_14, 8, .inl (fun _ => 0)))] H := hP
  replace hD : va_D A [(h0, .inr (2, [.null, .ref q_1, .int 0, .ref q_8, .ref q_9, .ref q_10, .ref q_11, .ref q_12, .ref q_13, .null, .null, .null, .null, .null, .null, .null, .null, .null, .null, .null, .int 0])), (q_1, .inr (4, [.ref q_2, .ref q_3])), (q_2, .inl (ca_4, 16, .inl f_6)), (q_3, .inl (cu_5, 256, .inl g_7)), (q_8, .inl (cq_8, 334, .inl (fun _ => 0))), (q_10, .inl (cq_10, 8, .inl (fun _ => 0))), (q_11, .inl (cq_11, 96, .inl (fun _ => 0))), (q_14, .inl (cq_14, 8, .inl (fun _ => 0)))] := hD
  refine va_putF (D := (dC, dI)) (ci := 2) (v := .ref q_14) (ty := .array .int) (C := RX2) (T := TX2) (N := 21) hx hb hts uX2_init_X2 tyX2 tyX2_ok nmX2 hown hK hP hD hS 0 rfl rfl 9 (by decide) (hts (.fieldLink RX2 39 "ClassMill$Heads" "methods" "[I") (by decide +kernel)) (fun _ h9 => h9) rfl hin rfl (by decide +kernel) rfl rfl (Nat.le_of_ble_eq_true rfl) dX2_init_70 ?_
  clear hP hD hS
  intro H locs hP hD hS
  replace hP : va_P (dC, dI) vwCl [(h0, .inr (2, [.null, .ref q_1, .int 0, .ref q_8, .ref q_9, .ref q_10, .ref q_11, .ref q_12, .ref q_13, .ref q_14, .null, .null, .null, .null, .null, .null, .null, .null, .null, .null, .int 0])), (q_1, .inr (4, [.ref q_2, .ref q_3])), (q_2, .inl (ca_4, 16, .inl f_6)), (q_3, .inl (cu_5, 256, .inl g_7)), (q_8, .inl (cq_8, 334, .inl (fun _ => 0))), (q_10, .inl (cq_10, 8, .inl (fun _ => 0))), (q_11, .inl (cq_11, 96, .inl (fun _ => 0))), (q_14, .inl (cq_14, 8, .inl (fun _ => 0)))] H := hP
  replace hD : va_D A [(h0, .inr (2, [.null, .ref q_1, .int 0, .ref q_8, .ref q_9, .ref q_10, .ref q_11, .ref q_12, .ref q_13, .ref q_14, .null, .null, .null, .null, .null, .null, .null, .null, .null, .null, .int 0])), (q_1, .inr (4, [.ref q_2, .ref q_3])), (q_2, .inl (ca_4, 16, .inl f_6)), (q_3, .inl (cu_5, 256, .inl g_7)), (q_8, .inl (cq_8, 334, .inl (fun _ => 0))), (q_10, .inl (cq_10, 8, .inl (fun _ => 0))), (q_11, .inl (cq_11, 96, .inl (fun _ => 0))), (q_14, .inl (cq_14, 8, .inl (fun _ => 0)))] := hD
  refine lv_aload_n hx hb dX2_init_73 rfl (lv_at hl 0 rfl) ?_
  refine lv_bipush (v := 96) hx hb dX2_init_74 (by decide) ?_
  refine va_newa (atype := .int) (ty := .int) (N' := 96) (a0 := (96, .inl (fun _ => 0))) hx hb (hts (.arrayClass .int) (by decide +kernel)) rfl hK hP hD hS hA (fun _ => rfl) (by decide) (by decide) (by decide) (Nat.le_of_ble_eq_true rfl) (Nat.le_of_ble_eq_true rfl) dX2_init_76 ?_
  clear hK hP hD hS
  intro q_15 cq_15 H hK hP hD hS
  refine W.widen (k := 11) (n := 2748) (Nat.le_of_ble_eq_true rfl) (Nat.le_of_ble_eq_true rfl) ?_
  replace hK : va_K (dC, dI) vwCl [(ca_4, .int), (cu_5, .boolean), (cq_8, .int), (cq_10, .int), (cq_11, .int), (cq_14, .int), (cq_15, .int)] s := hK
  replace hP : va_P (dC, dI) vwCl [(h0, .inr (2, [.null, .ref q_1, .int 0, .ref q_8, .ref q_9, .ref q_10, .ref q_11, .ref q_12, .ref q_13, .ref q_14, .null, .null, .null, .null, .null, .null, .null, .null, .null, .null, .int 0])), (q_1, .inr (4, [.ref q_2, .ref q_3])), (q_2, .inl (ca_4, 16, .inl f_6)), (q_3, .inl (cu_5, 256, .inl g_7)), (q_8, .inl (cq_8, 334, .inl (fun _ => 0))), (q_10, .inl (cq_10, 8, .inl (fun _ => 0))), (q_11, .inl (cq_11, 96, .inl (fun _ => 0))), (q_14, .inl (cq_14, 8, .inl (fun _ => 0))), (q_15, .inl (cq_15, 96, .inl (fun _ => 0)))] H := hP
  replace hD : va_D A [(h0, .inr (2, [.null, .ref q_1, .int 0, .ref q_8, .ref q_9, .ref q_10, .ref q_11, .ref q_12, .ref q_13, .ref q_14, .null, .null, .null, .null, .null, .null, .null, .null, .null, .null, .int 0])), (q_1, .inr (4, [.ref q_2, .ref q_3])), (q_2, .inl (ca_4, 16, .inl f_6)), (q_3, .inl (cu_5, 256, .inl g_7)), (q_8, .inl (cq_8, 334, .inl (fun _ => 0))), (q_10, .inl (cq_10, 8, .inl (fun _ => 0))), (q_11, .inl (cq_11, 96, .inl (fun _ => 0))), (q_14, .inl (cq_14, 8, .inl (fun _ => 0))), (q_15, .inl (cq_15, 96, .inl (fun _ => 0)))] := hD
  refine va_putF (D := (dC, dI)) (ci := 2) (v := .ref q_15) (ty := .array .int) (C := RX2) (T := TX2) (N := 21) hx hb hts uX2_init_X2 tyX2 tyX2_ok nmX2 hown hK hP hD hS 0 rfl rfl 10 (by decide) (hts (.fieldLink RX2 42 "ClassMill$Heads" "methodAt" "[I") (by decide +kernel)) (fun _ h9 => h9) rfl hin rfl (by decide +kernel) rfl rfl (Nat.le_of_ble_eq_true rfl) dX2_init_78 ?_
  clear hP hD hS
  intro H locs hP hD hS
  replace hP : va_P (dC, dI) vwCl [(h0, .inr (2, [.null, .ref q_1, .int 0, .ref q_8, .ref q_9, .ref q_10, .ref q_11, .ref q_12, .ref q_13, .ref q_14, .ref q_15, .null, .null, .null, .null, .null, .null, .null, .null, .null, .int 0])), (q_1, .inr (4, [.ref q_2, .ref q_3])), (q_2, .inl (ca_4, 16, .inl f_6)), (q_3, .inl (cu_5, 256, .inl g_7)), (q_8, .inl (cq_8, 334, .inl (fun _ => 0))), (q_10, .inl (cq_10, 8, .inl (fun _ => 0))), (q_11, .inl (cq_11, 96, .inl (fun _ => 0))), (q_14, .inl (cq_14, 8, .inl (fun _ => 0))), (q_15, .inl (cq_15, 96, .inl (fun _ => 0)))] H := hP
  replace hD : va_D A [(h0, .inr (2, [.null, .ref q_1, .int 0, .ref q_8, .ref q_9, .ref q_10, .ref q_11, .ref q_12, .ref q_13, .ref q_14, .ref q_15, .null, .null, .null, .null, .null, .null, .null, .null, .null, .int 0])), (q_1, .inr (4, [.ref q_2, .ref q_3])), (q_2, .inl (ca_4, 16, .inl f_6)), (q_3, .inl (cu_5, 256, .inl g_7)), (q_8, .inl (cq_8, 334, .inl (fun _ => 0))), (q_10, .inl (cq_10, 8, .inl (fun _ => 0))), (q_11, .inl (cq_11, 96, .inl (fun _ => 0))), (q_14, .inl (cq_14, 8, .inl (fun _ => 0))), (q_15, .inl (cq_15, 96, .inl (fun _ => 0)))] := hD
  refine lv_aload_n hx hb dX2_init_81 rfl (lv_at hl 0 rfl) ?_
  refine lv_bipush (v := 96) hx hb dX2_init_82 (by decide) ?_
  refine va_newa (atype := .int) (ty := .int) (N' := 96) (a0 := (96, .inl (fun _ => 0))) hx hb (hts (.arrayClass .int) (by decide +kernel)) rfl hK hP hD hS hA (fun _ => rfl) (by decide) (by decide) (by decide) (Nat.le_of_ble_eq_true rfl) (Nat.le_of_ble_eq_true rfl) dX2_init_84 ?_
  clear hK hP hD hS
  intro q_16 cq_16 H hK hP hD hS
  refine W.widen (k := 12) (n := 2844) (Nat.le_of_ble_eq_true rfl) (Nat.le_of_ble_eq_true rfl) ?_
  replace hP := hP.sub (ws' := [(h0, .inr (2, [.null, .ref q_1, .int 0, .ref q_8, .ref q_9, .ref q_10, .ref q_11, .ref q_12, .ref q_13, .ref q_14, .ref q_15, .null, .null, .null, .null, .null, .null, .null, .null, .null, .int 0])), (q_1, .inr (4, [.ref q_2, .ref q_3])), (q_2, .inl (ca_4, 16, .inl f_6)), (q_3, .inl (cu_5, 256, .inl g_7)), (q_8, .inl (cq_8, 334, .inl (fun _ => 0))), (q_10, .inl (cq_10, 8, .inl (fun _ => 0))), (q_11, .inl (cq_11, 96, .inl (fun _ => 0))), (q_14, .inl (cq_14, 8, .inl (fun _ => 0))), (q_15, .inl (cq_15, 96, .inl (fun _ => 0)))]) [0, 1, 2, 3, 4, 5, 6, 7, 8] rfl
  replace hD := hD.sub (ws' := [(h0, .inr (2, [.null, .ref q_1, .int 0, .ref q_8, .ref q_9, .ref q_10, .ref q_11, .ref q_12, .ref q_13, .ref q_14, .ref q_15, .null, .null, .null, .null, .null, .null, .null, .null, .null, .int 0])), (q_1, .inr (4, [.ref q_2, .ref q_3])), (q_2, .inl (ca_4, 16, .inl f_6)), (q_3, .inl (cu_5, 256, .inl g_7)), (q_8, .inl (cq_8, 334, .inl (fun _ => 0))), (q_10, .inl (cq_10, 8, .inl (fun _ => 0))), (q_11, .inl (cq_11, 96, .inl (fun _ => 0))), (q_14, .inl (cq_14, 8, .inl (fun _ => 0))), (q_15, .inl (cq_15, 96, .inl (fun _ => 0)))]) [0, 1, 2, 3, 4, 5, 6, 7, 8] (by decide) rfl
  replace hK := hK.sub (tys' := [(ca_4, .int), (cu_5, .boolean), (cq_8, .int), (cq_10, .int), (cq_11, .int), (cq_14, .int), (cq_15, .int)]) [0, 1, 2, 3, 4, 5, 6] rfl
  refine va_putF (D := (dC, dI)) (ci := 2) (v := .ref q_16) (ty := .array .int) (C := RX2) (T := TX2) (N := 21) hx hb hts uX2_init_X2 tyX2 tyX2_ok nmX2 hown hK hP hD hS 0 rfl rfl 11 (by decide) (hts (.fieldLink RX2 45 "ClassMill$Heads" "methodBody" "[I") (by decide +kernel)) (fun _ h9 => h9) rfl hin rfl (by decide +kernel) rfl rfl (Nat.le_of_ble_eq_true rfl) dX2_init_86 ?_
  clear hP hD hS
  intro H locs hP hD hS
  replace hP : va_P (dC, dI) vwCl [(h0, .inr (2, [.null, .ref q_1, .int 0, .ref q_8, .ref q_9, .ref q_10, .ref q_11, .ref q_12, .ref q_13, .ref q_14, .ref q_15, .ref q_16, .null, .null, .null, .null, .null, .null, .null, .null, .int 0])), (q_1, .inr (4, [.ref q_2, .ref q_3])), (q_2, .inl (ca_4, 16, .inl f_6)), (q_3, .inl (cu_5, 256, .inl g_7)), (q_8, .inl (cq_8, 334, .inl (fun _ => 0))), (q_10, .inl (cq_10, 8, .inl (fun _ => 0))), (q_11, .inl (cq_11, 96, .inl (fun _ => 0))), (q_14, .inl (cq_14, 8, .inl (fun _ => 0))), (q_15, .inl (cq_15, 96, .inl (fun _ => 0)))] H := hP
  replace hD : va_D A [(h0, .inr (2, [.null, .ref q_1, .int 0, .ref q_8, .ref q_9, .ref q_10, .ref q_11, .ref q_12, .ref q_13, .ref q_14, .ref q_15, .ref q_16, .null, .null, .null, .null, .null, .null, .null, .null, .int 0])), (q_1, .inr (4, [.ref q_2, .ref q_3])), (q_2, .inl (ca_4, 16, .inl f_6)), (q_3, .inl (cu_5, 256, .inl g_7)), (q_8, .inl (cq_8, 334, .inl (fun _ => 0))), (q_10, .inl (cq_10, 8, .inl (fun _ => 0))), (q_11, .inl (cq_11, 96, .inl (fun _ => 0))), (q_14, .inl (cq_14, 8, .inl (fun _ => 0))), (q_15, .inl (cq_15, 96, .inl (fun _ => 0)))] := hD
  refine lv_aload_n hx hb dX2_init_89 rfl (lv_at hl 0 rfl) ?_
  refine lv_bipush (v := 96) hx hb dX2_init_90 (by decide) ?_
  refine va_newa (atype := .int) (ty := .int) (N' := 96) (a0 := (96, .inl (fun _ => 0))) hx hb (hts (.arrayClass .int) (by decide +kernel)) rfl hK hP hD hS hA (fun _ => rfl) (by decide) (by decide) (by decide) (Nat.le_of_ble_eq_true rfl) (Nat.le_of_ble_eq_true rfl) dX2_init_92 ?_
  clear hK hP hD hS
  intro q_17 cq_17 H hK hP hD hS
  refine W.widen (k := 13) (n := 2940) (Nat.le_of_ble_eq_true rfl) (Nat.le_of_ble_eq_true rfl) ?_
  replace hP := hP.sub (ws' := [(h0, .inr (2, [.null, .ref q_1, .int 0, .ref q_8, .ref q_9, .ref q_10, .ref q_11, .ref q_12, .ref q_13, .ref q_14, .ref q_15, .ref q_16, .null, .null, .null, .null, .null, .null, .null, .null, .int 0])), (q_1, .inr (4, [.ref q_2, .ref q_3])), (q_2, .inl (ca_4, 16, .inl f_6)), (q_3, .inl (cu_5, 256, .inl g_7)), (q_8, .inl (cq_8, 334, .inl (fun _ => 0))), (q_10, .inl (cq_10, 8, .inl (fun _ => 0))), (q_11, .inl (cq_11, 96, .inl (fun _ => 0))), (q_14, .inl (cq_14, 8, .inl (fun _ => 0))), (q_15, .inl (cq_15, 96, .inl (fun _ => 0)))]) [0, 1, 2, 3, 4, 5, 6, 7, 8] rfl
  replace hD := hD.sub (ws' := [(h0, .inr (2, [.null, .ref q_1, .int 0, .ref q_8, .ref q_9, .ref q_10, .ref q_11, .ref q_12, .ref q_13, .ref q_14, .ref q_15, .ref q_16, .null, .null, .null, .null, .null, .null, .null, .null, .int 0])), (q_1, .inr (4, [.ref q_2, .ref q_3])), (q_2, .inl (ca_4, 16, .inl f_6)), (q_3, .inl (cu_5, 256, .inl g_7)), (q_8, .inl (cq_8, 334, .inl (fun _ => 0))), (q_10, .inl (cq_10, 8, .inl (fun _ => 0))), (q_11, .inl (cq_11, 96, .inl (fun _ => 0))), (q_14, .inl (cq_14, 8, .inl (fun _ => 0))), (q_15, .inl (cq_15, 96, .inl (fun _ => 0)))]) [0, 1, 2, 3, 4, 5, 6, 7, 8] (by decide) rfl
  replace hK := hK.sub (tys' := [(ca_4, .int), (cu_5, .boolean), (cq_8, .int), (cq_10, .int), (cq_11, .int), (cq_14, .int), (cq_15, .int)]) [0, 1, 2, 3, 4, 5, 6] rfl
  refine va_putF (D := (dC, dI)) (ci := 2) (v := .ref q_17) (ty := .array .int) (C := RX2) (T := TX2) (N := 21) hx hb hts uX2_init_X2 tyX2 tyX2_ok nmX2 hown hK hP hD hS 0 rfl rfl 12 (by decide) (hts (.fieldLink RX2 48 "ClassMill$Heads" "methodType" "[I") (by decide +kernel)) (fun _ h9 => h9) rfl hin rfl (by decide +kernel) rfl rfl (Nat.le_of_ble_eq_true rfl) dX2_init_94 ?_
  clear hP hD hS
  intro H locs hP hD hS
  replace hP : va_P (dC, dI) vwCl [(h0, .inr (2, [.null, .ref q_1, .int 0, .ref q_8, .ref q_9, .ref q_10, .ref q_11, .ref q_12, .ref q_13, .ref q_14, .ref q_15, .ref q_16, .ref q_17, .null, .null, .null, .null, .null, .null, .null, .int 0])), (q_1, .inr (4, [.ref q_2, .ref q_3])), (q_2, .inl (ca_4, 16, .inl f_6)), (q_3, .inl (cu_5, 256, .inl g_7)), (q_8, .inl (cq_8, 334, .inl (fun _ => 0))), (q_10, .inl (cq_10, 8, .inl (fun _ => 0))), (q_11, .inl (cq_11, 96, .inl (fun _ => 0))), (q_14, .inl (cq_14, 8, .inl (fun _ => 0))), (q_15, .inl (cq_15, 96, .inl (fun _ => 0)))] H := hP
  replace hD : va_D A [(h0, .inr (2, [.null, .ref q_1, .int 0, .ref q_8, .ref q_9, .ref q_10, .ref q_11, .ref q_12, .ref q_13, .ref q_14, .ref q_15, .ref q_16, .ref q_17, .null, .null, .null, .null, .null, .null, .null, .int 0])), (q_1, .inr (4, [.ref q_2, .ref q_3])), (q_2, .inl (ca_4, 16, .inl f_6)), (q_3, .inl (cu_5, 256, .inl g_7)), (q_8, .inl (cq_8, 334, .inl (fun _ => 0))), (q_10, .inl (cq_10, 8, .inl (fun _ => 0))), (q_11, .inl (cq_11, 96, .inl (fun _ => 0))), (q_14, .inl (cq_14, 8, .inl (fun _ => 0))), (q_15, .inl (cq_15, 96, .inl (fun _ => 0)))] := hD
  refine lv_aload_n hx hb dX2_init_97 rfl (lv_at hl 0 rfl) ?_
  refine lv_bipush (v := 96) hx hb dX2_init_98 (by decide) ?_
  refine va_newa (atype := .boolean) (ty := .boolean) (N' := 96) (a0 := (96, .inl (fun _ => 0))) hx hb (hts (.arrayClass .boolean) (by decide +kernel)) rfl hK hP hD hS hA (fun _ => rfl) (by decide) (by decide) (by decide) (Nat.le_of_ble_eq_true rfl) (Nat.le_of_ble_eq_true rfl) dX2_init_100 ?_
  clear hK hP hD hS
  intro q_18 cq_18 H hK hP hD hS
  refine W.widen (k := 14) (n := 3036) (Nat.le_of_ble_eq_true rfl) (Nat.le_of_ble_eq_true rfl) ?_
  replace hP := hP.sub (ws' := [(h0, .inr (2, [.null, .ref q_1, .int 0, .ref q_8, .ref q_9, .ref q_10, .ref q_11, .ref q_12, .ref q_13, .ref q_14, .ref q_15, .ref q_16, .ref q_17, .null, .null, .null, .null, .null, .null, .null, .int 0])), (q_1, .inr (4, [.ref q_2, .ref q_3])), (q_2, .inl (ca_4, 16, .inl f_6)), (q_3, .inl (cu_5, 256, .inl g_7)), (q_8, .inl (cq_8, 334, .inl (fun _ => 0))), (q_10, .inl (cq_10, 8, .inl (fun _ => 0))), (q_11, .inl (cq_11, 96, .inl (fun _ => 0))), (q_14, .inl (cq_14, 8, .inl (fun _ => 0))), (q_15, .inl (cq_15, 96, .inl (fun _ => 0)))]) [0, 1, 2, 3, 4, 5, 6, 7, 8] rfl
  replace hD := hD.sub (ws' := [(h0, .inr (2, [.null, .ref q_1, .int 0, .ref q_8, .ref q_9, .ref q_10, .ref q_11, .ref q_12, .ref q_13, .ref q_14, .ref q_15, .ref q_16, .ref q_17, .null, .null, .null, .null, .null, .null, .null, .int 0])), (q_1, .inr (4, [.ref q_2, .ref q_3])), (q_2, .inl (ca_4, 16, .inl f_6)), (q_3, .inl (cu_5, 256, .inl g_7)), (q_8, .inl (cq_8, 334, .inl (fun _ => 0))), (q_10, .inl (cq_10, 8, .inl (fun _ => 0))), (q_11, .inl (cq_11, 96, .inl (fun _ => 0))), (q_14, .inl (cq_14, 8, .inl (fun _ => 0))), (q_15, .inl (cq_15, 96, .inl (fun _ => 0)))]) [0, 1, 2, 3, 4, 5, 6, 7, 8] (by decide) rfl
  replace hK := hK.sub (tys' := [(ca_4, .int), (cu_5, .boolean), (cq_8, .int), (cq_10, .int), (cq_11, .int), (cq_14, .int), (cq_15, .int)]) [0, 1, 2, 3, 4, 5, 6] rfl
  refine va_putF (D := (dC, dI)) (ci := 2) (v := .ref q_18) (ty := .array .boolean) (C := RX2) (T := TX2) (N := 21) hx hb hts uX2_init_X2 tyX2 tyX2_ok nmX2 hown hK hP hD hS 0 rfl rfl 13 (by decide) (hts (.fieldLink RX2 51 "ClassMill$Heads" "methodFixed" "[Z") (by decide +kernel)) (fun _ h9 => h9) rfl hin rfl (by decide +kernel) rfl rfl (Nat.le_of_ble_eq_true rfl) dX2_init_102 ?_
  clear hP hD hS
  intro H locs hP hD hS
  replace hP : va_P (dC, dI) vwCl [(h0, .inr (2, [.null, .ref q_1, .int 0, .ref q_8, .ref q_9, .ref q_10, .ref q_11, .ref q_12, .ref q_13, .ref q_14, .ref q_15, .ref q_16, .ref q_17, .ref q_18, .null, .null, .null, .null, .null, .null, .int 0])), (q_1, .inr (4, [.ref q_2, .ref q_3])), (q_2, .inl (ca_4, 16, .inl f_6)), (q_3, .inl (cu_5, 256, .inl g_7)), (q_8, .inl (cq_8, 334, .inl (fun _ => 0))), (q_10, .inl (cq_10, 8, .inl (fun _ => 0))), (q_11, .inl (cq_11, 96, .inl (fun _ => 0))), (q_14, .inl (cq_14, 8, .inl (fun _ => 0))), (q_15, .inl (cq_15, 96, .inl (fun _ => 0)))] H := hP
  replace hD : va_D A [(h0, .inr (2, [.null, .ref q_1, .int 0, .ref q_8, .ref q_9, .ref q_10, .ref q_11, .ref q_12, .ref q_13, .ref q_14, .ref q_15, .ref q_16, .ref q_17, .ref q_18, .null, .null, .null, .null, .null, .null, .int 0])), (q_1, .inr (4, [.ref q_2, .ref q_3])), (q_2, .inl (ca_4, 16, .inl f_6)), (q_3, .inl (cu_5, 256, .inl g_7)), (q_8, .inl (cq_8, 334, .inl (fun _ => 0))), (q_10, .inl (cq_10, 8, .inl (fun _ => 0))), (q_11, .inl (cq_11, 96, .inl (fun _ => 0))), (q_14, .inl (cq_14, 8, .inl (fun _ => 0))), (q_15, .inl (cq_15, 96, .inl (fun _ => 0)))] := hD
  refine lv_aload_n hx hb dX2_init_105 rfl (lv_at hl 0 rfl) ?_
  refine lv_bipush (v := 96) hx hb dX2_init_106 (by decide) ?_
  refine va_newa (atype := .int) (ty := .int) (N' := 96) (a0 := (96, .inl (fun _ => 0))) hx hb (hts (.arrayClass .int) (by decide +kernel)) rfl hK hP hD hS hA (fun _ => rfl) (by decide) (by decide) (by decide) (Nat.le_of_ble_eq_true rfl) (Nat.le_of_ble_eq_true rfl) dX2_init_108 ?_
  clear hK hP hD hS
  intro q_19 cq_19 H hK hP hD hS
  refine W.widen (k := 15) (n := 3132) (Nat.le_of_ble_eq_true rfl) (Nat.le_of_ble_eq_true rfl) ?_
  replace hP := hP.sub (ws' := [(h0, .inr (2, [.null, .ref q_1, .int 0, .ref q_8, .ref q_9, .ref q_10, .ref q_11, .ref q_12, .ref q_13, .ref q_14, .ref q_15, .ref q_16, .ref q_17, .ref q_18, .null, .null, .null, .null, .null, .null, .int 0])), (q_1, .inr (4, [.ref q_2, .ref q_3])), (q_2, .inl (ca_4, 16, .inl f_6)), (q_3, .inl (cu_5, 256, .inl g_7)), (q_8, .inl (cq_8, 334, .inl (fun _ => 0))), (q_10, .inl (cq_10, 8, .inl (fun _ => 0))), (q_11, .inl (cq_11, 96, .inl (fun _ => 0))), (q_14, .inl (cq_14, 8, .inl (fun _ => 0))), (q_15, .inl (cq_15, 96, .inl (fun _ => 0)))]) [0, 1, 2, 3, 4, 5, 6, 7, 8] rfl
  replace hD := hD.sub (ws' := [(h0, .inr (2, [.null, .ref q_1, .int 0, .ref q_8, .ref q_9, .ref q_10, .ref q_11, .ref q_12, .ref q_13, .ref q_14, .ref q_15, .ref q_16, .ref q_17, .ref q_18, .null, .null, .null, .null, .null, .null, .int 0])), (q_1, .inr (4, [.ref q_2, .ref q_3])), (q_2, .inl (ca_4, 16, .inl f_6)), (q_3, .inl (cu_5, 256, .inl g_7)), (q_8, .inl (cq_8, 334, .inl (fun _ => 0))), (q_10, .inl (cq_10, 8, .inl (fun _ => 0))), (q_11, .inl (cq_11, 96, .inl (fun _ => 0))), (q_14, .inl (cq_14, 8, .inl (fun _ => 0))), (q_15, .inl (cq_15, 96, .inl (fun _ => 0)))]) [0, 1, 2, 3, 4, 5, 6, 7, 8] (by decide) rfl
  replace hK := hK.sub (tys' := [(ca_4, .int), (cu_5, .boolean), (cq_8, .int), (cq_10, .int), (cq_11, .int), (cq_14, .int), (cq_15, .int)]) [0, 1, 2, 3, 4, 5, 6] rfl
  refine va_putF (D := (dC, dI)) (ci := 2) (v := .ref q_19) (ty := .array .int) (C := RX2) (T := TX2) (N := 21) hx hb hts uX2_init_X2 tyX2 tyX2_ok nmX2 hown hK hP hD hS 0 rfl rfl 14 (by decide) (hts (.fieldLink RX2 55 "ClassMill$Heads" "methodKind" "[I") (by decide +kernel)) (fun _ h9 => h9) rfl hin rfl (by decide +kernel) rfl rfl (Nat.le_of_ble_eq_true rfl) dX2_init_110 ?_
  clear hP hD hS
  intro H locs hP hD hS
  replace hP : va_P (dC, dI) vwCl [(h0, .inr (2, [.null, .ref q_1, .int 0, .ref q_8, .ref q_9, .ref q_10, .ref q_11, .ref q_12, .ref q_13, .ref q_14, .ref q_15, .ref q_16, .ref q_17, .ref q_18, .ref q_19, .null, .null, .null, .null, .null, .int 0])), (q_1, .inr (4, [.ref q_2, .ref q_3])), (q_2, .inl (ca_4, 16, .inl f_6)), (q_3, .inl (cu_5, 256, .inl g_7)), (q_8, .inl (cq_8, 334, .inl (fun _ => 0))), (q_10, .inl (cq_10, 8, .inl (fun _ => 0))), (q_11, .inl (cq_11, 96, .inl (fun _ => 0))), (q_14, .inl (cq_14, 8, .inl (fun _ => 0))), (q_15, .inl (cq_15, 96, .inl (fun _ => 0)))] H := hP
  replace hD : va_D A [(h0, .inr (2, [.null, .ref q_1, .int 0, .ref q_8, .ref q_9, .ref q_10, .ref q_11, .ref q_12, .ref q_13, .ref q_14, .ref q_15, .ref q_16, .ref q_17, .ref q_18, .ref q_19, .null, .null, .null, .null, .null, .int 0])), (q_1, .inr (4, [.ref q_2, .ref q_3])), (q_2, .inl (ca_4, 16, .inl f_6)), (q_3, .inl (cu_5, 256, .inl g_7)), (q_8, .inl (cq_8, 334, .inl (fun _ => 0))), (q_10, .inl (cq_10, 8, .inl (fun _ => 0))), (q_11, .inl (cq_11, 96, .inl (fun _ => 0))), (q_14, .inl (cq_14, 8, .inl (fun _ => 0))), (q_15, .inl (cq_15, 96, .inl (fun _ => 0)))] := hD
  refine lv_aload_n hx hb dX2_init_113 rfl (lv_at hl 0 rfl) ?_
  refine lv_bipush (v := 96) hx hb dX2_init_114 (by decide) ?_
  refine va_newa (atype := .int) (ty := .int) (N' := 96) (a0 := (96, .inl (fun _ => 0))) hx hb (hts (.arrayClass .int) (by decide +kernel)) rfl hK hP hD hS hA (fun _ => rfl) (by decide) (by decide) (by decide) (Nat.le_of_ble_eq_true rfl) (Nat.le_of_ble_eq_true rfl) dX2_init_116 ?_
  clear hK hP hD hS
  intro q_20 cq_20 H hK hP hD hS
  refine W.widen (k := 16) (n := 3228) (Nat.le_of_ble_eq_true rfl) (Nat.le_of_ble_eq_true rfl) ?_
  replace hP := hP.sub (ws' := [(h0, .inr (2, [.null, .ref q_1, .int 0, .ref q_8, .ref q_9, .ref q_10, .ref q_11, .ref q_12, .ref q_13, .ref q_14, .ref q_15, .ref q_16, .ref q_17, .ref q_18, .ref q_19, .null, .null, .null, .null, .null, .int 0])), (q_1, .inr (4, [.ref q_2, .ref q_3])), (q_2, .inl (ca_4, 16, .inl f_6)), (q_3, .inl (cu_5, 256, .inl g_7)), (q_8, .inl (cq_8, 334, .inl (fun _ => 0))), (q_10, .inl (cq_10, 8, .inl (fun _ => 0))), (q_11, .inl (cq_11, 96, .inl (fun _ => 0))), (q_14, .inl (cq_14, 8, .inl (fun _ => 0))), (q_15, .inl (cq_15, 96, .inl (fun _ => 0)))]) [0, 1, 2, 3, 4, 5, 6, 7, 8] rfl
  replace hD := hD.sub (ws' := [(h0, .inr (2, [.null, .ref q_1, .int 0, .ref q_8, .ref q_9, .ref q_10, .ref q_11, .ref q_12, .ref q_13, .ref q_14, .ref q_15, .ref q_16, .ref q_17, .ref q_18, .ref q_19, .null, .null, .null, .null, .null, .int 0])), (q_1, .inr (4, [.ref q_2, .ref q_3])), (q_2, .inl (ca_4, 16, .inl f_6)), (q_3, .inl (cu_5, 256, .inl g_7)), (q_8, .inl (cq_8, 334, .inl (fun _ => 0))), (q_10, .inl (cq_10, 8, .inl (fun _ => 0))), (q_11, .inl (cq_11, 96, .inl (fun _ => 0))), (q_14, .inl (cq_14, 8, .inl (fun _ => 0))), (q_15, .inl (cq_15, 96, .inl (fun _ => 0)))]) [0, 1, 2, 3, 4, 5, 6, 7, 8] (by decide) rfl
  replace hK := hK.sub (tys' := [(ca_4, .int), (cu_5, .boolean), (cq_8, .int), (cq_10, .int), (cq_11, .int), (cq_14, .int), (cq_15, .int)]) [0, 1, 2, 3, 4, 5, 6] rfl
  refine va_putF (D := (dC, dI)) (ci := 2) (v := .ref q_20) (ty := .array .int) (C := RX2) (T := TX2) (N := 21) hx hb hts uX2_init_X2 tyX2 tyX2_ok nmX2 hown hK hP hD hS 0 rfl rfl 15 (by decide) (hts (.fieldLink RX2 58 "ClassMill$Heads" "parameters" "[I") (by decide +kernel)) (fun _ h9 => h9) rfl hin rfl (by decide +kernel) rfl rfl (Nat.le_of_ble_eq_true rfl) dX2_init_118 ?_
  clear hP hD hS
  intro H locs hP hD hS
  replace hP : va_P (dC, dI) vwCl [(h0, .inr (2, [.null, .ref q_1, .int 0, .ref q_8, .ref q_9, .ref q_10, .ref q_11, .ref q_12, .ref q_13, .ref q_14, .ref q_15, .ref q_16, .ref q_17, .ref q_18, .ref q_19, .ref q_20, .null, .null, .null, .null, .int 0])), (q_1, .inr (4, [.ref q_2, .ref q_3])), (q_2, .inl (ca_4, 16, .inl f_6)), (q_3, .inl (cu_5, 256, .inl g_7)), (q_8, .inl (cq_8, 334, .inl (fun _ => 0))), (q_10, .inl (cq_10, 8, .inl (fun _ => 0))), (q_11, .inl (cq_11, 96, .inl (fun _ => 0))), (q_14, .inl (cq_14, 8, .inl (fun _ => 0))), (q_15, .inl (cq_15, 96, .inl (fun _ => 0)))] H := hP
  replace hD : va_D A [(h0, .inr (2, [.null, .ref q_1, .int 0, .ref q_8, .ref q_9, .ref q_10, .ref q_11, .ref q_12, .ref q_13, .ref q_14, .ref q_15, .ref q_16, .ref q_17, .ref q_18, .ref q_19, .ref q_20, .null, .null, .null, .null, .int 0])), (q_1, .inr (4, [.ref q_2, .ref q_3])), (q_2, .inl (ca_4, 16, .inl f_6)), (q_3, .inl (cu_5, 256, .inl g_7)), (q_8, .inl (cq_8, 334, .inl (fun _ => 0))), (q_10, .inl (cq_10, 8, .inl (fun _ => 0))), (q_11, .inl (cq_11, 96, .inl (fun _ => 0))), (q_14, .inl (cq_14, 8, .inl (fun _ => 0))), (q_15, .inl (cq_15, 96, .inl (fun _ => 0)))] := hD
  refine lv_aload_n hx hb dX2_init_121 rfl (lv_at hl 0 rfl) ?_
  refine lv_sipush (v := 576) hx hb dX2_init_122 (by decide) ?_
  refine va_newa (atype := .int) (ty := .int) (N' := 576) (a0 := (576, .inl (fun _ => 0))) hx hb (hts (.arrayClass .int) (by decide +kernel)) rfl hK hP hD hS hA (fun _ => rfl) (by decide) (by decide) (by decide) (Nat.le_of_ble_eq_true rfl) (Nat.le_of_ble_eq_true rfl) dX2_init_125 ?_
  clear hK hP hD hS
  intro q_21 cq_21 H hK hP hD hS
  refine W.widen (k := 17) (n := 3804) (Nat.le_of_ble_eq_true rfl) (Nat.le_of_ble_eq_true rfl) ?_
  replace hP := hP.sub (ws' := [(h0, .inr (2, [.null, .ref q_1, .int 0, .ref q_8, .ref q_9, .ref q_10, .ref q_11, .ref q_12, .ref q_13, .ref q_14, .ref q_15, .ref q_16, .ref q_17, .ref q_18, .ref q_19, .ref q_20, .null, .null, .null, .null, .int 0])), (q_1, .inr (4, [.ref q_2, .ref q_3])), (q_2, .inl (ca_4, 16, .inl f_6)), (q_3, .inl (cu_5, 256, .inl g_7)), (q_8, .inl (cq_8, 334, .inl (fun _ => 0))), (q_10, .inl (cq_10, 8, .inl (fun _ => 0))), (q_11, .inl (cq_11, 96, .inl (fun _ => 0))), (q_14, .inl (cq_14, 8, .inl (fun _ => 0))), (q_15, .inl (cq_15, 96, .inl (fun _ => 0)))]) [0, 1, 2, 3, 4, 5, 6, 7, 8] rfl
  replace hD := hD.sub (ws' := [(h0, .inr (2, [.null, .ref q_1, .int 0, .ref q_8, .ref q_9, .ref q_10, .ref q_11, .ref q_12, .ref q_13, .ref q_14, .ref q_15, .ref q_16, .ref q_17, .ref q_18, .ref q_19, .ref q_20, .null, .null, .null, .null, .int 0])), (q_1, .inr (4, [.ref q_2, .ref q_3])), (q_2, .inl (ca_4, 16, .inl f_6)), (q_3, .inl (cu_5, 256, .inl g_7)), (q_8, .inl (cq_8, 334, .inl (fun _ => 0))), (q_10, .inl (cq_10, 8, .inl (fun _ => 0))), (q_11, .inl (cq_11, 96, .inl (fun _ => 0))), (q_14, .inl (cq_14, 8, .inl (fun _ => 0))), (q_15, .inl (cq_15, 96, .inl (fun _ => 0)))]) [0, 1, 2, 3, 4, 5, 6, 7, 8] (by decide) rfl
  replace hK := hK.sub (tys' := [(ca_4, .int), (cu_5, .boolean), (cq_8, .int), (cq_10, .int), (cq_11, .int), (cq_14, .int), (cq_15, .int)]) [0, 1, 2, 3, 4, 5, 6] rfl
  refine va_putF (D := (dC, dI)) (ci := 2) (v := .ref q_21) (ty := .array .int) (C := RX2) (T := TX2) (N := 21) hx hb hts uX2_init_X2 tyX2 tyX2_ok nmX2 hown hK hP hD hS 0 rfl rfl 16 (by decide) (hts (.fieldLink RX2 61 "ClassMill$Heads" "parameterName" "[I") (by decide +kernel)) (fun _ h9 => h9) rfl hin rfl (by decide +kernel) rfl rfl (Nat.le_of_ble_eq_true rfl) dX2_init_127 ?_
  clear hP hD hS
  intro H locs hP hD hS
  replace hP : va_P (dC, dI) vwCl [(h0, .inr (2, [.null, .ref q_1, .int 0, .ref q_8, .ref q_9, .ref q_10, .ref q_11, .ref q_12, .ref q_13, .ref q_14, .ref q_15, .ref q_16, .ref q_17, .ref q_18, .ref q_19, .ref q_20, .ref q_21, .null, .null, .null, .int 0])), (q_1, .inr (4, [.ref q_2, .ref q_3])), (q_2, .inl (ca_4, 16, .inl f_6)), (q_3, .inl (cu_5, 256, .inl g_7)), (q_8, .inl (cq_8, 334, .inl (fun _ => 0))), (q_10, .inl (cq_10, 8, .inl (fun _ => 0))), (q_11, .inl (cq_11, 96, .inl (fun _ => 0))), (q_14, .inl (cq_14, 8, .inl (fun _ => 0))), (q_15, .inl (cq_15, 96, .inl (fun _ => 0)))] H := hP
  replace hD : va_D A [(h0, .inr (2, [.null, .ref q_1, .int 0, .ref q_8, .ref q_9, .ref q_10, .ref q_11, .ref q_12, .ref q_13, .ref q_14, .ref q_15, .ref q_16, .ref q_17, .ref q_18, .ref q_19, .ref q_20, .ref q_21, .null, .null, .null, .int 0])), (q_1, .inr (4, [.ref q_2, .ref q_3])), (q_2, .inl (ca_4, 16, .inl f_6)), (q_3, .inl (cu_5, 256, .inl g_7)), (q_8, .inl (cq_8, 334, .inl (fun _ => 0))), (q_10, .inl (cq_10, 8, .inl (fun _ => 0))), (q_11, .inl (cq_11, 96, .inl (fun _ => 0))), (q_14, .inl (cq_14, 8, .inl (fun _ => 0))), (q_15, .inl (cq_15, 96, .inl (fun _ => 0)))] := hD
  refine lv_aload_n hx hb dX2_init_130 rfl (lv_at hl 0 rfl) ?_
  refine lv_sipush (v := 576) hx hb dX2_init_131 (by decide) ?_
  refine va_newa (atype := .int) (ty := .int) (N' := 576) (a0 := (576, .inl (fun _ => 0))) hx hb (hts (.arrayClass .int) (by decide +kernel)) rfl hK hP hD hS hA (fun _ => rfl) (by decide) (by decide) (by decide) (Nat.le_of_ble_eq_true rfl) (Nat.le_of_ble_eq_true rfl) dX2_init_134 ?_
  clear hK hP hD hS
  intro q_22 cq_22 H hK hP hD hS
  refine W.widen (k := 18) (n := 4380) (Nat.le_of_ble_eq_true rfl) (Nat.le_of_ble_eq_true rfl) ?_
  replace hP := hP.sub (ws' := [(h0, .inr (2, [.null, .ref q_1, .int 0, .ref q_8, .ref q_9, .ref q_10, .ref q_11, .ref q_12, .ref q_13, .ref q_14, .ref q_15, .ref q_16, .ref q_17, .ref q_18, .ref q_19, .ref q_20, .ref q_21, .null, .null, .null, .int 0])), (q_1, .inr (4, [.ref q_2, .ref q_3])), (q_2, .inl (ca_4, 16, .inl f_6)), (q_3, .inl (cu_5, 256, .inl g_7)), (q_8, .inl (cq_8, 334, .inl (fun _ => 0))), (q_10, .inl (cq_10, 8, .inl (fun _ => 0))), (q_11, .inl (cq_11, 96, .inl (fun _ => 0))), (q_14, .inl (cq_14, 8, .inl (fun _ => 0))), (q_15, .inl (cq_15, 96, .inl (fun _ => 0)))]) [0, 1, 2, 3, 4, 5, 6, 7, 8] rfl
  replace hD := hD.sub (ws' := [(h0, .inr (2, [.null, .ref q_1, .int 0, .ref q_8, .ref q_9, .ref q_10, .ref q_11, .ref q_12, .ref q_13, .ref q_14, .ref q_15, .ref q_16, .ref q_17, .ref q_18, .ref q_19, .ref q_20, .ref q_21, .null, .null, .null, .int 0])), (q_1, .inr (4, [.ref q_2, .ref q_3])), (q_2, .inl (ca_4, 16, .inl f_6)), (q_3, .inl (cu_5, 256, .inl g_7)), (q_8, .inl (cq_8, 334, .inl (fun _ => 0))), (q_10, .inl (cq_10, 8, .inl (fun _ => 0))), (q_11, .inl (cq_11, 96, .inl (fun _ => 0))), (q_14, .inl (cq_14, 8, .inl (fun _ => 0))), (q_15, .inl (cq_15, 96, .inl (fun _ => 0)))]) [0, 1, 2, 3, 4, 5, 6, 7, 8] (by decide) rfl
  replace hK := hK.sub (tys' := [(ca_4, .int), (cu_5, .boolean), (cq_8, .int), (cq_10, .int), (cq_11, .int), (cq_14, .int), (cq_15, .int)]) [0, 1, 2, 3, 4, 5, 6] rfl
  refine va_putF (D := (dC, dI)) (ci := 2) (v := .ref q_22) (ty := .array .int) (C := RX2) (T := TX2) (N := 21) hx hb hts uX2_init_X2 tyX2 tyX2_ok nmX2 hown hK hP hD hS 0 rfl rfl 17 (by decide) (hts (.fieldLink RX2 64 "ClassMill$Heads" "parameterType" "[I") (by decide +kernel)) (fun _ h9 => h9) rfl hin rfl (by decide +kernel) rfl rfl (Nat.le_of_ble_eq_true rfl) dX2_init_136 ?_
  clear hP hD hS
  intro H locs hP hD hS
  replace hP : va_P (dC, dI) vwCl [(h0, .inr (2, [.null, .ref q_1, .int 0, .ref q_8, .ref q_9, .ref q_10, .ref q_11, .ref q_12, .ref q_13, .ref q_14, .ref q_15, .ref q_16, .ref q_17, .ref q_18, .ref q_19, .ref q_20, .ref q_21, .ref q_22, .null, .null, .int 0])), (q_1, .inr (4, [.ref q_2, .ref q_3])), (q_2, .inl (ca_4, 16, .inl f_6)), (q_3, .inl (cu_5, 256, .inl g_7)), (q_8, .inl (cq_8, 334, .inl (fun _ => 0))), (q_10, .inl (cq_10, 8, .inl (fun _ => 0))), (q_11, .inl (cq_11, 96, .inl (fun _ => 0))), (q_14, .inl (cq_14, 8, .inl (fun _ => 0))), (q_15, .inl (cq_15, 96, .inl (fun _ => 0)))] H := hP
  replace hD : va_D A [(h0, .inr (2, [.null, .ref q_1, .int 0, .ref q_8, .ref q_9, .ref q_10, .ref q_11, .ref q_12, .ref q_13, .ref q_14, .ref q_15, .ref q_16, .ref q_17, .ref q_18, .ref q_19, .ref q_20, .ref q_21, .ref q_22, .null, .null, .int 0])), (q_1, .inr (4, [.ref q_2, .ref q_3])), (q_2, .inl (ca_4, 16, .inl f_6)), (q_3, .inl (cu_5, 256, .inl g_7)), (q_8, .inl (cq_8, 334, .inl (fun _ => 0))), (q_10, .inl (cq_10, 8, .inl (fun _ => 0))), (q_11, .inl (cq_11, 96, .inl (fun _ => 0))), (q_14, .inl (cq_14, 8, .inl (fun _ => 0))), (q_15, .inl (cq_15, 96, .inl (fun _ => 0)))] := hD
  refine lv_aload_n hx hb dX2_init_139 rfl (lv_at hl 0 rfl) ?_
  refine lv_bipush (v := 32) hx hb dX2_init_140 (by decide) ?_
  refine va_newa (atype := .int) (ty := .int) (N' := 32) (a0 := (32, .inl (fun _ => 0))) hx hb (hts (.arrayClass .int) (by decide +kernel)) rfl hK hP hD hS hA (fun _ => rfl) (by decide) (by decide) (by decide) (Nat.le_of_ble_eq_true rfl) (Nat.le_of_ble_eq_true rfl) dX2_init_142 ?_
  clear hK hP hD hS
  intro q_23 cq_23 H hK hP hD hS
  refine W.widen (k := 19) (n := 4412) (Nat.le_of_ble_eq_true rfl) (Nat.le_of_ble_eq_true rfl) ?_
  replace hP := hP.sub (ws' := [(h0, .inr (2, [.null, .ref q_1, .int 0, .ref q_8, .ref q_9, .ref q_10, .ref q_11, .ref q_12, .ref q_13, .ref q_14, .ref q_15, .ref q_16, .ref q_17, .ref q_18, .ref q_19, .ref q_20, .ref q_21, .ref q_22, .null, .null, .int 0])), (q_1, .inr (4, [.ref q_2, .ref q_3])), (q_2, .inl (ca_4, 16, .inl f_6)), (q_3, .inl (cu_5, 256, .inl g_7)), (q_8, .inl (cq_8, 334, .inl (fun _ => 0))), (q_10, .inl (cq_10, 8, .inl (fun _ => 0))), (q_11, .inl (cq_11, 96, .inl (fun _ => 0))), (q_14, .inl (cq_14, 8, .inl (fun _ => 0))), (q_15, .inl (cq_15, 96, .inl (fun _ => 0)))]) [0, 1, 2, 3, 4, 5, 6, 7, 8] rfl
  replace hD := hD.sub (ws' := [(h0, .inr (2, [.null, .ref q_1, .int 0, .ref q_8, .ref q_9, .ref q_10, .ref q_11, .ref q_12, .ref q_13, .ref q_14, .ref q_15, .ref q_16, .ref q_17, .ref q_18, .ref q_19, .ref q_20, .ref q_21, .ref q_22, .null, .null, .int 0])), (q_1, .inr (4, [.ref q_2, .ref q_3])), (q_2, .inl (ca_4, 16, .inl f_6)), (q_3, .inl (cu_5, 256, .inl g_7)), (q_8, .inl (cq_8, 334, .inl (fun _ => 0))), (q_10, .inl (cq_10, 8, .inl (fun _ => 0))), (q_11, .inl (cq_11, 96, .inl (fun _ => 0))), (q_14, .inl (cq_14, 8, .inl (fun _ => 0))), (q_15, .inl (cq_15, 96, .inl (fun _ => 0)))]) [0, 1, 2, 3, 4, 5, 6, 7, 8] (by decide) rfl
  replace hK := hK.sub (tys' := [(ca_4, .int), (cu_5, .boolean), (cq_8, .int), (cq_10, .int), (cq_11, .int), (cq_14, .int), (cq_15, .int)]) [0, 1, 2, 3, 4, 5, 6] rfl
  refine va_putF (D := (dC, dI)) (ci := 2) (v := .ref q_23) (ty := .array .int) (C := RX2) (T := TX2) (N := 21) hx hb hts uX2_init_X2 tyX2 tyX2_ok nmX2 hown hK hP hD hS 0 rfl rfl 18 (by decide) (hts (.fieldLink RX2 67 "ClassMill$Heads" "typeName" "[I") (by decide +kernel)) (fun _ h9 => h9) rfl hin rfl (by decide +kernel) rfl rfl (Nat.le_of_ble_eq_true rfl) dX2_init_144 ?_
  clear hP hD hS
  intro H locs hP hD hS
  replace hP : va_P (dC, dI) vwCl [(h0, .inr (2, [.null, .ref q_1, .int 0, .ref q_8, .ref q_9, .ref q_10, .ref q_11, .ref q_12, .ref q_13, .ref q_14, .ref q_15, .ref q_16, .ref q_17, .ref q_18, .ref q_19, .ref q_20, .ref q_21, .ref q_22, .ref q_23, .null, .int 0])), (q_1, .inr (4, [.ref q_2, .ref q_3])), (q_2, .inl (ca_4, 16, .inl f_6)), (q_3, .inl (cu_5, 256, .inl g_7)), (q_8, .inl (cq_8, 334, .inl (fun _ => 0))), (q_10, .inl (cq_10, 8, .inl (fun _ => 0))), (q_11, .inl (cq_11, 96, .inl (fun _ => 0))), (q_14, .inl (cq_14, 8, .inl (fun _ => 0))), (q_15, .inl (cq_15, 96, .inl (fun _ => 0)))] H := hP
  replace hD : va_D A [(h0, .inr (2, [.null, .ref q_1, .int 0, .ref q_8, .ref q_9, .ref q_10, .ref q_11, .ref q_12, .ref q_13, .ref q_14, .ref q_15, .ref q_16, .ref q_17, .ref q_18, .ref q_19, .ref q_20, .ref q_21, .ref q_22, .ref q_23, .null, .int 0])), (q_1, .inr (4, [.ref q_2, .ref q_3])), (q_2, .inl (ca_4, 16, .inl f_6)), (q_3, .inl (cu_5, 256, .inl g_7)), (q_8, .inl (cq_8, 334, .inl (fun _ => 0))), (q_10, .inl (cq_10, 8, .inl (fun _ => 0))), (q_11, .inl (cq_11, 96, .inl (fun _ => 0))), (q_14, .inl (cq_14, 8, .inl (fun _ => 0))), (q_15, .inl (cq_15, 96, .inl (fun _ => 0)))] := hD
  refine lv_aload_n hx hb dX2_init_147 rfl (lv_at hl 0 rfl) ?_
  refine lv_sipush (v := 128) hx hb dX2_init_148 (by decide) ?_
  refine va_newa (atype := .byte) (ty := .byte) (N' := 128) (a0 := (128, .inl (fun _ => 0))) hx hb (hts (.arrayClass .byte) (by decide +kernel)) rfl hK hP hD hS hA (fun _ => rfl) (by decide) (by decide) (by decide) (Nat.le_of_ble_eq_true rfl) (Nat.le_of_ble_eq_true rfl) dX2_init_151 ?_
  clear hK hP hD hS
  intro q_24 cq_24 H hK hP hD hS
  refine W.widen (k := 20) (n := 4540) (Nat.le_of_ble_eq_true rfl) (Nat.le_of_ble_eq_true rfl) ?_
  replace hP := hP.sub (ws' := [(h0, .inr (2, [.null, .ref q_1, .int 0, .ref q_8, .ref q_9, .ref q_10, .ref q_11, .ref q_12, .ref q_13, .ref q_14, .ref q_15, .ref q_16, .ref q_17, .ref q_18, .ref q_19, .ref q_20, .ref q_21, .ref q_22, .ref q_23, .null, .int 0])), (q_1, .inr (4, [.ref q_2, .ref q_3])), (q_2, .inl (ca_4, 16, .inl f_6)), (q_3, .inl (cu_5, 256, .inl g_7)), (q_8, .inl (cq_8, 334, .inl (fun _ => 0))), (q_10, .inl (cq_10, 8, .inl (fun _ => 0))), (q_11, .inl (cq_11, 96, .inl (fun _ => 0))), (q_14, .inl (cq_14, 8, .inl (fun _ => 0))), (q_15, .inl (cq_15, 96, .inl (fun _ => 0)))]) [0, 1, 2, 3, 4, 5, 6, 7, 8] rfl
  replace hD := hD.sub (ws' := [(h0, .inr (2, [.null, .ref q_1, .int 0, .ref q_8, .ref q_9, .ref q_10, .ref q_11, .ref q_12, .ref q_13, .ref q_14, .ref q_15, .ref q_16, .ref q_17, .ref q_18, .ref q_19, .ref q_20, .ref q_21, .ref q_22, .ref q_23, .null, .int 0])), (q_1, .inr (4, [.ref q_2, .ref q_3])), (q_2, .inl (ca_4, 16, .inl f_6)), (q_3, .inl (cu_5, 256, .inl g_7)), (q_8, .inl (cq_8, 334, .inl (fun _ => 0))), (q_10, .inl (cq_10, 8, .inl (fun _ => 0))), (q_11, .inl (cq_11, 96, .inl (fun _ => 0))), (q_14, .inl (cq_14, 8, .inl (fun _ => 0))), (q_15, .inl (cq_15, 96, .inl (fun _ => 0)))]) [0, 1, 2, 3, 4, 5, 6, 7, 8] (by decide) rfl
  replace hK := hK.sub (tys' := [(ca_4, .int), (cu_5, .boolean), (cq_8, .int), (cq_10, .int), (cq_11, .int), (cq_14, .int), (cq_15, .int)]) [0, 1, 2, 3, 4, 5, 6] rfl
  refine va_putF (D := (dC, dI)) (ci := 2) (v := .ref q_24) (ty := .array .byte) (C := RX2) (T := TX2) (N := 21) hx hb hts uX2_init_X2 tyX2 tyX2_ok nmX2 hown hK hP hD hS 0 rfl rfl 19 (by decide) (hts (.fieldLink RX2 70 "ClassMill$Heads" "kindBytes" "[B") (by decide +kernel)) (fun _ h9 => h9) rfl hin rfl (by decide +kernel) rfl rfl (Nat.le_of_ble_eq_true rfl) dX2_init_153 ?_
  clear hP hD hS
  intro H locs hP hD hS
  replace hP : va_P (dC, dI) vwCl [(h0, .inr (2, [.null, .ref q_1, .int 0, .ref q_8, .ref q_9, .ref q_10, .ref q_11, .ref q_12, .ref q_13, .ref q_14, .ref q_15, .ref q_16, .ref q_17, .ref q_18, .ref q_19, .ref q_20, .ref q_21, .ref q_22, .ref q_23, .ref q_24, .int 0])), (q_1, .inr (4, [.ref q_2, .ref q_3])), (q_2, .inl (ca_4, 16, .inl f_6)), (q_3, .inl (cu_5, 256, .inl g_7)), (q_8, .inl (cq_8, 334, .inl (fun _ => 0))), (q_10, .inl (cq_10, 8, .inl (fun _ => 0))), (q_11, .inl (cq_11, 96, .inl (fun _ => 0))), (q_14, .inl (cq_14, 8, .inl (fun _ => 0))), (q_15, .inl (cq_15, 96, .inl (fun _ => 0)))] H := hP
  replace hD : va_D A [(h0, .inr (2, [.null, .ref q_1, .int 0, .ref q_8, .ref q_9, .ref q_10, .ref q_11, .ref q_12, .ref q_13, .ref q_14, .ref q_15, .ref q_16, .ref q_17, .ref q_18, .ref q_19, .ref q_20, .ref q_21, .ref q_22, .ref q_23, .ref q_24, .int 0])), (q_1, .inr (4, [.ref q_2, .ref q_3])), (q_2, .inl (ca_4, 16, .inl f_6)), (q_3, .inl (cu_5, 256, .inl g_7)), (q_8, .inl (cq_8, 334, .inl (fun _ => 0))), (q_10, .inl (cq_10, 8, .inl (fun _ => 0))), (q_11, .inl (cq_11, 96, .inl (fun _ => 0))), (q_14, .inl (cq_14, 8, .inl (fun _ => 0))), (q_15, .inl (cq_15, 96, .inl (fun _ => 0)))] := hD
  refine lv_aload_n hx hb dX2_init_156 rfl (lv_at hl 0 rfl) ?_
  refine lv_aload_n hx hb dX2_init_157 rfl (lv_at hl 1 rfl) ?_
  refine va_putF (D := (dC, dI)) (ci := 2) (v := .ref qt) (ty := .object "ClassMill$Text") (C := RX2) (T := TX2) (N := 21) hx hb hts uX2_init_X2 tyX2 tyX2_ok nmX2 hown hK hP hD hS 0 rfl rfl 0 (by decide) (hts (.fieldLink RX2 74 "ClassMill$Heads" "text" "LClassMill$Text;") (by decide +kernel)) (fun _ h9 => h9) rfl hin rfl (by decide +kernel) rfl rfl (Nat.le_of_ble_eq_true rfl) dX2_init_158 ?_
  clear hP hD hS
  intro H locs hP hD hS
  replace hP : va_P (dC, dI) vwCl [(h0, .inr (2, [.ref qt, .ref q_1, .int 0, .ref q_8, .ref q_9, .ref q_10, .ref q_11, .ref q_12, .ref q_13, .ref q_14, .ref q_15, .ref q_16, .ref q_17, .ref q_18, .ref q_19, .ref q_20, .ref q_21, .ref q_22, .ref q_23, .ref q_24, .int 0])), (q_1, .inr (4, [.ref q_2, .ref q_3])), (q_2, .inl (ca_4, 16, .inl f_6)), (q_3, .inl (cu_5, 256, .inl g_7)), (q_8, .inl (cq_8, 334, .inl (fun _ => 0))), (q_10, .inl (cq_10, 8, .inl (fun _ => 0))), (q_11, .inl (cq_11, 96, .inl (fun _ => 0))), (q_14, .inl (cq_14, 8, .inl (fun _ => 0))), (q_15, .inl (cq_15, 96, .inl (fun _ => 0)))] H := hP
  replace hD : va_D A [(h0, .inr (2, [.ref qt, .ref q_1, .int 0, .ref q_8, .ref q_9, .ref q_10, .ref q_11, .ref q_12, .ref q_13, .ref q_14, .ref q_15, .ref q_16, .ref q_17, .ref q_18, .ref q_19, .ref q_20, .ref q_21, .ref q_22, .ref q_23, .ref q_24, .int 0])), (q_1, .inr (4, [.ref q_2, .ref q_3])), (q_2, .inl (ca_4, 16, .inl f_6)), (q_3, .inl (cu_5, 256, .inl g_7)), (q_8, .inl (cq_8, 334, .inl (fun _ => 0))), (q_10, .inl (cq_10, 8, .inl (fun _ => 0))), (q_11, .inl (cq_11, 96, .inl (fun _ => 0))), (q_14, .inl (cq_14, 8, .inl (fun _ => 0))), (q_15, .inl (cq_15, 96, .inl (fun _ => 0)))] := hD
  have hP9 := hP.sub (ws' := [(h0, .inr (2, [.ref qt, .ref q_1, .int 0, .ref q_8, .ref q_9, .ref q_10, .ref q_11, .ref q_12, .ref q_13, .ref q_14, .ref q_15, .ref q_16, .ref q_17, .ref q_18, .ref q_19, .ref q_20, .ref q_21, .ref q_22, .ref q_23, .ref q_24, .int 0])), (q_1, .inr (4, [.ref q_2, .ref q_3])), (q_2, .inl (ca_4, 16, .inl f_6)), (q_3, .inl (cu_5, 256, .inl g_7)), (q_8, .inl (cq_8, 334, .inl (fun _ => 0))), (q_10, .inl (cq_10, 8, .inl (fun _ => 0))), (q_14, .inl (cq_14, 8, .inl (fun _ => 0))), (q_11, .inl (cq_11, 96, .inl (fun _ => 0))), (q_15, .inl (cq_15, 96, .inl (fun _ => 0)))]) [0, 1, 2, 3, 4, 5, 7, 6, 8] rfl
  have hD9 := hD.sub (ws' := [(h0, .inr (2, [.ref qt, .ref q_1, .int 0, .ref q_8, .ref q_9, .ref q_10, .ref q_11, .ref q_12, .ref q_13, .ref q_14, .ref q_15, .ref q_16, .ref q_17, .ref q_18, .ref q_19, .ref q_20, .ref q_21, .ref q_22, .ref q_23, .ref q_24, .int 0])), (q_1, .inr (4, [.ref q_2, .ref q_3])), (q_2, .inl (ca_4, 16, .inl f_6)), (q_3, .inl (cu_5, 256, .inl g_7)), (q_8, .inl (cq_8, 334, .inl (fun _ => 0))), (q_10, .inl (cq_10, 8, .inl (fun _ => 0))), (q_14, .inl (cq_14, 8, .inl (fun _ => 0))), (q_11, .inl (cq_11, 96, .inl (fun _ => 0))), (q_15, .inl (cq_15, 96, .inl (fun _ => 0)))]) [0, 1, 2, 3, 4, 5, 7, 6, 8] (by decide) rfl
  have hK9 := hK.sub (tys' := [(ca_4, .int), (cu_5, .boolean), (cq_8, .int), (cq_10, .int), (cq_14, .int), (cq_11, .int), (cq_15, .int)]) [0, 1, 2, 3, 5, 4, 6] rfl
  exact W.vret hx hb hr (fun t ht hW => ⟨⟨(q_1, q_8, q_9, q_10, q_11, q_12, q_13, q_14, q_15, q_16, q_17, q_18, q_19, q_20, q_21, q_22, q_23, q_24, q_2, q_3, ca_4, f_6, cu_5, g_7, cq_8, cq_10, cq_14, cq_11, cq_15), rfl, hkf, by rw [ht]; exact hP9, va_K.moved hW.alike hK9, hD9⟩, hS.F ht⟩) hS.2.2 dX2_init_161
