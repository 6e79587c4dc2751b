set_option maxHeartbeats 4000000 in
set_option maxRecDepth 100000 in
/-- kk_kind0 -/
theorem kk_kind0 (l : Launch) (dC : Nat → ClassId) (dI : Nat → Nat → Nat) (sz : Nat) (qo2 : Nat) (qo10 : Nat) (qo11 : Nat) (qo12 : Nat) (qo13 : Nat) (qo14 : Nat) (qo15 : Nat) (qo16 : Nat) (qo17 : Nat) (co2 : ClassId) (fk : (Nat → Int32)) (hk0 : fk 0 = 0) : Met l yX9_kind (.code yX9_kind cX9_kind 1 (some .int) :: VS_k1) ({ frames := 0, cells := 0, slots := 0, locals := 0 }) (va_Pc [.ref qo2] (fun U => U.heap.size = sz ∧ va_P (dC, dI) vwCl [(qo2, .inr (9, [.ref qo10, .ref qo11, .ref qo12, .int 1, .ref qo13, .ref qo14, .ref qo15, .ref qo16, .ref qo17, .int 32, .int 0, .int 0, .int (-1)])), (qo10, .inl (co2, 3001, .inl fk))] U.heap ∧ va_K (dC, dI) vwCl [(co2, .int)] U ∧ va_D (fun _ => True) [(qo2, .inr (9, [.ref qo10, .ref qo11, .ref qo12, .int 1, .ref qo13, .ref qo14, .ref qo15, .ref qo16, .ref qo17, .int 32, .int 0, .int 0, .int (-1)])), (qo10, .inl (co2, 3001, .inl fk))])) (va_Qi (fun (r : Int32) (u : Unit) => match u with | () => r = 0) (fun (u : Unit) (t : State) => match u with | () => va_P (dC, dI) vwCl [(qo2, .inr (9, [.ref qo10, .ref qo11, .ref qo12, .int 1, .ref qo13, .ref qo14, .ref qo15, .ref qo16, .ref qo17, .int 32, .int 0, .int 0, .int (-1)])), (qo10, .inl (co2, 3001, .inl fk))] t.heap ∧ va_K (dC, dI) vwCl [(co2, .int)] t ∧ va_D (va_A [(qo2, .inr (9, [.ref qo10, .ref qo11, .ref qo12, .int 1, .ref qo13, .ref qo14, .ref qo15, .ref qo16, .ref qo17, .int 32, .int 0, .int 0, .int (-1)])), (qo10, .inl (co2, 3001, .inl fk))] sz) [(qo2, .inr (9, [.ref qo10, .ref qo11, .ref qo12, .int 1, .ref qo13, .ref qo14, .ref qo15, .ref qo16, .ref qo17, .int 32, .int 0, .int 0, .int (-1)])), (qo10, .inl (co2, 3001, .inl fk))]) (va_A [(qo2, .inr (9, [.ref qo10, .ref qo11, .ref qo12, .int 1, .ref qo13, .ref qo14, .ref qo15, .ref qo16, .ref qo17, .int 32, .int 0, .int 0, .int (-1)])), (qo10, .inl (co2, 3001, .inl fk))] sz)) 0 0 (va_A [(qo2, .inr (9, [.ref qo10, .ref qo11, .ref qo12, .int 1, .ref qo13, .ref qo14, .ref qo15, .ref qo16, .ref qo17, .int 32, .int 0, .int 0, .int (-1)])), (qo10, .inl (co2, 3001, .inl fk))] sz) := by
  refine Met.ofW (cc := cX9_kind) (maxL := 1) (ret := (some .int)) (by decide) rfl ?_
  intro p e s m args below meth c s₁ B hml hv
  obtain ⟨rfl, hsz, hP, hK, hD0⟩ := hv
  have hx := B.exec
  have hb := B.bytes
  have hr := B.returns
  have hts := atoms_spec (ws := (.code yX9_kind cX9_kind 1 (some .int) :: VS_k1)) B.pre
  replace hts := fun w (h : w ∈ VS_k1) => hts w (List.mem_cons_of_mem _ h)
  have hown : s.vm.findClass RX9 = some m.cls := findClass_of_methodNamed B.named
  have hlocks := B.notSynchronized
  subst hsz
  have hD := hD0.self (sz := s.heap.size)
  generalize hAe : va_A [(qo2, .inr (9, [.ref qo10, .ref qo11, .ref qo12, .int 1, .ref qo13, .ref qo14, .ref qo15, .ref qo16, .ref qo17, .int 32, .int 0, .int 0, .int (-1)])), (qo10, .inl (co2, 3001, .inl fk))] s.heap.size = A at hD  ⊢
  have hA : ∀ q : Nat, s.heap.size ≤ q → A q := fun q h => by rw [← hAe]; exact Or.inr h
  have hP : va_P (dC, dI) vwCl [(qo2, .inr (9, [.ref qo10, .ref qo11, .ref qo12, .int 1, .ref qo13, .ref qo14, .ref qo15, .ref qo16, .ref qo17, .int 32, .int 0, .int 0, .int (-1)])), (qo10, .inl (co2, 3001, .inl fk))] s.heap := hP
  have hl := lv_entry ([.ref qo2]) (n := 1) (Nat.le_of_ble_eq_true rfl)
  rw [lg_entry_eq]
  generalize (lg_sl ([.ref qo2]) ++ List.replicate (1 - (lg_sl ([.ref qo2])).length) Slot.unset).toArray = ls at hl ⊢
  have hl : lv_has ls 1 [(0, .ref qo2)] := hl
  obtain ⟨H, hH⟩ : ∃ H : Heap, s.heap = H := ⟨_, rfl⟩
  rw [hH] at hP ⊢
  have hS : va_S A s.heap H [] := by rw [← hH]; exact va_S.rf
  obtain ⟨locs, hlo⟩ : ∃ locs : List Loc, locs = [] := ⟨_, rfl⟩
  rw [← hlo] at hS ⊢
  refine lv_aload_n hx hb dX9_kind_0 rfl (lv_at hl 0 rfl) ?_
  refine va_get (D := (dC, dI)) (ci := 9) (v := .int 0) (C := RX9) (T := TX9) (N := 13) hx hb hts uV_k1_X9 hown hK hP 0 rfl rfl 11 (by decide) (hts (.fieldLink RX9 80 "ClassMill$Text" "fault" "I") mw_k1_175) (fun _ h9 => h9) rfl dX9_kind_1 ?_
  refine lv_if_ne (tgt := 37) hx hb dX9_kind_4 (by decide) (fun c_1 => (show False by revert c_1; decide).elim) (fun c_1 => ?_)
  refine lv_aload_n hx hb dX9_kind_7 rfl (lv_at hl 0 rfl) ?_
  refine va_get (D := (dC, dI)) (ci := 9) (v := .int 0) (C := RX9) (T := TX9) (N := 13) hx hb hts uV_k1_X9 hown hK hP 0 rfl rfl 10 (by decide) (hts (.fieldLink RX9 86 "ClassMill$Text" "pos" "I") mw_k1_174) (fun _ h9 => h9) rfl dX9_kind_8 ?_
  refine lv_if_lt (tgt := 37) hx hb dX9_kind_11 (by decide) (fun c_2 => (show False by revert c_2; decide).elim) (fun c_2 => ?_)
  refine lv_aload_n hx hb dX9_kind_14 rfl (lv_at hl 0 rfl) ?_
  refine va_get (D := (dC, dI)) (ci := 9) (v := .int 0) (C := RX9) (T := TX9) (N := 13) hx hb hts uV_k1_X9 hown hK hP 0 rfl rfl 10 (by decide) (hts (.fieldLink RX9 86 "ClassMill$Text" "pos" "I") mw_k1_174) (fun _ h9 => h9) rfl dX9_kind_15 ?_
  refine lv_aload_n hx hb dX9_kind_18 rfl (lv_at hl 0 rfl) ?_
  refine va_get (D := (dC, dI)) (ci := 9) (v := .int 1) (C := RX9) (T := TX9) (N := 13) hx hb hts uV_k1_X9 hown hK hP 0 rfl rfl 3 (by decide) (hts (.fieldLink RX9 83 "ClassMill$Text" "count" "I") mw_k1_155) (fun _ h9 => h9) rfl dX9_kind_19 ?_
  refine lv_icmp_ge (tgt := 37) hx hb dX9_kind_22 (by decide) (fun c_3 => (show False by revert c_3; decide).elim) (fun c_3 => ?_)
  refine lv_aload_n hx hb dX9_kind_25 rfl (lv_at hl 0 rfl) ?_
  refine va_get (D := (dC, dI)) (ci := 9) (v := .ref qo10) (C := RX9) (T := TX9) (N := 13) hx hb hts uV_k1_X9 hown hK hP 0 rfl rfl 0 (by decide) (hts (.fieldLink RX9 15 "ClassMill$Text" "kinds" "[I") mw_k1_156) (fun _ h9 => h9) rfl dX9_kind_26 ?_
  refine lv_aload_n hx hb dX9_kind_29 rfl (lv_at hl 0 rfl) ?_
  refine va_get (D := (dC, dI)) (ci := 9) (v := .int 0) (C := RX9) (T := TX9) (N := 13) hx hb hts uV_k1_X9 hown hK hP 0 rfl rfl 10 (by decide) (hts (.fieldLink RX9 86 "ClassMill$Text" "pos" "I") mw_k1_174) (fun _ h9 => h9) rfl dX9_kind_30 ?_
  refine va_iald hx hb hK hP 1 0 rfl rfl (i := 0) (by unfold vp_in; decide) dX9_kind_33 ?_
  refine lv_topi (fun y_4 ey_4 => ?_)
  obtain rfl : y_4 = 0 := by rw [ey_4]; exact hk0
  refine lv_goto (tgt := 38) hx hb dX9_kind_34 (by decide) ?_
  have hP9 := hP.sub (ws' := [(qo2, .inr (9, [.ref qo10, .ref qo11, .ref qo12, .int 1, .ref qo13, .ref qo14, .ref qo15, .ref qo16, .ref qo17, .int 32, .int 0, .int 0, .int (-1)])), (qo10, .inl (co2, 3001, .inl fk))]) [0, 1] rfl
  have hD9 := hD.sub (ws' := [(qo2, .inr (9, [.ref qo10, .ref qo11, .ref qo12, .int 1, .ref qo13, .ref qo14, .ref qo15, .ref qo16, .ref qo17, .int 32, .int 0, .int 0, .int (-1)])), (qo10, .inl (co2, 3001, .inl fk))]) [0, 1] (by decide) rfl
  have hK9 := hK.sub (tys' := [(co2, .int)]) [0] rfl
  exact W.iret hx hb hr (fun t ht hW => ⟨⟨(0), (), rfl, rfl, by rw [ht]; exact hP9, va_K.moved hW.alike hK9, hD9⟩, hS.F ht⟩) hS.2.2 dX9_kind_38
set_option maxHeartbeats 4000000 in
set_option maxRecDepth 100000 in
/-- kk_kind2 -/
theorem kk_kind2 (l : Launch) (dC : Nat → ClassId) (dI : Nat → Nat → Nat) (sz : Nat) (qo2 : Nat) (qo10 : Nat) (qo11 : Nat) (qo12 : Nat) (qo13 : Nat) (qo14 : Nat) (qo15 : Nat) (qo16 : Nat) (qo17 : Nat)  : Met l yX9_kind (.code yX9_kind cX9_kind 1 (some .int) :: VS_k1) ({ frames := 0, cells := 0, slots := 0, locals := 0 }) (va_Pc [.ref qo2] (fun U => U.heap.size = sz ∧ va_P (dC, dI) vwCl [(qo2, .inr (9, [.ref qo10, .ref qo11, .ref qo12, .int 1, .ref qo13, .ref qo14, .ref qo15, .ref qo16, .ref qo17, .int 32, .int 0, .int 2, .int 0]))] U.heap ∧ va_K (dC, dI) vwCl [] U ∧ va_D (fun _ => True) [(qo2, .inr (9, [.ref qo10, .ref qo11, .ref qo12, .int 1, .ref qo13, .ref qo14, .ref qo15, .ref qo16, .ref qo17, .int 32, .int 0, .int 2, .int 0]))])) (va_Qi (fun (r : Int32) (u : Unit) => match u with | () => r = 0) (fun (u : Unit) (t : State) => match u with | () => va_P (dC, dI) vwCl [(qo2, .inr (9, [.ref qo10, .ref qo11, .ref qo12, .int 1, .ref qo13, .ref qo14, .ref qo15, .ref qo16, .ref qo17, .int 32, .int 0, .int 2, .int 0]))] t.heap ∧ va_K (dC, dI) vwCl [] t ∧ va_D (va_A [(qo2, .inr (9, [.ref qo10, .ref qo11, .ref qo12, .int 1, .ref qo13, .ref qo14, .ref qo15, .ref qo16, .ref qo17, .int 32, .int 0, .int 2, .int 0]))] sz) [(qo2, .inr (9, [.ref qo10, .ref qo11, .ref qo12, .int 1, .ref qo13, .ref qo14, .ref qo15, .ref qo16, .ref qo17, .int 32, .int 0, .int 2, .int 0]))]) (va_A [(qo2, .inr (9, [.ref qo10, .ref qo11, .ref qo12, .int 1, .ref qo13, .ref qo14, .ref qo15, .ref qo16, .ref qo17, .int 32, .int 0, .int 2, .int 0]))] sz)) 0 0 (va_A [(qo2, .inr (9, [.ref qo10, .ref qo11, .ref qo12, .int 1, .ref qo13, .ref qo14, .ref qo15, .ref qo16, .ref qo17, .int 32, .int 0, .int 2, .int 0]))] sz) := by
  refine Met.ofW (cc := cX9_kind) (maxL := 1) (ret := (some .int)) (by decide) rfl ?_
  intro p e s m args below meth c s₁ B hml hv
  obtain ⟨rfl, hsz, hP, hK, hD0⟩ := hv
  have hx := B.exec
  have hb := B.bytes
  have hr := B.returns
  have hts := atoms_spec (ws := (.code yX9_kind cX9_kind 1 (some .int) :: VS_k1)) B.pre
  replace hts := fun w (h : w ∈ VS_k1) => hts w (List.mem_cons_of_mem _ h)
  have hown : s.vm.findClass RX9 = some m.cls := findClass_of_methodNamed B.named
  have hlocks := B.notSynchronized
  subst hsz
  have hD := hD0.self (sz := s.heap.size)
  generalize hAe : va_A [(qo2, .inr (9, [.ref qo10, .ref qo11, .ref qo12, .int 1, .ref qo13, .ref qo14, .ref qo15, .ref qo16, .ref qo17, .int 32, .int 0, .int 2, .int 0]))] s.heap.size = A at hD  ⊢
  have hA : ∀ q : Nat, s.heap.size ≤ q → A q := fun q h => by rw [← hAe]; exact Or.inr h
  have hP : va_P (dC, dI) vwCl [(qo2, .inr (9, [.ref qo10, .ref qo11, .ref qo12, .int 1, .ref qo13, .ref qo14, .ref qo15, .ref qo16, .ref qo17, .int 32, .int 0, .int 2, .int 0]))] s.heap := hP
  have hl := lv_entry ([.ref qo2]) (n := 1) (Nat.le_of_ble_eq_true rfl)
  rw [lg_entry_eq]
  generalize (lg_sl ([.ref qo2]) ++ List.replicate (1 - (lg_sl ([.ref qo2])).length) Slot.unset).toArray = ls at hl ⊢
  have hl : lv_has ls 1 [(0, .ref qo2)] := hl
  obtain ⟨H, hH⟩ : ∃ H : Heap, s.heap = H := ⟨_, rfl⟩
  rw [hH] at hP ⊢
  have hS : va_S A s.heap H [] := by rw [← hH]; exact va_S.rf
  obtain ⟨locs, hlo⟩ : ∃ locs : List Loc, locs = [] := ⟨_, rfl⟩
  rw [← hlo] at hS ⊢
  refine lv_aload_n hx hb dX9_kind_0 rfl (lv_at hl 0 rfl) ?_
  refine va_get (D := (dC, dI)) (ci := 9) (v := .int 2) (C := RX9) (T := TX9) (N := 13) hx hb hts uV_k1_X9 hown hK hP 0 rfl rfl 11 (by decide) (hts (.fieldLink RX9 80 "ClassMill$Text" "fault" "I") mw_k1_175) (fun _ h9 => h9) rfl dX9_kind_1 ?_
  refine lv_if_ne (tgt := 37) hx hb dX9_kind_4 (by decide) (fun c_1 => ?_) (fun c_1 => (show False by revert c_1; decide).elim)
  refine lv_iconst (v := 0) hx hb dX9_kind_37 (by decide) ?_
  have hP9 := hP.sub (ws' := [(qo2, .inr (9, [.ref qo10, .ref qo11, .ref qo12, .int 1, .ref qo13, .ref qo14, .ref qo15, .ref qo16, .ref qo17, .int 32, .int 0, .int 2, .int 0]))]) [0] rfl
  have hD9 := hD.sub (ws' := [(qo2, .inr (9, [.ref qo10, .ref qo11, .ref qo12, .int 1, .ref qo13, .ref qo14, .ref qo15, .ref qo16, .ref qo17, .int 32, .int 0, .int 2, .int 0]))]) [0] (by decide) rfl
  have hK9 := hK.sub (tys' := []) [] rfl
  exact W.iret hx hb hr (fun t ht hW => ⟨⟨(0), (), rfl, rfl, by rw [ht]; exact hP9, va_K.moved hW.alike hK9, hD9⟩, hS.F ht⟩) hS.2.2 dX9_kind_38
set_option maxHeartbeats 4000000 in
set_option maxRecDepth 100000 in
/-- kk_tellHere0 -/
theorem kk_tellHere0 (l : Launch) (dC : Nat → ClassId) (dI : Nat → Nat → Nat) (sz : Nat) (qo2 : Nat) (qo10 : Nat) (qo11 : Nat) (qo12 : Nat) (qo13 : Nat) (qo14 : Nat) (qo15 : Nat) (qo16 : Nat) (qo17 : Nat) (co2 : ClassId) (fk : (Nat → Int32)) (co3 : ClassId) (fp : (Nat → Int32)) (hk0 : fk 0 = 0) (hp0 : fp 0 = 0) : Met l yX9_tellHere (.code yX9_tellHere cX9_tellHere 2 none :: VS_k1) ({ frames := 0, cells := 0, slots := 0, locals := 0 }) (va_Pc [.ref qo2, .int 2] (fun U => U.heap.size = sz ∧ va_P (dC, dI) vwCl [(qo2, .inr (9, [.ref qo10, .ref qo11, .ref qo12, .int 1, .ref qo13, .ref qo14, .ref qo15, .ref qo16, .ref qo17, .int 32, .int 0, .int 0, .int (-1)])), (qo10, .inl (co2, 3001, .inl fk)), (qo11, .inl (co3, 3001, .inl fp))] U.heap ∧ va_K (dC, dI) vwCl [(co2, .int), (co3, .int)] U ∧ va_D (fun _ => True) [(qo2, .inr (9, [.ref qo10, .ref qo11, .ref qo12, .int 1, .ref qo13, .ref qo14, .ref qo15, .ref qo16, .ref qo17, .int 32, .int 0, .int 0, .int (-1)])), (qo10, .inl (co2, 3001, .inl fk)), (qo11, .inl (co3, 3001, .inl fp))])) (va_Qv (fun (u : Unit) => match u with | () => True) (fun (u : Unit) (t : State) => match u with | () => va_P (dC, dI) vwCl [(qo2, .inr (9, [.ref qo10, .ref qo11, .ref qo12, .int 1, .ref qo13, .ref qo14, .ref qo15, .ref qo16, .ref qo17, .int 32, .int 0, .int 2, .int 0]))] t.heap ∧ va_K (dC, dI) vwCl [] t ∧ va_D (va_A [(qo2, .inr (9, [.ref qo10, .ref qo11, .ref qo12, .int 1, .ref qo13, .ref qo14, .ref qo15, .ref qo16, .ref qo17, .int 32, .int 0, .int 0, .int (-1)])), (qo10, .inl (co2, 3001, .inl fk)), (qo11, .inl (co3, 3001, .inl fp))] sz) [(qo2, .inr (9, [.ref qo10, .ref qo11, .ref qo12, .int 1, .ref qo13, .ref qo14, .ref qo15, .ref qo16, .ref qo17, .int 32, .int 0, .int 2, .int 0]))]) (va_A [(qo2, .inr (9, [.ref qo10, .ref qo11, .ref qo12, .int 1, .ref qo13, .ref qo14, .ref qo15, .ref qo16, .ref qo17, .int 32, .int 0, .int 0, .int (-1)])), (qo10, .inl (co2, 3001, .inl fk)), (qo11, .inl (co3, 3001, .inl fp))] sz)) 0 0 (va_A [(qo2, .inr (9, [.ref qo10, .ref qo11, .ref qo12, .int 1, .ref qo13, .ref qo14, .ref qo15, .ref qo16, .ref qo17, .int 32, .int 0, .int 0, .int (-1)])), (qo10, .inl (co2, 3001, .inl fk)), (qo11, .inl (co3, 3001, .inl fp))] sz) := by
  refine Met.ofW (cc := cX9_tellHere) (maxL := 2) (ret := none) (by decide) rfl ?_
  intro p e s m args below meth c s₁ B hml hv
  obtain ⟨rfl, hsz, hP, hK, hD0⟩ := hv
  have hx := B.exec
  have hb := B.bytes
  have hr := B.returns
  have hts := atoms_spec (ws := (.code yX9_tellHere cX9_tellHere 2 none :: VS_k1)) B.pre
  replace hts := fun w (h : w ∈ VS_k1) => hts w (List.mem_cons_of_mem _ h)
  have hown : s.vm.findClass RX9 = some m.cls := findClass_of_methodNamed B.named
  have hlocks := B.notSynchronized
  subst hsz
  have hD := hD0.self (sz := s.heap.size)
  generalize hAe : va_A [(qo2, .inr (9, [.ref qo10, .ref qo11, .ref qo12, .int 1, .ref qo13, .ref qo14, .ref qo15, .ref qo16, .ref qo17, .int 32, .int 0, .int 0, .int (-1)])), (qo10, .inl (co2, 3001, .inl fk)), (qo11, .inl (co3, 3001, .inl fp))] s.heap.size = A at hD  ⊢
  have hA : ∀ q : Nat, s.heap.size ≤ q → A q := fun q h => by rw [← hAe]; exact Or.inr h
  have hP : va_P (dC, dI) vwCl [(qo2, .inr (9, [.ref qo10, .ref qo11, .ref qo12, .int 1, .ref qo13, .ref qo14, .ref qo15, .ref qo16, .ref qo17, .int 32, .int 0, .int 0, .int (-1)])), (qo10, .inl (co2, 3001, .inl fk)), (qo11, .inl (co3, 3001, .inl fp))] s.heap := hP
  have hl := lv_entry ([.ref qo2, .int 2]) (n := 2) (Nat.le_of_ble_eq_true rfl)
  rw [lg_entry_eq]
  generalize (lg_sl ([.ref qo2, .int 2]) ++ List.replicate (2 - (lg_sl ([.ref qo2, .int 2])).length) Slot.unset).toArray = ls at hl ⊢
  have hl : lv_has ls 2 [(0, .ref qo2), (1, .int 2)] := hl
  obtain ⟨H, hH⟩ : ∃ H : Heap, s.heap = H := ⟨_, rfl⟩
  rw [hH] at hP ⊢
  have hS : va_S A s.heap H [] := by rw [← hH]; exact va_S.rf
  obtain ⟨locs, hlo⟩ : ∃ locs : List Loc, locs = [] := ⟨_, rfl⟩
  rw [← hlo] at hS ⊢
  refine lv_aload_n hx hb dX9_tellHere_0 rfl (lv_at hl 0 rfl) ?_
  refine va_get (D := (dC, dI)) (ci := 9) (v := .int 0) (C := RX9) (T := TX9) (N := 13) hx hb hts uV_k1_X9 hown hK hP 0 rfl rfl 11 (by decide) (hts (.fieldLink RX9 80 "ClassMill$Text" "fault" "I") mw_k1_175) (fun _ h9 => h9) rfl dX9_tellHere_1 ?_
  refine lv_if_ne (tgt := 60) hx hb dX9_tellHere_4 (by decide) (fun c_1 => (show False by revert c_1; decide).elim) (fun c_1 => ?_)
  refine lv_aload_n hx hb dX9_tellHere_7 rfl (lv_at hl 0 rfl) ?_
  refine va_get (D := (dC, dI)) (ci := 9) (v := .int 0) (C := RX9) (T := TX9) (N := 13) hx hb hts uV_k1_X9 hown hK hP 0 rfl rfl 10 (by decide) (hts (.fieldLink RX9 86 "ClassMill$Text" "pos" "I") mw_k1_174) (fun _ h9 => h9) rfl dX9_tellHere_8 ?_
  refine lv_if_lt (tgt := 60) hx hb dX9_tellHere_11 (by decide) (fun c_2 => (show False by revert c_2; decide).elim) (fun c_2 => ?_)
  refine lv_aload_n hx hb dX9_tellHere_14 rfl (lv_at hl 0 rfl) ?_
  refine va_get (D := (dC, dI)) (ci := 9) (v := .int 0) (C := RX9) (T := TX9) (N := 13) hx hb hts uV_k1_X9 hown hK hP 0 rfl rfl 10 (by decide) (hts (.fieldLink RX9 86 "ClassMill$Text" "pos" "I") mw_k1_174) (fun _ h9 => h9) rfl dX9_tellHere_15 ?_
  refine lv_aload_n hx hb dX9_tellHere_18 rfl (lv_at hl 0 rfl) ?_
  refine va_get (D := (dC, dI)) (ci := 9) (v := .int 1) (C := RX9) (T := TX9) (N := 13) hx hb hts uV_k1_X9 hown hK hP 0 rfl rfl 3 (by decide) (hts (.fieldLink RX9 83 "ClassMill$Text" "count" "I") mw_k1_155) (fun _ h9 => h9) rfl dX9_tellHere_19 ?_
  refine lv_icmp_ge (tgt := 60) hx hb dX9_tellHere_22 (by decide) (fun c_3 => (show False by revert c_3; decide).elim) (fun c_3 => ?_)
  refine lv_aload_n hx hb dX9_tellHere_25 rfl (lv_at hl 0 rfl) ?_
  refine lv_aload_n hx hb dX9_tellHere_26 rfl (lv_at hl 0 rfl) ?_
  refine va_get (D := (dC, dI)) (ci := 9) (v := .ref qo10) (C := RX9) (T := TX9) (N := 13) hx hb hts uV_k1_X9 hown hK hP 0 rfl rfl 0 (by decide) (hts (.fieldLink RX9 15 "ClassMill$Text" "kinds" "[I") mw_k1_156) (fun _ h9 => h9) rfl dX9_tellHere_27 ?_
  refine lv_aload_n hx hb dX9_tellHere_30 rfl (lv_at hl 0 rfl) ?_
  refine va_get (D := (dC, dI)) (ci := 9) (v := .int 0) (C := RX9) (T := TX9) (N := 13) hx hb hts uV_k1_X9 hown hK hP 0 rfl rfl 10 (by decide) (hts (.fieldLink RX9 86 "ClassMill$Text" "pos" "I") mw_k1_174) (fun _ h9 => h9) rfl dX9_tellHere_31 ?_
  refine va_iald hx hb hK hP 1 0 rfl rfl (i := 0) (by unfold vp_in; decide) dX9_tellHere_34 ?_
  refine lv_topi (fun y_4 ey_4 => ?_)
  obtain rfl : y_4 = 0 := by rw [ey_4]; exact hk0
  refine lv_iconst (v := 1) hx hb dX9_tellHere_35 (by decide) ?_
  refine lv_icmp_ne (tgt := 43) hx hb dX9_tellHere_36 (by decide) (fun c_5 => ?_) (fun c_5 => (show False by revert c_5; decide).elim)
  refine lv_iload_n hx hb dX9_tellHere_43 rfl (lv_at hl 1 rfl) ?_
  refine va_put (D := (dC, dI)) (ci := 9) (v := .int 2) (ty := .int) (C := RX9) (T := TX9) (N := 13) hx hb hts uV_k1_X9 tyX9 tyX9_ok nmX9 hown hK hP hD hS 0 rfl rfl 11 (by decide) (hts (.fieldLink RX9 80 "ClassMill$Text" "fault" "I") mw_k1_175) (fun _ h9 => h9) rfl (by decide +kernel) rfl rfl (Nat.le_of_ble_eq_true rfl) dX9_tellHere_44 ?_
  clear hP hD hS
  intro H locs hP hD hS
  replace hP : va_P (dC, dI) vwCl [(qo2, .inr (9, [.ref qo10, .ref qo11, .ref qo12, .int 1, .ref qo13, .ref qo14, .ref qo15, .ref qo16, .ref qo17, .int 32, .int 0, .int 2, .int (-1)])), (qo10, .inl (co2, 3001, .inl fk)), (qo11, .inl (co3, 3001, .inl fp))] H := hP
  replace hD : va_D A [(qo2, .inr (9, [.ref qo10, .ref qo11, .ref qo12, .int 1, .ref qo13, .ref qo14, .ref qo15, .ref qo16, .ref qo17, .int 32, .int 0, .int 2, .int (-1)])), (qo10, .inl (co2, 3001, .inl fk)), (qo11, .inl (co3, 3001, .inl fp))] := hD
  refine lv_aload_n hx hb dX9_tellHere_47 rfl (lv_at hl 0 rfl) ?_
  refine lv_aload_n hx hb dX9_tellHere_48 rfl (lv_at hl 0 rfl) ?_
  refine va_get (D := (dC, dI)) (ci := 9) (v := .ref qo11) (C := RX9) (T := TX9) (N := 13) hx hb hts uV_k1_X9 hown hK hP 0 rfl rfl 1 (by decide) (hts (.fieldLink RX9 19 "ClassMill$Text" "places" "[I") mw_k1_157) (fun _ h9 => h9) rfl dX9_tellHere_49 ?_
  refine lv_aload_n hx hb dX9_tellHere_52 rfl (lv_at hl 0 rfl) ?_
  refine va_get (D := (dC, dI)) (ci := 9) (v := .int 0) (C := RX9) (T := TX9) (N := 13) hx hb hts uV_k1_X9 hown hK hP 0 rfl rfl 10 (by decide) (hts (.fieldLink RX9 86 "ClassMill$Text" "pos" "I") mw_k1_174) (fun _ h9 => h9) rfl dX9_tellHere_53 ?_
  refine va_iald hx hb hK hP 2 1 rfl rfl (i := 0) (by unfold vp_in; decide) dX9_tellHere_56 ?_
  refine lv_topi (fun y_6 ey_6 => ?_)
  obtain rfl : y_6 = 0 := by rw [ey_6]; exact hp0
  refine va_put (D := (dC, dI)) (ci := 9) (v := .int 0) (ty := .int) (C := RX9) (T := TX9) (N := 13) hx hb hts uV_k1_X9 tyX9 tyX9_ok nmX9 hown hK hP hD hS 0 rfl rfl 12 (by decide) (hts (.fieldLink RX9 41 "ClassMill$Text" "place" "I") mw_k1_176) (fun _ h9 => h9) rfl (by decide +kernel) rfl rfl (Nat.le_of_ble_eq_true rfl) dX9_tellHere_57 ?_
  clear hP hD hS
  intro H locs hP hD hS
  replace hP : va_P (dC, dI) vwCl [(qo2, .inr (9, [.ref qo10, .ref qo11, .ref qo12, .int 1, .ref qo13, .ref qo14, .ref qo15, .ref qo16, .ref qo17, .int 32, .int 0, .int 2, .int 0])), (qo10, .inl (co2, 3001, .inl fk)), (qo11, .inl (co3, 3001, .inl fp))] H := hP
  replace hD : va_D A [(qo2, .inr (9, [.ref qo10, .ref qo11, .ref qo12, .int 1, .ref qo13, .ref qo14, .ref qo15, .ref qo16, .ref qo17, .int 32, .int 0, .int 2, .int 0])), (qo10, .inl (co2, 3001, .inl fk)), (qo11, .inl (co3, 3001, .inl fp))] := hD
  have hP9 := hP.sub (ws' := [(qo2, .inr (9, [.ref qo10, .ref qo11, .ref qo12, .int 1, .ref qo13, .ref qo14, .ref qo15, .ref qo16, .ref qo17, .int 32, .int 0, .int 2, .int 0]))]) [0] rfl
  have hD9 := hD.sub (ws' := [(qo2, .inr (9, [.ref qo10, .ref qo11, .ref qo12, .int 1, .ref qo13, .ref qo14, .ref qo15, .ref qo16, .ref qo17, .int 32, .int 0, .int 2, .int 0]))]) [0] (by decide) rfl
  have hK9 := hK.sub (tys' := []) [] rfl
  exact W.vret hx hb hr (fun t ht hW => ⟨⟨(), rfl, trivial, by rw [ht]; exact hP9, va_K.moved hW.alike hK9, hD9⟩, hS.F ht⟩) hS.2.2 dX9_tellHere_60
set_option maxHeartbeats 4000000 in
set_option maxRecDepth 100000 in
/-- kk_tellHere2 -/
theorem kk_tellHere2 (l : Launch) (dC : Nat → ClassId) (dI : Nat → Nat → Nat) (sz : Nat) (qo2 : Nat) (qo10 : Nat) (qo11 : Nat) (qo12 : Nat) (qo13 : Nat) (qo14 : Nat) (qo15 : Nat) (qo16 : Nat) (qo17 : Nat)  : Met l yX9_tellHere (.code yX9_tellHere cX9_tellHere 2 none :: VS_k1) ({ frames := 0, cells := 0, slots := 0, locals := 0 }) (va_Pc [.ref qo2, .int 2] (fun U => U.heap.size = sz ∧ va_P (dC, dI) vwCl [(qo2, .inr (9, [.ref qo10, .ref qo11, .ref qo12, .int 1, .ref qo13, .ref qo14, .ref qo15, .ref qo16, .ref qo17, .int 32, .int 0, .int 2, .int 0]))] U.heap ∧ va_K (dC, dI) vwCl [] U ∧ va_D (fun _ => True) [(qo2, .inr (9, [.ref qo10, .ref qo11, .ref qo12, .int 1, .ref qo13, .ref qo14, .ref qo15, .ref qo16, .ref qo17, .int 32, .int 0, .int 2, .int 0]))])) (va_Qv (fun (u : Unit) => match u with | () => True) (fun (u : Unit) (t : State) => match u with | () => va_P (dC, dI) vwCl [(qo2, .inr (9, [.ref qo10, .ref qo11, .ref qo12, .int 1, .ref qo13, .ref qo14, .ref qo15, .ref qo16, .ref qo17, .int 32, .int 0, .int 2, .int 0]))] t.heap ∧ va_K (dC, dI) vwCl [] t ∧ va_D (va_A [(qo2, .inr (9, [.ref qo10, .ref qo11, .ref qo12, .int 1, .ref qo13, .ref qo14, .ref qo15, .ref qo16, .ref qo17, .int 32, .int 0, .int 2, .int 0]))] sz) [(qo2, .inr (9, [.ref qo10, .ref qo11, .ref qo12, .int 1, .ref qo13, .ref qo14, .ref qo15, .ref qo16, .ref qo17, .int 32, .int 0, .int 2, .int 0]))]) (va_A [(qo2, .inr (9, [.ref qo10, .ref qo11, .ref qo12, .int 1, .ref qo13, .ref qo14, .ref qo15, .ref qo16, .ref qo17, .int 32, .int 0, .int 2, .int 0]))] sz)) 0 0 (va_A [(qo2, .inr (9, [.ref qo10, .ref qo11, .ref qo12, .int 1, .ref qo13, .ref qo14, .ref qo15, .ref qo16, .ref qo17, .int 32, .int 0, .int 2, .int 0]))] sz) := by
  refine Met.ofW (cc := cX9_tellHere) (maxL := 2) (ret := none) (by decide) rfl ?_
  intro p e s m args below meth c s₁ B hml hv
  obtain ⟨rfl, hsz, hP, hK, hD0⟩ := hv
  have hx := B.exec
  have hb := B.bytes
  have hr := B.returns
  have hts := atoms_spec (ws := (.code yX9_tellHere cX9_tellHere 2 none :: VS_k1)) B.pre
  replace hts := fun w (h : w ∈ VS_k1) => hts w (List.mem_cons_of_mem _ h)
  have hown : s.vm.findClass RX9 = some m.cls := findClass_of_methodNamed B.named
  have hlocks := B.notSynchronized
  subst hsz
  have hD := hD0.self (sz := s.heap.size)
  generalize hAe : va_A [(qo2, .inr (9, [.ref qo10, .ref qo11, .ref qo12, .int 1, .ref qo13, .ref qo14, .ref qo15, .ref qo16, .ref qo17, .int 32, .int 0, .int 2, .int 0]))] s.heap.size = A at hD  ⊢
  have hA : ∀ q : Nat, s.heap.size ≤ q → A q := fun q h => by rw [← hAe]; exact Or.inr h
  have hP : va_P (dC, dI) vwCl [(qo2, .inr (9, [.ref qo10, .ref qo11, .ref qo12, .int 1, .ref qo13, .ref qo14, .ref qo15, .ref qo16, .ref qo17, .int 32, .int 0, .int 2, .int 0]))] s.heap := hP
  have hl := lv_entry ([.ref qo2, .int 2]) (n := 2) (Nat.le_of_ble_eq_true rfl)
  rw [lg_entry_eq]
  generalize (lg_sl ([.ref qo2, .int 2]) ++ List.replicate (2 - (lg_sl ([.ref qo2, .int 2])).length) Slot.unset).toArray = ls at hl ⊢
  have hl : lv_has ls 2 [(0, .ref qo2), (1, .int 2)] := hl
  obtain ⟨H, hH⟩ : ∃ H : Heap, s.heap = H := ⟨_, rfl⟩
  rw [hH] at hP ⊢
  have hS : va_S A s.heap H [] := by rw [← hH]; exact va_S.rf
  obtain ⟨locs, hlo⟩ : ∃ locs : List Loc, locs = [] := ⟨_, rfl⟩
  rw [← hlo] at hS ⊢
  refine lv_aload_n hx hb dX9_tellHere_0 rfl (lv_at hl 0 rfl) ?_
  refine va_get (D := (dC, dI)) (ci := 9) (v := .int 2) (C := RX9) (T := TX9) (N := 13) hx hb hts uV_k1_X9 hown hK hP 0 rfl rfl 11 (by decide) (hts (.fieldLink RX9 80 "ClassMill$Text" "fault" "I") mw_k1_175) (fun _ h9 => h9) rfl dX9_tellHere_1 ?_
  refine lv_if_ne (tgt := 60) hx hb dX9_tellHere_4 (by decide) (fun c_1 => ?_) (fun c_1 => (show False by revert c_1; decide).elim)
  have hP9 := hP.sub (ws' := [(qo2, .inr (9, [.ref qo10, .ref qo11, .ref qo12, .int 1, .ref qo13, .ref qo14, .ref qo15, .ref qo16, .ref qo17, .int 32, .int 0, .int 2, .int 0]))]) [0] rfl
  have hD9 := hD.sub (ws' := [(qo2, .inr (9, [.ref qo10, .ref qo11, .ref qo12, .int 1, .ref qo13, .ref qo14, .ref qo15, .ref qo16, .ref qo17, .int 32, .int 0, .int 2, .int 0]))]) [0] (by decide) rfl
  have hK9 := hK.sub (tys' := []) [] rfl
  exact W.vret hx hb hr (fun t ht hW => ⟨⟨(), rfl, trivial, by rw [ht]; exact hP9, va_K.moved hW.alike hK9, hD9⟩, hS.F ht⟩) hS.2.2 dX9_tellHere_60
set_option maxHeartbeats 4000000 in
set_option maxRecDepth 100000 in
/-- kk_need0 -/
theorem kk_need0 (l : Launch) (dC : Nat → ClassId) (dI : Nat → Nat → Nat) (sz : Nat) (qo3 : Nat) (qo2 : Nat) (qo4 : Nat) (qo10 : Nat) (qo11 : Nat) (qo12 : Nat) (qo13 : Nat) (qo14 : Nat) (qo15 : Nat) (qo16 : Nat) (qo17 : Nat) (co2 : ClassId) (fk : (Nat → Int32)) (co3 : ClassId) (fp : (Nat → Int32)) (hk0 : fk 0 = 0) (hp0 : fp 0 = 0) : Met l yX8_need (.code yX8_need cX8_need 2 none :: VS_k1) ({ frames := 1, cells := 0, slots := 0, locals := 21 }) (va_Pc [.ref qo3, .int 13] (fun U => U.heap.size = sz ∧ va_P (dC, dI) vwCl [(qo3, .inr (8, [.ref qo2, .ref qo4])), (qo2, .inr (9, [.ref qo10, .ref qo11, .ref qo12, .int 1, .ref qo13, .ref qo14, .ref qo15, .ref qo16, .ref qo17, .int 32, .int 0, .int 0, .int (-1)])), (qo10, .inl (co2, 3001, .inl fk)), (qo11, .inl (co3, 3001, .inl fp))] U.heap ∧ va_K (dC, dI) vwCl [(co2, .int), (co3, .int)] U ∧ va_D (fun _ => True) [(qo3, .inr (8, [.ref qo2, .ref qo4])), (qo2, .inr (9, [.ref qo10, .ref qo11, .ref qo12, .int 1, .ref qo13, .ref qo14, .ref qo15, .ref qo16, .ref qo17, .int 32, .int 0, .int 0, .int (-1)])), (qo10, .inl (co2, 3001, .inl fk)), (qo11, .inl (co3, 3001, .inl fp))])) (va_Qv (fun (u : Unit) => match u with | () => True) (fun (u : Unit) (t : State) => match u with | () => va_P (dC, dI) vwCl [(qo3, .inr (8, [.ref qo2, .ref qo4])), (qo2, .inr (9, [.ref qo10, .ref qo11, .ref qo12, .int 1, .ref qo13, .ref qo14, .ref qo15, .ref qo16, .ref qo17, .int 32, .int 0, .int 2, .int 0]))] t.heap ∧ va_K (dC, dI) vwCl [] t ∧ va_D (va_A [(qo3, .inr (8, [.ref qo2, .ref qo4])), (qo2, .inr (9, [.ref qo10, .ref qo11, .ref qo12, .int 1, .ref qo13, .ref qo14, .ref qo15, .ref qo16, .ref qo17, .int 32, .int 0, .int 0, .int (-1)])), (qo10, .inl (co2, 3001, .inl fk)), (qo11, .inl (co3, 3001, .inl fp))] sz) [(qo3, .inr (8, [.ref qo2, .ref qo4])), (qo2, .inr (9, [.ref qo10, .ref qo11, .ref qo12, .int 1, .ref qo13, .ref qo14, .ref qo15, .ref qo16, .ref qo17, .int 32, .int 0, .int 2, .int 0]))]) (va_A [(qo3, .inr (8, [.ref qo2, .ref qo4])), (qo2, .inr (9, [.ref qo10, .ref qo11, .ref qo12, .int 1, .ref qo13, .ref qo14, .ref qo15, .ref qo16, .ref qo17, .int 32, .int 0, .int 0, .int (-1)])), (qo10, .inl (co2, 3001, .inl fk)), (qo11, .inl (co3, 3001, .inl fp))] sz)) 0 0 (va_A [(qo3, .inr (8, [.ref qo2, .ref qo4])), (qo2, .inr (9, [.ref qo10, .ref qo11, .ref qo12, .int 1, .ref qo13, .ref qo14, .ref qo15, .ref qo16, .ref qo17, .int 32, .int 0, .int 0, .int (-1)])), (qo10, .inl (co2, 3001, .inl fk)), (qo11, .inl (co3, 3001, .inl fp))] sz) := by
  refine Met.ofW (cc := cX8_need) (maxL := 2) (ret := none) (by decide) rfl ?_
  intro p e s m args below meth c s₁ B hml hv
  obtain ⟨rfl, hsz, hP, hK, hD0⟩ := hv
  have hx := B.exec
  have hb := B.bytes
  have hr := B.returns
  have hts := atoms_spec (ws := (.code yX8_need cX8_need 2 none :: VS_k1)) B.pre
  replace hts := fun w (h : w ∈ VS_k1) => hts w (List.mem_cons_of_mem _ h)
  have hown : s.vm.findClass RX8 = some m.cls := findClass_of_methodNamed B.named
  have hlocks := B.notSynchronized
  subst hsz
  have hD := hD0.self (sz := s.heap.size)
  generalize hAe : va_A [(qo3, .inr (8, [.ref qo2, .ref qo4])), (qo2, .inr (9, [.ref qo10, .ref qo11, .ref qo12, .int 1, .ref qo13, .ref qo14, .ref qo15, .ref qo16, .ref qo17, .int 32, .int 0, .int 0, .int (-1)])), (qo10, .inl (co2, 3001, .inl fk)), (qo11, .inl (co3, 3001, .inl fp))] s.heap.size = A at hD  ⊢
  have hA : ∀ q : Nat, s.heap.size ≤ q → A q := fun q h => by rw [← hAe]; exact Or.inr h
  have hP : va_P (dC, dI) vwCl [(qo3, .inr (8, [.ref qo2, .ref qo4])), (qo2, .inr (9, [.ref qo10, .ref qo11, .ref qo12, .int 1, .ref qo13, .ref qo14, .ref qo15, .ref qo16, .ref qo17, .int 32, .int 0, .int 0, .int (-1)])), (qo10, .inl (co2, 3001, .inl fk)), (qo11, .inl (co3, 3001, .inl fp))] s.heap := hP
  have hl := lv_entry ([.ref qo3, .int 13]) (n := 2) (Nat.le_of_ble_eq_true rfl)
  rw [lg_entry_eq]
  generalize (lg_sl ([.ref qo3, .int 13]) ++ List.replicate (2 - (lg_sl ([.ref qo3, .int 13])).length) Slot.unset).toArray = ls at hl ⊢
  have hl : lv_has ls 2 [(0, .ref qo3), (1, .int 13)] := hl
  obtain ⟨H, hH⟩ : ∃ H : Heap, s.heap = H := ⟨_, rfl⟩
  rw [hH] at hP ⊢
  have hS : va_S A s.heap H [] := by rw [← hH]; exact va_S.rf
  obtain ⟨locs, hlo⟩ : ∃ locs : List Loc, locs = [] := ⟨_, rfl⟩
  rw [← hlo] at hS ⊢
  refine lv_aload_n hx hb dX8_need_0 rfl (lv_at hl 0 rfl) ?_
  refine va_get (D := (dC, dI)) (ci := 8) (v := .ref qo2) (C := RX8) (T := TX8) (N := 2) hx hb hts uV_k1_X8 hown hK hP 0 rfl rfl 0 (by decide) (hts (.fieldLink RX8 7 "ClassMill$Syntax" "text" "LClassMill$Text;") mw_k1_193) (fun _ h9 => h9) rfl dX8_need_1 ?_
  have hPc := hP.sub (ws' := [(qo2, .inr (9, [.ref qo10, .ref qo11, .ref qo12, .int 1, .ref qo13, .ref qo14, .ref qo15, .ref qo16, .ref qo17, .int 32, .int 0, .int 0, .int (-1)])), (qo10, .inl (co2, 3001, .inl fk))]) [1, 2] rfl
  have hDc := hD.sub (ws' := [(qo2, .inr (9, [.ref qo10, .ref qo11, .ref qo12, .int 1, .ref qo13, .ref qo14, .ref qo15, .ref qo16, .ref qo17, .int 32, .int 0, .int 0, .int (-1)])), (qo10, .inl (co2, 3001, .inl fk))]) [1, 2] (by decide) rfl
  have hKc := hK.sub (tys' := [(co2, .int)]) [0] rfl
  have hFc := va_free (wc := [(qo2, .inr (9, [.ref qo10, .ref qo11, .ref qo12, .int 1, .ref qo13, .ref qo14, .ref qo15, .ref qo16, .ref qo17, .int 32, .int 0, .int 0, .int (-1)])), (qo10, .inl (co2, 3001, .inl fk))]) hD hS hA [1, 2] rfl
  refine va_calli (va_runV (As := []) (rest := []) ⟨hx, hb, hml, hown, hts⟩ (kk_kind0 l dC dI H.size qo2 qo10 qo11 qo12 qo13 qo14 qo15 qo16 qo17 co2 fk hk0) (cwV 0 hts gv_k1_40 rfl rfl rfl (by decide +kernel) ⟨Nat.le_of_ble_eq_true rfl, Nat.le_of_ble_eq_true rfl⟩) ⟨fun a U g mk q => by obtain ⟨q0, q1, qP, qK, qD⟩ := q; exact ⟨q0, q1, qP, va_K.moved (u := U) (U := U.calling g mk a) (Vm.Alike.refl U.vm) qK, qD⟩, va_recv hKc hPc (ci := 9) (q0 := 0) rfl rfl, fun U hU hW => ⟨rfl, by rw [hU], by rw [hU]; exact hPc, va_K.moved hW.alike hKc, hDc.weaken (fun _ _ _ _ => trivial)⟩⟩ rfl rfl hl.1 rfl (lv_room (Nat.le_of_ble_eq_true rfl)) dX8_need_4 ⟨Nat.le_of_ble_eq_true rfl, Nat.le_of_ble_eq_true rfl⟩) hS (fun q _ h => hFc q h) hFc ?_
  clear hS
  intro r_1 u t H1 locs ht hvm hw hB hz1 hk1 hS
  obtain ⟨⟩ := u
  obtain ⟨hP1, hK1, hD1⟩ := hB
  rw [ht] at hP1
  have hK1 := va_K.moved hvm.symm hK1
  try dsimp only at hw
  have hPD := va_join (wr := [(qo3, .inr (8, [.ref qo2, .ref qo4])), (qo11, .inl (co3, 3001, .inl fp))]) (w1 := [(qo2, .inr (9, [.ref qo10, .ref qo11, .ref qo12, .int 1, .ref qo13, .ref qo14, .ref qo15, .ref qo16, .ref qo17, .int 32, .int 0, .int 0, .int (-1)])), (qo10, .inl (co2, 3001, .inl fk))]) hP hD [1, 2] [0, 3] rfl rfl (by decide) (by decide) hk1 hFc hP1 hD1
  clear hP hD
  obtain ⟨hP, hD⟩ := hPD
  replace hK := (hK.sub (tys' := [(co3, .int)]) [1] rfl).app hK1
  clear hPc hDc hKc hFc hP1 hK1 hD1 hz1 hk1 ht hvm
  generalize H1 = H at hP hS ⊢
  replace hP : va_P (dC, dI) vwCl [(qo3, .inr (8, [.ref qo2, .ref qo4])), (qo11, .inl (co3, 3001, .inl fp)), (qo2, .inr (9, [.ref qo10, .ref qo11, .ref qo12, .int 1, .ref qo13, .ref qo14, .ref qo15, .ref qo16, .ref qo17, .int 32, .int 0, .int 0, .int (-1)])), (qo10, .inl (co2, 3001, .inl fk))] H := hP
  replace hD : va_D A [(qo3, .inr (8, [.ref qo2, .ref qo4])), (qo11, .inl (co3, 3001, .inl fp)), (qo2, .inr (9, [.ref qo10, .ref qo11, .ref qo12, .int 1, .ref qo13, .ref qo14, .ref qo15, .ref qo16, .ref qo17, .int 32, .int 0, .int 0, .int (-1)])), (qo10, .inl (co2, 3001, .inl fk))] := hD
  replace hK : va_K (dC, dI) vwCl [(co3, .int), (co2, .int)] s := hK
  subst hw
  refine lv_iload_n hx hb dX8_need_7 rfl (lv_at hl 1 rfl) ?_
  refine lv_icmp_ne (tgt := 27) hx hb dX8_need_8 (by decide) (fun c_2 => ?_) (fun c_2 => (show False by revert c_2; decide).elim)
  refine lv_aload_n hx hb dX8_need_27 rfl (lv_at hl 0 rfl) ?_
  refine va_get (D := (dC, dI)) (ci := 8) (v := .ref qo2) (C := RX8) (T := TX8) (N := 2) hx hb hts uV_k1_X8 hown hK hP 0 rfl rfl 0 (by decide) (hts (.fieldLink RX8 7 "ClassMill$Syntax" "text" "LClassMill$Text;") mw_k1_193) (fun _ h9 => h9) rfl dX8_need_28 ?_
  refine lv_iconst (v := 2) hx hb dX8_need_31 (by decide) ?_
  have hPc := hP.sub (ws' := [(qo2, .inr (9, [.ref qo10, .ref qo11, .ref qo12, .int 1, .ref qo13, .ref qo14, .ref qo15, .ref qo16, .ref qo17, .int 32, .int 0, .int 0, .int (-1)])), (qo10, .inl (co2, 3001, .inl fk)), (qo11, .inl (co3, 3001, .inl fp))]) [2, 3, 1] rfl
  have hDc := hD.sub (ws' := [(qo2, .inr (9, [.ref qo10, .ref qo11, .ref qo12, .int 1, .ref qo13, .ref qo14, .ref qo15, .ref qo16, .ref qo17, .int 32, .int 0, .int 0, .int (-1)])), (qo10, .inl (co2, 3001, .inl fk)), (qo11, .inl (co3, 3001, .inl fp))]) [2, 3, 1] (by decide) rfl
  have hKc := hK.sub (tys' := [(co2, .int), (co3, .int)]) [1, 0] rfl
  have hFc := va_free (wc := [(qo2, .inr (9, [.ref qo10, .ref qo11, .ref qo12, .int 1, .ref qo13, .ref qo14, .ref qo15, .ref qo16, .ref qo17, .int 32, .int 0, .int 0, .int (-1)])), (qo10, .inl (co2, 3001, .inl fk)), (qo11, .inl (co3, 3001, .inl fp))]) hD hS hA [2, 3, 1] rfl
  refine va_callv (va_runV (As := [.int 2]) (rest := []) ⟨hx, hb, hml, hown, hts⟩ (kk_tellHere0 l dC dI H.size qo2 qo10 qo11 qo12 qo13 qo14 qo15 qo16 qo17 co2 fk co3 fp hk0 hp0) (cwV 1 hts gv_k1_41 rfl rfl rfl (by decide +kernel) ⟨Nat.le_of_ble_eq_true rfl, Nat.le_of_ble_eq_true rfl⟩) ⟨fun a U g mk q => by obtain ⟨q0, q1, qP, qK, qD⟩ := q; exact ⟨q0, q1, qP, va_K.moved (u := U) (U := U.calling g mk a) (Vm.Alike.refl U.vm) qK, qD⟩, va_recv hKc hPc (ci := 9) (q0 := 0) rfl rfl, fun U hU hW => ⟨rfl, by rw [hU], by rw [hU]; exact hPc, va_K.moved hW.alike hKc, hDc.weaken (fun _ _ _ _ => trivial)⟩⟩ rfl rfl hl.1 rfl (lv_room (Nat.le_of_ble_eq_true rfl)) dX8_need_32 ⟨Nat.le_of_ble_eq_true rfl, Nat.le_of_ble_eq_true rfl⟩) hS (fun q _ h => hFc q h) hFc ?_
  clear hS
  intro u t H1 locs ht hvm hw hB hz1 hk1 hS
  obtain ⟨⟩ := u
  obtain ⟨hP1, hK1, hD1⟩ := hB
  rw [ht] at hP1
  have hK1 := va_K.moved hvm.symm hK1
  try dsimp only at hw
  have hPD := va_join (wr := [(qo3, .inr (8, [.ref qo2, .ref qo4]))]) (w1 := [(qo2, .inr (9, [.ref qo10, .ref qo11, .ref qo12, .int 1, .ref qo13, .ref qo14, .ref qo15, .ref qo16, .ref qo17, .int 32, .int 0, .int 2, .int 0]))]) hP hD [2, 3, 1] [0] rfl rfl (by decide) (by decide) hk1 hFc hP1 hD1
  clear hP hD
  obtain ⟨hP, hD⟩ := hPD
  replace hK := (hK.sub (tys' := []) [] rfl).app hK1
  clear hPc hDc hKc hFc hP1 hK1 hD1 hz1 hk1 ht hvm
  generalize H1 = H at hP hS ⊢
  replace hP : va_P (dC, dI) vwCl [(qo3, .inr (8, [.ref qo2, .ref qo4])), (qo2, .inr (9, [.ref qo10, .ref qo11, .ref qo12, .int 1, .ref qo13, .ref qo14, .ref qo15, .ref qo16, .ref qo17, .int 32, .int 0, .int 2, .int 0]))] H := hP
  replace hD : va_D A [(qo3, .inr (8, [.ref qo2, .ref qo4])), (qo2, .inr (9, [.ref qo10, .ref qo11, .ref qo12, .int 1, .ref qo13, .ref qo14, .ref qo15, .ref qo16, .ref qo17, .int 32, .int 0, .int 2, .int 0]))] := hD
  replace hK : va_K (dC, dI) vwCl [] s := hK
  have hP9 := hP.sub (ws' := [(qo3, .inr (8, [.ref qo2, .ref qo4])), (qo2, .inr (9, [.ref qo10, .ref qo11, .ref qo12, .int 1, .ref qo13, .ref qo14, .ref qo15, .ref qo16, .ref qo17, .int 32, .int 0, .int 2, .int 0]))]) [0, 1] rfl
  have hD9 := hD.sub (ws' := [(qo3, .inr (8, [.ref qo2, .ref qo4])), (qo2, .inr (9, [.ref qo10, .ref qo11, .ref qo12, .int 1, .ref qo13, .ref qo14, .ref qo15, .ref qo16, .ref qo17, .int 32, .int 0, .int 2, .int 0]))]) [0, 1] (by decide) rfl
  have hK9 := hK.sub (tys' := []) [] rfl
  exact W.vret hx hb hr (fun t ht hW => ⟨⟨(), rfl, trivial, by rw [ht]; exact hP9, va_K.moved hW.alike hK9, hD9⟩, hS.F ht⟩) hS.2.2 dX8_need_35
set_option maxHeartbeats 4000000 in
set_option maxRecDepth 100000 in
/-- kk_need2_2 -/
theorem kk_need2_2 (l : Launch) (dC : Nat → ClassId) (dI : Nat → Nat → Nat) (sz : Nat) (qo3 : Nat) (qo2 : Nat) (qo4 : Nat) (qo10 : Nat) (qo11 : Nat) (qo12 : Nat) (qo13 : Nat) (qo14 : Nat) (qo15 : Nat) (qo16 : Nat) (qo17 : Nat)  : Met l yX8_need (.code yX8_need cX8_need 2 none :: VS_k1) ({ frames := 1, cells := 0, slots := 0, locals := 21 }) (va_Pc [.ref qo3, .int 2] (fun U => U.heap.size = sz ∧ va_P (dC, dI) vwCl [(qo3, .inr (8, [.ref qo2, .ref qo4])), (qo2, .inr (9, [.ref qo10, .ref qo11, .ref qo12, .int 1, .ref qo13, .ref qo14, .ref qo15, .ref qo16, .ref qo17, .int 32, .int 0, .int 2, .int 0]))] U.heap ∧ va_K (dC, dI) vwCl [] U ∧ va_D (fun _ => True) [(qo3, .inr (8, [.ref qo2, .ref qo4])), (qo2, .inr (9, [.ref qo10, .ref qo11, .ref qo12, .int 1, .ref qo13, .ref qo14, .ref qo15, .ref qo16, .ref qo17, .int 32, .int 0, .int 2, .int 0]))])) (va_Qv (fun (u : Unit) => match u with | () => True) (fun (u : Unit) (t : State) => match u with | () => va_P (dC, dI) vwCl [(qo3, .inr (8, [.ref qo2, .ref qo4])), (qo2, .inr (9, [.ref qo10, .ref qo11, .ref qo12, .int 1, .ref qo13, .ref qo14, .ref qo15, .ref qo16, .ref qo17, .int 32, .int 0, .int 2, .int 0]))] t.heap ∧ va_K (dC, dI) vwCl [] t ∧ va_D (va_A [(qo3, .inr (8, [.ref qo2, .ref qo4])), (qo2, .inr (9, [.ref qo10, .ref qo11, .ref qo12, .int 1, .ref qo13, .ref qo14, .ref qo15, .ref qo16, .ref qo17, .int 32, .int 0, .int 2, .int 0]))] sz) [(qo3, .inr (8, [.ref qo2, .ref qo4])), (qo2, .inr (9, [.ref qo10, .ref qo11, .ref qo12, .int 1, .ref qo13, .ref qo14, .ref qo15, .ref qo16, .ref qo17, .int 32, .int 0, .int 2, .int 0]))]) (va_A [(qo3, .inr (8, [.ref qo2, .ref qo4])), (qo2, .inr (9, [.ref qo10, .ref qo11, .ref qo12, .int 1, .ref qo13, .ref qo14, .ref qo15, .ref qo16, .ref qo17, .int 32, .int 0, .int 2, .int 0]))] sz)) 0 0 (va_A [(qo3, .inr (8, [.ref qo2, .ref qo4])), (qo2, .inr (9, [.ref qo10, .ref qo11, .ref qo12, .int 1, .ref qo13, .ref qo14, .ref qo15, .ref qo16, .ref qo17, .int 32, .int 0, .int 2, .int 0]))] sz) := by
  refine Met.ofW (cc := cX8_need) (maxL := 2) (ret := none) (by decide) rfl ?_
  intro p e s m args below meth c s₁ B hml hv
  obtain ⟨rfl, hsz, hP, hK, hD0⟩ := hv
  have hx := B.exec
  have hb := B.bytes
  have hr := B.returns
  have hts := atoms_spec (ws := (.code yX8_need cX8_need 2 none :: VS_k1)) B.pre
  replace hts := fun w (h : w ∈ VS_k1) => hts w (List.mem_cons_of_mem _ h)
  have hown : s.vm.findClass RX8 = some m.cls := findClass_of_methodNamed B.named
  have hlocks := B.notSynchronized
  subst hsz
  have hD := hD0.self (sz := s.heap.size)
  generalize hAe : va_A [(qo3, .inr (8, [.ref qo2, .ref qo4])), (qo2, .inr (9, [.ref qo10, .ref qo11, .ref qo12, .int 1, .ref qo13, .ref qo14, .ref qo15, .ref qo16, .ref qo17, .int 32, .int 0, .int 2, .int 0]))] s.heap.size = A at hD  ⊢
  have hA : ∀ q : Nat, s.heap.size ≤ q → A q := fun q h => by rw [← hAe]; exact Or.inr h
  have hP : va_P (dC, dI) vwCl [(qo3, .inr (8, [.ref qo2, .ref qo4])), (qo2, .inr (9, [.ref qo10, .ref qo11, .ref qo12, .int 1, .ref qo13, .ref qo14, .ref qo15, .ref qo16, .ref qo17, .int 32, .int 0, .int 2, .int 0]))] s.heap := hP
  have hl := lv_entry ([.ref qo3, .int 2]) (n := 2) (Nat.le_of_ble_eq_true rfl)
  rw [lg_entry_eq]
  generalize (lg_sl ([.ref qo3, .int 2]) ++ List.replicate (2 - (lg_sl ([.ref qo3, .int 2])).length) Slot.unset).toArray = ls at hl ⊢
  have hl : lv_has ls 2 [(0, .ref qo3), (1, .int 2)] := hl
  obtain ⟨H, hH⟩ : ∃ H : Heap, s.heap = H := ⟨_, rfl⟩
  rw [hH] at hP ⊢
  have hS : va_S A s.heap H [] := by rw [← hH]; exact va_S.rf
  obtain ⟨locs, hlo⟩ : ∃ locs : List Loc, locs = [] := ⟨_, rfl⟩
  rw [← hlo] at hS ⊢
  refine lv_aload_n hx hb dX8_need_0 rfl (lv_at hl 0 rfl) ?_
  refine va_get (D := (dC, dI)) (ci := 8) (v := .ref qo2) (C := RX8) (T := TX8) (N := 2) hx hb hts uV_k1_X8 hown hK hP 0 rfl rfl 0 (by decide) (hts (.fieldLink RX8 7 "ClassMill$Syntax" "text" "LClassMill$Text;") mw_k1_193) (fun _ h9 => h9) rfl dX8_need_1 ?_
  have hPc := hP.sub (ws' := [(qo2, .inr (9, [.ref qo10, .ref qo11, .ref qo12, .int 1, .ref qo13, .ref qo14, .ref qo15, .ref qo16, .ref qo17, .int 32, .int 0, .int 2, .int 0]))]) [1] rfl
  have hDc := hD.sub (ws' := [(qo2, .inr (9, [.ref qo10, .ref qo11, .ref qo12, .int 1, .ref qo13, .ref qo14, .ref qo15, .ref qo16, .ref qo17, .int 32, .int 0, .int 2, .int 0]))]) [1] (by decide) rfl
  have hKc := hK.sub (tys' := []) [] rfl
  have hFc := va_free (wc := [(qo2, .inr (9, [.ref qo10, .ref qo11, .ref qo12, .int 1, .ref qo13, .ref qo14, .ref qo15, .ref qo16, .ref qo17, .int 32, .int 0, .int 2, .int 0]))]) hD hS hA [1] rfl
  refine va_calli (va_runV (As := []) (rest := []) ⟨hx, hb, hml, hown, hts⟩ (kk_kind2 l dC dI H.size qo2 qo10 qo11 qo12 qo13 qo14 qo15 qo16 qo17) (cwV 0 hts gv_k1_42 rfl rfl rfl (by decide +kernel) ⟨Nat.le_of_ble_eq_true rfl, Nat.le_of_ble_eq_true rfl⟩) ⟨fun a U g mk q => by obtain ⟨q0, q1, qP, qK, qD⟩ := q; exact ⟨q0, q1, qP, va_K.moved (u := U) (U := U.calling g mk a) (Vm.Alike.refl U.vm) qK, qD⟩, va_recv hKc hPc (ci := 9) (q0 := 0) rfl rfl, fun U hU hW => ⟨rfl, by rw [hU], by rw [hU]; exact hPc, va_K.moved hW.alike hKc, hDc.weaken (fun _ _ _ _ => trivial)⟩⟩ rfl rfl hl.1 rfl (lv_room (Nat.le_of_ble_eq_true rfl)) dX8_need_4 ⟨Nat.le_of_ble_eq_true rfl, Nat.le_of_ble_eq_true rfl⟩) hS (fun q _ h => hFc q h) hFc ?_
  clear hS
  intro r_1 u t H1 locs ht hvm hw hB hz1 hk1 hS
  obtain ⟨⟩ := u
  obtain ⟨hP1, hK1, hD1⟩ := hB
  rw [ht] at hP1
  have hK1 := va_K.moved hvm.symm hK1
  try dsimp only at hw
  have hPD := va_join (wr := [(qo3, .inr (8, [.ref qo2, .ref qo4]))]) (w1 := [(qo2, .inr (9, [.ref qo10, .ref qo11, .ref qo12, .int 1, .ref qo13, .ref qo14, .ref qo15, .ref qo16, .ref qo17, .int 32, .int 0, .int 2, .int 0]))]) hP hD [1] [0] rfl rfl (by decide) (by decide) hk1 hFc hP1 hD1
  clear hP hD
  obtain ⟨hP, hD⟩ := hPD
  replace hK := (hK.sub (tys' := []) [] rfl).app hK1
  clear hPc hDc hKc hFc hP1 hK1 hD1 hz1 hk1 ht hvm
  generalize H1 = H at hP hS ⊢
  replace hP : va_P (dC, dI) vwCl [(qo3, .inr (8, [.ref qo2, .ref qo4])), (qo2, .inr (9, [.ref qo10, .ref qo11, .ref qo12, .int 1, .ref qo13, .ref qo14, .ref qo15, .ref qo16, .ref qo17, .int 32, .int 0, .int 2, .int 0]))] H := hP
  replace hD : va_D A [(qo3, .inr (8, [.ref qo2, .ref qo4])), (qo2, .inr (9, [.ref qo10, .ref qo11, .ref qo12, .int 1, .ref qo13, .ref qo14, .ref qo15, .ref qo16, .ref qo17, .int 32, .int 0, .int 2, .int 0]))] := hD
  replace hK : va_K (dC, dI) vwCl [] s := hK
  subst hw
  refine lv_iload_n hx hb dX8_need_7 rfl (lv_at hl 1 rfl) ?_
  refine lv_icmp_ne (tgt := 27) hx hb dX8_need_8 (by decide) (fun c_2 => ?_) (fun c_2 => (show False by revert c_2; decide).elim)
  refine lv_aload_n hx hb dX8_need_27 rfl (lv_at hl 0 rfl) ?_
  refine va_get (D := (dC, dI)) (ci := 8) (v := .ref qo2) (C := RX8) (T := TX8) (N := 2) hx hb hts uV_k1_X8 hown hK hP 0 rfl rfl 0 (by decide) (hts (.fieldLink RX8 7 "ClassMill$Syntax" "text" "LClassMill$Text;") mw_k1_193) (fun _ h9 => h9) rfl dX8_need_28 ?_
  refine lv_iconst (v := 2) hx hb dX8_need_31 (by decide) ?_
  have hPc := hP.sub (ws' := [(qo2, .inr (9, [.ref qo10, .ref qo11, .ref qo12, .int 1, .ref qo13, .ref qo14, .ref qo15, .ref qo16, .ref qo17, .int 32, .int 0, .int 2, .int 0]))]) [1] rfl
  have hDc := hD.sub (ws' := [(qo2, .inr (9, [.ref qo10, .ref qo11, .ref qo12, .int 1, .ref qo13, .ref qo14, .ref qo15, .ref qo16, .ref qo17, .int 32, .int 0, .int 2, .int 0]))]) [1] (by decide) rfl
  have hKc := hK.sub (tys' := []) [] rfl
  have hFc := va_free (wc := [(qo2, .inr (9, [.ref qo10, .ref qo11, .ref qo12, .int 1, .ref qo13, .ref qo14, .ref qo15, .ref qo16, .ref qo17, .int 32, .int 0, .int 2, .int 0]))]) hD hS hA [1] rfl
  refine va_callv (va_runV (As := [.int 2]) (rest := []) ⟨hx, hb, hml, hown, hts⟩ (kk_tellHere2 l dC dI H.size qo2 qo10 qo11 qo12 qo13 qo14 qo15 qo16 qo17) (cwV 1 hts gv_k1_43 rfl rfl rfl (by decide +kernel) ⟨Nat.le_of_ble_eq_true rfl, Nat.le_of_ble_eq_true rfl⟩) ⟨fun a U g mk q => by obtain ⟨q0, q1, qP, qK, qD⟩ := q; exact ⟨q0, q1, qP, va_K.moved (u := U) (U := U.calling g mk a) (Vm.Alike.refl U.vm) qK, qD⟩, va_recv hKc hPc (ci := 9) (q0 := 0) rfl rfl, fun U hU hW => ⟨rfl, by rw [hU], by rw [hU]; exact hPc, va_K.moved hW.alike hKc, hDc.weaken (fun _ _ _ _ => trivial)⟩⟩ rfl rfl hl.1 rfl (lv_room (Nat.le_of_ble_eq_true rfl)) dX8_need_32 ⟨Nat.le_of_ble_eq_true rfl, Nat.le_of_ble_eq_true rfl⟩) hS (fun q _ h => hFc q h) hFc ?_
  clear hS
  intro u t H1 locs ht hvm hw hB hz1 hk1 hS
  obtain ⟨⟩ := u
  obtain ⟨hP1, hK1, hD1⟩ := hB
  rw [ht] at hP1
  have hK1 := va_K.moved hvm.symm hK1
  try dsimp only at hw
  have hPD := va_join (wr := [(qo3, .inr (8, [.ref qo2, .ref qo4]))]) (w1 := [(qo2, .inr (9, [.ref qo10, .ref qo11, .ref qo12, .int 1, .ref qo13, .ref qo14, .ref qo15, .ref qo16, .ref qo17, .int 32, .int 0, .int 2, .int 0]))]) hP hD [1] [0] rfl rfl (by decide) (by decide) hk1 hFc hP1 hD1
  clear hP hD
  obtain ⟨hP, hD⟩ := hPD
  replace hK := (hK.sub (tys' := []) [] rfl).app hK1
  clear hPc hDc hKc hFc hP1 hK1 hD1 hz1 hk1 ht hvm
  generalize H1 = H at hP hS ⊢
  replace hP : va_P (dC, dI) vwCl [(qo3, .inr (8, [.ref qo2, .ref qo4])), (qo2, .inr (9, [.ref qo10, .ref qo11, .ref qo12, .int 1, .ref qo13, .ref qo14, .ref qo15, .ref qo16, .ref qo17, .int 32, .int 0, .int 2, .int 0]))] H := hP
  replace hD : va_D A [(qo3, .inr (8, [.ref qo2, .ref qo4])), (qo2, .inr (9, [.ref qo10, .ref qo11, .ref qo12, .int 1, .ref qo13, .ref qo14, .ref qo15, .ref qo16, .ref qo17, .int 32, .int 0, .int 2, .int 0]))] := hD
  replace hK : va_K (dC, dI) vwCl [] s := hK
  have hP9 := hP.sub (ws' := [(qo3, .inr (8, [.ref qo2, .ref qo4])), (qo2, .inr (9, [.ref qo10, .ref qo11, .ref qo12, .int 1, .ref qo13, .ref qo14, .ref qo15, .ref qo16, .ref qo17, .int 32, .int 0, .int 2, .int 0]))]) [0, 1] rfl
  have hD9 := hD.sub (ws' := [(qo3, .inr (8, [.ref qo2, .ref qo4])), (qo2, .inr (9, [.ref qo10, .ref qo11, .ref qo12, .int 1, .ref qo13, .ref qo14, .ref qo15, .ref qo16, .ref qo17, .int 32, .int 0, .int 2, .int 0]))]) [0, 1] (by decide) rfl
  have hK9 := hK.sub (tys' := []) [] rfl
  exact W.vret hx hb hr (fun t ht hW => ⟨⟨(), rfl, trivial, by rw [ht]; exact hP9, va_K.moved hW.alike hK9, hD9⟩, hS.F ht⟩) hS.2.2 dX8_need_35
set_option maxHeartbeats 4000000 in
set_option maxRecDepth 100000 in
/-- kk_need2_42 -/
theorem kk_need2_42 (l : Launch) (dC : Nat → ClassId) (dI : Nat → Nat → Nat) (sz : Nat) (qo3 : Nat) (qo2 : Nat) (qo4 : Nat) (qo10 : Nat) (qo11 : Nat) (qo12 : Nat) (qo13 : Nat) (qo14 : Nat) (qo15 : Nat) (qo16 : Nat) (qo17 : Nat)  : Met l yX8_need (.code yX8_need cX8_need 2 none :: VS_k1) ({ frames := 1, cells := 0, slots := 0, locals := 21 }) (va_Pc [.ref qo3, .int 42] (fun U => U.heap.size = sz ∧ va_P (dC, dI) vwCl [(qo3, .inr (8, [.ref qo2, .ref qo4])), (qo2, .inr (9, [.ref qo10, .ref qo11, .ref qo12, .int 1, .ref qo13, .ref qo14, .ref qo15, .ref qo16, .ref qo17, .int 32, .int 0, .int 2, .int 0]))] U.heap ∧ va_K (dC, dI) vwCl [] U ∧ va_D (fun _ => True) [(qo3, .inr (8, [.ref qo2, .ref qo4])), (qo2, .inr (9, [.ref qo10, .ref qo11, .ref qo12, .int 1, .ref qo13, .ref qo14, .ref qo15, .ref qo16, .ref qo17, .int 32, .int 0, .int 2, .int 0]))])) (va_Qv (fun (u : Unit) => match u with | () => True) (fun (u : Unit) (t : State) => match u with | () => va_P (dC, dI) vwCl [(qo3, .inr (8, [.ref qo2, .ref qo4])), (qo2, .inr (9, [.ref qo10, .ref qo11, .ref qo12, .int 1, .ref qo13, .ref qo14, .ref qo15, .ref qo16, .ref qo17, .int 32, .int 0, .int 2, .int 0]))] t.heap ∧ va_K (dC, dI) vwCl [] t ∧ va_D (va_A [(qo3, .inr (8, [.ref qo2, .ref qo4])), (qo2, .inr (9, [.ref qo10, .ref qo11, .ref qo12, .int 1, .ref qo13, .ref qo14, .ref qo15, .ref qo16, .ref qo17, .int 32, .int 0, .int 2, .int 0]))] sz) [(qo3, .inr (8, [.ref qo2, .ref qo4])), (qo2, .inr (9, [.ref qo10, .ref qo11, .ref qo12, .int 1, .ref qo13, .ref qo14, .ref qo15, .ref qo16, .ref qo17, .int 32, .int 0, .int 2, .int 0]))]) (va_A [(qo3, .inr (8, [.ref qo2, .ref qo4])), (qo2, .inr (9, [.ref qo10, .ref qo11, .ref qo12, .int 1, .ref qo13, .ref qo14, .ref qo15, .ref qo16, .ref qo17, .int 32, .int 0, .int 2, .int 0]))] sz)) 0 0 (va_A [(qo3, .inr (8, [.ref qo2, .ref qo4])), (qo2, .inr (9, [.ref qo10, .ref qo11, .ref qo12, .int 1, .ref qo13, .ref qo14, .ref qo15, .ref qo16, .ref qo17, .int 32, .int 0, .int 2, .int 0]))] sz) := by
  refine Met.ofW (cc := cX8_need) (maxL := 2) (ret := none) (by decide) rfl ?_
  intro p e s m args below meth c s₁ B hml hv
  obtain ⟨rfl, hsz, hP, hK, hD0⟩ := hv
  have hx := B.exec
  have hb := B.bytes
  have hr := B.returns
  have hts := atoms_spec (ws := (.code yX8_need cX8_need 2 none :: VS_k1)) B.pre
  replace hts := fun w (h : w ∈ VS_k1) => hts w (List.mem_cons_of_mem _ h)
  have hown : s.vm.findClass RX8 = some m.cls := findClass_of_methodNamed B.named
  have hlocks := B.notSynchronized
  subst hsz
  have hD := hD0.self (sz := s.heap.size)
  generalize hAe : va_A [(qo3, .inr (8, [.ref qo2, .ref qo4])), (qo2, .inr (9, [.ref qo10, .ref qo11, .ref qo12, .int 1, .ref qo13, .ref qo14, .ref qo15, .ref qo16, .ref qo17, .int 32, .int 0, .int 2, .int 0]))] s.heap.size = A at hD  ⊢
  have hA : ∀ q : Nat, s.heap.size ≤ q → A q := fun q h => by rw [← hAe]; exact Or.inr h
  have hP : va_P (dC, dI) vwCl [(qo3, .inr (8, [.ref qo2, .ref qo4])), (qo2, .inr (9, [.ref qo10, .ref qo11, .ref qo12, .int 1, .ref qo13, .ref qo14, .ref qo15, .ref qo16, .ref qo17, .int 32, .int 0, .int 2, .int 0]))] s.heap := hP
  have hl := lv_entry ([.ref qo3, .int 42]) (n := 2) (Nat.le_of_ble_eq_true rfl)
  rw [lg_entry_eq]
  generalize (lg_sl ([.ref qo3, .int 42]) ++ List.replicate (2 - (lg_sl ([.ref qo3, .int 42])).length) Slot.unset).toArray = ls at hl ⊢
  have hl : lv_has ls 2 [(0, .ref qo3), (1, .int 42)] := hl
  obtain ⟨H, hH⟩ : ∃ H : Heap, s.heap = H := ⟨_, rfl⟩
  rw [hH] at hP ⊢
  have hS : va_S A s.heap H [] := by rw [← hH]; exact va_S.rf
  obtain ⟨locs, hlo⟩ : ∃ locs : List Loc, locs = [] := ⟨_, rfl⟩
  rw [← hlo] at hS ⊢
  refine lv_aload_n hx hb dX8_need_0 rfl (lv_at hl 0 rfl) ?_
  refine va_get (D := (dC, dI)) (ci := 8) (v := .ref qo2) (C := RX8) (T := TX8) (N := 2) hx hb hts uV_k1_X8 hown hK hP 0 rfl rfl 0 (by decide) (hts (.fieldLink RX8 7 "ClassMill$Syntax" "text" "LClassMill$Text;") mw_k1_193) (fun _ h9 => h9) rfl dX8_need_1 ?_
  have hPc := hP.sub (ws' := [(qo2, .inr (9, [.ref qo10, .ref qo11, .ref qo12, .int 1, .ref qo13, .ref qo14, .ref qo15, .ref qo16, .ref qo17, .int 32, .int 0, .int 2, .int 0]))]) [1] rfl
  have hDc := hD.sub (ws' := [(qo2, .inr (9, [.ref qo10, .ref qo11, .ref qo12, .int 1, .ref qo13, .ref qo14, .ref qo15, .ref qo16, .ref qo17, .int 32, .int 0, .int 2, .int 0]))]) [1] (by decide) rfl
  have hKc := hK.sub (tys' := []) [] rfl
  have hFc := va_free (wc := [(qo2, .inr (9, [.ref qo10, .ref qo11, .ref qo12, .int 1, .ref qo13, .ref qo14, .ref qo15, .ref qo16, .ref qo17, .int 32, .int 0, .int 2, .int 0]))]) hD hS hA [1] rfl
  refine va_calli (va_runV (As := []) (rest := []) ⟨hx, hb, hml, hown, hts⟩ (kk_kind2 l dC dI H.size qo2 qo10 qo11 qo12 qo13 qo14 qo15 qo16 qo17) (cwV 0 hts gv_k1_42 rfl rfl rfl (by decide +kernel) ⟨Nat.le_of_ble_eq_true rfl, Nat.le_of_ble_eq_true rfl⟩) ⟨fun a U g mk q => by obtain ⟨q0, q1, qP, qK, qD⟩ := q; exact ⟨q0, q1, qP, va_K.moved (u := U) (U := U.calling g mk a) (Vm.Alike.refl U.vm) qK, qD⟩, va_recv hKc hPc (ci := 9) (q0 := 0) rfl rfl, fun U hU hW => ⟨rfl, by rw [hU], by rw [hU]; exact hPc, va_K.moved hW.alike hKc, hDc.weaken (fun _ _ _ _ => trivial)⟩⟩ rfl rfl hl.1 rfl (lv_room (Nat.le_of_ble_eq_true rfl)) dX8_need_4 ⟨Nat.le_of_ble_eq_true rfl, Nat.le_of_ble_eq_true rfl⟩) hS (fun q _ h => hFc q h) hFc ?_
  clear hS
  intro r_1 u t H1 locs ht hvm hw hB hz1 hk1 hS
  obtain ⟨⟩ := u
  obtain ⟨hP1, hK1, hD1⟩ := hB
  rw [ht] at hP1
  have hK1 := va_K.moved hvm.symm hK1
  try dsimp only at hw
  have hPD := va_join (wr := [(qo3, .inr (8, [.ref qo2, .ref qo4]))]) (w1 := [(qo2, .inr (9, [.ref qo10, .ref qo11, .ref qo12, .int 1, .ref qo13, .ref qo14, .ref qo15, .ref qo16, .ref qo17, .int 32, .int 0, .int 2, .int 0]))]) hP hD [1] [0] rfl rfl (by decide) (by decide) hk1 hFc hP1 hD1
  clear hP hD
  obtain ⟨hP, hD⟩ := hPD
  replace hK := (hK.sub (tys' := []) [] rfl).app hK1
  clear hPc hDc hKc hFc hP1 hK1 hD1 hz1 hk1 ht hvm
  generalize H1 = H at hP hS ⊢
  replace hP : va_P (dC, dI) vwCl [(qo3, .inr (8, [.ref qo2, .ref qo4])), (qo2, .inr (9, [.ref qo10, .ref qo11, .ref qo12, .int 1, .ref qo13, .ref qo14, .ref qo15, .ref qo16, .ref qo17, .int 32, .int 0, .int 2, .int 0]))] H := hP
  replace hD : va_D A [(qo3, .inr (8, [.ref qo2, .ref qo4])), (qo2, .inr (9, [.ref qo10, .ref qo11, .ref qo12, .int 1, .ref qo13, .ref qo14, .ref qo15, .ref qo16, .ref qo17, .int 32, .int 0, .int 2, .int 0]))] := hD
  replace hK : va_K (dC, dI) vwCl [] s := hK
  subst hw
  refine lv_iload_n hx hb dX8_need_7 rfl (lv_at hl 1 rfl) ?_
  refine lv_icmp_ne (tgt := 27) hx hb dX8_need_8 (by decide) (fun c_2 => ?_) (fun c_2 => (show False by revert c_2; decide).elim)
  refine lv_aload_n hx hb dX8_need_27 rfl (lv_at hl 0 rfl) ?_
  refine va_get (D := (dC, dI)) (ci := 8) (v := .ref qo2) (C := RX8) (T := TX8) (N := 2) hx hb hts uV_k1_X8 hown hK hP 0 rfl rfl 0 (by decide) (hts (.fieldLink RX8 7 "ClassMill$Syntax" "text" "LClassMill$Text;") mw_k1_193) (fun _ h9 => h9) rfl dX8_need_28 ?_
  refine lv_iconst (v := 2) hx hb dX8_need_31 (by decide) ?_
  have hPc := hP.sub (ws' := [(qo2, .inr (9, [.ref qo10, .ref qo11, .ref qo12, .int 1, .ref qo13, .ref qo14, .ref qo15, .ref qo16, .ref qo17, .int 32, .int 0, .int 2, .int 0]))]) [1] rfl
  have hDc := hD.sub (ws' := [(qo2, .inr (9, [.ref qo10, .ref qo11, .ref qo12, .int 1, .ref qo13, .ref qo14, .ref qo15, .ref qo16, .ref qo17, .int 32, .int 0, .int 2, .int 0]))]) [1] (by decide) rfl
  have hKc := hK.sub (tys' := []) [] rfl
  have hFc := va_free (wc := [(qo2, .inr (9, [.ref qo10, .ref qo11, .ref qo12, .int 1, .ref qo13, .ref qo14, .ref qo15, .ref qo16, .ref qo17, .int 32, .int 0, .int 2, .int 0]))]) hD hS hA [1] rfl
  refine va_callv (va_runV (As := [.int 2]) (rest := []) ⟨hx, hb, hml, hown, hts⟩ (kk_tellHere2 l dC dI H.size qo2 qo10 qo11 qo12 qo13 qo14 qo15 qo16 qo17) (cwV 1 hts gv_k1_43 rfl rfl rfl (by decide +kernel) ⟨Nat.le_of_ble_eq_true rfl, Nat.le_of_ble_eq_true rfl⟩) ⟨fun a U g mk q => by obtain ⟨q0, q1, qP, qK, qD⟩ := q; exact ⟨q0, q1, qP, va_K.moved (u := U) (U := U.calling g mk a) (Vm.Alike.refl U.vm) qK, qD⟩, va_recv hKc hPc (ci := 9) (q0 := 0) rfl rfl, fun U hU hW => ⟨rfl, by rw [hU], by rw [hU]; exact hPc, va_K.moved hW.alike hKc, hDc.weaken (fun _ _ _ _ => trivial)⟩⟩ rfl rfl hl.1 rfl (lv_room (Nat.le_of_ble_eq_true rfl)) dX8_need_32 ⟨Nat.le_of_ble_eq_true rfl, Nat.le_of_ble_eq_true rfl⟩) hS (fun q _ h => hFc q h) hFc ?_
  clear hS
  intro u t H1 locs ht hvm hw hB hz1 hk1 hS
  obtain ⟨⟩ := u
  obtain ⟨hP1, hK1, hD1⟩ := hB
  rw [ht] at hP1
  have hK1 := va_K.moved hvm.symm hK1
  try dsimp only at hw
  have hPD := va_join (wr := [(qo3, .inr (8, [.ref qo2, .ref qo4]))]) (w1 := [(qo2, .inr (9, [.ref qo10, .ref qo11, .ref qo12, .int 1, .ref qo13, .ref qo14, .ref qo15, .ref qo16, .ref qo17, .int 32, .int 0, .int 2, .int 0]))]) hP hD [1] [0] rfl rfl (by decide) (by decide) hk1 hFc hP1 hD1
  clear hP hD
  obtain ⟨hP, hD⟩ := hPD
  replace hK := (hK.sub (tys' := []) [] rfl).app hK1
  clear hPc hDc hKc hFc hP1 hK1 hD1 hz1 hk1 ht hvm
  generalize H1 = H at hP hS ⊢
  replace hP : va_P (dC, dI) vwCl [(qo3, .inr (8, [.ref qo2, .ref qo4])), (qo2, .inr (9, [.ref qo10, .ref qo11, .ref qo12, .int 1, .ref qo13, .ref qo14, .ref qo15, .ref qo16, .ref qo17, .int 32, .int 0, .int 2, .int 0]))] H := hP
  replace hD : va_D A [(qo3, .inr (8, [.ref qo2, .ref qo4])), (qo2, .inr (9, [.ref qo10, .ref qo11, .ref qo12, .int 1, .ref qo13, .ref qo14, .ref qo15, .ref qo16, .ref qo17, .int 32, .int 0, .int 2, .int 0]))] := hD
  replace hK : va_K (dC, dI) vwCl [] s := hK
  have hP9 := hP.sub (ws' := [(qo3, .inr (8, [.ref qo2, .ref qo4])), (qo2, .inr (9, [.ref qo10, .ref qo11, .ref qo12, .int 1, .ref qo13, .ref qo14, .ref qo15, .ref qo16, .ref qo17, .int 32, .int 0, .int 2, .int 0]))]) [0, 1] rfl
  have hD9 := hD.sub (ws' := [(qo3, .inr (8, [.ref qo2, .ref qo4])), (qo2, .inr (9, [.ref qo10, .ref qo11, .ref qo12, .int 1, .ref qo13, .ref qo14, .ref qo15, .ref qo16, .ref qo17, .int 32, .int 0, .int 2, .int 0]))]) [0, 1] (by decide) rfl
  have hK9 := hK.sub (tys' := []) [] rfl
  exact W.vret hx hb hr (fun t ht hW => ⟨⟨(), rfl, trivial, by rw [ht]; exact hP9, va_K.moved hW.alike hK9, hD9⟩, hS.F ht⟩) hS.2.2 dX8_need_35
set_option maxHeartbeats 4000000 in
set_option maxRecDepth 100000 in
/-- kk_need2_43 -/
theorem kk_need2_43 (l : Launch) (dC : Nat → ClassId) (dI : Nat → Nat → Nat) (sz : Nat) (qo3 : Nat) (qo2 : Nat) (qo4 : Nat) (qo10 : Nat) (qo11 : Nat) (qo12 : Nat) (qo13 : Nat) (qo14 : Nat) (qo15 : Nat) (qo16 : Nat) (qo17 : Nat)  : Met l yX8_need (.code yX8_need cX8_need 2 none :: VS_k1) ({ frames := 1, cells := 0, slots := 0, locals := 21 }) (va_Pc [.ref qo3, .int 43] (fun U => U.heap.size = sz ∧ va_P (dC, dI) vwCl [(qo3, .inr (8, [.ref qo2, .ref qo4])), (qo2, .inr (9, [.ref qo10, .ref qo11, .ref qo12, .int 1, .ref qo13, .ref qo14, .ref qo15, .ref qo16, .ref qo17, .int 32, .int 0, .int 2, .int 0]))] U.heap ∧ va_K (dC, dI) vwCl [] U ∧ va_D (fun _ => True) [(qo3, .inr (8, [.ref qo2, .ref qo4])), (qo2, .inr (9, [.ref qo10, .ref qo11, .ref qo12, .int 1, .ref qo13, .ref qo14, .ref qo15, .ref qo16, .ref qo17, .int 32, .int 0, .int 2, .int 0]))])) (va_Qv (fun (u : Unit) => match u with | () => True) (fun (u : Unit) (t : State) => match u with | () => va_P (dC, dI) vwCl [(qo3, .inr (8, [.ref qo2, .ref qo4])), (qo2, .inr (9, [.ref qo10, .ref qo11, .ref qo12, .int 1, .ref qo13, .ref qo14, .ref qo15, .ref qo16, .ref qo17, .int 32, .int 0, .int 2, .int 0]))] t.heap ∧ va_K (dC, dI) vwCl [] t ∧ va_D (va_A [(qo3, .inr (8, [.ref qo2, .ref qo4])), (qo2, .inr (9, [.ref qo10, .ref qo11, .ref qo12, .int 1, .ref qo13, .ref qo14, .ref qo15, .ref qo16, .ref qo17, .int 32, .int 0, .int 2, .int 0]))] sz) [(qo3, .inr (8, [.ref qo2, .ref qo4])), (qo2, .inr (9, [.ref qo10, .ref qo11, .ref qo12, .int 1, .ref qo13, .ref qo14, .ref qo15, .ref qo16, .ref qo17, .int 32, .int 0, .int 2, .int 0]))]) (va_A [(qo3, .inr (8, [.ref qo2, .ref qo4])), (qo2, .inr (9, [.ref qo10, .ref qo11, .ref qo12, .int 1, .ref qo13, .ref qo14, .ref qo15, .ref qo16, .ref qo17, .int 32, .int 0, .int 2, .int 0]))] sz)) 0 0 (va_A [(qo3, .inr (8, [.ref qo2, .ref qo4])), (qo2, .inr (9, [.ref qo10, .ref qo11, .ref qo12, .int 1, .ref qo13, .ref qo14, .ref qo15, .ref qo16, .ref qo17, .int 32, .int 0, .int 2, .int 0]))] sz) := by
  refine Met.ofW (cc := cX8_need) (maxL := 2) (ret := none) (by decide) rfl ?_
  intro p e s m args below meth c s₁ B hml hv
  obtain ⟨rfl, hsz, hP, hK, hD0⟩ := hv
  have hx := B.exec
  have hb := B.bytes
  have hr := B.returns
  have hts := atoms_spec (ws := (.code yX8_need cX8_need 2 none :: VS_k1)) B.pre
  replace hts := fun w (h : w ∈ VS_k1) => hts w (List.mem_cons_of_mem _ h)
  have hown : s.vm.findClass RX8 = some m.cls := findClass_of_methodNamed B.named
  have hlocks := B.notSynchronized
  subst hsz
  have hD := hD0.self (sz := s.heap.size)
  generalize hAe : va_A [(qo3, .inr (8, [.ref qo2, .ref qo4])), (qo2, .inr (9, [.ref qo10, .ref qo11, .ref qo12, .int 1, .ref qo13, .ref qo14, .ref qo15, .ref qo16, .ref qo17, .int 32, .int 0, .int 2, .int 0]))] s.heap.size = A at hD  ⊢
  have hA : ∀ q : Nat, s.heap.size ≤ q → A q := fun q h => by rw [← hAe]; exact Or.inr h
  have hP : va_P (dC, dI) vwCl [(qo3, .inr (8, [.ref qo2, .ref qo4])), (qo2, .inr (9, [.ref qo10, .ref qo11, .ref qo12, .int 1, .ref qo13, .ref qo14, .ref qo15, .ref qo16, .ref qo17, .int 32, .int 0, .int 2, .int 0]))] s.heap := hP
  have hl := lv_entry ([.ref qo3, .int 43]) (n := 2) (Nat.le_of_ble_eq_true rfl)
  rw [lg_entry_eq]
  generalize (lg_sl ([.ref qo3, .int 43]) ++ List.replicate (2 - (lg_sl ([.ref qo3, .int 43])).length) Slot.unset).toArray = ls at hl ⊢
  have hl : lv_has ls 2 [(0, .ref qo3), (1, .int 43)] := hl
  obtain ⟨H, hH⟩ : ∃ H : Heap, s.heap = H := ⟨_, rfl⟩
  rw [hH] at hP ⊢
  have hS : va_S A s.heap H [] := by rw [← hH]; exact va_S.rf
  obtain ⟨locs, hlo⟩ : ∃ locs : List Loc, locs = [] := ⟨_, rfl⟩
  rw [← hlo] at hS ⊢
  refine lv_aload_n hx hb dX8_need_0 rfl (lv_at hl 0 rfl) ?_
  refine va_get (D := (dC, dI)) (ci := 8) (v := .ref qo2) (C := RX8) (T := TX8) (N := 2) hx hb hts uV_k1_X8 hown hK hP 0 rfl rfl 0 (by decide) (hts (.fieldLink RX8 7 "ClassMill$Syntax" "text" "LClassMill$Text;") mw_k1_193) (fun _ h9 => h9) rfl dX8_need_1 ?_
  have hPc := hP.sub (ws' := [(qo2, .inr (9, [.ref qo10, .ref qo11, .ref qo12, .int 1, .ref qo13, .ref qo14, .ref qo15, .ref qo16, .ref qo17, .int 32, .int 0, .int 2, .int 0]))]) [1] rfl
  have hDc := hD.sub (ws' := [(qo2, .inr (9, [.ref qo10, .ref qo11, .ref qo12, .int 1, .ref qo13, .ref qo14, .ref qo15, .ref qo16, .ref qo17, .int 32, .int 0, .int 2, .int 0]))]) [1] (by decide) rfl
  have hKc := hK.sub (tys' := []) [] rfl
  have hFc := va_free (wc := [(qo2, .inr (9, [.ref qo10, .ref qo11, .ref qo12, .int 1, .ref qo13, .ref qo14, .ref qo15, .ref qo16, .ref qo17, .int 32, .int 0, .int 2, .int 0]))]) hD hS hA [1] rfl
  refine va_calli (va_runV (As := []) (rest := []) ⟨hx, hb, hml, hown, hts⟩ (kk_kind2 l dC dI H.size qo2 qo10 qo11 qo12 qo13 qo14 qo15 qo16 qo17) (cwV 0 hts gv_k1_42 rfl rfl rfl (by decide +kernel) ⟨Nat.le_of_ble_eq_true rfl, Nat.le_of_ble_eq_true rfl⟩) ⟨fun a U g mk q => by obtain ⟨q0, q1, qP, qK, qD⟩ := q; exact ⟨q0, q1, qP, va_K.moved (u := U) (U := U.calling g mk a) (Vm.Alike.refl U.vm) qK, qD⟩, va_recv hKc hPc (ci := 9) (q0 := 0) rfl rfl, fun U hU hW => ⟨rfl, by rw [hU], by rw [hU]; exact hPc, va_K.moved hW.alike hKc, hDc.weaken (fun _ _ _ _ => trivial)⟩⟩ rfl rfl hl.1 rfl (lv_room (Nat.le_of_ble_eq_true rfl)) dX8_need_4 ⟨Nat.le_of_ble_eq_true rfl, Nat.le_of_ble_eq_true rfl⟩) hS (fun q _ h => hFc q h) hFc ?_
  clear hS
  intro r_1 u t H1 locs ht hvm hw hB hz1 hk1 hS
  obtain ⟨⟩ := u
  obtain ⟨hP1, hK1, hD1⟩ := hB
  rw [ht] at hP1
  have hK1 := va_K.moved hvm.symm hK1
  try dsimp only at hw
  have hPD := va_join (wr := [(qo3, .inr (8, [.ref qo2, .ref qo4]))]) (w1 := [(qo2, .inr (9, [.ref qo10, .ref qo11, .ref qo12, .int 1, .ref qo13, .ref qo14, .ref qo15, .ref qo16, .ref qo17, .int 32, .int 0, .int 2, .int 0]))]) hP hD [1] [0] rfl rfl (by decide) (by decide) hk1 hFc hP1 hD1
  clear hP hD
  obtain ⟨hP, hD⟩ := hPD
  replace hK := (hK.sub (tys' := []) [] rfl).app hK1
  clear hPc hDc hKc hFc hP1 hK1 hD1 hz1 hk1 ht hvm
  generalize H1 = H at hP hS ⊢
  replace hP : va_P (dC, dI) vwCl [(qo3, .inr (8, [.ref qo2, .ref qo4])), (qo2, .inr (9, [.ref qo10, .ref qo11, .ref qo12, .int 1, .ref qo13, .ref qo14, .ref qo15, .ref qo16, .ref qo17, .int 32, .int 0, .int 2, .int 0]))] H := hP
  replace hD : va_D A [(qo3, .inr (8, [.ref qo2, .ref qo4])), (qo2, .inr (9, [.ref qo10, .ref qo11, .ref qo12, .int 1, .ref qo13, .ref qo14, .ref qo15, .ref qo16, .ref qo17, .int 32, .int 0, .int 2, .int 0]))] := hD
  replace hK : va_K (dC, dI) vwCl [] s := hK
  subst hw
  refine lv_iload_n hx hb dX8_need_7 rfl (lv_at hl 1 rfl) ?_
  refine lv_icmp_ne (tgt := 27) hx hb dX8_need_8 (by decide) (fun c_2 => ?_) (fun c_2 => (show False by revert c_2; decide).elim)
  refine lv_aload_n hx hb dX8_need_27 rfl (lv_at hl 0 rfl) ?_
  refine va_get (D := (dC, dI)) (ci := 8) (v := .ref qo2) (C := RX8) (T := TX8) (N := 2) hx hb hts uV_k1_X8 hown hK hP 0 rfl rfl 0 (by decide) (hts (.fieldLink RX8 7 "ClassMill$Syntax" "text" "LClassMill$Text;") mw_k1_193) (fun _ h9 => h9) rfl dX8_need_28 ?_
  refine lv_iconst (v := 2) hx hb dX8_need_31 (by decide) ?_
  have hPc := hP.sub (ws' := [(qo2, .inr (9, [.ref qo10, .ref qo11, .ref qo12, .int 1, .ref qo13, .ref qo14, .ref qo15, .ref qo16, .ref qo17, .int 32, .int 0, .int 2, .int 0]))]) [1] rfl
  have hDc := hD.sub (ws' := [(qo2, .inr (9, [.ref qo10, .ref qo11, .ref qo12, .int 1, .ref qo13, .ref qo14, .ref qo15, .ref qo16, .ref qo17, .int 32, .int 0, .int 2, .int 0]))]) [1] (by decide) rfl
  have hKc := hK.sub (tys' := []) [] rfl
  have hFc := va_free (wc := [(qo2, .inr (9, [.ref qo10, .ref qo11, .ref qo12, .int 1, .ref qo13, .ref qo14, .ref qo15, .ref qo16, .ref qo17, .int 32, .int 0, .int 2, .int 0]))]) hD hS hA [1] rfl
  refine va_callv (va_runV (As := [.int 2]) (rest := []) ⟨hx, hb, hml, hown, hts⟩ (kk_tellHere2 l dC dI H.size qo2 qo10 qo11 qo12 qo13 qo14 qo15 qo16 qo17) (cwV 1 hts gv_k1_43 rfl rfl rfl (by decide +kernel) ⟨Nat.le_of_ble_eq_true rfl, Nat.le_of_ble_eq_true rfl⟩) ⟨fun a U g mk q => by obtain ⟨q0, q1, qP, qK, qD⟩ := q; exact ⟨q0, q1, qP, va_K.moved (u := U) (U := U.calling g mk a) (Vm.Alike.refl U.vm) qK, qD⟩, va_recv hKc hPc (ci := 9) (q0 := 0) rfl rfl, fun U hU hW => ⟨rfl, by rw [hU], by rw [hU]; exact hPc, va_K.moved hW.alike hKc, hDc.weaken (fun _ _ _ _ => trivial)⟩⟩ rfl rfl hl.1 rfl (lv_room (Nat.le_of_ble_eq_true rfl)) dX8_need_32 ⟨Nat.le_of_ble_eq_true rfl, Nat.le_of_ble_eq_true rfl⟩) hS (fun q _ h => hFc q h) hFc ?_
  clear hS
  intro u t H1 locs ht hvm hw hB hz1 hk1 hS
  obtain ⟨⟩ := u
  obtain ⟨hP1, hK1, hD1⟩ := hB
  rw [ht] at hP1
  have hK1 := va_K.moved hvm.symm hK1
  try dsimp only at hw
  have hPD := va_join (wr := [(qo3, .inr (8, [.ref qo2, .ref qo4]))]) (w1 := [(qo2, .inr (9, [.ref qo10, .ref qo11, .ref qo12, .int 1, .ref qo13, .ref qo14, .ref qo15, .ref qo16, .ref qo17, .int 32, .int 0, .int 2, .int 0]))]) hP hD [1] [0] rfl rfl (by decide) (by decide) hk1 hFc hP1 hD1
  clear hP hD
  obtain ⟨hP, hD⟩ := hPD
  replace hK := (hK.sub (tys' := []) [] rfl).app hK1
  clear hPc hDc hKc hFc hP1 hK1 hD1 hz1 hk1 ht hvm
  generalize H1 = H at hP hS ⊢
  replace hP : va_P (dC, dI) vwCl [(qo3, .inr (8, [.ref qo2, .ref qo4])), (qo2, .inr (9, [.ref qo10, .ref qo11, .ref qo12, .int 1, .ref qo13, .ref qo14, .ref qo15, .ref qo16, .ref qo17, .int 32, .int 0, .int 2, .int 0]))] H := hP
  replace hD : va_D A [(qo3, .inr (8, [.ref qo2, .ref qo4])), (qo2, .inr (9, [.ref qo10, .ref qo11, .ref qo12, .int 1, .ref qo13, .ref qo14, .ref qo15, .ref qo16, .ref qo17, .int 32, .int 0, .int 2, .int 0]))] := hD
  replace hK : va_K (dC, dI) vwCl [] s := hK
  have hP9 := hP.sub (ws' := [(qo3, .inr (8, [.ref qo2, .ref qo4])), (qo2, .inr (9, [.ref qo10, .ref qo11, .ref qo12, .int 1, .ref qo13, .ref qo14, .ref qo15, .ref qo16, .ref qo17, .int 32, .int 0, .int 2, .int 0]))]) [0, 1] rfl
  have hD9 := hD.sub (ws' := [(qo3, .inr (8, [.ref qo2, .ref qo4])), (qo2, .inr (9, [.ref qo10, .ref qo11, .ref qo12, .int 1, .ref qo13, .ref qo14, .ref qo15, .ref qo16, .ref qo17, .int 32, .int 0, .int 2, .int 0]))]) [0, 1] (by decide) rfl
  have hK9 := hK.sub (tys' := []) [] rfl
  exact W.vret hx hb hr (fun t ht hW => ⟨⟨(), rfl, trivial, by rw [ht]; exact hP9, va_K.moved hW.alike hK9, hD9⟩, hS.F ht⟩) hS.2.2 dX8_need_35
set_option maxHeartbeats 4000000 in
set_option maxRecDepth 100000 in
/-- kk_accept2 -/
theorem kk_accept2 (l : Launch) (dC : Nat → ClassId) (dI : Nat → Nat → Nat) (sz : Nat) (qo3 : Nat) (qo2 : Nat) (qo4 : Nat) (qo10 : Nat) (qo11 : Nat) (qo12 : Nat) (qo13 : Nat) (qo14 : Nat) (qo15 : Nat) (qo16 : Nat) (qo17 : Nat)  : Met l yX8_accept (.code yX8_accept cX8_accept 2 (some .boolean) :: VS_k1) ({ frames := 1, cells := 0, slots := 0, locals := 20 }) (va_Pc [.ref qo3, .int 16] (fun U => U.heap.size = sz ∧ va_P (dC, dI) vwCl [(qo3, .inr (8, [.ref qo2, .ref qo4])), (qo2, .inr (9, [.ref qo10, .ref qo11, .ref qo12, .int 1, .ref qo13, .ref qo14, .ref qo15, .ref qo16, .ref qo17, .int 32, .int 0, .int 2, .int 0]))] U.heap ∧ va_K (dC, dI) vwCl [] U ∧ va_D (fun _ => True) [(qo3, .inr (8, [.ref qo2, .ref qo4])), (qo2, .inr (9, [.ref qo10, .ref qo11, .ref qo12, .int 1, .ref qo13, .ref qo14, .ref qo15, .ref qo16, .ref qo17, .int 32, .int 0, .int 2, .int 0]))])) (va_Qi (fun (r : Int32) (u : Unit) => match u with | () => r = 0) (fun (u : Unit) (t : State) => match u with | () => va_P (dC, dI) vwCl [(qo3, .inr (8, [.ref qo2, .ref qo4])), (qo2, .inr (9, [.ref qo10, .ref qo11, .ref qo12, .int 1, .ref qo13, .ref qo14, .ref qo15, .ref qo16, .ref qo17, .int 32, .int 0, .int 2, .int 0]))] t.heap ∧ va_K (dC, dI) vwCl [] t ∧ va_D (va_A [(qo3, .inr (8, [.ref qo2, .ref qo4])), (qo2, .inr (9, [.ref qo10, .ref qo11, .ref qo12, .int 1, .ref qo13, .ref qo14, .ref qo15, .ref qo16, .ref qo17, .int 32, .int 0, .int 2, .int 0]))] sz) [(qo3, .inr (8, [.ref qo2, .ref qo4])), (qo2, .inr (9, [.ref qo10, .ref qo11, .ref qo12, .int 1, .ref qo13, .ref qo14, .ref qo15, .ref qo16, .ref qo17, .int 32, .int 0, .int 2, .int 0]))]) (va_A [(qo3, .inr (8, [.ref qo2, .ref qo4])), (qo2, .inr (9, [.ref qo10, .ref qo11, .ref qo12, .int 1, .ref qo13, .ref qo14, .ref qo15, .ref qo16, .ref qo17, .int 32, .int 0, .int 2, .int 0]))] sz)) 0 0 (va_A [(qo3, .inr (8, [.ref qo2, .ref qo4])), (qo2, .inr (9, [.ref qo10, .ref qo11, .ref qo12, .int 1, .ref qo13, .ref qo14, .ref qo15, .ref qo16, .ref qo17, .int 32, .int 0, .int 2, .int 0]))] sz) := by
  refine Met.ofW (cc := cX8_accept) (maxL := 2) (ret := (some .boolean)) (by decide) rfl ?_
  intro p e s m args below meth c s₁ B hml hv
  obtain ⟨rfl, hsz, hP, hK, hD0⟩ := hv
  have hx := B.exec
  have hb := B.bytes
  have hr := B.returns
  have hts := atoms_spec (ws := (.code yX8_accept cX8_accept 2 (some .boolean) :: VS_k1)) B.pre
  replace hts := fun w (h : w ∈ VS_k1) => hts w (List.mem_cons_of_mem _ h)
  have hown : s.vm.findClass RX8 = some m.cls := findClass_of_methodNamed B.named
  have hlocks := B.notSynchronized
  subst hsz
  have hD := hD0.self (sz := s.heap.size)
  generalize hAe : va_A [(qo3, .inr (8, [.ref qo2, .ref qo4])), (qo2, .inr (9, [.ref qo10, .ref qo11, .ref qo12, .int 1, .ref qo13, .ref qo14, .ref qo15, .ref qo16, .ref qo17, .int 32, .int 0, .int 2, .int 0]))] s.heap.size = A at hD  ⊢
  have hA : ∀ q : Nat, s.heap.size ≤ q → A q := fun q h => by rw [← hAe]; exact Or.inr h
  have hP : va_P (dC, dI) vwCl [(qo3, .inr (8, [.ref qo2, .ref qo4])), (qo2, .inr (9, [.ref qo10, .ref qo11, .ref qo12, .int 1, .ref qo13, .ref qo14, .ref qo15, .ref qo16, .ref qo17, .int 32, .int 0, .int 2, .int 0]))] s.heap := hP
  have hl := lv_entry ([.ref qo3, .int 16]) (n := 2) (Nat.le_of_ble_eq_true rfl)
  rw [lg_entry_eq]
  generalize (lg_sl ([.ref qo3, .int 16]) ++ List.replicate (2 - (lg_sl ([.ref qo3, .int 16])).length) Slot.unset).toArray = ls at hl ⊢
  have hl : lv_has ls 2 [(0, .ref qo3), (1, .int 16)] := hl
  obtain ⟨H, hH⟩ : ∃ H : Heap, s.heap = H := ⟨_, rfl⟩
  rw [hH] at hP ⊢
  have hS : va_S A s.heap H [] := by rw [← hH]; exact va_S.rf
  obtain ⟨locs, hlo⟩ : ∃ locs : List Loc, locs = [] := ⟨_, rfl⟩
  rw [← hlo] at hS ⊢
  refine lv_aload_n hx hb dX8_accept_0 rfl (lv_at hl 0 rfl) ?_
  refine va_get (D := (dC, dI)) (ci := 8) (v := .ref qo2) (C := RX8) (T := TX8) (N := 2) hx hb hts uV_k1_X8 hown hK hP 0 rfl rfl 0 (by decide) (hts (.fieldLink RX8 7 "ClassMill$Syntax" "text" "LClassMill$Text;") mw_k1_193) (fun _ h9 => h9) rfl dX8_accept_1 ?_
  have hPc := hP.sub (ws' := [(qo2, .inr (9, [.ref qo10, .ref qo11, .ref qo12, .int 1, .ref qo13, .ref qo14, .ref qo15, .ref qo16, .ref qo17, .int 32, .int 0, .int 2, .int 0]))]) [1] rfl
  have hDc := hD.sub (ws' := [(qo2, .inr (9, [.ref qo10, .ref qo11, .ref qo12, .int 1, .ref qo13, .ref qo14, .ref qo15, .ref qo16, .ref qo17, .int 32, .int 0, .int 2, .int 0]))]) [1] (by decide) rfl
  have hKc := hK.sub (tys' := []) [] rfl
  have hFc := va_free (wc := [(qo2, .inr (9, [.ref qo10, .ref qo11, .ref qo12, .int 1, .ref qo13, .ref qo14, .ref qo15, .ref qo16, .ref qo17, .int 32, .int 0, .int 2, .int 0]))]) hD hS hA [1] rfl
  refine va_calli (va_runV (As := []) (rest := []) ⟨hx, hb, hml, hown, hts⟩ (kk_kind2 l dC dI H.size qo2 qo10 qo11 qo12 qo13 qo14 qo15 qo16 qo17) (cwV 0 hts gv_k1_42 rfl rfl rfl (by decide +kernel) ⟨Nat.le_of_ble_eq_true rfl, Nat.le_of_ble_eq_true rfl⟩) ⟨fun a U g mk q => by obtain ⟨q0, q1, qP, qK, qD⟩ := q; exact ⟨q0, q1, qP, va_K.moved (u := U) (U := U.calling g mk a) (Vm.Alike.refl U.vm) qK, qD⟩, va_recv hKc hPc (ci := 9) (q0 := 0) rfl rfl, fun U hU hW => ⟨rfl, by rw [hU], by rw [hU]; exact hPc, va_K.moved hW.alike hKc, hDc.weaken (fun _ _ _ _ => trivial)⟩⟩ rfl rfl hl.1 rfl (lv_room (Nat.le_of_ble_eq_true rfl)) dX8_accept_4 ⟨Nat.le_of_ble_eq_true rfl, Nat.le_of_ble_eq_true rfl⟩) hS (fun q _ h => hFc q h) hFc ?_
  clear hS
  intro r_1 u t H1 locs ht hvm hw hB hz1 hk1 hS
  obtain ⟨⟩ := u
  obtain ⟨hP1, hK1, hD1⟩ := hB
  rw [ht] at hP1
  have hK1 := va_K.moved hvm.symm hK1
  try dsimp only at hw
  have hPD := va_join (wr := [(qo3, .inr (8, [.ref qo2, .ref qo4]))]) (w1 := [(qo2, .inr (9, [.ref qo10, .ref qo11, .ref qo12, .int 1, .ref qo13, .ref qo14, .ref qo15, .ref qo16, .ref qo17, .int 32, .int 0, .int 2, .int 0]))]) hP hD [1] [0] rfl rfl (by decide) (by decide) hk1 hFc hP1 hD1
  clear hP hD
  obtain ⟨hP, hD⟩ := hPD
  replace hK := (hK.sub (tys' := []) [] rfl).app hK1
  clear hPc hDc hKc hFc hP1 hK1 hD1 hz1 hk1 ht hvm
  generalize H1 = H at hP hS ⊢
  replace hP : va_P (dC, dI) vwCl [(qo3, .inr (8, [.ref qo2, .ref qo4])), (qo2, .inr (9, [.ref qo10, .ref qo11, .ref qo12, .int 1, .ref qo13, .ref qo14, .ref qo15, .ref qo16, .ref qo17, .int 32, .int 0, .int 2, .int 0]))] H := hP
  replace hD : va_D A [(qo3, .inr (8, [.ref qo2, .ref qo4])), (qo2, .inr (9, [.ref qo10, .ref qo11, .ref qo12, .int 1, .ref qo13, .ref qo14, .ref qo15, .ref qo16, .ref qo17, .int 32, .int 0, .int 2, .int 0]))] := hD
  replace hK : va_K (dC, dI) vwCl [] s := hK
  subst hw
  refine lv_iload_n hx hb dX8_accept_7 rfl (lv_at hl 1 rfl) ?_
  refine lv_icmp_eq (tgt := 13) hx hb dX8_accept_8 (by decide) (fun c_2 => (show False by revert c_2; decide).elim) (fun c_2 => ?_)
  refine lv_iconst (v := 0) hx hb dX8_accept_11 (by decide) ?_
  have hP9 := hP.sub (ws' := [(qo3, .inr (8, [.ref qo2, .ref qo4])), (qo2, .inr (9, [.ref qo10, .ref qo11, .ref qo12, .int 1, .ref qo13, .ref qo14, .ref qo15, .ref qo16, .ref qo17, .int 32, .int 0, .int 2, .int 0]))]) [0, 1] rfl
  have hD9 := hD.sub (ws' := [(qo3, .inr (8, [.ref qo2, .ref qo4])), (qo2, .inr (9, [.ref qo10, .ref qo11, .ref qo12, .int 1, .ref qo13, .ref qo14, .ref qo15, .ref qo16, .ref qo17, .int 32, .int 0, .int 2, .int 0]))]) [0, 1] (by decide) rfl
  have hK9 := hK.sub (tys' := []) [] rfl
  exact W.zret hx hb hr (by decide) (fun t ht hW => ⟨⟨(0), (), rfl, rfl, by rw [ht]; exact hP9, va_K.moved hW.alike hK9, hD9⟩, hS.F ht⟩) hS.2.2 dX8_accept_12
set_option maxHeartbeats 4000000 in
set_option maxRecDepth 100000 in
/-- kk_addClass -/
theorem kk_addClass (l : Launch) (dC : Nat → ClassId) (dI : Nat → Nat → Nat) (sz : Nat) (qo4 : Nat) (qo2 : Nat) (qo18 : Nat) (qo19 : Nat) (qo20 : Nat) (qo21 : Nat) (qo22 : Nat) (qo23 : Nat) (qo24 : Nat) (qo25 : Nat) (qo26 : Nat) (qo27 : Nat) (qo28 : Nat) (qo29 : Nat) (qo30 : Nat) (qo31 : Nat) (qo32 : Nat) (qo33 : Nat) (qo34 : Nat) (qo35 : Nat) (co7 : ClassId)  : Met l yX2_addClass (.code yX2_addClass cX2_addClass 2 none :: VS_k1) ({ frames := 0, cells := 0, slots := 0, locals := 0 }) (va_Pc [.ref qo4, .int 0] (fun U => U.heap.size = sz ∧ va_P (dC, dI) vwCl [(qo4, .inr (2, [.ref qo2, .ref qo18, .int 0, .ref qo19, .ref qo20, .ref qo21, .ref qo22, .ref qo23, .ref qo24, .ref qo25, .ref qo26, .ref qo27, .ref qo28, .ref qo29, .ref qo30, .ref qo31, .ref qo32, .ref qo33, .ref qo34, .ref qo35, .int 0])), (qo19, .inl (co7, 334, .inl (fun _ => 0)))] U.heap ∧ va_K (dC, dI) vwCl [(co7, .int)] U ∧ va_D (fun _ => True) [(qo4, .inr (2, [.ref qo2, .ref qo18, .int 0, .ref qo19, .ref qo20, .ref qo21, .ref qo22, .ref qo23, .ref qo24, .ref qo25, .ref qo26, .ref qo27, .ref qo28, .ref qo29, .ref qo30, .ref qo31, .ref qo32, .ref qo33, .ref qo34, .ref qo35, .int 0])), (qo19, .inl (co7, 334, .inl (fun _ => 0)))])) (va_Qv (fun (u : Unit) => match u with | () => True) (fun (u : Unit) (t : State) => match u with | () => va_P (dC, dI) vwCl [(qo4, .inr (2, [.ref qo2, .ref qo18, .int 1, .ref qo19, .ref qo20, .ref qo21, .ref qo22, .ref qo23, .ref qo24, .ref qo25, .ref qo26, .ref qo27, .ref qo28, .ref qo29, .ref qo30, .ref qo31, .ref qo32, .ref qo33, .ref qo34, .ref qo35, .int 0]))] t.heap ∧ va_K (dC, dI) vwCl [] t ∧ va_D (va_A [(qo4, .inr (2, [.ref qo2, .ref qo18, .int 0, .ref qo19, .ref qo20, .ref qo21, .ref qo22, .ref qo23, .ref qo24, .ref qo25, .ref qo26, .ref qo27, .ref qo28, .ref qo29, .ref qo30, .ref qo31, .ref qo32, .ref qo33, .ref qo34, .ref qo35, .int 0])), (qo19, .inl (co7, 334, .inl (fun _ => 0)))] sz) [(qo4, .inr (2, [.ref qo2, .ref qo18, .int 1, .ref qo19, .ref qo20, .ref qo21, .ref qo22, .ref qo23, .ref qo24, .ref qo25, .ref qo26, .ref qo27, .ref qo28, .ref qo29, .ref qo30, .ref qo31, .ref qo32, .ref qo33, .ref qo34, .ref qo35, .int 0]))]) (va_A [(qo4, .inr (2, [.ref qo2, .ref qo18, .int 0, .ref qo19, .ref qo20, .ref qo21, .ref qo22, .ref qo23, .ref qo24, .ref qo25, .ref qo26, .ref qo27, .ref qo28, .ref qo29, .ref qo30, .ref qo31, .ref qo32, .ref qo33, .ref qo34, .ref qo35, .int 0])), (qo19, .inl (co7, 334, .inl (fun _ => 0)))] sz)) 0 0 (va_A [(qo4, .inr (2, [.ref qo2, .ref qo18, .int 0, .ref qo19, .ref qo20, .ref qo21, .ref qo22, .ref qo23, .ref qo24, .ref qo25, .ref qo26, .ref qo27, .ref qo28, .ref qo29, .ref qo30, .ref qo31, .ref qo32, .ref qo33, .ref qo34, .ref qo35, .int 0])), (qo19, .inl (co7, 334, .inl (fun _ => 0)))] sz) := by
  refine Met.ofW (cc := cX2_addClass) (maxL := 2) (ret := none) (by decide) rfl ?_
  intro p e s m args below meth c s₁ B hml hv
  obtain ⟨rfl, hsz, hP, hK, hD0⟩ := hv
  have hx := B.exec
  have hb := B.bytes
  have hr := B.returns
  have hts := atoms_spec (ws := (.code yX2_addClass cX2_addClass 2 none :: VS_k1)) B.pre
  replace hts := fun w (h : w ∈ VS_k1) => hts w (List.mem_cons_of_mem _ h)
  have hown : s.vm.findClass RX2 = some m.cls := findClass_of_methodNamed B.named
  have hlocks := B.notSynchronized
  subst hsz
  have hD := hD0.self (sz := s.heap.size)
  generalize hAe : va_A [(qo4, .inr (2, [.ref qo2, .ref qo18, .int 0, .ref qo19, .ref qo20, .ref qo21, .ref qo22, .ref qo23, .ref qo24, .ref qo25, .ref qo26, .ref qo27, .ref qo28, .ref qo29, .ref qo30, .ref qo31, .ref qo32, .ref qo33, .ref qo34, .ref qo35, .int 0])), (qo19, .inl (co7, 334, .inl (fun _ => 0)))] s.heap.size = A at hD  ⊢
  have hA : ∀ q : Nat, s.heap.size ≤ q → A q := fun q h => by rw [← hAe]; exact Or.inr h
  have hP : va_P (dC, dI) vwCl [(qo4, .inr (2, [.ref qo2, .ref qo18, .int 0, .ref qo19, .ref qo20, .ref qo21, .ref qo22, .ref qo23, .ref qo24, .ref qo25, .ref qo26, .ref qo27, .ref qo28, .ref qo29, .ref qo30, .ref qo31, .ref qo32, .ref qo33, .ref qo34, .ref qo35, .int 0])), (qo19, .inl (co7, 334, .inl (fun _ => 0)))] s.heap := hP
  have hl := lv_entry ([.ref qo4, .int 0]) (n := 2) (Nat.le_of_ble_eq_true rfl)
  rw [lg_entry_eq]
  generalize (lg_sl ([.ref qo4, .int 0]) ++ List.replicate (2 - (lg_sl ([.ref qo4, .int 0])).length) Slot.unset).toArray = ls at hl ⊢
  have hl : lv_has ls 2 [(0, .ref qo4), (1, .int 0)] := hl
  obtain ⟨H, hH⟩ : ∃ H : Heap, s.heap = H := ⟨_, rfl⟩
  rw [hH] at hP ⊢
  have hS : va_S A s.heap H [] := by rw [← hH]; exact va_S.rf
  obtain ⟨locs, hlo⟩ : ∃ locs : List Loc, locs = [] := ⟨_, rfl⟩
  rw [← hlo] at hS ⊢
  refine lv_aload_n hx hb dX2_addClass_0 rfl (lv_at hl 0 rfl) ?_
  refine va_get (D := (dC, dI)) (ci := 2) (v := .int 0) (C := RX2) (T := TX2) (N := 21) hx hb hts uV_k1_X2 hown hK hP 0 rfl rfl 2 (by decide) (hts (.fieldLink RX2 78 "ClassMill$Heads" "classes" "I") mw_k1_181) (fun _ h9 => h9) rfl dX2_addClass_1 ?_
  refine lv_aload_n hx hb dX2_addClass_4 rfl (lv_at hl 0 rfl) ?_
  refine va_get (D := (dC, dI)) (ci := 2) (v := .ref qo19) (C := RX2) (T := TX2) (N := 21) hx hb hts uV_k1_X2 hown hK hP 0 rfl rfl 3 (by decide) (hts (.fieldLink RX2 20 "ClassMill$Heads" "classAt" "[I") mw_k1_194) (fun _ h9 => h9) rfl dX2_addClass_5 ?_
  refine va_alen (v := 334) hx hb hK hP 1 0 rfl rfl rfl dX2_addClass_8 ?_
  refine lv_icmp_ge (tgt := 32) hx hb dX2_addClass_9 (by decide) (fun c_1 => (show False by revert c_1; decide).elim) (fun c_1 => ?_)
  refine lv_aload_n hx hb dX2_addClass_12 rfl (lv_at hl 0 rfl) ?_
  refine va_get (D := (dC, dI)) (ci := 2) (v := .ref qo19) (C := RX2) (T := TX2) (N := 21) hx hb hts uV_k1_X2 hown hK hP 0 rfl rfl 3 (by decide) (hts (.fieldLink RX2 20 "ClassMill$Heads" "classAt" "[I") mw_k1_194) (fun _ h9 => h9) rfl dX2_addClass_13 ?_
  refine lv_aload_n hx hb dX2_addClass_16 rfl (lv_at hl 0 rfl) ?_
  refine va_get (D := (dC, dI)) (ci := 2) (v := .int 0) (C := RX2) (T := TX2) (N := 21) hx hb hts uV_k1_X2 hown hK hP 0 rfl rfl 2 (by decide) (hts (.fieldLink RX2 78 "ClassMill$Heads" "classes" "I") mw_k1_181) (fun _ h9 => h9) rfl dX2_addClass_17 ?_
  refine lv_iload_n hx hb dX2_addClass_20 rfl (lv_at hl 1 rfl) ?_
  refine va_iast hx hb hK hP hD hS 1 0 rfl rfl (i := 0) (x := 0) (by unfold vp_in; decide) dX2_addClass_21 ?_
  clear hP hD hS
  intro H locs hP hD hS
  obtain ⟨f_2, ef_2⟩ : ∃ zf : Nat → Int32, zf = upd (fun _ => 0) (0 : Int32).toNatClampNeg 0 := ⟨_, rfl⟩
  rw [← ef_2] at hP hD
  replace hP : va_P (dC, dI) vwCl [(qo4, .inr (2, [.ref qo2, .ref qo18, .int 0, .ref qo19, .ref qo20, .ref qo21, .ref qo22, .ref qo23, .ref qo24, .ref qo25, .ref qo26, .ref qo27, .ref qo28, .ref qo29, .ref qo30, .ref qo31, .ref qo32, .ref qo33, .ref qo34, .ref qo35, .int 0])), (qo19, .inl (co7, 334, .inl f_2))] H := hP
  replace hD : va_D A [(qo4, .inr (2, [.ref qo2, .ref qo18, .int 0, .ref qo19, .ref qo20, .ref qo21, .ref qo22, .ref qo23, .ref qo24, .ref qo25, .ref qo26, .ref qo27, .ref qo28, .ref qo29, .ref qo30, .ref qo31, .ref qo32, .ref qo33, .ref qo34, .ref qo35, .int 0])), (qo19, .inl (co7, 334, .inl f_2))] := hD
  refine lv_aload_n hx hb dX2_addClass_22 rfl (lv_at hl 0 rfl) ?_
  refine lv_dup hx hb dX2_addClass_23 rfl ?_
  refine va_get (D := (dC, dI)) (ci := 2) (v := .int 0) (C := RX2) (T := TX2) (N := 21) hx hb hts uV_k1_X2 hown hK hP 0 rfl rfl 2 (by decide) (hts (.fieldLink RX2 78 "ClassMill$Heads" "classes" "I") mw_k1_181) (fun _ h9 => h9) rfl dX2_addClass_24 ?_
  refine lv_iconst (v := 1) hx hb dX2_addClass_27 (by decide) ?_
  refine lv_iadd hx hb dX2_addClass_28 ?_
  refine lv_topi (fun y_3 ey_3 => ?_)
  obtain rfl : y_3 = 1 := ey_3.trans (by decide)
  refine va_put (D := (dC, dI)) (ci := 2) (v := .int 1) (ty := .int) (C := RX2) (T := TX2) (N := 21) hx hb hts uV_k1_X2 tyX2 tyX2_ok nmX2 hown hK hP hD hS 0 rfl rfl 2 (by decide) (hts (.fieldLink RX2 78 "ClassMill$Heads" "classes" "I") mw_k1_181) (fun _ h9 => h9) rfl (by decide +kernel) rfl rfl (Nat.le_of_ble_eq_true rfl) dX2_addClass_29 ?_
  clear hP hD hS
  intro H locs hP hD hS
  replace hP : va_P (dC, dI) vwCl [(qo4, .inr (2, [.ref qo2, .ref qo18, .int 1, .ref qo19, .ref qo20, .ref qo21, .ref qo22, .ref qo23, .ref qo24, .ref qo25, .ref qo26, .ref qo27, .ref qo28, .ref qo29, .ref qo30, .ref qo31, .ref qo32, .ref qo33, .ref qo34, .ref qo35, .int 0])), (qo19, .inl (co7, 334, .inl f_2))] H := hP
  replace hD : va_D A [(qo4, .inr (2, [.ref qo2, .ref qo18, .int 1, .ref qo19, .ref qo20, .ref qo21, .ref qo22, .ref qo23, .ref qo24, .ref qo25, .ref qo26, .ref qo27, .ref qo28, .ref qo29, .ref qo30, .ref qo31, .ref qo32, .ref qo33, .ref qo34, .ref qo35, .int 0])), (qo19, .inl (co7, 334, .inl f_2))] := hD
  have hP9 := hP.sub (ws' := [(qo4, .inr (2, [.ref qo2, .ref qo18, .int 1, .ref qo19, .ref qo20, .ref qo21, .ref qo22, .ref qo23, .ref qo24, .ref qo25, .ref qo26, .ref qo27, .ref qo28, .ref qo29, .ref qo30, .ref qo31, .ref qo32, .ref qo33, .ref qo34, .ref qo35, .int 0]))]) [0] rfl
  have hD9 := hD.sub (ws' := [(qo4, .inr (2, [.ref qo2, .ref qo18, .int 1, .ref qo19, .ref qo20, .ref qo21, .ref qo22, .ref qo23, .ref qo24, .ref qo25, .ref qo26, .ref qo27, .ref qo28, .ref qo29, .ref qo30, .ref qo31, .ref qo32, .ref qo33, .ref qo34, .ref qo35, .int 0]))]) [0] (by decide) rfl
  have hK9 := hK.sub (tys' := []) [] rfl
  exact W.vret hx hb hr (fun t ht hW => ⟨⟨(), rfl, trivial, by rw [ht]; exact hP9, va_K.moved hW.alike hK9, hD9⟩, hS.F ht⟩) hS.2.2 dX2_addClass_32
set_option maxHeartbeats 4000000 in
set_option maxRecDepth 100000 in
/-- kk_readClass -/
theorem kk_readClass (l : Launch) (dC : Nat → ClassId) (dI : Nat → Nat → Nat) (sz : Nat) (qo3 : Nat) (qo2 : Nat) (qo4 : Nat) (qo10 : Nat) (qo11 : Nat) (qo12 : Nat) (qo13 : Nat) (qo14 : Nat) (qo15 : Nat) (qo16 : Nat) (qo17 : Nat) (co2 : ClassId) (fk : (Nat → Int32)) (co3 : ClassId) (fp : (Nat → Int32)) (qo18 : Nat) (qo19 : Nat) (qo20 : Nat) (qo21 : Nat) (qo22 : Nat) (qo23 : Nat) (qo24 : Nat) (qo25 : Nat) (qo26 : Nat) (qo27 : Nat) (qo28 : Nat) (qo29 : Nat) (qo30 : Nat) (qo31 : Nat) (qo32 : Nat) (qo33 : Nat) (qo34 : Nat) (qo35 : Nat) (co7 : ClassId) (hk0 : fk 0 = 0) (hp0 : fp 0 = 0) : Met l yX8_readClass (.code yX8_readClass cX8_readClass 2 none :: VS_k1) ({ frames := 2, cells := 0, slots := 0, locals := 42 }) (va_Pc [.ref qo3] (fun U => U.heap.size = sz ∧ va_P (dC, dI) vwCl [(qo3, .inr (8, [.ref qo2, .ref qo4])), (qo2, .inr (9, [.ref qo10, .ref qo11, .ref qo12, .int 1, .ref qo13, .ref qo14, .ref qo15, .ref qo16, .ref qo17, .int 32, .int 0, .int 0, .int (-1)])), (qo10, .inl (co2, 3001, .inl fk)), (qo11, .inl (co3, 3001, .inl fp)), (qo4, .inr (2, [.ref qo2, .ref qo18, .int 0, .ref qo19, .ref qo20, .ref qo21, .ref qo22, .ref qo23, .ref qo24, .ref qo25, .ref qo26, .ref qo27, .ref qo28, .ref qo29, .ref qo30, .ref qo31, .ref qo32, .ref qo33, .ref qo34, .ref qo35, .int 0])), (qo19, .inl (co7, 334, .inl (fun _ => 0)))] U.heap ∧ va_K (dC, dI) vwCl [(co2, .int), (co3, .int), (co7, .int)] U ∧ va_D (fun _ => True) [(qo3, .inr (8, [.ref qo2, .ref qo4])), (qo2, .inr (9, [.ref qo10, .ref qo11, .ref qo12, .int 1, .ref qo13, .ref qo14, .ref qo15, .ref qo16, .ref qo17, .int 32, .int 0, .int 0, .int (-1)])), (qo10, .inl (co2, 3001, .inl fk)), (qo11, .inl (co3, 3001, .inl fp)), (qo4, .inr (2, [.ref qo2, .ref qo18, .int 0, .ref qo19, .ref qo20, .ref qo21, .ref qo22, .ref qo23, .ref qo24, .ref qo25, .ref qo26, .ref qo27, .ref qo28, .ref qo29, .ref qo30, .ref qo31, .ref qo32, .ref qo33, .ref qo34, .ref qo35, .int 0])), (qo19, .inl (co7, 334, .inl (fun _ => 0)))])) (va_Qv (fun (u : Unit) => match u with | () => True) (fun (u : Unit) (t : State) => match u with | () => va_P (dC, dI) vwCl [(qo3, .inr (8, [.ref qo2, .ref qo4])), (qo2, .inr (9, [.ref qo10, .ref qo11, .ref qo12, .int 1, .ref qo13, .ref qo14, .ref qo15, .ref qo16, .ref qo17, .int 32, .int 0, .int 2, .int 0])), (qo4, .inr (2, [.ref qo2, .ref qo18, .int 1, .ref qo19, .ref qo20, .ref qo21, .ref qo22, .ref qo23, .ref qo24, .ref qo25, .ref qo26, .ref qo27, .ref qo28, .ref qo29, .ref qo30, .ref qo31, .ref qo32, .ref qo33, .ref qo34, .ref qo35, .int 0]))] t.heap ∧ va_K (dC, dI) vwCl [] t ∧ va_D (va_A [(qo3, .inr (8, [.ref qo2, .ref qo4])), (qo2, .inr (9, [.ref qo10, .ref qo11, .ref qo12, .int 1, .ref qo13, .ref qo14, .ref qo15, .ref qo16, .ref qo17, .int 32, .int 0, .int 0, .int (-1)])), (qo10, .inl (co2, 3001, .inl fk)), (qo11, .inl (co3, 3001, .inl fp)), (qo4, .inr (2, [.ref qo2, .ref qo18, .int 0, .ref qo19, .ref qo20, .ref qo21, .ref qo22, .ref qo23, .ref qo24, .ref qo25, .ref qo26, .ref qo27, .ref qo28, .ref qo29, .ref qo30, .ref qo31, .ref qo32, .ref qo33, .ref qo34, .ref qo35, .int 0])), (qo19, .inl (co7, 334, .inl (fun _ => 0)))] sz) [(qo3, .inr (8, [.ref qo2, .ref qo4])), (qo2, .inr (9, [.ref qo10, .ref qo11, .ref qo12, .int 1, .ref qo13, .ref qo14, .ref qo15, .ref qo16, .ref qo17, .int 32, .int 0, .int 2, .int 0])), (qo4, .inr (2, [.ref qo2, .ref qo18, .int 1, .ref qo19, .ref qo20, .ref qo21, .ref qo22, .ref qo23, .ref qo24, .ref qo25, .ref qo26, .ref qo27, .ref qo28, .ref qo29, .ref qo30, .ref qo31, .ref qo32, .ref qo33, .ref qo34, .ref qo35, .int 0]))]) (va_A [(qo3, .inr (8, [.ref qo2, .ref qo4])), (qo2, .inr (9, [.ref qo10, .ref qo11, .ref qo12, .int 1, .ref qo13, .ref qo14, .ref qo15, .ref qo16, .ref qo17, .int 32, .int 0, .int 0, .int (-1)])), (qo10, .inl (co2, 3001, .inl fk)), (qo11, .inl (co3, 3001, .inl fp)), (qo4, .inr (2, [.ref qo2, .ref qo18, .int 0, .ref qo19, .ref qo20, .ref qo21, .ref qo22, .ref qo23, .ref qo24, .ref qo25, .ref qo26, .ref qo27, .ref qo28, .ref qo29, .ref qo30, .ref qo31, .ref qo32, .ref qo33, .ref qo34, .ref qo35, .int 0])), (qo19, .inl (co7, 334, .inl (fun _ => 0)))] sz)) 0 0 (va_A [(qo3, .inr (8, [.ref qo2, .ref qo4])), (qo2, .inr (9, [.ref qo10, .ref qo11, .ref qo12, .int 1, .ref qo13, .ref qo14, .ref qo15, .ref qo16, .ref qo17, .int 32, .int 0, .int 0, .int (-1)])), (qo10, .inl (co2, 3001, .inl fk)), (qo11, .inl (co3, 3001, .inl fp)), (qo4, .inr (2, [.ref qo2, .ref qo18, .int 0, .ref qo19, .ref qo20, .ref qo21, .ref qo22, .ref qo23, .ref qo24, .ref qo25, .ref qo26, .ref qo27, .ref qo28, .ref qo29, .ref qo30, .ref qo31, .ref qo32, .ref qo33, .ref qo34, .ref qo35, .int 0])), (qo19, .inl (co7, 334, .inl (fun _ => 0)))] sz) := by
  refine Met.ofW (cc := cX8_readClass) (maxL := 2) (ret := none) (by decide) rfl ?_
  intro p e s m args below meth c s₁ B hml hv
  obtain ⟨rfl, hsz, hP, hK, hD0⟩ := hv
  have hx := B.exec
  have hb := B.bytes
  have hr := B.returns
  have hts := atoms_spec (ws := (.code yX8_readClass cX8_readClass 2 none :: VS_k1)) B.pre
  replace hts := fun w (h : w ∈ VS_k1) => hts w (List.mem_cons_of_mem _ h)
  have hown : s.vm.findClass RX8 = some m.cls := findClass_of_methodNamed B.named
  have hlocks := B.notSynchronized
  subst hsz
  have hD := hD0.self (sz := s.heap.size)
  generalize hAe : va_A [(qo3, .inr (8, [.ref qo2, .ref qo4])), (qo2, .inr (9, [.ref qo10, .ref qo11, .ref qo12, .int 1, .ref qo13, .ref qo14, .ref qo15, .ref qo16, .ref qo17, .int 32, .int 0, .int 0, .int (-1)])), (qo10, .inl (co2, 3001, .inl fk)), (qo11, .inl (co3, 3001, .inl fp)), (qo4, .inr (2, [.ref qo2, .ref qo18, .int 0, .ref qo19, .ref qo20, .ref qo21, .ref qo22, .ref qo23, .ref qo24, .ref qo25, .ref qo26, .ref qo27, .ref qo28, .ref qo29, .ref qo30, .ref qo31, .ref qo32, .ref qo33, .ref qo34, .ref qo35, .int 0])), (qo19, .inl (co7, 334, .inl (fun _ => 0)))] s.heap.size = A at hD  ⊢
  have hA : ∀ q : Nat, s.heap.size ≤ q → A q := fun q h => by rw [← hAe]; exact Or.inr h
  have hP : va_P (dC, dI) vwCl [(qo3, .inr (8, [.ref qo2, .ref qo4])), (qo2, .inr (9, [.ref qo10, .ref qo11, .ref qo12, .int 1, .ref qo13, .ref qo14, .ref qo15, .ref qo16, .ref qo17, .int 32, .int 0, .int 0, .int (-1)])), (qo10, .inl (co2, 3001, .inl fk)), (qo11, .inl (co3, 3001, .inl fp)), (qo4, .inr (2, [.ref qo2, .ref qo18, .int 0, .ref qo19, .ref qo20, .ref qo21, .ref qo22, .ref qo23, .ref qo24, .ref qo25, .ref qo26, .ref qo27, .ref qo28, .ref qo29, .ref qo30, .ref qo31, .ref qo32, .ref qo33, .ref qo34, .ref qo35, .int 0])), (qo19, .inl (co7, 334, .inl (fun _ => 0)))] s.heap := hP
  have hl := lv_entry ([.ref qo3]) (n := 2) (Nat.le_of_ble_eq_true rfl)
  rw [lg_entry_eq]
  generalize (lg_sl ([.ref qo3]) ++ List.replicate (2 - (lg_sl ([.ref qo3])).length) Slot.unset).toArray = ls at hl ⊢
  have hl : lv_has ls 2 [(0, .ref qo3)] := hl
  obtain ⟨H, hH⟩ : ∃ H : Heap, s.heap = H := ⟨_, rfl⟩
  rw [hH] at hP ⊢
  have hS : va_S A s.heap H [] := by rw [← hH]; exact va_S.rf
  obtain ⟨locs, hlo⟩ : ∃ locs : List Loc, locs = [] := ⟨_, rfl⟩
  rw [← hlo] at hS ⊢
  refine lv_aload_n hx hb dX8_readClass_0 rfl (lv_at hl 0 rfl) ?_
  refine lv_bipush (v := 13) hx hb dX8_readClass_1 (by decide) ?_
  have hPc := hP.sub (ws' := [(qo3, .inr (8, [.ref qo2, .ref qo4])), (qo2, .inr (9, [.ref qo10, .ref qo11, .ref qo12, .int 1, .ref qo13, .ref qo14, .ref qo15, .ref qo16, .ref qo17, .int 32, .int 0, .int 0, .int (-1)])), (qo10, .inl (co2, 3001, .inl fk)), (qo11, .inl (co3, 3001, .inl fp))]) [0, 1, 2, 3] rfl
  have hDc := hD.sub (ws' := [(qo3, .inr (8, [.ref qo2, .ref qo4])), (qo2, .inr (9, [.ref qo10, .ref qo11, .ref qo12, .int 1, .ref qo13, .ref qo14, .ref qo15, .ref qo16, .ref qo17, .int 32, .int 0, .int 0, .int (-1)])), (qo10, .inl (co2, 3001, .inl fk)), (qo11, .inl (co3, 3001, .inl fp))]) [0, 1, 2, 3] (by decide) rfl
  have hKc := hK.sub (tys' := [(co2, .int), (co3, .int)]) [0, 1] rfl
  have hFc := va_free (wc := [(qo3, .inr (8, [.ref qo2, .ref qo4])), (qo2, .inr (9, [.ref qo10, .ref qo11, .ref qo12, .int 1, .ref qo13, .ref qo14, .ref qo15, .ref qo16, .ref qo17, .int 32, .int 0, .int 0, .int (-1)])), (qo10, .inl (co2, 3001, .inl fk)), (qo11, .inl (co3, 3001, .inl fp))]) hD hS hA [0, 1, 2, 3] rfl
  refine va_callv (va_runV (As := [.int 13]) (rest := []) ⟨hx, hb, hml, hown, hts⟩ (kk_need0 l dC dI H.size qo3 qo2 qo4 qo10 qo11 qo12 qo13 qo14 qo15 qo16 qo17 co2 fk co3 fp hk0 hp0) (cwV 1 hts gv_k1_44 rfl rfl rfl (by decide +kernel) ⟨Nat.le_of_ble_eq_true rfl, Nat.le_of_ble_eq_true rfl⟩) ⟨fun a U g mk q => by obtain ⟨q0, q1, qP, qK, qD⟩ := q; exact ⟨q0, q1, qP, va_K.moved (u := U) (U := U.calling g mk a) (Vm.Alike.refl U.vm) qK, qD⟩, va_recv hKc hPc (ci := 8) (q0 := 0) rfl rfl, fun U hU hW => ⟨rfl, by rw [hU], by rw [hU]; exact hPc, va_K.moved hW.alike hKc, hDc.weaken (fun _ _ _ _ => trivial)⟩⟩ rfl rfl hl.1 rfl (lv_room (Nat.le_of_ble_eq_true rfl)) dX8_readClass_3 ⟨Nat.le_of_ble_eq_true rfl, Nat.le_of_ble_eq_true rfl⟩) hS (fun q _ h => hFc q h) hFc ?_
  clear hS
  intro u t H1 locs ht hvm hw hB hz1 hk1 hS
  obtain ⟨⟩ := u
  obtain ⟨hP1, hK1, hD1⟩ := hB
  rw [ht] at hP1
  have hK1 := va_K.moved hvm.symm hK1
  try dsimp only at hw
  have hPD := va_join (wr := [(qo4, .inr (2, [.ref qo2, .ref qo18, .int 0, .ref qo19, .ref qo20, .ref qo21, .ref qo22, .ref qo23, .ref qo24, .ref qo25, .ref qo26, .ref qo27, .ref qo28, .ref qo29, .ref qo30, .ref qo31, .ref qo32, .ref qo33, .ref qo34, .ref qo35, .int 0])), (qo19, .inl (co7, 334, .inl (fun _ => 0)))]) (w1 := [(qo3, .inr (8, [.ref qo2, .ref qo4])), (qo2, .inr (9, [.ref qo10, .ref qo11, .ref qo12, .int 1, .ref qo13, .ref qo14, .ref qo15, .ref qo16, .ref qo17, .int 32, .int 0, .int 2, .int 0]))]) hP hD [0, 1, 2, 3] [4, 5] rfl rfl (by decide) (by decide) hk1 hFc hP1 hD1
  clear hP hD
  obtain ⟨hP, hD⟩ := hPD
  replace hK := (hK.sub (tys' := [(co7, .int)]) [2] rfl).app hK1
  clear hPc hDc hKc hFc hP1 hK1 hD1 hz1 hk1 ht hvm
  generalize H1 = H at hP hS ⊢
  replace hP : va_P (dC, dI) vwCl [(qo4, .inr (2, [.ref qo2, .ref qo18, .int 0, .ref qo19, .ref qo20, .ref qo21, .ref qo22, .ref qo23, .ref qo24, .ref qo25, .ref qo26, .ref qo27, .ref qo28, .ref qo29, .ref qo30, .ref qo31, .ref qo32, .ref qo33, .ref qo34, .ref qo35, .int 0])), (qo19, .inl (co7, 334, .inl (fun _ => 0))), (qo3, .inr (8, [.ref qo2, .ref qo4])), (qo2, .inr (9, [.ref qo10, .ref qo11, .ref qo12, .int 1, .ref qo13, .ref qo14, .ref qo15, .ref qo16, .ref qo17, .int 32, .int 0, .int 2, .int 0]))] H := hP
  replace hD : va_D A [(qo4, .inr (2, [.ref qo2, .ref qo18, .int 0, .ref qo19, .ref qo20, .ref qo21, .ref qo22, .ref qo23, .ref qo24, .ref qo25, .ref qo26, .ref qo27, .ref qo28, .ref qo29, .ref qo30, .ref qo31, .ref qo32, .ref qo33, .ref qo34, .ref qo35, .int 0])), (qo19, .inl (co7, 334, .inl (fun _ => 0))), (qo3, .inr (8, [.ref qo2, .ref qo4])), (qo2, .inr (9, [.ref qo10, .ref qo11, .ref qo12, .int 1, .ref qo13, .ref qo14, .ref qo15, .ref qo16, .ref qo17, .int 32, .int 0, .int 2, .int 0]))] := hD
  replace hK : va_K (dC, dI) vwCl [(co7, .int)] s := hK
  refine lv_aload_n hx hb dX8_readClass_6 rfl (lv_at hl 0 rfl) ?_
  refine va_get (D := (dC, dI)) (ci := 8) (v := .ref qo4) (C := RX8) (T := TX8) (N := 2) hx hb hts uV_k1_X8 hown hK hP 2 rfl rfl 1 (by decide) (hts (.fieldLink RX8 13 "ClassMill$Syntax" "heads" "LClassMill$Heads;") mw_k1_209) (fun _ h9 => h9) rfl dX8_readClass_7 ?_
  refine lv_aload_n hx hb dX8_readClass_10 rfl (lv_at hl 0 rfl) ?_
  refine va_get (D := (dC, dI)) (ci := 8) (v := .ref qo2) (C := RX8) (T := TX8) (N := 2) hx hb hts uV_k1_X8 hown hK hP 2 rfl rfl 0 (by decide) (hts (.fieldLink RX8 7 "ClassMill$Syntax" "text" "LClassMill$Text;") mw_k1_193) (fun _ h9 => h9) rfl dX8_readClass_11 ?_
  refine va_get (D := (dC, dI)) (ci := 9) (v := .int 0) (C := RX9) (T := TX9) (N := 13) hx hb hts uV_k1_X9 hown hK hP 3 rfl rfl 10 (by decide) (hts (.fieldLink RX8 30 "ClassMill$Text" "pos" "I") mw_k1_210) (fun _ h9 => h9) rfl dX8_readClass_14 ?_
  have hPc := hP.sub (ws' := [(qo4, .inr (2, [.ref qo2, .ref qo18, .int 0, .ref qo19, .ref qo20, .ref qo21, .ref qo22, .ref qo23, .ref qo24, .ref qo25, .ref qo26, .ref qo27, .ref qo28, .ref qo29, .ref qo30, .ref qo31, .ref qo32, .ref qo33, .ref qo34, .ref qo35, .int 0])), (qo19, .inl (co7, 334, .inl (fun _ => 0)))]) [0, 1] rfl
  have hDc := hD.sub (ws' := [(qo4, .inr (2, [.ref qo2, .ref qo18, .int 0, .ref qo19, .ref qo20, .ref qo21, .ref qo22, .ref qo23, .ref qo24, .ref qo25, .ref qo26, .ref qo27, .ref qo28, .ref qo29, .ref qo30, .ref qo31, .ref qo32, .ref qo33, .ref qo34, .ref qo35, .int 0])), (qo19, .inl (co7, 334, .inl (fun _ => 0)))]) [0, 1] (by decide) rfl
  have hKc := hK.sub (tys' := [(co7, .int)]) [0] rfl
  have hFc := va_free (wc := [(qo4, .inr (2, [.ref qo2, .ref qo18, .int 0, .ref qo19, .ref qo20, .ref qo21, .ref qo22, .ref qo23, .ref qo24, .ref qo25, .ref qo26, .ref qo27, .ref qo28, .ref qo29, .ref qo30, .ref qo31, .ref qo32, .ref qo33, .ref qo34, .ref qo35, .int 0])), (qo19, .inl (co7, 334, .inl (fun _ => 0)))]) hD hS hA [0, 1] rfl
  refine va_callv (va_runV (As := [.int 0]) (rest := []) ⟨hx, hb, hml, hown, hts⟩ (kk_addClass l dC dI H.size qo4 qo2 qo18 qo19 qo20 qo21 qo22 qo23 qo24 qo25 qo26 qo27 qo28 qo29 qo30 qo31 qo32 qo33 qo34 qo35 co7) (cwV 1 hts gv_k1_45 rfl rfl rfl (by decide +kernel) ⟨Nat.le_of_ble_eq_true rfl, Nat.le_of_ble_eq_true rfl⟩) ⟨fun a U g mk q => by obtain ⟨q0, q1, qP, qK, qD⟩ := q; exact ⟨q0, q1, qP, va_K.moved (u := U) (U := U.calling g mk a) (Vm.Alike.refl U.vm) qK, qD⟩, va_recv hKc hPc (ci := 2) (q0 := 0) rfl rfl, fun U hU hW => ⟨rfl, by rw [hU], by rw [hU]; exact hPc, va_K.moved hW.alike hKc, hDc.weaken (fun _ _ _ _ => trivial)⟩⟩ rfl rfl hl.1 rfl (lv_room (Nat.le_of_ble_eq_true rfl)) dX8_readClass_17 ⟨Nat.le_of_ble_eq_true rfl, Nat.le_of_ble_eq_true rfl⟩) hS (fun q _ h => hFc q h) hFc ?_
  clear hS
  intro u t H1 locs ht hvm hw hB hz1 hk1 hS
  obtain ⟨⟩ := u
  obtain ⟨hP1, hK1, hD1⟩ := hB
  rw [ht] at hP1
  have hK1 := va_K.moved hvm.symm hK1
  try dsimp only at hw
  have hPD := va_join (wr := [(qo3, .inr (8, [.ref qo2, .ref qo4])), (qo2, .inr (9, [.ref qo10, .ref qo11, .ref qo12, .int 1, .ref qo13, .ref qo14, .ref qo15, .ref qo16, .ref qo17, .int 32, .int 0, .int 2, .int 0]))]) (w1 := [(qo4, .inr (2, [.ref qo2, .ref qo18, .int 1, .ref qo19, .ref qo20, .ref qo21, .ref qo22, .ref qo23, .ref qo24, .ref qo25, .ref qo26, .ref qo27, .ref qo28, .ref qo29, .ref qo30, .ref qo31, .ref qo32, .ref qo33, .ref qo34, .ref qo35, .int 0]))]) hP hD [0, 1] [2, 3] rfl rfl (by decide) (by decide) hk1 hFc hP1 hD1
  clear hP hD
  obtain ⟨hP, hD⟩ := hPD
  replace hK := (hK.sub (tys' := []) [] rfl).app hK1
  clear hPc hDc hKc hFc hP1 hK1 hD1 hz1 hk1 ht hvm
  generalize H1 = H at hP hS ⊢
  replace hP : va_P (dC, dI) vwCl [(qo3, .inr (8, [.ref qo2, .ref qo4])), (qo2, .inr (9, [.ref qo10, .ref qo11, .ref qo12, .int 1, .ref qo13, .ref qo14, .ref qo15, .ref qo16, .ref qo17, .int 32, .int 0, .int 2, .int 0])), (qo4, .inr (2, [.ref qo2, .ref qo18, .int 1, .ref qo19, .ref qo20, .ref qo21, .ref qo22, .ref qo23, .ref qo24, .ref qo25, .ref qo26, .ref qo27, .ref qo28, .ref qo29, .ref qo30, .ref qo31, .ref qo32, .ref qo33, .ref qo34, .ref qo35, .int 0]))] H := hP
  replace hD : va_D A [(qo3, .inr (8, [.ref qo2, .ref qo4])), (qo2, .inr (9, [.ref qo10, .ref qo11, .ref qo12, .int 1, .ref qo13, .ref qo14, .ref qo15, .ref qo16, .ref qo17, .int 32, .int 0, .int 2, .int 0])), (qo4, .inr (2, [.ref qo2, .ref qo18, .int 1, .ref qo19, .ref qo20, .ref qo21, .ref qo22, .ref qo23, .ref qo24, .ref qo25, .ref qo26, .ref qo27, .ref qo28, .ref qo29, .ref qo30, .ref qo31, .ref qo32, .ref qo33, .ref qo34, .ref qo35, .int 0]))] := hD
  replace hK : va_K (dC, dI) vwCl [] s := hK
  refine lv_aload_n hx hb dX8_readClass_20 rfl (lv_at hl 0 rfl) ?_
  refine lv_iconst (v := 2) hx hb dX8_readClass_21 (by decide) ?_
  have hPc := hP.sub (ws' := [(qo3, .inr (8, [.ref qo2, .ref qo4])), (qo2, .inr (9, [.ref qo10, .ref qo11, .ref qo12, .int 1, .ref qo13, .ref qo14, .ref qo15, .ref qo16, .ref qo17, .int 32, .int 0, .int 2, .int 0]))]) [0, 1] rfl
  have hDc := hD.sub (ws' := [(qo3, .inr (8, [.ref qo2, .ref qo4])), (qo2, .inr (9, [.ref qo10, .ref qo11, .ref qo12, .int 1, .ref qo13, .ref qo14, .ref qo15, .ref qo16, .ref qo17, .int 32, .int 0, .int 2, .int 0]))]) [0, 1] (by decide) rfl
  have hKc := hK.sub (tys' := []) [] rfl
  have hFc := va_free (wc := [(qo3, .inr (8, [.ref qo2, .ref qo4])), (qo2, .inr (9, [.ref qo10, .ref qo11, .ref qo12, .int 1, .ref qo13, .ref qo14, .ref qo15, .ref qo16, .ref qo17, .int 32, .int 0, .int 2, .int 0]))]) hD hS hA [0, 1] rfl
  refine va_callv (va_runV (As := [.int 2]) (rest := []) ⟨hx, hb, hml, hown, hts⟩ (kk_need2_2 l dC dI H.size qo3 qo2 qo4 qo10 qo11 qo12 qo13 qo14 qo15 qo16 qo17) (cwV 1 hts gv_k1_46 rfl rfl rfl (by decide +kernel) ⟨Nat.le_of_ble_eq_true rfl, Nat.le_of_ble_eq_true rfl⟩) ⟨fun a U g mk q => by obtain ⟨q0, q1, qP, qK, qD⟩ := q; exact ⟨q0, q1, qP, va_K.moved (u := U) (U := U.calling g mk a) (Vm.Alike.refl U.vm) qK, qD⟩, va_recv hKc hPc (ci := 8) (q0 := 0) rfl rfl, fun U hU hW => ⟨rfl, by rw [hU], by rw [hU]; exact hPc, va_K.moved hW.alike hKc, hDc.weaken (fun _ _ _ _ => trivial)⟩⟩ rfl rfl hl.1 rfl (lv_room (Nat.le_of_ble_eq_true rfl)) dX8_readClass_22 ⟨Nat.le_of_ble_eq_true rfl, Nat.le_of_ble_eq_true rfl⟩) hS (fun q _ h => hFc q h) hFc ?_
  clear hS
  intro u t H1 locs ht hvm hw hB hz1 hk1 hS
  obtain ⟨⟩ := u
  obtain ⟨hP1, hK1, hD1⟩ := hB
  rw [ht] at hP1
  have hK1 := va_K.moved hvm.symm hK1
  try dsimp only at hw
  have hPD := va_join (wr := [(qo4, .inr (2, [.ref qo2, .ref qo18, .int 1, .ref qo19, .ref qo20, .ref qo21, .ref qo22, .ref qo23, .ref qo24, .ref qo25, .ref qo26, .ref qo27, .ref qo28, .ref qo29, .ref qo30, .ref qo31, .ref qo32, .ref qo33, .ref qo34, .ref qo35, .int 0]))]) (w1 := [(qo3, .inr (8, [.ref qo2, .ref qo4])), (qo2, .inr (9, [.ref qo10, .ref qo11, .ref qo12, .int 1, .ref qo13, .ref qo14, .ref qo15, .ref qo16, .ref qo17, .int 32, .int 0, .int 2, .int 0]))]) hP hD [0, 1] [2] rfl rfl (by decide) (by decide) hk1 hFc hP1 hD1
  clear hP hD
  obtain ⟨hP, hD⟩ := hPD
  replace hK := (hK.sub (tys' := []) [] rfl).app hK1
  clear hPc hDc hKc hFc hP1 hK1 hD1 hz1 hk1 ht hvm
  generalize H1 = H at hP hS ⊢
  replace hP : va_P (dC, dI) vwCl [(qo4, .inr (2, [.ref qo2, .ref qo18, .int 1, .ref qo19, .ref qo20, .ref qo21, .ref qo22, .ref qo23, .ref qo24, .ref qo25, .ref qo26, .ref qo27, .ref qo28, .ref qo29, .ref qo30, .ref qo31, .ref qo32, .ref qo33, .ref qo34, .ref qo35, .int 0])), (qo3, .inr (8, [.ref qo2, .ref qo4])), (qo2, .inr (9, [.ref qo10, .ref qo11, .ref qo12, .int 1, .ref qo13, .ref qo14, .ref qo15, .ref qo16, .ref qo17, .int 32, .int 0, .int 2, .int 0]))] H := hP
  replace hD : va_D A [(qo4, .inr (2, [.ref qo2, .ref qo18, .int 1, .ref qo19, .ref qo20, .ref qo21, .ref qo22, .ref qo23, .ref qo24, .ref qo25, .ref qo26, .ref qo27, .ref qo28, .ref qo29, .ref qo30, .ref qo31, .ref qo32, .ref qo33, .ref qo34, .ref qo35, .int 0])), (qo3, .inr (8, [.ref qo2, .ref qo4])), (qo2, .inr (9, [.ref qo10, .ref qo11, .ref qo12, .int 1, .ref qo13, .ref qo14, .ref qo15, .ref qo16, .ref qo17, .int 32, .int 0, .int 2, .int 0]))] := hD
  replace hK : va_K (dC, dI) vwCl [] s := hK
  refine lv_aload_n hx hb dX8_readClass_25 rfl (lv_at hl 0 rfl) ?_
  refine lv_bipush (v := 16) hx hb dX8_readClass_26 (by decide) ?_
  have hPc := hP.sub (ws' := [(qo3, .inr (8, [.ref qo2, .ref qo4])), (qo2, .inr (9, [.ref qo10, .ref qo11, .ref qo12, .int 1, .ref qo13, .ref qo14, .ref qo15, .ref qo16, .ref qo17, .int 32, .int 0, .int 2, .int 0]))]) [1, 2] rfl
  have hDc := hD.sub (ws' := [(qo3, .inr (8, [.ref qo2, .ref qo4])), (qo2, .inr (9, [.ref qo10, .ref qo11, .ref qo12, .int 1, .ref qo13, .ref qo14, .ref qo15, .ref qo16, .ref qo17, .int 32, .int 0, .int 2, .int 0]))]) [1, 2] (by decide) rfl
  have hKc := hK.sub (tys' := []) [] rfl
  have hFc := va_free (wc := [(qo3, .inr (8, [.ref qo2, .ref qo4])), (qo2, .inr (9, [.ref qo10, .ref qo11, .ref qo12, .int 1, .ref qo13, .ref qo14, .ref qo15, .ref qo16, .ref qo17, .int 32, .int 0, .int 2, .int 0]))]) hD hS hA [1, 2] rfl
  refine va_calli (va_runV (As := [.int 16]) (rest := []) ⟨hx, hb, hml, hown, hts⟩ (kk_accept2 l dC dI H.size qo3 qo2 qo4 qo10 qo11 qo12 qo13 qo14 qo15 qo16 qo17) (cwV 1 hts gv_k1_47 rfl rfl rfl (by decide +kernel) ⟨Nat.le_of_ble_eq_true rfl, Nat.le_of_ble_eq_true rfl⟩) ⟨fun a U g mk q => by obtain ⟨q0, q1, qP, qK, qD⟩ := q; exact ⟨q0, q1, qP, va_K.moved (u := U) (U := U.calling g mk a) (Vm.Alike.refl U.vm) qK, qD⟩, va_recv hKc hPc (ci := 8) (q0 := 0) rfl rfl, fun U hU hW => ⟨rfl, by rw [hU], by rw [hU]; exact hPc, va_K.moved hW.alike hKc, hDc.weaken (fun _ _ _ _ => trivial)⟩⟩ rfl rfl hl.1 rfl (lv_room (Nat.le_of_ble_eq_true rfl)) dX8_readClass_28 ⟨Nat.le_of_ble_eq_true rfl, Nat.le_of_ble_eq_true rfl⟩) hS (fun q _ h => hFc q h) hFc ?_
  clear hS
  intro r_1 u t H1 locs ht hvm hw hB hz1 hk1 hS
  obtain ⟨⟩ := u
  obtain ⟨hP1, hK1, hD1⟩ := hB
  rw [ht] at hP1
  have hK1 := va_K.moved hvm.symm hK1
  try dsimp only at hw
  have hPD := va_join (wr := [(qo4, .inr (2, [.ref qo2, .ref qo18, .int 1, .ref qo19, .ref qo20, .ref qo21, .ref qo22, .ref qo23, .ref qo24, .ref qo25, .ref qo26, .ref qo27, .ref qo28, .ref qo29, .ref qo30, .ref qo31, .ref qo32, .ref qo33, .ref qo34, .ref qo35, .int 0]))]) (w1 := [(qo3, .inr (8, [.ref qo2, .ref qo4])), (qo2, .inr (9, [.ref qo10, .ref qo11, .ref qo12, .int 1, .ref qo13, .ref qo14, .ref qo15, .ref qo16, .ref qo17, .int 32, .int 0, .int 2, .int 0]))]) hP hD [1, 2] [0] rfl rfl (by decide) (by decide) hk1 hFc hP1 hD1
  clear hP hD
  obtain ⟨hP, hD⟩ := hPD
  replace hK := (hK.sub (tys' := []) [] rfl).app hK1
  clear hPc hDc hKc hFc hP1 hK1 hD1 hz1 hk1 ht hvm
  generalize H1 = H at hP hS ⊢
  replace hP : va_P (dC, dI) vwCl [(qo4, .inr (2, [.ref qo2, .ref qo18, .int 1, .ref qo19, .ref qo20, .ref qo21, .ref qo22, .ref qo23, .ref qo24, .ref qo25, .ref qo26, .ref qo27, .ref qo28, .ref qo29, .ref qo30, .ref qo31, .ref qo32, .ref qo33, .ref qo34, .ref qo35, .int 0])), (qo3, .inr (8, [.ref qo2, .ref qo4])), (qo2, .inr (9, [.ref qo10, .ref qo11, .ref qo12, .int 1, .ref qo13, .ref qo14, .ref qo15, .ref qo16, .ref qo17, .int 32, .int 0, .int 2, .int 0]))] H := hP
  replace hD : va_D A [(qo4, .inr (2, [.ref qo2, .ref qo18, .int 1, .ref qo19, .ref qo20, .ref qo21, .ref qo22, .ref qo23, .ref qo24, .ref qo25, .ref qo26, .ref qo27, .ref qo28, .ref qo29, .ref qo30, .ref qo31, .ref qo32, .ref qo33, .ref qo34, .ref qo35, .int 0])), (qo3, .inr (8, [.ref qo2, .ref qo4])), (qo2, .inr (9, [.ref qo10, .ref qo11, .ref qo12, .int 1, .ref qo13, .ref qo14, .ref qo15, .ref qo16, .ref qo17, .int 32, .int 0, .int 2, .int 0]))] := hD
  replace hK : va_K (dC, dI) vwCl [] s := hK
  subst hw
  refine lv_if_eq (tgt := 39) hx hb dX8_readClass_31 (by decide) (fun c_2 => ?_) (fun c_2 => (show False by revert c_2; decide).elim)
  refine lv_aload_n hx hb dX8_readClass_39 rfl (lv_at hl 0 rfl) ?_
  refine lv_bipush (v := 42) hx hb dX8_readClass_40 (by decide) ?_
  have hPc := hP.sub (ws' := [(qo3, .inr (8, [.ref qo2, .ref qo4])), (qo2, .inr (9, [.ref qo10, .ref qo11, .ref qo12, .int 1, .ref qo13, .ref qo14, .ref qo15, .ref qo16, .ref qo17, .int 32, .int 0, .int 2, .int 0]))]) [1, 2] rfl
  have hDc := hD.sub (ws' := [(qo3, .inr (8, [.ref qo2, .ref qo4])), (qo2, .inr (9, [.ref qo10, .ref qo11, .ref qo12, .int 1, .ref qo13, .ref qo14, .ref qo15, .ref qo16, .ref qo17, .int 32, .int 0, .int 2, .int 0]))]) [1, 2] (by decide) rfl
  have hKc := hK.sub (tys' := []) [] rfl
  have hFc := va_free (wc := [(qo3, .inr (8, [.ref qo2, .ref qo4])), (qo2, .inr (9, [.ref qo10, .ref qo11, .ref qo12, .int 1, .ref qo13, .ref qo14, .ref qo15, .ref qo16, .ref qo17, .int 32, .int 0, .int 2, .int 0]))]) hD hS hA [1, 2] rfl
  refine va_callv (va_runV (As := [.int 42]) (rest := []) ⟨hx, hb, hml, hown, hts⟩ (kk_need2_42 l dC dI H.size qo3 qo2 qo4 qo10 qo11 qo12 qo13 qo14 qo15 qo16 qo17) (cwV 1 hts gv_k1_48 rfl rfl rfl (by decide +kernel) ⟨Nat.le_of_ble_eq_true rfl, Nat.le_of_ble_eq_true rfl⟩) ⟨fun a U g mk q => by obtain ⟨q0, q1, qP, qK, qD⟩ := q; exact ⟨q0, q1, qP, va_K.moved (u := U) (U := U.calling g mk a) (Vm.Alike.refl U.vm) qK, qD⟩, va_recv hKc hPc (ci := 8) (q0 := 0) rfl rfl, fun U hU hW => ⟨rfl, by rw [hU], by rw [hU]; exact hPc, va_K.moved hW.alike hKc, hDc.weaken (fun _ _ _ _ => trivial)⟩⟩ rfl rfl hl.1 rfl (lv_room (Nat.le_of_ble_eq_true rfl)) dX8_readClass_42 ⟨Nat.le_of_ble_eq_true rfl, Nat.le_of_ble_eq_true rfl⟩) hS (fun q _ h => hFc q h) hFc ?_
  clear hS
  intro u t H1 locs ht hvm hw hB hz1 hk1 hS
  obtain ⟨⟩ := u
  obtain ⟨hP1, hK1, hD1⟩ := hB
  rw [ht] at hP1
  have hK1 := va_K.moved hvm.symm hK1
  try dsimp only at hw
  have hPD := va_join (wr := [(qo4, .inr (2, [.ref qo2, .ref qo18, .int 1, .ref qo19, .ref qo20, .ref qo21, .ref qo22, .ref qo23, .ref qo24, .ref qo25, .ref qo26, .ref qo27, .ref qo28, .ref qo29, .ref qo30, .ref qo31, .ref qo32, .ref qo33, .ref qo34, .ref qo35, .int 0]))]) (w1 := [(qo3, .inr (8, [.ref qo2, .ref qo4])), (qo2, .inr (9, [.ref qo10, .ref qo11, .ref qo12, .int 1, .ref qo13, .ref qo14, .ref qo15, .ref qo16, .ref qo17, .int 32, .int 0, .int 2, .int 0]))]) hP hD [1, 2] [0] rfl rfl (by decide) (by decide) hk1 hFc hP1 hD1
  clear hP hD
  obtain ⟨hP, hD⟩ := hPD
  replace hK := (hK.sub (tys' := []) [] rfl).app hK1
  clear hPc hDc hKc hFc hP1 hK1 hD1 hz1 hk1 ht hvm
  generalize H1 = H at hP hS ⊢
  replace hP : va_P (dC, dI) vwCl [(qo4, .inr (2, [.ref qo2, .ref qo18, .int 1, .ref qo19, .ref qo20, .ref qo21, .ref qo22, .ref qo23, .ref qo24, .ref qo25, .ref qo26, .ref qo27, .ref qo28, .ref qo29, .ref qo30, .ref qo31, .ref qo32, .ref qo33, .ref qo34, .ref qo35, .int 0])), (qo3, .inr (8, [.ref qo2, .ref qo4])), (qo2, .inr (9, [.ref qo10, .ref qo11, .ref qo12, .int 1, .ref qo13, .ref qo14, .ref qo15, .ref qo16, .ref qo17, .int 32, .int 0, .int 2, .int 0]))] H := hP
  replace hD : va_D A [(qo4, .inr (2, [.ref qo2, .ref qo18, .int 1, .ref qo19, .ref qo20, .ref qo21, .ref qo22, .ref qo23, .ref qo24, .ref qo25, .ref qo26, .ref qo27, .ref qo28, .ref qo29, .ref qo30, .ref qo31, .ref qo32, .ref qo33, .ref qo34, .ref qo35, .int 0])), (qo3, .inr (8, [.ref qo2, .ref qo4])), (qo2, .inr (9, [.ref qo10, .ref qo11, .ref qo12, .int 1, .ref qo13, .ref qo14, .ref qo15, .ref qo16, .ref qo17, .int 32, .int 0, .int 2, .int 0]))] := hD
  replace hK : va_K (dC, dI) vwCl [] s := hK
  refine lv_iconst (v := 0) hx hb dX8_readClass_45 (by decide) ?_
  refine lv_istore_n (lv' := [(1, .int 0), (0, .ref qo3)]) hx hb dX8_readClass_46 rfl hl (by decide) rfl (fun ls hl => ?_)
  refine lv_iload_n hx hb dX8_readClass_47 rfl (lv_at hl 0 rfl) ?_
  refine lv_sipush (v := 3000) hx hb dX8_readClass_48 (by decide) ?_
  refine lv_icmp_ge (tgt := 86) hx hb dX8_readClass_51 (by decide) (fun c_3 => (show False by revert c_3; decide).elim) (fun c_3 => ?_)
  refine lv_aload_n hx hb dX8_readClass_54 rfl (lv_at hl 1 rfl) ?_
  refine va_get (D := (dC, dI)) (ci := 8) (v := .ref qo2) (C := RX8) (T := TX8) (N := 2) hx hb hts uV_k1_X8 hown hK hP 1 rfl rfl 0 (by decide) (hts (.fieldLink RX8 7 "ClassMill$Syntax" "text" "LClassMill$Text;") mw_k1_193) (fun _ h9 => h9) rfl dX8_readClass_55 ?_
  refine va_get (D := (dC, dI)) (ci := 9) (v := .int 2) (C := RX9) (T := TX9) (N := 13) hx hb hts uV_k1_X9 hown hK hP 2 rfl rfl 11 (by decide) (hts (.fieldLink RX8 19 "ClassMill$Text" "fault" "I") mw_k1_211) (fun _ h9 => h9) rfl dX8_readClass_58 ?_
  refine lv_if_ne (tgt := 86) hx hb dX8_readClass_61 (by decide) (fun c_4 => ?_) (fun c_4 => (show False by revert c_4; decide).elim)
  refine lv_aload_n hx hb dX8_readClass_86 rfl (lv_at hl 1 rfl) ?_
  refine lv_bipush (v := 43) hx hb dX8_readClass_87 (by decide) ?_
  have hPc := hP.sub (ws' := [(qo3, .inr (8, [.ref qo2, .ref qo4])), (qo2, .inr (9, [.ref qo10, .ref qo11, .ref qo12, .int 1, .ref qo13, .ref qo14, .ref qo15, .ref qo16, .ref qo17, .int 32, .int 0, .int 2, .int 0]))]) [1, 2] rfl
  have hDc := hD.sub (ws' := [(qo3, .inr (8, [.ref qo2, .ref qo4])), (qo2, .inr (9, [.ref qo10, .ref qo11, .ref qo12, .int 1, .ref qo13, .ref qo14, .ref qo15, .ref qo16, .ref qo17, .int 32, .int 0, .int 2, .int 0]))]) [1, 2] (by decide) rfl
  have hKc := hK.sub (tys' := []) [] rfl
  have hFc := va_free (wc := [(qo3, .inr (8, [.ref qo2, .ref qo4])), (qo2, .inr (9, [.ref qo10, .ref qo11, .ref qo12, .int 1, .ref qo13, .ref qo14, .ref qo15, .ref qo16, .ref qo17, .int 32, .int 0, .int 2, .int 0]))]) hD hS hA [1, 2] rfl
  refine va_callv (va_runV (As := [.int 43]) (rest := []) ⟨hx, hb, hml, hown, hts⟩ (kk_need2_43 l dC dI H.size qo3 qo2 qo4 qo10 qo11 qo12 qo13 qo14 qo15 qo16 qo17) (cwV 1 hts gv_k1_49 rfl rfl rfl (by decide +kernel) ⟨Nat.le_of_ble_eq_true rfl, Nat.le_of_ble_eq_true rfl⟩) ⟨fun a U g mk q => by obtain ⟨q0, q1, qP, qK, qD⟩ := q; exact ⟨q0, q1, qP, va_K.moved (u := U) (U := U.calling g mk a) (Vm.Alike.refl U.vm) qK, qD⟩, va_recv hKc hPc (ci := 8) (q0 := 0) rfl rfl, fun U hU hW => ⟨rfl, by rw [hU], by rw [hU]; exact hPc, va_K.moved hW.alike hKc, hDc.weaken (fun _ _ _ _ => trivial)⟩⟩ rfl rfl hl.1 rfl (lv_room (Nat.le_of_ble_eq_true rfl)) dX8_readClass_89 ⟨Nat.le_of_ble_eq_true rfl, Nat.le_of_ble_eq_true rfl⟩) hS (fun q _ h => hFc q h) hFc ?_
  clear hS
  intro u t H1 locs ht hvm hw hB hz1 hk1 hS
  obtain ⟨⟩ := u
  obtain ⟨hP1, hK1, hD1⟩ := hB
  rw [ht] at hP1
  have hK1 := va_K.moved hvm.symm hK1
  try dsimp only at hw
  have hPD := va_join (wr := [(qo4, .inr (2, [.ref qo2, .ref qo18, .int 1, .ref qo19, .ref qo20, .ref qo21, .ref qo22, .ref qo23, .ref qo24, .ref qo25, .ref qo26, .ref qo27, .ref qo28, .ref qo29, .ref qo30, .ref qo31, .ref qo32, .ref qo33, .ref qo34, .ref qo35, .int 0]))]) (w1 := [(qo3, .inr (8, [.ref qo2, .ref qo4])), (qo2, .inr (9, [.ref qo10, .ref qo11, .ref qo12, .int 1, .ref qo13, .ref qo14, .ref qo15, .ref qo16, .ref qo17, .int 32, .int 0, .int 2, .int 0]))]) hP hD [1, 2] [0] rfl rfl (by decide) (by decide) hk1 hFc hP1 hD1
  clear hP hD
  obtain ⟨hP, hD⟩ := hPD
  replace hK := (hK.sub (tys' := []) [] rfl).app hK1
  clear hPc hDc hKc hFc hP1 hK1 hD1 hz1 hk1 ht hvm
  generalize H1 = H at hP hS ⊢
  replace hP : va_P (dC, dI) vwCl [(qo4, .inr (2, [.ref qo2, .ref qo18, .int 1, .ref qo19, .ref qo20, .ref qo21, .ref qo22, .ref qo23, .ref qo24, .ref qo25, .ref qo26, .ref qo27, .ref qo28, .ref qo29, .ref qo30, .ref qo31, .ref qo32, .ref qo33, .ref qo34, .ref qo35, .int 0])), (qo3, .inr (8, [.ref qo2, .ref qo4])), (qo2, .inr (9, [.ref qo10, .ref qo11, .ref qo12, .int 1, .ref qo13, .ref qo14, .ref qo15, .ref qo16, .ref qo17, .int 32, .int 0, .int 2, .int 0]))] H := hP
  replace hD : va_D A [(qo4, .inr (2, [.ref qo2, .ref qo18, .int 1, .ref qo19, .ref qo20, .ref qo21, .ref qo22, .ref qo23, .ref qo24, .ref qo25, .ref qo26, .ref qo27, .ref qo28, .ref qo29, .ref qo30, .ref qo31, .ref qo32, .ref qo33, .ref qo34, .ref qo35, .int 0])), (qo3, .inr (8, [.ref qo2, .ref qo4])), (qo2, .inr (9, [.ref qo10, .ref qo11, .ref qo12, .int 1, .ref qo13, .ref qo14, .ref qo15, .ref qo16, .ref qo17, .int 32, .int 0, .int 2, .int 0]))] := hD
  replace hK : va_K (dC, dI) vwCl [] s := hK
  have hP9 := hP.sub (ws' := [(qo3, .inr (8, [.ref qo2, .ref qo4])), (qo2, .inr (9, [.ref qo10, .ref qo11, .ref qo12, .int 1, .ref qo13, .ref qo14, .ref qo15, .ref qo16, .ref qo17, .int 32, .int 0, .int 2, .int 0])), (qo4, .inr (2, [.ref qo2, .ref qo18, .int 1, .ref qo19, .ref qo20, .ref qo21, .ref qo22, .ref qo23, .ref qo24, .ref qo25, .ref qo26, .ref qo27, .ref qo28, .ref qo29, .ref qo30, .ref qo31, .ref qo32, .ref qo33, .ref qo34, .ref qo35, .int 0]))]) [1, 2, 0] rfl
  have hD9 := hD.sub (ws' := [(qo3, .inr (8, [.ref qo2, .ref qo4])), (qo2, .inr (9, [.ref qo10, .ref qo11, .ref qo12, .int 1, .ref qo13, .ref qo14, .ref qo15, .ref qo16, .ref qo17, .int 32, .int 0, .int 2, .int 0])), (qo4, .inr (2, [.ref qo2, .ref qo18, .int 1, .ref qo19, .ref qo20, .ref qo21, .ref qo22, .ref qo23, .ref qo24, .ref qo25, .ref qo26, .ref qo27, .ref qo28, .ref qo29, .ref qo30, .ref qo31, .ref qo32, .ref qo33, .ref qo34, .ref qo35, .int 0]))]) [1, 2, 0] (by decide) rfl
  have hK9 := hK.sub (tys' := []) [] rfl
  exact W.vret hx hb hr (fun t ht hW => ⟨⟨(), rfl, trivial, by rw [ht]; exact hP9, va_K.moved hW.alike hK9, hD9⟩, hS.F ht⟩) hS.2.2 dX8_readClass_92
set_option maxHeartbeats 4000000 in
set_option maxRecDepth 100000 in
/-- kk_readProgram -/
theorem kk_readProgram (l : Launch) (dC : Nat → ClassId) (dI : Nat → Nat → Nat) (sz : Nat) (qo3 : Nat) (qo2 : Nat) (qo4 : Nat) (qo10 : Nat) (qo11 : Nat) (qo12 : Nat) (qo13 : Nat) (qo14 : Nat) (qo15 : Nat) (qo16 : Nat) (qo17 : Nat) (co2 : ClassId) (fk : (Nat → Int32)) (co3 : ClassId) (fp : (Nat → Int32)) (qo18 : Nat) (qo19 : Nat) (qo20 : Nat) (qo21 : Nat) (qo22 : Nat) (qo23 : Nat) (qo24 : Nat) (qo25 : Nat) (qo26 : Nat) (qo27 : Nat) (qo28 : Nat) (qo29 : Nat) (qo30 : Nat) (qo31 : Nat) (qo32 : Nat) (qo33 : Nat) (qo34 : Nat) (qo35 : Nat) (co7 : ClassId) (hk0 : fk 0 = 0) (hp0 : fp 0 = 0) : Met l yX8_readProgram (.code yX8_readProgram cX8_readProgram 2 none :: VS_k1) ({ frames := 3, cells := 0, slots := 0, locals := 63 }) (va_Pc [.ref qo3] (fun U => U.heap.size = sz ∧ va_P (dC, dI) vwCl [(qo3, .inr (8, [.ref qo2, .ref qo4])), (qo2, .inr (9, [.ref qo10, .ref qo11, .ref qo12, .int 1, .ref qo13, .ref qo14, .ref qo15, .ref qo16, .ref qo17, .int 32, .int 0, .int 0, .int (-1)])), (qo10, .inl (co2, 3001, .inl fk)), (qo11, .inl (co3, 3001, .inl fp)), (qo4, .inr (2, [.ref qo2, .ref qo18, .int 0, .ref qo19, .ref qo20, .ref qo21, .ref qo22, .ref qo23, .ref qo24, .ref qo25, .ref qo26, .ref qo27, .ref qo28, .ref qo29, .ref qo30, .ref qo31, .ref qo32, .ref qo33, .ref qo34, .ref qo35, .int 0])), (qo19, .inl (co7, 334, .inl (fun _ => 0)))] U.heap ∧ va_K (dC, dI) vwCl [(co2, .int), (co3, .int), (co7, .int)] U ∧ va_D (fun _ => True) [(qo3, .inr (8, [.ref qo2, .ref qo4])), (qo2, .inr (9, [.ref qo10, .ref qo11, .ref qo12, .int 1, .ref qo13, .ref qo14, .ref qo15, .ref qo16, .ref qo17, .int 32, .int 0, .int 0, .int (-1)])), (qo10, .inl (co2, 3001, .inl fk)), (qo11, .inl (co3, 3001, .inl fp)), (qo4, .inr (2, [.ref qo2, .ref qo18, .int 0, .ref qo19, .ref qo20, .ref qo21, .ref qo22, .ref qo23, .ref qo24, .ref qo25, .ref qo26, .ref qo27, .ref qo28, .ref qo29, .ref qo30, .ref qo31, .ref qo32, .ref qo33, .ref qo34, .ref qo35, .int 0])), (qo19, .inl (co7, 334, .inl (fun _ => 0)))])) (va_Qv (fun (u : Unit) => match u with | () => True) (fun (u : Unit) (t : State) => match u with | () => va_P (dC, dI) vwCl [(qo2, .inr (9, [.ref qo10, .ref qo11, .ref qo12, .int 1, .ref qo13, .ref qo14, .ref qo15, .ref qo16, .ref qo17, .int 32, .int 0, .int 2, .int 0])), (qo4, .inr (2, [.ref qo2, .ref qo18, .int 1, .ref qo19, .ref qo20, .ref qo21, .ref qo22, .ref qo23, .ref qo24, .ref qo25, .ref qo26, .ref qo27, .ref qo28, .ref qo29, .ref qo30, .ref qo31, .ref qo32, .ref qo33, .ref qo34, .ref qo35, .int 0]))] t.heap ∧ va_K (dC, dI) vwCl [] t ∧ va_D (va_A [(qo3, .inr (8, [.ref qo2, .ref qo4])), (qo2, .inr (9, [.ref qo10, .ref qo11, .ref qo12, .int 1, .ref qo13, .ref qo14, .ref qo15, .ref qo16, .ref qo17, .int 32, .int 0, .int 0, .int (-1)])), (qo10, .inl (co2, 3001, .inl fk)), (qo11, .inl (co3, 3001, .inl fp)), (qo4, .inr (2, [.ref qo2, .ref qo18, .int 0, .ref qo19, .ref qo20, .ref qo21, .ref qo22, .ref qo23, .ref qo24, .ref qo25, .ref qo26, .ref qo27, .ref qo28, .ref qo29, .ref qo30, .ref qo31, .ref qo32, .ref qo33, .ref qo34, .ref qo35, .int 0])), (qo19, .inl (co7, 334, .inl (fun _ => 0)))] sz) [(qo2, .inr (9, [.ref qo10, .ref qo11, .ref qo12, .int 1, .ref qo13, .ref qo14, .ref qo15, .ref qo16, .ref qo17, .int 32, .int 0, .int 2, .int 0])), (qo4, .inr (2, [.ref qo2, .ref qo18, .int 1, .ref qo19, .ref qo20, .ref qo21, .ref qo22, .ref qo23, .ref qo24, .ref qo25, .ref qo26, .ref qo27, .ref qo28, .ref qo29, .ref qo30, .ref qo31, .ref qo32, .ref qo33, .ref qo34, .ref qo35, .int 0]))]) (va_A [(qo3, .inr (8, [.ref qo2, .ref qo4])), (qo2, .inr (9, [.ref qo10, .ref qo11, .ref qo12, .int 1, .ref qo13, .ref qo14, .ref qo15, .ref qo16, .ref qo17, .int 32, .int 0, .int 0, .int (-1)])), (qo10, .inl (co2, 3001, .inl fk)), (qo11, .inl (co3, 3001, .inl fp)), (qo4, .inr (2, [.ref qo2, .ref qo18, .int 0, .ref qo19, .ref qo20, .ref qo21, .ref qo22, .ref qo23, .ref qo24, .ref qo25, .ref qo26, .ref qo27, .ref qo28, .ref qo29, .ref qo30, .ref qo31, .ref qo32, .ref qo33, .ref qo34, .ref qo35, .int 0])), (qo19, .inl (co7, 334, .inl (fun _ => 0)))] sz)) 0 0 (va_A [(qo3, .inr (8, [.ref qo2, .ref qo4])), (qo2, .inr (9, [.ref qo10, .ref qo11, .ref qo12, .int 1, .ref qo13, .ref qo14, .ref qo15, .ref qo16, .ref qo17, .int 32, .int 0, .int 0, .int (-1)])), (qo10, .inl (co2, 3001, .inl fk)), (qo11, .inl (co3, 3001, .inl fp)), (qo4, .inr (2, [.ref qo2, .ref qo18, .int 0, .ref qo19, .ref qo20, .ref qo21, .ref qo22, .ref qo23, .ref qo24, .ref qo25, .ref qo26, .ref qo27, .ref qo28, .ref qo29, .ref qo30, .ref qo31, .ref qo32, .ref qo33, .ref qo34, .ref qo35, .int 0])), (qo19, .inl (co7, 334, .inl (fun _ => 0)))] sz) := by
  refine Met.ofW (cc := cX8_readProgram) (maxL := 2) (ret := none) (by decide) rfl ?_
  intro p e s m args below meth c s₁ B hml hv
  obtain ⟨rfl, hsz, hP, hK, hD0⟩ := hv
  have hx := B.exec
  have hb := B.bytes
  have hr := B.returns
  have hts := atoms_spec (ws := (.code yX8_readProgram cX8_readProgram 2 none :: VS_k1)) B.pre
  replace hts := fun w (h : w ∈ VS_k1) => hts w (List.mem_cons_of_mem _ h)
  have hown : s.vm.findClass RX8 = some m.cls := findClass_of_methodNamed B.named
  have hlocks := B.notSynchronized
  subst hsz
  have hD := hD0.self (sz := s.heap.size)
  generalize hAe : va_A [(qo3, .inr (8, [.ref qo2, .ref qo4])), (qo2, .inr (9, [.ref qo10, .ref qo11, .ref qo12, .int 1, .ref qo13, .ref qo14, .ref qo15, .ref qo16, .ref qo17, .int 32, .int 0, .int 0, .int (-1)])), (qo10, .inl (co2, 3001, .inl fk)), (qo11, .inl (co3, 3001, .inl fp)), (qo4, .inr (2, [.ref qo2, .ref qo18, .int 0, .ref qo19, .ref qo20, .ref qo21, .ref qo22, .ref qo23, .ref qo24, .ref qo25, .ref qo26, .ref qo27, .ref qo28, .ref qo29, .ref qo30, .ref qo31, .ref qo32, .ref qo33, .ref qo34, .ref qo35, .int 0])), (qo19, .inl (co7, 334, .inl (fun _ => 0)))] s.heap.size = A at hD  ⊢
  have hA : ∀ q : Nat, s.heap.size ≤ q → A q := fun q h => by rw [← hAe]; exact Or.inr h
  have hP : va_P (dC, dI) vwCl [(qo3, .inr (8, [.ref qo2, .ref qo4])), (qo2, .inr (9, [.ref qo10, .ref qo11, .ref qo12, .int 1, .ref qo13, .ref qo14, .ref qo15, .ref qo16, .ref qo17, .int 32, .int 0, .int 0, .int (-1)])), (qo10, .inl (co2, 3001, .inl fk)), (qo11, .inl (co3, 3001, .inl fp)), (qo4, .inr (2, [.ref qo2, .ref qo18, .int 0, .ref qo19, .ref qo20, .ref qo21, .ref qo22, .ref qo23, .ref qo24, .ref qo25, .ref qo26, .ref qo27, .ref qo28, .ref qo29, .ref qo30, .ref qo31, .ref qo32, .ref qo33, .ref qo34, .ref qo35, .int 0])), (qo19, .inl (co7, 334, .inl (fun _ => 0)))] s.heap := hP
  have hl := lv_entry ([.ref qo3]) (n := 2) (Nat.le_of_ble_eq_true rfl)
  rw [lg_entry_eq]
  generalize (lg_sl ([.ref qo3]) ++ List.replicate (2 - (lg_sl ([.ref qo3])).length) Slot.unset).toArray = ls at hl ⊢
  have hl : lv_has ls 2 [(0, .ref qo3)] := hl
  obtain ⟨H, hH⟩ : ∃ H : Heap, s.heap = H := ⟨_, rfl⟩
  rw [hH] at hP ⊢
  have hS : va_S A s.heap H [] := by rw [← hH]; exact va_S.rf
  obtain ⟨locs, hlo⟩ : ∃ locs : List Loc, locs = [] := ⟨_, rfl⟩
  rw [← hlo] at hS ⊢
  refine lv_iconst (v := 0) hx hb dX8_readProgram_0 (by decide) ?_
  refine lv_istore_n (lv' := [(1, .int 0), (0, .ref qo3)]) hx hb dX8_readProgram_1 rfl hl (by decide) rfl (fun ls hl => ?_)
  refine lv_iload_n hx hb dX8_readProgram_2 rfl (lv_at hl 0 rfl) ?_
  refine lv_sipush (v := 3000) hx hb dX8_readProgram_3 (by decide) ?_
  refine lv_icmp_ge (tgt := 43) hx hb dX8_readProgram_6 (by decide) (fun c_1 => (show False by revert c_1; decide).elim) (fun c_1 => ?_)
  refine lv_aload_n hx hb dX8_readProgram_9 rfl (lv_at hl 1 rfl) ?_
  refine va_get (D := (dC, dI)) (ci := 8) (v := .ref qo2) (C := RX8) (T := TX8) (N := 2) hx hb hts uV_k1_X8 hown hK hP 0 rfl rfl 0 (by decide) (hts (.fieldLink RX8 7 "ClassMill$Syntax" "text" "LClassMill$Text;") mw_k1_193) (fun _ h9 => h9) rfl dX8_readProgram_10 ?_
  refine va_get (D := (dC, dI)) (ci := 9) (v := .int 0) (C := RX9) (T := TX9) (N := 13) hx hb hts uV_k1_X9 hown hK hP 1 rfl rfl 11 (by decide) (hts (.fieldLink RX8 19 "ClassMill$Text" "fault" "I") mw_k1_211) (fun _ h9 => h9) rfl dX8_readProgram_13 ?_
  refine lv_if_ne (tgt := 43) hx hb dX8_readProgram_16 (by decide) (fun c_2 => (show False by revert c_2; decide).elim) (fun c_2 => ?_)
  refine lv_iload_n hx hb dX8_readProgram_19 rfl (lv_at hl 0 rfl) ?_
  refine lv_if_eq (tgt := 33) hx hb dX8_readProgram_20 (by decide) (fun c_3 => ?_) (fun c_3 => (show False by revert c_3; decide).elim)
  refine lv_aload_n hx hb dX8_readProgram_33 rfl (lv_at hl 1 rfl) ?_
  have hPc := hP.sub (ws' := [(qo3, .inr (8, [.ref qo2, .ref qo4])), (qo2, .inr (9, [.ref qo10, .ref qo11, .ref qo12, .int 1, .ref qo13, .ref qo14, .ref qo15, .ref qo16, .ref qo17, .int 32, .int 0, .int 0, .int (-1)])), (qo10, .inl (co2, 3001, .inl fk)), (qo11, .inl (co3, 3001, .inl fp)), (qo4, .inr (2, [.ref qo2, .ref qo18, .int 0, .ref qo19, .ref qo20, .ref qo21, .ref qo22, .ref qo23, .ref qo24, .ref qo25, .ref qo26, .ref qo27, .ref qo28, .ref qo29, .ref qo30, .ref qo31, .ref qo32, .ref qo33, .ref qo34, .ref qo35, .int 0])), (qo19, .inl (co7, 334, .inl (fun _ => 0)))]) [0, 1, 2, 3, 4, 5] rfl
  have hDc := hD.sub (ws' := [(qo3, .inr (8, [.ref qo2, .ref qo4])), (qo2, .inr (9, [.ref qo10, .ref qo11, .ref qo12, .int 1, .ref qo13, .ref qo14, .ref qo15, .ref qo16, .ref qo17, .int 32, .int 0, .int 0, .int (-1)])), (qo10, .inl (co2, 3001, .inl fk)), (qo11, .inl (co3, 3001, .inl fp)), (qo4, .inr (2, [.ref qo2, .ref qo18, .int 0, .ref qo19, .ref qo20, .ref qo21, .ref qo22, .ref qo23, .ref qo24, .ref qo25, .ref qo26, .ref qo27, .ref qo28, .ref qo29, .ref qo30, .ref qo31, .ref qo32, .ref qo33, .ref qo34, .ref qo35, .int 0])), (qo19, .inl (co7, 334, .inl (fun _ => 0)))]) [0, 1, 2, 3, 4, 5] (by decide) rfl
  have hKc := hK.sub (tys' := [(co2, .int), (co3, .int), (co7, .int)]) [0, 1, 2] rfl
  have hFc := va_free (wc := [(qo3, .inr (8, [.ref qo2, .ref qo4])), (qo2, .inr (9, [.ref qo10, .ref qo11, .ref qo12, .int 1, .ref qo13, .ref qo14, .ref qo15, .ref qo16, .ref qo17, .int 32, .int 0, .int 0, .int (-1)])), (qo10, .inl (co2, 3001, .inl fk)), (qo11, .inl (co3, 3001, .inl fp)), (qo4, .inr (2, [.ref qo2, .ref qo18, .int 0, .ref qo19, .ref qo20, .ref qo21, .ref qo22, .ref qo23, .ref qo24, .ref qo25, .ref qo26, .ref qo27, .ref qo28, .ref qo29, .ref qo30, .ref qo31, .ref qo32, .ref qo33, .ref qo34, .ref qo35, .int 0])), (qo19, .inl (co7, 334, .inl (fun _ => 0)))]) hD hS hA [0, 1, 2, 3, 4, 5] rfl
  refine va_callv (va_runV (As := []) (rest := []) ⟨hx, hb, hml, hown, hts⟩ (kk_readClass l dC dI H.size qo3 qo2 qo4 qo10 qo11 qo12 qo13 qo14 qo15 qo16 qo17 co2 fk co3 fp qo18 qo19 qo20 qo21 qo22 qo23 qo24 qo25 qo26 qo27 qo28 qo29 qo30 qo31 qo32 qo33 qo34 qo35 co7 hk0 hp0) (cwV 0 hts gv_k1_50 rfl rfl rfl (by decide +kernel) ⟨Nat.le_of_ble_eq_true rfl, Nat.le_of_ble_eq_true rfl⟩) ⟨fun a U g mk q => by obtain ⟨q0, q1, qP, qK, qD⟩ := q; exact ⟨q0, q1, qP, va_K.moved (u := U) (U := U.calling g mk a) (Vm.Alike.refl U.vm) qK, qD⟩, va_recv hKc hPc (ci := 8) (q0 := 0) rfl rfl, fun U hU hW => ⟨rfl, by rw [hU], by rw [hU]; exact hPc, va_K.moved hW.alike hKc, hDc.weaken (fun _ _ _ _ => trivial)⟩⟩ rfl rfl hl.1 rfl (lv_room (Nat.le_of_ble_eq_true rfl)) dX8_readProgram_34 ⟨Nat.le_of_ble_eq_true rfl, Nat.le_of_ble_eq_true rfl⟩) hS (fun q _ h => hFc q h) hFc ?_
  clear hS
  intro u t H1 locs ht hvm hw hB hz1 hk1 hS
  obtain ⟨⟩ := u
  obtain ⟨hP1, hK1, hD1⟩ := hB
  rw [ht] at hP1
  have hK1 := va_K.moved hvm.symm hK1
  try dsimp only at hw
  have hPD := va_join (wr := []) (w1 := [(qo3, .inr (8, [.ref qo2, .ref qo4])), (qo2, .inr (9, [.ref qo10, .ref qo11, .ref qo12, .int 1, .ref qo13, .ref qo14, .ref qo15, .ref qo16, .ref qo17, .int 32, .int 0, .int 2, .int 0])), (qo4, .inr (2, [.ref qo2, .ref qo18, .int 1, .ref qo19, .ref qo20, .ref qo21, .ref qo22, .ref qo23, .ref qo24, .ref qo25, .ref qo26, .ref qo27, .ref qo28, .ref qo29, .ref qo30, .ref qo31, .ref qo32, .ref qo33, .ref qo34, .ref qo35, .int 0]))]) hP hD [0, 1, 2, 3, 4, 5] [] rfl rfl (by decide) (by decide) hk1 hFc hP1 hD1
  clear hP hD
  obtain ⟨hP, hD⟩ := hPD
  replace hK := (hK.sub (tys' := []) [] rfl).app hK1
  clear hPc hDc hKc hFc hP1 hK1 hD1 hz1 hk1 ht hvm
  generalize H1 = H at hP hS ⊢
  replace hP : va_P (dC, dI) vwCl [(qo3, .inr (8, [.ref qo2, .ref qo4])), (qo2, .inr (9, [.ref qo10, .ref qo11, .ref qo12, .int 1, .ref qo13, .ref qo14, .ref qo15, .ref qo16, .ref qo17, .int 32, .int 0, .int 2, .int 0])), (qo4, .inr (2, [.ref qo2, .ref qo18, .int 1, .ref qo19, .ref qo20, .ref qo21, .ref qo22, .ref qo23, .ref qo24, .ref qo25, .ref qo26, .ref qo27, .ref qo28, .ref qo29, .ref qo30, .ref qo31, .ref qo32, .ref qo33, .ref qo34, .ref qo35, .int 0]))] H := hP
  replace hD : va_D A [(qo3, .inr (8, [.ref qo2, .ref qo4])), (qo2, .inr (9, [.ref qo10, .ref qo11, .ref qo12, .int 1, .ref qo13, .ref qo14, .ref qo15, .ref qo16, .ref qo17, .int 32, .int 0, .int 2, .int 0])), (qo4, .inr (2, [.ref qo2, .ref qo18, .int 1, .ref qo19, .ref qo20, .ref qo21, .ref qo22, .ref qo23, .ref qo24, .ref qo25, .ref qo26, .ref qo27, .ref qo28, .ref qo29, .ref qo30, .ref qo31, .ref qo32, .ref qo33, .ref qo34, .ref qo35, .int 0]))] := hD
  replace hK : va_K (dC, dI) vwCl [] s := hK
  refine lv_iinc (v := 1) (lv' := [(1, .int 1), (0, .ref qo3)]) hx hb dX8_readProgram_37 hl (k := 0) rfl (by decide) (by decide) rfl (fun ls hl => ?_)
  refine lv_goto (tgt := 2) hx hb dX8_readProgram_40 (by decide) ?_
  refine lv_iload_n hx hb dX8_readProgram_2 rfl (lv_at hl 0 rfl) ?_
  refine lv_sipush (v := 3000) hx hb dX8_readProgram_3 (by decide) ?_
  refine lv_icmp_ge (tgt := 43) hx hb dX8_readProgram_6 (by decide) (fun c_4 => (show False by revert c_4; decide).elim) (fun c_4 => ?_)
  refine lv_aload_n hx hb dX8_readProgram_9 rfl (lv_at hl 1 rfl) ?_
  refine va_get (D := (dC, dI)) (ci := 8) (v := .ref qo2) (C := RX8) (T := TX8) (N := 2) hx hb hts uV_k1_X8 hown hK hP 0 rfl rfl 0 (by decide) (hts (.fieldLink RX8 7 "ClassMill$Syntax" "text" "LClassMill$Text;") mw_k1_193) (fun _ h9 => h9) rfl dX8_readProgram_10 ?_
  refine va_get (D := (dC, dI)) (ci := 9) (v := .int 2) (C := RX9) (T := TX9) (N := 13) hx hb hts uV_k1_X9 hown hK hP 1 rfl rfl 11 (by decide) (hts (.fieldLink RX8 19 "ClassMill$Text" "fault" "I") mw_k1_211) (fun _ h9 => h9) rfl dX8_readProgram_13 ?_
  refine lv_if_ne (tgt := 43) hx hb dX8_readProgram_16 (by decide) (fun c_5 => ?_) (fun c_5 => (show False by revert c_5; decide).elim)
  have hP9 := hP.sub (ws' := [(qo2, .inr (9, [.ref qo10, .ref qo11, .ref qo12, .int 1, .ref qo13, .ref qo14, .ref qo15, .ref qo16, .ref qo17, .int 32, .int 0, .int 2, .int 0])), (qo4, .inr (2, [.ref qo2, .ref qo18, .int 1, .ref qo19, .ref qo20, .ref qo21, .ref qo22, .ref qo23, .ref qo24, .ref qo25, .ref qo26, .ref qo27, .ref qo28, .ref qo29, .ref qo30, .ref qo31, .ref qo32, .ref qo33, .ref qo34, .ref qo35, .int 0]))]) [1, 2] rfl
  have hD9 := hD.sub (ws' := [(qo2, .inr (9, [.ref qo10, .ref qo11, .ref qo12, .int 1, .ref qo13, .ref qo14, .ref qo15, .ref qo16, .ref qo17, .int 32, .int 0, .int 2, .int 0])), (qo4, .inr (2, [.ref qo2, .ref qo18, .int 1, .ref qo19, .ref qo20, .ref qo21, .ref qo22, .ref qo23, .ref qo24, .ref qo25, .ref qo26, .ref qo27, .ref qo28, .ref qo29, .ref qo30, .ref qo31, .ref qo32, .ref qo33, .ref qo34, .ref qo35, .int 0]))]) [1, 2] (by decide) rfl
  have hK9 := hK.sub (tys' := []) [] rfl
  exact W.vret hx hb hr (fun t ht hW => ⟨⟨(), rfl, trivial, by rw [ht]; exact hP9, va_K.moved hW.alike hK9, hD9⟩, hS.F ht⟩) hS.2.2 dX8_readProgram_43
set_option maxHeartbeats 4000000 in
set_option maxRecDepth 100000 in
/-- kk_readClasses -/
theorem kk_readClasses (l : Launch) (dC : Nat → ClassId) (dI : Nat → Nat → Nat) (sz : Nat) (qo4 : Nat) (qo2 : Nat) (qo18 : Nat) (qo19 : Nat) (qo20 : Nat) (qo21 : Nat) (qo22 : Nat) (qo23 : Nat) (qo24 : Nat) (qo25 : Nat) (qo26 : Nat) (qo27 : Nat) (qo28 : Nat) (qo29 : Nat) (qo30 : Nat) (qo31 : Nat) (qo32 : Nat) (qo33 : Nat) (qo34 : Nat) (qo35 : Nat) (qo10 : Nat) (qo11 : Nat) (qo12 : Nat) (qo13 : Nat) (qo14 : Nat) (qo15 : Nat) (qo16 : Nat) (qo17 : Nat)  : Met l yX2_readClasses (.code yX2_readClasses cX2_readClasses 2 none :: VS_k1) ({ frames := 0, cells := 0, slots := 0, locals := 0 }) (va_Pc [.ref qo4] (fun U => U.heap.size = sz ∧ va_P (dC, dI) vwCl [(qo4, .inr (2, [.ref qo2, .ref qo18, .int 1, .ref qo19, .ref qo20, .ref qo21, .ref qo22, .ref qo23, .ref qo24, .ref qo25, .ref qo26, .ref qo27, .ref qo28, .ref qo29, .ref qo30, .ref qo31, .ref qo32, .ref qo33, .ref qo34, .ref qo35, .int 0])), (qo2, .inr (9, [.ref qo10, .ref qo11, .ref qo12, .int 1, .ref qo13, .ref qo14, .ref qo15, .ref qo16, .ref qo17, .int 32, .int 0, .int 2, .int 0]))] U.heap ∧ va_K (dC, dI) vwCl [] U ∧ va_D (fun _ => True) [(qo4, .inr (2, [.ref qo2, .ref qo18, .int 1, .ref qo19, .ref qo20, .ref qo21, .ref qo22, .ref qo23, .ref qo24, .ref qo25, .ref qo26, .ref qo27, .ref qo28, .ref qo29, .ref qo30, .ref qo31, .ref qo32, .ref qo33, .ref qo34, .ref qo35, .int 0])), (qo2, .inr (9, [.ref qo10, .ref qo11, .ref qo12, .int 1, .ref qo13, .ref qo14, .ref qo15, .ref qo16, .ref qo17, .int 32, .int 0, .int 2, .int 0]))])) (va_Qv (fun (u : Unit) => match u with | () => True) (fun (u : Unit) (t : State) => match u with | () => va_P (dC, dI) vwCl [(qo4, .inr (2, [.ref qo2, .ref qo18, .int 1, .ref qo19, .ref qo20, .ref qo21, .ref qo22, .ref qo23, .ref qo24, .ref qo25, .ref qo26, .ref qo27, .ref qo28, .ref qo29, .ref qo30, .ref qo31, .ref qo32, .ref qo33, .ref qo34, .ref qo35, .int 0])), (qo2, .inr (9, [.ref qo10, .ref qo11, .ref qo12, .int 1, .ref qo13, .ref qo14, .ref qo15, .ref qo16, .ref qo17, .int 32, .int 0, .int 2, .int 0]))] t.heap ∧ va_K (dC, dI) vwCl [] t ∧ va_D (va_A [(qo4, .inr (2, [.ref qo2, .ref qo18, .int 1, .ref qo19, .ref qo20, .ref qo21, .ref qo22, .ref qo23, .ref qo24, .ref qo25, .ref qo26, .ref qo27, .ref qo28, .ref qo29, .ref qo30, .ref qo31, .ref qo32, .ref qo33, .ref qo34, .ref qo35, .int 0])), (qo2, .inr (9, [.ref qo10, .ref qo11, .ref qo12, .int 1, .ref qo13, .ref qo14, .ref qo15, .ref qo16, .ref qo17, .int 32, .int 0, .int 2, .int 0]))] sz) [(qo4, .inr (2, [.ref qo2, .ref qo18, .int 1, .ref qo19, .ref qo20, .ref qo21, .ref qo22, .ref qo23, .ref qo24, .ref qo25, .ref qo26, .ref qo27, .ref qo28, .ref qo29, .ref qo30, .ref qo31, .ref qo32, .ref qo33, .ref qo34, .ref qo35, .int 0])), (qo2, .inr (9, [.ref qo10, .ref qo11, .ref qo12, .int 1, .ref qo13, .ref qo14, .ref qo15, .ref qo16, .ref qo17, .int 32, .int 0, .int 2, .int 0]))]) (va_A [(qo4, .inr (2, [.ref qo2, .ref qo18, .int 1, .ref qo19, .ref qo20, .ref qo21, .ref qo22, .ref qo23, .ref qo24, .ref qo25, .ref qo26, .ref qo27, .ref qo28, .ref qo29, .ref qo30, .ref qo31, .ref qo32, .ref qo33, .ref qo34, .ref qo35, .int 0])), (qo2, .inr (9, [.ref qo10, .ref qo11, .ref qo12, .int 1, .ref qo13, .ref qo14, .ref qo15, .ref qo16, .ref qo17, .int 32, .int 0, .int 2, .int 0]))] sz)) 0 0 (va_A [(qo4, .inr (2, [.ref qo2, .ref qo18, .int 1, .ref qo19, .ref qo20, .ref qo21, .ref qo22, .ref qo23, .ref qo24, .ref qo25, .ref qo26, .ref qo27, .ref qo28, .ref qo29, .ref qo30, .ref qo31, .ref qo32, .ref qo33, .ref qo34, .ref qo35, .int 0])), (qo2, .inr (9, [.ref qo10, .ref qo11, .ref qo12, .int 1, .ref qo13, .ref qo14, .ref qo15, .ref qo16, .ref qo17, .int 32, .int 0, .int 2, .int 0]))] sz) := by
  refine Met.ofW (cc := cX2_readClasses) (maxL := 2) (ret := none) (by decide) rfl ?_
  intro p e s m args below meth c s₁ B hml hv
  obtain ⟨rfl, hsz, hP, hK, hD0⟩ := hv
  have hx := B.exec
  have hb := B.bytes
  have hr := B.returns
  have hts := atoms_spec (ws := (.code yX2_readClasses cX2_readClasses 2 none :: VS_k1)) B.pre
  replace hts := fun w (h : w ∈ VS_k1) => hts w (List.mem_cons_of_mem _ h)
  have hown : s.vm.findClass RX2 = some m.cls := findClass_of_methodNamed B.named
  have hlocks := B.notSynchronized
  subst hsz
  have hD := hD0.self (sz := s.heap.size)
  generalize hAe : va_A [(qo4, .inr (2, [.ref qo2, .ref qo18, .int 1, .ref qo19, .ref qo20, .ref qo21, .ref qo22, .ref qo23, .ref qo24, .ref qo25, .ref qo26, .ref qo27, .ref qo28, .ref qo29, .ref qo30, .ref qo31, .ref qo32, .ref qo33, .ref qo34, .ref qo35, .int 0])), (qo2, .inr (9, [.ref qo10, .ref qo11, .ref qo12, .int 1, .ref qo13, .ref qo14, .ref qo15, .ref qo16, .ref qo17, .int 32, .int 0, .int 2, .int 0]))] s.heap.size = A at hD  ⊢
  have hA : ∀ q : Nat, s.heap.size ≤ q → A q := fun q h => by rw [← hAe]; exact Or.inr h
  have hP : va_P (dC, dI) vwCl [(qo4, .inr (2, [.ref qo2, .ref qo18, .int 1, .ref qo19, .ref qo20, .ref qo21, .ref qo22, .ref qo23, .ref qo24, .ref qo25, .ref qo26, .ref qo27, .ref qo28, .ref qo29, .ref qo30, .ref qo31, .ref qo32, .ref qo33, .ref qo34, .ref qo35, .int 0])), (qo2, .inr (9, [.ref qo10, .ref qo11, .ref qo12, .int 1, .ref qo13, .ref qo14, .ref qo15, .ref qo16, .ref qo17, .int 32, .int 0, .int 2, .int 0]))] s.heap := hP
  have hl := lv_entry ([.ref qo4]) (n := 2) (Nat.le_of_ble_eq_true rfl)
  rw [lg_entry_eq]
  generalize (lg_sl ([.ref qo4]) ++ List.replicate (2 - (lg_sl ([.ref qo4])).length) Slot.unset).toArray = ls at hl ⊢
  have hl : lv_has ls 2 [(0, .ref qo4)] := hl
  obtain ⟨H, hH⟩ : ∃ H : Heap, s.heap = H := ⟨_, rfl⟩
  rw [hH] at hP ⊢
  have hS : va_S A s.heap H [] := by rw [← hH]; exact va_S.rf
  obtain ⟨locs, hlo⟩ : ∃ locs : List Loc, locs = [] := ⟨_, rfl⟩
  rw [← hlo] at hS ⊢
  refine lv_aload_n hx hb dX2_readClasses_0 rfl (lv_at hl 0 rfl) ?_
  refine va_get (D := (dC, dI)) (ci := 2) (v := .ref qo2) (C := RX2) (T := TX2) (N := 21) hx hb hts uV_k1_X2 hown hK hP 0 rfl rfl 0 (by decide) (hts (.fieldLink RX2 74 "ClassMill$Heads" "text" "LClassMill$Text;") mw_k1_216) (fun _ h9 => h9) rfl dX2_readClasses_1 ?_
  refine va_get (D := (dC, dI)) (ci := 9) (v := .int 2) (C := RX9) (T := TX9) (N := 13) hx hb hts uV_k1_X9 hown hK hP 1 rfl rfl 11 (by decide) (hts (.fieldLink RX2 91 "ClassMill$Text" "fault" "I") mw_k1_217) (fun _ h9 => h9) rfl dX2_readClasses_4 ?_
  refine lv_if_eq (tgt := 11) hx hb dX2_readClasses_7 (by decide) (fun c_1 => (show False by revert c_1; decide).elim) (fun c_1 => ?_)
  have hP9 := hP.sub (ws' := [(qo4, .inr (2, [.ref qo2, .ref qo18, .int 1, .ref qo19, .ref qo20, .ref qo21, .ref qo22, .ref qo23, .ref qo24, .ref qo25, .ref qo26, .ref qo27, .ref qo28, .ref qo29, .ref qo30, .ref qo31, .ref qo32, .ref qo33, .ref qo34, .ref qo35, .int 0])), (qo2, .inr (9, [.ref qo10, .ref qo11, .ref qo12, .int 1, .ref qo13, .ref qo14, .ref qo15, .ref qo16, .ref qo17, .int 32, .int 0, .int 2, .int 0]))]) [0, 1] rfl
  have hD9 := hD.sub (ws' := [(qo4, .inr (2, [.ref qo2, .ref qo18, .int 1, .ref qo19, .ref qo20, .ref qo21, .ref qo22, .ref qo23, .ref qo24, .ref qo25, .ref qo26, .ref qo27, .ref qo28, .ref qo29, .ref qo30, .ref qo31, .ref qo32, .ref qo33, .ref qo34, .ref qo35, .int 0])), (qo2, .inr (9, [.ref qo10, .ref qo11, .ref qo12, .int 1, .ref qo13, .ref qo14, .ref qo15, .ref qo16, .ref qo17, .int 32, .int 0, .int 2, .int 0]))]) [0, 1] (by decide) rfl
  have hK9 := hK.sub (tys' := []) [] rfl
  exact W.vret hx hb hr (fun t ht hW => ⟨⟨(), rfl, trivial, by rw [ht]; exact hP9, va_K.moved hW.alike hK9, hD9⟩, hS.F ht⟩) hS.2.2 dX2_readClasses_10
set_option maxHeartbeats 4000000 in
set_option maxRecDepth 100000 in
/-- kk_readMembers -/
theorem kk_readMembers (l : Launch) (dC : Nat → ClassId) (dI : Nat → Nat → Nat) (sz : Nat) (qo4 : Nat) (qo2 : Nat) (qo18 : Nat) (qo19 : Nat) (qo20 : Nat) (qo21 : Nat) (qo22 : Nat) (qo23 : Nat) (qo24 : Nat) (qo25 : Nat) (qo26 : Nat) (qo27 : Nat) (qo28 : Nat) (qo29 : Nat) (qo30 : Nat) (qo31 : Nat) (qo32 : Nat) (qo33 : Nat) (qo34 : Nat) (qo35 : Nat) (qo10 : Nat) (qo11 : Nat) (qo12 : Nat) (qo13 : Nat) (qo14 : Nat) (qo15 : Nat) (qo16 : Nat) (qo17 : Nat)  : Met l yX2_readMembers (.code yX2_readMembers cX2_readMembers 4 none :: VS_k1) ({ frames := 0, cells := 0, slots := 0, locals := 0 }) (va_Pc [.ref qo4] (fun U => U.heap.size = sz ∧ va_P (dC, dI) vwCl [(qo4, .inr (2, [.ref qo2, .ref qo18, .int 1, .ref qo19, .ref qo20, .ref qo21, .ref qo22, .ref qo23, .ref qo24, .ref qo25, .ref qo26, .ref qo27, .ref qo28, .ref qo29, .ref qo30, .ref qo31, .ref qo32, .ref qo33, .ref qo34, .ref qo35, .int 0])), (qo2, .inr (9, [.ref qo10, .ref qo11, .ref qo12, .int 1, .ref qo13, .ref qo14, .ref qo15, .ref qo16, .ref qo17, .int 32, .int 0, .int 2, .int 0]))] U.heap ∧ va_K (dC, dI) vwCl [] U ∧ va_D (fun _ => True) [(qo4, .inr (2, [.ref qo2, .ref qo18, .int 1, .ref qo19, .ref qo20, .ref qo21, .ref qo22, .ref qo23, .ref qo24, .ref qo25, .ref qo26, .ref qo27, .ref qo28, .ref qo29, .ref qo30, .ref qo31, .ref qo32, .ref qo33, .ref qo34, .ref qo35, .int 0])), (qo2, .inr (9, [.ref qo10, .ref qo11, .ref qo12, .int 1, .ref qo13, .ref qo14, .ref qo15, .ref qo16, .ref qo17, .int 32, .int 0, .int 2, .int 0]))])) (va_Qv (fun (u : Unit) => match u with | () => True) (fun (u : Unit) (t : State) => match u with | () => va_P (dC, dI) vwCl [(qo4, .inr (2, [.ref qo2, .ref qo18, .int 1, .ref qo19, .ref qo20, .ref qo21, .ref qo22, .ref qo23, .ref qo24, .ref qo25, .ref qo26, .ref qo27, .ref qo28, .ref qo29, .ref qo30, .ref qo31, .ref qo32, .ref qo33, .ref qo34, .ref qo35, .int 0])), (qo2, .inr (9, [.ref qo10, .ref qo11, .ref qo12, .int 1, .ref qo13, .ref qo14, .ref qo15, .ref qo16, .ref qo17, .int 32, .int 0, .int 2, .int 0]))] t.heap ∧ va_K (dC, dI) vwCl [] t ∧ va_D (va_A [(qo4, .inr (2, [.ref qo2, .ref qo18, .int 1, .ref qo19, .ref qo20, .ref qo21, .ref qo22, .ref qo23, .ref qo24, .ref qo25, .ref qo26, .ref qo27, .ref qo28, .ref qo29, .ref qo30, .ref qo31, .ref qo32, .ref qo33, .ref qo34, .ref qo35, .int 0])), (qo2, .inr (9, [.ref qo10, .ref qo11, .ref qo12, .int 1, .ref qo13, .ref qo14, .ref qo15, .ref qo16, .ref qo17, .int 32, .int 0, .int 2, .int 0]))] sz) [(qo4, .inr (2, [.ref qo2, .ref qo18, .int 1, .ref qo19, .ref qo20, .ref qo21, .ref qo22, .ref qo23, .ref qo24, .ref qo25, .ref qo26, .ref qo27, .ref qo28, .ref qo29, .ref qo30, .ref qo31, .ref qo32, .ref qo33, .ref qo34, .ref qo35, .int 0])), (qo2, .inr (9, [.ref qo10, .ref qo11, .ref qo12, .int 1, .ref qo13, .ref qo14, .ref qo15, .ref qo16, .ref qo17, .int 32, .int 0, .int 2, .int 0]))]) (va_A [(qo4, .inr (2, [.ref qo2, .ref qo18, .int 1, .ref qo19, .ref qo20, .ref qo21, .ref qo22, .ref qo23, .ref qo24, .ref qo25, .ref qo26, .ref qo27, .ref qo28, .ref qo29, .ref qo30, .ref qo31, .ref qo32, .ref qo33, .ref qo34, .ref qo35, .int 0])), (qo2, .inr (9, [.ref qo10, .ref qo11, .ref qo12, .int 1, .ref qo13, .ref qo14, .ref qo15, .ref qo16, .ref qo17, .int 32, .int 0, .int 2, .int 0]))] sz)) 0 0 (va_A [(qo4, .inr (2, [.ref qo2, .ref qo18, .int 1, .ref qo19, .ref qo20, .ref qo21, .ref qo22, .ref qo23, .ref qo24, .ref qo25, .ref qo26, .ref qo27, .ref qo28, .ref qo29, .ref qo30, .ref qo31, .ref qo32, .ref qo33, .ref qo34, .ref qo35, .int 0])), (qo2, .inr (9, [.ref qo10, .ref qo11, .ref qo12, .int 1, .ref qo13, .ref qo14, .ref qo15, .ref qo16, .ref qo17, .int 32, .int 0, .int 2, .int 0]))] sz) := by
  refine Met.ofW (cc := cX2_readMembers) (maxL := 4) (ret := none) (by decide) rfl ?_
  intro p e s m args below meth c s₁ B hml hv
  obtain ⟨rfl, hsz, hP, hK, hD0⟩ := hv
  have hx := B.exec
  have hb := B.bytes
  have hr := B.returns
  have hts := atoms_spec (ws := (.code yX2_readMembers cX2_readMembers 4 none :: VS_k1)) B.pre
  replace hts := fun w (h : w ∈ VS_k1) => hts w (List.mem_cons_of_mem _ h)
  have hown : s.vm.findClass RX2 = some m.cls := findClass_of_methodNamed B.named
  have hlocks := B.notSynchronized
  subst hsz
  have hD := hD0.self (sz := s.heap.size)
  generalize hAe : va_A [(qo4, .inr (2, [.ref qo2, .ref qo18, .int 1, .ref qo19, .ref qo20, .ref qo21, .ref qo22, .ref qo23, .ref qo24, .ref qo25, .ref qo26, .ref qo27, .ref qo28, .ref qo29, .ref qo30, .ref qo31, .ref qo32, .ref qo33, .ref qo34, .ref qo35, .int 0])), (qo2, .inr (9, [.ref qo10, .ref qo11, .ref qo12, .int 1, .ref qo13, .ref qo14, .ref qo15, .ref qo16, .ref qo17, .int 32, .int 0, .int 2, .int 0]))] s.heap.size = A at hD  ⊢
  have hA : ∀ q : Nat, s.heap.size ≤ q → A q := fun q h => by rw [← hAe]; exact Or.inr h
  have hP : va_P (dC, dI) vwCl [(qo4, .inr (2, [.ref qo2, .ref qo18, .int 1, .ref qo19, .ref qo20, .ref qo21, .ref qo22, .ref qo23, .ref qo24, .ref qo25, .ref qo26, .ref qo27, .ref qo28, .ref qo29, .ref qo30, .ref qo31, .ref qo32, .ref qo33, .ref qo34, .ref qo35, .int 0])), (qo2, .inr (9, [.ref qo10, .ref qo11, .ref qo12, .int 1, .ref qo13, .ref qo14, .ref qo15, .ref qo16, .ref qo17, .int 32, .int 0, .int 2, .int 0]))] s.heap := hP
  have hl := lv_entry ([.ref qo4]) (n := 4) (Nat.le_of_ble_eq_true rfl)
  rw [lg_entry_eq]
  generalize (lg_sl ([.ref qo4]) ++ List.replicate (4 - (lg_sl ([.ref qo4])).length) Slot.unset).toArray = ls at hl ⊢
  have hl : lv_has ls 4 [(0, .ref qo4)] := hl
  obtain ⟨H, hH⟩ : ∃ H : Heap, s.heap = H := ⟨_, rfl⟩
  rw [hH] at hP ⊢
  have hS : va_S A s.heap H [] := by rw [← hH]; exact va_S.rf
  obtain ⟨locs, hlo⟩ : ∃ locs : List Loc, locs = [] := ⟨_, rfl⟩
  rw [← hlo] at hS ⊢
  refine lv_iconst (v := 0) hx hb dX2_readMembers_0 (by decide) ?_
  refine lv_istore_n (lv' := [(1, .int 0), (0, .ref qo4)]) hx hb dX2_readMembers_1 rfl hl (by decide) rfl (fun ls hl => ?_)
  refine lv_iload_n hx hb dX2_readMembers_2 rfl (lv_at hl 0 rfl) ?_
  refine lv_aload_n hx hb dX2_readMembers_3 rfl (lv_at hl 1 rfl) ?_
  refine va_get (D := (dC, dI)) (ci := 2) (v := .int 1) (C := RX2) (T := TX2) (N := 21) hx hb hts uV_k1_X2 hown hK hP 0 rfl rfl 2 (by decide) (hts (.fieldLink RX2 78 "ClassMill$Heads" "classes" "I") mw_k1_181) (fun _ h9 => h9) rfl dX2_readMembers_4 ?_
  refine lv_icmp_ge (tgt := 103) hx hb dX2_readMembers_7 (by decide) (fun c_1 => (show False by revert c_1; decide).elim) (fun c_1 => ?_)
  refine lv_aload_n hx hb dX2_readMembers_10 rfl (lv_at hl 1 rfl) ?_
  refine va_get (D := (dC, dI)) (ci := 2) (v := .ref qo2) (C := RX2) (T := TX2) (N := 21) hx hb hts uV_k1_X2 hown hK hP 0 rfl rfl 0 (by decide) (hts (.fieldLink RX2 74 "ClassMill$Heads" "text" "LClassMill$Text;") mw_k1_216) (fun _ h9 => h9) rfl dX2_readMembers_11 ?_
  refine va_get (D := (dC, dI)) (ci := 9) (v := .int 2) (C := RX9) (T := TX9) (N := 13) hx hb hts uV_k1_X9 hown hK hP 1 rfl rfl 11 (by decide) (hts (.fieldLink RX2 91 "ClassMill$Text" "fault" "I") mw_k1_217) (fun _ h9 => h9) rfl dX2_readMembers_14 ?_
  refine lv_if_ne (tgt := 103) hx hb dX2_readMembers_17 (by decide) (fun c_2 => ?_) (fun c_2 => (show False by revert c_2; decide).elim)
  have hP9 := hP.sub (ws' := [(qo4, .inr (2, [.ref qo2, .ref qo18, .int 1, .ref qo19, .ref qo20, .ref qo21, .ref qo22, .ref qo23, .ref qo24, .ref qo25, .ref qo26, .ref qo27, .ref qo28, .ref qo29, .ref qo30, .ref qo31, .ref qo32, .ref qo33, .ref qo34, .ref qo35, .int 0])), (qo2, .inr (9, [.ref qo10, .ref qo11, .ref qo12, .int 1, .ref qo13, .ref qo14, .ref qo15, .ref qo16, .ref qo17, .int 32, .int 0, .int 2, .int 0]))]) [0, 1] rfl
  have hD9 := hD.sub (ws' := [(qo4, .inr (2, [.ref qo2, .ref qo18, .int 1, .ref qo19, .ref qo20, .ref qo21, .ref qo22, .ref qo23, .ref qo24, .ref qo25, .ref qo26, .ref qo27, .ref qo28, .ref qo29, .ref qo30, .ref qo31, .ref qo32, .ref qo33, .ref qo34, .ref qo35, .int 0])), (qo2, .inr (9, [.ref qo10, .ref qo11, .ref qo12, .int 1, .ref qo13, .ref qo14, .ref qo15, .ref qo16, .ref qo17, .int 32, .int 0, .int 2, .int 0]))]) [0, 1] (by decide) rfl
  have hK9 := hK.sub (tys' := []) [] rfl
  exact W.vret hx hb hr (fun t ht hW => ⟨⟨(), rfl, trivial, by rw [ht]; exact hP9, va_K.moved hW.alike hK9, hD9⟩, hS.F ht⟩) hS.2.2 dX2_readMembers_103
set_option maxHeartbeats 4000000 in
set_option maxRecDepth 100000 in
/-- kk_checkOverrides -/
theorem kk_checkOverrides (l : Launch) (dC : Nat → ClassId) (dI : Nat → Nat → Nat) (sz : Nat) (qo4 : Nat) (qo2 : Nat) (qo18 : Nat) (qo19 : Nat) (qo20 : Nat) (qo21 : Nat) (qo22 : Nat) (qo23 : Nat) (qo24 : Nat) (qo25 : Nat) (qo26 : Nat) (qo27 : Nat) (qo28 : Nat) (qo29 : Nat) (qo30 : Nat) (qo31 : Nat) (qo32 : Nat) (qo33 : Nat) (qo34 : Nat) (qo35 : Nat) (qo10 : Nat) (qo11 : Nat) (qo12 : Nat) (qo13 : Nat) (qo14 : Nat) (qo15 : Nat) (qo16 : Nat) (qo17 : Nat) (co11 : ClassId)  : Met l yX2_checkOverrides (.code yX2_checkOverrides cX2_checkOverrides 2 none :: VS_k1) ({ frames := 0, cells := 0, slots := 0, locals := 0 }) (va_Pc [.ref qo4] (fun U => U.heap.size = sz ∧ va_P (dC, dI) vwCl [(qo4, .inr (2, [.ref qo2, .ref qo18, .int 1, .ref qo19, .ref qo20, .ref qo21, .ref qo22, .ref qo23, .ref qo24, .ref qo25, .ref qo26, .ref qo27, .ref qo28, .ref qo29, .ref qo30, .ref qo31, .ref qo32, .ref qo33, .ref qo34, .ref qo35, .int 0])), (qo2, .inr (9, [.ref qo10, .ref qo11, .ref qo12, .int 1, .ref qo13, .ref qo14, .ref qo15, .ref qo16, .ref qo17, .int 32, .int 0, .int 2, .int 0])), (qo26, .inl (co11, 96, .inl (fun _ => 0)))] U.heap ∧ va_K (dC, dI) vwCl [(co11, .int)] U ∧ va_D (fun _ => True) [(qo4, .inr (2, [.ref qo2, .ref qo18, .int 1, .ref qo19, .ref qo20, .ref qo21, .ref qo22, .ref qo23, .ref qo24, .ref qo25, .ref qo26, .ref qo27, .ref qo28, .ref qo29, .ref qo30, .ref qo31, .ref qo32, .ref qo33, .ref qo34, .ref qo35, .int 0])), (qo2, .inr (9, [.ref qo10, .ref qo11, .ref qo12, .int 1, .ref qo13, .ref qo14, .ref qo15, .ref qo16, .ref qo17, .int 32, .int 0, .int 2, .int 0])), (qo26, .inl (co11, 96, .inl (fun _ => 0)))])) (va_Qv (fun (u : Unit) => match u with | () => True) (fun (u : Unit) (t : State) => match u with | () => va_P (dC, dI) vwCl [(qo4, .inr (2, [.ref qo2, .ref qo18, .int 1, .ref qo19, .ref qo20, .ref qo21, .ref qo22, .ref qo23, .ref qo24, .ref qo25, .ref qo26, .ref qo27, .ref qo28, .ref qo29, .ref qo30, .ref qo31, .ref qo32, .ref qo33, .ref qo34, .ref qo35, .int 0])), (qo2, .inr (9, [.ref qo10, .ref qo11, .ref qo12, .int 1, .ref qo13, .ref qo14, .ref qo15, .ref qo16, .ref qo17, .int 32, .int 0, .int 2, .int 0])), (qo26, .inl (co11, 96, .inl (fun _ => 0)))] t.heap ∧ va_K (dC, dI) vwCl [(co11, .int)] t ∧ va_D (va_A [(qo4, .inr (2, [.ref qo2, .ref qo18, .int 1, .ref qo19, .ref qo20, .ref qo21, .ref qo22, .ref qo23, .ref qo24, .ref qo25, .ref qo26, .ref qo27, .ref qo28, .ref qo29, .ref qo30, .ref qo31, .ref qo32, .ref qo33, .ref qo34, .ref qo35, .int 0])), (qo2, .inr (9, [.ref qo10, .ref qo11, .ref qo12, .int 1, .ref qo13, .ref qo14, .ref qo15, .ref qo16, .ref qo17, .int 32, .int 0, .int 2, .int 0])), (qo26, .inl (co11, 96, .inl (fun _ => 0)))] sz) [(qo4, .inr (2, [.ref qo2, .ref qo18, .int 1, .ref qo19, .ref qo20, .ref qo21, .ref qo22, .ref qo23, .ref qo24, .ref qo25, .ref qo26, .ref qo27, .ref qo28, .ref qo29, .ref qo30, .ref qo31, .ref qo32, .ref qo33, .ref qo34, .ref qo35, .int 0])), (qo2, .inr (9, [.ref qo10, .ref qo11, .ref qo12, .int 1, .ref qo13, .ref qo14, .ref qo15, .ref qo16, .ref qo17, .int 32, .int 0, .int 2, .int 0])), (qo26, .inl (co11, 96, .inl (fun _ => 0)))]) (va_A [(qo4, .inr (2, [.ref qo2, .ref qo18, .int 1, .ref qo19, .ref qo20, .ref qo21, .ref qo22, .ref qo23, .ref qo24, .ref qo25, .ref qo26, .ref qo27, .ref qo28, .ref qo29, .ref qo30, .ref qo31, .ref qo32, .ref qo33, .ref qo34, .ref qo35, .int 0])), (qo2, .inr (9, [.ref qo10, .ref qo11, .ref qo12, .int 1, .ref qo13, .ref qo14, .ref qo15, .ref qo16, .ref qo17, .int 32, .int 0, .int 2, .int 0])), (qo26, .inl (co11, 96, .inl (fun _ => 0)))] sz)) 0 0 (va_A [(qo4, .inr (2, [.ref qo2, .ref qo18, .int 1, .ref qo19, .ref qo20, .ref qo21, .ref qo22, .ref qo23, .ref qo24, .ref qo25, .ref qo26, .ref qo27, .ref qo28, .ref qo29, .ref qo30, .ref qo31, .ref qo32, .ref qo33, .ref qo34, .ref qo35, .int 0])), (qo2, .inr (9, [.ref qo10, .ref qo11, .ref qo12, .int 1, .ref qo13, .ref qo14, .ref qo15, .ref qo16, .ref qo17, .int 32, .int 0, .int 2, .int 0])), (qo26, .inl (co11, 96, .inl (fun _ => 0)))] sz) := by
  refine Met.ofW (cc := cX2_checkOverrides) (maxL := 2) (ret := none) (by decide) rfl ?_
  intro p e s m args below meth c s₁ B hml hv
  obtain ⟨rfl, hsz, hP, hK, hD0⟩ := hv
  have hx := B.exec
  have hb := B.bytes
  have hr := B.returns
  have hts := atoms_spec (ws := (.code yX2_checkOverrides cX2_checkOverrides 2 none :: VS_k1)) B.pre
  replace hts := fun w (h : w ∈ VS_k1) => hts w (List.mem_cons_of_mem _ h)
  have hown : s.vm.findClass RX2 = some m.cls := findClass_of_methodNamed B.named
  have hlocks := B.notSynchronized
  subst hsz
  have hD := hD0.self (sz := s.heap.size)
  generalize hAe : va_A [(qo4, .inr (2, [.ref qo2, .ref qo18, .int 1, .ref qo19, .ref qo20, .ref qo21, .ref qo22, .ref qo23, .ref qo24, .ref qo25, .ref qo26, .ref qo27, .ref qo28, .ref qo29, .ref qo30, .ref qo31, .ref qo32, .ref qo33, .ref qo34, .ref qo35, .int 0])), (qo2, .inr (9, [.ref qo10, .ref qo11, .ref qo12, .int 1, .ref qo13, .ref qo14, .ref qo15, .ref qo16, .ref qo17, .int 32, .int 0, .int 2, .int 0])), (qo26, .inl (co11, 96, .inl (fun _ => 0)))] s.heap.size = A at hD  ⊢
  have hA : ∀ q : Nat, s.heap.size ≤ q → A q := fun q h => by rw [← hAe]; exact Or.inr h
  have hP : va_P (dC, dI) vwCl [(qo4, .inr (2, [.ref qo2, .ref qo18, .int 1, .ref qo19, .ref qo20, .ref qo21, .ref qo22, .ref qo23, .ref qo24, .ref qo25, .ref qo26, .ref qo27, .ref qo28, .ref qo29, .ref qo30, .ref qo31, .ref qo32, .ref qo33, .ref qo34, .ref qo35, .int 0])), (qo2, .inr (9, [.ref qo10, .ref qo11, .ref qo12, .int 1, .ref qo13, .ref qo14, .ref qo15, .ref qo16, .ref qo17, .int 32, .int 0, .int 2, .int 0])), (qo26, .inl (co11, 96, .inl (fun _ => 0)))] s.heap := hP
  have hl := lv_entry ([.ref qo4]) (n := 2) (Nat.le_of_ble_eq_true rfl)
  rw [lg_entry_eq]
  generalize (lg_sl ([.ref qo4]) ++ List.replicate (2 - (lg_sl ([.ref qo4])).length) Slot.unset).toArray = ls at hl ⊢
  have hl : lv_has ls 2 [(0, .ref qo4)] := hl
  obtain ⟨H, hH⟩ : ∃ H : Heap, s.heap = H := ⟨_, rfl⟩
  rw [hH] at hP ⊢
  have hS : va_S A s.heap H [] := by rw [← hH]; exact va_S.rf
  obtain ⟨locs, hlo⟩ : ∃ locs : List Loc, locs = [] := ⟨_, rfl⟩
  rw [← hlo] at hS ⊢
  refine lv_iconst (v := 0) hx hb dX2_checkOverrides_0 (by decide) ?_
  refine lv_istore_n (lv' := [(1, .int 0), (0, .ref qo4)]) hx hb dX2_checkOverrides_1 rfl hl (by decide) rfl (fun ls hl => ?_)
  refine lv_iload_n hx hb dX2_checkOverrides_2 rfl (lv_at hl 0 rfl) ?_
  refine lv_aload_n hx hb dX2_checkOverrides_3 rfl (lv_at hl 1 rfl) ?_
  refine va_get (D := (dC, dI)) (ci := 2) (v := .ref qo26) (C := RX2) (T := TX2) (N := 21) hx hb hts uV_k1_X2 hown hK hP 0 rfl rfl 10 (by decide) (hts (.fieldLink RX2 42 "ClassMill$Heads" "methodAt" "[I") mw_k1_218) (fun _ h9 => h9) rfl dX2_checkOverrides_4 ?_
  refine va_alen (v := 96) hx hb hK hP 2 0 rfl rfl rfl dX2_checkOverrides_7 ?_
  refine lv_icmp_ge (tgt := 40) hx hb dX2_checkOverrides_8 (by decide) (fun c_1 => (show False by revert c_1; decide).elim) (fun c_1 => ?_)
  refine lv_aload_n hx hb dX2_checkOverrides_11 rfl (lv_at hl 1 rfl) ?_
  refine va_get (D := (dC, dI)) (ci := 2) (v := .ref qo2) (C := RX2) (T := TX2) (N := 21) hx hb hts uV_k1_X2 hown hK hP 0 rfl rfl 0 (by decide) (hts (.fieldLink RX2 74 "ClassMill$Heads" "text" "LClassMill$Text;") mw_k1_216) (fun _ h9 => h9) rfl dX2_checkOverrides_12 ?_
  refine va_get (D := (dC, dI)) (ci := 9) (v := .int 2) (C := RX9) (T := TX9) (N := 13) hx hb hts uV_k1_X9 hown hK hP 1 rfl rfl 11 (by decide) (hts (.fieldLink RX2 91 "ClassMill$Text" "fault" "I") mw_k1_217) (fun _ h9 => h9) rfl dX2_checkOverrides_15 ?_
  refine lv_if_ne (tgt := 40) hx hb dX2_checkOverrides_18 (by decide) (fun c_2 => ?_) (fun c_2 => (show False by revert c_2; decide).elim)
  have hP9 := hP.sub (ws' := [(qo4, .inr (2, [.ref qo2, .ref qo18, .int 1, .ref qo19, .ref qo20, .ref qo21, .ref qo22, .ref qo23, .ref qo24, .ref qo25, .ref qo26, .ref qo27, .ref qo28, .ref qo29, .ref qo30, .ref qo31, .ref qo32, .ref qo33, .ref qo34, .ref qo35, .int 0])), (qo2, .inr (9, [.ref qo10, .ref qo11, .ref qo12, .int 1, .ref qo13, .ref qo14, .ref qo15, .ref qo16, .ref qo17, .int 32, .int 0, .int 2, .int 0])), (qo26, .inl (co11, 96, .inl (fun _ => 0)))]) [0, 1, 2] rfl
  have hD9 := hD.sub (ws' := [(qo4, .inr (2, [.ref qo2, .ref qo18, .int 1, .ref qo19, .ref qo20, .ref qo21, .ref qo22, .ref qo23, .ref qo24, .ref qo25, .ref qo26, .ref qo27, .ref qo28, .ref qo29, .ref qo30, .ref qo31, .ref qo32, .ref qo33, .ref qo34, .ref qo35, .int 0])), (qo2, .inr (9, [.ref qo10, .ref qo11, .ref qo12, .int 1, .ref qo13, .ref qo14, .ref qo15, .ref qo16, .ref qo17, .int 32, .int 0, .int 2, .int 0])), (qo26, .inl (co11, 96, .inl (fun _ => 0)))]) [0, 1, 2] (by decide) rfl
  have hK9 := hK.sub (tys' := [(co11, .int)]) [0] rfl
  exact W.vret hx hb hr (fun t ht hW => ⟨⟨(), rfl, trivial, by rw [ht]; exact hP9, va_K.moved hW.alike hK9, hD9⟩, hS.F ht⟩) hS.2.2 dX2_checkOverrides_40
set_option maxHeartbeats 4000000 in
set_option maxRecDepth 100000 in
/-- kk_nameKinds -/
theorem kk_nameKinds (l : Launch) (dC : Nat → ClassId) (dI : Nat → Nat → Nat) (sz : Nat) (qo4 : Nat) (qo2 : Nat) (qo18 : Nat) (qo19 : Nat) (qo20 : Nat) (qo21 : Nat) (qo22 : Nat) (qo23 : Nat) (qo24 : Nat) (qo25 : Nat) (qo26 : Nat) (qo27 : Nat) (qo28 : Nat) (qo29 : Nat) (qo30 : Nat) (qo31 : Nat) (qo32 : Nat) (qo33 : Nat) (qo34 : Nat) (qo35 : Nat) (qo10 : Nat) (qo11 : Nat) (qo12 : Nat) (qo13 : Nat) (qo14 : Nat) (qo15 : Nat) (qo16 : Nat) (qo17 : Nat) (co11 : ClassId) (co10 : ClassId)  : Met l yX2_nameKinds (.code yX2_nameKinds cX2_nameKinds 2 none :: VS_k1) ({ frames := 0, cells := 0, slots := 0, locals := 0 }) (va_Pc [.ref qo4] (fun U => U.heap.size = sz ∧ va_P (dC, dI) vwCl [(qo4, .inr (2, [.ref qo2, .ref qo18, .int 1, .ref qo19, .ref qo20, .ref qo21, .ref qo22, .ref qo23, .ref qo24, .ref qo25, .ref qo26, .ref qo27, .ref qo28, .ref qo29, .ref qo30, .ref qo31, .ref qo32, .ref qo33, .ref qo34, .ref qo35, .int 0])), (qo2, .inr (9, [.ref qo10, .ref qo11, .ref qo12, .int 1, .ref qo13, .ref qo14, .ref qo15, .ref qo16, .ref qo17, .int 32, .int 0, .int 2, .int 0])), (qo26, .inl (co11, 96, .inl (fun _ => 0))), (qo22, .inl (co10, 96, .inl (fun _ => 0)))] U.heap ∧ va_K (dC, dI) vwCl [(co11, .int), (co10, .int)] U ∧ va_D (fun _ => True) [(qo4, .inr (2, [.ref qo2, .ref qo18, .int 1, .ref qo19, .ref qo20, .ref qo21, .ref qo22, .ref qo23, .ref qo24, .ref qo25, .ref qo26, .ref qo27, .ref qo28, .ref qo29, .ref qo30, .ref qo31, .ref qo32, .ref qo33, .ref qo34, .ref qo35, .int 0])), (qo2, .inr (9, [.ref qo10, .ref qo11, .ref qo12, .int 1, .ref qo13, .ref qo14, .ref qo15, .ref qo16, .ref qo17, .int 32, .int 0, .int 2, .int 0])), (qo26, .inl (co11, 96, .inl (fun _ => 0))), (qo22, .inl (co10, 96, .inl (fun _ => 0)))])) (va_Qv (fun (u : Unit) => match u with | () => True) (fun (u : Unit) (t : State) => match u with | () => va_P (dC, dI) vwCl [(qo4, .inr (2, [.ref qo2, .ref qo18, .int 1, .ref qo19, .ref qo20, .ref qo21, .ref qo22, .ref qo23, .ref qo24, .ref qo25, .ref qo26, .ref qo27, .ref qo28, .ref qo29, .ref qo30, .ref qo31, .ref qo32, .ref qo33, .ref qo34, .ref qo35, .int 0])), (qo2, .inr (9, [.ref qo10, .ref qo11, .ref qo12, .int 1, .ref qo13, .ref qo14, .ref qo15, .ref qo16, .ref qo17, .int 32, .int 0, .int 2, .int 0]))] t.heap ∧ va_K (dC, dI) vwCl [] t ∧ va_D (va_A [(qo4, .inr (2, [.ref qo2, .ref qo18, .int 1, .ref qo19, .ref qo20, .ref qo21, .ref qo22, .ref qo23, .ref qo24, .ref qo25, .ref qo26, .ref qo27, .ref qo28, .ref qo29, .ref qo30, .ref qo31, .ref qo32, .ref qo33, .ref qo34, .ref qo35, .int 0])), (qo2, .inr (9, [.ref qo10, .ref qo11, .ref qo12, .int 1, .ref qo13, .ref qo14, .ref qo15, .ref qo16, .ref qo17, .int 32, .int 0, .int 2, .int 0])), (qo26, .inl (co11, 96, .inl (fun _ => 0))), (qo22, .inl (co10, 96, .inl (fun _ => 0)))] sz) [(qo4, .inr (2, [.ref qo2, .ref qo18, .int 1, .ref qo19, .ref qo20, .ref qo21, .ref qo22, .ref qo23, .ref qo24, .ref qo25, .ref qo26, .ref qo27, .ref qo28, .ref qo29, .ref qo30, .ref qo31, .ref qo32, .ref qo33, .ref qo34, .ref qo35, .int 0])), (qo2, .inr (9, [.ref qo10, .ref qo11, .ref qo12, .int 1, .ref qo13, .ref qo14, .ref qo15, .ref qo16, .ref qo17, .int 32, .int 0, .int 2, .int 0]))]) (va_A [(qo4, .inr (2, [.ref qo2, .ref qo18, .int 1, .ref qo19, .ref qo20, .ref qo21, .ref qo22, .ref qo23, .ref qo24, .ref qo25, .ref qo26, .ref qo27, .ref qo28, .ref qo29, .ref qo30, .ref qo31, .ref qo32, .ref qo33, .ref qo34, .ref qo35, .int 0])), (qo2, .inr (9, [.ref qo10, .ref qo11, .ref qo12, .int 1, .ref qo13, .ref qo14, .ref qo15, .ref qo16, .ref qo17, .int 32, .int 0, .int 2, .int 0])), (qo26, .inl (co11, 96, .inl (fun _ => 0))), (qo22, .inl (co10, 96, .inl (fun _ => 0)))] sz)) 0 0 (va_A [(qo4, .inr (2, [.ref qo2, .ref qo18, .int 1, .ref qo19, .ref qo20, .ref qo21, .ref qo22, .ref qo23, .ref qo24, .ref qo25, .ref qo26, .ref qo27, .ref qo28, .ref qo29, .ref qo30, .ref qo31, .ref qo32, .ref qo33, .ref qo34, .ref qo35, .int 0])), (qo2, .inr (9, [.ref qo10, .ref qo11, .ref qo12, .int 1, .ref qo13, .ref qo14, .ref qo15, .ref qo16, .ref qo17, .int 32, .int 0, .int 2, .int 0])), (qo26, .inl (co11, 96, .inl (fun _ => 0))), (qo22, .inl (co10, 96, .inl (fun _ => 0)))] sz) := by
  refine Met.ofW (cc := cX2_nameKinds) (maxL := 2) (ret := none) (by decide) rfl ?_
  intro p e s m args below meth c s₁ B hml hv
  obtain ⟨rfl, hsz, hP, hK, hD0⟩ := hv
  have hx := B.exec
  have hb := B.bytes
  have hr := B.returns
  have hts := atoms_spec (ws := (.code yX2_nameKinds cX2_nameKinds 2 none :: VS_k1)) B.pre
  replace hts := fun w (h : w ∈ VS_k1) => hts w (List.mem_cons_of_mem _ h)
  have hown : s.vm.findClass RX2 = some m.cls := findClass_of_methodNamed B.named
  have hlocks := B.notSynchronized
  subst hsz
  have hD := hD0.self (sz := s.heap.size)
  generalize hAe : va_A [(qo4, .inr (2, [.ref qo2, .ref qo18, .int 1, .ref qo19, .ref qo20, .ref qo21, .ref qo22, .ref qo23, .ref qo24, .ref qo25, .ref qo26, .ref qo27, .ref qo28, .ref qo29, .ref qo30, .ref qo31, .ref qo32, .ref qo33, .ref qo34, .ref qo35, .int 0])), (qo2, .inr (9, [.ref qo10, .ref qo11, .ref qo12, .int 1, .ref qo13, .ref qo14, .ref qo15, .ref qo16, .ref qo17, .int 32, .int 0, .int 2, .int 0])), (qo26, .inl (co11, 96, .inl (fun _ => 0))), (qo22, .inl (co10, 96, .inl (fun _ => 0)))] s.heap.size = A at hD  ⊢
  have hA : ∀ q : Nat, s.heap.size ≤ q → A q := fun q h => by rw [← hAe]; exact Or.inr h
  have hP : va_P (dC, dI) vwCl [(qo4, .inr (2, [.ref qo2, .ref qo18, .int 1, .ref qo19, .ref qo20, .ref qo21, .ref qo22, .ref qo23, .ref qo24, .ref qo25, .ref qo26, .ref qo27, .ref qo28, .ref qo29, .ref qo30, .ref qo31, .ref qo32, .ref qo33, .ref qo34, .ref qo35, .int 0])), (qo2, .inr (9, [.ref qo10, .ref qo11, .ref qo12, .int 1, .ref qo13, .ref qo14, .ref qo15, .ref qo16, .ref qo17, .int 32, .int 0, .int 2, .int 0])), (qo26, .inl (co11, 96, .inl (fun _ => 0))), (qo22, .inl (co10, 96, .inl (fun _ => 0)))] s.heap := hP
  have hl := lv_entry ([.ref qo4]) (n := 2) (Nat.le_of_ble_eq_true rfl)
  rw [lg_entry_eq]
  generalize (lg_sl ([.ref qo4]) ++ List.replicate (2 - (lg_sl ([.ref qo4])).length) Slot.unset).toArray = ls at hl ⊢
  have hl : lv_has ls 2 [(0, .ref qo4)] := hl
  obtain ⟨H, hH⟩ : ∃ H : Heap, s.heap = H := ⟨_, rfl⟩
  rw [hH] at hP ⊢
  have hS : va_S A s.heap H [] := by rw [← hH]; exact va_S.rf
  obtain ⟨locs, hlo⟩ : ∃ locs : List Loc, locs = [] := ⟨_, rfl⟩
  rw [← hlo] at hS ⊢
  refine lv_iconst (v := 0) hx hb dX2_nameKinds_0 (by decide) ?_
  refine lv_istore_n (lv' := [(1, .int 0), (0, .ref qo4)]) hx hb dX2_nameKinds_1 rfl hl (by decide) rfl (fun ls hl => ?_)
  refine lv_iload_n hx hb dX2_nameKinds_2 rfl (lv_at hl 0 rfl) ?_
  refine lv_bipush (v := 8) hx hb dX2_nameKinds_3 (by decide) ?_
  refine lv_aload_n hx hb dX2_nameKinds_5 rfl (lv_at hl 1 rfl) ?_
  refine va_get (D := (dC, dI)) (ci := 2) (v := .int 1) (C := RX2) (T := TX2) (N := 21) hx hb hts uV_k1_X2 hown hK hP 0 rfl rfl 2 (by decide) (hts (.fieldLink RX2 78 "ClassMill$Heads" "classes" "I") mw_k1_181) (fun _ h9 => h9) rfl dX2_nameKinds_6 ?_
  refine lv_iadd hx hb dX2_nameKinds_9 ?_
  refine lv_topi (fun y_1 ey_1 => ?_)
  obtain rfl : y_1 = 9 := ey_1.trans (by decide)
  refine lv_icmp_ge (tgt := 83) hx hb dX2_nameKinds_10 (by decide) (fun c_2 => (show False by revert c_2; decide).elim) (fun c_2 => ?_)
  refine lv_iload_n hx hb dX2_nameKinds_13 rfl (lv_at hl 0 rfl) ?_
  refine lv_bipush (v := 16) hx hb dX2_nameKinds_14 (by decide) ?_
  refine lv_icmp_ge (tgt := 83) hx hb dX2_nameKinds_16 (by decide) (fun c_3 => (show False by revert c_3; decide).elim) (fun c_3 => ?_)
  refine lv_aload_n hx hb dX2_nameKinds_19 rfl (lv_at hl 1 rfl) ?_
  refine va_get (D := (dC, dI)) (ci := 2) (v := .ref qo2) (C := RX2) (T := TX2) (N := 21) hx hb hts uV_k1_X2 hown hK hP 0 rfl rfl 0 (by decide) (hts (.fieldLink RX2 74 "ClassMill$Heads" "text" "LClassMill$Text;") mw_k1_216) (fun _ h9 => h9) rfl dX2_nameKinds_20 ?_
  refine va_get (D := (dC, dI)) (ci := 9) (v := .int 2) (C := RX9) (T := TX9) (N := 13) hx hb hts uV_k1_X9 hown hK hP 1 rfl rfl 11 (by decide) (hts (.fieldLink RX2 91 "ClassMill$Text" "fault" "I") mw_k1_217) (fun _ h9 => h9) rfl dX2_nameKinds_23 ?_
  refine lv_if_ne (tgt := 83) hx hb dX2_nameKinds_26 (by decide) (fun c_4 => ?_) (fun c_4 => (show False by revert c_4; decide).elim)
  refine lv_iconst (v := 0) hx hb dX2_nameKinds_83 (by decide) ?_
  refine lv_istore_n (lv' := [(1, .int 0), (0, .ref qo4)]) hx hb dX2_nameKinds_84 rfl hl (by decide) rfl (fun ls hl => ?_)
  refine lv_iload_n hx hb dX2_nameKinds_85 rfl (lv_at hl 0 rfl) ?_
  refine lv_aload_n hx hb dX2_nameKinds_86 rfl (lv_at hl 1 rfl) ?_
  refine va_get (D := (dC, dI)) (ci := 2) (v := .ref qo22) (C := RX2) (T := TX2) (N := 21) hx hb hts uV_k1_X2 hown hK hP 0 rfl rfl 6 (by decide) (hts (.fieldLink RX2 30 "ClassMill$Heads" "fieldName" "[I") mw_k1_219) (fun _ h9 => h9) rfl dX2_nameKinds_87 ?_
  refine va_alen (v := 96) hx hb hK hP 3 1 rfl rfl rfl dX2_nameKinds_90 ?_
  refine lv_icmp_ge (tgt := 142) hx hb dX2_nameKinds_91 (by decide) (fun c_5 => (show False by revert c_5; decide).elim) (fun c_5 => ?_)
  refine lv_aload_n hx hb dX2_nameKinds_94 rfl (lv_at hl 1 rfl) ?_
  refine va_get (D := (dC, dI)) (ci := 2) (v := .ref qo2) (C := RX2) (T := TX2) (N := 21) hx hb hts uV_k1_X2 hown hK hP 0 rfl rfl 0 (by decide) (hts (.fieldLink RX2 74 "ClassMill$Heads" "text" "LClassMill$Text;") mw_k1_216) (fun _ h9 => h9) rfl dX2_nameKinds_95 ?_
  refine va_get (D := (dC, dI)) (ci := 9) (v := .int 2) (C := RX9) (T := TX9) (N := 13) hx hb hts uV_k1_X9 hown hK hP 1 rfl rfl 11 (by decide) (hts (.fieldLink RX2 91 "ClassMill$Text" "fault" "I") mw_k1_217) (fun _ h9 => h9) rfl dX2_nameKinds_98 ?_
  refine lv_if_ne (tgt := 142) hx hb dX2_nameKinds_101 (by decide) (fun c_6 => ?_) (fun c_6 => (show False by revert c_6; decide).elim)
  refine lv_iconst (v := 0) hx hb dX2_nameKinds_142 (by decide) ?_
  refine lv_istore_n (lv' := [(1, .int 0), (0, .ref qo4)]) hx hb dX2_nameKinds_143 rfl hl (by decide) rfl (fun ls hl => ?_)
  refine lv_iload_n hx hb dX2_nameKinds_144 rfl (lv_at hl 0 rfl) ?_
  refine lv_aload_n hx hb dX2_nameKinds_145 rfl (lv_at hl 1 rfl) ?_
  refine va_get (D := (dC, dI)) (ci := 2) (v := .ref qo26) (C := RX2) (T := TX2) (N := 21) hx hb hts uV_k1_X2 hown hK hP 0 rfl rfl 10 (by decide) (hts (.fieldLink RX2 42 "ClassMill$Heads" "methodAt" "[I") mw_k1_218) (fun _ h9 => h9) rfl dX2_nameKinds_146 ?_
  refine va_alen (v := 96) hx hb hK hP 2 0 rfl rfl rfl dX2_nameKinds_149 ?_
  refine lv_icmp_ge (tgt := 188) hx hb dX2_nameKinds_150 (by decide) (fun c_7 => (show False by revert c_7; decide).elim) (fun c_7 => ?_)
  refine lv_aload_n hx hb dX2_nameKinds_153 rfl (lv_at hl 1 rfl) ?_
  refine va_get (D := (dC, dI)) (ci := 2) (v := .ref qo2) (C := RX2) (T := TX2) (N := 21) hx hb hts uV_k1_X2 hown hK hP 0 rfl rfl 0 (by decide) (hts (.fieldLink RX2 74 "ClassMill$Heads" "text" "LClassMill$Text;") mw_k1_216) (fun _ h9 => h9) rfl dX2_nameKinds_154 ?_
  refine va_get (D := (dC, dI)) (ci := 9) (v := .int 2) (C := RX9) (T := TX9) (N := 13) hx hb hts uV_k1_X9 hown hK hP 1 rfl rfl 11 (by decide) (hts (.fieldLink RX2 91 "ClassMill$Text" "fault" "I") mw_k1_217) (fun _ h9 => h9) rfl dX2_nameKinds_157 ?_
  refine lv_if_ne (tgt := 188) hx hb dX2_nameKinds_160 (by decide) (fun c_8 => ?_) (fun c_8 => (show False by revert c_8; decide).elim)
  have hP9 := hP.sub (ws' := [(qo4, .inr (2, [.ref qo2, .ref qo18, .int 1, .ref qo19, .ref qo20, .ref qo21, .ref qo22, .ref qo23, .ref qo24, .ref qo25, .ref qo26, .ref qo27, .ref qo28, .ref qo29, .ref qo30, .ref qo31, .ref qo32, .ref qo33, .ref qo34, .ref qo35, .int 0])), (qo2, .inr (9, [.ref qo10, .ref qo11, .ref qo12, .int 1, .ref qo13, .ref qo14, .ref qo15, .ref qo16, .ref qo17, .int 32, .int 0, .int 2, .int 0]))]) [0, 1] rfl
  have hD9 := hD.sub (ws' := [(qo4, .inr (2, [.ref qo2, .ref qo18, .int 1, .ref qo19, .ref qo20, .ref qo21, .ref qo22, .ref qo23, .ref qo24, .ref qo25, .ref qo26, .ref qo27, .ref qo28, .ref qo29, .ref qo30, .ref qo31, .ref qo32, .ref qo33, .ref qo34, .ref qo35, .int 0])), (qo2, .inr (9, [.ref qo10, .ref qo11, .ref qo12, .int 1, .ref qo13, .ref qo14, .ref qo15, .ref qo16, .ref qo17, .int 32, .int 0, .int 2, .int 0]))]) [0, 1] (by decide) rfl
  have hK9 := hK.sub (tys' := []) [] rfl
  exact W.vret hx hb hr (fun t ht hW => ⟨⟨(), rfl, trivial, by rw [ht]; exact hP9, va_K.moved hW.alike hK9, hD9⟩, hS.F ht⟩) hS.2.2 dX2_nameKinds_188
set_option maxHeartbeats 4000000 in
set_option maxRecDepth 100000 in
/-- kk_beginProgram -/
theorem kk_beginProgram (l : Launch) (dC : Nat → ClassId) (dI : Nat → Nat → Nat) (sz : Nat) (qo5 : Nat) (qo2 : Nat) (qo4 : Nat) (qo18 : Nat) (qo38 : Nat) (qo39 : Nat) (qo40 : Nat) (qo41 : Nat) (qo42 : Nat)  : Met l yX0_beginProgram (.code yX0_beginProgram cX0_beginProgram 1 none :: VS_k1) ({ frames := 0, cells := 0, slots := 0, locals := 0 }) (va_Pc [.ref qo5] (fun U => U.heap.size = sz ∧ va_P (dC, dI) vwCl [(qo5, .inr (0, [.ref qo2, .ref qo4, .ref qo18, .ref qo38, .ref qo39, .ref qo40, .ref qo41, .int 0, .int 0, .int 0, .int 0, .ref qo42, .int 0]))] U.heap ∧ va_K (dC, dI) vwCl [] U ∧ va_D (fun _ => True) [(qo5, .inr (0, [.ref qo2, .ref qo4, .ref qo18, .ref qo38, .ref qo39, .ref qo40, .ref qo41, .int 0, .int 0, .int 0, .int 0, .ref qo42, .int 0]))])) (va_Qv (fun (u : Unit) => match u with | () => True) (fun (u : Unit) (t : State) => match u with | () => va_P (dC, dI) vwCl [(qo5, .inr (0, [.ref qo2, .ref qo4, .ref qo18, .ref qo38, .ref qo39, .ref qo40, .ref qo41, .int (-1), .int 0, .int 0, .int 0, .ref qo42, .int 0]))] t.heap ∧ va_K (dC, dI) vwCl [] t ∧ va_D (va_A [(qo5, .inr (0, [.ref qo2, .ref qo4, .ref qo18, .ref qo38, .ref qo39, .ref qo40, .ref qo41, .int 0, .int 0, .int 0, .int 0, .ref qo42, .int 0]))] sz) [(qo5, .inr (0, [.ref qo2, .ref qo4, .ref qo18, .ref qo38, .ref qo39, .ref qo40, .ref qo41, .int (-1), .int 0, .int 0, .int 0, .ref qo42, .int 0]))]) (va_A [(qo5, .inr (0, [.ref qo2, .ref qo4, .ref qo18, .ref qo38, .ref qo39, .ref qo40, .ref qo41, .int 0, .int 0, .int 0, .int 0, .ref qo42, .int 0]))] sz)) 0 0 (va_A [(qo5, .inr (0, [.ref qo2, .ref qo4, .ref qo18, .ref qo38, .ref qo39, .ref qo40, .ref qo41, .int 0, .int 0, .int 0, .int 0, .ref qo42, .int 0]))] sz) := by
  refine Met.ofW (cc := cX0_beginProgram) (maxL := 1) (ret := none) (by decide) rfl ?_
  intro p e s m args below meth c s₁ B hml hv
  obtain ⟨rfl, hsz, hP, hK, hD0⟩ := hv
  have hx := B.exec
  have hb := B.bytes
  have hr := B.returns
  have hts := atoms_spec (ws := (.code yX0_beginProgram cX0_beginProgram 1 none :: VS_k1)) B.pre
  replace hts := fun w (h : w ∈ VS_k1) => hts w (List.mem_cons_of_mem _ h)
  have hown : s.vm.findClass RX0 = some m.cls := findClass_of_methodNamed B.named
  have hlocks := B.notSynchronized
  subst hsz
  have hD := hD0.self (sz := s.heap.size)
  generalize hAe : va_A [(qo5, .inr (0, [.ref qo2, .ref qo4, .ref qo18, .ref qo38, .ref qo39, .ref qo40, .ref qo41, .int 0, .int 0, .int 0, .int 0, .ref qo42, .int 0]))] s.heap.size = A at hD  ⊢
  have hA : ∀ q : Nat, s.heap.size ≤ q → A q := fun q h => by rw [← hAe]; exact Or.inr h
  have hP : va_P (dC, dI) vwCl [(qo5, .inr (0, [.ref qo2, .ref qo4, .ref qo18, .ref qo38, .ref qo39, .ref qo40, .ref qo41, .int 0, .int 0, .int 0, .int 0, .ref qo42, .int 0]))] s.heap := hP
  have hl := lv_entry ([.ref qo5]) (n := 1) (Nat.le_of_ble_eq_true rfl)
  rw [lg_entry_eq]
  generalize (lg_sl ([.ref qo5]) ++ List.replicate (1 - (lg_sl ([.ref qo5])).length) Slot.unset).toArray = ls at hl ⊢
  have hl : lv_has ls 1 [(0, .ref qo5)] := hl
  obtain ⟨H, hH⟩ : ∃ H : Heap, s.heap = H := ⟨_, rfl⟩
  rw [hH] at hP ⊢
  have hS : va_S A s.heap H [] := by rw [← hH]; exact va_S.rf
  obtain ⟨locs, hlo⟩ : ∃ locs : List Loc, locs = [] := ⟨_, rfl⟩
  rw [← hlo] at hS ⊢
  refine lv_aload_n hx hb dX0_beginProgram_0 rfl (lv_at hl 0 rfl) ?_
  refine lv_iconst (v := (-1)) hx hb dX0_beginProgram_1 (by decide) ?_
  refine va_put (D := (dC, dI)) (ci := 0) (v := .int (-1)) (ty := .int) (C := RX0) (T := TX0) (N := 13) hx hb hts uV_k1_X0 tyX0 tyX0_ok nmX0 hown hK hP hD hS 0 rfl rfl 7 (by decide) (hts (.fieldLink RX0 65 "ClassMill$Bodies" "muchAt" "I") mw_k1_220) (fun _ h9 => h9) rfl (by decide +kernel) rfl rfl (Nat.le_of_ble_eq_true rfl) dX0_beginProgram_2 ?_
  clear hP hD hS
  intro H locs hP hD hS
  replace hP : va_P (dC, dI) vwCl [(qo5, .inr (0, [.ref qo2, .ref qo4, .ref qo18, .ref qo38, .ref qo39, .ref qo40, .ref qo41, .int (-1), .int 0, .int 0, .int 0, .ref qo42, .int 0]))] H := hP
  replace hD : va_D A [(qo5, .inr (0, [.ref qo2, .ref qo4, .ref qo18, .ref qo38, .ref qo39, .ref qo40, .ref qo41, .int (-1), .int 0, .int 0, .int 0, .ref qo42, .int 0]))] := hD
  have hP9 := hP.sub (ws' := [(qo5, .inr (0, [.ref qo2, .ref qo4, .ref qo18, .ref qo38, .ref qo39, .ref qo40, .ref qo41, .int (-1), .int 0, .int 0, .int 0, .ref qo42, .int 0]))]) [0] rfl
  have hD9 := hD.sub (ws' := [(qo5, .inr (0, [.ref qo2, .ref qo4, .ref qo18, .ref qo38, .ref qo39, .ref qo40, .ref qo41, .int (-1), .int 0, .int 0, .int 0, .ref qo42, .int 0]))]) [0] (by decide) rfl
  have hK9 := hK.sub (tys' := []) [] rfl
  exact W.vret hx hb hr (fun t ht hW => ⟨⟨(), rfl, trivial, by rw [ht]; exact hP9, va_K.moved hW.alike hK9, hD9⟩, hS.F ht⟩) hS.2.2 dX0_beginProgram_5
set_option maxHeartbeats 4000000 in
set_option maxRecDepth 100000 in
/-- kk_closeProgram -/
theorem kk_closeProgram (l : Launch) (dC : Nat → ClassId) (dI : Nat → Nat → Nat) (sz : Nat) (qo5 : Nat) (qo2 : Nat) (qo4 : Nat) (qo18 : Nat) (qo38 : Nat) (qo39 : Nat) (qo40 : Nat) (qo41 : Nat) (qo42 : Nat)  : Met l yX0_closeProgram (.code yX0_closeProgram cX0_closeProgram 1 none :: VS_k1) ({ frames := 0, cells := 0, slots := 0, locals := 0 }) (va_Pc [.ref qo5] (fun U => U.heap.size = sz ∧ va_P (dC, dI) vwCl [(qo5, .inr (0, [.ref qo2, .ref qo4, .ref qo18, .ref qo38, .ref qo39, .ref qo40, .ref qo41, .int (-1), .int 0, .int 0, .int 0, .ref qo42, .int 0]))] U.heap ∧ va_K (dC, dI) vwCl [] U ∧ va_D (fun _ => True) [(qo5, .inr (0, [.ref qo2, .ref qo4, .ref qo18, .ref qo38, .ref qo39, .ref qo40, .ref qo41, .int (-1), .int 0, .int 0, .int 0, .ref qo42, .int 0]))])) (va_Qv (fun (u : Unit) => match u with | () => True) (fun (u : Unit) (t : State) => match u with | () => va_P (dC, dI) vwCl [(qo5, .inr (0, [.ref qo2, .ref qo4, .ref qo18, .ref qo38, .ref qo39, .ref qo40, .ref qo41, .int (-1), .int 0, .int 0, .int 0, .ref qo42, .int 0]))] t.heap ∧ va_K (dC, dI) vwCl [] t ∧ va_D (va_A [(qo5, .inr (0, [.ref qo2, .ref qo4, .ref qo18, .ref qo38, .ref qo39, .ref qo40, .ref qo41, .int (-1), .int 0, .int 0, .int 0, .ref qo42, .int 0]))] sz) [(qo5, .inr (0, [.ref qo2, .ref qo4, .ref qo18, .ref qo38, .ref qo39, .ref qo40, .ref qo41, .int (-1), .int 0, .int 0, .int 0, .ref qo42, .int 0]))]) (va_A [(qo5, .inr (0, [.ref qo2, .ref qo4, .ref qo18, .ref qo38, .ref qo39, .ref qo40, .ref qo41, .int (-1), .int 0, .int 0, .int 0, .ref qo42, .int 0]))] sz)) 0 0 (va_A [(qo5, .inr (0, [.ref qo2, .ref qo4, .ref qo18, .ref qo38, .ref qo39, .ref qo40, .ref qo41, .int (-1), .int 0, .int 0, .int 0, .ref qo42, .int 0]))] sz) := by
  refine Met.ofW (cc := cX0_closeProgram) (maxL := 1) (ret := none) (by decide) rfl ?_
  intro p e s m args below meth c s₁ B hml hv
  obtain ⟨rfl, hsz, hP, hK, hD0⟩ := hv
  have hx := B.exec
  have hb := B.bytes
  have hr := B.returns
  have hts := atoms_spec (ws := (.code yX0_closeProgram cX0_closeProgram 1 none :: VS_k1)) B.pre
  replace hts := fun w (h : w ∈ VS_k1) => hts w (List.mem_cons_of_mem _ h)
  have hown : s.vm.findClass RX0 = some m.cls := findClass_of_methodNamed B.named
  have hlocks := B.notSynchronized
  subst hsz
  have hD := hD0.self (sz := s.heap.size)
  generalize hAe : va_A [(qo5, .inr (0, [.ref qo2, .ref qo4, .ref qo18, .ref qo38, .ref qo39, .ref qo40, .ref qo41, .int (-1), .int 0, .int 0, .int 0, .ref qo42, .int 0]))] s.heap.size = A at hD  ⊢
  have hA : ∀ q : Nat, s.heap.size ≤ q → A q := fun q h => by rw [← hAe]; exact Or.inr h
  have hP : va_P (dC, dI) vwCl [(qo5, .inr (0, [.ref qo2, .ref qo4, .ref qo18, .ref qo38, .ref qo39, .ref qo40, .ref qo41, .int (-1), .int 0, .int 0, .int 0, .ref qo42, .int 0]))] s.heap := hP
  have hl := lv_entry ([.ref qo5]) (n := 1) (Nat.le_of_ble_eq_true rfl)
  rw [lg_entry_eq]
  generalize (lg_sl ([.ref qo5]) ++ List.replicate (1 - (lg_sl ([.ref qo5])).length) Slot.unset).toArray = ls at hl ⊢
  have hl : lv_has ls 1 [(0, .ref qo5)] := hl
  obtain ⟨H, hH⟩ : ∃ H : Heap, s.heap = H := ⟨_, rfl⟩
  rw [hH] at hP ⊢
  have hS : va_S A s.heap H [] := by rw [← hH]; exact va_S.rf
  obtain ⟨locs, hlo⟩ : ∃ locs : List Loc, locs = [] := ⟨_, rfl⟩
  rw [← hlo] at hS ⊢
  refine lv_aload_n hx hb dX0_closeProgram_0 rfl (lv_at hl 0 rfl) ?_
  refine va_get (D := (dC, dI)) (ci := 0) (v := .int (-1)) (C := RX0) (T := TX0) (N := 13) hx hb hts uV_k1_X0 hown hK hP 0 rfl rfl 7 (by decide) (hts (.fieldLink RX0 65 "ClassMill$Bodies" "muchAt" "I") mw_k1_220) (fun _ h9 => h9) rfl dX0_closeProgram_1 ?_
  refine lv_iconst (v := (-1)) hx hb dX0_closeProgram_4 (by decide) ?_
  refine lv_icmp_eq (tgt := 21) hx hb dX0_closeProgram_5 (by decide) (fun c_1 => ?_) (fun c_1 => (show False by revert c_1; decide).elim)
  have hP9 := hP.sub (ws' := [(qo5, .inr (0, [.ref qo2, .ref qo4, .ref qo18, .ref qo38, .ref qo39, .ref qo40, .ref qo41, .int (-1), .int 0, .int 0, .int 0, .ref qo42, .int 0]))]) [0] rfl
  have hD9 := hD.sub (ws' := [(qo5, .inr (0, [.ref qo2, .ref qo4, .ref qo18, .ref qo38, .ref qo39, .ref qo40, .ref qo41, .int (-1), .int 0, .int 0, .int 0, .ref qo42, .int 0]))]) [0] (by decide) rfl
  have hK9 := hK.sub (tys' := []) [] rfl
  exact W.vret hx hb hr (fun t ht hW => ⟨⟨(), rfl, trivial, by rw [ht]; exact hP9, va_K.moved hW.alike hK9, hD9⟩, hS.F ht⟩) hS.2.2 dX0_closeProgram_21
set_option maxHeartbeats 4000000 in
set_option maxRecDepth 100000 in
/-- kk_compile -/
theorem kk_compile (l : Launch) (dC : Nat → ClassId) (dI : Nat → Nat → Nat) (sz : Nat) (h0 : Nat) (qo1 : Nat) (qo2 : Nat) (qo3 : Nat) (qo4 : Nat) (qo5 : Nat) (qo6 : Nat) (qo7 : Nat) (qo8 : Nat) (qo9 : Nat) (co1 : ClassId) (qo10 : Nat) (qo11 : Nat) (qo12 : Nat) (qo13 : Nat) (qo14 : Nat) (qo15 : Nat) (qo16 : Nat) (qo17 : Nat) (ko1 : Nat) (co2 : ClassId) (co3 : ClassId) (co4 : ClassId) (co5 : ClassId) (fo1 : (Nat → Int32)) (co6 : ClassId) (fo2 : (Nat → Int32)) (qo18 : Nat) (qo19 : Nat) (qo20 : Nat) (qo21 : Nat) (qo22 : Nat) (qo23 : Nat) (qo24 : Nat) (qo25 : Nat) (qo26 : Nat) (qo27 : Nat) (qo28 : Nat) (qo29 : Nat) (qo30 : Nat) (qo31 : Nat) (qo32 : Nat) (qo33 : Nat) (qo34 : Nat) (qo35 : Nat) (co8 : ClassId) (co9 : ClassId) (co10 : ClassId) (co11 : ClassId) (co7 : ClassId) (qo36 : Nat) (qo37 : Nat) (co12 : ClassId) (fo3 : (Nat → Int32)) (co13 : ClassId) (go1 : (Nat → Int32)) (qo38 : Nat) (qo39 : Nat) (qo40 : Nat) (qo41 : Nat) (qo42 : Nat)  : Met l yX12_compile (.code yX12_compile cX12_compile 4 (some .int) :: VS_k1) ({ frames := 4, cells := 0, slots := 0, locals := 85 }) (va_Pc [.ref h0] (fun U => U.heap.size = sz ∧ va_P (dC, dI) vwCl [(h0, .inr (12, [.ref qo1, .int 0, .ref qo2, .ref qo3, .ref qo4, .ref qo5, .ref qo6, .int 0, .ref qo7, .ref qo8, .ref qo9])), (qo1, .inl (co1, 6000, .inl (fun _ => 0))), (qo2, .inr (9, [.ref qo10, .ref qo11, .ref qo12, .int 0, .ref qo13, .ref qo14, .ref qo15, .ref qo16, .ref qo17, .int (nI ko1), .int 0, .int 0, .int (-1)])), (qo10, .inl (co2, 3001, .inl (fun _ => 0))), (qo11, .inl (co3, 3001, .inl (fun _ => 0))), (qo12, .inl (co4, 3001, .inl (fun _ => 0))), (qo16, .inl (co5, 64, .inl fo1)), (qo17, .inl (co6, 64, .inl fo2)), (qo4, .inr (2, [.ref qo2, .ref qo18, .int 0, .ref qo19, .ref qo20, .ref qo21, .ref qo22, .ref qo23, .ref qo24, .ref qo25, .ref qo26, .ref qo27, .ref qo28, .ref qo29, .ref qo30, .ref qo31, .ref qo32, .ref qo33, .ref qo34, .ref qo35, .int 0])), (qo21, .inl (co8, 8, .inl (fun _ => 0))), (qo25, .inl (co9, 8, .inl (fun _ => 0))), (qo22, .inl (co10, 96, .inl (fun _ => 0))), (qo26, .inl (co11, 96, .inl (fun _ => 0))), (qo19, .inl (co7, 334, .inl (fun _ => 0))), (qo18, .inr (4, [.ref qo36, .ref qo37])), (qo36, .inl (co12, 16, .inl fo3)), (qo37, .inl (co13, 256, .inl go1)), (qo3, .inr (8, [.ref qo2, .ref qo4])), (qo5, .inr (0, [.ref qo2, .ref qo4, .ref qo18, .ref qo38, .ref qo39, .ref qo40, .ref qo41, .int 0, .int 0, .int 0, .int 0, .ref qo42, .int 0]))] U.heap ∧ va_K (dC, dI) vwCl [(co1, .byte), (co2, .int), (co3, .int), (co4, .int), (co5, .int), (co6, .int), (co8, .int), (co9, .int), (co10, .int), (co11, .int), (co7, .int), (co12, .int), (co13, .boolean)] U ∧ va_D (fun _ => True) [(h0, .inr (12, [.ref qo1, .int 0, .ref qo2, .ref qo3, .ref qo4, .ref qo5, .ref qo6, .int 0, .ref qo7, .ref qo8, .ref qo9])), (qo1, .inl (co1, 6000, .inl (fun _ => 0))), (qo2, .inr (9, [.ref qo10, .ref qo11, .ref qo12, .int 0, .ref qo13, .ref qo14, .ref qo15, .ref qo16, .ref qo17, .int (nI ko1), .int 0, .int 0, .int (-1)])), (qo10, .inl (co2, 3001, .inl (fun _ => 0))), (qo11, .inl (co3, 3001, .inl (fun _ => 0))), (qo12, .inl (co4, 3001, .inl (fun _ => 0))), (qo16, .inl (co5, 64, .inl fo1)), (qo17, .inl (co6, 64, .inl fo2)), (qo4, .inr (2, [.ref qo2, .ref qo18, .int 0, .ref qo19, .ref qo20, .ref qo21, .ref qo22, .ref qo23, .ref qo24, .ref qo25, .ref qo26, .ref qo27, .ref qo28, .ref qo29, .ref qo30, .ref qo31, .ref qo32, .ref qo33, .ref qo34, .ref qo35, .int 0])), (qo21, .inl (co8, 8, .inl (fun _ => 0))), (qo25, .inl (co9, 8, .inl (fun _ => 0))), (qo22, .inl (co10, 96, .inl (fun _ => 0))), (qo26, .inl (co11, 96, .inl (fun _ => 0))), (qo19, .inl (co7, 334, .inl (fun _ => 0))), (qo18, .inr (4, [.ref qo36, .ref qo37])), (qo36, .inl (co12, 16, .inl fo3)), (qo37, .inl (co13, 256, .inl go1)), (qo3, .inr (8, [.ref qo2, .ref qo4])), (qo5, .inr (0, [.ref qo2, .ref qo4, .ref qo18, .ref qo38, .ref qo39, .ref qo40, .ref qo41, .int 0, .int 0, .int 0, .int 0, .ref qo42, .int 0]))])) (va_Qi (fun (r : Int32) (u : Unit) => match u with | () => r = (-1)) (fun (u : Unit) (t : State) => match u with | () => va_P (dC, dI) vwCl [] t.heap ∧ va_K (dC, dI) vwCl [] t ∧ va_D (va_A [(h0, .inr (12, [.ref qo1, .int 0, .ref qo2, .ref qo3, .ref qo4, .ref qo5, .ref qo6, .int 0, .ref qo7, .ref qo8, .ref qo9])), (qo1, .inl (co1, 6000, .inl (fun _ => 0))), (qo2, .inr (9, [.ref qo10, .ref qo11, .ref qo12, .int 0, .ref qo13, .ref qo14, .ref qo15, .ref qo16, .ref qo17, .int (nI ko1), .int 0, .int 0, .int (-1)])), (qo10, .inl (co2, 3001, .inl (fun _ => 0))), (qo11, .inl (co3, 3001, .inl (fun _ => 0))), (qo12, .inl (co4, 3001, .inl (fun _ => 0))), (qo16, .inl (co5, 64, .inl fo1)), (qo17, .inl (co6, 64, .inl fo2)), (qo4, .inr (2, [.ref qo2, .ref qo18, .int 0, .ref qo19, .ref qo20, .ref qo21, .ref qo22, .ref qo23, .ref qo24, .ref qo25, .ref qo26, .ref qo27, .ref qo28, .ref qo29, .ref qo30, .ref qo31, .ref qo32, .ref qo33, .ref qo34, .ref qo35, .int 0])), (qo21, .inl (co8, 8, .inl (fun _ => 0))), (qo25, .inl (co9, 8, .inl (fun _ => 0))), (qo22, .inl (co10, 96, .inl (fun _ => 0))), (qo26, .inl (co11, 96, .inl (fun _ => 0))), (qo19, .inl (co7, 334, .inl (fun _ => 0))), (qo18, .inr (4, [.ref qo36, .ref qo37])), (qo36, .inl (co12, 16, .inl fo3)), (qo37, .inl (co13, 256, .inl go1)), (qo3, .inr (8, [.ref qo2, .ref qo4])), (qo5, .inr (0, [.ref qo2, .ref qo4, .ref qo18, .ref qo38, .ref qo39, .ref qo40, .ref qo41, .int 0, .int 0, .int 0, .int 0, .ref qo42, .int 0]))] sz) []) (va_A [(h0, .inr (12, [.ref qo1, .int 0, .ref qo2, .ref qo3, .ref qo4, .ref qo5, .ref qo6, .int 0, .ref qo7, .ref qo8, .ref qo9])), (qo1, .inl (co1, 6000, .inl (fun _ => 0))), (qo2, .inr (9, [.ref qo10, .ref qo11, .ref qo12, .int 0, .ref qo13, .ref qo14, .ref qo15, .ref qo16, .ref qo17, .int (nI ko1), .int 0, .int 0, .int (-1)])), (qo10, .inl (co2, 3001, .inl (fun _ => 0))), (qo11, .inl (co3, 3001, .inl (fun _ => 0))), (qo12, .inl (co4, 3001, .inl (fun _ => 0))), (qo16, .inl (co5, 64, .inl fo1)), (qo17, .inl (co6, 64, .inl fo2)), (qo4, .inr (2, [.ref qo2, .ref qo18, .int 0, .ref qo19, .ref qo20, .ref qo21, .ref qo22, .ref qo23, .ref qo24, .ref qo25, .ref qo26, .ref qo27, .ref qo28, .ref qo29, .ref qo30, .ref qo31, .ref qo32, .ref qo33, .ref qo34, .ref qo35, .int 0])), (qo21, .inl (co8, 8, .inl (fun _ => 0))), (qo25, .inl (co9, 8, .inl (fun _ => 0))), (qo22, .inl (co10, 96, .inl (fun _ => 0))), (qo26, .inl (co11, 96, .inl (fun _ => 0))), (qo19, .inl (co7, 334, .inl (fun _ => 0))), (qo18, .inr (4, [.ref qo36, .ref qo37])), (qo36, .inl (co12, 16, .inl fo3)), (qo37, .inl (co13, 256, .inl go1)), (qo3, .inr (8, [.ref qo2, .ref qo4])), (qo5, .inr (0, [.ref qo2, .ref qo4, .ref qo18, .ref qo38, .ref qo39, .ref qo40, .ref qo41, .int 0, .int 0, .int 0, .int 0, .ref qo42, .int 0]))] sz)) 0 0 (va_A [(h0, .inr (12, [.ref qo1, .int 0, .ref qo2, .ref qo3, .ref qo4, .ref qo5, .ref qo6, .int 0, .ref qo7, .ref qo8, .ref qo9])), (qo1, .inl (co1, 6000, .inl (fun _ => 0))), (qo2, .inr (9, [.ref qo10, .ref qo11, .ref qo12, .int 0, .ref qo13, .ref qo14, .ref qo15, .ref qo16, .ref qo17, .int (nI ko1), .int 0, .int 0, .int (-1)])), (qo10, .inl (co2, 3001, .inl (fun _ => 0))), (qo11, .inl (co3, 3001, .inl (fun _ => 0))), (qo12, .inl (co4, 3001, .inl (fun _ => 0))), (qo16, .inl (co5, 64, .inl fo1)), (qo17, .inl (co6, 64, .inl fo2)), (qo4, .inr (2, [.ref qo2, .ref qo18, .int 0, .ref qo19, .ref qo20, .ref qo21, .ref qo22, .ref qo23, .ref qo24, .ref qo25, .ref qo26, .ref qo27, .ref qo28, .ref qo29, .ref qo30, .ref qo31, .ref qo32, .ref qo33, .ref qo34, .ref qo35, .int 0])), (qo21, .inl (co8, 8, .inl (fun _ => 0))), (qo25, .inl (co9, 8, .inl (fun _ => 0))), (qo22, .inl (co10, 96, .inl (fun _ => 0))), (qo26, .inl (co11, 96, .inl (fun _ => 0))), (qo19, .inl (co7, 334, .inl (fun _ => 0))), (qo18, .inr (4, [.ref qo36, .ref qo37])), (qo36, .inl (co12, 16, .inl fo3)), (qo37, .inl (co13, 256, .inl go1)), (qo3, .inr (8, [.ref qo2, .ref qo4])), (qo5, .inr (0, [.ref qo2, .ref qo4, .ref qo18, .ref qo38, .ref qo39, .ref qo40, .ref qo41, .int 0, .int 0, .int 0, .int 0, .ref qo42, .int 0]))] sz) := by
  refine Met.ofW (cc := cX12_compile) (maxL := 4) (ret := (some .int)) (by decide) rfl ?_
  intro p e s m args below meth c s₁ B hml hv
  obtain ⟨rfl, hsz, hP, hK, hD0⟩ := hv
  have hx := B.exec
  have hb := B.bytes
  have hr := B.returns
  have hts := atoms_spec (ws := (.code yX12_compile cX12_compile 4 (some .int) :: VS_k1)) B.pre
  replace hts := fun w (h : w ∈ VS_k1) => hts w (List.mem_cons_of_mem _ h)
  have hown : s.vm.findClass RX12 = some m.cls := findClass_of_methodNamed B.named
  have hlocks := B.notSynchronized
  subst hsz
  have hD := hD0.self (sz := s.heap.size)
  generalize hAe : va_A [(h0, .inr (12, [.ref qo1, .int 0, .ref qo2, .ref qo3, .ref qo4, .ref qo5, .ref qo6, .int 0, .ref qo7, .ref qo8, .ref qo9])), (qo1, .inl (co1, 6000, .inl (fun _ => 0))), (qo2, .inr (9, [.ref qo10, .ref qo11, .ref qo12, .int 0, .ref qo13, .ref qo14, .ref qo15, .ref qo16, .ref qo17, .int (nI ko1), .int 0, .int 0, .int (-1)])), (qo10, .inl (co2, 3001, .inl (fun _ => 0))), (qo11, .inl (co3, 3001, .inl (fun _ => 0))), (qo12, .inl (co4, 3001, .inl (fun _ => 0))), (qo16, .inl (co5, 64, .inl fo1)), (qo17, .inl (co6, 64, .inl fo2)), (qo4, .inr (2, [.ref qo2, .ref qo18, .int 0, .ref qo19, .ref qo20, .ref qo21, .ref qo22, .ref qo23, .ref qo24, .ref qo25, .ref qo26, .ref qo27, .ref qo28, .ref qo29, .ref qo30, .ref qo31, .ref qo32, .ref qo33, .ref qo34, .ref qo35, .int 0])), (qo21, .inl (co8, 8, .inl (fun _ => 0))), (qo25, .inl (co9, 8, .inl (fun _ => 0))), (qo22, .inl (co10, 96, .inl (fun _ => 0))), (qo26, .inl (co11, 96, .inl (fun _ => 0))), (qo19, .inl (co7, 334, .inl (fun _ => 0))), (qo18, .inr (4, [.ref qo36, .ref qo37])), (qo36, .inl (co12, 16, .inl fo3)), (qo37, .inl (co13, 256, .inl go1)), (qo3, .inr (8, [.ref qo2, .ref qo4])), (qo5, .inr (0, [.ref qo2, .ref qo4, .ref qo18, .ref qo38, .ref qo39, .ref qo40, .ref qo41, .int 0, .int 0, .int 0, .int 0, .ref qo42, .int 0]))] s.heap.size = A at hD  ⊢
  have hA : ∀ q : Nat, s.heap.size ≤ q → A q := fun q h => by rw [← hAe]; exact Or.inr h
  have hP : va_P (dC, dI) vwCl [(h0, .inr (12, [.ref qo1, .int 0, .ref qo2, .ref qo3, .ref qo4, .ref qo5, .ref qo6, .int 0, .ref qo7, .ref qo8, .ref qo9])), (qo1, .inl (co1, 6000, .inl (fun _ => 0))), (qo2, .inr (9, [.ref qo10, .ref qo11, .ref qo12, .int 0, .ref qo13, .ref qo14, .ref qo15, .ref qo16, .ref qo17, .int (nI ko1), .int 0, .int 0, .int (-1)])), (qo10, .inl (co2, 3001, .inl (fun _ => 0))), (qo11, .inl (co3, 3001, .inl (fun _ => 0))), (qo12, .inl (co4, 3001, .inl (fun _ => 0))), (qo16, .inl (co5, 64, .inl fo1)), (qo17, .inl (co6, 64, .inl fo2)), (qo4, .inr (2, [.ref qo2, .ref qo18, .int 0, .ref qo19, .ref qo20, .ref qo21, .ref qo22, .ref qo23, .ref qo24, .ref qo25, .ref qo26, .ref qo27, .ref qo28, .ref qo29, .ref qo30, .ref qo31, .ref qo32, .ref qo33, .ref qo34, .ref qo35, .int 0])), (qo21, .inl (co8, 8, .inl (fun _ => 0))), (qo25, .inl (co9, 8, .inl (fun _ => 0))), (qo22, .inl (co10, 96, .inl (fun _ => 0))), (qo26, .inl (co11, 96, .inl (fun _ => 0))), (qo19, .inl (co7, 334, .inl (fun _ => 0))), (qo18, .inr (4, [.ref qo36, .ref qo37])), (qo36, .inl (co12, 16, .inl fo3)), (qo37, .inl (co13, 256, .inl go1)), (qo3, .inr (8, [.ref qo2, .ref qo4])), (qo5, .inr (0, [.ref qo2, .ref qo4, .ref qo18, .ref qo38, .ref qo39, .ref qo40, .ref qo41, .int 0, .int 0, .int 0, .int 0, .ref qo42, .int 0]))] s.heap := hP
  have hl := lv_entry ([.ref h0]) (n := 4) (Nat.le_of_ble_eq_true rfl)
  rw [lg_entry_eq]
  generalize (lg_sl ([.ref h0]) ++ List.replicate (4 - (lg_sl ([.ref h0])).length) Slot.unset).toArray = ls at hl ⊢
  have hl : lv_has ls 4 [(0, .ref h0)] := hl
  obtain ⟨H, hH⟩ : ∃ H : Heap, s.heap = H := ⟨_, rfl⟩
  rw [hH] at hP ⊢
  have hS : va_S A s.heap H [] := by rw [← hH]; exact va_S.rf
  obtain ⟨locs, hlo⟩ : ∃ locs : List Loc, locs = [] := ⟨_, rfl⟩
  rw [← hlo] at hS ⊢
  refine lv_aload_n hx hb dX12_compile_0 rfl (lv_at hl 0 rfl) ?_
  refine va_get (D := (dC, dI)) (ci := 12) (v := .int 0) (C := RX12) (T := TX12) (N := 11) hx hb hts uV_k1_X12 hown hK hP 0 rfl rfl 1 (by decide) (hts (.fieldLink RX12 73 "ClassMill" "taped" "I") mw_k1_0) (fun _ h9 => h9) rfl dX12_compile_1 ?_
  refine lv_istore_n (lv' := [(1, .int 0), (0, .ref h0)]) hx hb dX12_compile_4 rfl hl (by decide) rfl (fun ls hl => ?_)
  refine lv_aload_n hx hb dX12_compile_5 rfl (lv_at hl 1 rfl) ?_
  refine lv_iconst (v := 0) hx hb dX12_compile_6 (by decide) ?_
  refine va_put (D := (dC, dI)) (ci := 12) (v := .int 0) (ty := .int) (C := RX12) (T := TX12) (N := 11) hx hb hts uV_k1_X12 tyX12 tyX12_ok nmX12 hown hK hP hD hS 0 rfl rfl 1 (by decide) (hts (.fieldLink RX12 73 "ClassMill" "taped" "I") mw_k1_0) (fun _ h9 => h9) rfl (by decide +kernel) rfl rfl (Nat.le_of_ble_eq_true rfl) dX12_compile_7 ?_
  clear hP hD hS
  intro H locs hP hD hS
  replace hP : va_P (dC, dI) vwCl [(h0, .inr (12, [.ref qo1, .int 0, .ref qo2, .ref qo3, .ref qo4, .ref qo5, .ref qo6, .int 0, .ref qo7, .ref qo8, .ref qo9])), (qo1, .inl (co1, 6000, .inl (fun _ => 0))), (qo2, .inr (9, [.ref qo10, .ref qo11, .ref qo12, .int 0, .ref qo13, .ref qo14, .ref qo15, .ref qo16, .ref qo17, .int (nI ko1), .int 0, .int 0, .int (-1)])), (qo10, .inl (co2, 3001, .inl (fun _ => 0))), (qo11, .inl (co3, 3001, .inl (fun _ => 0))), (qo12, .inl (co4, 3001, .inl (fun _ => 0))), (qo16, .inl (co5, 64, .inl fo1)), (qo17, .inl (co6, 64, .inl fo2)), (qo4, .inr (2, [.ref qo2, .ref qo18, .int 0, .ref qo19, .ref qo20, .ref qo21, .ref qo22, .ref qo23, .ref qo24, .ref qo25, .ref qo26, .ref qo27, .ref qo28, .ref qo29, .ref qo30, .ref qo31, .ref qo32, .ref qo33, .ref qo34, .ref qo35, .int 0])), (qo21, .inl (co8, 8, .inl (fun _ => 0))), (qo25, .inl (co9, 8, .inl (fun _ => 0))), (qo22, .inl (co10, 96, .inl (fun _ => 0))), (qo26, .inl (co11, 96, .inl (fun _ => 0))), (qo19, .inl (co7, 334, .inl (fun _ => 0))), (qo18, .inr (4, [.ref qo36, .ref qo37])), (qo36, .inl (co12, 16, .inl fo3)), (qo37, .inl (co13, 256, .inl go1)), (qo3, .inr (8, [.ref qo2, .ref qo4])), (qo5, .inr (0, [.ref qo2, .ref qo4, .ref qo18, .ref qo38, .ref qo39, .ref qo40, .ref qo41, .int 0, .int 0, .int 0, .int 0, .ref qo42, .int 0]))] H := hP
  replace hD : va_D A [(h0, .inr (12, [.ref qo1, .int 0, .ref qo2, .ref qo3, .ref qo4, .ref qo5, .ref qo6, .int 0, .ref qo7, .ref qo8, .ref qo9])), (qo1, .inl (co1, 6000, .inl (fun _ => 0))), (qo2, .inr (9, [.ref qo10, .ref qo11, .ref qo12, .int 0, .ref qo13, .ref qo14, .ref qo15, .ref qo16, .ref qo17, .int (nI ko1), .int 0, .int 0, .int (-1)])), (qo10, .inl (co2, 3001, .inl (fun _ => 0))), (qo11, .inl (co3, 3001, .inl (fun _ => 0))), (qo12, .inl (co4, 3001, .inl (fun _ => 0))), (qo16, .inl (co5, 64, .inl fo1)), (qo17, .inl (co6, 64, .inl fo2)), (qo4, .inr (2, [.ref qo2, .ref qo18, .int 0, .ref qo19, .ref qo20, .ref qo21, .ref qo22, .ref qo23, .ref qo24, .ref qo25, .ref qo26, .ref qo27, .ref qo28, .ref qo29, .ref qo30, .ref qo31, .ref qo32, .ref qo33, .ref qo34, .ref qo35, .int 0])), (qo21, .inl (co8, 8, .inl (fun _ => 0))), (qo25, .inl (co9, 8, .inl (fun _ => 0))), (qo22, .inl (co10, 96, .inl (fun _ => 0))), (qo26, .inl (co11, 96, .inl (fun _ => 0))), (qo19, .inl (co7, 334, .inl (fun _ => 0))), (qo18, .inr (4, [.ref qo36, .ref qo37])), (qo36, .inl (co12, 16, .inl fo3)), (qo37, .inl (co13, 256, .inl go1)), (qo3, .inr (8, [.ref qo2, .ref qo4])), (qo5, .inr (0, [.ref qo2, .ref qo4, .ref qo18, .ref qo38, .ref qo39, .ref qo40, .ref qo41, .int 0, .int 0, .int 0, .int 0, .ref qo42, .int 0]))] := hD
  refine lv_iload_n hx hb dX12_compile_10 rfl (lv_at hl 0 rfl) ?_
  refine lv_sipush (v := 3000) hx hb dX12_compile_11 (by decide) ?_
  refine lv_icmp_le (tgt := 30) hx hb dX12_compile_14 (by decide) (fun c_1 => ?_) (fun c_1 => (show False by revert c_1; decide).elim)
  refine lv_aload_n hx hb dX12_compile_30 rfl (lv_at hl 1 rfl) ?_
  refine va_get (D := (dC, dI)) (ci := 12) (v := .ref qo2) (C := RX12) (T := TX12) (N := 11) hx hb hts uV_k1_X12 hown hK hP 0 rfl rfl 2 (by decide) (hts (.fieldLink RX12 16 "ClassMill" "text" "LClassMill$Text;") mw_k1_7) (fun _ h9 => h9) rfl dX12_compile_31 ?_
  refine lv_aload_n hx hb dX12_compile_34 rfl (lv_at hl 1 rfl) ?_
  refine va_get (D := (dC, dI)) (ci := 12) (v := .ref qo1) (C := RX12) (T := TX12) (N := 11) hx hb hts uV_k1_X12 hown hK hP 0 rfl rfl 0 (by decide) (hts (.fieldLink RX12 9 "ClassMill" "tape" "[B") mw_k1_1) (fun _ h9 => h9) rfl dX12_compile_35 ?_
  refine lv_iload_n hx hb dX12_compile_38 rfl (lv_at hl 0 rfl) ?_
  have hPc := hP.sub (ws' := [(qo2, .inr (9, [.ref qo10, .ref qo11, .ref qo12, .int 0, .ref qo13, .ref qo14, .ref qo15, .ref qo16, .ref qo17, .int (nI ko1), .int 0, .int 0, .int (-1)])), (qo10, .inl (co2, 3001, .inl (fun _ => 0))), (qo11, .inl (co3, 3001, .inl (fun _ => 0))), (qo12, .inl (co4, 3001, .inl (fun _ => 0))), (qo16, .inl (co5, 64, .inl fo1)), (qo17, .inl (co6, 64, .inl fo2))]) [2, 3, 4, 5, 6, 7] rfl
  have hDc := hD.sub (ws' := [(qo2, .inr (9, [.ref qo10, .ref qo11, .ref qo12, .int 0, .ref qo13, .ref qo14, .ref qo15, .ref qo16, .ref qo17, .int (nI ko1), .int 0, .int 0, .int (-1)])), (qo10, .inl (co2, 3001, .inl (fun _ => 0))), (qo11, .inl (co3, 3001, .inl (fun _ => 0))), (qo12, .inl (co4, 3001, .inl (fun _ => 0))), (qo16, .inl (co5, 64, .inl fo1)), (qo17, .inl (co6, 64, .inl fo2))]) [2, 3, 4, 5, 6, 7] (by decide) rfl
  have hKc := hK.sub (tys' := [(co2, .int), (co3, .int), (co4, .int), (co5, .int), (co6, .int)]) [1, 2, 3, 4, 5] rfl
  have hFc := va_free (wc := [(qo2, .inr (9, [.ref qo10, .ref qo11, .ref qo12, .int 0, .ref qo13, .ref qo14, .ref qo15, .ref qo16, .ref qo17, .int (nI ko1), .int 0, .int 0, .int (-1)])), (qo10, .inl (co2, 3001, .inl (fun _ => 0))), (qo11, .inl (co3, 3001, .inl (fun _ => 0))), (qo12, .inl (co4, 3001, .inl (fun _ => 0))), (qo16, .inl (co5, 64, .inl fo1)), (qo17, .inl (co6, 64, .inl fo2))]) hD hS hA [2, 3, 4, 5, 6, 7] rfl
  refine va_callv (va_runV (As := [.ref qo1, .int 0]) (rest := []) ⟨hx, hb, hml, hown, hts⟩ (kk_scan l dC dI H.size qo2 qo1 qo10 qo11 qo12 qo13 qo14 qo15 qo16 qo17 ko1 co2 co3 co4 co5 fo1 co6 fo2) (cwV 2 hts gv_k1_51 rfl rfl rfl (by decide +kernel) ⟨Nat.le_of_ble_eq_true rfl, Nat.le_of_ble_eq_true rfl⟩) ⟨fun a U g mk q => by obtain ⟨q0, q1, qP, qK, qD⟩ := q; exact ⟨q0, q1, qP, va_K.moved (u := U) (U := U.calling g mk a) (Vm.Alike.refl U.vm) qK, qD⟩, va_recv hKc hPc (ci := 9) (q0 := 0) rfl rfl, fun U hU hW => ⟨rfl, by rw [hU], by rw [hU]; exact hPc, va_K.moved hW.alike hKc, hDc.weaken (fun _ _ _ _ => trivial)⟩⟩ rfl rfl hl.1 rfl (lv_room (Nat.le_of_ble_eq_true rfl)) dX12_compile_39 ⟨Nat.le_of_ble_eq_true rfl, Nat.le_of_ble_eq_true rfl⟩) hS (fun q _ h => hFc q h) hFc ?_
  clear hS
  intro u t H1 locs ht hvm hw hB hz1 hk1 hS
  obtain ⟨f_2, f_3⟩ := u
  obtain ⟨hP1, hK1, hD1⟩ := hB
  rw [ht] at hP1
  have hK1 := va_K.moved hvm.symm hK1
  try dsimp only at hw
  have hPD := va_join (wr := [(h0, .inr (12, [.ref qo1, .int 0, .ref qo2, .ref qo3, .ref qo4, .ref qo5, .ref qo6, .int 0, .ref qo7, .ref qo8, .ref qo9])), (qo1, .inl (co1, 6000, .inl (fun _ => 0))), (qo4, .inr (2, [.ref qo2, .ref qo18, .int 0, .ref qo19, .ref qo20, .ref qo21, .ref qo22, .ref qo23, .ref qo24, .ref qo25, .ref qo26, .ref qo27, .ref qo28, .ref qo29, .ref qo30, .ref qo31, .ref qo32, .ref qo33, .ref qo34, .ref qo35, .int 0])), (qo21, .inl (co8, 8, .inl (fun _ => 0))), (qo25, .inl (co9, 8, .inl (fun _ => 0))), (qo22, .inl (co10, 96, .inl (fun _ => 0))), (qo26, .inl (co11, 96, .inl (fun _ => 0))), (qo19, .inl (co7, 334, .inl (fun _ => 0))), (qo18, .inr (4, [.ref qo36, .ref qo37])), (qo36, .inl (co12, 16, .inl fo3)), (qo37, .inl (co13, 256, .inl go1)), (qo3, .inr (8, [.ref qo2, .ref qo4])), (qo5, .inr (0, [.ref qo2, .ref qo4, .ref qo18, .ref qo38, .ref qo39, .ref qo40, .ref qo41, .int 0, .int 0, .int 0, .int 0, .ref qo42, .int 0]))]) (w1 := [(qo2, .inr (9, [.ref qo10, .ref qo11, .ref qo12, .int 1, .ref qo13, .ref qo14, .ref qo15, .ref qo16, .ref qo17, .int 32, .int 0, .int 0, .int (-1)])), (qo10, .inl (co2, 3001, .inl f_2)), (qo11, .inl (co3, 3001, .inl f_3))]) hP hD [2, 3, 4, 5, 6, 7] [0, 1, 8, 9, 10, 11, 12, 13, 14, 15, 16, 17, 18] rfl rfl (by decide) (by decide) hk1 hFc hP1 hD1
  clear hP hD
  obtain ⟨hP, hD⟩ := hPD
  replace hK := (hK.sub (tys' := [(co1, .byte), (co8, .int), (co9, .int), (co10, .int), (co11, .int), (co7, .int), (co12, .int), (co13, .boolean)]) [0, 6, 7, 8, 9, 10, 11, 12] rfl).app hK1
  clear hPc hDc hKc hFc hP1 hK1 hD1 hz1 hk1 ht hvm
  generalize H1 = H at hP hS ⊢
  replace hP : va_P (dC, dI) vwCl [(h0, .inr (12, [.ref qo1, .int 0, .ref qo2, .ref qo3, .ref qo4, .ref qo5, .ref qo6, .int 0, .ref qo7, .ref qo8, .ref qo9])), (qo1, .inl (co1, 6000, .inl (fun _ => 0))), (qo4, .inr (2, [.ref qo2, .ref qo18, .int 0, .ref qo19, .ref qo20, .ref qo21, .ref qo22, .ref qo23, .ref qo24, .ref qo25, .ref qo26, .ref qo27, .ref qo28, .ref qo29, .ref qo30, .ref qo31, .ref qo32, .ref qo33, .ref qo34, .ref qo35, .int 0])), (qo21, .inl (co8, 8, .inl (fun _ => 0))), (qo25, .inl (co9, 8, .inl (fun _ => 0))), (qo22, .inl (co10, 96, .inl (fun _ => 0))), (qo26, .inl (co11, 96, .inl (fun _ => 0))), (qo19, .inl (co7, 334, .inl (fun _ => 0))), (qo18, .inr (4, [.ref qo36, .ref qo37])), (qo36, .inl (co12, 16, .inl fo3)), (qo37, .inl (co13, 256, .inl go1)), (qo3, .inr (8, [.ref qo2, .ref qo4])), (qo5, .inr (0, [.ref qo2, .ref qo4, .ref qo18, .ref qo38, .ref qo39, .ref qo40, .ref qo41, .int 0, .int 0, .int 0, .int 0, .ref qo42, .int 0])), (qo2, .inr (9, [.ref qo10, .ref qo11, .ref qo12, .int 1, .ref qo13, .ref qo14, .ref qo15, .ref qo16, .ref qo17, .int 32, .int 0, .int 0, .int (-1)])), (qo10, .inl (co2, 3001, .inl f_2)), (qo11, .inl (co3, 3001, .inl f_3))] H := hP
  replace hD : va_D A [(h0, .inr (12, [.ref qo1, .int 0, .ref qo2, .ref qo3, .ref qo4, .ref qo5, .ref qo6, .int 0, .ref qo7, .ref qo8, .ref qo9])), (qo1, .inl (co1, 6000, .inl (fun _ => 0))), (qo4, .inr (2, [.ref qo2, .ref qo18, .int 0, .ref qo19, .ref qo20, .ref qo21, .ref qo22, .ref qo23, .ref qo24, .ref qo25, .ref qo26, .ref qo27, .ref qo28, .ref qo29, .ref qo30, .ref qo31, .ref qo32, .ref qo33, .ref qo34, .ref qo35, .int 0])), (qo21, .inl (co8, 8, .inl (fun _ => 0))), (qo25, .inl (co9, 8, .inl (fun _ => 0))), (qo22, .inl (co10, 96, .inl (fun _ => 0))), (qo26, .inl (co11, 96, .inl (fun _ => 0))), (qo19, .inl (co7, 334, .inl (fun _ => 0))), (qo18, .inr (4, [.ref qo36, .ref qo37])), (qo36, .inl (co12, 16, .inl fo3)), (qo37, .inl (co13, 256, .inl go1)), (qo3, .inr (8, [.ref qo2, .ref qo4])), (qo5, .inr (0, [.ref qo2, .ref qo4, .ref qo18, .ref qo38, .ref qo39, .ref qo40, .ref qo41, .int 0, .int 0, .int 0, .int 0, .ref qo42, .int 0])), (qo2, .inr (9, [.ref qo10, .ref qo11, .ref qo12, .int 1, .ref qo13, .ref qo14, .ref qo15, .ref qo16, .ref qo17, .int 32, .int 0, .int 0, .int (-1)])), (qo10, .inl (co2, 3001, .inl f_2)), (qo11, .inl (co3, 3001, .inl f_3))] := hD
  replace hK : va_K (dC, dI) vwCl [(co1, .byte), (co8, .int), (co9, .int), (co10, .int), (co11, .int), (co7, .int), (co12, .int), (co13, .boolean), (co2, .int), (co3, .int)] s := hK
  obtain ⟨hk0, hp0⟩ := hw
  refine lv_aload_n hx hb dX12_compile_42 rfl (lv_at hl 1 rfl) ?_
  refine va_get (D := (dC, dI)) (ci := 12) (v := .ref qo4) (C := RX12) (T := TX12) (N := 11) hx hb hts uV_k1_X12 hown hK hP 0 rfl rfl 4 (by decide) (hts (.fieldLink RX12 25 "ClassMill" "heads" "LClassMill$Heads;") mw_k1_258) (fun _ h9 => h9) rfl dX12_compile_43 ?_
  have hPc := hP.sub (ws' := [(qo4, .inr (2, [.ref qo2, .ref qo18, .int 0, .ref qo19, .ref qo20, .ref qo21, .ref qo22, .ref qo23, .ref qo24, .ref qo25, .ref qo26, .ref qo27, .ref qo28, .ref qo29, .ref qo30, .ref qo31, .ref qo32, .ref qo33, .ref qo34, .ref qo35, .int 0])), (qo21, .inl (co8, 8, .inl (fun _ => 0))), (qo25, .inl (co9, 8, .inl (fun _ => 0))), (qo18, .inr (4, [.ref qo36, .ref qo37])), (qo36, .inl (co12, 16, .inl fo3)), (qo37, .inl (co13, 256, .inl go1))]) [2, 3, 4, 8, 9, 10] rfl
  have hDc := hD.sub (ws' := [(qo4, .inr (2, [.ref qo2, .ref qo18, .int 0, .ref qo19, .ref qo20, .ref qo21, .ref qo22, .ref qo23, .ref qo24, .ref qo25, .ref qo26, .ref qo27, .ref qo28, .ref qo29, .ref qo30, .ref qo31, .ref qo32, .ref qo33, .ref qo34, .ref qo35, .int 0])), (qo21, .inl (co8, 8, .inl (fun _ => 0))), (qo25, .inl (co9, 8, .inl (fun _ => 0))), (qo18, .inr (4, [.ref qo36, .ref qo37])), (qo36, .inl (co12, 16, .inl fo3)), (qo37, .inl (co13, 256, .inl go1))]) [2, 3, 4, 8, 9, 10] (by decide) rfl
  have hKc := hK.sub (tys' := [(co8, .int), (co9, .int), (co12, .int), (co13, .boolean)]) [1, 2, 6, 7] rfl
  have hFc := va_free (wc := [(qo4, .inr (2, [.ref qo2, .ref qo18, .int 0, .ref qo19, .ref qo20, .ref qo21, .ref qo22, .ref qo23, .ref qo24, .ref qo25, .ref qo26, .ref qo27, .ref qo28, .ref qo29, .ref qo30, .ref qo31, .ref qo32, .ref qo33, .ref qo34, .ref qo35, .int 0])), (qo21, .inl (co8, 8, .inl (fun _ => 0))), (qo25, .inl (co9, 8, .inl (fun _ => 0))), (qo18, .inr (4, [.ref qo36, .ref qo37])), (qo36, .inl (co12, 16, .inl fo3)), (qo37, .inl (co13, 256, .inl go1))]) hD hS hA [2, 3, 4, 8, 9, 10] rfl
  refine va_callv (va_runV (As := []) (rest := []) ⟨hx, hb, hml, hown, hts⟩ (kk_hforget l dC dI H.size qo4 qo2 qo18 qo19 qo20 qo21 qo22 qo23 qo24 qo25 qo26 qo27 qo28 qo29 qo30 qo31 qo32 qo33 qo34 qo35 co8 co9 qo36 qo37 co12 fo3 co13 go1) (cwV 0 hts gv_k1_52 rfl rfl rfl (by decide +kernel) ⟨Nat.le_of_ble_eq_true rfl, Nat.le_of_ble_eq_true rfl⟩) ⟨fun a U g mk q => by obtain ⟨q0, q1, qP, qK, qD⟩ := q; exact ⟨q0, q1, qP, va_K.moved (u := U) (U := U.calling g mk a) (Vm.Alike.refl U.vm) qK, qD⟩, va_recv hKc hPc (ci := 2) (q0 := 0) rfl rfl, fun U hU hW => ⟨rfl, by rw [hU], by rw [hU]; exact hPc, va_K.moved hW.alike hKc, hDc.weaken (fun _ _ _ _ => trivial)⟩⟩ rfl rfl hl.1 rfl (lv_room (Nat.le_of_ble_eq_true rfl)) dX12_compile_46 ⟨Nat.le_of_ble_eq_true rfl, Nat.le_of_ble_eq_true rfl⟩) hS (fun q _ h => hFc q h) hFc ?_
  clear hS
  intro u t H1 locs ht hvm hw hB hz1 hk1 hS
  obtain ⟨⟩ := u
  obtain ⟨hP1, hK1, hD1⟩ := hB
  rw [ht] at hP1
  have hK1 := va_K.moved hvm.symm hK1
  try dsimp only at hw
  have hPD := va_join (wr := [(h0, .inr (12, [.ref qo1, .int 0, .ref qo2, .ref qo3, .ref qo4, .ref qo5, .ref qo6, .int 0, .ref qo7, .ref qo8, .ref qo9])), (qo1, .inl (co1, 6000, .inl (fun _ => 0))), (qo22, .inl (co10, 96, .inl (fun _ => 0))), (qo26, .inl (co11, 96, .inl (fun _ => 0))), (qo19, .inl (co7, 334, .inl (fun _ => 0))), (qo3, .inr (8, [.ref qo2, .ref qo4])), (qo5, .inr (0, [.ref qo2, .ref qo4, .ref qo18, .ref qo38, .ref qo39, .ref qo40, .ref qo41, .int 0, .int 0, .int 0, .int 0, .ref qo42, .int 0])), (qo2, .inr (9, [.ref qo10, .ref qo11, .ref qo12, .int 1, .ref qo13, .ref qo14, .ref qo15, .ref qo16, .ref qo17, .int 32, .int 0, .int 0, .int (-1)])), (qo10, .inl (co2, 3001, .inl f_2)), (qo11, .inl (co3, 3001, .inl f_3))]) (w1 := [(qo4, .inr (2, [.ref qo2, .ref qo18, .int 0, .ref qo19, .ref qo20, .ref qo21, .ref qo22, .ref qo23, .ref qo24, .ref qo25, .ref qo26, .ref qo27, .ref qo28, .ref qo29, .ref qo30, .ref qo31, .ref qo32, .ref qo33, .ref qo34, .ref qo35, .int 0]))]) hP hD [2, 3, 4, 8, 9, 10] [0, 1, 5, 6, 7, 11, 12, 13, 14, 15] rfl rfl (by decide) (by decide) hk1 hFc hP1 hD1
  clear hP hD
  obtain ⟨hP, hD⟩ := hPD
  replace hK := (hK.sub (tys' := [(co1, .byte), (co10, .int), (co11, .int), (co7, .int), (co2, .int), (co3, .int)]) [0, 3, 4, 5, 8, 9] rfl).app hK1
  clear hPc hDc hKc hFc hP1 hK1 hD1 hz1 hk1 ht hvm
  generalize H1 = H at hP hS ⊢
  replace hP : va_P (dC, dI) vwCl [(h0, .inr (12, [.ref qo1, .int 0, .ref qo2, .ref qo3, .ref qo4, .ref qo5, .ref qo6, .int 0, .ref qo7, .ref qo8, .ref qo9])), (qo1, .inl (co1, 6000, .inl (fun _ => 0))), (qo22, .inl (co10, 96, .inl (fun _ => 0))), (qo26, .inl (co11, 96, .inl (fun _ => 0))), (qo19, .inl (co7, 334, .inl (fun _ => 0))), (qo3, .inr (8, [.ref qo2, .ref qo4])), (qo5, .inr (0, [.ref qo2, .ref qo4, .ref qo18, .ref qo38, .ref qo39, .ref qo40, .ref qo41, .int 0, .int 0, .int 0, .int 0, .ref qo42, .int 0])), (qo2, .inr (9, [.ref qo10, .ref qo11, .ref qo12, .int 1, .ref qo13, .ref qo14, .ref qo15, .ref qo16, .ref qo17, .int 32, .int 0, .int 0, .int (-1)])), (qo10, .inl (co2, 3001, .inl f_2)), (qo11, .inl (co3, 3001, .inl f_3)), (qo4, .inr (2, [.ref qo2, .ref qo18, .int 0, .ref qo19, .ref qo20, .ref qo21, .ref qo22, .ref qo23, .ref qo24, .ref qo25, .ref qo26, .ref qo27, .ref qo28, .ref qo29, .ref qo30, .ref qo31, .ref qo32, .ref qo33, .ref qo34, .ref qo35, .int 0]))] H := hP
  replace hD : va_D A [(h0, .inr (12, [.ref qo1, .int 0, .ref qo2, .ref qo3, .ref qo4, .ref qo5, .ref qo6, .int 0, .ref qo7, .ref qo8, .ref qo9])), (qo1, .inl (co1, 6000, .inl (fun _ => 0))), (qo22, .inl (co10, 96, .inl (fun _ => 0))), (qo26, .inl (co11, 96, .inl (fun _ => 0))), (qo19, .inl (co7, 334, .inl (fun _ => 0))), (qo3, .inr (8, [.ref qo2, .ref qo4])), (qo5, .inr (0, [.ref qo2, .ref qo4, .ref qo18, .ref qo38, .ref qo39, .ref qo40, .ref qo41, .int 0, .int 0, .int 0, .int 0, .ref qo42, .int 0])), (qo2, .inr (9, [.ref qo10, .ref qo11, .ref qo12, .int 1, .ref qo13, .ref qo14, .ref qo15, .ref qo16, .ref qo17, .int 32, .int 0, .int 0, .int (-1)])), (qo10, .inl (co2, 3001, .inl f_2)), (qo11, .inl (co3, 3001, .inl f_3)), (qo4, .inr (2, [.ref qo2, .ref qo18, .int 0, .ref qo19, .ref qo20, .ref qo21, .ref qo22, .ref qo23, .ref qo24, .ref qo25, .ref qo26, .ref qo27, .ref qo28, .ref qo29, .ref qo30, .ref qo31, .ref qo32, .ref qo33, .ref qo34, .ref qo35, .int 0]))] := hD
  replace hK : va_K (dC, dI) vwCl [(co1, .byte), (co10, .int), (co11, .int), (co7, .int), (co2, .int), (co3, .int)] s := hK
  refine lv_aload_n hx hb dX12_compile_49 rfl (lv_at hl 1 rfl) ?_
  refine va_get (D := (dC, dI)) (ci := 12) (v := .ref qo3) (C := RX12) (T := TX12) (N := 11) hx hb hts uV_k1_X12 hown hK hP 0 rfl rfl 3 (by decide) (hts (.fieldLink RX12 34 "ClassMill" "syntax" "LClassMill$Syntax;") mw_k1_259) (fun _ h9 => h9) rfl dX12_compile_50 ?_
  have hPc := hP.sub (ws' := [(qo3, .inr (8, [.ref qo2, .ref qo4])), (qo2, .inr (9, [.ref qo10, .ref qo11, .ref qo12, .int 1, .ref qo13, .ref qo14, .ref qo15, .ref qo16, .ref qo17, .int 32, .int 0, .int 0, .int (-1)])), (qo10, .inl (co2, 3001, .inl f_2)), (qo11, .inl (co3, 3001, .inl f_3)), (qo4, .inr (2, [.ref qo2, .ref qo18, .int 0, .ref qo19, .ref qo20, .ref qo21, .ref qo22, .ref qo23, .ref qo24, .ref qo25, .ref qo26, .ref qo27, .ref qo28, .ref qo29, .ref qo30, .ref qo31, .ref qo32, .ref qo33, .ref qo34, .ref qo35, .int 0])), (qo19, .inl (co7, 334, .inl (fun _ => 0)))]) [5, 7, 8, 9, 10, 4] rfl
  have hDc := hD.sub (ws' := [(qo3, .inr (8, [.ref qo2, .ref qo4])), (qo2, .inr (9, [.ref qo10, .ref qo11, .ref qo12, .int 1, .ref qo13, .ref qo14, .ref qo15, .ref qo16, .ref qo17, .int 32, .int 0, .int 0, .int (-1)])), (qo10, .inl (co2, 3001, .inl f_2)), (qo11, .inl (co3, 3001, .inl f_3)), (qo4, .inr (2, [.ref qo2, .ref qo18, .int 0, .ref qo19, .ref qo20, .ref qo21, .ref qo22, .ref qo23, .ref qo24, .ref qo25, .ref qo26, .ref qo27, .ref qo28, .ref qo29, .ref qo30, .ref qo31, .ref qo32, .ref qo33, .ref qo34, .ref qo35, .int 0])), (qo19, .inl (co7, 334, .inl (fun _ => 0)))]) [5, 7, 8, 9, 10, 4] (by decide) rfl
  have hKc := hK.sub (tys' := [(co2, .int), (co3, .int), (co7, .int)]) [4, 5, 3] rfl
  have hFc := va_free (wc := [(qo3, .inr (8, [.ref qo2, .ref qo4])), (qo2, .inr (9, [.ref qo10, .ref qo11, .ref qo12, .int 1, .ref qo13, .ref qo14, .ref qo15, .ref qo16, .ref qo17, .int 32, .int 0, .int 0, .int (-1)])), (qo10, .inl (co2, 3001, .inl f_2)), (qo11, .inl (co3, 3001, .inl f_3)), (qo4, .inr (2, [.ref qo2, .ref qo18, .int 0, .ref qo19, .ref qo20, .ref qo21, .ref qo22, .ref qo23, .ref qo24, .ref qo25, .ref qo26, .ref qo27, .ref qo28, .ref qo29, .ref qo30, .ref qo31, .ref qo32, .ref qo33, .ref qo34, .ref qo35, .int 0])), (qo19, .inl (co7, 334, .inl (fun _ => 0)))]) hD hS hA [5, 7, 8, 9, 10, 4] rfl
  refine va_callv (va_runV (As := []) (rest := []) ⟨hx, hb, hml, hown, hts⟩ (kk_readProgram l dC dI H.size qo3 qo2 qo4 qo10 qo11 qo12 qo13 qo14 qo15 qo16 qo17 co2 f_2 co3 f_3 qo18 qo19 qo20 qo21 qo22 qo23 qo24 qo25 qo26 qo27 qo28 qo29 qo30 qo31 qo32 qo33 qo34 qo35 co7 hk0 hp0) (cwV 0 hts gv_k1_53 rfl rfl rfl (by decide +kernel) ⟨Nat.le_of_ble_eq_true rfl, Nat.le_of_ble_eq_true rfl⟩) ⟨fun a U g mk q => by obtain ⟨q0, q1, qP, qK, qD⟩ := q; exact ⟨q0, q1, qP, va_K.moved (u := U) (U := U.calling g mk a) (Vm.Alike.refl U.vm) qK, qD⟩, va_recv hKc hPc (ci := 8) (q0 := 0) rfl rfl, fun U hU hW => ⟨rfl, by rw [hU], by rw [hU]; exact hPc, va_K.moved hW.alike hKc, hDc.weaken (fun _ _ _ _ => trivial)⟩⟩ rfl rfl hl.1 rfl (lv_room (Nat.le_of_ble_eq_true rfl)) dX12_compile_53 ⟨Nat.le_of_ble_eq_true rfl, Nat.le_of_ble_eq_true rfl⟩) hS (fun q _ h => hFc q h) hFc ?_
  clear hS
  intro u t H1 locs ht hvm hw hB hz1 hk1 hS
  obtain ⟨⟩ := u
  obtain ⟨hP1, hK1, hD1⟩ := hB
  rw [ht] at hP1
  have hK1 := va_K.moved hvm.symm hK1
  try dsimp only at hw
  have hPD := va_join (wr := [(h0, .inr (12, [.ref qo1, .int 0, .ref qo2, .ref qo3, .ref qo4, .ref qo5, .ref qo6, .int 0, .ref qo7, .ref qo8, .ref qo9])), (qo1, .inl (co1, 6000, .inl (fun _ => 0))), (qo22, .inl (co10, 96, .inl (fun _ => 0))), (qo26, .inl (co11, 96, .inl (fun _ => 0))), (qo5, .inr (0, [.ref qo2, .ref qo4, .ref qo18, .ref qo38, .ref qo39, .ref qo40, .ref qo41, .int 0, .int 0, .int 0, .int 0, .ref qo42, .int 0]))]) (w1 := [(qo2, .inr (9, [.ref qo10, .ref qo11, .ref qo12, .int 1, .ref qo13, .ref qo14, .ref qo15, .ref qo16, .ref qo17, .int 32, .int 0, .int 2, .int 0])), (qo4, .inr (2, [.ref qo2, .ref qo18, .int 1, .ref qo19, .ref qo20, .ref qo21, .ref qo22, .ref qo23, .ref qo24, .ref qo25, .ref qo26, .ref qo27, .ref qo28, .ref qo29, .ref qo30, .ref qo31, .ref qo32, .ref qo33, .ref qo34, .ref qo35, .int 0]))]) hP hD [5, 7, 8, 9, 10, 4] [0, 1, 2, 3, 6] rfl rfl (by decide) (by decide) hk1 hFc hP1 hD1
  clear hP hD
  obtain ⟨hP, hD⟩ := hPD
  replace hK := (hK.sub (tys' := [(co1, .byte), (co10, .int), (co11, .int)]) [0, 1, 2] rfl).app hK1
  clear hPc hDc hKc hFc hP1 hK1 hD1 hz1 hk1 ht hvm
  generalize H1 = H at hP hS ⊢
  replace hP : va_P (dC, dI) vwCl [(h0, .inr (12, [.ref qo1, .int 0, .ref qo2, .ref qo3, .ref qo4, .ref qo5, .ref qo6, .int 0, .ref qo7, .ref qo8, .ref qo9])), (qo1, .inl (co1, 6000, .inl (fun _ => 0))), (qo22, .inl (co10, 96, .inl (fun _ => 0))), (qo26, .inl (co11, 96, .inl (fun _ => 0))), (qo5, .inr (0, [.ref qo2, .ref qo4, .ref qo18, .ref qo38, .ref qo39, .ref qo40, .ref qo41, .int 0, .int 0, .int 0, .int 0, .ref qo42, .int 0])), (qo2, .inr (9, [.ref qo10, .ref qo11, .ref qo12, .int 1, .ref qo13, .ref qo14, .ref qo15, .ref qo16, .ref qo17, .int 32, .int 0, .int 2, .int 0])), (qo4, .inr (2, [.ref qo2, .ref qo18, .int 1, .ref qo19, .ref qo20, .ref qo21, .ref qo22, .ref qo23, .ref qo24, .ref qo25, .ref qo26, .ref qo27, .ref qo28, .ref qo29, .ref qo30, .ref qo31, .ref qo32, .ref qo33, .ref qo34, .ref qo35, .int 0]))] H := hP
  replace hD : va_D A [(h0, .inr (12, [.ref qo1, .int 0, .ref qo2, .ref qo3, .ref qo4, .ref qo5, .ref qo6, .int 0, .ref qo7, .ref qo8, .ref qo9])), (qo1, .inl (co1, 6000, .inl (fun _ => 0))), (qo22, .inl (co10, 96, .inl (fun _ => 0))), (qo26, .inl (co11, 96, .inl (fun _ => 0))), (qo5, .inr (0, [.ref qo2, .ref qo4, .ref qo18, .ref qo38, .ref qo39, .ref qo40, .ref qo41, .int 0, .int 0, .int 0, .int 0, .ref qo42, .int 0])), (qo2, .inr (9, [.ref qo10, .ref qo11, .ref qo12, .int 1, .ref qo13, .ref qo14, .ref qo15, .ref qo16, .ref qo17, .int 32, .int 0, .int 2, .int 0])), (qo4, .inr (2, [.ref qo2, .ref qo18, .int 1, .ref qo19, .ref qo20, .ref qo21, .ref qo22, .ref qo23, .ref qo24, .ref qo25, .ref qo26, .ref qo27, .ref qo28, .ref qo29, .ref qo30, .ref qo31, .ref qo32, .ref qo33, .ref qo34, .ref qo35, .int 0]))] := hD
  replace hK : va_K (dC, dI) vwCl [(co1, .byte), (co10, .int), (co11, .int)] s := hK
  refine lv_aload_n hx hb dX12_compile_56 rfl (lv_at hl 1 rfl) ?_
  refine va_get (D := (dC, dI)) (ci := 12) (v := .ref qo4) (C := RX12) (T := TX12) (N := 11) hx hb hts uV_k1_X12 hown hK hP 0 rfl rfl 4 (by decide) (hts (.fieldLink RX12 25 "ClassMill" "heads" "LClassMill$Heads;") mw_k1_258) (fun _ h9 => h9) rfl dX12_compile_57 ?_
  have hPc := hP.sub (ws' := [(qo4, .inr (2, [.ref qo2, .ref qo18, .int 1, .ref qo19, .ref qo20, .ref qo21, .ref qo22, .ref qo23, .ref qo24, .ref qo25, .ref qo26, .ref qo27, .ref qo28, .ref qo29, .ref qo30, .ref qo31, .ref qo32, .ref qo33, .ref qo34, .ref qo35, .int 0])), (qo2, .inr (9, [.ref qo10, .ref qo11, .ref qo12, .int 1, .ref qo13, .ref qo14, .ref qo15, .ref qo16, .ref qo17, .int 32, .int 0, .int 2, .int 0]))]) [6, 5] rfl
  have hDc := hD.sub (ws' := [(qo4, .inr (2, [.ref qo2, .ref qo18, .int 1, .ref qo19, .ref qo20, .ref qo21, .ref qo22, .ref qo23, .ref qo24, .ref qo25, .ref qo26, .ref qo27, .ref qo28, .ref qo29, .ref qo30, .ref qo31, .ref qo32, .ref qo33, .ref qo34, .ref qo35, .int 0])), (qo2, .inr (9, [.ref qo10, .ref qo11, .ref qo12, .int 1, .ref qo13, .ref qo14, .ref qo15, .ref qo16, .ref qo17, .int 32, .int 0, .int 2, .int 0]))]) [6, 5] (by decide) rfl
  have hKc := hK.sub (tys' := []) [] rfl
  have hFc := va_free (wc := [(qo4, .inr (2, [.ref qo2, .ref qo18, .int 1, .ref qo19, .ref qo20, .ref qo21, .ref qo22, .ref qo23, .ref qo24, .ref qo25, .ref qo26, .ref qo27, .ref qo28, .ref qo29, .ref qo30, .ref qo31, .ref qo32, .ref qo33, .ref qo34, .ref qo35, .int 0])), (qo2, .inr (9, [.ref qo10, .ref qo11, .ref qo12, .int 1, .ref qo13, .ref qo14, .ref qo15, .ref qo16, .ref qo17, .int 32, .int 0, .int 2, .int 0]))]) hD hS hA [6, 5] rfl
  refine va_callv (va_runV (As := []) (rest := []) ⟨hx, hb, hml, hown, hts⟩ (kk_readClasses l dC dI H.size qo4 qo2 qo18 qo19 qo20 qo21 qo22 qo23 qo24 qo25 qo26 qo27 qo28 qo29 qo30 qo31 qo32 qo33 qo34 qo35 qo10 qo11 qo12 qo13 qo14 qo15 qo16 qo17) (cwV 0 hts gv_k1_54 rfl rfl rfl (by decide +kernel) ⟨Nat.le_of_ble_eq_true rfl, Nat.le_of_ble_eq_true rfl⟩) ⟨fun a U g mk q => by obtain ⟨q0, q1, qP, qK, qD⟩ := q; exact ⟨q0, q1, qP, va_K.moved (u := U) (U := U.calling g mk a) (Vm.Alike.refl U.vm) qK, qD⟩, va_recv hKc hPc (ci := 2) (q0 := 0) rfl rfl, fun U hU hW => ⟨rfl, by rw [hU], by rw [hU]; exact hPc, va_K.moved hW.alike hKc, hDc.weaken (fun _ _ _ _ => trivial)⟩⟩ rfl rfl hl.1 rfl (lv_room (Nat.le_of_ble_eq_true rfl)) dX12_compile_60 ⟨Nat.le_of_ble_eq_true rfl, Nat.le_of_ble_eq_true rfl⟩) hS (fun q _ h => hFc q h) hFc ?_
  clear hS
  intro u t H1 locs ht hvm hw hB hz1 hk1 hS
  obtain ⟨⟩ := u
  obtain ⟨hP1, hK1, hD1⟩ := hB
  rw [ht] at hP1
  have hK1 := va_K.moved hvm.symm hK1
  try dsimp only at hw
  have hPD := va_join (wr := [(h0, .inr (12, [.ref qo1, .int 0, .ref qo2, .ref qo3, .ref qo4, .ref qo5, .ref qo6, .int 0, .ref qo7, .ref qo8, .ref qo9])), (qo1, .inl (co1, 6000, .inl (fun _ => 0))), (qo22, .inl (co10, 96, .inl (fun _ => 0))), (qo26, .inl (co11, 96, .inl (fun _ => 0))), (qo5, .inr (0, [.ref qo2, .ref qo4, .ref qo18, .ref qo38, .ref qo39, .ref qo40, .ref qo41, .int 0, .int 0, .int 0, .int 0, .ref qo42, .int 0]))]) (w1 := [(qo4, .inr (2, [.ref qo2, .ref qo18, .int 1, .ref qo19, .ref qo20, .ref qo21, .ref qo22, .ref qo23, .ref qo24, .ref qo25, .ref qo26, .ref qo27, .ref qo28, .ref qo29, .ref qo30, .ref qo31, .ref qo32, .ref qo33, .ref qo34, .ref qo35, .int 0])), (qo2, .inr (9, [.ref qo10, .ref qo11, .ref qo12, .int 1, .ref qo13, .ref qo14, .ref qo15, .ref qo16, .ref qo17, .int 32, .int 0, .int 2, .int 0]))]) hP hD [6, 5] [0, 1, 2, 3, 4] rfl rfl (by decide) (by decide) hk1 hFc hP1 hD1
  clear hP hD
  obtain ⟨hP, hD⟩ := hPD
  replace hK := (hK.sub (tys' := [(co1, .byte), (co10, .int), (co11, .int)]) [0, 1, 2] rfl).app hK1
  clear hPc hDc hKc hFc hP1 hK1 hD1 hz1 hk1 ht hvm
  generalize H1 = H at hP hS ⊢
  replace hP : va_P (dC, dI) vwCl [(h0, .inr (12, [.ref qo1, .int 0, .ref qo2, .ref qo3, .ref qo4, .ref qo5, .ref qo6, .int 0, .ref qo7, .ref qo8, .ref qo9])), (qo1, .inl (co1, 6000, .inl (fun _ => 0))), (qo22, .inl (co10, 96, .inl (fun _ => 0))), (qo26, .inl (co11, 96, .inl (fun _ => 0))), (qo5, .inr (0, [.ref qo2, .ref qo4, .ref qo18, .ref qo38, .ref qo39, .ref qo40, .ref qo41, .int 0, .int 0, .int 0, .int 0, .ref qo42, .int 0])), (qo4, .inr (2, [.ref qo2, .ref qo18, .int 1, .ref qo19, .ref qo20, .ref qo21, .ref qo22, .ref qo23, .ref qo24, .ref qo25, .ref qo26, .ref qo27, .ref qo28, .ref qo29, .ref qo30, .ref qo31, .ref qo32, .ref qo33, .ref qo34, .ref qo35, .int 0])), (qo2, .inr (9, [.ref qo10, .ref qo11, .ref qo12, .int 1, .ref qo13, .ref qo14, .ref qo15, .ref qo16, .ref qo17, .int 32, .int 0, .int 2, .int 0]))] H := hP
  replace hD : va_D A [(h0, .inr (12, [.ref qo1, .int 0, .ref qo2, .ref qo3, .ref qo4, .ref qo5, .ref qo6, .int 0, .ref qo7, .ref qo8, .ref qo9])), (qo1, .inl (co1, 6000, .inl (fun _ => 0))), (qo22, .inl (co10, 96, .inl (fun _ => 0))), (qo26, .inl (co11, 96, .inl (fun _ => 0))), (qo5, .inr (0, [.ref qo2, .ref qo4, .ref qo18, .ref qo38, .ref qo39, .ref qo40, .ref qo41, .int 0, .int 0, .int 0, .int 0, .ref qo42, .int 0])), (qo4, .inr (2, [.ref qo2, .ref qo18, .int 1, .ref qo19, .ref qo20, .ref qo21, .ref qo22, .ref qo23, .ref qo24, .ref qo25, .ref qo26, .ref qo27, .ref qo28, .ref qo29, .ref qo30, .ref qo31, .ref qo32, .ref qo33, .ref qo34, .ref qo35, .int 0])), (qo2, .inr (9, [.ref qo10, .ref qo11, .ref qo12, .int 1, .ref qo13, .ref qo14, .ref qo15, .ref qo16, .ref qo17, .int 32, .int 0, .int 2, .int 0]))] := hD
  replace hK : va_K (dC, dI) vwCl [(co1, .byte), (co10, .int), (co11, .int)] s := hK
  refine lv_aload_n hx hb dX12_compile_63 rfl (lv_at hl 1 rfl) ?_
  refine va_get (D := (dC, dI)) (ci := 12) (v := .ref qo4) (C := RX12) (T := TX12) (N := 11) hx hb hts uV_k1_X12 hown hK hP 0 rfl rfl 4 (by decide) (hts (.fieldLink RX12 25 "ClassMill" "heads" "LClassMill$Heads;") mw_k1_258) (fun _ h9 => h9) rfl dX12_compile_64 ?_
  have hPc := hP.sub (ws' := [(qo4, .inr (2, [.ref qo2, .ref qo18, .int 1, .ref qo19, .ref qo20, .ref qo21, .ref qo22, .ref qo23, .ref qo24, .ref qo25, .ref qo26, .ref qo27, .ref qo28, .ref qo29, .ref qo30, .ref qo31, .ref qo32, .ref qo33, .ref qo34, .ref qo35, .int 0])), (qo2, .inr (9, [.ref qo10, .ref qo11, .ref qo12, .int 1, .ref qo13, .ref qo14, .ref qo15, .ref qo16, .ref qo17, .int 32, .int 0, .int 2, .int 0]))]) [5, 6] rfl
  have hDc := hD.sub (ws' := [(qo4, .inr (2, [.ref qo2, .ref qo18, .int 1, .ref qo19, .ref qo20, .ref qo21, .ref qo22, .ref qo23, .ref qo24, .ref qo25, .ref qo26, .ref qo27, .ref qo28, .ref qo29, .ref qo30, .ref qo31, .ref qo32, .ref qo33, .ref qo34, .ref qo35, .int 0])), (qo2, .inr (9, [.ref qo10, .ref qo11, .ref qo12, .int 1, .ref qo13, .ref qo14, .ref qo15, .ref qo16, .ref qo17, .int 32, .int 0, .int 2, .int 0]))]) [5, 6] (by decide) rfl
  have hKc := hK.sub (tys' := []) [] rfl
  have hFc := va_free (wc := [(qo4, .inr (2, [.ref qo2, .ref qo18, .int 1, .ref qo19, .ref qo20, .ref qo21, .ref qo22, .ref qo23, .ref qo24, .ref qo25, .ref qo26, .ref qo27, .ref qo28, .ref qo29, .ref qo30, .ref qo31, .ref qo32, .ref qo33, .ref qo34, .ref qo35, .int 0])), (qo2, .inr (9, [.ref qo10, .ref qo11, .ref qo12, .int 1, .ref qo13, .ref qo14, .ref qo15, .ref qo16, .ref qo17, .int 32, .int 0, .int 2, .int 0]))]) hD hS hA [5, 6] rfl
  refine va_callv (va_runV (As := []) (rest := []) ⟨hx, hb, hml, hown, hts⟩ (kk_readMembers l dC dI H.size qo4 qo2 qo18 qo19 qo20 qo21 qo22 qo23 qo24 qo25 qo26 qo27 qo28 qo29 qo30 qo31 qo32 qo33 qo34 qo35 qo10 qo11 qo12 qo13 qo14 qo15 qo16 qo17) (cwV 0 hts gv_k1_55 rfl rfl rfl (by decide +kernel) ⟨Nat.le_of_ble_eq_true rfl, Nat.le_of_ble_eq_true rfl⟩) ⟨fun a U g mk q => by obtain ⟨q0, q1, qP, qK, qD⟩ := q; exact ⟨q0, q1, qP, va_K.moved (u := U) (U := U.calling g mk a) (Vm.Alike.refl U.vm) qK, qD⟩, va_recv hKc hPc (ci := 2) (q0 := 0) rfl rfl, fun U hU hW => ⟨rfl, by rw [hU], by rw [hU]; exact hPc, va_K.moved hW.alike hKc, hDc.weaken (fun _ _ _ _ => trivial)⟩⟩ rfl rfl hl.1 rfl (lv_room (Nat.le_of_ble_eq_true rfl)) dX12_compile_67 ⟨Nat.le_of_ble_eq_true rfl, Nat.le_of_ble_eq_true rfl⟩) hS (fun q _ h => hFc q h) hFc ?_
  clear hS
  intro u t H1 locs ht hvm hw hB hz1 hk1 hS
  obtain ⟨⟩ := u
  obtain ⟨hP1, hK1, hD1⟩ := hB
  rw [ht] at hP1
  have hK1 := va_K.moved hvm.symm hK1
  try dsimp only at hw
  have hPD := va_join (wr := [(h0, .inr (12, [.ref qo1, .int 0, .ref qo2, .ref qo3, .ref qo4, .ref qo5, .ref qo6, .int 0, .ref qo7, .ref qo8, .ref qo9])), (qo1, .inl (co1, 6000, .inl (fun _ => 0))), (qo22, .inl (co10, 96, .inl (fun _ => 0))), (qo26, .inl (co11, 96, .inl (fun _ => 0))), (qo5, .inr (0, [.ref qo2, .ref qo4, .ref qo18, .ref qo38, .ref qo39, .ref qo40, .ref qo41, .int 0, .int 0, .int 0, .int 0, .ref qo42, .int 0]))]) (w1 := [(qo4, .inr (2, [.ref qo2, .ref qo18, .int 1, .ref qo19, .ref qo20, .ref qo21, .ref qo22, .ref qo23, .ref qo24, .ref qo25, .ref qo26, .ref qo27, .ref qo28, .ref qo29, .ref qo30, .ref qo31, .ref qo32, .ref qo33, .ref qo34, .ref qo35, .int 0])), (qo2, .inr (9, [.ref qo10, .ref qo11, .ref qo12, .int 1, .ref qo13, .ref qo14, .ref qo15, .ref qo16, .ref qo17, .int 32, .int 0, .int 2, .int 0]))]) hP hD [5, 6] [0, 1, 2, 3, 4] rfl rfl (by decide) (by decide) hk1 hFc hP1 hD1
  clear hP hD
  obtain ⟨hP, hD⟩ := hPD
  replace hK := (hK.sub (tys' := [(co1, .byte), (co10, .int), (co11, .int)]) [0, 1, 2] rfl).app hK1
  clear hPc hDc hKc hFc hP1 hK1 hD1 hz1 hk1 ht hvm
  generalize H1 = H at hP hS ⊢
  replace hP : va_P (dC, dI) vwCl [(h0, .inr (12, [.ref qo1, .int 0, .ref qo2, .ref qo3, .ref qo4, .ref qo5, .ref qo6, .int 0, .ref qo7, .ref qo8, .ref qo9])), (qo1, .inl (co1, 6000, .inl (fun _ => 0))), (qo22, .inl (co10, 96, .inl (fun _ => 0))), (qo26, .inl (co11, 96, .inl (fun _ => 0))), (qo5, .inr (0, [.ref qo2, .ref qo4, .ref qo18, .ref qo38, .ref qo39, .ref qo40, .ref qo41, .int 0, .int 0, .int 0, .int 0, .ref qo42, .int 0])), (qo4, .inr (2, [.ref qo2, .ref qo18, .int 1, .ref qo19, .ref qo20, .ref qo21, .ref qo22, .ref qo23, .ref qo24, .ref qo25, .ref qo26, .ref qo27, .ref qo28, .ref qo29, .ref qo30, .ref qo31, .ref qo32, .ref qo33, .ref qo34, .ref qo35, .int 0])), (qo2, .inr (9, [.ref qo10, .ref qo11, .ref qo12, .int 1, .ref qo13, .ref qo14, .ref qo15, .ref qo16, .ref qo17, .int 32, .int 0, .int 2, .int 0]))] H := hP
  replace hD : va_D A [(h0, .inr (12, [.ref qo1, .int 0, .ref qo2, .ref qo3, .ref qo4, .ref qo5, .ref qo6, .int 0, .ref qo7, .ref qo8, .ref qo9])), (qo1, .inl (co1, 6000, .inl (fun _ => 0))), (qo22, .inl (co10, 96, .inl (fun _ => 0))), (qo26, .inl (co11, 96, .inl (fun _ => 0))), (qo5, .inr (0, [.ref qo2, .ref qo4, .ref qo18, .ref qo38, .ref qo39, .ref qo40, .ref qo41, .int 0, .int 0, .int 0, .int 0, .ref qo42, .int 0])), (qo4, .inr (2, [.ref qo2, .ref qo18, .int 1, .ref qo19, .ref qo20, .ref qo21, .ref qo22, .ref qo23, .ref qo24, .ref qo25, .ref qo26, .ref qo27, .ref qo28, .ref qo29, .ref qo30, .ref qo31, .ref qo32, .ref qo33, .ref qo34, .ref qo35, .int 0])), (qo2, .inr (9, [.ref qo10, .ref qo11, .ref qo12, .int 1, .ref qo13, .ref qo14, .ref qo15, .ref qo16, .ref qo17, .int 32, .int 0, .int 2, .int 0]))] := hD
  replace hK : va_K (dC, dI) vwCl [(co1, .byte), (co10, .int), (co11, .int)] s := hK
  refine lv_aload_n hx hb dX12_compile_70 rfl (lv_at hl 1 rfl) ?_
  refine va_get (D := (dC, dI)) (ci := 12) (v := .ref qo4) (C := RX12) (T := TX12) (N := 11) hx hb hts uV_k1_X12 hown hK hP 0 rfl rfl 4 (by decide) (hts (.fieldLink RX12 25 "ClassMill" "heads" "LClassMill$Heads;") mw_k1_258) (fun _ h9 => h9) rfl dX12_compile_71 ?_
  have hPc := hP.sub (ws' := [(qo4, .inr (2, [.ref qo2, .ref qo18, .int 1, .ref qo19, .ref qo20, .ref qo21, .ref qo22, .ref qo23, .ref qo24, .ref qo25, .ref qo26, .ref qo27, .ref qo28, .ref qo29, .ref qo30, .ref qo31, .ref qo32, .ref qo33, .ref qo34, .ref qo35, .int 0])), (qo2, .inr (9, [.ref qo10, .ref qo11, .ref qo12, .int 1, .ref qo13, .ref qo14, .ref qo15, .ref qo16, .ref qo17, .int 32, .int 0, .int 2, .int 0])), (qo26, .inl (co11, 96, .inl (fun _ => 0)))]) [5, 6, 3] rfl
  have hDc := hD.sub (ws' := [(qo4, .inr (2, [.ref qo2, .ref qo18, .int 1, .ref qo19, .ref qo20, .ref qo21, .ref qo22, .ref qo23, .ref qo24, .ref qo25, .ref qo26, .ref qo27, .ref qo28, .ref qo29, .ref qo30, .ref qo31, .ref qo32, .ref qo33, .ref qo34, .ref qo35, .int 0])), (qo2, .inr (9, [.ref qo10, .ref qo11, .ref qo12, .int 1, .ref qo13, .ref qo14, .ref qo15, .ref qo16, .ref qo17, .int 32, .int 0, .int 2, .int 0])), (qo26, .inl (co11, 96, .inl (fun _ => 0)))]) [5, 6, 3] (by decide) rfl
  have hKc := hK.sub (tys' := [(co11, .int)]) [2] rfl
  have hFc := va_free (wc := [(qo4, .inr (2, [.ref qo2, .ref qo18, .int 1, .ref qo19, .ref qo20, .ref qo21, .ref qo22, .ref qo23, .ref qo24, .ref qo25, .ref qo26, .ref qo27, .ref qo28, .ref qo29, .ref qo30, .ref qo31, .ref qo32, .ref qo33, .ref qo34, .ref qo35, .int 0])), (qo2, .inr (9, [.ref qo10, .ref qo11, .ref qo12, .int 1, .ref qo13, .ref qo14, .ref qo15, .ref qo16, .ref qo17, .int 32, .int 0, .int 2, .int 0])), (qo26, .inl (co11, 96, .inl (fun _ => 0)))]) hD hS hA [5, 6, 3] rfl
  refine va_callv (va_runV (As := []) (rest := []) ⟨hx, hb, hml, hown, hts⟩ (kk_checkOverrides l dC dI H.size qo4 qo2 qo18 qo19 qo20 qo21 qo22 qo23 qo24 qo25 qo26 qo27 qo28 qo29 qo30 qo31 qo32 qo33 qo34 qo35 qo10 qo11 qo12 qo13 qo14 qo15 qo16 qo17 co11) (cwV 0 hts gv_k1_56 rfl rfl rfl (by decide +kernel) ⟨Nat.le_of_ble_eq_true rfl, Nat.le_of_ble_eq_true rfl⟩) ⟨fun a U g mk q => by obtain ⟨q0, q1, qP, qK, qD⟩ := q; exact ⟨q0, q1, qP, va_K.moved (u := U) (U := U.calling g mk a) (Vm.Alike.refl U.vm) qK, qD⟩, va_recv hKc hPc (ci := 2) (q0 := 0) rfl rfl, fun U hU hW => ⟨rfl, by rw [hU], by rw [hU]; exact hPc, va_K.moved hW.alike hKc, hDc.weaken (fun _ _ _ _ => trivial)⟩⟩ rfl rfl hl.1 rfl (lv_room (Nat.le_of_ble_eq_true rfl)) dX12_compile_74 ⟨Nat.le_of_ble_eq_true rfl, Nat.le_of_ble_eq_true rfl⟩) hS (fun q _ h => hFc q h) hFc ?_
  clear hS
  intro u t H1 locs ht hvm hw hB hz1 hk1 hS
  obtain ⟨⟩ := u
  obtain ⟨hP1, hK1, hD1⟩ := hB
  rw [ht] at hP1
  have hK1 := va_K.moved hvm.symm hK1
  try dsimp only at hw
  have hPD := va_join (wr := [(h0, .inr (12, [.ref qo1, .int 0, .ref qo2, .ref qo3, .ref qo4, .ref qo5, .ref qo6, .int 0, .ref qo7, .ref qo8, .ref qo9])), (qo1, .inl (co1, 6000, .inl (fun _ => 0))), (qo22, .inl (co10, 96, .inl (fun _ => 0))), (qo5, .inr (0, [.ref qo2, .ref qo4, .ref qo18, .ref qo38, .ref qo39, .ref qo40, .ref qo41, .int 0, .int 0, .int 0, .int 0, .ref qo42, .int 0]))]) (w1 := [(qo4, .inr (2, [.ref qo2, .ref qo18, .int 1, .ref qo19, .ref qo20, .ref qo21, .ref qo22, .ref qo23, .ref qo24, .ref qo25, .ref qo26, .ref qo27, .ref qo28, .ref qo29, .ref qo30, .ref qo31, .ref qo32, .ref qo33, .ref qo34, .ref qo35, .int 0])), (qo2, .inr (9, [.ref qo10, .ref qo11, .ref qo12, .int 1, .ref qo13, .ref qo14, .ref qo15, .ref qo16, .ref qo17, .int 32, .int 0, .int 2, .int 0])), (qo26, .inl (co11, 96, .inl (fun _ => 0)))]) hP hD [5, 6, 3] [0, 1, 2, 4] rfl rfl (by decide) (by decide) hk1 hFc hP1 hD1
  clear hP hD
  obtain ⟨hP, hD⟩ := hPD
  replace hK := (hK.sub (tys' := [(co1, .byte), (co10, .int)]) [0, 1] rfl).app hK1
  clear hPc hDc hKc hFc hP1 hK1 hD1 hz1 hk1 ht hvm
  generalize H1 = H at hP hS ⊢
  replace hP : va_P (dC, dI) vwCl [(h0, .inr (12, [.ref qo1, .int 0, .ref qo2, .ref qo3, .ref qo4, .ref qo5, .ref qo6, .int 0, .ref qo7, .ref qo8, .ref qo9])), (qo1, .inl (co1, 6000, .inl (fun _ => 0))), (qo22, .inl (co10, 96, .inl (fun _ => 0))), (qo5, .inr (0, [.ref qo2, .ref qo4, .ref qo18, .ref qo38, .ref qo39, .ref qo40, .ref qo41, .int 0, .int 0, .int 0, .int 0, .ref qo42, .int 0])), (qo4, .inr (2, [.ref qo2, .ref qo18, .int 1, .ref qo19, .ref qo20, .ref qo21, .ref qo22, .ref qo23, .ref qo24, .ref qo25, .ref qo26, .ref qo27, .ref qo28, .ref qo29, .ref qo30, .ref qo31, .ref qo32, .ref qo33, .ref qo34, .ref qo35, .int 0])), (qo2, .inr (9, [.ref qo10, .ref qo11, .ref qo12, .int 1, .ref qo13, .ref qo14, .ref qo15, .ref qo16, .ref qo17, .int 32, .int 0, .int 2, .int 0])), (qo26, .inl (co11, 96, .inl (fun _ => 0)))] H := hP
  replace hD : va_D A [(h0, .inr (12, [.ref qo1, .int 0, .ref qo2, .ref qo3, .ref qo4, .ref qo5, .ref qo6, .int 0, .ref qo7, .ref qo8, .ref qo9])), (qo1, .inl (co1, 6000, .inl (fun _ => 0))), (qo22, .inl (co10, 96, .inl (fun _ => 0))), (qo5, .inr (0, [.ref qo2, .ref qo4, .ref qo18, .ref qo38, .ref qo39, .ref qo40, .ref qo41, .int 0, .int 0, .int 0, .int 0, .ref qo42, .int 0])), (qo4, .inr (2, [.ref qo2, .ref qo18, .int 1, .ref qo19, .ref qo20, .ref qo21, .ref qo22, .ref qo23, .ref qo24, .ref qo25, .ref qo26, .ref qo27, .ref qo28, .ref qo29, .ref qo30, .ref qo31, .ref qo32, .ref qo33, .ref qo34, .ref qo35, .int 0])), (qo2, .inr (9, [.ref qo10, .ref qo11, .ref qo12, .int 1, .ref qo13, .ref qo14, .ref qo15, .ref qo16, .ref qo17, .int 32, .int 0, .int 2, .int 0])), (qo26, .inl (co11, 96, .inl (fun _ => 0)))] := hD
  replace hK : va_K (dC, dI) vwCl [(co1, .byte), (co10, .int), (co11, .int)] s := hK
  refine lv_aload_n hx hb dX12_compile_77 rfl (lv_at hl 1 rfl) ?_
  refine va_get (D := (dC, dI)) (ci := 12) (v := .ref qo4) (C := RX12) (T := TX12) (N := 11) hx hb hts uV_k1_X12 hown hK hP 0 rfl rfl 4 (by decide) (hts (.fieldLink RX12 25 "ClassMill" "heads" "LClassMill$Heads;") mw_k1_258) (fun _ h9 => h9) rfl dX12_compile_78 ?_
  have hPc := hP.sub (ws' := [(qo4, .inr (2, [.ref qo2, .ref qo18, .int 1, .ref qo19, .ref qo20, .ref qo21, .ref qo22, .ref qo23, .ref qo24, .ref qo25, .ref qo26, .ref qo27, .ref qo28, .ref qo29, .ref qo30, .ref qo31, .ref qo32, .ref qo33, .ref qo34, .ref qo35, .int 0])), (qo2, .inr (9, [.ref qo10, .ref qo11, .ref qo12, .int 1, .ref qo13, .ref qo14, .ref qo15, .ref qo16, .ref qo17, .int 32, .int 0, .int 2, .int 0])), (qo26, .inl (co11, 96, .inl (fun _ => 0))), (qo22, .inl (co10, 96, .inl (fun _ => 0)))]) [4, 5, 6, 2] rfl
  have hDc := hD.sub (ws' := [(qo4, .inr (2, [.ref qo2, .ref qo18, .int 1, .ref qo19, .ref qo20, .ref qo21, .ref qo22, .ref qo23, .ref qo24, .ref qo25, .ref qo26, .ref qo27, .ref qo28, .ref qo29, .ref qo30, .ref qo31, .ref qo32, .ref qo33, .ref qo34, .ref qo35, .int 0])), (qo2, .inr (9, [.ref qo10, .ref qo11, .ref qo12, .int 1, .ref qo13, .ref qo14, .ref qo15, .ref qo16, .ref qo17, .int 32, .int 0, .int 2, .int 0])), (qo26, .inl (co11, 96, .inl (fun _ => 0))), (qo22, .inl (co10, 96, .inl (fun _ => 0)))]) [4, 5, 6, 2] (by decide) rfl
  have hKc := hK.sub (tys' := [(co11, .int), (co10, .int)]) [2, 1] rfl
  have hFc := va_free (wc := [(qo4, .inr (2, [.ref qo2, .ref qo18, .int 1, .ref qo19, .ref qo20, .ref qo21, .ref qo22, .ref qo23, .ref qo24, .ref qo25, .ref qo26, .ref qo27, .ref qo28, .ref qo29, .ref qo30, .ref qo31, .ref qo32, .ref qo33, .ref qo34, .ref qo35, .int 0])), (qo2, .inr (9, [.ref qo10, .ref qo11, .ref qo12, .int 1, .ref qo13, .ref qo14, .ref qo15, .ref qo16, .ref qo17, .int 32, .int 0, .int 2, .int 0])), (qo26, .inl (co11, 96, .inl (fun _ => 0))), (qo22, .inl (co10, 96, .inl (fun _ => 0)))]) hD hS hA [4, 5, 6, 2] rfl
  refine va_callv (va_runV (As := []) (rest := []) ⟨hx, hb, hml, hown, hts⟩ (kk_nameKinds l dC dI H.size qo4 qo2 qo18 qo19 qo20 qo21 qo22 qo23 qo24 qo25 qo26 qo27 qo28 qo29 qo30 qo31 qo32 qo33 qo34 qo35 qo10 qo11 qo12 qo13 qo14 qo15 qo16 qo17 co11 co10) (cwV 0 hts gv_k1_57 rfl rfl rfl (by decide +kernel) ⟨Nat.le_of_ble_eq_true rfl, Nat.le_of_ble_eq_true rfl⟩) ⟨fun a U g mk q => by obtain ⟨q0, q1, qP, qK, qD⟩ := q; exact ⟨q0, q1, qP, va_K.moved (u := U) (U := U.calling g mk a) (Vm.Alike.refl U.vm) qK, qD⟩, va_recv hKc hPc (ci := 2) (q0 := 0) rfl rfl, fun U hU hW => ⟨rfl, by rw [hU], by rw [hU]; exact hPc, va_K.moved hW.alike hKc, hDc.weaken (fun _ _ _ _ => trivial)⟩⟩ rfl rfl hl.1 rfl (lv_room (Nat.le_of_ble_eq_true rfl)) dX12_compile_81 ⟨Nat.le_of_ble_eq_true rfl, Nat.le_of_ble_eq_true rfl⟩) hS (fun q _ h => hFc q h) hFc ?_
  clear hS
  intro u t H1 locs ht hvm hw hB hz1 hk1 hS
  obtain ⟨⟩ := u
  obtain ⟨hP1, hK1, hD1⟩ := hB
  rw [ht] at hP1
  have hK1 := va_K.moved hvm.symm hK1
  try dsimp only at hw
  have hPD := va_join (wr := [(h0, .inr (12, [.ref qo1, .int 0, .ref qo2, .ref qo3, .ref qo4, .ref qo5, .ref qo6, .int 0, .ref qo7, .ref qo8, .ref qo9])), (qo1, .inl (co1, 6000, .inl (fun _ => 0))), (qo5, .inr (0, [.ref qo2, .ref qo4, .ref qo18, .ref qo38, .ref qo39, .ref qo40, .ref qo41, .int 0, .int 0, .int 0, .int 0, .ref qo42, .int 0]))]) (w1 := [(qo4, .inr (2, [.ref qo2, .ref qo18, .int 1, .ref qo19, .ref qo20, .ref qo21, .ref qo22, .ref qo23, .ref qo24, .ref qo25, .ref qo26, .ref qo27, .ref qo28, .ref qo29, .ref qo30, .ref qo31, .ref qo32, .ref qo33, .ref qo34, .ref qo35, .int 0])), (qo2, .inr (9, [.ref qo10, .ref qo11, .ref qo12, .int 1, .ref qo13, .ref qo14, .ref qo15, .ref qo16, .ref qo17, .int 32, .int 0, .int 2, .int 0]))]) hP hD [4, 5, 6, 2] [0, 1, 3] rfl rfl (by decide) (by decide) hk1 hFc hP1 hD1
  clear hP hD
  obtain ⟨hP, hD⟩ := hPD
  replace hK := (hK.sub (tys' := [(co1, .byte)]) [0] rfl).app hK1
  clear hPc hDc hKc hFc hP1 hK1 hD1 hz1 hk1 ht hvm
  generalize H1 = H at hP hS ⊢
  replace hP : va_P (dC, dI) vwCl [(h0, .inr (12, [.ref qo1, .int 0, .ref qo2, .ref qo3, .ref qo4, .ref qo5, .ref qo6, .int 0, .ref qo7, .ref qo8, .ref qo9])), (qo1, .inl (co1, 6000, .inl (fun _ => 0))), (qo5, .inr (0, [.ref qo2, .ref qo4, .ref qo18, .ref qo38, .ref qo39, .ref qo40, .ref qo41, .int 0, .int 0, .int 0, .int 0, .ref qo42, .int 0])), (qo4, .inr (2, [.ref qo2, .ref qo18, .int 1, .ref qo19, .ref qo20, .ref qo21, .ref qo22, .ref qo23, .ref qo24, .ref qo25, .ref qo26, .ref qo27, .ref qo28, .ref qo29, .ref qo30, .ref qo31, .ref qo32, .ref qo33, .ref qo34, .ref qo35, .int 0])), (qo2, .inr (9, [.ref qo10, .ref qo11, .ref qo12, .int 1, .ref qo13, .ref qo14, .ref qo15, .ref qo16, .ref qo17, .int 32, .int 0, .int 2, .int 0]))] H := hP
  replace hD : va_D A [(h0, .inr (12, [.ref qo1, .int 0, .ref qo2, .ref qo3, .ref qo4, .ref qo5, .ref qo6, .int 0, .ref qo7, .ref qo8, .ref qo9])), (qo1, .inl (co1, 6000, .inl (fun _ => 0))), (qo5, .inr (0, [.ref qo2, .ref qo4, .ref qo18, .ref qo38, .ref qo39, .ref qo40, .ref qo41, .int 0, .int 0, .int 0, .int 0, .ref qo42, .int 0])), (qo4, .inr (2, [.ref qo2, .ref qo18, .int 1, .ref qo19, .ref qo20, .ref qo21, .ref qo22, .ref qo23, .ref qo24, .ref qo25, .ref qo26, .ref qo27, .ref qo28, .ref qo29, .ref qo30, .ref qo31, .ref qo32, .ref qo33, .ref qo34, .ref qo35, .int 0])), (qo2, .inr (9, [.ref qo10, .ref qo11, .ref qo12, .int 1, .ref qo13, .ref qo14, .ref qo15, .ref qo16, .ref qo17, .int 32, .int 0, .int 2, .int 0]))] := hD
  replace hK : va_K (dC, dI) vwCl [(co1, .byte)] s := hK
  refine lv_aload_n hx hb dX12_compile_84 rfl (lv_at hl 1 rfl) ?_
  refine va_get (D := (dC, dI)) (ci := 12) (v := .ref qo5) (C := RX12) (T := TX12) (N := 11) hx hb hts uV_k1_X12 hown hK hP 0 rfl rfl 5 (by decide) (hts (.fieldLink RX12 41 "ClassMill" "bodies" "LClassMill$Bodies;") mw_k1_260) (fun _ h9 => h9) rfl dX12_compile_85 ?_
  have hPc := hP.sub (ws' := [(qo5, .inr (0, [.ref qo2, .ref qo4, .ref qo18, .ref qo38, .ref qo39, .ref qo40, .ref qo41, .int 0, .int 0, .int 0, .int 0, .ref qo42, .int 0]))]) [2] rfl
  have hDc := hD.sub (ws' := [(qo5, .inr (0, [.ref qo2, .ref qo4, .ref qo18, .ref qo38, .ref qo39, .ref qo40, .ref qo41, .int 0, .int 0, .int 0, .int 0, .ref qo42, .int 0]))]) [2] (by decide) rfl
  have hKc := hK.sub (tys' := []) [] rfl
  have hFc := va_free (wc := [(qo5, .inr (0, [.ref qo2, .ref qo4, .ref qo18, .ref qo38, .ref qo39, .ref qo40, .ref qo41, .int 0, .int 0, .int 0, .int 0, .ref qo42, .int 0]))]) hD hS hA [2] rfl
  refine va_callv (va_runV (As := []) (rest := []) ⟨hx, hb, hml, hown, hts⟩ (kk_beginProgram l dC dI H.size qo5 qo2 qo4 qo18 qo38 qo39 qo40 qo41 qo42) (cwV 0 hts gv_k1_58 rfl rfl rfl (by decide +kernel) ⟨Nat.le_of_ble_eq_true rfl, Nat.le_of_ble_eq_true rfl⟩) ⟨fun a U g mk q => by obtain ⟨q0, q1, qP, qK, qD⟩ := q; exact ⟨q0, q1, qP, va_K.moved (u := U) (U := U.calling g mk a) (Vm.Alike.refl U.vm) qK, qD⟩, va_recv hKc hPc (ci := 0) (q0 := 0) rfl rfl, fun U hU hW => ⟨rfl, by rw [hU], by rw [hU]; exact hPc, va_K.moved hW.alike hKc, hDc.weaken (fun _ _ _ _ => trivial)⟩⟩ rfl rfl hl.1 rfl (lv_room (Nat.le_of_ble_eq_true rfl)) dX12_compile_88 ⟨Nat.le_of_ble_eq_true rfl, Nat.le_of_ble_eq_true rfl⟩) hS (fun q _ h => hFc q h) hFc ?_
  clear hS
  intro u t H1 locs ht hvm hw hB hz1 hk1 hS
  obtain ⟨⟩ := u
  obtain ⟨hP1, hK1, hD1⟩ := hB
  rw [ht] at hP1
  have hK1 := va_K.moved hvm.symm hK1
  try dsimp only at hw
  have hPD := va_join (wr := [(h0, .inr (12, [.ref qo1, .int 0, .ref qo2, .ref qo3, .ref qo4, .ref qo5, .ref qo6, .int 0, .ref qo7, .ref qo8, .ref qo9])), (qo1, .inl (co1, 6000, .inl (fun _ => 0))), (qo4, .inr (2, [.ref qo2, .ref qo18, .int 1, .ref qo19, .ref qo20, .ref qo21, .ref qo22, .ref qo23, .ref qo24, .ref qo25, .ref qo26, .ref qo27, .ref qo28, .ref qo29, .ref qo30, .ref qo31, .ref qo32, .ref qo33, .ref qo34, .ref qo35, .int 0])), (qo2, .inr (9, [.ref qo10, .ref qo11, .ref qo12, .int 1, .ref qo13, .ref qo14, .ref qo15, .ref qo16, .ref qo17, .int 32, .int 0, .int 2, .int 0]))]) (w1 := [(qo5, .inr (0, [.ref qo2, .ref qo4, .ref qo18, .ref qo38, .ref qo39, .ref qo40, .ref qo41, .int (-1), .int 0, .int 0, .int 0, .ref qo42, .int 0]))]) hP hD [2] [0, 1, 3, 4] rfl rfl (by decide) (by decide) hk1 hFc hP1 hD1
  clear hP hD
  obtain ⟨hP, hD⟩ := hPD
  replace hK := (hK.sub (tys' := [(co1, .byte)]) [0] rfl).app hK1
  clear hPc hDc hKc hFc hP1 hK1 hD1 hz1 hk1 ht hvm
  generalize H1 = H at hP hS ⊢
  replace hP : va_P (dC, dI) vwCl [(h0, .inr (12, [.ref qo1, .int 0, .ref qo2, .ref qo3, .ref qo4, .ref qo5, .ref qo6, .int 0, .ref qo7, .ref qo8, .ref qo9])), (qo1, .inl (co1, 6000, .inl (fun _ => 0))), (qo4, .inr (2, [.ref qo2, .ref qo18, .int 1, .ref qo19, .ref qo20, .ref qo21, .ref qo22, .ref qo23, .ref qo24, .ref qo25, .ref qo26, .ref qo27, .ref qo28, .ref qo29, .ref qo30, .ref qo31, .ref qo32, .ref qo33, .ref qo34, .ref qo35, .int 0])), (qo2, .inr (9, [.ref qo10, .ref qo11, .ref qo12, .int 1, .ref qo13, .ref qo14, .ref qo15, .ref qo16, .ref qo17, .int 32, .int 0, .int 2, .int 0])), (qo5, .inr (0, [.ref qo2, .ref qo4, .ref qo18, .ref qo38, .ref qo39, .ref qo40, .ref qo41, .int (-1), .int 0, .int 0, .int 0, .ref qo42, .int 0]))] H := hP
  replace hD : va_D A [(h0, .inr (12, [.ref qo1, .int 0, .ref qo2, .ref qo3, .ref qo4, .ref qo5, .ref qo6, .int 0, .ref qo7, .ref qo8, .ref qo9])), (qo1, .inl (co1, 6000, .inl (fun _ => 0))), (qo4, .inr (2, [.ref qo2, .ref qo18, .int 1, .ref qo19, .ref qo20, .ref qo21, .ref qo22, .ref qo23, .ref qo24, .ref qo25, .ref qo26, .ref qo27, .ref qo28, .ref qo29, .ref qo30, .ref qo31, .ref qo32, .ref qo33, .ref qo34, .ref qo35, .int 0])), (qo2, .inr (9, [.ref qo10, .ref qo11, .ref qo12, .int 1, .ref qo13, .ref qo14, .ref qo15, .ref qo16, .ref qo17, .int 32, .int 0, .int 2, .int 0])), (qo5, .inr (0, [.ref qo2, .ref qo4, .ref qo18, .ref qo38, .ref qo39, .ref qo40, .ref qo41, .int (-1), .int 0, .int 0, .int 0, .ref qo42, .int 0]))] := hD
  replace hK : va_K (dC, dI) vwCl [(co1, .byte)] s := hK
  refine lv_iconst (v := 0) hx hb dX12_compile_91 (by decide) ?_
  refine lv_istore_n (lv' := [(2, .int 0), (1, .int 0), (0, .ref h0)]) hx hb dX12_compile_92 rfl hl (by decide) rfl (fun ls hl => ?_)
  refine lv_iload_n hx hb dX12_compile_93 rfl (lv_at hl 0 rfl) ?_
  refine lv_aload_n hx hb dX12_compile_94 rfl (lv_at hl 2 rfl) ?_
  refine va_get (D := (dC, dI)) (ci := 12) (v := .ref qo4) (C := RX12) (T := TX12) (N := 11) hx hb hts uV_k1_X12 hown hK hP 0 rfl rfl 4 (by decide) (hts (.fieldLink RX12 25 "ClassMill" "heads" "LClassMill$Heads;") mw_k1_258) (fun _ h9 => h9) rfl dX12_compile_95 ?_
  refine va_get (D := (dC, dI)) (ci := 2) (v := .int 1) (C := RX2) (T := TX2) (N := 21) hx hb hts uV_k1_X2 hown hK hP 2 rfl rfl 2 (by decide) (hts (.fieldLink RX12 110 "ClassMill$Heads" "classes" "I") mw_k1_261) (fun _ h9 => h9) rfl dX12_compile_98 ?_
  refine lv_icmp_ge (tgt := 175) hx hb dX12_compile_101 (by decide) (fun c_4 => (show False by revert c_4; decide).elim) (fun c_4 => ?_)
  refine lv_aload_n hx hb dX12_compile_104 rfl (lv_at hl 2 rfl) ?_
  refine va_get (D := (dC, dI)) (ci := 12) (v := .ref qo2) (C := RX12) (T := TX12) (N := 11) hx hb hts uV_k1_X12 hown hK hP 0 rfl rfl 2 (by decide) (hts (.fieldLink RX12 16 "ClassMill" "text" "LClassMill$Text;") mw_k1_7) (fun _ h9 => h9) rfl dX12_compile_105 ?_
  refine va_get (D := (dC, dI)) (ci := 9) (v := .int 2) (C := RX9) (T := TX9) (N := 13) hx hb hts uV_k1_X9 hown hK hP 3 rfl rfl 11 (by decide) (hts (.fieldLink RX12 113 "ClassMill$Text" "fault" "I") mw_k1_8) (fun _ h9 => h9) rfl dX12_compile_108 ?_
  refine lv_if_ne (tgt := 175) hx hb dX12_compile_111 (by decide) (fun c_5 => ?_) (fun c_5 => (show False by revert c_5; decide).elim)
  refine lv_aload_n hx hb dX12_compile_175 rfl (lv_at hl 2 rfl) ?_
  refine va_get (D := (dC, dI)) (ci := 12) (v := .ref qo5) (C := RX12) (T := TX12) (N := 11) hx hb hts uV_k1_X12 hown hK hP 0 rfl rfl 5 (by decide) (hts (.fieldLink RX12 41 "ClassMill" "bodies" "LClassMill$Bodies;") mw_k1_260) (fun _ h9 => h9) rfl dX12_compile_176 ?_
  have hPc := hP.sub (ws' := [(qo5, .inr (0, [.ref qo2, .ref qo4, .ref qo18, .ref qo38, .ref qo39, .ref qo40, .ref qo41, .int (-1), .int 0, .int 0, .int 0, .ref qo42, .int 0]))]) [4] rfl
  have hDc := hD.sub (ws' := [(qo5, .inr (0, [.ref qo2, .ref qo4, .ref qo18, .ref qo38, .ref qo39, .ref qo40, .ref qo41, .int (-1), .int 0, .int 0, .int 0, .ref qo42, .int 0]))]) [4] (by decide) rfl
  have hKc := hK.sub (tys' := []) [] rfl
  have hFc := va_free (wc := [(qo5, .inr (0, [.ref qo2, .ref qo4, .ref qo18, .ref qo38, .ref qo39, .ref qo40, .ref qo41, .int (-1), .int 0, .int 0, .int 0, .ref qo42, .int 0]))]) hD hS hA [4] rfl
  refine va_callv (va_runV (As := []) (rest := []) ⟨hx, hb, hml, hown, hts⟩ (kk_closeProgram l dC dI H.size qo5 qo2 qo4 qo18 qo38 qo39 qo40 qo41 qo42) (cwV 0 hts gv_k1_59 rfl rfl rfl (by decide +kernel) ⟨Nat.le_of_ble_eq_true rfl, Nat.le_of_ble_eq_true rfl⟩) ⟨fun a U g mk q => by obtain ⟨q0, q1, qP, qK, qD⟩ := q; exact ⟨q0, q1, qP, va_K.moved (u := U) (U := U.calling g mk a) (Vm.Alike.refl U.vm) qK, qD⟩, va_recv hKc hPc (ci := 0) (q0 := 0) rfl rfl, fun U hU hW => ⟨rfl, by rw [hU], by rw [hU]; exact hPc, va_K.moved hW.alike hKc, hDc.weaken (fun _ _ _ _ => trivial)⟩⟩ rfl rfl hl.1 rfl (lv_room (Nat.le_of_ble_eq_true rfl)) dX12_compile_179 ⟨Nat.le_of_ble_eq_true rfl, Nat.le_of_ble_eq_true rfl⟩) hS (fun q _ h => hFc q h) hFc ?_
  clear hS
  intro u t H1 locs ht hvm hw hB hz1 hk1 hS
  obtain ⟨⟩ := u
  obtain ⟨hP1, hK1, hD1⟩ := hB
  rw [ht] at hP1
  have hK1 := va_K.moved hvm.symm hK1
  try dsimp only at hw
  have hPD := va_join (wr := [(h0, .inr (12, [.ref qo1, .int 0, .ref qo2, .ref qo3, .ref qo4, .ref qo5, .ref qo6, .int 0, .ref qo7, .ref qo8, .ref qo9])), (qo1, .inl (co1, 6000, .inl (fun _ => 0))), (qo4, .inr (2, [.ref qo2, .ref qo18, .int 1, .ref qo19, .ref qo20, .ref qo21, .ref qo22, .ref qo23, .ref qo24, .ref qo25, .ref qo26, .ref qo27, .ref qo28, .ref qo29, .ref qo30, .ref qo31, .ref qo32, .ref qo33, .ref qo34, .ref qo35, .int 0])), (qo2, .inr (9, [.ref qo10, .ref qo11, .ref qo12, .int 1, .ref qo13, .ref qo14, .ref qo15, .ref qo16, .ref qo17, .int 32, .int 0, .int 2, .int 0]))]) (w1 := [(qo5, .inr (0, [.ref qo2, .ref qo4, .ref qo18, .ref qo38, .ref qo39, .ref qo40, .ref qo41, .int (-1), .int 0, .int 0, .int 0, .ref qo42, .int 0]))]) hP hD [4] [0, 1, 2, 3] rfl rfl (by decide) (by decide) hk1 hFc hP1 hD1
  clear hP hD
  obtain ⟨hP, hD⟩ := hPD
  replace hK := (hK.sub (tys' := [(co1, .byte)]) [0] rfl).app hK1
  clear hPc hDc hKc hFc hP1 hK1 hD1 hz1 hk1 ht hvm
  generalize H1 = H at hP hS ⊢
  replace hP : va_P (dC, dI) vwCl [(h0, .inr (12, [.ref qo1, .int 0, .ref qo2, .ref qo3, .ref qo4, .ref qo5, .ref qo6, .int 0, .ref qo7, .ref qo8, .ref qo9])), (qo1, .inl (co1, 6000, .inl (fun _ => 0))), (qo4, .inr (2, [.ref qo2, .ref qo18, .int 1, .ref qo19, .ref qo20, .ref qo21, .ref qo22, .ref qo23, .ref qo24, .ref qo25, .ref qo26, .ref qo27, .ref qo28, .ref qo29, .ref qo30, .ref qo31, .ref qo32, .ref qo33, .ref qo34, .ref qo35, .int 0])), (qo2, .inr (9, [.ref qo10, .ref qo11, .ref qo12, .int 1, .ref qo13, .ref qo14, .ref qo15, .ref qo16, .ref qo17, .int 32, .int 0, .int 2, .int 0])), (qo5, .inr (0, [.ref qo2, .ref qo4, .ref qo18, .ref qo38, .ref qo39, .ref qo40, .ref qo41, .int (-1), .int 0, .int 0, .int 0, .ref qo42, .int 0]))] H := hP
  replace hD : va_D A [(h0, .inr (12, [.ref qo1, .int 0, .ref qo2, .ref qo3, .ref qo4, .ref qo5, .ref qo6, .int 0, .ref qo7, .ref qo8, .ref qo9])), (qo1, .inl (co1, 6000, .inl (fun _ => 0))), (qo4, .inr (2, [.ref qo2, .ref qo18, .int 1, .ref qo19, .ref qo20, .ref qo21, .ref qo22, .ref qo23, .ref qo24, .ref qo25, .ref qo26, .ref qo27, .ref qo28, .ref qo29, .ref qo30, .ref qo31, .ref qo32, .ref qo33, .ref qo34, .ref qo35, .int 0])), (qo2, .inr (9, [.ref qo10, .ref qo11, .ref qo12, .int 1, .ref qo13, .ref qo14, .ref qo15, .ref qo16, .ref qo17, .int 32, .int 0, .int 2, .int 0])), (qo5, .inr (0, [.ref qo2, .ref qo4, .ref qo18, .ref qo38, .ref qo39, .ref qo40, .ref qo41, .int (-1), .int 0, .int 0, .int 0, .ref qo42, .int 0]))] := hD
  replace hK : va_K (dC, dI) vwCl [(co1, .byte)] s := hK
  refine lv_aload_n hx hb dX12_compile_182 rfl (lv_at hl 2 rfl) ?_
  refine va_get (D := (dC, dI)) (ci := 12) (v := .ref qo2) (C := RX12) (T := TX12) (N := 11) hx hb hts uV_k1_X12 hown hK hP 0 rfl rfl 2 (by decide) (hts (.fieldLink RX12 16 "ClassMill" "text" "LClassMill$Text;") mw_k1_7) (fun _ h9 => h9) rfl dX12_compile_183 ?_
  refine va_get (D := (dC, dI)) (ci := 9) (v := .int 2) (C := RX9) (T := TX9) (N := 13) hx hb hts uV_k1_X9 hown hK hP 3 rfl rfl 11 (by decide) (hts (.fieldLink RX12 113 "ClassMill$Text" "fault" "I") mw_k1_8) (fun _ h9 => h9) rfl dX12_compile_186 ?_
  refine lv_if_ne (tgt := 199) hx hb dX12_compile_189 (by decide) (fun c_6 => ?_) (fun c_6 => (show False by revert c_6; decide).elim)
  refine lv_iconst (v := (-1)) hx hb dX12_compile_199 (by decide) ?_
  have hP9 := hP.sub (ws' := []) [] rfl
  have hD9 := hD.sub (ws' := []) [] (by decide) rfl
  have hK9 := hK.sub (tys' := []) [] rfl
  exact W.iret hx hb hr (fun t ht hW => ⟨⟨(-1), (), rfl, rfl, by rw [ht]; exact hP9, va_K.moved hW.alike hK9, hD9⟩, hS.F ht⟩) hS.2.2 dX12_compile_200
