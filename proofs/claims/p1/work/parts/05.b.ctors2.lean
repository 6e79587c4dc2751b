set_option maxHeartbeats 4000000 in
set_option maxRecDepth 100000 in
/-- Values(text, heads, code, pool) -/
theorem ct_val (l : Launch) (dC : Nat → ClassId) (dI : Nat → Nat → Nat) (sz : Nat) (h0 qt qh qc qp qk : Nat) (fsH : List Value) (hHk : fsH[1]? = some (.ref qk)) : Met l yX10_init wsX10_init ({ frames := 1, cells := 5, slots := 2100, locals := 12 }) (va_Pc [.ref h0, .ref qt, .ref qh, .ref qc, .ref qp] (fun U => U.heap.size = sz ∧ va_P (dC, dI) vwCl [(h0, .inr (10, [.null, .null, .null, .null, .null, .null, .null, .null, .null, .null, .int 0, .int 0, .int 0, .int 0, .int 0, .int 0, .int 0, .int 0, .int 0])), (qh, .inr (2, fsH))] U.heap ∧ va_K (dC, dI) vwCl [] U ∧ va_D (fun _ => True) [(h0, .inr (10, [.null, .null, .null, .null, .null, .null, .null, .null, .null, .null, .int 0, .int 0, .int 0, .int 0, .int 0, .int 0, .int 0, .int 0, .int 0])), (qh, .inr (2, fsH))])) (va_Qv (fun (u : Unit) => match u with | () => True) (fun (u : Unit) (t : State) => match u with | () => va_P (dC, dI) vwCl [(qh, .inr (2, fsH))] t.heap ∧ va_K (dC, dI) vwCl [] t ∧ va_D (va_A [(h0, .inr (10, [.null, .null, .null, .null, .null, .null, .null, .null, .null, .null, .int 0, .int 0, .int 0, .int 0, .int 0, .int 0, .int 0, .int 0, .int 0])), (qh, .inr (2, fsH))] sz) [(qh, .inr (2, fsH))]) (va_A [(h0, .inr (10, [.null, .null, .null, .null, .null, .null, .null, .null, .null, .null, .int 0, .int 0, .int 0, .int 0, .int 0, .int 0, .int 0, .int 0, .int 0])), (qh, .inr (2, fsH))] sz)) 5 2100 (va_A [(h0, .inr (10, [.null, .null, .null, .null, .null, .null, .null, .null, .null, .null, .int 0, .int 0, .int 0, .int 0, .int 0, .int 0, .int 0, .int 0, .int 0])), (qh, .inr (2, fsH))] sz) := by
  refine Met.ofW (cc := cX10_init) (maxL := 5) (ret := none) (by decide) rfl ?_
  intro p e s m args below meth c s₁ B hml hv
  obtain ⟨rfl, hsz, hP, hK, hD0⟩ := hv
  have hx := B.exec
  have hb := B.bytes
  have hr := B.returns
  have hts := atoms_spec (ws := wsX10_init) B.pre
  have hown : s.vm.findClass RX10 = some m.cls := findClass_of_methodNamed B.named
  have hlocks := B.notSynchronized
  have hin : meth.name = "<init>" := (name_of_methodNamed B.named B.method).1
  subst hsz
  have hD := hD0.self (sz := s.heap.size)
  generalize hAe : va_A [(h0, .inr (10, [.null, .null, .null, .null, .null, .null, .null, .null, .null, .null, .int 0, .int 0, .int 0, .int 0, .int 0, .int 0, .int 0, .int 0, .int 0])), (qh, .inr (2, fsH))] s.heap.size = A at hD  ⊢
  have hA : ∀ q : Nat, s.heap.size ≤ q → A q := fun q h => by rw [← hAe]; exact Or.inr h
  have hP : va_P (dC, dI) vwCl [(h0, .inr (10, [.null, .null, .null, .null, .null, .null, .null, .null, .null, .null, .int 0, .int 0, .int 0, .int 0, .int 0, .int 0, .int 0, .int 0, .int 0])), (qh, .inr (2, fsH))] s.heap := hP
  have hl := lv_entry ([.ref h0, .ref qt, .ref qh, .ref qc, .ref qp]) (n := 5) (Nat.le_of_ble_eq_true rfl)
  rw [lg_entry_eq]
  generalize (lg_sl ([.ref h0, .ref qt, .ref qh, .ref qc, .ref qp]) ++ List.replicate (5 - (lg_sl ([.ref h0, .ref qt, .ref qh, .ref qc, .ref qp])).length) Slot.unset).toArray = ls at hl ⊢
  have hl : lv_has ls 5 [(0, .ref h0), (1, .ref qt), (2, .ref qh), (3, .ref qc), (4, .ref qp)] := hl
  obtain ⟨H, hH⟩ : ∃ H : Heap, s.heap = H := ⟨_, rfl⟩
  rw [hH] at hP ⊢
  have hS : va_S A s.heap H [] := by rw [← hH]; exact va_S.rf
  obtain ⟨locs, hlo⟩ : ∃ locs : List Loc, locs = [] := ⟨_, rfl⟩
  rw [← hlo] at hS ⊢
  refine lv_aload_n hx hb dX10_init_0 rfl (lv_at hl 0 rfl) ?_
  refine W.objInit hx hb hown (hts (.methodLink RX10 9 objectInit) (by decide +kernel)) (hts (.instanceMethod objectInit) (by decide +kernel)) (hts (.code objectInit ⟨#[0xb1]⟩ 1 none) (by decide +kernel)) rfl (by rw [hml]; exact hl.1) rfl dX10_init_1 (Nat.le_of_ble_eq_true rfl) (Nat.le_of_ble_eq_true rfl) ?_
  refine W.eq (g2 := F0 m 4 ls []) rfl ?_
  refine lv_aload_n hx hb dX10_init_4 rfl (lv_at hl 0 rfl) ?_
  refine lv_sipush (v := 420) hx hb dX10_init_5 (by decide) ?_
  refine va_newa (atype := .int) (ty := .int) (N' := 420) (a0 := (420, .inl (fun _ => 0))) hx hb (hts (.arrayClass .int) (by decide +kernel)) rfl hK hP hD hS hA (fun _ => rfl) (by decide) (by decide) (by decide) (Nat.le_of_ble_eq_true rfl) (Nat.le_of_ble_eq_true rfl) dX10_init_8 ?_
  clear hK hP hD hS
  intro q_1 cq_1 H hK hP hD hS
  refine W.widen (k := 1) (n := 420) (Nat.le_of_ble_eq_true rfl) (Nat.le_of_ble_eq_true rfl) ?_
  replace hP := hP.sub (ws' := [(h0, .inr (10, [.null, .null, .null, .null, .null, .null, .null, .null, .null, .null, .int 0, .int 0, .int 0, .int 0, .int 0, .int 0, .int 0, .int 0, .int 0])), (qh, .inr (2, fsH))]) [0, 1] rfl
  replace hD := hD.sub (ws' := [(h0, .inr (10, [.null, .null, .null, .null, .null, .null, .null, .null, .null, .null, .int 0, .int 0, .int 0, .int 0, .int 0, .int 0, .int 0, .int 0, .int 0])), (qh, .inr (2, fsH))]) [0, 1] (by decide) rfl
  replace hK := hK.sub (tys' := []) [] rfl
  refine va_putF (D := (dC, dI)) (ci := 10) (v := .ref q_1) (ty := .array .int) (C := RX10) (T := TX10) (N := 19) hx hb hts uX10_init_X10 tyX10 tyX10_ok nmX10 hown hK hP hD hS 0 rfl rfl 5 (by decide) (hts (.fieldLink RX10 15 "ClassMill$Values" "signs" "[I") (by decide +kernel)) (fun _ h9 => h9) rfl hin rfl (by decide +kernel) rfl rfl (Nat.le_of_ble_eq_true rfl) dX10_init_10 ?_
  clear hP hD hS
  intro H locs hP hD hS
  replace hP : va_P (dC, dI) vwCl [(h0, .inr (10, [.null, .null, .null, .null, .null, .ref q_1, .null, .null, .null, .null, .int 0, .int 0, .int 0, .int 0, .int 0, .int 0, .int 0, .int 0, .int 0])), (qh, .inr (2, fsH))] H := hP
  replace hD : va_D A [(h0, .inr (10, [.null, .null, .null, .null, .null, .ref q_1, .null, .null, .null, .null, .int 0, .int 0, .int 0, .int 0, .int 0, .int 0, .int 0, .int 0, .int 0])), (qh, .inr (2, fsH))] := hD
  refine lv_aload_n hx hb dX10_init_13 rfl (lv_at hl 0 rfl) ?_
  refine lv_sipush (v := 420) hx hb dX10_init_14 (by decide) ?_
  refine va_newa (atype := .int) (ty := .int) (N' := 420) (a0 := (420, .inl (fun _ => 0))) hx hb (hts (.arrayClass .int) (by decide +kernel)) rfl hK hP hD hS hA (fun _ => rfl) (by decide) (by decide) (by decide) (Nat.le_of_ble_eq_true rfl) (Nat.le_of_ble_eq_true rfl) dX10_init_17 ?_
  clear hK hP hD hS
  intro q_2 cq_2 H hK hP hD hS
  refine W.widen (k := 2) (n := 840) (Nat.le_of_ble_eq_true rfl) (Nat.le_of_ble_eq_true rfl) ?_
  replace hP := hP.sub (ws' := [(h0, .inr (10, [.null, .null, .null, .null, .null, .ref q_1, .null, .null, .null, .null, .int 0, .int 0, .int 0, .int 0, .int 0, .int 0, .int 0, .int 0, .int 0])), (qh, .inr (2, fsH))]) [0, 1] rfl
  replace hD := hD.sub (ws' := [(h0, .inr (10, [.null, .null, .null, .null, .null, .ref q_1, .null, .null, .null, .null, .int 0, .int 0, .int 0, .int 0, .int 0, .int 0, .int 0, .int 0, .int 0])), (qh, .inr (2, fsH))]) [0, 1] (by decide) rfl
  replace hK := hK.sub (tys' := []) [] rfl
  refine va_putF (D := (dC, dI)) (ci := 10) (v := .ref q_2) (ty := .array .int) (C := RX10) (T := TX10) (N := 19) hx hb hts uX10_init_X10 tyX10 tyX10_ok nmX10 hown hK hP hD hS 0 rfl rfl 6 (by decide) (hts (.fieldLink RX10 19 "ClassMill$Values" "signAt" "[I") (by decide +kernel)) (fun _ h9 => h9) rfl hin rfl (by decide +kernel) rfl rfl (Nat.le_of_ble_eq_true rfl) dX10_init_19 ?_
  clear hP hD hS
  intro H locs hP hD hS
  replace hP : va_P (dC, dI) vwCl [(h0, .inr (10, [.null, .null, .null, .null, .null, .ref q_1, .ref q_2, .null, .null, .null, .int 0, .int 0, .int 0, .int 0, .int 0, .int 0, .int 0, .int 0, .int 0])), (qh, .inr (2, fsH))] H := hP
  replace hD : va_D A [(h0, .inr (10, [.null, .null, .null, .null, .null, .ref q_1, .ref q_2, .null, .null, .null, .int 0, .int 0, .int 0, .int 0, .int 0, .int 0, .int 0, .int 0, .int 0])), (qh, .inr (2, fsH))] := hD
  refine lv_aload_n hx hb dX10_init_22 rfl (lv_at hl 0 rfl) ?_
  refine lv_sipush (v := 420) hx hb dX10_init_23 (by decide) ?_
  refine va_newa (atype := .int) (ty := .int) (N' := 420) (a0 := (420, .inl (fun _ => 0))) hx hb (hts (.arrayClass .int) (by decide +kernel)) rfl hK hP hD hS hA (fun _ => rfl) (by decide) (by decide) (by decide) (Nat.le_of_ble_eq_true rfl) (Nat.le_of_ble_eq_true rfl) dX10_init_26 ?_
  clear hK hP hD hS
  intro q_3 cq_3 H hK hP hD hS
  refine W.widen (k := 3) (n := 1260) (Nat.le_of_ble_eq_true rfl) (Nat.le_of_ble_eq_true rfl) ?_
  replace hP := hP.sub (ws' := [(h0, .inr (10, [.null, .null, .null, .null, .null, .ref q_1, .ref q_2, .null, .null, .null, .int 0, .int 0, .int 0, .int 0, .int 0, .int 0, .int 0, .int 0, .int 0])), (qh, .inr (2, fsH))]) [0, 1] rfl
  replace hD := hD.sub (ws' := [(h0, .inr (10, [.null, .null, .null, .null, .null, .ref q_1, .ref q_2, .null, .null, .null, .int 0, .int 0, .int 0, .int 0, .int 0, .int 0, .int 0, .int 0, .int 0])), (qh, .inr (2, fsH))]) [0, 1] (by decide) rfl
  replace hK := hK.sub (tys' := []) [] rfl
  refine va_putF (D := (dC, dI)) (ci := 10) (v := .ref q_3) (ty := .array .int) (C := RX10) (T := TX10) (N := 19) hx hb hts uX10_init_X10 tyX10 tyX10_ok nmX10 hown hK hP hD hS 0 rfl rfl 7 (by decide) (hts (.fieldLink RX10 22 "ClassMill$Values" "leftFirst" "[I") (by decide +kernel)) (fun _ h9 => h9) rfl hin rfl (by decide +kernel) rfl rfl (Nat.le_of_ble_eq_true rfl) dX10_init_28 ?_
  clear hP hD hS
  intro H locs hP hD hS
  replace hP : va_P (dC, dI) vwCl [(h0, .inr (10, [.null, .null, .null, .null, .null, .ref q_1, .ref q_2, .ref q_3, .null, .null, .int 0, .int 0, .int 0, .int 0, .int 0, .int 0, .int 0, .int 0, .int 0])), (qh, .inr (2, fsH))] H := hP
  replace hD : va_D A [(h0, .inr (10, [.null, .null, .null, .null, .null, .ref q_1, .ref q_2, .ref q_3, .null, .null, .int 0, .int 0, .int 0, .int 0, .int 0, .int 0, .int 0, .int 0, .int 0])), (qh, .inr (2, fsH))] := hD
  refine lv_aload_n hx hb dX10_init_31 rfl (lv_at hl 0 rfl) ?_
  refine lv_sipush (v := 420) hx hb dX10_init_32 (by decide) ?_
  refine va_newa (atype := .int) (ty := .int) (N' := 420) (a0 := (420, .inl (fun _ => 0))) hx hb (hts (.arrayClass .int) (by decide +kernel)) rfl hK hP hD hS hA (fun _ => rfl) (by decide) (by decide) (by decide) (Nat.le_of_ble_eq_true rfl) (Nat.le_of_ble_eq_true rfl) dX10_init_35 ?_
  clear hK hP hD hS
  intro q_4 cq_4 H hK hP hD hS
  refine W.widen (k := 4) (n := 1680) (Nat.le_of_ble_eq_true rfl) (Nat.le_of_ble_eq_true rfl) ?_
  replace hP := hP.sub (ws' := [(h0, .inr (10, [.null, .null, .null, .null, .null, .ref q_1, .ref q_2, .ref q_3, .null, .null, .int 0, .int 0, .int 0, .int 0, .int 0, .int 0, .int 0, .int 0, .int 0])), (qh, .inr (2, fsH))]) [0, 1] rfl
  replace hD := hD.sub (ws' := [(h0, .inr (10, [.null, .null, .null, .null, .null, .ref q_1, .ref q_2, .ref q_3, .null, .null, .int 0, .int 0, .int 0, .int 0, .int 0, .int 0, .int 0, .int 0, .int 0])), (qh, .inr (2, fsH))]) [0, 1] (by decide) rfl
  replace hK := hK.sub (tys' := []) [] rfl
  refine va_putF (D := (dC, dI)) (ci := 10) (v := .ref q_4) (ty := .array .int) (C := RX10) (T := TX10) (N := 19) hx hb hts uX10_init_X10 tyX10 tyX10_ok nmX10 hown hK hP hD hS 0 rfl rfl 8 (by decide) (hts (.fieldLink RX10 25 "ClassMill$Values" "leftType" "[I") (by decide +kernel)) (fun _ h9 => h9) rfl hin rfl (by decide +kernel) rfl rfl (Nat.le_of_ble_eq_true rfl) dX10_init_37 ?_
  clear hP hD hS
  intro H locs hP hD hS
  replace hP : va_P (dC, dI) vwCl [(h0, .inr (10, [.null, .null, .null, .null, .null, .ref q_1, .ref q_2, .ref q_3, .ref q_4, .null, .int 0, .int 0, .int 0, .int 0, .int 0, .int 0, .int 0, .int 0, .int 0])), (qh, .inr (2, fsH))] H := hP
  replace hD : va_D A [(h0, .inr (10, [.null, .null, .null, .null, .null, .ref q_1, .ref q_2, .ref q_3, .ref q_4, .null, .int 0, .int 0, .int 0, .int 0, .int 0, .int 0, .int 0, .int 0, .int 0])), (qh, .inr (2, fsH))] := hD
  refine lv_aload_n hx hb dX10_init_40 rfl (lv_at hl 0 rfl) ?_
  refine lv_sipush (v := 420) hx hb dX10_init_41 (by decide) ?_
  refine va_newa (atype := .int) (ty := .int) (N' := 420) (a0 := (420, .inl (fun _ => 0))) hx hb (hts (.arrayClass .int) (by decide +kernel)) rfl hK hP hD hS hA (fun _ => rfl) (by decide) (by decide) (by decide) (Nat.le_of_ble_eq_true rfl) (Nat.le_of_ble_eq_true rfl) dX10_init_44 ?_
  clear hK hP hD hS
  intro q_5 cq_5 H hK hP hD hS
  refine W.widen (k := 5) (n := 2100) (Nat.le_of_ble_eq_true rfl) (Nat.le_of_ble_eq_true rfl) ?_
  replace hP := hP.sub (ws' := [(h0, .inr (10, [.null, .null, .null, .null, .null, .ref q_1, .ref q_2, .ref q_3, .ref q_4, .null, .int 0, .int 0, .int 0, .int 0, .int 0, .int 0, .int 0, .int 0, .int 0])), (qh, .inr (2, fsH))]) [0, 1] rfl
  replace hD := hD.sub (ws' := [(h0, .inr (10, [.null, .null, .null, .null, .null, .ref q_1, .ref q_2, .ref q_3, .ref q_4, .null, .int 0, .int 0, .int 0, .int 0, .int 0, .int 0, .int 0, .int 0, .int 0])), (qh, .inr (2, fsH))]) [0, 1] (by decide) rfl
  replace hK := hK.sub (tys' := []) [] rfl
  refine va_putF (D := (dC, dI)) (ci := 10) (v := .ref q_5) (ty := .array .int) (C := RX10) (T := TX10) (N := 19) hx hb hts uX10_init_X10 tyX10 tyX10_ok nmX10 hown hK hP hD hS 0 rfl rfl 9 (by decide) (hts (.fieldLink RX10 28 "ClassMill$Values" "leftJump" "[I") (by decide +kernel)) (fun _ h9 => h9) rfl hin rfl (by decide +kernel) rfl rfl (Nat.le_of_ble_eq_true rfl) dX10_init_46 ?_
  clear hP hD hS
  intro H locs hP hD hS
  replace hP : va_P (dC, dI) vwCl [(h0, .inr (10, [.null, .null, .null, .null, .null, .ref q_1, .ref q_2, .ref q_3, .ref q_4, .ref q_5, .int 0, .int 0, .int 0, .int 0, .int 0, .int 0, .int 0, .int 0, .int 0])), (qh, .inr (2, fsH))] H := hP
  replace hD : va_D A [(h0, .inr (10, [.null, .null, .null, .null, .null, .ref q_1, .ref q_2, .ref q_3, .ref q_4, .ref q_5, .int 0, .int 0, .int 0, .int 0, .int 0, .int 0, .int 0, .int 0, .int 0])), (qh, .inr (2, fsH))] := hD
  refine lv_aload_n hx hb dX10_init_49 rfl (lv_at hl 0 rfl) ?_
  refine lv_aload_n hx hb dX10_init_50 rfl (lv_at hl 1 rfl) ?_
  refine va_putF (D := (dC, dI)) (ci := 10) (v := .ref qt) (ty := .object "ClassMill$Text") (C := RX10) (T := TX10) (N := 19) hx hb hts uX10_init_X10 tyX10 tyX10_ok nmX10 hown hK hP hD hS 0 rfl rfl 0 (by decide) (hts (.fieldLink RX10 31 "ClassMill$Values" "text" "LClassMill$Text;") (by decide +kernel)) (fun _ h9 => h9) rfl hin rfl (by decide +kernel) rfl rfl (Nat.le_of_ble_eq_true rfl) dX10_init_51 ?_
  clear hP hD hS
  intro H locs hP hD hS
  replace hP : va_P (dC, dI) vwCl [(h0, .inr (10, [.ref qt, .null, .null, .null, .null, .ref q_1, .ref q_2, .ref q_3, .ref q_4, .ref q_5, .int 0, .int 0, .int 0, .int 0, .int 0, .int 0, .int 0, .int 0, .int 0])), (qh, .inr (2, fsH))] H := hP
  replace hD : va_D A [(h0, .inr (10, [.ref qt, .null, .null, .null, .null, .ref q_1, .ref q_2, .ref q_3, .ref q_4, .ref q_5, .int 0, .int 0, .int 0, .int 0, .int 0, .int 0, .int 0, .int 0, .int 0])), (qh, .inr (2, fsH))] := hD
  refine lv_aload_n hx hb dX10_init_54 rfl (lv_at hl 0 rfl) ?_
  refine lv_aload_n hx hb dX10_init_55 rfl (lv_at hl 2 rfl) ?_
  refine va_putF (D := (dC, dI)) (ci := 10) (v := .ref qh) (ty := .object "ClassMill$Heads") (C := RX10) (T := TX10) (N := 19) hx hb hts uX10_init_X10 tyX10 tyX10_ok nmX10 hown hK hP hD hS 0 rfl rfl 1 (by decide) (hts (.fieldLink RX10 35 "ClassMill$Values" "heads" "LClassMill$Heads;") (by decide +kernel)) (fun _ h9 => h9) rfl hin rfl (by decide +kernel) rfl rfl (Nat.le_of_ble_eq_true rfl) dX10_init_56 ?_
  clear hP hD hS
  intro H locs hP hD hS
  replace hP : va_P (dC, dI) vwCl [(h0, .inr (10, [.ref qt, .ref qh, .null, .null, .null, .ref q_1, .ref q_2, .ref q_3, .ref q_4, .ref q_5, .int 0, .int 0, .int 0, .int 0, .int 0, .int 0, .int 0, .int 0, .int 0])), (qh, .inr (2, fsH))] H := hP
  replace hD : va_D A [(h0, .inr (10, [.ref qt, .ref qh, .null, .null, .null, .ref q_1, .ref q_2, .ref q_3, .ref q_4, .ref q_5, .int 0, .int 0, .int 0, .int 0, .int 0, .int 0, .int 0, .int 0, .int 0])), (qh, .inr (2, fsH))] := hD
  refine lv_aload_n hx hb dX10_init_59 rfl (lv_at hl 0 rfl) ?_
  refine lv_aload_n hx hb dX10_init_60 rfl (lv_at hl 2 rfl) ?_
  refine va_get (D := (dC, dI)) (ci := 2) (v := .ref qk) (C := RX2) (T := TX2) (N := 21) hx hb hts uX10_init_X2 hown hK hP 1 rfl rfl 1 (by decide) (hts (.fieldLink RX10 39 "ClassMill$Heads" "kin" "LClassMill$Kin;") (by decide +kernel)) (fun _ h9 => h9) hHk dX10_init_61 ?_
  refine va_putF (D := (dC, dI)) (ci := 10) (v := .ref qk) (ty := .object "ClassMill$Kin") (C := RX10) (T := TX10) (N := 19) hx hb hts uX10_init_X10 tyX10 tyX10_ok nmX10 hown hK hP hD hS 0 rfl rfl 2 (by decide) (hts (.fieldLink RX10 45 "ClassMill$Values" "kin" "LClassMill$Kin;") (by decide +kernel)) (fun _ h9 => h9) rfl hin rfl (by decide +kernel) rfl rfl (Nat.le_of_ble_eq_true rfl) dX10_init_64 ?_
  clear hP hD hS
  intro H locs hP hD hS
  replace hP : va_P (dC, dI) vwCl [(h0, .inr (10, [.ref qt, .ref qh, .ref qk, .null, .null, .ref q_1, .ref q_2, .ref q_3, .ref q_4, .ref q_5, .int 0, .int 0, .int 0, .int 0, .int 0, .int 0, .int 0, .int 0, .int 0])), (qh, .inr (2, fsH))] H := hP
  replace hD : va_D A [(h0, .inr (10, [.ref qt, .ref qh, .ref qk, .null, .null, .ref q_1, .ref q_2, .ref q_3, .ref q_4, .ref q_5, .int 0, .int 0, .int 0, .int 0, .int 0, .int 0, .int 0, .int 0, .int 0])), (qh, .inr (2, fsH))] := hD
  refine lv_aload_n hx hb dX10_init_67 rfl (lv_at hl 0 rfl) ?_
  refine lv_aload_n hx hb dX10_init_68 rfl (lv_at hl 3 rfl) ?_
  refine va_putF (D := (dC, dI)) (ci := 10) (v := .ref qc) (ty := .object "ClassMill$Code") (C := RX10) (T := TX10) (N := 19) hx hb hts uX10_init_X10 tyX10 tyX10_ok nmX10 hown hK hP hD hS 0 rfl rfl 3 (by decide) (hts (.fieldLink RX10 46 "ClassMill$Values" "code" "LClassMill$Code;") (by decide +kernel)) (fun _ h9 => h9) rfl hin rfl (by decide +kernel) rfl rfl (Nat.le_of_ble_eq_true rfl) dX10_init_69 ?_
  clear hP hD hS
  intro H locs hP hD hS
  replace hP : va_P (dC, dI) vwCl [(h0, .inr (10, [.ref qt, .ref qh, .ref qk, .ref qc, .null, .ref q_1, .ref q_2, .ref q_3, .ref q_4, .ref q_5, .int 0, .int 0, .int 0, .int 0, .int 0, .int 0, .int 0, .int 0, .int 0])), (qh, .inr (2, fsH))] H := hP
  replace hD : va_D A [(h0, .inr (10, [.ref qt, .ref qh, .ref qk, .ref qc, .null, .ref q_1, .ref q_2, .ref q_3, .ref q_4, .ref q_5, .int 0, .int 0, .int 0, .int 0, .int 0, .int 0, .int 0, .int 0, .int 0])), (qh, .inr (2, fsH))] := hD
  refine lv_aload_n hx hb dX10_init_72 rfl (lv_at hl 0 rfl) ?_
  refine lv_aload hx hb dX10_init_73 (lv_at hl 4 rfl) ?_
  refine va_putF (D := (dC, dI)) (ci := 10) (v := .ref qp) (ty := .object "ClassMill$Pool") (C := RX10) (T := TX10) (N := 19) hx hb hts uX10_init_X10 tyX10 tyX10_ok nmX10 hown hK hP hD hS 0 rfl rfl 4 (by decide) (hts (.fieldLink RX10 50 "ClassMill$Values" "pool" "LClassMill$Pool;") (by decide +kernel)) (fun _ h9 => h9) rfl hin rfl (by decide +kernel) rfl rfl (Nat.le_of_ble_eq_true rfl) dX10_init_75 ?_
  clear hP hD hS
  intro H locs hP hD hS
  replace hP : va_P (dC, dI) vwCl [(h0, .inr (10, [.ref qt, .ref qh, .ref qk, .ref qc, .ref qp, .ref q_1, .ref q_2, .ref q_3, .ref q_4, .ref q_5, .int 0, .int 0, .int 0, .int 0, .int 0, .int 0, .int 0, .int 0, .int 0])), (qh, .inr (2, fsH))] H := hP
  replace hD : va_D A [(h0, .inr (10, [.ref qt, .ref qh, .ref qk, .ref qc, .ref qp, .ref q_1, .ref q_2, .ref q_3, .ref q_4, .ref q_5, .int 0, .int 0, .int 0, .int 0, .int 0, .int 0, .int 0, .int 0, .int 0])), (qh, .inr (2, fsH))] := hD
  have hP9 := hP.sub (ws' := [(qh, .inr (2, fsH))]) [1] rfl
  have hD9 := hD.sub (ws' := [(qh, .inr (2, fsH))]) [1] (by decide) rfl
  have hK9 := hK.sub (tys' := []) [] rfl
  exact W.vret hx hb hr (fun t ht hW => ⟨⟨(), rfl, trivial, by rw [ht]; exact hP9, va_K.moved hW.alike hK9, hD9⟩, hS.F ht⟩) hS.2.2 dX10_init_78
set_option maxHeartbeats 4000000 in
set_option maxRecDepth 100000 in
/-- Bodies(text, heads) -/
theorem ct_bod (l : Launch) (dC : Nat → ClassId) (dI : Nat → Nat → Nat) (sz : Nat) (h0 qt qh qk : Nat) (fsH : List Value) (hHk : fsH[1]? = some (.ref qk)) : Met l yX0_init wsX0_init ({ frames := 2, cells := 21, slots := 17553, locals := 36 }) (va_Pc [.ref h0, .ref qt, .ref qh] (fun U => U.heap.size = sz ∧ va_P (dC, dI) vwCl [(h0, .inr (0, [.null, .null, .null, .null, .null, .null, .null, .int 0, .int 0, .int 0, .int 0, .null, .int 0])), (qh, .inr (2, fsH))] U.heap ∧ va_K (dC, dI) vwCl [] U ∧ va_D (fun _ => True) [(h0, .inr (0, [.null, .null, .null, .null, .null, .null, .null, .int 0, .int 0, .int 0, .int 0, .null, .int 0])), (qh, .inr (2, fsH))] ∧ va_Nw (.methodLinkNest RX0 15 yX1_init "ClassMill") U ∧ pb_AB U)) (va_Qv (fun (u : Nat × Nat × Nat × Nat × Nat) => match u with | (qo1, qo2, qo3, qo4, qo5) => True) (fun (u : Nat × Nat × Nat × Nat × Nat) (t : State) => match u with | (qo1, qo2, qo3, qo4, qo5) => va_P (dC, dI) vwCl [(h0, .inr (0, [.ref qt, .ref qh, .ref qk, .ref qo1, .ref qo2, .ref qo3, .ref qo4, .int 0, .int 0, .int 0, .int 0, .ref qo5, .int 0])), (qh, .inr (2, fsH))] t.heap ∧ va_K (dC, dI) vwCl [] t ∧ va_D (va_A [(h0, .inr (0, [.null, .null, .null, .null, .null, .null, .null, .int 0, .int 0, .int 0, .int 0, .null, .int 0])), (qh, .inr (2, fsH))] sz) [(h0, .inr (0, [.ref qt, .ref qh, .ref qk, .ref qo1, .ref qo2, .ref qo3, .ref qo4, .int 0, .int 0, .int 0, .int 0, .ref qo5, .int 0])), (qh, .inr (2, fsH))]) (va_A [(h0, .inr (0, [.null, .null, .null, .null, .null, .null, .null, .int 0, .int 0, .int 0, .int 0, .null, .int 0])), (qh, .inr (2, fsH))] sz)) 21 17553 (va_A [(h0, .inr (0, [.null, .null, .null, .null, .null, .null, .null, .int 0, .int 0, .int 0, .int 0, .null, .int 0])), (qh, .inr (2, fsH))] sz) := by
  refine Met.ofW (cc := cX0_init) (maxL := 3) (ret := none) (by decide) rfl ?_
  intro p e s m args below meth c s₁ B hml hv
  obtain ⟨rfl, hsz, hP, hK, hD0, hN_X0_15, hO_B⟩ := hv
  have hx := B.exec
  have hb := B.bytes
  have hr := B.returns
  have hts := atoms_spec (ws := wsX0_init) B.pre
  have hown : s.vm.findClass RX0 = some m.cls := findClass_of_methodNamed B.named
  have hlocks := B.notSynchronized
  have hin : meth.name = "<init>" := (name_of_methodNamed B.named B.method).1
  subst hsz
  have hD := hD0.self (sz := s.heap.size)
  generalize hAe : va_A [(h0, .inr (0, [.null, .null, .null, .null, .null, .null, .null, .int 0, .int 0, .int 0, .int 0, .null, .int 0])), (qh, .inr (2, fsH))] s.heap.size = A at hD  ⊢
  have hA : ∀ q : Nat, s.heap.size ≤ q → A q := fun q h => by rw [← hAe]; exact Or.inr h
  have hP : va_P (dC, dI) vwCl [(h0, .inr (0, [.null, .null, .null, .null, .null, .null, .null, .int 0, .int 0, .int 0, .int 0, .null, .int 0])), (qh, .inr (2, fsH))] s.heap := hP
  have hl := lv_entry ([.ref h0, .ref qt, .ref qh]) (n := 3) (Nat.le_of_ble_eq_true rfl)
  rw [lg_entry_eq]
  generalize (lg_sl ([.ref h0, .ref qt, .ref qh]) ++ List.replicate (3 - (lg_sl ([.ref h0, .ref qt, .ref qh])).length) Slot.unset).toArray = ls at hl ⊢
  have hl : lv_has ls 3 [(0, .ref h0), (1, .ref qt), (2, .ref qh)] := hl
  obtain ⟨H, hH⟩ : ∃ H : Heap, s.heap = H := ⟨_, rfl⟩
  rw [hH] at hP ⊢
  have hS : va_S A s.heap H [] := by rw [← hH]; exact va_S.rf
  obtain ⟨locs, hlo⟩ : ∃ locs : List Loc, locs = [] := ⟨_, rfl⟩
  rw [← hlo] at hS ⊢
  refine lv_aload_n hx hb dX0_init_0 rfl (lv_at hl 0 rfl) ?_
  refine W.objInit hx hb hown (hts (.methodLink RX0 7 objectInit) (by decide +kernel)) (hts (.instanceMethod objectInit) (by decide +kernel)) (hts (.code objectInit ⟨#[0xb1]⟩ 1 none) (by decide +kernel)) rfl (by rw [hml]; exact hl.1) rfl dX0_init_1 (Nat.le_of_ble_eq_true rfl) (Nat.le_of_ble_eq_true rfl) ?_
  refine W.eq (g2 := F0 m 4 ls []) rfl ?_
  refine lv_aload_n hx hb dX0_init_4 rfl (lv_at hl 0 rfl) ?_
  refine va_new (ci := 1) (fs := [.null, .int 0, .null, .int 0, .int 0, .null, .null, .int 0, .int 0, .null, .int 0, .null, .null, .null, .int 0, .int 0]) (C := RX1) (T := TX1) (N := 16) hx hb hts uX0_init_X1 tyX1 tyX1_ok hown (hts (.classLink RX0 13 RX1) (by decide +kernel)) (hts (.instantiable RX1 16) (by decide +kernel)) (hts (.initialized RX1) (by decide +kernel)) hK hP hD hS hA rfl (fun j hj => by rcases (show j = 0 ∨ j = 1 ∨ j = 2 ∨ j = 3 ∨ j = 4 ∨ j = 5 ∨ j = 6 ∨ j = 7 ∨ j = 8 ∨ j = 9 ∨ j = 10 ∨ j = 11 ∨ j = 12 ∨ j = 13 ∨ j = 14 ∨ j = 15 by omega) with rfl | rfl | rfl | rfl | rfl | rfl | rfl | rfl | rfl | rfl | rfl | rfl | rfl | rfl | rfl | rfl <;> rfl) (Nat.le_of_ble_eq_true rfl) (Nat.le_of_ble_eq_true rfl) dX0_init_5 ?_
  clear hP hD hS
  intro q_1 H hP hD hS
  refine W.widen (k := 1) (n := 16) (Nat.le_of_ble_eq_true rfl) (Nat.le_of_ble_eq_true rfl) ?_
  replace hP : va_P (dC, dI) vwCl [(h0, .inr (0, [.null, .null, .null, .null, .null, .null, .null, .int 0, .int 0, .int 0, .int 0, .null, .int 0])), (qh, .inr (2, fsH)), (q_1, .inr (1, [.null, .int 0, .null, .int 0, .int 0, .null, .null, .int 0, .int 0, .null, .int 0, .null, .null, .null, .int 0, .int 0]))] H := hP
  replace hD : va_D A [(h0, .inr (0, [.null, .null, .null, .null, .null, .null, .null, .int 0, .int 0, .int 0, .int 0, .null, .int 0])), (qh, .inr (2, fsH)), (q_1, .inr (1, [.null, .int 0, .null, .int 0, .int 0, .null, .null, .int 0, .int 0, .null, .int 0, .null, .null, .null, .int 0, .int 0]))] := hD
  refine lv_dup hx hb dX0_init_8 rfl ?_
  have hPc := hP.sub (ws' := [(q_1, .inr (1, [.null, .int 0, .null, .int 0, .int 0, .null, .null, .int 0, .int 0, .null, .int 0, .null, .null, .null, .int 0, .int 0]))]) [2] rfl
  have hDc := hD.sub (ws' := [(q_1, .inr (1, [.null, .int 0, .null, .int 0, .int 0, .null, .null, .int 0, .int 0, .null, .int 0, .null, .null, .null, .int 0, .int 0]))]) [2] (by decide) rfl
  have hKc := hK.sub (tys' := []) [] rfl
  have hFc := va_free (wc := [(q_1, .inr (1, [.null, .int 0, .null, .int 0, .int 0, .null, .null, .int 0, .int 0, .null, .int 0, .null, .null, .null, .int 0, .int 0]))]) hD hS hA [2] rfl
  refine va_callv (va_runIN (As := []) (rest := [.ref q_1, .ref h0]) ⟨hx, hb, hml, hown, hts⟩ (ct_code l dC dI H.size q_1) ⟨va_cnB 0 hts gX0_init_X1_init_n15 rfl rfl rfl hN_X0_15 (hts (.initialized RX1) (by decide +kernel)) (by decide +kernel) ⟨Nat.le_of_ble_eq_true rfl, Nat.le_of_ble_eq_true rfl⟩, rfl, hts (.instanceMethod yX1_init) (by decide +kernel)⟩ ⟨fun a U g mk q => by obtain ⟨q0, q1, qP, qK, qD⟩ := q; exact ⟨q0, q1, qP, va_K.moved (u := U) (U := U.calling g mk a) (Vm.Alike.refl U.vm) qK, qD⟩, fun U hU hW => ⟨rfl, by rw [hU], by rw [hU]; exact hPc, va_K.moved hW.alike hKc, hDc.weaken (fun _ _ _ _ => trivial)⟩⟩ rfl rfl hl.1 rfl (lv_room (Nat.le_of_ble_eq_true rfl)) dX0_init_9 ⟨Nat.le_of_ble_eq_true rfl, Nat.le_of_ble_eq_true rfl⟩) hS (fun q _ h => hFc q h) hFc ?_
  clear hS
  intro u t H1 locs ht hvm hw hB hz1 hk1 hS
  obtain ⟨⟩ := u
  obtain ⟨hP1, hK1, hD1⟩ := hB
  rw [ht] at hP1
  have hK1 := va_K.moved hvm.symm hK1
  try dsimp only at hw
  have hPD := va_join (wr := [(h0, .inr (0, [.null, .null, .null, .null, .null, .null, .null, .int 0, .int 0, .int 0, .int 0, .null, .int 0])), (qh, .inr (2, fsH))]) (w1 := []) hP hD [2] [0, 1] rfl rfl (by decide) (by decide) hk1 hFc hP1 hD1
  clear hP hD
  obtain ⟨hP, hD⟩ := hPD
  replace hK := (hK.sub (tys' := []) [] rfl).app hK1
  clear hPc hDc hKc hFc hP1 hK1 hD1 hz1 hk1 ht hvm
  generalize H1 = H at hP hS ⊢
  replace hP : va_P (dC, dI) vwCl [(h0, .inr (0, [.null, .null, .null, .null, .null, .null, .null, .int 0, .int 0, .int 0, .int 0, .null, .int 0])), (qh, .inr (2, fsH))] H := hP
  replace hD : va_D A [(h0, .inr (0, [.null, .null, .null, .null, .null, .null, .null, .int 0, .int 0, .int 0, .int 0, .null, .int 0])), (qh, .inr (2, fsH))] := hD
  replace hK : va_K (dC, dI) vwCl [] s := hK
  refine W.widen (k := 9) (n := 8516) (Nat.le_of_ble_eq_true rfl) (Nat.le_of_ble_eq_true rfl) ?_
  refine va_putF (D := (dC, dI)) (ci := 0) (v := .ref q_1) (ty := .object "ClassMill$Code") (C := RX0) (T := TX0) (N := 13) hx hb hts uX0_init_X0 tyX0 tyX0_ok nmX0 hown hK hP hD hS 0 rfl rfl 4 (by decide) (hts (.fieldLink RX0 16 "ClassMill$Bodies" "code" "LClassMill$Code;") (by decide +kernel)) (fun _ h9 => h9) rfl hin rfl (by decide +kernel) rfl rfl (Nat.le_of_ble_eq_true rfl) dX0_init_12 ?_
  clear hP hD hS
  intro H locs hP hD hS
  replace hP : va_P (dC, dI) vwCl [(h0, .inr (0, [.null, .null, .null, .null, .ref q_1, .null, .null, .int 0, .int 0, .int 0, .int 0, .null, .int 0])), (qh, .inr (2, fsH))] H := hP
  replace hD : va_D A [(h0, .inr (0, [.null, .null, .null, .null, .ref q_1, .null, .null, .int 0, .int 0, .int 0, .int 0, .null, .int 0])), (qh, .inr (2, fsH))] := hD
  refine lv_aload_n hx hb dX0_init_15 rfl (lv_at hl 0 rfl) ?_
  refine lv_bipush (v := 8) hx hb dX0_init_16 (by decide) ?_
  refine pw_newB hx hb hown (hts (.classLink RX0 24 "[B") (by decide +kernel)) hO_B hK hP hD hS hA (n := 8) (N' := 8) (by decide) (by decide) (by decide) (Nat.le_of_ble_eq_true rfl) (Nat.le_of_ble_eq_true rfl) dX0_init_18 ?_
  clear hP hD hS
  intro q_2 H hP hD hS
  refine W.widen (k := 10) (n := 8524) (Nat.le_of_ble_eq_true rfl) (Nat.le_of_ble_eq_true rfl) ?_
  refine va_putF (D := (dC, dI)) (ci := 0) (v := .ref q_2) (ty := .array (.array .byte)) (C := RX0) (T := TX0) (N := 13) hx hb hts uX0_init_X0 tyX0 tyX0_ok nmX0 hown hK hP hD hS 0 rfl rfl 6 (by decide) (hts (.fieldLink RX0 26 "ClassMill$Bodies" "images" "[[B") (by decide +kernel)) (fun _ h9 => h9) rfl hin rfl (by decide +kernel) rfl rfl (Nat.le_of_ble_eq_true rfl) dX0_init_21 ?_
  clear hP hD hS
  intro H locs hP hD hS
  replace hP : va_P (dC, dI) vwCl [(h0, .inr (0, [.null, .null, .null, .null, .ref q_1, .null, .ref q_2, .int 0, .int 0, .int 0, .int 0, .null, .int 0])), (qh, .inr (2, fsH))] H := hP
  replace hD : va_D A [(h0, .inr (0, [.null, .null, .null, .null, .ref q_1, .null, .ref q_2, .int 0, .int 0, .int 0, .int 0, .null, .int 0])), (qh, .inr (2, fsH))] := hD
  refine lv_aload_n hx hb dX0_init_24 rfl (lv_at hl 0 rfl) ?_
  refine lv_sipush (v := 500) hx hb dX0_init_25 (by decide) ?_
  refine va_newa (atype := .int) (ty := .int) (N' := 500) (a0 := (500, .inl (fun _ => 0))) hx hb (hts (.arrayClass .int) (by decide +kernel)) rfl hK hP hD hS hA (fun _ => rfl) (by decide) (by decide) (by decide) (Nat.le_of_ble_eq_true rfl) (Nat.le_of_ble_eq_true rfl) dX0_init_28 ?_
  clear hK hP hD hS
  intro q_3 cq_3 H hK hP hD hS
  refine W.widen (k := 11) (n := 9024) (Nat.le_of_ble_eq_true rfl) (Nat.le_of_ble_eq_true rfl) ?_
  replace hP := hP.sub (ws' := [(h0, .inr (0, [.null, .null, .null, .null, .ref q_1, .null, .ref q_2, .int 0, .int 0, .int 0, .int 0, .null, .int 0])), (qh, .inr (2, fsH))]) [0, 1] rfl
  replace hD := hD.sub (ws' := [(h0, .inr (0, [.null, .null, .null, .null, .ref q_1, .null, .ref q_2, .int 0, .int 0, .int 0, .int 0, .null, .int 0])), (qh, .inr (2, fsH))]) [0, 1] (by decide) rfl
  replace hK := hK.sub (tys' := []) [] rfl
  refine va_putF (D := (dC, dI)) (ci := 0) (v := .ref q_3) (ty := .array .int) (C := RX0) (T := TX0) (N := 13) hx hb hts uX0_init_X0 tyX0 tyX0_ok nmX0 hown hK hP hD hS 0 rfl rfl 11 (by decide) (hts (.fieldLink RX0 30 "ClassMill$Bodies" "breaks" "[I") (by decide +kernel)) (fun _ h9 => h9) rfl hin rfl (by decide +kernel) rfl rfl (Nat.le_of_ble_eq_true rfl) dX0_init_30 ?_
  clear hP hD hS
  intro H locs hP hD hS
  replace hP : va_P (dC, dI) vwCl [(h0, .inr (0, [.null, .null, .null, .null, .ref q_1, .null, .ref q_2, .int 0, .int 0, .int 0, .int 0, .ref q_3, .int 0])), (qh, .inr (2, fsH))] H := hP
  replace hD : va_D A [(h0, .inr (0, [.null, .null, .null, .null, .ref q_1, .null, .ref q_2, .int 0, .int 0, .int 0, .int 0, .ref q_3, .int 0])), (qh, .inr (2, fsH))] := hD
  refine lv_aload_n hx hb dX0_init_33 rfl (lv_at hl 0 rfl) ?_
  refine lv_aload_n hx hb dX0_init_34 rfl (lv_at hl 1 rfl) ?_
  refine va_putF (D := (dC, dI)) (ci := 0) (v := .ref qt) (ty := .object "ClassMill$Text") (C := RX0) (T := TX0) (N := 13) hx hb hts uX0_init_X0 tyX0 tyX0_ok nmX0 hown hK hP hD hS 0 rfl rfl 0 (by decide) (hts (.fieldLink RX0 34 "ClassMill$Bodies" "text" "LClassMill$Text;") (by decide +kernel)) (fun _ h9 => h9) rfl hin rfl (by decide +kernel) rfl rfl (Nat.le_of_ble_eq_true rfl) dX0_init_35 ?_
  clear hP hD hS
  intro H locs hP hD hS
  replace hP : va_P (dC, dI) vwCl [(h0, .inr (0, [.ref qt, .null, .null, .null, .ref q_1, .null, .ref q_2, .int 0, .int 0, .int 0, .int 0, .ref q_3, .int 0])), (qh, .inr (2, fsH))] H := hP
  replace hD : va_D A [(h0, .inr (0, [.ref qt, .null, .null, .null, .ref q_1, .null, .ref q_2, .int 0, .int 0, .int 0, .int 0, .ref q_3, .int 0])), (qh, .inr (2, fsH))] := hD
  refine lv_aload_n hx hb dX0_init_38 rfl (lv_at hl 0 rfl) ?_
  refine lv_aload_n hx hb dX0_init_39 rfl (lv_at hl 2 rfl) ?_
  refine va_putF (D := (dC, dI)) (ci := 0) (v := .ref qh) (ty := .object "ClassMill$Heads") (C := RX0) (T := TX0) (N := 13) hx hb hts uX0_init_X0 tyX0 tyX0_ok nmX0 hown hK hP hD hS 0 rfl rfl 1 (by decide) (hts (.fieldLink RX0 38 "ClassMill$Bodies" "heads" "LClassMill$Heads;") (by decide +kernel)) (fun _ h9 => h9) rfl hin rfl (by decide +kernel) rfl rfl (Nat.le_of_ble_eq_true rfl) dX0_init_40 ?_
  clear hP hD hS
  intro H locs hP hD hS
  replace hP : va_P (dC, dI) vwCl [(h0, .inr (0, [.ref qt, .ref qh, .null, .null, .ref q_1, .null, .ref q_2, .int 0, .int 0, .int 0, .int 0, .ref q_3, .int 0])), (qh, .inr (2, fsH))] H := hP
  replace hD : va_D A [(h0, .inr (0, [.ref qt, .ref qh, .null, .null, .ref q_1, .null, .ref q_2, .int 0, .int 0, .int 0, .int 0, .ref q_3, .int 0])), (qh, .inr (2, fsH))] := hD
  refine lv_aload_n hx hb dX0_init_43 rfl (lv_at hl 0 rfl) ?_
  refine lv_aload_n hx hb dX0_init_44 rfl (lv_at hl 2 rfl) ?_
  refine va_get (D := (dC, dI)) (ci := 2) (v := .ref qk) (C := RX2) (T := TX2) (N := 21) hx hb hts uX0_init_X2 hown hK hP 1 rfl rfl 1 (by decide) (hts (.fieldLink RX0 42 "ClassMill$Heads" "kin" "LClassMill$Kin;") (by decide +kernel)) (fun _ h9 => h9) hHk dX0_init_45 ?_
  refine va_putF (D := (dC, dI)) (ci := 0) (v := .ref qk) (ty := .object "ClassMill$Kin") (C := RX0) (T := TX0) (N := 13) hx hb hts uX0_init_X0 tyX0 tyX0_ok nmX0 hown hK hP hD hS 0 rfl rfl 2 (by decide) (hts (.fieldLink RX0 46 "ClassMill$Bodies" "kin" "LClassMill$Kin;") (by decide +kernel)) (fun _ h9 => h9) rfl hin rfl (by decide +kernel) rfl rfl (Nat.le_of_ble_eq_true rfl) dX0_init_48 ?_
  clear hP hD hS
  intro H locs hP hD hS
  replace hP : va_P (dC, dI) vwCl [(h0, .inr (0, [.ref qt, .ref qh, .ref qk, .null, .ref q_1, .null, .ref q_2, .int 0, .int 0, .int 0, .int 0, .ref q_3, .int 0])), (qh, .inr (2, fsH))] H := hP
  replace hD : va_D A [(h0, .inr (0, [.ref qt, .ref qh, .ref qk, .null, .ref q_1, .null, .ref q_2, .int 0, .int 0, .int 0, .int 0, .ref q_3, .int 0])), (qh, .inr (2, fsH))] := hD
  refine lv_aload_n hx hb dX0_init_51 rfl (lv_at hl 0 rfl) ?_
  refine va_new (ci := 6) (fs := [.null, .null, .null, .null, .int 0, .int 0, .null, .int 0]) (C := RX6) (T := TX6) (N := 8) hx hb hts uX0_init_X6 tyX6 tyX6_ok hown (hts (.classLink RX0 47 RX6) (by decide +kernel)) (hts (.instantiable RX6 8) (by decide +kernel)) (hts (.initialized RX6) (by decide +kernel)) hK hP hD hS hA rfl (fun j hj => by rcases (show j = 0 ∨ j = 1 ∨ j = 2 ∨ j = 3 ∨ j = 4 ∨ j = 5 ∨ j = 6 ∨ j = 7 by omega) with rfl | rfl | rfl | rfl | rfl | rfl | rfl | rfl <;> rfl) (Nat.le_of_ble_eq_true rfl) (Nat.le_of_ble_eq_true rfl) dX0_init_52 ?_
  clear hP hD hS
  intro q_4 H hP hD hS
  refine W.widen (k := 12) (n := 9032) (Nat.le_of_ble_eq_true rfl) (Nat.le_of_ble_eq_true rfl) ?_
  replace hP : va_P (dC, dI) vwCl [(h0, .inr (0, [.ref qt, .ref qh, .ref qk, .null, .ref q_1, .null, .ref q_2, .int 0, .int 0, .int 0, .int 0, .ref q_3, .int 0])), (qh, .inr (2, fsH)), (q_4, .inr (6, [.null, .null, .null, .null, .int 0, .int 0, .null, .int 0]))] H := hP
  replace hD : va_D A [(h0, .inr (0, [.ref qt, .ref qh, .ref qk, .null, .ref q_1, .null, .ref q_2, .int 0, .int 0, .int 0, .int 0, .ref q_3, .int 0])), (qh, .inr (2, fsH)), (q_4, .inr (6, [.null, .null, .null, .null, .int 0, .int 0, .null, .int 0]))] := hD
  refine lv_dup hx hb dX0_init_55 rfl ?_
  refine lv_aload_n hx hb dX0_init_56 rfl (lv_at hl 1 rfl) ?_
  refine lv_aload_n hx hb dX0_init_57 rfl (lv_at hl 2 rfl) ?_
  have hPc := hP.sub (ws' := [(q_4, .inr (6, [.null, .null, .null, .null, .int 0, .int 0, .null, .int 0]))]) [2] rfl
  have hDc := hD.sub (ws' := [(q_4, .inr (6, [.null, .null, .null, .null, .int 0, .int 0, .null, .int 0]))]) [2] (by decide) rfl
  have hKc := hK.sub (tys' := []) [] rfl
  have hFc := va_free (wc := [(q_4, .inr (6, [.null, .null, .null, .null, .int 0, .int 0, .null, .int 0]))]) hD hS hA [2] rfl
  refine va_callv (va_runI (As := [.ref qt, .ref qh]) (rest := [.ref q_4, .ref h0]) ⟨hx, hb, hml, hown, hts⟩ (ct_pool l dC dI H.size q_4 qt qh) (cwI 2 hts gX0_init_X6_init rfl rfl rfl (hts (.initialized RX6) (by decide +kernel)) (hts (.methodLink RX0 49 yX6_init) (by decide +kernel)) (hts (.instanceMethod yX6_init) (by decide +kernel)) rfl (by decide +kernel) ⟨Nat.le_of_ble_eq_true rfl, Nat.le_of_ble_eq_true rfl⟩) ⟨fun a U g mk q => by obtain ⟨q0, q1, qP, qK, qD⟩ := q; exact ⟨q0, q1, qP, va_K.moved (u := U) (U := U.calling g mk a) (Vm.Alike.refl U.vm) qK, qD⟩, fun U hU hW => ⟨rfl, by rw [hU], by rw [hU]; exact hPc, va_K.moved hW.alike hKc, hDc.weaken (fun _ _ _ _ => trivial)⟩⟩ rfl rfl hl.1 rfl (lv_room (Nat.le_of_ble_eq_true rfl)) dX0_init_58 ⟨Nat.le_of_ble_eq_true rfl, Nat.le_of_ble_eq_true rfl⟩) hS (fun q _ h => hFc q h) hFc ?_
  clear hS
  intro u t H1 locs ht hvm hw hB hz1 hk1 hS
  obtain ⟨⟩ := u
  obtain ⟨hP1, hK1, hD1⟩ := hB
  rw [ht] at hP1
  have hK1 := va_K.moved hvm.symm hK1
  try dsimp only at hw
  have hPD := va_join (wr := [(h0, .inr (0, [.ref qt, .ref qh, .ref qk, .null, .ref q_1, .null, .ref q_2, .int 0, .int 0, .int 0, .int 0, .ref q_3, .int 0])), (qh, .inr (2, fsH))]) (w1 := []) hP hD [2] [0, 1] rfl rfl (by decide) (by decide) hk1 hFc hP1 hD1
  clear hP hD
  obtain ⟨hP, hD⟩ := hPD
  replace hK := (hK.sub (tys' := []) [] rfl).app hK1
  clear hPc hDc hKc hFc hP1 hK1 hD1 hz1 hk1 ht hvm
  generalize H1 = H at hP hS ⊢
  replace hP : va_P (dC, dI) vwCl [(h0, .inr (0, [.ref qt, .ref qh, .ref qk, .null, .ref q_1, .null, .ref q_2, .int 0, .int 0, .int 0, .int 0, .ref q_3, .int 0])), (qh, .inr (2, fsH))] H := hP
  replace hD : va_D A [(h0, .inr (0, [.ref qt, .ref qh, .ref qk, .null, .ref q_1, .null, .ref q_2, .int 0, .int 0, .int 0, .int 0, .ref q_3, .int 0])), (qh, .inr (2, fsH))] := hD
  replace hK : va_K (dC, dI) vwCl [] s := hK
  refine W.widen (k := 15) (n := 15434) (Nat.le_of_ble_eq_true rfl) (Nat.le_of_ble_eq_true rfl) ?_
  refine va_putF (D := (dC, dI)) (ci := 0) (v := .ref q_4) (ty := .object "ClassMill$Pool") (C := RX0) (T := TX0) (N := 13) hx hb hts uX0_init_X0 tyX0 tyX0_ok nmX0 hown hK hP hD hS 0 rfl rfl 3 (by decide) (hts (.fieldLink RX0 52 "ClassMill$Bodies" "pool" "LClassMill$Pool;") (by decide +kernel)) (fun _ h9 => h9) rfl hin rfl (by decide +kernel) rfl rfl (Nat.le_of_ble_eq_true rfl) dX0_init_61 ?_
  clear hP hD hS
  intro H locs hP hD hS
  replace hP : va_P (dC, dI) vwCl [(h0, .inr (0, [.ref qt, .ref qh, .ref qk, .ref q_4, .ref q_1, .null, .ref q_2, .int 0, .int 0, .int 0, .int 0, .ref q_3, .int 0])), (qh, .inr (2, fsH))] H := hP
  replace hD : va_D A [(h0, .inr (0, [.ref qt, .ref qh, .ref qk, .ref q_4, .ref q_1, .null, .ref q_2, .int 0, .int 0, .int 0, .int 0, .ref q_3, .int 0])), (qh, .inr (2, fsH))] := hD
  refine lv_aload_n hx hb dX0_init_64 rfl (lv_at hl 0 rfl) ?_
  refine va_new (ci := 10) (fs := [.null, .null, .null, .null, .null, .null, .null, .null, .null, .null, .int 0, .int 0, .int 0, .int 0, .int 0, .int 0, .int 0, .int 0, .int 0]) (C := RX10) (T := TX10) (N := 19) hx hb hts uX0_init_X10 tyX10 tyX10_ok hown (hts (.classLink RX0 56 RX10) (by decide +kernel)) (hts (.instantiable RX10 19) (by decide +kernel)) (hts (.initialized RX10) (by decide +kernel)) hK hP hD hS hA rfl (fun j hj => by rcases (show j = 0 ∨ j = 1 ∨ j = 2 ∨ j = 3 ∨ j = 4 ∨ j = 5 ∨ j = 6 ∨ j = 7 ∨ j = 8 ∨ j = 9 ∨ j = 10 ∨ j = 11 ∨ j = 12 ∨ j = 13 ∨ j = 14 ∨ j = 15 ∨ j = 16 ∨ j = 17 ∨ j = 18 by omega) with rfl | rfl | rfl | rfl | rfl | rfl | rfl | rfl | rfl | rfl | rfl | rfl | rfl | rfl | rfl | rfl | rfl | rfl | rfl <;> rfl) (Nat.le_of_ble_eq_true rfl) (Nat.le_of_ble_eq_true rfl) dX0_init_65 ?_
  clear hP hD hS
  intro q_5 H hP hD hS
  refine W.widen (k := 16) (n := 15453) (Nat.le_of_ble_eq_true rfl) (Nat.le_of_ble_eq_true rfl) ?_
  replace hP : va_P (dC, dI) vwCl [(h0, .inr (0, [.ref qt, .ref qh, .ref qk, .ref q_4, .ref q_1, .null, .ref q_2, .int 0, .int 0, .int 0, .int 0, .ref q_3, .int 0])), (qh, .inr (2, fsH)), (q_5, .inr (10, [.null, .null, .null, .null, .null, .null, .null, .null, .null, .null, .int 0, .int 0, .int 0, .int 0, .int 0, .int 0, .int 0, .int 0, .int 0]))] H := hP
  replace hD : va_D A [(h0, .inr (0, [.ref qt, .ref qh, .ref qk, .ref q_4, .ref q_1, .null, .ref q_2, .int 0, .int 0, .int 0, .int 0, .ref q_3, .int 0])), (qh, .inr (2, fsH)), (q_5, .inr (10, [.null, .null, .null, .null, .null, .null, .null, .null, .null, .null, .int 0, .int 0, .int 0, .int 0, .int 0, .int 0, .int 0, .int 0, .int 0]))] := hD
  refine lv_dup hx hb dX0_init_68 rfl ?_
  refine lv_aload_n hx hb dX0_init_69 rfl (lv_at hl 1 rfl) ?_
  refine lv_aload_n hx hb dX0_init_70 rfl (lv_at hl 2 rfl) ?_
  refine lv_aload_n hx hb dX0_init_71 rfl (lv_at hl 0 rfl) ?_
  refine va_get (D := (dC, dI)) (ci := 0) (v := .ref q_1) (C := RX0) (T := TX0) (N := 13) hx hb hts uX0_init_X0 hown hK hP 0 rfl rfl 4 (by decide) (hts (.fieldLink RX0 16 "ClassMill$Bodies" "code" "LClassMill$Code;") (by decide +kernel)) (fun _ h9 => h9) rfl dX0_init_72 ?_
  refine lv_aload_n hx hb dX0_init_75 rfl (lv_at hl 0 rfl) ?_
  refine va_get (D := (dC, dI)) (ci := 0) (v := .ref q_4) (C := RX0) (T := TX0) (N := 13) hx hb hts uX0_init_X0 hown hK hP 0 rfl rfl 3 (by decide) (hts (.fieldLink RX0 52 "ClassMill$Bodies" "pool" "LClassMill$Pool;") (by decide +kernel)) (fun _ h9 => h9) rfl dX0_init_76 ?_
  have hPc := hP.sub (ws' := [(q_5, .inr (10, [.null, .null, .null, .null, .null, .null, .null, .null, .null, .null, .int 0, .int 0, .int 0, .int 0, .int 0, .int 0, .int 0, .int 0, .int 0])), (qh, .inr (2, fsH))]) [2, 1] rfl
  have hDc := hD.sub (ws' := [(q_5, .inr (10, [.null, .null, .null, .null, .null, .null, .null, .null, .null, .null, .int 0, .int 0, .int 0, .int 0, .int 0, .int 0, .int 0, .int 0, .int 0])), (qh, .inr (2, fsH))]) [2, 1] (by decide) rfl
  have hKc := hK.sub (tys' := []) [] rfl
  have hFc := va_free (wc := [(q_5, .inr (10, [.null, .null, .null, .null, .null, .null, .null, .null, .null, .null, .int 0, .int 0, .int 0, .int 0, .int 0, .int 0, .int 0, .int 0, .int 0])), (qh, .inr (2, fsH))]) hD hS hA [2, 1] rfl
  refine va_callv (va_runI (As := [.ref qt, .ref qh, .ref q_1, .ref q_4]) (rest := [.ref q_5, .ref h0]) ⟨hx, hb, hml, hown, hts⟩ (ct_val l dC dI H.size q_5 qt qh q_1 q_4 qk fsH hHk) (cwI 4 hts gX0_init_X10_init rfl rfl rfl (hts (.initialized RX10) (by decide +kernel)) (hts (.methodLink RX0 58 yX10_init) (by decide +kernel)) (hts (.instanceMethod yX10_init) (by decide +kernel)) rfl (by decide +kernel) ⟨Nat.le_of_ble_eq_true rfl, Nat.le_of_ble_eq_true rfl⟩) ⟨fun a U g mk q => by obtain ⟨q0, q1, qP, qK, qD⟩ := q; exact ⟨q0, q1, qP, va_K.moved (u := U) (U := U.calling g mk a) (Vm.Alike.refl U.vm) qK, qD⟩, fun U hU hW => ⟨rfl, by rw [hU], by rw [hU]; exact hPc, va_K.moved hW.alike hKc, hDc.weaken (fun _ _ _ _ => trivial)⟩⟩ rfl rfl hl.1 rfl (lv_room (Nat.le_of_ble_eq_true rfl)) dX0_init_79 ⟨Nat.le_of_ble_eq_true rfl, Nat.le_of_ble_eq_true rfl⟩) hS (fun q _ h => hFc q h) hFc ?_
  clear hS
  intro u t H1 locs ht hvm hw hB hz1 hk1 hS
  obtain ⟨⟩ := u
  obtain ⟨hP1, hK1, hD1⟩ := hB
  rw [ht] at hP1
  have hK1 := va_K.moved hvm.symm hK1
  try dsimp only at hw
  have hPD := va_join (wr := [(h0, .inr (0, [.ref qt, .ref qh, .ref qk, .ref q_4, .ref q_1, .null, .ref q_2, .int 0, .int 0, .int 0, .int 0, .ref q_3, .int 0]))]) (w1 := [(qh, .inr (2, fsH))]) hP hD [2, 1] [0] rfl rfl (by decide) (by decide) hk1 hFc hP1 hD1
  clear hP hD
  obtain ⟨hP, hD⟩ := hPD
  replace hK := (hK.sub (tys' := []) [] rfl).app hK1
  clear hPc hDc hKc hFc hP1 hK1 hD1 hz1 hk1 ht hvm
  generalize H1 = H at hP hS ⊢
  replace hP : va_P (dC, dI) vwCl [(h0, .inr (0, [.ref qt, .ref qh, .ref qk, .ref q_4, .ref q_1, .null, .ref q_2, .int 0, .int 0, .int 0, .int 0, .ref q_3, .int 0])), (qh, .inr (2, fsH))] H := hP
  replace hD : va_D A [(h0, .inr (0, [.ref qt, .ref qh, .ref qk, .ref q_4, .ref q_1, .null, .ref q_2, .int 0, .int 0, .int 0, .int 0, .ref q_3, .int 0])), (qh, .inr (2, fsH))] := hD
  replace hK : va_K (dC, dI) vwCl [] s := hK
  refine W.widen (k := 21) (n := 17553) (Nat.le_of_ble_eq_true rfl) (Nat.le_of_ble_eq_true rfl) ?_
  refine va_putF (D := (dC, dI)) (ci := 0) (v := .ref q_5) (ty := .object "ClassMill$Values") (C := RX0) (T := TX0) (N := 13) hx hb hts uX0_init_X0 tyX0 tyX0_ok nmX0 hown hK hP hD hS 0 rfl rfl 5 (by decide) (hts (.fieldLink RX0 61 "ClassMill$Bodies" "values" "LClassMill$Values;") (by decide +kernel)) (fun _ h9 => h9) rfl hin rfl (by decide +kernel) rfl rfl (Nat.le_of_ble_eq_true rfl) dX0_init_82 ?_
  clear hP hD hS
  intro H locs hP hD hS
  replace hP : va_P (dC, dI) vwCl [(h0, .inr (0, [.ref qt, .ref qh, .ref qk, .ref q_4, .ref q_1, .ref q_5, .ref q_2, .int 0, .int 0, .int 0, .int 0, .ref q_3, .int 0])), (qh, .inr (2, fsH))] H := hP
  replace hD : va_D A [(h0, .inr (0, [.ref qt, .ref qh, .ref qk, .ref q_4, .ref q_1, .ref q_5, .ref q_2, .int 0, .int 0, .int 0, .int 0, .ref q_3, .int 0])), (qh, .inr (2, fsH))] := hD
  have hP9 := hP.sub (ws' := [(h0, .inr (0, [.ref qt, .ref qh, .ref qk, .ref q_4, .ref q_1, .ref q_5, .ref q_2, .int 0, .int 0, .int 0, .int 0, .ref q_3, .int 0])), (qh, .inr (2, fsH))]) [0, 1] rfl
  have hD9 := hD.sub (ws' := [(h0, .inr (0, [.ref qt, .ref qh, .ref qk, .ref q_4, .ref q_1, .ref q_5, .ref q_2, .int 0, .int 0, .int 0, .int 0, .ref q_3, .int 0])), (qh, .inr (2, fsH))]) [0, 1] (by decide) rfl
  have hK9 := hK.sub (tys' := []) [] rfl
  exact W.vret hx hb hr (fun t ht hW => ⟨⟨(q_4, q_1, q_5, q_2, q_3), rfl, trivial, by rw [ht]; exact hP9, va_K.moved hW.alike hK9, hD9⟩, hS.F ht⟩) hS.2.2 dX0_init_85
set_option maxHeartbeats 4000000 in
set_option maxRecDepth 100000 in
/-- Space() -/
theorem ct_space (l : Launch) (dC : Nat → ClassId) (dI : Nat → Nat → Nat) (sz : Nat) (h0 : Nat)  : Met l yX7_init wsX7_init ({ frames := 3, cells := 70, slots := 11664, locals := 64 }) (va_Pc [.ref h0] (fun U => U.heap.size = sz ∧ va_P (dC, dI) vwCl [(h0, .inr (7, [.null, .null, .null, .int 0, .int 0, .null, .null, .null]))] U.heap ∧ va_K (dC, dI) vwCl [] U ∧ va_D (fun _ => True) [(h0, .inr (7, [.null, .null, .null, .int 0, .int 0, .null, .null, .null]))] ∧ va_Nw (.methodLinkNest RX7 26 yX3_init "ClassMill") U ∧ va_AO RX3 U)) (va_Qv (fun (u : Nat × Nat × Nat × Nat × Nat × Nat × Nat × Nat × ClassId × (Nat → Int32) × ClassId × (Nat → Int32) × Nat × Nat × Nat × Nat × Nat × Nat × ClassId) => match u with | (qo1, qo2, qo3, qo4, qo5, qo6, qo7, qo8, co1, fo1, co2, go1, qo9, qo10, qo11, qo12, qo13, qo14, co3) => ∀ i, i < 16 → fo1 i = kinF i) (fun (u : Nat × Nat × Nat × Nat × Nat × Nat × Nat × Nat × ClassId × (Nat → Int32) × ClassId × (Nat → Int32) × Nat × Nat × Nat × Nat × Nat × Nat × ClassId) (t : State) => match u with | (qo1, qo2, qo3, qo4, qo5, qo6, qo7, qo8, co1, fo1, co2, go1, qo9, qo10, qo11, qo12, qo13, qo14, co3) => va_P (dC, dI) vwCl [(h0, .inr (7, [.ref qo1, .ref qo2, .ref qo3, .int 0, .int 0, .ref qo4, .ref qo5, .ref qo6])), (qo1, .inr (4, [.ref qo7, .ref qo8])), (qo7, .inl (co1, 16, .inl fo1)), (qo8, .inl (co2, 256, .inl go1)), (qo3, .inr (3, [.ref qo9, .int 0, .int 0, .int 0, .ref qo10, .ref qo11, .ref qo12, .int 0, .int 0, .int 0, .int 0, .ref qo13, .int 0, .ref qo14])), (qo5, .inl (co3, 16, .inl (fun _ => 0)))] t.heap ∧ va_K (dC, dI) vwCl [(co1, .int), (co2, .boolean), (co3, .int)] t ∧ va_D (va_A [(h0, .inr (7, [.null, .null, .null, .int 0, .int 0, .null, .null, .null]))] sz) [(h0, .inr (7, [.ref qo1, .ref qo2, .ref qo3, .int 0, .int 0, .ref qo4, .ref qo5, .ref qo6])), (qo1, .inr (4, [.ref qo7, .ref qo8])), (qo7, .inl (co1, 16, .inl fo1)), (qo8, .inl (co2, 256, .inl go1)), (qo3, .inr (3, [.ref qo9, .int 0, .int 0, .int 0, .ref qo10, .ref qo11, .ref qo12, .int 0, .int 0, .int 0, .int 0, .ref qo13, .int 0, .ref qo14])), (qo5, .inl (co3, 16, .inl (fun _ => 0)))]) (va_A [(h0, .inr (7, [.null, .null, .null, .int 0, .int 0, .null, .null, .null]))] sz)) 70 11664 (va_A [(h0, .inr (7, [.null, .null, .null, .int 0, .int 0, .null, .null, .null]))] sz) := by
  refine Met.ofW (cc := cX7_init) (maxL := 2) (ret := none) (by decide) rfl ?_
  intro p e s m args below meth c s₁ B hml hv
  obtain ⟨rfl, hsz, hP, hK, hD0, hN_X7_26, hO_X3⟩ := hv
  have hx := B.exec
  have hb := B.bytes
  have hr := B.returns
  have hts := atoms_spec (ws := wsX7_init) B.pre
  have hown : s.vm.findClass RX7 = some m.cls := findClass_of_methodNamed B.named
  have hlocks := B.notSynchronized
  have hin : meth.name = "<init>" := (name_of_methodNamed B.named B.method).1
  subst hsz
  have hD := hD0.self (sz := s.heap.size)
  generalize hAe : va_A [(h0, .inr (7, [.null, .null, .null, .int 0, .int 0, .null, .null, .null]))] s.heap.size = A at hD  ⊢
  have hA : ∀ q : Nat, s.heap.size ≤ q → A q := fun q h => by rw [← hAe]; exact Or.inr h
  have hP : va_P (dC, dI) vwCl [(h0, .inr (7, [.null, .null, .null, .int 0, .int 0, .null, .null, .null]))] s.heap := hP
  have hl := lv_entry ([.ref h0]) (n := 2) (Nat.le_of_ble_eq_true rfl)
  rw [lg_entry_eq]
  generalize (lg_sl ([.ref h0]) ++ List.replicate (2 - (lg_sl ([.ref h0])).length) Slot.unset).toArray = ls at hl ⊢
  have hl : lv_has ls 2 [(0, .ref h0)] := hl
  obtain ⟨H, hH⟩ : ∃ H : Heap, s.heap = H := ⟨_, rfl⟩
  rw [hH] at hP ⊢
  have hS : va_S A s.heap H [] := by rw [← hH]; exact va_S.rf
  obtain ⟨locs, hlo⟩ : ∃ locs : List Loc, locs = [] := ⟨_, rfl⟩
  rw [← hlo] at hS ⊢
  refine lv_aload_n hx hb dX7_init_0 rfl (lv_at hl 0 rfl) ?_
  refine W.objInit hx hb hown (hts (.methodLink RX7 7 objectInit) (by decide +kernel)) (hts (.instanceMethod objectInit) (by decide +kernel)) (hts (.code objectInit ⟨#[0xb1]⟩ 1 none) (by decide +kernel)) rfl (by rw [hml]; exact hl.1) rfl dX7_init_1 (Nat.le_of_ble_eq_true rfl) (Nat.le_of_ble_eq_true rfl) ?_
  refine W.eq (g2 := F0 m 4 ls []) rfl ?_
  refine lv_aload_n hx hb dX7_init_4 rfl (lv_at hl 0 rfl) ?_
  refine va_new (ci := 4) (fs := [.null, .null]) (C := RX4) (T := TX4) (N := 2) hx hb hts uX7_init_X4 tyX4 tyX4_ok hown (hts (.classLink RX7 13 RX4) (by decide +kernel)) (hts (.instantiable RX4 2) (by decide +kernel)) (hts (.initialized RX4) (by decide +kernel)) hK hP hD hS hA rfl (fun j hj => by rcases (show j = 0 ∨ j = 1 by omega) with rfl | rfl <;> rfl) (Nat.le_of_ble_eq_true rfl) (Nat.le_of_ble_eq_true rfl) dX7_init_5 ?_
  clear hP hD hS
  intro q_1 H hP hD hS
  refine W.widen (k := 1) (n := 2) (Nat.le_of_ble_eq_true rfl) (Nat.le_of_ble_eq_true rfl) ?_
  replace hP : va_P (dC, dI) vwCl [(h0, .inr (7, [.null, .null, .null, .int 0, .int 0, .null, .null, .null])), (q_1, .inr (4, [.null, .null]))] H := hP
  replace hD : va_D A [(h0, .inr (7, [.null, .null, .null, .int 0, .int 0, .null, .null, .null])), (q_1, .inr (4, [.null, .null]))] := hD
  refine lv_dup hx hb dX7_init_8 rfl ?_
  have hPc := hP.sub (ws' := [(q_1, .inr (4, [.null, .null]))]) [1] rfl
  have hDc := hD.sub (ws' := [(q_1, .inr (4, [.null, .null]))]) [1] (by decide) rfl
  have hKc := hK.sub (tys' := []) [] rfl
  have hFc := va_free (wc := [(q_1, .inr (4, [.null, .null]))]) hD hS hA [1] rfl
  refine va_callv (va_runI (As := []) (rest := [.ref q_1, .ref h0]) ⟨hx, hb, hml, hown, hts⟩ (ct_kinit l dC dI H.size q_1) (cwI 0 hts gX7_init_X4_init rfl rfl rfl (hts (.initialized RX4) (by decide +kernel)) (hts (.methodLink RX7 15 yX4_init) (by decide +kernel)) (hts (.instanceMethod yX4_init) (by decide +kernel)) rfl (by decide +kernel) ⟨Nat.le_of_ble_eq_true rfl, Nat.le_of_ble_eq_true rfl⟩) ⟨fun a U g mk q => by obtain ⟨q0, q1, qP, qK, qD⟩ := q; exact ⟨q0, q1, qP, va_K.moved (u := U) (U := U.calling g mk a) (Vm.Alike.refl U.vm) qK, qD⟩, fun U hU hW => ⟨rfl, by rw [hU], by rw [hU]; exact hPc, va_K.moved hW.alike hKc, hDc.weaken (fun _ _ _ _ => trivial)⟩⟩ rfl rfl hl.1 rfl (lv_room (Nat.le_of_ble_eq_true rfl)) dX7_init_9 ⟨Nat.le_of_ble_eq_true rfl, Nat.le_of_ble_eq_true rfl⟩) hS (fun q _ h => hFc q h) hFc ?_
  clear hS
  intro u t H1 locs ht hvm hw hB hz1 hk1 hS
  obtain ⟨q_2, q_3, ca_4, cu_5, f_6, g_7⟩ := u
  obtain ⟨hP1, hK1, hD1⟩ := hB
  rw [ht] at hP1
  have hK1 := va_K.moved hvm.symm hK1
  try dsimp only at hw
  have hPD := va_join (wr := [(h0, .inr (7, [.null, .null, .null, .int 0, .int 0, .null, .null, .null]))]) (w1 := [(q_1, .inr (4, [.ref q_2, .ref q_3])), (q_2, .inl (ca_4, 16, .inl f_6)), (q_3, .inl (cu_5, 256, .inl g_7))]) hP hD [1] [0] rfl rfl (by decide) (by decide) hk1 hFc hP1 hD1
  clear hP hD
  obtain ⟨hP, hD⟩ := hPD
  replace hK := (hK.sub (tys' := []) [] rfl).app hK1
  clear hPc hDc hKc hFc hP1 hK1 hD1 hz1 hk1 ht hvm
  generalize H1 = H at hP hS ⊢
  replace hP : va_P (dC, dI) vwCl [(h0, .inr (7, [.null, .null, .null, .int 0, .int 0, .null, .null, .null])), (q_1, .inr (4, [.ref q_2, .ref q_3])), (q_2, .inl (ca_4, 16, .inl f_6)), (q_3, .inl (cu_5, 256, .inl g_7))] H := hP
  replace hD : va_D A [(h0, .inr (7, [.null, .null, .null, .int 0, .int 0, .null, .null, .null])), (q_1, .inr (4, [.ref q_2, .ref q_3])), (q_2, .inl (ca_4, 16, .inl f_6)), (q_3, .inl (cu_5, 256, .inl g_7))] := hD
  replace hK : va_K (dC, dI) vwCl [(ca_4, .int), (cu_5, .boolean)] s := hK
  refine W.widen (k := 3) (n := 274) (Nat.le_of_ble_eq_true rfl) (Nat.le_of_ble_eq_true rfl) ?_
  have hkf := hw
  refine va_putF (D := (dC, dI)) (ci := 7) (v := .ref q_1) (ty := .object "ClassMill$Kin") (C := RX7) (T := TX7) (N := 8) hx hb hts uX7_init_X7 tyX7 tyX7_ok nmX7 hown hK hP hD hS 0 rfl rfl 0 (by decide) (hts (.fieldLink RX7 16 "ClassMill$Space" "kin" "LClassMill$Kin;") (by decide +kernel)) (fun _ h9 => h9) rfl hin rfl (by decide +kernel) rfl rfl (Nat.le_of_ble_eq_true rfl) dX7_init_12 ?_
  clear hP hD hS
  intro H locs hP hD hS
  replace hP : va_P (dC, dI) vwCl [(h0, .inr (7, [.ref q_1, .null, .null, .int 0, .int 0, .null, .null, .null])), (q_1, .inr (4, [.ref q_2, .ref q_3])), (q_2, .inl (ca_4, 16, .inl f_6)), (q_3, .inl (cu_5, 256, .inl g_7))] H := hP
  replace hD : va_D A [(h0, .inr (7, [.ref q_1, .null, .null, .int 0, .int 0, .null, .null, .null])), (q_1, .inr (4, [.ref q_2, .ref q_3])), (q_2, .inl (ca_4, 16, .inl f_6)), (q_3, .inl (cu_5, 256, .inl g_7))] := hD
  refine lv_aload_n hx hb dX7_init_15 rfl (lv_at hl 0 rfl) ?_
  refine lv_bipush (v := 8) hx hb dX7_init_16 (by decide) ?_
  refine va_newq (C := RX3) hx hb hown (hts (.classLink RX7 20 RX3) (by decide +kernel)) hO_X3 hK hP hD hS hA (n := 8) (N' := 8) (by decide) (by decide) (by decide) (Nat.le_of_ble_eq_true rfl) (Nat.le_of_ble_eq_true rfl) dX7_init_18 ?_
  clear hK hP hD hS
  intro q_8 cq_8 H hK hP hD hS
  refine W.widen (k := 4) (n := 282) (Nat.le_of_ble_eq_true rfl) (Nat.le_of_ble_eq_true rfl) ?_
  replace hK : va_K (dC, dI) vwCl [(ca_4, .int), (cu_5, .boolean), (cq_8, .object RX3)] s := hK
  replace hP : va_P (dC, dI) vwCl [(h0, .inr (7, [.ref q_1, .null, .null, .int 0, .int 0, .null, .null, .null])), (q_1, .inr (4, [.ref q_2, .ref q_3])), (q_2, .inl (ca_4, 16, .inl f_6)), (q_3, .inl (cu_5, 256, .inl g_7)), (q_8, .inl (cq_8, 8, .inr (.inr (.inr (.inr (fun _ => none))))))] H := hP
  replace hD : va_D A [(h0, .inr (7, [.ref q_1, .null, .null, .int 0, .int 0, .null, .null, .null])), (q_1, .inr (4, [.ref q_2, .ref q_3])), (q_2, .inl (ca_4, 16, .inl f_6)), (q_3, .inl (cu_5, 256, .inl g_7)), (q_8, .inl (cq_8, 8, .inr (.inr (.inr (.inr (fun _ => none))))))] := hD
  refine va_putF (D := (dC, dI)) (ci := 7) (v := .ref q_8) (ty := .array (.object "ClassMill$Image")) (C := RX7) (T := TX7) (N := 8) hx hb hts uX7_init_X7 tyX7 tyX7_ok nmX7 hown hK hP hD hS 0 rfl rfl 1 (by decide) (hts (.fieldLink RX7 22 "ClassMill$Space" "images" "[LClassMill$Image;") (by decide +kernel)) (fun _ h9 => h9) rfl hin rfl (by decide +kernel) rfl rfl (Nat.le_of_ble_eq_true rfl) dX7_init_21 ?_
  clear hP hD hS
  intro H locs hP hD hS
  replace hP : va_P (dC, dI) vwCl [(h0, .inr (7, [.ref q_1, .ref q_8, .null, .int 0, .int 0, .null, .null, .null])), (q_1, .inr (4, [.ref q_2, .ref q_3])), (q_2, .inl (ca_4, 16, .inl f_6)), (q_3, .inl (cu_5, 256, .inl g_7)), (q_8, .inl (cq_8, 8, .inr (.inr (.inr (.inr (fun _ => none))))))] H := hP
  replace hD : va_D A [(h0, .inr (7, [.ref q_1, .ref q_8, .null, .int 0, .int 0, .null, .null, .null])), (q_1, .inr (4, [.ref q_2, .ref q_3])), (q_2, .inl (ca_4, 16, .inl f_6)), (q_3, .inl (cu_5, 256, .inl g_7)), (q_8, .inl (cq_8, 8, .inr (.inr (.inr (.inr (fun _ => none))))))] := hD
  refine lv_aload_n hx hb dX7_init_24 rfl (lv_at hl 0 rfl) ?_
  refine va_new (ci := 3) (fs := [.null, .int 0, .int 0, .int 0, .null, .null, .null, .int 0, .int 0, .int 0, .int 0, .null, .int 0, .null]) (C := RX3) (T := TX3) (N := 14) hx hb hts uX7_init_X3 tyX3 tyX3_ok hown (hts (.classLink RX7 20 RX3) (by decide +kernel)) (hts (.instantiable RX3 14) (by decide +kernel)) (hts (.initialized RX3) (by decide +kernel)) hK hP hD hS hA rfl (fun j hj => by rcases (show j = 0 ∨ j = 1 ∨ j = 2 ∨ j = 3 ∨ j = 4 ∨ j = 5 ∨ j = 6 ∨ j = 7 ∨ j = 8 ∨ j = 9 ∨ j = 10 ∨ j = 11 ∨ j = 12 ∨ j = 13 by omega) with rfl | rfl | rfl | rfl | rfl | rfl | rfl | rfl | rfl | rfl | rfl | rfl | rfl | rfl <;> rfl) (Nat.le_of_ble_eq_true rfl) (Nat.le_of_ble_eq_true rfl) dX7_init_25 ?_
  clear hP hD hS
  intro q_9 H hP hD hS
  refine W.widen (k := 5) (n := 296) (Nat.le_of_ble_eq_true rfl) (Nat.le_of_ble_eq_true rfl) ?_
  replace hP : va_P (dC, dI) vwCl [(h0, .inr (7, [.ref q_1, .ref q_8, .null, .int 0, .int 0, .null, .null, .null])), (q_1, .inr (4, [.ref q_2, .ref q_3])), (q_2, .inl (ca_4, 16, .inl f_6)), (q_3, .inl (cu_5, 256, .inl g_7)), (q_8, .inl (cq_8, 8, .inr (.inr (.inr (.inr (fun _ => none)))))), (q_9, .inr (3, [.null, .int 0, .int 0, .int 0, .null, .null, .null, .int 0, .int 0, .int 0, .int 0, .null, .int 0, .null]))] H := hP
  replace hD : va_D A [(h0, .inr (7, [.ref q_1, .ref q_8, .null, .int 0, .int 0, .null, .null, .null])), (q_1, .inr (4, [.ref q_2, .ref q_3])), (q_2, .inl (ca_4, 16, .inl f_6)), (q_3, .inl (cu_5, 256, .inl g_7)), (q_8, .inl (cq_8, 8, .inr (.inr (.inr (.inr (fun _ => none)))))), (q_9, .inr (3, [.null, .int 0, .int 0, .int 0, .null, .null, .null, .int 0, .int 0, .int 0, .int 0, .null, .int 0, .null]))] := hD
  refine lv_dup hx hb dX7_init_28 rfl ?_
  have hPc := hP.sub (ws' := [(q_9, .inr (3, [.null, .int 0, .int 0, .int 0, .null, .null, .null, .int 0, .int 0, .int 0, .int 0, .null, .int 0, .null]))]) [5] rfl
  have hDc := hD.sub (ws' := [(q_9, .inr (3, [.null, .int 0, .int 0, .int 0, .null, .null, .null, .int 0, .int 0, .int 0, .int 0, .null, .int 0, .null]))]) [5] (by decide) rfl
  have hKc := hK.sub (tys' := []) [] rfl
  have hFc := va_free (wc := [(q_9, .inr (3, [.null, .int 0, .int 0, .int 0, .null, .null, .null, .int 0, .int 0, .int 0, .int 0, .null, .int 0, .null]))]) hD hS hA [5] rfl
  refine va_callv (va_runIN (As := []) (rest := [.ref q_9, .ref h0]) ⟨hx, hb, hml, hown, hts⟩ (ct_img l dC dI H.size q_9) ⟨va_cnB 0 hts gX7_init_X3_init_n26 rfl rfl rfl hN_X7_26 (hts (.initialized RX3) (by decide +kernel)) (by decide +kernel) ⟨Nat.le_of_ble_eq_true rfl, Nat.le_of_ble_eq_true rfl⟩, rfl, hts (.instanceMethod yX3_init) (by decide +kernel)⟩ ⟨fun a U g mk q => by obtain ⟨q0, q1, qP, qK, qD⟩ := q; exact ⟨q0, q1, qP, va_K.moved (u := U) (U := U.calling g mk a) (Vm.Alike.refl U.vm) qK, qD⟩, fun U hU hW => ⟨rfl, by rw [hU], by rw [hU]; exact hPc, va_K.moved hW.alike hKc, hDc.weaken (fun _ _ _ _ => trivial)⟩⟩ rfl rfl hl.1 rfl (lv_room (Nat.le_of_ble_eq_true rfl)) dX7_init_29 ⟨Nat.le_of_ble_eq_true rfl, Nat.le_of_ble_eq_true rfl⟩) hS (fun q _ h => hFc q h) hFc ?_
  clear hS
  intro u t H1 locs ht hvm hw hB hz1 hk1 hS
  obtain ⟨q_10, q_11, q_12, q_13, q_14, q_15⟩ := u
  obtain ⟨hP1, hK1, hD1⟩ := hB
  rw [ht] at hP1
  have hK1 := va_K.moved hvm.symm hK1
  try dsimp only at hw
  have hPD := va_join (wr := [(h0, .inr (7, [.ref q_1, .ref q_8, .null, .int 0, .int 0, .null, .null, .null])), (q_1, .inr (4, [.ref q_2, .ref q_3])), (q_2, .inl (ca_4, 16, .inl f_6)), (q_3, .inl (cu_5, 256, .inl g_7)), (q_8, .inl (cq_8, 8, .inr (.inr (.inr (.inr (fun _ => none))))))]) (w1 := [(q_9, .inr (3, [.ref q_10, .int 0, .int 0, .int 0, .ref q_11, .ref q_12, .ref q_13, .int 0, .int 0, .int 0, .int 0, .ref q_14, .int 0, .ref q_15]))]) hP hD [5] [0, 1, 2, 3, 4] rfl rfl (by decide) (by decide) hk1 hFc hP1 hD1
  clear hP hD
  obtain ⟨hP, hD⟩ := hPD
  replace hK := (hK.sub (tys' := [(ca_4, .int), (cu_5, .boolean), (cq_8, .object RX3)]) [0, 1, 2] rfl).app hK1
  clear hPc hDc hKc hFc hP1 hK1 hD1 hz1 hk1 ht hvm
  generalize H1 = H at hP hS ⊢
  replace hP : va_P (dC, dI) vwCl [(h0, .inr (7, [.ref q_1, .ref q_8, .null, .int 0, .int 0, .null, .null, .null])), (q_1, .inr (4, [.ref q_2, .ref q_3])), (q_2, .inl (ca_4, 16, .inl f_6)), (q_3, .inl (cu_5, 256, .inl g_7)), (q_8, .inl (cq_8, 8, .inr (.inr (.inr (.inr (fun _ => none)))))), (q_9, .inr (3, [.ref q_10, .int 0, .int 0, .int 0, .ref q_11, .ref q_12, .ref q_13, .int 0, .int 0, .int 0, .int 0, .ref q_14, .int 0, .ref q_15]))] H := hP
  replace hD : va_D A [(h0, .inr (7, [.ref q_1, .ref q_8, .null, .int 0, .int 0, .null, .null, .null])), (q_1, .inr (4, [.ref q_2, .ref q_3])), (q_2, .inl (ca_4, 16, .inl f_6)), (q_3, .inl (cu_5, 256, .inl g_7)), (q_8, .inl (cq_8, 8, .inr (.inr (.inr (.inr (fun _ => none)))))), (q_9, .inr (3, [.ref q_10, .int 0, .int 0, .int 0, .ref q_11, .ref q_12, .ref q_13, .int 0, .int 0, .int 0, .int 0, .ref q_14, .int 0, .ref q_15]))] := hD
  replace hK : va_K (dC, dI) vwCl [(ca_4, .int), (cu_5, .boolean), (cq_8, .object RX3)] s := hK
  refine W.widen (k := 11) (n := 1232) (Nat.le_of_ble_eq_true rfl) (Nat.le_of_ble_eq_true rfl) ?_
  refine va_put (D := (dC, dI)) (ci := 7) (v := .ref q_9) (ty := .object "ClassMill$Image") (C := RX7) (T := TX7) (N := 8) hx hb hts uX7_init_X7 tyX7 tyX7_ok nmX7 hown hK hP hD hS 0 rfl rfl 2 (by decide) (hts (.fieldLink RX7 27 "ClassMill$Space" "spare" "LClassMill$Image;") (by decide +kernel)) (fun _ h9 => h9) rfl (by decide +kernel) rfl rfl (Nat.le_of_ble_eq_true rfl) dX7_init_32 ?_
  clear hP hD hS
  intro H locs hP hD hS
  replace hP : va_P (dC, dI) vwCl [(h0, .inr (7, [.ref q_1, .ref q_8, .ref q_9, .int 0, .int 0, .null, .null, .null])), (q_1, .inr (4, [.ref q_2, .ref q_3])), (q_2, .inl (ca_4, 16, .inl f_6)), (q_3, .inl (cu_5, 256, .inl g_7)), (q_8, .inl (cq_8, 8, .inr (.inr (.inr (.inr (fun _ => none)))))), (q_9, .inr (3, [.ref q_10, .int 0, .int 0, .int 0, .ref q_11, .ref q_12, .ref q_13, .int 0, .int 0, .int 0, .int 0, .ref q_14, .int 0, .ref q_15]))] H := hP
  replace hD : va_D A [(h0, .inr (7, [.ref q_1, .ref q_8, .ref q_9, .int 0, .int 0, .null, .null, .null])), (q_1, .inr (4, [.ref q_2, .ref q_3])), (q_2, .inl (ca_4, 16, .inl f_6)), (q_3, .inl (cu_5, 256, .inl g_7)), (q_8, .inl (cq_8, 8, .inr (.inr (.inr (.inr (fun _ => none)))))), (q_9, .inr (3, [.ref q_10, .int 0, .int 0, .int 0, .ref q_11, .ref q_12, .ref q_13, .int 0, .int 0, .int 0, .int 0, .ref q_14, .int 0, .ref q_15]))] := hD
  refine lv_aload_n hx hb dX7_init_35 rfl (lv_at hl 0 rfl) ?_
  refine lv_sipush (v := 2048) hx hb dX7_init_36 (by decide) ?_
  refine va_newa (atype := .int) (ty := .int) (N' := 2048) (a0 := (2048, .inl (fun _ => 0))) hx hb (hts (.arrayClass .int) (by decide +kernel)) rfl hK hP hD hS hA (fun _ => rfl) (by decide) (by decide) (by decide) (Nat.le_of_ble_eq_true rfl) (Nat.le_of_ble_eq_true rfl) dX7_init_39 ?_
  clear hK hP hD hS
  intro q_16 cq_16 H hK hP hD hS
  refine W.widen (k := 12) (n := 3280) (Nat.le_of_ble_eq_true rfl) (Nat.le_of_ble_eq_true rfl) ?_
  replace hP := hP.sub (ws' := [(h0, .inr (7, [.ref q_1, .ref q_8, .ref q_9, .int 0, .int 0, .null, .null, .null])), (q_1, .inr (4, [.ref q_2, .ref q_3])), (q_2, .inl (ca_4, 16, .inl f_6)), (q_3, .inl (cu_5, 256, .inl g_7)), (q_8, .inl (cq_8, 8, .inr (.inr (.inr (.inr (fun _ => none)))))), (q_9, .inr (3, [.ref q_10, .int 0, .int 0, .int 0, .ref q_11, .ref q_12, .ref q_13, .int 0, .int 0, .int 0, .int 0, .ref q_14, .int 0, .ref q_15]))]) [0, 1, 2, 3, 4, 5] rfl
  replace hD := hD.sub (ws' := [(h0, .inr (7, [.ref q_1, .ref q_8, .ref q_9, .int 0, .int 0, .null, .null, .null])), (q_1, .inr (4, [.ref q_2, .ref q_3])), (q_2, .inl (ca_4, 16, .inl f_6)), (q_3, .inl (cu_5, 256, .inl g_7)), (q_8, .inl (cq_8, 8, .inr (.inr (.inr (.inr (fun _ => none)))))), (q_9, .inr (3, [.ref q_10, .int 0, .int 0, .int 0, .ref q_11, .ref q_12, .ref q_13, .int 0, .int 0, .int 0, .int 0, .ref q_14, .int 0, .ref q_15]))]) [0, 1, 2, 3, 4, 5] (by decide) rfl
  replace hK := hK.sub (tys' := [(ca_4, .int), (cu_5, .boolean), (cq_8, .object RX3)]) [0, 1, 2] rfl
  refine va_putF (D := (dC, dI)) (ci := 7) (v := .ref q_16) (ty := .array .int) (C := RX7) (T := TX7) (N := 8) hx hb hts uX7_init_X7 tyX7 tyX7_ok nmX7 hown hK hP hD hS 0 rfl rfl 5 (by decide) (hts (.fieldLink RX7 31 "ClassMill$Space" "links" "[I") (by decide +kernel)) (fun _ h9 => h9) rfl hin rfl (by decide +kernel) rfl rfl (Nat.le_of_ble_eq_true rfl) dX7_init_41 ?_
  clear hP hD hS
  intro H locs hP hD hS
  replace hP : va_P (dC, dI) vwCl [(h0, .inr (7, [.ref q_1, .ref q_8, .ref q_9, .int 0, .int 0, .ref q_16, .null, .null])), (q_1, .inr (4, [.ref q_2, .ref q_3])), (q_2, .inl (ca_4, 16, .inl f_6)), (q_3, .inl (cu_5, 256, .inl g_7)), (q_8, .inl (cq_8, 8, .inr (.inr (.inr (.inr (fun _ => none)))))), (q_9, .inr (3, [.ref q_10, .int 0, .int 0, .int 0, .ref q_11, .ref q_12, .ref q_13, .int 0, .int 0, .int 0, .int 0, .ref q_14, .int 0, .ref q_15]))] H := hP
  replace hD : va_D A [(h0, .inr (7, [.ref q_1, .ref q_8, .ref q_9, .int 0, .int 0, .ref q_16, .null, .null])), (q_1, .inr (4, [.ref q_2, .ref q_3])), (q_2, .inl (ca_4, 16, .inl f_6)), (q_3, .inl (cu_5, 256, .inl g_7)), (q_8, .inl (cq_8, 8, .inr (.inr (.inr (.inr (fun _ => none)))))), (q_9, .inr (3, [.ref q_10, .int 0, .int 0, .int 0, .ref q_11, .ref q_12, .ref q_13, .int 0, .int 0, .int 0, .int 0, .ref q_14, .int 0, .ref q_15]))] := hD
  refine lv_aload_n hx hb dX7_init_44 rfl (lv_at hl 0 rfl) ?_
  refine lv_bipush (v := 16) hx hb dX7_init_45 (by decide) ?_
  refine va_newa (atype := .int) (ty := .int) (N' := 16) (a0 := (16, .inl (fun _ => 0))) hx hb (hts (.arrayClass .int) (by decide +kernel)) rfl hK hP hD hS hA (fun _ => rfl) (by decide) (by decide) (by decide) (Nat.le_of_ble_eq_true rfl) (Nat.le_of_ble_eq_true rfl) dX7_init_47 ?_
  clear hK hP hD hS
  intro q_17 cq_17 H hK hP hD hS
  refine W.widen (k := 13) (n := 3296) (Nat.le_of_ble_eq_true rfl) (Nat.le_of_ble_eq_true rfl) ?_
  replace hK : va_K (dC, dI) vwCl [(ca_4, .int), (cu_5, .boolean), (cq_8, .object RX3), (cq_17, .int)] s := hK
  replace hP : va_P (dC, dI) vwCl [(h0, .inr (7, [.ref q_1, .ref q_8, .ref q_9, .int 0, .int 0, .ref q_16, .null, .null])), (q_1, .inr (4, [.ref q_2, .ref q_3])), (q_2, .inl (ca_4, 16, .inl f_6)), (q_3, .inl (cu_5, 256, .inl g_7)), (q_8, .inl (cq_8, 8, .inr (.inr (.inr (.inr (fun _ => none)))))), (q_9, .inr (3, [.ref q_10, .int 0, .int 0, .int 0, .ref q_11, .ref q_12, .ref q_13, .int 0, .int 0, .int 0, .int 0, .ref q_14, .int 0, .ref q_15])), (q_17, .inl (cq_17, 16, .inl (fun _ => 0)))] H := hP
  replace hD : va_D A [(h0, .inr (7, [.ref q_1, .ref q_8, .ref q_9, .int 0, .int 0, .ref q_16, .null, .null])), (q_1, .inr (4, [.ref q_2, .ref q_3])), (q_2, .inl (ca_4, 16, .inl f_6)), (q_3, .inl (cu_5, 256, .inl g_7)), (q_8, .inl (cq_8, 8, .inr (.inr (.inr (.inr (fun _ => none)))))), (q_9, .inr (3, [.ref q_10, .int 0, .int 0, .int 0, .ref q_11, .ref q_12, .ref q_13, .int 0, .int 0, .int 0, .int 0, .ref q_14, .int 0, .ref q_15])), (q_17, .inl (cq_17, 16, .inl (fun _ => 0)))] := hD
  refine va_putF (D := (dC, dI)) (ci := 7) (v := .ref q_17) (ty := .array .int) (C := RX7) (T := TX7) (N := 8) hx hb hts uX7_init_X7 tyX7 tyX7_ok nmX7 hown hK hP hD hS 0 rfl rfl 6 (by decide) (hts (.fieldLink RX7 35 "ClassMill$Space" "cells" "[I") (by decide +kernel)) (fun _ h9 => h9) rfl hin rfl (by decide +kernel) rfl rfl (Nat.le_of_ble_eq_true rfl) dX7_init_49 ?_
  clear hP hD hS
  intro H locs hP hD hS
  replace hP : va_P (dC, dI) vwCl [(h0, .inr (7, [.ref q_1, .ref q_8, .ref q_9, .int 0, .int 0, .ref q_16, .ref q_17, .null])), (q_1, .inr (4, [.ref q_2, .ref q_3])), (q_2, .inl (ca_4, 16, .inl f_6)), (q_3, .inl (cu_5, 256, .inl g_7)), (q_8, .inl (cq_8, 8, .inr (.inr (.inr (.inr (fun _ => none)))))), (q_9, .inr (3, [.ref q_10, .int 0, .int 0, .int 0, .ref q_11, .ref q_12, .ref q_13, .int 0, .int 0, .int 0, .int 0, .ref q_14, .int 0, .ref q_15])), (q_17, .inl (cq_17, 16, .inl (fun _ => 0)))] H := hP
  replace hD : va_D A [(h0, .inr (7, [.ref q_1, .ref q_8, .ref q_9, .int 0, .int 0, .ref q_16, .ref q_17, .null])), (q_1, .inr (4, [.ref q_2, .ref q_3])), (q_2, .inl (ca_4, 16, .inl f_6)), (q_3, .inl (cu_5, 256, .inl g_7)), (q_8, .inl (cq_8, 8, .inr (.inr (.inr (.inr (fun _ => none)))))), (q_9, .inr (3, [.ref q_10, .int 0, .int 0, .int 0, .ref q_11, .ref q_12, .ref q_13, .int 0, .int 0, .int 0, .int 0, .ref q_14, .int 0, .ref q_15])), (q_17, .inl (cq_17, 16, .inl (fun _ => 0)))] := hD
  refine lv_aload_n hx hb dX7_init_52 rfl (lv_at hl 0 rfl) ?_
  refine lv_sipush (v := 768) hx hb dX7_init_53 (by decide) ?_
  refine va_newa (atype := .int) (ty := .int) (N' := 768) (a0 := (768, .inl (fun _ => 0))) hx hb (hts (.arrayClass .int) (by decide +kernel)) rfl hK hP hD hS hA (fun _ => rfl) (by decide) (by decide) (by decide) (Nat.le_of_ble_eq_true rfl) (Nat.le_of_ble_eq_true rfl) dX7_init_56 ?_
  clear hK hP hD hS
  intro q_18 cq_18 H hK hP hD hS
  refine W.widen (k := 14) (n := 4064) (Nat.le_of_ble_eq_true rfl) (Nat.le_of_ble_eq_true rfl) ?_
  replace hP := hP.sub (ws' := [(h0, .inr (7, [.ref q_1, .ref q_8, .ref q_9, .int 0, .int 0, .ref q_16, .ref q_17, .null])), (q_1, .inr (4, [.ref q_2, .ref q_3])), (q_2, .inl (ca_4, 16, .inl f_6)), (q_3, .inl (cu_5, 256, .inl g_7)), (q_8, .inl (cq_8, 8, .inr (.inr (.inr (.inr (fun _ => none)))))), (q_9, .inr (3, [.ref q_10, .int 0, .int 0, .int 0, .ref q_11, .ref q_12, .ref q_13, .int 0, .int 0, .int 0, .int 0, .ref q_14, .int 0, .ref q_15])), (q_17, .inl (cq_17, 16, .inl (fun _ => 0)))]) [0, 1, 2, 3, 4, 5, 6] rfl
  replace hD := hD.sub (ws' := [(h0, .inr (7, [.ref q_1, .ref q_8, .ref q_9, .int 0, .int 0, .ref q_16, .ref q_17, .null])), (q_1, .inr (4, [.ref q_2, .ref q_3])), (q_2, .inl (ca_4, 16, .inl f_6)), (q_3, .inl (cu_5, 256, .inl g_7)), (q_8, .inl (cq_8, 8, .inr (.inr (.inr (.inr (fun _ => none)))))), (q_9, .inr (3, [.ref q_10, .int 0, .int 0, .int 0, .ref q_11, .ref q_12, .ref q_13, .int 0, .int 0, .int 0, .int 0, .ref q_14, .int 0, .ref q_15])), (q_17, .inl (cq_17, 16, .inl (fun _ => 0)))]) [0, 1, 2, 3, 4, 5, 6] (by decide) rfl
  replace hK := hK.sub (tys' := [(ca_4, .int), (cu_5, .boolean), (cq_8, .object RX3), (cq_17, .int)]) [0, 1, 2, 3] rfl
  refine va_putF (D := (dC, dI)) (ci := 7) (v := .ref q_18) (ty := .array .int) (C := RX7) (T := TX7) (N := 8) hx hb hts uX7_init_X7 tyX7 tyX7_ok nmX7 hown hK hP hD hS 0 rfl rfl 7 (by decide) (hts (.fieldLink RX7 38 "ClassMill$Space" "nearest" "[I") (by decide +kernel)) (fun _ h9 => h9) rfl hin rfl (by decide +kernel) rfl rfl (Nat.le_of_ble_eq_true rfl) dX7_init_58 ?_
  clear hP hD hS
  intro H locs hP hD hS
  replace hP : va_P (dC, dI) vwCl [(h0, .inr (7, [.ref q_1, .ref q_8, .ref q_9, .int 0, .int 0, .ref q_16, .ref q_17, .ref q_18])), (q_1, .inr (4, [.ref q_2, .ref q_3])), (q_2, .inl (ca_4, 16, .inl f_6)), (q_3, .inl (cu_5, 256, .inl g_7)), (q_8, .inl (cq_8, 8, .inr (.inr (.inr (.inr (fun _ => none)))))), (q_9, .inr (3, [.ref q_10, .int 0, .int 0, .int 0, .ref q_11, .ref q_12, .ref q_13, .int 0, .int 0, .int 0, .int 0, .ref q_14, .int 0, .ref q_15])), (q_17, .inl (cq_17, 16, .inl (fun _ => 0)))] H := hP
  replace hD : va_D A [(h0, .inr (7, [.ref q_1, .ref q_8, .ref q_9, .int 0, .int 0, .ref q_16, .ref q_17, .ref q_18])), (q_1, .inr (4, [.ref q_2, .ref q_3])), (q_2, .inl (ca_4, 16, .inl f_6)), (q_3, .inl (cu_5, 256, .inl g_7)), (q_8, .inl (cq_8, 8, .inr (.inr (.inr (.inr (fun _ => none)))))), (q_9, .inr (3, [.ref q_10, .int 0, .int 0, .int 0, .ref q_11, .ref q_12, .ref q_13, .int 0, .int 0, .int 0, .int 0, .ref q_14, .int 0, .ref q_15])), (q_17, .inl (cq_17, 16, .inl (fun _ => 0)))] := hD
  refine lv_iconst (v := 0) hx hb dX7_init_61 (by decide) ?_
  refine lv_istore_n (lv' := [(1, .int 0), (0, .ref h0)]) hx hb dX7_init_62 rfl hl (by decide) rfl (fun ls hl => ?_)
  refine lv_iload_n hx hb dX7_init_63 rfl (lv_at hl 0 rfl) ?_
  refine lv_bipush (v := 8) hx hb dX7_init_64 (by decide) ?_
  refine lv_icmp_ge (tgt := 88) hx hb dX7_init_66 (by decide) (fun c_19 => (show False by revert c_19; decide).elim) (fun c_19 => ?_)
  refine lv_aload_n hx hb dX7_init_69 rfl (lv_at hl 1 rfl) ?_
  refine va_get (D := (dC, dI)) (ci := 7) (v := .ref q_8) (C := RX7) (T := TX7) (N := 8) hx hb hts uX7_init_X7 hown hK hP 0 rfl rfl 1 (by decide) (hts (.fieldLink RX7 22 "ClassMill$Space" "images" "[LClassMill$Image;") (by decide +kernel)) (fun _ h9 => h9) rfl dX7_init_70 ?_
  refine lv_iload_n hx hb dX7_init_73 rfl (lv_at hl 0 rfl) ?_
  refine va_new (ci := 3) (fs := [.null, .int 0, .int 0, .int 0, .null, .null, .null, .int 0, .int 0, .int 0, .int 0, .null, .int 0, .null]) (C := RX3) (T := TX3) (N := 14) hx hb hts uX7_init_X3 tyX3 tyX3_ok hown (hts (.classLink RX7 20 RX3) (by decide +kernel)) (hts (.instantiable RX3 14) (by decide +kernel)) (hts (.initialized RX3) (by decide +kernel)) hK hP hD hS hA rfl (fun j hj => by rcases (show j = 0 ∨ j = 1 ∨ j = 2 ∨ j = 3 ∨ j = 4 ∨ j = 5 ∨ j = 6 ∨ j = 7 ∨ j = 8 ∨ j = 9 ∨ j = 10 ∨ j = 11 ∨ j = 12 ∨ j = 13 by omega) with rfl | rfl | rfl | rfl | rfl | rfl | rfl | rfl | rfl | rfl | rfl | rfl | rfl | rfl <;> rfl) (Nat.le_of_ble_eq_true rfl) (Nat.le_of_ble_eq_true rfl) dX7_init_74 ?_
  clear hP hD hS
  intro q_20 H hP hD hS
  refine W.widen (k := 15) (n := 4078) (Nat.le_of_ble_eq_true rfl) (Nat.le_of_ble_eq_true rfl) ?_
  replace hP : va_P (dC, dI) vwCl [(h0, .inr (7, [.ref q_1, .ref q_8, .ref q_9, .int 0, .int 0, .ref q_16, .ref q_17, .ref q_18])), (q_1, .inr (4, [.ref q_2, .ref q_3])), (q_2, .inl (ca_4, 16, .inl f_6)), (q_3, .inl (cu_5, 256, .inl g_7)), (q_8, .inl (cq_8, 8, .inr (.inr (.inr (.inr (fun _ => none)))))), (q_9, .inr (3, [.ref q_10, .int 0, .int 0, .int 0, .ref q_11, .ref q_12, .ref q_13, .int 0, .int 0, .int 0, .int 0, .ref q_14, .int 0, .ref q_15])), (q_17, .inl (cq_17, 16, .inl (fun _ => 0))), (q_20, .inr (3, [.null, .int 0, .int 0, .int 0, .null, .null, .null, .int 0, .int 0, .int 0, .int 0, .null, .int 0, .null]))] H := hP
  replace hD : va_D A [(h0, .inr (7, [.ref q_1, .ref q_8, .ref q_9, .int 0, .int 0, .ref q_16, .ref q_17, .ref q_18])), (q_1, .inr (4, [.ref q_2, .ref q_3])), (q_2, .inl (ca_4, 16, .inl f_6)), (q_3, .inl (cu_5, 256, .inl g_7)), (q_8, .inl (cq_8, 8, .inr (.inr (.inr (.inr (fun _ => none)))))), (q_9, .inr (3, [.ref q_10, .int 0, .int 0, .int 0, .ref q_11, .ref q_12, .ref q_13, .int 0, .int 0, .int 0, .int 0, .ref q_14, .int 0, .ref q_15])), (q_17, .inl (cq_17, 16, .inl (fun _ => 0))), (q_20, .inr (3, [.null, .int 0, .int 0, .int 0, .null, .null, .null, .int 0, .int 0, .int 0, .int 0, .null, .int 0, .null]))] := hD
  refine lv_dup hx hb dX7_init_77 rfl ?_
  have hPc := hP.sub (ws' := [(q_20, .inr (3, [.null, .int 0, .int 0, .int 0, .null, .null, .null, .int 0, .int 0, .int 0, .int 0, .null, .int 0, .null]))]) [7] rfl
  have hDc := hD.sub (ws' := [(q_20, .inr (3, [.null, .int 0, .int 0, .int 0, .null, .null, .null, .int 0, .int 0, .int 0, .int 0, .null, .int 0, .null]))]) [7] (by decide) rfl
  have hKc := hK.sub (tys' := []) [] rfl
  have hFc := va_free (wc := [(q_20, .inr (3, [.null, .int 0, .int 0, .int 0, .null, .null, .null, .int 0, .int 0, .int 0, .int 0, .null, .int 0, .null]))]) hD hS hA [7] rfl
  refine va_callv (va_runIN (As := []) (rest := [.ref q_20, .int 0, .ref q_8]) ⟨hx, hb, hml, hown, hts⟩ (ct_img l dC dI H.size q_20) ⟨va_cnB 0 hts gX7_init_X3_init_n26 rfl rfl rfl hN_X7_26 (hts (.initialized RX3) (by decide +kernel)) (by decide +kernel) ⟨Nat.le_of_ble_eq_true rfl, Nat.le_of_ble_eq_true rfl⟩, rfl, hts (.instanceMethod yX3_init) (by decide +kernel)⟩ ⟨fun a U g mk q => by obtain ⟨q0, q1, qP, qK, qD⟩ := q; exact ⟨q0, q1, qP, va_K.moved (u := U) (U := U.calling g mk a) (Vm.Alike.refl U.vm) qK, qD⟩, fun U hU hW => ⟨rfl, by rw [hU], by rw [hU]; exact hPc, va_K.moved hW.alike hKc, hDc.weaken (fun _ _ _ _ => trivial)⟩⟩ rfl rfl hl.1 rfl (lv_room (Nat.le_of_ble_eq_true rfl)) dX7_init_78 ⟨Nat.le_of_ble_eq_true rfl, Nat.le_of_ble_eq_true rfl⟩) hS (fun q _ h => hFc q h) hFc ?_
  clear hS
  intro u t H1 locs ht hvm hw hB hz1 hk1 hS
  obtain ⟨q_21, q_22, q_23, q_24, q_25, q_26⟩ := u
  obtain ⟨hP1, hK1, hD1⟩ := hB
  rw [ht] at hP1
  have hK1 := va_K.moved hvm.symm hK1
  try dsimp only at hw
  have hPD := va_join (wr := [(h0, .inr (7, [.ref q_1, .ref q_8, .ref q_9, .int 0, .int 0, .ref q_16, .ref q_17, .ref q_18])), (q_1, .inr (4, [.ref q_2, .ref q_3])), (q_2, .inl (ca_4, 16, .inl f_6)), (q_3, .inl (cu_5, 256, .inl g_7)), (q_8, .inl (cq_8, 8, .inr (.inr (.inr (.inr (fun _ => none)))))), (q_9, .inr (3, [.ref q_10, .int 0, .int 0, .int 0, .ref q_11, .ref q_12, .ref q_13, .int 0, .int 0, .int 0, .int 0, .ref q_14, .int 0, .ref q_15])), (q_17, .inl (cq_17, 16, .inl (fun _ => 0)))]) (w1 := [(q_20, .inr (3, [.ref q_21, .int 0, .int 0, .int 0, .ref q_22, .ref q_23, .ref q_24, .int 0, .int 0, .int 0, .int 0, .ref q_25, .int 0, .ref q_26]))]) hP hD [7] [0, 1, 2, 3, 4, 5, 6] rfl rfl (by decide) (by decide) hk1 hFc hP1 hD1
  clear hP hD
  obtain ⟨hP, hD⟩ := hPD
  replace hK := (hK.sub (tys' := [(ca_4, .int), (cu_5, .boolean), (cq_8, .object RX3), (cq_17, .int)]) [0, 1, 2, 3] rfl).app hK1
  clear hPc hDc hKc hFc hP1 hK1 hD1 hz1 hk1 ht hvm
  generalize H1 = H at hP hS ⊢
  replace hP : va_P (dC, dI) vwCl [(h0, .inr (7, [.ref q_1, .ref q_8, .ref q_9, .int 0, .int 0, .ref q_16, .ref q_17, .ref q_18])), (q_1, .inr (4, [.ref q_2, .ref q_3])), (q_2, .inl (ca_4, 16, .inl f_6)), (q_3, .inl (cu_5, 256, .inl g_7)), (q_8, .inl (cq_8, 8, .inr (.inr (.inr (.inr (fun _ => none)))))), (q_9, .inr (3, [.ref q_10, .int 0, .int 0, .int 0, .ref q_11, .ref q_12, .ref q_13, .int 0, .int 0, .int 0, .int 0, .ref q_14, .int 0, .ref q_15])), (q_17, .inl (cq_17, 16, .inl (fun _ => 0))), (q_20, .inr (3, [.ref q_21, .int 0, .int 0, .int 0, .ref q_22, .ref q_23, .ref q_24, .int 0, .int 0, .int 0, .int 0, .ref q_25, .int 0, .ref q_26]))] H := hP
  replace hD : va_D A [(h0, .inr (7, [.ref q_1, .ref q_8, .ref q_9, .int 0, .int 0, .ref q_16, .ref q_17, .ref q_18])), (q_1, .inr (4, [.ref q_2, .ref q_3])), (q_2, .inl (ca_4, 16, .inl f_6)), (q_3, .inl (cu_5, 256, .inl g_7)), (q_8, .inl (cq_8, 8, .inr (.inr (.inr (.inr (fun _ => none)))))), (q_9, .inr (3, [.ref q_10, .int 0, .int 0, .int 0, .ref q_11, .ref q_12, .ref q_13, .int 0, .int 0, .int 0, .int 0, .ref q_14, .int 0, .ref q_15])), (q_17, .inl (cq_17, 16, .inl (fun _ => 0))), (q_20, .inr (3, [.ref q_21, .int 0, .int 0, .int 0, .ref q_22, .ref q_23, .ref q_24, .int 0, .int 0, .int 0, .int 0, .ref q_25, .int 0, .ref q_26]))] := hD
  replace hK : va_K (dC, dI) vwCl [(ca_4, .int), (cu_5, .boolean), (cq_8, .object RX3), (cq_17, .int)] s := hK
  refine W.widen (k := 21) (n := 5014) (Nat.le_of_ble_eq_true rfl) (Nat.le_of_ble_eq_true rfl) ?_
  refine va_astq hx hb hK hP hD hS 4 2 7 3 rfl rfl rfl rfl (i := 0) (by unfold vp_in; decide) dX7_init_81 ?_
  clear hP hD hS
  intro H locs hP hD hS
  obtain ⟨f_27, ef_27⟩ : ∃ zf : Nat → Option Nat, zf = va_up (fun _ => none) (0 : Int32).toNatClampNeg (some q_20) := ⟨_, rfl⟩
  rw [← ef_27] at hP hD
  replace hP : va_P (dC, dI) vwCl [(h0, .inr (7, [.ref q_1, .ref q_8, .ref q_9, .int 0, .int 0, .ref q_16, .ref q_17, .ref q_18])), (q_1, .inr (4, [.ref q_2, .ref q_3])), (q_2, .inl (ca_4, 16, .inl f_6)), (q_3, .inl (cu_5, 256, .inl g_7)), (q_8, .inl (cq_8, 8, .inr (.inr (.inr (.inr f_27))))), (q_9, .inr (3, [.ref q_10, .int 0, .int 0, .int 0, .ref q_11, .ref q_12, .ref q_13, .int 0, .int 0, .int 0, .int 0, .ref q_14, .int 0, .ref q_15])), (q_17, .inl (cq_17, 16, .inl (fun _ => 0))), (q_20, .inr (3, [.ref q_21, .int 0, .int 0, .int 0, .ref q_22, .ref q_23, .ref q_24, .int 0, .int 0, .int 0, .int 0, .ref q_25, .int 0, .ref q_26]))] H := hP
  replace hD : va_D A [(h0, .inr (7, [.ref q_1, .ref q_8, .ref q_9, .int 0, .int 0, .ref q_16, .ref q_17, .ref q_18])), (q_1, .inr (4, [.ref q_2, .ref q_3])), (q_2, .inl (ca_4, 16, .inl f_6)), (q_3, .inl (cu_5, 256, .inl g_7)), (q_8, .inl (cq_8, 8, .inr (.inr (.inr (.inr f_27))))), (q_9, .inr (3, [.ref q_10, .int 0, .int 0, .int 0, .ref q_11, .ref q_12, .ref q_13, .int 0, .int 0, .int 0, .int 0, .ref q_14, .int 0, .ref q_15])), (q_17, .inl (cq_17, 16, .inl (fun _ => 0))), (q_20, .inr (3, [.ref q_21, .int 0, .int 0, .int 0, .ref q_22, .ref q_23, .ref q_24, .int 0, .int 0, .int 0, .int 0, .ref q_25, .int 0, .ref q_26]))] := hD
  replace hP := hP.sub (ws' := [(h0, .inr (7, [.ref q_1, .ref q_8, .ref q_9, .int 0, .int 0, .ref q_16, .ref q_17, .ref q_18])), (q_1, .inr (4, [.ref q_2, .ref q_3])), (q_2, .inl (ca_4, 16, .inl f_6)), (q_3, .inl (cu_5, 256, .inl g_7)), (q_8, .inl (cq_8, 8, .inr (.inr (.inr (.inr f_27))))), (q_9, .inr (3, [.ref q_10, .int 0, .int 0, .int 0, .ref q_11, .ref q_12, .ref q_13, .int 0, .int 0, .int 0, .int 0, .ref q_14, .int 0, .ref q_15])), (q_17, .inl (cq_17, 16, .inl (fun _ => 0)))]) [0, 1, 2, 3, 4, 5, 6] rfl
  replace hD := hD.sub (ws' := [(h0, .inr (7, [.ref q_1, .ref q_8, .ref q_9, .int 0, .int 0, .ref q_16, .ref q_17, .ref q_18])), (q_1, .inr (4, [.ref q_2, .ref q_3])), (q_2, .inl (ca_4, 16, .inl f_6)), (q_3, .inl (cu_5, 256, .inl g_7)), (q_8, .inl (cq_8, 8, .inr (.inr (.inr (.inr f_27))))), (q_9, .inr (3, [.ref q_10, .int 0, .int 0, .int 0, .ref q_11, .ref q_12, .ref q_13, .int 0, .int 0, .int 0, .int 0, .ref q_14, .int 0, .ref q_15])), (q_17, .inl (cq_17, 16, .inl (fun _ => 0)))]) [0, 1, 2, 3, 4, 5, 6] (by decide) rfl
  replace hK := hK.sub (tys' := [(ca_4, .int), (cu_5, .boolean), (cq_8, .object RX3), (cq_17, .int)]) [0, 1, 2, 3] rfl
  refine lv_iinc (v := 1) (lv' := [(1, .int 1), (0, .ref h0)]) hx hb dX7_init_82 hl (k := 0) rfl (by decide) (by decide) rfl (fun ls hl => ?_)
  refine lv_goto (tgt := 63) hx hb dX7_init_85 (by decide) ?_
  refine lv_iload_n hx hb dX7_init_63 rfl (lv_at hl 0 rfl) ?_
  refine lv_bipush (v := 8) hx hb dX7_init_64 (by decide) ?_
  refine lv_icmp_ge (tgt := 88) hx hb dX7_init_66 (by decide) (fun c_28 => (show False by revert c_28; decide).elim) (fun c_28 => ?_)
  refine lv_aload_n hx hb dX7_init_69 rfl (lv_at hl 1 rfl) ?_
  refine va_get (D := (dC, dI)) (ci := 7) (v := .ref q_8) (C := RX7) (T := TX7) (N := 8) hx hb hts uX7_init_X7 hown hK hP 0 rfl rfl 1 (by decide) (hts (.fieldLink RX7 22 "ClassMill$Space" "images" "[LClassMill$Image;") (by decide +kernel)) (fun _ h9 => h9) rfl dX7_init_70 ?_
  refine lv_iload_n hx hb dX7_init_73 rfl (lv_at hl 0 rfl) ?_
  refine va_new (ci := 3) (fs := [.null, .int 0, .int 0, .int 0, .null, .null, .null, .int 0, .int 0, .int 0, .int 0, .null, .int 0, .null]) (C := RX3) (T := TX3) (N := 14) hx hb hts uX7_init_X3 tyX3 tyX3_ok hown (hts (.classLink RX7 20 RX3) (by decide +kernel)) (hts (.instantiable RX3 14) (by decide +kernel)) (hts (.initialized RX3) (by decide +kernel)) hK hP hD hS hA rfl (fun j hj => by rcases (show j = 0 ∨ j = 1 ∨ j = 2 ∨ j = 3 ∨ j = 4 ∨ j = 5 ∨ j = 6 ∨ j = 7 ∨ j = 8 ∨ j = 9 ∨ j = 10 ∨ j = 11 ∨ j = 12 ∨ j = 13 by omega) with rfl | rfl | rfl | rfl | rfl | rfl | rfl | rfl | rfl | rfl | rfl | rfl | rfl | rfl <;> rfl) (Nat.le_of_ble_eq_true rfl) (Nat.le_of_ble_eq_true rfl) dX7_init_74 ?_
  clear hP hD hS
  intro q_29 H hP hD hS
  refine W.widen (k := 22) (n := 5028) (Nat.le_of_ble_eq_true rfl) (Nat.le_of_ble_eq_true rfl) ?_
  replace hP : va_P (dC, dI) vwCl [(h0, .inr (7, [.ref q_1, .ref q_8, .ref q_9, .int 0, .int 0, .ref q_16, .ref q_17, .ref q_18])), (q_1, .inr (4, [.ref q_2, .ref q_3])), (q_2, .inl (ca_4, 16, .inl f_6)), (q_3, .inl (cu_5, 256, .inl g_7)), (q_8, .inl (cq_8, 8, .inr (.inr (.inr (.inr f_27))))), (q_9, .inr (3, [.ref q_10, .int 0, .int 0, .int 0, .ref q_11, .ref q_12, .ref q_13, .int 0, .int 0, .int 0, .int 0, .ref q_14, .int 0, .ref q_15])), (q_17, .inl (cq_17, 16, .inl (fun _ => 0))), (q_29, .inr (3, [.null, .int 0, .int 0, .int 0, .null, .null, .null, .int 0, .int 0, .int 0, .int 0, .null, .int 0, .null]))] H := hP
  replace hD : va_D A [(h0, .inr (7, [.ref q_1, .ref q_8, .ref q_9, .int 0, .int 0, .ref q_16, .ref q_17, .ref q_18])), (q_1, .inr (4, [.ref q_2, .ref q_3])), (q_2, .inl (ca_4, 16, .inl f_6)), (q_3, .inl (cu_5, 256, .inl g_7)), (q_8, .inl (cq_8, 8, .inr (.inr (.inr (.inr f_27))))), (q_9, .inr (3, [.ref q_10, .int 0, .int 0, .int 0, .ref q_11, .ref q_12, .ref q_13, .int 0, .int 0, .int 0, .int 0, .ref q_14, .int 0, .ref q_15])), (q_17, .inl (cq_17, 16, .inl (fun _ => 0))), (q_29, .inr (3, [.null, .int 0, .int 0, .int 0, .null, .null, .null, .int 0, .int 0, .int 0, .int 0, .null, .int 0, .null]))] := hD
  refine lv_dup hx hb dX7_init_77 rfl ?_
  have hPc := hP.sub (ws' := [(q_29, .inr (3, [.null, .int 0, .int 0, .int 0, .null, .null, .null, .int 0, .int 0, .int 0, .int 0, .null, .int 0, .null]))]) [7] rfl
  have hDc := hD.sub (ws' := [(q_29, .inr (3, [.null, .int 0, .int 0, .int 0, .null, .null, .null, .int 0, .int 0, .int 0, .int 0, .null, .int 0, .null]))]) [7] (by decide) rfl
  have hKc := hK.sub (tys' := []) [] rfl
  have hFc := va_free (wc := [(q_29, .inr (3, [.null, .int 0, .int 0, .int 0, .null, .null, .null, .int 0, .int 0, .int 0, .int 0, .null, .int 0, .null]))]) hD hS hA [7] rfl
  refine va_callv (va_runIN (As := []) (rest := [.ref q_29, .int 1, .ref q_8]) ⟨hx, hb, hml, hown, hts⟩ (ct_img l dC dI H.size q_29) ⟨va_cnB 0 hts gX7_init_X3_init_n26 rfl rfl rfl hN_X7_26 (hts (.initialized RX3) (by decide +kernel)) (by decide +kernel) ⟨Nat.le_of_ble_eq_true rfl, Nat.le_of_ble_eq_true rfl⟩, rfl, hts (.instanceMethod yX3_init) (by decide +kernel)⟩ ⟨fun a U g mk q => by obtain ⟨q0, q1, qP, qK, qD⟩ := q; exact ⟨q0, q1, qP, va_K.moved (u := U) (U := U.calling g mk a) (Vm.Alike.refl U.vm) qK, qD⟩, fun U hU hW => ⟨rfl, by rw [hU], by rw [hU]; exact hPc, va_K.moved hW.alike hKc, hDc.weaken (fun _ _ _ _ => trivial)⟩⟩ rfl rfl hl.1 rfl (lv_room (Nat.le_of_ble_eq_true rfl)) dX7_init_78 ⟨Nat.le_of_ble_eq_true rfl, Nat.le_of_ble_eq_true rfl⟩) hS (fun q _ h => hFc q h) hFc ?_
  clear hS
  intro u t H1 locs ht hvm hw hB hz1 hk1 hS
  obtain ⟨q_30, q_31, q_32, q_33, q_34, q_35⟩ := u
  obtain ⟨hP1, hK1, hD1⟩ := hB
  rw [ht] at hP1
  have hK1 := va_K.moved hvm.symm hK1
  try dsimp only at hw
  have hPD := va_join (wr := [(h0, .inr (7, [.ref q_1, .ref q_8, .ref q_9, .int 0, .int 0, .ref q_16, .ref q_17, .ref q_18])), (q_1, .inr (4, [.ref q_2, .ref q_3])), (q_2, .inl (ca_4, 16, .inl f_6)), (q_3, .inl (cu_5, 256, .inl g_7)), (q_8, .inl (cq_8, 8, .inr (.inr (.inr (.inr f_27))))), (q_9, .inr (3, [.ref q_10, .int 0, .int 0, .int 0, .ref q_11, .ref q_12, .ref q_13, .int 0, .int 0, .int 0, .int 0, .ref q_14, .int 0, .ref q_15])), (q_17, .inl (cq_17, 16, .inl (fun _ => 0)))]) (w1 := [(q_29, .inr (3, [.ref q_30, .int 0, .int 0, .int 0, .ref q_31, .ref q_32, .ref q_33, .int 0, .int 0, .int 0, .int 0, .ref q_34, .int 0, .ref q_35]))]) hP hD [7] [0, 1, 2, 3, 4, 5, 6] rfl rfl (by decide) (by decide) hk1 hFc hP1 hD1
  clear hP hD
  obtain ⟨hP, hD⟩ := hPD
  replace hK := (hK.sub (tys' := [(ca_4, .int), (cu_5, .boolean), (cq_8, .object RX3), (cq_17, .int)]) [0, 1, 2, 3] rfl).app hK1
  clear hPc hDc hKc hFc hP1 hK1 hD1 hz1 hk1 ht hvm
  generalize H1 = H at hP hS ⊢
  replace hP : va_P (dC, dI) vwCl [(h0, .inr (7, [.ref q_1, .ref q_8, .ref q_9, .int 0, .int 0, .ref q_16, .ref q_17, .ref q_18])), (q_1, .inr (4, [.ref q_2, .ref q_3])), (q_2, .inl (ca_4, 16, .inl f_6)), (q_3, .inl (cu_5, 256, .inl g_7)), (q_8, .inl (cq_8, 8, .inr (.inr (.inr (.inr f_27))))), (q_9, .inr (3, [.ref q_10, .int 0, .int 0, .int 0, .ref q_11, .ref q_12, .ref q_13, .int 0, .int 0, .int 0, .int 0, .ref q_14, .int 0, .ref q_15])), (q_17, .inl (cq_17, 16, .inl (fun _ => 0))), (q_29, .inr (3, [.ref q_30, .int 0, .int 0, .int 0, .ref q_31, .ref q_32, .ref q_33, .int 0, .int 0, .int 0, .int 0, .ref q_34, .int 0, .ref q_35]))] H := hP
  replace hD : va_D A [(h0, .inr (7, [.ref q_1, .ref q_8, .ref q_9, .int 0, .int 0, .ref q_16, .ref q_17, .ref q_18])), (q_1, .inr (4, [.ref q_2, .ref q_3])), (q_2, .inl (ca_4, 16, .inl f_6)), (q_3, .inl (cu_5, 256, .inl g_7)), (q_8, .inl (cq_8, 8, .inr (.inr (.inr (.inr f_27))))), (q_9, .inr (3, [.ref q_10, .int 0, .int 0, .int 0, .ref q_11, .ref q_12, .ref q_13, .int 0, .int 0, .int 0, .int 0, .ref q_14, .int 0, .ref q_15])), (q_17, .inl (cq_17, 16, .inl (fun _ => 0))), (q_29, .inr (3, [.ref q_30, .int 0, .int 0, .int 0, .ref q_31, .ref q_32, .ref q_33, .int 0, .int 0, .int 0, .int 0, .ref q_34, .int 0, .ref q_35]))] := hD
  replace hK : va_K (dC, dI) vwCl [(ca_4, .int), (cu_5, .boolean), (cq_8, .object RX3), (cq_17, .int)] s := hK
  refine W.widen (k := 28) (n := 5964) (Nat.le_of_ble_eq_true rfl) (Nat.le_of_ble_eq_true rfl) ?_
  refine va_astq hx hb hK hP hD hS 4 2 7 3 rfl rfl rfl rfl (i := 1) (by unfold vp_in; decide) dX7_init_81 ?_
  clear hP hD hS
  intro H locs hP hD hS
  obtain ⟨f_36, ef_36⟩ : ∃ zf : Nat → Option Nat, zf = va_up f_27 (1 : Int32).toNatClampNeg (some q_29) := ⟨_, rfl⟩
  rw [← ef_36] at hP hD
  replace hP : va_P (dC, dI) vwCl [(h0, .inr (7, [.ref q_1, .ref q_8, .ref q_9, .int 0, .int 0, .ref q_16, .ref q_17, .ref q_18])), (q_1, .inr (4, [.ref q_2, .ref q_3])), (q_2, .inl (ca_4, 16, .inl f_6)), (q_3, .inl (cu_5, 256, .inl g_7)), (q_8, .inl (cq_8, 8, .inr (.inr (.inr (.inr f_36))))), (q_9, .inr (3, [.ref q_10, .int 0, .int 0, .int 0, .ref q_11, .ref q_12, .ref q_13, .int 0, .int 0, .int 0, .int 0, .ref q_14, .int 0, .ref q_15])), (q_17, .inl (cq_17, 16, .inl (fun _ => 0))), (q_29, .inr (3, [.ref q_30, .int 0, .int 0, .int 0, .ref q_31, .ref q_32, .ref q_33, .int 0, .int 0, .int 0, .int 0, .ref q_34, .int 0, .ref q_35]))] H := hP
  replace hD : va_D A [(h0, .inr (7, [.ref q_1, .ref q_8, .ref q_9, .int 0, .int 0, .ref q_16, .ref q_17, .ref q_18])), (q_1, .inr (4, [.ref q_2, .ref q_3])), (q_2, .inl (ca_4, 16, .inl f_6)), (q_3, .inl (cu_5, 256, .inl g_7)), (q_8, .inl (cq_8, 8, .inr (.inr (.inr (.inr f_36))))), (q_9, .inr (3, [.ref q_10, .int 0, .int 0, .int 0, .ref q_11, .ref q_12, .ref q_13, .int 0, .int 0, .int 0, .int 0, .ref q_14, .int 0, .ref q_15])), (q_17, .inl (cq_17, 16, .inl (fun _ => 0))), (q_29, .inr (3, [.ref q_30, .int 0, .int 0, .int 0, .ref q_31, .ref q_32, .ref q_33, .int 0, .int 0, .int 0, .int 0, .ref q_34, .int 0, .ref q_35]))] := hD
  replace hP := hP.sub (ws' := [(h0, .inr (7, [.ref q_1, .ref q_8, .ref q_9, .int 0, .int 0, .ref q_16, .ref q_17, .ref q_18])), (q_1, .inr (4, [.ref q_2, .ref q_3])), (q_2, .inl (ca_4, 16, .inl f_6)), (q_3, .inl (cu_5, 256, .inl g_7)), (q_8, .inl (cq_8, 8, .inr (.inr (.inr (.inr f_36))))), (q_9, .inr (3, [.ref q_10, .int 0, .int 0, .int 0, .ref q_11, .ref q_12, .ref q_13, .int 0, .int 0, .int 0, .int 0, .ref q_14, .int 0, .ref q_15])), (q_17, .inl (cq_17, 16, .inl (fun _ => 0)))]) [0, 1, 2, 3, 4, 5, 6] rfl
  replace hD := hD.sub (ws' := [(h0, .inr (7, [.ref q_1, .ref q_8, .ref q_9, .int 0, .int 0, .ref q_16, .ref q_17, .ref q_18])), (q_1, .inr (4, [.ref q_2, .ref q_3])), (q_2, .inl (ca_4, 16, .inl f_6)), (q_3, .inl (cu_5, 256, .inl g_7)), (q_8, .inl (cq_8, 8, .inr (.inr (.inr (.inr f_36))))), (q_9, .inr (3, [.ref q_10, .int 0, .int 0, .int 0, .ref q_11, .ref q_12, .ref q_13, .int 0, .int 0, .int 0, .int 0, .ref q_14, .int 0, .ref q_15])), (q_17, .inl (cq_17, 16, .inl (fun _ => 0)))]) [0, 1, 2, 3, 4, 5, 6] (by decide) rfl
  replace hK := hK.sub (tys' := [(ca_4, .int), (cu_5, .boolean), (cq_8, .object RX3), (cq_17, .int)]) [0, 1, 2, 3] rfl
  refine lv_iinc (v := 2) (lv' := [(1, .int 2), (0, .ref h0)]) hx hb dX7_init_82 hl (k := 0) rfl (by decide) (by decide) rfl (fun ls hl => ?_)
  refine lv_goto (tgt := 63) hx hb dX7_init_85 (by decide) ?_
  refine lv_iload_n hx hb dX7_init_63 rfl (lv_at hl 0 rfl) ?_
  refine lv_bipush (v := 8) hx hb dX7_init_64 (by decide) ?_
  refine lv_icmp_ge (tgt := 88) hx hb dX7_init_66 (by decide) (fun c_37 => (show False by revert c_37; decide).elim) (fun c_37 => ?_)
  refine lv_aload_n hx hb dX7_init_69 rfl (lv_at hl 1 rfl) ?_
  refine va_get (D := (dC, dI)) (ci := 7) (v := .ref q_8) (C := RX7) (T := TX7) (N := 8) hx hb hts uX7_init_X7 hown hK hP 0 rfl rfl 1 (by decide) (hts (.fieldLink RX7 22 "ClassMill$Space" "images" "[LClassMill$Image;") (by decide +kernel)) (fun _ h9 => h9) rfl dX7_init_70 ?_
  refine lv_iload_n hx hb dX7_init_73 rfl (lv_at hl 0 rfl) ?_
  refine va_new (ci := 3) (fs := [.null, .int 0, .int 0, .int 0, .null, .null, .null, .int 0, .int 0, .int 0, .int 0, .null, .int 0, .null]) (C := RX3) (T := TX3) (N := 14) hx hb hts uX7_init_X3 tyX3 tyX3_ok hown (hts (.classLink RX7 20 RX3) (by decide +kernel)) (hts (.instantiable RX3 14) (by decide +kernel)) (hts (.initialized RX3) (by decide +kernel)) hK hP hD hS hA rfl (fun j hj => by rcases (show j = 0 ∨ j = 1 ∨ j = 2 ∨ j = 3 ∨ j = 4 ∨ j = 5 ∨ j = 6 ∨ j = 7 ∨ j = 8 ∨ j = 9 ∨ j = 10 ∨ j = 11 ∨ j = 12 ∨ j = 13 by omega) with rfl | rfl | rfl | rfl | rfl | rfl | rfl | rfl | rfl | rfl | rfl | rfl | rfl | rfl <;> rfl) (Nat.le_of_ble_eq_true rfl) (Nat.le_of_ble_eq_true rfl) dX7_init_74 ?_
  clear hP hD hS
  intro q_38 H hP hD hS
  refine W.widen (k := 29) (n := 5978) (Nat.le_of_ble_eq_true rfl) (Nat.le_of_ble_eq_true rfl) ?_
  replace hP : va_P (dC, dI) vwCl [(h0, .inr (7, [.ref q_1, .ref q_8, .ref q_9, .int 0, .int 0, .ref q_16, .ref q_17, .ref q_18])), (q_1, .inr (4, [.ref q_2, .ref q_3])), (q_2, .inl (ca_4, 16, .inl f_6)), (q_3, .inl (cu_5, 256, .inl g_7)), (q_8, .inl (cq_8, 8, .inr (.inr (.inr (.inr f_36))))), (q_9, .inr (3, [.ref q_10, .int 0, .int 0, .int 0, .ref q_11, .ref q_12, .ref q_13, .int 0, .int 0, .int 0, .int 0, .ref q_14, .int 0, .ref q_15])), (q_17, .inl (cq_17, 16, .inl (fun _ => 0))), (q_38, .inr (3, [.null, .int 0, .int 0, .int 0, .null, .null, .null, .int 0, .int 0, .int 0, .int 0, .null, .int 0, .null]))] H := hP
  replace hD : va_D A [(h0, .inr (7, [.ref q_1, .ref q_8, .ref q_9, .int 0, .int 0, .ref q_16, .ref q_17, .ref q_18])), (q_1, .inr (4, [.ref q_2, .ref q_3])), (q_2, .inl (ca_4, 16, .inl f_6)), (q_3, .inl (cu_5, 256, .inl g_7)), (q_8, .inl (cq_8, 8, .inr (.inr (.inr (.inr f_36))))), (q_9, .inr (3, [.ref q_10, .int 0, .int 0, .int 0, .ref q_11, .ref q_12, .ref q_13, .int 0, .int 0, .int 0, .int 0, .ref q_14, .int 0, .ref q_15])), (q_17, .inl (cq_17, 16, .inl (fun _ => 0))), (q_38, .inr (3, [.null, .int 0, .int 0, .int 0, .null, .null, .null, .int 0, .int 0, .int 0, .int 0, .null, .int 0, .null]))] := hD
  refine lv_dup hx hb dX7_init_77 rfl ?_
  have hPc := hP.sub (ws' := [(q_38, .inr (3, [.null, .int 0, .int 0, .int 0, .null, .null, .null, .int 0, .int 0, .int 0, .int 0, .null, .int 0, .null]))]) [7] rfl
  have hDc := hD.sub (ws' := [(q_38, .inr (3, [.null, .int 0, .int 0, .int 0, .null, .null, .null, .int 0, .int 0, .int 0, .int 0, .null, .int 0, .null]))]) [7] (by decide) rfl
  have hKc := hK.sub (tys' := []) [] rfl
  have hFc := va_free (wc := [(q_38, .inr (3, [.null, .int 0, .int 0, .int 0, .null, .null, .null, .int 0, .int 0, .int 0, .int 0, .null, .int 0, .null]))]) hD hS hA [7] rfl
  refine va_callv (va_runIN (As := []) (rest := [.ref q_38, .int 2, .ref q_8]) ⟨hx, hb, hml, hown, hts⟩ (ct_img l dC dI H.size q_38) ⟨va_cnB 0 hts gX7_init_X3_init_n26 rfl rfl rfl hN_X7_26 (hts (.initialized RX3) (by decide +kernel)) (by decide +kernel) ⟨Nat.le_of_ble_eq_true rfl, Nat.le_of_ble_eq_true rfl⟩, rfl, hts (.instanceMethod yX3_init) (by decide +kernel)⟩ ⟨fun a U g mk q => by obtain ⟨q0, q1, qP, qK, qD⟩ := q; exact ⟨q0, q1, qP, va_K.moved (u := U) (U := U.calling g mk a) (Vm.Alike.refl U.vm) qK, qD⟩, fun U hU hW => ⟨rfl, by rw [hU], by rw [hU]; exact hPc, va_K.moved hW.alike hKc, hDc.weaken (fun _ _ _ _ => trivial)⟩⟩ rfl rfl hl.1 rfl (lv_room (Nat.le_of_ble_eq_true rfl)) dX7_init_78 ⟨Nat.le_of_ble_eq_true rfl, Nat.le_of_ble_eq_true rfl⟩) hS (fun q _ h => hFc q h) hFc ?_
  clear hS
  intro u t H1 locs ht hvm hw hB hz1 hk1 hS
  obtain ⟨q_39, q_40, q_41, q_42, q_43, q_44⟩ := u
  obtain ⟨hP1, hK1, hD1⟩ := hB
  rw [ht] at hP1
  have hK1 := va_K.moved hvm.symm hK1
  try dsimp only at hw
  have hPD := va_join (wr := [(h0, .inr (7, [.ref q_1, .ref q_8, .ref q_9, .int 0, .int 0, .ref q_16, .ref q_17, .ref q_18])), (q_1, .inr (4, [.ref q_2, .ref q_3])), (q_2, .inl (ca_4, 16, .inl f_6)), (q_3, .inl (cu_5, 256, .inl g_7)), (q_8, .inl (cq_8, 8, .inr (.inr (.inr (.inr f_36))))), (q_9, .inr (3, [.ref q_10, .int 0, .int 0, .int 0, .ref q_11, .ref q_12, .ref q_13, .int 0, .int 0, .int 0, .int 0, .ref q_14, .int 0, .ref q_15])), (q_17, .inl (cq_17, 16, .inl (fun _ => 0)))]) (w1 := [(q_38, .inr (3, [.ref q_39, .int 0, .int 0, .int 0, .ref q_40, .ref q_41, .ref q_42, .int 0, .int 0, .int 0, .int 0, .ref q_43, .int 0, .ref q_44]))]) hP hD [7] [0, 1, 2, 3, 4, 5, 6] rfl rfl (by decide) (by decide) hk1 hFc hP1 hD1
  clear hP hD
  obtain ⟨hP, hD⟩ := hPD
  replace hK := (hK.sub (tys' := [(ca_4, .int), (cu_5, .boolean), (cq_8, .object RX3), (cq_17, .int)]) [0, 1, 2, 3] rfl).app hK1
  clear hPc hDc hKc hFc hP1 hK1 hD1 hz1 hk1 ht hvm
  generalize H1 = H at hP hS ⊢
  replace hP : va_P (dC, dI) vwCl [(h0, .inr (7, [.ref q_1, .ref q_8, .ref q_9, .int 0, .int 0, .ref q_16, .ref q_17, .ref q_18])), (q_1, .inr (4, [.ref q_2, .ref q_3])), (q_2, .inl (ca_4, 16, .inl f_6)), (q_3, .inl (cu_5, 256, .inl g_7)), (q_8, .inl (cq_8, 8, .inr (.inr (.inr (.inr f_36))))), (q_9, .inr (3, [.ref q_10, .int 0, .int 0, .int 0, .ref q_11, .ref q_12, .ref q_13, .int 0, .int 0, .int 0, .int 0, .ref q_14, .int 0, .ref q_15])), (q_17, .inl (cq_17, 16, .inl (fun _ => 0))), (q_38, .inr (3, [.ref q_39, .int 0, .int 0, .int 0, .ref q_40, .ref q_41, .ref q_42, .int 0, .int 0, .int 0, .int 0, .ref q_43, .int 0, .ref q_44]))] H := hP
  replace hD : va_D A [(h0, .inr (7, [.ref q_1, .ref q_8, .ref q_9, .int 0, .int 0, .ref q_16, .ref q_17, .ref q_18])), (q_1, .inr (4, [.ref q_2, .ref q_3])), (q_2, .inl (ca_4, 16, .inl f_6)), (q_3, .inl (cu_5, 256, .inl g_7)), (q_8, .inl (cq_8, 8, .inr (.inr (.inr (.inr f_36))))), (q_9, .inr (3, [.ref q_10, .int 0, .int 0, .int 0, .ref q_11, .ref q_12, .ref q_13, .int 0, .int 0, .int 0, .int 0, .ref q_14, .int 0, .ref q_15])), (q_17, .inl (cq_17, 16, .inl (fun _ => 0))), (q_38, .inr (3, [.ref q_39, .int 0, .int 0, .int 0, .ref q_40, .ref q_41, .ref q_42, .int 0, .int 0, .int 0, .int 0, .ref q_43, .int 0, .ref q_44]))] := hD
  replace hK : va_K (dC, dI) vwCl [(ca_4, .int), (cu_5, .boolean), (cq_8, .object RX3), (cq_17, .int)] s := hK
  refine W.widen (k := 35) (n := 6914) (Nat.le_of_ble_eq_true rfl) (Nat.le_of_ble_eq_true rfl) ?_
  refine va_astq hx hb hK hP hD hS 4 2 7 3 rfl rfl rfl rfl (i := 2) (by unfold vp_in; decide) dX7_init_81 ?_
  clear hP hD hS
  intro H locs hP hD hS
  obtain ⟨f_45, ef_45⟩ : ∃ zf : Nat → Option Nat, zf = va_up f_36 (2 : Int32).toNatClampNeg (some q_38) := ⟨_, rfl⟩
  rw [← ef_45] at hP hD
  replace hP : va_P (dC, dI) vwCl [(h0, .inr (7, [.ref q_1, .ref q_8, .ref q_9, .int 0, .int 0, .ref q_16, .ref q_17, .ref q_18])), (q_1, .inr (4, [.ref q_2, .ref q_3])), (q_2, .inl (ca_4, 16, .inl f_6)), (q_3, .inl (cu_5, 256, .inl g_7)), (q_8, .inl (cq_8, 8, .inr (.inr (.inr (.inr f_45))))), (q_9, .inr (3, [.ref q_10, .int 0, .int 0, .int 0, .ref q_11, .ref q_12, .ref q_13, .int 0, .int 0, .int 0, .int 0, .ref q_14, .int 0, .ref q_15])), (q_17, .inl (cq_17, 16, .inl (fun _ => 0))), (q_38, .inr (3, [.ref q_39, .int 0, .int 0, .int 0, .ref q_40, .ref q_41, .ref q_42, .int 0, .int 0, .int 0, .int 0, .ref q_43, .int 0, .ref q_44]))] H := hP
  replace hD : va_D A [(h0, .inr (7, [.ref q_1, .ref q_8, .ref q_9, .int 0, .int 0, .ref q_16, .ref q_17, .ref q_18])), (q_1, .inr (4, [.ref q_2, .ref q_3])), (q_2, .inl (ca_4, 16, .inl f_6)), (q_3, .inl (cu_5, 256, .inl g_7)), (q_8, .inl (cq_8, 8, .inr (.inr (.inr (.inr f_45))))), (q_9, .inr (3, [.ref q_10, .int 0, .int 0, .int 0, .ref q_11, .ref q_12, .ref q_13, .int 0, .int 0, .int 0, .int 0, .ref q_14, .int 0, .ref q_15])), (q_17, .inl (cq_17, 16, .inl (fun _ => 0))), (q_38, .inr (3, [.ref q_39, .int 0, .int 0, .int 0, .ref q_40, .ref q_41, .ref q_42, .int 0, .int 0, .int 0, .int 0, .ref q_43, .int 0, .ref q_44]))] := hD
  replace hP := hP.sub (ws' := [(h0, .inr (7, [.ref q_1, .ref q_8, .ref q_9, .int 0, .int 0, .ref q_16, .ref q_17, .ref q_18])), (q_1, .inr (4, [.ref q_2, .ref q_3])), (q_2, .inl (ca_4, 16, .inl f_6)), (q_3, .inl (cu_5, 256, .inl g_7)), (q_8, .inl (cq_8, 8, .inr (.inr (.inr (.inr f_45))))), (q_9, .inr (3, [.ref q_10, .int 0, .int 0, .int 0, .ref q_11, .ref q_12, .ref q_13, .int 0, .int 0, .int 0, .int 0, .ref q_14, .int 0, .ref q_15])), (q_17, .inl (cq_17, 16, .inl (fun _ => 0)))]) [0, 1, 2, 3, 4, 5, 6] rfl
  replace hD := hD.sub (ws' := [(h0, .inr (7, [.ref q_1, .ref q_8, .ref q_9, .int 0, .int 0, .ref q_16, .ref q_17, .ref q_18])), (q_1, .inr (4, [.ref q_2, .ref q_3])), (q_2, .inl (ca_4, 16, .inl f_6)), (q_3, .inl (cu_5, 256, .inl g_7)), (q_8, .inl (cq_8, 8, .inr (.inr (.inr (.inr f_45))))), (q_9, .inr (3, [.ref q_10, .int 0, .int 0, .int 0, .ref q_11, .ref q_12, .ref q_13, .int 0, .int 0, .int 0, .int 0, .ref q_14, .int 0, .ref q_15])), (q_17, .inl (cq_17, 16, .inl (fun _ => 0)))]) [0, 1, 2, 3, 4, 5, 6] (by decide) rfl
  replace hK := hK.sub (tys' := [(ca_4, .int), (cu_5, .boolean), (cq_8, .object RX3), (cq_17, .int)]) [0, 1, 2, 3] rfl
  refine lv_iinc (v := 3) (lv' := [(1, .int 3), (0, .ref h0)]) hx hb dX7_init_82 hl (k := 0) rfl (by decide) (by decide) rfl (fun ls hl => ?_)
  refine lv_goto (tgt := 63) hx hb dX7_init_85 (by decide) ?_
  refine lv_iload_n hx hb dX7_init_63 rfl (lv_at hl 0 rfl) ?_
  refine lv_bipush (v := 8) hx hb dX7_init_64 (by decide) ?_
  refine lv_icmp_ge (tgt := 88) hx hb dX7_init_66 (by decide) (fun c_46 => (show False by revert c_46; decide).elim) (fun c_46 => ?_)
  refine lv_aload_n hx hb dX7_init_69 rfl (lv_at hl 1 rfl) ?_
  refine va_get (D := (dC, dI)) (ci := 7) (v := .ref q_8) (C := RX7) (T := TX7) (N := 8) hx hb hts uX7_init_X7 hown hK hP 0 rfl rfl 1 (by decide) (hts (.fieldLink RX7 22 "ClassMill$Space" "images" "[LClassMill$Image;") (by decide +kernel)) (fun _ h9 => h9) rfl dX7_init_70 ?_
  refine lv_iload_n hx hb dX7_init_73 rfl (lv_at hl 0 rfl) ?_
  refine va_new (ci := 3) (fs := [.null, .int 0, .int 0, .int 0, .null, .null, .null, .int 0, .int 0, .int 0, .int 0, .null, .int 0, .null]) (C := RX3) (T := TX3) (N := 14) hx hb hts uX7_init_X3 tyX3 tyX3_ok hown (hts (.classLink RX7 20 RX3) (by decide +kernel)) (hts (.instantiable RX3 14) (by decide +kernel)) (hts (.initialized RX3) (by decide +kernel)) hK hP hD hS hA rfl (fun j hj => by rcases (show j = 0 ∨ j = 1 ∨ j = 2 ∨ j = 3 ∨ j = 4 ∨ j = 5 ∨ j = 6 ∨ j = 7 ∨ j = 8 ∨ j = 9 ∨ j = 10 ∨ j = 11 ∨ j = 12 ∨ j = 13 by omega) with rfl | rfl | rfl | rfl | rfl | rfl | rfl | rfl | rfl | rfl | rfl | rfl | rfl | rfl <;> rfl) (Nat.le_of_ble_eq_true rfl) (Nat.le_of_ble_eq_true rfl) dX7_init_74 ?_
  clear hP hD hS
  intro q_47 H hP hD hS
  refine W.widen (k := 36) (n := 6928) (Nat.le_of_ble_eq_true rfl) (Nat.le_of_ble_eq_true rfl) ?_
  replace hP : va_P (dC, dI) vwCl [(h0, .inr (7, [.ref q_1, .ref q_8, .ref q_9, .int 0, .int 0, .ref q_16, .ref q_17, .ref q_18])), (q_1, .inr (4, [.ref q_2, .ref q_3])), (q_2, .inl (ca_4, 16, .inl f_6)), (q_3, .inl (cu_5, 256, .inl g_7)), (q_8, .inl (cq_8, 8, .inr (.inr (.inr (.inr f_45))))), (q_9, .inr (3, [.ref q_10, .int 0, .int 0, .int 0, .ref q_11, .ref q_12, .ref q_13, .int 0, .int 0, .int 0, .int 0, .ref q_14, .int 0, .ref q_15])), (q_17, .inl (cq_17, 16, .inl (fun _ => 0))), (q_47, .inr (3, [.null, .int 0, .int 0, .int 0, .null, .null, .null, .int 0, .int 0, .int 0, .int 0, .null, .int 0, .null]))] H := hP
  replace hD : va_D A [(h0, .inr (7, [.ref q_1, .ref q_8, .ref q_9, .int 0, .int 0, .ref q_16, .ref q_17, .ref q_18])), (q_1, .inr (4, [.ref q_2, .ref q_3])), (q_2, .inl (ca_4, 16, .inl f_6)), (q_3, .inl (cu_5, 256, .inl g_7)), (q_8, .inl (cq_8, 8, .inr (.inr (.inr (.inr f_45))))), (q_9, .inr (3, [.ref q_10, .int 0, .int 0, .int 0, .ref q_11, .ref q_12, .ref q_13, .int 0, .int 0, .int 0, .int 0, .ref q_14, .int 0, .ref q_15])), (q_17, .inl (cq_17, 16, .inl (fun _ => 0))), (q_47, .inr (3, [.null, .int 0, .int 0, .int 0, .null, .null, .null, .int 0, .int 0, .int 0, .int 0, .null, .int 0, .null]))] := hD
  refine lv_dup hx hb dX7_init_77 rfl ?_
  have hPc := hP.sub (ws' := [(q_47, .inr (3, [.null, .int 0, .int 0, .int 0, .null, .null, .null, .int 0, .int 0, .int 0, .int 0, .null, .int 0, .null]))]) [7] rfl
  have hDc := hD.sub (ws' := [(q_47, .inr (3, [.null, .int 0, .int 0, .int 0, .null, .null, .null, .int 0, .int 0, .int 0, .int 0, .null, .int 0, .null]))]) [7] (by decide) rfl
  have hKc := hK.sub (tys' := []) [] rfl
  have hFc := va_free (wc := [(q_47, .inr (3, [.null, .int 0, .int 0, .int 0, .null, .null, .null, .int 0, .int 0, .int 0, .int 0, .null, .int 0, .null]))]) hD hS hA [7] rfl
  refine va_callv (va_runIN (As := []) (rest := [.ref q_47, .int 3, .ref q_8]) ⟨hx, hb, hml, hown, hts⟩ (ct_img l dC dI H.size q_47) ⟨va_cnB 0 hts gX7_init_X3_init_n26 rfl rfl rfl hN_X7_26 (hts (.initialized RX3) (by decide +kernel)) (by decide +kernel) ⟨Nat.le_of_ble_eq_true rfl, Nat.le_of_ble_eq_true rfl⟩, rfl, hts (.instanceMethod yX3_init) (by decide +kernel)⟩ ⟨fun a U g mk q => by obtain ⟨q0, q1, qP, qK, qD⟩ := q; exact ⟨q0, q1, qP, va_K.moved (u := U) (U := U.calling g mk a) (Vm.Alike.refl U.vm) qK, qD⟩, fun U hU hW => ⟨rfl, by rw [hU], by rw [hU]; exact hPc, va_K.moved hW.alike hKc, hDc.weaken (fun _ _ _ _ => trivial)⟩⟩ rfl rfl hl.1 rfl (lv_room (Nat.le_of_ble_eq_true rfl)) dX7_init_78 ⟨Nat.le_of_ble_eq_true rfl, Nat.le_of_ble_eq_true rfl⟩) hS (fun q _ h => hFc q h) hFc ?_
  clear hS
  intro u t H1 locs ht hvm hw hB hz1 hk1 hS
  obtain ⟨q_48, q_49, q_50, q_51, q_52, q_53⟩ := u
  obtain ⟨hP1, hK1, hD1⟩ := hB
  rw [ht] at hP1
  have hK1 := va_K.moved hvm.symm hK1
  try dsimp only at hw
  have hPD := va_join (wr := [(h0, .inr (7, [.ref q_1, .ref q_8, .ref q_9, .int 0, .int 0, .ref q_16, .ref q_17, .ref q_18])), (q_1, .inr (4, [.ref q_2, .ref q_3])), (q_2, .inl (ca_4, 16, .inl f_6)), (q_3, .inl (cu_5, 256, .inl g_7)), (q_8, .inl (cq_8, 8, .inr (.inr (.inr (.inr f_45))))), (q_9, .inr (3, [.ref q_10, .int 0, .int 0, .int 0, .ref q_11, .ref q_12, .ref q_13, .int 0, .int 0, .int 0, .int 0, .ref q_14, .int 0, .ref q_15])), (q_17, .inl (cq_17, 16, .inl (fun _ => 0)))]) (w1 := [(q_47, .inr (3, [.ref q_48, .int 0, .int 0, .int 0, .ref q_49, .ref q_50, .ref q_51, .int 0, .int 0, .int 0, .int 0, .ref q_52, .int 0, .ref q_53]))]) hP hD [7] [0, 1, 2, 3, 4, 5, 6] rfl rfl (by decide) (by decide) hk1 hFc hP1 hD1
  clear hP hD
  obtain ⟨hP, hD⟩ := hPD
  replace hK := (hK.sub (tys' := [(ca_4, .int), (cu_5, .boolean), (cq_8, .object RX3), (cq_17, .int)]) [0, 1, 2, 3] rfl).app hK1
  clear hPc hDc hKc hFc hP1 hK1 hD1 hz1 hk1 ht hvm
  generalize H1 = H at hP hS ⊢
  replace hP : va_P (dC, dI) vwCl [(h0, .inr (7, [.ref q_1, .ref q_8, .ref q_9, .int 0, .int 0, .ref q_16, .ref q_17, .ref q_18])), (q_1, .inr (4, [.ref q_2, .ref q_3])), (q_2, .inl (ca_4, 16, .inl f_6)), (q_3, .inl (cu_5, 256, .inl g_7)), (q_8, .inl (cq_8, 8, .inr (.inr (.inr (.inr f_45))))), (q_9, .inr (3, [.ref q_10, .int 0, .int 0, .int 0, .ref q_11, .ref q_12, .ref q_13, .int 0, .int 0, .int 0, .int 0, .ref q_14, .int 0, .ref q_15])), (q_17, .inl (cq_17, 16, .inl (fun _ => 0))), (q_47, .inr (3, [.ref q_48, .int 0, .int 0, .int 0, .ref q_49, .ref q_50, .ref q_51, .int 0, .int 0, .int 0, .int 0, .ref q_52, .int 0, .ref q_53]))] H := hP
  replace hD : va_D A [(h0, .inr (7, [.ref q_1, .ref q_8, .ref q_9, .int 0, .int 0, .ref q_16, .ref q_17, .ref q_18])), (q_1, .inr (4, [.ref q_2, .ref q_3])), (q_2, .inl (ca_4, 16, .inl f_6)), (q_3, .inl (cu_5, 256, .inl g_7)), (q_8, .inl (cq_8, 8, .inr (.inr (.inr (.inr f_45))))), (q_9, .inr (3, [.ref q_10, .int 0, .int 0, .int 0, .ref q_11, .ref q_12, .ref q_13, .int 0, .int 0, .int 0, .int 0, .ref q_14, .int 0, .ref q_15])), (q_17, .inl (cq_17, 16, .inl (fun _ => 0))), (q_47, .inr (3, [.ref q_48, .int 0, .int 0, .int 0, .ref q_49, .ref q_50, .ref q_51, .int 0, .int 0, .int 0, .int 0, .ref q_52, .int 0, .ref q_53]))] := hD
  replace hK : va_K (dC, dI) vwCl [(ca_4, .int), (cu_5, .boolean), (cq_8, .object RX3), (cq_17, .int)] s := hK
  refine W.widen (k := 42) (n := 7864) (Nat.le_of_ble_eq_true rfl) (Nat.le_of_ble_eq_true rfl) ?_
  refine va_astq hx hb hK hP hD hS 4 2 7 3 rfl rfl rfl rfl (i := 3) (by unfold vp_in; decide) dX7_init_81 ?_
  clear hP hD hS
  intro H locs hP hD hS
  obtain ⟨f_54, ef_54⟩ : ∃ zf : Nat → Option Nat, zf = va_up f_45 (3 : Int32).toNatClampNeg (some q_47) := ⟨_, rfl⟩
  rw [← ef_54] at hP hD
  replace hP : va_P (dC, dI) vwCl [(h0, .inr (7, [.ref q_1, .ref q_8, .ref q_9, .int 0, .int 0, .ref q_16, .ref q_17, .ref q_18])), (q_1, .inr (4, [.ref q_2, .ref q_3])), (q_2, .inl (ca_4, 16, .inl f_6)), (q_3, .inl (cu_5, 256, .inl g_7)), (q_8, .inl (cq_8, 8, .inr (.inr (.inr (.inr f_54))))), (q_9, .inr (3, [.ref q_10, .int 0, .int 0, .int 0, .ref q_11, .ref q_12, .ref q_13, .int 0, .int 0, .int 0, .int 0, .ref q_14, .int 0, .ref q_15])), (q_17, .inl (cq_17, 16, .inl (fun _ => 0))), (q_47, .inr (3, [.ref q_48, .int 0, .int 0, .int 0, .ref q_49, .ref q_50, .ref q_51, .int 0, .int 0, .int 0, .int 0, .ref q_52, .int 0, .ref q_53]))] H := hP
  replace hD : va_D A [(h0, .inr (7, [.ref q_1, .ref q_8, .ref q_9, .int 0, .int 0, .ref q_16, .ref q_17, .ref q_18])), (q_1, .inr (4, [.ref q_2, .ref q_3])), (q_2, .inl (ca_4, 16, .inl f_6)), (q_3, .inl (cu_5, 256, .inl g_7)), (q_8, .inl (cq_8, 8, .inr (.inr (.inr (.inr f_54))))), (q_9, .inr (3, [.ref q_10, .int 0, .int 0, .int 0, .ref q_11, .ref q_12, .ref q_13, .int 0, .int 0, .int 0, .int 0, .ref q_14, .int 0, .ref q_15])), (q_17, .inl (cq_17, 16, .inl (fun _ => 0))), (q_47, .inr (3, [.ref q_48, .int 0, .int 0, .int 0, .ref q_49, .ref q_50, .ref q_51, .int 0, .int 0, .int 0, .int 0, .ref q_52, .int 0, .ref q_53]))] := hD
  replace hP := hP.sub (ws' := [(h0, .inr (7, [.ref q_1, .ref q_8, .ref q_9, .int 0, .int 0, .ref q_16, .ref q_17, .ref q_18])), (q_1, .inr (4, [.ref q_2, .ref q_3])), (q_2, .inl (ca_4, 16, .inl f_6)), (q_3, .inl (cu_5, 256, .inl g_7)), (q_8, .inl (cq_8, 8, .inr (.inr (.inr (.inr f_54))))), (q_9, .inr (3, [.ref q_10, .int 0, .int 0, .int 0, .ref q_11, .ref q_12, .ref q_13, .int 0, .int 0, .int 0, .int 0, .ref q_14, .int 0, .ref q_15])), (q_17, .inl (cq_17, 16, .inl (fun _ => 0)))]) [0, 1, 2, 3, 4, 5, 6] rfl
  replace hD := hD.sub (ws' := [(h0, .inr (7, [.ref q_1, .ref q_8, .ref q_9, .int 0, .int 0, .ref q_16, .ref q_17, .ref q_18])), (q_1, .inr (4, [.ref q_2, .ref q_3])), (q_2, .inl (ca_4, 16, .inl f_6)), (q_3, .inl (cu_5, 256, .inl g_7)), (q_8, .inl (cq_8, 8, .inr (.inr (.inr (.inr f_54))))), (q_9, .inr (3, [.ref q_10, .int 0, .int 0, .int 0, .ref q_11, .ref q_12, .ref q_13, .int 0, .int 0, .int 0, .int 0, .ref q_14, .int 0, .ref q_15])), (q_17, .inl (cq_17, 16, .inl (fun _ => 0)))]) [0, 1, 2, 3, 4, 5, 6] (by decide) rfl
  replace hK := hK.sub (tys' := [(ca_4, .int), (cu_5, .boolean), (cq_8, .object RX3), (cq_17, .int)]) [0, 1, 2, 3] rfl
  refine lv_iinc (v := 4) (lv' := [(1, .int 4), (0, .ref h0)]) hx hb dX7_init_82 hl (k := 0) rfl (by decide) (by decide) rfl (fun ls hl => ?_)
  refine lv_goto (tgt := 63) hx hb dX7_init_85 (by decide) ?_
  refine lv_iload_n hx hb dX7_init_63 rfl (lv_at hl 0 rfl) ?_
  refine lv_bipush (v := 8) hx hb dX7_init_64 (by decide) ?_
  refine lv_icmp_ge (tgt := 88) hx hb dX7_init_66 (by decide) (fun c_55 => (show False by revert c_55; decide).elim) (fun c_55 => ?_)
  refine lv_aload_n hx hb dX7_init_69 rfl (lv_at hl 1 rfl) ?_
  refine va_get (D := (dC, dI)) (ci := 7) (v := .ref q_8) (C := RX7) (T := TX7) (N := 8) hx hb hts uX7_init_X7 hown hK hP 0 rfl rfl 1 (by decide) (hts (.fieldLink RX7 22 "ClassMill$Space" "images" "[LClassMill$Image;") (by decide +kernel)) (fun _ h9 => h9) rfl dX7_init_70 ?_
  refine lv_iload_n hx hb dX7_init_73 rfl (lv_at hl 0 rfl) ?_
  refine va_new (ci := 3) (fs := [.null, .int 0, .int 0, .int 0, .null, .null, .null, .int 0, .int 0, .int 0, .int 0, .null, .int 0, .null]) (C := RX3) (T := TX3) (N := 14) hx hb hts uX7_init_X3 tyX3 tyX3_ok hown (hts (.classLink RX7 20 RX3) (by decide +kernel)) (hts (.instantiable RX3 14) (by decide +kernel)) (hts (.initialized RX3) (by decide +kernel)) hK hP hD hS hA rfl (fun j hj => by rcases (show j = 0 ∨ j = 1 ∨ j = 2 ∨ j = 3 ∨ j = 4 ∨ j = 5 ∨ j = 6 ∨ j = 7 ∨ j = 8 ∨ j = 9 ∨ j = 10 ∨ j = 11 ∨ j = 12 ∨ j = 13 by omega) with rfl | rfl | rfl | rfl | rfl | rfl | rfl | rfl | rfl | rfl | rfl | rfl | rfl | rfl <;> rfl) (Nat.le_of_ble_eq_true rfl) (Nat.le_of_ble_eq_true rfl) dX7_init_74 ?_
  clear hP hD hS
  intro q_56 H hP hD hS
  refine W.widen (k := 43) (n := 7878) (Nat.le_of_ble_eq_true rfl) (Nat.le_of_ble_eq_true rfl) ?_
  replace hP : va_P (dC, dI) vwCl [(h0, .inr (7, [.ref q_1, .ref q_8, .ref q_9, .int 0, .int 0, .ref q_16, .ref q_17, .ref q_18])), (q_1, .inr (4, [.ref q_2, .ref q_3])), (q_2, .inl (ca_4, 16, .inl f_6)), (q_3, .inl (cu_5, 256, .inl g_7)), (q_8, .inl (cq_8, 8, .inr (.inr (.inr (.inr f_54))))), (q_9, .inr (3, [.ref q_10, .int 0, .int 0, .int 0, .ref q_11, .ref q_12, .ref q_13, .int 0, .int 0, .int 0, .int 0, .ref q_14, .int 0, .ref q_15])), (q_17, .inl (cq_17, 16, .inl (fun _ => 0))), (q_56, .inr (3, [.null, .int 0, .int 0, .int 0, .null, .null, .null, .int 0, .int 0, .int 0, .int 0, .null, .int 0, .null]))] H := hP
  replace hD : va_D A [(h0, .inr (7, [.ref q_1, .ref q_8, .ref q_9, .int 0, .int 0, .ref q_16, .ref q_17, .ref q_18])), (q_1, .inr (4, [.ref q_2, .ref q_3])), (q_2, .inl (ca_4, 16, .inl f_6)), (q_3, .inl (cu_5, 256, .inl g_7)), (q_8, .inl (cq_8, 8, .inr (.inr (.inr (.inr f_54))))), (q_9, .inr (3, [.ref q_10, .int 0, .int 0, .int 0, .ref q_11, .ref q_12, .ref q_13, .int 0, .int 0, .int 0, .int 0, .ref q_14, .int 0, .ref q_15])), (q_17, .inl (cq_17, 16, .inl (fun _ => 0))), (q_56, .inr (3, [.null, .int 0, .int 0, .int 0, .null, .null, .null, .int 0, .int 0, .int 0, .int 0, .null, .int 0, .null]))] := hD
  refine lv_dup hx hb dX7_init_77 rfl ?_
  have hPc := hP.sub (ws' := [(q_56, .inr (3, [.null, .int 0, .int 0, .int 0, .null, .null, .null, .int 0, .int 0, .int 0, .int 0, .null, .int 0, .null]))]) [7] rfl
  have hDc := hD.sub (ws' := [(q_56, .inr (3, [.null, .int 0, .int 0, .int 0, .null, .null, .null, .int 0, .int 0, .int 0, .int 0, .null, .int 0, .null]))]) [7] (by decide) rfl
  have hKc := hK.sub (tys' := []) [] rfl
  have hFc := va_free (wc := [(q_56, .inr (3, [.null, .int 0, .int 0, .int 0, .null, .null, .null, .int 0, .int 0, .int 0, .int 0, .null, .int 0, .null]))]) hD hS hA [7] rfl
  refine va_callv (va_runIN (As := []) (rest := [.ref q_56, .int 4, .ref q_8]) ⟨hx, hb, hml, hown, hts⟩ (ct_img l dC dI H.size q_56) ⟨va_cnB 0 hts gX7_init_X3_init_n26 rfl rfl rfl hN_X7_26 (hts (.initialized RX3) (by decide +kernel)) (by decide +kernel) ⟨Nat.le_of_ble_eq_true rfl, Nat.le_of_ble_eq_true rfl⟩, rfl, hts (.instanceMethod yX3_init) (by decide +kernel)⟩ ⟨fun a U g mk q => by obtain ⟨q0, q1, qP, qK, qD⟩ := q; exact ⟨q0, q1, qP, va_K.moved (u := U) (U := U.calling g mk a) (Vm.Alike.refl U.vm) qK, qD⟩, fun U hU hW => ⟨rfl, by rw [hU], by rw [hU]; exact hPc, va_K.moved hW.alike hKc, hDc.weaken (fun _ _ _ _ => trivial)⟩⟩ rfl rfl hl.1 rfl (lv_room (Nat.le_of_ble_eq_true rfl)) dX7_init_78 ⟨Nat.le_of_ble_eq_true rfl, Nat.le_of_ble_eq_true rfl⟩) hS (fun q _ h => hFc q h) hFc ?_
  clear hS
  intro u t H1 locs ht hvm hw hB hz1 hk1 hS
  obtain ⟨q_57, q_58, q_59, q_60, q_61, q_62⟩ := u
  obtain ⟨hP1, hK1, hD1⟩ := hB
  rw [ht] at hP1
  have hK1 := va_K.moved hvm.symm hK1
  try dsimp only at hw
  have hPD := va_join (wr := [(h0, .inr (7, [.ref q_1, .ref q_8, .ref q_9, .int 0, .int 0, .ref q_16, .ref q_17, .ref q_18])), (q_1, .inr (4, [.ref q_2, .ref q_3])), (q_2, .inl (ca_4, 16, .inl f_6)), (q_3, .inl (cu_5, 256, .inl g_7)), (q_8, .inl (cq_8, 8, .inr (.inr (.inr (.inr f_54))))), (q_9, .inr (3, [.ref q_10, .int 0, .int 0, .int 0, .ref q_11, .ref q_12, .ref q_13, .int 0, .int 0, .int 0, .int 0, .ref q_14, .int 0, .ref q_15])), (q_17, .inl (cq_17, 16, .inl (fun _ => 0)))]) (w1 := [(q_56, .inr (3, [.ref q_57, .int 0, .int 0, .int 0, .ref q_58, .ref q_59, .ref q_60, .int 0, .int 0, .int 0, .int 0, .ref q_61, .int 0, .ref q_62]))]) hP hD [7] [0, 1, 2, 3, 4, 5, 6] rfl rfl (by decide) (by decide) hk1 hFc hP1 hD1
  clear hP hD
  obtain ⟨hP, hD⟩ := hPD
  replace hK := (hK.sub (tys' := [(ca_4, .int), (cu_5, .boolean), (cq_8, .object RX3), (cq_17, .int)]) [0, 1, 2, 3] rfl).app hK1
  clear hPc hDc hKc hFc hP1 hK1 hD1 hz1 hk1 ht hvm
  generalize H1 = H at hP hS ⊢
  replace hP : va_P (dC, dI) vwCl [(h0, .inr (7, [.ref q_1, .ref q_8, .ref q_9, .int 0, .int 0, .ref q_16, .ref q_17, .ref q_18])), (q_1, .inr (4, [.ref q_2, .ref q_3])), (q_2, .inl (ca_4, 16, .inl f_6)), (q_3, .inl (cu_5, 256, .inl g_7)), (q_8, .inl (cq_8, 8, .inr (.inr (.inr (.inr f_54))))), (q_9, .inr (3, [.ref q_10, .int 0, .int 0, .int 0, .ref q_11, .ref q_12, .ref q_13, .int 0, .int 0, .int 0, .int 0, .ref q_14, .int 0, .ref q_15])), (q_17, .inl (cq_17, 16, .inl (fun _ => 0))), (q_56, .inr (3, [.ref q_57, .int 0, .int 0, .int 0, .ref q_58, .ref q_59, .ref q_60, .int 0, .int 0, .int 0, .int 0, .ref q_61, .int 0, .ref q_62]))] H := hP
  replace hD : va_D A [(h0, .inr (7, [.ref q_1, .ref q_8, .ref q_9, .int 0, .int 0, .ref q_16, .ref q_17, .ref q_18])), (q_1, .inr (4, [.ref q_2, .ref q_3])), (q_2, .inl (ca_4, 16, .inl f_6)), (q_3, .inl (cu_5, 256, .inl g_7)), (q_8, .inl (cq_8, 8, .inr (.inr (.inr (.inr f_54))))), (q_9, .inr (3, [.ref q_10, .int 0, .int 0, .int 0, .ref q_11, .ref q_12, .ref q_13, .int 0, .int 0, .int 0, .int 0, .ref q_14, .int 0, .ref q_15])), (q_17, .inl (cq_17, 16, .inl (fun _ => 0))), (q_56, .inr (3, [.ref q_57, .int 0, .int 0, .int 0, .ref q_58, .ref q_59, .ref q_60, .int 0, .int 0, .int 0, .int 0, .ref q_61, .int 0, .ref q_62]))] := hD
  replace hK : va_K (dC, dI) vwCl [(ca_4, .int), (cu_5, .boolean), (cq_8, .object RX3), (cq_17, .int)] s := hK
  refine W.widen (k := 49) (n := 8814) (Nat.le_of_ble_eq_true rfl) (Nat.le_of_ble_eq_true rfl) ?_
  refine va_astq hx hb hK hP hD hS 4 2 7 3 rfl rfl rfl rfl (i := 4) (by unfold vp_in; decide) dX7_init_81 ?_
  clear hP hD hS
  intro H locs hP hD hS
  obtain ⟨f_63, ef_63⟩ : ∃ zf : Nat → Option Nat, zf = va_up f_54 (4 : Int32).toNatClampNeg (some q_56) := ⟨_, rfl⟩
  rw [← ef_63] at hP hD
  replace hP : va_P (dC, dI) vwCl [(h0, .inr (7, [.ref q_1, .ref q_8, .ref q_9, .int 0, .int 0, .ref q_16, .ref q_17, .ref q_18])), (q_1, .inr (4, [.ref q_2, .ref q_3])), (q_2, .inl (ca_4, 16, .inl f_6)), (q_3, .inl (cu_5, 256, .inl g_7)), (q_8, .inl (cq_8, 8, .inr (.inr (.inr (.inr f_63))))), (q_9, .inr (3, [.ref q_10, .int 0, .int 0, .int 0, .ref q_11, .ref q_12, .ref q_13, .int 0, .int 0, .int 0, .int 0, .ref q_14, .int 0, .ref q_15])), (q_17, .inl (cq_17, 16, .inl (fun _ => 0))), (q_56, .inr (3, [.ref q_57, .int 0, .int 0, .int 0, .ref q_58, .ref q_59, .ref q_60, .int 0, .int 0, .int 0, .int 0, .ref q_61, .int 0, .ref q_62]))] H := hP
  replace hD : va_D A [(h0, .inr (7, [.ref q_1, .ref q_8, .ref q_9, .int 0, .int 0, .ref q_16, .ref q_17, .ref q_18])), (q_1, .inr (4, [.ref q_2, .ref q_3])), (q_2, .inl (ca_4, 16, .inl f_6)), (q_3, .inl (cu_5, 256, .inl g_7)), (q_8, .inl (cq_8, 8, .inr (.inr (.inr (.inr f_63))))), (q_9, .inr (3, [.ref q_10, .int 0, .int 0, .int 0, .ref q_11, .ref q_12, .ref q_13, .int 0, .int 0, .int 0, .int 0, .ref q_14, .int 0, .ref q_15])), (q_17, .inl (cq_17, 16, .inl (fun _ => 0))), (q_56, .inr (3, [.ref q_57, .int 0, .int 0, .int 0, .ref q_58, .ref q_59, .ref q_60, .int 0, .int 0, .int 0, .int 0, .ref q_61, .int 0, .ref q_62]))] := hD
  replace hP := hP.sub (ws' := [(h0, .inr (7, [.ref q_1, .ref q_8, .ref q_9, .int 0, .int 0, .ref q_16, .ref q_17, .ref q_18])), (q_1, .inr (4, [.ref q_2, .ref q_3])), (q_2, .inl (ca_4, 16, .inl f_6)), (q_3, .inl (cu_5, 256, .inl g_7)), (q_8, .inl (cq_8, 8, .inr (.inr (.inr (.inr f_63))))), (q_9, .inr (3, [.ref q_10, .int 0, .int 0, .int 0, .ref q_11, .ref q_12, .ref q_13, .int 0, .int 0, .int 0, .int 0, .ref q_14, .int 0, .ref q_15])), (q_17, .inl (cq_17, 16, .inl (fun _ => 0)))]) [0, 1, 2, 3, 4, 5, 6] rfl
  replace hD := hD.sub (ws' := [(h0, .inr (7, [.ref q_1, .ref q_8, .ref q_9, .int 0, .int 0, .ref q_16, .ref q_17, .ref q_18])), (q_1, .inr (4, [.ref q_2, .ref q_3])), (q_2, .inl (ca_4, 16, .inl f_6)), (q_3, .inl (cu_5, 256, .inl g_7)), (q_8, .inl (cq_8, 8, .inr (.inr (.inr (.inr f_63))))), (q_9, .inr (3, [.ref q_10, .int 0, .int 0, .int 0, .ref q_11, .ref q_12, .ref q_13, .int 0, .int 0, .int 0, .int 0, .ref q_14, .int 0, .ref q_15])), (q_17, .inl (cq_17, 16, .inl (fun _ => 0)))]) [0, 1, 2, 3, 4, 5, 6] (by decide) rfl
  replace hK := hK.sub (tys' := [(ca_4, .int), (cu_5, .boolean), (cq_8, .object RX3), (cq_17, .int)]) [0, 1, 2, 3] rfl
  refine lv_iinc (v := 5) (lv' := [(1, .int 5), (0, .ref h0)]) hx hb dX7_init_82 hl (k := 0) rfl (by decide) (by decide) rfl (fun ls hl => ?_)
  refine lv_goto (tgt := 63) hx hb dX7_init_85 (by decide) ?_
  refine lv_iload_n hx hb dX7_init_63 rfl (lv_at hl 0 rfl) ?_
  refine lv_bipush (v := 8) hx hb dX7_init_64 (by decide) ?_
  refine lv_icmp_ge (tgt := 88) hx hb dX7_init_66 (by decide) (fun c_64 => (show False by revert c_64; decide).elim) (fun c_64 => ?_)
  refine lv_aload_n hx hb dX7_init_69 rfl (lv_at hl 1 rfl) ?_
  refine va_get (D := (dC, dI)) (ci := 7) (v := .ref q_8) (C := RX7) (T := TX7) (N := 8) hx hb hts uX7_init_X7 hown hK hP 0 rfl rfl 1 (by decide) (hts (.fieldLink RX7 22 "ClassMill$Space" "images" "[LClassMill$Image;") (by decide +kernel)) (fun _ h9 => h9) rfl dX7_init_70 ?_
  refine lv_iload_n hx hb dX7_init_73 rfl (lv_at hl 0 rfl) ?_
  refine va_new (ci := 3) (fs := [.null, .int 0, .int 0, .int 0, .null, .null, .null, .int 0, .int 0, .int 0, .int 0, .null, .int 0, .null]) (C := RX3) (T := TX3) (N := 14) hx hb hts uX7_init_X3 tyX3 tyX3_ok hown (hts (.classLink RX7 20 RX3) (by decide +kernel)) (hts (.instantiable RX3 14) (by decide +kernel)) (hts (.initialized RX3) (by decide +kernel)) hK hP hD hS hA rfl (fun j hj => by rcases (show j = 0 ∨ j = 1 ∨ j = 2 ∨ j = 3 ∨ j = 4 ∨ j = 5 ∨ j = 6 ∨ j = 7 ∨ j = 8 ∨ j = 9 ∨ j = 10 ∨ j = 11 ∨ j = 12 ∨ j = 13 by omega) with rfl | rfl | rfl | rfl | rfl | rfl | rfl | rfl | rfl | rfl | rfl | rfl | rfl | rfl <;> rfl) (Nat.le_of_ble_eq_true rfl) (Nat.le_of_ble_eq_true rfl) dX7_init_74 ?_
  clear hP hD hS
  intro q_65 H hP hD hS
  refine W.widen (k := 50) (n := 8828) (Nat.le_of_ble_eq_true rfl) (Nat.le_of_ble_eq_true rfl) ?_
  replace hP : va_P (dC, dI) vwCl [(h0, .inr (7, [.ref q_1, .ref q_8, .ref q_9, .int 0, .int 0, .ref q_16, .ref q_17, .ref q_18])), (q_1, .inr (4, [.ref q_2, .ref q_3])), (q_2, .inl (ca_4, 16, .inl f_6)), (q_3, .inl (cu_5, 256, .inl g_7)), (q_8, .inl (cq_8, 8, .inr (.inr (.inr (.inr f_63))))), (q_9, .inr (3, [.ref q_10, .int 0, .int 0, .int 0, .ref q_11, .ref q_12, .ref q_13, .int 0, .int 0, .int 0, .int 0, .ref q_14, .int 0, .ref q_15])), (q_17, .inl (cq_17, 16, .inl (fun _ => 0))), (q_65, .inr (3, [.null, .int 0, .int 0, .int 0, .null, .null, .null, .int 0, .int 0, .int 0, .int 0, .null, .int 0, .null]))] H := hP
  replace hD : va_D A [(h0, .inr (7, [.ref q_1, .ref q_8, .ref q_9, .int 0, .int 0, .ref q_16, .ref q_17, .ref q_18])), (q_1, .inr (4, [.ref q_2, .ref q_3])), (q_2, .inl (ca_4, 16, .inl f_6)), (q_3, .inl (cu_5, 256, .inl g_7)), (q_8, .inl (cq_8, 8, .inr (.inr (.inr (.inr f_63))))), (q_9, .inr (3, [.ref q_10, .int 0, .int 0, .int 0, .ref q_11, .ref q_12, .ref q_13, .int 0, .int 0, .int 0, .int 0, .ref q_14, .int 0, .ref q_15])), (q_17, .inl (cq_17, 16, .inl (fun _ => 0))), (q_65, .inr (3, [.null, .int 0, .int 0, .int 0, .null, .null, .null, .int 0, .int 0, .int 0, .int 0, .null, .int 0, .null]))] := hD
  refine lv_dup hx hb dX7_init_77 rfl ?_
  have hPc := hP.sub (ws' := [(q_65, .inr (3, [.null, .int 0, .int 0, .int 0, .null, .null, .null, .int 0, .int 0, .int 0, .int 0, .null, .int 0, .null]))]) [7] rfl
  have hDc := hD.sub (ws' := [(q_65, .inr (3, [.null, .int 0, .int 0, .int 0, .null, .null, .null, .int 0, .int 0, .int 0, .int 0, .null, .int 0, .null]))]) [7] (by decide) rfl
  have hKc := hK.sub (tys' := []) [] rfl
  have hFc := va_free (wc := [(q_65, .inr (3, [.null, .int 0, .int 0, .int 0, .null, .null, .null, .int 0, .int 0, .int 0, .int 0, .null, .int 0, .null]))]) hD hS hA [7] rfl
  refine va_callv (va_runIN (As := []) (rest := [.ref q_65, .int 5, .ref q_8]) ⟨hx, hb, hml, hown, hts⟩ (ct_img l dC dI H.size q_65) ⟨va_cnB 0 hts gX7_init_X3_init_n26 rfl rfl rfl hN_X7_26 (hts (.initialized RX3) (by decide +kernel)) (by decide +kernel) ⟨Nat.le_of_ble_eq_true rfl, Nat.le_of_ble_eq_true rfl⟩, rfl, hts (.instanceMethod yX3_init) (by decide +kernel)⟩ ⟨fun a U g mk q => by obtain ⟨q0, q1, qP, qK, qD⟩ := q; exact ⟨q0, q1, qP, va_K.moved (u := U) (U := U.calling g mk a) (Vm.Alike.refl U.vm) qK, qD⟩, fun U hU hW => ⟨rfl, by rw [hU], by rw [hU]; exact hPc, va_K.moved hW.alike hKc, hDc.weaken (fun _ _ _ _ => trivial)⟩⟩ rfl rfl hl.1 rfl (lv_room (Nat.le_of_ble_eq_true rfl)) dX7_init_78 ⟨Nat.le_of_ble_eq_true rfl, Nat.le_of_ble_eq_true rfl⟩) hS (fun q _ h => hFc q h) hFc ?_
  clear hS
  intro u t H1 locs ht hvm hw hB hz1 hk1 hS
  obtain ⟨q_66, q_67, q_68, q_69, q_70, q_71⟩ := u
  obtain ⟨hP1, hK1, hD1⟩ := hB
  rw [ht] at hP1
  have hK1 := va_K.moved hvm.symm hK1
  try dsimp only at hw
  have hPD := va_join (wr := [(h0, .inr (7, [.ref q_1, .ref q_8, .ref q_9, .int 0, .int 0, .ref q_16, .ref q_17, .ref q_18])), (q_1, .inr (4, [.ref q_2, .ref q_3])), (q_2, .inl (ca_4, 16, .inl f_6)), (q_3, .inl (cu_5, 256, .inl g_7)), (q_8, .inl (cq_8, 8, .inr (.inr (.inr (.inr f_63))))), (q_9, .inr (3, [.ref q_10, .int 0, .int 0, .int 0, .ref q_11, .ref q_12, .ref q_13, .int 0, .int 0, .int 0, .int 0, .ref q_14, .int 0, .ref q_15])), (q_17, .inl (cq_17, 16, .inl (fun _ => 0)))]) (w1 := [(q_65, .inr (3, [.ref q_66, .int 0, .int 0, .int 0, .ref q_67, .ref q_68, .ref q_69, .int 0, .int 0, .int 0, .int 0, .ref q_70, .int 0, .ref q_71]))]) hP hD [7] [0, 1, 2, 3, 4, 5, 6] rfl rfl (by decide) (by decide) hk1 hFc hP1 hD1
  clear hP hD
  obtain ⟨hP, hD⟩ := hPD
  replace hK := (hK.sub (tys' := [(ca_4, .int), (cu_5, .boolean), (cq_8, .object RX3), (cq_17, .int)]) [0, 1, 2, 3] rfl).app hK1
  clear hPc hDc hKc hFc hP1 hK1 hD1 hz1 hk1 ht hvm
  generalize H1 = H at hP hS ⊢
  replace hP : va_P (dC, dI) vwCl [(h0, .inr (7, [.ref q_1, .ref q_8, .ref q_9, .int 0, .int 0, .ref q_16, .ref q_17, .ref q_18])), (q_1, .inr (4, [.ref q_2, .ref q_3])), (q_2, .inl (ca_4, 16, .inl f_6)), (q_3, .inl (cu_5, 256, .inl g_7)), (q_8, .inl (cq_8, 8, .inr (.inr (.inr (.inr f_63))))), (q_9, .inr (3, [.ref q_10, .int 0, .int 0, .int 0, .ref q_11, .ref q_12, .ref q_13, .int 0, .int 0, .int 0, .int 0, .ref q_14, .int 0, .ref q_15])), (q_17, .inl (cq_17, 16, .inl (fun _ => 0))), (q_65, .inr (3, [.ref q_66, .int 0, .int 0, .int 0, .ref q_67, .ref q_68, .ref q_69, .int 0, .int 0, .int 0, .int 0, .ref q_70, .int 0, .ref q_71]))] H := hP
  replace hD : va_D A [(h0, .inr (7, [.ref q_1, .ref q_8, .ref q_9, .int 0, .int 0, .ref q_16, .ref q_17, .ref q_18])), (q_1, .inr (4, [.ref q_2, .ref q_3])), (q_2, .inl (ca_4, 16, .inl f_6)), (q_3, .inl (cu_5, 256, .inl g_7)), (q_8, .inl (cq_8, 8, .inr (.inr (.inr (.inr f_63))))), (q_9, .inr (3, [.ref q_10, .int 0, .int 0, .int 0, .ref q_11, .ref q_12, .ref q_13, .int 0, .int 0, .int 0, .int 0, .ref q_14, .int 0, .ref q_15])), (q_17, .inl (cq_17, 16, .inl (fun _ => 0))), (q_65, .inr (3, [.ref q_66, .int 0, .int 0, .int 0, .ref q_67, .ref q_68, .ref q_69, .int 0, .int 0, .int 0, .int 0, .ref q_70, .int 0, .ref q_71]))] := hD
  replace hK : va_K (dC, dI) vwCl [(ca_4, .int), (cu_5, .boolean), (cq_8, .object RX3), (cq_17, .int)] s := hK
  refine W.widen (k := 56) (n := 9764) (Nat.le_of_ble_eq_true rfl) (Nat.le_of_ble_eq_true rfl) ?_
  refine va_astq hx hb hK hP hD hS 4 2 7 3 rfl rfl rfl rfl (i := 5) (by unfold vp_in; decide) dX7_init_81 ?_
  clear hP hD hS
  intro H locs hP hD hS
  obtain ⟨f_72, ef_72⟩ : ∃ zf : Nat → Option Nat, zf = va_up f_63 (5 : Int32).toNatClampNeg (some q_65) := ⟨_, rfl⟩
  rw [← ef_72] at hP hD
  replace hP : va_P (dC, dI) vwCl [(h0, .inr (7, [.ref q_1, .ref q_8, .ref q_9, .int 0, .int 0, .ref q_16, .ref q_17, .ref q_18])), (q_1, .inr (4, [.ref q_2, .ref q_3])), (q_2, .inl (ca_4, 16, .inl f_6)), (q_3, .inl (cu_5, 256, .inl g_7)), (q_8, .inl (cq_8, 8, .inr (.inr (.inr (.inr f_72))))), (q_9, .inr (3, [.ref q_10, .int 0, .int 0, .int 0, .ref q_11, .ref q_12, .ref q_13, .int 0, .int 0, .int 0, .int 0, .ref q_14, .int 0, .ref q_15])), (q_17, .inl (cq_17, 16, .inl (fun _ => 0))), (q_65, .inr (3, [.ref q_66, .int 0, .int 0, .int 0, .ref q_67, .ref q_68, .ref q_69, .int 0, .int 0, .int 0, .int 0, .ref q_70, .int 0, .ref q_71]))] H := hP
  replace hD : va_D A [(h0, .inr (7, [.ref q_1, .ref q_8, .ref q_9, .int 0, .int 0, .ref q_16, .ref q_17, .ref q_18])), (q_1, .inr (4, [.ref q_2, .ref q_3])), (q_2, .inl (ca_4, 16, .inl f_6)), (q_3, .inl (cu_5, 256, .inl g_7)), (q_8, .inl (cq_8, 8, .inr (.inr (.inr (.inr f_72))))), (q_9, .inr (3, [.ref q_10, .int 0, .int 0, .int 0, .ref q_11, .ref q_12, .ref q_13, .int 0, .int 0, .int 0, .int 0, .ref q_14, .int 0, .ref q_15])), (q_17, .inl (cq_17, 16, .inl (fun _ => 0))), (q_65, .inr (3, [.ref q_66, .int 0, .int 0, .int 0, .ref q_67, .ref q_68, .ref q_69, .int 0, .int 0, .int 0, .int 0, .ref q_70, .int 0, .ref q_71]))] := hD
  replace hP := hP.sub (ws' := [(h0, .inr (7, [.ref q_1, .ref q_8, .ref q_9, .int 0, .int 0, .ref q_16, .ref q_17, .ref q_18])), (q_1, .inr (4, [.ref q_2, .ref q_3])), (q_2, .inl (ca_4, 16, .inl f_6)), (q_3, .inl (cu_5, 256, .inl g_7)), (q_8, .inl (cq_8, 8, .inr (.inr (.inr (.inr f_72))))), (q_9, .inr (3, [.ref q_10, .int 0, .int 0, .int 0, .ref q_11, .ref q_12, .ref q_13, .int 0, .int 0, .int 0, .int 0, .ref q_14, .int 0, .ref q_15])), (q_17, .inl (cq_17, 16, .inl (fun _ => 0)))]) [0, 1, 2, 3, 4, 5, 6] rfl
  replace hD := hD.sub (ws' := [(h0, .inr (7, [.ref q_1, .ref q_8, .ref q_9, .int 0, .int 0, .ref q_16, .ref q_17, .ref q_18])), (q_1, .inr (4, [.ref q_2, .ref q_3])), (q_2, .inl (ca_4, 16, .inl f_6)), (q_3, .inl (cu_5, 256, .inl g_7)), (q_8, .inl (cq_8, 8, .inr (.inr (.inr (.inr f_72))))), (q_9, .inr (3, [.ref q_10, .int 0, .int 0, .int 0, .ref q_11, .ref q_12, .ref q_13, .int 0, .int 0, .int 0, .int 0, .ref q_14, .int 0, .ref q_15])), (q_17, .inl (cq_17, 16, .inl (fun _ => 0)))]) [0, 1, 2, 3, 4, 5, 6] (by decide) rfl
  replace hK := hK.sub (tys' := [(ca_4, .int), (cu_5, .boolean), (cq_8, .object RX3), (cq_17, .int)]) [0, 1, 2, 3] rfl
  refine lv_iinc (v := 6) (lv' := [(1, .int 6), (0, .ref h0)]) hx hb dX7_init_82 hl (k := 0) rfl (by decide) (by decide) rfl (fun ls hl => ?_)
  refine lv_goto (tgt := 63) hx hb dX7_init_85 (by decide) ?_
  refine lv_iload_n hx hb dX7_init_63 rfl (lv_at hl 0 rfl) ?_
  refine lv_bipush (v := 8) hx hb dX7_init_64 (by decide) ?_
  refine lv_icmp_ge (tgt := 88) hx hb dX7_init_66 (by decide) (fun c_73 => (show False by revert c_73; decide).elim) (fun c_73 => ?_)
  refine lv_aload_n hx hb dX7_init_69 rfl (lv_at hl 1 rfl) ?_
  refine va_get (D := (dC, dI)) (ci := 7) (v := .ref q_8) (C := RX7) (T := TX7) (N := 8) hx hb hts uX7_init_X7 hown hK hP 0 rfl rfl 1 (by decide) (hts (.fieldLink RX7 22 "ClassMill$Space" "images" "[LClassMill$Image;") (by decide +kernel)) (fun _ h9 => h9) rfl dX7_init_70 ?_
  refine lv_iload_n hx hb dX7_init_73 rfl (lv_at hl 0 rfl) ?_
  refine va_new (ci := 3) (fs := [.null, .int 0, .int 0, .int 0, .null, .null, .null, .int 0, .int 0, .int 0, .int 0, .null, .int 0, .null]) (C := RX3) (T := TX3) (N := 14) hx hb hts uX7_init_X3 tyX3 tyX3_ok hown (hts (.classLink RX7 20 RX3) (by decide +kernel)) (hts (.instantiable RX3 14) (by decide +kernel)) (hts (.initialized RX3) (by decide +kernel)) hK hP hD hS hA rfl (fun j hj => by rcases (show j = 0 ∨ j = 1 ∨ j = 2 ∨ j = 3 ∨ j = 4 ∨ j = 5 ∨ j = 6 ∨ j = 7 ∨ j = 8 ∨ j = 9 ∨ j = 10 ∨ j = 11 ∨ j = 12 ∨ j = 13 by omega) with rfl | rfl | rfl | rfl | rfl | rfl | rfl | rfl | rfl | rfl | rfl | rfl | rfl | rfl <;> rfl) (Nat.le_of_ble_eq_true rfl) (Nat.le_of_ble_eq_true rfl) dX7_init_74 ?_
  clear hP hD hS
  intro q_74 H hP hD hS
  refine W.widen (k := 57) (n := 9778) (Nat.le_of_ble_eq_true rfl) (Nat.le_of_ble_eq_true rfl) ?_
  replace hP : va_P (dC, dI) vwCl [(h0, .inr (7, [.ref q_1, .ref q_8, .ref q_9, .int 0, .int 0, .ref q_16, .ref q_17, .ref q_18])), (q_1, .inr (4, [.ref q_2, .ref q_3])), (q_2, .inl (ca_4, 16, .inl f_6)), (q_3, .inl (cu_5, 256, .inl g_7)), (q_8, .inl (cq_8, 8, .inr (.inr (.inr (.inr f_72))))), (q_9, .inr (3, [.ref q_10, .int 0, .int 0, .int 0, .ref q_11, .ref q_12, .ref q_13, .int 0, .int 0, .int 0, .int 0, .ref q_14, .int 0, .ref q_15])), (q_17, .inl (cq_17, 16, .inl (fun _ => 0))), (q_74, .inr (3, [.null, .int 0, .int 0, .int 0, .null, .null, .null, .int 0, .int 0, .int 0, .int 0, .null, .int 0, .null]))] H := hP
  replace hD : va_D A [(h0, .inr (7, [.ref q_1, .ref q_8, .ref q_9, .int 0, .int 0, .ref q_16, .ref q_17, .ref q_18])), (q_1, .inr (4, [.ref q_2, .ref q_3])), (q_2, .inl (ca_4, 16, .inl f_6)), (q_3, .inl (cu_5, 256, .inl g_7)), (q_8, .inl (cq_8, 8, .inr (.inr (.inr (.inr f_72))))), (q_9, .inr (3, [.ref q_10, .int 0, .int 0, .int 0, .ref q_11, .ref q_12, .ref q_13, .int 0, .int 0, .int 0, .int 0, .ref q_14, .int 0, .ref q_15])), (q_17, .inl (cq_17, 16, .inl (fun _ => 0))), (q_74, .inr (3, [.null, .int 0, .int 0, .int 0, .null, .null, .null, .int 0, .int 0, .int 0, .int 0, .null, .int 0, .null]))] := hD
  refine lv_dup hx hb dX7_init_77 rfl ?_
  have hPc := hP.sub (ws' := [(q_74, .inr (3, [.null, .int 0, .int 0, .int 0, .null, .null, .null, .int 0, .int 0, .int 0, .int 0, .null, .int 0, .null]))]) [7] rfl
  have hDc := hD.sub (ws' := [(q_74, .inr (3, [.null, .int 0, .int 0, .int 0, .null, .null, .null, .int 0, .int 0, .int 0, .int 0, .null, .int 0, .null]))]) [7] (by decide) rfl
  have hKc := hK.sub (tys' := []) [] rfl
  have hFc := va_free (wc := [(q_74, .inr (3, [.null, .int 0, .int 0, .int 0, .null, .null, .null, .int 0, .int 0, .int 0, .int 0, .null, .int 0, .null]))]) hD hS hA [7] rfl
  refine va_callv (va_runIN (As := []) (rest := [.ref q_74, .int 6, .ref q_8]) ⟨hx, hb, hml, hown, hts⟩ (ct_img l dC dI H.size q_74) ⟨va_cnB 0 hts gX7_init_X3_init_n26 rfl rfl rfl hN_X7_26 (hts (.initialized RX3) (by decide +kernel)) (by decide +kernel) ⟨Nat.le_of_ble_eq_true rfl, Nat.le_of_ble_eq_true rfl⟩, rfl, hts (.instanceMethod yX3_init) (by decide +kernel)⟩ ⟨fun a U g mk q => by obtain ⟨q0, q1, qP, qK, qD⟩ := q; exact ⟨q0, q1, qP, va_K.moved (u := U) (U := U.calling g mk a) (Vm.Alike.refl U.vm) qK, qD⟩, fun U hU hW => ⟨rfl, by rw [hU], by rw [hU]; exact hPc, va_K.moved hW.alike hKc, hDc.weaken (fun _ _ _ _ => trivial)⟩⟩ rfl rfl hl.1 rfl (lv_room (Nat.le_of_ble_eq_true rfl)) dX7_init_78 ⟨Nat.le_of_ble_eq_true rfl, Nat.le_of_ble_eq_true rfl⟩) hS (fun q _ h => hFc q h) hFc ?_
  clear hS
  intro u t H1 locs ht hvm hw hB hz1 hk1 hS
  obtain ⟨q_75, q_76, q_77, q_78, q_79, q_80⟩ := u
  obtain ⟨hP1, hK1, hD1⟩ := hB
  rw [ht] at hP1
  have hK1 := va_K.moved hvm.symm hK1
  try dsimp only at hw
  have hPD := va_join (wr := [(h0, .inr (7, [.ref q_1, .ref q_8, .ref q_9, .int 0, .int 0, .ref q_16, .ref q_17, .ref q_18])), (q_1, .inr (4, [.ref q_2, .ref q_3])), (q_2, .inl (ca_4, 16, .inl f_6)), (q_3, .inl (cu_5, 256, .inl g_7)), (q_8, .inl (cq_8, 8, .inr (.inr (.inr (.inr f_72))))), (q_9, .inr (3, [.ref q_10, .int 0, .int 0, .int 0, .ref q_11, .ref q_12, .ref q_13, .int 0, .int 0, .int 0, .int 0, .ref q_14, .int 0, .ref q_15])), (q_17, .inl (cq_17, 16, .inl (fun _ => 0)))]) (w1 := [(q_74, .inr (3, [.ref q_75, .int 0, .int 0, .int 0, .ref q_76, .ref q_77, .ref q_78, .int 0, .int 0, .int 0, .int 0, .ref q_79, .int 0, .ref q_80]))]) hP hD [7] [0, 1, 2, 3, 4, 5, 6] rfl rfl (by decide) (by decide) hk1 hFc hP1 hD1
  clear hP hD
  obtain ⟨hP, hD⟩ := hPD
  replace hK := (hK.sub (tys' := [(ca_4, .int), (cu_5, .boolean), (cq_8, .object RX3), (cq_17, .int)]) [0, 1, 2, 3] rfl).app hK1
  clear hPc hDc hKc hFc hP1 hK1 hD1 hz1 hk1 ht hvm
  generalize H1 = H at hP hS ⊢
  replace hP : va_P (dC, dI) vwCl [(h0, .inr (7, [.ref q_1, .ref q_8, .ref q_9, .int 0, .int 0, .ref q_16, .ref q_17, .ref q_18])), (q_1, .inr (4, [.ref q_2, .ref q_3])), (q_2, .inl (ca_4, 16, .inl f_6)), (q_3, .inl (cu_5, 256, .inl g_7)), (q_8, .inl (cq_8, 8, .inr (.inr (.inr (.inr f_72))))), (q_9, .inr (3, [.ref q_10, .int 0, .int 0, .int 0, .ref q_11, .ref q_12, .ref q_13, .int 0, .int 0, .int 0, .int 0, .ref q_14, .int 0, .ref q_15])), (q_17, .inl (cq_17, 16, .inl (fun _ => 0))), (q_74, .inr (3, [.ref q_75, .int 0, .int 0, .int 0, .ref q_76, .ref q_77, .ref q_78, .int 0, .int 0, .int 0, .int 0, .ref q_79, .int 0, .ref q_80]))] H := hP
  replace hD : va_D A [(h0, .inr (7, [.ref q_1, .ref q_8, .ref q_9, .int 0, .int 0, .ref q_16, .ref q_17, .ref q_18])), (q_1, .inr (4, [.ref q_2, .ref q_3])), (q_2, .inl (ca_4, 16, .inl f_6)), (q_3, .inl (cu_5, 256, .inl g_7)), (q_8, .inl (cq_8, 8, .inr (.inr (.inr (.inr f_72))))), (q_9, .inr (3, [.ref q_10, .int 0, .int 0, .int 0, .ref q_11, .ref q_12, .ref q_13, .int 0, .int 0, .int 0, .int 0, .ref q_14, .int 0, .ref q_15])), (q_17, .inl (cq_17, 16, .inl (fun _ => 0))), (q_74, .inr (3, [.ref q_75, .int 0, .int 0, .int 0, .ref q_76, .ref q_77, .ref q_78, .int 0, .int 0, .int 0, .int 0, .ref q_79, .int 0, .ref q_80]))] := hD
  replace hK : va_K (dC, dI) vwCl [(ca_4, .int), (cu_5, .boolean), (cq_8, .object RX3), (cq_17, .int)] s := hK
  refine W.widen (k := 63) (n := 10714) (Nat.le_of_ble_eq_true rfl) (Nat.le_of_ble_eq_true rfl) ?_
  refine va_astq hx hb hK hP hD hS 4 2 7 3 rfl rfl rfl rfl (i := 6) (by unfold vp_in; decide) dX7_init_81 ?_
  clear hP hD hS
  intro H locs hP hD hS
  obtain ⟨f_81, ef_81⟩ : ∃ zf : Nat → Option Nat, zf = va_up f_72 (6 : Int32).toNatClampNeg (some q_74) := ⟨_, rfl⟩
  rw [← ef_81] at hP hD
  replace hP : va_P (dC, dI) vwCl [(h0, .inr (7, [.ref q_1, .ref q_8, .ref q_9, .int 0, .int 0, .ref q_16, .ref q_17, .ref q_18])), (q_1, .inr (4, [.ref q_2, .ref q_3])), (q_2, .inl (ca_4, 16, .inl f_6)), (q_3, .inl (cu_5, 256, .inl g_7)), (q_8, .inl (cq_8, 8, .inr (.inr (.inr (.inr f_81))))), (q_9, .inr (3, [.ref q_10, .int 0, .int 0, .int 0, .ref q_11, .ref q_12, .ref q_13, .int 0, .int 0, .int 0, .int 0, .ref q_14, .int 0, .ref q_15])), (q_17, .inl (cq_17, 16, .inl (fun _ => 0))), (q_74, .inr (3, [.ref q_75, .int 0, .int 0, .int 0, .ref q_76, .ref q_77, .ref q_78, .int 0, .int 0, .int 0, .int 0, .ref q_79, .int 0, .ref q_80]))] H := hP
  replace hD : va_D A [(h0, .inr (7, [.ref q_1, .ref q_8, .ref q_9, .int 0, .int 0, .ref q_16, .ref q_17, .ref q_18])), (q_1, .inr (4, [.ref q_2, .ref q_3])), (q_2, .inl (ca_4, 16, .inl f_6)), (q_3, .inl (cu_5, 256, .inl g_7)), (q_8, .inl (cq_8, 8, .inr (.inr (.inr (.inr f_81))))), (q_9, .inr (3, [.ref q_10, .int 0, .int 0, .int 0, .ref q_11, .ref q_12, .ref q_13, .int 0, .int 0, .int 0, .int 0, .ref q_14, .int 0, .ref q_15])), (q_17, .inl (cq_17, 16, .inl (fun _ => 0))), (q_74, .inr (3, [.ref q_75, .int 0, .int 0, .int 0, .ref q_76, .ref q_77, .ref q_78, .int 0, .int 0, .int 0, .int 0, .ref q_79, .int 0, .ref q_80]))] := hD
  replace hP := hP.sub (ws' := [(h0, .inr (7, [.ref q_1, .ref q_8, .ref q_9, .int 0, .int 0, .ref q_16, .ref q_17, .ref q_18])), (q_1, .inr (4, [.ref q_2, .ref q_3])), (q_2, .inl (ca_4, 16, .inl f_6)), (q_3, .inl (cu_5, 256, .inl g_7)), (q_8, .inl (cq_8, 8, .inr (.inr (.inr (.inr f_81))))), (q_9, .inr (3, [.ref q_10, .int 0, .int 0, .int 0, .ref q_11, .ref q_12, .ref q_13, .int 0, .int 0, .int 0, .int 0, .ref q_14, .int 0, .ref q_15])), (q_17, .inl (cq_17, 16, .inl (fun _ => 0)))]) [0, 1, 2, 3, 4, 5, 6] rfl
  replace hD := hD.sub (ws' := [(h0, .inr (7, [.ref q_1, .ref q_8, .ref q_9, .int 0, .int 0, .ref q_16, .ref q_17, .ref q_18])), (q_1, .inr (4, [.ref q_2, .ref q_3])), (q_2, .inl (ca_4, 16, .inl f_6)), (q_3, .inl (cu_5, 256, .inl g_7)), (q_8, .inl (cq_8, 8, .inr (.inr (.inr (.inr f_81))))), (q_9, .inr (3, [.ref q_10, .int 0, .int 0, .int 0, .ref q_11, .ref q_12, .ref q_13, .int 0, .int 0, .int 0, .int 0, .ref q_14, .int 0, .ref q_15])), (q_17, .inl (cq_17, 16, .inl (fun _ => 0)))]) [0, 1, 2, 3, 4, 5, 6] (by decide) rfl
  replace hK := hK.sub (tys' := [(ca_4, .int), (cu_5, .boolean), (cq_8, .object RX3), (cq_17, .int)]) [0, 1, 2, 3] rfl
  refine lv_iinc (v := 7) (lv' := [(1, .int 7), (0, .ref h0)]) hx hb dX7_init_82 hl (k := 0) rfl (by decide) (by decide) rfl (fun ls hl => ?_)
  refine lv_goto (tgt := 63) hx hb dX7_init_85 (by decide) ?_
  refine lv_iload_n hx hb dX7_init_63 rfl (lv_at hl 0 rfl) ?_
  refine lv_bipush (v := 8) hx hb dX7_init_64 (by decide) ?_
  refine lv_icmp_ge (tgt := 88) hx hb dX7_init_66 (by decide) (fun c_82 => (show False by revert c_82; decide).elim) (fun c_82 => ?_)
  refine lv_aload_n hx hb dX7_init_69 rfl (lv_at hl 1 rfl) ?_
  refine va_get (D := (dC, dI)) (ci := 7) (v := .ref q_8) (C := RX7) (T := TX7) (N := 8) hx hb hts uX7_init_X7 hown hK hP 0 rfl rfl 1 (by decide) (hts (.fieldLink RX7 22 "ClassMill$Space" "images" "[LClassMill$Image;") (by decide +kernel)) (fun _ h9 => h9) rfl dX7_init_70 ?_
  refine lv_iload_n hx hb dX7_init_73 rfl (lv_at hl 0 rfl) ?_
  refine va_new (ci := 3) (fs := [.null, .int 0, .int 0, .int 0, .null, .null, .null, .int 0, .int 0, .int 0, .int 0, .null, .int 0, .null]) (C := RX3) (T := TX3) (N := 14) hx hb hts uX7_init_X3 tyX3 tyX3_ok hown (hts (.classLink RX7 20 RX3) (by decide +kernel)) (hts (.instantiable RX3 14) (by decide +kernel)) (hts (.initialized RX3) (by decide +kernel)) hK hP hD hS hA rfl (fun j hj => by rcases (show j = 0 ∨ j = 1 ∨ j = 2 ∨ j = 3 ∨ j = 4 ∨ j = 5 ∨ j = 6 ∨ j = 7 ∨ j = 8 ∨ j = 9 ∨ j = 10 ∨ j = 11 ∨ j = 12 ∨ j = 13 by omega) with rfl | rfl | rfl | rfl | rfl | rfl | rfl | rfl | rfl | rfl | rfl | rfl | rfl | rfl <;> rfl) (Nat.le_of_ble_eq_true rfl) (Nat.le_of_ble_eq_true rfl) dX7_init_74 ?_
  clear hP hD hS
  intro q_83 H hP hD hS
  refine W.widen (k := 64) (n := 10728) (Nat.le_of_ble_eq_true rfl) (Nat.le_of_ble_eq_true rfl) ?_
  replace hP : va_P (dC, dI) vwCl [(h0, .inr (7, [.ref q_1, .ref q_8, .ref q_9, .int 0, .int 0, .ref q_16, .ref q_17, .ref q_18])), (q_1, .inr (4, [.ref q_2, .ref q_3])), (q_2, .inl (ca_4, 16, .inl f_6)), (q_3, .inl (cu_5, 256, .inl g_7)), (q_8, .inl (cq_8, 8, .inr (.inr (.inr (.inr f_81))))), (q_9, .inr (3, [.ref q_10, .int 0, .int 0, .int 0, .ref q_11, .ref q_12, .ref q_13, .int 0, .int 0, .int 0, .int 0, .ref q_14, .int 0, .ref q_15])), (q_17, .inl (cq_17, 16, .inl (fun _ => 0))), (q_83, .inr (3, [.null, .int 0, .int 0, .int 0, .null, .null, .null, .int 0, .int 0, .int 0, .int 0, .null, .int 0, .null]))] H := hP
  replace hD : va_D A [(h0, .inr (7, [.ref q_1, .ref q_8, .ref q_9, .int 0, .int 0, .ref q_16, .ref q_17, .ref q_18])), (q_1, .inr (4, [.ref q_2, .ref q_3])), (q_2, .inl (ca_4, 16, .inl f_6)), (q_3, .inl (cu_5, 256, .inl g_7)), (q_8, .inl (cq_8, 8, .inr (.inr (.inr (.inr f_81))))), (q_9, .inr (3, [.ref q_10, .int 0, .int 0, .int 0, .ref q_11, .ref q_12, .ref q_13, .int 0, .int 0, .int 0, .int 0, .ref q_14, .int 0, .ref q_15])), (q_17, .inl (cq_17, 16, .inl (fun _ => 0))), (q_83, .inr (3, [.null, .int 0, .int 0, .int 0, .null, .null, .null, .int 0, .int 0, .int 0, .int 0, .null, .int 0, .null]))] := hD
  refine lv_dup hx hb dX7_init_77 rfl ?_
  have hPc := hP.sub (ws' := [(q_83, .inr (3, [.null, .int 0, .int 0, .int 0, .null, .null, .null, .int 0, .int 0, .int 0, .int 0, .null, .int 0, .null]))]) [7] rfl
  have hDc := hD.sub (ws' := [(q_83, .inr (3, [.null, .int 0, .int 0, .int 0, .null, .null, .null, .int 0, .int 0, .int 0, .int 0, .null, .int 0, .null]))]) [7] (by decide) rfl
  have hKc := hK.sub (tys' := []) [] rfl
  have hFc := va_free (wc := [(q_83, .inr (3, [.null, .int 0, .int 0, .int 0, .null, .null, .null, .int 0, .int 0, .int 0, .int 0, .null, .int 0, .null]))]) hD hS hA [7] rfl
  refine va_callv (va_runIN (As := []) (rest := [.ref q_83, .int 7, .ref q_8]) ⟨hx, hb, hml, hown, hts⟩ (ct_img l dC dI H.size q_83) ⟨va_cnB 0 hts gX7_init_X3_init_n26 rfl rfl rfl hN_X7_26 (hts (.initialized RX3) (by decide +kernel)) (by decide +kernel) ⟨Nat.le_of_ble_eq_true rfl, Nat.le_of_ble_eq_true rfl⟩, rfl, hts (.instanceMethod yX3_init) (by decide +kernel)⟩ ⟨fun a U g mk q => by obtain ⟨q0, q1, qP, qK, qD⟩ := q; exact ⟨q0, q1, qP, va_K.moved (u := U) (U := U.calling g mk a) (Vm.Alike.refl U.vm) qK, qD⟩, fun U hU hW => ⟨rfl, by rw [hU], by rw [hU]; exact hPc, va_K.moved hW.alike hKc, hDc.weaken (fun _ _ _ _ => trivial)⟩⟩ rfl rfl hl.1 rfl (lv_room (Nat.le_of_ble_eq_true rfl)) dX7_init_78 ⟨Nat.le_of_ble_eq_true rfl, Nat.le_of_ble_eq_true rfl⟩) hS (fun q _ h => hFc q h) hFc ?_
  clear hS
  intro u t H1 locs ht hvm hw hB hz1 hk1 hS
  obtain ⟨q_84, q_85, q_86, q_87, q_88, q_89⟩ := u
  obtain ⟨hP1, hK1, hD1⟩ := hB
  rw [ht] at hP1
  have hK1 := va_K.moved hvm.symm hK1
  try dsimp only at hw
  have hPD := va_join (wr := [(h0, .inr (7, [.ref q_1, .ref q_8, .ref q_9, .int 0, .int 0, .ref q_16, .ref q_17, .ref q_18])), (q_1, .inr (4, [.ref q_2, .ref q_3])), (q_2, .inl (ca_4, 16, .inl f_6)), (q_3, .inl (cu_5, 256, .inl g_7)), (q_8, .inl (cq_8, 8, .inr (.inr (.inr (.inr f_81))))), (q_9, .inr (3, [.ref q_10, .int 0, .int 0, .int 0, .ref q_11, .ref q_12, .ref q_13, .int 0, .int 0, .int 0, .int 0, .ref q_14, .int 0, .ref q_15])), (q_17, .inl (cq_17, 16, .inl (fun _ => 0)))]) (w1 := [(q_83, .inr (3, [.ref q_84, .int 0, .int 0, .int 0, .ref q_85, .ref q_86, .ref q_87, .int 0, .int 0, .int 0, .int 0, .ref q_88, .int 0, .ref q_89]))]) hP hD [7] [0, 1, 2, 3, 4, 5, 6] rfl rfl (by decide) (by decide) hk1 hFc hP1 hD1
  clear hP hD
  obtain ⟨hP, hD⟩ := hPD
  replace hK := (hK.sub (tys' := [(ca_4, .int), (cu_5, .boolean), (cq_8, .object RX3), (cq_17, .int)]) [0, 1, 2, 3] rfl).app hK1
  clear hPc hDc hKc hFc hP1 hK1 hD1 hz1 hk1 ht hvm
  generalize H1 = H at hP hS ⊢
  replace hP : va_P (dC, dI) vwCl [(h0, .inr (7, [.ref q_1, .ref q_8, .ref q_9, .int 0, .int 0, .ref q_16, .ref q_17, .ref q_18])), (q_1, .inr (4, [.ref q_2, .ref q_3])), (q_2, .inl (ca_4, 16, .inl f_6)), (q_3, .inl (cu_5, 256, .inl g_7)), (q_8, .inl (cq_8, 8, .inr (.inr (.inr (.inr f_81))))), (q_9, .inr (3, [.ref q_10, .int 0, .int 0, .int 0, .ref q_11, .ref q_12, .ref q_13, .int 0, .int 0, .int 0, .int 0, .ref q_14, .int 0, .ref q_15])), (q_17, .inl (cq_17, 16, .inl (fun _ => 0))), (q_83, .inr (3, [.ref q_84, .int 0, .int 0, .int 0, .ref q_85, .ref q_86, .ref q_87, .int 0, .int 0, .int 0, .int 0, .ref q_88, .int 0, .ref q_89]))] H := hP
  replace hD : va_D A [(h0, .inr (7, [.ref q_1, .ref q_8, .ref q_9, .int 0, .int 0, .ref q_16, .ref q_17, .ref q_18])), (q_1, .inr (4, [.ref q_2, .ref q_3])), (q_2, .inl (ca_4, 16, .inl f_6)), (q_3, .inl (cu_5, 256, .inl g_7)), (q_8, .inl (cq_8, 8, .inr (.inr (.inr (.inr f_81))))), (q_9, .inr (3, [.ref q_10, .int 0, .int 0, .int 0, .ref q_11, .ref q_12, .ref q_13, .int 0, .int 0, .int 0, .int 0, .ref q_14, .int 0, .ref q_15])), (q_17, .inl (cq_17, 16, .inl (fun _ => 0))), (q_83, .inr (3, [.ref q_84, .int 0, .int 0, .int 0, .ref q_85, .ref q_86, .ref q_87, .int 0, .int 0, .int 0, .int 0, .ref q_88, .int 0, .ref q_89]))] := hD
  replace hK : va_K (dC, dI) vwCl [(ca_4, .int), (cu_5, .boolean), (cq_8, .object RX3), (cq_17, .int)] s := hK
  refine W.widen (k := 70) (n := 11664) (Nat.le_of_ble_eq_true rfl) (Nat.le_of_ble_eq_true rfl) ?_
  refine va_astq hx hb hK hP hD hS 4 2 7 3 rfl rfl rfl rfl (i := 7) (by unfold vp_in; decide) dX7_init_81 ?_
  clear hP hD hS
  intro H locs hP hD hS
  obtain ⟨f_90, ef_90⟩ : ∃ zf : Nat → Option Nat, zf = va_up f_81 (7 : Int32).toNatClampNeg (some q_83) := ⟨_, rfl⟩
  rw [← ef_90] at hP hD
  replace hP : va_P (dC, dI) vwCl [(h0, .inr (7, [.ref q_1, .ref q_8, .ref q_9, .int 0, .int 0, .ref q_16, .ref q_17, .ref q_18])), (q_1, .inr (4, [.ref q_2, .ref q_3])), (q_2, .inl (ca_4, 16, .inl f_6)), (q_3, .inl (cu_5, 256, .inl g_7)), (q_8, .inl (cq_8, 8, .inr (.inr (.inr (.inr f_90))))), (q_9, .inr (3, [.ref q_10, .int 0, .int 0, .int 0, .ref q_11, .ref q_12, .ref q_13, .int 0, .int 0, .int 0, .int 0, .ref q_14, .int 0, .ref q_15])), (q_17, .inl (cq_17, 16, .inl (fun _ => 0))), (q_83, .inr (3, [.ref q_84, .int 0, .int 0, .int 0, .ref q_85, .ref q_86, .ref q_87, .int 0, .int 0, .int 0, .int 0, .ref q_88, .int 0, .ref q_89]))] H := hP
  replace hD : va_D A [(h0, .inr (7, [.ref q_1, .ref q_8, .ref q_9, .int 0, .int 0, .ref q_16, .ref q_17, .ref q_18])), (q_1, .inr (4, [.ref q_2, .ref q_3])), (q_2, .inl (ca_4, 16, .inl f_6)), (q_3, .inl (cu_5, 256, .inl g_7)), (q_8, .inl (cq_8, 8, .inr (.inr (.inr (.inr f_90))))), (q_9, .inr (3, [.ref q_10, .int 0, .int 0, .int 0, .ref q_11, .ref q_12, .ref q_13, .int 0, .int 0, .int 0, .int 0, .ref q_14, .int 0, .ref q_15])), (q_17, .inl (cq_17, 16, .inl (fun _ => 0))), (q_83, .inr (3, [.ref q_84, .int 0, .int 0, .int 0, .ref q_85, .ref q_86, .ref q_87, .int 0, .int 0, .int 0, .int 0, .ref q_88, .int 0, .ref q_89]))] := hD
  replace hP := hP.sub (ws' := [(h0, .inr (7, [.ref q_1, .ref q_8, .ref q_9, .int 0, .int 0, .ref q_16, .ref q_17, .ref q_18])), (q_1, .inr (4, [.ref q_2, .ref q_3])), (q_2, .inl (ca_4, 16, .inl f_6)), (q_3, .inl (cu_5, 256, .inl g_7)), (q_8, .inl (cq_8, 8, .inr (.inr (.inr (.inr f_90))))), (q_9, .inr (3, [.ref q_10, .int 0, .int 0, .int 0, .ref q_11, .ref q_12, .ref q_13, .int 0, .int 0, .int 0, .int 0, .ref q_14, .int 0, .ref q_15])), (q_17, .inl (cq_17, 16, .inl (fun _ => 0)))]) [0, 1, 2, 3, 4, 5, 6] rfl
  replace hD := hD.sub (ws' := [(h0, .inr (7, [.ref q_1, .ref q_8, .ref q_9, .int 0, .int 0, .ref q_16, .ref q_17, .ref q_18])), (q_1, .inr (4, [.ref q_2, .ref q_3])), (q_2, .inl (ca_4, 16, .inl f_6)), (q_3, .inl (cu_5, 256, .inl g_7)), (q_8, .inl (cq_8, 8, .inr (.inr (.inr (.inr f_90))))), (q_9, .inr (3, [.ref q_10, .int 0, .int 0, .int 0, .ref q_11, .ref q_12, .ref q_13, .int 0, .int 0, .int 0, .int 0, .ref q_14, .int 0, .ref q_15])), (q_17, .inl (cq_17, 16, .inl (fun _ => 0)))]) [0, 1, 2, 3, 4, 5, 6] (by decide) rfl
  replace hK := hK.sub (tys' := [(ca_4, .int), (cu_5, .boolean), (cq_8, .object RX3), (cq_17, .int)]) [0, 1, 2, 3] rfl
  refine lv_iinc (v := 8) (lv' := [(1, .int 8), (0, .ref h0)]) hx hb dX7_init_82 hl (k := 0) rfl (by decide) (by decide) rfl (fun ls hl => ?_)
  refine lv_goto (tgt := 63) hx hb dX7_init_85 (by decide) ?_
  refine lv_iload_n hx hb dX7_init_63 rfl (lv_at hl 0 rfl) ?_
  refine lv_bipush (v := 8) hx hb dX7_init_64 (by decide) ?_
  refine lv_icmp_ge (tgt := 88) hx hb dX7_init_66 (by decide) (fun c_91 => ?_) (fun c_91 => (show False by revert c_91; decide).elim)
  have hP9 := hP.sub (ws' := [(h0, .inr (7, [.ref q_1, .ref q_8, .ref q_9, .int 0, .int 0, .ref q_16, .ref q_17, .ref q_18])), (q_1, .inr (4, [.ref q_2, .ref q_3])), (q_2, .inl (ca_4, 16, .inl f_6)), (q_3, .inl (cu_5, 256, .inl g_7)), (q_9, .inr (3, [.ref q_10, .int 0, .int 0, .int 0, .ref q_11, .ref q_12, .ref q_13, .int 0, .int 0, .int 0, .int 0, .ref q_14, .int 0, .ref q_15])), (q_17, .inl (cq_17, 16, .inl (fun _ => 0)))]) [0, 1, 2, 3, 5, 6] rfl
  have hD9 := hD.sub (ws' := [(h0, .inr (7, [.ref q_1, .ref q_8, .ref q_9, .int 0, .int 0, .ref q_16, .ref q_17, .ref q_18])), (q_1, .inr (4, [.ref q_2, .ref q_3])), (q_2, .inl (ca_4, 16, .inl f_6)), (q_3, .inl (cu_5, 256, .inl g_7)), (q_9, .inr (3, [.ref q_10, .int 0, .int 0, .int 0, .ref q_11, .ref q_12, .ref q_13, .int 0, .int 0, .int 0, .int 0, .ref q_14, .int 0, .ref q_15])), (q_17, .inl (cq_17, 16, .inl (fun _ => 0)))]) [0, 1, 2, 3, 5, 6] (by decide) rfl
  have hK9 := hK.sub (tys' := [(ca_4, .int), (cu_5, .boolean), (cq_17, .int)]) [0, 1, 3] rfl
  exact W.vret hx hb hr (fun t ht hW => ⟨⟨(q_1, q_8, q_9, q_16, q_17, q_18, q_2, q_3, ca_4, f_6, cu_5, g_7, q_10, q_11, q_12, q_13, q_14, q_15, cq_17), rfl, hkf, by rw [ht]; exact hP9, va_K.moved hW.alike hK9, hD9⟩, hS.F ht⟩) hS.2.2 dX7_init_88
set_option maxHeartbeats 4000000 in
set_option maxRecDepth 100000 in
/-- Verifier(space) -/
theorem ct_ver (l : Launch) (dC : Nat → ClassId) (dI : Nat → Nat → Nat) (sz : Nat) (h0 qs qk : Nat) (fsS : List Value) (hSk : fsS[0]? = some (.ref qk)) : Met l yX11_init wsX11_init ({ frames := 2, cells := 15, slots := 11477, locals := 32 }) (va_Pc [.ref h0, .ref qs] (fun U => U.heap.size = sz ∧ va_P (dC, dI) vwCl [(h0, .inr (11, [.null, .null, .int 0, .int 0, .int 0, .null, .int 0, .int 0, .null, .null, .null, .null, .null, .null, .null, .null, .int 0, .int 0, .int 0, .int 0, .int 0])), (qs, .inr (7, fsS))] U.heap ∧ va_K (dC, dI) vwCl [] U ∧ va_D (fun _ => True) [(h0, .inr (11, [.null, .null, .int 0, .int 0, .int 0, .null, .int 0, .int 0, .null, .null, .null, .null, .null, .null, .null, .null, .int 0, .int 0, .int 0, .int 0, .int 0])), (qs, .inr (7, fsS))] ∧ va_Nw (.methodLinkNest RX11 61 yX3_init "ClassMill") U)) (va_Qv (fun (u : Nat × Nat × Nat × Nat × Nat × Nat × Nat × Nat × Nat) => match u with | (qo1, qo2, qo3, qo4, qo5, qo6, qo7, qo8, qo9) => True) (fun (u : Nat × Nat × Nat × Nat × Nat × Nat × Nat × Nat × Nat) (t : State) => match u with | (qo1, qo2, qo3, qo4, qo5, qo6, qo7, qo8, qo9) => va_P (dC, dI) vwCl [(h0, .inr (11, [.ref qs, .ref qk, .int (-1), .int (-1), .int (-1), .ref qo1, .int 0, .int 0, .ref qo2, .ref qo3, .ref qo4, .ref qo5, .ref qo6, .ref qo7, .ref qo8, .ref qo9, .int 0, .int 0, .int 0, .int 0, .int 0])), (qs, .inr (7, fsS))] t.heap ∧ va_K (dC, dI) vwCl [] t ∧ va_D (va_A [(h0, .inr (11, [.null, .null, .int 0, .int 0, .int 0, .null, .int 0, .int 0, .null, .null, .null, .null, .null, .null, .null, .null, .int 0, .int 0, .int 0, .int 0, .int 0])), (qs, .inr (7, fsS))] sz) [(h0, .inr (11, [.ref qs, .ref qk, .int (-1), .int (-1), .int (-1), .ref qo1, .int 0, .int 0, .ref qo2, .ref qo3, .ref qo4, .ref qo5, .ref qo6, .ref qo7, .ref qo8, .ref qo9, .int 0, .int 0, .int 0, .int 0, .int 0])), (qs, .inr (7, fsS))]) (va_A [(h0, .inr (11, [.null, .null, .int 0, .int 0, .int 0, .null, .int 0, .int 0, .null, .null, .null, .null, .null, .null, .null, .null, .int 0, .int 0, .int 0, .int 0, .int 0])), (qs, .inr (7, fsS))] sz)) 15 11477 (va_A [(h0, .inr (11, [.null, .null, .int 0, .int 0, .int 0, .null, .int 0, .int 0, .null, .null, .null, .null, .null, .null, .null, .null, .int 0, .int 0, .int 0, .int 0, .int 0])), (qs, .inr (7, fsS))] sz) := by
  refine Met.ofW (cc := cX11_init) (maxL := 2) (ret := none) (by decide) rfl ?_
  intro p e s m args below meth c s₁ B hml hv
  obtain ⟨rfl, hsz, hP, hK, hD0, hN_X11_61⟩ := hv
  have hx := B.exec
  have hb := B.bytes
  have hr := B.returns
  have hts := atoms_spec (ws := wsX11_init) B.pre
  have hown : s.vm.findClass RX11 = some m.cls := findClass_of_methodNamed B.named
  have hlocks := B.notSynchronized
  have hin : meth.name = "<init>" := (name_of_methodNamed B.named B.method).1
  subst hsz
  have hD := hD0.self (sz := s.heap.size)
  generalize hAe : va_A [(h0, .inr (11, [.null, .null, .int 0, .int 0, .int 0, .null, .int 0, .int 0, .null, .null, .null, .null, .null, .null, .null, .null, .int 0, .int 0, .int 0, .int 0, .int 0])), (qs, .inr (7, fsS))] s.heap.size = A at hD  ⊢
  have hA : ∀ q : Nat, s.heap.size ≤ q → A q := fun q h => by rw [← hAe]; exact Or.inr h
  have hP : va_P (dC, dI) vwCl [(h0, .inr (11, [.null, .null, .int 0, .int 0, .int 0, .null, .int 0, .int 0, .null, .null, .null, .null, .null, .null, .null, .null, .int 0, .int 0, .int 0, .int 0, .int 0])), (qs, .inr (7, fsS))] s.heap := hP
  have hl := lv_entry ([.ref h0, .ref qs]) (n := 2) (Nat.le_of_ble_eq_true rfl)
  rw [lg_entry_eq]
  generalize (lg_sl ([.ref h0, .ref qs]) ++ List.replicate (2 - (lg_sl ([.ref h0, .ref qs])).length) Slot.unset).toArray = ls at hl ⊢
  have hl : lv_has ls 2 [(0, .ref h0), (1, .ref qs)] := hl
  obtain ⟨H, hH⟩ : ∃ H : Heap, s.heap = H := ⟨_, rfl⟩
  rw [hH] at hP ⊢
  have hS : va_S A s.heap H [] := by rw [← hH]; exact va_S.rf
  obtain ⟨locs, hlo⟩ : ∃ locs : List Loc, locs = [] := ⟨_, rfl⟩
  rw [← hlo] at hS ⊢
  refine lv_aload_n hx hb dX11_init_0 rfl (lv_at hl 0 rfl) ?_
  refine W.objInit hx hb hown (hts (.methodLink RX11 5 objectInit) (by decide +kernel)) (hts (.instanceMethod objectInit) (by decide +kernel)) (hts (.code objectInit ⟨#[0xb1]⟩ 1 none) (by decide +kernel)) rfl (by rw [hml]; exact hl.1) rfl dX11_init_1 (Nat.le_of_ble_eq_true rfl) (Nat.le_of_ble_eq_true rfl) ?_
  refine W.eq (g2 := F0 m 4 ls []) rfl ?_
  refine lv_aload_n hx hb dX11_init_4 rfl (lv_at hl 0 rfl) ?_
  refine lv_iconst (v := (-1)) hx hb dX11_init_5 (by decide) ?_
  refine va_put (D := (dC, dI)) (ci := 11) (v := .int (-1)) (ty := .int) (C := RX11) (T := TX11) (N := 21) hx hb hts uX11_init_X11 tyX11 tyX11_ok nmX11 hown hK hP hD hS 0 rfl rfl 2 (by decide) (hts (.fieldLink RX11 11 "ClassMill$Verifier" "toldClass" "I") (by decide +kernel)) (fun _ h9 => h9) rfl (by decide +kernel) rfl rfl (Nat.le_of_ble_eq_true rfl) dX11_init_6 ?_
  clear hP hD hS
  intro H locs hP hD hS
  replace hP : va_P (dC, dI) vwCl [(h0, .inr (11, [.null, .null, .int (-1), .int 0, .int 0, .null, .int 0, .int 0, .null, .null, .null, .null, .null, .null, .null, .null, .int 0, .int 0, .int 0, .int 0, .int 0])), (qs, .inr (7, fsS))] H := hP
  replace hD : va_D A [(h0, .inr (11, [.null, .null, .int (-1), .int 0, .int 0, .null, .int 0, .int 0, .null, .null, .null, .null, .null, .null, .null, .null, .int 0, .int 0, .int 0, .int 0, .int 0])), (qs, .inr (7, fsS))] := hD
  refine lv_aload_n hx hb dX11_init_9 rfl (lv_at hl 0 rfl) ?_
  refine lv_iconst (v := (-1)) hx hb dX11_init_10 (by decide) ?_
  refine va_put (D := (dC, dI)) (ci := 11) (v := .int (-1)) (ty := .int) (C := RX11) (T := TX11) (N := 21) hx hb hts uX11_init_X11 tyX11 tyX11_ok nmX11 hown hK hP hD hS 0 rfl rfl 3 (by decide) (hts (.fieldLink RX11 17 "ClassMill$Verifier" "toldMethod" "I") (by decide +kernel)) (fun _ h9 => h9) rfl (by decide +kernel) rfl rfl (Nat.le_of_ble_eq_true rfl) dX11_init_11 ?_
  clear hP hD hS
  intro H locs hP hD hS
  replace hP : va_P (dC, dI) vwCl [(h0, .inr (11, [.null, .null, .int (-1), .int (-1), .int 0, .null, .int 0, .int 0, .null, .null, .null, .null, .null, .null, .null, .null, .int 0, .int 0, .int 0, .int 0, .int 0])), (qs, .inr (7, fsS))] H := hP
  replace hD : va_D A [(h0, .inr (11, [.null, .null, .int (-1), .int (-1), .int 0, .null, .int 0, .int 0, .null, .null, .null, .null, .null, .null, .null, .null, .int 0, .int 0, .int 0, .int 0, .int 0])), (qs, .inr (7, fsS))] := hD
  refine lv_aload_n hx hb dX11_init_14 rfl (lv_at hl 0 rfl) ?_
  refine lv_iconst (v := (-1)) hx hb dX11_init_15 (by decide) ?_
  refine va_put (D := (dC, dI)) (ci := 11) (v := .int (-1)) (ty := .int) (C := RX11) (T := TX11) (N := 21) hx hb hts uX11_init_X11 tyX11 tyX11_ok nmX11 hown hK hP hD hS 0 rfl rfl 4 (by decide) (hts (.fieldLink RX11 20 "ClassMill$Verifier" "toldPlace" "I") (by decide +kernel)) (fun _ h9 => h9) rfl (by decide +kernel) rfl rfl (Nat.le_of_ble_eq_true rfl) dX11_init_16 ?_
  clear hP hD hS
  intro H locs hP hD hS
  replace hP : va_P (dC, dI) vwCl [(h0, .inr (11, [.null, .null, .int (-1), .int (-1), .int (-1), .null, .int 0, .int 0, .null, .null, .null, .null, .null, .null, .null, .null, .int 0, .int 0, .int 0, .int 0, .int 0])), (qs, .inr (7, fsS))] H := hP
  replace hD : va_D A [(h0, .inr (11, [.null, .null, .int (-1), .int (-1), .int (-1), .null, .int 0, .int 0, .null, .null, .null, .null, .null, .null, .null, .null, .int 0, .int 0, .int 0, .int 0, .int 0])), (qs, .inr (7, fsS))] := hD
  refine lv_aload_n hx hb dX11_init_19 rfl (lv_at hl 0 rfl) ?_
  refine lv_sipush (v := 256) hx hb dX11_init_20 (by decide) ?_
  refine va_newa (atype := .int) (ty := .int) (N' := 256) (a0 := (256, .inl (fun _ => 0))) hx hb (hts (.arrayClass .int) (by decide +kernel)) rfl hK hP hD hS hA (fun _ => rfl) (by decide) (by decide) (by decide) (Nat.le_of_ble_eq_true rfl) (Nat.le_of_ble_eq_true rfl) dX11_init_23 ?_
  clear hK hP hD hS
  intro q_1 cq_1 H hK hP hD hS
  refine W.widen (k := 1) (n := 256) (Nat.le_of_ble_eq_true rfl) (Nat.le_of_ble_eq_true rfl) ?_
  replace hP := hP.sub (ws' := [(h0, .inr (11, [.null, .null, .int (-1), .int (-1), .int (-1), .null, .int 0, .int 0, .null, .null, .null, .null, .null, .null, .null, .null, .int 0, .int 0, .int 0, .int 0, .int 0])), (qs, .inr (7, fsS))]) [0, 1] rfl
  replace hD := hD.sub (ws' := [(h0, .inr (11, [.null, .null, .int (-1), .int (-1), .int (-1), .null, .int 0, .int 0, .null, .null, .null, .null, .null, .null, .null, .null, .int 0, .int 0, .int 0, .int 0, .int 0])), (qs, .inr (7, fsS))]) [0, 1] (by decide) rfl
  replace hK := hK.sub (tys' := []) [] rfl
  refine va_putF (D := (dC, dI)) (ci := 11) (v := .ref q_1) (ty := .array .int) (C := RX11) (T := TX11) (N := 21) hx hb hts uX11_init_X11 tyX11 tyX11_ok nmX11 hown hK hP hD hS 0 rfl rfl 8 (by decide) (hts (.fieldLink RX11 23 "ClassMill$Verifier" "classTypes" "[I") (by decide +kernel)) (fun _ h9 => h9) rfl hin rfl (by decide +kernel) rfl rfl (Nat.le_of_ble_eq_true rfl) dX11_init_25 ?_
  clear hP hD hS
  intro H locs hP hD hS
  replace hP : va_P (dC, dI) vwCl [(h0, .inr (11, [.null, .null, .int (-1), .int (-1), .int (-1), .null, .int 0, .int 0, .ref q_1, .null, .null, .null, .null, .null, .null, .null, .int 0, .int 0, .int 0, .int 0, .int 0])), (qs, .inr (7, fsS))] H := hP
  replace hD : va_D A [(h0, .inr (11, [.null, .null, .int (-1), .int (-1), .int (-1), .null, .int 0, .int 0, .ref q_1, .null, .null, .null, .null, .null, .null, .null, .int 0, .int 0, .int 0, .int 0, .int 0])), (qs, .inr (7, fsS))] := hD
  refine lv_aload_n hx hb dX11_init_28 rfl (lv_at hl 0 rfl) ?_
  refine lv_sipush (v := 256) hx hb dX11_init_29 (by decide) ?_
  refine va_newa (atype := .int) (ty := .int) (N' := 256) (a0 := (256, .inl (fun _ => 0))) hx hb (hts (.arrayClass .int) (by decide +kernel)) rfl hK hP hD hS hA (fun _ => rfl) (by decide) (by decide) (by decide) (Nat.le_of_ble_eq_true rfl) (Nat.le_of_ble_eq_true rfl) dX11_init_32 ?_
  clear hK hP hD hS
  intro q_2 cq_2 H hK hP hD hS
  refine W.widen (k := 2) (n := 512) (Nat.le_of_ble_eq_true rfl) (Nat.le_of_ble_eq_true rfl) ?_
  replace hP := hP.sub (ws' := [(h0, .inr (11, [.null, .null, .int (-1), .int (-1), .int (-1), .null, .int 0, .int 0, .ref q_1, .null, .null, .null, .null, .null, .null, .null, .int 0, .int 0, .int 0, .int 0, .int 0])), (qs, .inr (7, fsS))]) [0, 1] rfl
  replace hD := hD.sub (ws' := [(h0, .inr (11, [.null, .null, .int (-1), .int (-1), .int (-1), .null, .int 0, .int 0, .ref q_1, .null, .null, .null, .null, .null, .null, .null, .int 0, .int 0, .int 0, .int 0, .int 0])), (qs, .inr (7, fsS))]) [0, 1] (by decide) rfl
  replace hK := hK.sub (tys' := []) [] rfl
  refine va_putF (D := (dC, dI)) (ci := 11) (v := .ref q_2) (ty := .array .int) (C := RX11) (T := TX11) (N := 21) hx hb hts uX11_init_X11 tyX11 tyX11_ok nmX11 hown hK hP hD hS 0 rfl rfl 9 (by decide) (hts (.fieldLink RX11 27 "ClassMill$Verifier" "memberNumber" "[I") (by decide +kernel)) (fun _ h9 => h9) rfl hin rfl (by decide +kernel) rfl rfl (Nat.le_of_ble_eq_true rfl) dX11_init_34 ?_
  clear hP hD hS
  intro H locs hP hD hS
  replace hP : va_P (dC, dI) vwCl [(h0, .inr (11, [.null, .null, .int (-1), .int (-1), .int (-1), .null, .int 0, .int 0, .ref q_1, .ref q_2, .null, .null, .null, .null, .null, .null, .int 0, .int 0, .int 0, .int 0, .int 0])), (qs, .inr (7, fsS))] H := hP
  replace hD : va_D A [(h0, .inr (11, [.null, .null, .int (-1), .int (-1), .int (-1), .null, .int 0, .int 0, .ref q_1, .ref q_2, .null, .null, .null, .null, .null, .null, .int 0, .int 0, .int 0, .int 0, .int 0])), (qs, .inr (7, fsS))] := hD
  refine lv_aload_n hx hb dX11_init_37 rfl (lv_at hl 0 rfl) ?_
  refine lv_sipush (v := 256) hx hb dX11_init_38 (by decide) ?_
  refine va_newa (atype := .int) (ty := .int) (N' := 256) (a0 := (256, .inl (fun _ => 0))) hx hb (hts (.arrayClass .int) (by decide +kernel)) rfl hK hP hD hS hA (fun _ => rfl) (by decide) (by decide) (by decide) (Nat.le_of_ble_eq_true rfl) (Nat.le_of_ble_eq_true rfl) dX11_init_41 ?_
  clear hK hP hD hS
  intro q_3 cq_3 H hK hP hD hS
  refine W.widen (k := 3) (n := 768) (Nat.le_of_ble_eq_true rfl) (Nat.le_of_ble_eq_true rfl) ?_
  replace hP := hP.sub (ws' := [(h0, .inr (11, [.null, .null, .int (-1), .int (-1), .int (-1), .null, .int 0, .int 0, .ref q_1, .ref q_2, .null, .null, .null, .null, .null, .null, .int 0, .int 0, .int 0, .int 0, .int 0])), (qs, .inr (7, fsS))]) [0, 1] rfl
  replace hD := hD.sub (ws' := [(h0, .inr (11, [.null, .null, .int (-1), .int (-1), .int (-1), .null, .int 0, .int 0, .ref q_1, .ref q_2, .null, .null, .null, .null, .null, .null, .int 0, .int 0, .int 0, .int 0, .int 0])), (qs, .inr (7, fsS))]) [0, 1] (by decide) rfl
  replace hK := hK.sub (tys' := []) [] rfl
  refine va_putF (D := (dC, dI)) (ci := 11) (v := .ref q_3) (ty := .array .int) (C := RX11) (T := TX11) (N := 21) hx hb hts uX11_init_X11 tyX11 tyX11_ok nmX11 hown hK hP hD hS 0 rfl rfl 10 (by decide) (hts (.fieldLink RX11 30 "ClassMill$Verifier" "memberParameters" "[I") (by decide +kernel)) (fun _ h9 => h9) rfl hin rfl (by decide +kernel) rfl rfl (Nat.le_of_ble_eq_true rfl) dX11_init_43 ?_
  clear hP hD hS
  intro H locs hP hD hS
  replace hP : va_P (dC, dI) vwCl [(h0, .inr (11, [.null, .null, .int (-1), .int (-1), .int (-1), .null, .int 0, .int 0, .ref q_1, .ref q_2, .ref q_3, .null, .null, .null, .null, .null, .int 0, .int 0, .int 0, .int 0, .int 0])), (qs, .inr (7, fsS))] H := hP
  replace hD : va_D A [(h0, .inr (11, [.null, .null, .int (-1), .int (-1), .int (-1), .null, .int 0, .int 0, .ref q_1, .ref q_2, .ref q_3, .null, .null, .null, .null, .null, .int 0, .int 0, .int 0, .int 0, .int 0])), (qs, .inr (7, fsS))] := hD
  refine lv_aload_n hx hb dX11_init_46 rfl (lv_at hl 0 rfl) ?_
  refine lv_sipush (v := 1799) hx hb dX11_init_47 (by decide) ?_
  refine va_newa (atype := .int) (ty := .int) (N' := 1799) (a0 := (1799, .inl (fun _ => 0))) hx hb (hts (.arrayClass .int) (by decide +kernel)) rfl hK hP hD hS hA (fun _ => rfl) (by decide) (by decide) (by decide) (Nat.le_of_ble_eq_true rfl) (Nat.le_of_ble_eq_true rfl) dX11_init_50 ?_
  clear hK hP hD hS
  intro q_4 cq_4 H hK hP hD hS
  refine W.widen (k := 4) (n := 2567) (Nat.le_of_ble_eq_true rfl) (Nat.le_of_ble_eq_true rfl) ?_
  replace hP := hP.sub (ws' := [(h0, .inr (11, [.null, .null, .int (-1), .int (-1), .int (-1), .null, .int 0, .int 0, .ref q_1, .ref q_2, .ref q_3, .null, .null, .null, .null, .null, .int 0, .int 0, .int 0, .int 0, .int 0])), (qs, .inr (7, fsS))]) [0, 1] rfl
  replace hD := hD.sub (ws' := [(h0, .inr (11, [.null, .null, .int (-1), .int (-1), .int (-1), .null, .int 0, .int 0, .ref q_1, .ref q_2, .ref q_3, .null, .null, .null, .null, .null, .int 0, .int 0, .int 0, .int 0, .int 0])), (qs, .inr (7, fsS))]) [0, 1] (by decide) rfl
  replace hK := hK.sub (tys' := []) [] rfl
  refine va_putF (D := (dC, dI)) (ci := 11) (v := .ref q_4) (ty := .array .int) (C := RX11) (T := TX11) (N := 21) hx hb hts uX11_init_X11 tyX11 tyX11_ok nmX11 hown hK hP hD hS 0 rfl rfl 11 (by decide) (hts (.fieldLink RX11 33 "ClassMill$Verifier" "memberTypes" "[I") (by decide +kernel)) (fun _ h9 => h9) rfl hin rfl (by decide +kernel) rfl rfl (Nat.le_of_ble_eq_true rfl) dX11_init_52 ?_
  clear hP hD hS
  intro H locs hP hD hS
  replace hP : va_P (dC, dI) vwCl [(h0, .inr (11, [.null, .null, .int (-1), .int (-1), .int (-1), .null, .int 0, .int 0, .ref q_1, .ref q_2, .ref q_3, .ref q_4, .null, .null, .null, .null, .int 0, .int 0, .int 0, .int 0, .int 0])), (qs, .inr (7, fsS))] H := hP
  replace hD : va_D A [(h0, .inr (11, [.null, .null, .int (-1), .int (-1), .int (-1), .null, .int 0, .int 0, .ref q_1, .ref q_2, .ref q_3, .ref q_4, .null, .null, .null, .null, .int 0, .int 0, .int 0, .int 0, .int 0])), (qs, .inr (7, fsS))] := hD
  refine lv_aload_n hx hb dX11_init_55 rfl (lv_at hl 0 rfl) ?_
  refine lv_sipush (v := 1500) hx hb dX11_init_56 (by decide) ?_
  refine va_newa (atype := .int) (ty := .int) (N' := 1500) (a0 := (1500, .inl (fun _ => 0))) hx hb (hts (.arrayClass .int) (by decide +kernel)) rfl hK hP hD hS hA (fun _ => rfl) (by decide) (by decide) (by decide) (Nat.le_of_ble_eq_true rfl) (Nat.le_of_ble_eq_true rfl) dX11_init_59 ?_
  clear hK hP hD hS
  intro q_5 cq_5 H hK hP hD hS
  refine W.widen (k := 5) (n := 4067) (Nat.le_of_ble_eq_true rfl) (Nat.le_of_ble_eq_true rfl) ?_
  replace hP := hP.sub (ws' := [(h0, .inr (11, [.null, .null, .int (-1), .int (-1), .int (-1), .null, .int 0, .int 0, .ref q_1, .ref q_2, .ref q_3, .ref q_4, .null, .null, .null, .null, .int 0, .int 0, .int 0, .int 0, .int 0])), (qs, .inr (7, fsS))]) [0, 1] rfl
  replace hD := hD.sub (ws' := [(h0, .inr (11, [.null, .null, .int (-1), .int (-1), .int (-1), .null, .int 0, .int 0, .ref q_1, .ref q_2, .ref q_3, .ref q_4, .null, .null, .null, .null, .int 0, .int 0, .int 0, .int 0, .int 0])), (qs, .inr (7, fsS))]) [0, 1] (by decide) rfl
  replace hK := hK.sub (tys' := []) [] rfl
  refine va_putF (D := (dC, dI)) (ci := 11) (v := .ref q_5) (ty := .array .int) (C := RX11) (T := TX11) (N := 21) hx hb hts uX11_init_X11 tyX11 tyX11_ok nmX11 hown hK hP hD hS 0 rfl rfl 12 (by decide) (hts (.fieldLink RX11 38 "ClassMill$Verifier" "marks" "[I") (by decide +kernel)) (fun _ h9 => h9) rfl hin rfl (by decide +kernel) rfl rfl (Nat.le_of_ble_eq_true rfl) dX11_init_61 ?_
  clear hP hD hS
  intro H locs hP hD hS
  replace hP : va_P (dC, dI) vwCl [(h0, .inr (11, [.null, .null, .int (-1), .int (-1), .int (-1), .null, .int 0, .int 0, .ref q_1, .ref q_2, .ref q_3, .ref q_4, .ref q_5, .null, .null, .null, .int 0, .int 0, .int 0, .int 0, .int 0])), (qs, .inr (7, fsS))] H := hP
  replace hD : va_D A [(h0, .inr (11, [.null, .null, .int (-1), .int (-1), .int (-1), .null, .int 0, .int 0, .ref q_1, .ref q_2, .ref q_3, .ref q_4, .ref q_5, .null, .null, .null, .int 0, .int 0, .int 0, .int 0, .int 0])), (qs, .inr (7, fsS))] := hD
  refine lv_aload_n hx hb dX11_init_64 rfl (lv_at hl 0 rfl) ?_
  refine lv_sipush (v := 6400) hx hb dX11_init_65 (by decide) ?_
  refine va_newa (atype := .int) (ty := .int) (N' := 6400) (a0 := (6400, .inl (fun _ => 0))) hx hb (hts (.arrayClass .int) (by decide +kernel)) rfl hK hP hD hS hA (fun _ => rfl) (by decide) (by decide) (by decide) (Nat.le_of_ble_eq_true rfl) (Nat.le_of_ble_eq_true rfl) dX11_init_68 ?_
  clear hK hP hD hS
  intro q_6 cq_6 H hK hP hD hS
  refine W.widen (k := 6) (n := 10467) (Nat.le_of_ble_eq_true rfl) (Nat.le_of_ble_eq_true rfl) ?_
  replace hP := hP.sub (ws' := [(h0, .inr (11, [.null, .null, .int (-1), .int (-1), .int (-1), .null, .int 0, .int 0, .ref q_1, .ref q_2, .ref q_3, .ref q_4, .ref q_5, .null, .null, .null, .int 0, .int 0, .int 0, .int 0, .int 0])), (qs, .inr (7, fsS))]) [0, 1] rfl
  replace hD := hD.sub (ws' := [(h0, .inr (11, [.null, .null, .int (-1), .int (-1), .int (-1), .null, .int 0, .int 0, .ref q_1, .ref q_2, .ref q_3, .ref q_4, .ref q_5, .null, .null, .null, .int 0, .int 0, .int 0, .int 0, .int 0])), (qs, .inr (7, fsS))]) [0, 1] (by decide) rfl
  replace hK := hK.sub (tys' := []) [] rfl
  refine va_putF (D := (dC, dI)) (ci := 11) (v := .ref q_6) (ty := .array .int) (C := RX11) (T := TX11) (N := 21) hx hb hts uX11_init_X11 tyX11 tyX11_ok nmX11 hown hK hP hD hS 0 rfl rfl 13 (by decide) (hts (.fieldLink RX11 41 "ClassMill$Verifier" "frames" "[I") (by decide +kernel)) (fun _ h9 => h9) rfl hin rfl (by decide +kernel) rfl rfl (Nat.le_of_ble_eq_true rfl) dX11_init_70 ?_
  clear hP hD hS
  intro H locs hP hD hS
  replace hP : va_P (dC, dI) vwCl [(h0, .inr (11, [.null, .null, .int (-1), .int (-1), .int (-1), .null, .int 0, .int 0, .ref q_1, .ref q_2, .ref q_3, .ref q_4, .ref q_5, .ref q_6, .null, .null, .int 0, .int 0, .int 0, .int 0, .int 0])), (qs, .inr (7, fsS))] H := hP
  replace hD : va_D A [(h0, .inr (11, [.null, .null, .int (-1), .int (-1), .int (-1), .null, .int 0, .int 0, .ref q_1, .ref q_2, .ref q_3, .ref q_4, .ref q_5, .ref q_6, .null, .null, .int 0, .int 0, .int 0, .int 0, .int 0])), (qs, .inr (7, fsS))] := hD
  refine lv_aload_n hx hb dX11_init_73 rfl (lv_at hl 0 rfl) ?_
  refine lv_bipush (v := 30) hx hb dX11_init_74 (by decide) ?_
  refine va_newa (atype := .int) (ty := .int) (N' := 30) (a0 := (30, .inl (fun _ => 0))) hx hb (hts (.arrayClass .int) (by decide +kernel)) rfl hK hP hD hS hA (fun _ => rfl) (by decide) (by decide) (by decide) (Nat.le_of_ble_eq_true rfl) (Nat.le_of_ble_eq_true rfl) dX11_init_76 ?_
  clear hK hP hD hS
  intro q_7 cq_7 H hK hP hD hS
  refine W.widen (k := 7) (n := 10497) (Nat.le_of_ble_eq_true rfl) (Nat.le_of_ble_eq_true rfl) ?_
  replace hP := hP.sub (ws' := [(h0, .inr (11, [.null, .null, .int (-1), .int (-1), .int (-1), .null, .int 0, .int 0, .ref q_1, .ref q_2, .ref q_3, .ref q_4, .ref q_5, .ref q_6, .null, .null, .int 0, .int 0, .int 0, .int 0, .int 0])), (qs, .inr (7, fsS))]) [0, 1] rfl
  replace hD := hD.sub (ws' := [(h0, .inr (11, [.null, .null, .int (-1), .int (-1), .int (-1), .null, .int 0, .int 0, .ref q_1, .ref q_2, .ref q_3, .ref q_4, .ref q_5, .ref q_6, .null, .null, .int 0, .int 0, .int 0, .int 0, .int 0])), (qs, .inr (7, fsS))]) [0, 1] (by decide) rfl
  replace hK := hK.sub (tys' := []) [] rfl
  refine va_putF (D := (dC, dI)) (ci := 11) (v := .ref q_7) (ty := .array .int) (C := RX11) (T := TX11) (N := 21) hx hb hts uX11_init_X11 tyX11 tyX11_ok nmX11 hown hK hP hD hS 0 rfl rfl 14 (by decide) (hts (.fieldLink RX11 44 "ClassMill$Verifier" "locals" "[I") (by decide +kernel)) (fun _ h9 => h9) rfl hin rfl (by decide +kernel) rfl rfl (Nat.le_of_ble_eq_true rfl) dX11_init_78 ?_
  clear hP hD hS
  intro H locs hP hD hS
  replace hP : va_P (dC, dI) vwCl [(h0, .inr (11, [.null, .null, .int (-1), .int (-1), .int (-1), .null, .int 0, .int 0, .ref q_1, .ref q_2, .ref q_3, .ref q_4, .ref q_5, .ref q_6, .ref q_7, .null, .int 0, .int 0, .int 0, .int 0, .int 0])), (qs, .inr (7, fsS))] H := hP
  replace hD : va_D A [(h0, .inr (11, [.null, .null, .int (-1), .int (-1), .int (-1), .null, .int 0, .int 0, .ref q_1, .ref q_2, .ref q_3, .ref q_4, .ref q_5, .ref q_6, .ref q_7, .null, .int 0, .int 0, .int 0, .int 0, .int 0])), (qs, .inr (7, fsS))] := hD
  refine lv_aload_n hx hb dX11_init_81 rfl (lv_at hl 0 rfl) ?_
  refine lv_bipush (v := 30) hx hb dX11_init_82 (by decide) ?_
  refine va_newa (atype := .int) (ty := .int) (N' := 30) (a0 := (30, .inl (fun _ => 0))) hx hb (hts (.arrayClass .int) (by decide +kernel)) rfl hK hP hD hS hA (fun _ => rfl) (by decide) (by decide) (by decide) (Nat.le_of_ble_eq_true rfl) (Nat.le_of_ble_eq_true rfl) dX11_init_84 ?_
  clear hK hP hD hS
  intro q_8 cq_8 H hK hP hD hS
  refine W.widen (k := 8) (n := 10527) (Nat.le_of_ble_eq_true rfl) (Nat.le_of_ble_eq_true rfl) ?_
  replace hP := hP.sub (ws' := [(h0, .inr (11, [.null, .null, .int (-1), .int (-1), .int (-1), .null, .int 0, .int 0, .ref q_1, .ref q_2, .ref q_3, .ref q_4, .ref q_5, .ref q_6, .ref q_7, .null, .int 0, .int 0, .int 0, .int 0, .int 0])), (qs, .inr (7, fsS))]) [0, 1] rfl
  replace hD := hD.sub (ws' := [(h0, .inr (11, [.null, .null, .int (-1), .int (-1), .int (-1), .null, .int 0, .int 0, .ref q_1, .ref q_2, .ref q_3, .ref q_4, .ref q_5, .ref q_6, .ref q_7, .null, .int 0, .int 0, .int 0, .int 0, .int 0])), (qs, .inr (7, fsS))]) [0, 1] (by decide) rfl
  replace hK := hK.sub (tys' := []) [] rfl
  refine va_putF (D := (dC, dI)) (ci := 11) (v := .ref q_8) (ty := .array .int) (C := RX11) (T := TX11) (N := 21) hx hb hts uX11_init_X11 tyX11 tyX11_ok nmX11 hown hK hP hD hS 0 rfl rfl 15 (by decide) (hts (.fieldLink RX11 47 "ClassMill$Verifier" "stack" "[I") (by decide +kernel)) (fun _ h9 => h9) rfl hin rfl (by decide +kernel) rfl rfl (Nat.le_of_ble_eq_true rfl) dX11_init_86 ?_
  clear hP hD hS
  intro H locs hP hD hS
  replace hP : va_P (dC, dI) vwCl [(h0, .inr (11, [.null, .null, .int (-1), .int (-1), .int (-1), .null, .int 0, .int 0, .ref q_1, .ref q_2, .ref q_3, .ref q_4, .ref q_5, .ref q_6, .ref q_7, .ref q_8, .int 0, .int 0, .int 0, .int 0, .int 0])), (qs, .inr (7, fsS))] H := hP
  replace hD : va_D A [(h0, .inr (11, [.null, .null, .int (-1), .int (-1), .int (-1), .null, .int 0, .int 0, .ref q_1, .ref q_2, .ref q_3, .ref q_4, .ref q_5, .ref q_6, .ref q_7, .ref q_8, .int 0, .int 0, .int 0, .int 0, .int 0])), (qs, .inr (7, fsS))] := hD
  refine lv_aload_n hx hb dX11_init_89 rfl (lv_at hl 0 rfl) ?_
  refine lv_aload_n hx hb dX11_init_90 rfl (lv_at hl 1 rfl) ?_
  refine va_putF (D := (dC, dI)) (ci := 11) (v := .ref qs) (ty := .object "ClassMill$Space") (C := RX11) (T := TX11) (N := 21) hx hb hts uX11_init_X11 tyX11 tyX11_ok nmX11 hown hK hP hD hS 0 rfl rfl 0 (by decide) (hts (.fieldLink RX11 50 "ClassMill$Verifier" "space" "LClassMill$Space;") (by decide +kernel)) (fun _ h9 => h9) rfl hin rfl (by decide +kernel) rfl rfl (Nat.le_of_ble_eq_true rfl) dX11_init_91 ?_
  clear hP hD hS
  intro H locs hP hD hS
  replace hP : va_P (dC, dI) vwCl [(h0, .inr (11, [.ref qs, .null, .int (-1), .int (-1), .int (-1), .null, .int 0, .int 0, .ref q_1, .ref q_2, .ref q_3, .ref q_4, .ref q_5, .ref q_6, .ref q_7, .ref q_8, .int 0, .int 0, .int 0, .int 0, .int 0])), (qs, .inr (7, fsS))] H := hP
  replace hD : va_D A [(h0, .inr (11, [.ref qs, .null, .int (-1), .int (-1), .int (-1), .null, .int 0, .int 0, .ref q_1, .ref q_2, .ref q_3, .ref q_4, .ref q_5, .ref q_6, .ref q_7, .ref q_8, .int 0, .int 0, .int 0, .int 0, .int 0])), (qs, .inr (7, fsS))] := hD
  refine lv_aload_n hx hb dX11_init_94 rfl (lv_at hl 0 rfl) ?_
  refine lv_aload_n hx hb dX11_init_95 rfl (lv_at hl 1 rfl) ?_
  refine va_get (D := (dC, dI)) (ci := 7) (v := .ref qk) (C := RX7) (T := TX7) (N := 8) hx hb hts uX11_init_X7 hown hK hP 1 rfl rfl 0 (by decide) (hts (.fieldLink RX11 54 "ClassMill$Space" "kin" "LClassMill$Kin;") (by decide +kernel)) (fun _ h9 => h9) hSk dX11_init_96 ?_
  refine va_putF (D := (dC, dI)) (ci := 11) (v := .ref qk) (ty := .object "ClassMill$Kin") (C := RX11) (T := TX11) (N := 21) hx hb hts uX11_init_X11 tyX11 tyX11_ok nmX11 hown hK hP hD hS 0 rfl rfl 1 (by decide) (hts (.fieldLink RX11 60 "ClassMill$Verifier" "kin" "LClassMill$Kin;") (by decide +kernel)) (fun _ h9 => h9) rfl hin rfl (by decide +kernel) rfl rfl (Nat.le_of_ble_eq_true rfl) dX11_init_99 ?_
  clear hP hD hS
  intro H locs hP hD hS
  replace hP : va_P (dC, dI) vwCl [(h0, .inr (11, [.ref qs, .ref qk, .int (-1), .int (-1), .int (-1), .null, .int 0, .int 0, .ref q_1, .ref q_2, .ref q_3, .ref q_4, .ref q_5, .ref q_6, .ref q_7, .ref q_8, .int 0, .int 0, .int 0, .int 0, .int 0])), (qs, .inr (7, fsS))] H := hP
  replace hD : va_D A [(h0, .inr (11, [.ref qs, .ref qk, .int (-1), .int (-1), .int (-1), .null, .int 0, .int 0, .ref q_1, .ref q_2, .ref q_3, .ref q_4, .ref q_5, .ref q_6, .ref q_7, .ref q_8, .int 0, .int 0, .int 0, .int 0, .int 0])), (qs, .inr (7, fsS))] := hD
  refine lv_aload_n hx hb dX11_init_102 rfl (lv_at hl 0 rfl) ?_
  refine va_new (ci := 3) (fs := [.null, .int 0, .int 0, .int 0, .null, .null, .null, .int 0, .int 0, .int 0, .int 0, .null, .int 0, .null]) (C := RX3) (T := TX3) (N := 14) hx hb hts uX11_init_X3 tyX3 tyX3_ok hown (hts (.classLink RX11 36 RX3) (by decide +kernel)) (hts (.instantiable RX3 14) (by decide +kernel)) (hts (.initialized RX3) (by decide +kernel)) hK hP hD hS hA rfl (fun j hj => by rcases (show j = 0 ∨ j = 1 ∨ j = 2 ∨ j = 3 ∨ j = 4 ∨ j = 5 ∨ j = 6 ∨ j = 7 ∨ j = 8 ∨ j = 9 ∨ j = 10 ∨ j = 11 ∨ j = 12 ∨ j = 13 by omega) with rfl | rfl | rfl | rfl | rfl | rfl | rfl | rfl | rfl | rfl | rfl | rfl | rfl | rfl <;> rfl) (Nat.le_of_ble_eq_true rfl) (Nat.le_of_ble_eq_true rfl) dX11_init_103 ?_
  clear hP hD hS
  intro q_9 H hP hD hS
  refine W.widen (k := 9) (n := 10541) (Nat.le_of_ble_eq_true rfl) (Nat.le_of_ble_eq_true rfl) ?_
  replace hP : va_P (dC, dI) vwCl [(h0, .inr (11, [.ref qs, .ref qk, .int (-1), .int (-1), .int (-1), .null, .int 0, .int 0, .ref q_1, .ref q_2, .ref q_3, .ref q_4, .ref q_5, .ref q_6, .ref q_7, .ref q_8, .int 0, .int 0, .int 0, .int 0, .int 0])), (qs, .inr (7, fsS)), (q_9, .inr (3, [.null, .int 0, .int 0, .int 0, .null, .null, .null, .int 0, .int 0, .int 0, .int 0, .null, .int 0, .null]))] H := hP
  replace hD : va_D A [(h0, .inr (11, [.ref qs, .ref qk, .int (-1), .int (-1), .int (-1), .null, .int 0, .int 0, .ref q_1, .ref q_2, .ref q_3, .ref q_4, .ref q_5, .ref q_6, .ref q_7, .ref q_8, .int 0, .int 0, .int 0, .int 0, .int 0])), (qs, .inr (7, fsS)), (q_9, .inr (3, [.null, .int 0, .int 0, .int 0, .null, .null, .null, .int 0, .int 0, .int 0, .int 0, .null, .int 0, .null]))] := hD
  refine lv_dup hx hb dX11_init_106 rfl ?_
  have hPc := hP.sub (ws' := [(q_9, .inr (3, [.null, .int 0, .int 0, .int 0, .null, .null, .null, .int 0, .int 0, .int 0, .int 0, .null, .int 0, .null]))]) [2] rfl
  have hDc := hD.sub (ws' := [(q_9, .inr (3, [.null, .int 0, .int 0, .int 0, .null, .null, .null, .int 0, .int 0, .int 0, .int 0, .null, .int 0, .null]))]) [2] (by decide) rfl
  have hKc := hK.sub (tys' := []) [] rfl
  have hFc := va_free (wc := [(q_9, .inr (3, [.null, .int 0, .int 0, .int 0, .null, .null, .null, .int 0, .int 0, .int 0, .int 0, .null, .int 0, .null]))]) hD hS hA [2] rfl
  refine va_callv (va_runIN (As := []) (rest := [.ref q_9, .ref h0]) ⟨hx, hb, hml, hown, hts⟩ (ct_img l dC dI H.size q_9) ⟨va_cnB 0 hts gX11_init_X3_init_n61 rfl rfl rfl hN_X11_61 (hts (.initialized RX3) (by decide +kernel)) (by decide +kernel) ⟨Nat.le_of_ble_eq_true rfl, Nat.le_of_ble_eq_true rfl⟩, rfl, hts (.instanceMethod yX3_init) (by decide +kernel)⟩ ⟨fun a U g mk q => by obtain ⟨q0, q1, qP, qK, qD⟩ := q; exact ⟨q0, q1, qP, va_K.moved (u := U) (U := U.calling g mk a) (Vm.Alike.refl U.vm) qK, qD⟩, fun U hU hW => ⟨rfl, by rw [hU], by rw [hU]; exact hPc, va_K.moved hW.alike hKc, hDc.weaken (fun _ _ _ _ => trivial)⟩⟩ rfl rfl hl.1 rfl (lv_room (Nat.le_of_ble_eq_true rfl)) dX11_init_107 ⟨Nat.le_of_ble_eq_true rfl, Nat.le_of_ble_eq_true rfl⟩) hS (fun q _ h => hFc q h) hFc ?_
  clear hS
  intro u t H1 locs ht hvm hw hB hz1 hk1 hS
  obtain ⟨q_10, q_11, q_12, q_13, q_14, q_15⟩ := u
  obtain ⟨hP1, hK1, hD1⟩ := hB
  rw [ht] at hP1
  have hK1 := va_K.moved hvm.symm hK1
  try dsimp only at hw
  have hPD := va_join (wr := [(h0, .inr (11, [.ref qs, .ref qk, .int (-1), .int (-1), .int (-1), .null, .int 0, .int 0, .ref q_1, .ref q_2, .ref q_3, .ref q_4, .ref q_5, .ref q_6, .ref q_7, .ref q_8, .int 0, .int 0, .int 0, .int 0, .int 0])), (qs, .inr (7, fsS))]) (w1 := [(q_9, .inr (3, [.ref q_10, .int 0, .int 0, .int 0, .ref q_11, .ref q_12, .ref q_13, .int 0, .int 0, .int 0, .int 0, .ref q_14, .int 0, .ref q_15]))]) hP hD [2] [0, 1] rfl rfl (by decide) (by decide) hk1 hFc hP1 hD1
  clear hP hD
  obtain ⟨hP, hD⟩ := hPD
  replace hK := (hK.sub (tys' := []) [] rfl).app hK1
  clear hPc hDc hKc hFc hP1 hK1 hD1 hz1 hk1 ht hvm
  generalize H1 = H at hP hS ⊢
  replace hP : va_P (dC, dI) vwCl [(h0, .inr (11, [.ref qs, .ref qk, .int (-1), .int (-1), .int (-1), .null, .int 0, .int 0, .ref q_1, .ref q_2, .ref q_3, .ref q_4, .ref q_5, .ref q_6, .ref q_7, .ref q_8, .int 0, .int 0, .int 0, .int 0, .int 0])), (qs, .inr (7, fsS)), (q_9, .inr (3, [.ref q_10, .int 0, .int 0, .int 0, .ref q_11, .ref q_12, .ref q_13, .int 0, .int 0, .int 0, .int 0, .ref q_14, .int 0, .ref q_15]))] H := hP
  replace hD : va_D A [(h0, .inr (11, [.ref qs, .ref qk, .int (-1), .int (-1), .int (-1), .null, .int 0, .int 0, .ref q_1, .ref q_2, .ref q_3, .ref q_4, .ref q_5, .ref q_6, .ref q_7, .ref q_8, .int 0, .int 0, .int 0, .int 0, .int 0])), (qs, .inr (7, fsS)), (q_9, .inr (3, [.ref q_10, .int 0, .int 0, .int 0, .ref q_11, .ref q_12, .ref q_13, .int 0, .int 0, .int 0, .int 0, .ref q_14, .int 0, .ref q_15]))] := hD
  replace hK : va_K (dC, dI) vwCl [] s := hK
  refine W.widen (k := 15) (n := 11477) (Nat.le_of_ble_eq_true rfl) (Nat.le_of_ble_eq_true rfl) ?_
  refine va_put (D := (dC, dI)) (ci := 11) (v := .ref q_9) (ty := .object "ClassMill$Image") (C := RX11) (T := TX11) (N := 21) hx hb hts uX11_init_X11 tyX11 tyX11_ok nmX11 hown hK hP hD hS 0 rfl rfl 5 (by decide) (hts (.fieldLink RX11 62 "ClassMill$Verifier" "image" "LClassMill$Image;") (by decide +kernel)) (fun _ h9 => h9) rfl (by decide +kernel) rfl rfl (Nat.le_of_ble_eq_true rfl) dX11_init_110 ?_
  clear hP hD hS
  intro H locs hP hD hS
  replace hP : va_P (dC, dI) vwCl [(h0, .inr (11, [.ref qs, .ref qk, .int (-1), .int (-1), .int (-1), .ref q_9, .int 0, .int 0, .ref q_1, .ref q_2, .ref q_3, .ref q_4, .ref q_5, .ref q_6, .ref q_7, .ref q_8, .int 0, .int 0, .int 0, .int 0, .int 0])), (qs, .inr (7, fsS)), (q_9, .inr (3, [.ref q_10, .int 0, .int 0, .int 0, .ref q_11, .ref q_12, .ref q_13, .int 0, .int 0, .int 0, .int 0, .ref q_14, .int 0, .ref q_15]))] H := hP
  replace hD : va_D A [(h0, .inr (11, [.ref qs, .ref qk, .int (-1), .int (-1), .int (-1), .ref q_9, .int 0, .int 0, .ref q_1, .ref q_2, .ref q_3, .ref q_4, .ref q_5, .ref q_6, .ref q_7, .ref q_8, .int 0, .int 0, .int 0, .int 0, .int 0])), (qs, .inr (7, fsS)), (q_9, .inr (3, [.ref q_10, .int 0, .int 0, .int 0, .ref q_11, .ref q_12, .ref q_13, .int 0, .int 0, .int 0, .int 0, .ref q_14, .int 0, .ref q_15]))] := hD
  have hP9 := hP.sub (ws' := [(h0, .inr (11, [.ref qs, .ref qk, .int (-1), .int (-1), .int (-1), .ref q_9, .int 0, .int 0, .ref q_1, .ref q_2, .ref q_3, .ref q_4, .ref q_5, .ref q_6, .ref q_7, .ref q_8, .int 0, .int 0, .int 0, .int 0, .int 0])), (qs, .inr (7, fsS))]) [0, 1] rfl
  have hD9 := hD.sub (ws' := [(h0, .inr (11, [.ref qs, .ref qk, .int (-1), .int (-1), .int (-1), .ref q_9, .int 0, .int 0, .ref q_1, .ref q_2, .ref q_3, .ref q_4, .ref q_5, .ref q_6, .ref q_7, .ref q_8, .int 0, .int 0, .int 0, .int 0, .int 0])), (qs, .inr (7, fsS))]) [0, 1] (by decide) rfl
  have hK9 := hK.sub (tys' := []) [] rfl
  exact W.vret hx hb hr (fun t ht hW => ⟨⟨(q_9, q_1, q_2, q_3, q_4, q_5, q_6, q_7, q_8), rfl, trivial, by rw [ht]; exact hP9, va_K.moved hW.alike hK9, hD9⟩, hS.F ht⟩) hS.2.2 dX11_init_113
set_option maxHeartbeats 4000000 in
set_option maxRecDepth 100000 in
/-- Machine(space) -/
theorem ct_mac (l : Launch) (dC : Nat → ClassId) (dI : Nat → Nat → Nat) (sz : Nat) (h0 qs : Nat)  : Met l yX5_init wsX5_init ({ frames := 2, cells := 16, slots := 29733, locals := 32 }) (va_Pc [.ref h0, .ref qs] (fun U => U.heap.size = sz ∧ va_P (dC, dI) vwCl [(h0, .inr (5, [.null, .int 0, .int 0, .int 0, .int 0, .int 0, .int 0, .int 0, .null, .null, .null, .null, .null, .null, .null, .null, .null, .int 0, .null, .int 0, .int 0]))] U.heap ∧ va_K (dC, dI) vwCl [] U ∧ va_D (fun _ => True) [(h0, .inr (5, [.null, .int 0, .int 0, .int 0, .int 0, .int 0, .int 0, .int 0, .null, .null, .null, .null, .null, .null, .null, .null, .null, .int 0, .null, .int 0, .int 0]))] ∧ va_Nw (.methodLinkNest RX5 45 yX3_init "ClassMill") U)) (va_Qv (fun (u : Nat × Nat × Nat × Nat × Nat × Nat × Nat × Nat × Nat × Nat) => match u with | (qo1, qo2, qo3, qo4, qo5, qo6, qo7, qo8, qo9, qo10) => True) (fun (u : Nat × Nat × Nat × Nat × Nat × Nat × Nat × Nat × Nat × Nat) (t : State) => match u with | (qo1, qo2, qo3, qo4, qo5, qo6, qo7, qo8, qo9, qo10) => va_P (dC, dI) vwCl [(h0, .inr (5, [.ref qs, .int 0, .int (-1), .int 0, .int 0, .int 0, .int 0, .int 0, .ref qo1, .ref qo2, .ref qo3, .ref qo4, .ref qo5, .ref qo6, .ref qo7, .ref qo8, .ref qo9, .int 0, .ref qo10, .int 0, .int 0]))] t.heap ∧ va_K (dC, dI) vwCl [] t ∧ va_D (va_A [(h0, .inr (5, [.null, .int 0, .int 0, .int 0, .int 0, .int 0, .int 0, .int 0, .null, .null, .null, .null, .null, .null, .null, .null, .null, .int 0, .null, .int 0, .int 0]))] sz) [(h0, .inr (5, [.ref qs, .int 0, .int (-1), .int 0, .int 0, .int 0, .int 0, .int 0, .ref qo1, .ref qo2, .ref qo3, .ref qo4, .ref qo5, .ref qo6, .ref qo7, .ref qo8, .ref qo9, .int 0, .ref qo10, .int 0, .int 0]))]) (va_A [(h0, .inr (5, [.null, .int 0, .int 0, .int 0, .int 0, .int 0, .int 0, .int 0, .null, .null, .null, .null, .null, .null, .null, .null, .null, .int 0, .null, .int 0, .int 0]))] sz)) 16 29733 (va_A [(h0, .inr (5, [.null, .int 0, .int 0, .int 0, .int 0, .int 0, .int 0, .int 0, .null, .null, .null, .null, .null, .null, .null, .null, .null, .int 0, .null, .int 0, .int 0]))] sz) := by
  refine Met.ofW (cc := cX5_init) (maxL := 2) (ret := none) (by decide) rfl ?_
  intro p e s m args below meth c s₁ B hml hv
  obtain ⟨rfl, hsz, hP, hK, hD0, hN_X5_45⟩ := hv
  have hx := B.exec
  have hb := B.bytes
  have hr := B.returns
  have hts := atoms_spec (ws := wsX5_init) B.pre
  have hown : s.vm.findClass RX5 = some m.cls := findClass_of_methodNamed B.named
  have hlocks := B.notSynchronized
  have hin : meth.name = "<init>" := (name_of_methodNamed B.named B.method).1
  subst hsz
  have hD := hD0.self (sz := s.heap.size)
  generalize hAe : va_A [(h0, .inr (5, [.null, .int 0, .int 0, .int 0, .int 0, .int 0, .int 0, .int 0, .null, .null, .null, .null, .null, .null, .null, .null, .null, .int 0, .null, .int 0, .int 0]))] s.heap.size = A at hD  ⊢
  have hA : ∀ q : Nat, s.heap.size ≤ q → A q := fun q h => by rw [← hAe]; exact Or.inr h
  have hP : va_P (dC, dI) vwCl [(h0, .inr (5, [.null, .int 0, .int 0, .int 0, .int 0, .int 0, .int 0, .int 0, .null, .null, .null, .null, .null, .null, .null, .null, .null, .int 0, .null, .int 0, .int 0]))] s.heap := hP
  have hl := lv_entry ([.ref h0, .ref qs]) (n := 2) (Nat.le_of_ble_eq_true rfl)
  rw [lg_entry_eq]
  generalize (lg_sl ([.ref h0, .ref qs]) ++ List.replicate (2 - (lg_sl ([.ref h0, .ref qs])).length) Slot.unset).toArray = ls at hl ⊢
  have hl : lv_has ls 2 [(0, .ref h0), (1, .ref qs)] := hl
  obtain ⟨H, hH⟩ : ∃ H : Heap, s.heap = H := ⟨_, rfl⟩
  rw [hH] at hP ⊢
  have hS : va_S A s.heap H [] := by rw [← hH]; exact va_S.rf
  obtain ⟨locs, hlo⟩ : ∃ locs : List Loc, locs = [] := ⟨_, rfl⟩
  rw [← hlo] at hS ⊢
  refine lv_aload_n hx hb dX5_init_0 rfl (lv_at hl 0 rfl) ?_
  refine W.objInit hx hb hown (hts (.methodLink RX5 5 objectInit) (by decide +kernel)) (hts (.instanceMethod objectInit) (by decide +kernel)) (hts (.code objectInit ⟨#[0xb1]⟩ 1 none) (by decide +kernel)) rfl (by rw [hml]; exact hl.1) rfl dX5_init_1 (Nat.le_of_ble_eq_true rfl) (Nat.le_of_ble_eq_true rfl) ?_
  refine W.eq (g2 := F0 m 4 ls []) rfl ?_
  refine lv_aload_n hx hb dX5_init_4 rfl (lv_at hl 0 rfl) ?_
  refine lv_sipush (v := 1000) hx hb dX5_init_5 (by decide) ?_
  refine va_newa (atype := .int) (ty := .int) (N' := 1000) (a0 := (1000, .inl (fun _ => 0))) hx hb (hts (.arrayClass .int) (by decide +kernel)) rfl hK hP hD hS hA (fun _ => rfl) (by decide) (by decide) (by decide) (Nat.le_of_ble_eq_true rfl) (Nat.le_of_ble_eq_true rfl) dX5_init_8 ?_
  clear hK hP hD hS
  intro q_1 cq_1 H hK hP hD hS
  refine W.widen (k := 1) (n := 1000) (Nat.le_of_ble_eq_true rfl) (Nat.le_of_ble_eq_true rfl) ?_
  replace hP := hP.sub (ws' := [(h0, .inr (5, [.null, .int 0, .int 0, .int 0, .int 0, .int 0, .int 0, .int 0, .null, .null, .null, .null, .null, .null, .null, .null, .null, .int 0, .null, .int 0, .int 0]))]) [0] rfl
  replace hD := hD.sub (ws' := [(h0, .inr (5, [.null, .int 0, .int 0, .int 0, .int 0, .int 0, .int 0, .int 0, .null, .null, .null, .null, .null, .null, .null, .null, .null, .int 0, .null, .int 0, .int 0]))]) [0] (by decide) rfl
  replace hK := hK.sub (tys' := []) [] rfl
  refine va_putF (D := (dC, dI)) (ci := 5) (v := .ref q_1) (ty := .array .int) (C := RX5) (T := TX5) (N := 21) hx hb hts uX5_init_X5 tyX5 tyX5_ok nmX5 hown hK hP hD hS 0 rfl rfl 8 (by decide) (hts (.fieldLink RX5 13 "ClassMill$Machine" "printed" "[I") (by decide +kernel)) (fun _ h9 => h9) rfl hin rfl (by decide +kernel) rfl rfl (Nat.le_of_ble_eq_true rfl) dX5_init_10 ?_
  clear hP hD hS
  intro H locs hP hD hS
  replace hP : va_P (dC, dI) vwCl [(h0, .inr (5, [.null, .int 0, .int 0, .int 0, .int 0, .int 0, .int 0, .int 0, .ref q_1, .null, .null, .null, .null, .null, .null, .null, .null, .int 0, .null, .int 0, .int 0]))] H := hP
  replace hD : va_D A [(h0, .inr (5, [.null, .int 0, .int 0, .int 0, .int 0, .int 0, .int 0, .int 0, .ref q_1, .null, .null, .null, .null, .null, .null, .null, .null, .int 0, .null, .int 0, .int 0]))] := hD
  refine lv_aload_n hx hb dX5_init_13 rfl (lv_at hl 0 rfl) ?_
  refine lv_sipush (v := 2001) hx hb dX5_init_14 (by decide) ?_
  refine va_newa (atype := .int) (ty := .int) (N' := 2001) (a0 := (2001, .inl (fun _ => 0))) hx hb (hts (.arrayClass .int) (by decide +kernel)) rfl hK hP hD hS hA (fun _ => rfl) (by decide) (by decide) (by decide) (Nat.le_of_ble_eq_true rfl) (Nat.le_of_ble_eq_true rfl) dX5_init_17 ?_
  clear hK hP hD hS
  intro q_2 cq_2 H hK hP hD hS
  refine W.widen (k := 2) (n := 3001) (Nat.le_of_ble_eq_true rfl) (Nat.le_of_ble_eq_true rfl) ?_
  replace hP := hP.sub (ws' := [(h0, .inr (5, [.null, .int 0, .int 0, .int 0, .int 0, .int 0, .int 0, .int 0, .ref q_1, .null, .null, .null, .null, .null, .null, .null, .null, .int 0, .null, .int 0, .int 0]))]) [0] rfl
  replace hD := hD.sub (ws' := [(h0, .inr (5, [.null, .int 0, .int 0, .int 0, .int 0, .int 0, .int 0, .int 0, .ref q_1, .null, .null, .null, .null, .null, .null, .null, .null, .int 0, .null, .int 0, .int 0]))]) [0] (by decide) rfl
  replace hK := hK.sub (tys' := []) [] rfl
  refine va_putF (D := (dC, dI)) (ci := 5) (v := .ref q_2) (ty := .array .int) (C := RX5) (T := TX5) (N := 21) hx hb hts uX5_init_X5 tyX5 tyX5_ok nmX5 hown hK hP hD hS 0 rfl rfl 9 (by decide) (hts (.fieldLink RX5 17 "ClassMill$Machine" "objectType" "[I") (by decide +kernel)) (fun _ h9 => h9) rfl hin rfl (by decide +kernel) rfl rfl (Nat.le_of_ble_eq_true rfl) dX5_init_19 ?_
  clear hP hD hS
  intro H locs hP hD hS
  replace hP : va_P (dC, dI) vwCl [(h0, .inr (5, [.null, .int 0, .int 0, .int 0, .int 0, .int 0, .int 0, .int 0, .ref q_1, .ref q_2, .null, .null, .null, .null, .null, .null, .null, .int 0, .null, .int 0, .int 0]))] H := hP
  replace hD : va_D A [(h0, .inr (5, [.null, .int 0, .int 0, .int 0, .int 0, .int 0, .int 0, .int 0, .ref q_1, .ref q_2, .null, .null, .null, .null, .null, .null, .null, .int 0, .null, .int 0, .int 0]))] := hD
  refine lv_aload_n hx hb dX5_init_22 rfl (lv_at hl 0 rfl) ?_
  refine lv_sipush (v := 2002) hx hb dX5_init_23 (by decide) ?_
  refine va_newa (atype := .int) (ty := .int) (N' := 2002) (a0 := (2002, .inl (fun _ => 0))) hx hb (hts (.arrayClass .int) (by decide +kernel)) rfl hK hP hD hS hA (fun _ => rfl) (by decide) (by decide) (by decide) (Nat.le_of_ble_eq_true rfl) (Nat.le_of_ble_eq_true rfl) dX5_init_26 ?_
  clear hK hP hD hS
  intro q_3 cq_3 H hK hP hD hS
  refine W.widen (k := 3) (n := 5003) (Nat.le_of_ble_eq_true rfl) (Nat.le_of_ble_eq_true rfl) ?_
  replace hP := hP.sub (ws' := [(h0, .inr (5, [.null, .int 0, .int 0, .int 0, .int 0, .int 0, .int 0, .int 0, .ref q_1, .ref q_2, .null, .null, .null, .null, .null, .null, .null, .int 0, .null, .int 0, .int 0]))]) [0] rfl
  replace hD := hD.sub (ws' := [(h0, .inr (5, [.null, .int 0, .int 0, .int 0, .int 0, .int 0, .int 0, .int 0, .ref q_1, .ref q_2, .null, .null, .null, .null, .null, .null, .null, .int 0, .null, .int 0, .int 0]))]) [0] (by decide) rfl
  replace hK := hK.sub (tys' := []) [] rfl
  refine va_putF (D := (dC, dI)) (ci := 5) (v := .ref q_3) (ty := .array .int) (C := RX5) (T := TX5) (N := 21) hx hb hts uX5_init_X5 tyX5 tyX5_ok nmX5 hown hK hP hD hS 0 rfl rfl 10 (by decide) (hts (.fieldLink RX5 20 "ClassMill$Machine" "objectAt" "[I") (by decide +kernel)) (fun _ h9 => h9) rfl hin rfl (by decide +kernel) rfl rfl (Nat.le_of_ble_eq_true rfl) dX5_init_28 ?_
  clear hP hD hS
  intro H locs hP hD hS
  replace hP : va_P (dC, dI) vwCl [(h0, .inr (5, [.null, .int 0, .int 0, .int 0, .int 0, .int 0, .int 0, .int 0, .ref q_1, .ref q_2, .ref q_3, .null, .null, .null, .null, .null, .null, .int 0, .null, .int 0, .int 0]))] H := hP
  replace hD : va_D A [(h0, .inr (5, [.null, .int 0, .int 0, .int 0, .int 0, .int 0, .int 0, .int 0, .ref q_1, .ref q_2, .ref q_3, .null, .null, .null, .null, .null, .null, .int 0, .null, .int 0, .int 0]))] := hD
  refine lv_aload_n hx hb dX5_init_31 rfl (lv_at hl 0 rfl) ?_
  refine lv_sipush (v := 20000) hx hb dX5_init_32 (by decide) ?_
  refine va_newa (atype := .int) (ty := .int) (N' := 20000) (a0 := (20000, .inl (fun _ => 0))) hx hb (hts (.arrayClass .int) (by decide +kernel)) rfl hK hP hD hS hA (fun _ => rfl) (by decide) (by decide) (by decide) (Nat.le_of_ble_eq_true rfl) (Nat.le_of_ble_eq_true rfl) dX5_init_35 ?_
  clear hK hP hD hS
  intro q_4 cq_4 H hK hP hD hS
  refine W.widen (k := 4) (n := 25003) (Nat.le_of_ble_eq_true rfl) (Nat.le_of_ble_eq_true rfl) ?_
  replace hP := hP.sub (ws' := [(h0, .inr (5, [.null, .int 0, .int 0, .int 0, .int 0, .int 0, .int 0, .int 0, .ref q_1, .ref q_2, .ref q_3, .null, .null, .null, .null, .null, .null, .int 0, .null, .int 0, .int 0]))]) [0] rfl
  replace hD := hD.sub (ws' := [(h0, .inr (5, [.null, .int 0, .int 0, .int 0, .int 0, .int 0, .int 0, .int 0, .ref q_1, .ref q_2, .ref q_3, .null, .null, .null, .null, .null, .null, .int 0, .null, .int 0, .int 0]))]) [0] (by decide) rfl
  replace hK := hK.sub (tys' := []) [] rfl
  refine va_putF (D := (dC, dI)) (ci := 5) (v := .ref q_4) (ty := .array .int) (C := RX5) (T := TX5) (N := 21) hx hb hts uX5_init_X5 tyX5 tyX5_ok nmX5 hown hK hP hD hS 0 rfl rfl 11 (by decide) (hts (.fieldLink RX5 23 "ClassMill$Machine" "cell" "[I") (by decide +kernel)) (fun _ h9 => h9) rfl hin rfl (by decide +kernel) rfl rfl (Nat.le_of_ble_eq_true rfl) dX5_init_37 ?_
  clear hP hD hS
  intro H locs hP hD hS
  replace hP : va_P (dC, dI) vwCl [(h0, .inr (5, [.null, .int 0, .int 0, .int 0, .int 0, .int 0, .int 0, .int 0, .ref q_1, .ref q_2, .ref q_3, .ref q_4, .null, .null, .null, .null, .null, .int 0, .null, .int 0, .int 0]))] H := hP
  replace hD : va_D A [(h0, .inr (5, [.null, .int 0, .int 0, .int 0, .int 0, .int 0, .int 0, .int 0, .ref q_1, .ref q_2, .ref q_3, .ref q_4, .null, .null, .null, .null, .null, .int 0, .null, .int 0, .int 0]))] := hD
  refine lv_aload_n hx hb dX5_init_40 rfl (lv_at hl 0 rfl) ?_
  refine lv_bipush (v := 60) hx hb dX5_init_41 (by decide) ?_
  refine va_newa (atype := .int) (ty := .int) (N' := 60) (a0 := (60, .inl (fun _ => 0))) hx hb (hts (.arrayClass .int) (by decide +kernel)) rfl hK hP hD hS hA (fun _ => rfl) (by decide) (by decide) (by decide) (Nat.le_of_ble_eq_true rfl) (Nat.le_of_ble_eq_true rfl) dX5_init_43 ?_
  clear hK hP hD hS
  intro q_5 cq_5 H hK hP hD hS
  refine W.widen (k := 5) (n := 25063) (Nat.le_of_ble_eq_true rfl) (Nat.le_of_ble_eq_true rfl) ?_
  replace hP := hP.sub (ws' := [(h0, .inr (5, [.null, .int 0, .int 0, .int 0, .int 0, .int 0, .int 0, .int 0, .ref q_1, .ref q_2, .ref q_3, .ref q_4, .null, .null, .null, .null, .null, .int 0, .null, .int 0, .int 0]))]) [0] rfl
  replace hD := hD.sub (ws' := [(h0, .inr (5, [.null, .int 0, .int 0, .int 0, .int 0, .int 0, .int 0, .int 0, .ref q_1, .ref q_2, .ref q_3, .ref q_4, .null, .null, .null, .null, .null, .int 0, .null, .int 0, .int 0]))]) [0] (by decide) rfl
  replace hK := hK.sub (tys' := []) [] rfl
  refine va_putF (D := (dC, dI)) (ci := 5) (v := .ref q_5) (ty := .array .int) (C := RX5) (T := TX5) (N := 21) hx hb hts uX5_init_X5 tyX5 tyX5_ok nmX5 hown hK hP hD hS 0 rfl rfl 12 (by decide) (hts (.fieldLink RX5 26 "ClassMill$Machine" "methods" "[I") (by decide +kernel)) (fun _ h9 => h9) rfl hin rfl (by decide +kernel) rfl rfl (Nat.le_of_ble_eq_true rfl) dX5_init_45 ?_
  clear hP hD hS
  intro H locs hP hD hS
  replace hP : va_P (dC, dI) vwCl [(h0, .inr (5, [.null, .int 0, .int 0, .int 0, .int 0, .int 0, .int 0, .int 0, .ref q_1, .ref q_2, .ref q_3, .ref q_4, .ref q_5, .null, .null, .null, .null, .int 0, .null, .int 0, .int 0]))] H := hP
  replace hD : va_D A [(h0, .inr (5, [.null, .int 0, .int 0, .int 0, .int 0, .int 0, .int 0, .int 0, .ref q_1, .ref q_2, .ref q_3, .ref q_4, .ref q_5, .null, .null, .null, .null, .int 0, .null, .int 0, .int 0]))] := hD
  refine lv_aload_n hx hb dX5_init_48 rfl (lv_at hl 0 rfl) ?_
  refine lv_bipush (v := 60) hx hb dX5_init_49 (by decide) ?_
  refine va_newa (atype := .int) (ty := .int) (N' := 60) (a0 := (60, .inl (fun _ => 0))) hx hb (hts (.arrayClass .int) (by decide +kernel)) rfl hK hP hD hS hA (fun _ => rfl) (by decide) (by decide) (by decide) (Nat.le_of_ble_eq_true rfl) (Nat.le_of_ble_eq_true rfl) dX5_init_51 ?_
  clear hK hP hD hS
  intro q_6 cq_6 H hK hP hD hS
  refine W.widen (k := 6) (n := 25123) (Nat.le_of_ble_eq_true rfl) (Nat.le_of_ble_eq_true rfl) ?_
  replace hP := hP.sub (ws' := [(h0, .inr (5, [.null, .int 0, .int 0, .int 0, .int 0, .int 0, .int 0, .int 0, .ref q_1, .ref q_2, .ref q_3, .ref q_4, .ref q_5, .null, .null, .null, .null, .int 0, .null, .int 0, .int 0]))]) [0] rfl
  replace hD := hD.sub (ws' := [(h0, .inr (5, [.null, .int 0, .int 0, .int 0, .int 0, .int 0, .int 0, .int 0, .ref q_1, .ref q_2, .ref q_3, .ref q_4, .ref q_5, .null, .null, .null, .null, .int 0, .null, .int 0, .int 0]))]) [0] (by decide) rfl
  replace hK := hK.sub (tys' := []) [] rfl
  refine va_putF (D := (dC, dI)) (ci := 5) (v := .ref q_6) (ty := .array .int) (C := RX5) (T := TX5) (N := 21) hx hb hts uX5_init_X5 tyX5 tyX5_ok nmX5 hown hK hP hD hS 0 rfl rfl 13 (by decide) (hts (.fieldLink RX5 29 "ClassMill$Machine" "places" "[I") (by decide +kernel)) (fun _ h9 => h9) rfl hin rfl (by decide +kernel) rfl rfl (Nat.le_of_ble_eq_true rfl) dX5_init_53 ?_
  clear hP hD hS
  intro H locs hP hD hS
  replace hP : va_P (dC, dI) vwCl [(h0, .inr (5, [.null, .int 0, .int 0, .int 0, .int 0, .int 0, .int 0, .int 0, .ref q_1, .ref q_2, .ref q_3, .ref q_4, .ref q_5, .ref q_6, .null, .null, .null, .int 0, .null, .int 0, .int 0]))] H := hP
  replace hD : va_D A [(h0, .inr (5, [.null, .int 0, .int 0, .int 0, .int 0, .int 0, .int 0, .int 0, .ref q_1, .ref q_2, .ref q_3, .ref q_4, .ref q_5, .ref q_6, .null, .null, .null, .int 0, .null, .int 0, .int 0]))] := hD
  refine lv_aload_n hx hb dX5_init_56 rfl (lv_at hl 0 rfl) ?_
  refine lv_bipush (v := 60) hx hb dX5_init_57 (by decide) ?_
  refine va_newa (atype := .int) (ty := .int) (N' := 60) (a0 := (60, .inl (fun _ => 0))) hx hb (hts (.arrayClass .int) (by decide +kernel)) rfl hK hP hD hS hA (fun _ => rfl) (by decide) (by decide) (by decide) (Nat.le_of_ble_eq_true rfl) (Nat.le_of_ble_eq_true rfl) dX5_init_59 ?_
  clear hK hP hD hS
  intro q_7 cq_7 H hK hP hD hS
  refine W.widen (k := 7) (n := 25183) (Nat.le_of_ble_eq_true rfl) (Nat.le_of_ble_eq_true rfl) ?_
  replace hP := hP.sub (ws' := [(h0, .inr (5, [.null, .int 0, .int 0, .int 0, .int 0, .int 0, .int 0, .int 0, .ref q_1, .ref q_2, .ref q_3, .ref q_4, .ref q_5, .ref q_6, .null, .null, .null, .int 0, .null, .int 0, .int 0]))]) [0] rfl
  replace hD := hD.sub (ws' := [(h0, .inr (5, [.null, .int 0, .int 0, .int 0, .int 0, .int 0, .int 0, .int 0, .ref q_1, .ref q_2, .ref q_3, .ref q_4, .ref q_5, .ref q_6, .null, .null, .null, .int 0, .null, .int 0, .int 0]))]) [0] (by decide) rfl
  replace hK := hK.sub (tys' := []) [] rfl
  refine va_putF (D := (dC, dI)) (ci := 5) (v := .ref q_7) (ty := .array .int) (C := RX5) (T := TX5) (N := 21) hx hb hts uX5_init_X5 tyX5 tyX5_ok nmX5 hown hK hP hD hS 0 rfl rfl 14 (by decide) (hts (.fieldLink RX5 32 "ClassMill$Machine" "heights" "[I") (by decide +kernel)) (fun _ h9 => h9) rfl hin rfl (by decide +kernel) rfl rfl (Nat.le_of_ble_eq_true rfl) dX5_init_61 ?_
  clear hP hD hS
  intro H locs hP hD hS
  replace hP : va_P (dC, dI) vwCl [(h0, .inr (5, [.null, .int 0, .int 0, .int 0, .int 0, .int 0, .int 0, .int 0, .ref q_1, .ref q_2, .ref q_3, .ref q_4, .ref q_5, .ref q_6, .ref q_7, .null, .null, .int 0, .null, .int 0, .int 0]))] H := hP
  replace hD : va_D A [(h0, .inr (5, [.null, .int 0, .int 0, .int 0, .int 0, .int 0, .int 0, .int 0, .ref q_1, .ref q_2, .ref q_3, .ref q_4, .ref q_5, .ref q_6, .ref q_7, .null, .null, .int 0, .null, .int 0, .int 0]))] := hD
  refine lv_aload_n hx hb dX5_init_64 rfl (lv_at hl 0 rfl) ?_
  refine lv_sipush (v := 1800) hx hb dX5_init_65 (by decide) ?_
  refine va_newa (atype := .int) (ty := .int) (N' := 1800) (a0 := (1800, .inl (fun _ => 0))) hx hb (hts (.arrayClass .int) (by decide +kernel)) rfl hK hP hD hS hA (fun _ => rfl) (by decide) (by decide) (by decide) (Nat.le_of_ble_eq_true rfl) (Nat.le_of_ble_eq_true rfl) dX5_init_68 ?_
  clear hK hP hD hS
  intro q_8 cq_8 H hK hP hD hS
  refine W.widen (k := 8) (n := 26983) (Nat.le_of_ble_eq_true rfl) (Nat.le_of_ble_eq_true rfl) ?_
  replace hP := hP.sub (ws' := [(h0, .inr (5, [.null, .int 0, .int 0, .int 0, .int 0, .int 0, .int 0, .int 0, .ref q_1, .ref q_2, .ref q_3, .ref q_4, .ref q_5, .ref q_6, .ref q_7, .null, .null, .int 0, .null, .int 0, .int 0]))]) [0] rfl
  replace hD := hD.sub (ws' := [(h0, .inr (5, [.null, .int 0, .int 0, .int 0, .int 0, .int 0, .int 0, .int 0, .ref q_1, .ref q_2, .ref q_3, .ref q_4, .ref q_5, .ref q_6, .ref q_7, .null, .null, .int 0, .null, .int 0, .int 0]))]) [0] (by decide) rfl
  replace hK := hK.sub (tys' := []) [] rfl
  refine va_putF (D := (dC, dI)) (ci := 5) (v := .ref q_8) (ty := .array .int) (C := RX5) (T := TX5) (N := 21) hx hb hts uX5_init_X5 tyX5 tyX5_ok nmX5 hown hK hP hD hS 0 rfl rfl 15 (by decide) (hts (.fieldLink RX5 35 "ClassMill$Machine" "locals" "[I") (by decide +kernel)) (fun _ h9 => h9) rfl hin rfl (by decide +kernel) rfl rfl (Nat.le_of_ble_eq_true rfl) dX5_init_70 ?_
  clear hP hD hS
  intro H locs hP hD hS
  replace hP : va_P (dC, dI) vwCl [(h0, .inr (5, [.null, .int 0, .int 0, .int 0, .int 0, .int 0, .int 0, .int 0, .ref q_1, .ref q_2, .ref q_3, .ref q_4, .ref q_5, .ref q_6, .ref q_7, .ref q_8, .null, .int 0, .null, .int 0, .int 0]))] H := hP
  replace hD : va_D A [(h0, .inr (5, [.null, .int 0, .int 0, .int 0, .int 0, .int 0, .int 0, .int 0, .ref q_1, .ref q_2, .ref q_3, .ref q_4, .ref q_5, .ref q_6, .ref q_7, .ref q_8, .null, .int 0, .null, .int 0, .int 0]))] := hD
  refine lv_aload_n hx hb dX5_init_73 rfl (lv_at hl 0 rfl) ?_
  refine lv_sipush (v := 1800) hx hb dX5_init_74 (by decide) ?_
  refine va_newa (atype := .int) (ty := .int) (N' := 1800) (a0 := (1800, .inl (fun _ => 0))) hx hb (hts (.arrayClass .int) (by decide +kernel)) rfl hK hP hD hS hA (fun _ => rfl) (by decide) (by decide) (by decide) (Nat.le_of_ble_eq_true rfl) (Nat.le_of_ble_eq_true rfl) dX5_init_77 ?_
  clear hK hP hD hS
  intro q_9 cq_9 H hK hP hD hS
  refine W.widen (k := 9) (n := 28783) (Nat.le_of_ble_eq_true rfl) (Nat.le_of_ble_eq_true rfl) ?_
  replace hP := hP.sub (ws' := [(h0, .inr (5, [.null, .int 0, .int 0, .int 0, .int 0, .int 0, .int 0, .int 0, .ref q_1, .ref q_2, .ref q_3, .ref q_4, .ref q_5, .ref q_6, .ref q_7, .ref q_8, .null, .int 0, .null, .int 0, .int 0]))]) [0] rfl
  replace hD := hD.sub (ws' := [(h0, .inr (5, [.null, .int 0, .int 0, .int 0, .int 0, .int 0, .int 0, .int 0, .ref q_1, .ref q_2, .ref q_3, .ref q_4, .ref q_5, .ref q_6, .ref q_7, .ref q_8, .null, .int 0, .null, .int 0, .int 0]))]) [0] (by decide) rfl
  replace hK := hK.sub (tys' := []) [] rfl
  refine va_putF (D := (dC, dI)) (ci := 5) (v := .ref q_9) (ty := .array .int) (C := RX5) (T := TX5) (N := 21) hx hb hts uX5_init_X5 tyX5 tyX5_ok nmX5 hown hK hP hD hS 0 rfl rfl 16 (by decide) (hts (.fieldLink RX5 38 "ClassMill$Machine" "stack" "[I") (by decide +kernel)) (fun _ h9 => h9) rfl hin rfl (by decide +kernel) rfl rfl (Nat.le_of_ble_eq_true rfl) dX5_init_79 ?_
  clear hP hD hS
  intro H locs hP hD hS
  replace hP : va_P (dC, dI) vwCl [(h0, .inr (5, [.null, .int 0, .int 0, .int 0, .int 0, .int 0, .int 0, .int 0, .ref q_1, .ref q_2, .ref q_3, .ref q_4, .ref q_5, .ref q_6, .ref q_7, .ref q_8, .ref q_9, .int 0, .null, .int 0, .int 0]))] H := hP
  replace hD : va_D A [(h0, .inr (5, [.null, .int 0, .int 0, .int 0, .int 0, .int 0, .int 0, .int 0, .ref q_1, .ref q_2, .ref q_3, .ref q_4, .ref q_5, .ref q_6, .ref q_7, .ref q_8, .ref q_9, .int 0, .null, .int 0, .int 0]))] := hD
  refine lv_aload_n hx hb dX5_init_82 rfl (lv_at hl 0 rfl) ?_
  refine lv_aload_n hx hb dX5_init_83 rfl (lv_at hl 1 rfl) ?_
  refine va_putF (D := (dC, dI)) (ci := 5) (v := .ref qs) (ty := .object "ClassMill$Space") (C := RX5) (T := TX5) (N := 21) hx hb hts uX5_init_X5 tyX5 tyX5_ok nmX5 hown hK hP hD hS 0 rfl rfl 0 (by decide) (hts (.fieldLink RX5 41 "ClassMill$Machine" "space" "LClassMill$Space;") (by decide +kernel)) (fun _ h9 => h9) rfl hin rfl (by decide +kernel) rfl rfl (Nat.le_of_ble_eq_true rfl) dX5_init_84 ?_
  clear hP hD hS
  intro H locs hP hD hS
  replace hP : va_P (dC, dI) vwCl [(h0, .inr (5, [.ref qs, .int 0, .int 0, .int 0, .int 0, .int 0, .int 0, .int 0, .ref q_1, .ref q_2, .ref q_3, .ref q_4, .ref q_5, .ref q_6, .ref q_7, .ref q_8, .ref q_9, .int 0, .null, .int 0, .int 0]))] H := hP
  replace hD : va_D A [(h0, .inr (5, [.ref qs, .int 0, .int 0, .int 0, .int 0, .int 0, .int 0, .int 0, .ref q_1, .ref q_2, .ref q_3, .ref q_4, .ref q_5, .ref q_6, .ref q_7, .ref q_8, .ref q_9, .int 0, .null, .int 0, .int 0]))] := hD
  refine lv_aload_n hx hb dX5_init_87 rfl (lv_at hl 0 rfl) ?_
  refine va_new (ci := 3) (fs := [.null, .int 0, .int 0, .int 0, .null, .null, .null, .int 0, .int 0, .int 0, .int 0, .null, .int 0, .null]) (C := RX3) (T := TX3) (N := 14) hx hb hts uX5_init_X3 tyX3 tyX3_ok hown (hts (.classLink RX5 1 RX3) (by decide +kernel)) (hts (.instantiable RX3 14) (by decide +kernel)) (hts (.initialized RX3) (by decide +kernel)) hK hP hD hS hA rfl (fun j hj => by rcases (show j = 0 ∨ j = 1 ∨ j = 2 ∨ j = 3 ∨ j = 4 ∨ j = 5 ∨ j = 6 ∨ j = 7 ∨ j = 8 ∨ j = 9 ∨ j = 10 ∨ j = 11 ∨ j = 12 ∨ j = 13 by omega) with rfl | rfl | rfl | rfl | rfl | rfl | rfl | rfl | rfl | rfl | rfl | rfl | rfl | rfl <;> rfl) (Nat.le_of_ble_eq_true rfl) (Nat.le_of_ble_eq_true rfl) dX5_init_88 ?_
  clear hP hD hS
  intro q_10 H hP hD hS
  refine W.widen (k := 10) (n := 28797) (Nat.le_of_ble_eq_true rfl) (Nat.le_of_ble_eq_true rfl) ?_
  replace hP : va_P (dC, dI) vwCl [(h0, .inr (5, [.ref qs, .int 0, .int 0, .int 0, .int 0, .int 0, .int 0, .int 0, .ref q_1, .ref q_2, .ref q_3, .ref q_4, .ref q_5, .ref q_6, .ref q_7, .ref q_8, .ref q_9, .int 0, .null, .int 0, .int 0])), (q_10, .inr (3, [.null, .int 0, .int 0, .int 0, .null, .null, .null, .int 0, .int 0, .int 0, .int 0, .null, .int 0, .null]))] H := hP
  replace hD : va_D A [(h0, .inr (5, [.ref qs, .int 0, .int 0, .int 0, .int 0, .int 0, .int 0, .int 0, .ref q_1, .ref q_2, .ref q_3, .ref q_4, .ref q_5, .ref q_6, .ref q_7, .ref q_8, .ref q_9, .int 0, .null, .int 0, .int 0])), (q_10, .inr (3, [.null, .int 0, .int 0, .int 0, .null, .null, .null, .int 0, .int 0, .int 0, .int 0, .null, .int 0, .null]))] := hD
  refine lv_dup hx hb dX5_init_91 rfl ?_
  have hPc := hP.sub (ws' := [(q_10, .inr (3, [.null, .int 0, .int 0, .int 0, .null, .null, .null, .int 0, .int 0, .int 0, .int 0, .null, .int 0, .null]))]) [1] rfl
  have hDc := hD.sub (ws' := [(q_10, .inr (3, [.null, .int 0, .int 0, .int 0, .null, .null, .null, .int 0, .int 0, .int 0, .int 0, .null, .int 0, .null]))]) [1] (by decide) rfl
  have hKc := hK.sub (tys' := []) [] rfl
  have hFc := va_free (wc := [(q_10, .inr (3, [.null, .int 0, .int 0, .int 0, .null, .null, .null, .int 0, .int 0, .int 0, .int 0, .null, .int 0, .null]))]) hD hS hA [1] rfl
  refine va_callv (va_runIN (As := []) (rest := [.ref q_10, .ref h0]) ⟨hx, hb, hml, hown, hts⟩ (ct_img l dC dI H.size q_10) ⟨va_cnB 0 hts gX5_init_X3_init_n45 rfl rfl rfl hN_X5_45 (hts (.initialized RX3) (by decide +kernel)) (by decide +kernel) ⟨Nat.le_of_ble_eq_true rfl, Nat.le_of_ble_eq_true rfl⟩, rfl, hts (.instanceMethod yX3_init) (by decide +kernel)⟩ ⟨fun a U g mk q => by obtain ⟨q0, q1, qP, qK, qD⟩ := q; exact ⟨q0, q1, qP, va_K.moved (u := U) (U := U.calling g mk a) (Vm.Alike.refl U.vm) qK, qD⟩, fun U hU hW => ⟨rfl, by rw [hU], by rw [hU]; exact hPc, va_K.moved hW.alike hKc, hDc.weaken (fun _ _ _ _ => trivial)⟩⟩ rfl rfl hl.1 rfl (lv_room (Nat.le_of_ble_eq_true rfl)) dX5_init_92 ⟨Nat.le_of_ble_eq_true rfl, Nat.le_of_ble_eq_true rfl⟩) hS (fun q _ h => hFc q h) hFc ?_
  clear hS
  intro u t H1 locs ht hvm hw hB hz1 hk1 hS
  obtain ⟨q_11, q_12, q_13, q_14, q_15, q_16⟩ := u
  obtain ⟨hP1, hK1, hD1⟩ := hB
  rw [ht] at hP1
  have hK1 := va_K.moved hvm.symm hK1
  try dsimp only at hw
  have hPD := va_join (wr := [(h0, .inr (5, [.ref qs, .int 0, .int 0, .int 0, .int 0, .int 0, .int 0, .int 0, .ref q_1, .ref q_2, .ref q_3, .ref q_4, .ref q_5, .ref q_6, .ref q_7, .ref q_8, .ref q_9, .int 0, .null, .int 0, .int 0]))]) (w1 := [(q_10, .inr (3, [.ref q_11, .int 0, .int 0, .int 0, .ref q_12, .ref q_13, .ref q_14, .int 0, .int 0, .int 0, .int 0, .ref q_15, .int 0, .ref q_16]))]) hP hD [1] [0] rfl rfl (by decide) (by decide) hk1 hFc hP1 hD1
  clear hP hD
  obtain ⟨hP, hD⟩ := hPD
  replace hK := (hK.sub (tys' := []) [] rfl).app hK1
  clear hPc hDc hKc hFc hP1 hK1 hD1 hz1 hk1 ht hvm
  generalize H1 = H at hP hS ⊢
  replace hP : va_P (dC, dI) vwCl [(h0, .inr (5, [.ref qs, .int 0, .int 0, .int 0, .int 0, .int 0, .int 0, .int 0, .ref q_1, .ref q_2, .ref q_3, .ref q_4, .ref q_5, .ref q_6, .ref q_7, .ref q_8, .ref q_9, .int 0, .null, .int 0, .int 0])), (q_10, .inr (3, [.ref q_11, .int 0, .int 0, .int 0, .ref q_12, .ref q_13, .ref q_14, .int 0, .int 0, .int 0, .int 0, .ref q_15, .int 0, .ref q_16]))] H := hP
  replace hD : va_D A [(h0, .inr (5, [.ref qs, .int 0, .int 0, .int 0, .int 0, .int 0, .int 0, .int 0, .ref q_1, .ref q_2, .ref q_3, .ref q_4, .ref q_5, .ref q_6, .ref q_7, .ref q_8, .ref q_9, .int 0, .null, .int 0, .int 0])), (q_10, .inr (3, [.ref q_11, .int 0, .int 0, .int 0, .ref q_12, .ref q_13, .ref q_14, .int 0, .int 0, .int 0, .int 0, .ref q_15, .int 0, .ref q_16]))] := hD
  replace hK : va_K (dC, dI) vwCl [] s := hK
  refine W.widen (k := 16) (n := 29733) (Nat.le_of_ble_eq_true rfl) (Nat.le_of_ble_eq_true rfl) ?_
  refine va_put (D := (dC, dI)) (ci := 5) (v := .ref q_10) (ty := .object "ClassMill$Image") (C := RX5) (T := TX5) (N := 21) hx hb hts uX5_init_X5 tyX5 tyX5_ok nmX5 hown hK hP hD hS 0 rfl rfl 18 (by decide) (hts (.fieldLink RX5 46 "ClassMill$Machine" "image" "LClassMill$Image;") (by decide +kernel)) (fun _ h9 => h9) rfl (by decide +kernel) rfl rfl (Nat.le_of_ble_eq_true rfl) dX5_init_95 ?_
  clear hP hD hS
  intro H locs hP hD hS
  replace hP : va_P (dC, dI) vwCl [(h0, .inr (5, [.ref qs, .int 0, .int 0, .int 0, .int 0, .int 0, .int 0, .int 0, .ref q_1, .ref q_2, .ref q_3, .ref q_4, .ref q_5, .ref q_6, .ref q_7, .ref q_8, .ref q_9, .int 0, .ref q_10, .int 0, .int 0])), (q_10, .inr (3, [.ref q_11, .int 0, .int 0, .int 0, .ref q_12, .ref q_13, .ref q_14, .int 0, .int 0, .int 0, .int 0, .ref q_15, .int 0, .ref q_16]))] H := hP
  replace hD : va_D A [(h0, .inr (5, [.ref qs, .int 0, .int 0, .int 0, .int 0, .int 0, .int 0, .int 0, .ref q_1, .ref q_2, .ref q_3, .ref q_4, .ref q_5, .ref q_6, .ref q_7, .ref q_8, .ref q_9, .int 0, .ref q_10, .int 0, .int 0])), (q_10, .inr (3, [.ref q_11, .int 0, .int 0, .int 0, .ref q_12, .ref q_13, .ref q_14, .int 0, .int 0, .int 0, .int 0, .ref q_15, .int 0, .ref q_16]))] := hD
  refine lv_aload_n hx hb dX5_init_98 rfl (lv_at hl 0 rfl) ?_
  refine lv_iconst (v := (-1)) hx hb dX5_init_99 (by decide) ?_
  refine va_put (D := (dC, dI)) (ci := 5) (v := .int (-1)) (ty := .int) (C := RX5) (T := TX5) (N := 21) hx hb hts uX5_init_X5 tyX5 tyX5_ok nmX5 hown hK hP hD hS 0 rfl rfl 2 (by decide) (hts (.fieldLink RX5 50 "ClassMill$Machine" "gave" "I") (by decide +kernel)) (fun _ h9 => h9) rfl (by decide +kernel) rfl rfl (Nat.le_of_ble_eq_true rfl) dX5_init_100 ?_
  clear hP hD hS
  intro H locs hP hD hS
  replace hP : va_P (dC, dI) vwCl [(h0, .inr (5, [.ref qs, .int 0, .int (-1), .int 0, .int 0, .int 0, .int 0, .int 0, .ref q_1, .ref q_2, .ref q_3, .ref q_4, .ref q_5, .ref q_6, .ref q_7, .ref q_8, .ref q_9, .int 0, .ref q_10, .int 0, .int 0])), (q_10, .inr (3, [.ref q_11, .int 0, .int 0, .int 0, .ref q_12, .ref q_13, .ref q_14, .int 0, .int 0, .int 0, .int 0, .ref q_15, .int 0, .ref q_16]))] H := hP
  replace hD : va_D A [(h0, .inr (5, [.ref qs, .int 0, .int (-1), .int 0, .int 0, .int 0, .int 0, .int 0, .ref q_1, .ref q_2, .ref q_3, .ref q_4, .ref q_5, .ref q_6, .ref q_7, .ref q_8, .ref q_9, .int 0, .ref q_10, .int 0, .int 0])), (q_10, .inr (3, [.ref q_11, .int 0, .int 0, .int 0, .ref q_12, .ref q_13, .ref q_14, .int 0, .int 0, .int 0, .int 0, .ref q_15, .int 0, .ref q_16]))] := hD
  have hP9 := hP.sub (ws' := [(h0, .inr (5, [.ref qs, .int 0, .int (-1), .int 0, .int 0, .int 0, .int 0, .int 0, .ref q_1, .ref q_2, .ref q_3, .ref q_4, .ref q_5, .ref q_6, .ref q_7, .ref q_8, .ref q_9, .int 0, .ref q_10, .int 0, .int 0]))]) [0] rfl
  have hD9 := hD.sub (ws' := [(h0, .inr (5, [.ref qs, .int 0, .int (-1), .int 0, .int 0, .int 0, .int 0, .int 0, .ref q_1, .ref q_2, .ref q_3, .ref q_4, .ref q_5, .ref q_6, .ref q_7, .ref q_8, .ref q_9, .int 0, .ref q_10, .int 0, .int 0]))]) [0] (by decide) rfl
  have hK9 := hK.sub (tys' := []) [] rfl
  exact W.vret hx hb hr (fun t ht hW => ⟨⟨(q_1, q_2, q_3, q_4, q_5, q_6, q_7, q_8, q_9, q_10), rfl, trivial, by rw [ht]; exact hP9, va_K.moved hW.alike hK9, hD9⟩, hS.F ht⟩) hS.2.2 dX5_init_103
