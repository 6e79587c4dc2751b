set_option maxHeartbeats 4000000 in
set_option maxRecDepth 100000 in
/-- kk_putNumber0 -/
theorem kk_putNumber0 (l : Launch) (dC : Nat → ClassId) (dI : Nat → Nat → Nat) (sz : Nat) (h0 : Nat) (a1 : Int32) (qo1 : Nat) (qo2 : Nat) (qo3 : Nat) (qo4 : Nat) (qo5 : Nat) (qo6 : Nat) (qo7 : Nat) (qo8 : Nat) (qo9 : Nat) (co1 : ClassId) (ff : (Nat → Int32))  : Met l yX12_putNumber (.code yX12_putNumber cX12_putNumber 3 none :: VS_k1) ({ frames := 0, cells := 0, slots := 0, locals := 0 }) (va_Pc [.ref h0, .int a1] (fun U => U.heap.size = sz ∧ va_P (dC, dI) vwCl [(h0, .inr (12, [.ref qo1, .int 0, .ref qo2, .ref qo3, .ref qo4, .ref qo5, .ref qo6, .int 0, .ref qo7, .ref qo8, .ref qo9])), (qo1, .inl (co1, 6000, .inl ff))] U.heap ∧ va_K (dC, dI) vwCl [(co1, .byte)] U ∧ va_D (fun _ => True) [(h0, .inr (12, [.ref qo1, .int 0, .ref qo2, .ref qo3, .ref qo4, .ref qo5, .ref qo6, .int 0, .ref qo7, .ref qo8, .ref qo9])), (qo1, .inl (co1, 6000, .inl ff))])) (va_Qv (fun (u : (Nat → Int32)) => match u with | (fo1) => True) (fun (u : (Nat → Int32)) (t : State) => match u with | (fo1) => va_P (dC, dI) vwCl [(h0, .inr (12, [.ref qo1, .int 4, .ref qo2, .ref qo3, .ref qo4, .ref qo5, .ref qo6, .int 0, .ref qo7, .ref qo8, .ref qo9])), (qo1, .inl (co1, 6000, .inl fo1))] t.heap ∧ va_K (dC, dI) vwCl [(co1, .byte)] t ∧ va_D (va_A [(h0, .inr (12, [.ref qo1, .int 0, .ref qo2, .ref qo3, .ref qo4, .ref qo5, .ref qo6, .int 0, .ref qo7, .ref qo8, .ref qo9])), (qo1, .inl (co1, 6000, .inl ff))] sz) [(h0, .inr (12, [.ref qo1, .int 4, .ref qo2, .ref qo3, .ref qo4, .ref qo5, .ref qo6, .int 0, .ref qo7, .ref qo8, .ref qo9])), (qo1, .inl (co1, 6000, .inl fo1))]) (va_A [(h0, .inr (12, [.ref qo1, .int 0, .ref qo2, .ref qo3, .ref qo4, .ref qo5, .ref qo6, .int 0, .ref qo7, .ref qo8, .ref qo9])), (qo1, .inl (co1, 6000, .inl ff))] sz)) 0 0 (va_A [(h0, .inr (12, [.ref qo1, .int 0, .ref qo2, .ref qo3, .ref qo4, .ref qo5, .ref qo6, .int 0, .ref qo7, .ref qo8, .ref qo9])), (qo1, .inl (co1, 6000, .inl ff))] sz) := by
  refine Met.ofW (cc := cX12_putNumber) (maxL := 3) (ret := none) (by decide) rfl ?_
  intro p e s m args below meth c s₁ B hml hv
  obtain ⟨rfl, hsz, hP, hK, hD0⟩ := hv
  have hx := B.exec
  have hb := B.bytes
  have hr := B.returns
  have hts := atoms_spec (ws := (.code yX12_putNumber cX12_putNumber 3 none :: VS_k1)) B.pre
  replace hts := fun w (h : w ∈ VS_k1) => hts w (List.mem_cons_of_mem _ h)
  have hown : s.vm.findClass RX12 = some m.cls := findClass_of_methodNamed B.named
  have hlocks := B.notSynchronized
  subst hsz
  have hD := hD0.self (sz := s.heap.size)
  generalize hAe : va_A [(h0, .inr (12, [.ref qo1, .int 0, .ref qo2, .ref qo3, .ref qo4, .ref qo5, .ref qo6, .int 0, .ref qo7, .ref qo8, .ref qo9])), (qo1, .inl (co1, 6000, .inl ff))] s.heap.size = A at hD  ⊢
  have hA : ∀ q : Nat, s.heap.size ≤ q → A q := fun q h => by rw [← hAe]; exact Or.inr h
  have hP : va_P (dC, dI) vwCl [(h0, .inr (12, [.ref qo1, .int 0, .ref qo2, .ref qo3, .ref qo4, .ref qo5, .ref qo6, .int 0, .ref qo7, .ref qo8, .ref qo9])), (qo1, .inl (co1, 6000, .inl ff))] s.heap := hP
  have hl := lv_entry ([.ref h0, .int a1]) (n := 3) (Nat.le_of_ble_eq_true rfl)
  rw [lg_entry_eq]
  generalize (lg_sl ([.ref h0, .int a1]) ++ List.replicate (3 - (lg_sl ([.ref h0, .int a1])).length) Slot.unset).toArray = ls at hl ⊢
  have hl : lv_has ls 3 [(0, .ref h0), (1, .int a1)] := hl
  obtain ⟨H, hH⟩ : ∃ H : Heap, s.heap = H := ⟨_, rfl⟩
  rw [hH] at hP ⊢
  have hS : va_S A s.heap H [] := by rw [← hH]; exact va_S.rf
  obtain ⟨locs, hlo⟩ : ∃ locs : List Loc, locs = [] := ⟨_, rfl⟩
  rw [← hlo] at hS ⊢
  refine lv_bipush (v := 24) hx hb dX12_putNumber_0 (by decide) ?_
  refine lv_istore_n (lv' := [(2, .int 24), (0, .ref h0), (1, .int a1)]) hx hb dX12_putNumber_2 rfl hl (by decide) rfl (fun ls hl => ?_)
  refine lv_iload_n hx hb dX12_putNumber_3 rfl (lv_at hl 0 rfl) ?_
  refine lv_if_lt (tgt := 48) hx hb dX12_putNumber_4 (by decide) (fun c_1 => (show False by revert c_1; decide).elim) (fun c_1 => ?_)
  refine lv_aload_n hx hb dX12_putNumber_7 rfl (lv_at hl 1 rfl) ?_
  refine va_get (D := (dC, dI)) (ci := 12) (v := .int 0) (C := RX12) (T := TX12) (N := 11) hx hb hts uV_k1_X12 hown hK hP 0 rfl rfl 1 (by decide) (hts (.fieldLink RX12 73 "ClassMill" "taped" "I") mw_k1_0) (fun _ h9 => h9) rfl dX12_putNumber_8 ?_
  refine lv_aload_n hx hb dX12_putNumber_11 rfl (lv_at hl 1 rfl) ?_
  refine va_get (D := (dC, dI)) (ci := 12) (v := .ref qo1) (C := RX12) (T := TX12) (N := 11) hx hb hts uV_k1_X12 hown hK hP 0 rfl rfl 0 (by decide) (hts (.fieldLink RX12 9 "ClassMill" "tape" "[B") mw_k1_1) (fun _ h9 => h9) rfl dX12_putNumber_12 ?_
  refine va_alen (v := 6000) hx hb hK hP 1 0 rfl rfl rfl dX12_putNumber_15 ?_
  refine lv_icmp_ge (tgt := 42) hx hb dX12_putNumber_16 (by decide) (fun c_2 => (show False by revert c_2; decide).elim) (fun c_2 => ?_)
  refine lv_aload_n hx hb dX12_putNumber_19 rfl (lv_at hl 1 rfl) ?_
  refine va_get (D := (dC, dI)) (ci := 12) (v := .ref qo1) (C := RX12) (T := TX12) (N := 11) hx hb hts uV_k1_X12 hown hK hP 0 rfl rfl 0 (by decide) (hts (.fieldLink RX12 9 "ClassMill" "tape" "[B") mw_k1_1) (fun _ h9 => h9) rfl dX12_putNumber_20 ?_
  refine lv_aload_n hx hb dX12_putNumber_23 rfl (lv_at hl 1 rfl) ?_
  refine va_get (D := (dC, dI)) (ci := 12) (v := .int 0) (C := RX12) (T := TX12) (N := 11) hx hb hts uV_k1_X12 hown hK hP 0 rfl rfl 1 (by decide) (hts (.fieldLink RX12 73 "ClassMill" "taped" "I") mw_k1_0) (fun _ h9 => h9) rfl dX12_putNumber_24 ?_
  refine lv_iload_n hx hb dX12_putNumber_27 rfl (lv_at hl 2 rfl) ?_
  refine lv_iload_n hx hb dX12_putNumber_28 rfl (lv_at hl 0 rfl) ?_
  refine lv_ishr hx hb dX12_putNumber_29 ?_
  refine lv_topi (fun y_3 ey_3 => ?_)
  obtain ⟨y_4, ey_4⟩ : ∃ zy : Int32, (y_3 : Int32).toInt8.toInt32 = zy := ⟨_, rfl⟩
  refine lv_i2b hx hb dX12_putNumber_30 ey_4 ?_
  refine va_bast hx hb hK hP hD hS 1 0 rfl rfl (i := 0) (x := y_4) (by unfold vp_in; decide) dX12_putNumber_31 ?_
  clear hP hD hS
  intro H locs hP hD hS
  obtain ⟨f_5, ef_5⟩ : ∃ zf : Nat → Int32, zf = upd ff (0 : Int32).toNatClampNeg (vp_nar .byte y_4) := ⟨_, rfl⟩
  rw [← ef_5] at hP hD
  replace hP : va_P (dC, dI) vwCl [(h0, .inr (12, [.ref qo1, .int 0, .ref qo2, .ref qo3, .ref qo4, .ref qo5, .ref qo6, .int 0, .ref qo7, .ref qo8, .ref qo9])), (qo1, .inl (co1, 6000, .inl f_5))] H := hP
  replace hD : va_D A [(h0, .inr (12, [.ref qo1, .int 0, .ref qo2, .ref qo3, .ref qo4, .ref qo5, .ref qo6, .int 0, .ref qo7, .ref qo8, .ref qo9])), (qo1, .inl (co1, 6000, .inl f_5))] := hD
  refine lv_aload_n hx hb dX12_putNumber_32 rfl (lv_at hl 1 rfl) ?_
  refine lv_dup hx hb dX12_putNumber_33 rfl ?_
  refine va_get (D := (dC, dI)) (ci := 12) (v := .int 0) (C := RX12) (T := TX12) (N := 11) hx hb hts uV_k1_X12 hown hK hP 0 rfl rfl 1 (by decide) (hts (.fieldLink RX12 73 "ClassMill" "taped" "I") mw_k1_0) (fun _ h9 => h9) rfl dX12_putNumber_34 ?_
  refine lv_iconst (v := 1) hx hb dX12_putNumber_37 (by decide) ?_
  refine lv_iadd hx hb dX12_putNumber_38 ?_
  refine lv_topi (fun y_6 ey_6 => ?_)
  obtain rfl : y_6 = 1 := ey_6.trans (by decide)
  refine va_put (D := (dC, dI)) (ci := 12) (v := .int 1) (ty := .int) (C := RX12) (T := TX12) (N := 11) hx hb hts uV_k1_X12 tyX12 tyX12_ok nmX12 hown hK hP hD hS 0 rfl rfl 1 (by decide) (hts (.fieldLink RX12 73 "ClassMill" "taped" "I") mw_k1_0) (fun _ h9 => h9) rfl (by decide +kernel) rfl rfl (Nat.le_of_ble_eq_true rfl) dX12_putNumber_39 ?_
  clear hP hD hS
  intro H locs hP hD hS
  replace hP : va_P (dC, dI) vwCl [(h0, .inr (12, [.ref qo1, .int 1, .ref qo2, .ref qo3, .ref qo4, .ref qo5, .ref qo6, .int 0, .ref qo7, .ref qo8, .ref qo9])), (qo1, .inl (co1, 6000, .inl f_5))] H := hP
  replace hD : va_D A [(h0, .inr (12, [.ref qo1, .int 1, .ref qo2, .ref qo3, .ref qo4, .ref qo5, .ref qo6, .int 0, .ref qo7, .ref qo8, .ref qo9])), (qo1, .inl (co1, 6000, .inl f_5))] := hD
  refine lv_iinc (v := 16) (lv' := [(2, .int 16), (0, .ref h0), (1, .int a1)]) hx hb dX12_putNumber_42 hl (k := 0) rfl (by decide) (by decide) rfl (fun ls hl => ?_)
  refine lv_goto (tgt := 3) hx hb dX12_putNumber_45 (by decide) ?_
  refine lv_iload_n hx hb dX12_putNumber_3 rfl (lv_at hl 0 rfl) ?_
  refine lv_if_lt (tgt := 48) hx hb dX12_putNumber_4 (by decide) (fun c_7 => (show False by revert c_7; decide).elim) (fun c_7 => ?_)
  refine lv_aload_n hx hb dX12_putNumber_7 rfl (lv_at hl 1 rfl) ?_
  refine va_get (D := (dC, dI)) (ci := 12) (v := .int 1) (C := RX12) (T := TX12) (N := 11) hx hb hts uV_k1_X12 hown hK hP 0 rfl rfl 1 (by decide) (hts (.fieldLink RX12 73 "ClassMill" "taped" "I") mw_k1_0) (fun _ h9 => h9) rfl dX12_putNumber_8 ?_
  refine lv_aload_n hx hb dX12_putNumber_11 rfl (lv_at hl 1 rfl) ?_
  refine va_get (D := (dC, dI)) (ci := 12) (v := .ref qo1) (C := RX12) (T := TX12) (N := 11) hx hb hts uV_k1_X12 hown hK hP 0 rfl rfl 0 (by decide) (hts (.fieldLink RX12 9 "ClassMill" "tape" "[B") mw_k1_1) (fun _ h9 => h9) rfl dX12_putNumber_12 ?_
  refine va_alen (v := 6000) hx hb hK hP 1 0 rfl rfl rfl dX12_putNumber_15 ?_
  refine lv_icmp_ge (tgt := 42) hx hb dX12_putNumber_16 (by decide) (fun c_8 => (show False by revert c_8; decide).elim) (fun c_8 => ?_)
  refine lv_aload_n hx hb dX12_putNumber_19 rfl (lv_at hl 1 rfl) ?_
  refine va_get (D := (dC, dI)) (ci := 12) (v := .ref qo1) (C := RX12) (T := TX12) (N := 11) hx hb hts uV_k1_X12 hown hK hP 0 rfl rfl 0 (by decide) (hts (.fieldLink RX12 9 "ClassMill" "tape" "[B") mw_k1_1) (fun _ h9 => h9) rfl dX12_putNumber_20 ?_
  refine lv_aload_n hx hb dX12_putNumber_23 rfl (lv_at hl 1 rfl) ?_
  refine va_get (D := (dC, dI)) (ci := 12) (v := .int 1) (C := RX12) (T := TX12) (N := 11) hx hb hts uV_k1_X12 hown hK hP 0 rfl rfl 1 (by decide) (hts (.fieldLink RX12 73 "ClassMill" "taped" "I") mw_k1_0) (fun _ h9 => h9) rfl dX12_putNumber_24 ?_
  refine lv_iload_n hx hb dX12_putNumber_27 rfl (lv_at hl 2 rfl) ?_
  refine lv_iload_n hx hb dX12_putNumber_28 rfl (lv_at hl 0 rfl) ?_
  refine lv_ishr hx hb dX12_putNumber_29 ?_
  refine lv_topi (fun y_9 ey_9 => ?_)
  obtain ⟨y_10, ey_10⟩ : ∃ zy : Int32, (y_9 : Int32).toInt8.toInt32 = zy := ⟨_, rfl⟩
  refine lv_i2b hx hb dX12_putNumber_30 ey_10 ?_
  refine va_bast hx hb hK hP hD hS 1 0 rfl rfl (i := 1) (x := y_10) (by unfold vp_in; decide) dX12_putNumber_31 ?_
  clear hP hD hS
  intro H locs hP hD hS
  obtain ⟨f_11, ef_11⟩ : ∃ zf : Nat → Int32, zf = upd f_5 (1 : Int32).toNatClampNeg (vp_nar .byte y_10) := ⟨_, rfl⟩
  rw [← ef_11] at hP hD
  replace hP : va_P (dC, dI) vwCl [(h0, .inr (12, [.ref qo1, .int 1, .ref qo2, .ref qo3, .ref qo4, .ref qo5, .ref qo6, .int 0, .ref qo7, .ref qo8, .ref qo9])), (qo1, .inl (co1, 6000, .inl f_11))] H := hP
  replace hD : va_D A [(h0, .inr (12, [.ref qo1, .int 1, .ref qo2, .ref qo3, .ref qo4, .ref qo5, .ref qo6, .int 0, .ref qo7, .ref qo8, .ref qo9])), (qo1, .inl (co1, 6000, .inl f_11))] := hD
  refine lv_aload_n hx hb dX12_putNumber_32 rfl (lv_at hl 1 rfl) ?_
  refine lv_dup hx hb dX12_putNumber_33 rfl ?_
  refine va_get (D := (dC, dI)) (ci := 12) (v := .int 1) (C := RX12) (T := TX12) (N := 11) hx hb hts uV_k1_X12 hown hK hP 0 rfl rfl 1 (by decide) (hts (.fieldLink RX12 73 "ClassMill" "taped" "I") mw_k1_0) (fun _ h9 => h9) rfl dX12_putNumber_34 ?_
  refine lv_iconst (v := 1) hx hb dX12_putNumber_37 (by decide) ?_
  refine lv_iadd hx hb dX12_putNumber_38 ?_
  refine lv_topi (fun y_12 ey_12 => ?_)
  obtain rfl : y_12 = 2 := ey_12.trans (by decide)
  refine va_put (D := (dC, dI)) (ci := 12) (v := .int 2) (ty := .int) (C := RX12) (T := TX12) (N := 11) hx hb hts uV_k1_X12 tyX12 tyX12_ok nmX12 hown hK hP hD hS 0 rfl rfl 1 (by decide) (hts (.fieldLink RX12 73 "ClassMill" "taped" "I") mw_k1_0) (fun _ h9 => h9) rfl (by decide +kernel) rfl rfl (Nat.le_of_ble_eq_true rfl) dX12_putNumber_39 ?_
  clear hP hD hS
  intro H locs hP hD hS
  replace hP : va_P (dC, dI) vwCl [(h0, .inr (12, [.ref qo1, .int 2, .ref qo2, .ref qo3, .ref qo4, .ref qo5, .ref qo6, .int 0, .ref qo7, .ref qo8, .ref qo9])), (qo1, .inl (co1, 6000, .inl f_11))] H := hP
  replace hD : va_D A [(h0, .inr (12, [.ref qo1, .int 2, .ref qo2, .ref qo3, .ref qo4, .ref qo5, .ref qo6, .int 0, .ref qo7, .ref qo8, .ref qo9])), (qo1, .inl (co1, 6000, .inl f_11))] := hD
  refine lv_iinc (v := 8) (lv' := [(2, .int 8), (0, .ref h0), (1, .int a1)]) hx hb dX12_putNumber_42 hl (k := 0) rfl (by decide) (by decide) rfl (fun ls hl => ?_)
  refine lv_goto (tgt := 3) hx hb dX12_putNumber_45 (by decide) ?_
  refine lv_iload_n hx hb dX12_putNumber_3 rfl (lv_at hl 0 rfl) ?_
  refine lv_if_lt (tgt := 48) hx hb dX12_putNumber_4 (by decide) (fun c_13 => (show False by revert c_13; decide).elim) (fun c_13 => ?_)
  refine lv_aload_n hx hb dX12_putNumber_7 rfl (lv_at hl 1 rfl) ?_
  refine va_get (D := (dC, dI)) (ci := 12) (v := .int 2) (C := RX12) (T := TX12) (N := 11) hx hb hts uV_k1_X12 hown hK hP 0 rfl rfl 1 (by decide) (hts (.fieldLink RX12 73 "ClassMill" "taped" "I") mw_k1_0) (fun _ h9 => h9) rfl dX12_putNumber_8 ?_
  refine lv_aload_n hx hb dX12_putNumber_11 rfl (lv_at hl 1 rfl) ?_
  refine va_get (D := (dC, dI)) (ci := 12) (v := .ref qo1) (C := RX12) (T := TX12) (N := 11) hx hb hts uV_k1_X12 hown hK hP 0 rfl rfl 0 (by decide) (hts (.fieldLink RX12 9 "ClassMill" "tape" "[B") mw_k1_1) (fun _ h9 => h9) rfl dX12_putNumber_12 ?_
  refine va_alen (v := 6000) hx hb hK hP 1 0 rfl rfl rfl dX12_putNumber_15 ?_
  refine lv_icmp_ge (tgt := 42) hx hb dX12_putNumber_16 (by decide) (fun c_14 => (show False by revert c_14; decide).elim) (fun c_14 => ?_)
  refine lv_aload_n hx hb dX12_putNumber_19 rfl (lv_at hl 1 rfl) ?_
  refine va_get (D := (dC, dI)) (ci := 12) (v := .ref qo1) (C := RX12) (T := TX12) (N := 11) hx hb hts uV_k1_X12 hown hK hP 0 rfl rfl 0 (by decide) (hts (.fieldLink RX12 9 "ClassMill" "tape" "[B") mw_k1_1) (fun _ h9 => h9) rfl dX12_putNumber_20 ?_
  refine lv_aload_n hx hb dX12_putNumber_23 rfl (lv_at hl 1 rfl) ?_
  refine va_get (D := (dC, dI)) (ci := 12) (v := .int 2) (C := RX12) (T := TX12) (N := 11) hx hb hts uV_k1_X12 hown hK hP 0 rfl rfl 1 (by decide) (hts (.fieldLink RX12 73 "ClassMill" "taped" "I") mw_k1_0) (fun _ h9 => h9) rfl dX12_putNumber_24 ?_
  refine lv_iload_n hx hb dX12_putNumber_27 rfl (lv_at hl 2 rfl) ?_
  refine lv_iload_n hx hb dX12_putNumber_28 rfl (lv_at hl 0 rfl) ?_
  refine lv_ishr hx hb dX12_putNumber_29 ?_
  refine lv_topi (fun y_15 ey_15 => ?_)
  obtain ⟨y_16, ey_16⟩ : ∃ zy : Int32, (y_15 : Int32).toInt8.toInt32 = zy := ⟨_, rfl⟩
  refine lv_i2b hx hb dX12_putNumber_30 ey_16 ?_
  refine va_bast hx hb hK hP hD hS 1 0 rfl rfl (i := 2) (x := y_16) (by unfold vp_in; decide) dX12_putNumber_31 ?_
  clear hP hD hS
  intro H locs hP hD hS
  obtain ⟨f_17, ef_17⟩ : ∃ zf : Nat → Int32, zf = upd f_11 (2 : Int32).toNatClampNeg (vp_nar .byte y_16) := ⟨_, rfl⟩
  rw [← ef_17] at hP hD
  replace hP : va_P (dC, dI) vwCl [(h0, .inr (12, [.ref qo1, .int 2, .ref qo2, .ref qo3, .ref qo4, .ref qo5, .ref qo6, .int 0, .ref qo7, .ref qo8, .ref qo9])), (qo1, .inl (co1, 6000, .inl f_17))] H := hP
  replace hD : va_D A [(h0, .inr (12, [.ref qo1, .int 2, .ref qo2, .ref qo3, .ref qo4, .ref qo5, .ref qo6, .int 0, .ref qo7, .ref qo8, .ref qo9])), (qo1, .inl (co1, 6000, .inl f_17))] := hD
  refine lv_aload_n hx hb dX12_putNumber_32 rfl (lv_at hl 1 rfl) ?_
  refine lv_dup hx hb dX12_putNumber_33 rfl ?_
  refine va_get (D := (dC, dI)) (ci := 12) (v := .int 2) (C := RX12) (T := TX12) (N := 11) hx hb hts uV_k1_X12 hown hK hP 0 rfl rfl 1 (by decide) (hts (.fieldLink RX12 73 "ClassMill" "taped" "I") mw_k1_0) (fun _ h9 => h9) rfl dX12_putNumber_34 ?_
  refine lv_iconst (v := 1) hx hb dX12_putNumber_37 (by decide) ?_
  refine lv_iadd hx hb dX12_putNumber_38 ?_
  refine lv_topi (fun y_18 ey_18 => ?_)
  obtain rfl : y_18 = 3 := ey_18.trans (by decide)
  refine va_put (D := (dC, dI)) (ci := 12) (v := .int 3) (ty := .int) (C := RX12) (T := TX12) (N := 11) hx hb hts uV_k1_X12 tyX12 tyX12_ok nmX12 hown hK hP hD hS 0 rfl rfl 1 (by decide) (hts (.fieldLink RX12 73 "ClassMill" "taped" "I") mw_k1_0) (fun _ h9 => h9) rfl (by decide +kernel) rfl rfl (Nat.le_of_ble_eq_true rfl) dX12_putNumber_39 ?_
  clear hP hD hS
  intro H locs hP hD hS
  replace hP : va_P (dC, dI) vwCl [(h0, .inr (12, [.ref qo1, .int 3, .ref qo2, .ref qo3, .ref qo4, .ref qo5, .ref qo6, .int 0, .ref qo7, .ref qo8, .ref qo9])), (qo1, .inl (co1, 6000, .inl f_17))] H := hP
  replace hD : va_D A [(h0, .inr (12, [.ref qo1, .int 3, .ref qo2, .ref qo3, .ref qo4, .ref qo5, .ref qo6, .int 0, .ref qo7, .ref qo8, .ref qo9])), (qo1, .inl (co1, 6000, .inl f_17))] := hD
  refine lv_iinc (v := 0) (lv' := [(2, .int 0), (0, .ref h0), (1, .int a1)]) hx hb dX12_putNumber_42 hl (k := 0) rfl (by decide) (by decide) rfl (fun ls hl => ?_)
  refine lv_goto (tgt := 3) hx hb dX12_putNumber_45 (by decide) ?_
  refine lv_iload_n hx hb dX12_putNumber_3 rfl (lv_at hl 0 rfl) ?_
  refine lv_if_lt (tgt := 48) hx hb dX12_putNumber_4 (by decide) (fun c_19 => (show False by revert c_19; decide).elim) (fun c_19 => ?_)
  refine lv_aload_n hx hb dX12_putNumber_7 rfl (lv_at hl 1 rfl) ?_
  refine va_get (D := (dC, dI)) (ci := 12) (v := .int 3) (C := RX12) (T := TX12) (N := 11) hx hb hts uV_k1_X12 hown hK hP 0 rfl rfl 1 (by decide) (hts (.fieldLink RX12 73 "ClassMill" "taped" "I") mw_k1_0) (fun _ h9 => h9) rfl dX12_putNumber_8 ?_
  refine lv_aload_n hx hb dX12_putNumber_11 rfl (lv_at hl 1 rfl) ?_
  refine va_get (D := (dC, dI)) (ci := 12) (v := .ref qo1) (C := RX12) (T := TX12) (N := 11) hx hb hts uV_k1_X12 hown hK hP 0 rfl rfl 0 (by decide) (hts (.fieldLink RX12 9 "ClassMill" "tape" "[B") mw_k1_1) (fun _ h9 => h9) rfl dX12_putNumber_12 ?_
  refine va_alen (v := 6000) hx hb hK hP 1 0 rfl rfl rfl dX12_putNumber_15 ?_
  refine lv_icmp_ge (tgt := 42) hx hb dX12_putNumber_16 (by decide) (fun c_20 => (show False by revert c_20; decide).elim) (fun c_20 => ?_)
  refine lv_aload_n hx hb dX12_putNumber_19 rfl (lv_at hl 1 rfl) ?_
  refine va_get (D := (dC, dI)) (ci := 12) (v := .ref qo1) (C := RX12) (T := TX12) (N := 11) hx hb hts uV_k1_X12 hown hK hP 0 rfl rfl 0 (by decide) (hts (.fieldLink RX12 9 "ClassMill" "tape" "[B") mw_k1_1) (fun _ h9 => h9) rfl dX12_putNumber_20 ?_
  refine lv_aload_n hx hb dX12_putNumber_23 rfl (lv_at hl 1 rfl) ?_
  refine va_get (D := (dC, dI)) (ci := 12) (v := .int 3) (C := RX12) (T := TX12) (N := 11) hx hb hts uV_k1_X12 hown hK hP 0 rfl rfl 1 (by decide) (hts (.fieldLink RX12 73 "ClassMill" "taped" "I") mw_k1_0) (fun _ h9 => h9) rfl dX12_putNumber_24 ?_
  refine lv_iload_n hx hb dX12_putNumber_27 rfl (lv_at hl 2 rfl) ?_
  refine lv_iload_n hx hb dX12_putNumber_28 rfl (lv_at hl 0 rfl) ?_
  refine lv_ishr hx hb dX12_putNumber_29 ?_
  refine lv_topi (fun y_21 ey_21 => ?_)
  obtain ⟨y_22, ey_22⟩ : ∃ zy : Int32, (y_21 : Int32).toInt8.toInt32 = zy := ⟨_, rfl⟩
  refine lv_i2b hx hb dX12_putNumber_30 ey_22 ?_
  refine va_bast hx hb hK hP hD hS 1 0 rfl rfl (i := 3) (x := y_22) (by unfold vp_in; decide) dX12_putNumber_31 ?_
  clear hP hD hS
  intro H locs hP hD hS
  obtain ⟨f_23, ef_23⟩ : ∃ zf : Nat → Int32, zf = upd f_17 (3 : Int32).toNatClampNeg (vp_nar .byte y_22) := ⟨_, rfl⟩
  rw [← ef_23] at hP hD
  replace hP : va_P (dC, dI) vwCl [(h0, .inr (12, [.ref qo1, .int 3, .ref qo2, .ref qo3, .ref qo4, .ref qo5, .ref qo6, .int 0, .ref qo7, .ref qo8, .ref qo9])), (qo1, .inl (co1, 6000, .inl f_23))] H := hP
  replace hD : va_D A [(h0, .inr (12, [.ref qo1, .int 3, .ref qo2, .ref qo3, .ref qo4, .ref qo5, .ref qo6, .int 0, .ref qo7, .ref qo8, .ref qo9])), (qo1, .inl (co1, 6000, .inl f_23))] := hD
  refine lv_aload_n hx hb dX12_putNumber_32 rfl (lv_at hl 1 rfl) ?_
  refine lv_dup hx hb dX12_putNumber_33 rfl ?_
  refine va_get (D := (dC, dI)) (ci := 12) (v := .int 3) (C := RX12) (T := TX12) (N := 11) hx hb hts uV_k1_X12 hown hK hP 0 rfl rfl 1 (by decide) (hts (.fieldLink RX12 73 "ClassMill" "taped" "I") mw_k1_0) (fun _ h9 => h9) rfl dX12_putNumber_34 ?_
  refine lv_iconst (v := 1) hx hb dX12_putNumber_37 (by decide) ?_
  refine lv_iadd hx hb dX12_putNumber_38 ?_
  refine lv_topi (fun y_24 ey_24 => ?_)
  obtain rfl : y_24 = 4 := ey_24.trans (by decide)
  refine va_put (D := (dC, dI)) (ci := 12) (v := .int 4) (ty := .int) (C := RX12) (T := TX12) (N := 11) hx hb hts uV_k1_X12 tyX12 tyX12_ok nmX12 hown hK hP hD hS 0 rfl rfl 1 (by decide) (hts (.fieldLink RX12 73 "ClassMill" "taped" "I") mw_k1_0) (fun _ h9 => h9) rfl (by decide +kernel) rfl rfl (Nat.le_of_ble_eq_true rfl) dX12_putNumber_39 ?_
  clear hP hD hS
  intro H locs hP hD hS
  replace hP : va_P (dC, dI) vwCl [(h0, .inr (12, [.ref qo1, .int 4, .ref qo2, .ref qo3, .ref qo4, .ref qo5, .ref qo6, .int 0, .ref qo7, .ref qo8, .ref qo9])), (qo1, .inl (co1, 6000, .inl f_23))] H := hP
  replace hD : va_D A [(h0, .inr (12, [.ref qo1, .int 4, .ref qo2, .ref qo3, .ref qo4, .ref qo5, .ref qo6, .int 0, .ref qo7, .ref qo8, .ref qo9])), (qo1, .inl (co1, 6000, .inl f_23))] := hD
  refine lv_iinc (v := (-8)) (lv' := [(2, .int (-8)), (0, .ref h0), (1, .int a1)]) hx hb dX12_putNumber_42 hl (k := 0) rfl (by decide) (by decide) rfl (fun ls hl => ?_)
  refine lv_goto (tgt := 3) hx hb dX12_putNumber_45 (by decide) ?_
  refine lv_iload_n hx hb dX12_putNumber_3 rfl (lv_at hl 0 rfl) ?_
  refine lv_if_lt (tgt := 48) hx hb dX12_putNumber_4 (by decide) (fun c_25 => ?_) (fun c_25 => (show False by revert c_25; decide).elim)
  have hP9 := hP.sub (ws' := [(h0, .inr (12, [.ref qo1, .int 4, .ref qo2, .ref qo3, .ref qo4, .ref qo5, .ref qo6, .int 0, .ref qo7, .ref qo8, .ref qo9])), (qo1, .inl (co1, 6000, .inl f_23))]) [0, 1] rfl
  have hD9 := hD.sub (ws' := [(h0, .inr (12, [.ref qo1, .int 4, .ref qo2, .ref qo3, .ref qo4, .ref qo5, .ref qo6, .int 0, .ref qo7, .ref qo8, .ref qo9])), (qo1, .inl (co1, 6000, .inl f_23))]) [0, 1] (by decide) rfl
  have hK9 := hK.sub (tys' := [(co1, .byte)]) [0] rfl
  exact W.vret hx hb hr (fun t ht hW => ⟨⟨(f_23), rfl, trivial, by rw [ht]; exact hP9, va_K.moved hW.alike hK9, hD9⟩, hS.F ht⟩) hS.2.2 dX12_putNumber_48
set_option maxHeartbeats 4000000 in
set_option maxRecDepth 100000 in
/-- kk_putNumber1 -/
theorem kk_putNumber1 (l : Launch) (dC : Nat → ClassId) (dI : Nat → Nat → Nat) (sz : Nat) (h0 : Nat) (a1 : Int32) (qo1 : Nat) (qo2 : Nat) (qo3 : Nat) (qo4 : Nat) (qo5 : Nat) (qo6 : Nat) (qo7 : Nat) (qo8 : Nat) (qo9 : Nat) (co1 : ClassId) (ff : (Nat → Int32))  : Met l yX12_putNumber (.code yX12_putNumber cX12_putNumber 3 none :: VS_k1) ({ frames := 0, cells := 0, slots := 0, locals := 0 }) (va_Pc [.ref h0, .int a1] (fun U => U.heap.size = sz ∧ va_P (dC, dI) vwCl [(h0, .inr (12, [.ref qo1, .int 4, .ref qo2, .ref qo3, .ref qo4, .ref qo5, .ref qo6, .int 0, .ref qo7, .ref qo8, .ref qo9])), (qo1, .inl (co1, 6000, .inl ff))] U.heap ∧ va_K (dC, dI) vwCl [(co1, .byte)] U ∧ va_D (fun _ => True) [(h0, .inr (12, [.ref qo1, .int 4, .ref qo2, .ref qo3, .ref qo4, .ref qo5, .ref qo6, .int 0, .ref qo7, .ref qo8, .ref qo9])), (qo1, .inl (co1, 6000, .inl ff))])) (va_Qv (fun (u : (Nat → Int32)) => match u with | (fo1) => True) (fun (u : (Nat → Int32)) (t : State) => match u with | (fo1) => va_P (dC, dI) vwCl [(h0, .inr (12, [.ref qo1, .int 8, .ref qo2, .ref qo3, .ref qo4, .ref qo5, .ref qo6, .int 0, .ref qo7, .ref qo8, .ref qo9])), (qo1, .inl (co1, 6000, .inl fo1))] t.heap ∧ va_K (dC, dI) vwCl [(co1, .byte)] t ∧ va_D (va_A [(h0, .inr (12, [.ref qo1, .int 4, .ref qo2, .ref qo3, .ref qo4, .ref qo5, .ref qo6, .int 0, .ref qo7, .ref qo8, .ref qo9])), (qo1, .inl (co1, 6000, .inl ff))] sz) [(h0, .inr (12, [.ref qo1, .int 8, .ref qo2, .ref qo3, .ref qo4, .ref qo5, .ref qo6, .int 0, .ref qo7, .ref qo8, .ref qo9])), (qo1, .inl (co1, 6000, .inl fo1))]) (va_A [(h0, .inr (12, [.ref qo1, .int 4, .ref qo2, .ref qo3, .ref qo4, .ref qo5, .ref qo6, .int 0, .ref qo7, .ref qo8, .ref qo9])), (qo1, .inl (co1, 6000, .inl ff))] sz)) 0 0 (va_A [(h0, .inr (12, [.ref qo1, .int 4, .ref qo2, .ref qo3, .ref qo4, .ref qo5, .ref qo6, .int 0, .ref qo7, .ref qo8, .ref qo9])), (qo1, .inl (co1, 6000, .inl ff))] sz) := by
  refine Met.ofW (cc := cX12_putNumber) (maxL := 3) (ret := none) (by decide) rfl ?_
  intro p e s m args below meth c s₁ B hml hv
  obtain ⟨rfl, hsz, hP, hK, hD0⟩ := hv
  have hx := B.exec
  have hb := B.bytes
  have hr := B.returns
  have hts := atoms_spec (ws := (.code yX12_putNumber cX12_putNumber 3 none :: VS_k1)) B.pre
  replace hts := fun w (h : w ∈ VS_k1) => hts w (List.mem_cons_of_mem _ h)
  have hown : s.vm.findClass RX12 = some m.cls := findClass_of_methodNamed B.named
  have hlocks := B.notSynchronized
  subst hsz
  have hD := hD0.self (sz := s.heap.size)
  generalize hAe : va_A [(h0, .inr (12, [.ref qo1, .int 4, .ref qo2, .ref qo3, .ref qo4, .ref qo5, .ref qo6, .int 0, .ref qo7, .ref qo8, .ref qo9])), (qo1, .inl (co1, 6000, .inl ff))] s.heap.size = A at hD  ⊢
  have hA : ∀ q : Nat, s.heap.size ≤ q → A q := fun q h => by rw [← hAe]; exact Or.inr h
  have hP : va_P (dC, dI) vwCl [(h0, .inr (12, [.ref qo1, .int 4, .ref qo2, .ref qo3, .ref qo4, .ref qo5, .ref qo6, .int 0, .ref qo7, .ref qo8, .ref qo9])), (qo1, .inl (co1, 6000, .inl ff))] s.heap := hP
  have hl := lv_entry ([.ref h0, .int a1]) (n := 3) (Nat.le_of_ble_eq_true rfl)
  rw [lg_entry_eq]
  generalize (lg_sl ([.ref h0, .int a1]) ++ List.replicate (3 - (lg_sl ([.ref h0, .int a1])).length) Slot.unset).toArray = ls at hl ⊢
  have hl : lv_has ls 3 [(0, .ref h0), (1, .int a1)] := hl
  obtain ⟨H, hH⟩ : ∃ H : Heap, s.heap = H := ⟨_, rfl⟩
  rw [hH] at hP ⊢
  have hS : va_S A s.heap H [] := by rw [← hH]; exact va_S.rf
  obtain ⟨locs, hlo⟩ : ∃ locs : List Loc, locs = [] := ⟨_, rfl⟩
  rw [← hlo] at hS ⊢
  refine lv_bipush (v := 24) hx hb dX12_putNumber_0 (by decide) ?_
  refine lv_istore_n (lv' := [(2, .int 24), (0, .ref h0), (1, .int a1)]) hx hb dX12_putNumber_2 rfl hl (by decide) rfl (fun ls hl => ?_)
  refine lv_iload_n hx hb dX12_putNumber_3 rfl (lv_at hl 0 rfl) ?_
  refine lv_if_lt (tgt := 48) hx hb dX12_putNumber_4 (by decide) (fun c_1 => (show False by revert c_1; decide).elim) (fun c_1 => ?_)
  refine lv_aload_n hx hb dX12_putNumber_7 rfl (lv_at hl 1 rfl) ?_
  refine va_get (D := (dC, dI)) (ci := 12) (v := .int 4) (C := RX12) (T := TX12) (N := 11) hx hb hts uV_k1_X12 hown hK hP 0 rfl rfl 1 (by decide) (hts (.fieldLink RX12 73 "ClassMill" "taped" "I") mw_k1_0) (fun _ h9 => h9) rfl dX12_putNumber_8 ?_
  refine lv_aload_n hx hb dX12_putNumber_11 rfl (lv_at hl 1 rfl) ?_
  refine va_get (D := (dC, dI)) (ci := 12) (v := .ref qo1) (C := RX12) (T := TX12) (N := 11) hx hb hts uV_k1_X12 hown hK hP 0 rfl rfl 0 (by decide) (hts (.fieldLink RX12 9 "ClassMill" "tape" "[B") mw_k1_1) (fun _ h9 => h9) rfl dX12_putNumber_12 ?_
  refine va_alen (v := 6000) hx hb hK hP 1 0 rfl rfl rfl dX12_putNumber_15 ?_
  refine lv_icmp_ge (tgt := 42) hx hb dX12_putNumber_16 (by decide) (fun c_2 => (show False by revert c_2; decide).elim) (fun c_2 => ?_)
  refine lv_aload_n hx hb dX12_putNumber_19 rfl (lv_at hl 1 rfl) ?_
  refine va_get (D := (dC, dI)) (ci := 12) (v := .ref qo1) (C := RX12) (T := TX12) (N := 11) hx hb hts uV_k1_X12 hown hK hP 0 rfl rfl 0 (by decide) (hts (.fieldLink RX12 9 "ClassMill" "tape" "[B") mw_k1_1) (fun _ h9 => h9) rfl dX12_putNumber_20 ?_
  refine lv_aload_n hx hb dX12_putNumber_23 rfl (lv_at hl 1 rfl) ?_
  refine va_get (D := (dC, dI)) (ci := 12) (v := .int 4) (C := RX12) (T := TX12) (N := 11) hx hb hts uV_k1_X12 hown hK hP 0 rfl rfl 1 (by decide) (hts (.fieldLink RX12 73 "ClassMill" "taped" "I") mw_k1_0) (fun _ h9 => h9) rfl dX12_putNumber_24 ?_
  refine lv_iload_n hx hb dX12_putNumber_27 rfl (lv_at hl 2 rfl) ?_
  refine lv_iload_n hx hb dX12_putNumber_28 rfl (lv_at hl 0 rfl) ?_
  refine lv_ishr hx hb dX12_putNumber_29 ?_
  refine lv_topi (fun y_3 ey_3 => ?_)
  obtain ⟨y_4, ey_4⟩ : ∃ zy : Int32, (y_3 : Int32).toInt8.toInt32 = zy := ⟨_, rfl⟩
  refine lv_i2b hx hb dX12_putNumber_30 ey_4 ?_
  refine va_bast hx hb hK hP hD hS 1 0 rfl rfl (i := 4) (x := y_4) (by unfold vp_in; decide) dX12_putNumber_31 ?_
  clear hP hD hS
  intro H locs hP hD hS
  obtain ⟨f_5, ef_5⟩ : ∃ zf : Nat → Int32, zf = upd ff (4 : Int32).toNatClampNeg (vp_nar .byte y_4) := ⟨_, rfl⟩
  rw [← ef_5] at hP hD
  replace hP : va_P (dC, dI) vwCl [(h0, .inr (12, [.ref qo1, .int 4, .ref qo2, .ref qo3, .ref qo4, .ref qo5, .ref qo6, .int 0, .ref qo7, .ref qo8, .ref qo9])), (qo1, .inl (co1, 6000, .inl f_5))] H := hP
  replace hD : va_D A [(h0, .inr (12, [.ref qo1, .int 4, .ref qo2, .ref qo3, .ref qo4, .ref qo5, .ref qo6, .int 0, .ref qo7, .ref qo8, .ref qo9])), (qo1, .inl (co1, 6000, .inl f_5))] := hD
  refine lv_aload_n hx hb dX12_putNumber_32 rfl (lv_at hl 1 rfl) ?_
  refine lv_dup hx hb dX12_putNumber_33 rfl ?_
  refine va_get (D := (dC, dI)) (ci := 12) (v := .int 4) (C := RX12) (T := TX12) (N := 11) hx hb hts uV_k1_X12 hown hK hP 0 rfl rfl 1 (by decide) (hts (.fieldLink RX12 73 "ClassMill" "taped" "I") mw_k1_0) (fun _ h9 => h9) rfl dX12_putNumber_34 ?_
  refine lv_iconst (v := 1) hx hb dX12_putNumber_37 (by decide) ?_
  refine lv_iadd hx hb dX12_putNumber_38 ?_
  refine lv_topi (fun y_6 ey_6 => ?_)
  obtain rfl : y_6 = 5 := ey_6.trans (by decide)
  refine va_put (D := (dC, dI)) (ci := 12) (v := .int 5) (ty := .int) (C := RX12) (T := TX12) (N := 11) hx hb hts uV_k1_X12 tyX12 tyX12_ok nmX12 hown hK hP hD hS 0 rfl rfl 1 (by decide) (hts (.fieldLink RX12 73 "ClassMill" "taped" "I") mw_k1_0) (fun _ h9 => h9) rfl (by decide +kernel) rfl rfl (Nat.le_of_ble_eq_true rfl) dX12_putNumber_39 ?_
  clear hP hD hS
  intro H locs hP hD hS
  replace hP : va_P (dC, dI) vwCl [(h0, .inr (12, [.ref qo1, .int 5, .ref qo2, .ref qo3, .ref qo4, .ref qo5, .ref qo6, .int 0, .ref qo7, .ref qo8, .ref qo9])), (qo1, .inl (co1, 6000, .inl f_5))] H := hP
  replace hD : va_D A [(h0, .inr (12, [.ref qo1, .int 5, .ref qo2, .ref qo3, .ref qo4, .ref qo5, .ref qo6, .int 0, .ref qo7, .ref qo8, .ref qo9])), (qo1, .inl (co1, 6000, .inl f_5))] := hD
  refine lv_iinc (v := 16) (lv' := [(2, .int 16), (0, .ref h0), (1, .int a1)]) hx hb dX12_putNumber_42 hl (k := 0) rfl (by decide) (by decide) rfl (fun ls hl => ?_)
  refine lv_goto (tgt := 3) hx hb dX12_putNumber_45 (by decide) ?_
  refine lv_iload_n hx hb dX12_putNumber_3 rfl (lv_at hl 0 rfl) ?_
  refine lv_if_lt (tgt := 48) hx hb dX12_putNumber_4 (by decide) (fun c_7 => (show False by revert c_7; decide).elim) (fun c_7 => ?_)
  refine lv_aload_n hx hb dX12_putNumber_7 rfl (lv_at hl 1 rfl) ?_
  refine va_get (D := (dC, dI)) (ci := 12) (v := .int 5) (C := RX12) (T := TX12) (N := 11) hx hb hts uV_k1_X12 hown hK hP 0 rfl rfl 1 (by decide) (hts (.fieldLink RX12 73 "ClassMill" "taped" "I") mw_k1_0) (fun _ h9 => h9) rfl dX12_putNumber_8 ?_
  refine lv_aload_n hx hb dX12_putNumber_11 rfl (lv_at hl 1 rfl) ?_
  refine va_get (D := (dC, dI)) (ci := 12) (v := .ref qo1) (C := RX12) (T := TX12) (N := 11) hx hb hts uV_k1_X12 hown hK hP 0 rfl rfl 0 (by decide) (hts (.fieldLink RX12 9 "ClassMill" "tape" "[B") mw_k1_1) (fun _ h9 => h9) rfl dX12_putNumber_12 ?_
  refine va_alen (v := 6000) hx hb hK hP 1 0 rfl rfl rfl dX12_putNumber_15 ?_
  refine lv_icmp_ge (tgt := 42) hx hb dX12_putNumber_16 (by decide) (fun c_8 => (show False by revert c_8; decide).elim) (fun c_8 => ?_)
  refine lv_aload_n hx hb dX12_putNumber_19 rfl (lv_at hl 1 rfl) ?_
  refine va_get (D := (dC, dI)) (ci := 12) (v := .ref qo1) (C := RX12) (T := TX12) (N := 11) hx hb hts uV_k1_X12 hown hK hP 0 rfl rfl 0 (by decide) (hts (.fieldLink RX12 9 "ClassMill" "tape" "[B") mw_k1_1) (fun _ h9 => h9) rfl dX12_putNumber_20 ?_
  refine lv_aload_n hx hb dX12_putNumber_23 rfl (lv_at hl 1 rfl) ?_
  refine va_get (D := (dC, dI)) (ci := 12) (v := .int 5) (C := RX12) (T := TX12) (N := 11) hx hb hts uV_k1_X12 hown hK hP 0 rfl rfl 1 (by decide) (hts (.fieldLink RX12 73 "ClassMill" "taped" "I") mw_k1_0) (fun _ h9 => h9) rfl dX12_putNumber_24 ?_
  refine lv_iload_n hx hb dX12_putNumber_27 rfl (lv_at hl 2 rfl) ?_
  refine lv_iload_n hx hb dX12_putNumber_28 rfl (lv_at hl 0 rfl) ?_
  refine lv_ishr hx hb dX12_putNumber_29 ?_
  refine lv_topi (fun y_9 ey_9 => ?_)
  obtain ⟨y_10, ey_10⟩ : ∃ zy : Int32, (y_9 : Int32).toInt8.toInt32 = zy := ⟨_, rfl⟩
  refine lv_i2b hx hb dX12_putNumber_30 ey_10 ?_
  refine va_bast hx hb hK hP hD hS 1 0 rfl rfl (i := 5) (x := y_10) (by unfold vp_in; decide) dX12_putNumber_31 ?_
  clear hP hD hS
  intro H locs hP hD hS
  obtain ⟨f_11, ef_11⟩ : ∃ zf : Nat → Int32, zf = upd f_5 (5 : Int32).toNatClampNeg (vp_nar .byte y_10) := ⟨_, rfl⟩
  rw [← ef_11] at hP hD
  replace hP : va_P (dC, dI) vwCl [(h0, .inr (12, [.ref qo1, .int 5, .ref qo2, .ref qo3, .ref qo4, .ref qo5, .ref qo6, .int 0, .ref qo7, .ref qo8, .ref qo9])), (qo1, .inl (co1, 6000, .inl f_11))] H := hP
  replace hD : va_D A [(h0, .inr (12, [.ref qo1, .int 5, .ref qo2, .ref qo3, .ref qo4, .ref qo5, .ref qo6, .int 0, .ref qo7, .ref qo8, .ref qo9])), (qo1, .inl (co1, 6000, .inl f_11))] := hD
  refine lv_aload_n hx hb dX12_putNumber_32 rfl (lv_at hl 1 rfl) ?_
  refine lv_dup hx hb dX12_putNumber_33 rfl ?_
  refine va_get (D := (dC, dI)) (ci := 12) (v := .int 5) (C := RX12) (T := TX12) (N := 11) hx hb hts uV_k1_X12 hown hK hP 0 rfl rfl 1 (by decide) (hts (.fieldLink RX12 73 "ClassMill" "taped" "I") mw_k1_0) (fun _ h9 => h9) rfl dX12_putNumber_34 ?_
  refine lv_iconst (v := 1) hx hb dX12_putNumber_37 (by decide) ?_
  refine lv_iadd hx hb dX12_putNumber_38 ?_
  refine lv_topi (fun y_12 ey_12 => ?_)
  obtain rfl : y_12 = 6 := ey_12.trans (by decide)
  refine va_put (D := (dC, dI)) (ci := 12) (v := .int 6) (ty := .int) (C := RX12) (T := TX12) (N := 11) hx hb hts uV_k1_X12 tyX12 tyX12_ok nmX12 hown hK hP hD hS 0 rfl rfl 1 (by decide) (hts (.fieldLink RX12 73 "ClassMill" "taped" "I") mw_k1_0) (fun _ h9 => h9) rfl (by decide +kernel) rfl rfl (Nat.le_of_ble_eq_true rfl) dX12_putNumber_39 ?_
  clear hP hD hS
  intro H locs hP hD hS
  replace hP : va_P (dC, dI) vwCl [(h0, .inr (12, [.ref qo1, .int 6, .ref qo2, .ref qo3, .ref qo4, .ref qo5, .ref qo6, .int 0, .ref qo7, .ref qo8, .ref qo9])), (qo1, .inl (co1, 6000, .inl f_11))] H := hP
  replace hD : va_D A [(h0, .inr (12, [.ref qo1, .int 6, .ref qo2, .ref qo3, .ref qo4, .ref qo5, .ref qo6, .int 0, .ref qo7, .ref qo8, .ref qo9])), (qo1, .inl (co1, 6000, .inl f_11))] := hD
  refine lv_iinc (v := 8) (lv' := [(2, .int 8), (0, .ref h0), (1, .int a1)]) hx hb dX12_putNumber_42 hl (k := 0) rfl (by decide) (by decide) rfl (fun ls hl => ?_)
  refine lv_goto (tgt := 3) hx hb dX12_putNumber_45 (by decide) ?_
  refine lv_iload_n hx hb dX12_putNumber_3 rfl (lv_at hl 0 rfl) ?_
  refine lv_if_lt (tgt := 48) hx hb dX12_putNumber_4 (by decide) (fun c_13 => (show False by revert c_13; decide).elim) (fun c_13 => ?_)
  refine lv_aload_n hx hb dX12_putNumber_7 rfl (lv_at hl 1 rfl) ?_
  refine va_get (D := (dC, dI)) (ci := 12) (v := .int 6) (C := RX12) (T := TX12) (N := 11) hx hb hts uV_k1_X12 hown hK hP 0 rfl rfl 1 (by decide) (hts (.fieldLink RX12 73 "ClassMill" "taped" "I") mw_k1_0) (fun _ h9 => h9) rfl dX12_putNumber_8 ?_
  refine lv_aload_n hx hb dX12_putNumber_11 rfl (lv_at hl 1 rfl) ?_
  refine va_get (D := (dC, dI)) (ci := 12) (v := .ref qo1) (C := RX12) (T := TX12) (N := 11) hx hb hts uV_k1_X12 hown hK hP 0 rfl rfl 0 (by decide) (hts (.fieldLink RX12 9 "ClassMill" "tape" "[B") mw_k1_1) (fun _ h9 => h9) rfl dX12_putNumber_12 ?_
  refine va_alen (v := 6000) hx hb hK hP 1 0 rfl rfl rfl dX12_putNumber_15 ?_
  refine lv_icmp_ge (tgt := 42) hx hb dX12_putNumber_16 (by decide) (fun c_14 => (show False by revert c_14; decide).elim) (fun c_14 => ?_)
  refine lv_aload_n hx hb dX12_putNumber_19 rfl (lv_at hl 1 rfl) ?_
  refine va_get (D := (dC, dI)) (ci := 12) (v := .ref qo1) (C := RX12) (T := TX12) (N := 11) hx hb hts uV_k1_X12 hown hK hP 0 rfl rfl 0 (by decide) (hts (.fieldLink RX12 9 "ClassMill" "tape" "[B") mw_k1_1) (fun _ h9 => h9) rfl dX12_putNumber_20 ?_
  refine lv_aload_n hx hb dX12_putNumber_23 rfl (lv_at hl 1 rfl) ?_
  refine va_get (D := (dC, dI)) (ci := 12) (v := .int 6) (C := RX12) (T := TX12) (N := 11) hx hb hts uV_k1_X12 hown hK hP 0 rfl rfl 1 (by decide) (hts (.fieldLink RX12 73 "ClassMill" "taped" "I") mw_k1_0) (fun _ h9 => h9) rfl dX12_putNumber_24 ?_
  refine lv_iload_n hx hb dX12_putNumber_27 rfl (lv_at hl 2 rfl) ?_
  refine lv_iload_n hx hb dX12_putNumber_28 rfl (lv_at hl 0 rfl) ?_
  refine lv_ishr hx hb dX12_putNumber_29 ?_
  refine lv_topi (fun y_15 ey_15 => ?_)
  obtain ⟨y_16, ey_16⟩ : ∃ zy : Int32, (y_15 : Int32).toInt8.toInt32 = zy := ⟨_, rfl⟩
  refine lv_i2b hx hb dX12_putNumber_30 ey_16 ?_
  refine va_bast hx hb hK hP hD hS 1 0 rfl rfl (i := 6) (x := y_16) (by unfold vp_in; decide) dX12_putNumber_31 ?_
  clear hP hD hS
  intro H locs hP hD hS
  obtain ⟨f_17, ef_17⟩ : ∃ zf : Nat → Int32, zf = upd f_11 (6 : Int32).toNatClampNeg (vp_nar .byte y_16) := ⟨_, rfl⟩
  rw [← ef_17] at hP hD
  replace hP : va_P (dC, dI) vwCl [(h0, .inr (12, [.ref qo1, .int 6, .ref qo2, .ref qo3, .ref qo4, .ref qo5, .ref qo6, .int 0, .ref qo7, .ref qo8, .ref qo9])), (qo1, .inl (co1, 6000, .inl f_17))] H := hP
  replace hD : va_D A [(h0, .inr (12, [.ref qo1, .int 6, .ref qo2, .ref qo3, .ref qo4, .ref qo5, .ref qo6, .int 0, .ref qo7, .ref qo8, .ref qo9])), (qo1, .inl (co1, 6000, .inl f_17))] := hD
  refine lv_aload_n hx hb dX12_putNumber_32 rfl (lv_at hl 1 rfl) ?_
  refine lv_dup hx hb dX12_putNumber_33 rfl ?_
  refine va_get (D := (dC, dI)) (ci := 12) (v := .int 6) (C := RX12) (T := TX12) (N := 11) hx hb hts uV_k1_X12 hown hK hP 0 rfl rfl 1 (by decide) (hts (.fieldLink RX12 73 "ClassMill" "taped" "I") mw_k1_0) (fun _ h9 => h9) rfl dX12_putNumber_34 ?_
  refine lv_iconst (v := 1) hx hb dX12_putNumber_37 (by decide) ?_
  refine lv_iadd hx hb dX12_putNumber_38 ?_
  refine lv_topi (fun y_18 ey_18 => ?_)
  obtain rfl : y_18 = 7 := ey_18.trans (by decide)
  refine va_put (D := (dC, dI)) (ci := 12) (v := .int 7) (ty := .int) (C := RX12) (T := TX12) (N := 11) hx hb hts uV_k1_X12 tyX12 tyX12_ok nmX12 hown hK hP hD hS 0 rfl rfl 1 (by decide) (hts (.fieldLink RX12 73 "ClassMill" "taped" "I") mw_k1_0) (fun _ h9 => h9) rfl (by decide +kernel) rfl rfl (Nat.le_of_ble_eq_true rfl) dX12_putNumber_39 ?_
  clear hP hD hS
  intro H locs hP hD hS
  replace hP : va_P (dC, dI) vwCl [(h0, .inr (12, [.ref qo1, .int 7, .ref qo2, .ref qo3, .ref qo4, .ref qo5, .ref qo6, .int 0, .ref qo7, .ref qo8, .ref qo9])), (qo1, .inl (co1, 6000, .inl f_17))] H := hP
  replace hD : va_D A [(h0, .inr (12, [.ref qo1, .int 7, .ref qo2, .ref qo3, .ref qo4, .ref qo5, .ref qo6, .int 0, .ref qo7, .ref qo8, .ref qo9])), (qo1, .inl (co1, 6000, .inl f_17))] := hD
  refine lv_iinc (v := 0) (lv' := [(2, .int 0), (0, .ref h0), (1, .int a1)]) hx hb dX12_putNumber_42 hl (k := 0) rfl (by decide) (by decide) rfl (fun ls hl => ?_)
  refine lv_goto (tgt := 3) hx hb dX12_putNumber_45 (by decide) ?_
  refine lv_iload_n hx hb dX12_putNumber_3 rfl (lv_at hl 0 rfl) ?_
  refine lv_if_lt (tgt := 48) hx hb dX12_putNumber_4 (by decide) (fun c_19 => (show False by revert c_19; decide).elim) (fun c_19 => ?_)
  refine lv_aload_n hx hb dX12_putNumber_7 rfl (lv_at hl 1 rfl) ?_
  refine va_get (D := (dC, dI)) (ci := 12) (v := .int 7) (C := RX12) (T := TX12) (N := 11) hx hb hts uV_k1_X12 hown hK hP 0 rfl rfl 1 (by decide) (hts (.fieldLink RX12 73 "ClassMill" "taped" "I") mw_k1_0) (fun _ h9 => h9) rfl dX12_putNumber_8 ?_
  refine lv_aload_n hx hb dX12_putNumber_11 rfl (lv_at hl 1 rfl) ?_
  refine va_get (D := (dC, dI)) (ci := 12) (v := .ref qo1) (C := RX12) (T := TX12) (N := 11) hx hb hts uV_k1_X12 hown hK hP 0 rfl rfl 0 (by decide) (hts (.fieldLink RX12 9 "ClassMill" "tape" "[B") mw_k1_1) (fun _ h9 => h9) rfl dX12_putNumber_12 ?_
  refine va_alen (v := 6000) hx hb hK hP 1 0 rfl rfl rfl dX12_putNumber_15 ?_
  refine lv_icmp_ge (tgt := 42) hx hb dX12_putNumber_16 (by decide) (fun c_20 => (show False by revert c_20; decide).elim) (fun c_20 => ?_)
  refine lv_aload_n hx hb dX12_putNumber_19 rfl (lv_at hl 1 rfl) ?_
  refine va_get (D := (dC, dI)) (ci := 12) (v := .ref qo1) (C := RX12) (T := TX12) (N := 11) hx hb hts uV_k1_X12 hown hK hP 0 rfl rfl 0 (by decide) (hts (.fieldLink RX12 9 "ClassMill" "tape" "[B") mw_k1_1) (fun _ h9 => h9) rfl dX12_putNumber_20 ?_
  refine lv_aload_n hx hb dX12_putNumber_23 rfl (lv_at hl 1 rfl) ?_
  refine va_get (D := (dC, dI)) (ci := 12) (v := .int 7) (C := RX12) (T := TX12) (N := 11) hx hb hts uV_k1_X12 hown hK hP 0 rfl rfl 1 (by decide) (hts (.fieldLink RX12 73 "ClassMill" "taped" "I") mw_k1_0) (fun _ h9 => h9) rfl dX12_putNumber_24 ?_
  refine lv_iload_n hx hb dX12_putNumber_27 rfl (lv_at hl 2 rfl) ?_
  refine lv_iload_n hx hb dX12_putNumber_28 rfl (lv_at hl 0 rfl) ?_
  refine lv_ishr hx hb dX12_putNumber_29 ?_
  refine lv_topi (fun y_21 ey_21 => ?_)
  obtain ⟨y_22, ey_22⟩ : ∃ zy : Int32, (y_21 : Int32).toInt8.toInt32 = zy := ⟨_, rfl⟩
  refine lv_i2b hx hb dX12_putNumber_30 ey_22 ?_
  refine va_bast hx hb hK hP hD hS 1 0 rfl rfl (i := 7) (x := y_22) (by unfold vp_in; decide) dX12_putNumber_31 ?_
  clear hP hD hS
  intro H locs hP hD hS
  obtain ⟨f_23, ef_23⟩ : ∃ zf : Nat → Int32, zf = upd f_17 (7 : Int32).toNatClampNeg (vp_nar .byte y_22) := ⟨_, rfl⟩
  rw [← ef_23] at hP hD
  replace hP : va_P (dC, dI) vwCl [(h0, .inr (12, [.ref qo1, .int 7, .ref qo2, .ref qo3, .ref qo4, .ref qo5, .ref qo6, .int 0, .ref qo7, .ref qo8, .ref qo9])), (qo1, .inl (co1, 6000, .inl f_23))] H := hP
  replace hD : va_D A [(h0, .inr (12, [.ref qo1, .int 7, .ref qo2, .ref qo3, .ref qo4, .ref qo5, .ref qo6, .int 0, .ref qo7, .ref qo8, .ref qo9])), (qo1, .inl (co1, 6000, .inl f_23))] := hD
  refine lv_aload_n hx hb dX12_putNumber_32 rfl (lv_at hl 1 rfl) ?_
  refine lv_dup hx hb dX12_putNumber_33 rfl ?_
  refine va_get (D := (dC, dI)) (ci := 12) (v := .int 7) (C := RX12) (T := TX12) (N := 11) hx hb hts uV_k1_X12 hown hK hP 0 rfl rfl 1 (by decide) (hts (.fieldLink RX12 73 "ClassMill" "taped" "I") mw_k1_0) (fun _ h9 => h9) rfl dX12_putNumber_34 ?_
  refine lv_iconst (v := 1) hx hb dX12_putNumber_37 (by decide) ?_
  refine lv_iadd hx hb dX12_putNumber_38 ?_
  refine lv_topi (fun y_24 ey_24 => ?_)
  obtain rfl : y_24 = 8 := ey_24.trans (by decide)
  refine va_put (D := (dC, dI)) (ci := 12) (v := .int 8) (ty := .int) (C := RX12) (T := TX12) (N := 11) hx hb hts uV_k1_X12 tyX12 tyX12_ok nmX12 hown hK hP hD hS 0 rfl rfl 1 (by decide) (hts (.fieldLink RX12 73 "ClassMill" "taped" "I") mw_k1_0) (fun _ h9 => h9) rfl (by decide +kernel) rfl rfl (Nat.le_of_ble_eq_true rfl) dX12_putNumber_39 ?_
  clear hP hD hS
  intro H locs hP hD hS
  replace hP : va_P (dC, dI) vwCl [(h0, .inr (12, [.ref qo1, .int 8, .ref qo2, .ref qo3, .ref qo4, .ref qo5, .ref qo6, .int 0, .ref qo7, .ref qo8, .ref qo9])), (qo1, .inl (co1, 6000, .inl f_23))] H := hP
  replace hD : va_D A [(h0, .inr (12, [.ref qo1, .int 8, .ref qo2, .ref qo3, .ref qo4, .ref qo5, .ref qo6, .int 0, .ref qo7, .ref qo8, .ref qo9])), (qo1, .inl (co1, 6000, .inl f_23))] := hD
  refine lv_iinc (v := (-8)) (lv' := [(2, .int (-8)), (0, .ref h0), (1, .int a1)]) hx hb dX12_putNumber_42 hl (k := 0) rfl (by decide) (by decide) rfl (fun ls hl => ?_)
  refine lv_goto (tgt := 3) hx hb dX12_putNumber_45 (by decide) ?_
  refine lv_iload_n hx hb dX12_putNumber_3 rfl (lv_at hl 0 rfl) ?_
  refine lv_if_lt (tgt := 48) hx hb dX12_putNumber_4 (by decide) (fun c_25 => ?_) (fun c_25 => (show False by revert c_25; decide).elim)
  have hP9 := hP.sub (ws' := [(h0, .inr (12, [.ref qo1, .int 8, .ref qo2, .ref qo3, .ref qo4, .ref qo5, .ref qo6, .int 0, .ref qo7, .ref qo8, .ref qo9])), (qo1, .inl (co1, 6000, .inl f_23))]) [0, 1] rfl
  have hD9 := hD.sub (ws' := [(h0, .inr (12, [.ref qo1, .int 8, .ref qo2, .ref qo3, .ref qo4, .ref qo5, .ref qo6, .int 0, .ref qo7, .ref qo8, .ref qo9])), (qo1, .inl (co1, 6000, .inl f_23))]) [0, 1] (by decide) rfl
  have hK9 := hK.sub (tys' := [(co1, .byte)]) [0] rfl
  exact W.vret hx hb hr (fun t ht hW => ⟨⟨(f_23), rfl, trivial, by rw [ht]; exact hP9, va_K.moved hW.alike hK9, hD9⟩, hS.F ht⟩) hS.2.2 dX12_putNumber_48
set_option maxHeartbeats 4000000 in
set_option maxRecDepth 100000 in
/-- kk_putNumber2 -/
theorem kk_putNumber2 (l : Launch) (dC : Nat → ClassId) (dI : Nat → Nat → Nat) (sz : Nat) (h0 : Nat) (a1 : Int32) (qo1 : Nat) (qo2 : Nat) (qo3 : Nat) (qo4 : Nat) (qo5 : Nat) (qo6 : Nat) (qo7 : Nat) (qo8 : Nat) (qo9 : Nat) (co1 : ClassId) (ff : (Nat → Int32))  : Met l yX12_putNumber (.code yX12_putNumber cX12_putNumber 3 none :: VS_k1) ({ frames := 0, cells := 0, slots := 0, locals := 0 }) (va_Pc [.ref h0, .int a1] (fun U => U.heap.size = sz ∧ va_P (dC, dI) vwCl [(h0, .inr (12, [.ref qo1, .int 8, .ref qo2, .ref qo3, .ref qo4, .ref qo5, .ref qo6, .int 0, .ref qo7, .ref qo8, .ref qo9])), (qo1, .inl (co1, 6000, .inl ff))] U.heap ∧ va_K (dC, dI) vwCl [(co1, .byte)] U ∧ va_D (fun _ => True) [(h0, .inr (12, [.ref qo1, .int 8, .ref qo2, .ref qo3, .ref qo4, .ref qo5, .ref qo6, .int 0, .ref qo7, .ref qo8, .ref qo9])), (qo1, .inl (co1, 6000, .inl ff))])) (va_Qv (fun (u : (Nat → Int32)) => match u with | (fo1) => True) (fun (u : (Nat → Int32)) (t : State) => match u with | (fo1) => va_P (dC, dI) vwCl [(h0, .inr (12, [.ref qo1, .int 12, .ref qo2, .ref qo3, .ref qo4, .ref qo5, .ref qo6, .int 0, .ref qo7, .ref qo8, .ref qo9])), (qo1, .inl (co1, 6000, .inl fo1))] t.heap ∧ va_K (dC, dI) vwCl [(co1, .byte)] t ∧ va_D (va_A [(h0, .inr (12, [.ref qo1, .int 8, .ref qo2, .ref qo3, .ref qo4, .ref qo5, .ref qo6, .int 0, .ref qo7, .ref qo8, .ref qo9])), (qo1, .inl (co1, 6000, .inl ff))] sz) [(h0, .inr (12, [.ref qo1, .int 12, .ref qo2, .ref qo3, .ref qo4, .ref qo5, .ref qo6, .int 0, .ref qo7, .ref qo8, .ref qo9])), (qo1, .inl (co1, 6000, .inl fo1))]) (va_A [(h0, .inr (12, [.ref qo1, .int 8, .ref qo2, .ref qo3, .ref qo4, .ref qo5, .ref qo6, .int 0, .ref qo7, .ref qo8, .ref qo9])), (qo1, .inl (co1, 6000, .inl ff))] sz)) 0 0 (va_A [(h0, .inr (12, [.ref qo1, .int 8, .ref qo2, .ref qo3, .ref qo4, .ref qo5, .ref qo6, .int 0, .ref qo7, .ref qo8, .ref qo9])), (qo1, .inl (co1, 6000, .inl ff))] sz) := by
  refine Met.ofW (cc := cX12_putNumber) (maxL := 3) (ret := none) (by decide) rfl ?_
  intro p e s m args below meth c s₁ B hml hv
  obtain ⟨rfl, hsz, hP, hK, hD0⟩ := hv
  have hx := B.exec
  have hb := B.bytes
  have hr := B.returns
  have hts := atoms_spec (ws := (.code yX12_putNumber cX12_putNumber 3 none :: VS_k1)) B.pre
  replace hts := fun w (h : w ∈ VS_k1) => hts w (List.mem_cons_of_mem _ h)
  have hown : s.vm.findClass RX12 = some m.cls := findClass_of_methodNamed B.named
  have hlocks := B.notSynchronized
  subst hsz
  have hD := hD0.self (sz := s.heap.size)
  generalize hAe : va_A [(h0, .inr (12, [.ref qo1, .int 8, .ref qo2, .ref qo3, .ref qo4, .ref qo5, .ref qo6, .int 0, .ref qo7, .ref qo8, .ref qo9])), (qo1, .inl (co1, 6000, .inl ff))] s.heap.size = A at hD  ⊢
  have hA : ∀ q : Nat, s.heap.size ≤ q → A q := fun q h => by rw [← hAe]; exact Or.inr h
  have hP : va_P (dC, dI) vwCl [(h0, .inr (12, [.ref qo1, .int 8, .ref qo2, .ref qo3, .ref qo4, .ref qo5, .ref qo6, .int 0, .ref qo7, .ref qo8, .ref qo9])), (qo1, .inl (co1, 6000, .inl ff))] s.heap := hP
  have hl := lv_entry ([.ref h0, .int a1]) (n := 3) (Nat.le_of_ble_eq_true rfl)
  rw [lg_entry_eq]
  generalize (lg_sl ([.ref h0, .int a1]) ++ List.replicate (3 - (lg_sl ([.ref h0, .int a1])).length) Slot.unset).toArray = ls at hl ⊢
  have hl : lv_has ls 3 [(0, .ref h0), (1, .int a1)] := hl
  obtain ⟨H, hH⟩ : ∃ H : Heap, s.heap = H := ⟨_, rfl⟩
  rw [hH] at hP ⊢
  have hS : va_S A s.heap H [] := by rw [← hH]; exact va_S.rf
  obtain ⟨locs, hlo⟩ : ∃ locs : List Loc, locs = [] := ⟨_, rfl⟩
  rw [← hlo] at hS ⊢
  refine lv_bipush (v := 24) hx hb dX12_putNumber_0 (by decide) ?_
  refine lv_istore_n (lv' := [(2, .int 24), (0, .ref h0), (1, .int a1)]) hx hb dX12_putNumber_2 rfl hl (by decide) rfl (fun ls hl => ?_)
  refine lv_iload_n hx hb dX12_putNumber_3 rfl (lv_at hl 0 rfl) ?_
  refine lv_if_lt (tgt := 48) hx hb dX12_putNumber_4 (by decide) (fun c_1 => (show False by revert c_1; decide).elim) (fun c_1 => ?_)
  refine lv_aload_n hx hb dX12_putNumber_7 rfl (lv_at hl 1 rfl) ?_
  refine va_get (D := (dC, dI)) (ci := 12) (v := .int 8) (C := RX12) (T := TX12) (N := 11) hx hb hts uV_k1_X12 hown hK hP 0 rfl rfl 1 (by decide) (hts (.fieldLink RX12 73 "ClassMill" "taped" "I") mw_k1_0) (fun _ h9 => h9) rfl dX12_putNumber_8 ?_
  refine lv_aload_n hx hb dX12_putNumber_11 rfl (lv_at hl 1 rfl) ?_
  refine va_get (D := (dC, dI)) (ci := 12) (v := .ref qo1) (C := RX12) (T := TX12) (N := 11) hx hb hts uV_k1_X12 hown hK hP 0 rfl rfl 0 (by decide) (hts (.fieldLink RX12 9 "ClassMill" "tape" "[B") mw_k1_1) (fun _ h9 => h9) rfl dX12_putNumber_12 ?_
  refine va_alen (v := 6000) hx hb hK hP 1 0 rfl rfl rfl dX12_putNumber_15 ?_
  refine lv_icmp_ge (tgt := 42) hx hb dX12_putNumber_16 (by decide) (fun c_2 => (show False by revert c_2; decide).elim) (fun c_2 => ?_)
  refine lv_aload_n hx hb dX12_putNumber_19 rfl (lv_at hl 1 rfl) ?_
  refine va_get (D := (dC, dI)) (ci := 12) (v := .ref qo1) (C := RX12) (T := TX12) (N := 11) hx hb hts uV_k1_X12 hown hK hP 0 rfl rfl 0 (by decide) (hts (.fieldLink RX12 9 "ClassMill" "tape" "[B") mw_k1_1) (fun _ h9 => h9) rfl dX12_putNumber_20 ?_
  refine lv_aload_n hx hb dX12_putNumber_23 rfl (lv_at hl 1 rfl) ?_
  refine va_get (D := (dC, dI)) (ci := 12) (v := .int 8) (C := RX12) (T := TX12) (N := 11) hx hb hts uV_k1_X12 hown hK hP 0 rfl rfl 1 (by decide) (hts (.fieldLink RX12 73 "ClassMill" "taped" "I") mw_k1_0) (fun _ h9 => h9) rfl dX12_putNumber_24 ?_
  refine lv_iload_n hx hb dX12_putNumber_27 rfl (lv_at hl 2 rfl) ?_
  refine lv_iload_n hx hb dX12_putNumber_28 rfl (lv_at hl 0 rfl) ?_
  refine lv_ishr hx hb dX12_putNumber_29 ?_
  refine lv_topi (fun y_3 ey_3 => ?_)
  obtain ⟨y_4, ey_4⟩ : ∃ zy : Int32, (y_3 : Int32).toInt8.toInt32 = zy := ⟨_, rfl⟩
  refine lv_i2b hx hb dX12_putNumber_30 ey_4 ?_
  refine va_bast hx hb hK hP hD hS 1 0 rfl rfl (i := 8) (x := y_4) (by unfold vp_in; decide) dX12_putNumber_31 ?_
  clear hP hD hS
  intro H locs hP hD hS
  obtain ⟨f_5, ef_5⟩ : ∃ zf : Nat → Int32, zf = upd ff (8 : Int32).toNatClampNeg (vp_nar .byte y_4) := ⟨_, rfl⟩
  rw [← ef_5] at hP hD
  replace hP : va_P (dC, dI) vwCl [(h0, .inr (12, [.ref qo1, .int 8, .ref qo2, .ref qo3, .ref qo4, .ref qo5, .ref qo6, .int 0, .ref qo7, .ref qo8, .ref qo9])), (qo1, .inl (co1, 6000, .inl f_5))] H := hP
  replace hD : va_D A [(h0, .inr (12, [.ref qo1, .int 8, .ref qo2, .ref qo3, .ref qo4, .ref qo5, .ref qo6, .int 0, .ref qo7, .ref qo8, .ref qo9])), (qo1, .inl (co1, 6000, .inl f_5))] := hD
  refine lv_aload_n hx hb dX12_putNumber_32 rfl (lv_at hl 1 rfl) ?_
  refine lv_dup hx hb dX12_putNumber_33 rfl ?_
  refine va_get (D := (dC, dI)) (ci := 12) (v := .int 8) (C := RX12) (T := TX12) (N := 11) hx hb hts uV_k1_X12 hown hK hP 0 rfl rfl 1 (by decide) (hts (.fieldLink RX12 73 "ClassMill" "taped" "I") mw_k1_0) (fun _ h9 => h9) rfl dX12_putNumber_34 ?_
  refine lv_iconst (v := 1) hx hb dX12_putNumber_37 (by decide) ?_
  refine lv_iadd hx hb dX12_putNumber_38 ?_
  refine lv_topi (fun y_6 ey_6 => ?_)
  obtain rfl : y_6 = 9 := ey_6.trans (by decide)
  refine va_put (D := (dC, dI)) (ci := 12) (v := .int 9) (ty := .int) (C := RX12) (T := TX12) (N := 11) hx hb hts uV_k1_X12 tyX12 tyX12_ok nmX12 hown hK hP hD hS 0 rfl rfl 1 (by decide) (hts (.fieldLink RX12 73 "ClassMill" "taped" "I") mw_k1_0) (fun _ h9 => h9) rfl (by decide +kernel) rfl rfl (Nat.le_of_ble_eq_true rfl) dX12_putNumber_39 ?_
  clear hP hD hS
  intro H locs hP hD hS
  replace hP : va_P (dC, dI) vwCl [(h0, .inr (12, [.ref qo1, .int 9, .ref qo2, .ref qo3, .ref qo4, .ref qo5, .ref qo6, .int 0, .ref qo7, .ref qo8, .ref qo9])), (qo1, .inl (co1, 6000, .inl f_5))] H := hP
  replace hD : va_D A [(h0, .inr (12, [.ref qo1, .int 9, .ref qo2, .ref qo3, .ref qo4, .ref qo5, .ref qo6, .int 0, .ref qo7, .ref qo8, .ref qo9])), (qo1, .inl (co1, 6000, .inl f_5))] := hD
  refine lv_iinc (v := 16) (lv' := [(2, .int 16), (0, .ref h0), (1, .int a1)]) hx hb dX12_putNumber_42 hl (k := 0) rfl (by decide) (by decide) rfl (fun ls hl => ?_)
  refine lv_goto (tgt := 3) hx hb dX12_putNumber_45 (by decide) ?_
  refine lv_iload_n hx hb dX12_putNumber_3 rfl (lv_at hl 0 rfl) ?_
  refine lv_if_lt (tgt := 48) hx hb dX12_putNumber_4 (by decide) (fun c_7 => (show False by revert c_7; decide).elim) (fun c_7 => ?_)
  refine lv_aload_n hx hb dX12_putNumber_7 rfl (lv_at hl 1 rfl) ?_
  refine va_get (D := (dC, dI)) (ci := 12) (v := .int 9) (C := RX12) (T := TX12) (N := 11) hx hb hts uV_k1_X12 hown hK hP 0 rfl rfl 1 (by decide) (hts (.fieldLink RX12 73 "ClassMill" "taped" "I") mw_k1_0) (fun _ h9 => h9) rfl dX12_putNumber_8 ?_
  refine lv_aload_n hx hb dX12_putNumber_11 rfl (lv_at hl 1 rfl) ?_
  refine va_get (D := (dC, dI)) (ci := 12) (v := .ref qo1) (C := RX12) (T := TX12) (N := 11) hx hb hts uV_k1_X12 hown hK hP 0 rfl rfl 0 (by decide) (hts (.fieldLink RX12 9 "ClassMill" "tape" "[B") mw_k1_1) (fun _ h9 => h9) rfl dX12_putNumber_12 ?_
  refine va_alen (v := 6000) hx hb hK hP 1 0 rfl rfl rfl dX12_putNumber_15 ?_
  refine lv_icmp_ge (tgt := 42) hx hb dX12_putNumber_16 (by decide) (fun c_8 => (show False by revert c_8; decide).elim) (fun c_8 => ?_)
  refine lv_aload_n hx hb dX12_putNumber_19 rfl (lv_at hl 1 rfl) ?_
  refine va_get (D := (dC, dI)) (ci := 12) (v := .ref qo1) (C := RX12) (T := TX12) (N := 11) hx hb hts uV_k1_X12 hown hK hP 0 rfl rfl 0 (by decide) (hts (.fieldLink RX12 9 "ClassMill" "tape" "[B") mw_k1_1) (fun _ h9 => h9) rfl dX12_putNumber_20 ?_
  refine lv_aload_n hx hb dX12_putNumber_23 rfl (lv_at hl 1 rfl) ?_
  refine va_get (D := (dC, dI)) (ci := 12) (v := .int 9) (C := RX12) (T := TX12) (N := 11) hx hb hts uV_k1_X12 hown hK hP 0 rfl rfl 1 (by decide) (hts (.fieldLink RX12 73 "ClassMill" "taped" "I") mw_k1_0) (fun _ h9 => h9) rfl dX12_putNumber_24 ?_
  refine lv_iload_n hx hb dX12_putNumber_27 rfl (lv_at hl 2 rfl) ?_
  refine lv_iload_n hx hb dX12_putNumber_28 rfl (lv_at hl 0 rfl) ?_
  refine lv_ishr hx hb dX12_putNumber_29 ?_
  refine lv_topi (fun y_9 ey_9 => ?_)
  obtain ⟨y_10, ey_10⟩ : ∃ zy : Int32, (y_9 : Int32).toInt8.toInt32 = zy := ⟨_, rfl⟩
  refine lv_i2b hx hb dX12_putNumber_30 ey_10 ?_
  refine va_bast hx hb hK hP hD hS 1 0 rfl rfl (i := 9) (x := y_10) (by unfold vp_in; decide) dX12_putNumber_31 ?_
  clear hP hD hS
  intro H locs hP hD hS
  obtain ⟨f_11, ef_11⟩ : ∃ zf : Nat → Int32, zf = upd f_5 (9 : Int32).toNatClampNeg (vp_nar .byte y_10) := ⟨_, rfl⟩
  rw [← ef_11] at hP hD
  replace hP : va_P (dC, dI) vwCl [(h0, .inr (12, [.ref qo1, .int 9, .ref qo2, .ref qo3, .ref qo4, .ref qo5, .ref qo6, .int 0, .ref qo7, .ref qo8, .ref qo9])), (qo1, .inl (co1, 6000, .inl f_11))] H := hP
  replace hD : va_D A [(h0, .inr (12, [.ref qo1, .int 9, .ref qo2, .ref qo3, .ref qo4, .ref qo5, .ref qo6, .int 0, .ref qo7, .ref qo8, .ref qo9])), (qo1, .inl (co1, 6000, .inl f_11))] := hD
  refine lv_aload_n hx hb dX12_putNumber_32 rfl (lv_at hl 1 rfl) ?_
  refine lv_dup hx hb dX12_putNumber_33 rfl ?_
  refine va_get (D := (dC, dI)) (ci := 12) (v := .int 9) (C := RX12) (T := TX12) (N := 11) hx hb hts uV_k1_X12 hown hK hP 0 rfl rfl 1 (by decide) (hts (.fieldLink RX12 73 "ClassMill" "taped" "I") mw_k1_0) (fun _ h9 => h9) rfl dX12_putNumber_34 ?_
  refine lv_iconst (v := 1) hx hb dX12_putNumber_37 (by decide) ?_
  refine lv_iadd hx hb dX12_putNumber_38 ?_
  refine lv_topi (fun y_12 ey_12 => ?_)
  obtain rfl : y_12 = 10 := ey_12.trans (by decide)
  refine va_put (D := (dC, dI)) (ci := 12) (v := .int 10) (ty := .int) (C := RX12) (T := TX12) (N := 11) hx hb hts uV_k1_X12 tyX12 tyX12_ok nmX12 hown hK hP hD hS 0 rfl rfl 1 (by decide) (hts (.fieldLink RX12 73 "ClassMill" "taped" "I") mw_k1_0) (fun _ h9 => h9) rfl (by decide +kernel) rfl rfl (Nat.le_of_ble_eq_true rfl) dX12_putNumber_39 ?_
  clear hP hD hS
  intro H locs hP hD hS
  replace hP : va_P (dC, dI) vwCl [(h0, .inr (12, [.ref qo1, .int 10, .ref qo2, .ref qo3, .ref qo4, .ref qo5, .ref qo6, .int 0, .ref qo7, .ref qo8, .ref qo9])), (qo1, .inl (co1, 6000, .inl f_11))] H := hP
  replace hD : va_D A [(h0, .inr (12, [.ref qo1, .int 10, .ref qo2, .ref qo3, .ref qo4, .ref qo5, .ref qo6, .int 0, .ref qo7, .ref qo8, .ref qo9])), (qo1, .inl (co1, 6000, .inl f_11))] := hD
  refine lv_iinc (v := 8) (lv' := [(2, .int 8), (0, .ref h0), (1, .int a1)]) hx hb dX12_putNumber_42 hl (k := 0) rfl (by decide) (by decide) rfl (fun ls hl => ?_)
  refine lv_goto (tgt := 3) hx hb dX12_putNumber_45 (by decide) ?_
  refine lv_iload_n hx hb dX12_putNumber_3 rfl (lv_at hl 0 rfl) ?_
  refine lv_if_lt (tgt := 48) hx hb dX12_putNumber_4 (by decide) (fun c_13 => (show False by revert c_13; decide).elim) (fun c_13 => ?_)
  refine lv_aload_n hx hb dX12_putNumber_7 rfl (lv_at hl 1 rfl) ?_
  refine va_get (D := (dC, dI)) (ci := 12) (v := .int 10) (C := RX12) (T := TX12) (N := 11) hx hb hts uV_k1_X12 hown hK hP 0 rfl rfl 1 (by decide) (hts (.fieldLink RX12 73 "ClassMill" "taped" "I") mw_k1_0) (fun _ h9 => h9) rfl dX12_putNumber_8 ?_
  refine lv_aload_n hx hb dX12_putNumber_11 rfl (lv_at hl 1 rfl) ?_
  refine va_get (D := (dC, dI)) (ci := 12) (v := .ref qo1) (C := RX12) (T := TX12) (N := 11) hx hb hts uV_k1_X12 hown hK hP 0 rfl rfl 0 (by decide) (hts (.fieldLink RX12 9 "ClassMill" "tape" "[B") mw_k1_1) (fun _ h9 => h9) rfl dX12_putNumber_12 ?_
  refine va_alen (v := 6000) hx hb hK hP 1 0 rfl rfl rfl dX12_putNumber_15 ?_
  refine lv_icmp_ge (tgt := 42) hx hb dX12_putNumber_16 (by decide) (fun c_14 => (show False by revert c_14; decide).elim) (fun c_14 => ?_)
  refine lv_aload_n hx hb dX12_putNumber_19 rfl (lv_at hl 1 rfl) ?_
  refine va_get (D := (dC, dI)) (ci := 12) (v := .ref qo1) (C := RX12) (T := TX12) (N := 11) hx hb hts uV_k1_X12 hown hK hP 0 rfl rfl 0 (by decide) (hts (.fieldLink RX12 9 "ClassMill" "tape" "[B") mw_k1_1) (fun _ h9 => h9) rfl dX12_putNumber_20 ?_
  refine lv_aload_n hx hb dX12_putNumber_23 rfl (lv_at hl 1 rfl) ?_
  refine va_get (D := (dC, dI)) (ci := 12) (v := .int 10) (C := RX12) (T := TX12) (N := 11) hx hb hts uV_k1_X12 hown hK hP 0 rfl rfl 1 (by decide) (hts (.fieldLink RX12 73 "ClassMill" "taped" "I") mw_k1_0) (fun _ h9 => h9) rfl dX12_putNumber_24 ?_
  refine lv_iload_n hx hb dX12_putNumber_27 rfl (lv_at hl 2 rfl) ?_
  refine lv_iload_n hx hb dX12_putNumber_28 rfl (lv_at hl 0 rfl) ?_
  refine lv_ishr hx hb dX12_putNumber_29 ?_
  refine lv_topi (fun y_15 ey_15 => ?_)
  obtain ⟨y_16, ey_16⟩ : ∃ zy : Int32, (y_15 : Int32).toInt8.toInt32 = zy := ⟨_, rfl⟩
  refine lv_i2b hx hb dX12_putNumber_30 ey_16 ?_
  refine va_bast hx hb hK hP hD hS 1 0 rfl rfl (i := 10) (x := y_16) (by unfold vp_in; decide) dX12_putNumber_31 ?_
  clear hP hD hS
  intro H locs hP hD hS
  obtain ⟨f_17, ef_17⟩ : ∃ zf : Nat → Int32, zf = upd f_11 (10 : Int32).toNatClampNeg (vp_nar .byte y_16) := ⟨_, rfl⟩
  rw [← ef_17] at hP hD
  replace hP : va_P (dC, dI) vwCl [(h0, .inr (12, [.ref qo1, .int 10, .ref qo2, .ref qo3, .ref qo4, .ref qo5, .ref qo6, .int 0, .ref qo7, .ref qo8, .ref qo9])), (qo1, .inl (co1, 6000, .inl f_17))] H := hP
  replace hD : va_D A [(h0, .inr (12, [.ref qo1, .int 10, .ref qo2, .ref qo3, .ref qo4, .ref qo5, .ref qo6, .int 0, .ref qo7, .ref qo8, .ref qo9])), (qo1, .inl (co1, 6000, .inl f_17))] := hD
  refine lv_aload_n hx hb dX12_putNumber_32 rfl (lv_at hl 1 rfl) ?_
  refine lv_dup hx hb dX12_putNumber_33 rfl ?_
  refine va_get (D := (dC, dI)) (ci := 12) (v := .int 10) (C := RX12) (T := TX12) (N := 11) hx hb hts uV_k1_X12 hown hK hP 0 rfl rfl 1 (by decide) (hts (.fieldLink RX12 73 "ClassMill" "taped" "I") mw_k1_0) (fun _ h9 => h9) rfl dX12_putNumber_34 ?_
  refine lv_iconst (v := 1) hx hb dX12_putNumber_37 (by decide) ?_
  refine lv_iadd hx hb dX12_putNumber_38 ?_
  refine lv_topi (fun y_18 ey_18 => ?_)
  obtain rfl : y_18 = 11 := ey_18.trans (by decide)
  refine va_put (D := (dC, dI)) (ci := 12) (v := .int 11) (ty := .int) (C := RX12) (T := TX12) (N := 11) hx hb hts uV_k1_X12 tyX12 tyX12_ok nmX12 hown hK hP hD hS 0 rfl rfl 1 (by decide) (hts (.fieldLink RX12 73 "ClassMill" "taped" "I") mw_k1_0) (fun _ h9 => h9) rfl (by decide +kernel) rfl rfl (Nat.le_of_ble_eq_true rfl) dX12_putNumber_39 ?_
  clear hP hD hS
  intro H locs hP hD hS
  replace hP : va_P (dC, dI) vwCl [(h0, .inr (12, [.ref qo1, .int 11, .ref qo2, .ref qo3, .ref qo4, .ref qo5, .ref qo6, .int 0, .ref qo7, .ref qo8, .ref qo9])), (qo1, .inl (co1, 6000, .inl f_17))] H := hP
  replace hD : va_D A [(h0, .inr (12, [.ref qo1, .int 11, .ref qo2, .ref qo3, .ref qo4, .ref qo5, .ref qo6, .int 0, .ref qo7, .ref qo8, .ref qo9])), (qo1, .inl (co1, 6000, .inl f_17))] := hD
  refine lv_iinc (v := 0) (lv' := [(2, .int 0), (0, .ref h0), (1, .int a1)]) hx hb dX12_putNumber_42 hl (k := 0) rfl (by decide) (by decide) rfl (fun ls hl => ?_)
  refine lv_goto (tgt := 3) hx hb dX12_putNumber_45 (by decide) ?_
  refine lv_iload_n hx hb dX12_putNumber_3 rfl (lv_at hl 0 rfl) ?_
  refine lv_if_lt (tgt := 48) hx hb dX12_putNumber_4 (by decide) (fun c_19 => (show False by revert c_19; decide).elim) (fun c_19 => ?_)
  refine lv_aload_n hx hb dX12_putNumber_7 rfl (lv_at hl 1 rfl) ?_
  refine va_get (D := (dC, dI)) (ci := 12) (v := .int 11) (C := RX12) (T := TX12) (N := 11) hx hb hts uV_k1_X12 hown hK hP 0 rfl rfl 1 (by decide) (hts (.fieldLink RX12 73 "ClassMill" "taped" "I") mw_k1_0) (fun _ h9 => h9) rfl dX12_putNumber_8 ?_
  refine lv_aload_n hx hb dX12_putNumber_11 rfl (lv_at hl 1 rfl) ?_
  refine va_get (D := (dC, dI)) (ci := 12) (v := .ref qo1) (C := RX12) (T := TX12) (N := 11) hx hb hts uV_k1_X12 hown hK hP 0 rfl rfl 0 (by decide) (hts (.fieldLink RX12 9 "ClassMill" "tape" "[B") mw_k1_1) (fun _ h9 => h9) rfl dX12_putNumber_12 ?_
  refine va_alen (v := 6000) hx hb hK hP 1 0 rfl rfl rfl dX12_putNumber_15 ?_
  refine lv_icmp_ge (tgt := 42) hx hb dX12_putNumber_16 (by decide) (fun c_20 => (show False by revert c_20; decide).elim) (fun c_20 => ?_)
  refine lv_aload_n hx hb dX12_putNumber_19 rfl (lv_at hl 1 rfl) ?_
  refine va_get (D := (dC, dI)) (ci := 12) (v := .ref qo1) (C := RX12) (T := TX12) (N := 11) hx hb hts uV_k1_X12 hown hK hP 0 rfl rfl 0 (by decide) (hts (.fieldLink RX12 9 "ClassMill" "tape" "[B") mw_k1_1) (fun _ h9 => h9) rfl dX12_putNumber_20 ?_
  refine lv_aload_n hx hb dX12_putNumber_23 rfl (lv_at hl 1 rfl) ?_
  refine va_get (D := (dC, dI)) (ci := 12) (v := .int 11) (C := RX12) (T := TX12) (N := 11) hx hb hts uV_k1_X12 hown hK hP 0 rfl rfl 1 (by decide) (hts (.fieldLink RX12 73 "ClassMill" "taped" "I") mw_k1_0) (fun _ h9 => h9) rfl dX12_putNumber_24 ?_
  refine lv_iload_n hx hb dX12_putNumber_27 rfl (lv_at hl 2 rfl) ?_
  refine lv_iload_n hx hb dX12_putNumber_28 rfl (lv_at hl 0 rfl) ?_
  refine lv_ishr hx hb dX12_putNumber_29 ?_
  refine lv_topi (fun y_21 ey_21 => ?_)
  obtain ⟨y_22, ey_22⟩ : ∃ zy : Int32, (y_21 : Int32).toInt8.toInt32 = zy := ⟨_, rfl⟩
  refine lv_i2b hx hb dX12_putNumber_30 ey_22 ?_
  refine va_bast hx hb hK hP hD hS 1 0 rfl rfl (i := 11) (x := y_22) (by unfold vp_in; decide) dX12_putNumber_31 ?_
  clear hP hD hS
  intro H locs hP hD hS
  obtain ⟨f_23, ef_23⟩ : ∃ zf : Nat → Int32, zf = upd f_17 (11 : Int32).toNatClampNeg (vp_nar .byte y_22) := ⟨_, rfl⟩
  rw [← ef_23] at hP hD
  replace hP : va_P (dC, dI) vwCl [(h0, .inr (12, [.ref qo1, .int 11, .ref qo2, .ref qo3, .ref qo4, .ref qo5, .ref qo6, .int 0, .ref qo7, .ref qo8, .ref qo9])), (qo1, .inl (co1, 6000, .inl f_23))] H := hP
  replace hD : va_D A [(h0, .inr (12, [.ref qo1, .int 11, .ref qo2, .ref qo3, .ref qo4, .ref qo5, .ref qo6, .int 0, .ref qo7, .ref qo8, .ref qo9])), (qo1, .inl (co1, 6000, .inl f_23))] := hD
  refine lv_aload_n hx hb dX12_putNumber_32 rfl (lv_at hl 1 rfl) ?_
  refine lv_dup hx hb dX12_putNumber_33 rfl ?_
  refine va_get (D := (dC, dI)) (ci := 12) (v := .int 11) (C := RX12) (T := TX12) (N := 11) hx hb hts uV_k1_X12 hown hK hP 0 rfl rfl 1 (by decide) (hts (.fieldLink RX12 73 "ClassMill" "taped" "I") mw_k1_0) (fun _ h9 => h9) rfl dX12_putNumber_34 ?_
  refine lv_iconst (v := 1) hx hb dX12_putNumber_37 (by decide) ?_
  refine lv_iadd hx hb dX12_putNumber_38 ?_
  refine lv_topi (fun y_24 ey_24 => ?_)
  obtain rfl : y_24 = 12 := ey_24.trans (by decide)
  refine va_put (D := (dC, dI)) (ci := 12) (v := .int 12) (ty := .int) (C := RX12) (T := TX12) (N := 11) hx hb hts uV_k1_X12 tyX12 tyX12_ok nmX12 hown hK hP hD hS 0 rfl rfl 1 (by decide) (hts (.fieldLink RX12 73 "ClassMill" "taped" "I") mw_k1_0) (fun _ h9 => h9) rfl (by decide +kernel) rfl rfl (Nat.le_of_ble_eq_true rfl) dX12_putNumber_39 ?_
  clear hP hD hS
  intro H locs hP hD hS
  replace hP : va_P (dC, dI) vwCl [(h0, .inr (12, [.ref qo1, .int 12, .ref qo2, .ref qo3, .ref qo4, .ref qo5, .ref qo6, .int 0, .ref qo7, .ref qo8, .ref qo9])), (qo1, .inl (co1, 6000, .inl f_23))] H := hP
  replace hD : va_D A [(h0, .inr (12, [.ref qo1, .int 12, .ref qo2, .ref qo3, .ref qo4, .ref qo5, .ref qo6, .int 0, .ref qo7, .ref qo8, .ref qo9])), (qo1, .inl (co1, 6000, .inl f_23))] := hD
  refine lv_iinc (v := (-8)) (lv' := [(2, .int (-8)), (0, .ref h0), (1, .int a1)]) hx hb dX12_putNumber_42 hl (k := 0) rfl (by decide) (by decide) rfl (fun ls hl => ?_)
  refine lv_goto (tgt := 3) hx hb dX12_putNumber_45 (by decide) ?_
  refine lv_iload_n hx hb dX12_putNumber_3 rfl (lv_at hl 0 rfl) ?_
  refine lv_if_lt (tgt := 48) hx hb dX12_putNumber_4 (by decide) (fun c_25 => ?_) (fun c_25 => (show False by revert c_25; decide).elim)
  have hP9 := hP.sub (ws' := [(h0, .inr (12, [.ref qo1, .int 12, .ref qo2, .ref qo3, .ref qo4, .ref qo5, .ref qo6, .int 0, .ref qo7, .ref qo8, .ref qo9])), (qo1, .inl (co1, 6000, .inl f_23))]) [0, 1] rfl
  have hD9 := hD.sub (ws' := [(h0, .inr (12, [.ref qo1, .int 12, .ref qo2, .ref qo3, .ref qo4, .ref qo5, .ref qo6, .int 0, .ref qo7, .ref qo8, .ref qo9])), (qo1, .inl (co1, 6000, .inl f_23))]) [0, 1] (by decide) rfl
  have hK9 := hK.sub (tys' := [(co1, .byte)]) [0] rfl
  exact W.vret hx hb hr (fun t ht hW => ⟨⟨(f_23), rfl, trivial, by rw [ht]; exact hP9, va_K.moved hW.alike hK9, hD9⟩, hS.F ht⟩) hS.2.2 dX12_putNumber_48
set_option maxHeartbeats 4000000 in
set_option maxRecDepth 100000 in
/-- kk_putNumber3 -/
theorem kk_putNumber3 (l : Launch) (dC : Nat → ClassId) (dI : Nat → Nat → Nat) (sz : Nat) (h0 : Nat) (a1 : Int32) (qo1 : Nat) (qo2 : Nat) (qo3 : Nat) (qo4 : Nat) (qo5 : Nat) (qo6 : Nat) (qo7 : Nat) (qo8 : Nat) (qo9 : Nat) (co1 : ClassId) (ff : (Nat → Int32))  : Met l yX12_putNumber (.code yX12_putNumber cX12_putNumber 3 none :: VS_k1) ({ frames := 0, cells := 0, slots := 0, locals := 0 }) (va_Pc [.ref h0, .int a1] (fun U => U.heap.size = sz ∧ va_P (dC, dI) vwCl [(h0, .inr (12, [.ref qo1, .int 12, .ref qo2, .ref qo3, .ref qo4, .ref qo5, .ref qo6, .int 0, .ref qo7, .ref qo8, .ref qo9])), (qo1, .inl (co1, 6000, .inl ff))] U.heap ∧ va_K (dC, dI) vwCl [(co1, .byte)] U ∧ va_D (fun _ => True) [(h0, .inr (12, [.ref qo1, .int 12, .ref qo2, .ref qo3, .ref qo4, .ref qo5, .ref qo6, .int 0, .ref qo7, .ref qo8, .ref qo9])), (qo1, .inl (co1, 6000, .inl ff))])) (va_Qv (fun (u : (Nat → Int32)) => match u with | (fo1) => True) (fun (u : (Nat → Int32)) (t : State) => match u with | (fo1) => va_P (dC, dI) vwCl [(h0, .inr (12, [.ref qo1, .int 16, .ref qo2, .ref qo3, .ref qo4, .ref qo5, .ref qo6, .int 0, .ref qo7, .ref qo8, .ref qo9])), (qo1, .inl (co1, 6000, .inl fo1))] t.heap ∧ va_K (dC, dI) vwCl [(co1, .byte)] t ∧ va_D (va_A [(h0, .inr (12, [.ref qo1, .int 12, .ref qo2, .ref qo3, .ref qo4, .ref qo5, .ref qo6, .int 0, .ref qo7, .ref qo8, .ref qo9])), (qo1, .inl (co1, 6000, .inl ff))] sz) [(h0, .inr (12, [.ref qo1, .int 16, .ref qo2, .ref qo3, .ref qo4, .ref qo5, .ref qo6, .int 0, .ref qo7, .ref qo8, .ref qo9])), (qo1, .inl (co1, 6000, .inl fo1))]) (va_A [(h0, .inr (12, [.ref qo1, .int 12, .ref qo2, .ref qo3, .ref qo4, .ref qo5, .ref qo6, .int 0, .ref qo7, .ref qo8, .ref qo9])), (qo1, .inl (co1, 6000, .inl ff))] sz)) 0 0 (va_A [(h0, .inr (12, [.ref qo1, .int 12, .ref qo2, .ref qo3, .ref qo4, .ref qo5, .ref qo6, .int 0, .ref qo7, .ref qo8, .ref qo9])), (qo1, .inl (co1, 6000, .inl ff))] sz) := by
  refine Met.ofW (cc := cX12_putNumber) (maxL := 3) (ret := none) (by decide) rfl ?_
  intro p e s m args below meth c s₁ B hml hv
  obtain ⟨rfl, hsz, hP, hK, hD0⟩ := hv
  have hx := B.exec
  have hb := B.bytes
  have hr := B.returns
  have hts := atoms_spec (ws := (.code yX12_putNumber cX12_putNumber 3 none :: VS_k1)) B.pre
  replace hts := fun w (h : w ∈ VS_k1) => hts w (List.mem_cons_of_mem _ h)
  have hown : s.vm.findClass RX12 = some m.cls := findClass_of_methodNamed B.named
  have hlocks := B.notSynchronized
  subst hsz
  have hD := hD0.self (sz := s.heap.size)
  generalize hAe : va_A [(h0, .inr (12, [.ref qo1, .int 12, .ref qo2, .ref qo3, .ref qo4, .ref qo5, .ref qo6, .int 0, .ref qo7, .ref qo8, .ref qo9])), (qo1, .inl (co1, 6000, .inl ff))] s.heap.size = A at hD  ⊢
  have hA : ∀ q : Nat, s.heap.size ≤ q → A q := fun q h => by rw [← hAe]; exact Or.inr h
  have hP : va_P (dC, dI) vwCl [(h0, .inr (12, [.ref qo1, .int 12, .ref qo2, .ref qo3, .ref qo4, .ref qo5, .ref qo6, .int 0, .ref qo7, .ref qo8, .ref qo9])), (qo1, .inl (co1, 6000, .inl ff))] s.heap := hP
  have hl := lv_entry ([.ref h0, .int a1]) (n := 3) (Nat.le_of_ble_eq_true rfl)
  rw [lg_entry_eq]
  generalize (lg_sl ([.ref h0, .int a1]) ++ List.replicate (3 - (lg_sl ([.ref h0, .int a1])).length) Slot.unset).toArray = ls at hl ⊢
  have hl : lv_has ls 3 [(0, .ref h0), (1, .int a1)] := hl
  obtain ⟨H, hH⟩ : ∃ H : Heap, s.heap = H := ⟨_, rfl⟩
  rw [hH] at hP ⊢
  have hS : va_S A s.heap H [] := by rw [← hH]; exact va_S.rf
  obtain ⟨locs, hlo⟩ : ∃ locs : List Loc, locs = [] := ⟨_, rfl⟩
  rw [← hlo] at hS ⊢
  refine lv_bipush (v := 24) hx hb dX12_putNumber_0 (by decide) ?_
  refine lv_istore_n (lv' := [(2, .int 24), (0, .ref h0), (1, .int a1)]) hx hb dX12_putNumber_2 rfl hl (by decide) rfl (fun ls hl => ?_)
  refine lv_iload_n hx hb dX12_putNumber_3 rfl (lv_at hl 0 rfl) ?_
  refine lv_if_lt (tgt := 48) hx hb dX12_putNumber_4 (by decide) (fun c_1 => (show False by revert c_1; decide).elim) (fun c_1 => ?_)
  refine lv_aload_n hx hb dX12_putNumber_7 rfl (lv_at hl 1 rfl) ?_
  refine va_get (D := (dC, dI)) (ci := 12) (v := .int 12) (C := RX12) (T := TX12) (N := 11) hx hb hts uV_k1_X12 hown hK hP 0 rfl rfl 1 (by decide) (hts (.fieldLink RX12 73 "ClassMill" "taped" "I") mw_k1_0) (fun _ h9 => h9) rfl dX12_putNumber_8 ?_
  refine lv_aload_n hx hb dX12_putNumber_11 rfl (lv_at hl 1 rfl) ?_
  refine va_get (D := (dC, dI)) (ci := 12) (v := .ref qo1) (C := RX12) (T := TX12) (N := 11) hx hb hts uV_k1_X12 hown hK hP 0 rfl rfl 0 (by decide) (hts (.fieldLink RX12 9 "ClassMill" "tape" "[B") mw_k1_1) (fun _ h9 => h9) rfl dX12_putNumber_12 ?_
  refine va_alen (v := 6000) hx hb hK hP 1 0 rfl rfl rfl dX12_putNumber_15 ?_
  refine lv_icmp_ge (tgt := 42) hx hb dX12_putNumber_16 (by decide) (fun c_2 => (show False by revert c_2; decide).elim) (fun c_2 => ?_)
  refine lv_aload_n hx hb dX12_putNumber_19 rfl (lv_at hl 1 rfl) ?_
  refine va_get (D := (dC, dI)) (ci := 12) (v := .ref qo1) (C := RX12) (T := TX12) (N := 11) hx hb hts uV_k1_X12 hown hK hP 0 rfl rfl 0 (by decide) (hts (.fieldLink RX12 9 "ClassMill" "tape" "[B") mw_k1_1) (fun _ h9 => h9) rfl dX12_putNumber_20 ?_
  refine lv_aload_n hx hb dX12_putNumber_23 rfl (lv_at hl 1 rfl) ?_
  refine va_get (D := (dC, dI)) (ci := 12) (v := .int 12) (C := RX12) (T := TX12) (N := 11) hx hb hts uV_k1_X12 hown hK hP 0 rfl rfl 1 (by decide) (hts (.fieldLink RX12 73 "ClassMill" "taped" "I") mw_k1_0) (fun _ h9 => h9) rfl dX12_putNumber_24 ?_
  refine lv_iload_n hx hb dX12_putNumber_27 rfl (lv_at hl 2 rfl) ?_
  refine lv_iload_n hx hb dX12_putNumber_28 rfl (lv_at hl 0 rfl) ?_
  refine lv_ishr hx hb dX12_putNumber_29 ?_
  refine lv_topi (fun y_3 ey_3 => ?_)
  obtain ⟨y_4, ey_4⟩ : ∃ zy : Int32, (y_3 : Int32).toInt8.toInt32 = zy := ⟨_, rfl⟩
  refine lv_i2b hx hb dX12_putNumber_30 ey_4 ?_
  refine va_bast hx hb hK hP hD hS 1 0 rfl rfl (i := 12) (x := y_4) (by unfold vp_in; decide) dX12_putNumber_31 ?_
  clear hP hD hS
  intro H locs hP hD hS
  obtain ⟨f_5, ef_5⟩ : ∃ zf : Nat → Int32, zf = upd ff (12 : Int32).toNatClampNeg (vp_nar .byte y_4) := ⟨_, rfl⟩
  rw [← ef_5] at hP hD
  replace hP : va_P (dC, dI) vwCl [(h0, .inr (12, [.ref qo1, .int 12, .ref qo2, .ref qo3, .ref qo4, .ref qo5, .ref qo6, .int 0, .ref qo7, .ref qo8, .ref qo9])), (qo1, .inl (co1, 6000, .inl f_5))] H := hP
  replace hD : va_D A [(h0, .inr (12, [.ref qo1, .int 12, .ref qo2, .ref qo3, .ref qo4, .ref qo5, .ref qo6, .int 0, .ref qo7, .ref qo8, .ref qo9])), (qo1, .inl (co1, 6000, .inl f_5))] := hD
  refine lv_aload_n hx hb dX12_putNumber_32 rfl (lv_at hl 1 rfl) ?_
  refine lv_dup hx hb dX12_putNumber_33 rfl ?_
  refine va_get (D := (dC, dI)) (ci := 12) (v := .int 12) (C := RX12) (T := TX12) (N := 11) hx hb hts uV_k1_X12 hown hK hP 0 rfl rfl 1 (by decide) (hts (.fieldLink RX12 73 "ClassMill" "taped" "I") mw_k1_0) (fun _ h9 => h9) rfl dX12_putNumber_34 ?_
  refine lv_iconst (v := 1) hx hb dX12_putNumber_37 (by decide) ?_
  refine lv_iadd hx hb dX12_putNumber_38 ?_
  refine lv_topi (fun y_6 ey_6 => ?_)
  obtain rfl : y_6 = 13 := ey_6.trans (by decide)
  refine va_put (D := (dC, dI)) (ci := 12) (v := .int 13) (ty := .int) (C := RX12) (T := TX12) (N := 11) hx hb hts uV_k1_X12 tyX12 tyX12_ok nmX12 hown hK hP hD hS 0 rfl rfl 1 (by decide) (hts (.fieldLink RX12 73 "ClassMill" "taped" "I") mw_k1_0) (fun _ h9 => h9) rfl (by decide +kernel) rfl rfl (Nat.le_of_ble_eq_true rfl) dX12_putNumber_39 ?_
  clear hP hD hS
  intro H locs hP hD hS
  replace hP : va_P (dC, dI) vwCl [(h0, .inr (12, [.ref qo1, .int 13, .ref qo2, .ref qo3, .ref qo4, .ref qo5, .ref qo6, .int 0, .ref qo7, .ref qo8, .ref qo9])), (qo1, .inl (co1, 6000, .inl f_5))] H := hP
  replace hD : va_D A [(h0, .inr (12, [.ref qo1, .int 13, .ref qo2, .ref qo3, .ref qo4, .ref qo5, .ref qo6, .int 0, .ref qo7, .ref qo8, .ref qo9])), (qo1, .inl (co1, 6000, .inl f_5))] := hD
  refine lv_iinc (v := 16) (lv' := [(2, .int 16), (0, .ref h0), (1, .int a1)]) hx hb dX12_putNumber_42 hl (k := 0) rfl (by decide) (by decide) rfl (fun ls hl => ?_)
  refine lv_goto (tgt := 3) hx hb dX12_putNumber_45 (by decide) ?_
  refine lv_iload_n hx hb dX12_putNumber_3 rfl (lv_at hl 0 rfl) ?_
  refine lv_if_lt (tgt := 48) hx hb dX12_putNumber_4 (by decide) (fun c_7 => (show False by revert c_7; decide).elim) (fun c_7 => ?_)
  refine lv_aload_n hx hb dX12_putNumber_7 rfl (lv_at hl 1 rfl) ?_
  refine va_get (D := (dC, dI)) (ci := 12) (v := .int 13) (C := RX12) (T := TX12) (N := 11) hx hb hts uV_k1_X12 hown hK hP 0 rfl rfl 1 (by decide) (hts (.fieldLink RX12 73 "ClassMill" "taped" "I") mw_k1_0) (fun _ h9 => h9) rfl dX12_putNumber_8 ?_
  refine lv_aload_n hx hb dX12_putNumber_11 rfl (lv_at hl 1 rfl) ?_
  refine va_get (D := (dC, dI)) (ci := 12) (v := .ref qo1) (C := RX12) (T := TX12) (N := 11) hx hb hts uV_k1_X12 hown hK hP 0 rfl rfl 0 (by decide) (hts (.fieldLink RX12 9 "ClassMill" "tape" "[B") mw_k1_1) (fun _ h9 => h9) rfl dX12_putNumber_12 ?_
  refine va_alen (v := 6000) hx hb hK hP 1 0 rfl rfl rfl dX12_putNumber_15 ?_
  refine lv_icmp_ge (tgt := 42) hx hb dX12_putNumber_16 (by decide) (fun c_8 => (show False by revert c_8; decide).elim) (fun c_8 => ?_)
  refine lv_aload_n hx hb dX12_putNumber_19 rfl (lv_at hl 1 rfl) ?_
  refine va_get (D := (dC, dI)) (ci := 12) (v := .ref qo1) (C := RX12) (T := TX12) (N := 11) hx hb hts uV_k1_X12 hown hK hP 0 rfl rfl 0 (by decide) (hts (.fieldLink RX12 9 "ClassMill" "tape" "[B") mw_k1_1) (fun _ h9 => h9) rfl dX12_putNumber_20 ?_
  refine lv_aload_n hx hb dX12_putNumber_23 rfl (lv_at hl 1 rfl) ?_
  refine va_get (D := (dC, dI)) (ci := 12) (v := .int 13) (C := RX12) (T := TX12) (N := 11) hx hb hts uV_k1_X12 hown hK hP 0 rfl rfl 1 (by decide) (hts (.fieldLink RX12 73 "ClassMill" "taped" "I") mw_k1_0) (fun _ h9 => h9) rfl dX12_putNumber_24 ?_
  refine lv_iload_n hx hb dX12_putNumber_27 rfl (lv_at hl 2 rfl) ?_
  refine lv_iload_n hx hb dX12_putNumber_28 rfl (lv_at hl 0 rfl) ?_
  refine lv_ishr hx hb dX12_putNumber_29 ?_
  refine lv_topi (fun y_9 ey_9 => ?_)
  obtain ⟨y_10, ey_10⟩ : ∃ zy : Int32, (y_9 : Int32).toInt8.toInt32 = zy := ⟨_, rfl⟩
  refine lv_i2b hx hb dX12_putNumber_30 ey_10 ?_
  refine va_bast hx hb hK hP hD hS 1 0 rfl rfl (i := 13) (x := y_10) (by unfold vp_in; decide) dX12_putNumber_31 ?_
  clear hP hD hS
  intro H locs hP hD hS
  obtain ⟨f_11, ef_11⟩ : ∃ zf : Nat → Int32, zf = upd f_5 (13 : Int32).toNatClampNeg (vp_nar .byte y_10) := ⟨_, rfl⟩
  rw [← ef_11] at hP hD
  replace hP : va_P (dC, dI) vwCl [(h0, .inr (12, [.ref qo1, .int 13, .ref qo2, .ref qo3, .ref qo4, .ref qo5, .ref qo6, .int 0, .ref qo7, .ref qo8, .ref qo9])), (qo1, .inl (co1, 6000, .inl f_11))] H := hP
  replace hD : va_D A [(h0, .inr (12, [.ref qo1, .int 13, .ref qo2, .ref qo3, .ref qo4, .ref qo5, .ref qo6, .int 0, .ref qo7, .ref qo8, .ref qo9])), (qo1, .inl (co1, 6000, .inl f_11))] := hD
  refine lv_aload_n hx hb dX12_putNumber_32 rfl (lv_at hl 1 rfl) ?_
  refine lv_dup hx hb dX12_putNumber_33 rfl ?_
  refine va_get (D := (dC, dI)) (ci := 12) (v := .int 13) (C := RX12) (T := TX12) (N := 11) hx hb hts uV_k1_X12 hown hK hP 0 rfl rfl 1 (by decide) (hts (.fieldLink RX12 73 "ClassMill" "taped" "I") mw_k1_0) (fun _ h9 => h9) rfl dX12_putNumber_34 ?_
  refine lv_iconst (v := 1) hx hb dX12_putNumber_37 (by decide) ?_
  refine lv_iadd hx hb dX12_putNumber_38 ?_
  refine lv_topi (fun y_12 ey_12 => ?_)
  obtain rfl : y_12 = 14 := ey_12.trans (by decide)
  refine va_put (D := (dC, dI)) (ci := 12) (v := .int 14) (ty := .int) (C := RX12) (T := TX12) (N := 11) hx hb hts uV_k1_X12 tyX12 tyX12_ok nmX12 hown hK hP hD hS 0 rfl rfl 1 (by decide) (hts (.fieldLink RX12 73 "ClassMill" "taped" "I") mw_k1_0) (fun _ h9 => h9) rfl (by decide +kernel) rfl rfl (Nat.le_of_ble_eq_true rfl) dX12_putNumber_39 ?_
  clear hP hD hS
  intro H locs hP hD hS
  replace hP : va_P (dC, dI) vwCl [(h0, .inr (12, [.ref qo1, .int 14, .ref qo2, .ref qo3, .ref qo4, .ref qo5, .ref qo6, .int 0, .ref qo7, .ref qo8, .ref qo9])), (qo1, .inl (co1, 6000, .inl f_11))] H := hP
  replace hD : va_D A [(h0, .inr (12, [.ref qo1, .int 14, .ref qo2, .ref qo3, .ref qo4, .ref qo5, .ref qo6, .int 0, .ref qo7, .ref qo8, .ref qo9])), (qo1, .inl (co1, 6000, .inl f_11))] := hD
  refine lv_iinc (v := 8) (lv' := [(2, .int 8), (0, .ref h0), (1, .int a1)]) hx hb dX12_putNumber_42 hl (k := 0) rfl (by decide) (by decide) rfl (fun ls hl => ?_)
  refine lv_goto (tgt := 3) hx hb dX12_putNumber_45 (by decide) ?_
  refine lv_iload_n hx hb dX12_putNumber_3 rfl (lv_at hl 0 rfl) ?_
  refine lv_if_lt (tgt := 48) hx hb dX12_putNumber_4 (by decide) (fun c_13 => (show False by revert c_13; decide).elim) (fun c_13 => ?_)
  refine lv_aload_n hx hb dX12_putNumber_7 rfl (lv_at hl 1 rfl) ?_
  refine va_get (D := (dC, dI)) (ci := 12) (v := .int 14) (C := RX12) (T := TX12) (N := 11) hx hb hts uV_k1_X12 hown hK hP 0 rfl rfl 1 (by decide) (hts (.fieldLink RX12 73 "ClassMill" "taped" "I") mw_k1_0) (fun _ h9 => h9) rfl dX12_putNumber_8 ?_
  refine lv_aload_n hx hb dX12_putNumber_11 rfl (lv_at hl 1 rfl) ?_
  refine va_get (D := (dC, dI)) (ci := 12) (v := .ref qo1) (C := RX12) (T := TX12) (N := 11) hx hb hts uV_k1_X12 hown hK hP 0 rfl rfl 0 (by decide) (hts (.fieldLink RX12 9 "ClassMill" "tape" "[B") mw_k1_1) (fun _ h9 => h9) rfl dX12_putNumber_12 ?_
  refine va_alen (v := 6000) hx hb hK hP 1 0 rfl rfl rfl dX12_putNumber_15 ?_
  refine lv_icmp_ge (tgt := 42) hx hb dX12_putNumber_16 (by decide) (fun c_14 => (show False by revert c_14; decide).elim) (fun c_14 => ?_)
  refine lv_aload_n hx hb dX12_putNumber_19 rfl (lv_at hl 1 rfl) ?_
  refine va_get (D := (dC, dI)) (ci := 12) (v := .ref qo1) (C := RX12) (T := TX12) (N := 11) hx hb hts uV_k1_X12 hown hK hP 0 rfl rfl 0 (by decide) (hts (.fieldLink RX12 9 "ClassMill" "tape" "[B") mw_k1_1) (fun _ h9 => h9) rfl dX12_putNumber_20 ?_
  refine lv_aload_n hx hb dX12_putNumber_23 rfl (lv_at hl 1 rfl) ?_
  refine va_get (D := (dC, dI)) (ci := 12) (v := .int 14) (C := RX12) (T := TX12) (N := 11) hx hb hts uV_k1_X12 hown hK hP 0 rfl rfl 1 (by decide) (hts (.fieldLink RX12 73 "ClassMill" "taped" "I") mw_k1_0) (fun _ h9 => h9) rfl dX12_putNumber_24 ?_
  refine lv_iload_n hx hb dX12_putNumber_27 rfl (lv_at hl 2 rfl) ?_
  refine lv_iload_n hx hb dX12_putNumber_28 rfl (lv_at hl 0 rfl) ?_
  refine lv_ishr hx hb dX12_putNumber_29 ?_
  refine lv_topi (fun y_15 ey_15 => ?_)
  obtain ⟨y_16, ey_16⟩ : ∃ zy : Int32, (y_15 : Int32).toInt8.toInt32 = zy := ⟨_, rfl⟩
  refine lv_i2b hx hb dX12_putNumber_30 ey_16 ?_
  refine va_bast hx hb hK hP hD hS 1 0 rfl rfl (i := 14) (x := y_16) (by unfold vp_in; decide) dX12_putNumber_31 ?_
  clear hP hD hS
  intro H locs hP hD hS
  obtain ⟨f_17, ef_17⟩ : ∃ zf : Nat → Int32, zf = upd f_11 (14 : Int32).toNatClampNeg (vp_nar .byte y_16) := ⟨_, rfl⟩
  rw [← ef_17] at hP hD
  replace hP : va_P (dC, dI) vwCl [(h0, .inr (12, [.ref qo1, .int 14, .ref qo2, .ref qo3, .ref qo4, .ref qo5, .ref qo6, .int 0, .ref qo7, .ref qo8, .ref qo9])), (qo1, .inl (co1, 6000, .inl f_17))] H := hP
  replace hD : va_D A [(h0, .inr (12, [.ref qo1, .int 14, .ref qo2, .ref qo3, .ref qo4, .ref qo5, .ref qo6, .int 0, .ref qo7, .ref qo8, .ref qo9])), (qo1, .inl (co1, 6000, .inl f_17))] := hD
  refine lv_aload_n hx hb dX12_putNumber_32 rfl (lv_at hl 1 rfl) ?_
  refine lv_dup hx hb dX12_putNumber_33 rfl ?_
  refine va_get (D := (dC, dI)) (ci := 12) (v := .int 14) (C := RX12) (T := TX12) (N := 11) hx hb hts uV_k1_X12 hown hK hP 0 rfl rfl 1 (by decide) (hts (.fieldLink RX12 73 "ClassMill" "taped" "I") mw_k1_0) (fun _ h9 => h9) rfl dX12_putNumber_34 ?_
  refine lv_iconst (v := 1) hx hb dX12_putNumber_37 (by decide) ?_
  refine lv_iadd hx hb dX12_putNumber_38 ?_
  refine lv_topi (fun y_18 ey_18 => ?_)
  obtain rfl : y_18 = 15 := ey_18.trans (by decide)
  refine va_put (D := (dC, dI)) (ci := 12) (v := .int 15) (ty := .int) (C := RX12) (T := TX12) (N := 11) hx hb hts uV_k1_X12 tyX12 tyX12_ok nmX12 hown hK hP hD hS 0 rfl rfl 1 (by decide) (hts (.fieldLink RX12 73 "ClassMill" "taped" "I") mw_k1_0) (fun _ h9 => h9) rfl (by decide +kernel) rfl rfl (Nat.le_of_ble_eq_true rfl) dX12_putNumber_39 ?_
  clear hP hD hS
  intro H locs hP hD hS
  replace hP : va_P (dC, dI) vwCl [(h0, .inr (12, [.ref qo1, .int 15, .ref qo2, .ref qo3, .ref qo4, .ref qo5, .ref qo6, .int 0, .ref qo7, .ref qo8, .ref qo9])), (qo1, .inl (co1, 6000, .inl f_17))] H := hP
  replace hD : va_D A [(h0, .inr (12, [.ref qo1, .int 15, .ref qo2, .ref qo3, .ref qo4, .ref qo5, .ref qo6, .int 0, .ref qo7, .ref qo8, .ref qo9])), (qo1, .inl (co1, 6000, .inl f_17))] := hD
  refine lv_iinc (v := 0) (lv' := [(2, .int 0), (0, .ref h0), (1, .int a1)]) hx hb dX12_putNumber_42 hl (k := 0) rfl (by decide) (by decide) rfl (fun ls hl => ?_)
  refine lv_goto (tgt := 3) hx hb dX12_putNumber_45 (by decide) ?_
  refine lv_iload_n hx hb dX12_putNumber_3 rfl (lv_at hl 0 rfl) ?_
  refine lv_if_lt (tgt := 48) hx hb dX12_putNumber_4 (by decide) (fun c_19 => (show False by revert c_19; decide).elim) (fun c_19 => ?_)
  refine lv_aload_n hx hb dX12_putNumber_7 rfl (lv_at hl 1 rfl) ?_
  refine va_get (D := (dC, dI)) (ci := 12) (v := .int 15) (C := RX12) (T := TX12) (N := 11) hx hb hts uV_k1_X12 hown hK hP 0 rfl rfl 1 (by decide) (hts (.fieldLink RX12 73 "ClassMill" "taped" "I") mw_k1_0) (fun _ h9 => h9) rfl dX12_putNumber_8 ?_
  refine lv_aload_n hx hb dX12_putNumber_11 rfl (lv_at hl 1 rfl) ?_
  refine va_get (D := (dC, dI)) (ci := 12) (v := .ref qo1) (C := RX12) (T := TX12) (N := 11) hx hb hts uV_k1_X12 hown hK hP 0 rfl rfl 0 (by decide) (hts (.fieldLink RX12 9 "ClassMill" "tape" "[B") mw_k1_1) (fun _ h9 => h9) rfl dX12_putNumber_12 ?_
  refine va_alen (v := 6000) hx hb hK hP 1 0 rfl rfl rfl dX12_putNumber_15 ?_
  refine lv_icmp_ge (tgt := 42) hx hb dX12_putNumber_16 (by decide) (fun c_20 => (show False by revert c_20; decide).elim) (fun c_20 => ?_)
  refine lv_aload_n hx hb dX12_putNumber_19 rfl (lv_at hl 1 rfl) ?_
  refine va_get (D := (dC, dI)) (ci := 12) (v := .ref qo1) (C := RX12) (T := TX12) (N := 11) hx hb hts uV_k1_X12 hown hK hP 0 rfl rfl 0 (by decide) (hts (.fieldLink RX12 9 "ClassMill" "tape" "[B") mw_k1_1) (fun _ h9 => h9) rfl dX12_putNumber_20 ?_
  refine lv_aload_n hx hb dX12_putNumber_23 rfl (lv_at hl 1 rfl) ?_
  refine va_get (D := (dC, dI)) (ci := 12) (v := .int 15) (C := RX12) (T := TX12) (N := 11) hx hb hts uV_k1_X12 hown hK hP 0 rfl rfl 1 (by decide) (hts (.fieldLink RX12 73 "ClassMill" "taped" "I") mw_k1_0) (fun _ h9 => h9) rfl dX12_putNumber_24 ?_
  refine lv_iload_n hx hb dX12_putNumber_27 rfl (lv_at hl 2 rfl) ?_
  refine lv_iload_n hx hb dX12_putNumber_28 rfl (lv_at hl 0 rfl) ?_
  refine lv_ishr hx hb dX12_putNumber_29 ?_
  refine lv_topi (fun y_21 ey_21 => ?_)
  obtain ⟨y_22, ey_22⟩ : ∃ zy : Int32, (y_21 : Int32).toInt8.toInt32 = zy := ⟨_, rfl⟩
  refine lv_i2b hx hb dX12_putNumber_30 ey_22 ?_
  refine va_bast hx hb hK hP hD hS 1 0 rfl rfl (i := 15) (x := y_22) (by unfold vp_in; decide) dX12_putNumber_31 ?_
  clear hP hD hS
  intro H locs hP hD hS
  obtain ⟨f_23, ef_23⟩ : ∃ zf : Nat → Int32, zf = upd f_17 (15 : Int32).toNatClampNeg (vp_nar .byte y_22) := ⟨_, rfl⟩
  rw [← ef_23] at hP hD
  replace hP : va_P (dC, dI) vwCl [(h0, .inr (12, [.ref qo1, .int 15, .ref qo2, .ref qo3, .ref qo4, .ref qo5, .ref qo6, .int 0, .ref qo7, .ref qo8, .ref qo9])), (qo1, .inl (co1, 6000, .inl f_23))] H := hP
  replace hD : va_D A [(h0, .inr (12, [.ref qo1, .int 15, .ref qo2, .ref qo3, .ref qo4, .ref qo5, .ref qo6, .int 0, .ref qo7, .ref qo8, .ref qo9])), (qo1, .inl (co1, 6000, .inl f_23))] := hD
  refine lv_aload_n hx hb dX12_putNumber_32 rfl (lv_at hl 1 rfl) ?_
  refine lv_dup hx hb dX12_putNumber_33 rfl ?_
  refine va_get (D := (dC, dI)) (ci := 12) (v := .int 15) (C := RX12) (T := TX12) (N := 11) hx hb hts uV_k1_X12 hown hK hP 0 rfl rfl 1 (by decide) (hts (.fieldLink RX12 73 "ClassMill" "taped" "I") mw_k1_0) (fun _ h9 => h9) rfl dX12_putNumber_34 ?_
  refine lv_iconst (v := 1) hx hb dX12_putNumber_37 (by decide) ?_
  refine lv_iadd hx hb dX12_putNumber_38 ?_
  refine lv_topi (fun y_24 ey_24 => ?_)
  obtain rfl : y_24 = 16 := ey_24.trans (by decide)
  refine va_put (D := (dC, dI)) (ci := 12) (v := .int 16) (ty := .int) (C := RX12) (T := TX12) (N := 11) hx hb hts uV_k1_X12 tyX12 tyX12_ok nmX12 hown hK hP hD hS 0 rfl rfl 1 (by decide) (hts (.fieldLink RX12 73 "ClassMill" "taped" "I") mw_k1_0) (fun _ h9 => h9) rfl (by decide +kernel) rfl rfl (Nat.le_of_ble_eq_true rfl) dX12_putNumber_39 ?_
  clear hP hD hS
  intro H locs hP hD hS
  replace hP : va_P (dC, dI) vwCl [(h0, .inr (12, [.ref qo1, .int 16, .ref qo2, .ref qo3, .ref qo4, .ref qo5, .ref qo6, .int 0, .ref qo7, .ref qo8, .ref qo9])), (qo1, .inl (co1, 6000, .inl f_23))] H := hP
  replace hD : va_D A [(h0, .inr (12, [.ref qo1, .int 16, .ref qo2, .ref qo3, .ref qo4, .ref qo5, .ref qo6, .int 0, .ref qo7, .ref qo8, .ref qo9])), (qo1, .inl (co1, 6000, .inl f_23))] := hD
  refine lv_iinc (v := (-8)) (lv' := [(2, .int (-8)), (0, .ref h0), (1, .int a1)]) hx hb dX12_putNumber_42 hl (k := 0) rfl (by decide) (by decide) rfl (fun ls hl => ?_)
  refine lv_goto (tgt := 3) hx hb dX12_putNumber_45 (by decide) ?_
  refine lv_iload_n hx hb dX12_putNumber_3 rfl (lv_at hl 0 rfl) ?_
  refine lv_if_lt (tgt := 48) hx hb dX12_putNumber_4 (by decide) (fun c_25 => ?_) (fun c_25 => (show False by revert c_25; decide).elim)
  have hP9 := hP.sub (ws' := [(h0, .inr (12, [.ref qo1, .int 16, .ref qo2, .ref qo3, .ref qo4, .ref qo5, .ref qo6, .int 0, .ref qo7, .ref qo8, .ref qo9])), (qo1, .inl (co1, 6000, .inl f_23))]) [0, 1] rfl
  have hD9 := hD.sub (ws' := [(h0, .inr (12, [.ref qo1, .int 16, .ref qo2, .ref qo3, .ref qo4, .ref qo5, .ref qo6, .int 0, .ref qo7, .ref qo8, .ref qo9])), (qo1, .inl (co1, 6000, .inl f_23))]) [0, 1] (by decide) rfl
  have hK9 := hK.sub (tys' := [(co1, .byte)]) [0] rfl
  exact W.vret hx hb hr (fun t ht hW => ⟨⟨(f_23), rfl, trivial, by rw [ht]; exact hP9, va_K.moved hW.alike hK9, hD9⟩, hS.F ht⟩) hS.2.2 dX12_putNumber_48
set_option maxHeartbeats 4000000 in
set_option maxRecDepth 100000 in
/-- kk_putNumber4 -/
theorem kk_putNumber4 (l : Launch) (dC : Nat → ClassId) (dI : Nat → Nat → Nat) (sz : Nat) (h0 : Nat) (a1 : Int32) (qo1 : Nat) (qo2 : Nat) (qo3 : Nat) (qo4 : Nat) (qo5 : Nat) (qo6 : Nat) (qo7 : Nat) (qo8 : Nat) (qo9 : Nat) (co1 : ClassId) (ff : (Nat → Int32))  : Met l yX12_putNumber (.code yX12_putNumber cX12_putNumber 3 none :: VS_k1) ({ frames := 0, cells := 0, slots := 0, locals := 0 }) (va_Pc [.ref h0, .int a1] (fun U => U.heap.size = sz ∧ va_P (dC, dI) vwCl [(h0, .inr (12, [.ref qo1, .int 16, .ref qo2, .ref qo3, .ref qo4, .ref qo5, .ref qo6, .int 0, .ref qo7, .ref qo8, .ref qo9])), (qo1, .inl (co1, 6000, .inl ff))] U.heap ∧ va_K (dC, dI) vwCl [(co1, .byte)] U ∧ va_D (fun _ => True) [(h0, .inr (12, [.ref qo1, .int 16, .ref qo2, .ref qo3, .ref qo4, .ref qo5, .ref qo6, .int 0, .ref qo7, .ref qo8, .ref qo9])), (qo1, .inl (co1, 6000, .inl ff))])) (va_Qv (fun (u : (Nat → Int32)) => match u with | (fo1) => True) (fun (u : (Nat → Int32)) (t : State) => match u with | (fo1) => va_P (dC, dI) vwCl [(h0, .inr (12, [.ref qo1, .int 20, .ref qo2, .ref qo3, .ref qo4, .ref qo5, .ref qo6, .int 0, .ref qo7, .ref qo8, .ref qo9])), (qo1, .inl (co1, 6000, .inl fo1))] t.heap ∧ va_K (dC, dI) vwCl [(co1, .byte)] t ∧ va_D (va_A [(h0, .inr (12, [.ref qo1, .int 16, .ref qo2, .ref qo3, .ref qo4, .ref qo5, .ref qo6, .int 0, .ref qo7, .ref qo8, .ref qo9])), (qo1, .inl (co1, 6000, .inl ff))] sz) [(h0, .inr (12, [.ref qo1, .int 20, .ref qo2, .ref qo3, .ref qo4, .ref qo5, .ref qo6, .int 0, .ref qo7, .ref qo8, .ref qo9])), (qo1, .inl (co1, 6000, .inl fo1))]) (va_A [(h0, .inr (12, [.ref qo1, .int 16, .ref qo2, .ref qo3, .ref qo4, .ref qo5, .ref qo6, .int 0, .ref qo7, .ref qo8, .ref qo9])), (qo1, .inl (co1, 6000, .inl ff))] sz)) 0 0 (va_A [(h0, .inr (12, [.ref qo1, .int 16, .ref qo2, .ref qo3, .ref qo4, .ref qo5, .ref qo6, .int 0, .ref qo7, .ref qo8, .ref qo9])), (qo1, .inl (co1, 6000, .inl ff))] sz) := by
  refine Met.ofW (cc := cX12_putNumber) (maxL := 3) (ret := none) (by decide) rfl ?_
  intro p e s m args below meth c s₁ B hml hv
  obtain ⟨rfl, hsz, hP, hK, hD0⟩ := hv
  have hx := B.exec
  have hb := B.bytes
  have hr := B.returns
  have hts := atoms_spec (ws := (.code yX12_putNumber cX12_putNumber 3 none :: VS_k1)) B.pre
  replace hts := fun w (h : w ∈ VS_k1) => hts w (List.mem_cons_of_mem _ h)
  have hown : s.vm.findClass RX12 = some m.cls := findClass_of_methodNamed B.named
  have hlocks := B.notSynchronized
  subst hsz
  have hD := hD0.self (sz := s.heap.size)
  generalize hAe : va_A [(h0, .inr (12, [.ref qo1, .int 16, .ref qo2, .ref qo3, .ref qo4, .ref qo5, .ref qo6, .int 0, .ref qo7, .ref qo8, .ref qo9])), (qo1, .inl (co1, 6000, .inl ff))] s.heap.size = A at hD  ⊢
  have hA : ∀ q : Nat, s.heap.size ≤ q → A q := fun q h => by rw [← hAe]; exact Or.inr h
  have hP : va_P (dC, dI) vwCl [(h0, .inr (12, [.ref qo1, .int 16, .ref qo2, .ref qo3, .ref qo4, .ref qo5, .ref qo6, .int 0, .ref qo7, .ref qo8, .ref qo9])), (qo1, .inl (co1, 6000, .inl ff))] s.heap := hP
  have hl := lv_entry ([.ref h0, .int a1]) (n := 3) (Nat.le_of_ble_eq_true rfl)
  rw [lg_entry_eq]
  generalize (lg_sl ([.ref h0, .int a1]) ++ List.replicate (3 - (lg_sl ([.ref h0, .int a1])).length) Slot.unset).toArray = ls at hl ⊢
  have hl : lv_has ls 3 [(0, .ref h0), (1, .int a1)] := hl
  obtain ⟨H, hH⟩ : ∃ H : Heap, s.heap = H := ⟨_, rfl⟩
  rw [hH] at hP ⊢
  have hS : va_S A s.heap H [] := by rw [← hH]; exact va_S.rf
  obtain ⟨locs, hlo⟩ : ∃ locs : List Loc, locs = [] := ⟨_, rfl⟩
  rw [← hlo] at hS ⊢
  refine lv_bipush (v := 24) hx hb dX12_putNumber_0 (by decide) ?_
  refine lv_istore_n (lv' := [(2, .int 24), (0, .ref h0), (1, .int a1)]) hx hb dX12_putNumber_2 rfl hl (by decide) rfl (fun ls hl => ?_)
  refine lv_iload_n hx hb dX12_putNumber_3 rfl (lv_at hl 0 rfl) ?_
  refine lv_if_lt (tgt := 48) hx hb dX12_putNumber_4 (by decide) (fun c_1 => (show False by revert c_1; decide).elim) (fun c_1 => ?_)
  refine lv_aload_n hx hb dX12_putNumber_7 rfl (lv_at hl 1 rfl) ?_
  refine va_get (D := (dC, dI)) (ci := 12) (v := .int 16) (C := RX12) (T := TX12) (N := 11) hx hb hts uV_k1_X12 hown hK hP 0 rfl rfl 1 (by decide) (hts (.fieldLink RX12 73 "ClassMill" "taped" "I") mw_k1_0) (fun _ h9 => h9) rfl dX12_putNumber_8 ?_
  refine lv_aload_n hx hb dX12_putNumber_11 rfl (lv_at hl 1 rfl) ?_
  refine va_get (D := (dC, dI)) (ci := 12) (v := .ref qo1) (C := RX12) (T := TX12) (N := 11) hx hb hts uV_k1_X12 hown hK hP 0 rfl rfl 0 (by decide) (hts (.fieldLink RX12 9 "ClassMill" "tape" "[B") mw_k1_1) (fun _ h9 => h9) rfl dX12_putNumber_12 ?_
  refine va_alen (v := 6000) hx hb hK hP 1 0 rfl rfl rfl dX12_putNumber_15 ?_
  refine lv_icmp_ge (tgt := 42) hx hb dX12_putNumber_16 (by decide) (fun c_2 => (show False by revert c_2; decide).elim) (fun c_2 => ?_)
  refine lv_aload_n hx hb dX12_putNumber_19 rfl (lv_at hl 1 rfl) ?_
  refine va_get (D := (dC, dI)) (ci := 12) (v := .ref qo1) (C := RX12) (T := TX12) (N := 11) hx hb hts uV_k1_X12 hown hK hP 0 rfl rfl 0 (by decide) (hts (.fieldLink RX12 9 "ClassMill" "tape" "[B") mw_k1_1) (fun _ h9 => h9) rfl dX12_putNumber_20 ?_
  refine lv_aload_n hx hb dX12_putNumber_23 rfl (lv_at hl 1 rfl) ?_
  refine va_get (D := (dC, dI)) (ci := 12) (v := .int 16) (C := RX12) (T := TX12) (N := 11) hx hb hts uV_k1_X12 hown hK hP 0 rfl rfl 1 (by decide) (hts (.fieldLink RX12 73 "ClassMill" "taped" "I") mw_k1_0) (fun _ h9 => h9) rfl dX12_putNumber_24 ?_
  refine lv_iload_n hx hb dX12_putNumber_27 rfl (lv_at hl 2 rfl) ?_
  refine lv_iload_n hx hb dX12_putNumber_28 rfl (lv_at hl 0 rfl) ?_
  refine lv_ishr hx hb dX12_putNumber_29 ?_
  refine lv_topi (fun y_3 ey_3 => ?_)
  obtain ⟨y_4, ey_4⟩ : ∃ zy : Int32, (y_3 : Int32).toInt8.toInt32 = zy := ⟨_, rfl⟩
  refine lv_i2b hx hb dX12_putNumber_30 ey_4 ?_
  refine va_bast hx hb hK hP hD hS 1 0 rfl rfl (i := 16) (x := y_4) (by unfold vp_in; decide) dX12_putNumber_31 ?_
  clear hP hD hS
  intro H locs hP hD hS
  obtain ⟨f_5, ef_5⟩ : ∃ zf : Nat → Int32, zf = upd ff (16 : Int32).toNatClampNeg (vp_nar .byte y_4) := ⟨_, rfl⟩
  rw [← ef_5] at hP hD
  replace hP : va_P (dC, dI) vwCl [(h0, .inr (12, [.ref qo1, .int 16, .ref qo2, .ref qo3, .ref qo4, .ref qo5, .ref qo6, .int 0, .ref qo7, .ref qo8, .ref qo9])), (qo1, .inl (co1, 6000, .inl f_5))] H := hP
  replace hD : va_D A [(h0, .inr (12, [.ref qo1, .int 16, .ref qo2, .ref qo3, .ref qo4, .ref qo5, .ref qo6, .int 0, .ref qo7, .ref qo8, .ref qo9])), (qo1, .inl (co1, 6000, .inl f_5))] := hD
  refine lv_aload_n hx hb dX12_putNumber_32 rfl (lv_at hl 1 rfl) ?_
  refine lv_dup hx hb dX12_putNumber_33 rfl ?_
  refine va_get (D := (dC, dI)) (ci := 12) (v := .int 16) (C := RX12) (T := TX12) (N := 11) hx hb hts uV_k1_X12 hown hK hP 0 rfl rfl 1 (by decide) (hts (.fieldLink RX12 73 "ClassMill" "taped" "I") mw_k1_0) (fun _ h9 => h9) rfl dX12_putNumber_34 ?_
  refine lv_iconst (v := 1) hx hb dX12_putNumber_37 (by decide) ?_
  refine lv_iadd hx hb dX12_putNumber_38 ?_
  refine lv_topi (fun y_6 ey_6 => ?_)
  obtain rfl : y_6 = 17 := ey_6.trans (by decide)
  refine va_put (D := (dC, dI)) (ci := 12) (v := .int 17) (ty := .int) (C := RX12) (T := TX12) (N := 11) hx hb hts uV_k1_X12 tyX12 tyX12_ok nmX12 hown hK hP hD hS 0 rfl rfl 1 (by decide) (hts (.fieldLink RX12 73 "ClassMill" "taped" "I") mw_k1_0) (fun _ h9 => h9) rfl (by decide +kernel) rfl rfl (Nat.le_of_ble_eq_true rfl) dX12_putNumber_39 ?_
  clear hP hD hS
  intro H locs hP hD hS
  replace hP : va_P (dC, dI) vwCl [(h0, .inr (12, [.ref qo1, .int 17, .ref qo2, .ref qo3, .ref qo4, .ref qo5, .ref qo6, .int 0, .ref qo7, .ref qo8, .ref qo9])), (qo1, .inl (co1, 6000, .inl f_5))] H := hP
  replace hD : va_D A [(h0, .inr (12, [.ref qo1, .int 17, .ref qo2, .ref qo3, .ref qo4, .ref qo5, .ref qo6, .int 0, .ref qo7, .ref qo8, .ref qo9])), (qo1, .inl (co1, 6000, .inl f_5))] := hD
  refine lv_iinc (v := 16) (lv' := [(2, .int 16), (0, .ref h0), (1, .int a1)]) hx hb dX12_putNumber_42 hl (k := 0) rfl (by decide) (by decide) rfl (fun ls hl => ?_)
  refine lv_goto (tgt := 3) hx hb dX12_putNumber_45 (by decide) ?_
  refine lv_iload_n hx hb dX12_putNumber_3 rfl (lv_at hl 0 rfl) ?_
  refine lv_if_lt (tgt := 48) hx hb dX12_putNumber_4 (by decide) (fun c_7 => (show False by revert c_7; decide).elim) (fun c_7 => ?_)
  refine lv_aload_n hx hb dX12_putNumber_7 rfl (lv_at hl 1 rfl) ?_
  refine va_get (D := (dC, dI)) (ci := 12) (v := .int 17) (C := RX12) (T := TX12) (N := 11) hx hb hts uV_k1_X12 hown hK hP 0 rfl rfl 1 (by decide) (hts (.fieldLink RX12 73 "ClassMill" "taped" "I") mw_k1_0) (fun _ h9 => h9) rfl dX12_putNumber_8 ?_
  refine lv_aload_n hx hb dX12_putNumber_11 rfl (lv_at hl 1 rfl) ?_
  refine va_get (D := (dC, dI)) (ci := 12) (v := .ref qo1) (C := RX12) (T := TX12) (N := 11) hx hb hts uV_k1_X12 hown hK hP 0 rfl rfl 0 (by decide) (hts (.fieldLink RX12 9 "ClassMill" "tape" "[B") mw_k1_1) (fun _ h9 => h9) rfl dX12_putNumber_12 ?_
  refine va_alen (v := 6000) hx hb hK hP 1 0 rfl rfl rfl dX12_putNumber_15 ?_
  refine lv_icmp_ge (tgt := 42) hx hb dX12_putNumber_16 (by decide) (fun c_8 => (show False by revert c_8; decide).elim) (fun c_8 => ?_)
  refine lv_aload_n hx hb dX12_putNumber_19 rfl (lv_at hl 1 rfl) ?_
  refine va_get (D := (dC, dI)) (ci := 12) (v := .ref qo1) (C := RX12) (T := TX12) (N := 11) hx hb hts uV_k1_X12 hown hK hP 0 rfl rfl 0 (by decide) (hts (.fieldLink RX12 9 "ClassMill" "tape" "[B") mw_k1_1) (fun _ h9 => h9) rfl dX12_putNumber_20 ?_
  refine lv_aload_n hx hb dX12_putNumber_23 rfl (lv_at hl 1 rfl) ?_
  refine va_get (D := (dC, dI)) (ci := 12) (v := .int 17) (C := RX12) (T := TX12) (N := 11) hx hb hts uV_k1_X12 hown hK hP 0 rfl rfl 1 (by decide) (hts (.fieldLink RX12 73 "ClassMill" "taped" "I") mw_k1_0) (fun _ h9 => h9) rfl dX12_putNumber_24 ?_
  refine lv_iload_n hx hb dX12_putNumber_27 rfl (lv_at hl 2 rfl) ?_
  refine lv_iload_n hx hb dX12_putNumber_28 rfl (lv_at hl 0 rfl) ?_
  refine lv_ishr hx hb dX12_putNumber_29 ?_
  refine lv_topi (fun y_9 ey_9 => ?_)
  obtain ⟨y_10, ey_10⟩ : ∃ zy : Int32, (y_9 : Int32).toInt8.toInt32 = zy := ⟨_, rfl⟩
  refine lv_i2b hx hb dX12_putNumber_30 ey_10 ?_
  refine va_bast hx hb hK hP hD hS 1 0 rfl rfl (i := 17) (x := y_10) (by unfold vp_in; decide) dX12_putNumber_31 ?_
  clear hP hD hS
  intro H locs hP hD hS
  obtain ⟨f_11, ef_11⟩ : ∃ zf : Nat → Int32, zf = upd f_5 (17 : Int32).toNatClampNeg (vp_nar .byte y_10) := ⟨_, rfl⟩
  rw [← ef_11] at hP hD
  replace hP : va_P (dC, dI) vwCl [(h0, .inr (12, [.ref qo1, .int 17, .ref qo2, .ref qo3, .ref qo4, .ref qo5, .ref qo6, .int 0, .ref qo7, .ref qo8, .ref qo9])), (qo1, .inl (co1, 6000, .inl f_11))] H := hP
  replace hD : va_D A [(h0, .inr (12, [.ref qo1, .int 17, .ref qo2, .ref qo3, .ref qo4, .ref qo5, .ref qo6, .int 0, .ref qo7, .ref qo8, .ref qo9])), (qo1, .inl (co1, 6000, .inl f_11))] := hD
  refine lv_aload_n hx hb dX12_putNumber_32 rfl (lv_at hl 1 rfl) ?_
  refine lv_dup hx hb dX12_putNumber_33 rfl ?_
  refine va_get (D := (dC, dI)) (ci := 12) (v := .int 17) (C := RX12) (T := TX12) (N := 11) hx hb hts uV_k1_X12 hown hK hP 0 rfl rfl 1 (by decide) (hts (.fieldLink RX12 73 "ClassMill" "taped" "I") mw_k1_0) (fun _ h9 => h9) rfl dX12_putNumber_34 ?_
  refine lv_iconst (v := 1) hx hb dX12_putNumber_37 (by decide) ?_
  refine lv_iadd hx hb dX12_putNumber_38 ?_
  refine lv_topi (fun y_12 ey_12 => ?_)
  obtain rfl : y_12 = 18 := ey_12.trans (by decide)
  refine va_put (D := (dC, dI)) (ci := 12) (v := .int 18) (ty := .int) (C := RX12) (T := TX12) (N := 11) hx hb hts uV_k1_X12 tyX12 tyX12_ok nmX12 hown hK hP hD hS 0 rfl rfl 1 (by decide) (hts (.fieldLink RX12 73 "ClassMill" "taped" "I") mw_k1_0) (fun _ h9 => h9) rfl (by decide +kernel) rfl rfl (Nat.le_of_ble_eq_true rfl) dX12_putNumber_39 ?_
  clear hP hD hS
  intro H locs hP hD hS
  replace hP : va_P (dC, dI) vwCl [(h0, .inr (12, [.ref qo1, .int 18, .ref qo2, .ref qo3, .ref qo4, .ref qo5, .ref qo6, .int 0, .ref qo7, .ref qo8, .ref qo9])), (qo1, .inl (co1, 6000, .inl f_11))] H := hP
  replace hD : va_D A [(h0, .inr (12, [.ref qo1, .int 18, .ref qo2, .ref qo3, .ref qo4, .ref qo5, .ref qo6, .int 0, .ref qo7, .ref qo8, .ref qo9])), (qo1, .inl (co1, 6000, .inl f_11))] := hD
  refine lv_iinc (v := 8) (lv' := [(2, .int 8), (0, .ref h0), (1, .int a1)]) hx hb dX12_putNumber_42 hl (k := 0) rfl (by decide) (by decide) rfl (fun ls hl => ?_)
  refine lv_goto (tgt := 3) hx hb dX12_putNumber_45 (by decide) ?_
  refine lv_iload_n hx hb dX12_putNumber_3 rfl (lv_at hl 0 rfl) ?_
  refine lv_if_lt (tgt := 48) hx hb dX12_putNumber_4 (by decide) (fun c_13 => (show False by revert c_13; decide).elim) (fun c_13 => ?_)
  refine lv_aload_n hx hb dX12_putNumber_7 rfl (lv_at hl 1 rfl) ?_
  refine va_get (D := (dC, dI)) (ci := 12) (v := .int 18) (C := RX12) (T := TX12) (N := 11) hx hb hts uV_k1_X12 hown hK hP 0 rfl rfl 1 (by decide) (hts (.fieldLink RX12 73 "ClassMill" "taped" "I") mw_k1_0) (fun _ h9 => h9) rfl dX12_putNumber_8 ?_
  refine lv_aload_n hx hb dX12_putNumber_11 rfl (lv_at hl 1 rfl) ?_
  refine va_get (D := (dC, dI)) (ci := 12) (v := .ref qo1) (C := RX12) (T := TX12) (N := 11) hx hb hts uV_k1_X12 hown hK hP 0 rfl rfl 0 (by decide) (hts (.fieldLink RX12 9 "ClassMill" "tape" "[B") mw_k1_1) (fun _ h9 => h9) rfl dX12_putNumber_12 ?_
  refine va_alen (v := 6000) hx hb hK hP 1 0 rfl rfl rfl dX12_putNumber_15 ?_
  refine lv_icmp_ge (tgt := 42) hx hb dX12_putNumber_16 (by decide) (fun c_14 => (show False by revert c_14; decide).elim) (fun c_14 => ?_)
  refine lv_aload_n hx hb dX12_putNumber_19 rfl (lv_at hl 1 rfl) ?_
  refine va_get (D := (dC, dI)) (ci := 12) (v := .ref qo1) (C := RX12) (T := TX12) (N := 11) hx hb hts uV_k1_X12 hown hK hP 0 rfl rfl 0 (by decide) (hts (.fieldLink RX12 9 "ClassMill" "tape" "[B") mw_k1_1) (fun _ h9 => h9) rfl dX12_putNumber_20 ?_
  refine lv_aload_n hx hb dX12_putNumber_23 rfl (lv_at hl 1 rfl) ?_
  refine va_get (D := (dC, dI)) (ci := 12) (v := .int 18) (C := RX12) (T := TX12) (N := 11) hx hb hts uV_k1_X12 hown hK hP 0 rfl rfl 1 (by decide) (hts (.fieldLink RX12 73 "ClassMill" "taped" "I") mw_k1_0) (fun _ h9 => h9) rfl dX12_putNumber_24 ?_
  refine lv_iload_n hx hb dX12_putNumber_27 rfl (lv_at hl 2 rfl) ?_
  refine lv_iload_n hx hb dX12_putNumber_28 rfl (lv_at hl 0 rfl) ?_
  refine lv_ishr hx hb dX12_putNumber_29 ?_
  refine lv_topi (fun y_15 ey_15 => ?_)
  obtain ⟨y_16, ey_16⟩ : ∃ zy : Int32, (y_15 : Int32).toInt8.toInt32 = zy := ⟨_, rfl⟩
  refine lv_i2b hx hb dX12_putNumber_30 ey_16 ?_
  refine va_bast hx hb hK hP hD hS 1 0 rfl rfl (i := 18) (x := y_16) (by unfold vp_in; decide) dX12_putNumber_31 ?_
  clear hP hD hS
  intro H locs hP hD hS
  obtain ⟨f_17, ef_17⟩ : ∃ zf : Nat → Int32, zf = upd f_11 (18 : Int32).toNatClampNeg (vp_nar .byte y_16) := ⟨_, rfl⟩
  rw [← ef_17] at hP hD
  replace hP : va_P (dC, dI) vwCl [(h0, .inr (12, [.ref qo1, .int 18, .ref qo2, .ref qo3, .ref qo4, .ref qo5, .ref qo6, .int 0, .ref qo7, .ref qo8, .ref qo9])), (qo1, .inl (co1, 6000, .inl f_17))] H := hP
  replace hD : va_D A [(h0, .inr (12, [.ref qo1, .int 18, .ref qo2, .ref qo3, .ref qo4, .ref qo5, .ref qo6, .int 0, .ref qo7, .ref qo8, .ref qo9])), (qo1, .inl (co1, 6000, .inl f_17))] := hD
  refine lv_aload_n hx hb dX12_putNumber_32 rfl (lv_at hl 1 rfl) ?_
  refine lv_dup hx hb dX12_putNumber_33 rfl ?_
  refine va_get (D := (dC, dI)) (ci := 12) (v := .int 18) (C := RX12) (T := TX12) (N := 11) hx hb hts uV_k1_X12 hown hK hP 0 rfl rfl 1 (by decide) (hts (.fieldLink RX12 73 "ClassMill" "taped" "I") mw_k1_0) (fun _ h9 => h9) rfl dX12_putNumber_34 ?_
  refine lv_iconst (v := 1) hx hb dX12_putNumber_37 (by decide) ?_
  refine lv_iadd hx hb dX12_putNumber_38 ?_
  refine lv_topi (fun y_18 ey_18 => ?_)
  obtain rfl : y_18 = 19 := ey_18.trans (by decide)
  refine va_put (D := (dC, dI)) (ci := 12) (v := .int 19) (ty := .int) (C := RX12) (T := TX12) (N := 11) hx hb hts uV_k1_X12 tyX12 tyX12_ok nmX12 hown hK hP hD hS 0 rfl rfl 1 (by decide) (hts (.fieldLink RX12 73 "ClassMill" "taped" "I") mw_k1_0) (fun _ h9 => h9) rfl (by decide +kernel) rfl rfl (Nat.le_of_ble_eq_true rfl) dX12_putNumber_39 ?_
  clear hP hD hS
  intro H locs hP hD hS
  replace hP : va_P (dC, dI) vwCl [(h0, .inr (12, [.ref qo1, .int 19, .ref qo2, .ref qo3, .ref qo4, .ref qo5, .ref qo6, .int 0, .ref qo7, .ref qo8, .ref qo9])), (qo1, .inl (co1, 6000, .inl f_17))] H := hP
  replace hD : va_D A [(h0, .inr (12, [.ref qo1, .int 19, .ref qo2, .ref qo3, .ref qo4, .ref qo5, .ref qo6, .int 0, .ref qo7, .ref qo8, .ref qo9])), (qo1, .inl (co1, 6000, .inl f_17))] := hD
  refine lv_iinc (v := 0) (lv' := [(2, .int 0), (0, .ref h0), (1, .int a1)]) hx hb dX12_putNumber_42 hl (k := 0) rfl (by decide) (by decide) rfl (fun ls hl => ?_)
  refine lv_goto (tgt := 3) hx hb dX12_putNumber_45 (by decide) ?_
  refine lv_iload_n hx hb dX12_putNumber_3 rfl (lv_at hl 0 rfl) ?_
  refine lv_if_lt (tgt := 48) hx hb dX12_putNumber_4 (by decide) (fun c_19 => (show False by revert c_19; decide).elim) (fun c_19 => ?_)
  refine lv_aload_n hx hb dX12_putNumber_7 rfl (lv_at hl 1 rfl) ?_
  refine va_get (D := (dC, dI)) (ci := 12) (v := .int 19) (C := RX12) (T := TX12) (N := 11) hx hb hts uV_k1_X12 hown hK hP 0 rfl rfl 1 (by decide) (hts (.fieldLink RX12 73 "ClassMill" "taped" "I") mw_k1_0) (fun _ h9 => h9) rfl dX12_putNumber_8 ?_
  refine lv_aload_n hx hb dX12_putNumber_11 rfl (lv_at hl 1 rfl) ?_
  refine va_get (D := (dC, dI)) (ci := 12) (v := .ref qo1) (C := RX12) (T := TX12) (N := 11) hx hb hts uV_k1_X12 hown hK hP 0 rfl rfl 0 (by decide) (hts (.fieldLink RX12 9 "ClassMill" "tape" "[B") mw_k1_1) (fun _ h9 => h9) rfl dX12_putNumber_12 ?_
  refine va_alen (v := 6000) hx hb hK hP 1 0 rfl rfl rfl dX12_putNumber_15 ?_
  refine lv_icmp_ge (tgt := 42) hx hb dX12_putNumber_16 (by decide) (fun c_20 => (show False by revert c_20; decide).elim) (fun c_20 => ?_)
  refine lv_aload_n hx hb dX12_putNumber_19 rfl (lv_at hl 1 rfl) ?_
  refine va_get (D := (dC, dI)) (ci := 12) (v := .ref qo1) (C := RX12) (T := TX12) (N := 11) hx hb hts uV_k1_X12 hown hK hP 0 rfl rfl 0 (by decide) (hts (.fieldLink RX12 9 "ClassMill" "tape" "[B") mw_k1_1) (fun _ h9 => h9) rfl dX12_putNumber_20 ?_
  refine lv_aload_n hx hb dX12_putNumber_23 rfl (lv_at hl 1 rfl) ?_
  refine va_get (D := (dC, dI)) (ci := 12) (v := .int 19) (C := RX12) (T := TX12) (N := 11) hx hb hts uV_k1_X12 hown hK hP 0 rfl rfl 1 (by decide) (hts (.fieldLink RX12 73 "ClassMill" "taped" "I") mw_k1_0) (fun _ h9 => h9) rfl dX12_putNumber_24 ?_
  refine lv_iload_n hx hb dX12_putNumber_27 rfl (lv_at hl 2 rfl) ?_
  refine lv_iload_n hx hb dX12_putNumber_28 rfl (lv_at hl 0 rfl) ?_
  refine lv_ishr hx hb dX12_putNumber_29 ?_
  refine lv_topi (fun y_21 ey_21 => ?_)
  obtain ⟨y_22, ey_22⟩ : ∃ zy : Int32, (y_21 : Int32).toInt8.toInt32 = zy := ⟨_, rfl⟩
  refine lv_i2b hx hb dX12_putNumber_30 ey_22 ?_
  refine va_bast hx hb hK hP hD hS 1 0 rfl rfl (i := 19) (x := y_22) (by unfold vp_in; decide) dX12_putNumber_31 ?_
  clear hP hD hS
  intro H locs hP hD hS
  obtain ⟨f_23, ef_23⟩ : ∃ zf : Nat → Int32, zf = upd f_17 (19 : Int32).toNatClampNeg (vp_nar .byte y_22) := ⟨_, rfl⟩
  rw [← ef_23] at hP hD
  replace hP : va_P (dC, dI) vwCl [(h0, .inr (12, [.ref qo1, .int 19, .ref qo2, .ref qo3, .ref qo4, .ref qo5, .ref qo6, .int 0, .ref qo7, .ref qo8, .ref qo9])), (qo1, .inl (co1, 6000, .inl f_23))] H := hP
  replace hD : va_D A [(h0, .inr (12, [.ref qo1, .int 19, .ref qo2, .ref qo3, .ref qo4, .ref qo5, .ref qo6, .int 0, .ref qo7, .ref qo8, .ref qo9])), (qo1, .inl (co1, 6000, .inl f_23))] := hD
  refine lv_aload_n hx hb dX12_putNumber_32 rfl (lv_at hl 1 rfl) ?_
  refine lv_dup hx hb dX12_putNumber_33 rfl ?_
  refine va_get (D := (dC, dI)) (ci := 12) (v := .int 19) (C := RX12) (T := TX12) (N := 11) hx hb hts uV_k1_X12 hown hK hP 0 rfl rfl 1 (by decide) (hts (.fieldLink RX12 73 "ClassMill" "taped" "I") mw_k1_0) (fun _ h9 => h9) rfl dX12_putNumber_34 ?_
  refine lv_iconst (v := 1) hx hb dX12_putNumber_37 (by decide) ?_
  refine lv_iadd hx hb dX12_putNumber_38 ?_
  refine lv_topi (fun y_24 ey_24 => ?_)
  obtain rfl : y_24 = 20 := ey_24.trans (by decide)
  refine va_put (D := (dC, dI)) (ci := 12) (v := .int 20) (ty := .int) (C := RX12) (T := TX12) (N := 11) hx hb hts uV_k1_X12 tyX12 tyX12_ok nmX12 hown hK hP hD hS 0 rfl rfl 1 (by decide) (hts (.fieldLink RX12 73 "ClassMill" "taped" "I") mw_k1_0) (fun _ h9 => h9) rfl (by decide +kernel) rfl rfl (Nat.le_of_ble_eq_true rfl) dX12_putNumber_39 ?_
  clear hP hD hS
  intro H locs hP hD hS
  replace hP : va_P (dC, dI) vwCl [(h0, .inr (12, [.ref qo1, .int 20, .ref qo2, .ref qo3, .ref qo4, .ref qo5, .ref qo6, .int 0, .ref qo7, .ref qo8, .ref qo9])), (qo1, .inl (co1, 6000, .inl f_23))] H := hP
  replace hD : va_D A [(h0, .inr (12, [.ref qo1, .int 20, .ref qo2, .ref qo3, .ref qo4, .ref qo5, .ref qo6, .int 0, .ref qo7, .ref qo8, .ref qo9])), (qo1, .inl (co1, 6000, .inl f_23))] := hD
  refine lv_iinc (v := (-8)) (lv' := [(2, .int (-8)), (0, .ref h0), (1, .int a1)]) hx hb dX12_putNumber_42 hl (k := 0) rfl (by decide) (by decide) rfl (fun ls hl => ?_)
  refine lv_goto (tgt := 3) hx hb dX12_putNumber_45 (by decide) ?_
  refine lv_iload_n hx hb dX12_putNumber_3 rfl (lv_at hl 0 rfl) ?_
  refine lv_if_lt (tgt := 48) hx hb dX12_putNumber_4 (by decide) (fun c_25 => ?_) (fun c_25 => (show False by revert c_25; decide).elim)
  have hP9 := hP.sub (ws' := [(h0, .inr (12, [.ref qo1, .int 20, .ref qo2, .ref qo3, .ref qo4, .ref qo5, .ref qo6, .int 0, .ref qo7, .ref qo8, .ref qo9])), (qo1, .inl (co1, 6000, .inl f_23))]) [0, 1] rfl
  have hD9 := hD.sub (ws' := [(h0, .inr (12, [.ref qo1, .int 20, .ref qo2, .ref qo3, .ref qo4, .ref qo5, .ref qo6, .int 0, .ref qo7, .ref qo8, .ref qo9])), (qo1, .inl (co1, 6000, .inl f_23))]) [0, 1] (by decide) rfl
  have hK9 := hK.sub (tys' := [(co1, .byte)]) [0] rfl
  exact W.vret hx hb hr (fun t ht hW => ⟨⟨(f_23), rfl, trivial, by rw [ht]; exact hP9, va_K.moved hW.alike hK9, hD9⟩, hS.F ht⟩) hS.2.2 dX12_putNumber_48
set_option maxHeartbeats 4000000 in
set_option maxRecDepth 100000 in
/-- kk_feed -/
theorem kk_feed (l : Launch) (dC : Nat → ClassId) (dI : Nat → Nat → Nat) (sz : Nat) (h0 : Nat) (a1 : Int32) (a2 : Int32) (a3 : Int32) (a4 : Int32) (a5 : Int32) (qo1 : Nat) (qo2 : Nat) (qo3 : Nat) (qo4 : Nat) (qo5 : Nat) (qo6 : Nat) (qo7 : Nat) (qo8 : Nat) (qo9 : Nat) (co1 : ClassId)  : Met l yX12_feed (.code yX12_feed cX12_feed 6 (some .int) :: VS_k1) ({ frames := 1, cells := 0, slots := 0, locals := 22 }) (va_Pc [.ref h0, .int a1, .int a2, .int a3, .int a4, .int a5] (fun U => U.heap.size = sz ∧ va_P (dC, dI) vwCl [(h0, .inr (12, [.ref qo1, .int 0, .ref qo2, .ref qo3, .ref qo4, .ref qo5, .ref qo6, .int 0, .ref qo7, .ref qo8, .ref qo9])), (qo1, .inl (co1, 6000, .inl (fun _ => 0)))] U.heap ∧ va_K (dC, dI) vwCl [(co1, .byte)] U ∧ va_D (fun _ => True) [(h0, .inr (12, [.ref qo1, .int 0, .ref qo2, .ref qo3, .ref qo4, .ref qo5, .ref qo6, .int 0, .ref qo7, .ref qo8, .ref qo9])), (qo1, .inl (co1, 6000, .inl (fun _ => 0)))])) (va_Qi (fun (r : Int32) (u : Unit) => match u with | () => r = 20) (fun (u : Unit) (t : State) => match u with | () => va_P (dC, dI) vwCl [] t.heap ∧ va_K (dC, dI) vwCl [] t ∧ va_D (va_A [(h0, .inr (12, [.ref qo1, .int 0, .ref qo2, .ref qo3, .ref qo4, .ref qo5, .ref qo6, .int 0, .ref qo7, .ref qo8, .ref qo9])), (qo1, .inl (co1, 6000, .inl (fun _ => 0)))] sz) []) (va_A [(h0, .inr (12, [.ref qo1, .int 0, .ref qo2, .ref qo3, .ref qo4, .ref qo5, .ref qo6, .int 0, .ref qo7, .ref qo8, .ref qo9])), (qo1, .inl (co1, 6000, .inl (fun _ => 0)))] sz)) 0 0 (va_A [(h0, .inr (12, [.ref qo1, .int 0, .ref qo2, .ref qo3, .ref qo4, .ref qo5, .ref qo6, .int 0, .ref qo7, .ref qo8, .ref qo9])), (qo1, .inl (co1, 6000, .inl (fun _ => 0)))] sz) := by
  refine Met.ofW (cc := cX12_feed) (maxL := 6) (ret := (some .int)) (by decide) rfl ?_
  intro p e s m args below meth c s₁ B hml hv
  obtain ⟨rfl, hsz, hP, hK, hD0⟩ := hv
  have hx := B.exec
  have hb := B.bytes
  have hr := B.returns
  have hts := atoms_spec (ws := (.code yX12_feed cX12_feed 6 (some .int) :: VS_k1)) B.pre
  replace hts := fun w (h : w ∈ VS_k1) => hts w (List.mem_cons_of_mem _ h)
  have hown : s.vm.findClass RX12 = some m.cls := findClass_of_methodNamed B.named
  have hlocks := B.notSynchronized
  subst hsz
  have hD := hD0.self (sz := s.heap.size)
  generalize hAe : va_A [(h0, .inr (12, [.ref qo1, .int 0, .ref qo2, .ref qo3, .ref qo4, .ref qo5, .ref qo6, .int 0, .ref qo7, .ref qo8, .ref qo9])), (qo1, .inl (co1, 6000, .inl (fun _ => 0)))] s.heap.size = A at hD  ⊢
  have hA : ∀ q : Nat, s.heap.size ≤ q → A q := fun q h => by rw [← hAe]; exact Or.inr h
  have hP : va_P (dC, dI) vwCl [(h0, .inr (12, [.ref qo1, .int 0, .ref qo2, .ref qo3, .ref qo4, .ref qo5, .ref qo6, .int 0, .ref qo7, .ref qo8, .ref qo9])), (qo1, .inl (co1, 6000, .inl (fun _ => 0)))] s.heap := hP
  have hl := lv_entry ([.ref h0, .int a1, .int a2, .int a3, .int a4, .int a5]) (n := 6) (Nat.le_of_ble_eq_true rfl)
  rw [lg_entry_eq]
  generalize (lg_sl ([.ref h0, .int a1, .int a2, .int a3, .int a4, .int a5]) ++ List.replicate (6 - (lg_sl ([.ref h0, .int a1, .int a2, .int a3, .int a4, .int a5])).length) Slot.unset).toArray = ls at hl ⊢
  have hl : lv_has ls 6 [(0, .ref h0), (1, .int a1), (2, .int a2), (3, .int a3), (4, .int a4), (5, .int a5)] := hl
  obtain ⟨H, hH⟩ : ∃ H : Heap, s.heap = H := ⟨_, rfl⟩
  rw [hH] at hP ⊢
  have hS : va_S A s.heap H [] := by rw [← hH]; exact va_S.rf
  obtain ⟨locs, hlo⟩ : ∃ locs : List Loc, locs = [] := ⟨_, rfl⟩
  rw [← hlo] at hS ⊢
  refine lv_aload_n hx hb dX12_feed_0 rfl (lv_at hl 0 rfl) ?_
  refine va_get (D := (dC, dI)) (ci := 12) (v := .int 0) (C := RX12) (T := TX12) (N := 11) hx hb hts uV_k1_X12 hown hK hP 0 rfl rfl 1 (by decide) (hts (.fieldLink RX12 73 "ClassMill" "taped" "I") mw_k1_0) (fun _ h9 => h9) rfl dX12_feed_1 ?_
  refine lv_bipush (v := 20) hx hb dX12_feed_4 (by decide) ?_
  refine lv_iadd hx hb dX12_feed_6 ?_
  refine lv_topi (fun y_1 ey_1 => ?_)
  obtain rfl : y_1 = 20 := ey_1.trans (by decide)
  refine lv_sipush (v := 6000) hx hb dX12_feed_7 (by decide) ?_
  refine lv_icmp_le (tgt := 15) hx hb dX12_feed_10 (by decide) (fun c_2 => ?_) (fun c_2 => (show False by revert c_2; decide).elim)
  refine lv_aload_n hx hb dX12_feed_15 rfl (lv_at hl 0 rfl) ?_
  refine lv_iload_n hx hb dX12_feed_16 rfl (lv_at hl 1 rfl) ?_
  have hPc := hP.sub (ws' := [(h0, .inr (12, [.ref qo1, .int 0, .ref qo2, .ref qo3, .ref qo4, .ref qo5, .ref qo6, .int 0, .ref qo7, .ref qo8, .ref qo9])), (qo1, .inl (co1, 6000, .inl (fun _ => 0)))]) [0, 1] rfl
  have hDc := hD.sub (ws' := [(h0, .inr (12, [.ref qo1, .int 0, .ref qo2, .ref qo3, .ref qo4, .ref qo5, .ref qo6, .int 0, .ref qo7, .ref qo8, .ref qo9])), (qo1, .inl (co1, 6000, .inl (fun _ => 0)))]) [0, 1] (by decide) rfl
  have hKc := hK.sub (tys' := [(co1, .byte)]) [0] rfl
  have hFc := va_free (wc := [(h0, .inr (12, [.ref qo1, .int 0, .ref qo2, .ref qo3, .ref qo4, .ref qo5, .ref qo6, .int 0, .ref qo7, .ref qo8, .ref qo9])), (qo1, .inl (co1, 6000, .inl (fun _ => 0)))]) hD hS hA [0, 1] rfl
  refine va_callv (va_runV (As := [.int a1]) (rest := []) ⟨hx, hb, hml, hown, hts⟩ (kk_putNumber0 l dC dI H.size h0 a1 qo1 qo2 qo3 qo4 qo5 qo6 qo7 qo8 qo9 co1 ((fun _ => 0))) (cwV 1 hts gv_k1_0 rfl rfl rfl (by decide +kernel) ⟨Nat.le_of_ble_eq_true rfl, Nat.le_of_ble_eq_true rfl⟩) ⟨fun a U g mk q => by obtain ⟨q0, q1, qP, qK, qD⟩ := q; exact ⟨q0, q1, qP, va_K.moved (u := U) (U := U.calling g mk a) (Vm.Alike.refl U.vm) qK, qD⟩, va_recv hKc hPc (ci := 12) (q0 := 0) rfl rfl, fun U hU hW => ⟨rfl, by rw [hU], by rw [hU]; exact hPc, va_K.moved hW.alike hKc, hDc.weaken (fun _ _ _ _ => trivial)⟩⟩ rfl rfl hl.1 rfl (lv_room (Nat.le_of_ble_eq_true rfl)) dX12_feed_17 ⟨Nat.le_of_ble_eq_true rfl, Nat.le_of_ble_eq_true rfl⟩) hS (fun q _ h => hFc q h) hFc ?_
  clear hS
  intro u t H1 locs ht hvm hw hB hz1 hk1 hS
  obtain ⟨f_3, rfl⟩ : ∃ z, z = u := ⟨_, rfl⟩
  obtain ⟨hP1, hK1, hD1⟩ := hB
  rw [ht] at hP1
  have hK1 := va_K.moved hvm.symm hK1
  try dsimp only at hw
  have hPD := va_join (wr := []) (w1 := [(h0, .inr (12, [.ref qo1, .int 4, .ref qo2, .ref qo3, .ref qo4, .ref qo5, .ref qo6, .int 0, .ref qo7, .ref qo8, .ref qo9])), (qo1, .inl (co1, 6000, .inl f_3))]) hP hD [0, 1] [] rfl rfl (by decide) (by decide) hk1 hFc hP1 hD1
  clear hP hD
  obtain ⟨hP, hD⟩ := hPD
  replace hK := (hK.sub (tys' := []) [] rfl).app hK1
  clear hPc hDc hKc hFc hP1 hK1 hD1 hz1 hk1 ht hvm
  generalize H1 = H at hP hS ⊢
  replace hP : va_P (dC, dI) vwCl [(h0, .inr (12, [.ref qo1, .int 4, .ref qo2, .ref qo3, .ref qo4, .ref qo5, .ref qo6, .int 0, .ref qo7, .ref qo8, .ref qo9])), (qo1, .inl (co1, 6000, .inl f_3))] H := hP
  replace hD : va_D A [(h0, .inr (12, [.ref qo1, .int 4, .ref qo2, .ref qo3, .ref qo4, .ref qo5, .ref qo6, .int 0, .ref qo7, .ref qo8, .ref qo9])), (qo1, .inl (co1, 6000, .inl f_3))] := hD
  replace hK : va_K (dC, dI) vwCl [(co1, .byte)] s := hK
  refine lv_aload_n hx hb dX12_feed_20 rfl (lv_at hl 0 rfl) ?_
  refine lv_iload_n hx hb dX12_feed_21 rfl (lv_at hl 2 rfl) ?_
  have hPc := hP.sub (ws' := [(h0, .inr (12, [.ref qo1, .int 4, .ref qo2, .ref qo3, .ref qo4, .ref qo5, .ref qo6, .int 0, .ref qo7, .ref qo8, .ref qo9])), (qo1, .inl (co1, 6000, .inl f_3))]) [0, 1] rfl
  have hDc := hD.sub (ws' := [(h0, .inr (12, [.ref qo1, .int 4, .ref qo2, .ref qo3, .ref qo4, .ref qo5, .ref qo6, .int 0, .ref qo7, .ref qo8, .ref qo9])), (qo1, .inl (co1, 6000, .inl f_3))]) [0, 1] (by decide) rfl
  have hKc := hK.sub (tys' := [(co1, .byte)]) [0] rfl
  have hFc := va_free (wc := [(h0, .inr (12, [.ref qo1, .int 4, .ref qo2, .ref qo3, .ref qo4, .ref qo5, .ref qo6, .int 0, .ref qo7, .ref qo8, .ref qo9])), (qo1, .inl (co1, 6000, .inl f_3))]) hD hS hA [0, 1] rfl
  refine va_callv (va_runV (As := [.int a2]) (rest := []) ⟨hx, hb, hml, hown, hts⟩ (kk_putNumber1 l dC dI H.size h0 a2 qo1 qo2 qo3 qo4 qo5 qo6 qo7 qo8 qo9 co1 f_3) (cwV 1 hts gv_k1_1 rfl rfl rfl (by decide +kernel) ⟨Nat.le_of_ble_eq_true rfl, Nat.le_of_ble_eq_true rfl⟩) ⟨fun a U g mk q => by obtain ⟨q0, q1, qP, qK, qD⟩ := q; exact ⟨q0, q1, qP, va_K.moved (u := U) (U := U.calling g mk a) (Vm.Alike.refl U.vm) qK, qD⟩, va_recv hKc hPc (ci := 12) (q0 := 0) rfl rfl, fun U hU hW => ⟨rfl, by rw [hU], by rw [hU]; exact hPc, va_K.moved hW.alike hKc, hDc.weaken (fun _ _ _ _ => trivial)⟩⟩ rfl rfl hl.1 rfl (lv_room (Nat.le_of_ble_eq_true rfl)) dX12_feed_22 ⟨Nat.le_of_ble_eq_true rfl, Nat.le_of_ble_eq_true rfl⟩) hS (fun q _ h => hFc q h) hFc ?_
  clear hS
  intro u t H1 locs ht hvm hw hB hz1 hk1 hS
  obtain ⟨f_4, rfl⟩ : ∃ z, z = u := ⟨_, rfl⟩
  obtain ⟨hP1, hK1, hD1⟩ := hB
  rw [ht] at hP1
  have hK1 := va_K.moved hvm.symm hK1
  try dsimp only at hw
  have hPD := va_join (wr := []) (w1 := [(h0, .inr (12, [.ref qo1, .int 8, .ref qo2, .ref qo3, .ref qo4, .ref qo5, .ref qo6, .int 0, .ref qo7, .ref qo8, .ref qo9])), (qo1, .inl (co1, 6000, .inl f_4))]) hP hD [0, 1] [] rfl rfl (by decide) (by decide) hk1 hFc hP1 hD1
  clear hP hD
  obtain ⟨hP, hD⟩ := hPD
  replace hK := (hK.sub (tys' := []) [] rfl).app hK1
  clear hPc hDc hKc hFc hP1 hK1 hD1 hz1 hk1 ht hvm
  generalize H1 = H at hP hS ⊢
  replace hP : va_P (dC, dI) vwCl [(h0, .inr (12, [.ref qo1, .int 8, .ref qo2, .ref qo3, .ref qo4, .ref qo5, .ref qo6, .int 0, .ref qo7, .ref qo8, .ref qo9])), (qo1, .inl (co1, 6000, .inl f_4))] H := hP
  replace hD : va_D A [(h0, .inr (12, [.ref qo1, .int 8, .ref qo2, .ref qo3, .ref qo4, .ref qo5, .ref qo6, .int 0, .ref qo7, .ref qo8, .ref qo9])), (qo1, .inl (co1, 6000, .inl f_4))] := hD
  replace hK : va_K (dC, dI) vwCl [(co1, .byte)] s := hK
  refine lv_aload_n hx hb dX12_feed_25 rfl (lv_at hl 0 rfl) ?_
  refine lv_iload_n hx hb dX12_feed_26 rfl (lv_at hl 3 rfl) ?_
  have hPc := hP.sub (ws' := [(h0, .inr (12, [.ref qo1, .int 8, .ref qo2, .ref qo3, .ref qo4, .ref qo5, .ref qo6, .int 0, .ref qo7, .ref qo8, .ref qo9])), (qo1, .inl (co1, 6000, .inl f_4))]) [0, 1] rfl
  have hDc := hD.sub (ws' := [(h0, .inr (12, [.ref qo1, .int 8, .ref qo2, .ref qo3, .ref qo4, .ref qo5, .ref qo6, .int 0, .ref qo7, .ref qo8, .ref qo9])), (qo1, .inl (co1, 6000, .inl f_4))]) [0, 1] (by decide) rfl
  have hKc := hK.sub (tys' := [(co1, .byte)]) [0] rfl
  have hFc := va_free (wc := [(h0, .inr (12, [.ref qo1, .int 8, .ref qo2, .ref qo3, .ref qo4, .ref qo5, .ref qo6, .int 0, .ref qo7, .ref qo8, .ref qo9])), (qo1, .inl (co1, 6000, .inl f_4))]) hD hS hA [0, 1] rfl
  refine va_callv (va_runV (As := [.int a3]) (rest := []) ⟨hx, hb, hml, hown, hts⟩ (kk_putNumber2 l dC dI H.size h0 a3 qo1 qo2 qo3 qo4 qo5 qo6 qo7 qo8 qo9 co1 f_4) (cwV 1 hts gv_k1_2 rfl rfl rfl (by decide +kernel) ⟨Nat.le_of_ble_eq_true rfl, Nat.le_of_ble_eq_true rfl⟩) ⟨fun a U g mk q => by obtain ⟨q0, q1, qP, qK, qD⟩ := q; exact ⟨q0, q1, qP, va_K.moved (u := U) (U := U.calling g mk a) (Vm.Alike.refl U.vm) qK, qD⟩, va_recv hKc hPc (ci := 12) (q0 := 0) rfl rfl, fun U hU hW => ⟨rfl, by rw [hU], by rw [hU]; exact hPc, va_K.moved hW.alike hKc, hDc.weaken (fun _ _ _ _ => trivial)⟩⟩ rfl rfl hl.1 rfl (lv_room (Nat.le_of_ble_eq_true rfl)) dX12_feed_27 ⟨Nat.le_of_ble_eq_true rfl, Nat.le_of_ble_eq_true rfl⟩) hS (fun q _ h => hFc q h) hFc ?_
  clear hS
  intro u t H1 locs ht hvm hw hB hz1 hk1 hS
  obtain ⟨f_5, rfl⟩ : ∃ z, z = u := ⟨_, rfl⟩
  obtain ⟨hP1, hK1, hD1⟩ := hB
  rw [ht] at hP1
  have hK1 := va_K.moved hvm.symm hK1
  try dsimp only at hw
  have hPD := va_join (wr := []) (w1 := [(h0, .inr (12, [.ref qo1, .int 12, .ref qo2, .ref qo3, .ref qo4, .ref qo5, .ref qo6, .int 0, .ref qo7, .ref qo8, .ref qo9])), (qo1, .inl (co1, 6000, .inl f_5))]) hP hD [0, 1] [] rfl rfl (by decide) (by decide) hk1 hFc hP1 hD1
  clear hP hD
  obtain ⟨hP, hD⟩ := hPD
  replace hK := (hK.sub (tys' := []) [] rfl).app hK1
  clear hPc hDc hKc hFc hP1 hK1 hD1 hz1 hk1 ht hvm
  generalize H1 = H at hP hS ⊢
  replace hP : va_P (dC, dI) vwCl [(h0, .inr (12, [.ref qo1, .int 12, .ref qo2, .ref qo3, .ref qo4, .ref qo5, .ref qo6, .int 0, .ref qo7, .ref qo8, .ref qo9])), (qo1, .inl (co1, 6000, .inl f_5))] H := hP
  replace hD : va_D A [(h0, .inr (12, [.ref qo1, .int 12, .ref qo2, .ref qo3, .ref qo4, .ref qo5, .ref qo6, .int 0, .ref qo7, .ref qo8, .ref qo9])), (qo1, .inl (co1, 6000, .inl f_5))] := hD
  replace hK : va_K (dC, dI) vwCl [(co1, .byte)] s := hK
  refine lv_aload_n hx hb dX12_feed_30 rfl (lv_at hl 0 rfl) ?_
  refine lv_iload hx hb dX12_feed_31 (lv_at hl 4 rfl) ?_
  have hPc := hP.sub (ws' := [(h0, .inr (12, [.ref qo1, .int 12, .ref qo2, .ref qo3, .ref qo4, .ref qo5, .ref qo6, .int 0, .ref qo7, .ref qo8, .ref qo9])), (qo1, .inl (co1, 6000, .inl f_5))]) [0, 1] rfl
  have hDc := hD.sub (ws' := [(h0, .inr (12, [.ref qo1, .int 12, .ref qo2, .ref qo3, .ref qo4, .ref qo5, .ref qo6, .int 0, .ref qo7, .ref qo8, .ref qo9])), (qo1, .inl (co1, 6000, .inl f_5))]) [0, 1] (by decide) rfl
  have hKc := hK.sub (tys' := [(co1, .byte)]) [0] rfl
  have hFc := va_free (wc := [(h0, .inr (12, [.ref qo1, .int 12, .ref qo2, .ref qo3, .ref qo4, .ref qo5, .ref qo6, .int 0, .ref qo7, .ref qo8, .ref qo9])), (qo1, .inl (co1, 6000, .inl f_5))]) hD hS hA [0, 1] rfl
  refine va_callv (va_runV (As := [.int a4]) (rest := []) ⟨hx, hb, hml, hown, hts⟩ (kk_putNumber3 l dC dI H.size h0 a4 qo1 qo2 qo3 qo4 qo5 qo6 qo7 qo8 qo9 co1 f_5) (cwV 1 hts gv_k1_3 rfl rfl rfl (by decide +kernel) ⟨Nat.le_of_ble_eq_true rfl, Nat.le_of_ble_eq_true rfl⟩) ⟨fun a U g mk q => by obtain ⟨q0, q1, qP, qK, qD⟩ := q; exact ⟨q0, q1, qP, va_K.moved (u := U) (U := U.calling g mk a) (Vm.Alike.refl U.vm) qK, qD⟩, va_recv hKc hPc (ci := 12) (q0 := 0) rfl rfl, fun U hU hW => ⟨rfl, by rw [hU], by rw [hU]; exact hPc, va_K.moved hW.alike hKc, hDc.weaken (fun _ _ _ _ => trivial)⟩⟩ rfl rfl hl.1 rfl (lv_room (Nat.le_of_ble_eq_true rfl)) dX12_feed_33 ⟨Nat.le_of_ble_eq_true rfl, Nat.le_of_ble_eq_true rfl⟩) hS (fun q _ h => hFc q h) hFc ?_
  clear hS
  intro u t H1 locs ht hvm hw hB hz1 hk1 hS
  obtain ⟨f_6, rfl⟩ : ∃ z, z = u := ⟨_, rfl⟩
  obtain ⟨hP1, hK1, hD1⟩ := hB
  rw [ht] at hP1
  have hK1 := va_K.moved hvm.symm hK1
  try dsimp only at hw
  have hPD := va_join (wr := []) (w1 := [(h0, .inr (12, [.ref qo1, .int 16, .ref qo2, .ref qo3, .ref qo4, .ref qo5, .ref qo6, .int 0, .ref qo7, .ref qo8, .ref qo9])), (qo1, .inl (co1, 6000, .inl f_6))]) hP hD [0, 1] [] rfl rfl (by decide) (by decide) hk1 hFc hP1 hD1
  clear hP hD
  obtain ⟨hP, hD⟩ := hPD
  replace hK := (hK.sub (tys' := []) [] rfl).app hK1
  clear hPc hDc hKc hFc hP1 hK1 hD1 hz1 hk1 ht hvm
  generalize H1 = H at hP hS ⊢
  replace hP : va_P (dC, dI) vwCl [(h0, .inr (12, [.ref qo1, .int 16, .ref qo2, .ref qo3, .ref qo4, .ref qo5, .ref qo6, .int 0, .ref qo7, .ref qo8, .ref qo9])), (qo1, .inl (co1, 6000, .inl f_6))] H := hP
  replace hD : va_D A [(h0, .inr (12, [.ref qo1, .int 16, .ref qo2, .ref qo3, .ref qo4, .ref qo5, .ref qo6, .int 0, .ref qo7, .ref qo8, .ref qo9])), (qo1, .inl (co1, 6000, .inl f_6))] := hD
  replace hK : va_K (dC, dI) vwCl [(co1, .byte)] s := hK
  refine lv_aload_n hx hb dX12_feed_36 rfl (lv_at hl 0 rfl) ?_
  refine lv_iload hx hb dX12_feed_37 (lv_at hl 5 rfl) ?_
  have hPc := hP.sub (ws' := [(h0, .inr (12, [.ref qo1, .int 16, .ref qo2, .ref qo3, .ref qo4, .ref qo5, .ref qo6, .int 0, .ref qo7, .ref qo8, .ref qo9])), (qo1, .inl (co1, 6000, .inl f_6))]) [0, 1] rfl
  have hDc := hD.sub (ws' := [(h0, .inr (12, [.ref qo1, .int 16, .ref qo2, .ref qo3, .ref qo4, .ref qo5, .ref qo6, .int 0, .ref qo7, .ref qo8, .ref qo9])), (qo1, .inl (co1, 6000, .inl f_6))]) [0, 1] (by decide) rfl
  have hKc := hK.sub (tys' := [(co1, .byte)]) [0] rfl
  have hFc := va_free (wc := [(h0, .inr (12, [.ref qo1, .int 16, .ref qo2, .ref qo3, .ref qo4, .ref qo5, .ref qo6, .int 0, .ref qo7, .ref qo8, .ref qo9])), (qo1, .inl (co1, 6000, .inl f_6))]) hD hS hA [0, 1] rfl
  refine va_callv (va_runV (As := [.int a5]) (rest := []) ⟨hx, hb, hml, hown, hts⟩ (kk_putNumber4 l dC dI H.size h0 a5 qo1 qo2 qo3 qo4 qo5 qo6 qo7 qo8 qo9 co1 f_6) (cwV 1 hts gv_k1_4 rfl rfl rfl (by decide +kernel) ⟨Nat.le_of_ble_eq_true rfl, Nat.le_of_ble_eq_true rfl⟩) ⟨fun a U g mk q => by obtain ⟨q0, q1, qP, qK, qD⟩ := q; exact ⟨q0, q1, qP, va_K.moved (u := U) (U := U.calling g mk a) (Vm.Alike.refl U.vm) qK, qD⟩, va_recv hKc hPc (ci := 12) (q0 := 0) rfl rfl, fun U hU hW => ⟨rfl, by rw [hU], by rw [hU]; exact hPc, va_K.moved hW.alike hKc, hDc.weaken (fun _ _ _ _ => trivial)⟩⟩ rfl rfl hl.1 rfl (lv_room (Nat.le_of_ble_eq_true rfl)) dX12_feed_39 ⟨Nat.le_of_ble_eq_true rfl, Nat.le_of_ble_eq_true rfl⟩) hS (fun q _ h => hFc q h) hFc ?_
  clear hS
  intro u t H1 locs ht hvm hw hB hz1 hk1 hS
  obtain ⟨f_7, rfl⟩ : ∃ z, z = u := ⟨_, rfl⟩
  obtain ⟨hP1, hK1, hD1⟩ := hB
  rw [ht] at hP1
  have hK1 := va_K.moved hvm.symm hK1
  try dsimp only at hw
  have hPD := va_join (wr := []) (w1 := [(h0, .inr (12, [.ref qo1, .int 20, .ref qo2, .ref qo3, .ref qo4, .ref qo5, .ref qo6, .int 0, .ref qo7, .ref qo8, .ref qo9])), (qo1, .inl (co1, 6000, .inl f_7))]) hP hD [0, 1] [] rfl rfl (by decide) (by decide) hk1 hFc hP1 hD1
  clear hP hD
  obtain ⟨hP, hD⟩ := hPD
  replace hK := (hK.sub (tys' := []) [] rfl).app hK1
  clear hPc hDc hKc hFc hP1 hK1 hD1 hz1 hk1 ht hvm
  generalize H1 = H at hP hS ⊢
  replace hP : va_P (dC, dI) vwCl [(h0, .inr (12, [.ref qo1, .int 20, .ref qo2, .ref qo3, .ref qo4, .ref qo5, .ref qo6, .int 0, .ref qo7, .ref qo8, .ref qo9])), (qo1, .inl (co1, 6000, .inl f_7))] H := hP
  replace hD : va_D A [(h0, .inr (12, [.ref qo1, .int 20, .ref qo2, .ref qo3, .ref qo4, .ref qo5, .ref qo6, .int 0, .ref qo7, .ref qo8, .ref qo9])), (qo1, .inl (co1, 6000, .inl f_7))] := hD
  replace hK : va_K (dC, dI) vwCl [(co1, .byte)] s := hK
  refine lv_aload_n hx hb dX12_feed_42 rfl (lv_at hl 0 rfl) ?_
  refine va_get (D := (dC, dI)) (ci := 12) (v := .int 20) (C := RX12) (T := TX12) (N := 11) hx hb hts uV_k1_X12 hown hK hP 0 rfl rfl 1 (by decide) (hts (.fieldLink RX12 73 "ClassMill" "taped" "I") mw_k1_0) (fun _ h9 => h9) rfl dX12_feed_43 ?_
  have hP9 := hP.sub (ws' := []) [] rfl
  have hD9 := hD.sub (ws' := []) [] (by decide) rfl
  have hK9 := hK.sub (tys' := []) [] rfl
  exact W.iret hx hb hr (fun t ht hW => ⟨⟨(20), (), rfl, rfl, by rw [ht]; exact hP9, va_K.moved hW.alike hK9, hD9⟩, hS.F ht⟩) hS.2.2 dX12_feed_46
theorem lf_end_48 (a1 : Int32) (c_1 : a1 < 0) : (0 : Int32) = an_end a1 := by
  first | rfl | (subst_vars; rfl) | (simp_all [an_end]; done) | (subst_vars; simp_all [an_end]; done) | (unfold an_end; (repeat' split) <;> first | rfl | (exfalso; simp_all; done))
theorem lf_end_49 (a1 : Int32) (c_1 : ¬ a1 < 0) (c_2 : a1 ≤ 0) : (1 : Int32) = an_end a1 := by
  first | rfl | (subst_vars; rfl) | (simp_all [an_end]; done) | (subst_vars; simp_all [an_end]; done) | (unfold an_end; (repeat' split) <;> first | rfl | (exfalso; simp_all; done))
theorem lf_end_50 (a1 : Int32) (c_1 : ¬ a1 < 0) (c_2 : ¬ a1 ≤ 0) : (0 : Int32) = an_end a1 := by
  first | rfl | (subst_vars; rfl) | (simp_all [an_end]; done) | (subst_vars; simp_all [an_end]; done) | (unfold an_end; (repeat' split) <;> first | rfl | (exfalso; simp_all; done))
set_option maxHeartbeats 4000000 in
set_option maxRecDepth 100000 in
/-- kk_end -/
theorem kk_end (l : Launch) (dC : Nat → ClassId) (dI : Nat → Nat → Nat) (sz : Nat) (h0 : Nat) (a1 : Int32) (qo1 : Nat) (qo2 : Nat) (qo3 : Nat) (qo4 : Nat) (qo5 : Nat) (qo6 : Nat) (qo7 : Nat) (qo8 : Nat) (qo9 : Nat)  : Met l yX12_end (.code yX12_end cX12_end 2 (some .boolean) :: VS_k1) ({ frames := 0, cells := 0, slots := 0, locals := 0 }) (va_Pc [.ref h0, .int a1] (fun U => U.heap.size = sz ∧ va_P (dC, dI) vwCl [(h0, .inr (12, [.ref qo1, .int 0, .ref qo2, .ref qo3, .ref qo4, .ref qo5, .ref qo6, .int 0, .ref qo7, .ref qo8, .ref qo9]))] U.heap ∧ va_K (dC, dI) vwCl [] U ∧ va_D (fun _ => True) [(h0, .inr (12, [.ref qo1, .int 0, .ref qo2, .ref qo3, .ref qo4, .ref qo5, .ref qo6, .int 0, .ref qo7, .ref qo8, .ref qo9]))])) (va_Qi (fun (r : Int32) (u : Unit) => match u with | () => r = an_end a1) (fun (u : Unit) (t : State) => match u with | () => va_P (dC, dI) vwCl [] t.heap ∧ va_K (dC, dI) vwCl [] t ∧ va_D (va_A [(h0, .inr (12, [.ref qo1, .int 0, .ref qo2, .ref qo3, .ref qo4, .ref qo5, .ref qo6, .int 0, .ref qo7, .ref qo8, .ref qo9]))] sz) []) (va_A [(h0, .inr (12, [.ref qo1, .int 0, .ref qo2, .ref qo3, .ref qo4, .ref qo5, .ref qo6, .int 0, .ref qo7, .ref qo8, .ref qo9]))] sz)) 0 0 (va_A [(h0, .inr (12, [.ref qo1, .int 0, .ref qo2, .ref qo3, .ref qo4, .ref qo5, .ref qo6, .int 0, .ref qo7, .ref qo8, .ref qo9]))] sz) := by
  refine Met.ofW (cc := cX12_end) (maxL := 2) (ret := (some .boolean)) (by decide) rfl ?_
  intro p e s m args below meth c s₁ B hml hv
  obtain ⟨rfl, hsz, hP, hK, hD0⟩ := hv
  have hx := B.exec
  have hb := B.bytes
  have hr := B.returns
  have hts := atoms_spec (ws := (.code yX12_end cX12_end 2 (some .boolean) :: VS_k1)) B.pre
  replace hts := fun w (h : w ∈ VS_k1) => hts w (List.mem_cons_of_mem _ h)
  have hown : s.vm.findClass RX12 = some m.cls := findClass_of_methodNamed B.named
  have hlocks := B.notSynchronized
  subst hsz
  have hD := hD0.self (sz := s.heap.size)
  generalize hAe : va_A [(h0, .inr (12, [.ref qo1, .int 0, .ref qo2, .ref qo3, .ref qo4, .ref qo5, .ref qo6, .int 0, .ref qo7, .ref qo8, .ref qo9]))] s.heap.size = A at hD  ⊢
  have hA : ∀ q : Nat, s.heap.size ≤ q → A q := fun q h => by rw [← hAe]; exact Or.inr h
  have hP : va_P (dC, dI) vwCl [(h0, .inr (12, [.ref qo1, .int 0, .ref qo2, .ref qo3, .ref qo4, .ref qo5, .ref qo6, .int 0, .ref qo7, .ref qo8, .ref qo9]))] s.heap := hP
  have hl := lv_entry ([.ref h0, .int a1]) (n := 2) (Nat.le_of_ble_eq_true rfl)
  rw [lg_entry_eq]
  generalize (lg_sl ([.ref h0, .int a1]) ++ List.replicate (2 - (lg_sl ([.ref h0, .int a1])).length) Slot.unset).toArray = ls at hl ⊢
  have hl : lv_has ls 2 [(0, .ref h0), (1, .int a1)] := hl
  obtain ⟨H, hH⟩ : ∃ H : Heap, s.heap = H := ⟨_, rfl⟩
  rw [hH] at hP ⊢
  have hS : va_S A s.heap H [] := by rw [← hH]; exact va_S.rf
  obtain ⟨locs, hlo⟩ : ∃ locs : List Loc, locs = [] := ⟨_, rfl⟩
  rw [← hlo] at hS ⊢
  refine lv_iload_n hx hb dX12_end_0 rfl (lv_at hl 1 rfl) ?_
  refine lv_if_lt (tgt := 12) hx hb dX12_end_1 (by decide) (fun c_1 => ?_) (fun c_1 => ?_)
  · have c_1_ := c_1
    refine lv_iconst (v := 0) hx hb dX12_end_12 (by decide) ?_
    have hP9 := hP.sub (ws' := []) [] rfl
    have hD9 := hD.sub (ws' := []) [] (by decide) rfl
    have hK9 := hK.sub (tys' := []) [] rfl
    exact W.zret hx hb hr (by decide) (fun t ht hW => ⟨⟨(0), (), rfl, lf_end_48 a1 c_1, by rw [ht]; exact hP9, va_K.moved hW.alike hK9, hD9⟩, hS.F ht⟩) hS.2.2 dX12_end_13
  · have c_1_ := c_1
    refine lv_iload_n hx hb dX12_end_4 rfl (lv_at hl 1 rfl) ?_
    refine lv_aload_n hx hb dX12_end_5 rfl (lv_at hl 0 rfl) ?_
    refine va_get (D := (dC, dI)) (ci := 12) (v := .int 0) (C := RX12) (T := TX12) (N := 11) hx hb hts uV_k1_X12 hown hK hP 0 rfl rfl 1 (by decide) (hts (.fieldLink RX12 73 "ClassMill" "taped" "I") mw_k1_0) (fun _ h9 => h9) rfl dX12_end_6 ?_
    refine lv_icmp_le (tgt := 14) hx hb dX12_end_9 (by decide) (fun c_2 => ?_) (fun c_2 => ?_)
    · have c_2_ := c_2
      refine lv_aload_n hx hb dX12_end_14 rfl (lv_at hl 0 rfl) ?_
      refine lv_iload_n hx hb dX12_end_15 rfl (lv_at hl 1 rfl) ?_
      refine va_put (D := (dC, dI)) (ci := 12) (v := .int a1) (ty := .int) (C := RX12) (T := TX12) (N := 11) hx hb hts uV_k1_X12 tyX12 tyX12_ok nmX12 hown hK hP hD hS 0 rfl rfl 1 (by decide) (hts (.fieldLink RX12 73 "ClassMill" "taped" "I") mw_k1_0) (fun _ h9 => h9) rfl (by decide +kernel) rfl rfl (Nat.le_of_ble_eq_true rfl) dX12_end_16 ?_
      clear hP hD hS
      intro H locs hP hD hS
      replace hP : va_P (dC, dI) vwCl [(h0, .inr (12, [.ref qo1, .int a1, .ref qo2, .ref qo3, .ref qo4, .ref qo5, .ref qo6, .int 0, .ref qo7, .ref qo8, .ref qo9]))] H := hP
      replace hD : va_D A [(h0, .inr (12, [.ref qo1, .int a1, .ref qo2, .ref qo3, .ref qo4, .ref qo5, .ref qo6, .int 0, .ref qo7, .ref qo8, .ref qo9]))] := hD
      refine lv_iconst (v := 1) hx hb dX12_end_19 (by decide) ?_
      have hP9 := hP.sub (ws' := []) [] rfl
      have hD9 := hD.sub (ws' := []) [] (by decide) rfl
      have hK9 := hK.sub (tys' := []) [] rfl
      exact W.zret hx hb hr (by decide) (fun t ht hW => ⟨⟨(1), (), rfl, lf_end_49 a1 c_1 c_2, by rw [ht]; exact hP9, va_K.moved hW.alike hK9, hD9⟩, hS.F ht⟩) hS.2.2 dX12_end_20
    · have c_2_ := c_2
      refine lv_iconst (v := 0) hx hb dX12_end_12 (by decide) ?_
      have hP9 := hP.sub (ws' := []) [] rfl
      have hD9 := hD.sub (ws' := []) [] (by decide) rfl
      have hK9 := hK.sub (tys' := []) [] rfl
      exact W.zret hx hb hr (by decide) (fun t ht hW => ⟨⟨(0), (), rfl, lf_end_50 a1 c_1 c_2, by rw [ht]; exact hP9, va_K.moved hW.alike hK9, hD9⟩, hS.F ht⟩) hS.2.2 dX12_end_13
theorem lf_fault_51 (a1 : Int32) (c_1 : ¬ a1 = 0) (c_2 : ¬ a1 = 1) : ((-1) : Int32) = an_fault a1 := by
  first | rfl | (subst_vars; rfl) | (simp_all [an_fault]; done) | (subst_vars; simp_all [an_fault]; done) | (unfold an_fault; (repeat' split) <;> first | rfl | (exfalso; simp_all; done))
theorem lf_fault_52 (a1 : Int32) (c_1 : ¬ a1 = 0) (c_2 : a1 = 1) : ((-1) : Int32) = an_fault a1 := by
  first | rfl | (subst_vars; rfl) | (simp_all [an_fault]; done) | (subst_vars; simp_all [an_fault]; done) | (unfold an_fault; (repeat' split) <;> first | rfl | (exfalso; simp_all; done))
theorem lf_fault_53 (a1 : Int32) (c_1 : a1 = 0) : (0 : Int32) = an_fault a1 := by
  first | rfl | (subst_vars; rfl) | (simp_all [an_fault]; done) | (subst_vars; simp_all [an_fault]; done) | (unfold an_fault; (repeat' split) <;> first | rfl | (exfalso; simp_all; done))
set_option maxHeartbeats 4000000 in
set_option maxRecDepth 100000 in
/-- kk_fault -/
theorem kk_fault (l : Launch) (dC : Nat → ClassId) (dI : Nat → Nat → Nat) (sz : Nat) (h0 : Nat) (a1 : Int32) (qo1 : Nat) (qo2 : Nat) (qo3 : Nat) (qo4 : Nat) (qo5 : Nat) (qo6 : Nat) (qo7 : Nat) (qo8 : Nat) (qo9 : Nat) (qo10 : Nat) (qo11 : Nat) (qo12 : Nat) (qo13 : Nat) (qo14 : Nat) (qo15 : Nat) (qo16 : Nat) (qo17 : Nat) (ko1 : Nat)  : Met l yX12_fault (.code yX12_fault cX12_fault 2 (some .int) :: VS_k1) ({ frames := 0, cells := 0, slots := 0, locals := 0 }) (va_Pc [.ref h0, .int a1] (fun U => U.heap.size = sz ∧ va_P (dC, dI) vwCl [(h0, .inr (12, [.ref qo1, .int 0, .ref qo2, .ref qo3, .ref qo4, .ref qo5, .ref qo6, .int 0, .ref qo7, .ref qo8, .ref qo9])), (qo2, .inr (9, [.ref qo10, .ref qo11, .ref qo12, .int 0, .ref qo13, .ref qo14, .ref qo15, .ref qo16, .ref qo17, .int (nI ko1), .int 0, .int 0, .int (-1)]))] U.heap ∧ va_K (dC, dI) vwCl [] U ∧ va_D (fun _ => True) [(h0, .inr (12, [.ref qo1, .int 0, .ref qo2, .ref qo3, .ref qo4, .ref qo5, .ref qo6, .int 0, .ref qo7, .ref qo8, .ref qo9])), (qo2, .inr (9, [.ref qo10, .ref qo11, .ref qo12, .int 0, .ref qo13, .ref qo14, .ref qo15, .ref qo16, .ref qo17, .int (nI ko1), .int 0, .int 0, .int (-1)]))])) (va_Qi (fun (r : Int32) (u : Unit) => match u with | () => r = an_fault a1) (fun (u : Unit) (t : State) => match u with | () => va_P (dC, dI) vwCl [] t.heap ∧ va_K (dC, dI) vwCl [] t ∧ va_D (va_A [(h0, .inr (12, [.ref qo1, .int 0, .ref qo2, .ref qo3, .ref qo4, .ref qo5, .ref qo6, .int 0, .ref qo7, .ref qo8, .ref qo9])), (qo2, .inr (9, [.ref qo10, .ref qo11, .ref qo12, .int 0, .ref qo13, .ref qo14, .ref qo15, .ref qo16, .ref qo17, .int (nI ko1), .int 0, .int 0, .int (-1)]))] sz) []) (va_A [(h0, .inr (12, [.ref qo1, .int 0, .ref qo2, .ref qo3, .ref qo4, .ref qo5, .ref qo6, .int 0, .ref qo7, .ref qo8, .ref qo9])), (qo2, .inr (9, [.ref qo10, .ref qo11, .ref qo12, .int 0, .ref qo13, .ref qo14, .ref qo15, .ref qo16, .ref qo17, .int (nI ko1), .int 0, .int 0, .int (-1)]))] sz)) 0 0 (va_A [(h0, .inr (12, [.ref qo1, .int 0, .ref qo2, .ref qo3, .ref qo4, .ref qo5, .ref qo6, .int 0, .ref qo7, .ref qo8, .ref qo9])), (qo2, .inr (9, [.ref qo10, .ref qo11, .ref qo12, .int 0, .ref qo13, .ref qo14, .ref qo15, .ref qo16, .ref qo17, .int (nI ko1), .int 0, .int 0, .int (-1)]))] sz) := by
  refine Met.ofW (cc := cX12_fault) (maxL := 2) (ret := (some .int)) (by decide) rfl ?_
  intro p e s m args below meth c s₁ B hml hv
  obtain ⟨rfl, hsz, hP, hK, hD0⟩ := hv
  have hx := B.exec
  have hb := B.bytes
  have hr := B.returns
  have hts := atoms_spec (ws := (.code yX12_fault cX12_fault 2 (some .int) :: VS_k1)) B.pre
  replace hts := fun w (h : w ∈ VS_k1) => hts w (List.mem_cons_of_mem _ h)
  have hown : s.vm.findClass RX12 = some m.cls := findClass_of_methodNamed B.named
  have hlocks := B.notSynchronized
  subst hsz
  have hD := hD0.self (sz := s.heap.size)
  generalize hAe : va_A [(h0, .inr (12, [.ref qo1, .int 0, .ref qo2, .ref qo3, .ref qo4, .ref qo5, .ref qo6, .int 0, .ref qo7, .ref qo8, .ref qo9])), (qo2, .inr (9, [.ref qo10, .ref qo11, .ref qo12, .int 0, .ref qo13, .ref qo14, .ref qo15, .ref qo16, .ref qo17, .int (nI ko1), .int 0, .int 0, .int (-1)]))] s.heap.size = A at hD  ⊢
  have hA : ∀ q : Nat, s.heap.size ≤ q → A q := fun q h => by rw [← hAe]; exact Or.inr h
  have hP : va_P (dC, dI) vwCl [(h0, .inr (12, [.ref qo1, .int 0, .ref qo2, .ref qo3, .ref qo4, .ref qo5, .ref qo6, .int 0, .ref qo7, .ref qo8, .ref qo9])), (qo2, .inr (9, [.ref qo10, .ref qo11, .ref qo12, .int 0, .ref qo13, .ref qo14, .ref qo15, .ref qo16, .ref qo17, .int (nI ko1), .int 0, .int 0, .int (-1)]))] s.heap := hP
  have hl := lv_entry ([.ref h0, .int a1]) (n := 2) (Nat.le_of_ble_eq_true rfl)
  rw [lg_entry_eq]
  generalize (lg_sl ([.ref h0, .int a1]) ++ List.replicate (2 - (lg_sl ([.ref h0, .int a1])).length) Slot.unset).toArray = ls at hl ⊢
  have hl : lv_has ls 2 [(0, .ref h0), (1, .int a1)] := hl
  obtain ⟨H, hH⟩ : ∃ H : Heap, s.heap = H := ⟨_, rfl⟩
  rw [hH] at hP ⊢
  have hS : va_S A s.heap H [] := by rw [← hH]; exact va_S.rf
  obtain ⟨locs, hlo⟩ : ∃ locs : List Loc, locs = [] := ⟨_, rfl⟩
  rw [← hlo] at hS ⊢
  refine lv_iload_n hx hb dX12_fault_0 rfl (lv_at hl 1 rfl) ?_
  refine lv_if_ne (tgt := 12) hx hb dX12_fault_1 (by decide) (fun c_1 => ?_) (fun c_1 => ?_)
  · have c_1_ := c_1
    refine lv_iload_n hx hb dX12_fault_12 rfl (lv_at hl 1 rfl) ?_
    refine lv_iconst (v := 1) hx hb dX12_fault_13 (by decide) ?_
    refine lv_icmp_ne (tgt := 37) hx hb dX12_fault_14 (by decide) (fun c_2 => ?_) (fun c_2 => ?_)
    · have c_2_ := c_2
      refine lv_iconst (v := (-1)) hx hb dX12_fault_37 (by decide) ?_
      have hP9 := hP.sub (ws' := []) [] rfl
      have hD9 := hD.sub (ws' := []) [] (by decide) rfl
      have hK9 := hK.sub (tys' := []) [] rfl
      exact W.iret hx hb hr (fun t ht hW => ⟨⟨((-1)), (), rfl, lf_fault_51 a1 c_1 c_2, by rw [ht]; exact hP9, va_K.moved hW.alike hK9, hD9⟩, hS.F ht⟩) hS.2.2 dX12_fault_38
    · have c_2_ := c_2
      refine lv_aload_n hx hb dX12_fault_17 rfl (lv_at hl 0 rfl) ?_
      refine va_get (D := (dC, dI)) (ci := 12) (v := .ref qo2) (C := RX12) (T := TX12) (N := 11) hx hb hts uV_k1_X12 hown hK hP 0 rfl rfl 2 (by decide) (hts (.fieldLink RX12 16 "ClassMill" "text" "LClassMill$Text;") mw_k1_7) (fun _ h9 => h9) rfl dX12_fault_18 ?_
      refine va_get (D := (dC, dI)) (ci := 9) (v := .int 0) (C := RX9) (T := TX9) (N := 13) hx hb hts uV_k1_X9 hown hK hP 1 rfl rfl 11 (by decide) (hts (.fieldLink RX12 113 "ClassMill$Text" "fault" "I") mw_k1_8) (fun _ h9 => h9) rfl dX12_fault_21 ?_
      refine lv_if_eq (tgt := 37) hx hb dX12_fault_24 (by decide) (fun c_3 => ?_) (fun c_3 => (show False by revert c_3; decide).elim)
      refine lv_iconst (v := (-1)) hx hb dX12_fault_37 (by decide) ?_
      have hP9 := hP.sub (ws' := []) [] rfl
      have hD9 := hD.sub (ws' := []) [] (by decide) rfl
      have hK9 := hK.sub (tys' := []) [] rfl
      exact W.iret hx hb hr (fun t ht hW => ⟨⟨((-1)), (), rfl, lf_fault_52 a1 c_1 c_2, by rw [ht]; exact hP9, va_K.moved hW.alike hK9, hD9⟩, hS.F ht⟩) hS.2.2 dX12_fault_38
  · have c_1_ := c_1
    refine lv_aload_n hx hb dX12_fault_4 rfl (lv_at hl 0 rfl) ?_
    refine va_get (D := (dC, dI)) (ci := 12) (v := .ref qo2) (C := RX12) (T := TX12) (N := 11) hx hb hts uV_k1_X12 hown hK hP 0 rfl rfl 2 (by decide) (hts (.fieldLink RX12 16 "ClassMill" "text" "LClassMill$Text;") mw_k1_7) (fun _ h9 => h9) rfl dX12_fault_5 ?_
    refine va_get (D := (dC, dI)) (ci := 9) (v := .int 0) (C := RX9) (T := TX9) (N := 13) hx hb hts uV_k1_X9 hown hK hP 1 rfl rfl 11 (by decide) (hts (.fieldLink RX12 113 "ClassMill$Text" "fault" "I") mw_k1_8) (fun _ h9 => h9) rfl dX12_fault_8 ?_
    have hP9 := hP.sub (ws' := []) [] rfl
    have hD9 := hD.sub (ws' := []) [] (by decide) rfl
    have hK9 := hK.sub (tys' := []) [] rfl
    exact W.iret hx hb hr (fun t ht hW => ⟨⟨(0), (), rfl, lf_fault_53 a1 c_1, by rw [ht]; exact hP9, va_K.moved hW.alike hK9, hD9⟩, hS.F ht⟩) hS.2.2 dX12_fault_11
set_option maxHeartbeats 4000000 in
set_option maxRecDepth 100000 in
/-- kk_imageOf -/
theorem kk_imageOf (l : Launch) (dC : Nat → ClassId) (dI : Nat → Nat → Nat) (sz : Nat) (h0 : Nat) (a1 : Int32) (qo1 : Nat) (qo2 : Nat) (qo3 : Nat) (qo4 : Nat) (qo5 : Nat) (qo6 : Nat) (qo7 : Nat) (qo8 : Nat) (qo9 : Nat)  : Met l yX12_imageOf (.code yX12_imageOf cX12_imageOf 2 (some (.array .byte)) :: VS_k1) ({ frames := 0, cells := 0, slots := 0, locals := 0 }) (va_Pc [.ref h0, .int a1] (fun U => U.heap.size = sz ∧ va_P (dC, dI) vwCl [(h0, .inr (12, [.ref qo1, .int 0, .ref qo2, .ref qo3, .ref qo4, .ref qo5, .ref qo6, .int 0, .ref qo7, .ref qo8, .ref qo9]))] U.heap ∧ va_K (dC, dI) vwCl [] U ∧ va_D (fun _ => True) [(h0, .inr (12, [.ref qo1, .int 0, .ref qo2, .ref qo3, .ref qo4, .ref qo5, .ref qo6, .int 0, .ref qo7, .ref qo8, .ref qo9]))])) (va_Qq (fun (r : Option Nat) (u : Unit) => match u with | () => r = none) (fun (u : Unit) (t : State) => match u with | () => va_P (dC, dI) vwCl [(h0, .inr (12, [.ref qo1, .int 0, .ref qo2, .ref qo3, .ref qo4, .ref qo5, .ref qo6, .int 0, .ref qo7, .ref qo8, .ref qo9]))] t.heap ∧ va_K (dC, dI) vwCl [] t ∧ va_D (va_A [(h0, .inr (12, [.ref qo1, .int 0, .ref qo2, .ref qo3, .ref qo4, .ref qo5, .ref qo6, .int 0, .ref qo7, .ref qo8, .ref qo9]))] sz) [(h0, .inr (12, [.ref qo1, .int 0, .ref qo2, .ref qo3, .ref qo4, .ref qo5, .ref qo6, .int 0, .ref qo7, .ref qo8, .ref qo9]))]) (va_A [(h0, .inr (12, [.ref qo1, .int 0, .ref qo2, .ref qo3, .ref qo4, .ref qo5, .ref qo6, .int 0, .ref qo7, .ref qo8, .ref qo9]))] sz)) 0 0 (va_A [(h0, .inr (12, [.ref qo1, .int 0, .ref qo2, .ref qo3, .ref qo4, .ref qo5, .ref qo6, .int 0, .ref qo7, .ref qo8, .ref qo9]))] sz) := by
  refine Met.ofW (cc := cX12_imageOf) (maxL := 2) (ret := (some (.array .byte))) (by decide) rfl ?_
  intro p e s m args below meth c s₁ B hml hv
  obtain ⟨rfl, hsz, hP, hK, hD0⟩ := hv
  have hx := B.exec
  have hb := B.bytes
  have hr := B.returns
  have hts := atoms_spec (ws := (.code yX12_imageOf cX12_imageOf 2 (some (.array .byte)) :: VS_k1)) B.pre
  replace hts := fun w (h : w ∈ VS_k1) => hts w (List.mem_cons_of_mem _ h)
  have hown : s.vm.findClass RX12 = some m.cls := findClass_of_methodNamed B.named
  have hlocks := B.notSynchronized
  subst hsz
  have hD := hD0.self (sz := s.heap.size)
  generalize hAe : va_A [(h0, .inr (12, [.ref qo1, .int 0, .ref qo2, .ref qo3, .ref qo4, .ref qo5, .ref qo6, .int 0, .ref qo7, .ref qo8, .ref qo9]))] s.heap.size = A at hD  ⊢
  have hA : ∀ q : Nat, s.heap.size ≤ q → A q := fun q h => by rw [← hAe]; exact Or.inr h
  have hP : va_P (dC, dI) vwCl [(h0, .inr (12, [.ref qo1, .int 0, .ref qo2, .ref qo3, .ref qo4, .ref qo5, .ref qo6, .int 0, .ref qo7, .ref qo8, .ref qo9]))] s.heap := hP
  have hl := lv_entry ([.ref h0, .int a1]) (n := 2) (Nat.le_of_ble_eq_true rfl)
  rw [lg_entry_eq]
  generalize (lg_sl ([.ref h0, .int a1]) ++ List.replicate (2 - (lg_sl ([.ref h0, .int a1])).length) Slot.unset).toArray = ls at hl ⊢
  have hl : lv_has ls 2 [(0, .ref h0), (1, .int a1)] := hl
  obtain ⟨H, hH⟩ : ∃ H : Heap, s.heap = H := ⟨_, rfl⟩
  rw [hH] at hP ⊢
  have hS : va_S A s.heap H [] := by rw [← hH]; exact va_S.rf
  obtain ⟨locs, hlo⟩ : ∃ locs : List Loc, locs = [] := ⟨_, rfl⟩
  rw [← hlo] at hS ⊢
  refine lv_iload_n hx hb dX12_imageOf_0 rfl (lv_at hl 1 rfl) ?_
  refine lv_if_lt (tgt := 30) hx hb dX12_imageOf_1 (by decide) (fun c_1 => ?_) (fun c_1 => ?_)
  · have c_1_ := c_1
    refine lv_null hx hb dX12_imageOf_30 ?_
    have hP9 := hP.sub (ws' := [(h0, .inr (12, [.ref qo1, .int 0, .ref qo2, .ref qo3, .ref qo4, .ref qo5, .ref qo6, .int 0, .ref qo7, .ref qo8, .ref qo9]))]) [0] rfl
    have hD9 := hD.sub (ws' := [(h0, .inr (12, [.ref qo1, .int 0, .ref qo2, .ref qo3, .ref qo4, .ref qo5, .ref qo6, .int 0, .ref qo7, .ref qo8, .ref qo9]))]) [0] (by decide) rfl
    have hK9 := hK.sub (tys' := []) [] rfl
    exact W.aret hx hb hr (Or.inr ⟨_, rfl⟩) (Or.inl rfl) (fun t ht hW => ⟨⟨none, (), rfl, rfl, by rw [ht]; exact hP9, va_K.moved hW.alike hK9, hD9⟩, hS.F ht⟩) hS.2.2 dX12_imageOf_31
  · have c_1_ := c_1
    refine lv_iload_n hx hb dX12_imageOf_4 rfl (lv_at hl 1 rfl) ?_
    refine lv_aload_n hx hb dX12_imageOf_5 rfl (lv_at hl 0 rfl) ?_
    refine va_get (D := (dC, dI)) (ci := 12) (v := .int 0) (C := RX12) (T := TX12) (N := 11) hx hb hts uV_k1_X12 hown hK hP 0 rfl rfl 7 (by decide) (hts (.fieldLink RX12 136 "ClassMill" "imageCount" "I") mw_k1_9) (fun _ h9 => h9) rfl dX12_imageOf_6 ?_
    refine lv_icmp_ge (tgt := 30) hx hb dX12_imageOf_9 (by decide) (fun c_2 => ?_) (fun c_2 => ?_)
    · have c_2_ := c_2
      refine lv_null hx hb dX12_imageOf_30 ?_
      have hP9 := hP.sub (ws' := [(h0, .inr (12, [.ref qo1, .int 0, .ref qo2, .ref qo3, .ref qo4, .ref qo5, .ref qo6, .int 0, .ref qo7, .ref qo8, .ref qo9]))]) [0] rfl
      have hD9 := hD.sub (ws' := [(h0, .inr (12, [.ref qo1, .int 0, .ref qo2, .ref qo3, .ref qo4, .ref qo5, .ref qo6, .int 0, .ref qo7, .ref qo8, .ref qo9]))]) [0] (by decide) rfl
      have hK9 := hK.sub (tys' := []) [] rfl
      exact W.aret hx hb hr (Or.inr ⟨_, rfl⟩) (Or.inl rfl) (fun t ht hW => ⟨⟨none, (), rfl, rfl, by rw [ht]; exact hP9, va_K.moved hW.alike hK9, hD9⟩, hS.F ht⟩) hS.2.2 dX12_imageOf_31
    · have c_2_ := c_2
      refine lv_iload_n hx hb dX12_imageOf_12 rfl (lv_at hl 1 rfl) ?_
      refine lv_aload_n hx hb dX12_imageOf_13 rfl (lv_at hl 0 rfl) ?_
      exact absurd (Int32.not_lt.mp c_1) c_2
theorem lf_m1_54 (a1 a2 : Int32)  : ((-1) : Int32) = an_m1 := by
  first | rfl | (subst_vars; rfl) | (simp_all [an_m1]; done) | (subst_vars; simp_all [an_m1]; done) | (unfold an_m1; (repeat' split) <;> first | rfl | (exfalso; simp_all; done))
set_option maxHeartbeats 4000000 in
set_option maxRecDepth 100000 in
/-- kk_image -/
theorem kk_image (l : Launch) (dC : Nat → ClassId) (dI : Nat → Nat → Nat) (sz : Nat) (h0 : Nat) (a1 : Int32) (a2 : Int32) (qo1 : Nat) (qo2 : Nat) (qo3 : Nat) (qo4 : Nat) (qo5 : Nat) (qo6 : Nat) (qo7 : Nat) (qo8 : Nat) (qo9 : Nat)  : Met l yX12_image (.code yX12_image cX12_image 4 (some .int) :: VS_k1) ({ frames := 1, cells := 0, slots := 0, locals := 21 }) (va_Pc [.ref h0, .int a1, .int a2] (fun U => U.heap.size = sz ∧ va_P (dC, dI) vwCl [(h0, .inr (12, [.ref qo1, .int 0, .ref qo2, .ref qo3, .ref qo4, .ref qo5, .ref qo6, .int 0, .ref qo7, .ref qo8, .ref qo9]))] U.heap ∧ va_K (dC, dI) vwCl [] U ∧ va_D (fun _ => True) [(h0, .inr (12, [.ref qo1, .int 0, .ref qo2, .ref qo3, .ref qo4, .ref qo5, .ref qo6, .int 0, .ref qo7, .ref qo8, .ref qo9]))])) (va_Qi (fun (r : Int32) (u : Unit) => match u with | () => r = an_m1) (fun (u : Unit) (t : State) => match u with | () => va_P (dC, dI) vwCl [] t.heap ∧ va_K (dC, dI) vwCl [] t ∧ va_D (va_A [(h0, .inr (12, [.ref qo1, .int 0, .ref qo2, .ref qo3, .ref qo4, .ref qo5, .ref qo6, .int 0, .ref qo7, .ref qo8, .ref qo9]))] sz) []) (va_A [(h0, .inr (12, [.ref qo1, .int 0, .ref qo2, .ref qo3, .ref qo4, .ref qo5, .ref qo6, .int 0, .ref qo7, .ref qo8, .ref qo9]))] sz)) 0 0 (va_A [(h0, .inr (12, [.ref qo1, .int 0, .ref qo2, .ref qo3, .ref qo4, .ref qo5, .ref qo6, .int 0, .ref qo7, .ref qo8, .ref qo9]))] sz) := by
  refine Met.ofW (cc := cX12_image) (maxL := 4) (ret := (some .int)) (by decide) rfl ?_
  intro p e s m args below meth c s₁ B hml hv
  obtain ⟨rfl, hsz, hP, hK, hD0⟩ := hv
  have hx := B.exec
  have hb := B.bytes
  have hr := B.returns
  have hts := atoms_spec (ws := (.code yX12_image cX12_image 4 (some .int) :: VS_k1)) B.pre
  replace hts := fun w (h : w ∈ VS_k1) => hts w (List.mem_cons_of_mem _ h)
  have hown : s.vm.findClass RX12 = some m.cls := findClass_of_methodNamed B.named
  have hlocks := B.notSynchronized
  subst hsz
  have hD := hD0.self (sz := s.heap.size)
  generalize hAe : va_A [(h0, .inr (12, [.ref qo1, .int 0, .ref qo2, .ref qo3, .ref qo4, .ref qo5, .ref qo6, .int 0, .ref qo7, .ref qo8, .ref qo9]))] s.heap.size = A at hD  ⊢
  have hA : ∀ q : Nat, s.heap.size ≤ q → A q := fun q h => by rw [← hAe]; exact Or.inr h
  have hP : va_P (dC, dI) vwCl [(h0, .inr (12, [.ref qo1, .int 0, .ref qo2, .ref qo3, .ref qo4, .ref qo5, .ref qo6, .int 0, .ref qo7, .ref qo8, .ref qo9]))] s.heap := hP
  have hl := lv_entry ([.ref h0, .int a1, .int a2]) (n := 4) (Nat.le_of_ble_eq_true rfl)
  rw [lg_entry_eq]
  generalize (lg_sl ([.ref h0, .int a1, .int a2]) ++ List.replicate (4 - (lg_sl ([.ref h0, .int a1, .int a2])).length) Slot.unset).toArray = ls at hl ⊢
  have hl : lv_has ls 4 [(0, .ref h0), (1, .int a1), (2, .int a2)] := hl
  obtain ⟨H, hH⟩ : ∃ H : Heap, s.heap = H := ⟨_, rfl⟩
  rw [hH] at hP ⊢
  have hS : va_S A s.heap H [] := by rw [← hH]; exact va_S.rf
  obtain ⟨locs, hlo⟩ : ∃ locs : List Loc, locs = [] := ⟨_, rfl⟩
  rw [← hlo] at hS ⊢
  refine lv_aload_n hx hb dX12_image_0 rfl (lv_at hl 0 rfl) ?_
  refine lv_iload_n hx hb dX12_image_1 rfl (lv_at hl 1 rfl) ?_
  have hPc := hP.sub (ws' := [(h0, .inr (12, [.ref qo1, .int 0, .ref qo2, .ref qo3, .ref qo4, .ref qo5, .ref qo6, .int 0, .ref qo7, .ref qo8, .ref qo9]))]) [0] rfl
  have hDc := hD.sub (ws' := [(h0, .inr (12, [.ref qo1, .int 0, .ref qo2, .ref qo3, .ref qo4, .ref qo5, .ref qo6, .int 0, .ref qo7, .ref qo8, .ref qo9]))]) [0] (by decide) rfl
  have hKc := hK.sub (tys' := []) [] rfl
  have hFc := va_free (wc := [(h0, .inr (12, [.ref qo1, .int 0, .ref qo2, .ref qo3, .ref qo4, .ref qo5, .ref qo6, .int 0, .ref qo7, .ref qo8, .ref qo9]))]) hD hS hA [0] rfl
  refine va_callq (va_runV (As := [.int a1]) (rest := []) ⟨hx, hb, hml, hown, hts⟩ (kk_imageOf l dC dI H.size h0 a1 qo1 qo2 qo3 qo4 qo5 qo6 qo7 qo8 qo9) (cwV 1 hts gv_k1_5 rfl rfl rfl (by decide +kernel) ⟨Nat.le_of_ble_eq_true rfl, Nat.le_of_ble_eq_true rfl⟩) ⟨fun a U g mk q => by obtain ⟨q0, q1, qP, qK, qD⟩ := q; exact ⟨q0, q1, qP, va_K.moved (u := U) (U := U.calling g mk a) (Vm.Alike.refl U.vm) qK, qD⟩, va_recv hKc hPc (ci := 12) (q0 := 0) rfl rfl, fun U hU hW => ⟨rfl, by rw [hU], by rw [hU]; exact hPc, va_K.moved hW.alike hKc, hDc.weaken (fun _ _ _ _ => trivial)⟩⟩ rfl rfl hl.1 rfl (lv_room (Nat.le_of_ble_eq_true rfl)) dX12_image_2 ⟨Nat.le_of_ble_eq_true rfl, Nat.le_of_ble_eq_true rfl⟩) hS (fun q _ h => hFc q h) hFc ?_
  clear hS
  intro r_1 u t H1 locs ht hvm hw hB hz1 hk1 hS
  obtain ⟨⟩ := u
  obtain ⟨hP1, hK1, hD1⟩ := hB
  rw [ht] at hP1
  have hK1 := va_K.moved hvm.symm hK1
  try dsimp only at hw
  have hPD := va_join (wr := []) (w1 := [(h0, .inr (12, [.ref qo1, .int 0, .ref qo2, .ref qo3, .ref qo4, .ref qo5, .ref qo6, .int 0, .ref qo7, .ref qo8, .ref qo9]))]) hP hD [0] [] rfl rfl (by decide) (by decide) hk1 hFc hP1 hD1
  clear hP hD
  obtain ⟨hP, hD⟩ := hPD
  replace hK := (hK.sub (tys' := []) [] rfl).app hK1
  clear hPc hDc hKc hFc hP1 hK1 hD1 hz1 hk1 ht hvm
  generalize H1 = H at hP hS ⊢
  replace hP : va_P (dC, dI) vwCl [(h0, .inr (12, [.ref qo1, .int 0, .ref qo2, .ref qo3, .ref qo4, .ref qo5, .ref qo6, .int 0, .ref qo7, .ref qo8, .ref qo9]))] H := hP
  replace hD : va_D A [(h0, .inr (12, [.ref qo1, .int 0, .ref qo2, .ref qo3, .ref qo4, .ref qo5, .ref qo6, .int 0, .ref qo7, .ref qo8, .ref qo9]))] := hD
  replace hK : va_K (dC, dI) vwCl [] s := hK
  subst hw
  refine W.eq (g2 := F0 m 5 ls [.null]) rfl ?_
  refine lv_astore_nN (lv' := [(3, .null), (0, .ref h0), (1, .int a1), (2, .int a2)]) hx hb dX12_image_5 rfl hl (by decide) rfl (fun ls hl => ?_)
  refine lv_aload_nN hx hb dX12_image_6 rfl (lv_at hl 0 rfl) ?_
  refine lv_ifnonnullN hx hb dX12_image_7 ?_
  refine lv_iconst (v := (-1)) hx hb dX12_image_10 (by decide) ?_
  have hP9 := hP.sub (ws' := []) [] rfl
  have hD9 := hD.sub (ws' := []) [] (by decide) rfl
  have hK9 := hK.sub (tys' := []) [] rfl
  exact W.iret hx hb hr (fun t ht hW => ⟨⟨((-1)), (), rfl, lf_m1_54 a1 a2 , by rw [ht]; exact hP9, va_K.moved hW.alike hK9, hD9⟩, hS.F ht⟩) hS.2.2 dX12_image_11
theorem lf_m1_55 (a1 : Int32)  : ((-1) : Int32) = an_m1 := by
  first | rfl | (subst_vars; rfl) | (simp_all [an_m1]; done) | (subst_vars; simp_all [an_m1]; done) | (unfold an_m1; (repeat' split) <;> first | rfl | (exfalso; simp_all; done))
set_option maxHeartbeats 4000000 in
set_option maxRecDepth 100000 in
/-- kk_keep -/
theorem kk_keep (l : Launch) (dC : Nat → ClassId) (dI : Nat → Nat → Nat) (sz : Nat) (h0 : Nat) (a1 : Int32) (qo1 : Nat) (qo2 : Nat) (qo3 : Nat) (qo4 : Nat) (qo5 : Nat) (qo6 : Nat) (qo7 : Nat) (qo8 : Nat) (qo9 : Nat)  : Met l yX12_keep (.code yX12_keep cX12_keep 4 (some .int) :: VS_k1) ({ frames := 1, cells := 0, slots := 0, locals := 21 }) (va_Pc [.ref h0, .int a1] (fun U => U.heap.size = sz ∧ va_P (dC, dI) vwCl [(h0, .inr (12, [.ref qo1, .int 0, .ref qo2, .ref qo3, .ref qo4, .ref qo5, .ref qo6, .int 0, .ref qo7, .ref qo8, .ref qo9]))] U.heap ∧ va_K (dC, dI) vwCl [] U ∧ va_D (fun _ => True) [(h0, .inr (12, [.ref qo1, .int 0, .ref qo2, .ref qo3, .ref qo4, .ref qo5, .ref qo6, .int 0, .ref qo7, .ref qo8, .ref qo9]))])) (va_Qi (fun (r : Int32) (u : Unit) => match u with | () => r = an_m1) (fun (u : Unit) (t : State) => match u with | () => va_P (dC, dI) vwCl [] t.heap ∧ va_K (dC, dI) vwCl [] t ∧ va_D (va_A [(h0, .inr (12, [.ref qo1, .int 0, .ref qo2, .ref qo3, .ref qo4, .ref qo5, .ref qo6, .int 0, .ref qo7, .ref qo8, .ref qo9]))] sz) []) (va_A [(h0, .inr (12, [.ref qo1, .int 0, .ref qo2, .ref qo3, .ref qo4, .ref qo5, .ref qo6, .int 0, .ref qo7, .ref qo8, .ref qo9]))] sz)) 0 0 (va_A [(h0, .inr (12, [.ref qo1, .int 0, .ref qo2, .ref qo3, .ref qo4, .ref qo5, .ref qo6, .int 0, .ref qo7, .ref qo8, .ref qo9]))] sz) := by
  refine Met.ofW (cc := cX12_keep) (maxL := 4) (ret := (some .int)) (by decide) rfl ?_
  intro p e s m args below meth c s₁ B hml hv
  obtain ⟨rfl, hsz, hP, hK, hD0⟩ := hv
  have hx := B.exec
  have hb := B.bytes
  have hr := B.returns
  have hts := atoms_spec (ws := (.code yX12_keep cX12_keep 4 (some .int) :: VS_k1)) B.pre
  replace hts := fun w (h : w ∈ VS_k1) => hts w (List.mem_cons_of_mem _ h)
  have hown : s.vm.findClass RX12 = some m.cls := findClass_of_methodNamed B.named
  have hlocks := B.notSynchronized
  subst hsz
  have hD := hD0.self (sz := s.heap.size)
  generalize hAe : va_A [(h0, .inr (12, [.ref qo1, .int 0, .ref qo2, .ref qo3, .ref qo4, .ref qo5, .ref qo6, .int 0, .ref qo7, .ref qo8, .ref qo9]))] s.heap.size = A at hD  ⊢
  have hA : ∀ q : Nat, s.heap.size ≤ q → A q := fun q h => by rw [← hAe]; exact Or.inr h
  have hP : va_P (dC, dI) vwCl [(h0, .inr (12, [.ref qo1, .int 0, .ref qo2, .ref qo3, .ref qo4, .ref qo5, .ref qo6, .int 0, .ref qo7, .ref qo8, .ref qo9]))] s.heap := hP
  have hl := lv_entry ([.ref h0, .int a1]) (n := 4) (Nat.le_of_ble_eq_true rfl)
  rw [lg_entry_eq]
  generalize (lg_sl ([.ref h0, .int a1]) ++ List.replicate (4 - (lg_sl ([.ref h0, .int a1])).length) Slot.unset).toArray = ls at hl ⊢
  have hl : lv_has ls 4 [(0, .ref h0), (1, .int a1)] := hl
  obtain ⟨H, hH⟩ : ∃ H : Heap, s.heap = H := ⟨_, rfl⟩
  rw [hH] at hP ⊢
  have hS : va_S A s.heap H [] := by rw [← hH]; exact va_S.rf
  obtain ⟨locs, hlo⟩ : ∃ locs : List Loc, locs = [] := ⟨_, rfl⟩
  rw [← hlo] at hS ⊢
  refine lv_aload_n hx hb dX12_keep_0 rfl (lv_at hl 0 rfl) ?_
  refine lv_iload_n hx hb dX12_keep_1 rfl (lv_at hl 1 rfl) ?_
  have hPc := hP.sub (ws' := [(h0, .inr (12, [.ref qo1, .int 0, .ref qo2, .ref qo3, .ref qo4, .ref qo5, .ref qo6, .int 0, .ref qo7, .ref qo8, .ref qo9]))]) [0] rfl
  have hDc := hD.sub (ws' := [(h0, .inr (12, [.ref qo1, .int 0, .ref qo2, .ref qo3, .ref qo4, .ref qo5, .ref qo6, .int 0, .ref qo7, .ref qo8, .ref qo9]))]) [0] (by decide) rfl
  have hKc := hK.sub (tys' := []) [] rfl
  have hFc := va_free (wc := [(h0, .inr (12, [.ref qo1, .int 0, .ref qo2, .ref qo3, .ref qo4, .ref qo5, .ref qo6, .int 0, .ref qo7, .ref qo8, .ref qo9]))]) hD hS hA [0] rfl
  refine va_callq (va_runV (As := [.int a1]) (rest := []) ⟨hx, hb, hml, hown, hts⟩ (kk_imageOf l dC dI H.size h0 a1 qo1 qo2 qo3 qo4 qo5 qo6 qo7 qo8 qo9) (cwV 1 hts gv_k1_5 rfl rfl rfl (by decide +kernel) ⟨Nat.le_of_ble_eq_true rfl, Nat.le_of_ble_eq_true rfl⟩) ⟨fun a U g mk q => by obtain ⟨q0, q1, qP, qK, qD⟩ := q; exact ⟨q0, q1, qP, va_K.moved (u := U) (U := U.calling g mk a) (Vm.Alike.refl U.vm) qK, qD⟩, va_recv hKc hPc (ci := 12) (q0 := 0) rfl rfl, fun U hU hW => ⟨rfl, by rw [hU], by rw [hU]; exact hPc, va_K.moved hW.alike hKc, hDc.weaken (fun _ _ _ _ => trivial)⟩⟩ rfl rfl hl.1 rfl (lv_room (Nat.le_of_ble_eq_true rfl)) dX12_keep_2 ⟨Nat.le_of_ble_eq_true rfl, Nat.le_of_ble_eq_true rfl⟩) hS (fun q _ h => hFc q h) hFc ?_
  clear hS
  intro r_1 u t H1 locs ht hvm hw hB hz1 hk1 hS
  obtain ⟨⟩ := u
  obtain ⟨hP1, hK1, hD1⟩ := hB
  rw [ht] at hP1
  have hK1 := va_K.moved hvm.symm hK1
  try dsimp only at hw
  have hPD := va_join (wr := []) (w1 := [(h0, .inr (12, [.ref qo1, .int 0, .ref qo2, .ref qo3, .ref qo4, .ref qo5, .ref qo6, .int 0, .ref qo7, .ref qo8, .ref qo9]))]) hP hD [0] [] rfl rfl (by decide) (by decide) hk1 hFc hP1 hD1
  clear hP hD
  obtain ⟨hP, hD⟩ := hPD
  replace hK := (hK.sub (tys' := []) [] rfl).app hK1
  clear hPc hDc hKc hFc hP1 hK1 hD1 hz1 hk1 ht hvm
  generalize H1 = H at hP hS ⊢
  replace hP : va_P (dC, dI) vwCl [(h0, .inr (12, [.ref qo1, .int 0, .ref qo2, .ref qo3, .ref qo4, .ref qo5, .ref qo6, .int 0, .ref qo7, .ref qo8, .ref qo9]))] H := hP
  replace hD : va_D A [(h0, .inr (12, [.ref qo1, .int 0, .ref qo2, .ref qo3, .ref qo4, .ref qo5, .ref qo6, .int 0, .ref qo7, .ref qo8, .ref qo9]))] := hD
  replace hK : va_K (dC, dI) vwCl [] s := hK
  subst hw
  refine W.eq (g2 := F0 m 5 ls [.null]) rfl ?_
  refine lv_astore_nN (lv' := [(2, .null), (0, .ref h0), (1, .int a1)]) hx hb dX12_keep_5 rfl hl (by decide) rfl (fun ls hl => ?_)
  refine lv_aload_nN hx hb dX12_keep_6 rfl (lv_at hl 0 rfl) ?_
  refine lv_ifnonnullN hx hb dX12_keep_7 ?_
  refine lv_iconst (v := (-1)) hx hb dX12_keep_10 (by decide) ?_
  refine lv_goto (tgt := 24) hx hb dX12_keep_11 (by decide) ?_
  refine lv_istore_n (lv' := [(3, .int (-1)), (2, .null), (0, .ref h0), (1, .int a1)]) hx hb dX12_keep_24 rfl hl (by decide) rfl (fun ls hl => ?_)
  refine lv_iload_n hx hb dX12_keep_25 rfl (lv_at hl 0 rfl) ?_
  refine lv_if_lt (tgt := 36) hx hb dX12_keep_26 (by decide) (fun c_2 => ?_) (fun c_2 => (show False by revert c_2; decide).elim)
  refine lv_iload_n hx hb dX12_keep_36 rfl (lv_at hl 0 rfl) ?_
  have hP9 := hP.sub (ws' := []) [] rfl
  have hD9 := hD.sub (ws' := []) [] (by decide) rfl
  have hK9 := hK.sub (tys' := []) [] rfl
  exact W.iret hx hb hr (fun t ht hW => ⟨⟨((-1)), (), rfl, lf_m1_55 a1 , by rw [ht]; exact hP9, va_K.moved hW.alike hK9, hD9⟩, hS.F ht⟩) hS.2.2 dX12_keep_37
set_option maxHeartbeats 4000000 in
set_option maxRecDepth 100000 in
/-- kk_SimageOf -/
theorem kk_SimageOf (l : Launch) (dC : Nat → ClassId) (dI : Nat → Nat → Nat) (sz : Nat) (qo7 : Nat) (a1 : Int32) (qo43 : Nat) (qo44 : Nat) (qo45 : Nat) (qo46 : Nat) (qo47 : Nat) (qo48 : Nat)  : Met l yX7_imageOf (.code yX7_imageOf cX7_imageOf 2 (some (.object "ClassMill$Image")) :: VS_k1) ({ frames := 0, cells := 0, slots := 0, locals := 0 }) (va_Pc [.ref qo7, .int a1] (fun U => U.heap.size = sz ∧ va_P (dC, dI) vwCl [(qo7, .inr (7, [.ref qo43, .ref qo44, .ref qo45, .int 0, .int 0, .ref qo46, .ref qo47, .ref qo48]))] U.heap ∧ va_K (dC, dI) vwCl [] U ∧ va_D (fun _ => True) [(qo7, .inr (7, [.ref qo43, .ref qo44, .ref qo45, .int 0, .int 0, .ref qo46, .ref qo47, .ref qo48]))])) (va_Qq (fun (r : Option Nat) (u : Unit) => match u with | () => r = none) (fun (u : Unit) (t : State) => match u with | () => va_P (dC, dI) vwCl [(qo7, .inr (7, [.ref qo43, .ref qo44, .ref qo45, .int 0, .int 0, .ref qo46, .ref qo47, .ref qo48]))] t.heap ∧ va_K (dC, dI) vwCl [] t ∧ va_D (va_A [(qo7, .inr (7, [.ref qo43, .ref qo44, .ref qo45, .int 0, .int 0, .ref qo46, .ref qo47, .ref qo48]))] sz) [(qo7, .inr (7, [.ref qo43, .ref qo44, .ref qo45, .int 0, .int 0, .ref qo46, .ref qo47, .ref qo48]))]) (va_A [(qo7, .inr (7, [.ref qo43, .ref qo44, .ref qo45, .int 0, .int 0, .ref qo46, .ref qo47, .ref qo48]))] sz)) 0 0 (va_A [(qo7, .inr (7, [.ref qo43, .ref qo44, .ref qo45, .int 0, .int 0, .ref qo46, .ref qo47, .ref qo48]))] sz) := by
  refine Met.ofW (cc := cX7_imageOf) (maxL := 2) (ret := (some (.object "ClassMill$Image"))) (by decide) rfl ?_
  intro p e s m args below meth c s₁ B hml hv
  obtain ⟨rfl, hsz, hP, hK, hD0⟩ := hv
  have hx := B.exec
  have hb := B.bytes
  have hr := B.returns
  have hts := atoms_spec (ws := (.code yX7_imageOf cX7_imageOf 2 (some (.object "ClassMill$Image")) :: VS_k1)) B.pre
  replace hts := fun w (h : w ∈ VS_k1) => hts w (List.mem_cons_of_mem _ h)
  have hown : s.vm.findClass RX7 = some m.cls := findClass_of_methodNamed B.named
  have hlocks := B.notSynchronized
  subst hsz
  have hD := hD0.self (sz := s.heap.size)
  generalize hAe : va_A [(qo7, .inr (7, [.ref qo43, .ref qo44, .ref qo45, .int 0, .int 0, .ref qo46, .ref qo47, .ref qo48]))] s.heap.size = A at hD  ⊢
  have hA : ∀ q : Nat, s.heap.size ≤ q → A q := fun q h => by rw [← hAe]; exact Or.inr h
  have hP : va_P (dC, dI) vwCl [(qo7, .inr (7, [.ref qo43, .ref qo44, .ref qo45, .int 0, .int 0, .ref qo46, .ref qo47, .ref qo48]))] s.heap := hP
  have hl := lv_entry ([.ref qo7, .int a1]) (n := 2) (Nat.le_of_ble_eq_true rfl)
  rw [lg_entry_eq]
  generalize (lg_sl ([.ref qo7, .int a1]) ++ List.replicate (2 - (lg_sl ([.ref qo7, .int a1])).length) Slot.unset).toArray = ls at hl ⊢
  have hl : lv_has ls 2 [(0, .ref qo7), (1, .int a1)] := hl
  obtain ⟨H, hH⟩ : ∃ H : Heap, s.heap = H := ⟨_, rfl⟩
  rw [hH] at hP ⊢
  have hS : va_S A s.heap H [] := by rw [← hH]; exact va_S.rf
  obtain ⟨locs, hlo⟩ : ∃ locs : List Loc, locs = [] := ⟨_, rfl⟩
  rw [← hlo] at hS ⊢
  refine lv_iload_n hx hb dX7_imageOf_0 rfl (lv_at hl 1 rfl) ?_
  refine lv_bipush (v := 8) hx hb dX7_imageOf_1 (by decide) ?_
  refine lv_icmp_lt (tgt := 29) hx hb dX7_imageOf_3 (by decide) (fun c_1 => ?_) (fun c_1 => ?_)
  · have c_1_ := c_1
    refine lv_null hx hb dX7_imageOf_29 ?_
    have hP9 := hP.sub (ws' := [(qo7, .inr (7, [.ref qo43, .ref qo44, .ref qo45, .int 0, .int 0, .ref qo46, .ref qo47, .ref qo48]))]) [0] rfl
    have hD9 := hD.sub (ws' := [(qo7, .inr (7, [.ref qo43, .ref qo44, .ref qo45, .int 0, .int 0, .ref qo46, .ref qo47, .ref qo48]))]) [0] (by decide) rfl
    have hK9 := hK.sub (tys' := []) [] rfl
    exact W.aret hx hb hr (Or.inl ⟨_, rfl⟩) (Or.inl rfl) (fun t ht hW => ⟨⟨none, (), rfl, rfl, by rw [ht]; exact hP9, va_K.moved hW.alike hK9, hD9⟩, hS.F ht⟩) hS.2.2 dX7_imageOf_30
  · have c_1_ := c_1
    refine lv_iload_n hx hb dX7_imageOf_6 rfl (lv_at hl 1 rfl) ?_
    refine lv_bipush (v := 8) hx hb dX7_imageOf_7 (by decide) ?_
    refine lv_aload_n hx hb dX7_imageOf_9 rfl (lv_at hl 0 rfl) ?_
    refine va_get (D := (dC, dI)) (ci := 7) (v := .int 0) (C := RX7) (T := TX7) (N := 8) hx hb hts uV_k1_X7 hown hK hP 0 rfl rfl 3 (by decide) (hts (.fieldLink RX7 41 "ClassMill$Space" "count" "I") mw_k1_14) (fun _ h9 => h9) rfl dX7_imageOf_10 ?_
    refine lv_iadd hx hb dX7_imageOf_13 ?_
    refine lv_topi (fun y_2 ey_2 => ?_)
    obtain rfl : y_2 = 8 := ey_2.trans (by decide)
    refine lv_icmp_ge (tgt := 29) hx hb dX7_imageOf_14 (by decide) (fun c_3 => ?_) (fun c_3 => ?_)
    · have c_3_ := c_3
      refine lv_null hx hb dX7_imageOf_29 ?_
      have hP9 := hP.sub (ws' := [(qo7, .inr (7, [.ref qo43, .ref qo44, .ref qo45, .int 0, .int 0, .ref qo46, .ref qo47, .ref qo48]))]) [0] rfl
      have hD9 := hD.sub (ws' := [(qo7, .inr (7, [.ref qo43, .ref qo44, .ref qo45, .int 0, .int 0, .ref qo46, .ref qo47, .ref qo48]))]) [0] (by decide) rfl
      have hK9 := hK.sub (tys' := []) [] rfl
      exact W.aret hx hb hr (Or.inl ⟨_, rfl⟩) (Or.inl rfl) (fun t ht hW => ⟨⟨none, (), rfl, rfl, by rw [ht]; exact hP9, va_K.moved hW.alike hK9, hD9⟩, hS.F ht⟩) hS.2.2 dX7_imageOf_30
    · have c_3_ := c_3
      refine lv_aload_n hx hb dX7_imageOf_17 rfl (lv_at hl 0 rfl) ?_
      exact absurd (Int32.not_lt.mp c_1) c_3
theorem lf_0_56  : (0 : Int32) = an_0 := by
  first | rfl | (subst_vars; rfl) | (simp_all [an_0]; done) | (subst_vars; simp_all [an_0]; done) | (unfold an_0; (repeat' split) <;> first | rfl | (exfalso; simp_all; done))
set_option maxHeartbeats 4000000 in
set_option maxRecDepth 100000 in
/-- kk_change -/
theorem kk_change (l : Launch) (dC : Nat → ClassId) (dI : Nat → Nat → Nat) (sz : Nat) (qo7 : Nat) (a1 : Int32) (a2 : Int32) (a3 : Int32) (qo43 : Nat) (qo44 : Nat) (qo45 : Nat) (qo46 : Nat) (qo47 : Nat) (qo48 : Nat)  : Met l yX7_change (.code yX7_change cX7_change 7 (some .boolean) :: VS_k1) ({ frames := 1, cells := 0, slots := 0, locals := 21 }) (va_Pc [.ref qo7, .int a1, .int a2, .int a3] (fun U => U.heap.size = sz ∧ va_P (dC, dI) vwCl [(qo7, .inr (7, [.ref qo43, .ref qo44, .ref qo45, .int 0, .int 0, .ref qo46, .ref qo47, .ref qo48]))] U.heap ∧ va_K (dC, dI) vwCl [] U ∧ va_D (fun _ => True) [(qo7, .inr (7, [.ref qo43, .ref qo44, .ref qo45, .int 0, .int 0, .ref qo46, .ref qo47, .ref qo48]))])) (va_Qi (fun (r : Int32) (u : Unit) => match u with | () => r = an_0) (fun (u : Unit) (t : State) => match u with | () => va_P (dC, dI) vwCl [] t.heap ∧ va_K (dC, dI) vwCl [] t ∧ va_D (va_A [(qo7, .inr (7, [.ref qo43, .ref qo44, .ref qo45, .int 0, .int 0, .ref qo46, .ref qo47, .ref qo48]))] sz) []) (va_A [(qo7, .inr (7, [.ref qo43, .ref qo44, .ref qo45, .int 0, .int 0, .ref qo46, .ref qo47, .ref qo48]))] sz)) 0 0 (va_A [(qo7, .inr (7, [.ref qo43, .ref qo44, .ref qo45, .int 0, .int 0, .ref qo46, .ref qo47, .ref qo48]))] sz) := by
  refine Met.ofW (cc := cX7_change) (maxL := 7) (ret := (some .boolean)) (by decide) rfl ?_
  intro p e s m args below meth c s₁ B hml hv
  obtain ⟨rfl, hsz, hP, hK, hD0⟩ := hv
  have hx := B.exec
  have hb := B.bytes
  have hr := B.returns
  have hts := atoms_spec (ws := (.code yX7_change cX7_change 7 (some .boolean) :: VS_k1)) B.pre
  replace hts := fun w (h : w ∈ VS_k1) => hts w (List.mem_cons_of_mem _ h)
  have hown : s.vm.findClass RX7 = some m.cls := findClass_of_methodNamed B.named
  have hlocks := B.notSynchronized
  subst hsz
  have hD := hD0.self (sz := s.heap.size)
  generalize hAe : va_A [(qo7, .inr (7, [.ref qo43, .ref qo44, .ref qo45, .int 0, .int 0, .ref qo46, .ref qo47, .ref qo48]))] s.heap.size = A at hD  ⊢
  have hA : ∀ q : Nat, s.heap.size ≤ q → A q := fun q h => by rw [← hAe]; exact Or.inr h
  have hP : va_P (dC, dI) vwCl [(qo7, .inr (7, [.ref qo43, .ref qo44, .ref qo45, .int 0, .int 0, .ref qo46, .ref qo47, .ref qo48]))] s.heap := hP
  have hl := lv_entry ([.ref qo7, .int a1, .int a2, .int a3]) (n := 7) (Nat.le_of_ble_eq_true rfl)
  rw [lg_entry_eq]
  generalize (lg_sl ([.ref qo7, .int a1, .int a2, .int a3]) ++ List.replicate (7 - (lg_sl ([.ref qo7, .int a1, .int a2, .int a3])).length) Slot.unset).toArray = ls at hl ⊢
  have hl : lv_has ls 7 [(0, .ref qo7), (1, .int a1), (2, .int a2), (3, .int a3)] := hl
  obtain ⟨H, hH⟩ : ∃ H : Heap, s.heap = H := ⟨_, rfl⟩
  rw [hH] at hP ⊢
  have hS : va_S A s.heap H [] := by rw [← hH]; exact va_S.rf
  obtain ⟨locs, hlo⟩ : ∃ locs : List Loc, locs = [] := ⟨_, rfl⟩
  rw [← hlo] at hS ⊢
  refine lv_aload_n hx hb dX7_change_0 rfl (lv_at hl 0 rfl) ?_
  refine lv_iload_n hx hb dX7_change_1 rfl (lv_at hl 1 rfl) ?_
  have hPc := hP.sub (ws' := [(qo7, .inr (7, [.ref qo43, .ref qo44, .ref qo45, .int 0, .int 0, .ref qo46, .ref qo47, .ref qo48]))]) [0] rfl
  have hDc := hD.sub (ws' := [(qo7, .inr (7, [.ref qo43, .ref qo44, .ref qo45, .int 0, .int 0, .ref qo46, .ref qo47, .ref qo48]))]) [0] (by decide) rfl
  have hKc := hK.sub (tys' := []) [] rfl
  have hFc := va_free (wc := [(qo7, .inr (7, [.ref qo43, .ref qo44, .ref qo45, .int 0, .int 0, .ref qo46, .ref qo47, .ref qo48]))]) hD hS hA [0] rfl
  refine va_callq (va_runV (As := [.int a1]) (rest := []) ⟨hx, hb, hml, hown, hts⟩ (kk_SimageOf l dC dI H.size qo7 a1 qo43 qo44 qo45 qo46 qo47 qo48) (cwV 1 hts gv_k1_6 rfl rfl rfl (by decide +kernel) ⟨Nat.le_of_ble_eq_true rfl, Nat.le_of_ble_eq_true rfl⟩) ⟨fun a U g mk q => by obtain ⟨q0, q1, qP, qK, qD⟩ := q; exact ⟨q0, q1, qP, va_K.moved (u := U) (U := U.calling g mk a) (Vm.Alike.refl U.vm) qK, qD⟩, va_recv hKc hPc (ci := 7) (q0 := 0) rfl rfl, fun U hU hW => ⟨rfl, by rw [hU], by rw [hU]; exact hPc, va_K.moved hW.alike hKc, hDc.weaken (fun _ _ _ _ => trivial)⟩⟩ rfl rfl hl.1 rfl (lv_room (Nat.le_of_ble_eq_true rfl)) dX7_change_2 ⟨Nat.le_of_ble_eq_true rfl, Nat.le_of_ble_eq_true rfl⟩) hS (fun q _ h => hFc q h) hFc ?_
  clear hS
  intro r_1 u t H1 locs ht hvm hw hB hz1 hk1 hS
  obtain ⟨⟩ := u
  obtain ⟨hP1, hK1, hD1⟩ := hB
  rw [ht] at hP1
  have hK1 := va_K.moved hvm.symm hK1
  try dsimp only at hw
  have hPD := va_join (wr := []) (w1 := [(qo7, .inr (7, [.ref qo43, .ref qo44, .ref qo45, .int 0, .int 0, .ref qo46, .ref qo47, .ref qo48]))]) hP hD [0] [] rfl rfl (by decide) (by decide) hk1 hFc hP1 hD1
  clear hP hD
  obtain ⟨hP, hD⟩ := hPD
  replace hK := (hK.sub (tys' := []) [] rfl).app hK1
  clear hPc hDc hKc hFc hP1 hK1 hD1 hz1 hk1 ht hvm
  generalize H1 = H at hP hS ⊢
  replace hP : va_P (dC, dI) vwCl [(qo7, .inr (7, [.ref qo43, .ref qo44, .ref qo45, .int 0, .int 0, .ref qo46, .ref qo47, .ref qo48]))] H := hP
  replace hD : va_D A [(qo7, .inr (7, [.ref qo43, .ref qo44, .ref qo45, .int 0, .int 0, .ref qo46, .ref qo47, .ref qo48]))] := hD
  replace hK : va_K (dC, dI) vwCl [] s := hK
  subst hw
  refine W.eq (g2 := F0 m 5 ls [.null]) rfl ?_
  refine lv_astoreN (lv' := [(4, .null), (0, .ref qo7), (1, .int a1), (2, .int a2), (3, .int a3)]) hx hb dX7_change_5 hl (by decide) rfl (fun ls hl => ?_)
  refine lv_aloadN hx hb dX7_change_7 (lv_at hl 0 rfl) ?_
  refine lv_ifnullN (tgt := 25) hx hb dX7_change_9 (by decide) ?_
  refine lv_iconst (v := 0) hx hb dX7_change_25 (by decide) ?_
  have hP9 := hP.sub (ws' := []) [] rfl
  have hD9 := hD.sub (ws' := []) [] (by decide) rfl
  have hK9 := hK.sub (tys' := []) [] rfl
  exact W.zret hx hb hr (by decide) (fun t ht hW => ⟨⟨(0), (), rfl, lf_0_56  , by rw [ht]; exact hP9, va_K.moved hW.alike hK9, hD9⟩, hS.F ht⟩) hS.2.2 dX7_change_26
theorem lf_0_57 (a1 a2 a3 : Int32)  : (0 : Int32) = an_0 := by
  first | rfl | (subst_vars; rfl) | (simp_all [an_0]; done) | (subst_vars; simp_all [an_0]; done) | (unfold an_0; (repeat' split) <;> first | rfl | (exfalso; simp_all; done))
set_option maxHeartbeats 4000000 in
set_option maxRecDepth 100000 in
/-- kk_patch -/
theorem kk_patch (l : Launch) (dC : Nat → ClassId) (dI : Nat → Nat → Nat) (sz : Nat) (h0 : Nat) (a1 : Int32) (a2 : Int32) (a3 : Int32) (qo1 : Nat) (qo2 : Nat) (qo3 : Nat) (qo4 : Nat) (qo5 : Nat) (qo6 : Nat) (qo7 : Nat) (qo8 : Nat) (qo9 : Nat) (qo43 : Nat) (qo44 : Nat) (qo45 : Nat) (qo46 : Nat) (qo47 : Nat) (qo48 : Nat)  : Met l yX12_patch (.code yX12_patch cX12_patch 5 (some .boolean) :: VS_k1) ({ frames := 2, cells := 0, slots := 0, locals := 47 }) (va_Pc [.ref h0, .int a1, .int a2, .int a3] (fun U => U.heap.size = sz ∧ va_P (dC, dI) vwCl [(h0, .inr (12, [.ref qo1, .int 0, .ref qo2, .ref qo3, .ref qo4, .ref qo5, .ref qo6, .int 0, .ref qo7, .ref qo8, .ref qo9])), (qo7, .inr (7, [.ref qo43, .ref qo44, .ref qo45, .int 0, .int 0, .ref qo46, .ref qo47, .ref qo48]))] U.heap ∧ va_K (dC, dI) vwCl [] U ∧ va_D (fun _ => True) [(h0, .inr (12, [.ref qo1, .int 0, .ref qo2, .ref qo3, .ref qo4, .ref qo5, .ref qo6, .int 0, .ref qo7, .ref qo8, .ref qo9])), (qo7, .inr (7, [.ref qo43, .ref qo44, .ref qo45, .int 0, .int 0, .ref qo46, .ref qo47, .ref qo48]))])) (va_Qi (fun (r : Int32) (u : Unit) => match u with | () => r = an_0) (fun (u : Unit) (t : State) => match u with | () => va_P (dC, dI) vwCl [] t.heap ∧ va_K (dC, dI) vwCl [] t ∧ va_D (va_A [(h0, .inr (12, [.ref qo1, .int 0, .ref qo2, .ref qo3, .ref qo4, .ref qo5, .ref qo6, .int 0, .ref qo7, .ref qo8, .ref qo9])), (qo7, .inr (7, [.ref qo43, .ref qo44, .ref qo45, .int 0, .int 0, .ref qo46, .ref qo47, .ref qo48]))] sz) []) (va_A [(h0, .inr (12, [.ref qo1, .int 0, .ref qo2, .ref qo3, .ref qo4, .ref qo5, .ref qo6, .int 0, .ref qo7, .ref qo8, .ref qo9])), (qo7, .inr (7, [.ref qo43, .ref qo44, .ref qo45, .int 0, .int 0, .ref qo46, .ref qo47, .ref qo48]))] sz)) 0 0 (va_A [(h0, .inr (12, [.ref qo1, .int 0, .ref qo2, .ref qo3, .ref qo4, .ref qo5, .ref qo6, .int 0, .ref qo7, .ref qo8, .ref qo9])), (qo7, .inr (7, [.ref qo43, .ref qo44, .ref qo45, .int 0, .int 0, .ref qo46, .ref qo47, .ref qo48]))] sz) := by
  refine Met.ofW (cc := cX12_patch) (maxL := 5) (ret := (some .boolean)) (by decide) rfl ?_
  intro p e s m args below meth c s₁ B hml hv
  obtain ⟨rfl, hsz, hP, hK, hD0⟩ := hv
  have hx := B.exec
  have hb := B.bytes
  have hr := B.returns
  have hts := atoms_spec (ws := (.code yX12_patch cX12_patch 5 (some .boolean) :: VS_k1)) B.pre
  replace hts := fun w (h : w ∈ VS_k1) => hts w (List.mem_cons_of_mem _ h)
  have hown : s.vm.findClass RX12 = some m.cls := findClass_of_methodNamed B.named
  have hlocks := B.notSynchronized
  subst hsz
  have hD := hD0.self (sz := s.heap.size)
  generalize hAe : va_A [(h0, .inr (12, [.ref qo1, .int 0, .ref qo2, .ref qo3, .ref qo4, .ref qo5, .ref qo6, .int 0, .ref qo7, .ref qo8, .ref qo9])), (qo7, .inr (7, [.ref qo43, .ref qo44, .ref qo45, .int 0, .int 0, .ref qo46, .ref qo47, .ref qo48]))] s.heap.size = A at hD  ⊢
  have hA : ∀ q : Nat, s.heap.size ≤ q → A q := fun q h => by rw [← hAe]; exact Or.inr h
  have hP : va_P (dC, dI) vwCl [(h0, .inr (12, [.ref qo1, .int 0, .ref qo2, .ref qo3, .ref qo4, .ref qo5, .ref qo6, .int 0, .ref qo7, .ref qo8, .ref qo9])), (qo7, .inr (7, [.ref qo43, .ref qo44, .ref qo45, .int 0, .int 0, .ref qo46, .ref qo47, .ref qo48]))] s.heap := hP
  have hl := lv_entry ([.ref h0, .int a1, .int a2, .int a3]) (n := 5) (Nat.le_of_ble_eq_true rfl)
  rw [lg_entry_eq]
  generalize (lg_sl ([.ref h0, .int a1, .int a2, .int a3]) ++ List.replicate (5 - (lg_sl ([.ref h0, .int a1, .int a2, .int a3])).length) Slot.unset).toArray = ls at hl ⊢
  have hl : lv_has ls 5 [(0, .ref h0), (1, .int a1), (2, .int a2), (3, .int a3)] := hl
  obtain ⟨H, hH⟩ : ∃ H : Heap, s.heap = H := ⟨_, rfl⟩
  rw [hH] at hP ⊢
  have hS : va_S A s.heap H [] := by rw [← hH]; exact va_S.rf
  obtain ⟨locs, hlo⟩ : ∃ locs : List Loc, locs = [] := ⟨_, rfl⟩
  rw [← hlo] at hS ⊢
  refine lv_aload_n hx hb dX12_patch_0 rfl (lv_at hl 0 rfl) ?_
  refine va_get (D := (dC, dI)) (ci := 12) (v := .ref qo7) (C := RX12) (T := TX12) (N := 11) hx hb hts uV_k1_X12 hown hK hP 0 rfl rfl 8 (by decide) (hts (.fieldLink RX12 53 "ClassMill" "space" "LClassMill$Space;") mw_k1_24) (fun _ h9 => h9) rfl dX12_patch_1 ?_
  refine lv_iload_n hx hb dX12_patch_4 rfl (lv_at hl 1 rfl) ?_
  refine lv_iload_n hx hb dX12_patch_5 rfl (lv_at hl 2 rfl) ?_
  refine lv_iload_n hx hb dX12_patch_6 rfl (lv_at hl 3 rfl) ?_
  have hPc := hP.sub (ws' := [(qo7, .inr (7, [.ref qo43, .ref qo44, .ref qo45, .int 0, .int 0, .ref qo46, .ref qo47, .ref qo48]))]) [1] rfl
  have hDc := hD.sub (ws' := [(qo7, .inr (7, [.ref qo43, .ref qo44, .ref qo45, .int 0, .int 0, .ref qo46, .ref qo47, .ref qo48]))]) [1] (by decide) rfl
  have hKc := hK.sub (tys' := []) [] rfl
  have hFc := va_free (wc := [(qo7, .inr (7, [.ref qo43, .ref qo44, .ref qo45, .int 0, .int 0, .ref qo46, .ref qo47, .ref qo48]))]) hD hS hA [1] rfl
  refine va_calli (va_runV (As := [.int a1, .int a2, .int a3]) (rest := []) ⟨hx, hb, hml, hown, hts⟩ (kk_change l dC dI H.size qo7 a1 a2 a3 qo43 qo44 qo45 qo46 qo47 qo48) (cwV 3 hts gv_k1_7 rfl rfl rfl (by decide +kernel) ⟨Nat.le_of_ble_eq_true rfl, Nat.le_of_ble_eq_true rfl⟩) ⟨fun a U g mk q => by obtain ⟨q0, q1, qP, qK, qD⟩ := q; exact ⟨q0, q1, qP, va_K.moved (u := U) (U := U.calling g mk a) (Vm.Alike.refl U.vm) qK, qD⟩, va_recv hKc hPc (ci := 7) (q0 := 0) rfl rfl, fun U hU hW => ⟨rfl, by rw [hU], by rw [hU]; exact hPc, va_K.moved hW.alike hKc, hDc.weaken (fun _ _ _ _ => trivial)⟩⟩ rfl rfl hl.1 rfl (lv_room (Nat.le_of_ble_eq_true rfl)) dX12_patch_7 ⟨Nat.le_of_ble_eq_true rfl, Nat.le_of_ble_eq_true rfl⟩) hS (fun q _ h => hFc q h) hFc ?_
  clear hS
  intro r_1 u t H1 locs ht hvm hw hB hz1 hk1 hS
  obtain ⟨⟩ := u
  obtain ⟨hP1, hK1, hD1⟩ := hB
  rw [ht] at hP1
  have hK1 := va_K.moved hvm.symm hK1
  try dsimp only at hw
  have hPD := va_join (wr := [(h0, .inr (12, [.ref qo1, .int 0, .ref qo2, .ref qo3, .ref qo4, .ref qo5, .ref qo6, .int 0, .ref qo7, .ref qo8, .ref qo9]))]) (w1 := []) hP hD [1] [0] rfl rfl (by decide) (by decide) hk1 hFc hP1 hD1
  clear hP hD
  obtain ⟨hP, hD⟩ := hPD
  replace hK := (hK.sub (tys' := []) [] rfl).app hK1
  clear hPc hDc hKc hFc hP1 hK1 hD1 hz1 hk1 ht hvm
  generalize H1 = H at hP hS ⊢
  replace hP : va_P (dC, dI) vwCl [(h0, .inr (12, [.ref qo1, .int 0, .ref qo2, .ref qo3, .ref qo4, .ref qo5, .ref qo6, .int 0, .ref qo7, .ref qo8, .ref qo9]))] H := hP
  replace hD : va_D A [(h0, .inr (12, [.ref qo1, .int 0, .ref qo2, .ref qo3, .ref qo4, .ref qo5, .ref qo6, .int 0, .ref qo7, .ref qo8, .ref qo9]))] := hD
  replace hK : va_K (dC, dI) vwCl [] s := hK
  subst hw
  refine W.eq (g2 := F0 m 10 ls [.int 0]) rfl ?_
  refine lv_istore (lv' := [(4, .int 0), (0, .ref h0), (1, .int a1), (2, .int a2), (3, .int a3)]) hx hb dX12_patch_10 hl (by decide) rfl (fun ls hl => ?_)
  refine lv_iload hx hb dX12_patch_12 (lv_at hl 0 rfl) ?_
  refine lv_if_eq (tgt := 24) hx hb dX12_patch_14 (by decide) (fun c_2 => ?_) (fun c_2 => (show False by revert c_2; decide).elim)
  refine lv_iload hx hb dX12_patch_24 (lv_at hl 0 rfl) ?_
  have hP9 := hP.sub (ws' := []) [] rfl
  have hD9 := hD.sub (ws' := []) [] (by decide) rfl
  have hK9 := hK.sub (tys' := []) [] rfl
  exact W.zret hx hb hr (by decide) (fun t ht hW => ⟨⟨(0), (), rfl, lf_0_57 a1 a2 a3 , by rw [ht]; exact hP9, va_K.moved hW.alike hK9, hD9⟩, hS.F ht⟩) hS.2.2 dX12_patch_26
theorem lf_m1_58 (a1 : Int32) (hs_1 : a1 = 0) : ((-1) : Int32) = an_m1 := by
  first | rfl | (subst_vars; rfl) | (simp_all [an_m1]; done) | (subst_vars; simp_all [an_m1]; done) | (unfold an_m1; (repeat' split) <;> first | rfl | (exfalso; simp_all; done))
theorem lf_m1_59 (a1 : Int32) (hs_1 : ¬ a1 = 0) (hs_2 : a1 = 1) : ((-1) : Int32) = an_m1 := by
  first | rfl | (subst_vars; rfl) | (simp_all [an_m1]; done) | (subst_vars; simp_all [an_m1]; done) | (unfold an_m1; (repeat' split) <;> first | rfl | (exfalso; simp_all; done))
theorem lf_m1_60 (a1 : Int32) (hs_1 : ¬ a1 = 0) (hs_2 : ¬ a1 = 1) (hs_3 : a1 = 2) : ((-1) : Int32) = an_m1 := by
  first | rfl | (subst_vars; rfl) | (simp_all [an_m1]; done) | (subst_vars; simp_all [an_m1]; done) | (unfold an_m1; (repeat' split) <;> first | rfl | (exfalso; simp_all; done))
theorem lf_m1_61 (a1 : Int32) (hs_1 : ¬ a1 = 0) (hs_2 : ¬ a1 = 1) (hs_3 : ¬ a1 = 2) : ((-1) : Int32) = an_m1 := by
  first | rfl | (subst_vars; rfl) | (simp_all [an_m1]; done) | (subst_vars; simp_all [an_m1]; done) | (unfold an_m1; (repeat' split) <;> first | rfl | (exfalso; simp_all; done))
