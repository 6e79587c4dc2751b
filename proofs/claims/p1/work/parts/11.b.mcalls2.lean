set_option maxHeartbeats 4000000 in
set_option maxRecDepth 100000 in
/-- lay: four bytes more -/
theorem mm_lay (l : Launch) (dC : Nat → ClassId) (dI : Nat → Nat → Nat) (sz : Nat) (h0 : Nat) (fs : List Value) (qt t : Nat) (ct : ClassId) (f : Nat → Int32) (a1 : Int32) (hlen : fs.length = 155) (hf0 : fs[0]? = some (.ref qt)) (hf1 : fs[1]? = some (.int (nI t))) (ht : t + 4 ≤ 6000) : Met l yX13_lay (.code yX13_lay cX13_lay 3 none :: VS_c2) ({ frames := 0, cells := 0, slots := 0, locals := 0 }) (va_Pc [.ref h0, .int a1] (fun U => U.heap.size = sz ∧ va_P (dC, dI) vwCl [(h0, .inr (13, fs)), (qt, .inl (ct, 6000, .inl f))] U.heap ∧ va_K (dC, dI) vwCl [(ct, .int)] U ∧ va_D (fun _ => True) [(h0, .inr (13, fs)), (qt, .inl (ct, 6000, .inl f))])) (va_Qv (fun (u : (List Value) × (Nat → Int32)) => match u with | (zo1, fo1) => zo1 = fs.set 1 (.int (nI (t + 4)))) (fun (u : (List Value) × (Nat → Int32)) (t : State) => match u with | (zo1, fo1) => va_P (dC, dI) vwCl [(h0, .inr (13, zo1)), (qt, .inl (ct, 6000, .inl fo1))] t.heap ∧ va_K (dC, dI) vwCl [(ct, .int)] t ∧ va_D (va_A [(h0, .inr (13, fs)), (qt, .inl (ct, 6000, .inl f))] sz) [(h0, .inr (13, zo1)), (qt, .inl (ct, 6000, .inl fo1))]) (va_A [(h0, .inr (13, fs)), (qt, .inl (ct, 6000, .inl f))] sz)) 0 0 (va_A [(h0, .inr (13, fs)), (qt, .inl (ct, 6000, .inl f))] sz) := by
  refine Met.ofW (cc := cX13_lay) (maxL := 3) (ret := none) (by decide) rfl ?_
  intro p e s m args below meth c s₁ B hml hv
  obtain ⟨rfl, hsz, hP, hK, hD0⟩ := hv
  have hx := B.exec
  have hb := B.bytes
  have hr := B.returns
  have hts := atoms_spec (ws := (.code yX13_lay cX13_lay 3 none :: VS_c2)) B.pre
  replace hts := fun w (h : w ∈ VS_c2) => hts w (List.mem_cons_of_mem _ h)
  have hown : s.vm.findClass RX13 = some m.cls := findClass_of_methodNamed B.named
  have hlocks := B.notSynchronized
  subst hsz
  have hD := hD0.self (sz := s.heap.size)
  generalize hAe : va_A [(h0, .inr (13, fs)), (qt, .inl (ct, 6000, .inl f))] s.heap.size = A at hD  ⊢
  have hA : ∀ q : Nat, s.heap.size ≤ q → A q := fun q h => by rw [← hAe]; exact Or.inr h
  have hP : va_P (dC, dI) vwCl [(h0, .inr (13, fs)), (qt, .inl (ct, 6000, .inl f))] s.heap := hP
  have hl := lv_entry ([.ref h0, .int a1]) (n := 3) (Nat.le_of_ble_eq_true rfl)
  rw [lg_entry_eq]
  generalize (lg_sl ([.ref h0, .int a1]) ++ List.replicate (3 - (lg_sl ([.ref h0, .int a1])).length) Slot.unset).toArray = ls at hl ⊢
  have hl : lv_has ls 3 [(0, .ref h0), (1, .int a1)] := hl
  obtain ⟨H, hH⟩ : ∃ H : Heap, s.heap = H := ⟨_, rfl⟩
  rw [hH] at hP ⊢
  have hS : va_S A s.heap H [] := by rw [← hH]; exact va_S.rf
  obtain ⟨locs, hlo⟩ : ∃ locs : List Loc, locs = [] := ⟨_, rfl⟩
  rw [← hlo] at hS ⊢
  refine lv_bipush (v := 24) hx hb dX13_lay_0 (by decide) ?_
  refine lv_istore_n (lv' := [(2, .int 24), (0, .ref h0), (1, .int a1)]) hx hb dX13_lay_2 rfl hl (by decide) rfl (fun ls hl => ?_)
  refine lv_iload_n hx hb dX13_lay_3 rfl (lv_at hl 0 rfl) ?_
  refine lv_if_lt (tgt := 39) hx hb dX13_lay_4 (by decide) (fun c_1 => (show False by revert c_1; decide).elim) (fun c_1 => ?_)
  refine lv_aload_n hx hb dX13_lay_7 rfl (lv_at hl 1 rfl) ?_
  refine va_get (D := (dC, dI)) (ci := 13) (v := .ref qt) (C := RX13) (T := TX13) (N := 155) hx hb hts uV_c2_X13 hown hK hP 0 rfl rfl 0 (by decide) (hts (.fieldLink RX13 9 "ClassMillModel" "tape" "[I") mw_c2_0) (fun _ h9 => h9) hf0 dX13_lay_8 ?_
  refine lv_aload_n hx hb dX13_lay_11 rfl (lv_at hl 1 rfl) ?_
  refine va_get (D := (dC, dI)) (ci := 13) (v := .int (nI t)) (C := RX13) (T := TX13) (N := 155) hx hb hts uV_c2_X13 hown hK hP 0 rfl rfl 1 (by decide) (hts (.fieldLink RX13 312 "ClassMillModel" "taped" "I") mw_c2_1) (fun _ h9 => h9) hf1 dX13_lay_12 ?_
  refine lv_iload_n hx hb dX13_lay_15 rfl (lv_at hl 2 rfl) ?_
  refine lv_iload_n hx hb dX13_lay_16 rfl (lv_at hl 0 rfl) ?_
  refine lv_ishr hx hb dX13_lay_17 ?_
  refine lv_topi (fun y_2 ey_2 => ?_)
  refine lv_sipush (v := 255) hx hb dX13_lay_18 (by decide) ?_
  refine lv_iand hx hb dX13_lay_21 ?_
  refine lv_topi (fun y_3 ey_3 => ?_)
  refine va_iast hx hb hK hP hD hS 1 0 rfl rfl (i := (nI t)) (x := y_3) (vp_in_nI (by omega) (by decide)) dX13_lay_22 ?_
  clear hP hD hS
  intro H locs hP hD hS
  obtain ⟨f_4, ef_4⟩ : ∃ zf : Nat → Int32, zf = upd f ((nI t) : Int32).toNatClampNeg y_3 := ⟨_, rfl⟩
  rw [← ef_4] at hP hD
  replace hP : va_P (dC, dI) vwCl [(h0, .inr (13, fs)), (qt, .inl (ct, 6000, .inl f_4))] H := hP
  replace hD : va_D A [(h0, .inr (13, fs)), (qt, .inl (ct, 6000, .inl f_4))] := hD
  refine lv_aload_n hx hb dX13_lay_23 rfl (lv_at hl 1 rfl) ?_
  refine lv_dup hx hb dX13_lay_24 rfl ?_
  refine va_get (D := (dC, dI)) (ci := 13) (v := .int (nI t)) (C := RX13) (T := TX13) (N := 155) hx hb hts uV_c2_X13 hown hK hP 0 rfl rfl 1 (by decide) (hts (.fieldLink RX13 312 "ClassMillModel" "taped" "I") mw_c2_1) (fun _ h9 => h9) hf1 dX13_lay_25 ?_
  refine lv_iconst (v := 1) hx hb dX13_lay_28 (by decide) ?_
  refine lv_iadd hx hb dX13_lay_29 ?_
  refine lv_topi (fun y_5 ey_5 => ?_)
  obtain rfl : y_5 = nI (t + 1) := by rw [ey_5]; exact nI_1 _
  refine va_put (D := (dC, dI)) (ci := 13) (v := .int (nI (t + 1))) (ty := .int) (C := RX13) (T := TX13) (N := 155) hx hb hts uV_c2_X13 tyX13 tyX13_ok nmX13 hown hK hP hD hS 0 rfl rfl 1 (by decide) (hts (.fieldLink RX13 312 "ClassMillModel" "taped" "I") mw_c2_1) (fun _ h9 => h9) rfl (by decide +kernel) rfl rfl (by rw [hlen]; decide) dX13_lay_30 ?_
  clear hP hD hS
  intro H locs hP hD hS
  obtain ⟨fs_6, efs_6⟩ : ∃ zf : List Value, zf = fs.set 1 (.int (nI (t + 1))) := ⟨_, rfl⟩
  rw [← efs_6] at hP hD
  have hlfs_6 : fs_6.length = 155 := by rw [efs_6, List.length_set]; exact hlen
  have hfs_6_0 : fs_6[0]? = some (.ref qt) := by rw [efs_6, List.getElem?_set_ne (by decide)]; exact hf0
  have hfs_6_1 : fs_6[1]? = some (.int (nI (t + 1))) := by rw [efs_6, List.getElem?_set_self (by rw [hlen]; decide)]
  replace hP : va_P (dC, dI) vwCl [(h0, .inr (13, fs_6)), (qt, .inl (ct, 6000, .inl f_4))] H := hP
  replace hD : va_D A [(h0, .inr (13, fs_6)), (qt, .inl (ct, 6000, .inl f_4))] := hD
  refine lv_iinc (v := 16) (lv' := [(2, .int 16), (0, .ref h0), (1, .int a1)]) hx hb dX13_lay_33 hl (k := 0) rfl (by decide) (by decide) rfl (fun ls hl => ?_)
  refine lv_goto (tgt := 3) hx hb dX13_lay_36 (by decide) ?_
  refine lv_iload_n hx hb dX13_lay_3 rfl (lv_at hl 0 rfl) ?_
  refine lv_if_lt (tgt := 39) hx hb dX13_lay_4 (by decide) (fun c_7 => (show False by revert c_7; decide).elim) (fun c_7 => ?_)
  refine lv_aload_n hx hb dX13_lay_7 rfl (lv_at hl 1 rfl) ?_
  refine va_get (D := (dC, dI)) (ci := 13) (v := .ref qt) (C := RX13) (T := TX13) (N := 155) hx hb hts uV_c2_X13 hown hK hP 0 rfl rfl 0 (by decide) (hts (.fieldLink RX13 9 "ClassMillModel" "tape" "[I") mw_c2_0) (fun _ h9 => h9) hfs_6_0 dX13_lay_8 ?_
  refine lv_aload_n hx hb dX13_lay_11 rfl (lv_at hl 1 rfl) ?_
  refine va_get (D := (dC, dI)) (ci := 13) (v := .int (nI (t + 1))) (C := RX13) (T := TX13) (N := 155) hx hb hts uV_c2_X13 hown hK hP 0 rfl rfl 1 (by decide) (hts (.fieldLink RX13 312 "ClassMillModel" "taped" "I") mw_c2_1) (fun _ h9 => h9) hfs_6_1 dX13_lay_12 ?_
  refine lv_iload_n hx hb dX13_lay_15 rfl (lv_at hl 2 rfl) ?_
  refine lv_iload_n hx hb dX13_lay_16 rfl (lv_at hl 0 rfl) ?_
  refine lv_ishr hx hb dX13_lay_17 ?_
  refine lv_topi (fun y_8 ey_8 => ?_)
  refine lv_sipush (v := 255) hx hb dX13_lay_18 (by decide) ?_
  refine lv_iand hx hb dX13_lay_21 ?_
  refine lv_topi (fun y_9 ey_9 => ?_)
  refine va_iast hx hb hK hP hD hS 1 0 rfl rfl (i := (nI (t + 1))) (x := y_9) (vp_in_nI (by omega) (by decide)) dX13_lay_22 ?_
  clear hP hD hS
  intro H locs hP hD hS
  obtain ⟨f_10, ef_10⟩ : ∃ zf : Nat → Int32, zf = upd f_4 ((nI (t + 1)) : Int32).toNatClampNeg y_9 := ⟨_, rfl⟩
  rw [← ef_10] at hP hD
  replace hP : va_P (dC, dI) vwCl [(h0, .inr (13, fs_6)), (qt, .inl (ct, 6000, .inl f_10))] H := hP
  replace hD : va_D A [(h0, .inr (13, fs_6)), (qt, .inl (ct, 6000, .inl f_10))] := hD
  refine lv_aload_n hx hb dX13_lay_23 rfl (lv_at hl 1 rfl) ?_
  refine lv_dup hx hb dX13_lay_24 rfl ?_
  refine va_get (D := (dC, dI)) (ci := 13) (v := .int (nI (t + 1))) (C := RX13) (T := TX13) (N := 155) hx hb hts uV_c2_X13 hown hK hP 0 rfl rfl 1 (by decide) (hts (.fieldLink RX13 312 "ClassMillModel" "taped" "I") mw_c2_1) (fun _ h9 => h9) hfs_6_1 dX13_lay_25 ?_
  refine lv_iconst (v := 1) hx hb dX13_lay_28 (by decide) ?_
  refine lv_iadd hx hb dX13_lay_29 ?_
  refine lv_topi (fun y_11 ey_11 => ?_)
  obtain rfl : y_11 = nI (t + 2) := by rw [ey_11]; exact nI_1 _
  refine va_put (D := (dC, dI)) (ci := 13) (v := .int (nI (t + 2))) (ty := .int) (C := RX13) (T := TX13) (N := 155) hx hb hts uV_c2_X13 tyX13 tyX13_ok nmX13 hown hK hP hD hS 0 rfl rfl 1 (by decide) (hts (.fieldLink RX13 312 "ClassMillModel" "taped" "I") mw_c2_1) (fun _ h9 => h9) rfl (by decide +kernel) rfl rfl (by rw [hlfs_6]; decide) dX13_lay_30 ?_
  clear hP hD hS
  intro H locs hP hD hS
  obtain ⟨fs_12, efs_12⟩ : ∃ zf : List Value, zf = fs_6.set 1 (.int (nI (t + 2))) := ⟨_, rfl⟩
  rw [← efs_12] at hP hD
  have hlfs_12 : fs_12.length = 155 := by rw [efs_12, List.length_set]; exact hlfs_6
  have hfs_12_0 : fs_12[0]? = some (.ref qt) := by rw [efs_12, List.getElem?_set_ne (by decide)]; exact hfs_6_0
  have hfs_12_1 : fs_12[1]? = some (.int (nI (t + 2))) := by rw [efs_12, List.getElem?_set_self (by rw [hlfs_6]; decide)]
  replace hP : va_P (dC, dI) vwCl [(h0, .inr (13, fs_12)), (qt, .inl (ct, 6000, .inl f_10))] H := hP
  replace hD : va_D A [(h0, .inr (13, fs_12)), (qt, .inl (ct, 6000, .inl f_10))] := hD
  refine lv_iinc (v := 8) (lv' := [(2, .int 8), (0, .ref h0), (1, .int a1)]) hx hb dX13_lay_33 hl (k := 0) rfl (by decide) (by decide) rfl (fun ls hl => ?_)
  refine lv_goto (tgt := 3) hx hb dX13_lay_36 (by decide) ?_
  refine lv_iload_n hx hb dX13_lay_3 rfl (lv_at hl 0 rfl) ?_
  refine lv_if_lt (tgt := 39) hx hb dX13_lay_4 (by decide) (fun c_13 => (show False by revert c_13; decide).elim) (fun c_13 => ?_)
  refine lv_aload_n hx hb dX13_lay_7 rfl (lv_at hl 1 rfl) ?_
  refine va_get (D := (dC, dI)) (ci := 13) (v := .ref qt) (C := RX13) (T := TX13) (N := 155) hx hb hts uV_c2_X13 hown hK hP 0 rfl rfl 0 (by decide) (hts (.fieldLink RX13 9 "ClassMillModel" "tape" "[I") mw_c2_0) (fun _ h9 => h9) hfs_12_0 dX13_lay_8 ?_
  refine lv_aload_n hx hb dX13_lay_11 rfl (lv_at hl 1 rfl) ?_
  refine va_get (D := (dC, dI)) (ci := 13) (v := .int (nI (t + 2))) (C := RX13) (T := TX13) (N := 155) hx hb hts uV_c2_X13 hown hK hP 0 rfl rfl 1 (by decide) (hts (.fieldLink RX13 312 "ClassMillModel" "taped" "I") mw_c2_1) (fun _ h9 => h9) hfs_12_1 dX13_lay_12 ?_
  refine lv_iload_n hx hb dX13_lay_15 rfl (lv_at hl 2 rfl) ?_
  refine lv_iload_n hx hb dX13_lay_16 rfl (lv_at hl 0 rfl) ?_
  refine lv_ishr hx hb dX13_lay_17 ?_
  refine lv_topi (fun y_14 ey_14 => ?_)
  refine lv_sipush (v := 255) hx hb dX13_lay_18 (by decide) ?_
  refine lv_iand hx hb dX13_lay_21 ?_
  refine lv_topi (fun y_15 ey_15 => ?_)
  refine va_iast hx hb hK hP hD hS 1 0 rfl rfl (i := (nI (t + 2))) (x := y_15) (vp_in_nI (by omega) (by decide)) dX13_lay_22 ?_
  clear hP hD hS
  intro H locs hP hD hS
  obtain ⟨f_16, ef_16⟩ : ∃ zf : Nat → Int32, zf = upd f_10 ((nI (t + 2)) : Int32).toNatClampNeg y_15 := ⟨_, rfl⟩
  rw [← ef_16] at hP hD
  replace hP : va_P (dC, dI) vwCl [(h0, .inr (13, fs_12)), (qt, .inl (ct, 6000, .inl f_16))] H := hP
  replace hD : va_D A [(h0, .inr (13, fs_12)), (qt, .inl (ct, 6000, .inl f_16))] := hD
  refine lv_aload_n hx hb dX13_lay_23 rfl (lv_at hl 1 rfl) ?_
  refine lv_dup hx hb dX13_lay_24 rfl ?_
  refine va_get (D := (dC, dI)) (ci := 13) (v := .int (nI (t + 2))) (C := RX13) (T := TX13) (N := 155) hx hb hts uV_c2_X13 hown hK hP 0 rfl rfl 1 (by decide) (hts (.fieldLink RX13 312 "ClassMillModel" "taped" "I") mw_c2_1) (fun _ h9 => h9) hfs_12_1 dX13_lay_25 ?_
  refine lv_iconst (v := 1) hx hb dX13_lay_28 (by decide) ?_
  refine lv_iadd hx hb dX13_lay_29 ?_
  refine lv_topi (fun y_17 ey_17 => ?_)
  obtain rfl : y_17 = nI (t + 3) := by rw [ey_17]; exact nI_1 _
  refine va_put (D := (dC, dI)) (ci := 13) (v := .int (nI (t + 3))) (ty := .int) (C := RX13) (T := TX13) (N := 155) hx hb hts uV_c2_X13 tyX13 tyX13_ok nmX13 hown hK hP hD hS 0 rfl rfl 1 (by decide) (hts (.fieldLink RX13 312 "ClassMillModel" "taped" "I") mw_c2_1) (fun _ h9 => h9) rfl (by decide +kernel) rfl rfl (by rw [hlfs_12]; decide) dX13_lay_30 ?_
  clear hP hD hS
  intro H locs hP hD hS
  obtain ⟨fs_18, efs_18⟩ : ∃ zf : List Value, zf = fs_12.set 1 (.int (nI (t + 3))) := ⟨_, rfl⟩
  rw [← efs_18] at hP hD
  have hlfs_18 : fs_18.length = 155 := by rw [efs_18, List.length_set]; exact hlfs_12
  have hfs_18_0 : fs_18[0]? = some (.ref qt) := by rw [efs_18, List.getElem?_set_ne (by decide)]; exact hfs_12_0
  have hfs_18_1 : fs_18[1]? = some (.int (nI (t + 3))) := by rw [efs_18, List.getElem?_set_self (by rw [hlfs_12]; decide)]
  replace hP : va_P (dC, dI) vwCl [(h0, .inr (13, fs_18)), (qt, .inl (ct, 6000, .inl f_16))] H := hP
  replace hD : va_D A [(h0, .inr (13, fs_18)), (qt, .inl (ct, 6000, .inl f_16))] := hD
  refine lv_iinc (v := 0) (lv' := [(2, .int 0), (0, .ref h0), (1, .int a1)]) hx hb dX13_lay_33 hl (k := 0) rfl (by decide) (by decide) rfl (fun ls hl => ?_)
  refine lv_goto (tgt := 3) hx hb dX13_lay_36 (by decide) ?_
  refine lv_iload_n hx hb dX13_lay_3 rfl (lv_at hl 0 rfl) ?_
  refine lv_if_lt (tgt := 39) hx hb dX13_lay_4 (by decide) (fun c_19 => (show False by revert c_19; decide).elim) (fun c_19 => ?_)
  refine lv_aload_n hx hb dX13_lay_7 rfl (lv_at hl 1 rfl) ?_
  refine va_get (D := (dC, dI)) (ci := 13) (v := .ref qt) (C := RX13) (T := TX13) (N := 155) hx hb hts uV_c2_X13 hown hK hP 0 rfl rfl 0 (by decide) (hts (.fieldLink RX13 9 "ClassMillModel" "tape" "[I") mw_c2_0) (fun _ h9 => h9) hfs_18_0 dX13_lay_8 ?_
  refine lv_aload_n hx hb dX13_lay_11 rfl (lv_at hl 1 rfl) ?_
  refine va_get (D := (dC, dI)) (ci := 13) (v := .int (nI (t + 3))) (C := RX13) (T := TX13) (N := 155) hx hb hts uV_c2_X13 hown hK hP 0 rfl rfl 1 (by decide) (hts (.fieldLink RX13 312 "ClassMillModel" "taped" "I") mw_c2_1) (fun _ h9 => h9) hfs_18_1 dX13_lay_12 ?_
  refine lv_iload_n hx hb dX13_lay_15 rfl (lv_at hl 2 rfl) ?_
  refine lv_iload_n hx hb dX13_lay_16 rfl (lv_at hl 0 rfl) ?_
  refine lv_ishr hx hb dX13_lay_17 ?_
  refine lv_topi (fun y_20 ey_20 => ?_)
  refine lv_sipush (v := 255) hx hb dX13_lay_18 (by decide) ?_
  refine lv_iand hx hb dX13_lay_21 ?_
  refine lv_topi (fun y_21 ey_21 => ?_)
  refine va_iast hx hb hK hP hD hS 1 0 rfl rfl (i := (nI (t + 3))) (x := y_21) (vp_in_nI (by omega) (by decide)) dX13_lay_22 ?_
  clear hP hD hS
  intro H locs hP hD hS
  obtain ⟨f_22, ef_22⟩ : ∃ zf : Nat → Int32, zf = upd f_16 ((nI (t + 3)) : Int32).toNatClampNeg y_21 := ⟨_, rfl⟩
  rw [← ef_22] at hP hD
  replace hP : va_P (dC, dI) vwCl [(h0, .inr (13, fs_18)), (qt, .inl (ct, 6000, .inl f_22))] H := hP
  replace hD : va_D A [(h0, .inr (13, fs_18)), (qt, .inl (ct, 6000, .inl f_22))] := hD
  refine lv_aload_n hx hb dX13_lay_23 rfl (lv_at hl 1 rfl) ?_
  refine lv_dup hx hb dX13_lay_24 rfl ?_
  refine va_get (D := (dC, dI)) (ci := 13) (v := .int (nI (t + 3))) (C := RX13) (T := TX13) (N := 155) hx hb hts uV_c2_X13 hown hK hP 0 rfl rfl 1 (by decide) (hts (.fieldLink RX13 312 "ClassMillModel" "taped" "I") mw_c2_1) (fun _ h9 => h9) hfs_18_1 dX13_lay_25 ?_
  refine lv_iconst (v := 1) hx hb dX13_lay_28 (by decide) ?_
  refine lv_iadd hx hb dX13_lay_29 ?_
  refine lv_topi (fun y_23 ey_23 => ?_)
  obtain rfl : y_23 = nI (t + 4) := by rw [ey_23]; exact nI_1 _
  refine va_put (D := (dC, dI)) (ci := 13) (v := .int (nI (t + 4))) (ty := .int) (C := RX13) (T := TX13) (N := 155) hx hb hts uV_c2_X13 tyX13 tyX13_ok nmX13 hown hK hP hD hS 0 rfl rfl 1 (by decide) (hts (.fieldLink RX13 312 "ClassMillModel" "taped" "I") mw_c2_1) (fun _ h9 => h9) rfl (by decide +kernel) rfl rfl (by rw [hlfs_18]; decide) dX13_lay_30 ?_
  clear hP hD hS
  intro H locs hP hD hS
  obtain ⟨fs_24, efs_24⟩ : ∃ zf : List Value, zf = fs_18.set 1 (.int (nI (t + 4))) := ⟨_, rfl⟩
  rw [← efs_24] at hP hD
  have hlfs_24 : fs_24.length = 155 := by rw [efs_24, List.length_set]; exact hlfs_18
  have hfs_24_0 : fs_24[0]? = some (.ref qt) := by rw [efs_24, List.getElem?_set_ne (by decide)]; exact hfs_18_0
  have hfs_24_1 : fs_24[1]? = some (.int (nI (t + 4))) := by rw [efs_24, List.getElem?_set_self (by rw [hlfs_18]; decide)]
  replace hP : va_P (dC, dI) vwCl [(h0, .inr (13, fs_24)), (qt, .inl (ct, 6000, .inl f_22))] H := hP
  replace hD : va_D A [(h0, .inr (13, fs_24)), (qt, .inl (ct, 6000, .inl f_22))] := hD
  refine lv_iinc (v := (-8)) (lv' := [(2, .int (-8)), (0, .ref h0), (1, .int a1)]) hx hb dX13_lay_33 hl (k := 0) rfl (by decide) (by decide) rfl (fun ls hl => ?_)
  refine lv_goto (tgt := 3) hx hb dX13_lay_36 (by decide) ?_
  refine lv_iload_n hx hb dX13_lay_3 rfl (lv_at hl 0 rfl) ?_
  refine lv_if_lt (tgt := 39) hx hb dX13_lay_4 (by decide) (fun c_25 => ?_) (fun c_25 => (show False by revert c_25; decide).elim)
  obtain ⟨z_26, ez_26⟩ : ∃ z : List Value, z = fs_24 := ⟨_, rfl⟩
  rw [← ez_26] at hP hD
  replace hP : va_P (dC, dI) vwCl [(h0, .inr (13, z_26)), (qt, .inl (ct, 6000, .inl f_22))] H := hP
  replace hD : va_D A [(h0, .inr (13, z_26)), (qt, .inl (ct, 6000, .inl f_22))] := hD
  have hP9 := hP.sub (ws' := [(h0, .inr (13, z_26)), (qt, .inl (ct, 6000, .inl f_22))]) [0, 1] rfl
  have hD9 := hD.sub (ws' := [(h0, .inr (13, z_26)), (qt, .inl (ct, 6000, .inl f_22))]) [0, 1] (by decide) rfl
  have hK9 := hK.sub (tys' := [(ct, .int)]) [0] rfl
  exact W.vret hx hb hr (fun t ht hW => ⟨⟨(z_26, f_22), rfl, by rw [ez_26, efs_24, efs_18, efs_12, efs_6]; simp only [List.set_set], by rw [ht]; exact hP9, va_K.moved hW.alike hK9, hD9⟩, hS.F ht⟩) hS.2.2 dX13_lay_39
set_option maxHeartbeats 4000000 in
set_option maxRecDepth 100000 in
/-- feed of a new object: 20 -/
theorem mm_feed (l : Launch) (dC : Nat → ClassId) (dI : Nat → Nat → Nat) (sz : Nat) (h0 : Nat) (qm0 qm1 qm2 qm3 qm4 qm5 : Nat) (fsM : List Value) (ct : ClassId) (f : Nat → Int32) (a1 a2 a3 a4 a5 : Int32) (hM : pm_F fsM qm0 qm1 qm2 qm3 qm4 qm5) : Met l yX13_feed (.code yX13_feed cX13_feed 6 (some .int) :: VS_c2) ({ frames := 1, cells := 0, slots := 0, locals := 22 }) (va_Pc [.ref h0, .int a1, .int a2, .int a3, .int a4, .int a5] (fun U => U.heap.size = sz ∧ va_P (dC, dI) vwCl [(h0, .inr (13, fsM)), (qm0, .inl (ct, 6000, .inl f))] U.heap ∧ va_K (dC, dI) vwCl [(ct, .int)] U ∧ va_D (fun _ => True) [(h0, .inr (13, fsM)), (qm0, .inl (ct, 6000, .inl f))])) (va_Qi (fun (r : Int32) (u : Unit) => match u with | () => r = 20) (fun (u : Unit) (t : State) => match u with | () => va_P (dC, dI) vwCl [] t.heap ∧ va_K (dC, dI) vwCl [] t ∧ va_D (va_A [(h0, .inr (13, fsM)), (qm0, .inl (ct, 6000, .inl f))] sz) []) (va_A [(h0, .inr (13, fsM)), (qm0, .inl (ct, 6000, .inl f))] sz)) 0 0 (va_A [(h0, .inr (13, fsM)), (qm0, .inl (ct, 6000, .inl f))] sz) := by
  refine Met.ofW (cc := cX13_feed) (maxL := 6) (ret := (some .int)) (by decide) rfl ?_
  intro p e s m args below meth c s₁ B hml hv
  obtain ⟨rfl, hsz, hP, hK, hD0⟩ := hv
  have hx := B.exec
  have hb := B.bytes
  have hr := B.returns
  have hts := atoms_spec (ws := (.code yX13_feed cX13_feed 6 (some .int) :: VS_c2)) B.pre
  replace hts := fun w (h : w ∈ VS_c2) => hts w (List.mem_cons_of_mem _ h)
  have hown : s.vm.findClass RX13 = some m.cls := findClass_of_methodNamed B.named
  have hlocks := B.notSynchronized
  subst hsz
  have hD := hD0.self (sz := s.heap.size)
  generalize hAe : va_A [(h0, .inr (13, fsM)), (qm0, .inl (ct, 6000, .inl f))] s.heap.size = A at hD  ⊢
  have hA : ∀ q : Nat, s.heap.size ≤ q → A q := fun q h => by rw [← hAe]; exact Or.inr h
  have hP : va_P (dC, dI) vwCl [(h0, .inr (13, fsM)), (qm0, .inl (ct, 6000, .inl f))] s.heap := hP
  have hl := lv_entry ([.ref h0, .int a1, .int a2, .int a3, .int a4, .int a5]) (n := 6) (Nat.le_of_ble_eq_true rfl)
  rw [lg_entry_eq]
  generalize (lg_sl ([.ref h0, .int a1, .int a2, .int a3, .int a4, .int a5]) ++ List.replicate (6 - (lg_sl ([.ref h0, .int a1, .int a2, .int a3, .int a4, .int a5])).length) Slot.unset).toArray = ls at hl ⊢
  have hl : lv_has ls 6 [(0, .ref h0), (1, .int a1), (2, .int a2), (3, .int a3), (4, .int a4), (5, .int a5)] := hl
  obtain ⟨H, hH⟩ : ∃ H : Heap, s.heap = H := ⟨_, rfl⟩
  rw [hH] at hP ⊢
  have hS : va_S A s.heap H [] := by rw [← hH]; exact va_S.rf
  obtain ⟨locs, hlo⟩ : ∃ locs : List Loc, locs = [] := ⟨_, rfl⟩
  rw [← hlo] at hS ⊢
  refine lv_aload_n hx hb dX13_feed_0 rfl (lv_at hl 0 rfl) ?_
  refine va_get (D := (dC, dI)) (ci := 13) (v := .int 0) (C := RX13) (T := TX13) (N := 155) hx hb hts uV_c2_X13 hown hK hP 0 rfl rfl 1 (by decide) (hts (.fieldLink RX13 312 "ClassMillModel" "taped" "I") mw_c2_1) (fun _ h9 => h9) hM.2.2.2.2.2.2.2.1 dX13_feed_1 ?_
  refine lv_bipush (v := 20) hx hb dX13_feed_4 (by decide) ?_
  refine lv_iadd hx hb dX13_feed_6 ?_
  refine lv_topi (fun y_1 ey_1 => ?_)
  obtain rfl : y_1 = 20 := ey_1.trans (by decide)
  refine lv_sipush (v := 6000) hx hb dX13_feed_7 (by decide) ?_
  refine lv_icmp_le (tgt := 15) hx hb dX13_feed_10 (by decide) (fun c_2 => ?_) (fun c_2 => (show False by revert c_2; decide).elim)
  refine lv_aload_n hx hb dX13_feed_15 rfl (lv_at hl 0 rfl) ?_
  refine lv_iload_n hx hb dX13_feed_16 rfl (lv_at hl 1 rfl) ?_
  have hPc := hP.sub (ws' := [(h0, .inr (13, fsM)), (qm0, .inl (ct, 6000, .inl f))]) [0, 1] rfl
  have hDc := hD.sub (ws' := [(h0, .inr (13, fsM)), (qm0, .inl (ct, 6000, .inl f))]) [0, 1] (by decide) rfl
  have hKc := hK.sub (tys' := [(ct, .int)]) [0] rfl
  have hFc := va_free (wc := [(h0, .inr (13, fsM)), (qm0, .inl (ct, 6000, .inl f))]) hD hS hA [0, 1] rfl
  refine va_callv (va_runV (As := [.int a1]) (rest := []) ⟨hx, hb, hml, hown, hts⟩ (mm_lay l dC dI H.size h0 fsM qm0 0 ct f a1 hM.1 hM.2.1 (by rw [show nI 0 = 0 from rfl]; exact hM.2.2.2.2.2.2.2.1) (by decide)) (cwV 1 hts gv_c2_0 rfl rfl rfl (by decide +kernel) ⟨Nat.le_of_ble_eq_true rfl, Nat.le_of_ble_eq_true rfl⟩) ⟨fun a U g mk q => by obtain ⟨q0, q1, qP, qK, qD⟩ := q; exact ⟨q0, q1, qP, va_K.moved (u := U) (U := U.calling g mk a) (Vm.Alike.refl U.vm) qK, qD⟩, va_recv hKc hPc (ci := 13) (q0 := 0) rfl rfl, fun U hU hW => ⟨rfl, by rw [hU], by rw [hU]; exact hPc, va_K.moved hW.alike hKc, hDc.weaken (fun _ _ _ _ => trivial)⟩⟩ rfl rfl hl.1 rfl (lv_room (Nat.le_of_ble_eq_true rfl)) dX13_feed_17 ⟨Nat.le_of_ble_eq_true rfl, Nat.le_of_ble_eq_true rfl⟩) hS (fun q _ h => hFc q h) hFc ?_
  clear hS
  intro u t H1 locs ht hvm hw hB hz1 hk1 hS
  obtain ⟨z_3, f_4⟩ := u
  obtain ⟨hP1, hK1, hD1⟩ := hB
  rw [ht] at hP1
  have hK1 := va_K.moved hvm.symm hK1
  try dsimp only at hw
  have hPD := va_join (wr := []) (w1 := [(h0, .inr (13, z_3)), (qm0, .inl (ct, 6000, .inl f_4))]) hP hD [0, 1] [] rfl rfl (by decide) (by decide) hk1 hFc hP1 hD1
  clear hP hD
  obtain ⟨hP, hD⟩ := hPD
  replace hK := (hK.sub (tys' := []) [] rfl).app hK1
  clear hPc hDc hKc hFc hP1 hK1 hD1 hz1 hk1 ht hvm
  generalize H1 = H at hP hS ⊢
  replace hP : va_P (dC, dI) vwCl [(h0, .inr (13, z_3)), (qm0, .inl (ct, 6000, .inl f_4))] H := hP
  replace hD : va_D A [(h0, .inr (13, z_3)), (qm0, .inl (ct, 6000, .inl f_4))] := hD
  replace hK : va_K (dC, dI) vwCl [(ct, .int)] s := hK
  have hq0 := hw
  have hLz_3 : z_3.length = 155 := by rw [hq0, List.length_set]; exact hM.1
  have hFz_3_0 : z_3[0]? = some (.ref qm0) := by rw [hq0, List.getElem?_set_ne (by decide)]; exact hM.2.1
  have hFz_3_1 : z_3[1]? = some (.int (nI 4)) := by rw [hq0, List.getElem?_set_self (by (try simp only [List.length_set]); rw [hM.1]; decide)]
  refine lv_aload_n hx hb dX13_feed_20 rfl (lv_at hl 0 rfl) ?_
  refine lv_iload_n hx hb dX13_feed_21 rfl (lv_at hl 2 rfl) ?_
  have hPc := hP.sub (ws' := [(h0, .inr (13, z_3)), (qm0, .inl (ct, 6000, .inl f_4))]) [0, 1] rfl
  have hDc := hD.sub (ws' := [(h0, .inr (13, z_3)), (qm0, .inl (ct, 6000, .inl f_4))]) [0, 1] (by decide) rfl
  have hKc := hK.sub (tys' := [(ct, .int)]) [0] rfl
  have hFc := va_free (wc := [(h0, .inr (13, z_3)), (qm0, .inl (ct, 6000, .inl f_4))]) hD hS hA [0, 1] rfl
  refine va_callv (va_runV (As := [.int a2]) (rest := []) ⟨hx, hb, hml, hown, hts⟩ (mm_lay l dC dI H.size h0 z_3 qm0 4 ct f_4 a2 hLz_3 hFz_3_0 hFz_3_1 (by decide)) (cwV 1 hts gv_c2_0 rfl rfl rfl (by decide +kernel) ⟨Nat.le_of_ble_eq_true rfl, Nat.le_of_ble_eq_true rfl⟩) ⟨fun a U g mk q => by obtain ⟨q0, q1, qP, qK, qD⟩ := q; exact ⟨q0, q1, qP, va_K.moved (u := U) (U := U.calling g mk a) (Vm.Alike.refl U.vm) qK, qD⟩, va_recv hKc hPc (ci := 13) (q0 := 0) rfl rfl, fun U hU hW => ⟨rfl, by rw [hU], by rw [hU]; exact hPc, va_K.moved hW.alike hKc, hDc.weaken (fun _ _ _ _ => trivial)⟩⟩ rfl rfl hl.1 rfl (lv_room (Nat.le_of_ble_eq_true rfl)) dX13_feed_22 ⟨Nat.le_of_ble_eq_true rfl, Nat.le_of_ble_eq_true rfl⟩) hS (fun q _ h => hFc q h) hFc ?_
  clear hS
  intro u t H1 locs ht hvm hw hB hz1 hk1 hS
  obtain ⟨z_5, f_6⟩ := u
  obtain ⟨hP1, hK1, hD1⟩ := hB
  rw [ht] at hP1
  have hK1 := va_K.moved hvm.symm hK1
  try dsimp only at hw
  have hPD := va_join (wr := []) (w1 := [(h0, .inr (13, z_5)), (qm0, .inl (ct, 6000, .inl f_6))]) hP hD [0, 1] [] rfl rfl (by decide) (by decide) hk1 hFc hP1 hD1
  clear hP hD
  obtain ⟨hP, hD⟩ := hPD
  replace hK := (hK.sub (tys' := []) [] rfl).app hK1
  clear hPc hDc hKc hFc hP1 hK1 hD1 hz1 hk1 ht hvm
  generalize H1 = H at hP hS ⊢
  replace hP : va_P (dC, dI) vwCl [(h0, .inr (13, z_5)), (qm0, .inl (ct, 6000, .inl f_6))] H := hP
  replace hD : va_D A [(h0, .inr (13, z_5)), (qm0, .inl (ct, 6000, .inl f_6))] := hD
  replace hK : va_K (dC, dI) vwCl [(ct, .int)] s := hK
  have hq1 := hw
  have hLz_5 : z_5.length = 155 := by rw [hq1, List.length_set]; exact hLz_3
  have hFz_5_0 : z_5[0]? = some (.ref qm0) := by rw [hq1, List.getElem?_set_ne (by decide)]; exact hFz_3_0
  have hFz_5_1 : z_5[1]? = some (.int (nI 8)) := by rw [hq1, List.getElem?_set_self (by (try simp only [List.length_set]); rw [hLz_3]; decide)]
  refine lv_aload_n hx hb dX13_feed_25 rfl (lv_at hl 0 rfl) ?_
  refine lv_iload_n hx hb dX13_feed_26 rfl (lv_at hl 3 rfl) ?_
  have hPc := hP.sub (ws' := [(h0, .inr (13, z_5)), (qm0, .inl (ct, 6000, .inl f_6))]) [0, 1] rfl
  have hDc := hD.sub (ws' := [(h0, .inr (13, z_5)), (qm0, .inl (ct, 6000, .inl f_6))]) [0, 1] (by decide) rfl
  have hKc := hK.sub (tys' := [(ct, .int)]) [0] rfl
  have hFc := va_free (wc := [(h0, .inr (13, z_5)), (qm0, .inl (ct, 6000, .inl f_6))]) hD hS hA [0, 1] rfl
  refine va_callv (va_runV (As := [.int a3]) (rest := []) ⟨hx, hb, hml, hown, hts⟩ (mm_lay l dC dI H.size h0 z_5 qm0 8 ct f_6 a3 hLz_5 hFz_5_0 hFz_5_1 (by decide)) (cwV 1 hts gv_c2_0 rfl rfl rfl (by decide +kernel) ⟨Nat.le_of_ble_eq_true rfl, Nat.le_of_ble_eq_true rfl⟩) ⟨fun a U g mk q => by obtain ⟨q0, q1, qP, qK, qD⟩ := q; exact ⟨q0, q1, qP, va_K.moved (u := U) (U := U.calling g mk a) (Vm.Alike.refl U.vm) qK, qD⟩, va_recv hKc hPc (ci := 13) (q0 := 0) rfl rfl, fun U hU hW => ⟨rfl, by rw [hU], by rw [hU]; exact hPc, va_K.moved hW.alike hKc, hDc.weaken (fun _ _ _ _ => trivial)⟩⟩ rfl rfl hl.1 rfl (lv_room (Nat.le_of_ble_eq_true rfl)) dX13_feed_27 ⟨Nat.le_of_ble_eq_true rfl, Nat.le_of_ble_eq_true rfl⟩) hS (fun q _ h => hFc q h) hFc ?_
  clear hS
  intro u t H1 locs ht hvm hw hB hz1 hk1 hS
  obtain ⟨z_7, f_8⟩ := u
  obtain ⟨hP1, hK1, hD1⟩ := hB
  rw [ht] at hP1
  have hK1 := va_K.moved hvm.symm hK1
  try dsimp only at hw
  have hPD := va_join (wr := []) (w1 := [(h0, .inr (13, z_7)), (qm0, .inl (ct, 6000, .inl f_8))]) hP hD [0, 1] [] rfl rfl (by decide) (by decide) hk1 hFc hP1 hD1
  clear hP hD
  obtain ⟨hP, hD⟩ := hPD
  replace hK := (hK.sub (tys' := []) [] rfl).app hK1
  clear hPc hDc hKc hFc hP1 hK1 hD1 hz1 hk1 ht hvm
  generalize H1 = H at hP hS ⊢
  replace hP : va_P (dC, dI) vwCl [(h0, .inr (13, z_7)), (qm0, .inl (ct, 6000, .inl f_8))] H := hP
  replace hD : va_D A [(h0, .inr (13, z_7)), (qm0, .inl (ct, 6000, .inl f_8))] := hD
  replace hK : va_K (dC, dI) vwCl [(ct, .int)] s := hK
  have hq2 := hw
  have hLz_7 : z_7.length = 155 := by rw [hq2, List.length_set]; exact hLz_5
  have hFz_7_0 : z_7[0]? = some (.ref qm0) := by rw [hq2, List.getElem?_set_ne (by decide)]; exact hFz_5_0
  have hFz_7_1 : z_7[1]? = some (.int (nI 12)) := by rw [hq2, List.getElem?_set_self (by (try simp only [List.length_set]); rw [hLz_5]; decide)]
  refine lv_aload_n hx hb dX13_feed_30 rfl (lv_at hl 0 rfl) ?_
  refine lv_iload hx hb dX13_feed_31 (lv_at hl 4 rfl) ?_
  have hPc := hP.sub (ws' := [(h0, .inr (13, z_7)), (qm0, .inl (ct, 6000, .inl f_8))]) [0, 1] rfl
  have hDc := hD.sub (ws' := [(h0, .inr (13, z_7)), (qm0, .inl (ct, 6000, .inl f_8))]) [0, 1] (by decide) rfl
  have hKc := hK.sub (tys' := [(ct, .int)]) [0] rfl
  have hFc := va_free (wc := [(h0, .inr (13, z_7)), (qm0, .inl (ct, 6000, .inl f_8))]) hD hS hA [0, 1] rfl
  refine va_callv (va_runV (As := [.int a4]) (rest := []) ⟨hx, hb, hml, hown, hts⟩ (mm_lay l dC dI H.size h0 z_7 qm0 12 ct f_8 a4 hLz_7 hFz_7_0 hFz_7_1 (by decide)) (cwV 1 hts gv_c2_0 rfl rfl rfl (by decide +kernel) ⟨Nat.le_of_ble_eq_true rfl, Nat.le_of_ble_eq_true rfl⟩) ⟨fun a U g mk q => by obtain ⟨q0, q1, qP, qK, qD⟩ := q; exact ⟨q0, q1, qP, va_K.moved (u := U) (U := U.calling g mk a) (Vm.Alike.refl U.vm) qK, qD⟩, va_recv hKc hPc (ci := 13) (q0 := 0) rfl rfl, fun U hU hW => ⟨rfl, by rw [hU], by rw [hU]; exact hPc, va_K.moved hW.alike hKc, hDc.weaken (fun _ _ _ _ => trivial)⟩⟩ rfl rfl hl.1 rfl (lv_room (Nat.le_of_ble_eq_true rfl)) dX13_feed_33 ⟨Nat.le_of_ble_eq_true rfl, Nat.le_of_ble_eq_true rfl⟩) hS (fun q _ h => hFc q h) hFc ?_
  clear hS
  intro u t H1 locs ht hvm hw hB hz1 hk1 hS
  obtain ⟨z_9, f_10⟩ := u
  obtain ⟨hP1, hK1, hD1⟩ := hB
  rw [ht] at hP1
  have hK1 := va_K.moved hvm.symm hK1
  try dsimp only at hw
  have hPD := va_join (wr := []) (w1 := [(h0, .inr (13, z_9)), (qm0, .inl (ct, 6000, .inl f_10))]) hP hD [0, 1] [] rfl rfl (by decide) (by decide) hk1 hFc hP1 hD1
  clear hP hD
  obtain ⟨hP, hD⟩ := hPD
  replace hK := (hK.sub (tys' := []) [] rfl).app hK1
  clear hPc hDc hKc hFc hP1 hK1 hD1 hz1 hk1 ht hvm
  generalize H1 = H at hP hS ⊢
  replace hP : va_P (dC, dI) vwCl [(h0, .inr (13, z_9)), (qm0, .inl (ct, 6000, .inl f_10))] H := hP
  replace hD : va_D A [(h0, .inr (13, z_9)), (qm0, .inl (ct, 6000, .inl f_10))] := hD
  replace hK : va_K (dC, dI) vwCl [(ct, .int)] s := hK
  have hq3 := hw
  have hLz_9 : z_9.length = 155 := by rw [hq3, List.length_set]; exact hLz_7
  have hFz_9_0 : z_9[0]? = some (.ref qm0) := by rw [hq3, List.getElem?_set_ne (by decide)]; exact hFz_7_0
  have hFz_9_1 : z_9[1]? = some (.int (nI 16)) := by rw [hq3, List.getElem?_set_self (by (try simp only [List.length_set]); rw [hLz_7]; decide)]
  refine lv_aload_n hx hb dX13_feed_36 rfl (lv_at hl 0 rfl) ?_
  refine lv_iload hx hb dX13_feed_37 (lv_at hl 5 rfl) ?_
  have hPc := hP.sub (ws' := [(h0, .inr (13, z_9)), (qm0, .inl (ct, 6000, .inl f_10))]) [0, 1] rfl
  have hDc := hD.sub (ws' := [(h0, .inr (13, z_9)), (qm0, .inl (ct, 6000, .inl f_10))]) [0, 1] (by decide) rfl
  have hKc := hK.sub (tys' := [(ct, .int)]) [0] rfl
  have hFc := va_free (wc := [(h0, .inr (13, z_9)), (qm0, .inl (ct, 6000, .inl f_10))]) hD hS hA [0, 1] rfl
  refine va_callv (va_runV (As := [.int a5]) (rest := []) ⟨hx, hb, hml, hown, hts⟩ (mm_lay l dC dI H.size h0 z_9 qm0 16 ct f_10 a5 hLz_9 hFz_9_0 hFz_9_1 (by decide)) (cwV 1 hts gv_c2_0 rfl rfl rfl (by decide +kernel) ⟨Nat.le_of_ble_eq_true rfl, Nat.le_of_ble_eq_true rfl⟩) ⟨fun a U g mk q => by obtain ⟨q0, q1, qP, qK, qD⟩ := q; exact ⟨q0, q1, qP, va_K.moved (u := U) (U := U.calling g mk a) (Vm.Alike.refl U.vm) qK, qD⟩, va_recv hKc hPc (ci := 13) (q0 := 0) rfl rfl, fun U hU hW => ⟨rfl, by rw [hU], by rw [hU]; exact hPc, va_K.moved hW.alike hKc, hDc.weaken (fun _ _ _ _ => trivial)⟩⟩ rfl rfl hl.1 rfl (lv_room (Nat.le_of_ble_eq_true rfl)) dX13_feed_39 ⟨Nat.le_of_ble_eq_true rfl, Nat.le_of_ble_eq_true rfl⟩) hS (fun q _ h => hFc q h) hFc ?_
  clear hS
  intro u t H1 locs ht hvm hw hB hz1 hk1 hS
  obtain ⟨z_11, f_12⟩ := u
  obtain ⟨hP1, hK1, hD1⟩ := hB
  rw [ht] at hP1
  have hK1 := va_K.moved hvm.symm hK1
  try dsimp only at hw
  have hPD := va_join (wr := []) (w1 := [(h0, .inr (13, z_11)), (qm0, .inl (ct, 6000, .inl f_12))]) hP hD [0, 1] [] rfl rfl (by decide) (by decide) hk1 hFc hP1 hD1
  clear hP hD
  obtain ⟨hP, hD⟩ := hPD
  replace hK := (hK.sub (tys' := []) [] rfl).app hK1
  clear hPc hDc hKc hFc hP1 hK1 hD1 hz1 hk1 ht hvm
  generalize H1 = H at hP hS ⊢
  replace hP : va_P (dC, dI) vwCl [(h0, .inr (13, z_11)), (qm0, .inl (ct, 6000, .inl f_12))] H := hP
  replace hD : va_D A [(h0, .inr (13, z_11)), (qm0, .inl (ct, 6000, .inl f_12))] := hD
  replace hK : va_K (dC, dI) vwCl [(ct, .int)] s := hK
  have hq4 := hw
  have hLz_11 : z_11.length = 155 := by rw [hq4, List.length_set]; exact hLz_9
  have hFz_11_0 : z_11[0]? = some (.ref qm0) := by rw [hq4, List.getElem?_set_ne (by decide)]; exact hFz_9_0
  have hFz_11_1 : z_11[1]? = some (.int (nI 20)) := by rw [hq4, List.getElem?_set_self (by (try simp only [List.length_set]); rw [hLz_9]; decide)]
  refine lv_aload_n hx hb dX13_feed_42 rfl (lv_at hl 0 rfl) ?_
  refine va_get (D := (dC, dI)) (ci := 13) (v := .int (nI 20)) (C := RX13) (T := TX13) (N := 155) hx hb hts uV_c2_X13 hown hK hP 0 rfl rfl 1 (by decide) (hts (.fieldLink RX13 312 "ClassMillModel" "taped" "I") mw_c2_1) (fun _ h9 => h9) hFz_11_1 dX13_feed_43 ?_
  have hP9 := hP.sub (ws' := []) [] rfl
  have hD9 := hD.sub (ws' := []) [] (by decide) rfl
  have hK9 := hK.sub (tys' := []) [] rfl
  exact W.iret hx hb hr (fun t ht hW => ⟨⟨((nI 20)), (), rfl, rfl, by rw [ht]; exact hP9, va_K.moved hW.alike hK9, hD9⟩, hS.F ht⟩) hS.2.2 dX13_feed_46
def an_super (a : Int32) : Int32 := if a = 0 then -1 else if a = 1 then 0 else 1
theorem lf_super_39 (a1 : Int32) (c_2 : ¬ a1 = 0) (c_3 : ¬ a1 = 1) : (1 : Int32) = an_super a1 := by
  first | rfl | (subst_vars; rfl) | (simp_all [an_super]; done) | (subst_vars; simp_all [an_super]; done) | (unfold an_super; (repeat' split) <;> first | rfl | (exfalso; simp_all; done))
theorem lf_super_40 (a1 : Int32) (c_2 : ¬ a1 = 0) (c_3 : a1 = 1) : (0 : Int32) = an_super a1 := by
  first | rfl | (subst_vars; rfl) | (simp_all [an_super]; done) | (subst_vars; simp_all [an_super]; done) | (unfold an_super; (repeat' split) <;> first | rfl | (exfalso; simp_all; done))
theorem lf_super_41 (a1 : Int32) (c_2 : a1 = 0) : ((-1) : Int32) = an_super a1 := by
  first | rfl | (subst_vars; rfl) | (simp_all [an_super]; done) | (subst_vars; simp_all [an_super]; done) | (unfold an_super; (repeat' split) <;> first | rfl | (exfalso; simp_all; done))
set_option maxHeartbeats 4000000 in
set_option maxRecDepth 100000 in
/-- superOf of a class of the language -/
theorem mm_superOf (l : Launch) (dC : Nat → ClassId) (dI : Nat → Nat → Nat) (sz : Nat) (h0 : Nat) (fs : List Value) (a1 : Int32) (h8 : ¬ 8 ≤ a1) : Met l yX13_superOf (.code yX13_superOf cX13_superOf 2 (some .int) :: VS_c2) ({ frames := 0, cells := 0, slots := 0, locals := 0 }) (va_Pc [.ref h0, .int a1] (fun U => U.heap.size = sz ∧ va_P (dC, dI) vwCl [(h0, .inr (13, fs))] U.heap ∧ va_K (dC, dI) vwCl [] U ∧ va_D (fun _ => True) [(h0, .inr (13, fs))])) (va_Qi (fun (r : Int32) (u : Unit) => match u with | () => r = an_super a1) (fun (u : Unit) (t : State) => match u with | () => va_P (dC, dI) vwCl [] t.heap ∧ va_K (dC, dI) vwCl [] t ∧ va_D (va_A [(h0, .inr (13, fs))] sz) []) (va_A [(h0, .inr (13, fs))] sz)) 0 0 (va_A [(h0, .inr (13, fs))] sz) := by
  refine Met.ofW (cc := cX13_superOf) (maxL := 2) (ret := (some .int)) (by decide) rfl ?_
  intro p e s m args below meth c s₁ B hml hv
  obtain ⟨rfl, hsz, hP, hK, hD0⟩ := hv
  have hx := B.exec
  have hb := B.bytes
  have hr := B.returns
  have hts := atoms_spec (ws := (.code yX13_superOf cX13_superOf 2 (some .int) :: VS_c2)) B.pre
  replace hts := fun w (h : w ∈ VS_c2) => hts w (List.mem_cons_of_mem _ h)
  have hown : s.vm.findClass RX13 = some m.cls := findClass_of_methodNamed B.named
  have hlocks := B.notSynchronized
  subst hsz
  have hD := hD0.self (sz := s.heap.size)
  generalize hAe : va_A [(h0, .inr (13, fs))] s.heap.size = A at hD  ⊢
  have hA : ∀ q : Nat, s.heap.size ≤ q → A q := fun q h => by rw [← hAe]; exact Or.inr h
  have hP : va_P (dC, dI) vwCl [(h0, .inr (13, fs))] s.heap := hP
  have hl := lv_entry ([.ref h0, .int a1]) (n := 2) (Nat.le_of_ble_eq_true rfl)
  rw [lg_entry_eq]
  generalize (lg_sl ([.ref h0, .int a1]) ++ List.replicate (2 - (lg_sl ([.ref h0, .int a1])).length) Slot.unset).toArray = ls at hl ⊢
  have hl : lv_has ls 2 [(0, .ref h0), (1, .int a1)] := hl
  obtain ⟨H, hH⟩ : ∃ H : Heap, s.heap = H := ⟨_, rfl⟩
  rw [hH] at hP ⊢
  have hS : va_S A s.heap H [] := by rw [← hH]; exact va_S.rf
  obtain ⟨locs, hlo⟩ : ∃ locs : List Loc, locs = [] := ⟨_, rfl⟩
  rw [← hlo] at hS ⊢
  refine lv_iload_n hx hb dX13_superOf_0 rfl (lv_at hl 1 rfl) ?_
  refine lv_bipush (v := 8) hx hb dX13_superOf_1 (by decide) ?_
  refine lv_icmp_ge (tgt := 25) hx hb dX13_superOf_3 (by decide) (fun c_1 => ?_) (fun c_1 => ?_)
  · have c_1_ := c_1
    exact absurd c_1 h8
  · have c_1_ := c_1
    refine lv_iload_n hx hb dX13_superOf_6 rfl (lv_at hl 1 rfl) ?_
    refine lv_if_ne (tgt := 14) hx hb dX13_superOf_7 (by decide) (fun c_2 => ?_) (fun c_2 => ?_)
    · have c_2_ := c_2
      refine lv_iload_n hx hb dX13_superOf_14 rfl (lv_at hl 1 rfl) ?_
      refine lv_iconst (v := 1) hx hb dX13_superOf_15 (by decide) ?_
      refine lv_icmp_ne (tgt := 23) hx hb dX13_superOf_16 (by decide) (fun c_3 => ?_) (fun c_3 => ?_)
      · have c_3_ := c_3
        refine lv_iconst (v := 1) hx hb dX13_superOf_23 (by decide) ?_
        have hP9 := hP.sub (ws' := []) [] rfl
        have hD9 := hD.sub (ws' := []) [] (by decide) rfl
        have hK9 := hK.sub (tys' := []) [] rfl
        exact W.iret hx hb hr (fun t ht hW => ⟨⟨(1), (), rfl, lf_super_39 a1 c_2 c_3, by rw [ht]; exact hP9, va_K.moved hW.alike hK9, hD9⟩, hS.F ht⟩) hS.2.2 dX13_superOf_24
      · have c_3_ := c_3
        refine lv_iconst (v := 0) hx hb dX13_superOf_19 (by decide) ?_
        refine lv_goto (tgt := 24) hx hb dX13_superOf_20 (by decide) ?_
        have hP9 := hP.sub (ws' := []) [] rfl
        have hD9 := hD.sub (ws' := []) [] (by decide) rfl
        have hK9 := hK.sub (tys' := []) [] rfl
        exact W.iret hx hb hr (fun t ht hW => ⟨⟨(0), (), rfl, lf_super_40 a1 c_2 c_3, by rw [ht]; exact hP9, va_K.moved hW.alike hK9, hD9⟩, hS.F ht⟩) hS.2.2 dX13_superOf_24
    · have c_2_ := c_2
      refine lv_iconst (v := (-1)) hx hb dX13_superOf_10 (by decide) ?_
      refine lv_goto (tgt := 24) hx hb dX13_superOf_11 (by decide) ?_
      have hP9 := hP.sub (ws' := []) [] rfl
      have hD9 := hD.sub (ws' := []) [] (by decide) rfl
      have hK9 := hK.sub (tys' := []) [] rfl
      exact W.iret hx hb hr (fun t ht hW => ⟨⟨((-1)), (), rfl, lf_super_41 a1 c_2, by rw [ht]; exact hP9, va_K.moved hW.alike hK9, hD9⟩, hS.F ht⟩) hS.2.2 dX13_superOf_24
def an_type2 (a b : Int32) : Int32 := if a < 0 then -1 else if 8 ≤ a then -1 else if b < 0 then -1 else if b ≤ 4 then (if b = 0 then an_super a else 0) else -1
theorem sub8_neg {a : Int32} (h0 : ¬ a < 0) (h8 : ¬ 8 ≤ a) : a - 8 < 0 := by
  rcases pk_ix a (n := 8) (by decide) with q | q | ⟨j, hj, rfl⟩
  · exact absurd q h0
  · exact absurd q h8
  · exact pk_sneg (by decide) hj
theorem lf_type2_42 (a1 a2 : Int32) (c_1 : a1 < 0) : ((-1) : Int32) = an_type2 a1 a2 := by
  first | rfl | (subst_vars; rfl) | (simp_all [an_type2]; done) | (subst_vars; simp_all [an_type2]; done) | (unfold an_type2; (repeat' split) <;> first | rfl | (exfalso; simp_all; done))
theorem lf_type2_43 (a1 a2 : Int32) (c_1 : ¬ a1 < 0) (c_3 : 8 ≤ a1) : ((-1) : Int32) = an_type2 a1 a2 := by
  first | rfl | (subst_vars; rfl) | (simp_all [an_type2]; done) | (subst_vars; simp_all [an_type2]; done) | (unfold an_type2; (repeat' split) <;> first | rfl | (exfalso; simp_all; done))
theorem lf_type2_44 (a1 a2 : Int32) (c_1 : ¬ a1 < 0) (c_3 : ¬ 8 ≤ a1) (c_4 : a2 < 0) : ((-1) : Int32) = an_type2 a1 a2 := by
  first | rfl | (subst_vars; rfl) | (simp_all [an_type2]; done) | (subst_vars; simp_all [an_type2]; done) | (unfold an_type2; (repeat' split) <;> first | rfl | (exfalso; simp_all; done))
theorem lf_type2_45 (a1 a2 y_7 : Int32) (c_1 : ¬ a1 < 0) (c_3 : ¬ 8 ≤ a1) (c_4 : ¬ a2 < 0) (c_5 : a2 ≤ 4) (c_6 : ¬ a2 = 0) (c_8 : ¬ 0 ≤ y_7) : (0 : Int32) = an_type2 a1 a2 := by
  first | rfl | (subst_vars; rfl) | (simp_all [an_type2]; done) | (subst_vars; simp_all [an_type2]; done) | (unfold an_type2; (repeat' split) <;> first | rfl | (exfalso; simp_all; done))
theorem lf_type2_46 (a1 a2 : Int32) (c_1 : ¬ a1 < 0) (c_3 : ¬ 8 ≤ a1) (c_4 : ¬ a2 < 0) (c_5 : a2 ≤ 4) (c_6 : a2 = 0) : ((an_super a1) : Int32) = an_type2 a1 a2 := by
  first | rfl | (subst_vars; rfl) | (simp_all [an_type2]; done) | (subst_vars; simp_all [an_type2]; done) | (unfold an_type2; (repeat' split) <;> first | rfl | (exfalso; simp_all; done))
theorem lf_type2_47 (a1 a2 : Int32) (c_1 : ¬ a1 < 0) (c_3 : ¬ 8 ≤ a1) (c_4 : ¬ a2 < 0) (c_5 : ¬ a2 ≤ 4) : ((-1) : Int32) = an_type2 a1 a2 := by
  first | rfl | (subst_vars; rfl) | (simp_all [an_type2]; done) | (subst_vars; simp_all [an_type2]; done) | (unfold an_type2; (repeat' split) <;> first | rfl | (exfalso; simp_all; done))
set_option maxHeartbeats 4000000 in
set_option maxRecDepth 100000 in
/-- mm_type -/
theorem mm_type (l : Launch) (dC : Nat → ClassId) (dI : Nat → Nat → Nat) (sz : Nat) (h0 : Nat) (qm0 qm1 qm2 qm3 qm4 qm5 : Nat) (fsM : List Value) (a1 a2 : Int32) (hM : pm_F fsM qm0 qm1 qm2 qm3 qm4 qm5) : Met l yX13_type_ (.code yX13_type_ cX13_type_ 4 (some .int) :: VS_c2) ({ frames := 1, cells := 0, slots := 0, locals := 21 }) (va_Pc [.ref h0, .int a1, .int a2] (fun U => U.heap.size = sz ∧ va_P (dC, dI) vwCl [(h0, .inr (13, fsM))] U.heap ∧ va_K (dC, dI) vwCl [] U ∧ va_D (fun _ => True) [(h0, .inr (13, fsM))])) (va_Qi (fun (r : Int32) (u : Unit) => match u with | () => r = an_type2 a1 a2) (fun (u : Unit) (t : State) => match u with | () => va_P (dC, dI) vwCl [] t.heap ∧ va_K (dC, dI) vwCl [] t ∧ va_D (va_A [(h0, .inr (13, fsM))] sz) []) (va_A [(h0, .inr (13, fsM))] sz)) 0 0 (va_A [(h0, .inr (13, fsM))] sz) := by
  refine Met.ofW (cc := cX13_type_) (maxL := 4) (ret := (some .int)) (by decide) rfl ?_
  intro p e s m args below meth c s₁ B hml hv
  obtain ⟨rfl, hsz, hP, hK, hD0⟩ := hv
  have hx := B.exec
  have hb := B.bytes
  have hr := B.returns
  have hts := atoms_spec (ws := (.code yX13_type_ cX13_type_ 4 (some .int) :: VS_c2)) B.pre
  replace hts := fun w (h : w ∈ VS_c2) => hts w (List.mem_cons_of_mem _ h)
  have hown : s.vm.findClass RX13 = some m.cls := findClass_of_methodNamed B.named
  have hlocks := B.notSynchronized
  subst hsz
  have hD := hD0.self (sz := s.heap.size)
  generalize hAe : va_A [(h0, .inr (13, fsM))] s.heap.size = A at hD  ⊢
  have hA : ∀ q : Nat, s.heap.size ≤ q → A q := fun q h => by rw [← hAe]; exact Or.inr h
  have hP : va_P (dC, dI) vwCl [(h0, .inr (13, fsM))] s.heap := hP
  have hl := lv_entry ([.ref h0, .int a1, .int a2]) (n := 4) (Nat.le_of_ble_eq_true rfl)
  rw [lg_entry_eq]
  generalize (lg_sl ([.ref h0, .int a1, .int a2]) ++ List.replicate (4 - (lg_sl ([.ref h0, .int a1, .int a2])).length) Slot.unset).toArray = ls at hl ⊢
  have hl : lv_has ls 4 [(0, .ref h0), (1, .int a1), (2, .int a2)] := hl
  obtain ⟨H, hH⟩ : ∃ H : Heap, s.heap = H := ⟨_, rfl⟩
  rw [hH] at hP ⊢
  have hS : va_S A s.heap H [] := by rw [← hH]; exact va_S.rf
  obtain ⟨locs, hlo⟩ : ∃ locs : List Loc, locs = [] := ⟨_, rfl⟩
  rw [← hlo] at hS ⊢
  refine lv_iload_n hx hb dX13_type__0 rfl (lv_at hl 1 rfl) ?_
  refine lv_if_lt (tgt := 24) hx hb dX13_type__1 (by decide) (fun c_1 => ?_) (fun c_1 => ?_)
  · have c_1_ := c_1
    refine lv_iconst (v := (-1)) hx hb dX13_type__24 (by decide) ?_
    have hP9 := hP.sub (ws' := []) [] rfl
    have hD9 := hD.sub (ws' := []) [] (by decide) rfl
    have hK9 := hK.sub (tys' := []) [] rfl
    exact W.iret hx hb hr (fun t ht hW => ⟨⟨((-1)), (), rfl, lf_type2_42 a1 a2 c_1, by rw [ht]; exact hP9, va_K.moved hW.alike hK9, hD9⟩, hS.F ht⟩) hS.2.2 dX13_type__25
  · have c_1_ := c_1
    refine lv_iload_n hx hb dX13_type__4 rfl (lv_at hl 1 rfl) ?_
    refine lv_bipush (v := 8) hx hb dX13_type__5 (by decide) ?_
    refine lv_aload_n hx hb dX13_type__7 rfl (lv_at hl 0 rfl) ?_
    refine va_get (D := (dC, dI)) (ci := 13) (v := .int 0) (C := RX13) (T := TX13) (N := 155) hx hb hts uV_c2_X13 hown hK hP 0 rfl rfl 98 (by decide) (hts (.fieldLink RX13 833 "ClassMillModel" "there" "I") mw_c2_11) (fun _ h9 => h9) hM.2.2.2.2.2.2.2.2.2.2.2.2.2.2.2.2.2.2.1 dX13_type__8 ?_
    refine lv_iadd hx hb dX13_type__11 ?_
    refine lv_topi (fun y_2 ey_2 => ?_)
    obtain rfl : y_2 = 8 := ey_2.trans (by decide)
    refine lv_icmp_ge (tgt := 24) hx hb dX13_type__12 (by decide) (fun c_3 => ?_) (fun c_3 => ?_)
    · have c_3_ := c_3
      refine lv_iconst (v := (-1)) hx hb dX13_type__24 (by decide) ?_
      have hP9 := hP.sub (ws' := []) [] rfl
      have hD9 := hD.sub (ws' := []) [] (by decide) rfl
      have hK9 := hK.sub (tys' := []) [] rfl
      exact W.iret hx hb hr (fun t ht hW => ⟨⟨((-1)), (), rfl, lf_type2_43 a1 a2 c_1 c_3, by rw [ht]; exact hP9, va_K.moved hW.alike hK9, hD9⟩, hS.F ht⟩) hS.2.2 dX13_type__25
    · have c_3_ := c_3
      refine lv_iload_n hx hb dX13_type__15 rfl (lv_at hl 2 rfl) ?_
      refine lv_if_lt (tgt := 24) hx hb dX13_type__16 (by decide) (fun c_4 => ?_) (fun c_4 => ?_)
      · have c_4_ := c_4
        refine lv_iconst (v := (-1)) hx hb dX13_type__24 (by decide) ?_
        have hP9 := hP.sub (ws' := []) [] rfl
        have hD9 := hD.sub (ws' := []) [] (by decide) rfl
        have hK9 := hK.sub (tys' := []) [] rfl
        exact W.iret hx hb hr (fun t ht hW => ⟨⟨((-1)), (), rfl, lf_type2_44 a1 a2 c_1 c_3 c_4, by rw [ht]; exact hP9, va_K.moved hW.alike hK9, hD9⟩, hS.F ht⟩) hS.2.2 dX13_type__25
      · have c_4_ := c_4
        refine lv_iload_n hx hb dX13_type__19 rfl (lv_at hl 2 rfl) ?_
        refine lv_iconst (v := 4) hx hb dX13_type__20 (by decide) ?_
        refine lv_icmp_le (tgt := 26) hx hb dX13_type__21 (by decide) (fun c_5 => ?_) (fun c_5 => ?_)
        · have c_5_ := c_5
          refine lv_iload_n hx hb dX13_type__26 rfl (lv_at hl 2 rfl) ?_
          refine lv_if_ne (tgt := 36) hx hb dX13_type__27 (by decide) (fun c_6 => ?_) (fun c_6 => ?_)
          · have c_6_ := c_6
            refine lv_iload_n hx hb dX13_type__36 rfl (lv_at hl 1 rfl) ?_
            refine lv_bipush (v := 8) hx hb dX13_type__37 (by decide) ?_
            refine lv_isub hx hb dX13_type__39 ?_
            refine lv_topi (fun y_7 ey_7 => ?_)
            refine lv_istore_n (lv' := [(3, .int y_7), (0, .ref h0), (1, .int a1), (2, .int a2)]) hx hb dX13_type__40 rfl hl (by decide) rfl (fun ls hl => ?_)
            refine lv_iload_n hx hb dX13_type__41 rfl (lv_at hl 0 rfl) ?_
            refine lv_if_ge (tgt := 47) hx hb dX13_type__42 (by decide) (fun c_8 => ?_) (fun c_8 => ?_)
            · have c_8_ := c_8
              exact absurd (sub8_neg c_1 c_3) (Int32.not_lt.mpr (by rw [← ey_7]; exact c_8))
            · have c_8_ := c_8
              refine lv_iconst (v := 0) hx hb dX13_type__45 (by decide) ?_
              have hP9 := hP.sub (ws' := []) [] rfl
              have hD9 := hD.sub (ws' := []) [] (by decide) rfl
              have hK9 := hK.sub (tys' := []) [] rfl
              exact W.iret hx hb hr (fun t ht hW => ⟨⟨(0), (), rfl, lf_type2_45 a1 a2 y_7 c_1 c_3 c_4 c_5 c_6 c_8, by rw [ht]; exact hP9, va_K.moved hW.alike hK9, hD9⟩, hS.F ht⟩) hS.2.2 dX13_type__46
          · have c_6_ := c_6
            refine lv_aload_n hx hb dX13_type__30 rfl (lv_at hl 0 rfl) ?_
            refine lv_iload_n hx hb dX13_type__31 rfl (lv_at hl 1 rfl) ?_
            have hPc := hP.sub (ws' := [(h0, .inr (13, fsM))]) [0] rfl
            have hDc := hD.sub (ws' := [(h0, .inr (13, fsM))]) [0] (by decide) rfl
            have hKc := hK.sub (tys' := []) [] rfl
            have hFc := va_free (wc := [(h0, .inr (13, fsM))]) hD hS hA [0] rfl
            refine va_calli (va_runV (As := [.int a1]) (rest := []) ⟨hx, hb, hml, hown, hts⟩ (mm_superOf l dC dI H.size h0 fsM a1 (by first | assumption | (rw [show (8 : Int32) = 8 + 0 from rfl]; assumption))) (cwV 1 hts gv_c2_1 rfl rfl rfl (by decide +kernel) ⟨Nat.le_of_ble_eq_true rfl, Nat.le_of_ble_eq_true rfl⟩) ⟨fun a U g mk q => by obtain ⟨q0, q1, qP, qK, qD⟩ := q; exact ⟨q0, q1, qP, va_K.moved (u := U) (U := U.calling g mk a) (Vm.Alike.refl U.vm) qK, qD⟩, va_recv hKc hPc (ci := 13) (q0 := 0) rfl rfl, fun U hU hW => ⟨rfl, by rw [hU], by rw [hU]; exact hPc, va_K.moved hW.alike hKc, hDc.weaken (fun _ _ _ _ => trivial)⟩⟩ rfl rfl hl.1 rfl (lv_room (Nat.le_of_ble_eq_true rfl)) dX13_type__32 ⟨Nat.le_of_ble_eq_true rfl, Nat.le_of_ble_eq_true rfl⟩) hS (fun q _ h => hFc q h) hFc ?_
            clear hS
            intro r_9 u t H1 locs ht hvm hw hB hz1 hk1 hS
            obtain ⟨⟩ := u
            obtain ⟨hP1, hK1, hD1⟩ := hB
            rw [ht] at hP1
            have hK1 := va_K.moved hvm.symm hK1
            try dsimp only at hw
            have hPD := va_join (wr := []) (w1 := []) hP hD [0] [] rfl rfl (by decide) (by decide) hk1 hFc hP1 hD1
            clear hP hD
            obtain ⟨hP, hD⟩ := hPD
            replace hK := (hK.sub (tys' := []) [] rfl).app hK1
            clear hPc hDc hKc hFc hP1 hK1 hD1 hz1 hk1 ht hvm
            generalize H1 = H at hP hS ⊢
            replace hP : va_P (dC, dI) vwCl [] H := hP
            replace hD : va_D A [] := hD
            replace hK : va_K (dC, dI) vwCl [] s := hK
            subst hw
            have hP9 := hP.sub (ws' := []) [] rfl
            have hD9 := hD.sub (ws' := []) [] (by decide) rfl
            have hK9 := hK.sub (tys' := []) [] rfl
            exact W.iret hx hb hr (fun t ht hW => ⟨⟨((an_super a1)), (), rfl, lf_type2_46 a1 a2 c_1 c_3 c_4 c_5 c_6, by rw [ht]; exact hP9, va_K.moved hW.alike hK9, hD9⟩, hS.F ht⟩) hS.2.2 dX13_type__35
        · have c_5_ := c_5
          refine lv_iconst (v := (-1)) hx hb dX13_type__24 (by decide) ?_
          have hP9 := hP.sub (ws' := []) [] rfl
          have hD9 := hD.sub (ws' := []) [] (by decide) rfl
          have hK9 := hK.sub (tys' := []) [] rfl
          exact W.iret hx hb hr (fun t ht hW => ⟨⟨((-1)), (), rfl, lf_type2_47 a1 a2 c_1 c_3 c_4 c_5, by rw [ht]; exact hP9, va_K.moved hW.alike hK9, hD9⟩, hS.F ht⟩) hS.2.2 dX13_type__25
set_option maxHeartbeats 4000000 in
set_option maxRecDepth 100000 in
/-- isByte: the bytes are missing -/
theorem mm_isByte0 (l : Launch) (dC : Nat → ClassId) (dI : Nat → Nat → Nat) (sz : Nat) (h0 : Nat) (fs : List Value) (a1 : Int32) (hlen : fs.length = 155) (hf114 : fs[114]? = some (.int (-1))) (hf113 : fs[113]? = some (.int 0)) (h0a : ¬ a1 < 0) : Met l yX13_isByte (.code yX13_isByte cX13_isByte 2 (some .boolean) :: VS_c2) ({ frames := 0, cells := 0, slots := 0, locals := 0 }) (va_Pc [.ref h0, .int a1] (fun U => U.heap.size = sz ∧ va_P (dC, dI) vwCl [(h0, .inr (13, fs))] U.heap ∧ va_K (dC, dI) vwCl [] U ∧ va_D (fun _ => True) [(h0, .inr (13, fs))])) (va_Qi (fun (r : Int32) (u : (List Value)) => match u with | (zo1) => r = 0 ∧ zo1 = fs.set 114 (.int 0)) (fun (u : (List Value)) (t : State) => match u with | (zo1) => va_P (dC, dI) vwCl [(h0, .inr (13, zo1))] t.heap ∧ va_K (dC, dI) vwCl [] t ∧ va_D (va_A [(h0, .inr (13, fs))] sz) [(h0, .inr (13, zo1))]) (va_A [(h0, .inr (13, fs))] sz)) 0 0 (va_A [(h0, .inr (13, fs))] sz) := by
  refine Met.ofW (cc := cX13_isByte) (maxL := 2) (ret := (some .boolean)) (by decide) rfl ?_
  intro p e s m args below meth c s₁ B hml hv
  obtain ⟨rfl, hsz, hP, hK, hD0⟩ := hv
  have hx := B.exec
  have hb := B.bytes
  have hr := B.returns
  have hts := atoms_spec (ws := (.code yX13_isByte cX13_isByte 2 (some .boolean) :: VS_c2)) B.pre
  replace hts := fun w (h : w ∈ VS_c2) => hts w (List.mem_cons_of_mem _ h)
  have hown : s.vm.findClass RX13 = some m.cls := findClass_of_methodNamed B.named
  have hlocks := B.notSynchronized
  subst hsz
  have hD := hD0.self (sz := s.heap.size)
  generalize hAe : va_A [(h0, .inr (13, fs))] s.heap.size = A at hD  ⊢
  have hA : ∀ q : Nat, s.heap.size ≤ q → A q := fun q h => by rw [← hAe]; exact Or.inr h
  have hP : va_P (dC, dI) vwCl [(h0, .inr (13, fs))] s.heap := hP
  have hl := lv_entry ([.ref h0, .int a1]) (n := 2) (Nat.le_of_ble_eq_true rfl)
  rw [lg_entry_eq]
  generalize (lg_sl ([.ref h0, .int a1]) ++ List.replicate (2 - (lg_sl ([.ref h0, .int a1])).length) Slot.unset).toArray = ls at hl ⊢
  have hl : lv_has ls 2 [(0, .ref h0), (1, .int a1)] := hl
  obtain ⟨H, hH⟩ : ∃ H : Heap, s.heap = H := ⟨_, rfl⟩
  rw [hH] at hP ⊢
  have hS : va_S A s.heap H [] := by rw [← hH]; exact va_S.rf
  obtain ⟨locs, hlo⟩ : ∃ locs : List Loc, locs = [] := ⟨_, rfl⟩
  rw [← hlo] at hS ⊢
  refine lv_aload_n hx hb dX13_isByte_0 rfl (lv_at hl 0 rfl) ?_
  refine va_get (D := (dC, dI)) (ci := 13) (v := .int (-1)) (C := RX13) (T := TX13) (N := 155) hx hb hts uV_c2_X13 hown hK hP 0 rfl rfl 114 (by decide) (hts (.fieldLink RX13 764 "ClassMillModel" "form" "I") mw_c2_12) (fun _ h9 => h9) hf114 dX13_isByte_1 ?_
  refine lv_iconst (v := (-1)) hx hb dX13_isByte_4 (by decide) ?_
  refine lv_icmp_eq (tgt := 10) hx hb dX13_isByte_5 (by decide) (fun c_1 => ?_) (fun c_1 => (show False by revert c_1; decide).elim)
  refine lv_iload_n hx hb dX13_isByte_10 rfl (lv_at hl 1 rfl) ?_
  refine lv_aload_n hx hb dX13_isByte_11 rfl (lv_at hl 0 rfl) ?_
  refine va_get (D := (dC, dI)) (ci := 13) (v := .int 0) (C := RX13) (T := TX13) (N := 155) hx hb hts uV_c2_X13 hown hK hP 0 rfl rfl 113 (by decide) (hts (.fieldLink RX13 767 "ClassMillModel" "lookSize" "I") mw_c2_13) (fun _ h9 => h9) hf113 dX13_isByte_12 ?_
  refine lv_icmp_lt (tgt := 26) hx hb dX13_isByte_15 (by decide) (fun c_2 => absurd c_2 h0a) (fun c_2 => ?_)
  refine lv_aload_n hx hb dX13_isByte_18 rfl (lv_at hl 0 rfl) ?_
  refine lv_aload_n hx hb dX13_isByte_19 rfl (lv_at hl 0 rfl) ?_
  refine va_get (D := (dC, dI)) (ci := 13) (v := .int 0) (C := RX13) (T := TX13) (N := 155) hx hb hts uV_c2_X13 hown hK hP 0 rfl rfl 113 (by decide) (hts (.fieldLink RX13 767 "ClassMillModel" "lookSize" "I") mw_c2_13) (fun _ h9 => h9) hf113 dX13_isByte_20 ?_
  refine va_put (D := (dC, dI)) (ci := 13) (v := .int 0) (ty := .int) (C := RX13) (T := TX13) (N := 155) hx hb hts uV_c2_X13 tyX13 tyX13_ok nmX13 hown hK hP hD hS 0 rfl rfl 114 (by decide) (hts (.fieldLink RX13 764 "ClassMillModel" "form" "I") mw_c2_12) (fun _ h9 => h9) rfl (by decide +kernel) rfl rfl (by rw [hlen]; decide) dX13_isByte_23 ?_
  clear hP hD hS
  intro H locs hP hD hS
  obtain ⟨fs_3, efs_3⟩ : ∃ zf : List Value, zf = fs.set 114 (.int 0) := ⟨_, rfl⟩
  rw [← efs_3] at hP hD
  have hlfs_3 : fs_3.length = 155 := by rw [efs_3, List.length_set]; exact hlen
  have hfs_3_113 : fs_3[113]? = some (.int 0) := by rw [efs_3, List.getElem?_set_ne (by decide)]; exact hf113
  have hfs_3_114 : fs_3[114]? = some (.int 0) := by rw [efs_3, List.getElem?_set_self (by rw [hlen]; decide)]
  replace hP : va_P (dC, dI) vwCl [(h0, .inr (13, fs_3))] H := hP
  replace hD : va_D A [(h0, .inr (13, fs_3))] := hD
  refine lv_aload_n hx hb dX13_isByte_26 rfl (lv_at hl 0 rfl) ?_
  refine va_get (D := (dC, dI)) (ci := 13) (v := .int 0) (C := RX13) (T := TX13) (N := 155) hx hb hts uV_c2_X13 hown hK hP 0 rfl rfl 114 (by decide) (hts (.fieldLink RX13 764 "ClassMillModel" "form" "I") mw_c2_12) (fun _ h9 => h9) hfs_3_114 dX13_isByte_27 ?_
  refine lv_iconst (v := (-1)) hx hb dX13_isByte_30 (by decide) ?_
  refine lv_icmp_ne (tgt := 38) hx hb dX13_isByte_31 (by decide) (fun c_4 => ?_) (fun c_4 => (show False by revert c_4; decide).elim)
  refine lv_iconst (v := 0) hx hb dX13_isByte_38 (by decide) ?_
  obtain ⟨z_5, ez_5⟩ : ∃ z : List Value, z = fs_3 := ⟨_, rfl⟩
  rw [← ez_5] at hP hD
  replace hP : va_P (dC, dI) vwCl [(h0, .inr (13, z_5))] H := hP
  replace hD : va_D A [(h0, .inr (13, z_5))] := hD
  have hP9 := hP.sub (ws' := [(h0, .inr (13, z_5))]) [0] rfl
  have hD9 := hD.sub (ws' := [(h0, .inr (13, z_5))]) [0] (by decide) rfl
  have hK9 := hK.sub (tys' := []) [] rfl
  exact W.zret hx hb hr (by decide) (fun t ht hW => ⟨⟨0, (z_5), rfl, ⟨rfl, by rw [ez_5, efs_3]⟩, by rw [ht]; exact hP9, va_K.moved hW.alike hK9, hD9⟩, hS.F ht⟩) hS.2.2 dX13_isByte_39
set_option maxHeartbeats 4000000 in
set_option maxRecDepth 100000 in
/-- isByte behind a FORM -/
theorem mm_isByte1 (l : Launch) (dC : Nat → ClassId) (dI : Nat → Nat → Nat) (sz : Nat) (h0 : Nat) (fs : List Value) (a1 : Int32) (hlen : fs.length = 155) (hf114 : fs[114]? = some (.int 0))  : Met l yX13_isByte (.code yX13_isByte cX13_isByte 2 (some .boolean) :: VS_c2) ({ frames := 0, cells := 0, slots := 0, locals := 0 }) (va_Pc [.ref h0, .int a1] (fun U => U.heap.size = sz ∧ va_P (dC, dI) vwCl [(h0, .inr (13, fs))] U.heap ∧ va_K (dC, dI) vwCl [] U ∧ va_D (fun _ => True) [(h0, .inr (13, fs))])) (va_Qi (fun (r : Int32) (u : Unit) => match u with | () => r = 0) (fun (u : Unit) (t : State) => match u with | () => va_P (dC, dI) vwCl [(h0, .inr (13, fs))] t.heap ∧ va_K (dC, dI) vwCl [] t ∧ va_D (va_A [(h0, .inr (13, fs))] sz) [(h0, .inr (13, fs))]) (va_A [(h0, .inr (13, fs))] sz)) 0 0 (va_A [(h0, .inr (13, fs))] sz) := by
  refine Met.ofW (cc := cX13_isByte) (maxL := 2) (ret := (some .boolean)) (by decide) rfl ?_
  intro p e s m args below meth c s₁ B hml hv
  obtain ⟨rfl, hsz, hP, hK, hD0⟩ := hv
  have hx := B.exec
  have hb := B.bytes
  have hr := B.returns
  have hts := atoms_spec (ws := (.code yX13_isByte cX13_isByte 2 (some .boolean) :: VS_c2)) B.pre
  replace hts := fun w (h : w ∈ VS_c2) => hts w (List.mem_cons_of_mem _ h)
  have hown : s.vm.findClass RX13 = some m.cls := findClass_of_methodNamed B.named
  have hlocks := B.notSynchronized
  subst hsz
  have hD := hD0.self (sz := s.heap.size)
  generalize hAe : va_A [(h0, .inr (13, fs))] s.heap.size = A at hD  ⊢
  have hA : ∀ q : Nat, s.heap.size ≤ q → A q := fun q h => by rw [← hAe]; exact Or.inr h
  have hP : va_P (dC, dI) vwCl [(h0, .inr (13, fs))] s.heap := hP
  have hl := lv_entry ([.ref h0, .int a1]) (n := 2) (Nat.le_of_ble_eq_true rfl)
  rw [lg_entry_eq]
  generalize (lg_sl ([.ref h0, .int a1]) ++ List.replicate (2 - (lg_sl ([.ref h0, .int a1])).length) Slot.unset).toArray = ls at hl ⊢
  have hl : lv_has ls 2 [(0, .ref h0), (1, .int a1)] := hl
  obtain ⟨H, hH⟩ : ∃ H : Heap, s.heap = H := ⟨_, rfl⟩
  rw [hH] at hP ⊢
  have hS : va_S A s.heap H [] := by rw [← hH]; exact va_S.rf
  obtain ⟨locs, hlo⟩ : ∃ locs : List Loc, locs = [] := ⟨_, rfl⟩
  rw [← hlo] at hS ⊢
  refine lv_aload_n hx hb dX13_isByte_0 rfl (lv_at hl 0 rfl) ?_
  refine va_get (D := (dC, dI)) (ci := 13) (v := .int 0) (C := RX13) (T := TX13) (N := 155) hx hb hts uV_c2_X13 hown hK hP 0 rfl rfl 114 (by decide) (hts (.fieldLink RX13 764 "ClassMillModel" "form" "I") mw_c2_12) (fun _ h9 => h9) hf114 dX13_isByte_1 ?_
  refine lv_iconst (v := (-1)) hx hb dX13_isByte_4 (by decide) ?_
  refine lv_icmp_eq (tgt := 10) hx hb dX13_isByte_5 (by decide) (fun c_1 => (show False by revert c_1; decide).elim) (fun c_1 => ?_)
  refine lv_iconst (v := 0) hx hb dX13_isByte_8 (by decide) ?_
  have hP9 := hP.sub (ws' := [(h0, .inr (13, fs))]) [0] rfl
  have hD9 := hD.sub (ws' := [(h0, .inr (13, fs))]) [0] (by decide) rfl
  have hK9 := hK.sub (tys' := []) [] rfl
  exact W.zret hx hb hr (by decide) (fun t ht hW => ⟨⟨0, (), rfl, rfl, by rw [ht]; exact hP9, va_K.moved hW.alike hK9, hD9⟩, hS.F ht⟩) hS.2.2 dX13_isByte_9
set_option maxHeartbeats 4000000 in
set_option maxRecDepth 100000 in
/-- scan of nothing -/
theorem mm_scan (l : Launch) (dC : Nat → ClassId) (dI : Nat → Nat → Nat) (sz : Nat) (h0 : Nat) (fs : List Value) (qc : Nat) (cc9 : ClassId) (f : Nat → Int32) (hlen : fs.length = 155) (hf114 : fs[114]? = some (.int 0)) (hf113 : fs[113]? = some (.int 0)) (hf103 : fs[103]? = some (.ref qc))  : Met l yX13_scan (.code yX13_scan cX13_scan 5 none :: VS_c2) ({ frames := 1, cells := 0, slots := 0, locals := 21 }) (va_Pc [.ref h0, .int 0] (fun U => U.heap.size = sz ∧ va_P (dC, dI) vwCl [(h0, .inr (13, fs)), (qc, .inl (cc9, 8, .inl f))] U.heap ∧ va_K (dC, dI) vwCl [(cc9, .int)] U ∧ va_D (fun _ => True) [(h0, .inr (13, fs)), (qc, .inl (cc9, 8, .inl f))])) (va_Qv (fun (u : (List Value)) => match u with | (zo1) => zo1 = (((fs.set 115 (.int 0)).set 114 (.int (-1))).set 114 (.int 0))) (fun (u : (List Value)) (t : State) => match u with | (zo1) => va_P (dC, dI) vwCl [(h0, .inr (13, zo1))] t.heap ∧ va_K (dC, dI) vwCl [] t ∧ va_D (va_A [(h0, .inr (13, fs)), (qc, .inl (cc9, 8, .inl f))] sz) [(h0, .inr (13, zo1))]) (va_A [(h0, .inr (13, fs)), (qc, .inl (cc9, 8, .inl f))] sz)) 0 0 (va_A [(h0, .inr (13, fs)), (qc, .inl (cc9, 8, .inl f))] sz) := by
  refine Met.ofW (cc := cX13_scan) (maxL := 5) (ret := none) (by decide) rfl ?_
  intro p e s m args below meth c s₁ B hml hv
  obtain ⟨rfl, hsz, hP, hK, hD0⟩ := hv
  have hx := B.exec
  have hb := B.bytes
  have hr := B.returns
  have hts := atoms_spec (ws := (.code yX13_scan cX13_scan 5 none :: VS_c2)) B.pre
  replace hts := fun w (h : w ∈ VS_c2) => hts w (List.mem_cons_of_mem _ h)
  have hown : s.vm.findClass RX13 = some m.cls := findClass_of_methodNamed B.named
  have hlocks := B.notSynchronized
  subst hsz
  have hD := hD0.self (sz := s.heap.size)
  generalize hAe : va_A [(h0, .inr (13, fs)), (qc, .inl (cc9, 8, .inl f))] s.heap.size = A at hD  ⊢
  have hA : ∀ q : Nat, s.heap.size ≤ q → A q := fun q h => by rw [← hAe]; exact Or.inr h
  have hP : va_P (dC, dI) vwCl [(h0, .inr (13, fs)), (qc, .inl (cc9, 8, .inl f))] s.heap := hP
  have hl := lv_entry ([.ref h0, .int 0]) (n := 5) (Nat.le_of_ble_eq_true rfl)
  rw [lg_entry_eq]
  generalize (lg_sl ([.ref h0, .int 0]) ++ List.replicate (5 - (lg_sl ([.ref h0, .int 0])).length) Slot.unset).toArray = ls at hl ⊢
  have hl : lv_has ls 5 [(0, .ref h0), (1, .int 0)] := hl
  obtain ⟨H, hH⟩ : ∃ H : Heap, s.heap = H := ⟨_, rfl⟩
  rw [hH] at hP ⊢
  have hS : va_S A s.heap H [] := by rw [← hH]; exact va_S.rf
  obtain ⟨locs, hlo⟩ : ∃ locs : List Loc, locs = [] := ⟨_, rfl⟩
  rw [← hlo] at hS ⊢
  refine lv_aload_n hx hb dX13_scan_0 rfl (lv_at hl 0 rfl) ?_
  refine lv_iload_n hx hb dX13_scan_1 rfl (lv_at hl 1 rfl) ?_
  refine va_put (D := (dC, dI)) (ci := 13) (v := .int 0) (ty := .int) (C := RX13) (T := TX13) (N := 155) hx hb hts uV_c2_X13 tyX13 tyX13_ok nmX13 hown hK hP hD hS 0 rfl rfl 115 (by decide) (hts (.fieldLink RX13 788 "ClassMillModel" "into" "I") mw_c2_18) (fun _ h9 => h9) rfl (by decide +kernel) rfl rfl (by rw [hlen]; decide) dX13_scan_2 ?_
  clear hP hD hS
  intro H locs hP hD hS
  obtain ⟨fs_1, efs_1⟩ : ∃ zf : List Value, zf = fs.set 115 (.int 0) := ⟨_, rfl⟩
  rw [← efs_1] at hP hD
  have hlfs_1 : fs_1.length = 155 := by rw [efs_1, List.length_set]; exact hlen
  have hfs_1_114 : fs_1[114]? = some (.int 0) := by rw [efs_1, List.getElem?_set_ne (by decide)]; exact hf114
  have hfs_1_113 : fs_1[113]? = some (.int 0) := by rw [efs_1, List.getElem?_set_ne (by decide)]; exact hf113
  have hfs_1_103 : fs_1[103]? = some (.ref qc) := by rw [efs_1, List.getElem?_set_ne (by decide)]; exact hf103
  have hfs_1_115 : fs_1[115]? = some (.int 0) := by rw [efs_1, List.getElem?_set_self (by rw [hlen]; decide)]
  replace hP : va_P (dC, dI) vwCl [(h0, .inr (13, fs_1)), (qc, .inl (cc9, 8, .inl f))] H := hP
  replace hD : va_D A [(h0, .inr (13, fs_1)), (qc, .inl (cc9, 8, .inl f))] := hD
  refine lv_aload_n hx hb dX13_scan_5 rfl (lv_at hl 0 rfl) ?_
  refine lv_iconst (v := (-1)) hx hb dX13_scan_6 (by decide) ?_
  refine va_put (D := (dC, dI)) (ci := 13) (v := .int (-1)) (ty := .int) (C := RX13) (T := TX13) (N := 155) hx hb hts uV_c2_X13 tyX13 tyX13_ok nmX13 hown hK hP hD hS 0 rfl rfl 114 (by decide) (hts (.fieldLink RX13 764 "ClassMillModel" "form" "I") mw_c2_12) (fun _ h9 => h9) rfl (by decide +kernel) rfl rfl (by rw [hlfs_1]; decide) dX13_scan_7 ?_
  clear hP hD hS
  intro H locs hP hD hS
  obtain ⟨fs_2, efs_2⟩ : ∃ zf : List Value, zf = fs_1.set 114 (.int (-1)) := ⟨_, rfl⟩
  rw [← efs_2] at hP hD
  have hlfs_2 : fs_2.length = 155 := by rw [efs_2, List.length_set]; exact hlfs_1
  have hfs_2_113 : fs_2[113]? = some (.int 0) := by rw [efs_2, List.getElem?_set_ne (by decide)]; exact hfs_1_113
  have hfs_2_103 : fs_2[103]? = some (.ref qc) := by rw [efs_2, List.getElem?_set_ne (by decide)]; exact hfs_1_103
  have hfs_2_115 : fs_2[115]? = some (.int 0) := by rw [efs_2, List.getElem?_set_ne (by decide)]; exact hfs_1_115
  have hfs_2_114 : fs_2[114]? = some (.int (-1)) := by rw [efs_2, List.getElem?_set_self (by rw [hlfs_1]; decide)]
  replace hP : va_P (dC, dI) vwCl [(h0, .inr (13, fs_2)), (qc, .inl (cc9, 8, .inl f))] H := hP
  replace hD : va_D A [(h0, .inr (13, fs_2)), (qc, .inl (cc9, 8, .inl f))] := hD
  refine lv_aload_n hx hb dX13_scan_10 rfl (lv_at hl 0 rfl) ?_
  refine va_get (D := (dC, dI)) (ci := 13) (v := .ref qc) (C := RX13) (T := TX13) (N := 155) hx hb hts uV_c2_X13 hown hK hP 0 rfl rfl 103 (by decide) (hts (.fieldLink RX13 218 "ClassMillModel" "constantMany" "[I") mw_c2_19) (fun _ h9 => h9) hfs_2_103 dX13_scan_11 ?_
  refine lv_iload_n hx hb dX13_scan_14 rfl (lv_at hl 1 rfl) ?_
  refine lv_iconst (v := 0) hx hb dX13_scan_15 (by decide) ?_
  refine va_iast hx hb hK hP hD hS 1 0 rfl rfl (i := 0) (x := 0) (by unfold vp_in; decide) dX13_scan_16 ?_
  clear hP hD hS
  intro H locs hP hD hS
  obtain ⟨f_3, ef_3⟩ : ∃ zf : Nat → Int32, zf = upd f (0 : Int32).toNatClampNeg 0 := ⟨_, rfl⟩
  rw [← ef_3] at hP hD
  replace hP : va_P (dC, dI) vwCl [(h0, .inr (13, fs_2)), (qc, .inl (cc9, 8, .inl f_3))] H := hP
  replace hD : va_D A [(h0, .inr (13, fs_2)), (qc, .inl (cc9, 8, .inl f_3))] := hD
  refine lv_aload_n hx hb dX13_scan_17 rfl (lv_at hl 0 rfl) ?_
  refine lv_iconst (v := 0) hx hb dX13_scan_18 (by decide) ?_
  have hPc := hP.sub (ws' := [(h0, .inr (13, fs_2))]) [0] rfl
  have hDc := hD.sub (ws' := [(h0, .inr (13, fs_2))]) [0] (by decide) rfl
  have hKc := hK.sub (tys' := []) [] rfl
  have hFc := va_free (wc := [(h0, .inr (13, fs_2))]) hD hS hA [0] rfl
  refine va_calli (va_runV (As := [.int 0]) (rest := []) ⟨hx, hb, hml, hown, hts⟩ (mm_isByte0 l dC dI H.size h0 fs_2 0 hlfs_2 hfs_2_114 hfs_2_113 (by decide)) (cwV 1 hts gv_c2_2 rfl rfl rfl (by decide +kernel) ⟨Nat.le_of_ble_eq_true rfl, Nat.le_of_ble_eq_true rfl⟩) ⟨fun a U g mk q => by obtain ⟨q0, q1, qP, qK, qD⟩ := q; exact ⟨q0, q1, qP, va_K.moved (u := U) (U := U.calling g mk a) (Vm.Alike.refl U.vm) qK, qD⟩, va_recv hKc hPc (ci := 13) (q0 := 0) rfl rfl, fun U hU hW => ⟨rfl, by rw [hU], by rw [hU]; exact hPc, va_K.moved hW.alike hKc, hDc.weaken (fun _ _ _ _ => trivial)⟩⟩ rfl rfl hl.1 rfl (lv_room (Nat.le_of_ble_eq_true rfl)) dX13_scan_19 ⟨Nat.le_of_ble_eq_true rfl, Nat.le_of_ble_eq_true rfl⟩) hS (fun q _ h => hFc q h) hFc ?_
  clear hS
  intro r_4 u t H1 locs ht hvm hw hB hz1 hk1 hS
  obtain ⟨z_5, rfl⟩ : ∃ z, z = u := ⟨_, rfl⟩
  obtain ⟨hP1, hK1, hD1⟩ := hB
  rw [ht] at hP1
  have hK1 := va_K.moved hvm.symm hK1
  try dsimp only at hw
  have hPD := va_join (wr := [(qc, .inl (cc9, 8, .inl f_3))]) (w1 := [(h0, .inr (13, z_5))]) hP hD [0] [1] rfl rfl (by decide) (by decide) hk1 hFc hP1 hD1
  clear hP hD
  obtain ⟨hP, hD⟩ := hPD
  replace hK := (hK.sub (tys' := [(cc9, .int)]) [0] rfl).app hK1
  clear hPc hDc hKc hFc hP1 hK1 hD1 hz1 hk1 ht hvm
  generalize H1 = H at hP hS ⊢
  replace hP : va_P (dC, dI) vwCl [(qc, .inl (cc9, 8, .inl f_3)), (h0, .inr (13, z_5))] H := hP
  replace hD : va_D A [(qc, .inl (cc9, 8, .inl f_3)), (h0, .inr (13, z_5))] := hD
  replace hK : va_K (dC, dI) vwCl [(cc9, .int)] s := hK
  obtain ⟨hr0, hz0⟩ := hw
  subst hr0
  have hLz_5 : z_5.length = 155 := by rw [hz0, List.length_set]; exact hlfs_2
  have hFz_5_114 : z_5[114]? = some (.int 0) := by rw [hz0, List.getElem?_set_self (by (try simp only [List.length_set]); rw [hlfs_2]; decide)]
  have hFz_5_113 : z_5[113]? = some (.int 0) := by rw [hz0, List.getElem?_set_ne (by decide)]; exact hfs_2_113
  refine lv_if_eq (tgt := 41) hx hb dX13_scan_22 (by decide) (fun c_6 => ?_) (fun c_6 => (show False by revert c_6; decide).elim)
  refine lv_aload_n hx hb dX13_scan_41 rfl (lv_at hl 0 rfl) ?_
  refine lv_iconst (v := 1) hx hb dX13_scan_42 (by decide) ?_
  have hPc := hP.sub (ws' := [(h0, .inr (13, z_5))]) [1] rfl
  have hDc := hD.sub (ws' := [(h0, .inr (13, z_5))]) [1] (by decide) rfl
  have hKc := hK.sub (tys' := []) [] rfl
  have hFc := va_free (wc := [(h0, .inr (13, z_5))]) hD hS hA [1] rfl
  refine va_calli (va_runV (As := [.int 1]) (rest := []) ⟨hx, hb, hml, hown, hts⟩ (mm_isByte1 l dC dI H.size h0 z_5 1 hLz_5 hFz_5_114) (cwV 1 hts gv_c2_3 rfl rfl rfl (by decide +kernel) ⟨Nat.le_of_ble_eq_true rfl, Nat.le_of_ble_eq_true rfl⟩) ⟨fun a U g mk q => by obtain ⟨q0, q1, qP, qK, qD⟩ := q; exact ⟨q0, q1, qP, va_K.moved (u := U) (U := U.calling g mk a) (Vm.Alike.refl U.vm) qK, qD⟩, va_recv hKc hPc (ci := 13) (q0 := 0) rfl rfl, fun U hU hW => ⟨rfl, by rw [hU], by rw [hU]; exact hPc, va_K.moved hW.alike hKc, hDc.weaken (fun _ _ _ _ => trivial)⟩⟩ rfl rfl hl.1 rfl (lv_room (Nat.le_of_ble_eq_true rfl)) dX13_scan_43 ⟨Nat.le_of_ble_eq_true rfl, Nat.le_of_ble_eq_true rfl⟩) hS (fun q _ h => hFc q h) hFc ?_
  clear hS
  intro r_7 u t H1 locs ht hvm hw hB hz1 hk1 hS
  obtain ⟨⟩ := u
  obtain ⟨hP1, hK1, hD1⟩ := hB
  rw [ht] at hP1
  have hK1 := va_K.moved hvm.symm hK1
  try dsimp only at hw
  have hPD := va_join (wr := [(qc, .inl (cc9, 8, .inl f_3))]) (w1 := [(h0, .inr (13, z_5))]) hP hD [1] [0] rfl rfl (by decide) (by decide) hk1 hFc hP1 hD1
  clear hP hD
  obtain ⟨hP, hD⟩ := hPD
  replace hK := (hK.sub (tys' := [(cc9, .int)]) [0] rfl).app hK1
  clear hPc hDc hKc hFc hP1 hK1 hD1 hz1 hk1 ht hvm
  generalize H1 = H at hP hS ⊢
  replace hP : va_P (dC, dI) vwCl [(qc, .inl (cc9, 8, .inl f_3)), (h0, .inr (13, z_5))] H := hP
  replace hD : va_D A [(qc, .inl (cc9, 8, .inl f_3)), (h0, .inr (13, z_5))] := hD
  replace hK : va_K (dC, dI) vwCl [(cc9, .int)] s := hK
  subst hw
  refine lv_if_eq (tgt := 65) hx hb dX13_scan_46 (by decide) (fun c_8 => ?_) (fun c_8 => (show False by revert c_8; decide).elim)
  refine lv_aload_n hx hb dX13_scan_65 rfl (lv_at hl 0 rfl) ?_
  refine lv_iconst (v := 2) hx hb dX13_scan_66 (by decide) ?_
  have hPc := hP.sub (ws' := [(h0, .inr (13, z_5))]) [1] rfl
  have hDc := hD.sub (ws' := [(h0, .inr (13, z_5))]) [1] (by decide) rfl
  have hKc := hK.sub (tys' := []) [] rfl
  have hFc := va_free (wc := [(h0, .inr (13, z_5))]) hD hS hA [1] rfl
  refine va_calli (va_runV (As := [.int 2]) (rest := []) ⟨hx, hb, hml, hown, hts⟩ (mm_isByte1 l dC dI H.size h0 z_5 2 hLz_5 hFz_5_114) (cwV 1 hts gv_c2_3 rfl rfl rfl (by decide +kernel) ⟨Nat.le_of_ble_eq_true rfl, Nat.le_of_ble_eq_true rfl⟩) ⟨fun a U g mk q => by obtain ⟨q0, q1, qP, qK, qD⟩ := q; exact ⟨q0, q1, qP, va_K.moved (u := U) (U := U.calling g mk a) (Vm.Alike.refl U.vm) qK, qD⟩, va_recv hKc hPc (ci := 13) (q0 := 0) rfl rfl, fun U hU hW => ⟨rfl, by rw [hU], by rw [hU]; exact hPc, va_K.moved hW.alike hKc, hDc.weaken (fun _ _ _ _ => trivial)⟩⟩ rfl rfl hl.1 rfl (lv_room (Nat.le_of_ble_eq_true rfl)) dX13_scan_67 ⟨Nat.le_of_ble_eq_true rfl, Nat.le_of_ble_eq_true rfl⟩) hS (fun q _ h => hFc q h) hFc ?_
  clear hS
  intro r_9 u t H1 locs ht hvm hw hB hz1 hk1 hS
  obtain ⟨⟩ := u
  obtain ⟨hP1, hK1, hD1⟩ := hB
  rw [ht] at hP1
  have hK1 := va_K.moved hvm.symm hK1
  try dsimp only at hw
  have hPD := va_join (wr := [(qc, .inl (cc9, 8, .inl f_3))]) (w1 := [(h0, .inr (13, z_5))]) hP hD [1] [0] rfl rfl (by decide) (by decide) hk1 hFc hP1 hD1
  clear hP hD
  obtain ⟨hP, hD⟩ := hPD
  replace hK := (hK.sub (tys' := [(cc9, .int)]) [0] rfl).app hK1
  clear hPc hDc hKc hFc hP1 hK1 hD1 hz1 hk1 ht hvm
  generalize H1 = H at hP hS ⊢
  replace hP : va_P (dC, dI) vwCl [(qc, .inl (cc9, 8, .inl f_3)), (h0, .inr (13, z_5))] H := hP
  replace hD : va_D A [(qc, .inl (cc9, 8, .inl f_3)), (h0, .inr (13, z_5))] := hD
  replace hK : va_K (dC, dI) vwCl [(cc9, .int)] s := hK
  subst hw
  refine lv_if_ne (tgt := 74) hx hb dX13_scan_70 (by decide) (fun c_10 => (show False by revert c_10; decide).elim) (fun c_10 => ?_)
  have hP9 := hP.sub (ws' := [(h0, .inr (13, z_5))]) [1] rfl
  have hD9 := hD.sub (ws' := [(h0, .inr (13, z_5))]) [1] (by decide) rfl
  have hK9 := hK.sub (tys' := []) [] rfl
  exact W.vret hx hb hr (fun t ht hW => ⟨⟨(z_5), rfl, by rw [hz0, efs_2, efs_1], by rw [ht]; exact hP9, va_K.moved hW.alike hK9, hD9⟩, hS.F ht⟩) hS.2.2 dX13_scan_73
