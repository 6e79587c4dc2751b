set_option maxHeartbeats 4000000 in
set_option maxRecDepth 100000 in
/-- loaded of nothing -/
theorem mm_loaded (l : Launch) (dC : Nat → ClassId) (dI : Nat → Nat → Nat) (sz : Nat) (h0 : Nat) (fs : List Value) (qc : Nat) (cc9 : ClassId) (f : Nat → Int32) (hlen : fs.length = 155) (hf114 : fs[114]? = some (.int 0)) (hf113 : fs[113]? = some (.int 0)) (hf103 : fs[103]? = some (.ref qc)) (hf98 : fs[98]? = some (.int 0))  : Met l yX13_loaded (.code yX13_loaded cX13_loaded 3 (some .int) :: VS_c3) ({ frames := 2, cells := 0, slots := 0, locals := 45 }) (va_Pc [.ref h0] (fun U => U.heap.size = sz ∧ va_P (dC, dI) vwCl [(h0, .inr (13, fs)), (qc, .inl (cc9, 8, .inl f))] U.heap ∧ va_K (dC, dI) vwCl [(cc9, .int)] U ∧ va_D (fun _ => True) [(h0, .inr (13, fs)), (qc, .inl (cc9, 8, .inl f))])) (va_Qi (fun (r : Int32) (u : Unit) => match u with | () => r = -2) (fun (u : Unit) (t : State) => match u with | () => va_P (dC, dI) vwCl [] t.heap ∧ va_K (dC, dI) vwCl [] t ∧ va_D (va_A [(h0, .inr (13, fs)), (qc, .inl (cc9, 8, .inl f))] sz) []) (va_A [(h0, .inr (13, fs)), (qc, .inl (cc9, 8, .inl f))] sz)) 0 0 (va_A [(h0, .inr (13, fs)), (qc, .inl (cc9, 8, .inl f))] sz) := by
  refine Met.ofW (cc := cX13_loaded) (maxL := 3) (ret := (some .int)) (by decide) rfl ?_
  intro p e s m args below meth c s₁ B hml hv
  obtain ⟨rfl, hsz, hP, hK, hD0⟩ := hv
  have hx := B.exec
  have hb := B.bytes
  have hr := B.returns
  have hts := atoms_spec (ws := (.code yX13_loaded cX13_loaded 3 (some .int) :: VS_c3)) B.pre
  replace hts := fun w (h : w ∈ VS_c3) => hts w (List.mem_cons_of_mem _ h)
  have hown : s.vm.findClass RX13 = some m.cls := findClass_of_methodNamed B.named
  have hlocks := B.notSynchronized
  subst hsz
  have hD := hD0.self (sz := s.heap.size)
  generalize hAe : va_A [(h0, .inr (13, fs)), (qc, .inl (cc9, 8, .inl f))] s.heap.size = A at hD  ⊢
  have hA : ∀ q : Nat, s.heap.size ≤ q → A q := fun q h => by rw [← hAe]; exact Or.inr h
  have hP : va_P (dC, dI) vwCl [(h0, .inr (13, fs)), (qc, .inl (cc9, 8, .inl f))] s.heap := hP
  have hl := lv_entry ([.ref h0]) (n := 3) (Nat.le_of_ble_eq_true rfl)
  rw [lg_entry_eq]
  generalize (lg_sl ([.ref h0]) ++ List.replicate (3 - (lg_sl ([.ref h0])).length) Slot.unset).toArray = ls at hl ⊢
  have hl : lv_has ls 3 [(0, .ref h0)] := hl
  obtain ⟨H, hH⟩ : ∃ H : Heap, s.heap = H := ⟨_, rfl⟩
  rw [hH] at hP ⊢
  have hS : va_S A s.heap H [] := by rw [← hH]; exact va_S.rf
  obtain ⟨locs, hlo⟩ : ∃ locs : List Loc, locs = [] := ⟨_, rfl⟩
  rw [← hlo] at hS ⊢
  refine lv_aload_n hx hb dX13_loaded_0 rfl (lv_at hl 0 rfl) ?_
  refine va_get (D := (dC, dI)) (ci := 13) (v := .int 0) (C := RX13) (T := TX13) (N := 155) hx hb hts uV_c3_X13 hown hK hP 0 rfl rfl 98 (by decide) (hts (.fieldLink RX13 833 "ClassMillModel" "there" "I") mw_c3_5) (fun _ h9 => h9) hf98 dX13_loaded_1 ?_
  refine lv_bipush (v := 8) hx hb dX13_loaded_4 (by decide) ?_
  refine lv_icmp_ne (tgt := 46) hx hb dX13_loaded_6 (by decide) (fun c_1 => ?_) (fun c_1 => (show False by revert c_1; decide).elim)
  refine lv_aload_n hx hb dX13_loaded_46 rfl (lv_at hl 0 rfl) ?_
  refine lv_aload_n hx hb dX13_loaded_47 rfl (lv_at hl 0 rfl) ?_
  refine va_get (D := (dC, dI)) (ci := 13) (v := .int 0) (C := RX13) (T := TX13) (N := 155) hx hb hts uV_c3_X13 hown hK hP 0 rfl rfl 98 (by decide) (hts (.fieldLink RX13 833 "ClassMillModel" "there" "I") mw_c3_5) (fun _ h9 => h9) hf98 dX13_loaded_48 ?_
  have hPc := hP.sub (ws' := [(h0, .inr (13, fs)), (qc, .inl (cc9, 8, .inl f))]) [0, 1] rfl
  have hDc := hD.sub (ws' := [(h0, .inr (13, fs)), (qc, .inl (cc9, 8, .inl f))]) [0, 1] (by decide) rfl
  have hKc := hK.sub (tys' := [(cc9, .int)]) [0] rfl
  have hFc := va_free (wc := [(h0, .inr (13, fs)), (qc, .inl (cc9, 8, .inl f))]) hD hS hA [0, 1] rfl
  refine va_callv (va_runV (As := [.int 0]) (rest := []) ⟨hx, hb, hml, hown, hts⟩ (mm_scan l dC dI H.size h0 fs qc cc9 f hlen hf114 hf113 hf103) (cwV 1 hts gv_c3_0 rfl rfl rfl (by decide +kernel) ⟨Nat.le_of_ble_eq_true rfl, Nat.le_of_ble_eq_true rfl⟩) ⟨fun a U g mk q => by obtain ⟨q0, q1, qP, qK, qD⟩ := q; exact ⟨q0, q1, qP, va_K.moved (u := U) (U := U.calling g mk a) (Vm.Alike.refl U.vm) qK, qD⟩, va_recv hKc hPc (ci := 13) (q0 := 0) rfl rfl, fun U hU hW => ⟨rfl, by rw [hU], by rw [hU]; exact hPc, va_K.moved hW.alike hKc, hDc.weaken (fun _ _ _ _ => trivial)⟩⟩ rfl rfl hl.1 rfl (lv_room (Nat.le_of_ble_eq_true rfl)) dX13_loaded_51 ⟨Nat.le_of_ble_eq_true rfl, Nat.le_of_ble_eq_true rfl⟩) hS (fun q _ h => hFc q h) hFc ?_
  clear hS
  intro u t H1 locs ht hvm hw hB hz1 hk1 hS
  obtain ⟨z_2, rfl⟩ : ∃ z, z = u := ⟨_, rfl⟩
  obtain ⟨hP1, hK1, hD1⟩ := hB
  rw [ht] at hP1
  have hK1 := va_K.moved hvm.symm hK1
  try dsimp only at hw
  have hPD := va_join (wr := []) (w1 := [(h0, .inr (13, z_2))]) hP hD [0, 1] [] rfl rfl (by decide) (by decide) hk1 hFc hP1 hD1
  clear hP hD
  obtain ⟨hP, hD⟩ := hPD
  replace hK := (hK.sub (tys' := []) [] rfl).app hK1
  clear hPc hDc hKc hFc hP1 hK1 hD1 hz1 hk1 ht hvm
  generalize H1 = H at hP hS ⊢
  replace hP : va_P (dC, dI) vwCl [(h0, .inr (13, z_2))] H := hP
  replace hD : va_D A [(h0, .inr (13, z_2))] := hD
  replace hK : va_K (dC, dI) vwCl [] s := hK
  have hz0 := hw
  have hLz_2 : z_2.length = 155 := by rw [hz0, List.length_set, List.length_set, List.length_set]; exact hlen
  have hFz_2_114 : z_2[114]? = some (.int 0) := by rw [hz0, List.getElem?_set_self (by (try simp only [List.length_set]); rw [hlen]; decide)]
  have hFz_2_98 : z_2[98]? = some (.int 0) := by rw [hz0, List.getElem?_set_ne (by decide), List.getElem?_set_ne (by decide), List.getElem?_set_ne (by decide)]; exact hf98
  refine lv_aload_n hx hb dX13_loaded_54 rfl (lv_at hl 0 rfl) ?_
  refine va_get (D := (dC, dI)) (ci := 13) (v := .int 0) (C := RX13) (T := TX13) (N := 155) hx hb hts uV_c3_X13 hown hK hP 0 rfl rfl 114 (by decide) (hts (.fieldLink RX13 764 "ClassMillModel" "form" "I") mw_c3_6) (fun _ h9 => h9) hFz_2_114 dX13_loaded_55 ?_
  refine lv_iconst (v := (-1)) hx hb dX13_loaded_58 (by decide) ?_
  refine lv_icmp_eq (tgt := 70) hx hb dX13_loaded_59 (by decide) (fun c_3 => (show False by revert c_3; decide).elim) (fun c_3 => ?_)
  refine lv_bipush (v := (-2)) hx hb dX13_loaded_62 (by decide) ?_
  refine lv_aload_n hx hb dX13_loaded_64 rfl (lv_at hl 0 rfl) ?_
  refine va_get (D := (dC, dI)) (ci := 13) (v := .int 0) (C := RX13) (T := TX13) (N := 155) hx hb hts uV_c3_X13 hown hK hP 0 rfl rfl 114 (by decide) (hts (.fieldLink RX13 764 "ClassMillModel" "form" "I") mw_c3_6) (fun _ h9 => h9) hFz_2_114 dX13_loaded_65 ?_
  refine lv_isub hx hb dX13_loaded_68 ?_
  refine lv_topi (fun y_4 ey_4 => ?_)
  obtain rfl : y_4 = (-2) := ey_4.trans (by decide)
  have hP9 := hP.sub (ws' := []) [] rfl
  have hD9 := hD.sub (ws' := []) [] (by decide) rfl
  have hK9 := hK.sub (tys' := []) [] rfl
  exact W.iret hx hb hr (fun t ht hW => ⟨⟨((-2)), (), rfl, rfl, by rw [ht]; exact hP9, va_K.moved hW.alike hK9, hD9⟩, hS.F ht⟩) hS.2.2 dX13_loaded_69
set_option maxHeartbeats 4000000 in
set_option maxRecDepth 100000 in
/-- load of a new object: -2 -/
theorem mm_load (l : Launch) (dC : Nat → ClassId) (dI : Nat → Nat → Nat) (sz : Nat) (h0 : Nat) (qm0 qm1 qm2 qm3 qm4 qm5 : Nat) (fsM : List Value) (cc9 : ClassId) (f : Nat → Int32) (hM : pm_F fsM qm0 qm1 qm2 qm3 qm4 qm5) : Met l yX13_load (.code yX13_load cX13_load 2 (some .int) :: VS_c3) ({ frames := 3, cells := 0, slots := 0, locals := 67 }) (va_Pc [.ref h0] (fun U => U.heap.size = sz ∧ va_P (dC, dI) vwCl [(h0, .inr (13, fsM)), (qm5, .inl (cc9, 8, .inl f))] U.heap ∧ va_K (dC, dI) vwCl [(cc9, .int)] U ∧ va_D (fun _ => True) [(h0, .inr (13, fsM)), (qm5, .inl (cc9, 8, .inl f))])) (va_Qi (fun (r : Int32) (u : Unit) => match u with | () => r = -2) (fun (u : Unit) (t : State) => match u with | () => va_P (dC, dI) vwCl [] t.heap ∧ va_K (dC, dI) vwCl [] t ∧ va_D (va_A [(h0, .inr (13, fsM)), (qm5, .inl (cc9, 8, .inl f))] sz) []) (va_A [(h0, .inr (13, fsM)), (qm5, .inl (cc9, 8, .inl f))] sz)) 0 0 (va_A [(h0, .inr (13, fsM)), (qm5, .inl (cc9, 8, .inl f))] sz) := by
  refine Met.ofW (cc := cX13_load) (maxL := 2) (ret := (some .int)) (by decide) rfl ?_
  intro p e s m args below meth c s₁ B hml hv
  obtain ⟨rfl, hsz, hP, hK, hD0⟩ := hv
  have hx := B.exec
  have hb := B.bytes
  have hr := B.returns
  have hts := atoms_spec (ws := (.code yX13_load cX13_load 2 (some .int) :: VS_c3)) B.pre
  replace hts := fun w (h : w ∈ VS_c3) => hts w (List.mem_cons_of_mem _ h)
  have hown : s.vm.findClass RX13 = some m.cls := findClass_of_methodNamed B.named
  have hlocks := B.notSynchronized
  subst hsz
  have hD := hD0.self (sz := s.heap.size)
  generalize hAe : va_A [(h0, .inr (13, fsM)), (qm5, .inl (cc9, 8, .inl f))] s.heap.size = A at hD  ⊢
  have hA : ∀ q : Nat, s.heap.size ≤ q → A q := fun q h => by rw [← hAe]; exact Or.inr h
  have hP : va_P (dC, dI) vwCl [(h0, .inr (13, fsM)), (qm5, .inl (cc9, 8, .inl f))] s.heap := hP
  have hl := lv_entry ([.ref h0]) (n := 2) (Nat.le_of_ble_eq_true rfl)
  rw [lg_entry_eq]
  generalize (lg_sl ([.ref h0]) ++ List.replicate (2 - (lg_sl ([.ref h0])).length) Slot.unset).toArray = ls at hl ⊢
  have hl : lv_has ls 2 [(0, .ref h0)] := hl
  obtain ⟨H, hH⟩ : ∃ H : Heap, s.heap = H := ⟨_, rfl⟩
  rw [hH] at hP ⊢
  have hS : va_S A s.heap H [] := by rw [← hH]; exact va_S.rf
  obtain ⟨locs, hlo⟩ : ∃ locs : List Loc, locs = [] := ⟨_, rfl⟩
  rw [← hlo] at hS ⊢
  refine lv_aload_n hx hb dX13_load_0 rfl (lv_at hl 0 rfl) ?_
  refine lv_aload_n hx hb dX13_load_1 rfl (lv_at hl 0 rfl) ?_
  refine va_get (D := (dC, dI)) (ci := 13) (v := .int 0) (C := RX13) (T := TX13) (N := 155) hx hb hts uV_c3_X13 hown hK hP 0 rfl rfl 1 (by decide) (hts (.fieldLink RX13 312 "ClassMillModel" "taped" "I") mw_c3_11) (fun _ h9 => h9) hM.2.2.2.2.2.2.2.1 dX13_load_2 ?_
  refine va_put (D := (dC, dI)) (ci := 13) (v := .int 0) (ty := .int) (C := RX13) (T := TX13) (N := 155) hx hb hts uV_c3_X13 tyX13 tyX13_ok nmX13 hown hK hP hD hS 0 rfl rfl 113 (by decide) (hts (.fieldLink RX13 767 "ClassMillModel" "lookSize" "I") mw_c3_12) (fun _ h9 => h9) rfl (by decide +kernel) rfl rfl (by rw [hM.1]; decide) dX13_load_5 ?_
  clear hP hD hS
  intro H locs hP hD hS
  obtain ⟨fs_1, efs_1⟩ : ∃ zf : List Value, zf = fsM.set 113 (.int 0) := ⟨_, rfl⟩
  rw [← efs_1] at hP hD
  have hlfs_1 : fs_1.length = 155 := by rw [efs_1, List.length_set]; exact hM.1
  have hfs_1_1 : fs_1[1]? = some (.int 0) := by rw [efs_1, List.getElem?_set_ne (by decide)]; exact hM.2.2.2.2.2.2.2.1
  have hfs_1_114 : fs_1[114]? = some (.int 0) := by rw [efs_1, List.getElem?_set_ne (by decide)]; exact hM.2.2.2.2.2.2.2.2.2.2.2.2.2.2.2.2.2.2.2.2.2.1
  have hfs_1_103 : fs_1[103]? = some (.ref qm5) := by rw [efs_1, List.getElem?_set_ne (by decide)]; exact hM.2.2.2.2.2.2.1
  have hfs_1_98 : fs_1[98]? = some (.int 0) := by rw [efs_1, List.getElem?_set_ne (by decide)]; exact hM.2.2.2.2.2.2.2.2.2.2.2.2.2.2.2.2.2.2.1
  have hfs_1_113 : fs_1[113]? = some (.int 0) := by rw [efs_1, List.getElem?_set_self (by rw [hM.1]; decide)]
  replace hP : va_P (dC, dI) vwCl [(h0, .inr (13, fs_1)), (qm5, .inl (cc9, 8, .inl f))] H := hP
  replace hD : va_D A [(h0, .inr (13, fs_1)), (qm5, .inl (cc9, 8, .inl f))] := hD
  refine lv_iconst (v := 0) hx hb dX13_load_8 (by decide) ?_
  refine lv_istore_n (lv' := [(1, .int 0), (0, .ref h0)]) hx hb dX13_load_9 rfl hl (by decide) rfl (fun ls hl => ?_)
  refine lv_iload_n hx hb dX13_load_10 rfl (lv_at hl 0 rfl) ?_
  refine lv_aload_n hx hb dX13_load_11 rfl (lv_at hl 1 rfl) ?_
  refine va_get (D := (dC, dI)) (ci := 13) (v := .int 0) (C := RX13) (T := TX13) (N := 155) hx hb hts uV_c3_X13 hown hK hP 0 rfl rfl 1 (by decide) (hts (.fieldLink RX13 312 "ClassMillModel" "taped" "I") mw_c3_11) (fun _ h9 => h9) hfs_1_1 dX13_load_12 ?_
  refine lv_icmp_ge (tgt := 36) hx hb dX13_load_15 (by decide) (fun c_2 => ?_) (fun c_2 => (show False by revert c_2; decide).elim)
  refine lv_aload_n hx hb dX13_load_36 rfl (lv_at hl 1 rfl) ?_
  refine lv_iconst (v := 0) hx hb dX13_load_37 (by decide) ?_
  refine va_put (D := (dC, dI)) (ci := 13) (v := .int 0) (ty := .int) (C := RX13) (T := TX13) (N := 155) hx hb hts uV_c3_X13 tyX13 tyX13_ok nmX13 hown hK hP hD hS 0 rfl rfl 1 (by decide) (hts (.fieldLink RX13 312 "ClassMillModel" "taped" "I") mw_c3_11) (fun _ h9 => h9) rfl (by decide +kernel) rfl rfl (by rw [hlfs_1]; decide) dX13_load_38 ?_
  clear hP hD hS
  intro H locs hP hD hS
  obtain ⟨fs_3, efs_3⟩ : ∃ zf : List Value, zf = fs_1.set 1 (.int 0) := ⟨_, rfl⟩
  rw [← efs_3] at hP hD
  have hlfs_3 : fs_3.length = 155 := by rw [efs_3, List.length_set]; exact hlfs_1
  have hfs_3_114 : fs_3[114]? = some (.int 0) := by rw [efs_3, List.getElem?_set_ne (by decide)]; exact hfs_1_114
  have hfs_3_103 : fs_3[103]? = some (.ref qm5) := by rw [efs_3, List.getElem?_set_ne (by decide)]; exact hfs_1_103
  have hfs_3_98 : fs_3[98]? = some (.int 0) := by rw [efs_3, List.getElem?_set_ne (by decide)]; exact hfs_1_98
  have hfs_3_113 : fs_3[113]? = some (.int 0) := by rw [efs_3, List.getElem?_set_ne (by decide)]; exact hfs_1_113
  have hfs_3_1 : fs_3[1]? = some (.int 0) := by rw [efs_3, List.getElem?_set_self (by rw [hlfs_1]; decide)]
  replace hP : va_P (dC, dI) vwCl [(h0, .inr (13, fs_3)), (qm5, .inl (cc9, 8, .inl f))] H := hP
  replace hD : va_D A [(h0, .inr (13, fs_3)), (qm5, .inl (cc9, 8, .inl f))] := hD
  refine lv_aload_n hx hb dX13_load_41 rfl (lv_at hl 1 rfl) ?_
  have hPc := hP.sub (ws' := [(h0, .inr (13, fs_3)), (qm5, .inl (cc9, 8, .inl f))]) [0, 1] rfl
  have hDc := hD.sub (ws' := [(h0, .inr (13, fs_3)), (qm5, .inl (cc9, 8, .inl f))]) [0, 1] (by decide) rfl
  have hKc := hK.sub (tys' := [(cc9, .int)]) [0] rfl
  have hFc := va_free (wc := [(h0, .inr (13, fs_3)), (qm5, .inl (cc9, 8, .inl f))]) hD hS hA [0, 1] rfl
  refine va_calli (va_runV (As := []) (rest := []) ⟨hx, hb, hml, hown, hts⟩ (mm_loaded l dC dI H.size h0 fs_3 qm5 cc9 f hlfs_3 hfs_3_114 hfs_3_113 hfs_3_103 hfs_3_98) (cwV 0 hts gv_c3_1 rfl rfl rfl (by decide +kernel) ⟨Nat.le_of_ble_eq_true rfl, Nat.le_of_ble_eq_true rfl⟩) ⟨fun a U g mk q => by obtain ⟨q0, q1, qP, qK, qD⟩ := q; exact ⟨q0, q1, qP, va_K.moved (u := U) (U := U.calling g mk a) (Vm.Alike.refl U.vm) qK, qD⟩, va_recv hKc hPc (ci := 13) (q0 := 0) rfl rfl, fun U hU hW => ⟨rfl, by rw [hU], by rw [hU]; exact hPc, va_K.moved hW.alike hKc, hDc.weaken (fun _ _ _ _ => trivial)⟩⟩ rfl rfl hl.1 rfl (lv_room (Nat.le_of_ble_eq_true rfl)) dX13_load_42 ⟨Nat.le_of_ble_eq_true rfl, Nat.le_of_ble_eq_true rfl⟩) hS (fun q _ h => hFc q h) hFc ?_
  clear hS
  intro r_4 u t H1 locs ht hvm hw hB hz1 hk1 hS
  obtain ⟨⟩ := u
  obtain ⟨hP1, hK1, hD1⟩ := hB
  rw [ht] at hP1
  have hK1 := va_K.moved hvm.symm hK1
  try dsimp only at hw
  have hPD := va_join (wr := []) (w1 := []) hP hD [0, 1] [] rfl rfl (by decide) (by decide) hk1 hFc hP1 hD1
  clear hP hD
  obtain ⟨hP, hD⟩ := hPD
  replace hK := (hK.sub (tys' := []) [] rfl).app hK1
  clear hPc hDc hKc hFc hP1 hK1 hD1 hz1 hk1 ht hvm
  generalize H1 = H at hP hS ⊢
  replace hP : va_P (dC, dI) vwCl [] H := hP
  replace hD : va_D A [] := hD
  replace hK : va_K (dC, dI) vwCl [] s := hK
  subst hw
  have hP9 := hP.sub (ws' := []) [] rfl
  have hD9 := hD.sub (ws' := []) [] (by decide) rfl
  have hK9 := hK.sub (tys' := []) [] rfl
  exact W.iret hx hb hr (fun t ht hW => ⟨⟨(-2), (), rfl, rfl, by rw [ht]; exact hP9, va_K.moved hW.alike hK9, hD9⟩, hS.F ht⟩) hS.2.2 dX13_load_45
set_option maxHeartbeats 4000000 in
set_option maxRecDepth 100000 in
/-- wrong: the first FAULT -/
theorem mm_wrong (l : Launch) (dC : Nat → ClassId) (dI : Nat → Nat → Nat) (sz : Nat) (h0 : Nat) (fs : List Value) (qf : Nat) (cf9 : ClassId) (ff : Nat → Int32) (a1 : Int32) (hlen : fs.length = 155) (hf9 : fs[9]? = some (.int 0)) (hf5 : fs[5]? = some (.ref qf)) (hff : ff 0 = 0) : Met l yX13_wrong (.code yX13_wrong cX13_wrong 3 none :: VS_c3) ({ frames := 0, cells := 0, slots := 0, locals := 0 }) (va_Pc [.ref h0, .int a1, .int 0] (fun U => U.heap.size = sz ∧ va_P (dC, dI) vwCl [(h0, .inr (13, fs)), (qf, .inl (cf9, 3002, .inl ff))] U.heap ∧ va_K (dC, dI) vwCl [(cf9, .int)] U ∧ va_D (fun _ => True) [(h0, .inr (13, fs)), (qf, .inl (cf9, 3002, .inl ff))])) (va_Qv (fun (u : (List Value)) => match u with | (zo1) => zo1 = ((fs.set 9 (.int a1)).set 10 (.int 0))) (fun (u : (List Value)) (t : State) => match u with | (zo1) => va_P (dC, dI) vwCl [(h0, .inr (13, zo1))] t.heap ∧ va_K (dC, dI) vwCl [] t ∧ va_D (va_A [(h0, .inr (13, fs)), (qf, .inl (cf9, 3002, .inl ff))] sz) [(h0, .inr (13, zo1))]) (va_A [(h0, .inr (13, fs)), (qf, .inl (cf9, 3002, .inl ff))] sz)) 0 0 (va_A [(h0, .inr (13, fs)), (qf, .inl (cf9, 3002, .inl ff))] sz) := by
  refine Met.ofW (cc := cX13_wrong) (maxL := 3) (ret := none) (by decide) rfl ?_
  intro p e s m args below meth c s₁ B hml hv
  obtain ⟨rfl, hsz, hP, hK, hD0⟩ := hv
  have hx := B.exec
  have hb := B.bytes
  have hr := B.returns
  have hts := atoms_spec (ws := (.code yX13_wrong cX13_wrong 3 none :: VS_c3)) B.pre
  replace hts := fun w (h : w ∈ VS_c3) => hts w (List.mem_cons_of_mem _ h)
  have hown : s.vm.findClass RX13 = some m.cls := findClass_of_methodNamed B.named
  have hlocks := B.notSynchronized
  subst hsz
  have hD := hD0.self (sz := s.heap.size)
  generalize hAe : va_A [(h0, .inr (13, fs)), (qf, .inl (cf9, 3002, .inl ff))] s.heap.size = A at hD  ⊢
  have hA : ∀ q : Nat, s.heap.size ≤ q → A q := fun q h => by rw [← hAe]; exact Or.inr h
  have hP : va_P (dC, dI) vwCl [(h0, .inr (13, fs)), (qf, .inl (cf9, 3002, .inl ff))] s.heap := hP
  have hl := lv_entry ([.ref h0, .int a1, .int 0]) (n := 3) (Nat.le_of_ble_eq_true rfl)
  rw [lg_entry_eq]
  generalize (lg_sl ([.ref h0, .int a1, .int 0]) ++ List.replicate (3 - (lg_sl ([.ref h0, .int a1, .int 0])).length) Slot.unset).toArray = ls at hl ⊢
  have hl : lv_has ls 3 [(0, .ref h0), (1, .int a1), (2, .int 0)] := hl
  obtain ⟨H, hH⟩ : ∃ H : Heap, s.heap = H := ⟨_, rfl⟩
  rw [hH] at hP ⊢
  have hS : va_S A s.heap H [] := by rw [← hH]; exact va_S.rf
  obtain ⟨locs, hlo⟩ : ∃ locs : List Loc, locs = [] := ⟨_, rfl⟩
  rw [← hlo] at hS ⊢
  refine lv_aload_n hx hb dX13_wrong_0 rfl (lv_at hl 0 rfl) ?_
  refine va_get (D := (dC, dI)) (ci := 13) (v := .int 0) (C := RX13) (T := TX13) (N := 155) hx hb hts uV_c3_X13 hown hK hP 0 rfl rfl 9 (by decide) (hts (.fieldLink RX13 319 "ClassMillModel" "fault" "I") mw_c3_13) (fun _ h9 => h9) hf9 dX13_wrong_1 ?_
  refine lv_if_eq (tgt := 8) hx hb dX13_wrong_4 (by decide) (fun c_1 => ?_) (fun c_1 => (show False by revert c_1; decide).elim)
  refine lv_aload_n hx hb dX13_wrong_8 rfl (lv_at hl 0 rfl) ?_
  refine lv_iload_n hx hb dX13_wrong_9 rfl (lv_at hl 1 rfl) ?_
  refine va_put (D := (dC, dI)) (ci := 13) (v := .int a1) (ty := .int) (C := RX13) (T := TX13) (N := 155) hx hb hts uV_c3_X13 tyX13 tyX13_ok nmX13 hown hK hP hD hS 0 rfl rfl 9 (by decide) (hts (.fieldLink RX13 319 "ClassMillModel" "fault" "I") mw_c3_13) (fun _ h9 => h9) rfl (by decide +kernel) rfl rfl (by rw [hlen]; decide) dX13_wrong_10 ?_
  clear hP hD hS
  intro H locs hP hD hS
  obtain ⟨fs_2, efs_2⟩ : ∃ zf : List Value, zf = fs.set 9 (.int a1) := ⟨_, rfl⟩
  rw [← efs_2] at hP hD
  have hlfs_2 : fs_2.length = 155 := by rw [efs_2, List.length_set]; exact hlen
  have hfs_2_5 : fs_2[5]? = some (.ref qf) := by rw [efs_2, List.getElem?_set_ne (by decide)]; exact hf5
  have hfs_2_9 : fs_2[9]? = some (.int a1) := by rw [efs_2, List.getElem?_set_self (by rw [hlen]; decide)]
  replace hP : va_P (dC, dI) vwCl [(h0, .inr (13, fs_2)), (qf, .inl (cf9, 3002, .inl ff))] H := hP
  replace hD : va_D A [(h0, .inr (13, fs_2)), (qf, .inl (cf9, 3002, .inl ff))] := hD
  refine lv_aload_n hx hb dX13_wrong_13 rfl (lv_at hl 0 rfl) ?_
  refine lv_aload_n hx hb dX13_wrong_14 rfl (lv_at hl 0 rfl) ?_
  refine va_get (D := (dC, dI)) (ci := 13) (v := .ref qf) (C := RX13) (T := TX13) (N := 155) hx hb hts uV_c3_X13 hown hK hP 0 rfl rfl 5 (by decide) (hts (.fieldLink RX13 19 "ClassMillModel" "from" "[I") mw_c3_14) (fun _ h9 => h9) hfs_2_5 dX13_wrong_15 ?_
  refine lv_iload_n hx hb dX13_wrong_18 rfl (lv_at hl 2 rfl) ?_
  refine va_iald hx hb hK hP 1 0 rfl rfl (i := 0) (by unfold vp_in; decide) dX13_wrong_19 ?_
  refine lv_topi (fun y_3 ey_3 => ?_)
  obtain rfl : y_3 = 0 := by rw [ey_3]; exact hff
  refine va_put (D := (dC, dI)) (ci := 13) (v := .int 0) (ty := .int) (C := RX13) (T := TX13) (N := 155) hx hb hts uV_c3_X13 tyX13 tyX13_ok nmX13 hown hK hP hD hS 0 rfl rfl 10 (by decide) (hts (.fieldLink RX13 322 "ClassMillModel" "place" "I") mw_c3_15) (fun _ h9 => h9) rfl (by decide +kernel) rfl rfl (by rw [hlfs_2]; decide) dX13_wrong_20 ?_
  clear hP hD hS
  intro H locs hP hD hS
  obtain ⟨fs_4, efs_4⟩ : ∃ zf : List Value, zf = fs_2.set 10 (.int 0) := ⟨_, rfl⟩
  rw [← efs_4] at hP hD
  have hlfs_4 : fs_4.length = 155 := by rw [efs_4, List.length_set]; exact hlfs_2
  have hfs_4_5 : fs_4[5]? = some (.ref qf) := by rw [efs_4, List.getElem?_set_ne (by decide)]; exact hfs_2_5
  have hfs_4_9 : fs_4[9]? = some (.int a1) := by rw [efs_4, List.getElem?_set_ne (by decide)]; exact hfs_2_9
  have hfs_4_10 : fs_4[10]? = some (.int 0) := by rw [efs_4, List.getElem?_set_self (by rw [hlfs_2]; decide)]
  replace hP : va_P (dC, dI) vwCl [(h0, .inr (13, fs_4)), (qf, .inl (cf9, 3002, .inl ff))] H := hP
  replace hD : va_D A [(h0, .inr (13, fs_4)), (qf, .inl (cf9, 3002, .inl ff))] := hD
  obtain ⟨z_5, ez_5⟩ : ∃ z : List Value, z = fs_4 := ⟨_, rfl⟩
  rw [← ez_5] at hP hD
  replace hP : va_P (dC, dI) vwCl [(h0, .inr (13, z_5)), (qf, .inl (cf9, 3002, .inl ff))] H := hP
  replace hD : va_D A [(h0, .inr (13, z_5)), (qf, .inl (cf9, 3002, .inl ff))] := hD
  have hP9 := hP.sub (ws' := [(h0, .inr (13, z_5))]) [0] rfl
  have hD9 := hD.sub (ws' := [(h0, .inr (13, z_5))]) [0] (by decide) rfl
  have hK9 := hK.sub (tys' := []) [] rfl
  exact W.vret hx hb hr (fun t ht hW => ⟨⟨(z_5), rfl, by rw [ez_5, efs_4, efs_2], by rw [ht]; exact hP9, va_K.moved hW.alike hK9, hD9⟩, hS.F ht⟩) hS.2.2 dX13_wrong_23
set_option maxHeartbeats 4000000 in
set_option maxRecDepth 100000 in
/-- misplaced at the end of a text of nothing -/
theorem mm_misplaced (l : Launch) (dC : Nat → ClassId) (dI : Nat → Nat → Nat) (sz : Nat) (h0 : Nat) (fs : List Value) (qk qf : Nat) (ck cf9 : ClassId) (fk ff : Nat → Int32) (hlen : fs.length = 155) (hf9 : fs[9]? = some (.int 0)) (hf5 : fs[5]? = some (.ref qf)) (hf4 : fs[4]? = some (.ref qk)) (hf23 : fs[23]? = some (.int 0)) (hff : ff 0 = 0) (hfk : fk 0 = 5) : Met l yX13_misplaced (.code yX13_misplaced cX13_misplaced 1 none :: VS_c3) ({ frames := 1, cells := 0, slots := 0, locals := 22 }) (va_Pc [.ref h0] (fun U => U.heap.size = sz ∧ va_P (dC, dI) vwCl [(h0, .inr (13, fs)), (qk, .inl (ck, 3008, .inl fk)), (qf, .inl (cf9, 3002, .inl ff))] U.heap ∧ va_K (dC, dI) vwCl [(ck, .int), (cf9, .int)] U ∧ va_D (fun _ => True) [(h0, .inr (13, fs)), (qk, .inl (ck, 3008, .inl fk)), (qf, .inl (cf9, 3002, .inl ff))])) (va_Qv (fun (u : (List Value)) => match u with | (zo1) => zo1 = ((fs.set 9 (.int 2)).set 10 (.int 0))) (fun (u : (List Value)) (t : State) => match u with | (zo1) => va_P (dC, dI) vwCl [(h0, .inr (13, zo1))] t.heap ∧ va_K (dC, dI) vwCl [] t ∧ va_D (va_A [(h0, .inr (13, fs)), (qk, .inl (ck, 3008, .inl fk)), (qf, .inl (cf9, 3002, .inl ff))] sz) [(h0, .inr (13, zo1))]) (va_A [(h0, .inr (13, fs)), (qk, .inl (ck, 3008, .inl fk)), (qf, .inl (cf9, 3002, .inl ff))] sz)) 0 0 (va_A [(h0, .inr (13, fs)), (qk, .inl (ck, 3008, .inl fk)), (qf, .inl (cf9, 3002, .inl ff))] sz) := by
  refine Met.ofW (cc := cX13_misplaced) (maxL := 1) (ret := none) (by decide) rfl ?_
  intro p e s m args below meth c s₁ B hml hv
  obtain ⟨rfl, hsz, hP, hK, hD0⟩ := hv
  have hx := B.exec
  have hb := B.bytes
  have hr := B.returns
  have hts := atoms_spec (ws := (.code yX13_misplaced cX13_misplaced 1 none :: VS_c3)) B.pre
  replace hts := fun w (h : w ∈ VS_c3) => hts w (List.mem_cons_of_mem _ h)
  have hown : s.vm.findClass RX13 = some m.cls := findClass_of_methodNamed B.named
  have hlocks := B.notSynchronized
  subst hsz
  have hD := hD0.self (sz := s.heap.size)
  generalize hAe : va_A [(h0, .inr (13, fs)), (qk, .inl (ck, 3008, .inl fk)), (qf, .inl (cf9, 3002, .inl ff))] s.heap.size = A at hD  ⊢
  have hA : ∀ q : Nat, s.heap.size ≤ q → A q := fun q h => by rw [← hAe]; exact Or.inr h
  have hP : va_P (dC, dI) vwCl [(h0, .inr (13, fs)), (qk, .inl (ck, 3008, .inl fk)), (qf, .inl (cf9, 3002, .inl ff))] s.heap := hP
  have hl := lv_entry ([.ref h0]) (n := 1) (Nat.le_of_ble_eq_true rfl)
  rw [lg_entry_eq]
  generalize (lg_sl ([.ref h0]) ++ List.replicate (1 - (lg_sl ([.ref h0])).length) Slot.unset).toArray = ls at hl ⊢
  have hl : lv_has ls 1 [(0, .ref h0)] := hl
  obtain ⟨H, hH⟩ : ∃ H : Heap, s.heap = H := ⟨_, rfl⟩
  rw [hH] at hP ⊢
  have hS : va_S A s.heap H [] := by rw [← hH]; exact va_S.rf
  obtain ⟨locs, hlo⟩ : ∃ locs : List Loc, locs = [] := ⟨_, rfl⟩
  rw [← hlo] at hS ⊢
  refine lv_aload_n hx hb dX13_misplaced_0 rfl (lv_at hl 0 rfl) ?_
  refine lv_aload_n hx hb dX13_misplaced_1 rfl (lv_at hl 0 rfl) ?_
  refine va_get (D := (dC, dI)) (ci := 13) (v := .ref qk) (C := RX13) (T := TX13) (N := 155) hx hb hts uV_c3_X13 hown hK hP 0 rfl rfl 4 (by decide) (hts (.fieldLink RX13 16 "ClassMillModel" "kind" "[I") mw_c3_20) (fun _ h9 => h9) hf4 dX13_misplaced_2 ?_
  refine lv_aload_n hx hb dX13_misplaced_5 rfl (lv_at hl 0 rfl) ?_
  refine va_get (D := (dC, dI)) (ci := 13) (v := .int 0) (C := RX13) (T := TX13) (N := 155) hx hb hts uV_c3_X13 hown hK hP 0 rfl rfl 23 (by decide) (hts (.fieldLink RX13 376 "ClassMillModel" "cursor" "I") mw_c3_21) (fun _ h9 => h9) hf23 dX13_misplaced_6 ?_
  refine va_iald hx hb hK hP 1 0 rfl rfl (i := 0) (by unfold vp_in; decide) dX13_misplaced_9 ?_
  refine lv_topi (fun y_1 ey_1 => ?_)
  obtain rfl : y_1 = 5 := by rw [ey_1]; exact hfk
  refine lv_bipush (v := 6) hx hb dX13_misplaced_10 (by decide) ?_
  refine lv_icmp_ne (tgt := 19) hx hb dX13_misplaced_12 (by decide) (fun c_2 => ?_) (fun c_2 => (show False by revert c_2; decide).elim)
  refine lv_iconst (v := 2) hx hb dX13_misplaced_19 (by decide) ?_
  refine lv_aload_n hx hb dX13_misplaced_20 rfl (lv_at hl 0 rfl) ?_
  refine va_get (D := (dC, dI)) (ci := 13) (v := .int 0) (C := RX13) (T := TX13) (N := 155) hx hb hts uV_c3_X13 hown hK hP 0 rfl rfl 23 (by decide) (hts (.fieldLink RX13 376 "ClassMillModel" "cursor" "I") mw_c3_21) (fun _ h9 => h9) hf23 dX13_misplaced_21 ?_
  have hPc := hP.sub (ws' := [(h0, .inr (13, fs)), (qf, .inl (cf9, 3002, .inl ff))]) [0, 2] rfl
  have hDc := hD.sub (ws' := [(h0, .inr (13, fs)), (qf, .inl (cf9, 3002, .inl ff))]) [0, 2] (by decide) rfl
  have hKc := hK.sub (tys' := [(cf9, .int)]) [1] rfl
  have hFc := va_free (wc := [(h0, .inr (13, fs)), (qf, .inl (cf9, 3002, .inl ff))]) hD hS hA [0, 2] rfl
  refine va_callv (va_runV (As := [.int 2, .int 0]) (rest := []) ⟨hx, hb, hml, hown, hts⟩ (mm_wrong l dC dI H.size h0 fs qf cf9 ff 2 hlen hf9 hf5 hff) (cwV 2 hts gv_c3_2 rfl rfl rfl (by decide +kernel) ⟨Nat.le_of_ble_eq_true rfl, Nat.le_of_ble_eq_true rfl⟩) ⟨fun a U g mk q => by obtain ⟨q0, q1, qP, qK, qD⟩ := q; exact ⟨q0, q1, qP, va_K.moved (u := U) (U := U.calling g mk a) (Vm.Alike.refl U.vm) qK, qD⟩, va_recv hKc hPc (ci := 13) (q0 := 0) rfl rfl, fun U hU hW => ⟨rfl, by rw [hU], by rw [hU]; exact hPc, va_K.moved hW.alike hKc, hDc.weaken (fun _ _ _ _ => trivial)⟩⟩ rfl rfl hl.1 rfl (lv_room (Nat.le_of_ble_eq_true rfl)) dX13_misplaced_24 ⟨Nat.le_of_ble_eq_true rfl, Nat.le_of_ble_eq_true rfl⟩) hS (fun q _ h => hFc q h) hFc ?_
  clear hS
  intro u t H1 locs ht hvm hw hB hz1 hk1 hS
  obtain ⟨z_3, rfl⟩ : ∃ z, z = u := ⟨_, rfl⟩
  obtain ⟨hP1, hK1, hD1⟩ := hB
  rw [ht] at hP1
  have hK1 := va_K.moved hvm.symm hK1
  try dsimp only at hw
  have hPD := va_join (wr := [(qk, .inl (ck, 3008, .inl fk))]) (w1 := [(h0, .inr (13, z_3))]) hP hD [0, 2] [1] rfl rfl (by decide) (by decide) hk1 hFc hP1 hD1
  clear hP hD
  obtain ⟨hP, hD⟩ := hPD
  replace hK := (hK.sub (tys' := [(ck, .int)]) [0] rfl).app hK1
  clear hPc hDc hKc hFc hP1 hK1 hD1 hz1 hk1 ht hvm
  generalize H1 = H at hP hS ⊢
  replace hP : va_P (dC, dI) vwCl [(qk, .inl (ck, 3008, .inl fk)), (h0, .inr (13, z_3))] H := hP
  replace hD : va_D A [(qk, .inl (ck, 3008, .inl fk)), (h0, .inr (13, z_3))] := hD
  replace hK : va_K (dC, dI) vwCl [(ck, .int)] s := hK
  have hP9 := hP.sub (ws' := [(h0, .inr (13, z_3))]) [1] rfl
  have hD9 := hD.sub (ws' := [(h0, .inr (13, z_3))]) [1] (by decide) rfl
  have hK9 := hK.sub (tys' := []) [] rfl
  exact W.vret hx hb hr (fun t ht hW => ⟨⟨(z_3), rfl, hw, by rw [ht]; exact hP9, va_K.moved hW.alike hK9, hD9⟩, hS.F ht⟩) hS.2.2 dX13_misplaced_27
set_option maxHeartbeats 4000000 in
set_option maxRecDepth 100000 in
/-- isWord: the end is none -/
theorem mm_isWord (l : Launch) (dC : Nat → ClassId) (dI : Nat → Nat → Nat) (sz : Nat) (h0 : Nat) (fs : List Value) (qk : Nat) (ck : ClassId) (fk : Nat → Int32) (a1 : Int32) (hlen : fs.length = 155) (hf4 : fs[4]? = some (.ref qk)) (hfk : fk 0 = 5) : Met l yX13_isWord (.code yX13_isWord cX13_isWord 3 (some .boolean) :: VS_c3) ({ frames := 0, cells := 0, slots := 0, locals := 0 }) (va_Pc [.ref h0, .int 0, .int a1] (fun U => U.heap.size = sz ∧ va_P (dC, dI) vwCl [(h0, .inr (13, fs)), (qk, .inl (ck, 3008, .inl fk))] U.heap ∧ va_K (dC, dI) vwCl [(ck, .int)] U ∧ va_D (fun _ => True) [(h0, .inr (13, fs)), (qk, .inl (ck, 3008, .inl fk))])) (va_Qi (fun (r : Int32) (u : Unit) => match u with | () => r = 0) (fun (u : Unit) (t : State) => match u with | () => va_P (dC, dI) vwCl [(h0, .inr (13, fs)), (qk, .inl (ck, 3008, .inl fk))] t.heap ∧ va_K (dC, dI) vwCl [(ck, .int)] t ∧ va_D (va_A [(h0, .inr (13, fs)), (qk, .inl (ck, 3008, .inl fk))] sz) [(h0, .inr (13, fs)), (qk, .inl (ck, 3008, .inl fk))]) (va_A [(h0, .inr (13, fs)), (qk, .inl (ck, 3008, .inl fk))] sz)) 0 0 (va_A [(h0, .inr (13, fs)), (qk, .inl (ck, 3008, .inl fk))] sz) := by
  refine Met.ofW (cc := cX13_isWord) (maxL := 3) (ret := (some .boolean)) (by decide) rfl ?_
  intro p e s m args below meth c s₁ B hml hv
  obtain ⟨rfl, hsz, hP, hK, hD0⟩ := hv
  have hx := B.exec
  have hb := B.bytes
  have hr := B.returns
  have hts := atoms_spec (ws := (.code yX13_isWord cX13_isWord 3 (some .boolean) :: VS_c3)) B.pre
  replace hts := fun w (h : w ∈ VS_c3) => hts w (List.mem_cons_of_mem _ h)
  have hown : s.vm.findClass RX13 = some m.cls := findClass_of_methodNamed B.named
  have hlocks := B.notSynchronized
  subst hsz
  have hD := hD0.self (sz := s.heap.size)
  generalize hAe : va_A [(h0, .inr (13, fs)), (qk, .inl (ck, 3008, .inl fk))] s.heap.size = A at hD  ⊢
  have hA : ∀ q : Nat, s.heap.size ≤ q → A q := fun q h => by rw [← hAe]; exact Or.inr h
  have hP : va_P (dC, dI) vwCl [(h0, .inr (13, fs)), (qk, .inl (ck, 3008, .inl fk))] s.heap := hP
  have hl := lv_entry ([.ref h0, .int 0, .int a1]) (n := 3) (Nat.le_of_ble_eq_true rfl)
  rw [lg_entry_eq]
  generalize (lg_sl ([.ref h0, .int 0, .int a1]) ++ List.replicate (3 - (lg_sl ([.ref h0, .int 0, .int a1])).length) Slot.unset).toArray = ls at hl ⊢
  have hl : lv_has ls 3 [(0, .ref h0), (1, .int 0), (2, .int a1)] := hl
  obtain ⟨H, hH⟩ : ∃ H : Heap, s.heap = H := ⟨_, rfl⟩
  rw [hH] at hP ⊢
  have hS : va_S A s.heap H [] := by rw [← hH]; exact va_S.rf
  obtain ⟨locs, hlo⟩ : ∃ locs : List Loc, locs = [] := ⟨_, rfl⟩
  rw [← hlo] at hS ⊢
  refine lv_aload_n hx hb dX13_isWord_0 rfl (lv_at hl 0 rfl) ?_
  refine va_get (D := (dC, dI)) (ci := 13) (v := .ref qk) (C := RX13) (T := TX13) (N := 155) hx hb hts uV_c3_X13 hown hK hP 0 rfl rfl 4 (by decide) (hts (.fieldLink RX13 16 "ClassMillModel" "kind" "[I") mw_c3_20) (fun _ h9 => h9) hf4 dX13_isWord_1 ?_
  refine lv_iload_n hx hb dX13_isWord_4 rfl (lv_at hl 1 rfl) ?_
  refine va_iald hx hb hK hP 1 0 rfl rfl (i := 0) (by unfold vp_in; decide) dX13_isWord_5 ?_
  refine lv_topi (fun y_1 ey_1 => ?_)
  obtain rfl : y_1 = 5 := by rw [ey_1]; exact hfk
  refine lv_iconst (v := 3) hx hb dX13_isWord_6 (by decide) ?_
  refine lv_icmp_ne (tgt := 24) hx hb dX13_isWord_7 (by decide) (fun c_2 => ?_) (fun c_2 => (show False by revert c_2; decide).elim)
  refine lv_iconst (v := 0) hx hb dX13_isWord_24 (by decide) ?_
  have hP9 := hP.sub (ws' := [(h0, .inr (13, fs)), (qk, .inl (ck, 3008, .inl fk))]) [0, 1] rfl
  have hD9 := hD.sub (ws' := [(h0, .inr (13, fs)), (qk, .inl (ck, 3008, .inl fk))]) [0, 1] (by decide) rfl
  have hK9 := hK.sub (tys' := [(ck, .int)]) [0] rfl
  exact W.zret hx hb hr (by decide) (fun t ht hW => ⟨⟨0, (), rfl, rfl, by rw [ht]; exact hP9, va_K.moved hW.alike hK9, hD9⟩, hS.F ht⟩) hS.2.2 dX13_isWord_25
set_option maxHeartbeats 4000000 in
set_option maxRecDepth 100000 in
/-- word: FAULT 2 at the end of a text of nothing -/
theorem mm_word (l : Launch) (dC : Nat → ClassId) (dI : Nat → Nat → Nat) (sz : Nat) (h0 : Nat) (fs : List Value) (qk qf : Nat) (ck cf9 : ClassId) (fk ff : Nat → Int32) (a1 : Int32) (hlen : fs.length = 155) (hf9 : fs[9]? = some (.int 0)) (hf5 : fs[5]? = some (.ref qf)) (hf4 : fs[4]? = some (.ref qk)) (hf23 : fs[23]? = some (.int 0)) (hff : ff 0 = 0) (hfk : fk 0 = 5) : Met l yX13_word (.code yX13_word cX13_word 2 none :: VS_c3) ({ frames := 2, cells := 0, slots := 0, locals := 42 }) (va_Pc [.ref h0, .int a1] (fun U => U.heap.size = sz ∧ va_P (dC, dI) vwCl [(h0, .inr (13, fs)), (qk, .inl (ck, 3008, .inl fk)), (qf, .inl (cf9, 3002, .inl ff))] U.heap ∧ va_K (dC, dI) vwCl [(ck, .int), (cf9, .int)] U ∧ va_D (fun _ => True) [(h0, .inr (13, fs)), (qk, .inl (ck, 3008, .inl fk)), (qf, .inl (cf9, 3002, .inl ff))])) (va_Qv (fun (u : (List Value)) => match u with | (zo1) => zo1 = ((fs.set 9 (.int 2)).set 10 (.int 0))) (fun (u : (List Value)) (t : State) => match u with | (zo1) => va_P (dC, dI) vwCl [(h0, .inr (13, zo1))] t.heap ∧ va_K (dC, dI) vwCl [] t ∧ va_D (va_A [(h0, .inr (13, fs)), (qk, .inl (ck, 3008, .inl fk)), (qf, .inl (cf9, 3002, .inl ff))] sz) [(h0, .inr (13, zo1))]) (va_A [(h0, .inr (13, fs)), (qk, .inl (ck, 3008, .inl fk)), (qf, .inl (cf9, 3002, .inl ff))] sz)) 0 0 (va_A [(h0, .inr (13, fs)), (qk, .inl (ck, 3008, .inl fk)), (qf, .inl (cf9, 3002, .inl ff))] sz) := by
  refine Met.ofW (cc := cX13_word) (maxL := 2) (ret := none) (by decide) rfl ?_
  intro p e s m args below meth c s₁ B hml hv
  obtain ⟨rfl, hsz, hP, hK, hD0⟩ := hv
  have hx := B.exec
  have hb := B.bytes
  have hr := B.returns
  have hts := atoms_spec (ws := (.code yX13_word cX13_word 2 none :: VS_c3)) B.pre
  replace hts := fun w (h : w ∈ VS_c3) => hts w (List.mem_cons_of_mem _ h)
  have hown : s.vm.findClass RX13 = some m.cls := findClass_of_methodNamed B.named
  have hlocks := B.notSynchronized
  subst hsz
  have hD := hD0.self (sz := s.heap.size)
  generalize hAe : va_A [(h0, .inr (13, fs)), (qk, .inl (ck, 3008, .inl fk)), (qf, .inl (cf9, 3002, .inl ff))] s.heap.size = A at hD  ⊢
  have hA : ∀ q : Nat, s.heap.size ≤ q → A q := fun q h => by rw [← hAe]; exact Or.inr h
  have hP : va_P (dC, dI) vwCl [(h0, .inr (13, fs)), (qk, .inl (ck, 3008, .inl fk)), (qf, .inl (cf9, 3002, .inl ff))] s.heap := hP
  have hl := lv_entry ([.ref h0, .int a1]) (n := 2) (Nat.le_of_ble_eq_true rfl)
  rw [lg_entry_eq]
  generalize (lg_sl ([.ref h0, .int a1]) ++ List.replicate (2 - (lg_sl ([.ref h0, .int a1])).length) Slot.unset).toArray = ls at hl ⊢
  have hl : lv_has ls 2 [(0, .ref h0), (1, .int a1)] := hl
  obtain ⟨H, hH⟩ : ∃ H : Heap, s.heap = H := ⟨_, rfl⟩
  rw [hH] at hP ⊢
  have hS : va_S A s.heap H [] := by rw [← hH]; exact va_S.rf
  obtain ⟨locs, hlo⟩ : ∃ locs : List Loc, locs = [] := ⟨_, rfl⟩
  rw [← hlo] at hS ⊢
  refine lv_aload_n hx hb dX13_word_0 rfl (lv_at hl 0 rfl) ?_
  refine va_get (D := (dC, dI)) (ci := 13) (v := .int 0) (C := RX13) (T := TX13) (N := 155) hx hb hts uV_c3_X13 hown hK hP 0 rfl rfl 9 (by decide) (hts (.fieldLink RX13 319 "ClassMillModel" "fault" "I") mw_c3_13) (fun _ h9 => h9) hf9 dX13_word_1 ?_
  refine lv_if_eq (tgt := 8) hx hb dX13_word_4 (by decide) (fun c_1 => ?_) (fun c_1 => (show False by revert c_1; decide).elim)
  refine lv_aload_n hx hb dX13_word_8 rfl (lv_at hl 0 rfl) ?_
  refine lv_aload_n hx hb dX13_word_9 rfl (lv_at hl 0 rfl) ?_
  refine va_get (D := (dC, dI)) (ci := 13) (v := .int 0) (C := RX13) (T := TX13) (N := 155) hx hb hts uV_c3_X13 hown hK hP 0 rfl rfl 23 (by decide) (hts (.fieldLink RX13 376 "ClassMillModel" "cursor" "I") mw_c3_21) (fun _ h9 => h9) hf23 dX13_word_10 ?_
  refine lv_iload_n hx hb dX13_word_13 rfl (lv_at hl 1 rfl) ?_
  have hPc := hP.sub (ws' := [(h0, .inr (13, fs)), (qk, .inl (ck, 3008, .inl fk))]) [0, 1] rfl
  have hDc := hD.sub (ws' := [(h0, .inr (13, fs)), (qk, .inl (ck, 3008, .inl fk))]) [0, 1] (by decide) rfl
  have hKc := hK.sub (tys' := [(ck, .int)]) [0] rfl
  have hFc := va_free (wc := [(h0, .inr (13, fs)), (qk, .inl (ck, 3008, .inl fk))]) hD hS hA [0, 1] rfl
  refine va_calli (va_runV (As := [.int 0, .int a1]) (rest := []) ⟨hx, hb, hml, hown, hts⟩ (mm_isWord l dC dI H.size h0 fs qk ck fk a1 hlen hf4 hfk) (cwV 2 hts gv_c3_3 rfl rfl rfl (by decide +kernel) ⟨Nat.le_of_ble_eq_true rfl, Nat.le_of_ble_eq_true rfl⟩) ⟨fun a U g mk q => by obtain ⟨q0, q1, qP, qK, qD⟩ := q; exact ⟨q0, q1, qP, va_K.moved (u := U) (U := U.calling g mk a) (Vm.Alike.refl U.vm) qK, qD⟩, va_recv hKc hPc (ci := 13) (q0 := 0) rfl rfl, fun U hU hW => ⟨rfl, by rw [hU], by rw [hU]; exact hPc, va_K.moved hW.alike hKc, hDc.weaken (fun _ _ _ _ => trivial)⟩⟩ rfl rfl hl.1 rfl (lv_room (Nat.le_of_ble_eq_true rfl)) dX13_word_14 ⟨Nat.le_of_ble_eq_true rfl, Nat.le_of_ble_eq_true rfl⟩) hS (fun q _ h => hFc q h) hFc ?_
  clear hS
  intro r_2 u t H1 locs ht hvm hw hB hz1 hk1 hS
  obtain ⟨⟩ := u
  obtain ⟨hP1, hK1, hD1⟩ := hB
  rw [ht] at hP1
  have hK1 := va_K.moved hvm.symm hK1
  try dsimp only at hw
  have hPD := va_join (wr := [(qf, .inl (cf9, 3002, .inl ff))]) (w1 := [(h0, .inr (13, fs)), (qk, .inl (ck, 3008, .inl fk))]) hP hD [0, 1] [2] rfl rfl (by decide) (by decide) hk1 hFc hP1 hD1
  clear hP hD
  obtain ⟨hP, hD⟩ := hPD
  replace hK := (hK.sub (tys' := [(cf9, .int)]) [1] rfl).app hK1
  clear hPc hDc hKc hFc hP1 hK1 hD1 hz1 hk1 ht hvm
  generalize H1 = H at hP hS ⊢
  replace hP : va_P (dC, dI) vwCl [(qf, .inl (cf9, 3002, .inl ff)), (h0, .inr (13, fs)), (qk, .inl (ck, 3008, .inl fk))] H := hP
  replace hD : va_D A [(qf, .inl (cf9, 3002, .inl ff)), (h0, .inr (13, fs)), (qk, .inl (ck, 3008, .inl fk))] := hD
  replace hK : va_K (dC, dI) vwCl [(cf9, .int), (ck, .int)] s := hK
  subst hw
  replace hP := hP.sub (ws' := [(h0, .inr (13, fs)), (qk, .inl (ck, 3008, .inl fk)), (qf, .inl (cf9, 3002, .inl ff))]) [1, 2, 0] rfl
  replace hD := hD.sub (ws' := [(h0, .inr (13, fs)), (qk, .inl (ck, 3008, .inl fk)), (qf, .inl (cf9, 3002, .inl ff))]) [1, 2, 0] (by decide) rfl
  replace hK := hK.sub (tys' := [(ck, .int), (cf9, .int)]) [1, 0] rfl
  refine lv_if_eq (tgt := 33) hx hb dX13_word_17 (by decide) (fun c_3 => ?_) (fun c_3 => (show False by revert c_3; decide).elim)
  refine lv_aload_n hx hb dX13_word_33 rfl (lv_at hl 0 rfl) ?_
  have hPc := hP.sub (ws' := [(h0, .inr (13, fs)), (qk, .inl (ck, 3008, .inl fk)), (qf, .inl (cf9, 3002, .inl ff))]) [0, 1, 2] rfl
  have hDc := hD.sub (ws' := [(h0, .inr (13, fs)), (qk, .inl (ck, 3008, .inl fk)), (qf, .inl (cf9, 3002, .inl ff))]) [0, 1, 2] (by decide) rfl
  have hKc := hK.sub (tys' := [(ck, .int), (cf9, .int)]) [0, 1] rfl
  have hFc := va_free (wc := [(h0, .inr (13, fs)), (qk, .inl (ck, 3008, .inl fk)), (qf, .inl (cf9, 3002, .inl ff))]) hD hS hA [0, 1, 2] rfl
  refine va_callv (va_runV (As := []) (rest := []) ⟨hx, hb, hml, hown, hts⟩ (mm_misplaced l dC dI H.size h0 fs qk qf ck cf9 fk ff hlen hf9 hf5 hf4 hf23 hff hfk) (cwV 0 hts gv_c3_4 rfl rfl rfl (by decide +kernel) ⟨Nat.le_of_ble_eq_true rfl, Nat.le_of_ble_eq_true rfl⟩) ⟨fun a U g mk q => by obtain ⟨q0, q1, qP, qK, qD⟩ := q; exact ⟨q0, q1, qP, va_K.moved (u := U) (U := U.calling g mk a) (Vm.Alike.refl U.vm) qK, qD⟩, va_recv hKc hPc (ci := 13) (q0 := 0) rfl rfl, fun U hU hW => ⟨rfl, by rw [hU], by rw [hU]; exact hPc, va_K.moved hW.alike hKc, hDc.weaken (fun _ _ _ _ => trivial)⟩⟩ rfl rfl hl.1 rfl (lv_room (Nat.le_of_ble_eq_true rfl)) dX13_word_34 ⟨Nat.le_of_ble_eq_true rfl, Nat.le_of_ble_eq_true rfl⟩) hS (fun q _ h => hFc q h) hFc ?_
  clear hS
  intro u t H1 locs ht hvm hw hB hz1 hk1 hS
  obtain ⟨z_4, rfl⟩ : ∃ z, z = u := ⟨_, rfl⟩
  obtain ⟨hP1, hK1, hD1⟩ := hB
  rw [ht] at hP1
  have hK1 := va_K.moved hvm.symm hK1
  try dsimp only at hw
  have hPD := va_join (wr := []) (w1 := [(h0, .inr (13, z_4))]) hP hD [0, 1, 2] [] rfl rfl (by decide) (by decide) hk1 hFc hP1 hD1
  clear hP hD
  obtain ⟨hP, hD⟩ := hPD
  replace hK := (hK.sub (tys' := []) [] rfl).app hK1
  clear hPc hDc hKc hFc hP1 hK1 hD1 hz1 hk1 ht hvm
  generalize H1 = H at hP hS ⊢
  replace hP : va_P (dC, dI) vwCl [(h0, .inr (13, z_4))] H := hP
  replace hD : va_D A [(h0, .inr (13, z_4))] := hD
  replace hK : va_K (dC, dI) vwCl [] s := hK
  have hP9 := hP.sub (ws' := [(h0, .inr (13, z_4))]) [0] rfl
  have hD9 := hD.sub (ws' := [(h0, .inr (13, z_4))]) [0] (by decide) rfl
  have hK9 := hK.sub (tys' := []) [] rfl
  exact W.vret hx hb hr (fun t ht hW => ⟨⟨(z_4), rfl, hw, by rw [ht]; exact hP9, va_K.moved hW.alike hK9, hD9⟩, hS.F ht⟩) hS.2.2 dX13_word_37
set_option maxHeartbeats 4000000 in
set_option maxRecDepth 100000 in
/-- name behind a FAULT -/
theorem mm_name (l : Launch) (dC : Nat → ClassId) (dI : Nat → Nat → Nat) (sz : Nat) (h0 : Nat) (fs : List Value)  (hlen : fs.length = 155) (hf9 : fs[9]? = some (.int 2))  : Met l yX13_name (.code yX13_name cX13_name 1 (some .int) :: VS_c3) ({ frames := 0, cells := 0, slots := 0, locals := 0 }) (va_Pc [.ref h0] (fun U => U.heap.size = sz ∧ va_P (dC, dI) vwCl [(h0, .inr (13, fs))] U.heap ∧ va_K (dC, dI) vwCl [] U ∧ va_D (fun _ => True) [(h0, .inr (13, fs))])) (va_Qi (fun (r : Int32) (u : Unit) => match u with | () => r = 0) (fun (u : Unit) (t : State) => match u with | () => va_P (dC, dI) vwCl [(h0, .inr (13, fs))] t.heap ∧ va_K (dC, dI) vwCl [] t ∧ va_D (va_A [(h0, .inr (13, fs))] sz) [(h0, .inr (13, fs))]) (va_A [(h0, .inr (13, fs))] sz)) 0 0 (va_A [(h0, .inr (13, fs))] sz) := by
  refine Met.ofW (cc := cX13_name) (maxL := 1) (ret := (some .int)) (by decide) rfl ?_
  intro p e s m args below meth c s₁ B hml hv
  obtain ⟨rfl, hsz, hP, hK, hD0⟩ := hv
  have hx := B.exec
  have hb := B.bytes
  have hr := B.returns
  have hts := atoms_spec (ws := (.code yX13_name cX13_name 1 (some .int) :: VS_c3)) B.pre
  replace hts := fun w (h : w ∈ VS_c3) => hts w (List.mem_cons_of_mem _ h)
  have hown : s.vm.findClass RX13 = some m.cls := findClass_of_methodNamed B.named
  have hlocks := B.notSynchronized
  subst hsz
  have hD := hD0.self (sz := s.heap.size)
  generalize hAe : va_A [(h0, .inr (13, fs))] s.heap.size = A at hD  ⊢
  have hA : ∀ q : Nat, s.heap.size ≤ q → A q := fun q h => by rw [← hAe]; exact Or.inr h
  have hP : va_P (dC, dI) vwCl [(h0, .inr (13, fs))] s.heap := hP
  have hl := lv_entry ([.ref h0]) (n := 1) (Nat.le_of_ble_eq_true rfl)
  rw [lg_entry_eq]
  generalize (lg_sl ([.ref h0]) ++ List.replicate (1 - (lg_sl ([.ref h0])).length) Slot.unset).toArray = ls at hl ⊢
  have hl : lv_has ls 1 [(0, .ref h0)] := hl
  obtain ⟨H, hH⟩ : ∃ H : Heap, s.heap = H := ⟨_, rfl⟩
  rw [hH] at hP ⊢
  have hS : va_S A s.heap H [] := by rw [← hH]; exact va_S.rf
  obtain ⟨locs, hlo⟩ : ∃ locs : List Loc, locs = [] := ⟨_, rfl⟩
  rw [← hlo] at hS ⊢
  refine lv_aload_n hx hb dX13_name_0 rfl (lv_at hl 0 rfl) ?_
  refine va_get (D := (dC, dI)) (ci := 13) (v := .int 2) (C := RX13) (T := TX13) (N := 155) hx hb hts uV_c3_X13 hown hK hP 0 rfl rfl 9 (by decide) (hts (.fieldLink RX13 319 "ClassMillModel" "fault" "I") mw_c3_13) (fun _ h9 => h9) hf9 dX13_name_1 ?_
  refine lv_if_eq (tgt := 9) hx hb dX13_name_4 (by decide) (fun c_1 => (show False by revert c_1; decide).elim) (fun c_1 => ?_)
  refine lv_iconst (v := 0) hx hb dX13_name_7 (by decide) ?_
  have hP9 := hP.sub (ws' := [(h0, .inr (13, fs))]) [0] rfl
  have hD9 := hD.sub (ws' := [(h0, .inr (13, fs))]) [0] (by decide) rfl
  have hK9 := hK.sub (tys' := []) [] rfl
  exact W.iret hx hb hr (fun t ht hW => ⟨⟨0, (), rfl, rfl, by rw [ht]; exact hP9, va_K.moved hW.alike hK9, hD9⟩, hS.F ht⟩) hS.2.2 dX13_name_8
set_option maxHeartbeats 4000000 in
set_option maxRecDepth 100000 in
/-- program of a text of nothing: FAULT 2 -/
theorem mm_program (l : Launch) (dC : Nat → ClassId) (dI : Nat → Nat → Nat) (sz : Nat) (h0 : Nat) (fs : List Value) (qk qf : Nat) (ck cf9 : ClassId) (fk ff : Nat → Int32) (hlen : fs.length = 155) (hf9 : fs[9]? = some (.int 0)) (hf5 : fs[5]? = some (.ref qf)) (hf4 : fs[4]? = some (.ref qk)) (hff : ff 0 = 0) (hfk : fk 0 = 5) : Met l yX13_program (.code yX13_program cX13_program 3 none :: VS_c3) ({ frames := 3, cells := 0, slots := 0, locals := 63 }) (va_Pc [.ref h0] (fun U => U.heap.size = sz ∧ va_P (dC, dI) vwCl [(h0, .inr (13, fs)), (qk, .inl (ck, 3008, .inl fk)), (qf, .inl (cf9, 3002, .inl ff))] U.heap ∧ va_K (dC, dI) vwCl [(ck, .int), (cf9, .int)] U ∧ va_D (fun _ => True) [(h0, .inr (13, fs)), (qk, .inl (ck, 3008, .inl fk)), (qf, .inl (cf9, 3002, .inl ff))])) (va_Qv (fun (u : (List Value)) => match u with | (zo1) => zo1.length = 155 ∧ zo1[9]? = some (.int 2) ∧ zo1[24]? = some (.int 0)) (fun (u : (List Value)) (t : State) => match u with | (zo1) => va_P (dC, dI) vwCl [(h0, .inr (13, zo1))] t.heap ∧ va_K (dC, dI) vwCl [] t ∧ va_D (va_A [(h0, .inr (13, fs)), (qk, .inl (ck, 3008, .inl fk)), (qf, .inl (cf9, 3002, .inl ff))] sz) [(h0, .inr (13, zo1))]) (va_A [(h0, .inr (13, fs)), (qk, .inl (ck, 3008, .inl fk)), (qf, .inl (cf9, 3002, .inl ff))] sz)) 0 0 (va_A [(h0, .inr (13, fs)), (qk, .inl (ck, 3008, .inl fk)), (qf, .inl (cf9, 3002, .inl ff))] sz) := by
  refine Met.ofW (cc := cX13_program) (maxL := 3) (ret := none) (by decide) rfl ?_
  intro p e s m args below meth c s₁ B hml hv
  obtain ⟨rfl, hsz, hP, hK, hD0⟩ := hv
  have hx := B.exec
  have hb := B.bytes
  have hr := B.returns
  have hts := atoms_spec (ws := (.code yX13_program cX13_program 3 none :: VS_c3)) B.pre
  replace hts := fun w (h : w ∈ VS_c3) => hts w (List.mem_cons_of_mem _ h)
  have hown : s.vm.findClass RX13 = some m.cls := findClass_of_methodNamed B.named
  have hlocks := B.notSynchronized
  subst hsz
  have hD := hD0.self (sz := s.heap.size)
  generalize hAe : va_A [(h0, .inr (13, fs)), (qk, .inl (ck, 3008, .inl fk)), (qf, .inl (cf9, 3002, .inl ff))] s.heap.size = A at hD  ⊢
  have hA : ∀ q : Nat, s.heap.size ≤ q → A q := fun q h => by rw [← hAe]; exact Or.inr h
  have hP : va_P (dC, dI) vwCl [(h0, .inr (13, fs)), (qk, .inl (ck, 3008, .inl fk)), (qf, .inl (cf9, 3002, .inl ff))] s.heap := hP
  have hl := lv_entry ([.ref h0]) (n := 3) (Nat.le_of_ble_eq_true rfl)
  rw [lg_entry_eq]
  generalize (lg_sl ([.ref h0]) ++ List.replicate (3 - (lg_sl ([.ref h0])).length) Slot.unset).toArray = ls at hl ⊢
  have hl : lv_has ls 3 [(0, .ref h0)] := hl
  obtain ⟨H, hH⟩ : ∃ H : Heap, s.heap = H := ⟨_, rfl⟩
  rw [hH] at hP ⊢
  have hS : va_S A s.heap H [] := by rw [← hH]; exact va_S.rf
  obtain ⟨locs, hlo⟩ : ∃ locs : List Loc, locs = [] := ⟨_, rfl⟩
  rw [← hlo] at hS ⊢
  refine lv_aload_n hx hb dX13_program_0 rfl (lv_at hl 0 rfl) ?_
  refine lv_iconst (v := 0) hx hb dX13_program_1 (by decide) ?_
  refine va_put (D := (dC, dI)) (ci := 13) (v := .int 0) (ty := .int) (C := RX13) (T := TX13) (N := 155) hx hb hts uV_c3_X13 tyX13 tyX13_ok nmX13 hown hK hP hD hS 0 rfl rfl 24 (by decide) (hts (.fieldLink RX13 409 "ClassMillModel" "classes" "I") mw_c3_38) (fun _ h9 => h9) rfl (by decide +kernel) rfl rfl (by rw [hlen]; decide) dX13_program_2 ?_
  clear hP hD hS
  intro H locs hP hD hS
  obtain ⟨fs_1, efs_1⟩ : ∃ zf : List Value, zf = fs.set 24 (.int 0) := ⟨_, rfl⟩
  rw [← efs_1] at hP hD
  have hlfs_1 : fs_1.length = 155 := by rw [efs_1, List.length_set]; exact hlen
  have hfs_1_9 : fs_1[9]? = some (.int 0) := by rw [efs_1, List.getElem?_set_ne (by decide)]; exact hf9
  have hfs_1_5 : fs_1[5]? = some (.ref qf) := by rw [efs_1, List.getElem?_set_ne (by decide)]; exact hf5
  have hfs_1_4 : fs_1[4]? = some (.ref qk) := by rw [efs_1, List.getElem?_set_ne (by decide)]; exact hf4
  have hfs_1_24 : fs_1[24]? = some (.int 0) := by rw [efs_1, List.getElem?_set_self (by rw [hlen]; decide)]
  replace hP : va_P (dC, dI) vwCl [(h0, .inr (13, fs_1)), (qk, .inl (ck, 3008, .inl fk)), (qf, .inl (cf9, 3002, .inl ff))] H := hP
  replace hD : va_D A [(h0, .inr (13, fs_1)), (qk, .inl (ck, 3008, .inl fk)), (qf, .inl (cf9, 3002, .inl ff))] := hD
  refine lv_aload_n hx hb dX13_program_5 rfl (lv_at hl 0 rfl) ?_
  refine lv_iconst (v := 0) hx hb dX13_program_6 (by decide) ?_
  refine va_put (D := (dC, dI)) (ci := 13) (v := .int 0) (ty := .int) (C := RX13) (T := TX13) (N := 155) hx hb hts uV_c3_X13 tyX13 tyX13_ok nmX13 hown hK hP hD hS 0 rfl rfl 28 (by decide) (hts (.fieldLink RX13 412 "ClassMillModel" "members" "I") mw_c3_39) (fun _ h9 => h9) rfl (by decide +kernel) rfl rfl (by rw [hlfs_1]; decide) dX13_program_7 ?_
  clear hP hD hS
  intro H locs hP hD hS
  obtain ⟨fs_2, efs_2⟩ : ∃ zf : List Value, zf = fs_1.set 28 (.int 0) := ⟨_, rfl⟩
  rw [← efs_2] at hP hD
  have hlfs_2 : fs_2.length = 155 := by rw [efs_2, List.length_set]; exact hlfs_1
  have hfs_2_9 : fs_2[9]? = some (.int 0) := by rw [efs_2, List.getElem?_set_ne (by decide)]; exact hfs_1_9
  have hfs_2_5 : fs_2[5]? = some (.ref qf) := by rw [efs_2, List.getElem?_set_ne (by decide)]; exact hfs_1_5
  have hfs_2_4 : fs_2[4]? = some (.ref qk) := by rw [efs_2, List.getElem?_set_ne (by decide)]; exact hfs_1_4
  have hfs_2_24 : fs_2[24]? = some (.int 0) := by rw [efs_2, List.getElem?_set_ne (by decide)]; exact hfs_1_24
  have hfs_2_28 : fs_2[28]? = some (.int 0) := by rw [efs_2, List.getElem?_set_self (by rw [hlfs_1]; decide)]
  replace hP : va_P (dC, dI) vwCl [(h0, .inr (13, fs_2)), (qk, .inl (ck, 3008, .inl fk)), (qf, .inl (cf9, 3002, .inl ff))] H := hP
  replace hD : va_D A [(h0, .inr (13, fs_2)), (qk, .inl (ck, 3008, .inl fk)), (qf, .inl (cf9, 3002, .inl ff))] := hD
  refine lv_aload_n hx hb dX13_program_10 rfl (lv_at hl 0 rfl) ?_
  refine lv_iconst (v := 0) hx hb dX13_program_11 (by decide) ?_
  refine va_put (D := (dC, dI)) (ci := 13) (v := .int 0) (ty := .int) (C := RX13) (T := TX13) (N := 155) hx hb hts uV_c3_X13 tyX13 tyX13_ok nmX13 hown hK hP hD hS 0 rfl rfl 39 (by decide) (hts (.fieldLink RX13 415 "ClassMillModel" "parameters" "I") mw_c3_40) (fun _ h9 => h9) rfl (by decide +kernel) rfl rfl (by rw [hlfs_2]; decide) dX13_program_12 ?_
  clear hP hD hS
  intro H locs hP hD hS
  obtain ⟨fs_3, efs_3⟩ : ∃ zf : List Value, zf = fs_2.set 39 (.int 0) := ⟨_, rfl⟩
  rw [← efs_3] at hP hD
  have hlfs_3 : fs_3.length = 155 := by rw [efs_3, List.length_set]; exact hlfs_2
  have hfs_3_9 : fs_3[9]? = some (.int 0) := by rw [efs_3, List.getElem?_set_ne (by decide)]; exact hfs_2_9
  have hfs_3_5 : fs_3[5]? = some (.ref qf) := by rw [efs_3, List.getElem?_set_ne (by decide)]; exact hfs_2_5
  have hfs_3_4 : fs_3[4]? = some (.ref qk) := by rw [efs_3, List.getElem?_set_ne (by decide)]; exact hfs_2_4
  have hfs_3_24 : fs_3[24]? = some (.int 0) := by rw [efs_3, List.getElem?_set_ne (by decide)]; exact hfs_2_24
  have hfs_3_28 : fs_3[28]? = some (.int 0) := by rw [efs_3, List.getElem?_set_ne (by decide)]; exact hfs_2_28
  have hfs_3_39 : fs_3[39]? = some (.int 0) := by rw [efs_3, List.getElem?_set_self (by rw [hlfs_2]; decide)]
  replace hP : va_P (dC, dI) vwCl [(h0, .inr (13, fs_3)), (qk, .inl (ck, 3008, .inl fk)), (qf, .inl (cf9, 3002, .inl ff))] H := hP
  replace hD : va_D A [(h0, .inr (13, fs_3)), (qk, .inl (ck, 3008, .inl fk)), (qf, .inl (cf9, 3002, .inl ff))] := hD
  refine lv_aload_n hx hb dX13_program_15 rfl (lv_at hl 0 rfl) ?_
  refine lv_iconst (v := 0) hx hb dX13_program_16 (by decide) ?_
  refine va_put (D := (dC, dI)) (ci := 13) (v := .int 0) (ty := .int) (C := RX13) (T := TX13) (N := 155) hx hb hts uV_c3_X13 tyX13 tyX13_ok nmX13 hown hK hP hD hS 0 rfl rfl 22 (by decide) (hts (.fieldLink RX13 373 "ClassMillModel" "nodes" "I") mw_c3_41) (fun _ h9 => h9) rfl (by decide +kernel) rfl rfl (by rw [hlfs_3]; decide) dX13_program_17 ?_
  clear hP hD hS
  intro H locs hP hD hS
  obtain ⟨fs_4, efs_4⟩ : ∃ zf : List Value, zf = fs_3.set 22 (.int 0) := ⟨_, rfl⟩
  rw [← efs_4] at hP hD
  have hlfs_4 : fs_4.length = 155 := by rw [efs_4, List.length_set]; exact hlfs_3
  have hfs_4_9 : fs_4[9]? = some (.int 0) := by rw [efs_4, List.getElem?_set_ne (by decide)]; exact hfs_3_9
  have hfs_4_5 : fs_4[5]? = some (.ref qf) := by rw [efs_4, List.getElem?_set_ne (by decide)]; exact hfs_3_5
  have hfs_4_4 : fs_4[4]? = some (.ref qk) := by rw [efs_4, List.getElem?_set_ne (by decide)]; exact hfs_3_4
  have hfs_4_24 : fs_4[24]? = some (.int 0) := by rw [efs_4, List.getElem?_set_ne (by decide)]; exact hfs_3_24
  have hfs_4_28 : fs_4[28]? = some (.int 0) := by rw [efs_4, List.getElem?_set_ne (by decide)]; exact hfs_3_28
  have hfs_4_39 : fs_4[39]? = some (.int 0) := by rw [efs_4, List.getElem?_set_ne (by decide)]; exact hfs_3_39
  have hfs_4_22 : fs_4[22]? = some (.int 0) := by rw [efs_4, List.getElem?_set_self (by rw [hlfs_3]; decide)]
  replace hP : va_P (dC, dI) vwCl [(h0, .inr (13, fs_4)), (qk, .inl (ck, 3008, .inl fk)), (qf, .inl (cf9, 3002, .inl ff))] H := hP
  replace hD : va_D A [(h0, .inr (13, fs_4)), (qk, .inl (ck, 3008, .inl fk)), (qf, .inl (cf9, 3002, .inl ff))] := hD
  refine lv_aload_n hx hb dX13_program_20 rfl (lv_at hl 0 rfl) ?_
  refine lv_iconst (v := 0) hx hb dX13_program_21 (by decide) ?_
  refine va_put (D := (dC, dI)) (ci := 13) (v := .int 0) (ty := .int) (C := RX13) (T := TX13) (N := 155) hx hb hts uV_c3_X13 tyX13 tyX13_ok nmX13 hown hK hP hD hS 0 rfl rfl 23 (by decide) (hts (.fieldLink RX13 376 "ClassMillModel" "cursor" "I") mw_c3_21) (fun _ h9 => h9) rfl (by decide +kernel) rfl rfl (by rw [hlfs_4]; decide) dX13_program_22 ?_
  clear hP hD hS
  intro H locs hP hD hS
  obtain ⟨fs_5, efs_5⟩ : ∃ zf : List Value, zf = fs_4.set 23 (.int 0) := ⟨_, rfl⟩
  rw [← efs_5] at hP hD
  have hlfs_5 : fs_5.length = 155 := by rw [efs_5, List.length_set]; exact hlfs_4
  have hfs_5_9 : fs_5[9]? = some (.int 0) := by rw [efs_5, List.getElem?_set_ne (by decide)]; exact hfs_4_9
  have hfs_5_5 : fs_5[5]? = some (.ref qf) := by rw [efs_5, List.getElem?_set_ne (by decide)]; exact hfs_4_5
  have hfs_5_4 : fs_5[4]? = some (.ref qk) := by rw [efs_5, List.getElem?_set_ne (by decide)]; exact hfs_4_4
  have hfs_5_24 : fs_5[24]? = some (.int 0) := by rw [efs_5, List.getElem?_set_ne (by decide)]; exact hfs_4_24
  have hfs_5_28 : fs_5[28]? = some (.int 0) := by rw [efs_5, List.getElem?_set_ne (by decide)]; exact hfs_4_28
  have hfs_5_39 : fs_5[39]? = some (.int 0) := by rw [efs_5, List.getElem?_set_ne (by decide)]; exact hfs_4_39
  have hfs_5_22 : fs_5[22]? = some (.int 0) := by rw [efs_5, List.getElem?_set_ne (by decide)]; exact hfs_4_22
  have hfs_5_23 : fs_5[23]? = some (.int 0) := by rw [efs_5, List.getElem?_set_self (by rw [hlfs_4]; decide)]
  replace hP : va_P (dC, dI) vwCl [(h0, .inr (13, fs_5)), (qk, .inl (ck, 3008, .inl fk)), (qf, .inl (cf9, 3002, .inl ff))] H := hP
  replace hD : va_D A [(h0, .inr (13, fs_5)), (qk, .inl (ck, 3008, .inl fk)), (qf, .inl (cf9, 3002, .inl ff))] := hD
  refine lv_aload_n hx hb dX13_program_25 rfl (lv_at hl 0 rfl) ?_
  refine lv_iconst (v := 3) hx hb dX13_program_26 (by decide) ?_
  have hPc := hP.sub (ws' := [(h0, .inr (13, fs_5)), (qk, .inl (ck, 3008, .inl fk)), (qf, .inl (cf9, 3002, .inl ff))]) [0, 1, 2] rfl
  have hDc := hD.sub (ws' := [(h0, .inr (13, fs_5)), (qk, .inl (ck, 3008, .inl fk)), (qf, .inl (cf9, 3002, .inl ff))]) [0, 1, 2] (by decide) rfl
  have hKc := hK.sub (tys' := [(ck, .int), (cf9, .int)]) [0, 1] rfl
  have hFc := va_free (wc := [(h0, .inr (13, fs_5)), (qk, .inl (ck, 3008, .inl fk)), (qf, .inl (cf9, 3002, .inl ff))]) hD hS hA [0, 1, 2] rfl
  refine va_callv (va_runV (As := [.int 3]) (rest := []) ⟨hx, hb, hml, hown, hts⟩ (mm_word l dC dI H.size h0 fs_5 qk qf ck cf9 fk ff 3 hlfs_5 hfs_5_9 hfs_5_5 hfs_5_4 hfs_5_23 hff hfk) (cwV 1 hts gv_c3_5 rfl rfl rfl (by decide +kernel) ⟨Nat.le_of_ble_eq_true rfl, Nat.le_of_ble_eq_true rfl⟩) ⟨fun a U g mk q => by obtain ⟨q0, q1, qP, qK, qD⟩ := q; exact ⟨q0, q1, qP, va_K.moved (u := U) (U := U.calling g mk a) (Vm.Alike.refl U.vm) qK, qD⟩, va_recv hKc hPc (ci := 13) (q0 := 0) rfl rfl, fun U hU hW => ⟨rfl, by rw [hU], by rw [hU]; exact hPc, va_K.moved hW.alike hKc, hDc.weaken (fun _ _ _ _ => trivial)⟩⟩ rfl rfl hl.1 rfl (lv_room (Nat.le_of_ble_eq_true rfl)) dX13_program_27 ⟨Nat.le_of_ble_eq_true rfl, Nat.le_of_ble_eq_true rfl⟩) hS (fun q _ h => hFc q h) hFc ?_
  clear hS
  intro u t H1 locs ht hvm hw hB hz1 hk1 hS
  obtain ⟨z_6, rfl⟩ : ∃ z, z = u := ⟨_, rfl⟩
  obtain ⟨hP1, hK1, hD1⟩ := hB
  rw [ht] at hP1
  have hK1 := va_K.moved hvm.symm hK1
  try dsimp only at hw
  have hPD := va_join (wr := []) (w1 := [(h0, .inr (13, z_6))]) hP hD [0, 1, 2] [] rfl rfl (by decide) (by decide) hk1 hFc hP1 hD1
  clear hP hD
  obtain ⟨hP, hD⟩ := hPD
  replace hK := (hK.sub (tys' := []) [] rfl).app hK1
  clear hPc hDc hKc hFc hP1 hK1 hD1 hz1 hk1 ht hvm
  generalize H1 = H at hP hS ⊢
  replace hP : va_P (dC, dI) vwCl [(h0, .inr (13, z_6))] H := hP
  replace hD : va_D A [(h0, .inr (13, z_6))] := hD
  replace hK : va_K (dC, dI) vwCl [] s := hK
  have hz0 := hw
  have hLz_6 : z_6.length = 155 := by rw [hz0, List.length_set, List.length_set]; exact hlfs_5
  have hFz_6_9 : z_6[9]? = some (.int 2) := by rw [hz0, List.getElem?_set_ne (by decide), List.getElem?_set_self (by (try simp only [List.length_set]); rw [hlfs_5]; decide)]
  have hFz_6_24 : z_6[24]? = some (.int 0) := by rw [hz0, List.getElem?_set_ne (by decide), List.getElem?_set_ne (by decide)]; exact hfs_5_24
  refine lv_aload_n hx hb dX13_program_30 rfl (lv_at hl 0 rfl) ?_
  have hPc := hP.sub (ws' := [(h0, .inr (13, z_6))]) [0] rfl
  have hDc := hD.sub (ws' := [(h0, .inr (13, z_6))]) [0] (by decide) rfl
  have hKc := hK.sub (tys' := []) [] rfl
  have hFc := va_free (wc := [(h0, .inr (13, z_6))]) hD hS hA [0] rfl
  refine va_calli (va_runV (As := []) (rest := []) ⟨hx, hb, hml, hown, hts⟩ (mm_name l dC dI H.size h0 z_6 hLz_6 hFz_6_9) (cwV 0 hts gv_c3_6 rfl rfl rfl (by decide +kernel) ⟨Nat.le_of_ble_eq_true rfl, Nat.le_of_ble_eq_true rfl⟩) ⟨fun a U g mk q => by obtain ⟨q0, q1, qP, qK, qD⟩ := q; exact ⟨q0, q1, qP, va_K.moved (u := U) (U := U.calling g mk a) (Vm.Alike.refl U.vm) qK, qD⟩, va_recv hKc hPc (ci := 13) (q0 := 0) rfl rfl, fun U hU hW => ⟨rfl, by rw [hU], by rw [hU]; exact hPc, va_K.moved hW.alike hKc, hDc.weaken (fun _ _ _ _ => trivial)⟩⟩ rfl rfl hl.1 rfl (lv_room (Nat.le_of_ble_eq_true rfl)) dX13_program_31 ⟨Nat.le_of_ble_eq_true rfl, Nat.le_of_ble_eq_true rfl⟩) hS (fun q _ h => hFc q h) hFc ?_
  clear hS
  intro r_7 u t H1 locs ht hvm hw hB hz1 hk1 hS
  obtain ⟨⟩ := u
  obtain ⟨hP1, hK1, hD1⟩ := hB
  rw [ht] at hP1
  have hK1 := va_K.moved hvm.symm hK1
  try dsimp only at hw
  have hPD := va_join (wr := []) (w1 := [(h0, .inr (13, z_6))]) hP hD [0] [] rfl rfl (by decide) (by decide) hk1 hFc hP1 hD1
  clear hP hD
  obtain ⟨hP, hD⟩ := hPD
  replace hK := (hK.sub (tys' := []) [] rfl).app hK1
  clear hPc hDc hKc hFc hP1 hK1 hD1 hz1 hk1 ht hvm
  generalize H1 = H at hP hS ⊢
  replace hP : va_P (dC, dI) vwCl [(h0, .inr (13, z_6))] H := hP
  replace hD : va_D A [(h0, .inr (13, z_6))] := hD
  replace hK : va_K (dC, dI) vwCl [] s := hK
  subst hw
  refine lv_istore_n (lv' := [(1, .int 0), (0, .ref h0)]) hx hb dX13_program_34 rfl hl (by decide) rfl (fun ls hl => ?_)
  refine lv_iconst (v := (-1)) hx hb dX13_program_35 (by decide) ?_
  refine lv_istore_n (lv' := [(2, .int (-1)), (1, .int 0), (0, .ref h0)]) hx hb dX13_program_36 rfl hl (by decide) rfl (fun ls hl => ?_)
  refine lv_aload_n hx hb dX13_program_37 rfl (lv_at hl 2 rfl) ?_
  refine va_get (D := (dC, dI)) (ci := 13) (v := .int 2) (C := RX13) (T := TX13) (N := 155) hx hb hts uV_c3_X13 hown hK hP 0 rfl rfl 9 (by decide) (hts (.fieldLink RX13 319 "ClassMillModel" "fault" "I") mw_c3_13) (fun _ h9 => h9) hFz_6_9 dX13_program_38 ?_
  refine lv_if_ne (tgt := 72) hx hb dX13_program_41 (by decide) (fun c_8 => ?_) (fun c_8 => (show False by revert c_8; decide).elim)
  refine lv_aload_n hx hb dX13_program_72 rfl (lv_at hl 2 rfl) ?_
  refine va_get (D := (dC, dI)) (ci := 13) (v := .int 2) (C := RX13) (T := TX13) (N := 155) hx hb hts uV_c3_X13 hown hK hP 0 rfl rfl 9 (by decide) (hts (.fieldLink RX13 319 "ClassMillModel" "fault" "I") mw_c3_13) (fun _ h9 => h9) hFz_6_9 dX13_program_73 ?_
  refine lv_if_eq (tgt := 80) hx hb dX13_program_76 (by decide) (fun c_9 => (show False by revert c_9; decide).elim) (fun c_9 => ?_)
  obtain ⟨z_10, ez_10⟩ : ∃ z : List Value, z = z_6 := ⟨_, rfl⟩
  rw [← ez_10] at hP hD
  replace hP : va_P (dC, dI) vwCl [(h0, .inr (13, z_10))] H := hP
  replace hD : va_D A [(h0, .inr (13, z_10))] := hD
  have hA : z_10[9]? = some (.int 2) := by rw [ez_10]; exact hFz_6_9
  have hB : z_10[24]? = some (.int 0) := by rw [ez_10]; exact hFz_6_24
  have hC : z_10.length = 155 := by rw [ez_10]; exact hLz_6
  have hP9 := hP.sub (ws' := [(h0, .inr (13, z_10))]) [0] rfl
  have hD9 := hD.sub (ws' := [(h0, .inr (13, z_10))]) [0] (by decide) rfl
  have hK9 := hK.sub (tys' := []) [] rfl
  exact W.vret hx hb hr (fun t ht hW => ⟨⟨(z_10), rfl, ⟨hC, hA, hB⟩, by rw [ht]; exact hP9, va_K.moved hW.alike hK9, hD9⟩, hS.F ht⟩) hS.2.2 dX13_program_79
set_option maxHeartbeats 4000000 in
set_option maxRecDepth 100000 in
/-- token: the end -/
theorem mm_token (l : Launch) (dC : Nat → ClassId) (dI : Nat → Nat → Nat) (sz : Nat) (h0 : Nat) (fs : List Value) (qk qf qw qv : Nat) (ck cf9 cw9 cv9 : ClassId) (fk ff fw fv : Nat → Int32) (hlen : fs.length = 155) (hf4 : fs[4]? = some (.ref qk)) (hf5 : fs[5]? = some (.ref qf)) (hf6 : fs[6]? = some (.ref qw)) (hf7 : fs[7]? = some (.ref qv)) (hf8 : fs[8]? = some (.int 0))  : Met l yX13_token (.code yX13_token cX13_token 5 none :: VS_c3) ({ frames := 0, cells := 0, slots := 0, locals := 0 }) (va_Pc [.ref h0, .int 5, .int 0, .int 0, .int 0] (fun U => U.heap.size = sz ∧ va_P (dC, dI) vwCl [(h0, .inr (13, fs)), (qk, .inl (ck, 3008, .inl fk)), (qf, .inl (cf9, 3002, .inl ff)), (qw, .inl (cw9, 3002, .inl fw)), (qv, .inl (cv9, 3002, .inl fv))] U.heap ∧ va_K (dC, dI) vwCl [(ck, .int), (cf9, .int), (cw9, .int), (cv9, .int)] U ∧ va_D (fun _ => True) [(h0, .inr (13, fs)), (qk, .inl (ck, 3008, .inl fk)), (qf, .inl (cf9, 3002, .inl ff)), (qw, .inl (cw9, 3002, .inl fw)), (qv, .inl (cv9, 3002, .inl fv))])) (va_Qv (fun (u : (List Value) × (Nat → Int32) × (Nat → Int32)) => match u with | (zo1, fo1, fo2) => zo1 = (fs.set 8 (.int 1)) ∧ fo1 0 = 5 ∧ fo2 0 = 0) (fun (u : (List Value) × (Nat → Int32) × (Nat → Int32)) (t : State) => match u with | (zo1, fo1, fo2) => va_P (dC, dI) vwCl [(h0, .inr (13, zo1)), (qk, .inl (ck, 3008, .inl fo1)), (qf, .inl (cf9, 3002, .inl fo2))] t.heap ∧ va_K (dC, dI) vwCl [(ck, .int), (cf9, .int)] t ∧ va_D (va_A [(h0, .inr (13, fs)), (qk, .inl (ck, 3008, .inl fk)), (qf, .inl (cf9, 3002, .inl ff)), (qw, .inl (cw9, 3002, .inl fw)), (qv, .inl (cv9, 3002, .inl fv))] sz) [(h0, .inr (13, zo1)), (qk, .inl (ck, 3008, .inl fo1)), (qf, .inl (cf9, 3002, .inl fo2))]) (va_A [(h0, .inr (13, fs)), (qk, .inl (ck, 3008, .inl fk)), (qf, .inl (cf9, 3002, .inl ff)), (qw, .inl (cw9, 3002, .inl fw)), (qv, .inl (cv9, 3002, .inl fv))] sz)) 0 0 (va_A [(h0, .inr (13, fs)), (qk, .inl (ck, 3008, .inl fk)), (qf, .inl (cf9, 3002, .inl ff)), (qw, .inl (cw9, 3002, .inl fw)), (qv, .inl (cv9, 3002, .inl fv))] sz) := by
  refine Met.ofW (cc := cX13_token) (maxL := 5) (ret := none) (by decide) rfl ?_
  intro p e s m args below meth c s₁ B hml hv
  obtain ⟨rfl, hsz, hP, hK, hD0⟩ := hv
  have hx := B.exec
  have hb := B.bytes
  have hr := B.returns
  have hts := atoms_spec (ws := (.code yX13_token cX13_token 5 none :: VS_c3)) B.pre
  replace hts := fun w (h : w ∈ VS_c3) => hts w (List.mem_cons_of_mem _ h)
  have hown : s.vm.findClass RX13 = some m.cls := findClass_of_methodNamed B.named
  have hlocks := B.notSynchronized
  subst hsz
  have hD := hD0.self (sz := s.heap.size)
  generalize hAe : va_A [(h0, .inr (13, fs)), (qk, .inl (ck, 3008, .inl fk)), (qf, .inl (cf9, 3002, .inl ff)), (qw, .inl (cw9, 3002, .inl fw)), (qv, .inl (cv9, 3002, .inl fv))] s.heap.size = A at hD  ⊢
  have hA : ∀ q : Nat, s.heap.size ≤ q → A q := fun q h => by rw [← hAe]; exact Or.inr h
  have hP : va_P (dC, dI) vwCl [(h0, .inr (13, fs)), (qk, .inl (ck, 3008, .inl fk)), (qf, .inl (cf9, 3002, .inl ff)), (qw, .inl (cw9, 3002, .inl fw)), (qv, .inl (cv9, 3002, .inl fv))] s.heap := hP
  have hl := lv_entry ([.ref h0, .int 5, .int 0, .int 0, .int 0]) (n := 5) (Nat.le_of_ble_eq_true rfl)
  rw [lg_entry_eq]
  generalize (lg_sl ([.ref h0, .int 5, .int 0, .int 0, .int 0]) ++ List.replicate (5 - (lg_sl ([.ref h0, .int 5, .int 0, .int 0, .int 0])).length) Slot.unset).toArray = ls at hl ⊢
  have hl : lv_has ls 5 [(0, .ref h0), (1, .int 5), (2, .int 0), (3, .int 0), (4, .int 0)] := hl
  obtain ⟨H, hH⟩ : ∃ H : Heap, s.heap = H := ⟨_, rfl⟩
  rw [hH] at hP ⊢
  have hS : va_S A s.heap H [] := by rw [← hH]; exact va_S.rf
  obtain ⟨locs, hlo⟩ : ∃ locs : List Loc, locs = [] := ⟨_, rfl⟩
  rw [← hlo] at hS ⊢
  refine lv_aload_n hx hb dX13_token_0 rfl (lv_at hl 0 rfl) ?_
  refine va_get (D := (dC, dI)) (ci := 13) (v := .ref qk) (C := RX13) (T := TX13) (N := 155) hx hb hts uV_c3_X13 hown hK hP 0 rfl rfl 4 (by decide) (hts (.fieldLink RX13 16 "ClassMillModel" "kind" "[I") mw_c3_20) (fun _ h9 => h9) hf4 dX13_token_1 ?_
  refine lv_aload_n hx hb dX13_token_4 rfl (lv_at hl 0 rfl) ?_
  refine va_get (D := (dC, dI)) (ci := 13) (v := .int 0) (C := RX13) (T := TX13) (N := 155) hx hb hts uV_c3_X13 hown hK hP 0 rfl rfl 8 (by decide) (hts (.fieldLink RX13 338 "ClassMillModel" "tokens" "I") mw_c3_42) (fun _ h9 => h9) hf8 dX13_token_5 ?_
  refine lv_iload_n hx hb dX13_token_8 rfl (lv_at hl 1 rfl) ?_
  refine va_iast hx hb hK hP hD hS 1 0 rfl rfl (i := 0) (x := 5) (by unfold vp_in; decide) dX13_token_9 ?_
  clear hP hD hS
  intro H locs hP hD hS
  obtain ⟨f_1, ef_1⟩ : ∃ zf : Nat → Int32, zf = upd fk (0 : Int32).toNatClampNeg 5 := ⟨_, rfl⟩
  rw [← ef_1] at hP hD
  replace hP : va_P (dC, dI) vwCl [(h0, .inr (13, fs)), (qk, .inl (ck, 3008, .inl f_1)), (qf, .inl (cf9, 3002, .inl ff)), (qw, .inl (cw9, 3002, .inl fw)), (qv, .inl (cv9, 3002, .inl fv))] H := hP
  replace hD : va_D A [(h0, .inr (13, fs)), (qk, .inl (ck, 3008, .inl f_1)), (qf, .inl (cf9, 3002, .inl ff)), (qw, .inl (cw9, 3002, .inl fw)), (qv, .inl (cv9, 3002, .inl fv))] := hD
  refine lv_aload_n hx hb dX13_token_10 rfl (lv_at hl 0 rfl) ?_
  refine va_get (D := (dC, dI)) (ci := 13) (v := .ref qf) (C := RX13) (T := TX13) (N := 155) hx hb hts uV_c3_X13 hown hK hP 0 rfl rfl 5 (by decide) (hts (.fieldLink RX13 19 "ClassMillModel" "from" "[I") mw_c3_14) (fun _ h9 => h9) hf5 dX13_token_11 ?_
  refine lv_aload_n hx hb dX13_token_14 rfl (lv_at hl 0 rfl) ?_
  refine va_get (D := (dC, dI)) (ci := 13) (v := .int 0) (C := RX13) (T := TX13) (N := 155) hx hb hts uV_c3_X13 hown hK hP 0 rfl rfl 8 (by decide) (hts (.fieldLink RX13 338 "ClassMillModel" "tokens" "I") mw_c3_42) (fun _ h9 => h9) hf8 dX13_token_15 ?_
  refine lv_iload_n hx hb dX13_token_18 rfl (lv_at hl 2 rfl) ?_
  refine va_iast hx hb hK hP hD hS 2 1 rfl rfl (i := 0) (x := 0) (by unfold vp_in; decide) dX13_token_19 ?_
  clear hP hD hS
  intro H locs hP hD hS
  obtain ⟨f_2, ef_2⟩ : ∃ zf : Nat → Int32, zf = upd ff (0 : Int32).toNatClampNeg 0 := ⟨_, rfl⟩
  rw [← ef_2] at hP hD
  replace hP : va_P (dC, dI) vwCl [(h0, .inr (13, fs)), (qk, .inl (ck, 3008, .inl f_1)), (qf, .inl (cf9, 3002, .inl f_2)), (qw, .inl (cw9, 3002, .inl fw)), (qv, .inl (cv9, 3002, .inl fv))] H := hP
  replace hD : va_D A [(h0, .inr (13, fs)), (qk, .inl (ck, 3008, .inl f_1)), (qf, .inl (cf9, 3002, .inl f_2)), (qw, .inl (cw9, 3002, .inl fw)), (qv, .inl (cv9, 3002, .inl fv))] := hD
  refine lv_aload_n hx hb dX13_token_20 rfl (lv_at hl 0 rfl) ?_
  refine va_get (D := (dC, dI)) (ci := 13) (v := .ref qw) (C := RX13) (T := TX13) (N := 155) hx hb hts uV_c3_X13 hown hK hP 0 rfl rfl 6 (by decide) (hts (.fieldLink RX13 22 "ClassMillModel" "wide" "[I") mw_c3_43) (fun _ h9 => h9) hf6 dX13_token_21 ?_
  refine lv_aload_n hx hb dX13_token_24 rfl (lv_at hl 0 rfl) ?_
  refine va_get (D := (dC, dI)) (ci := 13) (v := .int 0) (C := RX13) (T := TX13) (N := 155) hx hb hts uV_c3_X13 hown hK hP 0 rfl rfl 8 (by decide) (hts (.fieldLink RX13 338 "ClassMillModel" "tokens" "I") mw_c3_42) (fun _ h9 => h9) hf8 dX13_token_25 ?_
  refine lv_iload_n hx hb dX13_token_28 rfl (lv_at hl 3 rfl) ?_
  refine va_iast hx hb hK hP hD hS 3 2 rfl rfl (i := 0) (x := 0) (by unfold vp_in; decide) dX13_token_29 ?_
  clear hP hD hS
  intro H locs hP hD hS
  obtain ⟨f_3, ef_3⟩ : ∃ zf : Nat → Int32, zf = upd fw (0 : Int32).toNatClampNeg 0 := ⟨_, rfl⟩
  rw [← ef_3] at hP hD
  replace hP : va_P (dC, dI) vwCl [(h0, .inr (13, fs)), (qk, .inl (ck, 3008, .inl f_1)), (qf, .inl (cf9, 3002, .inl f_2)), (qw, .inl (cw9, 3002, .inl f_3)), (qv, .inl (cv9, 3002, .inl fv))] H := hP
  replace hD : va_D A [(h0, .inr (13, fs)), (qk, .inl (ck, 3008, .inl f_1)), (qf, .inl (cf9, 3002, .inl f_2)), (qw, .inl (cw9, 3002, .inl f_3)), (qv, .inl (cv9, 3002, .inl fv))] := hD
  refine lv_aload_n hx hb dX13_token_30 rfl (lv_at hl 0 rfl) ?_
  refine va_get (D := (dC, dI)) (ci := 13) (v := .ref qv) (C := RX13) (T := TX13) (N := 155) hx hb hts uV_c3_X13 hown hK hP 0 rfl rfl 7 (by decide) (hts (.fieldLink RX13 25 "ClassMillModel" "value" "[I") mw_c3_44) (fun _ h9 => h9) hf7 dX13_token_31 ?_
  refine lv_aload_n hx hb dX13_token_34 rfl (lv_at hl 0 rfl) ?_
  refine va_get (D := (dC, dI)) (ci := 13) (v := .int 0) (C := RX13) (T := TX13) (N := 155) hx hb hts uV_c3_X13 hown hK hP 0 rfl rfl 8 (by decide) (hts (.fieldLink RX13 338 "ClassMillModel" "tokens" "I") mw_c3_42) (fun _ h9 => h9) hf8 dX13_token_35 ?_
  refine lv_iload hx hb dX13_token_38 (lv_at hl 4 rfl) ?_
  refine va_iast hx hb hK hP hD hS 4 3 rfl rfl (i := 0) (x := 0) (by unfold vp_in; decide) dX13_token_40 ?_
  clear hP hD hS
  intro H locs hP hD hS
  obtain ⟨f_4, ef_4⟩ : ∃ zf : Nat → Int32, zf = upd fv (0 : Int32).toNatClampNeg 0 := ⟨_, rfl⟩
  rw [← ef_4] at hP hD
  replace hP : va_P (dC, dI) vwCl [(h0, .inr (13, fs)), (qk, .inl (ck, 3008, .inl f_1)), (qf, .inl (cf9, 3002, .inl f_2)), (qw, .inl (cw9, 3002, .inl f_3)), (qv, .inl (cv9, 3002, .inl f_4))] H := hP
  replace hD : va_D A [(h0, .inr (13, fs)), (qk, .inl (ck, 3008, .inl f_1)), (qf, .inl (cf9, 3002, .inl f_2)), (qw, .inl (cw9, 3002, .inl f_3)), (qv, .inl (cv9, 3002, .inl f_4))] := hD
  refine lv_aload_n hx hb dX13_token_41 rfl (lv_at hl 0 rfl) ?_
  refine lv_dup hx hb dX13_token_42 rfl ?_
  refine va_get (D := (dC, dI)) (ci := 13) (v := .int 0) (C := RX13) (T := TX13) (N := 155) hx hb hts uV_c3_X13 hown hK hP 0 rfl rfl 8 (by decide) (hts (.fieldLink RX13 338 "ClassMillModel" "tokens" "I") mw_c3_42) (fun _ h9 => h9) hf8 dX13_token_43 ?_
  refine lv_iconst (v := 1) hx hb dX13_token_46 (by decide) ?_
  refine lv_iadd hx hb dX13_token_47 ?_
  refine lv_topi (fun y_5 ey_5 => ?_)
  obtain rfl : y_5 = 1 := ey_5.trans (by decide)
  refine va_put (D := (dC, dI)) (ci := 13) (v := .int 1) (ty := .int) (C := RX13) (T := TX13) (N := 155) hx hb hts uV_c3_X13 tyX13 tyX13_ok nmX13 hown hK hP hD hS 0 rfl rfl 8 (by decide) (hts (.fieldLink RX13 338 "ClassMillModel" "tokens" "I") mw_c3_42) (fun _ h9 => h9) rfl (by decide +kernel) rfl rfl (by rw [hlen]; decide) dX13_token_48 ?_
  clear hP hD hS
  intro H locs hP hD hS
  obtain ⟨fs_6, efs_6⟩ : ∃ zf : List Value, zf = fs.set 8 (.int 1) := ⟨_, rfl⟩
  rw [← efs_6] at hP hD
  have hlfs_6 : fs_6.length = 155 := by rw [efs_6, List.length_set]; exact hlen
  have hfs_6_4 : fs_6[4]? = some (.ref qk) := by rw [efs_6, List.getElem?_set_ne (by decide)]; exact hf4
  have hfs_6_5 : fs_6[5]? = some (.ref qf) := by rw [efs_6, List.getElem?_set_ne (by decide)]; exact hf5
  have hfs_6_6 : fs_6[6]? = some (.ref qw) := by rw [efs_6, List.getElem?_set_ne (by decide)]; exact hf6
  have hfs_6_7 : fs_6[7]? = some (.ref qv) := by rw [efs_6, List.getElem?_set_ne (by decide)]; exact hf7
  have hfs_6_8 : fs_6[8]? = some (.int 1) := by rw [efs_6, List.getElem?_set_self (by rw [hlen]; decide)]
  replace hP : va_P (dC, dI) vwCl [(h0, .inr (13, fs_6)), (qk, .inl (ck, 3008, .inl f_1)), (qf, .inl (cf9, 3002, .inl f_2)), (qw, .inl (cw9, 3002, .inl f_3)), (qv, .inl (cv9, 3002, .inl f_4))] H := hP
  replace hD : va_D A [(h0, .inr (13, fs_6)), (qk, .inl (ck, 3008, .inl f_1)), (qf, .inl (cf9, 3002, .inl f_2)), (qw, .inl (cw9, 3002, .inl f_3)), (qv, .inl (cv9, 3002, .inl f_4))] := hD
  obtain ⟨z_7, ez_7⟩ : ∃ z : List Value, z = fs_6 := ⟨_, rfl⟩
  rw [← ez_7] at hP hD
  replace hP : va_P (dC, dI) vwCl [(h0, .inr (13, z_7)), (qk, .inl (ck, 3008, .inl f_1)), (qf, .inl (cf9, 3002, .inl f_2)), (qw, .inl (cw9, 3002, .inl f_3)), (qv, .inl (cv9, 3002, .inl f_4))] H := hP
  replace hD : va_D A [(h0, .inr (13, z_7)), (qk, .inl (ck, 3008, .inl f_1)), (qf, .inl (cf9, 3002, .inl f_2)), (qw, .inl (cw9, 3002, .inl f_3)), (qv, .inl (cv9, 3002, .inl f_4))] := hD
  have hP9 := hP.sub (ws' := [(h0, .inr (13, z_7)), (qk, .inl (ck, 3008, .inl f_1)), (qf, .inl (cf9, 3002, .inl f_2))]) [0, 1, 2] rfl
  have hD9 := hD.sub (ws' := [(h0, .inr (13, z_7)), (qk, .inl (ck, 3008, .inl f_1)), (qf, .inl (cf9, 3002, .inl f_2))]) [0, 1, 2] (by decide) rfl
  have hK9 := hK.sub (tys' := [(ck, .int), (cf9, .int)]) [0, 1] rfl
  exact W.vret hx hb hr (fun t ht hW => ⟨⟨(z_7, f_1, f_2), rfl, ⟨by rw [ez_7, efs_6], by rw [ef_1]; rfl, by rw [ef_2]; rfl⟩, by rw [ht]; exact hP9, va_K.moved hW.alike hK9, hD9⟩, hS.F ht⟩) hS.2.2 dX13_token_51
set_option maxHeartbeats 4000000 in
set_option maxRecDepth 100000 in
/-- tokenize of nothing -/
theorem mm_tokenize (l : Launch) (dC : Nat → ClassId) (dI : Nat → Nat → Nat) (sz : Nat) (h0 : Nat) (fs : List Value) (qk qf qw qv : Nat) (ck cf9 cw9 cv9 : ClassId) (fk ff fw fv : Nat → Int32) (hlen : fs.length = 155) (hf4 : fs[4]? = some (.ref qk)) (hf5 : fs[5]? = some (.ref qf)) (hf6 : fs[6]? = some (.ref qw)) (hf7 : fs[7]? = some (.ref qv)) (hf8 : fs[8]? = some (.int 0)) (hf3 : fs[3]? = some (.int 0)) (hf9 : fs[9]? = some (.int 0))  : Met l yX13_tokenize (.code yX13_tokenize cX13_tokenize 7 none :: VS_c3) ({ frames := 1, cells := 0, slots := 0, locals := 24 }) (va_Pc [.ref h0] (fun U => U.heap.size = sz ∧ va_P (dC, dI) vwCl [(h0, .inr (13, fs)), (qk, .inl (ck, 3008, .inl fk)), (qf, .inl (cf9, 3002, .inl ff)), (qw, .inl (cw9, 3002, .inl fw)), (qv, .inl (cv9, 3002, .inl fv))] U.heap ∧ va_K (dC, dI) vwCl [(ck, .int), (cf9, .int), (cw9, .int), (cv9, .int)] U ∧ va_D (fun _ => True) [(h0, .inr (13, fs)), (qk, .inl (ck, 3008, .inl fk)), (qf, .inl (cf9, 3002, .inl ff)), (qw, .inl (cw9, 3002, .inl fw)), (qv, .inl (cv9, 3002, .inl fv))])) (va_Qv (fun (u : (List Value) × (Nat → Int32) × (Nat → Int32)) => match u with | (zo1, fo1, fo2) => zo1.length = 155 ∧ zo1[4]? = some (.ref qk) ∧ zo1[5]? = some (.ref qf) ∧ zo1[9]? = some (.int 0) ∧ fo1 0 = 5 ∧ fo2 0 = 0) (fun (u : (List Value) × (Nat → Int32) × (Nat → Int32)) (t : State) => match u with | (zo1, fo1, fo2) => va_P (dC, dI) vwCl [(h0, .inr (13, zo1)), (qk, .inl (ck, 3008, .inl fo1)), (qf, .inl (cf9, 3002, .inl fo2))] t.heap ∧ va_K (dC, dI) vwCl [(ck, .int), (cf9, .int)] t ∧ va_D (va_A [(h0, .inr (13, fs)), (qk, .inl (ck, 3008, .inl fk)), (qf, .inl (cf9, 3002, .inl ff)), (qw, .inl (cw9, 3002, .inl fw)), (qv, .inl (cv9, 3002, .inl fv))] sz) [(h0, .inr (13, zo1)), (qk, .inl (ck, 3008, .inl fo1)), (qf, .inl (cf9, 3002, .inl fo2))]) (va_A [(h0, .inr (13, fs)), (qk, .inl (ck, 3008, .inl fk)), (qf, .inl (cf9, 3002, .inl ff)), (qw, .inl (cw9, 3002, .inl fw)), (qv, .inl (cv9, 3002, .inl fv))] sz)) 0 0 (va_A [(h0, .inr (13, fs)), (qk, .inl (ck, 3008, .inl fk)), (qf, .inl (cf9, 3002, .inl ff)), (qw, .inl (cw9, 3002, .inl fw)), (qv, .inl (cv9, 3002, .inl fv))] sz) := by
  refine Met.ofW (cc := cX13_tokenize) (maxL := 7) (ret := none) (by decide) rfl ?_
  intro p e s m args below meth c s₁ B hml hv
  obtain ⟨rfl, hsz, hP, hK, hD0⟩ := hv
  have hx := B.exec
  have hb := B.bytes
  have hr := B.returns
  have hts := atoms_spec (ws := (.code yX13_tokenize cX13_tokenize 7 none :: VS_c3)) B.pre
  replace hts := fun w (h : w ∈ VS_c3) => hts w (List.mem_cons_of_mem _ h)
  have hown : s.vm.findClass RX13 = some m.cls := findClass_of_methodNamed B.named
  have hlocks := B.notSynchronized
  subst hsz
  have hD := hD0.self (sz := s.heap.size)
  generalize hAe : va_A [(h0, .inr (13, fs)), (qk, .inl (ck, 3008, .inl fk)), (qf, .inl (cf9, 3002, .inl ff)), (qw, .inl (cw9, 3002, .inl fw)), (qv, .inl (cv9, 3002, .inl fv))] s.heap.size = A at hD  ⊢
  have hA : ∀ q : Nat, s.heap.size ≤ q → A q := fun q h => by rw [← hAe]; exact Or.inr h
  have hP : va_P (dC, dI) vwCl [(h0, .inr (13, fs)), (qk, .inl (ck, 3008, .inl fk)), (qf, .inl (cf9, 3002, .inl ff)), (qw, .inl (cw9, 3002, .inl fw)), (qv, .inl (cv9, 3002, .inl fv))] s.heap := hP
  have hl := lv_entry ([.ref h0]) (n := 7) (Nat.le_of_ble_eq_true rfl)
  rw [lg_entry_eq]
  generalize (lg_sl ([.ref h0]) ++ List.replicate (7 - (lg_sl ([.ref h0])).length) Slot.unset).toArray = ls at hl ⊢
  have hl : lv_has ls 7 [(0, .ref h0)] := hl
  obtain ⟨H, hH⟩ : ∃ H : Heap, s.heap = H := ⟨_, rfl⟩
  rw [hH] at hP ⊢
  have hS : va_S A s.heap H [] := by rw [← hH]; exact va_S.rf
  obtain ⟨locs, hlo⟩ : ∃ locs : List Loc, locs = [] := ⟨_, rfl⟩
  rw [← hlo] at hS ⊢
  refine lv_aload_n hx hb dX13_tokenize_0 rfl (lv_at hl 0 rfl) ?_
  refine lv_iconst (v := 0) hx hb dX13_tokenize_1 (by decide) ?_
  refine va_put (D := (dC, dI)) (ci := 13) (v := .int 0) (ty := .int) (C := RX13) (T := TX13) (N := 155) hx hb hts uV_c3_X13 tyX13 tyX13_ok nmX13 hown hK hP hD hS 0 rfl rfl 8 (by decide) (hts (.fieldLink RX13 338 "ClassMillModel" "tokens" "I") mw_c3_42) (fun _ h9 => h9) rfl (by decide +kernel) rfl rfl (by rw [hlen]; decide) dX13_tokenize_2 ?_
  clear hP hD hS
  intro H locs hP hD hS
  obtain ⟨fs_1, efs_1⟩ : ∃ zf : List Value, zf = fs.set 8 (.int 0) := ⟨_, rfl⟩
  rw [← efs_1] at hP hD
  have hlfs_1 : fs_1.length = 155 := by rw [efs_1, List.length_set]; exact hlen
  have hfs_1_4 : fs_1[4]? = some (.ref qk) := by rw [efs_1, List.getElem?_set_ne (by decide)]; exact hf4
  have hfs_1_5 : fs_1[5]? = some (.ref qf) := by rw [efs_1, List.getElem?_set_ne (by decide)]; exact hf5
  have hfs_1_6 : fs_1[6]? = some (.ref qw) := by rw [efs_1, List.getElem?_set_ne (by decide)]; exact hf6
  have hfs_1_7 : fs_1[7]? = some (.ref qv) := by rw [efs_1, List.getElem?_set_ne (by decide)]; exact hf7
  have hfs_1_3 : fs_1[3]? = some (.int 0) := by rw [efs_1, List.getElem?_set_ne (by decide)]; exact hf3
  have hfs_1_9 : fs_1[9]? = some (.int 0) := by rw [efs_1, List.getElem?_set_ne (by decide)]; exact hf9
  have hfs_1_8 : fs_1[8]? = some (.int 0) := by rw [efs_1, List.getElem?_set_self (by rw [hlen]; decide)]
  replace hP : va_P (dC, dI) vwCl [(h0, .inr (13, fs_1)), (qk, .inl (ck, 3008, .inl fk)), (qf, .inl (cf9, 3002, .inl ff)), (qw, .inl (cw9, 3002, .inl fw)), (qv, .inl (cv9, 3002, .inl fv))] H := hP
  replace hD : va_D A [(h0, .inr (13, fs_1)), (qk, .inl (ck, 3008, .inl fk)), (qf, .inl (cf9, 3002, .inl ff)), (qw, .inl (cw9, 3002, .inl fw)), (qv, .inl (cv9, 3002, .inl fv))] := hD
  refine lv_iconst (v := 0) hx hb dX13_tokenize_5 (by decide) ?_
  refine lv_istore_n (lv' := [(1, .int 0), (0, .ref h0)]) hx hb dX13_tokenize_6 rfl hl (by decide) rfl (fun ls hl => ?_)
  refine lv_iload_n hx hb dX13_tokenize_7 rfl (lv_at hl 0 rfl) ?_
  refine lv_aload_n hx hb dX13_tokenize_8 rfl (lv_at hl 1 rfl) ?_
  refine va_get (D := (dC, dI)) (ci := 13) (v := .int 0) (C := RX13) (T := TX13) (N := 155) hx hb hts uV_c3_X13 hown hK hP 0 rfl rfl 3 (by decide) (hts (.fieldLink RX13 325 "ClassMillModel" "size" "I") mw_c3_49) (fun _ h9 => h9) hfs_1_3 dX13_tokenize_9 ?_
  refine lv_icmp_ge (tgt := 433) hx hb dX13_tokenize_12 (by decide) (fun c_2 => ?_) (fun c_2 => (show False by revert c_2; decide).elim)
  refine lv_aload_n hx hb dX13_tokenize_433 rfl (lv_at hl 1 rfl) ?_
  refine lv_iconst (v := 5) hx hb dX13_tokenize_434 (by decide) ?_
  refine lv_aload_n hx hb dX13_tokenize_435 rfl (lv_at hl 1 rfl) ?_
  refine va_get (D := (dC, dI)) (ci := 13) (v := .int 0) (C := RX13) (T := TX13) (N := 155) hx hb hts uV_c3_X13 hown hK hP 0 rfl rfl 3 (by decide) (hts (.fieldLink RX13 325 "ClassMillModel" "size" "I") mw_c3_49) (fun _ h9 => h9) hfs_1_3 dX13_tokenize_436 ?_
  refine lv_iconst (v := 0) hx hb dX13_tokenize_439 (by decide) ?_
  refine lv_iconst (v := 0) hx hb dX13_tokenize_440 (by decide) ?_
  have hPc := hP.sub (ws' := [(h0, .inr (13, fs_1)), (qk, .inl (ck, 3008, .inl fk)), (qf, .inl (cf9, 3002, .inl ff)), (qw, .inl (cw9, 3002, .inl fw)), (qv, .inl (cv9, 3002, .inl fv))]) [0, 1, 2, 3, 4] rfl
  have hDc := hD.sub (ws' := [(h0, .inr (13, fs_1)), (qk, .inl (ck, 3008, .inl fk)), (qf, .inl (cf9, 3002, .inl ff)), (qw, .inl (cw9, 3002, .inl fw)), (qv, .inl (cv9, 3002, .inl fv))]) [0, 1, 2, 3, 4] (by decide) rfl
  have hKc := hK.sub (tys' := [(ck, .int), (cf9, .int), (cw9, .int), (cv9, .int)]) [0, 1, 2, 3] rfl
  have hFc := va_free (wc := [(h0, .inr (13, fs_1)), (qk, .inl (ck, 3008, .inl fk)), (qf, .inl (cf9, 3002, .inl ff)), (qw, .inl (cw9, 3002, .inl fw)), (qv, .inl (cv9, 3002, .inl fv))]) hD hS hA [0, 1, 2, 3, 4] rfl
  refine va_callv (va_runV (As := [.int 5, .int 0, .int 0, .int 0]) (rest := []) ⟨hx, hb, hml, hown, hts⟩ (mm_token l dC dI H.size h0 fs_1 qk qf qw qv ck cf9 cw9 cv9 fk ff fw fv hlfs_1 hfs_1_4 hfs_1_5 hfs_1_6 hfs_1_7 hfs_1_8) (cwV 4 hts gv_c3_7 rfl rfl rfl (by decide +kernel) ⟨Nat.le_of_ble_eq_true rfl, Nat.le_of_ble_eq_true rfl⟩) ⟨fun a U g mk q => by obtain ⟨q0, q1, qP, qK, qD⟩ := q; exact ⟨q0, q1, qP, va_K.moved (u := U) (U := U.calling g mk a) (Vm.Alike.refl U.vm) qK, qD⟩, va_recv hKc hPc (ci := 13) (q0 := 0) rfl rfl, fun U hU hW => ⟨rfl, by rw [hU], by rw [hU]; exact hPc, va_K.moved hW.alike hKc, hDc.weaken (fun _ _ _ _ => trivial)⟩⟩ rfl rfl hl.1 rfl (lv_room (Nat.le_of_ble_eq_true rfl)) dX13_tokenize_441 ⟨Nat.le_of_ble_eq_true rfl, Nat.le_of_ble_eq_true rfl⟩) hS (fun q _ h => hFc q h) hFc ?_
  clear hS
  intro u t H1 locs ht hvm hw hB hz1 hk1 hS
  obtain ⟨z_3, f_4, f_5⟩ := u
  obtain ⟨hP1, hK1, hD1⟩ := hB
  rw [ht] at hP1
  have hK1 := va_K.moved hvm.symm hK1
  try dsimp only at hw
  have hPD := va_join (wr := []) (w1 := [(h0, .inr (13, z_3)), (qk, .inl (ck, 3008, .inl f_4)), (qf, .inl (cf9, 3002, .inl f_5))]) hP hD [0, 1, 2, 3, 4] [] rfl rfl (by decide) (by decide) hk1 hFc hP1 hD1
  clear hP hD
  obtain ⟨hP, hD⟩ := hPD
  replace hK := (hK.sub (tys' := []) [] rfl).app hK1
  clear hPc hDc hKc hFc hP1 hK1 hD1 hz1 hk1 ht hvm
  generalize H1 = H at hP hS ⊢
  replace hP : va_P (dC, dI) vwCl [(h0, .inr (13, z_3)), (qk, .inl (ck, 3008, .inl f_4)), (qf, .inl (cf9, 3002, .inl f_5))] H := hP
  replace hD : va_D A [(h0, .inr (13, z_3)), (qk, .inl (ck, 3008, .inl f_4)), (qf, .inl (cf9, 3002, .inl f_5))] := hD
  replace hK : va_K (dC, dI) vwCl [(ck, .int), (cf9, .int)] s := hK
  obtain ⟨hz0, hk0, hf0⟩ := hw
  have hLz_3 : z_3.length = 155 := by rw [hz0, List.length_set]; exact hlfs_1
  have hFz_3_4 : z_3[4]? = some (.ref qk) := by rw [hz0, List.getElem?_set_ne (by decide)]; exact hfs_1_4
  have hFz_3_5 : z_3[5]? = some (.ref qf) := by rw [hz0, List.getElem?_set_ne (by decide)]; exact hfs_1_5
  have hFz_3_8 : z_3[8]? = some (.int 1) := by rw [hz0, List.getElem?_set_self (by (try simp only [List.length_set]); rw [hlfs_1]; decide)]
  have hFz_3_9 : z_3[9]? = some (.int 0) := by rw [hz0, List.getElem?_set_ne (by decide)]; exact hfs_1_9
  have hFz_3_3 : z_3[3]? = some (.int 0) := by rw [hz0, List.getElem?_set_ne (by decide)]; exact hfs_1_3
  refine lv_aload_n hx hb dX13_tokenize_444 rfl (lv_at hl 1 rfl) ?_
  refine va_get (D := (dC, dI)) (ci := 13) (v := .int 1) (C := RX13) (T := TX13) (N := 155) hx hb hts uV_c3_X13 hown hK hP 0 rfl rfl 8 (by decide) (hts (.fieldLink RX13 338 "ClassMillModel" "tokens" "I") mw_c3_42) (fun _ h9 => h9) hFz_3_8 dX13_tokenize_445 ?_
  refine lv_istore_n (lv' := [(2, .int 1), (1, .int 0), (0, .ref h0)]) hx hb dX13_tokenize_448 rfl hl (by decide) rfl (fun ls hl => ?_)
  refine lv_iload_n hx hb dX13_tokenize_449 rfl (lv_at hl 0 rfl) ?_
  refine lv_aload_n hx hb dX13_tokenize_450 rfl (lv_at hl 2 rfl) ?_
  refine va_get (D := (dC, dI)) (ci := 13) (v := .int 1) (C := RX13) (T := TX13) (N := 155) hx hb hts uV_c3_X13 hown hK hP 0 rfl rfl 8 (by decide) (hts (.fieldLink RX13 338 "ClassMillModel" "tokens" "I") mw_c3_42) (fun _ h9 => h9) hFz_3_8 dX13_tokenize_451 ?_
  refine lv_iconst (v := 4) hx hb dX13_tokenize_454 (by decide) ?_
  refine lv_iadd hx hb dX13_tokenize_455 ?_
  refine lv_topi (fun y_6 ey_6 => ?_)
  obtain rfl : y_6 = 5 := ey_6.trans (by decide)
  refine lv_icmp_ge (tgt := 472) hx hb dX13_tokenize_456 (by decide) (fun c_7 => (show False by revert c_7; decide).elim) (fun c_7 => ?_)
  refine lv_aload_n hx hb dX13_tokenize_459 rfl (lv_at hl 2 rfl) ?_
  refine va_get (D := (dC, dI)) (ci := 13) (v := .ref qk) (C := RX13) (T := TX13) (N := 155) hx hb hts uV_c3_X13 hown hK hP 0 rfl rfl 4 (by decide) (hts (.fieldLink RX13 16 "ClassMillModel" "kind" "[I") mw_c3_20) (fun _ h9 => h9) hFz_3_4 dX13_tokenize_460 ?_
  refine lv_iload_n hx hb dX13_tokenize_463 rfl (lv_at hl 0 rfl) ?_
  refine lv_iconst (v := 5) hx hb dX13_tokenize_464 (by decide) ?_
  refine va_iast hx hb hK hP hD hS 1 0 rfl rfl (i := 1) (x := 5) (by unfold vp_in; decide) dX13_tokenize_465 ?_
  clear hP hD hS
  intro H locs hP hD hS
  obtain ⟨f_8, ef_8⟩ : ∃ zf : Nat → Int32, zf = upd f_4 (1 : Int32).toNatClampNeg 5 := ⟨_, rfl⟩
  rw [← ef_8] at hP hD
  replace hP : va_P (dC, dI) vwCl [(h0, .inr (13, z_3)), (qk, .inl (ck, 3008, .inl f_8)), (qf, .inl (cf9, 3002, .inl f_5))] H := hP
  replace hD : va_D A [(h0, .inr (13, z_3)), (qk, .inl (ck, 3008, .inl f_8)), (qf, .inl (cf9, 3002, .inl f_5))] := hD
  refine lv_iinc (v := 2) (lv' := [(2, .int 2), (1, .int 0), (0, .ref h0)]) hx hb dX13_tokenize_466 hl (k := 0) rfl (by decide) (by decide) rfl (fun ls hl => ?_)
  refine lv_goto (tgt := 449) hx hb dX13_tokenize_469 (by decide) ?_
  refine lv_iload_n hx hb dX13_tokenize_449 rfl (lv_at hl 0 rfl) ?_
  refine lv_aload_n hx hb dX13_tokenize_450 rfl (lv_at hl 2 rfl) ?_
  refine va_get (D := (dC, dI)) (ci := 13) (v := .int 1) (C := RX13) (T := TX13) (N := 155) hx hb hts uV_c3_X13 hown hK hP 0 rfl rfl 8 (by decide) (hts (.fieldLink RX13 338 "ClassMillModel" "tokens" "I") mw_c3_42) (fun _ h9 => h9) hFz_3_8 dX13_tokenize_451 ?_
  refine lv_iconst (v := 4) hx hb dX13_tokenize_454 (by decide) ?_
  refine lv_iadd hx hb dX13_tokenize_455 ?_
  refine lv_topi (fun y_9 ey_9 => ?_)
  obtain rfl : y_9 = 5 := ey_9.trans (by decide)
  refine lv_icmp_ge (tgt := 472) hx hb dX13_tokenize_456 (by decide) (fun c_10 => (show False by revert c_10; decide).elim) (fun c_10 => ?_)
  refine lv_aload_n hx hb dX13_tokenize_459 rfl (lv_at hl 2 rfl) ?_
  refine va_get (D := (dC, dI)) (ci := 13) (v := .ref qk) (C := RX13) (T := TX13) (N := 155) hx hb hts uV_c3_X13 hown hK hP 0 rfl rfl 4 (by decide) (hts (.fieldLink RX13 16 "ClassMillModel" "kind" "[I") mw_c3_20) (fun _ h9 => h9) hFz_3_4 dX13_tokenize_460 ?_
  refine lv_iload_n hx hb dX13_tokenize_463 rfl (lv_at hl 0 rfl) ?_
  refine lv_iconst (v := 5) hx hb dX13_tokenize_464 (by decide) ?_
  refine va_iast hx hb hK hP hD hS 1 0 rfl rfl (i := 2) (x := 5) (by unfold vp_in; decide) dX13_tokenize_465 ?_
  clear hP hD hS
  intro H locs hP hD hS
  obtain ⟨f_11, ef_11⟩ : ∃ zf : Nat → Int32, zf = upd f_8 (2 : Int32).toNatClampNeg 5 := ⟨_, rfl⟩
  rw [← ef_11] at hP hD
  replace hP : va_P (dC, dI) vwCl [(h0, .inr (13, z_3)), (qk, .inl (ck, 3008, .inl f_11)), (qf, .inl (cf9, 3002, .inl f_5))] H := hP
  replace hD : va_D A [(h0, .inr (13, z_3)), (qk, .inl (ck, 3008, .inl f_11)), (qf, .inl (cf9, 3002, .inl f_5))] := hD
  refine lv_iinc (v := 3) (lv' := [(2, .int 3), (1, .int 0), (0, .ref h0)]) hx hb dX13_tokenize_466 hl (k := 0) rfl (by decide) (by decide) rfl (fun ls hl => ?_)
  refine lv_goto (tgt := 449) hx hb dX13_tokenize_469 (by decide) ?_
  refine lv_iload_n hx hb dX13_tokenize_449 rfl (lv_at hl 0 rfl) ?_
  refine lv_aload_n hx hb dX13_tokenize_450 rfl (lv_at hl 2 rfl) ?_
  refine va_get (D := (dC, dI)) (ci := 13) (v := .int 1) (C := RX13) (T := TX13) (N := 155) hx hb hts uV_c3_X13 hown hK hP 0 rfl rfl 8 (by decide) (hts (.fieldLink RX13 338 "ClassMillModel" "tokens" "I") mw_c3_42) (fun _ h9 => h9) hFz_3_8 dX13_tokenize_451 ?_
  refine lv_iconst (v := 4) hx hb dX13_tokenize_454 (by decide) ?_
  refine lv_iadd hx hb dX13_tokenize_455 ?_
  refine lv_topi (fun y_12 ey_12 => ?_)
  obtain rfl : y_12 = 5 := ey_12.trans (by decide)
  refine lv_icmp_ge (tgt := 472) hx hb dX13_tokenize_456 (by decide) (fun c_13 => (show False by revert c_13; decide).elim) (fun c_13 => ?_)
  refine lv_aload_n hx hb dX13_tokenize_459 rfl (lv_at hl 2 rfl) ?_
  refine va_get (D := (dC, dI)) (ci := 13) (v := .ref qk) (C := RX13) (T := TX13) (N := 155) hx hb hts uV_c3_X13 hown hK hP 0 rfl rfl 4 (by decide) (hts (.fieldLink RX13 16 "ClassMillModel" "kind" "[I") mw_c3_20) (fun _ h9 => h9) hFz_3_4 dX13_tokenize_460 ?_
  refine lv_iload_n hx hb dX13_tokenize_463 rfl (lv_at hl 0 rfl) ?_
  refine lv_iconst (v := 5) hx hb dX13_tokenize_464 (by decide) ?_
  refine va_iast hx hb hK hP hD hS 1 0 rfl rfl (i := 3) (x := 5) (by unfold vp_in; decide) dX13_tokenize_465 ?_
  clear hP hD hS
  intro H locs hP hD hS
  obtain ⟨f_14, ef_14⟩ : ∃ zf : Nat → Int32, zf = upd f_11 (3 : Int32).toNatClampNeg 5 := ⟨_, rfl⟩
  rw [← ef_14] at hP hD
  replace hP : va_P (dC, dI) vwCl [(h0, .inr (13, z_3)), (qk, .inl (ck, 3008, .inl f_14)), (qf, .inl (cf9, 3002, .inl f_5))] H := hP
  replace hD : va_D A [(h0, .inr (13, z_3)), (qk, .inl (ck, 3008, .inl f_14)), (qf, .inl (cf9, 3002, .inl f_5))] := hD
  refine lv_iinc (v := 4) (lv' := [(2, .int 4), (1, .int 0), (0, .ref h0)]) hx hb dX13_tokenize_466 hl (k := 0) rfl (by decide) (by decide) rfl (fun ls hl => ?_)
  refine lv_goto (tgt := 449) hx hb dX13_tokenize_469 (by decide) ?_
  refine lv_iload_n hx hb dX13_tokenize_449 rfl (lv_at hl 0 rfl) ?_
  refine lv_aload_n hx hb dX13_tokenize_450 rfl (lv_at hl 2 rfl) ?_
  refine va_get (D := (dC, dI)) (ci := 13) (v := .int 1) (C := RX13) (T := TX13) (N := 155) hx hb hts uV_c3_X13 hown hK hP 0 rfl rfl 8 (by decide) (hts (.fieldLink RX13 338 "ClassMillModel" "tokens" "I") mw_c3_42) (fun _ h9 => h9) hFz_3_8 dX13_tokenize_451 ?_
  refine lv_iconst (v := 4) hx hb dX13_tokenize_454 (by decide) ?_
  refine lv_iadd hx hb dX13_tokenize_455 ?_
  refine lv_topi (fun y_15 ey_15 => ?_)
  obtain rfl : y_15 = 5 := ey_15.trans (by decide)
  refine lv_icmp_ge (tgt := 472) hx hb dX13_tokenize_456 (by decide) (fun c_16 => (show False by revert c_16; decide).elim) (fun c_16 => ?_)
  refine lv_aload_n hx hb dX13_tokenize_459 rfl (lv_at hl 2 rfl) ?_
  refine va_get (D := (dC, dI)) (ci := 13) (v := .ref qk) (C := RX13) (T := TX13) (N := 155) hx hb hts uV_c3_X13 hown hK hP 0 rfl rfl 4 (by decide) (hts (.fieldLink RX13 16 "ClassMillModel" "kind" "[I") mw_c3_20) (fun _ h9 => h9) hFz_3_4 dX13_tokenize_460 ?_
  refine lv_iload_n hx hb dX13_tokenize_463 rfl (lv_at hl 0 rfl) ?_
  refine lv_iconst (v := 5) hx hb dX13_tokenize_464 (by decide) ?_
  refine va_iast hx hb hK hP hD hS 1 0 rfl rfl (i := 4) (x := 5) (by unfold vp_in; decide) dX13_tokenize_465 ?_
  clear hP hD hS
  intro H locs hP hD hS
  obtain ⟨f_17, ef_17⟩ : ∃ zf : Nat → Int32, zf = upd f_14 (4 : Int32).toNatClampNeg 5 := ⟨_, rfl⟩
  rw [← ef_17] at hP hD
  replace hP : va_P (dC, dI) vwCl [(h0, .inr (13, z_3)), (qk, .inl (ck, 3008, .inl f_17)), (qf, .inl (cf9, 3002, .inl f_5))] H := hP
  replace hD : va_D A [(h0, .inr (13, z_3)), (qk, .inl (ck, 3008, .inl f_17)), (qf, .inl (cf9, 3002, .inl f_5))] := hD
  refine lv_iinc (v := 5) (lv' := [(2, .int 5), (1, .int 0), (0, .ref h0)]) hx hb dX13_tokenize_466 hl (k := 0) rfl (by decide) (by decide) rfl (fun ls hl => ?_)
  refine lv_goto (tgt := 449) hx hb dX13_tokenize_469 (by decide) ?_
  refine lv_iload_n hx hb dX13_tokenize_449 rfl (lv_at hl 0 rfl) ?_
  refine lv_aload_n hx hb dX13_tokenize_450 rfl (lv_at hl 2 rfl) ?_
  refine va_get (D := (dC, dI)) (ci := 13) (v := .int 1) (C := RX13) (T := TX13) (N := 155) hx hb hts uV_c3_X13 hown hK hP 0 rfl rfl 8 (by decide) (hts (.fieldLink RX13 338 "ClassMillModel" "tokens" "I") mw_c3_42) (fun _ h9 => h9) hFz_3_8 dX13_tokenize_451 ?_
  refine lv_iconst (v := 4) hx hb dX13_tokenize_454 (by decide) ?_
  refine lv_iadd hx hb dX13_tokenize_455 ?_
  refine lv_topi (fun y_18 ey_18 => ?_)
  obtain rfl : y_18 = 5 := ey_18.trans (by decide)
  refine lv_icmp_ge (tgt := 472) hx hb dX13_tokenize_456 (by decide) (fun c_19 => ?_) (fun c_19 => (show False by revert c_19; decide).elim)
  have hk9 : f_17 0 = 5 := by rw [ef_17, pk_un (by decide), ef_14, pk_un (by decide), ef_11, pk_un (by decide), ef_8, pk_un (by decide)]; exact hk0
  obtain ⟨z_20, ez_20⟩ : ∃ z : List Value, z = z_3 := ⟨_, rfl⟩
  rw [← ez_20] at hP hD
  replace hP : va_P (dC, dI) vwCl [(h0, .inr (13, z_20)), (qk, .inl (ck, 3008, .inl f_17)), (qf, .inl (cf9, 3002, .inl f_5))] H := hP
  replace hD : va_D A [(h0, .inr (13, z_20)), (qk, .inl (ck, 3008, .inl f_17)), (qf, .inl (cf9, 3002, .inl f_5))] := hD
  have hT4 : z_20[4]? = some (.ref qk) := by rw [ez_20]; exact hFz_3_4
  have hT5 : z_20[5]? = some (.ref qf) := by rw [ez_20]; exact hFz_3_5
  have hT9 : z_20[9]? = some (.int 0) := by rw [ez_20]; exact hFz_3_9
  have hTl : z_20.length = 155 := by rw [ez_20]; exact hLz_3
  have hP9 := hP.sub (ws' := [(h0, .inr (13, z_20)), (qk, .inl (ck, 3008, .inl f_17)), (qf, .inl (cf9, 3002, .inl f_5))]) [0, 1, 2] rfl
  have hD9 := hD.sub (ws' := [(h0, .inr (13, z_20)), (qk, .inl (ck, 3008, .inl f_17)), (qf, .inl (cf9, 3002, .inl f_5))]) [0, 1, 2] (by decide) rfl
  have hK9 := hK.sub (tys' := [(ck, .int), (cf9, .int)]) [0, 1] rfl
  exact W.vret hx hb hr (fun t ht hW => ⟨⟨(z_20, f_17, f_5), rfl, ⟨hTl, hT4, hT5, hT9, hk9, hf0⟩, by rw [ht]; exact hP9, va_K.moved hW.alike hK9, hD9⟩, hS.F ht⟩) hS.2.2 dX13_tokenize_472
set_option maxHeartbeats 4000000 in
set_option maxRecDepth 100000 in
/-- compile of a new object: -1 -/
theorem mm_compile (l : Launch) (dC : Nat → ClassId) (dI : Nat → Nat → Nat) (sz : Nat) (h0 : Nat) (qm0 qm1 qm2 qm3 qm4 qm5 : Nat) (fsM : List Value) (ck cf9 cw9 cv9 : ClassId) (fk ff fw fv : Nat → Int32) (hM : pm_F fsM qm0 qm1 qm2 qm3 qm4 qm5) : Met l yX13_compile (.code yX13_compile cX13_compile 4 (some .int) :: VS_c3) ({ frames := 4, cells := 0, slots := 0, locals := 85 }) (va_Pc [.ref h0] (fun U => U.heap.size = sz ∧ va_P (dC, dI) vwCl [(h0, .inr (13, fsM)), (qm1, .inl (ck, 3008, .inl fk)), (qm2, .inl (cf9, 3002, .inl ff)), (qm3, .inl (cw9, 3002, .inl fw)), (qm4, .inl (cv9, 3002, .inl fv))] U.heap ∧ va_K (dC, dI) vwCl [(ck, .int), (cf9, .int), (cw9, .int), (cv9, .int)] U ∧ va_D (fun _ => True) [(h0, .inr (13, fsM)), (qm1, .inl (ck, 3008, .inl fk)), (qm2, .inl (cf9, 3002, .inl ff)), (qm3, .inl (cw9, 3002, .inl fw)), (qm4, .inl (cv9, 3002, .inl fv))])) (va_Qi (fun (r : Int32) (u : Unit) => match u with | () => r = -1) (fun (u : Unit) (t : State) => match u with | () => va_P (dC, dI) vwCl [] t.heap ∧ va_K (dC, dI) vwCl [] t ∧ va_D (va_A [(h0, .inr (13, fsM)), (qm1, .inl (ck, 3008, .inl fk)), (qm2, .inl (cf9, 3002, .inl ff)), (qm3, .inl (cw9, 3002, .inl fw)), (qm4, .inl (cv9, 3002, .inl fv))] sz) []) (va_A [(h0, .inr (13, fsM)), (qm1, .inl (ck, 3008, .inl fk)), (qm2, .inl (cf9, 3002, .inl ff)), (qm3, .inl (cw9, 3002, .inl fw)), (qm4, .inl (cv9, 3002, .inl fv))] sz)) 0 0 (va_A [(h0, .inr (13, fsM)), (qm1, .inl (ck, 3008, .inl fk)), (qm2, .inl (cf9, 3002, .inl ff)), (qm3, .inl (cw9, 3002, .inl fw)), (qm4, .inl (cv9, 3002, .inl fv))] sz) := by
  refine Met.ofW (cc := cX13_compile) (maxL := 4) (ret := (some .int)) (by decide) rfl ?_
  intro p e s m args below meth c s₁ B hml hv
  obtain ⟨rfl, hsz, hP, hK, hD0⟩ := hv
  have hx := B.exec
  have hb := B.bytes
  have hr := B.returns
  have hts := atoms_spec (ws := (.code yX13_compile cX13_compile 4 (some .int) :: VS_c3)) B.pre
  replace hts := fun w (h : w ∈ VS_c3) => hts w (List.mem_cons_of_mem _ h)
  have hown : s.vm.findClass RX13 = some m.cls := findClass_of_methodNamed B.named
  have hlocks := B.notSynchronized
  subst hsz
  have hD := hD0.self (sz := s.heap.size)
  generalize hAe : va_A [(h0, .inr (13, fsM)), (qm1, .inl (ck, 3008, .inl fk)), (qm2, .inl (cf9, 3002, .inl ff)), (qm3, .inl (cw9, 3002, .inl fw)), (qm4, .inl (cv9, 3002, .inl fv))] s.heap.size = A at hD  ⊢
  have hA : ∀ q : Nat, s.heap.size ≤ q → A q := fun q h => by rw [← hAe]; exact Or.inr h
  have hP : va_P (dC, dI) vwCl [(h0, .inr (13, fsM)), (qm1, .inl (ck, 3008, .inl fk)), (qm2, .inl (cf9, 3002, .inl ff)), (qm3, .inl (cw9, 3002, .inl fw)), (qm4, .inl (cv9, 3002, .inl fv))] s.heap := hP
  have hl := lv_entry ([.ref h0]) (n := 4) (Nat.le_of_ble_eq_true rfl)
  rw [lg_entry_eq]
  generalize (lg_sl ([.ref h0]) ++ List.replicate (4 - (lg_sl ([.ref h0])).length) Slot.unset).toArray = ls at hl ⊢
  have hl : lv_has ls 4 [(0, .ref h0)] := hl
  obtain ⟨H, hH⟩ : ∃ H : Heap, s.heap = H := ⟨_, rfl⟩
  rw [hH] at hP ⊢
  have hS : va_S A s.heap H [] := by rw [← hH]; exact va_S.rf
  obtain ⟨locs, hlo⟩ : ∃ locs : List Loc, locs = [] := ⟨_, rfl⟩
  rw [← hlo] at hS ⊢
  refine lv_aload_n hx hb dX13_compile_0 rfl (lv_at hl 0 rfl) ?_
  refine va_get (D := (dC, dI)) (ci := 13) (v := .int 0) (C := RX13) (T := TX13) (N := 155) hx hb hts uV_c3_X13 hown hK hP 0 rfl rfl 1 (by decide) (hts (.fieldLink RX13 312 "ClassMillModel" "taped" "I") mw_c3_11) (fun _ h9 => h9) hM.2.2.2.2.2.2.2.1 dX13_compile_1 ?_
  refine lv_istore_n (lv' := [(1, .int 0), (0, .ref h0)]) hx hb dX13_compile_4 rfl hl (by decide) rfl (fun ls hl => ?_)
  refine lv_aload_n hx hb dX13_compile_5 rfl (lv_at hl 1 rfl) ?_
  refine lv_iconst (v := 0) hx hb dX13_compile_6 (by decide) ?_
  refine va_put (D := (dC, dI)) (ci := 13) (v := .int 0) (ty := .int) (C := RX13) (T := TX13) (N := 155) hx hb hts uV_c3_X13 tyX13 tyX13_ok nmX13 hown hK hP hD hS 0 rfl rfl 1 (by decide) (hts (.fieldLink RX13 312 "ClassMillModel" "taped" "I") mw_c3_11) (fun _ h9 => h9) rfl (by decide +kernel) rfl rfl (by rw [hM.1]; decide) dX13_compile_7 ?_
  clear hP hD hS
  intro H locs hP hD hS
  obtain ⟨fs_1, efs_1⟩ : ∃ zf : List Value, zf = fsM.set 1 (.int 0) := ⟨_, rfl⟩
  rw [← efs_1] at hP hD
  have hlfs_1 : fs_1.length = 155 := by rw [efs_1, List.length_set]; exact hM.1
  have hfs_1_9 : fs_1[9]? = some (.int 0) := by rw [efs_1, List.getElem?_set_ne (by decide)]; exact hM.2.2.2.2.2.2.2.2.2.2.1
  have hfs_1_10 : fs_1[10]? = some (.int 0) := by rw [efs_1, List.getElem?_set_ne (by decide)]; exact hM.2.2.2.2.2.2.2.2.2.2.2.1
  have hfs_1_3 : fs_1[3]? = some (.int 0) := by rw [efs_1, List.getElem?_set_ne (by decide)]; exact hM.2.2.2.2.2.2.2.2.1
  have hfs_1_4 : fs_1[4]? = some (.ref qm1) := by rw [efs_1, List.getElem?_set_ne (by decide)]; exact hM.2.2.1
  have hfs_1_5 : fs_1[5]? = some (.ref qm2) := by rw [efs_1, List.getElem?_set_ne (by decide)]; exact hM.2.2.2.1
  have hfs_1_6 : fs_1[6]? = some (.ref qm3) := by rw [efs_1, List.getElem?_set_ne (by decide)]; exact hM.2.2.2.2.1
  have hfs_1_7 : fs_1[7]? = some (.ref qm4) := by rw [efs_1, List.getElem?_set_ne (by decide)]; exact hM.2.2.2.2.2.1
  have hfs_1_8 : fs_1[8]? = some (.int 0) := by rw [efs_1, List.getElem?_set_ne (by decide)]; exact hM.2.2.2.2.2.2.2.2.2.1
  have hfs_1_1 : fs_1[1]? = some (.int 0) := by rw [efs_1, List.getElem?_set_self (by rw [hM.1]; decide)]
  replace hP : va_P (dC, dI) vwCl [(h0, .inr (13, fs_1)), (qm1, .inl (ck, 3008, .inl fk)), (qm2, .inl (cf9, 3002, .inl ff)), (qm3, .inl (cw9, 3002, .inl fw)), (qm4, .inl (cv9, 3002, .inl fv))] H := hP
  replace hD : va_D A [(h0, .inr (13, fs_1)), (qm1, .inl (ck, 3008, .inl fk)), (qm2, .inl (cf9, 3002, .inl ff)), (qm3, .inl (cw9, 3002, .inl fw)), (qm4, .inl (cv9, 3002, .inl fv))] := hD
  refine lv_aload_n hx hb dX13_compile_10 rfl (lv_at hl 1 rfl) ?_
  refine lv_iconst (v := 0) hx hb dX13_compile_11 (by decide) ?_
  refine va_put (D := (dC, dI)) (ci := 13) (v := .int 0) (ty := .int) (C := RX13) (T := TX13) (N := 155) hx hb hts uV_c3_X13 tyX13 tyX13_ok nmX13 hown hK hP hD hS 0 rfl rfl 9 (by decide) (hts (.fieldLink RX13 319 "ClassMillModel" "fault" "I") mw_c3_13) (fun _ h9 => h9) rfl (by decide +kernel) rfl rfl (by rw [hlfs_1]; decide) dX13_compile_12 ?_
  clear hP hD hS
  intro H locs hP hD hS
  obtain ⟨fs_2, efs_2⟩ : ∃ zf : List Value, zf = fs_1.set 9 (.int 0) := ⟨_, rfl⟩
  rw [← efs_2] at hP hD
  have hlfs_2 : fs_2.length = 155 := by rw [efs_2, List.length_set]; exact hlfs_1
  have hfs_2_10 : fs_2[10]? = some (.int 0) := by rw [efs_2, List.getElem?_set_ne (by decide)]; exact hfs_1_10
  have hfs_2_3 : fs_2[3]? = some (.int 0) := by rw [efs_2, List.getElem?_set_ne (by decide)]; exact hfs_1_3
  have hfs_2_4 : fs_2[4]? = some (.ref qm1) := by rw [efs_2, List.getElem?_set_ne (by decide)]; exact hfs_1_4
  have hfs_2_5 : fs_2[5]? = some (.ref qm2) := by rw [efs_2, List.getElem?_set_ne (by decide)]; exact hfs_1_5
  have hfs_2_6 : fs_2[6]? = some (.ref qm3) := by rw [efs_2, List.getElem?_set_ne (by decide)]; exact hfs_1_6
  have hfs_2_7 : fs_2[7]? = some (.ref qm4) := by rw [efs_2, List.getElem?_set_ne (by decide)]; exact hfs_1_7
  have hfs_2_8 : fs_2[8]? = some (.int 0) := by rw [efs_2, List.getElem?_set_ne (by decide)]; exact hfs_1_8
  have hfs_2_1 : fs_2[1]? = some (.int 0) := by rw [efs_2, List.getElem?_set_ne (by decide)]; exact hfs_1_1
  have hfs_2_9 : fs_2[9]? = some (.int 0) := by rw [efs_2, List.getElem?_set_self (by rw [hlfs_1]; decide)]
  replace hP : va_P (dC, dI) vwCl [(h0, .inr (13, fs_2)), (qm1, .inl (ck, 3008, .inl fk)), (qm2, .inl (cf9, 3002, .inl ff)), (qm3, .inl (cw9, 3002, .inl fw)), (qm4, .inl (cv9, 3002, .inl fv))] H := hP
  replace hD : va_D A [(h0, .inr (13, fs_2)), (qm1, .inl (ck, 3008, .inl fk)), (qm2, .inl (cf9, 3002, .inl ff)), (qm3, .inl (cw9, 3002, .inl fw)), (qm4, .inl (cv9, 3002, .inl fv))] := hD
  refine lv_aload_n hx hb dX13_compile_15 rfl (lv_at hl 1 rfl) ?_
  refine lv_iconst (v := (-1)) hx hb dX13_compile_16 (by decide) ?_
  refine va_put (D := (dC, dI)) (ci := 13) (v := .int (-1)) (ty := .int) (C := RX13) (T := TX13) (N := 155) hx hb hts uV_c3_X13 tyX13 tyX13_ok nmX13 hown hK hP hD hS 0 rfl rfl 10 (by decide) (hts (.fieldLink RX13 322 "ClassMillModel" "place" "I") mw_c3_15) (fun _ h9 => h9) rfl (by decide +kernel) rfl rfl (by rw [hlfs_2]; decide) dX13_compile_17 ?_
  clear hP hD hS
  intro H locs hP hD hS
  obtain ⟨fs_3, efs_3⟩ : ∃ zf : List Value, zf = fs_2.set 10 (.int (-1)) := ⟨_, rfl⟩
  rw [← efs_3] at hP hD
  have hlfs_3 : fs_3.length = 155 := by rw [efs_3, List.length_set]; exact hlfs_2
  have hfs_3_3 : fs_3[3]? = some (.int 0) := by rw [efs_3, List.getElem?_set_ne (by decide)]; exact hfs_2_3
  have hfs_3_4 : fs_3[4]? = some (.ref qm1) := by rw [efs_3, List.getElem?_set_ne (by decide)]; exact hfs_2_4
  have hfs_3_5 : fs_3[5]? = some (.ref qm2) := by rw [efs_3, List.getElem?_set_ne (by decide)]; exact hfs_2_5
  have hfs_3_6 : fs_3[6]? = some (.ref qm3) := by rw [efs_3, List.getElem?_set_ne (by decide)]; exact hfs_2_6
  have hfs_3_7 : fs_3[7]? = some (.ref qm4) := by rw [efs_3, List.getElem?_set_ne (by decide)]; exact hfs_2_7
  have hfs_3_8 : fs_3[8]? = some (.int 0) := by rw [efs_3, List.getElem?_set_ne (by decide)]; exact hfs_2_8
  have hfs_3_1 : fs_3[1]? = some (.int 0) := by rw [efs_3, List.getElem?_set_ne (by decide)]; exact hfs_2_1
  have hfs_3_9 : fs_3[9]? = some (.int 0) := by rw [efs_3, List.getElem?_set_ne (by decide)]; exact hfs_2_9
  have hfs_3_10 : fs_3[10]? = some (.int (-1)) := by rw [efs_3, List.getElem?_set_self (by rw [hlfs_2]; decide)]
  replace hP : va_P (dC, dI) vwCl [(h0, .inr (13, fs_3)), (qm1, .inl (ck, 3008, .inl fk)), (qm2, .inl (cf9, 3002, .inl ff)), (qm3, .inl (cw9, 3002, .inl fw)), (qm4, .inl (cv9, 3002, .inl fv))] H := hP
  replace hD : va_D A [(h0, .inr (13, fs_3)), (qm1, .inl (ck, 3008, .inl fk)), (qm2, .inl (cf9, 3002, .inl ff)), (qm3, .inl (cw9, 3002, .inl fw)), (qm4, .inl (cv9, 3002, .inl fv))] := hD
  refine lv_iload_n hx hb dX13_compile_20 rfl (lv_at hl 0 rfl) ?_
  refine lv_sipush (v := 3000) hx hb dX13_compile_21 (by decide) ?_
  refine lv_icmp_le (tgt := 41) hx hb dX13_compile_24 (by decide) (fun c_4 => ?_) (fun c_4 => (show False by revert c_4; decide).elim)
  refine lv_iconst (v := 0) hx hb dX13_compile_41 (by decide) ?_
  refine lv_istore_n (lv' := [(2, .int 0), (1, .int 0), (0, .ref h0)]) hx hb dX13_compile_42 rfl hl (by decide) rfl (fun ls hl => ?_)
  refine lv_iload_n hx hb dX13_compile_43 rfl (lv_at hl 0 rfl) ?_
  refine lv_iload_n hx hb dX13_compile_44 rfl (lv_at hl 1 rfl) ?_
  refine lv_icmp_ge (tgt := 66) hx hb dX13_compile_45 (by decide) (fun c_5 => ?_) (fun c_5 => (show False by revert c_5; decide).elim)
  refine lv_aload_n hx hb dX13_compile_66 rfl (lv_at hl 2 rfl) ?_
  refine lv_iload_n hx hb dX13_compile_67 rfl (lv_at hl 1 rfl) ?_
  refine va_put (D := (dC, dI)) (ci := 13) (v := .int 0) (ty := .int) (C := RX13) (T := TX13) (N := 155) hx hb hts uV_c3_X13 tyX13 tyX13_ok nmX13 hown hK hP hD hS 0 rfl rfl 3 (by decide) (hts (.fieldLink RX13 325 "ClassMillModel" "size" "I") mw_c3_49) (fun _ h9 => h9) rfl (by decide +kernel) rfl rfl (by rw [hlfs_3]; decide) dX13_compile_68 ?_
  clear hP hD hS
  intro H locs hP hD hS
  obtain ⟨fs_6, efs_6⟩ : ∃ zf : List Value, zf = fs_3.set 3 (.int 0) := ⟨_, rfl⟩
  rw [← efs_6] at hP hD
  have hlfs_6 : fs_6.length = 155 := by rw [efs_6, List.length_set]; exact hlfs_3
  have hfs_6_4 : fs_6[4]? = some (.ref qm1) := by rw [efs_6, List.getElem?_set_ne (by decide)]; exact hfs_3_4
  have hfs_6_5 : fs_6[5]? = some (.ref qm2) := by rw [efs_6, List.getElem?_set_ne (by decide)]; exact hfs_3_5
  have hfs_6_6 : fs_6[6]? = some (.ref qm3) := by rw [efs_6, List.getElem?_set_ne (by decide)]; exact hfs_3_6
  have hfs_6_7 : fs_6[7]? = some (.ref qm4) := by rw [efs_6, List.getElem?_set_ne (by decide)]; exact hfs_3_7
  have hfs_6_8 : fs_6[8]? = some (.int 0) := by rw [efs_6, List.getElem?_set_ne (by decide)]; exact hfs_3_8
  have hfs_6_1 : fs_6[1]? = some (.int 0) := by rw [efs_6, List.getElem?_set_ne (by decide)]; exact hfs_3_1
  have hfs_6_9 : fs_6[9]? = some (.int 0) := by rw [efs_6, List.getElem?_set_ne (by decide)]; exact hfs_3_9
  have hfs_6_10 : fs_6[10]? = some (.int (-1)) := by rw [efs_6, List.getElem?_set_ne (by decide)]; exact hfs_3_10
  have hfs_6_3 : fs_6[3]? = some (.int 0) := by rw [efs_6, List.getElem?_set_self (by rw [hlfs_3]; decide)]
  replace hP : va_P (dC, dI) vwCl [(h0, .inr (13, fs_6)), (qm1, .inl (ck, 3008, .inl fk)), (qm2, .inl (cf9, 3002, .inl ff)), (qm3, .inl (cw9, 3002, .inl fw)), (qm4, .inl (cv9, 3002, .inl fv))] H := hP
  replace hD : va_D A [(h0, .inr (13, fs_6)), (qm1, .inl (ck, 3008, .inl fk)), (qm2, .inl (cf9, 3002, .inl ff)), (qm3, .inl (cw9, 3002, .inl fw)), (qm4, .inl (cv9, 3002, .inl fv))] := hD
  refine lv_aload_n hx hb dX13_compile_71 rfl (lv_at hl 2 rfl) ?_
  have hPc := hP.sub (ws' := [(h0, .inr (13, fs_6)), (qm1, .inl (ck, 3008, .inl fk)), (qm2, .inl (cf9, 3002, .inl ff)), (qm3, .inl (cw9, 3002, .inl fw)), (qm4, .inl (cv9, 3002, .inl fv))]) [0, 1, 2, 3, 4] rfl
  have hDc := hD.sub (ws' := [(h0, .inr (13, fs_6)), (qm1, .inl (ck, 3008, .inl fk)), (qm2, .inl (cf9, 3002, .inl ff)), (qm3, .inl (cw9, 3002, .inl fw)), (qm4, .inl (cv9, 3002, .inl fv))]) [0, 1, 2, 3, 4] (by decide) rfl
  have hKc := hK.sub (tys' := [(ck, .int), (cf9, .int), (cw9, .int), (cv9, .int)]) [0, 1, 2, 3] rfl
  have hFc := va_free (wc := [(h0, .inr (13, fs_6)), (qm1, .inl (ck, 3008, .inl fk)), (qm2, .inl (cf9, 3002, .inl ff)), (qm3, .inl (cw9, 3002, .inl fw)), (qm4, .inl (cv9, 3002, .inl fv))]) hD hS hA [0, 1, 2, 3, 4] rfl
  refine va_callv (va_runV (As := []) (rest := []) ⟨hx, hb, hml, hown, hts⟩ (mm_tokenize l dC dI H.size h0 fs_6 qm1 qm2 qm3 qm4 ck cf9 cw9 cv9 fk ff fw fv hlfs_6 hfs_6_4 hfs_6_5 hfs_6_6 hfs_6_7 hfs_6_8 hfs_6_3 hfs_6_9) (cwV 0 hts gv_c3_8 rfl rfl rfl (by decide +kernel) ⟨Nat.le_of_ble_eq_true rfl, Nat.le_of_ble_eq_true rfl⟩) ⟨fun a U g mk q => by obtain ⟨q0, q1, qP, qK, qD⟩ := q; exact ⟨q0, q1, qP, va_K.moved (u := U) (U := U.calling g mk a) (Vm.Alike.refl U.vm) qK, qD⟩, va_recv hKc hPc (ci := 13) (q0 := 0) rfl rfl, fun U hU hW => ⟨rfl, by rw [hU], by rw [hU]; exact hPc, va_K.moved hW.alike hKc, hDc.weaken (fun _ _ _ _ => trivial)⟩⟩ rfl rfl hl.1 rfl (lv_room (Nat.le_of_ble_eq_true rfl)) dX13_compile_72 ⟨Nat.le_of_ble_eq_true rfl, Nat.le_of_ble_eq_true rfl⟩) hS (fun q _ h => hFc q h) hFc ?_
  clear hS
  intro u t H1 locs ht hvm hw hB hz1 hk1 hS
  obtain ⟨z_7, f_8, f_9⟩ := u
  obtain ⟨hP1, hK1, hD1⟩ := hB
  rw [ht] at hP1
  have hK1 := va_K.moved hvm.symm hK1
  try dsimp only at hw
  have hPD := va_join (wr := []) (w1 := [(h0, .inr (13, z_7)), (qm1, .inl (ck, 3008, .inl f_8)), (qm2, .inl (cf9, 3002, .inl f_9))]) hP hD [0, 1, 2, 3, 4] [] rfl rfl (by decide) (by decide) hk1 hFc hP1 hD1
  clear hP hD
  obtain ⟨hP, hD⟩ := hPD
  replace hK := (hK.sub (tys' := []) [] rfl).app hK1
  clear hPc hDc hKc hFc hP1 hK1 hD1 hz1 hk1 ht hvm
  generalize H1 = H at hP hS ⊢
  replace hP : va_P (dC, dI) vwCl [(h0, .inr (13, z_7)), (qm1, .inl (ck, 3008, .inl f_8)), (qm2, .inl (cf9, 3002, .inl f_9))] H := hP
  replace hD : va_D A [(h0, .inr (13, z_7)), (qm1, .inl (ck, 3008, .inl f_8)), (qm2, .inl (cf9, 3002, .inl f_9))] := hD
  replace hK : va_K (dC, dI) vwCl [(ck, .int), (cf9, .int)] s := hK
  obtain ⟨hl1, hk1, hr1, ha1, hk2, hf2⟩ := hw
  refine lv_aload_n hx hb dX13_compile_75 rfl (lv_at hl 2 rfl) ?_
  refine va_get (D := (dC, dI)) (ci := 13) (v := .int 0) (C := RX13) (T := TX13) (N := 155) hx hb hts uV_c3_X13 hown hK hP 0 rfl rfl 9 (by decide) (hts (.fieldLink RX13 319 "ClassMillModel" "fault" "I") mw_c3_13) (fun _ h9 => h9) ha1 dX13_compile_76 ?_
  refine lv_if_ne (tgt := 86) hx hb dX13_compile_79 (by decide) (fun c_10 => (show False by revert c_10; decide).elim) (fun c_10 => ?_)
  refine lv_aload_n hx hb dX13_compile_82 rfl (lv_at hl 2 rfl) ?_
  have hPc := hP.sub (ws' := [(h0, .inr (13, z_7)), (qm1, .inl (ck, 3008, .inl f_8)), (qm2, .inl (cf9, 3002, .inl f_9))]) [0, 1, 2] rfl
  have hDc := hD.sub (ws' := [(h0, .inr (13, z_7)), (qm1, .inl (ck, 3008, .inl f_8)), (qm2, .inl (cf9, 3002, .inl f_9))]) [0, 1, 2] (by decide) rfl
  have hKc := hK.sub (tys' := [(ck, .int), (cf9, .int)]) [0, 1] rfl
  have hFc := va_free (wc := [(h0, .inr (13, z_7)), (qm1, .inl (ck, 3008, .inl f_8)), (qm2, .inl (cf9, 3002, .inl f_9))]) hD hS hA [0, 1, 2] rfl
  refine va_callv (va_runV (As := []) (rest := []) ⟨hx, hb, hml, hown, hts⟩ (mm_program l dC dI H.size h0 z_7 qm1 qm2 ck cf9 f_8 f_9 hl1 ha1 hr1 hk1 hf2 hk2) (cwV 0 hts gv_c3_9 rfl rfl rfl (by decide +kernel) ⟨Nat.le_of_ble_eq_true rfl, Nat.le_of_ble_eq_true rfl⟩) ⟨fun a U g mk q => by obtain ⟨q0, q1, qP, qK, qD⟩ := q; exact ⟨q0, q1, qP, va_K.moved (u := U) (U := U.calling g mk a) (Vm.Alike.refl U.vm) qK, qD⟩, va_recv hKc hPc (ci := 13) (q0 := 0) rfl rfl, fun U hU hW => ⟨rfl, by rw [hU], by rw [hU]; exact hPc, va_K.moved hW.alike hKc, hDc.weaken (fun _ _ _ _ => trivial)⟩⟩ rfl rfl hl.1 rfl (lv_room (Nat.le_of_ble_eq_true rfl)) dX13_compile_83 ⟨Nat.le_of_ble_eq_true rfl, Nat.le_of_ble_eq_true rfl⟩) hS (fun q _ h => hFc q h) hFc ?_
  clear hS
  intro u t H1 locs ht hvm hw hB hz1 hk1 hS
  obtain ⟨z_11, rfl⟩ : ∃ z, z = u := ⟨_, rfl⟩
  obtain ⟨hP1, hK1, hD1⟩ := hB
  rw [ht] at hP1
  have hK1 := va_K.moved hvm.symm hK1
  try dsimp only at hw
  have hPD := va_join (wr := []) (w1 := [(h0, .inr (13, z_11))]) hP hD [0, 1, 2] [] rfl rfl (by decide) (by decide) hk1 hFc hP1 hD1
  clear hP hD
  obtain ⟨hP, hD⟩ := hPD
  replace hK := (hK.sub (tys' := []) [] rfl).app hK1
  clear hPc hDc hKc hFc hP1 hK1 hD1 hz1 hk1 ht hvm
  generalize H1 = H at hP hS ⊢
  replace hP : va_P (dC, dI) vwCl [(h0, .inr (13, z_11))] H := hP
  replace hD : va_D A [(h0, .inr (13, z_11))] := hD
  replace hK : va_K (dC, dI) vwCl [] s := hK
  obtain ⟨hl2, ha2, hc2⟩ := hw
  refine lv_aload_n hx hb dX13_compile_86 rfl (lv_at hl 2 rfl) ?_
  refine va_get (D := (dC, dI)) (ci := 13) (v := .int 2) (C := RX13) (T := TX13) (N := 155) hx hb hts uV_c3_X13 hown hK hP 0 rfl rfl 9 (by decide) (hts (.fieldLink RX13 319 "ClassMillModel" "fault" "I") mw_c3_13) (fun _ h9 => h9) ha2 dX13_compile_87 ?_
  refine lv_if_ne (tgt := 97) hx hb dX13_compile_90 (by decide) (fun c_12 => ?_) (fun c_12 => (show False by revert c_12; decide).elim)
  refine lv_aload_n hx hb dX13_compile_97 rfl (lv_at hl 2 rfl) ?_
  refine va_get (D := (dC, dI)) (ci := 13) (v := .int 2) (C := RX13) (T := TX13) (N := 155) hx hb hts uV_c3_X13 hown hK hP 0 rfl rfl 9 (by decide) (hts (.fieldLink RX13 319 "ClassMillModel" "fault" "I") mw_c3_13) (fun _ h9 => h9) ha2 dX13_compile_98 ?_
  refine lv_if_ne (tgt := 108) hx hb dX13_compile_101 (by decide) (fun c_13 => ?_) (fun c_13 => (show False by revert c_13; decide).elim)
  refine lv_iconst (v := 0) hx hb dX13_compile_108 (by decide) ?_
  refine lv_istore_n (lv' := [(2, .int 0), (1, .int 0), (0, .ref h0)]) hx hb dX13_compile_109 rfl hl (by decide) rfl (fun ls hl => ?_)
  refine lv_iload_n hx hb dX13_compile_110 rfl (lv_at hl 0 rfl) ?_
  refine lv_aload_n hx hb dX13_compile_111 rfl (lv_at hl 2 rfl) ?_
  refine va_get (D := (dC, dI)) (ci := 13) (v := .int 0) (C := RX13) (T := TX13) (N := 155) hx hb hts uV_c3_X13 hown hK hP 0 rfl rfl 24 (by decide) (hts (.fieldLink RX13 409 "ClassMillModel" "classes" "I") mw_c3_38) (fun _ h9 => h9) hc2 dX13_compile_112 ?_
  refine lv_icmp_ge (tgt := 136) hx hb dX13_compile_115 (by decide) (fun c_14 => ?_) (fun c_14 => (show False by revert c_14; decide).elim)
  refine lv_aload_n hx hb dX13_compile_136 rfl (lv_at hl 2 rfl) ?_
  refine va_get (D := (dC, dI)) (ci := 13) (v := .int 2) (C := RX13) (T := TX13) (N := 155) hx hb hts uV_c3_X13 hown hK hP 0 rfl rfl 9 (by decide) (hts (.fieldLink RX13 319 "ClassMillModel" "fault" "I") mw_c3_13) (fun _ h9 => h9) ha2 dX13_compile_137 ?_
  refine lv_if_eq (tgt := 145) hx hb dX13_compile_140 (by decide) (fun c_15 => (show False by revert c_15; decide).elim) (fun c_15 => ?_)
  refine lv_iconst (v := (-1)) hx hb dX13_compile_143 (by decide) ?_
  have hP9 := hP.sub (ws' := []) [] rfl
  have hD9 := hD.sub (ws' := []) [] (by decide) rfl
  have hK9 := hK.sub (tys' := []) [] rfl
  exact W.iret hx hb hr (fun t ht hW => ⟨⟨((-1)), (), rfl, rfl, by rw [ht]; exact hP9, va_K.moved hW.alike hK9, hD9⟩, hS.F ht⟩) hS.2.2 dX13_compile_144
