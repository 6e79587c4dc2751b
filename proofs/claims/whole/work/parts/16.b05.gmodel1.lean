set_option maxHeartbeats 4000000 in
set_option maxRecDepth 100000 in
/-- ClassMillModel.bad -/
theorem tm_bad (l : Launch) (dC : Nat → ClassId) (dI : Nat → Nat → Nat) (sz : Nat) (h0 : Nat) (zs : (List Value)) (a1 : Int32) (a2 : Int32) (a3 : Int32) (a4 : Int32) (v122 : Int32) (v123 : Int32) (v124 : Int32) (v125 : Int32) (nf : Nat) (r0 : Int32) (w122 : Int32) (w123 : Int32) (w124 : Int32) (w125 : Int32) (hlen : zs.length = 155) (hf122 : zs[122]? = some (.int v122)) (hf123 : zs[123]? = some (.int v123)) (hf124 : zs[124]? = some (.int v124)) (hf125 : zs[125]? = some (.int v125)) (hsp : sp_tm_bad nf a1 a2 a3 a4 = some (r0, w122, w123, w124, w125)) : Met l yX13_bad (.code yX13_bad cX13_bad 5 (some .boolean) :: VS_h5) ({ frames := 0, cells := 0, slots := 0, locals := 0 }) (va_Pc [.ref h0, .int a1, .int a2, .int a3, .int a4] (fun U => U.heap.size = sz ∧ va_P (dC, dI) vwCl [(h0, .inr (13, zs))] U.heap ∧ va_K (dC, dI) vwCl [] U ∧ va_D (fun _ => True) [(h0, .inr (13, zs))])) (va_Qi (fun (r : Int32) (u : (List Value)) => match u with | (zo1) => (r0 = r ∧ (r0 = 0 ∨ r0 = 1)) ∧ zo1.length = 155 ∧ (∀ j : Nat, j ≠ 122 → j ≠ 123 → j ≠ 124 → j ≠ 125 → zo1[j]? = zs[j]?) ∧ zo1[122]? = some (.int w122) ∧ zo1[123]? = some (.int w123) ∧ zo1[124]? = some (.int w124) ∧ zo1[125]? = some (.int w125)) (fun (u : (List Value)) (t : State) => match u with | (zo1) => va_P (dC, dI) vwCl [(h0, .inr (13, zo1))] t.heap ∧ va_K (dC, dI) vwCl [] t ∧ va_D (va_A [(h0, .inr (13, zs))] sz) [(h0, .inr (13, zo1))]) (va_A [(h0, .inr (13, zs))] sz)) 0 0 (va_A [(h0, .inr (13, zs))] sz) := by
  refine Met.ofW (cc := cX13_bad) (maxL := 5) (ret := (some .boolean)) (by decide) rfl ?_
  intro p e s m args below meth c s₁ B hml hv
  obtain ⟨rfl, hsz, hP, hK, hD0⟩ := hv
  have hx := B.exec
  have hb := B.bytes
  have hr := B.returns
  have hts := atoms_spec (ws := (.code yX13_bad cX13_bad 5 (some .boolean) :: VS_h5)) B.pre
  replace hts := fun w (h : w ∈ VS_h5) => hts w (List.mem_cons_of_mem _ h)
  have hown : s.vm.findClass RX13 = some m.cls := findClass_of_methodNamed B.named
  have hlocks := B.notSynchronized
  subst hsz
  have hD := hD0.self (sz := s.heap.size)
  generalize hAe : va_A [(h0, .inr (13, zs))] s.heap.size = A at hD  ⊢
  have hA : ∀ q : Nat, s.heap.size ≤ q → A q := fun q h => by rw [← hAe]; exact Or.inr h
  have hP : va_P (dC, dI) vwCl [(h0, .inr (13, zs))] s.heap := hP
  have hl := lv_entry ([.ref h0, .int a1, .int a2, .int a3, .int a4]) (n := 5) (Nat.le_of_ble_eq_true rfl)
  rw [lg_entry_eq]
  generalize (lg_sl ([.ref h0, .int a1, .int a2, .int a3, .int a4]) ++ List.replicate (5 - (lg_sl ([.ref h0, .int a1, .int a2, .int a3, .int a4])).length) Slot.unset).toArray = ls at hl ⊢
  have hl : lv_has ls 5 [(0, .ref h0), (1, .int a1), (2, .int a2), (3, .int a3), (4, .int a4)] := hl
  obtain ⟨H, hH⟩ : ∃ H : Heap, s.heap = H := ⟨_, rfl⟩
  rw [hH] at hP ⊢
  have hS : va_S A s.heap H [] := by rw [← hH]; exact va_S.rf
  obtain ⟨locs, hlo⟩ : ∃ locs : List Loc, locs = [] := ⟨_, rfl⟩
  rw [← hlo] at hS ⊢
  have hrs0 : ∀ j : Nat, j ≠ 122 → j ≠ 123 → j ≠ 124 → j ≠ 125 → zs[j]? = zs[j]? := fun _ _ _ _ _  => rfl
  unfold sp_tm_bad at hsp
  refine lv_aload_n hx hb dX13_bad_0 rfl (lv_at hl 0 rfl) ?_
  refine lv_iload_n hx hb dX13_bad_1 rfl (lv_at hl 1 rfl) ?_
  refine va_put (D := (dC, dI)) (ci := 13) (v := .int a1) (ty := .int) (C := RX13) (T := TX13) (N := 155) hx hb hts uV_h5_X13 tyX13 tyX13_ok nmX13 hown hK hP hD hS 0 rfl rfl 122 (by decide) (hts (.fieldLink RX13 901 "ClassMillModel" "why" "I") mw_h5_114) (fun _ h9 => h9) rfl (by decide +kernel) rfl rfl (by rw [hlen]; decide) dX13_bad_2 ?_
  clear hP hD hS
  intro H locs hP hD hS
  obtain ⟨fs_1, efs_1⟩ : ∃ zf : List Value, zf = zs.set 122 (.int a1) := ⟨_, rfl⟩
  rw [← efs_1] at hP hD
  have hlfs_1 : fs_1.length = 155 := by rw [efs_1, List.length_set]; exact hlen
  have hfs_1_123 : fs_1[123]? = some (.int v123) := by rw [efs_1, List.getElem?_set_ne (by decide)]; exact hf123
  have hfs_1_124 : fs_1[124]? = some (.int v124) := by rw [efs_1, List.getElem?_set_ne (by decide)]; exact hf124
  have hfs_1_125 : fs_1[125]? = some (.int v125) := by rw [efs_1, List.getElem?_set_ne (by decide)]; exact hf125
  have hfs_1_122 : fs_1[122]? = some (.int a1) := by rw [efs_1, List.getElem?_set_self (by rw [hlen]; decide)]
  replace hP : va_P (dC, dI) vwCl [(h0, .inr (13, fs_1))] H := hP
  replace hD : va_D A [(h0, .inr (13, fs_1))] := hD
  have hrs_2 : ∀ j : Nat, j ≠ 122 → j ≠ 123 → j ≠ 124 → j ≠ 125 → fs_1[j]? = zs[j]? := fun j g122 g123 g124 g125 => ((congrArg (fun z : List Value => z[j]?) efs_1).trans (List.getElem?_set_ne (Ne.symm g122))).trans (hrs0 j g122 g123 g124 g125)
  refine lv_aload_n hx hb dX13_bad_5 rfl (lv_at hl 0 rfl) ?_
  refine lv_iload_n hx hb dX13_bad_6 rfl (lv_at hl 2 rfl) ?_
  refine va_put (D := (dC, dI)) (ci := 13) (v := .int a2) (ty := .int) (C := RX13) (T := TX13) (N := 155) hx hb hts uV_h5_X13 tyX13 tyX13_ok nmX13 hown hK hP hD hS 0 rfl rfl 123 (by decide) (hts (.fieldLink RX13 257 "ClassMillModel" "whyClass" "I") mw_h5_115) (fun _ h9 => h9) rfl (by decide +kernel) rfl rfl (by rw [hlfs_1]; decide) dX13_bad_7 ?_
  clear hP hD hS
  intro H locs hP hD hS
  obtain ⟨fs_3, efs_3⟩ : ∃ zf : List Value, zf = fs_1.set 123 (.int a2) := ⟨_, rfl⟩
  rw [← efs_3] at hP hD
  have hlfs_3 : fs_3.length = 155 := by rw [efs_3, List.length_set]; exact hlfs_1
  have hfs_3_124 : fs_3[124]? = some (.int v124) := by rw [efs_3, List.getElem?_set_ne (by decide)]; exact hfs_1_124
  have hfs_3_125 : fs_3[125]? = some (.int v125) := by rw [efs_3, List.getElem?_set_ne (by decide)]; exact hfs_1_125
  have hfs_3_122 : fs_3[122]? = some (.int a1) := by rw [efs_3, List.getElem?_set_ne (by decide)]; exact hfs_1_122
  have hfs_3_123 : fs_3[123]? = some (.int a2) := by rw [efs_3, List.getElem?_set_self (by rw [hlfs_1]; decide)]
  replace hP : va_P (dC, dI) vwCl [(h0, .inr (13, fs_3))] H := hP
  replace hD : va_D A [(h0, .inr (13, fs_3))] := hD
  have hrs_4 : ∀ j : Nat, j ≠ 122 → j ≠ 123 → j ≠ 124 → j ≠ 125 → fs_3[j]? = zs[j]? := fun j g122 g123 g124 g125 => ((congrArg (fun z : List Value => z[j]?) efs_3).trans (List.getElem?_set_ne (Ne.symm g123))).trans (hrs_2 j g122 g123 g124 g125)
  refine lv_aload_n hx hb dX13_bad_10 rfl (lv_at hl 0 rfl) ?_
  refine lv_iload_n hx hb dX13_bad_11 rfl (lv_at hl 3 rfl) ?_
  refine va_put (D := (dC, dI)) (ci := 13) (v := .int a3) (ty := .int) (C := RX13) (T := TX13) (N := 155) hx hb hts uV_h5_X13 tyX13 tyX13_ok nmX13 hown hK hP hD hS 0 rfl rfl 124 (by decide) (hts (.fieldLink RX13 261 "ClassMillModel" "whyMethod" "I") mw_h5_116) (fun _ h9 => h9) rfl (by decide +kernel) rfl rfl (by rw [hlfs_3]; decide) dX13_bad_12 ?_
  clear hP hD hS
  intro H locs hP hD hS
  obtain ⟨fs_5, efs_5⟩ : ∃ zf : List Value, zf = fs_3.set 124 (.int a3) := ⟨_, rfl⟩
  rw [← efs_5] at hP hD
  have hlfs_5 : fs_5.length = 155 := by rw [efs_5, List.length_set]; exact hlfs_3
  have hfs_5_125 : fs_5[125]? = some (.int v125) := by rw [efs_5, List.getElem?_set_ne (by decide)]; exact hfs_3_125
  have hfs_5_122 : fs_5[122]? = some (.int a1) := by rw [efs_5, List.getElem?_set_ne (by decide)]; exact hfs_3_122
  have hfs_5_123 : fs_5[123]? = some (.int a2) := by rw [efs_5, List.getElem?_set_ne (by decide)]; exact hfs_3_123
  have hfs_5_124 : fs_5[124]? = some (.int a3) := by rw [efs_5, List.getElem?_set_self (by rw [hlfs_3]; decide)]
  replace hP : va_P (dC, dI) vwCl [(h0, .inr (13, fs_5))] H := hP
  replace hD : va_D A [(h0, .inr (13, fs_5))] := hD
  have hrs_6 : ∀ j : Nat, j ≠ 122 → j ≠ 123 → j ≠ 124 → j ≠ 125 → fs_5[j]? = zs[j]? := fun j g122 g123 g124 g125 => ((congrArg (fun z : List Value => z[j]?) efs_5).trans (List.getElem?_set_ne (Ne.symm g124))).trans (hrs_4 j g122 g123 g124 g125)
  refine lv_aload_n hx hb dX13_bad_15 rfl (lv_at hl 0 rfl) ?_
  refine lv_iload hx hb dX13_bad_16 (lv_at hl 4 rfl) ?_
  refine va_put (D := (dC, dI)) (ci := 13) (v := .int a4) (ty := .int) (C := RX13) (T := TX13) (N := 155) hx hb hts uV_h5_X13 tyX13 tyX13_ok nmX13 hown hK hP hD hS 0 rfl rfl 125 (by decide) (hts (.fieldLink RX13 264 "ClassMillModel" "whyPlace" "I") mw_h5_117) (fun _ h9 => h9) rfl (by decide +kernel) rfl rfl (by rw [hlfs_5]; decide) dX13_bad_18 ?_
  clear hP hD hS
  intro H locs hP hD hS
  obtain ⟨fs_7, efs_7⟩ : ∃ zf : List Value, zf = fs_5.set 125 (.int a4) := ⟨_, rfl⟩
  rw [← efs_7] at hP hD
  have hlfs_7 : fs_7.length = 155 := by rw [efs_7, List.length_set]; exact hlfs_5
  have hfs_7_122 : fs_7[122]? = some (.int a1) := by rw [efs_7, List.getElem?_set_ne (by decide)]; exact hfs_5_122
  have hfs_7_123 : fs_7[123]? = some (.int a2) := by rw [efs_7, List.getElem?_set_ne (by decide)]; exact hfs_5_123
  have hfs_7_124 : fs_7[124]? = some (.int a3) := by rw [efs_7, List.getElem?_set_ne (by decide)]; exact hfs_5_124
  have hfs_7_125 : fs_7[125]? = some (.int a4) := by rw [efs_7, List.getElem?_set_self (by rw [hlfs_5]; decide)]
  replace hP : va_P (dC, dI) vwCl [(h0, .inr (13, fs_7))] H := hP
  replace hD : va_D A [(h0, .inr (13, fs_7))] := hD
  have hrs_8 : ∀ j : Nat, j ≠ 122 → j ≠ 123 → j ≠ 124 → j ≠ 125 → fs_7[j]? = zs[j]? := fun j g122 g123 g124 g125 => ((congrArg (fun z : List Value => z[j]?) efs_7).trans (List.getElem?_set_ne (Ne.symm g125))).trans (hrs_6 j g122 g123 g124 g125)
  refine lv_iconst (v := 0) hx hb dX13_bad_21 (by decide) ?_
  have hr0 := Option.some.inj hsp
  clear hsp
  obtain ⟨hq0, hr1⟩ := Prod.mk.inj hr0
  clear hr0
  obtain ⟨hq1, hr2⟩ := Prod.mk.inj hr1
  clear hr1
  obtain ⟨hq2, hr3⟩ := Prod.mk.inj hr2
  clear hr2
  obtain ⟨hq3, hr4⟩ := Prod.mk.inj hr3
  clear hr3
  subst hq0
  subst hq1
  subst hq2
  subst hq3
  subst hr4
  have hP9 := hP.sub (ws' := [(h0, .inr (13, fs_7))]) [0] rfl
  have hD9 := hD.sub (ws' := [(h0, .inr (13, fs_7))]) [0] (by decide) rfl
  have hK9 := hK.sub (tys' := []) [] rfl
  exact W.zret hx hb hr (by decide) (fun t ht hW => ⟨⟨(0), (fs_7), rfl, ⟨⟨rfl, Or.inl rfl⟩, hlfs_7, hrs_8, hfs_7_122, hfs_7_123, hfs_7_124, hfs_7_125⟩, by rw [ht]; exact hP9, va_K.moved hW.alike hK9, hD9⟩, hS.F ht⟩) hS.2.2 dX13_bad_22
def sp_tm_where (nf : Nat) (a1 : Int32) (v123 : Int32) (v124 : Int32) (v125 : Int32) : Option (Int32) := (if a1 = 0 then (some v123) else (if a1 = 1 then (some v124) else (if a1 = 2 then (some v125) else (some (-1)))))
set_option maxHeartbeats 4000000 in
set_option maxRecDepth 100000 in
/-- ClassMillModel.where -/
theorem tm_where (l : Launch) (dC : Nat → ClassId) (dI : Nat → Nat → Nat) (sz : Nat) (h0 : Nat) (zs : (List Value)) (a1 : Int32) (v123 : Int32) (v124 : Int32) (v125 : Int32) (nf : Nat) (r0 : Int32) (hlen : zs.length = 155) (hf123 : zs[123]? = some (.int v123)) (hf124 : zs[124]? = some (.int v124)) (hf125 : zs[125]? = some (.int v125)) (hsp : sp_tm_where nf a1 v123 v124 v125 = some r0) : Met l yX13_where (.code yX13_where cX13_where 2 (some .int) :: VS_h5) ({ frames := 0, cells := 0, slots := 0, locals := 0 }) (va_Pc [.ref h0, .int a1] (fun U => U.heap.size = sz ∧ va_P (dC, dI) vwCl [(h0, .inr (13, zs))] U.heap ∧ va_K (dC, dI) vwCl [] U ∧ va_D (fun _ => True) [(h0, .inr (13, zs))])) (va_Qi (fun (r : Int32) (u : (List Value)) => match u with | (zo1) => r0 = r ∧ zo1.length = 155 ∧ (∀ j : Nat, zo1[j]? = zs[j]?)) (fun (u : (List Value)) (t : State) => match u with | (zo1) => va_P (dC, dI) vwCl [(h0, .inr (13, zo1))] t.heap ∧ va_K (dC, dI) vwCl [] t ∧ va_D (va_A [(h0, .inr (13, zs))] sz) [(h0, .inr (13, zo1))]) (va_A [(h0, .inr (13, zs))] sz)) 0 0 (va_A [(h0, .inr (13, zs))] sz) := by
  refine Met.ofW (cc := cX13_where) (maxL := 2) (ret := (some .int)) (by decide) rfl ?_
  intro p e s m args below meth c s₁ B hml hv
  obtain ⟨rfl, hsz, hP, hK, hD0⟩ := hv
  have hx := B.exec
  have hb := B.bytes
  have hr := B.returns
  have hts := atoms_spec (ws := (.code yX13_where cX13_where 2 (some .int) :: VS_h5)) B.pre
  replace hts := fun w (h : w ∈ VS_h5) => hts w (List.mem_cons_of_mem _ h)
  have hown : s.vm.findClass RX13 = some m.cls := findClass_of_methodNamed B.named
  have hlocks := B.notSynchronized
  subst hsz
  have hD := hD0.self (sz := s.heap.size)
  generalize hAe : va_A [(h0, .inr (13, zs))] s.heap.size = A at hD  ⊢
  have hA : ∀ q : Nat, s.heap.size ≤ q → A q := fun q h => by rw [← hAe]; exact Or.inr h
  have hP : va_P (dC, dI) vwCl [(h0, .inr (13, zs))] s.heap := hP
  have hl := lv_entry ([.ref h0, .int a1]) (n := 2) (Nat.le_of_ble_eq_true rfl)
  rw [lg_entry_eq]
  generalize (lg_sl ([.ref h0, .int a1]) ++ List.replicate (2 - (lg_sl ([.ref h0, .int a1])).length) Slot.unset).toArray = ls at hl ⊢
  have hl : lv_has ls 2 [(0, .ref h0), (1, .int a1)] := hl
  obtain ⟨H, hH⟩ : ∃ H : Heap, s.heap = H := ⟨_, rfl⟩
  rw [hH] at hP ⊢
  have hS : va_S A s.heap H [] := by rw [← hH]; exact va_S.rf
  obtain ⟨locs, hlo⟩ : ∃ locs : List Loc, locs = [] := ⟨_, rfl⟩
  rw [← hlo] at hS ⊢
  have hrs0 : ∀ j : Nat, zs[j]? = zs[j]? := fun _  => rfl
  unfold sp_tm_where at hsp
  refine lv_iload_n hx hb dX13_where_0 rfl (lv_at hl 1 rfl) ?_
  refine lv_if_ne (tgt := 11) hx hb dX13_where_1 (by decide) (fun c_1 => ?_) (fun c_1 => ?_)
  · rw [if_neg c_1] at hsp
    refine lv_iload_n hx hb dX13_where_11 rfl (lv_at hl 1 rfl) ?_
    refine lv_iconst (v := 1) hx hb dX13_where_12 (by decide) ?_
    refine lv_icmp_ne (tgt := 23) hx hb dX13_where_13 (by decide) (fun c_2 => ?_) (fun c_2 => ?_)
    · rw [if_neg c_2] at hsp
      refine lv_iload_n hx hb dX13_where_23 rfl (lv_at hl 1 rfl) ?_
      refine lv_iconst (v := 2) hx hb dX13_where_24 (by decide) ?_
      refine lv_icmp_ne (tgt := 35) hx hb dX13_where_25 (by decide) (fun c_3 => ?_) (fun c_3 => ?_)
      · rw [if_neg c_3] at hsp
        refine lv_iconst (v := (-1)) hx hb dX13_where_35 (by decide) ?_
        have hr0 := Option.some.inj hsp
        clear hsp
        subst hr0
        have hP9 := hP.sub (ws' := [(h0, .inr (13, zs))]) [0] rfl
        have hD9 := hD.sub (ws' := [(h0, .inr (13, zs))]) [0] (by decide) rfl
        have hK9 := hK.sub (tys' := []) [] rfl
        exact W.iret hx hb hr (fun t ht hW => ⟨⟨((-1)), (zs), rfl, ⟨rfl, hlen, hrs0⟩, by rw [ht]; exact hP9, va_K.moved hW.alike hK9, hD9⟩, hS.F ht⟩) hS.2.2 dX13_where_36
      · rw [if_pos c_3] at hsp
        refine lv_aload_n hx hb dX13_where_28 rfl (lv_at hl 0 rfl) ?_
        refine va_get (D := (dC, dI)) (ci := 13) (v := .int v125) (C := RX13) (T := TX13) (N := 155) hx hb hts uV_h5_X13 hown hK hP 0 rfl rfl 125 (by decide) (hts (.fieldLink RX13 264 "ClassMillModel" "whyPlace" "I") mw_h5_117) (fun _ h9 => h9) hf125 dX13_where_29 ?_
        refine lv_goto (tgt := 36) hx hb dX13_where_32 (by decide) ?_
        have hr0 := Option.some.inj hsp
        clear hsp
        subst hr0
        have hP9 := hP.sub (ws' := [(h0, .inr (13, zs))]) [0] rfl
        have hD9 := hD.sub (ws' := [(h0, .inr (13, zs))]) [0] (by decide) rfl
        have hK9 := hK.sub (tys' := []) [] rfl
        exact W.iret hx hb hr (fun t ht hW => ⟨⟨(v125), (zs), rfl, ⟨rfl, hlen, hrs0⟩, by rw [ht]; exact hP9, va_K.moved hW.alike hK9, hD9⟩, hS.F ht⟩) hS.2.2 dX13_where_36
    · rw [if_pos c_2] at hsp
      refine lv_aload_n hx hb dX13_where_16 rfl (lv_at hl 0 rfl) ?_
      refine va_get (D := (dC, dI)) (ci := 13) (v := .int v124) (C := RX13) (T := TX13) (N := 155) hx hb hts uV_h5_X13 hown hK hP 0 rfl rfl 124 (by decide) (hts (.fieldLink RX13 261 "ClassMillModel" "whyMethod" "I") mw_h5_116) (fun _ h9 => h9) hf124 dX13_where_17 ?_
      refine lv_goto (tgt := 36) hx hb dX13_where_20 (by decide) ?_
      have hr0 := Option.some.inj hsp
      clear hsp
      subst hr0
      have hP9 := hP.sub (ws' := [(h0, .inr (13, zs))]) [0] rfl
      have hD9 := hD.sub (ws' := [(h0, .inr (13, zs))]) [0] (by decide) rfl
      have hK9 := hK.sub (tys' := []) [] rfl
      exact W.iret hx hb hr (fun t ht hW => ⟨⟨(v124), (zs), rfl, ⟨rfl, hlen, hrs0⟩, by rw [ht]; exact hP9, va_K.moved hW.alike hK9, hD9⟩, hS.F ht⟩) hS.2.2 dX13_where_36
  · rw [if_pos c_1] at hsp
    refine lv_aload_n hx hb dX13_where_4 rfl (lv_at hl 0 rfl) ?_
    refine va_get (D := (dC, dI)) (ci := 13) (v := .int v123) (C := RX13) (T := TX13) (N := 155) hx hb hts uV_h5_X13 hown hK hP 0 rfl rfl 123 (by decide) (hts (.fieldLink RX13 257 "ClassMillModel" "whyClass" "I") mw_h5_115) (fun _ h9 => h9) hf123 dX13_where_5 ?_
    refine lv_goto (tgt := 36) hx hb dX13_where_8 (by decide) ?_
    have hr0 := Option.some.inj hsp
    clear hsp
    subst hr0
    have hP9 := hP.sub (ws' := [(h0, .inr (13, zs))]) [0] rfl
    have hD9 := hD.sub (ws' := [(h0, .inr (13, zs))]) [0] (by decide) rfl
    have hK9 := hK.sub (tys' := []) [] rfl
    exact W.iret hx hb hr (fun t ht hW => ⟨⟨(v123), (zs), rfl, ⟨rfl, hlen, hrs0⟩, by rw [ht]; exact hP9, va_K.moved hW.alike hK9, hD9⟩, hS.F ht⟩) hS.2.2 dX13_where_36
set_option maxRecDepth 100000 in
def sp_tm_widthOf (nf : Nat) (a1 : Int32) : Option (Int32) := (if 8 < a1 then (if a1 = 16 then (some 2) else (if a1 = 17 then (some 0) else (if a1 = 18 then (some 2) else (if a1 = 19 then (some 0) else (if a1 = 20 then (some 0) else (if a1 = 21 then (some 2) else (if a1 = 22 then (some 0) else (if a1 = 23 then (some 0) else (if a1 = 24 then (some 0) else (if a1 = 25 then (some 2) else (if a1 = 26 then (some 0) else (if a1 = 27 then (some 0) else (if a1 = 28 then (some 0) else (if a1 = 29 then (some 0) else (if a1 = 30 then (some 0) else (if a1 = 31 then (some 0) else (if a1 = 32 then (some 0) else (if a1 = 33 then (some 0) else (if a1 = 34 then (some 0) else (if a1 = 35 then (some 0) else (if a1 = 36 then (some 0) else (if a1 = 37 then (some 0) else (if a1 = 38 then (some 0) else (if a1 = 39 then (some 0) else (if a1 = 40 then (some 0) else (if a1 = 41 then (some 0) else (if a1 = 42 then (some 0) else (if a1 = 43 then (some 0) else (if a1 = 44 then (some 0) else (if a1 = 45 then (some 0) else (if a1 = 46 then (some 1) else (if a1 = 47 then (some 0) else (if a1 = 48 then (some 0) else (if a1 = 49 then (some 0) else (if a1 = 50 then (some 1) else (if a1 = 51 then (some 0) else (if a1 = 52 then (some 0) else (if a1 = 53 then (some 0) else (if a1 = 54 then (some 2) else (if a1 = 55 then (some 0) else (if a1 = 56 then (some 0) else (if a1 = 57 then (some 0) else (if a1 = 58 then (some 2) else (if a1 = 59 then (some 0) else (if a1 = 60 then (some 0) else (if a1 = 61 then (some 0) else (if a1 = 62 then (some 0) else (if a1 = 63 then (some 0) else (if a1 = 64 then (some 0) else (if a1 = 65 then (some 0) else (if a1 = 66 then (some 0) else (if a1 = 67 then (some 0) else (if a1 = 68 then (some 0) else (if a1 = 69 then (some 0) else (if a1 = 70 then (some 0) else (if a1 = 71 then (some 0) else (if a1 = 72 then (some 0) else (if a1 = 73 then (some 0) else (if a1 = 74 then (some 0) else (if a1 = 75 then (some 0) else (if a1 = 76 then (some 0) else (if a1 = 77 then (some 0) else (if a1 = 78 then (some 0) else (if a1 = 79 then (some 1) else (if a1 = 80 then (some 0) else (if a1 = 81 then (some 0) else (if a1 = 82 then (some 0) else (if a1 = 83 then (some 1) else (if a1 = 84 then (some 0) else (if a1 = 85 then (some 0) else (if a1 = 86 then (some 0) else (if a1 = 87 then (some 1) else (if a1 = 88 then (some 0) else (if a1 = 89 then (some 1) else (if a1 = 90 then (some 0) else (if a1 = 91 then (some 0) else (if a1 = 92 then (some 0) else (if a1 = 93 then (some 0) else (if a1 = 94 then (some 0) else (if a1 = 95 then (some 0) else (if a1 = 96 then (some 1) else (if a1 = 97 then (some 0) else (if a1 = 98 then (some 0) else (if a1 = 99 then (some 0) else (if a1 = 100 then (some 1) else (if a1 = 101 then (some 0) else (if a1 = 102 then (some 0) else (if a1 = 103 then (some 0) else (if a1 = 104 then (some 1) else (if a1 = 105 then (some 0) else (if a1 = 106 then (some 0) else (if a1 = 107 then (some 0) else (if a1 = 108 then (some 1) else (if a1 = 109 then (some 0) else (if a1 = 110 then (some 0) else (if a1 = 111 then (some 0) else (if a1 = 112 then (some 1) else (if a1 = 113 then (some 0) else (if a1 = 114 then (some 0) else (if a1 = 115 then (some 0) else (if a1 = 116 then (some 1) else (if a1 = 117 then (some 0) else (if a1 = 118 then (some 0) else (if a1 = 119 then (some 0) else (if a1 = 120 then (some 1) else (if a1 = 121 then (some 0) else (if a1 = 122 then (some 1) else (if a1 = 123 then (some 0) else (if a1 = 124 then (some 1) else (if a1 = 125 then (some 0) else (if a1 = 126 then (some 1) else (if a1 = 127 then (some 0) else (if a1 = 128 then (some 1) else (if a1 = 129 then (some 0) else (if a1 = 130 then (some 1) else (if a1 = 131 then (some 0) else (if a1 = 132 then (some 0) else (if a1 = 133 then (some 0) else (if a1 = 134 then (some 0) else (if a1 = 135 then (some 0) else (if a1 = 136 then (some 0) else (if a1 = 137 then (some 0) else (if a1 = 138 then (some 0) else (if a1 = 139 then (some 0) else (if a1 = 140 then (some 0) else (if a1 = 141 then (some 0) else (if a1 = 142 then (some 0) else (if a1 = 143 then (some 0) else (if a1 = 144 then (some 0) else (if a1 = 145 then (some 0) else (if a1 = 146 then (some 0) else (if a1 = 147 then (some 0) else (if a1 = 148 then (some 0) else (if a1 = 149 then (some 0) else (if a1 = 150 then (some 0) else (if a1 = 151 then (some 0) else (if a1 = 152 then (some 0) else (if a1 = 153 then (some 3) else (if a1 = 154 then (some 3) else (if a1 = 155 then (some 0) else (if a1 = 156 then (some 0) else (if a1 = 157 then (some 0) else (if a1 = 158 then (some 0) else (if a1 = 159 then (some 3) else (if a1 = 160 then (some 3) else (if a1 = 161 then (some 3) else (if a1 = 162 then (some 3) else (if a1 = 163 then (some 3) else (if a1 = 164 then (some 3) else (if a1 = 165 then (some 3) else (if a1 = 166 then (some 3) else (if a1 = 167 then (some 3) else (if a1 = 168 then (some 0) else (if a1 = 169 then (some 0) else (if a1 = 170 then (some 0) else (if a1 = 171 then (some 0) else (if a1 = 172 then (some 1) else (if a1 = 173 then (some 0) else (if a1 = 174 then (some 0) else (if a1 = 175 then (some 0) else (if a1 = 176 then (some 1) else (if a1 = 177 then (some 1) else (if a1 = 178 then (some 0) else (if a1 = 179 then (some 0) else (if a1 = 180 then (some 2) else (if a1 = 181 then (some 2) else (if a1 = 182 then (some 2) else (if a1 = 183 then (some 0) else (if a1 = 184 then (some 2) else (if a1 = 185 then (some 0) else (if a1 = 186 then (some 1) else (if a1 = 187 then (some 2) else (if a1 = 188 then (some 2) else (if a1 = 189 then (some 2) else (if a1 = 190 then (some 1) else (if a1 = 191 then (some 1) else (if a1 = 192 then (some 2) else (if a1 = 193 then (some 2) else (some 0))))))))))))))))))))))))))))))))))))))))))))))))))))))))))))))))))))))))))))))))))))))))))))))))))))))))))))))))))))))))))))))))))))))))))))))))))))))))))))))))))))))))))))))))))) else (some 1))
set_option maxHeartbeats 4000000 in
set_option maxRecDepth 100000 in
/-- ClassMillModel.widthOf -/
theorem tm_widthOf (l : Launch) (dC : Nat → ClassId) (dI : Nat → Nat → Nat) (sz : Nat) (a1 : Int32) (nf : Nat) (r0 : Int32) (hsp : sp_tm_widthOf nf a1 = some r0) : Met l yX13_widthOf (.code yX13_widthOf cX13_widthOf 1 (some .int) :: VS_h5) ({ frames := 0, cells := 0, slots := 0, locals := 0 }) (va_Pc [.int a1] (fun U => U.heap.size = sz ∧ va_P (dC, dI) vwCl [] U.heap ∧ va_K (dC, dI) vwCl [] U ∧ va_D (fun _ => True) [])) (va_Qi (fun (r : Int32) (u : Unit) => match u with | () => r0 = r) (fun (u : Unit) (t : State) => match u with | () => va_P (dC, dI) vwCl [] t.heap ∧ va_K (dC, dI) vwCl [] t ∧ va_D (va_A [] sz) []) (va_A [] sz)) 0 0 (va_A [] sz) := by
  refine Met.ofW (cc := cX13_widthOf) (maxL := 1) (ret := (some .int)) (by decide) rfl ?_
  intro p e s m args below meth c s₁ B hml hv
  obtain ⟨rfl, hsz, hP, hK, hD0⟩ := hv
  have hx := B.exec
  have hb := B.bytes
  have hr := B.returns
  have hts := atoms_spec (ws := (.code yX13_widthOf cX13_widthOf 1 (some .int) :: VS_h5)) B.pre
  replace hts := fun w (h : w ∈ VS_h5) => hts w (List.mem_cons_of_mem _ h)
  have hown : s.vm.findClass RX13 = some m.cls := findClass_of_methodNamed B.named
  have hlocks := B.notSynchronized
  subst hsz
  have hD := hD0.self (sz := s.heap.size)
  generalize hAe : va_A [] s.heap.size = A at hD  ⊢
  have hA : ∀ q : Nat, s.heap.size ≤ q → A q := fun q h => by rw [← hAe]; exact Or.inr h
  have hP : va_P (dC, dI) vwCl [] s.heap := hP
  have hl := lv_entry ([.int a1]) (n := 1) (Nat.le_of_ble_eq_true rfl)
  rw [lg_entry_eq]
  generalize (lg_sl ([.int a1]) ++ List.replicate (1 - (lg_sl ([.int a1])).length) Slot.unset).toArray = ls at hl ⊢
  have hl : lv_has ls 1 [(0, .int a1)] := hl
  obtain ⟨H, hH⟩ : ∃ H : Heap, s.heap = H := ⟨_, rfl⟩
  rw [hH] at hP ⊢
  have hS : va_S A s.heap H [] := by rw [← hH]; exact va_S.rf
  obtain ⟨locs, hlo⟩ : ∃ locs : List Loc, locs = [] := ⟨_, rfl⟩
  rw [← hlo] at hS ⊢
  unfold sp_tm_widthOf at hsp
  refine lv_iload_n hx hb dX13_widthOf_0 rfl (lv_at hl 0 rfl) ?_
  refine lv_bipush (v := 8) hx hb dX13_widthOf_1 (by decide) ?_
  refine lv_icmp_gt (tgt := 8) hx hb dX13_widthOf_3 (by decide) (fun c_1 => ?_) (fun c_1 => ?_)
  · rw [if_pos c_1] at hsp
    refine lv_iload_n hx hb dX13_widthOf_8 rfl (lv_at hl 0 rfl) ?_
    by_cases hs_2 : a1 = 16
    · rw [if_pos hs_2] at hsp
      refine lv_tableIn (tgt := 736) hx hb dX13_widthOf_9 (by rw [hs_2]; decide) (by rw [hs_2]; decide) (off := 727) (by rw [hs_2]; rfl) (by decide) ?_
      refine lv_iconst (v := 2) hx hb dX13_widthOf_736 (by decide) ?_
      have hr0 := Option.some.inj hsp
      clear hsp
      subst hr0
      have hP9 := hP.sub (ws' := []) [] rfl
      have hD9 := hD.sub (ws' := []) [] (by decide) rfl
      have hK9 := hK.sub (tys' := []) [] rfl
      exact W.iret hx hb hr (fun t ht hW => ⟨⟨(2), (), rfl, rfl, by rw [ht]; exact hP9, va_K.moved hW.alike hK9, hD9⟩, hS.F ht⟩) hS.2.2 dX13_widthOf_737
    rw [if_neg hs_2] at hsp
    by_cases hs_3 : a1 = 17
    · rw [if_pos hs_3] at hsp
      refine lv_tableIn (tgt := 742) hx hb dX13_widthOf_9 (by rw [hs_3]; decide) (by rw [hs_3]; decide) (off := 733) (by rw [hs_3]; rfl) (by decide) ?_
      refine lv_iconst (v := 0) hx hb dX13_widthOf_742 (by decide) ?_
      have hr0 := Option.some.inj hsp
      clear hsp
      subst hr0
      have hP9 := hP.sub (ws' := []) [] rfl
      have hD9 := hD.sub (ws' := []) [] (by decide) rfl
      have hK9 := hK.sub (tys' := []) [] rfl
      exact W.iret hx hb hr (fun t ht hW => ⟨⟨(0), (), rfl, rfl, by rw [ht]; exact hP9, va_K.moved hW.alike hK9, hD9⟩, hS.F ht⟩) hS.2.2 dX13_widthOf_743
    rw [if_neg hs_3] at hsp
    by_cases hs_4 : a1 = 18
    · rw [if_pos hs_4] at hsp
      refine lv_tableIn (tgt := 736) hx hb dX13_widthOf_9 (by rw [hs_4]; decide) (by rw [hs_4]; decide) (off := 727) (by rw [hs_4]; rfl) (by decide) ?_
      refine lv_iconst (v := 2) hx hb dX13_widthOf_736 (by decide) ?_
      have hr0 := Option.some.inj hsp
      clear hsp
      subst hr0
      have hP9 := hP.sub (ws' := []) [] rfl
      have hD9 := hD.sub (ws' := []) [] (by decide) rfl
      have hK9 := hK.sub (tys' := []) [] rfl
      exact W.iret hx hb hr (fun t ht hW => ⟨⟨(2), (), rfl, rfl, by rw [ht]; exact hP9, va_K.moved hW.alike hK9, hD9⟩, hS.F ht⟩) hS.2.2 dX13_widthOf_737
    rw [if_neg hs_4] at hsp
    by_cases hs_5 : a1 = 19
    · rw [if_pos hs_5] at hsp
      refine lv_tableIn (tgt := 742) hx hb dX13_widthOf_9 (by rw [hs_5]; decide) (by rw [hs_5]; decide) (off := 733) (by rw [hs_5]; rfl) (by decide) ?_
      refine lv_iconst (v := 0) hx hb dX13_widthOf_742 (by decide) ?_
      have hr0 := Option.some.inj hsp
      clear hsp
      subst hr0
      have hP9 := hP.sub (ws' := []) [] rfl
      have hD9 := hD.sub (ws' := []) [] (by decide) rfl
      have hK9 := hK.sub (tys' := []) [] rfl
      exact W.iret hx hb hr (fun t ht hW => ⟨⟨(0), (), rfl, rfl, by rw [ht]; exact hP9, va_K.moved hW.alike hK9, hD9⟩, hS.F ht⟩) hS.2.2 dX13_widthOf_743
    rw [if_neg hs_5] at hsp
    by_cases hs_6 : a1 = 20
    · rw [if_pos hs_6] at hsp
      refine lv_tableIn (tgt := 742) hx hb dX13_widthOf_9 (by rw [hs_6]; decide) (by rw [hs_6]; decide) (off := 733) (by rw [hs_6]; rfl) (by decide) ?_
      refine lv_iconst (v := 0) hx hb dX13_widthOf_742 (by decide) ?_
      have hr0 := Option.some.inj hsp
      clear hsp
      subst hr0
      have hP9 := hP.sub (ws' := []) [] rfl
      have hD9 := hD.sub (ws' := []) [] (by decide) rfl
      have hK9 := hK.sub (tys' := []) [] rfl
      exact W.iret hx hb hr (fun t ht hW => ⟨⟨(0), (), rfl, rfl, by rw [ht]; exact hP9, va_K.moved hW.alike hK9, hD9⟩, hS.F ht⟩) hS.2.2 dX13_widthOf_743
    rw [if_neg hs_6] at hsp
    by_cases hs_7 : a1 = 21
    · rw [if_pos hs_7] at hsp
      refine lv_tableIn (tgt := 736) hx hb dX13_widthOf_9 (by rw [hs_7]; decide) (by rw [hs_7]; decide) (off := 727) (by rw [hs_7]; rfl) (by decide) ?_
      refine lv_iconst (v := 2) hx hb dX13_widthOf_736 (by decide) ?_
      have hr0 := Option.some.inj hsp
      clear hsp
      subst hr0
      have hP9 := hP.sub (ws' := []) [] rfl
      have hD9 := hD.sub (ws' := []) [] (by decide) rfl
      have hK9 := hK.sub (tys' := []) [] rfl
      exact W.iret hx hb hr (fun t ht hW => ⟨⟨(2), (), rfl, rfl, by rw [ht]; exact hP9, va_K.moved hW.alike hK9, hD9⟩, hS.F ht⟩) hS.2.2 dX13_widthOf_737
    rw [if_neg hs_7] at hsp
    by_cases hs_8 : a1 = 22
    · rw [if_pos hs_8] at hsp
      refine lv_tableIn (tgt := 742) hx hb dX13_widthOf_9 (by rw [hs_8]; decide) (by rw [hs_8]; decide) (off := 733) (by rw [hs_8]; rfl) (by decide) ?_
      refine lv_iconst (v := 0) hx hb dX13_widthOf_742 (by decide) ?_
      have hr0 := Option.some.inj hsp
      clear hsp
      subst hr0
      have hP9 := hP.sub (ws' := []) [] rfl
      have hD9 := hD.sub (ws' := []) [] (by decide) rfl
      have hK9 := hK.sub (tys' := []) [] rfl
      exact W.iret hx hb hr (fun t ht hW => ⟨⟨(0), (), rfl, rfl, by rw [ht]; exact hP9, va_K.moved hW.alike hK9, hD9⟩, hS.F ht⟩) hS.2.2 dX13_widthOf_743
    rw [if_neg hs_8] at hsp
    by_cases hs_9 : a1 = 23
    · rw [if_pos hs_9] at hsp
      refine lv_tableIn (tgt := 742) hx hb dX13_widthOf_9 (by rw [hs_9]; decide) (by rw [hs_9]; decide) (off := 733) (by rw [hs_9]; rfl) (by decide) ?_
      refine lv_iconst (v := 0) hx hb dX13_widthOf_742 (by decide) ?_
      have hr0 := Option.some.inj hsp
      clear hsp
      subst hr0
      have hP9 := hP.sub (ws' := []) [] rfl
      have hD9 := hD.sub (ws' := []) [] (by decide) rfl
      have hK9 := hK.sub (tys' := []) [] rfl
      exact W.iret hx hb hr (fun t ht hW => ⟨⟨(0), (), rfl, rfl, by rw [ht]; exact hP9, va_K.moved hW.alike hK9, hD9⟩, hS.F ht⟩) hS.2.2 dX13_widthOf_743
    rw [if_neg hs_9] at hsp
    by_cases hs_10 : a1 = 24
    · rw [if_pos hs_10] at hsp
      refine lv_tableIn (tgt := 742) hx hb dX13_widthOf_9 (by rw [hs_10]; decide) (by rw [hs_10]; decide) (off := 733) (by rw [hs_10]; rfl) (by decide) ?_
      refine lv_iconst (v := 0) hx hb dX13_widthOf_742 (by decide) ?_
      have hr0 := Option.some.inj hsp
      clear hsp
      subst hr0
      have hP9 := hP.sub (ws' := []) [] rfl
      have hD9 := hD.sub (ws' := []) [] (by decide) rfl
      have hK9 := hK.sub (tys' := []) [] rfl
      exact W.iret hx hb hr (fun t ht hW => ⟨⟨(0), (), rfl, rfl, by rw [ht]; exact hP9, va_K.moved hW.alike hK9, hD9⟩, hS.F ht⟩) hS.2.2 dX13_widthOf_743
    rw [if_neg hs_10] at hsp
    by_cases hs_11 : a1 = 25
    · rw [if_pos hs_11] at hsp
      refine lv_tableIn (tgt := 736) hx hb dX13_widthOf_9 (by rw [hs_11]; decide) (by rw [hs_11]; decide) (off := 727) (by rw [hs_11]; rfl) (by decide) ?_
      refine lv_iconst (v := 2) hx hb dX13_widthOf_736 (by decide) ?_
      have hr0 := Option.some.inj hsp
      clear hsp
      subst hr0
      have hP9 := hP.sub (ws' := []) [] rfl
      have hD9 := hD.sub (ws' := []) [] (by decide) rfl
      have hK9 := hK.sub (tys' := []) [] rfl
      exact W.iret hx hb hr (fun t ht hW => ⟨⟨(2), (), rfl, rfl, by rw [ht]; exact hP9, va_K.moved hW.alike hK9, hD9⟩, hS.F ht⟩) hS.2.2 dX13_widthOf_737
    rw [if_neg hs_11] at hsp
    by_cases hs_12 : a1 = 26
    · rw [if_pos hs_12] at hsp
      refine lv_tableIn (tgt := 742) hx hb dX13_widthOf_9 (by rw [hs_12]; decide) (by rw [hs_12]; decide) (off := 733) (by rw [hs_12]; rfl) (by decide) ?_
      refine lv_iconst (v := 0) hx hb dX13_widthOf_742 (by decide) ?_
      have hr0 := Option.some.inj hsp
      clear hsp
      subst hr0
      have hP9 := hP.sub (ws' := []) [] rfl
      have hD9 := hD.sub (ws' := []) [] (by decide) rfl
      have hK9 := hK.sub (tys' := []) [] rfl
      exact W.iret hx hb hr (fun t ht hW => ⟨⟨(0), (), rfl, rfl, by rw [ht]; exact hP9, va_K.moved hW.alike hK9, hD9⟩, hS.F ht⟩) hS.2.2 dX13_widthOf_743
    rw [if_neg hs_12] at hsp
    by_cases hs_13 : a1 = 27
    · rw [if_pos hs_13] at hsp
      refine lv_tableIn (tgt := 742) hx hb dX13_widthOf_9 (by rw [hs_13]; decide) (by rw [hs_13]; decide) (off := 733) (by rw [hs_13]; rfl) (by decide) ?_
      refine lv_iconst (v := 0) hx hb dX13_widthOf_742 (by decide) ?_
      have hr0 := Option.some.inj hsp
      clear hsp
      subst hr0
      have hP9 := hP.sub (ws' := []) [] rfl
      have hD9 := hD.sub (ws' := []) [] (by decide) rfl
      have hK9 := hK.sub (tys' := []) [] rfl
      exact W.iret hx hb hr (fun t ht hW => ⟨⟨(0), (), rfl, rfl, by rw [ht]; exact hP9, va_K.moved hW.alike hK9, hD9⟩, hS.F ht⟩) hS.2.2 dX13_widthOf_743
    rw [if_neg hs_13] at hsp
    by_cases hs_14 : a1 = 28
    · rw [if_pos hs_14] at hsp
      refine lv_tableIn (tgt := 742) hx hb dX13_widthOf_9 (by rw [hs_14]; decide) (by rw [hs_14]; decide) (off := 733) (by rw [hs_14]; rfl) (by decide) ?_
      refine lv_iconst (v := 0) hx hb dX13_widthOf_742 (by decide) ?_
      have hr0 := Option.some.inj hsp
      clear hsp
      subst hr0
      have hP9 := hP.sub (ws' := []) [] rfl
      have hD9 := hD.sub (ws' := []) [] (by decide) rfl
      have hK9 := hK.sub (tys' := []) [] rfl
      exact W.iret hx hb hr (fun t ht hW => ⟨⟨(0), (), rfl, rfl, by rw [ht]; exact hP9, va_K.moved hW.alike hK9, hD9⟩, hS.F ht⟩) hS.2.2 dX13_widthOf_743
    rw [if_neg hs_14] at hsp
    by_cases hs_15 : a1 = 29
    · rw [if_pos hs_15] at hsp
      refine lv_tableIn (tgt := 742) hx hb dX13_widthOf_9 (by rw [hs_15]; decide) (by rw [hs_15]; decide) (off := 733) (by rw [hs_15]; rfl) (by decide) ?_
      refine lv_iconst (v := 0) hx hb dX13_widthOf_742 (by decide) ?_
      have hr0 := Option.some.inj hsp
      clear hsp
      subst hr0
      have hP9 := hP.sub (ws' := []) [] rfl
      have hD9 := hD.sub (ws' := []) [] (by decide) rfl
      have hK9 := hK.sub (tys' := []) [] rfl
      exact W.iret hx hb hr (fun t ht hW => ⟨⟨(0), (), rfl, rfl, by rw [ht]; exact hP9, va_K.moved hW.alike hK9, hD9⟩, hS.F ht⟩) hS.2.2 dX13_widthOf_743
    rw [if_neg hs_15] at hsp
    by_cases hs_16 : a1 = 30
    · rw [if_pos hs_16] at hsp
      refine lv_tableIn (tgt := 742) hx hb dX13_widthOf_9 (by rw [hs_16]; decide) (by rw [hs_16]; decide) (off := 733) (by rw [hs_16]; rfl) (by decide) ?_
      refine lv_iconst (v := 0) hx hb dX13_widthOf_742 (by decide) ?_
      have hr0 := Option.some.inj hsp
      clear hsp
      subst hr0
      have hP9 := hP.sub (ws' := []) [] rfl
      have hD9 := hD.sub (ws' := []) [] (by decide) rfl
      have hK9 := hK.sub (tys' := []) [] rfl
      exact W.iret hx hb hr (fun t ht hW => ⟨⟨(0), (), rfl, rfl, by rw [ht]; exact hP9, va_K.moved hW.alike hK9, hD9⟩, hS.F ht⟩) hS.2.2 dX13_widthOf_743
    rw [if_neg hs_16] at hsp
    by_cases hs_17 : a1 = 31
    · rw [if_pos hs_17] at hsp
      refine lv_tableIn (tgt := 742) hx hb dX13_widthOf_9 (by rw [hs_17]; decide) (by rw [hs_17]; decide) (off := 733) (by rw [hs_17]; rfl) (by decide) ?_
      refine lv_iconst (v := 0) hx hb dX13_widthOf_742 (by decide) ?_
      have hr0 := Option.some.inj hsp
      clear hsp
      subst hr0
      have hP9 := hP.sub (ws' := []) [] rfl
      have hD9 := hD.sub (ws' := []) [] (by decide) rfl
      have hK9 := hK.sub (tys' := []) [] rfl
      exact W.iret hx hb hr (fun t ht hW => ⟨⟨(0), (), rfl, rfl, by rw [ht]; exact hP9, va_K.moved hW.alike hK9, hD9⟩, hS.F ht⟩) hS.2.2 dX13_widthOf_743
    rw [if_neg hs_17] at hsp
    by_cases hs_18 : a1 = 32
    · rw [if_pos hs_18] at hsp
      refine lv_tableIn (tgt := 742) hx hb dX13_widthOf_9 (by rw [hs_18]; decide) (by rw [hs_18]; decide) (off := 733) (by rw [hs_18]; rfl) (by decide) ?_
      refine lv_iconst (v := 0) hx hb dX13_widthOf_742 (by decide) ?_
      have hr0 := Option.some.inj hsp
      clear hsp
      subst hr0
      have hP9 := hP.sub (ws' := []) [] rfl
      have hD9 := hD.sub (ws' := []) [] (by decide) rfl
      have hK9 := hK.sub (tys' := []) [] rfl
      exact W.iret hx hb hr (fun t ht hW => ⟨⟨(0), (), rfl, rfl, by rw [ht]; exact hP9, va_K.moved hW.alike hK9, hD9⟩, hS.F ht⟩) hS.2.2 dX13_widthOf_743
    rw [if_neg hs_18] at hsp
    by_cases hs_19 : a1 = 33
    · rw [if_pos hs_19] at hsp
      refine lv_tableIn (tgt := 742) hx hb dX13_widthOf_9 (by rw [hs_19]; decide) (by rw [hs_19]; decide) (off := 733) (by rw [hs_19]; rfl) (by decide) ?_
      refine lv_iconst (v := 0) hx hb dX13_widthOf_742 (by decide) ?_
      have hr0 := Option.some.inj hsp
      clear hsp
      subst hr0
      have hP9 := hP.sub (ws' := []) [] rfl
      have hD9 := hD.sub (ws' := []) [] (by decide) rfl
      have hK9 := hK.sub (tys' := []) [] rfl
      exact W.iret hx hb hr (fun t ht hW => ⟨⟨(0), (), rfl, rfl, by rw [ht]; exact hP9, va_K.moved hW.alike hK9, hD9⟩, hS.F ht⟩) hS.2.2 dX13_widthOf_743
    rw [if_neg hs_19] at hsp
    by_cases hs_20 : a1 = 34
    · rw [if_pos hs_20] at hsp
      refine lv_tableIn (tgt := 742) hx hb dX13_widthOf_9 (by rw [hs_20]; decide) (by rw [hs_20]; decide) (off := 733) (by rw [hs_20]; rfl) (by decide) ?_
      refine lv_iconst (v := 0) hx hb dX13_widthOf_742 (by decide) ?_
      have hr0 := Option.some.inj hsp
      clear hsp
      subst hr0
      have hP9 := hP.sub (ws' := []) [] rfl
      have hD9 := hD.sub (ws' := []) [] (by decide) rfl
      have hK9 := hK.sub (tys' := []) [] rfl
      exact W.iret hx hb hr (fun t ht hW => ⟨⟨(0), (), rfl, rfl, by rw [ht]; exact hP9, va_K.moved hW.alike hK9, hD9⟩, hS.F ht⟩) hS.2.2 dX13_widthOf_743
    rw [if_neg hs_20] at hsp
    by_cases hs_21 : a1 = 35
    · rw [if_pos hs_21] at hsp
      refine lv_tableIn (tgt := 742) hx hb dX13_widthOf_9 (by rw [hs_21]; decide) (by rw [hs_21]; decide) (off := 733) (by rw [hs_21]; rfl) (by decide) ?_
      refine lv_iconst (v := 0) hx hb dX13_widthOf_742 (by decide) ?_
      have hr0 := Option.some.inj hsp
      clear hsp
      subst hr0
      have hP9 := hP.sub (ws' := []) [] rfl
      have hD9 := hD.sub (ws' := []) [] (by decide) rfl
      have hK9 := hK.sub (tys' := []) [] rfl
      exact W.iret hx hb hr (fun t ht hW => ⟨⟨(0), (), rfl, rfl, by rw [ht]; exact hP9, va_K.moved hW.alike hK9, hD9⟩, hS.F ht⟩) hS.2.2 dX13_widthOf_743
    rw [if_neg hs_21] at hsp
    by_cases hs_22 : a1 = 36
    · rw [if_pos hs_22] at hsp
      refine lv_tableIn (tgt := 742) hx hb dX13_widthOf_9 (by rw [hs_22]; decide) (by rw [hs_22]; decide) (off := 733) (by rw [hs_22]; rfl) (by decide) ?_
      refine lv_iconst (v := 0) hx hb dX13_widthOf_742 (by decide) ?_
      have hr0 := Option.some.inj hsp
      clear hsp
      subst hr0
      have hP9 := hP.sub (ws' := []) [] rfl
      have hD9 := hD.sub (ws' := []) [] (by decide) rfl
      have hK9 := hK.sub (tys' := []) [] rfl
      exact W.iret hx hb hr (fun t ht hW => ⟨⟨(0), (), rfl, rfl, by rw [ht]; exact hP9, va_K.moved hW.alike hK9, hD9⟩, hS.F ht⟩) hS.2.2 dX13_widthOf_743
    rw [if_neg hs_22] at hsp
    by_cases hs_23 : a1 = 37
    · rw [if_pos hs_23] at hsp
      refine lv_tableIn (tgt := 742) hx hb dX13_widthOf_9 (by rw [hs_23]; decide) (by rw [hs_23]; decide) (off := 733) (by rw [hs_23]; rfl) (by decide) ?_
      refine lv_iconst (v := 0) hx hb dX13_widthOf_742 (by decide) ?_
      have hr0 := Option.some.inj hsp
      clear hsp
      subst hr0
      have hP9 := hP.sub (ws' := []) [] rfl
      have hD9 := hD.sub (ws' := []) [] (by decide) rfl
      have hK9 := hK.sub (tys' := []) [] rfl
      exact W.iret hx hb hr (fun t ht hW => ⟨⟨(0), (), rfl, rfl, by rw [ht]; exact hP9, va_K.moved hW.alike hK9, hD9⟩, hS.F ht⟩) hS.2.2 dX13_widthOf_743
    rw [if_neg hs_23] at hsp
    by_cases hs_24 : a1 = 38
    · rw [if_pos hs_24] at hsp
      refine lv_tableIn (tgt := 742) hx hb dX13_widthOf_9 (by rw [hs_24]; decide) (by rw [hs_24]; decide) (off := 733) (by rw [hs_24]; rfl) (by decide) ?_
      refine lv_iconst (v := 0) hx hb dX13_widthOf_742 (by decide) ?_
      have hr0 := Option.some.inj hsp
      clear hsp
      subst hr0
      have hP9 := hP.sub (ws' := []) [] rfl
      have hD9 := hD.sub (ws' := []) [] (by decide) rfl
      have hK9 := hK.sub (tys' := []) [] rfl
      exact W.iret hx hb hr (fun t ht hW => ⟨⟨(0), (), rfl, rfl, by rw [ht]; exact hP9, va_K.moved hW.alike hK9, hD9⟩, hS.F ht⟩) hS.2.2 dX13_widthOf_743
    rw [if_neg hs_24] at hsp
    by_cases hs_25 : a1 = 39
    · rw [if_pos hs_25] at hsp
      refine lv_tableIn (tgt := 742) hx hb dX13_widthOf_9 (by rw [hs_25]; decide) (by rw [hs_25]; decide) (off := 733) (by rw [hs_25]; rfl) (by decide) ?_
      refine lv_iconst (v := 0) hx hb dX13_widthOf_742 (by decide) ?_
      have hr0 := Option.some.inj hsp
      clear hsp
      subst hr0
      have hP9 := hP.sub (ws' := []) [] rfl
      have hD9 := hD.sub (ws' := []) [] (by decide) rfl
      have hK9 := hK.sub (tys' := []) [] rfl
      exact W.iret hx hb hr (fun t ht hW => ⟨⟨(0), (), rfl, rfl, by rw [ht]; exact hP9, va_K.moved hW.alike hK9, hD9⟩, hS.F ht⟩) hS.2.2 dX13_widthOf_743
    rw [if_neg hs_25] at hsp
    by_cases hs_26 : a1 = 40
    · rw [if_pos hs_26] at hsp
      refine lv_tableIn (tgt := 742) hx hb dX13_widthOf_9 (by rw [hs_26]; decide) (by rw [hs_26]; decide) (off := 733) (by rw [hs_26]; rfl) (by decide) ?_
      refine lv_iconst (v := 0) hx hb dX13_widthOf_742 (by decide) ?_
      have hr0 := Option.some.inj hsp
      clear hsp
      subst hr0
      have hP9 := hP.sub (ws' := []) [] rfl
      have hD9 := hD.sub (ws' := []) [] (by decide) rfl
      have hK9 := hK.sub (tys' := []) [] rfl
      exact W.iret hx hb hr (fun t ht hW => ⟨⟨(0), (), rfl, rfl, by rw [ht]; exact hP9, va_K.moved hW.alike hK9, hD9⟩, hS.F ht⟩) hS.2.2 dX13_widthOf_743
    rw [if_neg hs_26] at hsp
    by_cases hs_27 : a1 = 41
    · rw [if_pos hs_27] at hsp
      refine lv_tableIn (tgt := 742) hx hb dX13_widthOf_9 (by rw [hs_27]; decide) (by rw [hs_27]; decide) (off := 733) (by rw [hs_27]; rfl) (by decide) ?_
      refine lv_iconst (v := 0) hx hb dX13_widthOf_742 (by decide) ?_
      have hr0 := Option.some.inj hsp
      clear hsp
      subst hr0
      have hP9 := hP.sub (ws' := []) [] rfl
      have hD9 := hD.sub (ws' := []) [] (by decide) rfl
      have hK9 := hK.sub (tys' := []) [] rfl
      exact W.iret hx hb hr (fun t ht hW => ⟨⟨(0), (), rfl, rfl, by rw [ht]; exact hP9, va_K.moved hW.alike hK9, hD9⟩, hS.F ht⟩) hS.2.2 dX13_widthOf_743
    rw [if_neg hs_27] at hsp
    by_cases hs_28 : a1 = 42
    · rw [if_pos hs_28] at hsp
      refine lv_tableIn (tgt := 742) hx hb dX13_widthOf_9 (by rw [hs_28]; decide) (by rw [hs_28]; decide) (off := 733) (by rw [hs_28]; rfl) (by decide) ?_
      refine lv_iconst (v := 0) hx hb dX13_widthOf_742 (by decide) ?_
      have hr0 := Option.some.inj hsp
      clear hsp
      subst hr0
      have hP9 := hP.sub (ws' := []) [] rfl
      have hD9 := hD.sub (ws' := []) [] (by decide) rfl
      have hK9 := hK.sub (tys' := []) [] rfl
      exact W.iret hx hb hr (fun t ht hW => ⟨⟨(0), (), rfl, rfl, by rw [ht]; exact hP9, va_K.moved hW.alike hK9, hD9⟩, hS.F ht⟩) hS.2.2 dX13_widthOf_743
    rw [if_neg hs_28] at hsp
    by_cases hs_29 : a1 = 43
    · rw [if_pos hs_29] at hsp
      refine lv_tableIn (tgt := 742) hx hb dX13_widthOf_9 (by rw [hs_29]; decide) (by rw [hs_29]; decide) (off := 733) (by rw [hs_29]; rfl) (by decide) ?_
      refine lv_iconst (v := 0) hx hb dX13_widthOf_742 (by decide) ?_
      have hr0 := Option.some.inj hsp
      clear hsp
      subst hr0
      have hP9 := hP.sub (ws' := []) [] rfl
      have hD9 := hD.sub (ws' := []) [] (by decide) rfl
      have hK9 := hK.sub (tys' := []) [] rfl
      exact W.iret hx hb hr (fun t ht hW => ⟨⟨(0), (), rfl, rfl, by rw [ht]; exact hP9, va_K.moved hW.alike hK9, hD9⟩, hS.F ht⟩) hS.2.2 dX13_widthOf_743
    rw [if_neg hs_29] at hsp
    by_cases hs_30 : a1 = 44
    · rw [if_pos hs_30] at hsp
      refine lv_tableIn (tgt := 742) hx hb dX13_widthOf_9 (by rw [hs_30]; decide) (by rw [hs_30]; decide) (off := 733) (by rw [hs_30]; rfl) (by decide) ?_
      refine lv_iconst (v := 0) hx hb dX13_widthOf_742 (by decide) ?_
      have hr0 := Option.some.inj hsp
      clear hsp
      subst hr0
      have hP9 := hP.sub (ws' := []) [] rfl
      have hD9 := hD.sub (ws' := []) [] (by decide) rfl
      have hK9 := hK.sub (tys' := []) [] rfl
      exact W.iret hx hb hr (fun t ht hW => ⟨⟨(0), (), rfl, rfl, by rw [ht]; exact hP9, va_K.moved hW.alike hK9, hD9⟩, hS.F ht⟩) hS.2.2 dX13_widthOf_743
    rw [if_neg hs_30] at hsp
    by_cases hs_31 : a1 = 45
    · rw [if_pos hs_31] at hsp
      refine lv_tableIn (tgt := 742) hx hb dX13_widthOf_9 (by rw [hs_31]; decide) (by rw [hs_31]; decide) (off := 733) (by rw [hs_31]; rfl) (by decide) ?_
      refine lv_iconst (v := 0) hx hb dX13_widthOf_742 (by decide) ?_
      have hr0 := Option.some.inj hsp
      clear hsp
      subst hr0
      have hP9 := hP.sub (ws' := []) [] rfl
      have hD9 := hD.sub (ws' := []) [] (by decide) rfl
      have hK9 := hK.sub (tys' := []) [] rfl
      exact W.iret hx hb hr (fun t ht hW => ⟨⟨(0), (), rfl, rfl, by rw [ht]; exact hP9, va_K.moved hW.alike hK9, hD9⟩, hS.F ht⟩) hS.2.2 dX13_widthOf_743
    rw [if_neg hs_31] at hsp
    by_cases hs_32 : a1 = 46
    · rw [if_pos hs_32] at hsp
      refine lv_tableIn (tgt := 738) hx hb dX13_widthOf_9 (by rw [hs_32]; decide) (by rw [hs_32]; decide) (off := 729) (by rw [hs_32]; rfl) (by decide) ?_
      refine lv_iconst (v := 1) hx hb dX13_widthOf_738 (by decide) ?_
      have hr0 := Option.some.inj hsp
      clear hsp
      subst hr0
      have hP9 := hP.sub (ws' := []) [] rfl
      have hD9 := hD.sub (ws' := []) [] (by decide) rfl
      have hK9 := hK.sub (tys' := []) [] rfl
      exact W.iret hx hb hr (fun t ht hW => ⟨⟨(1), (), rfl, rfl, by rw [ht]; exact hP9, va_K.moved hW.alike hK9, hD9⟩, hS.F ht⟩) hS.2.2 dX13_widthOf_739
    rw [if_neg hs_32] at hsp
    by_cases hs_33 : a1 = 47
    · rw [if_pos hs_33] at hsp
      refine lv_tableIn (tgt := 742) hx hb dX13_widthOf_9 (by rw [hs_33]; decide) (by rw [hs_33]; decide) (off := 733) (by rw [hs_33]; rfl) (by decide) ?_
      refine lv_iconst (v := 0) hx hb dX13_widthOf_742 (by decide) ?_
      have hr0 := Option.some.inj hsp
      clear hsp
      subst hr0
      have hP9 := hP.sub (ws' := []) [] rfl
      have hD9 := hD.sub (ws' := []) [] (by decide) rfl
      have hK9 := hK.sub (tys' := []) [] rfl
      exact W.iret hx hb hr (fun t ht hW => ⟨⟨(0), (), rfl, rfl, by rw [ht]; exact hP9, va_K.moved hW.alike hK9, hD9⟩, hS.F ht⟩) hS.2.2 dX13_widthOf_743
    rw [if_neg hs_33] at hsp
    by_cases hs_34 : a1 = 48
    · rw [if_pos hs_34] at hsp
      refine lv_tableIn (tgt := 742) hx hb dX13_widthOf_9 (by rw [hs_34]; decide) (by rw [hs_34]; decide) (off := 733) (by rw [hs_34]; rfl) (by decide) ?_
      refine lv_iconst (v := 0) hx hb dX13_widthOf_742 (by decide) ?_
      have hr0 := Option.some.inj hsp
      clear hsp
      subst hr0
      have hP9 := hP.sub (ws' := []) [] rfl
      have hD9 := hD.sub (ws' := []) [] (by decide) rfl
      have hK9 := hK.sub (tys' := []) [] rfl
      exact W.iret hx hb hr (fun t ht hW => ⟨⟨(0), (), rfl, rfl, by rw [ht]; exact hP9, va_K.moved hW.alike hK9, hD9⟩, hS.F ht⟩) hS.2.2 dX13_widthOf_743
    rw [if_neg hs_34] at hsp
    by_cases hs_35 : a1 = 49
    · rw [if_pos hs_35] at hsp
      refine lv_tableIn (tgt := 742) hx hb dX13_widthOf_9 (by rw [hs_35]; decide) (by rw [hs_35]; decide) (off := 733) (by rw [hs_35]; rfl) (by decide) ?_
      refine lv_iconst (v := 0) hx hb dX13_widthOf_742 (by decide) ?_
      have hr0 := Option.some.inj hsp
      clear hsp
      subst hr0
      have hP9 := hP.sub (ws' := []) [] rfl
      have hD9 := hD.sub (ws' := []) [] (by decide) rfl
      have hK9 := hK.sub (tys' := []) [] rfl
      exact W.iret hx hb hr (fun t ht hW => ⟨⟨(0), (), rfl, rfl, by rw [ht]; exact hP9, va_K.moved hW.alike hK9, hD9⟩, hS.F ht⟩) hS.2.2 dX13_widthOf_743
    rw [if_neg hs_35] at hsp
    by_cases hs_36 : a1 = 50
    · rw [if_pos hs_36] at hsp
      refine lv_tableIn (tgt := 738) hx hb dX13_widthOf_9 (by rw [hs_36]; decide) (by rw [hs_36]; decide) (off := 729) (by rw [hs_36]; rfl) (by decide) ?_
      refine lv_iconst (v := 1) hx hb dX13_widthOf_738 (by decide) ?_
      have hr0 := Option.some.inj hsp
      clear hsp
      subst hr0
      have hP9 := hP.sub (ws' := []) [] rfl
      have hD9 := hD.sub (ws' := []) [] (by decide) rfl
      have hK9 := hK.sub (tys' := []) [] rfl
      exact W.iret hx hb hr (fun t ht hW => ⟨⟨(1), (), rfl, rfl, by rw [ht]; exact hP9, va_K.moved hW.alike hK9, hD9⟩, hS.F ht⟩) hS.2.2 dX13_widthOf_739
    rw [if_neg hs_36] at hsp
    by_cases hs_37 : a1 = 51
    · rw [if_pos hs_37] at hsp
      refine lv_tableIn (tgt := 742) hx hb dX13_widthOf_9 (by rw [hs_37]; decide) (by rw [hs_37]; decide) (off := 733) (by rw [hs_37]; rfl) (by decide) ?_
      refine lv_iconst (v := 0) hx hb dX13_widthOf_742 (by decide) ?_
      have hr0 := Option.some.inj hsp
      clear hsp
      subst hr0
      have hP9 := hP.sub (ws' := []) [] rfl
      have hD9 := hD.sub (ws' := []) [] (by decide) rfl
      have hK9 := hK.sub (tys' := []) [] rfl
      exact W.iret hx hb hr (fun t ht hW => ⟨⟨(0), (), rfl, rfl, by rw [ht]; exact hP9, va_K.moved hW.alike hK9, hD9⟩, hS.F ht⟩) hS.2.2 dX13_widthOf_743
    rw [if_neg hs_37] at hsp
    by_cases hs_38 : a1 = 52
    · rw [if_pos hs_38] at hsp
      refine lv_tableIn (tgt := 742) hx hb dX13_widthOf_9 (by rw [hs_38]; decide) (by rw [hs_38]; decide) (off := 733) (by rw [hs_38]; rfl) (by decide) ?_
      refine lv_iconst (v := 0) hx hb dX13_widthOf_742 (by decide) ?_
      have hr0 := Option.some.inj hsp
      clear hsp
      subst hr0
      have hP9 := hP.sub (ws' := []) [] rfl
      have hD9 := hD.sub (ws' := []) [] (by decide) rfl
      have hK9 := hK.sub (tys' := []) [] rfl
      exact W.iret hx hb hr (fun t ht hW => ⟨⟨(0), (), rfl, rfl, by rw [ht]; exact hP9, va_K.moved hW.alike hK9, hD9⟩, hS.F ht⟩) hS.2.2 dX13_widthOf_743
    rw [if_neg hs_38] at hsp
    by_cases hs_39 : a1 = 53
    · rw [if_pos hs_39] at hsp
      refine lv_tableIn (tgt := 742) hx hb dX13_widthOf_9 (by rw [hs_39]; decide) (by rw [hs_39]; decide) (off := 733) (by rw [hs_39]; rfl) (by decide) ?_
      refine lv_iconst (v := 0) hx hb dX13_widthOf_742 (by decide) ?_
      have hr0 := Option.some.inj hsp
      clear hsp
      subst hr0
      have hP9 := hP.sub (ws' := []) [] rfl
      have hD9 := hD.sub (ws' := []) [] (by decide) rfl
      have hK9 := hK.sub (tys' := []) [] rfl
      exact W.iret hx hb hr (fun t ht hW => ⟨⟨(0), (), rfl, rfl, by rw [ht]; exact hP9, va_K.moved hW.alike hK9, hD9⟩, hS.F ht⟩) hS.2.2 dX13_widthOf_743
    rw [if_neg hs_39] at hsp
    by_cases hs_40 : a1 = 54
    · rw [if_pos hs_40] at hsp
      refine lv_tableIn (tgt := 736) hx hb dX13_widthOf_9 (by rw [hs_40]; decide) (by rw [hs_40]; decide) (off := 727) (by rw [hs_40]; rfl) (by decide) ?_
      refine lv_iconst (v := 2) hx hb dX13_widthOf_736 (by decide) ?_
      have hr0 := Option.some.inj hsp
      clear hsp
      subst hr0
      have hP9 := hP.sub (ws' := []) [] rfl
      have hD9 := hD.sub (ws' := []) [] (by decide) rfl
      have hK9 := hK.sub (tys' := []) [] rfl
      exact W.iret hx hb hr (fun t ht hW => ⟨⟨(2), (), rfl, rfl, by rw [ht]; exact hP9, va_K.moved hW.alike hK9, hD9⟩, hS.F ht⟩) hS.2.2 dX13_widthOf_737
    rw [if_neg hs_40] at hsp
    by_cases hs_41 : a1 = 55
    · rw [if_pos hs_41] at hsp
      refine lv_tableIn (tgt := 742) hx hb dX13_widthOf_9 (by rw [hs_41]; decide) (by rw [hs_41]; decide) (off := 733) (by rw [hs_41]; rfl) (by decide) ?_
      refine lv_iconst (v := 0) hx hb dX13_widthOf_742 (by decide) ?_
      have hr0 := Option.some.inj hsp
      clear hsp
      subst hr0
      have hP9 := hP.sub (ws' := []) [] rfl
      have hD9 := hD.sub (ws' := []) [] (by decide) rfl
      have hK9 := hK.sub (tys' := []) [] rfl
      exact W.iret hx hb hr (fun t ht hW => ⟨⟨(0), (), rfl, rfl, by rw [ht]; exact hP9, va_K.moved hW.alike hK9, hD9⟩, hS.F ht⟩) hS.2.2 dX13_widthOf_743
    rw [if_neg hs_41] at hsp
    by_cases hs_42 : a1 = 56
    · rw [if_pos hs_42] at hsp
      refine lv_tableIn (tgt := 742) hx hb dX13_widthOf_9 (by rw [hs_42]; decide) (by rw [hs_42]; decide) (off := 733) (by rw [hs_42]; rfl) (by decide) ?_
      refine lv_iconst (v := 0) hx hb dX13_widthOf_742 (by decide) ?_
      have hr0 := Option.some.inj hsp
      clear hsp
      subst hr0
      have hP9 := hP.sub (ws' := []) [] rfl
      have hD9 := hD.sub (ws' := []) [] (by decide) rfl
      have hK9 := hK.sub (tys' := []) [] rfl
      exact W.iret hx hb hr (fun t ht hW => ⟨⟨(0), (), rfl, rfl, by rw [ht]; exact hP9, va_K.moved hW.alike hK9, hD9⟩, hS.F ht⟩) hS.2.2 dX13_widthOf_743
    rw [if_neg hs_42] at hsp
    by_cases hs_43 : a1 = 57
    · rw [if_pos hs_43] at hsp
      refine lv_tableIn (tgt := 742) hx hb dX13_widthOf_9 (by rw [hs_43]; decide) (by rw [hs_43]; decide) (off := 733) (by rw [hs_43]; rfl) (by decide) ?_
      refine lv_iconst (v := 0) hx hb dX13_widthOf_742 (by decide) ?_
      have hr0 := Option.some.inj hsp
      clear hsp
      subst hr0
      have hP9 := hP.sub (ws' := []) [] rfl
      have hD9 := hD.sub (ws' := []) [] (by decide) rfl
      have hK9 := hK.sub (tys' := []) [] rfl
      exact W.iret hx hb hr (fun t ht hW => ⟨⟨(0), (), rfl, rfl, by rw [ht]; exact hP9, va_K.moved hW.alike hK9, hD9⟩, hS.F ht⟩) hS.2.2 dX13_widthOf_743
    rw [if_neg hs_43] at hsp
    by_cases hs_44 : a1 = 58
    · rw [if_pos hs_44] at hsp
      refine lv_tableIn (tgt := 736) hx hb dX13_widthOf_9 (by rw [hs_44]; decide) (by rw [hs_44]; decide) (off := 727) (by rw [hs_44]; rfl) (by decide) ?_
      refine lv_iconst (v := 2) hx hb dX13_widthOf_736 (by decide) ?_
      have hr0 := Option.some.inj hsp
      clear hsp
      subst hr0
      have hP9 := hP.sub (ws' := []) [] rfl
      have hD9 := hD.sub (ws' := []) [] (by decide) rfl
      have hK9 := hK.sub (tys' := []) [] rfl
      exact W.iret hx hb hr (fun t ht hW => ⟨⟨(2), (), rfl, rfl, by rw [ht]; exact hP9, va_K.moved hW.alike hK9, hD9⟩, hS.F ht⟩) hS.2.2 dX13_widthOf_737
    rw [if_neg hs_44] at hsp
    by_cases hs_45 : a1 = 59
    · rw [if_pos hs_45] at hsp
      refine lv_tableIn (tgt := 742) hx hb dX13_widthOf_9 (by rw [hs_45]; decide) (by rw [hs_45]; decide) (off := 733) (by rw [hs_45]; rfl) (by decide) ?_
      refine lv_iconst (v := 0) hx hb dX13_widthOf_742 (by decide) ?_
      have hr0 := Option.some.inj hsp
      clear hsp
      subst hr0
      have hP9 := hP.sub (ws' := []) [] rfl
      have hD9 := hD.sub (ws' := []) [] (by decide) rfl
      have hK9 := hK.sub (tys' := []) [] rfl
      exact W.iret hx hb hr (fun t ht hW => ⟨⟨(0), (), rfl, rfl, by rw [ht]; exact hP9, va_K.moved hW.alike hK9, hD9⟩, hS.F ht⟩) hS.2.2 dX13_widthOf_743
    rw [if_neg hs_45] at hsp
    by_cases hs_46 : a1 = 60
    · rw [if_pos hs_46] at hsp
      refine lv_tableIn (tgt := 742) hx hb dX13_widthOf_9 (by rw [hs_46]; decide) (by rw [hs_46]; decide) (off := 733) (by rw [hs_46]; rfl) (by decide) ?_
      refine lv_iconst (v := 0) hx hb dX13_widthOf_742 (by decide) ?_
      have hr0 := Option.some.inj hsp
      clear hsp
      subst hr0
      have hP9 := hP.sub (ws' := []) [] rfl
      have hD9 := hD.sub (ws' := []) [] (by decide) rfl
      have hK9 := hK.sub (tys' := []) [] rfl
      exact W.iret hx hb hr (fun t ht hW => ⟨⟨(0), (), rfl, rfl, by rw [ht]; exact hP9, va_K.moved hW.alike hK9, hD9⟩, hS.F ht⟩) hS.2.2 dX13_widthOf_743
    rw [if_neg hs_46] at hsp
    by_cases hs_47 : a1 = 61
    · rw [if_pos hs_47] at hsp
      refine lv_tableIn (tgt := 742) hx hb dX13_widthOf_9 (by rw [hs_47]; decide) (by rw [hs_47]; decide) (off := 733) (by rw [hs_47]; rfl) (by decide) ?_
      refine lv_iconst (v := 0) hx hb dX13_widthOf_742 (by decide) ?_
      have hr0 := Option.some.inj hsp
      clear hsp
      subst hr0
      have hP9 := hP.sub (ws' := []) [] rfl
      have hD9 := hD.sub (ws' := []) [] (by decide) rfl
      have hK9 := hK.sub (tys' := []) [] rfl
      exact W.iret hx hb hr (fun t ht hW => ⟨⟨(0), (), rfl, rfl, by rw [ht]; exact hP9, va_K.moved hW.alike hK9, hD9⟩, hS.F ht⟩) hS.2.2 dX13_widthOf_743
    rw [if_neg hs_47] at hsp
    by_cases hs_48 : a1 = 62
    · rw [if_pos hs_48] at hsp
      refine lv_tableIn (tgt := 742) hx hb dX13_widthOf_9 (by rw [hs_48]; decide) (by rw [hs_48]; decide) (off := 733) (by rw [hs_48]; rfl) (by decide) ?_
      refine lv_iconst (v := 0) hx hb dX13_widthOf_742 (by decide) ?_
      have hr0 := Option.some.inj hsp
      clear hsp
      subst hr0
      have hP9 := hP.sub (ws' := []) [] rfl
      have hD9 := hD.sub (ws' := []) [] (by decide) rfl
      have hK9 := hK.sub (tys' := []) [] rfl
      exact W.iret hx hb hr (fun t ht hW => ⟨⟨(0), (), rfl, rfl, by rw [ht]; exact hP9, va_K.moved hW.alike hK9, hD9⟩, hS.F ht⟩) hS.2.2 dX13_widthOf_743
    rw [if_neg hs_48] at hsp
    by_cases hs_49 : a1 = 63
    · rw [if_pos hs_49] at hsp
      refine lv_tableIn (tgt := 742) hx hb dX13_widthOf_9 (by rw [hs_49]; decide) (by rw [hs_49]; decide) (off := 733) (by rw [hs_49]; rfl) (by decide) ?_
      refine lv_iconst (v := 0) hx hb dX13_widthOf_742 (by decide) ?_
      have hr0 := Option.some.inj hsp
      clear hsp
      subst hr0
      have hP9 := hP.sub (ws' := []) [] rfl
      have hD9 := hD.sub (ws' := []) [] (by decide) rfl
      have hK9 := hK.sub (tys' := []) [] rfl
      exact W.iret hx hb hr (fun t ht hW => ⟨⟨(0), (), rfl, rfl, by rw [ht]; exact hP9, va_K.moved hW.alike hK9, hD9⟩, hS.F ht⟩) hS.2.2 dX13_widthOf_743
    rw [if_neg hs_49] at hsp
    by_cases hs_50 : a1 = 64
    · rw [if_pos hs_50] at hsp
      refine lv_tableIn (tgt := 742) hx hb dX13_widthOf_9 (by rw [hs_50]; decide) (by rw [hs_50]; decide) (off := 733) (by rw [hs_50]; rfl) (by decide) ?_
      refine lv_iconst (v := 0) hx hb dX13_widthOf_742 (by decide) ?_
      have hr0 := Option.some.inj hsp
      clear hsp
      subst hr0
      have hP9 := hP.sub (ws' := []) [] rfl
      have hD9 := hD.sub (ws' := []) [] (by decide) rfl
      have hK9 := hK.sub (tys' := []) [] rfl
      exact W.iret hx hb hr (fun t ht hW => ⟨⟨(0), (), rfl, rfl, by rw [ht]; exact hP9, va_K.moved hW.alike hK9, hD9⟩, hS.F ht⟩) hS.2.2 dX13_widthOf_743
    rw [if_neg hs_50] at hsp
    by_cases hs_51 : a1 = 65
    · rw [if_pos hs_51] at hsp
      refine lv_tableIn (tgt := 742) hx hb dX13_widthOf_9 (by rw [hs_51]; decide) (by rw [hs_51]; decide) (off := 733) (by rw [hs_51]; rfl) (by decide) ?_
      refine lv_iconst (v := 0) hx hb dX13_widthOf_742 (by decide) ?_
      have hr0 := Option.some.inj hsp
      clear hsp
      subst hr0
      have hP9 := hP.sub (ws' := []) [] rfl
      have hD9 := hD.sub (ws' := []) [] (by decide) rfl
      have hK9 := hK.sub (tys' := []) [] rfl
      exact W.iret hx hb hr (fun t ht hW => ⟨⟨(0), (), rfl, rfl, by rw [ht]; exact hP9, va_K.moved hW.alike hK9, hD9⟩, hS.F ht⟩) hS.2.2 dX13_widthOf_743
    rw [if_neg hs_51] at hsp
    by_cases hs_52 : a1 = 66
    · rw [if_pos hs_52] at hsp
      refine lv_tableIn (tgt := 742) hx hb dX13_widthOf_9 (by rw [hs_52]; decide) (by rw [hs_52]; decide) (off := 733) (by rw [hs_52]; rfl) (by decide) ?_
      refine lv_iconst (v := 0) hx hb dX13_widthOf_742 (by decide) ?_
      have hr0 := Option.some.inj hsp
      clear hsp
      subst hr0
      have hP9 := hP.sub (ws' := []) [] rfl
      have hD9 := hD.sub (ws' := []) [] (by decide) rfl
      have hK9 := hK.sub (tys' := []) [] rfl
      exact W.iret hx hb hr (fun t ht hW => ⟨⟨(0), (), rfl, rfl, by rw [ht]; exact hP9, va_K.moved hW.alike hK9, hD9⟩, hS.F ht⟩) hS.2.2 dX13_widthOf_743
    rw [if_neg hs_52] at hsp
    by_cases hs_53 : a1 = 67
    · rw [if_pos hs_53] at hsp
      refine lv_tableIn (tgt := 742) hx hb dX13_widthOf_9 (by rw [hs_53]; decide) (by rw [hs_53]; decide) (off := 733) (by rw [hs_53]; rfl) (by decide) ?_
      refine lv_iconst (v := 0) hx hb dX13_widthOf_742 (by decide) ?_
      have hr0 := Option.some.inj hsp
      clear hsp
      subst hr0
      have hP9 := hP.sub (ws' := []) [] rfl
      have hD9 := hD.sub (ws' := []) [] (by decide) rfl
      have hK9 := hK.sub (tys' := []) [] rfl
      exact W.iret hx hb hr (fun t ht hW => ⟨⟨(0), (), rfl, rfl, by rw [ht]; exact hP9, va_K.moved hW.alike hK9, hD9⟩, hS.F ht⟩) hS.2.2 dX13_widthOf_743
    rw [if_neg hs_53] at hsp
    by_cases hs_54 : a1 = 68
    · rw [if_pos hs_54] at hsp
      refine lv_tableIn (tgt := 742) hx hb dX13_widthOf_9 (by rw [hs_54]; decide) (by rw [hs_54]; decide) (off := 733) (by rw [hs_54]; rfl) (by decide) ?_
      refine lv_iconst (v := 0) hx hb dX13_widthOf_742 (by decide) ?_
      have hr0 := Option.some.inj hsp
      clear hsp
      subst hr0
      have hP9 := hP.sub (ws' := []) [] rfl
      have hD9 := hD.sub (ws' := []) [] (by decide) rfl
      have hK9 := hK.sub (tys' := []) [] rfl
      exact W.iret hx hb hr (fun t ht hW => ⟨⟨(0), (), rfl, rfl, by rw [ht]; exact hP9, va_K.moved hW.alike hK9, hD9⟩, hS.F ht⟩) hS.2.2 dX13_widthOf_743
    rw [if_neg hs_54] at hsp
    by_cases hs_55 : a1 = 69
    · rw [if_pos hs_55] at hsp
      refine lv_tableIn (tgt := 742) hx hb dX13_widthOf_9 (by rw [hs_55]; decide) (by rw [hs_55]; decide) (off := 733) (by rw [hs_55]; rfl) (by decide) ?_
      refine lv_iconst (v := 0) hx hb dX13_widthOf_742 (by decide) ?_
      have hr0 := Option.some.inj hsp
      clear hsp
      subst hr0
      have hP9 := hP.sub (ws' := []) [] rfl
      have hD9 := hD.sub (ws' := []) [] (by decide) rfl
      have hK9 := hK.sub (tys' := []) [] rfl
      exact W.iret hx hb hr (fun t ht hW => ⟨⟨(0), (), rfl, rfl, by rw [ht]; exact hP9, va_K.moved hW.alike hK9, hD9⟩, hS.F ht⟩) hS.2.2 dX13_widthOf_743
    rw [if_neg hs_55] at hsp
    by_cases hs_56 : a1 = 70
    · rw [if_pos hs_56] at hsp
      refine lv_tableIn (tgt := 742) hx hb dX13_widthOf_9 (by rw [hs_56]; decide) (by rw [hs_56]; decide) (off := 733) (by rw [hs_56]; rfl) (by decide) ?_
      refine lv_iconst (v := 0) hx hb dX13_widthOf_742 (by decide) ?_
      have hr0 := Option.some.inj hsp
      clear hsp
      subst hr0
      have hP9 := hP.sub (ws' := []) [] rfl
      have hD9 := hD.sub (ws' := []) [] (by decide) rfl
      have hK9 := hK.sub (tys' := []) [] rfl
      exact W.iret hx hb hr (fun t ht hW => ⟨⟨(0), (), rfl, rfl, by rw [ht]; exact hP9, va_K.moved hW.alike hK9, hD9⟩, hS.F ht⟩) hS.2.2 dX13_widthOf_743
    rw [if_neg hs_56] at hsp
    by_cases hs_57 : a1 = 71
    · rw [if_pos hs_57] at hsp
      refine lv_tableIn (tgt := 742) hx hb dX13_widthOf_9 (by rw [hs_57]; decide) (by rw [hs_57]; decide) (off := 733) (by rw [hs_57]; rfl) (by decide) ?_
      refine lv_iconst (v := 0) hx hb dX13_widthOf_742 (by decide) ?_
      have hr0 := Option.some.inj hsp
      clear hsp
      subst hr0
      have hP9 := hP.sub (ws' := []) [] rfl
      have hD9 := hD.sub (ws' := []) [] (by decide) rfl
      have hK9 := hK.sub (tys' := []) [] rfl
      exact W.iret hx hb hr (fun t ht hW => ⟨⟨(0), (), rfl, rfl, by rw [ht]; exact hP9, va_K.moved hW.alike hK9, hD9⟩, hS.F ht⟩) hS.2.2 dX13_widthOf_743
    rw [if_neg hs_57] at hsp
    by_cases hs_58 : a1 = 72
    · rw [if_pos hs_58] at hsp
      refine lv_tableIn (tgt := 742) hx hb dX13_widthOf_9 (by rw [hs_58]; decide) (by rw [hs_58]; decide) (off := 733) (by rw [hs_58]; rfl) (by decide) ?_
      refine lv_iconst (v := 0) hx hb dX13_widthOf_742 (by decide) ?_
      have hr0 := Option.some.inj hsp
      clear hsp
      subst hr0
      have hP9 := hP.sub (ws' := []) [] rfl
      have hD9 := hD.sub (ws' := []) [] (by decide) rfl
      have hK9 := hK.sub (tys' := []) [] rfl
      exact W.iret hx hb hr (fun t ht hW => ⟨⟨(0), (), rfl, rfl, by rw [ht]; exact hP9, va_K.moved hW.alike hK9, hD9⟩, hS.F ht⟩) hS.2.2 dX13_widthOf_743
    rw [if_neg hs_58] at hsp
    by_cases hs_59 : a1 = 73
    · rw [if_pos hs_59] at hsp
      refine lv_tableIn (tgt := 742) hx hb dX13_widthOf_9 (by rw [hs_59]; decide) (by rw [hs_59]; decide) (off := 733) (by rw [hs_59]; rfl) (by decide) ?_
      refine lv_iconst (v := 0) hx hb dX13_widthOf_742 (by decide) ?_
      have hr0 := Option.some.inj hsp
      clear hsp
      subst hr0
      have hP9 := hP.sub (ws' := []) [] rfl
      have hD9 := hD.sub (ws' := []) [] (by decide) rfl
      have hK9 := hK.sub (tys' := []) [] rfl
      exact W.iret hx hb hr (fun t ht hW => ⟨⟨(0), (), rfl, rfl, by rw [ht]; exact hP9, va_K.moved hW.alike hK9, hD9⟩, hS.F ht⟩) hS.2.2 dX13_widthOf_743
    rw [if_neg hs_59] at hsp
    by_cases hs_60 : a1 = 74
    · rw [if_pos hs_60] at hsp
      refine lv_tableIn (tgt := 742) hx hb dX13_widthOf_9 (by rw [hs_60]; decide) (by rw [hs_60]; decide) (off := 733) (by rw [hs_60]; rfl) (by decide) ?_
      refine lv_iconst (v := 0) hx hb dX13_widthOf_742 (by decide) ?_
      have hr0 := Option.some.inj hsp
      clear hsp
      subst hr0
      have hP9 := hP.sub (ws' := []) [] rfl
      have hD9 := hD.sub (ws' := []) [] (by decide) rfl
      have hK9 := hK.sub (tys' := []) [] rfl
      exact W.iret hx hb hr (fun t ht hW => ⟨⟨(0), (), rfl, rfl, by rw [ht]; exact hP9, va_K.moved hW.alike hK9, hD9⟩, hS.F ht⟩) hS.2.2 dX13_widthOf_743
    rw [if_neg hs_60] at hsp
    by_cases hs_61 : a1 = 75
    · rw [if_pos hs_61] at hsp
      refine lv_tableIn (tgt := 742) hx hb dX13_widthOf_9 (by rw [hs_61]; decide) (by rw [hs_61]; decide) (off := 733) (by rw [hs_61]; rfl) (by decide) ?_
      refine lv_iconst (v := 0) hx hb dX13_widthOf_742 (by decide) ?_
      have hr0 := Option.some.inj hsp
      clear hsp
      subst hr0
      have hP9 := hP.sub (ws' := []) [] rfl
      have hD9 := hD.sub (ws' := []) [] (by decide) rfl
      have hK9 := hK.sub (tys' := []) [] rfl
      exact W.iret hx hb hr (fun t ht hW => ⟨⟨(0), (), rfl, rfl, by rw [ht]; exact hP9, va_K.moved hW.alike hK9, hD9⟩, hS.F ht⟩) hS.2.2 dX13_widthOf_743
    rw [if_neg hs_61] at hsp
    by_cases hs_62 : a1 = 76
    · rw [if_pos hs_62] at hsp
      refine lv_tableIn (tgt := 742) hx hb dX13_widthOf_9 (by rw [hs_62]; decide) (by rw [hs_62]; decide) (off := 733) (by rw [hs_62]; rfl) (by decide) ?_
      refine lv_iconst (v := 0) hx hb dX13_widthOf_742 (by decide) ?_
      have hr0 := Option.some.inj hsp
      clear hsp
      subst hr0
      have hP9 := hP.sub (ws' := []) [] rfl
      have hD9 := hD.sub (ws' := []) [] (by decide) rfl
      have hK9 := hK.sub (tys' := []) [] rfl
      exact W.iret hx hb hr (fun t ht hW => ⟨⟨(0), (), rfl, rfl, by rw [ht]; exact hP9, va_K.moved hW.alike hK9, hD9⟩, hS.F ht⟩) hS.2.2 dX13_widthOf_743
    rw [if_neg hs_62] at hsp
    by_cases hs_63 : a1 = 77
    · rw [if_pos hs_63] at hsp
      refine lv_tableIn (tgt := 742) hx hb dX13_widthOf_9 (by rw [hs_63]; decide) (by rw [hs_63]; decide) (off := 733) (by rw [hs_63]; rfl) (by decide) ?_
      refine lv_iconst (v := 0) hx hb dX13_widthOf_742 (by decide) ?_
      have hr0 := Option.some.inj hsp
      clear hsp
      subst hr0
      have hP9 := hP.sub (ws' := []) [] rfl
      have hD9 := hD.sub (ws' := []) [] (by decide) rfl
      have hK9 := hK.sub (tys' := []) [] rfl
      exact W.iret hx hb hr (fun t ht hW => ⟨⟨(0), (), rfl, rfl, by rw [ht]; exact hP9, va_K.moved hW.alike hK9, hD9⟩, hS.F ht⟩) hS.2.2 dX13_widthOf_743
    rw [if_neg hs_63] at hsp
    by_cases hs_64 : a1 = 78
    · rw [if_pos hs_64] at hsp
      refine lv_tableIn (tgt := 742) hx hb dX13_widthOf_9 (by rw [hs_64]; decide) (by rw [hs_64]; decide) (off := 733) (by rw [hs_64]; rfl) (by decide) ?_
      refine lv_iconst (v := 0) hx hb dX13_widthOf_742 (by decide) ?_
      have hr0 := Option.some.inj hsp
      clear hsp
      subst hr0
      have hP9 := hP.sub (ws' := []) [] rfl
      have hD9 := hD.sub (ws' := []) [] (by decide) rfl
      have hK9 := hK.sub (tys' := []) [] rfl
      exact W.iret hx hb hr (fun t ht hW => ⟨⟨(0), (), rfl, rfl, by rw [ht]; exact hP9, va_K.moved hW.alike hK9, hD9⟩, hS.F ht⟩) hS.2.2 dX13_widthOf_743
    rw [if_neg hs_64] at hsp
    by_cases hs_65 : a1 = 79
    · rw [if_pos hs_65] at hsp
      refine lv_tableIn (tgt := 738) hx hb dX13_widthOf_9 (by rw [hs_65]; decide) (by rw [hs_65]; decide) (off := 729) (by rw [hs_65]; rfl) (by decide) ?_
      refine lv_iconst (v := 1) hx hb dX13_widthOf_738 (by decide) ?_
      have hr0 := Option.some.inj hsp
      clear hsp
      subst hr0
      have hP9 := hP.sub (ws' := []) [] rfl
      have hD9 := hD.sub (ws' := []) [] (by decide) rfl
      have hK9 := hK.sub (tys' := []) [] rfl
      exact W.iret hx hb hr (fun t ht hW => ⟨⟨(1), (), rfl, rfl, by rw [ht]; exact hP9, va_K.moved hW.alike hK9, hD9⟩, hS.F ht⟩) hS.2.2 dX13_widthOf_739
    rw [if_neg hs_65] at hsp
    by_cases hs_66 : a1 = 80
    · rw [if_pos hs_66] at hsp
      refine lv_tableIn (tgt := 742) hx hb dX13_widthOf_9 (by rw [hs_66]; decide) (by rw [hs_66]; decide) (off := 733) (by rw [hs_66]; rfl) (by decide) ?_
      refine lv_iconst (v := 0) hx hb dX13_widthOf_742 (by decide) ?_
      have hr0 := Option.some.inj hsp
      clear hsp
      subst hr0
      have hP9 := hP.sub (ws' := []) [] rfl
      have hD9 := hD.sub (ws' := []) [] (by decide) rfl
      have hK9 := hK.sub (tys' := []) [] rfl
      exact W.iret hx hb hr (fun t ht hW => ⟨⟨(0), (), rfl, rfl, by rw [ht]; exact hP9, va_K.moved hW.alike hK9, hD9⟩, hS.F ht⟩) hS.2.2 dX13_widthOf_743
    rw [if_neg hs_66] at hsp
    by_cases hs_67 : a1 = 81
    · rw [if_pos hs_67] at hsp
      refine lv_tableIn (tgt := 742) hx hb dX13_widthOf_9 (by rw [hs_67]; decide) (by rw [hs_67]; decide) (off := 733) (by rw [hs_67]; rfl) (by decide) ?_
      refine lv_iconst (v := 0) hx hb dX13_widthOf_742 (by decide) ?_
      have hr0 := Option.some.inj hsp
      clear hsp
      subst hr0
      have hP9 := hP.sub (ws' := []) [] rfl
      have hD9 := hD.sub (ws' := []) [] (by decide) rfl
      have hK9 := hK.sub (tys' := []) [] rfl
      exact W.iret hx hb hr (fun t ht hW => ⟨⟨(0), (), rfl, rfl, by rw [ht]; exact hP9, va_K.moved hW.alike hK9, hD9⟩, hS.F ht⟩) hS.2.2 dX13_widthOf_743
    rw [if_neg hs_67] at hsp
    by_cases hs_68 : a1 = 82
    · rw [if_pos hs_68] at hsp
      refine lv_tableIn (tgt := 742) hx hb dX13_widthOf_9 (by rw [hs_68]; decide) (by rw [hs_68]; decide) (off := 733) (by rw [hs_68]; rfl) (by decide) ?_
      refine lv_iconst (v := 0) hx hb dX13_widthOf_742 (by decide) ?_
      have hr0 := Option.some.inj hsp
      clear hsp
      subst hr0
      have hP9 := hP.sub (ws' := []) [] rfl
      have hD9 := hD.sub (ws' := []) [] (by decide) rfl
      have hK9 := hK.sub (tys' := []) [] rfl
      exact W.iret hx hb hr (fun t ht hW => ⟨⟨(0), (), rfl, rfl, by rw [ht]; exact hP9, va_K.moved hW.alike hK9, hD9⟩, hS.F ht⟩) hS.2.2 dX13_widthOf_743
    rw [if_neg hs_68] at hsp
    by_cases hs_69 : a1 = 83
    · rw [if_pos hs_69] at hsp
      refine lv_tableIn (tgt := 738) hx hb dX13_widthOf_9 (by rw [hs_69]; decide) (by rw [hs_69]; decide) (off := 729) (by rw [hs_69]; rfl) (by decide) ?_
      refine lv_iconst (v := 1) hx hb dX13_widthOf_738 (by decide) ?_
      have hr0 := Option.some.inj hsp
      clear hsp
      subst hr0
      have hP9 := hP.sub (ws' := []) [] rfl
      have hD9 := hD.sub (ws' := []) [] (by decide) rfl
      have hK9 := hK.sub (tys' := []) [] rfl
      exact W.iret hx hb hr (fun t ht hW => ⟨⟨(1), (), rfl, rfl, by rw [ht]; exact hP9, va_K.moved hW.alike hK9, hD9⟩, hS.F ht⟩) hS.2.2 dX13_widthOf_739
    rw [if_neg hs_69] at hsp
    by_cases hs_70 : a1 = 84
    · rw [if_pos hs_70] at hsp
      refine lv_tableIn (tgt := 742) hx hb dX13_widthOf_9 (by rw [hs_70]; decide) (by rw [hs_70]; decide) (off := 733) (by rw [hs_70]; rfl) (by decide) ?_
      refine lv_iconst (v := 0) hx hb dX13_widthOf_742 (by decide) ?_
      have hr0 := Option.some.inj hsp
      clear hsp
      subst hr0
      have hP9 := hP.sub (ws' := []) [] rfl
      have hD9 := hD.sub (ws' := []) [] (by decide) rfl
      have hK9 := hK.sub (tys' := []) [] rfl
      exact W.iret hx hb hr (fun t ht hW => ⟨⟨(0), (), rfl, rfl, by rw [ht]; exact hP9, va_K.moved hW.alike hK9, hD9⟩, hS.F ht⟩) hS.2.2 dX13_widthOf_743
    rw [if_neg hs_70] at hsp
    by_cases hs_71 : a1 = 85
    · rw [if_pos hs_71] at hsp
      refine lv_tableIn (tgt := 742) hx hb dX13_widthOf_9 (by rw [hs_71]; decide) (by rw [hs_71]; decide) (off := 733) (by rw [hs_71]; rfl) (by decide) ?_
      refine lv_iconst (v := 0) hx hb dX13_widthOf_742 (by decide) ?_
      have hr0 := Option.some.inj hsp
      clear hsp
      subst hr0
      have hP9 := hP.sub (ws' := []) [] rfl
      have hD9 := hD.sub (ws' := []) [] (by decide) rfl
      have hK9 := hK.sub (tys' := []) [] rfl
      exact W.iret hx hb hr (fun t ht hW => ⟨⟨(0), (), rfl, rfl, by rw [ht]; exact hP9, va_K.moved hW.alike hK9, hD9⟩, hS.F ht⟩) hS.2.2 dX13_widthOf_743
    rw [if_neg hs_71] at hsp
    by_cases hs_72 : a1 = 86
    · rw [if_pos hs_72] at hsp
      refine lv_tableIn (tgt := 742) hx hb dX13_widthOf_9 (by rw [hs_72]; decide) (by rw [hs_72]; decide) (off := 733) (by rw [hs_72]; rfl) (by decide) ?_
      refine lv_iconst (v := 0) hx hb dX13_widthOf_742 (by decide) ?_
      have hr0 := Option.some.inj hsp
      clear hsp
      subst hr0
      have hP9 := hP.sub (ws' := []) [] rfl
      have hD9 := hD.sub (ws' := []) [] (by decide) rfl
      have hK9 := hK.sub (tys' := []) [] rfl
      exact W.iret hx hb hr (fun t ht hW => ⟨⟨(0), (), rfl, rfl, by rw [ht]; exact hP9, va_K.moved hW.alike hK9, hD9⟩, hS.F ht⟩) hS.2.2 dX13_widthOf_743
    rw [if_neg hs_72] at hsp
    by_cases hs_73 : a1 = 87
    · rw [if_pos hs_73] at hsp
      refine lv_tableIn (tgt := 738) hx hb dX13_widthOf_9 (by rw [hs_73]; decide) (by rw [hs_73]; decide) (off := 729) (by rw [hs_73]; rfl) (by decide) ?_
      refine lv_iconst (v := 1) hx hb dX13_widthOf_738 (by decide) ?_
      have hr0 := Option.some.inj hsp
      clear hsp
      subst hr0
      have hP9 := hP.sub (ws' := []) [] rfl
      have hD9 := hD.sub (ws' := []) [] (by decide) rfl
      have hK9 := hK.sub (tys' := []) [] rfl
      exact W.iret hx hb hr (fun t ht hW => ⟨⟨(1), (), rfl, rfl, by rw [ht]; exact hP9, va_K.moved hW.alike hK9, hD9⟩, hS.F ht⟩) hS.2.2 dX13_widthOf_739
    rw [if_neg hs_73] at hsp
    by_cases hs_74 : a1 = 88
    · rw [if_pos hs_74] at hsp
      refine lv_tableIn (tgt := 742) hx hb dX13_widthOf_9 (by rw [hs_74]; decide) (by rw [hs_74]; decide) (off := 733) (by rw [hs_74]; rfl) (by decide) ?_
      refine lv_iconst (v := 0) hx hb dX13_widthOf_742 (by decide) ?_
      have hr0 := Option.some.inj hsp
      clear hsp
      subst hr0
      have hP9 := hP.sub (ws' := []) [] rfl
      have hD9 := hD.sub (ws' := []) [] (by decide) rfl
      have hK9 := hK.sub (tys' := []) [] rfl
      exact W.iret hx hb hr (fun t ht hW => ⟨⟨(0), (), rfl, rfl, by rw [ht]; exact hP9, va_K.moved hW.alike hK9, hD9⟩, hS.F ht⟩) hS.2.2 dX13_widthOf_743
    rw [if_neg hs_74] at hsp
    by_cases hs_75 : a1 = 89
    · rw [if_pos hs_75] at hsp
      refine lv_tableIn (tgt := 738) hx hb dX13_widthOf_9 (by rw [hs_75]; decide) (by rw [hs_75]; decide) (off := 729) (by rw [hs_75]; rfl) (by decide) ?_
      refine lv_iconst (v := 1) hx hb dX13_widthOf_738 (by decide) ?_
      have hr0 := Option.some.inj hsp
      clear hsp
      subst hr0
      have hP9 := hP.sub (ws' := []) [] rfl
      have hD9 := hD.sub (ws' := []) [] (by decide) rfl
      have hK9 := hK.sub (tys' := []) [] rfl
      exact W.iret hx hb hr (fun t ht hW => ⟨⟨(1), (), rfl, rfl, by rw [ht]; exact hP9, va_K.moved hW.alike hK9, hD9⟩, hS.F ht⟩) hS.2.2 dX13_widthOf_739
    rw [if_neg hs_75] at hsp
    by_cases hs_76 : a1 = 90
    · rw [if_pos hs_76] at hsp
      refine lv_tableIn (tgt := 742) hx hb dX13_widthOf_9 (by rw [hs_76]; decide) (by rw [hs_76]; decide) (off := 733) (by rw [hs_76]; rfl) (by decide) ?_
      refine lv_iconst (v := 0) hx hb dX13_widthOf_742 (by decide) ?_
      have hr0 := Option.some.inj hsp
      clear hsp
      subst hr0
      have hP9 := hP.sub (ws' := []) [] rfl
      have hD9 := hD.sub (ws' := []) [] (by decide) rfl
      have hK9 := hK.sub (tys' := []) [] rfl
      exact W.iret hx hb hr (fun t ht hW => ⟨⟨(0), (), rfl, rfl, by rw [ht]; exact hP9, va_K.moved hW.alike hK9, hD9⟩, hS.F ht⟩) hS.2.2 dX13_widthOf_743
    rw [if_neg hs_76] at hsp
    by_cases hs_77 : a1 = 91
    · rw [if_pos hs_77] at hsp
      refine lv_tableIn (tgt := 742) hx hb dX13_widthOf_9 (by rw [hs_77]; decide) (by rw [hs_77]; decide) (off := 733) (by rw [hs_77]; rfl) (by decide) ?_
      refine lv_iconst (v := 0) hx hb dX13_widthOf_742 (by decide) ?_
      have hr0 := Option.some.inj hsp
      clear hsp
      subst hr0
      have hP9 := hP.sub (ws' := []) [] rfl
      have hD9 := hD.sub (ws' := []) [] (by decide) rfl
      have hK9 := hK.sub (tys' := []) [] rfl
      exact W.iret hx hb hr (fun t ht hW => ⟨⟨(0), (), rfl, rfl, by rw [ht]; exact hP9, va_K.moved hW.alike hK9, hD9⟩, hS.F ht⟩) hS.2.2 dX13_widthOf_743
    rw [if_neg hs_77] at hsp
    by_cases hs_78 : a1 = 92
    · rw [if_pos hs_78] at hsp
      refine lv_tableIn (tgt := 742) hx hb dX13_widthOf_9 (by rw [hs_78]; decide) (by rw [hs_78]; decide) (off := 733) (by rw [hs_78]; rfl) (by decide) ?_
      refine lv_iconst (v := 0) hx hb dX13_widthOf_742 (by decide) ?_
      have hr0 := Option.some.inj hsp
      clear hsp
      subst hr0
      have hP9 := hP.sub (ws' := []) [] rfl
      have hD9 := hD.sub (ws' := []) [] (by decide) rfl
      have hK9 := hK.sub (tys' := []) [] rfl
      exact W.iret hx hb hr (fun t ht hW => ⟨⟨(0), (), rfl, rfl, by rw [ht]; exact hP9, va_K.moved hW.alike hK9, hD9⟩, hS.F ht⟩) hS.2.2 dX13_widthOf_743
    rw [if_neg hs_78] at hsp
    by_cases hs_79 : a1 = 93
    · rw [if_pos hs_79] at hsp
      refine lv_tableIn (tgt := 742) hx hb dX13_widthOf_9 (by rw [hs_79]; decide) (by rw [hs_79]; decide) (off := 733) (by rw [hs_79]; rfl) (by decide) ?_
      refine lv_iconst (v := 0) hx hb dX13_widthOf_742 (by decide) ?_
      have hr0 := Option.some.inj hsp
      clear hsp
      subst hr0
      have hP9 := hP.sub (ws' := []) [] rfl
      have hD9 := hD.sub (ws' := []) [] (by decide) rfl
      have hK9 := hK.sub (tys' := []) [] rfl
      exact W.iret hx hb hr (fun t ht hW => ⟨⟨(0), (), rfl, rfl, by rw [ht]; exact hP9, va_K.moved hW.alike hK9, hD9⟩, hS.F ht⟩) hS.2.2 dX13_widthOf_743
    rw [if_neg hs_79] at hsp
    by_cases hs_80 : a1 = 94
    · rw [if_pos hs_80] at hsp
      refine lv_tableIn (tgt := 742) hx hb dX13_widthOf_9 (by rw [hs_80]; decide) (by rw [hs_80]; decide) (off := 733) (by rw [hs_80]; rfl) (by decide) ?_
      refine lv_iconst (v := 0) hx hb dX13_widthOf_742 (by decide) ?_
      have hr0 := Option.some.inj hsp
      clear hsp
      subst hr0
      have hP9 := hP.sub (ws' := []) [] rfl
      have hD9 := hD.sub (ws' := []) [] (by decide) rfl
      have hK9 := hK.sub (tys' := []) [] rfl
      exact W.iret hx hb hr (fun t ht hW => ⟨⟨(0), (), rfl, rfl, by rw [ht]; exact hP9, va_K.moved hW.alike hK9, hD9⟩, hS.F ht⟩) hS.2.2 dX13_widthOf_743
    rw [if_neg hs_80] at hsp
    by_cases hs_81 : a1 = 95
    · rw [if_pos hs_81] at hsp
      refine lv_tableIn (tgt := 742) hx hb dX13_widthOf_9 (by rw [hs_81]; decide) (by rw [hs_81]; decide) (off := 733) (by rw [hs_81]; rfl) (by decide) ?_
      refine lv_iconst (v := 0) hx hb dX13_widthOf_742 (by decide) ?_
      have hr0 := Option.some.inj hsp
      clear hsp
      subst hr0
      have hP9 := hP.sub (ws' := []) [] rfl
      have hD9 := hD.sub (ws' := []) [] (by decide) rfl
      have hK9 := hK.sub (tys' := []) [] rfl
      exact W.iret hx hb hr (fun t ht hW => ⟨⟨(0), (), rfl, rfl, by rw [ht]; exact hP9, va_K.moved hW.alike hK9, hD9⟩, hS.F ht⟩) hS.2.2 dX13_widthOf_743
    rw [if_neg hs_81] at hsp
    by_cases hs_82 : a1 = 96
    · rw [if_pos hs_82] at hsp
      refine lv_tableIn (tgt := 738) hx hb dX13_widthOf_9 (by rw [hs_82]; decide) (by rw [hs_82]; decide) (off := 729) (by rw [hs_82]; rfl) (by decide) ?_
      refine lv_iconst (v := 1) hx hb dX13_widthOf_738 (by decide) ?_
      have hr0 := Option.some.inj hsp
      clear hsp
      subst hr0
      have hP9 := hP.sub (ws' := []) [] rfl
      have hD9 := hD.sub (ws' := []) [] (by decide) rfl
      have hK9 := hK.sub (tys' := []) [] rfl
      exact W.iret hx hb hr (fun t ht hW => ⟨⟨(1), (), rfl, rfl, by rw [ht]; exact hP9, va_K.moved hW.alike hK9, hD9⟩, hS.F ht⟩) hS.2.2 dX13_widthOf_739
    rw [if_neg hs_82] at hsp
    by_cases hs_83 : a1 = 97
    · rw [if_pos hs_83] at hsp
      refine lv_tableIn (tgt := 742) hx hb dX13_widthOf_9 (by rw [hs_83]; decide) (by rw [hs_83]; decide) (off := 733) (by rw [hs_83]; rfl) (by decide) ?_
      refine lv_iconst (v := 0) hx hb dX13_widthOf_742 (by decide) ?_
      have hr0 := Option.some.inj hsp
      clear hsp
      subst hr0
      have hP9 := hP.sub (ws' := []) [] rfl
      have hD9 := hD.sub (ws' := []) [] (by decide) rfl
      have hK9 := hK.sub (tys' := []) [] rfl
      exact W.iret hx hb hr (fun t ht hW => ⟨⟨(0), (), rfl, rfl, by rw [ht]; exact hP9, va_K.moved hW.alike hK9, hD9⟩, hS.F ht⟩) hS.2.2 dX13_widthOf_743
    rw [if_neg hs_83] at hsp
    by_cases hs_84 : a1 = 98
    · rw [if_pos hs_84] at hsp
      refine lv_tableIn (tgt := 742) hx hb dX13_widthOf_9 (by rw [hs_84]; decide) (by rw [hs_84]; decide) (off := 733) (by rw [hs_84]; rfl) (by decide) ?_
      refine lv_iconst (v := 0) hx hb dX13_widthOf_742 (by decide) ?_
      have hr0 := Option.some.inj hsp
      clear hsp
      subst hr0
      have hP9 := hP.sub (ws' := []) [] rfl
      have hD9 := hD.sub (ws' := []) [] (by decide) rfl
      have hK9 := hK.sub (tys' := []) [] rfl
      exact W.iret hx hb hr (fun t ht hW => ⟨⟨(0), (), rfl, rfl, by rw [ht]; exact hP9, va_K.moved hW.alike hK9, hD9⟩, hS.F ht⟩) hS.2.2 dX13_widthOf_743
    rw [if_neg hs_84] at hsp
    by_cases hs_85 : a1 = 99
    · rw [if_pos hs_85] at hsp
      refine lv_tableIn (tgt := 742) hx hb dX13_widthOf_9 (by rw [hs_85]; decide) (by rw [hs_85]; decide) (off := 733) (by rw [hs_85]; rfl) (by decide) ?_
      refine lv_iconst (v := 0) hx hb dX13_widthOf_742 (by decide) ?_
      have hr0 := Option.some.inj hsp
      clear hsp
      subst hr0
      have hP9 := hP.sub (ws' := []) [] rfl
      have hD9 := hD.sub (ws' := []) [] (by decide) rfl
      have hK9 := hK.sub (tys' := []) [] rfl
      exact W.iret hx hb hr (fun t ht hW => ⟨⟨(0), (), rfl, rfl, by rw [ht]; exact hP9, va_K.moved hW.alike hK9, hD9⟩, hS.F ht⟩) hS.2.2 dX13_widthOf_743
    rw [if_neg hs_85] at hsp
    by_cases hs_86 : a1 = 100
    · rw [if_pos hs_86] at hsp
      refine lv_tableIn (tgt := 738) hx hb dX13_widthOf_9 (by rw [hs_86]; decide) (by rw [hs_86]; decide) (off := 729) (by rw [hs_86]; rfl) (by decide) ?_
      refine lv_iconst (v := 1) hx hb dX13_widthOf_738 (by decide) ?_
      have hr0 := Option.some.inj hsp
      clear hsp
      subst hr0
      have hP9 := hP.sub (ws' := []) [] rfl
      have hD9 := hD.sub (ws' := []) [] (by decide) rfl
      have hK9 := hK.sub (tys' := []) [] rfl
      exact W.iret hx hb hr (fun t ht hW => ⟨⟨(1), (), rfl, rfl, by rw [ht]; exact hP9, va_K.moved hW.alike hK9, hD9⟩, hS.F ht⟩) hS.2.2 dX13_widthOf_739
    rw [if_neg hs_86] at hsp
    by_cases hs_87 : a1 = 101
    · rw [if_pos hs_87] at hsp
      refine lv_tableIn (tgt := 742) hx hb dX13_widthOf_9 (by rw [hs_87]; decide) (by rw [hs_87]; decide) (off := 733) (by rw [hs_87]; rfl) (by decide) ?_
      refine lv_iconst (v := 0) hx hb dX13_widthOf_742 (by decide) ?_
      have hr0 := Option.some.inj hsp
      clear hsp
      subst hr0
      have hP9 := hP.sub (ws' := []) [] rfl
      have hD9 := hD.sub (ws' := []) [] (by decide) rfl
      have hK9 := hK.sub (tys' := []) [] rfl
      exact W.iret hx hb hr (fun t ht hW => ⟨⟨(0), (), rfl, rfl, by rw [ht]; exact hP9, va_K.moved hW.alike hK9, hD9⟩, hS.F ht⟩) hS.2.2 dX13_widthOf_743
    rw [if_neg hs_87] at hsp
    by_cases hs_88 : a1 = 102
    · rw [if_pos hs_88] at hsp
      refine lv_tableIn (tgt := 742) hx hb dX13_widthOf_9 (by rw [hs_88]; decide) (by rw [hs_88]; decide) (off := 733) (by rw [hs_88]; rfl) (by decide) ?_
      refine lv_iconst (v := 0) hx hb dX13_widthOf_742 (by decide) ?_
      have hr0 := Option.some.inj hsp
      clear hsp
      subst hr0
      have hP9 := hP.sub (ws' := []) [] rfl
      have hD9 := hD.sub (ws' := []) [] (by decide) rfl
      have hK9 := hK.sub (tys' := []) [] rfl
      exact W.iret hx hb hr (fun t ht hW => ⟨⟨(0), (), rfl, rfl, by rw [ht]; exact hP9, va_K.moved hW.alike hK9, hD9⟩, hS.F ht⟩) hS.2.2 dX13_widthOf_743
    rw [if_neg hs_88] at hsp
    by_cases hs_89 : a1 = 103
    · rw [if_pos hs_89] at hsp
      refine lv_tableIn (tgt := 742) hx hb dX13_widthOf_9 (by rw [hs_89]; decide) (by rw [hs_89]; decide) (off := 733) (by rw [hs_89]; rfl) (by decide) ?_
      refine lv_iconst (v := 0) hx hb dX13_widthOf_742 (by decide) ?_
      have hr0 := Option.some.inj hsp
      clear hsp
      subst hr0
      have hP9 := hP.sub (ws' := []) [] rfl
      have hD9 := hD.sub (ws' := []) [] (by decide) rfl
      have hK9 := hK.sub (tys' := []) [] rfl
      exact W.iret hx hb hr (fun t ht hW => ⟨⟨(0), (), rfl, rfl, by rw [ht]; exact hP9, va_K.moved hW.alike hK9, hD9⟩, hS.F ht⟩) hS.2.2 dX13_widthOf_743
    rw [if_neg hs_89] at hsp
    by_cases hs_90 : a1 = 104
    · rw [if_pos hs_90] at hsp
      refine lv_tableIn (tgt := 738) hx hb dX13_widthOf_9 (by rw [hs_90]; decide) (by rw [hs_90]; decide) (off := 729) (by rw [hs_90]; rfl) (by decide) ?_
      refine lv_iconst (v := 1) hx hb dX13_widthOf_738 (by decide) ?_
      have hr0 := Option.some.inj hsp
      clear hsp
      subst hr0
      have hP9 := hP.sub (ws' := []) [] rfl
      have hD9 := hD.sub (ws' := []) [] (by decide) rfl
      have hK9 := hK.sub (tys' := []) [] rfl
      exact W.iret hx hb hr (fun t ht hW => ⟨⟨(1), (), rfl, rfl, by rw [ht]; exact hP9, va_K.moved hW.alike hK9, hD9⟩, hS.F ht⟩) hS.2.2 dX13_widthOf_739
    rw [if_neg hs_90] at hsp
    by_cases hs_91 : a1 = 105
    · rw [if_pos hs_91] at hsp
      refine lv_tableIn (tgt := 742) hx hb dX13_widthOf_9 (by rw [hs_91]; decide) (by rw [hs_91]; decide) (off := 733) (by rw [hs_91]; rfl) (by decide) ?_
      refine lv_iconst (v := 0) hx hb dX13_widthOf_742 (by decide) ?_
      have hr0 := Option.some.inj hsp
      clear hsp
      subst hr0
      have hP9 := hP.sub (ws' := []) [] rfl
      have hD9 := hD.sub (ws' := []) [] (by decide) rfl
      have hK9 := hK.sub (tys' := []) [] rfl
      exact W.iret hx hb hr (fun t ht hW => ⟨⟨(0), (), rfl, rfl, by rw [ht]; exact hP9, va_K.moved hW.alike hK9, hD9⟩, hS.F ht⟩) hS.2.2 dX13_widthOf_743
    rw [if_neg hs_91] at hsp
    by_cases hs_92 : a1 = 106
    · rw [if_pos hs_92] at hsp
      refine lv_tableIn (tgt := 742) hx hb dX13_widthOf_9 (by rw [hs_92]; decide) (by rw [hs_92]; decide) (off := 733) (by rw [hs_92]; rfl) (by decide) ?_
      refine lv_iconst (v := 0) hx hb dX13_widthOf_742 (by decide) ?_
      have hr0 := Option.some.inj hsp
      clear hsp
      subst hr0
      have hP9 := hP.sub (ws' := []) [] rfl
      have hD9 := hD.sub (ws' := []) [] (by decide) rfl
      have hK9 := hK.sub (tys' := []) [] rfl
      exact W.iret hx hb hr (fun t ht hW => ⟨⟨(0), (), rfl, rfl, by rw [ht]; exact hP9, va_K.moved hW.alike hK9, hD9⟩, hS.F ht⟩) hS.2.2 dX13_widthOf_743
    rw [if_neg hs_92] at hsp
    by_cases hs_93 : a1 = 107
    · rw [if_pos hs_93] at hsp
      refine lv_tableIn (tgt := 742) hx hb dX13_widthOf_9 (by rw [hs_93]; decide) (by rw [hs_93]; decide) (off := 733) (by rw [hs_93]; rfl) (by decide) ?_
      refine lv_iconst (v := 0) hx hb dX13_widthOf_742 (by decide) ?_
      have hr0 := Option.some.inj hsp
      clear hsp
      subst hr0
      have hP9 := hP.sub (ws' := []) [] rfl
      have hD9 := hD.sub (ws' := []) [] (by decide) rfl
      have hK9 := hK.sub (tys' := []) [] rfl
      exact W.iret hx hb hr (fun t ht hW => ⟨⟨(0), (), rfl, rfl, by rw [ht]; exact hP9, va_K.moved hW.alike hK9, hD9⟩, hS.F ht⟩) hS.2.2 dX13_widthOf_743
    rw [if_neg hs_93] at hsp
    by_cases hs_94 : a1 = 108
    · rw [if_pos hs_94] at hsp
      refine lv_tableIn (tgt := 738) hx hb dX13_widthOf_9 (by rw [hs_94]; decide) (by rw [hs_94]; decide) (off := 729) (by rw [hs_94]; rfl) (by decide) ?_
      refine lv_iconst (v := 1) hx hb dX13_widthOf_738 (by decide) ?_
      have hr0 := Option.some.inj hsp
      clear hsp
      subst hr0
      have hP9 := hP.sub (ws' := []) [] rfl
      have hD9 := hD.sub (ws' := []) [] (by decide) rfl
      have hK9 := hK.sub (tys' := []) [] rfl
      exact W.iret hx hb hr (fun t ht hW => ⟨⟨(1), (), rfl, rfl, by rw [ht]; exact hP9, va_K.moved hW.alike hK9, hD9⟩, hS.F ht⟩) hS.2.2 dX13_widthOf_739
    rw [if_neg hs_94] at hsp
    by_cases hs_95 : a1 = 109
    · rw [if_pos hs_95] at hsp
      refine lv_tableIn (tgt := 742) hx hb dX13_widthOf_9 (by rw [hs_95]; decide) (by rw [hs_95]; decide) (off := 733) (by rw [hs_95]; rfl) (by decide) ?_
      refine lv_iconst (v := 0) hx hb dX13_widthOf_742 (by decide) ?_
      have hr0 := Option.some.inj hsp
      clear hsp
      subst hr0
      have hP9 := hP.sub (ws' := []) [] rfl
      have hD9 := hD.sub (ws' := []) [] (by decide) rfl
      have hK9 := hK.sub (tys' := []) [] rfl
      exact W.iret hx hb hr (fun t ht hW => ⟨⟨(0), (), rfl, rfl, by rw [ht]; exact hP9, va_K.moved hW.alike hK9, hD9⟩, hS.F ht⟩) hS.2.2 dX13_widthOf_743
    rw [if_neg hs_95] at hsp
    by_cases hs_96 : a1 = 110
    · rw [if_pos hs_96] at hsp
      refine lv_tableIn (tgt := 742) hx hb dX13_widthOf_9 (by rw [hs_96]; decide) (by rw [hs_96]; decide) (off := 733) (by rw [hs_96]; rfl) (by decide) ?_
      refine lv_iconst (v := 0) hx hb dX13_widthOf_742 (by decide) ?_
      have hr0 := Option.some.inj hsp
      clear hsp
      subst hr0
      have hP9 := hP.sub (ws' := []) [] rfl
      have hD9 := hD.sub (ws' := []) [] (by decide) rfl
      have hK9 := hK.sub (tys' := []) [] rfl
      exact W.iret hx hb hr (fun t ht hW => ⟨⟨(0), (), rfl, rfl, by rw [ht]; exact hP9, va_K.moved hW.alike hK9, hD9⟩, hS.F ht⟩) hS.2.2 dX13_widthOf_743
    rw [if_neg hs_96] at hsp
    by_cases hs_97 : a1 = 111
    · rw [if_pos hs_97] at hsp
      refine lv_tableIn (tgt := 742) hx hb dX13_widthOf_9 (by rw [hs_97]; decide) (by rw [hs_97]; decide) (off := 733) (by rw [hs_97]; rfl) (by decide) ?_
      refine lv_iconst (v := 0) hx hb dX13_widthOf_742 (by decide) ?_
      have hr0 := Option.some.inj hsp
      clear hsp
      subst hr0
      have hP9 := hP.sub (ws' := []) [] rfl
      have hD9 := hD.sub (ws' := []) [] (by decide) rfl
      have hK9 := hK.sub (tys' := []) [] rfl
      exact W.iret hx hb hr (fun t ht hW => ⟨⟨(0), (), rfl, rfl, by rw [ht]; exact hP9, va_K.moved hW.alike hK9, hD9⟩, hS.F ht⟩) hS.2.2 dX13_widthOf_743
    rw [if_neg hs_97] at hsp
    by_cases hs_98 : a1 = 112
    · rw [if_pos hs_98] at hsp
      refine lv_tableIn (tgt := 738) hx hb dX13_widthOf_9 (by rw [hs_98]; decide) (by rw [hs_98]; decide) (off := 729) (by rw [hs_98]; rfl) (by decide) ?_
      refine lv_iconst (v := 1) hx hb dX13_widthOf_738 (by decide) ?_
      have hr0 := Option.some.inj hsp
      clear hsp
      subst hr0
      have hP9 := hP.sub (ws' := []) [] rfl
      have hD9 := hD.sub (ws' := []) [] (by decide) rfl
      have hK9 := hK.sub (tys' := []) [] rfl
      exact W.iret hx hb hr (fun t ht hW => ⟨⟨(1), (), rfl, rfl, by rw [ht]; exact hP9, va_K.moved hW.alike hK9, hD9⟩, hS.F ht⟩) hS.2.2 dX13_widthOf_739
    rw [if_neg hs_98] at hsp
    by_cases hs_99 : a1 = 113
    · rw [if_pos hs_99] at hsp
      refine lv_tableIn (tgt := 742) hx hb dX13_widthOf_9 (by rw [hs_99]; decide) (by rw [hs_99]; decide) (off := 733) (by rw [hs_99]; rfl) (by decide) ?_
      refine lv_iconst (v := 0) hx hb dX13_widthOf_742 (by decide) ?_
      have hr0 := Option.some.inj hsp
      clear hsp
      subst hr0
      have hP9 := hP.sub (ws' := []) [] rfl
      have hD9 := hD.sub (ws' := []) [] (by decide) rfl
      have hK9 := hK.sub (tys' := []) [] rfl
      exact W.iret hx hb hr (fun t ht hW => ⟨⟨(0), (), rfl, rfl, by rw [ht]; exact hP9, va_K.moved hW.alike hK9, hD9⟩, hS.F ht⟩) hS.2.2 dX13_widthOf_743
    rw [if_neg hs_99] at hsp
    by_cases hs_100 : a1 = 114
    · rw [if_pos hs_100] at hsp
      refine lv_tableIn (tgt := 742) hx hb dX13_widthOf_9 (by rw [hs_100]; decide) (by rw [hs_100]; decide) (off := 733) (by rw [hs_100]; rfl) (by decide) ?_
      refine lv_iconst (v := 0) hx hb dX13_widthOf_742 (by decide) ?_
      have hr0 := Option.some.inj hsp
      clear hsp
      subst hr0
      have hP9 := hP.sub (ws' := []) [] rfl
      have hD9 := hD.sub (ws' := []) [] (by decide) rfl
      have hK9 := hK.sub (tys' := []) [] rfl
      exact W.iret hx hb hr (fun t ht hW => ⟨⟨(0), (), rfl, rfl, by rw [ht]; exact hP9, va_K.moved hW.alike hK9, hD9⟩, hS.F ht⟩) hS.2.2 dX13_widthOf_743
    rw [if_neg hs_100] at hsp
    by_cases hs_101 : a1 = 115
    · rw [if_pos hs_101] at hsp
      refine lv_tableIn (tgt := 742) hx hb dX13_widthOf_9 (by rw [hs_101]; decide) (by rw [hs_101]; decide) (off := 733) (by rw [hs_101]; rfl) (by decide) ?_
      refine lv_iconst (v := 0) hx hb dX13_widthOf_742 (by decide) ?_
      have hr0 := Option.some.inj hsp
      clear hsp
      subst hr0
      have hP9 := hP.sub (ws' := []) [] rfl
      have hD9 := hD.sub (ws' := []) [] (by decide) rfl
      have hK9 := hK.sub (tys' := []) [] rfl
      exact W.iret hx hb hr (fun t ht hW => ⟨⟨(0), (), rfl, rfl, by rw [ht]; exact hP9, va_K.moved hW.alike hK9, hD9⟩, hS.F ht⟩) hS.2.2 dX13_widthOf_743
    rw [if_neg hs_101] at hsp
    by_cases hs_102 : a1 = 116
    · rw [if_pos hs_102] at hsp
      refine lv_tableIn (tgt := 738) hx hb dX13_widthOf_9 (by rw [hs_102]; decide) (by rw [hs_102]; decide) (off := 729) (by rw [hs_102]; rfl) (by decide) ?_
      refine lv_iconst (v := 1) hx hb dX13_widthOf_738 (by decide) ?_
      have hr0 := Option.some.inj hsp
      clear hsp
      subst hr0
      have hP9 := hP.sub (ws' := []) [] rfl
      have hD9 := hD.sub (ws' := []) [] (by decide) rfl
      have hK9 := hK.sub (tys' := []) [] rfl
      exact W.iret hx hb hr (fun t ht hW => ⟨⟨(1), (), rfl, rfl, by rw [ht]; exact hP9, va_K.moved hW.alike hK9, hD9⟩, hS.F ht⟩) hS.2.2 dX13_widthOf_739
    rw [if_neg hs_102] at hsp
    by_cases hs_103 : a1 = 117
    · rw [if_pos hs_103] at hsp
      refine lv_tableIn (tgt := 742) hx hb dX13_widthOf_9 (by rw [hs_103]; decide) (by rw [hs_103]; decide) (off := 733) (by rw [hs_103]; rfl) (by decide) ?_
      refine lv_iconst (v := 0) hx hb dX13_widthOf_742 (by decide) ?_
      have hr0 := Option.some.inj hsp
      clear hsp
      subst hr0
      have hP9 := hP.sub (ws' := []) [] rfl
      have hD9 := hD.sub (ws' := []) [] (by decide) rfl
      have hK9 := hK.sub (tys' := []) [] rfl
      exact W.iret hx hb hr (fun t ht hW => ⟨⟨(0), (), rfl, rfl, by rw [ht]; exact hP9, va_K.moved hW.alike hK9, hD9⟩, hS.F ht⟩) hS.2.2 dX13_widthOf_743
    rw [if_neg hs_103] at hsp
    by_cases hs_104 : a1 = 118
    · rw [if_pos hs_104] at hsp
      refine lv_tableIn (tgt := 742) hx hb dX13_widthOf_9 (by rw [hs_104]; decide) (by rw [hs_104]; decide) (off := 733) (by rw [hs_104]; rfl) (by decide) ?_
      refine lv_iconst (v := 0) hx hb dX13_widthOf_742 (by decide) ?_
      have hr0 := Option.some.inj hsp
      clear hsp
      subst hr0
      have hP9 := hP.sub (ws' := []) [] rfl
      have hD9 := hD.sub (ws' := []) [] (by decide) rfl
      have hK9 := hK.sub (tys' := []) [] rfl
      exact W.iret hx hb hr (fun t ht hW => ⟨⟨(0), (), rfl, rfl, by rw [ht]; exact hP9, va_K.moved hW.alike hK9, hD9⟩, hS.F ht⟩) hS.2.2 dX13_widthOf_743
    rw [if_neg hs_104] at hsp
    by_cases hs_105 : a1 = 119
    · rw [if_pos hs_105] at hsp
      refine lv_tableIn (tgt := 742) hx hb dX13_widthOf_9 (by rw [hs_105]; decide) (by rw [hs_105]; decide) (off := 733) (by rw [hs_105]; rfl) (by decide) ?_
      refine lv_iconst (v := 0) hx hb dX13_widthOf_742 (by decide) ?_
      have hr0 := Option.some.inj hsp
      clear hsp
      subst hr0
      have hP9 := hP.sub (ws' := []) [] rfl
      have hD9 := hD.sub (ws' := []) [] (by decide) rfl
      have hK9 := hK.sub (tys' := []) [] rfl
      exact W.iret hx hb hr (fun t ht hW => ⟨⟨(0), (), rfl, rfl, by rw [ht]; exact hP9, va_K.moved hW.alike hK9, hD9⟩, hS.F ht⟩) hS.2.2 dX13_widthOf_743
    rw [if_neg hs_105] at hsp
    by_cases hs_106 : a1 = 120
    · rw [if_pos hs_106] at hsp
      refine lv_tableIn (tgt := 738) hx hb dX13_widthOf_9 (by rw [hs_106]; decide) (by rw [hs_106]; decide) (off := 729) (by rw [hs_106]; rfl) (by decide) ?_
      refine lv_iconst (v := 1) hx hb dX13_widthOf_738 (by decide) ?_
      have hr0 := Option.some.inj hsp
      clear hsp
      subst hr0
      have hP9 := hP.sub (ws' := []) [] rfl
      have hD9 := hD.sub (ws' := []) [] (by decide) rfl
      have hK9 := hK.sub (tys' := []) [] rfl
      exact W.iret hx hb hr (fun t ht hW => ⟨⟨(1), (), rfl, rfl, by rw [ht]; exact hP9, va_K.moved hW.alike hK9, hD9⟩, hS.F ht⟩) hS.2.2 dX13_widthOf_739
    rw [if_neg hs_106] at hsp
    by_cases hs_107 : a1 = 121
    · rw [if_pos hs_107] at hsp
      refine lv_tableIn (tgt := 742) hx hb dX13_widthOf_9 (by rw [hs_107]; decide) (by rw [hs_107]; decide) (off := 733) (by rw [hs_107]; rfl) (by decide) ?_
      refine lv_iconst (v := 0) hx hb dX13_widthOf_742 (by decide) ?_
      have hr0 := Option.some.inj hsp
      clear hsp
      subst hr0
      have hP9 := hP.sub (ws' := []) [] rfl
      have hD9 := hD.sub (ws' := []) [] (by decide) rfl
      have hK9 := hK.sub (tys' := []) [] rfl
      exact W.iret hx hb hr (fun t ht hW => ⟨⟨(0), (), rfl, rfl, by rw [ht]; exact hP9, va_K.moved hW.alike hK9, hD9⟩, hS.F ht⟩) hS.2.2 dX13_widthOf_743
    rw [if_neg hs_107] at hsp
    by_cases hs_108 : a1 = 122
    · rw [if_pos hs_108] at hsp
      refine lv_tableIn (tgt := 738) hx hb dX13_widthOf_9 (by rw [hs_108]; decide) (by rw [hs_108]; decide) (off := 729) (by rw [hs_108]; rfl) (by decide) ?_
      refine lv_iconst (v := 1) hx hb dX13_widthOf_738 (by decide) ?_
      have hr0 := Option.some.inj hsp
      clear hsp
      subst hr0
      have hP9 := hP.sub (ws' := []) [] rfl
      have hD9 := hD.sub (ws' := []) [] (by decide) rfl
      have hK9 := hK.sub (tys' := []) [] rfl
      exact W.iret hx hb hr (fun t ht hW => ⟨⟨(1), (), rfl, rfl, by rw [ht]; exact hP9, va_K.moved hW.alike hK9, hD9⟩, hS.F ht⟩) hS.2.2 dX13_widthOf_739
    rw [if_neg hs_108] at hsp
    by_cases hs_109 : a1 = 123
    · rw [if_pos hs_109] at hsp
      refine lv_tableIn (tgt := 742) hx hb dX13_widthOf_9 (by rw [hs_109]; decide) (by rw [hs_109]; decide) (off := 733) (by rw [hs_109]; rfl) (by decide) ?_
      refine lv_iconst (v := 0) hx hb dX13_widthOf_742 (by decide) ?_
      have hr0 := Option.some.inj hsp
      clear hsp
      subst hr0
      have hP9 := hP.sub (ws' := []) [] rfl
      have hD9 := hD.sub (ws' := []) [] (by decide) rfl
      have hK9 := hK.sub (tys' := []) [] rfl
      exact W.iret hx hb hr (fun t ht hW => ⟨⟨(0), (), rfl, rfl, by rw [ht]; exact hP9, va_K.moved hW.alike hK9, hD9⟩, hS.F ht⟩) hS.2.2 dX13_widthOf_743
    rw [if_neg hs_109] at hsp
    by_cases hs_110 : a1 = 124
    · rw [if_pos hs_110] at hsp
      refine lv_tableIn (tgt := 738) hx hb dX13_widthOf_9 (by rw [hs_110]; decide) (by rw [hs_110]; decide) (off := 729) (by rw [hs_110]; rfl) (by decide) ?_
      refine lv_iconst (v := 1) hx hb dX13_widthOf_738 (by decide) ?_
      have hr0 := Option.some.inj hsp
      clear hsp
      subst hr0
      have hP9 := hP.sub (ws' := []) [] rfl
      have hD9 := hD.sub (ws' := []) [] (by decide) rfl
      have hK9 := hK.sub (tys' := []) [] rfl
      exact W.iret hx hb hr (fun t ht hW => ⟨⟨(1), (), rfl, rfl, by rw [ht]; exact hP9, va_K.moved hW.alike hK9, hD9⟩, hS.F ht⟩) hS.2.2 dX13_widthOf_739
    rw [if_neg hs_110] at hsp
    by_cases hs_111 : a1 = 125
    · rw [if_pos hs_111] at hsp
      refine lv_tableIn (tgt := 742) hx hb dX13_widthOf_9 (by rw [hs_111]; decide) (by rw [hs_111]; decide) (off := 733) (by rw [hs_111]; rfl) (by decide) ?_
      refine lv_iconst (v := 0) hx hb dX13_widthOf_742 (by decide) ?_
      have hr0 := Option.some.inj hsp
      clear hsp
      subst hr0
      have hP9 := hP.sub (ws' := []) [] rfl
      have hD9 := hD.sub (ws' := []) [] (by decide) rfl
      have hK9 := hK.sub (tys' := []) [] rfl
      exact W.iret hx hb hr (fun t ht hW => ⟨⟨(0), (), rfl, rfl, by rw [ht]; exact hP9, va_K.moved hW.alike hK9, hD9⟩, hS.F ht⟩) hS.2.2 dX13_widthOf_743
    rw [if_neg hs_111] at hsp
    by_cases hs_112 : a1 = 126
    · rw [if_pos hs_112] at hsp
      refine lv_tableIn (tgt := 738) hx hb dX13_widthOf_9 (by rw [hs_112]; decide) (by rw [hs_112]; decide) (off := 729) (by rw [hs_112]; rfl) (by decide) ?_
      refine lv_iconst (v := 1) hx hb dX13_widthOf_738 (by decide) ?_
      have hr0 := Option.some.inj hsp
      clear hsp
      subst hr0
      have hP9 := hP.sub (ws' := []) [] rfl
      have hD9 := hD.sub (ws' := []) [] (by decide) rfl
      have hK9 := hK.sub (tys' := []) [] rfl
      exact W.iret hx hb hr (fun t ht hW => ⟨⟨(1), (), rfl, rfl, by rw [ht]; exact hP9, va_K.moved hW.alike hK9, hD9⟩, hS.F ht⟩) hS.2.2 dX13_widthOf_739
    rw [if_neg hs_112] at hsp
    by_cases hs_113 : a1 = 127
    · rw [if_pos hs_113] at hsp
      refine lv_tableIn (tgt := 742) hx hb dX13_widthOf_9 (by rw [hs_113]; decide) (by rw [hs_113]; decide) (off := 733) (by rw [hs_113]; rfl) (by decide) ?_
      refine lv_iconst (v := 0) hx hb dX13_widthOf_742 (by decide) ?_
      have hr0 := Option.some.inj hsp
      clear hsp
      subst hr0
      have hP9 := hP.sub (ws' := []) [] rfl
      have hD9 := hD.sub (ws' := []) [] (by decide) rfl
      have hK9 := hK.sub (tys' := []) [] rfl
      exact W.iret hx hb hr (fun t ht hW => ⟨⟨(0), (), rfl, rfl, by rw [ht]; exact hP9, va_K.moved hW.alike hK9, hD9⟩, hS.F ht⟩) hS.2.2 dX13_widthOf_743
    rw [if_neg hs_113] at hsp
    by_cases hs_114 : a1 = 128
    · rw [if_pos hs_114] at hsp
      refine lv_tableIn (tgt := 738) hx hb dX13_widthOf_9 (by rw [hs_114]; decide) (by rw [hs_114]; decide) (off := 729) (by rw [hs_114]; rfl) (by decide) ?_
      refine lv_iconst (v := 1) hx hb dX13_widthOf_738 (by decide) ?_
      have hr0 := Option.some.inj hsp
      clear hsp
      subst hr0
      have hP9 := hP.sub (ws' := []) [] rfl
      have hD9 := hD.sub (ws' := []) [] (by decide) rfl
      have hK9 := hK.sub (tys' := []) [] rfl
      exact W.iret hx hb hr (fun t ht hW => ⟨⟨(1), (), rfl, rfl, by rw [ht]; exact hP9, va_K.moved hW.alike hK9, hD9⟩, hS.F ht⟩) hS.2.2 dX13_widthOf_739
    rw [if_neg hs_114] at hsp
    by_cases hs_115 : a1 = 129
    · rw [if_pos hs_115] at hsp
      refine lv_tableIn (tgt := 742) hx hb dX13_widthOf_9 (by rw [hs_115]; decide) (by rw [hs_115]; decide) (off := 733) (by rw [hs_115]; rfl) (by decide) ?_
      refine lv_iconst (v := 0) hx hb dX13_widthOf_742 (by decide) ?_
      have hr0 := Option.some.inj hsp
      clear hsp
      subst hr0
      have hP9 := hP.sub (ws' := []) [] rfl
      have hD9 := hD.sub (ws' := []) [] (by decide) rfl
      have hK9 := hK.sub (tys' := []) [] rfl
      exact W.iret hx hb hr (fun t ht hW => ⟨⟨(0), (), rfl, rfl, by rw [ht]; exact hP9, va_K.moved hW.alike hK9, hD9⟩, hS.F ht⟩) hS.2.2 dX13_widthOf_743
    rw [if_neg hs_115] at hsp
    by_cases hs_116 : a1 = 130
    · rw [if_pos hs_116] at hsp
      refine lv_tableIn (tgt := 738) hx hb dX13_widthOf_9 (by rw [hs_116]; decide) (by rw [hs_116]; decide) (off := 729) (by rw [hs_116]; rfl) (by decide) ?_
      refine lv_iconst (v := 1) hx hb dX13_widthOf_738 (by decide) ?_
      have hr0 := Option.some.inj hsp
      clear hsp
      subst hr0
      have hP9 := hP.sub (ws' := []) [] rfl
      have hD9 := hD.sub (ws' := []) [] (by decide) rfl
      have hK9 := hK.sub (tys' := []) [] rfl
      exact W.iret hx hb hr (fun t ht hW => ⟨⟨(1), (), rfl, rfl, by rw [ht]; exact hP9, va_K.moved hW.alike hK9, hD9⟩, hS.F ht⟩) hS.2.2 dX13_widthOf_739
    rw [if_neg hs_116] at hsp
    by_cases hs_117 : a1 = 131
    · rw [if_pos hs_117] at hsp
      refine lv_tableIn (tgt := 742) hx hb dX13_widthOf_9 (by rw [hs_117]; decide) (by rw [hs_117]; decide) (off := 733) (by rw [hs_117]; rfl) (by decide) ?_
      refine lv_iconst (v := 0) hx hb dX13_widthOf_742 (by decide) ?_
      have hr0 := Option.some.inj hsp
      clear hsp
      subst hr0
      have hP9 := hP.sub (ws' := []) [] rfl
      have hD9 := hD.sub (ws' := []) [] (by decide) rfl
      have hK9 := hK.sub (tys' := []) [] rfl
      exact W.iret hx hb hr (fun t ht hW => ⟨⟨(0), (), rfl, rfl, by rw [ht]; exact hP9, va_K.moved hW.alike hK9, hD9⟩, hS.F ht⟩) hS.2.2 dX13_widthOf_743
    rw [if_neg hs_117] at hsp
    by_cases hs_118 : a1 = 132
    · rw [if_pos hs_118] at hsp
      refine lv_tableIn (tgt := 742) hx hb dX13_widthOf_9 (by rw [hs_118]; decide) (by rw [hs_118]; decide) (off := 733) (by rw [hs_118]; rfl) (by decide) ?_
      refine lv_iconst (v := 0) hx hb dX13_widthOf_742 (by decide) ?_
      have hr0 := Option.some.inj hsp
      clear hsp
      subst hr0
      have hP9 := hP.sub (ws' := []) [] rfl
      have hD9 := hD.sub (ws' := []) [] (by decide) rfl
      have hK9 := hK.sub (tys' := []) [] rfl
      exact W.iret hx hb hr (fun t ht hW => ⟨⟨(0), (), rfl, rfl, by rw [ht]; exact hP9, va_K.moved hW.alike hK9, hD9⟩, hS.F ht⟩) hS.2.2 dX13_widthOf_743
    rw [if_neg hs_118] at hsp
    by_cases hs_119 : a1 = 133
    · rw [if_pos hs_119] at hsp
      refine lv_tableIn (tgt := 742) hx hb dX13_widthOf_9 (by rw [hs_119]; decide) (by rw [hs_119]; decide) (off := 733) (by rw [hs_119]; rfl) (by decide) ?_
      refine lv_iconst (v := 0) hx hb dX13_widthOf_742 (by decide) ?_
      have hr0 := Option.some.inj hsp
      clear hsp
      subst hr0
      have hP9 := hP.sub (ws' := []) [] rfl
      have hD9 := hD.sub (ws' := []) [] (by decide) rfl
      have hK9 := hK.sub (tys' := []) [] rfl
      exact W.iret hx hb hr (fun t ht hW => ⟨⟨(0), (), rfl, rfl, by rw [ht]; exact hP9, va_K.moved hW.alike hK9, hD9⟩, hS.F ht⟩) hS.2.2 dX13_widthOf_743
    rw [if_neg hs_119] at hsp
    by_cases hs_120 : a1 = 134
    · rw [if_pos hs_120] at hsp
      refine lv_tableIn (tgt := 742) hx hb dX13_widthOf_9 (by rw [hs_120]; decide) (by rw [hs_120]; decide) (off := 733) (by rw [hs_120]; rfl) (by decide) ?_
      refine lv_iconst (v := 0) hx hb dX13_widthOf_742 (by decide) ?_
      have hr0 := Option.some.inj hsp
      clear hsp
      subst hr0
      have hP9 := hP.sub (ws' := []) [] rfl
      have hD9 := hD.sub (ws' := []) [] (by decide) rfl
      have hK9 := hK.sub (tys' := []) [] rfl
      exact W.iret hx hb hr (fun t ht hW => ⟨⟨(0), (), rfl, rfl, by rw [ht]; exact hP9, va_K.moved hW.alike hK9, hD9⟩, hS.F ht⟩) hS.2.2 dX13_widthOf_743
    rw [if_neg hs_120] at hsp
    by_cases hs_121 : a1 = 135
    · rw [if_pos hs_121] at hsp
      refine lv_tableIn (tgt := 742) hx hb dX13_widthOf_9 (by rw [hs_121]; decide) (by rw [hs_121]; decide) (off := 733) (by rw [hs_121]; rfl) (by decide) ?_
      refine lv_iconst (v := 0) hx hb dX13_widthOf_742 (by decide) ?_
      have hr0 := Option.some.inj hsp
      clear hsp
      subst hr0
      have hP9 := hP.sub (ws' := []) [] rfl
      have hD9 := hD.sub (ws' := []) [] (by decide) rfl
      have hK9 := hK.sub (tys' := []) [] rfl
      exact W.iret hx hb hr (fun t ht hW => ⟨⟨(0), (), rfl, rfl, by rw [ht]; exact hP9, va_K.moved hW.alike hK9, hD9⟩, hS.F ht⟩) hS.2.2 dX13_widthOf_743
    rw [if_neg hs_121] at hsp
    by_cases hs_122 : a1 = 136
    · rw [if_pos hs_122] at hsp
      refine lv_tableIn (tgt := 742) hx hb dX13_widthOf_9 (by rw [hs_122]; decide) (by rw [hs_122]; decide) (off := 733) (by rw [hs_122]; rfl) (by decide) ?_
      refine lv_iconst (v := 0) hx hb dX13_widthOf_742 (by decide) ?_
      have hr0 := Option.some.inj hsp
      clear hsp
      subst hr0
      have hP9 := hP.sub (ws' := []) [] rfl
      have hD9 := hD.sub (ws' := []) [] (by decide) rfl
      have hK9 := hK.sub (tys' := []) [] rfl
      exact W.iret hx hb hr (fun t ht hW => ⟨⟨(0), (), rfl, rfl, by rw [ht]; exact hP9, va_K.moved hW.alike hK9, hD9⟩, hS.F ht⟩) hS.2.2 dX13_widthOf_743
    rw [if_neg hs_122] at hsp
    by_cases hs_123 : a1 = 137
    · rw [if_pos hs_123] at hsp
      refine lv_tableIn (tgt := 742) hx hb dX13_widthOf_9 (by rw [hs_123]; decide) (by rw [hs_123]; decide) (off := 733) (by rw [hs_123]; rfl) (by decide) ?_
      refine lv_iconst (v := 0) hx hb dX13_widthOf_742 (by decide) ?_
      have hr0 := Option.some.inj hsp
      clear hsp
      subst hr0
      have hP9 := hP.sub (ws' := []) [] rfl
      have hD9 := hD.sub (ws' := []) [] (by decide) rfl
      have hK9 := hK.sub (tys' := []) [] rfl
      exact W.iret hx hb hr (fun t ht hW => ⟨⟨(0), (), rfl, rfl, by rw [ht]; exact hP9, va_K.moved hW.alike hK9, hD9⟩, hS.F ht⟩) hS.2.2 dX13_widthOf_743
    rw [if_neg hs_123] at hsp
    by_cases hs_124 : a1 = 138
    · rw [if_pos hs_124] at hsp
      refine lv_tableIn (tgt := 742) hx hb dX13_widthOf_9 (by rw [hs_124]; decide) (by rw [hs_124]; decide) (off := 733) (by rw [hs_124]; rfl) (by decide) ?_
      refine lv_iconst (v := 0) hx hb dX13_widthOf_742 (by decide) ?_
      have hr0 := Option.some.inj hsp
      clear hsp
      subst hr0
      have hP9 := hP.sub (ws' := []) [] rfl
      have hD9 := hD.sub (ws' := []) [] (by decide) rfl
      have hK9 := hK.sub (tys' := []) [] rfl
      exact W.iret hx hb hr (fun t ht hW => ⟨⟨(0), (), rfl, rfl, by rw [ht]; exact hP9, va_K.moved hW.alike hK9, hD9⟩, hS.F ht⟩) hS.2.2 dX13_widthOf_743
    rw [if_neg hs_124] at hsp
    by_cases hs_125 : a1 = 139
    · rw [if_pos hs_125] at hsp
      refine lv_tableIn (tgt := 742) hx hb dX13_widthOf_9 (by rw [hs_125]; decide) (by rw [hs_125]; decide) (off := 733) (by rw [hs_125]; rfl) (by decide) ?_
      refine lv_iconst (v := 0) hx hb dX13_widthOf_742 (by decide) ?_
      have hr0 := Option.some.inj hsp
      clear hsp
      subst hr0
      have hP9 := hP.sub (ws' := []) [] rfl
      have hD9 := hD.sub (ws' := []) [] (by decide) rfl
      have hK9 := hK.sub (tys' := []) [] rfl
      exact W.iret hx hb hr (fun t ht hW => ⟨⟨(0), (), rfl, rfl, by rw [ht]; exact hP9, va_K.moved hW.alike hK9, hD9⟩, hS.F ht⟩) hS.2.2 dX13_widthOf_743
    rw [if_neg hs_125] at hsp
    by_cases hs_126 : a1 = 140
    · rw [if_pos hs_126] at hsp
      refine lv_tableIn (tgt := 742) hx hb dX13_widthOf_9 (by rw [hs_126]; decide) (by rw [hs_126]; decide) (off := 733) (by rw [hs_126]; rfl) (by decide) ?_
      refine lv_iconst (v := 0) hx hb dX13_widthOf_742 (by decide) ?_
      have hr0 := Option.some.inj hsp
      clear hsp
      subst hr0
      have hP9 := hP.sub (ws' := []) [] rfl
      have hD9 := hD.sub (ws' := []) [] (by decide) rfl
      have hK9 := hK.sub (tys' := []) [] rfl
      exact W.iret hx hb hr (fun t ht hW => ⟨⟨(0), (), rfl, rfl, by rw [ht]; exact hP9, va_K.moved hW.alike hK9, hD9⟩, hS.F ht⟩) hS.2.2 dX13_widthOf_743
    rw [if_neg hs_126] at hsp
    by_cases hs_127 : a1 = 141
    · rw [if_pos hs_127] at hsp
      refine lv_tableIn (tgt := 742) hx hb dX13_widthOf_9 (by rw [hs_127]; decide) (by rw [hs_127]; decide) (off := 733) (by rw [hs_127]; rfl) (by decide) ?_
      refine lv_iconst (v := 0) hx hb dX13_widthOf_742 (by decide) ?_
      have hr0 := Option.some.inj hsp
      clear hsp
      subst hr0
      have hP9 := hP.sub (ws' := []) [] rfl
      have hD9 := hD.sub (ws' := []) [] (by decide) rfl
      have hK9 := hK.sub (tys' := []) [] rfl
      exact W.iret hx hb hr (fun t ht hW => ⟨⟨(0), (), rfl, rfl, by rw [ht]; exact hP9, va_K.moved hW.alike hK9, hD9⟩, hS.F ht⟩) hS.2.2 dX13_widthOf_743
    rw [if_neg hs_127] at hsp
    by_cases hs_128 : a1 = 142
    · rw [if_pos hs_128] at hsp
      refine lv_tableIn (tgt := 742) hx hb dX13_widthOf_9 (by rw [hs_128]; decide) (by rw [hs_128]; decide) (off := 733) (by rw [hs_128]; rfl) (by decide) ?_
      refine lv_iconst (v := 0) hx hb dX13_widthOf_742 (by decide) ?_
      have hr0 := Option.some.inj hsp
      clear hsp
      subst hr0
      have hP9 := hP.sub (ws' := []) [] rfl
      have hD9 := hD.sub (ws' := []) [] (by decide) rfl
      have hK9 := hK.sub (tys' := []) [] rfl
      exact W.iret hx hb hr (fun t ht hW => ⟨⟨(0), (), rfl, rfl, by rw [ht]; exact hP9, va_K.moved hW.alike hK9, hD9⟩, hS.F ht⟩) hS.2.2 dX13_widthOf_743
    rw [if_neg hs_128] at hsp
    by_cases hs_129 : a1 = 143
    · rw [if_pos hs_129] at hsp
      refine lv_tableIn (tgt := 742) hx hb dX13_widthOf_9 (by rw [hs_129]; decide) (by rw [hs_129]; decide) (off := 733) (by rw [hs_129]; rfl) (by decide) ?_
      refine lv_iconst (v := 0) hx hb dX13_widthOf_742 (by decide) ?_
      have hr0 := Option.some.inj hsp
      clear hsp
      subst hr0
      have hP9 := hP.sub (ws' := []) [] rfl
      have hD9 := hD.sub (ws' := []) [] (by decide) rfl
      have hK9 := hK.sub (tys' := []) [] rfl
      exact W.iret hx hb hr (fun t ht hW => ⟨⟨(0), (), rfl, rfl, by rw [ht]; exact hP9, va_K.moved hW.alike hK9, hD9⟩, hS.F ht⟩) hS.2.2 dX13_widthOf_743
    rw [if_neg hs_129] at hsp
    by_cases hs_130 : a1 = 144
    · rw [if_pos hs_130] at hsp
      refine lv_tableIn (tgt := 742) hx hb dX13_widthOf_9 (by rw [hs_130]; decide) (by rw [hs_130]; decide) (off := 733) (by rw [hs_130]; rfl) (by decide) ?_
      refine lv_iconst (v := 0) hx hb dX13_widthOf_742 (by decide) ?_
      have hr0 := Option.some.inj hsp
      clear hsp
      subst hr0
      have hP9 := hP.sub (ws' := []) [] rfl
      have hD9 := hD.sub (ws' := []) [] (by decide) rfl
      have hK9 := hK.sub (tys' := []) [] rfl
      exact W.iret hx hb hr (fun t ht hW => ⟨⟨(0), (), rfl, rfl, by rw [ht]; exact hP9, va_K.moved hW.alike hK9, hD9⟩, hS.F ht⟩) hS.2.2 dX13_widthOf_743
    rw [if_neg hs_130] at hsp
    by_cases hs_131 : a1 = 145
    · rw [if_pos hs_131] at hsp
      refine lv_tableIn (tgt := 742) hx hb dX13_widthOf_9 (by rw [hs_131]; decide) (by rw [hs_131]; decide) (off := 733) (by rw [hs_131]; rfl) (by decide) ?_
      refine lv_iconst (v := 0) hx hb dX13_widthOf_742 (by decide) ?_
      have hr0 := Option.some.inj hsp
      clear hsp
      subst hr0
      have hP9 := hP.sub (ws' := []) [] rfl
      have hD9 := hD.sub (ws' := []) [] (by decide) rfl
      have hK9 := hK.sub (tys' := []) [] rfl
      exact W.iret hx hb hr (fun t ht hW => ⟨⟨(0), (), rfl, rfl, by rw [ht]; exact hP9, va_K.moved hW.alike hK9, hD9⟩, hS.F ht⟩) hS.2.2 dX13_widthOf_743
    rw [if_neg hs_131] at hsp
    by_cases hs_132 : a1 = 146
    · rw [if_pos hs_132] at hsp
      refine lv_tableIn (tgt := 742) hx hb dX13_widthOf_9 (by rw [hs_132]; decide) (by rw [hs_132]; decide) (off := 733) (by rw [hs_132]; rfl) (by decide) ?_
      refine lv_iconst (v := 0) hx hb dX13_widthOf_742 (by decide) ?_
      have hr0 := Option.some.inj hsp
      clear hsp
      subst hr0
      have hP9 := hP.sub (ws' := []) [] rfl
      have hD9 := hD.sub (ws' := []) [] (by decide) rfl
      have hK9 := hK.sub (tys' := []) [] rfl
      exact W.iret hx hb hr (fun t ht hW => ⟨⟨(0), (), rfl, rfl, by rw [ht]; exact hP9, va_K.moved hW.alike hK9, hD9⟩, hS.F ht⟩) hS.2.2 dX13_widthOf_743
    rw [if_neg hs_132] at hsp
    by_cases hs_133 : a1 = 147
    · rw [if_pos hs_133] at hsp
      refine lv_tableIn (tgt := 742) hx hb dX13_widthOf_9 (by rw [hs_133]; decide) (by rw [hs_133]; decide) (off := 733) (by rw [hs_133]; rfl) (by decide) ?_
      refine lv_iconst (v := 0) hx hb dX13_widthOf_742 (by decide) ?_
      have hr0 := Option.some.inj hsp
      clear hsp
      subst hr0
      have hP9 := hP.sub (ws' := []) [] rfl
      have hD9 := hD.sub (ws' := []) [] (by decide) rfl
      have hK9 := hK.sub (tys' := []) [] rfl
      exact W.iret hx hb hr (fun t ht hW => ⟨⟨(0), (), rfl, rfl, by rw [ht]; exact hP9, va_K.moved hW.alike hK9, hD9⟩, hS.F ht⟩) hS.2.2 dX13_widthOf_743
    rw [if_neg hs_133] at hsp
    by_cases hs_134 : a1 = 148
    · rw [if_pos hs_134] at hsp
      refine lv_tableIn (tgt := 742) hx hb dX13_widthOf_9 (by rw [hs_134]; decide) (by rw [hs_134]; decide) (off := 733) (by rw [hs_134]; rfl) (by decide) ?_
      refine lv_iconst (v := 0) hx hb dX13_widthOf_742 (by decide) ?_
      have hr0 := Option.some.inj hsp
      clear hsp
      subst hr0
      have hP9 := hP.sub (ws' := []) [] rfl
      have hD9 := hD.sub (ws' := []) [] (by decide) rfl
      have hK9 := hK.sub (tys' := []) [] rfl
      exact W.iret hx hb hr (fun t ht hW => ⟨⟨(0), (), rfl, rfl, by rw [ht]; exact hP9, va_K.moved hW.alike hK9, hD9⟩, hS.F ht⟩) hS.2.2 dX13_widthOf_743
    rw [if_neg hs_134] at hsp
    by_cases hs_135 : a1 = 149
    · rw [if_pos hs_135] at hsp
      refine lv_tableIn (tgt := 742) hx hb dX13_widthOf_9 (by rw [hs_135]; decide) (by rw [hs_135]; decide) (off := 733) (by rw [hs_135]; rfl) (by decide) ?_
      refine lv_iconst (v := 0) hx hb dX13_widthOf_742 (by decide) ?_
      have hr0 := Option.some.inj hsp
      clear hsp
      subst hr0
      have hP9 := hP.sub (ws' := []) [] rfl
      have hD9 := hD.sub (ws' := []) [] (by decide) rfl
      have hK9 := hK.sub (tys' := []) [] rfl
      exact W.iret hx hb hr (fun t ht hW => ⟨⟨(0), (), rfl, rfl, by rw [ht]; exact hP9, va_K.moved hW.alike hK9, hD9⟩, hS.F ht⟩) hS.2.2 dX13_widthOf_743
    rw [if_neg hs_135] at hsp
    by_cases hs_136 : a1 = 150
    · rw [if_pos hs_136] at hsp
      refine lv_tableIn (tgt := 742) hx hb dX13_widthOf_9 (by rw [hs_136]; decide) (by rw [hs_136]; decide) (off := 733) (by rw [hs_136]; rfl) (by decide) ?_
      refine lv_iconst (v := 0) hx hb dX13_widthOf_742 (by decide) ?_
      have hr0 := Option.some.inj hsp
      clear hsp
      subst hr0
      have hP9 := hP.sub (ws' := []) [] rfl
      have hD9 := hD.sub (ws' := []) [] (by decide) rfl
      have hK9 := hK.sub (tys' := []) [] rfl
      exact W.iret hx hb hr (fun t ht hW => ⟨⟨(0), (), rfl, rfl, by rw [ht]; exact hP9, va_K.moved hW.alike hK9, hD9⟩, hS.F ht⟩) hS.2.2 dX13_widthOf_743
    rw [if_neg hs_136] at hsp
    by_cases hs_137 : a1 = 151
    · rw [if_pos hs_137] at hsp
      refine lv_tableIn (tgt := 742) hx hb dX13_widthOf_9 (by rw [hs_137]; decide) (by rw [hs_137]; decide) (off := 733) (by rw [hs_137]; rfl) (by decide) ?_
      refine lv_iconst (v := 0) hx hb dX13_widthOf_742 (by decide) ?_
      have hr0 := Option.some.inj hsp
      clear hsp
      subst hr0
      have hP9 := hP.sub (ws' := []) [] rfl
      have hD9 := hD.sub (ws' := []) [] (by decide) rfl
      have hK9 := hK.sub (tys' := []) [] rfl
      exact W.iret hx hb hr (fun t ht hW => ⟨⟨(0), (), rfl, rfl, by rw [ht]; exact hP9, va_K.moved hW.alike hK9, hD9⟩, hS.F ht⟩) hS.2.2 dX13_widthOf_743
    rw [if_neg hs_137] at hsp
    by_cases hs_138 : a1 = 152
    · rw [if_pos hs_138] at hsp
      refine lv_tableIn (tgt := 742) hx hb dX13_widthOf_9 (by rw [hs_138]; decide) (by rw [hs_138]; decide) (off := 733) (by rw [hs_138]; rfl) (by decide) ?_
      refine lv_iconst (v := 0) hx hb dX13_widthOf_742 (by decide) ?_
      have hr0 := Option.some.inj hsp
      clear hsp
      subst hr0
      have hP9 := hP.sub (ws' := []) [] rfl
      have hD9 := hD.sub (ws' := []) [] (by decide) rfl
      have hK9 := hK.sub (tys' := []) [] rfl
      exact W.iret hx hb hr (fun t ht hW => ⟨⟨(0), (), rfl, rfl, by rw [ht]; exact hP9, va_K.moved hW.alike hK9, hD9⟩, hS.F ht⟩) hS.2.2 dX13_widthOf_743
    rw [if_neg hs_138] at hsp
    by_cases hs_139 : a1 = 153
    · rw [if_pos hs_139] at hsp
      refine lv_tableIn (tgt := 740) hx hb dX13_widthOf_9 (by rw [hs_139]; decide) (by rw [hs_139]; decide) (off := 731) (by rw [hs_139]; rfl) (by decide) ?_
      refine lv_iconst (v := 3) hx hb dX13_widthOf_740 (by decide) ?_
      have hr0 := Option.some.inj hsp
      clear hsp
      subst hr0
      have hP9 := hP.sub (ws' := []) [] rfl
      have hD9 := hD.sub (ws' := []) [] (by decide) rfl
      have hK9 := hK.sub (tys' := []) [] rfl
      exact W.iret hx hb hr (fun t ht hW => ⟨⟨(3), (), rfl, rfl, by rw [ht]; exact hP9, va_K.moved hW.alike hK9, hD9⟩, hS.F ht⟩) hS.2.2 dX13_widthOf_741
    rw [if_neg hs_139] at hsp
    by_cases hs_140 : a1 = 154
    · rw [if_pos hs_140] at hsp
      refine lv_tableIn (tgt := 740) hx hb dX13_widthOf_9 (by rw [hs_140]; decide) (by rw [hs_140]; decide) (off := 731) (by rw [hs_140]; rfl) (by decide) ?_
      refine lv_iconst (v := 3) hx hb dX13_widthOf_740 (by decide) ?_
      have hr0 := Option.some.inj hsp
      clear hsp
      subst hr0
      have hP9 := hP.sub (ws' := []) [] rfl
      have hD9 := hD.sub (ws' := []) [] (by decide) rfl
      have hK9 := hK.sub (tys' := []) [] rfl
      exact W.iret hx hb hr (fun t ht hW => ⟨⟨(3), (), rfl, rfl, by rw [ht]; exact hP9, va_K.moved hW.alike hK9, hD9⟩, hS.F ht⟩) hS.2.2 dX13_widthOf_741
    rw [if_neg hs_140] at hsp
    by_cases hs_141 : a1 = 155
    · rw [if_pos hs_141] at hsp
      refine lv_tableIn (tgt := 742) hx hb dX13_widthOf_9 (by rw [hs_141]; decide) (by rw [hs_141]; decide) (off := 733) (by rw [hs_141]; rfl) (by decide) ?_
      refine lv_iconst (v := 0) hx hb dX13_widthOf_742 (by decide) ?_
      have hr0 := Option.some.inj hsp
      clear hsp
      subst hr0
      have hP9 := hP.sub (ws' := []) [] rfl
      have hD9 := hD.sub (ws' := []) [] (by decide) rfl
      have hK9 := hK.sub (tys' := []) [] rfl
      exact W.iret hx hb hr (fun t ht hW => ⟨⟨(0), (), rfl, rfl, by rw [ht]; exact hP9, va_K.moved hW.alike hK9, hD9⟩, hS.F ht⟩) hS.2.2 dX13_widthOf_743
    rw [if_neg hs_141] at hsp
    by_cases hs_142 : a1 = 156
    · rw [if_pos hs_142] at hsp
      refine lv_tableIn (tgt := 742) hx hb dX13_widthOf_9 (by rw [hs_142]; decide) (by rw [hs_142]; decide) (off := 733) (by rw [hs_142]; rfl) (by decide) ?_
      refine lv_iconst (v := 0) hx hb dX13_widthOf_742 (by decide) ?_
      have hr0 := Option.some.inj hsp
      clear hsp
      subst hr0
      have hP9 := hP.sub (ws' := []) [] rfl
      have hD9 := hD.sub (ws' := []) [] (by decide) rfl
      have hK9 := hK.sub (tys' := []) [] rfl
      exact W.iret hx hb hr (fun t ht hW => ⟨⟨(0), (), rfl, rfl, by rw [ht]; exact hP9, va_K.moved hW.alike hK9, hD9⟩, hS.F ht⟩) hS.2.2 dX13_widthOf_743
    rw [if_neg hs_142] at hsp
    by_cases hs_143 : a1 = 157
    · rw [if_pos hs_143] at hsp
      refine lv_tableIn (tgt := 742) hx hb dX13_widthOf_9 (by rw [hs_143]; decide) (by rw [hs_143]; decide) (off := 733) (by rw [hs_143]; rfl) (by decide) ?_
      refine lv_iconst (v := 0) hx hb dX13_widthOf_742 (by decide) ?_
      have hr0 := Option.some.inj hsp
      clear hsp
      subst hr0
      have hP9 := hP.sub (ws' := []) [] rfl
      have hD9 := hD.sub (ws' := []) [] (by decide) rfl
      have hK9 := hK.sub (tys' := []) [] rfl
      exact W.iret hx hb hr (fun t ht hW => ⟨⟨(0), (), rfl, rfl, by rw [ht]; exact hP9, va_K.moved hW.alike hK9, hD9⟩, hS.F ht⟩) hS.2.2 dX13_widthOf_743
    rw [if_neg hs_143] at hsp
    by_cases hs_144 : a1 = 158
    · rw [if_pos hs_144] at hsp
      refine lv_tableIn (tgt := 742) hx hb dX13_widthOf_9 (by rw [hs_144]; decide) (by rw [hs_144]; decide) (off := 733) (by rw [hs_144]; rfl) (by decide) ?_
      refine lv_iconst (v := 0) hx hb dX13_widthOf_742 (by decide) ?_
      have hr0 := Option.some.inj hsp
      clear hsp
      subst hr0
      have hP9 := hP.sub (ws' := []) [] rfl
      have hD9 := hD.sub (ws' := []) [] (by decide) rfl
      have hK9 := hK.sub (tys' := []) [] rfl
      exact W.iret hx hb hr (fun t ht hW => ⟨⟨(0), (), rfl, rfl, by rw [ht]; exact hP9, va_K.moved hW.alike hK9, hD9⟩, hS.F ht⟩) hS.2.2 dX13_widthOf_743
    rw [if_neg hs_144] at hsp
    by_cases hs_145 : a1 = 159
    · rw [if_pos hs_145] at hsp
      refine lv_tableIn (tgt := 740) hx hb dX13_widthOf_9 (by rw [hs_145]; decide) (by rw [hs_145]; decide) (off := 731) (by rw [hs_145]; rfl) (by decide) ?_
      refine lv_iconst (v := 3) hx hb dX13_widthOf_740 (by decide) ?_
      have hr0 := Option.some.inj hsp
      clear hsp
      subst hr0
      have hP9 := hP.sub (ws' := []) [] rfl
      have hD9 := hD.sub (ws' := []) [] (by decide) rfl
      have hK9 := hK.sub (tys' := []) [] rfl
      exact W.iret hx hb hr (fun t ht hW => ⟨⟨(3), (), rfl, rfl, by rw [ht]; exact hP9, va_K.moved hW.alike hK9, hD9⟩, hS.F ht⟩) hS.2.2 dX13_widthOf_741
    rw [if_neg hs_145] at hsp
    by_cases hs_146 : a1 = 160
    · rw [if_pos hs_146] at hsp
      refine lv_tableIn (tgt := 740) hx hb dX13_widthOf_9 (by rw [hs_146]; decide) (by rw [hs_146]; decide) (off := 731) (by rw [hs_146]; rfl) (by decide) ?_
      refine lv_iconst (v := 3) hx hb dX13_widthOf_740 (by decide) ?_
      have hr0 := Option.some.inj hsp
      clear hsp
      subst hr0
      have hP9 := hP.sub (ws' := []) [] rfl
      have hD9 := hD.sub (ws' := []) [] (by decide) rfl
      have hK9 := hK.sub (tys' := []) [] rfl
      exact W.iret hx hb hr (fun t ht hW => ⟨⟨(3), (), rfl, rfl, by rw [ht]; exact hP9, va_K.moved hW.alike hK9, hD9⟩, hS.F ht⟩) hS.2.2 dX13_widthOf_741
    rw [if_neg hs_146] at hsp
    by_cases hs_147 : a1 = 161
    · rw [if_pos hs_147] at hsp
      refine lv_tableIn (tgt := 740) hx hb dX13_widthOf_9 (by rw [hs_147]; decide) (by rw [hs_147]; decide) (off := 731) (by rw [hs_147]; rfl) (by decide) ?_
      refine lv_iconst (v := 3) hx hb dX13_widthOf_740 (by decide) ?_
      have hr0 := Option.some.inj hsp
      clear hsp
      subst hr0
      have hP9 := hP.sub (ws' := []) [] rfl
      have hD9 := hD.sub (ws' := []) [] (by decide) rfl
      have hK9 := hK.sub (tys' := []) [] rfl
      exact W.iret hx hb hr (fun t ht hW => ⟨⟨(3), (), rfl, rfl, by rw [ht]; exact hP9, va_K.moved hW.alike hK9, hD9⟩, hS.F ht⟩) hS.2.2 dX13_widthOf_741
    rw [if_neg hs_147] at hsp
    by_cases hs_148 : a1 = 162
    · rw [if_pos hs_148] at hsp
      refine lv_tableIn (tgt := 740) hx hb dX13_widthOf_9 (by rw [hs_148]; decide) (by rw [hs_148]; decide) (off := 731) (by rw [hs_148]; rfl) (by decide) ?_
      refine lv_iconst (v := 3) hx hb dX13_widthOf_740 (by decide) ?_
      have hr0 := Option.some.inj hsp
      clear hsp
      subst hr0
      have hP9 := hP.sub (ws' := []) [] rfl
      have hD9 := hD.sub (ws' := []) [] (by decide) rfl
      have hK9 := hK.sub (tys' := []) [] rfl
      exact W.iret hx hb hr (fun t ht hW => ⟨⟨(3), (), rfl, rfl, by rw [ht]; exact hP9, va_K.moved hW.alike hK9, hD9⟩, hS.F ht⟩) hS.2.2 dX13_widthOf_741
    rw [if_neg hs_148] at hsp
    by_cases hs_149 : a1 = 163
    · rw [if_pos hs_149] at hsp
      refine lv_tableIn (tgt := 740) hx hb dX13_widthOf_9 (by rw [hs_149]; decide) (by rw [hs_149]; decide) (off := 731) (by rw [hs_149]; rfl) (by decide) ?_
      refine lv_iconst (v := 3) hx hb dX13_widthOf_740 (by decide) ?_
      have hr0 := Option.some.inj hsp
      clear hsp
      subst hr0
      have hP9 := hP.sub (ws' := []) [] rfl
      have hD9 := hD.sub (ws' := []) [] (by decide) rfl
      have hK9 := hK.sub (tys' := []) [] rfl
      exact W.iret hx hb hr (fun t ht hW => ⟨⟨(3), (), rfl, rfl, by rw [ht]; exact hP9, va_K.moved hW.alike hK9, hD9⟩, hS.F ht⟩) hS.2.2 dX13_widthOf_741
    rw [if_neg hs_149] at hsp
    by_cases hs_150 : a1 = 164
    · rw [if_pos hs_150] at hsp
      refine lv_tableIn (tgt := 740) hx hb dX13_widthOf_9 (by rw [hs_150]; decide) (by rw [hs_150]; decide) (off := 731) (by rw [hs_150]; rfl) (by decide) ?_
      refine lv_iconst (v := 3) hx hb dX13_widthOf_740 (by decide) ?_
      have hr0 := Option.some.inj hsp
      clear hsp
      subst hr0
      have hP9 := hP.sub (ws' := []) [] rfl
      have hD9 := hD.sub (ws' := []) [] (by decide) rfl
      have hK9 := hK.sub (tys' := []) [] rfl
      exact W.iret hx hb hr (fun t ht hW => ⟨⟨(3), (), rfl, rfl, by rw [ht]; exact hP9, va_K.moved hW.alike hK9, hD9⟩, hS.F ht⟩) hS.2.2 dX13_widthOf_741
    rw [if_neg hs_150] at hsp
    by_cases hs_151 : a1 = 165
    · rw [if_pos hs_151] at hsp
      refine lv_tableIn (tgt := 740) hx hb dX13_widthOf_9 (by rw [hs_151]; decide) (by rw [hs_151]; decide) (off := 731) (by rw [hs_151]; rfl) (by decide) ?_
      refine lv_iconst (v := 3) hx hb dX13_widthOf_740 (by decide) ?_
      have hr0 := Option.some.inj hsp
      clear hsp
      subst hr0
      have hP9 := hP.sub (ws' := []) [] rfl
      have hD9 := hD.sub (ws' := []) [] (by decide) rfl
      have hK9 := hK.sub (tys' := []) [] rfl
      exact W.iret hx hb hr (fun t ht hW => ⟨⟨(3), (), rfl, rfl, by rw [ht]; exact hP9, va_K.moved hW.alike hK9, hD9⟩, hS.F ht⟩) hS.2.2 dX13_widthOf_741
    rw [if_neg hs_151] at hsp
    by_cases hs_152 : a1 = 166
    · rw [if_pos hs_152] at hsp
      refine lv_tableIn (tgt := 740) hx hb dX13_widthOf_9 (by rw [hs_152]; decide) (by rw [hs_152]; decide) (off := 731) (by rw [hs_152]; rfl) (by decide) ?_
      refine lv_iconst (v := 3) hx hb dX13_widthOf_740 (by decide) ?_
      have hr0 := Option.some.inj hsp
      clear hsp
      subst hr0
      have hP9 := hP.sub (ws' := []) [] rfl
      have hD9 := hD.sub (ws' := []) [] (by decide) rfl
      have hK9 := hK.sub (tys' := []) [] rfl
      exact W.iret hx hb hr (fun t ht hW => ⟨⟨(3), (), rfl, rfl, by rw [ht]; exact hP9, va_K.moved hW.alike hK9, hD9⟩, hS.F ht⟩) hS.2.2 dX13_widthOf_741
    rw [if_neg hs_152] at hsp
    by_cases hs_153 : a1 = 167
    · rw [if_pos hs_153] at hsp
      refine lv_tableIn (tgt := 740) hx hb dX13_widthOf_9 (by rw [hs_153]; decide) (by rw [hs_153]; decide) (off := 731) (by rw [hs_153]; rfl) (by decide) ?_
      refine lv_iconst (v := 3) hx hb dX13_widthOf_740 (by decide) ?_
      have hr0 := Option.some.inj hsp
      clear hsp
      subst hr0
      have hP9 := hP.sub (ws' := []) [] rfl
      have hD9 := hD.sub (ws' := []) [] (by decide) rfl
      have hK9 := hK.sub (tys' := []) [] rfl
      exact W.iret hx hb hr (fun t ht hW => ⟨⟨(3), (), rfl, rfl, by rw [ht]; exact hP9, va_K.moved hW.alike hK9, hD9⟩, hS.F ht⟩) hS.2.2 dX13_widthOf_741
    rw [if_neg hs_153] at hsp
    by_cases hs_154 : a1 = 168
    · rw [if_pos hs_154] at hsp
      refine lv_tableIn (tgt := 742) hx hb dX13_widthOf_9 (by rw [hs_154]; decide) (by rw [hs_154]; decide) (off := 733) (by rw [hs_154]; rfl) (by decide) ?_
      refine lv_iconst (v := 0) hx hb dX13_widthOf_742 (by decide) ?_
      have hr0 := Option.some.inj hsp
      clear hsp
      subst hr0
      have hP9 := hP.sub (ws' := []) [] rfl
      have hD9 := hD.sub (ws' := []) [] (by decide) rfl
      have hK9 := hK.sub (tys' := []) [] rfl
      exact W.iret hx hb hr (fun t ht hW => ⟨⟨(0), (), rfl, rfl, by rw [ht]; exact hP9, va_K.moved hW.alike hK9, hD9⟩, hS.F ht⟩) hS.2.2 dX13_widthOf_743
    rw [if_neg hs_154] at hsp
    by_cases hs_155 : a1 = 169
    · rw [if_pos hs_155] at hsp
      refine lv_tableIn (tgt := 742) hx hb dX13_widthOf_9 (by rw [hs_155]; decide) (by rw [hs_155]; decide) (off := 733) (by rw [hs_155]; rfl) (by decide) ?_
      refine lv_iconst (v := 0) hx hb dX13_widthOf_742 (by decide) ?_
      have hr0 := Option.some.inj hsp
      clear hsp
      subst hr0
      have hP9 := hP.sub (ws' := []) [] rfl
      have hD9 := hD.sub (ws' := []) [] (by decide) rfl
      have hK9 := hK.sub (tys' := []) [] rfl
      exact W.iret hx hb hr (fun t ht hW => ⟨⟨(0), (), rfl, rfl, by rw [ht]; exact hP9, va_K.moved hW.alike hK9, hD9⟩, hS.F ht⟩) hS.2.2 dX13_widthOf_743
    rw [if_neg hs_155] at hsp
    by_cases hs_156 : a1 = 170
    · rw [if_pos hs_156] at hsp
      refine lv_tableIn (tgt := 742) hx hb dX13_widthOf_9 (by rw [hs_156]; decide) (by rw [hs_156]; decide) (off := 733) (by rw [hs_156]; rfl) (by decide) ?_
      refine lv_iconst (v := 0) hx hb dX13_widthOf_742 (by decide) ?_
      have hr0 := Option.some.inj hsp
      clear hsp
      subst hr0
      have hP9 := hP.sub (ws' := []) [] rfl
      have hD9 := hD.sub (ws' := []) [] (by decide) rfl
      have hK9 := hK.sub (tys' := []) [] rfl
      exact W.iret hx hb hr (fun t ht hW => ⟨⟨(0), (), rfl, rfl, by rw [ht]; exact hP9, va_K.moved hW.alike hK9, hD9⟩, hS.F ht⟩) hS.2.2 dX13_widthOf_743
    rw [if_neg hs_156] at hsp
    by_cases hs_157 : a1 = 171
    · rw [if_pos hs_157] at hsp
      refine lv_tableIn (tgt := 742) hx hb dX13_widthOf_9 (by rw [hs_157]; decide) (by rw [hs_157]; decide) (off := 733) (by rw [hs_157]; rfl) (by decide) ?_
      refine lv_iconst (v := 0) hx hb dX13_widthOf_742 (by decide) ?_
      have hr0 := Option.some.inj hsp
      clear hsp
      subst hr0
      have hP9 := hP.sub (ws' := []) [] rfl
      have hD9 := hD.sub (ws' := []) [] (by decide) rfl
      have hK9 := hK.sub (tys' := []) [] rfl
      exact W.iret hx hb hr (fun t ht hW => ⟨⟨(0), (), rfl, rfl, by rw [ht]; exact hP9, va_K.moved hW.alike hK9, hD9⟩, hS.F ht⟩) hS.2.2 dX13_widthOf_743
    rw [if_neg hs_157] at hsp
    by_cases hs_158 : a1 = 172
    · rw [if_pos hs_158] at hsp
      refine lv_tableIn (tgt := 738) hx hb dX13_widthOf_9 (by rw [hs_158]; decide) (by rw [hs_158]; decide) (off := 729) (by rw [hs_158]; rfl) (by decide) ?_
      refine lv_iconst (v := 1) hx hb dX13_widthOf_738 (by decide) ?_
      have hr0 := Option.some.inj hsp
      clear hsp
      subst hr0
      have hP9 := hP.sub (ws' := []) [] rfl
      have hD9 := hD.sub (ws' := []) [] (by decide) rfl
      have hK9 := hK.sub (tys' := []) [] rfl
      exact W.iret hx hb hr (fun t ht hW => ⟨⟨(1), (), rfl, rfl, by rw [ht]; exact hP9, va_K.moved hW.alike hK9, hD9⟩, hS.F ht⟩) hS.2.2 dX13_widthOf_739
    rw [if_neg hs_158] at hsp
    by_cases hs_159 : a1 = 173
    · rw [if_pos hs_159] at hsp
      refine lv_tableIn (tgt := 742) hx hb dX13_widthOf_9 (by rw [hs_159]; decide) (by rw [hs_159]; decide) (off := 733) (by rw [hs_159]; rfl) (by decide) ?_
      refine lv_iconst (v := 0) hx hb dX13_widthOf_742 (by decide) ?_
      have hr0 := Option.some.inj hsp
      clear hsp
      subst hr0
      have hP9 := hP.sub (ws' := []) [] rfl
      have hD9 := hD.sub (ws' := []) [] (by decide) rfl
      have hK9 := hK.sub (tys' := []) [] rfl
      exact W.iret hx hb hr (fun t ht hW => ⟨⟨(0), (), rfl, rfl, by rw [ht]; exact hP9, va_K.moved hW.alike hK9, hD9⟩, hS.F ht⟩) hS.2.2 dX13_widthOf_743
    rw [if_neg hs_159] at hsp
    by_cases hs_160 : a1 = 174
    · rw [if_pos hs_160] at hsp
      refine lv_tableIn (tgt := 742) hx hb dX13_widthOf_9 (by rw [hs_160]; decide) (by rw [hs_160]; decide) (off := 733) (by rw [hs_160]; rfl) (by decide) ?_
      refine lv_iconst (v := 0) hx hb dX13_widthOf_742 (by decide) ?_
      have hr0 := Option.some.inj hsp
      clear hsp
      subst hr0
      have hP9 := hP.sub (ws' := []) [] rfl
      have hD9 := hD.sub (ws' := []) [] (by decide) rfl
      have hK9 := hK.sub (tys' := []) [] rfl
      exact W.iret hx hb hr (fun t ht hW => ⟨⟨(0), (), rfl, rfl, by rw [ht]; exact hP9, va_K.moved hW.alike hK9, hD9⟩, hS.F ht⟩) hS.2.2 dX13_widthOf_743
    rw [if_neg hs_160] at hsp
    by_cases hs_161 : a1 = 175
    · rw [if_pos hs_161] at hsp
      refine lv_tableIn (tgt := 742) hx hb dX13_widthOf_9 (by rw [hs_161]; decide) (by rw [hs_161]; decide) (off := 733) (by rw [hs_161]; rfl) (by decide) ?_
      refine lv_iconst (v := 0) hx hb dX13_widthOf_742 (by decide) ?_
      have hr0 := Option.some.inj hsp
      clear hsp
      subst hr0
      have hP9 := hP.sub (ws' := []) [] rfl
      have hD9 := hD.sub (ws' := []) [] (by decide) rfl
      have hK9 := hK.sub (tys' := []) [] rfl
      exact W.iret hx hb hr (fun t ht hW => ⟨⟨(0), (), rfl, rfl, by rw [ht]; exact hP9, va_K.moved hW.alike hK9, hD9⟩, hS.F ht⟩) hS.2.2 dX13_widthOf_743
    rw [if_neg hs_161] at hsp
    by_cases hs_162 : a1 = 176
    · rw [if_pos hs_162] at hsp
      refine lv_tableIn (tgt := 738) hx hb dX13_widthOf_9 (by rw [hs_162]; decide) (by rw [hs_162]; decide) (off := 729) (by rw [hs_162]; rfl) (by decide) ?_
      refine lv_iconst (v := 1) hx hb dX13_widthOf_738 (by decide) ?_
      have hr0 := Option.some.inj hsp
      clear hsp
      subst hr0
      have hP9 := hP.sub (ws' := []) [] rfl
      have hD9 := hD.sub (ws' := []) [] (by decide) rfl
      have hK9 := hK.sub (tys' := []) [] rfl
      exact W.iret hx hb hr (fun t ht hW => ⟨⟨(1), (), rfl, rfl, by rw [ht]; exact hP9, va_K.moved hW.alike hK9, hD9⟩, hS.F ht⟩) hS.2.2 dX13_widthOf_739
    rw [if_neg hs_162] at hsp
    by_cases hs_163 : a1 = 177
    · rw [if_pos hs_163] at hsp
      refine lv_tableIn (tgt := 738) hx hb dX13_widthOf_9 (by rw [hs_163]; decide) (by rw [hs_163]; decide) (off := 729) (by rw [hs_163]; rfl) (by decide) ?_
      refine lv_iconst (v := 1) hx hb dX13_widthOf_738 (by decide) ?_
      have hr0 := Option.some.inj hsp
      clear hsp
      subst hr0
      have hP9 := hP.sub (ws' := []) [] rfl
      have hD9 := hD.sub (ws' := []) [] (by decide) rfl
      have hK9 := hK.sub (tys' := []) [] rfl
      exact W.iret hx hb hr (fun t ht hW => ⟨⟨(1), (), rfl, rfl, by rw [ht]; exact hP9, va_K.moved hW.alike hK9, hD9⟩, hS.F ht⟩) hS.2.2 dX13_widthOf_739
    rw [if_neg hs_163] at hsp
    by_cases hs_164 : a1 = 178
    · rw [if_pos hs_164] at hsp
      refine lv_tableIn (tgt := 742) hx hb dX13_widthOf_9 (by rw [hs_164]; decide) (by rw [hs_164]; decide) (off := 733) (by rw [hs_164]; rfl) (by decide) ?_
      refine lv_iconst (v := 0) hx hb dX13_widthOf_742 (by decide) ?_
      have hr0 := Option.some.inj hsp
      clear hsp
      subst hr0
      have hP9 := hP.sub (ws' := []) [] rfl
      have hD9 := hD.sub (ws' := []) [] (by decide) rfl
      have hK9 := hK.sub (tys' := []) [] rfl
      exact W.iret hx hb hr (fun t ht hW => ⟨⟨(0), (), rfl, rfl, by rw [ht]; exact hP9, va_K.moved hW.alike hK9, hD9⟩, hS.F ht⟩) hS.2.2 dX13_widthOf_743
    rw [if_neg hs_164] at hsp
    by_cases hs_165 : a1 = 179
    · rw [if_pos hs_165] at hsp
      refine lv_tableIn (tgt := 742) hx hb dX13_widthOf_9 (by rw [hs_165]; decide) (by rw [hs_165]; decide) (off := 733) (by rw [hs_165]; rfl) (by decide) ?_
      refine lv_iconst (v := 0) hx hb dX13_widthOf_742 (by decide) ?_
      have hr0 := Option.some.inj hsp
      clear hsp
      subst hr0
      have hP9 := hP.sub (ws' := []) [] rfl
      have hD9 := hD.sub (ws' := []) [] (by decide) rfl
      have hK9 := hK.sub (tys' := []) [] rfl
      exact W.iret hx hb hr (fun t ht hW => ⟨⟨(0), (), rfl, rfl, by rw [ht]; exact hP9, va_K.moved hW.alike hK9, hD9⟩, hS.F ht⟩) hS.2.2 dX13_widthOf_743
    rw [if_neg hs_165] at hsp
    by_cases hs_166 : a1 = 180
    · rw [if_pos hs_166] at hsp
      refine lv_tableIn (tgt := 736) hx hb dX13_widthOf_9 (by rw [hs_166]; decide) (by rw [hs_166]; decide) (off := 727) (by rw [hs_166]; rfl) (by decide) ?_
      refine lv_iconst (v := 2) hx hb dX13_widthOf_736 (by decide) ?_
      have hr0 := Option.some.inj hsp
      clear hsp
      subst hr0
      have hP9 := hP.sub (ws' := []) [] rfl
      have hD9 := hD.sub (ws' := []) [] (by decide) rfl
      have hK9 := hK.sub (tys' := []) [] rfl
      exact W.iret hx hb hr (fun t ht hW => ⟨⟨(2), (), rfl, rfl, by rw [ht]; exact hP9, va_K.moved hW.alike hK9, hD9⟩, hS.F ht⟩) hS.2.2 dX13_widthOf_737
    rw [if_neg hs_166] at hsp
    by_cases hs_167 : a1 = 181
    · rw [if_pos hs_167] at hsp
      refine lv_tableIn (tgt := 736) hx hb dX13_widthOf_9 (by rw [hs_167]; decide) (by rw [hs_167]; decide) (off := 727) (by rw [hs_167]; rfl) (by decide) ?_
      refine lv_iconst (v := 2) hx hb dX13_widthOf_736 (by decide) ?_
      have hr0 := Option.some.inj hsp
      clear hsp
      subst hr0
      have hP9 := hP.sub (ws' := []) [] rfl
      have hD9 := hD.sub (ws' := []) [] (by decide) rfl
      have hK9 := hK.sub (tys' := []) [] rfl
      exact W.iret hx hb hr (fun t ht hW => ⟨⟨(2), (), rfl, rfl, by rw [ht]; exact hP9, va_K.moved hW.alike hK9, hD9⟩, hS.F ht⟩) hS.2.2 dX13_widthOf_737
    rw [if_neg hs_167] at hsp
    by_cases hs_168 : a1 = 182
    · rw [if_pos hs_168] at hsp
      refine lv_tableIn (tgt := 736) hx hb dX13_widthOf_9 (by rw [hs_168]; decide) (by rw [hs_168]; decide) (off := 727) (by rw [hs_168]; rfl) (by decide) ?_
      refine lv_iconst (v := 2) hx hb dX13_widthOf_736 (by decide) ?_
      have hr0 := Option.some.inj hsp
      clear hsp
      subst hr0
      have hP9 := hP.sub (ws' := []) [] rfl
      have hD9 := hD.sub (ws' := []) [] (by decide) rfl
      have hK9 := hK.sub (tys' := []) [] rfl
      exact W.iret hx hb hr (fun t ht hW => ⟨⟨(2), (), rfl, rfl, by rw [ht]; exact hP9, va_K.moved hW.alike hK9, hD9⟩, hS.F ht⟩) hS.2.2 dX13_widthOf_737
    rw [if_neg hs_168] at hsp
    by_cases hs_169 : a1 = 183
    · rw [if_pos hs_169] at hsp
      refine lv_tableIn (tgt := 742) hx hb dX13_widthOf_9 (by rw [hs_169]; decide) (by rw [hs_169]; decide) (off := 733) (by rw [hs_169]; rfl) (by decide) ?_
      refine lv_iconst (v := 0) hx hb dX13_widthOf_742 (by decide) ?_
      have hr0 := Option.some.inj hsp
      clear hsp
      subst hr0
      have hP9 := hP.sub (ws' := []) [] rfl
      have hD9 := hD.sub (ws' := []) [] (by decide) rfl
      have hK9 := hK.sub (tys' := []) [] rfl
      exact W.iret hx hb hr (fun t ht hW => ⟨⟨(0), (), rfl, rfl, by rw [ht]; exact hP9, va_K.moved hW.alike hK9, hD9⟩, hS.F ht⟩) hS.2.2 dX13_widthOf_743
    rw [if_neg hs_169] at hsp
    by_cases hs_170 : a1 = 184
    · rw [if_pos hs_170] at hsp
      refine lv_tableIn (tgt := 736) hx hb dX13_widthOf_9 (by rw [hs_170]; decide) (by rw [hs_170]; decide) (off := 727) (by rw [hs_170]; rfl) (by decide) ?_
      refine lv_iconst (v := 2) hx hb dX13_widthOf_736 (by decide) ?_
      have hr0 := Option.some.inj hsp
      clear hsp
      subst hr0
      have hP9 := hP.sub (ws' := []) [] rfl
      have hD9 := hD.sub (ws' := []) [] (by decide) rfl
      have hK9 := hK.sub (tys' := []) [] rfl
      exact W.iret hx hb hr (fun t ht hW => ⟨⟨(2), (), rfl, rfl, by rw [ht]; exact hP9, va_K.moved hW.alike hK9, hD9⟩, hS.F ht⟩) hS.2.2 dX13_widthOf_737
    rw [if_neg hs_170] at hsp
    by_cases hs_171 : a1 = 185
    · rw [if_pos hs_171] at hsp
      refine lv_tableIn (tgt := 742) hx hb dX13_widthOf_9 (by rw [hs_171]; decide) (by rw [hs_171]; decide) (off := 733) (by rw [hs_171]; rfl) (by decide) ?_
      refine lv_iconst (v := 0) hx hb dX13_widthOf_742 (by decide) ?_
      have hr0 := Option.some.inj hsp
      clear hsp
      subst hr0
      have hP9 := hP.sub (ws' := []) [] rfl
      have hD9 := hD.sub (ws' := []) [] (by decide) rfl
      have hK9 := hK.sub (tys' := []) [] rfl
      exact W.iret hx hb hr (fun t ht hW => ⟨⟨(0), (), rfl, rfl, by rw [ht]; exact hP9, va_K.moved hW.alike hK9, hD9⟩, hS.F ht⟩) hS.2.2 dX13_widthOf_743
    rw [if_neg hs_171] at hsp
    by_cases hs_172 : a1 = 186
    · rw [if_pos hs_172] at hsp
      refine lv_tableIn (tgt := 738) hx hb dX13_widthOf_9 (by rw [hs_172]; decide) (by rw [hs_172]; decide) (off := 729) (by rw [hs_172]; rfl) (by decide) ?_
      refine lv_iconst (v := 1) hx hb dX13_widthOf_738 (by decide) ?_
      have hr0 := Option.some.inj hsp
      clear hsp
      subst hr0
      have hP9 := hP.sub (ws' := []) [] rfl
      have hD9 := hD.sub (ws' := []) [] (by decide) rfl
      have hK9 := hK.sub (tys' := []) [] rfl
      exact W.iret hx hb hr (fun t ht hW => ⟨⟨(1), (), rfl, rfl, by rw [ht]; exact hP9, va_K.moved hW.alike hK9, hD9⟩, hS.F ht⟩) hS.2.2 dX13_widthOf_739
    rw [if_neg hs_172] at hsp
    by_cases hs_173 : a1 = 187
    · rw [if_pos hs_173] at hsp
      refine lv_tableIn (tgt := 736) hx hb dX13_widthOf_9 (by rw [hs_173]; decide) (by rw [hs_173]; decide) (off := 727) (by rw [hs_173]; rfl) (by decide) ?_
      refine lv_iconst (v := 2) hx hb dX13_widthOf_736 (by decide) ?_
      have hr0 := Option.some.inj hsp
      clear hsp
      subst hr0
      have hP9 := hP.sub (ws' := []) [] rfl
      have hD9 := hD.sub (ws' := []) [] (by decide) rfl
      have hK9 := hK.sub (tys' := []) [] rfl
      exact W.iret hx hb hr (fun t ht hW => ⟨⟨(2), (), rfl, rfl, by rw [ht]; exact hP9, va_K.moved hW.alike hK9, hD9⟩, hS.F ht⟩) hS.2.2 dX13_widthOf_737
    rw [if_neg hs_173] at hsp
    by_cases hs_174 : a1 = 188
    · rw [if_pos hs_174] at hsp
      refine lv_tableIn (tgt := 736) hx hb dX13_widthOf_9 (by rw [hs_174]; decide) (by rw [hs_174]; decide) (off := 727) (by rw [hs_174]; rfl) (by decide) ?_
      refine lv_iconst (v := 2) hx hb dX13_widthOf_736 (by decide) ?_
      have hr0 := Option.some.inj hsp
      clear hsp
      subst hr0
      have hP9 := hP.sub (ws' := []) [] rfl
      have hD9 := hD.sub (ws' := []) [] (by decide) rfl
      have hK9 := hK.sub (tys' := []) [] rfl
      exact W.iret hx hb hr (fun t ht hW => ⟨⟨(2), (), rfl, rfl, by rw [ht]; exact hP9, va_K.moved hW.alike hK9, hD9⟩, hS.F ht⟩) hS.2.2 dX13_widthOf_737
    rw [if_neg hs_174] at hsp
    by_cases hs_175 : a1 = 189
    · rw [if_pos hs_175] at hsp
      refine lv_tableIn (tgt := 736) hx hb dX13_widthOf_9 (by rw [hs_175]; decide) (by rw [hs_175]; decide) (off := 727) (by rw [hs_175]; rfl) (by decide) ?_
      refine lv_iconst (v := 2) hx hb dX13_widthOf_736 (by decide) ?_
      have hr0 := Option.some.inj hsp
      clear hsp
      subst hr0
      have hP9 := hP.sub (ws' := []) [] rfl
      have hD9 := hD.sub (ws' := []) [] (by decide) rfl
      have hK9 := hK.sub (tys' := []) [] rfl
      exact W.iret hx hb hr (fun t ht hW => ⟨⟨(2), (), rfl, rfl, by rw [ht]; exact hP9, va_K.moved hW.alike hK9, hD9⟩, hS.F ht⟩) hS.2.2 dX13_widthOf_737
    rw [if_neg hs_175] at hsp
    by_cases hs_176 : a1 = 190
    · rw [if_pos hs_176] at hsp
      refine lv_tableIn (tgt := 738) hx hb dX13_widthOf_9 (by rw [hs_176]; decide) (by rw [hs_176]; decide) (off := 729) (by rw [hs_176]; rfl) (by decide) ?_
      refine lv_iconst (v := 1) hx hb dX13_widthOf_738 (by decide) ?_
      have hr0 := Option.some.inj hsp
      clear hsp
      subst hr0
      have hP9 := hP.sub (ws' := []) [] rfl
      have hD9 := hD.sub (ws' := []) [] (by decide) rfl
      have hK9 := hK.sub (tys' := []) [] rfl
      exact W.iret hx hb hr (fun t ht hW => ⟨⟨(1), (), rfl, rfl, by rw [ht]; exact hP9, va_K.moved hW.alike hK9, hD9⟩, hS.F ht⟩) hS.2.2 dX13_widthOf_739
    rw [if_neg hs_176] at hsp
    by_cases hs_177 : a1 = 191
    · rw [if_pos hs_177] at hsp
      refine lv_tableIn (tgt := 738) hx hb dX13_widthOf_9 (by rw [hs_177]; decide) (by rw [hs_177]; decide) (off := 729) (by rw [hs_177]; rfl) (by decide) ?_
      refine lv_iconst (v := 1) hx hb dX13_widthOf_738 (by decide) ?_
      have hr0 := Option.some.inj hsp
      clear hsp
      subst hr0
      have hP9 := hP.sub (ws' := []) [] rfl
      have hD9 := hD.sub (ws' := []) [] (by decide) rfl
      have hK9 := hK.sub (tys' := []) [] rfl
      exact W.iret hx hb hr (fun t ht hW => ⟨⟨(1), (), rfl, rfl, by rw [ht]; exact hP9, va_K.moved hW.alike hK9, hD9⟩, hS.F ht⟩) hS.2.2 dX13_widthOf_739
    rw [if_neg hs_177] at hsp
    by_cases hs_178 : a1 = 192
    · rw [if_pos hs_178] at hsp
      refine lv_tableIn (tgt := 736) hx hb dX13_widthOf_9 (by rw [hs_178]; decide) (by rw [hs_178]; decide) (off := 727) (by rw [hs_178]; rfl) (by decide) ?_
      refine lv_iconst (v := 2) hx hb dX13_widthOf_736 (by decide) ?_
      have hr0 := Option.some.inj hsp
      clear hsp
      subst hr0
      have hP9 := hP.sub (ws' := []) [] rfl
      have hD9 := hD.sub (ws' := []) [] (by decide) rfl
      have hK9 := hK.sub (tys' := []) [] rfl
      exact W.iret hx hb hr (fun t ht hW => ⟨⟨(2), (), rfl, rfl, by rw [ht]; exact hP9, va_K.moved hW.alike hK9, hD9⟩, hS.F ht⟩) hS.2.2 dX13_widthOf_737
    rw [if_neg hs_178] at hsp
    by_cases hs_179 : a1 = 193
    · rw [if_pos hs_179] at hsp
      refine lv_tableIn (tgt := 736) hx hb dX13_widthOf_9 (by rw [hs_179]; decide) (by rw [hs_179]; decide) (off := 727) (by rw [hs_179]; rfl) (by decide) ?_
      refine lv_iconst (v := 2) hx hb dX13_widthOf_736 (by decide) ?_
      have hr0 := Option.some.inj hsp
      clear hsp
      subst hr0
      have hP9 := hP.sub (ws' := []) [] rfl
      have hD9 := hD.sub (ws' := []) [] (by decide) rfl
      have hK9 := hK.sub (tys' := []) [] rfl
      exact W.iret hx hb hr (fun t ht hW => ⟨⟨(2), (), rfl, rfl, by rw [ht]; exact hP9, va_K.moved hW.alike hK9, hD9⟩, hS.F ht⟩) hS.2.2 dX13_widthOf_737
    rw [if_neg hs_179] at hsp
    refine lv_tableOut (tgt := 742) hx hb dX13_widthOf_9 (by have a0 := lv_neT hs_2 (a := 16) rfl; have a1 := lv_neT hs_3 (a := 17) rfl; have a2 := lv_neT hs_4 (a := 18) rfl; have a3 := lv_neT hs_5 (a := 19) rfl; have a4 := lv_neT hs_6 (a := 20) rfl; have a5 := lv_neT hs_7 (a := 21) rfl; have a6 := lv_neT hs_8 (a := 22) rfl; have a7 := lv_neT hs_9 (a := 23) rfl; have a8 := lv_neT hs_10 (a := 24) rfl; have a9 := lv_neT hs_11 (a := 25) rfl; have a10 := lv_neT hs_12 (a := 26) rfl; have a11 := lv_neT hs_13 (a := 27) rfl; have a12 := lv_neT hs_14 (a := 28) rfl; have a13 := lv_neT hs_15 (a := 29) rfl; have a14 := lv_neT hs_16 (a := 30) rfl; have a15 := lv_neT hs_17 (a := 31) rfl; have a16 := lv_neT hs_18 (a := 32) rfl; have a17 := lv_neT hs_19 (a := 33) rfl; have a18 := lv_neT hs_20 (a := 34) rfl; have a19 := lv_neT hs_21 (a := 35) rfl; have a20 := lv_neT hs_22 (a := 36) rfl; have a21 := lv_neT hs_23 (a := 37) rfl; have a22 := lv_neT hs_24 (a := 38) rfl; have a23 := lv_neT hs_25 (a := 39) rfl; have a24 := lv_neT hs_26 (a := 40) rfl; have a25 := lv_neT hs_27 (a := 41) rfl; have a26 := lv_neT hs_28 (a := 42) rfl; have a27 := lv_neT hs_29 (a := 43) rfl; have a28 := lv_neT hs_30 (a := 44) rfl; have a29 := lv_neT hs_31 (a := 45) rfl; have a30 := lv_neT hs_32 (a := 46) rfl; have a31 := lv_neT hs_33 (a := 47) rfl; have a32 := lv_neT hs_34 (a := 48) rfl; have a33 := lv_neT hs_35 (a := 49) rfl; have a34 := lv_neT hs_36 (a := 50) rfl; have a35 := lv_neT hs_37 (a := 51) rfl; have a36 := lv_neT hs_38 (a := 52) rfl; have a37 := lv_neT hs_39 (a := 53) rfl; have a38 := lv_neT hs_40 (a := 54) rfl; have a39 := lv_neT hs_41 (a := 55) rfl; have a40 := lv_neT hs_42 (a := 56) rfl; have a41 := lv_neT hs_43 (a := 57) rfl; have a42 := lv_neT hs_44 (a := 58) rfl; have a43 := lv_neT hs_45 (a := 59) rfl; have a44 := lv_neT hs_46 (a := 60) rfl; have a45 := lv_neT hs_47 (a := 61) rfl; have a46 := lv_neT hs_48 (a := 62) rfl; have a47 := lv_neT hs_49 (a := 63) rfl; have a48 := lv_neT hs_50 (a := 64) rfl; have a49 := lv_neT hs_51 (a := 65) rfl; have a50 := lv_neT hs_52 (a := 66) rfl; have a51 := lv_neT hs_53 (a := 67) rfl; have a52 := lv_neT hs_54 (a := 68) rfl; have a53 := lv_neT hs_55 (a := 69) rfl; have a54 := lv_neT hs_56 (a := 70) rfl; have a55 := lv_neT hs_57 (a := 71) rfl; have a56 := lv_neT hs_58 (a := 72) rfl; have a57 := lv_neT hs_59 (a := 73) rfl; have a58 := lv_neT hs_60 (a := 74) rfl; have a59 := lv_neT hs_61 (a := 75) rfl; have a60 := lv_neT hs_62 (a := 76) rfl; have a61 := lv_neT hs_63 (a := 77) rfl; have a62 := lv_neT hs_64 (a := 78) rfl; have a63 := lv_neT hs_65 (a := 79) rfl; have a64 := lv_neT hs_66 (a := 80) rfl; have a65 := lv_neT hs_67 (a := 81) rfl; have a66 := lv_neT hs_68 (a := 82) rfl; have a67 := lv_neT hs_69 (a := 83) rfl; have a68 := lv_neT hs_70 (a := 84) rfl; have a69 := lv_neT hs_71 (a := 85) rfl; have a70 := lv_neT hs_72 (a := 86) rfl; have a71 := lv_neT hs_73 (a := 87) rfl; have a72 := lv_neT hs_74 (a := 88) rfl; have a73 := lv_neT hs_75 (a := 89) rfl; have a74 := lv_neT hs_76 (a := 90) rfl; have a75 := lv_neT hs_77 (a := 91) rfl; have a76 := lv_neT hs_78 (a := 92) rfl; have a77 := lv_neT hs_79 (a := 93) rfl; have a78 := lv_neT hs_80 (a := 94) rfl; have a79 := lv_neT hs_81 (a := 95) rfl; have a80 := lv_neT hs_82 (a := 96) rfl; have a81 := lv_neT hs_83 (a := 97) rfl; have a82 := lv_neT hs_84 (a := 98) rfl; have a83 := lv_neT hs_85 (a := 99) rfl; have a84 := lv_neT hs_86 (a := 100) rfl; have a85 := lv_neT hs_87 (a := 101) rfl; have a86 := lv_neT hs_88 (a := 102) rfl; have a87 := lv_neT hs_89 (a := 103) rfl; have a88 := lv_neT hs_90 (a := 104) rfl; have a89 := lv_neT hs_91 (a := 105) rfl; have a90 := lv_neT hs_92 (a := 106) rfl; have a91 := lv_neT hs_93 (a := 107) rfl; have a92 := lv_neT hs_94 (a := 108) rfl; have a93 := lv_neT hs_95 (a := 109) rfl; have a94 := lv_neT hs_96 (a := 110) rfl; have a95 := lv_neT hs_97 (a := 111) rfl; have a96 := lv_neT hs_98 (a := 112) rfl; have a97 := lv_neT hs_99 (a := 113) rfl; have a98 := lv_neT hs_100 (a := 114) rfl; have a99 := lv_neT hs_101 (a := 115) rfl; have a100 := lv_neT hs_102 (a := 116) rfl; have a101 := lv_neT hs_103 (a := 117) rfl; have a102 := lv_neT hs_104 (a := 118) rfl; have a103 := lv_neT hs_105 (a := 119) rfl; have a104 := lv_neT hs_106 (a := 120) rfl; have a105 := lv_neT hs_107 (a := 121) rfl; have a106 := lv_neT hs_108 (a := 122) rfl; have a107 := lv_neT hs_109 (a := 123) rfl; have a108 := lv_neT hs_110 (a := 124) rfl; have a109 := lv_neT hs_111 (a := 125) rfl; have a110 := lv_neT hs_112 (a := 126) rfl; have a111 := lv_neT hs_113 (a := 127) rfl; have a112 := lv_neT hs_114 (a := 128) rfl; have a113 := lv_neT hs_115 (a := 129) rfl; have a114 := lv_neT hs_116 (a := 130) rfl; have a115 := lv_neT hs_117 (a := 131) rfl; have a116 := lv_neT hs_118 (a := 132) rfl; have a117 := lv_neT hs_119 (a := 133) rfl; have a118 := lv_neT hs_120 (a := 134) rfl; have a119 := lv_neT hs_121 (a := 135) rfl; have a120 := lv_neT hs_122 (a := 136) rfl; have a121 := lv_neT hs_123 (a := 137) rfl; have a122 := lv_neT hs_124 (a := 138) rfl; have a123 := lv_neT hs_125 (a := 139) rfl; have a124 := lv_neT hs_126 (a := 140) rfl; have a125 := lv_neT hs_127 (a := 141) rfl; have a126 := lv_neT hs_128 (a := 142) rfl; have a127 := lv_neT hs_129 (a := 143) rfl; have a128 := lv_neT hs_130 (a := 144) rfl; have a129 := lv_neT hs_131 (a := 145) rfl; have a130 := lv_neT hs_132 (a := 146) rfl; have a131 := lv_neT hs_133 (a := 147) rfl; have a132 := lv_neT hs_134 (a := 148) rfl; have a133 := lv_neT hs_135 (a := 149) rfl; have a134 := lv_neT hs_136 (a := 150) rfl; have a135 := lv_neT hs_137 (a := 151) rfl; have a136 := lv_neT hs_138 (a := 152) rfl; have a137 := lv_neT hs_139 (a := 153) rfl; have a138 := lv_neT hs_140 (a := 154) rfl; have a139 := lv_neT hs_141 (a := 155) rfl; have a140 := lv_neT hs_142 (a := 156) rfl; have a141 := lv_neT hs_143 (a := 157) rfl; have a142 := lv_neT hs_144 (a := 158) rfl; have a143 := lv_neT hs_145 (a := 159) rfl; have a144 := lv_neT hs_146 (a := 160) rfl; have a145 := lv_neT hs_147 (a := 161) rfl; have a146 := lv_neT hs_148 (a := 162) rfl; have a147 := lv_neT hs_149 (a := 163) rfl; have a148 := lv_neT hs_150 (a := 164) rfl; have a149 := lv_neT hs_151 (a := 165) rfl; have a150 := lv_neT hs_152 (a := 166) rfl; have a151 := lv_neT hs_153 (a := 167) rfl; have a152 := lv_neT hs_154 (a := 168) rfl; have a153 := lv_neT hs_155 (a := 169) rfl; have a154 := lv_neT hs_156 (a := 170) rfl; have a155 := lv_neT hs_157 (a := 171) rfl; have a156 := lv_neT hs_158 (a := 172) rfl; have a157 := lv_neT hs_159 (a := 173) rfl; have a158 := lv_neT hs_160 (a := 174) rfl; have a159 := lv_neT hs_161 (a := 175) rfl; have a160 := lv_neT hs_162 (a := 176) rfl; have a161 := lv_neT hs_163 (a := 177) rfl; have a162 := lv_neT hs_164 (a := 178) rfl; have a163 := lv_neT hs_165 (a := 179) rfl; have a164 := lv_neT hs_166 (a := 180) rfl; have a165 := lv_neT hs_167 (a := 181) rfl; have a166 := lv_neT hs_168 (a := 182) rfl; have a167 := lv_neT hs_169 (a := 183) rfl; have a168 := lv_neT hs_170 (a := 184) rfl; have a169 := lv_neT hs_171 (a := 185) rfl; have a170 := lv_neT hs_172 (a := 186) rfl; have a171 := lv_neT hs_173 (a := 187) rfl; have a172 := lv_neT hs_174 (a := 188) rfl; have a173 := lv_neT hs_175 (a := 189) rfl; have a174 := lv_neT hs_176 (a := 190) rfl; have a175 := lv_neT hs_177 (a := 191) rfl; have a176 := lv_neT hs_178 (a := 192) rfl; have a177 := lv_neT hs_179 (a := 193) rfl; omega) (by decide) ?_
    refine lv_iconst (v := 0) hx hb dX13_widthOf_742 (by decide) ?_
    have hr0 := Option.some.inj hsp
    clear hsp
    subst hr0
    have hP9 := hP.sub (ws' := []) [] rfl
    have hD9 := hD.sub (ws' := []) [] (by decide) rfl
    have hK9 := hK.sub (tys' := []) [] rfl
    exact W.iret hx hb hr (fun t ht hW => ⟨⟨(0), (), rfl, rfl, by rw [ht]; exact hP9, va_K.moved hW.alike hK9, hD9⟩, hS.F ht⟩) hS.2.2 dX13_widthOf_743
  · rw [if_neg c_1] at hsp
    refine lv_iconst (v := 1) hx hb dX13_widthOf_6 (by decide) ?_
    have hr0 := Option.some.inj hsp
    clear hsp
    subst hr0
    have hP9 := hP.sub (ws' := []) [] rfl
    have hD9 := hD.sub (ws' := []) [] (by decide) rfl
    have hK9 := hK.sub (tys' := []) [] rfl
    exact W.iret hx hb hr (fun t ht hW => ⟨⟨(1), (), rfl, rfl, by rw [ht]; exact hP9, va_K.moved hW.alike hK9, hD9⟩, hS.F ht⟩) hS.2.2 dX13_widthOf_7
def sp_tm_isJump (nf : Nat) (a1 : Int32) : Option (Int32) := (if a1 < 153 then (some 0) else (if 167 < a1 then (some 0) else (some 1)))
