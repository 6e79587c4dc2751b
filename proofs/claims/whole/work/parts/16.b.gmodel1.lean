def sp_tm_end (nf : Nat) (a1 : Int32) (v1 : Int32) : Option (Int32 × Int32) := (if a1 < 0 then (some (0, v1)) else (if a1 ≤ v1 then (some (1, a1)) else (some (0, v1))))
set_option maxHeartbeats 4000000 in
set_option maxRecDepth 100000 in
/-- ClassMillModel.end -/
theorem tm_end (l : Launch) (dC : Nat → ClassId) (dI : Nat → Nat → Nat) (sz : Nat) (h0 : Nat) (zs : (List Value)) (a1 : Int32) (v1 : Int32) (nf : Nat) (r0 : Int32) (w1 : Int32) (hlen : zs.length = 155) (hf1 : zs[1]? = some (.int v1)) (hsp : sp_tm_end nf a1 v1 = some (r0, w1)) : Met l yX13_end (.code yX13_end cX13_end 2 (some .boolean) :: VS_h5) ({ frames := 0, cells := 0, slots := 0, locals := 0 }) (va_Pc [.ref h0, .int a1] (fun U => U.heap.size = sz ∧ va_P (dC, dI) vwCl [(h0, .inr (13, zs))] U.heap ∧ va_K (dC, dI) vwCl [] U ∧ va_D (fun _ => True) [(h0, .inr (13, zs))])) (va_Qi (fun (r : Int32) (u : (List Value)) => match u with | (zo1) => (r0 = r ∧ (r0 = 0 ∨ r0 = 1)) ∧ zo1.length = 155 ∧ (∀ j : Nat, j ≠ 1 → zo1[j]? = zs[j]?) ∧ zo1[1]? = some (.int w1)) (fun (u : (List Value)) (t : State) => match u with | (zo1) => va_P (dC, dI) vwCl [(h0, .inr (13, zo1))] t.heap ∧ va_K (dC, dI) vwCl [] t ∧ va_D (va_A [(h0, .inr (13, zs))] sz) [(h0, .inr (13, zo1))]) (va_A [(h0, .inr (13, zs))] sz)) 0 0 (va_A [(h0, .inr (13, zs))] sz) := by
  refine Met.ofW (cc := cX13_end) (maxL := 2) (ret := (some .boolean)) (by decide) rfl ?_
  intro p e s m args below meth c s₁ B hml hv
  obtain ⟨rfl, hsz, hP, hK, hD0⟩ := hv
  have hx := B.exec
  have hb := B.bytes
  have hr := B.returns
  have hts := atoms_spec (ws := (.code yX13_end cX13_end 2 (some .boolean) :: VS_h5)) B.pre
  replace hts := fun w (h : w ∈ VS_h5) => hts w (List.mem_cons_of_mem _ h)
  have hown : s.vm.findClass RX13 = some m.cls := findClass_of_methodNamed B.named
  have hlocks := B.notSynchronized
  subst hsz
  have hD := hD0.self (sz := s.heap.size)
  generalize hAe : va_A [(h0, .inr (13, zs))] s.heap.size = A at hD  ⊢
  have hA : ∀ q : Nat, s.heap.size ≤ q → A q := fun q h => by rw [← hAe]; exact Or.inr h
  have hP : va_P (dC, dI) vwCl [(h0, .inr (13, zs))] s.heap := hP
  have hl := lv_entry ([.ref h0, .int a1]) (n := 2) (Nat.le_of_ble_eq_true rfl)
  rw [lg_entry_eq]
  generalize (lg_sl ([.ref h0, .int a1]) ++ List.replicate (2 - (lg_sl ([.ref h0, .int a1])).length) Slot.unset).toArray = ls at hl ⊢
  have hl : lv_has ls 2 [(0, .ref h0), (1, .int a1)] := hl
  obtain ⟨H, hH⟩ : ∃ H : Heap, s.heap = H := ⟨_, rfl⟩
  rw [hH] at hP ⊢
  have hS : va_S A s.heap H [] := by rw [← hH]; exact va_S.rf
  obtain ⟨locs, hlo⟩ : ∃ locs : List Loc, locs = [] := ⟨_, rfl⟩
  rw [← hlo] at hS ⊢
  have hrs0 : ∀ j : Nat, j ≠ 1 → zs[j]? = zs[j]? := fun _ _  => rfl
  unfold sp_tm_end at hsp
  refine lv_iload_n hx hb dX13_end_0 rfl (lv_at hl 1 rfl) ?_
  refine lv_if_lt (tgt := 12) hx hb dX13_end_1 (by decide) (fun c_1 => ?_) (fun c_1 => ?_)
  · rw [if_pos c_1] at hsp
    refine lv_iconst (v := 0) hx hb dX13_end_12 (by decide) ?_
    have hr0 := Option.some.inj hsp
    clear hsp
    obtain ⟨hq0, hr1⟩ := Prod.mk.inj hr0
    clear hr0
    subst hq0
    subst hr1
    have hP9 := hP.sub (ws' := [(h0, .inr (13, zs))]) [0] rfl
    have hD9 := hD.sub (ws' := [(h0, .inr (13, zs))]) [0] (by decide) rfl
    have hK9 := hK.sub (tys' := []) [] rfl
    exact W.zret hx hb hr (by decide) (fun t ht hW => ⟨⟨(0), (zs), rfl, ⟨⟨rfl, Or.inl rfl⟩, hlen, hrs0, hf1⟩, by rw [ht]; exact hP9, va_K.moved hW.alike hK9, hD9⟩, hS.F ht⟩) hS.2.2 dX13_end_13
  · rw [if_neg c_1] at hsp
    refine lv_iload_n hx hb dX13_end_4 rfl (lv_at hl 1 rfl) ?_
    refine lv_aload_n hx hb dX13_end_5 rfl (lv_at hl 0 rfl) ?_
    refine va_get (D := (dC, dI)) (ci := 13) (v := .int v1) (C := RX13) (T := TX13) (N := 155) hx hb hts uV_h5_X13 hown hK hP 0 rfl rfl 1 (by decide) (hts (.fieldLink RX13 312 "ClassMillModel" "taped" "I") mw_h5_0) (fun _ h9 => h9) hf1 dX13_end_6 ?_
    refine lv_icmp_le (tgt := 14) hx hb dX13_end_9 (by decide) (fun c_2 => ?_) (fun c_2 => ?_)
    · rw [if_pos c_2] at hsp
      refine lv_aload_n hx hb dX13_end_14 rfl (lv_at hl 0 rfl) ?_
      refine lv_iload_n hx hb dX13_end_15 rfl (lv_at hl 1 rfl) ?_
      refine va_put (D := (dC, dI)) (ci := 13) (v := .int a1) (ty := .int) (C := RX13) (T := TX13) (N := 155) hx hb hts uV_h5_X13 tyX13 tyX13_ok nmX13 hown hK hP hD hS 0 rfl rfl 1 (by decide) (hts (.fieldLink RX13 312 "ClassMillModel" "taped" "I") mw_h5_0) (fun _ h9 => h9) rfl (by decide +kernel) rfl rfl (by rw [hlen]; decide) dX13_end_16 ?_
      clear hP hD hS
      intro H locs hP hD hS
      obtain ⟨fs_3, efs_3⟩ : ∃ zf : List Value, zf = zs.set 1 (.int a1) := ⟨_, rfl⟩
      rw [← efs_3] at hP hD
      have hlfs_3 : fs_3.length = 155 := by rw [efs_3, List.length_set]; exact hlen
      have hfs_3_1 : fs_3[1]? = some (.int a1) := by rw [efs_3, List.getElem?_set_self (by rw [hlen]; decide)]
      replace hP : va_P (dC, dI) vwCl [(h0, .inr (13, fs_3))] H := hP
      replace hD : va_D A [(h0, .inr (13, fs_3))] := hD
      have hrs_4 : ∀ j : Nat, j ≠ 1 → fs_3[j]? = zs[j]? := fun j g1 => ((congrArg (fun z : List Value => z[j]?) efs_3).trans (List.getElem?_set_ne (Ne.symm g1))).trans (hrs0 j g1)
      refine lv_iconst (v := 1) hx hb dX13_end_19 (by decide) ?_
      have hr0 := Option.some.inj hsp
      clear hsp
      obtain ⟨hq0, hr1⟩ := Prod.mk.inj hr0
      clear hr0
      subst hq0
      subst hr1
      have hP9 := hP.sub (ws' := [(h0, .inr (13, fs_3))]) [0] rfl
      have hD9 := hD.sub (ws' := [(h0, .inr (13, fs_3))]) [0] (by decide) rfl
      have hK9 := hK.sub (tys' := []) [] rfl
      exact W.zret hx hb hr (by decide) (fun t ht hW => ⟨⟨(1), (fs_3), rfl, ⟨⟨rfl, Or.inr rfl⟩, hlfs_3, hrs_4, hfs_3_1⟩, by rw [ht]; exact hP9, va_K.moved hW.alike hK9, hD9⟩, hS.F ht⟩) hS.2.2 dX13_end_20
    · rw [if_neg c_2] at hsp
      refine lv_iconst (v := 0) hx hb dX13_end_12 (by decide) ?_
      have hr0 := Option.some.inj hsp
      clear hsp
      obtain ⟨hq0, hr1⟩ := Prod.mk.inj hr0
      clear hr0
      subst hq0
      subst hr1
      have hP9 := hP.sub (ws' := [(h0, .inr (13, zs))]) [0] rfl
      have hD9 := hD.sub (ws' := [(h0, .inr (13, zs))]) [0] (by decide) rfl
      have hK9 := hK.sub (tys' := []) [] rfl
      exact W.zret hx hb hr (by decide) (fun t ht hW => ⟨⟨(0), (zs), rfl, ⟨⟨rfl, Or.inl rfl⟩, hlen, hrs0, hf1⟩, by rw [ht]; exact hP9, va_K.moved hW.alike hK9, hD9⟩, hS.F ht⟩) hS.2.2 dX13_end_13
def sp_tm_wrong (nf : Nat) (a1 : Int32) (a2 : Int32) (v9 : Int32) (v10 : Int32) (f5 : Nat → Int32) : Option (Int32 × Int32) := (if v9 = 0 then (if a2 < 0 then none else if 3002 ≤ (a2 : Int32).toNatClampNeg then none else (some ((f5 (a2 : Int32).toNatClampNeg), a1))) else (some (v10, v9)))
set_option maxHeartbeats 4000000 in
set_option maxRecDepth 100000 in
/-- ClassMillModel.wrong -/
theorem tm_wrong (l : Launch) (dC : Nat → ClassId) (dI : Nat → Nat → Nat) (sz : Nat) (h0 : Nat) (zs : (List Value)) (a1 : Int32) (a2 : Int32) (qf5 : Nat) (v9 : Int32) (v10 : Int32) (cf5 : ClassId) (f5 : (Nat → Int32)) (nf : Nat) (w10 : Int32) (w9 : Int32) (hlen : zs.length = 155) (hf5 : zs[5]? = some (.ref qf5)) (hf9 : zs[9]? = some (.int v9)) (hf10 : zs[10]? = some (.int v10)) (hsp : sp_tm_wrong nf a1 a2 v9 v10 f5 = some (w10, w9)) : Met l yX13_wrong (.code yX13_wrong cX13_wrong 3 none :: VS_h5) ({ frames := 0, cells := 0, slots := 0, locals := 0 }) (va_Pc [.ref h0, .int a1, .int a2] (fun U => U.heap.size = sz ∧ va_P (dC, dI) vwCl [(h0, .inr (13, zs)), (qf5, .inl (cf5, 3002, .inl f5))] U.heap ∧ va_K (dC, dI) vwCl [(cf5, .int)] U ∧ va_D (fun _ => True) [(h0, .inr (13, zs)), (qf5, .inl (cf5, 3002, .inl f5))])) (va_Qv (fun (u : (List Value)) => match u with | (zo1) => True ∧ zo1.length = 155 ∧ (∀ j : Nat, j ≠ 10 → j ≠ 9 → zo1[j]? = zs[j]?) ∧ zo1[10]? = some (.int w10) ∧ zo1[9]? = some (.int w9)) (fun (u : (List Value)) (t : State) => match u with | (zo1) => va_P (dC, dI) vwCl [(h0, .inr (13, zo1)), (qf5, .inl (cf5, 3002, .inl f5))] t.heap ∧ va_K (dC, dI) vwCl [(cf5, .int)] t ∧ va_D (va_A [(h0, .inr (13, zs)), (qf5, .inl (cf5, 3002, .inl f5))] sz) [(h0, .inr (13, zo1)), (qf5, .inl (cf5, 3002, .inl f5))]) (va_A [(h0, .inr (13, zs)), (qf5, .inl (cf5, 3002, .inl f5))] sz)) 0 0 (va_A [(h0, .inr (13, zs)), (qf5, .inl (cf5, 3002, .inl f5))] sz) := by
  refine Met.ofW (cc := cX13_wrong) (maxL := 3) (ret := none) (by decide) rfl ?_
  intro p e s m args below meth c s₁ B hml hv
  obtain ⟨rfl, hsz, hP, hK, hD0⟩ := hv
  have hx := B.exec
  have hb := B.bytes
  have hr := B.returns
  have hts := atoms_spec (ws := (.code yX13_wrong cX13_wrong 3 none :: VS_h5)) B.pre
  replace hts := fun w (h : w ∈ VS_h5) => hts w (List.mem_cons_of_mem _ h)
  have hown : s.vm.findClass RX13 = some m.cls := findClass_of_methodNamed B.named
  have hlocks := B.notSynchronized
  subst hsz
  have hD := hD0.self (sz := s.heap.size)
  generalize hAe : va_A [(h0, .inr (13, zs)), (qf5, .inl (cf5, 3002, .inl f5))] s.heap.size = A at hD  ⊢
  have hA : ∀ q : Nat, s.heap.size ≤ q → A q := fun q h => by rw [← hAe]; exact Or.inr h
  have hP : va_P (dC, dI) vwCl [(h0, .inr (13, zs)), (qf5, .inl (cf5, 3002, .inl f5))] s.heap := hP
  have hl := lv_entry ([.ref h0, .int a1, .int a2]) (n := 3) (Nat.le_of_ble_eq_true rfl)
  rw [lg_entry_eq]
  generalize (lg_sl ([.ref h0, .int a1, .int a2]) ++ List.replicate (3 - (lg_sl ([.ref h0, .int a1, .int a2])).length) Slot.unset).toArray = ls at hl ⊢
  have hl : lv_has ls 3 [(0, .ref h0), (1, .int a1), (2, .int a2)] := hl
  obtain ⟨H, hH⟩ : ∃ H : Heap, s.heap = H := ⟨_, rfl⟩
  rw [hH] at hP ⊢
  have hS : va_S A s.heap H [] := by rw [← hH]; exact va_S.rf
  obtain ⟨locs, hlo⟩ : ∃ locs : List Loc, locs = [] := ⟨_, rfl⟩
  rw [← hlo] at hS ⊢
  have hrs0 : ∀ j : Nat, j ≠ 10 → j ≠ 9 → zs[j]? = zs[j]? := fun _ _ _  => rfl
  unfold sp_tm_wrong at hsp
  refine lv_aload_n hx hb dX13_wrong_0 rfl (lv_at hl 0 rfl) ?_
  refine va_get (D := (dC, dI)) (ci := 13) (v := .int v9) (C := RX13) (T := TX13) (N := 155) hx hb hts uV_h5_X13 hown hK hP 0 rfl rfl 9 (by decide) (hts (.fieldLink RX13 319 "ClassMillModel" "fault" "I") mw_h5_1) (fun _ h9 => h9) hf9 dX13_wrong_1 ?_
  refine lv_if_eq (tgt := 8) hx hb dX13_wrong_4 (by decide) (fun c_1 => ?_) (fun c_1 => ?_)
  · rw [if_pos c_1] at hsp
    refine lv_aload_n hx hb dX13_wrong_8 rfl (lv_at hl 0 rfl) ?_
    refine lv_iload_n hx hb dX13_wrong_9 rfl (lv_at hl 1 rfl) ?_
    refine va_put (D := (dC, dI)) (ci := 13) (v := .int a1) (ty := .int) (C := RX13) (T := TX13) (N := 155) hx hb hts uV_h5_X13 tyX13 tyX13_ok nmX13 hown hK hP hD hS 0 rfl rfl 9 (by decide) (hts (.fieldLink RX13 319 "ClassMillModel" "fault" "I") mw_h5_1) (fun _ h9 => h9) rfl (by decide +kernel) rfl rfl (by rw [hlen]; decide) dX13_wrong_10 ?_
    clear hP hD hS
    intro H locs hP hD hS
    obtain ⟨fs_2, efs_2⟩ : ∃ zf : List Value, zf = zs.set 9 (.int a1) := ⟨_, rfl⟩
    rw [← efs_2] at hP hD
    have hlfs_2 : fs_2.length = 155 := by rw [efs_2, List.length_set]; exact hlen
    have hfs_2_5 : fs_2[5]? = some (.ref qf5) := by rw [efs_2, List.getElem?_set_ne (by decide)]; exact hf5
    have hfs_2_10 : fs_2[10]? = some (.int v10) := by rw [efs_2, List.getElem?_set_ne (by decide)]; exact hf10
    have hfs_2_9 : fs_2[9]? = some (.int a1) := by rw [efs_2, List.getElem?_set_self (by rw [hlen]; decide)]
    replace hP : va_P (dC, dI) vwCl [(h0, .inr (13, fs_2)), (qf5, .inl (cf5, 3002, .inl f5))] H := hP
    replace hD : va_D A [(h0, .inr (13, fs_2)), (qf5, .inl (cf5, 3002, .inl f5))] := hD
    have hrs_3 : ∀ j : Nat, j ≠ 10 → j ≠ 9 → fs_2[j]? = zs[j]? := fun j g10 g9 => ((congrArg (fun z : List Value => z[j]?) efs_2).trans (List.getElem?_set_ne (Ne.symm g9))).trans (hrs0 j g10 g9)
    refine lv_aload_n hx hb dX13_wrong_13 rfl (lv_at hl 0 rfl) ?_
    refine lv_aload_n hx hb dX13_wrong_14 rfl (lv_at hl 0 rfl) ?_
    refine va_get (D := (dC, dI)) (ci := 13) (v := .ref qf5) (C := RX13) (T := TX13) (N := 155) hx hb hts uV_h5_X13 hown hK hP 0 rfl rfl 5 (by decide) (hts (.fieldLink RX13 19 "ClassMillModel" "from" "[I") mw_h5_2) (fun _ h9 => h9) hfs_2_5 dX13_wrong_15 ?_
    refine lv_iload_n hx hb dX13_wrong_18 rfl (lv_at hl 2 rfl) ?_
    obtain ⟨hi_4, hsp⟩ := ox_in hsp
    refine va_iald hx hb hK hP 1 0 rfl rfl (i := a2) hi_4 dX13_wrong_19 ?_
    refine va_put (D := (dC, dI)) (ci := 13) (v := .int (f5 (a2 : Int32).toNatClampNeg)) (ty := .int) (C := RX13) (T := TX13) (N := 155) hx hb hts uV_h5_X13 tyX13 tyX13_ok nmX13 hown hK hP hD hS 0 rfl rfl 10 (by decide) (hts (.fieldLink RX13 322 "ClassMillModel" "place" "I") mw_h5_3) (fun _ h9 => h9) rfl (by decide +kernel) rfl rfl (by rw [hlfs_2]; decide) dX13_wrong_20 ?_
    clear hP hD hS
    intro H locs hP hD hS
    obtain ⟨fs_5, efs_5⟩ : ∃ zf : List Value, zf = fs_2.set 10 (.int (f5 (a2 : Int32).toNatClampNeg)) := ⟨_, rfl⟩
    rw [← efs_5] at hP hD
    have hlfs_5 : fs_5.length = 155 := by rw [efs_5, List.length_set]; exact hlfs_2
    have hfs_5_5 : fs_5[5]? = some (.ref qf5) := by rw [efs_5, List.getElem?_set_ne (by decide)]; exact hfs_2_5
    have hfs_5_9 : fs_5[9]? = some (.int a1) := by rw [efs_5, List.getElem?_set_ne (by decide)]; exact hfs_2_9
    have hfs_5_10 : fs_5[10]? = some (.int (f5 (a2 : Int32).toNatClampNeg)) := by rw [efs_5, List.getElem?_set_self (by rw [hlfs_2]; decide)]
    replace hP : va_P (dC, dI) vwCl [(h0, .inr (13, fs_5)), (qf5, .inl (cf5, 3002, .inl f5))] H := hP
    replace hD : va_D A [(h0, .inr (13, fs_5)), (qf5, .inl (cf5, 3002, .inl f5))] := hD
    have hrs_6 : ∀ j : Nat, j ≠ 10 → j ≠ 9 → fs_5[j]? = zs[j]? := fun j g10 g9 => ((congrArg (fun z : List Value => z[j]?) efs_5).trans (List.getElem?_set_ne (Ne.symm g10))).trans (hrs_3 j g10 g9)
    have hr0 := Option.some.inj hsp
    clear hsp
    obtain ⟨hq0, hr1⟩ := Prod.mk.inj hr0
    clear hr0
    subst hq0
    subst hr1
    have hP9 := hP.sub (ws' := [(h0, .inr (13, fs_5)), (qf5, .inl (cf5, 3002, .inl f5))]) [0, 1] rfl
    have hD9 := hD.sub (ws' := [(h0, .inr (13, fs_5)), (qf5, .inl (cf5, 3002, .inl f5))]) [0, 1] (by decide) rfl
    have hK9 := hK.sub (tys' := [(cf5, .int)]) [0] rfl
    exact W.vret hx hb hr (fun t ht hW => ⟨⟨(fs_5), rfl, ⟨trivial, hlfs_5, hrs_6, hfs_5_10, hfs_5_9⟩, by rw [ht]; exact hP9, va_K.moved hW.alike hK9, hD9⟩, hS.F ht⟩) hS.2.2 dX13_wrong_23
  · rw [if_neg c_1] at hsp
    have hr0 := Option.some.inj hsp
    clear hsp
    obtain ⟨hq0, hr1⟩ := Prod.mk.inj hr0
    clear hr0
    subst hq0
    subst hr1
    have hP9 := hP.sub (ws' := [(h0, .inr (13, zs)), (qf5, .inl (cf5, 3002, .inl f5))]) [0, 1] rfl
    have hD9 := hD.sub (ws' := [(h0, .inr (13, zs)), (qf5, .inl (cf5, 3002, .inl f5))]) [0, 1] (by decide) rfl
    have hK9 := hK.sub (tys' := [(cf5, .int)]) [0] rfl
    exact W.vret hx hb hr (fun t ht hW => ⟨⟨(zs), rfl, ⟨trivial, hlen, hrs0, hf10, hf9⟩, by rw [ht]; exact hP9, va_K.moved hW.alike hK9, hD9⟩, hS.F ht⟩) hS.2.2 dX13_wrong_7
def sp_tm_isLetter (nf : Nat) (a1 : Int32) : Option (Int32) := (if a1 < 97 then (if a1 < 65 then (some 0) else (if 90 < a1 then (some 0) else (some 1))) else (if a1 ≤ 122 then (some 1) else (if a1 < 65 then (some 0) else (if 90 < a1 then (some 0) else (some 1)))))
set_option maxHeartbeats 4000000 in
set_option maxRecDepth 100000 in
/-- ClassMillModel.isLetter -/
theorem tm_isLetter (l : Launch) (dC : Nat → ClassId) (dI : Nat → Nat → Nat) (sz : Nat) (a1 : Int32) (nf : Nat) (r0 : Int32) (hsp : sp_tm_isLetter nf a1 = some r0) : Met l yX13_isLetter (.code yX13_isLetter cX13_isLetter 1 (some .boolean) :: VS_h5) ({ frames := 0, cells := 0, slots := 0, locals := 0 }) (va_Pc [.int a1] (fun U => U.heap.size = sz ∧ va_P (dC, dI) vwCl [] U.heap ∧ va_K (dC, dI) vwCl [] U ∧ va_D (fun _ => True) [])) (va_Qi (fun (r : Int32) (u : Unit) => match u with | () => r0 = r ∧ (r0 = 0 ∨ r0 = 1)) (fun (u : Unit) (t : State) => match u with | () => va_P (dC, dI) vwCl [] t.heap ∧ va_K (dC, dI) vwCl [] t ∧ va_D (va_A [] sz) []) (va_A [] sz)) 0 0 (va_A [] sz) := by
  refine Met.ofW (cc := cX13_isLetter) (maxL := 1) (ret := (some .boolean)) (by decide) rfl ?_
  intro p e s m args below meth c s₁ B hml hv
  obtain ⟨rfl, hsz, hP, hK, hD0⟩ := hv
  have hx := B.exec
  have hb := B.bytes
  have hr := B.returns
  have hts := atoms_spec (ws := (.code yX13_isLetter cX13_isLetter 1 (some .boolean) :: VS_h5)) B.pre
  replace hts := fun w (h : w ∈ VS_h5) => hts w (List.mem_cons_of_mem _ h)
  have hown : s.vm.findClass RX13 = some m.cls := findClass_of_methodNamed B.named
  have hlocks := B.notSynchronized
  subst hsz
  have hD := hD0.self (sz := s.heap.size)
  generalize hAe : va_A [] s.heap.size = A at hD  ⊢
  have hA : ∀ q : Nat, s.heap.size ≤ q → A q := fun q h => by rw [← hAe]; exact Or.inr h
  have hP : va_P (dC, dI) vwCl [] s.heap := hP
  have hl := lv_entry ([.int a1]) (n := 1) (Nat.le_of_ble_eq_true rfl)
  rw [lg_entry_eq]
  generalize (lg_sl ([.int a1]) ++ List.replicate (1 - (lg_sl ([.int a1])).length) Slot.unset).toArray = ls at hl ⊢
  have hl : lv_has ls 1 [(0, .int a1)] := hl
  obtain ⟨H, hH⟩ : ∃ H : Heap, s.heap = H := ⟨_, rfl⟩
  rw [hH] at hP ⊢
  have hS : va_S A s.heap H [] := by rw [← hH]; exact va_S.rf
  obtain ⟨locs, hlo⟩ : ∃ locs : List Loc, locs = [] := ⟨_, rfl⟩
  rw [← hlo] at hS ⊢
  unfold sp_tm_isLetter at hsp
  refine lv_iload_n hx hb dX13_isLetter_0 rfl (lv_at hl 0 rfl) ?_
  refine lv_bipush (v := 97) hx hb dX13_isLetter_1 (by decide) ?_
  refine lv_icmp_lt (tgt := 12) hx hb dX13_isLetter_3 (by decide) (fun c_1 => ?_) (fun c_1 => ?_)
  · rw [if_pos c_1] at hsp
    refine lv_iload_n hx hb dX13_isLetter_12 rfl (lv_at hl 0 rfl) ?_
    refine lv_bipush (v := 65) hx hb dX13_isLetter_13 (by decide) ?_
    refine lv_icmp_lt (tgt := 28) hx hb dX13_isLetter_15 (by decide) (fun c_2 => ?_) (fun c_2 => ?_)
    · rw [if_pos c_2] at hsp
      refine lv_iconst (v := 0) hx hb dX13_isLetter_28 (by decide) ?_
      have hr0 := Option.some.inj hsp
      clear hsp
      subst hr0
      have hP9 := hP.sub (ws' := []) [] rfl
      have hD9 := hD.sub (ws' := []) [] (by decide) rfl
      have hK9 := hK.sub (tys' := []) [] rfl
      exact W.zret hx hb hr (by decide) (fun t ht hW => ⟨⟨(0), (), rfl, ⟨rfl, Or.inl rfl⟩, by rw [ht]; exact hP9, va_K.moved hW.alike hK9, hD9⟩, hS.F ht⟩) hS.2.2 dX13_isLetter_29
    · rw [if_neg c_2] at hsp
      refine lv_iload_n hx hb dX13_isLetter_18 rfl (lv_at hl 0 rfl) ?_
      refine lv_bipush (v := 90) hx hb dX13_isLetter_19 (by decide) ?_
      refine lv_icmp_gt (tgt := 28) hx hb dX13_isLetter_21 (by decide) (fun c_3 => ?_) (fun c_3 => ?_)
      · rw [if_pos c_3] at hsp
        refine lv_iconst (v := 0) hx hb dX13_isLetter_28 (by decide) ?_
        have hr0 := Option.some.inj hsp
        clear hsp
        subst hr0
        have hP9 := hP.sub (ws' := []) [] rfl
        have hD9 := hD.sub (ws' := []) [] (by decide) rfl
        have hK9 := hK.sub (tys' := []) [] rfl
        exact W.zret hx hb hr (by decide) (fun t ht hW => ⟨⟨(0), (), rfl, ⟨rfl, Or.inl rfl⟩, by rw [ht]; exact hP9, va_K.moved hW.alike hK9, hD9⟩, hS.F ht⟩) hS.2.2 dX13_isLetter_29
      · rw [if_neg c_3] at hsp
        refine lv_iconst (v := 1) hx hb dX13_isLetter_24 (by decide) ?_
        refine lv_goto (tgt := 29) hx hb dX13_isLetter_25 (by decide) ?_
        have hr0 := Option.some.inj hsp
        clear hsp
        subst hr0
        have hP9 := hP.sub (ws' := []) [] rfl
        have hD9 := hD.sub (ws' := []) [] (by decide) rfl
        have hK9 := hK.sub (tys' := []) [] rfl
        exact W.zret hx hb hr (by decide) (fun t ht hW => ⟨⟨(1), (), rfl, ⟨rfl, Or.inr rfl⟩, by rw [ht]; exact hP9, va_K.moved hW.alike hK9, hD9⟩, hS.F ht⟩) hS.2.2 dX13_isLetter_29
  · rw [if_neg c_1] at hsp
    refine lv_iload_n hx hb dX13_isLetter_6 rfl (lv_at hl 0 rfl) ?_
    refine lv_bipush (v := 122) hx hb dX13_isLetter_7 (by decide) ?_
    refine lv_icmp_le (tgt := 24) hx hb dX13_isLetter_9 (by decide) (fun c_4 => ?_) (fun c_4 => ?_)
    · rw [if_pos c_4] at hsp
      refine lv_iconst (v := 1) hx hb dX13_isLetter_24 (by decide) ?_
      refine lv_goto (tgt := 29) hx hb dX13_isLetter_25 (by decide) ?_
      have hr0 := Option.some.inj hsp
      clear hsp
      subst hr0
      have hP9 := hP.sub (ws' := []) [] rfl
      have hD9 := hD.sub (ws' := []) [] (by decide) rfl
      have hK9 := hK.sub (tys' := []) [] rfl
      exact W.zret hx hb hr (by decide) (fun t ht hW => ⟨⟨(1), (), rfl, ⟨rfl, Or.inr rfl⟩, by rw [ht]; exact hP9, va_K.moved hW.alike hK9, hD9⟩, hS.F ht⟩) hS.2.2 dX13_isLetter_29
    · rw [if_neg c_4] at hsp
      refine lv_iload_n hx hb dX13_isLetter_12 rfl (lv_at hl 0 rfl) ?_
      refine lv_bipush (v := 65) hx hb dX13_isLetter_13 (by decide) ?_
      refine lv_icmp_lt (tgt := 28) hx hb dX13_isLetter_15 (by decide) (fun c_5 => ?_) (fun c_5 => ?_)
      · rw [if_pos c_5] at hsp
        refine lv_iconst (v := 0) hx hb dX13_isLetter_28 (by decide) ?_
        have hr0 := Option.some.inj hsp
        clear hsp
        subst hr0
        have hP9 := hP.sub (ws' := []) [] rfl
        have hD9 := hD.sub (ws' := []) [] (by decide) rfl
        have hK9 := hK.sub (tys' := []) [] rfl
        exact W.zret hx hb hr (by decide) (fun t ht hW => ⟨⟨(0), (), rfl, ⟨rfl, Or.inl rfl⟩, by rw [ht]; exact hP9, va_K.moved hW.alike hK9, hD9⟩, hS.F ht⟩) hS.2.2 dX13_isLetter_29
      · rw [if_neg c_5] at hsp
        refine lv_iload_n hx hb dX13_isLetter_18 rfl (lv_at hl 0 rfl) ?_
        refine lv_bipush (v := 90) hx hb dX13_isLetter_19 (by decide) ?_
        refine lv_icmp_gt (tgt := 28) hx hb dX13_isLetter_21 (by decide) (fun c_6 => ?_) (fun c_6 => ?_)
        · rw [if_pos c_6] at hsp
          refine lv_iconst (v := 0) hx hb dX13_isLetter_28 (by decide) ?_
          have hr0 := Option.some.inj hsp
          clear hsp
          subst hr0
          have hP9 := hP.sub (ws' := []) [] rfl
          have hD9 := hD.sub (ws' := []) [] (by decide) rfl
          have hK9 := hK.sub (tys' := []) [] rfl
          exact W.zret hx hb hr (by decide) (fun t ht hW => ⟨⟨(0), (), rfl, ⟨rfl, Or.inl rfl⟩, by rw [ht]; exact hP9, va_K.moved hW.alike hK9, hD9⟩, hS.F ht⟩) hS.2.2 dX13_isLetter_29
        · rw [if_neg c_6] at hsp
          refine lv_iconst (v := 1) hx hb dX13_isLetter_24 (by decide) ?_
          refine lv_goto (tgt := 29) hx hb dX13_isLetter_25 (by decide) ?_
          have hr0 := Option.some.inj hsp
          clear hsp
          subst hr0
          have hP9 := hP.sub (ws' := []) [] rfl
          have hD9 := hD.sub (ws' := []) [] (by decide) rfl
          have hK9 := hK.sub (tys' := []) [] rfl
          exact W.zret hx hb hr (by decide) (fun t ht hW => ⟨⟨(1), (), rfl, ⟨rfl, Or.inr rfl⟩, by rw [ht]; exact hP9, va_K.moved hW.alike hK9, hD9⟩, hS.F ht⟩) hS.2.2 dX13_isLetter_29
def sp_tm_isDigit (nf : Nat) (a1 : Int32) : Option (Int32) := (if a1 < 48 then (some 0) else (if 57 < a1 then (some 0) else (some 1)))
set_option maxHeartbeats 4000000 in
set_option maxRecDepth 100000 in
/-- ClassMillModel.isDigit -/
theorem tm_isDigit (l : Launch) (dC : Nat → ClassId) (dI : Nat → Nat → Nat) (sz : Nat) (a1 : Int32) (nf : Nat) (r0 : Int32) (hsp : sp_tm_isDigit nf a1 = some r0) : Met l yX13_isDigit (.code yX13_isDigit cX13_isDigit 1 (some .boolean) :: VS_h5) ({ frames := 0, cells := 0, slots := 0, locals := 0 }) (va_Pc [.int a1] (fun U => U.heap.size = sz ∧ va_P (dC, dI) vwCl [] U.heap ∧ va_K (dC, dI) vwCl [] U ∧ va_D (fun _ => True) [])) (va_Qi (fun (r : Int32) (u : Unit) => match u with | () => r0 = r ∧ (r0 = 0 ∨ r0 = 1)) (fun (u : Unit) (t : State) => match u with | () => va_P (dC, dI) vwCl [] t.heap ∧ va_K (dC, dI) vwCl [] t ∧ va_D (va_A [] sz) []) (va_A [] sz)) 0 0 (va_A [] sz) := by
  refine Met.ofW (cc := cX13_isDigit) (maxL := 1) (ret := (some .boolean)) (by decide) rfl ?_
  intro p e s m args below meth c s₁ B hml hv
  obtain ⟨rfl, hsz, hP, hK, hD0⟩ := hv
  have hx := B.exec
  have hb := B.bytes
  have hr := B.returns
  have hts := atoms_spec (ws := (.code yX13_isDigit cX13_isDigit 1 (some .boolean) :: VS_h5)) B.pre
  replace hts := fun w (h : w ∈ VS_h5) => hts w (List.mem_cons_of_mem _ h)
  have hown : s.vm.findClass RX13 = some m.cls := findClass_of_methodNamed B.named
  have hlocks := B.notSynchronized
  subst hsz
  have hD := hD0.self (sz := s.heap.size)
  generalize hAe : va_A [] s.heap.size = A at hD  ⊢
  have hA : ∀ q : Nat, s.heap.size ≤ q → A q := fun q h => by rw [← hAe]; exact Or.inr h
  have hP : va_P (dC, dI) vwCl [] s.heap := hP
  have hl := lv_entry ([.int a1]) (n := 1) (Nat.le_of_ble_eq_true rfl)
  rw [lg_entry_eq]
  generalize (lg_sl ([.int a1]) ++ List.replicate (1 - (lg_sl ([.int a1])).length) Slot.unset).toArray = ls at hl ⊢
  have hl : lv_has ls 1 [(0, .int a1)] := hl
  obtain ⟨H, hH⟩ : ∃ H : Heap, s.heap = H := ⟨_, rfl⟩
  rw [hH] at hP ⊢
  have hS : va_S A s.heap H [] := by rw [← hH]; exact va_S.rf
  obtain ⟨locs, hlo⟩ : ∃ locs : List Loc, locs = [] := ⟨_, rfl⟩
  rw [← hlo] at hS ⊢
  unfold sp_tm_isDigit at hsp
  refine lv_iload_n hx hb dX13_isDigit_0 rfl (lv_at hl 0 rfl) ?_
  refine lv_bipush (v := 48) hx hb dX13_isDigit_1 (by decide) ?_
  refine lv_icmp_lt (tgt := 16) hx hb dX13_isDigit_3 (by decide) (fun c_1 => ?_) (fun c_1 => ?_)
  · rw [if_pos c_1] at hsp
    refine lv_iconst (v := 0) hx hb dX13_isDigit_16 (by decide) ?_
    have hr0 := Option.some.inj hsp
    clear hsp
    subst hr0
    have hP9 := hP.sub (ws' := []) [] rfl
    have hD9 := hD.sub (ws' := []) [] (by decide) rfl
    have hK9 := hK.sub (tys' := []) [] rfl
    exact W.zret hx hb hr (by decide) (fun t ht hW => ⟨⟨(0), (), rfl, ⟨rfl, Or.inl rfl⟩, by rw [ht]; exact hP9, va_K.moved hW.alike hK9, hD9⟩, hS.F ht⟩) hS.2.2 dX13_isDigit_17
  · rw [if_neg c_1] at hsp
    refine lv_iload_n hx hb dX13_isDigit_6 rfl (lv_at hl 0 rfl) ?_
    refine lv_bipush (v := 57) hx hb dX13_isDigit_7 (by decide) ?_
    refine lv_icmp_gt (tgt := 16) hx hb dX13_isDigit_9 (by decide) (fun c_2 => ?_) (fun c_2 => ?_)
    · rw [if_pos c_2] at hsp
      refine lv_iconst (v := 0) hx hb dX13_isDigit_16 (by decide) ?_
      have hr0 := Option.some.inj hsp
      clear hsp
      subst hr0
      have hP9 := hP.sub (ws' := []) [] rfl
      have hD9 := hD.sub (ws' := []) [] (by decide) rfl
      have hK9 := hK.sub (tys' := []) [] rfl
      exact W.zret hx hb hr (by decide) (fun t ht hW => ⟨⟨(0), (), rfl, ⟨rfl, Or.inl rfl⟩, by rw [ht]; exact hP9, va_K.moved hW.alike hK9, hD9⟩, hS.F ht⟩) hS.2.2 dX13_isDigit_17
    · rw [if_neg c_2] at hsp
      refine lv_iconst (v := 1) hx hb dX13_isDigit_12 (by decide) ?_
      refine lv_goto (tgt := 17) hx hb dX13_isDigit_13 (by decide) ?_
      have hr0 := Option.some.inj hsp
      clear hsp
      subst hr0
      have hP9 := hP.sub (ws' := []) [] rfl
      have hD9 := hD.sub (ws' := []) [] (by decide) rfl
      have hK9 := hK.sub (tys' := []) [] rfl
      exact W.zret hx hb hr (by decide) (fun t ht hW => ⟨⟨(1), (), rfl, ⟨rfl, Or.inr rfl⟩, by rw [ht]; exact hP9, va_K.moved hW.alike hK9, hD9⟩, hS.F ht⟩) hS.2.2 dX13_isDigit_17
def sp_tm_at (nf : Nat) (a1 : Int32) (v3 : Int32) (f2 : Nat → Int32) : Option (Int32) := (if v3 ≤ a1 then (some 0) else (if a1 < 0 then none else if 3000 ≤ (a1 : Int32).toNatClampNeg then none else (some (f2 (a1 : Int32).toNatClampNeg))))
set_option maxHeartbeats 4000000 in
set_option maxRecDepth 100000 in
/-- ClassMillModel.at -/
theorem tm_at (l : Launch) (dC : Nat → ClassId) (dI : Nat → Nat → Nat) (sz : Nat) (h0 : Nat) (zs : (List Value)) (a1 : Int32) (qf2 : Nat) (v3 : Int32) (cf2 : ClassId) (f2 : (Nat → Int32)) (nf : Nat) (r0 : Int32) (hlen : zs.length = 155) (hf2 : zs[2]? = some (.ref qf2)) (hf3 : zs[3]? = some (.int v3)) (hsp : sp_tm_at nf a1 v3 f2 = some r0) : Met l yX13_at (.code yX13_at cX13_at 2 (some .int) :: VS_h5) ({ frames := 0, cells := 0, slots := 0, locals := 0 }) (va_Pc [.ref h0, .int a1] (fun U => U.heap.size = sz ∧ va_P (dC, dI) vwCl [(h0, .inr (13, zs)), (qf2, .inl (cf2, 3000, .inl f2))] U.heap ∧ va_K (dC, dI) vwCl [(cf2, .int)] U ∧ va_D (fun _ => True) [(h0, .inr (13, zs)), (qf2, .inl (cf2, 3000, .inl f2))])) (va_Qi (fun (r : Int32) (u : (List Value)) => match u with | (zo1) => r0 = r ∧ zo1.length = 155 ∧ (∀ j : Nat, zo1[j]? = zs[j]?)) (fun (u : (List Value)) (t : State) => match u with | (zo1) => va_P (dC, dI) vwCl [(h0, .inr (13, zo1)), (qf2, .inl (cf2, 3000, .inl f2))] t.heap ∧ va_K (dC, dI) vwCl [(cf2, .int)] t ∧ va_D (va_A [(h0, .inr (13, zs)), (qf2, .inl (cf2, 3000, .inl f2))] sz) [(h0, .inr (13, zo1)), (qf2, .inl (cf2, 3000, .inl f2))]) (va_A [(h0, .inr (13, zs)), (qf2, .inl (cf2, 3000, .inl f2))] sz)) 0 0 (va_A [(h0, .inr (13, zs)), (qf2, .inl (cf2, 3000, .inl f2))] sz) := by
  refine Met.ofW (cc := cX13_at) (maxL := 2) (ret := (some .int)) (by decide) rfl ?_
  intro p e s m args below meth c s₁ B hml hv
  obtain ⟨rfl, hsz, hP, hK, hD0⟩ := hv
  have hx := B.exec
  have hb := B.bytes
  have hr := B.returns
  have hts := atoms_spec (ws := (.code yX13_at cX13_at 2 (some .int) :: VS_h5)) B.pre
  replace hts := fun w (h : w ∈ VS_h5) => hts w (List.mem_cons_of_mem _ h)
  have hown : s.vm.findClass RX13 = some m.cls := findClass_of_methodNamed B.named
  have hlocks := B.notSynchronized
  subst hsz
  have hD := hD0.self (sz := s.heap.size)
  generalize hAe : va_A [(h0, .inr (13, zs)), (qf2, .inl (cf2, 3000, .inl f2))] s.heap.size = A at hD  ⊢
  have hA : ∀ q : Nat, s.heap.size ≤ q → A q := fun q h => by rw [← hAe]; exact Or.inr h
  have hP : va_P (dC, dI) vwCl [(h0, .inr (13, zs)), (qf2, .inl (cf2, 3000, .inl f2))] s.heap := hP
  have hl := lv_entry ([.ref h0, .int a1]) (n := 2) (Nat.le_of_ble_eq_true rfl)
  rw [lg_entry_eq]
  generalize (lg_sl ([.ref h0, .int a1]) ++ List.replicate (2 - (lg_sl ([.ref h0, .int a1])).length) Slot.unset).toArray = ls at hl ⊢
  have hl : lv_has ls 2 [(0, .ref h0), (1, .int a1)] := hl
  obtain ⟨H, hH⟩ : ∃ H : Heap, s.heap = H := ⟨_, rfl⟩
  rw [hH] at hP ⊢
  have hS : va_S A s.heap H [] := by rw [← hH]; exact va_S.rf
  obtain ⟨locs, hlo⟩ : ∃ locs : List Loc, locs = [] := ⟨_, rfl⟩
  rw [← hlo] at hS ⊢
  have hrs0 : ∀ j : Nat, zs[j]? = zs[j]? := fun _  => rfl
  unfold sp_tm_at at hsp
  refine lv_iload_n hx hb dX13_at_0 rfl (lv_at hl 1 rfl) ?_
  refine lv_aload_n hx hb dX13_at_1 rfl (lv_at hl 0 rfl) ?_
  refine va_get (D := (dC, dI)) (ci := 13) (v := .int v3) (C := RX13) (T := TX13) (N := 155) hx hb hts uV_h5_X13 hown hK hP 0 rfl rfl 3 (by decide) (hts (.fieldLink RX13 325 "ClassMillModel" "size" "I") mw_h5_4) (fun _ h9 => h9) hf3 dX13_at_2 ?_
  refine lv_icmp_ge (tgt := 17) hx hb dX13_at_5 (by decide) (fun c_1 => ?_) (fun c_1 => ?_)
  · rw [if_pos c_1] at hsp
    refine lv_iconst (v := 0) hx hb dX13_at_17 (by decide) ?_
    have hr0 := Option.some.inj hsp
    clear hsp
    subst hr0
    have hP9 := hP.sub (ws' := [(h0, .inr (13, zs)), (qf2, .inl (cf2, 3000, .inl f2))]) [0, 1] rfl
    have hD9 := hD.sub (ws' := [(h0, .inr (13, zs)), (qf2, .inl (cf2, 3000, .inl f2))]) [0, 1] (by decide) rfl
    have hK9 := hK.sub (tys' := [(cf2, .int)]) [0] rfl
    exact W.iret hx hb hr (fun t ht hW => ⟨⟨(0), (zs), rfl, ⟨rfl, hlen, hrs0⟩, by rw [ht]; exact hP9, va_K.moved hW.alike hK9, hD9⟩, hS.F ht⟩) hS.2.2 dX13_at_18
  · rw [if_neg c_1] at hsp
    refine lv_aload_n hx hb dX13_at_8 rfl (lv_at hl 0 rfl) ?_
    refine va_get (D := (dC, dI)) (ci := 13) (v := .ref qf2) (C := RX13) (T := TX13) (N := 155) hx hb hts uV_h5_X13 hown hK hP 0 rfl rfl 2 (by decide) (hts (.fieldLink RX13 13 "ClassMillModel" "text" "[I") mw_h5_5) (fun _ h9 => h9) hf2 dX13_at_9 ?_
    refine lv_iload_n hx hb dX13_at_12 rfl (lv_at hl 1 rfl) ?_
    obtain ⟨hi_2, hsp⟩ := ox_in hsp
    refine va_iald hx hb hK hP 1 0 rfl rfl (i := a1) hi_2 dX13_at_13 ?_
    refine lv_goto (tgt := 18) hx hb dX13_at_14 (by decide) ?_
    have hr0 := Option.some.inj hsp
    clear hsp
    subst hr0
    have hP9 := hP.sub (ws' := [(h0, .inr (13, zs)), (qf2, .inl (cf2, 3000, .inl f2))]) [0, 1] rfl
    have hD9 := hD.sub (ws' := [(h0, .inr (13, zs)), (qf2, .inl (cf2, 3000, .inl f2))]) [0, 1] (by decide) rfl
    have hK9 := hK.sub (tys' := [(cf2, .int)]) [0] rfl
    exact W.iret hx hb hr (fun t ht hW => ⟨⟨((f2 (a1 : Int32).toNatClampNeg)), (zs), rfl, ⟨rfl, hlen, hrs0⟩, by rw [ht]; exact hP9, va_K.moved hW.alike hK9, hD9⟩, hS.F ht⟩) hS.2.2 dX13_at_18
def sp_tm_token (nf : Nat) (a1 : Int32) (a2 : Int32) (a3 : Int32) (a4 : Int32) (v8 : Int32) (f4 : Nat → Int32) (f5 : Nat → Int32) (f6 : Nat → Int32) (f7 : Nat → Int32) : Option ((Nat → Int32) × (Nat → Int32) × (Nat → Int32) × (Nat → Int32) × Int32) := (if v8 < 0 then none else if 3008 ≤ (v8 : Int32).toNatClampNeg then none else (if v8 < 0 then none else if 3002 ≤ (v8 : Int32).toNatClampNeg then none else (if v8 < 0 then none else if 3002 ≤ (v8 : Int32).toNatClampNeg then none else (if v8 < 0 then none else if 3002 ≤ (v8 : Int32).toNatClampNeg then none else (some ((upd f4 (v8 : Int32).toNatClampNeg a1), (upd f5 (v8 : Int32).toNatClampNeg a2), (upd f6 (v8 : Int32).toNatClampNeg a3), (upd f7 (v8 : Int32).toNatClampNeg a4), (v8 + 1)))))))
set_option maxHeartbeats 4000000 in
set_option maxRecDepth 100000 in
/-- ClassMillModel.token -/
theorem tm_token (l : Launch) (dC : Nat → ClassId) (dI : Nat → Nat → Nat) (sz : Nat) (h0 : Nat) (zs : (List Value)) (a1 : Int32) (a2 : Int32) (a3 : Int32) (a4 : Int32) (qf4 : Nat) (qf5 : Nat) (qf6 : Nat) (qf7 : Nat) (v8 : Int32) (cf4 : ClassId) (f4 : (Nat → Int32)) (cf5 : ClassId) (f5 : (Nat → Int32)) (cf6 : ClassId) (f6 : (Nat → Int32)) (cf7 : ClassId) (f7 : (Nat → Int32)) (nf : Nat) (o4 : (Nat → Int32)) (o5 : (Nat → Int32)) (o6 : (Nat → Int32)) (o7 : (Nat → Int32)) (w8 : Int32) (hlen : zs.length = 155) (hf4 : zs[4]? = some (.ref qf4)) (hf5 : zs[5]? = some (.ref qf5)) (hf6 : zs[6]? = some (.ref qf6)) (hf7 : zs[7]? = some (.ref qf7)) (hf8 : zs[8]? = some (.int v8)) (hsp : sp_tm_token nf a1 a2 a3 a4 v8 f4 f5 f6 f7 = some (o4, o5, o6, o7, w8)) : Met l yX13_token (.code yX13_token cX13_token 5 none :: VS_h5) ({ frames := 0, cells := 0, slots := 0, locals := 0 }) (va_Pc [.ref h0, .int a1, .int a2, .int a3, .int a4] (fun U => U.heap.size = sz ∧ va_P (dC, dI) vwCl [(h0, .inr (13, zs)), (qf4, .inl (cf4, 3008, .inl f4)), (qf5, .inl (cf5, 3002, .inl f5)), (qf6, .inl (cf6, 3002, .inl f6)), (qf7, .inl (cf7, 3002, .inl f7))] U.heap ∧ va_K (dC, dI) vwCl [(cf4, .int), (cf5, .int), (cf6, .int), (cf7, .int)] U ∧ va_D (fun _ => True) [(h0, .inr (13, zs)), (qf4, .inl (cf4, 3008, .inl f4)), (qf5, .inl (cf5, 3002, .inl f5)), (qf6, .inl (cf6, 3002, .inl f6)), (qf7, .inl (cf7, 3002, .inl f7))])) (va_Qv (fun (u : (List Value)) => match u with | (zo1) => True ∧ zo1.length = 155 ∧ (∀ j : Nat, j ≠ 8 → zo1[j]? = zs[j]?) ∧ zo1[8]? = some (.int w8)) (fun (u : (List Value)) (t : State) => match u with | (zo1) => va_P (dC, dI) vwCl [(h0, .inr (13, zo1)), (qf4, .inl (cf4, 3008, .inl o4)), (qf5, .inl (cf5, 3002, .inl o5)), (qf6, .inl (cf6, 3002, .inl o6)), (qf7, .inl (cf7, 3002, .inl o7))] t.heap ∧ va_K (dC, dI) vwCl [(cf4, .int), (cf5, .int), (cf6, .int), (cf7, .int)] t ∧ va_D (va_A [(h0, .inr (13, zs)), (qf4, .inl (cf4, 3008, .inl f4)), (qf5, .inl (cf5, 3002, .inl f5)), (qf6, .inl (cf6, 3002, .inl f6)), (qf7, .inl (cf7, 3002, .inl f7))] sz) [(h0, .inr (13, zo1)), (qf4, .inl (cf4, 3008, .inl o4)), (qf5, .inl (cf5, 3002, .inl o5)), (qf6, .inl (cf6, 3002, .inl o6)), (qf7, .inl (cf7, 3002, .inl o7))]) (va_A [(h0, .inr (13, zs)), (qf4, .inl (cf4, 3008, .inl f4)), (qf5, .inl (cf5, 3002, .inl f5)), (qf6, .inl (cf6, 3002, .inl f6)), (qf7, .inl (cf7, 3002, .inl f7))] sz)) 0 0 (va_A [(h0, .inr (13, zs)), (qf4, .inl (cf4, 3008, .inl f4)), (qf5, .inl (cf5, 3002, .inl f5)), (qf6, .inl (cf6, 3002, .inl f6)), (qf7, .inl (cf7, 3002, .inl f7))] sz) := by
  refine Met.ofW (cc := cX13_token) (maxL := 5) (ret := none) (by decide) rfl ?_
  intro p e s m args below meth c s₁ B hml hv
  obtain ⟨rfl, hsz, hP, hK, hD0⟩ := hv
  have hx := B.exec
  have hb := B.bytes
  have hr := B.returns
  have hts := atoms_spec (ws := (.code yX13_token cX13_token 5 none :: VS_h5)) B.pre
  replace hts := fun w (h : w ∈ VS_h5) => hts w (List.mem_cons_of_mem _ h)
  have hown : s.vm.findClass RX13 = some m.cls := findClass_of_methodNamed B.named
  have hlocks := B.notSynchronized
  subst hsz
  have hD := hD0.self (sz := s.heap.size)
  generalize hAe : va_A [(h0, .inr (13, zs)), (qf4, .inl (cf4, 3008, .inl f4)), (qf5, .inl (cf5, 3002, .inl f5)), (qf6, .inl (cf6, 3002, .inl f6)), (qf7, .inl (cf7, 3002, .inl f7))] s.heap.size = A at hD  ⊢
  have hA : ∀ q : Nat, s.heap.size ≤ q → A q := fun q h => by rw [← hAe]; exact Or.inr h
  have hP : va_P (dC, dI) vwCl [(h0, .inr (13, zs)), (qf4, .inl (cf4, 3008, .inl f4)), (qf5, .inl (cf5, 3002, .inl f5)), (qf6, .inl (cf6, 3002, .inl f6)), (qf7, .inl (cf7, 3002, .inl f7))] s.heap := hP
  have hl := lv_entry ([.ref h0, .int a1, .int a2, .int a3, .int a4]) (n := 5) (Nat.le_of_ble_eq_true rfl)
  rw [lg_entry_eq]
  generalize (lg_sl ([.ref h0, .int a1, .int a2, .int a3, .int a4]) ++ List.replicate (5 - (lg_sl ([.ref h0, .int a1, .int a2, .int a3, .int a4])).length) Slot.unset).toArray = ls at hl ⊢
  have hl : lv_has ls 5 [(0, .ref h0), (1, .int a1), (2, .int a2), (3, .int a3), (4, .int a4)] := hl
  obtain ⟨H, hH⟩ : ∃ H : Heap, s.heap = H := ⟨_, rfl⟩
  rw [hH] at hP ⊢
  have hS : va_S A s.heap H [] := by rw [← hH]; exact va_S.rf
  obtain ⟨locs, hlo⟩ : ∃ locs : List Loc, locs = [] := ⟨_, rfl⟩
  rw [← hlo] at hS ⊢
  have hrs0 : ∀ j : Nat, j ≠ 8 → zs[j]? = zs[j]? := fun _ _  => rfl
  unfold sp_tm_token at hsp
  refine lv_aload_n hx hb dX13_token_0 rfl (lv_at hl 0 rfl) ?_
  refine va_get (D := (dC, dI)) (ci := 13) (v := .ref qf4) (C := RX13) (T := TX13) (N := 155) hx hb hts uV_h5_X13 hown hK hP 0 rfl rfl 4 (by decide) (hts (.fieldLink RX13 16 "ClassMillModel" "kind" "[I") mw_h5_6) (fun _ h9 => h9) hf4 dX13_token_1 ?_
  refine lv_aload_n hx hb dX13_token_4 rfl (lv_at hl 0 rfl) ?_
  refine va_get (D := (dC, dI)) (ci := 13) (v := .int v8) (C := RX13) (T := TX13) (N := 155) hx hb hts uV_h5_X13 hown hK hP 0 rfl rfl 8 (by decide) (hts (.fieldLink RX13 338 "ClassMillModel" "tokens" "I") mw_h5_7) (fun _ h9 => h9) hf8 dX13_token_5 ?_
  refine lv_iload_n hx hb dX13_token_8 rfl (lv_at hl 1 rfl) ?_
  obtain ⟨hi_1, hsp⟩ := ox_in hsp
  refine va_iast hx hb hK hP hD hS 1 0 rfl rfl (i := v8) (x := a1) hi_1 dX13_token_9 ?_
  clear hP hD hS
  intro H locs hP hD hS
  replace hP : va_P (dC, dI) vwCl [(h0, .inr (13, zs)), (qf4, .inl (cf4, 3008, .inl (upd f4 (v8 : Int32).toNatClampNeg a1))), (qf5, .inl (cf5, 3002, .inl f5)), (qf6, .inl (cf6, 3002, .inl f6)), (qf7, .inl (cf7, 3002, .inl f7))] H := hP
  replace hD : va_D A [(h0, .inr (13, zs)), (qf4, .inl (cf4, 3008, .inl (upd f4 (v8 : Int32).toNatClampNeg a1))), (qf5, .inl (cf5, 3002, .inl f5)), (qf6, .inl (cf6, 3002, .inl f6)), (qf7, .inl (cf7, 3002, .inl f7))] := hD
  refine lv_aload_n hx hb dX13_token_10 rfl (lv_at hl 0 rfl) ?_
  refine va_get (D := (dC, dI)) (ci := 13) (v := .ref qf5) (C := RX13) (T := TX13) (N := 155) hx hb hts uV_h5_X13 hown hK hP 0 rfl rfl 5 (by decide) (hts (.fieldLink RX13 19 "ClassMillModel" "from" "[I") mw_h5_2) (fun _ h9 => h9) hf5 dX13_token_11 ?_
  refine lv_aload_n hx hb dX13_token_14 rfl (lv_at hl 0 rfl) ?_
  refine va_get (D := (dC, dI)) (ci := 13) (v := .int v8) (C := RX13) (T := TX13) (N := 155) hx hb hts uV_h5_X13 hown hK hP 0 rfl rfl 8 (by decide) (hts (.fieldLink RX13 338 "ClassMillModel" "tokens" "I") mw_h5_7) (fun _ h9 => h9) hf8 dX13_token_15 ?_
  refine lv_iload_n hx hb dX13_token_18 rfl (lv_at hl 2 rfl) ?_
  obtain ⟨hi_2, hsp⟩ := ox_in hsp
  refine va_iast hx hb hK hP hD hS 2 1 rfl rfl (i := v8) (x := a2) hi_2 dX13_token_19 ?_
  clear hP hD hS
  intro H locs hP hD hS
  replace hP : va_P (dC, dI) vwCl [(h0, .inr (13, zs)), (qf4, .inl (cf4, 3008, .inl (upd f4 (v8 : Int32).toNatClampNeg a1))), (qf5, .inl (cf5, 3002, .inl (upd f5 (v8 : Int32).toNatClampNeg a2))), (qf6, .inl (cf6, 3002, .inl f6)), (qf7, .inl (cf7, 3002, .inl f7))] H := hP
  replace hD : va_D A [(h0, .inr (13, zs)), (qf4, .inl (cf4, 3008, .inl (upd f4 (v8 : Int32).toNatClampNeg a1))), (qf5, .inl (cf5, 3002, .inl (upd f5 (v8 : Int32).toNatClampNeg a2))), (qf6, .inl (cf6, 3002, .inl f6)), (qf7, .inl (cf7, 3002, .inl f7))] := hD
  refine lv_aload_n hx hb dX13_token_20 rfl (lv_at hl 0 rfl) ?_
  refine va_get (D := (dC, dI)) (ci := 13) (v := .ref qf6) (C := RX13) (T := TX13) (N := 155) hx hb hts uV_h5_X13 hown hK hP 0 rfl rfl 6 (by decide) (hts (.fieldLink RX13 22 "ClassMillModel" "wide" "[I") mw_h5_8) (fun _ h9 => h9) hf6 dX13_token_21 ?_
  refine lv_aload_n hx hb dX13_token_24 rfl (lv_at hl 0 rfl) ?_
  refine va_get (D := (dC, dI)) (ci := 13) (v := .int v8) (C := RX13) (T := TX13) (N := 155) hx hb hts uV_h5_X13 hown hK hP 0 rfl rfl 8 (by decide) (hts (.fieldLink RX13 338 "ClassMillModel" "tokens" "I") mw_h5_7) (fun _ h9 => h9) hf8 dX13_token_25 ?_
  refine lv_iload_n hx hb dX13_token_28 rfl (lv_at hl 3 rfl) ?_
  obtain ⟨hi_3, hsp⟩ := ox_in hsp
  refine va_iast hx hb hK hP hD hS 3 2 rfl rfl (i := v8) (x := a3) hi_3 dX13_token_29 ?_
  clear hP hD hS
  intro H locs hP hD hS
  replace hP : va_P (dC, dI) vwCl [(h0, .inr (13, zs)), (qf4, .inl (cf4, 3008, .inl (upd f4 (v8 : Int32).toNatClampNeg a1))), (qf5, .inl (cf5, 3002, .inl (upd f5 (v8 : Int32).toNatClampNeg a2))), (qf6, .inl (cf6, 3002, .inl (upd f6 (v8 : Int32).toNatClampNeg a3))), (qf7, .inl (cf7, 3002, .inl f7))] H := hP
  replace hD : va_D A [(h0, .inr (13, zs)), (qf4, .inl (cf4, 3008, .inl (upd f4 (v8 : Int32).toNatClampNeg a1))), (qf5, .inl (cf5, 3002, .inl (upd f5 (v8 : Int32).toNatClampNeg a2))), (qf6, .inl (cf6, 3002, .inl (upd f6 (v8 : Int32).toNatClampNeg a3))), (qf7, .inl (cf7, 3002, .inl f7))] := hD
  refine lv_aload_n hx hb dX13_token_30 rfl (lv_at hl 0 rfl) ?_
  refine va_get (D := (dC, dI)) (ci := 13) (v := .ref qf7) (C := RX13) (T := TX13) (N := 155) hx hb hts uV_h5_X13 hown hK hP 0 rfl rfl 7 (by decide) (hts (.fieldLink RX13 25 "ClassMillModel" "value" "[I") mw_h5_9) (fun _ h9 => h9) hf7 dX13_token_31 ?_
  refine lv_aload_n hx hb dX13_token_34 rfl (lv_at hl 0 rfl) ?_
  refine va_get (D := (dC, dI)) (ci := 13) (v := .int v8) (C := RX13) (T := TX13) (N := 155) hx hb hts uV_h5_X13 hown hK hP 0 rfl rfl 8 (by decide) (hts (.fieldLink RX13 338 "ClassMillModel" "tokens" "I") mw_h5_7) (fun _ h9 => h9) hf8 dX13_token_35 ?_
  refine lv_iload hx hb dX13_token_38 (lv_at hl 4 rfl) ?_
  obtain ⟨hi_4, hsp⟩ := ox_in hsp
  refine va_iast hx hb hK hP hD hS 4 3 rfl rfl (i := v8) (x := a4) hi_4 dX13_token_40 ?_
  clear hP hD hS
  intro H locs hP hD hS
  replace hP : va_P (dC, dI) vwCl [(h0, .inr (13, zs)), (qf4, .inl (cf4, 3008, .inl (upd f4 (v8 : Int32).toNatClampNeg a1))), (qf5, .inl (cf5, 3002, .inl (upd f5 (v8 : Int32).toNatClampNeg a2))), (qf6, .inl (cf6, 3002, .inl (upd f6 (v8 : Int32).toNatClampNeg a3))), (qf7, .inl (cf7, 3002, .inl (upd f7 (v8 : Int32).toNatClampNeg a4)))] H := hP
  replace hD : va_D A [(h0, .inr (13, zs)), (qf4, .inl (cf4, 3008, .inl (upd f4 (v8 : Int32).toNatClampNeg a1))), (qf5, .inl (cf5, 3002, .inl (upd f5 (v8 : Int32).toNatClampNeg a2))), (qf6, .inl (cf6, 3002, .inl (upd f6 (v8 : Int32).toNatClampNeg a3))), (qf7, .inl (cf7, 3002, .inl (upd f7 (v8 : Int32).toNatClampNeg a4)))] := hD
  refine lv_aload_n hx hb dX13_token_41 rfl (lv_at hl 0 rfl) ?_
  refine lv_dup hx hb dX13_token_42 rfl ?_
  refine va_get (D := (dC, dI)) (ci := 13) (v := .int v8) (C := RX13) (T := TX13) (N := 155) hx hb hts uV_h5_X13 hown hK hP 0 rfl rfl 8 (by decide) (hts (.fieldLink RX13 338 "ClassMillModel" "tokens" "I") mw_h5_7) (fun _ h9 => h9) hf8 dX13_token_43 ?_
  refine lv_iconst (v := 1) hx hb dX13_token_46 (by decide) ?_
  refine lv_iadd hx hb dX13_token_47 ?_
  refine va_put (D := (dC, dI)) (ci := 13) (v := .int (v8 + 1)) (ty := .int) (C := RX13) (T := TX13) (N := 155) hx hb hts uV_h5_X13 tyX13 tyX13_ok nmX13 hown hK hP hD hS 0 rfl rfl 8 (by decide) (hts (.fieldLink RX13 338 "ClassMillModel" "tokens" "I") mw_h5_7) (fun _ h9 => h9) rfl (by decide +kernel) rfl rfl (by rw [hlen]; decide) dX13_token_48 ?_
  clear hP hD hS
  intro H locs hP hD hS
  obtain ⟨fs_5, efs_5⟩ : ∃ zf : List Value, zf = zs.set 8 (.int (v8 + 1)) := ⟨_, rfl⟩
  rw [← efs_5] at hP hD
  have hlfs_5 : fs_5.length = 155 := by rw [efs_5, List.length_set]; exact hlen
  have hfs_5_4 : fs_5[4]? = some (.ref qf4) := by rw [efs_5, List.getElem?_set_ne (by decide)]; exact hf4
  have hfs_5_5 : fs_5[5]? = some (.ref qf5) := by rw [efs_5, List.getElem?_set_ne (by decide)]; exact hf5
  have hfs_5_6 : fs_5[6]? = some (.ref qf6) := by rw [efs_5, List.getElem?_set_ne (by decide)]; exact hf6
  have hfs_5_7 : fs_5[7]? = some (.ref qf7) := by rw [efs_5, List.getElem?_set_ne (by decide)]; exact hf7
  have hfs_5_8 : fs_5[8]? = some (.int (v8 + 1)) := by rw [efs_5, List.getElem?_set_self (by rw [hlen]; decide)]
  replace hP : va_P (dC, dI) vwCl [(h0, .inr (13, fs_5)), (qf4, .inl (cf4, 3008, .inl (upd f4 (v8 : Int32).toNatClampNeg a1))), (qf5, .inl (cf5, 3002, .inl (upd f5 (v8 : Int32).toNatClampNeg a2))), (qf6, .inl (cf6, 3002, .inl (upd f6 (v8 : Int32).toNatClampNeg a3))), (qf7, .inl (cf7, 3002, .inl (upd f7 (v8 : Int32).toNatClampNeg a4)))] H := hP
  replace hD : va_D A [(h0, .inr (13, fs_5)), (qf4, .inl (cf4, 3008, .inl (upd f4 (v8 : Int32).toNatClampNeg a1))), (qf5, .inl (cf5, 3002, .inl (upd f5 (v8 : Int32).toNatClampNeg a2))), (qf6, .inl (cf6, 3002, .inl (upd f6 (v8 : Int32).toNatClampNeg a3))), (qf7, .inl (cf7, 3002, .inl (upd f7 (v8 : Int32).toNatClampNeg a4)))] := hD
  have hrs_6 : ∀ j : Nat, j ≠ 8 → fs_5[j]? = zs[j]? := fun j g8 => ((congrArg (fun z : List Value => z[j]?) efs_5).trans (List.getElem?_set_ne (Ne.symm g8))).trans (hrs0 j g8)
  have hr0 := Option.some.inj hsp
  clear hsp
  obtain ⟨hq0, hr1⟩ := Prod.mk.inj hr0
  clear hr0
  obtain ⟨hq1, hr2⟩ := Prod.mk.inj hr1
  clear hr1
  obtain ⟨hq2, hr3⟩ := Prod.mk.inj hr2
  clear hr2
  obtain ⟨hq3, hr4⟩ := Prod.mk.inj hr3
  clear hr3
  subst hq0
  subst hq1
  subst hq2
  subst hq3
  subst hr4
  have hP9 := hP.sub (ws' := [(h0, .inr (13, fs_5)), (qf4, .inl (cf4, 3008, .inl (upd f4 (v8 : Int32).toNatClampNeg a1))), (qf5, .inl (cf5, 3002, .inl (upd f5 (v8 : Int32).toNatClampNeg a2))), (qf6, .inl (cf6, 3002, .inl (upd f6 (v8 : Int32).toNatClampNeg a3))), (qf7, .inl (cf7, 3002, .inl (upd f7 (v8 : Int32).toNatClampNeg a4)))]) [0, 1, 2, 3, 4] rfl
  have hD9 := hD.sub (ws' := [(h0, .inr (13, fs_5)), (qf4, .inl (cf4, 3008, .inl (upd f4 (v8 : Int32).toNatClampNeg a1))), (qf5, .inl (cf5, 3002, .inl (upd f5 (v8 : Int32).toNatClampNeg a2))), (qf6, .inl (cf6, 3002, .inl (upd f6 (v8 : Int32).toNatClampNeg a3))), (qf7, .inl (cf7, 3002, .inl (upd f7 (v8 : Int32).toNatClampNeg a4)))]) [0, 1, 2, 3, 4] (by decide) rfl
  have hK9 := hK.sub (tys' := [(cf4, .int), (cf5, .int), (cf6, .int), (cf7, .int)]) [0, 1, 2, 3] rfl
  exact W.vret hx hb hr (fun t ht hW => ⟨⟨(fs_5), rfl, ⟨trivial, hlfs_5, hrs_6, hfs_5_8⟩, by rw [ht]; exact hP9, va_K.moved hW.alike hK9, hD9⟩, hS.F ht⟩) hS.2.2 dX13_token_51
def sp_tm_sign (nf : Nat) (a1 : Int32) (a2 : Int32) (a3 : Int32) : Option (Int32) := (some ((((a1 * 128) + a2) * 128) + a3))
set_option maxHeartbeats 4000000 in
set_option maxRecDepth 100000 in
/-- ClassMillModel.sign -/
theorem tm_sign (l : Launch) (dC : Nat → ClassId) (dI : Nat → Nat → Nat) (sz : Nat) (a1 : Int32) (a2 : Int32) (a3 : Int32) (nf : Nat) (r0 : Int32) (hsp : sp_tm_sign nf a1 a2 a3 = some r0) : Met l yX13_sign (.code yX13_sign cX13_sign 3 (some .int) :: VS_h5) ({ frames := 0, cells := 0, slots := 0, locals := 0 }) (va_Pc [.int a1, .int a2, .int a3] (fun U => U.heap.size = sz ∧ va_P (dC, dI) vwCl [] U.heap ∧ va_K (dC, dI) vwCl [] U ∧ va_D (fun _ => True) [])) (va_Qi (fun (r : Int32) (u : Unit) => match u with | () => r0 = r) (fun (u : Unit) (t : State) => match u with | () => va_P (dC, dI) vwCl [] t.heap ∧ va_K (dC, dI) vwCl [] t ∧ va_D (va_A [] sz) []) (va_A [] sz)) 0 0 (va_A [] sz) := by
  refine Met.ofW (cc := cX13_sign) (maxL := 3) (ret := (some .int)) (by decide) rfl ?_
  intro p e s m args below meth c s₁ B hml hv
  obtain ⟨rfl, hsz, hP, hK, hD0⟩ := hv
  have hx := B.exec
  have hb := B.bytes
  have hr := B.returns
  have hts := atoms_spec (ws := (.code yX13_sign cX13_sign 3 (some .int) :: VS_h5)) B.pre
  replace hts := fun w (h : w ∈ VS_h5) => hts w (List.mem_cons_of_mem _ h)
  have hown : s.vm.findClass RX13 = some m.cls := findClass_of_methodNamed B.named
  have hlocks := B.notSynchronized
  subst hsz
  have hD := hD0.self (sz := s.heap.size)
  generalize hAe : va_A [] s.heap.size = A at hD  ⊢
  have hA : ∀ q : Nat, s.heap.size ≤ q → A q := fun q h => by rw [← hAe]; exact Or.inr h
  have hP : va_P (dC, dI) vwCl [] s.heap := hP
  have hl := lv_entry ([.int a1, .int a2, .int a3]) (n := 3) (Nat.le_of_ble_eq_true rfl)
  rw [lg_entry_eq]
  generalize (lg_sl ([.int a1, .int a2, .int a3]) ++ List.replicate (3 - (lg_sl ([.int a1, .int a2, .int a3])).length) Slot.unset).toArray = ls at hl ⊢
  have hl : lv_has ls 3 [(0, .int a1), (1, .int a2), (2, .int a3)] := hl
  obtain ⟨H, hH⟩ : ∃ H : Heap, s.heap = H := ⟨_, rfl⟩
  rw [hH] at hP ⊢
  have hS : va_S A s.heap H [] := by rw [← hH]; exact va_S.rf
  obtain ⟨locs, hlo⟩ : ∃ locs : List Loc, locs = [] := ⟨_, rfl⟩
  rw [← hlo] at hS ⊢
  unfold sp_tm_sign at hsp
  refine lv_iload_n hx hb dX13_sign_0 rfl (lv_at hl 0 rfl) ?_
  refine lv_sipush (v := 128) hx hb dX13_sign_1 (by decide) ?_
  refine lv_imul hx hb dX13_sign_4 ?_
  refine lv_iload_n hx hb dX13_sign_5 rfl (lv_at hl 1 rfl) ?_
  refine lv_iadd hx hb dX13_sign_6 ?_
  refine lv_sipush (v := 128) hx hb dX13_sign_7 (by decide) ?_
  refine lv_imul hx hb dX13_sign_10 ?_
  refine lv_iload_n hx hb dX13_sign_11 rfl (lv_at hl 2 rfl) ?_
  refine lv_iadd hx hb dX13_sign_12 ?_
  have hr0 := Option.some.inj hsp
  clear hsp
  subst hr0
  have hP9 := hP.sub (ws' := []) [] rfl
  have hD9 := hD.sub (ws' := []) [] (by decide) rfl
  have hK9 := hK.sub (tys' := []) [] rfl
  exact W.iret hx hb hr (fun t ht hW => ⟨⟨(((((a1 * 128) + a2) * 128) + a3)), (), rfl, rfl, by rw [ht]; exact hP9, va_K.moved hW.alike hK9, hD9⟩, hS.F ht⟩) hS.2.2 dX13_sign_13
def sp_tm_isSign (nf : Nat) (a1 : Int32) (a2 : Int32) (f4 : Nat → Int32) (f7 : Nat → Int32) : Option (Int32) := (if a1 < 0 then none else if 3008 ≤ (a1 : Int32).toNatClampNeg then none else (if (f4 (a1 : Int32).toNatClampNeg) = 4 then (if a1 < 0 then none else if 3002 ≤ (a1 : Int32).toNatClampNeg then none else (if (f7 (a1 : Int32).toNatClampNeg) = a2 then (some 1) else (some 0))) else (some 0)))
set_option maxHeartbeats 4000000 in
set_option maxRecDepth 100000 in
/-- ClassMillModel.isSign -/
theorem tm_isSign (l : Launch) (dC : Nat → ClassId) (dI : Nat → Nat → Nat) (sz : Nat) (h0 : Nat) (zs : (List Value)) (a1 : Int32) (a2 : Int32) (qf4 : Nat) (qf7 : Nat) (cf4 : ClassId) (f4 : (Nat → Int32)) (cf7 : ClassId) (f7 : (Nat → Int32)) (nf : Nat) (r0 : Int32) (hlen : zs.length = 155) (hf4 : zs[4]? = some (.ref qf4)) (hf7 : zs[7]? = some (.ref qf7)) (hsp : sp_tm_isSign nf a1 a2 f4 f7 = some r0) : Met l yX13_isSign (.code yX13_isSign cX13_isSign 3 (some .boolean) :: VS_h5) ({ frames := 0, cells := 0, slots := 0, locals := 0 }) (va_Pc [.ref h0, .int a1, .int a2] (fun U => U.heap.size = sz ∧ va_P (dC, dI) vwCl [(h0, .inr (13, zs)), (qf4, .inl (cf4, 3008, .inl f4)), (qf7, .inl (cf7, 3002, .inl f7))] U.heap ∧ va_K (dC, dI) vwCl [(cf4, .int), (cf7, .int)] U ∧ va_D (fun _ => True) [(h0, .inr (13, zs)), (qf4, .inl (cf4, 3008, .inl f4)), (qf7, .inl (cf7, 3002, .inl f7))])) (va_Qi (fun (r : Int32) (u : (List Value)) => match u with | (zo1) => (r0 = r ∧ (r0 = 0 ∨ r0 = 1)) ∧ zo1.length = 155 ∧ (∀ j : Nat, zo1[j]? = zs[j]?)) (fun (u : (List Value)) (t : State) => match u with | (zo1) => va_P (dC, dI) vwCl [(h0, .inr (13, zo1)), (qf4, .inl (cf4, 3008, .inl f4)), (qf7, .inl (cf7, 3002, .inl f7))] t.heap ∧ va_K (dC, dI) vwCl [(cf4, .int), (cf7, .int)] t ∧ va_D (va_A [(h0, .inr (13, zs)), (qf4, .inl (cf4, 3008, .inl f4)), (qf7, .inl (cf7, 3002, .inl f7))] sz) [(h0, .inr (13, zo1)), (qf4, .inl (cf4, 3008, .inl f4)), (qf7, .inl (cf7, 3002, .inl f7))]) (va_A [(h0, .inr (13, zs)), (qf4, .inl (cf4, 3008, .inl f4)), (qf7, .inl (cf7, 3002, .inl f7))] sz)) 0 0 (va_A [(h0, .inr (13, zs)), (qf4, .inl (cf4, 3008, .inl f4)), (qf7, .inl (cf7, 3002, .inl f7))] sz) := by
  refine Met.ofW (cc := cX13_isSign) (maxL := 3) (ret := (some .boolean)) (by decide) rfl ?_
  intro p e s m args below meth c s₁ B hml hv
  obtain ⟨rfl, hsz, hP, hK, hD0⟩ := hv
  have hx := B.exec
  have hb := B.bytes
  have hr := B.returns
  have hts := atoms_spec (ws := (.code yX13_isSign cX13_isSign 3 (some .boolean) :: VS_h5)) B.pre
  replace hts := fun w (h : w ∈ VS_h5) => hts w (List.mem_cons_of_mem _ h)
  have hown : s.vm.findClass RX13 = some m.cls := findClass_of_methodNamed B.named
  have hlocks := B.notSynchronized
  subst hsz
  have hD := hD0.self (sz := s.heap.size)
  generalize hAe : va_A [(h0, .inr (13, zs)), (qf4, .inl (cf4, 3008, .inl f4)), (qf7, .inl (cf7, 3002, .inl f7))] s.heap.size = A at hD  ⊢
  have hA : ∀ q : Nat, s.heap.size ≤ q → A q := fun q h => by rw [← hAe]; exact Or.inr h
  have hP : va_P (dC, dI) vwCl [(h0, .inr (13, zs)), (qf4, .inl (cf4, 3008, .inl f4)), (qf7, .inl (cf7, 3002, .inl f7))] s.heap := hP
  have hl := lv_entry ([.ref h0, .int a1, .int a2]) (n := 3) (Nat.le_of_ble_eq_true rfl)
  rw [lg_entry_eq]
  generalize (lg_sl ([.ref h0, .int a1, .int a2]) ++ List.replicate (3 - (lg_sl ([.ref h0, .int a1, .int a2])).length) Slot.unset).toArray = ls at hl ⊢
  have hl : lv_has ls 3 [(0, .ref h0), (1, .int a1), (2, .int a2)] := hl
  obtain ⟨H, hH⟩ : ∃ H : Heap, s.heap = H := ⟨_, rfl⟩
  rw [hH] at hP ⊢
  have hS : va_S A s.heap H [] := by rw [← hH]; exact va_S.rf
  obtain ⟨locs, hlo⟩ : ∃ locs : List Loc, locs = [] := ⟨_, rfl⟩
  rw [← hlo] at hS ⊢
  have hrs0 : ∀ j : Nat, zs[j]? = zs[j]? := fun _  => rfl
  unfold sp_tm_isSign at hsp
  refine lv_aload_n hx hb dX13_isSign_0 rfl (lv_at hl 0 rfl) ?_
  refine va_get (D := (dC, dI)) (ci := 13) (v := .ref qf4) (C := RX13) (T := TX13) (N := 155) hx hb hts uV_h5_X13 hown hK hP 0 rfl rfl 4 (by decide) (hts (.fieldLink RX13 16 "ClassMillModel" "kind" "[I") mw_h5_6) (fun _ h9 => h9) hf4 dX13_isSign_1 ?_
  refine lv_iload_n hx hb dX13_isSign_4 rfl (lv_at hl 1 rfl) ?_
  obtain ⟨hi_1, hsp⟩ := ox_in hsp
  refine va_iald hx hb hK hP 1 0 rfl rfl (i := a1) hi_1 dX13_isSign_5 ?_
  refine lv_iconst (v := 4) hx hb dX13_isSign_6 (by decide) ?_
  refine lv_icmp_ne (tgt := 24) hx hb dX13_isSign_7 (by decide) (fun c_2 => ?_) (fun c_2 => ?_)
  · rw [if_neg c_2] at hsp
    refine lv_iconst (v := 0) hx hb dX13_isSign_24 (by decide) ?_
    have hr0 := Option.some.inj hsp
    clear hsp
    subst hr0
    have hP9 := hP.sub (ws' := [(h0, .inr (13, zs)), (qf4, .inl (cf4, 3008, .inl f4)), (qf7, .inl (cf7, 3002, .inl f7))]) [0, 1, 2] rfl
    have hD9 := hD.sub (ws' := [(h0, .inr (13, zs)), (qf4, .inl (cf4, 3008, .inl f4)), (qf7, .inl (cf7, 3002, .inl f7))]) [0, 1, 2] (by decide) rfl
    have hK9 := hK.sub (tys' := [(cf4, .int), (cf7, .int)]) [0, 1] rfl
    exact W.zret hx hb hr (by decide) (fun t ht hW => ⟨⟨(0), (zs), rfl, ⟨⟨rfl, Or.inl rfl⟩, hlen, hrs0⟩, by rw [ht]; exact hP9, va_K.moved hW.alike hK9, hD9⟩, hS.F ht⟩) hS.2.2 dX13_isSign_25
  · rw [if_pos c_2] at hsp
    refine lv_aload_n hx hb dX13_isSign_10 rfl (lv_at hl 0 rfl) ?_
    refine va_get (D := (dC, dI)) (ci := 13) (v := .ref qf7) (C := RX13) (T := TX13) (N := 155) hx hb hts uV_h5_X13 hown hK hP 0 rfl rfl 7 (by decide) (hts (.fieldLink RX13 25 "ClassMillModel" "value" "[I") mw_h5_9) (fun _ h9 => h9) hf7 dX13_isSign_11 ?_
    refine lv_iload_n hx hb dX13_isSign_14 rfl (lv_at hl 1 rfl) ?_
    obtain ⟨hi_3, hsp⟩ := ox_in hsp
    refine va_iald hx hb hK hP 2 1 rfl rfl (i := a1) hi_3 dX13_isSign_15 ?_
    refine lv_iload_n hx hb dX13_isSign_16 rfl (lv_at hl 2 rfl) ?_
    refine lv_icmp_ne (tgt := 24) hx hb dX13_isSign_17 (by decide) (fun c_4 => ?_) (fun c_4 => ?_)
    · rw [if_neg c_4] at hsp
      refine lv_iconst (v := 0) hx hb dX13_isSign_24 (by decide) ?_
      have hr0 := Option.some.inj hsp
      clear hsp
      subst hr0
      have hP9 := hP.sub (ws' := [(h0, .inr (13, zs)), (qf4, .inl (cf4, 3008, .inl f4)), (qf7, .inl (cf7, 3002, .inl f7))]) [0, 1, 2] rfl
      have hD9 := hD.sub (ws' := [(h0, .inr (13, zs)), (qf4, .inl (cf4, 3008, .inl f4)), (qf7, .inl (cf7, 3002, .inl f7))]) [0, 1, 2] (by decide) rfl
      have hK9 := hK.sub (tys' := [(cf4, .int), (cf7, .int)]) [0, 1] rfl
      exact W.zret hx hb hr (by decide) (fun t ht hW => ⟨⟨(0), (zs), rfl, ⟨⟨rfl, Or.inl rfl⟩, hlen, hrs0⟩, by rw [ht]; exact hP9, va_K.moved hW.alike hK9, hD9⟩, hS.F ht⟩) hS.2.2 dX13_isSign_25
    · rw [if_pos c_4] at hsp
      refine lv_iconst (v := 1) hx hb dX13_isSign_20 (by decide) ?_
      refine lv_goto (tgt := 25) hx hb dX13_isSign_21 (by decide) ?_
      have hr0 := Option.some.inj hsp
      clear hsp
      subst hr0
      have hP9 := hP.sub (ws' := [(h0, .inr (13, zs)), (qf4, .inl (cf4, 3008, .inl f4)), (qf7, .inl (cf7, 3002, .inl f7))]) [0, 1, 2] rfl
      have hD9 := hD.sub (ws' := [(h0, .inr (13, zs)), (qf4, .inl (cf4, 3008, .inl f4)), (qf7, .inl (cf7, 3002, .inl f7))]) [0, 1, 2] (by decide) rfl
      have hK9 := hK.sub (tys' := [(cf4, .int), (cf7, .int)]) [0, 1] rfl
      exact W.zret hx hb hr (by decide) (fun t ht hW => ⟨⟨(1), (zs), rfl, ⟨⟨rfl, Or.inr rfl⟩, hlen, hrs0⟩, by rw [ht]; exact hP9, va_K.moved hW.alike hK9, hD9⟩, hS.F ht⟩) hS.2.2 dX13_isSign_25
def sp_tm_isWord (nf : Nat) (a1 : Int32) (a2 : Int32) (f4 : Nat → Int32) (f7 : Nat → Int32) : Option (Int32) := (if a1 < 0 then none else if 3008 ≤ (a1 : Int32).toNatClampNeg then none else (if (f4 (a1 : Int32).toNatClampNeg) = 3 then (if a1 < 0 then none else if 3002 ≤ (a1 : Int32).toNatClampNeg then none else (if (f7 (a1 : Int32).toNatClampNeg) = a2 then (some 1) else (some 0))) else (some 0)))
set_option maxHeartbeats 4000000 in
set_option maxRecDepth 100000 in
/-- ClassMillModel.isWord -/
theorem tm_isWord (l : Launch) (dC : Nat → ClassId) (dI : Nat → Nat → Nat) (sz : Nat) (h0 : Nat) (zs : (List Value)) (a1 : Int32) (a2 : Int32) (qf4 : Nat) (qf7 : Nat) (cf4 : ClassId) (f4 : (Nat → Int32)) (cf7 : ClassId) (f7 : (Nat → Int32)) (nf : Nat) (r0 : Int32) (hlen : zs.length = 155) (hf4 : zs[4]? = some (.ref qf4)) (hf7 : zs[7]? = some (.ref qf7)) (hsp : sp_tm_isWord nf a1 a2 f4 f7 = some r0) : Met l yX13_isWord (.code yX13_isWord cX13_isWord 3 (some .boolean) :: VS_h5) ({ frames := 0, cells := 0, slots := 0, locals := 0 }) (va_Pc [.ref h0, .int a1, .int a2] (fun U => U.heap.size = sz ∧ va_P (dC, dI) vwCl [(h0, .inr (13, zs)), (qf4, .inl (cf4, 3008, .inl f4)), (qf7, .inl (cf7, 3002, .inl f7))] U.heap ∧ va_K (dC, dI) vwCl [(cf4, .int), (cf7, .int)] U ∧ va_D (fun _ => True) [(h0, .inr (13, zs)), (qf4, .inl (cf4, 3008, .inl f4)), (qf7, .inl (cf7, 3002, .inl f7))])) (va_Qi (fun (r : Int32) (u : (List Value)) => match u with | (zo1) => (r0 = r ∧ (r0 = 0 ∨ r0 = 1)) ∧ zo1.length = 155 ∧ (∀ j : Nat, zo1[j]? = zs[j]?)) (fun (u : (List Value)) (t : State) => match u with | (zo1) => va_P (dC, dI) vwCl [(h0, .inr (13, zo1)), (qf4, .inl (cf4, 3008, .inl f4)), (qf7, .inl (cf7, 3002, .inl f7))] t.heap ∧ va_K (dC, dI) vwCl [(cf4, .int), (cf7, .int)] t ∧ va_D (va_A [(h0, .inr (13, zs)), (qf4, .inl (cf4, 3008, .inl f4)), (qf7, .inl (cf7, 3002, .inl f7))] sz) [(h0, .inr (13, zo1)), (qf4, .inl (cf4, 3008, .inl f4)), (qf7, .inl (cf7, 3002, .inl f7))]) (va_A [(h0, .inr (13, zs)), (qf4, .inl (cf4, 3008, .inl f4)), (qf7, .inl (cf7, 3002, .inl f7))] sz)) 0 0 (va_A [(h0, .inr (13, zs)), (qf4, .inl (cf4, 3008, .inl f4)), (qf7, .inl (cf7, 3002, .inl f7))] sz) := by
  refine Met.ofW (cc := cX13_isWord) (maxL := 3) (ret := (some .boolean)) (by decide) rfl ?_
  intro p e s m args below meth c s₁ B hml hv
  obtain ⟨rfl, hsz, hP, hK, hD0⟩ := hv
  have hx := B.exec
  have hb := B.bytes
  have hr := B.returns
  have hts := atoms_spec (ws := (.code yX13_isWord cX13_isWord 3 (some .boolean) :: VS_h5)) B.pre
  replace hts := fun w (h : w ∈ VS_h5) => hts w (List.mem_cons_of_mem _ h)
  have hown : s.vm.findClass RX13 = some m.cls := findClass_of_methodNamed B.named
  have hlocks := B.notSynchronized
  subst hsz
  have hD := hD0.self (sz := s.heap.size)
  generalize hAe : va_A [(h0, .inr (13, zs)), (qf4, .inl (cf4, 3008, .inl f4)), (qf7, .inl (cf7, 3002, .inl f7))] s.heap.size = A at hD  ⊢
  have hA : ∀ q : Nat, s.heap.size ≤ q → A q := fun q h => by rw [← hAe]; exact Or.inr h
  have hP : va_P (dC, dI) vwCl [(h0, .inr (13, zs)), (qf4, .inl (cf4, 3008, .inl f4)), (qf7, .inl (cf7, 3002, .inl f7))] s.heap := hP
  have hl := lv_entry ([.ref h0, .int a1, .int a2]) (n := 3) (Nat.le_of_ble_eq_true rfl)
  rw [lg_entry_eq]
  generalize (lg_sl ([.ref h0, .int a1, .int a2]) ++ List.replicate (3 - (lg_sl ([.ref h0, .int a1, .int a2])).length) Slot.unset).toArray = ls at hl ⊢
  have hl : lv_has ls 3 [(0, .ref h0), (1, .int a1), (2, .int a2)] := hl
  obtain ⟨H, hH⟩ : ∃ H : Heap, s.heap = H := ⟨_, rfl⟩
  rw [hH] at hP ⊢
  have hS : va_S A s.heap H [] := by rw [← hH]; exact va_S.rf
  obtain ⟨locs, hlo⟩ : ∃ locs : List Loc, locs = [] := ⟨_, rfl⟩
  rw [← hlo] at hS ⊢
  have hrs0 : ∀ j : Nat, zs[j]? = zs[j]? := fun _  => rfl
  unfold sp_tm_isWord at hsp
  refine lv_aload_n hx hb dX13_isWord_0 rfl (lv_at hl 0 rfl) ?_
  refine va_get (D := (dC, dI)) (ci := 13) (v := .ref qf4) (C := RX13) (T := TX13) (N := 155) hx hb hts uV_h5_X13 hown hK hP 0 rfl rfl 4 (by decide) (hts (.fieldLink RX13 16 "ClassMillModel" "kind" "[I") mw_h5_6) (fun _ h9 => h9) hf4 dX13_isWord_1 ?_
  refine lv_iload_n hx hb dX13_isWord_4 rfl (lv_at hl 1 rfl) ?_
  obtain ⟨hi_1, hsp⟩ := ox_in hsp
  refine va_iald hx hb hK hP 1 0 rfl rfl (i := a1) hi_1 dX13_isWord_5 ?_
  refine lv_iconst (v := 3) hx hb dX13_isWord_6 (by decide) ?_
  refine lv_icmp_ne (tgt := 24) hx hb dX13_isWord_7 (by decide) (fun c_2 => ?_) (fun c_2 => ?_)
  · rw [if_neg c_2] at hsp
    refine lv_iconst (v := 0) hx hb dX13_isWord_24 (by decide) ?_
    have hr0 := Option.some.inj hsp
    clear hsp
    subst hr0
    have hP9 := hP.sub (ws' := [(h0, .inr (13, zs)), (qf4, .inl (cf4, 3008, .inl f4)), (qf7, .inl (cf7, 3002, .inl f7))]) [0, 1, 2] rfl
    have hD9 := hD.sub (ws' := [(h0, .inr (13, zs)), (qf4, .inl (cf4, 3008, .inl f4)), (qf7, .inl (cf7, 3002, .inl f7))]) [0, 1, 2] (by decide) rfl
    have hK9 := hK.sub (tys' := [(cf4, .int), (cf7, .int)]) [0, 1] rfl
    exact W.zret hx hb hr (by decide) (fun t ht hW => ⟨⟨(0), (zs), rfl, ⟨⟨rfl, Or.inl rfl⟩, hlen, hrs0⟩, by rw [ht]; exact hP9, va_K.moved hW.alike hK9, hD9⟩, hS.F ht⟩) hS.2.2 dX13_isWord_25
  · rw [if_pos c_2] at hsp
    refine lv_aload_n hx hb dX13_isWord_10 rfl (lv_at hl 0 rfl) ?_
    refine va_get (D := (dC, dI)) (ci := 13) (v := .ref qf7) (C := RX13) (T := TX13) (N := 155) hx hb hts uV_h5_X13 hown hK hP 0 rfl rfl 7 (by decide) (hts (.fieldLink RX13 25 "ClassMillModel" "value" "[I") mw_h5_9) (fun _ h9 => h9) hf7 dX13_isWord_11 ?_
    refine lv_iload_n hx hb dX13_isWord_14 rfl (lv_at hl 1 rfl) ?_
    obtain ⟨hi_3, hsp⟩ := ox_in hsp
    refine va_iald hx hb hK hP 2 1 rfl rfl (i := a1) hi_3 dX13_isWord_15 ?_
    refine lv_iload_n hx hb dX13_isWord_16 rfl (lv_at hl 2 rfl) ?_
    refine lv_icmp_ne (tgt := 24) hx hb dX13_isWord_17 (by decide) (fun c_4 => ?_) (fun c_4 => ?_)
    · rw [if_neg c_4] at hsp
      refine lv_iconst (v := 0) hx hb dX13_isWord_24 (by decide) ?_
      have hr0 := Option.some.inj hsp
      clear hsp
      subst hr0
      have hP9 := hP.sub (ws' := [(h0, .inr (13, zs)), (qf4, .inl (cf4, 3008, .inl f4)), (qf7, .inl (cf7, 3002, .inl f7))]) [0, 1, 2] rfl
      have hD9 := hD.sub (ws' := [(h0, .inr (13, zs)), (qf4, .inl (cf4, 3008, .inl f4)), (qf7, .inl (cf7, 3002, .inl f7))]) [0, 1, 2] (by decide) rfl
      have hK9 := hK.sub (tys' := [(cf4, .int), (cf7, .int)]) [0, 1] rfl
      exact W.zret hx hb hr (by decide) (fun t ht hW => ⟨⟨(0), (zs), rfl, ⟨⟨rfl, Or.inl rfl⟩, hlen, hrs0⟩, by rw [ht]; exact hP9, va_K.moved hW.alike hK9, hD9⟩, hS.F ht⟩) hS.2.2 dX13_isWord_25
    · rw [if_pos c_4] at hsp
      refine lv_iconst (v := 1) hx hb dX13_isWord_20 (by decide) ?_
      refine lv_goto (tgt := 25) hx hb dX13_isWord_21 (by decide) ?_
      have hr0 := Option.some.inj hsp
      clear hsp
      subst hr0
      have hP9 := hP.sub (ws' := [(h0, .inr (13, zs)), (qf4, .inl (cf4, 3008, .inl f4)), (qf7, .inl (cf7, 3002, .inl f7))]) [0, 1, 2] rfl
      have hD9 := hD.sub (ws' := [(h0, .inr (13, zs)), (qf4, .inl (cf4, 3008, .inl f4)), (qf7, .inl (cf7, 3002, .inl f7))]) [0, 1, 2] (by decide) rfl
      have hK9 := hK.sub (tys' := [(cf4, .int), (cf7, .int)]) [0, 1] rfl
      exact W.zret hx hb hr (by decide) (fun t ht hW => ⟨⟨(1), (zs), rfl, ⟨⟨rfl, Or.inr rfl⟩, hlen, hrs0⟩, by rw [ht]; exact hP9, va_K.moved hW.alike hK9, hD9⟩, hS.F ht⟩) hS.2.2 dX13_isWord_25
def sp_tm_misplaced (nf : Nat) (v9 : Int32) (v10 : Int32) (v23 : Int32) (f4 : Nat → Int32) (f5 : Nat → Int32) : Option (Int32 × Int32) := (if v23 < 0 then none else if 3008 ≤ (v23 : Int32).toNatClampNeg then none else (if (f4 (v23 : Int32).toNatClampNeg) = 6 then ((sp_tm_wrong nf 1 v23 v9 v10 f5).bind (fun p2 => (some (p2.1, p2.2)))) else ((sp_tm_wrong nf 2 v23 v9 v10 f5).bind (fun p1 => (some (p1.1, p1.2))))))
set_option maxHeartbeats 4000000 in
set_option maxRecDepth 100000 in
/-- ClassMillModel.misplaced -/
theorem tm_misplaced (l : Launch) (dC : Nat → ClassId) (dI : Nat → Nat → Nat) (sz : Nat) (h0 : Nat) (zs : (List Value)) (qf4 : Nat) (qf5 : Nat) (v9 : Int32) (v10 : Int32) (v23 : Int32) (cf4 : ClassId) (f4 : (Nat → Int32)) (cf5 : ClassId) (f5 : (Nat → Int32)) (nf : Nat) (w10 : Int32) (w9 : Int32) (hlen : zs.length = 155) (hf4 : zs[4]? = some (.ref qf4)) (hf5 : zs[5]? = some (.ref qf5)) (hf9 : zs[9]? = some (.int v9)) (hf10 : zs[10]? = some (.int v10)) (hf23 : zs[23]? = some (.int v23)) (hsp : sp_tm_misplaced nf v9 v10 v23 f4 f5 = some (w10, w9)) : Met l yX13_misplaced (.code yX13_misplaced cX13_misplaced 1 none :: VS_h5) ({ frames := 1, cells := 0, slots := 0, locals := 22 }) (va_Pc [.ref h0] (fun U => U.heap.size = sz ∧ va_P (dC, dI) vwCl [(h0, .inr (13, zs)), (qf4, .inl (cf4, 3008, .inl f4)), (qf5, .inl (cf5, 3002, .inl f5))] U.heap ∧ va_K (dC, dI) vwCl [(cf4, .int), (cf5, .int)] U ∧ va_D (fun _ => True) [(h0, .inr (13, zs)), (qf4, .inl (cf4, 3008, .inl f4)), (qf5, .inl (cf5, 3002, .inl f5))])) (va_Qv (fun (u : (List Value)) => match u with | (zo1) => True ∧ zo1.length = 155 ∧ (∀ j : Nat, j ≠ 10 → j ≠ 9 → zo1[j]? = zs[j]?) ∧ zo1[10]? = some (.int w10) ∧ zo1[9]? = some (.int w9)) (fun (u : (List Value)) (t : State) => match u with | (zo1) => va_P (dC, dI) vwCl [(h0, .inr (13, zo1)), (qf4, .inl (cf4, 3008, .inl f4)), (qf5, .inl (cf5, 3002, .inl f5))] t.heap ∧ va_K (dC, dI) vwCl [(cf4, .int), (cf5, .int)] t ∧ va_D (va_A [(h0, .inr (13, zs)), (qf4, .inl (cf4, 3008, .inl f4)), (qf5, .inl (cf5, 3002, .inl f5))] sz) [(h0, .inr (13, zo1)), (qf4, .inl (cf4, 3008, .inl f4)), (qf5, .inl (cf5, 3002, .inl f5))]) (va_A [(h0, .inr (13, zs)), (qf4, .inl (cf4, 3008, .inl f4)), (qf5, .inl (cf5, 3002, .inl f5))] sz)) 0 0 (va_A [(h0, .inr (13, zs)), (qf4, .inl (cf4, 3008, .inl f4)), (qf5, .inl (cf5, 3002, .inl f5))] sz) := by
  refine Met.ofW (cc := cX13_misplaced) (maxL := 1) (ret := none) (by decide) rfl ?_
  intro p e s m args below meth c s₁ B hml hv
  obtain ⟨rfl, hsz, hP, hK, hD0⟩ := hv
  have hx := B.exec
  have hb := B.bytes
  have hr := B.returns
  have hts := atoms_spec (ws := (.code yX13_misplaced cX13_misplaced 1 none :: VS_h5)) B.pre
  replace hts := fun w (h : w ∈ VS_h5) => hts w (List.mem_cons_of_mem _ h)
  have hown : s.vm.findClass RX13 = some m.cls := findClass_of_methodNamed B.named
  have hlocks := B.notSynchronized
  subst hsz
  have hD := hD0.self (sz := s.heap.size)
  generalize hAe : va_A [(h0, .inr (13, zs)), (qf4, .inl (cf4, 3008, .inl f4)), (qf5, .inl (cf5, 3002, .inl f5))] s.heap.size = A at hD  ⊢
  have hA : ∀ q : Nat, s.heap.size ≤ q → A q := fun q h => by rw [← hAe]; exact Or.inr h
  have hP : va_P (dC, dI) vwCl [(h0, .inr (13, zs)), (qf4, .inl (cf4, 3008, .inl f4)), (qf5, .inl (cf5, 3002, .inl f5))] s.heap := hP
  have hl := lv_entry ([.ref h0]) (n := 1) (Nat.le_of_ble_eq_true rfl)
  rw [lg_entry_eq]
  generalize (lg_sl ([.ref h0]) ++ List.replicate (1 - (lg_sl ([.ref h0])).length) Slot.unset).toArray = ls at hl ⊢
  have hl : lv_has ls 1 [(0, .ref h0)] := hl
  obtain ⟨H, hH⟩ : ∃ H : Heap, s.heap = H := ⟨_, rfl⟩
  rw [hH] at hP ⊢
  have hS : va_S A s.heap H [] := by rw [← hH]; exact va_S.rf
  obtain ⟨locs, hlo⟩ : ∃ locs : List Loc, locs = [] := ⟨_, rfl⟩
  rw [← hlo] at hS ⊢
  have hrs0 : ∀ j : Nat, j ≠ 10 → j ≠ 9 → zs[j]? = zs[j]? := fun _ _ _  => rfl
  unfold sp_tm_misplaced at hsp
  refine lv_aload_n hx hb dX13_misplaced_0 rfl (lv_at hl 0 rfl) ?_
  refine lv_aload_n hx hb dX13_misplaced_1 rfl (lv_at hl 0 rfl) ?_
  refine va_get (D := (dC, dI)) (ci := 13) (v := .ref qf4) (C := RX13) (T := TX13) (N := 155) hx hb hts uV_h5_X13 hown hK hP 0 rfl rfl 4 (by decide) (hts (.fieldLink RX13 16 "ClassMillModel" "kind" "[I") mw_h5_6) (fun _ h9 => h9) hf4 dX13_misplaced_2 ?_
  refine lv_aload_n hx hb dX13_misplaced_5 rfl (lv_at hl 0 rfl) ?_
  refine va_get (D := (dC, dI)) (ci := 13) (v := .int v23) (C := RX13) (T := TX13) (N := 155) hx hb hts uV_h5_X13 hown hK hP 0 rfl rfl 23 (by decide) (hts (.fieldLink RX13 376 "ClassMillModel" "cursor" "I") mw_h5_15) (fun _ h9 => h9) hf23 dX13_misplaced_6 ?_
  obtain ⟨hi_1, hsp⟩ := ox_in hsp
  refine va_iald hx hb hK hP 1 0 rfl rfl (i := v23) hi_1 dX13_misplaced_9 ?_
  refine lv_bipush (v := 6) hx hb dX13_misplaced_10 (by decide) ?_
  refine lv_icmp_ne (tgt := 19) hx hb dX13_misplaced_12 (by decide) (fun c_2 => ?_) (fun c_2 => ?_)
  · rw [if_neg c_2] at hsp
    refine lv_iconst (v := 2) hx hb dX13_misplaced_19 (by decide) ?_
    refine lv_aload_n hx hb dX13_misplaced_20 rfl (lv_at hl 0 rfl) ?_
    refine va_get (D := (dC, dI)) (ci := 13) (v := .int v23) (C := RX13) (T := TX13) (N := 155) hx hb hts uV_h5_X13 hown hK hP 0 rfl rfl 23 (by decide) (hts (.fieldLink RX13 376 "ClassMillModel" "cursor" "I") mw_h5_15) (fun _ h9 => h9) hf23 dX13_misplaced_21 ?_
    obtain ⟨⟨u1_0, u1_1⟩, hu_1, hsp⟩ := ox_bind hsp
    try dsimp only at hsp
    have hPc := hP.sub (ws' := [(h0, .inr (13, zs)), (qf5, .inl (cf5, 3002, .inl f5))]) [0, 2] rfl
    have hDc := hD.sub (ws' := [(h0, .inr (13, zs)), (qf5, .inl (cf5, 3002, .inl f5))]) [0, 2] (by decide) rfl
    have hKc := hK.sub (tys' := [(cf5, .int)]) [1] rfl
    have hFc := va_free (wc := [(h0, .inr (13, zs)), (qf5, .inl (cf5, 3002, .inl f5))]) hD hS hA [0, 2] rfl
    refine va_callv (va_runV (As := [.int 2, .int v23]) (rest := []) ⟨hx, hb, hml, hown, hts⟩ (tm_wrong l dC dI H.size h0 zs 2 v23 qf5 v9 v10 cf5 f5 nf u1_0 u1_1 hlen hf5 hf9 hf10 hu_1) (cwV 2 hts gv_h5_0 rfl rfl rfl (by decide +kernel) ⟨Nat.le_of_ble_eq_true rfl, Nat.le_of_ble_eq_true rfl⟩) ⟨fun a U g mk q => by obtain ⟨q0, q1, qP, qK, qD⟩ := q; exact ⟨q0, q1, qP, va_K.moved (u := U) (U := U.calling g mk a) (Vm.Alike.refl U.vm) qK, qD⟩, va_recv hKc hPc (ci := 13) (q0 := 0) rfl rfl, fun U hU hW => ⟨rfl, by rw [hU], by rw [hU]; exact hPc, va_K.moved hW.alike hKc, hDc.weaken (fun _ _ _ _ => trivial)⟩⟩ rfl rfl hl.1 rfl (lv_room (Nat.le_of_ble_eq_true rfl)) dX13_misplaced_24 ⟨Nat.le_of_ble_eq_true rfl, Nat.le_of_ble_eq_true rfl⟩) hS (fun q _ h => hFc q h) hFc ?_
    clear hS
    intro u t H1 locs ht hvm hw hB hz1 hk1 hS
    obtain ⟨z_1, rfl⟩ : ∃ z, z = u := ⟨_, rfl⟩
    obtain ⟨hP1, hK1, hD1⟩ := hB
    rw [ht] at hP1
    have hK1 := va_K.moved hvm.symm hK1
    try dsimp only at hw
    have hPD := va_join (wr := [(qf4, .inl (cf4, 3008, .inl f4))]) (w1 := [(h0, .inr (13, z_1)), (qf5, .inl (cf5, 3002, .inl f5))]) hP hD [0, 2] [1] rfl rfl (by decide) (by decide) hk1 hFc hP1 hD1
    clear hP hD
    obtain ⟨hP, hD⟩ := hPD
    replace hK := (hK.sub (tys' := [(cf4, .int)]) [0] rfl).app hK1
    clear hPc hDc hKc hFc hP1 hK1 hD1 hz1 hk1 ht hvm
    generalize H1 = H at hP hS ⊢
    replace hP : va_P (dC, dI) vwCl [(qf4, .inl (cf4, 3008, .inl f4)), (h0, .inr (13, z_1)), (qf5, .inl (cf5, 3002, .inl f5))] H := hP
    replace hD : va_D A [(qf4, .inl (cf4, 3008, .inl f4)), (h0, .inr (13, z_1)), (qf5, .inl (cf5, 3002, .inl f5))] := hD
    replace hK : va_K (dC, dI) vwCl [(cf4, .int), (cf5, .int)] s := hK
    obtain ⟨hwa_1, hln_1, hre_1, hch_1_10, hch_1_9⟩ := hw
    have hfk_1_4 : z_1[4]? = some (.ref qf4) := (hre_1 4 (by decide) (by decide)).trans (hf4)
    have hfk_1_5 : z_1[5]? = some (.ref qf5) := (hre_1 5 (by decide) (by decide)).trans (hf5)
    have hfk_1_23 : z_1[23]? = some (.int v23) := (hre_1 23 (by decide) (by decide)).trans (hf23)
    have hrq_1 : ∀ j : Nat, j ≠ 10 → j ≠ 9 → z_1[j]? = zs[j]? := fun j g10 g9 => (hre_1 j g10 g9).trans (hrs0 j g10 g9)
    have hr0 := Option.some.inj hsp
    clear hsp
    obtain ⟨hq0, hr1⟩ := Prod.mk.inj hr0
    clear hr0
    subst hq0
    subst hr1
    have hP9 := hP.sub (ws' := [(h0, .inr (13, z_1)), (qf4, .inl (cf4, 3008, .inl f4)), (qf5, .inl (cf5, 3002, .inl f5))]) [1, 0, 2] rfl
    have hD9 := hD.sub (ws' := [(h0, .inr (13, z_1)), (qf4, .inl (cf4, 3008, .inl f4)), (qf5, .inl (cf5, 3002, .inl f5))]) [1, 0, 2] (by decide) rfl
    have hK9 := hK.sub (tys' := [(cf4, .int), (cf5, .int)]) [0, 1] rfl
    exact W.vret hx hb hr (fun t ht hW => ⟨⟨(z_1), rfl, ⟨trivial, hln_1, hrq_1, hch_1_10, hch_1_9⟩, by rw [ht]; exact hP9, va_K.moved hW.alike hK9, hD9⟩, hS.F ht⟩) hS.2.2 dX13_misplaced_27
  · rw [if_pos c_2] at hsp
    refine lv_iconst (v := 1) hx hb dX13_misplaced_15 (by decide) ?_
    refine lv_goto (tgt := 20) hx hb dX13_misplaced_16 (by decide) ?_
    refine lv_aload_n hx hb dX13_misplaced_20 rfl (lv_at hl 0 rfl) ?_
    refine va_get (D := (dC, dI)) (ci := 13) (v := .int v23) (C := RX13) (T := TX13) (N := 155) hx hb hts uV_h5_X13 hown hK hP 0 rfl rfl 23 (by decide) (hts (.fieldLink RX13 376 "ClassMillModel" "cursor" "I") mw_h5_15) (fun _ h9 => h9) hf23 dX13_misplaced_21 ?_
    obtain ⟨⟨u2_0, u2_1⟩, hu_2, hsp⟩ := ox_bind hsp
    try dsimp only at hsp
    have hPc := hP.sub (ws' := [(h0, .inr (13, zs)), (qf5, .inl (cf5, 3002, .inl f5))]) [0, 2] rfl
    have hDc := hD.sub (ws' := [(h0, .inr (13, zs)), (qf5, .inl (cf5, 3002, .inl f5))]) [0, 2] (by decide) rfl
    have hKc := hK.sub (tys' := [(cf5, .int)]) [1] rfl
    have hFc := va_free (wc := [(h0, .inr (13, zs)), (qf5, .inl (cf5, 3002, .inl f5))]) hD hS hA [0, 2] rfl
    refine va_callv (va_runV (As := [.int 1, .int v23]) (rest := []) ⟨hx, hb, hml, hown, hts⟩ (tm_wrong l dC dI H.size h0 zs 1 v23 qf5 v9 v10 cf5 f5 nf u2_0 u2_1 hlen hf5 hf9 hf10 hu_2) (cwV 2 hts gv_h5_0 rfl rfl rfl (by decide +kernel) ⟨Nat.le_of_ble_eq_true rfl, Nat.le_of_ble_eq_true rfl⟩) ⟨fun a U g mk q => by obtain ⟨q0, q1, qP, qK, qD⟩ := q; exact ⟨q0, q1, qP, va_K.moved (u := U) (U := U.calling g mk a) (Vm.Alike.refl U.vm) qK, qD⟩, va_recv hKc hPc (ci := 13) (q0 := 0) rfl rfl, fun U hU hW => ⟨rfl, by rw [hU], by rw [hU]; exact hPc, va_K.moved hW.alike hKc, hDc.weaken (fun _ _ _ _ => trivial)⟩⟩ rfl rfl hl.1 rfl (lv_room (Nat.le_of_ble_eq_true rfl)) dX13_misplaced_24 ⟨Nat.le_of_ble_eq_true rfl, Nat.le_of_ble_eq_true rfl⟩) hS (fun q _ h => hFc q h) hFc ?_
    clear hS
    intro u t H1 locs ht hvm hw hB hz1 hk1 hS
    obtain ⟨z_2, rfl⟩ : ∃ z, z = u := ⟨_, rfl⟩
    obtain ⟨hP1, hK1, hD1⟩ := hB
    rw [ht] at hP1
    have hK1 := va_K.moved hvm.symm hK1
    try dsimp only at hw
    have hPD := va_join (wr := [(qf4, .inl (cf4, 3008, .inl f4))]) (w1 := [(h0, .inr (13, z_2)), (qf5, .inl (cf5, 3002, .inl f5))]) hP hD [0, 2] [1] rfl rfl (by decide) (by decide) hk1 hFc hP1 hD1
    clear hP hD
    obtain ⟨hP, hD⟩ := hPD
    replace hK := (hK.sub (tys' := [(cf4, .int)]) [0] rfl).app hK1
    clear hPc hDc hKc hFc hP1 hK1 hD1 hz1 hk1 ht hvm
    generalize H1 = H at hP hS ⊢
    replace hP : va_P (dC, dI) vwCl [(qf4, .inl (cf4, 3008, .inl f4)), (h0, .inr (13, z_2)), (qf5, .inl (cf5, 3002, .inl f5))] H := hP
    replace hD : va_D A [(qf4, .inl (cf4, 3008, .inl f4)), (h0, .inr (13, z_2)), (qf5, .inl (cf5, 3002, .inl f5))] := hD
    replace hK : va_K (dC, dI) vwCl [(cf4, .int), (cf5, .int)] s := hK
    obtain ⟨hwa_2, hln_2, hre_2, hch_2_10, hch_2_9⟩ := hw
    have hfk_2_4 : z_2[4]? = some (.ref qf4) := (hre_2 4 (by decide) (by decide)).trans (hf4)
    have hfk_2_5 : z_2[5]? = some (.ref qf5) := (hre_2 5 (by decide) (by decide)).trans (hf5)
    have hfk_2_23 : z_2[23]? = some (.int v23) := (hre_2 23 (by decide) (by decide)).trans (hf23)
    have hrq_2 : ∀ j : Nat, j ≠ 10 → j ≠ 9 → z_2[j]? = zs[j]? := fun j g10 g9 => (hre_2 j g10 g9).trans (hrs0 j g10 g9)
    have hr0 := Option.some.inj hsp
    clear hsp
    obtain ⟨hq0, hr1⟩ := Prod.mk.inj hr0
    clear hr0
    subst hq0
    subst hr1
    have hP9 := hP.sub (ws' := [(h0, .inr (13, z_2)), (qf4, .inl (cf4, 3008, .inl f4)), (qf5, .inl (cf5, 3002, .inl f5))]) [1, 0, 2] rfl
    have hD9 := hD.sub (ws' := [(h0, .inr (13, z_2)), (qf4, .inl (cf4, 3008, .inl f4)), (qf5, .inl (cf5, 3002, .inl f5))]) [1, 0, 2] (by decide) rfl
    have hK9 := hK.sub (tys' := [(cf4, .int), (cf5, .int)]) [0, 1] rfl
    exact W.vret hx hb hr (fun t ht hW => ⟨⟨(z_2), rfl, ⟨trivial, hln_2, hrq_2, hch_2_10, hch_2_9⟩, by rw [ht]; exact hP9, va_K.moved hW.alike hK9, hD9⟩, hS.F ht⟩) hS.2.2 dX13_misplaced_27
def sp_tm_sign_ (nf : Nat) (a1 : Int32) (v9 : Int32) (v10 : Int32) (v23 : Int32) (f4 : Nat → Int32) (f7 : Nat → Int32) (f5 : Nat → Int32) : Option (Int32 × Int32 × Int32) := (if v9 = 0 then ((sp_tm_isSign nf v23 a1 f4 f7).bind (fun p1 => (if p1 = 0 then ((sp_tm_misplaced nf v9 v10 v23 f4 f5).bind (fun p2 => (some (p2.1, v23, p2.2)))) else (some (v10, (v23 + 1), v9))))) else (some (v10, v23, v9)))
set_option maxHeartbeats 4000000 in
set_option maxRecDepth 100000 in
/-- ClassMillModel.sign -/
theorem tm_sign_ (l : Launch) (dC : Nat → ClassId) (dI : Nat → Nat → Nat) (sz : Nat) (h0 : Nat) (zs : (List Value)) (a1 : Int32) (qf4 : Nat) (qf5 : Nat) (qf7 : Nat) (v9 : Int32) (v10 : Int32) (v23 : Int32) (cf4 : ClassId) (f4 : (Nat → Int32)) (cf7 : ClassId) (f7 : (Nat → Int32)) (cf5 : ClassId) (f5 : (Nat → Int32)) (nf : Nat) (w10 : Int32) (w23 : Int32) (w9 : Int32) (hlen : zs.length = 155) (hf4 : zs[4]? = some (.ref qf4)) (hf5 : zs[5]? = some (.ref qf5)) (hf7 : zs[7]? = some (.ref qf7)) (hf9 : zs[9]? = some (.int v9)) (hf10 : zs[10]? = some (.int v10)) (hf23 : zs[23]? = some (.int v23)) (hsp : sp_tm_sign_ nf a1 v9 v10 v23 f4 f7 f5 = some (w10, w23, w9)) : Met l yX13_sign_ (.code yX13_sign_ cX13_sign_ 2 none :: VS_h5) ({ frames := 2, cells := 0, slots := 0, locals := 42 }) (va_Pc [.ref h0, .int a1] (fun U => U.heap.size = sz ∧ va_P (dC, dI) vwCl [(h0, .inr (13, zs)), (qf4, .inl (cf4, 3008, .inl f4)), (qf7, .inl (cf7, 3002, .inl f7)), (qf5, .inl (cf5, 3002, .inl f5))] U.heap ∧ va_K (dC, dI) vwCl [(cf4, .int), (cf7, .int), (cf5, .int)] U ∧ va_D (fun _ => True) [(h0, .inr (13, zs)), (qf4, .inl (cf4, 3008, .inl f4)), (qf7, .inl (cf7, 3002, .inl f7)), (qf5, .inl (cf5, 3002, .inl f5))])) (va_Qv (fun (u : (List Value)) => match u with | (zo1) => True ∧ zo1.length = 155 ∧ (∀ j : Nat, j ≠ 10 → j ≠ 23 → j ≠ 9 → zo1[j]? = zs[j]?) ∧ zo1[10]? = some (.int w10) ∧ zo1[23]? = some (.int w23) ∧ zo1[9]? = some (.int w9)) (fun (u : (List Value)) (t : State) => match u with | (zo1) => va_P (dC, dI) vwCl [(h0, .inr (13, zo1)), (qf4, .inl (cf4, 3008, .inl f4)), (qf7, .inl (cf7, 3002, .inl f7)), (qf5, .inl (cf5, 3002, .inl f5))] t.heap ∧ va_K (dC, dI) vwCl [(cf4, .int), (cf7, .int), (cf5, .int)] t ∧ va_D (va_A [(h0, .inr (13, zs)), (qf4, .inl (cf4, 3008, .inl f4)), (qf7, .inl (cf7, 3002, .inl f7)), (qf5, .inl (cf5, 3002, .inl f5))] sz) [(h0, .inr (13, zo1)), (qf4, .inl (cf4, 3008, .inl f4)), (qf7, .inl (cf7, 3002, .inl f7)), (qf5, .inl (cf5, 3002, .inl f5))]) (va_A [(h0, .inr (13, zs)), (qf4, .inl (cf4, 3008, .inl f4)), (qf7, .inl (cf7, 3002, .inl f7)), (qf5, .inl (cf5, 3002, .inl f5))] sz)) 0 0 (va_A [(h0, .inr (13, zs)), (qf4, .inl (cf4, 3008, .inl f4)), (qf7, .inl (cf7, 3002, .inl f7)), (qf5, .inl (cf5, 3002, .inl f5))] sz) := by
  refine Met.ofW (cc := cX13_sign_) (maxL := 2) (ret := none) (by decide) rfl ?_
  intro p e s m args below meth c s₁ B hml hv
  obtain ⟨rfl, hsz, hP, hK, hD0⟩ := hv
  have hx := B.exec
  have hb := B.bytes
  have hr := B.returns
  have hts := atoms_spec (ws := (.code yX13_sign_ cX13_sign_ 2 none :: VS_h5)) B.pre
  replace hts := fun w (h : w ∈ VS_h5) => hts w (List.mem_cons_of_mem _ h)
  have hown : s.vm.findClass RX13 = some m.cls := findClass_of_methodNamed B.named
  have hlocks := B.notSynchronized
  subst hsz
  have hD := hD0.self (sz := s.heap.size)
  generalize hAe : va_A [(h0, .inr (13, zs)), (qf4, .inl (cf4, 3008, .inl f4)), (qf7, .inl (cf7, 3002, .inl f7)), (qf5, .inl (cf5, 3002, .inl f5))] s.heap.size = A at hD  ⊢
  have hA : ∀ q : Nat, s.heap.size ≤ q → A q := fun q h => by rw [← hAe]; exact Or.inr h
  have hP : va_P (dC, dI) vwCl [(h0, .inr (13, zs)), (qf4, .inl (cf4, 3008, .inl f4)), (qf7, .inl (cf7, 3002, .inl f7)), (qf5, .inl (cf5, 3002, .inl f5))] s.heap := hP
  have hl := lv_entry ([.ref h0, .int a1]) (n := 2) (Nat.le_of_ble_eq_true rfl)
  rw [lg_entry_eq]
  generalize (lg_sl ([.ref h0, .int a1]) ++ List.replicate (2 - (lg_sl ([.ref h0, .int a1])).length) Slot.unset).toArray = ls at hl ⊢
  have hl : lv_has ls 2 [(0, .ref h0), (1, .int a1)] := hl
  obtain ⟨H, hH⟩ : ∃ H : Heap, s.heap = H := ⟨_, rfl⟩
  rw [hH] at hP ⊢
  have hS : va_S A s.heap H [] := by rw [← hH]; exact va_S.rf
  obtain ⟨locs, hlo⟩ : ∃ locs : List Loc, locs = [] := ⟨_, rfl⟩
  rw [← hlo] at hS ⊢
  have hrs0 : ∀ j : Nat, j ≠ 10 → j ≠ 23 → j ≠ 9 → zs[j]? = zs[j]? := fun _ _ _ _  => rfl
  unfold sp_tm_sign_ at hsp
  refine lv_aload_n hx hb dX13_sign__0 rfl (lv_at hl 0 rfl) ?_
  refine va_get (D := (dC, dI)) (ci := 13) (v := .int v9) (C := RX13) (T := TX13) (N := 155) hx hb hts uV_h5_X13 hown hK hP 0 rfl rfl 9 (by decide) (hts (.fieldLink RX13 319 "ClassMillModel" "fault" "I") mw_h5_1) (fun _ h9 => h9) hf9 dX13_sign__1 ?_
  refine lv_if_eq (tgt := 8) hx hb dX13_sign__4 (by decide) (fun c_1 => ?_) (fun c_1 => ?_)
  · rw [if_pos c_1] at hsp
    refine lv_aload_n hx hb dX13_sign__8 rfl (lv_at hl 0 rfl) ?_
    refine lv_aload_n hx hb dX13_sign__9 rfl (lv_at hl 0 rfl) ?_
    refine va_get (D := (dC, dI)) (ci := 13) (v := .int v23) (C := RX13) (T := TX13) (N := 155) hx hb hts uV_h5_X13 hown hK hP 0 rfl rfl 23 (by decide) (hts (.fieldLink RX13 376 "ClassMillModel" "cursor" "I") mw_h5_15) (fun _ h9 => h9) hf23 dX13_sign__10 ?_
    refine lv_iload_n hx hb dX13_sign__13 rfl (lv_at hl 1 rfl) ?_
    obtain ⟨u1_0, hu_1, hsp⟩ := ox_bind hsp
    try dsimp only at hsp
    have hPc := hP.sub (ws' := [(h0, .inr (13, zs)), (qf4, .inl (cf4, 3008, .inl f4)), (qf7, .inl (cf7, 3002, .inl f7))]) [0, 1, 2] rfl
    have hDc := hD.sub (ws' := [(h0, .inr (13, zs)), (qf4, .inl (cf4, 3008, .inl f4)), (qf7, .inl (cf7, 3002, .inl f7))]) [0, 1, 2] (by decide) rfl
    have hKc := hK.sub (tys' := [(cf4, .int), (cf7, .int)]) [0, 1] rfl
    have hFc := va_free (wc := [(h0, .inr (13, zs)), (qf4, .inl (cf4, 3008, .inl f4)), (qf7, .inl (cf7, 3002, .inl f7))]) hD hS hA [0, 1, 2] rfl
    refine va_calli (va_runV (As := [.int v23, .int a1]) (rest := []) ⟨hx, hb, hml, hown, hts⟩ (tm_isSign l dC dI H.size h0 zs v23 a1 qf4 qf7 cf4 f4 cf7 f7 nf u1_0 hlen hf4 hf7 hu_1) (cwV 2 hts gv_h5_1 rfl rfl rfl (by decide +kernel) ⟨Nat.le_of_ble_eq_true rfl, Nat.le_of_ble_eq_true rfl⟩) ⟨fun a U g mk q => by obtain ⟨q0, q1, qP, qK, qD⟩ := q; exact ⟨q0, q1, qP, va_K.moved (u := U) (U := U.calling g mk a) (Vm.Alike.refl U.vm) qK, qD⟩, va_recv hKc hPc (ci := 13) (q0 := 0) rfl rfl, fun U hU hW => ⟨rfl, by rw [hU], by rw [hU]; exact hPc, va_K.moved hW.alike hKc, hDc.weaken (fun _ _ _ _ => trivial)⟩⟩ rfl rfl hl.1 rfl (lv_room (Nat.le_of_ble_eq_true rfl)) dX13_sign__14 ⟨Nat.le_of_ble_eq_true rfl, Nat.le_of_ble_eq_true rfl⟩) hS (fun q _ h => hFc q h) hFc ?_
    clear hS
    intro r_2 u t H1 locs ht hvm hw hB hz1 hk1 hS
    obtain ⟨z_1, rfl⟩ : ∃ z, z = u := ⟨_, rfl⟩
    obtain ⟨hP1, hK1, hD1⟩ := hB
    rw [ht] at hP1
    have hK1 := va_K.moved hvm.symm hK1
    try dsimp only at hw
    have hPD := va_join (wr := [(qf5, .inl (cf5, 3002, .inl f5))]) (w1 := [(h0, .inr (13, z_1)), (qf4, .inl (cf4, 3008, .inl f4)), (qf7, .inl (cf7, 3002, .inl f7))]) hP hD [0, 1, 2] [3] rfl rfl (by decide) (by decide) hk1 hFc hP1 hD1
    clear hP hD
    obtain ⟨hP, hD⟩ := hPD
    replace hK := (hK.sub (tys' := [(cf5, .int)]) [2] rfl).app hK1
    clear hPc hDc hKc hFc hP1 hK1 hD1 hz1 hk1 ht hvm
    generalize H1 = H at hP hS ⊢
    replace hP : va_P (dC, dI) vwCl [(qf5, .inl (cf5, 3002, .inl f5)), (h0, .inr (13, z_1)), (qf4, .inl (cf4, 3008, .inl f4)), (qf7, .inl (cf7, 3002, .inl f7))] H := hP
    replace hD : va_D A [(qf5, .inl (cf5, 3002, .inl f5)), (h0, .inr (13, z_1)), (qf4, .inl (cf4, 3008, .inl f4)), (qf7, .inl (cf7, 3002, .inl f7))] := hD
    replace hK : va_K (dC, dI) vwCl [(cf5, .int), (cf4, .int), (cf7, .int)] s := hK
    obtain ⟨hwa_1, hln_1, hre_1⟩ := hw
    have hfk_1_4 : z_1[4]? = some (.ref qf4) := (hre_1 4 ).trans (hf4)
    have hfk_1_5 : z_1[5]? = some (.ref qf5) := (hre_1 5 ).trans (hf5)
    have hfk_1_7 : z_1[7]? = some (.ref qf7) := (hre_1 7 ).trans (hf7)
    have hfk_1_9 : z_1[9]? = some (.int v9) := (hre_1 9 ).trans (hf9)
    have hfk_1_10 : z_1[10]? = some (.int v10) := (hre_1 10 ).trans (hf10)
    have hfk_1_23 : z_1[23]? = some (.int v23) := (hre_1 23 ).trans (hf23)
    have hrq_1 : ∀ j : Nat, j ≠ 10 → j ≠ 23 → j ≠ 9 → z_1[j]? = zs[j]? := fun j g10 g23 g9 => (hre_1 j ).trans (hrs0 j g10 g23 g9)
    obtain ⟨rfl, hz_1⟩ := hwa_1
    rcases hz_1 with rfl | rfl
    · rw [if_pos rfl] at hsp
      refine lv_if_eq (tgt := 33) hx hb dX13_sign__17 (by decide) (fun c_3 => ?_) (fun c_3 => (show False by revert c_3; decide).elim)
      refine lv_aload_n hx hb dX13_sign__33 rfl (lv_at hl 0 rfl) ?_
      obtain ⟨⟨u2_0, u2_1⟩, hu_2, hsp⟩ := ox_bind hsp
      try dsimp only at hsp
      have hPc := hP.sub (ws' := [(h0, .inr (13, z_1)), (qf4, .inl (cf4, 3008, .inl f4)), (qf5, .inl (cf5, 3002, .inl f5))]) [1, 2, 0] rfl
      have hDc := hD.sub (ws' := [(h0, .inr (13, z_1)), (qf4, .inl (cf4, 3008, .inl f4)), (qf5, .inl (cf5, 3002, .inl f5))]) [1, 2, 0] (by decide) rfl
      have hKc := hK.sub (tys' := [(cf4, .int), (cf5, .int)]) [1, 0] rfl
      have hFc := va_free (wc := [(h0, .inr (13, z_1)), (qf4, .inl (cf4, 3008, .inl f4)), (qf5, .inl (cf5, 3002, .inl f5))]) hD hS hA [1, 2, 0] rfl
      refine va_callv (va_runV (As := []) (rest := []) ⟨hx, hb, hml, hown, hts⟩ (tm_misplaced l dC dI H.size h0 z_1 qf4 qf5 v9 v10 v23 cf4 f4 cf5 f5 nf u2_0 u2_1 hln_1 hfk_1_4 hfk_1_5 hfk_1_9 hfk_1_10 hfk_1_23 hu_2) (cwV 0 hts gv_h5_2 rfl rfl rfl (by decide +kernel) ⟨Nat.le_of_ble_eq_true rfl, Nat.le_of_ble_eq_true rfl⟩) ⟨fun a U g mk q => by obtain ⟨q0, q1, qP, qK, qD⟩ := q; exact ⟨q0, q1, qP, va_K.moved (u := U) (U := U.calling g mk a) (Vm.Alike.refl U.vm) qK, qD⟩, va_recv hKc hPc (ci := 13) (q0 := 0) rfl rfl, fun U hU hW => ⟨rfl, by rw [hU], by rw [hU]; exact hPc, va_K.moved hW.alike hKc, hDc.weaken (fun _ _ _ _ => trivial)⟩⟩ rfl rfl hl.1 rfl (lv_room (Nat.le_of_ble_eq_true rfl)) dX13_sign__34 ⟨Nat.le_of_ble_eq_true rfl, Nat.le_of_ble_eq_true rfl⟩) hS (fun q _ h => hFc q h) hFc ?_
      clear hS
      intro u t H1 locs ht hvm hw hB hz1 hk1 hS
      obtain ⟨z_2, rfl⟩ : ∃ z, z = u := ⟨_, rfl⟩
      obtain ⟨hP1, hK1, hD1⟩ := hB
      rw [ht] at hP1
      have hK1 := va_K.moved hvm.symm hK1
      try dsimp only at hw
      have hPD := va_join (wr := [(qf7, .inl (cf7, 3002, .inl f7))]) (w1 := [(h0, .inr (13, z_2)), (qf4, .inl (cf4, 3008, .inl f4)), (qf5, .inl (cf5, 3002, .inl f5))]) hP hD [1, 2, 0] [3] rfl rfl (by decide) (by decide) hk1 hFc hP1 hD1
      clear hP hD
      obtain ⟨hP, hD⟩ := hPD
      replace hK := (hK.sub (tys' := [(cf7, .int)]) [2] rfl).app hK1
      clear hPc hDc hKc hFc hP1 hK1 hD1 hz1 hk1 ht hvm
      generalize H1 = H at hP hS ⊢
      replace hP : va_P (dC, dI) vwCl [(qf7, .inl (cf7, 3002, .inl f7)), (h0, .inr (13, z_2)), (qf4, .inl (cf4, 3008, .inl f4)), (qf5, .inl (cf5, 3002, .inl f5))] H := hP
      replace hD : va_D A [(qf7, .inl (cf7, 3002, .inl f7)), (h0, .inr (13, z_2)), (qf4, .inl (cf4, 3008, .inl f4)), (qf5, .inl (cf5, 3002, .inl f5))] := hD
      replace hK : va_K (dC, dI) vwCl [(cf7, .int), (cf4, .int), (cf5, .int)] s := hK
      obtain ⟨hwa_2, hln_2, hre_2, hch_2_10, hch_2_9⟩ := hw
      have hfk_2_4 : z_2[4]? = some (.ref qf4) := (hre_2 4 (by decide) (by decide)).trans (hfk_1_4)
      have hfk_2_5 : z_2[5]? = some (.ref qf5) := (hre_2 5 (by decide) (by decide)).trans (hfk_1_5)
      have hfk_2_7 : z_2[7]? = some (.ref qf7) := (hre_2 7 (by decide) (by decide)).trans (hfk_1_7)
      have hfk_2_23 : z_2[23]? = some (.int v23) := (hre_2 23 (by decide) (by decide)).trans (hfk_1_23)
      have hrq_2 : ∀ j : Nat, j ≠ 10 → j ≠ 23 → j ≠ 9 → z_2[j]? = zs[j]? := fun j g10 g23 g9 => (hre_2 j g10 g9).trans (hrq_1 j g10 g23 g9)
      have hr0 := Option.some.inj hsp
      clear hsp
      obtain ⟨hq0, hr1⟩ := Prod.mk.inj hr0
      clear hr0
      obtain ⟨hq1, hr2⟩ := Prod.mk.inj hr1
      clear hr1
      subst hq0
      subst hq1
      subst hr2
      have hP9 := hP.sub (ws' := [(h0, .inr (13, z_2)), (qf4, .inl (cf4, 3008, .inl f4)), (qf7, .inl (cf7, 3002, .inl f7)), (qf5, .inl (cf5, 3002, .inl f5))]) [1, 2, 0, 3] rfl
      have hD9 := hD.sub (ws' := [(h0, .inr (13, z_2)), (qf4, .inl (cf4, 3008, .inl f4)), (qf7, .inl (cf7, 3002, .inl f7)), (qf5, .inl (cf5, 3002, .inl f5))]) [1, 2, 0, 3] (by decide) rfl
      have hK9 := hK.sub (tys' := [(cf4, .int), (cf7, .int), (cf5, .int)]) [1, 0, 2] rfl
      exact W.vret hx hb hr (fun t ht hW => ⟨⟨(z_2), rfl, ⟨trivial, hln_2, hrq_2, hch_2_10, hfk_2_23, hch_2_9⟩, by rw [ht]; exact hP9, va_K.moved hW.alike hK9, hD9⟩, hS.F ht⟩) hS.2.2 dX13_sign__37
    · rw [if_neg (by decide)] at hsp
      refine lv_if_eq (tgt := 33) hx hb dX13_sign__17 (by decide) (fun c_4 => (show False by revert c_4; decide).elim) (fun c_4 => ?_)
      refine lv_aload_n hx hb dX13_sign__20 rfl (lv_at hl 0 rfl) ?_
      refine lv_dup hx hb dX13_sign__21 rfl ?_
      refine va_get (D := (dC, dI)) (ci := 13) (v := .int v23) (C := RX13) (T := TX13) (N := 155) hx hb hts uV_h5_X13 hown hK hP 1 rfl rfl 23 (by decide) (hts (.fieldLink RX13 376 "ClassMillModel" "cursor" "I") mw_h5_15) (fun _ h9 => h9) hfk_1_23 dX13_sign__22 ?_
      refine lv_iconst (v := 1) hx hb dX13_sign__25 (by decide) ?_
      refine lv_iadd hx hb dX13_sign__26 ?_
      refine va_put (D := (dC, dI)) (ci := 13) (v := .int (v23 + 1)) (ty := .int) (C := RX13) (T := TX13) (N := 155) hx hb hts uV_h5_X13 tyX13 tyX13_ok nmX13 hown hK hP hD hS 1 rfl rfl 23 (by decide) (hts (.fieldLink RX13 376 "ClassMillModel" "cursor" "I") mw_h5_15) (fun _ h9 => h9) rfl (by decide +kernel) rfl rfl (by rw [hln_1]; decide) dX13_sign__27 ?_
      clear hP hD hS
      intro H locs hP hD hS
      obtain ⟨fs_5, efs_5⟩ : ∃ zf : List Value, zf = z_1.set 23 (.int (v23 + 1)) := ⟨_, rfl⟩
      rw [← efs_5] at hP hD
      have hlfs_5 : fs_5.length = 155 := by rw [efs_5, List.length_set]; exact hln_1
      have hfs_5_4 : fs_5[4]? = some (.ref qf4) := by rw [efs_5, List.getElem?_set_ne (by decide)]; exact hfk_1_4
      have hfs_5_5 : fs_5[5]? = some (.ref qf5) := by rw [efs_5, List.getElem?_set_ne (by decide)]; exact hfk_1_5
      have hfs_5_7 : fs_5[7]? = some (.ref qf7) := by rw [efs_5, List.getElem?_set_ne (by decide)]; exact hfk_1_7
      have hfs_5_9 : fs_5[9]? = some (.int v9) := by rw [efs_5, List.getElem?_set_ne (by decide)]; exact hfk_1_9
      have hfs_5_10 : fs_5[10]? = some (.int v10) := by rw [efs_5, List.getElem?_set_ne (by decide)]; exact hfk_1_10
      have hfs_5_23 : fs_5[23]? = some (.int (v23 + 1)) := by rw [efs_5, List.getElem?_set_self (by rw [hln_1]; decide)]
      replace hP : va_P (dC, dI) vwCl [(qf5, .inl (cf5, 3002, .inl f5)), (h0, .inr (13, fs_5)), (qf4, .inl (cf4, 3008, .inl f4)), (qf7, .inl (cf7, 3002, .inl f7))] H := hP
      replace hD : va_D A [(qf5, .inl (cf5, 3002, .inl f5)), (h0, .inr (13, fs_5)), (qf4, .inl (cf4, 3008, .inl f4)), (qf7, .inl (cf7, 3002, .inl f7))] := hD
      have hrs_6 : ∀ j : Nat, j ≠ 10 → j ≠ 23 → j ≠ 9 → fs_5[j]? = zs[j]? := fun j g10 g23 g9 => ((congrArg (fun z : List Value => z[j]?) efs_5).trans (List.getElem?_set_ne (Ne.symm g23))).trans (hrq_1 j g10 g23 g9)
      refine lv_goto (tgt := 37) hx hb dX13_sign__30 (by decide) ?_
      have hr0 := Option.some.inj hsp
      clear hsp
      obtain ⟨hq0, hr1⟩ := Prod.mk.inj hr0
      clear hr0
      obtain ⟨hq1, hr2⟩ := Prod.mk.inj hr1
      clear hr1
      subst hq0
      subst hq1
      subst hr2
      have hP9 := hP.sub (ws' := [(h0, .inr (13, fs_5)), (qf4, .inl (cf4, 3008, .inl f4)), (qf7, .inl (cf7, 3002, .inl f7)), (qf5, .inl (cf5, 3002, .inl f5))]) [1, 2, 3, 0] rfl
      have hD9 := hD.sub (ws' := [(h0, .inr (13, fs_5)), (qf4, .inl (cf4, 3008, .inl f4)), (qf7, .inl (cf7, 3002, .inl f7)), (qf5, .inl (cf5, 3002, .inl f5))]) [1, 2, 3, 0] (by decide) rfl
      have hK9 := hK.sub (tys' := [(cf4, .int), (cf7, .int), (cf5, .int)]) [1, 2, 0] rfl
      exact W.vret hx hb hr (fun t ht hW => ⟨⟨(fs_5), rfl, ⟨trivial, hlfs_5, hrs_6, hfs_5_10, hfs_5_23, hfs_5_9⟩, by rw [ht]; exact hP9, va_K.moved hW.alike hK9, hD9⟩, hS.F ht⟩) hS.2.2 dX13_sign__37
  · rw [if_neg c_1] at hsp
    have hr0 := Option.some.inj hsp
    clear hsp
    obtain ⟨hq0, hr1⟩ := Prod.mk.inj hr0
    clear hr0
    obtain ⟨hq1, hr2⟩ := Prod.mk.inj hr1
    clear hr1
    subst hq0
    subst hq1
    subst hr2
    have hP9 := hP.sub (ws' := [(h0, .inr (13, zs)), (qf4, .inl (cf4, 3008, .inl f4)), (qf7, .inl (cf7, 3002, .inl f7)), (qf5, .inl (cf5, 3002, .inl f5))]) [0, 1, 2, 3] rfl
    have hD9 := hD.sub (ws' := [(h0, .inr (13, zs)), (qf4, .inl (cf4, 3008, .inl f4)), (qf7, .inl (cf7, 3002, .inl f7)), (qf5, .inl (cf5, 3002, .inl f5))]) [0, 1, 2, 3] (by decide) rfl
    have hK9 := hK.sub (tys' := [(cf4, .int), (cf7, .int), (cf5, .int)]) [0, 1, 2] rfl
    exact W.vret hx hb hr (fun t ht hW => ⟨⟨(zs), rfl, ⟨trivial, hlen, hrs0, hf10, hf23, hf9⟩, by rw [ht]; exact hP9, va_K.moved hW.alike hK9, hD9⟩, hS.F ht⟩) hS.2.2 dX13_sign__7
def sp_tm_word (nf : Nat) (a1 : Int32) (v9 : Int32) (v10 : Int32) (v23 : Int32) (f4 : Nat → Int32) (f7 : Nat → Int32) (f5 : Nat → Int32) : Option (Int32 × Int32 × Int32) := (if v9 = 0 then ((sp_tm_isWord nf v23 a1 f4 f7).bind (fun p1 => (if p1 = 0 then ((sp_tm_misplaced nf v9 v10 v23 f4 f5).bind (fun p2 => (some (p2.1, v23, p2.2)))) else (some (v10, (v23 + 1), v9))))) else (some (v10, v23, v9)))
