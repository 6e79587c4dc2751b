set_option maxHeartbeats 4000000 in
set_option maxRecDepth 100000 in
/-- ClassMillModel.start -/
theorem vm_start (l : Launch) (dC : Nat → ClassId) (dI : Nat → Nat → Nat) (sz : Nat) (h0 : Nat) (zs : (List Value)) (a1 : Int32) (a2 : Int32) (v98 : Int32) (v99 : Int32) (qf100 : Nat) (qf102 : Nat) (qf107 : Nat) (qf108 : Nat) (qf109 : Nat) (v138 : Int32) (v139 : Int32) (v140 : Int32) (v141 : Int32) (v142 : Int32) (v143 : Int32) (v149 : Int32) (qf150 : Nat) (qf151 : Nat) (qf152 : Nat) (qf153 : Nat) (qf154 : Nat) (cf108 : ClassId) (f108 : (Nat → Int32)) (cf107 : ClassId) (f107 : (Nat → Int32)) (cf100 : ClassId) (f100 : (Nat → Int32)) (cf109 : ClassId) (f109 : (Nat → Int32)) (cf102 : ClassId) (f102 : (Nat → Int32)) (cf150 : ClassId) (f150 : (Nat → Int32)) (cf151 : ClassId) (f151 : (Nat → Int32)) (cf152 : ClassId) (f152 : (Nat → Int32)) (cf153 : ClassId) (f153 : (Nat → Int32)) (cf154 : ClassId) (f154 : (Nat → Int32)) (nf : Nat) (r0 : Int32) (o150 : (Nat → Int32)) (o151 : (Nat → Int32)) (o152 : (Nat → Int32)) (o153 : (Nat → Int32)) (o154 : (Nat → Int32)) (w138 : Int32) (w139 : Int32) (w140 : Int32) (w141 : Int32) (w142 : Int32) (w143 : Int32) (w149 : Int32) (hlen : zs.length = 155) (hf98 : zs[98]? = some (.int v98)) (hf99 : zs[99]? = some (.int v99)) (hf100 : zs[100]? = some (.ref qf100)) (hf102 : zs[102]? = some (.ref qf102)) (hf107 : zs[107]? = some (.ref qf107)) (hf108 : zs[108]? = some (.ref qf108)) (hf109 : zs[109]? = some (.ref qf109)) (hf138 : zs[138]? = some (.int v138)) (hf139 : zs[139]? = some (.int v139)) (hf140 : zs[140]? = some (.int v140)) (hf141 : zs[141]? = some (.int v141)) (hf142 : zs[142]? = some (.int v142)) (hf143 : zs[143]? = some (.int v143)) (hf149 : zs[149]? = some (.int v149)) (hf150 : zs[150]? = some (.ref qf150)) (hf151 : zs[151]? = some (.ref qf151)) (hf152 : zs[152]? = some (.ref qf152)) (hf153 : zs[153]? = some (.ref qf153)) (hf154 : zs[154]? = some (.ref qf154)) (hsp : sp_vm_start nf a1 a2 v98 v99 v138 v139 v140 v141 v142 v143 v149 f108 f107 f100 f109 f102 f150 f151 f152 f153 f154 = some (r0, o150, o151, o152, o153, o154, w138, w139, w140, w141, w142, w143, w149)) : Met l yX13_start (.code yX13_start cX13_start 5 (some .boolean) :: VS_h9) ({ frames := 2, cells := 0, slots := 0, locals := 45 }) (va_Pc [.ref h0, .int a1, .int a2] (fun U => U.heap.size = sz ∧ va_P (dC, dI) vwCl [(h0, .inr (13, zs)), (qf108, .inl (cf108, 8, .inl f108)), (qf107, .inl (cf107, 96, .inl f107)), (qf100, .inl (cf100, 48000, .inl f100)), (qf109, .inl (cf109, 96, .inl f109)), (qf102, .inl (cf102, 2048, .inl f102)), (qf150, .inl (cf150, 60, .inl f150)), (qf151, .inl (cf151, 60, .inl f151)), (qf152, .inl (cf152, 60, .inl f152)), (qf153, .inl (cf153, 60, .inl f153)), (qf154, .inl (cf154, 3600, .inl f154))] U.heap ∧ va_K (dC, dI) vwCl [(cf108, .int), (cf107, .int), (cf100, .int), (cf109, .int), (cf102, .int), (cf150, .int), (cf151, .int), (cf152, .int), (cf153, .int), (cf154, .int)] U ∧ va_D (fun _ => True) [(h0, .inr (13, zs)), (qf108, .inl (cf108, 8, .inl f108)), (qf107, .inl (cf107, 96, .inl f107)), (qf100, .inl (cf100, 48000, .inl f100)), (qf109, .inl (cf109, 96, .inl f109)), (qf102, .inl (cf102, 2048, .inl f102)), (qf150, .inl (cf150, 60, .inl f150)), (qf151, .inl (cf151, 60, .inl f151)), (qf152, .inl (cf152, 60, .inl f152)), (qf153, .inl (cf153, 60, .inl f153)), (qf154, .inl (cf154, 3600, .inl f154))])) (va_Qi (fun (r : Int32) (u : (List Value)) => match u with | (zo1) => (r0 = r ∧ (r0 = 0 ∨ r0 = 1)) ∧ zo1.length = 155 ∧ (∀ j : Nat, j ≠ 138 → j ≠ 139 → j ≠ 140 → j ≠ 141 → j ≠ 142 → j ≠ 143 → j ≠ 149 → zo1[j]? = zs[j]?) ∧ zo1[138]? = some (.int w138) ∧ zo1[139]? = some (.int w139) ∧ zo1[140]? = some (.int w140) ∧ zo1[141]? = some (.int w141) ∧ zo1[142]? = some (.int w142) ∧ zo1[143]? = some (.int w143) ∧ zo1[149]? = some (.int w149)) (fun (u : (List Value)) (t : State) => match u with | (zo1) => va_P (dC, dI) vwCl [(h0, .inr (13, zo1)), (qf108, .inl (cf108, 8, .inl f108)), (qf107, .inl (cf107, 96, .inl f107)), (qf100, .inl (cf100, 48000, .inl f100)), (qf109, .inl (cf109, 96, .inl f109)), (qf102, .inl (cf102, 2048, .inl f102)), (qf150, .inl (cf150, 60, .inl o150)), (qf151, .inl (cf151, 60, .inl o151)), (qf152, .inl (cf152, 60, .inl o152)), (qf153, .inl (cf153, 60, .inl o153)), (qf154, .inl (cf154, 3600, .inl o154))] t.heap ∧ va_K (dC, dI) vwCl [(cf108, .int), (cf107, .int), (cf100, .int), (cf109, .int), (cf102, .int), (cf150, .int), (cf151, .int), (cf152, .int), (cf153, .int), (cf154, .int)] t ∧ va_D (va_A [(h0, .inr (13, zs)), (qf108, .inl (cf108, 8, .inl f108)), (qf107, .inl (cf107, 96, .inl f107)), (qf100, .inl (cf100, 48000, .inl f100)), (qf109, .inl (cf109, 96, .inl f109)), (qf102, .inl (cf102, 2048, .inl f102)), (qf150, .inl (cf150, 60, .inl f150)), (qf151, .inl (cf151, 60, .inl f151)), (qf152, .inl (cf152, 60, .inl f152)), (qf153, .inl (cf153, 60, .inl f153)), (qf154, .inl (cf154, 3600, .inl f154))] sz) [(h0, .inr (13, zo1)), (qf108, .inl (cf108, 8, .inl f108)), (qf107, .inl (cf107, 96, .inl f107)), (qf100, .inl (cf100, 48000, .inl f100)), (qf109, .inl (cf109, 96, .inl f109)), (qf102, .inl (cf102, 2048, .inl f102)), (qf150, .inl (cf150, 60, .inl o150)), (qf151, .inl (cf151, 60, .inl o151)), (qf152, .inl (cf152, 60, .inl o152)), (qf153, .inl (cf153, 60, .inl o153)), (qf154, .inl (cf154, 3600, .inl o154))]) (va_A [(h0, .inr (13, zs)), (qf108, .inl (cf108, 8, .inl f108)), (qf107, .inl (cf107, 96, .inl f107)), (qf100, .inl (cf100, 48000, .inl f100)), (qf109, .inl (cf109, 96, .inl f109)), (qf102, .inl (cf102, 2048, .inl f102)), (qf150, .inl (cf150, 60, .inl f150)), (qf151, .inl (cf151, 60, .inl f151)), (qf152, .inl (cf152, 60, .inl f152)), (qf153, .inl (cf153, 60, .inl f153)), (qf154, .inl (cf154, 3600, .inl f154))] sz)) 0 0 (va_A [(h0, .inr (13, zs)), (qf108, .inl (cf108, 8, .inl f108)), (qf107, .inl (cf107, 96, .inl f107)), (qf100, .inl (cf100, 48000, .inl f100)), (qf109, .inl (cf109, 96, .inl f109)), (qf102, .inl (cf102, 2048, .inl f102)), (qf150, .inl (cf150, 60, .inl f150)), (qf151, .inl (cf151, 60, .inl f151)), (qf152, .inl (cf152, 60, .inl f152)), (qf153, .inl (cf153, 60, .inl f153)), (qf154, .inl (cf154, 3600, .inl f154))] sz) := by
  refine Met.ofW (cc := cX13_start) (maxL := 5) (ret := (some .boolean)) (by decide) rfl ?_
  intro p e s m args below meth c s₁ B hml hv
  obtain ⟨rfl, hsz, hP, hK, hD0⟩ := hv
  have hx := B.exec
  have hb := B.bytes
  have hr := B.returns
  have hts := atoms_spec (ws := (.code yX13_start cX13_start 5 (some .boolean) :: VS_h9)) B.pre
  replace hts := fun w (h : w ∈ VS_h9) => hts w (List.mem_cons_of_mem _ h)
  have hown : s.vm.findClass RX13 = some m.cls := findClass_of_methodNamed B.named
  have hlocks := B.notSynchronized
  subst hsz
  have hD := hD0.self (sz := s.heap.size)
  generalize hAe : va_A [(h0, .inr (13, zs)), (qf108, .inl (cf108, 8, .inl f108)), (qf107, .inl (cf107, 96, .inl f107)), (qf100, .inl (cf100, 48000, .inl f100)), (qf109, .inl (cf109, 96, .inl f109)), (qf102, .inl (cf102, 2048, .inl f102)), (qf150, .inl (cf150, 60, .inl f150)), (qf151, .inl (cf151, 60, .inl f151)), (qf152, .inl (cf152, 60, .inl f152)), (qf153, .inl (cf153, 60, .inl f153)), (qf154, .inl (cf154, 3600, .inl f154))] s.heap.size = A at hD  ⊢
  have hA : ∀ q : Nat, s.heap.size ≤ q → A q := fun q h => by rw [← hAe]; exact Or.inr h
  have hP : va_P (dC, dI) vwCl [(h0, .inr (13, zs)), (qf108, .inl (cf108, 8, .inl f108)), (qf107, .inl (cf107, 96, .inl f107)), (qf100, .inl (cf100, 48000, .inl f100)), (qf109, .inl (cf109, 96, .inl f109)), (qf102, .inl (cf102, 2048, .inl f102)), (qf150, .inl (cf150, 60, .inl f150)), (qf151, .inl (cf151, 60, .inl f151)), (qf152, .inl (cf152, 60, .inl f152)), (qf153, .inl (cf153, 60, .inl f153)), (qf154, .inl (cf154, 3600, .inl f154))] s.heap := hP
  have hl := lv_entry ([.ref h0, .int a1, .int a2]) (n := 5) (Nat.le_of_ble_eq_true rfl)
  rw [lg_entry_eq]
  generalize (lg_sl ([.ref h0, .int a1, .int a2]) ++ List.replicate (5 - (lg_sl ([.ref h0, .int a1, .int a2])).length) Slot.unset).toArray = ls at hl ⊢
  have hl : lv_has ls 5 [(0, .ref h0), (1, .int a1), (2, .int a2)] := hl
  obtain ⟨H, hH⟩ : ∃ H : Heap, s.heap = H := ⟨_, rfl⟩
  rw [hH] at hP ⊢
  have hS : va_S A s.heap H [] := by rw [← hH]; exact va_S.rf
  obtain ⟨locs, hlo⟩ : ∃ locs : List Loc, locs = [] := ⟨_, rfl⟩
  rw [← hlo] at hS ⊢
  have hrs0 : ∀ j : Nat, j ≠ 138 → j ≠ 139 → j ≠ 140 → j ≠ 141 → j ≠ 142 → j ≠ 143 → j ≠ 149 → zs[j]? = zs[j]? := fun _ _ _ _ _ _ _ _  => rfl
  unfold sp_vm_start at hsp
  refine lv_iload_n hx hb dX13_start_0 rfl (lv_at hl 1 rfl) ?_
  refine lv_bipush (v := 8) hx hb dX13_start_1 (by decide) ?_
  refine lv_isub hx hb dX13_start_3 ?_
  refine lv_istore_n (lv' := [(3, .int (a1 - 8)), (0, .ref h0), (1, .int a1), (2, .int a2)]) hx hb dX13_start_4 rfl hl (by decide) rfl (fun ls hl => ?_)
  refine lv_aload_n hx hb dX13_start_5 rfl (lv_at hl 1 rfl) ?_
  refine va_get (D := (dC, dI)) (ci := 13) (v := .int v99) (C := RX13) (T := TX13) (N := 155) hx hb hts uV_h9_X13 hown hK hP 0 rfl rfl 99 (by decide) (hts (.fieldLink RX13 855 "ClassMillModel" "verified" "Z") mw_h9_363) (fun _ h9 => h9) hf99 dX13_start_6 ?_
  refine lv_if_eq (tgt := 38) hx hb dX13_start_9 (by decide) (fun c_1 => ?_) (fun c_1 => ?_)
  · rw [if_pos c_1] at hsp
    refine lv_iconst (v := 0) hx hb dX13_start_38 (by decide) ?_
    have hr0 := Option.some.inj hsp
    clear hsp
    obtain ⟨hq0, hr1⟩ := Prod.mk.inj hr0
    clear hr0
    obtain ⟨hq1, hr2⟩ := Prod.mk.inj hr1
    clear hr1
    obtain ⟨hq2, hr3⟩ := Prod.mk.inj hr2
    clear hr2
    obtain ⟨hq3, hr4⟩ := Prod.mk.inj hr3
    clear hr3
    obtain ⟨hq4, hr5⟩ := Prod.mk.inj hr4
    clear hr4
    obtain ⟨hq5, hr6⟩ := Prod.mk.inj hr5
    clear hr5
    obtain ⟨hq6, hr7⟩ := Prod.mk.inj hr6
    clear hr6
    obtain ⟨hq7, hr8⟩ := Prod.mk.inj hr7
    clear hr7
    obtain ⟨hq8, hr9⟩ := Prod.mk.inj hr8
    clear hr8
    obtain ⟨hq9, hr10⟩ := Prod.mk.inj hr9
    clear hr9
    obtain ⟨hq10, hr11⟩ := Prod.mk.inj hr10
    clear hr10
    obtain ⟨hq11, hr12⟩ := Prod.mk.inj hr11
    clear hr11
    subst hq0
    subst hq1
    subst hq2
    subst hq3
    subst hq4
    subst hq5
    subst hq6
    subst hq7
    subst hq8
    subst hq9
    subst hq10
    subst hq11
    subst hr12
    have hP9 := hP.sub (ws' := [(h0, .inr (13, zs)), (qf108, .inl (cf108, 8, .inl f108)), (qf107, .inl (cf107, 96, .inl f107)), (qf100, .inl (cf100, 48000, .inl f100)), (qf109, .inl (cf109, 96, .inl f109)), (qf102, .inl (cf102, 2048, .inl f102)), (qf150, .inl (cf150, 60, .inl f150)), (qf151, .inl (cf151, 60, .inl f151)), (qf152, .inl (cf152, 60, .inl f152)), (qf153, .inl (cf153, 60, .inl f153)), (qf154, .inl (cf154, 3600, .inl f154))]) [0, 1, 2, 3, 4, 5, 6, 7, 8, 9, 10] rfl
    have hD9 := hD.sub (ws' := [(h0, .inr (13, zs)), (qf108, .inl (cf108, 8, .inl f108)), (qf107, .inl (cf107, 96, .inl f107)), (qf100, .inl (cf100, 48000, .inl f100)), (qf109, .inl (cf109, 96, .inl f109)), (qf102, .inl (cf102, 2048, .inl f102)), (qf150, .inl (cf150, 60, .inl f150)), (qf151, .inl (cf151, 60, .inl f151)), (qf152, .inl (cf152, 60, .inl f152)), (qf153, .inl (cf153, 60, .inl f153)), (qf154, .inl (cf154, 3600, .inl f154))]) [0, 1, 2, 3, 4, 5, 6, 7, 8, 9, 10] (by decide) rfl
    have hK9 := hK.sub (tys' := [(cf108, .int), (cf107, .int), (cf100, .int), (cf109, .int), (cf102, .int), (cf150, .int), (cf151, .int), (cf152, .int), (cf153, .int), (cf154, .int)]) [0, 1, 2, 3, 4, 5, 6, 7, 8, 9] rfl
    exact W.zret hx hb hr (by decide) (fun t ht hW => ⟨⟨(0), (zs), rfl, ⟨⟨rfl, Or.inl rfl⟩, hlen, hrs0, hf138, hf139, hf140, hf141, hf142, hf143, hf149⟩, by rw [ht]; exact hP9, va_K.moved hW.alike hK9, hD9⟩, hS.F ht⟩) hS.2.2 dX13_start_39
  · rw [if_neg c_1] at hsp
    refine lv_iload_n hx hb dX13_start_12 rfl (lv_at hl 0 rfl) ?_
    refine lv_if_lt (tgt := 38) hx hb dX13_start_13 (by decide) (fun c_2 => ?_) (fun c_2 => ?_)
    · rw [if_pos c_2] at hsp
      refine lv_iconst (v := 0) hx hb dX13_start_38 (by decide) ?_
      have hr0 := Option.some.inj hsp
      clear hsp
      obtain ⟨hq0, hr1⟩ := Prod.mk.inj hr0
      clear hr0
      obtain ⟨hq1, hr2⟩ := Prod.mk.inj hr1
      clear hr1
      obtain ⟨hq2, hr3⟩ := Prod.mk.inj hr2
      clear hr2
      obtain ⟨hq3, hr4⟩ := Prod.mk.inj hr3
      clear hr3
      obtain ⟨hq4, hr5⟩ := Prod.mk.inj hr4
      clear hr4
      obtain ⟨hq5, hr6⟩ := Prod.mk.inj hr5
      clear hr5
      obtain ⟨hq6, hr7⟩ := Prod.mk.inj hr6
      clear hr6
      obtain ⟨hq7, hr8⟩ := Prod.mk.inj hr7
      clear hr7
      obtain ⟨hq8, hr9⟩ := Prod.mk.inj hr8
      clear hr8
      obtain ⟨hq9, hr10⟩ := Prod.mk.inj hr9
      clear hr9
      obtain ⟨hq10, hr11⟩ := Prod.mk.inj hr10
      clear hr10
      obtain ⟨hq11, hr12⟩ := Prod.mk.inj hr11
      clear hr11
      subst hq0
      subst hq1
      subst hq2
      subst hq3
      subst hq4
      subst hq5
      subst hq6
      subst hq7
      subst hq8
      subst hq9
      subst hq10
      subst hq11
      subst hr12
      have hP9 := hP.sub (ws' := [(h0, .inr (13, zs)), (qf108, .inl (cf108, 8, .inl f108)), (qf107, .inl (cf107, 96, .inl f107)), (qf100, .inl (cf100, 48000, .inl f100)), (qf109, .inl (cf109, 96, .inl f109)), (qf102, .inl (cf102, 2048, .inl f102)), (qf150, .inl (cf150, 60, .inl f150)), (qf151, .inl (cf151, 60, .inl f151)), (qf152, .inl (cf152, 60, .inl f152)), (qf153, .inl (cf153, 60, .inl f153)), (qf154, .inl (cf154, 3600, .inl f154))]) [0, 1, 2, 3, 4, 5, 6, 7, 8, 9, 10] rfl
      have hD9 := hD.sub (ws' := [(h0, .inr (13, zs)), (qf108, .inl (cf108, 8, .inl f108)), (qf107, .inl (cf107, 96, .inl f107)), (qf100, .inl (cf100, 48000, .inl f100)), (qf109, .inl (cf109, 96, .inl f109)), (qf102, .inl (cf102, 2048, .inl f102)), (qf150, .inl (cf150, 60, .inl f150)), (qf151, .inl (cf151, 60, .inl f151)), (qf152, .inl (cf152, 60, .inl f152)), (qf153, .inl (cf153, 60, .inl f153)), (qf154, .inl (cf154, 3600, .inl f154))]) [0, 1, 2, 3, 4, 5, 6, 7, 8, 9, 10] (by decide) rfl
      have hK9 := hK.sub (tys' := [(cf108, .int), (cf107, .int), (cf100, .int), (cf109, .int), (cf102, .int), (cf150, .int), (cf151, .int), (cf152, .int), (cf153, .int), (cf154, .int)]) [0, 1, 2, 3, 4, 5, 6, 7, 8, 9] rfl
      exact W.zret hx hb hr (by decide) (fun t ht hW => ⟨⟨(0), (zs), rfl, ⟨⟨rfl, Or.inl rfl⟩, hlen, hrs0, hf138, hf139, hf140, hf141, hf142, hf143, hf149⟩, by rw [ht]; exact hP9, va_K.moved hW.alike hK9, hD9⟩, hS.F ht⟩) hS.2.2 dX13_start_39
    · rw [if_neg c_2] at hsp
      refine lv_iload_n hx hb dX13_start_16 rfl (lv_at hl 0 rfl) ?_
      refine lv_aload_n hx hb dX13_start_17 rfl (lv_at hl 1 rfl) ?_
      refine va_get (D := (dC, dI)) (ci := 13) (v := .int v98) (C := RX13) (T := TX13) (N := 155) hx hb hts uV_h9_X13 hown hK hP 0 rfl rfl 98 (by decide) (hts (.fieldLink RX13 833 "ClassMillModel" "there" "I") mw_h9_276) (fun _ h9 => h9) hf98 dX13_start_18 ?_
      refine lv_icmp_ge (tgt := 38) hx hb dX13_start_21 (by decide) (fun c_3 => ?_) (fun c_3 => ?_)
      · rw [if_pos c_3] at hsp
        refine lv_iconst (v := 0) hx hb dX13_start_38 (by decide) ?_
        have hr0 := Option.some.inj hsp
        clear hsp
        obtain ⟨hq0, hr1⟩ := Prod.mk.inj hr0
        clear hr0
        obtain ⟨hq1, hr2⟩ := Prod.mk.inj hr1
        clear hr1
        obtain ⟨hq2, hr3⟩ := Prod.mk.inj hr2
        clear hr2
        obtain ⟨hq3, hr4⟩ := Prod.mk.inj hr3
        clear hr3
        obtain ⟨hq4, hr5⟩ := Prod.mk.inj hr4
        clear hr4
        obtain ⟨hq5, hr6⟩ := Prod.mk.inj hr5
        clear hr5
        obtain ⟨hq6, hr7⟩ := Prod.mk.inj hr6
        clear hr6
        obtain ⟨hq7, hr8⟩ := Prod.mk.inj hr7
        clear hr7
        obtain ⟨hq8, hr9⟩ := Prod.mk.inj hr8
        clear hr8
        obtain ⟨hq9, hr10⟩ := Prod.mk.inj hr9
        clear hr9
        obtain ⟨hq10, hr11⟩ := Prod.mk.inj hr10
        clear hr10
        obtain ⟨hq11, hr12⟩ := Prod.mk.inj hr11
        clear hr11
        subst hq0
        subst hq1
        subst hq2
        subst hq3
        subst hq4
        subst hq5
        subst hq6
        subst hq7
        subst hq8
        subst hq9
        subst hq10
        subst hq11
        subst hr12
        have hP9 := hP.sub (ws' := [(h0, .inr (13, zs)), (qf108, .inl (cf108, 8, .inl f108)), (qf107, .inl (cf107, 96, .inl f107)), (qf100, .inl (cf100, 48000, .inl f100)), (qf109, .inl (cf109, 96, .inl f109)), (qf102, .inl (cf102, 2048, .inl f102)), (qf150, .inl (cf150, 60, .inl f150)), (qf151, .inl (cf151, 60, .inl f151)), (qf152, .inl (cf152, 60, .inl f152)), (qf153, .inl (cf153, 60, .inl f153)), (qf154, .inl (cf154, 3600, .inl f154))]) [0, 1, 2, 3, 4, 5, 6, 7, 8, 9, 10] rfl
        have hD9 := hD.sub (ws' := [(h0, .inr (13, zs)), (qf108, .inl (cf108, 8, .inl f108)), (qf107, .inl (cf107, 96, .inl f107)), (qf100, .inl (cf100, 48000, .inl f100)), (qf109, .inl (cf109, 96, .inl f109)), (qf102, .inl (cf102, 2048, .inl f102)), (qf150, .inl (cf150, 60, .inl f150)), (qf151, .inl (cf151, 60, .inl f151)), (qf152, .inl (cf152, 60, .inl f152)), (qf153, .inl (cf153, 60, .inl f153)), (qf154, .inl (cf154, 3600, .inl f154))]) [0, 1, 2, 3, 4, 5, 6, 7, 8, 9, 10] (by decide) rfl
        have hK9 := hK.sub (tys' := [(cf108, .int), (cf107, .int), (cf100, .int), (cf109, .int), (cf102, .int), (cf150, .int), (cf151, .int), (cf152, .int), (cf153, .int), (cf154, .int)]) [0, 1, 2, 3, 4, 5, 6, 7, 8, 9] rfl
        exact W.zret hx hb hr (by decide) (fun t ht hW => ⟨⟨(0), (zs), rfl, ⟨⟨rfl, Or.inl rfl⟩, hlen, hrs0, hf138, hf139, hf140, hf141, hf142, hf143, hf149⟩, by rw [ht]; exact hP9, va_K.moved hW.alike hK9, hD9⟩, hS.F ht⟩) hS.2.2 dX13_start_39
      · rw [if_neg c_3] at hsp
        refine lv_iload_n hx hb dX13_start_24 rfl (lv_at hl 3 rfl) ?_
        refine lv_if_lt (tgt := 38) hx hb dX13_start_25 (by decide) (fun c_4 => ?_) (fun c_4 => ?_)
        · rw [if_pos c_4] at hsp
          refine lv_iconst (v := 0) hx hb dX13_start_38 (by decide) ?_
          have hr0 := Option.some.inj hsp
          clear hsp
          obtain ⟨hq0, hr1⟩ := Prod.mk.inj hr0
          clear hr0
          obtain ⟨hq1, hr2⟩ := Prod.mk.inj hr1
          clear hr1
          obtain ⟨hq2, hr3⟩ := Prod.mk.inj hr2
          clear hr2
          obtain ⟨hq3, hr4⟩ := Prod.mk.inj hr3
          clear hr3
          obtain ⟨hq4, hr5⟩ := Prod.mk.inj hr4
          clear hr4
          obtain ⟨hq5, hr6⟩ := Prod.mk.inj hr5
          clear hr5
          obtain ⟨hq6, hr7⟩ := Prod.mk.inj hr6
          clear hr6
          obtain ⟨hq7, hr8⟩ := Prod.mk.inj hr7
          clear hr7
          obtain ⟨hq8, hr9⟩ := Prod.mk.inj hr8
          clear hr8
          obtain ⟨hq9, hr10⟩ := Prod.mk.inj hr9
          clear hr9
          obtain ⟨hq10, hr11⟩ := Prod.mk.inj hr10
          clear hr10
          obtain ⟨hq11, hr12⟩ := Prod.mk.inj hr11
          clear hr11
          subst hq0
          subst hq1
          subst hq2
          subst hq3
          subst hq4
          subst hq5
          subst hq6
          subst hq7
          subst hq8
          subst hq9
          subst hq10
          subst hq11
          subst hr12
          have hP9 := hP.sub (ws' := [(h0, .inr (13, zs)), (qf108, .inl (cf108, 8, .inl f108)), (qf107, .inl (cf107, 96, .inl f107)), (qf100, .inl (cf100, 48000, .inl f100)), (qf109, .inl (cf109, 96, .inl f109)), (qf102, .inl (cf102, 2048, .inl f102)), (qf150, .inl (cf150, 60, .inl f150)), (qf151, .inl (cf151, 60, .inl f151)), (qf152, .inl (cf152, 60, .inl f152)), (qf153, .inl (cf153, 60, .inl f153)), (qf154, .inl (cf154, 3600, .inl f154))]) [0, 1, 2, 3, 4, 5, 6, 7, 8, 9, 10] rfl
          have hD9 := hD.sub (ws' := [(h0, .inr (13, zs)), (qf108, .inl (cf108, 8, .inl f108)), (qf107, .inl (cf107, 96, .inl f107)), (qf100, .inl (cf100, 48000, .inl f100)), (qf109, .inl (cf109, 96, .inl f109)), (qf102, .inl (cf102, 2048, .inl f102)), (qf150, .inl (cf150, 60, .inl f150)), (qf151, .inl (cf151, 60, .inl f151)), (qf152, .inl (cf152, 60, .inl f152)), (qf153, .inl (cf153, 60, .inl f153)), (qf154, .inl (cf154, 3600, .inl f154))]) [0, 1, 2, 3, 4, 5, 6, 7, 8, 9, 10] (by decide) rfl
          have hK9 := hK.sub (tys' := [(cf108, .int), (cf107, .int), (cf100, .int), (cf109, .int), (cf102, .int), (cf150, .int), (cf151, .int), (cf152, .int), (cf153, .int), (cf154, .int)]) [0, 1, 2, 3, 4, 5, 6, 7, 8, 9] rfl
          exact W.zret hx hb hr (by decide) (fun t ht hW => ⟨⟨(0), (zs), rfl, ⟨⟨rfl, Or.inl rfl⟩, hlen, hrs0, hf138, hf139, hf140, hf141, hf142, hf143, hf149⟩, by rw [ht]; exact hP9, va_K.moved hW.alike hK9, hD9⟩, hS.F ht⟩) hS.2.2 dX13_start_39
        · rw [if_neg c_4] at hsp
          refine lv_iload_n hx hb dX13_start_28 rfl (lv_at hl 3 rfl) ?_
          refine lv_aload_n hx hb dX13_start_29 rfl (lv_at hl 1 rfl) ?_
          refine va_get (D := (dC, dI)) (ci := 13) (v := .ref qf108) (C := RX13) (T := TX13) (N := 155) hx hb hts uV_h9_X13 hown hK hP 0 rfl rfl 108 (by decide) (hts (.fieldLink RX13 233 "ClassMillModel" "methodMany" "[I") mw_h9_281) (fun _ h9 => h9) hf108 dX13_start_30 ?_
          refine lv_iload_n hx hb dX13_start_33 rfl (lv_at hl 0 rfl) ?_
          obtain ⟨hi_5, hsp⟩ := ox_in hsp
          refine va_iald hx hb hK hP 1 0 rfl rfl (i := (a1 - 8)) hi_5 dX13_start_34 ?_
          refine lv_icmp_lt (tgt := 40) hx hb dX13_start_35 (by decide) (fun c_6 => ?_) (fun c_6 => ?_)
          · rw [if_pos c_6] at hsp
            refine lv_sipush (v := 6000) hx hb dX13_start_40 (by decide) ?_
            refine lv_iload_n hx hb dX13_start_43 rfl (lv_at hl 0 rfl) ?_
            refine lv_imul hx hb dX13_start_44 ?_
            refine lv_aload_n hx hb dX13_start_45 rfl (lv_at hl 1 rfl) ?_
            refine va_get (D := (dC, dI)) (ci := 13) (v := .ref qf102) (C := RX13) (T := TX13) (N := 155) hx hb hts uV_h9_X13 hown hK hP 0 rfl rfl 102 (by decide) (hts (.fieldLink RX13 215 "ClassMillModel" "constantAt" "[I") mw_h9_267) (fun _ h9 => h9) hf102 dX13_start_46 ?_
            refine lv_sipush (v := 256) hx hb dX13_start_49 (by decide) ?_
            refine lv_iload_n hx hb dX13_start_52 rfl (lv_at hl 0 rfl) ?_
            refine lv_imul hx hb dX13_start_53 ?_
            refine lv_aload_n hx hb dX13_start_54 rfl (lv_at hl 1 rfl) ?_
            refine lv_iload_n hx hb dX13_start_55 rfl (lv_at hl 0 rfl) ?_
            refine lv_iload_n hx hb dX13_start_56 rfl (lv_at hl 3 rfl) ?_
            refine lv_iconst (v := 1) hx hb dX13_start_57 (by decide) ?_
            obtain ⟨u1_0, hu_1, hsp⟩ := ox_bind hsp
            try dsimp only at hsp
            have hPc := hP.sub (ws' := [(h0, .inr (13, zs)), (qf107, .inl (cf107, 96, .inl f107)), (qf100, .inl (cf100, 48000, .inl f100)), (qf109, .inl (cf109, 96, .inl f109))]) [0, 2, 3, 4] rfl
            have hDc := hD.sub (ws' := [(h0, .inr (13, zs)), (qf107, .inl (cf107, 96, .inl f107)), (qf100, .inl (cf100, 48000, .inl f100)), (qf109, .inl (cf109, 96, .inl f109))]) [0, 2, 3, 4] (by decide) rfl
            have hKc := hK.sub (tys' := [(cf107, .int), (cf100, .int), (cf109, .int)]) [1, 2, 3] rfl
            have hFc := va_free (wc := [(h0, .inr (13, zs)), (qf107, .inl (cf107, 96, .inl f107)), (qf100, .inl (cf100, 48000, .inl f100)), (qf109, .inl (cf109, 96, .inl f109))]) hD hS hA [0, 2, 3, 4] rfl
            refine va_calli (va_runV (As := [.int (a1 - 8), .int a2, .int 1]) (rest := [.int (256 * (a1 - 8)), .ref qf102, .int (6000 * (a1 - 8))]) ⟨hx, hb, hml, hown, hts⟩ (tm_kindText l dC dI H.size h0 zs ((a1 - 8)) a2 1 qf100 qf107 qf109 cf107 f107 cf100 f100 cf109 f109 nf u1_0 hlen hf100 hf107 hf109 hu_1) (cwV 3 hts gv_h9_57 rfl rfl rfl (by decide +kernel) ⟨Nat.le_of_ble_eq_true rfl, Nat.le_of_ble_eq_true rfl⟩) ⟨fun a U g mk q => by obtain ⟨q0, q1, qP, qK, qD⟩ := q; exact ⟨q0, q1, qP, va_K.moved (u := U) (U := U.calling g mk a) (Vm.Alike.refl U.vm) qK, qD⟩, va_recv hKc hPc (ci := 13) (q0 := 0) rfl rfl, fun U hU hW => ⟨rfl, by rw [hU], by rw [hU]; exact hPc, va_K.moved hW.alike hKc, hDc.weaken (fun _ _ _ _ => trivial)⟩⟩ rfl rfl hl.1 rfl (lv_room (Nat.le_of_ble_eq_true rfl)) dX13_start_58 ⟨Nat.le_of_ble_eq_true rfl, Nat.le_of_ble_eq_true rfl⟩) hS (fun q _ h => hFc q h) hFc ?_
            clear hS
            intro r_7 u t H1 locs ht hvm hw hB hz1 hk1 hS
            obtain ⟨z_1, rfl⟩ : ∃ z, z = u := ⟨_, rfl⟩
            obtain ⟨hP1, hK1, hD1⟩ := hB
            rw [ht] at hP1
            have hK1 := va_K.moved hvm.symm hK1
            try dsimp only at hw
            have hPD := va_join (wr := [(qf108, .inl (cf108, 8, .inl f108)), (qf102, .inl (cf102, 2048, .inl f102)), (qf150, .inl (cf150, 60, .inl f150)), (qf151, .inl (cf151, 60, .inl f151)), (qf152, .inl (cf152, 60, .inl f152)), (qf153, .inl (cf153, 60, .inl f153)), (qf154, .inl (cf154, 3600, .inl f154))]) (w1 := [(h0, .inr (13, z_1)), (qf107, .inl (cf107, 96, .inl f107)), (qf100, .inl (cf100, 48000, .inl f100)), (qf109, .inl (cf109, 96, .inl f109))]) hP hD [0, 2, 3, 4] [1, 5, 6, 7, 8, 9, 10] rfl rfl (by decide) (by decide) hk1 hFc hP1 hD1
            clear hP hD
            obtain ⟨hP, hD⟩ := hPD
            replace hK := (hK.sub (tys' := [(cf108, .int), (cf102, .int), (cf150, .int), (cf151, .int), (cf152, .int), (cf153, .int), (cf154, .int)]) [0, 4, 5, 6, 7, 8, 9] rfl).app hK1
            clear hPc hDc hKc hFc hP1 hK1 hD1 hz1 hk1 ht hvm
            generalize H1 = H at hP hS ⊢
            replace hP : va_P (dC, dI) vwCl [(qf108, .inl (cf108, 8, .inl f108)), (qf102, .inl (cf102, 2048, .inl f102)), (qf150, .inl (cf150, 60, .inl f150)), (qf151, .inl (cf151, 60, .inl f151)), (qf152, .inl (cf152, 60, .inl f152)), (qf153, .inl (cf153, 60, .inl f153)), (qf154, .inl (cf154, 3600, .inl f154)), (h0, .inr (13, z_1)), (qf107, .inl (cf107, 96, .inl f107)), (qf100, .inl (cf100, 48000, .inl f100)), (qf109, .inl (cf109, 96, .inl f109))] H := hP
            replace hD : va_D A [(qf108, .inl (cf108, 8, .inl f108)), (qf102, .inl (cf102, 2048, .inl f102)), (qf150, .inl (cf150, 60, .inl f150)), (qf151, .inl (cf151, 60, .inl f151)), (qf152, .inl (cf152, 60, .inl f152)), (qf153, .inl (cf153, 60, .inl f153)), (qf154, .inl (cf154, 3600, .inl f154)), (h0, .inr (13, z_1)), (qf107, .inl (cf107, 96, .inl f107)), (qf100, .inl (cf100, 48000, .inl f100)), (qf109, .inl (cf109, 96, .inl f109))] := hD
            replace hK : va_K (dC, dI) vwCl [(cf108, .int), (cf102, .int), (cf150, .int), (cf151, .int), (cf152, .int), (cf153, .int), (cf154, .int), (cf107, .int), (cf100, .int), (cf109, .int)] s := hK
            obtain ⟨hwa_1, hln_1, hre_1⟩ := hw
            have hfk_1_98 : z_1[98]? = some (.int v98) := (hre_1 98 ).trans (hf98)
            have hfk_1_99 : z_1[99]? = some (.int v99) := (hre_1 99 ).trans (hf99)
            have hfk_1_100 : z_1[100]? = some (.ref qf100) := (hre_1 100 ).trans (hf100)
            have hfk_1_102 : z_1[102]? = some (.ref qf102) := (hre_1 102 ).trans (hf102)
            have hfk_1_107 : z_1[107]? = some (.ref qf107) := (hre_1 107 ).trans (hf107)
            have hfk_1_108 : z_1[108]? = some (.ref qf108) := (hre_1 108 ).trans (hf108)
            have hfk_1_109 : z_1[109]? = some (.ref qf109) := (hre_1 109 ).trans (hf109)
            have hfk_1_138 : z_1[138]? = some (.int v138) := (hre_1 138 ).trans (hf138)
            have hfk_1_139 : z_1[139]? = some (.int v139) := (hre_1 139 ).trans (hf139)
            have hfk_1_140 : z_1[140]? = some (.int v140) := (hre_1 140 ).trans (hf140)
            have hfk_1_141 : z_1[141]? = some (.int v141) := (hre_1 141 ).trans (hf141)
            have hfk_1_142 : z_1[142]? = some (.int v142) := (hre_1 142 ).trans (hf142)
            have hfk_1_143 : z_1[143]? = some (.int v143) := (hre_1 143 ).trans (hf143)
            have hfk_1_149 : z_1[149]? = some (.int v149) := (hre_1 149 ).trans (hf149)
            have hfk_1_150 : z_1[150]? = some (.ref qf150) := (hre_1 150 ).trans (hf150)
            have hfk_1_151 : z_1[151]? = some (.ref qf151) := (hre_1 151 ).trans (hf151)
            have hfk_1_152 : z_1[152]? = some (.ref qf152) := (hre_1 152 ).trans (hf152)
            have hfk_1_153 : z_1[153]? = some (.ref qf153) := (hre_1 153 ).trans (hf153)
            have hfk_1_154 : z_1[154]? = some (.ref qf154) := (hre_1 154 ).trans (hf154)
            have hrq_1 : ∀ j : Nat, j ≠ 138 → j ≠ 139 → j ≠ 140 → j ≠ 141 → j ≠ 142 → j ≠ 143 → j ≠ 149 → z_1[j]? = zs[j]? := fun j g138 g139 g140 g141 g142 g143 g149 => (hre_1 j ).trans (hrs0 j g138 g139 g140 g141 g142 g143 g149)
            obtain rfl := hwa_1
            refine lv_iadd hx hb dX13_start_61 ?_
            obtain ⟨hi_8, hsp⟩ := ox_in hsp
            refine va_iald hx hb hK hP 1 1 rfl rfl (i := ((256 * (a1 - 8)) + u1_0)) hi_8 dX13_start_62 ?_
            refine lv_iadd hx hb dX13_start_63 ?_
            refine lv_iconst (v := 2) hx hb dX13_start_64 (by decide) ?_
            refine lv_iadd hx hb dX13_start_65 ?_
            refine lv_istore (lv' := [(4, .int (((6000 * (a1 - 8)) + (f102 (((256 * (a1 - 8)) + u1_0) : Int32).toNatClampNeg)) + 2)), (3, .int (a1 - 8)), (0, .ref h0), (1, .int a1), (2, .int a2)]) hx hb dX13_start_66 hl (by decide) rfl (fun ls hl => ?_)
            refine lv_aload_n hx hb dX13_start_68 rfl (lv_at hl 2 rfl) ?_
            refine lv_iload_n hx hb dX13_start_69 rfl (lv_at hl 1 rfl) ?_
            refine lv_aload_n hx hb dX13_start_70 rfl (lv_at hl 2 rfl) ?_
            refine va_get (D := (dC, dI)) (ci := 13) (v := .ref qf109) (C := RX13) (T := TX13) (N := 155) hx hb hts uV_h9_X13 hown hK hP 7 rfl rfl 109 (by decide) (hts (.fieldLink RX13 236 "ClassMillModel" "methodAt" "[I") mw_h9_282) (fun _ h9 => h9) hfk_1_109 dX13_start_71 ?_
            refine lv_bipush (v := 12) hx hb dX13_start_74 (by decide) ?_
            refine lv_iload_n hx hb dX13_start_76 rfl (lv_at hl 1 rfl) ?_
            refine lv_imul hx hb dX13_start_77 ?_
            refine lv_iload_n hx hb dX13_start_78 rfl (lv_at hl 4 rfl) ?_
            refine lv_iadd hx hb dX13_start_79 ?_
            obtain ⟨hi_9, hsp⟩ := ox_in hsp
            refine va_iald hx hb hK hP 10 9 rfl rfl (i := ((12 * (a1 - 8)) + a2)) hi_9 dX13_start_80 ?_
            obtain ⟨u2_0, hu_2, hsp⟩ := ox_bind hsp
            try dsimp only at hsp
            have hPc := hP.sub (ws' := [(h0, .inr (13, z_1)), (qf100, .inl (cf100, 48000, .inl f100))]) [7, 9] rfl
            have hDc := hD.sub (ws' := [(h0, .inr (13, z_1)), (qf100, .inl (cf100, 48000, .inl f100))]) [7, 9] (by decide) rfl
            have hKc := hK.sub (tys' := [(cf100, .int)]) [8] rfl
            have hFc := va_free (wc := [(h0, .inr (13, z_1)), (qf100, .inl (cf100, 48000, .inl f100))]) hD hS hA [7, 9] rfl
            refine va_calli (va_runV (As := [.int (a1 - 8), .int (f109 (((12 * (a1 - 8)) + a2) : Int32).toNatClampNeg)]) (rest := []) ⟨hx, hb, hml, hown, hts⟩ (tm_byteAt l dC dI H.size h0 z_1 ((a1 - 8)) ((f109 (((12 * (a1 - 8)) + a2) : Int32).toNatClampNeg)) qf100 cf100 f100 nf u2_0 hln_1 hfk_1_100 hu_2) (cwV 2 hts gv_h9_58 rfl rfl rfl (by decide +kernel) ⟨Nat.le_of_ble_eq_true rfl, Nat.le_of_ble_eq_true rfl⟩) ⟨fun a U g mk q => by obtain ⟨q0, q1, qP, qK, qD⟩ := q; exact ⟨q0, q1, qP, va_K.moved (u := U) (U := U.calling g mk a) (Vm.Alike.refl U.vm) qK, qD⟩, va_recv hKc hPc (ci := 13) (q0 := 0) rfl rfl, fun U hU hW => ⟨rfl, by rw [hU], by rw [hU]; exact hPc, va_K.moved hW.alike hKc, hDc.weaken (fun _ _ _ _ => trivial)⟩⟩ rfl rfl hl.1 rfl (lv_room (Nat.le_of_ble_eq_true rfl)) dX13_start_81 ⟨Nat.le_of_ble_eq_true rfl, Nat.le_of_ble_eq_true rfl⟩) hS (fun q _ h => hFc q h) hFc ?_
            clear hS
            intro r_10 u t H1 locs ht hvm hw hB hz1 hk1 hS
            obtain ⟨z_2, rfl⟩ : ∃ z, z = u := ⟨_, rfl⟩
            obtain ⟨hP1, hK1, hD1⟩ := hB
            rw [ht] at hP1
            have hK1 := va_K.moved hvm.symm hK1
            try dsimp only at hw
            have hPD := va_join (wr := [(qf108, .inl (cf108, 8, .inl f108)), (qf102, .inl (cf102, 2048, .inl f102)), (qf150, .inl (cf150, 60, .inl f150)), (qf151, .inl (cf151, 60, .inl f151)), (qf152, .inl (cf152, 60, .inl f152)), (qf153, .inl (cf153, 60, .inl f153)), (qf154, .inl (cf154, 3600, .inl f154)), (qf107, .inl (cf107, 96, .inl f107)), (qf109, .inl (cf109, 96, .inl f109))]) (w1 := [(h0, .inr (13, z_2)), (qf100, .inl (cf100, 48000, .inl f100))]) hP hD [7, 9] [0, 1, 2, 3, 4, 5, 6, 8, 10] rfl rfl (by decide) (by decide) hk1 hFc hP1 hD1
            clear hP hD
            obtain ⟨hP, hD⟩ := hPD
            replace hK := (hK.sub (tys' := [(cf108, .int), (cf102, .int), (cf150, .int), (cf151, .int), (cf152, .int), (cf153, .int), (cf154, .int), (cf107, .int), (cf109, .int)]) [0, 1, 2, 3, 4, 5, 6, 7, 9] rfl).app hK1
            clear hPc hDc hKc hFc hP1 hK1 hD1 hz1 hk1 ht hvm
            generalize H1 = H at hP hS ⊢
            replace hP : va_P (dC, dI) vwCl [(qf108, .inl (cf108, 8, .inl f108)), (qf102, .inl (cf102, 2048, .inl f102)), (qf150, .inl (cf150, 60, .inl f150)), (qf151, .inl (cf151, 60, .inl f151)), (qf152, .inl (cf152, 60, .inl f152)), (qf153, .inl (cf153, 60, .inl f153)), (qf154, .inl (cf154, 3600, .inl f154)), (qf107, .inl (cf107, 96, .inl f107)), (qf109, .inl (cf109, 96, .inl f109)), (h0, .inr (13, z_2)), (qf100, .inl (cf100, 48000, .inl f100))] H := hP
            replace hD : va_D A [(qf108, .inl (cf108, 8, .inl f108)), (qf102, .inl (cf102, 2048, .inl f102)), (qf150, .inl (cf150, 60, .inl f150)), (qf151, .inl (cf151, 60, .inl f151)), (qf152, .inl (cf152, 60, .inl f152)), (qf153, .inl (cf153, 60, .inl f153)), (qf154, .inl (cf154, 3600, .inl f154)), (qf107, .inl (cf107, 96, .inl f107)), (qf109, .inl (cf109, 96, .inl f109)), (h0, .inr (13, z_2)), (qf100, .inl (cf100, 48000, .inl f100))] := hD
            replace hK : va_K (dC, dI) vwCl [(cf108, .int), (cf102, .int), (cf150, .int), (cf151, .int), (cf152, .int), (cf153, .int), (cf154, .int), (cf107, .int), (cf109, .int), (cf100, .int)] s := hK
            obtain ⟨hwa_2, hln_2, hre_2⟩ := hw
            have hfk_2_98 : z_2[98]? = some (.int v98) := (hre_2 98 ).trans (hfk_1_98)
            have hfk_2_99 : z_2[99]? = some (.int v99) := (hre_2 99 ).trans (hfk_1_99)
            have hfk_2_100 : z_2[100]? = some (.ref qf100) := (hre_2 100 ).trans (hfk_1_100)
            have hfk_2_102 : z_2[102]? = some (.ref qf102) := (hre_2 102 ).trans (hfk_1_102)
            have hfk_2_107 : z_2[107]? = some (.ref qf107) := (hre_2 107 ).trans (hfk_1_107)
            have hfk_2_108 : z_2[108]? = some (.ref qf108) := (hre_2 108 ).trans (hfk_1_108)
            have hfk_2_109 : z_2[109]? = some (.ref qf109) := (hre_2 109 ).trans (hfk_1_109)
            have hfk_2_138 : z_2[138]? = some (.int v138) := (hre_2 138 ).trans (hfk_1_138)
            have hfk_2_139 : z_2[139]? = some (.int v139) := (hre_2 139 ).trans (hfk_1_139)
            have hfk_2_140 : z_2[140]? = some (.int v140) := (hre_2 140 ).trans (hfk_1_140)
            have hfk_2_141 : z_2[141]? = some (.int v141) := (hre_2 141 ).trans (hfk_1_141)
            have hfk_2_142 : z_2[142]? = some (.int v142) := (hre_2 142 ).trans (hfk_1_142)
            have hfk_2_143 : z_2[143]? = some (.int v143) := (hre_2 143 ).trans (hfk_1_143)
            have hfk_2_149 : z_2[149]? = some (.int v149) := (hre_2 149 ).trans (hfk_1_149)
            have hfk_2_150 : z_2[150]? = some (.ref qf150) := (hre_2 150 ).trans (hfk_1_150)
            have hfk_2_151 : z_2[151]? = some (.ref qf151) := (hre_2 151 ).trans (hfk_1_151)
            have hfk_2_152 : z_2[152]? = some (.ref qf152) := (hre_2 152 ).trans (hfk_1_152)
            have hfk_2_153 : z_2[153]? = some (.ref qf153) := (hre_2 153 ).trans (hfk_1_153)
            have hfk_2_154 : z_2[154]? = some (.ref qf154) := (hre_2 154 ).trans (hfk_1_154)
            have hrq_2 : ∀ j : Nat, j ≠ 138 → j ≠ 139 → j ≠ 140 → j ≠ 141 → j ≠ 142 → j ≠ 143 → j ≠ 149 → z_2[j]? = zs[j]? := fun j g138 g139 g140 g141 g142 g143 g149 => (hre_2 j ).trans (hrq_1 j g138 g139 g140 g141 g142 g143 g149)
            obtain rfl := hwa_2
            refine lv_if_eq (tgt := 101) hx hb dX13_start_84 (by decide) (fun c_11 => ?_) (fun c_11 => ?_)
            · rw [if_pos c_11] at hsp
              refine lv_iconst (v := 0) hx hb dX13_start_101 (by decide) ?_
              have hr0 := Option.some.inj hsp
              clear hsp
              obtain ⟨hq0, hr1⟩ := Prod.mk.inj hr0
              clear hr0
              obtain ⟨hq1, hr2⟩ := Prod.mk.inj hr1
              clear hr1
              obtain ⟨hq2, hr3⟩ := Prod.mk.inj hr2
              clear hr2
              obtain ⟨hq3, hr4⟩ := Prod.mk.inj hr3
              clear hr3
              obtain ⟨hq4, hr5⟩ := Prod.mk.inj hr4
              clear hr4
              obtain ⟨hq5, hr6⟩ := Prod.mk.inj hr5
              clear hr5
              obtain ⟨hq6, hr7⟩ := Prod.mk.inj hr6
              clear hr6
              obtain ⟨hq7, hr8⟩ := Prod.mk.inj hr7
              clear hr7
              obtain ⟨hq8, hr9⟩ := Prod.mk.inj hr8
              clear hr8
              obtain ⟨hq9, hr10⟩ := Prod.mk.inj hr9
              clear hr9
              obtain ⟨hq10, hr11⟩ := Prod.mk.inj hr10
              clear hr10
              obtain ⟨hq11, hr12⟩ := Prod.mk.inj hr11
              clear hr11
              subst hq0
              subst hq1
              subst hq2
              subst hq3
              subst hq4
              subst hq5
              subst hq6
              subst hq7
              subst hq8
              subst hq9
              subst hq10
              subst hq11
              subst hr12
              have hP9 := hP.sub (ws' := [(h0, .inr (13, z_2)), (qf108, .inl (cf108, 8, .inl f108)), (qf107, .inl (cf107, 96, .inl f107)), (qf100, .inl (cf100, 48000, .inl f100)), (qf109, .inl (cf109, 96, .inl f109)), (qf102, .inl (cf102, 2048, .inl f102)), (qf150, .inl (cf150, 60, .inl f150)), (qf151, .inl (cf151, 60, .inl f151)), (qf152, .inl (cf152, 60, .inl f152)), (qf153, .inl (cf153, 60, .inl f153)), (qf154, .inl (cf154, 3600, .inl f154))]) [9, 0, 7, 10, 8, 1, 2, 3, 4, 5, 6] rfl
              have hD9 := hD.sub (ws' := [(h0, .inr (13, z_2)), (qf108, .inl (cf108, 8, .inl f108)), (qf107, .inl (cf107, 96, .inl f107)), (qf100, .inl (cf100, 48000, .inl f100)), (qf109, .inl (cf109, 96, .inl f109)), (qf102, .inl (cf102, 2048, .inl f102)), (qf150, .inl (cf150, 60, .inl f150)), (qf151, .inl (cf151, 60, .inl f151)), (qf152, .inl (cf152, 60, .inl f152)), (qf153, .inl (cf153, 60, .inl f153)), (qf154, .inl (cf154, 3600, .inl f154))]) [9, 0, 7, 10, 8, 1, 2, 3, 4, 5, 6] (by decide) rfl
              have hK9 := hK.sub (tys' := [(cf108, .int), (cf107, .int), (cf100, .int), (cf109, .int), (cf102, .int), (cf150, .int), (cf151, .int), (cf152, .int), (cf153, .int), (cf154, .int)]) [0, 7, 9, 8, 1, 2, 3, 4, 5, 6] rfl
              exact W.zret hx hb hr (by decide) (fun t ht hW => ⟨⟨(0), (z_2), rfl, ⟨⟨rfl, Or.inl rfl⟩, hln_2, hrq_2, hfk_2_138, hfk_2_139, hfk_2_140, hfk_2_141, hfk_2_142, hfk_2_143, hfk_2_149⟩, by rw [ht]; exact hP9, va_K.moved hW.alike hK9, hD9⟩, hS.F ht⟩) hS.2.2 dX13_start_102
            · rw [if_neg c_11] at hsp
              refine lv_aload_n hx hb dX13_start_87 rfl (lv_at hl 2 rfl) ?_
              refine va_get (D := (dC, dI)) (ci := 13) (v := .ref qf100) (C := RX13) (T := TX13) (N := 155) hx hb hts uV_h9_X13 hown hK hP 9 rfl rfl 100 (by decide) (hts (.fieldLink RX13 209 "ClassMillModel" "bytes" "[I") mw_h9_266) (fun _ h9 => h9) hfk_2_100 dX13_start_88 ?_
              refine lv_iload hx hb dX13_start_91 (lv_at hl 0 rfl) ?_
              refine lv_iconst (v := 1) hx hb dX13_start_93 (by decide) ?_
              refine lv_iadd hx hb dX13_start_94 ?_
              obtain ⟨hi_12, hsp⟩ := ox_in hsp
              refine va_iald hx hb hK hP 10 9 rfl rfl (i := ((((6000 * (a1 - 8)) + (f102 (((256 * (a1 - 8)) + u1_0) : Int32).toNatClampNeg)) + 2) + 1)) hi_12 dX13_start_95 ?_
              refine lv_bipush (v := 41) hx hb dX13_start_96 (by decide) ?_
              refine lv_icmp_eq (tgt := 103) hx hb dX13_start_98 (by decide) (fun c_13 => ?_) (fun c_13 => ?_)
              · rw [if_pos c_13] at hsp
                refine lv_aload_n hx hb dX13_start_103 rfl (lv_at hl 2 rfl) ?_
                refine lv_iconst (v := 1) hx hb dX13_start_104 (by decide) ?_
                refine va_put (D := (dC, dI)) (ci := 13) (v := .int 1) (ty := .int) (C := RX13) (T := TX13) (N := 155) hx hb hts uV_h9_X13 tyX13 tyX13_ok nmX13 hown hK hP hD hS 9 rfl rfl 138 (by decide) (hts (.fieldLink RX13 858 "ClassMillModel" "state" "I") mw_h9_364) (fun _ h9 => h9) rfl (by decide +kernel) rfl rfl (by rw [hln_2]; decide) dX13_start_105 ?_
                clear hP hD hS
                intro H locs hP hD hS
                obtain ⟨fs_14, efs_14⟩ : ∃ zf : List Value, zf = z_2.set 138 (.int 1) := ⟨_, rfl⟩
                rw [← efs_14] at hP hD
                have hlfs_14 : fs_14.length = 155 := by rw [efs_14, List.length_set]; exact hln_2
                have hfs_14_98 : fs_14[98]? = some (.int v98) := by rw [efs_14, List.getElem?_set_ne (by decide)]; exact hfk_2_98
                have hfs_14_99 : fs_14[99]? = some (.int v99) := by rw [efs_14, List.getElem?_set_ne (by decide)]; exact hfk_2_99
                have hfs_14_100 : fs_14[100]? = some (.ref qf100) := by rw [efs_14, List.getElem?_set_ne (by decide)]; exact hfk_2_100
                have hfs_14_102 : fs_14[102]? = some (.ref qf102) := by rw [efs_14, List.getElem?_set_ne (by decide)]; exact hfk_2_102
                have hfs_14_107 : fs_14[107]? = some (.ref qf107) := by rw [efs_14, List.getElem?_set_ne (by decide)]; exact hfk_2_107
                have hfs_14_108 : fs_14[108]? = some (.ref qf108) := by rw [efs_14, List.getElem?_set_ne (by decide)]; exact hfk_2_108
                have hfs_14_109 : fs_14[109]? = some (.ref qf109) := by rw [efs_14, List.getElem?_set_ne (by decide)]; exact hfk_2_109
                have hfs_14_139 : fs_14[139]? = some (.int v139) := by rw [efs_14, List.getElem?_set_ne (by decide)]; exact hfk_2_139
                have hfs_14_140 : fs_14[140]? = some (.int v140) := by rw [efs_14, List.getElem?_set_ne (by decide)]; exact hfk_2_140
                have hfs_14_141 : fs_14[141]? = some (.int v141) := by rw [efs_14, List.getElem?_set_ne (by decide)]; exact hfk_2_141
                have hfs_14_142 : fs_14[142]? = some (.int v142) := by rw [efs_14, List.getElem?_set_ne (by decide)]; exact hfk_2_142
                have hfs_14_143 : fs_14[143]? = some (.int v143) := by rw [efs_14, List.getElem?_set_ne (by decide)]; exact hfk_2_143
                have hfs_14_149 : fs_14[149]? = some (.int v149) := by rw [efs_14, List.getElem?_set_ne (by decide)]; exact hfk_2_149
                have hfs_14_150 : fs_14[150]? = some (.ref qf150) := by rw [efs_14, List.getElem?_set_ne (by decide)]; exact hfk_2_150
                have hfs_14_151 : fs_14[151]? = some (.ref qf151) := by rw [efs_14, List.getElem?_set_ne (by decide)]; exact hfk_2_151
                have hfs_14_152 : fs_14[152]? = some (.ref qf152) := by rw [efs_14, List.getElem?_set_ne (by decide)]; exact hfk_2_152
                have hfs_14_153 : fs_14[153]? = some (.ref qf153) := by rw [efs_14, List.getElem?_set_ne (by decide)]; exact hfk_2_153
                have hfs_14_154 : fs_14[154]? = some (.ref qf154) := by rw [efs_14, List.getElem?_set_ne (by decide)]; exact hfk_2_154
                have hfs_14_138 : fs_14[138]? = some (.int 1) := by rw [efs_14, List.getElem?_set_self (by rw [hln_2]; decide)]
                replace hP : va_P (dC, dI) vwCl [(qf108, .inl (cf108, 8, .inl f108)), (qf102, .inl (cf102, 2048, .inl f102)), (qf150, .inl (cf150, 60, .inl f150)), (qf151, .inl (cf151, 60, .inl f151)), (qf152, .inl (cf152, 60, .inl f152)), (qf153, .inl (cf153, 60, .inl f153)), (qf154, .inl (cf154, 3600, .inl f154)), (qf107, .inl (cf107, 96, .inl f107)), (qf109, .inl (cf109, 96, .inl f109)), (h0, .inr (13, fs_14)), (qf100, .inl (cf100, 48000, .inl f100))] H := hP
                replace hD : va_D A [(qf108, .inl (cf108, 8, .inl f108)), (qf102, .inl (cf102, 2048, .inl f102)), (qf150, .inl (cf150, 60, .inl f150)), (qf151, .inl (cf151, 60, .inl f151)), (qf152, .inl (cf152, 60, .inl f152)), (qf153, .inl (cf153, 60, .inl f153)), (qf154, .inl (cf154, 3600, .inl f154)), (qf107, .inl (cf107, 96, .inl f107)), (qf109, .inl (cf109, 96, .inl f109)), (h0, .inr (13, fs_14)), (qf100, .inl (cf100, 48000, .inl f100))] := hD
                have hrs_15 : ∀ j : Nat, j ≠ 138 → j ≠ 139 → j ≠ 140 → j ≠ 141 → j ≠ 142 → j ≠ 143 → j ≠ 149 → fs_14[j]? = zs[j]? := fun j g138 g139 g140 g141 g142 g143 g149 => ((congrArg (fun z : List Value => z[j]?) efs_14).trans (List.getElem?_set_ne (Ne.symm g138))).trans (hrq_2 j g138 g139 g140 g141 g142 g143 g149)
                refine lv_aload_n hx hb dX13_start_108 rfl (lv_at hl 2 rfl) ?_
                refine lv_iconst (v := (-1)) hx hb dX13_start_109 (by decide) ?_
                refine va_put (D := (dC, dI)) (ci := 13) (v := .int (-1)) (ty := .int) (C := RX13) (T := TX13) (N := 155) hx hb hts uV_h9_X13 tyX13 tyX13_ok nmX13 hown hK hP hD hS 9 rfl rfl 139 (by decide) (hts (.fieldLink RX13 1043 "ClassMillModel" "gave" "I") mw_h9_365) (fun _ h9 => h9) rfl (by decide +kernel) rfl rfl (by rw [hlfs_14]; decide) dX13_start_110 ?_
                clear hP hD hS
                intro H locs hP hD hS
                obtain ⟨fs_16, efs_16⟩ : ∃ zf : List Value, zf = fs_14.set 139 (.int (-1)) := ⟨_, rfl⟩
                rw [← efs_16] at hP hD
                have hlfs_16 : fs_16.length = 155 := by rw [efs_16, List.length_set]; exact hlfs_14
                have hfs_16_98 : fs_16[98]? = some (.int v98) := by rw [efs_16, List.getElem?_set_ne (by decide)]; exact hfs_14_98
                have hfs_16_99 : fs_16[99]? = some (.int v99) := by rw [efs_16, List.getElem?_set_ne (by decide)]; exact hfs_14_99
                have hfs_16_100 : fs_16[100]? = some (.ref qf100) := by rw [efs_16, List.getElem?_set_ne (by decide)]; exact hfs_14_100
                have hfs_16_102 : fs_16[102]? = some (.ref qf102) := by rw [efs_16, List.getElem?_set_ne (by decide)]; exact hfs_14_102
                have hfs_16_107 : fs_16[107]? = some (.ref qf107) := by rw [efs_16, List.getElem?_set_ne (by decide)]; exact hfs_14_107
                have hfs_16_108 : fs_16[108]? = some (.ref qf108) := by rw [efs_16, List.getElem?_set_ne (by decide)]; exact hfs_14_108
                have hfs_16_109 : fs_16[109]? = some (.ref qf109) := by rw [efs_16, List.getElem?_set_ne (by decide)]; exact hfs_14_109
                have hfs_16_140 : fs_16[140]? = some (.int v140) := by rw [efs_16, List.getElem?_set_ne (by decide)]; exact hfs_14_140
                have hfs_16_141 : fs_16[141]? = some (.int v141) := by rw [efs_16, List.getElem?_set_ne (by decide)]; exact hfs_14_141
                have hfs_16_142 : fs_16[142]? = some (.int v142) := by rw [efs_16, List.getElem?_set_ne (by decide)]; exact hfs_14_142
                have hfs_16_143 : fs_16[143]? = some (.int v143) := by rw [efs_16, List.getElem?_set_ne (by decide)]; exact hfs_14_143
                have hfs_16_149 : fs_16[149]? = some (.int v149) := by rw [efs_16, List.getElem?_set_ne (by decide)]; exact hfs_14_149
                have hfs_16_150 : fs_16[150]? = some (.ref qf150) := by rw [efs_16, List.getElem?_set_ne (by decide)]; exact hfs_14_150
                have hfs_16_151 : fs_16[151]? = some (.ref qf151) := by rw [efs_16, List.getElem?_set_ne (by decide)]; exact hfs_14_151
                have hfs_16_152 : fs_16[152]? = some (.ref qf152) := by rw [efs_16, List.getElem?_set_ne (by decide)]; exact hfs_14_152
                have hfs_16_153 : fs_16[153]? = some (.ref qf153) := by rw [efs_16, List.getElem?_set_ne (by decide)]; exact hfs_14_153
                have hfs_16_154 : fs_16[154]? = some (.ref qf154) := by rw [efs_16, List.getElem?_set_ne (by decide)]; exact hfs_14_154
                have hfs_16_138 : fs_16[138]? = some (.int 1) := by rw [efs_16, List.getElem?_set_ne (by decide)]; exact hfs_14_138
                have hfs_16_139 : fs_16[139]? = some (.int (-1)) := by rw [efs_16, List.getElem?_set_self (by rw [hlfs_14]; decide)]
                replace hP : va_P (dC, dI) vwCl [(qf108, .inl (cf108, 8, .inl f108)), (qf102, .inl (cf102, 2048, .inl f102)), (qf150, .inl (cf150, 60, .inl f150)), (qf151, .inl (cf151, 60, .inl f151)), (qf152, .inl (cf152, 60, .inl f152)), (qf153, .inl (cf153, 60, .inl f153)), (qf154, .inl (cf154, 3600, .inl f154)), (qf107, .inl (cf107, 96, .inl f107)), (qf109, .inl (cf109, 96, .inl f109)), (h0, .inr (13, fs_16)), (qf100, .inl (cf100, 48000, .inl f100))] H := hP
                replace hD : va_D A [(qf108, .inl (cf108, 8, .inl f108)), (qf102, .inl (cf102, 2048, .inl f102)), (qf150, .inl (cf150, 60, .inl f150)), (qf151, .inl (cf151, 60, .inl f151)), (qf152, .inl (cf152, 60, .inl f152)), (qf153, .inl (cf153, 60, .inl f153)), (qf154, .inl (cf154, 3600, .inl f154)), (qf107, .inl (cf107, 96, .inl f107)), (qf109, .inl (cf109, 96, .inl f109)), (h0, .inr (13, fs_16)), (qf100, .inl (cf100, 48000, .inl f100))] := hD
                have hrs_17 : ∀ j : Nat, j ≠ 138 → j ≠ 139 → j ≠ 140 → j ≠ 141 → j ≠ 142 → j ≠ 143 → j ≠ 149 → fs_16[j]? = zs[j]? := fun j g138 g139 g140 g141 g142 g143 g149 => ((congrArg (fun z : List Value => z[j]?) efs_16).trans (List.getElem?_set_ne (Ne.symm g139))).trans (hrs_15 j g138 g139 g140 g141 g142 g143 g149)
                refine lv_aload_n hx hb dX13_start_113 rfl (lv_at hl 2 rfl) ?_
                refine lv_iconst (v := 0) hx hb dX13_start_114 (by decide) ?_
                refine va_put (D := (dC, dI)) (ci := 13) (v := .int 0) (ty := .int) (C := RX13) (T := TX13) (N := 155) hx hb hts uV_h9_X13 tyX13 tyX13_ok nmX13 hown hK hP hD hS 9 rfl rfl 140 (by decide) (hts (.fieldLink RX13 1046 "ClassMillModel" "steps" "I") mw_h9_366) (fun _ h9 => h9) rfl (by decide +kernel) rfl rfl (by rw [hlfs_16]; decide) dX13_start_115 ?_
                clear hP hD hS
                intro H locs hP hD hS
                obtain ⟨fs_18, efs_18⟩ : ∃ zf : List Value, zf = fs_16.set 140 (.int 0) := ⟨_, rfl⟩
                rw [← efs_18] at hP hD
                have hlfs_18 : fs_18.length = 155 := by rw [efs_18, List.length_set]; exact hlfs_16
                have hfs_18_98 : fs_18[98]? = some (.int v98) := by rw [efs_18, List.getElem?_set_ne (by decide)]; exact hfs_16_98
                have hfs_18_99 : fs_18[99]? = some (.int v99) := by rw [efs_18, List.getElem?_set_ne (by decide)]; exact hfs_16_99
                have hfs_18_100 : fs_18[100]? = some (.ref qf100) := by rw [efs_18, List.getElem?_set_ne (by decide)]; exact hfs_16_100
                have hfs_18_102 : fs_18[102]? = some (.ref qf102) := by rw [efs_18, List.getElem?_set_ne (by decide)]; exact hfs_16_102
                have hfs_18_107 : fs_18[107]? = some (.ref qf107) := by rw [efs_18, List.getElem?_set_ne (by decide)]; exact hfs_16_107
                have hfs_18_108 : fs_18[108]? = some (.ref qf108) := by rw [efs_18, List.getElem?_set_ne (by decide)]; exact hfs_16_108
                have hfs_18_109 : fs_18[109]? = some (.ref qf109) := by rw [efs_18, List.getElem?_set_ne (by decide)]; exact hfs_16_109
                have hfs_18_141 : fs_18[141]? = some (.int v141) := by rw [efs_18, List.getElem?_set_ne (by decide)]; exact hfs_16_141
                have hfs_18_142 : fs_18[142]? = some (.int v142) := by rw [efs_18, List.getElem?_set_ne (by decide)]; exact hfs_16_142
                have hfs_18_143 : fs_18[143]? = some (.int v143) := by rw [efs_18, List.getElem?_set_ne (by decide)]; exact hfs_16_143
                have hfs_18_149 : fs_18[149]? = some (.int v149) := by rw [efs_18, List.getElem?_set_ne (by decide)]; exact hfs_16_149
                have hfs_18_150 : fs_18[150]? = some (.ref qf150) := by rw [efs_18, List.getElem?_set_ne (by decide)]; exact hfs_16_150
                have hfs_18_151 : fs_18[151]? = some (.ref qf151) := by rw [efs_18, List.getElem?_set_ne (by decide)]; exact hfs_16_151
                have hfs_18_152 : fs_18[152]? = some (.ref qf152) := by rw [efs_18, List.getElem?_set_ne (by decide)]; exact hfs_16_152
                have hfs_18_153 : fs_18[153]? = some (.ref qf153) := by rw [efs_18, List.getElem?_set_ne (by decide)]; exact hfs_16_153
                have hfs_18_154 : fs_18[154]? = some (.ref qf154) := by rw [efs_18, List.getElem?_set_ne (by decide)]; exact hfs_16_154
                have hfs_18_138 : fs_18[138]? = some (.int 1) := by rw [efs_18, List.getElem?_set_ne (by decide)]; exact hfs_16_138
                have hfs_18_139 : fs_18[139]? = some (.int (-1)) := by rw [efs_18, List.getElem?_set_ne (by decide)]; exact hfs_16_139
                have hfs_18_140 : fs_18[140]? = some (.int 0) := by rw [efs_18, List.getElem?_set_self (by rw [hlfs_16]; decide)]
                replace hP : va_P (dC, dI) vwCl [(qf108, .inl (cf108, 8, .inl f108)), (qf102, .inl (cf102, 2048, .inl f102)), (qf150, .inl (cf150, 60, .inl f150)), (qf151, .inl (cf151, 60, .inl f151)), (qf152, .inl (cf152, 60, .inl f152)), (qf153, .inl (cf153, 60, .inl f153)), (qf154, .inl (cf154, 3600, .inl f154)), (qf107, .inl (cf107, 96, .inl f107)), (qf109, .inl (cf109, 96, .inl f109)), (h0, .inr (13, fs_18)), (qf100, .inl (cf100, 48000, .inl f100))] H := hP
                replace hD : va_D A [(qf108, .inl (cf108, 8, .inl f108)), (qf102, .inl (cf102, 2048, .inl f102)), (qf150, .inl (cf150, 60, .inl f150)), (qf151, .inl (cf151, 60, .inl f151)), (qf152, .inl (cf152, 60, .inl f152)), (qf153, .inl (cf153, 60, .inl f153)), (qf154, .inl (cf154, 3600, .inl f154)), (qf107, .inl (cf107, 96, .inl f107)), (qf109, .inl (cf109, 96, .inl f109)), (h0, .inr (13, fs_18)), (qf100, .inl (cf100, 48000, .inl f100))] := hD
                have hrs_19 : ∀ j : Nat, j ≠ 138 → j ≠ 139 → j ≠ 140 → j ≠ 141 → j ≠ 142 → j ≠ 143 → j ≠ 149 → fs_18[j]? = zs[j]? := fun j g138 g139 g140 g141 g142 g143 g149 => ((congrArg (fun z : List Value => z[j]?) efs_18).trans (List.getElem?_set_ne (Ne.symm g140))).trans (hrs_17 j g138 g139 g140 g141 g142 g143 g149)
                refine lv_aload_n hx hb dX13_start_118 rfl (lv_at hl 2 rfl) ?_
                refine lv_iconst (v := 0) hx hb dX13_start_119 (by decide) ?_
                refine va_put (D := (dC, dI)) (ci := 13) (v := .int 0) (ty := .int) (C := RX13) (T := TX13) (N := 155) hx hb hts uV_h9_X13 tyX13 tyX13_ok nmX13 hown hK hP hD hS 9 rfl rfl 141 (by decide) (hts (.fieldLink RX13 1049 "ClassMillModel" "objects" "I") mw_h9_367) (fun _ h9 => h9) rfl (by decide +kernel) rfl rfl (by rw [hlfs_18]; decide) dX13_start_120 ?_
                clear hP hD hS
                intro H locs hP hD hS
                obtain ⟨fs_20, efs_20⟩ : ∃ zf : List Value, zf = fs_18.set 141 (.int 0) := ⟨_, rfl⟩
                rw [← efs_20] at hP hD
                have hlfs_20 : fs_20.length = 155 := by rw [efs_20, List.length_set]; exact hlfs_18
                have hfs_20_98 : fs_20[98]? = some (.int v98) := by rw [efs_20, List.getElem?_set_ne (by decide)]; exact hfs_18_98
                have hfs_20_99 : fs_20[99]? = some (.int v99) := by rw [efs_20, List.getElem?_set_ne (by decide)]; exact hfs_18_99
                have hfs_20_100 : fs_20[100]? = some (.ref qf100) := by rw [efs_20, List.getElem?_set_ne (by decide)]; exact hfs_18_100
                have hfs_20_102 : fs_20[102]? = some (.ref qf102) := by rw [efs_20, List.getElem?_set_ne (by decide)]; exact hfs_18_102
                have hfs_20_107 : fs_20[107]? = some (.ref qf107) := by rw [efs_20, List.getElem?_set_ne (by decide)]; exact hfs_18_107
                have hfs_20_108 : fs_20[108]? = some (.ref qf108) := by rw [efs_20, List.getElem?_set_ne (by decide)]; exact hfs_18_108
                have hfs_20_109 : fs_20[109]? = some (.ref qf109) := by rw [efs_20, List.getElem?_set_ne (by decide)]; exact hfs_18_109
                have hfs_20_142 : fs_20[142]? = some (.int v142) := by rw [efs_20, List.getElem?_set_ne (by decide)]; exact hfs_18_142
                have hfs_20_143 : fs_20[143]? = some (.int v143) := by rw [efs_20, List.getElem?_set_ne (by decide)]; exact hfs_18_143
                have hfs_20_149 : fs_20[149]? = some (.int v149) := by rw [efs_20, List.getElem?_set_ne (by decide)]; exact hfs_18_149
                have hfs_20_150 : fs_20[150]? = some (.ref qf150) := by rw [efs_20, List.getElem?_set_ne (by decide)]; exact hfs_18_150
                have hfs_20_151 : fs_20[151]? = some (.ref qf151) := by rw [efs_20, List.getElem?_set_ne (by decide)]; exact hfs_18_151
                have hfs_20_152 : fs_20[152]? = some (.ref qf152) := by rw [efs_20, List.getElem?_set_ne (by decide)]; exact hfs_18_152
                have hfs_20_153 : fs_20[153]? = some (.ref qf153) := by rw [efs_20, List.getElem?_set_ne (by decide)]; exact hfs_18_153
                have hfs_20_154 : fs_20[154]? = some (.ref qf154) := by rw [efs_20, List.getElem?_set_ne (by decide)]; exact hfs_18_154
                have hfs_20_138 : fs_20[138]? = some (.int 1) := by rw [efs_20, List.getElem?_set_ne (by decide)]; exact hfs_18_138
                have hfs_20_139 : fs_20[139]? = some (.int (-1)) := by rw [efs_20, List.getElem?_set_ne (by decide)]; exact hfs_18_139
                have hfs_20_140 : fs_20[140]? = some (.int 0) := by rw [efs_20, List.getElem?_set_ne (by decide)]; exact hfs_18_140
                have hfs_20_141 : fs_20[141]? = some (.int 0) := by rw [efs_20, List.getElem?_set_self (by rw [hlfs_18]; decide)]
                replace hP : va_P (dC, dI) vwCl [(qf108, .inl (cf108, 8, .inl f108)), (qf102, .inl (cf102, 2048, .inl f102)), (qf150, .inl (cf150, 60, .inl f150)), (qf151, .inl (cf151, 60, .inl f151)), (qf152, .inl (cf152, 60, .inl f152)), (qf153, .inl (cf153, 60, .inl f153)), (qf154, .inl (cf154, 3600, .inl f154)), (qf107, .inl (cf107, 96, .inl f107)), (qf109, .inl (cf109, 96, .inl f109)), (h0, .inr (13, fs_20)), (qf100, .inl (cf100, 48000, .inl f100))] H := hP
                replace hD : va_D A [(qf108, .inl (cf108, 8, .inl f108)), (qf102, .inl (cf102, 2048, .inl f102)), (qf150, .inl (cf150, 60, .inl f150)), (qf151, .inl (cf151, 60, .inl f151)), (qf152, .inl (cf152, 60, .inl f152)), (qf153, .inl (cf153, 60, .inl f153)), (qf154, .inl (cf154, 3600, .inl f154)), (qf107, .inl (cf107, 96, .inl f107)), (qf109, .inl (cf109, 96, .inl f109)), (h0, .inr (13, fs_20)), (qf100, .inl (cf100, 48000, .inl f100))] := hD
                have hrs_21 : ∀ j : Nat, j ≠ 138 → j ≠ 139 → j ≠ 140 → j ≠ 141 → j ≠ 142 → j ≠ 143 → j ≠ 149 → fs_20[j]? = zs[j]? := fun j g138 g139 g140 g141 g142 g143 g149 => ((congrArg (fun z : List Value => z[j]?) efs_20).trans (List.getElem?_set_ne (Ne.symm g141))).trans (hrs_19 j g138 g139 g140 g141 g142 g143 g149)
                refine lv_aload_n hx hb dX13_start_123 rfl (lv_at hl 2 rfl) ?_
                refine lv_iconst (v := 0) hx hb dX13_start_124 (by decide) ?_
                refine va_put (D := (dC, dI)) (ci := 13) (v := .int 0) (ty := .int) (C := RX13) (T := TX13) (N := 155) hx hb hts uV_h9_X13 tyX13 tyX13_ok nmX13 hown hK hP hD hS 9 rfl rfl 142 (by decide) (hts (.fieldLink RX13 1052 "ClassMillModel" "fieldsMade" "I") mw_h9_368) (fun _ h9 => h9) rfl (by decide +kernel) rfl rfl (by rw [hlfs_20]; decide) dX13_start_125 ?_
                clear hP hD hS
                intro H locs hP hD hS
                obtain ⟨fs_22, efs_22⟩ : ∃ zf : List Value, zf = fs_20.set 142 (.int 0) := ⟨_, rfl⟩
                rw [← efs_22] at hP hD
                have hlfs_22 : fs_22.length = 155 := by rw [efs_22, List.length_set]; exact hlfs_20
                have hfs_22_98 : fs_22[98]? = some (.int v98) := by rw [efs_22, List.getElem?_set_ne (by decide)]; exact hfs_20_98
                have hfs_22_99 : fs_22[99]? = some (.int v99) := by rw [efs_22, List.getElem?_set_ne (by decide)]; exact hfs_20_99
                have hfs_22_100 : fs_22[100]? = some (.ref qf100) := by rw [efs_22, List.getElem?_set_ne (by decide)]; exact hfs_20_100
                have hfs_22_102 : fs_22[102]? = some (.ref qf102) := by rw [efs_22, List.getElem?_set_ne (by decide)]; exact hfs_20_102
                have hfs_22_107 : fs_22[107]? = some (.ref qf107) := by rw [efs_22, List.getElem?_set_ne (by decide)]; exact hfs_20_107
                have hfs_22_108 : fs_22[108]? = some (.ref qf108) := by rw [efs_22, List.getElem?_set_ne (by decide)]; exact hfs_20_108
                have hfs_22_109 : fs_22[109]? = some (.ref qf109) := by rw [efs_22, List.getElem?_set_ne (by decide)]; exact hfs_20_109
                have hfs_22_143 : fs_22[143]? = some (.int v143) := by rw [efs_22, List.getElem?_set_ne (by decide)]; exact hfs_20_143
                have hfs_22_149 : fs_22[149]? = some (.int v149) := by rw [efs_22, List.getElem?_set_ne (by decide)]; exact hfs_20_149
                have hfs_22_150 : fs_22[150]? = some (.ref qf150) := by rw [efs_22, List.getElem?_set_ne (by decide)]; exact hfs_20_150
                have hfs_22_151 : fs_22[151]? = some (.ref qf151) := by rw [efs_22, List.getElem?_set_ne (by decide)]; exact hfs_20_151
                have hfs_22_152 : fs_22[152]? = some (.ref qf152) := by rw [efs_22, List.getElem?_set_ne (by decide)]; exact hfs_20_152
                have hfs_22_153 : fs_22[153]? = some (.ref qf153) := by rw [efs_22, List.getElem?_set_ne (by decide)]; exact hfs_20_153
                have hfs_22_154 : fs_22[154]? = some (.ref qf154) := by rw [efs_22, List.getElem?_set_ne (by decide)]; exact hfs_20_154
                have hfs_22_138 : fs_22[138]? = some (.int 1) := by rw [efs_22, List.getElem?_set_ne (by decide)]; exact hfs_20_138
                have hfs_22_139 : fs_22[139]? = some (.int (-1)) := by rw [efs_22, List.getElem?_set_ne (by decide)]; exact hfs_20_139
                have hfs_22_140 : fs_22[140]? = some (.int 0) := by rw [efs_22, List.getElem?_set_ne (by decide)]; exact hfs_20_140
                have hfs_22_141 : fs_22[141]? = some (.int 0) := by rw [efs_22, List.getElem?_set_ne (by decide)]; exact hfs_20_141
                have hfs_22_142 : fs_22[142]? = some (.int 0) := by rw [efs_22, List.getElem?_set_self (by rw [hlfs_20]; decide)]
                replace hP : va_P (dC, dI) vwCl [(qf108, .inl (cf108, 8, .inl f108)), (qf102, .inl (cf102, 2048, .inl f102)), (qf150, .inl (cf150, 60, .inl f150)), (qf151, .inl (cf151, 60, .inl f151)), (qf152, .inl (cf152, 60, .inl f152)), (qf153, .inl (cf153, 60, .inl f153)), (qf154, .inl (cf154, 3600, .inl f154)), (qf107, .inl (cf107, 96, .inl f107)), (qf109, .inl (cf109, 96, .inl f109)), (h0, .inr (13, fs_22)), (qf100, .inl (cf100, 48000, .inl f100))] H := hP
                replace hD : va_D A [(qf108, .inl (cf108, 8, .inl f108)), (qf102, .inl (cf102, 2048, .inl f102)), (qf150, .inl (cf150, 60, .inl f150)), (qf151, .inl (cf151, 60, .inl f151)), (qf152, .inl (cf152, 60, .inl f152)), (qf153, .inl (cf153, 60, .inl f153)), (qf154, .inl (cf154, 3600, .inl f154)), (qf107, .inl (cf107, 96, .inl f107)), (qf109, .inl (cf109, 96, .inl f109)), (h0, .inr (13, fs_22)), (qf100, .inl (cf100, 48000, .inl f100))] := hD
                have hrs_23 : ∀ j : Nat, j ≠ 138 → j ≠ 139 → j ≠ 140 → j ≠ 141 → j ≠ 142 → j ≠ 143 → j ≠ 149 → fs_22[j]? = zs[j]? := fun j g138 g139 g140 g141 g142 g143 g149 => ((congrArg (fun z : List Value => z[j]?) efs_22).trans (List.getElem?_set_ne (Ne.symm g142))).trans (hrs_21 j g138 g139 g140 g141 g142 g143 g149)
                refine lv_aload_n hx hb dX13_start_128 rfl (lv_at hl 2 rfl) ?_
                refine lv_iconst (v := 0) hx hb dX13_start_129 (by decide) ?_
                refine va_put (D := (dC, dI)) (ci := 13) (v := .int 0) (ty := .int) (C := RX13) (T := TX13) (N := 155) hx hb hts uV_h9_X13 tyX13 tyX13_ok nmX13 hown hK hP hD hS 9 rfl rfl 143 (by decide) (hts (.fieldLink RX13 1055 "ClassMillModel" "printedMany" "I") mw_h9_369) (fun _ h9 => h9) rfl (by decide +kernel) rfl rfl (by rw [hlfs_22]; decide) dX13_start_130 ?_
                clear hP hD hS
                intro H locs hP hD hS
                obtain ⟨fs_24, efs_24⟩ : ∃ zf : List Value, zf = fs_22.set 143 (.int 0) := ⟨_, rfl⟩
                rw [← efs_24] at hP hD
                have hlfs_24 : fs_24.length = 155 := by rw [efs_24, List.length_set]; exact hlfs_22
                have hfs_24_98 : fs_24[98]? = some (.int v98) := by rw [efs_24, List.getElem?_set_ne (by decide)]; exact hfs_22_98
                have hfs_24_99 : fs_24[99]? = some (.int v99) := by rw [efs_24, List.getElem?_set_ne (by decide)]; exact hfs_22_99
                have hfs_24_100 : fs_24[100]? = some (.ref qf100) := by rw [efs_24, List.getElem?_set_ne (by decide)]; exact hfs_22_100
                have hfs_24_102 : fs_24[102]? = some (.ref qf102) := by rw [efs_24, List.getElem?_set_ne (by decide)]; exact hfs_22_102
                have hfs_24_107 : fs_24[107]? = some (.ref qf107) := by rw [efs_24, List.getElem?_set_ne (by decide)]; exact hfs_22_107
                have hfs_24_108 : fs_24[108]? = some (.ref qf108) := by rw [efs_24, List.getElem?_set_ne (by decide)]; exact hfs_22_108
                have hfs_24_109 : fs_24[109]? = some (.ref qf109) := by rw [efs_24, List.getElem?_set_ne (by decide)]; exact hfs_22_109
                have hfs_24_149 : fs_24[149]? = some (.int v149) := by rw [efs_24, List.getElem?_set_ne (by decide)]; exact hfs_22_149
                have hfs_24_150 : fs_24[150]? = some (.ref qf150) := by rw [efs_24, List.getElem?_set_ne (by decide)]; exact hfs_22_150
                have hfs_24_151 : fs_24[151]? = some (.ref qf151) := by rw [efs_24, List.getElem?_set_ne (by decide)]; exact hfs_22_151
                have hfs_24_152 : fs_24[152]? = some (.ref qf152) := by rw [efs_24, List.getElem?_set_ne (by decide)]; exact hfs_22_152
                have hfs_24_153 : fs_24[153]? = some (.ref qf153) := by rw [efs_24, List.getElem?_set_ne (by decide)]; exact hfs_22_153
                have hfs_24_154 : fs_24[154]? = some (.ref qf154) := by rw [efs_24, List.getElem?_set_ne (by decide)]; exact hfs_22_154
                have hfs_24_138 : fs_24[138]? = some (.int 1) := by rw [efs_24, List.getElem?_set_ne (by decide)]; exact hfs_22_138
                have hfs_24_139 : fs_24[139]? = some (.int (-1)) := by rw [efs_24, List.getElem?_set_ne (by decide)]; exact hfs_22_139
                have hfs_24_140 : fs_24[140]? = some (.int 0) := by rw [efs_24, List.getElem?_set_ne (by decide)]; exact hfs_22_140
                have hfs_24_141 : fs_24[141]? = some (.int 0) := by rw [efs_24, List.getElem?_set_ne (by decide)]; exact hfs_22_141
                have hfs_24_142 : fs_24[142]? = some (.int 0) := by rw [efs_24, List.getElem?_set_ne (by decide)]; exact hfs_22_142
                have hfs_24_143 : fs_24[143]? = some (.int 0) := by rw [efs_24, List.getElem?_set_self (by rw [hlfs_22]; decide)]
                replace hP : va_P (dC, dI) vwCl [(qf108, .inl (cf108, 8, .inl f108)), (qf102, .inl (cf102, 2048, .inl f102)), (qf150, .inl (cf150, 60, .inl f150)), (qf151, .inl (cf151, 60, .inl f151)), (qf152, .inl (cf152, 60, .inl f152)), (qf153, .inl (cf153, 60, .inl f153)), (qf154, .inl (cf154, 3600, .inl f154)), (qf107, .inl (cf107, 96, .inl f107)), (qf109, .inl (cf109, 96, .inl f109)), (h0, .inr (13, fs_24)), (qf100, .inl (cf100, 48000, .inl f100))] H := hP
                replace hD : va_D A [(qf108, .inl (cf108, 8, .inl f108)), (qf102, .inl (cf102, 2048, .inl f102)), (qf150, .inl (cf150, 60, .inl f150)), (qf151, .inl (cf151, 60, .inl f151)), (qf152, .inl (cf152, 60, .inl f152)), (qf153, .inl (cf153, 60, .inl f153)), (qf154, .inl (cf154, 3600, .inl f154)), (qf107, .inl (cf107, 96, .inl f107)), (qf109, .inl (cf109, 96, .inl f109)), (h0, .inr (13, fs_24)), (qf100, .inl (cf100, 48000, .inl f100))] := hD
                have hrs_25 : ∀ j : Nat, j ≠ 138 → j ≠ 139 → j ≠ 140 → j ≠ 141 → j ≠ 142 → j ≠ 143 → j ≠ 149 → fs_24[j]? = zs[j]? := fun j g138 g139 g140 g141 g142 g143 g149 => ((congrArg (fun z : List Value => z[j]?) efs_24).trans (List.getElem?_set_ne (Ne.symm g143))).trans (hrs_23 j g138 g139 g140 g141 g142 g143 g149)
                refine lv_aload_n hx hb dX13_start_133 rfl (lv_at hl 2 rfl) ?_
                refine lv_iconst (v := 0) hx hb dX13_start_134 (by decide) ?_
                refine va_put (D := (dC, dI)) (ci := 13) (v := .int 0) (ty := .int) (C := RX13) (T := TX13) (N := 155) hx hb hts uV_h9_X13 tyX13 tyX13_ok nmX13 hown hK hP hD hS 9 rfl rfl 149 (by decide) (hts (.fieldLink RX13 1058 "ClassMillModel" "depth" "I") mw_h9_370) (fun _ h9 => h9) rfl (by decide +kernel) rfl rfl (by rw [hlfs_24]; decide) dX13_start_135 ?_
                clear hP hD hS
                intro H locs hP hD hS
                obtain ⟨fs_26, efs_26⟩ : ∃ zf : List Value, zf = fs_24.set 149 (.int 0) := ⟨_, rfl⟩
                rw [← efs_26] at hP hD
                have hlfs_26 : fs_26.length = 155 := by rw [efs_26, List.length_set]; exact hlfs_24
                have hfs_26_98 : fs_26[98]? = some (.int v98) := by rw [efs_26, List.getElem?_set_ne (by decide)]; exact hfs_24_98
                have hfs_26_99 : fs_26[99]? = some (.int v99) := by rw [efs_26, List.getElem?_set_ne (by decide)]; exact hfs_24_99
                have hfs_26_100 : fs_26[100]? = some (.ref qf100) := by rw [efs_26, List.getElem?_set_ne (by decide)]; exact hfs_24_100
                have hfs_26_102 : fs_26[102]? = some (.ref qf102) := by rw [efs_26, List.getElem?_set_ne (by decide)]; exact hfs_24_102
                have hfs_26_107 : fs_26[107]? = some (.ref qf107) := by rw [efs_26, List.getElem?_set_ne (by decide)]; exact hfs_24_107
                have hfs_26_108 : fs_26[108]? = some (.ref qf108) := by rw [efs_26, List.getElem?_set_ne (by decide)]; exact hfs_24_108
                have hfs_26_109 : fs_26[109]? = some (.ref qf109) := by rw [efs_26, List.getElem?_set_ne (by decide)]; exact hfs_24_109
                have hfs_26_150 : fs_26[150]? = some (.ref qf150) := by rw [efs_26, List.getElem?_set_ne (by decide)]; exact hfs_24_150
                have hfs_26_151 : fs_26[151]? = some (.ref qf151) := by rw [efs_26, List.getElem?_set_ne (by decide)]; exact hfs_24_151
                have hfs_26_152 : fs_26[152]? = some (.ref qf152) := by rw [efs_26, List.getElem?_set_ne (by decide)]; exact hfs_24_152
                have hfs_26_153 : fs_26[153]? = some (.ref qf153) := by rw [efs_26, List.getElem?_set_ne (by decide)]; exact hfs_24_153
                have hfs_26_154 : fs_26[154]? = some (.ref qf154) := by rw [efs_26, List.getElem?_set_ne (by decide)]; exact hfs_24_154
                have hfs_26_138 : fs_26[138]? = some (.int 1) := by rw [efs_26, List.getElem?_set_ne (by decide)]; exact hfs_24_138
                have hfs_26_139 : fs_26[139]? = some (.int (-1)) := by rw [efs_26, List.getElem?_set_ne (by decide)]; exact hfs_24_139
                have hfs_26_140 : fs_26[140]? = some (.int 0) := by rw [efs_26, List.getElem?_set_ne (by decide)]; exact hfs_24_140
                have hfs_26_141 : fs_26[141]? = some (.int 0) := by rw [efs_26, List.getElem?_set_ne (by decide)]; exact hfs_24_141
                have hfs_26_142 : fs_26[142]? = some (.int 0) := by rw [efs_26, List.getElem?_set_ne (by decide)]; exact hfs_24_142
                have hfs_26_143 : fs_26[143]? = some (.int 0) := by rw [efs_26, List.getElem?_set_ne (by decide)]; exact hfs_24_143
                have hfs_26_149 : fs_26[149]? = some (.int 0) := by rw [efs_26, List.getElem?_set_self (by rw [hlfs_24]; decide)]
                replace hP : va_P (dC, dI) vwCl [(qf108, .inl (cf108, 8, .inl f108)), (qf102, .inl (cf102, 2048, .inl f102)), (qf150, .inl (cf150, 60, .inl f150)), (qf151, .inl (cf151, 60, .inl f151)), (qf152, .inl (cf152, 60, .inl f152)), (qf153, .inl (cf153, 60, .inl f153)), (qf154, .inl (cf154, 3600, .inl f154)), (qf107, .inl (cf107, 96, .inl f107)), (qf109, .inl (cf109, 96, .inl f109)), (h0, .inr (13, fs_26)), (qf100, .inl (cf100, 48000, .inl f100))] H := hP
                replace hD : va_D A [(qf108, .inl (cf108, 8, .inl f108)), (qf102, .inl (cf102, 2048, .inl f102)), (qf150, .inl (cf150, 60, .inl f150)), (qf151, .inl (cf151, 60, .inl f151)), (qf152, .inl (cf152, 60, .inl f152)), (qf153, .inl (cf153, 60, .inl f153)), (qf154, .inl (cf154, 3600, .inl f154)), (qf107, .inl (cf107, 96, .inl f107)), (qf109, .inl (cf109, 96, .inl f109)), (h0, .inr (13, fs_26)), (qf100, .inl (cf100, 48000, .inl f100))] := hD
                have hrs_27 : ∀ j : Nat, j ≠ 138 → j ≠ 139 → j ≠ 140 → j ≠ 141 → j ≠ 142 → j ≠ 143 → j ≠ 149 → fs_26[j]? = zs[j]? := fun j g138 g139 g140 g141 g142 g143 g149 => ((congrArg (fun z : List Value => z[j]?) efs_26).trans (List.getElem?_set_ne (Ne.symm g149))).trans (hrs_25 j g138 g139 g140 g141 g142 g143 g149)
                refine lv_aload_n hx hb dX13_start_138 rfl (lv_at hl 2 rfl) ?_
                refine lv_iload_n hx hb dX13_start_139 rfl (lv_at hl 3 rfl) ?_
                refine lv_iload_n hx hb dX13_start_140 rfl (lv_at hl 4 rfl) ?_
                obtain ⟨⟨g903_0, g903_1, g903_2, g903_3, g903_4, u3_5⟩, hu_3, hsp⟩ := ox_bind hsp
                try dsimp only at hsp
                have hPc := hP.sub (ws' := [(h0, .inr (13, fs_26)), (qf150, .inl (cf150, 60, .inl f150)), (qf151, .inl (cf151, 60, .inl f151)), (qf152, .inl (cf152, 60, .inl f152)), (qf153, .inl (cf153, 60, .inl f153)), (qf154, .inl (cf154, 3600, .inl f154))]) [9, 2, 3, 4, 5, 6] rfl
                have hDc := hD.sub (ws' := [(h0, .inr (13, fs_26)), (qf150, .inl (cf150, 60, .inl f150)), (qf151, .inl (cf151, 60, .inl f151)), (qf152, .inl (cf152, 60, .inl f152)), (qf153, .inl (cf153, 60, .inl f153)), (qf154, .inl (cf154, 3600, .inl f154))]) [9, 2, 3, 4, 5, 6] (by decide) rfl
                have hKc := hK.sub (tys' := [(cf150, .int), (cf151, .int), (cf152, .int), (cf153, .int), (cf154, .int)]) [2, 3, 4, 5, 6] rfl
                have hFc := va_free (wc := [(h0, .inr (13, fs_26)), (qf150, .inl (cf150, 60, .inl f150)), (qf151, .inl (cf151, 60, .inl f151)), (qf152, .inl (cf152, 60, .inl f152)), (qf153, .inl (cf153, 60, .inl f153)), (qf154, .inl (cf154, 3600, .inl f154))]) hD hS hA [9, 2, 3, 4, 5, 6] rfl
                refine va_callv (va_runV (As := [.int a1, .int a2]) (rest := []) ⟨hx, hb, hml, hown, hts⟩ (tn_enter l dC dI H.size h0 fs_26 a1 a2 0 qf150 qf151 qf152 qf153 qf154 cf150 f150 cf151 f151 cf152 f152 cf153 f153 cf154 f154 nf g903_0 g903_1 g903_2 g903_3 g903_4 u3_5 hlfs_26 hfs_26_149 hfs_26_150 hfs_26_151 hfs_26_152 hfs_26_153 hfs_26_154 hu_3) (cwV 2 hts gv_h9_73 rfl rfl rfl (by decide +kernel) ⟨Nat.le_of_ble_eq_true rfl, Nat.le_of_ble_eq_true rfl⟩) ⟨fun a U g mk q => by obtain ⟨q0, q1, qP, qK, qD⟩ := q; exact ⟨q0, q1, qP, va_K.moved (u := U) (U := U.calling g mk a) (Vm.Alike.refl U.vm) qK, qD⟩, va_recv hKc hPc (ci := 13) (q0 := 0) rfl rfl, fun U hU hW => ⟨rfl, by rw [hU], by rw [hU]; exact hPc, va_K.moved hW.alike hKc, hDc.weaken (fun _ _ _ _ => trivial)⟩⟩ rfl rfl hl.1 rfl (lv_room (Nat.le_of_ble_eq_true rfl)) dX13_start_141 ⟨Nat.le_of_ble_eq_true rfl, Nat.le_of_ble_eq_true rfl⟩) hS (fun q _ h => hFc q h) hFc ?_
                clear hS
                intro u t H1 locs ht hvm hw hB hz1 hk1 hS
                obtain ⟨z_3, rfl⟩ : ∃ z, z = u := ⟨_, rfl⟩
                obtain ⟨hP1, hK1, hD1⟩ := hB
                rw [ht] at hP1
                have hK1 := va_K.moved hvm.symm hK1
                try dsimp only at hw
                have hPD := va_join (wr := [(qf108, .inl (cf108, 8, .inl f108)), (qf102, .inl (cf102, 2048, .inl f102)), (qf107, .inl (cf107, 96, .inl f107)), (qf109, .inl (cf109, 96, .inl f109)), (qf100, .inl (cf100, 48000, .inl f100))]) (w1 := [(h0, .inr (13, z_3)), (qf150, .inl (cf150, 60, .inl g903_0)), (qf151, .inl (cf151, 60, .inl g903_1)), (qf152, .inl (cf152, 60, .inl g903_2)), (qf153, .inl (cf153, 60, .inl g903_3)), (qf154, .inl (cf154, 3600, .inl g903_4))]) hP hD [9, 2, 3, 4, 5, 6] [0, 1, 7, 8, 10] rfl rfl (by decide) (by decide) hk1 hFc hP1 hD1
                clear hP hD
                obtain ⟨hP, hD⟩ := hPD
                replace hK := (hK.sub (tys' := [(cf108, .int), (cf102, .int), (cf107, .int), (cf109, .int), (cf100, .int)]) [0, 1, 7, 8, 9] rfl).app hK1
                clear hPc hDc hKc hFc hP1 hK1 hD1 hz1 hk1 ht hvm
                generalize H1 = H at hP hS ⊢
                replace hP : va_P (dC, dI) vwCl [(qf108, .inl (cf108, 8, .inl f108)), (qf102, .inl (cf102, 2048, .inl f102)), (qf107, .inl (cf107, 96, .inl f107)), (qf109, .inl (cf109, 96, .inl f109)), (qf100, .inl (cf100, 48000, .inl f100)), (h0, .inr (13, z_3)), (qf150, .inl (cf150, 60, .inl g903_0)), (qf151, .inl (cf151, 60, .inl g903_1)), (qf152, .inl (cf152, 60, .inl g903_2)), (qf153, .inl (cf153, 60, .inl g903_3)), (qf154, .inl (cf154, 3600, .inl g903_4))] H := hP
                replace hD : va_D A [(qf108, .inl (cf108, 8, .inl f108)), (qf102, .inl (cf102, 2048, .inl f102)), (qf107, .inl (cf107, 96, .inl f107)), (qf109, .inl (cf109, 96, .inl f109)), (qf100, .inl (cf100, 48000, .inl f100)), (h0, .inr (13, z_3)), (qf150, .inl (cf150, 60, .inl g903_0)), (qf151, .inl (cf151, 60, .inl g903_1)), (qf152, .inl (cf152, 60, .inl g903_2)), (qf153, .inl (cf153, 60, .inl g903_3)), (qf154, .inl (cf154, 3600, .inl g903_4))] := hD
                replace hK : va_K (dC, dI) vwCl [(cf108, .int), (cf102, .int), (cf107, .int), (cf109, .int), (cf100, .int), (cf150, .int), (cf151, .int), (cf152, .int), (cf153, .int), (cf154, .int)] s := hK
                obtain ⟨hwa_3, hln_3, hre_3, hch_3_149⟩ := hw
                have hfk_3_98 : z_3[98]? = some (.int v98) := (hre_3 98 (by decide)).trans (hfs_26_98)
                have hfk_3_99 : z_3[99]? = some (.int v99) := (hre_3 99 (by decide)).trans (hfs_26_99)
                have hfk_3_100 : z_3[100]? = some (.ref qf100) := (hre_3 100 (by decide)).trans (hfs_26_100)
                have hfk_3_102 : z_3[102]? = some (.ref qf102) := (hre_3 102 (by decide)).trans (hfs_26_102)
                have hfk_3_107 : z_3[107]? = some (.ref qf107) := (hre_3 107 (by decide)).trans (hfs_26_107)
                have hfk_3_108 : z_3[108]? = some (.ref qf108) := (hre_3 108 (by decide)).trans (hfs_26_108)
                have hfk_3_109 : z_3[109]? = some (.ref qf109) := (hre_3 109 (by decide)).trans (hfs_26_109)
                have hfk_3_138 : z_3[138]? = some (.int 1) := (hre_3 138 (by decide)).trans (hfs_26_138)
                have hfk_3_139 : z_3[139]? = some (.int (-1)) := (hre_3 139 (by decide)).trans (hfs_26_139)
                have hfk_3_140 : z_3[140]? = some (.int 0) := (hre_3 140 (by decide)).trans (hfs_26_140)
                have hfk_3_141 : z_3[141]? = some (.int 0) := (hre_3 141 (by decide)).trans (hfs_26_141)
                have hfk_3_142 : z_3[142]? = some (.int 0) := (hre_3 142 (by decide)).trans (hfs_26_142)
                have hfk_3_143 : z_3[143]? = some (.int 0) := (hre_3 143 (by decide)).trans (hfs_26_143)
                have hfk_3_150 : z_3[150]? = some (.ref qf150) := (hre_3 150 (by decide)).trans (hfs_26_150)
                have hfk_3_151 : z_3[151]? = some (.ref qf151) := (hre_3 151 (by decide)).trans (hfs_26_151)
                have hfk_3_152 : z_3[152]? = some (.ref qf152) := (hre_3 152 (by decide)).trans (hfs_26_152)
                have hfk_3_153 : z_3[153]? = some (.ref qf153) := (hre_3 153 (by decide)).trans (hfs_26_153)
                have hfk_3_154 : z_3[154]? = some (.ref qf154) := (hre_3 154 (by decide)).trans (hfs_26_154)
                have hrq_3 : ∀ j : Nat, j ≠ 138 → j ≠ 139 → j ≠ 140 → j ≠ 141 → j ≠ 142 → j ≠ 143 → j ≠ 149 → z_3[j]? = zs[j]? := fun j g138 g139 g140 g141 g142 g143 g149 => (hre_3 j g149).trans (hrs_27 j g138 g139 g140 g141 g142 g143 g149)
                refine lv_iconst (v := 1) hx hb dX13_start_144 (by decide) ?_
                have hr0 := Option.some.inj hsp
                clear hsp
                obtain ⟨hq0, hr1⟩ := Prod.mk.inj hr0
                clear hr0
                obtain ⟨hq1, hr2⟩ := Prod.mk.inj hr1
                clear hr1
                obtain ⟨hq2, hr3⟩ := Prod.mk.inj hr2
                clear hr2
                obtain ⟨hq3, hr4⟩ := Prod.mk.inj hr3
                clear hr3
                obtain ⟨hq4, hr5⟩ := Prod.mk.inj hr4
                clear hr4
                obtain ⟨hq5, hr6⟩ := Prod.mk.inj hr5
                clear hr5
                obtain ⟨hq6, hr7⟩ := Prod.mk.inj hr6
                clear hr6
                obtain ⟨hq7, hr8⟩ := Prod.mk.inj hr7
                clear hr7
                obtain ⟨hq8, hr9⟩ := Prod.mk.inj hr8
                clear hr8
                obtain ⟨hq9, hr10⟩ := Prod.mk.inj hr9
                clear hr9
                obtain ⟨hq10, hr11⟩ := Prod.mk.inj hr10
                clear hr10
                obtain ⟨hq11, hr12⟩ := Prod.mk.inj hr11
                clear hr11
                subst hq0
                subst hq1
                subst hq2
                subst hq3
                subst hq4
                subst hq5
                subst hq6
                subst hq7
                subst hq8
                subst hq9
                subst hq10
                subst hq11
                subst hr12
                have hP9 := hP.sub (ws' := [(h0, .inr (13, z_3)), (qf108, .inl (cf108, 8, .inl f108)), (qf107, .inl (cf107, 96, .inl f107)), (qf100, .inl (cf100, 48000, .inl f100)), (qf109, .inl (cf109, 96, .inl f109)), (qf102, .inl (cf102, 2048, .inl f102)), (qf150, .inl (cf150, 60, .inl g903_0)), (qf151, .inl (cf151, 60, .inl g903_1)), (qf152, .inl (cf152, 60, .inl g903_2)), (qf153, .inl (cf153, 60, .inl g903_3)), (qf154, .inl (cf154, 3600, .inl g903_4))]) [5, 0, 2, 4, 3, 1, 6, 7, 8, 9, 10] rfl
                have hD9 := hD.sub (ws' := [(h0, .inr (13, z_3)), (qf108, .inl (cf108, 8, .inl f108)), (qf107, .inl (cf107, 96, .inl f107)), (qf100, .inl (cf100, 48000, .inl f100)), (qf109, .inl (cf109, 96, .inl f109)), (qf102, .inl (cf102, 2048, .inl f102)), (qf150, .inl (cf150, 60, .inl g903_0)), (qf151, .inl (cf151, 60, .inl g903_1)), (qf152, .inl (cf152, 60, .inl g903_2)), (qf153, .inl (cf153, 60, .inl g903_3)), (qf154, .inl (cf154, 3600, .inl g903_4))]) [5, 0, 2, 4, 3, 1, 6, 7, 8, 9, 10] (by decide) rfl
                have hK9 := hK.sub (tys' := [(cf108, .int), (cf107, .int), (cf100, .int), (cf109, .int), (cf102, .int), (cf150, .int), (cf151, .int), (cf152, .int), (cf153, .int), (cf154, .int)]) [0, 2, 4, 3, 1, 5, 6, 7, 8, 9] rfl
                exact W.zret hx hb hr (by decide) (fun t ht hW => ⟨⟨(1), (z_3), rfl, ⟨⟨rfl, Or.inr rfl⟩, hln_3, hrq_3, hfk_3_138, hfk_3_139, hfk_3_140, hfk_3_141, hfk_3_142, hfk_3_143, hch_3_149⟩, by rw [ht]; exact hP9, va_K.moved hW.alike hK9, hD9⟩, hS.F ht⟩) hS.2.2 dX13_start_145
              · rw [if_neg c_13] at hsp
                refine lv_iconst (v := 0) hx hb dX13_start_101 (by decide) ?_
                have hr0 := Option.some.inj hsp
                clear hsp
                obtain ⟨hq0, hr1⟩ := Prod.mk.inj hr0
                clear hr0
                obtain ⟨hq1, hr2⟩ := Prod.mk.inj hr1
                clear hr1
                obtain ⟨hq2, hr3⟩ := Prod.mk.inj hr2
                clear hr2
                obtain ⟨hq3, hr4⟩ := Prod.mk.inj hr3
                clear hr3
                obtain ⟨hq4, hr5⟩ := Prod.mk.inj hr4
                clear hr4
                obtain ⟨hq5, hr6⟩ := Prod.mk.inj hr5
                clear hr5
                obtain ⟨hq6, hr7⟩ := Prod.mk.inj hr6
                clear hr6
                obtain ⟨hq7, hr8⟩ := Prod.mk.inj hr7
                clear hr7
                obtain ⟨hq8, hr9⟩ := Prod.mk.inj hr8
                clear hr8
                obtain ⟨hq9, hr10⟩ := Prod.mk.inj hr9
                clear hr9
                obtain ⟨hq10, hr11⟩ := Prod.mk.inj hr10
                clear hr10
                obtain ⟨hq11, hr12⟩ := Prod.mk.inj hr11
                clear hr11
                subst hq0
                subst hq1
                subst hq2
                subst hq3
                subst hq4
                subst hq5
                subst hq6
                subst hq7
                subst hq8
                subst hq9
                subst hq10
                subst hq11
                subst hr12
                have hP9 := hP.sub (ws' := [(h0, .inr (13, z_2)), (qf108, .inl (cf108, 8, .inl f108)), (qf107, .inl (cf107, 96, .inl f107)), (qf100, .inl (cf100, 48000, .inl f100)), (qf109, .inl (cf109, 96, .inl f109)), (qf102, .inl (cf102, 2048, .inl f102)), (qf150, .inl (cf150, 60, .inl f150)), (qf151, .inl (cf151, 60, .inl f151)), (qf152, .inl (cf152, 60, .inl f152)), (qf153, .inl (cf153, 60, .inl f153)), (qf154, .inl (cf154, 3600, .inl f154))]) [9, 0, 7, 10, 8, 1, 2, 3, 4, 5, 6] rfl
                have hD9 := hD.sub (ws' := [(h0, .inr (13, z_2)), (qf108, .inl (cf108, 8, .inl f108)), (qf107, .inl (cf107, 96, .inl f107)), (qf100, .inl (cf100, 48000, .inl f100)), (qf109, .inl (cf109, 96, .inl f109)), (qf102, .inl (cf102, 2048, .inl f102)), (qf150, .inl (cf150, 60, .inl f150)), (qf151, .inl (cf151, 60, .inl f151)), (qf152, .inl (cf152, 60, .inl f152)), (qf153, .inl (cf153, 60, .inl f153)), (qf154, .inl (cf154, 3600, .inl f154))]) [9, 0, 7, 10, 8, 1, 2, 3, 4, 5, 6] (by decide) rfl
                have hK9 := hK.sub (tys' := [(cf108, .int), (cf107, .int), (cf100, .int), (cf109, .int), (cf102, .int), (cf150, .int), (cf151, .int), (cf152, .int), (cf153, .int), (cf154, .int)]) [0, 7, 9, 8, 1, 2, 3, 4, 5, 6] rfl
                exact W.zret hx hb hr (by decide) (fun t ht hW => ⟨⟨(0), (z_2), rfl, ⟨⟨rfl, Or.inl rfl⟩, hln_2, hrq_2, hfk_2_138, hfk_2_139, hfk_2_140, hfk_2_141, hfk_2_142, hfk_2_143, hfk_2_149⟩, by rw [ht]; exact hP9, va_K.moved hW.alike hK9, hD9⟩, hS.F ht⟩) hS.2.2 dX13_start_102
          · rw [if_neg c_6] at hsp
            refine lv_iconst (v := 0) hx hb dX13_start_38 (by decide) ?_
            have hr0 := Option.some.inj hsp
            clear hsp
            obtain ⟨hq0, hr1⟩ := Prod.mk.inj hr0
            clear hr0
            obtain ⟨hq1, hr2⟩ := Prod.mk.inj hr1
            clear hr1
            obtain ⟨hq2, hr3⟩ := Prod.mk.inj hr2
            clear hr2
            obtain ⟨hq3, hr4⟩ := Prod.mk.inj hr3
            clear hr3
            obtain ⟨hq4, hr5⟩ := Prod.mk.inj hr4
            clear hr4
            obtain ⟨hq5, hr6⟩ := Prod.mk.inj hr5
            clear hr5
            obtain ⟨hq6, hr7⟩ := Prod.mk.inj hr6
            clear hr6
            obtain ⟨hq7, hr8⟩ := Prod.mk.inj hr7
            clear hr7
            obtain ⟨hq8, hr9⟩ := Prod.mk.inj hr8
            clear hr8
            obtain ⟨hq9, hr10⟩ := Prod.mk.inj hr9
            clear hr9
            obtain ⟨hq10, hr11⟩ := Prod.mk.inj hr10
            clear hr10
            obtain ⟨hq11, hr12⟩ := Prod.mk.inj hr11
            clear hr11
            subst hq0
            subst hq1
            subst hq2
            subst hq3
            subst hq4
            subst hq5
            subst hq6
            subst hq7
            subst hq8
            subst hq9
            subst hq10
            subst hq11
            subst hr12
            have hP9 := hP.sub (ws' := [(h0, .inr (13, zs)), (qf108, .inl (cf108, 8, .inl f108)), (qf107, .inl (cf107, 96, .inl f107)), (qf100, .inl (cf100, 48000, .inl f100)), (qf109, .inl (cf109, 96, .inl f109)), (qf102, .inl (cf102, 2048, .inl f102)), (qf150, .inl (cf150, 60, .inl f150)), (qf151, .inl (cf151, 60, .inl f151)), (qf152, .inl (cf152, 60, .inl f152)), (qf153, .inl (cf153, 60, .inl f153)), (qf154, .inl (cf154, 3600, .inl f154))]) [0, 1, 2, 3, 4, 5, 6, 7, 8, 9, 10] rfl
            have hD9 := hD.sub (ws' := [(h0, .inr (13, zs)), (qf108, .inl (cf108, 8, .inl f108)), (qf107, .inl (cf107, 96, .inl f107)), (qf100, .inl (cf100, 48000, .inl f100)), (qf109, .inl (cf109, 96, .inl f109)), (qf102, .inl (cf102, 2048, .inl f102)), (qf150, .inl (cf150, 60, .inl f150)), (qf151, .inl (cf151, 60, .inl f151)), (qf152, .inl (cf152, 60, .inl f152)), (qf153, .inl (cf153, 60, .inl f153)), (qf154, .inl (cf154, 3600, .inl f154))]) [0, 1, 2, 3, 4, 5, 6, 7, 8, 9, 10] (by decide) rfl
            have hK9 := hK.sub (tys' := [(cf108, .int), (cf107, .int), (cf100, .int), (cf109, .int), (cf102, .int), (cf150, .int), (cf151, .int), (cf152, .int), (cf153, .int), (cf154, .int)]) [0, 1, 2, 3, 4, 5, 6, 7, 8, 9] rfl
            exact W.zret hx hb hr (by decide) (fun t ht hW => ⟨⟨(0), (zs), rfl, ⟨⟨rfl, Or.inl rfl⟩, hlen, hrs0, hf138, hf139, hf140, hf141, hf142, hf143, hf149⟩, by rw [ht]; exact hP9, va_K.moved hW.alike hK9, hD9⟩, hS.F ht⟩) hS.2.2 dX13_start_39
def lp_vm_make__74 (nf n : Nat) (a1 : Int32) (a2 : Int32) (v138 : Int32) (v141 : Int32) (v142 : Int32) (f144 : Nat → Int32) (f145 : Nat → Int32) (f146 : Nat → Int32) (f147 : Nat → Int32)  (l2_74 : Int32) (l3_74 : Int32) (g144_74 : Nat → Int32) (g145_74 : Nat → Int32) (g146_74 : Nat → Int32) (g147_74 : Nat → Int32) (x138_74 : Int32) (x141_74 : Int32) (x142_74 : Int32) : Option (Int32 × (Nat → Int32) × (Nat → Int32) × (Nat → Int32) × (Nat → Int32) × Int32 × Int32 × Int32) := match n with
  | 0 => none
  | n + 1 => (if l2_74 ≤ l3_74 then (some (x141_74, g144_74, g145_74, g146_74, g147_74, x138_74, x141_74, (x142_74 + l2_74))) else (if (x142_74 + l3_74) < 0 then none else if 20000 ≤ ((x142_74 + l3_74) : Int32).toNatClampNeg then none else (lp_vm_make__74 nf n a1 a2 v138 v141 v142 f144 f145 f146 f147 l2_74 (l3_74 + 1) g144_74 g145_74 g146_74 (upd g147_74 ((x142_74 + l3_74) : Int32).toNatClampNeg 0) x138_74 x141_74 x142_74)))
def sp_vm_make_ (nf : Nat) (a1 : Int32) (a2 : Int32) (v138 : Int32) (v141 : Int32) (v142 : Int32) (f144 : Nat → Int32) (f145 : Nat → Int32) (f146 : Nat → Int32) (f147 : Nat → Int32) : Option (Int32 × (Nat → Int32) × (Nat → Int32) × (Nat → Int32) × (Nat → Int32) × Int32 × Int32 × Int32) := (if v141 = 2000 then (some (0, f144, f145, f146, f147, 4, v141, v142)) else (if a2 ≤ (20000 - v142) then (if (v141 + 1) < 0 then none else if 2001 ≤ ((v141 + 1) : Int32).toNatClampNeg then none else (if (v141 + 1) < 0 then none else if 2001 ≤ ((v141 + 1) : Int32).toNatClampNeg then none else (if (v141 + 1) < 0 then none else if 2001 ≤ ((v141 + 1) : Int32).toNatClampNeg then none else (lp_vm_make__74 nf nf a1 a2 v138 v141 v142 f144 f145 f146 f147  a2 0 (upd f144 ((v141 + 1) : Int32).toNatClampNeg a1) (upd f145 ((v141 + 1) : Int32).toNatClampNeg v142) (upd f146 ((v141 + 1) : Int32).toNatClampNeg a2) f147 v138 (v141 + 1) v142)))) else (some (0, f144, f145, f146, f147, 4, v141, v142))))
set_option maxHeartbeats 4000000 in
set_option maxRecDepth 100000 in
/-- ClassMillModel.make -/
theorem vm_make_ (l : Launch) (dC : Nat → ClassId) (dI : Nat → Nat → Nat) (sz : Nat) (h0 : Nat) (zs : (List Value)) (a1 : Int32) (a2 : Int32) (v138 : Int32) (v141 : Int32) (v142 : Int32) (qf144 : Nat) (qf145 : Nat) (qf146 : Nat) (qf147 : Nat) (cf144 : ClassId) (f144 : (Nat → Int32)) (cf145 : ClassId) (f145 : (Nat → Int32)) (cf146 : ClassId) (f146 : (Nat → Int32)) (cf147 : ClassId) (f147 : (Nat → Int32)) (nf : Nat) (r0 : Int32) (o144 : (Nat → Int32)) (o145 : (Nat → Int32)) (o146 : (Nat → Int32)) (o147 : (Nat → Int32)) (w138 : Int32) (w141 : Int32) (w142 : Int32) (hlen : zs.length = 155) (hf138 : zs[138]? = some (.int v138)) (hf141 : zs[141]? = some (.int v141)) (hf142 : zs[142]? = some (.int v142)) (hf144 : zs[144]? = some (.ref qf144)) (hf145 : zs[145]? = some (.ref qf145)) (hf146 : zs[146]? = some (.ref qf146)) (hf147 : zs[147]? = some (.ref qf147)) (hsp : sp_vm_make_ nf a1 a2 v138 v141 v142 f144 f145 f146 f147 = some (r0, o144, o145, o146, o147, w138, w141, w142)) : Met l yX13_make_ (.code yX13_make_ cX13_make_ 4 (some .int) :: VS_h9) ({ frames := 0, cells := 0, slots := 0, locals := 0 }) (va_Pc [.ref h0, .int a1, .int a2] (fun U => U.heap.size = sz ∧ va_P (dC, dI) vwCl [(h0, .inr (13, zs)), (qf144, .inl (cf144, 2001, .inl f144)), (qf145, .inl (cf145, 2001, .inl f145)), (qf146, .inl (cf146, 2001, .inl f146)), (qf147, .inl (cf147, 20000, .inl f147))] U.heap ∧ va_K (dC, dI) vwCl [(cf144, .int), (cf145, .int), (cf146, .int), (cf147, .int)] U ∧ va_D (fun _ => True) [(h0, .inr (13, zs)), (qf144, .inl (cf144, 2001, .inl f144)), (qf145, .inl (cf145, 2001, .inl f145)), (qf146, .inl (cf146, 2001, .inl f146)), (qf147, .inl (cf147, 20000, .inl f147))])) (va_Qi (fun (r : Int32) (u : (List Value)) => match u with | (zo1) => r0 = r ∧ zo1.length = 155 ∧ (∀ j : Nat, j ≠ 138 → j ≠ 141 → j ≠ 142 → zo1[j]? = zs[j]?) ∧ zo1[138]? = some (.int w138) ∧ zo1[141]? = some (.int w141) ∧ zo1[142]? = some (.int w142)) (fun (u : (List Value)) (t : State) => match u with | (zo1) => va_P (dC, dI) vwCl [(h0, .inr (13, zo1)), (qf144, .inl (cf144, 2001, .inl o144)), (qf145, .inl (cf145, 2001, .inl o145)), (qf146, .inl (cf146, 2001, .inl o146)), (qf147, .inl (cf147, 20000, .inl o147))] t.heap ∧ va_K (dC, dI) vwCl [(cf144, .int), (cf145, .int), (cf146, .int), (cf147, .int)] t ∧ va_D (va_A [(h0, .inr (13, zs)), (qf144, .inl (cf144, 2001, .inl f144)), (qf145, .inl (cf145, 2001, .inl f145)), (qf146, .inl (cf146, 2001, .inl f146)), (qf147, .inl (cf147, 20000, .inl f147))] sz) [(h0, .inr (13, zo1)), (qf144, .inl (cf144, 2001, .inl o144)), (qf145, .inl (cf145, 2001, .inl o145)), (qf146, .inl (cf146, 2001, .inl o146)), (qf147, .inl (cf147, 20000, .inl o147))]) (va_A [(h0, .inr (13, zs)), (qf144, .inl (cf144, 2001, .inl f144)), (qf145, .inl (cf145, 2001, .inl f145)), (qf146, .inl (cf146, 2001, .inl f146)), (qf147, .inl (cf147, 20000, .inl f147))] sz)) 0 0 (va_A [(h0, .inr (13, zs)), (qf144, .inl (cf144, 2001, .inl f144)), (qf145, .inl (cf145, 2001, .inl f145)), (qf146, .inl (cf146, 2001, .inl f146)), (qf147, .inl (cf147, 20000, .inl f147))] sz) := by
  refine Met.ofW (cc := cX13_make_) (maxL := 4) (ret := (some .int)) (by decide) rfl ?_
  intro p e s m args below meth c s₁ B hml hv
  obtain ⟨rfl, hsz, hP, hK, hD0⟩ := hv
  have hx := B.exec
  have hb := B.bytes
  have hr := B.returns
  have hts := atoms_spec (ws := (.code yX13_make_ cX13_make_ 4 (some .int) :: VS_h9)) B.pre
  replace hts := fun w (h : w ∈ VS_h9) => hts w (List.mem_cons_of_mem _ h)
  have hown : s.vm.findClass RX13 = some m.cls := findClass_of_methodNamed B.named
  have hlocks := B.notSynchronized
  subst hsz
  have hD := hD0.self (sz := s.heap.size)
  generalize hAe : va_A [(h0, .inr (13, zs)), (qf144, .inl (cf144, 2001, .inl f144)), (qf145, .inl (cf145, 2001, .inl f145)), (qf146, .inl (cf146, 2001, .inl f146)), (qf147, .inl (cf147, 20000, .inl f147))] s.heap.size = A at hD  ⊢
  have hA : ∀ q : Nat, s.heap.size ≤ q → A q := fun q h => by rw [← hAe]; exact Or.inr h
  have hP : va_P (dC, dI) vwCl [(h0, .inr (13, zs)), (qf144, .inl (cf144, 2001, .inl f144)), (qf145, .inl (cf145, 2001, .inl f145)), (qf146, .inl (cf146, 2001, .inl f146)), (qf147, .inl (cf147, 20000, .inl f147))] s.heap := hP
  have hl := lv_entry ([.ref h0, .int a1, .int a2]) (n := 4) (Nat.le_of_ble_eq_true rfl)
  rw [lg_entry_eq]
  generalize (lg_sl ([.ref h0, .int a1, .int a2]) ++ List.replicate (4 - (lg_sl ([.ref h0, .int a1, .int a2])).length) Slot.unset).toArray = ls at hl ⊢
  have hl : lv_has ls 4 [(0, .ref h0), (1, .int a1), (2, .int a2)] := hl
  obtain ⟨H, hH⟩ : ∃ H : Heap, s.heap = H := ⟨_, rfl⟩
  rw [hH] at hP ⊢
  have hS : va_S A s.heap H [] := by rw [← hH]; exact va_S.rf
  obtain ⟨locs, hlo⟩ : ∃ locs : List Loc, locs = [] := ⟨_, rfl⟩
  rw [← hlo] at hS ⊢
  have hrs0 : ∀ j : Nat, j ≠ 138 → j ≠ 141 → j ≠ 142 → zs[j]? = zs[j]? := fun _ _ _ _  => rfl
  unfold sp_vm_make_ at hsp
  refine lv_aload_n hx hb dX13_make__0 rfl (lv_at hl 0 rfl) ?_
  refine va_get (D := (dC, dI)) (ci := 13) (v := .int v141) (C := RX13) (T := TX13) (N := 155) hx hb hts uV_h9_X13 hown hK hP 0 rfl rfl 141 (by decide) (hts (.fieldLink RX13 1049 "ClassMillModel" "objects" "I") mw_h9_367) (fun _ h9 => h9) hf141 dX13_make__1 ?_
  refine lv_sipush (v := 2000) hx hb dX13_make__4 (by decide) ?_
  refine lv_icmp_eq (tgt := 22) hx hb dX13_make__7 (by decide) (fun c_1 => ?_) (fun c_1 => ?_)
  · rw [if_pos c_1] at hsp
    refine lv_aload_n hx hb dX13_make__22 rfl (lv_at hl 0 rfl) ?_
    refine lv_iconst (v := 4) hx hb dX13_make__23 (by decide) ?_
    refine va_put (D := (dC, dI)) (ci := 13) (v := .int 4) (ty := .int) (C := RX13) (T := TX13) (N := 155) hx hb hts uV_h9_X13 tyX13 tyX13_ok nmX13 hown hK hP hD hS 0 rfl rfl 138 (by decide) (hts (.fieldLink RX13 858 "ClassMillModel" "state" "I") mw_h9_364) (fun _ h9 => h9) rfl (by decide +kernel) rfl rfl (by rw [hlen]; decide) dX13_make__24 ?_
    clear hP hD hS
    intro H locs hP hD hS
    obtain ⟨fs_2, efs_2⟩ : ∃ zf : List Value, zf = zs.set 138 (.int 4) := ⟨_, rfl⟩
    rw [← efs_2] at hP hD
    have hlfs_2 : fs_2.length = 155 := by rw [efs_2, List.length_set]; exact hlen
    have hfs_2_141 : fs_2[141]? = some (.int v141) := by rw [efs_2, List.getElem?_set_ne (by decide)]; exact hf141
    have hfs_2_142 : fs_2[142]? = some (.int v142) := by rw [efs_2, List.getElem?_set_ne (by decide)]; exact hf142
    have hfs_2_144 : fs_2[144]? = some (.ref qf144) := by rw [efs_2, List.getElem?_set_ne (by decide)]; exact hf144
    have hfs_2_145 : fs_2[145]? = some (.ref qf145) := by rw [efs_2, List.getElem?_set_ne (by decide)]; exact hf145
    have hfs_2_146 : fs_2[146]? = some (.ref qf146) := by rw [efs_2, List.getElem?_set_ne (by decide)]; exact hf146
    have hfs_2_147 : fs_2[147]? = some (.ref qf147) := by rw [efs_2, List.getElem?_set_ne (by decide)]; exact hf147
    have hfs_2_138 : fs_2[138]? = some (.int 4) := by rw [efs_2, List.getElem?_set_self (by rw [hlen]; decide)]
    replace hP : va_P (dC, dI) vwCl [(h0, .inr (13, fs_2)), (qf144, .inl (cf144, 2001, .inl f144)), (qf145, .inl (cf145, 2001, .inl f145)), (qf146, .inl (cf146, 2001, .inl f146)), (qf147, .inl (cf147, 20000, .inl f147))] H := hP
    replace hD : va_D A [(h0, .inr (13, fs_2)), (qf144, .inl (cf144, 2001, .inl f144)), (qf145, .inl (cf145, 2001, .inl f145)), (qf146, .inl (cf146, 2001, .inl f146)), (qf147, .inl (cf147, 20000, .inl f147))] := hD
    have hrs_3 : ∀ j : Nat, j ≠ 138 → j ≠ 141 → j ≠ 142 → fs_2[j]? = zs[j]? := fun j g138 g141 g142 => ((congrArg (fun z : List Value => z[j]?) efs_2).trans (List.getElem?_set_ne (Ne.symm g138))).trans (hrs0 j g138 g141 g142)
    refine lv_iconst (v := 0) hx hb dX13_make__27 (by decide) ?_
    have hr0 := Option.some.inj hsp
    clear hsp
    obtain ⟨hq0, hr1⟩ := Prod.mk.inj hr0
    clear hr0
    obtain ⟨hq1, hr2⟩ := Prod.mk.inj hr1
    clear hr1
    obtain ⟨hq2, hr3⟩ := Prod.mk.inj hr2
    clear hr2
    obtain ⟨hq3, hr4⟩ := Prod.mk.inj hr3
    clear hr3
    obtain ⟨hq4, hr5⟩ := Prod.mk.inj hr4
    clear hr4
    obtain ⟨hq5, hr6⟩ := Prod.mk.inj hr5
    clear hr5
    obtain ⟨hq6, hr7⟩ := Prod.mk.inj hr6
    clear hr6
    subst hq0
    subst hq1
    subst hq2
    subst hq3
    subst hq4
    subst hq5
    subst hq6
    subst hr7
    have hP9 := hP.sub (ws' := [(h0, .inr (13, fs_2)), (qf144, .inl (cf144, 2001, .inl f144)), (qf145, .inl (cf145, 2001, .inl f145)), (qf146, .inl (cf146, 2001, .inl f146)), (qf147, .inl (cf147, 20000, .inl f147))]) [0, 1, 2, 3, 4] rfl
    have hD9 := hD.sub (ws' := [(h0, .inr (13, fs_2)), (qf144, .inl (cf144, 2001, .inl f144)), (qf145, .inl (cf145, 2001, .inl f145)), (qf146, .inl (cf146, 2001, .inl f146)), (qf147, .inl (cf147, 20000, .inl f147))]) [0, 1, 2, 3, 4] (by decide) rfl
    have hK9 := hK.sub (tys' := [(cf144, .int), (cf145, .int), (cf146, .int), (cf147, .int)]) [0, 1, 2, 3] rfl
    exact W.iret hx hb hr (fun t ht hW => ⟨⟨(0), (fs_2), rfl, ⟨rfl, hlfs_2, hrs_3, hfs_2_138, hfs_2_141, hfs_2_142⟩, by rw [ht]; exact hP9, va_K.moved hW.alike hK9, hD9⟩, hS.F ht⟩) hS.2.2 dX13_make__28
  · rw [if_neg c_1] at hsp
    refine lv_iload_n hx hb dX13_make__10 rfl (lv_at hl 2 rfl) ?_
    refine lv_sipush (v := 20000) hx hb dX13_make__11 (by decide) ?_
    refine lv_aload_n hx hb dX13_make__14 rfl (lv_at hl 0 rfl) ?_
    refine va_get (D := (dC, dI)) (ci := 13) (v := .int v142) (C := RX13) (T := TX13) (N := 155) hx hb hts uV_h9_X13 hown hK hP 0 rfl rfl 142 (by decide) (hts (.fieldLink RX13 1052 "ClassMillModel" "fieldsMade" "I") mw_h9_368) (fun _ h9 => h9) hf142 dX13_make__15 ?_
    refine lv_isub hx hb dX13_make__18 ?_
    refine lv_icmp_le (tgt := 29) hx hb dX13_make__19 (by decide) (fun c_4 => ?_) (fun c_4 => ?_)
    · rw [if_pos c_4] at hsp
      refine lv_aload_n hx hb dX13_make__29 rfl (lv_at hl 0 rfl) ?_
      refine lv_dup hx hb dX13_make__30 rfl ?_
      refine va_get (D := (dC, dI)) (ci := 13) (v := .int v141) (C := RX13) (T := TX13) (N := 155) hx hb hts uV_h9_X13 hown hK hP 0 rfl rfl 141 (by decide) (hts (.fieldLink RX13 1049 "ClassMillModel" "objects" "I") mw_h9_367) (fun _ h9 => h9) hf141 dX13_make__31 ?_
      refine lv_iconst (v := 1) hx hb dX13_make__34 (by decide) ?_
      refine lv_iadd hx hb dX13_make__35 ?_
      refine va_put (D := (dC, dI)) (ci := 13) (v := .int (v141 + 1)) (ty := .int) (C := RX13) (T := TX13) (N := 155) hx hb hts uV_h9_X13 tyX13 tyX13_ok nmX13 hown hK hP hD hS 0 rfl rfl 141 (by decide) (hts (.fieldLink RX13 1049 "ClassMillModel" "objects" "I") mw_h9_367) (fun _ h9 => h9) rfl (by decide +kernel) rfl rfl (by rw [hlen]; decide) dX13_make__36 ?_
      clear hP hD hS
      intro H locs hP hD hS
      obtain ⟨fs_5, efs_5⟩ : ∃ zf : List Value, zf = zs.set 141 (.int (v141 + 1)) := ⟨_, rfl⟩
      rw [← efs_5] at hP hD
      have hlfs_5 : fs_5.length = 155 := by rw [efs_5, List.length_set]; exact hlen
      have hfs_5_138 : fs_5[138]? = some (.int v138) := by rw [efs_5, List.getElem?_set_ne (by decide)]; exact hf138
      have hfs_5_142 : fs_5[142]? = some (.int v142) := by rw [efs_5, List.getElem?_set_ne (by decide)]; exact hf142
      have hfs_5_144 : fs_5[144]? = some (.ref qf144) := by rw [efs_5, List.getElem?_set_ne (by decide)]; exact hf144
      have hfs_5_145 : fs_5[145]? = some (.ref qf145) := by rw [efs_5, List.getElem?_set_ne (by decide)]; exact hf145
      have hfs_5_146 : fs_5[146]? = some (.ref qf146) := by rw [efs_5, List.getElem?_set_ne (by decide)]; exact hf146
      have hfs_5_147 : fs_5[147]? = some (.ref qf147) := by rw [efs_5, List.getElem?_set_ne (by decide)]; exact hf147
      have hfs_5_141 : fs_5[141]? = some (.int (v141 + 1)) := by rw [efs_5, List.getElem?_set_self (by rw [hlen]; decide)]
      replace hP : va_P (dC, dI) vwCl [(h0, .inr (13, fs_5)), (qf144, .inl (cf144, 2001, .inl f144)), (qf145, .inl (cf145, 2001, .inl f145)), (qf146, .inl (cf146, 2001, .inl f146)), (qf147, .inl (cf147, 20000, .inl f147))] H := hP
      replace hD : va_D A [(h0, .inr (13, fs_5)), (qf144, .inl (cf144, 2001, .inl f144)), (qf145, .inl (cf145, 2001, .inl f145)), (qf146, .inl (cf146, 2001, .inl f146)), (qf147, .inl (cf147, 20000, .inl f147))] := hD
      have hrs_6 : ∀ j : Nat, j ≠ 138 → j ≠ 141 → j ≠ 142 → fs_5[j]? = zs[j]? := fun j g138 g141 g142 => ((congrArg (fun z : List Value => z[j]?) efs_5).trans (List.getElem?_set_ne (Ne.symm g141))).trans (hrs0 j g138 g141 g142)
      refine lv_aload_n hx hb dX13_make__39 rfl (lv_at hl 0 rfl) ?_
      refine va_get (D := (dC, dI)) (ci := 13) (v := .ref qf144) (C := RX13) (T := TX13) (N := 155) hx hb hts uV_h9_X13 hown hK hP 0 rfl rfl 144 (by decide) (hts (.fieldLink RX13 279 "ClassMillModel" "sort" "[I") mw_h9_371) (fun _ h9 => h9) hfs_5_144 dX13_make__40 ?_
      refine lv_aload_n hx hb dX13_make__43 rfl (lv_at hl 0 rfl) ?_
      refine va_get (D := (dC, dI)) (ci := 13) (v := .int (v141 + 1)) (C := RX13) (T := TX13) (N := 155) hx hb hts uV_h9_X13 hown hK hP 0 rfl rfl 141 (by decide) (hts (.fieldLink RX13 1049 "ClassMillModel" "objects" "I") mw_h9_367) (fun _ h9 => h9) hfs_5_141 dX13_make__44 ?_
      refine lv_iload_n hx hb dX13_make__47 rfl (lv_at hl 1 rfl) ?_
      obtain ⟨hi_7, hsp⟩ := ox_in hsp
      refine va_iast hx hb hK hP hD hS 1 0 rfl rfl (i := (v141 + 1)) (x := a1) hi_7 dX13_make__48 ?_
      clear hP hD hS
      intro H locs hP hD hS
      replace hP : va_P (dC, dI) vwCl [(h0, .inr (13, fs_5)), (qf144, .inl (cf144, 2001, .inl (upd f144 ((v141 + 1) : Int32).toNatClampNeg a1))), (qf145, .inl (cf145, 2001, .inl f145)), (qf146, .inl (cf146, 2001, .inl f146)), (qf147, .inl (cf147, 20000, .inl f147))] H := hP
      replace hD : va_D A [(h0, .inr (13, fs_5)), (qf144, .inl (cf144, 2001, .inl (upd f144 ((v141 + 1) : Int32).toNatClampNeg a1))), (qf145, .inl (cf145, 2001, .inl f145)), (qf146, .inl (cf146, 2001, .inl f146)), (qf147, .inl (cf147, 20000, .inl f147))] := hD
      refine lv_aload_n hx hb dX13_make__49 rfl (lv_at hl 0 rfl) ?_
      refine va_get (D := (dC, dI)) (ci := 13) (v := .ref qf145) (C := RX13) (T := TX13) (N := 155) hx hb hts uV_h9_X13 hown hK hP 0 rfl rfl 145 (by decide) (hts (.fieldLink RX13 282 "ClassMillModel" "begin" "[I") mw_h9_372) (fun _ h9 => h9) hfs_5_145 dX13_make__50 ?_
      refine lv_aload_n hx hb dX13_make__53 rfl (lv_at hl 0 rfl) ?_
      refine va_get (D := (dC, dI)) (ci := 13) (v := .int (v141 + 1)) (C := RX13) (T := TX13) (N := 155) hx hb hts uV_h9_X13 hown hK hP 0 rfl rfl 141 (by decide) (hts (.fieldLink RX13 1049 "ClassMillModel" "objects" "I") mw_h9_367) (fun _ h9 => h9) hfs_5_141 dX13_make__54 ?_
      refine lv_aload_n hx hb dX13_make__57 rfl (lv_at hl 0 rfl) ?_
      refine va_get (D := (dC, dI)) (ci := 13) (v := .int v142) (C := RX13) (T := TX13) (N := 155) hx hb hts uV_h9_X13 hown hK hP 0 rfl rfl 142 (by decide) (hts (.fieldLink RX13 1052 "ClassMillModel" "fieldsMade" "I") mw_h9_368) (fun _ h9 => h9) hfs_5_142 dX13_make__58 ?_
      obtain ⟨hi_8, hsp⟩ := ox_in hsp
      refine va_iast hx hb hK hP hD hS 2 1 rfl rfl (i := (v141 + 1)) (x := v142) hi_8 dX13_make__61 ?_
      clear hP hD hS
      intro H locs hP hD hS
      replace hP : va_P (dC, dI) vwCl [(h0, .inr (13, fs_5)), (qf144, .inl (cf144, 2001, .inl (upd f144 ((v141 + 1) : Int32).toNatClampNeg a1))), (qf145, .inl (cf145, 2001, .inl (upd f145 ((v141 + 1) : Int32).toNatClampNeg v142))), (qf146, .inl (cf146, 2001, .inl f146)), (qf147, .inl (cf147, 20000, .inl f147))] H := hP
      replace hD : va_D A [(h0, .inr (13, fs_5)), (qf144, .inl (cf144, 2001, .inl (upd f144 ((v141 + 1) : Int32).toNatClampNeg a1))), (qf145, .inl (cf145, 2001, .inl (upd f145 ((v141 + 1) : Int32).toNatClampNeg v142))), (qf146, .inl (cf146, 2001, .inl f146)), (qf147, .inl (cf147, 20000, .inl f147))] := hD
      refine lv_aload_n hx hb dX13_make__62 rfl (lv_at hl 0 rfl) ?_
      refine va_get (D := (dC, dI)) (ci := 13) (v := .ref qf146) (C := RX13) (T := TX13) (N := 155) hx hb hts uV_h9_X13 hown hK hP 0 rfl rfl 146 (by decide) (hts (.fieldLink RX13 285 "ClassMillModel" "count" "[I") mw_h9_373) (fun _ h9 => h9) hfs_5_146 dX13_make__63 ?_
      refine lv_aload_n hx hb dX13_make__66 rfl (lv_at hl 0 rfl) ?_
      refine va_get (D := (dC, dI)) (ci := 13) (v := .int (v141 + 1)) (C := RX13) (T := TX13) (N := 155) hx hb hts uV_h9_X13 hown hK hP 0 rfl rfl 141 (by decide) (hts (.fieldLink RX13 1049 "ClassMillModel" "objects" "I") mw_h9_367) (fun _ h9 => h9) hfs_5_141 dX13_make__67 ?_
      refine lv_iload_n hx hb dX13_make__70 rfl (lv_at hl 2 rfl) ?_
      obtain ⟨hi_9, hsp⟩ := ox_in hsp
      refine va_iast hx hb hK hP hD hS 3 2 rfl rfl (i := (v141 + 1)) (x := a2) hi_9 dX13_make__71 ?_
      clear hP hD hS
      intro H locs hP hD hS
      replace hP : va_P (dC, dI) vwCl [(h0, .inr (13, fs_5)), (qf144, .inl (cf144, 2001, .inl (upd f144 ((v141 + 1) : Int32).toNatClampNeg a1))), (qf145, .inl (cf145, 2001, .inl (upd f145 ((v141 + 1) : Int32).toNatClampNeg v142))), (qf146, .inl (cf146, 2001, .inl (upd f146 ((v141 + 1) : Int32).toNatClampNeg a2))), (qf147, .inl (cf147, 20000, .inl f147))] H := hP
      replace hD : va_D A [(h0, .inr (13, fs_5)), (qf144, .inl (cf144, 2001, .inl (upd f144 ((v141 + 1) : Int32).toNatClampNeg a1))), (qf145, .inl (cf145, 2001, .inl (upd f145 ((v141 + 1) : Int32).toNatClampNeg v142))), (qf146, .inl (cf146, 2001, .inl (upd f146 ((v141 + 1) : Int32).toNatClampNeg a2))), (qf147, .inl (cf147, 20000, .inl f147))] := hD
      refine lv_iconst (v := 0) hx hb dX13_make__72 (by decide) ?_
      refine lv_istore_n (lv' := [(3, .int 0), (0, .ref h0), (1, .int a1), (2, .int a2)]) hx hb dX13_make__73 rfl hl (by decide) rfl (fun ls hl => ?_)
      replace hl : lv_has ls 4 [(3, .int 0), (0, .ref h0), (2, .int a2)] := lv_sub hl [0, 1, 3] rfl
      replace hP := hP.sub (ws' := [(h0, .inr (13, fs_5)), (qf144, .inl (cf144, 2001, .inl (upd f144 ((v141 + 1) : Int32).toNatClampNeg a1))), (qf145, .inl (cf145, 2001, .inl (upd f145 ((v141 + 1) : Int32).toNatClampNeg v142))), (qf146, .inl (cf146, 2001, .inl (upd f146 ((v141 + 1) : Int32).toNatClampNeg a2))), (qf147, .inl (cf147, 20000, .inl f147))]) [0, 1, 2, 3, 4] rfl
      replace hD := hD.sub (ws' := [(h0, .inr (13, fs_5)), (qf144, .inl (cf144, 2001, .inl (upd f144 ((v141 + 1) : Int32).toNatClampNeg a1))), (qf145, .inl (cf145, 2001, .inl (upd f145 ((v141 + 1) : Int32).toNatClampNeg v142))), (qf146, .inl (cf146, 2001, .inl (upd f146 ((v141 + 1) : Int32).toNatClampNeg a2))), (qf147, .inl (cf147, 20000, .inl f147))]) [0, 1, 2, 3, 4] (by decide) rfl
      replace hK := hK.sub (tys' := [(cf144, .int), (cf145, .int), (cf146, .int), (cf147, .int)]) [0, 1, 2, 3] rfl
      obtain ⟨n_74, hn_74⟩ : ∃ z : Nat, z = nf := ⟨_, rfl⟩
      obtain ⟨l2_74, el2_74⟩ : ∃ z : Int32, z = a2 := ⟨_, rfl⟩
      obtain ⟨l3_74, el3_74⟩ : ∃ z : Int32, z = 0 := ⟨_, rfl⟩
      obtain ⟨g144_74, eg144_74⟩ : ∃ z : Nat → Int32, z = (upd f144 ((v141 + 1) : Int32).toNatClampNeg a1) := ⟨_, rfl⟩
      obtain ⟨g145_74, eg145_74⟩ : ∃ z : Nat → Int32, z = (upd f145 ((v141 + 1) : Int32).toNatClampNeg v142) := ⟨_, rfl⟩
      obtain ⟨g146_74, eg146_74⟩ : ∃ z : Nat → Int32, z = (upd f146 ((v141 + 1) : Int32).toNatClampNeg a2) := ⟨_, rfl⟩
      obtain ⟨g147_74, eg147_74⟩ : ∃ z : Nat → Int32, z = f147 := ⟨_, rfl⟩
      obtain ⟨x138_74, ex138_74⟩ : ∃ z : Int32, z = v138 := ⟨_, rfl⟩
      obtain ⟨x141_74, ex141_74⟩ : ∃ z : Int32, z = (v141 + 1) := ⟨_, rfl⟩
      obtain ⟨x142_74, ex142_74⟩ : ∃ z : Int32, z = v142 := ⟨_, rfl⟩
      replace hsp : lp_vm_make__74 nf n_74 a1 a2 v138 v141 v142 f144 f145 f146 f147 l2_74 l3_74 g144_74 g145_74 g146_74 g147_74 x138_74 x141_74 x142_74 = some (r0, o144, o145, o146, o147, w138, w141, w142) := by rw [hn_74, el2_74, el3_74, eg144_74, eg145_74, eg146_74, eg147_74, ex138_74, ex141_74, ex142_74]; exact hsp
      replace hl : lv_has ls 4 [(3, .int l3_74), (0, .ref h0), (2, .int l2_74)] := by rw [el2_74, el3_74]; exact hl
      obtain ⟨z74, ez74⟩ : ∃ z : List Value, z = fs_5 := ⟨_, rfl⟩
      have hfh_74_138 : z74[138]? = some (.int x138_74) := by rw [ez74, ex138_74]; exact hfs_5_138
      have hfh_74_141 : z74[141]? = some (.int x141_74) := by rw [ez74, ex141_74]; exact hfs_5_141
      have hfh_74_142 : z74[142]? = some (.int x142_74) := by rw [ez74, ex142_74]; exact hfs_5_142
      have hfh_74_144 : z74[144]? = some (.ref qf144) := by rw [ez74]; exact hfs_5_144
      have hfh_74_145 : z74[145]? = some (.ref qf145) := by rw [ez74]; exact hfs_5_145
      have hfh_74_146 : z74[146]? = some (.ref qf146) := by rw [ez74]; exact hfs_5_146
      have hfh_74_147 : z74[147]? = some (.ref qf147) := by rw [ez74]; exact hfs_5_147
      have hlh_74 : z74.length = 155 := by rw [ez74]; exact hlfs_5
      have hrh_74 : ∀ j : Nat, j ≠ 138 → j ≠ 141 → j ≠ 142 → z74[j]? = zs[j]? := by rw [ez74]; exact hrs_6
      replace hP : va_P (dC, dI) vwCl [(h0, .inr (13, z74)), (qf144, .inl (cf144, 2001, .inl g144_74)), (qf145, .inl (cf145, 2001, .inl g145_74)), (qf146, .inl (cf146, 2001, .inl g146_74)), (qf147, .inl (cf147, 20000, .inl g147_74))] H := by rw [ez74, eg144_74, eg145_74, eg146_74, eg147_74]; exact hP
      replace hD : va_D A [(h0, .inr (13, z74)), (qf144, .inl (cf144, 2001, .inl g144_74)), (qf145, .inl (cf145, 2001, .inl g145_74)), (qf146, .inl (cf146, 2001, .inl g146_74)), (qf147, .inl (cf147, 20000, .inl g147_74))] := by rw [ez74, eg144_74, eg145_74, eg146_74, eg147_74]; exact hD
      clear hn_74 ez74 el2_74 el3_74 eg144_74 eg145_74 eg146_74 eg147_74 ex138_74 ex141_74 ex142_74
      try clear hlo
      try clear hH
      revert hsp
      revert hP
      revert hD
      revert hS
      revert hl
      revert hrh_74
      revert hlh_74
      revert hfh_74_147
      revert hfh_74_146
      revert hfh_74_145
      revert hfh_74_144
      revert hfh_74_142
      revert hfh_74_141
      revert hfh_74_138
      revert x142_74
      revert x141_74
      revert x138_74
      revert g147_74
      revert g146_74
      revert g145_74
      revert g144_74
      revert l3_74
      revert l2_74
      revert z74
      revert ls
      revert locs
      revert H
      induction n_74 with
      | zero => intro H locs ls z74 l2_74 l3_74 g144_74 g145_74 g146_74 g147_74 x138_74 x141_74 x142_74 hfh_74_138 hfh_74_141 hfh_74_142 hfh_74_144 hfh_74_145 hfh_74_146 hfh_74_147 hlh_74 hrh_74 hl hS hD hP hsp; unfold lp_vm_make__74 at hsp; cases hsp
      | succ n_74 ih_74 =>
        intro H locs ls z74 l2_74 l3_74 g144_74 g145_74 g146_74 g147_74 x138_74 x141_74 x142_74 hfh_74_138 hfh_74_141 hfh_74_142 hfh_74_144 hfh_74_145 hfh_74_146 hfh_74_147 hlh_74 hrh_74 hl hS hD hP hsp
        unfold lp_vm_make__74 at hsp
        try dsimp only at hsp
        refine lv_iload_n hx hb dX13_make__74 rfl (lv_at hl 0 rfl) ?_
        refine lv_iload_n hx hb dX13_make__75 rfl (lv_at hl 2 rfl) ?_
        refine lv_icmp_ge (tgt := 97) hx hb dX13_make__76 (by decide) (fun c_10 => ?_) (fun c_10 => ?_)
        · rw [if_pos c_10] at hsp
          refine lv_aload_n hx hb dX13_make__97 rfl (lv_at hl 1 rfl) ?_
          refine lv_dup hx hb dX13_make__98 rfl ?_
          refine va_get (D := (dC, dI)) (ci := 13) (v := .int x142_74) (C := RX13) (T := TX13) (N := 155) hx hb hts uV_h9_X13 hown hK hP 0 rfl rfl 142 (by decide) (hts (.fieldLink RX13 1052 "ClassMillModel" "fieldsMade" "I") mw_h9_368) (fun _ h9 => h9) hfh_74_142 dX13_make__99 ?_
          refine lv_iload_n hx hb dX13_make__102 rfl (lv_at hl 2 rfl) ?_
          refine lv_iadd hx hb dX13_make__103 ?_
          refine va_put (D := (dC, dI)) (ci := 13) (v := .int (x142_74 + l2_74)) (ty := .int) (C := RX13) (T := TX13) (N := 155) hx hb hts uV_h9_X13 tyX13 tyX13_ok nmX13 hown hK hP hD hS 0 rfl rfl 142 (by decide) (hts (.fieldLink RX13 1052 "ClassMillModel" "fieldsMade" "I") mw_h9_368) (fun _ h9 => h9) rfl (by decide +kernel) rfl rfl (by rw [hlh_74]; decide) dX13_make__104 ?_
          clear hP hD hS
          intro H locs hP hD hS
          obtain ⟨fs_11, efs_11⟩ : ∃ zf : List Value, zf = z74.set 142 (.int (x142_74 + l2_74)) := ⟨_, rfl⟩
          rw [← efs_11] at hP hD
          have hlfs_11 : fs_11.length = 155 := by rw [efs_11, List.length_set]; exact hlh_74
          have hfs_11_138 : fs_11[138]? = some (.int x138_74) := by rw [efs_11, List.getElem?_set_ne (by decide)]; exact hfh_74_138
          have hfs_11_141 : fs_11[141]? = some (.int x141_74) := by rw [efs_11, List.getElem?_set_ne (by decide)]; exact hfh_74_141
          have hfs_11_144 : fs_11[144]? = some (.ref qf144) := by rw [efs_11, List.getElem?_set_ne (by decide)]; exact hfh_74_144
          have hfs_11_145 : fs_11[145]? = some (.ref qf145) := by rw [efs_11, List.getElem?_set_ne (by decide)]; exact hfh_74_145
          have hfs_11_146 : fs_11[146]? = some (.ref qf146) := by rw [efs_11, List.getElem?_set_ne (by decide)]; exact hfh_74_146
          have hfs_11_147 : fs_11[147]? = some (.ref qf147) := by rw [efs_11, List.getElem?_set_ne (by decide)]; exact hfh_74_147
          have hfs_11_142 : fs_11[142]? = some (.int (x142_74 + l2_74)) := by rw [efs_11, List.getElem?_set_self (by rw [hlh_74]; decide)]
          replace hP : va_P (dC, dI) vwCl [(h0, .inr (13, fs_11)), (qf144, .inl (cf144, 2001, .inl g144_74)), (qf145, .inl (cf145, 2001, .inl g145_74)), (qf146, .inl (cf146, 2001, .inl g146_74)), (qf147, .inl (cf147, 20000, .inl g147_74))] H := hP
          replace hD : va_D A [(h0, .inr (13, fs_11)), (qf144, .inl (cf144, 2001, .inl g144_74)), (qf145, .inl (cf145, 2001, .inl g145_74)), (qf146, .inl (cf146, 2001, .inl g146_74)), (qf147, .inl (cf147, 20000, .inl g147_74))] := hD
          have hrs_12 : ∀ j : Nat, j ≠ 138 → j ≠ 141 → j ≠ 142 → fs_11[j]? = zs[j]? := fun j g138 g141 g142 => ((congrArg (fun z : List Value => z[j]?) efs_11).trans (List.getElem?_set_ne (Ne.symm g142))).trans (hrh_74 j g138 g141 g142)
          refine lv_aload_n hx hb dX13_make__107 rfl (lv_at hl 1 rfl) ?_
          refine va_get (D := (dC, dI)) (ci := 13) (v := .int x141_74) (C := RX13) (T := TX13) (N := 155) hx hb hts uV_h9_X13 hown hK hP 0 rfl rfl 141 (by decide) (hts (.fieldLink RX13 1049 "ClassMillModel" "objects" "I") mw_h9_367) (fun _ h9 => h9) hfs_11_141 dX13_make__108 ?_
          have hr0 := Option.some.inj hsp
          clear hsp
          obtain ⟨hq0, hr1⟩ := Prod.mk.inj hr0
          clear hr0
          obtain ⟨hq1, hr2⟩ := Prod.mk.inj hr1
          clear hr1
          obtain ⟨hq2, hr3⟩ := Prod.mk.inj hr2
          clear hr2
          obtain ⟨hq3, hr4⟩ := Prod.mk.inj hr3
          clear hr3
          obtain ⟨hq4, hr5⟩ := Prod.mk.inj hr4
          clear hr4
          obtain ⟨hq5, hr6⟩ := Prod.mk.inj hr5
          clear hr5
          obtain ⟨hq6, hr7⟩ := Prod.mk.inj hr6
          clear hr6
          subst hq0
          subst hq1
          subst hq2
          subst hq3
          subst hq4
          subst hq5
          subst hq6
          subst hr7
          have hP9 := hP.sub (ws' := [(h0, .inr (13, fs_11)), (qf144, .inl (cf144, 2001, .inl g144_74)), (qf145, .inl (cf145, 2001, .inl g145_74)), (qf146, .inl (cf146, 2001, .inl g146_74)), (qf147, .inl (cf147, 20000, .inl g147_74))]) [0, 1, 2, 3, 4] rfl
          have hD9 := hD.sub (ws' := [(h0, .inr (13, fs_11)), (qf144, .inl (cf144, 2001, .inl g144_74)), (qf145, .inl (cf145, 2001, .inl g145_74)), (qf146, .inl (cf146, 2001, .inl g146_74)), (qf147, .inl (cf147, 20000, .inl g147_74))]) [0, 1, 2, 3, 4] (by decide) rfl
          have hK9 := hK.sub (tys' := [(cf144, .int), (cf145, .int), (cf146, .int), (cf147, .int)]) [0, 1, 2, 3] rfl
          exact W.iret hx hb hr (fun t ht hW => ⟨⟨(x141_74), (fs_11), rfl, ⟨rfl, hlfs_11, hrs_12, hfs_11_138, hfs_11_141, hfs_11_142⟩, by rw [ht]; exact hP9, va_K.moved hW.alike hK9, hD9⟩, hS.F ht⟩) hS.2.2 dX13_make__111
        · rw [if_neg c_10] at hsp
          refine lv_aload_n hx hb dX13_make__79 rfl (lv_at hl 1 rfl) ?_
          refine va_get (D := (dC, dI)) (ci := 13) (v := .ref qf147) (C := RX13) (T := TX13) (N := 155) hx hb hts uV_h9_X13 hown hK hP 0 rfl rfl 147 (by decide) (hts (.fieldLink RX13 288 "ClassMillModel" "values" "[I") mw_h9_374) (fun _ h9 => h9) hfh_74_147 dX13_make__80 ?_
          refine lv_aload_n hx hb dX13_make__83 rfl (lv_at hl 1 rfl) ?_
          refine va_get (D := (dC, dI)) (ci := 13) (v := .int x142_74) (C := RX13) (T := TX13) (N := 155) hx hb hts uV_h9_X13 hown hK hP 0 rfl rfl 142 (by decide) (hts (.fieldLink RX13 1052 "ClassMillModel" "fieldsMade" "I") mw_h9_368) (fun _ h9 => h9) hfh_74_142 dX13_make__84 ?_
          refine lv_iload_n hx hb dX13_make__87 rfl (lv_at hl 0 rfl) ?_
          refine lv_iadd hx hb dX13_make__88 ?_
          refine lv_iconst (v := 0) hx hb dX13_make__89 (by decide) ?_
          obtain ⟨hi_13, hsp⟩ := ox_in hsp
          refine va_iast hx hb hK hP hD hS 4 3 rfl rfl (i := (x142_74 + l3_74)) (x := 0) hi_13 dX13_make__90 ?_
          clear hP hD hS
          intro H locs hP hD hS
          replace hP : va_P (dC, dI) vwCl [(h0, .inr (13, z74)), (qf144, .inl (cf144, 2001, .inl g144_74)), (qf145, .inl (cf145, 2001, .inl g145_74)), (qf146, .inl (cf146, 2001, .inl g146_74)), (qf147, .inl (cf147, 20000, .inl (upd g147_74 ((x142_74 + l3_74) : Int32).toNatClampNeg 0)))] H := hP
          replace hD : va_D A [(h0, .inr (13, z74)), (qf144, .inl (cf144, 2001, .inl g144_74)), (qf145, .inl (cf145, 2001, .inl g145_74)), (qf146, .inl (cf146, 2001, .inl g146_74)), (qf147, .inl (cf147, 20000, .inl (upd g147_74 ((x142_74 + l3_74) : Int32).toNatClampNeg 0)))] := hD
          refine lv_iinc (v := (l3_74 + 1)) (lv' := [(3, .int (l3_74 + 1)), (0, .ref h0), (2, .int l2_74)]) hx hb dX13_make__91 hl (k := 0) rfl rfl (by decide) rfl (fun ls hl => ?_)
          refine lv_goto (tgt := 74) hx hb dX13_make__94 (by decide) ?_
          exact ih_74 H locs ls z74 l2_74 (l3_74 + 1) g144_74 g145_74 g146_74 (upd g147_74 ((x142_74 + l3_74) : Int32).toNatClampNeg 0) x138_74 x141_74 x142_74 (hfh_74_138) (hfh_74_141) (hfh_74_142) (hfh_74_144) (hfh_74_145) (hfh_74_146) (hfh_74_147) hlh_74 hrh_74 (lv_sub hl [0, 1, 2] rfl) hS (hD.sub (ws' := [(h0, .inr (13, z74)), (qf144, .inl (cf144, 2001, .inl g144_74)), (qf145, .inl (cf145, 2001, .inl g145_74)), (qf146, .inl (cf146, 2001, .inl g146_74)), (qf147, .inl (cf147, 20000, .inl (upd g147_74 ((x142_74 + l3_74) : Int32).toNatClampNeg 0)))]) [0, 1, 2, 3, 4] (by decide) rfl) (hP.sub (ws' := [(h0, .inr (13, z74)), (qf144, .inl (cf144, 2001, .inl g144_74)), (qf145, .inl (cf145, 2001, .inl g145_74)), (qf146, .inl (cf146, 2001, .inl g146_74)), (qf147, .inl (cf147, 20000, .inl (upd g147_74 ((x142_74 + l3_74) : Int32).toNatClampNeg 0)))]) [0, 1, 2, 3, 4] rfl) hsp
    · rw [if_neg c_4] at hsp
      refine lv_aload_n hx hb dX13_make__22 rfl (lv_at hl 0 rfl) ?_
      refine lv_iconst (v := 4) hx hb dX13_make__23 (by decide) ?_
      refine va_put (D := (dC, dI)) (ci := 13) (v := .int 4) (ty := .int) (C := RX13) (T := TX13) (N := 155) hx hb hts uV_h9_X13 tyX13 tyX13_ok nmX13 hown hK hP hD hS 0 rfl rfl 138 (by decide) (hts (.fieldLink RX13 858 "ClassMillModel" "state" "I") mw_h9_364) (fun _ h9 => h9) rfl (by decide +kernel) rfl rfl (by rw [hlen]; decide) dX13_make__24 ?_
      clear hP hD hS
      intro H locs hP hD hS
      obtain ⟨fs_14, efs_14⟩ : ∃ zf : List Value, zf = zs.set 138 (.int 4) := ⟨_, rfl⟩
      rw [← efs_14] at hP hD
      have hlfs_14 : fs_14.length = 155 := by rw [efs_14, List.length_set]; exact hlen
      have hfs_14_141 : fs_14[141]? = some (.int v141) := by rw [efs_14, List.getElem?_set_ne (by decide)]; exact hf141
      have hfs_14_142 : fs_14[142]? = some (.int v142) := by rw [efs_14, List.getElem?_set_ne (by decide)]; exact hf142
      have hfs_14_144 : fs_14[144]? = some (.ref qf144) := by rw [efs_14, List.getElem?_set_ne (by decide)]; exact hf144
      have hfs_14_145 : fs_14[145]? = some (.ref qf145) := by rw [efs_14, List.getElem?_set_ne (by decide)]; exact hf145
      have hfs_14_146 : fs_14[146]? = some (.ref qf146) := by rw [efs_14, List.getElem?_set_ne (by decide)]; exact hf146
      have hfs_14_147 : fs_14[147]? = some (.ref qf147) := by rw [efs_14, List.getElem?_set_ne (by decide)]; exact hf147
      have hfs_14_138 : fs_14[138]? = some (.int 4) := by rw [efs_14, List.getElem?_set_self (by rw [hlen]; decide)]
      replace hP : va_P (dC, dI) vwCl [(h0, .inr (13, fs_14)), (qf144, .inl (cf144, 2001, .inl f144)), (qf145, .inl (cf145, 2001, .inl f145)), (qf146, .inl (cf146, 2001, .inl f146)), (qf147, .inl (cf147, 20000, .inl f147))] H := hP
      replace hD : va_D A [(h0, .inr (13, fs_14)), (qf144, .inl (cf144, 2001, .inl f144)), (qf145, .inl (cf145, 2001, .inl f145)), (qf146, .inl (cf146, 2001, .inl f146)), (qf147, .inl (cf147, 20000, .inl f147))] := hD
      have hrs_15 : ∀ j : Nat, j ≠ 138 → j ≠ 141 → j ≠ 142 → fs_14[j]? = zs[j]? := fun j g138 g141 g142 => ((congrArg (fun z : List Value => z[j]?) efs_14).trans (List.getElem?_set_ne (Ne.symm g138))).trans (hrs0 j g138 g141 g142)
      refine lv_iconst (v := 0) hx hb dX13_make__27 (by decide) ?_
      have hr0 := Option.some.inj hsp
      clear hsp
      obtain ⟨hq0, hr1⟩ := Prod.mk.inj hr0
      clear hr0
      obtain ⟨hq1, hr2⟩ := Prod.mk.inj hr1
      clear hr1
      obtain ⟨hq2, hr3⟩ := Prod.mk.inj hr2
      clear hr2
      obtain ⟨hq3, hr4⟩ := Prod.mk.inj hr3
      clear hr3
      obtain ⟨hq4, hr5⟩ := Prod.mk.inj hr4
      clear hr4
      obtain ⟨hq5, hr6⟩ := Prod.mk.inj hr5
      clear hr5
      obtain ⟨hq6, hr7⟩ := Prod.mk.inj hr6
      clear hr6
      subst hq0
      subst hq1
      subst hq2
      subst hq3
      subst hq4
      subst hq5
      subst hq6
      subst hr7
      have hP9 := hP.sub (ws' := [(h0, .inr (13, fs_14)), (qf144, .inl (cf144, 2001, .inl f144)), (qf145, .inl (cf145, 2001, .inl f145)), (qf146, .inl (cf146, 2001, .inl f146)), (qf147, .inl (cf147, 20000, .inl f147))]) [0, 1, 2, 3, 4] rfl
      have hD9 := hD.sub (ws' := [(h0, .inr (13, fs_14)), (qf144, .inl (cf144, 2001, .inl f144)), (qf145, .inl (cf145, 2001, .inl f145)), (qf146, .inl (cf146, 2001, .inl f146)), (qf147, .inl (cf147, 20000, .inl f147))]) [0, 1, 2, 3, 4] (by decide) rfl
      have hK9 := hK.sub (tys' := [(cf144, .int), (cf145, .int), (cf146, .int), (cf147, .int)]) [0, 1, 2, 3] rfl
      exact W.iret hx hb hr (fun t ht hW => ⟨⟨(0), (fs_14), rfl, ⟨rfl, hlfs_14, hrs_15, hfs_14_138, hfs_14_141, hfs_14_142⟩, by rw [ht]; exact hP9, va_K.moved hW.alike hK9, hD9⟩, hS.F ht⟩) hS.2.2 dX13_make__28
def jn_vm_reckon_188 (nf : Nat) (a1 : Int32) (a2 : Int32) (a3 : Int32)  (l1_188 : Int32) (l2_188 : Int32) : Option (Int32) := (some (l1_188 ^^^ l2_188))
def sp_vm_reckon (nf : Nat) (a1 : Int32) (a2 : Int32) (a3 : Int32) : Option (Int32) := (if a1 = 96 then (some (a2 + a3)) else (if a1 = 97 then (jn_vm_reckon_188 nf a1 a2 a3  a2 a3) else (if a1 = 98 then (jn_vm_reckon_188 nf a1 a2 a3  a2 a3) else (if a1 = 99 then (jn_vm_reckon_188 nf a1 a2 a3  a2 a3) else (if a1 = 100 then (some (a2 - a3)) else (if a1 = 101 then (jn_vm_reckon_188 nf a1 a2 a3  a2 a3) else (if a1 = 102 then (jn_vm_reckon_188 nf a1 a2 a3  a2 a3) else (if a1 = 103 then (jn_vm_reckon_188 nf a1 a2 a3  a2 a3) else (if a1 = 104 then (some (a2 * a3)) else (if a1 = 105 then (jn_vm_reckon_188 nf a1 a2 a3  a2 a3) else (if a1 = 106 then (jn_vm_reckon_188 nf a1 a2 a3  a2 a3) else (if a1 = 107 then (jn_vm_reckon_188 nf a1 a2 a3  a2 a3) else (if a1 = 108 then (if a3 = 0 then none else (some (a2 / a3))) else (if a1 = 109 then (jn_vm_reckon_188 nf a1 a2 a3  a2 a3) else (if a1 = 110 then (jn_vm_reckon_188 nf a1 a2 a3  a2 a3) else (if a1 = 111 then (jn_vm_reckon_188 nf a1 a2 a3  a2 a3) else (if a1 = 112 then (if a3 = 0 then none else (some (a2 - a2 / a3 * a3))) else (if a1 = 113 then (jn_vm_reckon_188 nf a1 a2 a3  a2 a3) else (if a1 = 114 then (jn_vm_reckon_188 nf a1 a2 a3  a2 a3) else (if a1 = 115 then (jn_vm_reckon_188 nf a1 a2 a3  a2 a3) else (if a1 = 116 then (jn_vm_reckon_188 nf a1 a2 a3  a2 a3) else (if a1 = 117 then (jn_vm_reckon_188 nf a1 a2 a3  a2 a3) else (if a1 = 118 then (jn_vm_reckon_188 nf a1 a2 a3  a2 a3) else (if a1 = 119 then (jn_vm_reckon_188 nf a1 a2 a3  a2 a3) else (if a1 = 120 then (some (a2 <<< (a3 &&& 31))) else (if a1 = 121 then (jn_vm_reckon_188 nf a1 a2 a3  a2 a3) else (if a1 = 122 then (some (a2 >>> (a3 &&& 31))) else (if a1 = 123 then (jn_vm_reckon_188 nf a1 a2 a3  a2 a3) else (if a1 = 124 then (some ((a2 : Int32).toUInt32 >>> ((a3 : Int32).toUInt32 &&& Int32.toUInt32 31)).toInt32) else (if a1 = 125 then (jn_vm_reckon_188 nf a1 a2 a3  a2 a3) else (if a1 = 126 then (some (a2 &&& a3)) else (if a1 = 127 then (jn_vm_reckon_188 nf a1 a2 a3  a2 a3) else (if a1 = 128 then (some (a2 ||| a3)) else (jn_vm_reckon_188 nf a1 a2 a3  a2 a3))))))))))))))))))))))))))))))))))
