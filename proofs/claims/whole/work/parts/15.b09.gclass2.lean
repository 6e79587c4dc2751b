set_option maxHeartbeats 4000000 in
set_option maxRecDepth 100000 in
/-- ClassMill$Heads.fieldIn -/
theorem t2_fieldIn (l : Launch) (dC : Nat → ClassId) (dI : Nat → Nat → Nat) (sz : Nat) (h0 : Nat) (a1 : Int32) (a2 : Int32) (qf0 : Nat) (qf1 : Nat) (v2 : Int32) (qf3 : Nat) (qf4 : Nat) (qf5 : Nat) (qf6 : Nat) (qf7 : Nat) (qf8 : Nat) (qf9 : Nat) (qf10 : Nat) (qf11 : Nat) (qf12 : Nat) (qf13 : Nat) (qf14 : Nat) (qf15 : Nat) (qf16 : Nat) (qf17 : Nat) (qf18 : Nat) (qf19 : Nat) (v20 : Int32) (cf5 : ClassId) (f5 : (Nat → Int32)) (cf6 : ClassId) (f6 : (Nat → Int32)) (nf : Nat) (r0 : Int32) (hsp : sp_t2_fieldIn nf a1 a2 f5 f6 = some r0) : Met l yX2_fieldIn (.code yX2_fieldIn cX2_fieldIn 4 (some .int) :: VS_h4) ({ frames := 0, cells := 0, slots := 0, locals := 0 }) (va_Pc [.ref h0, .int a1, .int a2] (fun U => U.heap.size = sz ∧ va_P (dC, dI) vwCl [(h0, .inr (2, [.ref qf0, .ref qf1, .int v2, .ref qf3, .ref qf4, .ref qf5, .ref qf6, .ref qf7, .ref qf8, .ref qf9, .ref qf10, .ref qf11, .ref qf12, .ref qf13, .ref qf14, .ref qf15, .ref qf16, .ref qf17, .ref qf18, .ref qf19, .int v20])), (qf5, .inl (cf5, 8, .inl f5)), (qf6, .inl (cf6, 96, .inl f6))] U.heap ∧ va_K (dC, dI) vwCl [(cf5, .int), (cf6, .int)] U ∧ va_D (fun _ => True) [(h0, .inr (2, [.ref qf0, .ref qf1, .int v2, .ref qf3, .ref qf4, .ref qf5, .ref qf6, .ref qf7, .ref qf8, .ref qf9, .ref qf10, .ref qf11, .ref qf12, .ref qf13, .ref qf14, .ref qf15, .ref qf16, .ref qf17, .ref qf18, .ref qf19, .int v20])), (qf5, .inl (cf5, 8, .inl f5)), (qf6, .inl (cf6, 96, .inl f6))])) (va_Qi (fun (r : Int32) (u : Unit) => match u with | () => r0 = r) (fun (u : Unit) (t : State) => match u with | () => va_P (dC, dI) vwCl [(h0, .inr (2, [.ref qf0, .ref qf1, .int v2, .ref qf3, .ref qf4, .ref qf5, .ref qf6, .ref qf7, .ref qf8, .ref qf9, .ref qf10, .ref qf11, .ref qf12, .ref qf13, .ref qf14, .ref qf15, .ref qf16, .ref qf17, .ref qf18, .ref qf19, .int v20])), (qf5, .inl (cf5, 8, .inl f5)), (qf6, .inl (cf6, 96, .inl f6))] t.heap ∧ va_K (dC, dI) vwCl [(cf5, .int), (cf6, .int)] t ∧ va_D (va_A [(h0, .inr (2, [.ref qf0, .ref qf1, .int v2, .ref qf3, .ref qf4, .ref qf5, .ref qf6, .ref qf7, .ref qf8, .ref qf9, .ref qf10, .ref qf11, .ref qf12, .ref qf13, .ref qf14, .ref qf15, .ref qf16, .ref qf17, .ref qf18, .ref qf19, .int v20])), (qf5, .inl (cf5, 8, .inl f5)), (qf6, .inl (cf6, 96, .inl f6))] sz) [(h0, .inr (2, [.ref qf0, .ref qf1, .int v2, .ref qf3, .ref qf4, .ref qf5, .ref qf6, .ref qf7, .ref qf8, .ref qf9, .ref qf10, .ref qf11, .ref qf12, .ref qf13, .ref qf14, .ref qf15, .ref qf16, .ref qf17, .ref qf18, .ref qf19, .int v20])), (qf5, .inl (cf5, 8, .inl f5)), (qf6, .inl (cf6, 96, .inl f6))]) (va_A [(h0, .inr (2, [.ref qf0, .ref qf1, .int v2, .ref qf3, .ref qf4, .ref qf5, .ref qf6, .ref qf7, .ref qf8, .ref qf9, .ref qf10, .ref qf11, .ref qf12, .ref qf13, .ref qf14, .ref qf15, .ref qf16, .ref qf17, .ref qf18, .ref qf19, .int v20])), (qf5, .inl (cf5, 8, .inl f5)), (qf6, .inl (cf6, 96, .inl f6))] sz)) 0 0 (va_A [(h0, .inr (2, [.ref qf0, .ref qf1, .int v2, .ref qf3, .ref qf4, .ref qf5, .ref qf6, .ref qf7, .ref qf8, .ref qf9, .ref qf10, .ref qf11, .ref qf12, .ref qf13, .ref qf14, .ref qf15, .ref qf16, .ref qf17, .ref qf18, .ref qf19, .int v20])), (qf5, .inl (cf5, 8, .inl f5)), (qf6, .inl (cf6, 96, .inl f6))] sz) := by
  refine Met.ofW (cc := cX2_fieldIn) (maxL := 4) (ret := (some .int)) (by decide) rfl ?_
  intro p e s m args below meth c s₁ B hml hv
  obtain ⟨rfl, hsz, hP, hK, hD0⟩ := hv
  have hx := B.exec
  have hb := B.bytes
  have hr := B.returns
  have hts := atoms_spec (ws := (.code yX2_fieldIn cX2_fieldIn 4 (some .int) :: VS_h4)) B.pre
  replace hts := fun w (h : w ∈ VS_h4) => hts w (List.mem_cons_of_mem _ h)
  have hown : s.vm.findClass RX2 = some m.cls := findClass_of_methodNamed B.named
  have hlocks := B.notSynchronized
  subst hsz
  have hD := hD0.self (sz := s.heap.size)
  generalize hAe : va_A [(h0, .inr (2, [.ref qf0, .ref qf1, .int v2, .ref qf3, .ref qf4, .ref qf5, .ref qf6, .ref qf7, .ref qf8, .ref qf9, .ref qf10, .ref qf11, .ref qf12, .ref qf13, .ref qf14, .ref qf15, .ref qf16, .ref qf17, .ref qf18, .ref qf19, .int v20])), (qf5, .inl (cf5, 8, .inl f5)), (qf6, .inl (cf6, 96, .inl f6))] s.heap.size = A at hD  ⊢
  have hA : ∀ q : Nat, s.heap.size ≤ q → A q := fun q h => by rw [← hAe]; exact Or.inr h
  have hP : va_P (dC, dI) vwCl [(h0, .inr (2, [.ref qf0, .ref qf1, .int v2, .ref qf3, .ref qf4, .ref qf5, .ref qf6, .ref qf7, .ref qf8, .ref qf9, .ref qf10, .ref qf11, .ref qf12, .ref qf13, .ref qf14, .ref qf15, .ref qf16, .ref qf17, .ref qf18, .ref qf19, .int v20])), (qf5, .inl (cf5, 8, .inl f5)), (qf6, .inl (cf6, 96, .inl f6))] s.heap := hP
  have hl := lv_entry ([.ref h0, .int a1, .int a2]) (n := 4) (Nat.le_of_ble_eq_true rfl)
  rw [lg_entry_eq]
  generalize (lg_sl ([.ref h0, .int a1, .int a2]) ++ List.replicate (4 - (lg_sl ([.ref h0, .int a1, .int a2])).length) Slot.unset).toArray = ls at hl ⊢
  have hl : lv_has ls 4 [(0, .ref h0), (1, .int a1), (2, .int a2)] := hl
  obtain ⟨H, hH⟩ : ∃ H : Heap, s.heap = H := ⟨_, rfl⟩
  rw [hH] at hP ⊢
  have hS : va_S A s.heap H [] := by rw [← hH]; exact va_S.rf
  obtain ⟨locs, hlo⟩ : ∃ locs : List Loc, locs = [] := ⟨_, rfl⟩
  rw [← hlo] at hS ⊢
  unfold sp_t2_fieldIn at hsp
  refine lv_iconst (v := 0) hx hb dX2_fieldIn_0 (by decide) ?_
  refine lv_istore_n (lv' := [(3, .int 0), (0, .ref h0), (1, .int a1), (2, .int a2)]) hx hb dX2_fieldIn_1 rfl hl (by decide) rfl (fun ls hl => ?_)
  replace hP := hP.sub (ws' := [(h0, .inr (2, [.ref qf0, .ref qf1, .int v2, .ref qf3, .ref qf4, .ref qf5, .ref qf6, .ref qf7, .ref qf8, .ref qf9, .ref qf10, .ref qf11, .ref qf12, .ref qf13, .ref qf14, .ref qf15, .ref qf16, .ref qf17, .ref qf18, .ref qf19, .int v20])), (qf5, .inl (cf5, 8, .inl f5)), (qf6, .inl (cf6, 96, .inl f6))]) [0, 1, 2] rfl
  replace hD := hD.sub (ws' := [(h0, .inr (2, [.ref qf0, .ref qf1, .int v2, .ref qf3, .ref qf4, .ref qf5, .ref qf6, .ref qf7, .ref qf8, .ref qf9, .ref qf10, .ref qf11, .ref qf12, .ref qf13, .ref qf14, .ref qf15, .ref qf16, .ref qf17, .ref qf18, .ref qf19, .int v20])), (qf5, .inl (cf5, 8, .inl f5)), (qf6, .inl (cf6, 96, .inl f6))]) [0, 1, 2] (by decide) rfl
  replace hK := hK.sub (tys' := [(cf5, .int), (cf6, .int)]) [0, 1] rfl
  obtain ⟨n_2, hn_2⟩ : ∃ z : Nat, z = nf := ⟨_, rfl⟩
  obtain ⟨l1_2, el1_2⟩ : ∃ z : Int32, z = a1 := ⟨_, rfl⟩
  obtain ⟨l2_2, el2_2⟩ : ∃ z : Int32, z = a2 := ⟨_, rfl⟩
  obtain ⟨l3_2, el3_2⟩ : ∃ z : Int32, z = 0 := ⟨_, rfl⟩
  replace hsp : lp_t2_fieldIn_2 nf n_2 a1 a2 f5 f6 l1_2 l2_2 l3_2 = some r0 := by rw [hn_2, el1_2, el2_2, el3_2]; exact hsp
  replace hl : lv_has ls 4 [(3, .int l3_2), (0, .ref h0), (1, .int l1_2), (2, .int l2_2)] := by rw [el1_2, el2_2, el3_2]; exact hl
  clear hn_2 el1_2 el2_2 el3_2
  try clear hlo
  try clear hH
  revert hsp
  revert hP
  revert hD
  revert hS
  revert hl
  revert l3_2
  revert l2_2
  revert l1_2
  revert ls
  revert locs
  revert H
  induction n_2 with
  | zero => intro H locs ls l1_2 l2_2 l3_2 hl hS hD hP hsp; unfold lp_t2_fieldIn_2 at hsp; cases hsp
  | succ n_2 ih_2 =>
    intro H locs ls l1_2 l2_2 l3_2 hl hS hD hP hsp
    unfold lp_t2_fieldIn_2 at hsp
    try dsimp only at hsp
    refine lv_iload_n hx hb dX2_fieldIn_2 rfl (lv_at hl 0 rfl) ?_
    refine lv_aload_n hx hb dX2_fieldIn_3 rfl (lv_at hl 1 rfl) ?_
    refine va_get (D := (dC, dI)) (ci := 2) (v := .ref qf5) (C := RX2) (T := TX2) (N := 21) hx hb hts uV_h4_X2 hown hK hP 0 rfl rfl 5 (by decide) (hts (.fieldLink RX2 27 "ClassMill$Heads" "fields" "[I") mw_h4_177) (fun _ h9 => h9) rfl dX2_fieldIn_4 ?_
    refine lv_iload_n hx hb dX2_fieldIn_7 rfl (lv_at hl 2 rfl) ?_
    obtain ⟨hi_1, hsp⟩ := ox_in hsp
    refine va_iald hx hb hK hP 1 0 rfl rfl (i := l1_2) hi_1 dX2_fieldIn_8 ?_
    refine lv_icmp_ge (tgt := 40) hx hb dX2_fieldIn_9 (by decide) (fun c_2 => ?_) (fun c_2 => ?_)
    · rw [if_pos c_2] at hsp
      refine lv_iconst (v := (-1)) hx hb dX2_fieldIn_40 (by decide) ?_
      have hr0 := Option.some.inj hsp
      clear hsp
      subst hr0
      have hP9 := hP.sub (ws' := [(h0, .inr (2, [.ref qf0, .ref qf1, .int v2, .ref qf3, .ref qf4, .ref qf5, .ref qf6, .ref qf7, .ref qf8, .ref qf9, .ref qf10, .ref qf11, .ref qf12, .ref qf13, .ref qf14, .ref qf15, .ref qf16, .ref qf17, .ref qf18, .ref qf19, .int v20])), (qf5, .inl (cf5, 8, .inl f5)), (qf6, .inl (cf6, 96, .inl f6))]) [0, 1, 2] rfl
      have hD9 := hD.sub (ws' := [(h0, .inr (2, [.ref qf0, .ref qf1, .int v2, .ref qf3, .ref qf4, .ref qf5, .ref qf6, .ref qf7, .ref qf8, .ref qf9, .ref qf10, .ref qf11, .ref qf12, .ref qf13, .ref qf14, .ref qf15, .ref qf16, .ref qf17, .ref qf18, .ref qf19, .int v20])), (qf5, .inl (cf5, 8, .inl f5)), (qf6, .inl (cf6, 96, .inl f6))]) [0, 1, 2] (by decide) rfl
      have hK9 := hK.sub (tys' := [(cf5, .int), (cf6, .int)]) [0, 1] rfl
      exact W.iret hx hb hr (fun t ht hW => ⟨⟨((-1)), (), rfl, rfl, by rw [ht]; exact hP9, va_K.moved hW.alike hK9, hD9⟩, hS.F ht⟩) hS.2.2 dX2_fieldIn_41
    · rw [if_neg c_2] at hsp
      refine lv_aload_n hx hb dX2_fieldIn_12 rfl (lv_at hl 1 rfl) ?_
      refine va_get (D := (dC, dI)) (ci := 2) (v := .ref qf6) (C := RX2) (T := TX2) (N := 21) hx hb hts uV_h4_X2 hown hK hP 0 rfl rfl 6 (by decide) (hts (.fieldLink RX2 30 "ClassMill$Heads" "fieldName" "[I") mw_h4_178) (fun _ h9 => h9) rfl dX2_fieldIn_13 ?_
      refine lv_iload_n hx hb dX2_fieldIn_16 rfl (lv_at hl 2 rfl) ?_
      refine lv_bipush (v := 12) hx hb dX2_fieldIn_17 (by decide) ?_
      refine lv_imul hx hb dX2_fieldIn_19 ?_
      refine lv_iload_n hx hb dX2_fieldIn_20 rfl (lv_at hl 0 rfl) ?_
      refine lv_iadd hx hb dX2_fieldIn_21 ?_
      obtain ⟨hi_3, hsp⟩ := ox_in hsp
      refine va_iald hx hb hK hP 2 1 rfl rfl (i := ((l1_2 * 12) + l3_2)) hi_3 dX2_fieldIn_22 ?_
      refine lv_iload_n hx hb dX2_fieldIn_23 rfl (lv_at hl 3 rfl) ?_
      refine lv_icmp_ne (tgt := 34) hx hb dX2_fieldIn_24 (by decide) (fun c_4 => ?_) (fun c_4 => ?_)
      · rw [if_neg c_4] at hsp
        refine lv_iinc (v := (l3_2 + 1)) (lv' := [(3, .int (l3_2 + 1)), (0, .ref h0), (1, .int l1_2), (2, .int l2_2)]) hx hb dX2_fieldIn_34 hl (k := 0) rfl rfl (by decide) rfl (fun ls hl => ?_)
        refine lv_goto (tgt := 2) hx hb dX2_fieldIn_37 (by decide) ?_
        exact ih_2 H locs ls l1_2 l2_2 (l3_2 + 1) (lv_sub hl [0, 1, 2, 3] rfl) hS (hD.sub (ws' := [(h0, .inr (2, [.ref qf0, .ref qf1, .int v2, .ref qf3, .ref qf4, .ref qf5, .ref qf6, .ref qf7, .ref qf8, .ref qf9, .ref qf10, .ref qf11, .ref qf12, .ref qf13, .ref qf14, .ref qf15, .ref qf16, .ref qf17, .ref qf18, .ref qf19, .int v20])), (qf5, .inl (cf5, 8, .inl f5)), (qf6, .inl (cf6, 96, .inl f6))]) [0, 1, 2] (by decide) rfl) (hP.sub (ws' := [(h0, .inr (2, [.ref qf0, .ref qf1, .int v2, .ref qf3, .ref qf4, .ref qf5, .ref qf6, .ref qf7, .ref qf8, .ref qf9, .ref qf10, .ref qf11, .ref qf12, .ref qf13, .ref qf14, .ref qf15, .ref qf16, .ref qf17, .ref qf18, .ref qf19, .int v20])), (qf5, .inl (cf5, 8, .inl f5)), (qf6, .inl (cf6, 96, .inl f6))]) [0, 1, 2] rfl) hsp
      · rw [if_pos c_4] at hsp
        refine lv_iload_n hx hb dX2_fieldIn_27 rfl (lv_at hl 2 rfl) ?_
        refine lv_bipush (v := 12) hx hb dX2_fieldIn_28 (by decide) ?_
        refine lv_imul hx hb dX2_fieldIn_30 ?_
        refine lv_iload_n hx hb dX2_fieldIn_31 rfl (lv_at hl 0 rfl) ?_
        refine lv_iadd hx hb dX2_fieldIn_32 ?_
        have hr0 := Option.some.inj hsp
        clear hsp
        subst hr0
        have hP9 := hP.sub (ws' := [(h0, .inr (2, [.ref qf0, .ref qf1, .int v2, .ref qf3, .ref qf4, .ref qf5, .ref qf6, .ref qf7, .ref qf8, .ref qf9, .ref qf10, .ref qf11, .ref qf12, .ref qf13, .ref qf14, .ref qf15, .ref qf16, .ref qf17, .ref qf18, .ref qf19, .int v20])), (qf5, .inl (cf5, 8, .inl f5)), (qf6, .inl (cf6, 96, .inl f6))]) [0, 1, 2] rfl
        have hD9 := hD.sub (ws' := [(h0, .inr (2, [.ref qf0, .ref qf1, .int v2, .ref qf3, .ref qf4, .ref qf5, .ref qf6, .ref qf7, .ref qf8, .ref qf9, .ref qf10, .ref qf11, .ref qf12, .ref qf13, .ref qf14, .ref qf15, .ref qf16, .ref qf17, .ref qf18, .ref qf19, .int v20])), (qf5, .inl (cf5, 8, .inl f5)), (qf6, .inl (cf6, 96, .inl f6))]) [0, 1, 2] (by decide) rfl
        have hK9 := hK.sub (tys' := [(cf5, .int), (cf6, .int)]) [0, 1] rfl
        exact W.iret hx hb hr (fun t ht hW => ⟨⟨(((l1_2 * 12) + l3_2)), (), rfl, rfl, by rw [ht]; exact hP9, va_K.moved hW.alike hK9, hD9⟩, hS.F ht⟩) hS.2.2 dX2_fieldIn_33
def lp_t2_methodIn_2 (nf n : Nat) (a1 : Int32) (a2 : Int32) (f9 : Nat → Int32) (f10 : Nat → Int32) (v0_3 : Int32) (f0_2 : Nat → Int32)  (l1_2 : Int32) (l2_2 : Int32) (l3_2 : Int32) : Option (Int32) := match n with
  | 0 => none
  | n + 1 => (if l1_2 < 0 then none else if 8 ≤ (l1_2 : Int32).toNatClampNeg then none else (if (f9 (l1_2 : Int32).toNatClampNeg) ≤ l3_2 then (some (-1)) else (if ((l1_2 * 12) + l3_2) < 0 then none else if 96 ≤ (((l1_2 * 12) + l3_2) : Int32).toNatClampNeg then none else ((sp_t9_valueAt nf (f10 (((l1_2 * 12) + l3_2) : Int32).toNatClampNeg) v0_3 f0_2).bind (fun p1 => (if p1 = l2_2 then (some ((l1_2 * 12) + l3_2)) else (lp_t2_methodIn_2 nf n a1 a2 f9 f10 v0_3 f0_2 l1_2 l2_2 (l3_2 + 1))))))))
def sp_t2_methodIn (nf : Nat) (a1 : Int32) (a2 : Int32) (f9 : Nat → Int32) (f10 : Nat → Int32) (v0_3 : Int32) (f0_2 : Nat → Int32) : Option (Int32) := (lp_t2_methodIn_2 nf nf a1 a2 f9 f10 v0_3 f0_2 a1 a2 0)
set_option maxHeartbeats 4000000 in
set_option maxRecDepth 100000 in
/-- ClassMill$Heads.methodIn -/
theorem t2_methodIn (l : Launch) (dC : Nat → ClassId) (dI : Nat → Nat → Nat) (sz : Nat) (h0 : Nat) (a1 : Int32) (a2 : Int32) (qf0 : Nat) (qf1 : Nat) (v2 : Int32) (qf3 : Nat) (qf4 : Nat) (qf5 : Nat) (qf6 : Nat) (qf7 : Nat) (qf8 : Nat) (qf9 : Nat) (qf10 : Nat) (qf11 : Nat) (qf12 : Nat) (qf13 : Nat) (qf14 : Nat) (qf15 : Nat) (qf16 : Nat) (qf17 : Nat) (qf18 : Nat) (qf19 : Nat) (v20 : Int32) (cf9 : ClassId) (f9 : (Nat → Int32)) (cf10 : ClassId) (f10 : (Nat → Int32)) (qf0_0 : Nat) (qf0_1 : Nat) (qf0_2 : Nat) (v0_3 : Int32) (qf0_4 : Nat) (qf0_5 : Nat) (qf0_6 : Nat) (qf0_7 : Nat) (qf0_8 : Nat) (v0_9 : Int32) (v0_10 : Int32) (v0_11 : Int32) (v0_12 : Int32) (cf0_2 : ClassId) (f0_2 : (Nat → Int32)) (nf : Nat) (r0 : Int32) (hsp : sp_t2_methodIn nf a1 a2 f9 f10 v0_3 f0_2 = some r0) : Met l yX2_methodIn (.code yX2_methodIn cX2_methodIn 4 (some .int) :: VS_h4) ({ frames := 1, cells := 0, slots := 0, locals := 21 }) (va_Pc [.ref h0, .int a1, .int a2] (fun U => U.heap.size = sz ∧ va_P (dC, dI) vwCl [(h0, .inr (2, [.ref qf0, .ref qf1, .int v2, .ref qf3, .ref qf4, .ref qf5, .ref qf6, .ref qf7, .ref qf8, .ref qf9, .ref qf10, .ref qf11, .ref qf12, .ref qf13, .ref qf14, .ref qf15, .ref qf16, .ref qf17, .ref qf18, .ref qf19, .int v20])), (qf9, .inl (cf9, 8, .inl f9)), (qf10, .inl (cf10, 96, .inl f10)), (qf0, .inr (9, [.ref qf0_0, .ref qf0_1, .ref qf0_2, .int v0_3, .ref qf0_4, .ref qf0_5, .ref qf0_6, .ref qf0_7, .ref qf0_8, .int v0_9, .int v0_10, .int v0_11, .int v0_12])), (qf0_2, .inl (cf0_2, 3001, .inl f0_2))] U.heap ∧ va_K (dC, dI) vwCl [(cf9, .int), (cf10, .int), (cf0_2, .int)] U ∧ va_D (fun _ => True) [(h0, .inr (2, [.ref qf0, .ref qf1, .int v2, .ref qf3, .ref qf4, .ref qf5, .ref qf6, .ref qf7, .ref qf8, .ref qf9, .ref qf10, .ref qf11, .ref qf12, .ref qf13, .ref qf14, .ref qf15, .ref qf16, .ref qf17, .ref qf18, .ref qf19, .int v20])), (qf9, .inl (cf9, 8, .inl f9)), (qf10, .inl (cf10, 96, .inl f10)), (qf0, .inr (9, [.ref qf0_0, .ref qf0_1, .ref qf0_2, .int v0_3, .ref qf0_4, .ref qf0_5, .ref qf0_6, .ref qf0_7, .ref qf0_8, .int v0_9, .int v0_10, .int v0_11, .int v0_12])), (qf0_2, .inl (cf0_2, 3001, .inl f0_2))])) (va_Qi (fun (r : Int32) (u : Unit) => match u with | () => r0 = r) (fun (u : Unit) (t : State) => match u with | () => va_P (dC, dI) vwCl [(h0, .inr (2, [.ref qf0, .ref qf1, .int v2, .ref qf3, .ref qf4, .ref qf5, .ref qf6, .ref qf7, .ref qf8, .ref qf9, .ref qf10, .ref qf11, .ref qf12, .ref qf13, .ref qf14, .ref qf15, .ref qf16, .ref qf17, .ref qf18, .ref qf19, .int v20])), (qf9, .inl (cf9, 8, .inl f9)), (qf10, .inl (cf10, 96, .inl f10)), (qf0, .inr (9, [.ref qf0_0, .ref qf0_1, .ref qf0_2, .int v0_3, .ref qf0_4, .ref qf0_5, .ref qf0_6, .ref qf0_7, .ref qf0_8, .int v0_9, .int v0_10, .int v0_11, .int v0_12])), (qf0_2, .inl (cf0_2, 3001, .inl f0_2))] t.heap ∧ va_K (dC, dI) vwCl [(cf9, .int), (cf10, .int), (cf0_2, .int)] t ∧ va_D (va_A [(h0, .inr (2, [.ref qf0, .ref qf1, .int v2, .ref qf3, .ref qf4, .ref qf5, .ref qf6, .ref qf7, .ref qf8, .ref qf9, .ref qf10, .ref qf11, .ref qf12, .ref qf13, .ref qf14, .ref qf15, .ref qf16, .ref qf17, .ref qf18, .ref qf19, .int v20])), (qf9, .inl (cf9, 8, .inl f9)), (qf10, .inl (cf10, 96, .inl f10)), (qf0, .inr (9, [.ref qf0_0, .ref qf0_1, .ref qf0_2, .int v0_3, .ref qf0_4, .ref qf0_5, .ref qf0_6, .ref qf0_7, .ref qf0_8, .int v0_9, .int v0_10, .int v0_11, .int v0_12])), (qf0_2, .inl (cf0_2, 3001, .inl f0_2))] sz) [(h0, .inr (2, [.ref qf0, .ref qf1, .int v2, .ref qf3, .ref qf4, .ref qf5, .ref qf6, .ref qf7, .ref qf8, .ref qf9, .ref qf10, .ref qf11, .ref qf12, .ref qf13, .ref qf14, .ref qf15, .ref qf16, .ref qf17, .ref qf18, .ref qf19, .int v20])), (qf9, .inl (cf9, 8, .inl f9)), (qf10, .inl (cf10, 96, .inl f10)), (qf0, .inr (9, [.ref qf0_0, .ref qf0_1, .ref qf0_2, .int v0_3, .ref qf0_4, .ref qf0_5, .ref qf0_6, .ref qf0_7, .ref qf0_8, .int v0_9, .int v0_10, .int v0_11, .int v0_12])), (qf0_2, .inl (cf0_2, 3001, .inl f0_2))]) (va_A [(h0, .inr (2, [.ref qf0, .ref qf1, .int v2, .ref qf3, .ref qf4, .ref qf5, .ref qf6, .ref qf7, .ref qf8, .ref qf9, .ref qf10, .ref qf11, .ref qf12, .ref qf13, .ref qf14, .ref qf15, .ref qf16, .ref qf17, .ref qf18, .ref qf19, .int v20])), (qf9, .inl (cf9, 8, .inl f9)), (qf10, .inl (cf10, 96, .inl f10)), (qf0, .inr (9, [.ref qf0_0, .ref qf0_1, .ref qf0_2, .int v0_3, .ref qf0_4, .ref qf0_5, .ref qf0_6, .ref qf0_7, .ref qf0_8, .int v0_9, .int v0_10, .int v0_11, .int v0_12])), (qf0_2, .inl (cf0_2, 3001, .inl f0_2))] sz)) 0 0 (va_A [(h0, .inr (2, [.ref qf0, .ref qf1, .int v2, .ref qf3, .ref qf4, .ref qf5, .ref qf6, .ref qf7, .ref qf8, .ref qf9, .ref qf10, .ref qf11, .ref qf12, .ref qf13, .ref qf14, .ref qf15, .ref qf16, .ref qf17, .ref qf18, .ref qf19, .int v20])), (qf9, .inl (cf9, 8, .inl f9)), (qf10, .inl (cf10, 96, .inl f10)), (qf0, .inr (9, [.ref qf0_0, .ref qf0_1, .ref qf0_2, .int v0_3, .ref qf0_4, .ref qf0_5, .ref qf0_6, .ref qf0_7, .ref qf0_8, .int v0_9, .int v0_10, .int v0_11, .int v0_12])), (qf0_2, .inl (cf0_2, 3001, .inl f0_2))] sz) := by
  refine Met.ofW (cc := cX2_methodIn) (maxL := 4) (ret := (some .int)) (by decide) rfl ?_
  intro p e s m args below meth c s₁ B hml hv
  obtain ⟨rfl, hsz, hP, hK, hD0⟩ := hv
  have hx := B.exec
  have hb := B.bytes
  have hr := B.returns
  have hts := atoms_spec (ws := (.code yX2_methodIn cX2_methodIn 4 (some .int) :: VS_h4)) B.pre
  replace hts := fun w (h : w ∈ VS_h4) => hts w (List.mem_cons_of_mem _ h)
  have hown : s.vm.findClass RX2 = some m.cls := findClass_of_methodNamed B.named
  have hlocks := B.notSynchronized
  subst hsz
  have hD := hD0.self (sz := s.heap.size)
  generalize hAe : va_A [(h0, .inr (2, [.ref qf0, .ref qf1, .int v2, .ref qf3, .ref qf4, .ref qf5, .ref qf6, .ref qf7, .ref qf8, .ref qf9, .ref qf10, .ref qf11, .ref qf12, .ref qf13, .ref qf14, .ref qf15, .ref qf16, .ref qf17, .ref qf18, .ref qf19, .int v20])), (qf9, .inl (cf9, 8, .inl f9)), (qf10, .inl (cf10, 96, .inl f10)), (qf0, .inr (9, [.ref qf0_0, .ref qf0_1, .ref qf0_2, .int v0_3, .ref qf0_4, .ref qf0_5, .ref qf0_6, .ref qf0_7, .ref qf0_8, .int v0_9, .int v0_10, .int v0_11, .int v0_12])), (qf0_2, .inl (cf0_2, 3001, .inl f0_2))] s.heap.size = A at hD  ⊢
  have hA : ∀ q : Nat, s.heap.size ≤ q → A q := fun q h => by rw [← hAe]; exact Or.inr h
  have hP : va_P (dC, dI) vwCl [(h0, .inr (2, [.ref qf0, .ref qf1, .int v2, .ref qf3, .ref qf4, .ref qf5, .ref qf6, .ref qf7, .ref qf8, .ref qf9, .ref qf10, .ref qf11, .ref qf12, .ref qf13, .ref qf14, .ref qf15, .ref qf16, .ref qf17, .ref qf18, .ref qf19, .int v20])), (qf9, .inl (cf9, 8, .inl f9)), (qf10, .inl (cf10, 96, .inl f10)), (qf0, .inr (9, [.ref qf0_0, .ref qf0_1, .ref qf0_2, .int v0_3, .ref qf0_4, .ref qf0_5, .ref qf0_6, .ref qf0_7, .ref qf0_8, .int v0_9, .int v0_10, .int v0_11, .int v0_12])), (qf0_2, .inl (cf0_2, 3001, .inl f0_2))] s.heap := hP
  have hl := lv_entry ([.ref h0, .int a1, .int a2]) (n := 4) (Nat.le_of_ble_eq_true rfl)
  rw [lg_entry_eq]
  generalize (lg_sl ([.ref h0, .int a1, .int a2]) ++ List.replicate (4 - (lg_sl ([.ref h0, .int a1, .int a2])).length) Slot.unset).toArray = ls at hl ⊢
  have hl : lv_has ls 4 [(0, .ref h0), (1, .int a1), (2, .int a2)] := hl
  obtain ⟨H, hH⟩ : ∃ H : Heap, s.heap = H := ⟨_, rfl⟩
  rw [hH] at hP ⊢
  have hS : va_S A s.heap H [] := by rw [← hH]; exact va_S.rf
  obtain ⟨locs, hlo⟩ : ∃ locs : List Loc, locs = [] := ⟨_, rfl⟩
  rw [← hlo] at hS ⊢
  unfold sp_t2_methodIn at hsp
  refine lv_iconst (v := 0) hx hb dX2_methodIn_0 (by decide) ?_
  refine lv_istore_n (lv' := [(3, .int 0), (0, .ref h0), (1, .int a1), (2, .int a2)]) hx hb dX2_methodIn_1 rfl hl (by decide) rfl (fun ls hl => ?_)
  replace hP := hP.sub (ws' := [(h0, .inr (2, [.ref qf0, .ref qf1, .int v2, .ref qf3, .ref qf4, .ref qf5, .ref qf6, .ref qf7, .ref qf8, .ref qf9, .ref qf10, .ref qf11, .ref qf12, .ref qf13, .ref qf14, .ref qf15, .ref qf16, .ref qf17, .ref qf18, .ref qf19, .int v20])), (qf9, .inl (cf9, 8, .inl f9)), (qf10, .inl (cf10, 96, .inl f10)), (qf0, .inr (9, [.ref qf0_0, .ref qf0_1, .ref qf0_2, .int v0_3, .ref qf0_4, .ref qf0_5, .ref qf0_6, .ref qf0_7, .ref qf0_8, .int v0_9, .int v0_10, .int v0_11, .int v0_12])), (qf0_2, .inl (cf0_2, 3001, .inl f0_2))]) [0, 1, 2, 3, 4] rfl
  replace hD := hD.sub (ws' := [(h0, .inr (2, [.ref qf0, .ref qf1, .int v2, .ref qf3, .ref qf4, .ref qf5, .ref qf6, .ref qf7, .ref qf8, .ref qf9, .ref qf10, .ref qf11, .ref qf12, .ref qf13, .ref qf14, .ref qf15, .ref qf16, .ref qf17, .ref qf18, .ref qf19, .int v20])), (qf9, .inl (cf9, 8, .inl f9)), (qf10, .inl (cf10, 96, .inl f10)), (qf0, .inr (9, [.ref qf0_0, .ref qf0_1, .ref qf0_2, .int v0_3, .ref qf0_4, .ref qf0_5, .ref qf0_6, .ref qf0_7, .ref qf0_8, .int v0_9, .int v0_10, .int v0_11, .int v0_12])), (qf0_2, .inl (cf0_2, 3001, .inl f0_2))]) [0, 1, 2, 3, 4] (by decide) rfl
  replace hK := hK.sub (tys' := [(cf9, .int), (cf10, .int), (cf0_2, .int)]) [0, 1, 2] rfl
  obtain ⟨n_2, hn_2⟩ : ∃ z : Nat, z = nf := ⟨_, rfl⟩
  obtain ⟨l1_2, el1_2⟩ : ∃ z : Int32, z = a1 := ⟨_, rfl⟩
  obtain ⟨l2_2, el2_2⟩ : ∃ z : Int32, z = a2 := ⟨_, rfl⟩
  obtain ⟨l3_2, el3_2⟩ : ∃ z : Int32, z = 0 := ⟨_, rfl⟩
  replace hsp : lp_t2_methodIn_2 nf n_2 a1 a2 f9 f10 v0_3 f0_2 l1_2 l2_2 l3_2 = some r0 := by rw [hn_2, el1_2, el2_2, el3_2]; exact hsp
  replace hl : lv_has ls 4 [(3, .int l3_2), (0, .ref h0), (1, .int l1_2), (2, .int l2_2)] := by rw [el1_2, el2_2, el3_2]; exact hl
  clear hn_2 el1_2 el2_2 el3_2
  try clear hlo
  try clear hH
  revert hsp
  revert hP
  revert hD
  revert hS
  revert hl
  revert l3_2
  revert l2_2
  revert l1_2
  revert ls
  revert locs
  revert H
  induction n_2 with
  | zero => intro H locs ls l1_2 l2_2 l3_2 hl hS hD hP hsp; unfold lp_t2_methodIn_2 at hsp; cases hsp
  | succ n_2 ih_2 =>
    intro H locs ls l1_2 l2_2 l3_2 hl hS hD hP hsp
    unfold lp_t2_methodIn_2 at hsp
    try dsimp only at hsp
    refine lv_iload_n hx hb dX2_methodIn_2 rfl (lv_at hl 0 rfl) ?_
    refine lv_aload_n hx hb dX2_methodIn_3 rfl (lv_at hl 1 rfl) ?_
    refine va_get (D := (dC, dI)) (ci := 2) (v := .ref qf9) (C := RX2) (T := TX2) (N := 21) hx hb hts uV_h4_X2 hown hK hP 0 rfl rfl 9 (by decide) (hts (.fieldLink RX2 39 "ClassMill$Heads" "methods" "[I") mw_h4_179) (fun _ h9 => h9) rfl dX2_methodIn_4 ?_
    refine lv_iload_n hx hb dX2_methodIn_7 rfl (lv_at hl 2 rfl) ?_
    obtain ⟨hi_1, hsp⟩ := ox_in hsp
    refine va_iald hx hb hK hP 1 0 rfl rfl (i := l1_2) hi_1 dX2_methodIn_8 ?_
    refine lv_icmp_ge (tgt := 47) hx hb dX2_methodIn_9 (by decide) (fun c_2 => ?_) (fun c_2 => ?_)
    · rw [if_pos c_2] at hsp
      refine lv_iconst (v := (-1)) hx hb dX2_methodIn_47 (by decide) ?_
      have hr0 := Option.some.inj hsp
      clear hsp
      subst hr0
      have hP9 := hP.sub (ws' := [(h0, .inr (2, [.ref qf0, .ref qf1, .int v2, .ref qf3, .ref qf4, .ref qf5, .ref qf6, .ref qf7, .ref qf8, .ref qf9, .ref qf10, .ref qf11, .ref qf12, .ref qf13, .ref qf14, .ref qf15, .ref qf16, .ref qf17, .ref qf18, .ref qf19, .int v20])), (qf9, .inl (cf9, 8, .inl f9)), (qf10, .inl (cf10, 96, .inl f10)), (qf0, .inr (9, [.ref qf0_0, .ref qf0_1, .ref qf0_2, .int v0_3, .ref qf0_4, .ref qf0_5, .ref qf0_6, .ref qf0_7, .ref qf0_8, .int v0_9, .int v0_10, .int v0_11, .int v0_12])), (qf0_2, .inl (cf0_2, 3001, .inl f0_2))]) [0, 1, 2, 3, 4] rfl
      have hD9 := hD.sub (ws' := [(h0, .inr (2, [.ref qf0, .ref qf1, .int v2, .ref qf3, .ref qf4, .ref qf5, .ref qf6, .ref qf7, .ref qf8, .ref qf9, .ref qf10, .ref qf11, .ref qf12, .ref qf13, .ref qf14, .ref qf15, .ref qf16, .ref qf17, .ref qf18, .ref qf19, .int v20])), (qf9, .inl (cf9, 8, .inl f9)), (qf10, .inl (cf10, 96, .inl f10)), (qf0, .inr (9, [.ref qf0_0, .ref qf0_1, .ref qf0_2, .int v0_3, .ref qf0_4, .ref qf0_5, .ref qf0_6, .ref qf0_7, .ref qf0_8, .int v0_9, .int v0_10, .int v0_11, .int v0_12])), (qf0_2, .inl (cf0_2, 3001, .inl f0_2))]) [0, 1, 2, 3, 4] (by decide) rfl
      have hK9 := hK.sub (tys' := [(cf9, .int), (cf10, .int), (cf0_2, .int)]) [0, 1, 2] rfl
      exact W.iret hx hb hr (fun t ht hW => ⟨⟨((-1)), (), rfl, rfl, by rw [ht]; exact hP9, va_K.moved hW.alike hK9, hD9⟩, hS.F ht⟩) hS.2.2 dX2_methodIn_48
    · rw [if_neg c_2] at hsp
      refine lv_aload_n hx hb dX2_methodIn_12 rfl (lv_at hl 1 rfl) ?_
      refine va_get (D := (dC, dI)) (ci := 2) (v := .ref qf0) (C := RX2) (T := TX2) (N := 21) hx hb hts uV_h4_X2 hown hK hP 0 rfl rfl 0 (by decide) (hts (.fieldLink RX2 74 "ClassMill$Heads" "text" "LClassMill$Text;") mw_h4_145) (fun _ h9 => h9) rfl dX2_methodIn_13 ?_
      refine lv_aload_n hx hb dX2_methodIn_16 rfl (lv_at hl 1 rfl) ?_
      refine va_get (D := (dC, dI)) (ci := 2) (v := .ref qf10) (C := RX2) (T := TX2) (N := 21) hx hb hts uV_h4_X2 hown hK hP 0 rfl rfl 10 (by decide) (hts (.fieldLink RX2 42 "ClassMill$Heads" "methodAt" "[I") mw_h4_180) (fun _ h9 => h9) rfl dX2_methodIn_17 ?_
      refine lv_iload_n hx hb dX2_methodIn_20 rfl (lv_at hl 2 rfl) ?_
      refine lv_bipush (v := 12) hx hb dX2_methodIn_21 (by decide) ?_
      refine lv_imul hx hb dX2_methodIn_23 ?_
      refine lv_iload_n hx hb dX2_methodIn_24 rfl (lv_at hl 0 rfl) ?_
      refine lv_iadd hx hb dX2_methodIn_25 ?_
      obtain ⟨hi_3, hsp⟩ := ox_in hsp
      refine va_iald hx hb hK hP 2 1 rfl rfl (i := ((l1_2 * 12) + l3_2)) hi_3 dX2_methodIn_26 ?_
      obtain ⟨u1_0, hu_1, hsp⟩ := ox_bind hsp
      try dsimp only at hsp
      have hPc := hP.sub (ws' := [(qf0, .inr (9, [.ref qf0_0, .ref qf0_1, .ref qf0_2, .int v0_3, .ref qf0_4, .ref qf0_5, .ref qf0_6, .ref qf0_7, .ref qf0_8, .int v0_9, .int v0_10, .int v0_11, .int v0_12])), (qf0_2, .inl (cf0_2, 3001, .inl f0_2))]) [3, 4] rfl
      have hDc := hD.sub (ws' := [(qf0, .inr (9, [.ref qf0_0, .ref qf0_1, .ref qf0_2, .int v0_3, .ref qf0_4, .ref qf0_5, .ref qf0_6, .ref qf0_7, .ref qf0_8, .int v0_9, .int v0_10, .int v0_11, .int v0_12])), (qf0_2, .inl (cf0_2, 3001, .inl f0_2))]) [3, 4] (by decide) rfl
      have hKc := hK.sub (tys' := [(cf0_2, .int)]) [2] rfl
      have hFc := va_free (wc := [(qf0, .inr (9, [.ref qf0_0, .ref qf0_1, .ref qf0_2, .int v0_3, .ref qf0_4, .ref qf0_5, .ref qf0_6, .ref qf0_7, .ref qf0_8, .int v0_9, .int v0_10, .int v0_11, .int v0_12])), (qf0_2, .inl (cf0_2, 3001, .inl f0_2))]) hD hS hA [3, 4] rfl
      refine va_calli (va_runV (As := [.int (f10 (((l1_2 * 12) + l3_2) : Int32).toNatClampNeg)]) (rest := []) ⟨hx, hb, hml, hown, hts⟩ (t9_valueAt l dC dI H.size qf0 ((f10 (((l1_2 * 12) + l3_2) : Int32).toNatClampNeg)) qf0_0 qf0_1 qf0_2 v0_3 qf0_4 qf0_5 qf0_6 qf0_7 qf0_8 v0_9 v0_10 v0_11 v0_12 cf0_2 f0_2 nf u1_0 hu_1) (cwV 1 hts gv_h4_27 rfl rfl rfl (by decide +kernel) ⟨Nat.le_of_ble_eq_true rfl, Nat.le_of_ble_eq_true rfl⟩) ⟨fun a U g mk q => by obtain ⟨q0, q1, qP, qK, qD⟩ := q; exact ⟨q0, q1, qP, va_K.moved (u := U) (U := U.calling g mk a) (Vm.Alike.refl U.vm) qK, qD⟩, va_recv hKc hPc (ci := 9) (q0 := 0) rfl rfl, fun U hU hW => ⟨rfl, by rw [hU], by rw [hU]; exact hPc, va_K.moved hW.alike hKc, hDc.weaken (fun _ _ _ _ => trivial)⟩⟩ rfl rfl hl.1 rfl (lv_room (Nat.le_of_ble_eq_true rfl)) dX2_methodIn_27 ⟨Nat.le_of_ble_eq_true rfl, Nat.le_of_ble_eq_true rfl⟩) hS (fun q _ h => hFc q h) hFc ?_
      clear hS
      intro r_4 u t H1 locs ht hvm hw hB hz1 hk1 hS
      obtain ⟨⟩ := u
      obtain ⟨hP1, hK1, hD1⟩ := hB
      rw [ht] at hP1
      have hK1 := va_K.moved hvm.symm hK1
      try dsimp only at hw
      have hPD := va_join (wr := [(h0, .inr (2, [.ref qf0, .ref qf1, .int v2, .ref qf3, .ref qf4, .ref qf5, .ref qf6, .ref qf7, .ref qf8, .ref qf9, .ref qf10, .ref qf11, .ref qf12, .ref qf13, .ref qf14, .ref qf15, .ref qf16, .ref qf17, .ref qf18, .ref qf19, .int v20])), (qf9, .inl (cf9, 8, .inl f9)), (qf10, .inl (cf10, 96, .inl f10))]) (w1 := [(qf0, .inr (9, [.ref qf0_0, .ref qf0_1, .ref qf0_2, .int v0_3, .ref qf0_4, .ref qf0_5, .ref qf0_6, .ref qf0_7, .ref qf0_8, .int v0_9, .int v0_10, .int v0_11, .int v0_12])), (qf0_2, .inl (cf0_2, 3001, .inl f0_2))]) hP hD [3, 4] [0, 1, 2] rfl rfl (by decide) (by decide) hk1 hFc hP1 hD1
      clear hP hD
      obtain ⟨hP, hD⟩ := hPD
      replace hK := (hK.sub (tys' := [(cf9, .int), (cf10, .int)]) [0, 1] rfl).app hK1
      clear hPc hDc hKc hFc hP1 hK1 hD1 hz1 hk1 ht hvm
      generalize H1 = H at hP hS ⊢
      replace hP : va_P (dC, dI) vwCl [(h0, .inr (2, [.ref qf0, .ref qf1, .int v2, .ref qf3, .ref qf4, .ref qf5, .ref qf6, .ref qf7, .ref qf8, .ref qf9, .ref qf10, .ref qf11, .ref qf12, .ref qf13, .ref qf14, .ref qf15, .ref qf16, .ref qf17, .ref qf18, .ref qf19, .int v20])), (qf9, .inl (cf9, 8, .inl f9)), (qf10, .inl (cf10, 96, .inl f10)), (qf0, .inr (9, [.ref qf0_0, .ref qf0_1, .ref qf0_2, .int v0_3, .ref qf0_4, .ref qf0_5, .ref qf0_6, .ref qf0_7, .ref qf0_8, .int v0_9, .int v0_10, .int v0_11, .int v0_12])), (qf0_2, .inl (cf0_2, 3001, .inl f0_2))] H := hP
      replace hD : va_D A [(h0, .inr (2, [.ref qf0, .ref qf1, .int v2, .ref qf3, .ref qf4, .ref qf5, .ref qf6, .ref qf7, .ref qf8, .ref qf9, .ref qf10, .ref qf11, .ref qf12, .ref qf13, .ref qf14, .ref qf15, .ref qf16, .ref qf17, .ref qf18, .ref qf19, .int v20])), (qf9, .inl (cf9, 8, .inl f9)), (qf10, .inl (cf10, 96, .inl f10)), (qf0, .inr (9, [.ref qf0_0, .ref qf0_1, .ref qf0_2, .int v0_3, .ref qf0_4, .ref qf0_5, .ref qf0_6, .ref qf0_7, .ref qf0_8, .int v0_9, .int v0_10, .int v0_11, .int v0_12])), (qf0_2, .inl (cf0_2, 3001, .inl f0_2))] := hD
      replace hK : va_K (dC, dI) vwCl [(cf9, .int), (cf10, .int), (cf0_2, .int)] s := hK
      obtain rfl := hw
      refine lv_iload_n hx hb dX2_methodIn_30 rfl (lv_at hl 3 rfl) ?_
      refine lv_icmp_ne (tgt := 41) hx hb dX2_methodIn_31 (by decide) (fun c_5 => ?_) (fun c_5 => ?_)
      · rw [if_neg c_5] at hsp
        refine lv_iinc (v := (l3_2 + 1)) (lv' := [(3, .int (l3_2 + 1)), (0, .ref h0), (1, .int l1_2), (2, .int l2_2)]) hx hb dX2_methodIn_41 hl (k := 0) rfl rfl (by decide) rfl (fun ls hl => ?_)
        refine lv_goto (tgt := 2) hx hb dX2_methodIn_44 (by decide) ?_
        exact ih_2 H locs ls l1_2 l2_2 (l3_2 + 1) (lv_sub hl [0, 1, 2, 3] rfl) hS (hD.sub (ws' := [(h0, .inr (2, [.ref qf0, .ref qf1, .int v2, .ref qf3, .ref qf4, .ref qf5, .ref qf6, .ref qf7, .ref qf8, .ref qf9, .ref qf10, .ref qf11, .ref qf12, .ref qf13, .ref qf14, .ref qf15, .ref qf16, .ref qf17, .ref qf18, .ref qf19, .int v20])), (qf9, .inl (cf9, 8, .inl f9)), (qf10, .inl (cf10, 96, .inl f10)), (qf0, .inr (9, [.ref qf0_0, .ref qf0_1, .ref qf0_2, .int v0_3, .ref qf0_4, .ref qf0_5, .ref qf0_6, .ref qf0_7, .ref qf0_8, .int v0_9, .int v0_10, .int v0_11, .int v0_12])), (qf0_2, .inl (cf0_2, 3001, .inl f0_2))]) [0, 1, 2, 3, 4] (by decide) rfl) (hP.sub (ws' := [(h0, .inr (2, [.ref qf0, .ref qf1, .int v2, .ref qf3, .ref qf4, .ref qf5, .ref qf6, .ref qf7, .ref qf8, .ref qf9, .ref qf10, .ref qf11, .ref qf12, .ref qf13, .ref qf14, .ref qf15, .ref qf16, .ref qf17, .ref qf18, .ref qf19, .int v20])), (qf9, .inl (cf9, 8, .inl f9)), (qf10, .inl (cf10, 96, .inl f10)), (qf0, .inr (9, [.ref qf0_0, .ref qf0_1, .ref qf0_2, .int v0_3, .ref qf0_4, .ref qf0_5, .ref qf0_6, .ref qf0_7, .ref qf0_8, .int v0_9, .int v0_10, .int v0_11, .int v0_12])), (qf0_2, .inl (cf0_2, 3001, .inl f0_2))]) [0, 1, 2, 3, 4] rfl) hsp
      · rw [if_pos c_5] at hsp
        refine lv_iload_n hx hb dX2_methodIn_34 rfl (lv_at hl 2 rfl) ?_
        refine lv_bipush (v := 12) hx hb dX2_methodIn_35 (by decide) ?_
        refine lv_imul hx hb dX2_methodIn_37 ?_
        refine lv_iload_n hx hb dX2_methodIn_38 rfl (lv_at hl 0 rfl) ?_
        refine lv_iadd hx hb dX2_methodIn_39 ?_
        have hr0 := Option.some.inj hsp
        clear hsp
        subst hr0
        have hP9 := hP.sub (ws' := [(h0, .inr (2, [.ref qf0, .ref qf1, .int v2, .ref qf3, .ref qf4, .ref qf5, .ref qf6, .ref qf7, .ref qf8, .ref qf9, .ref qf10, .ref qf11, .ref qf12, .ref qf13, .ref qf14, .ref qf15, .ref qf16, .ref qf17, .ref qf18, .ref qf19, .int v20])), (qf9, .inl (cf9, 8, .inl f9)), (qf10, .inl (cf10, 96, .inl f10)), (qf0, .inr (9, [.ref qf0_0, .ref qf0_1, .ref qf0_2, .int v0_3, .ref qf0_4, .ref qf0_5, .ref qf0_6, .ref qf0_7, .ref qf0_8, .int v0_9, .int v0_10, .int v0_11, .int v0_12])), (qf0_2, .inl (cf0_2, 3001, .inl f0_2))]) [0, 1, 2, 3, 4] rfl
        have hD9 := hD.sub (ws' := [(h0, .inr (2, [.ref qf0, .ref qf1, .int v2, .ref qf3, .ref qf4, .ref qf5, .ref qf6, .ref qf7, .ref qf8, .ref qf9, .ref qf10, .ref qf11, .ref qf12, .ref qf13, .ref qf14, .ref qf15, .ref qf16, .ref qf17, .ref qf18, .ref qf19, .int v20])), (qf9, .inl (cf9, 8, .inl f9)), (qf10, .inl (cf10, 96, .inl f10)), (qf0, .inr (9, [.ref qf0_0, .ref qf0_1, .ref qf0_2, .int v0_3, .ref qf0_4, .ref qf0_5, .ref qf0_6, .ref qf0_7, .ref qf0_8, .int v0_9, .int v0_10, .int v0_11, .int v0_12])), (qf0_2, .inl (cf0_2, 3001, .inl f0_2))]) [0, 1, 2, 3, 4] (by decide) rfl
        have hK9 := hK.sub (tys' := [(cf9, .int), (cf10, .int), (cf0_2, .int)]) [0, 1, 2] rfl
        exact W.iret hx hb hr (fun t ht hW => ⟨⟨(((l1_2 * 12) + l3_2)), (), rfl, rfl, by rw [ht]; exact hP9, va_K.moved hW.alike hK9, hD9⟩, hS.F ht⟩) hS.2.2 dX2_methodIn_40
def sp_t2_isOwn (nf : Nat) (a1 : Int32) : Option (Int32) := (if a1 < 8 then (some 0) else (if 16 ≤ a1 then (some 0) else (some 1)))
set_option maxHeartbeats 4000000 in
set_option maxRecDepth 100000 in
/-- ClassMill$Heads.isOwn -/
theorem t2_isOwn (l : Launch) (dC : Nat → ClassId) (dI : Nat → Nat → Nat) (sz : Nat) (a1 : Int32) (nf : Nat) (r0 : Int32) (hsp : sp_t2_isOwn nf a1 = some r0) : Met l yX2_isOwn (.code yX2_isOwn cX2_isOwn 1 (some .boolean) :: VS_h4) ({ frames := 0, cells := 0, slots := 0, locals := 0 }) (va_Pc [.int a1] (fun U => U.heap.size = sz ∧ va_P (dC, dI) vwCl [] U.heap ∧ va_K (dC, dI) vwCl [] U ∧ va_D (fun _ => True) [])) (va_Qi (fun (r : Int32) (u : Unit) => match u with | () => r0 = r ∧ (r0 = 0 ∨ r0 = 1)) (fun (u : Unit) (t : State) => match u with | () => va_P (dC, dI) vwCl [] t.heap ∧ va_K (dC, dI) vwCl [] t ∧ va_D (va_A [] sz) []) (va_A [] sz)) 0 0 (va_A [] sz) := by
  refine Met.ofW (cc := cX2_isOwn) (maxL := 1) (ret := (some .boolean)) (by decide) rfl ?_
  intro p e s m args below meth c s₁ B hml hv
  obtain ⟨rfl, hsz, hP, hK, hD0⟩ := hv
  have hx := B.exec
  have hb := B.bytes
  have hr := B.returns
  have hts := atoms_spec (ws := (.code yX2_isOwn cX2_isOwn 1 (some .boolean) :: VS_h4)) B.pre
  replace hts := fun w (h : w ∈ VS_h4) => hts w (List.mem_cons_of_mem _ h)
  have hown : s.vm.findClass RX2 = some m.cls := findClass_of_methodNamed B.named
  have hlocks := B.notSynchronized
  subst hsz
  have hD := hD0.self (sz := s.heap.size)
  generalize hAe : va_A [] s.heap.size = A at hD  ⊢
  have hA : ∀ q : Nat, s.heap.size ≤ q → A q := fun q h => by rw [← hAe]; exact Or.inr h
  have hP : va_P (dC, dI) vwCl [] s.heap := hP
  have hl := lv_entry ([.int a1]) (n := 1) (Nat.le_of_ble_eq_true rfl)
  rw [lg_entry_eq]
  generalize (lg_sl ([.int a1]) ++ List.replicate (1 - (lg_sl ([.int a1])).length) Slot.unset).toArray = ls at hl ⊢
  have hl : lv_has ls 1 [(0, .int a1)] := hl
  obtain ⟨H, hH⟩ : ∃ H : Heap, s.heap = H := ⟨_, rfl⟩
  rw [hH] at hP ⊢
  have hS : va_S A s.heap H [] := by rw [← hH]; exact va_S.rf
  obtain ⟨locs, hlo⟩ : ∃ locs : List Loc, locs = [] := ⟨_, rfl⟩
  rw [← hlo] at hS ⊢
  unfold sp_t2_isOwn at hsp
  refine lv_iload_n hx hb dX2_isOwn_0 rfl (lv_at hl 0 rfl) ?_
  refine lv_bipush (v := 8) hx hb dX2_isOwn_1 (by decide) ?_
  refine lv_icmp_lt (tgt := 16) hx hb dX2_isOwn_3 (by decide) (fun c_1 => ?_) (fun c_1 => ?_)
  · rw [if_pos c_1] at hsp
    refine lv_iconst (v := 0) hx hb dX2_isOwn_16 (by decide) ?_
    have hr0 := Option.some.inj hsp
    clear hsp
    subst hr0
    have hP9 := hP.sub (ws' := []) [] rfl
    have hD9 := hD.sub (ws' := []) [] (by decide) rfl
    have hK9 := hK.sub (tys' := []) [] rfl
    exact W.zret hx hb hr (by decide) (fun t ht hW => ⟨⟨(0), (), rfl, ⟨rfl, Or.inl rfl⟩, by rw [ht]; exact hP9, va_K.moved hW.alike hK9, hD9⟩, hS.F ht⟩) hS.2.2 dX2_isOwn_17
  · rw [if_neg c_1] at hsp
    refine lv_iload_n hx hb dX2_isOwn_6 rfl (lv_at hl 0 rfl) ?_
    refine lv_bipush (v := 16) hx hb dX2_isOwn_7 (by decide) ?_
    refine lv_icmp_ge (tgt := 16) hx hb dX2_isOwn_9 (by decide) (fun c_2 => ?_) (fun c_2 => ?_)
    · rw [if_pos c_2] at hsp
      refine lv_iconst (v := 0) hx hb dX2_isOwn_16 (by decide) ?_
      have hr0 := Option.some.inj hsp
      clear hsp
      subst hr0
      have hP9 := hP.sub (ws' := []) [] rfl
      have hD9 := hD.sub (ws' := []) [] (by decide) rfl
      have hK9 := hK.sub (tys' := []) [] rfl
      exact W.zret hx hb hr (by decide) (fun t ht hW => ⟨⟨(0), (), rfl, ⟨rfl, Or.inl rfl⟩, by rw [ht]; exact hP9, va_K.moved hW.alike hK9, hD9⟩, hS.F ht⟩) hS.2.2 dX2_isOwn_17
    · rw [if_neg c_2] at hsp
      refine lv_iconst (v := 1) hx hb dX2_isOwn_12 (by decide) ?_
      refine lv_goto (tgt := 17) hx hb dX2_isOwn_13 (by decide) ?_
      have hr0 := Option.some.inj hsp
      clear hsp
      subst hr0
      have hP9 := hP.sub (ws' := []) [] rfl
      have hD9 := hD.sub (ws' := []) [] (by decide) rfl
      have hK9 := hK.sub (tys' := []) [] rfl
      exact W.zret hx hb hr (by decide) (fun t ht hW => ⟨⟨(1), (), rfl, ⟨rfl, Or.inr rfl⟩, by rw [ht]; exact hP9, va_K.moved hW.alike hK9, hD9⟩, hS.F ht⟩) hS.2.2 dX2_isOwn_17
def lp_t2_fieldOf_8 (nf n : Nat) (a1 : Int32) (a2 : Int32) (f5 : Nat → Int32) (f6 : Nat → Int32) (f1_0 : Nat → Int32)  (l1_8 : Int32) (l2_8 : Int32) (l3_8 : Int32) (l4_8 : Int32) (l5_8 : Int32) : Option (Int32) := match n with
  | 0 => none
  | n + 1 => (if 16 ≤ l5_8 then (some l3_8) else ((sp_t2_isOwn nf l4_8).bind (fun p1 => (if p1 = 0 then (some l3_8) else (if l3_8 = (-1) then ((sp_t2_fieldIn nf (l4_8 - 8) l2_8 f5 f6).bind (fun p2 => ((sp_tk_above nf l4_8 f1_0).bind (fun p3 => (lp_t2_fieldOf_8 nf n a1 a2 f5 f6 f1_0 l1_8 l2_8 p2 p3 (l5_8 + 1)))))) else (some l3_8))))))
def sp_t2_fieldOf (nf : Nat) (a1 : Int32) (a2 : Int32) (f5 : Nat → Int32) (f6 : Nat → Int32) (f1_0 : Nat → Int32) : Option (Int32) := (lp_t2_fieldOf_8 nf nf a1 a2 f5 f6 f1_0 a1 a2 (-1) a1 0)
set_option maxHeartbeats 4000000 in
set_option maxRecDepth 100000 in
/-- ClassMill$Heads.fieldOf -/
theorem t2_fieldOf (l : Launch) (dC : Nat → ClassId) (dI : Nat → Nat → Nat) (sz : Nat) (h0 : Nat) (a1 : Int32) (a2 : Int32) (qf0 : Nat) (qf1 : Nat) (v2 : Int32) (qf3 : Nat) (qf4 : Nat) (qf5 : Nat) (qf6 : Nat) (qf7 : Nat) (qf8 : Nat) (qf9 : Nat) (qf10 : Nat) (qf11 : Nat) (qf12 : Nat) (qf13 : Nat) (qf14 : Nat) (qf15 : Nat) (qf16 : Nat) (qf17 : Nat) (qf18 : Nat) (qf19 : Nat) (v20 : Int32) (cf5 : ClassId) (f5 : (Nat → Int32)) (cf6 : ClassId) (f6 : (Nat → Int32)) (qf1_0 : Nat) (qf1_1 : Nat) (cf1_0 : ClassId) (f1_0 : (Nat → Int32)) (nf : Nat) (r0 : Int32) (hsp : sp_t2_fieldOf nf a1 a2 f5 f6 f1_0 = some r0) : Met l yX2_fieldOf (.code yX2_fieldOf cX2_fieldOf 6 (some .int) :: VS_h4) ({ frames := 2, cells := 0, slots := 0, locals := 41 }) (va_Pc [.ref h0, .int a1, .int a2] (fun U => U.heap.size = sz ∧ va_P (dC, dI) vwCl [(h0, .inr (2, [.ref qf0, .ref qf1, .int v2, .ref qf3, .ref qf4, .ref qf5, .ref qf6, .ref qf7, .ref qf8, .ref qf9, .ref qf10, .ref qf11, .ref qf12, .ref qf13, .ref qf14, .ref qf15, .ref qf16, .ref qf17, .ref qf18, .ref qf19, .int v20])), (qf5, .inl (cf5, 8, .inl f5)), (qf6, .inl (cf6, 96, .inl f6)), (qf1, .inr (4, [.ref qf1_0, .ref qf1_1])), (qf1_0, .inl (cf1_0, 16, .inl f1_0))] U.heap ∧ va_K (dC, dI) vwCl [(cf5, .int), (cf6, .int), (cf1_0, .int)] U ∧ va_D (fun _ => True) [(h0, .inr (2, [.ref qf0, .ref qf1, .int v2, .ref qf3, .ref qf4, .ref qf5, .ref qf6, .ref qf7, .ref qf8, .ref qf9, .ref qf10, .ref qf11, .ref qf12, .ref qf13, .ref qf14, .ref qf15, .ref qf16, .ref qf17, .ref qf18, .ref qf19, .int v20])), (qf5, .inl (cf5, 8, .inl f5)), (qf6, .inl (cf6, 96, .inl f6)), (qf1, .inr (4, [.ref qf1_0, .ref qf1_1])), (qf1_0, .inl (cf1_0, 16, .inl f1_0))])) (va_Qi (fun (r : Int32) (u : Unit) => match u with | () => r0 = r) (fun (u : Unit) (t : State) => match u with | () => va_P (dC, dI) vwCl [(h0, .inr (2, [.ref qf0, .ref qf1, .int v2, .ref qf3, .ref qf4, .ref qf5, .ref qf6, .ref qf7, .ref qf8, .ref qf9, .ref qf10, .ref qf11, .ref qf12, .ref qf13, .ref qf14, .ref qf15, .ref qf16, .ref qf17, .ref qf18, .ref qf19, .int v20])), (qf5, .inl (cf5, 8, .inl f5)), (qf6, .inl (cf6, 96, .inl f6)), (qf1, .inr (4, [.ref qf1_0, .ref qf1_1])), (qf1_0, .inl (cf1_0, 16, .inl f1_0))] t.heap ∧ va_K (dC, dI) vwCl [(cf5, .int), (cf6, .int), (cf1_0, .int)] t ∧ va_D (va_A [(h0, .inr (2, [.ref qf0, .ref qf1, .int v2, .ref qf3, .ref qf4, .ref qf5, .ref qf6, .ref qf7, .ref qf8, .ref qf9, .ref qf10, .ref qf11, .ref qf12, .ref qf13, .ref qf14, .ref qf15, .ref qf16, .ref qf17, .ref qf18, .ref qf19, .int v20])), (qf5, .inl (cf5, 8, .inl f5)), (qf6, .inl (cf6, 96, .inl f6)), (qf1, .inr (4, [.ref qf1_0, .ref qf1_1])), (qf1_0, .inl (cf1_0, 16, .inl f1_0))] sz) [(h0, .inr (2, [.ref qf0, .ref qf1, .int v2, .ref qf3, .ref qf4, .ref qf5, .ref qf6, .ref qf7, .ref qf8, .ref qf9, .ref qf10, .ref qf11, .ref qf12, .ref qf13, .ref qf14, .ref qf15, .ref qf16, .ref qf17, .ref qf18, .ref qf19, .int v20])), (qf5, .inl (cf5, 8, .inl f5)), (qf6, .inl (cf6, 96, .inl f6)), (qf1, .inr (4, [.ref qf1_0, .ref qf1_1])), (qf1_0, .inl (cf1_0, 16, .inl f1_0))]) (va_A [(h0, .inr (2, [.ref qf0, .ref qf1, .int v2, .ref qf3, .ref qf4, .ref qf5, .ref qf6, .ref qf7, .ref qf8, .ref qf9, .ref qf10, .ref qf11, .ref qf12, .ref qf13, .ref qf14, .ref qf15, .ref qf16, .ref qf17, .ref qf18, .ref qf19, .int v20])), (qf5, .inl (cf5, 8, .inl f5)), (qf6, .inl (cf6, 96, .inl f6)), (qf1, .inr (4, [.ref qf1_0, .ref qf1_1])), (qf1_0, .inl (cf1_0, 16, .inl f1_0))] sz)) 0 0 (va_A [(h0, .inr (2, [.ref qf0, .ref qf1, .int v2, .ref qf3, .ref qf4, .ref qf5, .ref qf6, .ref qf7, .ref qf8, .ref qf9, .ref qf10, .ref qf11, .ref qf12, .ref qf13, .ref qf14, .ref qf15, .ref qf16, .ref qf17, .ref qf18, .ref qf19, .int v20])), (qf5, .inl (cf5, 8, .inl f5)), (qf6, .inl (cf6, 96, .inl f6)), (qf1, .inr (4, [.ref qf1_0, .ref qf1_1])), (qf1_0, .inl (cf1_0, 16, .inl f1_0))] sz) := by
  refine Met.ofW (cc := cX2_fieldOf) (maxL := 6) (ret := (some .int)) (by decide) rfl ?_
  intro p e s m args below meth c s₁ B hml hv
  obtain ⟨rfl, hsz, hP, hK, hD0⟩ := hv
  have hx := B.exec
  have hb := B.bytes
  have hr := B.returns
  have hts := atoms_spec (ws := (.code yX2_fieldOf cX2_fieldOf 6 (some .int) :: VS_h4)) B.pre
  replace hts := fun w (h : w ∈ VS_h4) => hts w (List.mem_cons_of_mem _ h)
  have hown : s.vm.findClass RX2 = some m.cls := findClass_of_methodNamed B.named
  have hlocks := B.notSynchronized
  subst hsz
  have hD := hD0.self (sz := s.heap.size)
  generalize hAe : va_A [(h0, .inr (2, [.ref qf0, .ref qf1, .int v2, .ref qf3, .ref qf4, .ref qf5, .ref qf6, .ref qf7, .ref qf8, .ref qf9, .ref qf10, .ref qf11, .ref qf12, .ref qf13, .ref qf14, .ref qf15, .ref qf16, .ref qf17, .ref qf18, .ref qf19, .int v20])), (qf5, .inl (cf5, 8, .inl f5)), (qf6, .inl (cf6, 96, .inl f6)), (qf1, .inr (4, [.ref qf1_0, .ref qf1_1])), (qf1_0, .inl (cf1_0, 16, .inl f1_0))] s.heap.size = A at hD  ⊢
  have hA : ∀ q : Nat, s.heap.size ≤ q → A q := fun q h => by rw [← hAe]; exact Or.inr h
  have hP : va_P (dC, dI) vwCl [(h0, .inr (2, [.ref qf0, .ref qf1, .int v2, .ref qf3, .ref qf4, .ref qf5, .ref qf6, .ref qf7, .ref qf8, .ref qf9, .ref qf10, .ref qf11, .ref qf12, .ref qf13, .ref qf14, .ref qf15, .ref qf16, .ref qf17, .ref qf18, .ref qf19, .int v20])), (qf5, .inl (cf5, 8, .inl f5)), (qf6, .inl (cf6, 96, .inl f6)), (qf1, .inr (4, [.ref qf1_0, .ref qf1_1])), (qf1_0, .inl (cf1_0, 16, .inl f1_0))] s.heap := hP
  have hl := lv_entry ([.ref h0, .int a1, .int a2]) (n := 6) (Nat.le_of_ble_eq_true rfl)
  rw [lg_entry_eq]
  generalize (lg_sl ([.ref h0, .int a1, .int a2]) ++ List.replicate (6 - (lg_sl ([.ref h0, .int a1, .int a2])).length) Slot.unset).toArray = ls at hl ⊢
  have hl : lv_has ls 6 [(0, .ref h0), (1, .int a1), (2, .int a2)] := hl
  obtain ⟨H, hH⟩ : ∃ H : Heap, s.heap = H := ⟨_, rfl⟩
  rw [hH] at hP ⊢
  have hS : va_S A s.heap H [] := by rw [← hH]; exact va_S.rf
  obtain ⟨locs, hlo⟩ : ∃ locs : List Loc, locs = [] := ⟨_, rfl⟩
  rw [← hlo] at hS ⊢
  unfold sp_t2_fieldOf at hsp
  refine lv_iconst (v := (-1)) hx hb dX2_fieldOf_0 (by decide) ?_
  refine lv_istore_n (lv' := [(3, .int (-1)), (0, .ref h0), (1, .int a1), (2, .int a2)]) hx hb dX2_fieldOf_1 rfl hl (by decide) rfl (fun ls hl => ?_)
  refine lv_iload_n hx hb dX2_fieldOf_2 rfl (lv_at hl 2 rfl) ?_
  refine lv_istore (lv' := [(4, .int a1), (3, .int (-1)), (0, .ref h0), (1, .int a1), (2, .int a2)]) hx hb dX2_fieldOf_3 hl (by decide) rfl (fun ls hl => ?_)
  refine lv_iconst (v := 0) hx hb dX2_fieldOf_5 (by decide) ?_
  refine lv_istore (lv' := [(5, .int 0), (4, .int a1), (3, .int (-1)), (0, .ref h0), (1, .int a1), (2, .int a2)]) hx hb dX2_fieldOf_6 hl (by decide) rfl (fun ls hl => ?_)
  replace hP := hP.sub (ws' := [(h0, .inr (2, [.ref qf0, .ref qf1, .int v2, .ref qf3, .ref qf4, .ref qf5, .ref qf6, .ref qf7, .ref qf8, .ref qf9, .ref qf10, .ref qf11, .ref qf12, .ref qf13, .ref qf14, .ref qf15, .ref qf16, .ref qf17, .ref qf18, .ref qf19, .int v20])), (qf5, .inl (cf5, 8, .inl f5)), (qf6, .inl (cf6, 96, .inl f6)), (qf1, .inr (4, [.ref qf1_0, .ref qf1_1])), (qf1_0, .inl (cf1_0, 16, .inl f1_0))]) [0, 1, 2, 3, 4] rfl
  replace hD := hD.sub (ws' := [(h0, .inr (2, [.ref qf0, .ref qf1, .int v2, .ref qf3, .ref qf4, .ref qf5, .ref qf6, .ref qf7, .ref qf8, .ref qf9, .ref qf10, .ref qf11, .ref qf12, .ref qf13, .ref qf14, .ref qf15, .ref qf16, .ref qf17, .ref qf18, .ref qf19, .int v20])), (qf5, .inl (cf5, 8, .inl f5)), (qf6, .inl (cf6, 96, .inl f6)), (qf1, .inr (4, [.ref qf1_0, .ref qf1_1])), (qf1_0, .inl (cf1_0, 16, .inl f1_0))]) [0, 1, 2, 3, 4] (by decide) rfl
  replace hK := hK.sub (tys' := [(cf5, .int), (cf6, .int), (cf1_0, .int)]) [0, 1, 2] rfl
  obtain ⟨n_8, hn_8⟩ : ∃ z : Nat, z = nf := ⟨_, rfl⟩
  obtain ⟨l1_8, el1_8⟩ : ∃ z : Int32, z = a1 := ⟨_, rfl⟩
  obtain ⟨l2_8, el2_8⟩ : ∃ z : Int32, z = a2 := ⟨_, rfl⟩
  obtain ⟨l3_8, el3_8⟩ : ∃ z : Int32, z = (-1) := ⟨_, rfl⟩
  obtain ⟨l4_8, el4_8⟩ : ∃ z : Int32, z = a1 := ⟨_, rfl⟩
  obtain ⟨l5_8, el5_8⟩ : ∃ z : Int32, z = 0 := ⟨_, rfl⟩
  replace hsp : lp_t2_fieldOf_8 nf n_8 a1 a2 f5 f6 f1_0 l1_8 l2_8 l3_8 l4_8 l5_8 = some r0 := by rw [hn_8, el1_8, el2_8, el3_8, el4_8, el5_8]; exact hsp
  replace hl : lv_has ls 6 [(5, .int l5_8), (4, .int l4_8), (3, .int l3_8), (0, .ref h0), (1, .int l1_8), (2, .int l2_8)] := by rw [el1_8, el2_8, el3_8, el4_8, el5_8]; exact hl
  clear hn_8 el1_8 el2_8 el3_8 el4_8 el5_8
  try clear hlo
  try clear hH
  revert hsp
  revert hP
  revert hD
  revert hS
  revert hl
  revert l5_8
  revert l4_8
  revert l3_8
  revert l2_8
  revert l1_8
  revert ls
  revert locs
  revert H
  induction n_8 with
  | zero => intro H locs ls l1_8 l2_8 l3_8 l4_8 l5_8 hl hS hD hP hsp; unfold lp_t2_fieldOf_8 at hsp; cases hsp
  | succ n_8 ih_8 =>
    intro H locs ls l1_8 l2_8 l3_8 l4_8 l5_8 hl hS hD hP hsp
    unfold lp_t2_fieldOf_8 at hsp
    try dsimp only at hsp
    refine lv_iload hx hb dX2_fieldOf_8 (lv_at hl 0 rfl) ?_
    refine lv_bipush (v := 16) hx hb dX2_fieldOf_10 (by decide) ?_
    refine lv_icmp_ge (tgt := 56) hx hb dX2_fieldOf_12 (by decide) (fun c_1 => ?_) (fun c_1 => ?_)
    · rw [if_pos c_1] at hsp
      refine lv_iload_n hx hb dX2_fieldOf_56 rfl (lv_at hl 2 rfl) ?_
      have hr0 := Option.some.inj hsp
      clear hsp
      subst hr0
      have hP9 := hP.sub (ws' := [(h0, .inr (2, [.ref qf0, .ref qf1, .int v2, .ref qf3, .ref qf4, .ref qf5, .ref qf6, .ref qf7, .ref qf8, .ref qf9, .ref qf10, .ref qf11, .ref qf12, .ref qf13, .ref qf14, .ref qf15, .ref qf16, .ref qf17, .ref qf18, .ref qf19, .int v20])), (qf5, .inl (cf5, 8, .inl f5)), (qf6, .inl (cf6, 96, .inl f6)), (qf1, .inr (4, [.ref qf1_0, .ref qf1_1])), (qf1_0, .inl (cf1_0, 16, .inl f1_0))]) [0, 1, 2, 3, 4] rfl
      have hD9 := hD.sub (ws' := [(h0, .inr (2, [.ref qf0, .ref qf1, .int v2, .ref qf3, .ref qf4, .ref qf5, .ref qf6, .ref qf7, .ref qf8, .ref qf9, .ref qf10, .ref qf11, .ref qf12, .ref qf13, .ref qf14, .ref qf15, .ref qf16, .ref qf17, .ref qf18, .ref qf19, .int v20])), (qf5, .inl (cf5, 8, .inl f5)), (qf6, .inl (cf6, 96, .inl f6)), (qf1, .inr (4, [.ref qf1_0, .ref qf1_1])), (qf1_0, .inl (cf1_0, 16, .inl f1_0))]) [0, 1, 2, 3, 4] (by decide) rfl
      have hK9 := hK.sub (tys' := [(cf5, .int), (cf6, .int), (cf1_0, .int)]) [0, 1, 2] rfl
      exact W.iret hx hb hr (fun t ht hW => ⟨⟨(l3_8), (), rfl, rfl, by rw [ht]; exact hP9, va_K.moved hW.alike hK9, hD9⟩, hS.F ht⟩) hS.2.2 dX2_fieldOf_57
    · rw [if_neg c_1] at hsp
      refine lv_iload hx hb dX2_fieldOf_15 (lv_at hl 1 rfl) ?_
      obtain ⟨u1_0, hu_1, hsp⟩ := ox_bind hsp
      try dsimp only at hsp
      have hPc := hP.sub (ws' := []) [] rfl
      have hDc := hD.sub (ws' := []) [] (by decide) rfl
      have hKc := hK.sub (tys' := []) [] rfl
      have hFc := va_free (wc := []) hD hS hA [] rfl
      refine va_calli (va_runS (As := [.int l4_8]) (rest := []) ⟨hx, hb, hml, hown, hts⟩ (t2_isOwn l dC dI H.size l4_8 nf u1_0 hu_1) (va_cwS 1 hts gv_h4_36 rfl rfl rfl (by decide +kernel) ⟨Nat.le_of_ble_eq_true rfl, Nat.le_of_ble_eq_true rfl⟩) ⟨fun a U g mk q => by obtain ⟨q0, q1, qP, qK, qD⟩ := q; exact ⟨q0, q1, qP, va_K.moved (u := U) (U := U.calling g mk a) (Vm.Alike.refl U.vm) qK, qD⟩, fun U hU hW => ⟨rfl, by rw [hU], by rw [hU]; exact hPc, va_K.moved hW.alike hKc, hDc.weaken (fun _ _ _ _ => trivial)⟩⟩ rfl rfl hl.1 rfl (lv_room (Nat.le_of_ble_eq_true rfl)) dX2_fieldOf_17 ⟨Nat.le_of_ble_eq_true rfl, Nat.le_of_ble_eq_true rfl⟩) hS (fun q _ h => hFc q h) hFc ?_
      clear hS
      intro r_2 u t H1 locs ht hvm hw hB hz1 hk1 hS
      obtain ⟨⟩ := u
      obtain ⟨hP1, hK1, hD1⟩ := hB
      rw [ht] at hP1
      have hK1 := va_K.moved hvm.symm hK1
      try dsimp only at hw
      have hPD := va_join (wr := [(h0, .inr (2, [.ref qf0, .ref qf1, .int v2, .ref qf3, .ref qf4, .ref qf5, .ref qf6, .ref qf7, .ref qf8, .ref qf9, .ref qf10, .ref qf11, .ref qf12, .ref qf13, .ref qf14, .ref qf15, .ref qf16, .ref qf17, .ref qf18, .ref qf19, .int v20])), (qf5, .inl (cf5, 8, .inl f5)), (qf6, .inl (cf6, 96, .inl f6)), (qf1, .inr (4, [.ref qf1_0, .ref qf1_1])), (qf1_0, .inl (cf1_0, 16, .inl f1_0))]) (w1 := []) hP hD [] [0, 1, 2, 3, 4] rfl rfl (by decide) (by decide) hk1 hFc hP1 hD1
      clear hP hD
      obtain ⟨hP, hD⟩ := hPD
      replace hK := (hK.sub (tys' := [(cf5, .int), (cf6, .int), (cf1_0, .int)]) [0, 1, 2] rfl).app hK1
      clear hPc hDc hKc hFc hP1 hK1 hD1 hz1 hk1 ht hvm
      generalize H1 = H at hP hS ⊢
      replace hP : va_P (dC, dI) vwCl [(h0, .inr (2, [.ref qf0, .ref qf1, .int v2, .ref qf3, .ref qf4, .ref qf5, .ref qf6, .ref qf7, .ref qf8, .ref qf9, .ref qf10, .ref qf11, .ref qf12, .ref qf13, .ref qf14, .ref qf15, .ref qf16, .ref qf17, .ref qf18, .ref qf19, .int v20])), (qf5, .inl (cf5, 8, .inl f5)), (qf6, .inl (cf6, 96, .inl f6)), (qf1, .inr (4, [.ref qf1_0, .ref qf1_1])), (qf1_0, .inl (cf1_0, 16, .inl f1_0))] H := hP
      replace hD : va_D A [(h0, .inr (2, [.ref qf0, .ref qf1, .int v2, .ref qf3, .ref qf4, .ref qf5, .ref qf6, .ref qf7, .ref qf8, .ref qf9, .ref qf10, .ref qf11, .ref qf12, .ref qf13, .ref qf14, .ref qf15, .ref qf16, .ref qf17, .ref qf18, .ref qf19, .int v20])), (qf5, .inl (cf5, 8, .inl f5)), (qf6, .inl (cf6, 96, .inl f6)), (qf1, .inr (4, [.ref qf1_0, .ref qf1_1])), (qf1_0, .inl (cf1_0, 16, .inl f1_0))] := hD
      replace hK : va_K (dC, dI) vwCl [(cf5, .int), (cf6, .int), (cf1_0, .int)] s := hK
      obtain ⟨rfl, hz_1⟩ := hw
      rcases hz_1 with rfl | rfl
      · rw [if_pos rfl] at hsp
        refine lv_if_eq (tgt := 56) hx hb dX2_fieldOf_20 (by decide) (fun c_3 => ?_) (fun c_3 => (show False by revert c_3; decide).elim)
        refine lv_iload_n hx hb dX2_fieldOf_56 rfl (lv_at hl 2 rfl) ?_
        have hr0 := Option.some.inj hsp
        clear hsp
        subst hr0
        have hP9 := hP.sub (ws' := [(h0, .inr (2, [.ref qf0, .ref qf1, .int v2, .ref qf3, .ref qf4, .ref qf5, .ref qf6, .ref qf7, .ref qf8, .ref qf9, .ref qf10, .ref qf11, .ref qf12, .ref qf13, .ref qf14, .ref qf15, .ref qf16, .ref qf17, .ref qf18, .ref qf19, .int v20])), (qf5, .inl (cf5, 8, .inl f5)), (qf6, .inl (cf6, 96, .inl f6)), (qf1, .inr (4, [.ref qf1_0, .ref qf1_1])), (qf1_0, .inl (cf1_0, 16, .inl f1_0))]) [0, 1, 2, 3, 4] rfl
        have hD9 := hD.sub (ws' := [(h0, .inr (2, [.ref qf0, .ref qf1, .int v2, .ref qf3, .ref qf4, .ref qf5, .ref qf6, .ref qf7, .ref qf8, .ref qf9, .ref qf10, .ref qf11, .ref qf12, .ref qf13, .ref qf14, .ref qf15, .ref qf16, .ref qf17, .ref qf18, .ref qf19, .int v20])), (qf5, .inl (cf5, 8, .inl f5)), (qf6, .inl (cf6, 96, .inl f6)), (qf1, .inr (4, [.ref qf1_0, .ref qf1_1])), (qf1_0, .inl (cf1_0, 16, .inl f1_0))]) [0, 1, 2, 3, 4] (by decide) rfl
        have hK9 := hK.sub (tys' := [(cf5, .int), (cf6, .int), (cf1_0, .int)]) [0, 1, 2] rfl
        exact W.iret hx hb hr (fun t ht hW => ⟨⟨(l3_8), (), rfl, rfl, by rw [ht]; exact hP9, va_K.moved hW.alike hK9, hD9⟩, hS.F ht⟩) hS.2.2 dX2_fieldOf_57
      · rw [if_neg (by decide)] at hsp
        refine lv_if_eq (tgt := 56) hx hb dX2_fieldOf_20 (by decide) (fun c_4 => (show False by revert c_4; decide).elim) (fun c_4 => ?_)
        refine lv_iload_n hx hb dX2_fieldOf_23 rfl (lv_at hl 2 rfl) ?_
        refine lv_iconst (v := (-1)) hx hb dX2_fieldOf_24 (by decide) ?_
        refine lv_icmp_ne (tgt := 56) hx hb dX2_fieldOf_25 (by decide) (fun c_5 => ?_) (fun c_5 => ?_)
        · rw [if_neg c_5] at hsp
          refine lv_iload_n hx hb dX2_fieldOf_56 rfl (lv_at hl 2 rfl) ?_
          have hr0 := Option.some.inj hsp
          clear hsp
          subst hr0
          have hP9 := hP.sub (ws' := [(h0, .inr (2, [.ref qf0, .ref qf1, .int v2, .ref qf3, .ref qf4, .ref qf5, .ref qf6, .ref qf7, .ref qf8, .ref qf9, .ref qf10, .ref qf11, .ref qf12, .ref qf13, .ref qf14, .ref qf15, .ref qf16, .ref qf17, .ref qf18, .ref qf19, .int v20])), (qf5, .inl (cf5, 8, .inl f5)), (qf6, .inl (cf6, 96, .inl f6)), (qf1, .inr (4, [.ref qf1_0, .ref qf1_1])), (qf1_0, .inl (cf1_0, 16, .inl f1_0))]) [0, 1, 2, 3, 4] rfl
          have hD9 := hD.sub (ws' := [(h0, .inr (2, [.ref qf0, .ref qf1, .int v2, .ref qf3, .ref qf4, .ref qf5, .ref qf6, .ref qf7, .ref qf8, .ref qf9, .ref qf10, .ref qf11, .ref qf12, .ref qf13, .ref qf14, .ref qf15, .ref qf16, .ref qf17, .ref qf18, .ref qf19, .int v20])), (qf5, .inl (cf5, 8, .inl f5)), (qf6, .inl (cf6, 96, .inl f6)), (qf1, .inr (4, [.ref qf1_0, .ref qf1_1])), (qf1_0, .inl (cf1_0, 16, .inl f1_0))]) [0, 1, 2, 3, 4] (by decide) rfl
          have hK9 := hK.sub (tys' := [(cf5, .int), (cf6, .int), (cf1_0, .int)]) [0, 1, 2] rfl
          exact W.iret hx hb hr (fun t ht hW => ⟨⟨(l3_8), (), rfl, rfl, by rw [ht]; exact hP9, va_K.moved hW.alike hK9, hD9⟩, hS.F ht⟩) hS.2.2 dX2_fieldOf_57
        · rw [if_pos c_5] at hsp
          refine lv_aload_n hx hb dX2_fieldOf_28 rfl (lv_at hl 3 rfl) ?_
          refine lv_iload hx hb dX2_fieldOf_29 (lv_at hl 1 rfl) ?_
          refine lv_bipush (v := 8) hx hb dX2_fieldOf_31 (by decide) ?_
          refine lv_isub hx hb dX2_fieldOf_33 ?_
          refine lv_iload_n hx hb dX2_fieldOf_34 rfl (lv_at hl 5 rfl) ?_
          obtain ⟨u2_0, hu_2, hsp⟩ := ox_bind hsp
          try dsimp only at hsp
          have hPc := hP.sub (ws' := [(h0, .inr (2, [.ref qf0, .ref qf1, .int v2, .ref qf3, .ref qf4, .ref qf5, .ref qf6, .ref qf7, .ref qf8, .ref qf9, .ref qf10, .ref qf11, .ref qf12, .ref qf13, .ref qf14, .ref qf15, .ref qf16, .ref qf17, .ref qf18, .ref qf19, .int v20])), (qf5, .inl (cf5, 8, .inl f5)), (qf6, .inl (cf6, 96, .inl f6))]) [0, 1, 2] rfl
          have hDc := hD.sub (ws' := [(h0, .inr (2, [.ref qf0, .ref qf1, .int v2, .ref qf3, .ref qf4, .ref qf5, .ref qf6, .ref qf7, .ref qf8, .ref qf9, .ref qf10, .ref qf11, .ref qf12, .ref qf13, .ref qf14, .ref qf15, .ref qf16, .ref qf17, .ref qf18, .ref qf19, .int v20])), (qf5, .inl (cf5, 8, .inl f5)), (qf6, .inl (cf6, 96, .inl f6))]) [0, 1, 2] (by decide) rfl
          have hKc := hK.sub (tys' := [(cf5, .int), (cf6, .int)]) [0, 1] rfl
          have hFc := va_free (wc := [(h0, .inr (2, [.ref qf0, .ref qf1, .int v2, .ref qf3, .ref qf4, .ref qf5, .ref qf6, .ref qf7, .ref qf8, .ref qf9, .ref qf10, .ref qf11, .ref qf12, .ref qf13, .ref qf14, .ref qf15, .ref qf16, .ref qf17, .ref qf18, .ref qf19, .int v20])), (qf5, .inl (cf5, 8, .inl f5)), (qf6, .inl (cf6, 96, .inl f6))]) hD hS hA [0, 1, 2] rfl
          refine va_calli (va_runV (As := [.int (l4_8 - 8), .int l2_8]) (rest := []) ⟨hx, hb, hml, hown, hts⟩ (t2_fieldIn l dC dI H.size h0 ((l4_8 - 8)) l2_8 qf0 qf1 v2 qf3 qf4 qf5 qf6 qf7 qf8 qf9 qf10 qf11 qf12 qf13 qf14 qf15 qf16 qf17 qf18 qf19 v20 cf5 f5 cf6 f6 nf u2_0 hu_2) (cwV 2 hts gv_h4_37 rfl rfl rfl (by decide +kernel) ⟨Nat.le_of_ble_eq_true rfl, Nat.le_of_ble_eq_true rfl⟩) ⟨fun a U g mk q => by obtain ⟨q0, q1, qP, qK, qD⟩ := q; exact ⟨q0, q1, qP, va_K.moved (u := U) (U := U.calling g mk a) (Vm.Alike.refl U.vm) qK, qD⟩, va_recv hKc hPc (ci := 2) (q0 := 0) rfl rfl, fun U hU hW => ⟨rfl, by rw [hU], by rw [hU]; exact hPc, va_K.moved hW.alike hKc, hDc.weaken (fun _ _ _ _ => trivial)⟩⟩ rfl rfl hl.1 rfl (lv_room (Nat.le_of_ble_eq_true rfl)) dX2_fieldOf_35 ⟨Nat.le_of_ble_eq_true rfl, Nat.le_of_ble_eq_true rfl⟩) hS (fun q _ h => hFc q h) hFc ?_
          clear hS
          intro r_6 u t H1 locs ht hvm hw hB hz1 hk1 hS
          obtain ⟨⟩ := u
          obtain ⟨hP1, hK1, hD1⟩ := hB
          rw [ht] at hP1
          have hK1 := va_K.moved hvm.symm hK1
          try dsimp only at hw
          have hPD := va_join (wr := [(qf1, .inr (4, [.ref qf1_0, .ref qf1_1])), (qf1_0, .inl (cf1_0, 16, .inl f1_0))]) (w1 := [(h0, .inr (2, [.ref qf0, .ref qf1, .int v2, .ref qf3, .ref qf4, .ref qf5, .ref qf6, .ref qf7, .ref qf8, .ref qf9, .ref qf10, .ref qf11, .ref qf12, .ref qf13, .ref qf14, .ref qf15, .ref qf16, .ref qf17, .ref qf18, .ref qf19, .int v20])), (qf5, .inl (cf5, 8, .inl f5)), (qf6, .inl (cf6, 96, .inl f6))]) hP hD [0, 1, 2] [3, 4] rfl rfl (by decide) (by decide) hk1 hFc hP1 hD1
          clear hP hD
          obtain ⟨hP, hD⟩ := hPD
          replace hK := (hK.sub (tys' := [(cf1_0, .int)]) [2] rfl).app hK1
          clear hPc hDc hKc hFc hP1 hK1 hD1 hz1 hk1 ht hvm
          generalize H1 = H at hP hS ⊢
          replace hP : va_P (dC, dI) vwCl [(qf1, .inr (4, [.ref qf1_0, .ref qf1_1])), (qf1_0, .inl (cf1_0, 16, .inl f1_0)), (h0, .inr (2, [.ref qf0, .ref qf1, .int v2, .ref qf3, .ref qf4, .ref qf5, .ref qf6, .ref qf7, .ref qf8, .ref qf9, .ref qf10, .ref qf11, .ref qf12, .ref qf13, .ref qf14, .ref qf15, .ref qf16, .ref qf17, .ref qf18, .ref qf19, .int v20])), (qf5, .inl (cf5, 8, .inl f5)), (qf6, .inl (cf6, 96, .inl f6))] H := hP
          replace hD : va_D A [(qf1, .inr (4, [.ref qf1_0, .ref qf1_1])), (qf1_0, .inl (cf1_0, 16, .inl f1_0)), (h0, .inr (2, [.ref qf0, .ref qf1, .int v2, .ref qf3, .ref qf4, .ref qf5, .ref qf6, .ref qf7, .ref qf8, .ref qf9, .ref qf10, .ref qf11, .ref qf12, .ref qf13, .ref qf14, .ref qf15, .ref qf16, .ref qf17, .ref qf18, .ref qf19, .int v20])), (qf5, .inl (cf5, 8, .inl f5)), (qf6, .inl (cf6, 96, .inl f6))] := hD
          replace hK : va_K (dC, dI) vwCl [(cf1_0, .int), (cf5, .int), (cf6, .int)] s := hK
          obtain rfl := hw
          refine lv_istore_n (lv' := [(3, .int u2_0), (5, .int l5_8), (4, .int l4_8), (0, .ref h0), (1, .int l1_8), (2, .int l2_8)]) hx hb dX2_fieldOf_38 rfl hl (by decide) rfl (fun ls hl => ?_)
          refine lv_aload_n hx hb dX2_fieldOf_39 rfl (lv_at hl 3 rfl) ?_
          refine va_get (D := (dC, dI)) (ci := 2) (v := .ref qf1) (C := RX2) (T := TX2) (N := 21) hx hb hts uV_h4_X2 hown hK hP 2 rfl rfl 1 (by decide) (hts (.fieldLink RX2 14 "ClassMill$Heads" "kin" "LClassMill$Kin;") mw_h4_188) (fun _ h9 => h9) rfl dX2_fieldOf_40 ?_
          refine lv_iload hx hb dX2_fieldOf_43 (lv_at hl 2 rfl) ?_
          obtain ⟨u3_0, hu_3, hsp⟩ := ox_bind hsp
          try dsimp only at hsp
          have hPc := hP.sub (ws' := [(qf1, .inr (4, [.ref qf1_0, .ref qf1_1])), (qf1_0, .inl (cf1_0, 16, .inl f1_0))]) [0, 1] rfl
          have hDc := hD.sub (ws' := [(qf1, .inr (4, [.ref qf1_0, .ref qf1_1])), (qf1_0, .inl (cf1_0, 16, .inl f1_0))]) [0, 1] (by decide) rfl
          have hKc := hK.sub (tys' := [(cf1_0, .int)]) [0] rfl
          have hFc := va_free (wc := [(qf1, .inr (4, [.ref qf1_0, .ref qf1_1])), (qf1_0, .inl (cf1_0, 16, .inl f1_0))]) hD hS hA [0, 1] rfl
          refine va_calli (va_runV (As := [.int l4_8]) (rest := []) ⟨hx, hb, hml, hown, hts⟩ (tk_above l dC dI H.size qf1 l4_8 qf1_0 qf1_1 cf1_0 f1_0 nf u3_0 hu_3) (cwV 1 hts gv_h4_35 rfl rfl rfl (by decide +kernel) ⟨Nat.le_of_ble_eq_true rfl, Nat.le_of_ble_eq_true rfl⟩) ⟨fun a U g mk q => by obtain ⟨q0, q1, qP, qK, qD⟩ := q; exact ⟨q0, q1, qP, va_K.moved (u := U) (U := U.calling g mk a) (Vm.Alike.refl U.vm) qK, qD⟩, va_recv hKc hPc (ci := 4) (q0 := 0) rfl rfl, fun U hU hW => ⟨rfl, by rw [hU], by rw [hU]; exact hPc, va_K.moved hW.alike hKc, hDc.weaken (fun _ _ _ _ => trivial)⟩⟩ rfl rfl hl.1 rfl (lv_room (Nat.le_of_ble_eq_true rfl)) dX2_fieldOf_45 ⟨Nat.le_of_ble_eq_true rfl, Nat.le_of_ble_eq_true rfl⟩) hS (fun q _ h => hFc q h) hFc ?_
          clear hS
          intro r_7 u t H1 locs ht hvm hw hB hz1 hk1 hS
          obtain ⟨⟩ := u
          obtain ⟨hP1, hK1, hD1⟩ := hB
          rw [ht] at hP1
          have hK1 := va_K.moved hvm.symm hK1
          try dsimp only at hw
          have hPD := va_join (wr := [(h0, .inr (2, [.ref qf0, .ref qf1, .int v2, .ref qf3, .ref qf4, .ref qf5, .ref qf6, .ref qf7, .ref qf8, .ref qf9, .ref qf10, .ref qf11, .ref qf12, .ref qf13, .ref qf14, .ref qf15, .ref qf16, .ref qf17, .ref qf18, .ref qf19, .int v20])), (qf5, .inl (cf5, 8, .inl f5)), (qf6, .inl (cf6, 96, .inl f6))]) (w1 := [(qf1, .inr (4, [.ref qf1_0, .ref qf1_1])), (qf1_0, .inl (cf1_0, 16, .inl f1_0))]) hP hD [0, 1] [2, 3, 4] rfl rfl (by decide) (by decide) hk1 hFc hP1 hD1
          clear hP hD
          obtain ⟨hP, hD⟩ := hPD
          replace hK := (hK.sub (tys' := [(cf5, .int), (cf6, .int)]) [1, 2] rfl).app hK1
          clear hPc hDc hKc hFc hP1 hK1 hD1 hz1 hk1 ht hvm
          generalize H1 = H at hP hS ⊢
          replace hP : va_P (dC, dI) vwCl [(h0, .inr (2, [.ref qf0, .ref qf1, .int v2, .ref qf3, .ref qf4, .ref qf5, .ref qf6, .ref qf7, .ref qf8, .ref qf9, .ref qf10, .ref qf11, .ref qf12, .ref qf13, .ref qf14, .ref qf15, .ref qf16, .ref qf17, .ref qf18, .ref qf19, .int v20])), (qf5, .inl (cf5, 8, .inl f5)), (qf6, .inl (cf6, 96, .inl f6)), (qf1, .inr (4, [.ref qf1_0, .ref qf1_1])), (qf1_0, .inl (cf1_0, 16, .inl f1_0))] H := hP
          replace hD : va_D A [(h0, .inr (2, [.ref qf0, .ref qf1, .int v2, .ref qf3, .ref qf4, .ref qf5, .ref qf6, .ref qf7, .ref qf8, .ref qf9, .ref qf10, .ref qf11, .ref qf12, .ref qf13, .ref qf14, .ref qf15, .ref qf16, .ref qf17, .ref qf18, .ref qf19, .int v20])), (qf5, .inl (cf5, 8, .inl f5)), (qf6, .inl (cf6, 96, .inl f6)), (qf1, .inr (4, [.ref qf1_0, .ref qf1_1])), (qf1_0, .inl (cf1_0, 16, .inl f1_0))] := hD
          replace hK : va_K (dC, dI) vwCl [(cf5, .int), (cf6, .int), (cf1_0, .int)] s := hK
          obtain rfl := hw
          refine lv_istore (lv' := [(4, .int u3_0), (3, .int u2_0), (5, .int l5_8), (0, .ref h0), (1, .int l1_8), (2, .int l2_8)]) hx hb dX2_fieldOf_48 hl (by decide) rfl (fun ls hl => ?_)
          refine lv_iinc (v := (l5_8 + 1)) (lv' := [(5, .int (l5_8 + 1)), (4, .int u3_0), (3, .int u2_0), (0, .ref h0), (1, .int l1_8), (2, .int l2_8)]) hx hb dX2_fieldOf_50 hl (k := 2) rfl rfl (by decide) rfl (fun ls hl => ?_)
          refine lv_goto (tgt := 8) hx hb dX2_fieldOf_53 (by decide) ?_
          exact ih_8 H locs ls l1_8 l2_8 u2_0 u3_0 (l5_8 + 1) (lv_sub hl [0, 1, 2, 3, 4, 5] rfl) hS (hD.sub (ws' := [(h0, .inr (2, [.ref qf0, .ref qf1, .int v2, .ref qf3, .ref qf4, .ref qf5, .ref qf6, .ref qf7, .ref qf8, .ref qf9, .ref qf10, .ref qf11, .ref qf12, .ref qf13, .ref qf14, .ref qf15, .ref qf16, .ref qf17, .ref qf18, .ref qf19, .int v20])), (qf5, .inl (cf5, 8, .inl f5)), (qf6, .inl (cf6, 96, .inl f6)), (qf1, .inr (4, [.ref qf1_0, .ref qf1_1])), (qf1_0, .inl (cf1_0, 16, .inl f1_0))]) [0, 1, 2, 3, 4] (by decide) rfl) (hP.sub (ws' := [(h0, .inr (2, [.ref qf0, .ref qf1, .int v2, .ref qf3, .ref qf4, .ref qf5, .ref qf6, .ref qf7, .ref qf8, .ref qf9, .ref qf10, .ref qf11, .ref qf12, .ref qf13, .ref qf14, .ref qf15, .ref qf16, .ref qf17, .ref qf18, .ref qf19, .int v20])), (qf5, .inl (cf5, 8, .inl f5)), (qf6, .inl (cf6, 96, .inl f6)), (qf1, .inr (4, [.ref qf1_0, .ref qf1_1])), (qf1_0, .inl (cf1_0, 16, .inl f1_0))]) [0, 1, 2, 3, 4] rfl) hsp
def lp_t2_methodOf_8 (nf n : Nat) (a1 : Int32) (a2 : Int32) (f9 : Nat → Int32) (f10 : Nat → Int32) (v0_3 : Int32) (f0_2 : Nat → Int32) (f1_0 : Nat → Int32)  (l1_8 : Int32) (l2_8 : Int32) (l3_8 : Int32) (l4_8 : Int32) (l5_8 : Int32) : Option (Int32) := match n with
  | 0 => none
  | n + 1 => (if 16 ≤ l5_8 then (some l3_8) else ((sp_t2_isOwn nf l4_8).bind (fun p1 => (if p1 = 0 then (some l3_8) else (if l3_8 = (-1) then ((sp_t2_methodIn nf (l4_8 - 8) l2_8 f9 f10 v0_3 f0_2).bind (fun p2 => ((sp_tk_above nf l4_8 f1_0).bind (fun p3 => (lp_t2_methodOf_8 nf n a1 a2 f9 f10 v0_3 f0_2 f1_0 l1_8 l2_8 p2 p3 (l5_8 + 1)))))) else (some l3_8))))))
def sp_t2_methodOf (nf : Nat) (a1 : Int32) (a2 : Int32) (f9 : Nat → Int32) (f10 : Nat → Int32) (v0_3 : Int32) (f0_2 : Nat → Int32) (f1_0 : Nat → Int32) : Option (Int32) := (lp_t2_methodOf_8 nf nf a1 a2 f9 f10 v0_3 f0_2 f1_0 a1 a2 (-1) a1 0)
set_option maxHeartbeats 4000000 in
set_option maxRecDepth 100000 in
/-- ClassMill$Heads.methodOf -/
theorem t2_methodOf (l : Launch) (dC : Nat → ClassId) (dI : Nat → Nat → Nat) (sz : Nat) (h0 : Nat) (a1 : Int32) (a2 : Int32) (qf0 : Nat) (qf1 : Nat) (v2 : Int32) (qf3 : Nat) (qf4 : Nat) (qf5 : Nat) (qf6 : Nat) (qf7 : Nat) (qf8 : Nat) (qf9 : Nat) (qf10 : Nat) (qf11 : Nat) (qf12 : Nat) (qf13 : Nat) (qf14 : Nat) (qf15 : Nat) (qf16 : Nat) (qf17 : Nat) (qf18 : Nat) (qf19 : Nat) (v20 : Int32) (cf9 : ClassId) (f9 : (Nat → Int32)) (cf10 : ClassId) (f10 : (Nat → Int32)) (qf0_0 : Nat) (qf0_1 : Nat) (qf0_2 : Nat) (v0_3 : Int32) (qf0_4 : Nat) (qf0_5 : Nat) (qf0_6 : Nat) (qf0_7 : Nat) (qf0_8 : Nat) (v0_9 : Int32) (v0_10 : Int32) (v0_11 : Int32) (v0_12 : Int32) (cf0_2 : ClassId) (f0_2 : (Nat → Int32)) (qf1_0 : Nat) (qf1_1 : Nat) (cf1_0 : ClassId) (f1_0 : (Nat → Int32)) (nf : Nat) (r0 : Int32) (hsp : sp_t2_methodOf nf a1 a2 f9 f10 v0_3 f0_2 f1_0 = some r0) : Met l yX2_methodOf (.code yX2_methodOf cX2_methodOf 6 (some .int) :: VS_h4) ({ frames := 2, cells := 0, slots := 0, locals := 44 }) (va_Pc [.ref h0, .int a1, .int a2] (fun U => U.heap.size = sz ∧ va_P (dC, dI) vwCl [(h0, .inr (2, [.ref qf0, .ref qf1, .int v2, .ref qf3, .ref qf4, .ref qf5, .ref qf6, .ref qf7, .ref qf8, .ref qf9, .ref qf10, .ref qf11, .ref qf12, .ref qf13, .ref qf14, .ref qf15, .ref qf16, .ref qf17, .ref qf18, .ref qf19, .int v20])), (qf9, .inl (cf9, 8, .inl f9)), (qf10, .inl (cf10, 96, .inl f10)), (qf0, .inr (9, [.ref qf0_0, .ref qf0_1, .ref qf0_2, .int v0_3, .ref qf0_4, .ref qf0_5, .ref qf0_6, .ref qf0_7, .ref qf0_8, .int v0_9, .int v0_10, .int v0_11, .int v0_12])), (qf0_2, .inl (cf0_2, 3001, .inl f0_2)), (qf1, .inr (4, [.ref qf1_0, .ref qf1_1])), (qf1_0, .inl (cf1_0, 16, .inl f1_0))] U.heap ∧ va_K (dC, dI) vwCl [(cf9, .int), (cf10, .int), (cf0_2, .int), (cf1_0, .int)] U ∧ va_D (fun _ => True) [(h0, .inr (2, [.ref qf0, .ref qf1, .int v2, .ref qf3, .ref qf4, .ref qf5, .ref qf6, .ref qf7, .ref qf8, .ref qf9, .ref qf10, .ref qf11, .ref qf12, .ref qf13, .ref qf14, .ref qf15, .ref qf16, .ref qf17, .ref qf18, .ref qf19, .int v20])), (qf9, .inl (cf9, 8, .inl f9)), (qf10, .inl (cf10, 96, .inl f10)), (qf0, .inr (9, [.ref qf0_0, .ref qf0_1, .ref qf0_2, .int v0_3, .ref qf0_4, .ref qf0_5, .ref qf0_6, .ref qf0_7, .ref qf0_8, .int v0_9, .int v0_10, .int v0_11, .int v0_12])), (qf0_2, .inl (cf0_2, 3001, .inl f0_2)), (qf1, .inr (4, [.ref qf1_0, .ref qf1_1])), (qf1_0, .inl (cf1_0, 16, .inl f1_0))])) (va_Qi (fun (r : Int32) (u : Unit) => match u with | () => r0 = r) (fun (u : Unit) (t : State) => match u with | () => va_P (dC, dI) vwCl [(h0, .inr (2, [.ref qf0, .ref qf1, .int v2, .ref qf3, .ref qf4, .ref qf5, .ref qf6, .ref qf7, .ref qf8, .ref qf9, .ref qf10, .ref qf11, .ref qf12, .ref qf13, .ref qf14, .ref qf15, .ref qf16, .ref qf17, .ref qf18, .ref qf19, .int v20])), (qf9, .inl (cf9, 8, .inl f9)), (qf10, .inl (cf10, 96, .inl f10)), (qf0, .inr (9, [.ref qf0_0, .ref qf0_1, .ref qf0_2, .int v0_3, .ref qf0_4, .ref qf0_5, .ref qf0_6, .ref qf0_7, .ref qf0_8, .int v0_9, .int v0_10, .int v0_11, .int v0_12])), (qf0_2, .inl (cf0_2, 3001, .inl f0_2)), (qf1, .inr (4, [.ref qf1_0, .ref qf1_1])), (qf1_0, .inl (cf1_0, 16, .inl f1_0))] t.heap ∧ va_K (dC, dI) vwCl [(cf9, .int), (cf10, .int), (cf0_2, .int), (cf1_0, .int)] t ∧ va_D (va_A [(h0, .inr (2, [.ref qf0, .ref qf1, .int v2, .ref qf3, .ref qf4, .ref qf5, .ref qf6, .ref qf7, .ref qf8, .ref qf9, .ref qf10, .ref qf11, .ref qf12, .ref qf13, .ref qf14, .ref qf15, .ref qf16, .ref qf17, .ref qf18, .ref qf19, .int v20])), (qf9, .inl (cf9, 8, .inl f9)), (qf10, .inl (cf10, 96, .inl f10)), (qf0, .inr (9, [.ref qf0_0, .ref qf0_1, .ref qf0_2, .int v0_3, .ref qf0_4, .ref qf0_5, .ref qf0_6, .ref qf0_7, .ref qf0_8, .int v0_9, .int v0_10, .int v0_11, .int v0_12])), (qf0_2, .inl (cf0_2, 3001, .inl f0_2)), (qf1, .inr (4, [.ref qf1_0, .ref qf1_1])), (qf1_0, .inl (cf1_0, 16, .inl f1_0))] sz) [(h0, .inr (2, [.ref qf0, .ref qf1, .int v2, .ref qf3, .ref qf4, .ref qf5, .ref qf6, .ref qf7, .ref qf8, .ref qf9, .ref qf10, .ref qf11, .ref qf12, .ref qf13, .ref qf14, .ref qf15, .ref qf16, .ref qf17, .ref qf18, .ref qf19, .int v20])), (qf9, .inl (cf9, 8, .inl f9)), (qf10, .inl (cf10, 96, .inl f10)), (qf0, .inr (9, [.ref qf0_0, .ref qf0_1, .ref qf0_2, .int v0_3, .ref qf0_4, .ref qf0_5, .ref qf0_6, .ref qf0_7, .ref qf0_8, .int v0_9, .int v0_10, .int v0_11, .int v0_12])), (qf0_2, .inl (cf0_2, 3001, .inl f0_2)), (qf1, .inr (4, [.ref qf1_0, .ref qf1_1])), (qf1_0, .inl (cf1_0, 16, .inl f1_0))]) (va_A [(h0, .inr (2, [.ref qf0, .ref qf1, .int v2, .ref qf3, .ref qf4, .ref qf5, .ref qf6, .ref qf7, .ref qf8, .ref qf9, .ref qf10, .ref qf11, .ref qf12, .ref qf13, .ref qf14, .ref qf15, .ref qf16, .ref qf17, .ref qf18, .ref qf19, .int v20])), (qf9, .inl (cf9, 8, .inl f9)), (qf10, .inl (cf10, 96, .inl f10)), (qf0, .inr (9, [.ref qf0_0, .ref qf0_1, .ref qf0_2, .int v0_3, .ref qf0_4, .ref qf0_5, .ref qf0_6, .ref qf0_7, .ref qf0_8, .int v0_9, .int v0_10, .int v0_11, .int v0_12])), (qf0_2, .inl (cf0_2, 3001, .inl f0_2)), (qf1, .inr (4, [.ref qf1_0, .ref qf1_1])), (qf1_0, .inl (cf1_0, 16, .inl f1_0))] sz)) 0 0 (va_A [(h0, .inr (2, [.ref qf0, .ref qf1, .int v2, .ref qf3, .ref qf4, .ref qf5, .ref qf6, .ref qf7, .ref qf8, .ref qf9, .ref qf10, .ref qf11, .ref qf12, .ref qf13, .ref qf14, .ref qf15, .ref qf16, .ref qf17, .ref qf18, .ref qf19, .int v20])), (qf9, .inl (cf9, 8, .inl f9)), (qf10, .inl (cf10, 96, .inl f10)), (qf0, .inr (9, [.ref qf0_0, .ref qf0_1, .ref qf0_2, .int v0_3, .ref qf0_4, .ref qf0_5, .ref qf0_6, .ref qf0_7, .ref qf0_8, .int v0_9, .int v0_10, .int v0_11, .int v0_12])), (qf0_2, .inl (cf0_2, 3001, .inl f0_2)), (qf1, .inr (4, [.ref qf1_0, .ref qf1_1])), (qf1_0, .inl (cf1_0, 16, .inl f1_0))] sz) := by
  refine Met.ofW (cc := cX2_methodOf) (maxL := 6) (ret := (some .int)) (by decide) rfl ?_
  intro p e s m args below meth c s₁ B hml hv
  obtain ⟨rfl, hsz, hP, hK, hD0⟩ := hv
  have hx := B.exec
  have hb := B.bytes
  have hr := B.returns
  have hts := atoms_spec (ws := (.code yX2_methodOf cX2_methodOf 6 (some .int) :: VS_h4)) B.pre
  replace hts := fun w (h : w ∈ VS_h4) => hts w (List.mem_cons_of_mem _ h)
  have hown : s.vm.findClass RX2 = some m.cls := findClass_of_methodNamed B.named
  have hlocks := B.notSynchronized
  subst hsz
  have hD := hD0.self (sz := s.heap.size)
  generalize hAe : va_A [(h0, .inr (2, [.ref qf0, .ref qf1, .int v2, .ref qf3, .ref qf4, .ref qf5, .ref qf6, .ref qf7, .ref qf8, .ref qf9, .ref qf10, .ref qf11, .ref qf12, .ref qf13, .ref qf14, .ref qf15, .ref qf16, .ref qf17, .ref qf18, .ref qf19, .int v20])), (qf9, .inl (cf9, 8, .inl f9)), (qf10, .inl (cf10, 96, .inl f10)), (qf0, .inr (9, [.ref qf0_0, .ref qf0_1, .ref qf0_2, .int v0_3, .ref qf0_4, .ref qf0_5, .ref qf0_6, .ref qf0_7, .ref qf0_8, .int v0_9, .int v0_10, .int v0_11, .int v0_12])), (qf0_2, .inl (cf0_2, 3001, .inl f0_2)), (qf1, .inr (4, [.ref qf1_0, .ref qf1_1])), (qf1_0, .inl (cf1_0, 16, .inl f1_0))] s.heap.size = A at hD  ⊢
  have hA : ∀ q : Nat, s.heap.size ≤ q → A q := fun q h => by rw [← hAe]; exact Or.inr h
  have hP : va_P (dC, dI) vwCl [(h0, .inr (2, [.ref qf0, .ref qf1, .int v2, .ref qf3, .ref qf4, .ref qf5, .ref qf6, .ref qf7, .ref qf8, .ref qf9, .ref qf10, .ref qf11, .ref qf12, .ref qf13, .ref qf14, .ref qf15, .ref qf16, .ref qf17, .ref qf18, .ref qf19, .int v20])), (qf9, .inl (cf9, 8, .inl f9)), (qf10, .inl (cf10, 96, .inl f10)), (qf0, .inr (9, [.ref qf0_0, .ref qf0_1, .ref qf0_2, .int v0_3, .ref qf0_4, .ref qf0_5, .ref qf0_6, .ref qf0_7, .ref qf0_8, .int v0_9, .int v0_10, .int v0_11, .int v0_12])), (qf0_2, .inl (cf0_2, 3001, .inl f0_2)), (qf1, .inr (4, [.ref qf1_0, .ref qf1_1])), (qf1_0, .inl (cf1_0, 16, .inl f1_0))] s.heap := hP
  have hl := lv_entry ([.ref h0, .int a1, .int a2]) (n := 6) (Nat.le_of_ble_eq_true rfl)
  rw [lg_entry_eq]
  generalize (lg_sl ([.ref h0, .int a1, .int a2]) ++ List.replicate (6 - (lg_sl ([.ref h0, .int a1, .int a2])).length) Slot.unset).toArray = ls at hl ⊢
  have hl : lv_has ls 6 [(0, .ref h0), (1, .int a1), (2, .int a2)] := hl
  obtain ⟨H, hH⟩ : ∃ H : Heap, s.heap = H := ⟨_, rfl⟩
  rw [hH] at hP ⊢
  have hS : va_S A s.heap H [] := by rw [← hH]; exact va_S.rf
  obtain ⟨locs, hlo⟩ : ∃ locs : List Loc, locs = [] := ⟨_, rfl⟩
  rw [← hlo] at hS ⊢
  unfold sp_t2_methodOf at hsp
  refine lv_iconst (v := (-1)) hx hb dX2_methodOf_0 (by decide) ?_
  refine lv_istore_n (lv' := [(3, .int (-1)), (0, .ref h0), (1, .int a1), (2, .int a2)]) hx hb dX2_methodOf_1 rfl hl (by decide) rfl (fun ls hl => ?_)
  refine lv_iload_n hx hb dX2_methodOf_2 rfl (lv_at hl 2 rfl) ?_
  refine lv_istore (lv' := [(4, .int a1), (3, .int (-1)), (0, .ref h0), (1, .int a1), (2, .int a2)]) hx hb dX2_methodOf_3 hl (by decide) rfl (fun ls hl => ?_)
  refine lv_iconst (v := 0) hx hb dX2_methodOf_5 (by decide) ?_
  refine lv_istore (lv' := [(5, .int 0), (4, .int a1), (3, .int (-1)), (0, .ref h0), (1, .int a1), (2, .int a2)]) hx hb dX2_methodOf_6 hl (by decide) rfl (fun ls hl => ?_)
  replace hP := hP.sub (ws' := [(h0, .inr (2, [.ref qf0, .ref qf1, .int v2, .ref qf3, .ref qf4, .ref qf5, .ref qf6, .ref qf7, .ref qf8, .ref qf9, .ref qf10, .ref qf11, .ref qf12, .ref qf13, .ref qf14, .ref qf15, .ref qf16, .ref qf17, .ref qf18, .ref qf19, .int v20])), (qf9, .inl (cf9, 8, .inl f9)), (qf10, .inl (cf10, 96, .inl f10)), (qf0, .inr (9, [.ref qf0_0, .ref qf0_1, .ref qf0_2, .int v0_3, .ref qf0_4, .ref qf0_5, .ref qf0_6, .ref qf0_7, .ref qf0_8, .int v0_9, .int v0_10, .int v0_11, .int v0_12])), (qf0_2, .inl (cf0_2, 3001, .inl f0_2)), (qf1, .inr (4, [.ref qf1_0, .ref qf1_1])), (qf1_0, .inl (cf1_0, 16, .inl f1_0))]) [0, 1, 2, 3, 4, 5, 6] rfl
  replace hD := hD.sub (ws' := [(h0, .inr (2, [.ref qf0, .ref qf1, .int v2, .ref qf3, .ref qf4, .ref qf5, .ref qf6, .ref qf7, .ref qf8, .ref qf9, .ref qf10, .ref qf11, .ref qf12, .ref qf13, .ref qf14, .ref qf15, .ref qf16, .ref qf17, .ref qf18, .ref qf19, .int v20])), (qf9, .inl (cf9, 8, .inl f9)), (qf10, .inl (cf10, 96, .inl f10)), (qf0, .inr (9, [.ref qf0_0, .ref qf0_1, .ref qf0_2, .int v0_3, .ref qf0_4, .ref qf0_5, .ref qf0_6, .ref qf0_7, .ref qf0_8, .int v0_9, .int v0_10, .int v0_11, .int v0_12])), (qf0_2, .inl (cf0_2, 3001, .inl f0_2)), (qf1, .inr (4, [.ref qf1_0, .ref qf1_1])), (qf1_0, .inl (cf1_0, 16, .inl f1_0))]) [0, 1, 2, 3, 4, 5, 6] (by decide) rfl
  replace hK := hK.sub (tys' := [(cf9, .int), (cf10, .int), (cf0_2, .int), (cf1_0, .int)]) [0, 1, 2, 3] rfl
  obtain ⟨n_8, hn_8⟩ : ∃ z : Nat, z = nf := ⟨_, rfl⟩
  obtain ⟨l1_8, el1_8⟩ : ∃ z : Int32, z = a1 := ⟨_, rfl⟩
  obtain ⟨l2_8, el2_8⟩ : ∃ z : Int32, z = a2 := ⟨_, rfl⟩
  obtain ⟨l3_8, el3_8⟩ : ∃ z : Int32, z = (-1) := ⟨_, rfl⟩
  obtain ⟨l4_8, el4_8⟩ : ∃ z : Int32, z = a1 := ⟨_, rfl⟩
  obtain ⟨l5_8, el5_8⟩ : ∃ z : Int32, z = 0 := ⟨_, rfl⟩
  replace hsp : lp_t2_methodOf_8 nf n_8 a1 a2 f9 f10 v0_3 f0_2 f1_0 l1_8 l2_8 l3_8 l4_8 l5_8 = some r0 := by rw [hn_8, el1_8, el2_8, el3_8, el4_8, el5_8]; exact hsp
  replace hl : lv_has ls 6 [(5, .int l5_8), (4, .int l4_8), (3, .int l3_8), (0, .ref h0), (1, .int l1_8), (2, .int l2_8)] := by rw [el1_8, el2_8, el3_8, el4_8, el5_8]; exact hl
  clear hn_8 el1_8 el2_8 el3_8 el4_8 el5_8
  try clear hlo
  try clear hH
  revert hsp
  revert hP
  revert hD
  revert hS
  revert hl
  revert l5_8
  revert l4_8
  revert l3_8
  revert l2_8
  revert l1_8
  revert ls
  revert locs
  revert H
  induction n_8 with
  | zero => intro H locs ls l1_8 l2_8 l3_8 l4_8 l5_8 hl hS hD hP hsp; unfold lp_t2_methodOf_8 at hsp; cases hsp
  | succ n_8 ih_8 =>
    intro H locs ls l1_8 l2_8 l3_8 l4_8 l5_8 hl hS hD hP hsp
    unfold lp_t2_methodOf_8 at hsp
    try dsimp only at hsp
    refine lv_iload hx hb dX2_methodOf_8 (lv_at hl 0 rfl) ?_
    refine lv_bipush (v := 16) hx hb dX2_methodOf_10 (by decide) ?_
    refine lv_icmp_ge (tgt := 56) hx hb dX2_methodOf_12 (by decide) (fun c_1 => ?_) (fun c_1 => ?_)
    · rw [if_pos c_1] at hsp
      refine lv_iload_n hx hb dX2_methodOf_56 rfl (lv_at hl 2 rfl) ?_
      have hr0 := Option.some.inj hsp
      clear hsp
      subst hr0
      have hP9 := hP.sub (ws' := [(h0, .inr (2, [.ref qf0, .ref qf1, .int v2, .ref qf3, .ref qf4, .ref qf5, .ref qf6, .ref qf7, .ref qf8, .ref qf9, .ref qf10, .ref qf11, .ref qf12, .ref qf13, .ref qf14, .ref qf15, .ref qf16, .ref qf17, .ref qf18, .ref qf19, .int v20])), (qf9, .inl (cf9, 8, .inl f9)), (qf10, .inl (cf10, 96, .inl f10)), (qf0, .inr (9, [.ref qf0_0, .ref qf0_1, .ref qf0_2, .int v0_3, .ref qf0_4, .ref qf0_5, .ref qf0_6, .ref qf0_7, .ref qf0_8, .int v0_9, .int v0_10, .int v0_11, .int v0_12])), (qf0_2, .inl (cf0_2, 3001, .inl f0_2)), (qf1, .inr (4, [.ref qf1_0, .ref qf1_1])), (qf1_0, .inl (cf1_0, 16, .inl f1_0))]) [0, 1, 2, 3, 4, 5, 6] rfl
      have hD9 := hD.sub (ws' := [(h0, .inr (2, [.ref qf0, .ref qf1, .int v2, .ref qf3, .ref qf4, .ref qf5, .ref qf6, .ref qf7, .ref qf8, .ref qf9, .ref qf10, .ref qf11, .ref qf12, .ref qf13, .ref qf14, .ref qf15, .ref qf16, .ref qf17, .ref qf18, .ref qf19, .int v20])), (qf9, .inl (cf9, 8, .inl f9)), (qf10, .inl (cf10, 96, .inl f10)), (qf0, .inr (9, [.ref qf0_0, .ref qf0_1, .ref qf0_2, .int v0_3, .ref qf0_4, .ref qf0_5, .ref qf0_6, .ref qf0_7, .ref qf0_8, .int v0_9, .int v0_10, .int v0_11, .int v0_12])), (qf0_2, .inl (cf0_2, 3001, .inl f0_2)), (qf1, .inr (4, [.ref qf1_0, .ref qf1_1])), (qf1_0, .inl (cf1_0, 16, .inl f1_0))]) [0, 1, 2, 3, 4, 5, 6] (by decide) rfl
      have hK9 := hK.sub (tys' := [(cf9, .int), (cf10, .int), (cf0_2, .int), (cf1_0, .int)]) [0, 1, 2, 3] rfl
      exact W.iret hx hb hr (fun t ht hW => ⟨⟨(l3_8), (), rfl, rfl, by rw [ht]; exact hP9, va_K.moved hW.alike hK9, hD9⟩, hS.F ht⟩) hS.2.2 dX2_methodOf_57
    · rw [if_neg c_1] at hsp
      refine lv_iload hx hb dX2_methodOf_15 (lv_at hl 1 rfl) ?_
      obtain ⟨u1_0, hu_1, hsp⟩ := ox_bind hsp
      try dsimp only at hsp
      have hPc := hP.sub (ws' := []) [] rfl
      have hDc := hD.sub (ws' := []) [] (by decide) rfl
      have hKc := hK.sub (tys' := []) [] rfl
      have hFc := va_free (wc := []) hD hS hA [] rfl
      refine va_calli (va_runS (As := [.int l4_8]) (rest := []) ⟨hx, hb, hml, hown, hts⟩ (t2_isOwn l dC dI H.size l4_8 nf u1_0 hu_1) (va_cwS 1 hts gv_h4_36 rfl rfl rfl (by decide +kernel) ⟨Nat.le_of_ble_eq_true rfl, Nat.le_of_ble_eq_true rfl⟩) ⟨fun a U g mk q => by obtain ⟨q0, q1, qP, qK, qD⟩ := q; exact ⟨q0, q1, qP, va_K.moved (u := U) (U := U.calling g mk a) (Vm.Alike.refl U.vm) qK, qD⟩, fun U hU hW => ⟨rfl, by rw [hU], by rw [hU]; exact hPc, va_K.moved hW.alike hKc, hDc.weaken (fun _ _ _ _ => trivial)⟩⟩ rfl rfl hl.1 rfl (lv_room (Nat.le_of_ble_eq_true rfl)) dX2_methodOf_17 ⟨Nat.le_of_ble_eq_true rfl, Nat.le_of_ble_eq_true rfl⟩) hS (fun q _ h => hFc q h) hFc ?_
      clear hS
      intro r_2 u t H1 locs ht hvm hw hB hz1 hk1 hS
      obtain ⟨⟩ := u
      obtain ⟨hP1, hK1, hD1⟩ := hB
      rw [ht] at hP1
      have hK1 := va_K.moved hvm.symm hK1
      try dsimp only at hw
      have hPD := va_join (wr := [(h0, .inr (2, [.ref qf0, .ref qf1, .int v2, .ref qf3, .ref qf4, .ref qf5, .ref qf6, .ref qf7, .ref qf8, .ref qf9, .ref qf10, .ref qf11, .ref qf12, .ref qf13, .ref qf14, .ref qf15, .ref qf16, .ref qf17, .ref qf18, .ref qf19, .int v20])), (qf9, .inl (cf9, 8, .inl f9)), (qf10, .inl (cf10, 96, .inl f10)), (qf0, .inr (9, [.ref qf0_0, .ref qf0_1, .ref qf0_2, .int v0_3, .ref qf0_4, .ref qf0_5, .ref qf0_6, .ref qf0_7, .ref qf0_8, .int v0_9, .int v0_10, .int v0_11, .int v0_12])), (qf0_2, .inl (cf0_2, 3001, .inl f0_2)), (qf1, .inr (4, [.ref qf1_0, .ref qf1_1])), (qf1_0, .inl (cf1_0, 16, .inl f1_0))]) (w1 := []) hP hD [] [0, 1, 2, 3, 4, 5, 6] rfl rfl (by decide) (by decide) hk1 hFc hP1 hD1
      clear hP hD
      obtain ⟨hP, hD⟩ := hPD
      replace hK := (hK.sub (tys' := [(cf9, .int), (cf10, .int), (cf0_2, .int), (cf1_0, .int)]) [0, 1, 2, 3] rfl).app hK1
      clear hPc hDc hKc hFc hP1 hK1 hD1 hz1 hk1 ht hvm
      generalize H1 = H at hP hS ⊢
      replace hP : va_P (dC, dI) vwCl [(h0, .inr (2, [.ref qf0, .ref qf1, .int v2, .ref qf3, .ref qf4, .ref qf5, .ref qf6, .ref qf7, .ref qf8, .ref qf9, .ref qf10, .ref qf11, .ref qf12, .ref qf13, .ref qf14, .ref qf15, .ref qf16, .ref qf17, .ref qf18, .ref qf19, .int v20])), (qf9, .inl (cf9, 8, .inl f9)), (qf10, .inl (cf10, 96, .inl f10)), (qf0, .inr (9, [.ref qf0_0, .ref qf0_1, .ref qf0_2, .int v0_3, .ref qf0_4, .ref qf0_5, .ref qf0_6, .ref qf0_7, .ref qf0_8, .int v0_9, .int v0_10, .int v0_11, .int v0_12])), (qf0_2, .inl (cf0_2, 3001, .inl f0_2)), (qf1, .inr (4, [.ref qf1_0, .ref qf1_1])), (qf1_0, .inl (cf1_0, 16, .inl f1_0))] H := hP
      replace hD : va_D A [(h0, .inr (2, [.ref qf0, .ref qf1, .int v2, .ref qf3, .ref qf4, .ref qf5, .ref qf6, .ref qf7, .ref qf8, .ref qf9, .ref qf10, .ref qf11, .ref qf12, .ref qf13, .ref qf14, .ref qf15, .ref qf16, .ref qf17, .ref qf18, .ref qf19, .int v20])), (qf9, .inl (cf9, 8, .inl f9)), (qf10, .inl (cf10, 96, .inl f10)), (qf0, .inr (9, [.ref qf0_0, .ref qf0_1, .ref qf0_2, .int v0_3, .ref qf0_4, .ref qf0_5, .ref qf0_6, .ref qf0_7, .ref qf0_8, .int v0_9, .int v0_10, .int v0_11, .int v0_12])), (qf0_2, .inl (cf0_2, 3001, .inl f0_2)), (qf1, .inr (4, [.ref qf1_0, .ref qf1_1])), (qf1_0, .inl (cf1_0, 16, .inl f1_0))] := hD
      replace hK : va_K (dC, dI) vwCl [(cf9, .int), (cf10, .int), (cf0_2, .int), (cf1_0, .int)] s := hK
      obtain ⟨rfl, hz_1⟩ := hw
      rcases hz_1 with rfl | rfl
      · rw [if_pos rfl] at hsp
        refine lv_if_eq (tgt := 56) hx hb dX2_methodOf_20 (by decide) (fun c_3 => ?_) (fun c_3 => (show False by revert c_3; decide).elim)
        refine lv_iload_n hx hb dX2_methodOf_56 rfl (lv_at hl 2 rfl) ?_
        have hr0 := Option.some.inj hsp
        clear hsp
        subst hr0
        have hP9 := hP.sub (ws' := [(h0, .inr (2, [.ref qf0, .ref qf1, .int v2, .ref qf3, .ref qf4, .ref qf5, .ref qf6, .ref qf7, .ref qf8, .ref qf9, .ref qf10, .ref qf11, .ref qf12, .ref qf13, .ref qf14, .ref qf15, .ref qf16, .ref qf17, .ref qf18, .ref qf19, .int v20])), (qf9, .inl (cf9, 8, .inl f9)), (qf10, .inl (cf10, 96, .inl f10)), (qf0, .inr (9, [.ref qf0_0, .ref qf0_1, .ref qf0_2, .int v0_3, .ref qf0_4, .ref qf0_5, .ref qf0_6, .ref qf0_7, .ref qf0_8, .int v0_9, .int v0_10, .int v0_11, .int v0_12])), (qf0_2, .inl (cf0_2, 3001, .inl f0_2)), (qf1, .inr (4, [.ref qf1_0, .ref qf1_1])), (qf1_0, .inl (cf1_0, 16, .inl f1_0))]) [0, 1, 2, 3, 4, 5, 6] rfl
        have hD9 := hD.sub (ws' := [(h0, .inr (2, [.ref qf0, .ref qf1, .int v2, .ref qf3, .ref qf4, .ref qf5, .ref qf6, .ref qf7, .ref qf8, .ref qf9, .ref qf10, .ref qf11, .ref qf12, .ref qf13, .ref qf14, .ref qf15, .ref qf16, .ref qf17, .ref qf18, .ref qf19, .int v20])), (qf9, .inl (cf9, 8, .inl f9)), (qf10, .inl (cf10, 96, .inl f10)), (qf0, .inr (9, [.ref qf0_0, .ref qf0_1, .ref qf0_2, .int v0_3, .ref qf0_4, .ref qf0_5, .ref qf0_6, .ref qf0_7, .ref qf0_8, .int v0_9, .int v0_10, .int v0_11, .int v0_12])), (qf0_2, .inl (cf0_2, 3001, .inl f0_2)), (qf1, .inr (4, [.ref qf1_0, .ref qf1_1])), (qf1_0, .inl (cf1_0, 16, .inl f1_0))]) [0, 1, 2, 3, 4, 5, 6] (by decide) rfl
        have hK9 := hK.sub (tys' := [(cf9, .int), (cf10, .int), (cf0_2, .int), (cf1_0, .int)]) [0, 1, 2, 3] rfl
        exact W.iret hx hb hr (fun t ht hW => ⟨⟨(l3_8), (), rfl, rfl, by rw [ht]; exact hP9, va_K.moved hW.alike hK9, hD9⟩, hS.F ht⟩) hS.2.2 dX2_methodOf_57
      · rw [if_neg (by decide)] at hsp
        refine lv_if_eq (tgt := 56) hx hb dX2_methodOf_20 (by decide) (fun c_4 => (show False by revert c_4; decide).elim) (fun c_4 => ?_)
        refine lv_iload_n hx hb dX2_methodOf_23 rfl (lv_at hl 2 rfl) ?_
        refine lv_iconst (v := (-1)) hx hb dX2_methodOf_24 (by decide) ?_
        refine lv_icmp_ne (tgt := 56) hx hb dX2_methodOf_25 (by decide) (fun c_5 => ?_) (fun c_5 => ?_)
        · rw [if_neg c_5] at hsp
          refine lv_iload_n hx hb dX2_methodOf_56 rfl (lv_at hl 2 rfl) ?_
          have hr0 := Option.some.inj hsp
          clear hsp
          subst hr0
          have hP9 := hP.sub (ws' := [(h0, .inr (2, [.ref qf0, .ref qf1, .int v2, .ref qf3, .ref qf4, .ref qf5, .ref qf6, .ref qf7, .ref qf8, .ref qf9, .ref qf10, .ref qf11, .ref qf12, .ref qf13, .ref qf14, .ref qf15, .ref qf16, .ref qf17, .ref qf18, .ref qf19, .int v20])), (qf9, .inl (cf9, 8, .inl f9)), (qf10, .inl (cf10, 96, .inl f10)), (qf0, .inr (9, [.ref qf0_0, .ref qf0_1, .ref qf0_2, .int v0_3, .ref qf0_4, .ref qf0_5, .ref qf0_6, .ref qf0_7, .ref qf0_8, .int v0_9, .int v0_10, .int v0_11, .int v0_12])), (qf0_2, .inl (cf0_2, 3001, .inl f0_2)), (qf1, .inr (4, [.ref qf1_0, .ref qf1_1])), (qf1_0, .inl (cf1_0, 16, .inl f1_0))]) [0, 1, 2, 3, 4, 5, 6] rfl
          have hD9 := hD.sub (ws' := [(h0, .inr (2, [.ref qf0, .ref qf1, .int v2, .ref qf3, .ref qf4, .ref qf5, .ref qf6, .ref qf7, .ref qf8, .ref qf9, .ref qf10, .ref qf11, .ref qf12, .ref qf13, .ref qf14, .ref qf15, .ref qf16, .ref qf17, .ref qf18, .ref qf19, .int v20])), (qf9, .inl (cf9, 8, .inl f9)), (qf10, .inl (cf10, 96, .inl f10)), (qf0, .inr (9, [.ref qf0_0, .ref qf0_1, .ref qf0_2, .int v0_3, .ref qf0_4, .ref qf0_5, .ref qf0_6, .ref qf0_7, .ref qf0_8, .int v0_9, .int v0_10, .int v0_11, .int v0_12])), (qf0_2, .inl (cf0_2, 3001, .inl f0_2)), (qf1, .inr (4, [.ref qf1_0, .ref qf1_1])), (qf1_0, .inl (cf1_0, 16, .inl f1_0))]) [0, 1, 2, 3, 4, 5, 6] (by decide) rfl
          have hK9 := hK.sub (tys' := [(cf9, .int), (cf10, .int), (cf0_2, .int), (cf1_0, .int)]) [0, 1, 2, 3] rfl
          exact W.iret hx hb hr (fun t ht hW => ⟨⟨(l3_8), (), rfl, rfl, by rw [ht]; exact hP9, va_K.moved hW.alike hK9, hD9⟩, hS.F ht⟩) hS.2.2 dX2_methodOf_57
        · rw [if_pos c_5] at hsp
          refine lv_aload_n hx hb dX2_methodOf_28 rfl (lv_at hl 3 rfl) ?_
          refine lv_iload hx hb dX2_methodOf_29 (lv_at hl 1 rfl) ?_
          refine lv_bipush (v := 8) hx hb dX2_methodOf_31 (by decide) ?_
          refine lv_isub hx hb dX2_methodOf_33 ?_
          refine lv_iload_n hx hb dX2_methodOf_34 rfl (lv_at hl 5 rfl) ?_
          obtain ⟨u2_0, hu_2, hsp⟩ := ox_bind hsp
          try dsimp only at hsp
          have hPc := hP.sub (ws' := [(h0, .inr (2, [.ref qf0, .ref qf1, .int v2, .ref qf3, .ref qf4, .ref qf5, .ref qf6, .ref qf7, .ref qf8, .ref qf9, .ref qf10, .ref qf11, .ref qf12, .ref qf13, .ref qf14, .ref qf15, .ref qf16, .ref qf17, .ref qf18, .ref qf19, .int v20])), (qf9, .inl (cf9, 8, .inl f9)), (qf10, .inl (cf10, 96, .inl f10)), (qf0, .inr (9, [.ref qf0_0, .ref qf0_1, .ref qf0_2, .int v0_3, .ref qf0_4, .ref qf0_5, .ref qf0_6, .ref qf0_7, .ref qf0_8, .int v0_9, .int v0_10, .int v0_11, .int v0_12])), (qf0_2, .inl (cf0_2, 3001, .inl f0_2))]) [0, 1, 2, 3, 4] rfl
          have hDc := hD.sub (ws' := [(h0, .inr (2, [.ref qf0, .ref qf1, .int v2, .ref qf3, .ref qf4, .ref qf5, .ref qf6, .ref qf7, .ref qf8, .ref qf9, .ref qf10, .ref qf11, .ref qf12, .ref qf13, .ref qf14, .ref qf15, .ref qf16, .ref qf17, .ref qf18, .ref qf19, .int v20])), (qf9, .inl (cf9, 8, .inl f9)), (qf10, .inl (cf10, 96, .inl f10)), (qf0, .inr (9, [.ref qf0_0, .ref qf0_1, .ref qf0_2, .int v0_3, .ref qf0_4, .ref qf0_5, .ref qf0_6, .ref qf0_7, .ref qf0_8, .int v0_9, .int v0_10, .int v0_11, .int v0_12])), (qf0_2, .inl (cf0_2, 3001, .inl f0_2))]) [0, 1, 2, 3, 4] (by decide) rfl
          have hKc := hK.sub (tys' := [(cf9, .int), (cf10, .int), (cf0_2, .int)]) [0, 1, 2] rfl
          have hFc := va_free (wc := [(h0, .inr (2, [.ref qf0, .ref qf1, .int v2, .ref qf3, .ref qf4, .ref qf5, .ref qf6, .ref qf7, .ref qf8, .ref qf9, .ref qf10, .ref qf11, .ref qf12, .ref qf13, .ref qf14, .ref qf15, .ref qf16, .ref qf17, .ref qf18, .ref qf19, .int v20])), (qf9, .inl (cf9, 8, .inl f9)), (qf10, .inl (cf10, 96, .inl f10)), (qf0, .inr (9, [.ref qf0_0, .ref qf0_1, .ref qf0_2, .int v0_3, .ref qf0_4, .ref qf0_5, .ref qf0_6, .ref qf0_7, .ref qf0_8, .int v0_9, .int v0_10, .int v0_11, .int v0_12])), (qf0_2, .inl (cf0_2, 3001, .inl f0_2))]) hD hS hA [0, 1, 2, 3, 4] rfl
          refine va_calli (va_runV (As := [.int (l4_8 - 8), .int l2_8]) (rest := []) ⟨hx, hb, hml, hown, hts⟩ (t2_methodIn l dC dI H.size h0 ((l4_8 - 8)) l2_8 qf0 qf1 v2 qf3 qf4 qf5 qf6 qf7 qf8 qf9 qf10 qf11 qf12 qf13 qf14 qf15 qf16 qf17 qf18 qf19 v20 cf9 f9 cf10 f10 qf0_0 qf0_1 qf0_2 v0_3 qf0_4 qf0_5 qf0_6 qf0_7 qf0_8 v0_9 v0_10 v0_11 v0_12 cf0_2 f0_2 nf u2_0 hu_2) (cwV 2 hts gv_h4_38 rfl rfl rfl (by decide +kernel) ⟨Nat.le_of_ble_eq_true rfl, Nat.le_of_ble_eq_true rfl⟩) ⟨fun a U g mk q => by obtain ⟨q0, q1, qP, qK, qD⟩ := q; exact ⟨q0, q1, qP, va_K.moved (u := U) (U := U.calling g mk a) (Vm.Alike.refl U.vm) qK, qD⟩, va_recv hKc hPc (ci := 2) (q0 := 0) rfl rfl, fun U hU hW => ⟨rfl, by rw [hU], by rw [hU]; exact hPc, va_K.moved hW.alike hKc, hDc.weaken (fun _ _ _ _ => trivial)⟩⟩ rfl rfl hl.1 rfl (lv_room (Nat.le_of_ble_eq_true rfl)) dX2_methodOf_35 ⟨Nat.le_of_ble_eq_true rfl, Nat.le_of_ble_eq_true rfl⟩) hS (fun q _ h => hFc q h) hFc ?_
          clear hS
          intro r_6 u t H1 locs ht hvm hw hB hz1 hk1 hS
          obtain ⟨⟩ := u
          obtain ⟨hP1, hK1, hD1⟩ := hB
          rw [ht] at hP1
          have hK1 := va_K.moved hvm.symm hK1
          try dsimp only at hw
          have hPD := va_join (wr := [(qf1, .inr (4, [.ref qf1_0, .ref qf1_1])), (qf1_0, .inl (cf1_0, 16, .inl f1_0))]) (w1 := [(h0, .inr (2, [.ref qf0, .ref qf1, .int v2, .ref qf3, .ref qf4, .ref qf5, .ref qf6, .ref qf7, .ref qf8, .ref qf9, .ref qf10, .ref qf11, .ref qf12, .ref qf13, .ref qf14, .ref qf15, .ref qf16, .ref qf17, .ref qf18, .ref qf19, .int v20])), (qf9, .inl (cf9, 8, .inl f9)), (qf10, .inl (cf10, 96, .inl f10)), (qf0, .inr (9, [.ref qf0_0, .ref qf0_1, .ref qf0_2, .int v0_3, .ref qf0_4, .ref qf0_5, .ref qf0_6, .ref qf0_7, .ref qf0_8, .int v0_9, .int v0_10, .int v0_11, .int v0_12])), (qf0_2, .inl (cf0_2, 3001, .inl f0_2))]) hP hD [0, 1, 2, 3, 4] [5, 6] rfl rfl (by decide) (by decide) hk1 hFc hP1 hD1
          clear hP hD
          obtain ⟨hP, hD⟩ := hPD
          replace hK := (hK.sub (tys' := [(cf1_0, .int)]) [3] rfl).app hK1
          clear hPc hDc hKc hFc hP1 hK1 hD1 hz1 hk1 ht hvm
          generalize H1 = H at hP hS ⊢
          replace hP : va_P (dC, dI) vwCl [(qf1, .inr (4, [.ref qf1_0, .ref qf1_1])), (qf1_0, .inl (cf1_0, 16, .inl f1_0)), (h0, .inr (2, [.ref qf0, .ref qf1, .int v2, .ref qf3, .ref qf4, .ref qf5, .ref qf6, .ref qf7, .ref qf8, .ref qf9, .ref qf10, .ref qf11, .ref qf12, .ref qf13, .ref qf14, .ref qf15, .ref qf16, .ref qf17, .ref qf18, .ref qf19, .int v20])), (qf9, .inl (cf9, 8, .inl f9)), (qf10, .inl (cf10, 96, .inl f10)), (qf0, .inr (9, [.ref qf0_0, .ref qf0_1, .ref qf0_2, .int v0_3, .ref qf0_4, .ref qf0_5, .ref qf0_6, .ref qf0_7, .ref qf0_8, .int v0_9, .int v0_10, .int v0_11, .int v0_12])), (qf0_2, .inl (cf0_2, 3001, .inl f0_2))] H := hP
          replace hD : va_D A [(qf1, .inr (4, [.ref qf1_0, .ref qf1_1])), (qf1_0, .inl (cf1_0, 16, .inl f1_0)), (h0, .inr (2, [.ref qf0, .ref qf1, .int v2, .ref qf3, .ref qf4, .ref qf5, .ref qf6, .ref qf7, .ref qf8, .ref qf9, .ref qf10, .ref qf11, .ref qf12, .ref qf13, .ref qf14, .ref qf15, .ref qf16, .ref qf17, .ref qf18, .ref qf19, .int v20])), (qf9, .inl (cf9, 8, .inl f9)), (qf10, .inl (cf10, 96, .inl f10)), (qf0, .inr (9, [.ref qf0_0, .ref qf0_1, .ref qf0_2, .int v0_3, .ref qf0_4, .ref qf0_5, .ref qf0_6, .ref qf0_7, .ref qf0_8, .int v0_9, .int v0_10, .int v0_11, .int v0_12])), (qf0_2, .inl (cf0_2, 3001, .inl f0_2))] := hD
          replace hK : va_K (dC, dI) vwCl [(cf1_0, .int), (cf9, .int), (cf10, .int), (cf0_2, .int)] s := hK
          obtain rfl := hw
          refine lv_istore_n (lv' := [(3, .int u2_0), (5, .int l5_8), (4, .int l4_8), (0, .ref h0), (1, .int l1_8), (2, .int l2_8)]) hx hb dX2_methodOf_38 rfl hl (by decide) rfl (fun ls hl => ?_)
          refine lv_aload_n hx hb dX2_methodOf_39 rfl (lv_at hl 3 rfl) ?_
          refine va_get (D := (dC, dI)) (ci := 2) (v := .ref qf1) (C := RX2) (T := TX2) (N := 21) hx hb hts uV_h4_X2 hown hK hP 2 rfl rfl 1 (by decide) (hts (.fieldLink RX2 14 "ClassMill$Heads" "kin" "LClassMill$Kin;") mw_h4_188) (fun _ h9 => h9) rfl dX2_methodOf_40 ?_
          refine lv_iload hx hb dX2_methodOf_43 (lv_at hl 2 rfl) ?_
          obtain ⟨u3_0, hu_3, hsp⟩ := ox_bind hsp
          try dsimp only at hsp
          have hPc := hP.sub (ws' := [(qf1, .inr (4, [.ref qf1_0, .ref qf1_1])), (qf1_0, .inl (cf1_0, 16, .inl f1_0))]) [0, 1] rfl
          have hDc := hD.sub (ws' := [(qf1, .inr (4, [.ref qf1_0, .ref qf1_1])), (qf1_0, .inl (cf1_0, 16, .inl f1_0))]) [0, 1] (by decide) rfl
          have hKc := hK.sub (tys' := [(cf1_0, .int)]) [0] rfl
          have hFc := va_free (wc := [(qf1, .inr (4, [.ref qf1_0, .ref qf1_1])), (qf1_0, .inl (cf1_0, 16, .inl f1_0))]) hD hS hA [0, 1] rfl
          refine va_calli (va_runV (As := [.int l4_8]) (rest := []) ⟨hx, hb, hml, hown, hts⟩ (tk_above l dC dI H.size qf1 l4_8 qf1_0 qf1_1 cf1_0 f1_0 nf u3_0 hu_3) (cwV 1 hts gv_h4_35 rfl rfl rfl (by decide +kernel) ⟨Nat.le_of_ble_eq_true rfl, Nat.le_of_ble_eq_true rfl⟩) ⟨fun a U g mk q => by obtain ⟨q0, q1, qP, qK, qD⟩ := q; exact ⟨q0, q1, qP, va_K.moved (u := U) (U := U.calling g mk a) (Vm.Alike.refl U.vm) qK, qD⟩, va_recv hKc hPc (ci := 4) (q0 := 0) rfl rfl, fun U hU hW => ⟨rfl, by rw [hU], by rw [hU]; exact hPc, va_K.moved hW.alike hKc, hDc.weaken (fun _ _ _ _ => trivial)⟩⟩ rfl rfl hl.1 rfl (lv_room (Nat.le_of_ble_eq_true rfl)) dX2_methodOf_45 ⟨Nat.le_of_ble_eq_true rfl, Nat.le_of_ble_eq_true rfl⟩) hS (fun q _ h => hFc q h) hFc ?_
          clear hS
          intro r_7 u t H1 locs ht hvm hw hB hz1 hk1 hS
          obtain ⟨⟩ := u
          obtain ⟨hP1, hK1, hD1⟩ := hB
          rw [ht] at hP1
          have hK1 := va_K.moved hvm.symm hK1
          try dsimp only at hw
          have hPD := va_join (wr := [(h0, .inr (2, [.ref qf0, .ref qf1, .int v2, .ref qf3, .ref qf4, .ref qf5, .ref qf6, .ref qf7, .ref qf8, .ref qf9, .ref qf10, .ref qf11, .ref qf12, .ref qf13, .ref qf14, .ref qf15, .ref qf16, .ref qf17, .ref qf18, .ref qf19, .int v20])), (qf9, .inl (cf9, 8, .inl f9)), (qf10, .inl (cf10, 96, .inl f10)), (qf0, .inr (9, [.ref qf0_0, .ref qf0_1, .ref qf0_2, .int v0_3, .ref qf0_4, .ref qf0_5, .ref qf0_6, .ref qf0_7, .ref qf0_8, .int v0_9, .int v0_10, .int v0_11, .int v0_12])), (qf0_2, .inl (cf0_2, 3001, .inl f0_2))]) (w1 := [(qf1, .inr (4, [.ref qf1_0, .ref qf1_1])), (qf1_0, .inl (cf1_0, 16, .inl f1_0))]) hP hD [0, 1] [2, 3, 4, 5, 6] rfl rfl (by decide) (by decide) hk1 hFc hP1 hD1
          clear hP hD
          obtain ⟨hP, hD⟩ := hPD
          replace hK := (hK.sub (tys' := [(cf9, .int), (cf10, .int), (cf0_2, .int)]) [1, 2, 3] rfl).app hK1
          clear hPc hDc hKc hFc hP1 hK1 hD1 hz1 hk1 ht hvm
          generalize H1 = H at hP hS ⊢
          replace hP : va_P (dC, dI) vwCl [(h0, .inr (2, [.ref qf0, .ref qf1, .int v2, .ref qf3, .ref qf4, .ref qf5, .ref qf6, .ref qf7, .ref qf8, .ref qf9, .ref qf10, .ref qf11, .ref qf12, .ref qf13, .ref qf14, .ref qf15, .ref qf16, .ref qf17, .ref qf18, .ref qf19, .int v20])), (qf9, .inl (cf9, 8, .inl f9)), (qf10, .inl (cf10, 96, .inl f10)), (qf0, .inr (9, [.ref qf0_0, .ref qf0_1, .ref qf0_2, .int v0_3, .ref qf0_4, .ref qf0_5, .ref qf0_6, .ref qf0_7, .ref qf0_8, .int v0_9, .int v0_10, .int v0_11, .int v0_12])), (qf0_2, .inl (cf0_2, 3001, .inl f0_2)), (qf1, .inr (4, [.ref qf1_0, .ref qf1_1])), (qf1_0, .inl (cf1_0, 16, .inl f1_0))] H := hP
          replace hD : va_D A [(h0, .inr (2, [.ref qf0, .ref qf1, .int v2, .ref qf3, .ref qf4, .ref qf5, .ref qf6, .ref qf7, .ref qf8, .ref qf9, .ref qf10, .ref qf11, .ref qf12, .ref qf13, .ref qf14, .ref qf15, .ref qf16, .ref qf17, .ref qf18, .ref qf19, .int v20])), (qf9, .inl (cf9, 8, .inl f9)), (qf10, .inl (cf10, 96, .inl f10)), (qf0, .inr (9, [.ref qf0_0, .ref qf0_1, .ref qf0_2, .int v0_3, .ref qf0_4, .ref qf0_5, .ref qf0_6, .ref qf0_7, .ref qf0_8, .int v0_9, .int v0_10, .int v0_11, .int v0_12])), (qf0_2, .inl (cf0_2, 3001, .inl f0_2)), (qf1, .inr (4, [.ref qf1_0, .ref qf1_1])), (qf1_0, .inl (cf1_0, 16, .inl f1_0))] := hD
          replace hK : va_K (dC, dI) vwCl [(cf9, .int), (cf10, .int), (cf0_2, .int), (cf1_0, .int)] s := hK
          obtain rfl := hw
          refine lv_istore (lv' := [(4, .int u3_0), (3, .int u2_0), (5, .int l5_8), (0, .ref h0), (1, .int l1_8), (2, .int l2_8)]) hx hb dX2_methodOf_48 hl (by decide) rfl (fun ls hl => ?_)
          refine lv_iinc (v := (l5_8 + 1)) (lv' := [(5, .int (l5_8 + 1)), (4, .int u3_0), (3, .int u2_0), (0, .ref h0), (1, .int l1_8), (2, .int l2_8)]) hx hb dX2_methodOf_50 hl (k := 2) rfl rfl (by decide) rfl (fun ls hl => ?_)
          refine lv_goto (tgt := 8) hx hb dX2_methodOf_53 (by decide) ?_
          exact ih_8 H locs ls l1_8 l2_8 u2_0 u3_0 (l5_8 + 1) (lv_sub hl [0, 1, 2, 3, 4, 5] rfl) hS (hD.sub (ws' := [(h0, .inr (2, [.ref qf0, .ref qf1, .int v2, .ref qf3, .ref qf4, .ref qf5, .ref qf6, .ref qf7, .ref qf8, .ref qf9, .ref qf10, .ref qf11, .ref qf12, .ref qf13, .ref qf14, .ref qf15, .ref qf16, .ref qf17, .ref qf18, .ref qf19, .int v20])), (qf9, .inl (cf9, 8, .inl f9)), (qf10, .inl (cf10, 96, .inl f10)), (qf0, .inr (9, [.ref qf0_0, .ref qf0_1, .ref qf0_2, .int v0_3, .ref qf0_4, .ref qf0_5, .ref qf0_6, .ref qf0_7, .ref qf0_8, .int v0_9, .int v0_10, .int v0_11, .int v0_12])), (qf0_2, .inl (cf0_2, 3001, .inl f0_2)), (qf1, .inr (4, [.ref qf1_0, .ref qf1_1])), (qf1_0, .inl (cf1_0, 16, .inl f1_0))]) [0, 1, 2, 3, 4, 5, 6] (by decide) rfl) (hP.sub (ws' := [(h0, .inr (2, [.ref qf0, .ref qf1, .int v2, .ref qf3, .ref qf4, .ref qf5, .ref qf6, .ref qf7, .ref qf8, .ref qf9, .ref qf10, .ref qf11, .ref qf12, .ref qf13, .ref qf14, .ref qf15, .ref qf16, .ref qf17, .ref qf18, .ref qf19, .int v20])), (qf9, .inl (cf9, 8, .inl f9)), (qf10, .inl (cf10, 96, .inl f10)), (qf0, .inr (9, [.ref qf0_0, .ref qf0_1, .ref qf0_2, .int v0_3, .ref qf0_4, .ref qf0_5, .ref qf0_6, .ref qf0_7, .ref qf0_8, .int v0_9, .int v0_10, .int v0_11, .int v0_12])), (qf0_2, .inl (cf0_2, 3001, .inl f0_2)), (qf1, .inr (4, [.ref qf1_0, .ref qf1_1])), (qf1_0, .inl (cf1_0, 16, .inl f1_0))]) [0, 1, 2, 3, 4, 5, 6] rfl) hsp
def sp_t2_fieldsOf (nf : Nat) (a1 : Int32) (f5 : Nat → Int32) : Option (Int32) := ((sp_t2_isOwn nf (8 + a1)).bind (fun p1 => (if p1 = 0 then (some 0) else (if a1 < 0 then none else if 8 ≤ (a1 : Int32).toNatClampNeg then none else (some (f5 (a1 : Int32).toNatClampNeg))))))
