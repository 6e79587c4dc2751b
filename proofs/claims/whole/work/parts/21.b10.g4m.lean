set_option maxHeartbeats 4000000 in
set_option maxRecDepth 100000 in
/-- ClassMillModel.isFieldKind -/
theorem vm_isFieldKind (l : Launch) (dC : Nat → ClassId) (dI : Nat → Nat → Nat) (sz : Nat) (qa1 : Nat) (a2 : Int32) (a3 : Int32) (ca1 : ClassId) (na1 : Nat) (fa1 : (Nat → Int32)) (nf : Nat) (r0 : Int32) (hsp : sp_vm_isFieldKind nf a2 a3 na1 fa1 = some r0) : Met l yX13_isFieldKind (.code yX13_isFieldKind cX13_isFieldKind 3 (some .boolean) :: VS_h9) ({ frames := 4, cells := 0, slots := 0, locals := 89 }) (va_Pc [.ref qa1, .int a2, .int a3] (fun U => U.heap.size = sz ∧ va_P (dC, dI) vwCl [(qa1, .inl (ca1, na1, .inl fa1))] U.heap ∧ va_K (dC, dI) vwCl [(ca1, .int)] U ∧ va_D (fun _ => True) [(qa1, .inl (ca1, na1, .inl fa1))])) (va_Qi (fun (r : Int32) (u : Unit) => match u with | () => r0 = r ∧ (r0 = 0 ∨ r0 = 1)) (fun (u : Unit) (t : State) => match u with | () => va_P (dC, dI) vwCl [(qa1, .inl (ca1, na1, .inl fa1))] t.heap ∧ va_K (dC, dI) vwCl [(ca1, .int)] t ∧ va_D (va_A [(qa1, .inl (ca1, na1, .inl fa1))] sz) [(qa1, .inl (ca1, na1, .inl fa1))]) (va_A [(qa1, .inl (ca1, na1, .inl fa1))] sz)) 0 0 (va_A [(qa1, .inl (ca1, na1, .inl fa1))] sz) := by
  refine Met.ofW (cc := cX13_isFieldKind) (maxL := 3) (ret := (some .boolean)) (by decide) rfl ?_
  intro p e s m args below meth c s₁ B hml hv
  obtain ⟨rfl, hsz, hP, hK, hD0⟩ := hv
  have hx := B.exec
  have hb := B.bytes
  have hr := B.returns
  have hts := atoms_spec (ws := (.code yX13_isFieldKind cX13_isFieldKind 3 (some .boolean) :: VS_h9)) B.pre
  replace hts := fun w (h : w ∈ VS_h9) => hts w (List.mem_cons_of_mem _ h)
  have hown : s.vm.findClass RX13 = some m.cls := findClass_of_methodNamed B.named
  have hlocks := B.notSynchronized
  subst hsz
  have hD := hD0.self (sz := s.heap.size)
  generalize hAe : va_A [(qa1, .inl (ca1, na1, .inl fa1))] s.heap.size = A at hD  ⊢
  have hA : ∀ q : Nat, s.heap.size ≤ q → A q := fun q h => by rw [← hAe]; exact Or.inr h
  have hP : va_P (dC, dI) vwCl [(qa1, .inl (ca1, na1, .inl fa1))] s.heap := hP
  have hl := lv_entry ([.ref qa1, .int a2, .int a3]) (n := 3) (Nat.le_of_ble_eq_true rfl)
  rw [lg_entry_eq]
  generalize (lg_sl ([.ref qa1, .int a2, .int a3]) ++ List.replicate (3 - (lg_sl ([.ref qa1, .int a2, .int a3])).length) Slot.unset).toArray = ls at hl ⊢
  have hl : lv_has ls 3 [(0, .ref qa1), (1, .int a2), (2, .int a3)] := hl
  obtain ⟨H, hH⟩ : ∃ H : Heap, s.heap = H := ⟨_, rfl⟩
  rw [hH] at hP ⊢
  have hS : va_S A s.heap H [] := by rw [← hH]; exact va_S.rf
  obtain ⟨locs, hlo⟩ : ∃ locs : List Loc, locs = [] := ⟨_, rfl⟩
  rw [← hlo] at hS ⊢
  unfold sp_vm_isFieldKind at hsp
  refine lv_iload_n hx hb dX13_isFieldKind_0 rfl (lv_at hl 2 rfl) ?_
  refine lv_if_le (tgt := 20) hx hb dX13_isFieldKind_1 (by decide) (fun c_1 => ?_) (fun c_1 => ?_)
  · rw [if_pos c_1] at hsp
    refine lv_iconst (v := 0) hx hb dX13_isFieldKind_20 (by decide) ?_
    have hr0 := Option.some.inj hsp
    clear hsp
    subst hr0
    have hP9 := hP.sub (ws' := [(qa1, .inl (ca1, na1, .inl fa1))]) [0] rfl
    have hD9 := hD.sub (ws' := [(qa1, .inl (ca1, na1, .inl fa1))]) [0] (by decide) rfl
    have hK9 := hK.sub (tys' := [(ca1, .int)]) [0] rfl
    exact W.zret hx hb hr (by decide) (fun t ht hW => ⟨⟨(0), (), rfl, ⟨rfl, Or.inl rfl⟩, by rw [ht]; exact hP9, va_K.moved hW.alike hK9, hD9⟩, hS.F ht⟩) hS.2.2 dX13_isFieldKind_21
  · rw [if_neg c_1] at hsp
    refine lv_aload_n hx hb dX13_isFieldKind_4 rfl (lv_at hl 0 rfl) ?_
    refine lv_iload_n hx hb dX13_isFieldKind_5 rfl (lv_at hl 1 rfl) ?_
    refine lv_iload_n hx hb dX13_isFieldKind_6 rfl (lv_at hl 1 rfl) ?_
    refine lv_iload_n hx hb dX13_isFieldKind_7 rfl (lv_at hl 2 rfl) ?_
    refine lv_iadd hx hb dX13_isFieldKind_8 ?_
    obtain ⟨u1_0, hu_1, hsp⟩ := ox_bind hsp
    try dsimp only at hsp
    have hPc := hP.sub (ws' := [(qa1, .inl (ca1, na1, .inl fa1))]) [0] rfl
    have hDc := hD.sub (ws' := [(qa1, .inl (ca1, na1, .inl fa1))]) [0] (by decide) rfl
    have hKc := hK.sub (tys' := [(ca1, .int)]) [0] rfl
    have hFc := va_free (wc := [(qa1, .inl (ca1, na1, .inl fa1))]) hD hS hA [0] rfl
    refine va_calli (va_runS (As := [.ref qa1, .int a2, .int (a2 + a3)]) (rest := []) ⟨hx, hb, hml, hown, hts⟩ (vm_kindBytes l dC dI H.size qa1 a2 ((a2 + a3)) ca1 na1 fa1 nf u1_0 hu_1) (va_cwS 3 hts gv_h9_41 rfl rfl rfl (by decide +kernel) ⟨Nat.le_of_ble_eq_true rfl, Nat.le_of_ble_eq_true rfl⟩) ⟨fun a U g mk q => by obtain ⟨q0, q1, qP, qK, qD⟩ := q; exact ⟨q0, q1, qP, va_K.moved (u := U) (U := U.calling g mk a) (Vm.Alike.refl U.vm) qK, qD⟩, fun U hU hW => ⟨rfl, by rw [hU], by rw [hU]; exact hPc, va_K.moved hW.alike hKc, hDc.weaken (fun _ _ _ _ => trivial)⟩⟩ rfl rfl hl.1 rfl (lv_room (Nat.le_of_ble_eq_true rfl)) dX13_isFieldKind_9 ⟨Nat.le_of_ble_eq_true rfl, Nat.le_of_ble_eq_true rfl⟩) hS (fun q _ h => hFc q h) hFc ?_
    clear hS
    intro r_2 u t H1 locs ht hvm hw hB hz1 hk1 hS
    obtain ⟨⟩ := u
    obtain ⟨hP1, hK1, hD1⟩ := hB
    rw [ht] at hP1
    have hK1 := va_K.moved hvm.symm hK1
    try dsimp only at hw
    have hPD := va_join (wr := []) (w1 := [(qa1, .inl (ca1, na1, .inl fa1))]) hP hD [0] [] rfl rfl (by decide) (by decide) hk1 hFc hP1 hD1
    clear hP hD
    obtain ⟨hP, hD⟩ := hPD
    replace hK := (hK.sub (tys' := []) [] rfl).app hK1
    clear hPc hDc hKc hFc hP1 hK1 hD1 hz1 hk1 ht hvm
    generalize H1 = H at hP hS ⊢
    replace hP : va_P (dC, dI) vwCl [(qa1, .inl (ca1, na1, .inl fa1))] H := hP
    replace hD : va_D A [(qa1, .inl (ca1, na1, .inl fa1))] := hD
    replace hK : va_K (dC, dI) vwCl [(ca1, .int)] s := hK
    obtain rfl := hw
    refine lv_iload_n hx hb dX13_isFieldKind_12 rfl (lv_at hl 2 rfl) ?_
    refine lv_icmp_ne (tgt := 20) hx hb dX13_isFieldKind_13 (by decide) (fun c_3 => ?_) (fun c_3 => ?_)
    · rw [if_neg c_3] at hsp
      refine lv_iconst (v := 0) hx hb dX13_isFieldKind_20 (by decide) ?_
      have hr0 := Option.some.inj hsp
      clear hsp
      subst hr0
      have hP9 := hP.sub (ws' := [(qa1, .inl (ca1, na1, .inl fa1))]) [0] rfl
      have hD9 := hD.sub (ws' := [(qa1, .inl (ca1, na1, .inl fa1))]) [0] (by decide) rfl
      have hK9 := hK.sub (tys' := [(ca1, .int)]) [0] rfl
      exact W.zret hx hb hr (by decide) (fun t ht hW => ⟨⟨(0), (), rfl, ⟨rfl, Or.inl rfl⟩, by rw [ht]; exact hP9, va_K.moved hW.alike hK9, hD9⟩, hS.F ht⟩) hS.2.2 dX13_isFieldKind_21
    · rw [if_pos c_3] at hsp
      refine lv_iconst (v := 1) hx hb dX13_isFieldKind_16 (by decide) ?_
      refine lv_goto (tgt := 21) hx hb dX13_isFieldKind_17 (by decide) ?_
      have hr0 := Option.some.inj hsp
      clear hsp
      subst hr0
      have hP9 := hP.sub (ws' := [(qa1, .inl (ca1, na1, .inl fa1))]) [0] rfl
      have hD9 := hD.sub (ws' := [(qa1, .inl (ca1, na1, .inl fa1))]) [0] (by decide) rfl
      have hK9 := hK.sub (tys' := [(ca1, .int)]) [0] rfl
      exact W.zret hx hb hr (by decide) (fun t ht hW => ⟨⟨(1), (), rfl, ⟨rfl, Or.inr rfl⟩, by rw [ht]; exact hP9, va_K.moved hW.alike hK9, hD9⟩, hS.F ht⟩) hS.2.2 dX13_isFieldKind_21
def jn_vm_parametersIn_112 (nf : Nat) (a2 : Int32) (a3 : Int32) (na1 : Nat) (fa1 : Nat → Int32)  (l5_112 : Int32) : Option (Int32) := (some l5_112)
def jn_vm_parametersIn_99 (nf : Nat) (a2 : Int32) (a3 : Int32) (na1 : Nat) (fa1 : Nat → Int32)  (l3_99 : Int32) (l4_99 : Int32) (l5_99 : Int32) : Option (Int32) := ((sp_vm_isFieldKind nf l4_99 (l3_99 - l4_99) na1 fa1).bind (fun p1 => (if p1 = 0 then (some (-1)) else (jn_vm_parametersIn_112 nf a2 a3 na1 fa1  l5_99))))
def jn_vm_parametersIn_71 (nf : Nat) (a2 : Int32) (a3 : Int32) (na1 : Nat) (fa1 : Nat → Int32)  (l3_71 : Int32) (l4_71 : Int32) (l5_71 : Int32) : Option (Int32) := (if l4_71 < l3_71 then (if ((l4_71 + 1) + 1) = l3_71 then (if (l4_71 + 1) < 0 then none else if na1 ≤ ((l4_71 + 1) : Int32).toNatClampNeg then none else (if (fa1 ((l4_71 + 1) : Int32).toNatClampNeg) = 86 then (jn_vm_parametersIn_112 nf a2 a3 na1 fa1  l5_71) else (jn_vm_parametersIn_99 nf a2 a3 na1 fa1  l3_71 (l4_71 + 1) l5_71))) else (jn_vm_parametersIn_99 nf a2 a3 na1 fa1  l3_71 (l4_71 + 1) l5_71)) else (some (-1)))
def lp_vm_parametersIn_27 (nf n : Nat) (a2 : Int32) (a3 : Int32) (na1 : Nat) (fa1 : Nat → Int32)  (l3_27 : Int32) (l4_27 : Int32) (l5_27 : Int32) : Option (Int32) := match n with
  | 0 => none
  | n + 1 => (if l3_27 ≤ l4_27 then (jn_vm_parametersIn_71 nf a2 a3 na1 fa1  l3_27 l4_27 l5_27) else (if l4_27 < 0 then none else if na1 ≤ (l4_27 : Int32).toNatClampNeg then none else (if (fa1 (l4_27 : Int32).toNatClampNeg) = 41 then (jn_vm_parametersIn_71 nf a2 a3 na1 fa1  l3_27 l4_27 l5_27) else ((sp_vm_kindBytes nf l4_27 l3_27 na1 fa1).bind (fun p1 => (if p1 = 0 then (some (-1)) else (lp_vm_parametersIn_27 nf n a2 a3 na1 fa1 l3_27 (l4_27 + p1) (l5_27 + 1))))))))
def sp_vm_parametersIn (nf : Nat) (a2 : Int32) (a3 : Int32) (na1 : Nat) (fa1 : Nat → Int32) : Option (Int32) := (if a3 < 3 then (some (-1)) else (if a2 < 0 then none else if na1 ≤ (a2 : Int32).toNatClampNeg then none else (if (fa1 (a2 : Int32).toNatClampNeg) = 40 then (lp_vm_parametersIn_27 nf nf a2 a3 na1 fa1  (a2 + a3) (a2 + 1) 0) else (some (-1)))))
set_option maxHeartbeats 4000000 in
set_option maxRecDepth 100000 in
/-- ClassMillModel.parametersIn -/
theorem vm_parametersIn (l : Launch) (dC : Nat → ClassId) (dI : Nat → Nat → Nat) (sz : Nat) (qa1 : Nat) (a2 : Int32) (a3 : Int32) (ca1 : ClassId) (na1 : Nat) (fa1 : (Nat → Int32)) (nf : Nat) (r0 : Int32) (hsp : sp_vm_parametersIn nf a2 a3 na1 fa1 = some r0) : Met l yX13_parametersIn (.code yX13_parametersIn cX13_parametersIn 7 (some .int) :: VS_h9) ({ frames := 5, cells := 0, slots := 0, locals := 111 }) (va_Pc [.ref qa1, .int a2, .int a3] (fun U => U.heap.size = sz ∧ va_P (dC, dI) vwCl [(qa1, .inl (ca1, na1, .inl fa1))] U.heap ∧ va_K (dC, dI) vwCl [(ca1, .int)] U ∧ va_D (fun _ => True) [(qa1, .inl (ca1, na1, .inl fa1))])) (va_Qi (fun (r : Int32) (u : Unit) => match u with | () => r0 = r) (fun (u : Unit) (t : State) => match u with | () => va_P (dC, dI) vwCl [(qa1, .inl (ca1, na1, .inl fa1))] t.heap ∧ va_K (dC, dI) vwCl [(ca1, .int)] t ∧ va_D (va_A [(qa1, .inl (ca1, na1, .inl fa1))] sz) [(qa1, .inl (ca1, na1, .inl fa1))]) (va_A [(qa1, .inl (ca1, na1, .inl fa1))] sz)) 0 0 (va_A [(qa1, .inl (ca1, na1, .inl fa1))] sz) := by
  refine Met.ofW (cc := cX13_parametersIn) (maxL := 7) (ret := (some .int)) (by decide) rfl ?_
  intro p e s m args below meth c s₁ B hml hv
  obtain ⟨rfl, hsz, hP, hK, hD0⟩ := hv
  have hx := B.exec
  have hb := B.bytes
  have hr := B.returns
  have hts := atoms_spec (ws := (.code yX13_parametersIn cX13_parametersIn 7 (some .int) :: VS_h9)) B.pre
  replace hts := fun w (h : w ∈ VS_h9) => hts w (List.mem_cons_of_mem _ h)
  have hown : s.vm.findClass RX13 = some m.cls := findClass_of_methodNamed B.named
  have hlocks := B.notSynchronized
  subst hsz
  have hD := hD0.self (sz := s.heap.size)
  generalize hAe : va_A [(qa1, .inl (ca1, na1, .inl fa1))] s.heap.size = A at hD  ⊢
  have hA : ∀ q : Nat, s.heap.size ≤ q → A q := fun q h => by rw [← hAe]; exact Or.inr h
  have hP : va_P (dC, dI) vwCl [(qa1, .inl (ca1, na1, .inl fa1))] s.heap := hP
  have hl := lv_entry ([.ref qa1, .int a2, .int a3]) (n := 7) (Nat.le_of_ble_eq_true rfl)
  rw [lg_entry_eq]
  generalize (lg_sl ([.ref qa1, .int a2, .int a3]) ++ List.replicate (7 - (lg_sl ([.ref qa1, .int a2, .int a3])).length) Slot.unset).toArray = ls at hl ⊢
  have hl : lv_has ls 7 [(0, .ref qa1), (1, .int a2), (2, .int a3)] := hl
  obtain ⟨H, hH⟩ : ∃ H : Heap, s.heap = H := ⟨_, rfl⟩
  rw [hH] at hP ⊢
  have hS : va_S A s.heap H [] := by rw [← hH]; exact va_S.rf
  obtain ⟨locs, hlo⟩ : ∃ locs : List Loc, locs = [] := ⟨_, rfl⟩
  rw [← hlo] at hS ⊢
  unfold sp_vm_parametersIn at hsp
  refine jn_use (α := Heap × List Loc × Array Slot × Int32) (fun x9 => x9.1) (fun x9 => x9.2.1) (fun x9 => F0 m 112 x9.2.2.1 []) (fun x9 => match x9 with | (H, locs, ls, l5_112) => lv_has ls 7 [(5, .int l5_112)] ∧ va_S A s.heap H locs ∧ va_D A [(qa1, .inl (ca1, na1, .inl fa1))] ∧ va_P (dC, dI) vwCl [(qa1, .inl (ca1, na1, .inl fa1))] H ∧ jn_vm_parametersIn_112 nf a2 a3 na1 fa1 l5_112 = some r0) ?_ ?_
  · intro x9 hJ9
    obtain ⟨H, locs, ls, l5_112⟩ := x9
    obtain ⟨hl, hS, hD, hP, hsp⟩ := hJ9
    replace hl : lv_has ls 7 [(5, .int l5_112)] := hl
    replace hS : va_S A s.heap H locs := hS
    replace hD : va_D A [(qa1, .inl (ca1, na1, .inl fa1))] := hD
    replace hP : va_P (dC, dI) vwCl [(qa1, .inl (ca1, na1, .inl fa1))] H := hP
    replace hsp : jn_vm_parametersIn_112 nf a2 a3 na1 fa1 l5_112 = some r0 := hsp
    show W _ _ _ _ _ _ _ _ _ _ H locs _ _ _ (F0 m 112 ls [])
    unfold jn_vm_parametersIn_112 at hsp
    try dsimp only at hsp
    refine lv_iconst (v := 1) hx hb dX13_parametersIn_112 (by decide) ?_
    refine lv_goto (tgt := 117) hx hb dX13_parametersIn_113 (by decide) ?_
    refine lv_istore (lv' := [(6, .int 1), (5, .int l5_112)]) hx hb dX13_parametersIn_117 hl (by decide) rfl (fun ls hl => ?_)
    refine lv_iload hx hb dX13_parametersIn_119 (lv_at hl 0 rfl) ?_
    refine lv_if_eq (tgt := 129) hx hb dX13_parametersIn_121 (by decide) (fun c_17 => (show False by revert c_17; decide).elim) (fun c_17 => ?_)
    refine lv_iload hx hb dX13_parametersIn_124 (lv_at hl 1 rfl) ?_
    refine lv_goto (tgt := 130) hx hb dX13_parametersIn_126 (by decide) ?_
    have hr0 := Option.some.inj hsp
    clear hsp
    subst hr0
    have hP9 := hP.sub (ws' := [(qa1, .inl (ca1, na1, .inl fa1))]) [0] rfl
    have hD9 := hD.sub (ws' := [(qa1, .inl (ca1, na1, .inl fa1))]) [0] (by decide) rfl
    have hK9 := hK.sub (tys' := [(ca1, .int)]) [0] rfl
    exact W.iret hx hb hr (fun t ht hW => ⟨⟨(l5_112), (), rfl, rfl, by rw [ht]; exact hP9, va_K.moved hW.alike hK9, hD9⟩, hS.F ht⟩) hS.2.2 dX13_parametersIn_130
  intro hj_112
  refine jn_use (α := Heap × List Loc × Array Slot × Int32 × Int32 × Int32) (fun x9 => x9.1) (fun x9 => x9.2.1) (fun x9 => F0 m 99 x9.2.2.1 []) (fun x9 => match x9 with | (H, locs, ls, l3_99, l4_99, l5_99) => lv_has ls 7 [(0, .ref qa1), (3, .int l3_99), (4, .int l4_99), (5, .int l5_99)] ∧ va_S A s.heap H locs ∧ va_D A [(qa1, .inl (ca1, na1, .inl fa1))] ∧ va_P (dC, dI) vwCl [(qa1, .inl (ca1, na1, .inl fa1))] H ∧ jn_vm_parametersIn_99 nf a2 a3 na1 fa1 l3_99 l4_99 l5_99 = some r0) ?_ ?_
  · intro x9 hJ9
    obtain ⟨H, locs, ls, l3_99, l4_99, l5_99⟩ := x9
    obtain ⟨hl, hS, hD, hP, hsp⟩ := hJ9
    replace hl : lv_has ls 7 [(0, .ref qa1), (3, .int l3_99), (4, .int l4_99), (5, .int l5_99)] := hl
    replace hS : va_S A s.heap H locs := hS
    replace hD : va_D A [(qa1, .inl (ca1, na1, .inl fa1))] := hD
    replace hP : va_P (dC, dI) vwCl [(qa1, .inl (ca1, na1, .inl fa1))] H := hP
    replace hsp : jn_vm_parametersIn_99 nf a2 a3 na1 fa1 l3_99 l4_99 l5_99 = some r0 := hsp
    show W _ _ _ _ _ _ _ _ _ _ H locs _ _ _ (F0 m 99 ls [])
    unfold jn_vm_parametersIn_99 at hsp
    try dsimp only at hsp
    refine lv_aload_n hx hb dX13_parametersIn_99 rfl (lv_at hl 0 rfl) ?_
    refine lv_iload hx hb dX13_parametersIn_100 (lv_at hl 2 rfl) ?_
    refine lv_iload_n hx hb dX13_parametersIn_102 rfl (lv_at hl 1 rfl) ?_
    refine lv_iload hx hb dX13_parametersIn_103 (lv_at hl 2 rfl) ?_
    refine lv_isub hx hb dX13_parametersIn_105 ?_
    obtain ⟨u2_0, hu_2, hsp⟩ := ox_bind hsp
    try dsimp only at hsp
    have hPc := hP.sub (ws' := [(qa1, .inl (ca1, na1, .inl fa1))]) [0] rfl
    have hDc := hD.sub (ws' := [(qa1, .inl (ca1, na1, .inl fa1))]) [0] (by decide) rfl
    have hKc := hK.sub (tys' := [(ca1, .int)]) [0] rfl
    have hFc := va_free (wc := [(qa1, .inl (ca1, na1, .inl fa1))]) hD hS hA [0] rfl
    refine va_calli (va_runS (As := [.ref qa1, .int l4_99, .int (l3_99 - l4_99)]) (rest := []) ⟨hx, hb, hml, hown, hts⟩ (vm_isFieldKind l dC dI H.size qa1 l4_99 ((l3_99 - l4_99)) ca1 na1 fa1 nf u2_0 hu_2) (va_cwS 3 hts gv_h9_42 rfl rfl rfl (by decide +kernel) ⟨Nat.le_of_ble_eq_true rfl, Nat.le_of_ble_eq_true rfl⟩) ⟨fun a U g mk q => by obtain ⟨q0, q1, qP, qK, qD⟩ := q; exact ⟨q0, q1, qP, va_K.moved (u := U) (U := U.calling g mk a) (Vm.Alike.refl U.vm) qK, qD⟩, fun U hU hW => ⟨rfl, by rw [hU], by rw [hU]; exact hPc, va_K.moved hW.alike hKc, hDc.weaken (fun _ _ _ _ => trivial)⟩⟩ rfl rfl hl.1 rfl (lv_room (Nat.le_of_ble_eq_true rfl)) dX13_parametersIn_106 ⟨Nat.le_of_ble_eq_true rfl, Nat.le_of_ble_eq_true rfl⟩) hS (fun q _ h => hFc q h) hFc ?_
    clear hS
    intro r_13 u t H1 locs ht hvm hw hB hz1 hk1 hS
    obtain ⟨⟩ := u
    obtain ⟨hP1, hK1, hD1⟩ := hB
    rw [ht] at hP1
    have hK1 := va_K.moved hvm.symm hK1
    try dsimp only at hw
    have hPD := va_join (wr := []) (w1 := [(qa1, .inl (ca1, na1, .inl fa1))]) hP hD [0] [] rfl rfl (by decide) (by decide) hk1 hFc hP1 hD1
    clear hP hD
    obtain ⟨hP, hD⟩ := hPD
    replace hK := (hK.sub (tys' := []) [] rfl).app hK1
    clear hPc hDc hKc hFc hP1 hK1 hD1 hz1 hk1 ht hvm
    generalize H1 = H at hP hS ⊢
    replace hP : va_P (dC, dI) vwCl [(qa1, .inl (ca1, na1, .inl fa1))] H := hP
    replace hD : va_D A [(qa1, .inl (ca1, na1, .inl fa1))] := hD
    replace hK : va_K (dC, dI) vwCl [(ca1, .int)] s := hK
    obtain ⟨rfl, hz_2⟩ := hw
    rcases hz_2 with rfl | rfl
    · rw [if_pos rfl] at hsp
      refine lv_if_eq (tgt := 116) hx hb dX13_parametersIn_109 (by decide) (fun c_14 => ?_) (fun c_14 => (show False by revert c_14; decide).elim)
      refine lv_iconst (v := 0) hx hb dX13_parametersIn_116 (by decide) ?_
      refine lv_istore (lv' := [(6, .int 0), (0, .ref qa1), (3, .int l3_99), (4, .int l4_99), (5, .int l5_99)]) hx hb dX13_parametersIn_117 hl (by decide) rfl (fun ls hl => ?_)
      refine lv_iload hx hb dX13_parametersIn_119 (lv_at hl 0 rfl) ?_
      refine lv_if_eq (tgt := 129) hx hb dX13_parametersIn_121 (by decide) (fun c_15 => ?_) (fun c_15 => (show False by revert c_15; decide).elim)
      refine lv_iconst (v := (-1)) hx hb dX13_parametersIn_129 (by decide) ?_
      have hr0 := Option.some.inj hsp
      clear hsp
      subst hr0
      have hP9 := hP.sub (ws' := [(qa1, .inl (ca1, na1, .inl fa1))]) [0] rfl
      have hD9 := hD.sub (ws' := [(qa1, .inl (ca1, na1, .inl fa1))]) [0] (by decide) rfl
      have hK9 := hK.sub (tys' := [(ca1, .int)]) [0] rfl
      exact W.iret hx hb hr (fun t ht hW => ⟨⟨((-1)), (), rfl, rfl, by rw [ht]; exact hP9, va_K.moved hW.alike hK9, hD9⟩, hS.F ht⟩) hS.2.2 dX13_parametersIn_130
    · rw [if_neg (by decide)] at hsp
      refine lv_if_eq (tgt := 116) hx hb dX13_parametersIn_109 (by decide) (fun c_16 => (show False by revert c_16; decide).elim) (fun c_16 => ?_)
      exact hj_112 (H, locs, ls, l5_99) ⟨lv_sub hl [3] rfl, hS, hD.sub (ws' := [(qa1, .inl (ca1, na1, .inl fa1))]) [0] (by decide) rfl, hP.sub (ws' := [(qa1, .inl (ca1, na1, .inl fa1))]) [0] rfl, hsp⟩
  intro hj_99
  refine jn_use (α := Heap × List Loc × Array Slot × Int32 × Int32 × Int32) (fun x9 => x9.1) (fun x9 => x9.2.1) (fun x9 => F0 m 71 x9.2.2.1 []) (fun x9 => match x9 with | (H, locs, ls, l3_71, l4_71, l5_71) => lv_has ls 7 [(0, .ref qa1), (3, .int l3_71), (4, .int l4_71), (5, .int l5_71)] ∧ va_S A s.heap H locs ∧ va_D A [(qa1, .inl (ca1, na1, .inl fa1))] ∧ va_P (dC, dI) vwCl [(qa1, .inl (ca1, na1, .inl fa1))] H ∧ jn_vm_parametersIn_71 nf a2 a3 na1 fa1 l3_71 l4_71 l5_71 = some r0) ?_ ?_
  · intro x9 hJ9
    obtain ⟨H, locs, ls, l3_71, l4_71, l5_71⟩ := x9
    obtain ⟨hl, hS, hD, hP, hsp⟩ := hJ9
    replace hl : lv_has ls 7 [(0, .ref qa1), (3, .int l3_71), (4, .int l4_71), (5, .int l5_71)] := hl
    replace hS : va_S A s.heap H locs := hS
    replace hD : va_D A [(qa1, .inl (ca1, na1, .inl fa1))] := hD
    replace hP : va_P (dC, dI) vwCl [(qa1, .inl (ca1, na1, .inl fa1))] H := hP
    replace hsp : jn_vm_parametersIn_71 nf a2 a3 na1 fa1 l3_71 l4_71 l5_71 = some r0 := hsp
    show W _ _ _ _ _ _ _ _ _ _ H locs _ _ _ (F0 m 71 ls [])
    unfold jn_vm_parametersIn_71 at hsp
    try dsimp only at hsp
    refine lv_iload hx hb dX13_parametersIn_71 (lv_at hl 2 rfl) ?_
    refine lv_iload_n hx hb dX13_parametersIn_73 rfl (lv_at hl 1 rfl) ?_
    refine lv_icmp_lt (tgt := 79) hx hb dX13_parametersIn_74 (by decide) (fun c_9 => ?_) (fun c_9 => ?_)
    · rw [if_pos c_9] at hsp
      refine lv_iinc (v := (l4_71 + 1)) (lv' := [(4, .int (l4_71 + 1)), (0, .ref qa1), (3, .int l3_71), (5, .int l5_71)]) hx hb dX13_parametersIn_79 hl (k := 2) rfl rfl (by decide) rfl (fun ls hl => ?_)
      refine lv_iload hx hb dX13_parametersIn_82 (lv_at hl 0 rfl) ?_
      refine lv_iconst (v := 1) hx hb dX13_parametersIn_84 (by decide) ?_
      refine lv_iadd hx hb dX13_parametersIn_85 ?_
      refine lv_iload_n hx hb dX13_parametersIn_86 rfl (lv_at hl 2 rfl) ?_
      refine lv_icmp_ne (tgt := 99) hx hb dX13_parametersIn_87 (by decide) (fun c_10 => ?_) (fun c_10 => ?_)
      · rw [if_neg c_10] at hsp
        exact hj_99 (H, locs, ls, l3_71, (l4_71 + 1), l5_71) ⟨lv_sub hl [1, 2, 0, 3] rfl, hS, hD.sub (ws' := [(qa1, .inl (ca1, na1, .inl fa1))]) [0] (by decide) rfl, hP.sub (ws' := [(qa1, .inl (ca1, na1, .inl fa1))]) [0] rfl, hsp⟩
      · rw [if_pos c_10] at hsp
        refine lv_aload_n hx hb dX13_parametersIn_90 rfl (lv_at hl 1 rfl) ?_
        refine lv_iload hx hb dX13_parametersIn_91 (lv_at hl 0 rfl) ?_
        obtain ⟨hi_11, hsp⟩ := ox_in hsp
        refine va_iald hx hb hK hP 0 0 rfl rfl (i := (l4_71 + 1)) hi_11 dX13_parametersIn_93 ?_
        refine lv_bipush (v := 86) hx hb dX13_parametersIn_94 (by decide) ?_
        refine lv_icmp_eq (tgt := 112) hx hb dX13_parametersIn_96 (by decide) (fun c_12 => ?_) (fun c_12 => ?_)
        · rw [if_pos c_12] at hsp
          exact hj_112 (H, locs, ls, l5_71) ⟨lv_sub hl [3] rfl, hS, hD.sub (ws' := [(qa1, .inl (ca1, na1, .inl fa1))]) [0] (by decide) rfl, hP.sub (ws' := [(qa1, .inl (ca1, na1, .inl fa1))]) [0] rfl, hsp⟩
        · rw [if_neg c_12] at hsp
          exact hj_99 (H, locs, ls, l3_71, (l4_71 + 1), l5_71) ⟨lv_sub hl [1, 2, 0, 3] rfl, hS, hD.sub (ws' := [(qa1, .inl (ca1, na1, .inl fa1))]) [0] (by decide) rfl, hP.sub (ws' := [(qa1, .inl (ca1, na1, .inl fa1))]) [0] rfl, hsp⟩
    · rw [if_neg c_9] at hsp
      refine lv_iconst (v := (-1)) hx hb dX13_parametersIn_77 (by decide) ?_
      have hr0 := Option.some.inj hsp
      clear hsp
      subst hr0
      have hP9 := hP.sub (ws' := [(qa1, .inl (ca1, na1, .inl fa1))]) [0] rfl
      have hD9 := hD.sub (ws' := [(qa1, .inl (ca1, na1, .inl fa1))]) [0] (by decide) rfl
      have hK9 := hK.sub (tys' := [(ca1, .int)]) [0] rfl
      exact W.iret hx hb hr (fun t ht hW => ⟨⟨((-1)), (), rfl, rfl, by rw [ht]; exact hP9, va_K.moved hW.alike hK9, hD9⟩, hS.F ht⟩) hS.2.2 dX13_parametersIn_78
  intro hj_71
  refine lv_iload_n hx hb dX13_parametersIn_0 rfl (lv_at hl 1 rfl) ?_
  refine lv_iload_n hx hb dX13_parametersIn_1 rfl (lv_at hl 2 rfl) ?_
  refine lv_iadd hx hb dX13_parametersIn_2 ?_
  refine lv_istore_n (lv' := [(3, .int (a2 + a3)), (0, .ref qa1), (1, .int a2), (2, .int a3)]) hx hb dX13_parametersIn_3 rfl hl (by decide) rfl (fun ls hl => ?_)
  refine lv_iload_n hx hb dX13_parametersIn_4 rfl (lv_at hl 3 rfl) ?_
  refine lv_iconst (v := 3) hx hb dX13_parametersIn_5 (by decide) ?_
  refine lv_icmp_lt (tgt := 17) hx hb dX13_parametersIn_6 (by decide) (fun c_1 => ?_) (fun c_1 => ?_)
  · rw [if_pos c_1] at hsp
    refine lv_iconst (v := (-1)) hx hb dX13_parametersIn_17 (by decide) ?_
    have hr0 := Option.some.inj hsp
    clear hsp
    subst hr0
    have hP9 := hP.sub (ws' := [(qa1, .inl (ca1, na1, .inl fa1))]) [0] rfl
    have hD9 := hD.sub (ws' := [(qa1, .inl (ca1, na1, .inl fa1))]) [0] (by decide) rfl
    have hK9 := hK.sub (tys' := [(ca1, .int)]) [0] rfl
    exact W.iret hx hb hr (fun t ht hW => ⟨⟨((-1)), (), rfl, rfl, by rw [ht]; exact hP9, va_K.moved hW.alike hK9, hD9⟩, hS.F ht⟩) hS.2.2 dX13_parametersIn_18
  · rw [if_neg c_1] at hsp
    refine lv_aload_n hx hb dX13_parametersIn_9 rfl (lv_at hl 1 rfl) ?_
    refine lv_iload_n hx hb dX13_parametersIn_10 rfl (lv_at hl 2 rfl) ?_
    obtain ⟨hi_2, hsp⟩ := ox_in hsp
    refine va_iald hx hb hK hP 0 0 rfl rfl (i := a2) hi_2 dX13_parametersIn_11 ?_
    refine lv_bipush (v := 40) hx hb dX13_parametersIn_12 (by decide) ?_
    refine lv_icmp_eq (tgt := 19) hx hb dX13_parametersIn_14 (by decide) (fun c_3 => ?_) (fun c_3 => ?_)
    · rw [if_pos c_3] at hsp
      refine lv_iload_n hx hb dX13_parametersIn_19 rfl (lv_at hl 2 rfl) ?_
      refine lv_iconst (v := 1) hx hb dX13_parametersIn_20 (by decide) ?_
      refine lv_iadd hx hb dX13_parametersIn_21 ?_
      refine lv_istore (lv' := [(4, .int (a2 + 1)), (3, .int (a2 + a3)), (0, .ref qa1), (1, .int a2), (2, .int a3)]) hx hb dX13_parametersIn_22 hl (by decide) rfl (fun ls hl => ?_)
      refine lv_iconst (v := 0) hx hb dX13_parametersIn_24 (by decide) ?_
      refine lv_istore (lv' := [(5, .int 0), (4, .int (a2 + 1)), (3, .int (a2 + a3)), (0, .ref qa1), (1, .int a2), (2, .int a3)]) hx hb dX13_parametersIn_25 hl (by decide) rfl (fun ls hl => ?_)
      replace hl : lv_has ls 7 [(5, .int 0), (4, .int (a2 + 1)), (3, .int (a2 + a3)), (0, .ref qa1)] := lv_sub hl [0, 1, 2, 3] rfl
      replace hP := hP.sub (ws' := [(qa1, .inl (ca1, na1, .inl fa1))]) [0] rfl
      replace hD := hD.sub (ws' := [(qa1, .inl (ca1, na1, .inl fa1))]) [0] (by decide) rfl
      replace hK := hK.sub (tys' := [(ca1, .int)]) [0] rfl
      obtain ⟨n_27, hn_27⟩ : ∃ z : Nat, z = nf := ⟨_, rfl⟩
      obtain ⟨l3_27, el3_27⟩ : ∃ z : Int32, z = (a2 + a3) := ⟨_, rfl⟩
      obtain ⟨l4_27, el4_27⟩ : ∃ z : Int32, z = (a2 + 1) := ⟨_, rfl⟩
      obtain ⟨l5_27, el5_27⟩ : ∃ z : Int32, z = 0 := ⟨_, rfl⟩
      replace hsp : lp_vm_parametersIn_27 nf n_27 a2 a3 na1 fa1 l3_27 l4_27 l5_27 = some r0 := by rw [hn_27, el3_27, el4_27, el5_27]; exact hsp
      replace hl : lv_has ls 7 [(5, .int l5_27), (4, .int l4_27), (3, .int l3_27), (0, .ref qa1)] := by rw [el3_27, el4_27, el5_27]; exact hl
      clear hn_27 el3_27 el4_27 el5_27
      try clear hlo
      try clear hH
      revert hsp
      revert hP
      revert hD
      revert hS
      revert hl
      revert l5_27
      revert l4_27
      revert l3_27
      revert ls
      revert locs
      revert H
      induction n_27 with
      | zero => intro H locs ls l3_27 l4_27 l5_27  hl hS hD hP hsp; unfold lp_vm_parametersIn_27 at hsp; cases hsp
      | succ n_27 ih_27 =>
        intro H locs ls l3_27 l4_27 l5_27  hl hS hD hP hsp
        unfold lp_vm_parametersIn_27 at hsp
        try dsimp only at hsp
        refine lv_iload hx hb dX13_parametersIn_27 (lv_at hl 1 rfl) ?_
        refine lv_iload_n hx hb dX13_parametersIn_29 rfl (lv_at hl 2 rfl) ?_
        refine lv_icmp_ge (tgt := 71) hx hb dX13_parametersIn_30 (by decide) (fun c_4 => ?_) (fun c_4 => ?_)
        · rw [if_pos c_4] at hsp
          exact hj_71 (H, locs, ls, l3_27, l4_27, l5_27) ⟨lv_sub hl [3, 2, 1, 0] rfl, hS, hD.sub (ws' := [(qa1, .inl (ca1, na1, .inl fa1))]) [0] (by decide) rfl, hP.sub (ws' := [(qa1, .inl (ca1, na1, .inl fa1))]) [0] rfl, hsp⟩
        · rw [if_neg c_4] at hsp
          refine lv_aload_n hx hb dX13_parametersIn_33 rfl (lv_at hl 3 rfl) ?_
          refine lv_iload hx hb dX13_parametersIn_34 (lv_at hl 1 rfl) ?_
          obtain ⟨hi_5, hsp⟩ := ox_in hsp
          refine va_iald hx hb hK hP 0 0 rfl rfl (i := l4_27) hi_5 dX13_parametersIn_36 ?_
          refine lv_bipush (v := 41) hx hb dX13_parametersIn_37 (by decide) ?_
          refine lv_icmp_eq (tgt := 71) hx hb dX13_parametersIn_39 (by decide) (fun c_6 => ?_) (fun c_6 => ?_)
          · rw [if_pos c_6] at hsp
            exact hj_71 (H, locs, ls, l3_27, l4_27, l5_27) ⟨lv_sub hl [3, 2, 1, 0] rfl, hS, hD.sub (ws' := [(qa1, .inl (ca1, na1, .inl fa1))]) [0] (by decide) rfl, hP.sub (ws' := [(qa1, .inl (ca1, na1, .inl fa1))]) [0] rfl, hsp⟩
          · rw [if_neg c_6] at hsp
            refine lv_aload_n hx hb dX13_parametersIn_42 rfl (lv_at hl 3 rfl) ?_
            refine lv_iload hx hb dX13_parametersIn_43 (lv_at hl 1 rfl) ?_
            refine lv_iload_n hx hb dX13_parametersIn_45 rfl (lv_at hl 2 rfl) ?_
            obtain ⟨u1_0, hu_1, hsp⟩ := ox_bind hsp
            try dsimp only at hsp
            have hPc := hP.sub (ws' := [(qa1, .inl (ca1, na1, .inl fa1))]) [0] rfl
            have hDc := hD.sub (ws' := [(qa1, .inl (ca1, na1, .inl fa1))]) [0] (by decide) rfl
            have hKc := hK.sub (tys' := [(ca1, .int)]) [0] rfl
            have hFc := va_free (wc := [(qa1, .inl (ca1, na1, .inl fa1))]) hD hS hA [0] rfl
            refine va_calli (va_runS (As := [.ref qa1, .int l4_27, .int l3_27]) (rest := []) ⟨hx, hb, hml, hown, hts⟩ (vm_kindBytes l dC dI H.size qa1 l4_27 l3_27 ca1 na1 fa1 nf u1_0 hu_1) (va_cwS 3 hts gv_h9_41 rfl rfl rfl (by decide +kernel) ⟨Nat.le_of_ble_eq_true rfl, Nat.le_of_ble_eq_true rfl⟩) ⟨fun a U g mk q => by obtain ⟨q0, q1, qP, qK, qD⟩ := q; exact ⟨q0, q1, qP, va_K.moved (u := U) (U := U.calling g mk a) (Vm.Alike.refl U.vm) qK, qD⟩, fun U hU hW => ⟨rfl, by rw [hU], by rw [hU]; exact hPc, va_K.moved hW.alike hKc, hDc.weaken (fun _ _ _ _ => trivial)⟩⟩ rfl rfl hl.1 rfl (lv_room (Nat.le_of_ble_eq_true rfl)) dX13_parametersIn_46 ⟨Nat.le_of_ble_eq_true rfl, Nat.le_of_ble_eq_true rfl⟩) hS (fun q _ h => hFc q h) hFc ?_
            clear hS
            intro r_7 u t H1 locs ht hvm hw hB hz1 hk1 hS
            obtain ⟨⟩ := u
            obtain ⟨hP1, hK1, hD1⟩ := hB
            rw [ht] at hP1
            have hK1 := va_K.moved hvm.symm hK1
            try dsimp only at hw
            have hPD := va_join (wr := []) (w1 := [(qa1, .inl (ca1, na1, .inl fa1))]) hP hD [0] [] rfl rfl (by decide) (by decide) hk1 hFc hP1 hD1
            clear hP hD
            obtain ⟨hP, hD⟩ := hPD
            replace hK := (hK.sub (tys' := []) [] rfl).app hK1
            clear hPc hDc hKc hFc hP1 hK1 hD1 hz1 hk1 ht hvm
            generalize H1 = H at hP hS ⊢
            replace hP : va_P (dC, dI) vwCl [(qa1, .inl (ca1, na1, .inl fa1))] H := hP
            replace hD : va_D A [(qa1, .inl (ca1, na1, .inl fa1))] := hD
            replace hK : va_K (dC, dI) vwCl [(ca1, .int)] s := hK
            obtain rfl := hw
            refine lv_istore (lv' := [(6, .int u1_0), (5, .int l5_27), (4, .int l4_27), (3, .int l3_27), (0, .ref qa1)]) hx hb dX13_parametersIn_49 hl (by decide) rfl (fun ls hl => ?_)
            refine lv_iload hx hb dX13_parametersIn_51 (lv_at hl 0 rfl) ?_
            refine lv_if_ne (tgt := 58) hx hb dX13_parametersIn_53 (by decide) (fun c_8 => ?_) (fun c_8 => ?_)
            · rw [if_neg c_8] at hsp
              refine lv_iload hx hb dX13_parametersIn_58 (lv_at hl 2 rfl) ?_
              refine lv_iload hx hb dX13_parametersIn_60 (lv_at hl 0 rfl) ?_
              refine lv_iadd hx hb dX13_parametersIn_62 ?_
              refine lv_istore (lv' := [(4, .int (l4_27 + u1_0)), (6, .int u1_0), (5, .int l5_27), (3, .int l3_27), (0, .ref qa1)]) hx hb dX13_parametersIn_63 hl (by decide) rfl (fun ls hl => ?_)
              refine lv_iinc (v := (l5_27 + 1)) (lv' := [(5, .int (l5_27 + 1)), (4, .int (l4_27 + u1_0)), (6, .int u1_0), (3, .int l3_27), (0, .ref qa1)]) hx hb dX13_parametersIn_65 hl (k := 2) rfl rfl (by decide) rfl (fun ls hl => ?_)
              refine lv_goto (tgt := 27) hx hb dX13_parametersIn_68 (by decide) ?_
              exact ih_27 H locs ls l3_27 (l4_27 + u1_0) (l5_27 + 1) (lv_sub hl [0, 1, 3, 4] rfl) hS (hD.sub (ws' := [(qa1, .inl (ca1, na1, .inl fa1))]) [0] (by decide) rfl) (hP.sub (ws' := [(qa1, .inl (ca1, na1, .inl fa1))]) [0] rfl) hsp
            · rw [if_pos c_8] at hsp
              refine lv_iconst (v := (-1)) hx hb dX13_parametersIn_56 (by decide) ?_
              have hr0 := Option.some.inj hsp
              clear hsp
              subst hr0
              have hP9 := hP.sub (ws' := [(qa1, .inl (ca1, na1, .inl fa1))]) [0] rfl
              have hD9 := hD.sub (ws' := [(qa1, .inl (ca1, na1, .inl fa1))]) [0] (by decide) rfl
              have hK9 := hK.sub (tys' := [(ca1, .int)]) [0] rfl
              exact W.iret hx hb hr (fun t ht hW => ⟨⟨((-1)), (), rfl, rfl, by rw [ht]; exact hP9, va_K.moved hW.alike hK9, hD9⟩, hS.F ht⟩) hS.2.2 dX13_parametersIn_57
    · rw [if_neg c_3] at hsp
      refine lv_iconst (v := (-1)) hx hb dX13_parametersIn_17 (by decide) ?_
      have hr0 := Option.some.inj hsp
      clear hsp
      subst hr0
      have hP9 := hP.sub (ws' := [(qa1, .inl (ca1, na1, .inl fa1))]) [0] rfl
      have hD9 := hD.sub (ws' := [(qa1, .inl (ca1, na1, .inl fa1))]) [0] (by decide) rfl
      have hK9 := hK.sub (tys' := [(ca1, .int)]) [0] rfl
      exact W.iret hx hb hr (fun t ht hW => ⟨⟨((-1)), (), rfl, rfl, by rw [ht]; exact hP9, va_K.moved hW.alike hK9, hD9⟩, hS.F ht⟩) hS.2.2 dX13_parametersIn_18
def sp_vm_isMethodKind (nf : Nat) (a2 : Int32) (a3 : Int32) (na1 : Nat) (fa1 : Nat → Int32) : Option (Int32) := ((sp_vm_parametersIn nf a2 a3 na1 fa1).bind (fun p1 => (if p1 < 0 then (some 0) else (if 6 < p1 then (some 0) else (some 1)))))
set_option maxHeartbeats 4000000 in
set_option maxRecDepth 100000 in
/-- ClassMillModel.isMethodKind -/
theorem vm_isMethodKind (l : Launch) (dC : Nat → ClassId) (dI : Nat → Nat → Nat) (sz : Nat) (qa1 : Nat) (a2 : Int32) (a3 : Int32) (ca1 : ClassId) (na1 : Nat) (fa1 : (Nat → Int32)) (nf : Nat) (r0 : Int32) (hsp : sp_vm_isMethodKind nf a2 a3 na1 fa1 = some r0) : Met l yX13_isMethodKind (.code yX13_isMethodKind cX13_isMethodKind 4 (some .boolean) :: VS_h9) ({ frames := 6, cells := 0, slots := 0, locals := 137 }) (va_Pc [.ref qa1, .int a2, .int a3] (fun U => U.heap.size = sz ∧ va_P (dC, dI) vwCl [(qa1, .inl (ca1, na1, .inl fa1))] U.heap ∧ va_K (dC, dI) vwCl [(ca1, .int)] U ∧ va_D (fun _ => True) [(qa1, .inl (ca1, na1, .inl fa1))])) (va_Qi (fun (r : Int32) (u : Unit) => match u with | () => r0 = r ∧ (r0 = 0 ∨ r0 = 1)) (fun (u : Unit) (t : State) => match u with | () => va_P (dC, dI) vwCl [(qa1, .inl (ca1, na1, .inl fa1))] t.heap ∧ va_K (dC, dI) vwCl [(ca1, .int)] t ∧ va_D (va_A [(qa1, .inl (ca1, na1, .inl fa1))] sz) [(qa1, .inl (ca1, na1, .inl fa1))]) (va_A [(qa1, .inl (ca1, na1, .inl fa1))] sz)) 0 0 (va_A [(qa1, .inl (ca1, na1, .inl fa1))] sz) := by
  refine Met.ofW (cc := cX13_isMethodKind) (maxL := 4) (ret := (some .boolean)) (by decide) rfl ?_
  intro p e s m args below meth c s₁ B hml hv
  obtain ⟨rfl, hsz, hP, hK, hD0⟩ := hv
  have hx := B.exec
  have hb := B.bytes
  have hr := B.returns
  have hts := atoms_spec (ws := (.code yX13_isMethodKind cX13_isMethodKind 4 (some .boolean) :: VS_h9)) B.pre
  replace hts := fun w (h : w ∈ VS_h9) => hts w (List.mem_cons_of_mem _ h)
  have hown : s.vm.findClass RX13 = some m.cls := findClass_of_methodNamed B.named
  have hlocks := B.notSynchronized
  subst hsz
  have hD := hD0.self (sz := s.heap.size)
  generalize hAe : va_A [(qa1, .inl (ca1, na1, .inl fa1))] s.heap.size = A at hD  ⊢
  have hA : ∀ q : Nat, s.heap.size ≤ q → A q := fun q h => by rw [← hAe]; exact Or.inr h
  have hP : va_P (dC, dI) vwCl [(qa1, .inl (ca1, na1, .inl fa1))] s.heap := hP
  have hl := lv_entry ([.ref qa1, .int a2, .int a3]) (n := 4) (Nat.le_of_ble_eq_true rfl)
  rw [lg_entry_eq]
  generalize (lg_sl ([.ref qa1, .int a2, .int a3]) ++ List.replicate (4 - (lg_sl ([.ref qa1, .int a2, .int a3])).length) Slot.unset).toArray = ls at hl ⊢
  have hl : lv_has ls 4 [(0, .ref qa1), (1, .int a2), (2, .int a3)] := hl
  obtain ⟨H, hH⟩ : ∃ H : Heap, s.heap = H := ⟨_, rfl⟩
  rw [hH] at hP ⊢
  have hS : va_S A s.heap H [] := by rw [← hH]; exact va_S.rf
  obtain ⟨locs, hlo⟩ : ∃ locs : List Loc, locs = [] := ⟨_, rfl⟩
  rw [← hlo] at hS ⊢
  unfold sp_vm_isMethodKind at hsp
  refine lv_aload_n hx hb dX13_isMethodKind_0 rfl (lv_at hl 0 rfl) ?_
  refine lv_iload_n hx hb dX13_isMethodKind_1 rfl (lv_at hl 1 rfl) ?_
  refine lv_iload_n hx hb dX13_isMethodKind_2 rfl (lv_at hl 2 rfl) ?_
  obtain ⟨u1_0, hu_1, hsp⟩ := ox_bind hsp
  try dsimp only at hsp
  have hPc := hP.sub (ws' := [(qa1, .inl (ca1, na1, .inl fa1))]) [0] rfl
  have hDc := hD.sub (ws' := [(qa1, .inl (ca1, na1, .inl fa1))]) [0] (by decide) rfl
  have hKc := hK.sub (tys' := [(ca1, .int)]) [0] rfl
  have hFc := va_free (wc := [(qa1, .inl (ca1, na1, .inl fa1))]) hD hS hA [0] rfl
  refine va_calli (va_runS (As := [.ref qa1, .int a2, .int a3]) (rest := []) ⟨hx, hb, hml, hown, hts⟩ (vm_parametersIn l dC dI H.size qa1 a2 a3 ca1 na1 fa1 nf u1_0 hu_1) (va_cwS 3 hts gv_h9_43 rfl rfl rfl (by decide +kernel) ⟨Nat.le_of_ble_eq_true rfl, Nat.le_of_ble_eq_true rfl⟩) ⟨fun a U g mk q => by obtain ⟨q0, q1, qP, qK, qD⟩ := q; exact ⟨q0, q1, qP, va_K.moved (u := U) (U := U.calling g mk a) (Vm.Alike.refl U.vm) qK, qD⟩, fun U hU hW => ⟨rfl, by rw [hU], by rw [hU]; exact hPc, va_K.moved hW.alike hKc, hDc.weaken (fun _ _ _ _ => trivial)⟩⟩ rfl rfl hl.1 rfl (lv_room (Nat.le_of_ble_eq_true rfl)) dX13_isMethodKind_3 ⟨Nat.le_of_ble_eq_true rfl, Nat.le_of_ble_eq_true rfl⟩) hS (fun q _ h => hFc q h) hFc ?_
  clear hS
  intro r_1 u t H1 locs ht hvm hw hB hz1 hk1 hS
  obtain ⟨⟩ := u
  obtain ⟨hP1, hK1, hD1⟩ := hB
  rw [ht] at hP1
  have hK1 := va_K.moved hvm.symm hK1
  try dsimp only at hw
  have hPD := va_join (wr := []) (w1 := [(qa1, .inl (ca1, na1, .inl fa1))]) hP hD [0] [] rfl rfl (by decide) (by decide) hk1 hFc hP1 hD1
  clear hP hD
  obtain ⟨hP, hD⟩ := hPD
  replace hK := (hK.sub (tys' := []) [] rfl).app hK1
  clear hPc hDc hKc hFc hP1 hK1 hD1 hz1 hk1 ht hvm
  generalize H1 = H at hP hS ⊢
  replace hP : va_P (dC, dI) vwCl [(qa1, .inl (ca1, na1, .inl fa1))] H := hP
  replace hD : va_D A [(qa1, .inl (ca1, na1, .inl fa1))] := hD
  replace hK : va_K (dC, dI) vwCl [(ca1, .int)] s := hK
  obtain rfl := hw
  refine lv_istore_n (lv' := [(3, .int u1_0), (0, .ref qa1), (1, .int a2), (2, .int a3)]) hx hb dX13_isMethodKind_6 rfl hl (by decide) rfl (fun ls hl => ?_)
  refine lv_iload_n hx hb dX13_isMethodKind_7 rfl (lv_at hl 0 rfl) ?_
  refine lv_if_lt (tgt := 21) hx hb dX13_isMethodKind_8 (by decide) (fun c_2 => ?_) (fun c_2 => ?_)
  · rw [if_pos c_2] at hsp
    refine lv_iconst (v := 0) hx hb dX13_isMethodKind_21 (by decide) ?_
    have hr0 := Option.some.inj hsp
    clear hsp
    subst hr0
    have hP9 := hP.sub (ws' := [(qa1, .inl (ca1, na1, .inl fa1))]) [0] rfl
    have hD9 := hD.sub (ws' := [(qa1, .inl (ca1, na1, .inl fa1))]) [0] (by decide) rfl
    have hK9 := hK.sub (tys' := [(ca1, .int)]) [0] rfl
    exact W.zret hx hb hr (by decide) (fun t ht hW => ⟨⟨(0), (), rfl, ⟨rfl, Or.inl rfl⟩, by rw [ht]; exact hP9, va_K.moved hW.alike hK9, hD9⟩, hS.F ht⟩) hS.2.2 dX13_isMethodKind_22
  · rw [if_neg c_2] at hsp
    refine lv_iload_n hx hb dX13_isMethodKind_11 rfl (lv_at hl 0 rfl) ?_
    refine lv_bipush (v := 6) hx hb dX13_isMethodKind_12 (by decide) ?_
    refine lv_icmp_gt (tgt := 21) hx hb dX13_isMethodKind_14 (by decide) (fun c_3 => ?_) (fun c_3 => ?_)
    · rw [if_pos c_3] at hsp
      refine lv_iconst (v := 0) hx hb dX13_isMethodKind_21 (by decide) ?_
      have hr0 := Option.some.inj hsp
      clear hsp
      subst hr0
      have hP9 := hP.sub (ws' := [(qa1, .inl (ca1, na1, .inl fa1))]) [0] rfl
      have hD9 := hD.sub (ws' := [(qa1, .inl (ca1, na1, .inl fa1))]) [0] (by decide) rfl
      have hK9 := hK.sub (tys' := [(ca1, .int)]) [0] rfl
      exact W.zret hx hb hr (by decide) (fun t ht hW => ⟨⟨(0), (), rfl, ⟨rfl, Or.inl rfl⟩, by rw [ht]; exact hP9, va_K.moved hW.alike hK9, hD9⟩, hS.F ht⟩) hS.2.2 dX13_isMethodKind_22
    · rw [if_neg c_3] at hsp
      refine lv_iconst (v := 1) hx hb dX13_isMethodKind_17 (by decide) ?_
      refine lv_goto (tgt := 22) hx hb dX13_isMethodKind_18 (by decide) ?_
      have hr0 := Option.some.inj hsp
      clear hsp
      subst hr0
      have hP9 := hP.sub (ws' := [(qa1, .inl (ca1, na1, .inl fa1))]) [0] rfl
      have hD9 := hD.sub (ws' := [(qa1, .inl (ca1, na1, .inl fa1))]) [0] (by decide) rfl
      have hK9 := hK.sub (tys' := [(ca1, .int)]) [0] rfl
      exact W.zret hx hb hr (by decide) (fun t ht hW => ⟨⟨(1), (), rfl, ⟨rfl, Or.inr rfl⟩, by rw [ht]; exact hP9, va_K.moved hW.alike hK9, hD9⟩, hS.F ht⟩) hS.2.2 dX13_isMethodKind_22
def sp_vm_isClassText (nf : Nat) (a2 : Int32) (a3 : Int32) (na1 : Nat) (fa1 : Nat → Int32) : Option (Int32) := (if a3 ≤ 0 then ((sp_vm_isName nf a2 a3 na1 fa1).bind (fun p1 => (if p1 = 0 then (some 0) else (some 1)))) else (if a2 < 0 then none else if na1 ≤ (a2 : Int32).toNatClampNeg then none else (if (fa1 (a2 : Int32).toNatClampNeg) = 91 then ((sp_vm_isFieldKind nf a2 a3 na1 fa1).bind (fun p3 => (if p3 = 0 then (some 0) else (some 1)))) else ((sp_vm_isName nf a2 a3 na1 fa1).bind (fun p2 => (if p2 = 0 then (some 0) else (some 1)))))))
set_option maxHeartbeats 4000000 in
set_option maxRecDepth 100000 in
/-- ClassMillModel.isClassText -/
theorem vm_isClassText (l : Launch) (dC : Nat → ClassId) (dI : Nat → Nat → Nat) (sz : Nat) (qa1 : Nat) (a2 : Int32) (a3 : Int32) (ca1 : ClassId) (na1 : Nat) (fa1 : (Nat → Int32)) (nf : Nat) (r0 : Int32) (hsp : sp_vm_isClassText nf a2 a3 na1 fa1 = some r0) : Met l yX13_isClassText (.code yX13_isClassText cX13_isClassText 3 (some .boolean) :: VS_h9) ({ frames := 5, cells := 0, slots := 0, locals := 111 }) (va_Pc [.ref qa1, .int a2, .int a3] (fun U => U.heap.size = sz ∧ va_P (dC, dI) vwCl [(qa1, .inl (ca1, na1, .inl fa1))] U.heap ∧ va_K (dC, dI) vwCl [(ca1, .int)] U ∧ va_D (fun _ => True) [(qa1, .inl (ca1, na1, .inl fa1))])) (va_Qi (fun (r : Int32) (u : Unit) => match u with | () => r0 = r ∧ (r0 = 0 ∨ r0 = 1)) (fun (u : Unit) (t : State) => match u with | () => va_P (dC, dI) vwCl [(qa1, .inl (ca1, na1, .inl fa1))] t.heap ∧ va_K (dC, dI) vwCl [(ca1, .int)] t ∧ va_D (va_A [(qa1, .inl (ca1, na1, .inl fa1))] sz) [(qa1, .inl (ca1, na1, .inl fa1))]) (va_A [(qa1, .inl (ca1, na1, .inl fa1))] sz)) 0 0 (va_A [(qa1, .inl (ca1, na1, .inl fa1))] sz) := by
  refine Met.ofW (cc := cX13_isClassText) (maxL := 3) (ret := (some .boolean)) (by decide) rfl ?_
  intro p e s m args below meth c s₁ B hml hv
  obtain ⟨rfl, hsz, hP, hK, hD0⟩ := hv
  have hx := B.exec
  have hb := B.bytes
  have hr := B.returns
  have hts := atoms_spec (ws := (.code yX13_isClassText cX13_isClassText 3 (some .boolean) :: VS_h9)) B.pre
  replace hts := fun w (h : w ∈ VS_h9) => hts w (List.mem_cons_of_mem _ h)
  have hown : s.vm.findClass RX13 = some m.cls := findClass_of_methodNamed B.named
  have hlocks := B.notSynchronized
  subst hsz
  have hD := hD0.self (sz := s.heap.size)
  generalize hAe : va_A [(qa1, .inl (ca1, na1, .inl fa1))] s.heap.size = A at hD  ⊢
  have hA : ∀ q : Nat, s.heap.size ≤ q → A q := fun q h => by rw [← hAe]; exact Or.inr h
  have hP : va_P (dC, dI) vwCl [(qa1, .inl (ca1, na1, .inl fa1))] s.heap := hP
  have hl := lv_entry ([.ref qa1, .int a2, .int a3]) (n := 3) (Nat.le_of_ble_eq_true rfl)
  rw [lg_entry_eq]
  generalize (lg_sl ([.ref qa1, .int a2, .int a3]) ++ List.replicate (3 - (lg_sl ([.ref qa1, .int a2, .int a3])).length) Slot.unset).toArray = ls at hl ⊢
  have hl : lv_has ls 3 [(0, .ref qa1), (1, .int a2), (2, .int a3)] := hl
  obtain ⟨H, hH⟩ : ∃ H : Heap, s.heap = H := ⟨_, rfl⟩
  rw [hH] at hP ⊢
  have hS : va_S A s.heap H [] := by rw [← hH]; exact va_S.rf
  obtain ⟨locs, hlo⟩ : ∃ locs : List Loc, locs = [] := ⟨_, rfl⟩
  rw [← hlo] at hS ⊢
  unfold sp_vm_isClassText at hsp
  refine lv_iload_n hx hb dX13_isClassText_0 rfl (lv_at hl 2 rfl) ?_
  refine lv_if_le (tgt := 19) hx hb dX13_isClassText_1 (by decide) (fun c_1 => ?_) (fun c_1 => ?_)
  · rw [if_pos c_1] at hsp
    refine lv_aload_n hx hb dX13_isClassText_19 rfl (lv_at hl 0 rfl) ?_
    refine lv_iload_n hx hb dX13_isClassText_20 rfl (lv_at hl 1 rfl) ?_
    refine lv_iload_n hx hb dX13_isClassText_21 rfl (lv_at hl 2 rfl) ?_
    obtain ⟨u1_0, hu_1, hsp⟩ := ox_bind hsp
    try dsimp only at hsp
    have hPc := hP.sub (ws' := [(qa1, .inl (ca1, na1, .inl fa1))]) [0] rfl
    have hDc := hD.sub (ws' := [(qa1, .inl (ca1, na1, .inl fa1))]) [0] (by decide) rfl
    have hKc := hK.sub (tys' := [(ca1, .int)]) [0] rfl
    have hFc := va_free (wc := [(qa1, .inl (ca1, na1, .inl fa1))]) hD hS hA [0] rfl
    refine va_calli (va_runS (As := [.ref qa1, .int a2, .int a3]) (rest := []) ⟨hx, hb, hml, hown, hts⟩ (vm_isName l dC dI H.size qa1 a2 a3 ca1 na1 fa1 nf u1_0 hu_1) (va_cwS 3 hts gv_h9_40 rfl rfl rfl (by decide +kernel) ⟨Nat.le_of_ble_eq_true rfl, Nat.le_of_ble_eq_true rfl⟩) ⟨fun a U g mk q => by obtain ⟨q0, q1, qP, qK, qD⟩ := q; exact ⟨q0, q1, qP, va_K.moved (u := U) (U := U.calling g mk a) (Vm.Alike.refl U.vm) qK, qD⟩, fun U hU hW => ⟨rfl, by rw [hU], by rw [hU]; exact hPc, va_K.moved hW.alike hKc, hDc.weaken (fun _ _ _ _ => trivial)⟩⟩ rfl rfl hl.1 rfl (lv_room (Nat.le_of_ble_eq_true rfl)) dX13_isClassText_22 ⟨Nat.le_of_ble_eq_true rfl, Nat.le_of_ble_eq_true rfl⟩) hS (fun q _ h => hFc q h) hFc ?_
    clear hS
    intro r_2 u t H1 locs ht hvm hw hB hz1 hk1 hS
    obtain ⟨⟩ := u
    obtain ⟨hP1, hK1, hD1⟩ := hB
    rw [ht] at hP1
    have hK1 := va_K.moved hvm.symm hK1
    try dsimp only at hw
    have hPD := va_join (wr := []) (w1 := [(qa1, .inl (ca1, na1, .inl fa1))]) hP hD [0] [] rfl rfl (by decide) (by decide) hk1 hFc hP1 hD1
    clear hP hD
    obtain ⟨hP, hD⟩ := hPD
    replace hK := (hK.sub (tys' := []) [] rfl).app hK1
    clear hPc hDc hKc hFc hP1 hK1 hD1 hz1 hk1 ht hvm
    generalize H1 = H at hP hS ⊢
    replace hP : va_P (dC, dI) vwCl [(qa1, .inl (ca1, na1, .inl fa1))] H := hP
    replace hD : va_D A [(qa1, .inl (ca1, na1, .inl fa1))] := hD
    replace hK : va_K (dC, dI) vwCl [(ca1, .int)] s := hK
    obtain ⟨rfl, hz_1⟩ := hw
    rcases hz_1 with rfl | rfl
    · rw [if_pos rfl] at hsp
      have hr0 := Option.some.inj hsp
      clear hsp
      subst hr0
      have hP9 := hP.sub (ws' := [(qa1, .inl (ca1, na1, .inl fa1))]) [0] rfl
      have hD9 := hD.sub (ws' := [(qa1, .inl (ca1, na1, .inl fa1))]) [0] (by decide) rfl
      have hK9 := hK.sub (tys' := [(ca1, .int)]) [0] rfl
      exact W.zret hx hb hr (by decide) (fun t ht hW => ⟨⟨(0), (), rfl, ⟨rfl, Or.inl rfl⟩, by rw [ht]; exact hP9, va_K.moved hW.alike hK9, hD9⟩, hS.F ht⟩) hS.2.2 dX13_isClassText_25
    · rw [if_neg (by decide)] at hsp
      have hr0 := Option.some.inj hsp
      clear hsp
      subst hr0
      have hP9 := hP.sub (ws' := [(qa1, .inl (ca1, na1, .inl fa1))]) [0] rfl
      have hD9 := hD.sub (ws' := [(qa1, .inl (ca1, na1, .inl fa1))]) [0] (by decide) rfl
      have hK9 := hK.sub (tys' := [(ca1, .int)]) [0] rfl
      exact W.zret hx hb hr (by decide) (fun t ht hW => ⟨⟨(1), (), rfl, ⟨rfl, Or.inr rfl⟩, by rw [ht]; exact hP9, va_K.moved hW.alike hK9, hD9⟩, hS.F ht⟩) hS.2.2 dX13_isClassText_25
  · rw [if_neg c_1] at hsp
    refine lv_aload_n hx hb dX13_isClassText_4 rfl (lv_at hl 0 rfl) ?_
    refine lv_iload_n hx hb dX13_isClassText_5 rfl (lv_at hl 1 rfl) ?_
    obtain ⟨hi_3, hsp⟩ := ox_in hsp
    refine va_iald hx hb hK hP 0 0 rfl rfl (i := a2) hi_3 dX13_isClassText_6 ?_
    refine lv_bipush (v := 91) hx hb dX13_isClassText_7 (by decide) ?_
    refine lv_icmp_ne (tgt := 19) hx hb dX13_isClassText_9 (by decide) (fun c_4 => ?_) (fun c_4 => ?_)
    · rw [if_neg c_4] at hsp
      refine lv_aload_n hx hb dX13_isClassText_19 rfl (lv_at hl 0 rfl) ?_
      refine lv_iload_n hx hb dX13_isClassText_20 rfl (lv_at hl 1 rfl) ?_
      refine lv_iload_n hx hb dX13_isClassText_21 rfl (lv_at hl 2 rfl) ?_
      obtain ⟨u2_0, hu_2, hsp⟩ := ox_bind hsp
      try dsimp only at hsp
      have hPc := hP.sub (ws' := [(qa1, .inl (ca1, na1, .inl fa1))]) [0] rfl
      have hDc := hD.sub (ws' := [(qa1, .inl (ca1, na1, .inl fa1))]) [0] (by decide) rfl
      have hKc := hK.sub (tys' := [(ca1, .int)]) [0] rfl
      have hFc := va_free (wc := [(qa1, .inl (ca1, na1, .inl fa1))]) hD hS hA [0] rfl
      refine va_calli (va_runS (As := [.ref qa1, .int a2, .int a3]) (rest := []) ⟨hx, hb, hml, hown, hts⟩ (vm_isName l dC dI H.size qa1 a2 a3 ca1 na1 fa1 nf u2_0 hu_2) (va_cwS 3 hts gv_h9_40 rfl rfl rfl (by decide +kernel) ⟨Nat.le_of_ble_eq_true rfl, Nat.le_of_ble_eq_true rfl⟩) ⟨fun a U g mk q => by obtain ⟨q0, q1, qP, qK, qD⟩ := q; exact ⟨q0, q1, qP, va_K.moved (u := U) (U := U.calling g mk a) (Vm.Alike.refl U.vm) qK, qD⟩, fun U hU hW => ⟨rfl, by rw [hU], by rw [hU]; exact hPc, va_K.moved hW.alike hKc, hDc.weaken (fun _ _ _ _ => trivial)⟩⟩ rfl rfl hl.1 rfl (lv_room (Nat.le_of_ble_eq_true rfl)) dX13_isClassText_22 ⟨Nat.le_of_ble_eq_true rfl, Nat.le_of_ble_eq_true rfl⟩) hS (fun q _ h => hFc q h) hFc ?_
      clear hS
      intro r_5 u t H1 locs ht hvm hw hB hz1 hk1 hS
      obtain ⟨⟩ := u
      obtain ⟨hP1, hK1, hD1⟩ := hB
      rw [ht] at hP1
      have hK1 := va_K.moved hvm.symm hK1
      try dsimp only at hw
      have hPD := va_join (wr := []) (w1 := [(qa1, .inl (ca1, na1, .inl fa1))]) hP hD [0] [] rfl rfl (by decide) (by decide) hk1 hFc hP1 hD1
      clear hP hD
      obtain ⟨hP, hD⟩ := hPD
      replace hK := (hK.sub (tys' := []) [] rfl).app hK1
      clear hPc hDc hKc hFc hP1 hK1 hD1 hz1 hk1 ht hvm
      generalize H1 = H at hP hS ⊢
      replace hP : va_P (dC, dI) vwCl [(qa1, .inl (ca1, na1, .inl fa1))] H := hP
      replace hD : va_D A [(qa1, .inl (ca1, na1, .inl fa1))] := hD
      replace hK : va_K (dC, dI) vwCl [(ca1, .int)] s := hK
      obtain ⟨rfl, hz_2⟩ := hw
      rcases hz_2 with rfl | rfl
      · rw [if_pos rfl] at hsp
        have hr0 := Option.some.inj hsp
        clear hsp
        subst hr0
        have hP9 := hP.sub (ws' := [(qa1, .inl (ca1, na1, .inl fa1))]) [0] rfl
        have hD9 := hD.sub (ws' := [(qa1, .inl (ca1, na1, .inl fa1))]) [0] (by decide) rfl
        have hK9 := hK.sub (tys' := [(ca1, .int)]) [0] rfl
        exact W.zret hx hb hr (by decide) (fun t ht hW => ⟨⟨(0), (), rfl, ⟨rfl, Or.inl rfl⟩, by rw [ht]; exact hP9, va_K.moved hW.alike hK9, hD9⟩, hS.F ht⟩) hS.2.2 dX13_isClassText_25
      · rw [if_neg (by decide)] at hsp
        have hr0 := Option.some.inj hsp
        clear hsp
        subst hr0
        have hP9 := hP.sub (ws' := [(qa1, .inl (ca1, na1, .inl fa1))]) [0] rfl
        have hD9 := hD.sub (ws' := [(qa1, .inl (ca1, na1, .inl fa1))]) [0] (by decide) rfl
        have hK9 := hK.sub (tys' := [(ca1, .int)]) [0] rfl
        exact W.zret hx hb hr (by decide) (fun t ht hW => ⟨⟨(1), (), rfl, ⟨rfl, Or.inr rfl⟩, by rw [ht]; exact hP9, va_K.moved hW.alike hK9, hD9⟩, hS.F ht⟩) hS.2.2 dX13_isClassText_25
    · rw [if_pos c_4] at hsp
      refine lv_aload_n hx hb dX13_isClassText_12 rfl (lv_at hl 0 rfl) ?_
      refine lv_iload_n hx hb dX13_isClassText_13 rfl (lv_at hl 1 rfl) ?_
      refine lv_iload_n hx hb dX13_isClassText_14 rfl (lv_at hl 2 rfl) ?_
      obtain ⟨u3_0, hu_3, hsp⟩ := ox_bind hsp
      try dsimp only at hsp
      have hPc := hP.sub (ws' := [(qa1, .inl (ca1, na1, .inl fa1))]) [0] rfl
      have hDc := hD.sub (ws' := [(qa1, .inl (ca1, na1, .inl fa1))]) [0] (by decide) rfl
      have hKc := hK.sub (tys' := [(ca1, .int)]) [0] rfl
      have hFc := va_free (wc := [(qa1, .inl (ca1, na1, .inl fa1))]) hD hS hA [0] rfl
      refine va_calli (va_runS (As := [.ref qa1, .int a2, .int a3]) (rest := []) ⟨hx, hb, hml, hown, hts⟩ (vm_isFieldKind l dC dI H.size qa1 a2 a3 ca1 na1 fa1 nf u3_0 hu_3) (va_cwS 3 hts gv_h9_42 rfl rfl rfl (by decide +kernel) ⟨Nat.le_of_ble_eq_true rfl, Nat.le_of_ble_eq_true rfl⟩) ⟨fun a U g mk q => by obtain ⟨q0, q1, qP, qK, qD⟩ := q; exact ⟨q0, q1, qP, va_K.moved (u := U) (U := U.calling g mk a) (Vm.Alike.refl U.vm) qK, qD⟩, fun U hU hW => ⟨rfl, by rw [hU], by rw [hU]; exact hPc, va_K.moved hW.alike hKc, hDc.weaken (fun _ _ _ _ => trivial)⟩⟩ rfl rfl hl.1 rfl (lv_room (Nat.le_of_ble_eq_true rfl)) dX13_isClassText_15 ⟨Nat.le_of_ble_eq_true rfl, Nat.le_of_ble_eq_true rfl⟩) hS (fun q _ h => hFc q h) hFc ?_
      clear hS
      intro r_6 u t H1 locs ht hvm hw hB hz1 hk1 hS
      obtain ⟨⟩ := u
      obtain ⟨hP1, hK1, hD1⟩ := hB
      rw [ht] at hP1
      have hK1 := va_K.moved hvm.symm hK1
      try dsimp only at hw
      have hPD := va_join (wr := []) (w1 := [(qa1, .inl (ca1, na1, .inl fa1))]) hP hD [0] [] rfl rfl (by decide) (by decide) hk1 hFc hP1 hD1
      clear hP hD
      obtain ⟨hP, hD⟩ := hPD
      replace hK := (hK.sub (tys' := []) [] rfl).app hK1
      clear hPc hDc hKc hFc hP1 hK1 hD1 hz1 hk1 ht hvm
      generalize H1 = H at hP hS ⊢
      replace hP : va_P (dC, dI) vwCl [(qa1, .inl (ca1, na1, .inl fa1))] H := hP
      replace hD : va_D A [(qa1, .inl (ca1, na1, .inl fa1))] := hD
      replace hK : va_K (dC, dI) vwCl [(ca1, .int)] s := hK
      obtain ⟨rfl, hz_3⟩ := hw
      rcases hz_3 with rfl | rfl
      · rw [if_pos rfl] at hsp
        have hr0 := Option.some.inj hsp
        clear hsp
        subst hr0
        have hP9 := hP.sub (ws' := [(qa1, .inl (ca1, na1, .inl fa1))]) [0] rfl
        have hD9 := hD.sub (ws' := [(qa1, .inl (ca1, na1, .inl fa1))]) [0] (by decide) rfl
        have hK9 := hK.sub (tys' := [(ca1, .int)]) [0] rfl
        exact W.zret hx hb hr (by decide) (fun t ht hW => ⟨⟨(0), (), rfl, ⟨rfl, Or.inl rfl⟩, by rw [ht]; exact hP9, va_K.moved hW.alike hK9, hD9⟩, hS.F ht⟩) hS.2.2 dX13_isClassText_18
      · rw [if_neg (by decide)] at hsp
        have hr0 := Option.some.inj hsp
        clear hsp
        subst hr0
        have hP9 := hP.sub (ws' := [(qa1, .inl (ca1, na1, .inl fa1))]) [0] rfl
        have hD9 := hD.sub (ws' := [(qa1, .inl (ca1, na1, .inl fa1))]) [0] (by decide) rfl
        have hK9 := hK.sub (tys' := [(ca1, .int)]) [0] rfl
        exact W.zret hx hb hr (by decide) (fun t ht hW => ⟨⟨(1), (), rfl, ⟨rfl, Or.inr rfl⟩, by rw [ht]; exact hP9, va_K.moved hW.alike hK9, hD9⟩, hS.F ht⟩) hS.2.2 dX13_isClassText_18
def sp_vm_isText (nf : Nat) (a1 : Int32) (a2 : Int32) (v115 : Int32) (f103 : Nat → Int32) (f102 : Nat → Int32) (f112 : Nat → Int32) : Option (Int32) := ((sp_tm_constantOf nf v115 a1 f103 f102).bind (fun p1 => (if p1 < 0 then (some 0) else (if p1 < 0 then none else if 6000 ≤ (p1 : Int32).toNatClampNeg then none else (if (f112 (p1 : Int32).toNatClampNeg) = 1 then (if (p1 + 1) < 0 then none else if 6000 ≤ ((p1 + 1) : Int32).toNatClampNeg then none else (if a2 = 0 then ((sp_vm_isName nf (p1 + 2) (f112 ((p1 + 1) : Int32).toNatClampNeg) 6000 f112).bind (fun p2 => (if p2 = 0 then (some 0) else (some 1)))) else (if a2 = 1 then ((sp_vm_isFieldKind nf (p1 + 2) (f112 ((p1 + 1) : Int32).toNatClampNeg) 6000 f112).bind (fun p3 => (if p3 = 0 then (some 0) else (some 1)))) else (if a2 = 2 then ((sp_vm_isMethodKind nf (p1 + 2) (f112 ((p1 + 1) : Int32).toNatClampNeg) 6000 f112).bind (fun p4 => (if p4 = 0 then (some 0) else (some 1)))) else (if a2 = 3 then ((sp_vm_isFieldKind nf (p1 + 2) (f112 ((p1 + 1) : Int32).toNatClampNeg) 6000 f112).bind (fun p5 => (if p5 = 0 then ((sp_vm_isMethodKind nf (p1 + 2) (f112 ((p1 + 1) : Int32).toNatClampNeg) 6000 f112).bind (fun p6 => (if p6 = 0 then (some 0) else (some 1)))) else (some 1)))) else ((sp_vm_isClassText nf (p1 + 2) (f112 ((p1 + 1) : Int32).toNatClampNeg) 6000 f112).bind (fun p7 => (if p7 = 0 then (some 0) else (some 1))))))))) else (some 0))))))
set_option maxHeartbeats 4000000 in
set_option maxRecDepth 100000 in
/-- ClassMillModel.isText -/
theorem vm_isText (l : Launch) (dC : Nat → ClassId) (dI : Nat → Nat → Nat) (sz : Nat) (h0 : Nat) (zs : (List Value)) (a1 : Int32) (a2 : Int32) (qf102 : Nat) (qf103 : Nat) (qf112 : Nat) (v115 : Int32) (cf103 : ClassId) (f103 : (Nat → Int32)) (cf102 : ClassId) (f102 : (Nat → Int32)) (cf112 : ClassId) (f112 : (Nat → Int32)) (nf : Nat) (r0 : Int32) (hlen : zs.length = 155) (hf102 : zs[102]? = some (.ref qf102)) (hf103 : zs[103]? = some (.ref qf103)) (hf112 : zs[112]? = some (.ref qf112)) (hf115 : zs[115]? = some (.int v115)) (hsp : sp_vm_isText nf a1 a2 v115 f103 f102 f112 = some r0) : Met l yX13_isText (.code yX13_isText cX13_isText 5 (some .boolean) :: VS_h9) ({ frames := 7, cells := 0, slots := 0, locals := 160 }) (va_Pc [.ref h0, .int a1, .int a2] (fun U => U.heap.size = sz ∧ va_P (dC, dI) vwCl [(h0, .inr (13, zs)), (qf103, .inl (cf103, 8, .inl f103)), (qf102, .inl (cf102, 2048, .inl f102)), (qf112, .inl (cf112, 6000, .inl f112))] U.heap ∧ va_K (dC, dI) vwCl [(cf103, .int), (cf102, .int), (cf112, .int)] U ∧ va_D (fun _ => True) [(h0, .inr (13, zs)), (qf103, .inl (cf103, 8, .inl f103)), (qf102, .inl (cf102, 2048, .inl f102)), (qf112, .inl (cf112, 6000, .inl f112))])) (va_Qi (fun (r : Int32) (u : (List Value)) => match u with | (zo1) => (r0 = r ∧ (r0 = 0 ∨ r0 = 1)) ∧ zo1.length = 155 ∧ (∀ j : Nat, zo1[j]? = zs[j]?)) (fun (u : (List Value)) (t : State) => match u with | (zo1) => va_P (dC, dI) vwCl [(h0, .inr (13, zo1)), (qf103, .inl (cf103, 8, .inl f103)), (qf102, .inl (cf102, 2048, .inl f102)), (qf112, .inl (cf112, 6000, .inl f112))] t.heap ∧ va_K (dC, dI) vwCl [(cf103, .int), (cf102, .int), (cf112, .int)] t ∧ va_D (va_A [(h0, .inr (13, zs)), (qf103, .inl (cf103, 8, .inl f103)), (qf102, .inl (cf102, 2048, .inl f102)), (qf112, .inl (cf112, 6000, .inl f112))] sz) [(h0, .inr (13, zo1)), (qf103, .inl (cf103, 8, .inl f103)), (qf102, .inl (cf102, 2048, .inl f102)), (qf112, .inl (cf112, 6000, .inl f112))]) (va_A [(h0, .inr (13, zs)), (qf103, .inl (cf103, 8, .inl f103)), (qf102, .inl (cf102, 2048, .inl f102)), (qf112, .inl (cf112, 6000, .inl f112))] sz)) 0 0 (va_A [(h0, .inr (13, zs)), (qf103, .inl (cf103, 8, .inl f103)), (qf102, .inl (cf102, 2048, .inl f102)), (qf112, .inl (cf112, 6000, .inl f112))] sz) := by
  refine Met.ofW (cc := cX13_isText) (maxL := 5) (ret := (some .boolean)) (by decide) rfl ?_
  intro p e s m args below meth c s₁ B hml hv
  obtain ⟨rfl, hsz, hP, hK, hD0⟩ := hv
  have hx := B.exec
  have hb := B.bytes
  have hr := B.returns
  have hts := atoms_spec (ws := (.code yX13_isText cX13_isText 5 (some .boolean) :: VS_h9)) B.pre
  replace hts := fun w (h : w ∈ VS_h9) => hts w (List.mem_cons_of_mem _ h)
  have hown : s.vm.findClass RX13 = some m.cls := findClass_of_methodNamed B.named
  have hlocks := B.notSynchronized
  subst hsz
  have hD := hD0.self (sz := s.heap.size)
  generalize hAe : va_A [(h0, .inr (13, zs)), (qf103, .inl (cf103, 8, .inl f103)), (qf102, .inl (cf102, 2048, .inl f102)), (qf112, .inl (cf112, 6000, .inl f112))] s.heap.size = A at hD  ⊢
  have hA : ∀ q : Nat, s.heap.size ≤ q → A q := fun q h => by rw [← hAe]; exact Or.inr h
  have hP : va_P (dC, dI) vwCl [(h0, .inr (13, zs)), (qf103, .inl (cf103, 8, .inl f103)), (qf102, .inl (cf102, 2048, .inl f102)), (qf112, .inl (cf112, 6000, .inl f112))] s.heap := hP
  have hl := lv_entry ([.ref h0, .int a1, .int a2]) (n := 5) (Nat.le_of_ble_eq_true rfl)
  rw [lg_entry_eq]
  generalize (lg_sl ([.ref h0, .int a1, .int a2]) ++ List.replicate (5 - (lg_sl ([.ref h0, .int a1, .int a2])).length) Slot.unset).toArray = ls at hl ⊢
  have hl : lv_has ls 5 [(0, .ref h0), (1, .int a1), (2, .int a2)] := hl
  obtain ⟨H, hH⟩ : ∃ H : Heap, s.heap = H := ⟨_, rfl⟩
  rw [hH] at hP ⊢
  have hS : va_S A s.heap H [] := by rw [← hH]; exact va_S.rf
  obtain ⟨locs, hlo⟩ : ∃ locs : List Loc, locs = [] := ⟨_, rfl⟩
  rw [← hlo] at hS ⊢
  have hrs0 : ∀ j : Nat, zs[j]? = zs[j]? := fun _  => rfl
  unfold sp_vm_isText at hsp
  refine lv_aload_n hx hb dX13_isText_0 rfl (lv_at hl 0 rfl) ?_
  refine lv_aload_n hx hb dX13_isText_1 rfl (lv_at hl 0 rfl) ?_
  refine va_get (D := (dC, dI)) (ci := 13) (v := .int v115) (C := RX13) (T := TX13) (N := 155) hx hb hts uV_h9_X13 hown hK hP 0 rfl rfl 115 (by decide) (hts (.fieldLink RX13 788 "ClassMillModel" "into" "I") mw_h9_241) (fun _ h9 => h9) hf115 dX13_isText_2 ?_
  refine lv_iload_n hx hb dX13_isText_5 rfl (lv_at hl 1 rfl) ?_
  obtain ⟨u1_0, hu_1, hsp⟩ := ox_bind hsp
  try dsimp only at hsp
  have hPc := hP.sub (ws' := [(h0, .inr (13, zs)), (qf103, .inl (cf103, 8, .inl f103)), (qf102, .inl (cf102, 2048, .inl f102))]) [0, 1, 2] rfl
  have hDc := hD.sub (ws' := [(h0, .inr (13, zs)), (qf103, .inl (cf103, 8, .inl f103)), (qf102, .inl (cf102, 2048, .inl f102))]) [0, 1, 2] (by decide) rfl
  have hKc := hK.sub (tys' := [(cf103, .int), (cf102, .int)]) [0, 1] rfl
  have hFc := va_free (wc := [(h0, .inr (13, zs)), (qf103, .inl (cf103, 8, .inl f103)), (qf102, .inl (cf102, 2048, .inl f102))]) hD hS hA [0, 1, 2] rfl
  refine va_calli (va_runV (As := [.int v115, .int a1]) (rest := []) ⟨hx, hb, hml, hown, hts⟩ (tm_constantOf l dC dI H.size h0 zs v115 a1 qf102 qf103 cf103 f103 cf102 f102 nf u1_0 hlen hf102 hf103 hu_1) (cwV 2 hts gv_h9_44 rfl rfl rfl (by decide +kernel) ⟨Nat.le_of_ble_eq_true rfl, Nat.le_of_ble_eq_true rfl⟩) ⟨fun a U g mk q => by obtain ⟨q0, q1, qP, qK, qD⟩ := q; exact ⟨q0, q1, qP, va_K.moved (u := U) (U := U.calling g mk a) (Vm.Alike.refl U.vm) qK, qD⟩, va_recv hKc hPc (ci := 13) (q0 := 0) rfl rfl, fun U hU hW => ⟨rfl, by rw [hU], by rw [hU]; exact hPc, va_K.moved hW.alike hKc, hDc.weaken (fun _ _ _ _ => trivial)⟩⟩ rfl rfl hl.1 rfl (lv_room (Nat.le_of_ble_eq_true rfl)) dX13_isText_6 ⟨Nat.le_of_ble_eq_true rfl, Nat.le_of_ble_eq_true rfl⟩) hS (fun q _ h => hFc q h) hFc ?_
  clear hS
  intro r_1 u t H1 locs ht hvm hw hB hz1 hk1 hS
  obtain ⟨z_1, rfl⟩ : ∃ z, z = u := ⟨_, rfl⟩
  obtain ⟨hP1, hK1, hD1⟩ := hB
  rw [ht] at hP1
  have hK1 := va_K.moved hvm.symm hK1
  try dsimp only at hw
  have hPD := va_join (wr := [(qf112, .inl (cf112, 6000, .inl f112))]) (w1 := [(h0, .inr (13, z_1)), (qf103, .inl (cf103, 8, .inl f103)), (qf102, .inl (cf102, 2048, .inl f102))]) hP hD [0, 1, 2] [3] rfl rfl (by decide) (by decide) hk1 hFc hP1 hD1
  clear hP hD
  obtain ⟨hP, hD⟩ := hPD
  replace hK := (hK.sub (tys' := [(cf112, .int)]) [2] rfl).app hK1
  clear hPc hDc hKc hFc hP1 hK1 hD1 hz1 hk1 ht hvm
  generalize H1 = H at hP hS ⊢
  replace hP : va_P (dC, dI) vwCl [(qf112, .inl (cf112, 6000, .inl f112)), (h0, .inr (13, z_1)), (qf103, .inl (cf103, 8, .inl f103)), (qf102, .inl (cf102, 2048, .inl f102))] H := hP
  replace hD : va_D A [(qf112, .inl (cf112, 6000, .inl f112)), (h0, .inr (13, z_1)), (qf103, .inl (cf103, 8, .inl f103)), (qf102, .inl (cf102, 2048, .inl f102))] := hD
  replace hK : va_K (dC, dI) vwCl [(cf112, .int), (cf103, .int), (cf102, .int)] s := hK
  obtain ⟨hwa_1, hln_1, hre_1⟩ := hw
  have hfk_1_102 : z_1[102]? = some (.ref qf102) := (hre_1 102 ).trans (hf102)
  have hfk_1_103 : z_1[103]? = some (.ref qf103) := (hre_1 103 ).trans (hf103)
  have hfk_1_112 : z_1[112]? = some (.ref qf112) := (hre_1 112 ).trans (hf112)
  have hfk_1_115 : z_1[115]? = some (.int v115) := (hre_1 115 ).trans (hf115)
  have hrq_1 : ∀ j : Nat, z_1[j]? = zs[j]? := fun j  => (hre_1 j ).trans (hrs0 j )
  obtain rfl := hwa_1
  refine lv_istore_n (lv' := [(3, .int u1_0), (0, .ref h0), (1, .int a1), (2, .int a2)]) hx hb dX13_isText_9 rfl hl (by decide) rfl (fun ls hl => ?_)
  refine lv_iload_n hx hb dX13_isText_10 rfl (lv_at hl 0 rfl) ?_
  refine lv_if_lt (tgt := 24) hx hb dX13_isText_11 (by decide) (fun c_2 => ?_) (fun c_2 => ?_)
  · rw [if_pos c_2] at hsp
    refine lv_iconst (v := 0) hx hb dX13_isText_24 (by decide) ?_
    have hr0 := Option.some.inj hsp
    clear hsp
    subst hr0
    have hP9 := hP.sub (ws' := [(h0, .inr (13, z_1)), (qf103, .inl (cf103, 8, .inl f103)), (qf102, .inl (cf102, 2048, .inl f102)), (qf112, .inl (cf112, 6000, .inl f112))]) [1, 2, 3, 0] rfl
    have hD9 := hD.sub (ws' := [(h0, .inr (13, z_1)), (qf103, .inl (cf103, 8, .inl f103)), (qf102, .inl (cf102, 2048, .inl f102)), (qf112, .inl (cf112, 6000, .inl f112))]) [1, 2, 3, 0] (by decide) rfl
    have hK9 := hK.sub (tys' := [(cf103, .int), (cf102, .int), (cf112, .int)]) [1, 2, 0] rfl
    exact W.zret hx hb hr (by decide) (fun t ht hW => ⟨⟨(0), (z_1), rfl, ⟨⟨rfl, Or.inl rfl⟩, hln_1, hrq_1⟩, by rw [ht]; exact hP9, va_K.moved hW.alike hK9, hD9⟩, hS.F ht⟩) hS.2.2 dX13_isText_25
  · rw [if_neg c_2] at hsp
    refine lv_aload_n hx hb dX13_isText_14 rfl (lv_at hl 1 rfl) ?_
    refine va_get (D := (dC, dI)) (ci := 13) (v := .ref qf112) (C := RX13) (T := TX13) (N := 155) hx hb hts uV_h9_X13 hown hK hP 1 rfl rfl 112 (by decide) (hts (.fieldLink RX13 245 "ClassMillModel" "look" "[I") mw_h9_242) (fun _ h9 => h9) hfk_1_112 dX13_isText_15 ?_
    refine lv_iload_n hx hb dX13_isText_18 rfl (lv_at hl 0 rfl) ?_
    obtain ⟨hi_3, hsp⟩ := ox_in hsp
    refine va_iald hx hb hK hP 0 0 rfl rfl (i := u1_0) hi_3 dX13_isText_19 ?_
    refine lv_iconst (v := 1) hx hb dX13_isText_20 (by decide) ?_
    refine lv_icmp_eq (tgt := 26) hx hb dX13_isText_21 (by decide) (fun c_4 => ?_) (fun c_4 => ?_)
    · rw [if_pos c_4] at hsp
      refine lv_aload_n hx hb dX13_isText_26 rfl (lv_at hl 1 rfl) ?_
      refine va_get (D := (dC, dI)) (ci := 13) (v := .ref qf112) (C := RX13) (T := TX13) (N := 155) hx hb hts uV_h9_X13 hown hK hP 1 rfl rfl 112 (by decide) (hts (.fieldLink RX13 245 "ClassMillModel" "look" "[I") mw_h9_242) (fun _ h9 => h9) hfk_1_112 dX13_isText_27 ?_
      refine lv_iload_n hx hb dX13_isText_30 rfl (lv_at hl 0 rfl) ?_
      refine lv_iconst (v := 1) hx hb dX13_isText_31 (by decide) ?_
      refine lv_iadd hx hb dX13_isText_32 ?_
      obtain ⟨hi_5, hsp⟩ := ox_in hsp
      refine va_iald hx hb hK hP 0 0 rfl rfl (i := (u1_0 + 1)) hi_5 dX13_isText_33 ?_
      refine lv_istore (lv' := [(4, .int (f112 ((u1_0 + 1) : Int32).toNatClampNeg)), (3, .int u1_0), (0, .ref h0), (1, .int a1), (2, .int a2)]) hx hb dX13_isText_34 hl (by decide) rfl (fun ls hl => ?_)
      refine lv_iload_n hx hb dX13_isText_36 rfl (lv_at hl 4 rfl) ?_
      by_cases hs_6 : a2 = 0
      · rw [if_pos hs_6] at hsp
        refine lv_tableIn (tgt := 68) hx hb dX13_isText_37 (by rw [hs_6]; decide) (by rw [hs_6]; decide) (off := 31) (by rw [hs_6]; rfl) (by decide) ?_
        refine lv_aload_n hx hb dX13_isText_68 rfl (lv_at hl 2 rfl) ?_
        refine va_get (D := (dC, dI)) (ci := 13) (v := .ref qf112) (C := RX13) (T := TX13) (N := 155) hx hb hts uV_h9_X13 hown hK hP 1 rfl rfl 112 (by decide) (hts (.fieldLink RX13 245 "ClassMillModel" "look" "[I") mw_h9_242) (fun _ h9 => h9) hfk_1_112 dX13_isText_69 ?_
        refine lv_iload_n hx hb dX13_isText_72 rfl (lv_at hl 1 rfl) ?_
        refine lv_iconst (v := 2) hx hb dX13_isText_73 (by decide) ?_
        refine lv_iadd hx hb dX13_isText_74 ?_
        refine lv_iload hx hb dX13_isText_75 (lv_at hl 0 rfl) ?_
        obtain ⟨u2_0, hu_2, hsp⟩ := ox_bind hsp
        try dsimp only at hsp
        have hPc := hP.sub (ws' := [(qf112, .inl (cf112, 6000, .inl f112))]) [0] rfl
        have hDc := hD.sub (ws' := [(qf112, .inl (cf112, 6000, .inl f112))]) [0] (by decide) rfl
        have hKc := hK.sub (tys' := [(cf112, .int)]) [0] rfl
        have hFc := va_free (wc := [(qf112, .inl (cf112, 6000, .inl f112))]) hD hS hA [0] rfl
        refine va_calli (va_runS (As := [.ref qf112, .int (u1_0 + 2), .int (f112 ((u1_0 + 1) : Int32).toNatClampNeg)]) (rest := []) ⟨hx, hb, hml, hown, hts⟩ (vm_isName l dC dI H.size qf112 ((u1_0 + 2)) ((f112 ((u1_0 + 1) : Int32).toNatClampNeg)) cf112 6000 f112 nf u2_0 hu_2) (va_cwS 3 hts gv_h9_40 rfl rfl rfl (by decide +kernel) ⟨Nat.le_of_ble_eq_true rfl, Nat.le_of_ble_eq_true rfl⟩) ⟨fun a U g mk q => by obtain ⟨q0, q1, qP, qK, qD⟩ := q; exact ⟨q0, q1, qP, va_K.moved (u := U) (U := U.calling g mk a) (Vm.Alike.refl U.vm) qK, qD⟩, fun U hU hW => ⟨rfl, by rw [hU], by rw [hU]; exact hPc, va_K.moved hW.alike hKc, hDc.weaken (fun _ _ _ _ => trivial)⟩⟩ rfl rfl hl.1 rfl (lv_room (Nat.le_of_ble_eq_true rfl)) dX13_isText_77 ⟨Nat.le_of_ble_eq_true rfl, Nat.le_of_ble_eq_true rfl⟩) hS (fun q _ h => hFc q h) hFc ?_
        clear hS
        intro r_7 u t H1 locs ht hvm hw hB hz1 hk1 hS
        obtain ⟨⟩ := u
        obtain ⟨hP1, hK1, hD1⟩ := hB
        rw [ht] at hP1
        have hK1 := va_K.moved hvm.symm hK1
        try dsimp only at hw
        have hPD := va_join (wr := [(h0, .inr (13, z_1)), (qf103, .inl (cf103, 8, .inl f103)), (qf102, .inl (cf102, 2048, .inl f102))]) (w1 := [(qf112, .inl (cf112, 6000, .inl f112))]) hP hD [0] [1, 2, 3] rfl rfl (by decide) (by decide) hk1 hFc hP1 hD1
        clear hP hD
        obtain ⟨hP, hD⟩ := hPD
        replace hK := (hK.sub (tys' := [(cf103, .int), (cf102, .int)]) [1, 2] rfl).app hK1
        clear hPc hDc hKc hFc hP1 hK1 hD1 hz1 hk1 ht hvm
        generalize H1 = H at hP hS ⊢
        replace hP : va_P (dC, dI) vwCl [(h0, .inr (13, z_1)), (qf103, .inl (cf103, 8, .inl f103)), (qf102, .inl (cf102, 2048, .inl f102)), (qf112, .inl (cf112, 6000, .inl f112))] H := hP
        replace hD : va_D A [(h0, .inr (13, z_1)), (qf103, .inl (cf103, 8, .inl f103)), (qf102, .inl (cf102, 2048, .inl f102)), (qf112, .inl (cf112, 6000, .inl f112))] := hD
        replace hK : va_K (dC, dI) vwCl [(cf103, .int), (cf102, .int), (cf112, .int)] s := hK
        obtain ⟨rfl, hz_2⟩ := hw
        rcases hz_2 with rfl | rfl
        · rw [if_pos rfl] at hsp
          have hr0 := Option.some.inj hsp
          clear hsp
          subst hr0
          have hP9 := hP.sub (ws' := [(h0, .inr (13, z_1)), (qf103, .inl (cf103, 8, .inl f103)), (qf102, .inl (cf102, 2048, .inl f102)), (qf112, .inl (cf112, 6000, .inl f112))]) [0, 1, 2, 3] rfl
          have hD9 := hD.sub (ws' := [(h0, .inr (13, z_1)), (qf103, .inl (cf103, 8, .inl f103)), (qf102, .inl (cf102, 2048, .inl f102)), (qf112, .inl (cf112, 6000, .inl f112))]) [0, 1, 2, 3] (by decide) rfl
          have hK9 := hK.sub (tys' := [(cf103, .int), (cf102, .int), (cf112, .int)]) [0, 1, 2] rfl
          exact W.zret hx hb hr (by decide) (fun t ht hW => ⟨⟨(0), (z_1), rfl, ⟨⟨rfl, Or.inl rfl⟩, hln_1, hrq_1⟩, by rw [ht]; exact hP9, va_K.moved hW.alike hK9, hD9⟩, hS.F ht⟩) hS.2.2 dX13_isText_80
        · rw [if_neg (by decide)] at hsp
          have hr0 := Option.some.inj hsp
          clear hsp
          subst hr0
          have hP9 := hP.sub (ws' := [(h0, .inr (13, z_1)), (qf103, .inl (cf103, 8, .inl f103)), (qf102, .inl (cf102, 2048, .inl f102)), (qf112, .inl (cf112, 6000, .inl f112))]) [0, 1, 2, 3] rfl
          have hD9 := hD.sub (ws' := [(h0, .inr (13, z_1)), (qf103, .inl (cf103, 8, .inl f103)), (qf102, .inl (cf102, 2048, .inl f102)), (qf112, .inl (cf112, 6000, .inl f112))]) [0, 1, 2, 3] (by decide) rfl
          have hK9 := hK.sub (tys' := [(cf103, .int), (cf102, .int), (cf112, .int)]) [0, 1, 2] rfl
          exact W.zret hx hb hr (by decide) (fun t ht hW => ⟨⟨(1), (z_1), rfl, ⟨⟨rfl, Or.inr rfl⟩, hln_1, hrq_1⟩, by rw [ht]; exact hP9, va_K.moved hW.alike hK9, hD9⟩, hS.F ht⟩) hS.2.2 dX13_isText_80
      rw [if_neg hs_6] at hsp
      by_cases hs_8 : a2 = 1
      · rw [if_pos hs_8] at hsp
        refine lv_tableIn (tgt := 81) hx hb dX13_isText_37 (by rw [hs_8]; decide) (by rw [hs_8]; decide) (off := 44) (by rw [hs_8]; rfl) (by decide) ?_
        refine lv_aload_n hx hb dX13_isText_81 rfl (lv_at hl 2 rfl) ?_
        refine va_get (D := (dC, dI)) (ci := 13) (v := .ref qf112) (C := RX13) (T := TX13) (N := 155) hx hb hts uV_h9_X13 hown hK hP 1 rfl rfl 112 (by decide) (hts (.fieldLink RX13 245 "ClassMillModel" "look" "[I") mw_h9_242) (fun _ h9 => h9) hfk_1_112 dX13_isText_82 ?_
        refine lv_iload_n hx hb dX13_isText_85 rfl (lv_at hl 1 rfl) ?_
        refine lv_iconst (v := 2) hx hb dX13_isText_86 (by decide) ?_
        refine lv_iadd hx hb dX13_isText_87 ?_
        refine lv_iload hx hb dX13_isText_88 (lv_at hl 0 rfl) ?_
        obtain ⟨u3_0, hu_3, hsp⟩ := ox_bind hsp
        try dsimp only at hsp
        have hPc := hP.sub (ws' := [(qf112, .inl (cf112, 6000, .inl f112))]) [0] rfl
        have hDc := hD.sub (ws' := [(qf112, .inl (cf112, 6000, .inl f112))]) [0] (by decide) rfl
        have hKc := hK.sub (tys' := [(cf112, .int)]) [0] rfl
        have hFc := va_free (wc := [(qf112, .inl (cf112, 6000, .inl f112))]) hD hS hA [0] rfl
        refine va_calli (va_runS (As := [.ref qf112, .int (u1_0 + 2), .int (f112 ((u1_0 + 1) : Int32).toNatClampNeg)]) (rest := []) ⟨hx, hb, hml, hown, hts⟩ (vm_isFieldKind l dC dI H.size qf112 ((u1_0 + 2)) ((f112 ((u1_0 + 1) : Int32).toNatClampNeg)) cf112 6000 f112 nf u3_0 hu_3) (va_cwS 3 hts gv_h9_42 rfl rfl rfl (by decide +kernel) ⟨Nat.le_of_ble_eq_true rfl, Nat.le_of_ble_eq_true rfl⟩) ⟨fun a U g mk q => by obtain ⟨q0, q1, qP, qK, qD⟩ := q; exact ⟨q0, q1, qP, va_K.moved (u := U) (U := U.calling g mk a) (Vm.Alike.refl U.vm) qK, qD⟩, fun U hU hW => ⟨rfl, by rw [hU], by rw [hU]; exact hPc, va_K.moved hW.alike hKc, hDc.weaken (fun _ _ _ _ => trivial)⟩⟩ rfl rfl hl.1 rfl (lv_room (Nat.le_of_ble_eq_true rfl)) dX13_isText_90 ⟨Nat.le_of_ble_eq_true rfl, Nat.le_of_ble_eq_true rfl⟩) hS (fun q _ h => hFc q h) hFc ?_
        clear hS
        intro r_9 u t H1 locs ht hvm hw hB hz1 hk1 hS
        obtain ⟨⟩ := u
        obtain ⟨hP1, hK1, hD1⟩ := hB
        rw [ht] at hP1
        have hK1 := va_K.moved hvm.symm hK1
        try dsimp only at hw
        have hPD := va_join (wr := [(h0, .inr (13, z_1)), (qf103, .inl (cf103, 8, .inl f103)), (qf102, .inl (cf102, 2048, .inl f102))]) (w1 := [(qf112, .inl (cf112, 6000, .inl f112))]) hP hD [0] [1, 2, 3] rfl rfl (by decide) (by decide) hk1 hFc hP1 hD1
        clear hP hD
        obtain ⟨hP, hD⟩ := hPD
        replace hK := (hK.sub (tys' := [(cf103, .int), (cf102, .int)]) [1, 2] rfl).app hK1
        clear hPc hDc hKc hFc hP1 hK1 hD1 hz1 hk1 ht hvm
        generalize H1 = H at hP hS ⊢
        replace hP : va_P (dC, dI) vwCl [(h0, .inr (13, z_1)), (qf103, .inl (cf103, 8, .inl f103)), (qf102, .inl (cf102, 2048, .inl f102)), (qf112, .inl (cf112, 6000, .inl f112))] H := hP
        replace hD : va_D A [(h0, .inr (13, z_1)), (qf103, .inl (cf103, 8, .inl f103)), (qf102, .inl (cf102, 2048, .inl f102)), (qf112, .inl (cf112, 6000, .inl f112))] := hD
        replace hK : va_K (dC, dI) vwCl [(cf103, .int), (cf102, .int), (cf112, .int)] s := hK
        obtain ⟨rfl, hz_3⟩ := hw
        rcases hz_3 with rfl | rfl
        · rw [if_pos rfl] at hsp
          have hr0 := Option.some.inj hsp
          clear hsp
          subst hr0
          have hP9 := hP.sub (ws' := [(h0, .inr (13, z_1)), (qf103, .inl (cf103, 8, .inl f103)), (qf102, .inl (cf102, 2048, .inl f102)), (qf112, .inl (cf112, 6000, .inl f112))]) [0, 1, 2, 3] rfl
          have hD9 := hD.sub (ws' := [(h0, .inr (13, z_1)), (qf103, .inl (cf103, 8, .inl f103)), (qf102, .inl (cf102, 2048, .inl f102)), (qf112, .inl (cf112, 6000, .inl f112))]) [0, 1, 2, 3] (by decide) rfl
          have hK9 := hK.sub (tys' := [(cf103, .int), (cf102, .int), (cf112, .int)]) [0, 1, 2] rfl
          exact W.zret hx hb hr (by decide) (fun t ht hW => ⟨⟨(0), (z_1), rfl, ⟨⟨rfl, Or.inl rfl⟩, hln_1, hrq_1⟩, by rw [ht]; exact hP9, va_K.moved hW.alike hK9, hD9⟩, hS.F ht⟩) hS.2.2 dX13_isText_93
        · rw [if_neg (by decide)] at hsp
          have hr0 := Option.some.inj hsp
          clear hsp
          subst hr0
          have hP9 := hP.sub (ws' := [(h0, .inr (13, z_1)), (qf103, .inl (cf103, 8, .inl f103)), (qf102, .inl (cf102, 2048, .inl f102)), (qf112, .inl (cf112, 6000, .inl f112))]) [0, 1, 2, 3] rfl
          have hD9 := hD.sub (ws' := [(h0, .inr (13, z_1)), (qf103, .inl (cf103, 8, .inl f103)), (qf102, .inl (cf102, 2048, .inl f102)), (qf112, .inl (cf112, 6000, .inl f112))]) [0, 1, 2, 3] (by decide) rfl
          have hK9 := hK.sub (tys' := [(cf103, .int), (cf102, .int), (cf112, .int)]) [0, 1, 2] rfl
          exact W.zret hx hb hr (by decide) (fun t ht hW => ⟨⟨(1), (z_1), rfl, ⟨⟨rfl, Or.inr rfl⟩, hln_1, hrq_1⟩, by rw [ht]; exact hP9, va_K.moved hW.alike hK9, hD9⟩, hS.F ht⟩) hS.2.2 dX13_isText_93
      rw [if_neg hs_8] at hsp
      by_cases hs_10 : a2 = 2
      · rw [if_pos hs_10] at hsp
        refine lv_tableIn (tgt := 94) hx hb dX13_isText_37 (by rw [hs_10]; decide) (by rw [hs_10]; decide) (off := 57) (by rw [hs_10]; rfl) (by decide) ?_
        refine lv_aload_n hx hb dX13_isText_94 rfl (lv_at hl 2 rfl) ?_
        refine va_get (D := (dC, dI)) (ci := 13) (v := .ref qf112) (C := RX13) (T := TX13) (N := 155) hx hb hts uV_h9_X13 hown hK hP 1 rfl rfl 112 (by decide) (hts (.fieldLink RX13 245 "ClassMillModel" "look" "[I") mw_h9_242) (fun _ h9 => h9) hfk_1_112 dX13_isText_95 ?_
        refine lv_iload_n hx hb dX13_isText_98 rfl (lv_at hl 1 rfl) ?_
        refine lv_iconst (v := 2) hx hb dX13_isText_99 (by decide) ?_
        refine lv_iadd hx hb dX13_isText_100 ?_
        refine lv_iload hx hb dX13_isText_101 (lv_at hl 0 rfl) ?_
        obtain ⟨u4_0, hu_4, hsp⟩ := ox_bind hsp
        try dsimp only at hsp
        have hPc := hP.sub (ws' := [(qf112, .inl (cf112, 6000, .inl f112))]) [0] rfl
        have hDc := hD.sub (ws' := [(qf112, .inl (cf112, 6000, .inl f112))]) [0] (by decide) rfl
        have hKc := hK.sub (tys' := [(cf112, .int)]) [0] rfl
        have hFc := va_free (wc := [(qf112, .inl (cf112, 6000, .inl f112))]) hD hS hA [0] rfl
        refine va_calli (va_runS (As := [.ref qf112, .int (u1_0 + 2), .int (f112 ((u1_0 + 1) : Int32).toNatClampNeg)]) (rest := []) ⟨hx, hb, hml, hown, hts⟩ (vm_isMethodKind l dC dI H.size qf112 ((u1_0 + 2)) ((f112 ((u1_0 + 1) : Int32).toNatClampNeg)) cf112 6000 f112 nf u4_0 hu_4) (va_cwS 3 hts gv_h9_45 rfl rfl rfl (by decide +kernel) ⟨Nat.le_of_ble_eq_true rfl, Nat.le_of_ble_eq_true rfl⟩) ⟨fun a U g mk q => by obtain ⟨q0, q1, qP, qK, qD⟩ := q; exact ⟨q0, q1, qP, va_K.moved (u := U) (U := U.calling g mk a) (Vm.Alike.refl U.vm) qK, qD⟩, fun U hU hW => ⟨rfl, by rw [hU], by rw [hU]; exact hPc, va_K.moved hW.alike hKc, hDc.weaken (fun _ _ _ _ => trivial)⟩⟩ rfl rfl hl.1 rfl (lv_room (Nat.le_of_ble_eq_true rfl)) dX13_isText_103 ⟨Nat.le_of_ble_eq_true rfl, Nat.le_of_ble_eq_true rfl⟩) hS (fun q _ h => hFc q h) hFc ?_
        clear hS
        intro r_11 u t H1 locs ht hvm hw hB hz1 hk1 hS
        obtain ⟨⟩ := u
        obtain ⟨hP1, hK1, hD1⟩ := hB
        rw [ht] at hP1
        have hK1 := va_K.moved hvm.symm hK1
        try dsimp only at hw
        have hPD := va_join (wr := [(h0, .inr (13, z_1)), (qf103, .inl (cf103, 8, .inl f103)), (qf102, .inl (cf102, 2048, .inl f102))]) (w1 := [(qf112, .inl (cf112, 6000, .inl f112))]) hP hD [0] [1, 2, 3] rfl rfl (by decide) (by decide) hk1 hFc hP1 hD1
        clear hP hD
        obtain ⟨hP, hD⟩ := hPD
        replace hK := (hK.sub (tys' := [(cf103, .int), (cf102, .int)]) [1, 2] rfl).app hK1
        clear hPc hDc hKc hFc hP1 hK1 hD1 hz1 hk1 ht hvm
        generalize H1 = H at hP hS ⊢
        replace hP : va_P (dC, dI) vwCl [(h0, .inr (13, z_1)), (qf103, .inl (cf103, 8, .inl f103)), (qf102, .inl (cf102, 2048, .inl f102)), (qf112, .inl (cf112, 6000, .inl f112))] H := hP
        replace hD : va_D A [(h0, .inr (13, z_1)), (qf103, .inl (cf103, 8, .inl f103)), (qf102, .inl (cf102, 2048, .inl f102)), (qf112, .inl (cf112, 6000, .inl f112))] := hD
        replace hK : va_K (dC, dI) vwCl [(cf103, .int), (cf102, .int), (cf112, .int)] s := hK
        obtain ⟨rfl, hz_4⟩ := hw
        rcases hz_4 with rfl | rfl
        · rw [if_pos rfl] at hsp
          have hr0 := Option.some.inj hsp
          clear hsp
          subst hr0
          have hP9 := hP.sub (ws' := [(h0, .inr (13, z_1)), (qf103, .inl (cf103, 8, .inl f103)), (qf102, .inl (cf102, 2048, .inl f102)), (qf112, .inl (cf112, 6000, .inl f112))]) [0, 1, 2, 3] rfl
          have hD9 := hD.sub (ws' := [(h0, .inr (13, z_1)), (qf103, .inl (cf103, 8, .inl f103)), (qf102, .inl (cf102, 2048, .inl f102)), (qf112, .inl (cf112, 6000, .inl f112))]) [0, 1, 2, 3] (by decide) rfl
          have hK9 := hK.sub (tys' := [(cf103, .int), (cf102, .int), (cf112, .int)]) [0, 1, 2] rfl
          exact W.zret hx hb hr (by decide) (fun t ht hW => ⟨⟨(0), (z_1), rfl, ⟨⟨rfl, Or.inl rfl⟩, hln_1, hrq_1⟩, by rw [ht]; exact hP9, va_K.moved hW.alike hK9, hD9⟩, hS.F ht⟩) hS.2.2 dX13_isText_106
        · rw [if_neg (by decide)] at hsp
          have hr0 := Option.some.inj hsp
          clear hsp
          subst hr0
          have hP9 := hP.sub (ws' := [(h0, .inr (13, z_1)), (qf103, .inl (cf103, 8, .inl f103)), (qf102, .inl (cf102, 2048, .inl f102)), (qf112, .inl (cf112, 6000, .inl f112))]) [0, 1, 2, 3] rfl
          have hD9 := hD.sub (ws' := [(h0, .inr (13, z_1)), (qf103, .inl (cf103, 8, .inl f103)), (qf102, .inl (cf102, 2048, .inl f102)), (qf112, .inl (cf112, 6000, .inl f112))]) [0, 1, 2, 3] (by decide) rfl
          have hK9 := hK.sub (tys' := [(cf103, .int), (cf102, .int), (cf112, .int)]) [0, 1, 2] rfl
          exact W.zret hx hb hr (by decide) (fun t ht hW => ⟨⟨(1), (z_1), rfl, ⟨⟨rfl, Or.inr rfl⟩, hln_1, hrq_1⟩, by rw [ht]; exact hP9, va_K.moved hW.alike hK9, hD9⟩, hS.F ht⟩) hS.2.2 dX13_isText_106
      rw [if_neg hs_10] at hsp
      by_cases hs_12 : a2 = 3
      · rw [if_pos hs_12] at hsp
        refine lv_tableIn (tgt := 107) hx hb dX13_isText_37 (by rw [hs_12]; decide) (by rw [hs_12]; decide) (off := 70) (by rw [hs_12]; rfl) (by decide) ?_
        refine lv_aload_n hx hb dX13_isText_107 rfl (lv_at hl 2 rfl) ?_
        refine va_get (D := (dC, dI)) (ci := 13) (v := .ref qf112) (C := RX13) (T := TX13) (N := 155) hx hb hts uV_h9_X13 hown hK hP 1 rfl rfl 112 (by decide) (hts (.fieldLink RX13 245 "ClassMillModel" "look" "[I") mw_h9_242) (fun _ h9 => h9) hfk_1_112 dX13_isText_108 ?_
        refine lv_iload_n hx hb dX13_isText_111 rfl (lv_at hl 1 rfl) ?_
        refine lv_iconst (v := 2) hx hb dX13_isText_112 (by decide) ?_
        refine lv_iadd hx hb dX13_isText_113 ?_
        refine lv_iload hx hb dX13_isText_114 (lv_at hl 0 rfl) ?_
        obtain ⟨u5_0, hu_5, hsp⟩ := ox_bind hsp
        try dsimp only at hsp
        have hPc := hP.sub (ws' := [(qf112, .inl (cf112, 6000, .inl f112))]) [0] rfl
        have hDc := hD.sub (ws' := [(qf112, .inl (cf112, 6000, .inl f112))]) [0] (by decide) rfl
        have hKc := hK.sub (tys' := [(cf112, .int)]) [0] rfl
        have hFc := va_free (wc := [(qf112, .inl (cf112, 6000, .inl f112))]) hD hS hA [0] rfl
        refine va_calli (va_runS (As := [.ref qf112, .int (u1_0 + 2), .int (f112 ((u1_0 + 1) : Int32).toNatClampNeg)]) (rest := []) ⟨hx, hb, hml, hown, hts⟩ (vm_isFieldKind l dC dI H.size qf112 ((u1_0 + 2)) ((f112 ((u1_0 + 1) : Int32).toNatClampNeg)) cf112 6000 f112 nf u5_0 hu_5) (va_cwS 3 hts gv_h9_42 rfl rfl rfl (by decide +kernel) ⟨Nat.le_of_ble_eq_true rfl, Nat.le_of_ble_eq_true rfl⟩) ⟨fun a U g mk q => by obtain ⟨q0, q1, qP, qK, qD⟩ := q; exact ⟨q0, q1, qP, va_K.moved (u := U) (U := U.calling g mk a) (Vm.Alike.refl U.vm) qK, qD⟩, fun U hU hW => ⟨rfl, by rw [hU], by rw [hU]; exact hPc, va_K.moved hW.alike hKc, hDc.weaken (fun _ _ _ _ => trivial)⟩⟩ rfl rfl hl.1 rfl (lv_room (Nat.le_of_ble_eq_true rfl)) dX13_isText_116 ⟨Nat.le_of_ble_eq_true rfl, Nat.le_of_ble_eq_true rfl⟩) hS (fun q _ h => hFc q h) hFc ?_
        clear hS
        intro r_13 u t H1 locs ht hvm hw hB hz1 hk1 hS
        obtain ⟨⟩ := u
        obtain ⟨hP1, hK1, hD1⟩ := hB
        rw [ht] at hP1
        have hK1 := va_K.moved hvm.symm hK1
        try dsimp only at hw
        have hPD := va_join (wr := [(h0, .inr (13, z_1)), (qf103, .inl (cf103, 8, .inl f103)), (qf102, .inl (cf102, 2048, .inl f102))]) (w1 := [(qf112, .inl (cf112, 6000, .inl f112))]) hP hD [0] [1, 2, 3] rfl rfl (by decide) (by decide) hk1 hFc hP1 hD1
        clear hP hD
        obtain ⟨hP, hD⟩ := hPD
        replace hK := (hK.sub (tys' := [(cf103, .int), (cf102, .int)]) [1, 2] rfl).app hK1
        clear hPc hDc hKc hFc hP1 hK1 hD1 hz1 hk1 ht hvm
        generalize H1 = H at hP hS ⊢
        replace hP : va_P (dC, dI) vwCl [(h0, .inr (13, z_1)), (qf103, .inl (cf103, 8, .inl f103)), (qf102, .inl (cf102, 2048, .inl f102)), (qf112, .inl (cf112, 6000, .inl f112))] H := hP
        replace hD : va_D A [(h0, .inr (13, z_1)), (qf103, .inl (cf103, 8, .inl f103)), (qf102, .inl (cf102, 2048, .inl f102)), (qf112, .inl (cf112, 6000, .inl f112))] := hD
        replace hK : va_K (dC, dI) vwCl [(cf103, .int), (cf102, .int), (cf112, .int)] s := hK
        obtain ⟨rfl, hz_5⟩ := hw
        rcases hz_5 with rfl | rfl
        · rw [if_pos rfl] at hsp
          refine lv_if_ne (tgt := 137) hx hb dX13_isText_119 (by decide) (fun c_14 => (show False by revert c_14; decide).elim) (fun c_14 => ?_)
          refine lv_aload_n hx hb dX13_isText_122 rfl (lv_at hl 2 rfl) ?_
          refine va_get (D := (dC, dI)) (ci := 13) (v := .ref qf112) (C := RX13) (T := TX13) (N := 155) hx hb hts uV_h9_X13 hown hK hP 0 rfl rfl 112 (by decide) (hts (.fieldLink RX13 245 "ClassMillModel" "look" "[I") mw_h9_242) (fun _ h9 => h9) hfk_1_112 dX13_isText_123 ?_
          refine lv_iload_n hx hb dX13_isText_126 rfl (lv_at hl 1 rfl) ?_
          refine lv_iconst (v := 2) hx hb dX13_isText_127 (by decide) ?_
          refine lv_iadd hx hb dX13_isText_128 ?_
          refine lv_iload hx hb dX13_isText_129 (lv_at hl 0 rfl) ?_
          obtain ⟨u6_0, hu_6, hsp⟩ := ox_bind hsp
          try dsimp only at hsp
          have hPc := hP.sub (ws' := [(qf112, .inl (cf112, 6000, .inl f112))]) [3] rfl
          have hDc := hD.sub (ws' := [(qf112, .inl (cf112, 6000, .inl f112))]) [3] (by decide) rfl
          have hKc := hK.sub (tys' := [(cf112, .int)]) [2] rfl
          have hFc := va_free (wc := [(qf112, .inl (cf112, 6000, .inl f112))]) hD hS hA [3] rfl
          refine va_calli (va_runS (As := [.ref qf112, .int (u1_0 + 2), .int (f112 ((u1_0 + 1) : Int32).toNatClampNeg)]) (rest := []) ⟨hx, hb, hml, hown, hts⟩ (vm_isMethodKind l dC dI H.size qf112 ((u1_0 + 2)) ((f112 ((u1_0 + 1) : Int32).toNatClampNeg)) cf112 6000 f112 nf u6_0 hu_6) (va_cwS 3 hts gv_h9_45 rfl rfl rfl (by decide +kernel) ⟨Nat.le_of_ble_eq_true rfl, Nat.le_of_ble_eq_true rfl⟩) ⟨fun a U g mk q => by obtain ⟨q0, q1, qP, qK, qD⟩ := q; exact ⟨q0, q1, qP, va_K.moved (u := U) (U := U.calling g mk a) (Vm.Alike.refl U.vm) qK, qD⟩, fun U hU hW => ⟨rfl, by rw [hU], by rw [hU]; exact hPc, va_K.moved hW.alike hKc, hDc.weaken (fun _ _ _ _ => trivial)⟩⟩ rfl rfl hl.1 rfl (lv_room (Nat.le_of_ble_eq_true rfl)) dX13_isText_131 ⟨Nat.le_of_ble_eq_true rfl, Nat.le_of_ble_eq_true rfl⟩) hS (fun q _ h => hFc q h) hFc ?_
          clear hS
          intro r_15 u t H1 locs ht hvm hw hB hz1 hk1 hS
          obtain ⟨⟩ := u
          obtain ⟨hP1, hK1, hD1⟩ := hB
          rw [ht] at hP1
          have hK1 := va_K.moved hvm.symm hK1
          try dsimp only at hw
          have hPD := va_join (wr := [(h0, .inr (13, z_1)), (qf103, .inl (cf103, 8, .inl f103)), (qf102, .inl (cf102, 2048, .inl f102))]) (w1 := [(qf112, .inl (cf112, 6000, .inl f112))]) hP hD [3] [0, 1, 2] rfl rfl (by decide) (by decide) hk1 hFc hP1 hD1
          clear hP hD
          obtain ⟨hP, hD⟩ := hPD
          replace hK := (hK.sub (tys' := [(cf103, .int), (cf102, .int)]) [0, 1] rfl).app hK1
          clear hPc hDc hKc hFc hP1 hK1 hD1 hz1 hk1 ht hvm
          generalize H1 = H at hP hS ⊢
          replace hP : va_P (dC, dI) vwCl [(h0, .inr (13, z_1)), (qf103, .inl (cf103, 8, .inl f103)), (qf102, .inl (cf102, 2048, .inl f102)), (qf112, .inl (cf112, 6000, .inl f112))] H := hP
          replace hD : va_D A [(h0, .inr (13, z_1)), (qf103, .inl (cf103, 8, .inl f103)), (qf102, .inl (cf102, 2048, .inl f102)), (qf112, .inl (cf112, 6000, .inl f112))] := hD
          replace hK : va_K (dC, dI) vwCl [(cf103, .int), (cf102, .int), (cf112, .int)] s := hK
          obtain ⟨rfl, hz_6⟩ := hw
          rcases hz_6 with rfl | rfl
          · rw [if_pos rfl] at hsp
            refine lv_if_eq (tgt := 141) hx hb dX13_isText_134 (by decide) (fun c_16 => ?_) (fun c_16 => (show False by revert c_16; decide).elim)
            refine lv_iconst (v := 0) hx hb dX13_isText_141 (by decide) ?_
            have hr0 := Option.some.inj hsp
            clear hsp
            subst hr0
            have hP9 := hP.sub (ws' := [(h0, .inr (13, z_1)), (qf103, .inl (cf103, 8, .inl f103)), (qf102, .inl (cf102, 2048, .inl f102)), (qf112, .inl (cf112, 6000, .inl f112))]) [0, 1, 2, 3] rfl
            have hD9 := hD.sub (ws' := [(h0, .inr (13, z_1)), (qf103, .inl (cf103, 8, .inl f103)), (qf102, .inl (cf102, 2048, .inl f102)), (qf112, .inl (cf112, 6000, .inl f112))]) [0, 1, 2, 3] (by decide) rfl
            have hK9 := hK.sub (tys' := [(cf103, .int), (cf102, .int), (cf112, .int)]) [0, 1, 2] rfl
            exact W.zret hx hb hr (by decide) (fun t ht hW => ⟨⟨(0), (z_1), rfl, ⟨⟨rfl, Or.inl rfl⟩, hln_1, hrq_1⟩, by rw [ht]; exact hP9, va_K.moved hW.alike hK9, hD9⟩, hS.F ht⟩) hS.2.2 dX13_isText_142
          · rw [if_neg (by decide)] at hsp
            refine lv_if_eq (tgt := 141) hx hb dX13_isText_134 (by decide) (fun c_17 => (show False by revert c_17; decide).elim) (fun c_17 => ?_)
            refine lv_iconst (v := 1) hx hb dX13_isText_137 (by decide) ?_
            refine lv_goto (tgt := 142) hx hb dX13_isText_138 (by decide) ?_
            have hr0 := Option.some.inj hsp
            clear hsp
            subst hr0
            have hP9 := hP.sub (ws' := [(h0, .inr (13, z_1)), (qf103, .inl (cf103, 8, .inl f103)), (qf102, .inl (cf102, 2048, .inl f102)), (qf112, .inl (cf112, 6000, .inl f112))]) [0, 1, 2, 3] rfl
            have hD9 := hD.sub (ws' := [(h0, .inr (13, z_1)), (qf103, .inl (cf103, 8, .inl f103)), (qf102, .inl (cf102, 2048, .inl f102)), (qf112, .inl (cf112, 6000, .inl f112))]) [0, 1, 2, 3] (by decide) rfl
            have hK9 := hK.sub (tys' := [(cf103, .int), (cf102, .int), (cf112, .int)]) [0, 1, 2] rfl
            exact W.zret hx hb hr (by decide) (fun t ht hW => ⟨⟨(1), (z_1), rfl, ⟨⟨rfl, Or.inr rfl⟩, hln_1, hrq_1⟩, by rw [ht]; exact hP9, va_K.moved hW.alike hK9, hD9⟩, hS.F ht⟩) hS.2.2 dX13_isText_142
        · rw [if_neg (by decide)] at hsp
          refine lv_if_ne (tgt := 137) hx hb dX13_isText_119 (by decide) (fun c_18 => ?_) (fun c_18 => (show False by revert c_18; decide).elim)
          refine lv_iconst (v := 1) hx hb dX13_isText_137 (by decide) ?_
          refine lv_goto (tgt := 142) hx hb dX13_isText_138 (by decide) ?_
          have hr0 := Option.some.inj hsp
          clear hsp
          subst hr0
          have hP9 := hP.sub (ws' := [(h0, .inr (13, z_1)), (qf103, .inl (cf103, 8, .inl f103)), (qf102, .inl (cf102, 2048, .inl f102)), (qf112, .inl (cf112, 6000, .inl f112))]) [0, 1, 2, 3] rfl
          have hD9 := hD.sub (ws' := [(h0, .inr (13, z_1)), (qf103, .inl (cf103, 8, .inl f103)), (qf102, .inl (cf102, 2048, .inl f102)), (qf112, .inl (cf112, 6000, .inl f112))]) [0, 1, 2, 3] (by decide) rfl
          have hK9 := hK.sub (tys' := [(cf103, .int), (cf102, .int), (cf112, .int)]) [0, 1, 2] rfl
          exact W.zret hx hb hr (by decide) (fun t ht hW => ⟨⟨(1), (z_1), rfl, ⟨⟨rfl, Or.inr rfl⟩, hln_1, hrq_1⟩, by rw [ht]; exact hP9, va_K.moved hW.alike hK9, hD9⟩, hS.F ht⟩) hS.2.2 dX13_isText_142
      rw [if_neg hs_12] at hsp
      refine lv_tableOut (tgt := 143) hx hb dX13_isText_37 (by have a0 := lv_neT hs_6 (a := 0) rfl; have a1 := lv_neT hs_8 (a := 1) rfl; have a2 := lv_neT hs_10 (a := 2) rfl; have a3 := lv_neT hs_12 (a := 3) rfl; omega) (by decide) ?_
      refine lv_aload_n hx hb dX13_isText_143 rfl (lv_at hl 2 rfl) ?_
      refine va_get (D := (dC, dI)) (ci := 13) (v := .ref qf112) (C := RX13) (T := TX13) (N := 155) hx hb hts uV_h9_X13 hown hK hP 1 rfl rfl 112 (by decide) (hts (.fieldLink RX13 245 "ClassMillModel" "look" "[I") mw_h9_242) (fun _ h9 => h9) hfk_1_112 dX13_isText_144 ?_
      refine lv_iload_n hx hb dX13_isText_147 rfl (lv_at hl 1 rfl) ?_
      refine lv_iconst (v := 2) hx hb dX13_isText_148 (by decide) ?_
      refine lv_iadd hx hb dX13_isText_149 ?_
      refine lv_iload hx hb dX13_isText_150 (lv_at hl 0 rfl) ?_
      obtain ⟨u7_0, hu_7, hsp⟩ := ox_bind hsp
      try dsimp only at hsp
      have hPc := hP.sub (ws' := [(qf112, .inl (cf112, 6000, .inl f112))]) [0] rfl
      have hDc := hD.sub (ws' := [(qf112, .inl (cf112, 6000, .inl f112))]) [0] (by decide) rfl
      have hKc := hK.sub (tys' := [(cf112, .int)]) [0] rfl
      have hFc := va_free (wc := [(qf112, .inl (cf112, 6000, .inl f112))]) hD hS hA [0] rfl
      refine va_calli (va_runS (As := [.ref qf112, .int (u1_0 + 2), .int (f112 ((u1_0 + 1) : Int32).toNatClampNeg)]) (rest := []) ⟨hx, hb, hml, hown, hts⟩ (vm_isClassText l dC dI H.size qf112 ((u1_0 + 2)) ((f112 ((u1_0 + 1) : Int32).toNatClampNeg)) cf112 6000 f112 nf u7_0 hu_7) (va_cwS 3 hts gv_h9_46 rfl rfl rfl (by decide +kernel) ⟨Nat.le_of_ble_eq_true rfl, Nat.le_of_ble_eq_true rfl⟩) ⟨fun a U g mk q => by obtain ⟨q0, q1, qP, qK, qD⟩ := q; exact ⟨q0, q1, qP, va_K.moved (u := U) (U := U.calling g mk a) (Vm.Alike.refl U.vm) qK, qD⟩, fun U hU hW => ⟨rfl, by rw [hU], by rw [hU]; exact hPc, va_K.moved hW.alike hKc, hDc.weaken (fun _ _ _ _ => trivial)⟩⟩ rfl rfl hl.1 rfl (lv_room (Nat.le_of_ble_eq_true rfl)) dX13_isText_152 ⟨Nat.le_of_ble_eq_true rfl, Nat.le_of_ble_eq_true rfl⟩) hS (fun q _ h => hFc q h) hFc ?_
      clear hS
      intro r_19 u t H1 locs ht hvm hw hB hz1 hk1 hS
      obtain ⟨⟩ := u
      obtain ⟨hP1, hK1, hD1⟩ := hB
      rw [ht] at hP1
      have hK1 := va_K.moved hvm.symm hK1
      try dsimp only at hw
      have hPD := va_join (wr := [(h0, .inr (13, z_1)), (qf103, .inl (cf103, 8, .inl f103)), (qf102, .inl (cf102, 2048, .inl f102))]) (w1 := [(qf112, .inl (cf112, 6000, .inl f112))]) hP hD [0] [1, 2, 3] rfl rfl (by decide) (by decide) hk1 hFc hP1 hD1
      clear hP hD
      obtain ⟨hP, hD⟩ := hPD
      replace hK := (hK.sub (tys' := [(cf103, .int), (cf102, .int)]) [1, 2] rfl).app hK1
      clear hPc hDc hKc hFc hP1 hK1 hD1 hz1 hk1 ht hvm
      generalize H1 = H at hP hS ⊢
      replace hP : va_P (dC, dI) vwCl [(h0, .inr (13, z_1)), (qf103, .inl (cf103, 8, .inl f103)), (qf102, .inl (cf102, 2048, .inl f102)), (qf112, .inl (cf112, 6000, .inl f112))] H := hP
      replace hD : va_D A [(h0, .inr (13, z_1)), (qf103, .inl (cf103, 8, .inl f103)), (qf102, .inl (cf102, 2048, .inl f102)), (qf112, .inl (cf112, 6000, .inl f112))] := hD
      replace hK : va_K (dC, dI) vwCl [(cf103, .int), (cf102, .int), (cf112, .int)] s := hK
      obtain ⟨rfl, hz_7⟩ := hw
      rcases hz_7 with rfl | rfl
      · rw [if_pos rfl] at hsp
        have hr0 := Option.some.inj hsp
        clear hsp
        subst hr0
        have hP9 := hP.sub (ws' := [(h0, .inr (13, z_1)), (qf103, .inl (cf103, 8, .inl f103)), (qf102, .inl (cf102, 2048, .inl f102)), (qf112, .inl (cf112, 6000, .inl f112))]) [0, 1, 2, 3] rfl
        have hD9 := hD.sub (ws' := [(h0, .inr (13, z_1)), (qf103, .inl (cf103, 8, .inl f103)), (qf102, .inl (cf102, 2048, .inl f102)), (qf112, .inl (cf112, 6000, .inl f112))]) [0, 1, 2, 3] (by decide) rfl
        have hK9 := hK.sub (tys' := [(cf103, .int), (cf102, .int), (cf112, .int)]) [0, 1, 2] rfl
        exact W.zret hx hb hr (by decide) (fun t ht hW => ⟨⟨(0), (z_1), rfl, ⟨⟨rfl, Or.inl rfl⟩, hln_1, hrq_1⟩, by rw [ht]; exact hP9, va_K.moved hW.alike hK9, hD9⟩, hS.F ht⟩) hS.2.2 dX13_isText_155
      · rw [if_neg (by decide)] at hsp
        have hr0 := Option.some.inj hsp
        clear hsp
        subst hr0
        have hP9 := hP.sub (ws' := [(h0, .inr (13, z_1)), (qf103, .inl (cf103, 8, .inl f103)), (qf102, .inl (cf102, 2048, .inl f102)), (qf112, .inl (cf112, 6000, .inl f112))]) [0, 1, 2, 3] rfl
        have hD9 := hD.sub (ws' := [(h0, .inr (13, z_1)), (qf103, .inl (cf103, 8, .inl f103)), (qf102, .inl (cf102, 2048, .inl f102)), (qf112, .inl (cf112, 6000, .inl f112))]) [0, 1, 2, 3] (by decide) rfl
        have hK9 := hK.sub (tys' := [(cf103, .int), (cf102, .int), (cf112, .int)]) [0, 1, 2] rfl
        exact W.zret hx hb hr (by decide) (fun t ht hW => ⟨⟨(1), (z_1), rfl, ⟨⟨rfl, Or.inr rfl⟩, hln_1, hrq_1⟩, by rw [ht]; exact hP9, va_K.moved hW.alike hK9, hD9⟩, hS.F ht⟩) hS.2.2 dX13_isText_155
    · rw [if_neg c_4] at hsp
      refine lv_iconst (v := 0) hx hb dX13_isText_24 (by decide) ?_
      have hr0 := Option.some.inj hsp
      clear hsp
      subst hr0
      have hP9 := hP.sub (ws' := [(h0, .inr (13, z_1)), (qf103, .inl (cf103, 8, .inl f103)), (qf102, .inl (cf102, 2048, .inl f102)), (qf112, .inl (cf112, 6000, .inl f112))]) [1, 2, 3, 0] rfl
      have hD9 := hD.sub (ws' := [(h0, .inr (13, z_1)), (qf103, .inl (cf103, 8, .inl f103)), (qf102, .inl (cf102, 2048, .inl f102)), (qf112, .inl (cf112, 6000, .inl f112))]) [1, 2, 3, 0] (by decide) rfl
      have hK9 := hK.sub (tys' := [(cf103, .int), (cf102, .int), (cf112, .int)]) [1, 2, 0] rfl
      exact W.zret hx hb hr (by decide) (fun t ht hW => ⟨⟨(0), (z_1), rfl, ⟨⟨rfl, Or.inl rfl⟩, hln_1, hrq_1⟩, by rw [ht]; exact hP9, va_K.moved hW.alike hK9, hD9⟩, hS.F ht⟩) hS.2.2 dX13_isText_25
def jn_vm_scanConstant_132 (nf : Nat) (a1 : Int32) (v113 : Int32) (v114 : Int32) (f112 : Nat → Int32) (kk_77 : Int32 → Int32 → Int32 → Int32 → Option (Int32 × Int32)) (l1_132 : Int32) (l2_132 : Int32) (l3_132 : Int32) (x114_132 : Int32) : Option (Int32 × Int32) := ((sp_tm_unfit nf ((l1_132 + 2) + l3_132) x114_132).bind (fun p1 => (kk_77 l1_132 l2_132 (l3_132 + 1) p1)))
def lp_vm_scanConstant_77 (nf n : Nat) (a1 : Int32) (v113 : Int32) (v114 : Int32) (f112 : Nat → Int32)  (l1_77 : Int32) (l2_77 : Int32) (l3_77 : Int32) (x114_77 : Int32) : Option (Int32 × Int32) := match n with
  | 0 => none
  | n + 1 => (if l2_77 ≤ l3_77 then (some (((l1_77 + 2) + l2_77), x114_77)) else (if x114_77 = (-1) then ((sp_tm_isByte nf ((l1_77 + 2) + l3_77) v113 x114_77).bind (fun p1 => (if p1.1 = 0 then (lp_vm_scanConstant_77 nf n a1 v113 v114 f112 l1_77 l2_77 (l3_77 + 1) p1.2) else (if ((l1_77 + 2) + l3_77) < 0 then none else if 6000 ≤ (((l1_77 + 2) + l3_77) : Int32).toNatClampNeg then none else (if (f112 (((l1_77 + 2) + l3_77) : Int32).toNatClampNeg) < 33 then (jn_vm_scanConstant_132 nf a1 v113 v114 f112 (lp_vm_scanConstant_77 nf n a1 v113 v114 f112) l1_77 l2_77 l3_77 p1.2) else (if ((l1_77 + 2) + l3_77) < 0 then none else if 6000 ≤ (((l1_77 + 2) + l3_77) : Int32).toNatClampNeg then none else (if (f112 (((l1_77 + 2) + l3_77) : Int32).toNatClampNeg) ≤ 126 then (lp_vm_scanConstant_77 nf n a1 v113 v114 f112 l1_77 l2_77 (l3_77 + 1) p1.2) else (jn_vm_scanConstant_132 nf a1 v113 v114 f112 (lp_vm_scanConstant_77 nf n a1 v113 v114 f112) l1_77 l2_77 l3_77 p1.2)))))))) else (some (((l1_77 + 2) + l2_77), x114_77))))
def jn_vm_scanConstant_75 (nf : Nat) (a1 : Int32) (v113 : Int32) (v114 : Int32) (f112 : Nat → Int32)  (l1_75 : Int32) (l2_75 : Int32) (x114_75 : Int32) : Option (Int32 × Int32) := (lp_vm_scanConstant_77 nf nf a1 v113 v114 f112  l1_75 l2_75 0 x114_75)
def jn_vm_scanConstant_68 (nf : Nat) (a1 : Int32) (v113 : Int32) (v114 : Int32) (f112 : Nat → Int32)  (l1_68 : Int32) (l2_68 : Int32) (x114_68 : Int32) : Option (Int32 × Int32) := ((sp_tm_unfit nf (l1_68 + 1) x114_68).bind (fun p1 => (jn_vm_scanConstant_75 nf a1 v113 v114 f112  l1_68 l2_68 p1)))
def sp_vm_scanConstant (nf : Nat) (a1 : Int32) (v113 : Int32) (v114 : Int32) (f112 : Nat → Int32) : Option (Int32 × Int32) := (if a1 < 0 then none else if 6000 ≤ (a1 : Int32).toNatClampNeg then none else (if (f112 (a1 : Int32).toNatClampNeg) = 1 then ((sp_tm_isByte nf (a1 + 1) v113 v114).bind (fun p1 => (if p1.1 = 0 then (some (a1, p1.2)) else (if (a1 + 1) < 0 then none else if 6000 ≤ ((a1 + 1) : Int32).toNatClampNeg then none else (if (f112 ((a1 + 1) : Int32).toNatClampNeg) < 1 then (jn_vm_scanConstant_68 nf a1 v113 v114 f112  a1 (f112 ((a1 + 1) : Int32).toNatClampNeg) p1.2) else (if (f112 ((a1 + 1) : Int32).toNatClampNeg) ≤ 120 then (jn_vm_scanConstant_75 nf a1 v113 v114 f112  a1 (f112 ((a1 + 1) : Int32).toNatClampNeg) p1.2) else (jn_vm_scanConstant_68 nf a1 v113 v114 f112  a1 (f112 ((a1 + 1) : Int32).toNatClampNeg) p1.2))))))) else (if (f112 (a1 : Int32).toNatClampNeg) = 2 then ((sp_tm_isByte nf (a1 + 4) v113 v114).bind (fun p2 => (if p2.1 = 0 then (some ((a1 + 5), p2.2)) else (some ((a1 + 5), p2.2))))) else (if (f112 (a1 : Int32).toNatClampNeg) = 3 then ((sp_tm_isByte nf (a1 + 1) v113 v114).bind (fun p3 => (if p3.1 = 0 then (some ((a1 + 2), p3.2)) else (some ((a1 + 2), p3.2))))) else (if (f112 (a1 : Int32).toNatClampNeg) = 4 then ((sp_tm_isByte nf (a1 + 3) v113 v114).bind (fun p4 => (if p4.1 = 0 then (some ((a1 + 4), p4.2)) else (some ((a1 + 4), p4.2))))) else ((sp_tm_unfit nf a1 v114).bind (fun p5 => (some (a1, p5)))))))))
