set_option maxHeartbeats 4000000 in
set_option maxRecDepth 100000 in
/-- ClassMill$Heads.tokenOfMethod -/
theorem t2_tokenOfMethod (l : Launch) (dC : Nat → ClassId) (dI : Nat → Nat → Nat) (sz : Nat) (h0 : Nat) (a1 : Int32) (qf0 : Nat) (qf1 : Nat) (v2 : Int32) (qf3 : Nat) (qf4 : Nat) (qf5 : Nat) (qf6 : Nat) (qf7 : Nat) (qf8 : Nat) (qf9 : Nat) (qf10 : Nat) (qf11 : Nat) (qf12 : Nat) (qf13 : Nat) (qf14 : Nat) (qf15 : Nat) (qf16 : Nat) (qf17 : Nat) (qf18 : Nat) (qf19 : Nat) (v20 : Int32) (cf10 : ClassId) (f10 : (Nat → Int32)) (cf9 : ClassId) (f9 : (Nat → Int32)) (nf : Nat) (r0 : Int32) (hsp : sp_t2_tokenOfMethod nf a1 f10 f9 = some r0) : Met l yX2_tokenOfMethod (.code yX2_tokenOfMethod cX2_tokenOfMethod 2 (some .int) :: VS_h4) ({ frames := 1, cells := 0, slots := 0, locals := 21 }) (va_Pc [.ref h0, .int a1] (fun U => U.heap.size = sz ∧ va_P (dC, dI) vwCl [(h0, .inr (2, [.ref qf0, .ref qf1, .int v2, .ref qf3, .ref qf4, .ref qf5, .ref qf6, .ref qf7, .ref qf8, .ref qf9, .ref qf10, .ref qf11, .ref qf12, .ref qf13, .ref qf14, .ref qf15, .ref qf16, .ref qf17, .ref qf18, .ref qf19, .int v20])), (qf10, .inl (cf10, 96, .inl f10)), (qf9, .inl (cf9, 8, .inl f9))] U.heap ∧ va_K (dC, dI) vwCl [(cf10, .int), (cf9, .int)] U ∧ va_D (fun _ => True) [(h0, .inr (2, [.ref qf0, .ref qf1, .int v2, .ref qf3, .ref qf4, .ref qf5, .ref qf6, .ref qf7, .ref qf8, .ref qf9, .ref qf10, .ref qf11, .ref qf12, .ref qf13, .ref qf14, .ref qf15, .ref qf16, .ref qf17, .ref qf18, .ref qf19, .int v20])), (qf10, .inl (cf10, 96, .inl f10)), (qf9, .inl (cf9, 8, .inl f9))])) (va_Qi (fun (r : Int32) (u : Unit) => match u with | () => r0 = r) (fun (u : Unit) (t : State) => match u with | () => va_P (dC, dI) vwCl [(h0, .inr (2, [.ref qf0, .ref qf1, .int v2, .ref qf3, .ref qf4, .ref qf5, .ref qf6, .ref qf7, .ref qf8, .ref qf9, .ref qf10, .ref qf11, .ref qf12, .ref qf13, .ref qf14, .ref qf15, .ref qf16, .ref qf17, .ref qf18, .ref qf19, .int v20])), (qf10, .inl (cf10, 96, .inl f10)), (qf9, .inl (cf9, 8, .inl f9))] t.heap ∧ va_K (dC, dI) vwCl [(cf10, .int), (cf9, .int)] t ∧ va_D (va_A [(h0, .inr (2, [.ref qf0, .ref qf1, .int v2, .ref qf3, .ref qf4, .ref qf5, .ref qf6, .ref qf7, .ref qf8, .ref qf9, .ref qf10, .ref qf11, .ref qf12, .ref qf13, .ref qf14, .ref qf15, .ref qf16, .ref qf17, .ref qf18, .ref qf19, .int v20])), (qf10, .inl (cf10, 96, .inl f10)), (qf9, .inl (cf9, 8, .inl f9))] sz) [(h0, .inr (2, [.ref qf0, .ref qf1, .int v2, .ref qf3, .ref qf4, .ref qf5, .ref qf6, .ref qf7, .ref qf8, .ref qf9, .ref qf10, .ref qf11, .ref qf12, .ref qf13, .ref qf14, .ref qf15, .ref qf16, .ref qf17, .ref qf18, .ref qf19, .int v20])), (qf10, .inl (cf10, 96, .inl f10)), (qf9, .inl (cf9, 8, .inl f9))]) (va_A [(h0, .inr (2, [.ref qf0, .ref qf1, .int v2, .ref qf3, .ref qf4, .ref qf5, .ref qf6, .ref qf7, .ref qf8, .ref qf9, .ref qf10, .ref qf11, .ref qf12, .ref qf13, .ref qf14, .ref qf15, .ref qf16, .ref qf17, .ref qf18, .ref qf19, .int v20])), (qf10, .inl (cf10, 96, .inl f10)), (qf9, .inl (cf9, 8, .inl f9))] sz)) 0 0 (va_A [(h0, .inr (2, [.ref qf0, .ref qf1, .int v2, .ref qf3, .ref qf4, .ref qf5, .ref qf6, .ref qf7, .ref qf8, .ref qf9, .ref qf10, .ref qf11, .ref qf12, .ref qf13, .ref qf14, .ref qf15, .ref qf16, .ref qf17, .ref qf18, .ref qf19, .int v20])), (qf10, .inl (cf10, 96, .inl f10)), (qf9, .inl (cf9, 8, .inl f9))] sz) := by
  refine Met.ofW (cc := cX2_tokenOfMethod) (maxL := 2) (ret := (some .int)) (by decide) rfl ?_
  intro p e s m args below meth c s₁ B hml hv
  obtain ⟨rfl, hsz, hP, hK, hD0⟩ := hv
  have hx := B.exec
  have hb := B.bytes
  have hr := B.returns
  have hts := atoms_spec (ws := (.code yX2_tokenOfMethod cX2_tokenOfMethod 2 (some .int) :: VS_h4)) B.pre
  replace hts := fun w (h : w ∈ VS_h4) => hts w (List.mem_cons_of_mem _ h)
  have hown : s.vm.findClass RX2 = some m.cls := findClass_of_methodNamed B.named
  have hlocks := B.notSynchronized
  subst hsz
  have hD := hD0.self (sz := s.heap.size)
  generalize hAe : va_A [(h0, .inr (2, [.ref qf0, .ref qf1, .int v2, .ref qf3, .ref qf4, .ref qf5, .ref qf6, .ref qf7, .ref qf8, .ref qf9, .ref qf10, .ref qf11, .ref qf12, .ref qf13, .ref qf14, .ref qf15, .ref qf16, .ref qf17, .ref qf18, .ref qf19, .int v20])), (qf10, .inl (cf10, 96, .inl f10)), (qf9, .inl (cf9, 8, .inl f9))] s.heap.size = A at hD  ⊢
  have hA : ∀ q : Nat, s.heap.size ≤ q → A q := fun q h => by rw [← hAe]; exact Or.inr h
  have hP : va_P (dC, dI) vwCl [(h0, .inr (2, [.ref qf0, .ref qf1, .int v2, .ref qf3, .ref qf4, .ref qf5, .ref qf6, .ref qf7, .ref qf8, .ref qf9, .ref qf10, .ref qf11, .ref qf12, .ref qf13, .ref qf14, .ref qf15, .ref qf16, .ref qf17, .ref qf18, .ref qf19, .int v20])), (qf10, .inl (cf10, 96, .inl f10)), (qf9, .inl (cf9, 8, .inl f9))] s.heap := hP
  have hl := lv_entry ([.ref h0, .int a1]) (n := 2) (Nat.le_of_ble_eq_true rfl)
  rw [lg_entry_eq]
  generalize (lg_sl ([.ref h0, .int a1]) ++ List.replicate (2 - (lg_sl ([.ref h0, .int a1])).length) Slot.unset).toArray = ls at hl ⊢
  have hl : lv_has ls 2 [(0, .ref h0), (1, .int a1)] := hl
  obtain ⟨H, hH⟩ : ∃ H : Heap, s.heap = H := ⟨_, rfl⟩
  rw [hH] at hP ⊢
  have hS : va_S A s.heap H [] := by rw [← hH]; exact va_S.rf
  obtain ⟨locs, hlo⟩ : ∃ locs : List Loc, locs = [] := ⟨_, rfl⟩
  rw [← hlo] at hS ⊢
  unfold sp_t2_tokenOfMethod at hsp
  refine lv_aload_n hx hb dX2_tokenOfMethod_0 rfl (lv_at hl 0 rfl) ?_
  refine lv_iload_n hx hb dX2_tokenOfMethod_1 rfl (lv_at hl 1 rfl) ?_
  obtain ⟨u1_0, hu_1, hsp⟩ := ox_bind hsp
  try dsimp only at hsp
  have hPc := hP.sub (ws' := [(h0, .inr (2, [.ref qf0, .ref qf1, .int v2, .ref qf3, .ref qf4, .ref qf5, .ref qf6, .ref qf7, .ref qf8, .ref qf9, .ref qf10, .ref qf11, .ref qf12, .ref qf13, .ref qf14, .ref qf15, .ref qf16, .ref qf17, .ref qf18, .ref qf19, .int v20])), (qf10, .inl (cf10, 96, .inl f10)), (qf9, .inl (cf9, 8, .inl f9))]) [0, 1, 2] rfl
  have hDc := hD.sub (ws' := [(h0, .inr (2, [.ref qf0, .ref qf1, .int v2, .ref qf3, .ref qf4, .ref qf5, .ref qf6, .ref qf7, .ref qf8, .ref qf9, .ref qf10, .ref qf11, .ref qf12, .ref qf13, .ref qf14, .ref qf15, .ref qf16, .ref qf17, .ref qf18, .ref qf19, .int v20])), (qf10, .inl (cf10, 96, .inl f10)), (qf9, .inl (cf9, 8, .inl f9))]) [0, 1, 2] (by decide) rfl
  have hKc := hK.sub (tys' := [(cf10, .int), (cf9, .int)]) [0, 1] rfl
  have hFc := va_free (wc := [(h0, .inr (2, [.ref qf0, .ref qf1, .int v2, .ref qf3, .ref qf4, .ref qf5, .ref qf6, .ref qf7, .ref qf8, .ref qf9, .ref qf10, .ref qf11, .ref qf12, .ref qf13, .ref qf14, .ref qf15, .ref qf16, .ref qf17, .ref qf18, .ref qf19, .int v20])), (qf10, .inl (cf10, 96, .inl f10)), (qf9, .inl (cf9, 8, .inl f9))]) hD hS hA [0, 1, 2] rfl
  refine va_calli (va_runV (As := [.int a1]) (rest := []) ⟨hx, hb, hml, hown, hts⟩ (t2_isMethod l dC dI H.size h0 a1 qf0 qf1 v2 qf3 qf4 qf5 qf6 qf7 qf8 qf9 qf10 qf11 qf12 qf13 qf14 qf15 qf16 qf17 qf18 qf19 v20 cf10 f10 cf9 f9 nf u1_0 hu_1) (cwV 1 hts gv_h4_39 rfl rfl rfl (by decide +kernel) ⟨Nat.le_of_ble_eq_true rfl, Nat.le_of_ble_eq_true rfl⟩) ⟨fun a U g mk q => by obtain ⟨q0, q1, qP, qK, qD⟩ := q; exact ⟨q0, q1, qP, va_K.moved (u := U) (U := U.calling g mk a) (Vm.Alike.refl U.vm) qK, qD⟩, va_recv hKc hPc (ci := 2) (q0 := 0) rfl rfl, fun U hU hW => ⟨rfl, by rw [hU], by rw [hU]; exact hPc, va_K.moved hW.alike hKc, hDc.weaken (fun _ _ _ _ => trivial)⟩⟩ rfl rfl hl.1 rfl (lv_room (Nat.le_of_ble_eq_true rfl)) dX2_tokenOfMethod_2 ⟨Nat.le_of_ble_eq_true rfl, Nat.le_of_ble_eq_true rfl⟩) hS (fun q _ h => hFc q h) hFc ?_
  clear hS
  intro r_1 u t H1 locs ht hvm hw hB hz1 hk1 hS
  obtain ⟨⟩ := u
  obtain ⟨hP1, hK1, hD1⟩ := hB
  rw [ht] at hP1
  have hK1 := va_K.moved hvm.symm hK1
  try dsimp only at hw
  have hPD := va_join (wr := []) (w1 := [(h0, .inr (2, [.ref qf0, .ref qf1, .int v2, .ref qf3, .ref qf4, .ref qf5, .ref qf6, .ref qf7, .ref qf8, .ref qf9, .ref qf10, .ref qf11, .ref qf12, .ref qf13, .ref qf14, .ref qf15, .ref qf16, .ref qf17, .ref qf18, .ref qf19, .int v20])), (qf10, .inl (cf10, 96, .inl f10)), (qf9, .inl (cf9, 8, .inl f9))]) hP hD [0, 1, 2] [] rfl rfl (by decide) (by decide) hk1 hFc hP1 hD1
  clear hP hD
  obtain ⟨hP, hD⟩ := hPD
  replace hK := (hK.sub (tys' := []) [] rfl).app hK1
  clear hPc hDc hKc hFc hP1 hK1 hD1 hz1 hk1 ht hvm
  generalize H1 = H at hP hS ⊢
  replace hP : va_P (dC, dI) vwCl [(h0, .inr (2, [.ref qf0, .ref qf1, .int v2, .ref qf3, .ref qf4, .ref qf5, .ref qf6, .ref qf7, .ref qf8, .ref qf9, .ref qf10, .ref qf11, .ref qf12, .ref qf13, .ref qf14, .ref qf15, .ref qf16, .ref qf17, .ref qf18, .ref qf19, .int v20])), (qf10, .inl (cf10, 96, .inl f10)), (qf9, .inl (cf9, 8, .inl f9))] H := hP
  replace hD : va_D A [(h0, .inr (2, [.ref qf0, .ref qf1, .int v2, .ref qf3, .ref qf4, .ref qf5, .ref qf6, .ref qf7, .ref qf8, .ref qf9, .ref qf10, .ref qf11, .ref qf12, .ref qf13, .ref qf14, .ref qf15, .ref qf16, .ref qf17, .ref qf18, .ref qf19, .int v20])), (qf10, .inl (cf10, 96, .inl f10)), (qf9, .inl (cf9, 8, .inl f9))] := hD
  replace hK : va_K (dC, dI) vwCl [(cf10, .int), (cf9, .int)] s := hK
  obtain ⟨rfl, hz_1⟩ := hw
  rcases hz_1 with rfl | rfl
  · rw [if_pos rfl] at hsp
    refine lv_if_eq (tgt := 17) hx hb dX2_tokenOfMethod_5 (by decide) (fun c_2 => ?_) (fun c_2 => (show False by revert c_2; decide).elim)
    refine lv_iconst (v := (-1)) hx hb dX2_tokenOfMethod_17 (by decide) ?_
    have hr0 := Option.some.inj hsp
    clear hsp
    subst hr0
    have hP9 := hP.sub (ws' := [(h0, .inr (2, [.ref qf0, .ref qf1, .int v2, .ref qf3, .ref qf4, .ref qf5, .ref qf6, .ref qf7, .ref qf8, .ref qf9, .ref qf10, .ref qf11, .ref qf12, .ref qf13, .ref qf14, .ref qf15, .ref qf16, .ref qf17, .ref qf18, .ref qf19, .int v20])), (qf10, .inl (cf10, 96, .inl f10)), (qf9, .inl (cf9, 8, .inl f9))]) [0, 1, 2] rfl
    have hD9 := hD.sub (ws' := [(h0, .inr (2, [.ref qf0, .ref qf1, .int v2, .ref qf3, .ref qf4, .ref qf5, .ref qf6, .ref qf7, .ref qf8, .ref qf9, .ref qf10, .ref qf11, .ref qf12, .ref qf13, .ref qf14, .ref qf15, .ref qf16, .ref qf17, .ref qf18, .ref qf19, .int v20])), (qf10, .inl (cf10, 96, .inl f10)), (qf9, .inl (cf9, 8, .inl f9))]) [0, 1, 2] (by decide) rfl
    have hK9 := hK.sub (tys' := [(cf10, .int), (cf9, .int)]) [0, 1] rfl
    exact W.iret hx hb hr (fun t ht hW => ⟨⟨((-1)), (), rfl, rfl, by rw [ht]; exact hP9, va_K.moved hW.alike hK9, hD9⟩, hS.F ht⟩) hS.2.2 dX2_tokenOfMethod_18
  · rw [if_neg (by decide)] at hsp
    refine lv_if_eq (tgt := 17) hx hb dX2_tokenOfMethod_5 (by decide) (fun c_3 => (show False by revert c_3; decide).elim) (fun c_3 => ?_)
    refine lv_aload_n hx hb dX2_tokenOfMethod_8 rfl (lv_at hl 0 rfl) ?_
    refine va_get (D := (dC, dI)) (ci := 2) (v := .ref qf10) (C := RX2) (T := TX2) (N := 21) hx hb hts uV_h4_X2 hown hK hP 0 rfl rfl 10 (by decide) (hts (.fieldLink RX2 42 "ClassMill$Heads" "methodAt" "[I") mw_h4_180) (fun _ h9 => h9) rfl dX2_tokenOfMethod_9 ?_
    refine lv_iload_n hx hb dX2_tokenOfMethod_12 rfl (lv_at hl 1 rfl) ?_
    obtain ⟨hi_4, hsp⟩ := ox_in hsp
    refine va_iald hx hb hK hP 1 0 rfl rfl (i := a1) hi_4 dX2_tokenOfMethod_13 ?_
    refine lv_goto (tgt := 18) hx hb dX2_tokenOfMethod_14 (by decide) ?_
    have hr0 := Option.some.inj hsp
    clear hsp
    subst hr0
    have hP9 := hP.sub (ws' := [(h0, .inr (2, [.ref qf0, .ref qf1, .int v2, .ref qf3, .ref qf4, .ref qf5, .ref qf6, .ref qf7, .ref qf8, .ref qf9, .ref qf10, .ref qf11, .ref qf12, .ref qf13, .ref qf14, .ref qf15, .ref qf16, .ref qf17, .ref qf18, .ref qf19, .int v20])), (qf10, .inl (cf10, 96, .inl f10)), (qf9, .inl (cf9, 8, .inl f9))]) [0, 1, 2] rfl
    have hD9 := hD.sub (ws' := [(h0, .inr (2, [.ref qf0, .ref qf1, .int v2, .ref qf3, .ref qf4, .ref qf5, .ref qf6, .ref qf7, .ref qf8, .ref qf9, .ref qf10, .ref qf11, .ref qf12, .ref qf13, .ref qf14, .ref qf15, .ref qf16, .ref qf17, .ref qf18, .ref qf19, .int v20])), (qf10, .inl (cf10, 96, .inl f10)), (qf9, .inl (cf9, 8, .inl f9))]) [0, 1, 2] (by decide) rfl
    have hK9 := hK.sub (tys' := [(cf10, .int), (cf9, .int)]) [0, 1] rfl
    exact W.iret hx hb hr (fun t ht hW => ⟨⟨((f10 (a1 : Int32).toNatClampNeg)), (), rfl, rfl, by rw [ht]; exact hP9, va_K.moved hW.alike hK9, hD9⟩, hS.F ht⟩) hS.2.2 dX2_tokenOfMethod_18
def sp_t2_bodyOf (nf : Nat) (a1 : Int32) (f9 : Nat → Int32) (f11 : Nat → Int32) : Option (Int32) := ((sp_t2_isMethod nf a1 f9).bind (fun p1 => (if p1 = 0 then (some (-1)) else (if a1 < 0 then none else if 96 ≤ (a1 : Int32).toNatClampNeg then none else (some (f11 (a1 : Int32).toNatClampNeg))))))
set_option maxHeartbeats 4000000 in
set_option maxRecDepth 100000 in
/-- ClassMill$Heads.bodyOf -/
theorem t2_bodyOf (l : Launch) (dC : Nat → ClassId) (dI : Nat → Nat → Nat) (sz : Nat) (h0 : Nat) (a1 : Int32) (qf0 : Nat) (qf1 : Nat) (v2 : Int32) (qf3 : Nat) (qf4 : Nat) (qf5 : Nat) (qf6 : Nat) (qf7 : Nat) (qf8 : Nat) (qf9 : Nat) (qf10 : Nat) (qf11 : Nat) (qf12 : Nat) (qf13 : Nat) (qf14 : Nat) (qf15 : Nat) (qf16 : Nat) (qf17 : Nat) (qf18 : Nat) (qf19 : Nat) (v20 : Int32) (cf10 : ClassId) (f10 : (Nat → Int32)) (cf9 : ClassId) (f9 : (Nat → Int32)) (cf11 : ClassId) (f11 : (Nat → Int32)) (nf : Nat) (r0 : Int32) (hsp : sp_t2_bodyOf nf a1 f9 f11 = some r0) : Met l yX2_bodyOf (.code yX2_bodyOf cX2_bodyOf 2 (some .int) :: VS_h4) ({ frames := 1, cells := 0, slots := 0, locals := 21 }) (va_Pc [.ref h0, .int a1] (fun U => U.heap.size = sz ∧ va_P (dC, dI) vwCl [(h0, .inr (2, [.ref qf0, .ref qf1, .int v2, .ref qf3, .ref qf4, .ref qf5, .ref qf6, .ref qf7, .ref qf8, .ref qf9, .ref qf10, .ref qf11, .ref qf12, .ref qf13, .ref qf14, .ref qf15, .ref qf16, .ref qf17, .ref qf18, .ref qf19, .int v20])), (qf10, .inl (cf10, 96, .inl f10)), (qf9, .inl (cf9, 8, .inl f9)), (qf11, .inl (cf11, 96, .inl f11))] U.heap ∧ va_K (dC, dI) vwCl [(cf10, .int), (cf9, .int), (cf11, .int)] U ∧ va_D (fun _ => True) [(h0, .inr (2, [.ref qf0, .ref qf1, .int v2, .ref qf3, .ref qf4, .ref qf5, .ref qf6, .ref qf7, .ref qf8, .ref qf9, .ref qf10, .ref qf11, .ref qf12, .ref qf13, .ref qf14, .ref qf15, .ref qf16, .ref qf17, .ref qf18, .ref qf19, .int v20])), (qf10, .inl (cf10, 96, .inl f10)), (qf9, .inl (cf9, 8, .inl f9)), (qf11, .inl (cf11, 96, .inl f11))])) (va_Qi (fun (r : Int32) (u : Unit) => match u with | () => r0 = r) (fun (u : Unit) (t : State) => match u with | () => va_P (dC, dI) vwCl [(h0, .inr (2, [.ref qf0, .ref qf1, .int v2, .ref qf3, .ref qf4, .ref qf5, .ref qf6, .ref qf7, .ref qf8, .ref qf9, .ref qf10, .ref qf11, .ref qf12, .ref qf13, .ref qf14, .ref qf15, .ref qf16, .ref qf17, .ref qf18, .ref qf19, .int v20])), (qf10, .inl (cf10, 96, .inl f10)), (qf9, .inl (cf9, 8, .inl f9)), (qf11, .inl (cf11, 96, .inl f11))] t.heap ∧ va_K (dC, dI) vwCl [(cf10, .int), (cf9, .int), (cf11, .int)] t ∧ va_D (va_A [(h0, .inr (2, [.ref qf0, .ref qf1, .int v2, .ref qf3, .ref qf4, .ref qf5, .ref qf6, .ref qf7, .ref qf8, .ref qf9, .ref qf10, .ref qf11, .ref qf12, .ref qf13, .ref qf14, .ref qf15, .ref qf16, .ref qf17, .ref qf18, .ref qf19, .int v20])), (qf10, .inl (cf10, 96, .inl f10)), (qf9, .inl (cf9, 8, .inl f9)), (qf11, .inl (cf11, 96, .inl f11))] sz) [(h0, .inr (2, [.ref qf0, .ref qf1, .int v2, .ref qf3, .ref qf4, .ref qf5, .ref qf6, .ref qf7, .ref qf8, .ref qf9, .ref qf10, .ref qf11, .ref qf12, .ref qf13, .ref qf14, .ref qf15, .ref qf16, .ref qf17, .ref qf18, .ref qf19, .int v20])), (qf10, .inl (cf10, 96, .inl f10)), (qf9, .inl (cf9, 8, .inl f9)), (qf11, .inl (cf11, 96, .inl f11))]) (va_A [(h0, .inr (2, [.ref qf0, .ref qf1, .int v2, .ref qf3, .ref qf4, .ref qf5, .ref qf6, .ref qf7, .ref qf8, .ref qf9, .ref qf10, .ref qf11, .ref qf12, .ref qf13, .ref qf14, .ref qf15, .ref qf16, .ref qf17, .ref qf18, .ref qf19, .int v20])), (qf10, .inl (cf10, 96, .inl f10)), (qf9, .inl (cf9, 8, .inl f9)), (qf11, .inl (cf11, 96, .inl f11))] sz)) 0 0 (va_A [(h0, .inr (2, [.ref qf0, .ref qf1, .int v2, .ref qf3, .ref qf4, .ref qf5, .ref qf6, .ref qf7, .ref qf8, .ref qf9, .ref qf10, .ref qf11, .ref qf12, .ref qf13, .ref qf14, .ref qf15, .ref qf16, .ref qf17, .ref qf18, .ref qf19, .int v20])), (qf10, .inl (cf10, 96, .inl f10)), (qf9, .inl (cf9, 8, .inl f9)), (qf11, .inl (cf11, 96, .inl f11))] sz) := by
  refine Met.ofW (cc := cX2_bodyOf) (maxL := 2) (ret := (some .int)) (by decide) rfl ?_
  intro p e s m args below meth c s₁ B hml hv
  obtain ⟨rfl, hsz, hP, hK, hD0⟩ := hv
  have hx := B.exec
  have hb := B.bytes
  have hr := B.returns
  have hts := atoms_spec (ws := (.code yX2_bodyOf cX2_bodyOf 2 (some .int) :: VS_h4)) B.pre
  replace hts := fun w (h : w ∈ VS_h4) => hts w (List.mem_cons_of_mem _ h)
  have hown : s.vm.findClass RX2 = some m.cls := findClass_of_methodNamed B.named
  have hlocks := B.notSynchronized
  subst hsz
  have hD := hD0.self (sz := s.heap.size)
  generalize hAe : va_A [(h0, .inr (2, [.ref qf0, .ref qf1, .int v2, .ref qf3, .ref qf4, .ref qf5, .ref qf6, .ref qf7, .ref qf8, .ref qf9, .ref qf10, .ref qf11, .ref qf12, .ref qf13, .ref qf14, .ref qf15, .ref qf16, .ref qf17, .ref qf18, .ref qf19, .int v20])), (qf10, .inl (cf10, 96, .inl f10)), (qf9, .inl (cf9, 8, .inl f9)), (qf11, .inl (cf11, 96, .inl f11))] s.heap.size = A at hD  ⊢
  have hA : ∀ q : Nat, s.heap.size ≤ q → A q := fun q h => by rw [← hAe]; exact Or.inr h
  have hP : va_P (dC, dI) vwCl [(h0, .inr (2, [.ref qf0, .ref qf1, .int v2, .ref qf3, .ref qf4, .ref qf5, .ref qf6, .ref qf7, .ref qf8, .ref qf9, .ref qf10, .ref qf11, .ref qf12, .ref qf13, .ref qf14, .ref qf15, .ref qf16, .ref qf17, .ref qf18, .ref qf19, .int v20])), (qf10, .inl (cf10, 96, .inl f10)), (qf9, .inl (cf9, 8, .inl f9)), (qf11, .inl (cf11, 96, .inl f11))] s.heap := hP
  have hl := lv_entry ([.ref h0, .int a1]) (n := 2) (Nat.le_of_ble_eq_true rfl)
  rw [lg_entry_eq]
  generalize (lg_sl ([.ref h0, .int a1]) ++ List.replicate (2 - (lg_sl ([.ref h0, .int a1])).length) Slot.unset).toArray = ls at hl ⊢
  have hl : lv_has ls 2 [(0, .ref h0), (1, .int a1)] := hl
  obtain ⟨H, hH⟩ : ∃ H : Heap, s.heap = H := ⟨_, rfl⟩
  rw [hH] at hP ⊢
  have hS : va_S A s.heap H [] := by rw [← hH]; exact va_S.rf
  obtain ⟨locs, hlo⟩ : ∃ locs : List Loc, locs = [] := ⟨_, rfl⟩
  rw [← hlo] at hS ⊢
  unfold sp_t2_bodyOf at hsp
  refine lv_aload_n hx hb dX2_bodyOf_0 rfl (lv_at hl 0 rfl) ?_
  refine lv_iload_n hx hb dX2_bodyOf_1 rfl (lv_at hl 1 rfl) ?_
  obtain ⟨u1_0, hu_1, hsp⟩ := ox_bind hsp
  try dsimp only at hsp
  have hPc := hP.sub (ws' := [(h0, .inr (2, [.ref qf0, .ref qf1, .int v2, .ref qf3, .ref qf4, .ref qf5, .ref qf6, .ref qf7, .ref qf8, .ref qf9, .ref qf10, .ref qf11, .ref qf12, .ref qf13, .ref qf14, .ref qf15, .ref qf16, .ref qf17, .ref qf18, .ref qf19, .int v20])), (qf10, .inl (cf10, 96, .inl f10)), (qf9, .inl (cf9, 8, .inl f9))]) [0, 1, 2] rfl
  have hDc := hD.sub (ws' := [(h0, .inr (2, [.ref qf0, .ref qf1, .int v2, .ref qf3, .ref qf4, .ref qf5, .ref qf6, .ref qf7, .ref qf8, .ref qf9, .ref qf10, .ref qf11, .ref qf12, .ref qf13, .ref qf14, .ref qf15, .ref qf16, .ref qf17, .ref qf18, .ref qf19, .int v20])), (qf10, .inl (cf10, 96, .inl f10)), (qf9, .inl (cf9, 8, .inl f9))]) [0, 1, 2] (by decide) rfl
  have hKc := hK.sub (tys' := [(cf10, .int), (cf9, .int)]) [0, 1] rfl
  have hFc := va_free (wc := [(h0, .inr (2, [.ref qf0, .ref qf1, .int v2, .ref qf3, .ref qf4, .ref qf5, .ref qf6, .ref qf7, .ref qf8, .ref qf9, .ref qf10, .ref qf11, .ref qf12, .ref qf13, .ref qf14, .ref qf15, .ref qf16, .ref qf17, .ref qf18, .ref qf19, .int v20])), (qf10, .inl (cf10, 96, .inl f10)), (qf9, .inl (cf9, 8, .inl f9))]) hD hS hA [0, 1, 2] rfl
  refine va_calli (va_runV (As := [.int a1]) (rest := []) ⟨hx, hb, hml, hown, hts⟩ (t2_isMethod l dC dI H.size h0 a1 qf0 qf1 v2 qf3 qf4 qf5 qf6 qf7 qf8 qf9 qf10 qf11 qf12 qf13 qf14 qf15 qf16 qf17 qf18 qf19 v20 cf10 f10 cf9 f9 nf u1_0 hu_1) (cwV 1 hts gv_h4_39 rfl rfl rfl (by decide +kernel) ⟨Nat.le_of_ble_eq_true rfl, Nat.le_of_ble_eq_true rfl⟩) ⟨fun a U g mk q => by obtain ⟨q0, q1, qP, qK, qD⟩ := q; exact ⟨q0, q1, qP, va_K.moved (u := U) (U := U.calling g mk a) (Vm.Alike.refl U.vm) qK, qD⟩, va_recv hKc hPc (ci := 2) (q0 := 0) rfl rfl, fun U hU hW => ⟨rfl, by rw [hU], by rw [hU]; exact hPc, va_K.moved hW.alike hKc, hDc.weaken (fun _ _ _ _ => trivial)⟩⟩ rfl rfl hl.1 rfl (lv_room (Nat.le_of_ble_eq_true rfl)) dX2_bodyOf_2 ⟨Nat.le_of_ble_eq_true rfl, Nat.le_of_ble_eq_true rfl⟩) hS (fun q _ h => hFc q h) hFc ?_
  clear hS
  intro r_1 u t H1 locs ht hvm hw hB hz1 hk1 hS
  obtain ⟨⟩ := u
  obtain ⟨hP1, hK1, hD1⟩ := hB
  rw [ht] at hP1
  have hK1 := va_K.moved hvm.symm hK1
  try dsimp only at hw
  have hPD := va_join (wr := [(qf11, .inl (cf11, 96, .inl f11))]) (w1 := [(h0, .inr (2, [.ref qf0, .ref qf1, .int v2, .ref qf3, .ref qf4, .ref qf5, .ref qf6, .ref qf7, .ref qf8, .ref qf9, .ref qf10, .ref qf11, .ref qf12, .ref qf13, .ref qf14, .ref qf15, .ref qf16, .ref qf17, .ref qf18, .ref qf19, .int v20])), (qf10, .inl (cf10, 96, .inl f10)), (qf9, .inl (cf9, 8, .inl f9))]) hP hD [0, 1, 2] [3] rfl rfl (by decide) (by decide) hk1 hFc hP1 hD1
  clear hP hD
  obtain ⟨hP, hD⟩ := hPD
  replace hK := (hK.sub (tys' := [(cf11, .int)]) [2] rfl).app hK1
  clear hPc hDc hKc hFc hP1 hK1 hD1 hz1 hk1 ht hvm
  generalize H1 = H at hP hS ⊢
  replace hP : va_P (dC, dI) vwCl [(qf11, .inl (cf11, 96, .inl f11)), (h0, .inr (2, [.ref qf0, .ref qf1, .int v2, .ref qf3, .ref qf4, .ref qf5, .ref qf6, .ref qf7, .ref qf8, .ref qf9, .ref qf10, .ref qf11, .ref qf12, .ref qf13, .ref qf14, .ref qf15, .ref qf16, .ref qf17, .ref qf18, .ref qf19, .int v20])), (qf10, .inl (cf10, 96, .inl f10)), (qf9, .inl (cf9, 8, .inl f9))] H := hP
  replace hD : va_D A [(qf11, .inl (cf11, 96, .inl f11)), (h0, .inr (2, [.ref qf0, .ref qf1, .int v2, .ref qf3, .ref qf4, .ref qf5, .ref qf6, .ref qf7, .ref qf8, .ref qf9, .ref qf10, .ref qf11, .ref qf12, .ref qf13, .ref qf14, .ref qf15, .ref qf16, .ref qf17, .ref qf18, .ref qf19, .int v20])), (qf10, .inl (cf10, 96, .inl f10)), (qf9, .inl (cf9, 8, .inl f9))] := hD
  replace hK : va_K (dC, dI) vwCl [(cf11, .int), (cf10, .int), (cf9, .int)] s := hK
  obtain ⟨rfl, hz_1⟩ := hw
  rcases hz_1 with rfl | rfl
  · rw [if_pos rfl] at hsp
    refine lv_if_eq (tgt := 17) hx hb dX2_bodyOf_5 (by decide) (fun c_2 => ?_) (fun c_2 => (show False by revert c_2; decide).elim)
    refine lv_iconst (v := (-1)) hx hb dX2_bodyOf_17 (by decide) ?_
    have hr0 := Option.some.inj hsp
    clear hsp
    subst hr0
    have hP9 := hP.sub (ws' := [(h0, .inr (2, [.ref qf0, .ref qf1, .int v2, .ref qf3, .ref qf4, .ref qf5, .ref qf6, .ref qf7, .ref qf8, .ref qf9, .ref qf10, .ref qf11, .ref qf12, .ref qf13, .ref qf14, .ref qf15, .ref qf16, .ref qf17, .ref qf18, .ref qf19, .int v20])), (qf10, .inl (cf10, 96, .inl f10)), (qf9, .inl (cf9, 8, .inl f9)), (qf11, .inl (cf11, 96, .inl f11))]) [1, 2, 3, 0] rfl
    have hD9 := hD.sub (ws' := [(h0, .inr (2, [.ref qf0, .ref qf1, .int v2, .ref qf3, .ref qf4, .ref qf5, .ref qf6, .ref qf7, .ref qf8, .ref qf9, .ref qf10, .ref qf11, .ref qf12, .ref qf13, .ref qf14, .ref qf15, .ref qf16, .ref qf17, .ref qf18, .ref qf19, .int v20])), (qf10, .inl (cf10, 96, .inl f10)), (qf9, .inl (cf9, 8, .inl f9)), (qf11, .inl (cf11, 96, .inl f11))]) [1, 2, 3, 0] (by decide) rfl
    have hK9 := hK.sub (tys' := [(cf10, .int), (cf9, .int), (cf11, .int)]) [1, 2, 0] rfl
    exact W.iret hx hb hr (fun t ht hW => ⟨⟨((-1)), (), rfl, rfl, by rw [ht]; exact hP9, va_K.moved hW.alike hK9, hD9⟩, hS.F ht⟩) hS.2.2 dX2_bodyOf_18
  · rw [if_neg (by decide)] at hsp
    refine lv_if_eq (tgt := 17) hx hb dX2_bodyOf_5 (by decide) (fun c_3 => (show False by revert c_3; decide).elim) (fun c_3 => ?_)
    refine lv_aload_n hx hb dX2_bodyOf_8 rfl (lv_at hl 0 rfl) ?_
    refine va_get (D := (dC, dI)) (ci := 2) (v := .ref qf11) (C := RX2) (T := TX2) (N := 21) hx hb hts uV_h4_X2 hown hK hP 1 rfl rfl 11 (by decide) (hts (.fieldLink RX2 45 "ClassMill$Heads" "methodBody" "[I") mw_h4_200) (fun _ h9 => h9) rfl dX2_bodyOf_9 ?_
    refine lv_iload_n hx hb dX2_bodyOf_12 rfl (lv_at hl 1 rfl) ?_
    obtain ⟨hi_4, hsp⟩ := ox_in hsp
    refine va_iald hx hb hK hP 0 0 rfl rfl (i := a1) hi_4 dX2_bodyOf_13 ?_
    refine lv_goto (tgt := 18) hx hb dX2_bodyOf_14 (by decide) ?_
    have hr0 := Option.some.inj hsp
    clear hsp
    subst hr0
    have hP9 := hP.sub (ws' := [(h0, .inr (2, [.ref qf0, .ref qf1, .int v2, .ref qf3, .ref qf4, .ref qf5, .ref qf6, .ref qf7, .ref qf8, .ref qf9, .ref qf10, .ref qf11, .ref qf12, .ref qf13, .ref qf14, .ref qf15, .ref qf16, .ref qf17, .ref qf18, .ref qf19, .int v20])), (qf10, .inl (cf10, 96, .inl f10)), (qf9, .inl (cf9, 8, .inl f9)), (qf11, .inl (cf11, 96, .inl f11))]) [1, 2, 3, 0] rfl
    have hD9 := hD.sub (ws' := [(h0, .inr (2, [.ref qf0, .ref qf1, .int v2, .ref qf3, .ref qf4, .ref qf5, .ref qf6, .ref qf7, .ref qf8, .ref qf9, .ref qf10, .ref qf11, .ref qf12, .ref qf13, .ref qf14, .ref qf15, .ref qf16, .ref qf17, .ref qf18, .ref qf19, .int v20])), (qf10, .inl (cf10, 96, .inl f10)), (qf9, .inl (cf9, 8, .inl f9)), (qf11, .inl (cf11, 96, .inl f11))]) [1, 2, 3, 0] (by decide) rfl
    have hK9 := hK.sub (tys' := [(cf10, .int), (cf9, .int), (cf11, .int)]) [1, 2, 0] rfl
    exact W.iret hx hb hr (fun t ht hW => ⟨⟨((f11 (a1 : Int32).toNatClampNeg)), (), rfl, rfl, by rw [ht]; exact hP9, va_K.moved hW.alike hK9, hD9⟩, hS.F ht⟩) hS.2.2 dX2_bodyOf_18
def sp_t2_resultOf (nf : Nat) (a1 : Int32) (f9 : Nat → Int32) (f12 : Nat → Int32) : Option (Int32) := ((sp_t2_isMethod nf a1 f9).bind (fun p1 => (if p1 = 0 then (some 305) else (if a1 < 0 then none else if 96 ≤ (a1 : Int32).toNatClampNeg then none else (some (f12 (a1 : Int32).toNatClampNeg))))))
set_option maxHeartbeats 4000000 in
set_option maxRecDepth 100000 in
/-- ClassMill$Heads.resultOf -/
theorem t2_resultOf (l : Launch) (dC : Nat → ClassId) (dI : Nat → Nat → Nat) (sz : Nat) (h0 : Nat) (a1 : Int32) (qf0 : Nat) (qf1 : Nat) (v2 : Int32) (qf3 : Nat) (qf4 : Nat) (qf5 : Nat) (qf6 : Nat) (qf7 : Nat) (qf8 : Nat) (qf9 : Nat) (qf10 : Nat) (qf11 : Nat) (qf12 : Nat) (qf13 : Nat) (qf14 : Nat) (qf15 : Nat) (qf16 : Nat) (qf17 : Nat) (qf18 : Nat) (qf19 : Nat) (v20 : Int32) (cf10 : ClassId) (f10 : (Nat → Int32)) (cf9 : ClassId) (f9 : (Nat → Int32)) (cf12 : ClassId) (f12 : (Nat → Int32)) (nf : Nat) (r0 : Int32) (hsp : sp_t2_resultOf nf a1 f9 f12 = some r0) : Met l yX2_resultOf (.code yX2_resultOf cX2_resultOf 2 (some .int) :: VS_h4) ({ frames := 1, cells := 0, slots := 0, locals := 21 }) (va_Pc [.ref h0, .int a1] (fun U => U.heap.size = sz ∧ va_P (dC, dI) vwCl [(h0, .inr (2, [.ref qf0, .ref qf1, .int v2, .ref qf3, .ref qf4, .ref qf5, .ref qf6, .ref qf7, .ref qf8, .ref qf9, .ref qf10, .ref qf11, .ref qf12, .ref qf13, .ref qf14, .ref qf15, .ref qf16, .ref qf17, .ref qf18, .ref qf19, .int v20])), (qf10, .inl (cf10, 96, .inl f10)), (qf9, .inl (cf9, 8, .inl f9)), (qf12, .inl (cf12, 96, .inl f12))] U.heap ∧ va_K (dC, dI) vwCl [(cf10, .int), (cf9, .int), (cf12, .int)] U ∧ va_D (fun _ => True) [(h0, .inr (2, [.ref qf0, .ref qf1, .int v2, .ref qf3, .ref qf4, .ref qf5, .ref qf6, .ref qf7, .ref qf8, .ref qf9, .ref qf10, .ref qf11, .ref qf12, .ref qf13, .ref qf14, .ref qf15, .ref qf16, .ref qf17, .ref qf18, .ref qf19, .int v20])), (qf10, .inl (cf10, 96, .inl f10)), (qf9, .inl (cf9, 8, .inl f9)), (qf12, .inl (cf12, 96, .inl f12))])) (va_Qi (fun (r : Int32) (u : Unit) => match u with | () => r0 = r) (fun (u : Unit) (t : State) => match u with | () => va_P (dC, dI) vwCl [(h0, .inr (2, [.ref qf0, .ref qf1, .int v2, .ref qf3, .ref qf4, .ref qf5, .ref qf6, .ref qf7, .ref qf8, .ref qf9, .ref qf10, .ref qf11, .ref qf12, .ref qf13, .ref qf14, .ref qf15, .ref qf16, .ref qf17, .ref qf18, .ref qf19, .int v20])), (qf10, .inl (cf10, 96, .inl f10)), (qf9, .inl (cf9, 8, .inl f9)), (qf12, .inl (cf12, 96, .inl f12))] t.heap ∧ va_K (dC, dI) vwCl [(cf10, .int), (cf9, .int), (cf12, .int)] t ∧ va_D (va_A [(h0, .inr (2, [.ref qf0, .ref qf1, .int v2, .ref qf3, .ref qf4, .ref qf5, .ref qf6, .ref qf7, .ref qf8, .ref qf9, .ref qf10, .ref qf11, .ref qf12, .ref qf13, .ref qf14, .ref qf15, .ref qf16, .ref qf17, .ref qf18, .ref qf19, .int v20])), (qf10, .inl (cf10, 96, .inl f10)), (qf9, .inl (cf9, 8, .inl f9)), (qf12, .inl (cf12, 96, .inl f12))] sz) [(h0, .inr (2, [.ref qf0, .ref qf1, .int v2, .ref qf3, .ref qf4, .ref qf5, .ref qf6, .ref qf7, .ref qf8, .ref qf9, .ref qf10, .ref qf11, .ref qf12, .ref qf13, .ref qf14, .ref qf15, .ref qf16, .ref qf17, .ref qf18, .ref qf19, .int v20])), (qf10, .inl (cf10, 96, .inl f10)), (qf9, .inl (cf9, 8, .inl f9)), (qf12, .inl (cf12, 96, .inl f12))]) (va_A [(h0, .inr (2, [.ref qf0, .ref qf1, .int v2, .ref qf3, .ref qf4, .ref qf5, .ref qf6, .ref qf7, .ref qf8, .ref qf9, .ref qf10, .ref qf11, .ref qf12, .ref qf13, .ref qf14, .ref qf15, .ref qf16, .ref qf17, .ref qf18, .ref qf19, .int v20])), (qf10, .inl (cf10, 96, .inl f10)), (qf9, .inl (cf9, 8, .inl f9)), (qf12, .inl (cf12, 96, .inl f12))] sz)) 0 0 (va_A [(h0, .inr (2, [.ref qf0, .ref qf1, .int v2, .ref qf3, .ref qf4, .ref qf5, .ref qf6, .ref qf7, .ref qf8, .ref qf9, .ref qf10, .ref qf11, .ref qf12, .ref qf13, .ref qf14, .ref qf15, .ref qf16, .ref qf17, .ref qf18, .ref qf19, .int v20])), (qf10, .inl (cf10, 96, .inl f10)), (qf9, .inl (cf9, 8, .inl f9)), (qf12, .inl (cf12, 96, .inl f12))] sz) := by
  refine Met.ofW (cc := cX2_resultOf) (maxL := 2) (ret := (some .int)) (by decide) rfl ?_
  intro p e s m args below meth c s₁ B hml hv
  obtain ⟨rfl, hsz, hP, hK, hD0⟩ := hv
  have hx := B.exec
  have hb := B.bytes
  have hr := B.returns
  have hts := atoms_spec (ws := (.code yX2_resultOf cX2_resultOf 2 (some .int) :: VS_h4)) B.pre
  replace hts := fun w (h : w ∈ VS_h4) => hts w (List.mem_cons_of_mem _ h)
  have hown : s.vm.findClass RX2 = some m.cls := findClass_of_methodNamed B.named
  have hlocks := B.notSynchronized
  subst hsz
  have hD := hD0.self (sz := s.heap.size)
  generalize hAe : va_A [(h0, .inr (2, [.ref qf0, .ref qf1, .int v2, .ref qf3, .ref qf4, .ref qf5, .ref qf6, .ref qf7, .ref qf8, .ref qf9, .ref qf10, .ref qf11, .ref qf12, .ref qf13, .ref qf14, .ref qf15, .ref qf16, .ref qf17, .ref qf18, .ref qf19, .int v20])), (qf10, .inl (cf10, 96, .inl f10)), (qf9, .inl (cf9, 8, .inl f9)), (qf12, .inl (cf12, 96, .inl f12))] s.heap.size = A at hD  ⊢
  have hA : ∀ q : Nat, s.heap.size ≤ q → A q := fun q h => by rw [← hAe]; exact Or.inr h
  have hP : va_P (dC, dI) vwCl [(h0, .inr (2, [.ref qf0, .ref qf1, .int v2, .ref qf3, .ref qf4, .ref qf5, .ref qf6, .ref qf7, .ref qf8, .ref qf9, .ref qf10, .ref qf11, .ref qf12, .ref qf13, .ref qf14, .ref qf15, .ref qf16, .ref qf17, .ref qf18, .ref qf19, .int v20])), (qf10, .inl (cf10, 96, .inl f10)), (qf9, .inl (cf9, 8, .inl f9)), (qf12, .inl (cf12, 96, .inl f12))] s.heap := hP
  have hl := lv_entry ([.ref h0, .int a1]) (n := 2) (Nat.le_of_ble_eq_true rfl)
  rw [lg_entry_eq]
  generalize (lg_sl ([.ref h0, .int a1]) ++ List.replicate (2 - (lg_sl ([.ref h0, .int a1])).length) Slot.unset).toArray = ls at hl ⊢
  have hl : lv_has ls 2 [(0, .ref h0), (1, .int a1)] := hl
  obtain ⟨H, hH⟩ : ∃ H : Heap, s.heap = H := ⟨_, rfl⟩
  rw [hH] at hP ⊢
  have hS : va_S A s.heap H [] := by rw [← hH]; exact va_S.rf
  obtain ⟨locs, hlo⟩ : ∃ locs : List Loc, locs = [] := ⟨_, rfl⟩
  rw [← hlo] at hS ⊢
  unfold sp_t2_resultOf at hsp
  refine lv_aload_n hx hb dX2_resultOf_0 rfl (lv_at hl 0 rfl) ?_
  refine lv_iload_n hx hb dX2_resultOf_1 rfl (lv_at hl 1 rfl) ?_
  obtain ⟨u1_0, hu_1, hsp⟩ := ox_bind hsp
  try dsimp only at hsp
  have hPc := hP.sub (ws' := [(h0, .inr (2, [.ref qf0, .ref qf1, .int v2, .ref qf3, .ref qf4, .ref qf5, .ref qf6, .ref qf7, .ref qf8, .ref qf9, .ref qf10, .ref qf11, .ref qf12, .ref qf13, .ref qf14, .ref qf15, .ref qf16, .ref qf17, .ref qf18, .ref qf19, .int v20])), (qf10, .inl (cf10, 96, .inl f10)), (qf9, .inl (cf9, 8, .inl f9))]) [0, 1, 2] rfl
  have hDc := hD.sub (ws' := [(h0, .inr (2, [.ref qf0, .ref qf1, .int v2, .ref qf3, .ref qf4, .ref qf5, .ref qf6, .ref qf7, .ref qf8, .ref qf9, .ref qf10, .ref qf11, .ref qf12, .ref qf13, .ref qf14, .ref qf15, .ref qf16, .ref qf17, .ref qf18, .ref qf19, .int v20])), (qf10, .inl (cf10, 96, .inl f10)), (qf9, .inl (cf9, 8, .inl f9))]) [0, 1, 2] (by decide) rfl
  have hKc := hK.sub (tys' := [(cf10, .int), (cf9, .int)]) [0, 1] rfl
  have hFc := va_free (wc := [(h0, .inr (2, [.ref qf0, .ref qf1, .int v2, .ref qf3, .ref qf4, .ref qf5, .ref qf6, .ref qf7, .ref qf8, .ref qf9, .ref qf10, .ref qf11, .ref qf12, .ref qf13, .ref qf14, .ref qf15, .ref qf16, .ref qf17, .ref qf18, .ref qf19, .int v20])), (qf10, .inl (cf10, 96, .inl f10)), (qf9, .inl (cf9, 8, .inl f9))]) hD hS hA [0, 1, 2] rfl
  refine va_calli (va_runV (As := [.int a1]) (rest := []) ⟨hx, hb, hml, hown, hts⟩ (t2_isMethod l dC dI H.size h0 a1 qf0 qf1 v2 qf3 qf4 qf5 qf6 qf7 qf8 qf9 qf10 qf11 qf12 qf13 qf14 qf15 qf16 qf17 qf18 qf19 v20 cf10 f10 cf9 f9 nf u1_0 hu_1) (cwV 1 hts gv_h4_39 rfl rfl rfl (by decide +kernel) ⟨Nat.le_of_ble_eq_true rfl, Nat.le_of_ble_eq_true rfl⟩) ⟨fun a U g mk q => by obtain ⟨q0, q1, qP, qK, qD⟩ := q; exact ⟨q0, q1, qP, va_K.moved (u := U) (U := U.calling g mk a) (Vm.Alike.refl U.vm) qK, qD⟩, va_recv hKc hPc (ci := 2) (q0 := 0) rfl rfl, fun U hU hW => ⟨rfl, by rw [hU], by rw [hU]; exact hPc, va_K.moved hW.alike hKc, hDc.weaken (fun _ _ _ _ => trivial)⟩⟩ rfl rfl hl.1 rfl (lv_room (Nat.le_of_ble_eq_true rfl)) dX2_resultOf_2 ⟨Nat.le_of_ble_eq_true rfl, Nat.le_of_ble_eq_true rfl⟩) hS (fun q _ h => hFc q h) hFc ?_
  clear hS
  intro r_1 u t H1 locs ht hvm hw hB hz1 hk1 hS
  obtain ⟨⟩ := u
  obtain ⟨hP1, hK1, hD1⟩ := hB
  rw [ht] at hP1
  have hK1 := va_K.moved hvm.symm hK1
  try dsimp only at hw
  have hPD := va_join (wr := [(qf12, .inl (cf12, 96, .inl f12))]) (w1 := [(h0, .inr (2, [.ref qf0, .ref qf1, .int v2, .ref qf3, .ref qf4, .ref qf5, .ref qf6, .ref qf7, .ref qf8, .ref qf9, .ref qf10, .ref qf11, .ref qf12, .ref qf13, .ref qf14, .ref qf15, .ref qf16, .ref qf17, .ref qf18, .ref qf19, .int v20])), (qf10, .inl (cf10, 96, .inl f10)), (qf9, .inl (cf9, 8, .inl f9))]) hP hD [0, 1, 2] [3] rfl rfl (by decide) (by decide) hk1 hFc hP1 hD1
  clear hP hD
  obtain ⟨hP, hD⟩ := hPD
  replace hK := (hK.sub (tys' := [(cf12, .int)]) [2] rfl).app hK1
  clear hPc hDc hKc hFc hP1 hK1 hD1 hz1 hk1 ht hvm
  generalize H1 = H at hP hS ⊢
  replace hP : va_P (dC, dI) vwCl [(qf12, .inl (cf12, 96, .inl f12)), (h0, .inr (2, [.ref qf0, .ref qf1, .int v2, .ref qf3, .ref qf4, .ref qf5, .ref qf6, .ref qf7, .ref qf8, .ref qf9, .ref qf10, .ref qf11, .ref qf12, .ref qf13, .ref qf14, .ref qf15, .ref qf16, .ref qf17, .ref qf18, .ref qf19, .int v20])), (qf10, .inl (cf10, 96, .inl f10)), (qf9, .inl (cf9, 8, .inl f9))] H := hP
  replace hD : va_D A [(qf12, .inl (cf12, 96, .inl f12)), (h0, .inr (2, [.ref qf0, .ref qf1, .int v2, .ref qf3, .ref qf4, .ref qf5, .ref qf6, .ref qf7, .ref qf8, .ref qf9, .ref qf10, .ref qf11, .ref qf12, .ref qf13, .ref qf14, .ref qf15, .ref qf16, .ref qf17, .ref qf18, .ref qf19, .int v20])), (qf10, .inl (cf10, 96, .inl f10)), (qf9, .inl (cf9, 8, .inl f9))] := hD
  replace hK : va_K (dC, dI) vwCl [(cf12, .int), (cf10, .int), (cf9, .int)] s := hK
  obtain ⟨rfl, hz_1⟩ := hw
  rcases hz_1 with rfl | rfl
  · rw [if_pos rfl] at hsp
    refine lv_if_eq (tgt := 17) hx hb dX2_resultOf_5 (by decide) (fun c_2 => ?_) (fun c_2 => (show False by revert c_2; decide).elim)
    refine lv_sipush (v := 305) hx hb dX2_resultOf_17 (by decide) ?_
    have hr0 := Option.some.inj hsp
    clear hsp
    subst hr0
    have hP9 := hP.sub (ws' := [(h0, .inr (2, [.ref qf0, .ref qf1, .int v2, .ref qf3, .ref qf4, .ref qf5, .ref qf6, .ref qf7, .ref qf8, .ref qf9, .ref qf10, .ref qf11, .ref qf12, .ref qf13, .ref qf14, .ref qf15, .ref qf16, .ref qf17, .ref qf18, .ref qf19, .int v20])), (qf10, .inl (cf10, 96, .inl f10)), (qf9, .inl (cf9, 8, .inl f9)), (qf12, .inl (cf12, 96, .inl f12))]) [1, 2, 3, 0] rfl
    have hD9 := hD.sub (ws' := [(h0, .inr (2, [.ref qf0, .ref qf1, .int v2, .ref qf3, .ref qf4, .ref qf5, .ref qf6, .ref qf7, .ref qf8, .ref qf9, .ref qf10, .ref qf11, .ref qf12, .ref qf13, .ref qf14, .ref qf15, .ref qf16, .ref qf17, .ref qf18, .ref qf19, .int v20])), (qf10, .inl (cf10, 96, .inl f10)), (qf9, .inl (cf9, 8, .inl f9)), (qf12, .inl (cf12, 96, .inl f12))]) [1, 2, 3, 0] (by decide) rfl
    have hK9 := hK.sub (tys' := [(cf10, .int), (cf9, .int), (cf12, .int)]) [1, 2, 0] rfl
    exact W.iret hx hb hr (fun t ht hW => ⟨⟨(305), (), rfl, rfl, by rw [ht]; exact hP9, va_K.moved hW.alike hK9, hD9⟩, hS.F ht⟩) hS.2.2 dX2_resultOf_20
  · rw [if_neg (by decide)] at hsp
    refine lv_if_eq (tgt := 17) hx hb dX2_resultOf_5 (by decide) (fun c_3 => (show False by revert c_3; decide).elim) (fun c_3 => ?_)
    refine lv_aload_n hx hb dX2_resultOf_8 rfl (lv_at hl 0 rfl) ?_
    refine va_get (D := (dC, dI)) (ci := 2) (v := .ref qf12) (C := RX2) (T := TX2) (N := 21) hx hb hts uV_h4_X2 hown hK hP 1 rfl rfl 12 (by decide) (hts (.fieldLink RX2 48 "ClassMill$Heads" "methodType" "[I") mw_h4_201) (fun _ h9 => h9) rfl dX2_resultOf_9 ?_
    refine lv_iload_n hx hb dX2_resultOf_12 rfl (lv_at hl 1 rfl) ?_
    obtain ⟨hi_4, hsp⟩ := ox_in hsp
    refine va_iald hx hb hK hP 0 0 rfl rfl (i := a1) hi_4 dX2_resultOf_13 ?_
    refine lv_goto (tgt := 20) hx hb dX2_resultOf_14 (by decide) ?_
    have hr0 := Option.some.inj hsp
    clear hsp
    subst hr0
    have hP9 := hP.sub (ws' := [(h0, .inr (2, [.ref qf0, .ref qf1, .int v2, .ref qf3, .ref qf4, .ref qf5, .ref qf6, .ref qf7, .ref qf8, .ref qf9, .ref qf10, .ref qf11, .ref qf12, .ref qf13, .ref qf14, .ref qf15, .ref qf16, .ref qf17, .ref qf18, .ref qf19, .int v20])), (qf10, .inl (cf10, 96, .inl f10)), (qf9, .inl (cf9, 8, .inl f9)), (qf12, .inl (cf12, 96, .inl f12))]) [1, 2, 3, 0] rfl
    have hD9 := hD.sub (ws' := [(h0, .inr (2, [.ref qf0, .ref qf1, .int v2, .ref qf3, .ref qf4, .ref qf5, .ref qf6, .ref qf7, .ref qf8, .ref qf9, .ref qf10, .ref qf11, .ref qf12, .ref qf13, .ref qf14, .ref qf15, .ref qf16, .ref qf17, .ref qf18, .ref qf19, .int v20])), (qf10, .inl (cf10, 96, .inl f10)), (qf9, .inl (cf9, 8, .inl f9)), (qf12, .inl (cf12, 96, .inl f12))]) [1, 2, 3, 0] (by decide) rfl
    have hK9 := hK.sub (tys' := [(cf10, .int), (cf9, .int), (cf12, .int)]) [1, 2, 0] rfl
    exact W.iret hx hb hr (fun t ht hW => ⟨⟨((f12 (a1 : Int32).toNatClampNeg)), (), rfl, rfl, by rw [ht]; exact hP9, va_K.moved hW.alike hK9, hD9⟩, hS.F ht⟩) hS.2.2 dX2_resultOf_20
def sp_t2_isFixed (nf : Nat) (a1 : Int32) (f9 : Nat → Int32) (f13 : Nat → Int32) : Option (Int32) := ((sp_t2_isMethod nf a1 f9).bind (fun p1 => (if p1 = 0 then (some 0) else (if a1 < 0 then none else if 96 ≤ (a1 : Int32).toNatClampNeg then none else (if (f13 (a1 : Int32).toNatClampNeg) = 0 then (some 0) else (some 1))))))
set_option maxHeartbeats 4000000 in
set_option maxRecDepth 100000 in
/-- ClassMill$Heads.isFixed -/
theorem t2_isFixed (l : Launch) (dC : Nat → ClassId) (dI : Nat → Nat → Nat) (sz : Nat) (h0 : Nat) (a1 : Int32) (qf0 : Nat) (qf1 : Nat) (v2 : Int32) (qf3 : Nat) (qf4 : Nat) (qf5 : Nat) (qf6 : Nat) (qf7 : Nat) (qf8 : Nat) (qf9 : Nat) (qf10 : Nat) (qf11 : Nat) (qf12 : Nat) (qf13 : Nat) (qf14 : Nat) (qf15 : Nat) (qf16 : Nat) (qf17 : Nat) (qf18 : Nat) (qf19 : Nat) (v20 : Int32) (cf10 : ClassId) (f10 : (Nat → Int32)) (cf9 : ClassId) (f9 : (Nat → Int32)) (cf13 : ClassId) (f13 : (Nat → Int32)) (nf : Nat) (r0 : Int32) (hsp : sp_t2_isFixed nf a1 f9 f13 = some r0) : Met l yX2_isFixed (.code yX2_isFixed cX2_isFixed 2 (some .boolean) :: VS_h4) ({ frames := 1, cells := 0, slots := 0, locals := 21 }) (va_Pc [.ref h0, .int a1] (fun U => U.heap.size = sz ∧ va_P (dC, dI) vwCl [(h0, .inr (2, [.ref qf0, .ref qf1, .int v2, .ref qf3, .ref qf4, .ref qf5, .ref qf6, .ref qf7, .ref qf8, .ref qf9, .ref qf10, .ref qf11, .ref qf12, .ref qf13, .ref qf14, .ref qf15, .ref qf16, .ref qf17, .ref qf18, .ref qf19, .int v20])), (qf10, .inl (cf10, 96, .inl f10)), (qf9, .inl (cf9, 8, .inl f9)), (qf13, .inl (cf13, 96, .inl f13))] U.heap ∧ va_K (dC, dI) vwCl [(cf10, .int), (cf9, .int), (cf13, .boolean)] U ∧ va_D (fun _ => True) [(h0, .inr (2, [.ref qf0, .ref qf1, .int v2, .ref qf3, .ref qf4, .ref qf5, .ref qf6, .ref qf7, .ref qf8, .ref qf9, .ref qf10, .ref qf11, .ref qf12, .ref qf13, .ref qf14, .ref qf15, .ref qf16, .ref qf17, .ref qf18, .ref qf19, .int v20])), (qf10, .inl (cf10, 96, .inl f10)), (qf9, .inl (cf9, 8, .inl f9)), (qf13, .inl (cf13, 96, .inl f13))])) (va_Qi (fun (r : Int32) (u : Unit) => match u with | () => r0 = r ∧ (r0 = 0 ∨ r0 = 1)) (fun (u : Unit) (t : State) => match u with | () => va_P (dC, dI) vwCl [(h0, .inr (2, [.ref qf0, .ref qf1, .int v2, .ref qf3, .ref qf4, .ref qf5, .ref qf6, .ref qf7, .ref qf8, .ref qf9, .ref qf10, .ref qf11, .ref qf12, .ref qf13, .ref qf14, .ref qf15, .ref qf16, .ref qf17, .ref qf18, .ref qf19, .int v20])), (qf10, .inl (cf10, 96, .inl f10)), (qf9, .inl (cf9, 8, .inl f9)), (qf13, .inl (cf13, 96, .inl f13))] t.heap ∧ va_K (dC, dI) vwCl [(cf10, .int), (cf9, .int), (cf13, .boolean)] t ∧ va_D (va_A [(h0, .inr (2, [.ref qf0, .ref qf1, .int v2, .ref qf3, .ref qf4, .ref qf5, .ref qf6, .ref qf7, .ref qf8, .ref qf9, .ref qf10, .ref qf11, .ref qf12, .ref qf13, .ref qf14, .ref qf15, .ref qf16, .ref qf17, .ref qf18, .ref qf19, .int v20])), (qf10, .inl (cf10, 96, .inl f10)), (qf9, .inl (cf9, 8, .inl f9)), (qf13, .inl (cf13, 96, .inl f13))] sz) [(h0, .inr (2, [.ref qf0, .ref qf1, .int v2, .ref qf3, .ref qf4, .ref qf5, .ref qf6, .ref qf7, .ref qf8, .ref qf9, .ref qf10, .ref qf11, .ref qf12, .ref qf13, .ref qf14, .ref qf15, .ref qf16, .ref qf17, .ref qf18, .ref qf19, .int v20])), (qf10, .inl (cf10, 96, .inl f10)), (qf9, .inl (cf9, 8, .inl f9)), (qf13, .inl (cf13, 96, .inl f13))]) (va_A [(h0, .inr (2, [.ref qf0, .ref qf1, .int v2, .ref qf3, .ref qf4, .ref qf5, .ref qf6, .ref qf7, .ref qf8, .ref qf9, .ref qf10, .ref qf11, .ref qf12, .ref qf13, .ref qf14, .ref qf15, .ref qf16, .ref qf17, .ref qf18, .ref qf19, .int v20])), (qf10, .inl (cf10, 96, .inl f10)), (qf9, .inl (cf9, 8, .inl f9)), (qf13, .inl (cf13, 96, .inl f13))] sz)) 0 0 (va_A [(h0, .inr (2, [.ref qf0, .ref qf1, .int v2, .ref qf3, .ref qf4, .ref qf5, .ref qf6, .ref qf7, .ref qf8, .ref qf9, .ref qf10, .ref qf11, .ref qf12, .ref qf13, .ref qf14, .ref qf15, .ref qf16, .ref qf17, .ref qf18, .ref qf19, .int v20])), (qf10, .inl (cf10, 96, .inl f10)), (qf9, .inl (cf9, 8, .inl f9)), (qf13, .inl (cf13, 96, .inl f13))] sz) := by
  refine Met.ofW (cc := cX2_isFixed) (maxL := 2) (ret := (some .boolean)) (by decide) rfl ?_
  intro p e s m args below meth c s₁ B hml hv
  obtain ⟨rfl, hsz, hP, hK, hD0⟩ := hv
  have hx := B.exec
  have hb := B.bytes
  have hr := B.returns
  have hts := atoms_spec (ws := (.code yX2_isFixed cX2_isFixed 2 (some .boolean) :: VS_h4)) B.pre
  replace hts := fun w (h : w ∈ VS_h4) => hts w (List.mem_cons_of_mem _ h)
  have hown : s.vm.findClass RX2 = some m.cls := findClass_of_methodNamed B.named
  have hlocks := B.notSynchronized
  subst hsz
  have hD := hD0.self (sz := s.heap.size)
  generalize hAe : va_A [(h0, .inr (2, [.ref qf0, .ref qf1, .int v2, .ref qf3, .ref qf4, .ref qf5, .ref qf6, .ref qf7, .ref qf8, .ref qf9, .ref qf10, .ref qf11, .ref qf12, .ref qf13, .ref qf14, .ref qf15, .ref qf16, .ref qf17, .ref qf18, .ref qf19, .int v20])), (qf10, .inl (cf10, 96, .inl f10)), (qf9, .inl (cf9, 8, .inl f9)), (qf13, .inl (cf13, 96, .inl f13))] s.heap.size = A at hD  ⊢
  have hA : ∀ q : Nat, s.heap.size ≤ q → A q := fun q h => by rw [← hAe]; exact Or.inr h
  have hP : va_P (dC, dI) vwCl [(h0, .inr (2, [.ref qf0, .ref qf1, .int v2, .ref qf3, .ref qf4, .ref qf5, .ref qf6, .ref qf7, .ref qf8, .ref qf9, .ref qf10, .ref qf11, .ref qf12, .ref qf13, .ref qf14, .ref qf15, .ref qf16, .ref qf17, .ref qf18, .ref qf19, .int v20])), (qf10, .inl (cf10, 96, .inl f10)), (qf9, .inl (cf9, 8, .inl f9)), (qf13, .inl (cf13, 96, .inl f13))] s.heap := hP
  have hl := lv_entry ([.ref h0, .int a1]) (n := 2) (Nat.le_of_ble_eq_true rfl)
  rw [lg_entry_eq]
  generalize (lg_sl ([.ref h0, .int a1]) ++ List.replicate (2 - (lg_sl ([.ref h0, .int a1])).length) Slot.unset).toArray = ls at hl ⊢
  have hl : lv_has ls 2 [(0, .ref h0), (1, .int a1)] := hl
  obtain ⟨H, hH⟩ : ∃ H : Heap, s.heap = H := ⟨_, rfl⟩
  rw [hH] at hP ⊢
  have hS : va_S A s.heap H [] := by rw [← hH]; exact va_S.rf
  obtain ⟨locs, hlo⟩ : ∃ locs : List Loc, locs = [] := ⟨_, rfl⟩
  rw [← hlo] at hS ⊢
  unfold sp_t2_isFixed at hsp
  refine lv_aload_n hx hb dX2_isFixed_0 rfl (lv_at hl 0 rfl) ?_
  refine lv_iload_n hx hb dX2_isFixed_1 rfl (lv_at hl 1 rfl) ?_
  obtain ⟨u1_0, hu_1, hsp⟩ := ox_bind hsp
  try dsimp only at hsp
  have hPc := hP.sub (ws' := [(h0, .inr (2, [.ref qf0, .ref qf1, .int v2, .ref qf3, .ref qf4, .ref qf5, .ref qf6, .ref qf7, .ref qf8, .ref qf9, .ref qf10, .ref qf11, .ref qf12, .ref qf13, .ref qf14, .ref qf15, .ref qf16, .ref qf17, .ref qf18, .ref qf19, .int v20])), (qf10, .inl (cf10, 96, .inl f10)), (qf9, .inl (cf9, 8, .inl f9))]) [0, 1, 2] rfl
  have hDc := hD.sub (ws' := [(h0, .inr (2, [.ref qf0, .ref qf1, .int v2, .ref qf3, .ref qf4, .ref qf5, .ref qf6, .ref qf7, .ref qf8, .ref qf9, .ref qf10, .ref qf11, .ref qf12, .ref qf13, .ref qf14, .ref qf15, .ref qf16, .ref qf17, .ref qf18, .ref qf19, .int v20])), (qf10, .inl (cf10, 96, .inl f10)), (qf9, .inl (cf9, 8, .inl f9))]) [0, 1, 2] (by decide) rfl
  have hKc := hK.sub (tys' := [(cf10, .int), (cf9, .int)]) [0, 1] rfl
  have hFc := va_free (wc := [(h0, .inr (2, [.ref qf0, .ref qf1, .int v2, .ref qf3, .ref qf4, .ref qf5, .ref qf6, .ref qf7, .ref qf8, .ref qf9, .ref qf10, .ref qf11, .ref qf12, .ref qf13, .ref qf14, .ref qf15, .ref qf16, .ref qf17, .ref qf18, .ref qf19, .int v20])), (qf10, .inl (cf10, 96, .inl f10)), (qf9, .inl (cf9, 8, .inl f9))]) hD hS hA [0, 1, 2] rfl
  refine va_calli (va_runV (As := [.int a1]) (rest := []) ⟨hx, hb, hml, hown, hts⟩ (t2_isMethod l dC dI H.size h0 a1 qf0 qf1 v2 qf3 qf4 qf5 qf6 qf7 qf8 qf9 qf10 qf11 qf12 qf13 qf14 qf15 qf16 qf17 qf18 qf19 v20 cf10 f10 cf9 f9 nf u1_0 hu_1) (cwV 1 hts gv_h4_39 rfl rfl rfl (by decide +kernel) ⟨Nat.le_of_ble_eq_true rfl, Nat.le_of_ble_eq_true rfl⟩) ⟨fun a U g mk q => by obtain ⟨q0, q1, qP, qK, qD⟩ := q; exact ⟨q0, q1, qP, va_K.moved (u := U) (U := U.calling g mk a) (Vm.Alike.refl U.vm) qK, qD⟩, va_recv hKc hPc (ci := 2) (q0 := 0) rfl rfl, fun U hU hW => ⟨rfl, by rw [hU], by rw [hU]; exact hPc, va_K.moved hW.alike hKc, hDc.weaken (fun _ _ _ _ => trivial)⟩⟩ rfl rfl hl.1 rfl (lv_room (Nat.le_of_ble_eq_true rfl)) dX2_isFixed_2 ⟨Nat.le_of_ble_eq_true rfl, Nat.le_of_ble_eq_true rfl⟩) hS (fun q _ h => hFc q h) hFc ?_
  clear hS
  intro r_1 u t H1 locs ht hvm hw hB hz1 hk1 hS
  obtain ⟨⟩ := u
  obtain ⟨hP1, hK1, hD1⟩ := hB
  rw [ht] at hP1
  have hK1 := va_K.moved hvm.symm hK1
  try dsimp only at hw
  have hPD := va_join (wr := [(qf13, .inl (cf13, 96, .inl f13))]) (w1 := [(h0, .inr (2, [.ref qf0, .ref qf1, .int v2, .ref qf3, .ref qf4, .ref qf5, .ref qf6, .ref qf7, .ref qf8, .ref qf9, .ref qf10, .ref qf11, .ref qf12, .ref qf13, .ref qf14, .ref qf15, .ref qf16, .ref qf17, .ref qf18, .ref qf19, .int v20])), (qf10, .inl (cf10, 96, .inl f10)), (qf9, .inl (cf9, 8, .inl f9))]) hP hD [0, 1, 2] [3] rfl rfl (by decide) (by decide) hk1 hFc hP1 hD1
  clear hP hD
  obtain ⟨hP, hD⟩ := hPD
  replace hK := (hK.sub (tys' := [(cf13, .boolean)]) [2] rfl).app hK1
  clear hPc hDc hKc hFc hP1 hK1 hD1 hz1 hk1 ht hvm
  generalize H1 = H at hP hS ⊢
  replace hP : va_P (dC, dI) vwCl [(qf13, .inl (cf13, 96, .inl f13)), (h0, .inr (2, [.ref qf0, .ref qf1, .int v2, .ref qf3, .ref qf4, .ref qf5, .ref qf6, .ref qf7, .ref qf8, .ref qf9, .ref qf10, .ref qf11, .ref qf12, .ref qf13, .ref qf14, .ref qf15, .ref qf16, .ref qf17, .ref qf18, .ref qf19, .int v20])), (qf10, .inl (cf10, 96, .inl f10)), (qf9, .inl (cf9, 8, .inl f9))] H := hP
  replace hD : va_D A [(qf13, .inl (cf13, 96, .inl f13)), (h0, .inr (2, [.ref qf0, .ref qf1, .int v2, .ref qf3, .ref qf4, .ref qf5, .ref qf6, .ref qf7, .ref qf8, .ref qf9, .ref qf10, .ref qf11, .ref qf12, .ref qf13, .ref qf14, .ref qf15, .ref qf16, .ref qf17, .ref qf18, .ref qf19, .int v20])), (qf10, .inl (cf10, 96, .inl f10)), (qf9, .inl (cf9, 8, .inl f9))] := hD
  replace hK : va_K (dC, dI) vwCl [(cf13, .boolean), (cf10, .int), (cf9, .int)] s := hK
  obtain ⟨rfl, hz_1⟩ := hw
  rcases hz_1 with rfl | rfl
  · rw [if_pos rfl] at hsp
    refine lv_if_eq (tgt := 21) hx hb dX2_isFixed_5 (by decide) (fun c_2 => ?_) (fun c_2 => (show False by revert c_2; decide).elim)
    refine lv_iconst (v := 0) hx hb dX2_isFixed_21 (by decide) ?_
    have hr0 := Option.some.inj hsp
    clear hsp
    subst hr0
    have hP9 := hP.sub (ws' := [(h0, .inr (2, [.ref qf0, .ref qf1, .int v2, .ref qf3, .ref qf4, .ref qf5, .ref qf6, .ref qf7, .ref qf8, .ref qf9, .ref qf10, .ref qf11, .ref qf12, .ref qf13, .ref qf14, .ref qf15, .ref qf16, .ref qf17, .ref qf18, .ref qf19, .int v20])), (qf10, .inl (cf10, 96, .inl f10)), (qf9, .inl (cf9, 8, .inl f9)), (qf13, .inl (cf13, 96, .inl f13))]) [1, 2, 3, 0] rfl
    have hD9 := hD.sub (ws' := [(h0, .inr (2, [.ref qf0, .ref qf1, .int v2, .ref qf3, .ref qf4, .ref qf5, .ref qf6, .ref qf7, .ref qf8, .ref qf9, .ref qf10, .ref qf11, .ref qf12, .ref qf13, .ref qf14, .ref qf15, .ref qf16, .ref qf17, .ref qf18, .ref qf19, .int v20])), (qf10, .inl (cf10, 96, .inl f10)), (qf9, .inl (cf9, 8, .inl f9)), (qf13, .inl (cf13, 96, .inl f13))]) [1, 2, 3, 0] (by decide) rfl
    have hK9 := hK.sub (tys' := [(cf10, .int), (cf9, .int), (cf13, .boolean)]) [1, 2, 0] rfl
    exact W.zret hx hb hr (by decide) (fun t ht hW => ⟨⟨(0), (), rfl, ⟨rfl, Or.inl rfl⟩, by rw [ht]; exact hP9, va_K.moved hW.alike hK9, hD9⟩, hS.F ht⟩) hS.2.2 dX2_isFixed_22
  · rw [if_neg (by decide)] at hsp
    refine lv_if_eq (tgt := 21) hx hb dX2_isFixed_5 (by decide) (fun c_3 => (show False by revert c_3; decide).elim) (fun c_3 => ?_)
    refine lv_aload_n hx hb dX2_isFixed_8 rfl (lv_at hl 0 rfl) ?_
    refine va_get (D := (dC, dI)) (ci := 2) (v := .ref qf13) (C := RX2) (T := TX2) (N := 21) hx hb hts uV_h4_X2 hown hK hP 1 rfl rfl 13 (by decide) (hts (.fieldLink RX2 51 "ClassMill$Heads" "methodFixed" "[Z") mw_h4_202) (fun _ h9 => h9) rfl dX2_isFixed_9 ?_
    refine lv_iload_n hx hb dX2_isFixed_12 rfl (lv_at hl 1 rfl) ?_
    obtain ⟨hi_4, hsp⟩ := ox_in hsp
    refine va_zald hx hb hK hP 0 0 rfl rfl (i := a1) hi_4 dX2_isFixed_13 ?_
    refine lv_if_eq (tgt := 21) hx hb dX2_isFixed_14 (by decide) (fun c_5 => ?_) (fun c_5 => ?_)
    · rw [if_pos c_5] at hsp
      refine lv_iconst (v := 0) hx hb dX2_isFixed_21 (by decide) ?_
      have hr0 := Option.some.inj hsp
      clear hsp
      subst hr0
      have hP9 := hP.sub (ws' := [(h0, .inr (2, [.ref qf0, .ref qf1, .int v2, .ref qf3, .ref qf4, .ref qf5, .ref qf6, .ref qf7, .ref qf8, .ref qf9, .ref qf10, .ref qf11, .ref qf12, .ref qf13, .ref qf14, .ref qf15, .ref qf16, .ref qf17, .ref qf18, .ref qf19, .int v20])), (qf10, .inl (cf10, 96, .inl f10)), (qf9, .inl (cf9, 8, .inl f9)), (qf13, .inl (cf13, 96, .inl f13))]) [1, 2, 3, 0] rfl
      have hD9 := hD.sub (ws' := [(h0, .inr (2, [.ref qf0, .ref qf1, .int v2, .ref qf3, .ref qf4, .ref qf5, .ref qf6, .ref qf7, .ref qf8, .ref qf9, .ref qf10, .ref qf11, .ref qf12, .ref qf13, .ref qf14, .ref qf15, .ref qf16, .ref qf17, .ref qf18, .ref qf19, .int v20])), (qf10, .inl (cf10, 96, .inl f10)), (qf9, .inl (cf9, 8, .inl f9)), (qf13, .inl (cf13, 96, .inl f13))]) [1, 2, 3, 0] (by decide) rfl
      have hK9 := hK.sub (tys' := [(cf10, .int), (cf9, .int), (cf13, .boolean)]) [1, 2, 0] rfl
      exact W.zret hx hb hr (by decide) (fun t ht hW => ⟨⟨(0), (), rfl, ⟨rfl, Or.inl rfl⟩, by rw [ht]; exact hP9, va_K.moved hW.alike hK9, hD9⟩, hS.F ht⟩) hS.2.2 dX2_isFixed_22
    · rw [if_neg c_5] at hsp
      refine lv_iconst (v := 1) hx hb dX2_isFixed_17 (by decide) ?_
      refine lv_goto (tgt := 22) hx hb dX2_isFixed_18 (by decide) ?_
      have hr0 := Option.some.inj hsp
      clear hsp
      subst hr0
      have hP9 := hP.sub (ws' := [(h0, .inr (2, [.ref qf0, .ref qf1, .int v2, .ref qf3, .ref qf4, .ref qf5, .ref qf6, .ref qf7, .ref qf8, .ref qf9, .ref qf10, .ref qf11, .ref qf12, .ref qf13, .ref qf14, .ref qf15, .ref qf16, .ref qf17, .ref qf18, .ref qf19, .int v20])), (qf10, .inl (cf10, 96, .inl f10)), (qf9, .inl (cf9, 8, .inl f9)), (qf13, .inl (cf13, 96, .inl f13))]) [1, 2, 3, 0] rfl
      have hD9 := hD.sub (ws' := [(h0, .inr (2, [.ref qf0, .ref qf1, .int v2, .ref qf3, .ref qf4, .ref qf5, .ref qf6, .ref qf7, .ref qf8, .ref qf9, .ref qf10, .ref qf11, .ref qf12, .ref qf13, .ref qf14, .ref qf15, .ref qf16, .ref qf17, .ref qf18, .ref qf19, .int v20])), (qf10, .inl (cf10, 96, .inl f10)), (qf9, .inl (cf9, 8, .inl f9)), (qf13, .inl (cf13, 96, .inl f13))]) [1, 2, 3, 0] (by decide) rfl
      have hK9 := hK.sub (tys' := [(cf10, .int), (cf9, .int), (cf13, .boolean)]) [1, 2, 0] rfl
      exact W.zret hx hb hr (by decide) (fun t ht hW => ⟨⟨(1), (), rfl, ⟨rfl, Or.inr rfl⟩, by rw [ht]; exact hP9, va_K.moved hW.alike hK9, hD9⟩, hS.F ht⟩) hS.2.2 dX2_isFixed_22
def sp_t2_parametersOf (nf : Nat) (a1 : Int32) (f9 : Nat → Int32) (f15 : Nat → Int32) : Option (Int32) := ((sp_t2_isMethod nf a1 f9).bind (fun p1 => (if p1 = 0 then (some 0) else (if a1 < 0 then none else if 96 ≤ (a1 : Int32).toNatClampNeg then none else (some (f15 (a1 : Int32).toNatClampNeg))))))
set_option maxHeartbeats 4000000 in
set_option maxRecDepth 100000 in
/-- ClassMill$Heads.parametersOf -/
theorem t2_parametersOf (l : Launch) (dC : Nat → ClassId) (dI : Nat → Nat → Nat) (sz : Nat) (h0 : Nat) (a1 : Int32) (qf0 : Nat) (qf1 : Nat) (v2 : Int32) (qf3 : Nat) (qf4 : Nat) (qf5 : Nat) (qf6 : Nat) (qf7 : Nat) (qf8 : Nat) (qf9 : Nat) (qf10 : Nat) (qf11 : Nat) (qf12 : Nat) (qf13 : Nat) (qf14 : Nat) (qf15 : Nat) (qf16 : Nat) (qf17 : Nat) (qf18 : Nat) (qf19 : Nat) (v20 : Int32) (cf10 : ClassId) (f10 : (Nat → Int32)) (cf9 : ClassId) (f9 : (Nat → Int32)) (cf15 : ClassId) (f15 : (Nat → Int32)) (nf : Nat) (r0 : Int32) (hsp : sp_t2_parametersOf nf a1 f9 f15 = some r0) : Met l yX2_parametersOf (.code yX2_parametersOf cX2_parametersOf 2 (some .int) :: VS_h4) ({ frames := 1, cells := 0, slots := 0, locals := 21 }) (va_Pc [.ref h0, .int a1] (fun U => U.heap.size = sz ∧ va_P (dC, dI) vwCl [(h0, .inr (2, [.ref qf0, .ref qf1, .int v2, .ref qf3, .ref qf4, .ref qf5, .ref qf6, .ref qf7, .ref qf8, .ref qf9, .ref qf10, .ref qf11, .ref qf12, .ref qf13, .ref qf14, .ref qf15, .ref qf16, .ref qf17, .ref qf18, .ref qf19, .int v20])), (qf10, .inl (cf10, 96, .inl f10)), (qf9, .inl (cf9, 8, .inl f9)), (qf15, .inl (cf15, 96, .inl f15))] U.heap ∧ va_K (dC, dI) vwCl [(cf10, .int), (cf9, .int), (cf15, .int)] U ∧ va_D (fun _ => True) [(h0, .inr (2, [.ref qf0, .ref qf1, .int v2, .ref qf3, .ref qf4, .ref qf5, .ref qf6, .ref qf7, .ref qf8, .ref qf9, .ref qf10, .ref qf11, .ref qf12, .ref qf13, .ref qf14, .ref qf15, .ref qf16, .ref qf17, .ref qf18, .ref qf19, .int v20])), (qf10, .inl (cf10, 96, .inl f10)), (qf9, .inl (cf9, 8, .inl f9)), (qf15, .inl (cf15, 96, .inl f15))])) (va_Qi (fun (r : Int32) (u : Unit) => match u with | () => r0 = r) (fun (u : Unit) (t : State) => match u with | () => va_P (dC, dI) vwCl [(h0, .inr (2, [.ref qf0, .ref qf1, .int v2, .ref qf3, .ref qf4, .ref qf5, .ref qf6, .ref qf7, .ref qf8, .ref qf9, .ref qf10, .ref qf11, .ref qf12, .ref qf13, .ref qf14, .ref qf15, .ref qf16, .ref qf17, .ref qf18, .ref qf19, .int v20])), (qf10, .inl (cf10, 96, .inl f10)), (qf9, .inl (cf9, 8, .inl f9)), (qf15, .inl (cf15, 96, .inl f15))] t.heap ∧ va_K (dC, dI) vwCl [(cf10, .int), (cf9, .int), (cf15, .int)] t ∧ va_D (va_A [(h0, .inr (2, [.ref qf0, .ref qf1, .int v2, .ref qf3, .ref qf4, .ref qf5, .ref qf6, .ref qf7, .ref qf8, .ref qf9, .ref qf10, .ref qf11, .ref qf12, .ref qf13, .ref qf14, .ref qf15, .ref qf16, .ref qf17, .ref qf18, .ref qf19, .int v20])), (qf10, .inl (cf10, 96, .inl f10)), (qf9, .inl (cf9, 8, .inl f9)), (qf15, .inl (cf15, 96, .inl f15))] sz) [(h0, .inr (2, [.ref qf0, .ref qf1, .int v2, .ref qf3, .ref qf4, .ref qf5, .ref qf6, .ref qf7, .ref qf8, .ref qf9, .ref qf10, .ref qf11, .ref qf12, .ref qf13, .ref qf14, .ref qf15, .ref qf16, .ref qf17, .ref qf18, .ref qf19, .int v20])), (qf10, .inl (cf10, 96, .inl f10)), (qf9, .inl (cf9, 8, .inl f9)), (qf15, .inl (cf15, 96, .inl f15))]) (va_A [(h0, .inr (2, [.ref qf0, .ref qf1, .int v2, .ref qf3, .ref qf4, .ref qf5, .ref qf6, .ref qf7, .ref qf8, .ref qf9, .ref qf10, .ref qf11, .ref qf12, .ref qf13, .ref qf14, .ref qf15, .ref qf16, .ref qf17, .ref qf18, .ref qf19, .int v20])), (qf10, .inl (cf10, 96, .inl f10)), (qf9, .inl (cf9, 8, .inl f9)), (qf15, .inl (cf15, 96, .inl f15))] sz)) 0 0 (va_A [(h0, .inr (2, [.ref qf0, .ref qf1, .int v2, .ref qf3, .ref qf4, .ref qf5, .ref qf6, .ref qf7, .ref qf8, .ref qf9, .ref qf10, .ref qf11, .ref qf12, .ref qf13, .ref qf14, .ref qf15, .ref qf16, .ref qf17, .ref qf18, .ref qf19, .int v20])), (qf10, .inl (cf10, 96, .inl f10)), (qf9, .inl (cf9, 8, .inl f9)), (qf15, .inl (cf15, 96, .inl f15))] sz) := by
  refine Met.ofW (cc := cX2_parametersOf) (maxL := 2) (ret := (some .int)) (by decide) rfl ?_
  intro p e s m args below meth c s₁ B hml hv
  obtain ⟨rfl, hsz, hP, hK, hD0⟩ := hv
  have hx := B.exec
  have hb := B.bytes
  have hr := B.returns
  have hts := atoms_spec (ws := (.code yX2_parametersOf cX2_parametersOf 2 (some .int) :: VS_h4)) B.pre
  replace hts := fun w (h : w ∈ VS_h4) => hts w (List.mem_cons_of_mem _ h)
  have hown : s.vm.findClass RX2 = some m.cls := findClass_of_methodNamed B.named
  have hlocks := B.notSynchronized
  subst hsz
  have hD := hD0.self (sz := s.heap.size)
  generalize hAe : va_A [(h0, .inr (2, [.ref qf0, .ref qf1, .int v2, .ref qf3, .ref qf4, .ref qf5, .ref qf6, .ref qf7, .ref qf8, .ref qf9, .ref qf10, .ref qf11, .ref qf12, .ref qf13, .ref qf14, .ref qf15, .ref qf16, .ref qf17, .ref qf18, .ref qf19, .int v20])), (qf10, .inl (cf10, 96, .inl f10)), (qf9, .inl (cf9, 8, .inl f9)), (qf15, .inl (cf15, 96, .inl f15))] s.heap.size = A at hD  ⊢
  have hA : ∀ q : Nat, s.heap.size ≤ q → A q := fun q h => by rw [← hAe]; exact Or.inr h
  have hP : va_P (dC, dI) vwCl [(h0, .inr (2, [.ref qf0, .ref qf1, .int v2, .ref qf3, .ref qf4, .ref qf5, .ref qf6, .ref qf7, .ref qf8, .ref qf9, .ref qf10, .ref qf11, .ref qf12, .ref qf13, .ref qf14, .ref qf15, .ref qf16, .ref qf17, .ref qf18, .ref qf19, .int v20])), (qf10, .inl (cf10, 96, .inl f10)), (qf9, .inl (cf9, 8, .inl f9)), (qf15, .inl (cf15, 96, .inl f15))] s.heap := hP
  have hl := lv_entry ([.ref h0, .int a1]) (n := 2) (Nat.le_of_ble_eq_true rfl)
  rw [lg_entry_eq]
  generalize (lg_sl ([.ref h0, .int a1]) ++ List.replicate (2 - (lg_sl ([.ref h0, .int a1])).length) Slot.unset).toArray = ls at hl ⊢
  have hl : lv_has ls 2 [(0, .ref h0), (1, .int a1)] := hl
  obtain ⟨H, hH⟩ : ∃ H : Heap, s.heap = H := ⟨_, rfl⟩
  rw [hH] at hP ⊢
  have hS : va_S A s.heap H [] := by rw [← hH]; exact va_S.rf
  obtain ⟨locs, hlo⟩ : ∃ locs : List Loc, locs = [] := ⟨_, rfl⟩
  rw [← hlo] at hS ⊢
  unfold sp_t2_parametersOf at hsp
  refine lv_aload_n hx hb dX2_parametersOf_0 rfl (lv_at hl 0 rfl) ?_
  refine lv_iload_n hx hb dX2_parametersOf_1 rfl (lv_at hl 1 rfl) ?_
  obtain ⟨u1_0, hu_1, hsp⟩ := ox_bind hsp
  try dsimp only at hsp
  have hPc := hP.sub (ws' := [(h0, .inr (2, [.ref qf0, .ref qf1, .int v2, .ref qf3, .ref qf4, .ref qf5, .ref qf6, .ref qf7, .ref qf8, .ref qf9, .ref qf10, .ref qf11, .ref qf12, .ref qf13, .ref qf14, .ref qf15, .ref qf16, .ref qf17, .ref qf18, .ref qf19, .int v20])), (qf10, .inl (cf10, 96, .inl f10)), (qf9, .inl (cf9, 8, .inl f9))]) [0, 1, 2] rfl
  have hDc := hD.sub (ws' := [(h0, .inr (2, [.ref qf0, .ref qf1, .int v2, .ref qf3, .ref qf4, .ref qf5, .ref qf6, .ref qf7, .ref qf8, .ref qf9, .ref qf10, .ref qf11, .ref qf12, .ref qf13, .ref qf14, .ref qf15, .ref qf16, .ref qf17, .ref qf18, .ref qf19, .int v20])), (qf10, .inl (cf10, 96, .inl f10)), (qf9, .inl (cf9, 8, .inl f9))]) [0, 1, 2] (by decide) rfl
  have hKc := hK.sub (tys' := [(cf10, .int), (cf9, .int)]) [0, 1] rfl
  have hFc := va_free (wc := [(h0, .inr (2, [.ref qf0, .ref qf1, .int v2, .ref qf3, .ref qf4, .ref qf5, .ref qf6, .ref qf7, .ref qf8, .ref qf9, .ref qf10, .ref qf11, .ref qf12, .ref qf13, .ref qf14, .ref qf15, .ref qf16, .ref qf17, .ref qf18, .ref qf19, .int v20])), (qf10, .inl (cf10, 96, .inl f10)), (qf9, .inl (cf9, 8, .inl f9))]) hD hS hA [0, 1, 2] rfl
  refine va_calli (va_runV (As := [.int a1]) (rest := []) ⟨hx, hb, hml, hown, hts⟩ (t2_isMethod l dC dI H.size h0 a1 qf0 qf1 v2 qf3 qf4 qf5 qf6 qf7 qf8 qf9 qf10 qf11 qf12 qf13 qf14 qf15 qf16 qf17 qf18 qf19 v20 cf10 f10 cf9 f9 nf u1_0 hu_1) (cwV 1 hts gv_h4_39 rfl rfl rfl (by decide +kernel) ⟨Nat.le_of_ble_eq_true rfl, Nat.le_of_ble_eq_true rfl⟩) ⟨fun a U g mk q => by obtain ⟨q0, q1, qP, qK, qD⟩ := q; exact ⟨q0, q1, qP, va_K.moved (u := U) (U := U.calling g mk a) (Vm.Alike.refl U.vm) qK, qD⟩, va_recv hKc hPc (ci := 2) (q0 := 0) rfl rfl, fun U hU hW => ⟨rfl, by rw [hU], by rw [hU]; exact hPc, va_K.moved hW.alike hKc, hDc.weaken (fun _ _ _ _ => trivial)⟩⟩ rfl rfl hl.1 rfl (lv_room (Nat.le_of_ble_eq_true rfl)) dX2_parametersOf_2 ⟨Nat.le_of_ble_eq_true rfl, Nat.le_of_ble_eq_true rfl⟩) hS (fun q _ h => hFc q h) hFc ?_
  clear hS
  intro r_1 u t H1 locs ht hvm hw hB hz1 hk1 hS
  obtain ⟨⟩ := u
  obtain ⟨hP1, hK1, hD1⟩ := hB
  rw [ht] at hP1
  have hK1 := va_K.moved hvm.symm hK1
  try dsimp only at hw
  have hPD := va_join (wr := [(qf15, .inl (cf15, 96, .inl f15))]) (w1 := [(h0, .inr (2, [.ref qf0, .ref qf1, .int v2, .ref qf3, .ref qf4, .ref qf5, .ref qf6, .ref qf7, .ref qf8, .ref qf9, .ref qf10, .ref qf11, .ref qf12, .ref qf13, .ref qf14, .ref qf15, .ref qf16, .ref qf17, .ref qf18, .ref qf19, .int v20])), (qf10, .inl (cf10, 96, .inl f10)), (qf9, .inl (cf9, 8, .inl f9))]) hP hD [0, 1, 2] [3] rfl rfl (by decide) (by decide) hk1 hFc hP1 hD1
  clear hP hD
  obtain ⟨hP, hD⟩ := hPD
  replace hK := (hK.sub (tys' := [(cf15, .int)]) [2] rfl).app hK1
  clear hPc hDc hKc hFc hP1 hK1 hD1 hz1 hk1 ht hvm
  generalize H1 = H at hP hS ⊢
  replace hP : va_P (dC, dI) vwCl [(qf15, .inl (cf15, 96, .inl f15)), (h0, .inr (2, [.ref qf0, .ref qf1, .int v2, .ref qf3, .ref qf4, .ref qf5, .ref qf6, .ref qf7, .ref qf8, .ref qf9, .ref qf10, .ref qf11, .ref qf12, .ref qf13, .ref qf14, .ref qf15, .ref qf16, .ref qf17, .ref qf18, .ref qf19, .int v20])), (qf10, .inl (cf10, 96, .inl f10)), (qf9, .inl (cf9, 8, .inl f9))] H := hP
  replace hD : va_D A [(qf15, .inl (cf15, 96, .inl f15)), (h0, .inr (2, [.ref qf0, .ref qf1, .int v2, .ref qf3, .ref qf4, .ref qf5, .ref qf6, .ref qf7, .ref qf8, .ref qf9, .ref qf10, .ref qf11, .ref qf12, .ref qf13, .ref qf14, .ref qf15, .ref qf16, .ref qf17, .ref qf18, .ref qf19, .int v20])), (qf10, .inl (cf10, 96, .inl f10)), (qf9, .inl (cf9, 8, .inl f9))] := hD
  replace hK : va_K (dC, dI) vwCl [(cf15, .int), (cf10, .int), (cf9, .int)] s := hK
  obtain ⟨rfl, hz_1⟩ := hw
  rcases hz_1 with rfl | rfl
  · rw [if_pos rfl] at hsp
    refine lv_if_eq (tgt := 17) hx hb dX2_parametersOf_5 (by decide) (fun c_2 => ?_) (fun c_2 => (show False by revert c_2; decide).elim)
    refine lv_iconst (v := 0) hx hb dX2_parametersOf_17 (by decide) ?_
    have hr0 := Option.some.inj hsp
    clear hsp
    subst hr0
    have hP9 := hP.sub (ws' := [(h0, .inr (2, [.ref qf0, .ref qf1, .int v2, .ref qf3, .ref qf4, .ref qf5, .ref qf6, .ref qf7, .ref qf8, .ref qf9, .ref qf10, .ref qf11, .ref qf12, .ref qf13, .ref qf14, .ref qf15, .ref qf16, .ref qf17, .ref qf18, .ref qf19, .int v20])), (qf10, .inl (cf10, 96, .inl f10)), (qf9, .inl (cf9, 8, .inl f9)), (qf15, .inl (cf15, 96, .inl f15))]) [1, 2, 3, 0] rfl
    have hD9 := hD.sub (ws' := [(h0, .inr (2, [.ref qf0, .ref qf1, .int v2, .ref qf3, .ref qf4, .ref qf5, .ref qf6, .ref qf7, .ref qf8, .ref qf9, .ref qf10, .ref qf11, .ref qf12, .ref qf13, .ref qf14, .ref qf15, .ref qf16, .ref qf17, .ref qf18, .ref qf19, .int v20])), (qf10, .inl (cf10, 96, .inl f10)), (qf9, .inl (cf9, 8, .inl f9)), (qf15, .inl (cf15, 96, .inl f15))]) [1, 2, 3, 0] (by decide) rfl
    have hK9 := hK.sub (tys' := [(cf10, .int), (cf9, .int), (cf15, .int)]) [1, 2, 0] rfl
    exact W.iret hx hb hr (fun t ht hW => ⟨⟨(0), (), rfl, rfl, by rw [ht]; exact hP9, va_K.moved hW.alike hK9, hD9⟩, hS.F ht⟩) hS.2.2 dX2_parametersOf_18
  · rw [if_neg (by decide)] at hsp
    refine lv_if_eq (tgt := 17) hx hb dX2_parametersOf_5 (by decide) (fun c_3 => (show False by revert c_3; decide).elim) (fun c_3 => ?_)
    refine lv_aload_n hx hb dX2_parametersOf_8 rfl (lv_at hl 0 rfl) ?_
    refine va_get (D := (dC, dI)) (ci := 2) (v := .ref qf15) (C := RX2) (T := TX2) (N := 21) hx hb hts uV_h4_X2 hown hK hP 1 rfl rfl 15 (by decide) (hts (.fieldLink RX2 58 "ClassMill$Heads" "parameters" "[I") mw_h4_170) (fun _ h9 => h9) rfl dX2_parametersOf_9 ?_
    refine lv_iload_n hx hb dX2_parametersOf_12 rfl (lv_at hl 1 rfl) ?_
    obtain ⟨hi_4, hsp⟩ := ox_in hsp
    refine va_iald hx hb hK hP 0 0 rfl rfl (i := a1) hi_4 dX2_parametersOf_13 ?_
    refine lv_goto (tgt := 18) hx hb dX2_parametersOf_14 (by decide) ?_
    have hr0 := Option.some.inj hsp
    clear hsp
    subst hr0
    have hP9 := hP.sub (ws' := [(h0, .inr (2, [.ref qf0, .ref qf1, .int v2, .ref qf3, .ref qf4, .ref qf5, .ref qf6, .ref qf7, .ref qf8, .ref qf9, .ref qf10, .ref qf11, .ref qf12, .ref qf13, .ref qf14, .ref qf15, .ref qf16, .ref qf17, .ref qf18, .ref qf19, .int v20])), (qf10, .inl (cf10, 96, .inl f10)), (qf9, .inl (cf9, 8, .inl f9)), (qf15, .inl (cf15, 96, .inl f15))]) [1, 2, 3, 0] rfl
    have hD9 := hD.sub (ws' := [(h0, .inr (2, [.ref qf0, .ref qf1, .int v2, .ref qf3, .ref qf4, .ref qf5, .ref qf6, .ref qf7, .ref qf8, .ref qf9, .ref qf10, .ref qf11, .ref qf12, .ref qf13, .ref qf14, .ref qf15, .ref qf16, .ref qf17, .ref qf18, .ref qf19, .int v20])), (qf10, .inl (cf10, 96, .inl f10)), (qf9, .inl (cf9, 8, .inl f9)), (qf15, .inl (cf15, 96, .inl f15))]) [1, 2, 3, 0] (by decide) rfl
    have hK9 := hK.sub (tys' := [(cf10, .int), (cf9, .int), (cf15, .int)]) [1, 2, 0] rfl
    exact W.iret hx hb hr (fun t ht hW => ⟨⟨((f15 (a1 : Int32).toNatClampNeg)), (), rfl, rfl, by rw [ht]; exact hP9, va_K.moved hW.alike hK9, hD9⟩, hS.F ht⟩) hS.2.2 dX2_parametersOf_18
def sp_t2_parameterType (nf : Nat) (a1 : Int32) (a2 : Int32) (f9 : Nat → Int32) (f15 : Nat → Int32) (f17 : Nat → Int32) : Option (Int32) := (if a2 < 0 then (some 305) else ((sp_t2_parametersOf nf a1 f9 f15).bind (fun p1 => (if p1 ≤ a2 then (some 305) else (if ((a1 * 6) + a2) < 0 then none else if 576 ≤ (((a1 * 6) + a2) : Int32).toNatClampNeg then none else (some (f17 (((a1 * 6) + a2) : Int32).toNatClampNeg)))))))
set_option maxHeartbeats 4000000 in
set_option maxRecDepth 100000 in
/-- ClassMill$Heads.parameterType -/
theorem t2_parameterType (l : Launch) (dC : Nat → ClassId) (dI : Nat → Nat → Nat) (sz : Nat) (h0 : Nat) (a1 : Int32) (a2 : Int32) (qf0 : Nat) (qf1 : Nat) (v2 : Int32) (qf3 : Nat) (qf4 : Nat) (qf5 : Nat) (qf6 : Nat) (qf7 : Nat) (qf8 : Nat) (qf9 : Nat) (qf10 : Nat) (qf11 : Nat) (qf12 : Nat) (qf13 : Nat) (qf14 : Nat) (qf15 : Nat) (qf16 : Nat) (qf17 : Nat) (qf18 : Nat) (qf19 : Nat) (v20 : Int32) (cf10 : ClassId) (f10 : (Nat → Int32)) (cf9 : ClassId) (f9 : (Nat → Int32)) (cf15 : ClassId) (f15 : (Nat → Int32)) (cf17 : ClassId) (f17 : (Nat → Int32)) (nf : Nat) (r0 : Int32) (hsp : sp_t2_parameterType nf a1 a2 f9 f15 f17 = some r0) : Met l yX2_parameterType (.code yX2_parameterType cX2_parameterType 3 (some .int) :: VS_h4) ({ frames := 2, cells := 0, slots := 0, locals := 42 }) (va_Pc [.ref h0, .int a1, .int a2] (fun U => U.heap.size = sz ∧ va_P (dC, dI) vwCl [(h0, .inr (2, [.ref qf0, .ref qf1, .int v2, .ref qf3, .ref qf4, .ref qf5, .ref qf6, .ref qf7, .ref qf8, .ref qf9, .ref qf10, .ref qf11, .ref qf12, .ref qf13, .ref qf14, .ref qf15, .ref qf16, .ref qf17, .ref qf18, .ref qf19, .int v20])), (qf10, .inl (cf10, 96, .inl f10)), (qf9, .inl (cf9, 8, .inl f9)), (qf15, .inl (cf15, 96, .inl f15)), (qf17, .inl (cf17, 576, .inl f17))] U.heap ∧ va_K (dC, dI) vwCl [(cf10, .int), (cf9, .int), (cf15, .int), (cf17, .int)] U ∧ va_D (fun _ => True) [(h0, .inr (2, [.ref qf0, .ref qf1, .int v2, .ref qf3, .ref qf4, .ref qf5, .ref qf6, .ref qf7, .ref qf8, .ref qf9, .ref qf10, .ref qf11, .ref qf12, .ref qf13, .ref qf14, .ref qf15, .ref qf16, .ref qf17, .ref qf18, .ref qf19, .int v20])), (qf10, .inl (cf10, 96, .inl f10)), (qf9, .inl (cf9, 8, .inl f9)), (qf15, .inl (cf15, 96, .inl f15)), (qf17, .inl (cf17, 576, .inl f17))])) (va_Qi (fun (r : Int32) (u : Unit) => match u with | () => r0 = r) (fun (u : Unit) (t : State) => match u with | () => va_P (dC, dI) vwCl [(h0, .inr (2, [.ref qf0, .ref qf1, .int v2, .ref qf3, .ref qf4, .ref qf5, .ref qf6, .ref qf7, .ref qf8, .ref qf9, .ref qf10, .ref qf11, .ref qf12, .ref qf13, .ref qf14, .ref qf15, .ref qf16, .ref qf17, .ref qf18, .ref qf19, .int v20])), (qf10, .inl (cf10, 96, .inl f10)), (qf9, .inl (cf9, 8, .inl f9)), (qf15, .inl (cf15, 96, .inl f15)), (qf17, .inl (cf17, 576, .inl f17))] t.heap ∧ va_K (dC, dI) vwCl [(cf10, .int), (cf9, .int), (cf15, .int), (cf17, .int)] t ∧ va_D (va_A [(h0, .inr (2, [.ref qf0, .ref qf1, .int v2, .ref qf3, .ref qf4, .ref qf5, .ref qf6, .ref qf7, .ref qf8, .ref qf9, .ref qf10, .ref qf11, .ref qf12, .ref qf13, .ref qf14, .ref qf15, .ref qf16, .ref qf17, .ref qf18, .ref qf19, .int v20])), (qf10, .inl (cf10, 96, .inl f10)), (qf9, .inl (cf9, 8, .inl f9)), (qf15, .inl (cf15, 96, .inl f15)), (qf17, .inl (cf17, 576, .inl f17))] sz) [(h0, .inr (2, [.ref qf0, .ref qf1, .int v2, .ref qf3, .ref qf4, .ref qf5, .ref qf6, .ref qf7, .ref qf8, .ref qf9, .ref qf10, .ref qf11, .ref qf12, .ref qf13, .ref qf14, .ref qf15, .ref qf16, .ref qf17, .ref qf18, .ref qf19, .int v20])), (qf10, .inl (cf10, 96, .inl f10)), (qf9, .inl (cf9, 8, .inl f9)), (qf15, .inl (cf15, 96, .inl f15)), (qf17, .inl (cf17, 576, .inl f17))]) (va_A [(h0, .inr (2, [.ref qf0, .ref qf1, .int v2, .ref qf3, .ref qf4, .ref qf5, .ref qf6, .ref qf7, .ref qf8, .ref qf9, .ref qf10, .ref qf11, .ref qf12, .ref qf13, .ref qf14, .ref qf15, .ref qf16, .ref qf17, .ref qf18, .ref qf19, .int v20])), (qf10, .inl (cf10, 96, .inl f10)), (qf9, .inl (cf9, 8, .inl f9)), (qf15, .inl (cf15, 96, .inl f15)), (qf17, .inl (cf17, 576, .inl f17))] sz)) 0 0 (va_A [(h0, .inr (2, [.ref qf0, .ref qf1, .int v2, .ref qf3, .ref qf4, .ref qf5, .ref qf6, .ref qf7, .ref qf8, .ref qf9, .ref qf10, .ref qf11, .ref qf12, .ref qf13, .ref qf14, .ref qf15, .ref qf16, .ref qf17, .ref qf18, .ref qf19, .int v20])), (qf10, .inl (cf10, 96, .inl f10)), (qf9, .inl (cf9, 8, .inl f9)), (qf15, .inl (cf15, 96, .inl f15)), (qf17, .inl (cf17, 576, .inl f17))] sz) := by
  refine Met.ofW (cc := cX2_parameterType) (maxL := 3) (ret := (some .int)) (by decide) rfl ?_
  intro p e s m args below meth c s₁ B hml hv
  obtain ⟨rfl, hsz, hP, hK, hD0⟩ := hv
  have hx := B.exec
  have hb := B.bytes
  have hr := B.returns
  have hts := atoms_spec (ws := (.code yX2_parameterType cX2_parameterType 3 (some .int) :: VS_h4)) B.pre
  replace hts := fun w (h : w ∈ VS_h4) => hts w (List.mem_cons_of_mem _ h)
  have hown : s.vm.findClass RX2 = some m.cls := findClass_of_methodNamed B.named
  have hlocks := B.notSynchronized
  subst hsz
  have hD := hD0.self (sz := s.heap.size)
  generalize hAe : va_A [(h0, .inr (2, [.ref qf0, .ref qf1, .int v2, .ref qf3, .ref qf4, .ref qf5, .ref qf6, .ref qf7, .ref qf8, .ref qf9, .ref qf10, .ref qf11, .ref qf12, .ref qf13, .ref qf14, .ref qf15, .ref qf16, .ref qf17, .ref qf18, .ref qf19, .int v20])), (qf10, .inl (cf10, 96, .inl f10)), (qf9, .inl (cf9, 8, .inl f9)), (qf15, .inl (cf15, 96, .inl f15)), (qf17, .inl (cf17, 576, .inl f17))] s.heap.size = A at hD  ⊢
  have hA : ∀ q : Nat, s.heap.size ≤ q → A q := fun q h => by rw [← hAe]; exact Or.inr h
  have hP : va_P (dC, dI) vwCl [(h0, .inr (2, [.ref qf0, .ref qf1, .int v2, .ref qf3, .ref qf4, .ref qf5, .ref qf6, .ref qf7, .ref qf8, .ref qf9, .ref qf10, .ref qf11, .ref qf12, .ref qf13, .ref qf14, .ref qf15, .ref qf16, .ref qf17, .ref qf18, .ref qf19, .int v20])), (qf10, .inl (cf10, 96, .inl f10)), (qf9, .inl (cf9, 8, .inl f9)), (qf15, .inl (cf15, 96, .inl f15)), (qf17, .inl (cf17, 576, .inl f17))] s.heap := hP
  have hl := lv_entry ([.ref h0, .int a1, .int a2]) (n := 3) (Nat.le_of_ble_eq_true rfl)
  rw [lg_entry_eq]
  generalize (lg_sl ([.ref h0, .int a1, .int a2]) ++ List.replicate (3 - (lg_sl ([.ref h0, .int a1, .int a2])).length) Slot.unset).toArray = ls at hl ⊢
  have hl : lv_has ls 3 [(0, .ref h0), (1, .int a1), (2, .int a2)] := hl
  obtain ⟨H, hH⟩ : ∃ H : Heap, s.heap = H := ⟨_, rfl⟩
  rw [hH] at hP ⊢
  have hS : va_S A s.heap H [] := by rw [← hH]; exact va_S.rf
  obtain ⟨locs, hlo⟩ : ∃ locs : List Loc, locs = [] := ⟨_, rfl⟩
  rw [← hlo] at hS ⊢
  unfold sp_t2_parameterType at hsp
  refine lv_iload_n hx hb dX2_parameterType_0 rfl (lv_at hl 2 rfl) ?_
  refine lv_if_lt (tgt := 27) hx hb dX2_parameterType_1 (by decide) (fun c_1 => ?_) (fun c_1 => ?_)
  · rw [if_pos c_1] at hsp
    refine lv_sipush (v := 305) hx hb dX2_parameterType_27 (by decide) ?_
    have hr0 := Option.some.inj hsp
    clear hsp
    subst hr0
    have hP9 := hP.sub (ws' := [(h0, .inr (2, [.ref qf0, .ref qf1, .int v2, .ref qf3, .ref qf4, .ref qf5, .ref qf6, .ref qf7, .ref qf8, .ref qf9, .ref qf10, .ref qf11, .ref qf12, .ref qf13, .ref qf14, .ref qf15, .ref qf16, .ref qf17, .ref qf18, .ref qf19, .int v20])), (qf10, .inl (cf10, 96, .inl f10)), (qf9, .inl (cf9, 8, .inl f9)), (qf15, .inl (cf15, 96, .inl f15)), (qf17, .inl (cf17, 576, .inl f17))]) [0, 1, 2, 3, 4] rfl
    have hD9 := hD.sub (ws' := [(h0, .inr (2, [.ref qf0, .ref qf1, .int v2, .ref qf3, .ref qf4, .ref qf5, .ref qf6, .ref qf7, .ref qf8, .ref qf9, .ref qf10, .ref qf11, .ref qf12, .ref qf13, .ref qf14, .ref qf15, .ref qf16, .ref qf17, .ref qf18, .ref qf19, .int v20])), (qf10, .inl (cf10, 96, .inl f10)), (qf9, .inl (cf9, 8, .inl f9)), (qf15, .inl (cf15, 96, .inl f15)), (qf17, .inl (cf17, 576, .inl f17))]) [0, 1, 2, 3, 4] (by decide) rfl
    have hK9 := hK.sub (tys' := [(cf10, .int), (cf9, .int), (cf15, .int), (cf17, .int)]) [0, 1, 2, 3] rfl
    exact W.iret hx hb hr (fun t ht hW => ⟨⟨(305), (), rfl, rfl, by rw [ht]; exact hP9, va_K.moved hW.alike hK9, hD9⟩, hS.F ht⟩) hS.2.2 dX2_parameterType_30
  · rw [if_neg c_1] at hsp
    refine lv_iload_n hx hb dX2_parameterType_4 rfl (lv_at hl 2 rfl) ?_
    refine lv_aload_n hx hb dX2_parameterType_5 rfl (lv_at hl 0 rfl) ?_
    refine lv_iload_n hx hb dX2_parameterType_6 rfl (lv_at hl 1 rfl) ?_
    obtain ⟨u1_0, hu_1, hsp⟩ := ox_bind hsp
    try dsimp only at hsp
    have hPc := hP.sub (ws' := [(h0, .inr (2, [.ref qf0, .ref qf1, .int v2, .ref qf3, .ref qf4, .ref qf5, .ref qf6, .ref qf7, .ref qf8, .ref qf9, .ref qf10, .ref qf11, .ref qf12, .ref qf13, .ref qf14, .ref qf15, .ref qf16, .ref qf17, .ref qf18, .ref qf19, .int v20])), (qf10, .inl (cf10, 96, .inl f10)), (qf9, .inl (cf9, 8, .inl f9)), (qf15, .inl (cf15, 96, .inl f15))]) [0, 1, 2, 3] rfl
    have hDc := hD.sub (ws' := [(h0, .inr (2, [.ref qf0, .ref qf1, .int v2, .ref qf3, .ref qf4, .ref qf5, .ref qf6, .ref qf7, .ref qf8, .ref qf9, .ref qf10, .ref qf11, .ref qf12, .ref qf13, .ref qf14, .ref qf15, .ref qf16, .ref qf17, .ref qf18, .ref qf19, .int v20])), (qf10, .inl (cf10, 96, .inl f10)), (qf9, .inl (cf9, 8, .inl f9)), (qf15, .inl (cf15, 96, .inl f15))]) [0, 1, 2, 3] (by decide) rfl
    have hKc := hK.sub (tys' := [(cf10, .int), (cf9, .int), (cf15, .int)]) [0, 1, 2] rfl
    have hFc := va_free (wc := [(h0, .inr (2, [.ref qf0, .ref qf1, .int v2, .ref qf3, .ref qf4, .ref qf5, .ref qf6, .ref qf7, .ref qf8, .ref qf9, .ref qf10, .ref qf11, .ref qf12, .ref qf13, .ref qf14, .ref qf15, .ref qf16, .ref qf17, .ref qf18, .ref qf19, .int v20])), (qf10, .inl (cf10, 96, .inl f10)), (qf9, .inl (cf9, 8, .inl f9)), (qf15, .inl (cf15, 96, .inl f15))]) hD hS hA [0, 1, 2, 3] rfl
    refine va_calli (va_runV (As := [.int a1]) (rest := [.int a2]) ⟨hx, hb, hml, hown, hts⟩ (t2_parametersOf l dC dI H.size h0 a1 qf0 qf1 v2 qf3 qf4 qf5 qf6 qf7 qf8 qf9 qf10 qf11 qf12 qf13 qf14 qf15 qf16 qf17 qf18 qf19 v20 cf10 f10 cf9 f9 cf15 f15 nf u1_0 hu_1) (cwV 1 hts gv_h4_40 rfl rfl rfl (by decide +kernel) ⟨Nat.le_of_ble_eq_true rfl, Nat.le_of_ble_eq_true rfl⟩) ⟨fun a U g mk q => by obtain ⟨q0, q1, qP, qK, qD⟩ := q; exact ⟨q0, q1, qP, va_K.moved (u := U) (U := U.calling g mk a) (Vm.Alike.refl U.vm) qK, qD⟩, va_recv hKc hPc (ci := 2) (q0 := 0) rfl rfl, fun U hU hW => ⟨rfl, by rw [hU], by rw [hU]; exact hPc, va_K.moved hW.alike hKc, hDc.weaken (fun _ _ _ _ => trivial)⟩⟩ rfl rfl hl.1 rfl (lv_room (Nat.le_of_ble_eq_true rfl)) dX2_parameterType_7 ⟨Nat.le_of_ble_eq_true rfl, Nat.le_of_ble_eq_true rfl⟩) hS (fun q _ h => hFc q h) hFc ?_
    clear hS
    intro r_2 u t H1 locs ht hvm hw hB hz1 hk1 hS
    obtain ⟨⟩ := u
    obtain ⟨hP1, hK1, hD1⟩ := hB
    rw [ht] at hP1
    have hK1 := va_K.moved hvm.symm hK1
    try dsimp only at hw
    have hPD := va_join (wr := [(qf17, .inl (cf17, 576, .inl f17))]) (w1 := [(h0, .inr (2, [.ref qf0, .ref qf1, .int v2, .ref qf3, .ref qf4, .ref qf5, .ref qf6, .ref qf7, .ref qf8, .ref qf9, .ref qf10, .ref qf11, .ref qf12, .ref qf13, .ref qf14, .ref qf15, .ref qf16, .ref qf17, .ref qf18, .ref qf19, .int v20])), (qf10, .inl (cf10, 96, .inl f10)), (qf9, .inl (cf9, 8, .inl f9)), (qf15, .inl (cf15, 96, .inl f15))]) hP hD [0, 1, 2, 3] [4] rfl rfl (by decide) (by decide) hk1 hFc hP1 hD1
    clear hP hD
    obtain ⟨hP, hD⟩ := hPD
    replace hK := (hK.sub (tys' := [(cf17, .int)]) [3] rfl).app hK1
    clear hPc hDc hKc hFc hP1 hK1 hD1 hz1 hk1 ht hvm
    generalize H1 = H at hP hS ⊢
    replace hP : va_P (dC, dI) vwCl [(qf17, .inl (cf17, 576, .inl f17)), (h0, .inr (2, [.ref qf0, .ref qf1, .int v2, .ref qf3, .ref qf4, .ref qf5, .ref qf6, .ref qf7, .ref qf8, .ref qf9, .ref qf10, .ref qf11, .ref qf12, .ref qf13, .ref qf14, .ref qf15, .ref qf16, .ref qf17, .ref qf18, .ref qf19, .int v20])), (qf10, .inl (cf10, 96, .inl f10)), (qf9, .inl (cf9, 8, .inl f9)), (qf15, .inl (cf15, 96, .inl f15))] H := hP
    replace hD : va_D A [(qf17, .inl (cf17, 576, .inl f17)), (h0, .inr (2, [.ref qf0, .ref qf1, .int v2, .ref qf3, .ref qf4, .ref qf5, .ref qf6, .ref qf7, .ref qf8, .ref qf9, .ref qf10, .ref qf11, .ref qf12, .ref qf13, .ref qf14, .ref qf15, .ref qf16, .ref qf17, .ref qf18, .ref qf19, .int v20])), (qf10, .inl (cf10, 96, .inl f10)), (qf9, .inl (cf9, 8, .inl f9)), (qf15, .inl (cf15, 96, .inl f15))] := hD
    replace hK : va_K (dC, dI) vwCl [(cf17, .int), (cf10, .int), (cf9, .int), (cf15, .int)] s := hK
    obtain rfl := hw
    refine lv_icmp_ge (tgt := 27) hx hb dX2_parameterType_10 (by decide) (fun c_3 => ?_) (fun c_3 => ?_)
    · rw [if_pos c_3] at hsp
      refine lv_sipush (v := 305) hx hb dX2_parameterType_27 (by decide) ?_
      have hr0 := Option.some.inj hsp
      clear hsp
      subst hr0
      have hP9 := hP.sub (ws' := [(h0, .inr (2, [.ref qf0, .ref qf1, .int v2, .ref qf3, .ref qf4, .ref qf5, .ref qf6, .ref qf7, .ref qf8, .ref qf9, .ref qf10, .ref qf11, .ref qf12, .ref qf13, .ref qf14, .ref qf15, .ref qf16, .ref qf17, .ref qf18, .ref qf19, .int v20])), (qf10, .inl (cf10, 96, .inl f10)), (qf9, .inl (cf9, 8, .inl f9)), (qf15, .inl (cf15, 96, .inl f15)), (qf17, .inl (cf17, 576, .inl f17))]) [1, 2, 3, 4, 0] rfl
      have hD9 := hD.sub (ws' := [(h0, .inr (2, [.ref qf0, .ref qf1, .int v2, .ref qf3, .ref qf4, .ref qf5, .ref qf6, .ref qf7, .ref qf8, .ref qf9, .ref qf10, .ref qf11, .ref qf12, .ref qf13, .ref qf14, .ref qf15, .ref qf16, .ref qf17, .ref qf18, .ref qf19, .int v20])), (qf10, .inl (cf10, 96, .inl f10)), (qf9, .inl (cf9, 8, .inl f9)), (qf15, .inl (cf15, 96, .inl f15)), (qf17, .inl (cf17, 576, .inl f17))]) [1, 2, 3, 4, 0] (by decide) rfl
      have hK9 := hK.sub (tys' := [(cf10, .int), (cf9, .int), (cf15, .int), (cf17, .int)]) [1, 2, 3, 0] rfl
      exact W.iret hx hb hr (fun t ht hW => ⟨⟨(305), (), rfl, rfl, by rw [ht]; exact hP9, va_K.moved hW.alike hK9, hD9⟩, hS.F ht⟩) hS.2.2 dX2_parameterType_30
    · rw [if_neg c_3] at hsp
      refine lv_aload_n hx hb dX2_parameterType_13 rfl (lv_at hl 0 rfl) ?_
      refine va_get (D := (dC, dI)) (ci := 2) (v := .ref qf17) (C := RX2) (T := TX2) (N := 21) hx hb hts uV_h4_X2 hown hK hP 1 rfl rfl 17 (by decide) (hts (.fieldLink RX2 64 "ClassMill$Heads" "parameterType" "[I") mw_h4_172) (fun _ h9 => h9) rfl dX2_parameterType_14 ?_
      refine lv_iload_n hx hb dX2_parameterType_17 rfl (lv_at hl 1 rfl) ?_
      refine lv_bipush (v := 6) hx hb dX2_parameterType_18 (by decide) ?_
      refine lv_imul hx hb dX2_parameterType_20 ?_
      refine lv_iload_n hx hb dX2_parameterType_21 rfl (lv_at hl 2 rfl) ?_
      refine lv_iadd hx hb dX2_parameterType_22 ?_
      obtain ⟨hi_4, hsp⟩ := ox_in hsp
      refine va_iald hx hb hK hP 0 0 rfl rfl (i := ((a1 * 6) + a2)) hi_4 dX2_parameterType_23 ?_
      refine lv_goto (tgt := 30) hx hb dX2_parameterType_24 (by decide) ?_
      have hr0 := Option.some.inj hsp
      clear hsp
      subst hr0
      have hP9 := hP.sub (ws' := [(h0, .inr (2, [.ref qf0, .ref qf1, .int v2, .ref qf3, .ref qf4, .ref qf5, .ref qf6, .ref qf7, .ref qf8, .ref qf9, .ref qf10, .ref qf11, .ref qf12, .ref qf13, .ref qf14, .ref qf15, .ref qf16, .ref qf17, .ref qf18, .ref qf19, .int v20])), (qf10, .inl (cf10, 96, .inl f10)), (qf9, .inl (cf9, 8, .inl f9)), (qf15, .inl (cf15, 96, .inl f15)), (qf17, .inl (cf17, 576, .inl f17))]) [1, 2, 3, 4, 0] rfl
      have hD9 := hD.sub (ws' := [(h0, .inr (2, [.ref qf0, .ref qf1, .int v2, .ref qf3, .ref qf4, .ref qf5, .ref qf6, .ref qf7, .ref qf8, .ref qf9, .ref qf10, .ref qf11, .ref qf12, .ref qf13, .ref qf14, .ref qf15, .ref qf16, .ref qf17, .ref qf18, .ref qf19, .int v20])), (qf10, .inl (cf10, 96, .inl f10)), (qf9, .inl (cf9, 8, .inl f9)), (qf15, .inl (cf15, 96, .inl f15)), (qf17, .inl (cf17, 576, .inl f17))]) [1, 2, 3, 4, 0] (by decide) rfl
      have hK9 := hK.sub (tys' := [(cf10, .int), (cf9, .int), (cf15, .int), (cf17, .int)]) [1, 2, 3, 0] rfl
      exact W.iret hx hb hr (fun t ht hW => ⟨⟨((f17 (((a1 * 6) + a2) : Int32).toNatClampNeg)), (), rfl, rfl, by rw [ht]; exact hP9, va_K.moved hW.alike hK9, hD9⟩, hS.F ht⟩) hS.2.2 dX2_parameterType_30
def sp_t2_parameterName (nf : Nat) (a1 : Int32) (a2 : Int32) (f9 : Nat → Int32) (f15 : Nat → Int32) (f16 : Nat → Int32) : Option (Int32) := (if a2 < 0 then (some (-1)) else ((sp_t2_parametersOf nf a1 f9 f15).bind (fun p1 => (if p1 ≤ a2 then (some (-1)) else (if ((a1 * 6) + a2) < 0 then none else if 576 ≤ (((a1 * 6) + a2) : Int32).toNatClampNeg then none else (some (f16 (((a1 * 6) + a2) : Int32).toNatClampNeg)))))))
set_option maxHeartbeats 4000000 in
set_option maxRecDepth 100000 in
/-- ClassMill$Heads.parameterName -/
theorem t2_parameterName (l : Launch) (dC : Nat → ClassId) (dI : Nat → Nat → Nat) (sz : Nat) (h0 : Nat) (a1 : Int32) (a2 : Int32) (qf0 : Nat) (qf1 : Nat) (v2 : Int32) (qf3 : Nat) (qf4 : Nat) (qf5 : Nat) (qf6 : Nat) (qf7 : Nat) (qf8 : Nat) (qf9 : Nat) (qf10 : Nat) (qf11 : Nat) (qf12 : Nat) (qf13 : Nat) (qf14 : Nat) (qf15 : Nat) (qf16 : Nat) (qf17 : Nat) (qf18 : Nat) (qf19 : Nat) (v20 : Int32) (cf10 : ClassId) (f10 : (Nat → Int32)) (cf9 : ClassId) (f9 : (Nat → Int32)) (cf15 : ClassId) (f15 : (Nat → Int32)) (cf16 : ClassId) (f16 : (Nat → Int32)) (nf : Nat) (r0 : Int32) (hsp : sp_t2_parameterName nf a1 a2 f9 f15 f16 = some r0) : Met l yX2_parameterName (.code yX2_parameterName cX2_parameterName 3 (some .int) :: VS_h4) ({ frames := 2, cells := 0, slots := 0, locals := 42 }) (va_Pc [.ref h0, .int a1, .int a2] (fun U => U.heap.size = sz ∧ va_P (dC, dI) vwCl [(h0, .inr (2, [.ref qf0, .ref qf1, .int v2, .ref qf3, .ref qf4, .ref qf5, .ref qf6, .ref qf7, .ref qf8, .ref qf9, .ref qf10, .ref qf11, .ref qf12, .ref qf13, .ref qf14, .ref qf15, .ref qf16, .ref qf17, .ref qf18, .ref qf19, .int v20])), (qf10, .inl (cf10, 96, .inl f10)), (qf9, .inl (cf9, 8, .inl f9)), (qf15, .inl (cf15, 96, .inl f15)), (qf16, .inl (cf16, 576, .inl f16))] U.heap ∧ va_K (dC, dI) vwCl [(cf10, .int), (cf9, .int), (cf15, .int), (cf16, .int)] U ∧ va_D (fun _ => True) [(h0, .inr (2, [.ref qf0, .ref qf1, .int v2, .ref qf3, .ref qf4, .ref qf5, .ref qf6, .ref qf7, .ref qf8, .ref qf9, .ref qf10, .ref qf11, .ref qf12, .ref qf13, .ref qf14, .ref qf15, .ref qf16, .ref qf17, .ref qf18, .ref qf19, .int v20])), (qf10, .inl (cf10, 96, .inl f10)), (qf9, .inl (cf9, 8, .inl f9)), (qf15, .inl (cf15, 96, .inl f15)), (qf16, .inl (cf16, 576, .inl f16))])) (va_Qi (fun (r : Int32) (u : Unit) => match u with | () => r0 = r) (fun (u : Unit) (t : State) => match u with | () => va_P (dC, dI) vwCl [(h0, .inr (2, [.ref qf0, .ref qf1, .int v2, .ref qf3, .ref qf4, .ref qf5, .ref qf6, .ref qf7, .ref qf8, .ref qf9, .ref qf10, .ref qf11, .ref qf12, .ref qf13, .ref qf14, .ref qf15, .ref qf16, .ref qf17, .ref qf18, .ref qf19, .int v20])), (qf10, .inl (cf10, 96, .inl f10)), (qf9, .inl (cf9, 8, .inl f9)), (qf15, .inl (cf15, 96, .inl f15)), (qf16, .inl (cf16, 576, .inl f16))] t.heap ∧ va_K (dC, dI) vwCl [(cf10, .int), (cf9, .int), (cf15, .int), (cf16, .int)] t ∧ va_D (va_A [(h0, .inr (2, [.ref qf0, .ref qf1, .int v2, .ref qf3, .ref qf4, .ref qf5, .ref qf6, .ref qf7, .ref qf8, .ref qf9, .ref qf10, .ref qf11, .ref qf12, .ref qf13, .ref qf14, .ref qf15, .ref qf16, .ref qf17, .ref qf18, .ref qf19, .int v20])), (qf10, .inl (cf10, 96, .inl f10)), (qf9, .inl (cf9, 8, .inl f9)), (qf15, .inl (cf15, 96, .inl f15)), (qf16, .inl (cf16, 576, .inl f16))] sz) [(h0, .inr (2, [.ref qf0, .ref qf1, .int v2, .ref qf3, .ref qf4, .ref qf5, .ref qf6, .ref qf7, .ref qf8, .ref qf9, .ref qf10, .ref qf11, .ref qf12, .ref qf13, .ref qf14, .ref qf15, .ref qf16, .ref qf17, .ref qf18, .ref qf19, .int v20])), (qf10, .inl (cf10, 96, .inl f10)), (qf9, .inl (cf9, 8, .inl f9)), (qf15, .inl (cf15, 96, .inl f15)), (qf16, .inl (cf16, 576, .inl f16))]) (va_A [(h0, .inr (2, [.ref qf0, .ref qf1, .int v2, .ref qf3, .ref qf4, .ref qf5, .ref qf6, .ref qf7, .ref qf8, .ref qf9, .ref qf10, .ref qf11, .ref qf12, .ref qf13, .ref qf14, .ref qf15, .ref qf16, .ref qf17, .ref qf18, .ref qf19, .int v20])), (qf10, .inl (cf10, 96, .inl f10)), (qf9, .inl (cf9, 8, .inl f9)), (qf15, .inl (cf15, 96, .inl f15)), (qf16, .inl (cf16, 576, .inl f16))] sz)) 0 0 (va_A [(h0, .inr (2, [.ref qf0, .ref qf1, .int v2, .ref qf3, .ref qf4, .ref qf5, .ref qf6, .ref qf7, .ref qf8, .ref qf9, .ref qf10, .ref qf11, .ref qf12, .ref qf13, .ref qf14, .ref qf15, .ref qf16, .ref qf17, .ref qf18, .ref qf19, .int v20])), (qf10, .inl (cf10, 96, .inl f10)), (qf9, .inl (cf9, 8, .inl f9)), (qf15, .inl (cf15, 96, .inl f15)), (qf16, .inl (cf16, 576, .inl f16))] sz) := by
  refine Met.ofW (cc := cX2_parameterName) (maxL := 3) (ret := (some .int)) (by decide) rfl ?_
  intro p e s m args below meth c s₁ B hml hv
  obtain ⟨rfl, hsz, hP, hK, hD0⟩ := hv
  have hx := B.exec
  have hb := B.bytes
  have hr := B.returns
  have hts := atoms_spec (ws := (.code yX2_parameterName cX2_parameterName 3 (some .int) :: VS_h4)) B.pre
  replace hts := fun w (h : w ∈ VS_h4) => hts w (List.mem_cons_of_mem _ h)
  have hown : s.vm.findClass RX2 = some m.cls := findClass_of_methodNamed B.named
  have hlocks := B.notSynchronized
  subst hsz
  have hD := hD0.self (sz := s.heap.size)
  generalize hAe : va_A [(h0, .inr (2, [.ref qf0, .ref qf1, .int v2, .ref qf3, .ref qf4, .ref qf5, .ref qf6, .ref qf7, .ref qf8, .ref qf9, .ref qf10, .ref qf11, .ref qf12, .ref qf13, .ref qf14, .ref qf15, .ref qf16, .ref qf17, .ref qf18, .ref qf19, .int v20])), (qf10, .inl (cf10, 96, .inl f10)), (qf9, .inl (cf9, 8, .inl f9)), (qf15, .inl (cf15, 96, .inl f15)), (qf16, .inl (cf16, 576, .inl f16))] s.heap.size = A at hD  ⊢
  have hA : ∀ q : Nat, s.heap.size ≤ q → A q := fun q h => by rw [← hAe]; exact Or.inr h
  have hP : va_P (dC, dI) vwCl [(h0, .inr (2, [.ref qf0, .ref qf1, .int v2, .ref qf3, .ref qf4, .ref qf5, .ref qf6, .ref qf7, .ref qf8, .ref qf9, .ref qf10, .ref qf11, .ref qf12, .ref qf13, .ref qf14, .ref qf15, .ref qf16, .ref qf17, .ref qf18, .ref qf19, .int v20])), (qf10, .inl (cf10, 96, .inl f10)), (qf9, .inl (cf9, 8, .inl f9)), (qf15, .inl (cf15, 96, .inl f15)), (qf16, .inl (cf16, 576, .inl f16))] s.heap := hP
  have hl := lv_entry ([.ref h0, .int a1, .int a2]) (n := 3) (Nat.le_of_ble_eq_true rfl)
  rw [lg_entry_eq]
  generalize (lg_sl ([.ref h0, .int a1, .int a2]) ++ List.replicate (3 - (lg_sl ([.ref h0, .int a1, .int a2])).length) Slot.unset).toArray = ls at hl ⊢
  have hl : lv_has ls 3 [(0, .ref h0), (1, .int a1), (2, .int a2)] := hl
  obtain ⟨H, hH⟩ : ∃ H : Heap, s.heap = H := ⟨_, rfl⟩
  rw [hH] at hP ⊢
  have hS : va_S A s.heap H [] := by rw [← hH]; exact va_S.rf
  obtain ⟨locs, hlo⟩ : ∃ locs : List Loc, locs = [] := ⟨_, rfl⟩
  rw [← hlo] at hS ⊢
  unfold sp_t2_parameterName at hsp
  refine lv_iload_n hx hb dX2_parameterName_0 rfl (lv_at hl 2 rfl) ?_
  refine lv_if_lt (tgt := 27) hx hb dX2_parameterName_1 (by decide) (fun c_1 => ?_) (fun c_1 => ?_)
  · rw [if_pos c_1] at hsp
    refine lv_iconst (v := (-1)) hx hb dX2_parameterName_27 (by decide) ?_
    have hr0 := Option.some.inj hsp
    clear hsp
    subst hr0
    have hP9 := hP.sub (ws' := [(h0, .inr (2, [.ref qf0, .ref qf1, .int v2, .ref qf3, .ref qf4, .ref qf5, .ref qf6, .ref qf7, .ref qf8, .ref qf9, .ref qf10, .ref qf11, .ref qf12, .ref qf13, .ref qf14, .ref qf15, .ref qf16, .ref qf17, .ref qf18, .ref qf19, .int v20])), (qf10, .inl (cf10, 96, .inl f10)), (qf9, .inl (cf9, 8, .inl f9)), (qf15, .inl (cf15, 96, .inl f15)), (qf16, .inl (cf16, 576, .inl f16))]) [0, 1, 2, 3, 4] rfl
    have hD9 := hD.sub (ws' := [(h0, .inr (2, [.ref qf0, .ref qf1, .int v2, .ref qf3, .ref qf4, .ref qf5, .ref qf6, .ref qf7, .ref qf8, .ref qf9, .ref qf10, .ref qf11, .ref qf12, .ref qf13, .ref qf14, .ref qf15, .ref qf16, .ref qf17, .ref qf18, .ref qf19, .int v20])), (qf10, .inl (cf10, 96, .inl f10)), (qf9, .inl (cf9, 8, .inl f9)), (qf15, .inl (cf15, 96, .inl f15)), (qf16, .inl (cf16, 576, .inl f16))]) [0, 1, 2, 3, 4] (by decide) rfl
    have hK9 := hK.sub (tys' := [(cf10, .int), (cf9, .int), (cf15, .int), (cf16, .int)]) [0, 1, 2, 3] rfl
    exact W.iret hx hb hr (fun t ht hW => ⟨⟨((-1)), (), rfl, rfl, by rw [ht]; exact hP9, va_K.moved hW.alike hK9, hD9⟩, hS.F ht⟩) hS.2.2 dX2_parameterName_28
  · rw [if_neg c_1] at hsp
    refine lv_iload_n hx hb dX2_parameterName_4 rfl (lv_at hl 2 rfl) ?_
    refine lv_aload_n hx hb dX2_parameterName_5 rfl (lv_at hl 0 rfl) ?_
    refine lv_iload_n hx hb dX2_parameterName_6 rfl (lv_at hl 1 rfl) ?_
    obtain ⟨u1_0, hu_1, hsp⟩ := ox_bind hsp
    try dsimp only at hsp
    have hPc := hP.sub (ws' := [(h0, .inr (2, [.ref qf0, .ref qf1, .int v2, .ref qf3, .ref qf4, .ref qf5, .ref qf6, .ref qf7, .ref qf8, .ref qf9, .ref qf10, .ref qf11, .ref qf12, .ref qf13, .ref qf14, .ref qf15, .ref qf16, .ref qf17, .ref qf18, .ref qf19, .int v20])), (qf10, .inl (cf10, 96, .inl f10)), (qf9, .inl (cf9, 8, .inl f9)), (qf15, .inl (cf15, 96, .inl f15))]) [0, 1, 2, 3] rfl
    have hDc := hD.sub (ws' := [(h0, .inr (2, [.ref qf0, .ref qf1, .int v2, .ref qf3, .ref qf4, .ref qf5, .ref qf6, .ref qf7, .ref qf8, .ref qf9, .ref qf10, .ref qf11, .ref qf12, .ref qf13, .ref qf14, .ref qf15, .ref qf16, .ref qf17, .ref qf18, .ref qf19, .int v20])), (qf10, .inl (cf10, 96, .inl f10)), (qf9, .inl (cf9, 8, .inl f9)), (qf15, .inl (cf15, 96, .inl f15))]) [0, 1, 2, 3] (by decide) rfl
    have hKc := hK.sub (tys' := [(cf10, .int), (cf9, .int), (cf15, .int)]) [0, 1, 2] rfl
    have hFc := va_free (wc := [(h0, .inr (2, [.ref qf0, .ref qf1, .int v2, .ref qf3, .ref qf4, .ref qf5, .ref qf6, .ref qf7, .ref qf8, .ref qf9, .ref qf10, .ref qf11, .ref qf12, .ref qf13, .ref qf14, .ref qf15, .ref qf16, .ref qf17, .ref qf18, .ref qf19, .int v20])), (qf10, .inl (cf10, 96, .inl f10)), (qf9, .inl (cf9, 8, .inl f9)), (qf15, .inl (cf15, 96, .inl f15))]) hD hS hA [0, 1, 2, 3] rfl
    refine va_calli (va_runV (As := [.int a1]) (rest := [.int a2]) ⟨hx, hb, hml, hown, hts⟩ (t2_parametersOf l dC dI H.size h0 a1 qf0 qf1 v2 qf3 qf4 qf5 qf6 qf7 qf8 qf9 qf10 qf11 qf12 qf13 qf14 qf15 qf16 qf17 qf18 qf19 v20 cf10 f10 cf9 f9 cf15 f15 nf u1_0 hu_1) (cwV 1 hts gv_h4_40 rfl rfl rfl (by decide +kernel) ⟨Nat.le_of_ble_eq_true rfl, Nat.le_of_ble_eq_true rfl⟩) ⟨fun a U g mk q => by obtain ⟨q0, q1, qP, qK, qD⟩ := q; exact ⟨q0, q1, qP, va_K.moved (u := U) (U := U.calling g mk a) (Vm.Alike.refl U.vm) qK, qD⟩, va_recv hKc hPc (ci := 2) (q0 := 0) rfl rfl, fun U hU hW => ⟨rfl, by rw [hU], by rw [hU]; exact hPc, va_K.moved hW.alike hKc, hDc.weaken (fun _ _ _ _ => trivial)⟩⟩ rfl rfl hl.1 rfl (lv_room (Nat.le_of_ble_eq_true rfl)) dX2_parameterName_7 ⟨Nat.le_of_ble_eq_true rfl, Nat.le_of_ble_eq_true rfl⟩) hS (fun q _ h => hFc q h) hFc ?_
    clear hS
    intro r_2 u t H1 locs ht hvm hw hB hz1 hk1 hS
    obtain ⟨⟩ := u
    obtain ⟨hP1, hK1, hD1⟩ := hB
    rw [ht] at hP1
    have hK1 := va_K.moved hvm.symm hK1
    try dsimp only at hw
    have hPD := va_join (wr := [(qf16, .inl (cf16, 576, .inl f16))]) (w1 := [(h0, .inr (2, [.ref qf0, .ref qf1, .int v2, .ref qf3, .ref qf4, .ref qf5, .ref qf6, .ref qf7, .ref qf8, .ref qf9, .ref qf10, .ref qf11, .ref qf12, .ref qf13, .ref qf14, .ref qf15, .ref qf16, .ref qf17, .ref qf18, .ref qf19, .int v20])), (qf10, .inl (cf10, 96, .inl f10)), (qf9, .inl (cf9, 8, .inl f9)), (qf15, .inl (cf15, 96, .inl f15))]) hP hD [0, 1, 2, 3] [4] rfl rfl (by decide) (by decide) hk1 hFc hP1 hD1
    clear hP hD
    obtain ⟨hP, hD⟩ := hPD
    replace hK := (hK.sub (tys' := [(cf16, .int)]) [3] rfl).app hK1
    clear hPc hDc hKc hFc hP1 hK1 hD1 hz1 hk1 ht hvm
    generalize H1 = H at hP hS ⊢
    replace hP : va_P (dC, dI) vwCl [(qf16, .inl (cf16, 576, .inl f16)), (h0, .inr (2, [.ref qf0, .ref qf1, .int v2, .ref qf3, .ref qf4, .ref qf5, .ref qf6, .ref qf7, .ref qf8, .ref qf9, .ref qf10, .ref qf11, .ref qf12, .ref qf13, .ref qf14, .ref qf15, .ref qf16, .ref qf17, .ref qf18, .ref qf19, .int v20])), (qf10, .inl (cf10, 96, .inl f10)), (qf9, .inl (cf9, 8, .inl f9)), (qf15, .inl (cf15, 96, .inl f15))] H := hP
    replace hD : va_D A [(qf16, .inl (cf16, 576, .inl f16)), (h0, .inr (2, [.ref qf0, .ref qf1, .int v2, .ref qf3, .ref qf4, .ref qf5, .ref qf6, .ref qf7, .ref qf8, .ref qf9, .ref qf10, .ref qf11, .ref qf12, .ref qf13, .ref qf14, .ref qf15, .ref qf16, .ref qf17, .ref qf18, .ref qf19, .int v20])), (qf10, .inl (cf10, 96, .inl f10)), (qf9, .inl (cf9, 8, .inl f9)), (qf15, .inl (cf15, 96, .inl f15))] := hD
    replace hK : va_K (dC, dI) vwCl [(cf16, .int), (cf10, .int), (cf9, .int), (cf15, .int)] s := hK
    obtain rfl := hw
    refine lv_icmp_ge (tgt := 27) hx hb dX2_parameterName_10 (by decide) (fun c_3 => ?_) (fun c_3 => ?_)
    · rw [if_pos c_3] at hsp
      refine lv_iconst (v := (-1)) hx hb dX2_parameterName_27 (by decide) ?_
      have hr0 := Option.some.inj hsp
      clear hsp
      subst hr0
      have hP9 := hP.sub (ws' := [(h0, .inr (2, [.ref qf0, .ref qf1, .int v2, .ref qf3, .ref qf4, .ref qf5, .ref qf6, .ref qf7, .ref qf8, .ref qf9, .ref qf10, .ref qf11, .ref qf12, .ref qf13, .ref qf14, .ref qf15, .ref qf16, .ref qf17, .ref qf18, .ref qf19, .int v20])), (qf10, .inl (cf10, 96, .inl f10)), (qf9, .inl (cf9, 8, .inl f9)), (qf15, .inl (cf15, 96, .inl f15)), (qf16, .inl (cf16, 576, .inl f16))]) [1, 2, 3, 4, 0] rfl
      have hD9 := hD.sub (ws' := [(h0, .inr (2, [.ref qf0, .ref qf1, .int v2, .ref qf3, .ref qf4, .ref qf5, .ref qf6, .ref qf7, .ref qf8, .ref qf9, .ref qf10, .ref qf11, .ref qf12, .ref qf13, .ref qf14, .ref qf15, .ref qf16, .ref qf17, .ref qf18, .ref qf19, .int v20])), (qf10, .inl (cf10, 96, .inl f10)), (qf9, .inl (cf9, 8, .inl f9)), (qf15, .inl (cf15, 96, .inl f15)), (qf16, .inl (cf16, 576, .inl f16))]) [1, 2, 3, 4, 0] (by decide) rfl
      have hK9 := hK.sub (tys' := [(cf10, .int), (cf9, .int), (cf15, .int), (cf16, .int)]) [1, 2, 3, 0] rfl
      exact W.iret hx hb hr (fun t ht hW => ⟨⟨((-1)), (), rfl, rfl, by rw [ht]; exact hP9, va_K.moved hW.alike hK9, hD9⟩, hS.F ht⟩) hS.2.2 dX2_parameterName_28
    · rw [if_neg c_3] at hsp
      refine lv_aload_n hx hb dX2_parameterName_13 rfl (lv_at hl 0 rfl) ?_
      refine va_get (D := (dC, dI)) (ci := 2) (v := .ref qf16) (C := RX2) (T := TX2) (N := 21) hx hb hts uV_h4_X2 hown hK hP 1 rfl rfl 16 (by decide) (hts (.fieldLink RX2 61 "ClassMill$Heads" "parameterName" "[I") mw_h4_171) (fun _ h9 => h9) rfl dX2_parameterName_14 ?_
      refine lv_iload_n hx hb dX2_parameterName_17 rfl (lv_at hl 1 rfl) ?_
      refine lv_bipush (v := 6) hx hb dX2_parameterName_18 (by decide) ?_
      refine lv_imul hx hb dX2_parameterName_20 ?_
      refine lv_iload_n hx hb dX2_parameterName_21 rfl (lv_at hl 2 rfl) ?_
      refine lv_iadd hx hb dX2_parameterName_22 ?_
      obtain ⟨hi_4, hsp⟩ := ox_in hsp
      refine va_iald hx hb hK hP 0 0 rfl rfl (i := ((a1 * 6) + a2)) hi_4 dX2_parameterName_23 ?_
      refine lv_goto (tgt := 28) hx hb dX2_parameterName_24 (by decide) ?_
      have hr0 := Option.some.inj hsp
      clear hsp
      subst hr0
      have hP9 := hP.sub (ws' := [(h0, .inr (2, [.ref qf0, .ref qf1, .int v2, .ref qf3, .ref qf4, .ref qf5, .ref qf6, .ref qf7, .ref qf8, .ref qf9, .ref qf10, .ref qf11, .ref qf12, .ref qf13, .ref qf14, .ref qf15, .ref qf16, .ref qf17, .ref qf18, .ref qf19, .int v20])), (qf10, .inl (cf10, 96, .inl f10)), (qf9, .inl (cf9, 8, .inl f9)), (qf15, .inl (cf15, 96, .inl f15)), (qf16, .inl (cf16, 576, .inl f16))]) [1, 2, 3, 4, 0] rfl
      have hD9 := hD.sub (ws' := [(h0, .inr (2, [.ref qf0, .ref qf1, .int v2, .ref qf3, .ref qf4, .ref qf5, .ref qf6, .ref qf7, .ref qf8, .ref qf9, .ref qf10, .ref qf11, .ref qf12, .ref qf13, .ref qf14, .ref qf15, .ref qf16, .ref qf17, .ref qf18, .ref qf19, .int v20])), (qf10, .inl (cf10, 96, .inl f10)), (qf9, .inl (cf9, 8, .inl f9)), (qf15, .inl (cf15, 96, .inl f15)), (qf16, .inl (cf16, 576, .inl f16))]) [1, 2, 3, 4, 0] (by decide) rfl
      have hK9 := hK.sub (tys' := [(cf10, .int), (cf9, .int), (cf15, .int), (cf16, .int)]) [1, 2, 3, 0] rfl
      exact W.iret hx hb hr (fun t ht hW => ⟨⟨((f16 (((a1 * 6) + a2) : Int32).toNatClampNeg)), (), rfl, rfl, by rw [ht]; exact hP9, va_K.moved hW.alike hK9, hD9⟩, hS.F ht⟩) hS.2.2 dX2_parameterName_28
def sp_t2_checkClassHead (nf : Nat) (a1 : Int32) (v2 : Int32) (f3 : Nat → Int32) (v0_3 : Int32) (v0_11 : Int32) (v0_12 : Int32) (f0_2 : Nat → Int32) (f0_0 : Nat → Int32) (f4 : Nat → Int32) (f0_1 : Nat → Int32) : Option (Int32 × Int32) := (if a1 < 0 then none else if 334 ≤ (a1 : Int32).toNatClampNeg then none else (if a1 < 8 then ((sp_t2_classAt nf (f3 (a1 : Int32).toNatClampNeg) v0_3 f0_2 f0_0 f4).bind (fun p1 => (if p1 = (8 + a1) then ((sp_t2_classAbove nf a1 v2 f3 v0_3 f0_0 f0_2 f4).bind (fun p2 => (if p2 = (-1) then ((sp_t9_tell nf 5 ((f3 (a1 : Int32).toNatClampNeg) + 2) v0_3 v0_11 v0_12 f0_1).bind (fun p5 => ((sp_t2_endsAbove nf a1 v2 f3 v0_3 f0_0 f0_2 f4).bind (fun p6 => (if p6 = 0 then ((sp_t9_tell nf 6 ((f3 (a1 : Int32).toNatClampNeg) + 2) v0_3 p5.1 p5.2 f0_1).bind (fun p7 => (some (p7.1, p7.2)))) else (some (p5.1, p5.2))))))) else ((sp_t2_endsAbove nf a1 v2 f3 v0_3 f0_0 f0_2 f4).bind (fun p3 => (if p3 = 0 then ((sp_t9_tell nf 6 ((f3 (a1 : Int32).toNatClampNeg) + 2) v0_3 v0_11 v0_12 f0_1).bind (fun p4 => (some (p4.1, p4.2)))) else (some (v0_11, v0_12)))))))) else ((sp_t9_tell nf 4 (f3 (a1 : Int32).toNatClampNeg) v0_3 v0_11 v0_12 f0_1).bind (fun p8 => ((sp_t2_classAbove nf a1 v2 f3 v0_3 f0_0 f0_2 f4).bind (fun p9 => (if p9 = (-1) then ((sp_t9_tell nf 5 ((f3 (a1 : Int32).toNatClampNeg) + 2) v0_3 p8.1 p8.2 f0_1).bind (fun p12 => ((sp_t2_endsAbove nf a1 v2 f3 v0_3 f0_0 f0_2 f4).bind (fun p13 => (if p13 = 0 then ((sp_t9_tell nf 6 ((f3 (a1 : Int32).toNatClampNeg) + 2) v0_3 p12.1 p12.2 f0_1).bind (fun p14 => (some (p14.1, p14.2)))) else (some (p12.1, p12.2))))))) else ((sp_t2_endsAbove nf a1 v2 f3 v0_3 f0_0 f0_2 f4).bind (fun p10 => (if p10 = 0 then ((sp_t9_tell nf 6 ((f3 (a1 : Int32).toNatClampNeg) + 2) v0_3 p8.1 p8.2 f0_1).bind (fun p11 => (some (p11.1, p11.2)))) else (some (p8.1, p8.2))))))))))))) else ((sp_t9_tell nf 11 (f3 (a1 : Int32).toNatClampNeg) v0_3 v0_11 v0_12 f0_1).bind (fun p15 => ((sp_t2_classAt nf (f3 (a1 : Int32).toNatClampNeg) v0_3 f0_2 f0_0 f4).bind (fun p16 => (if p16 = (8 + a1) then ((sp_t2_classAbove nf a1 v2 f3 v0_3 f0_0 f0_2 f4).bind (fun p17 => (if p17 = (-1) then ((sp_t9_tell nf 5 ((f3 (a1 : Int32).toNatClampNeg) + 2) v0_3 p15.1 p15.2 f0_1).bind (fun p20 => ((sp_t2_endsAbove nf a1 v2 f3 v0_3 f0_0 f0_2 f4).bind (fun p21 => (if p21 = 0 then ((sp_t9_tell nf 6 ((f3 (a1 : Int32).toNatClampNeg) + 2) v0_3 p20.1 p20.2 f0_1).bind (fun p22 => (some (p22.1, p22.2)))) else (some (p20.1, p20.2))))))) else ((sp_t2_endsAbove nf a1 v2 f3 v0_3 f0_0 f0_2 f4).bind (fun p18 => (if p18 = 0 then ((sp_t9_tell nf 6 ((f3 (a1 : Int32).toNatClampNeg) + 2) v0_3 p15.1 p15.2 f0_1).bind (fun p19 => (some (p19.1, p19.2)))) else (some (p15.1, p15.2)))))))) else ((sp_t9_tell nf 4 (f3 (a1 : Int32).toNatClampNeg) v0_3 p15.1 p15.2 f0_1).bind (fun p23 => ((sp_t2_classAbove nf a1 v2 f3 v0_3 f0_0 f0_2 f4).bind (fun p24 => (if p24 = (-1) then ((sp_t9_tell nf 5 ((f3 (a1 : Int32).toNatClampNeg) + 2) v0_3 p23.1 p23.2 f0_1).bind (fun p27 => ((sp_t2_endsAbove nf a1 v2 f3 v0_3 f0_0 f0_2 f4).bind (fun p28 => (if p28 = 0 then ((sp_t9_tell nf 6 ((f3 (a1 : Int32).toNatClampNeg) + 2) v0_3 p27.1 p27.2 f0_1).bind (fun p29 => (some (p29.1, p29.2)))) else (some (p27.1, p27.2))))))) else ((sp_t2_endsAbove nf a1 v2 f3 v0_3 f0_0 f0_2 f4).bind (fun p25 => (if p25 = 0 then ((sp_t9_tell nf 6 ((f3 (a1 : Int32).toNatClampNeg) + 2) v0_3 p23.1 p23.2 f0_1).bind (fun p26 => (some (p26.1, p26.2)))) else (some (p23.1, p23.2)))))))))))))))))
