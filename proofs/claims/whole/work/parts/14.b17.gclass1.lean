set_option maxHeartbeats 4000000 in
set_option maxRecDepth 100000 in
/-- ClassMill$Verifier.applyObject -/
theorem t11_applyObject (l : Launch) (dC : Nat → ClassId) (dI : Nat → Nat → Nat) (sz : Nat) (h0 : Nat) (a1 : Int32) (a2 : Int32) (qf0 : Nat) (qf1 : Nat) (v2 : Int32) (v3 : Int32) (v4 : Int32) (qf5 : Nat) (v6 : Int32) (v7 : Int32) (qf8 : Nat) (qf9 : Nat) (qf10 : Nat) (qf11 : Nat) (qf12 : Nat) (qf13 : Nat) (qf14 : Nat) (qf15 : Nat) (v16 : Int32) (v17 : Int32) (v18 : Int32) (v19 : Int32) (v20 : Int32) (cf15 : ClassId) (f15 : (Nat → Int32)) (qf1_0 : Nat) (qf1_1 : Nat) (cf1_1 : ClassId) (f1_1 : (Nat → Int32)) (cf8 : ClassId) (f8 : (Nat → Int32)) (nf : Nat) (o15 : (Nat → Int32)) (w18 : Int32) (w19 : Int32) (hsp : sp_t11_applyObject nf a1 a2 v17 v18 v19 f15 f1_1 f8 = some (o15, w18, w19)) : Met l yX11_applyObject (.code yX11_applyObject cX11_applyObject 3 none :: VS_h3) ({ frames := 2, cells := 0, slots := 0, locals := 45 }) (va_Pc [.ref h0, .int a1, .int a2] (fun U => U.heap.size = sz ∧ va_P (dC, dI) vwCl [(h0, .inr (11, [.ref qf0, .ref qf1, .int v2, .int v3, .int v4, .ref qf5, .int v6, .int v7, .ref qf8, .ref qf9, .ref qf10, .ref qf11, .ref qf12, .ref qf13, .ref qf14, .ref qf15, .int v16, .int v17, .int v18, .int v19, .int v20])), (qf15, .inl (cf15, 30, .inl f15)), (qf1, .inr (4, [.ref qf1_0, .ref qf1_1])), (qf1_1, .inl (cf1_1, 256, .inl f1_1)), (qf8, .inl (cf8, 256, .inl f8))] U.heap ∧ va_K (dC, dI) vwCl [(cf15, .int), (cf1_1, .boolean), (cf8, .int)] U ∧ va_D (fun _ => True) [(h0, .inr (11, [.ref qf0, .ref qf1, .int v2, .int v3, .int v4, .ref qf5, .int v6, .int v7, .ref qf8, .ref qf9, .ref qf10, .ref qf11, .ref qf12, .ref qf13, .ref qf14, .ref qf15, .int v16, .int v17, .int v18, .int v19, .int v20])), (qf15, .inl (cf15, 30, .inl f15)), (qf1, .inr (4, [.ref qf1_0, .ref qf1_1])), (qf1_1, .inl (cf1_1, 256, .inl f1_1)), (qf8, .inl (cf8, 256, .inl f8))])) (va_Qv (fun (u : Unit) => match u with | () => True) (fun (u : Unit) (t : State) => match u with | () => va_P (dC, dI) vwCl [(h0, .inr (11, [.ref qf0, .ref qf1, .int v2, .int v3, .int v4, .ref qf5, .int v6, .int v7, .ref qf8, .ref qf9, .ref qf10, .ref qf11, .ref qf12, .ref qf13, .ref qf14, .ref qf15, .int v16, .int v17, .int w18, .int w19, .int v20])), (qf15, .inl (cf15, 30, .inl o15)), (qf1, .inr (4, [.ref qf1_0, .ref qf1_1])), (qf1_1, .inl (cf1_1, 256, .inl f1_1)), (qf8, .inl (cf8, 256, .inl f8))] t.heap ∧ va_K (dC, dI) vwCl [(cf15, .int), (cf1_1, .boolean), (cf8, .int)] t ∧ va_D (va_A [(h0, .inr (11, [.ref qf0, .ref qf1, .int v2, .int v3, .int v4, .ref qf5, .int v6, .int v7, .ref qf8, .ref qf9, .ref qf10, .ref qf11, .ref qf12, .ref qf13, .ref qf14, .ref qf15, .int v16, .int v17, .int v18, .int v19, .int v20])), (qf15, .inl (cf15, 30, .inl f15)), (qf1, .inr (4, [.ref qf1_0, .ref qf1_1])), (qf1_1, .inl (cf1_1, 256, .inl f1_1)), (qf8, .inl (cf8, 256, .inl f8))] sz) [(h0, .inr (11, [.ref qf0, .ref qf1, .int v2, .int v3, .int v4, .ref qf5, .int v6, .int v7, .ref qf8, .ref qf9, .ref qf10, .ref qf11, .ref qf12, .ref qf13, .ref qf14, .ref qf15, .int v16, .int v17, .int w18, .int w19, .int v20])), (qf15, .inl (cf15, 30, .inl o15)), (qf1, .inr (4, [.ref qf1_0, .ref qf1_1])), (qf1_1, .inl (cf1_1, 256, .inl f1_1)), (qf8, .inl (cf8, 256, .inl f8))]) (va_A [(h0, .inr (11, [.ref qf0, .ref qf1, .int v2, .int v3, .int v4, .ref qf5, .int v6, .int v7, .ref qf8, .ref qf9, .ref qf10, .ref qf11, .ref qf12, .ref qf13, .ref qf14, .ref qf15, .int v16, .int v17, .int v18, .int v19, .int v20])), (qf15, .inl (cf15, 30, .inl f15)), (qf1, .inr (4, [.ref qf1_0, .ref qf1_1])), (qf1_1, .inl (cf1_1, 256, .inl f1_1)), (qf8, .inl (cf8, 256, .inl f8))] sz)) 0 0 (va_A [(h0, .inr (11, [.ref qf0, .ref qf1, .int v2, .int v3, .int v4, .ref qf5, .int v6, .int v7, .ref qf8, .ref qf9, .ref qf10, .ref qf11, .ref qf12, .ref qf13, .ref qf14, .ref qf15, .int v16, .int v17, .int v18, .int v19, .int v20])), (qf15, .inl (cf15, 30, .inl f15)), (qf1, .inr (4, [.ref qf1_0, .ref qf1_1])), (qf1_1, .inl (cf1_1, 256, .inl f1_1)), (qf8, .inl (cf8, 256, .inl f8))] sz) := by
  refine Met.ofW (cc := cX11_applyObject) (maxL := 3) (ret := none) (by decide) rfl ?_
  intro p e s m args below meth c s₁ B hml hv
  obtain ⟨rfl, hsz, hP, hK, hD0⟩ := hv
  have hx := B.exec
  have hb := B.bytes
  have hr := B.returns
  have hts := atoms_spec (ws := (.code yX11_applyObject cX11_applyObject 3 none :: VS_h3)) B.pre
  replace hts := fun w (h : w ∈ VS_h3) => hts w (List.mem_cons_of_mem _ h)
  have hown : s.vm.findClass RX11 = some m.cls := findClass_of_methodNamed B.named
  have hlocks := B.notSynchronized
  subst hsz
  have hD := hD0.self (sz := s.heap.size)
  generalize hAe : va_A [(h0, .inr (11, [.ref qf0, .ref qf1, .int v2, .int v3, .int v4, .ref qf5, .int v6, .int v7, .ref qf8, .ref qf9, .ref qf10, .ref qf11, .ref qf12, .ref qf13, .ref qf14, .ref qf15, .int v16, .int v17, .int v18, .int v19, .int v20])), (qf15, .inl (cf15, 30, .inl f15)), (qf1, .inr (4, [.ref qf1_0, .ref qf1_1])), (qf1_1, .inl (cf1_1, 256, .inl f1_1)), (qf8, .inl (cf8, 256, .inl f8))] s.heap.size = A at hD  ⊢
  have hA : ∀ q : Nat, s.heap.size ≤ q → A q := fun q h => by rw [← hAe]; exact Or.inr h
  have hP : va_P (dC, dI) vwCl [(h0, .inr (11, [.ref qf0, .ref qf1, .int v2, .int v3, .int v4, .ref qf5, .int v6, .int v7, .ref qf8, .ref qf9, .ref qf10, .ref qf11, .ref qf12, .ref qf13, .ref qf14, .ref qf15, .int v16, .int v17, .int v18, .int v19, .int v20])), (qf15, .inl (cf15, 30, .inl f15)), (qf1, .inr (4, [.ref qf1_0, .ref qf1_1])), (qf1_1, .inl (cf1_1, 256, .inl f1_1)), (qf8, .inl (cf8, 256, .inl f8))] s.heap := hP
  have hl := lv_entry ([.ref h0, .int a1, .int a2]) (n := 3) (Nat.le_of_ble_eq_true rfl)
  rw [lg_entry_eq]
  generalize (lg_sl ([.ref h0, .int a1, .int a2]) ++ List.replicate (3 - (lg_sl ([.ref h0, .int a1, .int a2])).length) Slot.unset).toArray = ls at hl ⊢
  have hl : lv_has ls 3 [(0, .ref h0), (1, .int a1), (2, .int a2)] := hl
  obtain ⟨H, hH⟩ : ∃ H : Heap, s.heap = H := ⟨_, rfl⟩
  rw [hH] at hP ⊢
  have hS : va_S A s.heap H [] := by rw [← hH]; exact va_S.rf
  obtain ⟨locs, hlo⟩ : ∃ locs : List Loc, locs = [] := ⟨_, rfl⟩
  rw [← hlo] at hS ⊢
  unfold sp_t11_applyObject at hsp
  refine lv_iload_n hx hb dX11_applyObject_0 rfl (lv_at hl 1 rfl) ?_
  by_cases hs_1 : a1 = 186
  · rw [if_pos hs_1] at hsp
    refine lv_tableIn (tgt := 44) hx hb dX11_applyObject_1 (by rw [hs_1]; decide) (by rw [hs_1]; decide) (off := 43) (by rw [hs_1]; rfl) (by decide) ?_
    refine lv_aload_n hx hb dX11_applyObject_44 rfl (lv_at hl 0 rfl) ?_
    refine lv_sipush (v := 301) hx hb dX11_applyObject_45 (by decide) ?_
    obtain ⟨⟨u1_0, u1_1⟩, hu_1, hsp⟩ := ox_bind hsp
    try dsimp only at hsp
    have hPc := hP.sub (ws' := [(h0, .inr (11, [.ref qf0, .ref qf1, .int v2, .int v3, .int v4, .ref qf5, .int v6, .int v7, .ref qf8, .ref qf9, .ref qf10, .ref qf11, .ref qf12, .ref qf13, .ref qf14, .ref qf15, .int v16, .int v17, .int v18, .int v19, .int v20])), (qf15, .inl (cf15, 30, .inl f15)), (qf1, .inr (4, [.ref qf1_0, .ref qf1_1])), (qf1_1, .inl (cf1_1, 256, .inl f1_1))]) [0, 1, 2, 3] rfl
    have hDc := hD.sub (ws' := [(h0, .inr (11, [.ref qf0, .ref qf1, .int v2, .int v3, .int v4, .ref qf5, .int v6, .int v7, .ref qf8, .ref qf9, .ref qf10, .ref qf11, .ref qf12, .ref qf13, .ref qf14, .ref qf15, .int v16, .int v17, .int v18, .int v19, .int v20])), (qf15, .inl (cf15, 30, .inl f15)), (qf1, .inr (4, [.ref qf1_0, .ref qf1_1])), (qf1_1, .inl (cf1_1, 256, .inl f1_1))]) [0, 1, 2, 3] (by decide) rfl
    have hKc := hK.sub (tys' := [(cf15, .int), (cf1_1, .boolean)]) [0, 1] rfl
    have hFc := va_free (wc := [(h0, .inr (11, [.ref qf0, .ref qf1, .int v2, .int v3, .int v4, .ref qf5, .int v6, .int v7, .ref qf8, .ref qf9, .ref qf10, .ref qf11, .ref qf12, .ref qf13, .ref qf14, .ref qf15, .int v16, .int v17, .int v18, .int v19, .int v20])), (qf15, .inl (cf15, 30, .inl f15)), (qf1, .inr (4, [.ref qf1_0, .ref qf1_1])), (qf1_1, .inl (cf1_1, 256, .inl f1_1))]) hD hS hA [0, 1, 2, 3] rfl
    refine va_callv (va_runV (As := [.int 301]) (rest := []) ⟨hx, hb, hml, hown, hts⟩ (t11_want l dC dI H.size h0 301 qf0 qf1 v2 v3 v4 qf5 v6 v7 qf8 qf9 qf10 qf11 qf12 qf13 qf14 qf15 v16 v17 v18 v19 v20 cf15 f15 qf1_0 qf1_1 cf1_1 f1_1 nf u1_0 u1_1 hu_1) (cwV 1 hts gv_h3_54 rfl rfl rfl (by decide +kernel) ⟨Nat.le_of_ble_eq_true rfl, Nat.le_of_ble_eq_true rfl⟩) ⟨fun a U g mk q => by obtain ⟨q0, q1, qP, qK, qD⟩ := q; exact ⟨q0, q1, qP, va_K.moved (u := U) (U := U.calling g mk a) (Vm.Alike.refl U.vm) qK, qD⟩, va_recv hKc hPc (ci := 11) (q0 := 0) rfl rfl, fun U hU hW => ⟨rfl, by rw [hU], by rw [hU]; exact hPc, va_K.moved hW.alike hKc, hDc.weaken (fun _ _ _ _ => trivial)⟩⟩ rfl rfl hl.1 rfl (lv_room (Nat.le_of_ble_eq_true rfl)) dX11_applyObject_48 ⟨Nat.le_of_ble_eq_true rfl, Nat.le_of_ble_eq_true rfl⟩) hS (fun q _ h => hFc q h) hFc ?_
    clear hS
    intro u t H1 locs ht hvm hw hB hz1 hk1 hS
    obtain ⟨⟩ := u
    obtain ⟨hP1, hK1, hD1⟩ := hB
    rw [ht] at hP1
    have hK1 := va_K.moved hvm.symm hK1
    try dsimp only at hw
    have hPD := va_join (wr := [(qf8, .inl (cf8, 256, .inl f8))]) (w1 := [(h0, .inr (11, [.ref qf0, .ref qf1, .int v2, .int v3, .int v4, .ref qf5, .int v6, .int v7, .ref qf8, .ref qf9, .ref qf10, .ref qf11, .ref qf12, .ref qf13, .ref qf14, .ref qf15, .int v16, .int v17, .int u1_0, .int u1_1, .int v20])), (qf15, .inl (cf15, 30, .inl f15)), (qf1, .inr (4, [.ref qf1_0, .ref qf1_1])), (qf1_1, .inl (cf1_1, 256, .inl f1_1))]) hP hD [0, 1, 2, 3] [4] rfl rfl (by decide) (by decide) hk1 hFc hP1 hD1
    clear hP hD
    obtain ⟨hP, hD⟩ := hPD
    replace hK := (hK.sub (tys' := [(cf8, .int)]) [2] rfl).app hK1
    clear hPc hDc hKc hFc hP1 hK1 hD1 hz1 hk1 ht hvm
    generalize H1 = H at hP hS ⊢
    replace hP : va_P (dC, dI) vwCl [(qf8, .inl (cf8, 256, .inl f8)), (h0, .inr (11, [.ref qf0, .ref qf1, .int v2, .int v3, .int v4, .ref qf5, .int v6, .int v7, .ref qf8, .ref qf9, .ref qf10, .ref qf11, .ref qf12, .ref qf13, .ref qf14, .ref qf15, .int v16, .int v17, .int u1_0, .int u1_1, .int v20])), (qf15, .inl (cf15, 30, .inl f15)), (qf1, .inr (4, [.ref qf1_0, .ref qf1_1])), (qf1_1, .inl (cf1_1, 256, .inl f1_1))] H := hP
    replace hD : va_D A [(qf8, .inl (cf8, 256, .inl f8)), (h0, .inr (11, [.ref qf0, .ref qf1, .int v2, .int v3, .int v4, .ref qf5, .int v6, .int v7, .ref qf8, .ref qf9, .ref qf10, .ref qf11, .ref qf12, .ref qf13, .ref qf14, .ref qf15, .int v16, .int v17, .int u1_0, .int u1_1, .int v20])), (qf15, .inl (cf15, 30, .inl f15)), (qf1, .inr (4, [.ref qf1_0, .ref qf1_1])), (qf1_1, .inl (cf1_1, 256, .inl f1_1))] := hD
    replace hK : va_K (dC, dI) vwCl [(cf8, .int), (cf15, .int), (cf1_1, .boolean)] s := hK
    refine lv_goto (tgt := 162) hx hb dX11_applyObject_51 (by decide) ?_
    have hr0 := Option.some.inj hsp
    clear hsp
    obtain ⟨hq0, hr1⟩ := Prod.mk.inj hr0
    clear hr0
    obtain ⟨hq1, hr2⟩ := Prod.mk.inj hr1
    clear hr1
    subst hq0
    subst hq1
    subst hr2
    have hP9 := hP.sub (ws' := [(h0, .inr (11, [.ref qf0, .ref qf1, .int v2, .int v3, .int v4, .ref qf5, .int v6, .int v7, .ref qf8, .ref qf9, .ref qf10, .ref qf11, .ref qf12, .ref qf13, .ref qf14, .ref qf15, .int v16, .int v17, .int u1_0, .int u1_1, .int v20])), (qf15, .inl (cf15, 30, .inl f15)), (qf1, .inr (4, [.ref qf1_0, .ref qf1_1])), (qf1_1, .inl (cf1_1, 256, .inl f1_1)), (qf8, .inl (cf8, 256, .inl f8))]) [1, 2, 3, 4, 0] rfl
    have hD9 := hD.sub (ws' := [(h0, .inr (11, [.ref qf0, .ref qf1, .int v2, .int v3, .int v4, .ref qf5, .int v6, .int v7, .ref qf8, .ref qf9, .ref qf10, .ref qf11, .ref qf12, .ref qf13, .ref qf14, .ref qf15, .int v16, .int v17, .int u1_0, .int u1_1, .int v20])), (qf15, .inl (cf15, 30, .inl f15)), (qf1, .inr (4, [.ref qf1_0, .ref qf1_1])), (qf1_1, .inl (cf1_1, 256, .inl f1_1)), (qf8, .inl (cf8, 256, .inl f8))]) [1, 2, 3, 4, 0] (by decide) rfl
    have hK9 := hK.sub (tys' := [(cf15, .int), (cf1_1, .boolean), (cf8, .int)]) [1, 2, 0] rfl
    exact W.vret hx hb hr (fun t ht hW => ⟨⟨(), rfl, trivial, by rw [ht]; exact hP9, va_K.moved hW.alike hK9, hD9⟩, hS.F ht⟩) hS.2.2 dX11_applyObject_162
  rw [if_neg hs_1] at hsp
  by_cases hs_2 : a1 = 187
  · rw [if_pos hs_2] at hsp
    refine lv_tableIn (tgt := 54) hx hb dX11_applyObject_1 (by rw [hs_2]; decide) (by rw [hs_2]; decide) (off := 53) (by rw [hs_2]; rfl) (by decide) ?_
    refine lv_aload_n hx hb dX11_applyObject_54 rfl (lv_at hl 0 rfl) ?_
    refine lv_aload_n hx hb dX11_applyObject_55 rfl (lv_at hl 0 rfl) ?_
    refine va_get (D := (dC, dI)) (ci := 11) (v := .ref qf8) (C := RX11) (T := TX11) (N := 21) hx hb hts uV_h3_X11 hown hK hP 0 rfl rfl 8 (by decide) (hts (.fieldLink RX11 23 "ClassMill$Verifier" "classTypes" "[I") mw_h3_193) (fun _ h9 => h9) rfl dX11_applyObject_56 ?_
    refine lv_iload_n hx hb dX11_applyObject_59 rfl (lv_at hl 2 rfl) ?_
    obtain ⟨hi_3, hsp⟩ := ox_in hsp
    refine va_iald hx hb hK hP 4 2 rfl rfl (i := a2) hi_3 dX11_applyObject_60 ?_
    obtain ⟨⟨g902_0, u2_1, u2_2⟩, hu_2, hsp⟩ := ox_bind hsp
    try dsimp only at hsp
    have hPc := hP.sub (ws' := [(h0, .inr (11, [.ref qf0, .ref qf1, .int v2, .int v3, .int v4, .ref qf5, .int v6, .int v7, .ref qf8, .ref qf9, .ref qf10, .ref qf11, .ref qf12, .ref qf13, .ref qf14, .ref qf15, .int v16, .int v17, .int v18, .int v19, .int v20])), (qf15, .inl (cf15, 30, .inl f15))]) [0, 1] rfl
    have hDc := hD.sub (ws' := [(h0, .inr (11, [.ref qf0, .ref qf1, .int v2, .int v3, .int v4, .ref qf5, .int v6, .int v7, .ref qf8, .ref qf9, .ref qf10, .ref qf11, .ref qf12, .ref qf13, .ref qf14, .ref qf15, .int v16, .int v17, .int v18, .int v19, .int v20])), (qf15, .inl (cf15, 30, .inl f15))]) [0, 1] (by decide) rfl
    have hKc := hK.sub (tys' := [(cf15, .int)]) [0] rfl
    have hFc := va_free (wc := [(h0, .inr (11, [.ref qf0, .ref qf1, .int v2, .int v3, .int v4, .ref qf5, .int v6, .int v7, .ref qf8, .ref qf9, .ref qf10, .ref qf11, .ref qf12, .ref qf13, .ref qf14, .ref qf15, .int v16, .int v17, .int v18, .int v19, .int v20])), (qf15, .inl (cf15, 30, .inl f15))]) hD hS hA [0, 1] rfl
    refine va_callv (va_runV (As := [.int (f8 (a2 : Int32).toNatClampNeg)]) (rest := []) ⟨hx, hb, hml, hown, hts⟩ (t11_push l dC dI H.size h0 ((f8 (a2 : Int32).toNatClampNeg)) qf0 qf1 v2 v3 v4 qf5 v6 v7 qf8 qf9 qf10 qf11 qf12 qf13 qf14 qf15 v16 v17 v18 v19 v20 cf15 f15 nf g902_0 u2_1 u2_2 hu_2) (cwV 1 hts gv_h3_52 rfl rfl rfl (by decide +kernel) ⟨Nat.le_of_ble_eq_true rfl, Nat.le_of_ble_eq_true rfl⟩) ⟨fun a U g mk q => by obtain ⟨q0, q1, qP, qK, qD⟩ := q; exact ⟨q0, q1, qP, va_K.moved (u := U) (U := U.calling g mk a) (Vm.Alike.refl U.vm) qK, qD⟩, va_recv hKc hPc (ci := 11) (q0 := 0) rfl rfl, fun U hU hW => ⟨rfl, by rw [hU], by rw [hU]; exact hPc, va_K.moved hW.alike hKc, hDc.weaken (fun _ _ _ _ => trivial)⟩⟩ rfl rfl hl.1 rfl (lv_room (Nat.le_of_ble_eq_true rfl)) dX11_applyObject_61 ⟨Nat.le_of_ble_eq_true rfl, Nat.le_of_ble_eq_true rfl⟩) hS (fun q _ h => hFc q h) hFc ?_
    clear hS
    intro u t H1 locs ht hvm hw hB hz1 hk1 hS
    obtain ⟨⟩ := u
    obtain ⟨hP1, hK1, hD1⟩ := hB
    rw [ht] at hP1
    have hK1 := va_K.moved hvm.symm hK1
    try dsimp only at hw
    have hPD := va_join (wr := [(qf1, .inr (4, [.ref qf1_0, .ref qf1_1])), (qf1_1, .inl (cf1_1, 256, .inl f1_1)), (qf8, .inl (cf8, 256, .inl f8))]) (w1 := [(h0, .inr (11, [.ref qf0, .ref qf1, .int v2, .int v3, .int v4, .ref qf5, .int v6, .int v7, .ref qf8, .ref qf9, .ref qf10, .ref qf11, .ref qf12, .ref qf13, .ref qf14, .ref qf15, .int v16, .int v17, .int u2_1, .int u2_2, .int v20])), (qf15, .inl (cf15, 30, .inl g902_0))]) hP hD [0, 1] [2, 3, 4] rfl rfl (by decide) (by decide) hk1 hFc hP1 hD1
    clear hP hD
    obtain ⟨hP, hD⟩ := hPD
    replace hK := (hK.sub (tys' := [(cf1_1, .boolean), (cf8, .int)]) [1, 2] rfl).app hK1
    clear hPc hDc hKc hFc hP1 hK1 hD1 hz1 hk1 ht hvm
    generalize H1 = H at hP hS ⊢
    replace hP : va_P (dC, dI) vwCl [(qf1, .inr (4, [.ref qf1_0, .ref qf1_1])), (qf1_1, .inl (cf1_1, 256, .inl f1_1)), (qf8, .inl (cf8, 256, .inl f8)), (h0, .inr (11, [.ref qf0, .ref qf1, .int v2, .int v3, .int v4, .ref qf5, .int v6, .int v7, .ref qf8, .ref qf9, .ref qf10, .ref qf11, .ref qf12, .ref qf13, .ref qf14, .ref qf15, .int v16, .int v17, .int u2_1, .int u2_2, .int v20])), (qf15, .inl (cf15, 30, .inl g902_0))] H := hP
    replace hD : va_D A [(qf1, .inr (4, [.ref qf1_0, .ref qf1_1])), (qf1_1, .inl (cf1_1, 256, .inl f1_1)), (qf8, .inl (cf8, 256, .inl f8)), (h0, .inr (11, [.ref qf0, .ref qf1, .int v2, .int v3, .int v4, .ref qf5, .int v6, .int v7, .ref qf8, .ref qf9, .ref qf10, .ref qf11, .ref qf12, .ref qf13, .ref qf14, .ref qf15, .int v16, .int v17, .int u2_1, .int u2_2, .int v20])), (qf15, .inl (cf15, 30, .inl g902_0))] := hD
    replace hK : va_K (dC, dI) vwCl [(cf1_1, .boolean), (cf8, .int), (cf15, .int)] s := hK
    refine lv_goto (tgt := 162) hx hb dX11_applyObject_64 (by decide) ?_
    have hr0 := Option.some.inj hsp
    clear hsp
    obtain ⟨hq0, hr1⟩ := Prod.mk.inj hr0
    clear hr0
    obtain ⟨hq1, hr2⟩ := Prod.mk.inj hr1
    clear hr1
    subst hq0
    subst hq1
    subst hr2
    have hP9 := hP.sub (ws' := [(h0, .inr (11, [.ref qf0, .ref qf1, .int v2, .int v3, .int v4, .ref qf5, .int v6, .int v7, .ref qf8, .ref qf9, .ref qf10, .ref qf11, .ref qf12, .ref qf13, .ref qf14, .ref qf15, .int v16, .int v17, .int u2_1, .int u2_2, .int v20])), (qf15, .inl (cf15, 30, .inl g902_0)), (qf1, .inr (4, [.ref qf1_0, .ref qf1_1])), (qf1_1, .inl (cf1_1, 256, .inl f1_1)), (qf8, .inl (cf8, 256, .inl f8))]) [3, 4, 0, 1, 2] rfl
    have hD9 := hD.sub (ws' := [(h0, .inr (11, [.ref qf0, .ref qf1, .int v2, .int v3, .int v4, .ref qf5, .int v6, .int v7, .ref qf8, .ref qf9, .ref qf10, .ref qf11, .ref qf12, .ref qf13, .ref qf14, .ref qf15, .int v16, .int v17, .int u2_1, .int u2_2, .int v20])), (qf15, .inl (cf15, 30, .inl g902_0)), (qf1, .inr (4, [.ref qf1_0, .ref qf1_1])), (qf1_1, .inl (cf1_1, 256, .inl f1_1)), (qf8, .inl (cf8, 256, .inl f8))]) [3, 4, 0, 1, 2] (by decide) rfl
    have hK9 := hK.sub (tys' := [(cf15, .int), (cf1_1, .boolean), (cf8, .int)]) [2, 0, 1] rfl
    exact W.vret hx hb hr (fun t ht hW => ⟨⟨(), rfl, trivial, by rw [ht]; exact hP9, va_K.moved hW.alike hK9, hD9⟩, hS.F ht⟩) hS.2.2 dX11_applyObject_162
  rw [if_neg hs_2] at hsp
  by_cases hs_4 : a1 = 188
  · rw [if_pos hs_4] at hsp
    refine lv_tableIn (tgt := 67) hx hb dX11_applyObject_1 (by rw [hs_4]; decide) (by rw [hs_4]; decide) (off := 66) (by rw [hs_4]; rfl) (by decide) ?_
    refine lv_aload_n hx hb dX11_applyObject_67 rfl (lv_at hl 0 rfl) ?_
    refine lv_sipush (v := 301) hx hb dX11_applyObject_68 (by decide) ?_
    obtain ⟨⟨u3_0, u3_1⟩, hu_3, hsp⟩ := ox_bind hsp
    try dsimp only at hsp
    have hPc := hP.sub (ws' := [(h0, .inr (11, [.ref qf0, .ref qf1, .int v2, .int v3, .int v4, .ref qf5, .int v6, .int v7, .ref qf8, .ref qf9, .ref qf10, .ref qf11, .ref qf12, .ref qf13, .ref qf14, .ref qf15, .int v16, .int v17, .int v18, .int v19, .int v20])), (qf15, .inl (cf15, 30, .inl f15)), (qf1, .inr (4, [.ref qf1_0, .ref qf1_1])), (qf1_1, .inl (cf1_1, 256, .inl f1_1))]) [0, 1, 2, 3] rfl
    have hDc := hD.sub (ws' := [(h0, .inr (11, [.ref qf0, .ref qf1, .int v2, .int v3, .int v4, .ref qf5, .int v6, .int v7, .ref qf8, .ref qf9, .ref qf10, .ref qf11, .ref qf12, .ref qf13, .ref qf14, .ref qf15, .int v16, .int v17, .int v18, .int v19, .int v20])), (qf15, .inl (cf15, 30, .inl f15)), (qf1, .inr (4, [.ref qf1_0, .ref qf1_1])), (qf1_1, .inl (cf1_1, 256, .inl f1_1))]) [0, 1, 2, 3] (by decide) rfl
    have hKc := hK.sub (tys' := [(cf15, .int), (cf1_1, .boolean)]) [0, 1] rfl
    have hFc := va_free (wc := [(h0, .inr (11, [.ref qf0, .ref qf1, .int v2, .int v3, .int v4, .ref qf5, .int v6, .int v7, .ref qf8, .ref qf9, .ref qf10, .ref qf11, .ref qf12, .ref qf13, .ref qf14, .ref qf15, .int v16, .int v17, .int v18, .int v19, .int v20])), (qf15, .inl (cf15, 30, .inl f15)), (qf1, .inr (4, [.ref qf1_0, .ref qf1_1])), (qf1_1, .inl (cf1_1, 256, .inl f1_1))]) hD hS hA [0, 1, 2, 3] rfl
    refine va_callv (va_runV (As := [.int 301]) (rest := []) ⟨hx, hb, hml, hown, hts⟩ (t11_want l dC dI H.size h0 301 qf0 qf1 v2 v3 v4 qf5 v6 v7 qf8 qf9 qf10 qf11 qf12 qf13 qf14 qf15 v16 v17 v18 v19 v20 cf15 f15 qf1_0 qf1_1 cf1_1 f1_1 nf u3_0 u3_1 hu_3) (cwV 1 hts gv_h3_54 rfl rfl rfl (by decide +kernel) ⟨Nat.le_of_ble_eq_true rfl, Nat.le_of_ble_eq_true rfl⟩) ⟨fun a U g mk q => by obtain ⟨q0, q1, qP, qK, qD⟩ := q; exact ⟨q0, q1, qP, va_K.moved (u := U) (U := U.calling g mk a) (Vm.Alike.refl U.vm) qK, qD⟩, va_recv hKc hPc (ci := 11) (q0 := 0) rfl rfl, fun U hU hW => ⟨rfl, by rw [hU], by rw [hU]; exact hPc, va_K.moved hW.alike hKc, hDc.weaken (fun _ _ _ _ => trivial)⟩⟩ rfl rfl hl.1 rfl (lv_room (Nat.le_of_ble_eq_true rfl)) dX11_applyObject_71 ⟨Nat.le_of_ble_eq_true rfl, Nat.le_of_ble_eq_true rfl⟩) hS (fun q _ h => hFc q h) hFc ?_
    clear hS
    intro u t H1 locs ht hvm hw hB hz1 hk1 hS
    obtain ⟨⟩ := u
    obtain ⟨hP1, hK1, hD1⟩ := hB
    rw [ht] at hP1
    have hK1 := va_K.moved hvm.symm hK1
    try dsimp only at hw
    have hPD := va_join (wr := [(qf8, .inl (cf8, 256, .inl f8))]) (w1 := [(h0, .inr (11, [.ref qf0, .ref qf1, .int v2, .int v3, .int v4, .ref qf5, .int v6, .int v7, .ref qf8, .ref qf9, .ref qf10, .ref qf11, .ref qf12, .ref qf13, .ref qf14, .ref qf15, .int v16, .int v17, .int u3_0, .int u3_1, .int v20])), (qf15, .inl (cf15, 30, .inl f15)), (qf1, .inr (4, [.ref qf1_0, .ref qf1_1])), (qf1_1, .inl (cf1_1, 256, .inl f1_1))]) hP hD [0, 1, 2, 3] [4] rfl rfl (by decide) (by decide) hk1 hFc hP1 hD1
    clear hP hD
    obtain ⟨hP, hD⟩ := hPD
    replace hK := (hK.sub (tys' := [(cf8, .int)]) [2] rfl).app hK1
    clear hPc hDc hKc hFc hP1 hK1 hD1 hz1 hk1 ht hvm
    generalize H1 = H at hP hS ⊢
    replace hP : va_P (dC, dI) vwCl [(qf8, .inl (cf8, 256, .inl f8)), (h0, .inr (11, [.ref qf0, .ref qf1, .int v2, .int v3, .int v4, .ref qf5, .int v6, .int v7, .ref qf8, .ref qf9, .ref qf10, .ref qf11, .ref qf12, .ref qf13, .ref qf14, .ref qf15, .int v16, .int v17, .int u3_0, .int u3_1, .int v20])), (qf15, .inl (cf15, 30, .inl f15)), (qf1, .inr (4, [.ref qf1_0, .ref qf1_1])), (qf1_1, .inl (cf1_1, 256, .inl f1_1))] H := hP
    replace hD : va_D A [(qf8, .inl (cf8, 256, .inl f8)), (h0, .inr (11, [.ref qf0, .ref qf1, .int v2, .int v3, .int v4, .ref qf5, .int v6, .int v7, .ref qf8, .ref qf9, .ref qf10, .ref qf11, .ref qf12, .ref qf13, .ref qf14, .ref qf15, .int v16, .int v17, .int u3_0, .int u3_1, .int v20])), (qf15, .inl (cf15, 30, .inl f15)), (qf1, .inr (4, [.ref qf1_0, .ref qf1_1])), (qf1_1, .inl (cf1_1, 256, .inl f1_1))] := hD
    replace hK : va_K (dC, dI) vwCl [(cf8, .int), (cf15, .int), (cf1_1, .boolean)] s := hK
    refine lv_aload_n hx hb dX11_applyObject_74 rfl (lv_at hl 0 rfl) ?_
    refine lv_sipush (v := 200) hx hb dX11_applyObject_75 (by decide) ?_
    obtain ⟨⟨g904_0, u4_1, u4_2⟩, hu_4, hsp⟩ := ox_bind hsp
    try dsimp only at hsp
    have hPc := hP.sub (ws' := [(h0, .inr (11, [.ref qf0, .ref qf1, .int v2, .int v3, .int v4, .ref qf5, .int v6, .int v7, .ref qf8, .ref qf9, .ref qf10, .ref qf11, .ref qf12, .ref qf13, .ref qf14, .ref qf15, .int v16, .int v17, .int u3_0, .int u3_1, .int v20])), (qf15, .inl (cf15, 30, .inl f15))]) [1, 2] rfl
    have hDc := hD.sub (ws' := [(h0, .inr (11, [.ref qf0, .ref qf1, .int v2, .int v3, .int v4, .ref qf5, .int v6, .int v7, .ref qf8, .ref qf9, .ref qf10, .ref qf11, .ref qf12, .ref qf13, .ref qf14, .ref qf15, .int v16, .int v17, .int u3_0, .int u3_1, .int v20])), (qf15, .inl (cf15, 30, .inl f15))]) [1, 2] (by decide) rfl
    have hKc := hK.sub (tys' := [(cf15, .int)]) [1] rfl
    have hFc := va_free (wc := [(h0, .inr (11, [.ref qf0, .ref qf1, .int v2, .int v3, .int v4, .ref qf5, .int v6, .int v7, .ref qf8, .ref qf9, .ref qf10, .ref qf11, .ref qf12, .ref qf13, .ref qf14, .ref qf15, .int v16, .int v17, .int u3_0, .int u3_1, .int v20])), (qf15, .inl (cf15, 30, .inl f15))]) hD hS hA [1, 2] rfl
    refine va_callv (va_runV (As := [.int 200]) (rest := []) ⟨hx, hb, hml, hown, hts⟩ (t11_push l dC dI H.size h0 200 qf0 qf1 v2 v3 v4 qf5 v6 v7 qf8 qf9 qf10 qf11 qf12 qf13 qf14 qf15 v16 v17 u3_0 u3_1 v20 cf15 f15 nf g904_0 u4_1 u4_2 hu_4) (cwV 1 hts gv_h3_52 rfl rfl rfl (by decide +kernel) ⟨Nat.le_of_ble_eq_true rfl, Nat.le_of_ble_eq_true rfl⟩) ⟨fun a U g mk q => by obtain ⟨q0, q1, qP, qK, qD⟩ := q; exact ⟨q0, q1, qP, va_K.moved (u := U) (U := U.calling g mk a) (Vm.Alike.refl U.vm) qK, qD⟩, va_recv hKc hPc (ci := 11) (q0 := 0) rfl rfl, fun U hU hW => ⟨rfl, by rw [hU], by rw [hU]; exact hPc, va_K.moved hW.alike hKc, hDc.weaken (fun _ _ _ _ => trivial)⟩⟩ rfl rfl hl.1 rfl (lv_room (Nat.le_of_ble_eq_true rfl)) dX11_applyObject_78 ⟨Nat.le_of_ble_eq_true rfl, Nat.le_of_ble_eq_true rfl⟩) hS (fun q _ h => hFc q h) hFc ?_
    clear hS
    intro u t H1 locs ht hvm hw hB hz1 hk1 hS
    obtain ⟨⟩ := u
    obtain ⟨hP1, hK1, hD1⟩ := hB
    rw [ht] at hP1
    have hK1 := va_K.moved hvm.symm hK1
    try dsimp only at hw
    have hPD := va_join (wr := [(qf8, .inl (cf8, 256, .inl f8)), (qf1, .inr (4, [.ref qf1_0, .ref qf1_1])), (qf1_1, .inl (cf1_1, 256, .inl f1_1))]) (w1 := [(h0, .inr (11, [.ref qf0, .ref qf1, .int v2, .int v3, .int v4, .ref qf5, .int v6, .int v7, .ref qf8, .ref qf9, .ref qf10, .ref qf11, .ref qf12, .ref qf13, .ref qf14, .ref qf15, .int v16, .int v17, .int u4_1, .int u4_2, .int v20])), (qf15, .inl (cf15, 30, .inl g904_0))]) hP hD [1, 2] [0, 3, 4] rfl rfl (by decide) (by decide) hk1 hFc hP1 hD1
    clear hP hD
    obtain ⟨hP, hD⟩ := hPD
    replace hK := (hK.sub (tys' := [(cf8, .int), (cf1_1, .boolean)]) [0, 2] rfl).app hK1
    clear hPc hDc hKc hFc hP1 hK1 hD1 hz1 hk1 ht hvm
    generalize H1 = H at hP hS ⊢
    replace hP : va_P (dC, dI) vwCl [(qf8, .inl (cf8, 256, .inl f8)), (qf1, .inr (4, [.ref qf1_0, .ref qf1_1])), (qf1_1, .inl (cf1_1, 256, .inl f1_1)), (h0, .inr (11, [.ref qf0, .ref qf1, .int v2, .int v3, .int v4, .ref qf5, .int v6, .int v7, .ref qf8, .ref qf9, .ref qf10, .ref qf11, .ref qf12, .ref qf13, .ref qf14, .ref qf15, .int v16, .int v17, .int u4_1, .int u4_2, .int v20])), (qf15, .inl (cf15, 30, .inl g904_0))] H := hP
    replace hD : va_D A [(qf8, .inl (cf8, 256, .inl f8)), (qf1, .inr (4, [.ref qf1_0, .ref qf1_1])), (qf1_1, .inl (cf1_1, 256, .inl f1_1)), (h0, .inr (11, [.ref qf0, .ref qf1, .int v2, .int v3, .int v4, .ref qf5, .int v6, .int v7, .ref qf8, .ref qf9, .ref qf10, .ref qf11, .ref qf12, .ref qf13, .ref qf14, .ref qf15, .int v16, .int v17, .int u4_1, .int u4_2, .int v20])), (qf15, .inl (cf15, 30, .inl g904_0))] := hD
    replace hK : va_K (dC, dI) vwCl [(cf8, .int), (cf1_1, .boolean), (cf15, .int)] s := hK
    refine lv_goto (tgt := 162) hx hb dX11_applyObject_81 (by decide) ?_
    have hr0 := Option.some.inj hsp
    clear hsp
    obtain ⟨hq0, hr1⟩ := Prod.mk.inj hr0
    clear hr0
    obtain ⟨hq1, hr2⟩ := Prod.mk.inj hr1
    clear hr1
    subst hq0
    subst hq1
    subst hr2
    have hP9 := hP.sub (ws' := [(h0, .inr (11, [.ref qf0, .ref qf1, .int v2, .int v3, .int v4, .ref qf5, .int v6, .int v7, .ref qf8, .ref qf9, .ref qf10, .ref qf11, .ref qf12, .ref qf13, .ref qf14, .ref qf15, .int v16, .int v17, .int u4_1, .int u4_2, .int v20])), (qf15, .inl (cf15, 30, .inl g904_0)), (qf1, .inr (4, [.ref qf1_0, .ref qf1_1])), (qf1_1, .inl (cf1_1, 256, .inl f1_1)), (qf8, .inl (cf8, 256, .inl f8))]) [3, 4, 1, 2, 0] rfl
    have hD9 := hD.sub (ws' := [(h0, .inr (11, [.ref qf0, .ref qf1, .int v2, .int v3, .int v4, .ref qf5, .int v6, .int v7, .ref qf8, .ref qf9, .ref qf10, .ref qf11, .ref qf12, .ref qf13, .ref qf14, .ref qf15, .int v16, .int v17, .int u4_1, .int u4_2, .int v20])), (qf15, .inl (cf15, 30, .inl g904_0)), (qf1, .inr (4, [.ref qf1_0, .ref qf1_1])), (qf1_1, .inl (cf1_1, 256, .inl f1_1)), (qf8, .inl (cf8, 256, .inl f8))]) [3, 4, 1, 2, 0] (by decide) rfl
    have hK9 := hK.sub (tys' := [(cf15, .int), (cf1_1, .boolean), (cf8, .int)]) [2, 1, 0] rfl
    exact W.vret hx hb hr (fun t ht hW => ⟨⟨(), rfl, trivial, by rw [ht]; exact hP9, va_K.moved hW.alike hK9, hD9⟩, hS.F ht⟩) hS.2.2 dX11_applyObject_162
  rw [if_neg hs_4] at hsp
  by_cases hs_5 : a1 = 189
  · rw [if_pos hs_5] at hsp
    refine lv_tableIn (tgt := 84) hx hb dX11_applyObject_1 (by rw [hs_5]; decide) (by rw [hs_5]; decide) (off := 83) (by rw [hs_5]; rfl) (by decide) ?_
    refine lv_aload_n hx hb dX11_applyObject_84 rfl (lv_at hl 0 rfl) ?_
    refine lv_sipush (v := 301) hx hb dX11_applyObject_85 (by decide) ?_
    obtain ⟨⟨u5_0, u5_1⟩, hu_5, hsp⟩ := ox_bind hsp
    try dsimp only at hsp
    have hPc := hP.sub (ws' := [(h0, .inr (11, [.ref qf0, .ref qf1, .int v2, .int v3, .int v4, .ref qf5, .int v6, .int v7, .ref qf8, .ref qf9, .ref qf10, .ref qf11, .ref qf12, .ref qf13, .ref qf14, .ref qf15, .int v16, .int v17, .int v18, .int v19, .int v20])), (qf15, .inl (cf15, 30, .inl f15)), (qf1, .inr (4, [.ref qf1_0, .ref qf1_1])), (qf1_1, .inl (cf1_1, 256, .inl f1_1))]) [0, 1, 2, 3] rfl
    have hDc := hD.sub (ws' := [(h0, .inr (11, [.ref qf0, .ref qf1, .int v2, .int v3, .int v4, .ref qf5, .int v6, .int v7, .ref qf8, .ref qf9, .ref qf10, .ref qf11, .ref qf12, .ref qf13, .ref qf14, .ref qf15, .int v16, .int v17, .int v18, .int v19, .int v20])), (qf15, .inl (cf15, 30, .inl f15)), (qf1, .inr (4, [.ref qf1_0, .ref qf1_1])), (qf1_1, .inl (cf1_1, 256, .inl f1_1))]) [0, 1, 2, 3] (by decide) rfl
    have hKc := hK.sub (tys' := [(cf15, .int), (cf1_1, .boolean)]) [0, 1] rfl
    have hFc := va_free (wc := [(h0, .inr (11, [.ref qf0, .ref qf1, .int v2, .int v3, .int v4, .ref qf5, .int v6, .int v7, .ref qf8, .ref qf9, .ref qf10, .ref qf11, .ref qf12, .ref qf13, .ref qf14, .ref qf15, .int v16, .int v17, .int v18, .int v19, .int v20])), (qf15, .inl (cf15, 30, .inl f15)), (qf1, .inr (4, [.ref qf1_0, .ref qf1_1])), (qf1_1, .inl (cf1_1, 256, .inl f1_1))]) hD hS hA [0, 1, 2, 3] rfl
    refine va_callv (va_runV (As := [.int 301]) (rest := []) ⟨hx, hb, hml, hown, hts⟩ (t11_want l dC dI H.size h0 301 qf0 qf1 v2 v3 v4 qf5 v6 v7 qf8 qf9 qf10 qf11 qf12 qf13 qf14 qf15 v16 v17 v18 v19 v20 cf15 f15 qf1_0 qf1_1 cf1_1 f1_1 nf u5_0 u5_1 hu_5) (cwV 1 hts gv_h3_54 rfl rfl rfl (by decide +kernel) ⟨Nat.le_of_ble_eq_true rfl, Nat.le_of_ble_eq_true rfl⟩) ⟨fun a U g mk q => by obtain ⟨q0, q1, qP, qK, qD⟩ := q; exact ⟨q0, q1, qP, va_K.moved (u := U) (U := U.calling g mk a) (Vm.Alike.refl U.vm) qK, qD⟩, va_recv hKc hPc (ci := 11) (q0 := 0) rfl rfl, fun U hU hW => ⟨rfl, by rw [hU], by rw [hU]; exact hPc, va_K.moved hW.alike hKc, hDc.weaken (fun _ _ _ _ => trivial)⟩⟩ rfl rfl hl.1 rfl (lv_room (Nat.le_of_ble_eq_true rfl)) dX11_applyObject_88 ⟨Nat.le_of_ble_eq_true rfl, Nat.le_of_ble_eq_true rfl⟩) hS (fun q _ h => hFc q h) hFc ?_
    clear hS
    intro u t H1 locs ht hvm hw hB hz1 hk1 hS
    obtain ⟨⟩ := u
    obtain ⟨hP1, hK1, hD1⟩ := hB
    rw [ht] at hP1
    have hK1 := va_K.moved hvm.symm hK1
    try dsimp only at hw
    have hPD := va_join (wr := [(qf8, .inl (cf8, 256, .inl f8))]) (w1 := [(h0, .inr (11, [.ref qf0, .ref qf1, .int v2, .int v3, .int v4, .ref qf5, .int v6, .int v7, .ref qf8, .ref qf9, .ref qf10, .ref qf11, .ref qf12, .ref qf13, .ref qf14, .ref qf15, .int v16, .int v17, .int u5_0, .int u5_1, .int v20])), (qf15, .inl (cf15, 30, .inl f15)), (qf1, .inr (4, [.ref qf1_0, .ref qf1_1])), (qf1_1, .inl (cf1_1, 256, .inl f1_1))]) hP hD [0, 1, 2, 3] [4] rfl rfl (by decide) (by decide) hk1 hFc hP1 hD1
    clear hP hD
    obtain ⟨hP, hD⟩ := hPD
    replace hK := (hK.sub (tys' := [(cf8, .int)]) [2] rfl).app hK1
    clear hPc hDc hKc hFc hP1 hK1 hD1 hz1 hk1 ht hvm
    generalize H1 = H at hP hS ⊢
    replace hP : va_P (dC, dI) vwCl [(qf8, .inl (cf8, 256, .inl f8)), (h0, .inr (11, [.ref qf0, .ref qf1, .int v2, .int v3, .int v4, .ref qf5, .int v6, .int v7, .ref qf8, .ref qf9, .ref qf10, .ref qf11, .ref qf12, .ref qf13, .ref qf14, .ref qf15, .int v16, .int v17, .int u5_0, .int u5_1, .int v20])), (qf15, .inl (cf15, 30, .inl f15)), (qf1, .inr (4, [.ref qf1_0, .ref qf1_1])), (qf1_1, .inl (cf1_1, 256, .inl f1_1))] H := hP
    replace hD : va_D A [(qf8, .inl (cf8, 256, .inl f8)), (h0, .inr (11, [.ref qf0, .ref qf1, .int v2, .int v3, .int v4, .ref qf5, .int v6, .int v7, .ref qf8, .ref qf9, .ref qf10, .ref qf11, .ref qf12, .ref qf13, .ref qf14, .ref qf15, .int v16, .int v17, .int u5_0, .int u5_1, .int v20])), (qf15, .inl (cf15, 30, .inl f15)), (qf1, .inr (4, [.ref qf1_0, .ref qf1_1])), (qf1_1, .inl (cf1_1, 256, .inl f1_1))] := hD
    replace hK : va_K (dC, dI) vwCl [(cf8, .int), (cf15, .int), (cf1_1, .boolean)] s := hK
    refine lv_aload_n hx hb dX11_applyObject_91 rfl (lv_at hl 0 rfl) ?_
    refine lv_bipush (v := 100) hx hb dX11_applyObject_92 (by decide) ?_
    refine lv_aload_n hx hb dX11_applyObject_94 rfl (lv_at hl 0 rfl) ?_
    refine va_get (D := (dC, dI)) (ci := 11) (v := .ref qf8) (C := RX11) (T := TX11) (N := 21) hx hb hts uV_h3_X11 hown hK hP 1 rfl rfl 8 (by decide) (hts (.fieldLink RX11 23 "ClassMill$Verifier" "classTypes" "[I") mw_h3_193) (fun _ h9 => h9) rfl dX11_applyObject_95 ?_
    refine lv_iload_n hx hb dX11_applyObject_98 rfl (lv_at hl 2 rfl) ?_
    obtain ⟨hi_6, hsp⟩ := ox_in hsp
    refine va_iald hx hb hK hP 0 0 rfl rfl (i := a2) hi_6 dX11_applyObject_99 ?_
    refine lv_iadd hx hb dX11_applyObject_100 ?_
    obtain ⟨⟨g906_0, u6_1, u6_2⟩, hu_6, hsp⟩ := ox_bind hsp
    try dsimp only at hsp
    have hPc := hP.sub (ws' := [(h0, .inr (11, [.ref qf0, .ref qf1, .int v2, .int v3, .int v4, .ref qf5, .int v6, .int v7, .ref qf8, .ref qf9, .ref qf10, .ref qf11, .ref qf12, .ref qf13, .ref qf14, .ref qf15, .int v16, .int v17, .int u5_0, .int u5_1, .int v20])), (qf15, .inl (cf15, 30, .inl f15))]) [1, 2] rfl
    have hDc := hD.sub (ws' := [(h0, .inr (11, [.ref qf0, .ref qf1, .int v2, .int v3, .int v4, .ref qf5, .int v6, .int v7, .ref qf8, .ref qf9, .ref qf10, .ref qf11, .ref qf12, .ref qf13, .ref qf14, .ref qf15, .int v16, .int v17, .int u5_0, .int u5_1, .int v20])), (qf15, .inl (cf15, 30, .inl f15))]) [1, 2] (by decide) rfl
    have hKc := hK.sub (tys' := [(cf15, .int)]) [1] rfl
    have hFc := va_free (wc := [(h0, .inr (11, [.ref qf0, .ref qf1, .int v2, .int v3, .int v4, .ref qf5, .int v6, .int v7, .ref qf8, .ref qf9, .ref qf10, .ref qf11, .ref qf12, .ref qf13, .ref qf14, .ref qf15, .int v16, .int v17, .int u5_0, .int u5_1, .int v20])), (qf15, .inl (cf15, 30, .inl f15))]) hD hS hA [1, 2] rfl
    refine va_callv (va_runV (As := [.int (100 + (f8 (a2 : Int32).toNatClampNeg))]) (rest := []) ⟨hx, hb, hml, hown, hts⟩ (t11_push l dC dI H.size h0 ((100 + (f8 (a2 : Int32).toNatClampNeg))) qf0 qf1 v2 v3 v4 qf5 v6 v7 qf8 qf9 qf10 qf11 qf12 qf13 qf14 qf15 v16 v17 u5_0 u5_1 v20 cf15 f15 nf g906_0 u6_1 u6_2 hu_6) (cwV 1 hts gv_h3_52 rfl rfl rfl (by decide +kernel) ⟨Nat.le_of_ble_eq_true rfl, Nat.le_of_ble_eq_true rfl⟩) ⟨fun a U g mk q => by obtain ⟨q0, q1, qP, qK, qD⟩ := q; exact ⟨q0, q1, qP, va_K.moved (u := U) (U := U.calling g mk a) (Vm.Alike.refl U.vm) qK, qD⟩, va_recv hKc hPc (ci := 11) (q0 := 0) rfl rfl, fun U hU hW => ⟨rfl, by rw [hU], by rw [hU]; exact hPc, va_K.moved hW.alike hKc, hDc.weaken (fun _ _ _ _ => trivial)⟩⟩ rfl rfl hl.1 rfl (lv_room (Nat.le_of_ble_eq_true rfl)) dX11_applyObject_101 ⟨Nat.le_of_ble_eq_true rfl, Nat.le_of_ble_eq_true rfl⟩) hS (fun q _ h => hFc q h) hFc ?_
    clear hS
    intro u t H1 locs ht hvm hw hB hz1 hk1 hS
    obtain ⟨⟩ := u
    obtain ⟨hP1, hK1, hD1⟩ := hB
    rw [ht] at hP1
    have hK1 := va_K.moved hvm.symm hK1
    try dsimp only at hw
    have hPD := va_join (wr := [(qf8, .inl (cf8, 256, .inl f8)), (qf1, .inr (4, [.ref qf1_0, .ref qf1_1])), (qf1_1, .inl (cf1_1, 256, .inl f1_1))]) (w1 := [(h0, .inr (11, [.ref qf0, .ref qf1, .int v2, .int v3, .int v4, .ref qf5, .int v6, .int v7, .ref qf8, .ref qf9, .ref qf10, .ref qf11, .ref qf12, .ref qf13, .ref qf14, .ref qf15, .int v16, .int v17, .int u6_1, .int u6_2, .int v20])), (qf15, .inl (cf15, 30, .inl g906_0))]) hP hD [1, 2] [0, 3, 4] rfl rfl (by decide) (by decide) hk1 hFc hP1 hD1
    clear hP hD
    obtain ⟨hP, hD⟩ := hPD
    replace hK := (hK.sub (tys' := [(cf8, .int), (cf1_1, .boolean)]) [0, 2] rfl).app hK1
    clear hPc hDc hKc hFc hP1 hK1 hD1 hz1 hk1 ht hvm
    generalize H1 = H at hP hS ⊢
    replace hP : va_P (dC, dI) vwCl [(qf8, .inl (cf8, 256, .inl f8)), (qf1, .inr (4, [.ref qf1_0, .ref qf1_1])), (qf1_1, .inl (cf1_1, 256, .inl f1_1)), (h0, .inr (11, [.ref qf0, .ref qf1, .int v2, .int v3, .int v4, .ref qf5, .int v6, .int v7, .ref qf8, .ref qf9, .ref qf10, .ref qf11, .ref qf12, .ref qf13, .ref qf14, .ref qf15, .int v16, .int v17, .int u6_1, .int u6_2, .int v20])), (qf15, .inl (cf15, 30, .inl g906_0))] H := hP
    replace hD : va_D A [(qf8, .inl (cf8, 256, .inl f8)), (qf1, .inr (4, [.ref qf1_0, .ref qf1_1])), (qf1_1, .inl (cf1_1, 256, .inl f1_1)), (h0, .inr (11, [.ref qf0, .ref qf1, .int v2, .int v3, .int v4, .ref qf5, .int v6, .int v7, .ref qf8, .ref qf9, .ref qf10, .ref qf11, .ref qf12, .ref qf13, .ref qf14, .ref qf15, .int v16, .int v17, .int u6_1, .int u6_2, .int v20])), (qf15, .inl (cf15, 30, .inl g906_0))] := hD
    replace hK : va_K (dC, dI) vwCl [(cf8, .int), (cf1_1, .boolean), (cf15, .int)] s := hK
    refine lv_goto (tgt := 162) hx hb dX11_applyObject_104 (by decide) ?_
    have hr0 := Option.some.inj hsp
    clear hsp
    obtain ⟨hq0, hr1⟩ := Prod.mk.inj hr0
    clear hr0
    obtain ⟨hq1, hr2⟩ := Prod.mk.inj hr1
    clear hr1
    subst hq0
    subst hq1
    subst hr2
    have hP9 := hP.sub (ws' := [(h0, .inr (11, [.ref qf0, .ref qf1, .int v2, .int v3, .int v4, .ref qf5, .int v6, .int v7, .ref qf8, .ref qf9, .ref qf10, .ref qf11, .ref qf12, .ref qf13, .ref qf14, .ref qf15, .int v16, .int v17, .int u6_1, .int u6_2, .int v20])), (qf15, .inl (cf15, 30, .inl g906_0)), (qf1, .inr (4, [.ref qf1_0, .ref qf1_1])), (qf1_1, .inl (cf1_1, 256, .inl f1_1)), (qf8, .inl (cf8, 256, .inl f8))]) [3, 4, 1, 2, 0] rfl
    have hD9 := hD.sub (ws' := [(h0, .inr (11, [.ref qf0, .ref qf1, .int v2, .int v3, .int v4, .ref qf5, .int v6, .int v7, .ref qf8, .ref qf9, .ref qf10, .ref qf11, .ref qf12, .ref qf13, .ref qf14, .ref qf15, .int v16, .int v17, .int u6_1, .int u6_2, .int v20])), (qf15, .inl (cf15, 30, .inl g906_0)), (qf1, .inr (4, [.ref qf1_0, .ref qf1_1])), (qf1_1, .inl (cf1_1, 256, .inl f1_1)), (qf8, .inl (cf8, 256, .inl f8))]) [3, 4, 1, 2, 0] (by decide) rfl
    have hK9 := hK.sub (tys' := [(cf15, .int), (cf1_1, .boolean), (cf8, .int)]) [2, 1, 0] rfl
    exact W.vret hx hb hr (fun t ht hW => ⟨⟨(), rfl, trivial, by rw [ht]; exact hP9, va_K.moved hW.alike hK9, hD9⟩, hS.F ht⟩) hS.2.2 dX11_applyObject_162
  rw [if_neg hs_5] at hsp
  by_cases hs_7 : a1 = 190
  · rw [if_pos hs_7] at hsp
    refine lv_tableIn (tgt := 107) hx hb dX11_applyObject_1 (by rw [hs_7]; decide) (by rw [hs_7]; decide) (off := 106) (by rw [hs_7]; rfl) (by decide) ?_
    refine lv_aload_n hx hb dX11_applyObject_107 rfl (lv_at hl 0 rfl) ?_
    refine lv_iconst (v := 1) hx hb dX11_applyObject_108 (by decide) ?_
    refine lv_iconst (v := 1) hx hb dX11_applyObject_109 (by decide) ?_
    obtain ⟨⟨u7_0, u7_1, u7_2⟩, hu_7, hsp⟩ := ox_bind hsp
    try dsimp only at hsp
    have hPc := hP.sub (ws' := [(h0, .inr (11, [.ref qf0, .ref qf1, .int v2, .int v3, .int v4, .ref qf5, .int v6, .int v7, .ref qf8, .ref qf9, .ref qf10, .ref qf11, .ref qf12, .ref qf13, .ref qf14, .ref qf15, .int v16, .int v17, .int v18, .int v19, .int v20])), (qf15, .inl (cf15, 30, .inl f15))]) [0, 1] rfl
    have hDc := hD.sub (ws' := [(h0, .inr (11, [.ref qf0, .ref qf1, .int v2, .int v3, .int v4, .ref qf5, .int v6, .int v7, .ref qf8, .ref qf9, .ref qf10, .ref qf11, .ref qf12, .ref qf13, .ref qf14, .ref qf15, .int v16, .int v17, .int v18, .int v19, .int v20])), (qf15, .inl (cf15, 30, .inl f15))]) [0, 1] (by decide) rfl
    have hKc := hK.sub (tys' := [(cf15, .int)]) [0] rfl
    have hFc := va_free (wc := [(h0, .inr (11, [.ref qf0, .ref qf1, .int v2, .int v3, .int v4, .ref qf5, .int v6, .int v7, .ref qf8, .ref qf9, .ref qf10, .ref qf11, .ref qf12, .ref qf13, .ref qf14, .ref qf15, .int v16, .int v17, .int v18, .int v19, .int v20])), (qf15, .inl (cf15, 30, .inl f15))]) hD hS hA [0, 1] rfl
    refine va_calli (va_runV (As := [.int 1, .int 1]) (rest := []) ⟨hx, hb, hml, hown, hts⟩ (t11_wantArray l dC dI H.size h0 1 1 qf0 qf1 v2 v3 v4 qf5 v6 v7 qf8 qf9 qf10 qf11 qf12 qf13 qf14 qf15 v16 v17 v18 v19 v20 cf15 f15 nf u7_0 u7_1 u7_2 hu_7) (cwV 2 hts gv_h3_55 rfl rfl rfl (by decide +kernel) ⟨Nat.le_of_ble_eq_true rfl, Nat.le_of_ble_eq_true rfl⟩) ⟨fun a U g mk q => by obtain ⟨q0, q1, qP, qK, qD⟩ := q; exact ⟨q0, q1, qP, va_K.moved (u := U) (U := U.calling g mk a) (Vm.Alike.refl U.vm) qK, qD⟩, va_recv hKc hPc (ci := 11) (q0 := 0) rfl rfl, fun U hU hW => ⟨rfl, by rw [hU], by rw [hU]; exact hPc, va_K.moved hW.alike hKc, hDc.weaken (fun _ _ _ _ => trivial)⟩⟩ rfl rfl hl.1 rfl (lv_room (Nat.le_of_ble_eq_true rfl)) dX11_applyObject_110 ⟨Nat.le_of_ble_eq_true rfl, Nat.le_of_ble_eq_true rfl⟩) hS (fun q _ h => hFc q h) hFc ?_
    clear hS
    intro r_8 u t H1 locs ht hvm hw hB hz1 hk1 hS
    obtain ⟨⟩ := u
    obtain ⟨hP1, hK1, hD1⟩ := hB
    rw [ht] at hP1
    have hK1 := va_K.moved hvm.symm hK1
    try dsimp only at hw
    have hPD := va_join (wr := [(qf1, .inr (4, [.ref qf1_0, .ref qf1_1])), (qf1_1, .inl (cf1_1, 256, .inl f1_1)), (qf8, .inl (cf8, 256, .inl f8))]) (w1 := [(h0, .inr (11, [.ref qf0, .ref qf1, .int v2, .int v3, .int v4, .ref qf5, .int v6, .int v7, .ref qf8, .ref qf9, .ref qf10, .ref qf11, .ref qf12, .ref qf13, .ref qf14, .ref qf15, .int v16, .int v17, .int u7_1, .int u7_2, .int v20])), (qf15, .inl (cf15, 30, .inl f15))]) hP hD [0, 1] [2, 3, 4] rfl rfl (by decide) (by decide) hk1 hFc hP1 hD1
    clear hP hD
    obtain ⟨hP, hD⟩ := hPD
    replace hK := (hK.sub (tys' := [(cf1_1, .boolean), (cf8, .int)]) [1, 2] rfl).app hK1
    clear hPc hDc hKc hFc hP1 hK1 hD1 hz1 hk1 ht hvm
    generalize H1 = H at hP hS ⊢
    replace hP : va_P (dC, dI) vwCl [(qf1, .inr (4, [.ref qf1_0, .ref qf1_1])), (qf1_1, .inl (cf1_1, 256, .inl f1_1)), (qf8, .inl (cf8, 256, .inl f8)), (h0, .inr (11, [.ref qf0, .ref qf1, .int v2, .int v3, .int v4, .ref qf5, .int v6, .int v7, .ref qf8, .ref qf9, .ref qf10, .ref qf11, .ref qf12, .ref qf13, .ref qf14, .ref qf15, .int v16, .int v17, .int u7_1, .int u7_2, .int v20])), (qf15, .inl (cf15, 30, .inl f15))] H := hP
    replace hD : va_D A [(qf1, .inr (4, [.ref qf1_0, .ref qf1_1])), (qf1_1, .inl (cf1_1, 256, .inl f1_1)), (qf8, .inl (cf8, 256, .inl f8)), (h0, .inr (11, [.ref qf0, .ref qf1, .int v2, .int v3, .int v4, .ref qf5, .int v6, .int v7, .ref qf8, .ref qf9, .ref qf10, .ref qf11, .ref qf12, .ref qf13, .ref qf14, .ref qf15, .int v16, .int v17, .int u7_1, .int u7_2, .int v20])), (qf15, .inl (cf15, 30, .inl f15))] := hD
    replace hK : va_K (dC, dI) vwCl [(cf1_1, .boolean), (cf8, .int), (cf15, .int)] s := hK
    obtain rfl := hw
    refine lv_pop hx hb dX11_applyObject_113 rfl ?_
    refine lv_aload_n hx hb dX11_applyObject_114 rfl (lv_at hl 0 rfl) ?_
    refine lv_sipush (v := 301) hx hb dX11_applyObject_115 (by decide) ?_
    obtain ⟨⟨g908_0, u8_1, u8_2⟩, hu_8, hsp⟩ := ox_bind hsp
    try dsimp only at hsp
    have hPc := hP.sub (ws' := [(h0, .inr (11, [.ref qf0, .ref qf1, .int v2, .int v3, .int v4, .ref qf5, .int v6, .int v7, .ref qf8, .ref qf9, .ref qf10, .ref qf11, .ref qf12, .ref qf13, .ref qf14, .ref qf15, .int v16, .int v17, .int u7_1, .int u7_2, .int v20])), (qf15, .inl (cf15, 30, .inl f15))]) [3, 4] rfl
    have hDc := hD.sub (ws' := [(h0, .inr (11, [.ref qf0, .ref qf1, .int v2, .int v3, .int v4, .ref qf5, .int v6, .int v7, .ref qf8, .ref qf9, .ref qf10, .ref qf11, .ref qf12, .ref qf13, .ref qf14, .ref qf15, .int v16, .int v17, .int u7_1, .int u7_2, .int v20])), (qf15, .inl (cf15, 30, .inl f15))]) [3, 4] (by decide) rfl
    have hKc := hK.sub (tys' := [(cf15, .int)]) [2] rfl
    have hFc := va_free (wc := [(h0, .inr (11, [.ref qf0, .ref qf1, .int v2, .int v3, .int v4, .ref qf5, .int v6, .int v7, .ref qf8, .ref qf9, .ref qf10, .ref qf11, .ref qf12, .ref qf13, .ref qf14, .ref qf15, .int v16, .int v17, .int u7_1, .int u7_2, .int v20])), (qf15, .inl (cf15, 30, .inl f15))]) hD hS hA [3, 4] rfl
    refine va_callv (va_runV (As := [.int 301]) (rest := []) ⟨hx, hb, hml, hown, hts⟩ (t11_push l dC dI H.size h0 301 qf0 qf1 v2 v3 v4 qf5 v6 v7 qf8 qf9 qf10 qf11 qf12 qf13 qf14 qf15 v16 v17 u7_1 u7_2 v20 cf15 f15 nf g908_0 u8_1 u8_2 hu_8) (cwV 1 hts gv_h3_52 rfl rfl rfl (by decide +kernel) ⟨Nat.le_of_ble_eq_true rfl, Nat.le_of_ble_eq_true rfl⟩) ⟨fun a U g mk q => by obtain ⟨q0, q1, qP, qK, qD⟩ := q; exact ⟨q0, q1, qP, va_K.moved (u := U) (U := U.calling g mk a) (Vm.Alike.refl U.vm) qK, qD⟩, va_recv hKc hPc (ci := 11) (q0 := 0) rfl rfl, fun U hU hW => ⟨rfl, by rw [hU], by rw [hU]; exact hPc, va_K.moved hW.alike hKc, hDc.weaken (fun _ _ _ _ => trivial)⟩⟩ rfl rfl hl.1 rfl (lv_room (Nat.le_of_ble_eq_true rfl)) dX11_applyObject_118 ⟨Nat.le_of_ble_eq_true rfl, Nat.le_of_ble_eq_true rfl⟩) hS (fun q _ h => hFc q h) hFc ?_
    clear hS
    intro u t H1 locs ht hvm hw hB hz1 hk1 hS
    obtain ⟨⟩ := u
    obtain ⟨hP1, hK1, hD1⟩ := hB
    rw [ht] at hP1
    have hK1 := va_K.moved hvm.symm hK1
    try dsimp only at hw
    have hPD := va_join (wr := [(qf1, .inr (4, [.ref qf1_0, .ref qf1_1])), (qf1_1, .inl (cf1_1, 256, .inl f1_1)), (qf8, .inl (cf8, 256, .inl f8))]) (w1 := [(h0, .inr (11, [.ref qf0, .ref qf1, .int v2, .int v3, .int v4, .ref qf5, .int v6, .int v7, .ref qf8, .ref qf9, .ref qf10, .ref qf11, .ref qf12, .ref qf13, .ref qf14, .ref qf15, .int v16, .int v17, .int u8_1, .int u8_2, .int v20])), (qf15, .inl (cf15, 30, .inl g908_0))]) hP hD [3, 4] [0, 1, 2] rfl rfl (by decide) (by decide) hk1 hFc hP1 hD1
    clear hP hD
    obtain ⟨hP, hD⟩ := hPD
    replace hK := (hK.sub (tys' := [(cf1_1, .boolean), (cf8, .int)]) [0, 1] rfl).app hK1
    clear hPc hDc hKc hFc hP1 hK1 hD1 hz1 hk1 ht hvm
    generalize H1 = H at hP hS ⊢
    replace hP : va_P (dC, dI) vwCl [(qf1, .inr (4, [.ref qf1_0, .ref qf1_1])), (qf1_1, .inl (cf1_1, 256, .inl f1_1)), (qf8, .inl (cf8, 256, .inl f8)), (h0, .inr (11, [.ref qf0, .ref qf1, .int v2, .int v3, .int v4, .ref qf5, .int v6, .int v7, .ref qf8, .ref qf9, .ref qf10, .ref qf11, .ref qf12, .ref qf13, .ref qf14, .ref qf15, .int v16, .int v17, .int u8_1, .int u8_2, .int v20])), (qf15, .inl (cf15, 30, .inl g908_0))] H := hP
    replace hD : va_D A [(qf1, .inr (4, [.ref qf1_0, .ref qf1_1])), (qf1_1, .inl (cf1_1, 256, .inl f1_1)), (qf8, .inl (cf8, 256, .inl f8)), (h0, .inr (11, [.ref qf0, .ref qf1, .int v2, .int v3, .int v4, .ref qf5, .int v6, .int v7, .ref qf8, .ref qf9, .ref qf10, .ref qf11, .ref qf12, .ref qf13, .ref qf14, .ref qf15, .int v16, .int v17, .int u8_1, .int u8_2, .int v20])), (qf15, .inl (cf15, 30, .inl g908_0))] := hD
    replace hK : va_K (dC, dI) vwCl [(cf1_1, .boolean), (cf8, .int), (cf15, .int)] s := hK
    refine lv_goto (tgt := 162) hx hb dX11_applyObject_121 (by decide) ?_
    have hr0 := Option.some.inj hsp
    clear hsp
    obtain ⟨hq0, hr1⟩ := Prod.mk.inj hr0
    clear hr0
    obtain ⟨hq1, hr2⟩ := Prod.mk.inj hr1
    clear hr1
    subst hq0
    subst hq1
    subst hr2
    have hP9 := hP.sub (ws' := [(h0, .inr (11, [.ref qf0, .ref qf1, .int v2, .int v3, .int v4, .ref qf5, .int v6, .int v7, .ref qf8, .ref qf9, .ref qf10, .ref qf11, .ref qf12, .ref qf13, .ref qf14, .ref qf15, .int v16, .int v17, .int u8_1, .int u8_2, .int v20])), (qf15, .inl (cf15, 30, .inl g908_0)), (qf1, .inr (4, [.ref qf1_0, .ref qf1_1])), (qf1_1, .inl (cf1_1, 256, .inl f1_1)), (qf8, .inl (cf8, 256, .inl f8))]) [3, 4, 0, 1, 2] rfl
    have hD9 := hD.sub (ws' := [(h0, .inr (11, [.ref qf0, .ref qf1, .int v2, .int v3, .int v4, .ref qf5, .int v6, .int v7, .ref qf8, .ref qf9, .ref qf10, .ref qf11, .ref qf12, .ref qf13, .ref qf14, .ref qf15, .int v16, .int v17, .int u8_1, .int u8_2, .int v20])), (qf15, .inl (cf15, 30, .inl g908_0)), (qf1, .inr (4, [.ref qf1_0, .ref qf1_1])), (qf1_1, .inl (cf1_1, 256, .inl f1_1)), (qf8, .inl (cf8, 256, .inl f8))]) [3, 4, 0, 1, 2] (by decide) rfl
    have hK9 := hK.sub (tys' := [(cf15, .int), (cf1_1, .boolean), (cf8, .int)]) [2, 0, 1] rfl
    exact W.vret hx hb hr (fun t ht hW => ⟨⟨(), rfl, trivial, by rw [ht]; exact hP9, va_K.moved hW.alike hK9, hD9⟩, hS.F ht⟩) hS.2.2 dX11_applyObject_162
  rw [if_neg hs_7] at hsp
  by_cases hs_9 : a1 = 191
  · rw [if_pos hs_9] at hsp
    refine lv_tableIn (tgt := 124) hx hb dX11_applyObject_1 (by rw [hs_9]; decide) (by rw [hs_9]; decide) (off := 123) (by rw [hs_9]; rfl) (by decide) ?_
    refine lv_aload_n hx hb dX11_applyObject_124 rfl (lv_at hl 0 rfl) ?_
    refine lv_iconst (v := 1) hx hb dX11_applyObject_125 (by decide) ?_
    obtain ⟨⟨u9_0, u9_1⟩, hu_9, hsp⟩ := ox_bind hsp
    try dsimp only at hsp
    have hPc := hP.sub (ws' := [(h0, .inr (11, [.ref qf0, .ref qf1, .int v2, .int v3, .int v4, .ref qf5, .int v6, .int v7, .ref qf8, .ref qf9, .ref qf10, .ref qf11, .ref qf12, .ref qf13, .ref qf14, .ref qf15, .int v16, .int v17, .int v18, .int v19, .int v20])), (qf15, .inl (cf15, 30, .inl f15)), (qf1, .inr (4, [.ref qf1_0, .ref qf1_1])), (qf1_1, .inl (cf1_1, 256, .inl f1_1))]) [0, 1, 2, 3] rfl
    have hDc := hD.sub (ws' := [(h0, .inr (11, [.ref qf0, .ref qf1, .int v2, .int v3, .int v4, .ref qf5, .int v6, .int v7, .ref qf8, .ref qf9, .ref qf10, .ref qf11, .ref qf12, .ref qf13, .ref qf14, .ref qf15, .int v16, .int v17, .int v18, .int v19, .int v20])), (qf15, .inl (cf15, 30, .inl f15)), (qf1, .inr (4, [.ref qf1_0, .ref qf1_1])), (qf1_1, .inl (cf1_1, 256, .inl f1_1))]) [0, 1, 2, 3] (by decide) rfl
    have hKc := hK.sub (tys' := [(cf15, .int), (cf1_1, .boolean)]) [0, 1] rfl
    have hFc := va_free (wc := [(h0, .inr (11, [.ref qf0, .ref qf1, .int v2, .int v3, .int v4, .ref qf5, .int v6, .int v7, .ref qf8, .ref qf9, .ref qf10, .ref qf11, .ref qf12, .ref qf13, .ref qf14, .ref qf15, .int v16, .int v17, .int v18, .int v19, .int v20])), (qf15, .inl (cf15, 30, .inl f15)), (qf1, .inr (4, [.ref qf1_0, .ref qf1_1])), (qf1_1, .inl (cf1_1, 256, .inl f1_1))]) hD hS hA [0, 1, 2, 3] rfl
    refine va_callv (va_runV (As := [.int 1]) (rest := []) ⟨hx, hb, hml, hown, hts⟩ (t11_want l dC dI H.size h0 1 qf0 qf1 v2 v3 v4 qf5 v6 v7 qf8 qf9 qf10 qf11 qf12 qf13 qf14 qf15 v16 v17 v18 v19 v20 cf15 f15 qf1_0 qf1_1 cf1_1 f1_1 nf u9_0 u9_1 hu_9) (cwV 1 hts gv_h3_54 rfl rfl rfl (by decide +kernel) ⟨Nat.le_of_ble_eq_true rfl, Nat.le_of_ble_eq_true rfl⟩) ⟨fun a U g mk q => by obtain ⟨q0, q1, qP, qK, qD⟩ := q; exact ⟨q0, q1, qP, va_K.moved (u := U) (U := U.calling g mk a) (Vm.Alike.refl U.vm) qK, qD⟩, va_recv hKc hPc (ci := 11) (q0 := 0) rfl rfl, fun U hU hW => ⟨rfl, by rw [hU], by rw [hU]; exact hPc, va_K.moved hW.alike hKc, hDc.weaken (fun _ _ _ _ => trivial)⟩⟩ rfl rfl hl.1 rfl (lv_room (Nat.le_of_ble_eq_true rfl)) dX11_applyObject_126 ⟨Nat.le_of_ble_eq_true rfl, Nat.le_of_ble_eq_true rfl⟩) hS (fun q _ h => hFc q h) hFc ?_
    clear hS
    intro u t H1 locs ht hvm hw hB hz1 hk1 hS
    obtain ⟨⟩ := u
    obtain ⟨hP1, hK1, hD1⟩ := hB
    rw [ht] at hP1
    have hK1 := va_K.moved hvm.symm hK1
    try dsimp only at hw
    have hPD := va_join (wr := [(qf8, .inl (cf8, 256, .inl f8))]) (w1 := [(h0, .inr (11, [.ref qf0, .ref qf1, .int v2, .int v3, .int v4, .ref qf5, .int v6, .int v7, .ref qf8, .ref qf9, .ref qf10, .ref qf11, .ref qf12, .ref qf13, .ref qf14, .ref qf15, .int v16, .int v17, .int u9_0, .int u9_1, .int v20])), (qf15, .inl (cf15, 30, .inl f15)), (qf1, .inr (4, [.ref qf1_0, .ref qf1_1])), (qf1_1, .inl (cf1_1, 256, .inl f1_1))]) hP hD [0, 1, 2, 3] [4] rfl rfl (by decide) (by decide) hk1 hFc hP1 hD1
    clear hP hD
    obtain ⟨hP, hD⟩ := hPD
    replace hK := (hK.sub (tys' := [(cf8, .int)]) [2] rfl).app hK1
    clear hPc hDc hKc hFc hP1 hK1 hD1 hz1 hk1 ht hvm
    generalize H1 = H at hP hS ⊢
    replace hP : va_P (dC, dI) vwCl [(qf8, .inl (cf8, 256, .inl f8)), (h0, .inr (11, [.ref qf0, .ref qf1, .int v2, .int v3, .int v4, .ref qf5, .int v6, .int v7, .ref qf8, .ref qf9, .ref qf10, .ref qf11, .ref qf12, .ref qf13, .ref qf14, .ref qf15, .int v16, .int v17, .int u9_0, .int u9_1, .int v20])), (qf15, .inl (cf15, 30, .inl f15)), (qf1, .inr (4, [.ref qf1_0, .ref qf1_1])), (qf1_1, .inl (cf1_1, 256, .inl f1_1))] H := hP
    replace hD : va_D A [(qf8, .inl (cf8, 256, .inl f8)), (h0, .inr (11, [.ref qf0, .ref qf1, .int v2, .int v3, .int v4, .ref qf5, .int v6, .int v7, .ref qf8, .ref qf9, .ref qf10, .ref qf11, .ref qf12, .ref qf13, .ref qf14, .ref qf15, .int v16, .int v17, .int u9_0, .int u9_1, .int v20])), (qf15, .inl (cf15, 30, .inl f15)), (qf1, .inr (4, [.ref qf1_0, .ref qf1_1])), (qf1_1, .inl (cf1_1, 256, .inl f1_1))] := hD
    replace hK : va_K (dC, dI) vwCl [(cf8, .int), (cf15, .int), (cf1_1, .boolean)] s := hK
    refine lv_goto (tgt := 162) hx hb dX11_applyObject_129 (by decide) ?_
    have hr0 := Option.some.inj hsp
    clear hsp
    obtain ⟨hq0, hr1⟩ := Prod.mk.inj hr0
    clear hr0
    obtain ⟨hq1, hr2⟩ := Prod.mk.inj hr1
    clear hr1
    subst hq0
    subst hq1
    subst hr2
    have hP9 := hP.sub (ws' := [(h0, .inr (11, [.ref qf0, .ref qf1, .int v2, .int v3, .int v4, .ref qf5, .int v6, .int v7, .ref qf8, .ref qf9, .ref qf10, .ref qf11, .ref qf12, .ref qf13, .ref qf14, .ref qf15, .int v16, .int v17, .int u9_0, .int u9_1, .int v20])), (qf15, .inl (cf15, 30, .inl f15)), (qf1, .inr (4, [.ref qf1_0, .ref qf1_1])), (qf1_1, .inl (cf1_1, 256, .inl f1_1)), (qf8, .inl (cf8, 256, .inl f8))]) [1, 2, 3, 4, 0] rfl
    have hD9 := hD.sub (ws' := [(h0, .inr (11, [.ref qf0, .ref qf1, .int v2, .int v3, .int v4, .ref qf5, .int v6, .int v7, .ref qf8, .ref qf9, .ref qf10, .ref qf11, .ref qf12, .ref qf13, .ref qf14, .ref qf15, .int v16, .int v17, .int u9_0, .int u9_1, .int v20])), (qf15, .inl (cf15, 30, .inl f15)), (qf1, .inr (4, [.ref qf1_0, .ref qf1_1])), (qf1_1, .inl (cf1_1, 256, .inl f1_1)), (qf8, .inl (cf8, 256, .inl f8))]) [1, 2, 3, 4, 0] (by decide) rfl
    have hK9 := hK.sub (tys' := [(cf15, .int), (cf1_1, .boolean), (cf8, .int)]) [1, 2, 0] rfl
    exact W.vret hx hb hr (fun t ht hW => ⟨⟨(), rfl, trivial, by rw [ht]; exact hP9, va_K.moved hW.alike hK9, hD9⟩, hS.F ht⟩) hS.2.2 dX11_applyObject_162
  rw [if_neg hs_9] at hsp
  by_cases hs_10 : a1 = 192
  · rw [if_pos hs_10] at hsp
    refine lv_tableIn (tgt := 132) hx hb dX11_applyObject_1 (by rw [hs_10]; decide) (by rw [hs_10]; decide) (off := 131) (by rw [hs_10]; rfl) (by decide) ?_
    refine lv_aload_n hx hb dX11_applyObject_132 rfl (lv_at hl 0 rfl) ?_
    obtain ⟨⟨u10_0, u10_1, u10_2⟩, hu_10, hsp⟩ := ox_bind hsp
    try dsimp only at hsp
    have hPc := hP.sub (ws' := [(h0, .inr (11, [.ref qf0, .ref qf1, .int v2, .int v3, .int v4, .ref qf5, .int v6, .int v7, .ref qf8, .ref qf9, .ref qf10, .ref qf11, .ref qf12, .ref qf13, .ref qf14, .ref qf15, .int v16, .int v17, .int v18, .int v19, .int v20])), (qf15, .inl (cf15, 30, .inl f15))]) [0, 1] rfl
    have hDc := hD.sub (ws' := [(h0, .inr (11, [.ref qf0, .ref qf1, .int v2, .int v3, .int v4, .ref qf5, .int v6, .int v7, .ref qf8, .ref qf9, .ref qf10, .ref qf11, .ref qf12, .ref qf13, .ref qf14, .ref qf15, .int v16, .int v17, .int v18, .int v19, .int v20])), (qf15, .inl (cf15, 30, .inl f15))]) [0, 1] (by decide) rfl
    have hKc := hK.sub (tys' := [(cf15, .int)]) [0] rfl
    have hFc := va_free (wc := [(h0, .inr (11, [.ref qf0, .ref qf1, .int v2, .int v3, .int v4, .ref qf5, .int v6, .int v7, .ref qf8, .ref qf9, .ref qf10, .ref qf11, .ref qf12, .ref qf13, .ref qf14, .ref qf15, .int v16, .int v17, .int v18, .int v19, .int v20])), (qf15, .inl (cf15, 30, .inl f15))]) hD hS hA [0, 1] rfl
    refine va_calli (va_runV (As := []) (rest := []) ⟨hx, hb, hml, hown, hts⟩ (t11_wantReference l dC dI H.size h0 qf0 qf1 v2 v3 v4 qf5 v6 v7 qf8 qf9 qf10 qf11 qf12 qf13 qf14 qf15 v16 v17 v18 v19 v20 cf15 f15 nf u10_0 u10_1 u10_2 hu_10) (cwV 0 hts gv_h3_53 rfl rfl rfl (by decide +kernel) ⟨Nat.le_of_ble_eq_true rfl, Nat.le_of_ble_eq_true rfl⟩) ⟨fun a U g mk q => by obtain ⟨q0, q1, qP, qK, qD⟩ := q; exact ⟨q0, q1, qP, va_K.moved (u := U) (U := U.calling g mk a) (Vm.Alike.refl U.vm) qK, qD⟩, va_recv hKc hPc (ci := 11) (q0 := 0) rfl rfl, fun U hU hW => ⟨rfl, by rw [hU], by rw [hU]; exact hPc, va_K.moved hW.alike hKc, hDc.weaken (fun _ _ _ _ => trivial)⟩⟩ rfl rfl hl.1 rfl (lv_room (Nat.le_of_ble_eq_true rfl)) dX11_applyObject_133 ⟨Nat.le_of_ble_eq_true rfl, Nat.le_of_ble_eq_true rfl⟩) hS (fun q _ h => hFc q h) hFc ?_
    clear hS
    intro r_11 u t H1 locs ht hvm hw hB hz1 hk1 hS
    obtain ⟨⟩ := u
    obtain ⟨hP1, hK1, hD1⟩ := hB
    rw [ht] at hP1
    have hK1 := va_K.moved hvm.symm hK1
    try dsimp only at hw
    have hPD := va_join (wr := [(qf1, .inr (4, [.ref qf1_0, .ref qf1_1])), (qf1_1, .inl (cf1_1, 256, .inl f1_1)), (qf8, .inl (cf8, 256, .inl f8))]) (w1 := [(h0, .inr (11, [.ref qf0, .ref qf1, .int v2, .int v3, .int v4, .ref qf5, .int v6, .int v7, .ref qf8, .ref qf9, .ref qf10, .ref qf11, .ref qf12, .ref qf13, .ref qf14, .ref qf15, .int v16, .int v17, .int u10_1, .int u10_2, .int v20])), (qf15, .inl (cf15, 30, .inl f15))]) hP hD [0, 1] [2, 3, 4] rfl rfl (by decide) (by decide) hk1 hFc hP1 hD1
    clear hP hD
    obtain ⟨hP, hD⟩ := hPD
    replace hK := (hK.sub (tys' := [(cf1_1, .boolean), (cf8, .int)]) [1, 2] rfl).app hK1
    clear hPc hDc hKc hFc hP1 hK1 hD1 hz1 hk1 ht hvm
    generalize H1 = H at hP hS ⊢
    replace hP : va_P (dC, dI) vwCl [(qf1, .inr (4, [.ref qf1_0, .ref qf1_1])), (qf1_1, .inl (cf1_1, 256, .inl f1_1)), (qf8, .inl (cf8, 256, .inl f8)), (h0, .inr (11, [.ref qf0, .ref qf1, .int v2, .int v3, .int v4, .ref qf5, .int v6, .int v7, .ref qf8, .ref qf9, .ref qf10, .ref qf11, .ref qf12, .ref qf13, .ref qf14, .ref qf15, .int v16, .int v17, .int u10_1, .int u10_2, .int v20])), (qf15, .inl (cf15, 30, .inl f15))] H := hP
    replace hD : va_D A [(qf1, .inr (4, [.ref qf1_0, .ref qf1_1])), (qf1_1, .inl (cf1_1, 256, .inl f1_1)), (qf8, .inl (cf8, 256, .inl f8)), (h0, .inr (11, [.ref qf0, .ref qf1, .int v2, .int v3, .int v4, .ref qf5, .int v6, .int v7, .ref qf8, .ref qf9, .ref qf10, .ref qf11, .ref qf12, .ref qf13, .ref qf14, .ref qf15, .int v16, .int v17, .int u10_1, .int u10_2, .int v20])), (qf15, .inl (cf15, 30, .inl f15))] := hD
    replace hK : va_K (dC, dI) vwCl [(cf1_1, .boolean), (cf8, .int), (cf15, .int)] s := hK
    obtain rfl := hw
    refine lv_pop hx hb dX11_applyObject_136 rfl ?_
    refine lv_aload_n hx hb dX11_applyObject_137 rfl (lv_at hl 0 rfl) ?_
    refine lv_aload_n hx hb dX11_applyObject_138 rfl (lv_at hl 0 rfl) ?_
    refine va_get (D := (dC, dI)) (ci := 11) (v := .ref qf8) (C := RX11) (T := TX11) (N := 21) hx hb hts uV_h3_X11 hown hK hP 3 rfl rfl 8 (by decide) (hts (.fieldLink RX11 23 "ClassMill$Verifier" "classTypes" "[I") mw_h3_193) (fun _ h9 => h9) rfl dX11_applyObject_139 ?_
    refine lv_iload_n hx hb dX11_applyObject_142 rfl (lv_at hl 2 rfl) ?_
    obtain ⟨hi_12, hsp⟩ := ox_in hsp
    refine va_iald hx hb hK hP 2 1 rfl rfl (i := a2) hi_12 dX11_applyObject_143 ?_
    obtain ⟨⟨g911_0, u11_1, u11_2⟩, hu_11, hsp⟩ := ox_bind hsp
    try dsimp only at hsp
    have hPc := hP.sub (ws' := [(h0, .inr (11, [.ref qf0, .ref qf1, .int v2, .int v3, .int v4, .ref qf5, .int v6, .int v7, .ref qf8, .ref qf9, .ref qf10, .ref qf11, .ref qf12, .ref qf13, .ref qf14, .ref qf15, .int v16, .int v17, .int u10_1, .int u10_2, .int v20])), (qf15, .inl (cf15, 30, .inl f15))]) [3, 4] rfl
    have hDc := hD.sub (ws' := [(h0, .inr (11, [.ref qf0, .ref qf1, .int v2, .int v3, .int v4, .ref qf5, .int v6, .int v7, .ref qf8, .ref qf9, .ref qf10, .ref qf11, .ref qf12, .ref qf13, .ref qf14, .ref qf15, .int v16, .int v17, .int u10_1, .int u10_2, .int v20])), (qf15, .inl (cf15, 30, .inl f15))]) [3, 4] (by decide) rfl
    have hKc := hK.sub (tys' := [(cf15, .int)]) [2] rfl
    have hFc := va_free (wc := [(h0, .inr (11, [.ref qf0, .ref qf1, .int v2, .int v3, .int v4, .ref qf5, .int v6, .int v7, .ref qf8, .ref qf9, .ref qf10, .ref qf11, .ref qf12, .ref qf13, .ref qf14, .ref qf15, .int v16, .int v17, .int u10_1, .int u10_2, .int v20])), (qf15, .inl (cf15, 30, .inl f15))]) hD hS hA [3, 4] rfl
    refine va_callv (va_runV (As := [.int (f8 (a2 : Int32).toNatClampNeg)]) (rest := []) ⟨hx, hb, hml, hown, hts⟩ (t11_push l dC dI H.size h0 ((f8 (a2 : Int32).toNatClampNeg)) qf0 qf1 v2 v3 v4 qf5 v6 v7 qf8 qf9 qf10 qf11 qf12 qf13 qf14 qf15 v16 v17 u10_1 u10_2 v20 cf15 f15 nf g911_0 u11_1 u11_2 hu_11) (cwV 1 hts gv_h3_52 rfl rfl rfl (by decide +kernel) ⟨Nat.le_of_ble_eq_true rfl, Nat.le_of_ble_eq_true rfl⟩) ⟨fun a U g mk q => by obtain ⟨q0, q1, qP, qK, qD⟩ := q; exact ⟨q0, q1, qP, va_K.moved (u := U) (U := U.calling g mk a) (Vm.Alike.refl U.vm) qK, qD⟩, va_recv hKc hPc (ci := 11) (q0 := 0) rfl rfl, fun U hU hW => ⟨rfl, by rw [hU], by rw [hU]; exact hPc, va_K.moved hW.alike hKc, hDc.weaken (fun _ _ _ _ => trivial)⟩⟩ rfl rfl hl.1 rfl (lv_room (Nat.le_of_ble_eq_true rfl)) dX11_applyObject_144 ⟨Nat.le_of_ble_eq_true rfl, Nat.le_of_ble_eq_true rfl⟩) hS (fun q _ h => hFc q h) hFc ?_
    clear hS
    intro u t H1 locs ht hvm hw hB hz1 hk1 hS
    obtain ⟨⟩ := u
    obtain ⟨hP1, hK1, hD1⟩ := hB
    rw [ht] at hP1
    have hK1 := va_K.moved hvm.symm hK1
    try dsimp only at hw
    have hPD := va_join (wr := [(qf1, .inr (4, [.ref qf1_0, .ref qf1_1])), (qf1_1, .inl (cf1_1, 256, .inl f1_1)), (qf8, .inl (cf8, 256, .inl f8))]) (w1 := [(h0, .inr (11, [.ref qf0, .ref qf1, .int v2, .int v3, .int v4, .ref qf5, .int v6, .int v7, .ref qf8, .ref qf9, .ref qf10, .ref qf11, .ref qf12, .ref qf13, .ref qf14, .ref qf15, .int v16, .int v17, .int u11_1, .int u11_2, .int v20])), (qf15, .inl (cf15, 30, .inl g911_0))]) hP hD [3, 4] [0, 1, 2] rfl rfl (by decide) (by decide) hk1 hFc hP1 hD1
    clear hP hD
    obtain ⟨hP, hD⟩ := hPD
    replace hK := (hK.sub (tys' := [(cf1_1, .boolean), (cf8, .int)]) [0, 1] rfl).app hK1
    clear hPc hDc hKc hFc hP1 hK1 hD1 hz1 hk1 ht hvm
    generalize H1 = H at hP hS ⊢
    replace hP : va_P (dC, dI) vwCl [(qf1, .inr (4, [.ref qf1_0, .ref qf1_1])), (qf1_1, .inl (cf1_1, 256, .inl f1_1)), (qf8, .inl (cf8, 256, .inl f8)), (h0, .inr (11, [.ref qf0, .ref qf1, .int v2, .int v3, .int v4, .ref qf5, .int v6, .int v7, .ref qf8, .ref qf9, .ref qf10, .ref qf11, .ref qf12, .ref qf13, .ref qf14, .ref qf15, .int v16, .int v17, .int u11_1, .int u11_2, .int v20])), (qf15, .inl (cf15, 30, .inl g911_0))] H := hP
    replace hD : va_D A [(qf1, .inr (4, [.ref qf1_0, .ref qf1_1])), (qf1_1, .inl (cf1_1, 256, .inl f1_1)), (qf8, .inl (cf8, 256, .inl f8)), (h0, .inr (11, [.ref qf0, .ref qf1, .int v2, .int v3, .int v4, .ref qf5, .int v6, .int v7, .ref qf8, .ref qf9, .ref qf10, .ref qf11, .ref qf12, .ref qf13, .ref qf14, .ref qf15, .int v16, .int v17, .int u11_1, .int u11_2, .int v20])), (qf15, .inl (cf15, 30, .inl g911_0))] := hD
    replace hK : va_K (dC, dI) vwCl [(cf1_1, .boolean), (cf8, .int), (cf15, .int)] s := hK
    refine lv_goto (tgt := 162) hx hb dX11_applyObject_147 (by decide) ?_
    have hr0 := Option.some.inj hsp
    clear hsp
    obtain ⟨hq0, hr1⟩ := Prod.mk.inj hr0
    clear hr0
    obtain ⟨hq1, hr2⟩ := Prod.mk.inj hr1
    clear hr1
    subst hq0
    subst hq1
    subst hr2
    have hP9 := hP.sub (ws' := [(h0, .inr (11, [.ref qf0, .ref qf1, .int v2, .int v3, .int v4, .ref qf5, .int v6, .int v7, .ref qf8, .ref qf9, .ref qf10, .ref qf11, .ref qf12, .ref qf13, .ref qf14, .ref qf15, .int v16, .int v17, .int u11_1, .int u11_2, .int v20])), (qf15, .inl (cf15, 30, .inl g911_0)), (qf1, .inr (4, [.ref qf1_0, .ref qf1_1])), (qf1_1, .inl (cf1_1, 256, .inl f1_1)), (qf8, .inl (cf8, 256, .inl f8))]) [3, 4, 0, 1, 2] rfl
    have hD9 := hD.sub (ws' := [(h0, .inr (11, [.ref qf0, .ref qf1, .int v2, .int v3, .int v4, .ref qf5, .int v6, .int v7, .ref qf8, .ref qf9, .ref qf10, .ref qf11, .ref qf12, .ref qf13, .ref qf14, .ref qf15, .int v16, .int v17, .int u11_1, .int u11_2, .int v20])), (qf15, .inl (cf15, 30, .inl g911_0)), (qf1, .inr (4, [.ref qf1_0, .ref qf1_1])), (qf1_1, .inl (cf1_1, 256, .inl f1_1)), (qf8, .inl (cf8, 256, .inl f8))]) [3, 4, 0, 1, 2] (by decide) rfl
    have hK9 := hK.sub (tys' := [(cf15, .int), (cf1_1, .boolean), (cf8, .int)]) [2, 0, 1] rfl
    exact W.vret hx hb hr (fun t ht hW => ⟨⟨(), rfl, trivial, by rw [ht]; exact hP9, va_K.moved hW.alike hK9, hD9⟩, hS.F ht⟩) hS.2.2 dX11_applyObject_162
  rw [if_neg hs_10] at hsp
  refine lv_tableOut (tgt := 150) hx hb dX11_applyObject_1 (by have a0 := lv_neT hs_1 (a := 186) rfl; have a1 := lv_neT hs_2 (a := 187) rfl; have a2 := lv_neT hs_4 (a := 188) rfl; have a3 := lv_neT hs_5 (a := 189) rfl; have a4 := lv_neT hs_7 (a := 190) rfl; have a5 := lv_neT hs_9 (a := 191) rfl; have a6 := lv_neT hs_10 (a := 192) rfl; omega) (by decide) ?_
  refine lv_aload_n hx hb dX11_applyObject_150 rfl (lv_at hl 0 rfl) ?_
  obtain ⟨⟨u12_0, u12_1, u12_2⟩, hu_12, hsp⟩ := ox_bind hsp
  try dsimp only at hsp
  have hPc := hP.sub (ws' := [(h0, .inr (11, [.ref qf0, .ref qf1, .int v2, .int v3, .int v4, .ref qf5, .int v6, .int v7, .ref qf8, .ref qf9, .ref qf10, .ref qf11, .ref qf12, .ref qf13, .ref qf14, .ref qf15, .int v16, .int v17, .int v18, .int v19, .int v20])), (qf15, .inl (cf15, 30, .inl f15))]) [0, 1] rfl
  have hDc := hD.sub (ws' := [(h0, .inr (11, [.ref qf0, .ref qf1, .int v2, .int v3, .int v4, .ref qf5, .int v6, .int v7, .ref qf8, .ref qf9, .ref qf10, .ref qf11, .ref qf12, .ref qf13, .ref qf14, .ref qf15, .int v16, .int v17, .int v18, .int v19, .int v20])), (qf15, .inl (cf15, 30, .inl f15))]) [0, 1] (by decide) rfl
  have hKc := hK.sub (tys' := [(cf15, .int)]) [0] rfl
  have hFc := va_free (wc := [(h0, .inr (11, [.ref qf0, .ref qf1, .int v2, .int v3, .int v4, .ref qf5, .int v6, .int v7, .ref qf8, .ref qf9, .ref qf10, .ref qf11, .ref qf12, .ref qf13, .ref qf14, .ref qf15, .int v16, .int v17, .int v18, .int v19, .int v20])), (qf15, .inl (cf15, 30, .inl f15))]) hD hS hA [0, 1] rfl
  refine va_calli (va_runV (As := []) (rest := []) ⟨hx, hb, hml, hown, hts⟩ (t11_wantReference l dC dI H.size h0 qf0 qf1 v2 v3 v4 qf5 v6 v7 qf8 qf9 qf10 qf11 qf12 qf13 qf14 qf15 v16 v17 v18 v19 v20 cf15 f15 nf u12_0 u12_1 u12_2 hu_12) (cwV 0 hts gv_h3_53 rfl rfl rfl (by decide +kernel) ⟨Nat.le_of_ble_eq_true rfl, Nat.le_of_ble_eq_true rfl⟩) ⟨fun a U g mk q => by obtain ⟨q0, q1, qP, qK, qD⟩ := q; exact ⟨q0, q1, qP, va_K.moved (u := U) (U := U.calling g mk a) (Vm.Alike.refl U.vm) qK, qD⟩, va_recv hKc hPc (ci := 11) (q0 := 0) rfl rfl, fun U hU hW => ⟨rfl, by rw [hU], by rw [hU]; exact hPc, va_K.moved hW.alike hKc, hDc.weaken (fun _ _ _ _ => trivial)⟩⟩ rfl rfl hl.1 rfl (lv_room (Nat.le_of_ble_eq_true rfl)) dX11_applyObject_151 ⟨Nat.le_of_ble_eq_true rfl, Nat.le_of_ble_eq_true rfl⟩) hS (fun q _ h => hFc q h) hFc ?_
  clear hS
  intro r_13 u t H1 locs ht hvm hw hB hz1 hk1 hS
  obtain ⟨⟩ := u
  obtain ⟨hP1, hK1, hD1⟩ := hB
  rw [ht] at hP1
  have hK1 := va_K.moved hvm.symm hK1
  try dsimp only at hw
  have hPD := va_join (wr := [(qf1, .inr (4, [.ref qf1_0, .ref qf1_1])), (qf1_1, .inl (cf1_1, 256, .inl f1_1)), (qf8, .inl (cf8, 256, .inl f8))]) (w1 := [(h0, .inr (11, [.ref qf0, .ref qf1, .int v2, .int v3, .int v4, .ref qf5, .int v6, .int v7, .ref qf8, .ref qf9, .ref qf10, .ref qf11, .ref qf12, .ref qf13, .ref qf14, .ref qf15, .int v16, .int v17, .int u12_1, .int u12_2, .int v20])), (qf15, .inl (cf15, 30, .inl f15))]) hP hD [0, 1] [2, 3, 4] rfl rfl (by decide) (by decide) hk1 hFc hP1 hD1
  clear hP hD
  obtain ⟨hP, hD⟩ := hPD
  replace hK := (hK.sub (tys' := [(cf1_1, .boolean), (cf8, .int)]) [1, 2] rfl).app hK1
  clear hPc hDc hKc hFc hP1 hK1 hD1 hz1 hk1 ht hvm
  generalize H1 = H at hP hS ⊢
  replace hP : va_P (dC, dI) vwCl [(qf1, .inr (4, [.ref qf1_0, .ref qf1_1])), (qf1_1, .inl (cf1_1, 256, .inl f1_1)), (qf8, .inl (cf8, 256, .inl f8)), (h0, .inr (11, [.ref qf0, .ref qf1, .int v2, .int v3, .int v4, .ref qf5, .int v6, .int v7, .ref qf8, .ref qf9, .ref qf10, .ref qf11, .ref qf12, .ref qf13, .ref qf14, .ref qf15, .int v16, .int v17, .int u12_1, .int u12_2, .int v20])), (qf15, .inl (cf15, 30, .inl f15))] H := hP
  replace hD : va_D A [(qf1, .inr (4, [.ref qf1_0, .ref qf1_1])), (qf1_1, .inl (cf1_1, 256, .inl f1_1)), (qf8, .inl (cf8, 256, .inl f8)), (h0, .inr (11, [.ref qf0, .ref qf1, .int v2, .int v3, .int v4, .ref qf5, .int v6, .int v7, .ref qf8, .ref qf9, .ref qf10, .ref qf11, .ref qf12, .ref qf13, .ref qf14, .ref qf15, .int v16, .int v17, .int u12_1, .int u12_2, .int v20])), (qf15, .inl (cf15, 30, .inl f15))] := hD
  replace hK : va_K (dC, dI) vwCl [(cf1_1, .boolean), (cf8, .int), (cf15, .int)] s := hK
  obtain rfl := hw
  refine lv_pop hx hb dX11_applyObject_154 rfl ?_
  refine lv_aload_n hx hb dX11_applyObject_155 rfl (lv_at hl 0 rfl) ?_
  refine lv_sipush (v := 301) hx hb dX11_applyObject_156 (by decide) ?_
  obtain ⟨⟨g913_0, u13_1, u13_2⟩, hu_13, hsp⟩ := ox_bind hsp
  try dsimp only at hsp
  have hPc := hP.sub (ws' := [(h0, .inr (11, [.ref qf0, .ref qf1, .int v2, .int v3, .int v4, .ref qf5, .int v6, .int v7, .ref qf8, .ref qf9, .ref qf10, .ref qf11, .ref qf12, .ref qf13, .ref qf14, .ref qf15, .int v16, .int v17, .int u12_1, .int u12_2, .int v20])), (qf15, .inl (cf15, 30, .inl f15))]) [3, 4] rfl
  have hDc := hD.sub (ws' := [(h0, .inr (11, [.ref qf0, .ref qf1, .int v2, .int v3, .int v4, .ref qf5, .int v6, .int v7, .ref qf8, .ref qf9, .ref qf10, .ref qf11, .ref qf12, .ref qf13, .ref qf14, .ref qf15, .int v16, .int v17, .int u12_1, .int u12_2, .int v20])), (qf15, .inl (cf15, 30, .inl f15))]) [3, 4] (by decide) rfl
  have hKc := hK.sub (tys' := [(cf15, .int)]) [2] rfl
  have hFc := va_free (wc := [(h0, .inr (11, [.ref qf0, .ref qf1, .int v2, .int v3, .int v4, .ref qf5, .int v6, .int v7, .ref qf8, .ref qf9, .ref qf10, .ref qf11, .ref qf12, .ref qf13, .ref qf14, .ref qf15, .int v16, .int v17, .int u12_1, .int u12_2, .int v20])), (qf15, .inl (cf15, 30, .inl f15))]) hD hS hA [3, 4] rfl
  refine va_callv (va_runV (As := [.int 301]) (rest := []) ⟨hx, hb, hml, hown, hts⟩ (t11_push l dC dI H.size h0 301 qf0 qf1 v2 v3 v4 qf5 v6 v7 qf8 qf9 qf10 qf11 qf12 qf13 qf14 qf15 v16 v17 u12_1 u12_2 v20 cf15 f15 nf g913_0 u13_1 u13_2 hu_13) (cwV 1 hts gv_h3_52 rfl rfl rfl (by decide +kernel) ⟨Nat.le_of_ble_eq_true rfl, Nat.le_of_ble_eq_true rfl⟩) ⟨fun a U g mk q => by obtain ⟨q0, q1, qP, qK, qD⟩ := q; exact ⟨q0, q1, qP, va_K.moved (u := U) (U := U.calling g mk a) (Vm.Alike.refl U.vm) qK, qD⟩, va_recv hKc hPc (ci := 11) (q0 := 0) rfl rfl, fun U hU hW => ⟨rfl, by rw [hU], by rw [hU]; exact hPc, va_K.moved hW.alike hKc, hDc.weaken (fun _ _ _ _ => trivial)⟩⟩ rfl rfl hl.1 rfl (lv_room (Nat.le_of_ble_eq_true rfl)) dX11_applyObject_159 ⟨Nat.le_of_ble_eq_true rfl, Nat.le_of_ble_eq_true rfl⟩) hS (fun q _ h => hFc q h) hFc ?_
  clear hS
  intro u t H1 locs ht hvm hw hB hz1 hk1 hS
  obtain ⟨⟩ := u
  obtain ⟨hP1, hK1, hD1⟩ := hB
  rw [ht] at hP1
  have hK1 := va_K.moved hvm.symm hK1
  try dsimp only at hw
  have hPD := va_join (wr := [(qf1, .inr (4, [.ref qf1_0, .ref qf1_1])), (qf1_1, .inl (cf1_1, 256, .inl f1_1)), (qf8, .inl (cf8, 256, .inl f8))]) (w1 := [(h0, .inr (11, [.ref qf0, .ref qf1, .int v2, .int v3, .int v4, .ref qf5, .int v6, .int v7, .ref qf8, .ref qf9, .ref qf10, .ref qf11, .ref qf12, .ref qf13, .ref qf14, .ref qf15, .int v16, .int v17, .int u13_1, .int u13_2, .int v20])), (qf15, .inl (cf15, 30, .inl g913_0))]) hP hD [3, 4] [0, 1, 2] rfl rfl (by decide) (by decide) hk1 hFc hP1 hD1
  clear hP hD
  obtain ⟨hP, hD⟩ := hPD
  replace hK := (hK.sub (tys' := [(cf1_1, .boolean), (cf8, .int)]) [0, 1] rfl).app hK1
  clear hPc hDc hKc hFc hP1 hK1 hD1 hz1 hk1 ht hvm
  generalize H1 = H at hP hS ⊢
  replace hP : va_P (dC, dI) vwCl [(qf1, .inr (4, [.ref qf1_0, .ref qf1_1])), (qf1_1, .inl (cf1_1, 256, .inl f1_1)), (qf8, .inl (cf8, 256, .inl f8)), (h0, .inr (11, [.ref qf0, .ref qf1, .int v2, .int v3, .int v4, .ref qf5, .int v6, .int v7, .ref qf8, .ref qf9, .ref qf10, .ref qf11, .ref qf12, .ref qf13, .ref qf14, .ref qf15, .int v16, .int v17, .int u13_1, .int u13_2, .int v20])), (qf15, .inl (cf15, 30, .inl g913_0))] H := hP
  replace hD : va_D A [(qf1, .inr (4, [.ref qf1_0, .ref qf1_1])), (qf1_1, .inl (cf1_1, 256, .inl f1_1)), (qf8, .inl (cf8, 256, .inl f8)), (h0, .inr (11, [.ref qf0, .ref qf1, .int v2, .int v3, .int v4, .ref qf5, .int v6, .int v7, .ref qf8, .ref qf9, .ref qf10, .ref qf11, .ref qf12, .ref qf13, .ref qf14, .ref qf15, .int v16, .int v17, .int u13_1, .int u13_2, .int v20])), (qf15, .inl (cf15, 30, .inl g913_0))] := hD
  replace hK : va_K (dC, dI) vwCl [(cf1_1, .boolean), (cf8, .int), (cf15, .int)] s := hK
  have hr0 := Option.some.inj hsp
  clear hsp
  obtain ⟨hq0, hr1⟩ := Prod.mk.inj hr0
  clear hr0
  obtain ⟨hq1, hr2⟩ := Prod.mk.inj hr1
  clear hr1
  subst hq0
  subst hq1
  subst hr2
  have hP9 := hP.sub (ws' := [(h0, .inr (11, [.ref qf0, .ref qf1, .int v2, .int v3, .int v4, .ref qf5, .int v6, .int v7, .ref qf8, .ref qf9, .ref qf10, .ref qf11, .ref qf12, .ref qf13, .ref qf14, .ref qf15, .int v16, .int v17, .int u13_1, .int u13_2, .int v20])), (qf15, .inl (cf15, 30, .inl g913_0)), (qf1, .inr (4, [.ref qf1_0, .ref qf1_1])), (qf1_1, .inl (cf1_1, 256, .inl f1_1)), (qf8, .inl (cf8, 256, .inl f8))]) [3, 4, 0, 1, 2] rfl
  have hD9 := hD.sub (ws' := [(h0, .inr (11, [.ref qf0, .ref qf1, .int v2, .int v3, .int v4, .ref qf5, .int v6, .int v7, .ref qf8, .ref qf9, .ref qf10, .ref qf11, .ref qf12, .ref qf13, .ref qf14, .ref qf15, .int v16, .int v17, .int u13_1, .int u13_2, .int v20])), (qf15, .inl (cf15, 30, .inl g913_0)), (qf1, .inr (4, [.ref qf1_0, .ref qf1_1])), (qf1_1, .inl (cf1_1, 256, .inl f1_1)), (qf8, .inl (cf8, 256, .inl f8))]) [3, 4, 0, 1, 2] (by decide) rfl
  have hK9 := hK.sub (tys' := [(cf15, .int), (cf1_1, .boolean), (cf8, .int)]) [2, 0, 1] rfl
  exact W.vret hx hb hr (fun t ht hW => ⟨⟨(), rfl, trivial, by rw [ht]; exact hP9, va_K.moved hW.alike hK9, hD9⟩, hS.F ht⟩) hS.2.2 dX11_applyObject_162
def sp_t11_widthOf (nf : Nat) (a1 : Int32) : Option (Int32) := (if a1 ≤ 8 then (some 1) else ((sp_t11_isBare nf a1).bind (fun p1 => (if p1 = 0 then ((sp_t11_isJump nf a1).bind (fun p2 => (if p2 = 0 then (if a1 = 16 then (some 2) else (if a1 = 18 then (some 2) else (if a1 = 21 then (some 2) else (if a1 = 25 then (some 2) else (if a1 = 54 then (some 2) else (if a1 = 58 then (some 2) else (if a1 = 180 then (some 2) else (if a1 = 181 then (some 2) else (if a1 = 182 then (some 2) else (if a1 = 184 then (some 2) else (if a1 = 187 then (some 2) else (if a1 = 188 then (some 2) else (if a1 = 189 then (some 2) else (if a1 = 192 then (some 2) else (if a1 = 193 then (some 2) else (some 0)))))))))))))))) else (some 3)))) else (some 1)))))
set_option maxHeartbeats 4000000 in
set_option maxRecDepth 100000 in
/-- ClassMill$Verifier.widthOf -/
theorem t11_widthOf (l : Launch) (dC : Nat → ClassId) (dI : Nat → Nat → Nat) (sz : Nat) (a1 : Int32) (nf : Nat) (r0 : Int32) (hsp : sp_t11_widthOf nf a1 = some r0) : Met l yX11_widthOf (.code yX11_widthOf cX11_widthOf 1 (some .int) :: VS_h3) ({ frames := 2, cells := 0, slots := 0, locals := 40 }) (va_Pc [.int a1] (fun U => U.heap.size = sz ∧ va_P (dC, dI) vwCl [] U.heap ∧ va_K (dC, dI) vwCl [] U ∧ va_D (fun _ => True) [])) (va_Qi (fun (r : Int32) (u : Unit) => match u with | () => r0 = r) (fun (u : Unit) (t : State) => match u with | () => va_P (dC, dI) vwCl [] t.heap ∧ va_K (dC, dI) vwCl [] t ∧ va_D (va_A [] sz) []) (va_A [] sz)) 0 0 (va_A [] sz) := by
  refine Met.ofW (cc := cX11_widthOf) (maxL := 1) (ret := (some .int)) (by decide) rfl ?_
  intro p e s m args below meth c s₁ B hml hv
  obtain ⟨rfl, hsz, hP, hK, hD0⟩ := hv
  have hx := B.exec
  have hb := B.bytes
  have hr := B.returns
  have hts := atoms_spec (ws := (.code yX11_widthOf cX11_widthOf 1 (some .int) :: VS_h3)) B.pre
  replace hts := fun w (h : w ∈ VS_h3) => hts w (List.mem_cons_of_mem _ h)
  have hown : s.vm.findClass RX11 = some m.cls := findClass_of_methodNamed B.named
  have hlocks := B.notSynchronized
  subst hsz
  have hD := hD0.self (sz := s.heap.size)
  generalize hAe : va_A [] s.heap.size = A at hD  ⊢
  have hA : ∀ q : Nat, s.heap.size ≤ q → A q := fun q h => by rw [← hAe]; exact Or.inr h
  have hP : va_P (dC, dI) vwCl [] s.heap := hP
  have hl := lv_entry ([.int a1]) (n := 1) (Nat.le_of_ble_eq_true rfl)
  rw [lg_entry_eq]
  generalize (lg_sl ([.int a1]) ++ List.replicate (1 - (lg_sl ([.int a1])).length) Slot.unset).toArray = ls at hl ⊢
  have hl : lv_has ls 1 [(0, .int a1)] := hl
  obtain ⟨H, hH⟩ : ∃ H : Heap, s.heap = H := ⟨_, rfl⟩
  rw [hH] at hP ⊢
  have hS : va_S A s.heap H [] := by rw [← hH]; exact va_S.rf
  obtain ⟨locs, hlo⟩ : ∃ locs : List Loc, locs = [] := ⟨_, rfl⟩
  rw [← hlo] at hS ⊢
  unfold sp_t11_widthOf at hsp
  refine lv_iload_n hx hb dX11_widthOf_0 rfl (lv_at hl 0 rfl) ?_
  refine lv_bipush (v := 8) hx hb dX11_widthOf_1 (by decide) ?_
  refine lv_icmp_le (tgt := 13) hx hb dX11_widthOf_3 (by decide) (fun c_1 => ?_) (fun c_1 => ?_)
  · rw [if_pos c_1] at hsp
    refine lv_iconst (v := 1) hx hb dX11_widthOf_13 (by decide) ?_
    have hr0 := Option.some.inj hsp
    clear hsp
    subst hr0
    have hP9 := hP.sub (ws' := []) [] rfl
    have hD9 := hD.sub (ws' := []) [] (by decide) rfl
    have hK9 := hK.sub (tys' := []) [] rfl
    exact W.iret hx hb hr (fun t ht hW => ⟨⟨(1), (), rfl, rfl, by rw [ht]; exact hP9, va_K.moved hW.alike hK9, hD9⟩, hS.F ht⟩) hS.2.2 dX11_widthOf_14
  · rw [if_neg c_1] at hsp
    refine lv_iload_n hx hb dX11_widthOf_6 rfl (lv_at hl 0 rfl) ?_
    obtain ⟨u1_0, hu_1, hsp⟩ := ox_bind hsp
    try dsimp only at hsp
    have hPc := hP.sub (ws' := []) [] rfl
    have hDc := hD.sub (ws' := []) [] (by decide) rfl
    have hKc := hK.sub (tys' := []) [] rfl
    have hFc := va_free (wc := []) hD hS hA [] rfl
    refine va_calli (va_runS (As := [.int a1]) (rest := []) ⟨hx, hb, hml, hown, hts⟩ (t11_isBare l dC dI H.size a1 nf u1_0 hu_1) (va_cwS 1 hts gv_h3_57 rfl rfl rfl (by decide +kernel) ⟨Nat.le_of_ble_eq_true rfl, Nat.le_of_ble_eq_true rfl⟩) ⟨fun a U g mk q => by obtain ⟨q0, q1, qP, qK, qD⟩ := q; exact ⟨q0, q1, qP, va_K.moved (u := U) (U := U.calling g mk a) (Vm.Alike.refl U.vm) qK, qD⟩, fun U hU hW => ⟨rfl, by rw [hU], by rw [hU]; exact hPc, va_K.moved hW.alike hKc, hDc.weaken (fun _ _ _ _ => trivial)⟩⟩ rfl rfl hl.1 rfl (lv_room (Nat.le_of_ble_eq_true rfl)) dX11_widthOf_7 ⟨Nat.le_of_ble_eq_true rfl, Nat.le_of_ble_eq_true rfl⟩) hS (fun q _ h => hFc q h) hFc ?_
    clear hS
    intro r_2 u t H1 locs ht hvm hw hB hz1 hk1 hS
    obtain ⟨⟩ := u
    obtain ⟨hP1, hK1, hD1⟩ := hB
    rw [ht] at hP1
    have hK1 := va_K.moved hvm.symm hK1
    try dsimp only at hw
    have hPD := va_join (wr := []) (w1 := []) hP hD [] [] rfl rfl (by decide) (by decide) hk1 hFc hP1 hD1
    clear hP hD
    obtain ⟨hP, hD⟩ := hPD
    replace hK := (hK.sub (tys' := []) [] rfl).app hK1
    clear hPc hDc hKc hFc hP1 hK1 hD1 hz1 hk1 ht hvm
    generalize H1 = H at hP hS ⊢
    replace hP : va_P (dC, dI) vwCl [] H := hP
    replace hD : va_D A [] := hD
    replace hK : va_K (dC, dI) vwCl [] s := hK
    obtain ⟨rfl, hz_1⟩ := hw
    rcases hz_1 with rfl | rfl
    · rw [if_pos rfl] at hsp
      refine lv_if_eq (tgt := 15) hx hb dX11_widthOf_10 (by decide) (fun c_3 => ?_) (fun c_3 => (show False by revert c_3; decide).elim)
      refine lv_iload_n hx hb dX11_widthOf_15 rfl (lv_at hl 0 rfl) ?_
      obtain ⟨u2_0, hu_2, hsp⟩ := ox_bind hsp
      try dsimp only at hsp
      have hPc := hP.sub (ws' := []) [] rfl
      have hDc := hD.sub (ws' := []) [] (by decide) rfl
      have hKc := hK.sub (tys' := []) [] rfl
      have hFc := va_free (wc := []) hD hS hA [] rfl
      refine va_calli (va_runS (As := [.int a1]) (rest := []) ⟨hx, hb, hml, hown, hts⟩ (t11_isJump l dC dI H.size a1 nf u2_0 hu_2) (va_cwS 1 hts gv_h3_39 rfl rfl rfl (by decide +kernel) ⟨Nat.le_of_ble_eq_true rfl, Nat.le_of_ble_eq_true rfl⟩) ⟨fun a U g mk q => by obtain ⟨q0, q1, qP, qK, qD⟩ := q; exact ⟨q0, q1, qP, va_K.moved (u := U) (U := U.calling g mk a) (Vm.Alike.refl U.vm) qK, qD⟩, fun U hU hW => ⟨rfl, by rw [hU], by rw [hU]; exact hPc, va_K.moved hW.alike hKc, hDc.weaken (fun _ _ _ _ => trivial)⟩⟩ rfl rfl hl.1 rfl (lv_room (Nat.le_of_ble_eq_true rfl)) dX11_widthOf_16 ⟨Nat.le_of_ble_eq_true rfl, Nat.le_of_ble_eq_true rfl⟩) hS (fun q _ h => hFc q h) hFc ?_
      clear hS
      intro r_4 u t H1 locs ht hvm hw hB hz1 hk1 hS
      obtain ⟨⟩ := u
      obtain ⟨hP1, hK1, hD1⟩ := hB
      rw [ht] at hP1
      have hK1 := va_K.moved hvm.symm hK1
      try dsimp only at hw
      have hPD := va_join (wr := []) (w1 := []) hP hD [] [] rfl rfl (by decide) (by decide) hk1 hFc hP1 hD1
      clear hP hD
      obtain ⟨hP, hD⟩ := hPD
      replace hK := (hK.sub (tys' := []) [] rfl).app hK1
      clear hPc hDc hKc hFc hP1 hK1 hD1 hz1 hk1 ht hvm
      generalize H1 = H at hP hS ⊢
      replace hP : va_P (dC, dI) vwCl [] H := hP
      replace hD : va_D A [] := hD
      replace hK : va_K (dC, dI) vwCl [] s := hK
      obtain ⟨rfl, hz_2⟩ := hw
      rcases hz_2 with rfl | rfl
      · rw [if_pos rfl] at hsp
        refine lv_if_eq (tgt := 24) hx hb dX11_widthOf_19 (by decide) (fun c_5 => ?_) (fun c_5 => (show False by revert c_5; decide).elim)
        refine lv_iload_n hx hb dX11_widthOf_24 rfl (lv_at hl 0 rfl) ?_
        by_cases hs_6 : a1 = 16
        · rw [if_pos hs_6] at hsp
          refine lv_lookup (tgt := 156) hx hb dX11_widthOf_25 (by decide) (off := 131) (by rw [hs_6]; rfl) (by decide) ?_
          refine lv_iconst (v := 2) hx hb dX11_widthOf_156 (by decide) ?_
          have hr0 := Option.some.inj hsp
          clear hsp
          subst hr0
          have hP9 := hP.sub (ws' := []) [] rfl
          have hD9 := hD.sub (ws' := []) [] (by decide) rfl
          have hK9 := hK.sub (tys' := []) [] rfl
          exact W.iret hx hb hr (fun t ht hW => ⟨⟨(2), (), rfl, rfl, by rw [ht]; exact hP9, va_K.moved hW.alike hK9, hD9⟩, hS.F ht⟩) hS.2.2 dX11_widthOf_157
        rw [if_neg hs_6] at hsp
        by_cases hs_7 : a1 = 18
        · rw [if_pos hs_7] at hsp
          refine lv_lookup (tgt := 156) hx hb dX11_widthOf_25 (by decide) (off := 131) (by rw [hs_7]; rfl) (by decide) ?_
          refine lv_iconst (v := 2) hx hb dX11_widthOf_156 (by decide) ?_
          have hr0 := Option.some.inj hsp
          clear hsp
          subst hr0
          have hP9 := hP.sub (ws' := []) [] rfl
          have hD9 := hD.sub (ws' := []) [] (by decide) rfl
          have hK9 := hK.sub (tys' := []) [] rfl
          exact W.iret hx hb hr (fun t ht hW => ⟨⟨(2), (), rfl, rfl, by rw [ht]; exact hP9, va_K.moved hW.alike hK9, hD9⟩, hS.F ht⟩) hS.2.2 dX11_widthOf_157
        rw [if_neg hs_7] at hsp
        by_cases hs_8 : a1 = 21
        · rw [if_pos hs_8] at hsp
          refine lv_lookup (tgt := 156) hx hb dX11_widthOf_25 (by decide) (off := 131) (by rw [hs_8]; rfl) (by decide) ?_
          refine lv_iconst (v := 2) hx hb dX11_widthOf_156 (by decide) ?_
          have hr0 := Option.some.inj hsp
          clear hsp
          subst hr0
          have hP9 := hP.sub (ws' := []) [] rfl
          have hD9 := hD.sub (ws' := []) [] (by decide) rfl
          have hK9 := hK.sub (tys' := []) [] rfl
          exact W.iret hx hb hr (fun t ht hW => ⟨⟨(2), (), rfl, rfl, by rw [ht]; exact hP9, va_K.moved hW.alike hK9, hD9⟩, hS.F ht⟩) hS.2.2 dX11_widthOf_157
        rw [if_neg hs_8] at hsp
        by_cases hs_9 : a1 = 25
        · rw [if_pos hs_9] at hsp
          refine lv_lookup (tgt := 156) hx hb dX11_widthOf_25 (by decide) (off := 131) (by rw [hs_9]; rfl) (by decide) ?_
          refine lv_iconst (v := 2) hx hb dX11_widthOf_156 (by decide) ?_
          have hr0 := Option.some.inj hsp
          clear hsp
          subst hr0
          have hP9 := hP.sub (ws' := []) [] rfl
          have hD9 := hD.sub (ws' := []) [] (by decide) rfl
          have hK9 := hK.sub (tys' := []) [] rfl
          exact W.iret hx hb hr (fun t ht hW => ⟨⟨(2), (), rfl, rfl, by rw [ht]; exact hP9, va_K.moved hW.alike hK9, hD9⟩, hS.F ht⟩) hS.2.2 dX11_widthOf_157
        rw [if_neg hs_9] at hsp
        by_cases hs_10 : a1 = 54
        · rw [if_pos hs_10] at hsp
          refine lv_lookup (tgt := 156) hx hb dX11_widthOf_25 (by decide) (off := 131) (by rw [hs_10]; rfl) (by decide) ?_
          refine lv_iconst (v := 2) hx hb dX11_widthOf_156 (by decide) ?_
          have hr0 := Option.some.inj hsp
          clear hsp
          subst hr0
          have hP9 := hP.sub (ws' := []) [] rfl
          have hD9 := hD.sub (ws' := []) [] (by decide) rfl
          have hK9 := hK.sub (tys' := []) [] rfl
          exact W.iret hx hb hr (fun t ht hW => ⟨⟨(2), (), rfl, rfl, by rw [ht]; exact hP9, va_K.moved hW.alike hK9, hD9⟩, hS.F ht⟩) hS.2.2 dX11_widthOf_157
        rw [if_neg hs_10] at hsp
        by_cases hs_11 : a1 = 58
        · rw [if_pos hs_11] at hsp
          refine lv_lookup (tgt := 156) hx hb dX11_widthOf_25 (by decide) (off := 131) (by rw [hs_11]; rfl) (by decide) ?_
          refine lv_iconst (v := 2) hx hb dX11_widthOf_156 (by decide) ?_
          have hr0 := Option.some.inj hsp
          clear hsp
          subst hr0
          have hP9 := hP.sub (ws' := []) [] rfl
          have hD9 := hD.sub (ws' := []) [] (by decide) rfl
          have hK9 := hK.sub (tys' := []) [] rfl
          exact W.iret hx hb hr (fun t ht hW => ⟨⟨(2), (), rfl, rfl, by rw [ht]; exact hP9, va_K.moved hW.alike hK9, hD9⟩, hS.F ht⟩) hS.2.2 dX11_widthOf_157
        rw [if_neg hs_11] at hsp
        by_cases hs_12 : a1 = 180
        · rw [if_pos hs_12] at hsp
          refine lv_lookup (tgt := 156) hx hb dX11_widthOf_25 (by decide) (off := 131) (by rw [hs_12]; rfl) (by decide) ?_
          refine lv_iconst (v := 2) hx hb dX11_widthOf_156 (by decide) ?_
          have hr0 := Option.some.inj hsp
          clear hsp
          subst hr0
          have hP9 := hP.sub (ws' := []) [] rfl
          have hD9 := hD.sub (ws' := []) [] (by decide) rfl
          have hK9 := hK.sub (tys' := []) [] rfl
          exact W.iret hx hb hr (fun t ht hW => ⟨⟨(2), (), rfl, rfl, by rw [ht]; exact hP9, va_K.moved hW.alike hK9, hD9⟩, hS.F ht⟩) hS.2.2 dX11_widthOf_157
        rw [if_neg hs_12] at hsp
        by_cases hs_13 : a1 = 181
        · rw [if_pos hs_13] at hsp
          refine lv_lookup (tgt := 156) hx hb dX11_widthOf_25 (by decide) (off := 131) (by rw [hs_13]; rfl) (by decide) ?_
          refine lv_iconst (v := 2) hx hb dX11_widthOf_156 (by decide) ?_
          have hr0 := Option.some.inj hsp
          clear hsp
          subst hr0
          have hP9 := hP.sub (ws' := []) [] rfl
          have hD9 := hD.sub (ws' := []) [] (by decide) rfl
          have hK9 := hK.sub (tys' := []) [] rfl
          exact W.iret hx hb hr (fun t ht hW => ⟨⟨(2), (), rfl, rfl, by rw [ht]; exact hP9, va_K.moved hW.alike hK9, hD9⟩, hS.F ht⟩) hS.2.2 dX11_widthOf_157
        rw [if_neg hs_13] at hsp
        by_cases hs_14 : a1 = 182
        · rw [if_pos hs_14] at hsp
          refine lv_lookup (tgt := 156) hx hb dX11_widthOf_25 (by decide) (off := 131) (by rw [hs_14]; rfl) (by decide) ?_
          refine lv_iconst (v := 2) hx hb dX11_widthOf_156 (by decide) ?_
          have hr0 := Option.some.inj hsp
          clear hsp
          subst hr0
          have hP9 := hP.sub (ws' := []) [] rfl
          have hD9 := hD.sub (ws' := []) [] (by decide) rfl
          have hK9 := hK.sub (tys' := []) [] rfl
          exact W.iret hx hb hr (fun t ht hW => ⟨⟨(2), (), rfl, rfl, by rw [ht]; exact hP9, va_K.moved hW.alike hK9, hD9⟩, hS.F ht⟩) hS.2.2 dX11_widthOf_157
        rw [if_neg hs_14] at hsp
        by_cases hs_15 : a1 = 184
        · rw [if_pos hs_15] at hsp
          refine lv_lookup (tgt := 156) hx hb dX11_widthOf_25 (by decide) (off := 131) (by rw [hs_15]; rfl) (by decide) ?_
          refine lv_iconst (v := 2) hx hb dX11_widthOf_156 (by decide) ?_
          have hr0 := Option.some.inj hsp
          clear hsp
          subst hr0
          have hP9 := hP.sub (ws' := []) [] rfl
          have hD9 := hD.sub (ws' := []) [] (by decide) rfl
          have hK9 := hK.sub (tys' := []) [] rfl
          exact W.iret hx hb hr (fun t ht hW => ⟨⟨(2), (), rfl, rfl, by rw [ht]; exact hP9, va_K.moved hW.alike hK9, hD9⟩, hS.F ht⟩) hS.2.2 dX11_widthOf_157
        rw [if_neg hs_15] at hsp
        by_cases hs_16 : a1 = 187
        · rw [if_pos hs_16] at hsp
          refine lv_lookup (tgt := 156) hx hb dX11_widthOf_25 (by decide) (off := 131) (by rw [hs_16]; rfl) (by decide) ?_
          refine lv_iconst (v := 2) hx hb dX11_widthOf_156 (by decide) ?_
          have hr0 := Option.some.inj hsp
          clear hsp
          subst hr0
          have hP9 := hP.sub (ws' := []) [] rfl
          have hD9 := hD.sub (ws' := []) [] (by decide) rfl
          have hK9 := hK.sub (tys' := []) [] rfl
          exact W.iret hx hb hr (fun t ht hW => ⟨⟨(2), (), rfl, rfl, by rw [ht]; exact hP9, va_K.moved hW.alike hK9, hD9⟩, hS.F ht⟩) hS.2.2 dX11_widthOf_157
        rw [if_neg hs_16] at hsp
        by_cases hs_17 : a1 = 188
        · rw [if_pos hs_17] at hsp
          refine lv_lookup (tgt := 156) hx hb dX11_widthOf_25 (by decide) (off := 131) (by rw [hs_17]; rfl) (by decide) ?_
          refine lv_iconst (v := 2) hx hb dX11_widthOf_156 (by decide) ?_
          have hr0 := Option.some.inj hsp
          clear hsp
          subst hr0
          have hP9 := hP.sub (ws' := []) [] rfl
          have hD9 := hD.sub (ws' := []) [] (by decide) rfl
          have hK9 := hK.sub (tys' := []) [] rfl
          exact W.iret hx hb hr (fun t ht hW => ⟨⟨(2), (), rfl, rfl, by rw [ht]; exact hP9, va_K.moved hW.alike hK9, hD9⟩, hS.F ht⟩) hS.2.2 dX11_widthOf_157
        rw [if_neg hs_17] at hsp
        by_cases hs_18 : a1 = 189
        · rw [if_pos hs_18] at hsp
          refine lv_lookup (tgt := 156) hx hb dX11_widthOf_25 (by decide) (off := 131) (by rw [hs_18]; rfl) (by decide) ?_
          refine lv_iconst (v := 2) hx hb dX11_widthOf_156 (by decide) ?_
          have hr0 := Option.some.inj hsp
          clear hsp
          subst hr0
          have hP9 := hP.sub (ws' := []) [] rfl
          have hD9 := hD.sub (ws' := []) [] (by decide) rfl
          have hK9 := hK.sub (tys' := []) [] rfl
          exact W.iret hx hb hr (fun t ht hW => ⟨⟨(2), (), rfl, rfl, by rw [ht]; exact hP9, va_K.moved hW.alike hK9, hD9⟩, hS.F ht⟩) hS.2.2 dX11_widthOf_157
        rw [if_neg hs_18] at hsp
        by_cases hs_19 : a1 = 192
        · rw [if_pos hs_19] at hsp
          refine lv_lookup (tgt := 156) hx hb dX11_widthOf_25 (by decide) (off := 131) (by rw [hs_19]; rfl) (by decide) ?_
          refine lv_iconst (v := 2) hx hb dX11_widthOf_156 (by decide) ?_
          have hr0 := Option.some.inj hsp
          clear hsp
          subst hr0
          have hP9 := hP.sub (ws' := []) [] rfl
          have hD9 := hD.sub (ws' := []) [] (by decide) rfl
          have hK9 := hK.sub (tys' := []) [] rfl
          exact W.iret hx hb hr (fun t ht hW => ⟨⟨(2), (), rfl, rfl, by rw [ht]; exact hP9, va_K.moved hW.alike hK9, hD9⟩, hS.F ht⟩) hS.2.2 dX11_widthOf_157
        rw [if_neg hs_19] at hsp
        by_cases hs_20 : a1 = 193
        · rw [if_pos hs_20] at hsp
          refine lv_lookup (tgt := 156) hx hb dX11_widthOf_25 (by decide) (off := 131) (by rw [hs_20]; rfl) (by decide) ?_
          refine lv_iconst (v := 2) hx hb dX11_widthOf_156 (by decide) ?_
          have hr0 := Option.some.inj hsp
          clear hsp
          subst hr0
          have hP9 := hP.sub (ws' := []) [] rfl
          have hD9 := hD.sub (ws' := []) [] (by decide) rfl
          have hK9 := hK.sub (tys' := []) [] rfl
          exact W.iret hx hb hr (fun t ht hW => ⟨⟨(2), (), rfl, rfl, by rw [ht]; exact hP9, va_K.moved hW.alike hK9, hD9⟩, hS.F ht⟩) hS.2.2 dX11_widthOf_157
        rw [if_neg hs_20] at hsp
        refine lv_lookup (tgt := 158) hx hb dX11_widthOf_25 (by decide) (off := 133) (by show Op.lookupswitch.offset [(16, 131), (18, 131), (21, 131), (25, 131), (54, 131), (58, 131), (180, 131), (181, 131), (182, 131), (184, 131), (187, 131), (188, 131), (189, 131), (192, 131), (193, 131)] 133 (a1 : Int32).toInt = 133; rw [lv_osw hs_6 (a := 16) rfl, lv_osw hs_7 (a := 18) rfl, lv_osw hs_8 (a := 21) rfl, lv_osw hs_9 (a := 25) rfl, lv_osw hs_10 (a := 54) rfl, lv_osw hs_11 (a := 58) rfl, lv_osw hs_12 (a := 180) rfl, lv_osw hs_13 (a := 181) rfl, lv_osw hs_14 (a := 182) rfl, lv_osw hs_15 (a := 184) rfl, lv_osw hs_16 (a := 187) rfl, lv_osw hs_17 (a := 188) rfl, lv_osw hs_18 (a := 189) rfl, lv_osw hs_19 (a := 192) rfl, lv_osw hs_20 (a := 193) rfl]; rfl) (by decide) ?_
        refine lv_iconst (v := 0) hx hb dX11_widthOf_158 (by decide) ?_
        have hr0 := Option.some.inj hsp
        clear hsp
        subst hr0
        have hP9 := hP.sub (ws' := []) [] rfl
        have hD9 := hD.sub (ws' := []) [] (by decide) rfl
        have hK9 := hK.sub (tys' := []) [] rfl
        exact W.iret hx hb hr (fun t ht hW => ⟨⟨(0), (), rfl, rfl, by rw [ht]; exact hP9, va_K.moved hW.alike hK9, hD9⟩, hS.F ht⟩) hS.2.2 dX11_widthOf_159
      · rw [if_neg (by decide)] at hsp
        refine lv_if_eq (tgt := 24) hx hb dX11_widthOf_19 (by decide) (fun c_21 => (show False by revert c_21; decide).elim) (fun c_21 => ?_)
        refine lv_iconst (v := 3) hx hb dX11_widthOf_22 (by decide) ?_
        have hr0 := Option.some.inj hsp
        clear hsp
        subst hr0
        have hP9 := hP.sub (ws' := []) [] rfl
        have hD9 := hD.sub (ws' := []) [] (by decide) rfl
        have hK9 := hK.sub (tys' := []) [] rfl
        exact W.iret hx hb hr (fun t ht hW => ⟨⟨(3), (), rfl, rfl, by rw [ht]; exact hP9, va_K.moved hW.alike hK9, hD9⟩, hS.F ht⟩) hS.2.2 dX11_widthOf_23
    · rw [if_neg (by decide)] at hsp
      refine lv_if_eq (tgt := 15) hx hb dX11_widthOf_10 (by decide) (fun c_22 => (show False by revert c_22; decide).elim) (fun c_22 => ?_)
      refine lv_iconst (v := 1) hx hb dX11_widthOf_13 (by decide) ?_
      have hr0 := Option.some.inj hsp
      clear hsp
      subst hr0
      have hP9 := hP.sub (ws' := []) [] rfl
      have hD9 := hD.sub (ws' := []) [] (by decide) rfl
      have hK9 := hK.sub (tys' := []) [] rfl
      exact W.iret hx hb hr (fun t ht hW => ⟨⟨(1), (), rfl, rfl, by rw [ht]; exact hP9, va_K.moved hW.alike hK9, hD9⟩, hS.F ht⟩) hS.2.2 dX11_widthOf_14
def lp_t11_takeTypes_17 (nf n : Nat) (a1 : Int32) (a2 : Int32) (v5_1 : Int32) (nb : Nat) (f5_0 : Nat → Int32) (f8 : Nat → Int32) (f13 : Nat → Int32)  (l1_17 : Int32) (l2_17 : Int32) (l3_17 : Int32) (l4_17 : Int32) (l5_17 : Int32) (g13_17 : Nat → Int32) : Option (Int32 × (Nat → Int32)) := match n with
  | 0 => none
  | n + 1 => (if l3_17 ≤ l5_17 then (some (l4_17, g13_17)) else ((sp_ti_byteAt nf l4_17 v5_1 nb f5_0).bind (fun p2 => (if 30 ≤ l5_17 then (if p2 = 3 then (lp_t11_takeTypes_17 nf n a1 a2 v5_1 nb f5_0 f8 f13 l1_17 l2_17 l3_17 (l4_17 + 2) (l5_17 + 1) g13_17) else (lp_t11_takeTypes_17 nf n a1 a2 v5_1 nb f5_0 f8 f13 l1_17 l2_17 l3_17 (l4_17 + 1) (l5_17 + 1) g13_17)) else ((sp_ti_byteAt nf (l4_17 + 1) v5_1 nb f5_0).bind (fun p3 => ((sp_t11_typeOfTag nf p2 p3 f8).bind (fun p4 => (if (l2_17 + l5_17) < 0 then none else if 6400 ≤ ((l2_17 + l5_17) : Int32).toNatClampNeg then none else (if p2 = 3 then (lp_t11_takeTypes_17 nf n a1 a2 v5_1 nb f5_0 f8 f13 l1_17 l2_17 l3_17 (l4_17 + 2) (l5_17 + 1) (upd g13_17 ((l2_17 + l5_17) : Int32).toNatClampNeg p4)) else (lp_t11_takeTypes_17 nf n a1 a2 v5_1 nb f5_0 f8 f13 l1_17 l2_17 l3_17 (l4_17 + 1) (l5_17 + 1) (upd g13_17 ((l2_17 + l5_17) : Int32).toNatClampNeg p4))))))))))))
def sp_t11_takeTypes (nf : Nat) (a1 : Int32) (a2 : Int32) (v5_1 : Int32) (nb : Nat) (f5_0 : Nat → Int32) (f8 : Nat → Int32) (f13 : Nat → Int32) : Option (Int32 × (Nat → Int32)) := ((sp_ti_byteAt nf a1 v5_1 nb f5_0).bind (fun p1 => (lp_t11_takeTypes_17 nf nf a1 a2 v5_1 nb f5_0 f8 f13 a1 a2 p1 (a1 + 1) 0 f13)))
