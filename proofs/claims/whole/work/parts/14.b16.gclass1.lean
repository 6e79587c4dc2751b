set_option maxHeartbeats 4000000 in
set_option maxRecDepth 100000 in
/-- ClassMill$Verifier.applyReturn -/
theorem t11_applyReturn (l : Launch) (dC : Nat → ClassId) (dI : Nat → Nat → Nat) (sz : Nat) (h0 : Nat) (a1 : Int32) (qf0 : Nat) (qf1 : Nat) (v2 : Int32) (v3 : Int32) (v4 : Int32) (qf5 : Nat) (v6 : Int32) (v7 : Int32) (qf8 : Nat) (qf9 : Nat) (qf10 : Nat) (qf11 : Nat) (qf12 : Nat) (qf13 : Nat) (qf14 : Nat) (qf15 : Nat) (v16 : Int32) (v17 : Int32) (v18 : Int32) (v19 : Int32) (v20 : Int32) (cf15 : ClassId) (f15 : (Nat → Int32)) (qf1_0 : Nat) (qf1_1 : Nat) (cf1_1 : ClassId) (f1_1 : (Nat → Int32)) (nf : Nat) (w18 : Int32) (w19 : Int32) (hsp : sp_t11_applyReturn nf a1 v18 v19 v20 f15 f1_1 = some (w18, w19)) : Met l yX11_applyReturn (.code yX11_applyReturn cX11_applyReturn 2 none :: VS_h3) ({ frames := 2, cells := 0, slots := 0, locals := 45 }) (va_Pc [.ref h0, .int a1] (fun U => U.heap.size = sz ∧ va_P (dC, dI) vwCl [(h0, .inr (11, [.ref qf0, .ref qf1, .int v2, .int v3, .int v4, .ref qf5, .int v6, .int v7, .ref qf8, .ref qf9, .ref qf10, .ref qf11, .ref qf12, .ref qf13, .ref qf14, .ref qf15, .int v16, .int v17, .int v18, .int v19, .int v20])), (qf15, .inl (cf15, 30, .inl f15)), (qf1, .inr (4, [.ref qf1_0, .ref qf1_1])), (qf1_1, .inl (cf1_1, 256, .inl f1_1))] U.heap ∧ va_K (dC, dI) vwCl [(cf15, .int), (cf1_1, .boolean)] U ∧ va_D (fun _ => True) [(h0, .inr (11, [.ref qf0, .ref qf1, .int v2, .int v3, .int v4, .ref qf5, .int v6, .int v7, .ref qf8, .ref qf9, .ref qf10, .ref qf11, .ref qf12, .ref qf13, .ref qf14, .ref qf15, .int v16, .int v17, .int v18, .int v19, .int v20])), (qf15, .inl (cf15, 30, .inl f15)), (qf1, .inr (4, [.ref qf1_0, .ref qf1_1])), (qf1_1, .inl (cf1_1, 256, .inl f1_1))])) (va_Qv (fun (u : Unit) => match u with | () => True) (fun (u : Unit) (t : State) => match u with | () => va_P (dC, dI) vwCl [(h0, .inr (11, [.ref qf0, .ref qf1, .int v2, .int v3, .int v4, .ref qf5, .int v6, .int v7, .ref qf8, .ref qf9, .ref qf10, .ref qf11, .ref qf12, .ref qf13, .ref qf14, .ref qf15, .int v16, .int v17, .int w18, .int w19, .int v20])), (qf15, .inl (cf15, 30, .inl f15)), (qf1, .inr (4, [.ref qf1_0, .ref qf1_1])), (qf1_1, .inl (cf1_1, 256, .inl f1_1))] t.heap ∧ va_K (dC, dI) vwCl [(cf15, .int), (cf1_1, .boolean)] t ∧ va_D (va_A [(h0, .inr (11, [.ref qf0, .ref qf1, .int v2, .int v3, .int v4, .ref qf5, .int v6, .int v7, .ref qf8, .ref qf9, .ref qf10, .ref qf11, .ref qf12, .ref qf13, .ref qf14, .ref qf15, .int v16, .int v17, .int v18, .int v19, .int v20])), (qf15, .inl (cf15, 30, .inl f15)), (qf1, .inr (4, [.ref qf1_0, .ref qf1_1])), (qf1_1, .inl (cf1_1, 256, .inl f1_1))] sz) [(h0, .inr (11, [.ref qf0, .ref qf1, .int v2, .int v3, .int v4, .ref qf5, .int v6, .int v7, .ref qf8, .ref qf9, .ref qf10, .ref qf11, .ref qf12, .ref qf13, .ref qf14, .ref qf15, .int v16, .int v17, .int w18, .int w19, .int v20])), (qf15, .inl (cf15, 30, .inl f15)), (qf1, .inr (4, [.ref qf1_0, .ref qf1_1])), (qf1_1, .inl (cf1_1, 256, .inl f1_1))]) (va_A [(h0, .inr (11, [.ref qf0, .ref qf1, .int v2, .int v3, .int v4, .ref qf5, .int v6, .int v7, .ref qf8, .ref qf9, .ref qf10, .ref qf11, .ref qf12, .ref qf13, .ref qf14, .ref qf15, .int v16, .int v17, .int v18, .int v19, .int v20])), (qf15, .inl (cf15, 30, .inl f15)), (qf1, .inr (4, [.ref qf1_0, .ref qf1_1])), (qf1_1, .inl (cf1_1, 256, .inl f1_1))] sz)) 0 0 (va_A [(h0, .inr (11, [.ref qf0, .ref qf1, .int v2, .int v3, .int v4, .ref qf5, .int v6, .int v7, .ref qf8, .ref qf9, .ref qf10, .ref qf11, .ref qf12, .ref qf13, .ref qf14, .ref qf15, .int v16, .int v17, .int v18, .int v19, .int v20])), (qf15, .inl (cf15, 30, .inl f15)), (qf1, .inr (4, [.ref qf1_0, .ref qf1_1])), (qf1_1, .inl (cf1_1, 256, .inl f1_1))] sz) := by
  refine Met.ofW (cc := cX11_applyReturn) (maxL := 2) (ret := none) (by decide) rfl ?_
  intro p e s m args below meth c s₁ B hml hv
  obtain ⟨rfl, hsz, hP, hK, hD0⟩ := hv
  have hx := B.exec
  have hb := B.bytes
  have hr := B.returns
  have hts := atoms_spec (ws := (.code yX11_applyReturn cX11_applyReturn 2 none :: VS_h3)) B.pre
  replace hts := fun w (h : w ∈ VS_h3) => hts w (List.mem_cons_of_mem _ h)
  have hown : s.vm.findClass RX11 = some m.cls := findClass_of_methodNamed B.named
  have hlocks := B.notSynchronized
  subst hsz
  have hD := hD0.self (sz := s.heap.size)
  generalize hAe : va_A [(h0, .inr (11, [.ref qf0, .ref qf1, .int v2, .int v3, .int v4, .ref qf5, .int v6, .int v7, .ref qf8, .ref qf9, .ref qf10, .ref qf11, .ref qf12, .ref qf13, .ref qf14, .ref qf15, .int v16, .int v17, .int v18, .int v19, .int v20])), (qf15, .inl (cf15, 30, .inl f15)), (qf1, .inr (4, [.ref qf1_0, .ref qf1_1])), (qf1_1, .inl (cf1_1, 256, .inl f1_1))] s.heap.size = A at hD  ⊢
  have hA : ∀ q : Nat, s.heap.size ≤ q → A q := fun q h => by rw [← hAe]; exact Or.inr h
  have hP : va_P (dC, dI) vwCl [(h0, .inr (11, [.ref qf0, .ref qf1, .int v2, .int v3, .int v4, .ref qf5, .int v6, .int v7, .ref qf8, .ref qf9, .ref qf10, .ref qf11, .ref qf12, .ref qf13, .ref qf14, .ref qf15, .int v16, .int v17, .int v18, .int v19, .int v20])), (qf15, .inl (cf15, 30, .inl f15)), (qf1, .inr (4, [.ref qf1_0, .ref qf1_1])), (qf1_1, .inl (cf1_1, 256, .inl f1_1))] s.heap := hP
  have hl := lv_entry ([.ref h0, .int a1]) (n := 2) (Nat.le_of_ble_eq_true rfl)
  rw [lg_entry_eq]
  generalize (lg_sl ([.ref h0, .int a1]) ++ List.replicate (2 - (lg_sl ([.ref h0, .int a1])).length) Slot.unset).toArray = ls at hl ⊢
  have hl : lv_has ls 2 [(0, .ref h0), (1, .int a1)] := hl
  obtain ⟨H, hH⟩ : ∃ H : Heap, s.heap = H := ⟨_, rfl⟩
  rw [hH] at hP ⊢
  have hS : va_S A s.heap H [] := by rw [← hH]; exact va_S.rf
  obtain ⟨locs, hlo⟩ : ∃ locs : List Loc, locs = [] := ⟨_, rfl⟩
  rw [← hlo] at hS ⊢
  unfold sp_t11_applyReturn at hsp
  refine lv_iload_n hx hb dX11_applyReturn_0 rfl (lv_at hl 1 rfl) ?_
  refine lv_sipush (v := 177) hx hb dX11_applyReturn_1 (by decide) ?_
  refine lv_icmp_ne (tgt := 29) hx hb dX11_applyReturn_4 (by decide) (fun c_1 => ?_) (fun c_1 => ?_)
  · rw [if_neg c_1] at hsp
    refine lv_iload_n hx hb dX11_applyReturn_29 rfl (lv_at hl 1 rfl) ?_
    refine lv_sipush (v := 172) hx hb dX11_applyReturn_30 (by decide) ?_
    refine lv_icmp_ne (tgt := 72) hx hb dX11_applyReturn_33 (by decide) (fun c_2 => ?_) (fun c_2 => ?_)
    · rw [if_neg c_2] at hsp
      refine lv_aload_n hx hb dX11_applyReturn_72 rfl (lv_at hl 0 rfl) ?_
      refine lv_aload_n hx hb dX11_applyReturn_73 rfl (lv_at hl 0 rfl) ?_
      refine va_get (D := (dC, dI)) (ci := 11) (v := .int v20) (C := RX11) (T := TX11) (N := 21) hx hb hts uV_h3_X11 hown hK hP 0 rfl rfl 20 (by decide) (hts (.fieldLink RX11 264 "ClassMill$Verifier" "result" "I") mw_h3_249) (fun _ h9 => h9) rfl dX11_applyReturn_74 ?_
      obtain ⟨⟨u1_0, u1_1⟩, hu_1, hsp⟩ := ox_bind hsp
      try dsimp only at hsp
      have hPc := hP.sub (ws' := [(h0, .inr (11, [.ref qf0, .ref qf1, .int v2, .int v3, .int v4, .ref qf5, .int v6, .int v7, .ref qf8, .ref qf9, .ref qf10, .ref qf11, .ref qf12, .ref qf13, .ref qf14, .ref qf15, .int v16, .int v17, .int v18, .int v19, .int v20])), (qf15, .inl (cf15, 30, .inl f15)), (qf1, .inr (4, [.ref qf1_0, .ref qf1_1])), (qf1_1, .inl (cf1_1, 256, .inl f1_1))]) [0, 1, 2, 3] rfl
      have hDc := hD.sub (ws' := [(h0, .inr (11, [.ref qf0, .ref qf1, .int v2, .int v3, .int v4, .ref qf5, .int v6, .int v7, .ref qf8, .ref qf9, .ref qf10, .ref qf11, .ref qf12, .ref qf13, .ref qf14, .ref qf15, .int v16, .int v17, .int v18, .int v19, .int v20])), (qf15, .inl (cf15, 30, .inl f15)), (qf1, .inr (4, [.ref qf1_0, .ref qf1_1])), (qf1_1, .inl (cf1_1, 256, .inl f1_1))]) [0, 1, 2, 3] (by decide) rfl
      have hKc := hK.sub (tys' := [(cf15, .int), (cf1_1, .boolean)]) [0, 1] rfl
      have hFc := va_free (wc := [(h0, .inr (11, [.ref qf0, .ref qf1, .int v2, .int v3, .int v4, .ref qf5, .int v6, .int v7, .ref qf8, .ref qf9, .ref qf10, .ref qf11, .ref qf12, .ref qf13, .ref qf14, .ref qf15, .int v16, .int v17, .int v18, .int v19, .int v20])), (qf15, .inl (cf15, 30, .inl f15)), (qf1, .inr (4, [.ref qf1_0, .ref qf1_1])), (qf1_1, .inl (cf1_1, 256, .inl f1_1))]) hD hS hA [0, 1, 2, 3] rfl
      refine va_callv (va_runV (As := [.int v20]) (rest := []) ⟨hx, hb, hml, hown, hts⟩ (t11_want l dC dI H.size h0 v20 qf0 qf1 v2 v3 v4 qf5 v6 v7 qf8 qf9 qf10 qf11 qf12 qf13 qf14 qf15 v16 v17 v18 v19 v20 cf15 f15 qf1_0 qf1_1 cf1_1 f1_1 nf u1_0 u1_1 hu_1) (cwV 1 hts gv_h3_54 rfl rfl rfl (by decide +kernel) ⟨Nat.le_of_ble_eq_true rfl, Nat.le_of_ble_eq_true rfl⟩) ⟨fun a U g mk q => by obtain ⟨q0, q1, qP, qK, qD⟩ := q; exact ⟨q0, q1, qP, va_K.moved (u := U) (U := U.calling g mk a) (Vm.Alike.refl U.vm) qK, qD⟩, va_recv hKc hPc (ci := 11) (q0 := 0) rfl rfl, fun U hU hW => ⟨rfl, by rw [hU], by rw [hU]; exact hPc, va_K.moved hW.alike hKc, hDc.weaken (fun _ _ _ _ => trivial)⟩⟩ rfl rfl hl.1 rfl (lv_room (Nat.le_of_ble_eq_true rfl)) dX11_applyReturn_77 ⟨Nat.le_of_ble_eq_true rfl, Nat.le_of_ble_eq_true rfl⟩) hS (fun q _ h => hFc q h) hFc ?_
      clear hS
      intro u t H1 locs ht hvm hw hB hz1 hk1 hS
      obtain ⟨⟩ := u
      obtain ⟨hP1, hK1, hD1⟩ := hB
      rw [ht] at hP1
      have hK1 := va_K.moved hvm.symm hK1
      try dsimp only at hw
      have hPD := va_join (wr := []) (w1 := [(h0, .inr (11, [.ref qf0, .ref qf1, .int v2, .int v3, .int v4, .ref qf5, .int v6, .int v7, .ref qf8, .ref qf9, .ref qf10, .ref qf11, .ref qf12, .ref qf13, .ref qf14, .ref qf15, .int v16, .int v17, .int u1_0, .int u1_1, .int v20])), (qf15, .inl (cf15, 30, .inl f15)), (qf1, .inr (4, [.ref qf1_0, .ref qf1_1])), (qf1_1, .inl (cf1_1, 256, .inl f1_1))]) hP hD [0, 1, 2, 3] [] rfl rfl (by decide) (by decide) hk1 hFc hP1 hD1
      clear hP hD
      obtain ⟨hP, hD⟩ := hPD
      replace hK := (hK.sub (tys' := []) [] rfl).app hK1
      clear hPc hDc hKc hFc hP1 hK1 hD1 hz1 hk1 ht hvm
      generalize H1 = H at hP hS ⊢
      replace hP : va_P (dC, dI) vwCl [(h0, .inr (11, [.ref qf0, .ref qf1, .int v2, .int v3, .int v4, .ref qf5, .int v6, .int v7, .ref qf8, .ref qf9, .ref qf10, .ref qf11, .ref qf12, .ref qf13, .ref qf14, .ref qf15, .int v16, .int v17, .int u1_0, .int u1_1, .int v20])), (qf15, .inl (cf15, 30, .inl f15)), (qf1, .inr (4, [.ref qf1_0, .ref qf1_1])), (qf1_1, .inl (cf1_1, 256, .inl f1_1))] H := hP
      replace hD : va_D A [(h0, .inr (11, [.ref qf0, .ref qf1, .int v2, .int v3, .int v4, .ref qf5, .int v6, .int v7, .ref qf8, .ref qf9, .ref qf10, .ref qf11, .ref qf12, .ref qf13, .ref qf14, .ref qf15, .int v16, .int v17, .int u1_0, .int u1_1, .int v20])), (qf15, .inl (cf15, 30, .inl f15)), (qf1, .inr (4, [.ref qf1_0, .ref qf1_1])), (qf1_1, .inl (cf1_1, 256, .inl f1_1))] := hD
      replace hK : va_K (dC, dI) vwCl [(cf15, .int), (cf1_1, .boolean)] s := hK
      refine lv_aload_n hx hb dX11_applyReturn_80 rfl (lv_at hl 0 rfl) ?_
      refine lv_aload_n hx hb dX11_applyReturn_81 rfl (lv_at hl 0 rfl) ?_
      refine va_get (D := (dC, dI)) (ci := 11) (v := .int u1_1) (C := RX11) (T := TX11) (N := 21) hx hb hts uV_h3_X11 hown hK hP 0 rfl rfl 19 (by decide) (hts (.fieldLink RX11 295 "ClassMill$Verifier" "fitting" "Z") mw_h3_220) (fun _ h9 => h9) rfl dX11_applyReturn_82 ?_
      refine lv_if_eq (tgt := 112) hx hb dX11_applyReturn_85 (by decide) (fun c_3 => ?_) (fun c_3 => ?_)
      · rw [if_pos c_3] at hsp
        refine lv_iconst (v := 0) hx hb dX11_applyReturn_112 (by decide) ?_
        refine va_put (D := (dC, dI)) (ci := 11) (v := .int 0) (ty := .boolean) (C := RX11) (T := TX11) (N := 21) hx hb hts uV_h3_X11 tyX11 tyX11_ok nmX11 hown hK hP hD hS 0 rfl rfl 19 (by decide) (hts (.fieldLink RX11 295 "ClassMill$Verifier" "fitting" "Z") mw_h3_220) (fun _ h9 => h9) rfl (by decide +kernel) rfl rfl (Nat.le_of_ble_eq_true rfl) dX11_applyReturn_113 ?_
        clear hP hD hS
        intro H locs hP hD hS
        replace hP : va_P (dC, dI) vwCl [(h0, .inr (11, [.ref qf0, .ref qf1, .int v2, .int v3, .int v4, .ref qf5, .int v6, .int v7, .ref qf8, .ref qf9, .ref qf10, .ref qf11, .ref qf12, .ref qf13, .ref qf14, .ref qf15, .int v16, .int v17, .int u1_0, .int 0, .int v20])), (qf15, .inl (cf15, 30, .inl f15)), (qf1, .inr (4, [.ref qf1_0, .ref qf1_1])), (qf1_1, .inl (cf1_1, 256, .inl f1_1))] H := hP
        replace hD : va_D A [(h0, .inr (11, [.ref qf0, .ref qf1, .int v2, .int v3, .int v4, .ref qf5, .int v6, .int v7, .ref qf8, .ref qf9, .ref qf10, .ref qf11, .ref qf12, .ref qf13, .ref qf14, .ref qf15, .int v16, .int v17, .int u1_0, .int 0, .int v20])), (qf15, .inl (cf15, 30, .inl f15)), (qf1, .inr (4, [.ref qf1_0, .ref qf1_1])), (qf1_1, .inl (cf1_1, 256, .inl f1_1))] := hD
        have hr0 := Option.some.inj hsp
        clear hsp
        obtain ⟨hq0, hr1⟩ := Prod.mk.inj hr0
        clear hr0
        subst hq0
        subst hr1
        have hP9 := hP.sub (ws' := [(h0, .inr (11, [.ref qf0, .ref qf1, .int v2, .int v3, .int v4, .ref qf5, .int v6, .int v7, .ref qf8, .ref qf9, .ref qf10, .ref qf11, .ref qf12, .ref qf13, .ref qf14, .ref qf15, .int v16, .int v17, .int u1_0, .int 0, .int v20])), (qf15, .inl (cf15, 30, .inl f15)), (qf1, .inr (4, [.ref qf1_0, .ref qf1_1])), (qf1_1, .inl (cf1_1, 256, .inl f1_1))]) [0, 1, 2, 3] rfl
        have hD9 := hD.sub (ws' := [(h0, .inr (11, [.ref qf0, .ref qf1, .int v2, .int v3, .int v4, .ref qf5, .int v6, .int v7, .ref qf8, .ref qf9, .ref qf10, .ref qf11, .ref qf12, .ref qf13, .ref qf14, .ref qf15, .int v16, .int v17, .int u1_0, .int 0, .int v20])), (qf15, .inl (cf15, 30, .inl f15)), (qf1, .inr (4, [.ref qf1_0, .ref qf1_1])), (qf1_1, .inl (cf1_1, 256, .inl f1_1))]) [0, 1, 2, 3] (by decide) rfl
        have hK9 := hK.sub (tys' := [(cf15, .int), (cf1_1, .boolean)]) [0, 1] rfl
        exact W.vret hx hb hr (fun t ht hW => ⟨⟨(), rfl, trivial, by rw [ht]; exact hP9, va_K.moved hW.alike hK9, hD9⟩, hS.F ht⟩) hS.2.2 dX11_applyReturn_116
      · rw [if_neg c_3] at hsp
        refine lv_aload_n hx hb dX11_applyReturn_88 rfl (lv_at hl 0 rfl) ?_
        refine va_get (D := (dC, dI)) (ci := 11) (v := .int v20) (C := RX11) (T := TX11) (N := 21) hx hb hts uV_h3_X11 hown hK hP 0 rfl rfl 20 (by decide) (hts (.fieldLink RX11 264 "ClassMill$Verifier" "result" "I") mw_h3_249) (fun _ h9 => h9) rfl dX11_applyReturn_89 ?_
        refine lv_sipush (v := 301) hx hb dX11_applyReturn_92 (by decide) ?_
        refine lv_icmp_eq (tgt := 112) hx hb dX11_applyReturn_95 (by decide) (fun c_4 => ?_) (fun c_4 => ?_)
        · rw [if_pos c_4] at hsp
          refine lv_iconst (v := 0) hx hb dX11_applyReturn_112 (by decide) ?_
          refine va_put (D := (dC, dI)) (ci := 11) (v := .int 0) (ty := .boolean) (C := RX11) (T := TX11) (N := 21) hx hb hts uV_h3_X11 tyX11 tyX11_ok nmX11 hown hK hP hD hS 0 rfl rfl 19 (by decide) (hts (.fieldLink RX11 295 "ClassMill$Verifier" "fitting" "Z") mw_h3_220) (fun _ h9 => h9) rfl (by decide +kernel) rfl rfl (Nat.le_of_ble_eq_true rfl) dX11_applyReturn_113 ?_
          clear hP hD hS
          intro H locs hP hD hS
          replace hP : va_P (dC, dI) vwCl [(h0, .inr (11, [.ref qf0, .ref qf1, .int v2, .int v3, .int v4, .ref qf5, .int v6, .int v7, .ref qf8, .ref qf9, .ref qf10, .ref qf11, .ref qf12, .ref qf13, .ref qf14, .ref qf15, .int v16, .int v17, .int u1_0, .int 0, .int v20])), (qf15, .inl (cf15, 30, .inl f15)), (qf1, .inr (4, [.ref qf1_0, .ref qf1_1])), (qf1_1, .inl (cf1_1, 256, .inl f1_1))] H := hP
          replace hD : va_D A [(h0, .inr (11, [.ref qf0, .ref qf1, .int v2, .int v3, .int v4, .ref qf5, .int v6, .int v7, .ref qf8, .ref qf9, .ref qf10, .ref qf11, .ref qf12, .ref qf13, .ref qf14, .ref qf15, .int v16, .int v17, .int u1_0, .int 0, .int v20])), (qf15, .inl (cf15, 30, .inl f15)), (qf1, .inr (4, [.ref qf1_0, .ref qf1_1])), (qf1_1, .inl (cf1_1, 256, .inl f1_1))] := hD
          have hr0 := Option.some.inj hsp
          clear hsp
          obtain ⟨hq0, hr1⟩ := Prod.mk.inj hr0
          clear hr0
          subst hq0
          subst hr1
          have hP9 := hP.sub (ws' := [(h0, .inr (11, [.ref qf0, .ref qf1, .int v2, .int v3, .int v4, .ref qf5, .int v6, .int v7, .ref qf8, .ref qf9, .ref qf10, .ref qf11, .ref qf12, .ref qf13, .ref qf14, .ref qf15, .int v16, .int v17, .int u1_0, .int 0, .int v20])), (qf15, .inl (cf15, 30, .inl f15)), (qf1, .inr (4, [.ref qf1_0, .ref qf1_1])), (qf1_1, .inl (cf1_1, 256, .inl f1_1))]) [0, 1, 2, 3] rfl
          have hD9 := hD.sub (ws' := [(h0, .inr (11, [.ref qf0, .ref qf1, .int v2, .int v3, .int v4, .ref qf5, .int v6, .int v7, .ref qf8, .ref qf9, .ref qf10, .ref qf11, .ref qf12, .ref qf13, .ref qf14, .ref qf15, .int v16, .int v17, .int u1_0, .int 0, .int v20])), (qf15, .inl (cf15, 30, .inl f15)), (qf1, .inr (4, [.ref qf1_0, .ref qf1_1])), (qf1_1, .inl (cf1_1, 256, .inl f1_1))]) [0, 1, 2, 3] (by decide) rfl
          have hK9 := hK.sub (tys' := [(cf15, .int), (cf1_1, .boolean)]) [0, 1] rfl
          exact W.vret hx hb hr (fun t ht hW => ⟨⟨(), rfl, trivial, by rw [ht]; exact hP9, va_K.moved hW.alike hK9, hD9⟩, hS.F ht⟩) hS.2.2 dX11_applyReturn_116
        · rw [if_neg c_4] at hsp
          refine lv_aload_n hx hb dX11_applyReturn_98 rfl (lv_at hl 0 rfl) ?_
          refine va_get (D := (dC, dI)) (ci := 11) (v := .int v20) (C := RX11) (T := TX11) (N := 21) hx hb hts uV_h3_X11 hown hK hP 0 rfl rfl 20 (by decide) (hts (.fieldLink RX11 264 "ClassMill$Verifier" "result" "I") mw_h3_249) (fun _ h9 => h9) rfl dX11_applyReturn_99 ?_
          refine lv_sipush (v := 303) hx hb dX11_applyReturn_102 (by decide) ?_
          refine lv_icmp_eq (tgt := 112) hx hb dX11_applyReturn_105 (by decide) (fun c_5 => ?_) (fun c_5 => ?_)
          · rw [if_pos c_5] at hsp
            refine lv_iconst (v := 0) hx hb dX11_applyReturn_112 (by decide) ?_
            refine va_put (D := (dC, dI)) (ci := 11) (v := .int 0) (ty := .boolean) (C := RX11) (T := TX11) (N := 21) hx hb hts uV_h3_X11 tyX11 tyX11_ok nmX11 hown hK hP hD hS 0 rfl rfl 19 (by decide) (hts (.fieldLink RX11 295 "ClassMill$Verifier" "fitting" "Z") mw_h3_220) (fun _ h9 => h9) rfl (by decide +kernel) rfl rfl (Nat.le_of_ble_eq_true rfl) dX11_applyReturn_113 ?_
            clear hP hD hS
            intro H locs hP hD hS
            replace hP : va_P (dC, dI) vwCl [(h0, .inr (11, [.ref qf0, .ref qf1, .int v2, .int v3, .int v4, .ref qf5, .int v6, .int v7, .ref qf8, .ref qf9, .ref qf10, .ref qf11, .ref qf12, .ref qf13, .ref qf14, .ref qf15, .int v16, .int v17, .int u1_0, .int 0, .int v20])), (qf15, .inl (cf15, 30, .inl f15)), (qf1, .inr (4, [.ref qf1_0, .ref qf1_1])), (qf1_1, .inl (cf1_1, 256, .inl f1_1))] H := hP
            replace hD : va_D A [(h0, .inr (11, [.ref qf0, .ref qf1, .int v2, .int v3, .int v4, .ref qf5, .int v6, .int v7, .ref qf8, .ref qf9, .ref qf10, .ref qf11, .ref qf12, .ref qf13, .ref qf14, .ref qf15, .int v16, .int v17, .int u1_0, .int 0, .int v20])), (qf15, .inl (cf15, 30, .inl f15)), (qf1, .inr (4, [.ref qf1_0, .ref qf1_1])), (qf1_1, .inl (cf1_1, 256, .inl f1_1))] := hD
            have hr0 := Option.some.inj hsp
            clear hsp
            obtain ⟨hq0, hr1⟩ := Prod.mk.inj hr0
            clear hr0
            subst hq0
            subst hr1
            have hP9 := hP.sub (ws' := [(h0, .inr (11, [.ref qf0, .ref qf1, .int v2, .int v3, .int v4, .ref qf5, .int v6, .int v7, .ref qf8, .ref qf9, .ref qf10, .ref qf11, .ref qf12, .ref qf13, .ref qf14, .ref qf15, .int v16, .int v17, .int u1_0, .int 0, .int v20])), (qf15, .inl (cf15, 30, .inl f15)), (qf1, .inr (4, [.ref qf1_0, .ref qf1_1])), (qf1_1, .inl (cf1_1, 256, .inl f1_1))]) [0, 1, 2, 3] rfl
            have hD9 := hD.sub (ws' := [(h0, .inr (11, [.ref qf0, .ref qf1, .int v2, .int v3, .int v4, .ref qf5, .int v6, .int v7, .ref qf8, .ref qf9, .ref qf10, .ref qf11, .ref qf12, .ref qf13, .ref qf14, .ref qf15, .int v16, .int v17, .int u1_0, .int 0, .int v20])), (qf15, .inl (cf15, 30, .inl f15)), (qf1, .inr (4, [.ref qf1_0, .ref qf1_1])), (qf1_1, .inl (cf1_1, 256, .inl f1_1))]) [0, 1, 2, 3] (by decide) rfl
            have hK9 := hK.sub (tys' := [(cf15, .int), (cf1_1, .boolean)]) [0, 1] rfl
            exact W.vret hx hb hr (fun t ht hW => ⟨⟨(), rfl, trivial, by rw [ht]; exact hP9, va_K.moved hW.alike hK9, hD9⟩, hS.F ht⟩) hS.2.2 dX11_applyReturn_116
          · rw [if_neg c_5] at hsp
            refine lv_iconst (v := 1) hx hb dX11_applyReturn_108 (by decide) ?_
            refine lv_goto (tgt := 113) hx hb dX11_applyReturn_109 (by decide) ?_
            refine va_put (D := (dC, dI)) (ci := 11) (v := .int 1) (ty := .boolean) (C := RX11) (T := TX11) (N := 21) hx hb hts uV_h3_X11 tyX11 tyX11_ok nmX11 hown hK hP hD hS 0 rfl rfl 19 (by decide) (hts (.fieldLink RX11 295 "ClassMill$Verifier" "fitting" "Z") mw_h3_220) (fun _ h9 => h9) rfl (by decide +kernel) rfl rfl (Nat.le_of_ble_eq_true rfl) dX11_applyReturn_113 ?_
            clear hP hD hS
            intro H locs hP hD hS
            replace hP : va_P (dC, dI) vwCl [(h0, .inr (11, [.ref qf0, .ref qf1, .int v2, .int v3, .int v4, .ref qf5, .int v6, .int v7, .ref qf8, .ref qf9, .ref qf10, .ref qf11, .ref qf12, .ref qf13, .ref qf14, .ref qf15, .int v16, .int v17, .int u1_0, .int 1, .int v20])), (qf15, .inl (cf15, 30, .inl f15)), (qf1, .inr (4, [.ref qf1_0, .ref qf1_1])), (qf1_1, .inl (cf1_1, 256, .inl f1_1))] H := hP
            replace hD : va_D A [(h0, .inr (11, [.ref qf0, .ref qf1, .int v2, .int v3, .int v4, .ref qf5, .int v6, .int v7, .ref qf8, .ref qf9, .ref qf10, .ref qf11, .ref qf12, .ref qf13, .ref qf14, .ref qf15, .int v16, .int v17, .int u1_0, .int 1, .int v20])), (qf15, .inl (cf15, 30, .inl f15)), (qf1, .inr (4, [.ref qf1_0, .ref qf1_1])), (qf1_1, .inl (cf1_1, 256, .inl f1_1))] := hD
            have hr0 := Option.some.inj hsp
            clear hsp
            obtain ⟨hq0, hr1⟩ := Prod.mk.inj hr0
            clear hr0
            subst hq0
            subst hr1
            have hP9 := hP.sub (ws' := [(h0, .inr (11, [.ref qf0, .ref qf1, .int v2, .int v3, .int v4, .ref qf5, .int v6, .int v7, .ref qf8, .ref qf9, .ref qf10, .ref qf11, .ref qf12, .ref qf13, .ref qf14, .ref qf15, .int v16, .int v17, .int u1_0, .int 1, .int v20])), (qf15, .inl (cf15, 30, .inl f15)), (qf1, .inr (4, [.ref qf1_0, .ref qf1_1])), (qf1_1, .inl (cf1_1, 256, .inl f1_1))]) [0, 1, 2, 3] rfl
            have hD9 := hD.sub (ws' := [(h0, .inr (11, [.ref qf0, .ref qf1, .int v2, .int v3, .int v4, .ref qf5, .int v6, .int v7, .ref qf8, .ref qf9, .ref qf10, .ref qf11, .ref qf12, .ref qf13, .ref qf14, .ref qf15, .int v16, .int v17, .int u1_0, .int 1, .int v20])), (qf15, .inl (cf15, 30, .inl f15)), (qf1, .inr (4, [.ref qf1_0, .ref qf1_1])), (qf1_1, .inl (cf1_1, 256, .inl f1_1))]) [0, 1, 2, 3] (by decide) rfl
            have hK9 := hK.sub (tys' := [(cf15, .int), (cf1_1, .boolean)]) [0, 1] rfl
            exact W.vret hx hb hr (fun t ht hW => ⟨⟨(), rfl, trivial, by rw [ht]; exact hP9, va_K.moved hW.alike hK9, hD9⟩, hS.F ht⟩) hS.2.2 dX11_applyReturn_116
    · rw [if_pos c_2] at hsp
      refine lv_aload_n hx hb dX11_applyReturn_36 rfl (lv_at hl 0 rfl) ?_
      refine lv_sipush (v := 301) hx hb dX11_applyReturn_37 (by decide) ?_
      obtain ⟨⟨u2_0, u2_1⟩, hu_2, hsp⟩ := ox_bind hsp
      try dsimp only at hsp
      have hPc := hP.sub (ws' := [(h0, .inr (11, [.ref qf0, .ref qf1, .int v2, .int v3, .int v4, .ref qf5, .int v6, .int v7, .ref qf8, .ref qf9, .ref qf10, .ref qf11, .ref qf12, .ref qf13, .ref qf14, .ref qf15, .int v16, .int v17, .int v18, .int v19, .int v20])), (qf15, .inl (cf15, 30, .inl f15)), (qf1, .inr (4, [.ref qf1_0, .ref qf1_1])), (qf1_1, .inl (cf1_1, 256, .inl f1_1))]) [0, 1, 2, 3] rfl
      have hDc := hD.sub (ws' := [(h0, .inr (11, [.ref qf0, .ref qf1, .int v2, .int v3, .int v4, .ref qf5, .int v6, .int v7, .ref qf8, .ref qf9, .ref qf10, .ref qf11, .ref qf12, .ref qf13, .ref qf14, .ref qf15, .int v16, .int v17, .int v18, .int v19, .int v20])), (qf15, .inl (cf15, 30, .inl f15)), (qf1, .inr (4, [.ref qf1_0, .ref qf1_1])), (qf1_1, .inl (cf1_1, 256, .inl f1_1))]) [0, 1, 2, 3] (by decide) rfl
      have hKc := hK.sub (tys' := [(cf15, .int), (cf1_1, .boolean)]) [0, 1] rfl
      have hFc := va_free (wc := [(h0, .inr (11, [.ref qf0, .ref qf1, .int v2, .int v3, .int v4, .ref qf5, .int v6, .int v7, .ref qf8, .ref qf9, .ref qf10, .ref qf11, .ref qf12, .ref qf13, .ref qf14, .ref qf15, .int v16, .int v17, .int v18, .int v19, .int v20])), (qf15, .inl (cf15, 30, .inl f15)), (qf1, .inr (4, [.ref qf1_0, .ref qf1_1])), (qf1_1, .inl (cf1_1, 256, .inl f1_1))]) hD hS hA [0, 1, 2, 3] rfl
      refine va_callv (va_runV (As := [.int 301]) (rest := []) ⟨hx, hb, hml, hown, hts⟩ (t11_want l dC dI H.size h0 301 qf0 qf1 v2 v3 v4 qf5 v6 v7 qf8 qf9 qf10 qf11 qf12 qf13 qf14 qf15 v16 v17 v18 v19 v20 cf15 f15 qf1_0 qf1_1 cf1_1 f1_1 nf u2_0 u2_1 hu_2) (cwV 1 hts gv_h3_54 rfl rfl rfl (by decide +kernel) ⟨Nat.le_of_ble_eq_true rfl, Nat.le_of_ble_eq_true rfl⟩) ⟨fun a U g mk q => by obtain ⟨q0, q1, qP, qK, qD⟩ := q; exact ⟨q0, q1, qP, va_K.moved (u := U) (U := U.calling g mk a) (Vm.Alike.refl U.vm) qK, qD⟩, va_recv hKc hPc (ci := 11) (q0 := 0) rfl rfl, fun U hU hW => ⟨rfl, by rw [hU], by rw [hU]; exact hPc, va_K.moved hW.alike hKc, hDc.weaken (fun _ _ _ _ => trivial)⟩⟩ rfl rfl hl.1 rfl (lv_room (Nat.le_of_ble_eq_true rfl)) dX11_applyReturn_40 ⟨Nat.le_of_ble_eq_true rfl, Nat.le_of_ble_eq_true rfl⟩) hS (fun q _ h => hFc q h) hFc ?_
      clear hS
      intro u t H1 locs ht hvm hw hB hz1 hk1 hS
      obtain ⟨⟩ := u
      obtain ⟨hP1, hK1, hD1⟩ := hB
      rw [ht] at hP1
      have hK1 := va_K.moved hvm.symm hK1
      try dsimp only at hw
      have hPD := va_join (wr := []) (w1 := [(h0, .inr (11, [.ref qf0, .ref qf1, .int v2, .int v3, .int v4, .ref qf5, .int v6, .int v7, .ref qf8, .ref qf9, .ref qf10, .ref qf11, .ref qf12, .ref qf13, .ref qf14, .ref qf15, .int v16, .int v17, .int u2_0, .int u2_1, .int v20])), (qf15, .inl (cf15, 30, .inl f15)), (qf1, .inr (4, [.ref qf1_0, .ref qf1_1])), (qf1_1, .inl (cf1_1, 256, .inl f1_1))]) hP hD [0, 1, 2, 3] [] rfl rfl (by decide) (by decide) hk1 hFc hP1 hD1
      clear hP hD
      obtain ⟨hP, hD⟩ := hPD
      replace hK := (hK.sub (tys' := []) [] rfl).app hK1
      clear hPc hDc hKc hFc hP1 hK1 hD1 hz1 hk1 ht hvm
      generalize H1 = H at hP hS ⊢
      replace hP : va_P (dC, dI) vwCl [(h0, .inr (11, [.ref qf0, .ref qf1, .int v2, .int v3, .int v4, .ref qf5, .int v6, .int v7, .ref qf8, .ref qf9, .ref qf10, .ref qf11, .ref qf12, .ref qf13, .ref qf14, .ref qf15, .int v16, .int v17, .int u2_0, .int u2_1, .int v20])), (qf15, .inl (cf15, 30, .inl f15)), (qf1, .inr (4, [.ref qf1_0, .ref qf1_1])), (qf1_1, .inl (cf1_1, 256, .inl f1_1))] H := hP
      replace hD : va_D A [(h0, .inr (11, [.ref qf0, .ref qf1, .int v2, .int v3, .int v4, .ref qf5, .int v6, .int v7, .ref qf8, .ref qf9, .ref qf10, .ref qf11, .ref qf12, .ref qf13, .ref qf14, .ref qf15, .int v16, .int v17, .int u2_0, .int u2_1, .int v20])), (qf15, .inl (cf15, 30, .inl f15)), (qf1, .inr (4, [.ref qf1_0, .ref qf1_1])), (qf1_1, .inl (cf1_1, 256, .inl f1_1))] := hD
      replace hK : va_K (dC, dI) vwCl [(cf15, .int), (cf1_1, .boolean)] s := hK
      refine lv_aload_n hx hb dX11_applyReturn_43 rfl (lv_at hl 0 rfl) ?_
      refine lv_aload_n hx hb dX11_applyReturn_44 rfl (lv_at hl 0 rfl) ?_
      refine va_get (D := (dC, dI)) (ci := 11) (v := .int u2_1) (C := RX11) (T := TX11) (N := 21) hx hb hts uV_h3_X11 hown hK hP 0 rfl rfl 19 (by decide) (hts (.fieldLink RX11 295 "ClassMill$Verifier" "fitting" "Z") mw_h3_220) (fun _ h9 => h9) rfl dX11_applyReturn_45 ?_
      refine lv_if_eq (tgt := 65) hx hb dX11_applyReturn_48 (by decide) (fun c_6 => ?_) (fun c_6 => ?_)
      · rw [if_pos c_6] at hsp
        refine lv_iconst (v := 0) hx hb dX11_applyReturn_65 (by decide) ?_
        refine va_put (D := (dC, dI)) (ci := 11) (v := .int 0) (ty := .boolean) (C := RX11) (T := TX11) (N := 21) hx hb hts uV_h3_X11 tyX11 tyX11_ok nmX11 hown hK hP hD hS 0 rfl rfl 19 (by decide) (hts (.fieldLink RX11 295 "ClassMill$Verifier" "fitting" "Z") mw_h3_220) (fun _ h9 => h9) rfl (by decide +kernel) rfl rfl (Nat.le_of_ble_eq_true rfl) dX11_applyReturn_66 ?_
        clear hP hD hS
        intro H locs hP hD hS
        replace hP : va_P (dC, dI) vwCl [(h0, .inr (11, [.ref qf0, .ref qf1, .int v2, .int v3, .int v4, .ref qf5, .int v6, .int v7, .ref qf8, .ref qf9, .ref qf10, .ref qf11, .ref qf12, .ref qf13, .ref qf14, .ref qf15, .int v16, .int v17, .int u2_0, .int 0, .int v20])), (qf15, .inl (cf15, 30, .inl f15)), (qf1, .inr (4, [.ref qf1_0, .ref qf1_1])), (qf1_1, .inl (cf1_1, 256, .inl f1_1))] H := hP
        replace hD : va_D A [(h0, .inr (11, [.ref qf0, .ref qf1, .int v2, .int v3, .int v4, .ref qf5, .int v6, .int v7, .ref qf8, .ref qf9, .ref qf10, .ref qf11, .ref qf12, .ref qf13, .ref qf14, .ref qf15, .int v16, .int v17, .int u2_0, .int 0, .int v20])), (qf15, .inl (cf15, 30, .inl f15)), (qf1, .inr (4, [.ref qf1_0, .ref qf1_1])), (qf1_1, .inl (cf1_1, 256, .inl f1_1))] := hD
        refine lv_goto (tgt := 116) hx hb dX11_applyReturn_69 (by decide) ?_
        have hr0 := Option.some.inj hsp
        clear hsp
        obtain ⟨hq0, hr1⟩ := Prod.mk.inj hr0
        clear hr0
        subst hq0
        subst hr1
        have hP9 := hP.sub (ws' := [(h0, .inr (11, [.ref qf0, .ref qf1, .int v2, .int v3, .int v4, .ref qf5, .int v6, .int v7, .ref qf8, .ref qf9, .ref qf10, .ref qf11, .ref qf12, .ref qf13, .ref qf14, .ref qf15, .int v16, .int v17, .int u2_0, .int 0, .int v20])), (qf15, .inl (cf15, 30, .inl f15)), (qf1, .inr (4, [.ref qf1_0, .ref qf1_1])), (qf1_1, .inl (cf1_1, 256, .inl f1_1))]) [0, 1, 2, 3] rfl
        have hD9 := hD.sub (ws' := [(h0, .inr (11, [.ref qf0, .ref qf1, .int v2, .int v3, .int v4, .ref qf5, .int v6, .int v7, .ref qf8, .ref qf9, .ref qf10, .ref qf11, .ref qf12, .ref qf13, .ref qf14, .ref qf15, .int v16, .int v17, .int u2_0, .int 0, .int v20])), (qf15, .inl (cf15, 30, .inl f15)), (qf1, .inr (4, [.ref qf1_0, .ref qf1_1])), (qf1_1, .inl (cf1_1, 256, .inl f1_1))]) [0, 1, 2, 3] (by decide) rfl
        have hK9 := hK.sub (tys' := [(cf15, .int), (cf1_1, .boolean)]) [0, 1] rfl
        exact W.vret hx hb hr (fun t ht hW => ⟨⟨(), rfl, trivial, by rw [ht]; exact hP9, va_K.moved hW.alike hK9, hD9⟩, hS.F ht⟩) hS.2.2 dX11_applyReturn_116
      · rw [if_neg c_6] at hsp
        refine lv_aload_n hx hb dX11_applyReturn_51 rfl (lv_at hl 0 rfl) ?_
        refine va_get (D := (dC, dI)) (ci := 11) (v := .int v20) (C := RX11) (T := TX11) (N := 21) hx hb hts uV_h3_X11 hown hK hP 0 rfl rfl 20 (by decide) (hts (.fieldLink RX11 264 "ClassMill$Verifier" "result" "I") mw_h3_249) (fun _ h9 => h9) rfl dX11_applyReturn_52 ?_
        refine lv_sipush (v := 301) hx hb dX11_applyReturn_55 (by decide) ?_
        refine lv_icmp_ne (tgt := 65) hx hb dX11_applyReturn_58 (by decide) (fun c_7 => ?_) (fun c_7 => ?_)
        · rw [if_neg c_7] at hsp
          refine lv_iconst (v := 0) hx hb dX11_applyReturn_65 (by decide) ?_
          refine va_put (D := (dC, dI)) (ci := 11) (v := .int 0) (ty := .boolean) (C := RX11) (T := TX11) (N := 21) hx hb hts uV_h3_X11 tyX11 tyX11_ok nmX11 hown hK hP hD hS 0 rfl rfl 19 (by decide) (hts (.fieldLink RX11 295 "ClassMill$Verifier" "fitting" "Z") mw_h3_220) (fun _ h9 => h9) rfl (by decide +kernel) rfl rfl (Nat.le_of_ble_eq_true rfl) dX11_applyReturn_66 ?_
          clear hP hD hS
          intro H locs hP hD hS
          replace hP : va_P (dC, dI) vwCl [(h0, .inr (11, [.ref qf0, .ref qf1, .int v2, .int v3, .int v4, .ref qf5, .int v6, .int v7, .ref qf8, .ref qf9, .ref qf10, .ref qf11, .ref qf12, .ref qf13, .ref qf14, .ref qf15, .int v16, .int v17, .int u2_0, .int 0, .int v20])), (qf15, .inl (cf15, 30, .inl f15)), (qf1, .inr (4, [.ref qf1_0, .ref qf1_1])), (qf1_1, .inl (cf1_1, 256, .inl f1_1))] H := hP
          replace hD : va_D A [(h0, .inr (11, [.ref qf0, .ref qf1, .int v2, .int v3, .int v4, .ref qf5, .int v6, .int v7, .ref qf8, .ref qf9, .ref qf10, .ref qf11, .ref qf12, .ref qf13, .ref qf14, .ref qf15, .int v16, .int v17, .int u2_0, .int 0, .int v20])), (qf15, .inl (cf15, 30, .inl f15)), (qf1, .inr (4, [.ref qf1_0, .ref qf1_1])), (qf1_1, .inl (cf1_1, 256, .inl f1_1))] := hD
          refine lv_goto (tgt := 116) hx hb dX11_applyReturn_69 (by decide) ?_
          have hr0 := Option.some.inj hsp
          clear hsp
          obtain ⟨hq0, hr1⟩ := Prod.mk.inj hr0
          clear hr0
          subst hq0
          subst hr1
          have hP9 := hP.sub (ws' := [(h0, .inr (11, [.ref qf0, .ref qf1, .int v2, .int v3, .int v4, .ref qf5, .int v6, .int v7, .ref qf8, .ref qf9, .ref qf10, .ref qf11, .ref qf12, .ref qf13, .ref qf14, .ref qf15, .int v16, .int v17, .int u2_0, .int 0, .int v20])), (qf15, .inl (cf15, 30, .inl f15)), (qf1, .inr (4, [.ref qf1_0, .ref qf1_1])), (qf1_1, .inl (cf1_1, 256, .inl f1_1))]) [0, 1, 2, 3] rfl
          have hD9 := hD.sub (ws' := [(h0, .inr (11, [.ref qf0, .ref qf1, .int v2, .int v3, .int v4, .ref qf5, .int v6, .int v7, .ref qf8, .ref qf9, .ref qf10, .ref qf11, .ref qf12, .ref qf13, .ref qf14, .ref qf15, .int v16, .int v17, .int u2_0, .int 0, .int v20])), (qf15, .inl (cf15, 30, .inl f15)), (qf1, .inr (4, [.ref qf1_0, .ref qf1_1])), (qf1_1, .inl (cf1_1, 256, .inl f1_1))]) [0, 1, 2, 3] (by decide) rfl
          have hK9 := hK.sub (tys' := [(cf15, .int), (cf1_1, .boolean)]) [0, 1] rfl
          exact W.vret hx hb hr (fun t ht hW => ⟨⟨(), rfl, trivial, by rw [ht]; exact hP9, va_K.moved hW.alike hK9, hD9⟩, hS.F ht⟩) hS.2.2 dX11_applyReturn_116
        · rw [if_pos c_7] at hsp
          refine lv_iconst (v := 1) hx hb dX11_applyReturn_61 (by decide) ?_
          refine lv_goto (tgt := 66) hx hb dX11_applyReturn_62 (by decide) ?_
          refine va_put (D := (dC, dI)) (ci := 11) (v := .int 1) (ty := .boolean) (C := RX11) (T := TX11) (N := 21) hx hb hts uV_h3_X11 tyX11 tyX11_ok nmX11 hown hK hP hD hS 0 rfl rfl 19 (by decide) (hts (.fieldLink RX11 295 "ClassMill$Verifier" "fitting" "Z") mw_h3_220) (fun _ h9 => h9) rfl (by decide +kernel) rfl rfl (Nat.le_of_ble_eq_true rfl) dX11_applyReturn_66 ?_
          clear hP hD hS
          intro H locs hP hD hS
          replace hP : va_P (dC, dI) vwCl [(h0, .inr (11, [.ref qf0, .ref qf1, .int v2, .int v3, .int v4, .ref qf5, .int v6, .int v7, .ref qf8, .ref qf9, .ref qf10, .ref qf11, .ref qf12, .ref qf13, .ref qf14, .ref qf15, .int v16, .int v17, .int u2_0, .int 1, .int v20])), (qf15, .inl (cf15, 30, .inl f15)), (qf1, .inr (4, [.ref qf1_0, .ref qf1_1])), (qf1_1, .inl (cf1_1, 256, .inl f1_1))] H := hP
          replace hD : va_D A [(h0, .inr (11, [.ref qf0, .ref qf1, .int v2, .int v3, .int v4, .ref qf5, .int v6, .int v7, .ref qf8, .ref qf9, .ref qf10, .ref qf11, .ref qf12, .ref qf13, .ref qf14, .ref qf15, .int v16, .int v17, .int u2_0, .int 1, .int v20])), (qf15, .inl (cf15, 30, .inl f15)), (qf1, .inr (4, [.ref qf1_0, .ref qf1_1])), (qf1_1, .inl (cf1_1, 256, .inl f1_1))] := hD
          refine lv_goto (tgt := 116) hx hb dX11_applyReturn_69 (by decide) ?_
          have hr0 := Option.some.inj hsp
          clear hsp
          obtain ⟨hq0, hr1⟩ := Prod.mk.inj hr0
          clear hr0
          subst hq0
          subst hr1
          have hP9 := hP.sub (ws' := [(h0, .inr (11, [.ref qf0, .ref qf1, .int v2, .int v3, .int v4, .ref qf5, .int v6, .int v7, .ref qf8, .ref qf9, .ref qf10, .ref qf11, .ref qf12, .ref qf13, .ref qf14, .ref qf15, .int v16, .int v17, .int u2_0, .int 1, .int v20])), (qf15, .inl (cf15, 30, .inl f15)), (qf1, .inr (4, [.ref qf1_0, .ref qf1_1])), (qf1_1, .inl (cf1_1, 256, .inl f1_1))]) [0, 1, 2, 3] rfl
          have hD9 := hD.sub (ws' := [(h0, .inr (11, [.ref qf0, .ref qf1, .int v2, .int v3, .int v4, .ref qf5, .int v6, .int v7, .ref qf8, .ref qf9, .ref qf10, .ref qf11, .ref qf12, .ref qf13, .ref qf14, .ref qf15, .int v16, .int v17, .int u2_0, .int 1, .int v20])), (qf15, .inl (cf15, 30, .inl f15)), (qf1, .inr (4, [.ref qf1_0, .ref qf1_1])), (qf1_1, .inl (cf1_1, 256, .inl f1_1))]) [0, 1, 2, 3] (by decide) rfl
          have hK9 := hK.sub (tys' := [(cf15, .int), (cf1_1, .boolean)]) [0, 1] rfl
          exact W.vret hx hb hr (fun t ht hW => ⟨⟨(), rfl, trivial, by rw [ht]; exact hP9, va_K.moved hW.alike hK9, hD9⟩, hS.F ht⟩) hS.2.2 dX11_applyReturn_116
  · rw [if_pos c_1] at hsp
    refine lv_aload_n hx hb dX11_applyReturn_7 rfl (lv_at hl 0 rfl) ?_
    refine lv_aload_n hx hb dX11_applyReturn_8 rfl (lv_at hl 0 rfl) ?_
    refine va_get (D := (dC, dI)) (ci := 11) (v := .int v20) (C := RX11) (T := TX11) (N := 21) hx hb hts uV_h3_X11 hown hK hP 0 rfl rfl 20 (by decide) (hts (.fieldLink RX11 264 "ClassMill$Verifier" "result" "I") mw_h3_249) (fun _ h9 => h9) rfl dX11_applyReturn_9 ?_
    refine lv_sipush (v := 303) hx hb dX11_applyReturn_12 (by decide) ?_
    refine lv_icmp_ne (tgt := 22) hx hb dX11_applyReturn_15 (by decide) (fun c_8 => ?_) (fun c_8 => ?_)
    · rw [if_neg c_8] at hsp
      refine lv_iconst (v := 0) hx hb dX11_applyReturn_22 (by decide) ?_
      refine va_put (D := (dC, dI)) (ci := 11) (v := .int 0) (ty := .boolean) (C := RX11) (T := TX11) (N := 21) hx hb hts uV_h3_X11 tyX11 tyX11_ok nmX11 hown hK hP hD hS 0 rfl rfl 19 (by decide) (hts (.fieldLink RX11 295 "ClassMill$Verifier" "fitting" "Z") mw_h3_220) (fun _ h9 => h9) rfl (by decide +kernel) rfl rfl (Nat.le_of_ble_eq_true rfl) dX11_applyReturn_23 ?_
      clear hP hD hS
      intro H locs hP hD hS
      replace hP : va_P (dC, dI) vwCl [(h0, .inr (11, [.ref qf0, .ref qf1, .int v2, .int v3, .int v4, .ref qf5, .int v6, .int v7, .ref qf8, .ref qf9, .ref qf10, .ref qf11, .ref qf12, .ref qf13, .ref qf14, .ref qf15, .int v16, .int v17, .int v18, .int 0, .int v20])), (qf15, .inl (cf15, 30, .inl f15)), (qf1, .inr (4, [.ref qf1_0, .ref qf1_1])), (qf1_1, .inl (cf1_1, 256, .inl f1_1))] H := hP
      replace hD : va_D A [(h0, .inr (11, [.ref qf0, .ref qf1, .int v2, .int v3, .int v4, .ref qf5, .int v6, .int v7, .ref qf8, .ref qf9, .ref qf10, .ref qf11, .ref qf12, .ref qf13, .ref qf14, .ref qf15, .int v16, .int v17, .int v18, .int 0, .int v20])), (qf15, .inl (cf15, 30, .inl f15)), (qf1, .inr (4, [.ref qf1_0, .ref qf1_1])), (qf1_1, .inl (cf1_1, 256, .inl f1_1))] := hD
      refine lv_goto (tgt := 116) hx hb dX11_applyReturn_26 (by decide) ?_
      have hr0 := Option.some.inj hsp
      clear hsp
      obtain ⟨hq0, hr1⟩ := Prod.mk.inj hr0
      clear hr0
      subst hq0
      subst hr1
      have hP9 := hP.sub (ws' := [(h0, .inr (11, [.ref qf0, .ref qf1, .int v2, .int v3, .int v4, .ref qf5, .int v6, .int v7, .ref qf8, .ref qf9, .ref qf10, .ref qf11, .ref qf12, .ref qf13, .ref qf14, .ref qf15, .int v16, .int v17, .int v18, .int 0, .int v20])), (qf15, .inl (cf15, 30, .inl f15)), (qf1, .inr (4, [.ref qf1_0, .ref qf1_1])), (qf1_1, .inl (cf1_1, 256, .inl f1_1))]) [0, 1, 2, 3] rfl
      have hD9 := hD.sub (ws' := [(h0, .inr (11, [.ref qf0, .ref qf1, .int v2, .int v3, .int v4, .ref qf5, .int v6, .int v7, .ref qf8, .ref qf9, .ref qf10, .ref qf11, .ref qf12, .ref qf13, .ref qf14, .ref qf15, .int v16, .int v17, .int v18, .int 0, .int v20])), (qf15, .inl (cf15, 30, .inl f15)), (qf1, .inr (4, [.ref qf1_0, .ref qf1_1])), (qf1_1, .inl (cf1_1, 256, .inl f1_1))]) [0, 1, 2, 3] (by decide) rfl
      have hK9 := hK.sub (tys' := [(cf15, .int), (cf1_1, .boolean)]) [0, 1] rfl
      exact W.vret hx hb hr (fun t ht hW => ⟨⟨(), rfl, trivial, by rw [ht]; exact hP9, va_K.moved hW.alike hK9, hD9⟩, hS.F ht⟩) hS.2.2 dX11_applyReturn_116
    · rw [if_pos c_8] at hsp
      refine lv_iconst (v := 1) hx hb dX11_applyReturn_18 (by decide) ?_
      refine lv_goto (tgt := 23) hx hb dX11_applyReturn_19 (by decide) ?_
      refine va_put (D := (dC, dI)) (ci := 11) (v := .int 1) (ty := .boolean) (C := RX11) (T := TX11) (N := 21) hx hb hts uV_h3_X11 tyX11 tyX11_ok nmX11 hown hK hP hD hS 0 rfl rfl 19 (by decide) (hts (.fieldLink RX11 295 "ClassMill$Verifier" "fitting" "Z") mw_h3_220) (fun _ h9 => h9) rfl (by decide +kernel) rfl rfl (Nat.le_of_ble_eq_true rfl) dX11_applyReturn_23 ?_
      clear hP hD hS
      intro H locs hP hD hS
      replace hP : va_P (dC, dI) vwCl [(h0, .inr (11, [.ref qf0, .ref qf1, .int v2, .int v3, .int v4, .ref qf5, .int v6, .int v7, .ref qf8, .ref qf9, .ref qf10, .ref qf11, .ref qf12, .ref qf13, .ref qf14, .ref qf15, .int v16, .int v17, .int v18, .int 1, .int v20])), (qf15, .inl (cf15, 30, .inl f15)), (qf1, .inr (4, [.ref qf1_0, .ref qf1_1])), (qf1_1, .inl (cf1_1, 256, .inl f1_1))] H := hP
      replace hD : va_D A [(h0, .inr (11, [.ref qf0, .ref qf1, .int v2, .int v3, .int v4, .ref qf5, .int v6, .int v7, .ref qf8, .ref qf9, .ref qf10, .ref qf11, .ref qf12, .ref qf13, .ref qf14, .ref qf15, .int v16, .int v17, .int v18, .int 1, .int v20])), (qf15, .inl (cf15, 30, .inl f15)), (qf1, .inr (4, [.ref qf1_0, .ref qf1_1])), (qf1_1, .inl (cf1_1, 256, .inl f1_1))] := hD
      refine lv_goto (tgt := 116) hx hb dX11_applyReturn_26 (by decide) ?_
      have hr0 := Option.some.inj hsp
      clear hsp
      obtain ⟨hq0, hr1⟩ := Prod.mk.inj hr0
      clear hr0
      subst hq0
      subst hr1
      have hP9 := hP.sub (ws' := [(h0, .inr (11, [.ref qf0, .ref qf1, .int v2, .int v3, .int v4, .ref qf5, .int v6, .int v7, .ref qf8, .ref qf9, .ref qf10, .ref qf11, .ref qf12, .ref qf13, .ref qf14, .ref qf15, .int v16, .int v17, .int v18, .int 1, .int v20])), (qf15, .inl (cf15, 30, .inl f15)), (qf1, .inr (4, [.ref qf1_0, .ref qf1_1])), (qf1_1, .inl (cf1_1, 256, .inl f1_1))]) [0, 1, 2, 3] rfl
      have hD9 := hD.sub (ws' := [(h0, .inr (11, [.ref qf0, .ref qf1, .int v2, .int v3, .int v4, .ref qf5, .int v6, .int v7, .ref qf8, .ref qf9, .ref qf10, .ref qf11, .ref qf12, .ref qf13, .ref qf14, .ref qf15, .int v16, .int v17, .int v18, .int 1, .int v20])), (qf15, .inl (cf15, 30, .inl f15)), (qf1, .inr (4, [.ref qf1_0, .ref qf1_1])), (qf1_1, .inl (cf1_1, 256, .inl f1_1))]) [0, 1, 2, 3] (by decide) rfl
      have hK9 := hK.sub (tys' := [(cf15, .int), (cf1_1, .boolean)]) [0, 1] rfl
      exact W.vret hx hb hr (fun t ht hW => ⟨⟨(), rfl, trivial, by rw [ht]; exact hP9, va_K.moved hW.alike hK9, hD9⟩, hS.F ht⟩) hS.2.2 dX11_applyReturn_116
def lp_t11_applyMember_94 (nf n : Nat) (a1 : Int32) (a2 : Int32) (v17 : Int32) (v18 : Int32) (v19 : Int32) (v5_1 : Int32) (v5_7 : Int32) (f5_5 : Nat → Int32) (nb : Nat) (f5_0 : Nat → Int32) (f8 : Nat → Int32) (f15 : Nat → Int32) (f1_1 : Nat → Int32) (f11 : Nat → Int32) (f10 : Nat → Int32)  (l1_94 : Int32) (l2_94 : Int32) (l3_94 : Int32) (l4_94 : Int32) (l5_94 : Int32) (g15_94 : Nat → Int32) (x18_94 : Int32) (x19_94 : Int32) : Option ((Nat → Int32) × Int32 × Int32) := match n with
  | 0 => none
  | n + 1 => (if l5_94 ≤ 0 then (if l1_94 = 182 then ((sp_t11_want nf l3_94 x18_94 x19_94 g15_94 f1_1).bind (fun p7 => (if l4_94 < 0 then none else if 1799 ≤ (l4_94 : Int32).toNatClampNeg then none else (if (f11 (l4_94 : Int32).toNatClampNeg) = 303 then (some (g15_94, p7.1, p7.2)) else (if l4_94 < 0 then none else if 1799 ≤ (l4_94 : Int32).toNatClampNeg then none else ((sp_t11_push nf (f11 (l4_94 : Int32).toNatClampNeg) v17 p7.1 p7.2 g15_94).bind (fun p8 => (some (p8.1, p8.2.1, p8.2.2))))))))) else (if l4_94 < 0 then none else if 1799 ≤ (l4_94 : Int32).toNatClampNeg then none else (if (f11 (l4_94 : Int32).toNatClampNeg) = 303 then (some (g15_94, x18_94, x19_94)) else (if l4_94 < 0 then none else if 1799 ≤ (l4_94 : Int32).toNatClampNeg then none else ((sp_t11_push nf (f11 (l4_94 : Int32).toNatClampNeg) v17 x18_94 x19_94 g15_94).bind (fun p6 => (some (p6.1, p6.2.1, p6.2.2)))))))) else (if (l4_94 + l5_94) < 0 then none else if 1799 ≤ ((l4_94 + l5_94) : Int32).toNatClampNeg then none else ((sp_t11_want nf (f11 ((l4_94 + l5_94) : Int32).toNatClampNeg) x18_94 x19_94 g15_94 f1_1).bind (fun p9 => (lp_t11_applyMember_94 nf n a1 a2 v17 v18 v19 v5_1 v5_7 f5_5 nb f5_0 f8 f15 f1_1 f11 f10 l1_94 l2_94 l3_94 l4_94 (l5_94 + (-1)) g15_94 p9.1 p9.2)))))
def sp_t11_applyMember (nf : Nat) (a1 : Int32) (a2 : Int32) (v17 : Int32) (v18 : Int32) (v19 : Int32) (v5_1 : Int32) (v5_7 : Int32) (f5_5 : Nat → Int32) (nb : Nat) (f5_0 : Nat → Int32) (f8 : Nat → Int32) (f15 : Nat → Int32) (f1_1 : Nat → Int32) (f11 : Nat → Int32) (f10 : Nat → Int32) : Option ((Nat → Int32) × Int32 × Int32) := ((sp_ti_partOf nf a2 0 v5_1 v5_7 f5_5 nb f5_0).bind (fun p1 => (if p1 < 0 then none else if 256 ≤ (p1 : Int32).toNatClampNeg then none else (if a1 = 180 then ((sp_t11_want nf (f8 (p1 : Int32).toNatClampNeg) v18 v19 f15 f1_1).bind (fun p2 => (if (a2 * 7) < 0 then none else if 1799 ≤ ((a2 * 7) : Int32).toNatClampNeg then none else ((sp_t11_push nf (f11 ((a2 * 7) : Int32).toNatClampNeg) v17 p2.1 p2.2 f15).bind (fun p3 => (some (p3.1, p3.2.1, p3.2.2))))))) else (if a1 = 181 then (if (a2 * 7) < 0 then none else if 1799 ≤ ((a2 * 7) : Int32).toNatClampNeg then none else ((sp_t11_want nf (f11 ((a2 * 7) : Int32).toNatClampNeg) v18 v19 f15 f1_1).bind (fun p4 => ((sp_t11_want nf (f8 (p1 : Int32).toNatClampNeg) p4.1 p4.2 f15 f1_1).bind (fun p5 => (some (f15, p5.1, p5.2))))))) else (if a2 < 0 then none else if 256 ≤ (a2 : Int32).toNatClampNeg then none else (lp_t11_applyMember_94 nf nf a1 a2 v17 v18 v19 v5_1 v5_7 f5_5 nb f5_0 f8 f15 f1_1 f11 f10 a1 a2 (f8 (p1 : Int32).toNatClampNeg) (a2 * 7) (f10 (a2 : Int32).toNatClampNeg) f15 v18 v19)))))))
set_option maxHeartbeats 4000000 in
set_option maxRecDepth 100000 in
/-- ClassMill$Verifier.applyMember -/
theorem t11_applyMember (l : Launch) (dC : Nat → ClassId) (dI : Nat → Nat → Nat) (sz : Nat) (h0 : Nat) (a1 : Int32) (a2 : Int32) (qf0 : Nat) (qf1 : Nat) (v2 : Int32) (v3 : Int32) (v4 : Int32) (qf5 : Nat) (v6 : Int32) (v7 : Int32) (qf8 : Nat) (qf9 : Nat) (qf10 : Nat) (qf11 : Nat) (qf12 : Nat) (qf13 : Nat) (qf14 : Nat) (qf15 : Nat) (v16 : Int32) (v17 : Int32) (v18 : Int32) (v19 : Int32) (v20 : Int32) (qf5_0 : Nat) (v5_1 : Int32) (v5_2 : Int32) (v5_3 : Int32) (qf5_4 : Nat) (qf5_5 : Nat) (qf5_6 : Nat) (v5_7 : Int32) (v5_8 : Int32) (v5_9 : Int32) (v5_10 : Int32) (qf5_11 : Nat) (v5_12 : Int32) (qf5_13 : Nat) (cf5_5 : ClassId) (f5_5 : (Nat → Int32)) (cf5_0 : ClassId) (nb : Nat) (f5_0 : (Nat → Int32)) (cf8 : ClassId) (f8 : (Nat → Int32)) (cf15 : ClassId) (f15 : (Nat → Int32)) (qf1_0 : Nat) (qf1_1 : Nat) (cf1_1 : ClassId) (f1_1 : (Nat → Int32)) (cf11 : ClassId) (f11 : (Nat → Int32)) (cf10 : ClassId) (f10 : (Nat → Int32)) (nf : Nat) (o15 : (Nat → Int32)) (w18 : Int32) (w19 : Int32) (hsp : sp_t11_applyMember nf a1 a2 v17 v18 v19 v5_1 v5_7 f5_5 nb f5_0 f8 f15 f1_1 f11 f10 = some (o15, w18, w19)) : Met l yX11_applyMember (.code yX11_applyMember cX11_applyMember 6 none :: VS_h3) ({ frames := 2, cells := 0, slots := 0, locals := 45 }) (va_Pc [.ref h0, .int a1, .int a2] (fun U => U.heap.size = sz ∧ va_P (dC, dI) vwCl [(h0, .inr (11, [.ref qf0, .ref qf1, .int v2, .int v3, .int v4, .ref qf5, .int v6, .int v7, .ref qf8, .ref qf9, .ref qf10, .ref qf11, .ref qf12, .ref qf13, .ref qf14, .ref qf15, .int v16, .int v17, .int v18, .int v19, .int v20])), (qf5, .inr (3, [.ref qf5_0, .int v5_1, .int v5_2, .int v5_3, .ref qf5_4, .ref qf5_5, .ref qf5_6, .int v5_7, .int v5_8, .int v5_9, .int v5_10, .ref qf5_11, .int v5_12, .ref qf5_13])), (qf5_5, .inl (cf5_5, 256, .inl f5_5)), (qf5_0, .inl (cf5_0, nb, .inl f5_0)), (qf8, .inl (cf8, 256, .inl f8)), (qf15, .inl (cf15, 30, .inl f15)), (qf1, .inr (4, [.ref qf1_0, .ref qf1_1])), (qf1_1, .inl (cf1_1, 256, .inl f1_1)), (qf11, .inl (cf11, 1799, .inl f11)), (qf10, .inl (cf10, 256, .inl f10))] U.heap ∧ va_K (dC, dI) vwCl [(cf5_5, .int), (cf5_0, .byte), (cf8, .int), (cf15, .int), (cf1_1, .boolean), (cf11, .int), (cf10, .int)] U ∧ va_D (fun _ => True) [(h0, .inr (11, [.ref qf0, .ref qf1, .int v2, .int v3, .int v4, .ref qf5, .int v6, .int v7, .ref qf8, .ref qf9, .ref qf10, .ref qf11, .ref qf12, .ref qf13, .ref qf14, .ref qf15, .int v16, .int v17, .int v18, .int v19, .int v20])), (qf5, .inr (3, [.ref qf5_0, .int v5_1, .int v5_2, .int v5_3, .ref qf5_4, .ref qf5_5, .ref qf5_6, .int v5_7, .int v5_8, .int v5_9, .int v5_10, .ref qf5_11, .int v5_12, .ref qf5_13])), (qf5_5, .inl (cf5_5, 256, .inl f5_5)), (qf5_0, .inl (cf5_0, nb, .inl f5_0)), (qf8, .inl (cf8, 256, .inl f8)), (qf15, .inl (cf15, 30, .inl f15)), (qf1, .inr (4, [.ref qf1_0, .ref qf1_1])), (qf1_1, .inl (cf1_1, 256, .inl f1_1)), (qf11, .inl (cf11, 1799, .inl f11)), (qf10, .inl (cf10, 256, .inl f10))])) (va_Qv (fun (u : Unit) => match u with | () => True) (fun (u : Unit) (t : State) => match u with | () => va_P (dC, dI) vwCl [(h0, .inr (11, [.ref qf0, .ref qf1, .int v2, .int v3, .int v4, .ref qf5, .int v6, .int v7, .ref qf8, .ref qf9, .ref qf10, .ref qf11, .ref qf12, .ref qf13, .ref qf14, .ref qf15, .int v16, .int v17, .int w18, .int w19, .int v20])), (qf5, .inr (3, [.ref qf5_0, .int v5_1, .int v5_2, .int v5_3, .ref qf5_4, .ref qf5_5, .ref qf5_6, .int v5_7, .int v5_8, .int v5_9, .int v5_10, .ref qf5_11, .int v5_12, .ref qf5_13])), (qf5_5, .inl (cf5_5, 256, .inl f5_5)), (qf5_0, .inl (cf5_0, nb, .inl f5_0)), (qf8, .inl (cf8, 256, .inl f8)), (qf15, .inl (cf15, 30, .inl o15)), (qf1, .inr (4, [.ref qf1_0, .ref qf1_1])), (qf1_1, .inl (cf1_1, 256, .inl f1_1)), (qf11, .inl (cf11, 1799, .inl f11)), (qf10, .inl (cf10, 256, .inl f10))] t.heap ∧ va_K (dC, dI) vwCl [(cf5_5, .int), (cf5_0, .byte), (cf8, .int), (cf15, .int), (cf1_1, .boolean), (cf11, .int), (cf10, .int)] t ∧ va_D (va_A [(h0, .inr (11, [.ref qf0, .ref qf1, .int v2, .int v3, .int v4, .ref qf5, .int v6, .int v7, .ref qf8, .ref qf9, .ref qf10, .ref qf11, .ref qf12, .ref qf13, .ref qf14, .ref qf15, .int v16, .int v17, .int v18, .int v19, .int v20])), (qf5, .inr (3, [.ref qf5_0, .int v5_1, .int v5_2, .int v5_3, .ref qf5_4, .ref qf5_5, .ref qf5_6, .int v5_7, .int v5_8, .int v5_9, .int v5_10, .ref qf5_11, .int v5_12, .ref qf5_13])), (qf5_5, .inl (cf5_5, 256, .inl f5_5)), (qf5_0, .inl (cf5_0, nb, .inl f5_0)), (qf8, .inl (cf8, 256, .inl f8)), (qf15, .inl (cf15, 30, .inl f15)), (qf1, .inr (4, [.ref qf1_0, .ref qf1_1])), (qf1_1, .inl (cf1_1, 256, .inl f1_1)), (qf11, .inl (cf11, 1799, .inl f11)), (qf10, .inl (cf10, 256, .inl f10))] sz) [(h0, .inr (11, [.ref qf0, .ref qf1, .int v2, .int v3, .int v4, .ref qf5, .int v6, .int v7, .ref qf8, .ref qf9, .ref qf10, .ref qf11, .ref qf12, .ref qf13, .ref qf14, .ref qf15, .int v16, .int v17, .int w18, .int w19, .int v20])), (qf5, .inr (3, [.ref qf5_0, .int v5_1, .int v5_2, .int v5_3, .ref qf5_4, .ref qf5_5, .ref qf5_6, .int v5_7, .int v5_8, .int v5_9, .int v5_10, .ref qf5_11, .int v5_12, .ref qf5_13])), (qf5_5, .inl (cf5_5, 256, .inl f5_5)), (qf5_0, .inl (cf5_0, nb, .inl f5_0)), (qf8, .inl (cf8, 256, .inl f8)), (qf15, .inl (cf15, 30, .inl o15)), (qf1, .inr (4, [.ref qf1_0, .ref qf1_1])), (qf1_1, .inl (cf1_1, 256, .inl f1_1)), (qf11, .inl (cf11, 1799, .inl f11)), (qf10, .inl (cf10, 256, .inl f10))]) (va_A [(h0, .inr (11, [.ref qf0, .ref qf1, .int v2, .int v3, .int v4, .ref qf5, .int v6, .int v7, .ref qf8, .ref qf9, .ref qf10, .ref qf11, .ref qf12, .ref qf13, .ref qf14, .ref qf15, .int v16, .int v17, .int v18, .int v19, .int v20])), (qf5, .inr (3, [.ref qf5_0, .int v5_1, .int v5_2, .int v5_3, .ref qf5_4, .ref qf5_5, .ref qf5_6, .int v5_7, .int v5_8, .int v5_9, .int v5_10, .ref qf5_11, .int v5_12, .ref qf5_13])), (qf5_5, .inl (cf5_5, 256, .inl f5_5)), (qf5_0, .inl (cf5_0, nb, .inl f5_0)), (qf8, .inl (cf8, 256, .inl f8)), (qf15, .inl (cf15, 30, .inl f15)), (qf1, .inr (4, [.ref qf1_0, .ref qf1_1])), (qf1_1, .inl (cf1_1, 256, .inl f1_1)), (qf11, .inl (cf11, 1799, .inl f11)), (qf10, .inl (cf10, 256, .inl f10))] sz)) 0 0 (va_A [(h0, .inr (11, [.ref qf0, .ref qf1, .int v2, .int v3, .int v4, .ref qf5, .int v6, .int v7, .ref qf8, .ref qf9, .ref qf10, .ref qf11, .ref qf12, .ref qf13, .ref qf14, .ref qf15, .int v16, .int v17, .int v18, .int v19, .int v20])), (qf5, .inr (3, [.ref qf5_0, .int v5_1, .int v5_2, .int v5_3, .ref qf5_4, .ref qf5_5, .ref qf5_6, .int v5_7, .int v5_8, .int v5_9, .int v5_10, .ref qf5_11, .int v5_12, .ref qf5_13])), (qf5_5, .inl (cf5_5, 256, .inl f5_5)), (qf5_0, .inl (cf5_0, nb, .inl f5_0)), (qf8, .inl (cf8, 256, .inl f8)), (qf15, .inl (cf15, 30, .inl f15)), (qf1, .inr (4, [.ref qf1_0, .ref qf1_1])), (qf1_1, .inl (cf1_1, 256, .inl f1_1)), (qf11, .inl (cf11, 1799, .inl f11)), (qf10, .inl (cf10, 256, .inl f10))] sz) := by
  refine Met.ofW (cc := cX11_applyMember) (maxL := 6) (ret := none) (by decide) rfl ?_
  intro p e s m args below meth c s₁ B hml hv
  obtain ⟨rfl, hsz, hP, hK, hD0⟩ := hv
  have hx := B.exec
  have hb := B.bytes
  have hr := B.returns
  have hts := atoms_spec (ws := (.code yX11_applyMember cX11_applyMember 6 none :: VS_h3)) B.pre
  replace hts := fun w (h : w ∈ VS_h3) => hts w (List.mem_cons_of_mem _ h)
  have hown : s.vm.findClass RX11 = some m.cls := findClass_of_methodNamed B.named
  have hlocks := B.notSynchronized
  subst hsz
  have hD := hD0.self (sz := s.heap.size)
  generalize hAe : va_A [(h0, .inr (11, [.ref qf0, .ref qf1, .int v2, .int v3, .int v4, .ref qf5, .int v6, .int v7, .ref qf8, .ref qf9, .ref qf10, .ref qf11, .ref qf12, .ref qf13, .ref qf14, .ref qf15, .int v16, .int v17, .int v18, .int v19, .int v20])), (qf5, .inr (3, [.ref qf5_0, .int v5_1, .int v5_2, .int v5_3, .ref qf5_4, .ref qf5_5, .ref qf5_6, .int v5_7, .int v5_8, .int v5_9, .int v5_10, .ref qf5_11, .int v5_12, .ref qf5_13])), (qf5_5, .inl (cf5_5, 256, .inl f5_5)), (qf5_0, .inl (cf5_0, nb, .inl f5_0)), (qf8, .inl (cf8, 256, .inl f8)), (qf15, .inl (cf15, 30, .inl f15)), (qf1, .inr (4, [.ref qf1_0, .ref qf1_1])), (qf1_1, .inl (cf1_1, 256, .inl f1_1)), (qf11, .inl (cf11, 1799, .inl f11)), (qf10, .inl (cf10, 256, .inl f10))] s.heap.size = A at hD  ⊢
  have hA : ∀ q : Nat, s.heap.size ≤ q → A q := fun q h => by rw [← hAe]; exact Or.inr h
  have hP : va_P (dC, dI) vwCl [(h0, .inr (11, [.ref qf0, .ref qf1, .int v2, .int v3, .int v4, .ref qf5, .int v6, .int v7, .ref qf8, .ref qf9, .ref qf10, .ref qf11, .ref qf12, .ref qf13, .ref qf14, .ref qf15, .int v16, .int v17, .int v18, .int v19, .int v20])), (qf5, .inr (3, [.ref qf5_0, .int v5_1, .int v5_2, .int v5_3, .ref qf5_4, .ref qf5_5, .ref qf5_6, .int v5_7, .int v5_8, .int v5_9, .int v5_10, .ref qf5_11, .int v5_12, .ref qf5_13])), (qf5_5, .inl (cf5_5, 256, .inl f5_5)), (qf5_0, .inl (cf5_0, nb, .inl f5_0)), (qf8, .inl (cf8, 256, .inl f8)), (qf15, .inl (cf15, 30, .inl f15)), (qf1, .inr (4, [.ref qf1_0, .ref qf1_1])), (qf1_1, .inl (cf1_1, 256, .inl f1_1)), (qf11, .inl (cf11, 1799, .inl f11)), (qf10, .inl (cf10, 256, .inl f10))] s.heap := hP
  have hl := lv_entry ([.ref h0, .int a1, .int a2]) (n := 6) (Nat.le_of_ble_eq_true rfl)
  rw [lg_entry_eq]
  generalize (lg_sl ([.ref h0, .int a1, .int a2]) ++ List.replicate (6 - (lg_sl ([.ref h0, .int a1, .int a2])).length) Slot.unset).toArray = ls at hl ⊢
  have hl : lv_has ls 6 [(0, .ref h0), (1, .int a1), (2, .int a2)] := hl
  obtain ⟨H, hH⟩ : ∃ H : Heap, s.heap = H := ⟨_, rfl⟩
  rw [hH] at hP ⊢
  have hS : va_S A s.heap H [] := by rw [← hH]; exact va_S.rf
  obtain ⟨locs, hlo⟩ : ∃ locs : List Loc, locs = [] := ⟨_, rfl⟩
  rw [← hlo] at hS ⊢
  unfold sp_t11_applyMember at hsp
  refine lv_aload_n hx hb dX11_applyMember_0 rfl (lv_at hl 0 rfl) ?_
  refine va_get (D := (dC, dI)) (ci := 11) (v := .ref qf8) (C := RX11) (T := TX11) (N := 21) hx hb hts uV_h3_X11 hown hK hP 0 rfl rfl 8 (by decide) (hts (.fieldLink RX11 23 "ClassMill$Verifier" "classTypes" "[I") mw_h3_193) (fun _ h9 => h9) rfl dX11_applyMember_1 ?_
  refine lv_aload_n hx hb dX11_applyMember_4 rfl (lv_at hl 0 rfl) ?_
  refine va_get (D := (dC, dI)) (ci := 11) (v := .ref qf5) (C := RX11) (T := TX11) (N := 21) hx hb hts uV_h3_X11 hown hK hP 0 rfl rfl 5 (by decide) (hts (.fieldLink RX11 62 "ClassMill$Verifier" "image" "LClassMill$Image;") mw_h3_161) (fun _ h9 => h9) rfl dX11_applyMember_5 ?_
  refine lv_iload_n hx hb dX11_applyMember_8 rfl (lv_at hl 2 rfl) ?_
  refine lv_iconst (v := 0) hx hb dX11_applyMember_9 (by decide) ?_
  obtain ⟨u1_0, hu_1, hsp⟩ := ox_bind hsp
  try dsimp only at hsp
  have hPc := hP.sub (ws' := [(qf5, .inr (3, [.ref qf5_0, .int v5_1, .int v5_2, .int v5_3, .ref qf5_4, .ref qf5_5, .ref qf5_6, .int v5_7, .int v5_8, .int v5_9, .int v5_10, .ref qf5_11, .int v5_12, .ref qf5_13])), (qf5_5, .inl (cf5_5, 256, .inl f5_5)), (qf5_0, .inl (cf5_0, nb, .inl f5_0))]) [1, 2, 3] rfl
  have hDc := hD.sub (ws' := [(qf5, .inr (3, [.ref qf5_0, .int v5_1, .int v5_2, .int v5_3, .ref qf5_4, .ref qf5_5, .ref qf5_6, .int v5_7, .int v5_8, .int v5_9, .int v5_10, .ref qf5_11, .int v5_12, .ref qf5_13])), (qf5_5, .inl (cf5_5, 256, .inl f5_5)), (qf5_0, .inl (cf5_0, nb, .inl f5_0))]) [1, 2, 3] (by decide) rfl
  have hKc := hK.sub (tys' := [(cf5_5, .int), (cf5_0, .byte)]) [0, 1] rfl
  have hFc := va_free (wc := [(qf5, .inr (3, [.ref qf5_0, .int v5_1, .int v5_2, .int v5_3, .ref qf5_4, .ref qf5_5, .ref qf5_6, .int v5_7, .int v5_8, .int v5_9, .int v5_10, .ref qf5_11, .int v5_12, .ref qf5_13])), (qf5_5, .inl (cf5_5, 256, .inl f5_5)), (qf5_0, .inl (cf5_0, nb, .inl f5_0))]) hD hS hA [1, 2, 3] rfl
  refine va_calli (va_runV (As := [.int a2, .int 0]) (rest := [.ref qf8]) ⟨hx, hb, hml, hown, hts⟩ (ti_partOf l dC dI H.size qf5 a2 0 qf5_0 v5_1 v5_2 v5_3 qf5_4 qf5_5 qf5_6 v5_7 v5_8 v5_9 v5_10 qf5_11 v5_12 qf5_13 cf5_5 f5_5 cf5_0 nb f5_0 nf u1_0 hu_1) (cwV 2 hts gv_h3_32 rfl rfl rfl (by decide +kernel) ⟨Nat.le_of_ble_eq_true rfl, Nat.le_of_ble_eq_true rfl⟩) ⟨fun a U g mk q => by obtain ⟨q0, q1, qP, qK, qD⟩ := q; exact ⟨q0, q1, qP, va_K.moved (u := U) (U := U.calling g mk a) (Vm.Alike.refl U.vm) qK, qD⟩, va_recv hKc hPc (ci := 3) (q0 := 0) rfl rfl, fun U hU hW => ⟨rfl, by rw [hU], by rw [hU]; exact hPc, va_K.moved hW.alike hKc, hDc.weaken (fun _ _ _ _ => trivial)⟩⟩ rfl rfl hl.1 rfl (lv_room (Nat.le_of_ble_eq_true rfl)) dX11_applyMember_10 ⟨Nat.le_of_ble_eq_true rfl, Nat.le_of_ble_eq_true rfl⟩) hS (fun q _ h => hFc q h) hFc ?_
  clear hS
  intro r_1 u t H1 locs ht hvm hw hB hz1 hk1 hS
  obtain ⟨⟩ := u
  obtain ⟨hP1, hK1, hD1⟩ := hB
  rw [ht] at hP1
  have hK1 := va_K.moved hvm.symm hK1
  try dsimp only at hw
  have hPD := va_join (wr := [(h0, .inr (11, [.ref qf0, .ref qf1, .int v2, .int v3, .int v4, .ref qf5, .int v6, .int v7, .ref qf8, .ref qf9, .ref qf10, .ref qf11, .ref qf12, .ref qf13, .ref qf14, .ref qf15, .int v16, .int v17, .int v18, .int v19, .int v20])), (qf8, .inl (cf8, 256, .inl f8)), (qf15, .inl (cf15, 30, .inl f15)), (qf1, .inr (4, [.ref qf1_0, .ref qf1_1])), (qf1_1, .inl (cf1_1, 256, .inl f1_1)), (qf11, .inl (cf11, 1799, .inl f11)), (qf10, .inl (cf10, 256, .inl f10))]) (w1 := [(qf5, .inr (3, [.ref qf5_0, .int v5_1, .int v5_2, .int v5_3, .ref qf5_4, .ref qf5_5, .ref qf5_6, .int v5_7, .int v5_8, .int v5_9, .int v5_10, .ref qf5_11, .int v5_12, .ref qf5_13])), (qf5_5, .inl (cf5_5, 256, .inl f5_5)), (qf5_0, .inl (cf5_0, nb, .inl f5_0))]) hP hD [1, 2, 3] [0, 4, 5, 6, 7, 8, 9] rfl rfl (by decide) (by decide) hk1 hFc hP1 hD1
  clear hP hD
  obtain ⟨hP, hD⟩ := hPD
  replace hK := (hK.sub (tys' := [(cf8, .int), (cf15, .int), (cf1_1, .boolean), (cf11, .int), (cf10, .int)]) [2, 3, 4, 5, 6] rfl).app hK1
  clear hPc hDc hKc hFc hP1 hK1 hD1 hz1 hk1 ht hvm
  generalize H1 = H at hP hS ⊢
  replace hP : va_P (dC, dI) vwCl [(h0, .inr (11, [.ref qf0, .ref qf1, .int v2, .int v3, .int v4, .ref qf5, .int v6, .int v7, .ref qf8, .ref qf9, .ref qf10, .ref qf11, .ref qf12, .ref qf13, .ref qf14, .ref qf15, .int v16, .int v17, .int v18, .int v19, .int v20])), (qf8, .inl (cf8, 256, .inl f8)), (qf15, .inl (cf15, 30, .inl f15)), (qf1, .inr (4, [.ref qf1_0, .ref qf1_1])), (qf1_1, .inl (cf1_1, 256, .inl f1_1)), (qf11, .inl (cf11, 1799, .inl f11)), (qf10, .inl (cf10, 256, .inl f10)), (qf5, .inr (3, [.ref qf5_0, .int v5_1, .int v5_2, .int v5_3, .ref qf5_4, .ref qf5_5, .ref qf5_6, .int v5_7, .int v5_8, .int v5_9, .int v5_10, .ref qf5_11, .int v5_12, .ref qf5_13])), (qf5_5, .inl (cf5_5, 256, .inl f5_5)), (qf5_0, .inl (cf5_0, nb, .inl f5_0))] H := hP
  replace hD : va_D A [(h0, .inr (11, [.ref qf0, .ref qf1, .int v2, .int v3, .int v4, .ref qf5, .int v6, .int v7, .ref qf8, .ref qf9, .ref qf10, .ref qf11, .ref qf12, .ref qf13, .ref qf14, .ref qf15, .int v16, .int v17, .int v18, .int v19, .int v20])), (qf8, .inl (cf8, 256, .inl f8)), (qf15, .inl (cf15, 30, .inl f15)), (qf1, .inr (4, [.ref qf1_0, .ref qf1_1])), (qf1_1, .inl (cf1_1, 256, .inl f1_1)), (qf11, .inl (cf11, 1799, .inl f11)), (qf10, .inl (cf10, 256, .inl f10)), (qf5, .inr (3, [.ref qf5_0, .int v5_1, .int v5_2, .int v5_3, .ref qf5_4, .ref qf5_5, .ref qf5_6, .int v5_7, .int v5_8, .int v5_9, .int v5_10, .ref qf5_11, .int v5_12, .ref qf5_13])), (qf5_5, .inl (cf5_5, 256, .inl f5_5)), (qf5_0, .inl (cf5_0, nb, .inl f5_0))] := hD
  replace hK : va_K (dC, dI) vwCl [(cf8, .int), (cf15, .int), (cf1_1, .boolean), (cf11, .int), (cf10, .int), (cf5_5, .int), (cf5_0, .byte)] s := hK
  obtain rfl := hw
  obtain ⟨hi_2, hsp⟩ := ox_in hsp
  refine va_iald hx hb hK hP 1 0 rfl rfl (i := u1_0) hi_2 dX11_applyMember_13 ?_
  refine lv_istore_n (lv' := [(3, .int (f8 (u1_0 : Int32).toNatClampNeg)), (0, .ref h0), (1, .int a1), (2, .int a2)]) hx hb dX11_applyMember_14 rfl hl (by decide) rfl (fun ls hl => ?_)
  refine lv_iload_n hx hb dX11_applyMember_15 rfl (lv_at hl 3 rfl) ?_
  refine lv_bipush (v := 7) hx hb dX11_applyMember_16 (by decide) ?_
  refine lv_imul hx hb dX11_applyMember_18 ?_
  refine lv_istore (lv' := [(4, .int (a2 * 7)), (3, .int (f8 (u1_0 : Int32).toNatClampNeg)), (0, .ref h0), (1, .int a1), (2, .int a2)]) hx hb dX11_applyMember_19 hl (by decide) rfl (fun ls hl => ?_)
  refine lv_iload_n hx hb dX11_applyMember_21 rfl (lv_at hl 3 rfl) ?_
  by_cases hs_3 : a1 = 180
  · rw [if_pos hs_3] at hsp
    refine lv_lookup (tgt := 48) hx hb dX11_applyMember_22 (by decide) (off := 26) (by rw [hs_3]; rfl) (by decide) ?_
    refine lv_aload_n hx hb dX11_applyMember_48 rfl (lv_at hl 2 rfl) ?_
    refine lv_iload_n hx hb dX11_applyMember_49 rfl (lv_at hl 1 rfl) ?_
    obtain ⟨⟨u2_0, u2_1⟩, hu_2, hsp⟩ := ox_bind hsp
    try dsimp only at hsp
    have hPc := hP.sub (ws' := [(h0, .inr (11, [.ref qf0, .ref qf1, .int v2, .int v3, .int v4, .ref qf5, .int v6, .int v7, .ref qf8, .ref qf9, .ref qf10, .ref qf11, .ref qf12, .ref qf13, .ref qf14, .ref qf15, .int v16, .int v17, .int v18, .int v19, .int v20])), (qf15, .inl (cf15, 30, .inl f15)), (qf1, .inr (4, [.ref qf1_0, .ref qf1_1])), (qf1_1, .inl (cf1_1, 256, .inl f1_1))]) [0, 2, 3, 4] rfl
    have hDc := hD.sub (ws' := [(h0, .inr (11, [.ref qf0, .ref qf1, .int v2, .int v3, .int v4, .ref qf5, .int v6, .int v7, .ref qf8, .ref qf9, .ref qf10, .ref qf11, .ref qf12, .ref qf13, .ref qf14, .ref qf15, .int v16, .int v17, .int v18, .int v19, .int v20])), (qf15, .inl (cf15, 30, .inl f15)), (qf1, .inr (4, [.ref qf1_0, .ref qf1_1])), (qf1_1, .inl (cf1_1, 256, .inl f1_1))]) [0, 2, 3, 4] (by decide) rfl
    have hKc := hK.sub (tys' := [(cf15, .int), (cf1_1, .boolean)]) [1, 2] rfl
    have hFc := va_free (wc := [(h0, .inr (11, [.ref qf0, .ref qf1, .int v2, .int v3, .int v4, .ref qf5, .int v6, .int v7, .ref qf8, .ref qf9, .ref qf10, .ref qf11, .ref qf12, .ref qf13, .ref qf14, .ref qf15, .int v16, .int v17, .int v18, .int v19, .int v20])), (qf15, .inl (cf15, 30, .inl f15)), (qf1, .inr (4, [.ref qf1_0, .ref qf1_1])), (qf1_1, .inl (cf1_1, 256, .inl f1_1))]) hD hS hA [0, 2, 3, 4] rfl
    refine va_callv (va_runV (As := [.int (f8 (u1_0 : Int32).toNatClampNeg)]) (rest := []) ⟨hx, hb, hml, hown, hts⟩ (t11_want l dC dI H.size h0 ((f8 (u1_0 : Int32).toNatClampNeg)) qf0 qf1 v2 v3 v4 qf5 v6 v7 qf8 qf9 qf10 qf11 qf12 qf13 qf14 qf15 v16 v17 v18 v19 v20 cf15 f15 qf1_0 qf1_1 cf1_1 f1_1 nf u2_0 u2_1 hu_2) (cwV 1 hts gv_h3_54 rfl rfl rfl (by decide +kernel) ⟨Nat.le_of_ble_eq_true rfl, Nat.le_of_ble_eq_true rfl⟩) ⟨fun a U g mk q => by obtain ⟨q0, q1, qP, qK, qD⟩ := q; exact ⟨q0, q1, qP, va_K.moved (u := U) (U := U.calling g mk a) (Vm.Alike.refl U.vm) qK, qD⟩, va_recv hKc hPc (ci := 11) (q0 := 0) rfl rfl, fun U hU hW => ⟨rfl, by rw [hU], by rw [hU]; exact hPc, va_K.moved hW.alike hKc, hDc.weaken (fun _ _ _ _ => trivial)⟩⟩ rfl rfl hl.1 rfl (lv_room (Nat.le_of_ble_eq_true rfl)) dX11_applyMember_50 ⟨Nat.le_of_ble_eq_true rfl, Nat.le_of_ble_eq_true rfl⟩) hS (fun q _ h => hFc q h) hFc ?_
    clear hS
    intro u t H1 locs ht hvm hw hB hz1 hk1 hS
    obtain ⟨⟩ := u
    obtain ⟨hP1, hK1, hD1⟩ := hB
    rw [ht] at hP1
    have hK1 := va_K.moved hvm.symm hK1
    try dsimp only at hw
    have hPD := va_join (wr := [(qf8, .inl (cf8, 256, .inl f8)), (qf11, .inl (cf11, 1799, .inl f11)), (qf10, .inl (cf10, 256, .inl f10)), (qf5, .inr (3, [.ref qf5_0, .int v5_1, .int v5_2, .int v5_3, .ref qf5_4, .ref qf5_5, .ref qf5_6, .int v5_7, .int v5_8, .int v5_9, .int v5_10, .ref qf5_11, .int v5_12, .ref qf5_13])), (qf5_5, .inl (cf5_5, 256, .inl f5_5)), (qf5_0, .inl (cf5_0, nb, .inl f5_0))]) (w1 := [(h0, .inr (11, [.ref qf0, .ref qf1, .int v2, .int v3, .int v4, .ref qf5, .int v6, .int v7, .ref qf8, .ref qf9, .ref qf10, .ref qf11, .ref qf12, .ref qf13, .ref qf14, .ref qf15, .int v16, .int v17, .int u2_0, .int u2_1, .int v20])), (qf15, .inl (cf15, 30, .inl f15)), (qf1, .inr (4, [.ref qf1_0, .ref qf1_1])), (qf1_1, .inl (cf1_1, 256, .inl f1_1))]) hP hD [0, 2, 3, 4] [1, 5, 6, 7, 8, 9] rfl rfl (by decide) (by decide) hk1 hFc hP1 hD1
    clear hP hD
    obtain ⟨hP, hD⟩ := hPD
    replace hK := (hK.sub (tys' := [(cf8, .int), (cf11, .int), (cf10, .int), (cf5_5, .int), (cf5_0, .byte)]) [0, 3, 4, 5, 6] rfl).app hK1
    clear hPc hDc hKc hFc hP1 hK1 hD1 hz1 hk1 ht hvm
    generalize H1 = H at hP hS ⊢
    replace hP : va_P (dC, dI) vwCl [(qf8, .inl (cf8, 256, .inl f8)), (qf11, .inl (cf11, 1799, .inl f11)), (qf10, .inl (cf10, 256, .inl f10)), (qf5, .inr (3, [.ref qf5_0, .int v5_1, .int v5_2, .int v5_3, .ref qf5_4, .ref qf5_5, .ref qf5_6, .int v5_7, .int v5_8, .int v5_9, .int v5_10, .ref qf5_11, .int v5_12, .ref qf5_13])), (qf5_5, .inl (cf5_5, 256, .inl f5_5)), (qf5_0, .inl (cf5_0, nb, .inl f5_0)), (h0, .inr (11, [.ref qf0, .ref qf1, .int v2, .int v3, .int v4, .ref qf5, .int v6, .int v7, .ref qf8, .ref qf9, .ref qf10, .ref qf11, .ref qf12, .ref qf13, .ref qf14, .ref qf15, .int v16, .int v17, .int u2_0, .int u2_1, .int v20])), (qf15, .inl (cf15, 30, .inl f15)), (qf1, .inr (4, [.ref qf1_0, .ref qf1_1])), (qf1_1, .inl (cf1_1, 256, .inl f1_1))] H := hP
    replace hD : va_D A [(qf8, .inl (cf8, 256, .inl f8)), (qf11, .inl (cf11, 1799, .inl f11)), (qf10, .inl (cf10, 256, .inl f10)), (qf5, .inr (3, [.ref qf5_0, .int v5_1, .int v5_2, .int v5_3, .ref qf5_4, .ref qf5_5, .ref qf5_6, .int v5_7, .int v5_8, .int v5_9, .int v5_10, .ref qf5_11, .int v5_12, .ref qf5_13])), (qf5_5, .inl (cf5_5, 256, .inl f5_5)), (qf5_0, .inl (cf5_0, nb, .inl f5_0)), (h0, .inr (11, [.ref qf0, .ref qf1, .int v2, .int v3, .int v4, .ref qf5, .int v6, .int v7, .ref qf8, .ref qf9, .ref qf10, .ref qf11, .ref qf12, .ref qf13, .ref qf14, .ref qf15, .int v16, .int v17, .int u2_0, .int u2_1, .int v20])), (qf15, .inl (cf15, 30, .inl f15)), (qf1, .inr (4, [.ref qf1_0, .ref qf1_1])), (qf1_1, .inl (cf1_1, 256, .inl f1_1))] := hD
    replace hK : va_K (dC, dI) vwCl [(cf8, .int), (cf11, .int), (cf10, .int), (cf5_5, .int), (cf5_0, .byte), (cf15, .int), (cf1_1, .boolean)] s := hK
    refine lv_aload_n hx hb dX11_applyMember_53 rfl (lv_at hl 2 rfl) ?_
    refine lv_aload_n hx hb dX11_applyMember_54 rfl (lv_at hl 2 rfl) ?_
    refine va_get (D := (dC, dI)) (ci := 11) (v := .ref qf11) (C := RX11) (T := TX11) (N := 21) hx hb hts uV_h3_X11 hown hK hP 6 rfl rfl 11 (by decide) (hts (.fieldLink RX11 33 "ClassMill$Verifier" "memberTypes" "[I") mw_h3_250) (fun _ h9 => h9) rfl dX11_applyMember_55 ?_
    refine lv_iload hx hb dX11_applyMember_58 (lv_at hl 0 rfl) ?_
    obtain ⟨hi_4, hsp⟩ := ox_in hsp
    refine va_iald hx hb hK hP 1 1 rfl rfl (i := (a2 * 7)) hi_4 dX11_applyMember_60 ?_
    obtain ⟨⟨g903_0, u3_1, u3_2⟩, hu_3, hsp⟩ := ox_bind hsp
    try dsimp only at hsp
    have hPc := hP.sub (ws' := [(h0, .inr (11, [.ref qf0, .ref qf1, .int v2, .int v3, .int v4, .ref qf5, .int v6, .int v7, .ref qf8, .ref qf9, .ref qf10, .ref qf11, .ref qf12, .ref qf13, .ref qf14, .ref qf15, .int v16, .int v17, .int u2_0, .int u2_1, .int v20])), (qf15, .inl (cf15, 30, .inl f15))]) [6, 7] rfl
    have hDc := hD.sub (ws' := [(h0, .inr (11, [.ref qf0, .ref qf1, .int v2, .int v3, .int v4, .ref qf5, .int v6, .int v7, .ref qf8, .ref qf9, .ref qf10, .ref qf11, .ref qf12, .ref qf13, .ref qf14, .ref qf15, .int v16, .int v17, .int u2_0, .int u2_1, .int v20])), (qf15, .inl (cf15, 30, .inl f15))]) [6, 7] (by decide) rfl
    have hKc := hK.sub (tys' := [(cf15, .int)]) [5] rfl
    have hFc := va_free (wc := [(h0, .inr (11, [.ref qf0, .ref qf1, .int v2, .int v3, .int v4, .ref qf5, .int v6, .int v7, .ref qf8, .ref qf9, .ref qf10, .ref qf11, .ref qf12, .ref qf13, .ref qf14, .ref qf15, .int v16, .int v17, .int u2_0, .int u2_1, .int v20])), (qf15, .inl (cf15, 30, .inl f15))]) hD hS hA [6, 7] rfl
    refine va_callv (va_runV (As := [.int (f11 ((a2 * 7) : Int32).toNatClampNeg)]) (rest := []) ⟨hx, hb, hml, hown, hts⟩ (t11_push l dC dI H.size h0 ((f11 ((a2 * 7) : Int32).toNatClampNeg)) qf0 qf1 v2 v3 v4 qf5 v6 v7 qf8 qf9 qf10 qf11 qf12 qf13 qf14 qf15 v16 v17 u2_0 u2_1 v20 cf15 f15 nf g903_0 u3_1 u3_2 hu_3) (cwV 1 hts gv_h3_52 rfl rfl rfl (by decide +kernel) ⟨Nat.le_of_ble_eq_true rfl, Nat.le_of_ble_eq_true rfl⟩) ⟨fun a U g mk q => by obtain ⟨q0, q1, qP, qK, qD⟩ := q; exact ⟨q0, q1, qP, va_K.moved (u := U) (U := U.calling g mk a) (Vm.Alike.refl U.vm) qK, qD⟩, va_recv hKc hPc (ci := 11) (q0 := 0) rfl rfl, fun U hU hW => ⟨rfl, by rw [hU], by rw [hU]; exact hPc, va_K.moved hW.alike hKc, hDc.weaken (fun _ _ _ _ => trivial)⟩⟩ rfl rfl hl.1 rfl (lv_room (Nat.le_of_ble_eq_true rfl)) dX11_applyMember_61 ⟨Nat.le_of_ble_eq_true rfl, Nat.le_of_ble_eq_true rfl⟩) hS (fun q _ h => hFc q h) hFc ?_
    clear hS
    intro u t H1 locs ht hvm hw hB hz1 hk1 hS
    obtain ⟨⟩ := u
    obtain ⟨hP1, hK1, hD1⟩ := hB
    rw [ht] at hP1
    have hK1 := va_K.moved hvm.symm hK1
    try dsimp only at hw
    have hPD := va_join (wr := [(qf8, .inl (cf8, 256, .inl f8)), (qf11, .inl (cf11, 1799, .inl f11)), (qf10, .inl (cf10, 256, .inl f10)), (qf5, .inr (3, [.ref qf5_0, .int v5_1, .int v5_2, .int v5_3, .ref qf5_4, .ref qf5_5, .ref qf5_6, .int v5_7, .int v5_8, .int v5_9, .int v5_10, .ref qf5_11, .int v5_12, .ref qf5_13])), (qf5_5, .inl (cf5_5, 256, .inl f5_5)), (qf5_0, .inl (cf5_0, nb, .inl f5_0)), (qf1, .inr (4, [.ref qf1_0, .ref qf1_1])), (qf1_1, .inl (cf1_1, 256, .inl f1_1))]) (w1 := [(h0, .inr (11, [.ref qf0, .ref qf1, .int v2, .int v3, .int v4, .ref qf5, .int v6, .int v7, .ref qf8, .ref qf9, .ref qf10, .ref qf11, .ref qf12, .ref qf13, .ref qf14, .ref qf15, .int v16, .int v17, .int u3_1, .int u3_2, .int v20])), (qf15, .inl (cf15, 30, .inl g903_0))]) hP hD [6, 7] [0, 1, 2, 3, 4, 5, 8, 9] rfl rfl (by decide) (by decide) hk1 hFc hP1 hD1
    clear hP hD
    obtain ⟨hP, hD⟩ := hPD
    replace hK := (hK.sub (tys' := [(cf8, .int), (cf11, .int), (cf10, .int), (cf5_5, .int), (cf5_0, .byte), (cf1_1, .boolean)]) [0, 1, 2, 3, 4, 6] rfl).app hK1
    clear hPc hDc hKc hFc hP1 hK1 hD1 hz1 hk1 ht hvm
    generalize H1 = H at hP hS ⊢
    replace hP : va_P (dC, dI) vwCl [(qf8, .inl (cf8, 256, .inl f8)), (qf11, .inl (cf11, 1799, .inl f11)), (qf10, .inl (cf10, 256, .inl f10)), (qf5, .inr (3, [.ref qf5_0, .int v5_1, .int v5_2, .int v5_3, .ref qf5_4, .ref qf5_5, .ref qf5_6, .int v5_7, .int v5_8, .int v5_9, .int v5_10, .ref qf5_11, .int v5_12, .ref qf5_13])), (qf5_5, .inl (cf5_5, 256, .inl f5_5)), (qf5_0, .inl (cf5_0, nb, .inl f5_0)), (qf1, .inr (4, [.ref qf1_0, .ref qf1_1])), (qf1_1, .inl (cf1_1, 256, .inl f1_1)), (h0, .inr (11, [.ref qf0, .ref qf1, .int v2, .int v3, .int v4, .ref qf5, .int v6, .int v7, .ref qf8, .ref qf9, .ref qf10, .ref qf11, .ref qf12, .ref qf13, .ref qf14, .ref qf15, .int v16, .int v17, .int u3_1, .int u3_2, .int v20])), (qf15, .inl (cf15, 30, .inl g903_0))] H := hP
    replace hD : va_D A [(qf8, .inl (cf8, 256, .inl f8)), (qf11, .inl (cf11, 1799, .inl f11)), (qf10, .inl (cf10, 256, .inl f10)), (qf5, .inr (3, [.ref qf5_0, .int v5_1, .int v5_2, .int v5_3, .ref qf5_4, .ref qf5_5, .ref qf5_6, .int v5_7, .int v5_8, .int v5_9, .int v5_10, .ref qf5_11, .int v5_12, .ref qf5_13])), (qf5_5, .inl (cf5_5, 256, .inl f5_5)), (qf5_0, .inl (cf5_0, nb, .inl f5_0)), (qf1, .inr (4, [.ref qf1_0, .ref qf1_1])), (qf1_1, .inl (cf1_1, 256, .inl f1_1)), (h0, .inr (11, [.ref qf0, .ref qf1, .int v2, .int v3, .int v4, .ref qf5, .int v6, .int v7, .ref qf8, .ref qf9, .ref qf10, .ref qf11, .ref qf12, .ref qf13, .ref qf14, .ref qf15, .int v16, .int v17, .int u3_1, .int u3_2, .int v20])), (qf15, .inl (cf15, 30, .inl g903_0))] := hD
    replace hK : va_K (dC, dI) vwCl [(cf8, .int), (cf11, .int), (cf10, .int), (cf5_5, .int), (cf5_0, .byte), (cf1_1, .boolean), (cf15, .int)] s := hK
    refine lv_goto (tgt := 155) hx hb dX11_applyMember_64 (by decide) ?_
    have hr0 := Option.some.inj hsp
    clear hsp
    obtain ⟨hq0, hr1⟩ := Prod.mk.inj hr0
    clear hr0
    obtain ⟨hq1, hr2⟩ := Prod.mk.inj hr1
    clear hr1
    subst hq0
    subst hq1
    subst hr2
    have hP9 := hP.sub (ws' := [(h0, .inr (11, [.ref qf0, .ref qf1, .int v2, .int v3, .int v4, .ref qf5, .int v6, .int v7, .ref qf8, .ref qf9, .ref qf10, .ref qf11, .ref qf12, .ref qf13, .ref qf14, .ref qf15, .int v16, .int v17, .int u3_1, .int u3_2, .int v20])), (qf5, .inr (3, [.ref qf5_0, .int v5_1, .int v5_2, .int v5_3, .ref qf5_4, .ref qf5_5, .ref qf5_6, .int v5_7, .int v5_8, .int v5_9, .int v5_10, .ref qf5_11, .int v5_12, .ref qf5_13])), (qf5_5, .inl (cf5_5, 256, .inl f5_5)), (qf5_0, .inl (cf5_0, nb, .inl f5_0)), (qf8, .inl (cf8, 256, .inl f8)), (qf15, .inl (cf15, 30, .inl g903_0)), (qf1, .inr (4, [.ref qf1_0, .ref qf1_1])), (qf1_1, .inl (cf1_1, 256, .inl f1_1)), (qf11, .inl (cf11, 1799, .inl f11)), (qf10, .inl (cf10, 256, .inl f10))]) [8, 3, 4, 5, 0, 9, 6, 7, 1, 2] rfl
    have hD9 := hD.sub (ws' := [(h0, .inr (11, [.ref qf0, .ref qf1, .int v2, .int v3, .int v4, .ref qf5, .int v6, .int v7, .ref qf8, .ref qf9, .ref qf10, .ref qf11, .ref qf12, .ref qf13, .ref qf14, .ref qf15, .int v16, .int v17, .int u3_1, .int u3_2, .int v20])), (qf5, .inr (3, [.ref qf5_0, .int v5_1, .int v5_2, .int v5_3, .ref qf5_4, .ref qf5_5, .ref qf5_6, .int v5_7, .int v5_8, .int v5_9, .int v5_10, .ref qf5_11, .int v5_12, .ref qf5_13])), (qf5_5, .inl (cf5_5, 256, .inl f5_5)), (qf5_0, .inl (cf5_0, nb, .inl f5_0)), (qf8, .inl (cf8, 256, .inl f8)), (qf15, .inl (cf15, 30, .inl g903_0)), (qf1, .inr (4, [.ref qf1_0, .ref qf1_1])), (qf1_1, .inl (cf1_1, 256, .inl f1_1)), (qf11, .inl (cf11, 1799, .inl f11)), (qf10, .inl (cf10, 256, .inl f10))]) [8, 3, 4, 5, 0, 9, 6, 7, 1, 2] (by decide) rfl
    have hK9 := hK.sub (tys' := [(cf5_5, .int), (cf5_0, .byte), (cf8, .int), (cf15, .int), (cf1_1, .boolean), (cf11, .int), (cf10, .int)]) [3, 4, 0, 6, 5, 1, 2] rfl
    exact W.vret hx hb hr (fun t ht hW => ⟨⟨(), rfl, trivial, by rw [ht]; exact hP9, va_K.moved hW.alike hK9, hD9⟩, hS.F ht⟩) hS.2.2 dX11_applyMember_155
  rw [if_neg hs_3] at hsp
  by_cases hs_5 : a1 = 181
  · rw [if_pos hs_5] at hsp
    refine lv_lookup (tgt := 67) hx hb dX11_applyMember_22 (by decide) (off := 45) (by rw [hs_5]; rfl) (by decide) ?_
    refine lv_aload_n hx hb dX11_applyMember_67 rfl (lv_at hl 2 rfl) ?_
    refine lv_aload_n hx hb dX11_applyMember_68 rfl (lv_at hl 2 rfl) ?_
    refine va_get (D := (dC, dI)) (ci := 11) (v := .ref qf11) (C := RX11) (T := TX11) (N := 21) hx hb hts uV_h3_X11 hown hK hP 0 rfl rfl 11 (by decide) (hts (.fieldLink RX11 33 "ClassMill$Verifier" "memberTypes" "[I") mw_h3_250) (fun _ h9 => h9) rfl dX11_applyMember_69 ?_
    refine lv_iload hx hb dX11_applyMember_72 (lv_at hl 0 rfl) ?_
    obtain ⟨hi_6, hsp⟩ := ox_in hsp
    refine va_iald hx hb hK hP 5 3 rfl rfl (i := (a2 * 7)) hi_6 dX11_applyMember_74 ?_
    obtain ⟨⟨u4_0, u4_1⟩, hu_4, hsp⟩ := ox_bind hsp
    try dsimp only at hsp
    have hPc := hP.sub (ws' := [(h0, .inr (11, [.ref qf0, .ref qf1, .int v2, .int v3, .int v4, .ref qf5, .int v6, .int v7, .ref qf8, .ref qf9, .ref qf10, .ref qf11, .ref qf12, .ref qf13, .ref qf14, .ref qf15, .int v16, .int v17, .int v18, .int v19, .int v20])), (qf15, .inl (cf15, 30, .inl f15)), (qf1, .inr (4, [.ref qf1_0, .ref qf1_1])), (qf1_1, .inl (cf1_1, 256, .inl f1_1))]) [0, 2, 3, 4] rfl
    have hDc := hD.sub (ws' := [(h0, .inr (11, [.ref qf0, .ref qf1, .int v2, .int v3, .int v4, .ref qf5, .int v6, .int v7, .ref qf8, .ref qf9, .ref qf10, .ref qf11, .ref qf12, .ref qf13, .ref qf14, .ref qf15, .int v16, .int v17, .int v18, .int v19, .int v20])), (qf15, .inl (cf15, 30, .inl f15)), (qf1, .inr (4, [.ref qf1_0, .ref qf1_1])), (qf1_1, .inl (cf1_1, 256, .inl f1_1))]) [0, 2, 3, 4] (by decide) rfl
    have hKc := hK.sub (tys' := [(cf15, .int), (cf1_1, .boolean)]) [1, 2] rfl
    have hFc := va_free (wc := [(h0, .inr (11, [.ref qf0, .ref qf1, .int v2, .int v3, .int v4, .ref qf5, .int v6, .int v7, .ref qf8, .ref qf9, .ref qf10, .ref qf11, .ref qf12, .ref qf13, .ref qf14, .ref qf15, .int v16, .int v17, .int v18, .int v19, .int v20])), (qf15, .inl (cf15, 30, .inl f15)), (qf1, .inr (4, [.ref qf1_0, .ref qf1_1])), (qf1_1, .inl (cf1_1, 256, .inl f1_1))]) hD hS hA [0, 2, 3, 4] rfl
    refine va_callv (va_runV (As := [.int (f11 ((a2 * 7) : Int32).toNatClampNeg)]) (rest := []) ⟨hx, hb, hml, hown, hts⟩ (t11_want l dC dI H.size h0 ((f11 ((a2 * 7) : Int32).toNatClampNeg)) qf0 qf1 v2 v3 v4 qf5 v6 v7 qf8 qf9 qf10 qf11 qf12 qf13 qf14 qf15 v16 v17 v18 v19 v20 cf15 f15 qf1_0 qf1_1 cf1_1 f1_1 nf u4_0 u4_1 hu_4) (cwV 1 hts gv_h3_54 rfl rfl rfl (by decide +kernel) ⟨Nat.le_of_ble_eq_true rfl, Nat.le_of_ble_eq_true rfl⟩) ⟨fun a U g mk q => by obtain ⟨q0, q1, qP, qK, qD⟩ := q; exact ⟨q0, q1, qP, va_K.moved (u := U) (U := U.calling g mk a) (Vm.Alike.refl U.vm) qK, qD⟩, va_recv hKc hPc (ci := 11) (q0 := 0) rfl rfl, fun U hU hW => ⟨rfl, by rw [hU], by rw [hU]; exact hPc, va_K.moved hW.alike hKc, hDc.weaken (fun _ _ _ _ => trivial)⟩⟩ rfl rfl hl.1 rfl (lv_room (Nat.le_of_ble_eq_true rfl)) dX11_applyMember_75 ⟨Nat.le_of_ble_eq_true rfl, Nat.le_of_ble_eq_true rfl⟩) hS (fun q _ h => hFc q h) hFc ?_
    clear hS
    intro u t H1 locs ht hvm hw hB hz1 hk1 hS
    obtain ⟨⟩ := u
    obtain ⟨hP1, hK1, hD1⟩ := hB
    rw [ht] at hP1
    have hK1 := va_K.moved hvm.symm hK1
    try dsimp only at hw
    have hPD := va_join (wr := [(qf8, .inl (cf8, 256, .inl f8)), (qf11, .inl (cf11, 1799, .inl f11)), (qf10, .inl (cf10, 256, .inl f10)), (qf5, .inr (3, [.ref qf5_0, .int v5_1, .int v5_2, .int v5_3, .ref qf5_4, .ref qf5_5, .ref qf5_6, .int v5_7, .int v5_8, .int v5_9, .int v5_10, .ref qf5_11, .int v5_12, .ref qf5_13])), (qf5_5, .inl (cf5_5, 256, .inl f5_5)), (qf5_0, .inl (cf5_0, nb, .inl f5_0))]) (w1 := [(h0, .inr (11, [.ref qf0, .ref qf1, .int v2, .int v3, .int v4, .ref qf5, .int v6, .int v7, .ref qf8, .ref qf9, .ref qf10, .ref qf11, .ref qf12, .ref qf13, .ref qf14, .ref qf15, .int v16, .int v17, .int u4_0, .int u4_1, .int v20])), (qf15, .inl (cf15, 30, .inl f15)), (qf1, .inr (4, [.ref qf1_0, .ref qf1_1])), (qf1_1, .inl (cf1_1, 256, .inl f1_1))]) hP hD [0, 2, 3, 4] [1, 5, 6, 7, 8, 9] rfl rfl (by decide) (by decide) hk1 hFc hP1 hD1
    clear hP hD
    obtain ⟨hP, hD⟩ := hPD
    replace hK := (hK.sub (tys' := [(cf8, .int), (cf11, .int), (cf10, .int), (cf5_5, .int), (cf5_0, .byte)]) [0, 3, 4, 5, 6] rfl).app hK1
    clear hPc hDc hKc hFc hP1 hK1 hD1 hz1 hk1 ht hvm
    generalize H1 = H at hP hS ⊢
    replace hP : va_P (dC, dI) vwCl [(qf8, .inl (cf8, 256, .inl f8)), (qf11, .inl (cf11, 1799, .inl f11)), (qf10, .inl (cf10, 256, .inl f10)), (qf5, .inr (3, [.ref qf5_0, .int v5_1, .int v5_2, .int v5_3, .ref qf5_4, .ref qf5_5, .ref qf5_6, .int v5_7, .int v5_8, .int v5_9, .int v5_10, .ref qf5_11, .int v5_12, .ref qf5_13])), (qf5_5, .inl (cf5_5, 256, .inl f5_5)), (qf5_0, .inl (cf5_0, nb, .inl f5_0)), (h0, .inr (11, [.ref qf0, .ref qf1, .int v2, .int v3, .int v4, .ref qf5, .int v6, .int v7, .ref qf8, .ref qf9, .ref qf10, .ref qf11, .ref qf12, .ref qf13, .ref qf14, .ref qf15, .int v16, .int v17, .int u4_0, .int u4_1, .int v20])), (qf15, .inl (cf15, 30, .inl f15)), (qf1, .inr (4, [.ref qf1_0, .ref qf1_1])), (qf1_1, .inl (cf1_1, 256, .inl f1_1))] H := hP
    replace hD : va_D A [(qf8, .inl (cf8, 256, .inl f8)), (qf11, .inl (cf11, 1799, .inl f11)), (qf10, .inl (cf10, 256, .inl f10)), (qf5, .inr (3, [.ref qf5_0, .int v5_1, .int v5_2, .int v5_3, .ref qf5_4, .ref qf5_5, .ref qf5_6, .int v5_7, .int v5_8, .int v5_9, .int v5_10, .ref qf5_11, .int v5_12, .ref qf5_13])), (qf5_5, .inl (cf5_5, 256, .inl f5_5)), (qf5_0, .inl (cf5_0, nb, .inl f5_0)), (h0, .inr (11, [.ref qf0, .ref qf1, .int v2, .int v3, .int v4, .ref qf5, .int v6, .int v7, .ref qf8, .ref qf9, .ref qf10, .ref qf11, .ref qf12, .ref qf13, .ref qf14, .ref qf15, .int v16, .int v17, .int u4_0, .int u4_1, .int v20])), (qf15, .inl (cf15, 30, .inl f15)), (qf1, .inr (4, [.ref qf1_0, .ref qf1_1])), (qf1_1, .inl (cf1_1, 256, .inl f1_1))] := hD
    replace hK : va_K (dC, dI) vwCl [(cf8, .int), (cf11, .int), (cf10, .int), (cf5_5, .int), (cf5_0, .byte), (cf15, .int), (cf1_1, .boolean)] s := hK
    refine lv_aload_n hx hb dX11_applyMember_78 rfl (lv_at hl 2 rfl) ?_
    refine lv_iload_n hx hb dX11_applyMember_79 rfl (lv_at hl 1 rfl) ?_
    obtain ⟨⟨u5_0, u5_1⟩, hu_5, hsp⟩ := ox_bind hsp
    try dsimp only at hsp
    have hPc := hP.sub (ws' := [(h0, .inr (11, [.ref qf0, .ref qf1, .int v2, .int v3, .int v4, .ref qf5, .int v6, .int v7, .ref qf8, .ref qf9, .ref qf10, .ref qf11, .ref qf12, .ref qf13, .ref qf14, .ref qf15, .int v16, .int v17, .int u4_0, .int u4_1, .int v20])), (qf15, .inl (cf15, 30, .inl f15)), (qf1, .inr (4, [.ref qf1_0, .ref qf1_1])), (qf1_1, .inl (cf1_1, 256, .inl f1_1))]) [6, 7, 8, 9] rfl
    have hDc := hD.sub (ws' := [(h0, .inr (11, [.ref qf0, .ref qf1, .int v2, .int v3, .int v4, .ref qf5, .int v6, .int v7, .ref qf8, .ref qf9, .ref qf10, .ref qf11, .ref qf12, .ref qf13, .ref qf14, .ref qf15, .int v16, .int v17, .int u4_0, .int u4_1, .int v20])), (qf15, .inl (cf15, 30, .inl f15)), (qf1, .inr (4, [.ref qf1_0, .ref qf1_1])), (qf1_1, .inl (cf1_1, 256, .inl f1_1))]) [6, 7, 8, 9] (by decide) rfl
    have hKc := hK.sub (tys' := [(cf15, .int), (cf1_1, .boolean)]) [5, 6] rfl
    have hFc := va_free (wc := [(h0, .inr (11, [.ref qf0, .ref qf1, .int v2, .int v3, .int v4, .ref qf5, .int v6, .int v7, .ref qf8, .ref qf9, .ref qf10, .ref qf11, .ref qf12, .ref qf13, .ref qf14, .ref qf15, .int v16, .int v17, .int u4_0, .int u4_1, .int v20])), (qf15, .inl (cf15, 30, .inl f15)), (qf1, .inr (4, [.ref qf1_0, .ref qf1_1])), (qf1_1, .inl (cf1_1, 256, .inl f1_1))]) hD hS hA [6, 7, 8, 9] rfl
    refine va_callv (va_runV (As := [.int (f8 (u1_0 : Int32).toNatClampNeg)]) (rest := []) ⟨hx, hb, hml, hown, hts⟩ (t11_want l dC dI H.size h0 ((f8 (u1_0 : Int32).toNatClampNeg)) qf0 qf1 v2 v3 v4 qf5 v6 v7 qf8 qf9 qf10 qf11 qf12 qf13 qf14 qf15 v16 v17 u4_0 u4_1 v20 cf15 f15 qf1_0 qf1_1 cf1_1 f1_1 nf u5_0 u5_1 hu_5) (cwV 1 hts gv_h3_54 rfl rfl rfl (by decide +kernel) ⟨Nat.le_of_ble_eq_true rfl, Nat.le_of_ble_eq_true rfl⟩) ⟨fun a U g mk q => by obtain ⟨q0, q1, qP, qK, qD⟩ := q; exact ⟨q0, q1, qP, va_K.moved (u := U) (U := U.calling g mk a) (Vm.Alike.refl U.vm) qK, qD⟩, va_recv hKc hPc (ci := 11) (q0 := 0) rfl rfl, fun U hU hW => ⟨rfl, by rw [hU], by rw [hU]; exact hPc, va_K.moved hW.alike hKc, hDc.weaken (fun _ _ _ _ => trivial)⟩⟩ rfl rfl hl.1 rfl (lv_room (Nat.le_of_ble_eq_true rfl)) dX11_applyMember_80 ⟨Nat.le_of_ble_eq_true rfl, Nat.le_of_ble_eq_true rfl⟩) hS (fun q _ h => hFc q h) hFc ?_
    clear hS
    intro u t H1 locs ht hvm hw hB hz1 hk1 hS
    obtain ⟨⟩ := u
    obtain ⟨hP1, hK1, hD1⟩ := hB
    rw [ht] at hP1
    have hK1 := va_K.moved hvm.symm hK1
    try dsimp only at hw
    have hPD := va_join (wr := [(qf8, .inl (cf8, 256, .inl f8)), (qf11, .inl (cf11, 1799, .inl f11)), (qf10, .inl (cf10, 256, .inl f10)), (qf5, .inr (3, [.ref qf5_0, .int v5_1, .int v5_2, .int v5_3, .ref qf5_4, .ref qf5_5, .ref qf5_6, .int v5_7, .int v5_8, .int v5_9, .int v5_10, .ref qf5_11, .int v5_12, .ref qf5_13])), (qf5_5, .inl (cf5_5, 256, .inl f5_5)), (qf5_0, .inl (cf5_0, nb, .inl f5_0))]) (w1 := [(h0, .inr (11, [.ref qf0, .ref qf1, .int v2, .int v3, .int v4, .ref qf5, .int v6, .int v7, .ref qf8, .ref qf9, .ref qf10, .ref qf11, .ref qf12, .ref qf13, .ref qf14, .ref qf15, .int v16, .int v17, .int u5_0, .int u5_1, .int v20])), (qf15, .inl (cf15, 30, .inl f15)), (qf1, .inr (4, [.ref qf1_0, .ref qf1_1])), (qf1_1, .inl (cf1_1, 256, .inl f1_1))]) hP hD [6, 7, 8, 9] [0, 1, 2, 3, 4, 5] rfl rfl (by decide) (by decide) hk1 hFc hP1 hD1
    clear hP hD
    obtain ⟨hP, hD⟩ := hPD
    replace hK := (hK.sub (tys' := [(cf8, .int), (cf11, .int), (cf10, .int), (cf5_5, .int), (cf5_0, .byte)]) [0, 1, 2, 3, 4] rfl).app hK1
    clear hPc hDc hKc hFc hP1 hK1 hD1 hz1 hk1 ht hvm
    generalize H1 = H at hP hS ⊢
    replace hP : va_P (dC, dI) vwCl [(qf8, .inl (cf8, 256, .inl f8)), (qf11, .inl (cf11, 1799, .inl f11)), (qf10, .inl (cf10, 256, .inl f10)), (qf5, .inr (3, [.ref qf5_0, .int v5_1, .int v5_2, .int v5_3, .ref qf5_4, .ref qf5_5, .ref qf5_6, .int v5_7, .int v5_8, .int v5_9, .int v5_10, .ref qf5_11, .int v5_12, .ref qf5_13])), (qf5_5, .inl (cf5_5, 256, .inl f5_5)), (qf5_0, .inl (cf5_0, nb, .inl f5_0)), (h0, .inr (11, [.ref qf0, .ref qf1, .int v2, .int v3, .int v4, .ref qf5, .int v6, .int v7, .ref qf8, .ref qf9, .ref qf10, .ref qf11, .ref qf12, .ref qf13, .ref qf14, .ref qf15, .int v16, .int v17, .int u5_0, .int u5_1, .int v20])), (qf15, .inl (cf15, 30, .inl f15)), (qf1, .inr (4, [.ref qf1_0, .ref qf1_1])), (qf1_1, .inl (cf1_1, 256, .inl f1_1))] H := hP
    replace hD : va_D A [(qf8, .inl (cf8, 256, .inl f8)), (qf11, .inl (cf11, 1799, .inl f11)), (qf10, .inl (cf10, 256, .inl f10)), (qf5, .inr (3, [.ref qf5_0, .int v5_1, .int v5_2, .int v5_3, .ref qf5_4, .ref qf5_5, .ref qf5_6, .int v5_7, .int v5_8, .int v5_9, .int v5_10, .ref qf5_11, .int v5_12, .ref qf5_13])), (qf5_5, .inl (cf5_5, 256, .inl f5_5)), (qf5_0, .inl (cf5_0, nb, .inl f5_0)), (h0, .inr (11, [.ref qf0, .ref qf1, .int v2, .int v3, .int v4, .ref qf5, .int v6, .int v7, .ref qf8, .ref qf9, .ref qf10, .ref qf11, .ref qf12, .ref qf13, .ref qf14, .ref qf15, .int v16, .int v17, .int u5_0, .int u5_1, .int v20])), (qf15, .inl (cf15, 30, .inl f15)), (qf1, .inr (4, [.ref qf1_0, .ref qf1_1])), (qf1_1, .inl (cf1_1, 256, .inl f1_1))] := hD
    replace hK : va_K (dC, dI) vwCl [(cf8, .int), (cf11, .int), (cf10, .int), (cf5_5, .int), (cf5_0, .byte), (cf15, .int), (cf1_1, .boolean)] s := hK
    refine lv_goto (tgt := 155) hx hb dX11_applyMember_83 (by decide) ?_
    have hr0 := Option.some.inj hsp
    clear hsp
    obtain ⟨hq0, hr1⟩ := Prod.mk.inj hr0
    clear hr0
    obtain ⟨hq1, hr2⟩ := Prod.mk.inj hr1
    clear hr1
    subst hq0
    subst hq1
    subst hr2
    have hP9 := hP.sub (ws' := [(h0, .inr (11, [.ref qf0, .ref qf1, .int v2, .int v3, .int v4, .ref qf5, .int v6, .int v7, .ref qf8, .ref qf9, .ref qf10, .ref qf11, .ref qf12, .ref qf13, .ref qf14, .ref qf15, .int v16, .int v17, .int u5_0, .int u5_1, .int v20])), (qf5, .inr (3, [.ref qf5_0, .int v5_1, .int v5_2, .int v5_3, .ref qf5_4, .ref qf5_5, .ref qf5_6, .int v5_7, .int v5_8, .int v5_9, .int v5_10, .ref qf5_11, .int v5_12, .ref qf5_13])), (qf5_5, .inl (cf5_5, 256, .inl f5_5)), (qf5_0, .inl (cf5_0, nb, .inl f5_0)), (qf8, .inl (cf8, 256, .inl f8)), (qf15, .inl (cf15, 30, .inl f15)), (qf1, .inr (4, [.ref qf1_0, .ref qf1_1])), (qf1_1, .inl (cf1_1, 256, .inl f1_1)), (qf11, .inl (cf11, 1799, .inl f11)), (qf10, .inl (cf10, 256, .inl f10))]) [6, 3, 4, 5, 0, 7, 8, 9, 1, 2] rfl
    have hD9 := hD.sub (ws' := [(h0, .inr (11, [.ref qf0, .ref qf1, .int v2, .int v3, .int v4, .ref qf5, .int v6, .int v7, .ref qf8, .ref qf9, .ref qf10, .ref qf11, .ref qf12, .ref qf13, .ref qf14, .ref qf15, .int v16, .int v17, .int u5_0, .int u5_1, .int v20])), (qf5, .inr (3, [.ref qf5_0, .int v5_1, .int v5_2, .int v5_3, .ref qf5_4, .ref qf5_5, .ref qf5_6, .int v5_7, .int v5_8, .int v5_9, .int v5_10, .ref qf5_11, .int v5_12, .ref qf5_13])), (qf5_5, .inl (cf5_5, 256, .inl f5_5)), (qf5_0, .inl (cf5_0, nb, .inl f5_0)), (qf8, .inl (cf8, 256, .inl f8)), (qf15, .inl (cf15, 30, .inl f15)), (qf1, .inr (4, [.ref qf1_0, .ref qf1_1])), (qf1_1, .inl (cf1_1, 256, .inl f1_1)), (qf11, .inl (cf11, 1799, .inl f11)), (qf10, .inl (cf10, 256, .inl f10))]) [6, 3, 4, 5, 0, 7, 8, 9, 1, 2] (by decide) rfl
    have hK9 := hK.sub (tys' := [(cf5_5, .int), (cf5_0, .byte), (cf8, .int), (cf15, .int), (cf1_1, .boolean), (cf11, .int), (cf10, .int)]) [3, 4, 0, 5, 6, 1, 2] rfl
    exact W.vret hx hb hr (fun t ht hW => ⟨⟨(), rfl, trivial, by rw [ht]; exact hP9, va_K.moved hW.alike hK9, hD9⟩, hS.F ht⟩) hS.2.2 dX11_applyMember_155
  rw [if_neg hs_5] at hsp
  refine lv_lookup (tgt := 86) hx hb dX11_applyMember_22 (by decide) (off := 64) (by show Op.lookupswitch.offset [(180, 26), (181, 45)] 64 (a1 : Int32).toInt = 64; rw [lv_osw hs_3 (a := 180) rfl, lv_osw hs_5 (a := 181) rfl]; rfl) (by decide) ?_
  refine lv_aload_n hx hb dX11_applyMember_86 rfl (lv_at hl 2 rfl) ?_
  refine va_get (D := (dC, dI)) (ci := 11) (v := .ref qf10) (C := RX11) (T := TX11) (N := 21) hx hb hts uV_h3_X11 hown hK hP 0 rfl rfl 10 (by decide) (hts (.fieldLink RX11 30 "ClassMill$Verifier" "memberParameters" "[I") mw_h3_251) (fun _ h9 => h9) rfl dX11_applyMember_87 ?_
  refine lv_iload_n hx hb dX11_applyMember_90 rfl (lv_at hl 4 rfl) ?_
  obtain ⟨hi_7, hsp⟩ := ox_in hsp
  refine va_iald hx hb hK hP 6 4 rfl rfl (i := a2) hi_7 dX11_applyMember_91 ?_
  refine lv_istore (lv' := [(5, .int (f10 (a2 : Int32).toNatClampNeg)), (4, .int (a2 * 7)), (3, .int (f8 (u1_0 : Int32).toNatClampNeg)), (0, .ref h0), (1, .int a1), (2, .int a2)]) hx hb dX11_applyMember_92 hl (by decide) rfl (fun ls hl => ?_)
  replace hP := hP.sub (ws' := [(h0, .inr (11, [.ref qf0, .ref qf1, .int v2, .int v3, .int v4, .ref qf5, .int v6, .int v7, .ref qf8, .ref qf9, .ref qf10, .ref qf11, .ref qf12, .ref qf13, .ref qf14, .ref qf15, .int v16, .int v17, .int v18, .int v19, .int v20])), (qf5, .inr (3, [.ref qf5_0, .int v5_1, .int v5_2, .int v5_3, .ref qf5_4, .ref qf5_5, .ref qf5_6, .int v5_7, .int v5_8, .int v5_9, .int v5_10, .ref qf5_11, .int v5_12, .ref qf5_13])), (qf5_5, .inl (cf5_5, 256, .inl f5_5)), (qf5_0, .inl (cf5_0, nb, .inl f5_0)), (qf8, .inl (cf8, 256, .inl f8)), (qf15, .inl (cf15, 30, .inl f15)), (qf1, .inr (4, [.ref qf1_0, .ref qf1_1])), (qf1_1, .inl (cf1_1, 256, .inl f1_1)), (qf11, .inl (cf11, 1799, .inl f11)), (qf10, .inl (cf10, 256, .inl f10))]) [0, 7, 8, 9, 1, 2, 3, 4, 5, 6] rfl
  replace hD := hD.sub (ws' := [(h0, .inr (11, [.ref qf0, .ref qf1, .int v2, .int v3, .int v4, .ref qf5, .int v6, .int v7, .ref qf8, .ref qf9, .ref qf10, .ref qf11, .ref qf12, .ref qf13, .ref qf14, .ref qf15, .int v16, .int v17, .int v18, .int v19, .int v20])), (qf5, .inr (3, [.ref qf5_0, .int v5_1, .int v5_2, .int v5_3, .ref qf5_4, .ref qf5_5, .ref qf5_6, .int v5_7, .int v5_8, .int v5_9, .int v5_10, .ref qf5_11, .int v5_12, .ref qf5_13])), (qf5_5, .inl (cf5_5, 256, .inl f5_5)), (qf5_0, .inl (cf5_0, nb, .inl f5_0)), (qf8, .inl (cf8, 256, .inl f8)), (qf15, .inl (cf15, 30, .inl f15)), (qf1, .inr (4, [.ref qf1_0, .ref qf1_1])), (qf1_1, .inl (cf1_1, 256, .inl f1_1)), (qf11, .inl (cf11, 1799, .inl f11)), (qf10, .inl (cf10, 256, .inl f10))]) [0, 7, 8, 9, 1, 2, 3, 4, 5, 6] (by decide) rfl
  replace hK := hK.sub (tys' := [(cf5_5, .int), (cf5_0, .byte), (cf8, .int), (cf15, .int), (cf1_1, .boolean), (cf11, .int), (cf10, .int)]) [5, 6, 0, 1, 2, 3, 4] rfl
  obtain ⟨n_94, hn_94⟩ : ∃ z : Nat, z = nf := ⟨_, rfl⟩
  obtain ⟨l1_94, el1_94⟩ : ∃ z : Int32, z = a1 := ⟨_, rfl⟩
  obtain ⟨l2_94, el2_94⟩ : ∃ z : Int32, z = a2 := ⟨_, rfl⟩
  obtain ⟨l3_94, el3_94⟩ : ∃ z : Int32, z = (f8 (u1_0 : Int32).toNatClampNeg) := ⟨_, rfl⟩
  obtain ⟨l4_94, el4_94⟩ : ∃ z : Int32, z = (a2 * 7) := ⟨_, rfl⟩
  obtain ⟨l5_94, el5_94⟩ : ∃ z : Int32, z = (f10 (a2 : Int32).toNatClampNeg) := ⟨_, rfl⟩
  obtain ⟨g15_94, eg15_94⟩ : ∃ z : Nat → Int32, z = f15 := ⟨_, rfl⟩
  obtain ⟨x18_94, ex18_94⟩ : ∃ z : Int32, z = v18 := ⟨_, rfl⟩
  obtain ⟨x19_94, ex19_94⟩ : ∃ z : Int32, z = v19 := ⟨_, rfl⟩
  replace hsp : lp_t11_applyMember_94 nf n_94 a1 a2 v17 v18 v19 v5_1 v5_7 f5_5 nb f5_0 f8 f15 f1_1 f11 f10 l1_94 l2_94 l3_94 l4_94 l5_94 g15_94 x18_94 x19_94 = some (o15, w18, w19) := by rw [hn_94, el1_94, el2_94, el3_94, el4_94, el5_94, eg15_94, ex18_94, ex19_94]; exact hsp
  replace hl : lv_has ls 6 [(5, .int l5_94), (4, .int l4_94), (3, .int l3_94), (0, .ref h0), (1, .int l1_94), (2, .int l2_94)] := by rw [el1_94, el2_94, el3_94, el4_94, el5_94]; exact hl
  replace hP : va_P (dC, dI) vwCl [(h0, .inr (11, [.ref qf0, .ref qf1, .int v2, .int v3, .int v4, .ref qf5, .int v6, .int v7, .ref qf8, .ref qf9, .ref qf10, .ref qf11, .ref qf12, .ref qf13, .ref qf14, .ref qf15, .int v16, .int v17, .int x18_94, .int x19_94, .int v20])), (qf5, .inr (3, [.ref qf5_0, .int v5_1, .int v5_2, .int v5_3, .ref qf5_4, .ref qf5_5, .ref qf5_6, .int v5_7, .int v5_8, .int v5_9, .int v5_10, .ref qf5_11, .int v5_12, .ref qf5_13])), (qf5_5, .inl (cf5_5, 256, .inl f5_5)), (qf5_0, .inl (cf5_0, nb, .inl f5_0)), (qf8, .inl (cf8, 256, .inl f8)), (qf15, .inl (cf15, 30, .inl g15_94)), (qf1, .inr (4, [.ref qf1_0, .ref qf1_1])), (qf1_1, .inl (cf1_1, 256, .inl f1_1)), (qf11, .inl (cf11, 1799, .inl f11)), (qf10, .inl (cf10, 256, .inl f10))] H := by rw [eg15_94, ex18_94, ex19_94]; exact hP
  replace hD : va_D A [(h0, .inr (11, [.ref qf0, .ref qf1, .int v2, .int v3, .int v4, .ref qf5, .int v6, .int v7, .ref qf8, .ref qf9, .ref qf10, .ref qf11, .ref qf12, .ref qf13, .ref qf14, .ref qf15, .int v16, .int v17, .int x18_94, .int x19_94, .int v20])), (qf5, .inr (3, [.ref qf5_0, .int v5_1, .int v5_2, .int v5_3, .ref qf5_4, .ref qf5_5, .ref qf5_6, .int v5_7, .int v5_8, .int v5_9, .int v5_10, .ref qf5_11, .int v5_12, .ref qf5_13])), (qf5_5, .inl (cf5_5, 256, .inl f5_5)), (qf5_0, .inl (cf5_0, nb, .inl f5_0)), (qf8, .inl (cf8, 256, .inl f8)), (qf15, .inl (cf15, 30, .inl g15_94)), (qf1, .inr (4, [.ref qf1_0, .ref qf1_1])), (qf1_1, .inl (cf1_1, 256, .inl f1_1)), (qf11, .inl (cf11, 1799, .inl f11)), (qf10, .inl (cf10, 256, .inl f10))] := by rw [eg15_94, ex18_94, ex19_94]; exact hD
  clear hn_94 el1_94 el2_94 el3_94 el4_94 el5_94 eg15_94 ex18_94 ex19_94
  try clear hlo
  try clear hH
  revert hsp
  revert hP
  revert hD
  revert hS
  revert hl
  revert x19_94
  revert x18_94
  revert g15_94
  revert l5_94
  revert l4_94
  revert l3_94
  revert l2_94
  revert l1_94
  revert ls
  revert locs
  revert H
  induction n_94 with
  | zero => intro H locs ls l1_94 l2_94 l3_94 l4_94 l5_94 g15_94 x18_94 x19_94 hl hS hD hP hsp; unfold lp_t11_applyMember_94 at hsp; cases hsp
  | succ n_94 ih_94 =>
    intro H locs ls l1_94 l2_94 l3_94 l4_94 l5_94 g15_94 x18_94 x19_94 hl hS hD hP hsp
    unfold lp_t11_applyMember_94 at hsp
    try dsimp only at hsp
    refine lv_iload hx hb dX11_applyMember_94 (lv_at hl 0 rfl) ?_
    refine lv_if_le (tgt := 119) hx hb dX11_applyMember_96 (by decide) (fun c_8 => ?_) (fun c_8 => ?_)
    · rw [if_pos c_8] at hsp
      refine lv_iload_n hx hb dX11_applyMember_119 rfl (lv_at hl 4 rfl) ?_
      refine lv_sipush (v := 182) hx hb dX11_applyMember_120 (by decide) ?_
      refine lv_icmp_ne (tgt := 131) hx hb dX11_applyMember_123 (by decide) (fun c_9 => ?_) (fun c_9 => ?_)
      · rw [if_neg c_9] at hsp
        refine lv_aload_n hx hb dX11_applyMember_131 rfl (lv_at hl 3 rfl) ?_
        refine va_get (D := (dC, dI)) (ci := 11) (v := .ref qf11) (C := RX11) (T := TX11) (N := 21) hx hb hts uV_h3_X11 hown hK hP 0 rfl rfl 11 (by decide) (hts (.fieldLink RX11 33 "ClassMill$Verifier" "memberTypes" "[I") mw_h3_250) (fun _ h9 => h9) rfl dX11_applyMember_132 ?_
        refine lv_iload hx hb dX11_applyMember_135 (lv_at hl 1 rfl) ?_
        obtain ⟨hi_10, hsp⟩ := ox_in hsp
        refine va_iald hx hb hK hP 8 5 rfl rfl (i := l4_94) hi_10 dX11_applyMember_137 ?_
        refine lv_sipush (v := 303) hx hb dX11_applyMember_138 (by decide) ?_
        refine lv_icmp_eq (tgt := 155) hx hb dX11_applyMember_141 (by decide) (fun c_11 => ?_) (fun c_11 => ?_)
        · rw [if_pos c_11] at hsp
          have hr0 := Option.some.inj hsp
          clear hsp
          obtain ⟨hq0, hr1⟩ := Prod.mk.inj hr0
          clear hr0
          obtain ⟨hq1, hr2⟩ := Prod.mk.inj hr1
          clear hr1
          subst hq0
          subst hq1
          subst hr2
          have hP9 := hP.sub (ws' := [(h0, .inr (11, [.ref qf0, .ref qf1, .int v2, .int v3, .int v4, .ref qf5, .int v6, .int v7, .ref qf8, .ref qf9, .ref qf10, .ref qf11, .ref qf12, .ref qf13, .ref qf14, .ref qf15, .int v16, .int v17, .int x18_94, .int x19_94, .int v20])), (qf5, .inr (3, [.ref qf5_0, .int v5_1, .int v5_2, .int v5_3, .ref qf5_4, .ref qf5_5, .ref qf5_6, .int v5_7, .int v5_8, .int v5_9, .int v5_10, .ref qf5_11, .int v5_12, .ref qf5_13])), (qf5_5, .inl (cf5_5, 256, .inl f5_5)), (qf5_0, .inl (cf5_0, nb, .inl f5_0)), (qf8, .inl (cf8, 256, .inl f8)), (qf15, .inl (cf15, 30, .inl g15_94)), (qf1, .inr (4, [.ref qf1_0, .ref qf1_1])), (qf1_1, .inl (cf1_1, 256, .inl f1_1)), (qf11, .inl (cf11, 1799, .inl f11)), (qf10, .inl (cf10, 256, .inl f10))]) [0, 1, 2, 3, 4, 5, 6, 7, 8, 9] rfl
          have hD9 := hD.sub (ws' := [(h0, .inr (11, [.ref qf0, .ref qf1, .int v2, .int v3, .int v4, .ref qf5, .int v6, .int v7, .ref qf8, .ref qf9, .ref qf10, .ref qf11, .ref qf12, .ref qf13, .ref qf14, .ref qf15, .int v16, .int v17, .int x18_94, .int x19_94, .int v20])), (qf5, .inr (3, [.ref qf5_0, .int v5_1, .int v5_2, .int v5_3, .ref qf5_4, .ref qf5_5, .ref qf5_6, .int v5_7, .int v5_8, .int v5_9, .int v5_10, .ref qf5_11, .int v5_12, .ref qf5_13])), (qf5_5, .inl (cf5_5, 256, .inl f5_5)), (qf5_0, .inl (cf5_0, nb, .inl f5_0)), (qf8, .inl (cf8, 256, .inl f8)), (qf15, .inl (cf15, 30, .inl g15_94)), (qf1, .inr (4, [.ref qf1_0, .ref qf1_1])), (qf1_1, .inl (cf1_1, 256, .inl f1_1)), (qf11, .inl (cf11, 1799, .inl f11)), (qf10, .inl (cf10, 256, .inl f10))]) [0, 1, 2, 3, 4, 5, 6, 7, 8, 9] (by decide) rfl
          have hK9 := hK.sub (tys' := [(cf5_5, .int), (cf5_0, .byte), (cf8, .int), (cf15, .int), (cf1_1, .boolean), (cf11, .int), (cf10, .int)]) [0, 1, 2, 3, 4, 5, 6] rfl
          exact W.vret hx hb hr (fun t ht hW => ⟨⟨(), rfl, trivial, by rw [ht]; exact hP9, va_K.moved hW.alike hK9, hD9⟩, hS.F ht⟩) hS.2.2 dX11_applyMember_155
        · rw [if_neg c_11] at hsp
          refine lv_aload_n hx hb dX11_applyMember_144 rfl (lv_at hl 3 rfl) ?_
          refine lv_aload_n hx hb dX11_applyMember_145 rfl (lv_at hl 3 rfl) ?_
          refine va_get (D := (dC, dI)) (ci := 11) (v := .ref qf11) (C := RX11) (T := TX11) (N := 21) hx hb hts uV_h3_X11 hown hK hP 0 rfl rfl 11 (by decide) (hts (.fieldLink RX11 33 "ClassMill$Verifier" "memberTypes" "[I") mw_h3_250) (fun _ h9 => h9) rfl dX11_applyMember_146 ?_
          refine lv_iload hx hb dX11_applyMember_149 (lv_at hl 1 rfl) ?_
          obtain ⟨hi_12, hsp⟩ := ox_in hsp
          refine va_iald hx hb hK hP 8 5 rfl rfl (i := l4_94) hi_12 dX11_applyMember_151 ?_
          obtain ⟨⟨g906_0, u6_1, u6_2⟩, hu_6, hsp⟩ := ox_bind hsp
          try dsimp only at hsp
          have hPc := hP.sub (ws' := [(h0, .inr (11, [.ref qf0, .ref qf1, .int v2, .int v3, .int v4, .ref qf5, .int v6, .int v7, .ref qf8, .ref qf9, .ref qf10, .ref qf11, .ref qf12, .ref qf13, .ref qf14, .ref qf15, .int v16, .int v17, .int x18_94, .int x19_94, .int v20])), (qf15, .inl (cf15, 30, .inl g15_94))]) [0, 5] rfl
          have hDc := hD.sub (ws' := [(h0, .inr (11, [.ref qf0, .ref qf1, .int v2, .int v3, .int v4, .ref qf5, .int v6, .int v7, .ref qf8, .ref qf9, .ref qf10, .ref qf11, .ref qf12, .ref qf13, .ref qf14, .ref qf15, .int v16, .int v17, .int x18_94, .int x19_94, .int v20])), (qf15, .inl (cf15, 30, .inl g15_94))]) [0, 5] (by decide) rfl
          have hKc := hK.sub (tys' := [(cf15, .int)]) [3] rfl
          have hFc := va_free (wc := [(h0, .inr (11, [.ref qf0, .ref qf1, .int v2, .int v3, .int v4, .ref qf5, .int v6, .int v7, .ref qf8, .ref qf9, .ref qf10, .ref qf11, .ref qf12, .ref qf13, .ref qf14, .ref qf15, .int v16, .int v17, .int x18_94, .int x19_94, .int v20])), (qf15, .inl (cf15, 30, .inl g15_94))]) hD hS hA [0, 5] rfl
          refine va_callv (va_runV (As := [.int (f11 (l4_94 : Int32).toNatClampNeg)]) (rest := []) ⟨hx, hb, hml, hown, hts⟩ (t11_push l dC dI H.size h0 ((f11 (l4_94 : Int32).toNatClampNeg)) qf0 qf1 v2 v3 v4 qf5 v6 v7 qf8 qf9 qf10 qf11 qf12 qf13 qf14 qf15 v16 v17 x18_94 x19_94 v20 cf15 g15_94 nf g906_0 u6_1 u6_2 hu_6) (cwV 1 hts gv_h3_52 rfl rfl rfl (by decide +kernel) ⟨Nat.le_of_ble_eq_true rfl, Nat.le_of_ble_eq_true rfl⟩) ⟨fun a U g mk q => by obtain ⟨q0, q1, qP, qK, qD⟩ := q; exact ⟨q0, q1, qP, va_K.moved (u := U) (U := U.calling g mk a) (Vm.Alike.refl U.vm) qK, qD⟩, va_recv hKc hPc (ci := 11) (q0 := 0) rfl rfl, fun U hU hW => ⟨rfl, by rw [hU], by rw [hU]; exact hPc, va_K.moved hW.alike hKc, hDc.weaken (fun _ _ _ _ => trivial)⟩⟩ rfl rfl hl.1 rfl (lv_room (Nat.le_of_ble_eq_true rfl)) dX11_applyMember_152 ⟨Nat.le_of_ble_eq_true rfl, Nat.le_of_ble_eq_true rfl⟩) hS (fun q _ h => hFc q h) hFc ?_
          clear hS
          intro u t H1 locs ht hvm hw hB hz1 hk1 hS
          obtain ⟨⟩ := u
          obtain ⟨hP1, hK1, hD1⟩ := hB
          rw [ht] at hP1
          have hK1 := va_K.moved hvm.symm hK1
          try dsimp only at hw
          have hPD := va_join (wr := [(qf5, .inr (3, [.ref qf5_0, .int v5_1, .int v5_2, .int v5_3, .ref qf5_4, .ref qf5_5, .ref qf5_6, .int v5_7, .int v5_8, .int v5_9, .int v5_10, .ref qf5_11, .int v5_12, .ref qf5_13])), (qf5_5, .inl (cf5_5, 256, .inl f5_5)), (qf5_0, .inl (cf5_0, nb, .inl f5_0)), (qf8, .inl (cf8, 256, .inl f8)), (qf1, .inr (4, [.ref qf1_0, .ref qf1_1])), (qf1_1, .inl (cf1_1, 256, .inl f1_1)), (qf11, .inl (cf11, 1799, .inl f11)), (qf10, .inl (cf10, 256, .inl f10))]) (w1 := [(h0, .inr (11, [.ref qf0, .ref qf1, .int v2, .int v3, .int v4, .ref qf5, .int v6, .int v7, .ref qf8, .ref qf9, .ref qf10, .ref qf11, .ref qf12, .ref qf13, .ref qf14, .ref qf15, .int v16, .int v17, .int u6_1, .int u6_2, .int v20])), (qf15, .inl (cf15, 30, .inl g906_0))]) hP hD [0, 5] [1, 2, 3, 4, 6, 7, 8, 9] rfl rfl (by decide) (by decide) hk1 hFc hP1 hD1
          clear hP hD
          obtain ⟨hP, hD⟩ := hPD
          replace hK := (hK.sub (tys' := [(cf5_5, .int), (cf5_0, .byte), (cf8, .int), (cf1_1, .boolean), (cf11, .int), (cf10, .int)]) [0, 1, 2, 4, 5, 6] rfl).app hK1
          clear hPc hDc hKc hFc hP1 hK1 hD1 hz1 hk1 ht hvm
          generalize H1 = H at hP hS ⊢
          replace hP : va_P (dC, dI) vwCl [(qf5, .inr (3, [.ref qf5_0, .int v5_1, .int v5_2, .int v5_3, .ref qf5_4, .ref qf5_5, .ref qf5_6, .int v5_7, .int v5_8, .int v5_9, .int v5_10, .ref qf5_11, .int v5_12, .ref qf5_13])), (qf5_5, .inl (cf5_5, 256, .inl f5_5)), (qf5_0, .inl (cf5_0, nb, .inl f5_0)), (qf8, .inl (cf8, 256, .inl f8)), (qf1, .inr (4, [.ref qf1_0, .ref qf1_1])), (qf1_1, .inl (cf1_1, 256, .inl f1_1)), (qf11, .inl (cf11, 1799, .inl f11)), (qf10, .inl (cf10, 256, .inl f10)), (h0, .inr (11, [.ref qf0, .ref qf1, .int v2, .int v3, .int v4, .ref qf5, .int v6, .int v7, .ref qf8, .ref qf9, .ref qf10, .ref qf11, .ref qf12, .ref qf13, .ref qf14, .ref qf15, .int v16, .int v17, .int u6_1, .int u6_2, .int v20])), (qf15, .inl (cf15, 30, .inl g906_0))] H := hP
          replace hD : va_D A [(qf5, .inr (3, [.ref qf5_0, .int v5_1, .int v5_2, .int v5_3, .ref qf5_4, .ref qf5_5, .ref qf5_6, .int v5_7, .int v5_8, .int v5_9, .int v5_10, .ref qf5_11, .int v5_12, .ref qf5_13])), (qf5_5, .inl (cf5_5, 256, .inl f5_5)), (qf5_0, .inl (cf5_0, nb, .inl f5_0)), (qf8, .inl (cf8, 256, .inl f8)), (qf1, .inr (4, [.ref qf1_0, .ref qf1_1])), (qf1_1, .inl (cf1_1, 256, .inl f1_1)), (qf11, .inl (cf11, 1799, .inl f11)), (qf10, .inl (cf10, 256, .inl f10)), (h0, .inr (11, [.ref qf0, .ref qf1, .int v2, .int v3, .int v4, .ref qf5, .int v6, .int v7, .ref qf8, .ref qf9, .ref qf10, .ref qf11, .ref qf12, .ref qf13, .ref qf14, .ref qf15, .int v16, .int v17, .int u6_1, .int u6_2, .int v20])), (qf15, .inl (cf15, 30, .inl g906_0))] := hD
          replace hK : va_K (dC, dI) vwCl [(cf5_5, .int), (cf5_0, .byte), (cf8, .int), (cf1_1, .boolean), (cf11, .int), (cf10, .int), (cf15, .int)] s := hK
          have hr0 := Option.some.inj hsp
          clear hsp
          obtain ⟨hq0, hr1⟩ := Prod.mk.inj hr0
          clear hr0
          obtain ⟨hq1, hr2⟩ := Prod.mk.inj hr1
          clear hr1
          subst hq0
          subst hq1
          subst hr2
          have hP9 := hP.sub (ws' := [(h0, .inr (11, [.ref qf0, .ref qf1, .int v2, .int v3, .int v4, .ref qf5, .int v6, .int v7, .ref qf8, .ref qf9, .ref qf10, .ref qf11, .ref qf12, .ref qf13, .ref qf14, .ref qf15, .int v16, .int v17, .int u6_1, .int u6_2, .int v20])), (qf5, .inr (3, [.ref qf5_0, .int v5_1, .int v5_2, .int v5_3, .ref qf5_4, .ref qf5_5, .ref qf5_6, .int v5_7, .int v5_8, .int v5_9, .int v5_10, .ref qf5_11, .int v5_12, .ref qf5_13])), (qf5_5, .inl (cf5_5, 256, .inl f5_5)), (qf5_0, .inl (cf5_0, nb, .inl f5_0)), (qf8, .inl (cf8, 256, .inl f8)), (qf15, .inl (cf15, 30, .inl g906_0)), (qf1, .inr (4, [.ref qf1_0, .ref qf1_1])), (qf1_1, .inl (cf1_1, 256, .inl f1_1)), (qf11, .inl (cf11, 1799, .inl f11)), (qf10, .inl (cf10, 256, .inl f10))]) [8, 0, 1, 2, 3, 9, 4, 5, 6, 7] rfl
          have hD9 := hD.sub (ws' := [(h0, .inr (11, [.ref qf0, .ref qf1, .int v2, .int v3, .int v4, .ref qf5, .int v6, .int v7, .ref qf8, .ref qf9, .ref qf10, .ref qf11, .ref qf12, .ref qf13, .ref qf14, .ref qf15, .int v16, .int v17, .int u6_1, .int u6_2, .int v20])), (qf5, .inr (3, [.ref qf5_0, .int v5_1, .int v5_2, .int v5_3, .ref qf5_4, .ref qf5_5, .ref qf5_6, .int v5_7, .int v5_8, .int v5_9, .int v5_10, .ref qf5_11, .int v5_12, .ref qf5_13])), (qf5_5, .inl (cf5_5, 256, .inl f5_5)), (qf5_0, .inl (cf5_0, nb, .inl f5_0)), (qf8, .inl (cf8, 256, .inl f8)), (qf15, .inl (cf15, 30, .inl g906_0)), (qf1, .inr (4, [.ref qf1_0, .ref qf1_1])), (qf1_1, .inl (cf1_1, 256, .inl f1_1)), (qf11, .inl (cf11, 1799, .inl f11)), (qf10, .inl (cf10, 256, .inl f10))]) [8, 0, 1, 2, 3, 9, 4, 5, 6, 7] (by decide) rfl
          have hK9 := hK.sub (tys' := [(cf5_5, .int), (cf5_0, .byte), (cf8, .int), (cf15, .int), (cf1_1, .boolean), (cf11, .int), (cf10, .int)]) [0, 1, 2, 6, 3, 4, 5] rfl
          exact W.vret hx hb hr (fun t ht hW => ⟨⟨(), rfl, trivial, by rw [ht]; exact hP9, va_K.moved hW.alike hK9, hD9⟩, hS.F ht⟩) hS.2.2 dX11_applyMember_155
      · rw [if_pos c_9] at hsp
        refine lv_aload_n hx hb dX11_applyMember_126 rfl (lv_at hl 3 rfl) ?_
        refine lv_iload_n hx hb dX11_applyMember_127 rfl (lv_at hl 2 rfl) ?_
        obtain ⟨⟨u7_0, u7_1⟩, hu_7, hsp⟩ := ox_bind hsp
        try dsimp only at hsp
        have hPc := hP.sub (ws' := [(h0, .inr (11, [.ref qf0, .ref qf1, .int v2, .int v3, .int v4, .ref qf5, .int v6, .int v7, .ref qf8, .ref qf9, .ref qf10, .ref qf11, .ref qf12, .ref qf13, .ref qf14, .ref qf15, .int v16, .int v17, .int x18_94, .int x19_94, .int v20])), (qf15, .inl (cf15, 30, .inl g15_94)), (qf1, .inr (4, [.ref qf1_0, .ref qf1_1])), (qf1_1, .inl (cf1_1, 256, .inl f1_1))]) [0, 5, 6, 7] rfl
        have hDc := hD.sub (ws' := [(h0, .inr (11, [.ref qf0, .ref qf1, .int v2, .int v3, .int v4, .ref qf5, .int v6, .int v7, .ref qf8, .ref qf9, .ref qf10, .ref qf11, .ref qf12, .ref qf13, .ref qf14, .ref qf15, .int v16, .int v17, .int x18_94, .int x19_94, .int v20])), (qf15, .inl (cf15, 30, .inl g15_94)), (qf1, .inr (4, [.ref qf1_0, .ref qf1_1])), (qf1_1, .inl (cf1_1, 256, .inl f1_1))]) [0, 5, 6, 7] (by decide) rfl
        have hKc := hK.sub (tys' := [(cf15, .int), (cf1_1, .boolean)]) [3, 4] rfl
        have hFc := va_free (wc := [(h0, .inr (11, [.ref qf0, .ref qf1, .int v2, .int v3, .int v4, .ref qf5, .int v6, .int v7, .ref qf8, .ref qf9, .ref qf10, .ref qf11, .ref qf12, .ref qf13, .ref qf14, .ref qf15, .int v16, .int v17, .int x18_94, .int x19_94, .int v20])), (qf15, .inl (cf15, 30, .inl g15_94)), (qf1, .inr (4, [.ref qf1_0, .ref qf1_1])), (qf1_1, .inl (cf1_1, 256, .inl f1_1))]) hD hS hA [0, 5, 6, 7] rfl
        refine va_callv (va_runV (As := [.int l3_94]) (rest := []) ⟨hx, hb, hml, hown, hts⟩ (t11_want l dC dI H.size h0 l3_94 qf0 qf1 v2 v3 v4 qf5 v6 v7 qf8 qf9 qf10 qf11 qf12 qf13 qf14 qf15 v16 v17 x18_94 x19_94 v20 cf15 g15_94 qf1_0 qf1_1 cf1_1 f1_1 nf u7_0 u7_1 hu_7) (cwV 1 hts gv_h3_54 rfl rfl rfl (by decide +kernel) ⟨Nat.le_of_ble_eq_true rfl, Nat.le_of_ble_eq_true rfl⟩) ⟨fun a U g mk q => by obtain ⟨q0, q1, qP, qK, qD⟩ := q; exact ⟨q0, q1, qP, va_K.moved (u := U) (U := U.calling g mk a) (Vm.Alike.refl U.vm) qK, qD⟩, va_recv hKc hPc (ci := 11) (q0 := 0) rfl rfl, fun U hU hW => ⟨rfl, by rw [hU], by rw [hU]; exact hPc, va_K.moved hW.alike hKc, hDc.weaken (fun _ _ _ _ => trivial)⟩⟩ rfl rfl hl.1 rfl (lv_room (Nat.le_of_ble_eq_true rfl)) dX11_applyMember_128 ⟨Nat.le_of_ble_eq_true rfl, Nat.le_of_ble_eq_true rfl⟩) hS (fun q _ h => hFc q h) hFc ?_
        clear hS
        intro u t H1 locs ht hvm hw hB hz1 hk1 hS
        obtain ⟨⟩ := u
        obtain ⟨hP1, hK1, hD1⟩ := hB
        rw [ht] at hP1
        have hK1 := va_K.moved hvm.symm hK1
        try dsimp only at hw
        have hPD := va_join (wr := [(qf5, .inr (3, [.ref qf5_0, .int v5_1, .int v5_2, .int v5_3, .ref qf5_4, .ref qf5_5, .ref qf5_6, .int v5_7, .int v5_8, .int v5_9, .int v5_10, .ref qf5_11, .int v5_12, .ref qf5_13])), (qf5_5, .inl (cf5_5, 256, .inl f5_5)), (qf5_0, .inl (cf5_0, nb, .inl f5_0)), (qf8, .inl (cf8, 256, .inl f8)), (qf11, .inl (cf11, 1799, .inl f11)), (qf10, .inl (cf10, 256, .inl f10))]) (w1 := [(h0, .inr (11, [.ref qf0, .ref qf1, .int v2, .int v3, .int v4, .ref qf5, .int v6, .int v7, .ref qf8, .ref qf9, .ref qf10, .ref qf11, .ref qf12, .ref qf13, .ref qf14, .ref qf15, .int v16, .int v17, .int u7_0, .int u7_1, .int v20])), (qf15, .inl (cf15, 30, .inl g15_94)), (qf1, .inr (4, [.ref qf1_0, .ref qf1_1])), (qf1_1, .inl (cf1_1, 256, .inl f1_1))]) hP hD [0, 5, 6, 7] [1, 2, 3, 4, 8, 9] rfl rfl (by decide) (by decide) hk1 hFc hP1 hD1
        clear hP hD
        obtain ⟨hP, hD⟩ := hPD
        replace hK := (hK.sub (tys' := [(cf5_5, .int), (cf5_0, .byte), (cf8, .int), (cf11, .int), (cf10, .int)]) [0, 1, 2, 5, 6] rfl).app hK1
        clear hPc hDc hKc hFc hP1 hK1 hD1 hz1 hk1 ht hvm
        generalize H1 = H at hP hS ⊢
        replace hP : va_P (dC, dI) vwCl [(qf5, .inr (3, [.ref qf5_0, .int v5_1, .int v5_2, .int v5_3, .ref qf5_4, .ref qf5_5, .ref qf5_6, .int v5_7, .int v5_8, .int v5_9, .int v5_10, .ref qf5_11, .int v5_12, .ref qf5_13])), (qf5_5, .inl (cf5_5, 256, .inl f5_5)), (qf5_0, .inl (cf5_0, nb, .inl f5_0)), (qf8, .inl (cf8, 256, .inl f8)), (qf11, .inl (cf11, 1799, .inl f11)), (qf10, .inl (cf10, 256, .inl f10)), (h0, .inr (11, [.ref qf0, .ref qf1, .int v2, .int v3, .int v4, .ref qf5, .int v6, .int v7, .ref qf8, .ref qf9, .ref qf10, .ref qf11, .ref qf12, .ref qf13, .ref qf14, .ref qf15, .int v16, .int v17, .int u7_0, .int u7_1, .int v20])), (qf15, .inl (cf15, 30, .inl g15_94)), (qf1, .inr (4, [.ref qf1_0, .ref qf1_1])), (qf1_1, .inl (cf1_1, 256, .inl f1_1))] H := hP
        replace hD : va_D A [(qf5, .inr (3, [.ref qf5_0, .int v5_1, .int v5_2, .int v5_3, .ref qf5_4, .ref qf5_5, .ref qf5_6, .int v5_7, .int v5_8, .int v5_9, .int v5_10, .ref qf5_11, .int v5_12, .ref qf5_13])), (qf5_5, .inl (cf5_5, 256, .inl f5_5)), (qf5_0, .inl (cf5_0, nb, .inl f5_0)), (qf8, .inl (cf8, 256, .inl f8)), (qf11, .inl (cf11, 1799, .inl f11)), (qf10, .inl (cf10, 256, .inl f10)), (h0, .inr (11, [.ref qf0, .ref qf1, .int v2, .int v3, .int v4, .ref qf5, .int v6, .int v7, .ref qf8, .ref qf9, .ref qf10, .ref qf11, .ref qf12, .ref qf13, .ref qf14, .ref qf15, .int v16, .int v17, .int u7_0, .int u7_1, .int v20])), (qf15, .inl (cf15, 30, .inl g15_94)), (qf1, .inr (4, [.ref qf1_0, .ref qf1_1])), (qf1_1, .inl (cf1_1, 256, .inl f1_1))] := hD
        replace hK : va_K (dC, dI) vwCl [(cf5_5, .int), (cf5_0, .byte), (cf8, .int), (cf11, .int), (cf10, .int), (cf15, .int), (cf1_1, .boolean)] s := hK
        refine lv_aload_n hx hb dX11_applyMember_131 rfl (lv_at hl 3 rfl) ?_
        refine va_get (D := (dC, dI)) (ci := 11) (v := .ref qf11) (C := RX11) (T := TX11) (N := 21) hx hb hts uV_h3_X11 hown hK hP 6 rfl rfl 11 (by decide) (hts (.fieldLink RX11 33 "ClassMill$Verifier" "memberTypes" "[I") mw_h3_250) (fun _ h9 => h9) rfl dX11_applyMember_132 ?_
        refine lv_iload hx hb dX11_applyMember_135 (lv_at hl 1 rfl) ?_
        obtain ⟨hi_13, hsp⟩ := ox_in hsp
        refine va_iald hx hb hK hP 4 3 rfl rfl (i := l4_94) hi_13 dX11_applyMember_137 ?_
        refine lv_sipush (v := 303) hx hb dX11_applyMember_138 (by decide) ?_
        refine lv_icmp_eq (tgt := 155) hx hb dX11_applyMember_141 (by decide) (fun c_14 => ?_) (fun c_14 => ?_)
        · rw [if_pos c_14] at hsp
          have hr0 := Option.some.inj hsp
          clear hsp
          obtain ⟨hq0, hr1⟩ := Prod.mk.inj hr0
          clear hr0
          obtain ⟨hq1, hr2⟩ := Prod.mk.inj hr1
          clear hr1
          subst hq0
          subst hq1
          subst hr2
          have hP9 := hP.sub (ws' := [(h0, .inr (11, [.ref qf0, .ref qf1, .int v2, .int v3, .int v4, .ref qf5, .int v6, .int v7, .ref qf8, .ref qf9, .ref qf10, .ref qf11, .ref qf12, .ref qf13, .ref qf14, .ref qf15, .int v16, .int v17, .int u7_0, .int u7_1, .int v20])), (qf5, .inr (3, [.ref qf5_0, .int v5_1, .int v5_2, .int v5_3, .ref qf5_4, .ref qf5_5, .ref qf5_6, .int v5_7, .int v5_8, .int v5_9, .int v5_10, .ref qf5_11, .int v5_12, .ref qf5_13])), (qf5_5, .inl (cf5_5, 256, .inl f5_5)), (qf5_0, .inl (cf5_0, nb, .inl f5_0)), (qf8, .inl (cf8, 256, .inl f8)), (qf15, .inl (cf15, 30, .inl g15_94)), (qf1, .inr (4, [.ref qf1_0, .ref qf1_1])), (qf1_1, .inl (cf1_1, 256, .inl f1_1)), (qf11, .inl (cf11, 1799, .inl f11)), (qf10, .inl (cf10, 256, .inl f10))]) [6, 0, 1, 2, 3, 7, 8, 9, 4, 5] rfl
          have hD9 := hD.sub (ws' := [(h0, .inr (11, [.ref qf0, .ref qf1, .int v2, .int v3, .int v4, .ref qf5, .int v6, .int v7, .ref qf8, .ref qf9, .ref qf10, .ref qf11, .ref qf12, .ref qf13, .ref qf14, .ref qf15, .int v16, .int v17, .int u7_0, .int u7_1, .int v20])), (qf5, .inr (3, [.ref qf5_0, .int v5_1, .int v5_2, .int v5_3, .ref qf5_4, .ref qf5_5, .ref qf5_6, .int v5_7, .int v5_8, .int v5_9, .int v5_10, .ref qf5_11, .int v5_12, .ref qf5_13])), (qf5_5, .inl (cf5_5, 256, .inl f5_5)), (qf5_0, .inl (cf5_0, nb, .inl f5_0)), (qf8, .inl (cf8, 256, .inl f8)), (qf15, .inl (cf15, 30, .inl g15_94)), (qf1, .inr (4, [.ref qf1_0, .ref qf1_1])), (qf1_1, .inl (cf1_1, 256, .inl f1_1)), (qf11, .inl (cf11, 1799, .inl f11)), (qf10, .inl (cf10, 256, .inl f10))]) [6, 0, 1, 2, 3, 7, 8, 9, 4, 5] (by decide) rfl
          have hK9 := hK.sub (tys' := [(cf5_5, .int), (cf5_0, .byte), (cf8, .int), (cf15, .int), (cf1_1, .boolean), (cf11, .int), (cf10, .int)]) [0, 1, 2, 5, 6, 3, 4] rfl
          exact W.vret hx hb hr (fun t ht hW => ⟨⟨(), rfl, trivial, by rw [ht]; exact hP9, va_K.moved hW.alike hK9, hD9⟩, hS.F ht⟩) hS.2.2 dX11_applyMember_155
        · rw [if_neg c_14] at hsp
          refine lv_aload_n hx hb dX11_applyMember_144 rfl (lv_at hl 3 rfl) ?_
          refine lv_aload_n hx hb dX11_applyMember_145 rfl (lv_at hl 3 rfl) ?_
          refine va_get (D := (dC, dI)) (ci := 11) (v := .ref qf11) (C := RX11) (T := TX11) (N := 21) hx hb hts uV_h3_X11 hown hK hP 6 rfl rfl 11 (by decide) (hts (.fieldLink RX11 33 "ClassMill$Verifier" "memberTypes" "[I") mw_h3_250) (fun _ h9 => h9) rfl dX11_applyMember_146 ?_
          refine lv_iload hx hb dX11_applyMember_149 (lv_at hl 1 rfl) ?_
          obtain ⟨hi_15, hsp⟩ := ox_in hsp
          refine va_iald hx hb hK hP 4 3 rfl rfl (i := l4_94) hi_15 dX11_applyMember_151 ?_
          obtain ⟨⟨g908_0, u8_1, u8_2⟩, hu_8, hsp⟩ := ox_bind hsp
          try dsimp only at hsp
          have hPc := hP.sub (ws' := [(h0, .inr (11, [.ref qf0, .ref qf1, .int v2, .int v3, .int v4, .ref qf5, .int v6, .int v7, .ref qf8, .ref qf9, .ref qf10, .ref qf11, .ref qf12, .ref qf13, .ref qf14, .ref qf15, .int v16, .int v17, .int u7_0, .int u7_1, .int v20])), (qf15, .inl (cf15, 30, .inl g15_94))]) [6, 7] rfl
          have hDc := hD.sub (ws' := [(h0, .inr (11, [.ref qf0, .ref qf1, .int v2, .int v3, .int v4, .ref qf5, .int v6, .int v7, .ref qf8, .ref qf9, .ref qf10, .ref qf11, .ref qf12, .ref qf13, .ref qf14, .ref qf15, .int v16, .int v17, .int u7_0, .int u7_1, .int v20])), (qf15, .inl (cf15, 30, .inl g15_94))]) [6, 7] (by decide) rfl
          have hKc := hK.sub (tys' := [(cf15, .int)]) [5] rfl
          have hFc := va_free (wc := [(h0, .inr (11, [.ref qf0, .ref qf1, .int v2, .int v3, .int v4, .ref qf5, .int v6, .int v7, .ref qf8, .ref qf9, .ref qf10, .ref qf11, .ref qf12, .ref qf13, .ref qf14, .ref qf15, .int v16, .int v17, .int u7_0, .int u7_1, .int v20])), (qf15, .inl (cf15, 30, .inl g15_94))]) hD hS hA [6, 7] rfl
          refine va_callv (va_runV (As := [.int (f11 (l4_94 : Int32).toNatClampNeg)]) (rest := []) ⟨hx, hb, hml, hown, hts⟩ (t11_push l dC dI H.size h0 ((f11 (l4_94 : Int32).toNatClampNeg)) qf0 qf1 v2 v3 v4 qf5 v6 v7 qf8 qf9 qf10 qf11 qf12 qf13 qf14 qf15 v16 v17 u7_0 u7_1 v20 cf15 g15_94 nf g908_0 u8_1 u8_2 hu_8) (cwV 1 hts gv_h3_52 rfl rfl rfl (by decide +kernel) ⟨Nat.le_of_ble_eq_true rfl, Nat.le_of_ble_eq_true rfl⟩) ⟨fun a U g mk q => by obtain ⟨q0, q1, qP, qK, qD⟩ := q; exact ⟨q0, q1, qP, va_K.moved (u := U) (U := U.calling g mk a) (Vm.Alike.refl U.vm) qK, qD⟩, va_recv hKc hPc (ci := 11) (q0 := 0) rfl rfl, fun U hU hW => ⟨rfl, by rw [hU], by rw [hU]; exact hPc, va_K.moved hW.alike hKc, hDc.weaken (fun _ _ _ _ => trivial)⟩⟩ rfl rfl hl.1 rfl (lv_room (Nat.le_of_ble_eq_true rfl)) dX11_applyMember_152 ⟨Nat.le_of_ble_eq_true rfl, Nat.le_of_ble_eq_true rfl⟩) hS (fun q _ h => hFc q h) hFc ?_
          clear hS
          intro u t H1 locs ht hvm hw hB hz1 hk1 hS
          obtain ⟨⟩ := u
          obtain ⟨hP1, hK1, hD1⟩ := hB
          rw [ht] at hP1
          have hK1 := va_K.moved hvm.symm hK1
          try dsimp only at hw
          have hPD := va_join (wr := [(qf5, .inr (3, [.ref qf5_0, .int v5_1, .int v5_2, .int v5_3, .ref qf5_4, .ref qf5_5, .ref qf5_6, .int v5_7, .int v5_8, .int v5_9, .int v5_10, .ref qf5_11, .int v5_12, .ref qf5_13])), (qf5_5, .inl (cf5_5, 256, .inl f5_5)), (qf5_0, .inl (cf5_0, nb, .inl f5_0)), (qf8, .inl (cf8, 256, .inl f8)), (qf11, .inl (cf11, 1799, .inl f11)), (qf10, .inl (cf10, 256, .inl f10)), (qf1, .inr (4, [.ref qf1_0, .ref qf1_1])), (qf1_1, .inl (cf1_1, 256, .inl f1_1))]) (w1 := [(h0, .inr (11, [.ref qf0, .ref qf1, .int v2, .int v3, .int v4, .ref qf5, .int v6, .int v7, .ref qf8, .ref qf9, .ref qf10, .ref qf11, .ref qf12, .ref qf13, .ref qf14, .ref qf15, .int v16, .int v17, .int u8_1, .int u8_2, .int v20])), (qf15, .inl (cf15, 30, .inl g908_0))]) hP hD [6, 7] [0, 1, 2, 3, 4, 5, 8, 9] rfl rfl (by decide) (by decide) hk1 hFc hP1 hD1
          clear hP hD
          obtain ⟨hP, hD⟩ := hPD
          replace hK := (hK.sub (tys' := [(cf5_5, .int), (cf5_0, .byte), (cf8, .int), (cf11, .int), (cf10, .int), (cf1_1, .boolean)]) [0, 1, 2, 3, 4, 6] rfl).app hK1
          clear hPc hDc hKc hFc hP1 hK1 hD1 hz1 hk1 ht hvm
          generalize H1 = H at hP hS ⊢
          replace hP : va_P (dC, dI) vwCl [(qf5, .inr (3, [.ref qf5_0, .int v5_1, .int v5_2, .int v5_3, .ref qf5_4, .ref qf5_5, .ref qf5_6, .int v5_7, .int v5_8, .int v5_9, .int v5_10, .ref qf5_11, .int v5_12, .ref qf5_13])), (qf5_5, .inl (cf5_5, 256, .inl f5_5)), (qf5_0, .inl (cf5_0, nb, .inl f5_0)), (qf8, .inl (cf8, 256, .inl f8)), (qf11, .inl (cf11, 1799, .inl f11)), (qf10, .inl (cf10, 256, .inl f10)), (qf1, .inr (4, [.ref qf1_0, .ref qf1_1])), (qf1_1, .inl (cf1_1, 256, .inl f1_1)), (h0, .inr (11, [.ref qf0, .ref qf1, .int v2, .int v3, .int v4, .ref qf5, .int v6, .int v7, .ref qf8, .ref qf9, .ref qf10, .ref qf11, .ref qf12, .ref qf13, .ref qf14, .ref qf15, .int v16, .int v17, .int u8_1, .int u8_2, .int v20])), (qf15, .inl (cf15, 30, .inl g908_0))] H := hP
          replace hD : va_D A [(qf5, .inr (3, [.ref qf5_0, .int v5_1, .int v5_2, .int v5_3, .ref qf5_4, .ref qf5_5, .ref qf5_6, .int v5_7, .int v5_8, .int v5_9, .int v5_10, .ref qf5_11, .int v5_12, .ref qf5_13])), (qf5_5, .inl (cf5_5, 256, .inl f5_5)), (qf5_0, .inl (cf5_0, nb, .inl f5_0)), (qf8, .inl (cf8, 256, .inl f8)), (qf11, .inl (cf11, 1799, .inl f11)), (qf10, .inl (cf10, 256, .inl f10)), (qf1, .inr (4, [.ref qf1_0, .ref qf1_1])), (qf1_1, .inl (cf1_1, 256, .inl f1_1)), (h0, .inr (11, [.ref qf0, .ref qf1, .int v2, .int v3, .int v4, .ref qf5, .int v6, .int v7, .ref qf8, .ref qf9, .ref qf10, .ref qf11, .ref qf12, .ref qf13, .ref qf14, .ref qf15, .int v16, .int v17, .int u8_1, .int u8_2, .int v20])), (qf15, .inl (cf15, 30, .inl g908_0))] := hD
          replace hK : va_K (dC, dI) vwCl [(cf5_5, .int), (cf5_0, .byte), (cf8, .int), (cf11, .int), (cf10, .int), (cf1_1, .boolean), (cf15, .int)] s := hK
          have hr0 := Option.some.inj hsp
          clear hsp
          obtain ⟨hq0, hr1⟩ := Prod.mk.inj hr0
          clear hr0
          obtain ⟨hq1, hr2⟩ := Prod.mk.inj hr1
          clear hr1
          subst hq0
          subst hq1
          subst hr2
          have hP9 := hP.sub (ws' := [(h0, .inr (11, [.ref qf0, .ref qf1, .int v2, .int v3, .int v4, .ref qf5, .int v6, .int v7, .ref qf8, .ref qf9, .ref qf10, .ref qf11, .ref qf12, .ref qf13, .ref qf14, .ref qf15, .int v16, .int v17, .int u8_1, .int u8_2, .int v20])), (qf5, .inr (3, [.ref qf5_0, .int v5_1, .int v5_2, .int v5_3, .ref qf5_4, .ref qf5_5, .ref qf5_6, .int v5_7, .int v5_8, .int v5_9, .int v5_10, .ref qf5_11, .int v5_12, .ref qf5_13])), (qf5_5, .inl (cf5_5, 256, .inl f5_5)), (qf5_0, .inl (cf5_0, nb, .inl f5_0)), (qf8, .inl (cf8, 256, .inl f8)), (qf15, .inl (cf15, 30, .inl g908_0)), (qf1, .inr (4, [.ref qf1_0, .ref qf1_1])), (qf1_1, .inl (cf1_1, 256, .inl f1_1)), (qf11, .inl (cf11, 1799, .inl f11)), (qf10, .inl (cf10, 256, .inl f10))]) [8, 0, 1, 2, 3, 9, 6, 7, 4, 5] rfl
          have hD9 := hD.sub (ws' := [(h0, .inr (11, [.ref qf0, .ref qf1, .int v2, .int v3, .int v4, .ref qf5, .int v6, .int v7, .ref qf8, .ref qf9, .ref qf10, .ref qf11, .ref qf12, .ref qf13, .ref qf14, .ref qf15, .int v16, .int v17, .int u8_1, .int u8_2, .int v20])), (qf5, .inr (3, [.ref qf5_0, .int v5_1, .int v5_2, .int v5_3, .ref qf5_4, .ref qf5_5, .ref qf5_6, .int v5_7, .int v5_8, .int v5_9, .int v5_10, .ref qf5_11, .int v5_12, .ref qf5_13])), (qf5_5, .inl (cf5_5, 256, .inl f5_5)), (qf5_0, .inl (cf5_0, nb, .inl f5_0)), (qf8, .inl (cf8, 256, .inl f8)), (qf15, .inl (cf15, 30, .inl g908_0)), (qf1, .inr (4, [.ref qf1_0, .ref qf1_1])), (qf1_1, .inl (cf1_1, 256, .inl f1_1)), (qf11, .inl (cf11, 1799, .inl f11)), (qf10, .inl (cf10, 256, .inl f10))]) [8, 0, 1, 2, 3, 9, 6, 7, 4, 5] (by decide) rfl
          have hK9 := hK.sub (tys' := [(cf5_5, .int), (cf5_0, .byte), (cf8, .int), (cf15, .int), (cf1_1, .boolean), (cf11, .int), (cf10, .int)]) [0, 1, 2, 6, 5, 3, 4] rfl
          exact W.vret hx hb hr (fun t ht hW => ⟨⟨(), rfl, trivial, by rw [ht]; exact hP9, va_K.moved hW.alike hK9, hD9⟩, hS.F ht⟩) hS.2.2 dX11_applyMember_155
    · rw [if_neg c_8] at hsp
      refine lv_aload_n hx hb dX11_applyMember_99 rfl (lv_at hl 3 rfl) ?_
      refine lv_aload_n hx hb dX11_applyMember_100 rfl (lv_at hl 3 rfl) ?_
      refine va_get (D := (dC, dI)) (ci := 11) (v := .ref qf11) (C := RX11) (T := TX11) (N := 21) hx hb hts uV_h3_X11 hown hK hP 0 rfl rfl 11 (by decide) (hts (.fieldLink RX11 33 "ClassMill$Verifier" "memberTypes" "[I") mw_h3_250) (fun _ h9 => h9) rfl dX11_applyMember_101 ?_
      refine lv_iload hx hb dX11_applyMember_104 (lv_at hl 1 rfl) ?_
      refine lv_iload hx hb dX11_applyMember_106 (lv_at hl 0 rfl) ?_
      refine lv_iadd hx hb dX11_applyMember_108 ?_
      obtain ⟨hi_16, hsp⟩ := ox_in hsp
      refine va_iald hx hb hK hP 8 5 rfl rfl (i := (l4_94 + l5_94)) hi_16 dX11_applyMember_109 ?_
      obtain ⟨⟨u9_0, u9_1⟩, hu_9, hsp⟩ := ox_bind hsp
      try dsimp only at hsp
      have hPc := hP.sub (ws' := [(h0, .inr (11, [.ref qf0, .ref qf1, .int v2, .int v3, .int v4, .ref qf5, .int v6, .int v7, .ref qf8, .ref qf9, .ref qf10, .ref qf11, .ref qf12, .ref qf13, .ref qf14, .ref qf15, .int v16, .int v17, .int x18_94, .int x19_94, .int v20])), (qf15, .inl (cf15, 30, .inl g15_94)), (qf1, .inr (4, [.ref qf1_0, .ref qf1_1])), (qf1_1, .inl (cf1_1, 256, .inl f1_1))]) [0, 5, 6, 7] rfl
      have hDc := hD.sub (ws' := [(h0, .inr (11, [.ref qf0, .ref qf1, .int v2, .int v3, .int v4, .ref qf5, .int v6, .int v7, .ref qf8, .ref qf9, .ref qf10, .ref qf11, .ref qf12, .ref qf13, .ref qf14, .ref qf15, .int v16, .int v17, .int x18_94, .int x19_94, .int v20])), (qf15, .inl (cf15, 30, .inl g15_94)), (qf1, .inr (4, [.ref qf1_0, .ref qf1_1])), (qf1_1, .inl (cf1_1, 256, .inl f1_1))]) [0, 5, 6, 7] (by decide) rfl
      have hKc := hK.sub (tys' := [(cf15, .int), (cf1_1, .boolean)]) [3, 4] rfl
      have hFc := va_free (wc := [(h0, .inr (11, [.ref qf0, .ref qf1, .int v2, .int v3, .int v4, .ref qf5, .int v6, .int v7, .ref qf8, .ref qf9, .ref qf10, .ref qf11, .ref qf12, .ref qf13, .ref qf14, .ref qf15, .int v16, .int v17, .int x18_94, .int x19_94, .int v20])), (qf15, .inl (cf15, 30, .inl g15_94)), (qf1, .inr (4, [.ref qf1_0, .ref qf1_1])), (qf1_1, .inl (cf1_1, 256, .inl f1_1))]) hD hS hA [0, 5, 6, 7] rfl
      refine va_callv (va_runV (As := [.int (f11 ((l4_94 + l5_94) : Int32).toNatClampNeg)]) (rest := []) ⟨hx, hb, hml, hown, hts⟩ (t11_want l dC dI H.size h0 ((f11 ((l4_94 + l5_94) : Int32).toNatClampNeg)) qf0 qf1 v2 v3 v4 qf5 v6 v7 qf8 qf9 qf10 qf11 qf12 qf13 qf14 qf15 v16 v17 x18_94 x19_94 v20 cf15 g15_94 qf1_0 qf1_1 cf1_1 f1_1 nf u9_0 u9_1 hu_9) (cwV 1 hts gv_h3_54 rfl rfl rfl (by decide +kernel) ⟨Nat.le_of_ble_eq_true rfl, Nat.le_of_ble_eq_true rfl⟩) ⟨fun a U g mk q => by obtain ⟨q0, q1, qP, qK, qD⟩ := q; exact ⟨q0, q1, qP, va_K.moved (u := U) (U := U.calling g mk a) (Vm.Alike.refl U.vm) qK, qD⟩, va_recv hKc hPc (ci := 11) (q0 := 0) rfl rfl, fun U hU hW => ⟨rfl, by rw [hU], by rw [hU]; exact hPc, va_K.moved hW.alike hKc, hDc.weaken (fun _ _ _ _ => trivial)⟩⟩ rfl rfl hl.1 rfl (lv_room (Nat.le_of_ble_eq_true rfl)) dX11_applyMember_110 ⟨Nat.le_of_ble_eq_true rfl, Nat.le_of_ble_eq_true rfl⟩) hS (fun q _ h => hFc q h) hFc ?_
      clear hS
      intro u t H1 locs ht hvm hw hB hz1 hk1 hS
      obtain ⟨⟩ := u
      obtain ⟨hP1, hK1, hD1⟩ := hB
      rw [ht] at hP1
      have hK1 := va_K.moved hvm.symm hK1
      try dsimp only at hw
      have hPD := va_join (wr := [(qf5, .inr (3, [.ref qf5_0, .int v5_1, .int v5_2, .int v5_3, .ref qf5_4, .ref qf5_5, .ref qf5_6, .int v5_7, .int v5_8, .int v5_9, .int v5_10, .ref qf5_11, .int v5_12, .ref qf5_13])), (qf5_5, .inl (cf5_5, 256, .inl f5_5)), (qf5_0, .inl (cf5_0, nb, .inl f5_0)), (qf8, .inl (cf8, 256, .inl f8)), (qf11, .inl (cf11, 1799, .inl f11)), (qf10, .inl (cf10, 256, .inl f10))]) (w1 := [(h0, .inr (11, [.ref qf0, .ref qf1, .int v2, .int v3, .int v4, .ref qf5, .int v6, .int v7, .ref qf8, .ref qf9, .ref qf10, .ref qf11, .ref qf12, .ref qf13, .ref qf14, .ref qf15, .int v16, .int v17, .int u9_0, .int u9_1, .int v20])), (qf15, .inl (cf15, 30, .inl g15_94)), (qf1, .inr (4, [.ref qf1_0, .ref qf1_1])), (qf1_1, .inl (cf1_1, 256, .inl f1_1))]) hP hD [0, 5, 6, 7] [1, 2, 3, 4, 8, 9] rfl rfl (by decide) (by decide) hk1 hFc hP1 hD1
      clear hP hD
      obtain ⟨hP, hD⟩ := hPD
      replace hK := (hK.sub (tys' := [(cf5_5, .int), (cf5_0, .byte), (cf8, .int), (cf11, .int), (cf10, .int)]) [0, 1, 2, 5, 6] rfl).app hK1
      clear hPc hDc hKc hFc hP1 hK1 hD1 hz1 hk1 ht hvm
      generalize H1 = H at hP hS ⊢
      replace hP : va_P (dC, dI) vwCl [(qf5, .inr (3, [.ref qf5_0, .int v5_1, .int v5_2, .int v5_3, .ref qf5_4, .ref qf5_5, .ref qf5_6, .int v5_7, .int v5_8, .int v5_9, .int v5_10, .ref qf5_11, .int v5_12, .ref qf5_13])), (qf5_5, .inl (cf5_5, 256, .inl f5_5)), (qf5_0, .inl (cf5_0, nb, .inl f5_0)), (qf8, .inl (cf8, 256, .inl f8)), (qf11, .inl (cf11, 1799, .inl f11)), (qf10, .inl (cf10, 256, .inl f10)), (h0, .inr (11, [.ref qf0, .ref qf1, .int v2, .int v3, .int v4, .ref qf5, .int v6, .int v7, .ref qf8, .ref qf9, .ref qf10, .ref qf11, .ref qf12, .ref qf13, .ref qf14, .ref qf15, .int v16, .int v17, .int u9_0, .int u9_1, .int v20])), (qf15, .inl (cf15, 30, .inl g15_94)), (qf1, .inr (4, [.ref qf1_0, .ref qf1_1])), (qf1_1, .inl (cf1_1, 256, .inl f1_1))] H := hP
      replace hD : va_D A [(qf5, .inr (3, [.ref qf5_0, .int v5_1, .int v5_2, .int v5_3, .ref qf5_4, .ref qf5_5, .ref qf5_6, .int v5_7, .int v5_8, .int v5_9, .int v5_10, .ref qf5_11, .int v5_12, .ref qf5_13])), (qf5_5, .inl (cf5_5, 256, .inl f5_5)), (qf5_0, .inl (cf5_0, nb, .inl f5_0)), (qf8, .inl (cf8, 256, .inl f8)), (qf11, .inl (cf11, 1799, .inl f11)), (qf10, .inl (cf10, 256, .inl f10)), (h0, .inr (11, [.ref qf0, .ref qf1, .int v2, .int v3, .int v4, .ref qf5, .int v6, .int v7, .ref qf8, .ref qf9, .ref qf10, .ref qf11, .ref qf12, .ref qf13, .ref qf14, .ref qf15, .int v16, .int v17, .int u9_0, .int u9_1, .int v20])), (qf15, .inl (cf15, 30, .inl g15_94)), (qf1, .inr (4, [.ref qf1_0, .ref qf1_1])), (qf1_1, .inl (cf1_1, 256, .inl f1_1))] := hD
      replace hK : va_K (dC, dI) vwCl [(cf5_5, .int), (cf5_0, .byte), (cf8, .int), (cf11, .int), (cf10, .int), (cf15, .int), (cf1_1, .boolean)] s := hK
      refine lv_iinc (v := (l5_94 + (-1))) (lv' := [(5, .int (l5_94 + (-1))), (4, .int l4_94), (3, .int l3_94), (0, .ref h0), (1, .int l1_94), (2, .int l2_94)]) hx hb dX11_applyMember_113 hl (k := 0) rfl rfl (by decide) rfl (fun ls hl => ?_)
      refine lv_goto (tgt := 94) hx hb dX11_applyMember_116 (by decide) ?_
      exact ih_94 H locs ls l1_94 l2_94 l3_94 l4_94 (l5_94 + (-1)) g15_94 u9_0 u9_1 (lv_sub hl [0, 1, 2, 3, 4, 5] rfl) hS (hD.sub (ws' := [(h0, .inr (11, [.ref qf0, .ref qf1, .int v2, .int v3, .int v4, .ref qf5, .int v6, .int v7, .ref qf8, .ref qf9, .ref qf10, .ref qf11, .ref qf12, .ref qf13, .ref qf14, .ref qf15, .int v16, .int v17, .int u9_0, .int u9_1, .int v20])), (qf5, .inr (3, [.ref qf5_0, .int v5_1, .int v5_2, .int v5_3, .ref qf5_4, .ref qf5_5, .ref qf5_6, .int v5_7, .int v5_8, .int v5_9, .int v5_10, .ref qf5_11, .int v5_12, .ref qf5_13])), (qf5_5, .inl (cf5_5, 256, .inl f5_5)), (qf5_0, .inl (cf5_0, nb, .inl f5_0)), (qf8, .inl (cf8, 256, .inl f8)), (qf15, .inl (cf15, 30, .inl g15_94)), (qf1, .inr (4, [.ref qf1_0, .ref qf1_1])), (qf1_1, .inl (cf1_1, 256, .inl f1_1)), (qf11, .inl (cf11, 1799, .inl f11)), (qf10, .inl (cf10, 256, .inl f10))]) [6, 0, 1, 2, 3, 7, 8, 9, 4, 5] (by decide) rfl) (hP.sub (ws' := [(h0, .inr (11, [.ref qf0, .ref qf1, .int v2, .int v3, .int v4, .ref qf5, .int v6, .int v7, .ref qf8, .ref qf9, .ref qf10, .ref qf11, .ref qf12, .ref qf13, .ref qf14, .ref qf15, .int v16, .int v17, .int u9_0, .int u9_1, .int v20])), (qf5, .inr (3, [.ref qf5_0, .int v5_1, .int v5_2, .int v5_3, .ref qf5_4, .ref qf5_5, .ref qf5_6, .int v5_7, .int v5_8, .int v5_9, .int v5_10, .ref qf5_11, .int v5_12, .ref qf5_13])), (qf5_5, .inl (cf5_5, 256, .inl f5_5)), (qf5_0, .inl (cf5_0, nb, .inl f5_0)), (qf8, .inl (cf8, 256, .inl f8)), (qf15, .inl (cf15, 30, .inl g15_94)), (qf1, .inr (4, [.ref qf1_0, .ref qf1_1])), (qf1_1, .inl (cf1_1, 256, .inl f1_1)), (qf11, .inl (cf11, 1799, .inl f11)), (qf10, .inl (cf10, 256, .inl f10))]) [6, 0, 1, 2, 3, 7, 8, 9, 4, 5] rfl) hsp
def sp_t11_applyObject (nf : Nat) (a1 : Int32) (a2 : Int32) (v17 : Int32) (v18 : Int32) (v19 : Int32) (f15 : Nat → Int32) (f1_1 : Nat → Int32) (f8 : Nat → Int32) : Option ((Nat → Int32) × Int32 × Int32) := (if a1 = 186 then ((sp_t11_want nf 301 v18 v19 f15 f1_1).bind (fun p1 => (some (f15, p1.1, p1.2)))) else (if a1 = 187 then (if a2 < 0 then none else if 256 ≤ (a2 : Int32).toNatClampNeg then none else ((sp_t11_push nf (f8 (a2 : Int32).toNatClampNeg) v17 v18 v19 f15).bind (fun p2 => (some (p2.1, p2.2.1, p2.2.2))))) else (if a1 = 188 then ((sp_t11_want nf 301 v18 v19 f15 f1_1).bind (fun p3 => ((sp_t11_push nf 200 v17 p3.1 p3.2 f15).bind (fun p4 => (some (p4.1, p4.2.1, p4.2.2)))))) else (if a1 = 189 then ((sp_t11_want nf 301 v18 v19 f15 f1_1).bind (fun p5 => (if a2 < 0 then none else if 256 ≤ (a2 : Int32).toNatClampNeg then none else ((sp_t11_push nf (100 + (f8 (a2 : Int32).toNatClampNeg)) v17 p5.1 p5.2 f15).bind (fun p6 => (some (p6.1, p6.2.1, p6.2.2))))))) else (if a1 = 190 then ((sp_t11_wantArray nf 1 1 v18 v19 f15).bind (fun p7 => ((sp_t11_push nf 301 v17 p7.2.1 p7.2.2 f15).bind (fun p8 => (some (p8.1, p8.2.1, p8.2.2)))))) else (if a1 = 191 then ((sp_t11_want nf 1 v18 v19 f15 f1_1).bind (fun p9 => (some (f15, p9.1, p9.2)))) else (if a1 = 192 then ((sp_t11_wantReference nf v18 v19 f15).bind (fun p10 => (if a2 < 0 then none else if 256 ≤ (a2 : Int32).toNatClampNeg then none else ((sp_t11_push nf (f8 (a2 : Int32).toNatClampNeg) v17 p10.2.1 p10.2.2 f15).bind (fun p11 => (some (p11.1, p11.2.1, p11.2.2))))))) else ((sp_t11_wantReference nf v18 v19 f15).bind (fun p12 => ((sp_t11_push nf 301 v17 p12.2.1 p12.2.2 f15).bind (fun p13 => (some (p13.1, p13.2.1, p13.2.2)))))))))))))
