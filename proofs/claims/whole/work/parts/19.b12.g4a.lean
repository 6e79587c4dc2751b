set_option maxHeartbeats 4000000 in
set_option maxRecDepth 100000 in
/-- ClassMill$Verifier.takeFrame -/
theorem v11_takeFrame (l : Launch) (dC : Nat → ClassId) (dI : Nat → Nat → Nat) (sz : Nat) (h0 : Nat) (a1 : Int32) (qf0 : Nat) (qf1 : Nat) (v2 : Int32) (v3 : Int32) (v4 : Int32) (qf5 : Nat) (v6 : Int32) (v7 : Int32) (qf8 : Nat) (qf9 : Nat) (qf10 : Nat) (qf11 : Nat) (qf12 : Nat) (qf13 : Nat) (qf14 : Nat) (qf15 : Nat) (v16 : Int32) (v17 : Int32) (v18 : Int32) (v19 : Int32) (v20 : Int32) (cf14 : ClassId) (f14 : (Nat → Int32)) (cf13 : ClassId) (f13 : (Nat → Int32)) (cf15 : ClassId) (f15 : (Nat → Int32)) (nf : Nat) (o14 : (Nat → Int32)) (o15 : (Nat → Int32)) (w18 : Int32) (hsp : sp_v11_takeFrame nf a1 f14 f13 f15 = some (o14, o15, w18)) : Met l yX11_takeFrame (.code yX11_takeFrame cX11_takeFrame 3 none :: VS_h7) ({ frames := 1, cells := 0, slots := 0, locals := 40 }) (va_Pc [.ref h0, .int a1] (fun U => U.heap.size = sz ∧ va_P (dC, dI) vwCl [(h0, .inr (11, [.ref qf0, .ref qf1, .int v2, .int v3, .int v4, .ref qf5, .int v6, .int v7, .ref qf8, .ref qf9, .ref qf10, .ref qf11, .ref qf12, .ref qf13, .ref qf14, .ref qf15, .int v16, .int v17, .int v18, .int v19, .int v20])), (qf14, .inl (cf14, 30, .inl f14)), (qf13, .inl (cf13, 6400, .inl f13)), (qf15, .inl (cf15, 30, .inl f15))] U.heap ∧ va_K (dC, dI) vwCl [(cf14, .int), (cf13, .int), (cf15, .int)] U ∧ va_D (fun _ => True) [(h0, .inr (11, [.ref qf0, .ref qf1, .int v2, .int v3, .int v4, .ref qf5, .int v6, .int v7, .ref qf8, .ref qf9, .ref qf10, .ref qf11, .ref qf12, .ref qf13, .ref qf14, .ref qf15, .int v16, .int v17, .int v18, .int v19, .int v20])), (qf14, .inl (cf14, 30, .inl f14)), (qf13, .inl (cf13, 6400, .inl f13)), (qf15, .inl (cf15, 30, .inl f15))])) (va_Qv (fun (u : Unit) => match u with | () => True) (fun (u : Unit) (t : State) => match u with | () => va_P (dC, dI) vwCl [(h0, .inr (11, [.ref qf0, .ref qf1, .int v2, .int v3, .int v4, .ref qf5, .int v6, .int v7, .ref qf8, .ref qf9, .ref qf10, .ref qf11, .ref qf12, .ref qf13, .ref qf14, .ref qf15, .int v16, .int v17, .int w18, .int v19, .int v20])), (qf14, .inl (cf14, 30, .inl o14)), (qf13, .inl (cf13, 6400, .inl f13)), (qf15, .inl (cf15, 30, .inl o15))] t.heap ∧ va_K (dC, dI) vwCl [(cf14, .int), (cf13, .int), (cf15, .int)] t ∧ va_D (va_A [(h0, .inr (11, [.ref qf0, .ref qf1, .int v2, .int v3, .int v4, .ref qf5, .int v6, .int v7, .ref qf8, .ref qf9, .ref qf10, .ref qf11, .ref qf12, .ref qf13, .ref qf14, .ref qf15, .int v16, .int v17, .int v18, .int v19, .int v20])), (qf14, .inl (cf14, 30, .inl f14)), (qf13, .inl (cf13, 6400, .inl f13)), (qf15, .inl (cf15, 30, .inl f15))] sz) [(h0, .inr (11, [.ref qf0, .ref qf1, .int v2, .int v3, .int v4, .ref qf5, .int v6, .int v7, .ref qf8, .ref qf9, .ref qf10, .ref qf11, .ref qf12, .ref qf13, .ref qf14, .ref qf15, .int v16, .int v17, .int w18, .int v19, .int v20])), (qf14, .inl (cf14, 30, .inl o14)), (qf13, .inl (cf13, 6400, .inl f13)), (qf15, .inl (cf15, 30, .inl o15))]) (va_A [(h0, .inr (11, [.ref qf0, .ref qf1, .int v2, .int v3, .int v4, .ref qf5, .int v6, .int v7, .ref qf8, .ref qf9, .ref qf10, .ref qf11, .ref qf12, .ref qf13, .ref qf14, .ref qf15, .int v16, .int v17, .int v18, .int v19, .int v20])), (qf14, .inl (cf14, 30, .inl f14)), (qf13, .inl (cf13, 6400, .inl f13)), (qf15, .inl (cf15, 30, .inl f15))] sz)) 0 0 (va_A [(h0, .inr (11, [.ref qf0, .ref qf1, .int v2, .int v3, .int v4, .ref qf5, .int v6, .int v7, .ref qf8, .ref qf9, .ref qf10, .ref qf11, .ref qf12, .ref qf13, .ref qf14, .ref qf15, .int v16, .int v17, .int v18, .int v19, .int v20])), (qf14, .inl (cf14, 30, .inl f14)), (qf13, .inl (cf13, 6400, .inl f13)), (qf15, .inl (cf15, 30, .inl f15))] sz) := by
  refine Met.ofW (cc := cX11_takeFrame) (maxL := 3) (ret := none) (by decide) rfl ?_
  intro p e s m args below meth c s₁ B hml hv
  obtain ⟨rfl, hsz, hP, hK, hD0⟩ := hv
  have hx := B.exec
  have hb := B.bytes
  have hr := B.returns
  have hts := atoms_spec (ws := (.code yX11_takeFrame cX11_takeFrame 3 none :: VS_h7)) B.pre
  replace hts := fun w (h : w ∈ VS_h7) => hts w (List.mem_cons_of_mem _ h)
  have hown : s.vm.findClass RX11 = some m.cls := findClass_of_methodNamed B.named
  have hlocks := B.notSynchronized
  subst hsz
  have hD := hD0.self (sz := s.heap.size)
  generalize hAe : va_A [(h0, .inr (11, [.ref qf0, .ref qf1, .int v2, .int v3, .int v4, .ref qf5, .int v6, .int v7, .ref qf8, .ref qf9, .ref qf10, .ref qf11, .ref qf12, .ref qf13, .ref qf14, .ref qf15, .int v16, .int v17, .int v18, .int v19, .int v20])), (qf14, .inl (cf14, 30, .inl f14)), (qf13, .inl (cf13, 6400, .inl f13)), (qf15, .inl (cf15, 30, .inl f15))] s.heap.size = A at hD  ⊢
  have hA : ∀ q : Nat, s.heap.size ≤ q → A q := fun q h => by rw [← hAe]; exact Or.inr h
  have hP : va_P (dC, dI) vwCl [(h0, .inr (11, [.ref qf0, .ref qf1, .int v2, .int v3, .int v4, .ref qf5, .int v6, .int v7, .ref qf8, .ref qf9, .ref qf10, .ref qf11, .ref qf12, .ref qf13, .ref qf14, .ref qf15, .int v16, .int v17, .int v18, .int v19, .int v20])), (qf14, .inl (cf14, 30, .inl f14)), (qf13, .inl (cf13, 6400, .inl f13)), (qf15, .inl (cf15, 30, .inl f15))] s.heap := hP
  have hl := lv_entry ([.ref h0, .int a1]) (n := 3) (Nat.le_of_ble_eq_true rfl)
  rw [lg_entry_eq]
  generalize (lg_sl ([.ref h0, .int a1]) ++ List.replicate (3 - (lg_sl ([.ref h0, .int a1])).length) Slot.unset).toArray = ls at hl ⊢
  have hl : lv_has ls 3 [(0, .ref h0), (1, .int a1)] := hl
  obtain ⟨H, hH⟩ : ∃ H : Heap, s.heap = H := ⟨_, rfl⟩
  rw [hH] at hP ⊢
  have hS : va_S A s.heap H [] := by rw [← hH]; exact va_S.rf
  obtain ⟨locs, hlo⟩ : ∃ locs : List Loc, locs = [] := ⟨_, rfl⟩
  rw [← hlo] at hS ⊢
  unfold sp_v11_takeFrame at hsp
  refine lv_iload_n hx hb dX11_takeFrame_0 rfl (lv_at hl 1 rfl) ?_
  refine lv_bipush (v := 64) hx hb dX11_takeFrame_1 (by decide) ?_
  refine lv_imul hx hb dX11_takeFrame_3 ?_
  refine lv_istore_n (lv' := [(2, .int (a1 * 64)), (0, .ref h0), (1, .int a1)]) hx hb dX11_takeFrame_4 rfl hl (by decide) rfl (fun ls hl => ?_)
  refine lv_aload_n hx hb dX11_takeFrame_5 rfl (lv_at hl 1 rfl) ?_
  refine va_get (D := (dC, dI)) (ci := 11) (v := .ref qf14) (C := RX11) (T := TX11) (N := 21) hx hb hts uV_h7_X11 hown hK hP 0 rfl rfl 14 (by decide) (hts (.fieldLink RX11 44 "ClassMill$Verifier" "locals" "[I") mw_h7_431) (fun _ h9 => h9) rfl dX11_takeFrame_6 ?_
  refine lv_sipush (v := 304) hx hb dX11_takeFrame_9 (by decide) ?_
  obtain ⟨g901_0, hu_1, hsp⟩ := ox_bind hsp
  try dsimp only at hsp
  have hPc := hP.sub (ws' := [(qf14, .inl (cf14, 30, .inl f14))]) [1] rfl
  have hDc := hD.sub (ws' := [(qf14, .inl (cf14, 30, .inl f14))]) [1] (by decide) rfl
  have hKc := hK.sub (tys' := [(cf14, .int)]) [0] rfl
  have hFc := va_free (wc := [(qf14, .inl (cf14, 30, .inl f14))]) hD hS hA [1] rfl
  refine va_callv (va_runS (As := [.ref qf14, .int 304]) (rest := []) ⟨hx, hb, hml, hown, hts⟩ (jd_fill l dC dI H.size qf14 304 cf14 30 f14 nf g901_0 hu_1) (va_cwS 2 hts gv_h7_102 rfl rfl rfl (by decide +kernel) ⟨Nat.le_of_ble_eq_true rfl, Nat.le_of_ble_eq_true rfl⟩) ⟨fun a U g mk q => by obtain ⟨q0, q1, qP, qK, qD⟩ := q; exact ⟨q0, q1, qP, va_K.moved (u := U) (U := U.calling g mk a) (Vm.Alike.refl U.vm) qK, qD⟩, fun U hU hW => ⟨rfl, by rw [hU], by rw [hU]; exact hPc, va_K.moved hW.alike hKc, hDc.weaken (fun _ _ _ _ => trivial)⟩⟩ rfl rfl hl.1 rfl (lv_room (Nat.le_of_ble_eq_true rfl)) dX11_takeFrame_12 ⟨Nat.le_of_ble_eq_true rfl, Nat.le_of_ble_eq_true rfl⟩) hS (fun q _ h => hFc q h) hFc ?_
  clear hS
  intro u t H1 locs ht hvm hw hB hz1 hk1 hS
  obtain ⟨⟩ := u
  obtain ⟨hP1, hK1, hD1⟩ := hB
  rw [ht] at hP1
  have hK1 := va_K.moved hvm.symm hK1
  try dsimp only at hw
  have hPD := va_join (wr := [(h0, .inr (11, [.ref qf0, .ref qf1, .int v2, .int v3, .int v4, .ref qf5, .int v6, .int v7, .ref qf8, .ref qf9, .ref qf10, .ref qf11, .ref qf12, .ref qf13, .ref qf14, .ref qf15, .int v16, .int v17, .int v18, .int v19, .int v20])), (qf13, .inl (cf13, 6400, .inl f13)), (qf15, .inl (cf15, 30, .inl f15))]) (w1 := [(qf14, .inl (cf14, 30, .inl g901_0))]) hP hD [1] [0, 2, 3] rfl rfl (by decide) (by decide) hk1 hFc hP1 hD1
  clear hP hD
  obtain ⟨hP, hD⟩ := hPD
  replace hK := (hK.sub (tys' := [(cf13, .int), (cf15, .int)]) [1, 2] rfl).app hK1
  clear hPc hDc hKc hFc hP1 hK1 hD1 hz1 hk1 ht hvm
  generalize H1 = H at hP hS ⊢
  replace hP : va_P (dC, dI) vwCl [(h0, .inr (11, [.ref qf0, .ref qf1, .int v2, .int v3, .int v4, .ref qf5, .int v6, .int v7, .ref qf8, .ref qf9, .ref qf10, .ref qf11, .ref qf12, .ref qf13, .ref qf14, .ref qf15, .int v16, .int v17, .int v18, .int v19, .int v20])), (qf13, .inl (cf13, 6400, .inl f13)), (qf15, .inl (cf15, 30, .inl f15)), (qf14, .inl (cf14, 30, .inl g901_0))] H := hP
  replace hD : va_D A [(h0, .inr (11, [.ref qf0, .ref qf1, .int v2, .int v3, .int v4, .ref qf5, .int v6, .int v7, .ref qf8, .ref qf9, .ref qf10, .ref qf11, .ref qf12, .ref qf13, .ref qf14, .ref qf15, .int v16, .int v17, .int v18, .int v19, .int v20])), (qf13, .inl (cf13, 6400, .inl f13)), (qf15, .inl (cf15, 30, .inl f15)), (qf14, .inl (cf14, 30, .inl g901_0))] := hD
  replace hK : va_K (dC, dI) vwCl [(cf13, .int), (cf15, .int), (cf14, .int)] s := hK
  refine lv_aload_n hx hb dX11_takeFrame_15 rfl (lv_at hl 1 rfl) ?_
  refine va_get (D := (dC, dI)) (ci := 11) (v := .ref qf13) (C := RX11) (T := TX11) (N := 21) hx hb hts uV_h7_X11 hown hK hP 0 rfl rfl 13 (by decide) (hts (.fieldLink RX11 41 "ClassMill$Verifier" "frames" "[I") mw_h7_430) (fun _ h9 => h9) rfl dX11_takeFrame_16 ?_
  refine lv_iload_n hx hb dX11_takeFrame_19 rfl (lv_at hl 0 rfl) ?_
  refine lv_iconst (v := 3) hx hb dX11_takeFrame_20 (by decide) ?_
  refine lv_iadd hx hb dX11_takeFrame_21 ?_
  refine lv_aload_n hx hb dX11_takeFrame_22 rfl (lv_at hl 1 rfl) ?_
  refine va_get (D := (dC, dI)) (ci := 11) (v := .ref qf14) (C := RX11) (T := TX11) (N := 21) hx hb hts uV_h7_X11 hown hK hP 0 rfl rfl 14 (by decide) (hts (.fieldLink RX11 44 "ClassMill$Verifier" "locals" "[I") mw_h7_431) (fun _ h9 => h9) rfl dX11_takeFrame_23 ?_
  refine lv_iconst (v := 0) hx hb dX11_takeFrame_26 (by decide) ?_
  refine lv_aload_n hx hb dX11_takeFrame_27 rfl (lv_at hl 1 rfl) ?_
  refine va_get (D := (dC, dI)) (ci := 11) (v := .ref qf13) (C := RX11) (T := TX11) (N := 21) hx hb hts uV_h7_X11 hown hK hP 0 rfl rfl 13 (by decide) (hts (.fieldLink RX11 41 "ClassMill$Verifier" "frames" "[I") mw_h7_430) (fun _ h9 => h9) rfl dX11_takeFrame_28 ?_
  refine lv_iload_n hx hb dX11_takeFrame_31 rfl (lv_at hl 0 rfl) ?_
  refine lv_iconst (v := 1) hx hb dX11_takeFrame_32 (by decide) ?_
  refine lv_iadd hx hb dX11_takeFrame_33 ?_
  obtain ⟨hi_1, hsp⟩ := ox_in hsp
  refine va_iald hx hb hK hP 1 0 rfl rfl (i := ((a1 * 64) + 1)) hi_1 dX11_takeFrame_34 ?_
  obtain ⟨⟨hc_21, hc_22, hc_23, hc_24, hc_25⟩, hsp⟩ := ox_cp hsp
  refine va_copyi hx hb (by rw [hml]; exact hl.1.symm) hown (hts (.methodLink RX11 267 arraycopyName) mw_h7_432) (hts (.native arraycopyName) mw_h7_29) (hts (.static arraycopyName) mw_h7_30) (hts (.initialized "java/lang/System") mw_h7_31) hK hP hD hS 1 3 0 2 rfl rfl rfl rfl rfl (sp := ((a1 * 64) + 3)) (dp := 0) (n := (f13 (((a1 * 64) + 1) : Int32).toNatClampNeg)) hc_21 hc_22 hc_23 hc_24 hc_25 (fun _ _ => rfl) (Nat.le_of_ble_eq_true rfl) (Nat.le_of_ble_eq_true rfl) dX11_takeFrame_35 ?_
  clear hP hD hS
  intro H locs hP hD hS
  replace hP : va_P (dC, dI) vwCl [(h0, .inr (11, [.ref qf0, .ref qf1, .int v2, .int v3, .int v4, .ref qf5, .int v6, .int v7, .ref qf8, .ref qf9, .ref qf10, .ref qf11, .ref qf12, .ref qf13, .ref qf14, .ref qf15, .int v16, .int v17, .int v18, .int v19, .int v20])), (qf13, .inl (cf13, 6400, .inl f13)), (qf15, .inl (cf15, 30, .inl f15)), (qf14, .inl (cf14, 30, .inl (va_cpy f13 g901_0 (((a1 * 64) + 3) : Int32).toNatClampNeg (0 : Int32).toNatClampNeg ((f13 (((a1 * 64) + 1) : Int32).toNatClampNeg) : Int32).toNatClampNeg)))] H := hP
  replace hD : va_D A [(h0, .inr (11, [.ref qf0, .ref qf1, .int v2, .int v3, .int v4, .ref qf5, .int v6, .int v7, .ref qf8, .ref qf9, .ref qf10, .ref qf11, .ref qf12, .ref qf13, .ref qf14, .ref qf15, .int v16, .int v17, .int v18, .int v19, .int v20])), (qf13, .inl (cf13, 6400, .inl f13)), (qf15, .inl (cf15, 30, .inl f15)), (qf14, .inl (cf14, 30, .inl (va_cpy f13 g901_0 (((a1 * 64) + 3) : Int32).toNatClampNeg (0 : Int32).toNatClampNeg ((f13 (((a1 * 64) + 1) : Int32).toNatClampNeg) : Int32).toNatClampNeg)))] := hD
  refine lv_aload_n hx hb dX11_takeFrame_38 rfl (lv_at hl 1 rfl) ?_
  refine lv_aload_n hx hb dX11_takeFrame_39 rfl (lv_at hl 1 rfl) ?_
  refine va_get (D := (dC, dI)) (ci := 11) (v := .ref qf13) (C := RX11) (T := TX11) (N := 21) hx hb hts uV_h7_X11 hown hK hP 0 rfl rfl 13 (by decide) (hts (.fieldLink RX11 41 "ClassMill$Verifier" "frames" "[I") mw_h7_430) (fun _ h9 => h9) rfl dX11_takeFrame_40 ?_
  refine lv_iload_n hx hb dX11_takeFrame_43 rfl (lv_at hl 0 rfl) ?_
  refine lv_iconst (v := 2) hx hb dX11_takeFrame_44 (by decide) ?_
  refine lv_iadd hx hb dX11_takeFrame_45 ?_
  obtain ⟨hi_3, hsp⟩ := ox_in hsp
  refine va_iald hx hb hK hP 1 0 rfl rfl (i := ((a1 * 64) + 2)) hi_3 dX11_takeFrame_46 ?_
  refine va_put (D := (dC, dI)) (ci := 11) (v := .int (f13 (((a1 * 64) + 2) : Int32).toNatClampNeg)) (ty := .int) (C := RX11) (T := TX11) (N := 21) hx hb hts uV_h7_X11 tyX11 tyX11_ok nmX11 hown hK hP hD hS 0 rfl rfl 18 (by decide) (hts (.fieldLink RX11 255 "ClassMill$Verifier" "height" "I") mw_h7_428) (fun _ h9 => h9) rfl (by decide +kernel) rfl rfl (Nat.le_of_ble_eq_true rfl) dX11_takeFrame_47 ?_
  clear hP hD hS
  intro H locs hP hD hS
  replace hP : va_P (dC, dI) vwCl [(h0, .inr (11, [.ref qf0, .ref qf1, .int v2, .int v3, .int v4, .ref qf5, .int v6, .int v7, .ref qf8, .ref qf9, .ref qf10, .ref qf11, .ref qf12, .ref qf13, .ref qf14, .ref qf15, .int v16, .int v17, .int (f13 (((a1 * 64) + 2) : Int32).toNatClampNeg), .int v19, .int v20])), (qf13, .inl (cf13, 6400, .inl f13)), (qf15, .inl (cf15, 30, .inl f15)), (qf14, .inl (cf14, 30, .inl (va_cpy f13 g901_0 (((a1 * 64) + 3) : Int32).toNatClampNeg (0 : Int32).toNatClampNeg ((f13 (((a1 * 64) + 1) : Int32).toNatClampNeg) : Int32).toNatClampNeg)))] H := hP
  replace hD : va_D A [(h0, .inr (11, [.ref qf0, .ref qf1, .int v2, .int v3, .int v4, .ref qf5, .int v6, .int v7, .ref qf8, .ref qf9, .ref qf10, .ref qf11, .ref qf12, .ref qf13, .ref qf14, .ref qf15, .int v16, .int v17, .int (f13 (((a1 * 64) + 2) : Int32).toNatClampNeg), .int v19, .int v20])), (qf13, .inl (cf13, 6400, .inl f13)), (qf15, .inl (cf15, 30, .inl f15)), (qf14, .inl (cf14, 30, .inl (va_cpy f13 g901_0 (((a1 * 64) + 3) : Int32).toNatClampNeg (0 : Int32).toNatClampNeg ((f13 (((a1 * 64) + 1) : Int32).toNatClampNeg) : Int32).toNatClampNeg)))] := hD
  refine lv_aload_n hx hb dX11_takeFrame_50 rfl (lv_at hl 1 rfl) ?_
  refine va_get (D := (dC, dI)) (ci := 11) (v := .ref qf13) (C := RX11) (T := TX11) (N := 21) hx hb hts uV_h7_X11 hown hK hP 0 rfl rfl 13 (by decide) (hts (.fieldLink RX11 41 "ClassMill$Verifier" "frames" "[I") mw_h7_430) (fun _ h9 => h9) rfl dX11_takeFrame_51 ?_
  refine lv_iload_n hx hb dX11_takeFrame_54 rfl (lv_at hl 0 rfl) ?_
  refine lv_bipush (v := 33) hx hb dX11_takeFrame_55 (by decide) ?_
  refine lv_iadd hx hb dX11_takeFrame_57 ?_
  refine lv_aload_n hx hb dX11_takeFrame_58 rfl (lv_at hl 1 rfl) ?_
  refine va_get (D := (dC, dI)) (ci := 11) (v := .ref qf15) (C := RX11) (T := TX11) (N := 21) hx hb hts uV_h7_X11 hown hK hP 0 rfl rfl 15 (by decide) (hts (.fieldLink RX11 47 "ClassMill$Verifier" "stack" "[I") mw_h7_429) (fun _ h9 => h9) rfl dX11_takeFrame_59 ?_
  refine lv_iconst (v := 0) hx hb dX11_takeFrame_62 (by decide) ?_
  refine lv_aload_n hx hb dX11_takeFrame_63 rfl (lv_at hl 1 rfl) ?_
  refine va_get (D := (dC, dI)) (ci := 11) (v := .int (f13 (((a1 * 64) + 2) : Int32).toNatClampNeg)) (C := RX11) (T := TX11) (N := 21) hx hb hts uV_h7_X11 hown hK hP 0 rfl rfl 18 (by decide) (hts (.fieldLink RX11 255 "ClassMill$Verifier" "height" "I") mw_h7_428) (fun _ h9 => h9) rfl dX11_takeFrame_64 ?_
  obtain ⟨⟨hc_41, hc_42, hc_43, hc_44, hc_45⟩, hsp⟩ := ox_cp hsp
  refine va_copyi hx hb (by rw [hml]; exact hl.1.symm) hown (hts (.methodLink RX11 267 arraycopyName) mw_h7_432) (hts (.native arraycopyName) mw_h7_29) (hts (.static arraycopyName) mw_h7_30) (hts (.initialized "java/lang/System") mw_h7_31) hK hP hD hS 1 2 0 1 rfl rfl rfl rfl rfl (sp := ((a1 * 64) + 33)) (dp := 0) (n := (f13 (((a1 * 64) + 2) : Int32).toNatClampNeg)) hc_41 hc_42 hc_43 hc_44 hc_45 (fun _ _ => rfl) (Nat.le_of_ble_eq_true rfl) (Nat.le_of_ble_eq_true rfl) dX11_takeFrame_67 ?_
  clear hP hD hS
  intro H locs hP hD hS
  replace hP : va_P (dC, dI) vwCl [(h0, .inr (11, [.ref qf0, .ref qf1, .int v2, .int v3, .int v4, .ref qf5, .int v6, .int v7, .ref qf8, .ref qf9, .ref qf10, .ref qf11, .ref qf12, .ref qf13, .ref qf14, .ref qf15, .int v16, .int v17, .int (f13 (((a1 * 64) + 2) : Int32).toNatClampNeg), .int v19, .int v20])), (qf13, .inl (cf13, 6400, .inl f13)), (qf15, .inl (cf15, 30, .inl (va_cpy f13 f15 (((a1 * 64) + 33) : Int32).toNatClampNeg (0 : Int32).toNatClampNeg ((f13 (((a1 * 64) + 2) : Int32).toNatClampNeg) : Int32).toNatClampNeg))), (qf14, .inl (cf14, 30, .inl (va_cpy f13 g901_0 (((a1 * 64) + 3) : Int32).toNatClampNeg (0 : Int32).toNatClampNeg ((f13 (((a1 * 64) + 1) : Int32).toNatClampNeg) : Int32).toNatClampNeg)))] H := hP
  replace hD : va_D A [(h0, .inr (11, [.ref qf0, .ref qf1, .int v2, .int v3, .int v4, .ref qf5, .int v6, .int v7, .ref qf8, .ref qf9, .ref qf10, .ref qf11, .ref qf12, .ref qf13, .ref qf14, .ref qf15, .int v16, .int v17, .int (f13 (((a1 * 64) + 2) : Int32).toNatClampNeg), .int v19, .int v20])), (qf13, .inl (cf13, 6400, .inl f13)), (qf15, .inl (cf15, 30, .inl (va_cpy f13 f15 (((a1 * 64) + 33) : Int32).toNatClampNeg (0 : Int32).toNatClampNeg ((f13 (((a1 * 64) + 2) : Int32).toNatClampNeg) : Int32).toNatClampNeg))), (qf14, .inl (cf14, 30, .inl (va_cpy f13 g901_0 (((a1 * 64) + 3) : Int32).toNatClampNeg (0 : Int32).toNatClampNeg ((f13 (((a1 * 64) + 1) : Int32).toNatClampNeg) : Int32).toNatClampNeg)))] := hD
  have hr0 := Option.some.inj hsp
  clear hsp
  obtain ⟨hq0, hr1⟩ := Prod.mk.inj hr0
  clear hr0
  obtain ⟨hq1, hr2⟩ := Prod.mk.inj hr1
  clear hr1
  subst hq0
  subst hq1
  subst hr2
  have hP9 := hP.sub (ws' := [(h0, .inr (11, [.ref qf0, .ref qf1, .int v2, .int v3, .int v4, .ref qf5, .int v6, .int v7, .ref qf8, .ref qf9, .ref qf10, .ref qf11, .ref qf12, .ref qf13, .ref qf14, .ref qf15, .int v16, .int v17, .int (f13 (((a1 * 64) + 2) : Int32).toNatClampNeg), .int v19, .int v20])), (qf14, .inl (cf14, 30, .inl (va_cpy f13 g901_0 (((a1 * 64) + 3) : Int32).toNatClampNeg (0 : Int32).toNatClampNeg ((f13 (((a1 * 64) + 1) : Int32).toNatClampNeg) : Int32).toNatClampNeg))), (qf13, .inl (cf13, 6400, .inl f13)), (qf15, .inl (cf15, 30, .inl (va_cpy f13 f15 (((a1 * 64) + 33) : Int32).toNatClampNeg (0 : Int32).toNatClampNeg ((f13 (((a1 * 64) + 2) : Int32).toNatClampNeg) : Int32).toNatClampNeg)))]) [0, 3, 1, 2] rfl
  have hD9 := hD.sub (ws' := [(h0, .inr (11, [.ref qf0, .ref qf1, .int v2, .int v3, .int v4, .ref qf5, .int v6, .int v7, .ref qf8, .ref qf9, .ref qf10, .ref qf11, .ref qf12, .ref qf13, .ref qf14, .ref qf15, .int v16, .int v17, .int (f13 (((a1 * 64) + 2) : Int32).toNatClampNeg), .int v19, .int v20])), (qf14, .inl (cf14, 30, .inl (va_cpy f13 g901_0 (((a1 * 64) + 3) : Int32).toNatClampNeg (0 : Int32).toNatClampNeg ((f13 (((a1 * 64) + 1) : Int32).toNatClampNeg) : Int32).toNatClampNeg))), (qf13, .inl (cf13, 6400, .inl f13)), (qf15, .inl (cf15, 30, .inl (va_cpy f13 f15 (((a1 * 64) + 33) : Int32).toNatClampNeg (0 : Int32).toNatClampNeg ((f13 (((a1 * 64) + 2) : Int32).toNatClampNeg) : Int32).toNatClampNeg)))]) [0, 3, 1, 2] (by decide) rfl
  have hK9 := hK.sub (tys' := [(cf14, .int), (cf13, .int), (cf15, .int)]) [2, 0, 1] rfl
  exact W.vret hx hb hr (fun t ht hW => ⟨⟨(), rfl, trivial, by rw [ht]; exact hP9, va_K.moved hW.alike hK9, hD9⟩, hS.F ht⟩) hS.2.2 dX11_takeFrame_70
def sp_v1_jumpBack (nf : Nat) (a1 : Int32) (a2 : Int32) (v1 : Int32) (v3 : Int32) (v14 : Int32) (v15 : Int32) (f0 : Nat → Int32) (f13 : Nat → Int32) (f11 : Nat → Int32) (f12 : Nat → Int32) (f6 : Nat → Int32) (f2 : Nat → Int32) : Option ((Nat → Int32) × (Nat → Int32) × (Nat → Int32) × (Nat → Int32) × Int32 × Int32 × Int32 × Int32) := ((sp_t1_jump nf 167 0 v1 v3 f0).bind (fun p1 => ((sp_t1_aimAt nf p1.1 a1 p1.2.1).bind (fun p2 => ((sp_v1_slotOfFrame nf a1 v14 f13 f11).bind (fun p3 => ((sp_v1_fillFrame nf p3.1 a2 0 v15 f12 f6 f2).bind (fun p4 => (some (p2, p3.2.1, p4.1, p3.2.2.1, p1.2.2.1, p3.2.2.2, p4.2, p1.2.2.2))))))))))
set_option maxHeartbeats 4000000 in
set_option maxRecDepth 100000 in
/-- ClassMill$Code.jumpBack -/
theorem v1_jumpBack (l : Launch) (dC : Nat → ClassId) (dI : Nat → Nat → Nat) (sz : Nat) (h0 : Nat) (a1 : Int32) (a2 : Int32) (qf0 : Nat) (v1 : Int32) (qf2 : Nat) (v3 : Int32) (v4 : Int32) (qf5 : Nat) (qf6 : Nat) (v7 : Int32) (v8 : Int32) (qf9 : Nat) (v10 : Int32) (qf11 : Nat) (qf12 : Nat) (qf13 : Nat) (v14 : Int32) (v15 : Int32) (cf0 : ClassId) (f0 : (Nat → Int32)) (cf13 : ClassId) (f13 : (Nat → Int32)) (cf11 : ClassId) (f11 : (Nat → Int32)) (cf12 : ClassId) (f12 : (Nat → Int32)) (cf6 : ClassId) (f6 : (Nat → Int32)) (cf2 : ClassId) (f2 : (Nat → Int32)) (nf : Nat) (o0 : (Nat → Int32)) (o11 : (Nat → Int32)) (o12 : (Nat → Int32)) (o13 : (Nat → Int32)) (w1 : Int32) (w14 : Int32) (w15 : Int32) (w3 : Int32) (hsp : sp_v1_jumpBack nf a1 a2 v1 v3 v14 v15 f0 f13 f11 f12 f6 f2 = some (o0, o11, o12, o13, w1, w14, w15, w3)) : Met l yX1_jumpBack (.code yX1_jumpBack cX1_jumpBack 3 none :: VS_h7) ({ frames := 3, cells := 0, slots := 0, locals := 64 }) (va_Pc [.ref h0, .int a1, .int a2] (fun U => U.heap.size = sz ∧ va_P (dC, dI) vwCl [(h0, .inr (1, [.ref qf0, .int v1, .ref qf2, .int v3, .int v4, .ref qf5, .ref qf6, .int v7, .int v8, .ref qf9, .int v10, .ref qf11, .ref qf12, .ref qf13, .int v14, .int v15])), (qf0, .inl (cf0, 1500, .inl f0)), (qf13, .inl (cf13, 100, .inl f13)), (qf11, .inl (cf11, 100, .inl f11)), (qf12, .inl (cf12, 5200, .inl f12)), (qf6, .inl (cf6, 750, .inl f6)), (qf2, .inl (cf2, 20, .inl f2))] U.heap ∧ va_K (dC, dI) vwCl [(cf0, .byte), (cf13, .int), (cf11, .int), (cf12, .int), (cf6, .int), (cf2, .int)] U ∧ va_D (fun _ => True) [(h0, .inr (1, [.ref qf0, .int v1, .ref qf2, .int v3, .int v4, .ref qf5, .ref qf6, .int v7, .int v8, .ref qf9, .int v10, .ref qf11, .ref qf12, .ref qf13, .int v14, .int v15])), (qf0, .inl (cf0, 1500, .inl f0)), (qf13, .inl (cf13, 100, .inl f13)), (qf11, .inl (cf11, 100, .inl f11)), (qf12, .inl (cf12, 5200, .inl f12)), (qf6, .inl (cf6, 750, .inl f6)), (qf2, .inl (cf2, 20, .inl f2))])) (va_Qv (fun (u : Unit) => match u with | () => True) (fun (u : Unit) (t : State) => match u with | () => va_P (dC, dI) vwCl [(h0, .inr (1, [.ref qf0, .int w1, .ref qf2, .int w3, .int v4, .ref qf5, .ref qf6, .int v7, .int v8, .ref qf9, .int v10, .ref qf11, .ref qf12, .ref qf13, .int w14, .int w15])), (qf0, .inl (cf0, 1500, .inl o0)), (qf13, .inl (cf13, 100, .inl o13)), (qf11, .inl (cf11, 100, .inl o11)), (qf12, .inl (cf12, 5200, .inl o12)), (qf6, .inl (cf6, 750, .inl f6)), (qf2, .inl (cf2, 20, .inl f2))] t.heap ∧ va_K (dC, dI) vwCl [(cf0, .byte), (cf13, .int), (cf11, .int), (cf12, .int), (cf6, .int), (cf2, .int)] t ∧ va_D (va_A [(h0, .inr (1, [.ref qf0, .int v1, .ref qf2, .int v3, .int v4, .ref qf5, .ref qf6, .int v7, .int v8, .ref qf9, .int v10, .ref qf11, .ref qf12, .ref qf13, .int v14, .int v15])), (qf0, .inl (cf0, 1500, .inl f0)), (qf13, .inl (cf13, 100, .inl f13)), (qf11, .inl (cf11, 100, .inl f11)), (qf12, .inl (cf12, 5200, .inl f12)), (qf6, .inl (cf6, 750, .inl f6)), (qf2, .inl (cf2, 20, .inl f2))] sz) [(h0, .inr (1, [.ref qf0, .int w1, .ref qf2, .int w3, .int v4, .ref qf5, .ref qf6, .int v7, .int v8, .ref qf9, .int v10, .ref qf11, .ref qf12, .ref qf13, .int w14, .int w15])), (qf0, .inl (cf0, 1500, .inl o0)), (qf13, .inl (cf13, 100, .inl o13)), (qf11, .inl (cf11, 100, .inl o11)), (qf12, .inl (cf12, 5200, .inl o12)), (qf6, .inl (cf6, 750, .inl f6)), (qf2, .inl (cf2, 20, .inl f2))]) (va_A [(h0, .inr (1, [.ref qf0, .int v1, .ref qf2, .int v3, .int v4, .ref qf5, .ref qf6, .int v7, .int v8, .ref qf9, .int v10, .ref qf11, .ref qf12, .ref qf13, .int v14, .int v15])), (qf0, .inl (cf0, 1500, .inl f0)), (qf13, .inl (cf13, 100, .inl f13)), (qf11, .inl (cf11, 100, .inl f11)), (qf12, .inl (cf12, 5200, .inl f12)), (qf6, .inl (cf6, 750, .inl f6)), (qf2, .inl (cf2, 20, .inl f2))] sz)) 0 0 (va_A [(h0, .inr (1, [.ref qf0, .int v1, .ref qf2, .int v3, .int v4, .ref qf5, .ref qf6, .int v7, .int v8, .ref qf9, .int v10, .ref qf11, .ref qf12, .ref qf13, .int v14, .int v15])), (qf0, .inl (cf0, 1500, .inl f0)), (qf13, .inl (cf13, 100, .inl f13)), (qf11, .inl (cf11, 100, .inl f11)), (qf12, .inl (cf12, 5200, .inl f12)), (qf6, .inl (cf6, 750, .inl f6)), (qf2, .inl (cf2, 20, .inl f2))] sz) := by
  refine Met.ofW (cc := cX1_jumpBack) (maxL := 3) (ret := none) (by decide) rfl ?_
  intro p e s m args below meth c s₁ B hml hv
  obtain ⟨rfl, hsz, hP, hK, hD0⟩ := hv
  have hx := B.exec
  have hb := B.bytes
  have hr := B.returns
  have hts := atoms_spec (ws := (.code yX1_jumpBack cX1_jumpBack 3 none :: VS_h7)) B.pre
  replace hts := fun w (h : w ∈ VS_h7) => hts w (List.mem_cons_of_mem _ h)
  have hown : s.vm.findClass RX1 = some m.cls := findClass_of_methodNamed B.named
  have hlocks := B.notSynchronized
  subst hsz
  have hD := hD0.self (sz := s.heap.size)
  generalize hAe : va_A [(h0, .inr (1, [.ref qf0, .int v1, .ref qf2, .int v3, .int v4, .ref qf5, .ref qf6, .int v7, .int v8, .ref qf9, .int v10, .ref qf11, .ref qf12, .ref qf13, .int v14, .int v15])), (qf0, .inl (cf0, 1500, .inl f0)), (qf13, .inl (cf13, 100, .inl f13)), (qf11, .inl (cf11, 100, .inl f11)), (qf12, .inl (cf12, 5200, .inl f12)), (qf6, .inl (cf6, 750, .inl f6)), (qf2, .inl (cf2, 20, .inl f2))] s.heap.size = A at hD  ⊢
  have hA : ∀ q : Nat, s.heap.size ≤ q → A q := fun q h => by rw [← hAe]; exact Or.inr h
  have hP : va_P (dC, dI) vwCl [(h0, .inr (1, [.ref qf0, .int v1, .ref qf2, .int v3, .int v4, .ref qf5, .ref qf6, .int v7, .int v8, .ref qf9, .int v10, .ref qf11, .ref qf12, .ref qf13, .int v14, .int v15])), (qf0, .inl (cf0, 1500, .inl f0)), (qf13, .inl (cf13, 100, .inl f13)), (qf11, .inl (cf11, 100, .inl f11)), (qf12, .inl (cf12, 5200, .inl f12)), (qf6, .inl (cf6, 750, .inl f6)), (qf2, .inl (cf2, 20, .inl f2))] s.heap := hP
  have hl := lv_entry ([.ref h0, .int a1, .int a2]) (n := 3) (Nat.le_of_ble_eq_true rfl)
  rw [lg_entry_eq]
  generalize (lg_sl ([.ref h0, .int a1, .int a2]) ++ List.replicate (3 - (lg_sl ([.ref h0, .int a1, .int a2])).length) Slot.unset).toArray = ls at hl ⊢
  have hl : lv_has ls 3 [(0, .ref h0), (1, .int a1), (2, .int a2)] := hl
  obtain ⟨H, hH⟩ : ∃ H : Heap, s.heap = H := ⟨_, rfl⟩
  rw [hH] at hP ⊢
  have hS : va_S A s.heap H [] := by rw [← hH]; exact va_S.rf
  obtain ⟨locs, hlo⟩ : ∃ locs : List Loc, locs = [] := ⟨_, rfl⟩
  rw [← hlo] at hS ⊢
  unfold sp_v1_jumpBack at hsp
  refine lv_aload_n hx hb dX1_jumpBack_0 rfl (lv_at hl 0 rfl) ?_
  refine lv_aload_n hx hb dX1_jumpBack_1 rfl (lv_at hl 0 rfl) ?_
  refine lv_sipush (v := 167) hx hb dX1_jumpBack_2 (by decide) ?_
  refine lv_iconst (v := 0) hx hb dX1_jumpBack_5 (by decide) ?_
  obtain ⟨⟨u1_0, g901_1, u1_2, u1_3⟩, hu_1, hsp⟩ := ox_bind hsp
  try dsimp only at hsp
  have hPc := hP.sub (ws' := [(h0, .inr (1, [.ref qf0, .int v1, .ref qf2, .int v3, .int v4, .ref qf5, .ref qf6, .int v7, .int v8, .ref qf9, .int v10, .ref qf11, .ref qf12, .ref qf13, .int v14, .int v15])), (qf0, .inl (cf0, 1500, .inl f0))]) [0, 1] rfl
  have hDc := hD.sub (ws' := [(h0, .inr (1, [.ref qf0, .int v1, .ref qf2, .int v3, .int v4, .ref qf5, .ref qf6, .int v7, .int v8, .ref qf9, .int v10, .ref qf11, .ref qf12, .ref qf13, .int v14, .int v15])), (qf0, .inl (cf0, 1500, .inl f0))]) [0, 1] (by decide) rfl
  have hKc := hK.sub (tys' := [(cf0, .byte)]) [0] rfl
  have hFc := va_free (wc := [(h0, .inr (1, [.ref qf0, .int v1, .ref qf2, .int v3, .int v4, .ref qf5, .ref qf6, .int v7, .int v8, .ref qf9, .int v10, .ref qf11, .ref qf12, .ref qf13, .int v14, .int v15])), (qf0, .inl (cf0, 1500, .inl f0))]) hD hS hA [0, 1] rfl
  refine va_calli (va_runV (As := [.int 167, .int 0]) (rest := [.ref h0]) ⟨hx, hb, hml, hown, hts⟩ (t1_jump l dC dI H.size h0 167 0 qf0 v1 qf2 v3 v4 qf5 qf6 v7 v8 qf9 v10 qf11 qf12 qf13 v14 v15 cf0 f0 nf u1_0 g901_1 u1_2 u1_3 hu_1) (cwV 2 hts gv_h7_1 rfl rfl rfl (by decide +kernel) ⟨Nat.le_of_ble_eq_true rfl, Nat.le_of_ble_eq_true rfl⟩) ⟨fun a U g mk q => by obtain ⟨q0, q1, qP, qK, qD⟩ := q; exact ⟨q0, q1, qP, va_K.moved (u := U) (U := U.calling g mk a) (Vm.Alike.refl U.vm) qK, qD⟩, va_recv hKc hPc (ci := 1) (q0 := 0) rfl rfl, fun U hU hW => ⟨rfl, by rw [hU], by rw [hU]; exact hPc, va_K.moved hW.alike hKc, hDc.weaken (fun _ _ _ _ => trivial)⟩⟩ rfl rfl hl.1 rfl (lv_room (Nat.le_of_ble_eq_true rfl)) dX1_jumpBack_6 ⟨Nat.le_of_ble_eq_true rfl, Nat.le_of_ble_eq_true rfl⟩) hS (fun q _ h => hFc q h) hFc ?_
  clear hS
  intro r_1 u t H1 locs ht hvm hw hB hz1 hk1 hS
  obtain ⟨⟩ := u
  obtain ⟨hP1, hK1, hD1⟩ := hB
  rw [ht] at hP1
  have hK1 := va_K.moved hvm.symm hK1
  try dsimp only at hw
  have hPD := va_join (wr := [(qf13, .inl (cf13, 100, .inl f13)), (qf11, .inl (cf11, 100, .inl f11)), (qf12, .inl (cf12, 5200, .inl f12)), (qf6, .inl (cf6, 750, .inl f6)), (qf2, .inl (cf2, 20, .inl f2))]) (w1 := [(h0, .inr (1, [.ref qf0, .int u1_2, .ref qf2, .int u1_3, .int v4, .ref qf5, .ref qf6, .int v7, .int v8, .ref qf9, .int v10, .ref qf11, .ref qf12, .ref qf13, .int v14, .int v15])), (qf0, .inl (cf0, 1500, .inl g901_1))]) hP hD [0, 1] [2, 3, 4, 5, 6] rfl rfl (by decide) (by decide) hk1 hFc hP1 hD1
  clear hP hD
  obtain ⟨hP, hD⟩ := hPD
  replace hK := (hK.sub (tys' := [(cf13, .int), (cf11, .int), (cf12, .int), (cf6, .int), (cf2, .int)]) [1, 2, 3, 4, 5] rfl).app hK1
  clear hPc hDc hKc hFc hP1 hK1 hD1 hz1 hk1 ht hvm
  generalize H1 = H at hP hS ⊢
  replace hP : va_P (dC, dI) vwCl [(qf13, .inl (cf13, 100, .inl f13)), (qf11, .inl (cf11, 100, .inl f11)), (qf12, .inl (cf12, 5200, .inl f12)), (qf6, .inl (cf6, 750, .inl f6)), (qf2, .inl (cf2, 20, .inl f2)), (h0, .inr (1, [.ref qf0, .int u1_2, .ref qf2, .int u1_3, .int v4, .ref qf5, .ref qf6, .int v7, .int v8, .ref qf9, .int v10, .ref qf11, .ref qf12, .ref qf13, .int v14, .int v15])), (qf0, .inl (cf0, 1500, .inl g901_1))] H := hP
  replace hD : va_D A [(qf13, .inl (cf13, 100, .inl f13)), (qf11, .inl (cf11, 100, .inl f11)), (qf12, .inl (cf12, 5200, .inl f12)), (qf6, .inl (cf6, 750, .inl f6)), (qf2, .inl (cf2, 20, .inl f2)), (h0, .inr (1, [.ref qf0, .int u1_2, .ref qf2, .int u1_3, .int v4, .ref qf5, .ref qf6, .int v7, .int v8, .ref qf9, .int v10, .ref qf11, .ref qf12, .ref qf13, .int v14, .int v15])), (qf0, .inl (cf0, 1500, .inl g901_1))] := hD
  replace hK : va_K (dC, dI) vwCl [(cf13, .int), (cf11, .int), (cf12, .int), (cf6, .int), (cf2, .int), (cf0, .byte)] s := hK
  obtain rfl := hw
  refine lv_iload_n hx hb dX1_jumpBack_9 rfl (lv_at hl 1 rfl) ?_
  obtain ⟨g902_0, hu_2, hsp⟩ := ox_bind hsp
  try dsimp only at hsp
  have hPc := hP.sub (ws' := [(h0, .inr (1, [.ref qf0, .int u1_2, .ref qf2, .int u1_3, .int v4, .ref qf5, .ref qf6, .int v7, .int v8, .ref qf9, .int v10, .ref qf11, .ref qf12, .ref qf13, .int v14, .int v15])), (qf0, .inl (cf0, 1500, .inl g901_1))]) [5, 6] rfl
  have hDc := hD.sub (ws' := [(h0, .inr (1, [.ref qf0, .int u1_2, .ref qf2, .int u1_3, .int v4, .ref qf5, .ref qf6, .int v7, .int v8, .ref qf9, .int v10, .ref qf11, .ref qf12, .ref qf13, .int v14, .int v15])), (qf0, .inl (cf0, 1500, .inl g901_1))]) [5, 6] (by decide) rfl
  have hKc := hK.sub (tys' := [(cf0, .byte)]) [5] rfl
  have hFc := va_free (wc := [(h0, .inr (1, [.ref qf0, .int u1_2, .ref qf2, .int u1_3, .int v4, .ref qf5, .ref qf6, .int v7, .int v8, .ref qf9, .int v10, .ref qf11, .ref qf12, .ref qf13, .int v14, .int v15])), (qf0, .inl (cf0, 1500, .inl g901_1))]) hD hS hA [5, 6] rfl
  refine va_callv (va_runV (As := [.int u1_0, .int a1]) (rest := []) ⟨hx, hb, hml, hown, hts⟩ (t1_aimAt l dC dI H.size h0 u1_0 a1 qf0 u1_2 qf2 u1_3 v4 qf5 qf6 v7 v8 qf9 v10 qf11 qf12 qf13 v14 v15 cf0 g901_1 nf g902_0 hu_2) (cwV 2 hts gv_h7_2 rfl rfl rfl (by decide +kernel) ⟨Nat.le_of_ble_eq_true rfl, Nat.le_of_ble_eq_true rfl⟩) ⟨fun a U g mk q => by obtain ⟨q0, q1, qP, qK, qD⟩ := q; exact ⟨q0, q1, qP, va_K.moved (u := U) (U := U.calling g mk a) (Vm.Alike.refl U.vm) qK, qD⟩, va_recv hKc hPc (ci := 1) (q0 := 0) rfl rfl, fun U hU hW => ⟨rfl, by rw [hU], by rw [hU]; exact hPc, va_K.moved hW.alike hKc, hDc.weaken (fun _ _ _ _ => trivial)⟩⟩ rfl rfl hl.1 rfl (lv_room (Nat.le_of_ble_eq_true rfl)) dX1_jumpBack_10 ⟨Nat.le_of_ble_eq_true rfl, Nat.le_of_ble_eq_true rfl⟩) hS (fun q _ h => hFc q h) hFc ?_
  clear hS
  intro u t H1 locs ht hvm hw hB hz1 hk1 hS
  obtain ⟨⟩ := u
  obtain ⟨hP1, hK1, hD1⟩ := hB
  rw [ht] at hP1
  have hK1 := va_K.moved hvm.symm hK1
  try dsimp only at hw
  have hPD := va_join (wr := [(qf13, .inl (cf13, 100, .inl f13)), (qf11, .inl (cf11, 100, .inl f11)), (qf12, .inl (cf12, 5200, .inl f12)), (qf6, .inl (cf6, 750, .inl f6)), (qf2, .inl (cf2, 20, .inl f2))]) (w1 := [(h0, .inr (1, [.ref qf0, .int u1_2, .ref qf2, .int u1_3, .int v4, .ref qf5, .ref qf6, .int v7, .int v8, .ref qf9, .int v10, .ref qf11, .ref qf12, .ref qf13, .int v14, .int v15])), (qf0, .inl (cf0, 1500, .inl g902_0))]) hP hD [5, 6] [0, 1, 2, 3, 4] rfl rfl (by decide) (by decide) hk1 hFc hP1 hD1
  clear hP hD
  obtain ⟨hP, hD⟩ := hPD
  replace hK := (hK.sub (tys' := [(cf13, .int), (cf11, .int), (cf12, .int), (cf6, .int), (cf2, .int)]) [0, 1, 2, 3, 4] rfl).app hK1
  clear hPc hDc hKc hFc hP1 hK1 hD1 hz1 hk1 ht hvm
  generalize H1 = H at hP hS ⊢
  replace hP : va_P (dC, dI) vwCl [(qf13, .inl (cf13, 100, .inl f13)), (qf11, .inl (cf11, 100, .inl f11)), (qf12, .inl (cf12, 5200, .inl f12)), (qf6, .inl (cf6, 750, .inl f6)), (qf2, .inl (cf2, 20, .inl f2)), (h0, .inr (1, [.ref qf0, .int u1_2, .ref qf2, .int u1_3, .int v4, .ref qf5, .ref qf6, .int v7, .int v8, .ref qf9, .int v10, .ref qf11, .ref qf12, .ref qf13, .int v14, .int v15])), (qf0, .inl (cf0, 1500, .inl g902_0))] H := hP
  replace hD : va_D A [(qf13, .inl (cf13, 100, .inl f13)), (qf11, .inl (cf11, 100, .inl f11)), (qf12, .inl (cf12, 5200, .inl f12)), (qf6, .inl (cf6, 750, .inl f6)), (qf2, .inl (cf2, 20, .inl f2)), (h0, .inr (1, [.ref qf0, .int u1_2, .ref qf2, .int u1_3, .int v4, .ref qf5, .ref qf6, .int v7, .int v8, .ref qf9, .int v10, .ref qf11, .ref qf12, .ref qf13, .int v14, .int v15])), (qf0, .inl (cf0, 1500, .inl g902_0))] := hD
  replace hK : va_K (dC, dI) vwCl [(cf13, .int), (cf11, .int), (cf12, .int), (cf6, .int), (cf2, .int), (cf0, .byte)] s := hK
  refine lv_aload_n hx hb dX1_jumpBack_13 rfl (lv_at hl 0 rfl) ?_
  refine lv_aload_n hx hb dX1_jumpBack_14 rfl (lv_at hl 0 rfl) ?_
  refine lv_iload_n hx hb dX1_jumpBack_15 rfl (lv_at hl 1 rfl) ?_
  obtain ⟨⟨u3_0, g903_1, g903_2, u3_3⟩, hu_3, hsp⟩ := ox_bind hsp
  try dsimp only at hsp
  have hPc := hP.sub (ws' := [(h0, .inr (1, [.ref qf0, .int u1_2, .ref qf2, .int u1_3, .int v4, .ref qf5, .ref qf6, .int v7, .int v8, .ref qf9, .int v10, .ref qf11, .ref qf12, .ref qf13, .int v14, .int v15])), (qf13, .inl (cf13, 100, .inl f13)), (qf11, .inl (cf11, 100, .inl f11))]) [5, 0, 1] rfl
  have hDc := hD.sub (ws' := [(h0, .inr (1, [.ref qf0, .int u1_2, .ref qf2, .int u1_3, .int v4, .ref qf5, .ref qf6, .int v7, .int v8, .ref qf9, .int v10, .ref qf11, .ref qf12, .ref qf13, .int v14, .int v15])), (qf13, .inl (cf13, 100, .inl f13)), (qf11, .inl (cf11, 100, .inl f11))]) [5, 0, 1] (by decide) rfl
  have hKc := hK.sub (tys' := [(cf13, .int), (cf11, .int)]) [0, 1] rfl
  have hFc := va_free (wc := [(h0, .inr (1, [.ref qf0, .int u1_2, .ref qf2, .int u1_3, .int v4, .ref qf5, .ref qf6, .int v7, .int v8, .ref qf9, .int v10, .ref qf11, .ref qf12, .ref qf13, .int v14, .int v15])), (qf13, .inl (cf13, 100, .inl f13)), (qf11, .inl (cf11, 100, .inl f11))]) hD hS hA [5, 0, 1] rfl
  refine va_calli (va_runV (As := [.int a1]) (rest := [.ref h0]) ⟨hx, hb, hml, hown, hts⟩ (v1_slotOfFrame l dC dI H.size h0 a1 qf0 u1_2 qf2 u1_3 v4 qf5 qf6 v7 v8 qf9 v10 qf11 qf12 qf13 v14 v15 cf13 f13 cf11 f11 nf u3_0 g903_1 g903_2 u3_3 hu_3) (cwV 1 hts gv_h7_106 rfl rfl rfl (by decide +kernel) ⟨Nat.le_of_ble_eq_true rfl, Nat.le_of_ble_eq_true rfl⟩) ⟨fun a U g mk q => by obtain ⟨q0, q1, qP, qK, qD⟩ := q; exact ⟨q0, q1, qP, va_K.moved (u := U) (U := U.calling g mk a) (Vm.Alike.refl U.vm) qK, qD⟩, va_recv hKc hPc (ci := 1) (q0 := 0) rfl rfl, fun U hU hW => ⟨rfl, by rw [hU], by rw [hU]; exact hPc, va_K.moved hW.alike hKc, hDc.weaken (fun _ _ _ _ => trivial)⟩⟩ rfl rfl hl.1 rfl (lv_room (Nat.le_of_ble_eq_true rfl)) dX1_jumpBack_16 ⟨Nat.le_of_ble_eq_true rfl, Nat.le_of_ble_eq_true rfl⟩) hS (fun q _ h => hFc q h) hFc ?_
  clear hS
  intro r_2 u t H1 locs ht hvm hw hB hz1 hk1 hS
  obtain ⟨⟩ := u
  obtain ⟨hP1, hK1, hD1⟩ := hB
  rw [ht] at hP1
  have hK1 := va_K.moved hvm.symm hK1
  try dsimp only at hw
  have hPD := va_join (wr := [(qf12, .inl (cf12, 5200, .inl f12)), (qf6, .inl (cf6, 750, .inl f6)), (qf2, .inl (cf2, 20, .inl f2)), (qf0, .inl (cf0, 1500, .inl g902_0))]) (w1 := [(h0, .inr (1, [.ref qf0, .int u1_2, .ref qf2, .int u1_3, .int v4, .ref qf5, .ref qf6, .int v7, .int v8, .ref qf9, .int v10, .ref qf11, .ref qf12, .ref qf13, .int u3_3, .int v15])), (qf13, .inl (cf13, 100, .inl g903_2)), (qf11, .inl (cf11, 100, .inl g903_1))]) hP hD [5, 0, 1] [2, 3, 4, 6] rfl rfl (by decide) (by decide) hk1 hFc hP1 hD1
  clear hP hD
  obtain ⟨hP, hD⟩ := hPD
  replace hK := (hK.sub (tys' := [(cf12, .int), (cf6, .int), (cf2, .int), (cf0, .byte)]) [2, 3, 4, 5] rfl).app hK1
  clear hPc hDc hKc hFc hP1 hK1 hD1 hz1 hk1 ht hvm
  generalize H1 = H at hP hS ⊢
  replace hP : va_P (dC, dI) vwCl [(qf12, .inl (cf12, 5200, .inl f12)), (qf6, .inl (cf6, 750, .inl f6)), (qf2, .inl (cf2, 20, .inl f2)), (qf0, .inl (cf0, 1500, .inl g902_0)), (h0, .inr (1, [.ref qf0, .int u1_2, .ref qf2, .int u1_3, .int v4, .ref qf5, .ref qf6, .int v7, .int v8, .ref qf9, .int v10, .ref qf11, .ref qf12, .ref qf13, .int u3_3, .int v15])), (qf13, .inl (cf13, 100, .inl g903_2)), (qf11, .inl (cf11, 100, .inl g903_1))] H := hP
  replace hD : va_D A [(qf12, .inl (cf12, 5200, .inl f12)), (qf6, .inl (cf6, 750, .inl f6)), (qf2, .inl (cf2, 20, .inl f2)), (qf0, .inl (cf0, 1500, .inl g902_0)), (h0, .inr (1, [.ref qf0, .int u1_2, .ref qf2, .int u1_3, .int v4, .ref qf5, .ref qf6, .int v7, .int v8, .ref qf9, .int v10, .ref qf11, .ref qf12, .ref qf13, .int u3_3, .int v15])), (qf13, .inl (cf13, 100, .inl g903_2)), (qf11, .inl (cf11, 100, .inl g903_1))] := hD
  replace hK : va_K (dC, dI) vwCl [(cf12, .int), (cf6, .int), (cf2, .int), (cf0, .byte), (cf13, .int), (cf11, .int)] s := hK
  obtain rfl := hw
  refine lv_iload_n hx hb dX1_jumpBack_19 rfl (lv_at hl 2 rfl) ?_
  refine lv_iconst (v := 0) hx hb dX1_jumpBack_20 (by decide) ?_
  obtain ⟨⟨g904_0, u4_1⟩, hu_4, hsp⟩ := ox_bind hsp
  try dsimp only at hsp
  have hPc := hP.sub (ws' := [(h0, .inr (1, [.ref qf0, .int u1_2, .ref qf2, .int u1_3, .int v4, .ref qf5, .ref qf6, .int v7, .int v8, .ref qf9, .int v10, .ref qf11, .ref qf12, .ref qf13, .int u3_3, .int v15])), (qf12, .inl (cf12, 5200, .inl f12)), (qf6, .inl (cf6, 750, .inl f6)), (qf2, .inl (cf2, 20, .inl f2))]) [4, 0, 1, 2] rfl
  have hDc := hD.sub (ws' := [(h0, .inr (1, [.ref qf0, .int u1_2, .ref qf2, .int u1_3, .int v4, .ref qf5, .ref qf6, .int v7, .int v8, .ref qf9, .int v10, .ref qf11, .ref qf12, .ref qf13, .int u3_3, .int v15])), (qf12, .inl (cf12, 5200, .inl f12)), (qf6, .inl (cf6, 750, .inl f6)), (qf2, .inl (cf2, 20, .inl f2))]) [4, 0, 1, 2] (by decide) rfl
  have hKc := hK.sub (tys' := [(cf12, .int), (cf6, .int), (cf2, .int)]) [0, 1, 2] rfl
  have hFc := va_free (wc := [(h0, .inr (1, [.ref qf0, .int u1_2, .ref qf2, .int u1_3, .int v4, .ref qf5, .ref qf6, .int v7, .int v8, .ref qf9, .int v10, .ref qf11, .ref qf12, .ref qf13, .int u3_3, .int v15])), (qf12, .inl (cf12, 5200, .inl f12)), (qf6, .inl (cf6, 750, .inl f6)), (qf2, .inl (cf2, 20, .inl f2))]) hD hS hA [4, 0, 1, 2] rfl
  refine va_callv (va_runV (As := [.int u3_0, .int a2, .int 0]) (rest := []) ⟨hx, hb, hml, hown, hts⟩ (v1_fillFrame l dC dI H.size h0 u3_0 a2 0 qf0 u1_2 qf2 u1_3 v4 qf5 qf6 v7 v8 qf9 v10 qf11 qf12 qf13 u3_3 v15 cf12 f12 cf6 f6 cf2 f2 nf g904_0 u4_1 hu_4) (cwV 3 hts gv_h7_107 rfl rfl rfl (by decide +kernel) ⟨Nat.le_of_ble_eq_true rfl, Nat.le_of_ble_eq_true rfl⟩) ⟨fun a U g mk q => by obtain ⟨q0, q1, qP, qK, qD⟩ := q; exact ⟨q0, q1, qP, va_K.moved (u := U) (U := U.calling g mk a) (Vm.Alike.refl U.vm) qK, qD⟩, va_recv hKc hPc (ci := 1) (q0 := 0) rfl rfl, fun U hU hW => ⟨rfl, by rw [hU], by rw [hU]; exact hPc, va_K.moved hW.alike hKc, hDc.weaken (fun _ _ _ _ => trivial)⟩⟩ rfl rfl hl.1 rfl (lv_room (Nat.le_of_ble_eq_true rfl)) dX1_jumpBack_21 ⟨Nat.le_of_ble_eq_true rfl, Nat.le_of_ble_eq_true rfl⟩) hS (fun q _ h => hFc q h) hFc ?_
  clear hS
  intro u t H1 locs ht hvm hw hB hz1 hk1 hS
  obtain ⟨⟩ := u
  obtain ⟨hP1, hK1, hD1⟩ := hB
  rw [ht] at hP1
  have hK1 := va_K.moved hvm.symm hK1
  try dsimp only at hw
  have hPD := va_join (wr := [(qf0, .inl (cf0, 1500, .inl g902_0)), (qf13, .inl (cf13, 100, .inl g903_2)), (qf11, .inl (cf11, 100, .inl g903_1))]) (w1 := [(h0, .inr (1, [.ref qf0, .int u1_2, .ref qf2, .int u1_3, .int v4, .ref qf5, .ref qf6, .int v7, .int v8, .ref qf9, .int v10, .ref qf11, .ref qf12, .ref qf13, .int u3_3, .int u4_1])), (qf12, .inl (cf12, 5200, .inl g904_0)), (qf6, .inl (cf6, 750, .inl f6)), (qf2, .inl (cf2, 20, .inl f2))]) hP hD [4, 0, 1, 2] [3, 5, 6] rfl rfl (by decide) (by decide) hk1 hFc hP1 hD1
  clear hP hD
  obtain ⟨hP, hD⟩ := hPD
  replace hK := (hK.sub (tys' := [(cf0, .byte), (cf13, .int), (cf11, .int)]) [3, 4, 5] rfl).app hK1
  clear hPc hDc hKc hFc hP1 hK1 hD1 hz1 hk1 ht hvm
  generalize H1 = H at hP hS ⊢
  replace hP : va_P (dC, dI) vwCl [(qf0, .inl (cf0, 1500, .inl g902_0)), (qf13, .inl (cf13, 100, .inl g903_2)), (qf11, .inl (cf11, 100, .inl g903_1)), (h0, .inr (1, [.ref qf0, .int u1_2, .ref qf2, .int u1_3, .int v4, .ref qf5, .ref qf6, .int v7, .int v8, .ref qf9, .int v10, .ref qf11, .ref qf12, .ref qf13, .int u3_3, .int u4_1])), (qf12, .inl (cf12, 5200, .inl g904_0)), (qf6, .inl (cf6, 750, .inl f6)), (qf2, .inl (cf2, 20, .inl f2))] H := hP
  replace hD : va_D A [(qf0, .inl (cf0, 1500, .inl g902_0)), (qf13, .inl (cf13, 100, .inl g903_2)), (qf11, .inl (cf11, 100, .inl g903_1)), (h0, .inr (1, [.ref qf0, .int u1_2, .ref qf2, .int u1_3, .int v4, .ref qf5, .ref qf6, .int v7, .int v8, .ref qf9, .int v10, .ref qf11, .ref qf12, .ref qf13, .int u3_3, .int u4_1])), (qf12, .inl (cf12, 5200, .inl g904_0)), (qf6, .inl (cf6, 750, .inl f6)), (qf2, .inl (cf2, 20, .inl f2))] := hD
  replace hK : va_K (dC, dI) vwCl [(cf0, .byte), (cf13, .int), (cf11, .int), (cf12, .int), (cf6, .int), (cf2, .int)] s := hK
  have hr0 := Option.some.inj hsp
  clear hsp
  obtain ⟨hq0, hr1⟩ := Prod.mk.inj hr0
  clear hr0
  obtain ⟨hq1, hr2⟩ := Prod.mk.inj hr1
  clear hr1
  obtain ⟨hq2, hr3⟩ := Prod.mk.inj hr2
  clear hr2
  obtain ⟨hq3, hr4⟩ := Prod.mk.inj hr3
  clear hr3
  obtain ⟨hq4, hr5⟩ := Prod.mk.inj hr4
  clear hr4
  obtain ⟨hq5, hr6⟩ := Prod.mk.inj hr5
  clear hr5
  obtain ⟨hq6, hr7⟩ := Prod.mk.inj hr6
  clear hr6
  subst hq0
  subst hq1
  subst hq2
  subst hq3
  subst hq4
  subst hq5
  subst hq6
  subst hr7
  have hP9 := hP.sub (ws' := [(h0, .inr (1, [.ref qf0, .int u1_2, .ref qf2, .int u1_3, .int v4, .ref qf5, .ref qf6, .int v7, .int v8, .ref qf9, .int v10, .ref qf11, .ref qf12, .ref qf13, .int u3_3, .int u4_1])), (qf0, .inl (cf0, 1500, .inl g902_0)), (qf13, .inl (cf13, 100, .inl g903_2)), (qf11, .inl (cf11, 100, .inl g903_1)), (qf12, .inl (cf12, 5200, .inl g904_0)), (qf6, .inl (cf6, 750, .inl f6)), (qf2, .inl (cf2, 20, .inl f2))]) [3, 0, 1, 2, 4, 5, 6] rfl
  have hD9 := hD.sub (ws' := [(h0, .inr (1, [.ref qf0, .int u1_2, .ref qf2, .int u1_3, .int v4, .ref qf5, .ref qf6, .int v7, .int v8, .ref qf9, .int v10, .ref qf11, .ref qf12, .ref qf13, .int u3_3, .int u4_1])), (qf0, .inl (cf0, 1500, .inl g902_0)), (qf13, .inl (cf13, 100, .inl g903_2)), (qf11, .inl (cf11, 100, .inl g903_1)), (qf12, .inl (cf12, 5200, .inl g904_0)), (qf6, .inl (cf6, 750, .inl f6)), (qf2, .inl (cf2, 20, .inl f2))]) [3, 0, 1, 2, 4, 5, 6] (by decide) rfl
  have hK9 := hK.sub (tys' := [(cf0, .byte), (cf13, .int), (cf11, .int), (cf12, .int), (cf6, .int), (cf2, .int)]) [0, 1, 2, 3, 4, 5] rfl
  exact W.vret hx hb hr (fun t ht hW => ⟨⟨(), rfl, trivial, by rw [ht]; exact hP9, va_K.moved hW.alike hK9, hD9⟩, hS.F ht⟩) hS.2.2 dX1_jumpBack_24
def sp_v1_aimHere (nf : Nat) (a1 : Int32) (v1 : Int32) (v3 : Int32) (v7 : Int32) (v14 : Int32) (v15 : Int32) (f0 : Nat → Int32) (f13 : Nat → Int32) (f11 : Nat → Int32) (f12 : Nat → Int32) (f6 : Nat → Int32) (f2 : Nat → Int32) : Option ((Nat → Int32) × (Nat → Int32) × (Nat → Int32) × (Nat → Int32) × Int32 × Int32) := ((sp_t1_aimAt nf a1 v1 f0).bind (fun p1 => ((sp_v1_slotOfFrame nf v1 v14 f13 f11).bind (fun p2 => ((sp_v1_fillFrame nf p2.1 v7 v3 v15 f12 f6 f2).bind (fun p3 => (some (p1, p2.2.1, p3.1, p2.2.2.1, p2.2.2.2, p3.2))))))))
set_option maxHeartbeats 4000000 in
set_option maxRecDepth 100000 in
/-- ClassMill$Code.aimHere -/
theorem v1_aimHere (l : Launch) (dC : Nat → ClassId) (dI : Nat → Nat → Nat) (sz : Nat) (h0 : Nat) (a1 : Int32) (qf0 : Nat) (v1 : Int32) (qf2 : Nat) (v3 : Int32) (v4 : Int32) (qf5 : Nat) (qf6 : Nat) (v7 : Int32) (v8 : Int32) (qf9 : Nat) (v10 : Int32) (qf11 : Nat) (qf12 : Nat) (qf13 : Nat) (v14 : Int32) (v15 : Int32) (cf0 : ClassId) (f0 : (Nat → Int32)) (cf13 : ClassId) (f13 : (Nat → Int32)) (cf11 : ClassId) (f11 : (Nat → Int32)) (cf12 : ClassId) (f12 : (Nat → Int32)) (cf6 : ClassId) (f6 : (Nat → Int32)) (cf2 : ClassId) (f2 : (Nat → Int32)) (nf : Nat) (o0 : (Nat → Int32)) (o11 : (Nat → Int32)) (o12 : (Nat → Int32)) (o13 : (Nat → Int32)) (w14 : Int32) (w15 : Int32) (hsp : sp_v1_aimHere nf a1 v1 v3 v7 v14 v15 f0 f13 f11 f12 f6 f2 = some (o0, o11, o12, o13, w14, w15)) : Met l yX1_aimHere (.code yX1_aimHere cX1_aimHere 2 none :: VS_h7) ({ frames := 2, cells := 0, slots := 0, locals := 64 }) (va_Pc [.ref h0, .int a1] (fun U => U.heap.size = sz ∧ va_P (dC, dI) vwCl [(h0, .inr (1, [.ref qf0, .int v1, .ref qf2, .int v3, .int v4, .ref qf5, .ref qf6, .int v7, .int v8, .ref qf9, .int v10, .ref qf11, .ref qf12, .ref qf13, .int v14, .int v15])), (qf0, .inl (cf0, 1500, .inl f0)), (qf13, .inl (cf13, 100, .inl f13)), (qf11, .inl (cf11, 100, .inl f11)), (qf12, .inl (cf12, 5200, .inl f12)), (qf6, .inl (cf6, 750, .inl f6)), (qf2, .inl (cf2, 20, .inl f2))] U.heap ∧ va_K (dC, dI) vwCl [(cf0, .byte), (cf13, .int), (cf11, .int), (cf12, .int), (cf6, .int), (cf2, .int)] U ∧ va_D (fun _ => True) [(h0, .inr (1, [.ref qf0, .int v1, .ref qf2, .int v3, .int v4, .ref qf5, .ref qf6, .int v7, .int v8, .ref qf9, .int v10, .ref qf11, .ref qf12, .ref qf13, .int v14, .int v15])), (qf0, .inl (cf0, 1500, .inl f0)), (qf13, .inl (cf13, 100, .inl f13)), (qf11, .inl (cf11, 100, .inl f11)), (qf12, .inl (cf12, 5200, .inl f12)), (qf6, .inl (cf6, 750, .inl f6)), (qf2, .inl (cf2, 20, .inl f2))])) (va_Qv (fun (u : Unit) => match u with | () => True) (fun (u : Unit) (t : State) => match u with | () => va_P (dC, dI) vwCl [(h0, .inr (1, [.ref qf0, .int v1, .ref qf2, .int v3, .int v4, .ref qf5, .ref qf6, .int v7, .int v8, .ref qf9, .int v10, .ref qf11, .ref qf12, .ref qf13, .int w14, .int w15])), (qf0, .inl (cf0, 1500, .inl o0)), (qf13, .inl (cf13, 100, .inl o13)), (qf11, .inl (cf11, 100, .inl o11)), (qf12, .inl (cf12, 5200, .inl o12)), (qf6, .inl (cf6, 750, .inl f6)), (qf2, .inl (cf2, 20, .inl f2))] t.heap ∧ va_K (dC, dI) vwCl [(cf0, .byte), (cf13, .int), (cf11, .int), (cf12, .int), (cf6, .int), (cf2, .int)] t ∧ va_D (va_A [(h0, .inr (1, [.ref qf0, .int v1, .ref qf2, .int v3, .int v4, .ref qf5, .ref qf6, .int v7, .int v8, .ref qf9, .int v10, .ref qf11, .ref qf12, .ref qf13, .int v14, .int v15])), (qf0, .inl (cf0, 1500, .inl f0)), (qf13, .inl (cf13, 100, .inl f13)), (qf11, .inl (cf11, 100, .inl f11)), (qf12, .inl (cf12, 5200, .inl f12)), (qf6, .inl (cf6, 750, .inl f6)), (qf2, .inl (cf2, 20, .inl f2))] sz) [(h0, .inr (1, [.ref qf0, .int v1, .ref qf2, .int v3, .int v4, .ref qf5, .ref qf6, .int v7, .int v8, .ref qf9, .int v10, .ref qf11, .ref qf12, .ref qf13, .int w14, .int w15])), (qf0, .inl (cf0, 1500, .inl o0)), (qf13, .inl (cf13, 100, .inl o13)), (qf11, .inl (cf11, 100, .inl o11)), (qf12, .inl (cf12, 5200, .inl o12)), (qf6, .inl (cf6, 750, .inl f6)), (qf2, .inl (cf2, 20, .inl f2))]) (va_A [(h0, .inr (1, [.ref qf0, .int v1, .ref qf2, .int v3, .int v4, .ref qf5, .ref qf6, .int v7, .int v8, .ref qf9, .int v10, .ref qf11, .ref qf12, .ref qf13, .int v14, .int v15])), (qf0, .inl (cf0, 1500, .inl f0)), (qf13, .inl (cf13, 100, .inl f13)), (qf11, .inl (cf11, 100, .inl f11)), (qf12, .inl (cf12, 5200, .inl f12)), (qf6, .inl (cf6, 750, .inl f6)), (qf2, .inl (cf2, 20, .inl f2))] sz)) 0 0 (va_A [(h0, .inr (1, [.ref qf0, .int v1, .ref qf2, .int v3, .int v4, .ref qf5, .ref qf6, .int v7, .int v8, .ref qf9, .int v10, .ref qf11, .ref qf12, .ref qf13, .int v14, .int v15])), (qf0, .inl (cf0, 1500, .inl f0)), (qf13, .inl (cf13, 100, .inl f13)), (qf11, .inl (cf11, 100, .inl f11)), (qf12, .inl (cf12, 5200, .inl f12)), (qf6, .inl (cf6, 750, .inl f6)), (qf2, .inl (cf2, 20, .inl f2))] sz) := by
  refine Met.ofW (cc := cX1_aimHere) (maxL := 2) (ret := none) (by decide) rfl ?_
  intro p e s m args below meth c s₁ B hml hv
  obtain ⟨rfl, hsz, hP, hK, hD0⟩ := hv
  have hx := B.exec
  have hb := B.bytes
  have hr := B.returns
  have hts := atoms_spec (ws := (.code yX1_aimHere cX1_aimHere 2 none :: VS_h7)) B.pre
  replace hts := fun w (h : w ∈ VS_h7) => hts w (List.mem_cons_of_mem _ h)
  have hown : s.vm.findClass RX1 = some m.cls := findClass_of_methodNamed B.named
  have hlocks := B.notSynchronized
  subst hsz
  have hD := hD0.self (sz := s.heap.size)
  generalize hAe : va_A [(h0, .inr (1, [.ref qf0, .int v1, .ref qf2, .int v3, .int v4, .ref qf5, .ref qf6, .int v7, .int v8, .ref qf9, .int v10, .ref qf11, .ref qf12, .ref qf13, .int v14, .int v15])), (qf0, .inl (cf0, 1500, .inl f0)), (qf13, .inl (cf13, 100, .inl f13)), (qf11, .inl (cf11, 100, .inl f11)), (qf12, .inl (cf12, 5200, .inl f12)), (qf6, .inl (cf6, 750, .inl f6)), (qf2, .inl (cf2, 20, .inl f2))] s.heap.size = A at hD  ⊢
  have hA : ∀ q : Nat, s.heap.size ≤ q → A q := fun q h => by rw [← hAe]; exact Or.inr h
  have hP : va_P (dC, dI) vwCl [(h0, .inr (1, [.ref qf0, .int v1, .ref qf2, .int v3, .int v4, .ref qf5, .ref qf6, .int v7, .int v8, .ref qf9, .int v10, .ref qf11, .ref qf12, .ref qf13, .int v14, .int v15])), (qf0, .inl (cf0, 1500, .inl f0)), (qf13, .inl (cf13, 100, .inl f13)), (qf11, .inl (cf11, 100, .inl f11)), (qf12, .inl (cf12, 5200, .inl f12)), (qf6, .inl (cf6, 750, .inl f6)), (qf2, .inl (cf2, 20, .inl f2))] s.heap := hP
  have hl := lv_entry ([.ref h0, .int a1]) (n := 2) (Nat.le_of_ble_eq_true rfl)
  rw [lg_entry_eq]
  generalize (lg_sl ([.ref h0, .int a1]) ++ List.replicate (2 - (lg_sl ([.ref h0, .int a1])).length) Slot.unset).toArray = ls at hl ⊢
  have hl : lv_has ls 2 [(0, .ref h0), (1, .int a1)] := hl
  obtain ⟨H, hH⟩ : ∃ H : Heap, s.heap = H := ⟨_, rfl⟩
  rw [hH] at hP ⊢
  have hS : va_S A s.heap H [] := by rw [← hH]; exact va_S.rf
  obtain ⟨locs, hlo⟩ : ∃ locs : List Loc, locs = [] := ⟨_, rfl⟩
  rw [← hlo] at hS ⊢
  unfold sp_v1_aimHere at hsp
  refine lv_aload_n hx hb dX1_aimHere_0 rfl (lv_at hl 0 rfl) ?_
  refine lv_iload_n hx hb dX1_aimHere_1 rfl (lv_at hl 1 rfl) ?_
  refine lv_aload_n hx hb dX1_aimHere_2 rfl (lv_at hl 0 rfl) ?_
  refine va_get (D := (dC, dI)) (ci := 1) (v := .int v1) (C := RX1) (T := TX1) (N := 16) hx hb hts uV_h7_X1 hown hK hP 0 rfl rfl 1 (by decide) (hts (.fieldLink RX1 39 "ClassMill$Code" "length" "I") mw_h7_57) (fun _ h9 => h9) rfl dX1_aimHere_3 ?_
  obtain ⟨g901_0, hu_1, hsp⟩ := ox_bind hsp
  try dsimp only at hsp
  have hPc := hP.sub (ws' := [(h0, .inr (1, [.ref qf0, .int v1, .ref qf2, .int v3, .int v4, .ref qf5, .ref qf6, .int v7, .int v8, .ref qf9, .int v10, .ref qf11, .ref qf12, .ref qf13, .int v14, .int v15])), (qf0, .inl (cf0, 1500, .inl f0))]) [0, 1] rfl
  have hDc := hD.sub (ws' := [(h0, .inr (1, [.ref qf0, .int v1, .ref qf2, .int v3, .int v4, .ref qf5, .ref qf6, .int v7, .int v8, .ref qf9, .int v10, .ref qf11, .ref qf12, .ref qf13, .int v14, .int v15])), (qf0, .inl (cf0, 1500, .inl f0))]) [0, 1] (by decide) rfl
  have hKc := hK.sub (tys' := [(cf0, .byte)]) [0] rfl
  have hFc := va_free (wc := [(h0, .inr (1, [.ref qf0, .int v1, .ref qf2, .int v3, .int v4, .ref qf5, .ref qf6, .int v7, .int v8, .ref qf9, .int v10, .ref qf11, .ref qf12, .ref qf13, .int v14, .int v15])), (qf0, .inl (cf0, 1500, .inl f0))]) hD hS hA [0, 1] rfl
  refine va_callv (va_runV (As := [.int a1, .int v1]) (rest := []) ⟨hx, hb, hml, hown, hts⟩ (t1_aimAt l dC dI H.size h0 a1 v1 qf0 v1 qf2 v3 v4 qf5 qf6 v7 v8 qf9 v10 qf11 qf12 qf13 v14 v15 cf0 f0 nf g901_0 hu_1) (cwV 2 hts gv_h7_2 rfl rfl rfl (by decide +kernel) ⟨Nat.le_of_ble_eq_true rfl, Nat.le_of_ble_eq_true rfl⟩) ⟨fun a U g mk q => by obtain ⟨q0, q1, qP, qK, qD⟩ := q; exact ⟨q0, q1, qP, va_K.moved (u := U) (U := U.calling g mk a) (Vm.Alike.refl U.vm) qK, qD⟩, va_recv hKc hPc (ci := 1) (q0 := 0) rfl rfl, fun U hU hW => ⟨rfl, by rw [hU], by rw [hU]; exact hPc, va_K.moved hW.alike hKc, hDc.weaken (fun _ _ _ _ => trivial)⟩⟩ rfl rfl hl.1 rfl (lv_room (Nat.le_of_ble_eq_true rfl)) dX1_aimHere_6 ⟨Nat.le_of_ble_eq_true rfl, Nat.le_of_ble_eq_true rfl⟩) hS (fun q _ h => hFc q h) hFc ?_
  clear hS
  intro u t H1 locs ht hvm hw hB hz1 hk1 hS
  obtain ⟨⟩ := u
  obtain ⟨hP1, hK1, hD1⟩ := hB
  rw [ht] at hP1
  have hK1 := va_K.moved hvm.symm hK1
  try dsimp only at hw
  have hPD := va_join (wr := [(qf13, .inl (cf13, 100, .inl f13)), (qf11, .inl (cf11, 100, .inl f11)), (qf12, .inl (cf12, 5200, .inl f12)), (qf6, .inl (cf6, 750, .inl f6)), (qf2, .inl (cf2, 20, .inl f2))]) (w1 := [(h0, .inr (1, [.ref qf0, .int v1, .ref qf2, .int v3, .int v4, .ref qf5, .ref qf6, .int v7, .int v8, .ref qf9, .int v10, .ref qf11, .ref qf12, .ref qf13, .int v14, .int v15])), (qf0, .inl (cf0, 1500, .inl g901_0))]) hP hD [0, 1] [2, 3, 4, 5, 6] rfl rfl (by decide) (by decide) hk1 hFc hP1 hD1
  clear hP hD
  obtain ⟨hP, hD⟩ := hPD
  replace hK := (hK.sub (tys' := [(cf13, .int), (cf11, .int), (cf12, .int), (cf6, .int), (cf2, .int)]) [1, 2, 3, 4, 5] rfl).app hK1
  clear hPc hDc hKc hFc hP1 hK1 hD1 hz1 hk1 ht hvm
  generalize H1 = H at hP hS ⊢
  replace hP : va_P (dC, dI) vwCl [(qf13, .inl (cf13, 100, .inl f13)), (qf11, .inl (cf11, 100, .inl f11)), (qf12, .inl (cf12, 5200, .inl f12)), (qf6, .inl (cf6, 750, .inl f6)), (qf2, .inl (cf2, 20, .inl f2)), (h0, .inr (1, [.ref qf0, .int v1, .ref qf2, .int v3, .int v4, .ref qf5, .ref qf6, .int v7, .int v8, .ref qf9, .int v10, .ref qf11, .ref qf12, .ref qf13, .int v14, .int v15])), (qf0, .inl (cf0, 1500, .inl g901_0))] H := hP
  replace hD : va_D A [(qf13, .inl (cf13, 100, .inl f13)), (qf11, .inl (cf11, 100, .inl f11)), (qf12, .inl (cf12, 5200, .inl f12)), (qf6, .inl (cf6, 750, .inl f6)), (qf2, .inl (cf2, 20, .inl f2)), (h0, .inr (1, [.ref qf0, .int v1, .ref qf2, .int v3, .int v4, .ref qf5, .ref qf6, .int v7, .int v8, .ref qf9, .int v10, .ref qf11, .ref qf12, .ref qf13, .int v14, .int v15])), (qf0, .inl (cf0, 1500, .inl g901_0))] := hD
  replace hK : va_K (dC, dI) vwCl [(cf13, .int), (cf11, .int), (cf12, .int), (cf6, .int), (cf2, .int), (cf0, .byte)] s := hK
  refine lv_aload_n hx hb dX1_aimHere_9 rfl (lv_at hl 0 rfl) ?_
  refine lv_aload_n hx hb dX1_aimHere_10 rfl (lv_at hl 0 rfl) ?_
  refine lv_aload_n hx hb dX1_aimHere_11 rfl (lv_at hl 0 rfl) ?_
  refine va_get (D := (dC, dI)) (ci := 1) (v := .int v1) (C := RX1) (T := TX1) (N := 16) hx hb hts uV_h7_X1 hown hK hP 5 rfl rfl 1 (by decide) (hts (.fieldLink RX1 39 "ClassMill$Code" "length" "I") mw_h7_57) (fun _ h9 => h9) rfl dX1_aimHere_12 ?_
  obtain ⟨⟨u2_0, g902_1, g902_2, u2_3⟩, hu_2, hsp⟩ := ox_bind hsp
  try dsimp only at hsp
  have hPc := hP.sub (ws' := [(h0, .inr (1, [.ref qf0, .int v1, .ref qf2, .int v3, .int v4, .ref qf5, .ref qf6, .int v7, .int v8, .ref qf9, .int v10, .ref qf11, .ref qf12, .ref qf13, .int v14, .int v15])), (qf13, .inl (cf13, 100, .inl f13)), (qf11, .inl (cf11, 100, .inl f11))]) [5, 0, 1] rfl
  have hDc := hD.sub (ws' := [(h0, .inr (1, [.ref qf0, .int v1, .ref qf2, .int v3, .int v4, .ref qf5, .ref qf6, .int v7, .int v8, .ref qf9, .int v10, .ref qf11, .ref qf12, .ref qf13, .int v14, .int v15])), (qf13, .inl (cf13, 100, .inl f13)), (qf11, .inl (cf11, 100, .inl f11))]) [5, 0, 1] (by decide) rfl
  have hKc := hK.sub (tys' := [(cf13, .int), (cf11, .int)]) [0, 1] rfl
  have hFc := va_free (wc := [(h0, .inr (1, [.ref qf0, .int v1, .ref qf2, .int v3, .int v4, .ref qf5, .ref qf6, .int v7, .int v8, .ref qf9, .int v10, .ref qf11, .ref qf12, .ref qf13, .int v14, .int v15])), (qf13, .inl (cf13, 100, .inl f13)), (qf11, .inl (cf11, 100, .inl f11))]) hD hS hA [5, 0, 1] rfl
  refine va_calli (va_runV (As := [.int v1]) (rest := [.ref h0]) ⟨hx, hb, hml, hown, hts⟩ (v1_slotOfFrame l dC dI H.size h0 v1 qf0 v1 qf2 v3 v4 qf5 qf6 v7 v8 qf9 v10 qf11 qf12 qf13 v14 v15 cf13 f13 cf11 f11 nf u2_0 g902_1 g902_2 u2_3 hu_2) (cwV 1 hts gv_h7_106 rfl rfl rfl (by decide +kernel) ⟨Nat.le_of_ble_eq_true rfl, Nat.le_of_ble_eq_true rfl⟩) ⟨fun a U g mk q => by obtain ⟨q0, q1, qP, qK, qD⟩ := q; exact ⟨q0, q1, qP, va_K.moved (u := U) (U := U.calling g mk a) (Vm.Alike.refl U.vm) qK, qD⟩, va_recv hKc hPc (ci := 1) (q0 := 0) rfl rfl, fun U hU hW => ⟨rfl, by rw [hU], by rw [hU]; exact hPc, va_K.moved hW.alike hKc, hDc.weaken (fun _ _ _ _ => trivial)⟩⟩ rfl rfl hl.1 rfl (lv_room (Nat.le_of_ble_eq_true rfl)) dX1_aimHere_15 ⟨Nat.le_of_ble_eq_true rfl, Nat.le_of_ble_eq_true rfl⟩) hS (fun q _ h => hFc q h) hFc ?_
  clear hS
  intro r_1 u t H1 locs ht hvm hw hB hz1 hk1 hS
  obtain ⟨⟩ := u
  obtain ⟨hP1, hK1, hD1⟩ := hB
  rw [ht] at hP1
  have hK1 := va_K.moved hvm.symm hK1
  try dsimp only at hw
  have hPD := va_join (wr := [(qf12, .inl (cf12, 5200, .inl f12)), (qf6, .inl (cf6, 750, .inl f6)), (qf2, .inl (cf2, 20, .inl f2)), (qf0, .inl (cf0, 1500, .inl g901_0))]) (w1 := [(h0, .inr (1, [.ref qf0, .int v1, .ref qf2, .int v3, .int v4, .ref qf5, .ref qf6, .int v7, .int v8, .ref qf9, .int v10, .ref qf11, .ref qf12, .ref qf13, .int u2_3, .int v15])), (qf13, .inl (cf13, 100, .inl g902_2)), (qf11, .inl (cf11, 100, .inl g902_1))]) hP hD [5, 0, 1] [2, 3, 4, 6] rfl rfl (by decide) (by decide) hk1 hFc hP1 hD1
  clear hP hD
  obtain ⟨hP, hD⟩ := hPD
  replace hK := (hK.sub (tys' := [(cf12, .int), (cf6, .int), (cf2, .int), (cf0, .byte)]) [2, 3, 4, 5] rfl).app hK1
  clear hPc hDc hKc hFc hP1 hK1 hD1 hz1 hk1 ht hvm
  generalize H1 = H at hP hS ⊢
  replace hP : va_P (dC, dI) vwCl [(qf12, .inl (cf12, 5200, .inl f12)), (qf6, .inl (cf6, 750, .inl f6)), (qf2, .inl (cf2, 20, .inl f2)), (qf0, .inl (cf0, 1500, .inl g901_0)), (h0, .inr (1, [.ref qf0, .int v1, .ref qf2, .int v3, .int v4, .ref qf5, .ref qf6, .int v7, .int v8, .ref qf9, .int v10, .ref qf11, .ref qf12, .ref qf13, .int u2_3, .int v15])), (qf13, .inl (cf13, 100, .inl g902_2)), (qf11, .inl (cf11, 100, .inl g902_1))] H := hP
  replace hD : va_D A [(qf12, .inl (cf12, 5200, .inl f12)), (qf6, .inl (cf6, 750, .inl f6)), (qf2, .inl (cf2, 20, .inl f2)), (qf0, .inl (cf0, 1500, .inl g901_0)), (h0, .inr (1, [.ref qf0, .int v1, .ref qf2, .int v3, .int v4, .ref qf5, .ref qf6, .int v7, .int v8, .ref qf9, .int v10, .ref qf11, .ref qf12, .ref qf13, .int u2_3, .int v15])), (qf13, .inl (cf13, 100, .inl g902_2)), (qf11, .inl (cf11, 100, .inl g902_1))] := hD
  replace hK : va_K (dC, dI) vwCl [(cf12, .int), (cf6, .int), (cf2, .int), (cf0, .byte), (cf13, .int), (cf11, .int)] s := hK
  obtain rfl := hw
  refine lv_aload_n hx hb dX1_aimHere_18 rfl (lv_at hl 0 rfl) ?_
  refine va_get (D := (dC, dI)) (ci := 1) (v := .int v7) (C := RX1) (T := TX1) (N := 16) hx hb hts uV_h7_X1 hown hK hP 4 rfl rfl 7 (by decide) (hts (.fieldLink RX1 49 "ClassMill$Code" "sight" "I") mw_h7_441) (fun _ h9 => h9) rfl dX1_aimHere_19 ?_
  refine lv_aload_n hx hb dX1_aimHere_22 rfl (lv_at hl 0 rfl) ?_
  refine va_get (D := (dC, dI)) (ci := 1) (v := .int v3) (C := RX1) (T := TX1) (N := 16) hx hb hts uV_h7_X1 hown hK hP 4 rfl rfl 3 (by decide) (hts (.fieldLink RX1 43 "ClassMill$Code" "height" "I") mw_h7_442) (fun _ h9 => h9) rfl dX1_aimHere_23 ?_
  obtain ⟨⟨g903_0, u3_1⟩, hu_3, hsp⟩ := ox_bind hsp
  try dsimp only at hsp
  have hPc := hP.sub (ws' := [(h0, .inr (1, [.ref qf0, .int v1, .ref qf2, .int v3, .int v4, .ref qf5, .ref qf6, .int v7, .int v8, .ref qf9, .int v10, .ref qf11, .ref qf12, .ref qf13, .int u2_3, .int v15])), (qf12, .inl (cf12, 5200, .inl f12)), (qf6, .inl (cf6, 750, .inl f6)), (qf2, .inl (cf2, 20, .inl f2))]) [4, 0, 1, 2] rfl
  have hDc := hD.sub (ws' := [(h0, .inr (1, [.ref qf0, .int v1, .ref qf2, .int v3, .int v4, .ref qf5, .ref qf6, .int v7, .int v8, .ref qf9, .int v10, .ref qf11, .ref qf12, .ref qf13, .int u2_3, .int v15])), (qf12, .inl (cf12, 5200, .inl f12)), (qf6, .inl (cf6, 750, .inl f6)), (qf2, .inl (cf2, 20, .inl f2))]) [4, 0, 1, 2] (by decide) rfl
  have hKc := hK.sub (tys' := [(cf12, .int), (cf6, .int), (cf2, .int)]) [0, 1, 2] rfl
  have hFc := va_free (wc := [(h0, .inr (1, [.ref qf0, .int v1, .ref qf2, .int v3, .int v4, .ref qf5, .ref qf6, .int v7, .int v8, .ref qf9, .int v10, .ref qf11, .ref qf12, .ref qf13, .int u2_3, .int v15])), (qf12, .inl (cf12, 5200, .inl f12)), (qf6, .inl (cf6, 750, .inl f6)), (qf2, .inl (cf2, 20, .inl f2))]) hD hS hA [4, 0, 1, 2] rfl
  refine va_callv (va_runV (As := [.int u2_0, .int v7, .int v3]) (rest := []) ⟨hx, hb, hml, hown, hts⟩ (v1_fillFrame l dC dI H.size h0 u2_0 v7 v3 qf0 v1 qf2 v3 v4 qf5 qf6 v7 v8 qf9 v10 qf11 qf12 qf13 u2_3 v15 cf12 f12 cf6 f6 cf2 f2 nf g903_0 u3_1 hu_3) (cwV 3 hts gv_h7_107 rfl rfl rfl (by decide +kernel) ⟨Nat.le_of_ble_eq_true rfl, Nat.le_of_ble_eq_true rfl⟩) ⟨fun a U g mk q => by obtain ⟨q0, q1, qP, qK, qD⟩ := q; exact ⟨q0, q1, qP, va_K.moved (u := U) (U := U.calling g mk a) (Vm.Alike.refl U.vm) qK, qD⟩, va_recv hKc hPc (ci := 1) (q0 := 0) rfl rfl, fun U hU hW => ⟨rfl, by rw [hU], by rw [hU]; exact hPc, va_K.moved hW.alike hKc, hDc.weaken (fun _ _ _ _ => trivial)⟩⟩ rfl rfl hl.1 rfl (lv_room (Nat.le_of_ble_eq_true rfl)) dX1_aimHere_26 ⟨Nat.le_of_ble_eq_true rfl, Nat.le_of_ble_eq_true rfl⟩) hS (fun q _ h => hFc q h) hFc ?_
  clear hS
  intro u t H1 locs ht hvm hw hB hz1 hk1 hS
  obtain ⟨⟩ := u
  obtain ⟨hP1, hK1, hD1⟩ := hB
  rw [ht] at hP1
  have hK1 := va_K.moved hvm.symm hK1
  try dsimp only at hw
  have hPD := va_join (wr := [(qf0, .inl (cf0, 1500, .inl g901_0)), (qf13, .inl (cf13, 100, .inl g902_2)), (qf11, .inl (cf11, 100, .inl g902_1))]) (w1 := [(h0, .inr (1, [.ref qf0, .int v1, .ref qf2, .int v3, .int v4, .ref qf5, .ref qf6, .int v7, .int v8, .ref qf9, .int v10, .ref qf11, .ref qf12, .ref qf13, .int u2_3, .int u3_1])), (qf12, .inl (cf12, 5200, .inl g903_0)), (qf6, .inl (cf6, 750, .inl f6)), (qf2, .inl (cf2, 20, .inl f2))]) hP hD [4, 0, 1, 2] [3, 5, 6] rfl rfl (by decide) (by decide) hk1 hFc hP1 hD1
  clear hP hD
  obtain ⟨hP, hD⟩ := hPD
  replace hK := (hK.sub (tys' := [(cf0, .byte), (cf13, .int), (cf11, .int)]) [3, 4, 5] rfl).app hK1
  clear hPc hDc hKc hFc hP1 hK1 hD1 hz1 hk1 ht hvm
  generalize H1 = H at hP hS ⊢
  replace hP : va_P (dC, dI) vwCl [(qf0, .inl (cf0, 1500, .inl g901_0)), (qf13, .inl (cf13, 100, .inl g902_2)), (qf11, .inl (cf11, 100, .inl g902_1)), (h0, .inr (1, [.ref qf0, .int v1, .ref qf2, .int v3, .int v4, .ref qf5, .ref qf6, .int v7, .int v8, .ref qf9, .int v10, .ref qf11, .ref qf12, .ref qf13, .int u2_3, .int u3_1])), (qf12, .inl (cf12, 5200, .inl g903_0)), (qf6, .inl (cf6, 750, .inl f6)), (qf2, .inl (cf2, 20, .inl f2))] H := hP
  replace hD : va_D A [(qf0, .inl (cf0, 1500, .inl g901_0)), (qf13, .inl (cf13, 100, .inl g902_2)), (qf11, .inl (cf11, 100, .inl g902_1)), (h0, .inr (1, [.ref qf0, .int v1, .ref qf2, .int v3, .int v4, .ref qf5, .ref qf6, .int v7, .int v8, .ref qf9, .int v10, .ref qf11, .ref qf12, .ref qf13, .int u2_3, .int u3_1])), (qf12, .inl (cf12, 5200, .inl g903_0)), (qf6, .inl (cf6, 750, .inl f6)), (qf2, .inl (cf2, 20, .inl f2))] := hD
  replace hK : va_K (dC, dI) vwCl [(cf0, .byte), (cf13, .int), (cf11, .int), (cf12, .int), (cf6, .int), (cf2, .int)] s := hK
  have hr0 := Option.some.inj hsp
  clear hsp
  obtain ⟨hq0, hr1⟩ := Prod.mk.inj hr0
  clear hr0
  obtain ⟨hq1, hr2⟩ := Prod.mk.inj hr1
  clear hr1
  obtain ⟨hq2, hr3⟩ := Prod.mk.inj hr2
  clear hr2
  obtain ⟨hq3, hr4⟩ := Prod.mk.inj hr3
  clear hr3
  obtain ⟨hq4, hr5⟩ := Prod.mk.inj hr4
  clear hr4
  subst hq0
  subst hq1
  subst hq2
  subst hq3
  subst hq4
  subst hr5
  have hP9 := hP.sub (ws' := [(h0, .inr (1, [.ref qf0, .int v1, .ref qf2, .int v3, .int v4, .ref qf5, .ref qf6, .int v7, .int v8, .ref qf9, .int v10, .ref qf11, .ref qf12, .ref qf13, .int u2_3, .int u3_1])), (qf0, .inl (cf0, 1500, .inl g901_0)), (qf13, .inl (cf13, 100, .inl g902_2)), (qf11, .inl (cf11, 100, .inl g902_1)), (qf12, .inl (cf12, 5200, .inl g903_0)), (qf6, .inl (cf6, 750, .inl f6)), (qf2, .inl (cf2, 20, .inl f2))]) [3, 0, 1, 2, 4, 5, 6] rfl
  have hD9 := hD.sub (ws' := [(h0, .inr (1, [.ref qf0, .int v1, .ref qf2, .int v3, .int v4, .ref qf5, .ref qf6, .int v7, .int v8, .ref qf9, .int v10, .ref qf11, .ref qf12, .ref qf13, .int u2_3, .int u3_1])), (qf0, .inl (cf0, 1500, .inl g901_0)), (qf13, .inl (cf13, 100, .inl g902_2)), (qf11, .inl (cf11, 100, .inl g902_1)), (qf12, .inl (cf12, 5200, .inl g903_0)), (qf6, .inl (cf6, 750, .inl f6)), (qf2, .inl (cf2, 20, .inl f2))]) [3, 0, 1, 2, 4, 5, 6] (by decide) rfl
  have hK9 := hK.sub (tys' := [(cf0, .byte), (cf13, .int), (cf11, .int), (cf12, .int), (cf6, .int), (cf2, .int)]) [0, 1, 2, 3, 4, 5] rfl
  exact W.vret hx hb hr (fun t ht hW => ⟨⟨(), rfl, trivial, by rw [ht]; exact hP9, va_K.moved hW.alike hK9, hD9⟩, hS.F ht⟩) hS.2.2 dX1_aimHere_29
def sp_v1_truth (nf : Nat) (a1 : Int32) (a2 : Int32) (v1 : Int32) (v3 : Int32) (v4 : Int32) (v7 : Int32) (v14 : Int32) (v15 : Int32) (f0 : Nat → Int32) (f2 : Nat → Int32) (f13 : Nat → Int32) (f11 : Nat → Int32) (f12 : Nat → Int32) (f6 : Nat → Int32) : Option ((Nat → Int32) × (Nat → Int32) × (Nat → Int32) × (Nat → Int32) × (Nat → Int32) × Int32 × Int32 × Int32 × Int32 × Int32) := ((sp_t1_jump nf a1 a2 v1 v3 f0).bind (fun p1 => ((sp_t1_push nf 302 p1.2.2.2 v4 f2).bind (fun p2 => ((sp_t1_op nf 3 p1.2.2.1 p1.2.1).bind (fun p3 => ((sp_t1_jump nf 167 0 p3.2 p2.2.1 p3.1).bind (fun p4 => ((sp_t1_pop nf 1 p4.2.2.2).bind (fun p5 => ((sp_v1_aimHere nf p1.1 p4.2.2.1 p5 v7 v14 v15 p4.2.1 f13 f11 f12 f6 p2.1).bind (fun p6 => ((sp_t1_push nf 302 p5 p2.2.2 p2.1).bind (fun p7 => ((sp_t1_op nf 4 p4.2.2.1 p6.1).bind (fun p8 => ((sp_v1_aimHere nf p4.1 p8.2 p7.2.1 v7 p6.2.2.2.2.1 p6.2.2.2.2.2 p8.1 p6.2.2.2.1 p6.2.1 p6.2.2.1 f6 p7.1).bind (fun p9 => (some (p9.1, p9.2.1, p9.2.2.1, p9.2.2.2.1, p7.1, p8.2, p9.2.2.2.2.1, p9.2.2.2.2.2, p7.2.1, p7.2.2))))))))))))))))))))
set_option maxHeartbeats 4000000 in
set_option maxRecDepth 100000 in
/-- ClassMill$Code.truth -/
theorem v1_truth (l : Launch) (dC : Nat → ClassId) (dI : Nat → Nat → Nat) (sz : Nat) (h0 : Nat) (a1 : Int32) (a2 : Int32) (qf0 : Nat) (v1 : Int32) (qf2 : Nat) (v3 : Int32) (v4 : Int32) (qf5 : Nat) (qf6 : Nat) (v7 : Int32) (v8 : Int32) (qf9 : Nat) (v10 : Int32) (qf11 : Nat) (qf12 : Nat) (qf13 : Nat) (v14 : Int32) (v15 : Int32) (cf0 : ClassId) (f0 : (Nat → Int32)) (cf2 : ClassId) (f2 : (Nat → Int32)) (cf13 : ClassId) (f13 : (Nat → Int32)) (cf11 : ClassId) (f11 : (Nat → Int32)) (cf12 : ClassId) (f12 : (Nat → Int32)) (cf6 : ClassId) (f6 : (Nat → Int32)) (nf : Nat) (o0 : (Nat → Int32)) (o11 : (Nat → Int32)) (o12 : (Nat → Int32)) (o13 : (Nat → Int32)) (o2 : (Nat → Int32)) (w1 : Int32) (w14 : Int32) (w15 : Int32) (w3 : Int32) (w4 : Int32) (hsp : sp_v1_truth nf a1 a2 v1 v3 v4 v7 v14 v15 f0 f2 f13 f11 f12 f6 = some (o0, o11, o12, o13, o2, w1, w14, w15, w3, w4)) : Met l yX1_truth (.code yX1_truth cX1_truth 5 none :: VS_h7) ({ frames := 3, cells := 0, slots := 0, locals := 85 }) (va_Pc [.ref h0, .int a1, .int a2] (fun U => U.heap.size = sz ∧ va_P (dC, dI) vwCl [(h0, .inr (1, [.ref qf0, .int v1, .ref qf2, .int v3, .int v4, .ref qf5, .ref qf6, .int v7, .int v8, .ref qf9, .int v10, .ref qf11, .ref qf12, .ref qf13, .int v14, .int v15])), (qf0, .inl (cf0, 1500, .inl f0)), (qf2, .inl (cf2, 20, .inl f2)), (qf13, .inl (cf13, 100, .inl f13)), (qf11, .inl (cf11, 100, .inl f11)), (qf12, .inl (cf12, 5200, .inl f12)), (qf6, .inl (cf6, 750, .inl f6))] U.heap ∧ va_K (dC, dI) vwCl [(cf0, .byte), (cf2, .int), (cf13, .int), (cf11, .int), (cf12, .int), (cf6, .int)] U ∧ va_D (fun _ => True) [(h0, .inr (1, [.ref qf0, .int v1, .ref qf2, .int v3, .int v4, .ref qf5, .ref qf6, .int v7, .int v8, .ref qf9, .int v10, .ref qf11, .ref qf12, .ref qf13, .int v14, .int v15])), (qf0, .inl (cf0, 1500, .inl f0)), (qf2, .inl (cf2, 20, .inl f2)), (qf13, .inl (cf13, 100, .inl f13)), (qf11, .inl (cf11, 100, .inl f11)), (qf12, .inl (cf12, 5200, .inl f12)), (qf6, .inl (cf6, 750, .inl f6))])) (va_Qv (fun (u : Unit) => match u with | () => True) (fun (u : Unit) (t : State) => match u with | () => va_P (dC, dI) vwCl [(h0, .inr (1, [.ref qf0, .int w1, .ref qf2, .int w3, .int w4, .ref qf5, .ref qf6, .int v7, .int v8, .ref qf9, .int v10, .ref qf11, .ref qf12, .ref qf13, .int w14, .int w15])), (qf0, .inl (cf0, 1500, .inl o0)), (qf2, .inl (cf2, 20, .inl o2)), (qf13, .inl (cf13, 100, .inl o13)), (qf11, .inl (cf11, 100, .inl o11)), (qf12, .inl (cf12, 5200, .inl o12)), (qf6, .inl (cf6, 750, .inl f6))] t.heap ∧ va_K (dC, dI) vwCl [(cf0, .byte), (cf2, .int), (cf13, .int), (cf11, .int), (cf12, .int), (cf6, .int)] t ∧ va_D (va_A [(h0, .inr (1, [.ref qf0, .int v1, .ref qf2, .int v3, .int v4, .ref qf5, .ref qf6, .int v7, .int v8, .ref qf9, .int v10, .ref qf11, .ref qf12, .ref qf13, .int v14, .int v15])), (qf0, .inl (cf0, 1500, .inl f0)), (qf2, .inl (cf2, 20, .inl f2)), (qf13, .inl (cf13, 100, .inl f13)), (qf11, .inl (cf11, 100, .inl f11)), (qf12, .inl (cf12, 5200, .inl f12)), (qf6, .inl (cf6, 750, .inl f6))] sz) [(h0, .inr (1, [.ref qf0, .int w1, .ref qf2, .int w3, .int w4, .ref qf5, .ref qf6, .int v7, .int v8, .ref qf9, .int v10, .ref qf11, .ref qf12, .ref qf13, .int w14, .int w15])), (qf0, .inl (cf0, 1500, .inl o0)), (qf2, .inl (cf2, 20, .inl o2)), (qf13, .inl (cf13, 100, .inl o13)), (qf11, .inl (cf11, 100, .inl o11)), (qf12, .inl (cf12, 5200, .inl o12)), (qf6, .inl (cf6, 750, .inl f6))]) (va_A [(h0, .inr (1, [.ref qf0, .int v1, .ref qf2, .int v3, .int v4, .ref qf5, .ref qf6, .int v7, .int v8, .ref qf9, .int v10, .ref qf11, .ref qf12, .ref qf13, .int v14, .int v15])), (qf0, .inl (cf0, 1500, .inl f0)), (qf2, .inl (cf2, 20, .inl f2)), (qf13, .inl (cf13, 100, .inl f13)), (qf11, .inl (cf11, 100, .inl f11)), (qf12, .inl (cf12, 5200, .inl f12)), (qf6, .inl (cf6, 750, .inl f6))] sz)) 0 0 (va_A [(h0, .inr (1, [.ref qf0, .int v1, .ref qf2, .int v3, .int v4, .ref qf5, .ref qf6, .int v7, .int v8, .ref qf9, .int v10, .ref qf11, .ref qf12, .ref qf13, .int v14, .int v15])), (qf0, .inl (cf0, 1500, .inl f0)), (qf2, .inl (cf2, 20, .inl f2)), (qf13, .inl (cf13, 100, .inl f13)), (qf11, .inl (cf11, 100, .inl f11)), (qf12, .inl (cf12, 5200, .inl f12)), (qf6, .inl (cf6, 750, .inl f6))] sz) := by
  refine Met.ofW (cc := cX1_truth) (maxL := 5) (ret := none) (by decide) rfl ?_
  intro p e s m args below meth c s₁ B hml hv
  obtain ⟨rfl, hsz, hP, hK, hD0⟩ := hv
  have hx := B.exec
  have hb := B.bytes
  have hr := B.returns
  have hts := atoms_spec (ws := (.code yX1_truth cX1_truth 5 none :: VS_h7)) B.pre
  replace hts := fun w (h : w ∈ VS_h7) => hts w (List.mem_cons_of_mem _ h)
  have hown : s.vm.findClass RX1 = some m.cls := findClass_of_methodNamed B.named
  have hlocks := B.notSynchronized
  subst hsz
  have hD := hD0.self (sz := s.heap.size)
  generalize hAe : va_A [(h0, .inr (1, [.ref qf0, .int v1, .ref qf2, .int v3, .int v4, .ref qf5, .ref qf6, .int v7, .int v8, .ref qf9, .int v10, .ref qf11, .ref qf12, .ref qf13, .int v14, .int v15])), (qf0, .inl (cf0, 1500, .inl f0)), (qf2, .inl (cf2, 20, .inl f2)), (qf13, .inl (cf13, 100, .inl f13)), (qf11, .inl (cf11, 100, .inl f11)), (qf12, .inl (cf12, 5200, .inl f12)), (qf6, .inl (cf6, 750, .inl f6))] s.heap.size = A at hD  ⊢
  have hA : ∀ q : Nat, s.heap.size ≤ q → A q := fun q h => by rw [← hAe]; exact Or.inr h
  have hP : va_P (dC, dI) vwCl [(h0, .inr (1, [.ref qf0, .int v1, .ref qf2, .int v3, .int v4, .ref qf5, .ref qf6, .int v7, .int v8, .ref qf9, .int v10, .ref qf11, .ref qf12, .ref qf13, .int v14, .int v15])), (qf0, .inl (cf0, 1500, .inl f0)), (qf2, .inl (cf2, 20, .inl f2)), (qf13, .inl (cf13, 100, .inl f13)), (qf11, .inl (cf11, 100, .inl f11)), (qf12, .inl (cf12, 5200, .inl f12)), (qf6, .inl (cf6, 750, .inl f6))] s.heap := hP
  have hl := lv_entry ([.ref h0, .int a1, .int a2]) (n := 5) (Nat.le_of_ble_eq_true rfl)
  rw [lg_entry_eq]
  generalize (lg_sl ([.ref h0, .int a1, .int a2]) ++ List.replicate (5 - (lg_sl ([.ref h0, .int a1, .int a2])).length) Slot.unset).toArray = ls at hl ⊢
  have hl : lv_has ls 5 [(0, .ref h0), (1, .int a1), (2, .int a2)] := hl
  obtain ⟨H, hH⟩ : ∃ H : Heap, s.heap = H := ⟨_, rfl⟩
  rw [hH] at hP ⊢
  have hS : va_S A s.heap H [] := by rw [← hH]; exact va_S.rf
  obtain ⟨locs, hlo⟩ : ∃ locs : List Loc, locs = [] := ⟨_, rfl⟩
  rw [← hlo] at hS ⊢
  unfold sp_v1_truth at hsp
  refine lv_aload_n hx hb dX1_truth_0 rfl (lv_at hl 0 rfl) ?_
  refine lv_iload_n hx hb dX1_truth_1 rfl (lv_at hl 1 rfl) ?_
  refine lv_iload_n hx hb dX1_truth_2 rfl (lv_at hl 2 rfl) ?_
  obtain ⟨⟨u1_0, g901_1, u1_2, u1_3⟩, hu_1, hsp⟩ := ox_bind hsp
  try dsimp only at hsp
  have hPc := hP.sub (ws' := [(h0, .inr (1, [.ref qf0, .int v1, .ref qf2, .int v3, .int v4, .ref qf5, .ref qf6, .int v7, .int v8, .ref qf9, .int v10, .ref qf11, .ref qf12, .ref qf13, .int v14, .int v15])), (qf0, .inl (cf0, 1500, .inl f0))]) [0, 1] rfl
  have hDc := hD.sub (ws' := [(h0, .inr (1, [.ref qf0, .int v1, .ref qf2, .int v3, .int v4, .ref qf5, .ref qf6, .int v7, .int v8, .ref qf9, .int v10, .ref qf11, .ref qf12, .ref qf13, .int v14, .int v15])), (qf0, .inl (cf0, 1500, .inl f0))]) [0, 1] (by decide) rfl
  have hKc := hK.sub (tys' := [(cf0, .byte)]) [0] rfl
  have hFc := va_free (wc := [(h0, .inr (1, [.ref qf0, .int v1, .ref qf2, .int v3, .int v4, .ref qf5, .ref qf6, .int v7, .int v8, .ref qf9, .int v10, .ref qf11, .ref qf12, .ref qf13, .int v14, .int v15])), (qf0, .inl (cf0, 1500, .inl f0))]) hD hS hA [0, 1] rfl
  refine va_calli (va_runV (As := [.int a1, .int a2]) (rest := []) ⟨hx, hb, hml, hown, hts⟩ (t1_jump l dC dI H.size h0 a1 a2 qf0 v1 qf2 v3 v4 qf5 qf6 v7 v8 qf9 v10 qf11 qf12 qf13 v14 v15 cf0 f0 nf u1_0 g901_1 u1_2 u1_3 hu_1) (cwV 2 hts gv_h7_1 rfl rfl rfl (by decide +kernel) ⟨Nat.le_of_ble_eq_true rfl, Nat.le_of_ble_eq_true rfl⟩) ⟨fun a U g mk q => by obtain ⟨q0, q1, qP, qK, qD⟩ := q; exact ⟨q0, q1, qP, va_K.moved (u := U) (U := U.calling g mk a) (Vm.Alike.refl U.vm) qK, qD⟩, va_recv hKc hPc (ci := 1) (q0 := 0) rfl rfl, fun U hU hW => ⟨rfl, by rw [hU], by rw [hU]; exact hPc, va_K.moved hW.alike hKc, hDc.weaken (fun _ _ _ _ => trivial)⟩⟩ rfl rfl hl.1 rfl (lv_room (Nat.le_of_ble_eq_true rfl)) dX1_truth_3 ⟨Nat.le_of_ble_eq_true rfl, Nat.le_of_ble_eq_true rfl⟩) hS (fun q _ h => hFc q h) hFc ?_
  clear hS
  intro r_1 u t H1 locs ht hvm hw hB hz1 hk1 hS
  obtain ⟨⟩ := u
  obtain ⟨hP1, hK1, hD1⟩ := hB
  rw [ht] at hP1
  have hK1 := va_K.moved hvm.symm hK1
  try dsimp only at hw
  have hPD := va_join (wr := [(qf2, .inl (cf2, 20, .inl f2)), (qf13, .inl (cf13, 100, .inl f13)), (qf11, .inl (cf11, 100, .inl f11)), (qf12, .inl (cf12, 5200, .inl f12)), (qf6, .inl (cf6, 750, .inl f6))]) (w1 := [(h0, .inr (1, [.ref qf0, .int u1_2, .ref qf2, .int u1_3, .int v4, .ref qf5, .ref qf6, .int v7, .int v8, .ref qf9, .int v10, .ref qf11, .ref qf12, .ref qf13, .int v14, .int v15])), (qf0, .inl (cf0, 1500, .inl g901_1))]) hP hD [0, 1] [2, 3, 4, 5, 6] rfl rfl (by decide) (by decide) hk1 hFc hP1 hD1
  clear hP hD
  obtain ⟨hP, hD⟩ := hPD
  replace hK := (hK.sub (tys' := [(cf2, .int), (cf13, .int), (cf11, .int), (cf12, .int), (cf6, .int)]) [1, 2, 3, 4, 5] rfl).app hK1
  clear hPc hDc hKc hFc hP1 hK1 hD1 hz1 hk1 ht hvm
  generalize H1 = H at hP hS ⊢
  replace hP : va_P (dC, dI) vwCl [(qf2, .inl (cf2, 20, .inl f2)), (qf13, .inl (cf13, 100, .inl f13)), (qf11, .inl (cf11, 100, .inl f11)), (qf12, .inl (cf12, 5200, .inl f12)), (qf6, .inl (cf6, 750, .inl f6)), (h0, .inr (1, [.ref qf0, .int u1_2, .ref qf2, .int u1_3, .int v4, .ref qf5, .ref qf6, .int v7, .int v8, .ref qf9, .int v10, .ref qf11, .ref qf12, .ref qf13, .int v14, .int v15])), (qf0, .inl (cf0, 1500, .inl g901_1))] H := hP
  replace hD : va_D A [(qf2, .inl (cf2, 20, .inl f2)), (qf13, .inl (cf13, 100, .inl f13)), (qf11, .inl (cf11, 100, .inl f11)), (qf12, .inl (cf12, 5200, .inl f12)), (qf6, .inl (cf6, 750, .inl f6)), (h0, .inr (1, [.ref qf0, .int u1_2, .ref qf2, .int u1_3, .int v4, .ref qf5, .ref qf6, .int v7, .int v8, .ref qf9, .int v10, .ref qf11, .ref qf12, .ref qf13, .int v14, .int v15])), (qf0, .inl (cf0, 1500, .inl g901_1))] := hD
  replace hK : va_K (dC, dI) vwCl [(cf2, .int), (cf13, .int), (cf11, .int), (cf12, .int), (cf6, .int), (cf0, .byte)] s := hK
  obtain rfl := hw
  refine lv_istore_n (lv' := [(3, .int u1_0), (0, .ref h0), (1, .int a1), (2, .int a2)]) hx hb dX1_truth_6 rfl hl (by decide) rfl (fun ls hl => ?_)
  refine lv_aload_n hx hb dX1_truth_7 rfl (lv_at hl 1 rfl) ?_
  refine lv_sipush (v := 302) hx hb dX1_truth_8 (by decide) ?_
  obtain ⟨⟨g902_0, u2_1, u2_2⟩, hu_2, hsp⟩ := ox_bind hsp
  try dsimp only at hsp
  have hPc := hP.sub (ws' := [(h0, .inr (1, [.ref qf0, .int u1_2, .ref qf2, .int u1_3, .int v4, .ref qf5, .ref qf6, .int v7, .int v8, .ref qf9, .int v10, .ref qf11, .ref qf12, .ref qf13, .int v14, .int v15])), (qf2, .inl (cf2, 20, .inl f2))]) [5, 0] rfl
  have hDc := hD.sub (ws' := [(h0, .inr (1, [.ref qf0, .int u1_2, .ref qf2, .int u1_3, .int v4, .ref qf5, .ref qf6, .int v7, .int v8, .ref qf9, .int v10, .ref qf11, .ref qf12, .ref qf13, .int v14, .int v15])), (qf2, .inl (cf2, 20, .inl f2))]) [5, 0] (by decide) rfl
  have hKc := hK.sub (tys' := [(cf2, .int)]) [0] rfl
  have hFc := va_free (wc := [(h0, .inr (1, [.ref qf0, .int u1_2, .ref qf2, .int u1_3, .int v4, .ref qf5, .ref qf6, .int v7, .int v8, .ref qf9, .int v10, .ref qf11, .ref qf12, .ref qf13, .int v14, .int v15])), (qf2, .inl (cf2, 20, .inl f2))]) hD hS hA [5, 0] rfl
  refine va_callv (va_runV (As := [.int 302]) (rest := []) ⟨hx, hb, hml, hown, hts⟩ (t1_push l dC dI H.size h0 302 qf0 u1_2 qf2 u1_3 v4 qf5 qf6 v7 v8 qf9 v10 qf11 qf12 qf13 v14 v15 cf2 f2 nf g902_0 u2_1 u2_2 hu_2) (cwV 1 hts gv_h7_3 rfl rfl rfl (by decide +kernel) ⟨Nat.le_of_ble_eq_true rfl, Nat.le_of_ble_eq_true rfl⟩) ⟨fun a U g mk q => by obtain ⟨q0, q1, qP, qK, qD⟩ := q; exact ⟨q0, q1, qP, va_K.moved (u := U) (U := U.calling g mk a) (Vm.Alike.refl U.vm) qK, qD⟩, va_recv hKc hPc (ci := 1) (q0 := 0) rfl rfl, fun U hU hW => ⟨rfl, by rw [hU], by rw [hU]; exact hPc, va_K.moved hW.alike hKc, hDc.weaken (fun _ _ _ _ => trivial)⟩⟩ rfl rfl hl.1 rfl (lv_room (Nat.le_of_ble_eq_true rfl)) dX1_truth_11 ⟨Nat.le_of_ble_eq_true rfl, Nat.le_of_ble_eq_true rfl⟩) hS (fun q _ h => hFc q h) hFc ?_
  clear hS
  intro u t H1 locs ht hvm hw hB hz1 hk1 hS
  obtain ⟨⟩ := u
  obtain ⟨hP1, hK1, hD1⟩ := hB
  rw [ht] at hP1
  have hK1 := va_K.moved hvm.symm hK1
  try dsimp only at hw
  have hPD := va_join (wr := [(qf13, .inl (cf13, 100, .inl f13)), (qf11, .inl (cf11, 100, .inl f11)), (qf12, .inl (cf12, 5200, .inl f12)), (qf6, .inl (cf6, 750, .inl f6)), (qf0, .inl (cf0, 1500, .inl g901_1))]) (w1 := [(h0, .inr (1, [.ref qf0, .int u1_2, .ref qf2, .int u2_1, .int u2_2, .ref qf5, .ref qf6, .int v7, .int v8, .ref qf9, .int v10, .ref qf11, .ref qf12, .ref qf13, .int v14, .int v15])), (qf2, .inl (cf2, 20, .inl g902_0))]) hP hD [5, 0] [1, 2, 3, 4, 6] rfl rfl (by decide) (by decide) hk1 hFc hP1 hD1
  clear hP hD
  obtain ⟨hP, hD⟩ := hPD
  replace hK := (hK.sub (tys' := [(cf13, .int), (cf11, .int), (cf12, .int), (cf6, .int), (cf0, .byte)]) [1, 2, 3, 4, 5] rfl).app hK1
  clear hPc hDc hKc hFc hP1 hK1 hD1 hz1 hk1 ht hvm
  generalize H1 = H at hP hS ⊢
  replace hP : va_P (dC, dI) vwCl [(qf13, .inl (cf13, 100, .inl f13)), (qf11, .inl (cf11, 100, .inl f11)), (qf12, .inl (cf12, 5200, .inl f12)), (qf6, .inl (cf6, 750, .inl f6)), (qf0, .inl (cf0, 1500, .inl g901_1)), (h0, .inr (1, [.ref qf0, .int u1_2, .ref qf2, .int u2_1, .int u2_2, .ref qf5, .ref qf6, .int v7, .int v8, .ref qf9, .int v10, .ref qf11, .ref qf12, .ref qf13, .int v14, .int v15])), (qf2, .inl (cf2, 20, .inl g902_0))] H := hP
  replace hD : va_D A [(qf13, .inl (cf13, 100, .inl f13)), (qf11, .inl (cf11, 100, .inl f11)), (qf12, .inl (cf12, 5200, .inl f12)), (qf6, .inl (cf6, 750, .inl f6)), (qf0, .inl (cf0, 1500, .inl g901_1)), (h0, .inr (1, [.ref qf0, .int u1_2, .ref qf2, .int u2_1, .int u2_2, .ref qf5, .ref qf6, .int v7, .int v8, .ref qf9, .int v10, .ref qf11, .ref qf12, .ref qf13, .int v14, .int v15])), (qf2, .inl (cf2, 20, .inl g902_0))] := hD
  replace hK : va_K (dC, dI) vwCl [(cf13, .int), (cf11, .int), (cf12, .int), (cf6, .int), (cf0, .byte), (cf2, .int)] s := hK
  refine lv_aload_n hx hb dX1_truth_14 rfl (lv_at hl 1 rfl) ?_
  refine lv_iconst (v := 3) hx hb dX1_truth_15 (by decide) ?_
  obtain ⟨⟨g903_0, u3_1⟩, hu_3, hsp⟩ := ox_bind hsp
  try dsimp only at hsp
  have hPc := hP.sub (ws' := [(h0, .inr (1, [.ref qf0, .int u1_2, .ref qf2, .int u2_1, .int u2_2, .ref qf5, .ref qf6, .int v7, .int v8, .ref qf9, .int v10, .ref qf11, .ref qf12, .ref qf13, .int v14, .int v15])), (qf0, .inl (cf0, 1500, .inl g901_1))]) [5, 4] rfl
  have hDc := hD.sub (ws' := [(h0, .inr (1, [.ref qf0, .int u1_2, .ref qf2, .int u2_1, .int u2_2, .ref qf5, .ref qf6, .int v7, .int v8, .ref qf9, .int v10, .ref qf11, .ref qf12, .ref qf13, .int v14, .int v15])), (qf0, .inl (cf0, 1500, .inl g901_1))]) [5, 4] (by decide) rfl
  have hKc := hK.sub (tys' := [(cf0, .byte)]) [4] rfl
  have hFc := va_free (wc := [(h0, .inr (1, [.ref qf0, .int u1_2, .ref qf2, .int u2_1, .int u2_2, .ref qf5, .ref qf6, .int v7, .int v8, .ref qf9, .int v10, .ref qf11, .ref qf12, .ref qf13, .int v14, .int v15])), (qf0, .inl (cf0, 1500, .inl g901_1))]) hD hS hA [5, 4] rfl
  refine va_callv (va_runV (As := [.int 3]) (rest := []) ⟨hx, hb, hml, hown, hts⟩ (t1_op l dC dI H.size h0 3 qf0 u1_2 qf2 u2_1 u2_2 qf5 qf6 v7 v8 qf9 v10 qf11 qf12 qf13 v14 v15 cf0 g901_1 nf g903_0 u3_1 hu_3) (cwV 1 hts gv_h7_4 rfl rfl rfl (by decide +kernel) ⟨Nat.le_of_ble_eq_true rfl, Nat.le_of_ble_eq_true rfl⟩) ⟨fun a U g mk q => by obtain ⟨q0, q1, qP, qK, qD⟩ := q; exact ⟨q0, q1, qP, va_K.moved (u := U) (U := U.calling g mk a) (Vm.Alike.refl U.vm) qK, qD⟩, va_recv hKc hPc (ci := 1) (q0 := 0) rfl rfl, fun U hU hW => ⟨rfl, by rw [hU], by rw [hU]; exact hPc, va_K.moved hW.alike hKc, hDc.weaken (fun _ _ _ _ => trivial)⟩⟩ rfl rfl hl.1 rfl (lv_room (Nat.le_of_ble_eq_true rfl)) dX1_truth_16 ⟨Nat.le_of_ble_eq_true rfl, Nat.le_of_ble_eq_true rfl⟩) hS (fun q _ h => hFc q h) hFc ?_
  clear hS
  intro u t H1 locs ht hvm hw hB hz1 hk1 hS
  obtain ⟨⟩ := u
  obtain ⟨hP1, hK1, hD1⟩ := hB
  rw [ht] at hP1
  have hK1 := va_K.moved hvm.symm hK1
  try dsimp only at hw
  have hPD := va_join (wr := [(qf13, .inl (cf13, 100, .inl f13)), (qf11, .inl (cf11, 100, .inl f11)), (qf12, .inl (cf12, 5200, .inl f12)), (qf6, .inl (cf6, 750, .inl f6)), (qf2, .inl (cf2, 20, .inl g902_0))]) (w1 := [(h0, .inr (1, [.ref qf0, .int u3_1, .ref qf2, .int u2_1, .int u2_2, .ref qf5, .ref qf6, .int v7, .int v8, .ref qf9, .int v10, .ref qf11, .ref qf12, .ref qf13, .int v14, .int v15])), (qf0, .inl (cf0, 1500, .inl g903_0))]) hP hD [5, 4] [0, 1, 2, 3, 6] rfl rfl (by decide) (by decide) hk1 hFc hP1 hD1
  clear hP hD
  obtain ⟨hP, hD⟩ := hPD
  replace hK := (hK.sub (tys' := [(cf13, .int), (cf11, .int), (cf12, .int), (cf6, .int), (cf2, .int)]) [0, 1, 2, 3, 5] rfl).app hK1
  clear hPc hDc hKc hFc hP1 hK1 hD1 hz1 hk1 ht hvm
  generalize H1 = H at hP hS ⊢
  replace hP : va_P (dC, dI) vwCl [(qf13, .inl (cf13, 100, .inl f13)), (qf11, .inl (cf11, 100, .inl f11)), (qf12, .inl (cf12, 5200, .inl f12)), (qf6, .inl (cf6, 750, .inl f6)), (qf2, .inl (cf2, 20, .inl g902_0)), (h0, .inr (1, [.ref qf0, .int u3_1, .ref qf2, .int u2_1, .int u2_2, .ref qf5, .ref qf6, .int v7, .int v8, .ref qf9, .int v10, .ref qf11, .ref qf12, .ref qf13, .int v14, .int v15])), (qf0, .inl (cf0, 1500, .inl g903_0))] H := hP
  replace hD : va_D A [(qf13, .inl (cf13, 100, .inl f13)), (qf11, .inl (cf11, 100, .inl f11)), (qf12, .inl (cf12, 5200, .inl f12)), (qf6, .inl (cf6, 750, .inl f6)), (qf2, .inl (cf2, 20, .inl g902_0)), (h0, .inr (1, [.ref qf0, .int u3_1, .ref qf2, .int u2_1, .int u2_2, .ref qf5, .ref qf6, .int v7, .int v8, .ref qf9, .int v10, .ref qf11, .ref qf12, .ref qf13, .int v14, .int v15])), (qf0, .inl (cf0, 1500, .inl g903_0))] := hD
  replace hK : va_K (dC, dI) vwCl [(cf13, .int), (cf11, .int), (cf12, .int), (cf6, .int), (cf2, .int), (cf0, .byte)] s := hK
  refine lv_aload_n hx hb dX1_truth_19 rfl (lv_at hl 1 rfl) ?_
  refine lv_sipush (v := 167) hx hb dX1_truth_20 (by decide) ?_
  refine lv_iconst (v := 0) hx hb dX1_truth_23 (by decide) ?_
  obtain ⟨⟨u4_0, g904_1, u4_2, u4_3⟩, hu_4, hsp⟩ := ox_bind hsp
  try dsimp only at hsp
  have hPc := hP.sub (ws' := [(h0, .inr (1, [.ref qf0, .int u3_1, .ref qf2, .int u2_1, .int u2_2, .ref qf5, .ref qf6, .int v7, .int v8, .ref qf9, .int v10, .ref qf11, .ref qf12, .ref qf13, .int v14, .int v15])), (qf0, .inl (cf0, 1500, .inl g903_0))]) [5, 6] rfl
  have hDc := hD.sub (ws' := [(h0, .inr (1, [.ref qf0, .int u3_1, .ref qf2, .int u2_1, .int u2_2, .ref qf5, .ref qf6, .int v7, .int v8, .ref qf9, .int v10, .ref qf11, .ref qf12, .ref qf13, .int v14, .int v15])), (qf0, .inl (cf0, 1500, .inl g903_0))]) [5, 6] (by decide) rfl
  have hKc := hK.sub (tys' := [(cf0, .byte)]) [5] rfl
  have hFc := va_free (wc := [(h0, .inr (1, [.ref qf0, .int u3_1, .ref qf2, .int u2_1, .int u2_2, .ref qf5, .ref qf6, .int v7, .int v8, .ref qf9, .int v10, .ref qf11, .ref qf12, .ref qf13, .int v14, .int v15])), (qf0, .inl (cf0, 1500, .inl g903_0))]) hD hS hA [5, 6] rfl
  refine va_calli (va_runV (As := [.int 167, .int 0]) (rest := []) ⟨hx, hb, hml, hown, hts⟩ (t1_jump l dC dI H.size h0 167 0 qf0 u3_1 qf2 u2_1 u2_2 qf5 qf6 v7 v8 qf9 v10 qf11 qf12 qf13 v14 v15 cf0 g903_0 nf u4_0 g904_1 u4_2 u4_3 hu_4) (cwV 2 hts gv_h7_1 rfl rfl rfl (by decide +kernel) ⟨Nat.le_of_ble_eq_true rfl, Nat.le_of_ble_eq_true rfl⟩) ⟨fun a U g mk q => by obtain ⟨q0, q1, qP, qK, qD⟩ := q; exact ⟨q0, q1, qP, va_K.moved (u := U) (U := U.calling g mk a) (Vm.Alike.refl U.vm) qK, qD⟩, va_recv hKc hPc (ci := 1) (q0 := 0) rfl rfl, fun U hU hW => ⟨rfl, by rw [hU], by rw [hU]; exact hPc, va_K.moved hW.alike hKc, hDc.weaken (fun _ _ _ _ => trivial)⟩⟩ rfl rfl hl.1 rfl (lv_room (Nat.le_of_ble_eq_true rfl)) dX1_truth_24 ⟨Nat.le_of_ble_eq_true rfl, Nat.le_of_ble_eq_true rfl⟩) hS (fun q _ h => hFc q h) hFc ?_
  clear hS
  intro r_2 u t H1 locs ht hvm hw hB hz1 hk1 hS
  obtain ⟨⟩ := u
  obtain ⟨hP1, hK1, hD1⟩ := hB
  rw [ht] at hP1
  have hK1 := va_K.moved hvm.symm hK1
  try dsimp only at hw
  have hPD := va_join (wr := [(qf13, .inl (cf13, 100, .inl f13)), (qf11, .inl (cf11, 100, .inl f11)), (qf12, .inl (cf12, 5200, .inl f12)), (qf6, .inl (cf6, 750, .inl f6)), (qf2, .inl (cf2, 20, .inl g902_0))]) (w1 := [(h0, .inr (1, [.ref qf0, .int u4_2, .ref qf2, .int u4_3, .int u2_2, .ref qf5, .ref qf6, .int v7, .int v8, .ref qf9, .int v10, .ref qf11, .ref qf12, .ref qf13, .int v14, .int v15])), (qf0, .inl (cf0, 1500, .inl g904_1))]) hP hD [5, 6] [0, 1, 2, 3, 4] rfl rfl (by decide) (by decide) hk1 hFc hP1 hD1
  clear hP hD
  obtain ⟨hP, hD⟩ := hPD
  replace hK := (hK.sub (tys' := [(cf13, .int), (cf11, .int), (cf12, .int), (cf6, .int), (cf2, .int)]) [0, 1, 2, 3, 4] rfl).app hK1
  clear hPc hDc hKc hFc hP1 hK1 hD1 hz1 hk1 ht hvm
  generalize H1 = H at hP hS ⊢
  replace hP : va_P (dC, dI) vwCl [(qf13, .inl (cf13, 100, .inl f13)), (qf11, .inl (cf11, 100, .inl f11)), (qf12, .inl (cf12, 5200, .inl f12)), (qf6, .inl (cf6, 750, .inl f6)), (qf2, .inl (cf2, 20, .inl g902_0)), (h0, .inr (1, [.ref qf0, .int u4_2, .ref qf2, .int u4_3, .int u2_2, .ref qf5, .ref qf6, .int v7, .int v8, .ref qf9, .int v10, .ref qf11, .ref qf12, .ref qf13, .int v14, .int v15])), (qf0, .inl (cf0, 1500, .inl g904_1))] H := hP
  replace hD : va_D A [(qf13, .inl (cf13, 100, .inl f13)), (qf11, .inl (cf11, 100, .inl f11)), (qf12, .inl (cf12, 5200, .inl f12)), (qf6, .inl (cf6, 750, .inl f6)), (qf2, .inl (cf2, 20, .inl g902_0)), (h0, .inr (1, [.ref qf0, .int u4_2, .ref qf2, .int u4_3, .int u2_2, .ref qf5, .ref qf6, .int v7, .int v8, .ref qf9, .int v10, .ref qf11, .ref qf12, .ref qf13, .int v14, .int v15])), (qf0, .inl (cf0, 1500, .inl g904_1))] := hD
  replace hK : va_K (dC, dI) vwCl [(cf13, .int), (cf11, .int), (cf12, .int), (cf6, .int), (cf2, .int), (cf0, .byte)] s := hK
  obtain rfl := hw
  refine lv_istore (lv' := [(4, .int u4_0), (3, .int u1_0), (0, .ref h0), (1, .int a1), (2, .int a2)]) hx hb dX1_truth_27 hl (by decide) rfl (fun ls hl => ?_)
  refine lv_aload_n hx hb dX1_truth_29 rfl (lv_at hl 2 rfl) ?_
  refine lv_iconst (v := 1) hx hb dX1_truth_30 (by decide) ?_
  obtain ⟨u5_0, hu_5, hsp⟩ := ox_bind hsp
  try dsimp only at hsp
  have hPc := hP.sub (ws' := [(h0, .inr (1, [.ref qf0, .int u4_2, .ref qf2, .int u4_3, .int u2_2, .ref qf5, .ref qf6, .int v7, .int v8, .ref qf9, .int v10, .ref qf11, .ref qf12, .ref qf13, .int v14, .int v15]))]) [5] rfl
  have hDc := hD.sub (ws' := [(h0, .inr (1, [.ref qf0, .int u4_2, .ref qf2, .int u4_3, .int u2_2, .ref qf5, .ref qf6, .int v7, .int v8, .ref qf9, .int v10, .ref qf11, .ref qf12, .ref qf13, .int v14, .int v15]))]) [5] (by decide) rfl
  have hKc := hK.sub (tys' := []) [] rfl
  have hFc := va_free (wc := [(h0, .inr (1, [.ref qf0, .int u4_2, .ref qf2, .int u4_3, .int u2_2, .ref qf5, .ref qf6, .int v7, .int v8, .ref qf9, .int v10, .ref qf11, .ref qf12, .ref qf13, .int v14, .int v15]))]) hD hS hA [5] rfl
  refine va_callv (va_runV (As := [.int 1]) (rest := []) ⟨hx, hb, hml, hown, hts⟩ (t1_pop l dC dI H.size h0 1 qf0 u4_2 qf2 u4_3 u2_2 qf5 qf6 v7 v8 qf9 v10 qf11 qf12 qf13 v14 v15 nf u5_0 hu_5) (cwV 1 hts gv_h7_5 rfl rfl rfl (by decide +kernel) ⟨Nat.le_of_ble_eq_true rfl, Nat.le_of_ble_eq_true rfl⟩) ⟨fun a U g mk q => by obtain ⟨q0, q1, qP, qK, qD⟩ := q; exact ⟨q0, q1, qP, va_K.moved (u := U) (U := U.calling g mk a) (Vm.Alike.refl U.vm) qK, qD⟩, va_recv hKc hPc (ci := 1) (q0 := 0) rfl rfl, fun U hU hW => ⟨rfl, by rw [hU], by rw [hU]; exact hPc, va_K.moved hW.alike hKc, hDc.weaken (fun _ _ _ _ => trivial)⟩⟩ rfl rfl hl.1 rfl (lv_room (Nat.le_of_ble_eq_true rfl)) dX1_truth_31 ⟨Nat.le_of_ble_eq_true rfl, Nat.le_of_ble_eq_true rfl⟩) hS (fun q _ h => hFc q h) hFc ?_
  clear hS
  intro u t H1 locs ht hvm hw hB hz1 hk1 hS
  obtain ⟨⟩ := u
  obtain ⟨hP1, hK1, hD1⟩ := hB
  rw [ht] at hP1
  have hK1 := va_K.moved hvm.symm hK1
  try dsimp only at hw
  have hPD := va_join (wr := [(qf13, .inl (cf13, 100, .inl f13)), (qf11, .inl (cf11, 100, .inl f11)), (qf12, .inl (cf12, 5200, .inl f12)), (qf6, .inl (cf6, 750, .inl f6)), (qf2, .inl (cf2, 20, .inl g902_0)), (qf0, .inl (cf0, 1500, .inl g904_1))]) (w1 := [(h0, .inr (1, [.ref qf0, .int u4_2, .ref qf2, .int u5_0, .int u2_2, .ref qf5, .ref qf6, .int v7, .int v8, .ref qf9, .int v10, .ref qf11, .ref qf12, .ref qf13, .int v14, .int v15]))]) hP hD [5] [0, 1, 2, 3, 4, 6] rfl rfl (by decide) (by decide) hk1 hFc hP1 hD1
  clear hP hD
  obtain ⟨hP, hD⟩ := hPD
  replace hK := (hK.sub (tys' := [(cf13, .int), (cf11, .int), (cf12, .int), (cf6, .int), (cf2, .int), (cf0, .byte)]) [0, 1, 2, 3, 4, 5] rfl).app hK1
  clear hPc hDc hKc hFc hP1 hK1 hD1 hz1 hk1 ht hvm
  generalize H1 = H at hP hS ⊢
  replace hP : va_P (dC, dI) vwCl [(qf13, .inl (cf13, 100, .inl f13)), (qf11, .inl (cf11, 100, .inl f11)), (qf12, .inl (cf12, 5200, .inl f12)), (qf6, .inl (cf6, 750, .inl f6)), (qf2, .inl (cf2, 20, .inl g902_0)), (qf0, .inl (cf0, 1500, .inl g904_1)), (h0, .inr (1, [.ref qf0, .int u4_2, .ref qf2, .int u5_0, .int u2_2, .ref qf5, .ref qf6, .int v7, .int v8, .ref qf9, .int v10, .ref qf11, .ref qf12, .ref qf13, .int v14, .int v15]))] H := hP
  replace hD : va_D A [(qf13, .inl (cf13, 100, .inl f13)), (qf11, .inl (cf11, 100, .inl f11)), (qf12, .inl (cf12, 5200, .inl f12)), (qf6, .inl (cf6, 750, .inl f6)), (qf2, .inl (cf2, 20, .inl g902_0)), (qf0, .inl (cf0, 1500, .inl g904_1)), (h0, .inr (1, [.ref qf0, .int u4_2, .ref qf2, .int u5_0, .int u2_2, .ref qf5, .ref qf6, .int v7, .int v8, .ref qf9, .int v10, .ref qf11, .ref qf12, .ref qf13, .int v14, .int v15]))] := hD
  replace hK : va_K (dC, dI) vwCl [(cf13, .int), (cf11, .int), (cf12, .int), (cf6, .int), (cf2, .int), (cf0, .byte)] s := hK
  refine lv_aload_n hx hb dX1_truth_34 rfl (lv_at hl 2 rfl) ?_
  refine lv_iload_n hx hb dX1_truth_35 rfl (lv_at hl 1 rfl) ?_
  obtain ⟨⟨g906_0, g906_1, g906_2, g906_3, u6_4, u6_5⟩, hu_6, hsp⟩ := ox_bind hsp
  try dsimp only at hsp
  have hPc := hP.sub (ws' := [(h0, .inr (1, [.ref qf0, .int u4_2, .ref qf2, .int u5_0, .int u2_2, .ref qf5, .ref qf6, .int v7, .int v8, .ref qf9, .int v10, .ref qf11, .ref qf12, .ref qf13, .int v14, .int v15])), (qf0, .inl (cf0, 1500, .inl g904_1)), (qf13, .inl (cf13, 100, .inl f13)), (qf11, .inl (cf11, 100, .inl f11)), (qf12, .inl (cf12, 5200, .inl f12)), (qf6, .inl (cf6, 750, .inl f6)), (qf2, .inl (cf2, 20, .inl g902_0))]) [6, 5, 0, 1, 2, 3, 4] rfl
  have hDc := hD.sub (ws' := [(h0, .inr (1, [.ref qf0, .int u4_2, .ref qf2, .int u5_0, .int u2_2, .ref qf5, .ref qf6, .int v7, .int v8, .ref qf9, .int v10, .ref qf11, .ref qf12, .ref qf13, .int v14, .int v15])), (qf0, .inl (cf0, 1500, .inl g904_1)), (qf13, .inl (cf13, 100, .inl f13)), (qf11, .inl (cf11, 100, .inl f11)), (qf12, .inl (cf12, 5200, .inl f12)), (qf6, .inl (cf6, 750, .inl f6)), (qf2, .inl (cf2, 20, .inl g902_0))]) [6, 5, 0, 1, 2, 3, 4] (by decide) rfl
  have hKc := hK.sub (tys' := [(cf0, .byte), (cf13, .int), (cf11, .int), (cf12, .int), (cf6, .int), (cf2, .int)]) [5, 0, 1, 2, 3, 4] rfl
  have hFc := va_free (wc := [(h0, .inr (1, [.ref qf0, .int u4_2, .ref qf2, .int u5_0, .int u2_2, .ref qf5, .ref qf6, .int v7, .int v8, .ref qf9, .int v10, .ref qf11, .ref qf12, .ref qf13, .int v14, .int v15])), (qf0, .inl (cf0, 1500, .inl g904_1)), (qf13, .inl (cf13, 100, .inl f13)), (qf11, .inl (cf11, 100, .inl f11)), (qf12, .inl (cf12, 5200, .inl f12)), (qf6, .inl (cf6, 750, .inl f6)), (qf2, .inl (cf2, 20, .inl g902_0))]) hD hS hA [6, 5, 0, 1, 2, 3, 4] rfl
  refine va_callv (va_runV (As := [.int u1_0]) (rest := []) ⟨hx, hb, hml, hown, hts⟩ (v1_aimHere l dC dI H.size h0 u1_0 qf0 u4_2 qf2 u5_0 u2_2 qf5 qf6 v7 v8 qf9 v10 qf11 qf12 qf13 v14 v15 cf0 g904_1 cf13 f13 cf11 f11 cf12 f12 cf6 f6 cf2 g902_0 nf g906_0 g906_1 g906_2 g906_3 u6_4 u6_5 hu_6) (cwV 1 hts gv_h7_108 rfl rfl rfl (by decide +kernel) ⟨Nat.le_of_ble_eq_true rfl, Nat.le_of_ble_eq_true rfl⟩) ⟨fun a U g mk q => by obtain ⟨q0, q1, qP, qK, qD⟩ := q; exact ⟨q0, q1, qP, va_K.moved (u := U) (U := U.calling g mk a) (Vm.Alike.refl U.vm) qK, qD⟩, va_recv hKc hPc (ci := 1) (q0 := 0) rfl rfl, fun U hU hW => ⟨rfl, by rw [hU], by rw [hU]; exact hPc, va_K.moved hW.alike hKc, hDc.weaken (fun _ _ _ _ => trivial)⟩⟩ rfl rfl hl.1 rfl (lv_room (Nat.le_of_ble_eq_true rfl)) dX1_truth_36 ⟨Nat.le_of_ble_eq_true rfl, Nat.le_of_ble_eq_true rfl⟩) hS (fun q _ h => hFc q h) hFc ?_
  clear hS
  intro u t H1 locs ht hvm hw hB hz1 hk1 hS
  obtain ⟨⟩ := u
  obtain ⟨hP1, hK1, hD1⟩ := hB
  rw [ht] at hP1
  have hK1 := va_K.moved hvm.symm hK1
  try dsimp only at hw
  have hPD := va_join (wr := []) (w1 := [(h0, .inr (1, [.ref qf0, .int u4_2, .ref qf2, .int u5_0, .int u2_2, .ref qf5, .ref qf6, .int v7, .int v8, .ref qf9, .int v10, .ref qf11, .ref qf12, .ref qf13, .int u6_4, .int u6_5])), (qf0, .inl (cf0, 1500, .inl g906_0)), (qf13, .inl (cf13, 100, .inl g906_3)), (qf11, .inl (cf11, 100, .inl g906_1)), (qf12, .inl (cf12, 5200, .inl g906_2)), (qf6, .inl (cf6, 750, .inl f6)), (qf2, .inl (cf2, 20, .inl g902_0))]) hP hD [6, 5, 0, 1, 2, 3, 4] [] rfl rfl (by decide) (by decide) hk1 hFc hP1 hD1
  clear hP hD
  obtain ⟨hP, hD⟩ := hPD
  replace hK := (hK.sub (tys' := []) [] rfl).app hK1
  clear hPc hDc hKc hFc hP1 hK1 hD1 hz1 hk1 ht hvm
  generalize H1 = H at hP hS ⊢
  replace hP : va_P (dC, dI) vwCl [(h0, .inr (1, [.ref qf0, .int u4_2, .ref qf2, .int u5_0, .int u2_2, .ref qf5, .ref qf6, .int v7, .int v8, .ref qf9, .int v10, .ref qf11, .ref qf12, .ref qf13, .int u6_4, .int u6_5])), (qf0, .inl (cf0, 1500, .inl g906_0)), (qf13, .inl (cf13, 100, .inl g906_3)), (qf11, .inl (cf11, 100, .inl g906_1)), (qf12, .inl (cf12, 5200, .inl g906_2)), (qf6, .inl (cf6, 750, .inl f6)), (qf2, .inl (cf2, 20, .inl g902_0))] H := hP
  replace hD : va_D A [(h0, .inr (1, [.ref qf0, .int u4_2, .ref qf2, .int u5_0, .int u2_2, .ref qf5, .ref qf6, .int v7, .int v8, .ref qf9, .int v10, .ref qf11, .ref qf12, .ref qf13, .int u6_4, .int u6_5])), (qf0, .inl (cf0, 1500, .inl g906_0)), (qf13, .inl (cf13, 100, .inl g906_3)), (qf11, .inl (cf11, 100, .inl g906_1)), (qf12, .inl (cf12, 5200, .inl g906_2)), (qf6, .inl (cf6, 750, .inl f6)), (qf2, .inl (cf2, 20, .inl g902_0))] := hD
  replace hK : va_K (dC, dI) vwCl [(cf0, .byte), (cf13, .int), (cf11, .int), (cf12, .int), (cf6, .int), (cf2, .int)] s := hK
  refine lv_aload_n hx hb dX1_truth_39 rfl (lv_at hl 2 rfl) ?_
  refine lv_sipush (v := 302) hx hb dX1_truth_40 (by decide) ?_
  obtain ⟨⟨g907_0, u7_1, u7_2⟩, hu_7, hsp⟩ := ox_bind hsp
  try dsimp only at hsp
  have hPc := hP.sub (ws' := [(h0, .inr (1, [.ref qf0, .int u4_2, .ref qf2, .int u5_0, .int u2_2, .ref qf5, .ref qf6, .int v7, .int v8, .ref qf9, .int v10, .ref qf11, .ref qf12, .ref qf13, .int u6_4, .int u6_5])), (qf2, .inl (cf2, 20, .inl g902_0))]) [0, 6] rfl
  have hDc := hD.sub (ws' := [(h0, .inr (1, [.ref qf0, .int u4_2, .ref qf2, .int u5_0, .int u2_2, .ref qf5, .ref qf6, .int v7, .int v8, .ref qf9, .int v10, .ref qf11, .ref qf12, .ref qf13, .int u6_4, .int u6_5])), (qf2, .inl (cf2, 20, .inl g902_0))]) [0, 6] (by decide) rfl
  have hKc := hK.sub (tys' := [(cf2, .int)]) [5] rfl
  have hFc := va_free (wc := [(h0, .inr (1, [.ref qf0, .int u4_2, .ref qf2, .int u5_0, .int u2_2, .ref qf5, .ref qf6, .int v7, .int v8, .ref qf9, .int v10, .ref qf11, .ref qf12, .ref qf13, .int u6_4, .int u6_5])), (qf2, .inl (cf2, 20, .inl g902_0))]) hD hS hA [0, 6] rfl
  refine va_callv (va_runV (As := [.int 302]) (rest := []) ⟨hx, hb, hml, hown, hts⟩ (t1_push l dC dI H.size h0 302 qf0 u4_2 qf2 u5_0 u2_2 qf5 qf6 v7 v8 qf9 v10 qf11 qf12 qf13 u6_4 u6_5 cf2 g902_0 nf g907_0 u7_1 u7_2 hu_7) (cwV 1 hts gv_h7_3 rfl rfl rfl (by decide +kernel) ⟨Nat.le_of_ble_eq_true rfl, Nat.le_of_ble_eq_true rfl⟩) ⟨fun a U g mk q => by obtain ⟨q0, q1, qP, qK, qD⟩ := q; exact ⟨q0, q1, qP, va_K.moved (u := U) (U := U.calling g mk a) (Vm.Alike.refl U.vm) qK, qD⟩, va_recv hKc hPc (ci := 1) (q0 := 0) rfl rfl, fun U hU hW => ⟨rfl, by rw [hU], by rw [hU]; exact hPc, va_K.moved hW.alike hKc, hDc.weaken (fun _ _ _ _ => trivial)⟩⟩ rfl rfl hl.1 rfl (lv_room (Nat.le_of_ble_eq_true rfl)) dX1_truth_43 ⟨Nat.le_of_ble_eq_true rfl, Nat.le_of_ble_eq_true rfl⟩) hS (fun q _ h => hFc q h) hFc ?_
  clear hS
  intro u t H1 locs ht hvm hw hB hz1 hk1 hS
  obtain ⟨⟩ := u
  obtain ⟨hP1, hK1, hD1⟩ := hB
  rw [ht] at hP1
  have hK1 := va_K.moved hvm.symm hK1
  try dsimp only at hw
  have hPD := va_join (wr := [(qf0, .inl (cf0, 1500, .inl g906_0)), (qf13, .inl (cf13, 100, .inl g906_3)), (qf11, .inl (cf11, 100, .inl g906_1)), (qf12, .inl (cf12, 5200, .inl g906_2)), (qf6, .inl (cf6, 750, .inl f6))]) (w1 := [(h0, .inr (1, [.ref qf0, .int u4_2, .ref qf2, .int u7_1, .int u7_2, .ref qf5, .ref qf6, .int v7, .int v8, .ref qf9, .int v10, .ref qf11, .ref qf12, .ref qf13, .int u6_4, .int u6_5])), (qf2, .inl (cf2, 20, .inl g907_0))]) hP hD [0, 6] [1, 2, 3, 4, 5] rfl rfl (by decide) (by decide) hk1 hFc hP1 hD1
  clear hP hD
  obtain ⟨hP, hD⟩ := hPD
  replace hK := (hK.sub (tys' := [(cf0, .byte), (cf13, .int), (cf11, .int), (cf12, .int), (cf6, .int)]) [0, 1, 2, 3, 4] rfl).app hK1
  clear hPc hDc hKc hFc hP1 hK1 hD1 hz1 hk1 ht hvm
  generalize H1 = H at hP hS ⊢
  replace hP : va_P (dC, dI) vwCl [(qf0, .inl (cf0, 1500, .inl g906_0)), (qf13, .inl (cf13, 100, .inl g906_3)), (qf11, .inl (cf11, 100, .inl g906_1)), (qf12, .inl (cf12, 5200, .inl g906_2)), (qf6, .inl (cf6, 750, .inl f6)), (h0, .inr (1, [.ref qf0, .int u4_2, .ref qf2, .int u7_1, .int u7_2, .ref qf5, .ref qf6, .int v7, .int v8, .ref qf9, .int v10, .ref qf11, .ref qf12, .ref qf13, .int u6_4, .int u6_5])), (qf2, .inl (cf2, 20, .inl g907_0))] H := hP
  replace hD : va_D A [(qf0, .inl (cf0, 1500, .inl g906_0)), (qf13, .inl (cf13, 100, .inl g906_3)), (qf11, .inl (cf11, 100, .inl g906_1)), (qf12, .inl (cf12, 5200, .inl g906_2)), (qf6, .inl (cf6, 750, .inl f6)), (h0, .inr (1, [.ref qf0, .int u4_2, .ref qf2, .int u7_1, .int u7_2, .ref qf5, .ref qf6, .int v7, .int v8, .ref qf9, .int v10, .ref qf11, .ref qf12, .ref qf13, .int u6_4, .int u6_5])), (qf2, .inl (cf2, 20, .inl g907_0))] := hD
  replace hK : va_K (dC, dI) vwCl [(cf0, .byte), (cf13, .int), (cf11, .int), (cf12, .int), (cf6, .int), (cf2, .int)] s := hK
  refine lv_aload_n hx hb dX1_truth_46 rfl (lv_at hl 2 rfl) ?_
  refine lv_iconst (v := 4) hx hb dX1_truth_47 (by decide) ?_
  obtain ⟨⟨g908_0, u8_1⟩, hu_8, hsp⟩ := ox_bind hsp
  try dsimp only at hsp
  have hPc := hP.sub (ws' := [(h0, .inr (1, [.ref qf0, .int u4_2, .ref qf2, .int u7_1, .int u7_2, .ref qf5, .ref qf6, .int v7, .int v8, .ref qf9, .int v10, .ref qf11, .ref qf12, .ref qf13, .int u6_4, .int u6_5])), (qf0, .inl (cf0, 1500, .inl g906_0))]) [5, 0] rfl
  have hDc := hD.sub (ws' := [(h0, .inr (1, [.ref qf0, .int u4_2, .ref qf2, .int u7_1, .int u7_2, .ref qf5, .ref qf6, .int v7, .int v8, .ref qf9, .int v10, .ref qf11, .ref qf12, .ref qf13, .int u6_4, .int u6_5])), (qf0, .inl (cf0, 1500, .inl g906_0))]) [5, 0] (by decide) rfl
  have hKc := hK.sub (tys' := [(cf0, .byte)]) [0] rfl
  have hFc := va_free (wc := [(h0, .inr (1, [.ref qf0, .int u4_2, .ref qf2, .int u7_1, .int u7_2, .ref qf5, .ref qf6, .int v7, .int v8, .ref qf9, .int v10, .ref qf11, .ref qf12, .ref qf13, .int u6_4, .int u6_5])), (qf0, .inl (cf0, 1500, .inl g906_0))]) hD hS hA [5, 0] rfl
  refine va_callv (va_runV (As := [.int 4]) (rest := []) ⟨hx, hb, hml, hown, hts⟩ (t1_op l dC dI H.size h0 4 qf0 u4_2 qf2 u7_1 u7_2 qf5 qf6 v7 v8 qf9 v10 qf11 qf12 qf13 u6_4 u6_5 cf0 g906_0 nf g908_0 u8_1 hu_8) (cwV 1 hts gv_h7_4 rfl rfl rfl (by decide +kernel) ⟨Nat.le_of_ble_eq_true rfl, Nat.le_of_ble_eq_true rfl⟩) ⟨fun a U g mk q => by obtain ⟨q0, q1, qP, qK, qD⟩ := q; exact ⟨q0, q1, qP, va_K.moved (u := U) (U := U.calling g mk a) (Vm.Alike.refl U.vm) qK, qD⟩, va_recv hKc hPc (ci := 1) (q0 := 0) rfl rfl, fun U hU hW => ⟨rfl, by rw [hU], by rw [hU]; exact hPc, va_K.moved hW.alike hKc, hDc.weaken (fun _ _ _ _ => trivial)⟩⟩ rfl rfl hl.1 rfl (lv_room (Nat.le_of_ble_eq_true rfl)) dX1_truth_48 ⟨Nat.le_of_ble_eq_true rfl, Nat.le_of_ble_eq_true rfl⟩) hS (fun q _ h => hFc q h) hFc ?_
  clear hS
  intro u t H1 locs ht hvm hw hB hz1 hk1 hS
  obtain ⟨⟩ := u
  obtain ⟨hP1, hK1, hD1⟩ := hB
  rw [ht] at hP1
  have hK1 := va_K.moved hvm.symm hK1
  try dsimp only at hw
  have hPD := va_join (wr := [(qf13, .inl (cf13, 100, .inl g906_3)), (qf11, .inl (cf11, 100, .inl g906_1)), (qf12, .inl (cf12, 5200, .inl g906_2)), (qf6, .inl (cf6, 750, .inl f6)), (qf2, .inl (cf2, 20, .inl g907_0))]) (w1 := [(h0, .inr (1, [.ref qf0, .int u8_1, .ref qf2, .int u7_1, .int u7_2, .ref qf5, .ref qf6, .int v7, .int v8, .ref qf9, .int v10, .ref qf11, .ref qf12, .ref qf13, .int u6_4, .int u6_5])), (qf0, .inl (cf0, 1500, .inl g908_0))]) hP hD [5, 0] [1, 2, 3, 4, 6] rfl rfl (by decide) (by decide) hk1 hFc hP1 hD1
  clear hP hD
  obtain ⟨hP, hD⟩ := hPD
  replace hK := (hK.sub (tys' := [(cf13, .int), (cf11, .int), (cf12, .int), (cf6, .int), (cf2, .int)]) [1, 2, 3, 4, 5] rfl).app hK1
  clear hPc hDc hKc hFc hP1 hK1 hD1 hz1 hk1 ht hvm
  generalize H1 = H at hP hS ⊢
  replace hP : va_P (dC, dI) vwCl [(qf13, .inl (cf13, 100, .inl g906_3)), (qf11, .inl (cf11, 100, .inl g906_1)), (qf12, .inl (cf12, 5200, .inl g906_2)), (qf6, .inl (cf6, 750, .inl f6)), (qf2, .inl (cf2, 20, .inl g907_0)), (h0, .inr (1, [.ref qf0, .int u8_1, .ref qf2, .int u7_1, .int u7_2, .ref qf5, .ref qf6, .int v7, .int v8, .ref qf9, .int v10, .ref qf11, .ref qf12, .ref qf13, .int u6_4, .int u6_5])), (qf0, .inl (cf0, 1500, .inl g908_0))] H := hP
  replace hD : va_D A [(qf13, .inl (cf13, 100, .inl g906_3)), (qf11, .inl (cf11, 100, .inl g906_1)), (qf12, .inl (cf12, 5200, .inl g906_2)), (qf6, .inl (cf6, 750, .inl f6)), (qf2, .inl (cf2, 20, .inl g907_0)), (h0, .inr (1, [.ref qf0, .int u8_1, .ref qf2, .int u7_1, .int u7_2, .ref qf5, .ref qf6, .int v7, .int v8, .ref qf9, .int v10, .ref qf11, .ref qf12, .ref qf13, .int u6_4, .int u6_5])), (qf0, .inl (cf0, 1500, .inl g908_0))] := hD
  replace hK : va_K (dC, dI) vwCl [(cf13, .int), (cf11, .int), (cf12, .int), (cf6, .int), (cf2, .int), (cf0, .byte)] s := hK
  refine lv_aload_n hx hb dX1_truth_51 rfl (lv_at hl 2 rfl) ?_
  refine lv_iload hx hb dX1_truth_52 (lv_at hl 0 rfl) ?_
  obtain ⟨⟨g909_0, g909_1, g909_2, g909_3, u9_4, u9_5⟩, hu_9, hsp⟩ := ox_bind hsp
  try dsimp only at hsp
  have hPc := hP.sub (ws' := [(h0, .inr (1, [.ref qf0, .int u8_1, .ref qf2, .int u7_1, .int u7_2, .ref qf5, .ref qf6, .int v7, .int v8, .ref qf9, .int v10, .ref qf11, .ref qf12, .ref qf13, .int u6_4, .int u6_5])), (qf0, .inl (cf0, 1500, .inl g908_0)), (qf13, .inl (cf13, 100, .inl g906_3)), (qf11, .inl (cf11, 100, .inl g906_1)), (qf12, .inl (cf12, 5200, .inl g906_2)), (qf6, .inl (cf6, 750, .inl f6)), (qf2, .inl (cf2, 20, .inl g907_0))]) [5, 6, 0, 1, 2, 3, 4] rfl
  have hDc := hD.sub (ws' := [(h0, .inr (1, [.ref qf0, .int u8_1, .ref qf2, .int u7_1, .int u7_2, .ref qf5, .ref qf6, .int v7, .int v8, .ref qf9, .int v10, .ref qf11, .ref qf12, .ref qf13, .int u6_4, .int u6_5])), (qf0, .inl (cf0, 1500, .inl g908_0)), (qf13, .inl (cf13, 100, .inl g906_3)), (qf11, .inl (cf11, 100, .inl g906_1)), (qf12, .inl (cf12, 5200, .inl g906_2)), (qf6, .inl (cf6, 750, .inl f6)), (qf2, .inl (cf2, 20, .inl g907_0))]) [5, 6, 0, 1, 2, 3, 4] (by decide) rfl
  have hKc := hK.sub (tys' := [(cf0, .byte), (cf13, .int), (cf11, .int), (cf12, .int), (cf6, .int), (cf2, .int)]) [5, 0, 1, 2, 3, 4] rfl
  have hFc := va_free (wc := [(h0, .inr (1, [.ref qf0, .int u8_1, .ref qf2, .int u7_1, .int u7_2, .ref qf5, .ref qf6, .int v7, .int v8, .ref qf9, .int v10, .ref qf11, .ref qf12, .ref qf13, .int u6_4, .int u6_5])), (qf0, .inl (cf0, 1500, .inl g908_0)), (qf13, .inl (cf13, 100, .inl g906_3)), (qf11, .inl (cf11, 100, .inl g906_1)), (qf12, .inl (cf12, 5200, .inl g906_2)), (qf6, .inl (cf6, 750, .inl f6)), (qf2, .inl (cf2, 20, .inl g907_0))]) hD hS hA [5, 6, 0, 1, 2, 3, 4] rfl
  refine va_callv (va_runV (As := [.int u4_0]) (rest := []) ⟨hx, hb, hml, hown, hts⟩ (v1_aimHere l dC dI H.size h0 u4_0 qf0 u8_1 qf2 u7_1 u7_2 qf5 qf6 v7 v8 qf9 v10 qf11 qf12 qf13 u6_4 u6_5 cf0 g908_0 cf13 g906_3 cf11 g906_1 cf12 g906_2 cf6 f6 cf2 g907_0 nf g909_0 g909_1 g909_2 g909_3 u9_4 u9_5 hu_9) (cwV 1 hts gv_h7_108 rfl rfl rfl (by decide +kernel) ⟨Nat.le_of_ble_eq_true rfl, Nat.le_of_ble_eq_true rfl⟩) ⟨fun a U g mk q => by obtain ⟨q0, q1, qP, qK, qD⟩ := q; exact ⟨q0, q1, qP, va_K.moved (u := U) (U := U.calling g mk a) (Vm.Alike.refl U.vm) qK, qD⟩, va_recv hKc hPc (ci := 1) (q0 := 0) rfl rfl, fun U hU hW => ⟨rfl, by rw [hU], by rw [hU]; exact hPc, va_K.moved hW.alike hKc, hDc.weaken (fun _ _ _ _ => trivial)⟩⟩ rfl rfl hl.1 rfl (lv_room (Nat.le_of_ble_eq_true rfl)) dX1_truth_54 ⟨Nat.le_of_ble_eq_true rfl, Nat.le_of_ble_eq_true rfl⟩) hS (fun q _ h => hFc q h) hFc ?_
  clear hS
  intro u t H1 locs ht hvm hw hB hz1 hk1 hS
  obtain ⟨⟩ := u
  obtain ⟨hP1, hK1, hD1⟩ := hB
  rw [ht] at hP1
  have hK1 := va_K.moved hvm.symm hK1
  try dsimp only at hw
  have hPD := va_join (wr := []) (w1 := [(h0, .inr (1, [.ref qf0, .int u8_1, .ref qf2, .int u7_1, .int u7_2, .ref qf5, .ref qf6, .int v7, .int v8, .ref qf9, .int v10, .ref qf11, .ref qf12, .ref qf13, .int u9_4, .int u9_5])), (qf0, .inl (cf0, 1500, .inl g909_0)), (qf13, .inl (cf13, 100, .inl g909_3)), (qf11, .inl (cf11, 100, .inl g909_1)), (qf12, .inl (cf12, 5200, .inl g909_2)), (qf6, .inl (cf6, 750, .inl f6)), (qf2, .inl (cf2, 20, .inl g907_0))]) hP hD [5, 6, 0, 1, 2, 3, 4] [] rfl rfl (by decide) (by decide) hk1 hFc hP1 hD1
  clear hP hD
  obtain ⟨hP, hD⟩ := hPD
  replace hK := (hK.sub (tys' := []) [] rfl).app hK1
  clear hPc hDc hKc hFc hP1 hK1 hD1 hz1 hk1 ht hvm
  generalize H1 = H at hP hS ⊢
  replace hP : va_P (dC, dI) vwCl [(h0, .inr (1, [.ref qf0, .int u8_1, .ref qf2, .int u7_1, .int u7_2, .ref qf5, .ref qf6, .int v7, .int v8, .ref qf9, .int v10, .ref qf11, .ref qf12, .ref qf13, .int u9_4, .int u9_5])), (qf0, .inl (cf0, 1500, .inl g909_0)), (qf13, .inl (cf13, 100, .inl g909_3)), (qf11, .inl (cf11, 100, .inl g909_1)), (qf12, .inl (cf12, 5200, .inl g909_2)), (qf6, .inl (cf6, 750, .inl f6)), (qf2, .inl (cf2, 20, .inl g907_0))] H := hP
  replace hD : va_D A [(h0, .inr (1, [.ref qf0, .int u8_1, .ref qf2, .int u7_1, .int u7_2, .ref qf5, .ref qf6, .int v7, .int v8, .ref qf9, .int v10, .ref qf11, .ref qf12, .ref qf13, .int u9_4, .int u9_5])), (qf0, .inl (cf0, 1500, .inl g909_0)), (qf13, .inl (cf13, 100, .inl g909_3)), (qf11, .inl (cf11, 100, .inl g909_1)), (qf12, .inl (cf12, 5200, .inl g909_2)), (qf6, .inl (cf6, 750, .inl f6)), (qf2, .inl (cf2, 20, .inl g907_0))] := hD
  replace hK : va_K (dC, dI) vwCl [(cf0, .byte), (cf13, .int), (cf11, .int), (cf12, .int), (cf6, .int), (cf2, .int)] s := hK
  have hr0 := Option.some.inj hsp
  clear hsp
  obtain ⟨hq0, hr1⟩ := Prod.mk.inj hr0
  clear hr0
  obtain ⟨hq1, hr2⟩ := Prod.mk.inj hr1
  clear hr1
  obtain ⟨hq2, hr3⟩ := Prod.mk.inj hr2
  clear hr2
  obtain ⟨hq3, hr4⟩ := Prod.mk.inj hr3
  clear hr3
  obtain ⟨hq4, hr5⟩ := Prod.mk.inj hr4
  clear hr4
  obtain ⟨hq5, hr6⟩ := Prod.mk.inj hr5
  clear hr5
  obtain ⟨hq6, hr7⟩ := Prod.mk.inj hr6
  clear hr6
  obtain ⟨hq7, hr8⟩ := Prod.mk.inj hr7
  clear hr7
  obtain ⟨hq8, hr9⟩ := Prod.mk.inj hr8
  clear hr8
  subst hq0
  subst hq1
  subst hq2
  subst hq3
  subst hq4
  subst hq5
  subst hq6
  subst hq7
  subst hq8
  subst hr9
  have hP9 := hP.sub (ws' := [(h0, .inr (1, [.ref qf0, .int u8_1, .ref qf2, .int u7_1, .int u7_2, .ref qf5, .ref qf6, .int v7, .int v8, .ref qf9, .int v10, .ref qf11, .ref qf12, .ref qf13, .int u9_4, .int u9_5])), (qf0, .inl (cf0, 1500, .inl g909_0)), (qf2, .inl (cf2, 20, .inl g907_0)), (qf13, .inl (cf13, 100, .inl g909_3)), (qf11, .inl (cf11, 100, .inl g909_1)), (qf12, .inl (cf12, 5200, .inl g909_2)), (qf6, .inl (cf6, 750, .inl f6))]) [0, 1, 6, 2, 3, 4, 5] rfl
  have hD9 := hD.sub (ws' := [(h0, .inr (1, [.ref qf0, .int u8_1, .ref qf2, .int u7_1, .int u7_2, .ref qf5, .ref qf6, .int v7, .int v8, .ref qf9, .int v10, .ref qf11, .ref qf12, .ref qf13, .int u9_4, .int u9_5])), (qf0, .inl (cf0, 1500, .inl g909_0)), (qf2, .inl (cf2, 20, .inl g907_0)), (qf13, .inl (cf13, 100, .inl g909_3)), (qf11, .inl (cf11, 100, .inl g909_1)), (qf12, .inl (cf12, 5200, .inl g909_2)), (qf6, .inl (cf6, 750, .inl f6))]) [0, 1, 6, 2, 3, 4, 5] (by decide) rfl
  have hK9 := hK.sub (tys' := [(cf0, .byte), (cf2, .int), (cf13, .int), (cf11, .int), (cf12, .int), (cf6, .int)]) [0, 5, 1, 2, 3, 4] rfl
  exact W.vret hx hb hr (fun t ht hW => ⟨⟨(), rfl, trivial, by rw [ht]; exact hP9, va_K.moved hW.alike hK9, hD9⟩, hS.F ht⟩) hS.2.2 dX1_truth_57
def jn_v1_addHandler_76 (nf : Nat) (a1 : Int32) (a2 : Int32) (a3 : Int32) (v1 : Int32) (v3 : Int32) (v4 : Int32) (v7 : Int32) (v10 : Int32) (v14 : Int32) (v15 : Int32) (f9 : Nat → Int32) (f2 : Nat → Int32) (f13 : Nat → Int32) (f11 : Nat → Int32) (f12 : Nat → Int32) (f6 : Nat → Int32)  (l3_76 : Int32) (g11_76 : Nat → Int32) (g12_76 : Nat → Int32) (g13_76 : Nat → Int32) (g2_76 : Nat → Int32) (g9_76 : Nat → Int32) (x10_76 : Int32) (x14_76 : Int32) (x15_76 : Int32) (x3_76 : Int32) (x4_76 : Int32) : Option ((Nat → Int32) × (Nat → Int32) × (Nat → Int32) × (Nat → Int32) × (Nat → Int32) × Int32 × Int32 × Int32 × Int32 × Int32) := ((sp_t1_push nf l3_76 x3_76 x4_76 g2_76).bind (fun p1 => ((sp_v1_slotOfFrame nf v1 x14_76 g13_76 g11_76).bind (fun p2 => ((sp_v1_fillFrame nf p2.1 v7 p1.2.1 x15_76 g12_76 f6 p1.1).bind (fun p3 => (some (p2.2.1, p3.1, p2.2.2.1, p1.1, g9_76, x10_76, p2.2.2.2, p3.2, p1.2.1, p1.2.2))))))))
def sp_v1_addHandler (nf : Nat) (a1 : Int32) (a2 : Int32) (a3 : Int32) (v1 : Int32) (v3 : Int32) (v4 : Int32) (v7 : Int32) (v10 : Int32) (v14 : Int32) (v15 : Int32) (f9 : Nat → Int32) (f2 : Nat → Int32) (f13 : Nat → Int32) (f11 : Nat → Int32) (f12 : Nat → Int32) (f6 : Nat → Int32) : Option ((Nat → Int32) × (Nat → Int32) × (Nat → Int32) × (Nat → Int32) × (Nat → Int32) × Int32 × Int32 × Int32 × Int32 × Int32) := (if v10 < 20 then (if (v10 * 4) < 0 then none else if 80 ≤ ((v10 * 4) : Int32).toNatClampNeg then none else (if ((v10 * 4) + 1) < 0 then none else if 80 ≤ (((v10 * 4) + 1) : Int32).toNatClampNeg then none else (if ((v10 * 4) + 2) < 0 then none else if 80 ≤ (((v10 * 4) + 2) : Int32).toNatClampNeg then none else (if ((v10 * 4) + 3) < 0 then none else if 80 ≤ (((v10 * 4) + 3) : Int32).toNatClampNeg then none else (jn_v1_addHandler_76 nf a1 a2 a3 v1 v3 v4 v7 v10 v14 v15 f9 f2 f13 f11 f12 f6  a3 f11 f12 f13 f2 (upd (upd (upd (upd f9 ((v10 * 4) : Int32).toNatClampNeg a1) (((v10 * 4) + 1) : Int32).toNatClampNeg a2) (((v10 * 4) + 2) : Int32).toNatClampNeg v1) (((v10 * 4) + 3) : Int32).toNatClampNeg a3) (v10 + 1) v14 v15 v3 v4))))) else (jn_v1_addHandler_76 nf a1 a2 a3 v1 v3 v4 v7 v10 v14 v15 f9 f2 f13 f11 f12 f6  a3 f11 f12 f13 f2 f9 v10 v14 1 v3 v4))
