set_option maxHeartbeats 4000000 in
set_option maxRecDepth 100000 in
/-- ClassMill$Verifier.proveInstructions -/
theorem v11_proveInstructions (l : Launch) (dC : Nat → ClassId) (dI : Nat → Nat → Nat) (sz : Nat) (h0 : Nat) (qf0 : Nat) (qf1 : Nat) (v2 : Int32) (v3 : Int32) (v4 : Int32) (qf5 : Nat) (v6 : Int32) (v7 : Int32) (qf8 : Nat) (qf9 : Nat) (qf10 : Nat) (qf11 : Nat) (qf12 : Nat) (qf13 : Nat) (qf14 : Nat) (qf15 : Nat) (v16 : Int32) (v17 : Int32) (v18 : Int32) (v19 : Int32) (v20 : Int32) (qf5_0 : Nat) (v5_1 : Int32) (v5_2 : Int32) (v5_3 : Int32) (qf5_4 : Nat) (qf5_5 : Nat) (qf5_6 : Nat) (v5_7 : Int32) (v5_8 : Int32) (v5_9 : Int32) (v5_10 : Int32) (qf5_11 : Nat) (v5_12 : Int32) (qf5_13 : Nat) (cf5_13 : ClassId) (f5_13 : (Nat → Int32)) (cf12 : ClassId) (f12 : (Nat → Int32)) (cf5_0 : ClassId) (nb : Nat) (f5_0 : (Nat → Int32)) (nf : Nat) (r0 : Int32) (o12 : (Nat → Int32)) (w16 : Int32) (w7 : Int32) (hsp : sp_v11_proveInstructions nf v6 v7 v5_1 v5_12 f5_13 f12 nb f5_0 = some (r0, o12, w16, w7)) : Met l yX11_proveInstructions (.code yX11_proveInstructions cX11_proveInstructions 3 (some .int) :: VS_h7) ({ frames := 3, cells := 0, slots := 0, locals := 65 }) (va_Pc [.ref h0] (fun U => U.heap.size = sz ∧ va_P (dC, dI) vwCl [(h0, .inr (11, [.ref qf0, .ref qf1, .int v2, .int v3, .int v4, .ref qf5, .int v6, .int v7, .ref qf8, .ref qf9, .ref qf10, .ref qf11, .ref qf12, .ref qf13, .ref qf14, .ref qf15, .int v16, .int v17, .int v18, .int v19, .int v20])), (qf5, .inr (3, [.ref qf5_0, .int v5_1, .int v5_2, .int v5_3, .ref qf5_4, .ref qf5_5, .ref qf5_6, .int v5_7, .int v5_8, .int v5_9, .int v5_10, .ref qf5_11, .int v5_12, .ref qf5_13])), (qf5_13, .inl (cf5_13, 144, .inl f5_13)), (qf12, .inl (cf12, 1500, .inl f12)), (qf5_0, .inl (cf5_0, nb, .inl f5_0))] U.heap ∧ va_K (dC, dI) vwCl [(cf5_13, .int), (cf12, .int), (cf5_0, .byte)] U ∧ va_D (fun _ => True) [(h0, .inr (11, [.ref qf0, .ref qf1, .int v2, .int v3, .int v4, .ref qf5, .int v6, .int v7, .ref qf8, .ref qf9, .ref qf10, .ref qf11, .ref qf12, .ref qf13, .ref qf14, .ref qf15, .int v16, .int v17, .int v18, .int v19, .int v20])), (qf5, .inr (3, [.ref qf5_0, .int v5_1, .int v5_2, .int v5_3, .ref qf5_4, .ref qf5_5, .ref qf5_6, .int v5_7, .int v5_8, .int v5_9, .int v5_10, .ref qf5_11, .int v5_12, .ref qf5_13])), (qf5_13, .inl (cf5_13, 144, .inl f5_13)), (qf12, .inl (cf12, 1500, .inl f12)), (qf5_0, .inl (cf5_0, nb, .inl f5_0))])) (va_Qi (fun (r : Int32) (u : Unit) => match u with | () => r0 = r) (fun (u : Unit) (t : State) => match u with | () => va_P (dC, dI) vwCl [(h0, .inr (11, [.ref qf0, .ref qf1, .int v2, .int v3, .int v4, .ref qf5, .int v6, .int w7, .ref qf8, .ref qf9, .ref qf10, .ref qf11, .ref qf12, .ref qf13, .ref qf14, .ref qf15, .int w16, .int v17, .int v18, .int v19, .int v20])), (qf5, .inr (3, [.ref qf5_0, .int v5_1, .int v5_2, .int v5_3, .ref qf5_4, .ref qf5_5, .ref qf5_6, .int v5_7, .int v5_8, .int v5_9, .int v5_10, .ref qf5_11, .int v5_12, .ref qf5_13])), (qf5_13, .inl (cf5_13, 144, .inl f5_13)), (qf12, .inl (cf12, 1500, .inl o12)), (qf5_0, .inl (cf5_0, nb, .inl f5_0))] t.heap ∧ va_K (dC, dI) vwCl [(cf5_13, .int), (cf12, .int), (cf5_0, .byte)] t ∧ va_D (va_A [(h0, .inr (11, [.ref qf0, .ref qf1, .int v2, .int v3, .int v4, .ref qf5, .int v6, .int v7, .ref qf8, .ref qf9, .ref qf10, .ref qf11, .ref qf12, .ref qf13, .ref qf14, .ref qf15, .int v16, .int v17, .int v18, .int v19, .int v20])), (qf5, .inr (3, [.ref qf5_0, .int v5_1, .int v5_2, .int v5_3, .ref qf5_4, .ref qf5_5, .ref qf5_6, .int v5_7, .int v5_8, .int v5_9, .int v5_10, .ref qf5_11, .int v5_12, .ref qf5_13])), (qf5_13, .inl (cf5_13, 144, .inl f5_13)), (qf12, .inl (cf12, 1500, .inl f12)), (qf5_0, .inl (cf5_0, nb, .inl f5_0))] sz) [(h0, .inr (11, [.ref qf0, .ref qf1, .int v2, .int v3, .int v4, .ref qf5, .int v6, .int w7, .ref qf8, .ref qf9, .ref qf10, .ref qf11, .ref qf12, .ref qf13, .ref qf14, .ref qf15, .int w16, .int v17, .int v18, .int v19, .int v20])), (qf5, .inr (3, [.ref qf5_0, .int v5_1, .int v5_2, .int v5_3, .ref qf5_4, .ref qf5_5, .ref qf5_6, .int v5_7, .int v5_8, .int v5_9, .int v5_10, .ref qf5_11, .int v5_12, .ref qf5_13])), (qf5_13, .inl (cf5_13, 144, .inl f5_13)), (qf12, .inl (cf12, 1500, .inl o12)), (qf5_0, .inl (cf5_0, nb, .inl f5_0))]) (va_A [(h0, .inr (11, [.ref qf0, .ref qf1, .int v2, .int v3, .int v4, .ref qf5, .int v6, .int v7, .ref qf8, .ref qf9, .ref qf10, .ref qf11, .ref qf12, .ref qf13, .ref qf14, .ref qf15, .int v16, .int v17, .int v18, .int v19, .int v20])), (qf5, .inr (3, [.ref qf5_0, .int v5_1, .int v5_2, .int v5_3, .ref qf5_4, .ref qf5_5, .ref qf5_6, .int v5_7, .int v5_8, .int v5_9, .int v5_10, .ref qf5_11, .int v5_12, .ref qf5_13])), (qf5_13, .inl (cf5_13, 144, .inl f5_13)), (qf12, .inl (cf12, 1500, .inl f12)), (qf5_0, .inl (cf5_0, nb, .inl f5_0))] sz)) 0 0 (va_A [(h0, .inr (11, [.ref qf0, .ref qf1, .int v2, .int v3, .int v4, .ref qf5, .int v6, .int v7, .ref qf8, .ref qf9, .ref qf10, .ref qf11, .ref qf12, .ref qf13, .ref qf14, .ref qf15, .int v16, .int v17, .int v18, .int v19, .int v20])), (qf5, .inr (3, [.ref qf5_0, .int v5_1, .int v5_2, .int v5_3, .ref qf5_4, .ref qf5_5, .ref qf5_6, .int v5_7, .int v5_8, .int v5_9, .int v5_10, .ref qf5_11, .int v5_12, .ref qf5_13])), (qf5_13, .inl (cf5_13, 144, .inl f5_13)), (qf12, .inl (cf12, 1500, .inl f12)), (qf5_0, .inl (cf5_0, nb, .inl f5_0))] sz) := by
  refine Met.ofW (cc := cX11_proveInstructions) (maxL := 3) (ret := (some .int)) (by decide) rfl ?_
  intro p e s m args below meth c s₁ B hml hv
  obtain ⟨rfl, hsz, hP, hK, hD0⟩ := hv
  have hx := B.exec
  have hb := B.bytes
  have hr := B.returns
  have hts := atoms_spec (ws := (.code yX11_proveInstructions cX11_proveInstructions 3 (some .int) :: VS_h7)) B.pre
  replace hts := fun w (h : w ∈ VS_h7) => hts w (List.mem_cons_of_mem _ h)
  have hown : s.vm.findClass RX11 = some m.cls := findClass_of_methodNamed B.named
  have hlocks := B.notSynchronized
  subst hsz
  have hD := hD0.self (sz := s.heap.size)
  generalize hAe : va_A [(h0, .inr (11, [.ref qf0, .ref qf1, .int v2, .int v3, .int v4, .ref qf5, .int v6, .int v7, .ref qf8, .ref qf9, .ref qf10, .ref qf11, .ref qf12, .ref qf13, .ref qf14, .ref qf15, .int v16, .int v17, .int v18, .int v19, .int v20])), (qf5, .inr (3, [.ref qf5_0, .int v5_1, .int v5_2, .int v5_3, .ref qf5_4, .ref qf5_5, .ref qf5_6, .int v5_7, .int v5_8, .int v5_9, .int v5_10, .ref qf5_11, .int v5_12, .ref qf5_13])), (qf5_13, .inl (cf5_13, 144, .inl f5_13)), (qf12, .inl (cf12, 1500, .inl f12)), (qf5_0, .inl (cf5_0, nb, .inl f5_0))] s.heap.size = A at hD  ⊢
  have hA : ∀ q : Nat, s.heap.size ≤ q → A q := fun q h => by rw [← hAe]; exact Or.inr h
  have hP : va_P (dC, dI) vwCl [(h0, .inr (11, [.ref qf0, .ref qf1, .int v2, .int v3, .int v4, .ref qf5, .int v6, .int v7, .ref qf8, .ref qf9, .ref qf10, .ref qf11, .ref qf12, .ref qf13, .ref qf14, .ref qf15, .int v16, .int v17, .int v18, .int v19, .int v20])), (qf5, .inr (3, [.ref qf5_0, .int v5_1, .int v5_2, .int v5_3, .ref qf5_4, .ref qf5_5, .ref qf5_6, .int v5_7, .int v5_8, .int v5_9, .int v5_10, .ref qf5_11, .int v5_12, .ref qf5_13])), (qf5_13, .inl (cf5_13, 144, .inl f5_13)), (qf12, .inl (cf12, 1500, .inl f12)), (qf5_0, .inl (cf5_0, nb, .inl f5_0))] s.heap := hP
  have hl := lv_entry ([.ref h0]) (n := 3) (Nat.le_of_ble_eq_true rfl)
  rw [lg_entry_eq]
  generalize (lg_sl ([.ref h0]) ++ List.replicate (3 - (lg_sl ([.ref h0])).length) Slot.unset).toArray = ls at hl ⊢
  have hl : lv_has ls 3 [(0, .ref h0)] := hl
  obtain ⟨H, hH⟩ : ∃ H : Heap, s.heap = H := ⟨_, rfl⟩
  rw [hH] at hP ⊢
  have hS : va_S A s.heap H [] := by rw [← hH]; exact va_S.rf
  obtain ⟨locs, hlo⟩ : ∃ locs : List Loc, locs = [] := ⟨_, rfl⟩
  rw [← hlo] at hS ⊢
  unfold sp_v11_proveInstructions at hsp
  refine lv_aload_n hx hb dX11_proveInstructions_0 rfl (lv_at hl 0 rfl) ?_
  refine lv_aload_n hx hb dX11_proveInstructions_1 rfl (lv_at hl 0 rfl) ?_
  refine lv_iconst (v := 5) hx hb dX11_proveInstructions_2 (by decide) ?_
  obtain ⟨u1_0, hu_1, hsp⟩ := ox_bind hsp
  try dsimp only at hsp
  have hPc := hP.sub (ws' := [(h0, .inr (11, [.ref qf0, .ref qf1, .int v2, .int v3, .int v4, .ref qf5, .int v6, .int v7, .ref qf8, .ref qf9, .ref qf10, .ref qf11, .ref qf12, .ref qf13, .ref qf14, .ref qf15, .int v16, .int v17, .int v18, .int v19, .int v20])), (qf5, .inr (3, [.ref qf5_0, .int v5_1, .int v5_2, .int v5_3, .ref qf5_4, .ref qf5_5, .ref qf5_6, .int v5_7, .int v5_8, .int v5_9, .int v5_10, .ref qf5_11, .int v5_12, .ref qf5_13])), (qf5_13, .inl (cf5_13, 144, .inl f5_13))]) [0, 1, 2] rfl
  have hDc := hD.sub (ws' := [(h0, .inr (11, [.ref qf0, .ref qf1, .int v2, .int v3, .int v4, .ref qf5, .int v6, .int v7, .ref qf8, .ref qf9, .ref qf10, .ref qf11, .ref qf12, .ref qf13, .ref qf14, .ref qf15, .int v16, .int v17, .int v18, .int v19, .int v20])), (qf5, .inr (3, [.ref qf5_0, .int v5_1, .int v5_2, .int v5_3, .ref qf5_4, .ref qf5_5, .ref qf5_6, .int v5_7, .int v5_8, .int v5_9, .int v5_10, .ref qf5_11, .int v5_12, .ref qf5_13])), (qf5_13, .inl (cf5_13, 144, .inl f5_13))]) [0, 1, 2] (by decide) rfl
  have hKc := hK.sub (tys' := [(cf5_13, .int)]) [0] rfl
  have hFc := va_free (wc := [(h0, .inr (11, [.ref qf0, .ref qf1, .int v2, .int v3, .int v4, .ref qf5, .int v6, .int v7, .ref qf8, .ref qf9, .ref qf10, .ref qf11, .ref qf12, .ref qf13, .ref qf14, .ref qf15, .int v16, .int v17, .int v18, .int v19, .int v20])), (qf5, .inr (3, [.ref qf5_0, .int v5_1, .int v5_2, .int v5_3, .ref qf5_4, .ref qf5_5, .ref qf5_6, .int v5_7, .int v5_8, .int v5_9, .int v5_10, .ref qf5_11, .int v5_12, .ref qf5_13])), (qf5_13, .inl (cf5_13, 144, .inl f5_13))]) hD hS hA [0, 1, 2] rfl
  refine va_calli (va_runV (As := [.int 5]) (rest := [.ref h0]) ⟨hx, hb, hml, hown, hts⟩ (t11_info l dC dI H.size h0 5 qf0 qf1 v2 v3 v4 qf5 v6 v7 qf8 qf9 qf10 qf11 qf12 qf13 qf14 qf15 v16 v17 v18 v19 v20 qf5_0 v5_1 v5_2 v5_3 qf5_4 qf5_5 qf5_6 v5_7 v5_8 v5_9 v5_10 qf5_11 v5_12 qf5_13 cf5_13 f5_13 nf u1_0 hu_1) (cwV 1 hts gv_h7_97 rfl rfl rfl (by decide +kernel) ⟨Nat.le_of_ble_eq_true rfl, Nat.le_of_ble_eq_true rfl⟩) ⟨fun a U g mk q => by obtain ⟨q0, q1, qP, qK, qD⟩ := q; exact ⟨q0, q1, qP, va_K.moved (u := U) (U := U.calling g mk a) (Vm.Alike.refl U.vm) qK, qD⟩, va_recv hKc hPc (ci := 11) (q0 := 0) rfl rfl, fun U hU hW => ⟨rfl, by rw [hU], by rw [hU]; exact hPc, va_K.moved hW.alike hKc, hDc.weaken (fun _ _ _ _ => trivial)⟩⟩ rfl rfl hl.1 rfl (lv_room (Nat.le_of_ble_eq_true rfl)) dX11_proveInstructions_3 ⟨Nat.le_of_ble_eq_true rfl, Nat.le_of_ble_eq_true rfl⟩) hS (fun q _ h => hFc q h) hFc ?_
  clear hS
  intro r_1 u t H1 locs ht hvm hw hB hz1 hk1 hS
  obtain ⟨⟩ := u
  obtain ⟨hP1, hK1, hD1⟩ := hB
  rw [ht] at hP1
  have hK1 := va_K.moved hvm.symm hK1
  try dsimp only at hw
  have hPD := va_join (wr := [(qf12, .inl (cf12, 1500, .inl f12)), (qf5_0, .inl (cf5_0, nb, .inl f5_0))]) (w1 := [(h0, .inr (11, [.ref qf0, .ref qf1, .int v2, .int v3, .int v4, .ref qf5, .int v6, .int v7, .ref qf8, .ref qf9, .ref qf10, .ref qf11, .ref qf12, .ref qf13, .ref qf14, .ref qf15, .int v16, .int v17, .int v18, .int v19, .int v20])), (qf5, .inr (3, [.ref qf5_0, .int v5_1, .int v5_2, .int v5_3, .ref qf5_4, .ref qf5_5, .ref qf5_6, .int v5_7, .int v5_8, .int v5_9, .int v5_10, .ref qf5_11, .int v5_12, .ref qf5_13])), (qf5_13, .inl (cf5_13, 144, .inl f5_13))]) hP hD [0, 1, 2] [3, 4] rfl rfl (by decide) (by decide) hk1 hFc hP1 hD1
  clear hP hD
  obtain ⟨hP, hD⟩ := hPD
  replace hK := (hK.sub (tys' := [(cf12, .int), (cf5_0, .byte)]) [1, 2] rfl).app hK1
  clear hPc hDc hKc hFc hP1 hK1 hD1 hz1 hk1 ht hvm
  generalize H1 = H at hP hS ⊢
  replace hP : va_P (dC, dI) vwCl [(qf12, .inl (cf12, 1500, .inl f12)), (qf5_0, .inl (cf5_0, nb, .inl f5_0)), (h0, .inr (11, [.ref qf0, .ref qf1, .int v2, .int v3, .int v4, .ref qf5, .int v6, .int v7, .ref qf8, .ref qf9, .ref qf10, .ref qf11, .ref qf12, .ref qf13, .ref qf14, .ref qf15, .int v16, .int v17, .int v18, .int v19, .int v20])), (qf5, .inr (3, [.ref qf5_0, .int v5_1, .int v5_2, .int v5_3, .ref qf5_4, .ref qf5_5, .ref qf5_6, .int v5_7, .int v5_8, .int v5_9, .int v5_10, .ref qf5_11, .int v5_12, .ref qf5_13])), (qf5_13, .inl (cf5_13, 144, .inl f5_13))] H := hP
  replace hD : va_D A [(qf12, .inl (cf12, 1500, .inl f12)), (qf5_0, .inl (cf5_0, nb, .inl f5_0)), (h0, .inr (11, [.ref qf0, .ref qf1, .int v2, .int v3, .int v4, .ref qf5, .int v6, .int v7, .ref qf8, .ref qf9, .ref qf10, .ref qf11, .ref qf12, .ref qf13, .ref qf14, .ref qf15, .int v16, .int v17, .int v18, .int v19, .int v20])), (qf5, .inr (3, [.ref qf5_0, .int v5_1, .int v5_2, .int v5_3, .ref qf5_4, .ref qf5_5, .ref qf5_6, .int v5_7, .int v5_8, .int v5_9, .int v5_10, .ref qf5_11, .int v5_12, .ref qf5_13])), (qf5_13, .inl (cf5_13, 144, .inl f5_13))] := hD
  replace hK : va_K (dC, dI) vwCl [(cf12, .int), (cf5_0, .byte), (cf5_13, .int)] s := hK
  obtain rfl := hw
  refine lv_aload_n hx hb dX11_proveInstructions_6 rfl (lv_at hl 0 rfl) ?_
  refine va_get (D := (dC, dI)) (ci := 11) (v := .ref qf12) (C := RX11) (T := TX11) (N := 21) hx hb hts uV_h7_X11 hown hK hP 2 rfl rfl 12 (by decide) (hts (.fieldLink RX11 38 "ClassMill$Verifier" "marks" "[I") mw_h7_410) (fun _ h9 => h9) rfl dX11_proveInstructions_7 ?_
  refine va_alen (v := 1500) hx hb hK hP 0 0 rfl rfl rfl dX11_proveInstructions_10 ?_
  refine va_mmin hx hb (by rw [hml]; exact hl.1.symm) hown (hts (.methodLink RX11 204 yJ9_min_7cf53) mw_h7_411) (hts (.static yJ9_min_7cf53) mw_h7_412) (hts (.initialized "java/lang/Math") mw_h7_328) (hts (.code yJ9_min_7cf53 cJ9_min_7cf53 2 (some .int)) mw_h7_413) (Nat.le_of_ble_eq_true rfl) (Nat.le_of_ble_eq_true rfl) (Nat.le_of_ble_eq_true rfl) (Nat.le_of_ble_eq_true rfl) dX11_proveInstructions_11 ?_
  refine va_put (D := (dC, dI)) (ci := 11) (v := .int (if 1500 < u1_0 then 1500 else u1_0)) (ty := .int) (C := RX11) (T := TX11) (N := 21) hx hb hts uV_h7_X11 tyX11 tyX11_ok nmX11 hown hK hP hD hS 2 rfl rfl 16 (by decide) (hts (.fieldLink RX11 209 "ClassMill$Verifier" "length" "I") mw_h7_414) (fun _ h9 => h9) rfl (by decide +kernel) rfl rfl (Nat.le_of_ble_eq_true rfl) dX11_proveInstructions_14 ?_
  clear hP hD hS
  intro H locs hP hD hS
  replace hP : va_P (dC, dI) vwCl [(qf12, .inl (cf12, 1500, .inl f12)), (qf5_0, .inl (cf5_0, nb, .inl f5_0)), (h0, .inr (11, [.ref qf0, .ref qf1, .int v2, .int v3, .int v4, .ref qf5, .int v6, .int v7, .ref qf8, .ref qf9, .ref qf10, .ref qf11, .ref qf12, .ref qf13, .ref qf14, .ref qf15, .int (if 1500 < u1_0 then 1500 else u1_0), .int v17, .int v18, .int v19, .int v20])), (qf5, .inr (3, [.ref qf5_0, .int v5_1, .int v5_2, .int v5_3, .ref qf5_4, .ref qf5_5, .ref qf5_6, .int v5_7, .int v5_8, .int v5_9, .int v5_10, .ref qf5_11, .int v5_12, .ref qf5_13])), (qf5_13, .inl (cf5_13, 144, .inl f5_13))] H := hP
  replace hD : va_D A [(qf12, .inl (cf12, 1500, .inl f12)), (qf5_0, .inl (cf5_0, nb, .inl f5_0)), (h0, .inr (11, [.ref qf0, .ref qf1, .int v2, .int v3, .int v4, .ref qf5, .int v6, .int v7, .ref qf8, .ref qf9, .ref qf10, .ref qf11, .ref qf12, .ref qf13, .ref qf14, .ref qf15, .int (if 1500 < u1_0 then 1500 else u1_0), .int v17, .int v18, .int v19, .int v20])), (qf5, .inr (3, [.ref qf5_0, .int v5_1, .int v5_2, .int v5_3, .ref qf5_4, .ref qf5_5, .ref qf5_6, .int v5_7, .int v5_8, .int v5_9, .int v5_10, .ref qf5_11, .int v5_12, .ref qf5_13])), (qf5_13, .inl (cf5_13, 144, .inl f5_13))] := hD
  refine lv_aload_n hx hb dX11_proveInstructions_17 rfl (lv_at hl 0 rfl) ?_
  refine va_get (D := (dC, dI)) (ci := 11) (v := .ref qf12) (C := RX11) (T := TX11) (N := 21) hx hb hts uV_h7_X11 hown hK hP 2 rfl rfl 12 (by decide) (hts (.fieldLink RX11 38 "ClassMill$Verifier" "marks" "[I") mw_h7_410) (fun _ h9 => h9) rfl dX11_proveInstructions_18 ?_
  refine lv_iconst (v := 0) hx hb dX11_proveInstructions_21 (by decide) ?_
  refine lv_aload_n hx hb dX11_proveInstructions_22 rfl (lv_at hl 0 rfl) ?_
  refine va_get (D := (dC, dI)) (ci := 11) (v := .int (if 1500 < u1_0 then 1500 else u1_0)) (C := RX11) (T := TX11) (N := 21) hx hb hts uV_h7_X11 hown hK hP 2 rfl rfl 16 (by decide) (hts (.fieldLink RX11 209 "ClassMill$Verifier" "length" "I") mw_h7_414) (fun _ h9 => h9) rfl dX11_proveInstructions_23 ?_
  refine lv_bipush (v := (-2)) hx hb dX11_proveInstructions_26 (by decide) ?_
  obtain ⟨g902_0, hu_2, hsp⟩ := ox_bind hsp
  try dsimp only at hsp
  have hPc := hP.sub (ws' := [(qf12, .inl (cf12, 1500, .inl f12))]) [0] rfl
  have hDc := hD.sub (ws' := [(qf12, .inl (cf12, 1500, .inl f12))]) [0] (by decide) rfl
  have hKc := hK.sub (tys' := [(cf12, .int)]) [0] rfl
  have hFc := va_free (wc := [(qf12, .inl (cf12, 1500, .inl f12))]) hD hS hA [0] rfl
  refine va_callv (va_runS (As := [.ref qf12, .int 0, .int (if 1500 < u1_0 then 1500 else u1_0), .int (-2)]) (rest := []) ⟨hx, hb, hml, hown, hts⟩ (jd_fill4 l dC dI H.size qf12 0 ((if 1500 < u1_0 then 1500 else u1_0)) (-2) cf12 1500 f12 nf g902_0 hu_2) (va_cwS 4 hts gv_h7_98 rfl rfl rfl (by decide +kernel) ⟨Nat.le_of_ble_eq_true rfl, Nat.le_of_ble_eq_true rfl⟩) ⟨fun a U g mk q => by obtain ⟨q0, q1, qP, qK, qD⟩ := q; exact ⟨q0, q1, qP, va_K.moved (u := U) (U := U.calling g mk a) (Vm.Alike.refl U.vm) qK, qD⟩, fun U hU hW => ⟨rfl, by rw [hU], by rw [hU]; exact hPc, va_K.moved hW.alike hKc, hDc.weaken (fun _ _ _ _ => trivial)⟩⟩ rfl rfl hl.1 rfl (lv_room (Nat.le_of_ble_eq_true rfl)) dX11_proveInstructions_28 ⟨Nat.le_of_ble_eq_true rfl, Nat.le_of_ble_eq_true rfl⟩) hS (fun q _ h => hFc q h) hFc ?_
  clear hS
  intro u t H1 locs ht hvm hw hB hz1 hk1 hS
  obtain ⟨⟩ := u
  obtain ⟨hP1, hK1, hD1⟩ := hB
  rw [ht] at hP1
  have hK1 := va_K.moved hvm.symm hK1
  try dsimp only at hw
  have hPD := va_join (wr := [(qf5_0, .inl (cf5_0, nb, .inl f5_0)), (h0, .inr (11, [.ref qf0, .ref qf1, .int v2, .int v3, .int v4, .ref qf5, .int v6, .int v7, .ref qf8, .ref qf9, .ref qf10, .ref qf11, .ref qf12, .ref qf13, .ref qf14, .ref qf15, .int (if 1500 < u1_0 then 1500 else u1_0), .int v17, .int v18, .int v19, .int v20])), (qf5, .inr (3, [.ref qf5_0, .int v5_1, .int v5_2, .int v5_3, .ref qf5_4, .ref qf5_5, .ref qf5_6, .int v5_7, .int v5_8, .int v5_9, .int v5_10, .ref qf5_11, .int v5_12, .ref qf5_13])), (qf5_13, .inl (cf5_13, 144, .inl f5_13))]) (w1 := [(qf12, .inl (cf12, 1500, .inl g902_0))]) hP hD [0] [1, 2, 3, 4] rfl rfl (by decide) (by decide) hk1 hFc hP1 hD1
  clear hP hD
  obtain ⟨hP, hD⟩ := hPD
  replace hK := (hK.sub (tys' := [(cf5_0, .byte), (cf5_13, .int)]) [1, 2] rfl).app hK1
  clear hPc hDc hKc hFc hP1 hK1 hD1 hz1 hk1 ht hvm
  generalize H1 = H at hP hS ⊢
  replace hP : va_P (dC, dI) vwCl [(qf5_0, .inl (cf5_0, nb, .inl f5_0)), (h0, .inr (11, [.ref qf0, .ref qf1, .int v2, .int v3, .int v4, .ref qf5, .int v6, .int v7, .ref qf8, .ref qf9, .ref qf10, .ref qf11, .ref qf12, .ref qf13, .ref qf14, .ref qf15, .int (if 1500 < u1_0 then 1500 else u1_0), .int v17, .int v18, .int v19, .int v20])), (qf5, .inr (3, [.ref qf5_0, .int v5_1, .int v5_2, .int v5_3, .ref qf5_4, .ref qf5_5, .ref qf5_6, .int v5_7, .int v5_8, .int v5_9, .int v5_10, .ref qf5_11, .int v5_12, .ref qf5_13])), (qf5_13, .inl (cf5_13, 144, .inl f5_13)), (qf12, .inl (cf12, 1500, .inl g902_0))] H := hP
  replace hD : va_D A [(qf5_0, .inl (cf5_0, nb, .inl f5_0)), (h0, .inr (11, [.ref qf0, .ref qf1, .int v2, .int v3, .int v4, .ref qf5, .int v6, .int v7, .ref qf8, .ref qf9, .ref qf10, .ref qf11, .ref qf12, .ref qf13, .ref qf14, .ref qf15, .int (if 1500 < u1_0 then 1500 else u1_0), .int v17, .int v18, .int v19, .int v20])), (qf5, .inr (3, [.ref qf5_0, .int v5_1, .int v5_2, .int v5_3, .ref qf5_4, .ref qf5_5, .ref qf5_6, .int v5_7, .int v5_8, .int v5_9, .int v5_10, .ref qf5_11, .int v5_12, .ref qf5_13])), (qf5_13, .inl (cf5_13, 144, .inl f5_13)), (qf12, .inl (cf12, 1500, .inl g902_0))] := hD
  replace hK : va_K (dC, dI) vwCl [(cf5_0, .byte), (cf5_13, .int), (cf12, .int)] s := hK
  refine lv_iconst (v := 0) hx hb dX11_proveInstructions_31 (by decide) ?_
  refine lv_istore_n (lv' := [(1, .int 0), (0, .ref h0)]) hx hb dX11_proveInstructions_32 rfl hl (by decide) rfl (fun ls hl => ?_)
  replace hl : lv_has ls 3 [(1, .int 0), (0, .ref h0)] := lv_sub hl [0, 1] rfl
  replace hP := hP.sub (ws' := [(h0, .inr (11, [.ref qf0, .ref qf1, .int v2, .int v3, .int v4, .ref qf5, .int v6, .int v7, .ref qf8, .ref qf9, .ref qf10, .ref qf11, .ref qf12, .ref qf13, .ref qf14, .ref qf15, .int (if 1500 < u1_0 then 1500 else u1_0), .int v17, .int v18, .int v19, .int v20])), (qf5, .inr (3, [.ref qf5_0, .int v5_1, .int v5_2, .int v5_3, .ref qf5_4, .ref qf5_5, .ref qf5_6, .int v5_7, .int v5_8, .int v5_9, .int v5_10, .ref qf5_11, .int v5_12, .ref qf5_13])), (qf5_13, .inl (cf5_13, 144, .inl f5_13)), (qf12, .inl (cf12, 1500, .inl g902_0)), (qf5_0, .inl (cf5_0, nb, .inl f5_0))]) [1, 2, 3, 4, 0] rfl
  replace hD := hD.sub (ws' := [(h0, .inr (11, [.ref qf0, .ref qf1, .int v2, .int v3, .int v4, .ref qf5, .int v6, .int v7, .ref qf8, .ref qf9, .ref qf10, .ref qf11, .ref qf12, .ref qf13, .ref qf14, .ref qf15, .int (if 1500 < u1_0 then 1500 else u1_0), .int v17, .int v18, .int v19, .int v20])), (qf5, .inr (3, [.ref qf5_0, .int v5_1, .int v5_2, .int v5_3, .ref qf5_4, .ref qf5_5, .ref qf5_6, .int v5_7, .int v5_8, .int v5_9, .int v5_10, .ref qf5_11, .int v5_12, .ref qf5_13])), (qf5_13, .inl (cf5_13, 144, .inl f5_13)), (qf12, .inl (cf12, 1500, .inl g902_0)), (qf5_0, .inl (cf5_0, nb, .inl f5_0))]) [1, 2, 3, 4, 0] (by decide) rfl
  replace hK := hK.sub (tys' := [(cf5_13, .int), (cf12, .int), (cf5_0, .byte)]) [1, 2, 0] rfl
  obtain ⟨n_33, hn_33⟩ : ∃ z : Nat, z = nf := ⟨_, rfl⟩
  obtain ⟨l1_33, el1_33⟩ : ∃ z : Int32, z = 0 := ⟨_, rfl⟩
  obtain ⟨g12_33, eg12_33⟩ : ∃ z : Nat → Int32, z = g902_0 := ⟨_, rfl⟩
  obtain ⟨x16_33, ex16_33⟩ : ∃ z : Int32, z = (if 1500 < u1_0 then 1500 else u1_0) := ⟨_, rfl⟩
  obtain ⟨x7_33, ex7_33⟩ : ∃ z : Int32, z = v7 := ⟨_, rfl⟩
  replace hsp : lp_v11_proveInstructions_33 nf n_33 v6 v7 v5_1 v5_12 f5_13 f12 nb f5_0 l1_33 g12_33 x16_33 x7_33 = some (r0, o12, w16, w7) := by rw [hn_33, el1_33, eg12_33, ex16_33, ex7_33]; exact hsp
  replace hl : lv_has ls 3 [(1, .int l1_33), (0, .ref h0)] := by rw [el1_33]; exact hl
  replace hP : va_P (dC, dI) vwCl [(h0, .inr (11, [.ref qf0, .ref qf1, .int v2, .int v3, .int v4, .ref qf5, .int v6, .int x7_33, .ref qf8, .ref qf9, .ref qf10, .ref qf11, .ref qf12, .ref qf13, .ref qf14, .ref qf15, .int x16_33, .int v17, .int v18, .int v19, .int v20])), (qf5, .inr (3, [.ref qf5_0, .int v5_1, .int v5_2, .int v5_3, .ref qf5_4, .ref qf5_5, .ref qf5_6, .int v5_7, .int v5_8, .int v5_9, .int v5_10, .ref qf5_11, .int v5_12, .ref qf5_13])), (qf5_13, .inl (cf5_13, 144, .inl f5_13)), (qf12, .inl (cf12, 1500, .inl g12_33)), (qf5_0, .inl (cf5_0, nb, .inl f5_0))] H := by rw [eg12_33, ex16_33, ex7_33]; exact hP
  replace hD : va_D A [(h0, .inr (11, [.ref qf0, .ref qf1, .int v2, .int v3, .int v4, .ref qf5, .int v6, .int x7_33, .ref qf8, .ref qf9, .ref qf10, .ref qf11, .ref qf12, .ref qf13, .ref qf14, .ref qf15, .int x16_33, .int v17, .int v18, .int v19, .int v20])), (qf5, .inr (3, [.ref qf5_0, .int v5_1, .int v5_2, .int v5_3, .ref qf5_4, .ref qf5_5, .ref qf5_6, .int v5_7, .int v5_8, .int v5_9, .int v5_10, .ref qf5_11, .int v5_12, .ref qf5_13])), (qf5_13, .inl (cf5_13, 144, .inl f5_13)), (qf12, .inl (cf12, 1500, .inl g12_33)), (qf5_0, .inl (cf5_0, nb, .inl f5_0))] := by rw [eg12_33, ex16_33, ex7_33]; exact hD
  clear hn_33 el1_33 eg12_33 ex16_33 ex7_33
  try clear hlo
  try clear hH
  revert hsp
  revert hP
  revert hD
  revert hS
  revert hl
  revert x7_33
  revert x16_33
  revert g12_33
  revert l1_33
  revert ls
  revert locs
  revert H
  induction n_33 with
  | zero => intro H locs ls l1_33 g12_33 x16_33 x7_33  hl hS hD hP hsp; unfold lp_v11_proveInstructions_33 at hsp; cases hsp
  | succ n_33 ih_33 =>
    intro H locs ls l1_33 g12_33 x16_33 x7_33  hl hS hD hP hsp
    unfold lp_v11_proveInstructions_33 at hsp
    try dsimp only at hsp
    refine lv_iload_n hx hb dX11_proveInstructions_33 rfl (lv_at hl 0 rfl) ?_
    refine lv_aload_n hx hb dX11_proveInstructions_34 rfl (lv_at hl 1 rfl) ?_
    refine va_get (D := (dC, dI)) (ci := 11) (v := .int x16_33) (C := RX11) (T := TX11) (N := 21) hx hb hts uV_h7_X11 hown hK hP 0 rfl rfl 16 (by decide) (hts (.fieldLink RX11 209 "ClassMill$Verifier" "length" "I") mw_h7_414) (fun _ h9 => h9) rfl dX11_proveInstructions_35 ?_
    refine lv_icmp_ge (tgt := 86) hx hb dX11_proveInstructions_38 (by decide) (fun c_2 => ?_) (fun c_2 => ?_)
    · rw [if_pos c_2] at hsp
      refine lv_iconst (v := 0) hx hb dX11_proveInstructions_86 (by decide) ?_
      have hr0 := Option.some.inj hsp
      clear hsp
      obtain ⟨hq0, hr1⟩ := Prod.mk.inj hr0
      clear hr0
      obtain ⟨hq1, hr2⟩ := Prod.mk.inj hr1
      clear hr1
      obtain ⟨hq2, hr3⟩ := Prod.mk.inj hr2
      clear hr2
      subst hq0
      subst hq1
      subst hq2
      subst hr3
      have hP9 := hP.sub (ws' := [(h0, .inr (11, [.ref qf0, .ref qf1, .int v2, .int v3, .int v4, .ref qf5, .int v6, .int x7_33, .ref qf8, .ref qf9, .ref qf10, .ref qf11, .ref qf12, .ref qf13, .ref qf14, .ref qf15, .int x16_33, .int v17, .int v18, .int v19, .int v20])), (qf5, .inr (3, [.ref qf5_0, .int v5_1, .int v5_2, .int v5_3, .ref qf5_4, .ref qf5_5, .ref qf5_6, .int v5_7, .int v5_8, .int v5_9, .int v5_10, .ref qf5_11, .int v5_12, .ref qf5_13])), (qf5_13, .inl (cf5_13, 144, .inl f5_13)), (qf12, .inl (cf12, 1500, .inl g12_33)), (qf5_0, .inl (cf5_0, nb, .inl f5_0))]) [0, 1, 2, 3, 4] rfl
      have hD9 := hD.sub (ws' := [(h0, .inr (11, [.ref qf0, .ref qf1, .int v2, .int v3, .int v4, .ref qf5, .int v6, .int x7_33, .ref qf8, .ref qf9, .ref qf10, .ref qf11, .ref qf12, .ref qf13, .ref qf14, .ref qf15, .int x16_33, .int v17, .int v18, .int v19, .int v20])), (qf5, .inr (3, [.ref qf5_0, .int v5_1, .int v5_2, .int v5_3, .ref qf5_4, .ref qf5_5, .ref qf5_6, .int v5_7, .int v5_8, .int v5_9, .int v5_10, .ref qf5_11, .int v5_12, .ref qf5_13])), (qf5_13, .inl (cf5_13, 144, .inl f5_13)), (qf12, .inl (cf12, 1500, .inl g12_33)), (qf5_0, .inl (cf5_0, nb, .inl f5_0))]) [0, 1, 2, 3, 4] (by decide) rfl
      have hK9 := hK.sub (tys' := [(cf5_13, .int), (cf12, .int), (cf5_0, .byte)]) [0, 1, 2] rfl
      exact W.iret hx hb hr (fun t ht hW => ⟨⟨(0), (), rfl, rfl, by rw [ht]; exact hP9, va_K.moved hW.alike hK9, hD9⟩, hS.F ht⟩) hS.2.2 dX11_proveInstructions_87
    · rw [if_neg c_2] at hsp
      refine lv_aload_n hx hb dX11_proveInstructions_41 rfl (lv_at hl 1 rfl) ?_
      refine lv_iload_n hx hb dX11_proveInstructions_42 rfl (lv_at hl 0 rfl) ?_
      obtain ⟨u3_0, hu_3, hsp⟩ := ox_bind hsp
      try dsimp only at hsp
      have hPc := hP.sub (ws' := [(h0, .inr (11, [.ref qf0, .ref qf1, .int v2, .int v3, .int v4, .ref qf5, .int v6, .int x7_33, .ref qf8, .ref qf9, .ref qf10, .ref qf11, .ref qf12, .ref qf13, .ref qf14, .ref qf15, .int x16_33, .int v17, .int v18, .int v19, .int v20])), (qf5, .inr (3, [.ref qf5_0, .int v5_1, .int v5_2, .int v5_3, .ref qf5_4, .ref qf5_5, .ref qf5_6, .int v5_7, .int v5_8, .int v5_9, .int v5_10, .ref qf5_11, .int v5_12, .ref qf5_13])), (qf5_13, .inl (cf5_13, 144, .inl f5_13)), (qf5_0, .inl (cf5_0, nb, .inl f5_0))]) [0, 1, 2, 4] rfl
      have hDc := hD.sub (ws' := [(h0, .inr (11, [.ref qf0, .ref qf1, .int v2, .int v3, .int v4, .ref qf5, .int v6, .int x7_33, .ref qf8, .ref qf9, .ref qf10, .ref qf11, .ref qf12, .ref qf13, .ref qf14, .ref qf15, .int x16_33, .int v17, .int v18, .int v19, .int v20])), (qf5, .inr (3, [.ref qf5_0, .int v5_1, .int v5_2, .int v5_3, .ref qf5_4, .ref qf5_5, .ref qf5_6, .int v5_7, .int v5_8, .int v5_9, .int v5_10, .ref qf5_11, .int v5_12, .ref qf5_13])), (qf5_13, .inl (cf5_13, 144, .inl f5_13)), (qf5_0, .inl (cf5_0, nb, .inl f5_0))]) [0, 1, 2, 4] (by decide) rfl
      have hKc := hK.sub (tys' := [(cf5_13, .int), (cf5_0, .byte)]) [0, 2] rfl
      have hFc := va_free (wc := [(h0, .inr (11, [.ref qf0, .ref qf1, .int v2, .int v3, .int v4, .ref qf5, .int v6, .int x7_33, .ref qf8, .ref qf9, .ref qf10, .ref qf11, .ref qf12, .ref qf13, .ref qf14, .ref qf15, .int x16_33, .int v17, .int v18, .int v19, .int v20])), (qf5, .inr (3, [.ref qf5_0, .int v5_1, .int v5_2, .int v5_3, .ref qf5_4, .ref qf5_5, .ref qf5_6, .int v5_7, .int v5_8, .int v5_9, .int v5_10, .ref qf5_11, .int v5_12, .ref qf5_13])), (qf5_13, .inl (cf5_13, 144, .inl f5_13)), (qf5_0, .inl (cf5_0, nb, .inl f5_0))]) hD hS hA [0, 1, 2, 4] rfl
      refine va_calli (va_runV (As := [.int l1_33]) (rest := []) ⟨hx, hb, hml, hown, hts⟩ (t11_codeAt l dC dI H.size h0 l1_33 qf0 qf1 v2 v3 v4 qf5 v6 x7_33 qf8 qf9 qf10 qf11 qf12 qf13 qf14 qf15 x16_33 v17 v18 v19 v20 qf5_0 v5_1 v5_2 v5_3 qf5_4 qf5_5 qf5_6 v5_7 v5_8 v5_9 v5_10 qf5_11 v5_12 qf5_13 cf5_13 f5_13 cf5_0 nb f5_0 nf u3_0 hu_3) (cwV 1 hts gv_h7_99 rfl rfl rfl (by decide +kernel) ⟨Nat.le_of_ble_eq_true rfl, Nat.le_of_ble_eq_true rfl⟩) ⟨fun a U g mk q => by obtain ⟨q0, q1, qP, qK, qD⟩ := q; exact ⟨q0, q1, qP, va_K.moved (u := U) (U := U.calling g mk a) (Vm.Alike.refl U.vm) qK, qD⟩, va_recv hKc hPc (ci := 11) (q0 := 0) rfl rfl, fun U hU hW => ⟨rfl, by rw [hU], by rw [hU]; exact hPc, va_K.moved hW.alike hKc, hDc.weaken (fun _ _ _ _ => trivial)⟩⟩ rfl rfl hl.1 rfl (lv_room (Nat.le_of_ble_eq_true rfl)) dX11_proveInstructions_43 ⟨Nat.le_of_ble_eq_true rfl, Nat.le_of_ble_eq_true rfl⟩) hS (fun q _ h => hFc q h) hFc ?_
      clear hS
      intro r_3 u t H1 locs ht hvm hw hB hz1 hk1 hS
      obtain ⟨⟩ := u
      obtain ⟨hP1, hK1, hD1⟩ := hB
      rw [ht] at hP1
      have hK1 := va_K.moved hvm.symm hK1
      try dsimp only at hw
      have hPD := va_join (wr := [(qf12, .inl (cf12, 1500, .inl g12_33))]) (w1 := [(h0, .inr (11, [.ref qf0, .ref qf1, .int v2, .int v3, .int v4, .ref qf5, .int v6, .int x7_33, .ref qf8, .ref qf9, .ref qf10, .ref qf11, .ref qf12, .ref qf13, .ref qf14, .ref qf15, .int x16_33, .int v17, .int v18, .int v19, .int v20])), (qf5, .inr (3, [.ref qf5_0, .int v5_1, .int v5_2, .int v5_3, .ref qf5_4, .ref qf5_5, .ref qf5_6, .int v5_7, .int v5_8, .int v5_9, .int v5_10, .ref qf5_11, .int v5_12, .ref qf5_13])), (qf5_13, .inl (cf5_13, 144, .inl f5_13)), (qf5_0, .inl (cf5_0, nb, .inl f5_0))]) hP hD [0, 1, 2, 4] [3] rfl rfl (by decide) (by decide) hk1 hFc hP1 hD1
      clear hP hD
      obtain ⟨hP, hD⟩ := hPD
      replace hK := (hK.sub (tys' := [(cf12, .int)]) [1] rfl).app hK1
      clear hPc hDc hKc hFc hP1 hK1 hD1 hz1 hk1 ht hvm
      generalize H1 = H at hP hS ⊢
      replace hP : va_P (dC, dI) vwCl [(qf12, .inl (cf12, 1500, .inl g12_33)), (h0, .inr (11, [.ref qf0, .ref qf1, .int v2, .int v3, .int v4, .ref qf5, .int v6, .int x7_33, .ref qf8, .ref qf9, .ref qf10, .ref qf11, .ref qf12, .ref qf13, .ref qf14, .ref qf15, .int x16_33, .int v17, .int v18, .int v19, .int v20])), (qf5, .inr (3, [.ref qf5_0, .int v5_1, .int v5_2, .int v5_3, .ref qf5_4, .ref qf5_5, .ref qf5_6, .int v5_7, .int v5_8, .int v5_9, .int v5_10, .ref qf5_11, .int v5_12, .ref qf5_13])), (qf5_13, .inl (cf5_13, 144, .inl f5_13)), (qf5_0, .inl (cf5_0, nb, .inl f5_0))] H := hP
      replace hD : va_D A [(qf12, .inl (cf12, 1500, .inl g12_33)), (h0, .inr (11, [.ref qf0, .ref qf1, .int v2, .int v3, .int v4, .ref qf5, .int v6, .int x7_33, .ref qf8, .ref qf9, .ref qf10, .ref qf11, .ref qf12, .ref qf13, .ref qf14, .ref qf15, .int x16_33, .int v17, .int v18, .int v19, .int v20])), (qf5, .inr (3, [.ref qf5_0, .int v5_1, .int v5_2, .int v5_3, .ref qf5_4, .ref qf5_5, .ref qf5_6, .int v5_7, .int v5_8, .int v5_9, .int v5_10, .ref qf5_11, .int v5_12, .ref qf5_13])), (qf5_13, .inl (cf5_13, 144, .inl f5_13)), (qf5_0, .inl (cf5_0, nb, .inl f5_0))] := hD
      replace hK : va_K (dC, dI) vwCl [(cf12, .int), (cf5_13, .int), (cf5_0, .byte)] s := hK
      obtain rfl := hw
      obtain ⟨u4_0, hu_4, hsp⟩ := ox_bind hsp
      try dsimp only at hsp
      have hPc := hP.sub (ws' := []) [] rfl
      have hDc := hD.sub (ws' := []) [] (by decide) rfl
      have hKc := hK.sub (tys' := []) [] rfl
      have hFc := va_free (wc := []) hD hS hA [] rfl
      refine va_calli (va_runS (As := [.int u3_0]) (rest := []) ⟨hx, hb, hml, hown, hts⟩ (t11_widthOf l dC dI H.size u3_0 nf u4_0 hu_4) (va_cwS 1 hts gv_h7_100 rfl rfl rfl (by decide +kernel) ⟨Nat.le_of_ble_eq_true rfl, Nat.le_of_ble_eq_true rfl⟩) ⟨fun a U g mk q => by obtain ⟨q0, q1, qP, qK, qD⟩ := q; exact ⟨q0, q1, qP, va_K.moved (u := U) (U := U.calling g mk a) (Vm.Alike.refl U.vm) qK, qD⟩, fun U hU hW => ⟨rfl, by rw [hU], by rw [hU]; exact hPc, va_K.moved hW.alike hKc, hDc.weaken (fun _ _ _ _ => trivial)⟩⟩ rfl rfl hl.1 rfl (lv_room (Nat.le_of_ble_eq_true rfl)) dX11_proveInstructions_46 ⟨Nat.le_of_ble_eq_true rfl, Nat.le_of_ble_eq_true rfl⟩) hS (fun q _ h => hFc q h) hFc ?_
      clear hS
      intro r_4 u t H1 locs ht hvm hw hB hz1 hk1 hS
      obtain ⟨⟩ := u
      obtain ⟨hP1, hK1, hD1⟩ := hB
      rw [ht] at hP1
      have hK1 := va_K.moved hvm.symm hK1
      try dsimp only at hw
      have hPD := va_join (wr := [(qf12, .inl (cf12, 1500, .inl g12_33)), (h0, .inr (11, [.ref qf0, .ref qf1, .int v2, .int v3, .int v4, .ref qf5, .int v6, .int x7_33, .ref qf8, .ref qf9, .ref qf10, .ref qf11, .ref qf12, .ref qf13, .ref qf14, .ref qf15, .int x16_33, .int v17, .int v18, .int v19, .int v20])), (qf5, .inr (3, [.ref qf5_0, .int v5_1, .int v5_2, .int v5_3, .ref qf5_4, .ref qf5_5, .ref qf5_6, .int v5_7, .int v5_8, .int v5_9, .int v5_10, .ref qf5_11, .int v5_12, .ref qf5_13])), (qf5_13, .inl (cf5_13, 144, .inl f5_13)), (qf5_0, .inl (cf5_0, nb, .inl f5_0))]) (w1 := []) hP hD [] [0, 1, 2, 3, 4] rfl rfl (by decide) (by decide) hk1 hFc hP1 hD1
      clear hP hD
      obtain ⟨hP, hD⟩ := hPD
      replace hK := (hK.sub (tys' := [(cf12, .int), (cf5_13, .int), (cf5_0, .byte)]) [0, 1, 2] rfl).app hK1
      clear hPc hDc hKc hFc hP1 hK1 hD1 hz1 hk1 ht hvm
      generalize H1 = H at hP hS ⊢
      replace hP : va_P (dC, dI) vwCl [(qf12, .inl (cf12, 1500, .inl g12_33)), (h0, .inr (11, [.ref qf0, .ref qf1, .int v2, .int v3, .int v4, .ref qf5, .int v6, .int x7_33, .ref qf8, .ref qf9, .ref qf10, .ref qf11, .ref qf12, .ref qf13, .ref qf14, .ref qf15, .int x16_33, .int v17, .int v18, .int v19, .int v20])), (qf5, .inr (3, [.ref qf5_0, .int v5_1, .int v5_2, .int v5_3, .ref qf5_4, .ref qf5_5, .ref qf5_6, .int v5_7, .int v5_8, .int v5_9, .int v5_10, .ref qf5_11, .int v5_12, .ref qf5_13])), (qf5_13, .inl (cf5_13, 144, .inl f5_13)), (qf5_0, .inl (cf5_0, nb, .inl f5_0))] H := hP
      replace hD : va_D A [(qf12, .inl (cf12, 1500, .inl g12_33)), (h0, .inr (11, [.ref qf0, .ref qf1, .int v2, .int v3, .int v4, .ref qf5, .int v6, .int x7_33, .ref qf8, .ref qf9, .ref qf10, .ref qf11, .ref qf12, .ref qf13, .ref qf14, .ref qf15, .int x16_33, .int v17, .int v18, .int v19, .int v20])), (qf5, .inr (3, [.ref qf5_0, .int v5_1, .int v5_2, .int v5_3, .ref qf5_4, .ref qf5_5, .ref qf5_6, .int v5_7, .int v5_8, .int v5_9, .int v5_10, .ref qf5_11, .int v5_12, .ref qf5_13])), (qf5_13, .inl (cf5_13, 144, .inl f5_13)), (qf5_0, .inl (cf5_0, nb, .inl f5_0))] := hD
      replace hK : va_K (dC, dI) vwCl [(cf12, .int), (cf5_13, .int), (cf5_0, .byte)] s := hK
      obtain rfl := hw
      refine lv_istore_n (lv' := [(2, .int u4_0), (1, .int l1_33), (0, .ref h0)]) hx hb dX11_proveInstructions_49 rfl hl (by decide) rfl (fun ls hl => ?_)
      refine lv_iload_n hx hb dX11_proveInstructions_50 rfl (lv_at hl 0 rfl) ?_
      refine lv_if_eq (tgt := 64) hx hb dX11_proveInstructions_51 (by decide) (fun c_5 => ?_) (fun c_5 => ?_)
      · rw [if_pos c_5] at hsp
        refine lv_aload_n hx hb dX11_proveInstructions_64 rfl (lv_at hl 2 rfl) ?_
        refine lv_bipush (v := 6) hx hb dX11_proveInstructions_65 (by decide) ?_
        refine lv_iload_n hx hb dX11_proveInstructions_67 rfl (lv_at hl 1 rfl) ?_
        obtain ⟨⟨u5_0, u5_1⟩, hu_5, hsp⟩ := ox_bind hsp
        try dsimp only at hsp
        have hPc := hP.sub (ws' := [(h0, .inr (11, [.ref qf0, .ref qf1, .int v2, .int v3, .int v4, .ref qf5, .int v6, .int x7_33, .ref qf8, .ref qf9, .ref qf10, .ref qf11, .ref qf12, .ref qf13, .ref qf14, .ref qf15, .int x16_33, .int v17, .int v18, .int v19, .int v20]))]) [1] rfl
        have hDc := hD.sub (ws' := [(h0, .inr (11, [.ref qf0, .ref qf1, .int v2, .int v3, .int v4, .ref qf5, .int v6, .int x7_33, .ref qf8, .ref qf9, .ref qf10, .ref qf11, .ref qf12, .ref qf13, .ref qf14, .ref qf15, .int x16_33, .int v17, .int v18, .int v19, .int v20]))]) [1] (by decide) rfl
        have hKc := hK.sub (tys' := []) [] rfl
        have hFc := va_free (wc := [(h0, .inr (11, [.ref qf0, .ref qf1, .int v2, .int v3, .int v4, .ref qf5, .int v6, .int x7_33, .ref qf8, .ref qf9, .ref qf10, .ref qf11, .ref qf12, .ref qf13, .ref qf14, .ref qf15, .int x16_33, .int v17, .int v18, .int v19, .int v20]))]) hD hS hA [1] rfl
        refine va_calli (va_runV (As := [.int 6, .int l1_33]) (rest := []) ⟨hx, hb, hml, hown, hts⟩ (t11_at l dC dI H.size h0 6 l1_33 qf0 qf1 v2 v3 v4 qf5 v6 x7_33 qf8 qf9 qf10 qf11 qf12 qf13 qf14 qf15 x16_33 v17 v18 v19 v20 nf u5_0 u5_1 hu_5) (cwV 2 hts gv_h7_101 rfl rfl rfl (by decide +kernel) ⟨Nat.le_of_ble_eq_true rfl, Nat.le_of_ble_eq_true rfl⟩) ⟨fun a U g mk q => by obtain ⟨q0, q1, qP, qK, qD⟩ := q; exact ⟨q0, q1, qP, va_K.moved (u := U) (U := U.calling g mk a) (Vm.Alike.refl U.vm) qK, qD⟩, va_recv hKc hPc (ci := 11) (q0 := 0) rfl rfl, fun U hU hW => ⟨rfl, by rw [hU], by rw [hU]; exact hPc, va_K.moved hW.alike hKc, hDc.weaken (fun _ _ _ _ => trivial)⟩⟩ rfl rfl hl.1 rfl (lv_room (Nat.le_of_ble_eq_true rfl)) dX11_proveInstructions_68 ⟨Nat.le_of_ble_eq_true rfl, Nat.le_of_ble_eq_true rfl⟩) hS (fun q _ h => hFc q h) hFc ?_
        clear hS
        intro r_6 u t H1 locs ht hvm hw hB hz1 hk1 hS
        obtain ⟨⟩ := u
        obtain ⟨hP1, hK1, hD1⟩ := hB
        rw [ht] at hP1
        have hK1 := va_K.moved hvm.symm hK1
        try dsimp only at hw
        have hPD := va_join (wr := [(qf12, .inl (cf12, 1500, .inl g12_33)), (qf5, .inr (3, [.ref qf5_0, .int v5_1, .int v5_2, .int v5_3, .ref qf5_4, .ref qf5_5, .ref qf5_6, .int v5_7, .int v5_8, .int v5_9, .int v5_10, .ref qf5_11, .int v5_12, .ref qf5_13])), (qf5_13, .inl (cf5_13, 144, .inl f5_13)), (qf5_0, .inl (cf5_0, nb, .inl f5_0))]) (w1 := [(h0, .inr (11, [.ref qf0, .ref qf1, .int v2, .int v3, .int v4, .ref qf5, .int v6, .int u5_1, .ref qf8, .ref qf9, .ref qf10, .ref qf11, .ref qf12, .ref qf13, .ref qf14, .ref qf15, .int x16_33, .int v17, .int v18, .int v19, .int v20]))]) hP hD [1] [0, 2, 3, 4] rfl rfl (by decide) (by decide) hk1 hFc hP1 hD1
        clear hP hD
        obtain ⟨hP, hD⟩ := hPD
        replace hK := (hK.sub (tys' := [(cf12, .int), (cf5_13, .int), (cf5_0, .byte)]) [0, 1, 2] rfl).app hK1
        clear hPc hDc hKc hFc hP1 hK1 hD1 hz1 hk1 ht hvm
        generalize H1 = H at hP hS ⊢
        replace hP : va_P (dC, dI) vwCl [(qf12, .inl (cf12, 1500, .inl g12_33)), (qf5, .inr (3, [.ref qf5_0, .int v5_1, .int v5_2, .int v5_3, .ref qf5_4, .ref qf5_5, .ref qf5_6, .int v5_7, .int v5_8, .int v5_9, .int v5_10, .ref qf5_11, .int v5_12, .ref qf5_13])), (qf5_13, .inl (cf5_13, 144, .inl f5_13)), (qf5_0, .inl (cf5_0, nb, .inl f5_0)), (h0, .inr (11, [.ref qf0, .ref qf1, .int v2, .int v3, .int v4, .ref qf5, .int v6, .int u5_1, .ref qf8, .ref qf9, .ref qf10, .ref qf11, .ref qf12, .ref qf13, .ref qf14, .ref qf15, .int x16_33, .int v17, .int v18, .int v19, .int v20]))] H := hP
        replace hD : va_D A [(qf12, .inl (cf12, 1500, .inl g12_33)), (qf5, .inr (3, [.ref qf5_0, .int v5_1, .int v5_2, .int v5_3, .ref qf5_4, .ref qf5_5, .ref qf5_6, .int v5_7, .int v5_8, .int v5_9, .int v5_10, .ref qf5_11, .int v5_12, .ref qf5_13])), (qf5_13, .inl (cf5_13, 144, .inl f5_13)), (qf5_0, .inl (cf5_0, nb, .inl f5_0)), (h0, .inr (11, [.ref qf0, .ref qf1, .int v2, .int v3, .int v4, .ref qf5, .int v6, .int u5_1, .ref qf8, .ref qf9, .ref qf10, .ref qf11, .ref qf12, .ref qf13, .ref qf14, .ref qf15, .int x16_33, .int v17, .int v18, .int v19, .int v20]))] := hD
        replace hK : va_K (dC, dI) vwCl [(cf12, .int), (cf5_13, .int), (cf5_0, .byte)] s := hK
        obtain rfl := hw
        have hr0 := Option.some.inj hsp
        clear hsp
        obtain ⟨hq0, hr1⟩ := Prod.mk.inj hr0
        clear hr0
        obtain ⟨hq1, hr2⟩ := Prod.mk.inj hr1
        clear hr1
        obtain ⟨hq2, hr3⟩ := Prod.mk.inj hr2
        clear hr2
        subst hq0
        subst hq1
        subst hq2
        subst hr3
        have hP9 := hP.sub (ws' := [(h0, .inr (11, [.ref qf0, .ref qf1, .int v2, .int v3, .int v4, .ref qf5, .int v6, .int u5_1, .ref qf8, .ref qf9, .ref qf10, .ref qf11, .ref qf12, .ref qf13, .ref qf14, .ref qf15, .int x16_33, .int v17, .int v18, .int v19, .int v20])), (qf5, .inr (3, [.ref qf5_0, .int v5_1, .int v5_2, .int v5_3, .ref qf5_4, .ref qf5_5, .ref qf5_6, .int v5_7, .int v5_8, .int v5_9, .int v5_10, .ref qf5_11, .int v5_12, .ref qf5_13])), (qf5_13, .inl (cf5_13, 144, .inl f5_13)), (qf12, .inl (cf12, 1500, .inl g12_33)), (qf5_0, .inl (cf5_0, nb, .inl f5_0))]) [4, 1, 2, 0, 3] rfl
        have hD9 := hD.sub (ws' := [(h0, .inr (11, [.ref qf0, .ref qf1, .int v2, .int v3, .int v4, .ref qf5, .int v6, .int u5_1, .ref qf8, .ref qf9, .ref qf10, .ref qf11, .ref qf12, .ref qf13, .ref qf14, .ref qf15, .int x16_33, .int v17, .int v18, .int v19, .int v20])), (qf5, .inr (3, [.ref qf5_0, .int v5_1, .int v5_2, .int v5_3, .ref qf5_4, .ref qf5_5, .ref qf5_6, .int v5_7, .int v5_8, .int v5_9, .int v5_10, .ref qf5_11, .int v5_12, .ref qf5_13])), (qf5_13, .inl (cf5_13, 144, .inl f5_13)), (qf12, .inl (cf12, 1500, .inl g12_33)), (qf5_0, .inl (cf5_0, nb, .inl f5_0))]) [4, 1, 2, 0, 3] (by decide) rfl
        have hK9 := hK.sub (tys' := [(cf5_13, .int), (cf12, .int), (cf5_0, .byte)]) [1, 0, 2] rfl
        exact W.iret hx hb hr (fun t ht hW => ⟨⟨(u5_0), (), rfl, rfl, by rw [ht]; exact hP9, va_K.moved hW.alike hK9, hD9⟩, hS.F ht⟩) hS.2.2 dX11_proveInstructions_71
      · rw [if_neg c_5] at hsp
        refine lv_iload_n hx hb dX11_proveInstructions_54 rfl (lv_at hl 1 rfl) ?_
        refine lv_iload_n hx hb dX11_proveInstructions_55 rfl (lv_at hl 0 rfl) ?_
        refine lv_iadd hx hb dX11_proveInstructions_56 ?_
        refine lv_aload_n hx hb dX11_proveInstructions_57 rfl (lv_at hl 2 rfl) ?_
        refine va_get (D := (dC, dI)) (ci := 11) (v := .int x16_33) (C := RX11) (T := TX11) (N := 21) hx hb hts uV_h7_X11 hown hK hP 1 rfl rfl 16 (by decide) (hts (.fieldLink RX11 209 "ClassMill$Verifier" "length" "I") mw_h7_414) (fun _ h9 => h9) rfl dX11_proveInstructions_58 ?_
        refine lv_icmp_le (tgt := 72) hx hb dX11_proveInstructions_61 (by decide) (fun c_7 => ?_) (fun c_7 => ?_)
        · rw [if_pos c_7] at hsp
          refine lv_aload_n hx hb dX11_proveInstructions_72 rfl (lv_at hl 2 rfl) ?_
          refine va_get (D := (dC, dI)) (ci := 11) (v := .ref qf12) (C := RX11) (T := TX11) (N := 21) hx hb hts uV_h7_X11 hown hK hP 1 rfl rfl 12 (by decide) (hts (.fieldLink RX11 38 "ClassMill$Verifier" "marks" "[I") mw_h7_410) (fun _ h9 => h9) rfl dX11_proveInstructions_73 ?_
          refine lv_iload_n hx hb dX11_proveInstructions_76 rfl (lv_at hl 1 rfl) ?_
          refine lv_iconst (v := (-1)) hx hb dX11_proveInstructions_77 (by decide) ?_
          obtain ⟨hi_8, hsp⟩ := ox_in hsp
          refine va_iast hx hb hK hP hD hS 0 0 rfl rfl (i := l1_33) (x := (-1)) hi_8 dX11_proveInstructions_78 ?_
          clear hP hD hS
          intro H locs hP hD hS
          replace hP : va_P (dC, dI) vwCl [(qf12, .inl (cf12, 1500, .inl (upd g12_33 (l1_33 : Int32).toNatClampNeg (-1)))), (h0, .inr (11, [.ref qf0, .ref qf1, .int v2, .int v3, .int v4, .ref qf5, .int v6, .int x7_33, .ref qf8, .ref qf9, .ref qf10, .ref qf11, .ref qf12, .ref qf13, .ref qf14, .ref qf15, .int x16_33, .int v17, .int v18, .int v19, .int v20])), (qf5, .inr (3, [.ref qf5_0, .int v5_1, .int v5_2, .int v5_3, .ref qf5_4, .ref qf5_5, .ref qf5_6, .int v5_7, .int v5_8, .int v5_9, .int v5_10, .ref qf5_11, .int v5_12, .ref qf5_13])), (qf5_13, .inl (cf5_13, 144, .inl f5_13)), (qf5_0, .inl (cf5_0, nb, .inl f5_0))] H := hP
          replace hD : va_D A [(qf12, .inl (cf12, 1500, .inl (upd g12_33 (l1_33 : Int32).toNatClampNeg (-1)))), (h0, .inr (11, [.ref qf0, .ref qf1, .int v2, .int v3, .int v4, .ref qf5, .int v6, .int x7_33, .ref qf8, .ref qf9, .ref qf10, .ref qf11, .ref qf12, .ref qf13, .ref qf14, .ref qf15, .int x16_33, .int v17, .int v18, .int v19, .int v20])), (qf5, .inr (3, [.ref qf5_0, .int v5_1, .int v5_2, .int v5_3, .ref qf5_4, .ref qf5_5, .ref qf5_6, .int v5_7, .int v5_8, .int v5_9, .int v5_10, .ref qf5_11, .int v5_12, .ref qf5_13])), (qf5_13, .inl (cf5_13, 144, .inl f5_13)), (qf5_0, .inl (cf5_0, nb, .inl f5_0))] := hD
          refine lv_iload_n hx hb dX11_proveInstructions_79 rfl (lv_at hl 1 rfl) ?_
          refine lv_iload_n hx hb dX11_proveInstructions_80 rfl (lv_at hl 0 rfl) ?_
          refine lv_iadd hx hb dX11_proveInstructions_81 ?_
          refine lv_istore_n (lv' := [(1, .int (l1_33 + u4_0)), (2, .int u4_0), (0, .ref h0)]) hx hb dX11_proveInstructions_82 rfl hl (by decide) rfl (fun ls hl => ?_)
          refine lv_goto (tgt := 33) hx hb dX11_proveInstructions_83 (by decide) ?_
          exact ih_33 H locs ls (l1_33 + u4_0) (upd g12_33 (l1_33 : Int32).toNatClampNeg (-1)) x16_33 x7_33 (lv_sub hl [0, 2] rfl) hS (hD.sub (ws' := [(h0, .inr (11, [.ref qf0, .ref qf1, .int v2, .int v3, .int v4, .ref qf5, .int v6, .int x7_33, .ref qf8, .ref qf9, .ref qf10, .ref qf11, .ref qf12, .ref qf13, .ref qf14, .ref qf15, .int x16_33, .int v17, .int v18, .int v19, .int v20])), (qf5, .inr (3, [.ref qf5_0, .int v5_1, .int v5_2, .int v5_3, .ref qf5_4, .ref qf5_5, .ref qf5_6, .int v5_7, .int v5_8, .int v5_9, .int v5_10, .ref qf5_11, .int v5_12, .ref qf5_13])), (qf5_13, .inl (cf5_13, 144, .inl f5_13)), (qf12, .inl (cf12, 1500, .inl (upd g12_33 (l1_33 : Int32).toNatClampNeg (-1)))), (qf5_0, .inl (cf5_0, nb, .inl f5_0))]) [1, 2, 3, 0, 4] (by decide) rfl) (hP.sub (ws' := [(h0, .inr (11, [.ref qf0, .ref qf1, .int v2, .int v3, .int v4, .ref qf5, .int v6, .int x7_33, .ref qf8, .ref qf9, .ref qf10, .ref qf11, .ref qf12, .ref qf13, .ref qf14, .ref qf15, .int x16_33, .int v17, .int v18, .int v19, .int v20])), (qf5, .inr (3, [.ref qf5_0, .int v5_1, .int v5_2, .int v5_3, .ref qf5_4, .ref qf5_5, .ref qf5_6, .int v5_7, .int v5_8, .int v5_9, .int v5_10, .ref qf5_11, .int v5_12, .ref qf5_13])), (qf5_13, .inl (cf5_13, 144, .inl f5_13)), (qf12, .inl (cf12, 1500, .inl (upd g12_33 (l1_33 : Int32).toNatClampNeg (-1)))), (qf5_0, .inl (cf5_0, nb, .inl f5_0))]) [1, 2, 3, 0, 4] rfl) hsp
        · rw [if_neg c_7] at hsp
          refine lv_aload_n hx hb dX11_proveInstructions_64 rfl (lv_at hl 2 rfl) ?_
          refine lv_bipush (v := 6) hx hb dX11_proveInstructions_65 (by decide) ?_
          refine lv_iload_n hx hb dX11_proveInstructions_67 rfl (lv_at hl 1 rfl) ?_
          obtain ⟨⟨u6_0, u6_1⟩, hu_6, hsp⟩ := ox_bind hsp
          try dsimp only at hsp
          have hPc := hP.sub (ws' := [(h0, .inr (11, [.ref qf0, .ref qf1, .int v2, .int v3, .int v4, .ref qf5, .int v6, .int x7_33, .ref qf8, .ref qf9, .ref qf10, .ref qf11, .ref qf12, .ref qf13, .ref qf14, .ref qf15, .int x16_33, .int v17, .int v18, .int v19, .int v20]))]) [1] rfl
          have hDc := hD.sub (ws' := [(h0, .inr (11, [.ref qf0, .ref qf1, .int v2, .int v3, .int v4, .ref qf5, .int v6, .int x7_33, .ref qf8, .ref qf9, .ref qf10, .ref qf11, .ref qf12, .ref qf13, .ref qf14, .ref qf15, .int x16_33, .int v17, .int v18, .int v19, .int v20]))]) [1] (by decide) rfl
          have hKc := hK.sub (tys' := []) [] rfl
          have hFc := va_free (wc := [(h0, .inr (11, [.ref qf0, .ref qf1, .int v2, .int v3, .int v4, .ref qf5, .int v6, .int x7_33, .ref qf8, .ref qf9, .ref qf10, .ref qf11, .ref qf12, .ref qf13, .ref qf14, .ref qf15, .int x16_33, .int v17, .int v18, .int v19, .int v20]))]) hD hS hA [1] rfl
          refine va_calli (va_runV (As := [.int 6, .int l1_33]) (rest := []) ⟨hx, hb, hml, hown, hts⟩ (t11_at l dC dI H.size h0 6 l1_33 qf0 qf1 v2 v3 v4 qf5 v6 x7_33 qf8 qf9 qf10 qf11 qf12 qf13 qf14 qf15 x16_33 v17 v18 v19 v20 nf u6_0 u6_1 hu_6) (cwV 2 hts gv_h7_101 rfl rfl rfl (by decide +kernel) ⟨Nat.le_of_ble_eq_true rfl, Nat.le_of_ble_eq_true rfl⟩) ⟨fun a U g mk q => by obtain ⟨q0, q1, qP, qK, qD⟩ := q; exact ⟨q0, q1, qP, va_K.moved (u := U) (U := U.calling g mk a) (Vm.Alike.refl U.vm) qK, qD⟩, va_recv hKc hPc (ci := 11) (q0 := 0) rfl rfl, fun U hU hW => ⟨rfl, by rw [hU], by rw [hU]; exact hPc, va_K.moved hW.alike hKc, hDc.weaken (fun _ _ _ _ => trivial)⟩⟩ rfl rfl hl.1 rfl (lv_room (Nat.le_of_ble_eq_true rfl)) dX11_proveInstructions_68 ⟨Nat.le_of_ble_eq_true rfl, Nat.le_of_ble_eq_true rfl⟩) hS (fun q _ h => hFc q h) hFc ?_
          clear hS
          intro r_9 u t H1 locs ht hvm hw hB hz1 hk1 hS
          obtain ⟨⟩ := u
          obtain ⟨hP1, hK1, hD1⟩ := hB
          rw [ht] at hP1
          have hK1 := va_K.moved hvm.symm hK1
          try dsimp only at hw
          have hPD := va_join (wr := [(qf12, .inl (cf12, 1500, .inl g12_33)), (qf5, .inr (3, [.ref qf5_0, .int v5_1, .int v5_2, .int v5_3, .ref qf5_4, .ref qf5_5, .ref qf5_6, .int v5_7, .int v5_8, .int v5_9, .int v5_10, .ref qf5_11, .int v5_12, .ref qf5_13])), (qf5_13, .inl (cf5_13, 144, .inl f5_13)), (qf5_0, .inl (cf5_0, nb, .inl f5_0))]) (w1 := [(h0, .inr (11, [.ref qf0, .ref qf1, .int v2, .int v3, .int v4, .ref qf5, .int v6, .int u6_1, .ref qf8, .ref qf9, .ref qf10, .ref qf11, .ref qf12, .ref qf13, .ref qf14, .ref qf15, .int x16_33, .int v17, .int v18, .int v19, .int v20]))]) hP hD [1] [0, 2, 3, 4] rfl rfl (by decide) (by decide) hk1 hFc hP1 hD1
          clear hP hD
          obtain ⟨hP, hD⟩ := hPD
          replace hK := (hK.sub (tys' := [(cf12, .int), (cf5_13, .int), (cf5_0, .byte)]) [0, 1, 2] rfl).app hK1
          clear hPc hDc hKc hFc hP1 hK1 hD1 hz1 hk1 ht hvm
          generalize H1 = H at hP hS ⊢
          replace hP : va_P (dC, dI) vwCl [(qf12, .inl (cf12, 1500, .inl g12_33)), (qf5, .inr (3, [.ref qf5_0, .int v5_1, .int v5_2, .int v5_3, .ref qf5_4, .ref qf5_5, .ref qf5_6, .int v5_7, .int v5_8, .int v5_9, .int v5_10, .ref qf5_11, .int v5_12, .ref qf5_13])), (qf5_13, .inl (cf5_13, 144, .inl f5_13)), (qf5_0, .inl (cf5_0, nb, .inl f5_0)), (h0, .inr (11, [.ref qf0, .ref qf1, .int v2, .int v3, .int v4, .ref qf5, .int v6, .int u6_1, .ref qf8, .ref qf9, .ref qf10, .ref qf11, .ref qf12, .ref qf13, .ref qf14, .ref qf15, .int x16_33, .int v17, .int v18, .int v19, .int v20]))] H := hP
          replace hD : va_D A [(qf12, .inl (cf12, 1500, .inl g12_33)), (qf5, .inr (3, [.ref qf5_0, .int v5_1, .int v5_2, .int v5_3, .ref qf5_4, .ref qf5_5, .ref qf5_6, .int v5_7, .int v5_8, .int v5_9, .int v5_10, .ref qf5_11, .int v5_12, .ref qf5_13])), (qf5_13, .inl (cf5_13, 144, .inl f5_13)), (qf5_0, .inl (cf5_0, nb, .inl f5_0)), (h0, .inr (11, [.ref qf0, .ref qf1, .int v2, .int v3, .int v4, .ref qf5, .int v6, .int u6_1, .ref qf8, .ref qf9, .ref qf10, .ref qf11, .ref qf12, .ref qf13, .ref qf14, .ref qf15, .int x16_33, .int v17, .int v18, .int v19, .int v20]))] := hD
          replace hK : va_K (dC, dI) vwCl [(cf12, .int), (cf5_13, .int), (cf5_0, .byte)] s := hK
          obtain rfl := hw
          have hr0 := Option.some.inj hsp
          clear hsp
          obtain ⟨hq0, hr1⟩ := Prod.mk.inj hr0
          clear hr0
          obtain ⟨hq1, hr2⟩ := Prod.mk.inj hr1
          clear hr1
          obtain ⟨hq2, hr3⟩ := Prod.mk.inj hr2
          clear hr2
          subst hq0
          subst hq1
          subst hq2
          subst hr3
          have hP9 := hP.sub (ws' := [(h0, .inr (11, [.ref qf0, .ref qf1, .int v2, .int v3, .int v4, .ref qf5, .int v6, .int u6_1, .ref qf8, .ref qf9, .ref qf10, .ref qf11, .ref qf12, .ref qf13, .ref qf14, .ref qf15, .int x16_33, .int v17, .int v18, .int v19, .int v20])), (qf5, .inr (3, [.ref qf5_0, .int v5_1, .int v5_2, .int v5_3, .ref qf5_4, .ref qf5_5, .ref qf5_6, .int v5_7, .int v5_8, .int v5_9, .int v5_10, .ref qf5_11, .int v5_12, .ref qf5_13])), (qf5_13, .inl (cf5_13, 144, .inl f5_13)), (qf12, .inl (cf12, 1500, .inl g12_33)), (qf5_0, .inl (cf5_0, nb, .inl f5_0))]) [4, 1, 2, 0, 3] rfl
          have hD9 := hD.sub (ws' := [(h0, .inr (11, [.ref qf0, .ref qf1, .int v2, .int v3, .int v4, .ref qf5, .int v6, .int u6_1, .ref qf8, .ref qf9, .ref qf10, .ref qf11, .ref qf12, .ref qf13, .ref qf14, .ref qf15, .int x16_33, .int v17, .int v18, .int v19, .int v20])), (qf5, .inr (3, [.ref qf5_0, .int v5_1, .int v5_2, .int v5_3, .ref qf5_4, .ref qf5_5, .ref qf5_6, .int v5_7, .int v5_8, .int v5_9, .int v5_10, .ref qf5_11, .int v5_12, .ref qf5_13])), (qf5_13, .inl (cf5_13, 144, .inl f5_13)), (qf12, .inl (cf12, 1500, .inl g12_33)), (qf5_0, .inl (cf5_0, nb, .inl f5_0))]) [4, 1, 2, 0, 3] (by decide) rfl
          have hK9 := hK.sub (tys' := [(cf5_13, .int), (cf12, .int), (cf5_0, .byte)]) [1, 0, 2] rfl
          exact W.iret hx hb hr (fun t ht hW => ⟨⟨(u6_0), (), rfl, rfl, by rw [ht]; exact hP9, va_K.moved hW.alike hK9, hD9⟩, hS.F ht⟩) hS.2.2 dX11_proveInstructions_71
def lp_v11_fitsFrame_37 (nf n : Nat) (a1 : Int32) (v18 : Int32) (f13 : Nat → Int32) (f14 : Nat → Int32) (f1_1 : Nat → Int32) (f15 : Nat → Int32)  (l2_37 : Int32) (l3_37 : Int32) (l4_37 : Int32) : Option (Int32) := match n with
  | 0 => none
  | n + 1 => (if v18 ≤ l4_37 then (if l3_37 = 0 then (some 0) else if l3_37 = 1 then (some 1) else none) else (if l3_37 = 0 then (if l3_37 = 0 then (some 0) else if l3_37 = 1 then (some 1) else none) else (if l4_37 < 0 then none else if 30 ≤ (l4_37 : Int32).toNatClampNeg then none else (if ((l2_37 + 33) + l4_37) < 0 then none else if 6400 ≤ (((l2_37 + 33) + l4_37) : Int32).toNatClampNeg then none else ((sp_t11_fits nf (f15 (l4_37 : Int32).toNatClampNeg) (f13 (((l2_37 + 33) + l4_37) : Int32).toNatClampNeg) f1_1).bind (fun p1 => (if p1 = 0 then (lp_v11_fitsFrame_37 nf n a1 v18 f13 f14 f1_1 f15 l2_37 0 (l4_37 + 1)) else (lp_v11_fitsFrame_37 nf n a1 v18 f13 f14 f1_1 f15 l2_37 1 (l4_37 + 1)))))))))
def jn_v11_fitsFrame_33 (nf : Nat) (a1 : Int32) (v18 : Int32) (f13 : Nat → Int32) (f14 : Nat → Int32) (f1_1 : Nat → Int32) (f15 : Nat → Int32)  (l2_33 : Int32) (s0_33 : Int32) : Option (Int32) := (lp_v11_fitsFrame_37 nf nf a1 v18 f13 f14 f1_1 f15  l2_33 s0_33 0)
def jn_v11_fitsFrame_32 (nf : Nat) (a1 : Int32) (v18 : Int32) (f13 : Nat → Int32) (f14 : Nat → Int32) (f1_1 : Nat → Int32) (f15 : Nat → Int32)  (l2_32 : Int32) : Option (Int32) := (jn_v11_fitsFrame_33 nf a1 v18 f13 f14 f1_1 f15  l2_32 0)
def sp_v11_fitsFrame (nf : Nat) (a1 : Int32) (v18 : Int32) (f13 : Nat → Int32) (f14 : Nat → Int32) (f1_1 : Nat → Int32) (f15 : Nat → Int32) : Option (Int32) := (if ((a1 * 64) + 2) < 0 then none else if 6400 ≤ (((a1 * 64) + 2) : Int32).toNatClampNeg then none else (if (f13 (((a1 * 64) + 2) : Int32).toNatClampNeg) = v18 then ((sp_t11_fitsLocals nf (a1 * 64) f13 f14 f1_1).bind (fun p1 => (if p1 = 0 then (jn_v11_fitsFrame_32 nf a1 v18 f13 f14 f1_1 f15  (a1 * 64)) else (jn_v11_fitsFrame_33 nf a1 v18 f13 f14 f1_1 f15  (a1 * 64) 1)))) else (jn_v11_fitsFrame_32 nf a1 v18 f13 f14 f1_1 f15  (a1 * 64))))
set_option maxHeartbeats 4000000 in
set_option maxRecDepth 100000 in
/-- ClassMill$Verifier.fitsFrame -/
theorem v11_fitsFrame (l : Launch) (dC : Nat → ClassId) (dI : Nat → Nat → Nat) (sz : Nat) (h0 : Nat) (a1 : Int32) (qf0 : Nat) (qf1 : Nat) (v2 : Int32) (v3 : Int32) (v4 : Int32) (qf5 : Nat) (v6 : Int32) (v7 : Int32) (qf8 : Nat) (qf9 : Nat) (qf10 : Nat) (qf11 : Nat) (qf12 : Nat) (qf13 : Nat) (qf14 : Nat) (qf15 : Nat) (v16 : Int32) (v17 : Int32) (v18 : Int32) (v19 : Int32) (v20 : Int32) (cf13 : ClassId) (f13 : (Nat → Int32)) (cf14 : ClassId) (f14 : (Nat → Int32)) (qf1_0 : Nat) (qf1_1 : Nat) (cf1_1 : ClassId) (f1_1 : (Nat → Int32)) (cf15 : ClassId) (f15 : (Nat → Int32)) (nf : Nat) (r0 : Int32) (hsp : sp_v11_fitsFrame nf a1 v18 f13 f14 f1_1 f15 = some r0) : Met l yX11_fitsFrame (.code yX11_fitsFrame cX11_fitsFrame 5 (some .boolean) :: VS_h7) ({ frames := 3, cells := 0, slots := 0, locals := 68 }) (va_Pc [.ref h0, .int a1] (fun U => U.heap.size = sz ∧ va_P (dC, dI) vwCl [(h0, .inr (11, [.ref qf0, .ref qf1, .int v2, .int v3, .int v4, .ref qf5, .int v6, .int v7, .ref qf8, .ref qf9, .ref qf10, .ref qf11, .ref qf12, .ref qf13, .ref qf14, .ref qf15, .int v16, .int v17, .int v18, .int v19, .int v20])), (qf13, .inl (cf13, 6400, .inl f13)), (qf14, .inl (cf14, 30, .inl f14)), (qf1, .inr (4, [.ref qf1_0, .ref qf1_1])), (qf1_1, .inl (cf1_1, 256, .inl f1_1)), (qf15, .inl (cf15, 30, .inl f15))] U.heap ∧ va_K (dC, dI) vwCl [(cf13, .int), (cf14, .int), (cf1_1, .boolean), (cf15, .int)] U ∧ va_D (fun _ => True) [(h0, .inr (11, [.ref qf0, .ref qf1, .int v2, .int v3, .int v4, .ref qf5, .int v6, .int v7, .ref qf8, .ref qf9, .ref qf10, .ref qf11, .ref qf12, .ref qf13, .ref qf14, .ref qf15, .int v16, .int v17, .int v18, .int v19, .int v20])), (qf13, .inl (cf13, 6400, .inl f13)), (qf14, .inl (cf14, 30, .inl f14)), (qf1, .inr (4, [.ref qf1_0, .ref qf1_1])), (qf1_1, .inl (cf1_1, 256, .inl f1_1)), (qf15, .inl (cf15, 30, .inl f15))])) (va_Qi (fun (r : Int32) (u : Unit) => match u with | () => r0 = r ∧ (r0 = 0 ∨ r0 = 1)) (fun (u : Unit) (t : State) => match u with | () => va_P (dC, dI) vwCl [(h0, .inr (11, [.ref qf0, .ref qf1, .int v2, .int v3, .int v4, .ref qf5, .int v6, .int v7, .ref qf8, .ref qf9, .ref qf10, .ref qf11, .ref qf12, .ref qf13, .ref qf14, .ref qf15, .int v16, .int v17, .int v18, .int v19, .int v20])), (qf13, .inl (cf13, 6400, .inl f13)), (qf14, .inl (cf14, 30, .inl f14)), (qf1, .inr (4, [.ref qf1_0, .ref qf1_1])), (qf1_1, .inl (cf1_1, 256, .inl f1_1)), (qf15, .inl (cf15, 30, .inl f15))] t.heap ∧ va_K (dC, dI) vwCl [(cf13, .int), (cf14, .int), (cf1_1, .boolean), (cf15, .int)] t ∧ va_D (va_A [(h0, .inr (11, [.ref qf0, .ref qf1, .int v2, .int v3, .int v4, .ref qf5, .int v6, .int v7, .ref qf8, .ref qf9, .ref qf10, .ref qf11, .ref qf12, .ref qf13, .ref qf14, .ref qf15, .int v16, .int v17, .int v18, .int v19, .int v20])), (qf13, .inl (cf13, 6400, .inl f13)), (qf14, .inl (cf14, 30, .inl f14)), (qf1, .inr (4, [.ref qf1_0, .ref qf1_1])), (qf1_1, .inl (cf1_1, 256, .inl f1_1)), (qf15, .inl (cf15, 30, .inl f15))] sz) [(h0, .inr (11, [.ref qf0, .ref qf1, .int v2, .int v3, .int v4, .ref qf5, .int v6, .int v7, .ref qf8, .ref qf9, .ref qf10, .ref qf11, .ref qf12, .ref qf13, .ref qf14, .ref qf15, .int v16, .int v17, .int v18, .int v19, .int v20])), (qf13, .inl (cf13, 6400, .inl f13)), (qf14, .inl (cf14, 30, .inl f14)), (qf1, .inr (4, [.ref qf1_0, .ref qf1_1])), (qf1_1, .inl (cf1_1, 256, .inl f1_1)), (qf15, .inl (cf15, 30, .inl f15))]) (va_A [(h0, .inr (11, [.ref qf0, .ref qf1, .int v2, .int v3, .int v4, .ref qf5, .int v6, .int v7, .ref qf8, .ref qf9, .ref qf10, .ref qf11, .ref qf12, .ref qf13, .ref qf14, .ref qf15, .int v16, .int v17, .int v18, .int v19, .int v20])), (qf13, .inl (cf13, 6400, .inl f13)), (qf14, .inl (cf14, 30, .inl f14)), (qf1, .inr (4, [.ref qf1_0, .ref qf1_1])), (qf1_1, .inl (cf1_1, 256, .inl f1_1)), (qf15, .inl (cf15, 30, .inl f15))] sz)) 0 0 (va_A [(h0, .inr (11, [.ref qf0, .ref qf1, .int v2, .int v3, .int v4, .ref qf5, .int v6, .int v7, .ref qf8, .ref qf9, .ref qf10, .ref qf11, .ref qf12, .ref qf13, .ref qf14, .ref qf15, .int v16, .int v17, .int v18, .int v19, .int v20])), (qf13, .inl (cf13, 6400, .inl f13)), (qf14, .inl (cf14, 30, .inl f14)), (qf1, .inr (4, [.ref qf1_0, .ref qf1_1])), (qf1_1, .inl (cf1_1, 256, .inl f1_1)), (qf15, .inl (cf15, 30, .inl f15))] sz) := by
  refine Met.ofW (cc := cX11_fitsFrame) (maxL := 5) (ret := (some .boolean)) (by decide) rfl ?_
  intro p e s m args below meth c s₁ B hml hv
  obtain ⟨rfl, hsz, hP, hK, hD0⟩ := hv
  have hx := B.exec
  have hb := B.bytes
  have hr := B.returns
  have hts := atoms_spec (ws := (.code yX11_fitsFrame cX11_fitsFrame 5 (some .boolean) :: VS_h7)) B.pre
  replace hts := fun w (h : w ∈ VS_h7) => hts w (List.mem_cons_of_mem _ h)
  have hown : s.vm.findClass RX11 = some m.cls := findClass_of_methodNamed B.named
  have hlocks := B.notSynchronized
  subst hsz
  have hD := hD0.self (sz := s.heap.size)
  generalize hAe : va_A [(h0, .inr (11, [.ref qf0, .ref qf1, .int v2, .int v3, .int v4, .ref qf5, .int v6, .int v7, .ref qf8, .ref qf9, .ref qf10, .ref qf11, .ref qf12, .ref qf13, .ref qf14, .ref qf15, .int v16, .int v17, .int v18, .int v19, .int v20])), (qf13, .inl (cf13, 6400, .inl f13)), (qf14, .inl (cf14, 30, .inl f14)), (qf1, .inr (4, [.ref qf1_0, .ref qf1_1])), (qf1_1, .inl (cf1_1, 256, .inl f1_1)), (qf15, .inl (cf15, 30, .inl f15))] s.heap.size = A at hD  ⊢
  have hA : ∀ q : Nat, s.heap.size ≤ q → A q := fun q h => by rw [← hAe]; exact Or.inr h
  have hP : va_P (dC, dI) vwCl [(h0, .inr (11, [.ref qf0, .ref qf1, .int v2, .int v3, .int v4, .ref qf5, .int v6, .int v7, .ref qf8, .ref qf9, .ref qf10, .ref qf11, .ref qf12, .ref qf13, .ref qf14, .ref qf15, .int v16, .int v17, .int v18, .int v19, .int v20])), (qf13, .inl (cf13, 6400, .inl f13)), (qf14, .inl (cf14, 30, .inl f14)), (qf1, .inr (4, [.ref qf1_0, .ref qf1_1])), (qf1_1, .inl (cf1_1, 256, .inl f1_1)), (qf15, .inl (cf15, 30, .inl f15))] s.heap := hP
  have hl := lv_entry ([.ref h0, .int a1]) (n := 5) (Nat.le_of_ble_eq_true rfl)
  rw [lg_entry_eq]
  generalize (lg_sl ([.ref h0, .int a1]) ++ List.replicate (5 - (lg_sl ([.ref h0, .int a1])).length) Slot.unset).toArray = ls at hl ⊢
  have hl : lv_has ls 5 [(0, .ref h0), (1, .int a1)] := hl
  obtain ⟨H, hH⟩ : ∃ H : Heap, s.heap = H := ⟨_, rfl⟩
  rw [hH] at hP ⊢
  have hS : va_S A s.heap H [] := by rw [← hH]; exact va_S.rf
  obtain ⟨locs, hlo⟩ : ∃ locs : List Loc, locs = [] := ⟨_, rfl⟩
  rw [← hlo] at hS ⊢
  unfold sp_v11_fitsFrame at hsp
  refine jn_use (α := Heap × List Loc × Array Slot × Int32 × Int32) (fun x9 => x9.1) (fun x9 => x9.2.1) (fun x9 => F0 m 33 x9.2.2.1 [.int (x9.2.2.2.2)]) (fun x9 => match x9 with | (H, locs, ls, l2_33, s0_33) => lv_has ls 5 [(0, .ref h0), (2, .int l2_33)] ∧ va_S A s.heap H locs ∧ va_D A [(h0, .inr (11, [.ref qf0, .ref qf1, .int v2, .int v3, .int v4, .ref qf5, .int v6, .int v7, .ref qf8, .ref qf9, .ref qf10, .ref qf11, .ref qf12, .ref qf13, .ref qf14, .ref qf15, .int v16, .int v17, .int v18, .int v19, .int v20])), (qf13, .inl (cf13, 6400, .inl f13)), (qf14, .inl (cf14, 30, .inl f14)), (qf1, .inr (4, [.ref qf1_0, .ref qf1_1])), (qf1_1, .inl (cf1_1, 256, .inl f1_1)), (qf15, .inl (cf15, 30, .inl f15))] ∧ va_P (dC, dI) vwCl [(h0, .inr (11, [.ref qf0, .ref qf1, .int v2, .int v3, .int v4, .ref qf5, .int v6, .int v7, .ref qf8, .ref qf9, .ref qf10, .ref qf11, .ref qf12, .ref qf13, .ref qf14, .ref qf15, .int v16, .int v17, .int v18, .int v19, .int v20])), (qf13, .inl (cf13, 6400, .inl f13)), (qf14, .inl (cf14, 30, .inl f14)), (qf1, .inr (4, [.ref qf1_0, .ref qf1_1])), (qf1_1, .inl (cf1_1, 256, .inl f1_1)), (qf15, .inl (cf15, 30, .inl f15))] H ∧ jn_v11_fitsFrame_33 nf a1 v18 f13 f14 f1_1 f15 l2_33 s0_33 = some r0) ?_ ?_
  · intro x9 hJ9
    obtain ⟨H, locs, ls, l2_33, s0_33⟩ := x9
    obtain ⟨hl, hS, hD, hP, hsp⟩ := hJ9
    replace hl : lv_has ls 5 [(0, .ref h0), (2, .int l2_33)] := hl
    replace hS : va_S A s.heap H locs := hS
    replace hD : va_D A [(h0, .inr (11, [.ref qf0, .ref qf1, .int v2, .int v3, .int v4, .ref qf5, .int v6, .int v7, .ref qf8, .ref qf9, .ref qf10, .ref qf11, .ref qf12, .ref qf13, .ref qf14, .ref qf15, .int v16, .int v17, .int v18, .int v19, .int v20])), (qf13, .inl (cf13, 6400, .inl f13)), (qf14, .inl (cf14, 30, .inl f14)), (qf1, .inr (4, [.ref qf1_0, .ref qf1_1])), (qf1_1, .inl (cf1_1, 256, .inl f1_1)), (qf15, .inl (cf15, 30, .inl f15))] := hD
    replace hP : va_P (dC, dI) vwCl [(h0, .inr (11, [.ref qf0, .ref qf1, .int v2, .int v3, .int v4, .ref qf5, .int v6, .int v7, .ref qf8, .ref qf9, .ref qf10, .ref qf11, .ref qf12, .ref qf13, .ref qf14, .ref qf15, .int v16, .int v17, .int v18, .int v19, .int v20])), (qf13, .inl (cf13, 6400, .inl f13)), (qf14, .inl (cf14, 30, .inl f14)), (qf1, .inr (4, [.ref qf1_0, .ref qf1_1])), (qf1_1, .inl (cf1_1, 256, .inl f1_1)), (qf15, .inl (cf15, 30, .inl f15))] H := hP
    replace hsp : jn_v11_fitsFrame_33 nf a1 v18 f13 f14 f1_1 f15 l2_33 s0_33 = some r0 := hsp
    show W _ _ _ _ _ _ _ _ _ _ H locs _ _ _ (F0 m 33 ls [.int s0_33])
    unfold jn_v11_fitsFrame_33 at hsp
    try dsimp only at hsp
    refine lv_istore_n (lv' := [(3, .int s0_33), (0, .ref h0), (2, .int l2_33)]) hx hb dX11_fitsFrame_33 rfl hl (by decide) rfl (fun ls hl => ?_)
    refine lv_iconst (v := 0) hx hb dX11_fitsFrame_34 (by decide) ?_
    refine lv_istore (lv' := [(4, .int 0), (3, .int s0_33), (0, .ref h0), (2, .int l2_33)]) hx hb dX11_fitsFrame_35 hl (by decide) rfl (fun ls hl => ?_)
    replace hl : lv_has ls 5 [(4, .int 0), (3, .int s0_33), (0, .ref h0), (2, .int l2_33)] := lv_sub hl [0, 1, 2, 3] rfl
    replace hP := hP.sub (ws' := [(h0, .inr (11, [.ref qf0, .ref qf1, .int v2, .int v3, .int v4, .ref qf5, .int v6, .int v7, .ref qf8, .ref qf9, .ref qf10, .ref qf11, .ref qf12, .ref qf13, .ref qf14, .ref qf15, .int v16, .int v17, .int v18, .int v19, .int v20])), (qf13, .inl (cf13, 6400, .inl f13)), (qf14, .inl (cf14, 30, .inl f14)), (qf1, .inr (4, [.ref qf1_0, .ref qf1_1])), (qf1_1, .inl (cf1_1, 256, .inl f1_1)), (qf15, .inl (cf15, 30, .inl f15))]) [0, 1, 2, 3, 4, 5] rfl
    replace hD := hD.sub (ws' := [(h0, .inr (11, [.ref qf0, .ref qf1, .int v2, .int v3, .int v4, .ref qf5, .int v6, .int v7, .ref qf8, .ref qf9, .ref qf10, .ref qf11, .ref qf12, .ref qf13, .ref qf14, .ref qf15, .int v16, .int v17, .int v18, .int v19, .int v20])), (qf13, .inl (cf13, 6400, .inl f13)), (qf14, .inl (cf14, 30, .inl f14)), (qf1, .inr (4, [.ref qf1_0, .ref qf1_1])), (qf1_1, .inl (cf1_1, 256, .inl f1_1)), (qf15, .inl (cf15, 30, .inl f15))]) [0, 1, 2, 3, 4, 5] (by decide) rfl
    replace hK := hK.sub (tys' := [(cf13, .int), (cf14, .int), (cf1_1, .boolean), (cf15, .int)]) [0, 1, 2, 3] rfl
    obtain ⟨n_37, hn_37⟩ : ∃ z : Nat, z = nf := ⟨_, rfl⟩
    obtain ⟨l2_37, el2_37⟩ : ∃ z : Int32, z = l2_33 := ⟨_, rfl⟩
    obtain ⟨l3_37, el3_37⟩ : ∃ z : Int32, z = s0_33 := ⟨_, rfl⟩
    obtain ⟨l4_37, el4_37⟩ : ∃ z : Int32, z = 0 := ⟨_, rfl⟩
    replace hsp : lp_v11_fitsFrame_37 nf n_37 a1 v18 f13 f14 f1_1 f15 l2_37 l3_37 l4_37 = some r0 := by rw [hn_37, el2_37, el3_37, el4_37]; exact hsp
    replace hl : lv_has ls 5 [(4, .int l4_37), (3, .int l3_37), (0, .ref h0), (2, .int l2_37)] := by rw [el2_37, el3_37, el4_37]; exact hl
    clear hn_37 el2_37 el3_37 el4_37
    try clear hlo
    try clear hH
    revert hsp
    revert hP
    revert hD
    revert hS
    revert hl
    revert l4_37
    revert l3_37
    revert l2_37
    revert ls
    revert locs
    revert H
    induction n_37 with
    | zero => intro H locs ls l2_37 l3_37 l4_37  hl hS hD hP hsp; unfold lp_v11_fitsFrame_37 at hsp; cases hsp
    | succ n_37 ih_37 =>
      intro H locs ls l2_37 l3_37 l4_37  hl hS hD hP hsp
      unfold lp_v11_fitsFrame_37 at hsp
      try dsimp only at hsp
      refine lv_iload hx hb dX11_fitsFrame_37 (lv_at hl 0 rfl) ?_
      refine lv_aload_n hx hb dX11_fitsFrame_39 rfl (lv_at hl 2 rfl) ?_
      refine va_get (D := (dC, dI)) (ci := 11) (v := .int v18) (C := RX11) (T := TX11) (N := 21) hx hb hts uV_h7_X11 hown hK hP 0 rfl rfl 18 (by decide) (hts (.fieldLink RX11 255 "ClassMill$Verifier" "height" "I") mw_h7_428) (fun _ h9 => h9) rfl dX11_fitsFrame_40 ?_
      refine lv_icmp_ge (tgt := 80) hx hb dX11_fitsFrame_43 (by decide) (fun c_6 => ?_) (fun c_6 => ?_)
      · rw [if_pos c_6] at hsp
        refine lv_iload_n hx hb dX11_fitsFrame_80 rfl (lv_at hl 1 rfl) ?_
        rcases ox_01 hsp with ⟨rfl, hsp⟩ | ⟨rfl, hsp⟩
        · skip
          have hr0 := Option.some.inj hsp
          clear hsp
          subst hr0
          have hP9 := hP.sub (ws' := [(h0, .inr (11, [.ref qf0, .ref qf1, .int v2, .int v3, .int v4, .ref qf5, .int v6, .int v7, .ref qf8, .ref qf9, .ref qf10, .ref qf11, .ref qf12, .ref qf13, .ref qf14, .ref qf15, .int v16, .int v17, .int v18, .int v19, .int v20])), (qf13, .inl (cf13, 6400, .inl f13)), (qf14, .inl (cf14, 30, .inl f14)), (qf1, .inr (4, [.ref qf1_0, .ref qf1_1])), (qf1_1, .inl (cf1_1, 256, .inl f1_1)), (qf15, .inl (cf15, 30, .inl f15))]) [0, 1, 2, 3, 4, 5] rfl
          have hD9 := hD.sub (ws' := [(h0, .inr (11, [.ref qf0, .ref qf1, .int v2, .int v3, .int v4, .ref qf5, .int v6, .int v7, .ref qf8, .ref qf9, .ref qf10, .ref qf11, .ref qf12, .ref qf13, .ref qf14, .ref qf15, .int v16, .int v17, .int v18, .int v19, .int v20])), (qf13, .inl (cf13, 6400, .inl f13)), (qf14, .inl (cf14, 30, .inl f14)), (qf1, .inr (4, [.ref qf1_0, .ref qf1_1])), (qf1_1, .inl (cf1_1, 256, .inl f1_1)), (qf15, .inl (cf15, 30, .inl f15))]) [0, 1, 2, 3, 4, 5] (by decide) rfl
          have hK9 := hK.sub (tys' := [(cf13, .int), (cf14, .int), (cf1_1, .boolean), (cf15, .int)]) [0, 1, 2, 3] rfl
          exact W.zret hx hb hr (by decide) (fun t ht hW => ⟨⟨(0), (), rfl, ⟨rfl, Or.inl rfl⟩, by rw [ht]; exact hP9, va_K.moved hW.alike hK9, hD9⟩, hS.F ht⟩) hS.2.2 dX11_fitsFrame_81
        · skip
          have hr0 := Option.some.inj hsp
          clear hsp
          subst hr0
          have hP9 := hP.sub (ws' := [(h0, .inr (11, [.ref qf0, .ref qf1, .int v2, .int v3, .int v4, .ref qf5, .int v6, .int v7, .ref qf8, .ref qf9, .ref qf10, .ref qf11, .ref qf12, .ref qf13, .ref qf14, .ref qf15, .int v16, .int v17, .int v18, .int v19, .int v20])), (qf13, .inl (cf13, 6400, .inl f13)), (qf14, .inl (cf14, 30, .inl f14)), (qf1, .inr (4, [.ref qf1_0, .ref qf1_1])), (qf1_1, .inl (cf1_1, 256, .inl f1_1)), (qf15, .inl (cf15, 30, .inl f15))]) [0, 1, 2, 3, 4, 5] rfl
          have hD9 := hD.sub (ws' := [(h0, .inr (11, [.ref qf0, .ref qf1, .int v2, .int v3, .int v4, .ref qf5, .int v6, .int v7, .ref qf8, .ref qf9, .ref qf10, .ref qf11, .ref qf12, .ref qf13, .ref qf14, .ref qf15, .int v16, .int v17, .int v18, .int v19, .int v20])), (qf13, .inl (cf13, 6400, .inl f13)), (qf14, .inl (cf14, 30, .inl f14)), (qf1, .inr (4, [.ref qf1_0, .ref qf1_1])), (qf1_1, .inl (cf1_1, 256, .inl f1_1)), (qf15, .inl (cf15, 30, .inl f15))]) [0, 1, 2, 3, 4, 5] (by decide) rfl
          have hK9 := hK.sub (tys' := [(cf13, .int), (cf14, .int), (cf1_1, .boolean), (cf15, .int)]) [0, 1, 2, 3] rfl
          exact W.zret hx hb hr (by decide) (fun t ht hW => ⟨⟨(1), (), rfl, ⟨rfl, Or.inr rfl⟩, by rw [ht]; exact hP9, va_K.moved hW.alike hK9, hD9⟩, hS.F ht⟩) hS.2.2 dX11_fitsFrame_81
      · rw [if_neg c_6] at hsp
        refine lv_iload_n hx hb dX11_fitsFrame_46 rfl (lv_at hl 1 rfl) ?_
        refine lv_if_eq (tgt := 80) hx hb dX11_fitsFrame_47 (by decide) (fun c_7 => ?_) (fun c_7 => ?_)
        · rw [if_pos c_7] at hsp
          refine lv_iload_n hx hb dX11_fitsFrame_80 rfl (lv_at hl 1 rfl) ?_
          rcases ox_01 hsp with ⟨rfl, hsp⟩ | ⟨rfl, hsp⟩
          · skip
            have hr0 := Option.some.inj hsp
            clear hsp
            subst hr0
            have hP9 := hP.sub (ws' := [(h0, .inr (11, [.ref qf0, .ref qf1, .int v2, .int v3, .int v4, .ref qf5, .int v6, .int v7, .ref qf8, .ref qf9, .ref qf10, .ref qf11, .ref qf12, .ref qf13, .ref qf14, .ref qf15, .int v16, .int v17, .int v18, .int v19, .int v20])), (qf13, .inl (cf13, 6400, .inl f13)), (qf14, .inl (cf14, 30, .inl f14)), (qf1, .inr (4, [.ref qf1_0, .ref qf1_1])), (qf1_1, .inl (cf1_1, 256, .inl f1_1)), (qf15, .inl (cf15, 30, .inl f15))]) [0, 1, 2, 3, 4, 5] rfl
            have hD9 := hD.sub (ws' := [(h0, .inr (11, [.ref qf0, .ref qf1, .int v2, .int v3, .int v4, .ref qf5, .int v6, .int v7, .ref qf8, .ref qf9, .ref qf10, .ref qf11, .ref qf12, .ref qf13, .ref qf14, .ref qf15, .int v16, .int v17, .int v18, .int v19, .int v20])), (qf13, .inl (cf13, 6400, .inl f13)), (qf14, .inl (cf14, 30, .inl f14)), (qf1, .inr (4, [.ref qf1_0, .ref qf1_1])), (qf1_1, .inl (cf1_1, 256, .inl f1_1)), (qf15, .inl (cf15, 30, .inl f15))]) [0, 1, 2, 3, 4, 5] (by decide) rfl
            have hK9 := hK.sub (tys' := [(cf13, .int), (cf14, .int), (cf1_1, .boolean), (cf15, .int)]) [0, 1, 2, 3] rfl
            exact W.zret hx hb hr (by decide) (fun t ht hW => ⟨⟨(0), (), rfl, ⟨rfl, Or.inl rfl⟩, by rw [ht]; exact hP9, va_K.moved hW.alike hK9, hD9⟩, hS.F ht⟩) hS.2.2 dX11_fitsFrame_81
          · skip
            have hr0 := Option.some.inj hsp
            clear hsp
            subst hr0
            have hP9 := hP.sub (ws' := [(h0, .inr (11, [.ref qf0, .ref qf1, .int v2, .int v3, .int v4, .ref qf5, .int v6, .int v7, .ref qf8, .ref qf9, .ref qf10, .ref qf11, .ref qf12, .ref qf13, .ref qf14, .ref qf15, .int v16, .int v17, .int v18, .int v19, .int v20])), (qf13, .inl (cf13, 6400, .inl f13)), (qf14, .inl (cf14, 30, .inl f14)), (qf1, .inr (4, [.ref qf1_0, .ref qf1_1])), (qf1_1, .inl (cf1_1, 256, .inl f1_1)), (qf15, .inl (cf15, 30, .inl f15))]) [0, 1, 2, 3, 4, 5] rfl
            have hD9 := hD.sub (ws' := [(h0, .inr (11, [.ref qf0, .ref qf1, .int v2, .int v3, .int v4, .ref qf5, .int v6, .int v7, .ref qf8, .ref qf9, .ref qf10, .ref qf11, .ref qf12, .ref qf13, .ref qf14, .ref qf15, .int v16, .int v17, .int v18, .int v19, .int v20])), (qf13, .inl (cf13, 6400, .inl f13)), (qf14, .inl (cf14, 30, .inl f14)), (qf1, .inr (4, [.ref qf1_0, .ref qf1_1])), (qf1_1, .inl (cf1_1, 256, .inl f1_1)), (qf15, .inl (cf15, 30, .inl f15))]) [0, 1, 2, 3, 4, 5] (by decide) rfl
            have hK9 := hK.sub (tys' := [(cf13, .int), (cf14, .int), (cf1_1, .boolean), (cf15, .int)]) [0, 1, 2, 3] rfl
            exact W.zret hx hb hr (by decide) (fun t ht hW => ⟨⟨(1), (), rfl, ⟨rfl, Or.inr rfl⟩, by rw [ht]; exact hP9, va_K.moved hW.alike hK9, hD9⟩, hS.F ht⟩) hS.2.2 dX11_fitsFrame_81
        · rw [if_neg c_7] at hsp
          refine lv_aload_n hx hb dX11_fitsFrame_50 rfl (lv_at hl 2 rfl) ?_
          refine lv_aload_n hx hb dX11_fitsFrame_51 rfl (lv_at hl 2 rfl) ?_
          refine va_get (D := (dC, dI)) (ci := 11) (v := .ref qf15) (C := RX11) (T := TX11) (N := 21) hx hb hts uV_h7_X11 hown hK hP 0 rfl rfl 15 (by decide) (hts (.fieldLink RX11 47 "ClassMill$Verifier" "stack" "[I") mw_h7_429) (fun _ h9 => h9) rfl dX11_fitsFrame_52 ?_
          refine lv_iload hx hb dX11_fitsFrame_55 (lv_at hl 0 rfl) ?_
          obtain ⟨hi_8, hsp⟩ := ox_in hsp
          refine va_iald hx hb hK hP 5 3 rfl rfl (i := l4_37) hi_8 dX11_fitsFrame_57 ?_
          refine lv_aload_n hx hb dX11_fitsFrame_58 rfl (lv_at hl 2 rfl) ?_
          refine va_get (D := (dC, dI)) (ci := 11) (v := .ref qf13) (C := RX11) (T := TX11) (N := 21) hx hb hts uV_h7_X11 hown hK hP 0 rfl rfl 13 (by decide) (hts (.fieldLink RX11 41 "ClassMill$Verifier" "frames" "[I") mw_h7_430) (fun _ h9 => h9) rfl dX11_fitsFrame_59 ?_
          refine lv_iload_n hx hb dX11_fitsFrame_62 rfl (lv_at hl 3 rfl) ?_
          refine lv_bipush (v := 33) hx hb dX11_fitsFrame_63 (by decide) ?_
          refine lv_iadd hx hb dX11_fitsFrame_65 ?_
          refine lv_iload hx hb dX11_fitsFrame_66 (lv_at hl 0 rfl) ?_
          refine lv_iadd hx hb dX11_fitsFrame_68 ?_
          obtain ⟨hi_9, hsp⟩ := ox_in hsp
          refine va_iald hx hb hK hP 1 0 rfl rfl (i := ((l2_37 + 33) + l4_37)) hi_9 dX11_fitsFrame_69 ?_
          obtain ⟨u2_0, hu_2, hsp⟩ := ox_bind hsp
          try dsimp only at hsp
          have hPc := hP.sub (ws' := [(h0, .inr (11, [.ref qf0, .ref qf1, .int v2, .int v3, .int v4, .ref qf5, .int v6, .int v7, .ref qf8, .ref qf9, .ref qf10, .ref qf11, .ref qf12, .ref qf13, .ref qf14, .ref qf15, .int v16, .int v17, .int v18, .int v19, .int v20])), (qf1, .inr (4, [.ref qf1_0, .ref qf1_1])), (qf1_1, .inl (cf1_1, 256, .inl f1_1))]) [0, 3, 4] rfl
          have hDc := hD.sub (ws' := [(h0, .inr (11, [.ref qf0, .ref qf1, .int v2, .int v3, .int v4, .ref qf5, .int v6, .int v7, .ref qf8, .ref qf9, .ref qf10, .ref qf11, .ref qf12, .ref qf13, .ref qf14, .ref qf15, .int v16, .int v17, .int v18, .int v19, .int v20])), (qf1, .inr (4, [.ref qf1_0, .ref qf1_1])), (qf1_1, .inl (cf1_1, 256, .inl f1_1))]) [0, 3, 4] (by decide) rfl
          have hKc := hK.sub (tys' := [(cf1_1, .boolean)]) [2] rfl
          have hFc := va_free (wc := [(h0, .inr (11, [.ref qf0, .ref qf1, .int v2, .int v3, .int v4, .ref qf5, .int v6, .int v7, .ref qf8, .ref qf9, .ref qf10, .ref qf11, .ref qf12, .ref qf13, .ref qf14, .ref qf15, .int v16, .int v17, .int v18, .int v19, .int v20])), (qf1, .inr (4, [.ref qf1_0, .ref qf1_1])), (qf1_1, .inl (cf1_1, 256, .inl f1_1))]) hD hS hA [0, 3, 4] rfl
          refine va_calli (va_runV (As := [.int (f15 (l4_37 : Int32).toNatClampNeg), .int (f13 (((l2_37 + 33) + l4_37) : Int32).toNatClampNeg)]) (rest := []) ⟨hx, hb, hml, hown, hts⟩ (t11_fits l dC dI H.size h0 ((f15 (l4_37 : Int32).toNatClampNeg)) ((f13 (((l2_37 + 33) + l4_37) : Int32).toNatClampNeg)) qf0 qf1 v2 v3 v4 qf5 v6 v7 qf8 qf9 qf10 qf11 qf12 qf13 qf14 qf15 v16 v17 v18 v19 v20 qf1_0 qf1_1 cf1_1 f1_1 nf u2_0 hu_2) (cwV 2 hts gv_h7_105 rfl rfl rfl (by decide +kernel) ⟨Nat.le_of_ble_eq_true rfl, Nat.le_of_ble_eq_true rfl⟩) ⟨fun a U g mk q => by obtain ⟨q0, q1, qP, qK, qD⟩ := q; exact ⟨q0, q1, qP, va_K.moved (u := U) (U := U.calling g mk a) (Vm.Alike.refl U.vm) qK, qD⟩, va_recv hKc hPc (ci := 11) (q0 := 0) rfl rfl, fun U hU hW => ⟨rfl, by rw [hU], by rw [hU]; exact hPc, va_K.moved hW.alike hKc, hDc.weaken (fun _ _ _ _ => trivial)⟩⟩ rfl rfl hl.1 rfl (lv_room (Nat.le_of_ble_eq_true rfl)) dX11_fitsFrame_70 ⟨Nat.le_of_ble_eq_true rfl, Nat.le_of_ble_eq_true rfl⟩) hS (fun q _ h => hFc q h) hFc ?_
          clear hS
          intro r_10 u t H1 locs ht hvm hw hB hz1 hk1 hS
          obtain ⟨⟩ := u
          obtain ⟨hP1, hK1, hD1⟩ := hB
          rw [ht] at hP1
          have hK1 := va_K.moved hvm.symm hK1
          try dsimp only at hw
          have hPD := va_join (wr := [(qf13, .inl (cf13, 6400, .inl f13)), (qf14, .inl (cf14, 30, .inl f14)), (qf15, .inl (cf15, 30, .inl f15))]) (w1 := [(h0, .inr (11, [.ref qf0, .ref qf1, .int v2, .int v3, .int v4, .ref qf5, .int v6, .int v7, .ref qf8, .ref qf9, .ref qf10, .ref qf11, .ref qf12, .ref qf13, .ref qf14, .ref qf15, .int v16, .int v17, .int v18, .int v19, .int v20])), (qf1, .inr (4, [.ref qf1_0, .ref qf1_1])), (qf1_1, .inl (cf1_1, 256, .inl f1_1))]) hP hD [0, 3, 4] [1, 2, 5] rfl rfl (by decide) (by decide) hk1 hFc hP1 hD1
          clear hP hD
          obtain ⟨hP, hD⟩ := hPD
          replace hK := (hK.sub (tys' := [(cf13, .int), (cf14, .int), (cf15, .int)]) [0, 1, 3] rfl).app hK1
          clear hPc hDc hKc hFc hP1 hK1 hD1 hz1 hk1 ht hvm
          generalize H1 = H at hP hS ⊢
          replace hP : va_P (dC, dI) vwCl [(qf13, .inl (cf13, 6400, .inl f13)), (qf14, .inl (cf14, 30, .inl f14)), (qf15, .inl (cf15, 30, .inl f15)), (h0, .inr (11, [.ref qf0, .ref qf1, .int v2, .int v3, .int v4, .ref qf5, .int v6, .int v7, .ref qf8, .ref qf9, .ref qf10, .ref qf11, .ref qf12, .ref qf13, .ref qf14, .ref qf15, .int v16, .int v17, .int v18, .int v19, .int v20])), (qf1, .inr (4, [.ref qf1_0, .ref qf1_1])), (qf1_1, .inl (cf1_1, 256, .inl f1_1))] H := hP
          replace hD : va_D A [(qf13, .inl (cf13, 6400, .inl f13)), (qf14, .inl (cf14, 30, .inl f14)), (qf15, .inl (cf15, 30, .inl f15)), (h0, .inr (11, [.ref qf0, .ref qf1, .int v2, .int v3, .int v4, .ref qf5, .int v6, .int v7, .ref qf8, .ref qf9, .ref qf10, .ref qf11, .ref qf12, .ref qf13, .ref qf14, .ref qf15, .int v16, .int v17, .int v18, .int v19, .int v20])), (qf1, .inr (4, [.ref qf1_0, .ref qf1_1])), (qf1_1, .inl (cf1_1, 256, .inl f1_1))] := hD
          replace hK : va_K (dC, dI) vwCl [(cf13, .int), (cf14, .int), (cf15, .int), (cf1_1, .boolean)] s := hK
          obtain ⟨rfl, hz_2⟩ := hw
          rcases hz_2 with rfl | rfl
          · rw [if_pos rfl] at hsp
            refine lv_istore_n (lv' := [(3, .int 0), (4, .int l4_37), (0, .ref h0), (2, .int l2_37)]) hx hb dX11_fitsFrame_73 rfl hl (by decide) rfl (fun ls hl => ?_)
            refine lv_iinc (v := (l4_37 + 1)) (lv' := [(4, .int (l4_37 + 1)), (3, .int 0), (0, .ref h0), (2, .int l2_37)]) hx hb dX11_fitsFrame_74 hl (k := 1) rfl rfl (by decide) rfl (fun ls hl => ?_)
            refine lv_goto (tgt := 37) hx hb dX11_fitsFrame_77 (by decide) ?_
            exact ih_37 H locs ls l2_37 0 (l4_37 + 1) (lv_sub hl [0, 1, 2, 3] rfl) hS (hD.sub (ws' := [(h0, .inr (11, [.ref qf0, .ref qf1, .int v2, .int v3, .int v4, .ref qf5, .int v6, .int v7, .ref qf8, .ref qf9, .ref qf10, .ref qf11, .ref qf12, .ref qf13, .ref qf14, .ref qf15, .int v16, .int v17, .int v18, .int v19, .int v20])), (qf13, .inl (cf13, 6400, .inl f13)), (qf14, .inl (cf14, 30, .inl f14)), (qf1, .inr (4, [.ref qf1_0, .ref qf1_1])), (qf1_1, .inl (cf1_1, 256, .inl f1_1)), (qf15, .inl (cf15, 30, .inl f15))]) [3, 0, 1, 4, 5, 2] (by decide) rfl) (hP.sub (ws' := [(h0, .inr (11, [.ref qf0, .ref qf1, .int v2, .int v3, .int v4, .ref qf5, .int v6, .int v7, .ref qf8, .ref qf9, .ref qf10, .ref qf11, .ref qf12, .ref qf13, .ref qf14, .ref qf15, .int v16, .int v17, .int v18, .int v19, .int v20])), (qf13, .inl (cf13, 6400, .inl f13)), (qf14, .inl (cf14, 30, .inl f14)), (qf1, .inr (4, [.ref qf1_0, .ref qf1_1])), (qf1_1, .inl (cf1_1, 256, .inl f1_1)), (qf15, .inl (cf15, 30, .inl f15))]) [3, 0, 1, 4, 5, 2] rfl) hsp
          · rw [if_neg (by decide)] at hsp
            refine lv_istore_n (lv' := [(3, .int 1), (4, .int l4_37), (0, .ref h0), (2, .int l2_37)]) hx hb dX11_fitsFrame_73 rfl hl (by decide) rfl (fun ls hl => ?_)
            refine lv_iinc (v := (l4_37 + 1)) (lv' := [(4, .int (l4_37 + 1)), (3, .int 1), (0, .ref h0), (2, .int l2_37)]) hx hb dX11_fitsFrame_74 hl (k := 1) rfl rfl (by decide) rfl (fun ls hl => ?_)
            refine lv_goto (tgt := 37) hx hb dX11_fitsFrame_77 (by decide) ?_
            exact ih_37 H locs ls l2_37 1 (l4_37 + 1) (lv_sub hl [0, 1, 2, 3] rfl) hS (hD.sub (ws' := [(h0, .inr (11, [.ref qf0, .ref qf1, .int v2, .int v3, .int v4, .ref qf5, .int v6, .int v7, .ref qf8, .ref qf9, .ref qf10, .ref qf11, .ref qf12, .ref qf13, .ref qf14, .ref qf15, .int v16, .int v17, .int v18, .int v19, .int v20])), (qf13, .inl (cf13, 6400, .inl f13)), (qf14, .inl (cf14, 30, .inl f14)), (qf1, .inr (4, [.ref qf1_0, .ref qf1_1])), (qf1_1, .inl (cf1_1, 256, .inl f1_1)), (qf15, .inl (cf15, 30, .inl f15))]) [3, 0, 1, 4, 5, 2] (by decide) rfl) (hP.sub (ws' := [(h0, .inr (11, [.ref qf0, .ref qf1, .int v2, .int v3, .int v4, .ref qf5, .int v6, .int v7, .ref qf8, .ref qf9, .ref qf10, .ref qf11, .ref qf12, .ref qf13, .ref qf14, .ref qf15, .int v16, .int v17, .int v18, .int v19, .int v20])), (qf13, .inl (cf13, 6400, .inl f13)), (qf14, .inl (cf14, 30, .inl f14)), (qf1, .inr (4, [.ref qf1_0, .ref qf1_1])), (qf1_1, .inl (cf1_1, 256, .inl f1_1)), (qf15, .inl (cf15, 30, .inl f15))]) [3, 0, 1, 4, 5, 2] rfl) hsp
  intro hj_33
  refine jn_use (α := Heap × List Loc × Array Slot × Int32) (fun x9 => x9.1) (fun x9 => x9.2.1) (fun x9 => F0 m 32 x9.2.2.1 []) (fun x9 => match x9 with | (H, locs, ls, l2_32) => lv_has ls 5 [(0, .ref h0), (2, .int l2_32)] ∧ va_S A s.heap H locs ∧ va_D A [(h0, .inr (11, [.ref qf0, .ref qf1, .int v2, .int v3, .int v4, .ref qf5, .int v6, .int v7, .ref qf8, .ref qf9, .ref qf10, .ref qf11, .ref qf12, .ref qf13, .ref qf14, .ref qf15, .int v16, .int v17, .int v18, .int v19, .int v20])), (qf13, .inl (cf13, 6400, .inl f13)), (qf14, .inl (cf14, 30, .inl f14)), (qf1, .inr (4, [.ref qf1_0, .ref qf1_1])), (qf1_1, .inl (cf1_1, 256, .inl f1_1)), (qf15, .inl (cf15, 30, .inl f15))] ∧ va_P (dC, dI) vwCl [(h0, .inr (11, [.ref qf0, .ref qf1, .int v2, .int v3, .int v4, .ref qf5, .int v6, .int v7, .ref qf8, .ref qf9, .ref qf10, .ref qf11, .ref qf12, .ref qf13, .ref qf14, .ref qf15, .int v16, .int v17, .int v18, .int v19, .int v20])), (qf13, .inl (cf13, 6400, .inl f13)), (qf14, .inl (cf14, 30, .inl f14)), (qf1, .inr (4, [.ref qf1_0, .ref qf1_1])), (qf1_1, .inl (cf1_1, 256, .inl f1_1)), (qf15, .inl (cf15, 30, .inl f15))] H ∧ jn_v11_fitsFrame_32 nf a1 v18 f13 f14 f1_1 f15 l2_32 = some r0) ?_ ?_
  · intro x9 hJ9
    obtain ⟨H, locs, ls, l2_32⟩ := x9
    obtain ⟨hl, hS, hD, hP, hsp⟩ := hJ9
    replace hl : lv_has ls 5 [(0, .ref h0), (2, .int l2_32)] := hl
    replace hS : va_S A s.heap H locs := hS
    replace hD : va_D A [(h0, .inr (11, [.ref qf0, .ref qf1, .int v2, .int v3, .int v4, .ref qf5, .int v6, .int v7, .ref qf8, .ref qf9, .ref qf10, .ref qf11, .ref qf12, .ref qf13, .ref qf14, .ref qf15, .int v16, .int v17, .int v18, .int v19, .int v20])), (qf13, .inl (cf13, 6400, .inl f13)), (qf14, .inl (cf14, 30, .inl f14)), (qf1, .inr (4, [.ref qf1_0, .ref qf1_1])), (qf1_1, .inl (cf1_1, 256, .inl f1_1)), (qf15, .inl (cf15, 30, .inl f15))] := hD
    replace hP : va_P (dC, dI) vwCl [(h0, .inr (11, [.ref qf0, .ref qf1, .int v2, .int v3, .int v4, .ref qf5, .int v6, .int v7, .ref qf8, .ref qf9, .ref qf10, .ref qf11, .ref qf12, .ref qf13, .ref qf14, .ref qf15, .int v16, .int v17, .int v18, .int v19, .int v20])), (qf13, .inl (cf13, 6400, .inl f13)), (qf14, .inl (cf14, 30, .inl f14)), (qf1, .inr (4, [.ref qf1_0, .ref qf1_1])), (qf1_1, .inl (cf1_1, 256, .inl f1_1)), (qf15, .inl (cf15, 30, .inl f15))] H := hP
    replace hsp : jn_v11_fitsFrame_32 nf a1 v18 f13 f14 f1_1 f15 l2_32 = some r0 := hsp
    show W _ _ _ _ _ _ _ _ _ _ H locs _ _ _ (F0 m 32 ls [])
    unfold jn_v11_fitsFrame_32 at hsp
    try dsimp only at hsp
    refine lv_iconst (v := 0) hx hb dX11_fitsFrame_32 (by decide) ?_
    exact hj_33 (H, locs, ls, l2_32, 0) ⟨lv_sub hl [0, 1] rfl, hS, hD.sub (ws' := [(h0, .inr (11, [.ref qf0, .ref qf1, .int v2, .int v3, .int v4, .ref qf5, .int v6, .int v7, .ref qf8, .ref qf9, .ref qf10, .ref qf11, .ref qf12, .ref qf13, .ref qf14, .ref qf15, .int v16, .int v17, .int v18, .int v19, .int v20])), (qf13, .inl (cf13, 6400, .inl f13)), (qf14, .inl (cf14, 30, .inl f14)), (qf1, .inr (4, [.ref qf1_0, .ref qf1_1])), (qf1_1, .inl (cf1_1, 256, .inl f1_1)), (qf15, .inl (cf15, 30, .inl f15))]) [0, 1, 2, 3, 4, 5] (by decide) rfl, hP.sub (ws' := [(h0, .inr (11, [.ref qf0, .ref qf1, .int v2, .int v3, .int v4, .ref qf5, .int v6, .int v7, .ref qf8, .ref qf9, .ref qf10, .ref qf11, .ref qf12, .ref qf13, .ref qf14, .ref qf15, .int v16, .int v17, .int v18, .int v19, .int v20])), (qf13, .inl (cf13, 6400, .inl f13)), (qf14, .inl (cf14, 30, .inl f14)), (qf1, .inr (4, [.ref qf1_0, .ref qf1_1])), (qf1_1, .inl (cf1_1, 256, .inl f1_1)), (qf15, .inl (cf15, 30, .inl f15))]) [0, 1, 2, 3, 4, 5] rfl, hsp⟩
  intro hj_32
  refine lv_iload_n hx hb dX11_fitsFrame_0 rfl (lv_at hl 1 rfl) ?_
  refine lv_bipush (v := 64) hx hb dX11_fitsFrame_1 (by decide) ?_
  refine lv_imul hx hb dX11_fitsFrame_3 ?_
  refine lv_istore_n (lv' := [(2, .int (a1 * 64)), (0, .ref h0), (1, .int a1)]) hx hb dX11_fitsFrame_4 rfl hl (by decide) rfl (fun ls hl => ?_)
  refine lv_aload_n hx hb dX11_fitsFrame_5 rfl (lv_at hl 1 rfl) ?_
  refine va_get (D := (dC, dI)) (ci := 11) (v := .ref qf13) (C := RX11) (T := TX11) (N := 21) hx hb hts uV_h7_X11 hown hK hP 0 rfl rfl 13 (by decide) (hts (.fieldLink RX11 41 "ClassMill$Verifier" "frames" "[I") mw_h7_430) (fun _ h9 => h9) rfl dX11_fitsFrame_6 ?_
  refine lv_iload_n hx hb dX11_fitsFrame_9 rfl (lv_at hl 0 rfl) ?_
  refine lv_iconst (v := 2) hx hb dX11_fitsFrame_10 (by decide) ?_
  refine lv_iadd hx hb dX11_fitsFrame_11 ?_
  obtain ⟨hi_1, hsp⟩ := ox_in hsp
  refine va_iald hx hb hK hP 1 0 rfl rfl (i := ((a1 * 64) + 2)) hi_1 dX11_fitsFrame_12 ?_
  refine lv_aload_n hx hb dX11_fitsFrame_13 rfl (lv_at hl 1 rfl) ?_
  refine va_get (D := (dC, dI)) (ci := 11) (v := .int v18) (C := RX11) (T := TX11) (N := 21) hx hb hts uV_h7_X11 hown hK hP 0 rfl rfl 18 (by decide) (hts (.fieldLink RX11 255 "ClassMill$Verifier" "height" "I") mw_h7_428) (fun _ h9 => h9) rfl dX11_fitsFrame_14 ?_
  refine lv_icmp_ne (tgt := 32) hx hb dX11_fitsFrame_17 (by decide) (fun c_2 => ?_) (fun c_2 => ?_)
  · rw [if_neg c_2] at hsp
    exact hj_32 (H, locs, ls, (a1 * 64)) ⟨lv_sub hl [1, 0] rfl, hS, hD.sub (ws' := [(h0, .inr (11, [.ref qf0, .ref qf1, .int v2, .int v3, .int v4, .ref qf5, .int v6, .int v7, .ref qf8, .ref qf9, .ref qf10, .ref qf11, .ref qf12, .ref qf13, .ref qf14, .ref qf15, .int v16, .int v17, .int v18, .int v19, .int v20])), (qf13, .inl (cf13, 6400, .inl f13)), (qf14, .inl (cf14, 30, .inl f14)), (qf1, .inr (4, [.ref qf1_0, .ref qf1_1])), (qf1_1, .inl (cf1_1, 256, .inl f1_1)), (qf15, .inl (cf15, 30, .inl f15))]) [0, 1, 2, 3, 4, 5] (by decide) rfl, hP.sub (ws' := [(h0, .inr (11, [.ref qf0, .ref qf1, .int v2, .int v3, .int v4, .ref qf5, .int v6, .int v7, .ref qf8, .ref qf9, .ref qf10, .ref qf11, .ref qf12, .ref qf13, .ref qf14, .ref qf15, .int v16, .int v17, .int v18, .int v19, .int v20])), (qf13, .inl (cf13, 6400, .inl f13)), (qf14, .inl (cf14, 30, .inl f14)), (qf1, .inr (4, [.ref qf1_0, .ref qf1_1])), (qf1_1, .inl (cf1_1, 256, .inl f1_1)), (qf15, .inl (cf15, 30, .inl f15))]) [0, 1, 2, 3, 4, 5] rfl, hsp⟩
  · rw [if_pos c_2] at hsp
    refine lv_aload_n hx hb dX11_fitsFrame_20 rfl (lv_at hl 1 rfl) ?_
    refine lv_iload_n hx hb dX11_fitsFrame_21 rfl (lv_at hl 0 rfl) ?_
    obtain ⟨u1_0, hu_1, hsp⟩ := ox_bind hsp
    try dsimp only at hsp
    have hPc := hP.sub (ws' := [(h0, .inr (11, [.ref qf0, .ref qf1, .int v2, .int v3, .int v4, .ref qf5, .int v6, .int v7, .ref qf8, .ref qf9, .ref qf10, .ref qf11, .ref qf12, .ref qf13, .ref qf14, .ref qf15, .int v16, .int v17, .int v18, .int v19, .int v20])), (qf13, .inl (cf13, 6400, .inl f13)), (qf14, .inl (cf14, 30, .inl f14)), (qf1, .inr (4, [.ref qf1_0, .ref qf1_1])), (qf1_1, .inl (cf1_1, 256, .inl f1_1))]) [0, 1, 2, 3, 4] rfl
    have hDc := hD.sub (ws' := [(h0, .inr (11, [.ref qf0, .ref qf1, .int v2, .int v3, .int v4, .ref qf5, .int v6, .int v7, .ref qf8, .ref qf9, .ref qf10, .ref qf11, .ref qf12, .ref qf13, .ref qf14, .ref qf15, .int v16, .int v17, .int v18, .int v19, .int v20])), (qf13, .inl (cf13, 6400, .inl f13)), (qf14, .inl (cf14, 30, .inl f14)), (qf1, .inr (4, [.ref qf1_0, .ref qf1_1])), (qf1_1, .inl (cf1_1, 256, .inl f1_1))]) [0, 1, 2, 3, 4] (by decide) rfl
    have hKc := hK.sub (tys' := [(cf13, .int), (cf14, .int), (cf1_1, .boolean)]) [0, 1, 2] rfl
    have hFc := va_free (wc := [(h0, .inr (11, [.ref qf0, .ref qf1, .int v2, .int v3, .int v4, .ref qf5, .int v6, .int v7, .ref qf8, .ref qf9, .ref qf10, .ref qf11, .ref qf12, .ref qf13, .ref qf14, .ref qf15, .int v16, .int v17, .int v18, .int v19, .int v20])), (qf13, .inl (cf13, 6400, .inl f13)), (qf14, .inl (cf14, 30, .inl f14)), (qf1, .inr (4, [.ref qf1_0, .ref qf1_1])), (qf1_1, .inl (cf1_1, 256, .inl f1_1))]) hD hS hA [0, 1, 2, 3, 4] rfl
    refine va_calli (va_runV (As := [.int (a1 * 64)]) (rest := []) ⟨hx, hb, hml, hown, hts⟩ (t11_fitsLocals l dC dI H.size h0 ((a1 * 64)) qf0 qf1 v2 v3 v4 qf5 v6 v7 qf8 qf9 qf10 qf11 qf12 qf13 qf14 qf15 v16 v17 v18 v19 v20 cf13 f13 cf14 f14 qf1_0 qf1_1 cf1_1 f1_1 nf u1_0 hu_1) (cwV 1 hts gv_h7_104 rfl rfl rfl (by decide +kernel) ⟨Nat.le_of_ble_eq_true rfl, Nat.le_of_ble_eq_true rfl⟩) ⟨fun a U g mk q => by obtain ⟨q0, q1, qP, qK, qD⟩ := q; exact ⟨q0, q1, qP, va_K.moved (u := U) (U := U.calling g mk a) (Vm.Alike.refl U.vm) qK, qD⟩, va_recv hKc hPc (ci := 11) (q0 := 0) rfl rfl, fun U hU hW => ⟨rfl, by rw [hU], by rw [hU]; exact hPc, va_K.moved hW.alike hKc, hDc.weaken (fun _ _ _ _ => trivial)⟩⟩ rfl rfl hl.1 rfl (lv_room (Nat.le_of_ble_eq_true rfl)) dX11_fitsFrame_22 ⟨Nat.le_of_ble_eq_true rfl, Nat.le_of_ble_eq_true rfl⟩) hS (fun q _ h => hFc q h) hFc ?_
    clear hS
    intro r_3 u t H1 locs ht hvm hw hB hz1 hk1 hS
    obtain ⟨⟩ := u
    obtain ⟨hP1, hK1, hD1⟩ := hB
    rw [ht] at hP1
    have hK1 := va_K.moved hvm.symm hK1
    try dsimp only at hw
    have hPD := va_join (wr := [(qf15, .inl (cf15, 30, .inl f15))]) (w1 := [(h0, .inr (11, [.ref qf0, .ref qf1, .int v2, .int v3, .int v4, .ref qf5, .int v6, .int v7, .ref qf8, .ref qf9, .ref qf10, .ref qf11, .ref qf12, .ref qf13, .ref qf14, .ref qf15, .int v16, .int v17, .int v18, .int v19, .int v20])), (qf13, .inl (cf13, 6400, .inl f13)), (qf14, .inl (cf14, 30, .inl f14)), (qf1, .inr (4, [.ref qf1_0, .ref qf1_1])), (qf1_1, .inl (cf1_1, 256, .inl f1_1))]) hP hD [0, 1, 2, 3, 4] [5] rfl rfl (by decide) (by decide) hk1 hFc hP1 hD1
    clear hP hD
    obtain ⟨hP, hD⟩ := hPD
    replace hK := (hK.sub (tys' := [(cf15, .int)]) [3] rfl).app hK1
    clear hPc hDc hKc hFc hP1 hK1 hD1 hz1 hk1 ht hvm
    generalize H1 = H at hP hS ⊢
    replace hP : va_P (dC, dI) vwCl [(qf15, .inl (cf15, 30, .inl f15)), (h0, .inr (11, [.ref qf0, .ref qf1, .int v2, .int v3, .int v4, .ref qf5, .int v6, .int v7, .ref qf8, .ref qf9, .ref qf10, .ref qf11, .ref qf12, .ref qf13, .ref qf14, .ref qf15, .int v16, .int v17, .int v18, .int v19, .int v20])), (qf13, .inl (cf13, 6400, .inl f13)), (qf14, .inl (cf14, 30, .inl f14)), (qf1, .inr (4, [.ref qf1_0, .ref qf1_1])), (qf1_1, .inl (cf1_1, 256, .inl f1_1))] H := hP
    replace hD : va_D A [(qf15, .inl (cf15, 30, .inl f15)), (h0, .inr (11, [.ref qf0, .ref qf1, .int v2, .int v3, .int v4, .ref qf5, .int v6, .int v7, .ref qf8, .ref qf9, .ref qf10, .ref qf11, .ref qf12, .ref qf13, .ref qf14, .ref qf15, .int v16, .int v17, .int v18, .int v19, .int v20])), (qf13, .inl (cf13, 6400, .inl f13)), (qf14, .inl (cf14, 30, .inl f14)), (qf1, .inr (4, [.ref qf1_0, .ref qf1_1])), (qf1_1, .inl (cf1_1, 256, .inl f1_1))] := hD
    replace hK : va_K (dC, dI) vwCl [(cf15, .int), (cf13, .int), (cf14, .int), (cf1_1, .boolean)] s := hK
    obtain ⟨rfl, hz_1⟩ := hw
    rcases hz_1 with rfl | rfl
    · rw [if_pos rfl] at hsp
      refine lv_if_eq (tgt := 32) hx hb dX11_fitsFrame_25 (by decide) (fun c_4 => ?_) (fun c_4 => (show False by revert c_4; decide).elim)
      exact hj_32 (H, locs, ls, (a1 * 64)) ⟨lv_sub hl [1, 0] rfl, hS, hD.sub (ws' := [(h0, .inr (11, [.ref qf0, .ref qf1, .int v2, .int v3, .int v4, .ref qf5, .int v6, .int v7, .ref qf8, .ref qf9, .ref qf10, .ref qf11, .ref qf12, .ref qf13, .ref qf14, .ref qf15, .int v16, .int v17, .int v18, .int v19, .int v20])), (qf13, .inl (cf13, 6400, .inl f13)), (qf14, .inl (cf14, 30, .inl f14)), (qf1, .inr (4, [.ref qf1_0, .ref qf1_1])), (qf1_1, .inl (cf1_1, 256, .inl f1_1)), (qf15, .inl (cf15, 30, .inl f15))]) [1, 2, 3, 4, 5, 0] (by decide) rfl, hP.sub (ws' := [(h0, .inr (11, [.ref qf0, .ref qf1, .int v2, .int v3, .int v4, .ref qf5, .int v6, .int v7, .ref qf8, .ref qf9, .ref qf10, .ref qf11, .ref qf12, .ref qf13, .ref qf14, .ref qf15, .int v16, .int v17, .int v18, .int v19, .int v20])), (qf13, .inl (cf13, 6400, .inl f13)), (qf14, .inl (cf14, 30, .inl f14)), (qf1, .inr (4, [.ref qf1_0, .ref qf1_1])), (qf1_1, .inl (cf1_1, 256, .inl f1_1)), (qf15, .inl (cf15, 30, .inl f15))]) [1, 2, 3, 4, 5, 0] rfl, hsp⟩
    · rw [if_neg (by decide)] at hsp
      refine lv_if_eq (tgt := 32) hx hb dX11_fitsFrame_25 (by decide) (fun c_5 => (show False by revert c_5; decide).elim) (fun c_5 => ?_)
      refine lv_iconst (v := 1) hx hb dX11_fitsFrame_28 (by decide) ?_
      refine lv_goto (tgt := 33) hx hb dX11_fitsFrame_29 (by decide) ?_
      exact hj_33 (H, locs, ls, (a1 * 64), 1) ⟨lv_sub hl [1, 0] rfl, hS, hD.sub (ws' := [(h0, .inr (11, [.ref qf0, .ref qf1, .int v2, .int v3, .int v4, .ref qf5, .int v6, .int v7, .ref qf8, .ref qf9, .ref qf10, .ref qf11, .ref qf12, .ref qf13, .ref qf14, .ref qf15, .int v16, .int v17, .int v18, .int v19, .int v20])), (qf13, .inl (cf13, 6400, .inl f13)), (qf14, .inl (cf14, 30, .inl f14)), (qf1, .inr (4, [.ref qf1_0, .ref qf1_1])), (qf1_1, .inl (cf1_1, 256, .inl f1_1)), (qf15, .inl (cf15, 30, .inl f15))]) [1, 2, 3, 4, 5, 0] (by decide) rfl, hP.sub (ws' := [(h0, .inr (11, [.ref qf0, .ref qf1, .int v2, .int v3, .int v4, .ref qf5, .int v6, .int v7, .ref qf8, .ref qf9, .ref qf10, .ref qf11, .ref qf12, .ref qf13, .ref qf14, .ref qf15, .int v16, .int v17, .int v18, .int v19, .int v20])), (qf13, .inl (cf13, 6400, .inl f13)), (qf14, .inl (cf14, 30, .inl f14)), (qf1, .inr (4, [.ref qf1_0, .ref qf1_1])), (qf1_1, .inl (cf1_1, 256, .inl f1_1)), (qf15, .inl (cf15, 30, .inl f15))]) [1, 2, 3, 4, 5, 0] rfl, hsp⟩
def sp_v11_takeFrame (nf : Nat) (a1 : Int32) (f14 : Nat → Int32) (f13 : Nat → Int32) (f15 : Nat → Int32) : Option ((Nat → Int32) × (Nat → Int32) × Int32) := ((sp_jd_fill nf 304 30 f14).bind (fun p1 => (if ((a1 * 64) + 1) < 0 then none else if 6400 ≤ (((a1 * 64) + 1) : Int32).toNatClampNeg then none else (if cp_ok ((a1 * 64) + 3) 0 (f13 (((a1 * 64) + 1) : Int32).toNatClampNeg) 6400 30 = true then (if ((a1 * 64) + 2) < 0 then none else if 6400 ≤ (((a1 * 64) + 2) : Int32).toNatClampNeg then none else (if cp_ok ((a1 * 64) + 33) 0 (f13 (((a1 * 64) + 2) : Int32).toNatClampNeg) 6400 30 = true then (some ((va_cpy f13 p1 (((a1 * 64) + 3) : Int32).toNatClampNeg (0 : Int32).toNatClampNeg ((f13 (((a1 * 64) + 1) : Int32).toNatClampNeg) : Int32).toNatClampNeg), (va_cpy f13 f15 (((a1 * 64) + 33) : Int32).toNatClampNeg (0 : Int32).toNatClampNeg ((f13 (((a1 * 64) + 2) : Int32).toNatClampNeg) : Int32).toNatClampNeg), (f13 (((a1 * 64) + 2) : Int32).toNatClampNeg))) else none)) else none))))
