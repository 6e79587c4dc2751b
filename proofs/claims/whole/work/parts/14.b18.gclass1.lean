set_option maxHeartbeats 4000000 in
set_option maxRecDepth 100000 in
/-- ClassMill$Verifier.takeTypes -/
theorem t11_takeTypes (l : Launch) (dC : Nat → ClassId) (dI : Nat → Nat → Nat) (sz : Nat) (h0 : Nat) (a1 : Int32) (a2 : Int32) (qf0 : Nat) (qf1 : Nat) (v2 : Int32) (v3 : Int32) (v4 : Int32) (qf5 : Nat) (v6 : Int32) (v7 : Int32) (qf8 : Nat) (qf9 : Nat) (qf10 : Nat) (qf11 : Nat) (qf12 : Nat) (qf13 : Nat) (qf14 : Nat) (qf15 : Nat) (v16 : Int32) (v17 : Int32) (v18 : Int32) (v19 : Int32) (v20 : Int32) (qf5_0 : Nat) (v5_1 : Int32) (v5_2 : Int32) (v5_3 : Int32) (qf5_4 : Nat) (qf5_5 : Nat) (qf5_6 : Nat) (v5_7 : Int32) (v5_8 : Int32) (v5_9 : Int32) (v5_10 : Int32) (qf5_11 : Nat) (v5_12 : Int32) (qf5_13 : Nat) (cf5_0 : ClassId) (nb : Nat) (f5_0 : (Nat → Int32)) (cf8 : ClassId) (f8 : (Nat → Int32)) (cf13 : ClassId) (f13 : (Nat → Int32)) (nf : Nat) (r0 : Int32) (o13 : (Nat → Int32)) (hsp : sp_t11_takeTypes nf a1 a2 v5_1 nb f5_0 f8 f13 = some (r0, o13)) : Met l yX11_takeTypes (.code yX11_takeTypes cX11_takeTypes 7 (some .int) :: VS_h3) ({ frames := 1, cells := 0, slots := 0, locals := 22 }) (va_Pc [.ref h0, .int a1, .int a2] (fun U => U.heap.size = sz ∧ va_P (dC, dI) vwCl [(h0, .inr (11, [.ref qf0, .ref qf1, .int v2, .int v3, .int v4, .ref qf5, .int v6, .int v7, .ref qf8, .ref qf9, .ref qf10, .ref qf11, .ref qf12, .ref qf13, .ref qf14, .ref qf15, .int v16, .int v17, .int v18, .int v19, .int v20])), (qf5, .inr (3, [.ref qf5_0, .int v5_1, .int v5_2, .int v5_3, .ref qf5_4, .ref qf5_5, .ref qf5_6, .int v5_7, .int v5_8, .int v5_9, .int v5_10, .ref qf5_11, .int v5_12, .ref qf5_13])), (qf5_0, .inl (cf5_0, nb, .inl f5_0)), (qf8, .inl (cf8, 256, .inl f8)), (qf13, .inl (cf13, 6400, .inl f13))] U.heap ∧ va_K (dC, dI) vwCl [(cf5_0, .byte), (cf8, .int), (cf13, .int)] U ∧ va_D (fun _ => True) [(h0, .inr (11, [.ref qf0, .ref qf1, .int v2, .int v3, .int v4, .ref qf5, .int v6, .int v7, .ref qf8, .ref qf9, .ref qf10, .ref qf11, .ref qf12, .ref qf13, .ref qf14, .ref qf15, .int v16, .int v17, .int v18, .int v19, .int v20])), (qf5, .inr (3, [.ref qf5_0, .int v5_1, .int v5_2, .int v5_3, .ref qf5_4, .ref qf5_5, .ref qf5_6, .int v5_7, .int v5_8, .int v5_9, .int v5_10, .ref qf5_11, .int v5_12, .ref qf5_13])), (qf5_0, .inl (cf5_0, nb, .inl f5_0)), (qf8, .inl (cf8, 256, .inl f8)), (qf13, .inl (cf13, 6400, .inl f13))])) (va_Qi (fun (r : Int32) (u : Unit) => match u with | () => r0 = r) (fun (u : Unit) (t : State) => match u with | () => va_P (dC, dI) vwCl [(h0, .inr (11, [.ref qf0, .ref qf1, .int v2, .int v3, .int v4, .ref qf5, .int v6, .int v7, .ref qf8, .ref qf9, .ref qf10, .ref qf11, .ref qf12, .ref qf13, .ref qf14, .ref qf15, .int v16, .int v17, .int v18, .int v19, .int v20])), (qf5, .inr (3, [.ref qf5_0, .int v5_1, .int v5_2, .int v5_3, .ref qf5_4, .ref qf5_5, .ref qf5_6, .int v5_7, .int v5_8, .int v5_9, .int v5_10, .ref qf5_11, .int v5_12, .ref qf5_13])), (qf5_0, .inl (cf5_0, nb, .inl f5_0)), (qf8, .inl (cf8, 256, .inl f8)), (qf13, .inl (cf13, 6400, .inl o13))] t.heap ∧ va_K (dC, dI) vwCl [(cf5_0, .byte), (cf8, .int), (cf13, .int)] t ∧ va_D (va_A [(h0, .inr (11, [.ref qf0, .ref qf1, .int v2, .int v3, .int v4, .ref qf5, .int v6, .int v7, .ref qf8, .ref qf9, .ref qf10, .ref qf11, .ref qf12, .ref qf13, .ref qf14, .ref qf15, .int v16, .int v17, .int v18, .int v19, .int v20])), (qf5, .inr (3, [.ref qf5_0, .int v5_1, .int v5_2, .int v5_3, .ref qf5_4, .ref qf5_5, .ref qf5_6, .int v5_7, .int v5_8, .int v5_9, .int v5_10, .ref qf5_11, .int v5_12, .ref qf5_13])), (qf5_0, .inl (cf5_0, nb, .inl f5_0)), (qf8, .inl (cf8, 256, .inl f8)), (qf13, .inl (cf13, 6400, .inl f13))] sz) [(h0, .inr (11, [.ref qf0, .ref qf1, .int v2, .int v3, .int v4, .ref qf5, .int v6, .int v7, .ref qf8, .ref qf9, .ref qf10, .ref qf11, .ref qf12, .ref qf13, .ref qf14, .ref qf15, .int v16, .int v17, .int v18, .int v19, .int v20])), (qf5, .inr (3, [.ref qf5_0, .int v5_1, .int v5_2, .int v5_3, .ref qf5_4, .ref qf5_5, .ref qf5_6, .int v5_7, .int v5_8, .int v5_9, .int v5_10, .ref qf5_11, .int v5_12, .ref qf5_13])), (qf5_0, .inl (cf5_0, nb, .inl f5_0)), (qf8, .inl (cf8, 256, .inl f8)), (qf13, .inl (cf13, 6400, .inl o13))]) (va_A [(h0, .inr (11, [.ref qf0, .ref qf1, .int v2, .int v3, .int v4, .ref qf5, .int v6, .int v7, .ref qf8, .ref qf9, .ref qf10, .ref qf11, .ref qf12, .ref qf13, .ref qf14, .ref qf15, .int v16, .int v17, .int v18, .int v19, .int v20])), (qf5, .inr (3, [.ref qf5_0, .int v5_1, .int v5_2, .int v5_3, .ref qf5_4, .ref qf5_5, .ref qf5_6, .int v5_7, .int v5_8, .int v5_9, .int v5_10, .ref qf5_11, .int v5_12, .ref qf5_13])), (qf5_0, .inl (cf5_0, nb, .inl f5_0)), (qf8, .inl (cf8, 256, .inl f8)), (qf13, .inl (cf13, 6400, .inl f13))] sz)) 0 0 (va_A [(h0, .inr (11, [.ref qf0, .ref qf1, .int v2, .int v3, .int v4, .ref qf5, .int v6, .int v7, .ref qf8, .ref qf9, .ref qf10, .ref qf11, .ref qf12, .ref qf13, .ref qf14, .ref qf15, .int v16, .int v17, .int v18, .int v19, .int v20])), (qf5, .inr (3, [.ref qf5_0, .int v5_1, .int v5_2, .int v5_3, .ref qf5_4, .ref qf5_5, .ref qf5_6, .int v5_7, .int v5_8, .int v5_9, .int v5_10, .ref qf5_11, .int v5_12, .ref qf5_13])), (qf5_0, .inl (cf5_0, nb, .inl f5_0)), (qf8, .inl (cf8, 256, .inl f8)), (qf13, .inl (cf13, 6400, .inl f13))] sz) := by
  refine Met.ofW (cc := cX11_takeTypes) (maxL := 7) (ret := (some .int)) (by decide) rfl ?_
  intro p e s m args below meth c s₁ B hml hv
  obtain ⟨rfl, hsz, hP, hK, hD0⟩ := hv
  have hx := B.exec
  have hb := B.bytes
  have hr := B.returns
  have hts := atoms_spec (ws := (.code yX11_takeTypes cX11_takeTypes 7 (some .int) :: VS_h3)) B.pre
  replace hts := fun w (h : w ∈ VS_h3) => hts w (List.mem_cons_of_mem _ h)
  have hown : s.vm.findClass RX11 = some m.cls := findClass_of_methodNamed B.named
  have hlocks := B.notSynchronized
  subst hsz
  have hD := hD0.self (sz := s.heap.size)
  generalize hAe : va_A [(h0, .inr (11, [.ref qf0, .ref qf1, .int v2, .int v3, .int v4, .ref qf5, .int v6, .int v7, .ref qf8, .ref qf9, .ref qf10, .ref qf11, .ref qf12, .ref qf13, .ref qf14, .ref qf15, .int v16, .int v17, .int v18, .int v19, .int v20])), (qf5, .inr (3, [.ref qf5_0, .int v5_1, .int v5_2, .int v5_3, .ref qf5_4, .ref qf5_5, .ref qf5_6, .int v5_7, .int v5_8, .int v5_9, .int v5_10, .ref qf5_11, .int v5_12, .ref qf5_13])), (qf5_0, .inl (cf5_0, nb, .inl f5_0)), (qf8, .inl (cf8, 256, .inl f8)), (qf13, .inl (cf13, 6400, .inl f13))] s.heap.size = A at hD  ⊢
  have hA : ∀ q : Nat, s.heap.size ≤ q → A q := fun q h => by rw [← hAe]; exact Or.inr h
  have hP : va_P (dC, dI) vwCl [(h0, .inr (11, [.ref qf0, .ref qf1, .int v2, .int v3, .int v4, .ref qf5, .int v6, .int v7, .ref qf8, .ref qf9, .ref qf10, .ref qf11, .ref qf12, .ref qf13, .ref qf14, .ref qf15, .int v16, .int v17, .int v18, .int v19, .int v20])), (qf5, .inr (3, [.ref qf5_0, .int v5_1, .int v5_2, .int v5_3, .ref qf5_4, .ref qf5_5, .ref qf5_6, .int v5_7, .int v5_8, .int v5_9, .int v5_10, .ref qf5_11, .int v5_12, .ref qf5_13])), (qf5_0, .inl (cf5_0, nb, .inl f5_0)), (qf8, .inl (cf8, 256, .inl f8)), (qf13, .inl (cf13, 6400, .inl f13))] s.heap := hP
  have hl := lv_entry ([.ref h0, .int a1, .int a2]) (n := 7) (Nat.le_of_ble_eq_true rfl)
  rw [lg_entry_eq]
  generalize (lg_sl ([.ref h0, .int a1, .int a2]) ++ List.replicate (7 - (lg_sl ([.ref h0, .int a1, .int a2])).length) Slot.unset).toArray = ls at hl ⊢
  have hl : lv_has ls 7 [(0, .ref h0), (1, .int a1), (2, .int a2)] := hl
  obtain ⟨H, hH⟩ : ∃ H : Heap, s.heap = H := ⟨_, rfl⟩
  rw [hH] at hP ⊢
  have hS : va_S A s.heap H [] := by rw [← hH]; exact va_S.rf
  obtain ⟨locs, hlo⟩ : ∃ locs : List Loc, locs = [] := ⟨_, rfl⟩
  rw [← hlo] at hS ⊢
  unfold sp_t11_takeTypes at hsp
  refine lv_aload_n hx hb dX11_takeTypes_0 rfl (lv_at hl 0 rfl) ?_
  refine va_get (D := (dC, dI)) (ci := 11) (v := .ref qf5) (C := RX11) (T := TX11) (N := 21) hx hb hts uV_h3_X11 hown hK hP 0 rfl rfl 5 (by decide) (hts (.fieldLink RX11 62 "ClassMill$Verifier" "image" "LClassMill$Image;") mw_h3_161) (fun _ h9 => h9) rfl dX11_takeTypes_1 ?_
  refine lv_iload_n hx hb dX11_takeTypes_4 rfl (lv_at hl 1 rfl) ?_
  obtain ⟨u1_0, hu_1, hsp⟩ := ox_bind hsp
  try dsimp only at hsp
  have hPc := hP.sub (ws' := [(qf5, .inr (3, [.ref qf5_0, .int v5_1, .int v5_2, .int v5_3, .ref qf5_4, .ref qf5_5, .ref qf5_6, .int v5_7, .int v5_8, .int v5_9, .int v5_10, .ref qf5_11, .int v5_12, .ref qf5_13])), (qf5_0, .inl (cf5_0, nb, .inl f5_0))]) [1, 2] rfl
  have hDc := hD.sub (ws' := [(qf5, .inr (3, [.ref qf5_0, .int v5_1, .int v5_2, .int v5_3, .ref qf5_4, .ref qf5_5, .ref qf5_6, .int v5_7, .int v5_8, .int v5_9, .int v5_10, .ref qf5_11, .int v5_12, .ref qf5_13])), (qf5_0, .inl (cf5_0, nb, .inl f5_0))]) [1, 2] (by decide) rfl
  have hKc := hK.sub (tys' := [(cf5_0, .byte)]) [0] rfl
  have hFc := va_free (wc := [(qf5, .inr (3, [.ref qf5_0, .int v5_1, .int v5_2, .int v5_3, .ref qf5_4, .ref qf5_5, .ref qf5_6, .int v5_7, .int v5_8, .int v5_9, .int v5_10, .ref qf5_11, .int v5_12, .ref qf5_13])), (qf5_0, .inl (cf5_0, nb, .inl f5_0))]) hD hS hA [1, 2] rfl
  refine va_calli (va_runV (As := [.int a1]) (rest := []) ⟨hx, hb, hml, hown, hts⟩ (ti_byteAt l dC dI H.size qf5 a1 qf5_0 v5_1 v5_2 v5_3 qf5_4 qf5_5 qf5_6 v5_7 v5_8 v5_9 v5_10 qf5_11 v5_12 qf5_13 cf5_0 nb f5_0 nf u1_0 hu_1) (cwV 1 hts gv_h3_34 rfl rfl rfl (by decide +kernel) ⟨Nat.le_of_ble_eq_true rfl, Nat.le_of_ble_eq_true rfl⟩) ⟨fun a U g mk q => by obtain ⟨q0, q1, qP, qK, qD⟩ := q; exact ⟨q0, q1, qP, va_K.moved (u := U) (U := U.calling g mk a) (Vm.Alike.refl U.vm) qK, qD⟩, va_recv hKc hPc (ci := 3) (q0 := 0) rfl rfl, fun U hU hW => ⟨rfl, by rw [hU], by rw [hU]; exact hPc, va_K.moved hW.alike hKc, hDc.weaken (fun _ _ _ _ => trivial)⟩⟩ rfl rfl hl.1 rfl (lv_room (Nat.le_of_ble_eq_true rfl)) dX11_takeTypes_5 ⟨Nat.le_of_ble_eq_true rfl, Nat.le_of_ble_eq_true rfl⟩) hS (fun q _ h => hFc q h) hFc ?_
  clear hS
  intro r_1 u t H1 locs ht hvm hw hB hz1 hk1 hS
  obtain ⟨⟩ := u
  obtain ⟨hP1, hK1, hD1⟩ := hB
  rw [ht] at hP1
  have hK1 := va_K.moved hvm.symm hK1
  try dsimp only at hw
  have hPD := va_join (wr := [(h0, .inr (11, [.ref qf0, .ref qf1, .int v2, .int v3, .int v4, .ref qf5, .int v6, .int v7, .ref qf8, .ref qf9, .ref qf10, .ref qf11, .ref qf12, .ref qf13, .ref qf14, .ref qf15, .int v16, .int v17, .int v18, .int v19, .int v20])), (qf8, .inl (cf8, 256, .inl f8)), (qf13, .inl (cf13, 6400, .inl f13))]) (w1 := [(qf5, .inr (3, [.ref qf5_0, .int v5_1, .int v5_2, .int v5_3, .ref qf5_4, .ref qf5_5, .ref qf5_6, .int v5_7, .int v5_8, .int v5_9, .int v5_10, .ref qf5_11, .int v5_12, .ref qf5_13])), (qf5_0, .inl (cf5_0, nb, .inl f5_0))]) hP hD [1, 2] [0, 3, 4] rfl rfl (by decide) (by decide) hk1 hFc hP1 hD1
  clear hP hD
  obtain ⟨hP, hD⟩ := hPD
  replace hK := (hK.sub (tys' := [(cf8, .int), (cf13, .int)]) [1, 2] rfl).app hK1
  clear hPc hDc hKc hFc hP1 hK1 hD1 hz1 hk1 ht hvm
  generalize H1 = H at hP hS ⊢
  replace hP : va_P (dC, dI) vwCl [(h0, .inr (11, [.ref qf0, .ref qf1, .int v2, .int v3, .int v4, .ref qf5, .int v6, .int v7, .ref qf8, .ref qf9, .ref qf10, .ref qf11, .ref qf12, .ref qf13, .ref qf14, .ref qf15, .int v16, .int v17, .int v18, .int v19, .int v20])), (qf8, .inl (cf8, 256, .inl f8)), (qf13, .inl (cf13, 6400, .inl f13)), (qf5, .inr (3, [.ref qf5_0, .int v5_1, .int v5_2, .int v5_3, .ref qf5_4, .ref qf5_5, .ref qf5_6, .int v5_7, .int v5_8, .int v5_9, .int v5_10, .ref qf5_11, .int v5_12, .ref qf5_13])), (qf5_0, .inl (cf5_0, nb, .inl f5_0))] H := hP
  replace hD : va_D A [(h0, .inr (11, [.ref qf0, .ref qf1, .int v2, .int v3, .int v4, .ref qf5, .int v6, .int v7, .ref qf8, .ref qf9, .ref qf10, .ref qf11, .ref qf12, .ref qf13, .ref qf14, .ref qf15, .int v16, .int v17, .int v18, .int v19, .int v20])), (qf8, .inl (cf8, 256, .inl f8)), (qf13, .inl (cf13, 6400, .inl f13)), (qf5, .inr (3, [.ref qf5_0, .int v5_1, .int v5_2, .int v5_3, .ref qf5_4, .ref qf5_5, .ref qf5_6, .int v5_7, .int v5_8, .int v5_9, .int v5_10, .ref qf5_11, .int v5_12, .ref qf5_13])), (qf5_0, .inl (cf5_0, nb, .inl f5_0))] := hD
  replace hK : va_K (dC, dI) vwCl [(cf8, .int), (cf13, .int), (cf5_0, .byte)] s := hK
  obtain rfl := hw
  refine lv_istore_n (lv' := [(3, .int u1_0), (0, .ref h0), (1, .int a1), (2, .int a2)]) hx hb dX11_takeTypes_8 rfl hl (by decide) rfl (fun ls hl => ?_)
  refine lv_iload_n hx hb dX11_takeTypes_9 rfl (lv_at hl 2 rfl) ?_
  refine lv_iconst (v := 1) hx hb dX11_takeTypes_10 (by decide) ?_
  refine lv_iadd hx hb dX11_takeTypes_11 ?_
  refine lv_istore (lv' := [(4, .int (a1 + 1)), (3, .int u1_0), (0, .ref h0), (1, .int a1), (2, .int a2)]) hx hb dX11_takeTypes_12 hl (by decide) rfl (fun ls hl => ?_)
  refine lv_iconst (v := 0) hx hb dX11_takeTypes_14 (by decide) ?_
  refine lv_istore (lv' := [(5, .int 0), (4, .int (a1 + 1)), (3, .int u1_0), (0, .ref h0), (1, .int a1), (2, .int a2)]) hx hb dX11_takeTypes_15 hl (by decide) rfl (fun ls hl => ?_)
  replace hP := hP.sub (ws' := [(h0, .inr (11, [.ref qf0, .ref qf1, .int v2, .int v3, .int v4, .ref qf5, .int v6, .int v7, .ref qf8, .ref qf9, .ref qf10, .ref qf11, .ref qf12, .ref qf13, .ref qf14, .ref qf15, .int v16, .int v17, .int v18, .int v19, .int v20])), (qf5, .inr (3, [.ref qf5_0, .int v5_1, .int v5_2, .int v5_3, .ref qf5_4, .ref qf5_5, .ref qf5_6, .int v5_7, .int v5_8, .int v5_9, .int v5_10, .ref qf5_11, .int v5_12, .ref qf5_13])), (qf5_0, .inl (cf5_0, nb, .inl f5_0)), (qf8, .inl (cf8, 256, .inl f8)), (qf13, .inl (cf13, 6400, .inl f13))]) [0, 3, 4, 1, 2] rfl
  replace hD := hD.sub (ws' := [(h0, .inr (11, [.ref qf0, .ref qf1, .int v2, .int v3, .int v4, .ref qf5, .int v6, .int v7, .ref qf8, .ref qf9, .ref qf10, .ref qf11, .ref qf12, .ref qf13, .ref qf14, .ref qf15, .int v16, .int v17, .int v18, .int v19, .int v20])), (qf5, .inr (3, [.ref qf5_0, .int v5_1, .int v5_2, .int v5_3, .ref qf5_4, .ref qf5_5, .ref qf5_6, .int v5_7, .int v5_8, .int v5_9, .int v5_10, .ref qf5_11, .int v5_12, .ref qf5_13])), (qf5_0, .inl (cf5_0, nb, .inl f5_0)), (qf8, .inl (cf8, 256, .inl f8)), (qf13, .inl (cf13, 6400, .inl f13))]) [0, 3, 4, 1, 2] (by decide) rfl
  replace hK := hK.sub (tys' := [(cf5_0, .byte), (cf8, .int), (cf13, .int)]) [2, 0, 1] rfl
  obtain ⟨n_17, hn_17⟩ : ∃ z : Nat, z = nf := ⟨_, rfl⟩
  obtain ⟨l1_17, el1_17⟩ : ∃ z : Int32, z = a1 := ⟨_, rfl⟩
  obtain ⟨l2_17, el2_17⟩ : ∃ z : Int32, z = a2 := ⟨_, rfl⟩
  obtain ⟨l3_17, el3_17⟩ : ∃ z : Int32, z = u1_0 := ⟨_, rfl⟩
  obtain ⟨l4_17, el4_17⟩ : ∃ z : Int32, z = (a1 + 1) := ⟨_, rfl⟩
  obtain ⟨l5_17, el5_17⟩ : ∃ z : Int32, z = 0 := ⟨_, rfl⟩
  obtain ⟨g13_17, eg13_17⟩ : ∃ z : Nat → Int32, z = f13 := ⟨_, rfl⟩
  replace hsp : lp_t11_takeTypes_17 nf n_17 a1 a2 v5_1 nb f5_0 f8 f13 l1_17 l2_17 l3_17 l4_17 l5_17 g13_17 = some (r0, o13) := by rw [hn_17, el1_17, el2_17, el3_17, el4_17, el5_17, eg13_17]; exact hsp
  replace hl : lv_has ls 7 [(5, .int l5_17), (4, .int l4_17), (3, .int l3_17), (0, .ref h0), (1, .int l1_17), (2, .int l2_17)] := by rw [el1_17, el2_17, el3_17, el4_17, el5_17]; exact hl
  replace hP : va_P (dC, dI) vwCl [(h0, .inr (11, [.ref qf0, .ref qf1, .int v2, .int v3, .int v4, .ref qf5, .int v6, .int v7, .ref qf8, .ref qf9, .ref qf10, .ref qf11, .ref qf12, .ref qf13, .ref qf14, .ref qf15, .int v16, .int v17, .int v18, .int v19, .int v20])), (qf5, .inr (3, [.ref qf5_0, .int v5_1, .int v5_2, .int v5_3, .ref qf5_4, .ref qf5_5, .ref qf5_6, .int v5_7, .int v5_8, .int v5_9, .int v5_10, .ref qf5_11, .int v5_12, .ref qf5_13])), (qf5_0, .inl (cf5_0, nb, .inl f5_0)), (qf8, .inl (cf8, 256, .inl f8)), (qf13, .inl (cf13, 6400, .inl g13_17))] H := by rw [eg13_17]; exact hP
  replace hD : va_D A [(h0, .inr (11, [.ref qf0, .ref qf1, .int v2, .int v3, .int v4, .ref qf5, .int v6, .int v7, .ref qf8, .ref qf9, .ref qf10, .ref qf11, .ref qf12, .ref qf13, .ref qf14, .ref qf15, .int v16, .int v17, .int v18, .int v19, .int v20])), (qf5, .inr (3, [.ref qf5_0, .int v5_1, .int v5_2, .int v5_3, .ref qf5_4, .ref qf5_5, .ref qf5_6, .int v5_7, .int v5_8, .int v5_9, .int v5_10, .ref qf5_11, .int v5_12, .ref qf5_13])), (qf5_0, .inl (cf5_0, nb, .inl f5_0)), (qf8, .inl (cf8, 256, .inl f8)), (qf13, .inl (cf13, 6400, .inl g13_17))] := by rw [eg13_17]; exact hD
  clear hn_17 el1_17 el2_17 el3_17 el4_17 el5_17 eg13_17
  try clear hlo
  try clear hH
  revert hsp
  revert hP
  revert hD
  revert hS
  revert hl
  revert g13_17
  revert l5_17
  revert l4_17
  revert l3_17
  revert l2_17
  revert l1_17
  revert ls
  revert locs
  revert H
  induction n_17 with
  | zero => intro H locs ls l1_17 l2_17 l3_17 l4_17 l5_17 g13_17 hl hS hD hP hsp; unfold lp_t11_takeTypes_17 at hsp; cases hsp
  | succ n_17 ih_17 =>
    intro H locs ls l1_17 l2_17 l3_17 l4_17 l5_17 g13_17 hl hS hD hP hsp
    unfold lp_t11_takeTypes_17 at hsp
    try dsimp only at hsp
    refine lv_iload hx hb dX11_takeTypes_17 (lv_at hl 0 rfl) ?_
    refine lv_iload_n hx hb dX11_takeTypes_19 rfl (lv_at hl 2 rfl) ?_
    refine lv_icmp_ge (tgt := 89) hx hb dX11_takeTypes_20 (by decide) (fun c_2 => ?_) (fun c_2 => ?_)
    · rw [if_pos c_2] at hsp
      refine lv_iload hx hb dX11_takeTypes_89 (lv_at hl 1 rfl) ?_
      have hr0 := Option.some.inj hsp
      clear hsp
      obtain ⟨hq0, hr1⟩ := Prod.mk.inj hr0
      clear hr0
      subst hq0
      subst hr1
      have hP9 := hP.sub (ws' := [(h0, .inr (11, [.ref qf0, .ref qf1, .int v2, .int v3, .int v4, .ref qf5, .int v6, .int v7, .ref qf8, .ref qf9, .ref qf10, .ref qf11, .ref qf12, .ref qf13, .ref qf14, .ref qf15, .int v16, .int v17, .int v18, .int v19, .int v20])), (qf5, .inr (3, [.ref qf5_0, .int v5_1, .int v5_2, .int v5_3, .ref qf5_4, .ref qf5_5, .ref qf5_6, .int v5_7, .int v5_8, .int v5_9, .int v5_10, .ref qf5_11, .int v5_12, .ref qf5_13])), (qf5_0, .inl (cf5_0, nb, .inl f5_0)), (qf8, .inl (cf8, 256, .inl f8)), (qf13, .inl (cf13, 6400, .inl g13_17))]) [0, 1, 2, 3, 4] rfl
      have hD9 := hD.sub (ws' := [(h0, .inr (11, [.ref qf0, .ref qf1, .int v2, .int v3, .int v4, .ref qf5, .int v6, .int v7, .ref qf8, .ref qf9, .ref qf10, .ref qf11, .ref qf12, .ref qf13, .ref qf14, .ref qf15, .int v16, .int v17, .int v18, .int v19, .int v20])), (qf5, .inr (3, [.ref qf5_0, .int v5_1, .int v5_2, .int v5_3, .ref qf5_4, .ref qf5_5, .ref qf5_6, .int v5_7, .int v5_8, .int v5_9, .int v5_10, .ref qf5_11, .int v5_12, .ref qf5_13])), (qf5_0, .inl (cf5_0, nb, .inl f5_0)), (qf8, .inl (cf8, 256, .inl f8)), (qf13, .inl (cf13, 6400, .inl g13_17))]) [0, 1, 2, 3, 4] (by decide) rfl
      have hK9 := hK.sub (tys' := [(cf5_0, .byte), (cf8, .int), (cf13, .int)]) [0, 1, 2] rfl
      exact W.iret hx hb hr (fun t ht hW => ⟨⟨(l4_17), (), rfl, rfl, by rw [ht]; exact hP9, va_K.moved hW.alike hK9, hD9⟩, hS.F ht⟩) hS.2.2 dX11_takeTypes_91
    · rw [if_neg c_2] at hsp
      refine lv_aload_n hx hb dX11_takeTypes_23 rfl (lv_at hl 3 rfl) ?_
      refine va_get (D := (dC, dI)) (ci := 11) (v := .ref qf5) (C := RX11) (T := TX11) (N := 21) hx hb hts uV_h3_X11 hown hK hP 0 rfl rfl 5 (by decide) (hts (.fieldLink RX11 62 "ClassMill$Verifier" "image" "LClassMill$Image;") mw_h3_161) (fun _ h9 => h9) rfl dX11_takeTypes_24 ?_
      refine lv_iload hx hb dX11_takeTypes_27 (lv_at hl 1 rfl) ?_
      obtain ⟨u2_0, hu_2, hsp⟩ := ox_bind hsp
      try dsimp only at hsp
      have hPc := hP.sub (ws' := [(qf5, .inr (3, [.ref qf5_0, .int v5_1, .int v5_2, .int v5_3, .ref qf5_4, .ref qf5_5, .ref qf5_6, .int v5_7, .int v5_8, .int v5_9, .int v5_10, .ref qf5_11, .int v5_12, .ref qf5_13])), (qf5_0, .inl (cf5_0, nb, .inl f5_0))]) [1, 2] rfl
      have hDc := hD.sub (ws' := [(qf5, .inr (3, [.ref qf5_0, .int v5_1, .int v5_2, .int v5_3, .ref qf5_4, .ref qf5_5, .ref qf5_6, .int v5_7, .int v5_8, .int v5_9, .int v5_10, .ref qf5_11, .int v5_12, .ref qf5_13])), (qf5_0, .inl (cf5_0, nb, .inl f5_0))]) [1, 2] (by decide) rfl
      have hKc := hK.sub (tys' := [(cf5_0, .byte)]) [0] rfl
      have hFc := va_free (wc := [(qf5, .inr (3, [.ref qf5_0, .int v5_1, .int v5_2, .int v5_3, .ref qf5_4, .ref qf5_5, .ref qf5_6, .int v5_7, .int v5_8, .int v5_9, .int v5_10, .ref qf5_11, .int v5_12, .ref qf5_13])), (qf5_0, .inl (cf5_0, nb, .inl f5_0))]) hD hS hA [1, 2] rfl
      refine va_calli (va_runV (As := [.int l4_17]) (rest := []) ⟨hx, hb, hml, hown, hts⟩ (ti_byteAt l dC dI H.size qf5 l4_17 qf5_0 v5_1 v5_2 v5_3 qf5_4 qf5_5 qf5_6 v5_7 v5_8 v5_9 v5_10 qf5_11 v5_12 qf5_13 cf5_0 nb f5_0 nf u2_0 hu_2) (cwV 1 hts gv_h3_34 rfl rfl rfl (by decide +kernel) ⟨Nat.le_of_ble_eq_true rfl, Nat.le_of_ble_eq_true rfl⟩) ⟨fun a U g mk q => by obtain ⟨q0, q1, qP, qK, qD⟩ := q; exact ⟨q0, q1, qP, va_K.moved (u := U) (U := U.calling g mk a) (Vm.Alike.refl U.vm) qK, qD⟩, va_recv hKc hPc (ci := 3) (q0 := 0) rfl rfl, fun U hU hW => ⟨rfl, by rw [hU], by rw [hU]; exact hPc, va_K.moved hW.alike hKc, hDc.weaken (fun _ _ _ _ => trivial)⟩⟩ rfl rfl hl.1 rfl (lv_room (Nat.le_of_ble_eq_true rfl)) dX11_takeTypes_29 ⟨Nat.le_of_ble_eq_true rfl, Nat.le_of_ble_eq_true rfl⟩) hS (fun q _ h => hFc q h) hFc ?_
      clear hS
      intro r_3 u t H1 locs ht hvm hw hB hz1 hk1 hS
      obtain ⟨⟩ := u
      obtain ⟨hP1, hK1, hD1⟩ := hB
      rw [ht] at hP1
      have hK1 := va_K.moved hvm.symm hK1
      try dsimp only at hw
      have hPD := va_join (wr := [(h0, .inr (11, [.ref qf0, .ref qf1, .int v2, .int v3, .int v4, .ref qf5, .int v6, .int v7, .ref qf8, .ref qf9, .ref qf10, .ref qf11, .ref qf12, .ref qf13, .ref qf14, .ref qf15, .int v16, .int v17, .int v18, .int v19, .int v20])), (qf8, .inl (cf8, 256, .inl f8)), (qf13, .inl (cf13, 6400, .inl g13_17))]) (w1 := [(qf5, .inr (3, [.ref qf5_0, .int v5_1, .int v5_2, .int v5_3, .ref qf5_4, .ref qf5_5, .ref qf5_6, .int v5_7, .int v5_8, .int v5_9, .int v5_10, .ref qf5_11, .int v5_12, .ref qf5_13])), (qf5_0, .inl (cf5_0, nb, .inl f5_0))]) hP hD [1, 2] [0, 3, 4] rfl rfl (by decide) (by decide) hk1 hFc hP1 hD1
      clear hP hD
      obtain ⟨hP, hD⟩ := hPD
      replace hK := (hK.sub (tys' := [(cf8, .int), (cf13, .int)]) [1, 2] rfl).app hK1
      clear hPc hDc hKc hFc hP1 hK1 hD1 hz1 hk1 ht hvm
      generalize H1 = H at hP hS ⊢
      replace hP : va_P (dC, dI) vwCl [(h0, .inr (11, [.ref qf0, .ref qf1, .int v2, .int v3, .int v4, .ref qf5, .int v6, .int v7, .ref qf8, .ref qf9, .ref qf10, .ref qf11, .ref qf12, .ref qf13, .ref qf14, .ref qf15, .int v16, .int v17, .int v18, .int v19, .int v20])), (qf8, .inl (cf8, 256, .inl f8)), (qf13, .inl (cf13, 6400, .inl g13_17)), (qf5, .inr (3, [.ref qf5_0, .int v5_1, .int v5_2, .int v5_3, .ref qf5_4, .ref qf5_5, .ref qf5_6, .int v5_7, .int v5_8, .int v5_9, .int v5_10, .ref qf5_11, .int v5_12, .ref qf5_13])), (qf5_0, .inl (cf5_0, nb, .inl f5_0))] H := hP
      replace hD : va_D A [(h0, .inr (11, [.ref qf0, .ref qf1, .int v2, .int v3, .int v4, .ref qf5, .int v6, .int v7, .ref qf8, .ref qf9, .ref qf10, .ref qf11, .ref qf12, .ref qf13, .ref qf14, .ref qf15, .int v16, .int v17, .int v18, .int v19, .int v20])), (qf8, .inl (cf8, 256, .inl f8)), (qf13, .inl (cf13, 6400, .inl g13_17)), (qf5, .inr (3, [.ref qf5_0, .int v5_1, .int v5_2, .int v5_3, .ref qf5_4, .ref qf5_5, .ref qf5_6, .int v5_7, .int v5_8, .int v5_9, .int v5_10, .ref qf5_11, .int v5_12, .ref qf5_13])), (qf5_0, .inl (cf5_0, nb, .inl f5_0))] := hD
      replace hK : va_K (dC, dI) vwCl [(cf8, .int), (cf13, .int), (cf5_0, .byte)] s := hK
      obtain rfl := hw
      refine lv_istore (lv' := [(6, .int u2_0), (5, .int l5_17), (4, .int l4_17), (3, .int l3_17), (0, .ref h0), (1, .int l1_17), (2, .int l2_17)]) hx hb dX11_takeTypes_32 hl (by decide) rfl (fun ls hl => ?_)
      refine lv_iload hx hb dX11_takeTypes_34 (lv_at hl 1 rfl) ?_
      refine lv_bipush (v := 30) hx hb dX11_takeTypes_36 (by decide) ?_
      refine lv_icmp_ge (tgt := 67) hx hb dX11_takeTypes_38 (by decide) (fun c_4 => ?_) (fun c_4 => ?_)
      · rw [if_pos c_4] at hsp
        refine lv_iload hx hb dX11_takeTypes_67 (lv_at hl 2 rfl) ?_
        refine lv_iload hx hb dX11_takeTypes_69 (lv_at hl 0 rfl) ?_
        refine lv_iconst (v := 3) hx hb dX11_takeTypes_71 (by decide) ?_
        refine lv_icmp_ne (tgt := 79) hx hb dX11_takeTypes_72 (by decide) (fun c_5 => ?_) (fun c_5 => ?_)
        · rw [if_neg c_5] at hsp
          refine lv_iconst (v := 1) hx hb dX11_takeTypes_79 (by decide) ?_
          refine lv_iadd hx hb dX11_takeTypes_80 ?_
          refine lv_istore (lv' := [(4, .int (l4_17 + 1)), (6, .int u2_0), (5, .int l5_17), (3, .int l3_17), (0, .ref h0), (1, .int l1_17), (2, .int l2_17)]) hx hb dX11_takeTypes_81 hl (by decide) rfl (fun ls hl => ?_)
          refine lv_iinc (v := (l5_17 + 1)) (lv' := [(5, .int (l5_17 + 1)), (4, .int (l4_17 + 1)), (6, .int u2_0), (3, .int l3_17), (0, .ref h0), (1, .int l1_17), (2, .int l2_17)]) hx hb dX11_takeTypes_83 hl (k := 2) rfl rfl (by decide) rfl (fun ls hl => ?_)
          refine lv_goto (tgt := 17) hx hb dX11_takeTypes_86 (by decide) ?_
          exact ih_17 H locs ls l1_17 l2_17 l3_17 (l4_17 + 1) (l5_17 + 1) g13_17 (lv_sub hl [0, 1, 3, 4, 5, 6] rfl) hS (hD.sub (ws' := [(h0, .inr (11, [.ref qf0, .ref qf1, .int v2, .int v3, .int v4, .ref qf5, .int v6, .int v7, .ref qf8, .ref qf9, .ref qf10, .ref qf11, .ref qf12, .ref qf13, .ref qf14, .ref qf15, .int v16, .int v17, .int v18, .int v19, .int v20])), (qf5, .inr (3, [.ref qf5_0, .int v5_1, .int v5_2, .int v5_3, .ref qf5_4, .ref qf5_5, .ref qf5_6, .int v5_7, .int v5_8, .int v5_9, .int v5_10, .ref qf5_11, .int v5_12, .ref qf5_13])), (qf5_0, .inl (cf5_0, nb, .inl f5_0)), (qf8, .inl (cf8, 256, .inl f8)), (qf13, .inl (cf13, 6400, .inl g13_17))]) [0, 3, 4, 1, 2] (by decide) rfl) (hP.sub (ws' := [(h0, .inr (11, [.ref qf0, .ref qf1, .int v2, .int v3, .int v4, .ref qf5, .int v6, .int v7, .ref qf8, .ref qf9, .ref qf10, .ref qf11, .ref qf12, .ref qf13, .ref qf14, .ref qf15, .int v16, .int v17, .int v18, .int v19, .int v20])), (qf5, .inr (3, [.ref qf5_0, .int v5_1, .int v5_2, .int v5_3, .ref qf5_4, .ref qf5_5, .ref qf5_6, .int v5_7, .int v5_8, .int v5_9, .int v5_10, .ref qf5_11, .int v5_12, .ref qf5_13])), (qf5_0, .inl (cf5_0, nb, .inl f5_0)), (qf8, .inl (cf8, 256, .inl f8)), (qf13, .inl (cf13, 6400, .inl g13_17))]) [0, 3, 4, 1, 2] rfl) hsp
        · rw [if_pos c_5] at hsp
          refine lv_iconst (v := 2) hx hb dX11_takeTypes_75 (by decide) ?_
          refine lv_goto (tgt := 80) hx hb dX11_takeTypes_76 (by decide) ?_
          refine lv_iadd hx hb dX11_takeTypes_80 ?_
          refine lv_istore (lv' := [(4, .int (l4_17 + 2)), (6, .int u2_0), (5, .int l5_17), (3, .int l3_17), (0, .ref h0), (1, .int l1_17), (2, .int l2_17)]) hx hb dX11_takeTypes_81 hl (by decide) rfl (fun ls hl => ?_)
          refine lv_iinc (v := (l5_17 + 1)) (lv' := [(5, .int (l5_17 + 1)), (4, .int (l4_17 + 2)), (6, .int u2_0), (3, .int l3_17), (0, .ref h0), (1, .int l1_17), (2, .int l2_17)]) hx hb dX11_takeTypes_83 hl (k := 2) rfl rfl (by decide) rfl (fun ls hl => ?_)
          refine lv_goto (tgt := 17) hx hb dX11_takeTypes_86 (by decide) ?_
          exact ih_17 H locs ls l1_17 l2_17 l3_17 (l4_17 + 2) (l5_17 + 1) g13_17 (lv_sub hl [0, 1, 3, 4, 5, 6] rfl) hS (hD.sub (ws' := [(h0, .inr (11, [.ref qf0, .ref qf1, .int v2, .int v3, .int v4, .ref qf5, .int v6, .int v7, .ref qf8, .ref qf9, .ref qf10, .ref qf11, .ref qf12, .ref qf13, .ref qf14, .ref qf15, .int v16, .int v17, .int v18, .int v19, .int v20])), (qf5, .inr (3, [.ref qf5_0, .int v5_1, .int v5_2, .int v5_3, .ref qf5_4, .ref qf5_5, .ref qf5_6, .int v5_7, .int v5_8, .int v5_9, .int v5_10, .ref qf5_11, .int v5_12, .ref qf5_13])), (qf5_0, .inl (cf5_0, nb, .inl f5_0)), (qf8, .inl (cf8, 256, .inl f8)), (qf13, .inl (cf13, 6400, .inl g13_17))]) [0, 3, 4, 1, 2] (by decide) rfl) (hP.sub (ws' := [(h0, .inr (11, [.ref qf0, .ref qf1, .int v2, .int v3, .int v4, .ref qf5, .int v6, .int v7, .ref qf8, .ref qf9, .ref qf10, .ref qf11, .ref qf12, .ref qf13, .ref qf14, .ref qf15, .int v16, .int v17, .int v18, .int v19, .int v20])), (qf5, .inr (3, [.ref qf5_0, .int v5_1, .int v5_2, .int v5_3, .ref qf5_4, .ref qf5_5, .ref qf5_6, .int v5_7, .int v5_8, .int v5_9, .int v5_10, .ref qf5_11, .int v5_12, .ref qf5_13])), (qf5_0, .inl (cf5_0, nb, .inl f5_0)), (qf8, .inl (cf8, 256, .inl f8)), (qf13, .inl (cf13, 6400, .inl g13_17))]) [0, 3, 4, 1, 2] rfl) hsp
      · rw [if_neg c_4] at hsp
        refine lv_aload_n hx hb dX11_takeTypes_41 rfl (lv_at hl 4 rfl) ?_
        refine va_get (D := (dC, dI)) (ci := 11) (v := .ref qf13) (C := RX11) (T := TX11) (N := 21) hx hb hts uV_h3_X11 hown hK hP 0 rfl rfl 13 (by decide) (hts (.fieldLink RX11 41 "ClassMill$Verifier" "frames" "[I") mw_h3_194) (fun _ h9 => h9) rfl dX11_takeTypes_42 ?_
        refine lv_iload_n hx hb dX11_takeTypes_45 rfl (lv_at hl 6 rfl) ?_
        refine lv_iload hx hb dX11_takeTypes_46 (lv_at hl 1 rfl) ?_
        refine lv_iadd hx hb dX11_takeTypes_48 ?_
        refine lv_aload_n hx hb dX11_takeTypes_49 rfl (lv_at hl 4 rfl) ?_
        refine lv_iload hx hb dX11_takeTypes_50 (lv_at hl 0 rfl) ?_
        refine lv_aload_n hx hb dX11_takeTypes_52 rfl (lv_at hl 4 rfl) ?_
        refine va_get (D := (dC, dI)) (ci := 11) (v := .ref qf5) (C := RX11) (T := TX11) (N := 21) hx hb hts uV_h3_X11 hown hK hP 0 rfl rfl 5 (by decide) (hts (.fieldLink RX11 62 "ClassMill$Verifier" "image" "LClassMill$Image;") mw_h3_161) (fun _ h9 => h9) rfl dX11_takeTypes_53 ?_
        refine lv_iload hx hb dX11_takeTypes_56 (lv_at hl 2 rfl) ?_
        refine lv_iconst (v := 1) hx hb dX11_takeTypes_58 (by decide) ?_
        refine lv_iadd hx hb dX11_takeTypes_59 ?_
        obtain ⟨u3_0, hu_3, hsp⟩ := ox_bind hsp
        try dsimp only at hsp
        have hPc := hP.sub (ws' := [(qf5, .inr (3, [.ref qf5_0, .int v5_1, .int v5_2, .int v5_3, .ref qf5_4, .ref qf5_5, .ref qf5_6, .int v5_7, .int v5_8, .int v5_9, .int v5_10, .ref qf5_11, .int v5_12, .ref qf5_13])), (qf5_0, .inl (cf5_0, nb, .inl f5_0))]) [3, 4] rfl
        have hDc := hD.sub (ws' := [(qf5, .inr (3, [.ref qf5_0, .int v5_1, .int v5_2, .int v5_3, .ref qf5_4, .ref qf5_5, .ref qf5_6, .int v5_7, .int v5_8, .int v5_9, .int v5_10, .ref qf5_11, .int v5_12, .ref qf5_13])), (qf5_0, .inl (cf5_0, nb, .inl f5_0))]) [3, 4] (by decide) rfl
        have hKc := hK.sub (tys' := [(cf5_0, .byte)]) [2] rfl
        have hFc := va_free (wc := [(qf5, .inr (3, [.ref qf5_0, .int v5_1, .int v5_2, .int v5_3, .ref qf5_4, .ref qf5_5, .ref qf5_6, .int v5_7, .int v5_8, .int v5_9, .int v5_10, .ref qf5_11, .int v5_12, .ref qf5_13])), (qf5_0, .inl (cf5_0, nb, .inl f5_0))]) hD hS hA [3, 4] rfl
        refine va_calli (va_runV (As := [.int (l4_17 + 1)]) (rest := [.int u2_0, .ref h0, .int (l2_17 + l5_17), .ref qf13]) ⟨hx, hb, hml, hown, hts⟩ (ti_byteAt l dC dI H.size qf5 ((l4_17 + 1)) qf5_0 v5_1 v5_2 v5_3 qf5_4 qf5_5 qf5_6 v5_7 v5_8 v5_9 v5_10 qf5_11 v5_12 qf5_13 cf5_0 nb f5_0 nf u3_0 hu_3) (cwV 1 hts gv_h3_34 rfl rfl rfl (by decide +kernel) ⟨Nat.le_of_ble_eq_true rfl, Nat.le_of_ble_eq_true rfl⟩) ⟨fun a U g mk q => by obtain ⟨q0, q1, qP, qK, qD⟩ := q; exact ⟨q0, q1, qP, va_K.moved (u := U) (U := U.calling g mk a) (Vm.Alike.refl U.vm) qK, qD⟩, va_recv hKc hPc (ci := 3) (q0 := 0) rfl rfl, fun U hU hW => ⟨rfl, by rw [hU], by rw [hU]; exact hPc, va_K.moved hW.alike hKc, hDc.weaken (fun _ _ _ _ => trivial)⟩⟩ rfl rfl hl.1 rfl (lv_room (Nat.le_of_ble_eq_true rfl)) dX11_takeTypes_60 ⟨Nat.le_of_ble_eq_true rfl, Nat.le_of_ble_eq_true rfl⟩) hS (fun q _ h => hFc q h) hFc ?_
        clear hS
        intro r_6 u t H1 locs ht hvm hw hB hz1 hk1 hS
        obtain ⟨⟩ := u
        obtain ⟨hP1, hK1, hD1⟩ := hB
        rw [ht] at hP1
        have hK1 := va_K.moved hvm.symm hK1
        try dsimp only at hw
        have hPD := va_join (wr := [(h0, .inr (11, [.ref qf0, .ref qf1, .int v2, .int v3, .int v4, .ref qf5, .int v6, .int v7, .ref qf8, .ref qf9, .ref qf10, .ref qf11, .ref qf12, .ref qf13, .ref qf14, .ref qf15, .int v16, .int v17, .int v18, .int v19, .int v20])), (qf8, .inl (cf8, 256, .inl f8)), (qf13, .inl (cf13, 6400, .inl g13_17))]) (w1 := [(qf5, .inr (3, [.ref qf5_0, .int v5_1, .int v5_2, .int v5_3, .ref qf5_4, .ref qf5_5, .ref qf5_6, .int v5_7, .int v5_8, .int v5_9, .int v5_10, .ref qf5_11, .int v5_12, .ref qf5_13])), (qf5_0, .inl (cf5_0, nb, .inl f5_0))]) hP hD [3, 4] [0, 1, 2] rfl rfl (by decide) (by decide) hk1 hFc hP1 hD1
        clear hP hD
        obtain ⟨hP, hD⟩ := hPD
        replace hK := (hK.sub (tys' := [(cf8, .int), (cf13, .int)]) [0, 1] rfl).app hK1
        clear hPc hDc hKc hFc hP1 hK1 hD1 hz1 hk1 ht hvm
        generalize H1 = H at hP hS ⊢
        replace hP : va_P (dC, dI) vwCl [(h0, .inr (11, [.ref qf0, .ref qf1, .int v2, .int v3, .int v4, .ref qf5, .int v6, .int v7, .ref qf8, .ref qf9, .ref qf10, .ref qf11, .ref qf12, .ref qf13, .ref qf14, .ref qf15, .int v16, .int v17, .int v18, .int v19, .int v20])), (qf8, .inl (cf8, 256, .inl f8)), (qf13, .inl (cf13, 6400, .inl g13_17)), (qf5, .inr (3, [.ref qf5_0, .int v5_1, .int v5_2, .int v5_3, .ref qf5_4, .ref qf5_5, .ref qf5_6, .int v5_7, .int v5_8, .int v5_9, .int v5_10, .ref qf5_11, .int v5_12, .ref qf5_13])), (qf5_0, .inl (cf5_0, nb, .inl f5_0))] H := hP
        replace hD : va_D A [(h0, .inr (11, [.ref qf0, .ref qf1, .int v2, .int v3, .int v4, .ref qf5, .int v6, .int v7, .ref qf8, .ref qf9, .ref qf10, .ref qf11, .ref qf12, .ref qf13, .ref qf14, .ref qf15, .int v16, .int v17, .int v18, .int v19, .int v20])), (qf8, .inl (cf8, 256, .inl f8)), (qf13, .inl (cf13, 6400, .inl g13_17)), (qf5, .inr (3, [.ref qf5_0, .int v5_1, .int v5_2, .int v5_3, .ref qf5_4, .ref qf5_5, .ref qf5_6, .int v5_7, .int v5_8, .int v5_9, .int v5_10, .ref qf5_11, .int v5_12, .ref qf5_13])), (qf5_0, .inl (cf5_0, nb, .inl f5_0))] := hD
        replace hK : va_K (dC, dI) vwCl [(cf8, .int), (cf13, .int), (cf5_0, .byte)] s := hK
        obtain rfl := hw
        obtain ⟨u4_0, hu_4, hsp⟩ := ox_bind hsp
        try dsimp only at hsp
        have hPc := hP.sub (ws' := [(h0, .inr (11, [.ref qf0, .ref qf1, .int v2, .int v3, .int v4, .ref qf5, .int v6, .int v7, .ref qf8, .ref qf9, .ref qf10, .ref qf11, .ref qf12, .ref qf13, .ref qf14, .ref qf15, .int v16, .int v17, .int v18, .int v19, .int v20])), (qf8, .inl (cf8, 256, .inl f8))]) [0, 1] rfl
        have hDc := hD.sub (ws' := [(h0, .inr (11, [.ref qf0, .ref qf1, .int v2, .int v3, .int v4, .ref qf5, .int v6, .int v7, .ref qf8, .ref qf9, .ref qf10, .ref qf11, .ref qf12, .ref qf13, .ref qf14, .ref qf15, .int v16, .int v17, .int v18, .int v19, .int v20])), (qf8, .inl (cf8, 256, .inl f8))]) [0, 1] (by decide) rfl
        have hKc := hK.sub (tys' := [(cf8, .int)]) [0] rfl
        have hFc := va_free (wc := [(h0, .inr (11, [.ref qf0, .ref qf1, .int v2, .int v3, .int v4, .ref qf5, .int v6, .int v7, .ref qf8, .ref qf9, .ref qf10, .ref qf11, .ref qf12, .ref qf13, .ref qf14, .ref qf15, .int v16, .int v17, .int v18, .int v19, .int v20])), (qf8, .inl (cf8, 256, .inl f8))]) hD hS hA [0, 1] rfl
        refine va_calli (va_runV (As := [.int u2_0, .int u3_0]) (rest := [.int (l2_17 + l5_17), .ref qf13]) ⟨hx, hb, hml, hown, hts⟩ (t11_typeOfTag l dC dI H.size h0 u2_0 u3_0 qf0 qf1 v2 v3 v4 qf5 v6 v7 qf8 qf9 qf10 qf11 qf12 qf13 qf14 qf15 v16 v17 v18 v19 v20 cf8 f8 nf u4_0 hu_4) (cwV 2 hts gv_h3_58 rfl rfl rfl (by decide +kernel) ⟨Nat.le_of_ble_eq_true rfl, Nat.le_of_ble_eq_true rfl⟩) ⟨fun a U g mk q => by obtain ⟨q0, q1, qP, qK, qD⟩ := q; exact ⟨q0, q1, qP, va_K.moved (u := U) (U := U.calling g mk a) (Vm.Alike.refl U.vm) qK, qD⟩, va_recv hKc hPc (ci := 11) (q0 := 0) rfl rfl, fun U hU hW => ⟨rfl, by rw [hU], by rw [hU]; exact hPc, va_K.moved hW.alike hKc, hDc.weaken (fun _ _ _ _ => trivial)⟩⟩ rfl rfl hl.1 rfl (lv_room (Nat.le_of_ble_eq_true rfl)) dX11_takeTypes_63 ⟨Nat.le_of_ble_eq_true rfl, Nat.le_of_ble_eq_true rfl⟩) hS (fun q _ h => hFc q h) hFc ?_
        clear hS
        intro r_7 u t H1 locs ht hvm hw hB hz1 hk1 hS
        obtain ⟨⟩ := u
        obtain ⟨hP1, hK1, hD1⟩ := hB
        rw [ht] at hP1
        have hK1 := va_K.moved hvm.symm hK1
        try dsimp only at hw
        have hPD := va_join (wr := [(qf13, .inl (cf13, 6400, .inl g13_17)), (qf5, .inr (3, [.ref qf5_0, .int v5_1, .int v5_2, .int v5_3, .ref qf5_4, .ref qf5_5, .ref qf5_6, .int v5_7, .int v5_8, .int v5_9, .int v5_10, .ref qf5_11, .int v5_12, .ref qf5_13])), (qf5_0, .inl (cf5_0, nb, .inl f5_0))]) (w1 := [(h0, .inr (11, [.ref qf0, .ref qf1, .int v2, .int v3, .int v4, .ref qf5, .int v6, .int v7, .ref qf8, .ref qf9, .ref qf10, .ref qf11, .ref qf12, .ref qf13, .ref qf14, .ref qf15, .int v16, .int v17, .int v18, .int v19, .int v20])), (qf8, .inl (cf8, 256, .inl f8))]) hP hD [0, 1] [2, 3, 4] rfl rfl (by decide) (by decide) hk1 hFc hP1 hD1
        clear hP hD
        obtain ⟨hP, hD⟩ := hPD
        replace hK := (hK.sub (tys' := [(cf13, .int), (cf5_0, .byte)]) [1, 2] rfl).app hK1
        clear hPc hDc hKc hFc hP1 hK1 hD1 hz1 hk1 ht hvm
        generalize H1 = H at hP hS ⊢
        replace hP : va_P (dC, dI) vwCl [(qf13, .inl (cf13, 6400, .inl g13_17)), (qf5, .inr (3, [.ref qf5_0, .int v5_1, .int v5_2, .int v5_3, .ref qf5_4, .ref qf5_5, .ref qf5_6, .int v5_7, .int v5_8, .int v5_9, .int v5_10, .ref qf5_11, .int v5_12, .ref qf5_13])), (qf5_0, .inl (cf5_0, nb, .inl f5_0)), (h0, .inr (11, [.ref qf0, .ref qf1, .int v2, .int v3, .int v4, .ref qf5, .int v6, .int v7, .ref qf8, .ref qf9, .ref qf10, .ref qf11, .ref qf12, .ref qf13, .ref qf14, .ref qf15, .int v16, .int v17, .int v18, .int v19, .int v20])), (qf8, .inl (cf8, 256, .inl f8))] H := hP
        replace hD : va_D A [(qf13, .inl (cf13, 6400, .inl g13_17)), (qf5, .inr (3, [.ref qf5_0, .int v5_1, .int v5_2, .int v5_3, .ref qf5_4, .ref qf5_5, .ref qf5_6, .int v5_7, .int v5_8, .int v5_9, .int v5_10, .ref qf5_11, .int v5_12, .ref qf5_13])), (qf5_0, .inl (cf5_0, nb, .inl f5_0)), (h0, .inr (11, [.ref qf0, .ref qf1, .int v2, .int v3, .int v4, .ref qf5, .int v6, .int v7, .ref qf8, .ref qf9, .ref qf10, .ref qf11, .ref qf12, .ref qf13, .ref qf14, .ref qf15, .int v16, .int v17, .int v18, .int v19, .int v20])), (qf8, .inl (cf8, 256, .inl f8))] := hD
        replace hK : va_K (dC, dI) vwCl [(cf13, .int), (cf5_0, .byte), (cf8, .int)] s := hK
        obtain rfl := hw
        obtain ⟨hi_8, hsp⟩ := ox_in hsp
        refine va_iast hx hb hK hP hD hS 0 0 rfl rfl (i := (l2_17 + l5_17)) (x := u4_0) hi_8 dX11_takeTypes_66 ?_
        clear hP hD hS
        intro H locs hP hD hS
        replace hP : va_P (dC, dI) vwCl [(qf13, .inl (cf13, 6400, .inl (upd g13_17 ((l2_17 + l5_17) : Int32).toNatClampNeg u4_0))), (qf5, .inr (3, [.ref qf5_0, .int v5_1, .int v5_2, .int v5_3, .ref qf5_4, .ref qf5_5, .ref qf5_6, .int v5_7, .int v5_8, .int v5_9, .int v5_10, .ref qf5_11, .int v5_12, .ref qf5_13])), (qf5_0, .inl (cf5_0, nb, .inl f5_0)), (h0, .inr (11, [.ref qf0, .ref qf1, .int v2, .int v3, .int v4, .ref qf5, .int v6, .int v7, .ref qf8, .ref qf9, .ref qf10, .ref qf11, .ref qf12, .ref qf13, .ref qf14, .ref qf15, .int v16, .int v17, .int v18, .int v19, .int v20])), (qf8, .inl (cf8, 256, .inl f8))] H := hP
        replace hD : va_D A [(qf13, .inl (cf13, 6400, .inl (upd g13_17 ((l2_17 + l5_17) : Int32).toNatClampNeg u4_0))), (qf5, .inr (3, [.ref qf5_0, .int v5_1, .int v5_2, .int v5_3, .ref qf5_4, .ref qf5_5, .ref qf5_6, .int v5_7, .int v5_8, .int v5_9, .int v5_10, .ref qf5_11, .int v5_12, .ref qf5_13])), (qf5_0, .inl (cf5_0, nb, .inl f5_0)), (h0, .inr (11, [.ref qf0, .ref qf1, .int v2, .int v3, .int v4, .ref qf5, .int v6, .int v7, .ref qf8, .ref qf9, .ref qf10, .ref qf11, .ref qf12, .ref qf13, .ref qf14, .ref qf15, .int v16, .int v17, .int v18, .int v19, .int v20])), (qf8, .inl (cf8, 256, .inl f8))] := hD
        refine lv_iload hx hb dX11_takeTypes_67 (lv_at hl 2 rfl) ?_
        refine lv_iload hx hb dX11_takeTypes_69 (lv_at hl 0 rfl) ?_
        refine lv_iconst (v := 3) hx hb dX11_takeTypes_71 (by decide) ?_
        refine lv_icmp_ne (tgt := 79) hx hb dX11_takeTypes_72 (by decide) (fun c_9 => ?_) (fun c_9 => ?_)
        · rw [if_neg c_9] at hsp
          refine lv_iconst (v := 1) hx hb dX11_takeTypes_79 (by decide) ?_
          refine lv_iadd hx hb dX11_takeTypes_80 ?_
          refine lv_istore (lv' := [(4, .int (l4_17 + 1)), (6, .int u2_0), (5, .int l5_17), (3, .int l3_17), (0, .ref h0), (1, .int l1_17), (2, .int l2_17)]) hx hb dX11_takeTypes_81 hl (by decide) rfl (fun ls hl => ?_)
          refine lv_iinc (v := (l5_17 + 1)) (lv' := [(5, .int (l5_17 + 1)), (4, .int (l4_17 + 1)), (6, .int u2_0), (3, .int l3_17), (0, .ref h0), (1, .int l1_17), (2, .int l2_17)]) hx hb dX11_takeTypes_83 hl (k := 2) rfl rfl (by decide) rfl (fun ls hl => ?_)
          refine lv_goto (tgt := 17) hx hb dX11_takeTypes_86 (by decide) ?_
          exact ih_17 H locs ls l1_17 l2_17 l3_17 (l4_17 + 1) (l5_17 + 1) (upd g13_17 ((l2_17 + l5_17) : Int32).toNatClampNeg u4_0) (lv_sub hl [0, 1, 3, 4, 5, 6] rfl) hS (hD.sub (ws' := [(h0, .inr (11, [.ref qf0, .ref qf1, .int v2, .int v3, .int v4, .ref qf5, .int v6, .int v7, .ref qf8, .ref qf9, .ref qf10, .ref qf11, .ref qf12, .ref qf13, .ref qf14, .ref qf15, .int v16, .int v17, .int v18, .int v19, .int v20])), (qf5, .inr (3, [.ref qf5_0, .int v5_1, .int v5_2, .int v5_3, .ref qf5_4, .ref qf5_5, .ref qf5_6, .int v5_7, .int v5_8, .int v5_9, .int v5_10, .ref qf5_11, .int v5_12, .ref qf5_13])), (qf5_0, .inl (cf5_0, nb, .inl f5_0)), (qf8, .inl (cf8, 256, .inl f8)), (qf13, .inl (cf13, 6400, .inl (upd g13_17 ((l2_17 + l5_17) : Int32).toNatClampNeg u4_0)))]) [3, 1, 2, 4, 0] (by decide) rfl) (hP.sub (ws' := [(h0, .inr (11, [.ref qf0, .ref qf1, .int v2, .int v3, .int v4, .ref qf5, .int v6, .int v7, .ref qf8, .ref qf9, .ref qf10, .ref qf11, .ref qf12, .ref qf13, .ref qf14, .ref qf15, .int v16, .int v17, .int v18, .int v19, .int v20])), (qf5, .inr (3, [.ref qf5_0, .int v5_1, .int v5_2, .int v5_3, .ref qf5_4, .ref qf5_5, .ref qf5_6, .int v5_7, .int v5_8, .int v5_9, .int v5_10, .ref qf5_11, .int v5_12, .ref qf5_13])), (qf5_0, .inl (cf5_0, nb, .inl f5_0)), (qf8, .inl (cf8, 256, .inl f8)), (qf13, .inl (cf13, 6400, .inl (upd g13_17 ((l2_17 + l5_17) : Int32).toNatClampNeg u4_0)))]) [3, 1, 2, 4, 0] rfl) hsp
        · rw [if_pos c_9] at hsp
          refine lv_iconst (v := 2) hx hb dX11_takeTypes_75 (by decide) ?_
          refine lv_goto (tgt := 80) hx hb dX11_takeTypes_76 (by decide) ?_
          refine lv_iadd hx hb dX11_takeTypes_80 ?_
          refine lv_istore (lv' := [(4, .int (l4_17 + 2)), (6, .int u2_0), (5, .int l5_17), (3, .int l3_17), (0, .ref h0), (1, .int l1_17), (2, .int l2_17)]) hx hb dX11_takeTypes_81 hl (by decide) rfl (fun ls hl => ?_)
          refine lv_iinc (v := (l5_17 + 1)) (lv' := [(5, .int (l5_17 + 1)), (4, .int (l4_17 + 2)), (6, .int u2_0), (3, .int l3_17), (0, .ref h0), (1, .int l1_17), (2, .int l2_17)]) hx hb dX11_takeTypes_83 hl (k := 2) rfl rfl (by decide) rfl (fun ls hl => ?_)
          refine lv_goto (tgt := 17) hx hb dX11_takeTypes_86 (by decide) ?_
          exact ih_17 H locs ls l1_17 l2_17 l3_17 (l4_17 + 2) (l5_17 + 1) (upd g13_17 ((l2_17 + l5_17) : Int32).toNatClampNeg u4_0) (lv_sub hl [0, 1, 3, 4, 5, 6] rfl) hS (hD.sub (ws' := [(h0, .inr (11, [.ref qf0, .ref qf1, .int v2, .int v3, .int v4, .ref qf5, .int v6, .int v7, .ref qf8, .ref qf9, .ref qf10, .ref qf11, .ref qf12, .ref qf13, .ref qf14, .ref qf15, .int v16, .int v17, .int v18, .int v19, .int v20])), (qf5, .inr (3, [.ref qf5_0, .int v5_1, .int v5_2, .int v5_3, .ref qf5_4, .ref qf5_5, .ref qf5_6, .int v5_7, .int v5_8, .int v5_9, .int v5_10, .ref qf5_11, .int v5_12, .ref qf5_13])), (qf5_0, .inl (cf5_0, nb, .inl f5_0)), (qf8, .inl (cf8, 256, .inl f8)), (qf13, .inl (cf13, 6400, .inl (upd g13_17 ((l2_17 + l5_17) : Int32).toNatClampNeg u4_0)))]) [3, 1, 2, 4, 0] (by decide) rfl) (hP.sub (ws' := [(h0, .inr (11, [.ref qf0, .ref qf1, .int v2, .int v3, .int v4, .ref qf5, .int v6, .int v7, .ref qf8, .ref qf9, .ref qf10, .ref qf11, .ref qf12, .ref qf13, .ref qf14, .ref qf15, .int v16, .int v17, .int v18, .int v19, .int v20])), (qf5, .inr (3, [.ref qf5_0, .int v5_1, .int v5_2, .int v5_3, .ref qf5_4, .ref qf5_5, .ref qf5_6, .int v5_7, .int v5_8, .int v5_9, .int v5_10, .ref qf5_11, .int v5_12, .ref qf5_13])), (qf5_0, .inl (cf5_0, nb, .inl f5_0)), (qf8, .inl (cf8, 256, .inl f8)), (qf13, .inl (cf13, 6400, .inl (upd g13_17 ((l2_17 + l5_17) : Int32).toNatClampNeg u4_0)))]) [3, 1, 2, 4, 0] rfl) hsp
def lp_t11_proveHandlers_2 (nf n : Nat) (v6 : Int32) (v7 : Int32) (v16 : Int32) (v5_1 : Int32) (v5_12 : Int32) (f5_13 : Nat → Int32) (nb : Nat) (f5_0 : Nat → Int32) (f12 : Nat → Int32) (f8 : Nat → Int32) (f1_1 : Nat → Int32)  (l1_2 : Int32) (x7_2 : Int32) : Option (Int32 × Int32) := match n with
  | 0 => none
  | n + 1 => ((sp_t11_info nf 7 v6 v5_12 f5_13).bind (fun p1 => (if p1 ≤ l1_2 then (some (0, x7_2)) else ((sp_t11_handler nf l1_2 0 v6 v5_1 v5_12 f5_13 nb f5_0).bind (fun p2 => ((sp_t11_handler nf l1_2 2 v6 v5_1 v5_12 f5_13 nb f5_0).bind (fun p3 => ((sp_t11_handler nf l1_2 4 v6 v5_1 v5_12 f5_13 nb f5_0).bind (fun p4 => ((sp_t11_begins nf p2 v16 f12).bind (fun p5 => (if p5 = 0 then ((sp_t11_at nf 8 l1_2).bind (fun p6 => (some (p6.1, p6.2)))) else ((sp_t11_begins nf p3 v16 f12).bind (fun p7 => (if p7 = 0 then (if p3 = v16 then (if p3 ≤ p2 then ((sp_t11_at nf 8 l1_2).bind (fun p9 => (some (p9.1, p9.2)))) else ((sp_t11_frameAt nf p4 v16 f12).bind (fun p10 => (if p10 < 0 then ((sp_t11_at nf 8 l1_2).bind (fun p11 => (some (p11.1, p11.2)))) else ((sp_t11_handlerClass nf l1_2 v6 v5_1 v5_12 f5_13 nb f5_0 f8).bind (fun p12 => ((sp_t4_fits nf p12 1 f1_1).bind (fun p13 => (if p13 = 0 then ((sp_t11_at nf 8 l1_2).bind (fun p14 => (some (p14.1, p14.2)))) else (lp_t11_proveHandlers_2 nf n v6 v7 v16 v5_1 v5_12 f5_13 nb f5_0 f12 f8 f1_1 (l1_2 + 1) x7_2)))))))))) else ((sp_t11_at nf 8 l1_2).bind (fun p8 => (some (p8.1, p8.2))))) else (if p3 ≤ p2 then ((sp_t11_at nf 8 l1_2).bind (fun p15 => (some (p15.1, p15.2)))) else ((sp_t11_frameAt nf p4 v16 f12).bind (fun p16 => (if p16 < 0 then ((sp_t11_at nf 8 l1_2).bind (fun p17 => (some (p17.1, p17.2)))) else ((sp_t11_handlerClass nf l1_2 v6 v5_1 v5_12 f5_13 nb f5_0 f8).bind (fun p18 => ((sp_t4_fits nf p18 1 f1_1).bind (fun p19 => (if p19 = 0 then ((sp_t11_at nf 8 l1_2).bind (fun p20 => (some (p20.1, p20.2)))) else (lp_t11_proveHandlers_2 nf n v6 v7 v16 v5_1 v5_12 f5_13 nb f5_0 f12 f8 f1_1 (l1_2 + 1) x7_2)))))))))))))))))))))))))
def sp_t11_proveHandlers (nf : Nat) (v6 : Int32) (v7 : Int32) (v16 : Int32) (v5_1 : Int32) (v5_12 : Int32) (f5_13 : Nat → Int32) (nb : Nat) (f5_0 : Nat → Int32) (f12 : Nat → Int32) (f8 : Nat → Int32) (f1_1 : Nat → Int32) : Option (Int32 × Int32) := (lp_t11_proveHandlers_2 nf nf v6 v7 v16 v5_1 v5_12 f5_13 nb f5_0 f12 f8 f1_1 0 v7)
set_option maxHeartbeats 4000000 in
set_option maxRecDepth 100000 in
/-- ClassMill$Verifier.proveHandlers -/
theorem t11_proveHandlers (l : Launch) (dC : Nat → ClassId) (dI : Nat → Nat → Nat) (sz : Nat) (h0 : Nat) (qf0 : Nat) (qf1 : Nat) (v2 : Int32) (v3 : Int32) (v4 : Int32) (qf5 : Nat) (v6 : Int32) (v7 : Int32) (qf8 : Nat) (qf9 : Nat) (qf10 : Nat) (qf11 : Nat) (qf12 : Nat) (qf13 : Nat) (qf14 : Nat) (qf15 : Nat) (v16 : Int32) (v17 : Int32) (v18 : Int32) (v19 : Int32) (v20 : Int32) (qf5_0 : Nat) (v5_1 : Int32) (v5_2 : Int32) (v5_3 : Int32) (qf5_4 : Nat) (qf5_5 : Nat) (qf5_6 : Nat) (v5_7 : Int32) (v5_8 : Int32) (v5_9 : Int32) (v5_10 : Int32) (qf5_11 : Nat) (v5_12 : Int32) (qf5_13 : Nat) (cf5_13 : ClassId) (f5_13 : (Nat → Int32)) (cf5_0 : ClassId) (nb : Nat) (f5_0 : (Nat → Int32)) (cf12 : ClassId) (f12 : (Nat → Int32)) (cf8 : ClassId) (f8 : (Nat → Int32)) (qf1_0 : Nat) (qf1_1 : Nat) (cf1_1 : ClassId) (f1_1 : (Nat → Int32)) (nf : Nat) (r0 : Int32) (w7 : Int32) (hsp : sp_t11_proveHandlers nf v6 v7 v16 v5_1 v5_12 f5_13 nb f5_0 f12 f8 f1_1 = some (r0, w7)) : Met l yX11_proveHandlers (.code yX11_proveHandlers cX11_proveHandlers 6 (some .int) :: VS_h3) ({ frames := 3, cells := 0, slots := 0, locals := 66 }) (va_Pc [.ref h0] (fun U => U.heap.size = sz ∧ va_P (dC, dI) vwCl [(h0, .inr (11, [.ref qf0, .ref qf1, .int v2, .int v3, .int v4, .ref qf5, .int v6, .int v7, .ref qf8, .ref qf9, .ref qf10, .ref qf11, .ref qf12, .ref qf13, .ref qf14, .ref qf15, .int v16, .int v17, .int v18, .int v19, .int v20])), (qf5, .inr (3, [.ref qf5_0, .int v5_1, .int v5_2, .int v5_3, .ref qf5_4, .ref qf5_5, .ref qf5_6, .int v5_7, .int v5_8, .int v5_9, .int v5_10, .ref qf5_11, .int v5_12, .ref qf5_13])), (qf5_13, .inl (cf5_13, 144, .inl f5_13)), (qf5_0, .inl (cf5_0, nb, .inl f5_0)), (qf12, .inl (cf12, 1500, .inl f12)), (qf8, .inl (cf8, 256, .inl f8)), (qf1, .inr (4, [.ref qf1_0, .ref qf1_1])), (qf1_1, .inl (cf1_1, 256, .inl f1_1))] U.heap ∧ va_K (dC, dI) vwCl [(cf5_13, .int), (cf5_0, .byte), (cf12, .int), (cf8, .int), (cf1_1, .boolean)] U ∧ va_D (fun _ => True) [(h0, .inr (11, [.ref qf0, .ref qf1, .int v2, .int v3, .int v4, .ref qf5, .int v6, .int v7, .ref qf8, .ref qf9, .ref qf10, .ref qf11, .ref qf12, .ref qf13, .ref qf14, .ref qf15, .int v16, .int v17, .int v18, .int v19, .int v20])), (qf5, .inr (3, [.ref qf5_0, .int v5_1, .int v5_2, .int v5_3, .ref qf5_4, .ref qf5_5, .ref qf5_6, .int v5_7, .int v5_8, .int v5_9, .int v5_10, .ref qf5_11, .int v5_12, .ref qf5_13])), (qf5_13, .inl (cf5_13, 144, .inl f5_13)), (qf5_0, .inl (cf5_0, nb, .inl f5_0)), (qf12, .inl (cf12, 1500, .inl f12)), (qf8, .inl (cf8, 256, .inl f8)), (qf1, .inr (4, [.ref qf1_0, .ref qf1_1])), (qf1_1, .inl (cf1_1, 256, .inl f1_1))])) (va_Qi (fun (r : Int32) (u : Unit) => match u with | () => r0 = r) (fun (u : Unit) (t : State) => match u with | () => va_P (dC, dI) vwCl [(h0, .inr (11, [.ref qf0, .ref qf1, .int v2, .int v3, .int v4, .ref qf5, .int v6, .int w7, .ref qf8, .ref qf9, .ref qf10, .ref qf11, .ref qf12, .ref qf13, .ref qf14, .ref qf15, .int v16, .int v17, .int v18, .int v19, .int v20])), (qf5, .inr (3, [.ref qf5_0, .int v5_1, .int v5_2, .int v5_3, .ref qf5_4, .ref qf5_5, .ref qf5_6, .int v5_7, .int v5_8, .int v5_9, .int v5_10, .ref qf5_11, .int v5_12, .ref qf5_13])), (qf5_13, .inl (cf5_13, 144, .inl f5_13)), (qf5_0, .inl (cf5_0, nb, .inl f5_0)), (qf12, .inl (cf12, 1500, .inl f12)), (qf8, .inl (cf8, 256, .inl f8)), (qf1, .inr (4, [.ref qf1_0, .ref qf1_1])), (qf1_1, .inl (cf1_1, 256, .inl f1_1))] t.heap ∧ va_K (dC, dI) vwCl [(cf5_13, .int), (cf5_0, .byte), (cf12, .int), (cf8, .int), (cf1_1, .boolean)] t ∧ va_D (va_A [(h0, .inr (11, [.ref qf0, .ref qf1, .int v2, .int v3, .int v4, .ref qf5, .int v6, .int v7, .ref qf8, .ref qf9, .ref qf10, .ref qf11, .ref qf12, .ref qf13, .ref qf14, .ref qf15, .int v16, .int v17, .int v18, .int v19, .int v20])), (qf5, .inr (3, [.ref qf5_0, .int v5_1, .int v5_2, .int v5_3, .ref qf5_4, .ref qf5_5, .ref qf5_6, .int v5_7, .int v5_8, .int v5_9, .int v5_10, .ref qf5_11, .int v5_12, .ref qf5_13])), (qf5_13, .inl (cf5_13, 144, .inl f5_13)), (qf5_0, .inl (cf5_0, nb, .inl f5_0)), (qf12, .inl (cf12, 1500, .inl f12)), (qf8, .inl (cf8, 256, .inl f8)), (qf1, .inr (4, [.ref qf1_0, .ref qf1_1])), (qf1_1, .inl (cf1_1, 256, .inl f1_1))] sz) [(h0, .inr (11, [.ref qf0, .ref qf1, .int v2, .int v3, .int v4, .ref qf5, .int v6, .int w7, .ref qf8, .ref qf9, .ref qf10, .ref qf11, .ref qf12, .ref qf13, .ref qf14, .ref qf15, .int v16, .int v17, .int v18, .int v19, .int v20])), (qf5, .inr (3, [.ref qf5_0, .int v5_1, .int v5_2, .int v5_3, .ref qf5_4, .ref qf5_5, .ref qf5_6, .int v5_7, .int v5_8, .int v5_9, .int v5_10, .ref qf5_11, .int v5_12, .ref qf5_13])), (qf5_13, .inl (cf5_13, 144, .inl f5_13)), (qf5_0, .inl (cf5_0, nb, .inl f5_0)), (qf12, .inl (cf12, 1500, .inl f12)), (qf8, .inl (cf8, 256, .inl f8)), (qf1, .inr (4, [.ref qf1_0, .ref qf1_1])), (qf1_1, .inl (cf1_1, 256, .inl f1_1))]) (va_A [(h0, .inr (11, [.ref qf0, .ref qf1, .int v2, .int v3, .int v4, .ref qf5, .int v6, .int v7, .ref qf8, .ref qf9, .ref qf10, .ref qf11, .ref qf12, .ref qf13, .ref qf14, .ref qf15, .int v16, .int v17, .int v18, .int v19, .int v20])), (qf5, .inr (3, [.ref qf5_0, .int v5_1, .int v5_2, .int v5_3, .ref qf5_4, .ref qf5_5, .ref qf5_6, .int v5_7, .int v5_8, .int v5_9, .int v5_10, .ref qf5_11, .int v5_12, .ref qf5_13])), (qf5_13, .inl (cf5_13, 144, .inl f5_13)), (qf5_0, .inl (cf5_0, nb, .inl f5_0)), (qf12, .inl (cf12, 1500, .inl f12)), (qf8, .inl (cf8, 256, .inl f8)), (qf1, .inr (4, [.ref qf1_0, .ref qf1_1])), (qf1_1, .inl (cf1_1, 256, .inl f1_1))] sz)) 0 0 (va_A [(h0, .inr (11, [.ref qf0, .ref qf1, .int v2, .int v3, .int v4, .ref qf5, .int v6, .int v7, .ref qf8, .ref qf9, .ref qf10, .ref qf11, .ref qf12, .ref qf13, .ref qf14, .ref qf15, .int v16, .int v17, .int v18, .int v19, .int v20])), (qf5, .inr (3, [.ref qf5_0, .int v5_1, .int v5_2, .int v5_3, .ref qf5_4, .ref qf5_5, .ref qf5_6, .int v5_7, .int v5_8, .int v5_9, .int v5_10, .ref qf5_11, .int v5_12, .ref qf5_13])), (qf5_13, .inl (cf5_13, 144, .inl f5_13)), (qf5_0, .inl (cf5_0, nb, .inl f5_0)), (qf12, .inl (cf12, 1500, .inl f12)), (qf8, .inl (cf8, 256, .inl f8)), (qf1, .inr (4, [.ref qf1_0, .ref qf1_1])), (qf1_1, .inl (cf1_1, 256, .inl f1_1))] sz) := by
  refine Met.ofW (cc := cX11_proveHandlers) (maxL := 6) (ret := (some .int)) (by decide) rfl ?_
  intro p e s m args below meth c s₁ B hml hv
  obtain ⟨rfl, hsz, hP, hK, hD0⟩ := hv
  have hx := B.exec
  have hb := B.bytes
  have hr := B.returns
  have hts := atoms_spec (ws := (.code yX11_proveHandlers cX11_proveHandlers 6 (some .int) :: VS_h3)) B.pre
  replace hts := fun w (h : w ∈ VS_h3) => hts w (List.mem_cons_of_mem _ h)
  have hown : s.vm.findClass RX11 = some m.cls := findClass_of_methodNamed B.named
  have hlocks := B.notSynchronized
  subst hsz
  have hD := hD0.self (sz := s.heap.size)
  generalize hAe : va_A [(h0, .inr (11, [.ref qf0, .ref qf1, .int v2, .int v3, .int v4, .ref qf5, .int v6, .int v7, .ref qf8, .ref qf9, .ref qf10, .ref qf11, .ref qf12, .ref qf13, .ref qf14, .ref qf15, .int v16, .int v17, .int v18, .int v19, .int v20])), (qf5, .inr (3, [.ref qf5_0, .int v5_1, .int v5_2, .int v5_3, .ref qf5_4, .ref qf5_5, .ref qf5_6, .int v5_7, .int v5_8, .int v5_9, .int v5_10, .ref qf5_11, .int v5_12, .ref qf5_13])), (qf5_13, .inl (cf5_13, 144, .inl f5_13)), (qf5_0, .inl (cf5_0, nb, .inl f5_0)), (qf12, .inl (cf12, 1500, .inl f12)), (qf8, .inl (cf8, 256, .inl f8)), (qf1, .inr (4, [.ref qf1_0, .ref qf1_1])), (qf1_1, .inl (cf1_1, 256, .inl f1_1))] s.heap.size = A at hD  ⊢
  have hA : ∀ q : Nat, s.heap.size ≤ q → A q := fun q h => by rw [← hAe]; exact Or.inr h
  have hP : va_P (dC, dI) vwCl [(h0, .inr (11, [.ref qf0, .ref qf1, .int v2, .int v3, .int v4, .ref qf5, .int v6, .int v7, .ref qf8, .ref qf9, .ref qf10, .ref qf11, .ref qf12, .ref qf13, .ref qf14, .ref qf15, .int v16, .int v17, .int v18, .int v19, .int v20])), (qf5, .inr (3, [.ref qf5_0, .int v5_1, .int v5_2, .int v5_3, .ref qf5_4, .ref qf5_5, .ref qf5_6, .int v5_7, .int v5_8, .int v5_9, .int v5_10, .ref qf5_11, .int v5_12, .ref qf5_13])), (qf5_13, .inl (cf5_13, 144, .inl f5_13)), (qf5_0, .inl (cf5_0, nb, .inl f5_0)), (qf12, .inl (cf12, 1500, .inl f12)), (qf8, .inl (cf8, 256, .inl f8)), (qf1, .inr (4, [.ref qf1_0, .ref qf1_1])), (qf1_1, .inl (cf1_1, 256, .inl f1_1))] s.heap := hP
  have hl := lv_entry ([.ref h0]) (n := 6) (Nat.le_of_ble_eq_true rfl)
  rw [lg_entry_eq]
  generalize (lg_sl ([.ref h0]) ++ List.replicate (6 - (lg_sl ([.ref h0])).length) Slot.unset).toArray = ls at hl ⊢
  have hl : lv_has ls 6 [(0, .ref h0)] := hl
  obtain ⟨H, hH⟩ : ∃ H : Heap, s.heap = H := ⟨_, rfl⟩
  rw [hH] at hP ⊢
  have hS : va_S A s.heap H [] := by rw [← hH]; exact va_S.rf
  obtain ⟨locs, hlo⟩ : ∃ locs : List Loc, locs = [] := ⟨_, rfl⟩
  rw [← hlo] at hS ⊢
  unfold sp_t11_proveHandlers at hsp
  refine lv_iconst (v := 0) hx hb dX11_proveHandlers_0 (by decide) ?_
  refine lv_istore_n (lv' := [(1, .int 0), (0, .ref h0)]) hx hb dX11_proveHandlers_1 rfl hl (by decide) rfl (fun ls hl => ?_)
  replace hP := hP.sub (ws' := [(h0, .inr (11, [.ref qf0, .ref qf1, .int v2, .int v3, .int v4, .ref qf5, .int v6, .int v7, .ref qf8, .ref qf9, .ref qf10, .ref qf11, .ref qf12, .ref qf13, .ref qf14, .ref qf15, .int v16, .int v17, .int v18, .int v19, .int v20])), (qf5, .inr (3, [.ref qf5_0, .int v5_1, .int v5_2, .int v5_3, .ref qf5_4, .ref qf5_5, .ref qf5_6, .int v5_7, .int v5_8, .int v5_9, .int v5_10, .ref qf5_11, .int v5_12, .ref qf5_13])), (qf5_13, .inl (cf5_13, 144, .inl f5_13)), (qf5_0, .inl (cf5_0, nb, .inl f5_0)), (qf12, .inl (cf12, 1500, .inl f12)), (qf8, .inl (cf8, 256, .inl f8)), (qf1, .inr (4, [.ref qf1_0, .ref qf1_1])), (qf1_1, .inl (cf1_1, 256, .inl f1_1))]) [0, 1, 2, 3, 4, 5, 6, 7] rfl
  replace hD := hD.sub (ws' := [(h0, .inr (11, [.ref qf0, .ref qf1, .int v2, .int v3, .int v4, .ref qf5, .int v6, .int v7, .ref qf8, .ref qf9, .ref qf10, .ref qf11, .ref qf12, .ref qf13, .ref qf14, .ref qf15, .int v16, .int v17, .int v18, .int v19, .int v20])), (qf5, .inr (3, [.ref qf5_0, .int v5_1, .int v5_2, .int v5_3, .ref qf5_4, .ref qf5_5, .ref qf5_6, .int v5_7, .int v5_8, .int v5_9, .int v5_10, .ref qf5_11, .int v5_12, .ref qf5_13])), (qf5_13, .inl (cf5_13, 144, .inl f5_13)), (qf5_0, .inl (cf5_0, nb, .inl f5_0)), (qf12, .inl (cf12, 1500, .inl f12)), (qf8, .inl (cf8, 256, .inl f8)), (qf1, .inr (4, [.ref qf1_0, .ref qf1_1])), (qf1_1, .inl (cf1_1, 256, .inl f1_1))]) [0, 1, 2, 3, 4, 5, 6, 7] (by decide) rfl
  replace hK := hK.sub (tys' := [(cf5_13, .int), (cf5_0, .byte), (cf12, .int), (cf8, .int), (cf1_1, .boolean)]) [0, 1, 2, 3, 4] rfl
  obtain ⟨n_2, hn_2⟩ : ∃ z : Nat, z = nf := ⟨_, rfl⟩
  obtain ⟨l1_2, el1_2⟩ : ∃ z : Int32, z = 0 := ⟨_, rfl⟩
  obtain ⟨x7_2, ex7_2⟩ : ∃ z : Int32, z = v7 := ⟨_, rfl⟩
  replace hsp : lp_t11_proveHandlers_2 nf n_2 v6 v7 v16 v5_1 v5_12 f5_13 nb f5_0 f12 f8 f1_1 l1_2 x7_2 = some (r0, w7) := by rw [hn_2, el1_2, ex7_2]; exact hsp
  replace hl : lv_has ls 6 [(1, .int l1_2), (0, .ref h0)] := by rw [el1_2]; exact hl
  replace hP : va_P (dC, dI) vwCl [(h0, .inr (11, [.ref qf0, .ref qf1, .int v2, .int v3, .int v4, .ref qf5, .int v6, .int x7_2, .ref qf8, .ref qf9, .ref qf10, .ref qf11, .ref qf12, .ref qf13, .ref qf14, .ref qf15, .int v16, .int v17, .int v18, .int v19, .int v20])), (qf5, .inr (3, [.ref qf5_0, .int v5_1, .int v5_2, .int v5_3, .ref qf5_4, .ref qf5_5, .ref qf5_6, .int v5_7, .int v5_8, .int v5_9, .int v5_10, .ref qf5_11, .int v5_12, .ref qf5_13])), (qf5_13, .inl (cf5_13, 144, .inl f5_13)), (qf5_0, .inl (cf5_0, nb, .inl f5_0)), (qf12, .inl (cf12, 1500, .inl f12)), (qf8, .inl (cf8, 256, .inl f8)), (qf1, .inr (4, [.ref qf1_0, .ref qf1_1])), (qf1_1, .inl (cf1_1, 256, .inl f1_1))] H := by rw [ex7_2]; exact hP
  replace hD : va_D A [(h0, .inr (11, [.ref qf0, .ref qf1, .int v2, .int v3, .int v4, .ref qf5, .int v6, .int x7_2, .ref qf8, .ref qf9, .ref qf10, .ref qf11, .ref qf12, .ref qf13, .ref qf14, .ref qf15, .int v16, .int v17, .int v18, .int v19, .int v20])), (qf5, .inr (3, [.ref qf5_0, .int v5_1, .int v5_2, .int v5_3, .ref qf5_4, .ref qf5_5, .ref qf5_6, .int v5_7, .int v5_8, .int v5_9, .int v5_10, .ref qf5_11, .int v5_12, .ref qf5_13])), (qf5_13, .inl (cf5_13, 144, .inl f5_13)), (qf5_0, .inl (cf5_0, nb, .inl f5_0)), (qf12, .inl (cf12, 1500, .inl f12)), (qf8, .inl (cf8, 256, .inl f8)), (qf1, .inr (4, [.ref qf1_0, .ref qf1_1])), (qf1_1, .inl (cf1_1, 256, .inl f1_1))] := by rw [ex7_2]; exact hD
  clear hn_2 el1_2 ex7_2
  try clear hlo
  try clear hH
  revert hsp
  revert hP
  revert hD
  revert hS
  revert hl
  revert x7_2
  revert l1_2
  revert ls
  revert locs
  revert H
  induction n_2 with
  | zero => intro H locs ls l1_2 x7_2 hl hS hD hP hsp; unfold lp_t11_proveHandlers_2 at hsp; cases hsp
  | succ n_2 ih_2 =>
    intro H locs ls l1_2 x7_2 hl hS hD hP hsp
    unfold lp_t11_proveHandlers_2 at hsp
    try dsimp only at hsp
    refine lv_iload_n hx hb dX11_proveHandlers_2 rfl (lv_at hl 0 rfl) ?_
    refine lv_aload_n hx hb dX11_proveHandlers_3 rfl (lv_at hl 1 rfl) ?_
    refine lv_bipush (v := 7) hx hb dX11_proveHandlers_4 (by decide) ?_
    obtain ⟨u1_0, hu_1, hsp⟩ := ox_bind hsp
    try dsimp only at hsp
    have hPc := hP.sub (ws' := [(h0, .inr (11, [.ref qf0, .ref qf1, .int v2, .int v3, .int v4, .ref qf5, .int v6, .int x7_2, .ref qf8, .ref qf9, .ref qf10, .ref qf11, .ref qf12, .ref qf13, .ref qf14, .ref qf15, .int v16, .int v17, .int v18, .int v19, .int v20])), (qf5, .inr (3, [.ref qf5_0, .int v5_1, .int v5_2, .int v5_3, .ref qf5_4, .ref qf5_5, .ref qf5_6, .int v5_7, .int v5_8, .int v5_9, .int v5_10, .ref qf5_11, .int v5_12, .ref qf5_13])), (qf5_13, .inl (cf5_13, 144, .inl f5_13))]) [0, 1, 2] rfl
    have hDc := hD.sub (ws' := [(h0, .inr (11, [.ref qf0, .ref qf1, .int v2, .int v3, .int v4, .ref qf5, .int v6, .int x7_2, .ref qf8, .ref qf9, .ref qf10, .ref qf11, .ref qf12, .ref qf13, .ref qf14, .ref qf15, .int v16, .int v17, .int v18, .int v19, .int v20])), (qf5, .inr (3, [.ref qf5_0, .int v5_1, .int v5_2, .int v5_3, .ref qf5_4, .ref qf5_5, .ref qf5_6, .int v5_7, .int v5_8, .int v5_9, .int v5_10, .ref qf5_11, .int v5_12, .ref qf5_13])), (qf5_13, .inl (cf5_13, 144, .inl f5_13))]) [0, 1, 2] (by decide) rfl
    have hKc := hK.sub (tys' := [(cf5_13, .int)]) [0] rfl
    have hFc := va_free (wc := [(h0, .inr (11, [.ref qf0, .ref qf1, .int v2, .int v3, .int v4, .ref qf5, .int v6, .int x7_2, .ref qf8, .ref qf9, .ref qf10, .ref qf11, .ref qf12, .ref qf13, .ref qf14, .ref qf15, .int v16, .int v17, .int v18, .int v19, .int v20])), (qf5, .inr (3, [.ref qf5_0, .int v5_1, .int v5_2, .int v5_3, .ref qf5_4, .ref qf5_5, .ref qf5_6, .int v5_7, .int v5_8, .int v5_9, .int v5_10, .ref qf5_11, .int v5_12, .ref qf5_13])), (qf5_13, .inl (cf5_13, 144, .inl f5_13))]) hD hS hA [0, 1, 2] rfl
    refine va_calli (va_runV (As := [.int 7]) (rest := [.int l1_2]) ⟨hx, hb, hml, hown, hts⟩ (t11_info l dC dI H.size h0 7 qf0 qf1 v2 v3 v4 qf5 v6 x7_2 qf8 qf9 qf10 qf11 qf12 qf13 qf14 qf15 v16 v17 v18 v19 v20 qf5_0 v5_1 v5_2 v5_3 qf5_4 qf5_5 qf5_6 v5_7 v5_8 v5_9 v5_10 qf5_11 v5_12 qf5_13 cf5_13 f5_13 nf u1_0 hu_1) (cwV 1 hts gv_h3_35 rfl rfl rfl (by decide +kernel) ⟨Nat.le_of_ble_eq_true rfl, Nat.le_of_ble_eq_true rfl⟩) ⟨fun a U g mk q => by obtain ⟨q0, q1, qP, qK, qD⟩ := q; exact ⟨q0, q1, qP, va_K.moved (u := U) (U := U.calling g mk a) (Vm.Alike.refl U.vm) qK, qD⟩, va_recv hKc hPc (ci := 11) (q0 := 0) rfl rfl, fun U hU hW => ⟨rfl, by rw [hU], by rw [hU]; exact hPc, va_K.moved hW.alike hKc, hDc.weaken (fun _ _ _ _ => trivial)⟩⟩ rfl rfl hl.1 rfl (lv_room (Nat.le_of_ble_eq_true rfl)) dX11_proveHandlers_6 ⟨Nat.le_of_ble_eq_true rfl, Nat.le_of_ble_eq_true rfl⟩) hS (fun q _ h => hFc q h) hFc ?_
    clear hS
    intro r_1 u t H1 locs ht hvm hw hB hz1 hk1 hS
    obtain ⟨⟩ := u
    obtain ⟨hP1, hK1, hD1⟩ := hB
    rw [ht] at hP1
    have hK1 := va_K.moved hvm.symm hK1
    try dsimp only at hw
    have hPD := va_join (wr := [(qf5_0, .inl (cf5_0, nb, .inl f5_0)), (qf12, .inl (cf12, 1500, .inl f12)), (qf8, .inl (cf8, 256, .inl f8)), (qf1, .inr (4, [.ref qf1_0, .ref qf1_1])), (qf1_1, .inl (cf1_1, 256, .inl f1_1))]) (w1 := [(h0, .inr (11, [.ref qf0, .ref qf1, .int v2, .int v3, .int v4, .ref qf5, .int v6, .int x7_2, .ref qf8, .ref qf9, .ref qf10, .ref qf11, .ref qf12, .ref qf13, .ref qf14, .ref qf15, .int v16, .int v17, .int v18, .int v19, .int v20])), (qf5, .inr (3, [.ref qf5_0, .int v5_1, .int v5_2, .int v5_3, .ref qf5_4, .ref qf5_5, .ref qf5_6, .int v5_7, .int v5_8, .int v5_9, .int v5_10, .ref qf5_11, .int v5_12, .ref qf5_13])), (qf5_13, .inl (cf5_13, 144, .inl f5_13))]) hP hD [0, 1, 2] [3, 4, 5, 6, 7] rfl rfl (by decide) (by decide) hk1 hFc hP1 hD1
    clear hP hD
    obtain ⟨hP, hD⟩ := hPD
    replace hK := (hK.sub (tys' := [(cf5_0, .byte), (cf12, .int), (cf8, .int), (cf1_1, .boolean)]) [1, 2, 3, 4] rfl).app hK1
    clear hPc hDc hKc hFc hP1 hK1 hD1 hz1 hk1 ht hvm
    generalize H1 = H at hP hS ⊢
    replace hP : va_P (dC, dI) vwCl [(qf5_0, .inl (cf5_0, nb, .inl f5_0)), (qf12, .inl (cf12, 1500, .inl f12)), (qf8, .inl (cf8, 256, .inl f8)), (qf1, .inr (4, [.ref qf1_0, .ref qf1_1])), (qf1_1, .inl (cf1_1, 256, .inl f1_1)), (h0, .inr (11, [.ref qf0, .ref qf1, .int v2, .int v3, .int v4, .ref qf5, .int v6, .int x7_2, .ref qf8, .ref qf9, .ref qf10, .ref qf11, .ref qf12, .ref qf13, .ref qf14, .ref qf15, .int v16, .int v17, .int v18, .int v19, .int v20])), (qf5, .inr (3, [.ref qf5_0, .int v5_1, .int v5_2, .int v5_3, .ref qf5_4, .ref qf5_5, .ref qf5_6, .int v5_7, .int v5_8, .int v5_9, .int v5_10, .ref qf5_11, .int v5_12, .ref qf5_13])), (qf5_13, .inl (cf5_13, 144, .inl f5_13))] H := hP
    replace hD : va_D A [(qf5_0, .inl (cf5_0, nb, .inl f5_0)), (qf12, .inl (cf12, 1500, .inl f12)), (qf8, .inl (cf8, 256, .inl f8)), (qf1, .inr (4, [.ref qf1_0, .ref qf1_1])), (qf1_1, .inl (cf1_1, 256, .inl f1_1)), (h0, .inr (11, [.ref qf0, .ref qf1, .int v2, .int v3, .int v4, .ref qf5, .int v6, .int x7_2, .ref qf8, .ref qf9, .ref qf10, .ref qf11, .ref qf12, .ref qf13, .ref qf14, .ref qf15, .int v16, .int v17, .int v18, .int v19, .int v20])), (qf5, .inr (3, [.ref qf5_0, .int v5_1, .int v5_2, .int v5_3, .ref qf5_4, .ref qf5_5, .ref qf5_6, .int v5_7, .int v5_8, .int v5_9, .int v5_10, .ref qf5_11, .int v5_12, .ref qf5_13])), (qf5_13, .inl (cf5_13, 144, .inl f5_13))] := hD
    replace hK : va_K (dC, dI) vwCl [(cf5_0, .byte), (cf12, .int), (cf8, .int), (cf1_1, .boolean), (cf5_13, .int)] s := hK
    obtain rfl := hw
    refine lv_icmp_ge (tgt := 114) hx hb dX11_proveHandlers_9 (by decide) (fun c_2 => ?_) (fun c_2 => ?_)
    · rw [if_pos c_2] at hsp
      refine lv_iconst (v := 0) hx hb dX11_proveHandlers_114 (by decide) ?_
      have hr0 := Option.some.inj hsp
      clear hsp
      obtain ⟨hq0, hr1⟩ := Prod.mk.inj hr0
      clear hr0
      subst hq0
      subst hr1
      have hP9 := hP.sub (ws' := [(h0, .inr (11, [.ref qf0, .ref qf1, .int v2, .int v3, .int v4, .ref qf5, .int v6, .int x7_2, .ref qf8, .ref qf9, .ref qf10, .ref qf11, .ref qf12, .ref qf13, .ref qf14, .ref qf15, .int v16, .int v17, .int v18, .int v19, .int v20])), (qf5, .inr (3, [.ref qf5_0, .int v5_1, .int v5_2, .int v5_3, .ref qf5_4, .ref qf5_5, .ref qf5_6, .int v5_7, .int v5_8, .int v5_9, .int v5_10, .ref qf5_11, .int v5_12, .ref qf5_13])), (qf5_13, .inl (cf5_13, 144, .inl f5_13)), (qf5_0, .inl (cf5_0, nb, .inl f5_0)), (qf12, .inl (cf12, 1500, .inl f12)), (qf8, .inl (cf8, 256, .inl f8)), (qf1, .inr (4, [.ref qf1_0, .ref qf1_1])), (qf1_1, .inl (cf1_1, 256, .inl f1_1))]) [5, 6, 7, 0, 1, 2, 3, 4] rfl
      have hD9 := hD.sub (ws' := [(h0, .inr (11, [.ref qf0, .ref qf1, .int v2, .int v3, .int v4, .ref qf5, .int v6, .int x7_2, .ref qf8, .ref qf9, .ref qf10, .ref qf11, .ref qf12, .ref qf13, .ref qf14, .ref qf15, .int v16, .int v17, .int v18, .int v19, .int v20])), (qf5, .inr (3, [.ref qf5_0, .int v5_1, .int v5_2, .int v5_3, .ref qf5_4, .ref qf5_5, .ref qf5_6, .int v5_7, .int v5_8, .int v5_9, .int v5_10, .ref qf5_11, .int v5_12, .ref qf5_13])), (qf5_13, .inl (cf5_13, 144, .inl f5_13)), (qf5_0, .inl (cf5_0, nb, .inl f5_0)), (qf12, .inl (cf12, 1500, .inl f12)), (qf8, .inl (cf8, 256, .inl f8)), (qf1, .inr (4, [.ref qf1_0, .ref qf1_1])), (qf1_1, .inl (cf1_1, 256, .inl f1_1))]) [5, 6, 7, 0, 1, 2, 3, 4] (by decide) rfl
      have hK9 := hK.sub (tys' := [(cf5_13, .int), (cf5_0, .byte), (cf12, .int), (cf8, .int), (cf1_1, .boolean)]) [4, 0, 1, 2, 3] rfl
      exact W.iret hx hb hr (fun t ht hW => ⟨⟨(0), (), rfl, rfl, by rw [ht]; exact hP9, va_K.moved hW.alike hK9, hD9⟩, hS.F ht⟩) hS.2.2 dX11_proveHandlers_115
    · rw [if_neg c_2] at hsp
      refine lv_aload_n hx hb dX11_proveHandlers_12 rfl (lv_at hl 1 rfl) ?_
      refine lv_iload_n hx hb dX11_proveHandlers_13 rfl (lv_at hl 0 rfl) ?_
      refine lv_iconst (v := 0) hx hb dX11_proveHandlers_14 (by decide) ?_
      obtain ⟨u2_0, hu_2, hsp⟩ := ox_bind hsp
      try dsimp only at hsp
      have hPc := hP.sub (ws' := [(h0, .inr (11, [.ref qf0, .ref qf1, .int v2, .int v3, .int v4, .ref qf5, .int v6, .int x7_2, .ref qf8, .ref qf9, .ref qf10, .ref qf11, .ref qf12, .ref qf13, .ref qf14, .ref qf15, .int v16, .int v17, .int v18, .int v19, .int v20])), (qf5, .inr (3, [.ref qf5_0, .int v5_1, .int v5_2, .int v5_3, .ref qf5_4, .ref qf5_5, .ref qf5_6, .int v5_7, .int v5_8, .int v5_9, .int v5_10, .ref qf5_11, .int v5_12, .ref qf5_13])), (qf5_13, .inl (cf5_13, 144, .inl f5_13)), (qf5_0, .inl (cf5_0, nb, .inl f5_0))]) [5, 6, 7, 0] rfl
      have hDc := hD.sub (ws' := [(h0, .inr (11, [.ref qf0, .ref qf1, .int v2, .int v3, .int v4, .ref qf5, .int v6, .int x7_2, .ref qf8, .ref qf9, .ref qf10, .ref qf11, .ref qf12, .ref qf13, .ref qf14, .ref qf15, .int v16, .int v17, .int v18, .int v19, .int v20])), (qf5, .inr (3, [.ref qf5_0, .int v5_1, .int v5_2, .int v5_3, .ref qf5_4, .ref qf5_5, .ref qf5_6, .int v5_7, .int v5_8, .int v5_9, .int v5_10, .ref qf5_11, .int v5_12, .ref qf5_13])), (qf5_13, .inl (cf5_13, 144, .inl f5_13)), (qf5_0, .inl (cf5_0, nb, .inl f5_0))]) [5, 6, 7, 0] (by decide) rfl
      have hKc := hK.sub (tys' := [(cf5_13, .int), (cf5_0, .byte)]) [4, 0] rfl
      have hFc := va_free (wc := [(h0, .inr (11, [.ref qf0, .ref qf1, .int v2, .int v3, .int v4, .ref qf5, .int v6, .int x7_2, .ref qf8, .ref qf9, .ref qf10, .ref qf11, .ref qf12, .ref qf13, .ref qf14, .ref qf15, .int v16, .int v17, .int v18, .int v19, .int v20])), (qf5, .inr (3, [.ref qf5_0, .int v5_1, .int v5_2, .int v5_3, .ref qf5_4, .ref qf5_5, .ref qf5_6, .int v5_7, .int v5_8, .int v5_9, .int v5_10, .ref qf5_11, .int v5_12, .ref qf5_13])), (qf5_13, .inl (cf5_13, 144, .inl f5_13)), (qf5_0, .inl (cf5_0, nb, .inl f5_0))]) hD hS hA [5, 6, 7, 0] rfl
      refine va_calli (va_runV (As := [.int l1_2, .int 0]) (rest := []) ⟨hx, hb, hml, hown, hts⟩ (t11_handler l dC dI H.size h0 l1_2 0 qf0 qf1 v2 v3 v4 qf5 v6 x7_2 qf8 qf9 qf10 qf11 qf12 qf13 qf14 qf15 v16 v17 v18 v19 v20 qf5_0 v5_1 v5_2 v5_3 qf5_4 qf5_5 qf5_6 v5_7 v5_8 v5_9 v5_10 qf5_11 v5_12 qf5_13 cf5_13 f5_13 cf5_0 nb f5_0 nf u2_0 hu_2) (cwV 2 hts gv_h3_47 rfl rfl rfl (by decide +kernel) ⟨Nat.le_of_ble_eq_true rfl, Nat.le_of_ble_eq_true rfl⟩) ⟨fun a U g mk q => by obtain ⟨q0, q1, qP, qK, qD⟩ := q; exact ⟨q0, q1, qP, va_K.moved (u := U) (U := U.calling g mk a) (Vm.Alike.refl U.vm) qK, qD⟩, va_recv hKc hPc (ci := 11) (q0 := 0) rfl rfl, fun U hU hW => ⟨rfl, by rw [hU], by rw [hU]; exact hPc, va_K.moved hW.alike hKc, hDc.weaken (fun _ _ _ _ => trivial)⟩⟩ rfl rfl hl.1 rfl (lv_room (Nat.le_of_ble_eq_true rfl)) dX11_proveHandlers_15 ⟨Nat.le_of_ble_eq_true rfl, Nat.le_of_ble_eq_true rfl⟩) hS (fun q _ h => hFc q h) hFc ?_
      clear hS
      intro r_3 u t H1 locs ht hvm hw hB hz1 hk1 hS
      obtain ⟨⟩ := u
      obtain ⟨hP1, hK1, hD1⟩ := hB
      rw [ht] at hP1
      have hK1 := va_K.moved hvm.symm hK1
      try dsimp only at hw
      have hPD := va_join (wr := [(qf12, .inl (cf12, 1500, .inl f12)), (qf8, .inl (cf8, 256, .inl f8)), (qf1, .inr (4, [.ref qf1_0, .ref qf1_1])), (qf1_1, .inl (cf1_1, 256, .inl f1_1))]) (w1 := [(h0, .inr (11, [.ref qf0, .ref qf1, .int v2, .int v3, .int v4, .ref qf5, .int v6, .int x7_2, .ref qf8, .ref qf9, .ref qf10, .ref qf11, .ref qf12, .ref qf13, .ref qf14, .ref qf15, .int v16, .int v17, .int v18, .int v19, .int v20])), (qf5, .inr (3, [.ref qf5_0, .int v5_1, .int v5_2, .int v5_3, .ref qf5_4, .ref qf5_5, .ref qf5_6, .int v5_7, .int v5_8, .int v5_9, .int v5_10, .ref qf5_11, .int v5_12, .ref qf5_13])), (qf5_13, .inl (cf5_13, 144, .inl f5_13)), (qf5_0, .inl (cf5_0, nb, .inl f5_0))]) hP hD [5, 6, 7, 0] [1, 2, 3, 4] rfl rfl (by decide) (by decide) hk1 hFc hP1 hD1
      clear hP hD
      obtain ⟨hP, hD⟩ := hPD
      replace hK := (hK.sub (tys' := [(cf12, .int), (cf8, .int), (cf1_1, .boolean)]) [1, 2, 3] rfl).app hK1
      clear hPc hDc hKc hFc hP1 hK1 hD1 hz1 hk1 ht hvm
      generalize H1 = H at hP hS ⊢
      replace hP : va_P (dC, dI) vwCl [(qf12, .inl (cf12, 1500, .inl f12)), (qf8, .inl (cf8, 256, .inl f8)), (qf1, .inr (4, [.ref qf1_0, .ref qf1_1])), (qf1_1, .inl (cf1_1, 256, .inl f1_1)), (h0, .inr (11, [.ref qf0, .ref qf1, .int v2, .int v3, .int v4, .ref qf5, .int v6, .int x7_2, .ref qf8, .ref qf9, .ref qf10, .ref qf11, .ref qf12, .ref qf13, .ref qf14, .ref qf15, .int v16, .int v17, .int v18, .int v19, .int v20])), (qf5, .inr (3, [.ref qf5_0, .int v5_1, .int v5_2, .int v5_3, .ref qf5_4, .ref qf5_5, .ref qf5_6, .int v5_7, .int v5_8, .int v5_9, .int v5_10, .ref qf5_11, .int v5_12, .ref qf5_13])), (qf5_13, .inl (cf5_13, 144, .inl f5_13)), (qf5_0, .inl (cf5_0, nb, .inl f5_0))] H := hP
      replace hD : va_D A [(qf12, .inl (cf12, 1500, .inl f12)), (qf8, .inl (cf8, 256, .inl f8)), (qf1, .inr (4, [.ref qf1_0, .ref qf1_1])), (qf1_1, .inl (cf1_1, 256, .inl f1_1)), (h0, .inr (11, [.ref qf0, .ref qf1, .int v2, .int v3, .int v4, .ref qf5, .int v6, .int x7_2, .ref qf8, .ref qf9, .ref qf10, .ref qf11, .ref qf12, .ref qf13, .ref qf14, .ref qf15, .int v16, .int v17, .int v18, .int v19, .int v20])), (qf5, .inr (3, [.ref qf5_0, .int v5_1, .int v5_2, .int v5_3, .ref qf5_4, .ref qf5_5, .ref qf5_6, .int v5_7, .int v5_8, .int v5_9, .int v5_10, .ref qf5_11, .int v5_12, .ref qf5_13])), (qf5_13, .inl (cf5_13, 144, .inl f5_13)), (qf5_0, .inl (cf5_0, nb, .inl f5_0))] := hD
      replace hK : va_K (dC, dI) vwCl [(cf12, .int), (cf8, .int), (cf1_1, .boolean), (cf5_13, .int), (cf5_0, .byte)] s := hK
      obtain rfl := hw
      refine lv_istore_n (lv' := [(2, .int u2_0), (1, .int l1_2), (0, .ref h0)]) hx hb dX11_proveHandlers_18 rfl hl (by decide) rfl (fun ls hl => ?_)
      refine lv_aload_n hx hb dX11_proveHandlers_19 rfl (lv_at hl 2 rfl) ?_
      refine lv_iload_n hx hb dX11_proveHandlers_20 rfl (lv_at hl 1 rfl) ?_
      refine lv_iconst (v := 2) hx hb dX11_proveHandlers_21 (by decide) ?_
      obtain ⟨u3_0, hu_3, hsp⟩ := ox_bind hsp
      try dsimp only at hsp
      have hPc := hP.sub (ws' := [(h0, .inr (11, [.ref qf0, .ref qf1, .int v2, .int v3, .int v4, .ref qf5, .int v6, .int x7_2, .ref qf8, .ref qf9, .ref qf10, .ref qf11, .ref qf12, .ref qf13, .ref qf14, .ref qf15, .int v16, .int v17, .int v18, .int v19, .int v20])), (qf5, .inr (3, [.ref qf5_0, .int v5_1, .int v5_2, .int v5_3, .ref qf5_4, .ref qf5_5, .ref qf5_6, .int v5_7, .int v5_8, .int v5_9, .int v5_10, .ref qf5_11, .int v5_12, .ref qf5_13])), (qf5_13, .inl (cf5_13, 144, .inl f5_13)), (qf5_0, .inl (cf5_0, nb, .inl f5_0))]) [4, 5, 6, 7] rfl
      have hDc := hD.sub (ws' := [(h0, .inr (11, [.ref qf0, .ref qf1, .int v2, .int v3, .int v4, .ref qf5, .int v6, .int x7_2, .ref qf8, .ref qf9, .ref qf10, .ref qf11, .ref qf12, .ref qf13, .ref qf14, .ref qf15, .int v16, .int v17, .int v18, .int v19, .int v20])), (qf5, .inr (3, [.ref qf5_0, .int v5_1, .int v5_2, .int v5_3, .ref qf5_4, .ref qf5_5, .ref qf5_6, .int v5_7, .int v5_8, .int v5_9, .int v5_10, .ref qf5_11, .int v5_12, .ref qf5_13])), (qf5_13, .inl (cf5_13, 144, .inl f5_13)), (qf5_0, .inl (cf5_0, nb, .inl f5_0))]) [4, 5, 6, 7] (by decide) rfl
      have hKc := hK.sub (tys' := [(cf5_13, .int), (cf5_0, .byte)]) [3, 4] rfl
      have hFc := va_free (wc := [(h0, .inr (11, [.ref qf0, .ref qf1, .int v2, .int v3, .int v4, .ref qf5, .int v6, .int x7_2, .ref qf8, .ref qf9, .ref qf10, .ref qf11, .ref qf12, .ref qf13, .ref qf14, .ref qf15, .int v16, .int v17, .int v18, .int v19, .int v20])), (qf5, .inr (3, [.ref qf5_0, .int v5_1, .int v5_2, .int v5_3, .ref qf5_4, .ref qf5_5, .ref qf5_6, .int v5_7, .int v5_8, .int v5_9, .int v5_10, .ref qf5_11, .int v5_12, .ref qf5_13])), (qf5_13, .inl (cf5_13, 144, .inl f5_13)), (qf5_0, .inl (cf5_0, nb, .inl f5_0))]) hD hS hA [4, 5, 6, 7] rfl
      refine va_calli (va_runV (As := [.int l1_2, .int 2]) (rest := []) ⟨hx, hb, hml, hown, hts⟩ (t11_handler l dC dI H.size h0 l1_2 2 qf0 qf1 v2 v3 v4 qf5 v6 x7_2 qf8 qf9 qf10 qf11 qf12 qf13 qf14 qf15 v16 v17 v18 v19 v20 qf5_0 v5_1 v5_2 v5_3 qf5_4 qf5_5 qf5_6 v5_7 v5_8 v5_9 v5_10 qf5_11 v5_12 qf5_13 cf5_13 f5_13 cf5_0 nb f5_0 nf u3_0 hu_3) (cwV 2 hts gv_h3_47 rfl rfl rfl (by decide +kernel) ⟨Nat.le_of_ble_eq_true rfl, Nat.le_of_ble_eq_true rfl⟩) ⟨fun a U g mk q => by obtain ⟨q0, q1, qP, qK, qD⟩ := q; exact ⟨q0, q1, qP, va_K.moved (u := U) (U := U.calling g mk a) (Vm.Alike.refl U.vm) qK, qD⟩, va_recv hKc hPc (ci := 11) (q0 := 0) rfl rfl, fun U hU hW => ⟨rfl, by rw [hU], by rw [hU]; exact hPc, va_K.moved hW.alike hKc, hDc.weaken (fun _ _ _ _ => trivial)⟩⟩ rfl rfl hl.1 rfl (lv_room (Nat.le_of_ble_eq_true rfl)) dX11_proveHandlers_22 ⟨Nat.le_of_ble_eq_true rfl, Nat.le_of_ble_eq_true rfl⟩) hS (fun q _ h => hFc q h) hFc ?_
      clear hS
      intro r_4 u t H1 locs ht hvm hw hB hz1 hk1 hS
      obtain ⟨⟩ := u
      obtain ⟨hP1, hK1, hD1⟩ := hB
      rw [ht] at hP1
      have hK1 := va_K.moved hvm.symm hK1
      try dsimp only at hw
      have hPD := va_join (wr := [(qf12, .inl (cf12, 1500, .inl f12)), (qf8, .inl (cf8, 256, .inl f8)), (qf1, .inr (4, [.ref qf1_0, .ref qf1_1])), (qf1_1, .inl (cf1_1, 256, .inl f1_1))]) (w1 := [(h0, .inr (11, [.ref qf0, .ref qf1, .int v2, .int v3, .int v4, .ref qf5, .int v6, .int x7_2, .ref qf8, .ref qf9, .ref qf10, .ref qf11, .ref qf12, .ref qf13, .ref qf14, .ref qf15, .int v16, .int v17, .int v18, .int v19, .int v20])), (qf5, .inr (3, [.ref qf5_0, .int v5_1, .int v5_2, .int v5_3, .ref qf5_4, .ref qf5_5, .ref qf5_6, .int v5_7, .int v5_8, .int v5_9, .int v5_10, .ref qf5_11, .int v5_12, .ref qf5_13])), (qf5_13, .inl (cf5_13, 144, .inl f5_13)), (qf5_0, .inl (cf5_0, nb, .inl f5_0))]) hP hD [4, 5, 6, 7] [0, 1, 2, 3] rfl rfl (by decide) (by decide) hk1 hFc hP1 hD1
      clear hP hD
      obtain ⟨hP, hD⟩ := hPD
      replace hK := (hK.sub (tys' := [(cf12, .int), (cf8, .int), (cf1_1, .boolean)]) [0, 1, 2] rfl).app hK1
      clear hPc hDc hKc hFc hP1 hK1 hD1 hz1 hk1 ht hvm
      generalize H1 = H at hP hS ⊢
      replace hP : va_P (dC, dI) vwCl [(qf12, .inl (cf12, 1500, .inl f12)), (qf8, .inl (cf8, 256, .inl f8)), (qf1, .inr (4, [.ref qf1_0, .ref qf1_1])), (qf1_1, .inl (cf1_1, 256, .inl f1_1)), (h0, .inr (11, [.ref qf0, .ref qf1, .int v2, .int v3, .int v4, .ref qf5, .int v6, .int x7_2, .ref qf8, .ref qf9, .ref qf10, .ref qf11, .ref qf12, .ref qf13, .ref qf14, .ref qf15, .int v16, .int v17, .int v18, .int v19, .int v20])), (qf5, .inr (3, [.ref qf5_0, .int v5_1, .int v5_2, .int v5_3, .ref qf5_4, .ref qf5_5, .ref qf5_6, .int v5_7, .int v5_8, .int v5_9, .int v5_10, .ref qf5_11, .int v5_12, .ref qf5_13])), (qf5_13, .inl (cf5_13, 144, .inl f5_13)), (qf5_0, .inl (cf5_0, nb, .inl f5_0))] H := hP
      replace hD : va_D A [(qf12, .inl (cf12, 1500, .inl f12)), (qf8, .inl (cf8, 256, .inl f8)), (qf1, .inr (4, [.ref qf1_0, .ref qf1_1])), (qf1_1, .inl (cf1_1, 256, .inl f1_1)), (h0, .inr (11, [.ref qf0, .ref qf1, .int v2, .int v3, .int v4, .ref qf5, .int v6, .int x7_2, .ref qf8, .ref qf9, .ref qf10, .ref qf11, .ref qf12, .ref qf13, .ref qf14, .ref qf15, .int v16, .int v17, .int v18, .int v19, .int v20])), (qf5, .inr (3, [.ref qf5_0, .int v5_1, .int v5_2, .int v5_3, .ref qf5_4, .ref qf5_5, .ref qf5_6, .int v5_7, .int v5_8, .int v5_9, .int v5_10, .ref qf5_11, .int v5_12, .ref qf5_13])), (qf5_13, .inl (cf5_13, 144, .inl f5_13)), (qf5_0, .inl (cf5_0, nb, .inl f5_0))] := hD
      replace hK : va_K (dC, dI) vwCl [(cf12, .int), (cf8, .int), (cf1_1, .boolean), (cf5_13, .int), (cf5_0, .byte)] s := hK
      obtain rfl := hw
      refine lv_istore_n (lv' := [(3, .int u3_0), (2, .int u2_0), (1, .int l1_2), (0, .ref h0)]) hx hb dX11_proveHandlers_25 rfl hl (by decide) rfl (fun ls hl => ?_)
      refine lv_aload_n hx hb dX11_proveHandlers_26 rfl (lv_at hl 3 rfl) ?_
      refine lv_iload_n hx hb dX11_proveHandlers_27 rfl (lv_at hl 2 rfl) ?_
      refine lv_iconst (v := 4) hx hb dX11_proveHandlers_28 (by decide) ?_
      obtain ⟨u4_0, hu_4, hsp⟩ := ox_bind hsp
      try dsimp only at hsp
      have hPc := hP.sub (ws' := [(h0, .inr (11, [.ref qf0, .ref qf1, .int v2, .int v3, .int v4, .ref qf5, .int v6, .int x7_2, .ref qf8, .ref qf9, .ref qf10, .ref qf11, .ref qf12, .ref qf13, .ref qf14, .ref qf15, .int v16, .int v17, .int v18, .int v19, .int v20])), (qf5, .inr (3, [.ref qf5_0, .int v5_1, .int v5_2, .int v5_3, .ref qf5_4, .ref qf5_5, .ref qf5_6, .int v5_7, .int v5_8, .int v5_9, .int v5_10, .ref qf5_11, .int v5_12, .ref qf5_13])), (qf5_13, .inl (cf5_13, 144, .inl f5_13)), (qf5_0, .inl (cf5_0, nb, .inl f5_0))]) [4, 5, 6, 7] rfl
      have hDc := hD.sub (ws' := [(h0, .inr (11, [.ref qf0, .ref qf1, .int v2, .int v3, .int v4, .ref qf5, .int v6, .int x7_2, .ref qf8, .ref qf9, .ref qf10, .ref qf11, .ref qf12, .ref qf13, .ref qf14, .ref qf15, .int v16, .int v17, .int v18, .int v19, .int v20])), (qf5, .inr (3, [.ref qf5_0, .int v5_1, .int v5_2, .int v5_3, .ref qf5_4, .ref qf5_5, .ref qf5_6, .int v5_7, .int v5_8, .int v5_9, .int v5_10, .ref qf5_11, .int v5_12, .ref qf5_13])), (qf5_13, .inl (cf5_13, 144, .inl f5_13)), (qf5_0, .inl (cf5_0, nb, .inl f5_0))]) [4, 5, 6, 7] (by decide) rfl
      have hKc := hK.sub (tys' := [(cf5_13, .int), (cf5_0, .byte)]) [3, 4] rfl
      have hFc := va_free (wc := [(h0, .inr (11, [.ref qf0, .ref qf1, .int v2, .int v3, .int v4, .ref qf5, .int v6, .int x7_2, .ref qf8, .ref qf9, .ref qf10, .ref qf11, .ref qf12, .ref qf13, .ref qf14, .ref qf15, .int v16, .int v17, .int v18, .int v19, .int v20])), (qf5, .inr (3, [.ref qf5_0, .int v5_1, .int v5_2, .int v5_3, .ref qf5_4, .ref qf5_5, .ref qf5_6, .int v5_7, .int v5_8, .int v5_9, .int v5_10, .ref qf5_11, .int v5_12, .ref qf5_13])), (qf5_13, .inl (cf5_13, 144, .inl f5_13)), (qf5_0, .inl (cf5_0, nb, .inl f5_0))]) hD hS hA [4, 5, 6, 7] rfl
      refine va_calli (va_runV (As := [.int l1_2, .int 4]) (rest := []) ⟨hx, hb, hml, hown, hts⟩ (t11_handler l dC dI H.size h0 l1_2 4 qf0 qf1 v2 v3 v4 qf5 v6 x7_2 qf8 qf9 qf10 qf11 qf12 qf13 qf14 qf15 v16 v17 v18 v19 v20 qf5_0 v5_1 v5_2 v5_3 qf5_4 qf5_5 qf5_6 v5_7 v5_8 v5_9 v5_10 qf5_11 v5_12 qf5_13 cf5_13 f5_13 cf5_0 nb f5_0 nf u4_0 hu_4) (cwV 2 hts gv_h3_47 rfl rfl rfl (by decide +kernel) ⟨Nat.le_of_ble_eq_true rfl, Nat.le_of_ble_eq_true rfl⟩) ⟨fun a U g mk q => by obtain ⟨q0, q1, qP, qK, qD⟩ := q; exact ⟨q0, q1, qP, va_K.moved (u := U) (U := U.calling g mk a) (Vm.Alike.refl U.vm) qK, qD⟩, va_recv hKc hPc (ci := 11) (q0 := 0) rfl rfl, fun U hU hW => ⟨rfl, by rw [hU], by rw [hU]; exact hPc, va_K.moved hW.alike hKc, hDc.weaken (fun _ _ _ _ => trivial)⟩⟩ rfl rfl hl.1 rfl (lv_room (Nat.le_of_ble_eq_true rfl)) dX11_proveHandlers_29 ⟨Nat.le_of_ble_eq_true rfl, Nat.le_of_ble_eq_true rfl⟩) hS (fun q _ h => hFc q h) hFc ?_
      clear hS
      intro r_5 u t H1 locs ht hvm hw hB hz1 hk1 hS
      obtain ⟨⟩ := u
      obtain ⟨hP1, hK1, hD1⟩ := hB
      rw [ht] at hP1
      have hK1 := va_K.moved hvm.symm hK1
      try dsimp only at hw
      have hPD := va_join (wr := [(qf12, .inl (cf12, 1500, .inl f12)), (qf8, .inl (cf8, 256, .inl f8)), (qf1, .inr (4, [.ref qf1_0, .ref qf1_1])), (qf1_1, .inl (cf1_1, 256, .inl f1_1))]) (w1 := [(h0, .inr (11, [.ref qf0, .ref qf1, .int v2, .int v3, .int v4, .ref qf5, .int v6, .int x7_2, .ref qf8, .ref qf9, .ref qf10, .ref qf11, .ref qf12, .ref qf13, .ref qf14, .ref qf15, .int v16, .int v17, .int v18, .int v19, .int v20])), (qf5, .inr (3, [.ref qf5_0, .int v5_1, .int v5_2, .int v5_3, .ref qf5_4, .ref qf5_5, .ref qf5_6, .int v5_7, .int v5_8, .int v5_9, .int v5_10, .ref qf5_11, .int v5_12, .ref qf5_13])), (qf5_13, .inl (cf5_13, 144, .inl f5_13)), (qf5_0, .inl (cf5_0, nb, .inl f5_0))]) hP hD [4, 5, 6, 7] [0, 1, 2, 3] rfl rfl (by decide) (by decide) hk1 hFc hP1 hD1
      clear hP hD
      obtain ⟨hP, hD⟩ := hPD
      replace hK := (hK.sub (tys' := [(cf12, .int), (cf8, .int), (cf1_1, .boolean)]) [0, 1, 2] rfl).app hK1
      clear hPc hDc hKc hFc hP1 hK1 hD1 hz1 hk1 ht hvm
      generalize H1 = H at hP hS ⊢
      replace hP : va_P (dC, dI) vwCl [(qf12, .inl (cf12, 1500, .inl f12)), (qf8, .inl (cf8, 256, .inl f8)), (qf1, .inr (4, [.ref qf1_0, .ref qf1_1])), (qf1_1, .inl (cf1_1, 256, .inl f1_1)), (h0, .inr (11, [.ref qf0, .ref qf1, .int v2, .int v3, .int v4, .ref qf5, .int v6, .int x7_2, .ref qf8, .ref qf9, .ref qf10, .ref qf11, .ref qf12, .ref qf13, .ref qf14, .ref qf15, .int v16, .int v17, .int v18, .int v19, .int v20])), (qf5, .inr (3, [.ref qf5_0, .int v5_1, .int v5_2, .int v5_3, .ref qf5_4, .ref qf5_5, .ref qf5_6, .int v5_7, .int v5_8, .int v5_9, .int v5_10, .ref qf5_11, .int v5_12, .ref qf5_13])), (qf5_13, .inl (cf5_13, 144, .inl f5_13)), (qf5_0, .inl (cf5_0, nb, .inl f5_0))] H := hP
      replace hD : va_D A [(qf12, .inl (cf12, 1500, .inl f12)), (qf8, .inl (cf8, 256, .inl f8)), (qf1, .inr (4, [.ref qf1_0, .ref qf1_1])), (qf1_1, .inl (cf1_1, 256, .inl f1_1)), (h0, .inr (11, [.ref qf0, .ref qf1, .int v2, .int v3, .int v4, .ref qf5, .int v6, .int x7_2, .ref qf8, .ref qf9, .ref qf10, .ref qf11, .ref qf12, .ref qf13, .ref qf14, .ref qf15, .int v16, .int v17, .int v18, .int v19, .int v20])), (qf5, .inr (3, [.ref qf5_0, .int v5_1, .int v5_2, .int v5_3, .ref qf5_4, .ref qf5_5, .ref qf5_6, .int v5_7, .int v5_8, .int v5_9, .int v5_10, .ref qf5_11, .int v5_12, .ref qf5_13])), (qf5_13, .inl (cf5_13, 144, .inl f5_13)), (qf5_0, .inl (cf5_0, nb, .inl f5_0))] := hD
      replace hK : va_K (dC, dI) vwCl [(cf12, .int), (cf8, .int), (cf1_1, .boolean), (cf5_13, .int), (cf5_0, .byte)] s := hK
      obtain rfl := hw
      refine lv_istore (lv' := [(4, .int u4_0), (3, .int u3_0), (2, .int u2_0), (1, .int l1_2), (0, .ref h0)]) hx hb dX11_proveHandlers_32 hl (by decide) rfl (fun ls hl => ?_)
      refine lv_aload_n hx hb dX11_proveHandlers_34 rfl (lv_at hl 4 rfl) ?_
      refine lv_iload_n hx hb dX11_proveHandlers_35 rfl (lv_at hl 2 rfl) ?_
      obtain ⟨u5_0, hu_5, hsp⟩ := ox_bind hsp
      try dsimp only at hsp
      have hPc := hP.sub (ws' := [(h0, .inr (11, [.ref qf0, .ref qf1, .int v2, .int v3, .int v4, .ref qf5, .int v6, .int x7_2, .ref qf8, .ref qf9, .ref qf10, .ref qf11, .ref qf12, .ref qf13, .ref qf14, .ref qf15, .int v16, .int v17, .int v18, .int v19, .int v20])), (qf12, .inl (cf12, 1500, .inl f12))]) [4, 0] rfl
      have hDc := hD.sub (ws' := [(h0, .inr (11, [.ref qf0, .ref qf1, .int v2, .int v3, .int v4, .ref qf5, .int v6, .int x7_2, .ref qf8, .ref qf9, .ref qf10, .ref qf11, .ref qf12, .ref qf13, .ref qf14, .ref qf15, .int v16, .int v17, .int v18, .int v19, .int v20])), (qf12, .inl (cf12, 1500, .inl f12))]) [4, 0] (by decide) rfl
      have hKc := hK.sub (tys' := [(cf12, .int)]) [0] rfl
      have hFc := va_free (wc := [(h0, .inr (11, [.ref qf0, .ref qf1, .int v2, .int v3, .int v4, .ref qf5, .int v6, .int x7_2, .ref qf8, .ref qf9, .ref qf10, .ref qf11, .ref qf12, .ref qf13, .ref qf14, .ref qf15, .int v16, .int v17, .int v18, .int v19, .int v20])), (qf12, .inl (cf12, 1500, .inl f12))]) hD hS hA [4, 0] rfl
      refine va_calli (va_runV (As := [.int u2_0]) (rest := []) ⟨hx, hb, hml, hown, hts⟩ (t11_begins l dC dI H.size h0 u2_0 qf0 qf1 v2 v3 v4 qf5 v6 x7_2 qf8 qf9 qf10 qf11 qf12 qf13 qf14 qf15 v16 v17 v18 v19 v20 cf12 f12 nf u5_0 hu_5) (cwV 1 hts gv_h3_38 rfl rfl rfl (by decide +kernel) ⟨Nat.le_of_ble_eq_true rfl, Nat.le_of_ble_eq_true rfl⟩) ⟨fun a U g mk q => by obtain ⟨q0, q1, qP, qK, qD⟩ := q; exact ⟨q0, q1, qP, va_K.moved (u := U) (U := U.calling g mk a) (Vm.Alike.refl U.vm) qK, qD⟩, va_recv hKc hPc (ci := 11) (q0 := 0) rfl rfl, fun U hU hW => ⟨rfl, by rw [hU], by rw [hU]; exact hPc, va_K.moved hW.alike hKc, hDc.weaken (fun _ _ _ _ => trivial)⟩⟩ rfl rfl hl.1 rfl (lv_room (Nat.le_of_ble_eq_true rfl)) dX11_proveHandlers_36 ⟨Nat.le_of_ble_eq_true rfl, Nat.le_of_ble_eq_true rfl⟩) hS (fun q _ h => hFc q h) hFc ?_
      clear hS
      intro r_6 u t H1 locs ht hvm hw hB hz1 hk1 hS
      obtain ⟨⟩ := u
      obtain ⟨hP1, hK1, hD1⟩ := hB
      rw [ht] at hP1
      have hK1 := va_K.moved hvm.symm hK1
      try dsimp only at hw
      have hPD := va_join (wr := [(qf8, .inl (cf8, 256, .inl f8)), (qf1, .inr (4, [.ref qf1_0, .ref qf1_1])), (qf1_1, .inl (cf1_1, 256, .inl f1_1)), (qf5, .inr (3, [.ref qf5_0, .int v5_1, .int v5_2, .int v5_3, .ref qf5_4, .ref qf5_5, .ref qf5_6, .int v5_7, .int v5_8, .int v5_9, .int v5_10, .ref qf5_11, .int v5_12, .ref qf5_13])), (qf5_13, .inl (cf5_13, 144, .inl f5_13)), (qf5_0, .inl (cf5_0, nb, .inl f5_0))]) (w1 := [(h0, .inr (11, [.ref qf0, .ref qf1, .int v2, .int v3, .int v4, .ref qf5, .int v6, .int x7_2, .ref qf8, .ref qf9, .ref qf10, .ref qf11, .ref qf12, .ref qf13, .ref qf14, .ref qf15, .int v16, .int v17, .int v18, .int v19, .int v20])), (qf12, .inl (cf12, 1500, .inl f12))]) hP hD [4, 0] [1, 2, 3, 5, 6, 7] rfl rfl (by decide) (by decide) hk1 hFc hP1 hD1
      clear hP hD
      obtain ⟨hP, hD⟩ := hPD
      replace hK := (hK.sub (tys' := [(cf8, .int), (cf1_1, .boolean), (cf5_13, .int), (cf5_0, .byte)]) [1, 2, 3, 4] rfl).app hK1
      clear hPc hDc hKc hFc hP1 hK1 hD1 hz1 hk1 ht hvm
      generalize H1 = H at hP hS ⊢
      replace hP : va_P (dC, dI) vwCl [(qf8, .inl (cf8, 256, .inl f8)), (qf1, .inr (4, [.ref qf1_0, .ref qf1_1])), (qf1_1, .inl (cf1_1, 256, .inl f1_1)), (qf5, .inr (3, [.ref qf5_0, .int v5_1, .int v5_2, .int v5_3, .ref qf5_4, .ref qf5_5, .ref qf5_6, .int v5_7, .int v5_8, .int v5_9, .int v5_10, .ref qf5_11, .int v5_12, .ref qf5_13])), (qf5_13, .inl (cf5_13, 144, .inl f5_13)), (qf5_0, .inl (cf5_0, nb, .inl f5_0)), (h0, .inr (11, [.ref qf0, .ref qf1, .int v2, .int v3, .int v4, .ref qf5, .int v6, .int x7_2, .ref qf8, .ref qf9, .ref qf10, .ref qf11, .ref qf12, .ref qf13, .ref qf14, .ref qf15, .int v16, .int v17, .int v18, .int v19, .int v20])), (qf12, .inl (cf12, 1500, .inl f12))] H := hP
      replace hD : va_D A [(qf8, .inl (cf8, 256, .inl f8)), (qf1, .inr (4, [.ref qf1_0, .ref qf1_1])), (qf1_1, .inl (cf1_1, 256, .inl f1_1)), (qf5, .inr (3, [.ref qf5_0, .int v5_1, .int v5_2, .int v5_3, .ref qf5_4, .ref qf5_5, .ref qf5_6, .int v5_7, .int v5_8, .int v5_9, .int v5_10, .ref qf5_11, .int v5_12, .ref qf5_13])), (qf5_13, .inl (cf5_13, 144, .inl f5_13)), (qf5_0, .inl (cf5_0, nb, .inl f5_0)), (h0, .inr (11, [.ref qf0, .ref qf1, .int v2, .int v3, .int v4, .ref qf5, .int v6, .int x7_2, .ref qf8, .ref qf9, .ref qf10, .ref qf11, .ref qf12, .ref qf13, .ref qf14, .ref qf15, .int v16, .int v17, .int v18, .int v19, .int v20])), (qf12, .inl (cf12, 1500, .inl f12))] := hD
      replace hK : va_K (dC, dI) vwCl [(cf8, .int), (cf1_1, .boolean), (cf5_13, .int), (cf5_0, .byte), (cf12, .int)] s := hK
      obtain ⟨rfl, hz_5⟩ := hw
      rcases hz_5 with rfl | rfl
      · rw [if_pos rfl] at hsp
        refine lv_if_eq (tgt := 67) hx hb dX11_proveHandlers_39 (by decide) (fun c_7 => ?_) (fun c_7 => (show False by revert c_7; decide).elim)
        refine lv_iconst (v := 0) hx hb dX11_proveHandlers_67 (by decide) ?_
        refine lv_istore (lv' := [(5, .int 0), (4, .int u4_0), (3, .int u3_0), (2, .int u2_0), (1, .int l1_2), (0, .ref h0)]) hx hb dX11_proveHandlers_68 hl (by decide) rfl (fun ls hl => ?_)
        refine lv_iload hx hb dX11_proveHandlers_70 (lv_at hl 0 rfl) ?_
        refine lv_if_eq (tgt := 100) hx hb dX11_proveHandlers_72 (by decide) (fun c_8 => ?_) (fun c_8 => (show False by revert c_8; decide).elim)
        refine lv_aload_n hx hb dX11_proveHandlers_100 rfl (lv_at hl 5 rfl) ?_
        refine lv_bipush (v := 8) hx hb dX11_proveHandlers_101 (by decide) ?_
        refine lv_iload_n hx hb dX11_proveHandlers_103 rfl (lv_at hl 4 rfl) ?_
        obtain ⟨⟨u6_0, u6_1⟩, hu_6, hsp⟩ := ox_bind hsp
        try dsimp only at hsp
        have hPc := hP.sub (ws' := [(h0, .inr (11, [.ref qf0, .ref qf1, .int v2, .int v3, .int v4, .ref qf5, .int v6, .int x7_2, .ref qf8, .ref qf9, .ref qf10, .ref qf11, .ref qf12, .ref qf13, .ref qf14, .ref qf15, .int v16, .int v17, .int v18, .int v19, .int v20]))]) [6] rfl
        have hDc := hD.sub (ws' := [(h0, .inr (11, [.ref qf0, .ref qf1, .int v2, .int v3, .int v4, .ref qf5, .int v6, .int x7_2, .ref qf8, .ref qf9, .ref qf10, .ref qf11, .ref qf12, .ref qf13, .ref qf14, .ref qf15, .int v16, .int v17, .int v18, .int v19, .int v20]))]) [6] (by decide) rfl
        have hKc := hK.sub (tys' := []) [] rfl
        have hFc := va_free (wc := [(h0, .inr (11, [.ref qf0, .ref qf1, .int v2, .int v3, .int v4, .ref qf5, .int v6, .int x7_2, .ref qf8, .ref qf9, .ref qf10, .ref qf11, .ref qf12, .ref qf13, .ref qf14, .ref qf15, .int v16, .int v17, .int v18, .int v19, .int v20]))]) hD hS hA [6] rfl
        refine va_calli (va_runV (As := [.int 8, .int l1_2]) (rest := []) ⟨hx, hb, hml, hown, hts⟩ (t11_at l dC dI H.size h0 8 l1_2 qf0 qf1 v2 v3 v4 qf5 v6 x7_2 qf8 qf9 qf10 qf11 qf12 qf13 qf14 qf15 v16 v17 v18 v19 v20 nf u6_0 u6_1 hu_6) (cwV 2 hts gv_h3_41 rfl rfl rfl (by decide +kernel) ⟨Nat.le_of_ble_eq_true rfl, Nat.le_of_ble_eq_true rfl⟩) ⟨fun a U g mk q => by obtain ⟨q0, q1, qP, qK, qD⟩ := q; exact ⟨q0, q1, qP, va_K.moved (u := U) (U := U.calling g mk a) (Vm.Alike.refl U.vm) qK, qD⟩, va_recv hKc hPc (ci := 11) (q0 := 0) rfl rfl, fun U hU hW => ⟨rfl, by rw [hU], by rw [hU]; exact hPc, va_K.moved hW.alike hKc, hDc.weaken (fun _ _ _ _ => trivial)⟩⟩ rfl rfl hl.1 rfl (lv_room (Nat.le_of_ble_eq_true rfl)) dX11_proveHandlers_104 ⟨Nat.le_of_ble_eq_true rfl, Nat.le_of_ble_eq_true rfl⟩) hS (fun q _ h => hFc q h) hFc ?_
        clear hS
        intro r_9 u t H1 locs ht hvm hw hB hz1 hk1 hS
        obtain ⟨⟩ := u
        obtain ⟨hP1, hK1, hD1⟩ := hB
        rw [ht] at hP1
        have hK1 := va_K.moved hvm.symm hK1
        try dsimp only at hw
        have hPD := va_join (wr := [(qf8, .inl (cf8, 256, .inl f8)), (qf1, .inr (4, [.ref qf1_0, .ref qf1_1])), (qf1_1, .inl (cf1_1, 256, .inl f1_1)), (qf5, .inr (3, [.ref qf5_0, .int v5_1, .int v5_2, .int v5_3, .ref qf5_4, .ref qf5_5, .ref qf5_6, .int v5_7, .int v5_8, .int v5_9, .int v5_10, .ref qf5_11, .int v5_12, .ref qf5_13])), (qf5_13, .inl (cf5_13, 144, .inl f5_13)), (qf5_0, .inl (cf5_0, nb, .inl f5_0)), (qf12, .inl (cf12, 1500, .inl f12))]) (w1 := [(h0, .inr (11, [.ref qf0, .ref qf1, .int v2, .int v3, .int v4, .ref qf5, .int v6, .int u6_1, .ref qf8, .ref qf9, .ref qf10, .ref qf11, .ref qf12, .ref qf13, .ref qf14, .ref qf15, .int v16, .int v17, .int v18, .int v19, .int v20]))]) hP hD [6] [0, 1, 2, 3, 4, 5, 7] rfl rfl (by decide) (by decide) hk1 hFc hP1 hD1
        clear hP hD
        obtain ⟨hP, hD⟩ := hPD
        replace hK := (hK.sub (tys' := [(cf8, .int), (cf1_1, .boolean), (cf5_13, .int), (cf5_0, .byte), (cf12, .int)]) [0, 1, 2, 3, 4] rfl).app hK1
        clear hPc hDc hKc hFc hP1 hK1 hD1 hz1 hk1 ht hvm
        generalize H1 = H at hP hS ⊢
        replace hP : va_P (dC, dI) vwCl [(qf8, .inl (cf8, 256, .inl f8)), (qf1, .inr (4, [.ref qf1_0, .ref qf1_1])), (qf1_1, .inl (cf1_1, 256, .inl f1_1)), (qf5, .inr (3, [.ref qf5_0, .int v5_1, .int v5_2, .int v5_3, .ref qf5_4, .ref qf5_5, .ref qf5_6, .int v5_7, .int v5_8, .int v5_9, .int v5_10, .ref qf5_11, .int v5_12, .ref qf5_13])), (qf5_13, .inl (cf5_13, 144, .inl f5_13)), (qf5_0, .inl (cf5_0, nb, .inl f5_0)), (qf12, .inl (cf12, 1500, .inl f12)), (h0, .inr (11, [.ref qf0, .ref qf1, .int v2, .int v3, .int v4, .ref qf5, .int v6, .int u6_1, .ref qf8, .ref qf9, .ref qf10, .ref qf11, .ref qf12, .ref qf13, .ref qf14, .ref qf15, .int v16, .int v17, .int v18, .int v19, .int v20]))] H := hP
        replace hD : va_D A [(qf8, .inl (cf8, 256, .inl f8)), (qf1, .inr (4, [.ref qf1_0, .ref qf1_1])), (qf1_1, .inl (cf1_1, 256, .inl f1_1)), (qf5, .inr (3, [.ref qf5_0, .int v5_1, .int v5_2, .int v5_3, .ref qf5_4, .ref qf5_5, .ref qf5_6, .int v5_7, .int v5_8, .int v5_9, .int v5_10, .ref qf5_11, .int v5_12, .ref qf5_13])), (qf5_13, .inl (cf5_13, 144, .inl f5_13)), (qf5_0, .inl (cf5_0, nb, .inl f5_0)), (qf12, .inl (cf12, 1500, .inl f12)), (h0, .inr (11, [.ref qf0, .ref qf1, .int v2, .int v3, .int v4, .ref qf5, .int v6, .int u6_1, .ref qf8, .ref qf9, .ref qf10, .ref qf11, .ref qf12, .ref qf13, .ref qf14, .ref qf15, .int v16, .int v17, .int v18, .int v19, .int v20]))] := hD
        replace hK : va_K (dC, dI) vwCl [(cf8, .int), (cf1_1, .boolean), (cf5_13, .int), (cf5_0, .byte), (cf12, .int)] s := hK
        obtain rfl := hw
        have hr0 := Option.some.inj hsp
        clear hsp
        obtain ⟨hq0, hr1⟩ := Prod.mk.inj hr0
        clear hr0
        subst hq0
        subst hr1
        have hP9 := hP.sub (ws' := [(h0, .inr (11, [.ref qf0, .ref qf1, .int v2, .int v3, .int v4, .ref qf5, .int v6, .int u6_1, .ref qf8, .ref qf9, .ref qf10, .ref qf11, .ref qf12, .ref qf13, .ref qf14, .ref qf15, .int v16, .int v17, .int v18, .int v19, .int v20])), (qf5, .inr (3, [.ref qf5_0, .int v5_1, .int v5_2, .int v5_3, .ref qf5_4, .ref qf5_5, .ref qf5_6, .int v5_7, .int v5_8, .int v5_9, .int v5_10, .ref qf5_11, .int v5_12, .ref qf5_13])), (qf5_13, .inl (cf5_13, 144, .inl f5_13)), (qf5_0, .inl (cf5_0, nb, .inl f5_0)), (qf12, .inl (cf12, 1500, .inl f12)), (qf8, .inl (cf8, 256, .inl f8)), (qf1, .inr (4, [.ref qf1_0, .ref qf1_1])), (qf1_1, .inl (cf1_1, 256, .inl f1_1))]) [7, 3, 4, 5, 6, 0, 1, 2] rfl
        have hD9 := hD.sub (ws' := [(h0, .inr (11, [.ref qf0, .ref qf1, .int v2, .int v3, .int v4, .ref qf5, .int v6, .int u6_1, .ref qf8, .ref qf9, .ref qf10, .ref qf11, .ref qf12, .ref qf13, .ref qf14, .ref qf15, .int v16, .int v17, .int v18, .int v19, .int v20])), (qf5, .inr (3, [.ref qf5_0, .int v5_1, .int v5_2, .int v5_3, .ref qf5_4, .ref qf5_5, .ref qf5_6, .int v5_7, .int v5_8, .int v5_9, .int v5_10, .ref qf5_11, .int v5_12, .ref qf5_13])), (qf5_13, .inl (cf5_13, 144, .inl f5_13)), (qf5_0, .inl (cf5_0, nb, .inl f5_0)), (qf12, .inl (cf12, 1500, .inl f12)), (qf8, .inl (cf8, 256, .inl f8)), (qf1, .inr (4, [.ref qf1_0, .ref qf1_1])), (qf1_1, .inl (cf1_1, 256, .inl f1_1))]) [7, 3, 4, 5, 6, 0, 1, 2] (by decide) rfl
        have hK9 := hK.sub (tys' := [(cf5_13, .int), (cf5_0, .byte), (cf12, .int), (cf8, .int), (cf1_1, .boolean)]) [2, 3, 4, 0, 1] rfl
        exact W.iret hx hb hr (fun t ht hW => ⟨⟨(u6_0), (), rfl, rfl, by rw [ht]; exact hP9, va_K.moved hW.alike hK9, hD9⟩, hS.F ht⟩) hS.2.2 dX11_proveHandlers_107
      · rw [if_neg (by decide)] at hsp
        refine lv_if_eq (tgt := 67) hx hb dX11_proveHandlers_39 (by decide) (fun c_10 => (show False by revert c_10; decide).elim) (fun c_10 => ?_)
        refine lv_aload_n hx hb dX11_proveHandlers_42 rfl (lv_at hl 4 rfl) ?_
        refine lv_iload_n hx hb dX11_proveHandlers_43 rfl (lv_at hl 1 rfl) ?_
        obtain ⟨u7_0, hu_7, hsp⟩ := ox_bind hsp
        try dsimp only at hsp
        have hPc := hP.sub (ws' := [(h0, .inr (11, [.ref qf0, .ref qf1, .int v2, .int v3, .int v4, .ref qf5, .int v6, .int x7_2, .ref qf8, .ref qf9, .ref qf10, .ref qf11, .ref qf12, .ref qf13, .ref qf14, .ref qf15, .int v16, .int v17, .int v18, .int v19, .int v20])), (qf12, .inl (cf12, 1500, .inl f12))]) [6, 7] rfl
        have hDc := hD.sub (ws' := [(h0, .inr (11, [.ref qf0, .ref qf1, .int v2, .int v3, .int v4, .ref qf5, .int v6, .int x7_2, .ref qf8, .ref qf9, .ref qf10, .ref qf11, .ref qf12, .ref qf13, .ref qf14, .ref qf15, .int v16, .int v17, .int v18, .int v19, .int v20])), (qf12, .inl (cf12, 1500, .inl f12))]) [6, 7] (by decide) rfl
        have hKc := hK.sub (tys' := [(cf12, .int)]) [4] rfl
        have hFc := va_free (wc := [(h0, .inr (11, [.ref qf0, .ref qf1, .int v2, .int v3, .int v4, .ref qf5, .int v6, .int x7_2, .ref qf8, .ref qf9, .ref qf10, .ref qf11, .ref qf12, .ref qf13, .ref qf14, .ref qf15, .int v16, .int v17, .int v18, .int v19, .int v20])), (qf12, .inl (cf12, 1500, .inl f12))]) hD hS hA [6, 7] rfl
        refine va_calli (va_runV (As := [.int u3_0]) (rest := []) ⟨hx, hb, hml, hown, hts⟩ (t11_begins l dC dI H.size h0 u3_0 qf0 qf1 v2 v3 v4 qf5 v6 x7_2 qf8 qf9 qf10 qf11 qf12 qf13 qf14 qf15 v16 v17 v18 v19 v20 cf12 f12 nf u7_0 hu_7) (cwV 1 hts gv_h3_38 rfl rfl rfl (by decide +kernel) ⟨Nat.le_of_ble_eq_true rfl, Nat.le_of_ble_eq_true rfl⟩) ⟨fun a U g mk q => by obtain ⟨q0, q1, qP, qK, qD⟩ := q; exact ⟨q0, q1, qP, va_K.moved (u := U) (U := U.calling g mk a) (Vm.Alike.refl U.vm) qK, qD⟩, va_recv hKc hPc (ci := 11) (q0 := 0) rfl rfl, fun U hU hW => ⟨rfl, by rw [hU], by rw [hU]; exact hPc, va_K.moved hW.alike hKc, hDc.weaken (fun _ _ _ _ => trivial)⟩⟩ rfl rfl hl.1 rfl (lv_room (Nat.le_of_ble_eq_true rfl)) dX11_proveHandlers_44 ⟨Nat.le_of_ble_eq_true rfl, Nat.le_of_ble_eq_true rfl⟩) hS (fun q _ h => hFc q h) hFc ?_
        clear hS
        intro r_11 u t H1 locs ht hvm hw hB hz1 hk1 hS
        obtain ⟨⟩ := u
        obtain ⟨hP1, hK1, hD1⟩ := hB
        rw [ht] at hP1
        have hK1 := va_K.moved hvm.symm hK1
        try dsimp only at hw
        have hPD := va_join (wr := [(qf8, .inl (cf8, 256, .inl f8)), (qf1, .inr (4, [.ref qf1_0, .ref qf1_1])), (qf1_1, .inl (cf1_1, 256, .inl f1_1)), (qf5, .inr (3, [.ref qf5_0, .int v5_1, .int v5_2, .int v5_3, .ref qf5_4, .ref qf5_5, .ref qf5_6, .int v5_7, .int v5_8, .int v5_9, .int v5_10, .ref qf5_11, .int v5_12, .ref qf5_13])), (qf5_13, .inl (cf5_13, 144, .inl f5_13)), (qf5_0, .inl (cf5_0, nb, .inl f5_0))]) (w1 := [(h0, .inr (11, [.ref qf0, .ref qf1, .int v2, .int v3, .int v4, .ref qf5, .int v6, .int x7_2, .ref qf8, .ref qf9, .ref qf10, .ref qf11, .ref qf12, .ref qf13, .ref qf14, .ref qf15, .int v16, .int v17, .int v18, .int v19, .int v20])), (qf12, .inl (cf12, 1500, .inl f12))]) hP hD [6, 7] [0, 1, 2, 3, 4, 5] rfl rfl (by decide) (by decide) hk1 hFc hP1 hD1
        clear hP hD
        obtain ⟨hP, hD⟩ := hPD
        replace hK := (hK.sub (tys' := [(cf8, .int), (cf1_1, .boolean), (cf5_13, .int), (cf5_0, .byte)]) [0, 1, 2, 3] rfl).app hK1
        clear hPc hDc hKc hFc hP1 hK1 hD1 hz1 hk1 ht hvm
        generalize H1 = H at hP hS ⊢
        replace hP : va_P (dC, dI) vwCl [(qf8, .inl (cf8, 256, .inl f8)), (qf1, .inr (4, [.ref qf1_0, .ref qf1_1])), (qf1_1, .inl (cf1_1, 256, .inl f1_1)), (qf5, .inr (3, [.ref qf5_0, .int v5_1, .int v5_2, .int v5_3, .ref qf5_4, .ref qf5_5, .ref qf5_6, .int v5_7, .int v5_8, .int v5_9, .int v5_10, .ref qf5_11, .int v5_12, .ref qf5_13])), (qf5_13, .inl (cf5_13, 144, .inl f5_13)), (qf5_0, .inl (cf5_0, nb, .inl f5_0)), (h0, .inr (11, [.ref qf0, .ref qf1, .int v2, .int v3, .int v4, .ref qf5, .int v6, .int x7_2, .ref qf8, .ref qf9, .ref qf10, .ref qf11, .ref qf12, .ref qf13, .ref qf14, .ref qf15, .int v16, .int v17, .int v18, .int v19, .int v20])), (qf12, .inl (cf12, 1500, .inl f12))] H := hP
        replace hD : va_D A [(qf8, .inl (cf8, 256, .inl f8)), (qf1, .inr (4, [.ref qf1_0, .ref qf1_1])), (qf1_1, .inl (cf1_1, 256, .inl f1_1)), (qf5, .inr (3, [.ref qf5_0, .int v5_1, .int v5_2, .int v5_3, .ref qf5_4, .ref qf5_5, .ref qf5_6, .int v5_7, .int v5_8, .int v5_9, .int v5_10, .ref qf5_11, .int v5_12, .ref qf5_13])), (qf5_13, .inl (cf5_13, 144, .inl f5_13)), (qf5_0, .inl (cf5_0, nb, .inl f5_0)), (h0, .inr (11, [.ref qf0, .ref qf1, .int v2, .int v3, .int v4, .ref qf5, .int v6, .int x7_2, .ref qf8, .ref qf9, .ref qf10, .ref qf11, .ref qf12, .ref qf13, .ref qf14, .ref qf15, .int v16, .int v17, .int v18, .int v19, .int v20])), (qf12, .inl (cf12, 1500, .inl f12))] := hD
        replace hK : va_K (dC, dI) vwCl [(cf8, .int), (cf1_1, .boolean), (cf5_13, .int), (cf5_0, .byte), (cf12, .int)] s := hK
        obtain ⟨rfl, hz_7⟩ := hw
        rcases hz_7 with rfl | rfl
        · rw [if_pos rfl] at hsp
          refine lv_if_ne (tgt := 58) hx hb dX11_proveHandlers_47 (by decide) (fun c_12 => (show False by revert c_12; decide).elim) (fun c_12 => ?_)
          refine lv_iload_n hx hb dX11_proveHandlers_50 rfl (lv_at hl 1 rfl) ?_
          refine lv_aload_n hx hb dX11_proveHandlers_51 rfl (lv_at hl 4 rfl) ?_
          refine va_get (D := (dC, dI)) (ci := 11) (v := .int v16) (C := RX11) (T := TX11) (N := 21) hx hb hts uV_h3_X11 hown hK hP 6 rfl rfl 16 (by decide) (hts (.fieldLink RX11 209 "ClassMill$Verifier" "length" "I") mw_h3_175) (fun _ h9 => h9) rfl dX11_proveHandlers_52 ?_
          refine lv_icmp_ne (tgt := 67) hx hb dX11_proveHandlers_55 (by decide) (fun c_13 => ?_) (fun c_13 => ?_)
          · rw [if_neg c_13] at hsp
            refine lv_iconst (v := 0) hx hb dX11_proveHandlers_67 (by decide) ?_
            refine lv_istore (lv' := [(5, .int 0), (4, .int u4_0), (3, .int u3_0), (2, .int u2_0), (1, .int l1_2), (0, .ref h0)]) hx hb dX11_proveHandlers_68 hl (by decide) rfl (fun ls hl => ?_)
            refine lv_iload hx hb dX11_proveHandlers_70 (lv_at hl 0 rfl) ?_
            refine lv_if_eq (tgt := 100) hx hb dX11_proveHandlers_72 (by decide) (fun c_14 => ?_) (fun c_14 => (show False by revert c_14; decide).elim)
            refine lv_aload_n hx hb dX11_proveHandlers_100 rfl (lv_at hl 5 rfl) ?_
            refine lv_bipush (v := 8) hx hb dX11_proveHandlers_101 (by decide) ?_
            refine lv_iload_n hx hb dX11_proveHandlers_103 rfl (lv_at hl 4 rfl) ?_
            obtain ⟨⟨u8_0, u8_1⟩, hu_8, hsp⟩ := ox_bind hsp
            try dsimp only at hsp
            have hPc := hP.sub (ws' := [(h0, .inr (11, [.ref qf0, .ref qf1, .int v2, .int v3, .int v4, .ref qf5, .int v6, .int x7_2, .ref qf8, .ref qf9, .ref qf10, .ref qf11, .ref qf12, .ref qf13, .ref qf14, .ref qf15, .int v16, .int v17, .int v18, .int v19, .int v20]))]) [6] rfl
            have hDc := hD.sub (ws' := [(h0, .inr (11, [.ref qf0, .ref qf1, .int v2, .int v3, .int v4, .ref qf5, .int v6, .int x7_2, .ref qf8, .ref qf9, .ref qf10, .ref qf11, .ref qf12, .ref qf13, .ref qf14, .ref qf15, .int v16, .int v17, .int v18, .int v19, .int v20]))]) [6] (by decide) rfl
            have hKc := hK.sub (tys' := []) [] rfl
            have hFc := va_free (wc := [(h0, .inr (11, [.ref qf0, .ref qf1, .int v2, .int v3, .int v4, .ref qf5, .int v6, .int x7_2, .ref qf8, .ref qf9, .ref qf10, .ref qf11, .ref qf12, .ref qf13, .ref qf14, .ref qf15, .int v16, .int v17, .int v18, .int v19, .int v20]))]) hD hS hA [6] rfl
            refine va_calli (va_runV (As := [.int 8, .int l1_2]) (rest := []) ⟨hx, hb, hml, hown, hts⟩ (t11_at l dC dI H.size h0 8 l1_2 qf0 qf1 v2 v3 v4 qf5 v6 x7_2 qf8 qf9 qf10 qf11 qf12 qf13 qf14 qf15 v16 v17 v18 v19 v20 nf u8_0 u8_1 hu_8) (cwV 2 hts gv_h3_41 rfl rfl rfl (by decide +kernel) ⟨Nat.le_of_ble_eq_true rfl, Nat.le_of_ble_eq_true rfl⟩) ⟨fun a U g mk q => by obtain ⟨q0, q1, qP, qK, qD⟩ := q; exact ⟨q0, q1, qP, va_K.moved (u := U) (U := U.calling g mk a) (Vm.Alike.refl U.vm) qK, qD⟩, va_recv hKc hPc (ci := 11) (q0 := 0) rfl rfl, fun U hU hW => ⟨rfl, by rw [hU], by rw [hU]; exact hPc, va_K.moved hW.alike hKc, hDc.weaken (fun _ _ _ _ => trivial)⟩⟩ rfl rfl hl.1 rfl (lv_room (Nat.le_of_ble_eq_true rfl)) dX11_proveHandlers_104 ⟨Nat.le_of_ble_eq_true rfl, Nat.le_of_ble_eq_true rfl⟩) hS (fun q _ h => hFc q h) hFc ?_
            clear hS
            intro r_15 u t H1 locs ht hvm hw hB hz1 hk1 hS
            obtain ⟨⟩ := u
            obtain ⟨hP1, hK1, hD1⟩ := hB
            rw [ht] at hP1
            have hK1 := va_K.moved hvm.symm hK1
            try dsimp only at hw
            have hPD := va_join (wr := [(qf8, .inl (cf8, 256, .inl f8)), (qf1, .inr (4, [.ref qf1_0, .ref qf1_1])), (qf1_1, .inl (cf1_1, 256, .inl f1_1)), (qf5, .inr (3, [.ref qf5_0, .int v5_1, .int v5_2, .int v5_3, .ref qf5_4, .ref qf5_5, .ref qf5_6, .int v5_7, .int v5_8, .int v5_9, .int v5_10, .ref qf5_11, .int v5_12, .ref qf5_13])), (qf5_13, .inl (cf5_13, 144, .inl f5_13)), (qf5_0, .inl (cf5_0, nb, .inl f5_0)), (qf12, .inl (cf12, 1500, .inl f12))]) (w1 := [(h0, .inr (11, [.ref qf0, .ref qf1, .int v2, .int v3, .int v4, .ref qf5, .int v6, .int u8_1, .ref qf8, .ref qf9, .ref qf10, .ref qf11, .ref qf12, .ref qf13, .ref qf14, .ref qf15, .int v16, .int v17, .int v18, .int v19, .int v20]))]) hP hD [6] [0, 1, 2, 3, 4, 5, 7] rfl rfl (by decide) (by decide) hk1 hFc hP1 hD1
            clear hP hD
            obtain ⟨hP, hD⟩ := hPD
            replace hK := (hK.sub (tys' := [(cf8, .int), (cf1_1, .boolean), (cf5_13, .int), (cf5_0, .byte), (cf12, .int)]) [0, 1, 2, 3, 4] rfl).app hK1
            clear hPc hDc hKc hFc hP1 hK1 hD1 hz1 hk1 ht hvm
            generalize H1 = H at hP hS ⊢
            replace hP : va_P (dC, dI) vwCl [(qf8, .inl (cf8, 256, .inl f8)), (qf1, .inr (4, [.ref qf1_0, .ref qf1_1])), (qf1_1, .inl (cf1_1, 256, .inl f1_1)), (qf5, .inr (3, [.ref qf5_0, .int v5_1, .int v5_2, .int v5_3, .ref qf5_4, .ref qf5_5, .ref qf5_6, .int v5_7, .int v5_8, .int v5_9, .int v5_10, .ref qf5_11, .int v5_12, .ref qf5_13])), (qf5_13, .inl (cf5_13, 144, .inl f5_13)), (qf5_0, .inl (cf5_0, nb, .inl f5_0)), (qf12, .inl (cf12, 1500, .inl f12)), (h0, .inr (11, [.ref qf0, .ref qf1, .int v2, .int v3, .int v4, .ref qf5, .int v6, .int u8_1, .ref qf8, .ref qf9, .ref qf10, .ref qf11, .ref qf12, .ref qf13, .ref qf14, .ref qf15, .int v16, .int v17, .int v18, .int v19, .int v20]))] H := hP
            replace hD : va_D A [(qf8, .inl (cf8, 256, .inl f8)), (qf1, .inr (4, [.ref qf1_0, .ref qf1_1])), (qf1_1, .inl (cf1_1, 256, .inl f1_1)), (qf5, .inr (3, [.ref qf5_0, .int v5_1, .int v5_2, .int v5_3, .ref qf5_4, .ref qf5_5, .ref qf5_6, .int v5_7, .int v5_8, .int v5_9, .int v5_10, .ref qf5_11, .int v5_12, .ref qf5_13])), (qf5_13, .inl (cf5_13, 144, .inl f5_13)), (qf5_0, .inl (cf5_0, nb, .inl f5_0)), (qf12, .inl (cf12, 1500, .inl f12)), (h0, .inr (11, [.ref qf0, .ref qf1, .int v2, .int v3, .int v4, .ref qf5, .int v6, .int u8_1, .ref qf8, .ref qf9, .ref qf10, .ref qf11, .ref qf12, .ref qf13, .ref qf14, .ref qf15, .int v16, .int v17, .int v18, .int v19, .int v20]))] := hD
            replace hK : va_K (dC, dI) vwCl [(cf8, .int), (cf1_1, .boolean), (cf5_13, .int), (cf5_0, .byte), (cf12, .int)] s := hK
            obtain rfl := hw
            have hr0 := Option.some.inj hsp
            clear hsp
            obtain ⟨hq0, hr1⟩ := Prod.mk.inj hr0
            clear hr0
            subst hq0
            subst hr1
            have hP9 := hP.sub (ws' := [(h0, .inr (11, [.ref qf0, .ref qf1, .int v2, .int v3, .int v4, .ref qf5, .int v6, .int u8_1, .ref qf8, .ref qf9, .ref qf10, .ref qf11, .ref qf12, .ref qf13, .ref qf14, .ref qf15, .int v16, .int v17, .int v18, .int v19, .int v20])), (qf5, .inr (3, [.ref qf5_0, .int v5_1, .int v5_2, .int v5_3, .ref qf5_4, .ref qf5_5, .ref qf5_6, .int v5_7, .int v5_8, .int v5_9, .int v5_10, .ref qf5_11, .int v5_12, .ref qf5_13])), (qf5_13, .inl (cf5_13, 144, .inl f5_13)), (qf5_0, .inl (cf5_0, nb, .inl f5_0)), (qf12, .inl (cf12, 1500, .inl f12)), (qf8, .inl (cf8, 256, .inl f8)), (qf1, .inr (4, [.ref qf1_0, .ref qf1_1])), (qf1_1, .inl (cf1_1, 256, .inl f1_1))]) [7, 3, 4, 5, 6, 0, 1, 2] rfl
            have hD9 := hD.sub (ws' := [(h0, .inr (11, [.ref qf0, .ref qf1, .int v2, .int v3, .int v4, .ref qf5, .int v6, .int u8_1, .ref qf8, .ref qf9, .ref qf10, .ref qf11, .ref qf12, .ref qf13, .ref qf14, .ref qf15, .int v16, .int v17, .int v18, .int v19, .int v20])), (qf5, .inr (3, [.ref qf5_0, .int v5_1, .int v5_2, .int v5_3, .ref qf5_4, .ref qf5_5, .ref qf5_6, .int v5_7, .int v5_8, .int v5_9, .int v5_10, .ref qf5_11, .int v5_12, .ref qf5_13])), (qf5_13, .inl (cf5_13, 144, .inl f5_13)), (qf5_0, .inl (cf5_0, nb, .inl f5_0)), (qf12, .inl (cf12, 1500, .inl f12)), (qf8, .inl (cf8, 256, .inl f8)), (qf1, .inr (4, [.ref qf1_0, .ref qf1_1])), (qf1_1, .inl (cf1_1, 256, .inl f1_1))]) [7, 3, 4, 5, 6, 0, 1, 2] (by decide) rfl
            have hK9 := hK.sub (tys' := [(cf5_13, .int), (cf5_0, .byte), (cf12, .int), (cf8, .int), (cf1_1, .boolean)]) [2, 3, 4, 0, 1] rfl
            exact W.iret hx hb hr (fun t ht hW => ⟨⟨(u8_0), (), rfl, rfl, by rw [ht]; exact hP9, va_K.moved hW.alike hK9, hD9⟩, hS.F ht⟩) hS.2.2 dX11_proveHandlers_107
          · rw [if_pos c_13] at hsp
            refine lv_iload_n hx hb dX11_proveHandlers_58 rfl (lv_at hl 2 rfl) ?_
            refine lv_iload_n hx hb dX11_proveHandlers_59 rfl (lv_at hl 1 rfl) ?_
            refine lv_icmp_ge (tgt := 67) hx hb dX11_proveHandlers_60 (by decide) (fun c_16 => ?_) (fun c_16 => ?_)
            · rw [if_pos c_16] at hsp
              refine lv_iconst (v := 0) hx hb dX11_proveHandlers_67 (by decide) ?_
              refine lv_istore (lv' := [(5, .int 0), (4, .int u4_0), (3, .int u3_0), (2, .int u2_0), (1, .int l1_2), (0, .ref h0)]) hx hb dX11_proveHandlers_68 hl (by decide) rfl (fun ls hl => ?_)
              refine lv_iload hx hb dX11_proveHandlers_70 (lv_at hl 0 rfl) ?_
              refine lv_if_eq (tgt := 100) hx hb dX11_proveHandlers_72 (by decide) (fun c_17 => ?_) (fun c_17 => (show False by revert c_17; decide).elim)
              refine lv_aload_n hx hb dX11_proveHandlers_100 rfl (lv_at hl 5 rfl) ?_
              refine lv_bipush (v := 8) hx hb dX11_proveHandlers_101 (by decide) ?_
              refine lv_iload_n hx hb dX11_proveHandlers_103 rfl (lv_at hl 4 rfl) ?_
              obtain ⟨⟨u9_0, u9_1⟩, hu_9, hsp⟩ := ox_bind hsp
              try dsimp only at hsp
              have hPc := hP.sub (ws' := [(h0, .inr (11, [.ref qf0, .ref qf1, .int v2, .int v3, .int v4, .ref qf5, .int v6, .int x7_2, .ref qf8, .ref qf9, .ref qf10, .ref qf11, .ref qf12, .ref qf13, .ref qf14, .ref qf15, .int v16, .int v17, .int v18, .int v19, .int v20]))]) [6] rfl
              have hDc := hD.sub (ws' := [(h0, .inr (11, [.ref qf0, .ref qf1, .int v2, .int v3, .int v4, .ref qf5, .int v6, .int x7_2, .ref qf8, .ref qf9, .ref qf10, .ref qf11, .ref qf12, .ref qf13, .ref qf14, .ref qf15, .int v16, .int v17, .int v18, .int v19, .int v20]))]) [6] (by decide) rfl
              have hKc := hK.sub (tys' := []) [] rfl
              have hFc := va_free (wc := [(h0, .inr (11, [.ref qf0, .ref qf1, .int v2, .int v3, .int v4, .ref qf5, .int v6, .int x7_2, .ref qf8, .ref qf9, .ref qf10, .ref qf11, .ref qf12, .ref qf13, .ref qf14, .ref qf15, .int v16, .int v17, .int v18, .int v19, .int v20]))]) hD hS hA [6] rfl
              refine va_calli (va_runV (As := [.int 8, .int l1_2]) (rest := []) ⟨hx, hb, hml, hown, hts⟩ (t11_at l dC dI H.size h0 8 l1_2 qf0 qf1 v2 v3 v4 qf5 v6 x7_2 qf8 qf9 qf10 qf11 qf12 qf13 qf14 qf15 v16 v17 v18 v19 v20 nf u9_0 u9_1 hu_9) (cwV 2 hts gv_h3_41 rfl rfl rfl (by decide +kernel) ⟨Nat.le_of_ble_eq_true rfl, Nat.le_of_ble_eq_true rfl⟩) ⟨fun a U g mk q => by obtain ⟨q0, q1, qP, qK, qD⟩ := q; exact ⟨q0, q1, qP, va_K.moved (u := U) (U := U.calling g mk a) (Vm.Alike.refl U.vm) qK, qD⟩, va_recv hKc hPc (ci := 11) (q0 := 0) rfl rfl, fun U hU hW => ⟨rfl, by rw [hU], by rw [hU]; exact hPc, va_K.moved hW.alike hKc, hDc.weaken (fun _ _ _ _ => trivial)⟩⟩ rfl rfl hl.1 rfl (lv_room (Nat.le_of_ble_eq_true rfl)) dX11_proveHandlers_104 ⟨Nat.le_of_ble_eq_true rfl, Nat.le_of_ble_eq_true rfl⟩) hS (fun q _ h => hFc q h) hFc ?_
              clear hS
              intro r_18 u t H1 locs ht hvm hw hB hz1 hk1 hS
              obtain ⟨⟩ := u
              obtain ⟨hP1, hK1, hD1⟩ := hB
              rw [ht] at hP1
              have hK1 := va_K.moved hvm.symm hK1
              try dsimp only at hw
              have hPD := va_join (wr := [(qf8, .inl (cf8, 256, .inl f8)), (qf1, .inr (4, [.ref qf1_0, .ref qf1_1])), (qf1_1, .inl (cf1_1, 256, .inl f1_1)), (qf5, .inr (3, [.ref qf5_0, .int v5_1, .int v5_2, .int v5_3, .ref qf5_4, .ref qf5_5, .ref qf5_6, .int v5_7, .int v5_8, .int v5_9, .int v5_10, .ref qf5_11, .int v5_12, .ref qf5_13])), (qf5_13, .inl (cf5_13, 144, .inl f5_13)), (qf5_0, .inl (cf5_0, nb, .inl f5_0)), (qf12, .inl (cf12, 1500, .inl f12))]) (w1 := [(h0, .inr (11, [.ref qf0, .ref qf1, .int v2, .int v3, .int v4, .ref qf5, .int v6, .int u9_1, .ref qf8, .ref qf9, .ref qf10, .ref qf11, .ref qf12, .ref qf13, .ref qf14, .ref qf15, .int v16, .int v17, .int v18, .int v19, .int v20]))]) hP hD [6] [0, 1, 2, 3, 4, 5, 7] rfl rfl (by decide) (by decide) hk1 hFc hP1 hD1
              clear hP hD
              obtain ⟨hP, hD⟩ := hPD
              replace hK := (hK.sub (tys' := [(cf8, .int), (cf1_1, .boolean), (cf5_13, .int), (cf5_0, .byte), (cf12, .int)]) [0, 1, 2, 3, 4] rfl).app hK1
              clear hPc hDc hKc hFc hP1 hK1 hD1 hz1 hk1 ht hvm
              generalize H1 = H at hP hS ⊢
              replace hP : va_P (dC, dI) vwCl [(qf8, .inl (cf8, 256, .inl f8)), (qf1, .inr (4, [.ref qf1_0, .ref qf1_1])), (qf1_1, .inl (cf1_1, 256, .inl f1_1)), (qf5, .inr (3, [.ref qf5_0, .int v5_1, .int v5_2, .int v5_3, .ref qf5_4, .ref qf5_5, .ref qf5_6, .int v5_7, .int v5_8, .int v5_9, .int v5_10, .ref qf5_11, .int v5_12, .ref qf5_13])), (qf5_13, .inl (cf5_13, 144, .inl f5_13)), (qf5_0, .inl (cf5_0, nb, .inl f5_0)), (qf12, .inl (cf12, 1500, .inl f12)), (h0, .inr (11, [.ref qf0, .ref qf1, .int v2, .int v3, .int v4, .ref qf5, .int v6, .int u9_1, .ref qf8, .ref qf9, .ref qf10, .ref qf11, .ref qf12, .ref qf13, .ref qf14, .ref qf15, .int v16, .int v17, .int v18, .int v19, .int v20]))] H := hP
              replace hD : va_D A [(qf8, .inl (cf8, 256, .inl f8)), (qf1, .inr (4, [.ref qf1_0, .ref qf1_1])), (qf1_1, .inl (cf1_1, 256, .inl f1_1)), (qf5, .inr (3, [.ref qf5_0, .int v5_1, .int v5_2, .int v5_3, .ref qf5_4, .ref qf5_5, .ref qf5_6, .int v5_7, .int v5_8, .int v5_9, .int v5_10, .ref qf5_11, .int v5_12, .ref qf5_13])), (qf5_13, .inl (cf5_13, 144, .inl f5_13)), (qf5_0, .inl (cf5_0, nb, .inl f5_0)), (qf12, .inl (cf12, 1500, .inl f12)), (h0, .inr (11, [.ref qf0, .ref qf1, .int v2, .int v3, .int v4, .ref qf5, .int v6, .int u9_1, .ref qf8, .ref qf9, .ref qf10, .ref qf11, .ref qf12, .ref qf13, .ref qf14, .ref qf15, .int v16, .int v17, .int v18, .int v19, .int v20]))] := hD
              replace hK : va_K (dC, dI) vwCl [(cf8, .int), (cf1_1, .boolean), (cf5_13, .int), (cf5_0, .byte), (cf12, .int)] s := hK
              obtain rfl := hw
              have hr0 := Option.some.inj hsp
              clear hsp
              obtain ⟨hq0, hr1⟩ := Prod.mk.inj hr0
              clear hr0
              subst hq0
              subst hr1
              have hP9 := hP.sub (ws' := [(h0, .inr (11, [.ref qf0, .ref qf1, .int v2, .int v3, .int v4, .ref qf5, .int v6, .int u9_1, .ref qf8, .ref qf9, .ref qf10, .ref qf11, .ref qf12, .ref qf13, .ref qf14, .ref qf15, .int v16, .int v17, .int v18, .int v19, .int v20])), (qf5, .inr (3, [.ref qf5_0, .int v5_1, .int v5_2, .int v5_3, .ref qf5_4, .ref qf5_5, .ref qf5_6, .int v5_7, .int v5_8, .int v5_9, .int v5_10, .ref qf5_11, .int v5_12, .ref qf5_13])), (qf5_13, .inl (cf5_13, 144, .inl f5_13)), (qf5_0, .inl (cf5_0, nb, .inl f5_0)), (qf12, .inl (cf12, 1500, .inl f12)), (qf8, .inl (cf8, 256, .inl f8)), (qf1, .inr (4, [.ref qf1_0, .ref qf1_1])), (qf1_1, .inl (cf1_1, 256, .inl f1_1))]) [7, 3, 4, 5, 6, 0, 1, 2] rfl
              have hD9 := hD.sub (ws' := [(h0, .inr (11, [.ref qf0, .ref qf1, .int v2, .int v3, .int v4, .ref qf5, .int v6, .int u9_1, .ref qf8, .ref qf9, .ref qf10, .ref qf11, .ref qf12, .ref qf13, .ref qf14, .ref qf15, .int v16, .int v17, .int v18, .int v19, .int v20])), (qf5, .inr (3, [.ref qf5_0, .int v5_1, .int v5_2, .int v5_3, .ref qf5_4, .ref qf5_5, .ref qf5_6, .int v5_7, .int v5_8, .int v5_9, .int v5_10, .ref qf5_11, .int v5_12, .ref qf5_13])), (qf5_13, .inl (cf5_13, 144, .inl f5_13)), (qf5_0, .inl (cf5_0, nb, .inl f5_0)), (qf12, .inl (cf12, 1500, .inl f12)), (qf8, .inl (cf8, 256, .inl f8)), (qf1, .inr (4, [.ref qf1_0, .ref qf1_1])), (qf1_1, .inl (cf1_1, 256, .inl f1_1))]) [7, 3, 4, 5, 6, 0, 1, 2] (by decide) rfl
              have hK9 := hK.sub (tys' := [(cf5_13, .int), (cf5_0, .byte), (cf12, .int), (cf8, .int), (cf1_1, .boolean)]) [2, 3, 4, 0, 1] rfl
              exact W.iret hx hb hr (fun t ht hW => ⟨⟨(u9_0), (), rfl, rfl, by rw [ht]; exact hP9, va_K.moved hW.alike hK9, hD9⟩, hS.F ht⟩) hS.2.2 dX11_proveHandlers_107
            · rw [if_neg c_16] at hsp
              refine lv_iconst (v := 1) hx hb dX11_proveHandlers_63 (by decide) ?_
              refine lv_goto (tgt := 68) hx hb dX11_proveHandlers_64 (by decide) ?_
              refine lv_istore (lv' := [(5, .int 1), (4, .int u4_0), (3, .int u3_0), (2, .int u2_0), (1, .int l1_2), (0, .ref h0)]) hx hb dX11_proveHandlers_68 hl (by decide) rfl (fun ls hl => ?_)
              refine lv_iload hx hb dX11_proveHandlers_70 (lv_at hl 0 rfl) ?_
              refine lv_if_eq (tgt := 100) hx hb dX11_proveHandlers_72 (by decide) (fun c_19 => (show False by revert c_19; decide).elim) (fun c_19 => ?_)
              refine lv_aload_n hx hb dX11_proveHandlers_75 rfl (lv_at hl 5 rfl) ?_
              refine lv_iload hx hb dX11_proveHandlers_76 (lv_at hl 1 rfl) ?_
              obtain ⟨u10_0, hu_10, hsp⟩ := ox_bind hsp
              try dsimp only at hsp
              have hPc := hP.sub (ws' := [(h0, .inr (11, [.ref qf0, .ref qf1, .int v2, .int v3, .int v4, .ref qf5, .int v6, .int x7_2, .ref qf8, .ref qf9, .ref qf10, .ref qf11, .ref qf12, .ref qf13, .ref qf14, .ref qf15, .int v16, .int v17, .int v18, .int v19, .int v20])), (qf12, .inl (cf12, 1500, .inl f12))]) [6, 7] rfl
              have hDc := hD.sub (ws' := [(h0, .inr (11, [.ref qf0, .ref qf1, .int v2, .int v3, .int v4, .ref qf5, .int v6, .int x7_2, .ref qf8, .ref qf9, .ref qf10, .ref qf11, .ref qf12, .ref qf13, .ref qf14, .ref qf15, .int v16, .int v17, .int v18, .int v19, .int v20])), (qf12, .inl (cf12, 1500, .inl f12))]) [6, 7] (by decide) rfl
              have hKc := hK.sub (tys' := [(cf12, .int)]) [4] rfl
              have hFc := va_free (wc := [(h0, .inr (11, [.ref qf0, .ref qf1, .int v2, .int v3, .int v4, .ref qf5, .int v6, .int x7_2, .ref qf8, .ref qf9, .ref qf10, .ref qf11, .ref qf12, .ref qf13, .ref qf14, .ref qf15, .int v16, .int v17, .int v18, .int v19, .int v20])), (qf12, .inl (cf12, 1500, .inl f12))]) hD hS hA [6, 7] rfl
              refine va_calli (va_runV (As := [.int u4_0]) (rest := []) ⟨hx, hb, hml, hown, hts⟩ (t11_frameAt l dC dI H.size h0 u4_0 qf0 qf1 v2 v3 v4 qf5 v6 x7_2 qf8 qf9 qf10 qf11 qf12 qf13 qf14 qf15 v16 v17 v18 v19 v20 cf12 f12 nf u10_0 hu_10) (cwV 1 hts gv_h3_43 rfl rfl rfl (by decide +kernel) ⟨Nat.le_of_ble_eq_true rfl, Nat.le_of_ble_eq_true rfl⟩) ⟨fun a U g mk q => by obtain ⟨q0, q1, qP, qK, qD⟩ := q; exact ⟨q0, q1, qP, va_K.moved (u := U) (U := U.calling g mk a) (Vm.Alike.refl U.vm) qK, qD⟩, va_recv hKc hPc (ci := 11) (q0 := 0) rfl rfl, fun U hU hW => ⟨rfl, by rw [hU], by rw [hU]; exact hPc, va_K.moved hW.alike hKc, hDc.weaken (fun _ _ _ _ => trivial)⟩⟩ rfl rfl hl.1 rfl (lv_room (Nat.le_of_ble_eq_true rfl)) dX11_proveHandlers_78 ⟨Nat.le_of_ble_eq_true rfl, Nat.le_of_ble_eq_true rfl⟩) hS (fun q _ h => hFc q h) hFc ?_
              clear hS
              intro r_20 u t H1 locs ht hvm hw hB hz1 hk1 hS
              obtain ⟨⟩ := u
              obtain ⟨hP1, hK1, hD1⟩ := hB
              rw [ht] at hP1
              have hK1 := va_K.moved hvm.symm hK1
              try dsimp only at hw
              have hPD := va_join (wr := [(qf8, .inl (cf8, 256, .inl f8)), (qf1, .inr (4, [.ref qf1_0, .ref qf1_1])), (qf1_1, .inl (cf1_1, 256, .inl f1_1)), (qf5, .inr (3, [.ref qf5_0, .int v5_1, .int v5_2, .int v5_3, .ref qf5_4, .ref qf5_5, .ref qf5_6, .int v5_7, .int v5_8, .int v5_9, .int v5_10, .ref qf5_11, .int v5_12, .ref qf5_13])), (qf5_13, .inl (cf5_13, 144, .inl f5_13)), (qf5_0, .inl (cf5_0, nb, .inl f5_0))]) (w1 := [(h0, .inr (11, [.ref qf0, .ref qf1, .int v2, .int v3, .int v4, .ref qf5, .int v6, .int x7_2, .ref qf8, .ref qf9, .ref qf10, .ref qf11, .ref qf12, .ref qf13, .ref qf14, .ref qf15, .int v16, .int v17, .int v18, .int v19, .int v20])), (qf12, .inl (cf12, 1500, .inl f12))]) hP hD [6, 7] [0, 1, 2, 3, 4, 5] rfl rfl (by decide) (by decide) hk1 hFc hP1 hD1
              clear hP hD
              obtain ⟨hP, hD⟩ := hPD
              replace hK := (hK.sub (tys' := [(cf8, .int), (cf1_1, .boolean), (cf5_13, .int), (cf5_0, .byte)]) [0, 1, 2, 3] rfl).app hK1
              clear hPc hDc hKc hFc hP1 hK1 hD1 hz1 hk1 ht hvm
              generalize H1 = H at hP hS ⊢
              replace hP : va_P (dC, dI) vwCl [(qf8, .inl (cf8, 256, .inl f8)), (qf1, .inr (4, [.ref qf1_0, .ref qf1_1])), (qf1_1, .inl (cf1_1, 256, .inl f1_1)), (qf5, .inr (3, [.ref qf5_0, .int v5_1, .int v5_2, .int v5_3, .ref qf5_4, .ref qf5_5, .ref qf5_6, .int v5_7, .int v5_8, .int v5_9, .int v5_10, .ref qf5_11, .int v5_12, .ref qf5_13])), (qf5_13, .inl (cf5_13, 144, .inl f5_13)), (qf5_0, .inl (cf5_0, nb, .inl f5_0)), (h0, .inr (11, [.ref qf0, .ref qf1, .int v2, .int v3, .int v4, .ref qf5, .int v6, .int x7_2, .ref qf8, .ref qf9, .ref qf10, .ref qf11, .ref qf12, .ref qf13, .ref qf14, .ref qf15, .int v16, .int v17, .int v18, .int v19, .int v20])), (qf12, .inl (cf12, 1500, .inl f12))] H := hP
              replace hD : va_D A [(qf8, .inl (cf8, 256, .inl f8)), (qf1, .inr (4, [.ref qf1_0, .ref qf1_1])), (qf1_1, .inl (cf1_1, 256, .inl f1_1)), (qf5, .inr (3, [.ref qf5_0, .int v5_1, .int v5_2, .int v5_3, .ref qf5_4, .ref qf5_5, .ref qf5_6, .int v5_7, .int v5_8, .int v5_9, .int v5_10, .ref qf5_11, .int v5_12, .ref qf5_13])), (qf5_13, .inl (cf5_13, 144, .inl f5_13)), (qf5_0, .inl (cf5_0, nb, .inl f5_0)), (h0, .inr (11, [.ref qf0, .ref qf1, .int v2, .int v3, .int v4, .ref qf5, .int v6, .int x7_2, .ref qf8, .ref qf9, .ref qf10, .ref qf11, .ref qf12, .ref qf13, .ref qf14, .ref qf15, .int v16, .int v17, .int v18, .int v19, .int v20])), (qf12, .inl (cf12, 1500, .inl f12))] := hD
              replace hK : va_K (dC, dI) vwCl [(cf8, .int), (cf1_1, .boolean), (cf5_13, .int), (cf5_0, .byte), (cf12, .int)] s := hK
              obtain rfl := hw
              refine lv_if_lt (tgt := 100) hx hb dX11_proveHandlers_81 (by decide) (fun c_21 => ?_) (fun c_21 => ?_)
              · rw [if_pos c_21] at hsp
                refine lv_aload_n hx hb dX11_proveHandlers_100 rfl (lv_at hl 5 rfl) ?_
                refine lv_bipush (v := 8) hx hb dX11_proveHandlers_101 (by decide) ?_
                refine lv_iload_n hx hb dX11_proveHandlers_103 rfl (lv_at hl 4 rfl) ?_
                obtain ⟨⟨u11_0, u11_1⟩, hu_11, hsp⟩ := ox_bind hsp
                try dsimp only at hsp
                have hPc := hP.sub (ws' := [(h0, .inr (11, [.ref qf0, .ref qf1, .int v2, .int v3, .int v4, .ref qf5, .int v6, .int x7_2, .ref qf8, .ref qf9, .ref qf10, .ref qf11, .ref qf12, .ref qf13, .ref qf14, .ref qf15, .int v16, .int v17, .int v18, .int v19, .int v20]))]) [6] rfl
                have hDc := hD.sub (ws' := [(h0, .inr (11, [.ref qf0, .ref qf1, .int v2, .int v3, .int v4, .ref qf5, .int v6, .int x7_2, .ref qf8, .ref qf9, .ref qf10, .ref qf11, .ref qf12, .ref qf13, .ref qf14, .ref qf15, .int v16, .int v17, .int v18, .int v19, .int v20]))]) [6] (by decide) rfl
                have hKc := hK.sub (tys' := []) [] rfl
                have hFc := va_free (wc := [(h0, .inr (11, [.ref qf0, .ref qf1, .int v2, .int v3, .int v4, .ref qf5, .int v6, .int x7_2, .ref qf8, .ref qf9, .ref qf10, .ref qf11, .ref qf12, .ref qf13, .ref qf14, .ref qf15, .int v16, .int v17, .int v18, .int v19, .int v20]))]) hD hS hA [6] rfl
                refine va_calli (va_runV (As := [.int 8, .int l1_2]) (rest := []) ⟨hx, hb, hml, hown, hts⟩ (t11_at l dC dI H.size h0 8 l1_2 qf0 qf1 v2 v3 v4 qf5 v6 x7_2 qf8 qf9 qf10 qf11 qf12 qf13 qf14 qf15 v16 v17 v18 v19 v20 nf u11_0 u11_1 hu_11) (cwV 2 hts gv_h3_41 rfl rfl rfl (by decide +kernel) ⟨Nat.le_of_ble_eq_true rfl, Nat.le_of_ble_eq_true rfl⟩) ⟨fun a U g mk q => by obtain ⟨q0, q1, qP, qK, qD⟩ := q; exact ⟨q0, q1, qP, va_K.moved (u := U) (U := U.calling g mk a) (Vm.Alike.refl U.vm) qK, qD⟩, va_recv hKc hPc (ci := 11) (q0 := 0) rfl rfl, fun U hU hW => ⟨rfl, by rw [hU], by rw [hU]; exact hPc, va_K.moved hW.alike hKc, hDc.weaken (fun _ _ _ _ => trivial)⟩⟩ rfl rfl hl.1 rfl (lv_room (Nat.le_of_ble_eq_true rfl)) dX11_proveHandlers_104 ⟨Nat.le_of_ble_eq_true rfl, Nat.le_of_ble_eq_true rfl⟩) hS (fun q _ h => hFc q h) hFc ?_
                clear hS
                intro r_22 u t H1 locs ht hvm hw hB hz1 hk1 hS
                obtain ⟨⟩ := u
                obtain ⟨hP1, hK1, hD1⟩ := hB
                rw [ht] at hP1
                have hK1 := va_K.moved hvm.symm hK1
                try dsimp only at hw
                have hPD := va_join (wr := [(qf8, .inl (cf8, 256, .inl f8)), (qf1, .inr (4, [.ref qf1_0, .ref qf1_1])), (qf1_1, .inl (cf1_1, 256, .inl f1_1)), (qf5, .inr (3, [.ref qf5_0, .int v5_1, .int v5_2, .int v5_3, .ref qf5_4, .ref qf5_5, .ref qf5_6, .int v5_7, .int v5_8, .int v5_9, .int v5_10, .ref qf5_11, .int v5_12, .ref qf5_13])), (qf5_13, .inl (cf5_13, 144, .inl f5_13)), (qf5_0, .inl (cf5_0, nb, .inl f5_0)), (qf12, .inl (cf12, 1500, .inl f12))]) (w1 := [(h0, .inr (11, [.ref qf0, .ref qf1, .int v2, .int v3, .int v4, .ref qf5, .int v6, .int u11_1, .ref qf8, .ref qf9, .ref qf10, .ref qf11, .ref qf12, .ref qf13, .ref qf14, .ref qf15, .int v16, .int v17, .int v18, .int v19, .int v20]))]) hP hD [6] [0, 1, 2, 3, 4, 5, 7] rfl rfl (by decide) (by decide) hk1 hFc hP1 hD1
                clear hP hD
                obtain ⟨hP, hD⟩ := hPD
                replace hK := (hK.sub (tys' := [(cf8, .int), (cf1_1, .boolean), (cf5_13, .int), (cf5_0, .byte), (cf12, .int)]) [0, 1, 2, 3, 4] rfl).app hK1
                clear hPc hDc hKc hFc hP1 hK1 hD1 hz1 hk1 ht hvm
                generalize H1 = H at hP hS ⊢
                replace hP : va_P (dC, dI) vwCl [(qf8, .inl (cf8, 256, .inl f8)), (qf1, .inr (4, [.ref qf1_0, .ref qf1_1])), (qf1_1, .inl (cf1_1, 256, .inl f1_1)), (qf5, .inr (3, [.ref qf5_0, .int v5_1, .int v5_2, .int v5_3, .ref qf5_4, .ref qf5_5, .ref qf5_6, .int v5_7, .int v5_8, .int v5_9, .int v5_10, .ref qf5_11, .int v5_12, .ref qf5_13])), (qf5_13, .inl (cf5_13, 144, .inl f5_13)), (qf5_0, .inl (cf5_0, nb, .inl f5_0)), (qf12, .inl (cf12, 1500, .inl f12)), (h0, .inr (11, [.ref qf0, .ref qf1, .int v2, .int v3, .int v4, .ref qf5, .int v6, .int u11_1, .ref qf8, .ref qf9, .ref qf10, .ref qf11, .ref qf12, .ref qf13, .ref qf14, .ref qf15, .int v16, .int v17, .int v18, .int v19, .int v20]))] H := hP
                replace hD : va_D A [(qf8, .inl (cf8, 256, .inl f8)), (qf1, .inr (4, [.ref qf1_0, .ref qf1_1])), (qf1_1, .inl (cf1_1, 256, .inl f1_1)), (qf5, .inr (3, [.ref qf5_0, .int v5_1, .int v5_2, .int v5_3, .ref qf5_4, .ref qf5_5, .ref qf5_6, .int v5_7, .int v5_8, .int v5_9, .int v5_10, .ref qf5_11, .int v5_12, .ref qf5_13])), (qf5_13, .inl (cf5_13, 144, .inl f5_13)), (qf5_0, .inl (cf5_0, nb, .inl f5_0)), (qf12, .inl (cf12, 1500, .inl f12)), (h0, .inr (11, [.ref qf0, .ref qf1, .int v2, .int v3, .int v4, .ref qf5, .int v6, .int u11_1, .ref qf8, .ref qf9, .ref qf10, .ref qf11, .ref qf12, .ref qf13, .ref qf14, .ref qf15, .int v16, .int v17, .int v18, .int v19, .int v20]))] := hD
                replace hK : va_K (dC, dI) vwCl [(cf8, .int), (cf1_1, .boolean), (cf5_13, .int), (cf5_0, .byte), (cf12, .int)] s := hK
                obtain rfl := hw
                have hr0 := Option.some.inj hsp
                clear hsp
                obtain ⟨hq0, hr1⟩ := Prod.mk.inj hr0
                clear hr0
                subst hq0
                subst hr1
                have hP9 := hP.sub (ws' := [(h0, .inr (11, [.ref qf0, .ref qf1, .int v2, .int v3, .int v4, .ref qf5, .int v6, .int u11_1, .ref qf8, .ref qf9, .ref qf10, .ref qf11, .ref qf12, .ref qf13, .ref qf14, .ref qf15, .int v16, .int v17, .int v18, .int v19, .int v20])), (qf5, .inr (3, [.ref qf5_0, .int v5_1, .int v5_2, .int v5_3, .ref qf5_4, .ref qf5_5, .ref qf5_6, .int v5_7, .int v5_8, .int v5_9, .int v5_10, .ref qf5_11, .int v5_12, .ref qf5_13])), (qf5_13, .inl (cf5_13, 144, .inl f5_13)), (qf5_0, .inl (cf5_0, nb, .inl f5_0)), (qf12, .inl (cf12, 1500, .inl f12)), (qf8, .inl (cf8, 256, .inl f8)), (qf1, .inr (4, [.ref qf1_0, .ref qf1_1])), (qf1_1, .inl (cf1_1, 256, .inl f1_1))]) [7, 3, 4, 5, 6, 0, 1, 2] rfl
                have hD9 := hD.sub (ws' := [(h0, .inr (11, [.ref qf0, .ref qf1, .int v2, .int v3, .int v4, .ref qf5, .int v6, .int u11_1, .ref qf8, .ref qf9, .ref qf10, .ref qf11, .ref qf12, .ref qf13, .ref qf14, .ref qf15, .int v16, .int v17, .int v18, .int v19, .int v20])), (qf5, .inr (3, [.ref qf5_0, .int v5_1, .int v5_2, .int v5_3, .ref qf5_4, .ref qf5_5, .ref qf5_6, .int v5_7, .int v5_8, .int v5_9, .int v5_10, .ref qf5_11, .int v5_12, .ref qf5_13])), (qf5_13, .inl (cf5_13, 144, .inl f5_13)), (qf5_0, .inl (cf5_0, nb, .inl f5_0)), (qf12, .inl (cf12, 1500, .inl f12)), (qf8, .inl (cf8, 256, .inl f8)), (qf1, .inr (4, [.ref qf1_0, .ref qf1_1])), (qf1_1, .inl (cf1_1, 256, .inl f1_1))]) [7, 3, 4, 5, 6, 0, 1, 2] (by decide) rfl
                have hK9 := hK.sub (tys' := [(cf5_13, .int), (cf5_0, .byte), (cf12, .int), (cf8, .int), (cf1_1, .boolean)]) [2, 3, 4, 0, 1] rfl
                exact W.iret hx hb hr (fun t ht hW => ⟨⟨(u11_0), (), rfl, rfl, by rw [ht]; exact hP9, va_K.moved hW.alike hK9, hD9⟩, hS.F ht⟩) hS.2.2 dX11_proveHandlers_107
              · rw [if_neg c_21] at hsp
                refine lv_aload_n hx hb dX11_proveHandlers_84 rfl (lv_at hl 5 rfl) ?_
                refine va_get (D := (dC, dI)) (ci := 11) (v := .ref qf1) (C := RX11) (T := TX11) (N := 21) hx hb hts uV_h3_X11 hown hK hP 6 rfl rfl 1 (by decide) (hts (.fieldLink RX11 60 "ClassMill$Verifier" "kin" "LClassMill$Kin;") mw_h3_200) (fun _ h9 => h9) rfl dX11_proveHandlers_85 ?_
                refine lv_aload_n hx hb dX11_proveHandlers_88 rfl (lv_at hl 5 rfl) ?_
                refine lv_iload_n hx hb dX11_proveHandlers_89 rfl (lv_at hl 4 rfl) ?_
                obtain ⟨u12_0, hu_12, hsp⟩ := ox_bind hsp
                try dsimp only at hsp
                have hPc := hP.sub (ws' := [(h0, .inr (11, [.ref qf0, .ref qf1, .int v2, .int v3, .int v4, .ref qf5, .int v6, .int x7_2, .ref qf8, .ref qf9, .ref qf10, .ref qf11, .ref qf12, .ref qf13, .ref qf14, .ref qf15, .int v16, .int v17, .int v18, .int v19, .int v20])), (qf5, .inr (3, [.ref qf5_0, .int v5_1, .int v5_2, .int v5_3, .ref qf5_4, .ref qf5_5, .ref qf5_6, .int v5_7, .int v5_8, .int v5_9, .int v5_10, .ref qf5_11, .int v5_12, .ref qf5_13])), (qf5_13, .inl (cf5_13, 144, .inl f5_13)), (qf5_0, .inl (cf5_0, nb, .inl f5_0)), (qf8, .inl (cf8, 256, .inl f8))]) [6, 3, 4, 5, 0] rfl
                have hDc := hD.sub (ws' := [(h0, .inr (11, [.ref qf0, .ref qf1, .int v2, .int v3, .int v4, .ref qf5, .int v6, .int x7_2, .ref qf8, .ref qf9, .ref qf10, .ref qf11, .ref qf12, .ref qf13, .ref qf14, .ref qf15, .int v16, .int v17, .int v18, .int v19, .int v20])), (qf5, .inr (3, [.ref qf5_0, .int v5_1, .int v5_2, .int v5_3, .ref qf5_4, .ref qf5_5, .ref qf5_6, .int v5_7, .int v5_8, .int v5_9, .int v5_10, .ref qf5_11, .int v5_12, .ref qf5_13])), (qf5_13, .inl (cf5_13, 144, .inl f5_13)), (qf5_0, .inl (cf5_0, nb, .inl f5_0)), (qf8, .inl (cf8, 256, .inl f8))]) [6, 3, 4, 5, 0] (by decide) rfl
                have hKc := hK.sub (tys' := [(cf5_13, .int), (cf5_0, .byte), (cf8, .int)]) [2, 3, 0] rfl
                have hFc := va_free (wc := [(h0, .inr (11, [.ref qf0, .ref qf1, .int v2, .int v3, .int v4, .ref qf5, .int v6, .int x7_2, .ref qf8, .ref qf9, .ref qf10, .ref qf11, .ref qf12, .ref qf13, .ref qf14, .ref qf15, .int v16, .int v17, .int v18, .int v19, .int v20])), (qf5, .inr (3, [.ref qf5_0, .int v5_1, .int v5_2, .int v5_3, .ref qf5_4, .ref qf5_5, .ref qf5_6, .int v5_7, .int v5_8, .int v5_9, .int v5_10, .ref qf5_11, .int v5_12, .ref qf5_13])), (qf5_13, .inl (cf5_13, 144, .inl f5_13)), (qf5_0, .inl (cf5_0, nb, .inl f5_0)), (qf8, .inl (cf8, 256, .inl f8))]) hD hS hA [6, 3, 4, 5, 0] rfl
                refine va_calli (va_runV (As := [.int l1_2]) (rest := [.ref qf1]) ⟨hx, hb, hml, hown, hts⟩ (t11_handlerClass l dC dI H.size h0 l1_2 qf0 qf1 v2 v3 v4 qf5 v6 x7_2 qf8 qf9 qf10 qf11 qf12 qf13 qf14 qf15 v16 v17 v18 v19 v20 qf5_0 v5_1 v5_2 v5_3 qf5_4 qf5_5 qf5_6 v5_7 v5_8 v5_9 v5_10 qf5_11 v5_12 qf5_13 cf5_13 f5_13 cf5_0 nb f5_0 cf8 f8 nf u12_0 hu_12) (cwV 1 hts gv_h3_48 rfl rfl rfl (by decide +kernel) ⟨Nat.le_of_ble_eq_true rfl, Nat.le_of_ble_eq_true rfl⟩) ⟨fun a U g mk q => by obtain ⟨q0, q1, qP, qK, qD⟩ := q; exact ⟨q0, q1, qP, va_K.moved (u := U) (U := U.calling g mk a) (Vm.Alike.refl U.vm) qK, qD⟩, va_recv hKc hPc (ci := 11) (q0 := 0) rfl rfl, fun U hU hW => ⟨rfl, by rw [hU], by rw [hU]; exact hPc, va_K.moved hW.alike hKc, hDc.weaken (fun _ _ _ _ => trivial)⟩⟩ rfl rfl hl.1 rfl (lv_room (Nat.le_of_ble_eq_true rfl)) dX11_proveHandlers_90 ⟨Nat.le_of_ble_eq_true rfl, Nat.le_of_ble_eq_true rfl⟩) hS (fun q _ h => hFc q h) hFc ?_
                clear hS
                intro r_23 u t H1 locs ht hvm hw hB hz1 hk1 hS
                obtain ⟨⟩ := u
                obtain ⟨hP1, hK1, hD1⟩ := hB
                rw [ht] at hP1
                have hK1 := va_K.moved hvm.symm hK1
                try dsimp only at hw
                have hPD := va_join (wr := [(qf1, .inr (4, [.ref qf1_0, .ref qf1_1])), (qf1_1, .inl (cf1_1, 256, .inl f1_1)), (qf12, .inl (cf12, 1500, .inl f12))]) (w1 := [(h0, .inr (11, [.ref qf0, .ref qf1, .int v2, .int v3, .int v4, .ref qf5, .int v6, .int x7_2, .ref qf8, .ref qf9, .ref qf10, .ref qf11, .ref qf12, .ref qf13, .ref qf14, .ref qf15, .int v16, .int v17, .int v18, .int v19, .int v20])), (qf5, .inr (3, [.ref qf5_0, .int v5_1, .int v5_2, .int v5_3, .ref qf5_4, .ref qf5_5, .ref qf5_6, .int v5_7, .int v5_8, .int v5_9, .int v5_10, .ref qf5_11, .int v5_12, .ref qf5_13])), (qf5_13, .inl (cf5_13, 144, .inl f5_13)), (qf5_0, .inl (cf5_0, nb, .inl f5_0)), (qf8, .inl (cf8, 256, .inl f8))]) hP hD [6, 3, 4, 5, 0] [1, 2, 7] rfl rfl (by decide) (by decide) hk1 hFc hP1 hD1
                clear hP hD
                obtain ⟨hP, hD⟩ := hPD
                replace hK := (hK.sub (tys' := [(cf1_1, .boolean), (cf12, .int)]) [1, 4] rfl).app hK1
                clear hPc hDc hKc hFc hP1 hK1 hD1 hz1 hk1 ht hvm
                generalize H1 = H at hP hS ⊢
                replace hP : va_P (dC, dI) vwCl [(qf1, .inr (4, [.ref qf1_0, .ref qf1_1])), (qf1_1, .inl (cf1_1, 256, .inl f1_1)), (qf12, .inl (cf12, 1500, .inl f12)), (h0, .inr (11, [.ref qf0, .ref qf1, .int v2, .int v3, .int v4, .ref qf5, .int v6, .int x7_2, .ref qf8, .ref qf9, .ref qf10, .ref qf11, .ref qf12, .ref qf13, .ref qf14, .ref qf15, .int v16, .int v17, .int v18, .int v19, .int v20])), (qf5, .inr (3, [.ref qf5_0, .int v5_1, .int v5_2, .int v5_3, .ref qf5_4, .ref qf5_5, .ref qf5_6, .int v5_7, .int v5_8, .int v5_9, .int v5_10, .ref qf5_11, .int v5_12, .ref qf5_13])), (qf5_13, .inl (cf5_13, 144, .inl f5_13)), (qf5_0, .inl (cf5_0, nb, .inl f5_0)), (qf8, .inl (cf8, 256, .inl f8))] H := hP
                replace hD : va_D A [(qf1, .inr (4, [.ref qf1_0, .ref qf1_1])), (qf1_1, .inl (cf1_1, 256, .inl f1_1)), (qf12, .inl (cf12, 1500, .inl f12)), (h0, .inr (11, [.ref qf0, .ref qf1, .int v2, .int v3, .int v4, .ref qf5, .int v6, .int x7_2, .ref qf8, .ref qf9, .ref qf10, .ref qf11, .ref qf12, .ref qf13, .ref qf14, .ref qf15, .int v16, .int v17, .int v18, .int v19, .int v20])), (qf5, .inr (3, [.ref qf5_0, .int v5_1, .int v5_2, .int v5_3, .ref qf5_4, .ref qf5_5, .ref qf5_6, .int v5_7, .int v5_8, .int v5_9, .int v5_10, .ref qf5_11, .int v5_12, .ref qf5_13])), (qf5_13, .inl (cf5_13, 144, .inl f5_13)), (qf5_0, .inl (cf5_0, nb, .inl f5_0)), (qf8, .inl (cf8, 256, .inl f8))] := hD
                replace hK : va_K (dC, dI) vwCl [(cf1_1, .boolean), (cf12, .int), (cf5_13, .int), (cf5_0, .byte), (cf8, .int)] s := hK
                obtain rfl := hw
                refine lv_iconst (v := 1) hx hb dX11_proveHandlers_93 (by decide) ?_
                obtain ⟨u13_0, hu_13, hsp⟩ := ox_bind hsp
                try dsimp only at hsp
                have hPc := hP.sub (ws' := [(qf1, .inr (4, [.ref qf1_0, .ref qf1_1])), (qf1_1, .inl (cf1_1, 256, .inl f1_1))]) [0, 1] rfl
                have hDc := hD.sub (ws' := [(qf1, .inr (4, [.ref qf1_0, .ref qf1_1])), (qf1_1, .inl (cf1_1, 256, .inl f1_1))]) [0, 1] (by decide) rfl
                have hKc := hK.sub (tys' := [(cf1_1, .boolean)]) [0] rfl
                have hFc := va_free (wc := [(qf1, .inr (4, [.ref qf1_0, .ref qf1_1])), (qf1_1, .inl (cf1_1, 256, .inl f1_1))]) hD hS hA [0, 1] rfl
                refine va_calli (va_runV (As := [.int u12_0, .int 1]) (rest := []) ⟨hx, hb, hml, hown, hts⟩ (t4_fits l dC dI H.size qf1 u12_0 1 qf1_0 qf1_1 cf1_1 f1_1 nf u13_0 hu_13) (cwV 2 hts gv_h3_44 rfl rfl rfl (by decide +kernel) ⟨Nat.le_of_ble_eq_true rfl, Nat.le_of_ble_eq_true rfl⟩) ⟨fun a U g mk q => by obtain ⟨q0, q1, qP, qK, qD⟩ := q; exact ⟨q0, q1, qP, va_K.moved (u := U) (U := U.calling g mk a) (Vm.Alike.refl U.vm) qK, qD⟩, va_recv hKc hPc (ci := 4) (q0 := 0) rfl rfl, fun U hU hW => ⟨rfl, by rw [hU], by rw [hU]; exact hPc, va_K.moved hW.alike hKc, hDc.weaken (fun _ _ _ _ => trivial)⟩⟩ rfl rfl hl.1 rfl (lv_room (Nat.le_of_ble_eq_true rfl)) dX11_proveHandlers_94 ⟨Nat.le_of_ble_eq_true rfl, Nat.le_of_ble_eq_true rfl⟩) hS (fun q _ h => hFc q h) hFc ?_
                clear hS
                intro r_24 u t H1 locs ht hvm hw hB hz1 hk1 hS
                obtain ⟨⟩ := u
                obtain ⟨hP1, hK1, hD1⟩ := hB
                rw [ht] at hP1
                have hK1 := va_K.moved hvm.symm hK1
                try dsimp only at hw
                have hPD := va_join (wr := [(qf12, .inl (cf12, 1500, .inl f12)), (h0, .inr (11, [.ref qf0, .ref qf1, .int v2, .int v3, .int v4, .ref qf5, .int v6, .int x7_2, .ref qf8, .ref qf9, .ref qf10, .ref qf11, .ref qf12, .ref qf13, .ref qf14, .ref qf15, .int v16, .int v17, .int v18, .int v19, .int v20])), (qf5, .inr (3, [.ref qf5_0, .int v5_1, .int v5_2, .int v5_3, .ref qf5_4, .ref qf5_5, .ref qf5_6, .int v5_7, .int v5_8, .int v5_9, .int v5_10, .ref qf5_11, .int v5_12, .ref qf5_13])), (qf5_13, .inl (cf5_13, 144, .inl f5_13)), (qf5_0, .inl (cf5_0, nb, .inl f5_0)), (qf8, .inl (cf8, 256, .inl f8))]) (w1 := [(qf1, .inr (4, [.ref qf1_0, .ref qf1_1])), (qf1_1, .inl (cf1_1, 256, .inl f1_1))]) hP hD [0, 1] [2, 3, 4, 5, 6, 7] rfl rfl (by decide) (by decide) hk1 hFc hP1 hD1
                clear hP hD
                obtain ⟨hP, hD⟩ := hPD
                replace hK := (hK.sub (tys' := [(cf12, .int), (cf5_13, .int), (cf5_0, .byte), (cf8, .int)]) [1, 2, 3, 4] rfl).app hK1
                clear hPc hDc hKc hFc hP1 hK1 hD1 hz1 hk1 ht hvm
                generalize H1 = H at hP hS ⊢
                replace hP : va_P (dC, dI) vwCl [(qf12, .inl (cf12, 1500, .inl f12)), (h0, .inr (11, [.ref qf0, .ref qf1, .int v2, .int v3, .int v4, .ref qf5, .int v6, .int x7_2, .ref qf8, .ref qf9, .ref qf10, .ref qf11, .ref qf12, .ref qf13, .ref qf14, .ref qf15, .int v16, .int v17, .int v18, .int v19, .int v20])), (qf5, .inr (3, [.ref qf5_0, .int v5_1, .int v5_2, .int v5_3, .ref qf5_4, .ref qf5_5, .ref qf5_6, .int v5_7, .int v5_8, .int v5_9, .int v5_10, .ref qf5_11, .int v5_12, .ref qf5_13])), (qf5_13, .inl (cf5_13, 144, .inl f5_13)), (qf5_0, .inl (cf5_0, nb, .inl f5_0)), (qf8, .inl (cf8, 256, .inl f8)), (qf1, .inr (4, [.ref qf1_0, .ref qf1_1])), (qf1_1, .inl (cf1_1, 256, .inl f1_1))] H := hP
                replace hD : va_D A [(qf12, .inl (cf12, 1500, .inl f12)), (h0, .inr (11, [.ref qf0, .ref qf1, .int v2, .int v3, .int v4, .ref qf5, .int v6, .int x7_2, .ref qf8, .ref qf9, .ref qf10, .ref qf11, .ref qf12, .ref qf13, .ref qf14, .ref qf15, .int v16, .int v17, .int v18, .int v19, .int v20])), (qf5, .inr (3, [.ref qf5_0, .int v5_1, .int v5_2, .int v5_3, .ref qf5_4, .ref qf5_5, .ref qf5_6, .int v5_7, .int v5_8, .int v5_9, .int v5_10, .ref qf5_11, .int v5_12, .ref qf5_13])), (qf5_13, .inl (cf5_13, 144, .inl f5_13)), (qf5_0, .inl (cf5_0, nb, .inl f5_0)), (qf8, .inl (cf8, 256, .inl f8)), (qf1, .inr (4, [.ref qf1_0, .ref qf1_1])), (qf1_1, .inl (cf1_1, 256, .inl f1_1))] := hD
                replace hK : va_K (dC, dI) vwCl [(cf12, .int), (cf5_13, .int), (cf5_0, .byte), (cf8, .int), (cf1_1, .boolean)] s := hK
                obtain ⟨rfl, hz_13⟩ := hw
                rcases hz_13 with rfl | rfl
                · rw [if_pos rfl] at hsp
                  refine lv_if_ne (tgt := 108) hx hb dX11_proveHandlers_97 (by decide) (fun c_25 => (show False by revert c_25; decide).elim) (fun c_25 => ?_)
                  refine lv_aload_n hx hb dX11_proveHandlers_100 rfl (lv_at hl 5 rfl) ?_
                  refine lv_bipush (v := 8) hx hb dX11_proveHandlers_101 (by decide) ?_
                  refine lv_iload_n hx hb dX11_proveHandlers_103 rfl (lv_at hl 4 rfl) ?_
                  obtain ⟨⟨u14_0, u14_1⟩, hu_14, hsp⟩ := ox_bind hsp
                  try dsimp only at hsp
                  have hPc := hP.sub (ws' := [(h0, .inr (11, [.ref qf0, .ref qf1, .int v2, .int v3, .int v4, .ref qf5, .int v6, .int x7_2, .ref qf8, .ref qf9, .ref qf10, .ref qf11, .ref qf12, .ref qf13, .ref qf14, .ref qf15, .int v16, .int v17, .int v18, .int v19, .int v20]))]) [1] rfl
                  have hDc := hD.sub (ws' := [(h0, .inr (11, [.ref qf0, .ref qf1, .int v2, .int v3, .int v4, .ref qf5, .int v6, .int x7_2, .ref qf8, .ref qf9, .ref qf10, .ref qf11, .ref qf12, .ref qf13, .ref qf14, .ref qf15, .int v16, .int v17, .int v18, .int v19, .int v20]))]) [1] (by decide) rfl
                  have hKc := hK.sub (tys' := []) [] rfl
                  have hFc := va_free (wc := [(h0, .inr (11, [.ref qf0, .ref qf1, .int v2, .int v3, .int v4, .ref qf5, .int v6, .int x7_2, .ref qf8, .ref qf9, .ref qf10, .ref qf11, .ref qf12, .ref qf13, .ref qf14, .ref qf15, .int v16, .int v17, .int v18, .int v19, .int v20]))]) hD hS hA [1] rfl
                  refine va_calli (va_runV (As := [.int 8, .int l1_2]) (rest := []) ⟨hx, hb, hml, hown, hts⟩ (t11_at l dC dI H.size h0 8 l1_2 qf0 qf1 v2 v3 v4 qf5 v6 x7_2 qf8 qf9 qf10 qf11 qf12 qf13 qf14 qf15 v16 v17 v18 v19 v20 nf u14_0 u14_1 hu_14) (cwV 2 hts gv_h3_41 rfl rfl rfl (by decide +kernel) ⟨Nat.le_of_ble_eq_true rfl, Nat.le_of_ble_eq_true rfl⟩) ⟨fun a U g mk q => by obtain ⟨q0, q1, qP, qK, qD⟩ := q; exact ⟨q0, q1, qP, va_K.moved (u := U) (U := U.calling g mk a) (Vm.Alike.refl U.vm) qK, qD⟩, va_recv hKc hPc (ci := 11) (q0 := 0) rfl rfl, fun U hU hW => ⟨rfl, by rw [hU], by rw [hU]; exact hPc, va_K.moved hW.alike hKc, hDc.weaken (fun _ _ _ _ => trivial)⟩⟩ rfl rfl hl.1 rfl (lv_room (Nat.le_of_ble_eq_true rfl)) dX11_proveHandlers_104 ⟨Nat.le_of_ble_eq_true rfl, Nat.le_of_ble_eq_true rfl⟩) hS (fun q _ h => hFc q h) hFc ?_
                  clear hS
                  intro r_26 u t H1 locs ht hvm hw hB hz1 hk1 hS
                  obtain ⟨⟩ := u
                  obtain ⟨hP1, hK1, hD1⟩ := hB
                  rw [ht] at hP1
                  have hK1 := va_K.moved hvm.symm hK1
                  try dsimp only at hw
                  have hPD := va_join (wr := [(qf12, .inl (cf12, 1500, .inl f12)), (qf5, .inr (3, [.ref qf5_0, .int v5_1, .int v5_2, .int v5_3, .ref qf5_4, .ref qf5_5, .ref qf5_6, .int v5_7, .int v5_8, .int v5_9, .int v5_10, .ref qf5_11, .int v5_12, .ref qf5_13])), (qf5_13, .inl (cf5_13, 144, .inl f5_13)), (qf5_0, .inl (cf5_0, nb, .inl f5_0)), (qf8, .inl (cf8, 256, .inl f8)), (qf1, .inr (4, [.ref qf1_0, .ref qf1_1])), (qf1_1, .inl (cf1_1, 256, .inl f1_1))]) (w1 := [(h0, .inr (11, [.ref qf0, .ref qf1, .int v2, .int v3, .int v4, .ref qf5, .int v6, .int u14_1, .ref qf8, .ref qf9, .ref qf10, .ref qf11, .ref qf12, .ref qf13, .ref qf14, .ref qf15, .int v16, .int v17, .int v18, .int v19, .int v20]))]) hP hD [1] [0, 2, 3, 4, 5, 6, 7] rfl rfl (by decide) (by decide) hk1 hFc hP1 hD1
                  clear hP hD
                  obtain ⟨hP, hD⟩ := hPD
                  replace hK := (hK.sub (tys' := [(cf12, .int), (cf5_13, .int), (cf5_0, .byte), (cf8, .int), (cf1_1, .boolean)]) [0, 1, 2, 3, 4] rfl).app hK1
                  clear hPc hDc hKc hFc hP1 hK1 hD1 hz1 hk1 ht hvm
                  generalize H1 = H at hP hS ⊢
                  replace hP : va_P (dC, dI) vwCl [(qf12, .inl (cf12, 1500, .inl f12)), (qf5, .inr (3, [.ref qf5_0, .int v5_1, .int v5_2, .int v5_3, .ref qf5_4, .ref qf5_5, .ref qf5_6, .int v5_7, .int v5_8, .int v5_9, .int v5_10, .ref qf5_11, .int v5_12, .ref qf5_13])), (qf5_13, .inl (cf5_13, 144, .inl f5_13)), (qf5_0, .inl (cf5_0, nb, .inl f5_0)), (qf8, .inl (cf8, 256, .inl f8)), (qf1, .inr (4, [.ref qf1_0, .ref qf1_1])), (qf1_1, .inl (cf1_1, 256, .inl f1_1)), (h0, .inr (11, [.ref qf0, .ref qf1, .int v2, .int v3, .int v4, .ref qf5, .int v6, .int u14_1, .ref qf8, .ref qf9, .ref qf10, .ref qf11, .ref qf12, .ref qf13, .ref qf14, .ref qf15, .int v16, .int v17, .int v18, .int v19, .int v20]))] H := hP
                  replace hD : va_D A [(qf12, .inl (cf12, 1500, .inl f12)), (qf5, .inr (3, [.ref qf5_0, .int v5_1, .int v5_2, .int v5_3, .ref qf5_4, .ref qf5_5, .ref qf5_6, .int v5_7, .int v5_8, .int v5_9, .int v5_10, .ref qf5_11, .int v5_12, .ref qf5_13])), (qf5_13, .inl (cf5_13, 144, .inl f5_13)), (qf5_0, .inl (cf5_0, nb, .inl f5_0)), (qf8, .inl (cf8, 256, .inl f8)), (qf1, .inr (4, [.ref qf1_0, .ref qf1_1])), (qf1_1, .inl (cf1_1, 256, .inl f1_1)), (h0, .inr (11, [.ref qf0, .ref qf1, .int v2, .int v3, .int v4, .ref qf5, .int v6, .int u14_1, .ref qf8, .ref qf9, .ref qf10, .ref qf11, .ref qf12, .ref qf13, .ref qf14, .ref qf15, .int v16, .int v17, .int v18, .int v19, .int v20]))] := hD
                  replace hK : va_K (dC, dI) vwCl [(cf12, .int), (cf5_13, .int), (cf5_0, .byte), (cf8, .int), (cf1_1, .boolean)] s := hK
                  obtain rfl := hw
                  have hr0 := Option.some.inj hsp
                  clear hsp
                  obtain ⟨hq0, hr1⟩ := Prod.mk.inj hr0
                  clear hr0
                  subst hq0
                  subst hr1
                  have hP9 := hP.sub (ws' := [(h0, .inr (11, [.ref qf0, .ref qf1, .int v2, .int v3, .int v4, .ref qf5, .int v6, .int u14_1, .ref qf8, .ref qf9, .ref qf10, .ref qf11, .ref qf12, .ref qf13, .ref qf14, .ref qf15, .int v16, .int v17, .int v18, .int v19, .int v20])), (qf5, .inr (3, [.ref qf5_0, .int v5_1, .int v5_2, .int v5_3, .ref qf5_4, .ref qf5_5, .ref qf5_6, .int v5_7, .int v5_8, .int v5_9, .int v5_10, .ref qf5_11, .int v5_12, .ref qf5_13])), (qf5_13, .inl (cf5_13, 144, .inl f5_13)), (qf5_0, .inl (cf5_0, nb, .inl f5_0)), (qf12, .inl (cf12, 1500, .inl f12)), (qf8, .inl (cf8, 256, .inl f8)), (qf1, .inr (4, [.ref qf1_0, .ref qf1_1])), (qf1_1, .inl (cf1_1, 256, .inl f1_1))]) [7, 1, 2, 3, 0, 4, 5, 6] rfl
                  have hD9 := hD.sub (ws' := [(h0, .inr (11, [.ref qf0, .ref qf1, .int v2, .int v3, .int v4, .ref qf5, .int v6, .int u14_1, .ref qf8, .ref qf9, .ref qf10, .ref qf11, .ref qf12, .ref qf13, .ref qf14, .ref qf15, .int v16, .int v17, .int v18, .int v19, .int v20])), (qf5, .inr (3, [.ref qf5_0, .int v5_1, .int v5_2, .int v5_3, .ref qf5_4, .ref qf5_5, .ref qf5_6, .int v5_7, .int v5_8, .int v5_9, .int v5_10, .ref qf5_11, .int v5_12, .ref qf5_13])), (qf5_13, .inl (cf5_13, 144, .inl f5_13)), (qf5_0, .inl (cf5_0, nb, .inl f5_0)), (qf12, .inl (cf12, 1500, .inl f12)), (qf8, .inl (cf8, 256, .inl f8)), (qf1, .inr (4, [.ref qf1_0, .ref qf1_1])), (qf1_1, .inl (cf1_1, 256, .inl f1_1))]) [7, 1, 2, 3, 0, 4, 5, 6] (by decide) rfl
                  have hK9 := hK.sub (tys' := [(cf5_13, .int), (cf5_0, .byte), (cf12, .int), (cf8, .int), (cf1_1, .boolean)]) [1, 2, 0, 3, 4] rfl
                  exact W.iret hx hb hr (fun t ht hW => ⟨⟨(u14_0), (), rfl, rfl, by rw [ht]; exact hP9, va_K.moved hW.alike hK9, hD9⟩, hS.F ht⟩) hS.2.2 dX11_proveHandlers_107
                · rw [if_neg (by decide)] at hsp
                  refine lv_if_ne (tgt := 108) hx hb dX11_proveHandlers_97 (by decide) (fun c_27 => ?_) (fun c_27 => (show False by revert c_27; decide).elim)
                  refine lv_iinc (v := (l1_2 + 1)) (lv' := [(1, .int (l1_2 + 1)), (5, .int 1), (4, .int u4_0), (3, .int u3_0), (2, .int u2_0), (0, .ref h0)]) hx hb dX11_proveHandlers_108 hl (k := 4) rfl rfl (by decide) rfl (fun ls hl => ?_)
                  refine lv_goto (tgt := 2) hx hb dX11_proveHandlers_111 (by decide) ?_
                  exact ih_2 H locs ls (l1_2 + 1) x7_2 (lv_sub hl [0, 5] rfl) hS (hD.sub (ws' := [(h0, .inr (11, [.ref qf0, .ref qf1, .int v2, .int v3, .int v4, .ref qf5, .int v6, .int x7_2, .ref qf8, .ref qf9, .ref qf10, .ref qf11, .ref qf12, .ref qf13, .ref qf14, .ref qf15, .int v16, .int v17, .int v18, .int v19, .int v20])), (qf5, .inr (3, [.ref qf5_0, .int v5_1, .int v5_2, .int v5_3, .ref qf5_4, .ref qf5_5, .ref qf5_6, .int v5_7, .int v5_8, .int v5_9, .int v5_10, .ref qf5_11, .int v5_12, .ref qf5_13])), (qf5_13, .inl (cf5_13, 144, .inl f5_13)), (qf5_0, .inl (cf5_0, nb, .inl f5_0)), (qf12, .inl (cf12, 1500, .inl f12)), (qf8, .inl (cf8, 256, .inl f8)), (qf1, .inr (4, [.ref qf1_0, .ref qf1_1])), (qf1_1, .inl (cf1_1, 256, .inl f1_1))]) [1, 2, 3, 4, 0, 5, 6, 7] (by decide) rfl) (hP.sub (ws' := [(h0, .inr (11, [.ref qf0, .ref qf1, .int v2, .int v3, .int v4, .ref qf5, .int v6, .int x7_2, .ref qf8, .ref qf9, .ref qf10, .ref qf11, .ref qf12, .ref qf13, .ref qf14, .ref qf15, .int v16, .int v17, .int v18, .int v19, .int v20])), (qf5, .inr (3, [.ref qf5_0, .int v5_1, .int v5_2, .int v5_3, .ref qf5_4, .ref qf5_5, .ref qf5_6, .int v5_7, .int v5_8, .int v5_9, .int v5_10, .ref qf5_11, .int v5_12, .ref qf5_13])), (qf5_13, .inl (cf5_13, 144, .inl f5_13)), (qf5_0, .inl (cf5_0, nb, .inl f5_0)), (qf12, .inl (cf12, 1500, .inl f12)), (qf8, .inl (cf8, 256, .inl f8)), (qf1, .inr (4, [.ref qf1_0, .ref qf1_1])), (qf1_1, .inl (cf1_1, 256, .inl f1_1))]) [1, 2, 3, 4, 0, 5, 6, 7] rfl) hsp
        · rw [if_neg (by decide)] at hsp
          refine lv_if_ne (tgt := 58) hx hb dX11_proveHandlers_47 (by decide) (fun c_28 => ?_) (fun c_28 => (show False by revert c_28; decide).elim)
          refine lv_iload_n hx hb dX11_proveHandlers_58 rfl (lv_at hl 2 rfl) ?_
          refine lv_iload_n hx hb dX11_proveHandlers_59 rfl (lv_at hl 1 rfl) ?_
          refine lv_icmp_ge (tgt := 67) hx hb dX11_proveHandlers_60 (by decide) (fun c_29 => ?_) (fun c_29 => ?_)
          · rw [if_pos c_29] at hsp
            refine lv_iconst (v := 0) hx hb dX11_proveHandlers_67 (by decide) ?_
            refine lv_istore (lv' := [(5, .int 0), (4, .int u4_0), (3, .int u3_0), (2, .int u2_0), (1, .int l1_2), (0, .ref h0)]) hx hb dX11_proveHandlers_68 hl (by decide) rfl (fun ls hl => ?_)
            refine lv_iload hx hb dX11_proveHandlers_70 (lv_at hl 0 rfl) ?_
            refine lv_if_eq (tgt := 100) hx hb dX11_proveHandlers_72 (by decide) (fun c_30 => ?_) (fun c_30 => (show False by revert c_30; decide).elim)
            refine lv_aload_n hx hb dX11_proveHandlers_100 rfl (lv_at hl 5 rfl) ?_
            refine lv_bipush (v := 8) hx hb dX11_proveHandlers_101 (by decide) ?_
            refine lv_iload_n hx hb dX11_proveHandlers_103 rfl (lv_at hl 4 rfl) ?_
            obtain ⟨⟨u15_0, u15_1⟩, hu_15, hsp⟩ := ox_bind hsp
            try dsimp only at hsp
            have hPc := hP.sub (ws' := [(h0, .inr (11, [.ref qf0, .ref qf1, .int v2, .int v3, .int v4, .ref qf5, .int v6, .int x7_2, .ref qf8, .ref qf9, .ref qf10, .ref qf11, .ref qf12, .ref qf13, .ref qf14, .ref qf15, .int v16, .int v17, .int v18, .int v19, .int v20]))]) [6] rfl
            have hDc := hD.sub (ws' := [(h0, .inr (11, [.ref qf0, .ref qf1, .int v2, .int v3, .int v4, .ref qf5, .int v6, .int x7_2, .ref qf8, .ref qf9, .ref qf10, .ref qf11, .ref qf12, .ref qf13, .ref qf14, .ref qf15, .int v16, .int v17, .int v18, .int v19, .int v20]))]) [6] (by decide) rfl
            have hKc := hK.sub (tys' := []) [] rfl
            have hFc := va_free (wc := [(h0, .inr (11, [.ref qf0, .ref qf1, .int v2, .int v3, .int v4, .ref qf5, .int v6, .int x7_2, .ref qf8, .ref qf9, .ref qf10, .ref qf11, .ref qf12, .ref qf13, .ref qf14, .ref qf15, .int v16, .int v17, .int v18, .int v19, .int v20]))]) hD hS hA [6] rfl
            refine va_calli (va_runV (As := [.int 8, .int l1_2]) (rest := []) ⟨hx, hb, hml, hown, hts⟩ (t11_at l dC dI H.size h0 8 l1_2 qf0 qf1 v2 v3 v4 qf5 v6 x7_2 qf8 qf9 qf10 qf11 qf12 qf13 qf14 qf15 v16 v17 v18 v19 v20 nf u15_0 u15_1 hu_15) (cwV 2 hts gv_h3_41 rfl rfl rfl (by decide +kernel) ⟨Nat.le_of_ble_eq_true rfl, Nat.le_of_ble_eq_true rfl⟩) ⟨fun a U g mk q => by obtain ⟨q0, q1, qP, qK, qD⟩ := q; exact ⟨q0, q1, qP, va_K.moved (u := U) (U := U.calling g mk a) (Vm.Alike.refl U.vm) qK, qD⟩, va_recv hKc hPc (ci := 11) (q0 := 0) rfl rfl, fun U hU hW => ⟨rfl, by rw [hU], by rw [hU]; exact hPc, va_K.moved hW.alike hKc, hDc.weaken (fun _ _ _ _ => trivial)⟩⟩ rfl rfl hl.1 rfl (lv_room (Nat.le_of_ble_eq_true rfl)) dX11_proveHandlers_104 ⟨Nat.le_of_ble_eq_true rfl, Nat.le_of_ble_eq_true rfl⟩) hS (fun q _ h => hFc q h) hFc ?_
            clear hS
            intro r_31 u t H1 locs ht hvm hw hB hz1 hk1 hS
            obtain ⟨⟩ := u
            obtain ⟨hP1, hK1, hD1⟩ := hB
            rw [ht] at hP1
            have hK1 := va_K.moved hvm.symm hK1
            try dsimp only at hw
            have hPD := va_join (wr := [(qf8, .inl (cf8, 256, .inl f8)), (qf1, .inr (4, [.ref qf1_0, .ref qf1_1])), (qf1_1, .inl (cf1_1, 256, .inl f1_1)), (qf5, .inr (3, [.ref qf5_0, .int v5_1, .int v5_2, .int v5_3, .ref qf5_4, .ref qf5_5, .ref qf5_6, .int v5_7, .int v5_8, .int v5_9, .int v5_10, .ref qf5_11, .int v5_12, .ref qf5_13])), (qf5_13, .inl (cf5_13, 144, .inl f5_13)), (qf5_0, .inl (cf5_0, nb, .inl f5_0)), (qf12, .inl (cf12, 1500, .inl f12))]) (w1 := [(h0, .inr (11, [.ref qf0, .ref qf1, .int v2, .int v3, .int v4, .ref qf5, .int v6, .int u15_1, .ref qf8, .ref qf9, .ref qf10, .ref qf11, .ref qf12, .ref qf13, .ref qf14, .ref qf15, .int v16, .int v17, .int v18, .int v19, .int v20]))]) hP hD [6] [0, 1, 2, 3, 4, 5, 7] rfl rfl (by decide) (by decide) hk1 hFc hP1 hD1
            clear hP hD
            obtain ⟨hP, hD⟩ := hPD
            replace hK := (hK.sub (tys' := [(cf8, .int), (cf1_1, .boolean), (cf5_13, .int), (cf5_0, .byte), (cf12, .int)]) [0, 1, 2, 3, 4] rfl).app hK1
            clear hPc hDc hKc hFc hP1 hK1 hD1 hz1 hk1 ht hvm
            generalize H1 = H at hP hS ⊢
            replace hP : va_P (dC, dI) vwCl [(qf8, .inl (cf8, 256, .inl f8)), (qf1, .inr (4, [.ref qf1_0, .ref qf1_1])), (qf1_1, .inl (cf1_1, 256, .inl f1_1)), (qf5, .inr (3, [.ref qf5_0, .int v5_1, .int v5_2, .int v5_3, .ref qf5_4, .ref qf5_5, .ref qf5_6, .int v5_7, .int v5_8, .int v5_9, .int v5_10, .ref qf5_11, .int v5_12, .ref qf5_13])), (qf5_13, .inl (cf5_13, 144, .inl f5_13)), (qf5_0, .inl (cf5_0, nb, .inl f5_0)), (qf12, .inl (cf12, 1500, .inl f12)), (h0, .inr (11, [.ref qf0, .ref qf1, .int v2, .int v3, .int v4, .ref qf5, .int v6, .int u15_1, .ref qf8, .ref qf9, .ref qf10, .ref qf11, .ref qf12, .ref qf13, .ref qf14, .ref qf15, .int v16, .int v17, .int v18, .int v19, .int v20]))] H := hP
            replace hD : va_D A [(qf8, .inl (cf8, 256, .inl f8)), (qf1, .inr (4, [.ref qf1_0, .ref qf1_1])), (qf1_1, .inl (cf1_1, 256, .inl f1_1)), (qf5, .inr (3, [.ref qf5_0, .int v5_1, .int v5_2, .int v5_3, .ref qf5_4, .ref qf5_5, .ref qf5_6, .int v5_7, .int v5_8, .int v5_9, .int v5_10, .ref qf5_11, .int v5_12, .ref qf5_13])), (qf5_13, .inl (cf5_13, 144, .inl f5_13)), (qf5_0, .inl (cf5_0, nb, .inl f5_0)), (qf12, .inl (cf12, 1500, .inl f12)), (h0, .inr (11, [.ref qf0, .ref qf1, .int v2, .int v3, .int v4, .ref qf5, .int v6, .int u15_1, .ref qf8, .ref qf9, .ref qf10, .ref qf11, .ref qf12, .ref qf13, .ref qf14, .ref qf15, .int v16, .int v17, .int v18, .int v19, .int v20]))] := hD
            replace hK : va_K (dC, dI) vwCl [(cf8, .int), (cf1_1, .boolean), (cf5_13, .int), (cf5_0, .byte), (cf12, .int)] s := hK
            obtain rfl := hw
            have hr0 := Option.some.inj hsp
            clear hsp
            obtain ⟨hq0, hr1⟩ := Prod.mk.inj hr0
            clear hr0
            subst hq0
            subst hr1
            have hP9 := hP.sub (ws' := [(h0, .inr (11, [.ref qf0, .ref qf1, .int v2, .int v3, .int v4, .ref qf5, .int v6, .int u15_1, .ref qf8, .ref qf9, .ref qf10, .ref qf11, .ref qf12, .ref qf13, .ref qf14, .ref qf15, .int v16, .int v17, .int v18, .int v19, .int v20])), (qf5, .inr (3, [.ref qf5_0, .int v5_1, .int v5_2, .int v5_3, .ref qf5_4, .ref qf5_5, .ref qf5_6, .int v5_7, .int v5_8, .int v5_9, .int v5_10, .ref qf5_11, .int v5_12, .ref qf5_13])), (qf5_13, .inl (cf5_13, 144, .inl f5_13)), (qf5_0, .inl (cf5_0, nb, .inl f5_0)), (qf12, .inl (cf12, 1500, .inl f12)), (qf8, .inl (cf8, 256, .inl f8)), (qf1, .inr (4, [.ref qf1_0, .ref qf1_1])), (qf1_1, .inl (cf1_1, 256, .inl f1_1))]) [7, 3, 4, 5, 6, 0, 1, 2] rfl
            have hD9 := hD.sub (ws' := [(h0, .inr (11, [.ref qf0, .ref qf1, .int v2, .int v3, .int v4, .ref qf5, .int v6, .int u15_1, .ref qf8, .ref qf9, .ref qf10, .ref qf11, .ref qf12, .ref qf13, .ref qf14, .ref qf15, .int v16, .int v17, .int v18, .int v19, .int v20])), (qf5, .inr (3, [.ref qf5_0, .int v5_1, .int v5_2, .int v5_3, .ref qf5_4, .ref qf5_5, .ref qf5_6, .int v5_7, .int v5_8, .int v5_9, .int v5_10, .ref qf5_11, .int v5_12, .ref qf5_13])), (qf5_13, .inl (cf5_13, 144, .inl f5_13)), (qf5_0, .inl (cf5_0, nb, .inl f5_0)), (qf12, .inl (cf12, 1500, .inl f12)), (qf8, .inl (cf8, 256, .inl f8)), (qf1, .inr (4, [.ref qf1_0, .ref qf1_1])), (qf1_1, .inl (cf1_1, 256, .inl f1_1))]) [7, 3, 4, 5, 6, 0, 1, 2] (by decide) rfl
            have hK9 := hK.sub (tys' := [(cf5_13, .int), (cf5_0, .byte), (cf12, .int), (cf8, .int), (cf1_1, .boolean)]) [2, 3, 4, 0, 1] rfl
            exact W.iret hx hb hr (fun t ht hW => ⟨⟨(u15_0), (), rfl, rfl, by rw [ht]; exact hP9, va_K.moved hW.alike hK9, hD9⟩, hS.F ht⟩) hS.2.2 dX11_proveHandlers_107
          · rw [if_neg c_29] at hsp
            refine lv_iconst (v := 1) hx hb dX11_proveHandlers_63 (by decide) ?_
            refine lv_goto (tgt := 68) hx hb dX11_proveHandlers_64 (by decide) ?_
            refine lv_istore (lv' := [(5, .int 1), (4, .int u4_0), (3, .int u3_0), (2, .int u2_0), (1, .int l1_2), (0, .ref h0)]) hx hb dX11_proveHandlers_68 hl (by decide) rfl (fun ls hl => ?_)
            refine lv_iload hx hb dX11_proveHandlers_70 (lv_at hl 0 rfl) ?_
            refine lv_if_eq (tgt := 100) hx hb dX11_proveHandlers_72 (by decide) (fun c_32 => (show False by revert c_32; decide).elim) (fun c_32 => ?_)
            refine lv_aload_n hx hb dX11_proveHandlers_75 rfl (lv_at hl 5 rfl) ?_
            refine lv_iload hx hb dX11_proveHandlers_76 (lv_at hl 1 rfl) ?_
            obtain ⟨u16_0, hu_16, hsp⟩ := ox_bind hsp
            try dsimp only at hsp
            have hPc := hP.sub (ws' := [(h0, .inr (11, [.ref qf0, .ref qf1, .int v2, .int v3, .int v4, .ref qf5, .int v6, .int x7_2, .ref qf8, .ref qf9, .ref qf10, .ref qf11, .ref qf12, .ref qf13, .ref qf14, .ref qf15, .int v16, .int v17, .int v18, .int v19, .int v20])), (qf12, .inl (cf12, 1500, .inl f12))]) [6, 7] rfl
            have hDc := hD.sub (ws' := [(h0, .inr (11, [.ref qf0, .ref qf1, .int v2, .int v3, .int v4, .ref qf5, .int v6, .int x7_2, .ref qf8, .ref qf9, .ref qf10, .ref qf11, .ref qf12, .ref qf13, .ref qf14, .ref qf15, .int v16, .int v17, .int v18, .int v19, .int v20])), (qf12, .inl (cf12, 1500, .inl f12))]) [6, 7] (by decide) rfl
            have hKc := hK.sub (tys' := [(cf12, .int)]) [4] rfl
            have hFc := va_free (wc := [(h0, .inr (11, [.ref qf0, .ref qf1, .int v2, .int v3, .int v4, .ref qf5, .int v6, .int x7_2, .ref qf8, .ref qf9, .ref qf10, .ref qf11, .ref qf12, .ref qf13, .ref qf14, .ref qf15, .int v16, .int v17, .int v18, .int v19, .int v20])), (qf12, .inl (cf12, 1500, .inl f12))]) hD hS hA [6, 7] rfl
            refine va_calli (va_runV (As := [.int u4_0]) (rest := []) ⟨hx, hb, hml, hown, hts⟩ (t11_frameAt l dC dI H.size h0 u4_0 qf0 qf1 v2 v3 v4 qf5 v6 x7_2 qf8 qf9 qf10 qf11 qf12 qf13 qf14 qf15 v16 v17 v18 v19 v20 cf12 f12 nf u16_0 hu_16) (cwV 1 hts gv_h3_43 rfl rfl rfl (by decide +kernel) ⟨Nat.le_of_ble_eq_true rfl, Nat.le_of_ble_eq_true rfl⟩) ⟨fun a U g mk q => by obtain ⟨q0, q1, qP, qK, qD⟩ := q; exact ⟨q0, q1, qP, va_K.moved (u := U) (U := U.calling g mk a) (Vm.Alike.refl U.vm) qK, qD⟩, va_recv hKc hPc (ci := 11) (q0 := 0) rfl rfl, fun U hU hW => ⟨rfl, by rw [hU], by rw [hU]; exact hPc, va_K.moved hW.alike hKc, hDc.weaken (fun _ _ _ _ => trivial)⟩⟩ rfl rfl hl.1 rfl (lv_room (Nat.le_of_ble_eq_true rfl)) dX11_proveHandlers_78 ⟨Nat.le_of_ble_eq_true rfl, Nat.le_of_ble_eq_true rfl⟩) hS (fun q _ h => hFc q h) hFc ?_
            clear hS
            intro r_33 u t H1 locs ht hvm hw hB hz1 hk1 hS
            obtain ⟨⟩ := u
            obtain ⟨hP1, hK1, hD1⟩ := hB
            rw [ht] at hP1
            have hK1 := va_K.moved hvm.symm hK1
            try dsimp only at hw
            have hPD := va_join (wr := [(qf8, .inl (cf8, 256, .inl f8)), (qf1, .inr (4, [.ref qf1_0, .ref qf1_1])), (qf1_1, .inl (cf1_1, 256, .inl f1_1)), (qf5, .inr (3, [.ref qf5_0, .int v5_1, .int v5_2, .int v5_3, .ref qf5_4, .ref qf5_5, .ref qf5_6, .int v5_7, .int v5_8, .int v5_9, .int v5_10, .ref qf5_11, .int v5_12, .ref qf5_13])), (qf5_13, .inl (cf5_13, 144, .inl f5_13)), (qf5_0, .inl (cf5_0, nb, .inl f5_0))]) (w1 := [(h0, .inr (11, [.ref qf0, .ref qf1, .int v2, .int v3, .int v4, .ref qf5, .int v6, .int x7_2, .ref qf8, .ref qf9, .ref qf10, .ref qf11, .ref qf12, .ref qf13, .ref qf14, .ref qf15, .int v16, .int v17, .int v18, .int v19, .int v20])), (qf12, .inl (cf12, 1500, .inl f12))]) hP hD [6, 7] [0, 1, 2, 3, 4, 5] rfl rfl (by decide) (by decide) hk1 hFc hP1 hD1
            clear hP hD
            obtain ⟨hP, hD⟩ := hPD
            replace hK := (hK.sub (tys' := [(cf8, .int), (cf1_1, .boolean), (cf5_13, .int), (cf5_0, .byte)]) [0, 1, 2, 3] rfl).app hK1
            clear hPc hDc hKc hFc hP1 hK1 hD1 hz1 hk1 ht hvm
            generalize H1 = H at hP hS ⊢
            replace hP : va_P (dC, dI) vwCl [(qf8, .inl (cf8, 256, .inl f8)), (qf1, .inr (4, [.ref qf1_0, .ref qf1_1])), (qf1_1, .inl (cf1_1, 256, .inl f1_1)), (qf5, .inr (3, [.ref qf5_0, .int v5_1, .int v5_2, .int v5_3, .ref qf5_4, .ref qf5_5, .ref qf5_6, .int v5_7, .int v5_8, .int v5_9, .int v5_10, .ref qf5_11, .int v5_12, .ref qf5_13])), (qf5_13, .inl (cf5_13, 144, .inl f5_13)), (qf5_0, .inl (cf5_0, nb, .inl f5_0)), (h0, .inr (11, [.ref qf0, .ref qf1, .int v2, .int v3, .int v4, .ref qf5, .int v6, .int x7_2, .ref qf8, .ref qf9, .ref qf10, .ref qf11, .ref qf12, .ref qf13, .ref qf14, .ref qf15, .int v16, .int v17, .int v18, .int v19, .int v20])), (qf12, .inl (cf12, 1500, .inl f12))] H := hP
            replace hD : va_D A [(qf8, .inl (cf8, 256, .inl f8)), (qf1, .inr (4, [.ref qf1_0, .ref qf1_1])), (qf1_1, .inl (cf1_1, 256, .inl f1_1)), (qf5, .inr (3, [.ref qf5_0, .int v5_1, .int v5_2, .int v5_3, .ref qf5_4, .ref qf5_5, .ref qf5_6, .int v5_7, .int v5_8, .int v5_9, .int v5_10, .ref qf5_11, .int v5_12, .ref qf5_13])), (qf5_13, .inl (cf5_13, 144, .inl f5_13)), (qf5_0, .inl (cf5_0, nb, .inl f5_0)), (h0, .inr (11, [.ref qf0, .ref qf1, .int v2, .int v3, .int v4, .ref qf5, .int v6, .int x7_2, .ref qf8, .ref qf9, .ref qf10, .ref qf11, .ref qf12, .ref qf13, .ref qf14, .ref qf15, .int v16, .int v17, .int v18, .int v19, .int v20])), (qf12, .inl (cf12, 1500, .inl f12))] := hD
            replace hK : va_K (dC, dI) vwCl [(cf8, .int), (cf1_1, .boolean), (cf5_13, .int), (cf5_0, .byte), (cf12, .int)] s := hK
            obtain rfl := hw
            refine lv_if_lt (tgt := 100) hx hb dX11_proveHandlers_81 (by decide) (fun c_34 => ?_) (fun c_34 => ?_)
            · rw [if_pos c_34] at hsp
              refine lv_aload_n hx hb dX11_proveHandlers_100 rfl (lv_at hl 5 rfl) ?_
              refine lv_bipush (v := 8) hx hb dX11_proveHandlers_101 (by decide) ?_
              refine lv_iload_n hx hb dX11_proveHandlers_103 rfl (lv_at hl 4 rfl) ?_
              obtain ⟨⟨u17_0, u17_1⟩, hu_17, hsp⟩ := ox_bind hsp
              try dsimp only at hsp
              have hPc := hP.sub (ws' := [(h0, .inr (11, [.ref qf0, .ref qf1, .int v2, .int v3, .int v4, .ref qf5, .int v6, .int x7_2, .ref qf8, .ref qf9, .ref qf10, .ref qf11, .ref qf12, .ref qf13, .ref qf14, .ref qf15, .int v16, .int v17, .int v18, .int v19, .int v20]))]) [6] rfl
              have hDc := hD.sub (ws' := [(h0, .inr (11, [.ref qf0, .ref qf1, .int v2, .int v3, .int v4, .ref qf5, .int v6, .int x7_2, .ref qf8, .ref qf9, .ref qf10, .ref qf11, .ref qf12, .ref qf13, .ref qf14, .ref qf15, .int v16, .int v17, .int v18, .int v19, .int v20]))]) [6] (by decide) rfl
              have hKc := hK.sub (tys' := []) [] rfl
              have hFc := va_free (wc := [(h0, .inr (11, [.ref qf0, .ref qf1, .int v2, .int v3, .int v4, .ref qf5, .int v6, .int x7_2, .ref qf8, .ref qf9, .ref qf10, .ref qf11, .ref qf12, .ref qf13, .ref qf14, .ref qf15, .int v16, .int v17, .int v18, .int v19, .int v20]))]) hD hS hA [6] rfl
              refine va_calli (va_runV (As := [.int 8, .int l1_2]) (rest := []) ⟨hx, hb, hml, hown, hts⟩ (t11_at l dC dI H.size h0 8 l1_2 qf0 qf1 v2 v3 v4 qf5 v6 x7_2 qf8 qf9 qf10 qf11 qf12 qf13 qf14 qf15 v16 v17 v18 v19 v20 nf u17_0 u17_1 hu_17) (cwV 2 hts gv_h3_41 rfl rfl rfl (by decide +kernel) ⟨Nat.le_of_ble_eq_true rfl, Nat.le_of_ble_eq_true rfl⟩) ⟨fun a U g mk q => by obtain ⟨q0, q1, qP, qK, qD⟩ := q; exact ⟨q0, q1, qP, va_K.moved (u := U) (U := U.calling g mk a) (Vm.Alike.refl U.vm) qK, qD⟩, va_recv hKc hPc (ci := 11) (q0 := 0) rfl rfl, fun U hU hW => ⟨rfl, by rw [hU], by rw [hU]; exact hPc, va_K.moved hW.alike hKc, hDc.weaken (fun _ _ _ _ => trivial)⟩⟩ rfl rfl hl.1 rfl (lv_room (Nat.le_of_ble_eq_true rfl)) dX11_proveHandlers_104 ⟨Nat.le_of_ble_eq_true rfl, Nat.le_of_ble_eq_true rfl⟩) hS (fun q _ h => hFc q h) hFc ?_
              clear hS
              intro r_35 u t H1 locs ht hvm hw hB hz1 hk1 hS
              obtain ⟨⟩ := u
              obtain ⟨hP1, hK1, hD1⟩ := hB
              rw [ht] at hP1
              have hK1 := va_K.moved hvm.symm hK1
              try dsimp only at hw
              have hPD := va_join (wr := [(qf8, .inl (cf8, 256, .inl f8)), (qf1, .inr (4, [.ref qf1_0, .ref qf1_1])), (qf1_1, .inl (cf1_1, 256, .inl f1_1)), (qf5, .inr (3, [.ref qf5_0, .int v5_1, .int v5_2, .int v5_3, .ref qf5_4, .ref qf5_5, .ref qf5_6, .int v5_7, .int v5_8, .int v5_9, .int v5_10, .ref qf5_11, .int v5_12, .ref qf5_13])), (qf5_13, .inl (cf5_13, 144, .inl f5_13)), (qf5_0, .inl (cf5_0, nb, .inl f5_0)), (qf12, .inl (cf12, 1500, .inl f12))]) (w1 := [(h0, .inr (11, [.ref qf0, .ref qf1, .int v2, .int v3, .int v4, .ref qf5, .int v6, .int u17_1, .ref qf8, .ref qf9, .ref qf10, .ref qf11, .ref qf12, .ref qf13, .ref qf14, .ref qf15, .int v16, .int v17, .int v18, .int v19, .int v20]))]) hP hD [6] [0, 1, 2, 3, 4, 5, 7] rfl rfl (by decide) (by decide) hk1 hFc hP1 hD1
              clear hP hD
              obtain ⟨hP, hD⟩ := hPD
              replace hK := (hK.sub (tys' := [(cf8, .int), (cf1_1, .boolean), (cf5_13, .int), (cf5_0, .byte), (cf12, .int)]) [0, 1, 2, 3, 4] rfl).app hK1
              clear hPc hDc hKc hFc hP1 hK1 hD1 hz1 hk1 ht hvm
              generalize H1 = H at hP hS ⊢
              replace hP : va_P (dC, dI) vwCl [(qf8, .inl (cf8, 256, .inl f8)), (qf1, .inr (4, [.ref qf1_0, .ref qf1_1])), (qf1_1, .inl (cf1_1, 256, .inl f1_1)), (qf5, .inr (3, [.ref qf5_0, .int v5_1, .int v5_2, .int v5_3, .ref qf5_4, .ref qf5_5, .ref qf5_6, .int v5_7, .int v5_8, .int v5_9, .int v5_10, .ref qf5_11, .int v5_12, .ref qf5_13])), (qf5_13, .inl (cf5_13, 144, .inl f5_13)), (qf5_0, .inl (cf5_0, nb, .inl f5_0)), (qf12, .inl (cf12, 1500, .inl f12)), (h0, .inr (11, [.ref qf0, .ref qf1, .int v2, .int v3, .int v4, .ref qf5, .int v6, .int u17_1, .ref qf8, .ref qf9, .ref qf10, .ref qf11, .ref qf12, .ref qf13, .ref qf14, .ref qf15, .int v16, .int v17, .int v18, .int v19, .int v20]))] H := hP
              replace hD : va_D A [(qf8, .inl (cf8, 256, .inl f8)), (qf1, .inr (4, [.ref qf1_0, .ref qf1_1])), (qf1_1, .inl (cf1_1, 256, .inl f1_1)), (qf5, .inr (3, [.ref qf5_0, .int v5_1, .int v5_2, .int v5_3, .ref qf5_4, .ref qf5_5, .ref qf5_6, .int v5_7, .int v5_8, .int v5_9, .int v5_10, .ref qf5_11, .int v5_12, .ref qf5_13])), (qf5_13, .inl (cf5_13, 144, .inl f5_13)), (qf5_0, .inl (cf5_0, nb, .inl f5_0)), (qf12, .inl (cf12, 1500, .inl f12)), (h0, .inr (11, [.ref qf0, .ref qf1, .int v2, .int v3, .int v4, .ref qf5, .int v6, .int u17_1, .ref qf8, .ref qf9, .ref qf10, .ref qf11, .ref qf12, .ref qf13, .ref qf14, .ref qf15, .int v16, .int v17, .int v18, .int v19, .int v20]))] := hD
              replace hK : va_K (dC, dI) vwCl [(cf8, .int), (cf1_1, .boolean), (cf5_13, .int), (cf5_0, .byte), (cf12, .int)] s := hK
              obtain rfl := hw
              have hr0 := Option.some.inj hsp
              clear hsp
              obtain ⟨hq0, hr1⟩ := Prod.mk.inj hr0
              clear hr0
              subst hq0
              subst hr1
              have hP9 := hP.sub (ws' := [(h0, .inr (11, [.ref qf0, .ref qf1, .int v2, .int v3, .int v4, .ref qf5, .int v6, .int u17_1, .ref qf8, .ref qf9, .ref qf10, .ref qf11, .ref qf12, .ref qf13, .ref qf14, .ref qf15, .int v16, .int v17, .int v18, .int v19, .int v20])), (qf5, .inr (3, [.ref qf5_0, .int v5_1, .int v5_2, .int v5_3, .ref qf5_4, .ref qf5_5, .ref qf5_6, .int v5_7, .int v5_8, .int v5_9, .int v5_10, .ref qf5_11, .int v5_12, .ref qf5_13])), (qf5_13, .inl (cf5_13, 144, .inl f5_13)), (qf5_0, .inl (cf5_0, nb, .inl f5_0)), (qf12, .inl (cf12, 1500, .inl f12)), (qf8, .inl (cf8, 256, .inl f8)), (qf1, .inr (4, [.ref qf1_0, .ref qf1_1])), (qf1_1, .inl (cf1_1, 256, .inl f1_1))]) [7, 3, 4, 5, 6, 0, 1, 2] rfl
              have hD9 := hD.sub (ws' := [(h0, .inr (11, [.ref qf0, .ref qf1, .int v2, .int v3, .int v4, .ref qf5, .int v6, .int u17_1, .ref qf8, .ref qf9, .ref qf10, .ref qf11, .ref qf12, .ref qf13, .ref qf14, .ref qf15, .int v16, .int v17, .int v18, .int v19, .int v20])), (qf5, .inr (3, [.ref qf5_0, .int v5_1, .int v5_2, .int v5_3, .ref qf5_4, .ref qf5_5, .ref qf5_6, .int v5_7, .int v5_8, .int v5_9, .int v5_10, .ref qf5_11, .int v5_12, .ref qf5_13])), (qf5_13, .inl (cf5_13, 144, .inl f5_13)), (qf5_0, .inl (cf5_0, nb, .inl f5_0)), (qf12, .inl (cf12, 1500, .inl f12)), (qf8, .inl (cf8, 256, .inl f8)), (qf1, .inr (4, [.ref qf1_0, .ref qf1_1])), (qf1_1, .inl (cf1_1, 256, .inl f1_1))]) [7, 3, 4, 5, 6, 0, 1, 2] (by decide) rfl
              have hK9 := hK.sub (tys' := [(cf5_13, .int), (cf5_0, .byte), (cf12, .int), (cf8, .int), (cf1_1, .boolean)]) [2, 3, 4, 0, 1] rfl
              exact W.iret hx hb hr (fun t ht hW => ⟨⟨(u17_0), (), rfl, rfl, by rw [ht]; exact hP9, va_K.moved hW.alike hK9, hD9⟩, hS.F ht⟩) hS.2.2 dX11_proveHandlers_107
            · rw [if_neg c_34] at hsp
              refine lv_aload_n hx hb dX11_proveHandlers_84 rfl (lv_at hl 5 rfl) ?_
              refine va_get (D := (dC, dI)) (ci := 11) (v := .ref qf1) (C := RX11) (T := TX11) (N := 21) hx hb hts uV_h3_X11 hown hK hP 6 rfl rfl 1 (by decide) (hts (.fieldLink RX11 60 "ClassMill$Verifier" "kin" "LClassMill$Kin;") mw_h3_200) (fun _ h9 => h9) rfl dX11_proveHandlers_85 ?_
              refine lv_aload_n hx hb dX11_proveHandlers_88 rfl (lv_at hl 5 rfl) ?_
              refine lv_iload_n hx hb dX11_proveHandlers_89 rfl (lv_at hl 4 rfl) ?_
              obtain ⟨u18_0, hu_18, hsp⟩ := ox_bind hsp
              try dsimp only at hsp
              have hPc := hP.sub (ws' := [(h0, .inr (11, [.ref qf0, .ref qf1, .int v2, .int v3, .int v4, .ref qf5, .int v6, .int x7_2, .ref qf8, .ref qf9, .ref qf10, .ref qf11, .ref qf12, .ref qf13, .ref qf14, .ref qf15, .int v16, .int v17, .int v18, .int v19, .int v20])), (qf5, .inr (3, [.ref qf5_0, .int v5_1, .int v5_2, .int v5_3, .ref qf5_4, .ref qf5_5, .ref qf5_6, .int v5_7, .int v5_8, .int v5_9, .int v5_10, .ref qf5_11, .int v5_12, .ref qf5_13])), (qf5_13, .inl (cf5_13, 144, .inl f5_13)), (qf5_0, .inl (cf5_0, nb, .inl f5_0)), (qf8, .inl (cf8, 256, .inl f8))]) [6, 3, 4, 5, 0] rfl
              have hDc := hD.sub (ws' := [(h0, .inr (11, [.ref qf0, .ref qf1, .int v2, .int v3, .int v4, .ref qf5, .int v6, .int x7_2, .ref qf8, .ref qf9, .ref qf10, .ref qf11, .ref qf12, .ref qf13, .ref qf14, .ref qf15, .int v16, .int v17, .int v18, .int v19, .int v20])), (qf5, .inr (3, [.ref qf5_0, .int v5_1, .int v5_2, .int v5_3, .ref qf5_4, .ref qf5_5, .ref qf5_6, .int v5_7, .int v5_8, .int v5_9, .int v5_10, .ref qf5_11, .int v5_12, .ref qf5_13])), (qf5_13, .inl (cf5_13, 144, .inl f5_13)), (qf5_0, .inl (cf5_0, nb, .inl f5_0)), (qf8, .inl (cf8, 256, .inl f8))]) [6, 3, 4, 5, 0] (by decide) rfl
              have hKc := hK.sub (tys' := [(cf5_13, .int), (cf5_0, .byte), (cf8, .int)]) [2, 3, 0] rfl
              have hFc := va_free (wc := [(h0, .inr (11, [.ref qf0, .ref qf1, .int v2, .int v3, .int v4, .ref qf5, .int v6, .int x7_2, .ref qf8, .ref qf9, .ref qf10, .ref qf11, .ref qf12, .ref qf13, .ref qf14, .ref qf15, .int v16, .int v17, .int v18, .int v19, .int v20])), (qf5, .inr (3, [.ref qf5_0, .int v5_1, .int v5_2, .int v5_3, .ref qf5_4, .ref qf5_5, .ref qf5_6, .int v5_7, .int v5_8, .int v5_9, .int v5_10, .ref qf5_11, .int v5_12, .ref qf5_13])), (qf5_13, .inl (cf5_13, 144, .inl f5_13)), (qf5_0, .inl (cf5_0, nb, .inl f5_0)), (qf8, .inl (cf8, 256, .inl f8))]) hD hS hA [6, 3, 4, 5, 0] rfl
              refine va_calli (va_runV (As := [.int l1_2]) (rest := [.ref qf1]) ⟨hx, hb, hml, hown, hts⟩ (t11_handlerClass l dC dI H.size h0 l1_2 qf0 qf1 v2 v3 v4 qf5 v6 x7_2 qf8 qf9 qf10 qf11 qf12 qf13 qf14 qf15 v16 v17 v18 v19 v20 qf5_0 v5_1 v5_2 v5_3 qf5_4 qf5_5 qf5_6 v5_7 v5_8 v5_9 v5_10 qf5_11 v5_12 qf5_13 cf5_13 f5_13 cf5_0 nb f5_0 cf8 f8 nf u18_0 hu_18) (cwV 1 hts gv_h3_48 rfl rfl rfl (by decide +kernel) ⟨Nat.le_of_ble_eq_true rfl, Nat.le_of_ble_eq_true rfl⟩) ⟨fun a U g mk q => by obtain ⟨q0, q1, qP, qK, qD⟩ := q; exact ⟨q0, q1, qP, va_K.moved (u := U) (U := U.calling g mk a) (Vm.Alike.refl U.vm) qK, qD⟩, va_recv hKc hPc (ci := 11) (q0 := 0) rfl rfl, fun U hU hW => ⟨rfl, by rw [hU], by rw [hU]; exact hPc, va_K.moved hW.alike hKc, hDc.weaken (fun _ _ _ _ => trivial)⟩⟩ rfl rfl hl.1 rfl (lv_room (Nat.le_of_ble_eq_true rfl)) dX11_proveHandlers_90 ⟨Nat.le_of_ble_eq_true rfl, Nat.le_of_ble_eq_true rfl⟩) hS (fun q _ h => hFc q h) hFc ?_
              clear hS
              intro r_36 u t H1 locs ht hvm hw hB hz1 hk1 hS
              obtain ⟨⟩ := u
              obtain ⟨hP1, hK1, hD1⟩ := hB
              rw [ht] at hP1
              have hK1 := va_K.moved hvm.symm hK1
              try dsimp only at hw
              have hPD := va_join (wr := [(qf1, .inr (4, [.ref qf1_0, .ref qf1_1])), (qf1_1, .inl (cf1_1, 256, .inl f1_1)), (qf12, .inl (cf12, 1500, .inl f12))]) (w1 := [(h0, .inr (11, [.ref qf0, .ref qf1, .int v2, .int v3, .int v4, .ref qf5, .int v6, .int x7_2, .ref qf8, .ref qf9, .ref qf10, .ref qf11, .ref qf12, .ref qf13, .ref qf14, .ref qf15, .int v16, .int v17, .int v18, .int v19, .int v20])), (qf5, .inr (3, [.ref qf5_0, .int v5_1, .int v5_2, .int v5_3, .ref qf5_4, .ref qf5_5, .ref qf5_6, .int v5_7, .int v5_8, .int v5_9, .int v5_10, .ref qf5_11, .int v5_12, .ref qf5_13])), (qf5_13, .inl (cf5_13, 144, .inl f5_13)), (qf5_0, .inl (cf5_0, nb, .inl f5_0)), (qf8, .inl (cf8, 256, .inl f8))]) hP hD [6, 3, 4, 5, 0] [1, 2, 7] rfl rfl (by decide) (by decide) hk1 hFc hP1 hD1
              clear hP hD
              obtain ⟨hP, hD⟩ := hPD
              replace hK := (hK.sub (tys' := [(cf1_1, .boolean), (cf12, .int)]) [1, 4] rfl).app hK1
              clear hPc hDc hKc hFc hP1 hK1 hD1 hz1 hk1 ht hvm
              generalize H1 = H at hP hS ⊢
              replace hP : va_P (dC, dI) vwCl [(qf1, .inr (4, [.ref qf1_0, .ref qf1_1])), (qf1_1, .inl (cf1_1, 256, .inl f1_1)), (qf12, .inl (cf12, 1500, .inl f12)), (h0, .inr (11, [.ref qf0, .ref qf1, .int v2, .int v3, .int v4, .ref qf5, .int v6, .int x7_2, .ref qf8, .ref qf9, .ref qf10, .ref qf11, .ref qf12, .ref qf13, .ref qf14, .ref qf15, .int v16, .int v17, .int v18, .int v19, .int v20])), (qf5, .inr (3, [.ref qf5_0, .int v5_1, .int v5_2, .int v5_3, .ref qf5_4, .ref qf5_5, .ref qf5_6, .int v5_7, .int v5_8, .int v5_9, .int v5_10, .ref qf5_11, .int v5_12, .ref qf5_13])), (qf5_13, .inl (cf5_13, 144, .inl f5_13)), (qf5_0, .inl (cf5_0, nb, .inl f5_0)), (qf8, .inl (cf8, 256, .inl f8))] H := hP
              replace hD : va_D A [(qf1, .inr (4, [.ref qf1_0, .ref qf1_1])), (qf1_1, .inl (cf1_1, 256, .inl f1_1)), (qf12, .inl (cf12, 1500, .inl f12)), (h0, .inr (11, [.ref qf0, .ref qf1, .int v2, .int v3, .int v4, .ref qf5, .int v6, .int x7_2, .ref qf8, .ref qf9, .ref qf10, .ref qf11, .ref qf12, .ref qf13, .ref qf14, .ref qf15, .int v16, .int v17, .int v18, .int v19, .int v20])), (qf5, .inr (3, [.ref qf5_0, .int v5_1, .int v5_2, .int v5_3, .ref qf5_4, .ref qf5_5, .ref qf5_6, .int v5_7, .int v5_8, .int v5_9, .int v5_10, .ref qf5_11, .int v5_12, .ref qf5_13])), (qf5_13, .inl (cf5_13, 144, .inl f5_13)), (qf5_0, .inl (cf5_0, nb, .inl f5_0)), (qf8, .inl (cf8, 256, .inl f8))] := hD
              replace hK : va_K (dC, dI) vwCl [(cf1_1, .boolean), (cf12, .int), (cf5_13, .int), (cf5_0, .byte), (cf8, .int)] s := hK
              obtain rfl := hw
              refine lv_iconst (v := 1) hx hb dX11_proveHandlers_93 (by decide) ?_
              obtain ⟨u19_0, hu_19, hsp⟩ := ox_bind hsp
              try dsimp only at hsp
              have hPc := hP.sub (ws' := [(qf1, .inr (4, [.ref qf1_0, .ref qf1_1])), (qf1_1, .inl (cf1_1, 256, .inl f1_1))]) [0, 1] rfl
              have hDc := hD.sub (ws' := [(qf1, .inr (4, [.ref qf1_0, .ref qf1_1])), (qf1_1, .inl (cf1_1, 256, .inl f1_1))]) [0, 1] (by decide) rfl
              have hKc := hK.sub (tys' := [(cf1_1, .boolean)]) [0] rfl
              have hFc := va_free (wc := [(qf1, .inr (4, [.ref qf1_0, .ref qf1_1])), (qf1_1, .inl (cf1_1, 256, .inl f1_1))]) hD hS hA [0, 1] rfl
              refine va_calli (va_runV (As := [.int u18_0, .int 1]) (rest := []) ⟨hx, hb, hml, hown, hts⟩ (t4_fits l dC dI H.size qf1 u18_0 1 qf1_0 qf1_1 cf1_1 f1_1 nf u19_0 hu_19) (cwV 2 hts gv_h3_44 rfl rfl rfl (by decide +kernel) ⟨Nat.le_of_ble_eq_true rfl, Nat.le_of_ble_eq_true rfl⟩) ⟨fun a U g mk q => by obtain ⟨q0, q1, qP, qK, qD⟩ := q; exact ⟨q0, q1, qP, va_K.moved (u := U) (U := U.calling g mk a) (Vm.Alike.refl U.vm) qK, qD⟩, va_recv hKc hPc (ci := 4) (q0 := 0) rfl rfl, fun U hU hW => ⟨rfl, by rw [hU], by rw [hU]; exact hPc, va_K.moved hW.alike hKc, hDc.weaken (fun _ _ _ _ => trivial)⟩⟩ rfl rfl hl.1 rfl (lv_room (Nat.le_of_ble_eq_true rfl)) dX11_proveHandlers_94 ⟨Nat.le_of_ble_eq_true rfl, Nat.le_of_ble_eq_true rfl⟩) hS (fun q _ h => hFc q h) hFc ?_
              clear hS
              intro r_37 u t H1 locs ht hvm hw hB hz1 hk1 hS
              obtain ⟨⟩ := u
              obtain ⟨hP1, hK1, hD1⟩ := hB
              rw [ht] at hP1
              have hK1 := va_K.moved hvm.symm hK1
              try dsimp only at hw
              have hPD := va_join (wr := [(qf12, .inl (cf12, 1500, .inl f12)), (h0, .inr (11, [.ref qf0, .ref qf1, .int v2, .int v3, .int v4, .ref qf5, .int v6, .int x7_2, .ref qf8, .ref qf9, .ref qf10, .ref qf11, .ref qf12, .ref qf13, .ref qf14, .ref qf15, .int v16, .int v17, .int v18, .int v19, .int v20])), (qf5, .inr (3, [.ref qf5_0, .int v5_1, .int v5_2, .int v5_3, .ref qf5_4, .ref qf5_5, .ref qf5_6, .int v5_7, .int v5_8, .int v5_9, .int v5_10, .ref qf5_11, .int v5_12, .ref qf5_13])), (qf5_13, .inl (cf5_13, 144, .inl f5_13)), (qf5_0, .inl (cf5_0, nb, .inl f5_0)), (qf8, .inl (cf8, 256, .inl f8))]) (w1 := [(qf1, .inr (4, [.ref qf1_0, .ref qf1_1])), (qf1_1, .inl (cf1_1, 256, .inl f1_1))]) hP hD [0, 1] [2, 3, 4, 5, 6, 7] rfl rfl (by decide) (by decide) hk1 hFc hP1 hD1
              clear hP hD
              obtain ⟨hP, hD⟩ := hPD
              replace hK := (hK.sub (tys' := [(cf12, .int), (cf5_13, .int), (cf5_0, .byte), (cf8, .int)]) [1, 2, 3, 4] rfl).app hK1
              clear hPc hDc hKc hFc hP1 hK1 hD1 hz1 hk1 ht hvm
              generalize H1 = H at hP hS ⊢
              replace hP : va_P (dC, dI) vwCl [(qf12, .inl (cf12, 1500, .inl f12)), (h0, .inr (11, [.ref qf0, .ref qf1, .int v2, .int v3, .int v4, .ref qf5, .int v6, .int x7_2, .ref qf8, .ref qf9, .ref qf10, .ref qf11, .ref qf12, .ref qf13, .ref qf14, .ref qf15, .int v16, .int v17, .int v18, .int v19, .int v20])), (qf5, .inr (3, [.ref qf5_0, .int v5_1, .int v5_2, .int v5_3, .ref qf5_4, .ref qf5_5, .ref qf5_6, .int v5_7, .int v5_8, .int v5_9, .int v5_10, .ref qf5_11, .int v5_12, .ref qf5_13])), (qf5_13, .inl (cf5_13, 144, .inl f5_13)), (qf5_0, .inl (cf5_0, nb, .inl f5_0)), (qf8, .inl (cf8, 256, .inl f8)), (qf1, .inr (4, [.ref qf1_0, .ref qf1_1])), (qf1_1, .inl (cf1_1, 256, .inl f1_1))] H := hP
              replace hD : va_D A [(qf12, .inl (cf12, 1500, .inl f12)), (h0, .inr (11, [.ref qf0, .ref qf1, .int v2, .int v3, .int v4, .ref qf5, .int v6, .int x7_2, .ref qf8, .ref qf9, .ref qf10, .ref qf11, .ref qf12, .ref qf13, .ref qf14, .ref qf15, .int v16, .int v17, .int v18, .int v19, .int v20])), (qf5, .inr (3, [.ref qf5_0, .int v5_1, .int v5_2, .int v5_3, .ref qf5_4, .ref qf5_5, .ref qf5_6, .int v5_7, .int v5_8, .int v5_9, .int v5_10, .ref qf5_11, .int v5_12, .ref qf5_13])), (qf5_13, .inl (cf5_13, 144, .inl f5_13)), (qf5_0, .inl (cf5_0, nb, .inl f5_0)), (qf8, .inl (cf8, 256, .inl f8)), (qf1, .inr (4, [.ref qf1_0, .ref qf1_1])), (qf1_1, .inl (cf1_1, 256, .inl f1_1))] := hD
              replace hK : va_K (dC, dI) vwCl [(cf12, .int), (cf5_13, .int), (cf5_0, .byte), (cf8, .int), (cf1_1, .boolean)] s := hK
              obtain ⟨rfl, hz_19⟩ := hw
              rcases hz_19 with rfl | rfl
              · rw [if_pos rfl] at hsp
                refine lv_if_ne (tgt := 108) hx hb dX11_proveHandlers_97 (by decide) (fun c_38 => (show False by revert c_38; decide).elim) (fun c_38 => ?_)
                refine lv_aload_n hx hb dX11_proveHandlers_100 rfl (lv_at hl 5 rfl) ?_
                refine lv_bipush (v := 8) hx hb dX11_proveHandlers_101 (by decide) ?_
                refine lv_iload_n hx hb dX11_proveHandlers_103 rfl (lv_at hl 4 rfl) ?_
                obtain ⟨⟨u20_0, u20_1⟩, hu_20, hsp⟩ := ox_bind hsp
                try dsimp only at hsp
                have hPc := hP.sub (ws' := [(h0, .inr (11, [.ref qf0, .ref qf1, .int v2, .int v3, .int v4, .ref qf5, .int v6, .int x7_2, .ref qf8, .ref qf9, .ref qf10, .ref qf11, .ref qf12, .ref qf13, .ref qf14, .ref qf15, .int v16, .int v17, .int v18, .int v19, .int v20]))]) [1] rfl
                have hDc := hD.sub (ws' := [(h0, .inr (11, [.ref qf0, .ref qf1, .int v2, .int v3, .int v4, .ref qf5, .int v6, .int x7_2, .ref qf8, .ref qf9, .ref qf10, .ref qf11, .ref qf12, .ref qf13, .ref qf14, .ref qf15, .int v16, .int v17, .int v18, .int v19, .int v20]))]) [1] (by decide) rfl
                have hKc := hK.sub (tys' := []) [] rfl
                have hFc := va_free (wc := [(h0, .inr (11, [.ref qf0, .ref qf1, .int v2, .int v3, .int v4, .ref qf5, .int v6, .int x7_2, .ref qf8, .ref qf9, .ref qf10, .ref qf11, .ref qf12, .ref qf13, .ref qf14, .ref qf15, .int v16, .int v17, .int v18, .int v19, .int v20]))]) hD hS hA [1] rfl
                refine va_calli (va_runV (As := [.int 8, .int l1_2]) (rest := []) ⟨hx, hb, hml, hown, hts⟩ (t11_at l dC dI H.size h0 8 l1_2 qf0 qf1 v2 v3 v4 qf5 v6 x7_2 qf8 qf9 qf10 qf11 qf12 qf13 qf14 qf15 v16 v17 v18 v19 v20 nf u20_0 u20_1 hu_20) (cwV 2 hts gv_h3_41 rfl rfl rfl (by decide +kernel) ⟨Nat.le_of_ble_eq_true rfl, Nat.le_of_ble_eq_true rfl⟩) ⟨fun a U g mk q => by obtain ⟨q0, q1, qP, qK, qD⟩ := q; exact ⟨q0, q1, qP, va_K.moved (u := U) (U := U.calling g mk a) (Vm.Alike.refl U.vm) qK, qD⟩, va_recv hKc hPc (ci := 11) (q0 := 0) rfl rfl, fun U hU hW => ⟨rfl, by rw [hU], by rw [hU]; exact hPc, va_K.moved hW.alike hKc, hDc.weaken (fun _ _ _ _ => trivial)⟩⟩ rfl rfl hl.1 rfl (lv_room (Nat.le_of_ble_eq_true rfl)) dX11_proveHandlers_104 ⟨Nat.le_of_ble_eq_true rfl, Nat.le_of_ble_eq_true rfl⟩) hS (fun q _ h => hFc q h) hFc ?_
                clear hS
                intro r_39 u t H1 locs ht hvm hw hB hz1 hk1 hS
                obtain ⟨⟩ := u
                obtain ⟨hP1, hK1, hD1⟩ := hB
                rw [ht] at hP1
                have hK1 := va_K.moved hvm.symm hK1
                try dsimp only at hw
                have hPD := va_join (wr := [(qf12, .inl (cf12, 1500, .inl f12)), (qf5, .inr (3, [.ref qf5_0, .int v5_1, .int v5_2, .int v5_3, .ref qf5_4, .ref qf5_5, .ref qf5_6, .int v5_7, .int v5_8, .int v5_9, .int v5_10, .ref qf5_11, .int v5_12, .ref qf5_13])), (qf5_13, .inl (cf5_13, 144, .inl f5_13)), (qf5_0, .inl (cf5_0, nb, .inl f5_0)), (qf8, .inl (cf8, 256, .inl f8)), (qf1, .inr (4, [.ref qf1_0, .ref qf1_1])), (qf1_1, .inl (cf1_1, 256, .inl f1_1))]) (w1 := [(h0, .inr (11, [.ref qf0, .ref qf1, .int v2, .int v3, .int v4, .ref qf5, .int v6, .int u20_1, .ref qf8, .ref qf9, .ref qf10, .ref qf11, .ref qf12, .ref qf13, .ref qf14, .ref qf15, .int v16, .int v17, .int v18, .int v19, .int v20]))]) hP hD [1] [0, 2, 3, 4, 5, 6, 7] rfl rfl (by decide) (by decide) hk1 hFc hP1 hD1
                clear hP hD
                obtain ⟨hP, hD⟩ := hPD
                replace hK := (hK.sub (tys' := [(cf12, .int), (cf5_13, .int), (cf5_0, .byte), (cf8, .int), (cf1_1, .boolean)]) [0, 1, 2, 3, 4] rfl).app hK1
                clear hPc hDc hKc hFc hP1 hK1 hD1 hz1 hk1 ht hvm
                generalize H1 = H at hP hS ⊢
                replace hP : va_P (dC, dI) vwCl [(qf12, .inl (cf12, 1500, .inl f12)), (qf5, .inr (3, [.ref qf5_0, .int v5_1, .int v5_2, .int v5_3, .ref qf5_4, .ref qf5_5, .ref qf5_6, .int v5_7, .int v5_8, .int v5_9, .int v5_10, .ref qf5_11, .int v5_12, .ref qf5_13])), (qf5_13, .inl (cf5_13, 144, .inl f5_13)), (qf5_0, .inl (cf5_0, nb, .inl f5_0)), (qf8, .inl (cf8, 256, .inl f8)), (qf1, .inr (4, [.ref qf1_0, .ref qf1_1])), (qf1_1, .inl (cf1_1, 256, .inl f1_1)), (h0, .inr (11, [.ref qf0, .ref qf1, .int v2, .int v3, .int v4, .ref qf5, .int v6, .int u20_1, .ref qf8, .ref qf9, .ref qf10, .ref qf11, .ref qf12, .ref qf13, .ref qf14, .ref qf15, .int v16, .int v17, .int v18, .int v19, .int v20]))] H := hP
                replace hD : va_D A [(qf12, .inl (cf12, 1500, .inl f12)), (qf5, .inr (3, [.ref qf5_0, .int v5_1, .int v5_2, .int v5_3, .ref qf5_4, .ref qf5_5, .ref qf5_6, .int v5_7, .int v5_8, .int v5_9, .int v5_10, .ref qf5_11, .int v5_12, .ref qf5_13])), (qf5_13, .inl (cf5_13, 144, .inl f5_13)), (qf5_0, .inl (cf5_0, nb, .inl f5_0)), (qf8, .inl (cf8, 256, .inl f8)), (qf1, .inr (4, [.ref qf1_0, .ref qf1_1])), (qf1_1, .inl (cf1_1, 256, .inl f1_1)), (h0, .inr (11, [.ref qf0, .ref qf1, .int v2, .int v3, .int v4, .ref qf5, .int v6, .int u20_1, .ref qf8, .ref qf9, .ref qf10, .ref qf11, .ref qf12, .ref qf13, .ref qf14, .ref qf15, .int v16, .int v17, .int v18, .int v19, .int v20]))] := hD
                replace hK : va_K (dC, dI) vwCl [(cf12, .int), (cf5_13, .int), (cf5_0, .byte), (cf8, .int), (cf1_1, .boolean)] s := hK
                obtain rfl := hw
                have hr0 := Option.some.inj hsp
                clear hsp
                obtain ⟨hq0, hr1⟩ := Prod.mk.inj hr0
                clear hr0
                subst hq0
                subst hr1
                have hP9 := hP.sub (ws' := [(h0, .inr (11, [.ref qf0, .ref qf1, .int v2, .int v3, .int v4, .ref qf5, .int v6, .int u20_1, .ref qf8, .ref qf9, .ref qf10, .ref qf11, .ref qf12, .ref qf13, .ref qf14, .ref qf15, .int v16, .int v17, .int v18, .int v19, .int v20])), (qf5, .inr (3, [.ref qf5_0, .int v5_1, .int v5_2, .int v5_3, .ref qf5_4, .ref qf5_5, .ref qf5_6, .int v5_7, .int v5_8, .int v5_9, .int v5_10, .ref qf5_11, .int v5_12, .ref qf5_13])), (qf5_13, .inl (cf5_13, 144, .inl f5_13)), (qf5_0, .inl (cf5_0, nb, .inl f5_0)), (qf12, .inl (cf12, 1500, .inl f12)), (qf8, .inl (cf8, 256, .inl f8)), (qf1, .inr (4, [.ref qf1_0, .ref qf1_1])), (qf1_1, .inl (cf1_1, 256, .inl f1_1))]) [7, 1, 2, 3, 0, 4, 5, 6] rfl
                have hD9 := hD.sub (ws' := [(h0, .inr (11, [.ref qf0, .ref qf1, .int v2, .int v3, .int v4, .ref qf5, .int v6, .int u20_1, .ref qf8, .ref qf9, .ref qf10, .ref qf11, .ref qf12, .ref qf13, .ref qf14, .ref qf15, .int v16, .int v17, .int v18, .int v19, .int v20])), (qf5, .inr (3, [.ref qf5_0, .int v5_1, .int v5_2, .int v5_3, .ref qf5_4, .ref qf5_5, .ref qf5_6, .int v5_7, .int v5_8, .int v5_9, .int v5_10, .ref qf5_11, .int v5_12, .ref qf5_13])), (qf5_13, .inl (cf5_13, 144, .inl f5_13)), (qf5_0, .inl (cf5_0, nb, .inl f5_0)), (qf12, .inl (cf12, 1500, .inl f12)), (qf8, .inl (cf8, 256, .inl f8)), (qf1, .inr (4, [.ref qf1_0, .ref qf1_1])), (qf1_1, .inl (cf1_1, 256, .inl f1_1))]) [7, 1, 2, 3, 0, 4, 5, 6] (by decide) rfl
                have hK9 := hK.sub (tys' := [(cf5_13, .int), (cf5_0, .byte), (cf12, .int), (cf8, .int), (cf1_1, .boolean)]) [1, 2, 0, 3, 4] rfl
                exact W.iret hx hb hr (fun t ht hW => ⟨⟨(u20_0), (), rfl, rfl, by rw [ht]; exact hP9, va_K.moved hW.alike hK9, hD9⟩, hS.F ht⟩) hS.2.2 dX11_proveHandlers_107
              · rw [if_neg (by decide)] at hsp
                refine lv_if_ne (tgt := 108) hx hb dX11_proveHandlers_97 (by decide) (fun c_40 => ?_) (fun c_40 => (show False by revert c_40; decide).elim)
                refine lv_iinc (v := (l1_2 + 1)) (lv' := [(1, .int (l1_2 + 1)), (5, .int 1), (4, .int u4_0), (3, .int u3_0), (2, .int u2_0), (0, .ref h0)]) hx hb dX11_proveHandlers_108 hl (k := 4) rfl rfl (by decide) rfl (fun ls hl => ?_)
                refine lv_goto (tgt := 2) hx hb dX11_proveHandlers_111 (by decide) ?_
                exact ih_2 H locs ls (l1_2 + 1) x7_2 (lv_sub hl [0, 5] rfl) hS (hD.sub (ws' := [(h0, .inr (11, [.ref qf0, .ref qf1, .int v2, .int v3, .int v4, .ref qf5, .int v6, .int x7_2, .ref qf8, .ref qf9, .ref qf10, .ref qf11, .ref qf12, .ref qf13, .ref qf14, .ref qf15, .int v16, .int v17, .int v18, .int v19, .int v20])), (qf5, .inr (3, [.ref qf5_0, .int v5_1, .int v5_2, .int v5_3, .ref qf5_4, .ref qf5_5, .ref qf5_6, .int v5_7, .int v5_8, .int v5_9, .int v5_10, .ref qf5_11, .int v5_12, .ref qf5_13])), (qf5_13, .inl (cf5_13, 144, .inl f5_13)), (qf5_0, .inl (cf5_0, nb, .inl f5_0)), (qf12, .inl (cf12, 1500, .inl f12)), (qf8, .inl (cf8, 256, .inl f8)), (qf1, .inr (4, [.ref qf1_0, .ref qf1_1])), (qf1_1, .inl (cf1_1, 256, .inl f1_1))]) [1, 2, 3, 4, 0, 5, 6, 7] (by decide) rfl) (hP.sub (ws' := [(h0, .inr (11, [.ref qf0, .ref qf1, .int v2, .int v3, .int v4, .ref qf5, .int v6, .int x7_2, .ref qf8, .ref qf9, .ref qf10, .ref qf11, .ref qf12, .ref qf13, .ref qf14, .ref qf15, .int v16, .int v17, .int v18, .int v19, .int v20])), (qf5, .inr (3, [.ref qf5_0, .int v5_1, .int v5_2, .int v5_3, .ref qf5_4, .ref qf5_5, .ref qf5_6, .int v5_7, .int v5_8, .int v5_9, .int v5_10, .ref qf5_11, .int v5_12, .ref qf5_13])), (qf5_13, .inl (cf5_13, 144, .inl f5_13)), (qf5_0, .inl (cf5_0, nb, .inl f5_0)), (qf12, .inl (cf12, 1500, .inl f12)), (qf8, .inl (cf8, 256, .inl f8)), (qf1, .inr (4, [.ref qf1_0, .ref qf1_1])), (qf1_1, .inl (cf1_1, 256, .inl f1_1))]) [1, 2, 3, 4, 0, 5, 6, 7] rfl) hsp
def lp_t11_proveFrames_4 (nf n : Nat) (v6 : Int32) (v7 : Int32) (v16 : Int32) (v5_12 : Int32) (f5_13 : Nat → Int32) (f13 : Nat → Int32) (f12 : Nat → Int32)  (l1_4 : Int32) (l2_4 : Int32) (x7_4 : Int32) : Option (Int32 × Int32) := match n with
  | 0 => none
  | n + 1 => ((sp_t11_info nf 9 v6 v5_12 f5_13).bind (fun p1 => (if p1 ≤ l2_4 then (some (0, x7_4)) else (if (l2_4 * 64) < 0 then none else if 6400 ≤ ((l2_4 * 64) : Int32).toNatClampNeg then none else ((sp_t11_begins nf (f13 ((l2_4 * 64) : Int32).toNatClampNeg) v16 f12).bind (fun p2 => (if p2 = 0 then ((sp_t11_at nf 9 l2_4).bind (fun p3 => (some (p3.1, p3.2)))) else (if (l2_4 * 64) < 0 then none else if 6400 ≤ ((l2_4 * 64) : Int32).toNatClampNeg then none else (if (f13 ((l2_4 * 64) : Int32).toNatClampNeg) ≤ l1_4 then ((sp_t11_at nf 9 l2_4).bind (fun p4 => (some (p4.1, p4.2)))) else (if ((l2_4 * 64) + 1) < 0 then none else if 6400 ≤ (((l2_4 * 64) + 1) : Int32).toNatClampNeg then none else ((sp_t11_info nf 4 v6 v5_12 f5_13).bind (fun p5 => (if p5 < (f13 (((l2_4 * 64) + 1) : Int32).toNatClampNeg) then ((sp_t11_at nf 9 l2_4).bind (fun p6 => (some (p6.1, p6.2)))) else (if ((l2_4 * 64) + 2) < 0 then none else if 6400 ≤ (((l2_4 * 64) + 2) : Int32).toNatClampNeg then none else ((sp_t11_info nf 3 v6 v5_12 f5_13).bind (fun p7 => (if p7 < (f13 (((l2_4 * 64) + 2) : Int32).toNatClampNeg) then ((sp_t11_at nf 9 l2_4).bind (fun p8 => (some (p8.1, p8.2)))) else (if ((l2_4 * 64) + 1) < 0 then none else if 6400 ≤ (((l2_4 * 64) + 1) : Int32).toNatClampNeg then none else ((sp_t11_areThere nf ((l2_4 * 64) + 3) (f13 (((l2_4 * 64) + 1) : Int32).toNatClampNeg) f13).bind (fun p9 => (if p9 = 0 then ((sp_t11_at nf 9 l2_4).bind (fun p10 => (some (p10.1, p10.2)))) else (if ((l2_4 * 64) + 2) < 0 then none else if 6400 ≤ (((l2_4 * 64) + 2) : Int32).toNatClampNeg then none else ((sp_t11_areThere nf ((l2_4 * 64) + 33) (f13 (((l2_4 * 64) + 2) : Int32).toNatClampNeg) f13).bind (fun p11 => (if p11 = 0 then ((sp_t11_at nf 9 l2_4).bind (fun p12 => (some (p12.1, p12.2)))) else (if (l2_4 * 64) < 0 then none else if 6400 ≤ ((l2_4 * 64) : Int32).toNatClampNeg then none else (lp_t11_proveFrames_4 nf n v6 v7 v16 v5_12 f5_13 f13 f12 (f13 ((l2_4 * 64) : Int32).toNatClampNeg) (l2_4 + 1) x7_4)))))))))))))))))))))))))))
def sp_t11_proveFrames (nf : Nat) (v6 : Int32) (v7 : Int32) (v16 : Int32) (v5_12 : Int32) (f5_13 : Nat → Int32) (f13 : Nat → Int32) (f12 : Nat → Int32) : Option (Int32 × Int32) := (lp_t11_proveFrames_4 nf nf v6 v7 v16 v5_12 f5_13 f13 f12 (-1) 0 v7)
