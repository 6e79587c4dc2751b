set_option maxHeartbeats 4000000 in
set_option maxRecDepth 100000 in
/-- ClassMill$Verifier.takeFrames -/
theorem t11_takeFrames (l : Launch) (dC : Nat → ClassId) (dI : Nat → Nat → Nat) (sz : Nat) (h0 : Nat) (a1 : Int32) (qf0 : Nat) (qf1 : Nat) (v2 : Int32) (v3 : Int32) (v4 : Int32) (qf5 : Nat) (v6 : Int32) (v7 : Int32) (qf8 : Nat) (qf9 : Nat) (qf10 : Nat) (qf11 : Nat) (qf12 : Nat) (qf13 : Nat) (qf14 : Nat) (qf15 : Nat) (v16 : Int32) (v17 : Int32) (v18 : Int32) (v19 : Int32) (v20 : Int32) (qf5_0 : Nat) (v5_1 : Int32) (v5_2 : Int32) (v5_3 : Int32) (qf5_4 : Nat) (qf5_5 : Nat) (qf5_6 : Nat) (v5_7 : Int32) (v5_8 : Int32) (v5_9 : Int32) (v5_10 : Int32) (qf5_11 : Nat) (v5_12 : Int32) (qf5_13 : Nat) (cf5_13 : ClassId) (f5_13 : (Nat → Int32)) (cf5_0 : ClassId) (nb : Nat) (f5_0 : (Nat → Int32)) (cf13 : ClassId) (f13 : (Nat → Int32)) (cf8 : ClassId) (f8 : (Nat → Int32)) (cf12 : ClassId) (f12 : (Nat → Int32)) (nf : Nat) (o12 : (Nat → Int32)) (o13 : (Nat → Int32)) (hsp : sp_t11_takeFrames nf a1 v6 v16 v5_1 v5_12 f5_13 nb f5_0 f13 f8 f12 = some (o12, o13)) : Met l yX11_takeFrames (.code yX11_takeFrames cX11_takeFrames 6 none :: VS_h3) ({ frames := 2, cells := 0, slots := 0, locals := 48 }) (va_Pc [.ref h0, .int a1] (fun U => U.heap.size = sz ∧ va_P (dC, dI) vwCl [(h0, .inr (11, [.ref qf0, .ref qf1, .int v2, .int v3, .int v4, .ref qf5, .int v6, .int v7, .ref qf8, .ref qf9, .ref qf10, .ref qf11, .ref qf12, .ref qf13, .ref qf14, .ref qf15, .int v16, .int v17, .int v18, .int v19, .int v20])), (qf5, .inr (3, [.ref qf5_0, .int v5_1, .int v5_2, .int v5_3, .ref qf5_4, .ref qf5_5, .ref qf5_6, .int v5_7, .int v5_8, .int v5_9, .int v5_10, .ref qf5_11, .int v5_12, .ref qf5_13])), (qf5_13, .inl (cf5_13, 144, .inl f5_13)), (qf5_0, .inl (cf5_0, nb, .inl f5_0)), (qf13, .inl (cf13, 6400, .inl f13)), (qf8, .inl (cf8, 256, .inl f8)), (qf12, .inl (cf12, 1500, .inl f12))] U.heap ∧ va_K (dC, dI) vwCl [(cf5_13, .int), (cf5_0, .byte), (cf13, .int), (cf8, .int), (cf12, .int)] U ∧ va_D (fun _ => True) [(h0, .inr (11, [.ref qf0, .ref qf1, .int v2, .int v3, .int v4, .ref qf5, .int v6, .int v7, .ref qf8, .ref qf9, .ref qf10, .ref qf11, .ref qf12, .ref qf13, .ref qf14, .ref qf15, .int v16, .int v17, .int v18, .int v19, .int v20])), (qf5, .inr (3, [.ref qf5_0, .int v5_1, .int v5_2, .int v5_3, .ref qf5_4, .ref qf5_5, .ref qf5_6, .int v5_7, .int v5_8, .int v5_9, .int v5_10, .ref qf5_11, .int v5_12, .ref qf5_13])), (qf5_13, .inl (cf5_13, 144, .inl f5_13)), (qf5_0, .inl (cf5_0, nb, .inl f5_0)), (qf13, .inl (cf13, 6400, .inl f13)), (qf8, .inl (cf8, 256, .inl f8)), (qf12, .inl (cf12, 1500, .inl f12))])) (va_Qv (fun (u : Unit) => match u with | () => True) (fun (u : Unit) (t : State) => match u with | () => va_P (dC, dI) vwCl [(h0, .inr (11, [.ref qf0, .ref qf1, .int v2, .int v3, .int v4, .ref qf5, .int v6, .int v7, .ref qf8, .ref qf9, .ref qf10, .ref qf11, .ref qf12, .ref qf13, .ref qf14, .ref qf15, .int v16, .int v17, .int v18, .int v19, .int v20])), (qf5, .inr (3, [.ref qf5_0, .int v5_1, .int v5_2, .int v5_3, .ref qf5_4, .ref qf5_5, .ref qf5_6, .int v5_7, .int v5_8, .int v5_9, .int v5_10, .ref qf5_11, .int v5_12, .ref qf5_13])), (qf5_13, .inl (cf5_13, 144, .inl f5_13)), (qf5_0, .inl (cf5_0, nb, .inl f5_0)), (qf13, .inl (cf13, 6400, .inl o13)), (qf8, .inl (cf8, 256, .inl f8)), (qf12, .inl (cf12, 1500, .inl o12))] t.heap ∧ va_K (dC, dI) vwCl [(cf5_13, .int), (cf5_0, .byte), (cf13, .int), (cf8, .int), (cf12, .int)] t ∧ va_D (va_A [(h0, .inr (11, [.ref qf0, .ref qf1, .int v2, .int v3, .int v4, .ref qf5, .int v6, .int v7, .ref qf8, .ref qf9, .ref qf10, .ref qf11, .ref qf12, .ref qf13, .ref qf14, .ref qf15, .int v16, .int v17, .int v18, .int v19, .int v20])), (qf5, .inr (3, [.ref qf5_0, .int v5_1, .int v5_2, .int v5_3, .ref qf5_4, .ref qf5_5, .ref qf5_6, .int v5_7, .int v5_8, .int v5_9, .int v5_10, .ref qf5_11, .int v5_12, .ref qf5_13])), (qf5_13, .inl (cf5_13, 144, .inl f5_13)), (qf5_0, .inl (cf5_0, nb, .inl f5_0)), (qf13, .inl (cf13, 6400, .inl f13)), (qf8, .inl (cf8, 256, .inl f8)), (qf12, .inl (cf12, 1500, .inl f12))] sz) [(h0, .inr (11, [.ref qf0, .ref qf1, .int v2, .int v3, .int v4, .ref qf5, .int v6, .int v7, .ref qf8, .ref qf9, .ref qf10, .ref qf11, .ref qf12, .ref qf13, .ref qf14, .ref qf15, .int v16, .int v17, .int v18, .int v19, .int v20])), (qf5, .inr (3, [.ref qf5_0, .int v5_1, .int v5_2, .int v5_3, .ref qf5_4, .ref qf5_5, .ref qf5_6, .int v5_7, .int v5_8, .int v5_9, .int v5_10, .ref qf5_11, .int v5_12, .ref qf5_13])), (qf5_13, .inl (cf5_13, 144, .inl f5_13)), (qf5_0, .inl (cf5_0, nb, .inl f5_0)), (qf13, .inl (cf13, 6400, .inl o13)), (qf8, .inl (cf8, 256, .inl f8)), (qf12, .inl (cf12, 1500, .inl o12))]) (va_A [(h0, .inr (11, [.ref qf0, .ref qf1, .int v2, .int v3, .int v4, .ref qf5, .int v6, .int v7, .ref qf8, .ref qf9, .ref qf10, .ref qf11, .ref qf12, .ref qf13, .ref qf14, .ref qf15, .int v16, .int v17, .int v18, .int v19, .int v20])), (qf5, .inr (3, [.ref qf5_0, .int v5_1, .int v5_2, .int v5_3, .ref qf5_4, .ref qf5_5, .ref qf5_6, .int v5_7, .int v5_8, .int v5_9, .int v5_10, .ref qf5_11, .int v5_12, .ref qf5_13])), (qf5_13, .inl (cf5_13, 144, .inl f5_13)), (qf5_0, .inl (cf5_0, nb, .inl f5_0)), (qf13, .inl (cf13, 6400, .inl f13)), (qf8, .inl (cf8, 256, .inl f8)), (qf12, .inl (cf12, 1500, .inl f12))] sz)) 0 0 (va_A [(h0, .inr (11, [.ref qf0, .ref qf1, .int v2, .int v3, .int v4, .ref qf5, .int v6, .int v7, .ref qf8, .ref qf9, .ref qf10, .ref qf11, .ref qf12, .ref qf13, .ref qf14, .ref qf15, .int v16, .int v17, .int v18, .int v19, .int v20])), (qf5, .inr (3, [.ref qf5_0, .int v5_1, .int v5_2, .int v5_3, .ref qf5_4, .ref qf5_5, .ref qf5_6, .int v5_7, .int v5_8, .int v5_9, .int v5_10, .ref qf5_11, .int v5_12, .ref qf5_13])), (qf5_13, .inl (cf5_13, 144, .inl f5_13)), (qf5_0, .inl (cf5_0, nb, .inl f5_0)), (qf13, .inl (cf13, 6400, .inl f13)), (qf8, .inl (cf8, 256, .inl f8)), (qf12, .inl (cf12, 1500, .inl f12))] sz) := by
  refine Met.ofW (cc := cX11_takeFrames) (maxL := 6) (ret := none) (by decide) rfl ?_
  intro p e s m args below meth c s₁ B hml hv
  obtain ⟨rfl, hsz, hP, hK, hD0⟩ := hv
  have hx := B.exec
  have hb := B.bytes
  have hr := B.returns
  have hts := atoms_spec (ws := (.code yX11_takeFrames cX11_takeFrames 6 none :: VS_h3)) B.pre
  replace hts := fun w (h : w ∈ VS_h3) => hts w (List.mem_cons_of_mem _ h)
  have hown : s.vm.findClass RX11 = some m.cls := findClass_of_methodNamed B.named
  have hlocks := B.notSynchronized
  subst hsz
  have hD := hD0.self (sz := s.heap.size)
  generalize hAe : va_A [(h0, .inr (11, [.ref qf0, .ref qf1, .int v2, .int v3, .int v4, .ref qf5, .int v6, .int v7, .ref qf8, .ref qf9, .ref qf10, .ref qf11, .ref qf12, .ref qf13, .ref qf14, .ref qf15, .int v16, .int v17, .int v18, .int v19, .int v20])), (qf5, .inr (3, [.ref qf5_0, .int v5_1, .int v5_2, .int v5_3, .ref qf5_4, .ref qf5_5, .ref qf5_6, .int v5_7, .int v5_8, .int v5_9, .int v5_10, .ref qf5_11, .int v5_12, .ref qf5_13])), (qf5_13, .inl (cf5_13, 144, .inl f5_13)), (qf5_0, .inl (cf5_0, nb, .inl f5_0)), (qf13, .inl (cf13, 6400, .inl f13)), (qf8, .inl (cf8, 256, .inl f8)), (qf12, .inl (cf12, 1500, .inl f12))] s.heap.size = A at hD  ⊢
  have hA : ∀ q : Nat, s.heap.size ≤ q → A q := fun q h => by rw [← hAe]; exact Or.inr h
  have hP : va_P (dC, dI) vwCl [(h0, .inr (11, [.ref qf0, .ref qf1, .int v2, .int v3, .int v4, .ref qf5, .int v6, .int v7, .ref qf8, .ref qf9, .ref qf10, .ref qf11, .ref qf12, .ref qf13, .ref qf14, .ref qf15, .int v16, .int v17, .int v18, .int v19, .int v20])), (qf5, .inr (3, [.ref qf5_0, .int v5_1, .int v5_2, .int v5_3, .ref qf5_4, .ref qf5_5, .ref qf5_6, .int v5_7, .int v5_8, .int v5_9, .int v5_10, .ref qf5_11, .int v5_12, .ref qf5_13])), (qf5_13, .inl (cf5_13, 144, .inl f5_13)), (qf5_0, .inl (cf5_0, nb, .inl f5_0)), (qf13, .inl (cf13, 6400, .inl f13)), (qf8, .inl (cf8, 256, .inl f8)), (qf12, .inl (cf12, 1500, .inl f12))] s.heap := hP
  have hl := lv_entry ([.ref h0, .int a1]) (n := 6) (Nat.le_of_ble_eq_true rfl)
  rw [lg_entry_eq]
  generalize (lg_sl ([.ref h0, .int a1]) ++ List.replicate (6 - (lg_sl ([.ref h0, .int a1])).length) Slot.unset).toArray = ls at hl ⊢
  have hl : lv_has ls 6 [(0, .ref h0), (1, .int a1)] := hl
  obtain ⟨H, hH⟩ : ∃ H : Heap, s.heap = H := ⟨_, rfl⟩
  rw [hH] at hP ⊢
  have hS : va_S A s.heap H [] := by rw [← hH]; exact va_S.rf
  obtain ⟨locs, hlo⟩ : ∃ locs : List Loc, locs = [] := ⟨_, rfl⟩
  rw [← hlo] at hS ⊢
  unfold sp_t11_takeFrames at hsp
  refine lv_aload_n hx hb dX11_takeFrames_0 rfl (lv_at hl 0 rfl) ?_
  refine lv_bipush (v := 10) hx hb dX11_takeFrames_1 (by decide) ?_
  obtain ⟨u1_0, hu_1, hsp⟩ := ox_bind hsp
  try dsimp only at hsp
  have hPc := hP.sub (ws' := [(h0, .inr (11, [.ref qf0, .ref qf1, .int v2, .int v3, .int v4, .ref qf5, .int v6, .int v7, .ref qf8, .ref qf9, .ref qf10, .ref qf11, .ref qf12, .ref qf13, .ref qf14, .ref qf15, .int v16, .int v17, .int v18, .int v19, .int v20])), (qf5, .inr (3, [.ref qf5_0, .int v5_1, .int v5_2, .int v5_3, .ref qf5_4, .ref qf5_5, .ref qf5_6, .int v5_7, .int v5_8, .int v5_9, .int v5_10, .ref qf5_11, .int v5_12, .ref qf5_13])), (qf5_13, .inl (cf5_13, 144, .inl f5_13))]) [0, 1, 2] rfl
  have hDc := hD.sub (ws' := [(h0, .inr (11, [.ref qf0, .ref qf1, .int v2, .int v3, .int v4, .ref qf5, .int v6, .int v7, .ref qf8, .ref qf9, .ref qf10, .ref qf11, .ref qf12, .ref qf13, .ref qf14, .ref qf15, .int v16, .int v17, .int v18, .int v19, .int v20])), (qf5, .inr (3, [.ref qf5_0, .int v5_1, .int v5_2, .int v5_3, .ref qf5_4, .ref qf5_5, .ref qf5_6, .int v5_7, .int v5_8, .int v5_9, .int v5_10, .ref qf5_11, .int v5_12, .ref qf5_13])), (qf5_13, .inl (cf5_13, 144, .inl f5_13))]) [0, 1, 2] (by decide) rfl
  have hKc := hK.sub (tys' := [(cf5_13, .int)]) [0] rfl
  have hFc := va_free (wc := [(h0, .inr (11, [.ref qf0, .ref qf1, .int v2, .int v3, .int v4, .ref qf5, .int v6, .int v7, .ref qf8, .ref qf9, .ref qf10, .ref qf11, .ref qf12, .ref qf13, .ref qf14, .ref qf15, .int v16, .int v17, .int v18, .int v19, .int v20])), (qf5, .inr (3, [.ref qf5_0, .int v5_1, .int v5_2, .int v5_3, .ref qf5_4, .ref qf5_5, .ref qf5_6, .int v5_7, .int v5_8, .int v5_9, .int v5_10, .ref qf5_11, .int v5_12, .ref qf5_13])), (qf5_13, .inl (cf5_13, 144, .inl f5_13))]) hD hS hA [0, 1, 2] rfl
  refine va_calli (va_runV (As := [.int 10]) (rest := []) ⟨hx, hb, hml, hown, hts⟩ (t11_info l dC dI H.size h0 10 qf0 qf1 v2 v3 v4 qf5 v6 v7 qf8 qf9 qf10 qf11 qf12 qf13 qf14 qf15 v16 v17 v18 v19 v20 qf5_0 v5_1 v5_2 v5_3 qf5_4 qf5_5 qf5_6 v5_7 v5_8 v5_9 v5_10 qf5_11 v5_12 qf5_13 cf5_13 f5_13 nf u1_0 hu_1) (cwV 1 hts gv_h3_35 rfl rfl rfl (by decide +kernel) ⟨Nat.le_of_ble_eq_true rfl, Nat.le_of_ble_eq_true rfl⟩) ⟨fun a U g mk q => by obtain ⟨q0, q1, qP, qK, qD⟩ := q; exact ⟨q0, q1, qP, va_K.moved (u := U) (U := U.calling g mk a) (Vm.Alike.refl U.vm) qK, qD⟩, va_recv hKc hPc (ci := 11) (q0 := 0) rfl rfl, fun U hU hW => ⟨rfl, by rw [hU], by rw [hU]; exact hPc, va_K.moved hW.alike hKc, hDc.weaken (fun _ _ _ _ => trivial)⟩⟩ rfl rfl hl.1 rfl (lv_room (Nat.le_of_ble_eq_true rfl)) dX11_takeFrames_3 ⟨Nat.le_of_ble_eq_true rfl, Nat.le_of_ble_eq_true rfl⟩) hS (fun q _ h => hFc q h) hFc ?_
  clear hS
  intro r_1 u t H1 locs ht hvm hw hB hz1 hk1 hS
  obtain ⟨⟩ := u
  obtain ⟨hP1, hK1, hD1⟩ := hB
  rw [ht] at hP1
  have hK1 := va_K.moved hvm.symm hK1
  try dsimp only at hw
  have hPD := va_join (wr := [(qf5_0, .inl (cf5_0, nb, .inl f5_0)), (qf13, .inl (cf13, 6400, .inl f13)), (qf8, .inl (cf8, 256, .inl f8)), (qf12, .inl (cf12, 1500, .inl f12))]) (w1 := [(h0, .inr (11, [.ref qf0, .ref qf1, .int v2, .int v3, .int v4, .ref qf5, .int v6, .int v7, .ref qf8, .ref qf9, .ref qf10, .ref qf11, .ref qf12, .ref qf13, .ref qf14, .ref qf15, .int v16, .int v17, .int v18, .int v19, .int v20])), (qf5, .inr (3, [.ref qf5_0, .int v5_1, .int v5_2, .int v5_3, .ref qf5_4, .ref qf5_5, .ref qf5_6, .int v5_7, .int v5_8, .int v5_9, .int v5_10, .ref qf5_11, .int v5_12, .ref qf5_13])), (qf5_13, .inl (cf5_13, 144, .inl f5_13))]) hP hD [0, 1, 2] [3, 4, 5, 6] rfl rfl (by decide) (by decide) hk1 hFc hP1 hD1
  clear hP hD
  obtain ⟨hP, hD⟩ := hPD
  replace hK := (hK.sub (tys' := [(cf5_0, .byte), (cf13, .int), (cf8, .int), (cf12, .int)]) [1, 2, 3, 4] rfl).app hK1
  clear hPc hDc hKc hFc hP1 hK1 hD1 hz1 hk1 ht hvm
  generalize H1 = H at hP hS ⊢
  replace hP : va_P (dC, dI) vwCl [(qf5_0, .inl (cf5_0, nb, .inl f5_0)), (qf13, .inl (cf13, 6400, .inl f13)), (qf8, .inl (cf8, 256, .inl f8)), (qf12, .inl (cf12, 1500, .inl f12)), (h0, .inr (11, [.ref qf0, .ref qf1, .int v2, .int v3, .int v4, .ref qf5, .int v6, .int v7, .ref qf8, .ref qf9, .ref qf10, .ref qf11, .ref qf12, .ref qf13, .ref qf14, .ref qf15, .int v16, .int v17, .int v18, .int v19, .int v20])), (qf5, .inr (3, [.ref qf5_0, .int v5_1, .int v5_2, .int v5_3, .ref qf5_4, .ref qf5_5, .ref qf5_6, .int v5_7, .int v5_8, .int v5_9, .int v5_10, .ref qf5_11, .int v5_12, .ref qf5_13])), (qf5_13, .inl (cf5_13, 144, .inl f5_13))] H := hP
  replace hD : va_D A [(qf5_0, .inl (cf5_0, nb, .inl f5_0)), (qf13, .inl (cf13, 6400, .inl f13)), (qf8, .inl (cf8, 256, .inl f8)), (qf12, .inl (cf12, 1500, .inl f12)), (h0, .inr (11, [.ref qf0, .ref qf1, .int v2, .int v3, .int v4, .ref qf5, .int v6, .int v7, .ref qf8, .ref qf9, .ref qf10, .ref qf11, .ref qf12, .ref qf13, .ref qf14, .ref qf15, .int v16, .int v17, .int v18, .int v19, .int v20])), (qf5, .inr (3, [.ref qf5_0, .int v5_1, .int v5_2, .int v5_3, .ref qf5_4, .ref qf5_5, .ref qf5_6, .int v5_7, .int v5_8, .int v5_9, .int v5_10, .ref qf5_11, .int v5_12, .ref qf5_13])), (qf5_13, .inl (cf5_13, 144, .inl f5_13))] := hD
  replace hK : va_K (dC, dI) vwCl [(cf5_0, .byte), (cf13, .int), (cf8, .int), (cf12, .int), (cf5_13, .int)] s := hK
  obtain rfl := hw
  refine lv_istore_n (lv' := [(2, .int u1_0), (0, .ref h0), (1, .int a1)]) hx hb dX11_takeFrames_6 rfl hl (by decide) rfl (fun ls hl => ?_)
  refine lv_iconst (v := 0) hx hb dX11_takeFrames_7 (by decide) ?_
  refine lv_istore_n (lv' := [(3, .int 0), (2, .int u1_0), (0, .ref h0), (1, .int a1)]) hx hb dX11_takeFrames_8 rfl hl (by decide) rfl (fun ls hl => ?_)
  replace hP := hP.sub (ws' := [(h0, .inr (11, [.ref qf0, .ref qf1, .int v2, .int v3, .int v4, .ref qf5, .int v6, .int v7, .ref qf8, .ref qf9, .ref qf10, .ref qf11, .ref qf12, .ref qf13, .ref qf14, .ref qf15, .int v16, .int v17, .int v18, .int v19, .int v20])), (qf5, .inr (3, [.ref qf5_0, .int v5_1, .int v5_2, .int v5_3, .ref qf5_4, .ref qf5_5, .ref qf5_6, .int v5_7, .int v5_8, .int v5_9, .int v5_10, .ref qf5_11, .int v5_12, .ref qf5_13])), (qf5_13, .inl (cf5_13, 144, .inl f5_13)), (qf5_0, .inl (cf5_0, nb, .inl f5_0)), (qf13, .inl (cf13, 6400, .inl f13)), (qf8, .inl (cf8, 256, .inl f8)), (qf12, .inl (cf12, 1500, .inl f12))]) [4, 5, 6, 0, 1, 2, 3] rfl
  replace hD := hD.sub (ws' := [(h0, .inr (11, [.ref qf0, .ref qf1, .int v2, .int v3, .int v4, .ref qf5, .int v6, .int v7, .ref qf8, .ref qf9, .ref qf10, .ref qf11, .ref qf12, .ref qf13, .ref qf14, .ref qf15, .int v16, .int v17, .int v18, .int v19, .int v20])), (qf5, .inr (3, [.ref qf5_0, .int v5_1, .int v5_2, .int v5_3, .ref qf5_4, .ref qf5_5, .ref qf5_6, .int v5_7, .int v5_8, .int v5_9, .int v5_10, .ref qf5_11, .int v5_12, .ref qf5_13])), (qf5_13, .inl (cf5_13, 144, .inl f5_13)), (qf5_0, .inl (cf5_0, nb, .inl f5_0)), (qf13, .inl (cf13, 6400, .inl f13)), (qf8, .inl (cf8, 256, .inl f8)), (qf12, .inl (cf12, 1500, .inl f12))]) [4, 5, 6, 0, 1, 2, 3] (by decide) rfl
  replace hK := hK.sub (tys' := [(cf5_13, .int), (cf5_0, .byte), (cf13, .int), (cf8, .int), (cf12, .int)]) [4, 0, 1, 2, 3] rfl
  obtain ⟨n_9, hn_9⟩ : ∃ z : Nat, z = nf := ⟨_, rfl⟩
  obtain ⟨l1_9, el1_9⟩ : ∃ z : Int32, z = a1 := ⟨_, rfl⟩
  obtain ⟨l2_9, el2_9⟩ : ∃ z : Int32, z = u1_0 := ⟨_, rfl⟩
  obtain ⟨l3_9, el3_9⟩ : ∃ z : Int32, z = 0 := ⟨_, rfl⟩
  obtain ⟨g12_9, eg12_9⟩ : ∃ z : Nat → Int32, z = f12 := ⟨_, rfl⟩
  obtain ⟨g13_9, eg13_9⟩ : ∃ z : Nat → Int32, z = f13 := ⟨_, rfl⟩
  replace hsp : lp_t11_takeFrames_9 nf n_9 a1 v6 v16 v5_1 v5_12 f5_13 nb f5_0 f13 f8 f12 l1_9 l2_9 l3_9 g12_9 g13_9 = some (o12, o13) := by rw [hn_9, el1_9, el2_9, el3_9, eg12_9, eg13_9]; exact hsp
  replace hl : lv_has ls 6 [(3, .int l3_9), (2, .int l2_9), (0, .ref h0), (1, .int l1_9)] := by rw [el1_9, el2_9, el3_9]; exact hl
  replace hP : va_P (dC, dI) vwCl [(h0, .inr (11, [.ref qf0, .ref qf1, .int v2, .int v3, .int v4, .ref qf5, .int v6, .int v7, .ref qf8, .ref qf9, .ref qf10, .ref qf11, .ref qf12, .ref qf13, .ref qf14, .ref qf15, .int v16, .int v17, .int v18, .int v19, .int v20])), (qf5, .inr (3, [.ref qf5_0, .int v5_1, .int v5_2, .int v5_3, .ref qf5_4, .ref qf5_5, .ref qf5_6, .int v5_7, .int v5_8, .int v5_9, .int v5_10, .ref qf5_11, .int v5_12, .ref qf5_13])), (qf5_13, .inl (cf5_13, 144, .inl f5_13)), (qf5_0, .inl (cf5_0, nb, .inl f5_0)), (qf13, .inl (cf13, 6400, .inl g13_9)), (qf8, .inl (cf8, 256, .inl f8)), (qf12, .inl (cf12, 1500, .inl g12_9))] H := by rw [eg12_9, eg13_9]; exact hP
  replace hD : va_D A [(h0, .inr (11, [.ref qf0, .ref qf1, .int v2, .int v3, .int v4, .ref qf5, .int v6, .int v7, .ref qf8, .ref qf9, .ref qf10, .ref qf11, .ref qf12, .ref qf13, .ref qf14, .ref qf15, .int v16, .int v17, .int v18, .int v19, .int v20])), (qf5, .inr (3, [.ref qf5_0, .int v5_1, .int v5_2, .int v5_3, .ref qf5_4, .ref qf5_5, .ref qf5_6, .int v5_7, .int v5_8, .int v5_9, .int v5_10, .ref qf5_11, .int v5_12, .ref qf5_13])), (qf5_13, .inl (cf5_13, 144, .inl f5_13)), (qf5_0, .inl (cf5_0, nb, .inl f5_0)), (qf13, .inl (cf13, 6400, .inl g13_9)), (qf8, .inl (cf8, 256, .inl f8)), (qf12, .inl (cf12, 1500, .inl g12_9))] := by rw [eg12_9, eg13_9]; exact hD
  clear hn_9 el1_9 el2_9 el3_9 eg12_9 eg13_9
  try clear hlo
  try clear hH
  revert hsp
  revert hP
  revert hD
  revert hS
  revert hl
  revert g13_9
  revert g12_9
  revert l3_9
  revert l2_9
  revert l1_9
  revert ls
  revert locs
  revert H
  induction n_9 with
  | zero => intro H locs ls l1_9 l2_9 l3_9 g12_9 g13_9 hl hS hD hP hsp; unfold lp_t11_takeFrames_9 at hsp; cases hsp
  | succ n_9 ih_9 =>
    intro H locs ls l1_9 l2_9 l3_9 g12_9 g13_9 hl hS hD hP hsp
    unfold lp_t11_takeFrames_9 at hsp
    try dsimp only at hsp
    refine lv_iload_n hx hb dX11_takeFrames_9 rfl (lv_at hl 0 rfl) ?_
    refine lv_aload_n hx hb dX11_takeFrames_10 rfl (lv_at hl 2 rfl) ?_
    refine lv_bipush (v := 9) hx hb dX11_takeFrames_11 (by decide) ?_
    obtain ⟨u2_0, hu_2, hsp⟩ := ox_bind hsp
    try dsimp only at hsp
    have hPc := hP.sub (ws' := [(h0, .inr (11, [.ref qf0, .ref qf1, .int v2, .int v3, .int v4, .ref qf5, .int v6, .int v7, .ref qf8, .ref qf9, .ref qf10, .ref qf11, .ref qf12, .ref qf13, .ref qf14, .ref qf15, .int v16, .int v17, .int v18, .int v19, .int v20])), (qf5, .inr (3, [.ref qf5_0, .int v5_1, .int v5_2, .int v5_3, .ref qf5_4, .ref qf5_5, .ref qf5_6, .int v5_7, .int v5_8, .int v5_9, .int v5_10, .ref qf5_11, .int v5_12, .ref qf5_13])), (qf5_13, .inl (cf5_13, 144, .inl f5_13))]) [0, 1, 2] rfl
    have hDc := hD.sub (ws' := [(h0, .inr (11, [.ref qf0, .ref qf1, .int v2, .int v3, .int v4, .ref qf5, .int v6, .int v7, .ref qf8, .ref qf9, .ref qf10, .ref qf11, .ref qf12, .ref qf13, .ref qf14, .ref qf15, .int v16, .int v17, .int v18, .int v19, .int v20])), (qf5, .inr (3, [.ref qf5_0, .int v5_1, .int v5_2, .int v5_3, .ref qf5_4, .ref qf5_5, .ref qf5_6, .int v5_7, .int v5_8, .int v5_9, .int v5_10, .ref qf5_11, .int v5_12, .ref qf5_13])), (qf5_13, .inl (cf5_13, 144, .inl f5_13))]) [0, 1, 2] (by decide) rfl
    have hKc := hK.sub (tys' := [(cf5_13, .int)]) [0] rfl
    have hFc := va_free (wc := [(h0, .inr (11, [.ref qf0, .ref qf1, .int v2, .int v3, .int v4, .ref qf5, .int v6, .int v7, .ref qf8, .ref qf9, .ref qf10, .ref qf11, .ref qf12, .ref qf13, .ref qf14, .ref qf15, .int v16, .int v17, .int v18, .int v19, .int v20])), (qf5, .inr (3, [.ref qf5_0, .int v5_1, .int v5_2, .int v5_3, .ref qf5_4, .ref qf5_5, .ref qf5_6, .int v5_7, .int v5_8, .int v5_9, .int v5_10, .ref qf5_11, .int v5_12, .ref qf5_13])), (qf5_13, .inl (cf5_13, 144, .inl f5_13))]) hD hS hA [0, 1, 2] rfl
    refine va_calli (va_runV (As := [.int 9]) (rest := [.int l3_9]) ⟨hx, hb, hml, hown, hts⟩ (t11_info l dC dI H.size h0 9 qf0 qf1 v2 v3 v4 qf5 v6 v7 qf8 qf9 qf10 qf11 qf12 qf13 qf14 qf15 v16 v17 v18 v19 v20 qf5_0 v5_1 v5_2 v5_3 qf5_4 qf5_5 qf5_6 v5_7 v5_8 v5_9 v5_10 qf5_11 v5_12 qf5_13 cf5_13 f5_13 nf u2_0 hu_2) (cwV 1 hts gv_h3_35 rfl rfl rfl (by decide +kernel) ⟨Nat.le_of_ble_eq_true rfl, Nat.le_of_ble_eq_true rfl⟩) ⟨fun a U g mk q => by obtain ⟨q0, q1, qP, qK, qD⟩ := q; exact ⟨q0, q1, qP, va_K.moved (u := U) (U := U.calling g mk a) (Vm.Alike.refl U.vm) qK, qD⟩, va_recv hKc hPc (ci := 11) (q0 := 0) rfl rfl, fun U hU hW => ⟨rfl, by rw [hU], by rw [hU]; exact hPc, va_K.moved hW.alike hKc, hDc.weaken (fun _ _ _ _ => trivial)⟩⟩ rfl rfl hl.1 rfl (lv_room (Nat.le_of_ble_eq_true rfl)) dX11_takeFrames_13 ⟨Nat.le_of_ble_eq_true rfl, Nat.le_of_ble_eq_true rfl⟩) hS (fun q _ h => hFc q h) hFc ?_
    clear hS
    intro r_2 u t H1 locs ht hvm hw hB hz1 hk1 hS
    obtain ⟨⟩ := u
    obtain ⟨hP1, hK1, hD1⟩ := hB
    rw [ht] at hP1
    have hK1 := va_K.moved hvm.symm hK1
    try dsimp only at hw
    have hPD := va_join (wr := [(qf5_0, .inl (cf5_0, nb, .inl f5_0)), (qf13, .inl (cf13, 6400, .inl g13_9)), (qf8, .inl (cf8, 256, .inl f8)), (qf12, .inl (cf12, 1500, .inl g12_9))]) (w1 := [(h0, .inr (11, [.ref qf0, .ref qf1, .int v2, .int v3, .int v4, .ref qf5, .int v6, .int v7, .ref qf8, .ref qf9, .ref qf10, .ref qf11, .ref qf12, .ref qf13, .ref qf14, .ref qf15, .int v16, .int v17, .int v18, .int v19, .int v20])), (qf5, .inr (3, [.ref qf5_0, .int v5_1, .int v5_2, .int v5_3, .ref qf5_4, .ref qf5_5, .ref qf5_6, .int v5_7, .int v5_8, .int v5_9, .int v5_10, .ref qf5_11, .int v5_12, .ref qf5_13])), (qf5_13, .inl (cf5_13, 144, .inl f5_13))]) hP hD [0, 1, 2] [3, 4, 5, 6] rfl rfl (by decide) (by decide) hk1 hFc hP1 hD1
    clear hP hD
    obtain ⟨hP, hD⟩ := hPD
    replace hK := (hK.sub (tys' := [(cf5_0, .byte), (cf13, .int), (cf8, .int), (cf12, .int)]) [1, 2, 3, 4] rfl).app hK1
    clear hPc hDc hKc hFc hP1 hK1 hD1 hz1 hk1 ht hvm
    generalize H1 = H at hP hS ⊢
    replace hP : va_P (dC, dI) vwCl [(qf5_0, .inl (cf5_0, nb, .inl f5_0)), (qf13, .inl (cf13, 6400, .inl g13_9)), (qf8, .inl (cf8, 256, .inl f8)), (qf12, .inl (cf12, 1500, .inl g12_9)), (h0, .inr (11, [.ref qf0, .ref qf1, .int v2, .int v3, .int v4, .ref qf5, .int v6, .int v7, .ref qf8, .ref qf9, .ref qf10, .ref qf11, .ref qf12, .ref qf13, .ref qf14, .ref qf15, .int v16, .int v17, .int v18, .int v19, .int v20])), (qf5, .inr (3, [.ref qf5_0, .int v5_1, .int v5_2, .int v5_3, .ref qf5_4, .ref qf5_5, .ref qf5_6, .int v5_7, .int v5_8, .int v5_9, .int v5_10, .ref qf5_11, .int v5_12, .ref qf5_13])), (qf5_13, .inl (cf5_13, 144, .inl f5_13))] H := hP
    replace hD : va_D A [(qf5_0, .inl (cf5_0, nb, .inl f5_0)), (qf13, .inl (cf13, 6400, .inl g13_9)), (qf8, .inl (cf8, 256, .inl f8)), (qf12, .inl (cf12, 1500, .inl g12_9)), (h0, .inr (11, [.ref qf0, .ref qf1, .int v2, .int v3, .int v4, .ref qf5, .int v6, .int v7, .ref qf8, .ref qf9, .ref qf10, .ref qf11, .ref qf12, .ref qf13, .ref qf14, .ref qf15, .int v16, .int v17, .int v18, .int v19, .int v20])), (qf5, .inr (3, [.ref qf5_0, .int v5_1, .int v5_2, .int v5_3, .ref qf5_4, .ref qf5_5, .ref qf5_6, .int v5_7, .int v5_8, .int v5_9, .int v5_10, .ref qf5_11, .int v5_12, .ref qf5_13])), (qf5_13, .inl (cf5_13, 144, .inl f5_13))] := hD
    replace hK : va_K (dC, dI) vwCl [(cf5_0, .byte), (cf13, .int), (cf8, .int), (cf12, .int), (cf5_13, .int)] s := hK
    obtain rfl := hw
    refine lv_icmp_ge (tgt := 141) hx hb dX11_takeFrames_16 (by decide) (fun c_3 => ?_) (fun c_3 => ?_)
    · rw [if_pos c_3] at hsp
      have hr0 := Option.some.inj hsp
      clear hsp
      obtain ⟨hq0, hr1⟩ := Prod.mk.inj hr0
      clear hr0
      subst hq0
      subst hr1
      have hP9 := hP.sub (ws' := [(h0, .inr (11, [.ref qf0, .ref qf1, .int v2, .int v3, .int v4, .ref qf5, .int v6, .int v7, .ref qf8, .ref qf9, .ref qf10, .ref qf11, .ref qf12, .ref qf13, .ref qf14, .ref qf15, .int v16, .int v17, .int v18, .int v19, .int v20])), (qf5, .inr (3, [.ref qf5_0, .int v5_1, .int v5_2, .int v5_3, .ref qf5_4, .ref qf5_5, .ref qf5_6, .int v5_7, .int v5_8, .int v5_9, .int v5_10, .ref qf5_11, .int v5_12, .ref qf5_13])), (qf5_13, .inl (cf5_13, 144, .inl f5_13)), (qf5_0, .inl (cf5_0, nb, .inl f5_0)), (qf13, .inl (cf13, 6400, .inl g13_9)), (qf8, .inl (cf8, 256, .inl f8)), (qf12, .inl (cf12, 1500, .inl g12_9))]) [4, 5, 6, 0, 1, 2, 3] rfl
      have hD9 := hD.sub (ws' := [(h0, .inr (11, [.ref qf0, .ref qf1, .int v2, .int v3, .int v4, .ref qf5, .int v6, .int v7, .ref qf8, .ref qf9, .ref qf10, .ref qf11, .ref qf12, .ref qf13, .ref qf14, .ref qf15, .int v16, .int v17, .int v18, .int v19, .int v20])), (qf5, .inr (3, [.ref qf5_0, .int v5_1, .int v5_2, .int v5_3, .ref qf5_4, .ref qf5_5, .ref qf5_6, .int v5_7, .int v5_8, .int v5_9, .int v5_10, .ref qf5_11, .int v5_12, .ref qf5_13])), (qf5_13, .inl (cf5_13, 144, .inl f5_13)), (qf5_0, .inl (cf5_0, nb, .inl f5_0)), (qf13, .inl (cf13, 6400, .inl g13_9)), (qf8, .inl (cf8, 256, .inl f8)), (qf12, .inl (cf12, 1500, .inl g12_9))]) [4, 5, 6, 0, 1, 2, 3] (by decide) rfl
      have hK9 := hK.sub (tys' := [(cf5_13, .int), (cf5_0, .byte), (cf13, .int), (cf8, .int), (cf12, .int)]) [4, 0, 1, 2, 3] rfl
      exact W.vret hx hb hr (fun t ht hW => ⟨⟨(), rfl, trivial, by rw [ht]; exact hP9, va_K.moved hW.alike hK9, hD9⟩, hS.F ht⟩) hS.2.2 dX11_takeFrames_141
    · rw [if_neg c_3] at hsp
      refine lv_iload_n hx hb dX11_takeFrames_19 rfl (lv_at hl 3 rfl) ?_
      refine lv_if_eq (tgt := 141) hx hb dX11_takeFrames_20 (by decide) (fun c_4 => ?_) (fun c_4 => ?_)
      · rw [if_pos c_4] at hsp
        have hr0 := Option.some.inj hsp
        clear hsp
        obtain ⟨hq0, hr1⟩ := Prod.mk.inj hr0
        clear hr0
        subst hq0
        subst hr1
        have hP9 := hP.sub (ws' := [(h0, .inr (11, [.ref qf0, .ref qf1, .int v2, .int v3, .int v4, .ref qf5, .int v6, .int v7, .ref qf8, .ref qf9, .ref qf10, .ref qf11, .ref qf12, .ref qf13, .ref qf14, .ref qf15, .int v16, .int v17, .int v18, .int v19, .int v20])), (qf5, .inr (3, [.ref qf5_0, .int v5_1, .int v5_2, .int v5_3, .ref qf5_4, .ref qf5_5, .ref qf5_6, .int v5_7, .int v5_8, .int v5_9, .int v5_10, .ref qf5_11, .int v5_12, .ref qf5_13])), (qf5_13, .inl (cf5_13, 144, .inl f5_13)), (qf5_0, .inl (cf5_0, nb, .inl f5_0)), (qf13, .inl (cf13, 6400, .inl g13_9)), (qf8, .inl (cf8, 256, .inl f8)), (qf12, .inl (cf12, 1500, .inl g12_9))]) [4, 5, 6, 0, 1, 2, 3] rfl
        have hD9 := hD.sub (ws' := [(h0, .inr (11, [.ref qf0, .ref qf1, .int v2, .int v3, .int v4, .ref qf5, .int v6, .int v7, .ref qf8, .ref qf9, .ref qf10, .ref qf11, .ref qf12, .ref qf13, .ref qf14, .ref qf15, .int v16, .int v17, .int v18, .int v19, .int v20])), (qf5, .inr (3, [.ref qf5_0, .int v5_1, .int v5_2, .int v5_3, .ref qf5_4, .ref qf5_5, .ref qf5_6, .int v5_7, .int v5_8, .int v5_9, .int v5_10, .ref qf5_11, .int v5_12, .ref qf5_13])), (qf5_13, .inl (cf5_13, 144, .inl f5_13)), (qf5_0, .inl (cf5_0, nb, .inl f5_0)), (qf13, .inl (cf13, 6400, .inl g13_9)), (qf8, .inl (cf8, 256, .inl f8)), (qf12, .inl (cf12, 1500, .inl g12_9))]) [4, 5, 6, 0, 1, 2, 3] (by decide) rfl
        have hK9 := hK.sub (tys' := [(cf5_13, .int), (cf5_0, .byte), (cf13, .int), (cf8, .int), (cf12, .int)]) [4, 0, 1, 2, 3] rfl
        exact W.vret hx hb hr (fun t ht hW => ⟨⟨(), rfl, trivial, by rw [ht]; exact hP9, va_K.moved hW.alike hK9, hD9⟩, hS.F ht⟩) hS.2.2 dX11_takeFrames_141
      · rw [if_neg c_4] at hsp
        refine lv_iload_n hx hb dX11_takeFrames_23 rfl (lv_at hl 0 rfl) ?_
        refine lv_bipush (v := 64) hx hb dX11_takeFrames_24 (by decide) ?_
        refine lv_imul hx hb dX11_takeFrames_26 ?_
        refine lv_istore (lv' := [(4, .int (l3_9 * 64)), (3, .int l3_9), (2, .int l2_9), (0, .ref h0), (1, .int l1_9)]) hx hb dX11_takeFrames_27 hl (by decide) rfl (fun ls hl => ?_)
        refine lv_aload_n hx hb dX11_takeFrames_29 rfl (lv_at hl 3 rfl) ?_
        refine va_get (D := (dC, dI)) (ci := 11) (v := .ref qf5) (C := RX11) (T := TX11) (N := 21) hx hb hts uV_h3_X11 hown hK hP 4 rfl rfl 5 (by decide) (hts (.fieldLink RX11 62 "ClassMill$Verifier" "image" "LClassMill$Image;") mw_h3_161) (fun _ h9 => h9) rfl dX11_takeFrames_30 ?_
        refine lv_iload_n hx hb dX11_takeFrames_33 rfl (lv_at hl 2 rfl) ?_
        obtain ⟨u3_0, hu_3, hsp⟩ := ox_bind hsp
        try dsimp only at hsp
        have hPc := hP.sub (ws' := [(qf5, .inr (3, [.ref qf5_0, .int v5_1, .int v5_2, .int v5_3, .ref qf5_4, .ref qf5_5, .ref qf5_6, .int v5_7, .int v5_8, .int v5_9, .int v5_10, .ref qf5_11, .int v5_12, .ref qf5_13])), (qf5_0, .inl (cf5_0, nb, .inl f5_0))]) [5, 0] rfl
        have hDc := hD.sub (ws' := [(qf5, .inr (3, [.ref qf5_0, .int v5_1, .int v5_2, .int v5_3, .ref qf5_4, .ref qf5_5, .ref qf5_6, .int v5_7, .int v5_8, .int v5_9, .int v5_10, .ref qf5_11, .int v5_12, .ref qf5_13])), (qf5_0, .inl (cf5_0, nb, .inl f5_0))]) [5, 0] (by decide) rfl
        have hKc := hK.sub (tys' := [(cf5_0, .byte)]) [0] rfl
        have hFc := va_free (wc := [(qf5, .inr (3, [.ref qf5_0, .int v5_1, .int v5_2, .int v5_3, .ref qf5_4, .ref qf5_5, .ref qf5_6, .int v5_7, .int v5_8, .int v5_9, .int v5_10, .ref qf5_11, .int v5_12, .ref qf5_13])), (qf5_0, .inl (cf5_0, nb, .inl f5_0))]) hD hS hA [5, 0] rfl
        refine va_calli (va_runV (As := [.int l2_9]) (rest := []) ⟨hx, hb, hml, hown, hts⟩ (ti_pairAt l dC dI H.size qf5 l2_9 qf5_0 v5_1 v5_2 v5_3 qf5_4 qf5_5 qf5_6 v5_7 v5_8 v5_9 v5_10 qf5_11 v5_12 qf5_13 cf5_0 nb f5_0 nf u3_0 hu_3) (cwV 1 hts gv_h3_42 rfl rfl rfl (by decide +kernel) ⟨Nat.le_of_ble_eq_true rfl, Nat.le_of_ble_eq_true rfl⟩) ⟨fun a U g mk q => by obtain ⟨q0, q1, qP, qK, qD⟩ := q; exact ⟨q0, q1, qP, va_K.moved (u := U) (U := U.calling g mk a) (Vm.Alike.refl U.vm) qK, qD⟩, va_recv hKc hPc (ci := 3) (q0 := 0) rfl rfl, fun U hU hW => ⟨rfl, by rw [hU], by rw [hU]; exact hPc, va_K.moved hW.alike hKc, hDc.weaken (fun _ _ _ _ => trivial)⟩⟩ rfl rfl hl.1 rfl (lv_room (Nat.le_of_ble_eq_true rfl)) dX11_takeFrames_34 ⟨Nat.le_of_ble_eq_true rfl, Nat.le_of_ble_eq_true rfl⟩) hS (fun q _ h => hFc q h) hFc ?_
        clear hS
        intro r_5 u t H1 locs ht hvm hw hB hz1 hk1 hS
        obtain ⟨⟩ := u
        obtain ⟨hP1, hK1, hD1⟩ := hB
        rw [ht] at hP1
        have hK1 := va_K.moved hvm.symm hK1
        try dsimp only at hw
        have hPD := va_join (wr := [(qf13, .inl (cf13, 6400, .inl g13_9)), (qf8, .inl (cf8, 256, .inl f8)), (qf12, .inl (cf12, 1500, .inl g12_9)), (h0, .inr (11, [.ref qf0, .ref qf1, .int v2, .int v3, .int v4, .ref qf5, .int v6, .int v7, .ref qf8, .ref qf9, .ref qf10, .ref qf11, .ref qf12, .ref qf13, .ref qf14, .ref qf15, .int v16, .int v17, .int v18, .int v19, .int v20])), (qf5_13, .inl (cf5_13, 144, .inl f5_13))]) (w1 := [(qf5, .inr (3, [.ref qf5_0, .int v5_1, .int v5_2, .int v5_3, .ref qf5_4, .ref qf5_5, .ref qf5_6, .int v5_7, .int v5_8, .int v5_9, .int v5_10, .ref qf5_11, .int v5_12, .ref qf5_13])), (qf5_0, .inl (cf5_0, nb, .inl f5_0))]) hP hD [5, 0] [1, 2, 3, 4, 6] rfl rfl (by decide) (by decide) hk1 hFc hP1 hD1
        clear hP hD
        obtain ⟨hP, hD⟩ := hPD
        replace hK := (hK.sub (tys' := [(cf13, .int), (cf8, .int), (cf12, .int), (cf5_13, .int)]) [1, 2, 3, 4] rfl).app hK1
        clear hPc hDc hKc hFc hP1 hK1 hD1 hz1 hk1 ht hvm
        generalize H1 = H at hP hS ⊢
        replace hP : va_P (dC, dI) vwCl [(qf13, .inl (cf13, 6400, .inl g13_9)), (qf8, .inl (cf8, 256, .inl f8)), (qf12, .inl (cf12, 1500, .inl g12_9)), (h0, .inr (11, [.ref qf0, .ref qf1, .int v2, .int v3, .int v4, .ref qf5, .int v6, .int v7, .ref qf8, .ref qf9, .ref qf10, .ref qf11, .ref qf12, .ref qf13, .ref qf14, .ref qf15, .int v16, .int v17, .int v18, .int v19, .int v20])), (qf5_13, .inl (cf5_13, 144, .inl f5_13)), (qf5, .inr (3, [.ref qf5_0, .int v5_1, .int v5_2, .int v5_3, .ref qf5_4, .ref qf5_5, .ref qf5_6, .int v5_7, .int v5_8, .int v5_9, .int v5_10, .ref qf5_11, .int v5_12, .ref qf5_13])), (qf5_0, .inl (cf5_0, nb, .inl f5_0))] H := hP
        replace hD : va_D A [(qf13, .inl (cf13, 6400, .inl g13_9)), (qf8, .inl (cf8, 256, .inl f8)), (qf12, .inl (cf12, 1500, .inl g12_9)), (h0, .inr (11, [.ref qf0, .ref qf1, .int v2, .int v3, .int v4, .ref qf5, .int v6, .int v7, .ref qf8, .ref qf9, .ref qf10, .ref qf11, .ref qf12, .ref qf13, .ref qf14, .ref qf15, .int v16, .int v17, .int v18, .int v19, .int v20])), (qf5_13, .inl (cf5_13, 144, .inl f5_13)), (qf5, .inr (3, [.ref qf5_0, .int v5_1, .int v5_2, .int v5_3, .ref qf5_4, .ref qf5_5, .ref qf5_6, .int v5_7, .int v5_8, .int v5_9, .int v5_10, .ref qf5_11, .int v5_12, .ref qf5_13])), (qf5_0, .inl (cf5_0, nb, .inl f5_0))] := hD
        replace hK : va_K (dC, dI) vwCl [(cf13, .int), (cf8, .int), (cf12, .int), (cf5_13, .int), (cf5_0, .byte)] s := hK
        obtain rfl := hw
        refine lv_istore (lv' := [(5, .int u3_0), (4, .int (l3_9 * 64)), (3, .int l3_9), (2, .int l2_9), (0, .ref h0), (1, .int l1_9)]) hx hb dX11_takeFrames_37 hl (by decide) rfl (fun ls hl => ?_)
        refine lv_aload_n hx hb dX11_takeFrames_39 rfl (lv_at hl 4 rfl) ?_
        refine va_get (D := (dC, dI)) (ci := 11) (v := .ref qf13) (C := RX11) (T := TX11) (N := 21) hx hb hts uV_h3_X11 hown hK hP 3 rfl rfl 13 (by decide) (hts (.fieldLink RX11 41 "ClassMill$Verifier" "frames" "[I") mw_h3_194) (fun _ h9 => h9) rfl dX11_takeFrames_40 ?_
        refine lv_iload hx hb dX11_takeFrames_43 (lv_at hl 1 rfl) ?_
        refine lv_iload hx hb dX11_takeFrames_45 (lv_at hl 0 rfl) ?_
        obtain ⟨hi_6, hsp⟩ := ox_in hsp
        refine va_iast hx hb hK hP hD hS 0 0 rfl rfl (i := (l3_9 * 64)) (x := u3_0) hi_6 dX11_takeFrames_47 ?_
        clear hP hD hS
        intro H locs hP hD hS
        replace hP : va_P (dC, dI) vwCl [(qf13, .inl (cf13, 6400, .inl (upd g13_9 ((l3_9 * 64) : Int32).toNatClampNeg u3_0))), (qf8, .inl (cf8, 256, .inl f8)), (qf12, .inl (cf12, 1500, .inl g12_9)), (h0, .inr (11, [.ref qf0, .ref qf1, .int v2, .int v3, .int v4, .ref qf5, .int v6, .int v7, .ref qf8, .ref qf9, .ref qf10, .ref qf11, .ref qf12, .ref qf13, .ref qf14, .ref qf15, .int v16, .int v17, .int v18, .int v19, .int v20])), (qf5_13, .inl (cf5_13, 144, .inl f5_13)), (qf5, .inr (3, [.ref qf5_0, .int v5_1, .int v5_2, .int v5_3, .ref qf5_4, .ref qf5_5, .ref qf5_6, .int v5_7, .int v5_8, .int v5_9, .int v5_10, .ref qf5_11, .int v5_12, .ref qf5_13])), (qf5_0, .inl (cf5_0, nb, .inl f5_0))] H := hP
        replace hD : va_D A [(qf13, .inl (cf13, 6400, .inl (upd g13_9 ((l3_9 * 64) : Int32).toNatClampNeg u3_0))), (qf8, .inl (cf8, 256, .inl f8)), (qf12, .inl (cf12, 1500, .inl g12_9)), (h0, .inr (11, [.ref qf0, .ref qf1, .int v2, .int v3, .int v4, .ref qf5, .int v6, .int v7, .ref qf8, .ref qf9, .ref qf10, .ref qf11, .ref qf12, .ref qf13, .ref qf14, .ref qf15, .int v16, .int v17, .int v18, .int v19, .int v20])), (qf5_13, .inl (cf5_13, 144, .inl f5_13)), (qf5, .inr (3, [.ref qf5_0, .int v5_1, .int v5_2, .int v5_3, .ref qf5_4, .ref qf5_5, .ref qf5_6, .int v5_7, .int v5_8, .int v5_9, .int v5_10, .ref qf5_11, .int v5_12, .ref qf5_13])), (qf5_0, .inl (cf5_0, nb, .inl f5_0))] := hD
        refine lv_aload_n hx hb dX11_takeFrames_48 rfl (lv_at hl 4 rfl) ?_
        refine va_get (D := (dC, dI)) (ci := 11) (v := .ref qf13) (C := RX11) (T := TX11) (N := 21) hx hb hts uV_h3_X11 hown hK hP 3 rfl rfl 13 (by decide) (hts (.fieldLink RX11 41 "ClassMill$Verifier" "frames" "[I") mw_h3_194) (fun _ h9 => h9) rfl dX11_takeFrames_49 ?_
        refine lv_iload hx hb dX11_takeFrames_52 (lv_at hl 1 rfl) ?_
        refine lv_iconst (v := 1) hx hb dX11_takeFrames_54 (by decide) ?_
        refine lv_iadd hx hb dX11_takeFrames_55 ?_
        refine lv_aload_n hx hb dX11_takeFrames_56 rfl (lv_at hl 4 rfl) ?_
        refine va_get (D := (dC, dI)) (ci := 11) (v := .ref qf5) (C := RX11) (T := TX11) (N := 21) hx hb hts uV_h3_X11 hown hK hP 3 rfl rfl 5 (by decide) (hts (.fieldLink RX11 62 "ClassMill$Verifier" "image" "LClassMill$Image;") mw_h3_161) (fun _ h9 => h9) rfl dX11_takeFrames_57 ?_
        refine lv_iload_n hx hb dX11_takeFrames_60 rfl (lv_at hl 3 rfl) ?_
        refine lv_iconst (v := 2) hx hb dX11_takeFrames_61 (by decide) ?_
        refine lv_iadd hx hb dX11_takeFrames_62 ?_
        obtain ⟨u4_0, hu_4, hsp⟩ := ox_bind hsp
        try dsimp only at hsp
        have hPc := hP.sub (ws' := [(qf5, .inr (3, [.ref qf5_0, .int v5_1, .int v5_2, .int v5_3, .ref qf5_4, .ref qf5_5, .ref qf5_6, .int v5_7, .int v5_8, .int v5_9, .int v5_10, .ref qf5_11, .int v5_12, .ref qf5_13])), (qf5_0, .inl (cf5_0, nb, .inl f5_0))]) [5, 6] rfl
        have hDc := hD.sub (ws' := [(qf5, .inr (3, [.ref qf5_0, .int v5_1, .int v5_2, .int v5_3, .ref qf5_4, .ref qf5_5, .ref qf5_6, .int v5_7, .int v5_8, .int v5_9, .int v5_10, .ref qf5_11, .int v5_12, .ref qf5_13])), (qf5_0, .inl (cf5_0, nb, .inl f5_0))]) [5, 6] (by decide) rfl
        have hKc := hK.sub (tys' := [(cf5_0, .byte)]) [4] rfl
        have hFc := va_free (wc := [(qf5, .inr (3, [.ref qf5_0, .int v5_1, .int v5_2, .int v5_3, .ref qf5_4, .ref qf5_5, .ref qf5_6, .int v5_7, .int v5_8, .int v5_9, .int v5_10, .ref qf5_11, .int v5_12, .ref qf5_13])), (qf5_0, .inl (cf5_0, nb, .inl f5_0))]) hD hS hA [5, 6] rfl
        refine va_calli (va_runV (As := [.int (l2_9 + 2)]) (rest := [.int ((l3_9 * 64) + 1), .ref qf13]) ⟨hx, hb, hml, hown, hts⟩ (ti_byteAt l dC dI H.size qf5 ((l2_9 + 2)) qf5_0 v5_1 v5_2 v5_3 qf5_4 qf5_5 qf5_6 v5_7 v5_8 v5_9 v5_10 qf5_11 v5_12 qf5_13 cf5_0 nb f5_0 nf u4_0 hu_4) (cwV 1 hts gv_h3_34 rfl rfl rfl (by decide +kernel) ⟨Nat.le_of_ble_eq_true rfl, Nat.le_of_ble_eq_true rfl⟩) ⟨fun a U g mk q => by obtain ⟨q0, q1, qP, qK, qD⟩ := q; exact ⟨q0, q1, qP, va_K.moved (u := U) (U := U.calling g mk a) (Vm.Alike.refl U.vm) qK, qD⟩, va_recv hKc hPc (ci := 3) (q0 := 0) rfl rfl, fun U hU hW => ⟨rfl, by rw [hU], by rw [hU]; exact hPc, va_K.moved hW.alike hKc, hDc.weaken (fun _ _ _ _ => trivial)⟩⟩ rfl rfl hl.1 rfl (lv_room (Nat.le_of_ble_eq_true rfl)) dX11_takeFrames_63 ⟨Nat.le_of_ble_eq_true rfl, Nat.le_of_ble_eq_true rfl⟩) hS (fun q _ h => hFc q h) hFc ?_
        clear hS
        intro r_7 u t H1 locs ht hvm hw hB hz1 hk1 hS
        obtain ⟨⟩ := u
        obtain ⟨hP1, hK1, hD1⟩ := hB
        rw [ht] at hP1
        have hK1 := va_K.moved hvm.symm hK1
        try dsimp only at hw
        have hPD := va_join (wr := [(qf13, .inl (cf13, 6400, .inl (upd g13_9 ((l3_9 * 64) : Int32).toNatClampNeg u3_0))), (qf8, .inl (cf8, 256, .inl f8)), (qf12, .inl (cf12, 1500, .inl g12_9)), (h0, .inr (11, [.ref qf0, .ref qf1, .int v2, .int v3, .int v4, .ref qf5, .int v6, .int v7, .ref qf8, .ref qf9, .ref qf10, .ref qf11, .ref qf12, .ref qf13, .ref qf14, .ref qf15, .int v16, .int v17, .int v18, .int v19, .int v20])), (qf5_13, .inl (cf5_13, 144, .inl f5_13))]) (w1 := [(qf5, .inr (3, [.ref qf5_0, .int v5_1, .int v5_2, .int v5_3, .ref qf5_4, .ref qf5_5, .ref qf5_6, .int v5_7, .int v5_8, .int v5_9, .int v5_10, .ref qf5_11, .int v5_12, .ref qf5_13])), (qf5_0, .inl (cf5_0, nb, .inl f5_0))]) hP hD [5, 6] [0, 1, 2, 3, 4] rfl rfl (by decide) (by decide) hk1 hFc hP1 hD1
        clear hP hD
        obtain ⟨hP, hD⟩ := hPD
        replace hK := (hK.sub (tys' := [(cf13, .int), (cf8, .int), (cf12, .int), (cf5_13, .int)]) [0, 1, 2, 3] rfl).app hK1
        clear hPc hDc hKc hFc hP1 hK1 hD1 hz1 hk1 ht hvm
        generalize H1 = H at hP hS ⊢
        replace hP : va_P (dC, dI) vwCl [(qf13, .inl (cf13, 6400, .inl (upd g13_9 ((l3_9 * 64) : Int32).toNatClampNeg u3_0))), (qf8, .inl (cf8, 256, .inl f8)), (qf12, .inl (cf12, 1500, .inl g12_9)), (h0, .inr (11, [.ref qf0, .ref qf1, .int v2, .int v3, .int v4, .ref qf5, .int v6, .int v7, .ref qf8, .ref qf9, .ref qf10, .ref qf11, .ref qf12, .ref qf13, .ref qf14, .ref qf15, .int v16, .int v17, .int v18, .int v19, .int v20])), (qf5_13, .inl (cf5_13, 144, .inl f5_13)), (qf5, .inr (3, [.ref qf5_0, .int v5_1, .int v5_2, .int v5_3, .ref qf5_4, .ref qf5_5, .ref qf5_6, .int v5_7, .int v5_8, .int v5_9, .int v5_10, .ref qf5_11, .int v5_12, .ref qf5_13])), (qf5_0, .inl (cf5_0, nb, .inl f5_0))] H := hP
        replace hD : va_D A [(qf13, .inl (cf13, 6400, .inl (upd g13_9 ((l3_9 * 64) : Int32).toNatClampNeg u3_0))), (qf8, .inl (cf8, 256, .inl f8)), (qf12, .inl (cf12, 1500, .inl g12_9)), (h0, .inr (11, [.ref qf0, .ref qf1, .int v2, .int v3, .int v4, .ref qf5, .int v6, .int v7, .ref qf8, .ref qf9, .ref qf10, .ref qf11, .ref qf12, .ref qf13, .ref qf14, .ref qf15, .int v16, .int v17, .int v18, .int v19, .int v20])), (qf5_13, .inl (cf5_13, 144, .inl f5_13)), (qf5, .inr (3, [.ref qf5_0, .int v5_1, .int v5_2, .int v5_3, .ref qf5_4, .ref qf5_5, .ref qf5_6, .int v5_7, .int v5_8, .int v5_9, .int v5_10, .ref qf5_11, .int v5_12, .ref qf5_13])), (qf5_0, .inl (cf5_0, nb, .inl f5_0))] := hD
        replace hK : va_K (dC, dI) vwCl [(cf13, .int), (cf8, .int), (cf12, .int), (cf5_13, .int), (cf5_0, .byte)] s := hK
        obtain rfl := hw
        obtain ⟨hi_8, hsp⟩ := ox_in hsp
        refine va_iast hx hb hK hP hD hS 0 0 rfl rfl (i := ((l3_9 * 64) + 1)) (x := u4_0) hi_8 dX11_takeFrames_66 ?_
        clear hP hD hS
        intro H locs hP hD hS
        replace hP : va_P (dC, dI) vwCl [(qf13, .inl (cf13, 6400, .inl (upd (upd g13_9 ((l3_9 * 64) : Int32).toNatClampNeg u3_0) (((l3_9 * 64) + 1) : Int32).toNatClampNeg u4_0))), (qf8, .inl (cf8, 256, .inl f8)), (qf12, .inl (cf12, 1500, .inl g12_9)), (h0, .inr (11, [.ref qf0, .ref qf1, .int v2, .int v3, .int v4, .ref qf5, .int v6, .int v7, .ref qf8, .ref qf9, .ref qf10, .ref qf11, .ref qf12, .ref qf13, .ref qf14, .ref qf15, .int v16, .int v17, .int v18, .int v19, .int v20])), (qf5_13, .inl (cf5_13, 144, .inl f5_13)), (qf5, .inr (3, [.ref qf5_0, .int v5_1, .int v5_2, .int v5_3, .ref qf5_4, .ref qf5_5, .ref qf5_6, .int v5_7, .int v5_8, .int v5_9, .int v5_10, .ref qf5_11, .int v5_12, .ref qf5_13])), (qf5_0, .inl (cf5_0, nb, .inl f5_0))] H := hP
        replace hD : va_D A [(qf13, .inl (cf13, 6400, .inl (upd (upd g13_9 ((l3_9 * 64) : Int32).toNatClampNeg u3_0) (((l3_9 * 64) + 1) : Int32).toNatClampNeg u4_0))), (qf8, .inl (cf8, 256, .inl f8)), (qf12, .inl (cf12, 1500, .inl g12_9)), (h0, .inr (11, [.ref qf0, .ref qf1, .int v2, .int v3, .int v4, .ref qf5, .int v6, .int v7, .ref qf8, .ref qf9, .ref qf10, .ref qf11, .ref qf12, .ref qf13, .ref qf14, .ref qf15, .int v16, .int v17, .int v18, .int v19, .int v20])), (qf5_13, .inl (cf5_13, 144, .inl f5_13)), (qf5, .inr (3, [.ref qf5_0, .int v5_1, .int v5_2, .int v5_3, .ref qf5_4, .ref qf5_5, .ref qf5_6, .int v5_7, .int v5_8, .int v5_9, .int v5_10, .ref qf5_11, .int v5_12, .ref qf5_13])), (qf5_0, .inl (cf5_0, nb, .inl f5_0))] := hD
        refine lv_aload_n hx hb dX11_takeFrames_67 rfl (lv_at hl 4 rfl) ?_
        refine lv_iload_n hx hb dX11_takeFrames_68 rfl (lv_at hl 3 rfl) ?_
        refine lv_iconst (v := 2) hx hb dX11_takeFrames_69 (by decide) ?_
        refine lv_iadd hx hb dX11_takeFrames_70 ?_
        refine lv_iload hx hb dX11_takeFrames_71 (lv_at hl 1 rfl) ?_
        refine lv_iconst (v := 3) hx hb dX11_takeFrames_73 (by decide) ?_
        refine lv_iadd hx hb dX11_takeFrames_74 ?_
        obtain ⟨⟨u5_0, g905_1⟩, hu_5, hsp⟩ := ox_bind hsp
        try dsimp only at hsp
        have hPc := hP.sub (ws' := [(h0, .inr (11, [.ref qf0, .ref qf1, .int v2, .int v3, .int v4, .ref qf5, .int v6, .int v7, .ref qf8, .ref qf9, .ref qf10, .ref qf11, .ref qf12, .ref qf13, .ref qf14, .ref qf15, .int v16, .int v17, .int v18, .int v19, .int v20])), (qf5, .inr (3, [.ref qf5_0, .int v5_1, .int v5_2, .int v5_3, .ref qf5_4, .ref qf5_5, .ref qf5_6, .int v5_7, .int v5_8, .int v5_9, .int v5_10, .ref qf5_11, .int v5_12, .ref qf5_13])), (qf5_0, .inl (cf5_0, nb, .inl f5_0)), (qf8, .inl (cf8, 256, .inl f8)), (qf13, .inl (cf13, 6400, .inl (upd (upd g13_9 ((l3_9 * 64) : Int32).toNatClampNeg u3_0) (((l3_9 * 64) + 1) : Int32).toNatClampNeg u4_0)))]) [3, 5, 6, 1, 0] rfl
        have hDc := hD.sub (ws' := [(h0, .inr (11, [.ref qf0, .ref qf1, .int v2, .int v3, .int v4, .ref qf5, .int v6, .int v7, .ref qf8, .ref qf9, .ref qf10, .ref qf11, .ref qf12, .ref qf13, .ref qf14, .ref qf15, .int v16, .int v17, .int v18, .int v19, .int v20])), (qf5, .inr (3, [.ref qf5_0, .int v5_1, .int v5_2, .int v5_3, .ref qf5_4, .ref qf5_5, .ref qf5_6, .int v5_7, .int v5_8, .int v5_9, .int v5_10, .ref qf5_11, .int v5_12, .ref qf5_13])), (qf5_0, .inl (cf5_0, nb, .inl f5_0)), (qf8, .inl (cf8, 256, .inl f8)), (qf13, .inl (cf13, 6400, .inl (upd (upd g13_9 ((l3_9 * 64) : Int32).toNatClampNeg u3_0) (((l3_9 * 64) + 1) : Int32).toNatClampNeg u4_0)))]) [3, 5, 6, 1, 0] (by decide) rfl
        have hKc := hK.sub (tys' := [(cf5_0, .byte), (cf8, .int), (cf13, .int)]) [4, 1, 0] rfl
        have hFc := va_free (wc := [(h0, .inr (11, [.ref qf0, .ref qf1, .int v2, .int v3, .int v4, .ref qf5, .int v6, .int v7, .ref qf8, .ref qf9, .ref qf10, .ref qf11, .ref qf12, .ref qf13, .ref qf14, .ref qf15, .int v16, .int v17, .int v18, .int v19, .int v20])), (qf5, .inr (3, [.ref qf5_0, .int v5_1, .int v5_2, .int v5_3, .ref qf5_4, .ref qf5_5, .ref qf5_6, .int v5_7, .int v5_8, .int v5_9, .int v5_10, .ref qf5_11, .int v5_12, .ref qf5_13])), (qf5_0, .inl (cf5_0, nb, .inl f5_0)), (qf8, .inl (cf8, 256, .inl f8)), (qf13, .inl (cf13, 6400, .inl (upd (upd g13_9 ((l3_9 * 64) : Int32).toNatClampNeg u3_0) (((l3_9 * 64) + 1) : Int32).toNatClampNeg u4_0)))]) hD hS hA [3, 5, 6, 1, 0] rfl
        refine va_calli (va_runV (As := [.int (l2_9 + 2), .int ((l3_9 * 64) + 3)]) (rest := []) ⟨hx, hb, hml, hown, hts⟩ (t11_takeTypes l dC dI H.size h0 ((l2_9 + 2)) (((l3_9 * 64) + 3)) qf0 qf1 v2 v3 v4 qf5 v6 v7 qf8 qf9 qf10 qf11 qf12 qf13 qf14 qf15 v16 v17 v18 v19 v20 qf5_0 v5_1 v5_2 v5_3 qf5_4 qf5_5 qf5_6 v5_7 v5_8 v5_9 v5_10 qf5_11 v5_12 qf5_13 cf5_0 nb f5_0 cf8 f8 cf13 ((upd (upd g13_9 ((l3_9 * 64) : Int32).toNatClampNeg u3_0) (((l3_9 * 64) + 1) : Int32).toNatClampNeg u4_0)) nf u5_0 g905_1 hu_5) (cwV 2 hts gv_h3_67 rfl rfl rfl (by decide +kernel) ⟨Nat.le_of_ble_eq_true rfl, Nat.le_of_ble_eq_true rfl⟩) ⟨fun a U g mk q => by obtain ⟨q0, q1, qP, qK, qD⟩ := q; exact ⟨q0, q1, qP, va_K.moved (u := U) (U := U.calling g mk a) (Vm.Alike.refl U.vm) qK, qD⟩, va_recv hKc hPc (ci := 11) (q0 := 0) rfl rfl, fun U hU hW => ⟨rfl, by rw [hU], by rw [hU]; exact hPc, va_K.moved hW.alike hKc, hDc.weaken (fun _ _ _ _ => trivial)⟩⟩ rfl rfl hl.1 rfl (lv_room (Nat.le_of_ble_eq_true rfl)) dX11_takeFrames_75 ⟨Nat.le_of_ble_eq_true rfl, Nat.le_of_ble_eq_true rfl⟩) hS (fun q _ h => hFc q h) hFc ?_
        clear hS
        intro r_9 u t H1 locs ht hvm hw hB hz1 hk1 hS
        obtain ⟨⟩ := u
        obtain ⟨hP1, hK1, hD1⟩ := hB
        rw [ht] at hP1
        have hK1 := va_K.moved hvm.symm hK1
        try dsimp only at hw
        have hPD := va_join (wr := [(qf12, .inl (cf12, 1500, .inl g12_9)), (qf5_13, .inl (cf5_13, 144, .inl f5_13))]) (w1 := [(h0, .inr (11, [.ref qf0, .ref qf1, .int v2, .int v3, .int v4, .ref qf5, .int v6, .int v7, .ref qf8, .ref qf9, .ref qf10, .ref qf11, .ref qf12, .ref qf13, .ref qf14, .ref qf15, .int v16, .int v17, .int v18, .int v19, .int v20])), (qf5, .inr (3, [.ref qf5_0, .int v5_1, .int v5_2, .int v5_3, .ref qf5_4, .ref qf5_5, .ref qf5_6, .int v5_7, .int v5_8, .int v5_9, .int v5_10, .ref qf5_11, .int v5_12, .ref qf5_13])), (qf5_0, .inl (cf5_0, nb, .inl f5_0)), (qf8, .inl (cf8, 256, .inl f8)), (qf13, .inl (cf13, 6400, .inl g905_1))]) hP hD [3, 5, 6, 1, 0] [2, 4] rfl rfl (by decide) (by decide) hk1 hFc hP1 hD1
        clear hP hD
        obtain ⟨hP, hD⟩ := hPD
        replace hK := (hK.sub (tys' := [(cf12, .int), (cf5_13, .int)]) [2, 3] rfl).app hK1
        clear hPc hDc hKc hFc hP1 hK1 hD1 hz1 hk1 ht hvm
        generalize H1 = H at hP hS ⊢
        replace hP : va_P (dC, dI) vwCl [(qf12, .inl (cf12, 1500, .inl g12_9)), (qf5_13, .inl (cf5_13, 144, .inl f5_13)), (h0, .inr (11, [.ref qf0, .ref qf1, .int v2, .int v3, .int v4, .ref qf5, .int v6, .int v7, .ref qf8, .ref qf9, .ref qf10, .ref qf11, .ref qf12, .ref qf13, .ref qf14, .ref qf15, .int v16, .int v17, .int v18, .int v19, .int v20])), (qf5, .inr (3, [.ref qf5_0, .int v5_1, .int v5_2, .int v5_3, .ref qf5_4, .ref qf5_5, .ref qf5_6, .int v5_7, .int v5_8, .int v5_9, .int v5_10, .ref qf5_11, .int v5_12, .ref qf5_13])), (qf5_0, .inl (cf5_0, nb, .inl f5_0)), (qf8, .inl (cf8, 256, .inl f8)), (qf13, .inl (cf13, 6400, .inl g905_1))] H := hP
        replace hD : va_D A [(qf12, .inl (cf12, 1500, .inl g12_9)), (qf5_13, .inl (cf5_13, 144, .inl f5_13)), (h0, .inr (11, [.ref qf0, .ref qf1, .int v2, .int v3, .int v4, .ref qf5, .int v6, .int v7, .ref qf8, .ref qf9, .ref qf10, .ref qf11, .ref qf12, .ref qf13, .ref qf14, .ref qf15, .int v16, .int v17, .int v18, .int v19, .int v20])), (qf5, .inr (3, [.ref qf5_0, .int v5_1, .int v5_2, .int v5_3, .ref qf5_4, .ref qf5_5, .ref qf5_6, .int v5_7, .int v5_8, .int v5_9, .int v5_10, .ref qf5_11, .int v5_12, .ref qf5_13])), (qf5_0, .inl (cf5_0, nb, .inl f5_0)), (qf8, .inl (cf8, 256, .inl f8)), (qf13, .inl (cf13, 6400, .inl g905_1))] := hD
        replace hK : va_K (dC, dI) vwCl [(cf12, .int), (cf5_13, .int), (cf5_0, .byte), (cf8, .int), (cf13, .int)] s := hK
        obtain rfl := hw
        refine lv_istore_n (lv' := [(2, .int u5_0), (5, .int u3_0), (4, .int (l3_9 * 64)), (3, .int l3_9), (0, .ref h0), (1, .int l1_9)]) hx hb dX11_takeFrames_78 rfl hl (by decide) rfl (fun ls hl => ?_)
        refine lv_aload_n hx hb dX11_takeFrames_79 rfl (lv_at hl 4 rfl) ?_
        refine va_get (D := (dC, dI)) (ci := 11) (v := .ref qf13) (C := RX11) (T := TX11) (N := 21) hx hb hts uV_h3_X11 hown hK hP 2 rfl rfl 13 (by decide) (hts (.fieldLink RX11 41 "ClassMill$Verifier" "frames" "[I") mw_h3_194) (fun _ h9 => h9) rfl dX11_takeFrames_80 ?_
        refine lv_iload hx hb dX11_takeFrames_83 (lv_at hl 2 rfl) ?_
        refine lv_iconst (v := 2) hx hb dX11_takeFrames_85 (by decide) ?_
        refine lv_iadd hx hb dX11_takeFrames_86 ?_
        refine lv_aload_n hx hb dX11_takeFrames_87 rfl (lv_at hl 4 rfl) ?_
        refine va_get (D := (dC, dI)) (ci := 11) (v := .ref qf5) (C := RX11) (T := TX11) (N := 21) hx hb hts uV_h3_X11 hown hK hP 2 rfl rfl 5 (by decide) (hts (.fieldLink RX11 62 "ClassMill$Verifier" "image" "LClassMill$Image;") mw_h3_161) (fun _ h9 => h9) rfl dX11_takeFrames_88 ?_
        refine lv_iload_n hx hb dX11_takeFrames_91 rfl (lv_at hl 0 rfl) ?_
        obtain ⟨u6_0, hu_6, hsp⟩ := ox_bind hsp
        try dsimp only at hsp
        have hPc := hP.sub (ws' := [(qf5, .inr (3, [.ref qf5_0, .int v5_1, .int v5_2, .int v5_3, .ref qf5_4, .ref qf5_5, .ref qf5_6, .int v5_7, .int v5_8, .int v5_9, .int v5_10, .ref qf5_11, .int v5_12, .ref qf5_13])), (qf5_0, .inl (cf5_0, nb, .inl f5_0))]) [3, 4] rfl
        have hDc := hD.sub (ws' := [(qf5, .inr (3, [.ref qf5_0, .int v5_1, .int v5_2, .int v5_3, .ref qf5_4, .ref qf5_5, .ref qf5_6, .int v5_7, .int v5_8, .int v5_9, .int v5_10, .ref qf5_11, .int v5_12, .ref qf5_13])), (qf5_0, .inl (cf5_0, nb, .inl f5_0))]) [3, 4] (by decide) rfl
        have hKc := hK.sub (tys' := [(cf5_0, .byte)]) [2] rfl
        have hFc := va_free (wc := [(qf5, .inr (3, [.ref qf5_0, .int v5_1, .int v5_2, .int v5_3, .ref qf5_4, .ref qf5_5, .ref qf5_6, .int v5_7, .int v5_8, .int v5_9, .int v5_10, .ref qf5_11, .int v5_12, .ref qf5_13])), (qf5_0, .inl (cf5_0, nb, .inl f5_0))]) hD hS hA [3, 4] rfl
        refine va_calli (va_runV (As := [.int u5_0]) (rest := [.int ((l3_9 * 64) + 2), .ref qf13]) ⟨hx, hb, hml, hown, hts⟩ (ti_byteAt l dC dI H.size qf5 u5_0 qf5_0 v5_1 v5_2 v5_3 qf5_4 qf5_5 qf5_6 v5_7 v5_8 v5_9 v5_10 qf5_11 v5_12 qf5_13 cf5_0 nb f5_0 nf u6_0 hu_6) (cwV 1 hts gv_h3_34 rfl rfl rfl (by decide +kernel) ⟨Nat.le_of_ble_eq_true rfl, Nat.le_of_ble_eq_true rfl⟩) ⟨fun a U g mk q => by obtain ⟨q0, q1, qP, qK, qD⟩ := q; exact ⟨q0, q1, qP, va_K.moved (u := U) (U := U.calling g mk a) (Vm.Alike.refl U.vm) qK, qD⟩, va_recv hKc hPc (ci := 3) (q0 := 0) rfl rfl, fun U hU hW => ⟨rfl, by rw [hU], by rw [hU]; exact hPc, va_K.moved hW.alike hKc, hDc.weaken (fun _ _ _ _ => trivial)⟩⟩ rfl rfl hl.1 rfl (lv_room (Nat.le_of_ble_eq_true rfl)) dX11_takeFrames_92 ⟨Nat.le_of_ble_eq_true rfl, Nat.le_of_ble_eq_true rfl⟩) hS (fun q _ h => hFc q h) hFc ?_
        clear hS
        intro r_10 u t H1 locs ht hvm hw hB hz1 hk1 hS
        obtain ⟨⟩ := u
        obtain ⟨hP1, hK1, hD1⟩ := hB
        rw [ht] at hP1
        have hK1 := va_K.moved hvm.symm hK1
        try dsimp only at hw
        have hPD := va_join (wr := [(qf12, .inl (cf12, 1500, .inl g12_9)), (qf5_13, .inl (cf5_13, 144, .inl f5_13)), (h0, .inr (11, [.ref qf0, .ref qf1, .int v2, .int v3, .int v4, .ref qf5, .int v6, .int v7, .ref qf8, .ref qf9, .ref qf10, .ref qf11, .ref qf12, .ref qf13, .ref qf14, .ref qf15, .int v16, .int v17, .int v18, .int v19, .int v20])), (qf8, .inl (cf8, 256, .inl f8)), (qf13, .inl (cf13, 6400, .inl g905_1))]) (w1 := [(qf5, .inr (3, [.ref qf5_0, .int v5_1, .int v5_2, .int v5_3, .ref qf5_4, .ref qf5_5, .ref qf5_6, .int v5_7, .int v5_8, .int v5_9, .int v5_10, .ref qf5_11, .int v5_12, .ref qf5_13])), (qf5_0, .inl (cf5_0, nb, .inl f5_0))]) hP hD [3, 4] [0, 1, 2, 5, 6] rfl rfl (by decide) (by decide) hk1 hFc hP1 hD1
        clear hP hD
        obtain ⟨hP, hD⟩ := hPD
        replace hK := (hK.sub (tys' := [(cf12, .int), (cf5_13, .int), (cf8, .int), (cf13, .int)]) [0, 1, 3, 4] rfl).app hK1
        clear hPc hDc hKc hFc hP1 hK1 hD1 hz1 hk1 ht hvm
        generalize H1 = H at hP hS ⊢
        replace hP : va_P (dC, dI) vwCl [(qf12, .inl (cf12, 1500, .inl g12_9)), (qf5_13, .inl (cf5_13, 144, .inl f5_13)), (h0, .inr (11, [.ref qf0, .ref qf1, .int v2, .int v3, .int v4, .ref qf5, .int v6, .int v7, .ref qf8, .ref qf9, .ref qf10, .ref qf11, .ref qf12, .ref qf13, .ref qf14, .ref qf15, .int v16, .int v17, .int v18, .int v19, .int v20])), (qf8, .inl (cf8, 256, .inl f8)), (qf13, .inl (cf13, 6400, .inl g905_1)), (qf5, .inr (3, [.ref qf5_0, .int v5_1, .int v5_2, .int v5_3, .ref qf5_4, .ref qf5_5, .ref qf5_6, .int v5_7, .int v5_8, .int v5_9, .int v5_10, .ref qf5_11, .int v5_12, .ref qf5_13])), (qf5_0, .inl (cf5_0, nb, .inl f5_0))] H := hP
        replace hD : va_D A [(qf12, .inl (cf12, 1500, .inl g12_9)), (qf5_13, .inl (cf5_13, 144, .inl f5_13)), (h0, .inr (11, [.ref qf0, .ref qf1, .int v2, .int v3, .int v4, .ref qf5, .int v6, .int v7, .ref qf8, .ref qf9, .ref qf10, .ref qf11, .ref qf12, .ref qf13, .ref qf14, .ref qf15, .int v16, .int v17, .int v18, .int v19, .int v20])), (qf8, .inl (cf8, 256, .inl f8)), (qf13, .inl (cf13, 6400, .inl g905_1)), (qf5, .inr (3, [.ref qf5_0, .int v5_1, .int v5_2, .int v5_3, .ref qf5_4, .ref qf5_5, .ref qf5_6, .int v5_7, .int v5_8, .int v5_9, .int v5_10, .ref qf5_11, .int v5_12, .ref qf5_13])), (qf5_0, .inl (cf5_0, nb, .inl f5_0))] := hD
        replace hK : va_K (dC, dI) vwCl [(cf12, .int), (cf5_13, .int), (cf8, .int), (cf13, .int), (cf5_0, .byte)] s := hK
        obtain rfl := hw
        obtain ⟨hi_11, hsp⟩ := ox_in hsp
        refine va_iast hx hb hK hP hD hS 4 3 rfl rfl (i := ((l3_9 * 64) + 2)) (x := u6_0) hi_11 dX11_takeFrames_95 ?_
        clear hP hD hS
        intro H locs hP hD hS
        replace hP : va_P (dC, dI) vwCl [(qf12, .inl (cf12, 1500, .inl g12_9)), (qf5_13, .inl (cf5_13, 144, .inl f5_13)), (h0, .inr (11, [.ref qf0, .ref qf1, .int v2, .int v3, .int v4, .ref qf5, .int v6, .int v7, .ref qf8, .ref qf9, .ref qf10, .ref qf11, .ref qf12, .ref qf13, .ref qf14, .ref qf15, .int v16, .int v17, .int v18, .int v19, .int v20])), (qf8, .inl (cf8, 256, .inl f8)), (qf13, .inl (cf13, 6400, .inl (upd g905_1 (((l3_9 * 64) + 2) : Int32).toNatClampNeg u6_0))), (qf5, .inr (3, [.ref qf5_0, .int v5_1, .int v5_2, .int v5_3, .ref qf5_4, .ref qf5_5, .ref qf5_6, .int v5_7, .int v5_8, .int v5_9, .int v5_10, .ref qf5_11, .int v5_12, .ref qf5_13])), (qf5_0, .inl (cf5_0, nb, .inl f5_0))] H := hP
        replace hD : va_D A [(qf12, .inl (cf12, 1500, .inl g12_9)), (qf5_13, .inl (cf5_13, 144, .inl f5_13)), (h0, .inr (11, [.ref qf0, .ref qf1, .int v2, .int v3, .int v4, .ref qf5, .int v6, .int v7, .ref qf8, .ref qf9, .ref qf10, .ref qf11, .ref qf12, .ref qf13, .ref qf14, .ref qf15, .int v16, .int v17, .int v18, .int v19, .int v20])), (qf8, .inl (cf8, 256, .inl f8)), (qf13, .inl (cf13, 6400, .inl (upd g905_1 (((l3_9 * 64) + 2) : Int32).toNatClampNeg u6_0))), (qf5, .inr (3, [.ref qf5_0, .int v5_1, .int v5_2, .int v5_3, .ref qf5_4, .ref qf5_5, .ref qf5_6, .int v5_7, .int v5_8, .int v5_9, .int v5_10, .ref qf5_11, .int v5_12, .ref qf5_13])), (qf5_0, .inl (cf5_0, nb, .inl f5_0))] := hD
        refine lv_aload_n hx hb dX11_takeFrames_96 rfl (lv_at hl 4 rfl) ?_
        refine lv_iload_n hx hb dX11_takeFrames_97 rfl (lv_at hl 0 rfl) ?_
        refine lv_iload hx hb dX11_takeFrames_98 (lv_at hl 2 rfl) ?_
        refine lv_bipush (v := 33) hx hb dX11_takeFrames_100 (by decide) ?_
        refine lv_iadd hx hb dX11_takeFrames_102 ?_
        obtain ⟨⟨u7_0, g907_1⟩, hu_7, hsp⟩ := ox_bind hsp
        try dsimp only at hsp
        have hPc := hP.sub (ws' := [(h0, .inr (11, [.ref qf0, .ref qf1, .int v2, .int v3, .int v4, .ref qf5, .int v6, .int v7, .ref qf8, .ref qf9, .ref qf10, .ref qf11, .ref qf12, .ref qf13, .ref qf14, .ref qf15, .int v16, .int v17, .int v18, .int v19, .int v20])), (qf5, .inr (3, [.ref qf5_0, .int v5_1, .int v5_2, .int v5_3, .ref qf5_4, .ref qf5_5, .ref qf5_6, .int v5_7, .int v5_8, .int v5_9, .int v5_10, .ref qf5_11, .int v5_12, .ref qf5_13])), (qf5_0, .inl (cf5_0, nb, .inl f5_0)), (qf8, .inl (cf8, 256, .inl f8)), (qf13, .inl (cf13, 6400, .inl (upd g905_1 (((l3_9 * 64) + 2) : Int32).toNatClampNeg u6_0)))]) [2, 5, 6, 3, 4] rfl
        have hDc := hD.sub (ws' := [(h0, .inr (11, [.ref qf0, .ref qf1, .int v2, .int v3, .int v4, .ref qf5, .int v6, .int v7, .ref qf8, .ref qf9, .ref qf10, .ref qf11, .ref qf12, .ref qf13, .ref qf14, .ref qf15, .int v16, .int v17, .int v18, .int v19, .int v20])), (qf5, .inr (3, [.ref qf5_0, .int v5_1, .int v5_2, .int v5_3, .ref qf5_4, .ref qf5_5, .ref qf5_6, .int v5_7, .int v5_8, .int v5_9, .int v5_10, .ref qf5_11, .int v5_12, .ref qf5_13])), (qf5_0, .inl (cf5_0, nb, .inl f5_0)), (qf8, .inl (cf8, 256, .inl f8)), (qf13, .inl (cf13, 6400, .inl (upd g905_1 (((l3_9 * 64) + 2) : Int32).toNatClampNeg u6_0)))]) [2, 5, 6, 3, 4] (by decide) rfl
        have hKc := hK.sub (tys' := [(cf5_0, .byte), (cf8, .int), (cf13, .int)]) [4, 2, 3] rfl
        have hFc := va_free (wc := [(h0, .inr (11, [.ref qf0, .ref qf1, .int v2, .int v3, .int v4, .ref qf5, .int v6, .int v7, .ref qf8, .ref qf9, .ref qf10, .ref qf11, .ref qf12, .ref qf13, .ref qf14, .ref qf15, .int v16, .int v17, .int v18, .int v19, .int v20])), (qf5, .inr (3, [.ref qf5_0, .int v5_1, .int v5_2, .int v5_3, .ref qf5_4, .ref qf5_5, .ref qf5_6, .int v5_7, .int v5_8, .int v5_9, .int v5_10, .ref qf5_11, .int v5_12, .ref qf5_13])), (qf5_0, .inl (cf5_0, nb, .inl f5_0)), (qf8, .inl (cf8, 256, .inl f8)), (qf13, .inl (cf13, 6400, .inl (upd g905_1 (((l3_9 * 64) + 2) : Int32).toNatClampNeg u6_0)))]) hD hS hA [2, 5, 6, 3, 4] rfl
        refine va_calli (va_runV (As := [.int u5_0, .int ((l3_9 * 64) + 33)]) (rest := []) ⟨hx, hb, hml, hown, hts⟩ (t11_takeTypes l dC dI H.size h0 u5_0 (((l3_9 * 64) + 33)) qf0 qf1 v2 v3 v4 qf5 v6 v7 qf8 qf9 qf10 qf11 qf12 qf13 qf14 qf15 v16 v17 v18 v19 v20 qf5_0 v5_1 v5_2 v5_3 qf5_4 qf5_5 qf5_6 v5_7 v5_8 v5_9 v5_10 qf5_11 v5_12 qf5_13 cf5_0 nb f5_0 cf8 f8 cf13 ((upd g905_1 (((l3_9 * 64) + 2) : Int32).toNatClampNeg u6_0)) nf u7_0 g907_1 hu_7) (cwV 2 hts gv_h3_67 rfl rfl rfl (by decide +kernel) ⟨Nat.le_of_ble_eq_true rfl, Nat.le_of_ble_eq_true rfl⟩) ⟨fun a U g mk q => by obtain ⟨q0, q1, qP, qK, qD⟩ := q; exact ⟨q0, q1, qP, va_K.moved (u := U) (U := U.calling g mk a) (Vm.Alike.refl U.vm) qK, qD⟩, va_recv hKc hPc (ci := 11) (q0 := 0) rfl rfl, fun U hU hW => ⟨rfl, by rw [hU], by rw [hU]; exact hPc, va_K.moved hW.alike hKc, hDc.weaken (fun _ _ _ _ => trivial)⟩⟩ rfl rfl hl.1 rfl (lv_room (Nat.le_of_ble_eq_true rfl)) dX11_takeFrames_103 ⟨Nat.le_of_ble_eq_true rfl, Nat.le_of_ble_eq_true rfl⟩) hS (fun q _ h => hFc q h) hFc ?_
        clear hS
        intro r_12 u t H1 locs ht hvm hw hB hz1 hk1 hS
        obtain ⟨⟩ := u
        obtain ⟨hP1, hK1, hD1⟩ := hB
        rw [ht] at hP1
        have hK1 := va_K.moved hvm.symm hK1
        try dsimp only at hw
        have hPD := va_join (wr := [(qf12, .inl (cf12, 1500, .inl g12_9)), (qf5_13, .inl (cf5_13, 144, .inl f5_13))]) (w1 := [(h0, .inr (11, [.ref qf0, .ref qf1, .int v2, .int v3, .int v4, .ref qf5, .int v6, .int v7, .ref qf8, .ref qf9, .ref qf10, .ref qf11, .ref qf12, .ref qf13, .ref qf14, .ref qf15, .int v16, .int v17, .int v18, .int v19, .int v20])), (qf5, .inr (3, [.ref qf5_0, .int v5_1, .int v5_2, .int v5_3, .ref qf5_4, .ref qf5_5, .ref qf5_6, .int v5_7, .int v5_8, .int v5_9, .int v5_10, .ref qf5_11, .int v5_12, .ref qf5_13])), (qf5_0, .inl (cf5_0, nb, .inl f5_0)), (qf8, .inl (cf8, 256, .inl f8)), (qf13, .inl (cf13, 6400, .inl g907_1))]) hP hD [2, 5, 6, 3, 4] [0, 1] rfl rfl (by decide) (by decide) hk1 hFc hP1 hD1
        clear hP hD
        obtain ⟨hP, hD⟩ := hPD
        replace hK := (hK.sub (tys' := [(cf12, .int), (cf5_13, .int)]) [0, 1] rfl).app hK1
        clear hPc hDc hKc hFc hP1 hK1 hD1 hz1 hk1 ht hvm
        generalize H1 = H at hP hS ⊢
        replace hP : va_P (dC, dI) vwCl [(qf12, .inl (cf12, 1500, .inl g12_9)), (qf5_13, .inl (cf5_13, 144, .inl f5_13)), (h0, .inr (11, [.ref qf0, .ref qf1, .int v2, .int v3, .int v4, .ref qf5, .int v6, .int v7, .ref qf8, .ref qf9, .ref qf10, .ref qf11, .ref qf12, .ref qf13, .ref qf14, .ref qf15, .int v16, .int v17, .int v18, .int v19, .int v20])), (qf5, .inr (3, [.ref qf5_0, .int v5_1, .int v5_2, .int v5_3, .ref qf5_4, .ref qf5_5, .ref qf5_6, .int v5_7, .int v5_8, .int v5_9, .int v5_10, .ref qf5_11, .int v5_12, .ref qf5_13])), (qf5_0, .inl (cf5_0, nb, .inl f5_0)), (qf8, .inl (cf8, 256, .inl f8)), (qf13, .inl (cf13, 6400, .inl g907_1))] H := hP
        replace hD : va_D A [(qf12, .inl (cf12, 1500, .inl g12_9)), (qf5_13, .inl (cf5_13, 144, .inl f5_13)), (h0, .inr (11, [.ref qf0, .ref qf1, .int v2, .int v3, .int v4, .ref qf5, .int v6, .int v7, .ref qf8, .ref qf9, .ref qf10, .ref qf11, .ref qf12, .ref qf13, .ref qf14, .ref qf15, .int v16, .int v17, .int v18, .int v19, .int v20])), (qf5, .inr (3, [.ref qf5_0, .int v5_1, .int v5_2, .int v5_3, .ref qf5_4, .ref qf5_5, .ref qf5_6, .int v5_7, .int v5_8, .int v5_9, .int v5_10, .ref qf5_11, .int v5_12, .ref qf5_13])), (qf5_0, .inl (cf5_0, nb, .inl f5_0)), (qf8, .inl (cf8, 256, .inl f8)), (qf13, .inl (cf13, 6400, .inl g907_1))] := hD
        replace hK : va_K (dC, dI) vwCl [(cf12, .int), (cf5_13, .int), (cf5_0, .byte), (cf8, .int), (cf13, .int)] s := hK
        obtain rfl := hw
        refine lv_istore_n (lv' := [(2, .int u7_0), (5, .int u3_0), (4, .int (l3_9 * 64)), (3, .int l3_9), (0, .ref h0), (1, .int l1_9)]) hx hb dX11_takeFrames_106 rfl hl (by decide) rfl (fun ls hl => ?_)
        refine lv_aload_n hx hb dX11_takeFrames_107 rfl (lv_at hl 4 rfl) ?_
        refine lv_iload hx hb dX11_takeFrames_108 (lv_at hl 1 rfl) ?_
        obtain ⟨u8_0, hu_8, hsp⟩ := ox_bind hsp
        try dsimp only at hsp
        have hPc := hP.sub (ws' := [(h0, .inr (11, [.ref qf0, .ref qf1, .int v2, .int v3, .int v4, .ref qf5, .int v6, .int v7, .ref qf8, .ref qf9, .ref qf10, .ref qf11, .ref qf12, .ref qf13, .ref qf14, .ref qf15, .int v16, .int v17, .int v18, .int v19, .int v20])), (qf12, .inl (cf12, 1500, .inl g12_9))]) [2, 0] rfl
        have hDc := hD.sub (ws' := [(h0, .inr (11, [.ref qf0, .ref qf1, .int v2, .int v3, .int v4, .ref qf5, .int v6, .int v7, .ref qf8, .ref qf9, .ref qf10, .ref qf11, .ref qf12, .ref qf13, .ref qf14, .ref qf15, .int v16, .int v17, .int v18, .int v19, .int v20])), (qf12, .inl (cf12, 1500, .inl g12_9))]) [2, 0] (by decide) rfl
        have hKc := hK.sub (tys' := [(cf12, .int)]) [0] rfl
        have hFc := va_free (wc := [(h0, .inr (11, [.ref qf0, .ref qf1, .int v2, .int v3, .int v4, .ref qf5, .int v6, .int v7, .ref qf8, .ref qf9, .ref qf10, .ref qf11, .ref qf12, .ref qf13, .ref qf14, .ref qf15, .int v16, .int v17, .int v18, .int v19, .int v20])), (qf12, .inl (cf12, 1500, .inl g12_9))]) hD hS hA [2, 0] rfl
        refine va_calli (va_runV (As := [.int u3_0]) (rest := []) ⟨hx, hb, hml, hown, hts⟩ (t11_begins l dC dI H.size h0 u3_0 qf0 qf1 v2 v3 v4 qf5 v6 v7 qf8 qf9 qf10 qf11 qf12 qf13 qf14 qf15 v16 v17 v18 v19 v20 cf12 g12_9 nf u8_0 hu_8) (cwV 1 hts gv_h3_38 rfl rfl rfl (by decide +kernel) ⟨Nat.le_of_ble_eq_true rfl, Nat.le_of_ble_eq_true rfl⟩) ⟨fun a U g mk q => by obtain ⟨q0, q1, qP, qK, qD⟩ := q; exact ⟨q0, q1, qP, va_K.moved (u := U) (U := U.calling g mk a) (Vm.Alike.refl U.vm) qK, qD⟩, va_recv hKc hPc (ci := 11) (q0 := 0) rfl rfl, fun U hU hW => ⟨rfl, by rw [hU], by rw [hU]; exact hPc, va_K.moved hW.alike hKc, hDc.weaken (fun _ _ _ _ => trivial)⟩⟩ rfl rfl hl.1 rfl (lv_room (Nat.le_of_ble_eq_true rfl)) dX11_takeFrames_110 ⟨Nat.le_of_ble_eq_true rfl, Nat.le_of_ble_eq_true rfl⟩) hS (fun q _ h => hFc q h) hFc ?_
        clear hS
        intro r_13 u t H1 locs ht hvm hw hB hz1 hk1 hS
        obtain ⟨⟩ := u
        obtain ⟨hP1, hK1, hD1⟩ := hB
        rw [ht] at hP1
        have hK1 := va_K.moved hvm.symm hK1
        try dsimp only at hw
        have hPD := va_join (wr := [(qf5_13, .inl (cf5_13, 144, .inl f5_13)), (qf5, .inr (3, [.ref qf5_0, .int v5_1, .int v5_2, .int v5_3, .ref qf5_4, .ref qf5_5, .ref qf5_6, .int v5_7, .int v5_8, .int v5_9, .int v5_10, .ref qf5_11, .int v5_12, .ref qf5_13])), (qf5_0, .inl (cf5_0, nb, .inl f5_0)), (qf8, .inl (cf8, 256, .inl f8)), (qf13, .inl (cf13, 6400, .inl g907_1))]) (w1 := [(h0, .inr (11, [.ref qf0, .ref qf1, .int v2, .int v3, .int v4, .ref qf5, .int v6, .int v7, .ref qf8, .ref qf9, .ref qf10, .ref qf11, .ref qf12, .ref qf13, .ref qf14, .ref qf15, .int v16, .int v17, .int v18, .int v19, .int v20])), (qf12, .inl (cf12, 1500, .inl g12_9))]) hP hD [2, 0] [1, 3, 4, 5, 6] rfl rfl (by decide) (by decide) hk1 hFc hP1 hD1
        clear hP hD
        obtain ⟨hP, hD⟩ := hPD
        replace hK := (hK.sub (tys' := [(cf5_13, .int), (cf5_0, .byte), (cf8, .int), (cf13, .int)]) [1, 2, 3, 4] rfl).app hK1
        clear hPc hDc hKc hFc hP1 hK1 hD1 hz1 hk1 ht hvm
        generalize H1 = H at hP hS ⊢
        replace hP : va_P (dC, dI) vwCl [(qf5_13, .inl (cf5_13, 144, .inl f5_13)), (qf5, .inr (3, [.ref qf5_0, .int v5_1, .int v5_2, .int v5_3, .ref qf5_4, .ref qf5_5, .ref qf5_6, .int v5_7, .int v5_8, .int v5_9, .int v5_10, .ref qf5_11, .int v5_12, .ref qf5_13])), (qf5_0, .inl (cf5_0, nb, .inl f5_0)), (qf8, .inl (cf8, 256, .inl f8)), (qf13, .inl (cf13, 6400, .inl g907_1)), (h0, .inr (11, [.ref qf0, .ref qf1, .int v2, .int v3, .int v4, .ref qf5, .int v6, .int v7, .ref qf8, .ref qf9, .ref qf10, .ref qf11, .ref qf12, .ref qf13, .ref qf14, .ref qf15, .int v16, .int v17, .int v18, .int v19, .int v20])), (qf12, .inl (cf12, 1500, .inl g12_9))] H := hP
        replace hD : va_D A [(qf5_13, .inl (cf5_13, 144, .inl f5_13)), (qf5, .inr (3, [.ref qf5_0, .int v5_1, .int v5_2, .int v5_3, .ref qf5_4, .ref qf5_5, .ref qf5_6, .int v5_7, .int v5_8, .int v5_9, .int v5_10, .ref qf5_11, .int v5_12, .ref qf5_13])), (qf5_0, .inl (cf5_0, nb, .inl f5_0)), (qf8, .inl (cf8, 256, .inl f8)), (qf13, .inl (cf13, 6400, .inl g907_1)), (h0, .inr (11, [.ref qf0, .ref qf1, .int v2, .int v3, .int v4, .ref qf5, .int v6, .int v7, .ref qf8, .ref qf9, .ref qf10, .ref qf11, .ref qf12, .ref qf13, .ref qf14, .ref qf15, .int v16, .int v17, .int v18, .int v19, .int v20])), (qf12, .inl (cf12, 1500, .inl g12_9))] := hD
        replace hK : va_K (dC, dI) vwCl [(cf5_13, .int), (cf5_0, .byte), (cf8, .int), (cf13, .int), (cf12, .int)] s := hK
        obtain ⟨rfl, hz_8⟩ := hw
        rcases hz_8 with rfl | rfl
        · rw [if_pos rfl] at hsp
          refine lv_if_eq (tgt := 135) hx hb dX11_takeFrames_113 (by decide) (fun c_14 => ?_) (fun c_14 => (show False by revert c_14; decide).elim)
          refine lv_iinc (v := (l3_9 + 1)) (lv' := [(3, .int (l3_9 + 1)), (2, .int u7_0), (5, .int u3_0), (4, .int (l3_9 * 64)), (0, .ref h0), (1, .int l1_9)]) hx hb dX11_takeFrames_135 hl (k := 3) rfl rfl (by decide) rfl (fun ls hl => ?_)
          refine lv_goto (tgt := 9) hx hb dX11_takeFrames_138 (by decide) ?_
          exact ih_9 H locs ls l1_9 u7_0 (l3_9 + 1) g12_9 g907_1 (lv_sub hl [0, 1, 4, 5] rfl) hS (hD.sub (ws' := [(h0, .inr (11, [.ref qf0, .ref qf1, .int v2, .int v3, .int v4, .ref qf5, .int v6, .int v7, .ref qf8, .ref qf9, .ref qf10, .ref qf11, .ref qf12, .ref qf13, .ref qf14, .ref qf15, .int v16, .int v17, .int v18, .int v19, .int v20])), (qf5, .inr (3, [.ref qf5_0, .int v5_1, .int v5_2, .int v5_3, .ref qf5_4, .ref qf5_5, .ref qf5_6, .int v5_7, .int v5_8, .int v5_9, .int v5_10, .ref qf5_11, .int v5_12, .ref qf5_13])), (qf5_13, .inl (cf5_13, 144, .inl f5_13)), (qf5_0, .inl (cf5_0, nb, .inl f5_0)), (qf13, .inl (cf13, 6400, .inl g907_1)), (qf8, .inl (cf8, 256, .inl f8)), (qf12, .inl (cf12, 1500, .inl g12_9))]) [5, 1, 0, 2, 4, 3, 6] (by decide) rfl) (hP.sub (ws' := [(h0, .inr (11, [.ref qf0, .ref qf1, .int v2, .int v3, .int v4, .ref qf5, .int v6, .int v7, .ref qf8, .ref qf9, .ref qf10, .ref qf11, .ref qf12, .ref qf13, .ref qf14, .ref qf15, .int v16, .int v17, .int v18, .int v19, .int v20])), (qf5, .inr (3, [.ref qf5_0, .int v5_1, .int v5_2, .int v5_3, .ref qf5_4, .ref qf5_5, .ref qf5_6, .int v5_7, .int v5_8, .int v5_9, .int v5_10, .ref qf5_11, .int v5_12, .ref qf5_13])), (qf5_13, .inl (cf5_13, 144, .inl f5_13)), (qf5_0, .inl (cf5_0, nb, .inl f5_0)), (qf13, .inl (cf13, 6400, .inl g907_1)), (qf8, .inl (cf8, 256, .inl f8)), (qf12, .inl (cf12, 1500, .inl g12_9))]) [5, 1, 0, 2, 4, 3, 6] rfl) hsp
        · rw [if_neg (by decide)] at hsp
          refine lv_if_eq (tgt := 135) hx hb dX11_takeFrames_113 (by decide) (fun c_15 => (show False by revert c_15; decide).elim) (fun c_15 => ?_)
          refine lv_aload_n hx hb dX11_takeFrames_116 rfl (lv_at hl 4 rfl) ?_
          refine va_get (D := (dC, dI)) (ci := 11) (v := .ref qf12) (C := RX11) (T := TX11) (N := 21) hx hb hts uV_h3_X11 hown hK hP 5 rfl rfl 12 (by decide) (hts (.fieldLink RX11 38 "ClassMill$Verifier" "marks" "[I") mw_h3_176) (fun _ h9 => h9) rfl dX11_takeFrames_117 ?_
          refine lv_iload hx hb dX11_takeFrames_120 (lv_at hl 1 rfl) ?_
          obtain ⟨hi_16, hsp⟩ := ox_in hsp
          refine va_iald hx hb hK hP 6 4 rfl rfl (i := u3_0) hi_16 dX11_takeFrames_122 ?_
          refine lv_iconst (v := (-1)) hx hb dX11_takeFrames_123 (by decide) ?_
          refine lv_icmp_ne (tgt := 135) hx hb dX11_takeFrames_124 (by decide) (fun c_17 => ?_) (fun c_17 => ?_)
          · rw [if_neg c_17] at hsp
            refine lv_iinc (v := (l3_9 + 1)) (lv' := [(3, .int (l3_9 + 1)), (2, .int u7_0), (5, .int u3_0), (4, .int (l3_9 * 64)), (0, .ref h0), (1, .int l1_9)]) hx hb dX11_takeFrames_135 hl (k := 3) rfl rfl (by decide) rfl (fun ls hl => ?_)
            refine lv_goto (tgt := 9) hx hb dX11_takeFrames_138 (by decide) ?_
            exact ih_9 H locs ls l1_9 u7_0 (l3_9 + 1) g12_9 g907_1 (lv_sub hl [0, 1, 4, 5] rfl) hS (hD.sub (ws' := [(h0, .inr (11, [.ref qf0, .ref qf1, .int v2, .int v3, .int v4, .ref qf5, .int v6, .int v7, .ref qf8, .ref qf9, .ref qf10, .ref qf11, .ref qf12, .ref qf13, .ref qf14, .ref qf15, .int v16, .int v17, .int v18, .int v19, .int v20])), (qf5, .inr (3, [.ref qf5_0, .int v5_1, .int v5_2, .int v5_3, .ref qf5_4, .ref qf5_5, .ref qf5_6, .int v5_7, .int v5_8, .int v5_9, .int v5_10, .ref qf5_11, .int v5_12, .ref qf5_13])), (qf5_13, .inl (cf5_13, 144, .inl f5_13)), (qf5_0, .inl (cf5_0, nb, .inl f5_0)), (qf13, .inl (cf13, 6400, .inl g907_1)), (qf8, .inl (cf8, 256, .inl f8)), (qf12, .inl (cf12, 1500, .inl g12_9))]) [5, 1, 0, 2, 4, 3, 6] (by decide) rfl) (hP.sub (ws' := [(h0, .inr (11, [.ref qf0, .ref qf1, .int v2, .int v3, .int v4, .ref qf5, .int v6, .int v7, .ref qf8, .ref qf9, .ref qf10, .ref qf11, .ref qf12, .ref qf13, .ref qf14, .ref qf15, .int v16, .int v17, .int v18, .int v19, .int v20])), (qf5, .inr (3, [.ref qf5_0, .int v5_1, .int v5_2, .int v5_3, .ref qf5_4, .ref qf5_5, .ref qf5_6, .int v5_7, .int v5_8, .int v5_9, .int v5_10, .ref qf5_11, .int v5_12, .ref qf5_13])), (qf5_13, .inl (cf5_13, 144, .inl f5_13)), (qf5_0, .inl (cf5_0, nb, .inl f5_0)), (qf13, .inl (cf13, 6400, .inl g907_1)), (qf8, .inl (cf8, 256, .inl f8)), (qf12, .inl (cf12, 1500, .inl g12_9))]) [5, 1, 0, 2, 4, 3, 6] rfl) hsp
          · rw [if_pos c_17] at hsp
            refine lv_aload_n hx hb dX11_takeFrames_127 rfl (lv_at hl 4 rfl) ?_
            refine va_get (D := (dC, dI)) (ci := 11) (v := .ref qf12) (C := RX11) (T := TX11) (N := 21) hx hb hts uV_h3_X11 hown hK hP 5 rfl rfl 12 (by decide) (hts (.fieldLink RX11 38 "ClassMill$Verifier" "marks" "[I") mw_h3_176) (fun _ h9 => h9) rfl dX11_takeFrames_128 ?_
            refine lv_iload hx hb dX11_takeFrames_131 (lv_at hl 1 rfl) ?_
            refine lv_iload_n hx hb dX11_takeFrames_133 rfl (lv_at hl 3 rfl) ?_
            obtain ⟨hi_18, hsp⟩ := ox_in hsp
            refine va_iast hx hb hK hP hD hS 6 4 rfl rfl (i := u3_0) (x := l3_9) hi_18 dX11_takeFrames_134 ?_
            clear hP hD hS
            intro H locs hP hD hS
            replace hP : va_P (dC, dI) vwCl [(qf5_13, .inl (cf5_13, 144, .inl f5_13)), (qf5, .inr (3, [.ref qf5_0, .int v5_1, .int v5_2, .int v5_3, .ref qf5_4, .ref qf5_5, .ref qf5_6, .int v5_7, .int v5_8, .int v5_9, .int v5_10, .ref qf5_11, .int v5_12, .ref qf5_13])), (qf5_0, .inl (cf5_0, nb, .inl f5_0)), (qf8, .inl (cf8, 256, .inl f8)), (qf13, .inl (cf13, 6400, .inl g907_1)), (h0, .inr (11, [.ref qf0, .ref qf1, .int v2, .int v3, .int v4, .ref qf5, .int v6, .int v7, .ref qf8, .ref qf9, .ref qf10, .ref qf11, .ref qf12, .ref qf13, .ref qf14, .ref qf15, .int v16, .int v17, .int v18, .int v19, .int v20])), (qf12, .inl (cf12, 1500, .inl (upd g12_9 (u3_0 : Int32).toNatClampNeg l3_9)))] H := hP
            replace hD : va_D A [(qf5_13, .inl (cf5_13, 144, .inl f5_13)), (qf5, .inr (3, [.ref qf5_0, .int v5_1, .int v5_2, .int v5_3, .ref qf5_4, .ref qf5_5, .ref qf5_6, .int v5_7, .int v5_8, .int v5_9, .int v5_10, .ref qf5_11, .int v5_12, .ref qf5_13])), (qf5_0, .inl (cf5_0, nb, .inl f5_0)), (qf8, .inl (cf8, 256, .inl f8)), (qf13, .inl (cf13, 6400, .inl g907_1)), (h0, .inr (11, [.ref qf0, .ref qf1, .int v2, .int v3, .int v4, .ref qf5, .int v6, .int v7, .ref qf8, .ref qf9, .ref qf10, .ref qf11, .ref qf12, .ref qf13, .ref qf14, .ref qf15, .int v16, .int v17, .int v18, .int v19, .int v20])), (qf12, .inl (cf12, 1500, .inl (upd g12_9 (u3_0 : Int32).toNatClampNeg l3_9)))] := hD
            refine lv_iinc (v := (l3_9 + 1)) (lv' := [(3, .int (l3_9 + 1)), (2, .int u7_0), (5, .int u3_0), (4, .int (l3_9 * 64)), (0, .ref h0), (1, .int l1_9)]) hx hb dX11_takeFrames_135 hl (k := 3) rfl rfl (by decide) rfl (fun ls hl => ?_)
            refine lv_goto (tgt := 9) hx hb dX11_takeFrames_138 (by decide) ?_
            exact ih_9 H locs ls l1_9 u7_0 (l3_9 + 1) (upd g12_9 (u3_0 : Int32).toNatClampNeg l3_9) g907_1 (lv_sub hl [0, 1, 4, 5] rfl) hS (hD.sub (ws' := [(h0, .inr (11, [.ref qf0, .ref qf1, .int v2, .int v3, .int v4, .ref qf5, .int v6, .int v7, .ref qf8, .ref qf9, .ref qf10, .ref qf11, .ref qf12, .ref qf13, .ref qf14, .ref qf15, .int v16, .int v17, .int v18, .int v19, .int v20])), (qf5, .inr (3, [.ref qf5_0, .int v5_1, .int v5_2, .int v5_3, .ref qf5_4, .ref qf5_5, .ref qf5_6, .int v5_7, .int v5_8, .int v5_9, .int v5_10, .ref qf5_11, .int v5_12, .ref qf5_13])), (qf5_13, .inl (cf5_13, 144, .inl f5_13)), (qf5_0, .inl (cf5_0, nb, .inl f5_0)), (qf13, .inl (cf13, 6400, .inl g907_1)), (qf8, .inl (cf8, 256, .inl f8)), (qf12, .inl (cf12, 1500, .inl (upd g12_9 (u3_0 : Int32).toNatClampNeg l3_9)))]) [5, 1, 0, 2, 4, 3, 6] (by decide) rfl) (hP.sub (ws' := [(h0, .inr (11, [.ref qf0, .ref qf1, .int v2, .int v3, .int v4, .ref qf5, .int v6, .int v7, .ref qf8, .ref qf9, .ref qf10, .ref qf11, .ref qf12, .ref qf13, .ref qf14, .ref qf15, .int v16, .int v17, .int v18, .int v19, .int v20])), (qf5, .inr (3, [.ref qf5_0, .int v5_1, .int v5_2, .int v5_3, .ref qf5_4, .ref qf5_5, .ref qf5_6, .int v5_7, .int v5_8, .int v5_9, .int v5_10, .ref qf5_11, .int v5_12, .ref qf5_13])), (qf5_13, .inl (cf5_13, 144, .inl f5_13)), (qf5_0, .inl (cf5_0, nb, .inl f5_0)), (qf13, .inl (cf13, 6400, .inl g907_1)), (qf8, .inl (cf8, 256, .inl f8)), (qf12, .inl (cf12, 1500, .inl (upd g12_9 (u3_0 : Int32).toNatClampNeg l3_9)))]) [5, 1, 0, 2, 4, 3, 6] rfl) hsp
