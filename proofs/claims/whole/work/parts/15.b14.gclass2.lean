set_option maxHeartbeats 4000000 in
set_option maxRecDepth 100000 in
/-- ClassMill$Pool.classOf -/
theorem t6_classOf (l : Launch) (dC : Nat → ClassId) (dI : Nat → Nat → Nat) (sz : Nat) (h0 : Nat) (a1 : Int32) (qf0 : Nat) (qf1 : Nat) (qf2 : Nat) (qf3 : Nat) (v4 : Int32) (v5 : Int32) (qf6 : Nat) (v7 : Int32) (qf1_0 : Nat) (qf1_1 : Nat) (v1_2 : Int32) (qf1_3 : Nat) (qf1_4 : Nat) (qf1_5 : Nat) (qf1_6 : Nat) (qf1_7 : Nat) (qf1_8 : Nat) (qf1_9 : Nat) (qf1_10 : Nat) (qf1_11 : Nat) (qf1_12 : Nat) (qf1_13 : Nat) (qf1_14 : Nat) (qf1_15 : Nat) (qf1_16 : Nat) (qf1_17 : Nat) (qf1_18 : Nat) (qf1_19 : Nat) (v1_20 : Int32) (cf1_18 : ClassId) (f1_18 : (Nat → Int32)) (cf2 : ClassId) (f2 : (Nat → Int32)) (cf3 : ClassId) (f3 : (Nat → Int32)) (nf : Nat) (r0 : Int32) (o2 : (Nat → Int32)) (o3 : (Nat → Int32)) (w4 : Int32) (w5 : Int32) (hsp : sp_t6_classOf nf a1 v4 v5 f1_18 f2 f3 = some (r0, o2, o3, w4, w5)) : Met l yX6_classOf (.code yX6_classOf cX6_classOf 2 (some .int) :: VS_h4) ({ frames := 1, cells := 0, slots := 0, locals := 23 }) (va_Pc [.ref h0, .int a1] (fun U => U.heap.size = sz ∧ va_P (dC, dI) vwCl [(h0, .inr (6, [.ref qf0, .ref qf1, .ref qf2, .ref qf3, .int v4, .int v5, .ref qf6, .int v7])), (qf1, .inr (2, [.ref qf1_0, .ref qf1_1, .int v1_2, .ref qf1_3, .ref qf1_4, .ref qf1_5, .ref qf1_6, .ref qf1_7, .ref qf1_8, .ref qf1_9, .ref qf1_10, .ref qf1_11, .ref qf1_12, .ref qf1_13, .ref qf1_14, .ref qf1_15, .ref qf1_16, .ref qf1_17, .ref qf1_18, .ref qf1_19, .int v1_20])), (qf1_18, .inl (cf1_18, 32, .inl f1_18)), (qf2, .inl (cf2, 201, .inl f2)), (qf3, .inl (cf3, 201, .inl f3))] U.heap ∧ va_K (dC, dI) vwCl [(cf1_18, .int), (cf2, .int), (cf3, .int)] U ∧ va_D (fun _ => True) [(h0, .inr (6, [.ref qf0, .ref qf1, .ref qf2, .ref qf3, .int v4, .int v5, .ref qf6, .int v7])), (qf1, .inr (2, [.ref qf1_0, .ref qf1_1, .int v1_2, .ref qf1_3, .ref qf1_4, .ref qf1_5, .ref qf1_6, .ref qf1_7, .ref qf1_8, .ref qf1_9, .ref qf1_10, .ref qf1_11, .ref qf1_12, .ref qf1_13, .ref qf1_14, .ref qf1_15, .ref qf1_16, .ref qf1_17, .ref qf1_18, .ref qf1_19, .int v1_20])), (qf1_18, .inl (cf1_18, 32, .inl f1_18)), (qf2, .inl (cf2, 201, .inl f2)), (qf3, .inl (cf3, 201, .inl f3))])) (va_Qi (fun (r : Int32) (u : Unit) => match u with | () => r0 = r) (fun (u : Unit) (t : State) => match u with | () => va_P (dC, dI) vwCl [(h0, .inr (6, [.ref qf0, .ref qf1, .ref qf2, .ref qf3, .int w4, .int w5, .ref qf6, .int v7])), (qf1, .inr (2, [.ref qf1_0, .ref qf1_1, .int v1_2, .ref qf1_3, .ref qf1_4, .ref qf1_5, .ref qf1_6, .ref qf1_7, .ref qf1_8, .ref qf1_9, .ref qf1_10, .ref qf1_11, .ref qf1_12, .ref qf1_13, .ref qf1_14, .ref qf1_15, .ref qf1_16, .ref qf1_17, .ref qf1_18, .ref qf1_19, .int v1_20])), (qf1_18, .inl (cf1_18, 32, .inl f1_18)), (qf2, .inl (cf2, 201, .inl o2)), (qf3, .inl (cf3, 201, .inl o3))] t.heap ∧ va_K (dC, dI) vwCl [(cf1_18, .int), (cf2, .int), (cf3, .int)] t ∧ va_D (va_A [(h0, .inr (6, [.ref qf0, .ref qf1, .ref qf2, .ref qf3, .int v4, .int v5, .ref qf6, .int v7])), (qf1, .inr (2, [.ref qf1_0, .ref qf1_1, .int v1_2, .ref qf1_3, .ref qf1_4, .ref qf1_5, .ref qf1_6, .ref qf1_7, .ref qf1_8, .ref qf1_9, .ref qf1_10, .ref qf1_11, .ref qf1_12, .ref qf1_13, .ref qf1_14, .ref qf1_15, .ref qf1_16, .ref qf1_17, .ref qf1_18, .ref qf1_19, .int v1_20])), (qf1_18, .inl (cf1_18, 32, .inl f1_18)), (qf2, .inl (cf2, 201, .inl f2)), (qf3, .inl (cf3, 201, .inl f3))] sz) [(h0, .inr (6, [.ref qf0, .ref qf1, .ref qf2, .ref qf3, .int w4, .int w5, .ref qf6, .int v7])), (qf1, .inr (2, [.ref qf1_0, .ref qf1_1, .int v1_2, .ref qf1_3, .ref qf1_4, .ref qf1_5, .ref qf1_6, .ref qf1_7, .ref qf1_8, .ref qf1_9, .ref qf1_10, .ref qf1_11, .ref qf1_12, .ref qf1_13, .ref qf1_14, .ref qf1_15, .ref qf1_16, .ref qf1_17, .ref qf1_18, .ref qf1_19, .int v1_20])), (qf1_18, .inl (cf1_18, 32, .inl f1_18)), (qf2, .inl (cf2, 201, .inl o2)), (qf3, .inl (cf3, 201, .inl o3))]) (va_A [(h0, .inr (6, [.ref qf0, .ref qf1, .ref qf2, .ref qf3, .int v4, .int v5, .ref qf6, .int v7])), (qf1, .inr (2, [.ref qf1_0, .ref qf1_1, .int v1_2, .ref qf1_3, .ref qf1_4, .ref qf1_5, .ref qf1_6, .ref qf1_7, .ref qf1_8, .ref qf1_9, .ref qf1_10, .ref qf1_11, .ref qf1_12, .ref qf1_13, .ref qf1_14, .ref qf1_15, .ref qf1_16, .ref qf1_17, .ref qf1_18, .ref qf1_19, .int v1_20])), (qf1_18, .inl (cf1_18, 32, .inl f1_18)), (qf2, .inl (cf2, 201, .inl f2)), (qf3, .inl (cf3, 201, .inl f3))] sz)) 0 0 (va_A [(h0, .inr (6, [.ref qf0, .ref qf1, .ref qf2, .ref qf3, .int v4, .int v5, .ref qf6, .int v7])), (qf1, .inr (2, [.ref qf1_0, .ref qf1_1, .int v1_2, .ref qf1_3, .ref qf1_4, .ref qf1_5, .ref qf1_6, .ref qf1_7, .ref qf1_8, .ref qf1_9, .ref qf1_10, .ref qf1_11, .ref qf1_12, .ref qf1_13, .ref qf1_14, .ref qf1_15, .ref qf1_16, .ref qf1_17, .ref qf1_18, .ref qf1_19, .int v1_20])), (qf1_18, .inl (cf1_18, 32, .inl f1_18)), (qf2, .inl (cf2, 201, .inl f2)), (qf3, .inl (cf3, 201, .inl f3))] sz) := by
  refine Met.ofW (cc := cX6_classOf) (maxL := 2) (ret := (some .int)) (by decide) rfl ?_
  intro p e s m args below meth c s₁ B hml hv
  obtain ⟨rfl, hsz, hP, hK, hD0⟩ := hv
  have hx := B.exec
  have hb := B.bytes
  have hr := B.returns
  have hts := atoms_spec (ws := (.code yX6_classOf cX6_classOf 2 (some .int) :: VS_h4)) B.pre
  replace hts := fun w (h : w ∈ VS_h4) => hts w (List.mem_cons_of_mem _ h)
  have hown : s.vm.findClass RX6 = some m.cls := findClass_of_methodNamed B.named
  have hlocks := B.notSynchronized
  subst hsz
  have hD := hD0.self (sz := s.heap.size)
  generalize hAe : va_A [(h0, .inr (6, [.ref qf0, .ref qf1, .ref qf2, .ref qf3, .int v4, .int v5, .ref qf6, .int v7])), (qf1, .inr (2, [.ref qf1_0, .ref qf1_1, .int v1_2, .ref qf1_3, .ref qf1_4, .ref qf1_5, .ref qf1_6, .ref qf1_7, .ref qf1_8, .ref qf1_9, .ref qf1_10, .ref qf1_11, .ref qf1_12, .ref qf1_13, .ref qf1_14, .ref qf1_15, .ref qf1_16, .ref qf1_17, .ref qf1_18, .ref qf1_19, .int v1_20])), (qf1_18, .inl (cf1_18, 32, .inl f1_18)), (qf2, .inl (cf2, 201, .inl f2)), (qf3, .inl (cf3, 201, .inl f3))] s.heap.size = A at hD  ⊢
  have hA : ∀ q : Nat, s.heap.size ≤ q → A q := fun q h => by rw [← hAe]; exact Or.inr h
  have hP : va_P (dC, dI) vwCl [(h0, .inr (6, [.ref qf0, .ref qf1, .ref qf2, .ref qf3, .int v4, .int v5, .ref qf6, .int v7])), (qf1, .inr (2, [.ref qf1_0, .ref qf1_1, .int v1_2, .ref qf1_3, .ref qf1_4, .ref qf1_5, .ref qf1_6, .ref qf1_7, .ref qf1_8, .ref qf1_9, .ref qf1_10, .ref qf1_11, .ref qf1_12, .ref qf1_13, .ref qf1_14, .ref qf1_15, .ref qf1_16, .ref qf1_17, .ref qf1_18, .ref qf1_19, .int v1_20])), (qf1_18, .inl (cf1_18, 32, .inl f1_18)), (qf2, .inl (cf2, 201, .inl f2)), (qf3, .inl (cf3, 201, .inl f3))] s.heap := hP
  have hl := lv_entry ([.ref h0, .int a1]) (n := 2) (Nat.le_of_ble_eq_true rfl)
  rw [lg_entry_eq]
  generalize (lg_sl ([.ref h0, .int a1]) ++ List.replicate (2 - (lg_sl ([.ref h0, .int a1])).length) Slot.unset).toArray = ls at hl ⊢
  have hl : lv_has ls 2 [(0, .ref h0), (1, .int a1)] := hl
  obtain ⟨H, hH⟩ : ∃ H : Heap, s.heap = H := ⟨_, rfl⟩
  rw [hH] at hP ⊢
  have hS : va_S A s.heap H [] := by rw [← hH]; exact va_S.rf
  obtain ⟨locs, hlo⟩ : ∃ locs : List Loc, locs = [] := ⟨_, rfl⟩
  rw [← hlo] at hS ⊢
  unfold sp_t6_classOf at hsp
  refine lv_aload_n hx hb dX6_classOf_0 rfl (lv_at hl 0 rfl) ?_
  refine lv_iconst (v := 3) hx hb dX6_classOf_1 (by decide) ?_
  refine lv_aload_n hx hb dX6_classOf_2 rfl (lv_at hl 0 rfl) ?_
  refine lv_iconst (v := 1) hx hb dX6_classOf_3 (by decide) ?_
  refine lv_aload_n hx hb dX6_classOf_4 rfl (lv_at hl 0 rfl) ?_
  refine va_get (D := (dC, dI)) (ci := 6) (v := .ref qf1) (C := RX6) (T := TX6) (N := 8) hx hb hts uV_h4_X6 hown hK hP 0 rfl rfl 1 (by decide) (hts (.fieldLink RX6 24 "ClassMill$Pool" "heads" "LClassMill$Heads;") mw_h4_240) (fun _ h9 => h9) rfl dX6_classOf_5 ?_
  refine lv_iload_n hx hb dX6_classOf_8 rfl (lv_at hl 1 rfl) ?_
  obtain ⟨u1_0, hu_1, hsp⟩ := ox_bind hsp
  try dsimp only at hsp
  have hPc := hP.sub (ws' := [(qf1, .inr (2, [.ref qf1_0, .ref qf1_1, .int v1_2, .ref qf1_3, .ref qf1_4, .ref qf1_5, .ref qf1_6, .ref qf1_7, .ref qf1_8, .ref qf1_9, .ref qf1_10, .ref qf1_11, .ref qf1_12, .ref qf1_13, .ref qf1_14, .ref qf1_15, .ref qf1_16, .ref qf1_17, .ref qf1_18, .ref qf1_19, .int v1_20])), (qf1_18, .inl (cf1_18, 32, .inl f1_18))]) [1, 2] rfl
  have hDc := hD.sub (ws' := [(qf1, .inr (2, [.ref qf1_0, .ref qf1_1, .int v1_2, .ref qf1_3, .ref qf1_4, .ref qf1_5, .ref qf1_6, .ref qf1_7, .ref qf1_8, .ref qf1_9, .ref qf1_10, .ref qf1_11, .ref qf1_12, .ref qf1_13, .ref qf1_14, .ref qf1_15, .ref qf1_16, .ref qf1_17, .ref qf1_18, .ref qf1_19, .int v1_20])), (qf1_18, .inl (cf1_18, 32, .inl f1_18))]) [1, 2] (by decide) rfl
  have hKc := hK.sub (tys' := [(cf1_18, .int)]) [0] rfl
  have hFc := va_free (wc := [(qf1, .inr (2, [.ref qf1_0, .ref qf1_1, .int v1_2, .ref qf1_3, .ref qf1_4, .ref qf1_5, .ref qf1_6, .ref qf1_7, .ref qf1_8, .ref qf1_9, .ref qf1_10, .ref qf1_11, .ref qf1_12, .ref qf1_13, .ref qf1_14, .ref qf1_15, .ref qf1_16, .ref qf1_17, .ref qf1_18, .ref qf1_19, .int v1_20])), (qf1_18, .inl (cf1_18, 32, .inl f1_18))]) hD hS hA [1, 2] rfl
  refine va_calli (va_runV (As := [.int a1]) (rest := [.int 1, .ref h0, .int 3, .ref h0]) ⟨hx, hb, hml, hown, hts⟩ (t2_nameOfType l dC dI H.size qf1 a1 qf1_0 qf1_1 v1_2 qf1_3 qf1_4 qf1_5 qf1_6 qf1_7 qf1_8 qf1_9 qf1_10 qf1_11 qf1_12 qf1_13 qf1_14 qf1_15 qf1_16 qf1_17 qf1_18 qf1_19 v1_20 cf1_18 f1_18 nf u1_0 hu_1) (cwV 1 hts gv_h4_50 rfl rfl rfl (by decide +kernel) ⟨Nat.le_of_ble_eq_true rfl, Nat.le_of_ble_eq_true rfl⟩) ⟨fun a U g mk q => by obtain ⟨q0, q1, qP, qK, qD⟩ := q; exact ⟨q0, q1, qP, va_K.moved (u := U) (U := U.calling g mk a) (Vm.Alike.refl U.vm) qK, qD⟩, va_recv hKc hPc (ci := 2) (q0 := 0) rfl rfl, fun U hU hW => ⟨rfl, by rw [hU], by rw [hU]; exact hPc, va_K.moved hW.alike hKc, hDc.weaken (fun _ _ _ _ => trivial)⟩⟩ rfl rfl hl.1 rfl (lv_room (Nat.le_of_ble_eq_true rfl)) dX6_classOf_9 ⟨Nat.le_of_ble_eq_true rfl, Nat.le_of_ble_eq_true rfl⟩) hS (fun q _ h => hFc q h) hFc ?_
  clear hS
  intro r_1 u t H1 locs ht hvm hw hB hz1 hk1 hS
  obtain ⟨⟩ := u
  obtain ⟨hP1, hK1, hD1⟩ := hB
  rw [ht] at hP1
  have hK1 := va_K.moved hvm.symm hK1
  try dsimp only at hw
  have hPD := va_join (wr := [(h0, .inr (6, [.ref qf0, .ref qf1, .ref qf2, .ref qf3, .int v4, .int v5, .ref qf6, .int v7])), (qf2, .inl (cf2, 201, .inl f2)), (qf3, .inl (cf3, 201, .inl f3))]) (w1 := [(qf1, .inr (2, [.ref qf1_0, .ref qf1_1, .int v1_2, .ref qf1_3, .ref qf1_4, .ref qf1_5, .ref qf1_6, .ref qf1_7, .ref qf1_8, .ref qf1_9, .ref qf1_10, .ref qf1_11, .ref qf1_12, .ref qf1_13, .ref qf1_14, .ref qf1_15, .ref qf1_16, .ref qf1_17, .ref qf1_18, .ref qf1_19, .int v1_20])), (qf1_18, .inl (cf1_18, 32, .inl f1_18))]) hP hD [1, 2] [0, 3, 4] rfl rfl (by decide) (by decide) hk1 hFc hP1 hD1
  clear hP hD
  obtain ⟨hP, hD⟩ := hPD
  replace hK := (hK.sub (tys' := [(cf2, .int), (cf3, .int)]) [1, 2] rfl).app hK1
  clear hPc hDc hKc hFc hP1 hK1 hD1 hz1 hk1 ht hvm
  generalize H1 = H at hP hS ⊢
  replace hP : va_P (dC, dI) vwCl [(h0, .inr (6, [.ref qf0, .ref qf1, .ref qf2, .ref qf3, .int v4, .int v5, .ref qf6, .int v7])), (qf2, .inl (cf2, 201, .inl f2)), (qf3, .inl (cf3, 201, .inl f3)), (qf1, .inr (2, [.ref qf1_0, .ref qf1_1, .int v1_2, .ref qf1_3, .ref qf1_4, .ref qf1_5, .ref qf1_6, .ref qf1_7, .ref qf1_8, .ref qf1_9, .ref qf1_10, .ref qf1_11, .ref qf1_12, .ref qf1_13, .ref qf1_14, .ref qf1_15, .ref qf1_16, .ref qf1_17, .ref qf1_18, .ref qf1_19, .int v1_20])), (qf1_18, .inl (cf1_18, 32, .inl f1_18))] H := hP
  replace hD : va_D A [(h0, .inr (6, [.ref qf0, .ref qf1, .ref qf2, .ref qf3, .int v4, .int v5, .ref qf6, .int v7])), (qf2, .inl (cf2, 201, .inl f2)), (qf3, .inl (cf3, 201, .inl f3)), (qf1, .inr (2, [.ref qf1_0, .ref qf1_1, .int v1_2, .ref qf1_3, .ref qf1_4, .ref qf1_5, .ref qf1_6, .ref qf1_7, .ref qf1_8, .ref qf1_9, .ref qf1_10, .ref qf1_11, .ref qf1_12, .ref qf1_13, .ref qf1_14, .ref qf1_15, .ref qf1_16, .ref qf1_17, .ref qf1_18, .ref qf1_19, .int v1_20])), (qf1_18, .inl (cf1_18, 32, .inl f1_18))] := hD
  replace hK : va_K (dC, dI) vwCl [(cf2, .int), (cf3, .int), (cf1_18, .int)] s := hK
  obtain rfl := hw
  obtain ⟨⟨u2_0, g902_1, g902_2, u2_3, u2_4⟩, hu_2, hsp⟩ := ox_bind hsp
  try dsimp only at hsp
  have hPc := hP.sub (ws' := [(h0, .inr (6, [.ref qf0, .ref qf1, .ref qf2, .ref qf3, .int v4, .int v5, .ref qf6, .int v7])), (qf2, .inl (cf2, 201, .inl f2)), (qf3, .inl (cf3, 201, .inl f3))]) [0, 1, 2] rfl
  have hDc := hD.sub (ws' := [(h0, .inr (6, [.ref qf0, .ref qf1, .ref qf2, .ref qf3, .int v4, .int v5, .ref qf6, .int v7])), (qf2, .inl (cf2, 201, .inl f2)), (qf3, .inl (cf3, 201, .inl f3))]) [0, 1, 2] (by decide) rfl
  have hKc := hK.sub (tys' := [(cf2, .int), (cf3, .int)]) [0, 1] rfl
  have hFc := va_free (wc := [(h0, .inr (6, [.ref qf0, .ref qf1, .ref qf2, .ref qf3, .int v4, .int v5, .ref qf6, .int v7])), (qf2, .inl (cf2, 201, .inl f2)), (qf3, .inl (cf3, 201, .inl f3))]) hD hS hA [0, 1, 2] rfl
  refine va_calli (va_runV (As := [.int 1, .int u1_0]) (rest := [.int 3, .ref h0]) ⟨hx, hb, hml, hown, hts⟩ (t6_constant l dC dI H.size h0 1 u1_0 qf0 qf1 qf2 qf3 v4 v5 qf6 v7 cf2 f2 cf3 f3 nf u2_0 g902_1 g902_2 u2_3 u2_4 hu_2) (cwV 2 hts gv_h4_13 rfl rfl rfl (by decide +kernel) ⟨Nat.le_of_ble_eq_true rfl, Nat.le_of_ble_eq_true rfl⟩) ⟨fun a U g mk q => by obtain ⟨q0, q1, qP, qK, qD⟩ := q; exact ⟨q0, q1, qP, va_K.moved (u := U) (U := U.calling g mk a) (Vm.Alike.refl U.vm) qK, qD⟩, va_recv hKc hPc (ci := 6) (q0 := 0) rfl rfl, fun U hU hW => ⟨rfl, by rw [hU], by rw [hU]; exact hPc, va_K.moved hW.alike hKc, hDc.weaken (fun _ _ _ _ => trivial)⟩⟩ rfl rfl hl.1 rfl (lv_room (Nat.le_of_ble_eq_true rfl)) dX6_classOf_12 ⟨Nat.le_of_ble_eq_true rfl, Nat.le_of_ble_eq_true rfl⟩) hS (fun q _ h => hFc q h) hFc ?_
  clear hS
  intro r_2 u t H1 locs ht hvm hw hB hz1 hk1 hS
  obtain ⟨⟩ := u
  obtain ⟨hP1, hK1, hD1⟩ := hB
  rw [ht] at hP1
  have hK1 := va_K.moved hvm.symm hK1
  try dsimp only at hw
  have hPD := va_join (wr := [(qf1, .inr (2, [.ref qf1_0, .ref qf1_1, .int v1_2, .ref qf1_3, .ref qf1_4, .ref qf1_5, .ref qf1_6, .ref qf1_7, .ref qf1_8, .ref qf1_9, .ref qf1_10, .ref qf1_11, .ref qf1_12, .ref qf1_13, .ref qf1_14, .ref qf1_15, .ref qf1_16, .ref qf1_17, .ref qf1_18, .ref qf1_19, .int v1_20])), (qf1_18, .inl (cf1_18, 32, .inl f1_18))]) (w1 := [(h0, .inr (6, [.ref qf0, .ref qf1, .ref qf2, .ref qf3, .int u2_3, .int u2_4, .ref qf6, .int v7])), (qf2, .inl (cf2, 201, .inl g902_1)), (qf3, .inl (cf3, 201, .inl g902_2))]) hP hD [0, 1, 2] [3, 4] rfl rfl (by decide) (by decide) hk1 hFc hP1 hD1
  clear hP hD
  obtain ⟨hP, hD⟩ := hPD
  replace hK := (hK.sub (tys' := [(cf1_18, .int)]) [2] rfl).app hK1
  clear hPc hDc hKc hFc hP1 hK1 hD1 hz1 hk1 ht hvm
  generalize H1 = H at hP hS ⊢
  replace hP : va_P (dC, dI) vwCl [(qf1, .inr (2, [.ref qf1_0, .ref qf1_1, .int v1_2, .ref qf1_3, .ref qf1_4, .ref qf1_5, .ref qf1_6, .ref qf1_7, .ref qf1_8, .ref qf1_9, .ref qf1_10, .ref qf1_11, .ref qf1_12, .ref qf1_13, .ref qf1_14, .ref qf1_15, .ref qf1_16, .ref qf1_17, .ref qf1_18, .ref qf1_19, .int v1_20])), (qf1_18, .inl (cf1_18, 32, .inl f1_18)), (h0, .inr (6, [.ref qf0, .ref qf1, .ref qf2, .ref qf3, .int u2_3, .int u2_4, .ref qf6, .int v7])), (qf2, .inl (cf2, 201, .inl g902_1)), (qf3, .inl (cf3, 201, .inl g902_2))] H := hP
  replace hD : va_D A [(qf1, .inr (2, [.ref qf1_0, .ref qf1_1, .int v1_2, .ref qf1_3, .ref qf1_4, .ref qf1_5, .ref qf1_6, .ref qf1_7, .ref qf1_8, .ref qf1_9, .ref qf1_10, .ref qf1_11, .ref qf1_12, .ref qf1_13, .ref qf1_14, .ref qf1_15, .ref qf1_16, .ref qf1_17, .ref qf1_18, .ref qf1_19, .int v1_20])), (qf1_18, .inl (cf1_18, 32, .inl f1_18)), (h0, .inr (6, [.ref qf0, .ref qf1, .ref qf2, .ref qf3, .int u2_3, .int u2_4, .ref qf6, .int v7])), (qf2, .inl (cf2, 201, .inl g902_1)), (qf3, .inl (cf3, 201, .inl g902_2))] := hD
  replace hK : va_K (dC, dI) vwCl [(cf1_18, .int), (cf2, .int), (cf3, .int)] s := hK
  obtain rfl := hw
  obtain ⟨⟨u3_0, g903_1, g903_2, u3_3, u3_4⟩, hu_3, hsp⟩ := ox_bind hsp
  try dsimp only at hsp
  have hPc := hP.sub (ws' := [(h0, .inr (6, [.ref qf0, .ref qf1, .ref qf2, .ref qf3, .int u2_3, .int u2_4, .ref qf6, .int v7])), (qf2, .inl (cf2, 201, .inl g902_1)), (qf3, .inl (cf3, 201, .inl g902_2))]) [2, 3, 4] rfl
  have hDc := hD.sub (ws' := [(h0, .inr (6, [.ref qf0, .ref qf1, .ref qf2, .ref qf3, .int u2_3, .int u2_4, .ref qf6, .int v7])), (qf2, .inl (cf2, 201, .inl g902_1)), (qf3, .inl (cf3, 201, .inl g902_2))]) [2, 3, 4] (by decide) rfl
  have hKc := hK.sub (tys' := [(cf2, .int), (cf3, .int)]) [1, 2] rfl
  have hFc := va_free (wc := [(h0, .inr (6, [.ref qf0, .ref qf1, .ref qf2, .ref qf3, .int u2_3, .int u2_4, .ref qf6, .int v7])), (qf2, .inl (cf2, 201, .inl g902_1)), (qf3, .inl (cf3, 201, .inl g902_2))]) hD hS hA [2, 3, 4] rfl
  refine va_calli (va_runV (As := [.int 3, .int u2_0]) (rest := []) ⟨hx, hb, hml, hown, hts⟩ (t6_constant l dC dI H.size h0 3 u2_0 qf0 qf1 qf2 qf3 u2_3 u2_4 qf6 v7 cf2 g902_1 cf3 g902_2 nf u3_0 g903_1 g903_2 u3_3 u3_4 hu_3) (cwV 2 hts gv_h4_13 rfl rfl rfl (by decide +kernel) ⟨Nat.le_of_ble_eq_true rfl, Nat.le_of_ble_eq_true rfl⟩) ⟨fun a U g mk q => by obtain ⟨q0, q1, qP, qK, qD⟩ := q; exact ⟨q0, q1, qP, va_K.moved (u := U) (U := U.calling g mk a) (Vm.Alike.refl U.vm) qK, qD⟩, va_recv hKc hPc (ci := 6) (q0 := 0) rfl rfl, fun U hU hW => ⟨rfl, by rw [hU], by rw [hU]; exact hPc, va_K.moved hW.alike hKc, hDc.weaken (fun _ _ _ _ => trivial)⟩⟩ rfl rfl hl.1 rfl (lv_room (Nat.le_of_ble_eq_true rfl)) dX6_classOf_15 ⟨Nat.le_of_ble_eq_true rfl, Nat.le_of_ble_eq_true rfl⟩) hS (fun q _ h => hFc q h) hFc ?_
  clear hS
  intro r_3 u t H1 locs ht hvm hw hB hz1 hk1 hS
  obtain ⟨⟩ := u
  obtain ⟨hP1, hK1, hD1⟩ := hB
  rw [ht] at hP1
  have hK1 := va_K.moved hvm.symm hK1
  try dsimp only at hw
  have hPD := va_join (wr := [(qf1, .inr (2, [.ref qf1_0, .ref qf1_1, .int v1_2, .ref qf1_3, .ref qf1_4, .ref qf1_5, .ref qf1_6, .ref qf1_7, .ref qf1_8, .ref qf1_9, .ref qf1_10, .ref qf1_11, .ref qf1_12, .ref qf1_13, .ref qf1_14, .ref qf1_15, .ref qf1_16, .ref qf1_17, .ref qf1_18, .ref qf1_19, .int v1_20])), (qf1_18, .inl (cf1_18, 32, .inl f1_18))]) (w1 := [(h0, .inr (6, [.ref qf0, .ref qf1, .ref qf2, .ref qf3, .int u3_3, .int u3_4, .ref qf6, .int v7])), (qf2, .inl (cf2, 201, .inl g903_1)), (qf3, .inl (cf3, 201, .inl g903_2))]) hP hD [2, 3, 4] [0, 1] rfl rfl (by decide) (by decide) hk1 hFc hP1 hD1
  clear hP hD
  obtain ⟨hP, hD⟩ := hPD
  replace hK := (hK.sub (tys' := [(cf1_18, .int)]) [0] rfl).app hK1
  clear hPc hDc hKc hFc hP1 hK1 hD1 hz1 hk1 ht hvm
  generalize H1 = H at hP hS ⊢
  replace hP : va_P (dC, dI) vwCl [(qf1, .inr (2, [.ref qf1_0, .ref qf1_1, .int v1_2, .ref qf1_3, .ref qf1_4, .ref qf1_5, .ref qf1_6, .ref qf1_7, .ref qf1_8, .ref qf1_9, .ref qf1_10, .ref qf1_11, .ref qf1_12, .ref qf1_13, .ref qf1_14, .ref qf1_15, .ref qf1_16, .ref qf1_17, .ref qf1_18, .ref qf1_19, .int v1_20])), (qf1_18, .inl (cf1_18, 32, .inl f1_18)), (h0, .inr (6, [.ref qf0, .ref qf1, .ref qf2, .ref qf3, .int u3_3, .int u3_4, .ref qf6, .int v7])), (qf2, .inl (cf2, 201, .inl g903_1)), (qf3, .inl (cf3, 201, .inl g903_2))] H := hP
  replace hD : va_D A [(qf1, .inr (2, [.ref qf1_0, .ref qf1_1, .int v1_2, .ref qf1_3, .ref qf1_4, .ref qf1_5, .ref qf1_6, .ref qf1_7, .ref qf1_8, .ref qf1_9, .ref qf1_10, .ref qf1_11, .ref qf1_12, .ref qf1_13, .ref qf1_14, .ref qf1_15, .ref qf1_16, .ref qf1_17, .ref qf1_18, .ref qf1_19, .int v1_20])), (qf1_18, .inl (cf1_18, 32, .inl f1_18)), (h0, .inr (6, [.ref qf0, .ref qf1, .ref qf2, .ref qf3, .int u3_3, .int u3_4, .ref qf6, .int v7])), (qf2, .inl (cf2, 201, .inl g903_1)), (qf3, .inl (cf3, 201, .inl g903_2))] := hD
  replace hK : va_K (dC, dI) vwCl [(cf1_18, .int), (cf2, .int), (cf3, .int)] s := hK
  obtain rfl := hw
  have hr0 := Option.some.inj hsp
  clear hsp
  obtain ⟨hq0, hr1⟩ := Prod.mk.inj hr0
  clear hr0
  obtain ⟨hq1, hr2⟩ := Prod.mk.inj hr1
  clear hr1
  obtain ⟨hq2, hr3⟩ := Prod.mk.inj hr2
  clear hr2
  obtain ⟨hq3, hr4⟩ := Prod.mk.inj hr3
  clear hr3
  subst hq0
  subst hq1
  subst hq2
  subst hq3
  subst hr4
  have hP9 := hP.sub (ws' := [(h0, .inr (6, [.ref qf0, .ref qf1, .ref qf2, .ref qf3, .int u3_3, .int u3_4, .ref qf6, .int v7])), (qf1, .inr (2, [.ref qf1_0, .ref qf1_1, .int v1_2, .ref qf1_3, .ref qf1_4, .ref qf1_5, .ref qf1_6, .ref qf1_7, .ref qf1_8, .ref qf1_9, .ref qf1_10, .ref qf1_11, .ref qf1_12, .ref qf1_13, .ref qf1_14, .ref qf1_15, .ref qf1_16, .ref qf1_17, .ref qf1_18, .ref qf1_19, .int v1_20])), (qf1_18, .inl (cf1_18, 32, .inl f1_18)), (qf2, .inl (cf2, 201, .inl g903_1)), (qf3, .inl (cf3, 201, .inl g903_2))]) [2, 0, 1, 3, 4] rfl
  have hD9 := hD.sub (ws' := [(h0, .inr (6, [.ref qf0, .ref qf1, .ref qf2, .ref qf3, .int u3_3, .int u3_4, .ref qf6, .int v7])), (qf1, .inr (2, [.ref qf1_0, .ref qf1_1, .int v1_2, .ref qf1_3, .ref qf1_4, .ref qf1_5, .ref qf1_6, .ref qf1_7, .ref qf1_8, .ref qf1_9, .ref qf1_10, .ref qf1_11, .ref qf1_12, .ref qf1_13, .ref qf1_14, .ref qf1_15, .ref qf1_16, .ref qf1_17, .ref qf1_18, .ref qf1_19, .int v1_20])), (qf1_18, .inl (cf1_18, 32, .inl f1_18)), (qf2, .inl (cf2, 201, .inl g903_1)), (qf3, .inl (cf3, 201, .inl g903_2))]) [2, 0, 1, 3, 4] (by decide) rfl
  have hK9 := hK.sub (tys' := [(cf1_18, .int), (cf2, .int), (cf3, .int)]) [0, 1, 2] rfl
  exact W.iret hx hb hr (fun t ht hW => ⟨⟨(u3_0), (), rfl, rfl, by rw [ht]; exact hP9, va_K.moved hW.alike hK9, hD9⟩, hS.F ht⟩) hS.2.2 dX6_classOf_18
def sp_t6_fieldOf (nf : Nat) (a1 : Int32) (a2 : Int32) (v4 : Int32) (v5 : Int32) (f1_18 : Nat → Int32) (f2 : Nat → Int32) (f3 : Nat → Int32) (f1_6 : Nat → Int32) (f1_8 : Nat → Int32) : Option (Int32 × (Nat → Int32) × (Nat → Int32) × Int32 × Int32) := ((sp_t6_classOf nf a1 v4 v5 f1_18 f2 f3).bind (fun p1 => ((sp_t2_nameOfField nf a2 f1_6).bind (fun p2 => ((sp_t6_constant nf 1 p2 p1.2.2.2.1 p1.2.2.2.2 p1.2.1 p1.2.2.1).bind (fun p3 => ((sp_t2_kindOfField nf a2 f1_8).bind (fun p4 => ((sp_t6_constant nf 1 p4 p3.2.2.2.1 p3.2.2.2.2 p3.2.1 p3.2.2.1).bind (fun p5 => ((sp_t6_constant nf 4 (((p1.1 <<< (16 &&& 31)) ||| (p3.1 <<< (8 &&& 31))) ||| p5.1) p5.2.2.2.1 p5.2.2.2.2 p5.2.1 p5.2.2.1).bind (fun p6 => (some (p6.1, p6.2.1, p6.2.2.1, p6.2.2.2.1, p6.2.2.2.2))))))))))))))
set_option maxHeartbeats 4000000 in
set_option maxRecDepth 100000 in
/-- ClassMill$Pool.fieldOf -/
theorem t6_fieldOf (l : Launch) (dC : Nat → ClassId) (dI : Nat → Nat → Nat) (sz : Nat) (h0 : Nat) (a1 : Int32) (a2 : Int32) (qf0 : Nat) (qf1 : Nat) (qf2 : Nat) (qf3 : Nat) (v4 : Int32) (v5 : Int32) (qf6 : Nat) (v7 : Int32) (qf1_0 : Nat) (qf1_1 : Nat) (v1_2 : Int32) (qf1_3 : Nat) (qf1_4 : Nat) (qf1_5 : Nat) (qf1_6 : Nat) (qf1_7 : Nat) (qf1_8 : Nat) (qf1_9 : Nat) (qf1_10 : Nat) (qf1_11 : Nat) (qf1_12 : Nat) (qf1_13 : Nat) (qf1_14 : Nat) (qf1_15 : Nat) (qf1_16 : Nat) (qf1_17 : Nat) (qf1_18 : Nat) (qf1_19 : Nat) (v1_20 : Int32) (cf1_18 : ClassId) (f1_18 : (Nat → Int32)) (cf2 : ClassId) (f2 : (Nat → Int32)) (cf3 : ClassId) (f3 : (Nat → Int32)) (cf1_6 : ClassId) (f1_6 : (Nat → Int32)) (cf1_8 : ClassId) (f1_8 : (Nat → Int32)) (nf : Nat) (r0 : Int32) (o2 : (Nat → Int32)) (o3 : (Nat → Int32)) (w4 : Int32) (w5 : Int32) (hsp : sp_t6_fieldOf nf a1 a2 v4 v5 f1_18 f2 f3 f1_6 f1_8 = some (r0, o2, o3, w4, w5)) : Met l yX6_fieldOf (.code yX6_fieldOf cX6_fieldOf 5 (some .int) :: VS_h4) ({ frames := 2, cells := 0, slots := 0, locals := 44 }) (va_Pc [.ref h0, .int a1, .int a2] (fun U => U.heap.size = sz ∧ va_P (dC, dI) vwCl [(h0, .inr (6, [.ref qf0, .ref qf1, .ref qf2, .ref qf3, .int v4, .int v5, .ref qf6, .int v7])), (qf1, .inr (2, [.ref qf1_0, .ref qf1_1, .int v1_2, .ref qf1_3, .ref qf1_4, .ref qf1_5, .ref qf1_6, .ref qf1_7, .ref qf1_8, .ref qf1_9, .ref qf1_10, .ref qf1_11, .ref qf1_12, .ref qf1_13, .ref qf1_14, .ref qf1_15, .ref qf1_16, .ref qf1_17, .ref qf1_18, .ref qf1_19, .int v1_20])), (qf1_18, .inl (cf1_18, 32, .inl f1_18)), (qf2, .inl (cf2, 201, .inl f2)), (qf3, .inl (cf3, 201, .inl f3)), (qf1_6, .inl (cf1_6, 96, .inl f1_6)), (qf1_8, .inl (cf1_8, 96, .inl f1_8))] U.heap ∧ va_K (dC, dI) vwCl [(cf1_18, .int), (cf2, .int), (cf3, .int), (cf1_6, .int), (cf1_8, .int)] U ∧ va_D (fun _ => True) [(h0, .inr (6, [.ref qf0, .ref qf1, .ref qf2, .ref qf3, .int v4, .int v5, .ref qf6, .int v7])), (qf1, .inr (2, [.ref qf1_0, .ref qf1_1, .int v1_2, .ref qf1_3, .ref qf1_4, .ref qf1_5, .ref qf1_6, .ref qf1_7, .ref qf1_8, .ref qf1_9, .ref qf1_10, .ref qf1_11, .ref qf1_12, .ref qf1_13, .ref qf1_14, .ref qf1_15, .ref qf1_16, .ref qf1_17, .ref qf1_18, .ref qf1_19, .int v1_20])), (qf1_18, .inl (cf1_18, 32, .inl f1_18)), (qf2, .inl (cf2, 201, .inl f2)), (qf3, .inl (cf3, 201, .inl f3)), (qf1_6, .inl (cf1_6, 96, .inl f1_6)), (qf1_8, .inl (cf1_8, 96, .inl f1_8))])) (va_Qi (fun (r : Int32) (u : Unit) => match u with | () => r0 = r) (fun (u : Unit) (t : State) => match u with | () => va_P (dC, dI) vwCl [(h0, .inr (6, [.ref qf0, .ref qf1, .ref qf2, .ref qf3, .int w4, .int w5, .ref qf6, .int v7])), (qf1, .inr (2, [.ref qf1_0, .ref qf1_1, .int v1_2, .ref qf1_3, .ref qf1_4, .ref qf1_5, .ref qf1_6, .ref qf1_7, .ref qf1_8, .ref qf1_9, .ref qf1_10, .ref qf1_11, .ref qf1_12, .ref qf1_13, .ref qf1_14, .ref qf1_15, .ref qf1_16, .ref qf1_17, .ref qf1_18, .ref qf1_19, .int v1_20])), (qf1_18, .inl (cf1_18, 32, .inl f1_18)), (qf2, .inl (cf2, 201, .inl o2)), (qf3, .inl (cf3, 201, .inl o3)), (qf1_6, .inl (cf1_6, 96, .inl f1_6)), (qf1_8, .inl (cf1_8, 96, .inl f1_8))] t.heap ∧ va_K (dC, dI) vwCl [(cf1_18, .int), (cf2, .int), (cf3, .int), (cf1_6, .int), (cf1_8, .int)] t ∧ va_D (va_A [(h0, .inr (6, [.ref qf0, .ref qf1, .ref qf2, .ref qf3, .int v4, .int v5, .ref qf6, .int v7])), (qf1, .inr (2, [.ref qf1_0, .ref qf1_1, .int v1_2, .ref qf1_3, .ref qf1_4, .ref qf1_5, .ref qf1_6, .ref qf1_7, .ref qf1_8, .ref qf1_9, .ref qf1_10, .ref qf1_11, .ref qf1_12, .ref qf1_13, .ref qf1_14, .ref qf1_15, .ref qf1_16, .ref qf1_17, .ref qf1_18, .ref qf1_19, .int v1_20])), (qf1_18, .inl (cf1_18, 32, .inl f1_18)), (qf2, .inl (cf2, 201, .inl f2)), (qf3, .inl (cf3, 201, .inl f3)), (qf1_6, .inl (cf1_6, 96, .inl f1_6)), (qf1_8, .inl (cf1_8, 96, .inl f1_8))] sz) [(h0, .inr (6, [.ref qf0, .ref qf1, .ref qf2, .ref qf3, .int w4, .int w5, .ref qf6, .int v7])), (qf1, .inr (2, [.ref qf1_0, .ref qf1_1, .int v1_2, .ref qf1_3, .ref qf1_4, .ref qf1_5, .ref qf1_6, .ref qf1_7, .ref qf1_8, .ref qf1_9, .ref qf1_10, .ref qf1_11, .ref qf1_12, .ref qf1_13, .ref qf1_14, .ref qf1_15, .ref qf1_16, .ref qf1_17, .ref qf1_18, .ref qf1_19, .int v1_20])), (qf1_18, .inl (cf1_18, 32, .inl f1_18)), (qf2, .inl (cf2, 201, .inl o2)), (qf3, .inl (cf3, 201, .inl o3)), (qf1_6, .inl (cf1_6, 96, .inl f1_6)), (qf1_8, .inl (cf1_8, 96, .inl f1_8))]) (va_A [(h0, .inr (6, [.ref qf0, .ref qf1, .ref qf2, .ref qf3, .int v4, .int v5, .ref qf6, .int v7])), (qf1, .inr (2, [.ref qf1_0, .ref qf1_1, .int v1_2, .ref qf1_3, .ref qf1_4, .ref qf1_5, .ref qf1_6, .ref qf1_7, .ref qf1_8, .ref qf1_9, .ref qf1_10, .ref qf1_11, .ref qf1_12, .ref qf1_13, .ref qf1_14, .ref qf1_15, .ref qf1_16, .ref qf1_17, .ref qf1_18, .ref qf1_19, .int v1_20])), (qf1_18, .inl (cf1_18, 32, .inl f1_18)), (qf2, .inl (cf2, 201, .inl f2)), (qf3, .inl (cf3, 201, .inl f3)), (qf1_6, .inl (cf1_6, 96, .inl f1_6)), (qf1_8, .inl (cf1_8, 96, .inl f1_8))] sz)) 0 0 (va_A [(h0, .inr (6, [.ref qf0, .ref qf1, .ref qf2, .ref qf3, .int v4, .int v5, .ref qf6, .int v7])), (qf1, .inr (2, [.ref qf1_0, .ref qf1_1, .int v1_2, .ref qf1_3, .ref qf1_4, .ref qf1_5, .ref qf1_6, .ref qf1_7, .ref qf1_8, .ref qf1_9, .ref qf1_10, .ref qf1_11, .ref qf1_12, .ref qf1_13, .ref qf1_14, .ref qf1_15, .ref qf1_16, .ref qf1_17, .ref qf1_18, .ref qf1_19, .int v1_20])), (qf1_18, .inl (cf1_18, 32, .inl f1_18)), (qf2, .inl (cf2, 201, .inl f2)), (qf3, .inl (cf3, 201, .inl f3)), (qf1_6, .inl (cf1_6, 96, .inl f1_6)), (qf1_8, .inl (cf1_8, 96, .inl f1_8))] sz) := by
  refine Met.ofW (cc := cX6_fieldOf) (maxL := 5) (ret := (some .int)) (by decide) rfl ?_
  intro p e s m args below meth c s₁ B hml hv
  obtain ⟨rfl, hsz, hP, hK, hD0⟩ := hv
  have hx := B.exec
  have hb := B.bytes
  have hr := B.returns
  have hts := atoms_spec (ws := (.code yX6_fieldOf cX6_fieldOf 5 (some .int) :: VS_h4)) B.pre
  replace hts := fun w (h : w ∈ VS_h4) => hts w (List.mem_cons_of_mem _ h)
  have hown : s.vm.findClass RX6 = some m.cls := findClass_of_methodNamed B.named
  have hlocks := B.notSynchronized
  subst hsz
  have hD := hD0.self (sz := s.heap.size)
  generalize hAe : va_A [(h0, .inr (6, [.ref qf0, .ref qf1, .ref qf2, .ref qf3, .int v4, .int v5, .ref qf6, .int v7])), (qf1, .inr (2, [.ref qf1_0, .ref qf1_1, .int v1_2, .ref qf1_3, .ref qf1_4, .ref qf1_5, .ref qf1_6, .ref qf1_7, .ref qf1_8, .ref qf1_9, .ref qf1_10, .ref qf1_11, .ref qf1_12, .ref qf1_13, .ref qf1_14, .ref qf1_15, .ref qf1_16, .ref qf1_17, .ref qf1_18, .ref qf1_19, .int v1_20])), (qf1_18, .inl (cf1_18, 32, .inl f1_18)), (qf2, .inl (cf2, 201, .inl f2)), (qf3, .inl (cf3, 201, .inl f3)), (qf1_6, .inl (cf1_6, 96, .inl f1_6)), (qf1_8, .inl (cf1_8, 96, .inl f1_8))] s.heap.size = A at hD  ⊢
  have hA : ∀ q : Nat, s.heap.size ≤ q → A q := fun q h => by rw [← hAe]; exact Or.inr h
  have hP : va_P (dC, dI) vwCl [(h0, .inr (6, [.ref qf0, .ref qf1, .ref qf2, .ref qf3, .int v4, .int v5, .ref qf6, .int v7])), (qf1, .inr (2, [.ref qf1_0, .ref qf1_1, .int v1_2, .ref qf1_3, .ref qf1_4, .ref qf1_5, .ref qf1_6, .ref qf1_7, .ref qf1_8, .ref qf1_9, .ref qf1_10, .ref qf1_11, .ref qf1_12, .ref qf1_13, .ref qf1_14, .ref qf1_15, .ref qf1_16, .ref qf1_17, .ref qf1_18, .ref qf1_19, .int v1_20])), (qf1_18, .inl (cf1_18, 32, .inl f1_18)), (qf2, .inl (cf2, 201, .inl f2)), (qf3, .inl (cf3, 201, .inl f3)), (qf1_6, .inl (cf1_6, 96, .inl f1_6)), (qf1_8, .inl (cf1_8, 96, .inl f1_8))] s.heap := hP
  have hl := lv_entry ([.ref h0, .int a1, .int a2]) (n := 5) (Nat.le_of_ble_eq_true rfl)
  rw [lg_entry_eq]
  generalize (lg_sl ([.ref h0, .int a1, .int a2]) ++ List.replicate (5 - (lg_sl ([.ref h0, .int a1, .int a2])).length) Slot.unset).toArray = ls at hl ⊢
  have hl : lv_has ls 5 [(0, .ref h0), (1, .int a1), (2, .int a2)] := hl
  obtain ⟨H, hH⟩ : ∃ H : Heap, s.heap = H := ⟨_, rfl⟩
  rw [hH] at hP ⊢
  have hS : va_S A s.heap H [] := by rw [← hH]; exact va_S.rf
  obtain ⟨locs, hlo⟩ : ∃ locs : List Loc, locs = [] := ⟨_, rfl⟩
  rw [← hlo] at hS ⊢
  unfold sp_t6_fieldOf at hsp
  refine lv_aload_n hx hb dX6_fieldOf_0 rfl (lv_at hl 0 rfl) ?_
  refine lv_iload_n hx hb dX6_fieldOf_1 rfl (lv_at hl 1 rfl) ?_
  obtain ⟨⟨u1_0, g901_1, g901_2, u1_3, u1_4⟩, hu_1, hsp⟩ := ox_bind hsp
  try dsimp only at hsp
  have hPc := hP.sub (ws' := [(h0, .inr (6, [.ref qf0, .ref qf1, .ref qf2, .ref qf3, .int v4, .int v5, .ref qf6, .int v7])), (qf1, .inr (2, [.ref qf1_0, .ref qf1_1, .int v1_2, .ref qf1_3, .ref qf1_4, .ref qf1_5, .ref qf1_6, .ref qf1_7, .ref qf1_8, .ref qf1_9, .ref qf1_10, .ref qf1_11, .ref qf1_12, .ref qf1_13, .ref qf1_14, .ref qf1_15, .ref qf1_16, .ref qf1_17, .ref qf1_18, .ref qf1_19, .int v1_20])), (qf1_18, .inl (cf1_18, 32, .inl f1_18)), (qf2, .inl (cf2, 201, .inl f2)), (qf3, .inl (cf3, 201, .inl f3))]) [0, 1, 2, 3, 4] rfl
  have hDc := hD.sub (ws' := [(h0, .inr (6, [.ref qf0, .ref qf1, .ref qf2, .ref qf3, .int v4, .int v5, .ref qf6, .int v7])), (qf1, .inr (2, [.ref qf1_0, .ref qf1_1, .int v1_2, .ref qf1_3, .ref qf1_4, .ref qf1_5, .ref qf1_6, .ref qf1_7, .ref qf1_8, .ref qf1_9, .ref qf1_10, .ref qf1_11, .ref qf1_12, .ref qf1_13, .ref qf1_14, .ref qf1_15, .ref qf1_16, .ref qf1_17, .ref qf1_18, .ref qf1_19, .int v1_20])), (qf1_18, .inl (cf1_18, 32, .inl f1_18)), (qf2, .inl (cf2, 201, .inl f2)), (qf3, .inl (cf3, 201, .inl f3))]) [0, 1, 2, 3, 4] (by decide) rfl
  have hKc := hK.sub (tys' := [(cf1_18, .int), (cf2, .int), (cf3, .int)]) [0, 1, 2] rfl
  have hFc := va_free (wc := [(h0, .inr (6, [.ref qf0, .ref qf1, .ref qf2, .ref qf3, .int v4, .int v5, .ref qf6, .int v7])), (qf1, .inr (2, [.ref qf1_0, .ref qf1_1, .int v1_2, .ref qf1_3, .ref qf1_4, .ref qf1_5, .ref qf1_6, .ref qf1_7, .ref qf1_8, .ref qf1_9, .ref qf1_10, .ref qf1_11, .ref qf1_12, .ref qf1_13, .ref qf1_14, .ref qf1_15, .ref qf1_16, .ref qf1_17, .ref qf1_18, .ref qf1_19, .int v1_20])), (qf1_18, .inl (cf1_18, 32, .inl f1_18)), (qf2, .inl (cf2, 201, .inl f2)), (qf3, .inl (cf3, 201, .inl f3))]) hD hS hA [0, 1, 2, 3, 4] rfl
  refine va_calli (va_runV (As := [.int a1]) (rest := []) ⟨hx, hb, hml, hown, hts⟩ (t6_classOf l dC dI H.size h0 a1 qf0 qf1 qf2 qf3 v4 v5 qf6 v7 qf1_0 qf1_1 v1_2 qf1_3 qf1_4 qf1_5 qf1_6 qf1_7 qf1_8 qf1_9 qf1_10 qf1_11 qf1_12 qf1_13 qf1_14 qf1_15 qf1_16 qf1_17 qf1_18 qf1_19 v1_20 cf1_18 f1_18 cf2 f2 cf3 f3 nf u1_0 g901_1 g901_2 u1_3 u1_4 hu_1) (cwV 1 hts gv_h4_51 rfl rfl rfl (by decide +kernel) ⟨Nat.le_of_ble_eq_true rfl, Nat.le_of_ble_eq_true rfl⟩) ⟨fun a U g mk q => by obtain ⟨q0, q1, qP, qK, qD⟩ := q; exact ⟨q0, q1, qP, va_K.moved (u := U) (U := U.calling g mk a) (Vm.Alike.refl U.vm) qK, qD⟩, va_recv hKc hPc (ci := 6) (q0 := 0) rfl rfl, fun U hU hW => ⟨rfl, by rw [hU], by rw [hU]; exact hPc, va_K.moved hW.alike hKc, hDc.weaken (fun _ _ _ _ => trivial)⟩⟩ rfl rfl hl.1 rfl (lv_room (Nat.le_of_ble_eq_true rfl)) dX6_fieldOf_2 ⟨Nat.le_of_ble_eq_true rfl, Nat.le_of_ble_eq_true rfl⟩) hS (fun q _ h => hFc q h) hFc ?_
  clear hS
  intro r_1 u t H1 locs ht hvm hw hB hz1 hk1 hS
  obtain ⟨⟩ := u
  obtain ⟨hP1, hK1, hD1⟩ := hB
  rw [ht] at hP1
  have hK1 := va_K.moved hvm.symm hK1
  try dsimp only at hw
  have hPD := va_join (wr := [(qf1_6, .inl (cf1_6, 96, .inl f1_6)), (qf1_8, .inl (cf1_8, 96, .inl f1_8))]) (w1 := [(h0, .inr (6, [.ref qf0, .ref qf1, .ref qf2, .ref qf3, .int u1_3, .int u1_4, .ref qf6, .int v7])), (qf1, .inr (2, [.ref qf1_0, .ref qf1_1, .int v1_2, .ref qf1_3, .ref qf1_4, .ref qf1_5, .ref qf1_6, .ref qf1_7, .ref qf1_8, .ref qf1_9, .ref qf1_10, .ref qf1_11, .ref qf1_12, .ref qf1_13, .ref qf1_14, .ref qf1_15, .ref qf1_16, .ref qf1_17, .ref qf1_18, .ref qf1_19, .int v1_20])), (qf1_18, .inl (cf1_18, 32, .inl f1_18)), (qf2, .inl (cf2, 201, .inl g901_1)), (qf3, .inl (cf3, 201, .inl g901_2))]) hP hD [0, 1, 2, 3, 4] [5, 6] rfl rfl (by decide) (by decide) hk1 hFc hP1 hD1
  clear hP hD
  obtain ⟨hP, hD⟩ := hPD
  replace hK := (hK.sub (tys' := [(cf1_6, .int), (cf1_8, .int)]) [3, 4] rfl).app hK1
  clear hPc hDc hKc hFc hP1 hK1 hD1 hz1 hk1 ht hvm
  generalize H1 = H at hP hS ⊢
  replace hP : va_P (dC, dI) vwCl [(qf1_6, .inl (cf1_6, 96, .inl f1_6)), (qf1_8, .inl (cf1_8, 96, .inl f1_8)), (h0, .inr (6, [.ref qf0, .ref qf1, .ref qf2, .ref qf3, .int u1_3, .int u1_4, .ref qf6, .int v7])), (qf1, .inr (2, [.ref qf1_0, .ref qf1_1, .int v1_2, .ref qf1_3, .ref qf1_4, .ref qf1_5, .ref qf1_6, .ref qf1_7, .ref qf1_8, .ref qf1_9, .ref qf1_10, .ref qf1_11, .ref qf1_12, .ref qf1_13, .ref qf1_14, .ref qf1_15, .ref qf1_16, .ref qf1_17, .ref qf1_18, .ref qf1_19, .int v1_20])), (qf1_18, .inl (cf1_18, 32, .inl f1_18)), (qf2, .inl (cf2, 201, .inl g901_1)), (qf3, .inl (cf3, 201, .inl g901_2))] H := hP
  replace hD : va_D A [(qf1_6, .inl (cf1_6, 96, .inl f1_6)), (qf1_8, .inl (cf1_8, 96, .inl f1_8)), (h0, .inr (6, [.ref qf0, .ref qf1, .ref qf2, .ref qf3, .int u1_3, .int u1_4, .ref qf6, .int v7])), (qf1, .inr (2, [.ref qf1_0, .ref qf1_1, .int v1_2, .ref qf1_3, .ref qf1_4, .ref qf1_5, .ref qf1_6, .ref qf1_7, .ref qf1_8, .ref qf1_9, .ref qf1_10, .ref qf1_11, .ref qf1_12, .ref qf1_13, .ref qf1_14, .ref qf1_15, .ref qf1_16, .ref qf1_17, .ref qf1_18, .ref qf1_19, .int v1_20])), (qf1_18, .inl (cf1_18, 32, .inl f1_18)), (qf2, .inl (cf2, 201, .inl g901_1)), (qf3, .inl (cf3, 201, .inl g901_2))] := hD
  replace hK : va_K (dC, dI) vwCl [(cf1_6, .int), (cf1_8, .int), (cf1_18, .int), (cf2, .int), (cf3, .int)] s := hK
  obtain rfl := hw
  refine lv_istore_n (lv' := [(3, .int u1_0), (0, .ref h0), (1, .int a1), (2, .int a2)]) hx hb dX6_fieldOf_5 rfl hl (by decide) rfl (fun ls hl => ?_)
  refine lv_aload_n hx hb dX6_fieldOf_6 rfl (lv_at hl 1 rfl) ?_
  refine lv_iconst (v := 1) hx hb dX6_fieldOf_7 (by decide) ?_
  refine lv_aload_n hx hb dX6_fieldOf_8 rfl (lv_at hl 1 rfl) ?_
  refine va_get (D := (dC, dI)) (ci := 6) (v := .ref qf1) (C := RX6) (T := TX6) (N := 8) hx hb hts uV_h4_X6 hown hK hP 2 rfl rfl 1 (by decide) (hts (.fieldLink RX6 24 "ClassMill$Pool" "heads" "LClassMill$Heads;") mw_h4_240) (fun _ h9 => h9) rfl dX6_fieldOf_9 ?_
  refine lv_iload_n hx hb dX6_fieldOf_12 rfl (lv_at hl 3 rfl) ?_
  obtain ⟨u2_0, hu_2, hsp⟩ := ox_bind hsp
  try dsimp only at hsp
  have hPc := hP.sub (ws' := [(qf1, .inr (2, [.ref qf1_0, .ref qf1_1, .int v1_2, .ref qf1_3, .ref qf1_4, .ref qf1_5, .ref qf1_6, .ref qf1_7, .ref qf1_8, .ref qf1_9, .ref qf1_10, .ref qf1_11, .ref qf1_12, .ref qf1_13, .ref qf1_14, .ref qf1_15, .ref qf1_16, .ref qf1_17, .ref qf1_18, .ref qf1_19, .int v1_20])), (qf1_6, .inl (cf1_6, 96, .inl f1_6))]) [3, 0] rfl
  have hDc := hD.sub (ws' := [(qf1, .inr (2, [.ref qf1_0, .ref qf1_1, .int v1_2, .ref qf1_3, .ref qf1_4, .ref qf1_5, .ref qf1_6, .ref qf1_7, .ref qf1_8, .ref qf1_9, .ref qf1_10, .ref qf1_11, .ref qf1_12, .ref qf1_13, .ref qf1_14, .ref qf1_15, .ref qf1_16, .ref qf1_17, .ref qf1_18, .ref qf1_19, .int v1_20])), (qf1_6, .inl (cf1_6, 96, .inl f1_6))]) [3, 0] (by decide) rfl
  have hKc := hK.sub (tys' := [(cf1_6, .int)]) [0] rfl
  have hFc := va_free (wc := [(qf1, .inr (2, [.ref qf1_0, .ref qf1_1, .int v1_2, .ref qf1_3, .ref qf1_4, .ref qf1_5, .ref qf1_6, .ref qf1_7, .ref qf1_8, .ref qf1_9, .ref qf1_10, .ref qf1_11, .ref qf1_12, .ref qf1_13, .ref qf1_14, .ref qf1_15, .ref qf1_16, .ref qf1_17, .ref qf1_18, .ref qf1_19, .int v1_20])), (qf1_6, .inl (cf1_6, 96, .inl f1_6))]) hD hS hA [3, 0] rfl
  refine va_calli (va_runV (As := [.int a2]) (rest := [.int 1, .ref h0]) ⟨hx, hb, hml, hown, hts⟩ (t2_nameOfField l dC dI H.size qf1 a2 qf1_0 qf1_1 v1_2 qf1_3 qf1_4 qf1_5 qf1_6 qf1_7 qf1_8 qf1_9 qf1_10 qf1_11 qf1_12 qf1_13 qf1_14 qf1_15 qf1_16 qf1_17 qf1_18 qf1_19 v1_20 cf1_6 f1_6 nf u2_0 hu_2) (cwV 1 hts gv_h4_52 rfl rfl rfl (by decide +kernel) ⟨Nat.le_of_ble_eq_true rfl, Nat.le_of_ble_eq_true rfl⟩) ⟨fun a U g mk q => by obtain ⟨q0, q1, qP, qK, qD⟩ := q; exact ⟨q0, q1, qP, va_K.moved (u := U) (U := U.calling g mk a) (Vm.Alike.refl U.vm) qK, qD⟩, va_recv hKc hPc (ci := 2) (q0 := 0) rfl rfl, fun U hU hW => ⟨rfl, by rw [hU], by rw [hU]; exact hPc, va_K.moved hW.alike hKc, hDc.weaken (fun _ _ _ _ => trivial)⟩⟩ rfl rfl hl.1 rfl (lv_room (Nat.le_of_ble_eq_true rfl)) dX6_fieldOf_13 ⟨Nat.le_of_ble_eq_true rfl, Nat.le_of_ble_eq_true rfl⟩) hS (fun q _ h => hFc q h) hFc ?_
  clear hS
  intro r_2 u t H1 locs ht hvm hw hB hz1 hk1 hS
  obtain ⟨⟩ := u
  obtain ⟨hP1, hK1, hD1⟩ := hB
  rw [ht] at hP1
  have hK1 := va_K.moved hvm.symm hK1
  try dsimp only at hw
  have hPD := va_join (wr := [(qf1_8, .inl (cf1_8, 96, .inl f1_8)), (h0, .inr (6, [.ref qf0, .ref qf1, .ref qf2, .ref qf3, .int u1_3, .int u1_4, .ref qf6, .int v7])), (qf1_18, .inl (cf1_18, 32, .inl f1_18)), (qf2, .inl (cf2, 201, .inl g901_1)), (qf3, .inl (cf3, 201, .inl g901_2))]) (w1 := [(qf1, .inr (2, [.ref qf1_0, .ref qf1_1, .int v1_2, .ref qf1_3, .ref qf1_4, .ref qf1_5, .ref qf1_6, .ref qf1_7, .ref qf1_8, .ref qf1_9, .ref qf1_10, .ref qf1_11, .ref qf1_12, .ref qf1_13, .ref qf1_14, .ref qf1_15, .ref qf1_16, .ref qf1_17, .ref qf1_18, .ref qf1_19, .int v1_20])), (qf1_6, .inl (cf1_6, 96, .inl f1_6))]) hP hD [3, 0] [1, 2, 4, 5, 6] rfl rfl (by decide) (by decide) hk1 hFc hP1 hD1
  clear hP hD
  obtain ⟨hP, hD⟩ := hPD
  replace hK := (hK.sub (tys' := [(cf1_8, .int), (cf1_18, .int), (cf2, .int), (cf3, .int)]) [1, 2, 3, 4] rfl).app hK1
  clear hPc hDc hKc hFc hP1 hK1 hD1 hz1 hk1 ht hvm
  generalize H1 = H at hP hS ⊢
  replace hP : va_P (dC, dI) vwCl [(qf1_8, .inl (cf1_8, 96, .inl f1_8)), (h0, .inr (6, [.ref qf0, .ref qf1, .ref qf2, .ref qf3, .int u1_3, .int u1_4, .ref qf6, .int v7])), (qf1_18, .inl (cf1_18, 32, .inl f1_18)), (qf2, .inl (cf2, 201, .inl g901_1)), (qf3, .inl (cf3, 201, .inl g901_2)), (qf1, .inr (2, [.ref qf1_0, .ref qf1_1, .int v1_2, .ref qf1_3, .ref qf1_4, .ref qf1_5, .ref qf1_6, .ref qf1_7, .ref qf1_8, .ref qf1_9, .ref qf1_10, .ref qf1_11, .ref qf1_12, .ref qf1_13, .ref qf1_14, .ref qf1_15, .ref qf1_16, .ref qf1_17, .ref qf1_18, .ref qf1_19, .int v1_20])), (qf1_6, .inl (cf1_6, 96, .inl f1_6))] H := hP
  replace hD : va_D A [(qf1_8, .inl (cf1_8, 96, .inl f1_8)), (h0, .inr (6, [.ref qf0, .ref qf1, .ref qf2, .ref qf3, .int u1_3, .int u1_4, .ref qf6, .int v7])), (qf1_18, .inl (cf1_18, 32, .inl f1_18)), (qf2, .inl (cf2, 201, .inl g901_1)), (qf3, .inl (cf3, 201, .inl g901_2)), (qf1, .inr (2, [.ref qf1_0, .ref qf1_1, .int v1_2, .ref qf1_3, .ref qf1_4, .ref qf1_5, .ref qf1_6, .ref qf1_7, .ref qf1_8, .ref qf1_9, .ref qf1_10, .ref qf1_11, .ref qf1_12, .ref qf1_13, .ref qf1_14, .ref qf1_15, .ref qf1_16, .ref qf1_17, .ref qf1_18, .ref qf1_19, .int v1_20])), (qf1_6, .inl (cf1_6, 96, .inl f1_6))] := hD
  replace hK : va_K (dC, dI) vwCl [(cf1_8, .int), (cf1_18, .int), (cf2, .int), (cf3, .int), (cf1_6, .int)] s := hK
  obtain rfl := hw
  obtain ⟨⟨u3_0, g903_1, g903_2, u3_3, u3_4⟩, hu_3, hsp⟩ := ox_bind hsp
  try dsimp only at hsp
  have hPc := hP.sub (ws' := [(h0, .inr (6, [.ref qf0, .ref qf1, .ref qf2, .ref qf3, .int u1_3, .int u1_4, .ref qf6, .int v7])), (qf2, .inl (cf2, 201, .inl g901_1)), (qf3, .inl (cf3, 201, .inl g901_2))]) [1, 3, 4] rfl
  have hDc := hD.sub (ws' := [(h0, .inr (6, [.ref qf0, .ref qf1, .ref qf2, .ref qf3, .int u1_3, .int u1_4, .ref qf6, .int v7])), (qf2, .inl (cf2, 201, .inl g901_1)), (qf3, .inl (cf3, 201, .inl g901_2))]) [1, 3, 4] (by decide) rfl
  have hKc := hK.sub (tys' := [(cf2, .int), (cf3, .int)]) [2, 3] rfl
  have hFc := va_free (wc := [(h0, .inr (6, [.ref qf0, .ref qf1, .ref qf2, .ref qf3, .int u1_3, .int u1_4, .ref qf6, .int v7])), (qf2, .inl (cf2, 201, .inl g901_1)), (qf3, .inl (cf3, 201, .inl g901_2))]) hD hS hA [1, 3, 4] rfl
  refine va_calli (va_runV (As := [.int 1, .int u2_0]) (rest := []) ⟨hx, hb, hml, hown, hts⟩ (t6_constant l dC dI H.size h0 1 u2_0 qf0 qf1 qf2 qf3 u1_3 u1_4 qf6 v7 cf2 g901_1 cf3 g901_2 nf u3_0 g903_1 g903_2 u3_3 u3_4 hu_3) (cwV 2 hts gv_h4_13 rfl rfl rfl (by decide +kernel) ⟨Nat.le_of_ble_eq_true rfl, Nat.le_of_ble_eq_true rfl⟩) ⟨fun a U g mk q => by obtain ⟨q0, q1, qP, qK, qD⟩ := q; exact ⟨q0, q1, qP, va_K.moved (u := U) (U := U.calling g mk a) (Vm.Alike.refl U.vm) qK, qD⟩, va_recv hKc hPc (ci := 6) (q0 := 0) rfl rfl, fun U hU hW => ⟨rfl, by rw [hU], by rw [hU]; exact hPc, va_K.moved hW.alike hKc, hDc.weaken (fun _ _ _ _ => trivial)⟩⟩ rfl rfl hl.1 rfl (lv_room (Nat.le_of_ble_eq_true rfl)) dX6_fieldOf_16 ⟨Nat.le_of_ble_eq_true rfl, Nat.le_of_ble_eq_true rfl⟩) hS (fun q _ h => hFc q h) hFc ?_
  clear hS
  intro r_3 u t H1 locs ht hvm hw hB hz1 hk1 hS
  obtain ⟨⟩ := u
  obtain ⟨hP1, hK1, hD1⟩ := hB
  rw [ht] at hP1
  have hK1 := va_K.moved hvm.symm hK1
  try dsimp only at hw
  have hPD := va_join (wr := [(qf1_8, .inl (cf1_8, 96, .inl f1_8)), (qf1_18, .inl (cf1_18, 32, .inl f1_18)), (qf1, .inr (2, [.ref qf1_0, .ref qf1_1, .int v1_2, .ref qf1_3, .ref qf1_4, .ref qf1_5, .ref qf1_6, .ref qf1_7, .ref qf1_8, .ref qf1_9, .ref qf1_10, .ref qf1_11, .ref qf1_12, .ref qf1_13, .ref qf1_14, .ref qf1_15, .ref qf1_16, .ref qf1_17, .ref qf1_18, .ref qf1_19, .int v1_20])), (qf1_6, .inl (cf1_6, 96, .inl f1_6))]) (w1 := [(h0, .inr (6, [.ref qf0, .ref qf1, .ref qf2, .ref qf3, .int u3_3, .int u3_4, .ref qf6, .int v7])), (qf2, .inl (cf2, 201, .inl g903_1)), (qf3, .inl (cf3, 201, .inl g903_2))]) hP hD [1, 3, 4] [0, 2, 5, 6] rfl rfl (by decide) (by decide) hk1 hFc hP1 hD1
  clear hP hD
  obtain ⟨hP, hD⟩ := hPD
  replace hK := (hK.sub (tys' := [(cf1_8, .int), (cf1_18, .int), (cf1_6, .int)]) [0, 1, 4] rfl).app hK1
  clear hPc hDc hKc hFc hP1 hK1 hD1 hz1 hk1 ht hvm
  generalize H1 = H at hP hS ⊢
  replace hP : va_P (dC, dI) vwCl [(qf1_8, .inl (cf1_8, 96, .inl f1_8)), (qf1_18, .inl (cf1_18, 32, .inl f1_18)), (qf1, .inr (2, [.ref qf1_0, .ref qf1_1, .int v1_2, .ref qf1_3, .ref qf1_4, .ref qf1_5, .ref qf1_6, .ref qf1_7, .ref qf1_8, .ref qf1_9, .ref qf1_10, .ref qf1_11, .ref qf1_12, .ref qf1_13, .ref qf1_14, .ref qf1_15, .ref qf1_16, .ref qf1_17, .ref qf1_18, .ref qf1_19, .int v1_20])), (qf1_6, .inl (cf1_6, 96, .inl f1_6)), (h0, .inr (6, [.ref qf0, .ref qf1, .ref qf2, .ref qf3, .int u3_3, .int u3_4, .ref qf6, .int v7])), (qf2, .inl (cf2, 201, .inl g903_1)), (qf3, .inl (cf3, 201, .inl g903_2))] H := hP
  replace hD : va_D A [(qf1_8, .inl (cf1_8, 96, .inl f1_8)), (qf1_18, .inl (cf1_18, 32, .inl f1_18)), (qf1, .inr (2, [.ref qf1_0, .ref qf1_1, .int v1_2, .ref qf1_3, .ref qf1_4, .ref qf1_5, .ref qf1_6, .ref qf1_7, .ref qf1_8, .ref qf1_9, .ref qf1_10, .ref qf1_11, .ref qf1_12, .ref qf1_13, .ref qf1_14, .ref qf1_15, .ref qf1_16, .ref qf1_17, .ref qf1_18, .ref qf1_19, .int v1_20])), (qf1_6, .inl (cf1_6, 96, .inl f1_6)), (h0, .inr (6, [.ref qf0, .ref qf1, .ref qf2, .ref qf3, .int u3_3, .int u3_4, .ref qf6, .int v7])), (qf2, .inl (cf2, 201, .inl g903_1)), (qf3, .inl (cf3, 201, .inl g903_2))] := hD
  replace hK : va_K (dC, dI) vwCl [(cf1_8, .int), (cf1_18, .int), (cf1_6, .int), (cf2, .int), (cf3, .int)] s := hK
  obtain rfl := hw
  refine lv_istore (lv' := [(4, .int u3_0), (3, .int u1_0), (0, .ref h0), (1, .int a1), (2, .int a2)]) hx hb dX6_fieldOf_19 hl (by decide) rfl (fun ls hl => ?_)
  refine lv_aload_n hx hb dX6_fieldOf_21 rfl (lv_at hl 2 rfl) ?_
  refine lv_iconst (v := 4) hx hb dX6_fieldOf_22 (by decide) ?_
  refine lv_iload_n hx hb dX6_fieldOf_23 rfl (lv_at hl 1 rfl) ?_
  refine lv_bipush (v := 16) hx hb dX6_fieldOf_24 (by decide) ?_
  refine lv_ishl hx hb dX6_fieldOf_26 ?_
  refine lv_iload hx hb dX6_fieldOf_27 (lv_at hl 0 rfl) ?_
  refine lv_bipush (v := 8) hx hb dX6_fieldOf_29 (by decide) ?_
  refine lv_ishl hx hb dX6_fieldOf_31 ?_
  refine lv_ior hx hb dX6_fieldOf_32 ?_
  refine lv_aload_n hx hb dX6_fieldOf_33 rfl (lv_at hl 2 rfl) ?_
  refine lv_iconst (v := 1) hx hb dX6_fieldOf_34 (by decide) ?_
  refine lv_aload_n hx hb dX6_fieldOf_35 rfl (lv_at hl 2 rfl) ?_
  refine va_get (D := (dC, dI)) (ci := 6) (v := .ref qf1) (C := RX6) (T := TX6) (N := 8) hx hb hts uV_h4_X6 hown hK hP 4 rfl rfl 1 (by decide) (hts (.fieldLink RX6 24 "ClassMill$Pool" "heads" "LClassMill$Heads;") mw_h4_240) (fun _ h9 => h9) rfl dX6_fieldOf_36 ?_
  refine lv_iload_n hx hb dX6_fieldOf_39 rfl (lv_at hl 4 rfl) ?_
  obtain ⟨u4_0, hu_4, hsp⟩ := ox_bind hsp
  try dsimp only at hsp
  have hPc := hP.sub (ws' := [(qf1, .inr (2, [.ref qf1_0, .ref qf1_1, .int v1_2, .ref qf1_3, .ref qf1_4, .ref qf1_5, .ref qf1_6, .ref qf1_7, .ref qf1_8, .ref qf1_9, .ref qf1_10, .ref qf1_11, .ref qf1_12, .ref qf1_13, .ref qf1_14, .ref qf1_15, .ref qf1_16, .ref qf1_17, .ref qf1_18, .ref qf1_19, .int v1_20])), (qf1_8, .inl (cf1_8, 96, .inl f1_8))]) [2, 0] rfl
  have hDc := hD.sub (ws' := [(qf1, .inr (2, [.ref qf1_0, .ref qf1_1, .int v1_2, .ref qf1_3, .ref qf1_4, .ref qf1_5, .ref qf1_6, .ref qf1_7, .ref qf1_8, .ref qf1_9, .ref qf1_10, .ref qf1_11, .ref qf1_12, .ref qf1_13, .ref qf1_14, .ref qf1_15, .ref qf1_16, .ref qf1_17, .ref qf1_18, .ref qf1_19, .int v1_20])), (qf1_8, .inl (cf1_8, 96, .inl f1_8))]) [2, 0] (by decide) rfl
  have hKc := hK.sub (tys' := [(cf1_8, .int)]) [0] rfl
  have hFc := va_free (wc := [(qf1, .inr (2, [.ref qf1_0, .ref qf1_1, .int v1_2, .ref qf1_3, .ref qf1_4, .ref qf1_5, .ref qf1_6, .ref qf1_7, .ref qf1_8, .ref qf1_9, .ref qf1_10, .ref qf1_11, .ref qf1_12, .ref qf1_13, .ref qf1_14, .ref qf1_15, .ref qf1_16, .ref qf1_17, .ref qf1_18, .ref qf1_19, .int v1_20])), (qf1_8, .inl (cf1_8, 96, .inl f1_8))]) hD hS hA [2, 0] rfl
  refine va_calli (va_runV (As := [.int a2]) (rest := [.int 1, .ref h0, .int ((u1_0 <<< (16 &&& 31)) ||| (u3_0 <<< (8 &&& 31))), .int 4, .ref h0]) ⟨hx, hb, hml, hown, hts⟩ (t2_kindOfField l dC dI H.size qf1 a2 qf1_0 qf1_1 v1_2 qf1_3 qf1_4 qf1_5 qf1_6 qf1_7 qf1_8 qf1_9 qf1_10 qf1_11 qf1_12 qf1_13 qf1_14 qf1_15 qf1_16 qf1_17 qf1_18 qf1_19 v1_20 cf1_8 f1_8 nf u4_0 hu_4) (cwV 1 hts gv_h4_53 rfl rfl rfl (by decide +kernel) ⟨Nat.le_of_ble_eq_true rfl, Nat.le_of_ble_eq_true rfl⟩) ⟨fun a U g mk q => by obtain ⟨q0, q1, qP, qK, qD⟩ := q; exact ⟨q0, q1, qP, va_K.moved (u := U) (U := U.calling g mk a) (Vm.Alike.refl U.vm) qK, qD⟩, va_recv hKc hPc (ci := 2) (q0 := 0) rfl rfl, fun U hU hW => ⟨rfl, by rw [hU], by rw [hU]; exact hPc, va_K.moved hW.alike hKc, hDc.weaken (fun _ _ _ _ => trivial)⟩⟩ rfl rfl hl.1 rfl (lv_room (Nat.le_of_ble_eq_true rfl)) dX6_fieldOf_40 ⟨Nat.le_of_ble_eq_true rfl, Nat.le_of_ble_eq_true rfl⟩) hS (fun q _ h => hFc q h) hFc ?_
  clear hS
  intro r_4 u t H1 locs ht hvm hw hB hz1 hk1 hS
  obtain ⟨⟩ := u
  obtain ⟨hP1, hK1, hD1⟩ := hB
  rw [ht] at hP1
  have hK1 := va_K.moved hvm.symm hK1
  try dsimp only at hw
  have hPD := va_join (wr := [(qf1_18, .inl (cf1_18, 32, .inl f1_18)), (qf1_6, .inl (cf1_6, 96, .inl f1_6)), (h0, .inr (6, [.ref qf0, .ref qf1, .ref qf2, .ref qf3, .int u3_3, .int u3_4, .ref qf6, .int v7])), (qf2, .inl (cf2, 201, .inl g903_1)), (qf3, .inl (cf3, 201, .inl g903_2))]) (w1 := [(qf1, .inr (2, [.ref qf1_0, .ref qf1_1, .int v1_2, .ref qf1_3, .ref qf1_4, .ref qf1_5, .ref qf1_6, .ref qf1_7, .ref qf1_8, .ref qf1_9, .ref qf1_10, .ref qf1_11, .ref qf1_12, .ref qf1_13, .ref qf1_14, .ref qf1_15, .ref qf1_16, .ref qf1_17, .ref qf1_18, .ref qf1_19, .int v1_20])), (qf1_8, .inl (cf1_8, 96, .inl f1_8))]) hP hD [2, 0] [1, 3, 4, 5, 6] rfl rfl (by decide) (by decide) hk1 hFc hP1 hD1
  clear hP hD
  obtain ⟨hP, hD⟩ := hPD
  replace hK := (hK.sub (tys' := [(cf1_18, .int), (cf1_6, .int), (cf2, .int), (cf3, .int)]) [1, 2, 3, 4] rfl).app hK1
  clear hPc hDc hKc hFc hP1 hK1 hD1 hz1 hk1 ht hvm
  generalize H1 = H at hP hS ⊢
  replace hP : va_P (dC, dI) vwCl [(qf1_18, .inl (cf1_18, 32, .inl f1_18)), (qf1_6, .inl (cf1_6, 96, .inl f1_6)), (h0, .inr (6, [.ref qf0, .ref qf1, .ref qf2, .ref qf3, .int u3_3, .int u3_4, .ref qf6, .int v7])), (qf2, .inl (cf2, 201, .inl g903_1)), (qf3, .inl (cf3, 201, .inl g903_2)), (qf1, .inr (2, [.ref qf1_0, .ref qf1_1, .int v1_2, .ref qf1_3, .ref qf1_4, .ref qf1_5, .ref qf1_6, .ref qf1_7, .ref qf1_8, .ref qf1_9, .ref qf1_10, .ref qf1_11, .ref qf1_12, .ref qf1_13, .ref qf1_14, .ref qf1_15, .ref qf1_16, .ref qf1_17, .ref qf1_18, .ref qf1_19, .int v1_20])), (qf1_8, .inl (cf1_8, 96, .inl f1_8))] H := hP
  replace hD : va_D A [(qf1_18, .inl (cf1_18, 32, .inl f1_18)), (qf1_6, .inl (cf1_6, 96, .inl f1_6)), (h0, .inr (6, [.ref qf0, .ref qf1, .ref qf2, .ref qf3, .int u3_3, .int u3_4, .ref qf6, .int v7])), (qf2, .inl (cf2, 201, .inl g903_1)), (qf3, .inl (cf3, 201, .inl g903_2)), (qf1, .inr (2, [.ref qf1_0, .ref qf1_1, .int v1_2, .ref qf1_3, .ref qf1_4, .ref qf1_5, .ref qf1_6, .ref qf1_7, .ref qf1_8, .ref qf1_9, .ref qf1_10, .ref qf1_11, .ref qf1_12, .ref qf1_13, .ref qf1_14, .ref qf1_15, .ref qf1_16, .ref qf1_17, .ref qf1_18, .ref qf1_19, .int v1_20])), (qf1_8, .inl (cf1_8, 96, .inl f1_8))] := hD
  replace hK : va_K (dC, dI) vwCl [(cf1_18, .int), (cf1_6, .int), (cf2, .int), (cf3, .int), (cf1_8, .int)] s := hK
  obtain rfl := hw
  obtain ⟨⟨u5_0, g905_1, g905_2, u5_3, u5_4⟩, hu_5, hsp⟩ := ox_bind hsp
  try dsimp only at hsp
  have hPc := hP.sub (ws' := [(h0, .inr (6, [.ref qf0, .ref qf1, .ref qf2, .ref qf3, .int u3_3, .int u3_4, .ref qf6, .int v7])), (qf2, .inl (cf2, 201, .inl g903_1)), (qf3, .inl (cf3, 201, .inl g903_2))]) [2, 3, 4] rfl
  have hDc := hD.sub (ws' := [(h0, .inr (6, [.ref qf0, .ref qf1, .ref qf2, .ref qf3, .int u3_3, .int u3_4, .ref qf6, .int v7])), (qf2, .inl (cf2, 201, .inl g903_1)), (qf3, .inl (cf3, 201, .inl g903_2))]) [2, 3, 4] (by decide) rfl
  have hKc := hK.sub (tys' := [(cf2, .int), (cf3, .int)]) [2, 3] rfl
  have hFc := va_free (wc := [(h0, .inr (6, [.ref qf0, .ref qf1, .ref qf2, .ref qf3, .int u3_3, .int u3_4, .ref qf6, .int v7])), (qf2, .inl (cf2, 201, .inl g903_1)), (qf3, .inl (cf3, 201, .inl g903_2))]) hD hS hA [2, 3, 4] rfl
  refine va_calli (va_runV (As := [.int 1, .int u4_0]) (rest := [.int ((u1_0 <<< (16 &&& 31)) ||| (u3_0 <<< (8 &&& 31))), .int 4, .ref h0]) ⟨hx, hb, hml, hown, hts⟩ (t6_constant l dC dI H.size h0 1 u4_0 qf0 qf1 qf2 qf3 u3_3 u3_4 qf6 v7 cf2 g903_1 cf3 g903_2 nf u5_0 g905_1 g905_2 u5_3 u5_4 hu_5) (cwV 2 hts gv_h4_13 rfl rfl rfl (by decide +kernel) ⟨Nat.le_of_ble_eq_true rfl, Nat.le_of_ble_eq_true rfl⟩) ⟨fun a U g mk q => by obtain ⟨q0, q1, qP, qK, qD⟩ := q; exact ⟨q0, q1, qP, va_K.moved (u := U) (U := U.calling g mk a) (Vm.Alike.refl U.vm) qK, qD⟩, va_recv hKc hPc (ci := 6) (q0 := 0) rfl rfl, fun U hU hW => ⟨rfl, by rw [hU], by rw [hU]; exact hPc, va_K.moved hW.alike hKc, hDc.weaken (fun _ _ _ _ => trivial)⟩⟩ rfl rfl hl.1 rfl (lv_room (Nat.le_of_ble_eq_true rfl)) dX6_fieldOf_43 ⟨Nat.le_of_ble_eq_true rfl, Nat.le_of_ble_eq_true rfl⟩) hS (fun q _ h => hFc q h) hFc ?_
  clear hS
  intro r_5 u t H1 locs ht hvm hw hB hz1 hk1 hS
  obtain ⟨⟩ := u
  obtain ⟨hP1, hK1, hD1⟩ := hB
  rw [ht] at hP1
  have hK1 := va_K.moved hvm.symm hK1
  try dsimp only at hw
  have hPD := va_join (wr := [(qf1_18, .inl (cf1_18, 32, .inl f1_18)), (qf1_6, .inl (cf1_6, 96, .inl f1_6)), (qf1, .inr (2, [.ref qf1_0, .ref qf1_1, .int v1_2, .ref qf1_3, .ref qf1_4, .ref qf1_5, .ref qf1_6, .ref qf1_7, .ref qf1_8, .ref qf1_9, .ref qf1_10, .ref qf1_11, .ref qf1_12, .ref qf1_13, .ref qf1_14, .ref qf1_15, .ref qf1_16, .ref qf1_17, .ref qf1_18, .ref qf1_19, .int v1_20])), (qf1_8, .inl (cf1_8, 96, .inl f1_8))]) (w1 := [(h0, .inr (6, [.ref qf0, .ref qf1, .ref qf2, .ref qf3, .int u5_3, .int u5_4, .ref qf6, .int v7])), (qf2, .inl (cf2, 201, .inl g905_1)), (qf3, .inl (cf3, 201, .inl g905_2))]) hP hD [2, 3, 4] [0, 1, 5, 6] rfl rfl (by decide) (by decide) hk1 hFc hP1 hD1
  clear hP hD
  obtain ⟨hP, hD⟩ := hPD
  replace hK := (hK.sub (tys' := [(cf1_18, .int), (cf1_6, .int), (cf1_8, .int)]) [0, 1, 4] rfl).app hK1
  clear hPc hDc hKc hFc hP1 hK1 hD1 hz1 hk1 ht hvm
  generalize H1 = H at hP hS ⊢
  replace hP : va_P (dC, dI) vwCl [(qf1_18, .inl (cf1_18, 32, .inl f1_18)), (qf1_6, .inl (cf1_6, 96, .inl f1_6)), (qf1, .inr (2, [.ref qf1_0, .ref qf1_1, .int v1_2, .ref qf1_3, .ref qf1_4, .ref qf1_5, .ref qf1_6, .ref qf1_7, .ref qf1_8, .ref qf1_9, .ref qf1_10, .ref qf1_11, .ref qf1_12, .ref qf1_13, .ref qf1_14, .ref qf1_15, .ref qf1_16, .ref qf1_17, .ref qf1_18, .ref qf1_19, .int v1_20])), (qf1_8, .inl (cf1_8, 96, .inl f1_8)), (h0, .inr (6, [.ref qf0, .ref qf1, .ref qf2, .ref qf3, .int u5_3, .int u5_4, .ref qf6, .int v7])), (qf2, .inl (cf2, 201, .inl g905_1)), (qf3, .inl (cf3, 201, .inl g905_2))] H := hP
  replace hD : va_D A [(qf1_18, .inl (cf1_18, 32, .inl f1_18)), (qf1_6, .inl (cf1_6, 96, .inl f1_6)), (qf1, .inr (2, [.ref qf1_0, .ref qf1_1, .int v1_2, .ref qf1_3, .ref qf1_4, .ref qf1_5, .ref qf1_6, .ref qf1_7, .ref qf1_8, .ref qf1_9, .ref qf1_10, .ref qf1_11, .ref qf1_12, .ref qf1_13, .ref qf1_14, .ref qf1_15, .ref qf1_16, .ref qf1_17, .ref qf1_18, .ref qf1_19, .int v1_20])), (qf1_8, .inl (cf1_8, 96, .inl f1_8)), (h0, .inr (6, [.ref qf0, .ref qf1, .ref qf2, .ref qf3, .int u5_3, .int u5_4, .ref qf6, .int v7])), (qf2, .inl (cf2, 201, .inl g905_1)), (qf3, .inl (cf3, 201, .inl g905_2))] := hD
  replace hK : va_K (dC, dI) vwCl [(cf1_18, .int), (cf1_6, .int), (cf1_8, .int), (cf2, .int), (cf3, .int)] s := hK
  obtain rfl := hw
  refine lv_ior hx hb dX6_fieldOf_46 ?_
  obtain ⟨⟨u6_0, g906_1, g906_2, u6_3, u6_4⟩, hu_6, hsp⟩ := ox_bind hsp
  try dsimp only at hsp
  have hPc := hP.sub (ws' := [(h0, .inr (6, [.ref qf0, .ref qf1, .ref qf2, .ref qf3, .int u5_3, .int u5_4, .ref qf6, .int v7])), (qf2, .inl (cf2, 201, .inl g905_1)), (qf3, .inl (cf3, 201, .inl g905_2))]) [4, 5, 6] rfl
  have hDc := hD.sub (ws' := [(h0, .inr (6, [.ref qf0, .ref qf1, .ref qf2, .ref qf3, .int u5_3, .int u5_4, .ref qf6, .int v7])), (qf2, .inl (cf2, 201, .inl g905_1)), (qf3, .inl (cf3, 201, .inl g905_2))]) [4, 5, 6] (by decide) rfl
  have hKc := hK.sub (tys' := [(cf2, .int), (cf3, .int)]) [3, 4] rfl
  have hFc := va_free (wc := [(h0, .inr (6, [.ref qf0, .ref qf1, .ref qf2, .ref qf3, .int u5_3, .int u5_4, .ref qf6, .int v7])), (qf2, .inl (cf2, 201, .inl g905_1)), (qf3, .inl (cf3, 201, .inl g905_2))]) hD hS hA [4, 5, 6] rfl
  refine va_calli (va_runV (As := [.int 4, .int (((u1_0 <<< (16 &&& 31)) ||| (u3_0 <<< (8 &&& 31))) ||| u5_0)]) (rest := []) ⟨hx, hb, hml, hown, hts⟩ (t6_constant l dC dI H.size h0 4 ((((u1_0 <<< (16 &&& 31)) ||| (u3_0 <<< (8 &&& 31))) ||| u5_0)) qf0 qf1 qf2 qf3 u5_3 u5_4 qf6 v7 cf2 g905_1 cf3 g905_2 nf u6_0 g906_1 g906_2 u6_3 u6_4 hu_6) (cwV 2 hts gv_h4_13 rfl rfl rfl (by decide +kernel) ⟨Nat.le_of_ble_eq_true rfl, Nat.le_of_ble_eq_true rfl⟩) ⟨fun a U g mk q => by obtain ⟨q0, q1, qP, qK, qD⟩ := q; exact ⟨q0, q1, qP, va_K.moved (u := U) (U := U.calling g mk a) (Vm.Alike.refl U.vm) qK, qD⟩, va_recv hKc hPc (ci := 6) (q0 := 0) rfl rfl, fun U hU hW => ⟨rfl, by rw [hU], by rw [hU]; exact hPc, va_K.moved hW.alike hKc, hDc.weaken (fun _ _ _ _ => trivial)⟩⟩ rfl rfl hl.1 rfl (lv_room (Nat.le_of_ble_eq_true rfl)) dX6_fieldOf_47 ⟨Nat.le_of_ble_eq_true rfl, Nat.le_of_ble_eq_true rfl⟩) hS (fun q _ h => hFc q h) hFc ?_
  clear hS
  intro r_6 u t H1 locs ht hvm hw hB hz1 hk1 hS
  obtain ⟨⟩ := u
  obtain ⟨hP1, hK1, hD1⟩ := hB
  rw [ht] at hP1
  have hK1 := va_K.moved hvm.symm hK1
  try dsimp only at hw
  have hPD := va_join (wr := [(qf1_18, .inl (cf1_18, 32, .inl f1_18)), (qf1_6, .inl (cf1_6, 96, .inl f1_6)), (qf1, .inr (2, [.ref qf1_0, .ref qf1_1, .int v1_2, .ref qf1_3, .ref qf1_4, .ref qf1_5, .ref qf1_6, .ref qf1_7, .ref qf1_8, .ref qf1_9, .ref qf1_10, .ref qf1_11, .ref qf1_12, .ref qf1_13, .ref qf1_14, .ref qf1_15, .ref qf1_16, .ref qf1_17, .ref qf1_18, .ref qf1_19, .int v1_20])), (qf1_8, .inl (cf1_8, 96, .inl f1_8))]) (w1 := [(h0, .inr (6, [.ref qf0, .ref qf1, .ref qf2, .ref qf3, .int u6_3, .int u6_4, .ref qf6, .int v7])), (qf2, .inl (cf2, 201, .inl g906_1)), (qf3, .inl (cf3, 201, .inl g906_2))]) hP hD [4, 5, 6] [0, 1, 2, 3] rfl rfl (by decide) (by decide) hk1 hFc hP1 hD1
  clear hP hD
  obtain ⟨hP, hD⟩ := hPD
  replace hK := (hK.sub (tys' := [(cf1_18, .int), (cf1_6, .int), (cf1_8, .int)]) [0, 1, 2] rfl).app hK1
  clear hPc hDc hKc hFc hP1 hK1 hD1 hz1 hk1 ht hvm
  generalize H1 = H at hP hS ⊢
  replace hP : va_P (dC, dI) vwCl [(qf1_18, .inl (cf1_18, 32, .inl f1_18)), (qf1_6, .inl (cf1_6, 96, .inl f1_6)), (qf1, .inr (2, [.ref qf1_0, .ref qf1_1, .int v1_2, .ref qf1_3, .ref qf1_4, .ref qf1_5, .ref qf1_6, .ref qf1_7, .ref qf1_8, .ref qf1_9, .ref qf1_10, .ref qf1_11, .ref qf1_12, .ref qf1_13, .ref qf1_14, .ref qf1_15, .ref qf1_16, .ref qf1_17, .ref qf1_18, .ref qf1_19, .int v1_20])), (qf1_8, .inl (cf1_8, 96, .inl f1_8)), (h0, .inr (6, [.ref qf0, .ref qf1, .ref qf2, .ref qf3, .int u6_3, .int u6_4, .ref qf6, .int v7])), (qf2, .inl (cf2, 201, .inl g906_1)), (qf3, .inl (cf3, 201, .inl g906_2))] H := hP
  replace hD : va_D A [(qf1_18, .inl (cf1_18, 32, .inl f1_18)), (qf1_6, .inl (cf1_6, 96, .inl f1_6)), (qf1, .inr (2, [.ref qf1_0, .ref qf1_1, .int v1_2, .ref qf1_3, .ref qf1_4, .ref qf1_5, .ref qf1_6, .ref qf1_7, .ref qf1_8, .ref qf1_9, .ref qf1_10, .ref qf1_11, .ref qf1_12, .ref qf1_13, .ref qf1_14, .ref qf1_15, .ref qf1_16, .ref qf1_17, .ref qf1_18, .ref qf1_19, .int v1_20])), (qf1_8, .inl (cf1_8, 96, .inl f1_8)), (h0, .inr (6, [.ref qf0, .ref qf1, .ref qf2, .ref qf3, .int u6_3, .int u6_4, .ref qf6, .int v7])), (qf2, .inl (cf2, 201, .inl g906_1)), (qf3, .inl (cf3, 201, .inl g906_2))] := hD
  replace hK : va_K (dC, dI) vwCl [(cf1_18, .int), (cf1_6, .int), (cf1_8, .int), (cf2, .int), (cf3, .int)] s := hK
  obtain rfl := hw
  have hr0 := Option.some.inj hsp
  clear hsp
  obtain ⟨hq0, hr1⟩ := Prod.mk.inj hr0
  clear hr0
  obtain ⟨hq1, hr2⟩ := Prod.mk.inj hr1
  clear hr1
  obtain ⟨hq2, hr3⟩ := Prod.mk.inj hr2
  clear hr2
  obtain ⟨hq3, hr4⟩ := Prod.mk.inj hr3
  clear hr3
  subst hq0
  subst hq1
  subst hq2
  subst hq3
  subst hr4
  have hP9 := hP.sub (ws' := [(h0, .inr (6, [.ref qf0, .ref qf1, .ref qf2, .ref qf3, .int u6_3, .int u6_4, .ref qf6, .int v7])), (qf1, .inr (2, [.ref qf1_0, .ref qf1_1, .int v1_2, .ref qf1_3, .ref qf1_4, .ref qf1_5, .ref qf1_6, .ref qf1_7, .ref qf1_8, .ref qf1_9, .ref qf1_10, .ref qf1_11, .ref qf1_12, .ref qf1_13, .ref qf1_14, .ref qf1_15, .ref qf1_16, .ref qf1_17, .ref qf1_18, .ref qf1_19, .int v1_20])), (qf1_18, .inl (cf1_18, 32, .inl f1_18)), (qf2, .inl (cf2, 201, .inl g906_1)), (qf3, .inl (cf3, 201, .inl g906_2)), (qf1_6, .inl (cf1_6, 96, .inl f1_6)), (qf1_8, .inl (cf1_8, 96, .inl f1_8))]) [4, 2, 0, 5, 6, 1, 3] rfl
  have hD9 := hD.sub (ws' := [(h0, .inr (6, [.ref qf0, .ref qf1, .ref qf2, .ref qf3, .int u6_3, .int u6_4, .ref qf6, .int v7])), (qf1, .inr (2, [.ref qf1_0, .ref qf1_1, .int v1_2, .ref qf1_3, .ref qf1_4, .ref qf1_5, .ref qf1_6, .ref qf1_7, .ref qf1_8, .ref qf1_9, .ref qf1_10, .ref qf1_11, .ref qf1_12, .ref qf1_13, .ref qf1_14, .ref qf1_15, .ref qf1_16, .ref qf1_17, .ref qf1_18, .ref qf1_19, .int v1_20])), (qf1_18, .inl (cf1_18, 32, .inl f1_18)), (qf2, .inl (cf2, 201, .inl g906_1)), (qf3, .inl (cf3, 201, .inl g906_2)), (qf1_6, .inl (cf1_6, 96, .inl f1_6)), (qf1_8, .inl (cf1_8, 96, .inl f1_8))]) [4, 2, 0, 5, 6, 1, 3] (by decide) rfl
  have hK9 := hK.sub (tys' := [(cf1_18, .int), (cf2, .int), (cf3, .int), (cf1_6, .int), (cf1_8, .int)]) [0, 3, 4, 1, 2] rfl
  exact W.iret hx hb hr (fun t ht hW => ⟨⟨(u6_0), (), rfl, rfl, by rw [ht]; exact hP9, va_K.moved hW.alike hK9, hD9⟩, hS.F ht⟩) hS.2.2 dX6_fieldOf_50
def sp_t6_methodOf (nf : Nat) (a1 : Int32) (a2 : Int32) (v4 : Int32) (v5 : Int32) (f1_18 : Nat → Int32) (f2 : Nat → Int32) (f3 : Nat → Int32) (f1_10 : Nat → Int32) (f1_9 : Nat → Int32) (v1_0_3 : Int32) (f1_0_2 : Nat → Int32) (f1_14 : Nat → Int32) : Option (Int32 × (Nat → Int32) × (Nat → Int32) × Int32 × Int32) := ((sp_t6_classOf nf a1 v4 v5 f1_18 f2 f3).bind (fun p1 => ((sp_t2_nameOfMethod nf a2 f1_10 f1_9 v1_0_3 f1_0_2).bind (fun p2 => ((sp_t6_constant nf 1 p2 p1.2.2.2.1 p1.2.2.2.2 p1.2.1 p1.2.2.1).bind (fun p3 => ((sp_t2_kindOfMethod nf a2 f1_14).bind (fun p4 => ((sp_t6_constant nf 1 p4 p3.2.2.2.1 p3.2.2.2.2 p3.2.1 p3.2.2.1).bind (fun p5 => ((sp_t6_constant nf 4 (((p1.1 <<< (16 &&& 31)) ||| (p3.1 <<< (8 &&& 31))) ||| p5.1) p5.2.2.2.1 p5.2.2.2.2 p5.2.1 p5.2.2.1).bind (fun p6 => (some (p6.1, p6.2.1, p6.2.2.1, p6.2.2.2.1, p6.2.2.2.2))))))))))))))
set_option maxHeartbeats 4000000 in
set_option maxRecDepth 100000 in
/-- ClassMill$Pool.methodOf -/
theorem t6_methodOf (l : Launch) (dC : Nat → ClassId) (dI : Nat → Nat → Nat) (sz : Nat) (h0 : Nat) (a1 : Int32) (a2 : Int32) (qf0 : Nat) (qf1 : Nat) (qf2 : Nat) (qf3 : Nat) (v4 : Int32) (v5 : Int32) (qf6 : Nat) (v7 : Int32) (qf1_0 : Nat) (qf1_1 : Nat) (v1_2 : Int32) (qf1_3 : Nat) (qf1_4 : Nat) (qf1_5 : Nat) (qf1_6 : Nat) (qf1_7 : Nat) (qf1_8 : Nat) (qf1_9 : Nat) (qf1_10 : Nat) (qf1_11 : Nat) (qf1_12 : Nat) (qf1_13 : Nat) (qf1_14 : Nat) (qf1_15 : Nat) (qf1_16 : Nat) (qf1_17 : Nat) (qf1_18 : Nat) (qf1_19 : Nat) (v1_20 : Int32) (cf1_18 : ClassId) (f1_18 : (Nat → Int32)) (cf2 : ClassId) (f2 : (Nat → Int32)) (cf3 : ClassId) (f3 : (Nat → Int32)) (cf1_10 : ClassId) (f1_10 : (Nat → Int32)) (cf1_9 : ClassId) (f1_9 : (Nat → Int32)) (qf1_0_0 : Nat) (qf1_0_1 : Nat) (qf1_0_2 : Nat) (v1_0_3 : Int32) (qf1_0_4 : Nat) (qf1_0_5 : Nat) (qf1_0_6 : Nat) (qf1_0_7 : Nat) (qf1_0_8 : Nat) (v1_0_9 : Int32) (v1_0_10 : Int32) (v1_0_11 : Int32) (v1_0_12 : Int32) (cf1_0_2 : ClassId) (f1_0_2 : (Nat → Int32)) (cf1_14 : ClassId) (f1_14 : (Nat → Int32)) (nf : Nat) (r0 : Int32) (o2 : (Nat → Int32)) (o3 : (Nat → Int32)) (w4 : Int32) (w5 : Int32) (hsp : sp_t6_methodOf nf a1 a2 v4 v5 f1_18 f2 f3 f1_10 f1_9 v1_0_3 f1_0_2 f1_14 = some (r0, o2, o3, w4, w5)) : Met l yX6_methodOf (.code yX6_methodOf cX6_methodOf 5 (some .int) :: VS_h4) ({ frames := 2, cells := 0, slots := 0, locals := 44 }) (va_Pc [.ref h0, .int a1, .int a2] (fun U => U.heap.size = sz ∧ va_P (dC, dI) vwCl [(h0, .inr (6, [.ref qf0, .ref qf1, .ref qf2, .ref qf3, .int v4, .int v5, .ref qf6, .int v7])), (qf1, .inr (2, [.ref qf1_0, .ref qf1_1, .int v1_2, .ref qf1_3, .ref qf1_4, .ref qf1_5, .ref qf1_6, .ref qf1_7, .ref qf1_8, .ref qf1_9, .ref qf1_10, .ref qf1_11, .ref qf1_12, .ref qf1_13, .ref qf1_14, .ref qf1_15, .ref qf1_16, .ref qf1_17, .ref qf1_18, .ref qf1_19, .int v1_20])), (qf1_18, .inl (cf1_18, 32, .inl f1_18)), (qf2, .inl (cf2, 201, .inl f2)), (qf3, .inl (cf3, 201, .inl f3)), (qf1_10, .inl (cf1_10, 96, .inl f1_10)), (qf1_9, .inl (cf1_9, 8, .inl f1_9)), (qf1_0, .inr (9, [.ref qf1_0_0, .ref qf1_0_1, .ref qf1_0_2, .int v1_0_3, .ref qf1_0_4, .ref qf1_0_5, .ref qf1_0_6, .ref qf1_0_7, .ref qf1_0_8, .int v1_0_9, .int v1_0_10, .int v1_0_11, .int v1_0_12])), (qf1_0_2, .inl (cf1_0_2, 3001, .inl f1_0_2)), (qf1_14, .inl (cf1_14, 96, .inl f1_14))] U.heap ∧ va_K (dC, dI) vwCl [(cf1_18, .int), (cf2, .int), (cf3, .int), (cf1_10, .int), (cf1_9, .int), (cf1_0_2, .int), (cf1_14, .int)] U ∧ va_D (fun _ => True) [(h0, .inr (6, [.ref qf0, .ref qf1, .ref qf2, .ref qf3, .int v4, .int v5, .ref qf6, .int v7])), (qf1, .inr (2, [.ref qf1_0, .ref qf1_1, .int v1_2, .ref qf1_3, .ref qf1_4, .ref qf1_5, .ref qf1_6, .ref qf1_7, .ref qf1_8, .ref qf1_9, .ref qf1_10, .ref qf1_11, .ref qf1_12, .ref qf1_13, .ref qf1_14, .ref qf1_15, .ref qf1_16, .ref qf1_17, .ref qf1_18, .ref qf1_19, .int v1_20])), (qf1_18, .inl (cf1_18, 32, .inl f1_18)), (qf2, .inl (cf2, 201, .inl f2)), (qf3, .inl (cf3, 201, .inl f3)), (qf1_10, .inl (cf1_10, 96, .inl f1_10)), (qf1_9, .inl (cf1_9, 8, .inl f1_9)), (qf1_0, .inr (9, [.ref qf1_0_0, .ref qf1_0_1, .ref qf1_0_2, .int v1_0_3, .ref qf1_0_4, .ref qf1_0_5, .ref qf1_0_6, .ref qf1_0_7, .ref qf1_0_8, .int v1_0_9, .int v1_0_10, .int v1_0_11, .int v1_0_12])), (qf1_0_2, .inl (cf1_0_2, 3001, .inl f1_0_2)), (qf1_14, .inl (cf1_14, 96, .inl f1_14))])) (va_Qi (fun (r : Int32) (u : Unit) => match u with | () => r0 = r) (fun (u : Unit) (t : State) => match u with | () => va_P (dC, dI) vwCl [(h0, .inr (6, [.ref qf0, .ref qf1, .ref qf2, .ref qf3, .int w4, .int w5, .ref qf6, .int v7])), (qf1, .inr (2, [.ref qf1_0, .ref qf1_1, .int v1_2, .ref qf1_3, .ref qf1_4, .ref qf1_5, .ref qf1_6, .ref qf1_7, .ref qf1_8, .ref qf1_9, .ref qf1_10, .ref qf1_11, .ref qf1_12, .ref qf1_13, .ref qf1_14, .ref qf1_15, .ref qf1_16, .ref qf1_17, .ref qf1_18, .ref qf1_19, .int v1_20])), (qf1_18, .inl (cf1_18, 32, .inl f1_18)), (qf2, .inl (cf2, 201, .inl o2)), (qf3, .inl (cf3, 201, .inl o3)), (qf1_10, .inl (cf1_10, 96, .inl f1_10)), (qf1_9, .inl (cf1_9, 8, .inl f1_9)), (qf1_0, .inr (9, [.ref qf1_0_0, .ref qf1_0_1, .ref qf1_0_2, .int v1_0_3, .ref qf1_0_4, .ref qf1_0_5, .ref qf1_0_6, .ref qf1_0_7, .ref qf1_0_8, .int v1_0_9, .int v1_0_10, .int v1_0_11, .int v1_0_12])), (qf1_0_2, .inl (cf1_0_2, 3001, .inl f1_0_2)), (qf1_14, .inl (cf1_14, 96, .inl f1_14))] t.heap ∧ va_K (dC, dI) vwCl [(cf1_18, .int), (cf2, .int), (cf3, .int), (cf1_10, .int), (cf1_9, .int), (cf1_0_2, .int), (cf1_14, .int)] t ∧ va_D (va_A [(h0, .inr (6, [.ref qf0, .ref qf1, .ref qf2, .ref qf3, .int v4, .int v5, .ref qf6, .int v7])), (qf1, .inr (2, [.ref qf1_0, .ref qf1_1, .int v1_2, .ref qf1_3, .ref qf1_4, .ref qf1_5, .ref qf1_6, .ref qf1_7, .ref qf1_8, .ref qf1_9, .ref qf1_10, .ref qf1_11, .ref qf1_12, .ref qf1_13, .ref qf1_14, .ref qf1_15, .ref qf1_16, .ref qf1_17, .ref qf1_18, .ref qf1_19, .int v1_20])), (qf1_18, .inl (cf1_18, 32, .inl f1_18)), (qf2, .inl (cf2, 201, .inl f2)), (qf3, .inl (cf3, 201, .inl f3)), (qf1_10, .inl (cf1_10, 96, .inl f1_10)), (qf1_9, .inl (cf1_9, 8, .inl f1_9)), (qf1_0, .inr (9, [.ref qf1_0_0, .ref qf1_0_1, .ref qf1_0_2, .int v1_0_3, .ref qf1_0_4, .ref qf1_0_5, .ref qf1_0_6, .ref qf1_0_7, .ref qf1_0_8, .int v1_0_9, .int v1_0_10, .int v1_0_11, .int v1_0_12])), (qf1_0_2, .inl (cf1_0_2, 3001, .inl f1_0_2)), (qf1_14, .inl (cf1_14, 96, .inl f1_14))] sz) [(h0, .inr (6, [.ref qf0, .ref qf1, .ref qf2, .ref qf3, .int w4, .int w5, .ref qf6, .int v7])), (qf1, .inr (2, [.ref qf1_0, .ref qf1_1, .int v1_2, .ref qf1_3, .ref qf1_4, .ref qf1_5, .ref qf1_6, .ref qf1_7, .ref qf1_8, .ref qf1_9, .ref qf1_10, .ref qf1_11, .ref qf1_12, .ref qf1_13, .ref qf1_14, .ref qf1_15, .ref qf1_16, .ref qf1_17, .ref qf1_18, .ref qf1_19, .int v1_20])), (qf1_18, .inl (cf1_18, 32, .inl f1_18)), (qf2, .inl (cf2, 201, .inl o2)), (qf3, .inl (cf3, 201, .inl o3)), (qf1_10, .inl (cf1_10, 96, .inl f1_10)), (qf1_9, .inl (cf1_9, 8, .inl f1_9)), (qf1_0, .inr (9, [.ref qf1_0_0, .ref qf1_0_1, .ref qf1_0_2, .int v1_0_3, .ref qf1_0_4, .ref qf1_0_5, .ref qf1_0_6, .ref qf1_0_7, .ref qf1_0_8, .int v1_0_9, .int v1_0_10, .int v1_0_11, .int v1_0_12])), (qf1_0_2, .inl (cf1_0_2, 3001, .inl f1_0_2)), (qf1_14, .inl (cf1_14, 96, .inl f1_14))]) (va_A [(h0, .inr (6, [.ref qf0, .ref qf1, .ref qf2, .ref qf3, .int v4, .int v5, .ref qf6, .int v7])), (qf1, .inr (2, [.ref qf1_0, .ref qf1_1, .int v1_2, .ref qf1_3, .ref qf1_4, .ref qf1_5, .ref qf1_6, .ref qf1_7, .ref qf1_8, .ref qf1_9, .ref qf1_10, .ref qf1_11, .ref qf1_12, .ref qf1_13, .ref qf1_14, .ref qf1_15, .ref qf1_16, .ref qf1_17, .ref qf1_18, .ref qf1_19, .int v1_20])), (qf1_18, .inl (cf1_18, 32, .inl f1_18)), (qf2, .inl (cf2, 201, .inl f2)), (qf3, .inl (cf3, 201, .inl f3)), (qf1_10, .inl (cf1_10, 96, .inl f1_10)), (qf1_9, .inl (cf1_9, 8, .inl f1_9)), (qf1_0, .inr (9, [.ref qf1_0_0, .ref qf1_0_1, .ref qf1_0_2, .int v1_0_3, .ref qf1_0_4, .ref qf1_0_5, .ref qf1_0_6, .ref qf1_0_7, .ref qf1_0_8, .int v1_0_9, .int v1_0_10, .int v1_0_11, .int v1_0_12])), (qf1_0_2, .inl (cf1_0_2, 3001, .inl f1_0_2)), (qf1_14, .inl (cf1_14, 96, .inl f1_14))] sz)) 0 0 (va_A [(h0, .inr (6, [.ref qf0, .ref qf1, .ref qf2, .ref qf3, .int v4, .int v5, .ref qf6, .int v7])), (qf1, .inr (2, [.ref qf1_0, .ref qf1_1, .int v1_2, .ref qf1_3, .ref qf1_4, .ref qf1_5, .ref qf1_6, .ref qf1_7, .ref qf1_8, .ref qf1_9, .ref qf1_10, .ref qf1_11, .ref qf1_12, .ref qf1_13, .ref qf1_14, .ref qf1_15, .ref qf1_16, .ref qf1_17, .ref qf1_18, .ref qf1_19, .int v1_20])), (qf1_18, .inl (cf1_18, 32, .inl f1_18)), (qf2, .inl (cf2, 201, .inl f2)), (qf3, .inl (cf3, 201, .inl f3)), (qf1_10, .inl (cf1_10, 96, .inl f1_10)), (qf1_9, .inl (cf1_9, 8, .inl f1_9)), (qf1_0, .inr (9, [.ref qf1_0_0, .ref qf1_0_1, .ref qf1_0_2, .int v1_0_3, .ref qf1_0_4, .ref qf1_0_5, .ref qf1_0_6, .ref qf1_0_7, .ref qf1_0_8, .int v1_0_9, .int v1_0_10, .int v1_0_11, .int v1_0_12])), (qf1_0_2, .inl (cf1_0_2, 3001, .inl f1_0_2)), (qf1_14, .inl (cf1_14, 96, .inl f1_14))] sz) := by
  refine Met.ofW (cc := cX6_methodOf) (maxL := 5) (ret := (some .int)) (by decide) rfl ?_
  intro p e s m args below meth c s₁ B hml hv
  obtain ⟨rfl, hsz, hP, hK, hD0⟩ := hv
  have hx := B.exec
  have hb := B.bytes
  have hr := B.returns
  have hts := atoms_spec (ws := (.code yX6_methodOf cX6_methodOf 5 (some .int) :: VS_h4)) B.pre
  replace hts := fun w (h : w ∈ VS_h4) => hts w (List.mem_cons_of_mem _ h)
  have hown : s.vm.findClass RX6 = some m.cls := findClass_of_methodNamed B.named
  have hlocks := B.notSynchronized
  subst hsz
  have hD := hD0.self (sz := s.heap.size)
  generalize hAe : va_A [(h0, .inr (6, [.ref qf0, .ref qf1, .ref qf2, .ref qf3, .int v4, .int v5, .ref qf6, .int v7])), (qf1, .inr (2, [.ref qf1_0, .ref qf1_1, .int v1_2, .ref qf1_3, .ref qf1_4, .ref qf1_5, .ref qf1_6, .ref qf1_7, .ref qf1_8, .ref qf1_9, .ref qf1_10, .ref qf1_11, .ref qf1_12, .ref qf1_13, .ref qf1_14, .ref qf1_15, .ref qf1_16, .ref qf1_17, .ref qf1_18, .ref qf1_19, .int v1_20])), (qf1_18, .inl (cf1_18, 32, .inl f1_18)), (qf2, .inl (cf2, 201, .inl f2)), (qf3, .inl (cf3, 201, .inl f3)), (qf1_10, .inl (cf1_10, 96, .inl f1_10)), (qf1_9, .inl (cf1_9, 8, .inl f1_9)), (qf1_0, .inr (9, [.ref qf1_0_0, .ref qf1_0_1, .ref qf1_0_2, .int v1_0_3, .ref qf1_0_4, .ref qf1_0_5, .ref qf1_0_6, .ref qf1_0_7, .ref qf1_0_8, .int v1_0_9, .int v1_0_10, .int v1_0_11, .int v1_0_12])), (qf1_0_2, .inl (cf1_0_2, 3001, .inl f1_0_2)), (qf1_14, .inl (cf1_14, 96, .inl f1_14))] s.heap.size = A at hD  ⊢
  have hA : ∀ q : Nat, s.heap.size ≤ q → A q := fun q h => by rw [← hAe]; exact Or.inr h
  have hP : va_P (dC, dI) vwCl [(h0, .inr (6, [.ref qf0, .ref qf1, .ref qf2, .ref qf3, .int v4, .int v5, .ref qf6, .int v7])), (qf1, .inr (2, [.ref qf1_0, .ref qf1_1, .int v1_2, .ref qf1_3, .ref qf1_4, .ref qf1_5, .ref qf1_6, .ref qf1_7, .ref qf1_8, .ref qf1_9, .ref qf1_10, .ref qf1_11, .ref qf1_12, .ref qf1_13, .ref qf1_14, .ref qf1_15, .ref qf1_16, .ref qf1_17, .ref qf1_18, .ref qf1_19, .int v1_20])), (qf1_18, .inl (cf1_18, 32, .inl f1_18)), (qf2, .inl (cf2, 201, .inl f2)), (qf3, .inl (cf3, 201, .inl f3)), (qf1_10, .inl (cf1_10, 96, .inl f1_10)), (qf1_9, .inl (cf1_9, 8, .inl f1_9)), (qf1_0, .inr (9, [.ref qf1_0_0, .ref qf1_0_1, .ref qf1_0_2, .int v1_0_3, .ref qf1_0_4, .ref qf1_0_5, .ref qf1_0_6, .ref qf1_0_7, .ref qf1_0_8, .int v1_0_9, .int v1_0_10, .int v1_0_11, .int v1_0_12])), (qf1_0_2, .inl (cf1_0_2, 3001, .inl f1_0_2)), (qf1_14, .inl (cf1_14, 96, .inl f1_14))] s.heap := hP
  have hl := lv_entry ([.ref h0, .int a1, .int a2]) (n := 5) (Nat.le_of_ble_eq_true rfl)
  rw [lg_entry_eq]
  generalize (lg_sl ([.ref h0, .int a1, .int a2]) ++ List.replicate (5 - (lg_sl ([.ref h0, .int a1, .int a2])).length) Slot.unset).toArray = ls at hl ⊢
  have hl : lv_has ls 5 [(0, .ref h0), (1, .int a1), (2, .int a2)] := hl
  obtain ⟨H, hH⟩ : ∃ H : Heap, s.heap = H := ⟨_, rfl⟩
  rw [hH] at hP ⊢
  have hS : va_S A s.heap H [] := by rw [← hH]; exact va_S.rf
  obtain ⟨locs, hlo⟩ : ∃ locs : List Loc, locs = [] := ⟨_, rfl⟩
  rw [← hlo] at hS ⊢
  unfold sp_t6_methodOf at hsp
  refine lv_aload_n hx hb dX6_methodOf_0 rfl (lv_at hl 0 rfl) ?_
  refine lv_iload_n hx hb dX6_methodOf_1 rfl (lv_at hl 1 rfl) ?_
  obtain ⟨⟨u1_0, g901_1, g901_2, u1_3, u1_4⟩, hu_1, hsp⟩ := ox_bind hsp
  try dsimp only at hsp
  have hPc := hP.sub (ws' := [(h0, .inr (6, [.ref qf0, .ref qf1, .ref qf2, .ref qf3, .int v4, .int v5, .ref qf6, .int v7])), (qf1, .inr (2, [.ref qf1_0, .ref qf1_1, .int v1_2, .ref qf1_3, .ref qf1_4, .ref qf1_5, .ref qf1_6, .ref qf1_7, .ref qf1_8, .ref qf1_9, .ref qf1_10, .ref qf1_11, .ref qf1_12, .ref qf1_13, .ref qf1_14, .ref qf1_15, .ref qf1_16, .ref qf1_17, .ref qf1_18, .ref qf1_19, .int v1_20])), (qf1_18, .inl (cf1_18, 32, .inl f1_18)), (qf2, .inl (cf2, 201, .inl f2)), (qf3, .inl (cf3, 201, .inl f3))]) [0, 1, 2, 3, 4] rfl
  have hDc := hD.sub (ws' := [(h0, .inr (6, [.ref qf0, .ref qf1, .ref qf2, .ref qf3, .int v4, .int v5, .ref qf6, .int v7])), (qf1, .inr (2, [.ref qf1_0, .ref qf1_1, .int v1_2, .ref qf1_3, .ref qf1_4, .ref qf1_5, .ref qf1_6, .ref qf1_7, .ref qf1_8, .ref qf1_9, .ref qf1_10, .ref qf1_11, .ref qf1_12, .ref qf1_13, .ref qf1_14, .ref qf1_15, .ref qf1_16, .ref qf1_17, .ref qf1_18, .ref qf1_19, .int v1_20])), (qf1_18, .inl (cf1_18, 32, .inl f1_18)), (qf2, .inl (cf2, 201, .inl f2)), (qf3, .inl (cf3, 201, .inl f3))]) [0, 1, 2, 3, 4] (by decide) rfl
  have hKc := hK.sub (tys' := [(cf1_18, .int), (cf2, .int), (cf3, .int)]) [0, 1, 2] rfl
  have hFc := va_free (wc := [(h0, .inr (6, [.ref qf0, .ref qf1, .ref qf2, .ref qf3, .int v4, .int v5, .ref qf6, .int v7])), (qf1, .inr (2, [.ref qf1_0, .ref qf1_1, .int v1_2, .ref qf1_3, .ref qf1_4, .ref qf1_5, .ref qf1_6, .ref qf1_7, .ref qf1_8, .ref qf1_9, .ref qf1_10, .ref qf1_11, .ref qf1_12, .ref qf1_13, .ref qf1_14, .ref qf1_15, .ref qf1_16, .ref qf1_17, .ref qf1_18, .ref qf1_19, .int v1_20])), (qf1_18, .inl (cf1_18, 32, .inl f1_18)), (qf2, .inl (cf2, 201, .inl f2)), (qf3, .inl (cf3, 201, .inl f3))]) hD hS hA [0, 1, 2, 3, 4] rfl
  refine va_calli (va_runV (As := [.int a1]) (rest := []) ⟨hx, hb, hml, hown, hts⟩ (t6_classOf l dC dI H.size h0 a1 qf0 qf1 qf2 qf3 v4 v5 qf6 v7 qf1_0 qf1_1 v1_2 qf1_3 qf1_4 qf1_5 qf1_6 qf1_7 qf1_8 qf1_9 qf1_10 qf1_11 qf1_12 qf1_13 qf1_14 qf1_15 qf1_16 qf1_17 qf1_18 qf1_19 v1_20 cf1_18 f1_18 cf2 f2 cf3 f3 nf u1_0 g901_1 g901_2 u1_3 u1_4 hu_1) (cwV 1 hts gv_h4_51 rfl rfl rfl (by decide +kernel) ⟨Nat.le_of_ble_eq_true rfl, Nat.le_of_ble_eq_true rfl⟩) ⟨fun a U g mk q => by obtain ⟨q0, q1, qP, qK, qD⟩ := q; exact ⟨q0, q1, qP, va_K.moved (u := U) (U := U.calling g mk a) (Vm.Alike.refl U.vm) qK, qD⟩, va_recv hKc hPc (ci := 6) (q0 := 0) rfl rfl, fun U hU hW => ⟨rfl, by rw [hU], by rw [hU]; exact hPc, va_K.moved hW.alike hKc, hDc.weaken (fun _ _ _ _ => trivial)⟩⟩ rfl rfl hl.1 rfl (lv_room (Nat.le_of_ble_eq_true rfl)) dX6_methodOf_2 ⟨Nat.le_of_ble_eq_true rfl, Nat.le_of_ble_eq_true rfl⟩) hS (fun q _ h => hFc q h) hFc ?_
  clear hS
  intro r_1 u t H1 locs ht hvm hw hB hz1 hk1 hS
  obtain ⟨⟩ := u
  obtain ⟨hP1, hK1, hD1⟩ := hB
  rw [ht] at hP1
  have hK1 := va_K.moved hvm.symm hK1
  try dsimp only at hw
  have hPD := va_join (wr := [(qf1_10, .inl (cf1_10, 96, .inl f1_10)), (qf1_9, .inl (cf1_9, 8, .inl f1_9)), (qf1_0, .inr (9, [.ref qf1_0_0, .ref qf1_0_1, .ref qf1_0_2, .int v1_0_3, .ref qf1_0_4, .ref qf1_0_5, .ref qf1_0_6, .ref qf1_0_7, .ref qf1_0_8, .int v1_0_9, .int v1_0_10, .int v1_0_11, .int v1_0_12])), (qf1_0_2, .inl (cf1_0_2, 3001, .inl f1_0_2)), (qf1_14, .inl (cf1_14, 96, .inl f1_14))]) (w1 := [(h0, .inr (6, [.ref qf0, .ref qf1, .ref qf2, .ref qf3, .int u1_3, .int u1_4, .ref qf6, .int v7])), (qf1, .inr (2, [.ref qf1_0, .ref qf1_1, .int v1_2, .ref qf1_3, .ref qf1_4, .ref qf1_5, .ref qf1_6, .ref qf1_7, .ref qf1_8, .ref qf1_9, .ref qf1_10, .ref qf1_11, .ref qf1_12, .ref qf1_13, .ref qf1_14, .ref qf1_15, .ref qf1_16, .ref qf1_17, .ref qf1_18, .ref qf1_19, .int v1_20])), (qf1_18, .inl (cf1_18, 32, .inl f1_18)), (qf2, .inl (cf2, 201, .inl g901_1)), (qf3, .inl (cf3, 201, .inl g901_2))]) hP hD [0, 1, 2, 3, 4] [5, 6, 7, 8, 9] rfl rfl (by decide) (by decide) hk1 hFc hP1 hD1
  clear hP hD
  obtain ⟨hP, hD⟩ := hPD
  replace hK := (hK.sub (tys' := [(cf1_10, .int), (cf1_9, .int), (cf1_0_2, .int), (cf1_14, .int)]) [3, 4, 5, 6] rfl).app hK1
  clear hPc hDc hKc hFc hP1 hK1 hD1 hz1 hk1 ht hvm
  generalize H1 = H at hP hS ⊢
  replace hP : va_P (dC, dI) vwCl [(qf1_10, .inl (cf1_10, 96, .inl f1_10)), (qf1_9, .inl (cf1_9, 8, .inl f1_9)), (qf1_0, .inr (9, [.ref qf1_0_0, .ref qf1_0_1, .ref qf1_0_2, .int v1_0_3, .ref qf1_0_4, .ref qf1_0_5, .ref qf1_0_6, .ref qf1_0_7, .ref qf1_0_8, .int v1_0_9, .int v1_0_10, .int v1_0_11, .int v1_0_12])), (qf1_0_2, .inl (cf1_0_2, 3001, .inl f1_0_2)), (qf1_14, .inl (cf1_14, 96, .inl f1_14)), (h0, .inr (6, [.ref qf0, .ref qf1, .ref qf2, .ref qf3, .int u1_3, .int u1_4, .ref qf6, .int v7])), (qf1, .inr (2, [.ref qf1_0, .ref qf1_1, .int v1_2, .ref qf1_3, .ref qf1_4, .ref qf1_5, .ref qf1_6, .ref qf1_7, .ref qf1_8, .ref qf1_9, .ref qf1_10, .ref qf1_11, .ref qf1_12, .ref qf1_13, .ref qf1_14, .ref qf1_15, .ref qf1_16, .ref qf1_17, .ref qf1_18, .ref qf1_19, .int v1_20])), (qf1_18, .inl (cf1_18, 32, .inl f1_18)), (qf2, .inl (cf2, 201, .inl g901_1)), (qf3, .inl (cf3, 201, .inl g901_2))] H := hP
  replace hD : va_D A [(qf1_10, .inl (cf1_10, 96, .inl f1_10)), (qf1_9, .inl (cf1_9, 8, .inl f1_9)), (qf1_0, .inr (9, [.ref qf1_0_0, .ref qf1_0_1, .ref qf1_0_2, .int v1_0_3, .ref qf1_0_4, .ref qf1_0_5, .ref qf1_0_6, .ref qf1_0_7, .ref qf1_0_8, .int v1_0_9, .int v1_0_10, .int v1_0_11, .int v1_0_12])), (qf1_0_2, .inl (cf1_0_2, 3001, .inl f1_0_2)), (qf1_14, .inl (cf1_14, 96, .inl f1_14)), (h0, .inr (6, [.ref qf0, .ref qf1, .ref qf2, .ref qf3, .int u1_3, .int u1_4, .ref qf6, .int v7])), (qf1, .inr (2, [.ref qf1_0, .ref qf1_1, .int v1_2, .ref qf1_3, .ref qf1_4, .ref qf1_5, .ref qf1_6, .ref qf1_7, .ref qf1_8, .ref qf1_9, .ref qf1_10, .ref qf1_11, .ref qf1_12, .ref qf1_13, .ref qf1_14, .ref qf1_15, .ref qf1_16, .ref qf1_17, .ref qf1_18, .ref qf1_19, .int v1_20])), (qf1_18, .inl (cf1_18, 32, .inl f1_18)), (qf2, .inl (cf2, 201, .inl g901_1)), (qf3, .inl (cf3, 201, .inl g901_2))] := hD
  replace hK : va_K (dC, dI) vwCl [(cf1_10, .int), (cf1_9, .int), (cf1_0_2, .int), (cf1_14, .int), (cf1_18, .int), (cf2, .int), (cf3, .int)] s := hK
  obtain rfl := hw
  refine lv_istore_n (lv' := [(3, .int u1_0), (0, .ref h0), (1, .int a1), (2, .int a2)]) hx hb dX6_methodOf_5 rfl hl (by decide) rfl (fun ls hl => ?_)
  refine lv_aload_n hx hb dX6_methodOf_6 rfl (lv_at hl 1 rfl) ?_
  refine lv_iconst (v := 1) hx hb dX6_methodOf_7 (by decide) ?_
  refine lv_aload_n hx hb dX6_methodOf_8 rfl (lv_at hl 1 rfl) ?_
  refine va_get (D := (dC, dI)) (ci := 6) (v := .ref qf1) (C := RX6) (T := TX6) (N := 8) hx hb hts uV_h4_X6 hown hK hP 5 rfl rfl 1 (by decide) (hts (.fieldLink RX6 24 "ClassMill$Pool" "heads" "LClassMill$Heads;") mw_h4_240) (fun _ h9 => h9) rfl dX6_methodOf_9 ?_
  refine lv_iload_n hx hb dX6_methodOf_12 rfl (lv_at hl 3 rfl) ?_
  obtain ⟨u2_0, hu_2, hsp⟩ := ox_bind hsp
  try dsimp only at hsp
  have hPc := hP.sub (ws' := [(qf1, .inr (2, [.ref qf1_0, .ref qf1_1, .int v1_2, .ref qf1_3, .ref qf1_4, .ref qf1_5, .ref qf1_6, .ref qf1_7, .ref qf1_8, .ref qf1_9, .ref qf1_10, .ref qf1_11, .ref qf1_12, .ref qf1_13, .ref qf1_14, .ref qf1_15, .ref qf1_16, .ref qf1_17, .ref qf1_18, .ref qf1_19, .int v1_20])), (qf1_10, .inl (cf1_10, 96, .inl f1_10)), (qf1_9, .inl (cf1_9, 8, .inl f1_9)), (qf1_0, .inr (9, [.ref qf1_0_0, .ref qf1_0_1, .ref qf1_0_2, .int v1_0_3, .ref qf1_0_4, .ref qf1_0_5, .ref qf1_0_6, .ref qf1_0_7, .ref qf1_0_8, .int v1_0_9, .int v1_0_10, .int v1_0_11, .int v1_0_12])), (qf1_0_2, .inl (cf1_0_2, 3001, .inl f1_0_2))]) [6, 0, 1, 2, 3] rfl
  have hDc := hD.sub (ws' := [(qf1, .inr (2, [.ref qf1_0, .ref qf1_1, .int v1_2, .ref qf1_3, .ref qf1_4, .ref qf1_5, .ref qf1_6, .ref qf1_7, .ref qf1_8, .ref qf1_9, .ref qf1_10, .ref qf1_11, .ref qf1_12, .ref qf1_13, .ref qf1_14, .ref qf1_15, .ref qf1_16, .ref qf1_17, .ref qf1_18, .ref qf1_19, .int v1_20])), (qf1_10, .inl (cf1_10, 96, .inl f1_10)), (qf1_9, .inl (cf1_9, 8, .inl f1_9)), (qf1_0, .inr (9, [.ref qf1_0_0, .ref qf1_0_1, .ref qf1_0_2, .int v1_0_3, .ref qf1_0_4, .ref qf1_0_5, .ref qf1_0_6, .ref qf1_0_7, .ref qf1_0_8, .int v1_0_9, .int v1_0_10, .int v1_0_11, .int v1_0_12])), (qf1_0_2, .inl (cf1_0_2, 3001, .inl f1_0_2))]) [6, 0, 1, 2, 3] (by decide) rfl
  have hKc := hK.sub (tys' := [(cf1_10, .int), (cf1_9, .int), (cf1_0_2, .int)]) [0, 1, 2] rfl
  have hFc := va_free (wc := [(qf1, .inr (2, [.ref qf1_0, .ref qf1_1, .int v1_2, .ref qf1_3, .ref qf1_4, .ref qf1_5, .ref qf1_6, .ref qf1_7, .ref qf1_8, .ref qf1_9, .ref qf1_10, .ref qf1_11, .ref qf1_12, .ref qf1_13, .ref qf1_14, .ref qf1_15, .ref qf1_16, .ref qf1_17, .ref qf1_18, .ref qf1_19, .int v1_20])), (qf1_10, .inl (cf1_10, 96, .inl f1_10)), (qf1_9, .inl (cf1_9, 8, .inl f1_9)), (qf1_0, .inr (9, [.ref qf1_0_0, .ref qf1_0_1, .ref qf1_0_2, .int v1_0_3, .ref qf1_0_4, .ref qf1_0_5, .ref qf1_0_6, .ref qf1_0_7, .ref qf1_0_8, .int v1_0_9, .int v1_0_10, .int v1_0_11, .int v1_0_12])), (qf1_0_2, .inl (cf1_0_2, 3001, .inl f1_0_2))]) hD hS hA [6, 0, 1, 2, 3] rfl
  refine va_calli (va_runV (As := [.int a2]) (rest := [.int 1, .ref h0]) ⟨hx, hb, hml, hown, hts⟩ (t2_nameOfMethod l dC dI H.size qf1 a2 qf1_0 qf1_1 v1_2 qf1_3 qf1_4 qf1_5 qf1_6 qf1_7 qf1_8 qf1_9 qf1_10 qf1_11 qf1_12 qf1_13 qf1_14 qf1_15 qf1_16 qf1_17 qf1_18 qf1_19 v1_20 cf1_10 f1_10 cf1_9 f1_9 qf1_0_0 qf1_0_1 qf1_0_2 v1_0_3 qf1_0_4 qf1_0_5 qf1_0_6 qf1_0_7 qf1_0_8 v1_0_9 v1_0_10 v1_0_11 v1_0_12 cf1_0_2 f1_0_2 nf u2_0 hu_2) (cwV 1 hts gv_h4_48 rfl rfl rfl (by decide +kernel) ⟨Nat.le_of_ble_eq_true rfl, Nat.le_of_ble_eq_true rfl⟩) ⟨fun a U g mk q => by obtain ⟨q0, q1, qP, qK, qD⟩ := q; exact ⟨q0, q1, qP, va_K.moved (u := U) (U := U.calling g mk a) (Vm.Alike.refl U.vm) qK, qD⟩, va_recv hKc hPc (ci := 2) (q0 := 0) rfl rfl, fun U hU hW => ⟨rfl, by rw [hU], by rw [hU]; exact hPc, va_K.moved hW.alike hKc, hDc.weaken (fun _ _ _ _ => trivial)⟩⟩ rfl rfl hl.1 rfl (lv_room (Nat.le_of_ble_eq_true rfl)) dX6_methodOf_13 ⟨Nat.le_of_ble_eq_true rfl, Nat.le_of_ble_eq_true rfl⟩) hS (fun q _ h => hFc q h) hFc ?_
  clear hS
  intro r_2 u t H1 locs ht hvm hw hB hz1 hk1 hS
  obtain ⟨⟩ := u
  obtain ⟨hP1, hK1, hD1⟩ := hB
  rw [ht] at hP1
  have hK1 := va_K.moved hvm.symm hK1
  try dsimp only at hw
  have hPD := va_join (wr := [(qf1_14, .inl (cf1_14, 96, .inl f1_14)), (h0, .inr (6, [.ref qf0, .ref qf1, .ref qf2, .ref qf3, .int u1_3, .int u1_4, .ref qf6, .int v7])), (qf1_18, .inl (cf1_18, 32, .inl f1_18)), (qf2, .inl (cf2, 201, .inl g901_1)), (qf3, .inl (cf3, 201, .inl g901_2))]) (w1 := [(qf1, .inr (2, [.ref qf1_0, .ref qf1_1, .int v1_2, .ref qf1_3, .ref qf1_4, .ref qf1_5, .ref qf1_6, .ref qf1_7, .ref qf1_8, .ref qf1_9, .ref qf1_10, .ref qf1_11, .ref qf1_12, .ref qf1_13, .ref qf1_14, .ref qf1_15, .ref qf1_16, .ref qf1_17, .ref qf1_18, .ref qf1_19, .int v1_20])), (qf1_10, .inl (cf1_10, 96, .inl f1_10)), (qf1_9, .inl (cf1_9, 8, .inl f1_9)), (qf1_0, .inr (9, [.ref qf1_0_0, .ref qf1_0_1, .ref qf1_0_2, .int v1_0_3, .ref qf1_0_4, .ref qf1_0_5, .ref qf1_0_6, .ref qf1_0_7, .ref qf1_0_8, .int v1_0_9, .int v1_0_10, .int v1_0_11, .int v1_0_12])), (qf1_0_2, .inl (cf1_0_2, 3001, .inl f1_0_2))]) hP hD [6, 0, 1, 2, 3] [4, 5, 7, 8, 9] rfl rfl (by decide) (by decide) hk1 hFc hP1 hD1
  clear hP hD
  obtain ⟨hP, hD⟩ := hPD
  replace hK := (hK.sub (tys' := [(cf1_14, .int), (cf1_18, .int), (cf2, .int), (cf3, .int)]) [3, 4, 5, 6] rfl).app hK1
  clear hPc hDc hKc hFc hP1 hK1 hD1 hz1 hk1 ht hvm
  generalize H1 = H at hP hS ⊢
  replace hP : va_P (dC, dI) vwCl [(qf1_14, .inl (cf1_14, 96, .inl f1_14)), (h0, .inr (6, [.ref qf0, .ref qf1, .ref qf2, .ref qf3, .int u1_3, .int u1_4, .ref qf6, .int v7])), (qf1_18, .inl (cf1_18, 32, .inl f1_18)), (qf2, .inl (cf2, 201, .inl g901_1)), (qf3, .inl (cf3, 201, .inl g901_2)), (qf1, .inr (2, [.ref qf1_0, .ref qf1_1, .int v1_2, .ref qf1_3, .ref qf1_4, .ref qf1_5, .ref qf1_6, .ref qf1_7, .ref qf1_8, .ref qf1_9, .ref qf1_10, .ref qf1_11, .ref qf1_12, .ref qf1_13, .ref qf1_14, .ref qf1_15, .ref qf1_16, .ref qf1_17, .ref qf1_18, .ref qf1_19, .int v1_20])), (qf1_10, .inl (cf1_10, 96, .inl f1_10)), (qf1_9, .inl (cf1_9, 8, .inl f1_9)), (qf1_0, .inr (9, [.ref qf1_0_0, .ref qf1_0_1, .ref qf1_0_2, .int v1_0_3, .ref qf1_0_4, .ref qf1_0_5, .ref qf1_0_6, .ref qf1_0_7, .ref qf1_0_8, .int v1_0_9, .int v1_0_10, .int v1_0_11, .int v1_0_12])), (qf1_0_2, .inl (cf1_0_2, 3001, .inl f1_0_2))] H := hP
  replace hD : va_D A [(qf1_14, .inl (cf1_14, 96, .inl f1_14)), (h0, .inr (6, [.ref qf0, .ref qf1, .ref qf2, .ref qf3, .int u1_3, .int u1_4, .ref qf6, .int v7])), (qf1_18, .inl (cf1_18, 32, .inl f1_18)), (qf2, .inl (cf2, 201, .inl g901_1)), (qf3, .inl (cf3, 201, .inl g901_2)), (qf1, .inr (2, [.ref qf1_0, .ref qf1_1, .int v1_2, .ref qf1_3, .ref qf1_4, .ref qf1_5, .ref qf1_6, .ref qf1_7, .ref qf1_8, .ref qf1_9, .ref qf1_10, .ref qf1_11, .ref qf1_12, .ref qf1_13, .ref qf1_14, .ref qf1_15, .ref qf1_16, .ref qf1_17, .ref qf1_18, .ref qf1_19, .int v1_20])), (qf1_10, .inl (cf1_10, 96, .inl f1_10)), (qf1_9, .inl (cf1_9, 8, .inl f1_9)), (qf1_0, .inr (9, [.ref qf1_0_0, .ref qf1_0_1, .ref qf1_0_2, .int v1_0_3, .ref qf1_0_4, .ref qf1_0_5, .ref qf1_0_6, .ref qf1_0_7, .ref qf1_0_8, .int v1_0_9, .int v1_0_10, .int v1_0_11, .int v1_0_12])), (qf1_0_2, .inl (cf1_0_2, 3001, .inl f1_0_2))] := hD
  replace hK : va_K (dC, dI) vwCl [(cf1_14, .int), (cf1_18, .int), (cf2, .int), (cf3, .int), (cf1_10, .int), (cf1_9, .int), (cf1_0_2, .int)] s := hK
  obtain rfl := hw
  obtain ⟨⟨u3_0, g903_1, g903_2, u3_3, u3_4⟩, hu_3, hsp⟩ := ox_bind hsp
  try dsimp only at hsp
  have hPc := hP.sub (ws' := [(h0, .inr (6, [.ref qf0, .ref qf1, .ref qf2, .ref qf3, .int u1_3, .int u1_4, .ref qf6, .int v7])), (qf2, .inl (cf2, 201, .inl g901_1)), (qf3, .inl (cf3, 201, .inl g901_2))]) [1, 3, 4] rfl
  have hDc := hD.sub (ws' := [(h0, .inr (6, [.ref qf0, .ref qf1, .ref qf2, .ref qf3, .int u1_3, .int u1_4, .ref qf6, .int v7])), (qf2, .inl (cf2, 201, .inl g901_1)), (qf3, .inl (cf3, 201, .inl g901_2))]) [1, 3, 4] (by decide) rfl
  have hKc := hK.sub (tys' := [(cf2, .int), (cf3, .int)]) [2, 3] rfl
  have hFc := va_free (wc := [(h0, .inr (6, [.ref qf0, .ref qf1, .ref qf2, .ref qf3, .int u1_3, .int u1_4, .ref qf6, .int v7])), (qf2, .inl (cf2, 201, .inl g901_1)), (qf3, .inl (cf3, 201, .inl g901_2))]) hD hS hA [1, 3, 4] rfl
  refine va_calli (va_runV (As := [.int 1, .int u2_0]) (rest := []) ⟨hx, hb, hml, hown, hts⟩ (t6_constant l dC dI H.size h0 1 u2_0 qf0 qf1 qf2 qf3 u1_3 u1_4 qf6 v7 cf2 g901_1 cf3 g901_2 nf u3_0 g903_1 g903_2 u3_3 u3_4 hu_3) (cwV 2 hts gv_h4_13 rfl rfl rfl (by decide +kernel) ⟨Nat.le_of_ble_eq_true rfl, Nat.le_of_ble_eq_true rfl⟩) ⟨fun a U g mk q => by obtain ⟨q0, q1, qP, qK, qD⟩ := q; exact ⟨q0, q1, qP, va_K.moved (u := U) (U := U.calling g mk a) (Vm.Alike.refl U.vm) qK, qD⟩, va_recv hKc hPc (ci := 6) (q0 := 0) rfl rfl, fun U hU hW => ⟨rfl, by rw [hU], by rw [hU]; exact hPc, va_K.moved hW.alike hKc, hDc.weaken (fun _ _ _ _ => trivial)⟩⟩ rfl rfl hl.1 rfl (lv_room (Nat.le_of_ble_eq_true rfl)) dX6_methodOf_16 ⟨Nat.le_of_ble_eq_true rfl, Nat.le_of_ble_eq_true rfl⟩) hS (fun q _ h => hFc q h) hFc ?_
  clear hS
  intro r_3 u t H1 locs ht hvm hw hB hz1 hk1 hS
  obtain ⟨⟩ := u
  obtain ⟨hP1, hK1, hD1⟩ := hB
  rw [ht] at hP1
  have hK1 := va_K.moved hvm.symm hK1
  try dsimp only at hw
  have hPD := va_join (wr := [(qf1_14, .inl (cf1_14, 96, .inl f1_14)), (qf1_18, .inl (cf1_18, 32, .inl f1_18)), (qf1, .inr (2, [.ref qf1_0, .ref qf1_1, .int v1_2, .ref qf1_3, .ref qf1_4, .ref qf1_5, .ref qf1_6, .ref qf1_7, .ref qf1_8, .ref qf1_9, .ref qf1_10, .ref qf1_11, .ref qf1_12, .ref qf1_13, .ref qf1_14, .ref qf1_15, .ref qf1_16, .ref qf1_17, .ref qf1_18, .ref qf1_19, .int v1_20])), (qf1_10, .inl (cf1_10, 96, .inl f1_10)), (qf1_9, .inl (cf1_9, 8, .inl f1_9)), (qf1_0, .inr (9, [.ref qf1_0_0, .ref qf1_0_1, .ref qf1_0_2, .int v1_0_3, .ref qf1_0_4, .ref qf1_0_5, .ref qf1_0_6, .ref qf1_0_7, .ref qf1_0_8, .int v1_0_9, .int v1_0_10, .int v1_0_11, .int v1_0_12])), (qf1_0_2, .inl (cf1_0_2, 3001, .inl f1_0_2))]) (w1 := [(h0, .inr (6, [.ref qf0, .ref qf1, .ref qf2, .ref qf3, .int u3_3, .int u3_4, .ref qf6, .int v7])), (qf2, .inl (cf2, 201, .inl g903_1)), (qf3, .inl (cf3, 201, .inl g903_2))]) hP hD [1, 3, 4] [0, 2, 5, 6, 7, 8, 9] rfl rfl (by decide) (by decide) hk1 hFc hP1 hD1
  clear hP hD
  obtain ⟨hP, hD⟩ := hPD
  replace hK := (hK.sub (tys' := [(cf1_14, .int), (cf1_18, .int), (cf1_10, .int), (cf1_9, .int), (cf1_0_2, .int)]) [0, 1, 4, 5, 6] rfl).app hK1
  clear hPc hDc hKc hFc hP1 hK1 hD1 hz1 hk1 ht hvm
  generalize H1 = H at hP hS ⊢
  replace hP : va_P (dC, dI) vwCl [(qf1_14, .inl (cf1_14, 96, .inl f1_14)), (qf1_18, .inl (cf1_18, 32, .inl f1_18)), (qf1, .inr (2, [.ref qf1_0, .ref qf1_1, .int v1_2, .ref qf1_3, .ref qf1_4, .ref qf1_5, .ref qf1_6, .ref qf1_7, .ref qf1_8, .ref qf1_9, .ref qf1_10, .ref qf1_11, .ref qf1_12, .ref qf1_13, .ref qf1_14, .ref qf1_15, .ref qf1_16, .ref qf1_17, .ref qf1_18, .ref qf1_19, .int v1_20])), (qf1_10, .inl (cf1_10, 96, .inl f1_10)), (qf1_9, .inl (cf1_9, 8, .inl f1_9)), (qf1_0, .inr (9, [.ref qf1_0_0, .ref qf1_0_1, .ref qf1_0_2, .int v1_0_3, .ref qf1_0_4, .ref qf1_0_5, .ref qf1_0_6, .ref qf1_0_7, .ref qf1_0_8, .int v1_0_9, .int v1_0_10, .int v1_0_11, .int v1_0_12])), (qf1_0_2, .inl (cf1_0_2, 3001, .inl f1_0_2)), (h0, .inr (6, [.ref qf0, .ref qf1, .ref qf2, .ref qf3, .int u3_3, .int u3_4, .ref qf6, .int v7])), (qf2, .inl (cf2, 201, .inl g903_1)), (qf3, .inl (cf3, 201, .inl g903_2))] H := hP
  replace hD : va_D A [(qf1_14, .inl (cf1_14, 96, .inl f1_14)), (qf1_18, .inl (cf1_18, 32, .inl f1_18)), (qf1, .inr (2, [.ref qf1_0, .ref qf1_1, .int v1_2, .ref qf1_3, .ref qf1_4, .ref qf1_5, .ref qf1_6, .ref qf1_7, .ref qf1_8, .ref qf1_9, .ref qf1_10, .ref qf1_11, .ref qf1_12, .ref qf1_13, .ref qf1_14, .ref qf1_15, .ref qf1_16, .ref qf1_17, .ref qf1_18, .ref qf1_19, .int v1_20])), (qf1_10, .inl (cf1_10, 96, .inl f1_10)), (qf1_9, .inl (cf1_9, 8, .inl f1_9)), (qf1_0, .inr (9, [.ref qf1_0_0, .ref qf1_0_1, .ref qf1_0_2, .int v1_0_3, .ref qf1_0_4, .ref qf1_0_5, .ref qf1_0_6, .ref qf1_0_7, .ref qf1_0_8, .int v1_0_9, .int v1_0_10, .int v1_0_11, .int v1_0_12])), (qf1_0_2, .inl (cf1_0_2, 3001, .inl f1_0_2)), (h0, .inr (6, [.ref qf0, .ref qf1, .ref qf2, .ref qf3, .int u3_3, .int u3_4, .ref qf6, .int v7])), (qf2, .inl (cf2, 201, .inl g903_1)), (qf3, .inl (cf3, 201, .inl g903_2))] := hD
  replace hK : va_K (dC, dI) vwCl [(cf1_14, .int), (cf1_18, .int), (cf1_10, .int), (cf1_9, .int), (cf1_0_2, .int), (cf2, .int), (cf3, .int)] s := hK
  obtain rfl := hw
  refine lv_istore (lv' := [(4, .int u3_0), (3, .int u1_0), (0, .ref h0), (1, .int a1), (2, .int a2)]) hx hb dX6_methodOf_19 hl (by decide) rfl (fun ls hl => ?_)
  refine lv_aload_n hx hb dX6_methodOf_21 rfl (lv_at hl 2 rfl) ?_
  refine lv_iconst (v := 4) hx hb dX6_methodOf_22 (by decide) ?_
  refine lv_iload_n hx hb dX6_methodOf_23 rfl (lv_at hl 1 rfl) ?_
  refine lv_bipush (v := 16) hx hb dX6_methodOf_24 (by decide) ?_
  refine lv_ishl hx hb dX6_methodOf_26 ?_
  refine lv_iload hx hb dX6_methodOf_27 (lv_at hl 0 rfl) ?_
  refine lv_bipush (v := 8) hx hb dX6_methodOf_29 (by decide) ?_
  refine lv_ishl hx hb dX6_methodOf_31 ?_
  refine lv_ior hx hb dX6_methodOf_32 ?_
  refine lv_aload_n hx hb dX6_methodOf_33 rfl (lv_at hl 2 rfl) ?_
  refine lv_iconst (v := 1) hx hb dX6_methodOf_34 (by decide) ?_
  refine lv_aload_n hx hb dX6_methodOf_35 rfl (lv_at hl 2 rfl) ?_
  refine va_get (D := (dC, dI)) (ci := 6) (v := .ref qf1) (C := RX6) (T := TX6) (N := 8) hx hb hts uV_h4_X6 hown hK hP 7 rfl rfl 1 (by decide) (hts (.fieldLink RX6 24 "ClassMill$Pool" "heads" "LClassMill$Heads;") mw_h4_240) (fun _ h9 => h9) rfl dX6_methodOf_36 ?_
  refine lv_iload_n hx hb dX6_methodOf_39 rfl (lv_at hl 4 rfl) ?_
  obtain ⟨u4_0, hu_4, hsp⟩ := ox_bind hsp
  try dsimp only at hsp
  have hPc := hP.sub (ws' := [(qf1, .inr (2, [.ref qf1_0, .ref qf1_1, .int v1_2, .ref qf1_3, .ref qf1_4, .ref qf1_5, .ref qf1_6, .ref qf1_7, .ref qf1_8, .ref qf1_9, .ref qf1_10, .ref qf1_11, .ref qf1_12, .ref qf1_13, .ref qf1_14, .ref qf1_15, .ref qf1_16, .ref qf1_17, .ref qf1_18, .ref qf1_19, .int v1_20])), (qf1_14, .inl (cf1_14, 96, .inl f1_14))]) [2, 0] rfl
  have hDc := hD.sub (ws' := [(qf1, .inr (2, [.ref qf1_0, .ref qf1_1, .int v1_2, .ref qf1_3, .ref qf1_4, .ref qf1_5, .ref qf1_6, .ref qf1_7, .ref qf1_8, .ref qf1_9, .ref qf1_10, .ref qf1_11, .ref qf1_12, .ref qf1_13, .ref qf1_14, .ref qf1_15, .ref qf1_16, .ref qf1_17, .ref qf1_18, .ref qf1_19, .int v1_20])), (qf1_14, .inl (cf1_14, 96, .inl f1_14))]) [2, 0] (by decide) rfl
  have hKc := hK.sub (tys' := [(cf1_14, .int)]) [0] rfl
  have hFc := va_free (wc := [(qf1, .inr (2, [.ref qf1_0, .ref qf1_1, .int v1_2, .ref qf1_3, .ref qf1_4, .ref qf1_5, .ref qf1_6, .ref qf1_7, .ref qf1_8, .ref qf1_9, .ref qf1_10, .ref qf1_11, .ref qf1_12, .ref qf1_13, .ref qf1_14, .ref qf1_15, .ref qf1_16, .ref qf1_17, .ref qf1_18, .ref qf1_19, .int v1_20])), (qf1_14, .inl (cf1_14, 96, .inl f1_14))]) hD hS hA [2, 0] rfl
  refine va_calli (va_runV (As := [.int a2]) (rest := [.int 1, .ref h0, .int ((u1_0 <<< (16 &&& 31)) ||| (u3_0 <<< (8 &&& 31))), .int 4, .ref h0]) ⟨hx, hb, hml, hown, hts⟩ (t2_kindOfMethod l dC dI H.size qf1 a2 qf1_0 qf1_1 v1_2 qf1_3 qf1_4 qf1_5 qf1_6 qf1_7 qf1_8 qf1_9 qf1_10 qf1_11 qf1_12 qf1_13 qf1_14 qf1_15 qf1_16 qf1_17 qf1_18 qf1_19 v1_20 cf1_14 f1_14 nf u4_0 hu_4) (cwV 1 hts gv_h4_49 rfl rfl rfl (by decide +kernel) ⟨Nat.le_of_ble_eq_true rfl, Nat.le_of_ble_eq_true rfl⟩) ⟨fun a U g mk q => by obtain ⟨q0, q1, qP, qK, qD⟩ := q; exact ⟨q0, q1, qP, va_K.moved (u := U) (U := U.calling g mk a) (Vm.Alike.refl U.vm) qK, qD⟩, va_recv hKc hPc (ci := 2) (q0 := 0) rfl rfl, fun U hU hW => ⟨rfl, by rw [hU], by rw [hU]; exact hPc, va_K.moved hW.alike hKc, hDc.weaken (fun _ _ _ _ => trivial)⟩⟩ rfl rfl hl.1 rfl (lv_room (Nat.le_of_ble_eq_true rfl)) dX6_methodOf_40 ⟨Nat.le_of_ble_eq_true rfl, Nat.le_of_ble_eq_true rfl⟩) hS (fun q _ h => hFc q h) hFc ?_
  clear hS
  intro r_4 u t H1 locs ht hvm hw hB hz1 hk1 hS
  obtain ⟨⟩ := u
  obtain ⟨hP1, hK1, hD1⟩ := hB
  rw [ht] at hP1
  have hK1 := va_K.moved hvm.symm hK1
  try dsimp only at hw
  have hPD := va_join (wr := [(qf1_18, .inl (cf1_18, 32, .inl f1_18)), (qf1_10, .inl (cf1_10, 96, .inl f1_10)), (qf1_9, .inl (cf1_9, 8, .inl f1_9)), (qf1_0, .inr (9, [.ref qf1_0_0, .ref qf1_0_1, .ref qf1_0_2, .int v1_0_3, .ref qf1_0_4, .ref qf1_0_5, .ref qf1_0_6, .ref qf1_0_7, .ref qf1_0_8, .int v1_0_9, .int v1_0_10, .int v1_0_11, .int v1_0_12])), (qf1_0_2, .inl (cf1_0_2, 3001, .inl f1_0_2)), (h0, .inr (6, [.ref qf0, .ref qf1, .ref qf2, .ref qf3, .int u3_3, .int u3_4, .ref qf6, .int v7])), (qf2, .inl (cf2, 201, .inl g903_1)), (qf3, .inl (cf3, 201, .inl g903_2))]) (w1 := [(qf1, .inr (2, [.ref qf1_0, .ref qf1_1, .int v1_2, .ref qf1_3, .ref qf1_4, .ref qf1_5, .ref qf1_6, .ref qf1_7, .ref qf1_8, .ref qf1_9, .ref qf1_10, .ref qf1_11, .ref qf1_12, .ref qf1_13, .ref qf1_14, .ref qf1_15, .ref qf1_16, .ref qf1_17, .ref qf1_18, .ref qf1_19, .int v1_20])), (qf1_14, .inl (cf1_14, 96, .inl f1_14))]) hP hD [2, 0] [1, 3, 4, 5, 6, 7, 8, 9] rfl rfl (by decide) (by decide) hk1 hFc hP1 hD1
  clear hP hD
  obtain ⟨hP, hD⟩ := hPD
  replace hK := (hK.sub (tys' := [(cf1_18, .int), (cf1_10, .int), (cf1_9, .int), (cf1_0_2, .int), (cf2, .int), (cf3, .int)]) [1, 2, 3, 4, 5, 6] rfl).app hK1
  clear hPc hDc hKc hFc hP1 hK1 hD1 hz1 hk1 ht hvm
  generalize H1 = H at hP hS ⊢
  replace hP : va_P (dC, dI) vwCl [(qf1_18, .inl (cf1_18, 32, .inl f1_18)), (qf1_10, .inl (cf1_10, 96, .inl f1_10)), (qf1_9, .inl (cf1_9, 8, .inl f1_9)), (qf1_0, .inr (9, [.ref qf1_0_0, .ref qf1_0_1, .ref qf1_0_2, .int v1_0_3, .ref qf1_0_4, .ref qf1_0_5, .ref qf1_0_6, .ref qf1_0_7, .ref qf1_0_8, .int v1_0_9, .int v1_0_10, .int v1_0_11, .int v1_0_12])), (qf1_0_2, .inl (cf1_0_2, 3001, .inl f1_0_2)), (h0, .inr (6, [.ref qf0, .ref qf1, .ref qf2, .ref qf3, .int u3_3, .int u3_4, .ref qf6, .int v7])), (qf2, .inl (cf2, 201, .inl g903_1)), (qf3, .inl (cf3, 201, .inl g903_2)), (qf1, .inr (2, [.ref qf1_0, .ref qf1_1, .int v1_2, .ref qf1_3, .ref qf1_4, .ref qf1_5, .ref qf1_6, .ref qf1_7, .ref qf1_8, .ref qf1_9, .ref qf1_10, .ref qf1_11, .ref qf1_12, .ref qf1_13, .ref qf1_14, .ref qf1_15, .ref qf1_16, .ref qf1_17, .ref qf1_18, .ref qf1_19, .int v1_20])), (qf1_14, .inl (cf1_14, 96, .inl f1_14))] H := hP
  replace hD : va_D A [(qf1_18, .inl (cf1_18, 32, .inl f1_18)), (qf1_10, .inl (cf1_10, 96, .inl f1_10)), (qf1_9, .inl (cf1_9, 8, .inl f1_9)), (qf1_0, .inr (9, [.ref qf1_0_0, .ref qf1_0_1, .ref qf1_0_2, .int v1_0_3, .ref qf1_0_4, .ref qf1_0_5, .ref qf1_0_6, .ref qf1_0_7, .ref qf1_0_8, .int v1_0_9, .int v1_0_10, .int v1_0_11, .int v1_0_12])), (qf1_0_2, .inl (cf1_0_2, 3001, .inl f1_0_2)), (h0, .inr (6, [.ref qf0, .ref qf1, .ref qf2, .ref qf3, .int u3_3, .int u3_4, .ref qf6, .int v7])), (qf2, .inl (cf2, 201, .inl g903_1)), (qf3, .inl (cf3, 201, .inl g903_2)), (qf1, .inr (2, [.ref qf1_0, .ref qf1_1, .int v1_2, .ref qf1_3, .ref qf1_4, .ref qf1_5, .ref qf1_6, .ref qf1_7, .ref qf1_8, .ref qf1_9, .ref qf1_10, .ref qf1_11, .ref qf1_12, .ref qf1_13, .ref qf1_14, .ref qf1_15, .ref qf1_16, .ref qf1_17, .ref qf1_18, .ref qf1_19, .int v1_20])), (qf1_14, .inl (cf1_14, 96, .inl f1_14))] := hD
  replace hK : va_K (dC, dI) vwCl [(cf1_18, .int), (cf1_10, .int), (cf1_9, .int), (cf1_0_2, .int), (cf2, .int), (cf3, .int), (cf1_14, .int)] s := hK
  obtain rfl := hw
  obtain ⟨⟨u5_0, g905_1, g905_2, u5_3, u5_4⟩, hu_5, hsp⟩ := ox_bind hsp
  try dsimp only at hsp
  have hPc := hP.sub (ws' := [(h0, .inr (6, [.ref qf0, .ref qf1, .ref qf2, .ref qf3, .int u3_3, .int u3_4, .ref qf6, .int v7])), (qf2, .inl (cf2, 201, .inl g903_1)), (qf3, .inl (cf3, 201, .inl g903_2))]) [5, 6, 7] rfl
  have hDc := hD.sub (ws' := [(h0, .inr (6, [.ref qf0, .ref qf1, .ref qf2, .ref qf3, .int u3_3, .int u3_4, .ref qf6, .int v7])), (qf2, .inl (cf2, 201, .inl g903_1)), (qf3, .inl (cf3, 201, .inl g903_2))]) [5, 6, 7] (by decide) rfl
  have hKc := hK.sub (tys' := [(cf2, .int), (cf3, .int)]) [4, 5] rfl
  have hFc := va_free (wc := [(h0, .inr (6, [.ref qf0, .ref qf1, .ref qf2, .ref qf3, .int u3_3, .int u3_4, .ref qf6, .int v7])), (qf2, .inl (cf2, 201, .inl g903_1)), (qf3, .inl (cf3, 201, .inl g903_2))]) hD hS hA [5, 6, 7] rfl
  refine va_calli (va_runV (As := [.int 1, .int u4_0]) (rest := [.int ((u1_0 <<< (16 &&& 31)) ||| (u3_0 <<< (8 &&& 31))), .int 4, .ref h0]) ⟨hx, hb, hml, hown, hts⟩ (t6_constant l dC dI H.size h0 1 u4_0 qf0 qf1 qf2 qf3 u3_3 u3_4 qf6 v7 cf2 g903_1 cf3 g903_2 nf u5_0 g905_1 g905_2 u5_3 u5_4 hu_5) (cwV 2 hts gv_h4_13 rfl rfl rfl (by decide +kernel) ⟨Nat.le_of_ble_eq_true rfl, Nat.le_of_ble_eq_true rfl⟩) ⟨fun a U g mk q => by obtain ⟨q0, q1, qP, qK, qD⟩ := q; exact ⟨q0, q1, qP, va_K.moved (u := U) (U := U.calling g mk a) (Vm.Alike.refl U.vm) qK, qD⟩, va_recv hKc hPc (ci := 6) (q0 := 0) rfl rfl, fun U hU hW => ⟨rfl, by rw [hU], by rw [hU]; exact hPc, va_K.moved hW.alike hKc, hDc.weaken (fun _ _ _ _ => trivial)⟩⟩ rfl rfl hl.1 rfl (lv_room (Nat.le_of_ble_eq_true rfl)) dX6_methodOf_43 ⟨Nat.le_of_ble_eq_true rfl, Nat.le_of_ble_eq_true rfl⟩) hS (fun q _ h => hFc q h) hFc ?_
  clear hS
  intro r_5 u t H1 locs ht hvm hw hB hz1 hk1 hS
  obtain ⟨⟩ := u
  obtain ⟨hP1, hK1, hD1⟩ := hB
  rw [ht] at hP1
  have hK1 := va_K.moved hvm.symm hK1
  try dsimp only at hw
  have hPD := va_join (wr := [(qf1_18, .inl (cf1_18, 32, .inl f1_18)), (qf1_10, .inl (cf1_10, 96, .inl f1_10)), (qf1_9, .inl (cf1_9, 8, .inl f1_9)), (qf1_0, .inr (9, [.ref qf1_0_0, .ref qf1_0_1, .ref qf1_0_2, .int v1_0_3, .ref qf1_0_4, .ref qf1_0_5, .ref qf1_0_6, .ref qf1_0_7, .ref qf1_0_8, .int v1_0_9, .int v1_0_10, .int v1_0_11, .int v1_0_12])), (qf1_0_2, .inl (cf1_0_2, 3001, .inl f1_0_2)), (qf1, .inr (2, [.ref qf1_0, .ref qf1_1, .int v1_2, .ref qf1_3, .ref qf1_4, .ref qf1_5, .ref qf1_6, .ref qf1_7, .ref qf1_8, .ref qf1_9, .ref qf1_10, .ref qf1_11, .ref qf1_12, .ref qf1_13, .ref qf1_14, .ref qf1_15, .ref qf1_16, .ref qf1_17, .ref qf1_18, .ref qf1_19, .int v1_20])), (qf1_14, .inl (cf1_14, 96, .inl f1_14))]) (w1 := [(h0, .inr (6, [.ref qf0, .ref qf1, .ref qf2, .ref qf3, .int u5_3, .int u5_4, .ref qf6, .int v7])), (qf2, .inl (cf2, 201, .inl g905_1)), (qf3, .inl (cf3, 201, .inl g905_2))]) hP hD [5, 6, 7] [0, 1, 2, 3, 4, 8, 9] rfl rfl (by decide) (by decide) hk1 hFc hP1 hD1
  clear hP hD
  obtain ⟨hP, hD⟩ := hPD
  replace hK := (hK.sub (tys' := [(cf1_18, .int), (cf1_10, .int), (cf1_9, .int), (cf1_0_2, .int), (cf1_14, .int)]) [0, 1, 2, 3, 6] rfl).app hK1
  clear hPc hDc hKc hFc hP1 hK1 hD1 hz1 hk1 ht hvm
  generalize H1 = H at hP hS ⊢
  replace hP : va_P (dC, dI) vwCl [(qf1_18, .inl (cf1_18, 32, .inl f1_18)), (qf1_10, .inl (cf1_10, 96, .inl f1_10)), (qf1_9, .inl (cf1_9, 8, .inl f1_9)), (qf1_0, .inr (9, [.ref qf1_0_0, .ref qf1_0_1, .ref qf1_0_2, .int v1_0_3, .ref qf1_0_4, .ref qf1_0_5, .ref qf1_0_6, .ref qf1_0_7, .ref qf1_0_8, .int v1_0_9, .int v1_0_10, .int v1_0_11, .int v1_0_12])), (qf1_0_2, .inl (cf1_0_2, 3001, .inl f1_0_2)), (qf1, .inr (2, [.ref qf1_0, .ref qf1_1, .int v1_2, .ref qf1_3, .ref qf1_4, .ref qf1_5, .ref qf1_6, .ref qf1_7, .ref qf1_8, .ref qf1_9, .ref qf1_10, .ref qf1_11, .ref qf1_12, .ref qf1_13, .ref qf1_14, .ref qf1_15, .ref qf1_16, .ref qf1_17, .ref qf1_18, .ref qf1_19, .int v1_20])), (qf1_14, .inl (cf1_14, 96, .inl f1_14)), (h0, .inr (6, [.ref qf0, .ref qf1, .ref qf2, .ref qf3, .int u5_3, .int u5_4, .ref qf6, .int v7])), (qf2, .inl (cf2, 201, .inl g905_1)), (qf3, .inl (cf3, 201, .inl g905_2))] H := hP
  replace hD : va_D A [(qf1_18, .inl (cf1_18, 32, .inl f1_18)), (qf1_10, .inl (cf1_10, 96, .inl f1_10)), (qf1_9, .inl (cf1_9, 8, .inl f1_9)), (qf1_0, .inr (9, [.ref qf1_0_0, .ref qf1_0_1, .ref qf1_0_2, .int v1_0_3, .ref qf1_0_4, .ref qf1_0_5, .ref qf1_0_6, .ref qf1_0_7, .ref qf1_0_8, .int v1_0_9, .int v1_0_10, .int v1_0_11, .int v1_0_12])), (qf1_0_2, .inl (cf1_0_2, 3001, .inl f1_0_2)), (qf1, .inr (2, [.ref qf1_0, .ref qf1_1, .int v1_2, .ref qf1_3, .ref qf1_4, .ref qf1_5, .ref qf1_6, .ref qf1_7, .ref qf1_8, .ref qf1_9, .ref qf1_10, .ref qf1_11, .ref qf1_12, .ref qf1_13, .ref qf1_14, .ref qf1_15, .ref qf1_16, .ref qf1_17, .ref qf1_18, .ref qf1_19, .int v1_20])), (qf1_14, .inl (cf1_14, 96, .inl f1_14)), (h0, .inr (6, [.ref qf0, .ref qf1, .ref qf2, .ref qf3, .int u5_3, .int u5_4, .ref qf6, .int v7])), (qf2, .inl (cf2, 201, .inl g905_1)), (qf3, .inl (cf3, 201, .inl g905_2))] := hD
  replace hK : va_K (dC, dI) vwCl [(cf1_18, .int), (cf1_10, .int), (cf1_9, .int), (cf1_0_2, .int), (cf1_14, .int), (cf2, .int), (cf3, .int)] s := hK
  obtain rfl := hw
  refine lv_ior hx hb dX6_methodOf_46 ?_
  obtain ⟨⟨u6_0, g906_1, g906_2, u6_3, u6_4⟩, hu_6, hsp⟩ := ox_bind hsp
  try dsimp only at hsp
  have hPc := hP.sub (ws' := [(h0, .inr (6, [.ref qf0, .ref qf1, .ref qf2, .ref qf3, .int u5_3, .int u5_4, .ref qf6, .int v7])), (qf2, .inl (cf2, 201, .inl g905_1)), (qf3, .inl (cf3, 201, .inl g905_2))]) [7, 8, 9] rfl
  have hDc := hD.sub (ws' := [(h0, .inr (6, [.ref qf0, .ref qf1, .ref qf2, .ref qf3, .int u5_3, .int u5_4, .ref qf6, .int v7])), (qf2, .inl (cf2, 201, .inl g905_1)), (qf3, .inl (cf3, 201, .inl g905_2))]) [7, 8, 9] (by decide) rfl
  have hKc := hK.sub (tys' := [(cf2, .int), (cf3, .int)]) [5, 6] rfl
  have hFc := va_free (wc := [(h0, .inr (6, [.ref qf0, .ref qf1, .ref qf2, .ref qf3, .int u5_3, .int u5_4, .ref qf6, .int v7])), (qf2, .inl (cf2, 201, .inl g905_1)), (qf3, .inl (cf3, 201, .inl g905_2))]) hD hS hA [7, 8, 9] rfl
  refine va_calli (va_runV (As := [.int 4, .int (((u1_0 <<< (16 &&& 31)) ||| (u3_0 <<< (8 &&& 31))) ||| u5_0)]) (rest := []) ⟨hx, hb, hml, hown, hts⟩ (t6_constant l dC dI H.size h0 4 ((((u1_0 <<< (16 &&& 31)) ||| (u3_0 <<< (8 &&& 31))) ||| u5_0)) qf0 qf1 qf2 qf3 u5_3 u5_4 qf6 v7 cf2 g905_1 cf3 g905_2 nf u6_0 g906_1 g906_2 u6_3 u6_4 hu_6) (cwV 2 hts gv_h4_13 rfl rfl rfl (by decide +kernel) ⟨Nat.le_of_ble_eq_true rfl, Nat.le_of_ble_eq_true rfl⟩) ⟨fun a U g mk q => by obtain ⟨q0, q1, qP, qK, qD⟩ := q; exact ⟨q0, q1, qP, va_K.moved (u := U) (U := U.calling g mk a) (Vm.Alike.refl U.vm) qK, qD⟩, va_recv hKc hPc (ci := 6) (q0 := 0) rfl rfl, fun U hU hW => ⟨rfl, by rw [hU], by rw [hU]; exact hPc, va_K.moved hW.alike hKc, hDc.weaken (fun _ _ _ _ => trivial)⟩⟩ rfl rfl hl.1 rfl (lv_room (Nat.le_of_ble_eq_true rfl)) dX6_methodOf_47 ⟨Nat.le_of_ble_eq_true rfl, Nat.le_of_ble_eq_true rfl⟩) hS (fun q _ h => hFc q h) hFc ?_
  clear hS
  intro r_6 u t H1 locs ht hvm hw hB hz1 hk1 hS
  obtain ⟨⟩ := u
  obtain ⟨hP1, hK1, hD1⟩ := hB
  rw [ht] at hP1
  have hK1 := va_K.moved hvm.symm hK1
  try dsimp only at hw
  have hPD := va_join (wr := [(qf1_18, .inl (cf1_18, 32, .inl f1_18)), (qf1_10, .inl (cf1_10, 96, .inl f1_10)), (qf1_9, .inl (cf1_9, 8, .inl f1_9)), (qf1_0, .inr (9, [.ref qf1_0_0, .ref qf1_0_1, .ref qf1_0_2, .int v1_0_3, .ref qf1_0_4, .ref qf1_0_5, .ref qf1_0_6, .ref qf1_0_7, .ref qf1_0_8, .int v1_0_9, .int v1_0_10, .int v1_0_11, .int v1_0_12])), (qf1_0_2, .inl (cf1_0_2, 3001, .inl f1_0_2)), (qf1, .inr (2, [.ref qf1_0, .ref qf1_1, .int v1_2, .ref qf1_3, .ref qf1_4, .ref qf1_5, .ref qf1_6, .ref qf1_7, .ref qf1_8, .ref qf1_9, .ref qf1_10, .ref qf1_11, .ref qf1_12, .ref qf1_13, .ref qf1_14, .ref qf1_15, .ref qf1_16, .ref qf1_17, .ref qf1_18, .ref qf1_19, .int v1_20])), (qf1_14, .inl (cf1_14, 96, .inl f1_14))]) (w1 := [(h0, .inr (6, [.ref qf0, .ref qf1, .ref qf2, .ref qf3, .int u6_3, .int u6_4, .ref qf6, .int v7])), (qf2, .inl (cf2, 201, .inl g906_1)), (qf3, .inl (cf3, 201, .inl g906_2))]) hP hD [7, 8, 9] [0, 1, 2, 3, 4, 5, 6] rfl rfl (by decide) (by decide) hk1 hFc hP1 hD1
  clear hP hD
  obtain ⟨hP, hD⟩ := hPD
  replace hK := (hK.sub (tys' := [(cf1_18, .int), (cf1_10, .int), (cf1_9, .int), (cf1_0_2, .int), (cf1_14, .int)]) [0, 1, 2, 3, 4] rfl).app hK1
  clear hPc hDc hKc hFc hP1 hK1 hD1 hz1 hk1 ht hvm
  generalize H1 = H at hP hS ⊢
  replace hP : va_P (dC, dI) vwCl [(qf1_18, .inl (cf1_18, 32, .inl f1_18)), (qf1_10, .inl (cf1_10, 96, .inl f1_10)), (qf1_9, .inl (cf1_9, 8, .inl f1_9)), (qf1_0, .inr (9, [.ref qf1_0_0, .ref qf1_0_1, .ref qf1_0_2, .int v1_0_3, .ref qf1_0_4, .ref qf1_0_5, .ref qf1_0_6, .ref qf1_0_7, .ref qf1_0_8, .int v1_0_9, .int v1_0_10, .int v1_0_11, .int v1_0_12])), (qf1_0_2, .inl (cf1_0_2, 3001, .inl f1_0_2)), (qf1, .inr (2, [.ref qf1_0, .ref qf1_1, .int v1_2, .ref qf1_3, .ref qf1_4, .ref qf1_5, .ref qf1_6, .ref qf1_7, .ref qf1_8, .ref qf1_9, .ref qf1_10, .ref qf1_11, .ref qf1_12, .ref qf1_13, .ref qf1_14, .ref qf1_15, .ref qf1_16, .ref qf1_17, .ref qf1_18, .ref qf1_19, .int v1_20])), (qf1_14, .inl (cf1_14, 96, .inl f1_14)), (h0, .inr (6, [.ref qf0, .ref qf1, .ref qf2, .ref qf3, .int u6_3, .int u6_4, .ref qf6, .int v7])), (qf2, .inl (cf2, 201, .inl g906_1)), (qf3, .inl (cf3, 201, .inl g906_2))] H := hP
  replace hD : va_D A [(qf1_18, .inl (cf1_18, 32, .inl f1_18)), (qf1_10, .inl (cf1_10, 96, .inl f1_10)), (qf1_9, .inl (cf1_9, 8, .inl f1_9)), (qf1_0, .inr (9, [.ref qf1_0_0, .ref qf1_0_1, .ref qf1_0_2, .int v1_0_3, .ref qf1_0_4, .ref qf1_0_5, .ref qf1_0_6, .ref qf1_0_7, .ref qf1_0_8, .int v1_0_9, .int v1_0_10, .int v1_0_11, .int v1_0_12])), (qf1_0_2, .inl (cf1_0_2, 3001, .inl f1_0_2)), (qf1, .inr (2, [.ref qf1_0, .ref qf1_1, .int v1_2, .ref qf1_3, .ref qf1_4, .ref qf1_5, .ref qf1_6, .ref qf1_7, .ref qf1_8, .ref qf1_9, .ref qf1_10, .ref qf1_11, .ref qf1_12, .ref qf1_13, .ref qf1_14, .ref qf1_15, .ref qf1_16, .ref qf1_17, .ref qf1_18, .ref qf1_19, .int v1_20])), (qf1_14, .inl (cf1_14, 96, .inl f1_14)), (h0, .inr (6, [.ref qf0, .ref qf1, .ref qf2, .ref qf3, .int u6_3, .int u6_4, .ref qf6, .int v7])), (qf2, .inl (cf2, 201, .inl g906_1)), (qf3, .inl (cf3, 201, .inl g906_2))] := hD
  replace hK : va_K (dC, dI) vwCl [(cf1_18, .int), (cf1_10, .int), (cf1_9, .int), (cf1_0_2, .int), (cf1_14, .int), (cf2, .int), (cf3, .int)] s := hK
  obtain rfl := hw
  have hr0 := Option.some.inj hsp
  clear hsp
  obtain ⟨hq0, hr1⟩ := Prod.mk.inj hr0
  clear hr0
  obtain ⟨hq1, hr2⟩ := Prod.mk.inj hr1
  clear hr1
  obtain ⟨hq2, hr3⟩ := Prod.mk.inj hr2
  clear hr2
  obtain ⟨hq3, hr4⟩ := Prod.mk.inj hr3
  clear hr3
  subst hq0
  subst hq1
  subst hq2
  subst hq3
  subst hr4
  have hP9 := hP.sub (ws' := [(h0, .inr (6, [.ref qf0, .ref qf1, .ref qf2, .ref qf3, .int u6_3, .int u6_4, .ref qf6, .int v7])), (qf1, .inr (2, [.ref qf1_0, .ref qf1_1, .int v1_2, .ref qf1_3, .ref qf1_4, .ref qf1_5, .ref qf1_6, .ref qf1_7, .ref qf1_8, .ref qf1_9, .ref qf1_10, .ref qf1_11, .ref qf1_12, .ref qf1_13, .ref qf1_14, .ref qf1_15, .ref qf1_16, .ref qf1_17, .ref qf1_18, .ref qf1_19, .int v1_20])), (qf1_18, .inl (cf1_18, 32, .inl f1_18)), (qf2, .inl (cf2, 201, .inl g906_1)), (qf3, .inl (cf3, 201, .inl g906_2)), (qf1_10, .inl (cf1_10, 96, .inl f1_10)), (qf1_9, .inl (cf1_9, 8, .inl f1_9)), (qf1_0, .inr (9, [.ref qf1_0_0, .ref qf1_0_1, .ref qf1_0_2, .int v1_0_3, .ref qf1_0_4, .ref qf1_0_5, .ref qf1_0_6, .ref qf1_0_7, .ref qf1_0_8, .int v1_0_9, .int v1_0_10, .int v1_0_11, .int v1_0_12])), (qf1_0_2, .inl (cf1_0_2, 3001, .inl f1_0_2)), (qf1_14, .inl (cf1_14, 96, .inl f1_14))]) [7, 5, 0, 8, 9, 1, 2, 3, 4, 6] rfl
  have hD9 := hD.sub (ws' := [(h0, .inr (6, [.ref qf0, .ref qf1, .ref qf2, .ref qf3, .int u6_3, .int u6_4, .ref qf6, .int v7])), (qf1, .inr (2, [.ref qf1_0, .ref qf1_1, .int v1_2, .ref qf1_3, .ref qf1_4, .ref qf1_5, .ref qf1_6, .ref qf1_7, .ref qf1_8, .ref qf1_9, .ref qf1_10, .ref qf1_11, .ref qf1_12, .ref qf1_13, .ref qf1_14, .ref qf1_15, .ref qf1_16, .ref qf1_17, .ref qf1_18, .ref qf1_19, .int v1_20])), (qf1_18, .inl (cf1_18, 32, .inl f1_18)), (qf2, .inl (cf2, 201, .inl g906_1)), (qf3, .inl (cf3, 201, .inl g906_2)), (qf1_10, .inl (cf1_10, 96, .inl f1_10)), (qf1_9, .inl (cf1_9, 8, .inl f1_9)), (qf1_0, .inr (9, [.ref qf1_0_0, .ref qf1_0_1, .ref qf1_0_2, .int v1_0_3, .ref qf1_0_4, .ref qf1_0_5, .ref qf1_0_6, .ref qf1_0_7, .ref qf1_0_8, .int v1_0_9, .int v1_0_10, .int v1_0_11, .int v1_0_12])), (qf1_0_2, .inl (cf1_0_2, 3001, .inl f1_0_2)), (qf1_14, .inl (cf1_14, 96, .inl f1_14))]) [7, 5, 0, 8, 9, 1, 2, 3, 4, 6] (by decide) rfl
  have hK9 := hK.sub (tys' := [(cf1_18, .int), (cf2, .int), (cf3, .int), (cf1_10, .int), (cf1_9, .int), (cf1_0_2, .int), (cf1_14, .int)]) [0, 5, 6, 1, 2, 3, 4] rfl
  exact W.iret hx hb hr (fun t ht hW => ⟨⟨(u6_0), (), rfl, rfl, by rw [ht]; exact hP9, va_K.moved hW.alike hK9, hD9⟩, hS.F ht⟩) hS.2.2 dX6_methodOf_50
def lp_t6_beginClass_62 (nf n : Nat) (a1 : Int32) (f1_18 : Nat → Int32) (f2 : Nat → Int32) (f3 : Nat → Int32) (f6 : Nat → Int32) (f1_1_0 : Nat → Int32) (f1_5 : Nat → Int32) (f1_9 : Nat → Int32) (f1_6 : Nat → Int32) (f1_8 : Nat → Int32)  (l1_62 : Int32) (l2_62 : Int32) (l3_62 : Int32) (g2_62 : Nat → Int32) (g3_62 : Nat → Int32) (g6_62 : Nat → Int32) (x4_62 : Int32) (x5_62 : Int32) (x7_62 : Int32) : Option ((Nat → Int32) × (Nat → Int32) × (Nat → Int32) × Int32 × Int32 × Int32) := match n with
  | 0 => none
  | n + 1 => ((sp_t2_fieldsOf nf l1_62 f1_5).bind (fun p8 => (if p8 ≤ l3_62 then ((sp_t2_methodsOf nf l1_62 f1_9).bind (fun p9 => ((sp_t6_put nf p9 x7_62 g6_62).bind (fun p10 => (some (g2_62, g3_62, p10.1, x4_62, x5_62, p10.2)))))) else ((sp_t2_nameOfField nf ((l1_62 * 12) + l3_62) f1_6).bind (fun p11 => ((sp_t6_constant nf 1 p11 x4_62 x5_62 g2_62 g3_62).bind (fun p12 => ((sp_t6_put nf p12.1 x7_62 g6_62).bind (fun p13 => ((sp_t2_kindOfField nf ((l1_62 * 12) + l3_62) f1_8).bind (fun p14 => ((sp_t6_constant nf 1 p14 p12.2.2.2.1 p12.2.2.2.2 p12.2.1 p12.2.2.1).bind (fun p15 => ((sp_t6_put nf p15.1 p13.2 p13.1).bind (fun p16 => (lp_t6_beginClass_62 nf n a1 f1_18 f2 f3 f6 f1_1_0 f1_5 f1_9 f1_6 f1_8 l1_62 l2_62 (l3_62 + 1) p15.2.1 p15.2.2.1 p16.1 p15.2.2.2.1 p15.2.2.2.2 p16.2))))))))))))))))
def sp_t6_beginClass (nf : Nat) (a1 : Int32) (f1_18 : Nat → Int32) (f2 : Nat → Int32) (f3 : Nat → Int32) (f6 : Nat → Int32) (f1_1_0 : Nat → Int32) (f1_5 : Nat → Int32) (f1_9 : Nat → Int32) (f1_6 : Nat → Int32) (f1_8 : Nat → Int32) : Option ((Nat → Int32) × (Nat → Int32) × (Nat → Int32) × Int32 × Int32 × Int32) := ((sp_t6_classOf nf (8 + a1) 0 0 f1_18 f2 f3).bind (fun p1 => ((sp_t6_put nf p1.1 0 f6).bind (fun p2 => ((sp_tk_above nf (8 + a1) f1_1_0).bind (fun p3 => ((sp_t6_classOf nf p3 p1.2.2.2.1 p1.2.2.2.2 f1_18 p1.2.1 p1.2.2.1).bind (fun p4 => ((sp_t6_put nf p4.1 p2.2 p2.1).bind (fun p5 => ((sp_t2_fieldsOf nf a1 f1_5).bind (fun p6 => ((sp_t6_put nf p6 p5.2 p5.1).bind (fun p7 => (lp_t6_beginClass_62 nf nf a1 f1_18 f2 f3 f6 f1_1_0 f1_5 f1_9 f1_6 f1_8 a1 (8 + a1) 0 p4.2.1 p4.2.2.1 p7.1 p4.2.2.2.1 p4.2.2.2.2 p7.2)))))))))))))))
