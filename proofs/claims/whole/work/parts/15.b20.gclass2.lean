set_option maxHeartbeats 4000000 in
set_option maxRecDepth 100000 in
/-- ClassMill$Values.give -/
theorem t10_give (l : Launch) (dC : Nat → ClassId) (dI : Nat → Nat → Nat) (sz : Nat) (h0 : Nat) (a1 : Int32) (qf0 : Nat) (qf1 : Nat) (qf2 : Nat) (qf3 : Nat) (qf4 : Nat) (qf5 : Nat) (qf6 : Nat) (qf7 : Nat) (qf8 : Nat) (qf9 : Nat) (v10 : Int32) (v11 : Int32) (v12 : Int32) (v13 : Int32) (v14 : Int32) (v15 : Int32) (v16 : Int32) (v17 : Int32) (v18 : Int32) (qf3_0 : Nat) (v3_1 : Int32) (qf3_2 : Nat) (v3_3 : Int32) (v3_4 : Int32) (qf3_5 : Nat) (qf3_6 : Nat) (v3_7 : Int32) (v3_8 : Int32) (qf3_9 : Nat) (v3_10 : Int32) (qf3_11 : Nat) (qf3_12 : Nat) (qf3_13 : Nat) (v3_14 : Int32) (v3_15 : Int32) (cf3_2 : ClassId) (f3_2 : (Nat → Int32)) (nf : Nat) (o3_2 : (Nat → Int32)) (w11 : Int32) (w12 : Int32) (w3_3 : Int32) (w3_4 : Int32) (hsp : sp_t10_give nf a1 v3_3 v3_4 f3_2 = some (o3_2, w11, w12, w3_3, w3_4)) : Met l yX10_give (.code yX10_give cX10_give 2 none :: VS_h4) ({ frames := 2, cells := 0, slots := 0, locals := 36 }) (va_Pc [.ref h0, .int a1] (fun U => U.heap.size = sz ∧ va_P (dC, dI) vwCl [(h0, .inr (10, [.ref qf0, .ref qf1, .ref qf2, .ref qf3, .ref qf4, .ref qf5, .ref qf6, .ref qf7, .ref qf8, .ref qf9, .int v10, .int v11, .int v12, .int v13, .int v14, .int v15, .int v16, .int v17, .int v18])), (qf3, .inr (1, [.ref qf3_0, .int v3_1, .ref qf3_2, .int v3_3, .int v3_4, .ref qf3_5, .ref qf3_6, .int v3_7, .int v3_8, .ref qf3_9, .int v3_10, .ref qf3_11, .ref qf3_12, .ref qf3_13, .int v3_14, .int v3_15])), (qf3_2, .inl (cf3_2, 20, .inl f3_2))] U.heap ∧ va_K (dC, dI) vwCl [(cf3_2, .int)] U ∧ va_D (fun _ => True) [(h0, .inr (10, [.ref qf0, .ref qf1, .ref qf2, .ref qf3, .ref qf4, .ref qf5, .ref qf6, .ref qf7, .ref qf8, .ref qf9, .int v10, .int v11, .int v12, .int v13, .int v14, .int v15, .int v16, .int v17, .int v18])), (qf3, .inr (1, [.ref qf3_0, .int v3_1, .ref qf3_2, .int v3_3, .int v3_4, .ref qf3_5, .ref qf3_6, .int v3_7, .int v3_8, .ref qf3_9, .int v3_10, .ref qf3_11, .ref qf3_12, .ref qf3_13, .int v3_14, .int v3_15])), (qf3_2, .inl (cf3_2, 20, .inl f3_2))])) (va_Qv (fun (u : Unit) => match u with | () => True) (fun (u : Unit) (t : State) => match u with | () => va_P (dC, dI) vwCl [(h0, .inr (10, [.ref qf0, .ref qf1, .ref qf2, .ref qf3, .ref qf4, .ref qf5, .ref qf6, .ref qf7, .ref qf8, .ref qf9, .int v10, .int w11, .int w12, .int v13, .int v14, .int v15, .int v16, .int v17, .int v18])), (qf3, .inr (1, [.ref qf3_0, .int v3_1, .ref qf3_2, .int w3_3, .int w3_4, .ref qf3_5, .ref qf3_6, .int v3_7, .int v3_8, .ref qf3_9, .int v3_10, .ref qf3_11, .ref qf3_12, .ref qf3_13, .int v3_14, .int v3_15])), (qf3_2, .inl (cf3_2, 20, .inl o3_2))] t.heap ∧ va_K (dC, dI) vwCl [(cf3_2, .int)] t ∧ va_D (va_A [(h0, .inr (10, [.ref qf0, .ref qf1, .ref qf2, .ref qf3, .ref qf4, .ref qf5, .ref qf6, .ref qf7, .ref qf8, .ref qf9, .int v10, .int v11, .int v12, .int v13, .int v14, .int v15, .int v16, .int v17, .int v18])), (qf3, .inr (1, [.ref qf3_0, .int v3_1, .ref qf3_2, .int v3_3, .int v3_4, .ref qf3_5, .ref qf3_6, .int v3_7, .int v3_8, .ref qf3_9, .int v3_10, .ref qf3_11, .ref qf3_12, .ref qf3_13, .int v3_14, .int v3_15])), (qf3_2, .inl (cf3_2, 20, .inl f3_2))] sz) [(h0, .inr (10, [.ref qf0, .ref qf1, .ref qf2, .ref qf3, .ref qf4, .ref qf5, .ref qf6, .ref qf7, .ref qf8, .ref qf9, .int v10, .int w11, .int w12, .int v13, .int v14, .int v15, .int v16, .int v17, .int v18])), (qf3, .inr (1, [.ref qf3_0, .int v3_1, .ref qf3_2, .int w3_3, .int w3_4, .ref qf3_5, .ref qf3_6, .int v3_7, .int v3_8, .ref qf3_9, .int v3_10, .ref qf3_11, .ref qf3_12, .ref qf3_13, .int v3_14, .int v3_15])), (qf3_2, .inl (cf3_2, 20, .inl o3_2))]) (va_A [(h0, .inr (10, [.ref qf0, .ref qf1, .ref qf2, .ref qf3, .ref qf4, .ref qf5, .ref qf6, .ref qf7, .ref qf8, .ref qf9, .int v10, .int v11, .int v12, .int v13, .int v14, .int v15, .int v16, .int v17, .int v18])), (qf3, .inr (1, [.ref qf3_0, .int v3_1, .ref qf3_2, .int v3_3, .int v3_4, .ref qf3_5, .ref qf3_6, .int v3_7, .int v3_8, .ref qf3_9, .int v3_10, .ref qf3_11, .ref qf3_12, .ref qf3_13, .int v3_14, .int v3_15])), (qf3_2, .inl (cf3_2, 20, .inl f3_2))] sz)) 0 0 (va_A [(h0, .inr (10, [.ref qf0, .ref qf1, .ref qf2, .ref qf3, .ref qf4, .ref qf5, .ref qf6, .ref qf7, .ref qf8, .ref qf9, .int v10, .int v11, .int v12, .int v13, .int v14, .int v15, .int v16, .int v17, .int v18])), (qf3, .inr (1, [.ref qf3_0, .int v3_1, .ref qf3_2, .int v3_3, .int v3_4, .ref qf3_5, .ref qf3_6, .int v3_7, .int v3_8, .ref qf3_9, .int v3_10, .ref qf3_11, .ref qf3_12, .ref qf3_13, .int v3_14, .int v3_15])), (qf3_2, .inl (cf3_2, 20, .inl f3_2))] sz) := by
  refine Met.ofW (cc := cX10_give) (maxL := 2) (ret := none) (by decide) rfl ?_
  intro p e s m args below meth c s₁ B hml hv
  obtain ⟨rfl, hsz, hP, hK, hD0⟩ := hv
  have hx := B.exec
  have hb := B.bytes
  have hr := B.returns
  have hts := atoms_spec (ws := (.code yX10_give cX10_give 2 none :: VS_h4)) B.pre
  replace hts := fun w (h : w ∈ VS_h4) => hts w (List.mem_cons_of_mem _ h)
  have hown : s.vm.findClass RX10 = some m.cls := findClass_of_methodNamed B.named
  have hlocks := B.notSynchronized
  subst hsz
  have hD := hD0.self (sz := s.heap.size)
  generalize hAe : va_A [(h0, .inr (10, [.ref qf0, .ref qf1, .ref qf2, .ref qf3, .ref qf4, .ref qf5, .ref qf6, .ref qf7, .ref qf8, .ref qf9, .int v10, .int v11, .int v12, .int v13, .int v14, .int v15, .int v16, .int v17, .int v18])), (qf3, .inr (1, [.ref qf3_0, .int v3_1, .ref qf3_2, .int v3_3, .int v3_4, .ref qf3_5, .ref qf3_6, .int v3_7, .int v3_8, .ref qf3_9, .int v3_10, .ref qf3_11, .ref qf3_12, .ref qf3_13, .int v3_14, .int v3_15])), (qf3_2, .inl (cf3_2, 20, .inl f3_2))] s.heap.size = A at hD  ⊢
  have hA : ∀ q : Nat, s.heap.size ≤ q → A q := fun q h => by rw [← hAe]; exact Or.inr h
  have hP : va_P (dC, dI) vwCl [(h0, .inr (10, [.ref qf0, .ref qf1, .ref qf2, .ref qf3, .ref qf4, .ref qf5, .ref qf6, .ref qf7, .ref qf8, .ref qf9, .int v10, .int v11, .int v12, .int v13, .int v14, .int v15, .int v16, .int v17, .int v18])), (qf3, .inr (1, [.ref qf3_0, .int v3_1, .ref qf3_2, .int v3_3, .int v3_4, .ref qf3_5, .ref qf3_6, .int v3_7, .int v3_8, .ref qf3_9, .int v3_10, .ref qf3_11, .ref qf3_12, .ref qf3_13, .int v3_14, .int v3_15])), (qf3_2, .inl (cf3_2, 20, .inl f3_2))] s.heap := hP
  have hl := lv_entry ([.ref h0, .int a1]) (n := 2) (Nat.le_of_ble_eq_true rfl)
  rw [lg_entry_eq]
  generalize (lg_sl ([.ref h0, .int a1]) ++ List.replicate (2 - (lg_sl ([.ref h0, .int a1])).length) Slot.unset).toArray = ls at hl ⊢
  have hl : lv_has ls 2 [(0, .ref h0), (1, .int a1)] := hl
  obtain ⟨H, hH⟩ : ∃ H : Heap, s.heap = H := ⟨_, rfl⟩
  rw [hH] at hP ⊢
  have hS : va_S A s.heap H [] := by rw [← hH]; exact va_S.rf
  obtain ⟨locs, hlo⟩ : ∃ locs : List Loc, locs = [] := ⟨_, rfl⟩
  rw [← hlo] at hS ⊢
  unfold sp_t10_give at hsp
  refine lv_aload_n hx hb dX10_give_0 rfl (lv_at hl 0 rfl) ?_
  refine va_get (D := (dC, dI)) (ci := 10) (v := .ref qf3) (C := RX10) (T := TX10) (N := 19) hx hb hts uV_h4_X10 hown hK hP 0 rfl rfl 3 (by decide) (hts (.fieldLink RX10 46 "ClassMill$Values" "code" "LClassMill$Code;") mw_h4_318) (fun _ h9 => h9) rfl dX10_give_1 ?_
  refine lv_iload_n hx hb dX10_give_4 rfl (lv_at hl 1 rfl) ?_
  obtain ⟨⟨g901_0, u1_1, u1_2⟩, hu_1, hsp⟩ := ox_bind hsp
  try dsimp only at hsp
  have hPc := hP.sub (ws' := [(qf3, .inr (1, [.ref qf3_0, .int v3_1, .ref qf3_2, .int v3_3, .int v3_4, .ref qf3_5, .ref qf3_6, .int v3_7, .int v3_8, .ref qf3_9, .int v3_10, .ref qf3_11, .ref qf3_12, .ref qf3_13, .int v3_14, .int v3_15])), (qf3_2, .inl (cf3_2, 20, .inl f3_2))]) [1, 2] rfl
  have hDc := hD.sub (ws' := [(qf3, .inr (1, [.ref qf3_0, .int v3_1, .ref qf3_2, .int v3_3, .int v3_4, .ref qf3_5, .ref qf3_6, .int v3_7, .int v3_8, .ref qf3_9, .int v3_10, .ref qf3_11, .ref qf3_12, .ref qf3_13, .int v3_14, .int v3_15])), (qf3_2, .inl (cf3_2, 20, .inl f3_2))]) [1, 2] (by decide) rfl
  have hKc := hK.sub (tys' := [(cf3_2, .int)]) [0] rfl
  have hFc := va_free (wc := [(qf3, .inr (1, [.ref qf3_0, .int v3_1, .ref qf3_2, .int v3_3, .int v3_4, .ref qf3_5, .ref qf3_6, .int v3_7, .int v3_8, .ref qf3_9, .int v3_10, .ref qf3_11, .ref qf3_12, .ref qf3_13, .int v3_14, .int v3_15])), (qf3_2, .inl (cf3_2, 20, .inl f3_2))]) hD hS hA [1, 2] rfl
  refine va_callv (va_runV (As := [.int a1]) (rest := []) ⟨hx, hb, hml, hown, hts⟩ (t1_push l dC dI H.size qf3 a1 qf3_0 v3_1 qf3_2 v3_3 v3_4 qf3_5 qf3_6 v3_7 v3_8 qf3_9 v3_10 qf3_11 qf3_12 qf3_13 v3_14 v3_15 cf3_2 f3_2 nf g901_0 u1_1 u1_2 hu_1) (cwV 1 hts gv_h4_70 rfl rfl rfl (by decide +kernel) ⟨Nat.le_of_ble_eq_true rfl, Nat.le_of_ble_eq_true rfl⟩) ⟨fun a U g mk q => by obtain ⟨q0, q1, qP, qK, qD⟩ := q; exact ⟨q0, q1, qP, va_K.moved (u := U) (U := U.calling g mk a) (Vm.Alike.refl U.vm) qK, qD⟩, va_recv hKc hPc (ci := 1) (q0 := 0) rfl rfl, fun U hU hW => ⟨rfl, by rw [hU], by rw [hU]; exact hPc, va_K.moved hW.alike hKc, hDc.weaken (fun _ _ _ _ => trivial)⟩⟩ rfl rfl hl.1 rfl (lv_room (Nat.le_of_ble_eq_true rfl)) dX10_give_5 ⟨Nat.le_of_ble_eq_true rfl, Nat.le_of_ble_eq_true rfl⟩) hS (fun q _ h => hFc q h) hFc ?_
  clear hS
  intro u t H1 locs ht hvm hw hB hz1 hk1 hS
  obtain ⟨⟩ := u
  obtain ⟨hP1, hK1, hD1⟩ := hB
  rw [ht] at hP1
  have hK1 := va_K.moved hvm.symm hK1
  try dsimp only at hw
  have hPD := va_join (wr := [(h0, .inr (10, [.ref qf0, .ref qf1, .ref qf2, .ref qf3, .ref qf4, .ref qf5, .ref qf6, .ref qf7, .ref qf8, .ref qf9, .int v10, .int v11, .int v12, .int v13, .int v14, .int v15, .int v16, .int v17, .int v18]))]) (w1 := [(qf3, .inr (1, [.ref qf3_0, .int v3_1, .ref qf3_2, .int u1_1, .int u1_2, .ref qf3_5, .ref qf3_6, .int v3_7, .int v3_8, .ref qf3_9, .int v3_10, .ref qf3_11, .ref qf3_12, .ref qf3_13, .int v3_14, .int v3_15])), (qf3_2, .inl (cf3_2, 20, .inl g901_0))]) hP hD [1, 2] [0] rfl rfl (by decide) (by decide) hk1 hFc hP1 hD1
  clear hP hD
  obtain ⟨hP, hD⟩ := hPD
  replace hK := (hK.sub (tys' := []) [] rfl).app hK1
  clear hPc hDc hKc hFc hP1 hK1 hD1 hz1 hk1 ht hvm
  generalize H1 = H at hP hS ⊢
  replace hP : va_P (dC, dI) vwCl [(h0, .inr (10, [.ref qf0, .ref qf1, .ref qf2, .ref qf3, .ref qf4, .ref qf5, .ref qf6, .ref qf7, .ref qf8, .ref qf9, .int v10, .int v11, .int v12, .int v13, .int v14, .int v15, .int v16, .int v17, .int v18])), (qf3, .inr (1, [.ref qf3_0, .int v3_1, .ref qf3_2, .int u1_1, .int u1_2, .ref qf3_5, .ref qf3_6, .int v3_7, .int v3_8, .ref qf3_9, .int v3_10, .ref qf3_11, .ref qf3_12, .ref qf3_13, .int v3_14, .int v3_15])), (qf3_2, .inl (cf3_2, 20, .inl g901_0))] H := hP
  replace hD : va_D A [(h0, .inr (10, [.ref qf0, .ref qf1, .ref qf2, .ref qf3, .ref qf4, .ref qf5, .ref qf6, .ref qf7, .ref qf8, .ref qf9, .int v10, .int v11, .int v12, .int v13, .int v14, .int v15, .int v16, .int v17, .int v18])), (qf3, .inr (1, [.ref qf3_0, .int v3_1, .ref qf3_2, .int u1_1, .int u1_2, .ref qf3_5, .ref qf3_6, .int v3_7, .int v3_8, .ref qf3_9, .int v3_10, .ref qf3_11, .ref qf3_12, .ref qf3_13, .int v3_14, .int v3_15])), (qf3_2, .inl (cf3_2, 20, .inl g901_0))] := hD
  replace hK : va_K (dC, dI) vwCl [(cf3_2, .int)] s := hK
  refine lv_aload_n hx hb dX10_give_8 rfl (lv_at hl 0 rfl) ?_
  refine lv_iload_n hx hb dX10_give_9 rfl (lv_at hl 1 rfl) ?_
  refine va_put (D := (dC, dI)) (ci := 10) (v := .int a1) (ty := .int) (C := RX10) (T := TX10) (N := 19) hx hb hts uV_h4_X10 tyX10 tyX10_ok nmX10 hown hK hP hD hS 0 rfl rfl 12 (by decide) (hts (.fieldLink RX10 75 "ClassMill$Values" "type" "I") mw_h4_308) (fun _ h9 => h9) rfl (by decide +kernel) rfl rfl (Nat.le_of_ble_eq_true rfl) dX10_give_10 ?_
  clear hP hD hS
  intro H locs hP hD hS
  replace hP : va_P (dC, dI) vwCl [(h0, .inr (10, [.ref qf0, .ref qf1, .ref qf2, .ref qf3, .ref qf4, .ref qf5, .ref qf6, .ref qf7, .ref qf8, .ref qf9, .int v10, .int v11, .int a1, .int v13, .int v14, .int v15, .int v16, .int v17, .int v18])), (qf3, .inr (1, [.ref qf3_0, .int v3_1, .ref qf3_2, .int u1_1, .int u1_2, .ref qf3_5, .ref qf3_6, .int v3_7, .int v3_8, .ref qf3_9, .int v3_10, .ref qf3_11, .ref qf3_12, .ref qf3_13, .int v3_14, .int v3_15])), (qf3_2, .inl (cf3_2, 20, .inl g901_0))] H := hP
  replace hD : va_D A [(h0, .inr (10, [.ref qf0, .ref qf1, .ref qf2, .ref qf3, .ref qf4, .ref qf5, .ref qf6, .ref qf7, .ref qf8, .ref qf9, .int v10, .int v11, .int a1, .int v13, .int v14, .int v15, .int v16, .int v17, .int v18])), (qf3, .inr (1, [.ref qf3_0, .int v3_1, .ref qf3_2, .int u1_1, .int u1_2, .ref qf3_5, .ref qf3_6, .int v3_7, .int v3_8, .ref qf3_9, .int v3_10, .ref qf3_11, .ref qf3_12, .ref qf3_13, .int v3_14, .int v3_15])), (qf3_2, .inl (cf3_2, 20, .inl g901_0))] := hD
  refine lv_aload_n hx hb dX10_give_13 rfl (lv_at hl 0 rfl) ?_
  refine lv_iconst (v := 0) hx hb dX10_give_14 (by decide) ?_
  refine va_put (D := (dC, dI)) (ci := 10) (v := .int 0) (ty := .int) (C := RX10) (T := TX10) (N := 19) hx hb hts uV_h4_X10 tyX10 tyX10_ok nmX10 hown hK hP hD hS 0 rfl rfl 11 (by decide) (hts (.fieldLink RX10 133 "ClassMill$Values" "form" "I") mw_h4_317) (fun _ h9 => h9) rfl (by decide +kernel) rfl rfl (Nat.le_of_ble_eq_true rfl) dX10_give_15 ?_
  clear hP hD hS
  intro H locs hP hD hS
  replace hP : va_P (dC, dI) vwCl [(h0, .inr (10, [.ref qf0, .ref qf1, .ref qf2, .ref qf3, .ref qf4, .ref qf5, .ref qf6, .ref qf7, .ref qf8, .ref qf9, .int v10, .int 0, .int a1, .int v13, .int v14, .int v15, .int v16, .int v17, .int v18])), (qf3, .inr (1, [.ref qf3_0, .int v3_1, .ref qf3_2, .int u1_1, .int u1_2, .ref qf3_5, .ref qf3_6, .int v3_7, .int v3_8, .ref qf3_9, .int v3_10, .ref qf3_11, .ref qf3_12, .ref qf3_13, .int v3_14, .int v3_15])), (qf3_2, .inl (cf3_2, 20, .inl g901_0))] H := hP
  replace hD : va_D A [(h0, .inr (10, [.ref qf0, .ref qf1, .ref qf2, .ref qf3, .ref qf4, .ref qf5, .ref qf6, .ref qf7, .ref qf8, .ref qf9, .int v10, .int 0, .int a1, .int v13, .int v14, .int v15, .int v16, .int v17, .int v18])), (qf3, .inr (1, [.ref qf3_0, .int v3_1, .ref qf3_2, .int u1_1, .int u1_2, .ref qf3_5, .ref qf3_6, .int v3_7, .int v3_8, .ref qf3_9, .int v3_10, .ref qf3_11, .ref qf3_12, .ref qf3_13, .int v3_14, .int v3_15])), (qf3_2, .inl (cf3_2, 20, .inl g901_0))] := hD
  have hr0 := Option.some.inj hsp
  clear hsp
  obtain ⟨hq0, hr1⟩ := Prod.mk.inj hr0
  clear hr0
  obtain ⟨hq1, hr2⟩ := Prod.mk.inj hr1
  clear hr1
  obtain ⟨hq2, hr3⟩ := Prod.mk.inj hr2
  clear hr2
  obtain ⟨hq3, hr4⟩ := Prod.mk.inj hr3
  clear hr3
  subst hq0
  subst hq1
  subst hq2
  subst hq3
  subst hr4
  have hP9 := hP.sub (ws' := [(h0, .inr (10, [.ref qf0, .ref qf1, .ref qf2, .ref qf3, .ref qf4, .ref qf5, .ref qf6, .ref qf7, .ref qf8, .ref qf9, .int v10, .int 0, .int a1, .int v13, .int v14, .int v15, .int v16, .int v17, .int v18])), (qf3, .inr (1, [.ref qf3_0, .int v3_1, .ref qf3_2, .int u1_1, .int u1_2, .ref qf3_5, .ref qf3_6, .int v3_7, .int v3_8, .ref qf3_9, .int v3_10, .ref qf3_11, .ref qf3_12, .ref qf3_13, .int v3_14, .int v3_15])), (qf3_2, .inl (cf3_2, 20, .inl g901_0))]) [0, 1, 2] rfl
  have hD9 := hD.sub (ws' := [(h0, .inr (10, [.ref qf0, .ref qf1, .ref qf2, .ref qf3, .ref qf4, .ref qf5, .ref qf6, .ref qf7, .ref qf8, .ref qf9, .int v10, .int 0, .int a1, .int v13, .int v14, .int v15, .int v16, .int v17, .int v18])), (qf3, .inr (1, [.ref qf3_0, .int v3_1, .ref qf3_2, .int u1_1, .int u1_2, .ref qf3_5, .ref qf3_6, .int v3_7, .int v3_8, .ref qf3_9, .int v3_10, .ref qf3_11, .ref qf3_12, .ref qf3_13, .int v3_14, .int v3_15])), (qf3_2, .inl (cf3_2, 20, .inl g901_0))]) [0, 1, 2] (by decide) rfl
  have hK9 := hK.sub (tys' := [(cf3_2, .int)]) [0] rfl
  exact W.vret hx hb hr (fun t ht hW => ⟨⟨(), rfl, trivial, by rw [ht]; exact hP9, va_K.moved hW.alike hK9, hD9⟩, hS.F ht⟩) hS.2.2 dX10_give_18
def sp_t10_readNumber (nf : Nat) (a1 : Int32) (v4_4 : Int32) (v4_5 : Int32) (f4_2 : Nat → Int32) (f4_3 : Nat → Int32) (v3_1 : Int32) (v3_3 : Int32) (v3_4 : Int32) (f3_0 : Nat → Int32) (f3_2 : Nat → Int32) : Option ((Nat → Int32) × (Nat → Int32) × (Nat → Int32) × (Nat → Int32) × Int32 × Int32 × Int32 × Int32 × Int32 × Int32 × Int32) := (if 5 < a1 then (if 127 < a1 then ((sp_t6_numberOf nf a1 v4_4 v4_5 f4_2 f4_3).bind (fun p1 => ((sp_t1_op_ nf 18 p1.1 v3_1 f3_0).bind (fun p2 => ((sp_t10_give nf 301 v3_3 v3_4 f3_2).bind (fun p3 => (some (p2.1, p3.1, p1.2.1, p1.2.2.1, p3.2.1, p3.2.2.1, p2.2, p3.2.2.2.1, p3.2.2.2.2, p1.2.2.2.1, p1.2.2.2.2)))))))) else ((sp_t1_op_ nf 16 a1 v3_1 f3_0).bind (fun p4 => ((sp_t10_give nf 301 v3_3 v3_4 f3_2).bind (fun p5 => (some (p4.1, p5.1, f4_2, f4_3, p5.2.1, p5.2.2.1, p4.2, p5.2.2.2.1, p5.2.2.2.2, v4_4, v4_5))))))) else ((sp_t1_op nf (3 + a1) v3_1 f3_0).bind (fun p6 => ((sp_t10_give nf 301 v3_3 v3_4 f3_2).bind (fun p7 => (some (p6.1, p7.1, f4_2, f4_3, p7.2.1, p7.2.2.1, p6.2, p7.2.2.2.1, p7.2.2.2.2, v4_4, v4_5)))))))
set_option maxHeartbeats 4000000 in
set_option maxRecDepth 100000 in
/-- ClassMill$Values.readNumber -/
theorem t10_readNumber (l : Launch) (dC : Nat → ClassId) (dI : Nat → Nat → Nat) (sz : Nat) (h0 : Nat) (a1 : Int32) (qf0 : Nat) (qf1 : Nat) (qf2 : Nat) (qf3 : Nat) (qf4 : Nat) (qf5 : Nat) (qf6 : Nat) (qf7 : Nat) (qf8 : Nat) (qf9 : Nat) (v10 : Int32) (v11 : Int32) (v12 : Int32) (v13 : Int32) (v14 : Int32) (v15 : Int32) (v16 : Int32) (v17 : Int32) (v18 : Int32) (qf4_0 : Nat) (qf4_1 : Nat) (qf4_2 : Nat) (qf4_3 : Nat) (v4_4 : Int32) (v4_5 : Int32) (qf4_6 : Nat) (v4_7 : Int32) (cf4_2 : ClassId) (f4_2 : (Nat → Int32)) (cf4_3 : ClassId) (f4_3 : (Nat → Int32)) (qf3_0 : Nat) (v3_1 : Int32) (qf3_2 : Nat) (v3_3 : Int32) (v3_4 : Int32) (qf3_5 : Nat) (qf3_6 : Nat) (v3_7 : Int32) (v3_8 : Int32) (qf3_9 : Nat) (v3_10 : Int32) (qf3_11 : Nat) (qf3_12 : Nat) (qf3_13 : Nat) (v3_14 : Int32) (v3_15 : Int32) (cf3_0 : ClassId) (f3_0 : (Nat → Int32)) (cf3_2 : ClassId) (f3_2 : (Nat → Int32)) (nf : Nat) (o3_0 : (Nat → Int32)) (o3_2 : (Nat → Int32)) (o4_2 : (Nat → Int32)) (o4_3 : (Nat → Int32)) (w11 : Int32) (w12 : Int32) (w3_1 : Int32) (w3_3 : Int32) (w3_4 : Int32) (w4_4 : Int32) (w4_5 : Int32) (hsp : sp_t10_readNumber nf a1 v4_4 v4_5 f4_2 f4_3 v3_1 v3_3 v3_4 f3_0 f3_2 = some (o3_0, o3_2, o4_2, o4_3, w11, w12, w3_1, w3_3, w3_4, w4_4, w4_5)) : Met l yX10_readNumber (.code yX10_readNumber cX10_readNumber 2 none :: VS_h4) ({ frames := 3, cells := 0, slots := 0, locals := 57 }) (va_Pc [.ref h0, .int a1] (fun U => U.heap.size = sz ∧ va_P (dC, dI) vwCl [(h0, .inr (10, [.ref qf0, .ref qf1, .ref qf2, .ref qf3, .ref qf4, .ref qf5, .ref qf6, .ref qf7, .ref qf8, .ref qf9, .int v10, .int v11, .int v12, .int v13, .int v14, .int v15, .int v16, .int v17, .int v18])), (qf4, .inr (6, [.ref qf4_0, .ref qf4_1, .ref qf4_2, .ref qf4_3, .int v4_4, .int v4_5, .ref qf4_6, .int v4_7])), (qf4_2, .inl (cf4_2, 201, .inl f4_2)), (qf4_3, .inl (cf4_3, 201, .inl f4_3)), (qf3, .inr (1, [.ref qf3_0, .int v3_1, .ref qf3_2, .int v3_3, .int v3_4, .ref qf3_5, .ref qf3_6, .int v3_7, .int v3_8, .ref qf3_9, .int v3_10, .ref qf3_11, .ref qf3_12, .ref qf3_13, .int v3_14, .int v3_15])), (qf3_0, .inl (cf3_0, 1500, .inl f3_0)), (qf3_2, .inl (cf3_2, 20, .inl f3_2))] U.heap ∧ va_K (dC, dI) vwCl [(cf4_2, .int), (cf4_3, .int), (cf3_0, .byte), (cf3_2, .int)] U ∧ va_D (fun _ => True) [(h0, .inr (10, [.ref qf0, .ref qf1, .ref qf2, .ref qf3, .ref qf4, .ref qf5, .ref qf6, .ref qf7, .ref qf8, .ref qf9, .int v10, .int v11, .int v12, .int v13, .int v14, .int v15, .int v16, .int v17, .int v18])), (qf4, .inr (6, [.ref qf4_0, .ref qf4_1, .ref qf4_2, .ref qf4_3, .int v4_4, .int v4_5, .ref qf4_6, .int v4_7])), (qf4_2, .inl (cf4_2, 201, .inl f4_2)), (qf4_3, .inl (cf4_3, 201, .inl f4_3)), (qf3, .inr (1, [.ref qf3_0, .int v3_1, .ref qf3_2, .int v3_3, .int v3_4, .ref qf3_5, .ref qf3_6, .int v3_7, .int v3_8, .ref qf3_9, .int v3_10, .ref qf3_11, .ref qf3_12, .ref qf3_13, .int v3_14, .int v3_15])), (qf3_0, .inl (cf3_0, 1500, .inl f3_0)), (qf3_2, .inl (cf3_2, 20, .inl f3_2))])) (va_Qv (fun (u : Unit) => match u with | () => True) (fun (u : Unit) (t : State) => match u with | () => va_P (dC, dI) vwCl [(h0, .inr (10, [.ref qf0, .ref qf1, .ref qf2, .ref qf3, .ref qf4, .ref qf5, .ref qf6, .ref qf7, .ref qf8, .ref qf9, .int v10, .int w11, .int w12, .int v13, .int v14, .int v15, .int v16, .int v17, .int v18])), (qf4, .inr (6, [.ref qf4_0, .ref qf4_1, .ref qf4_2, .ref qf4_3, .int w4_4, .int w4_5, .ref qf4_6, .int v4_7])), (qf4_2, .inl (cf4_2, 201, .inl o4_2)), (qf4_3, .inl (cf4_3, 201, .inl o4_3)), (qf3, .inr (1, [.ref qf3_0, .int w3_1, .ref qf3_2, .int w3_3, .int w3_4, .ref qf3_5, .ref qf3_6, .int v3_7, .int v3_8, .ref qf3_9, .int v3_10, .ref qf3_11, .ref qf3_12, .ref qf3_13, .int v3_14, .int v3_15])), (qf3_0, .inl (cf3_0, 1500, .inl o3_0)), (qf3_2, .inl (cf3_2, 20, .inl o3_2))] t.heap ∧ va_K (dC, dI) vwCl [(cf4_2, .int), (cf4_3, .int), (cf3_0, .byte), (cf3_2, .int)] t ∧ va_D (va_A [(h0, .inr (10, [.ref qf0, .ref qf1, .ref qf2, .ref qf3, .ref qf4, .ref qf5, .ref qf6, .ref qf7, .ref qf8, .ref qf9, .int v10, .int v11, .int v12, .int v13, .int v14, .int v15, .int v16, .int v17, .int v18])), (qf4, .inr (6, [.ref qf4_0, .ref qf4_1, .ref qf4_2, .ref qf4_3, .int v4_4, .int v4_5, .ref qf4_6, .int v4_7])), (qf4_2, .inl (cf4_2, 201, .inl f4_2)), (qf4_3, .inl (cf4_3, 201, .inl f4_3)), (qf3, .inr (1, [.ref qf3_0, .int v3_1, .ref qf3_2, .int v3_3, .int v3_4, .ref qf3_5, .ref qf3_6, .int v3_7, .int v3_8, .ref qf3_9, .int v3_10, .ref qf3_11, .ref qf3_12, .ref qf3_13, .int v3_14, .int v3_15])), (qf3_0, .inl (cf3_0, 1500, .inl f3_0)), (qf3_2, .inl (cf3_2, 20, .inl f3_2))] sz) [(h0, .inr (10, [.ref qf0, .ref qf1, .ref qf2, .ref qf3, .ref qf4, .ref qf5, .ref qf6, .ref qf7, .ref qf8, .ref qf9, .int v10, .int w11, .int w12, .int v13, .int v14, .int v15, .int v16, .int v17, .int v18])), (qf4, .inr (6, [.ref qf4_0, .ref qf4_1, .ref qf4_2, .ref qf4_3, .int w4_4, .int w4_5, .ref qf4_6, .int v4_7])), (qf4_2, .inl (cf4_2, 201, .inl o4_2)), (qf4_3, .inl (cf4_3, 201, .inl o4_3)), (qf3, .inr (1, [.ref qf3_0, .int w3_1, .ref qf3_2, .int w3_3, .int w3_4, .ref qf3_5, .ref qf3_6, .int v3_7, .int v3_8, .ref qf3_9, .int v3_10, .ref qf3_11, .ref qf3_12, .ref qf3_13, .int v3_14, .int v3_15])), (qf3_0, .inl (cf3_0, 1500, .inl o3_0)), (qf3_2, .inl (cf3_2, 20, .inl o3_2))]) (va_A [(h0, .inr (10, [.ref qf0, .ref qf1, .ref qf2, .ref qf3, .ref qf4, .ref qf5, .ref qf6, .ref qf7, .ref qf8, .ref qf9, .int v10, .int v11, .int v12, .int v13, .int v14, .int v15, .int v16, .int v17, .int v18])), (qf4, .inr (6, [.ref qf4_0, .ref qf4_1, .ref qf4_2, .ref qf4_3, .int v4_4, .int v4_5, .ref qf4_6, .int v4_7])), (qf4_2, .inl (cf4_2, 201, .inl f4_2)), (qf4_3, .inl (cf4_3, 201, .inl f4_3)), (qf3, .inr (1, [.ref qf3_0, .int v3_1, .ref qf3_2, .int v3_3, .int v3_4, .ref qf3_5, .ref qf3_6, .int v3_7, .int v3_8, .ref qf3_9, .int v3_10, .ref qf3_11, .ref qf3_12, .ref qf3_13, .int v3_14, .int v3_15])), (qf3_0, .inl (cf3_0, 1500, .inl f3_0)), (qf3_2, .inl (cf3_2, 20, .inl f3_2))] sz)) 0 0 (va_A [(h0, .inr (10, [.ref qf0, .ref qf1, .ref qf2, .ref qf3, .ref qf4, .ref qf5, .ref qf6, .ref qf7, .ref qf8, .ref qf9, .int v10, .int v11, .int v12, .int v13, .int v14, .int v15, .int v16, .int v17, .int v18])), (qf4, .inr (6, [.ref qf4_0, .ref qf4_1, .ref qf4_2, .ref qf4_3, .int v4_4, .int v4_5, .ref qf4_6, .int v4_7])), (qf4_2, .inl (cf4_2, 201, .inl f4_2)), (qf4_3, .inl (cf4_3, 201, .inl f4_3)), (qf3, .inr (1, [.ref qf3_0, .int v3_1, .ref qf3_2, .int v3_3, .int v3_4, .ref qf3_5, .ref qf3_6, .int v3_7, .int v3_8, .ref qf3_9, .int v3_10, .ref qf3_11, .ref qf3_12, .ref qf3_13, .int v3_14, .int v3_15])), (qf3_0, .inl (cf3_0, 1500, .inl f3_0)), (qf3_2, .inl (cf3_2, 20, .inl f3_2))] sz) := by
  refine Met.ofW (cc := cX10_readNumber) (maxL := 2) (ret := none) (by decide) rfl ?_
  intro p e s m args below meth c s₁ B hml hv
  obtain ⟨rfl, hsz, hP, hK, hD0⟩ := hv
  have hx := B.exec
  have hb := B.bytes
  have hr := B.returns
  have hts := atoms_spec (ws := (.code yX10_readNumber cX10_readNumber 2 none :: VS_h4)) B.pre
  replace hts := fun w (h : w ∈ VS_h4) => hts w (List.mem_cons_of_mem _ h)
  have hown : s.vm.findClass RX10 = some m.cls := findClass_of_methodNamed B.named
  have hlocks := B.notSynchronized
  subst hsz
  have hD := hD0.self (sz := s.heap.size)
  generalize hAe : va_A [(h0, .inr (10, [.ref qf0, .ref qf1, .ref qf2, .ref qf3, .ref qf4, .ref qf5, .ref qf6, .ref qf7, .ref qf8, .ref qf9, .int v10, .int v11, .int v12, .int v13, .int v14, .int v15, .int v16, .int v17, .int v18])), (qf4, .inr (6, [.ref qf4_0, .ref qf4_1, .ref qf4_2, .ref qf4_3, .int v4_4, .int v4_5, .ref qf4_6, .int v4_7])), (qf4_2, .inl (cf4_2, 201, .inl f4_2)), (qf4_3, .inl (cf4_3, 201, .inl f4_3)), (qf3, .inr (1, [.ref qf3_0, .int v3_1, .ref qf3_2, .int v3_3, .int v3_4, .ref qf3_5, .ref qf3_6, .int v3_7, .int v3_8, .ref qf3_9, .int v3_10, .ref qf3_11, .ref qf3_12, .ref qf3_13, .int v3_14, .int v3_15])), (qf3_0, .inl (cf3_0, 1500, .inl f3_0)), (qf3_2, .inl (cf3_2, 20, .inl f3_2))] s.heap.size = A at hD  ⊢
  have hA : ∀ q : Nat, s.heap.size ≤ q → A q := fun q h => by rw [← hAe]; exact Or.inr h
  have hP : va_P (dC, dI) vwCl [(h0, .inr (10, [.ref qf0, .ref qf1, .ref qf2, .ref qf3, .ref qf4, .ref qf5, .ref qf6, .ref qf7, .ref qf8, .ref qf9, .int v10, .int v11, .int v12, .int v13, .int v14, .int v15, .int v16, .int v17, .int v18])), (qf4, .inr (6, [.ref qf4_0, .ref qf4_1, .ref qf4_2, .ref qf4_3, .int v4_4, .int v4_5, .ref qf4_6, .int v4_7])), (qf4_2, .inl (cf4_2, 201, .inl f4_2)), (qf4_3, .inl (cf4_3, 201, .inl f4_3)), (qf3, .inr (1, [.ref qf3_0, .int v3_1, .ref qf3_2, .int v3_3, .int v3_4, .ref qf3_5, .ref qf3_6, .int v3_7, .int v3_8, .ref qf3_9, .int v3_10, .ref qf3_11, .ref qf3_12, .ref qf3_13, .int v3_14, .int v3_15])), (qf3_0, .inl (cf3_0, 1500, .inl f3_0)), (qf3_2, .inl (cf3_2, 20, .inl f3_2))] s.heap := hP
  have hl := lv_entry ([.ref h0, .int a1]) (n := 2) (Nat.le_of_ble_eq_true rfl)
  rw [lg_entry_eq]
  generalize (lg_sl ([.ref h0, .int a1]) ++ List.replicate (2 - (lg_sl ([.ref h0, .int a1])).length) Slot.unset).toArray = ls at hl ⊢
  have hl : lv_has ls 2 [(0, .ref h0), (1, .int a1)] := hl
  obtain ⟨H, hH⟩ : ∃ H : Heap, s.heap = H := ⟨_, rfl⟩
  rw [hH] at hP ⊢
  have hS : va_S A s.heap H [] := by rw [← hH]; exact va_S.rf
  obtain ⟨locs, hlo⟩ : ∃ locs : List Loc, locs = [] := ⟨_, rfl⟩
  rw [← hlo] at hS ⊢
  unfold sp_t10_readNumber at hsp
  refine lv_iload_n hx hb dX10_readNumber_0 rfl (lv_at hl 1 rfl) ?_
  refine lv_iconst (v := 5) hx hb dX10_readNumber_1 (by decide) ?_
  refine lv_icmp_gt (tgt := 18) hx hb dX10_readNumber_2 (by decide) (fun c_1 => ?_) (fun c_1 => ?_)
  · rw [if_pos c_1] at hsp
    refine lv_iload_n hx hb dX10_readNumber_18 rfl (lv_at hl 1 rfl) ?_
    refine lv_bipush (v := 127) hx hb dX10_readNumber_19 (by decide) ?_
    refine lv_icmp_gt (tgt := 37) hx hb dX10_readNumber_21 (by decide) (fun c_2 => ?_) (fun c_2 => ?_)
    · rw [if_pos c_2] at hsp
      refine lv_aload_n hx hb dX10_readNumber_37 rfl (lv_at hl 0 rfl) ?_
      refine va_get (D := (dC, dI)) (ci := 10) (v := .ref qf3) (C := RX10) (T := TX10) (N := 19) hx hb hts uV_h4_X10 hown hK hP 0 rfl rfl 3 (by decide) (hts (.fieldLink RX10 46 "ClassMill$Values" "code" "LClassMill$Code;") mw_h4_318) (fun _ h9 => h9) rfl dX10_readNumber_38 ?_
      refine lv_bipush (v := 18) hx hb dX10_readNumber_41 (by decide) ?_
      refine lv_aload_n hx hb dX10_readNumber_43 rfl (lv_at hl 0 rfl) ?_
      refine va_get (D := (dC, dI)) (ci := 10) (v := .ref qf4) (C := RX10) (T := TX10) (N := 19) hx hb hts uV_h4_X10 hown hK hP 0 rfl rfl 4 (by decide) (hts (.fieldLink RX10 50 "ClassMill$Values" "pool" "LClassMill$Pool;") mw_h4_319) (fun _ h9 => h9) rfl dX10_readNumber_44 ?_
      refine lv_iload_n hx hb dX10_readNumber_47 rfl (lv_at hl 1 rfl) ?_
      obtain ⟨⟨u1_0, g901_1, g901_2, u1_3, u1_4⟩, hu_1, hsp⟩ := ox_bind hsp
      try dsimp only at hsp
      have hPc := hP.sub (ws' := [(qf4, .inr (6, [.ref qf4_0, .ref qf4_1, .ref qf4_2, .ref qf4_3, .int v4_4, .int v4_5, .ref qf4_6, .int v4_7])), (qf4_2, .inl (cf4_2, 201, .inl f4_2)), (qf4_3, .inl (cf4_3, 201, .inl f4_3))]) [1, 2, 3] rfl
      have hDc := hD.sub (ws' := [(qf4, .inr (6, [.ref qf4_0, .ref qf4_1, .ref qf4_2, .ref qf4_3, .int v4_4, .int v4_5, .ref qf4_6, .int v4_7])), (qf4_2, .inl (cf4_2, 201, .inl f4_2)), (qf4_3, .inl (cf4_3, 201, .inl f4_3))]) [1, 2, 3] (by decide) rfl
      have hKc := hK.sub (tys' := [(cf4_2, .int), (cf4_3, .int)]) [0, 1] rfl
      have hFc := va_free (wc := [(qf4, .inr (6, [.ref qf4_0, .ref qf4_1, .ref qf4_2, .ref qf4_3, .int v4_4, .int v4_5, .ref qf4_6, .int v4_7])), (qf4_2, .inl (cf4_2, 201, .inl f4_2)), (qf4_3, .inl (cf4_3, 201, .inl f4_3))]) hD hS hA [1, 2, 3] rfl
      refine va_calli (va_runV (As := [.int a1]) (rest := [.int 18, .ref qf3]) ⟨hx, hb, hml, hown, hts⟩ (t6_numberOf l dC dI H.size qf4 a1 qf4_0 qf4_1 qf4_2 qf4_3 v4_4 v4_5 qf4_6 v4_7 cf4_2 f4_2 cf4_3 f4_3 nf u1_0 g901_1 g901_2 u1_3 u1_4 hu_1) (cwV 1 hts gv_h4_78 rfl rfl rfl (by decide +kernel) ⟨Nat.le_of_ble_eq_true rfl, Nat.le_of_ble_eq_true rfl⟩) ⟨fun a U g mk q => by obtain ⟨q0, q1, qP, qK, qD⟩ := q; exact ⟨q0, q1, qP, va_K.moved (u := U) (U := U.calling g mk a) (Vm.Alike.refl U.vm) qK, qD⟩, va_recv hKc hPc (ci := 6) (q0 := 0) rfl rfl, fun U hU hW => ⟨rfl, by rw [hU], by rw [hU]; exact hPc, va_K.moved hW.alike hKc, hDc.weaken (fun _ _ _ _ => trivial)⟩⟩ rfl rfl hl.1 rfl (lv_room (Nat.le_of_ble_eq_true rfl)) dX10_readNumber_48 ⟨Nat.le_of_ble_eq_true rfl, Nat.le_of_ble_eq_true rfl⟩) hS (fun q _ h => hFc q h) hFc ?_
      clear hS
      intro r_3 u t H1 locs ht hvm hw hB hz1 hk1 hS
      obtain ⟨⟩ := u
      obtain ⟨hP1, hK1, hD1⟩ := hB
      rw [ht] at hP1
      have hK1 := va_K.moved hvm.symm hK1
      try dsimp only at hw
      have hPD := va_join (wr := [(h0, .inr (10, [.ref qf0, .ref qf1, .ref qf2, .ref qf3, .ref qf4, .ref qf5, .ref qf6, .ref qf7, .ref qf8, .ref qf9, .int v10, .int v11, .int v12, .int v13, .int v14, .int v15, .int v16, .int v17, .int v18])), (qf3, .inr (1, [.ref qf3_0, .int v3_1, .ref qf3_2, .int v3_3, .int v3_4, .ref qf3_5, .ref qf3_6, .int v3_7, .int v3_8, .ref qf3_9, .int v3_10, .ref qf3_11, .ref qf3_12, .ref qf3_13, .int v3_14, .int v3_15])), (qf3_0, .inl (cf3_0, 1500, .inl f3_0)), (qf3_2, .inl (cf3_2, 20, .inl f3_2))]) (w1 := [(qf4, .inr (6, [.ref qf4_0, .ref qf4_1, .ref qf4_2, .ref qf4_3, .int u1_3, .int u1_4, .ref qf4_6, .int v4_7])), (qf4_2, .inl (cf4_2, 201, .inl g901_1)), (qf4_3, .inl (cf4_3, 201, .inl g901_2))]) hP hD [1, 2, 3] [0, 4, 5, 6] rfl rfl (by decide) (by decide) hk1 hFc hP1 hD1
      clear hP hD
      obtain ⟨hP, hD⟩ := hPD
      replace hK := (hK.sub (tys' := [(cf3_0, .byte), (cf3_2, .int)]) [2, 3] rfl).app hK1
      clear hPc hDc hKc hFc hP1 hK1 hD1 hz1 hk1 ht hvm
      generalize H1 = H at hP hS ⊢
      replace hP : va_P (dC, dI) vwCl [(h0, .inr (10, [.ref qf0, .ref qf1, .ref qf2, .ref qf3, .ref qf4, .ref qf5, .ref qf6, .ref qf7, .ref qf8, .ref qf9, .int v10, .int v11, .int v12, .int v13, .int v14, .int v15, .int v16, .int v17, .int v18])), (qf3, .inr (1, [.ref qf3_0, .int v3_1, .ref qf3_2, .int v3_3, .int v3_4, .ref qf3_5, .ref qf3_6, .int v3_7, .int v3_8, .ref qf3_9, .int v3_10, .ref qf3_11, .ref qf3_12, .ref qf3_13, .int v3_14, .int v3_15])), (qf3_0, .inl (cf3_0, 1500, .inl f3_0)), (qf3_2, .inl (cf3_2, 20, .inl f3_2)), (qf4, .inr (6, [.ref qf4_0, .ref qf4_1, .ref qf4_2, .ref qf4_3, .int u1_3, .int u1_4, .ref qf4_6, .int v4_7])), (qf4_2, .inl (cf4_2, 201, .inl g901_1)), (qf4_3, .inl (cf4_3, 201, .inl g901_2))] H := hP
      replace hD : va_D A [(h0, .inr (10, [.ref qf0, .ref qf1, .ref qf2, .ref qf3, .ref qf4, .ref qf5, .ref qf6, .ref qf7, .ref qf8, .ref qf9, .int v10, .int v11, .int v12, .int v13, .int v14, .int v15, .int v16, .int v17, .int v18])), (qf3, .inr (1, [.ref qf3_0, .int v3_1, .ref qf3_2, .int v3_3, .int v3_4, .ref qf3_5, .ref qf3_6, .int v3_7, .int v3_8, .ref qf3_9, .int v3_10, .ref qf3_11, .ref qf3_12, .ref qf3_13, .int v3_14, .int v3_15])), (qf3_0, .inl (cf3_0, 1500, .inl f3_0)), (qf3_2, .inl (cf3_2, 20, .inl f3_2)), (qf4, .inr (6, [.ref qf4_0, .ref qf4_1, .ref qf4_2, .ref qf4_3, .int u1_3, .int u1_4, .ref qf4_6, .int v4_7])), (qf4_2, .inl (cf4_2, 201, .inl g901_1)), (qf4_3, .inl (cf4_3, 201, .inl g901_2))] := hD
      replace hK : va_K (dC, dI) vwCl [(cf3_0, .byte), (cf3_2, .int), (cf4_2, .int), (cf4_3, .int)] s := hK
      obtain rfl := hw
      obtain ⟨⟨g902_0, u2_1⟩, hu_2, hsp⟩ := ox_bind hsp
      try dsimp only at hsp
      have hPc := hP.sub (ws' := [(qf3, .inr (1, [.ref qf3_0, .int v3_1, .ref qf3_2, .int v3_3, .int v3_4, .ref qf3_5, .ref qf3_6, .int v3_7, .int v3_8, .ref qf3_9, .int v3_10, .ref qf3_11, .ref qf3_12, .ref qf3_13, .int v3_14, .int v3_15])), (qf3_0, .inl (cf3_0, 1500, .inl f3_0))]) [1, 2] rfl
      have hDc := hD.sub (ws' := [(qf3, .inr (1, [.ref qf3_0, .int v3_1, .ref qf3_2, .int v3_3, .int v3_4, .ref qf3_5, .ref qf3_6, .int v3_7, .int v3_8, .ref qf3_9, .int v3_10, .ref qf3_11, .ref qf3_12, .ref qf3_13, .int v3_14, .int v3_15])), (qf3_0, .inl (cf3_0, 1500, .inl f3_0))]) [1, 2] (by decide) rfl
      have hKc := hK.sub (tys' := [(cf3_0, .byte)]) [0] rfl
      have hFc := va_free (wc := [(qf3, .inr (1, [.ref qf3_0, .int v3_1, .ref qf3_2, .int v3_3, .int v3_4, .ref qf3_5, .ref qf3_6, .int v3_7, .int v3_8, .ref qf3_9, .int v3_10, .ref qf3_11, .ref qf3_12, .ref qf3_13, .int v3_14, .int v3_15])), (qf3_0, .inl (cf3_0, 1500, .inl f3_0))]) hD hS hA [1, 2] rfl
      refine va_callv (va_runV (As := [.int 18, .int u1_0]) (rest := []) ⟨hx, hb, hml, hown, hts⟩ (t1_op_ l dC dI H.size qf3 18 u1_0 qf3_0 v3_1 qf3_2 v3_3 v3_4 qf3_5 qf3_6 v3_7 v3_8 qf3_9 v3_10 qf3_11 qf3_12 qf3_13 v3_14 v3_15 cf3_0 f3_0 nf g902_0 u2_1 hu_2) (cwV 2 hts gv_h4_71 rfl rfl rfl (by decide +kernel) ⟨Nat.le_of_ble_eq_true rfl, Nat.le_of_ble_eq_true rfl⟩) ⟨fun a U g mk q => by obtain ⟨q0, q1, qP, qK, qD⟩ := q; exact ⟨q0, q1, qP, va_K.moved (u := U) (U := U.calling g mk a) (Vm.Alike.refl U.vm) qK, qD⟩, va_recv hKc hPc (ci := 1) (q0 := 0) rfl rfl, fun U hU hW => ⟨rfl, by rw [hU], by rw [hU]; exact hPc, va_K.moved hW.alike hKc, hDc.weaken (fun _ _ _ _ => trivial)⟩⟩ rfl rfl hl.1 rfl (lv_room (Nat.le_of_ble_eq_true rfl)) dX10_readNumber_51 ⟨Nat.le_of_ble_eq_true rfl, Nat.le_of_ble_eq_true rfl⟩) hS (fun q _ h => hFc q h) hFc ?_
      clear hS
      intro u t H1 locs ht hvm hw hB hz1 hk1 hS
      obtain ⟨⟩ := u
      obtain ⟨hP1, hK1, hD1⟩ := hB
      rw [ht] at hP1
      have hK1 := va_K.moved hvm.symm hK1
      try dsimp only at hw
      have hPD := va_join (wr := [(h0, .inr (10, [.ref qf0, .ref qf1, .ref qf2, .ref qf3, .ref qf4, .ref qf5, .ref qf6, .ref qf7, .ref qf8, .ref qf9, .int v10, .int v11, .int v12, .int v13, .int v14, .int v15, .int v16, .int v17, .int v18])), (qf3_2, .inl (cf3_2, 20, .inl f3_2)), (qf4, .inr (6, [.ref qf4_0, .ref qf4_1, .ref qf4_2, .ref qf4_3, .int u1_3, .int u1_4, .ref qf4_6, .int v4_7])), (qf4_2, .inl (cf4_2, 201, .inl g901_1)), (qf4_3, .inl (cf4_3, 201, .inl g901_2))]) (w1 := [(qf3, .inr (1, [.ref qf3_0, .int u2_1, .ref qf3_2, .int v3_3, .int v3_4, .ref qf3_5, .ref qf3_6, .int v3_7, .int v3_8, .ref qf3_9, .int v3_10, .ref qf3_11, .ref qf3_12, .ref qf3_13, .int v3_14, .int v3_15])), (qf3_0, .inl (cf3_0, 1500, .inl g902_0))]) hP hD [1, 2] [0, 3, 4, 5, 6] rfl rfl (by decide) (by decide) hk1 hFc hP1 hD1
      clear hP hD
      obtain ⟨hP, hD⟩ := hPD
      replace hK := (hK.sub (tys' := [(cf3_2, .int), (cf4_2, .int), (cf4_3, .int)]) [1, 2, 3] rfl).app hK1
      clear hPc hDc hKc hFc hP1 hK1 hD1 hz1 hk1 ht hvm
      generalize H1 = H at hP hS ⊢
      replace hP : va_P (dC, dI) vwCl [(h0, .inr (10, [.ref qf0, .ref qf1, .ref qf2, .ref qf3, .ref qf4, .ref qf5, .ref qf6, .ref qf7, .ref qf8, .ref qf9, .int v10, .int v11, .int v12, .int v13, .int v14, .int v15, .int v16, .int v17, .int v18])), (qf3_2, .inl (cf3_2, 20, .inl f3_2)), (qf4, .inr (6, [.ref qf4_0, .ref qf4_1, .ref qf4_2, .ref qf4_3, .int u1_3, .int u1_4, .ref qf4_6, .int v4_7])), (qf4_2, .inl (cf4_2, 201, .inl g901_1)), (qf4_3, .inl (cf4_3, 201, .inl g901_2)), (qf3, .inr (1, [.ref qf3_0, .int u2_1, .ref qf3_2, .int v3_3, .int v3_4, .ref qf3_5, .ref qf3_6, .int v3_7, .int v3_8, .ref qf3_9, .int v3_10, .ref qf3_11, .ref qf3_12, .ref qf3_13, .int v3_14, .int v3_15])), (qf3_0, .inl (cf3_0, 1500, .inl g902_0))] H := hP
      replace hD : va_D A [(h0, .inr (10, [.ref qf0, .ref qf1, .ref qf2, .ref qf3, .ref qf4, .ref qf5, .ref qf6, .ref qf7, .ref qf8, .ref qf9, .int v10, .int v11, .int v12, .int v13, .int v14, .int v15, .int v16, .int v17, .int v18])), (qf3_2, .inl (cf3_2, 20, .inl f3_2)), (qf4, .inr (6, [.ref qf4_0, .ref qf4_1, .ref qf4_2, .ref qf4_3, .int u1_3, .int u1_4, .ref qf4_6, .int v4_7])), (qf4_2, .inl (cf4_2, 201, .inl g901_1)), (qf4_3, .inl (cf4_3, 201, .inl g901_2)), (qf3, .inr (1, [.ref qf3_0, .int u2_1, .ref qf3_2, .int v3_3, .int v3_4, .ref qf3_5, .ref qf3_6, .int v3_7, .int v3_8, .ref qf3_9, .int v3_10, .ref qf3_11, .ref qf3_12, .ref qf3_13, .int v3_14, .int v3_15])), (qf3_0, .inl (cf3_0, 1500, .inl g902_0))] := hD
      replace hK : va_K (dC, dI) vwCl [(cf3_2, .int), (cf4_2, .int), (cf4_3, .int), (cf3_0, .byte)] s := hK
      refine lv_aload_n hx hb dX10_readNumber_54 rfl (lv_at hl 0 rfl) ?_
      refine lv_sipush (v := 301) hx hb dX10_readNumber_55 (by decide) ?_
      obtain ⟨⟨g903_0, u3_1, u3_2, u3_3, u3_4⟩, hu_3, hsp⟩ := ox_bind hsp
      try dsimp only at hsp
      have hPc := hP.sub (ws' := [(h0, .inr (10, [.ref qf0, .ref qf1, .ref qf2, .ref qf3, .ref qf4, .ref qf5, .ref qf6, .ref qf7, .ref qf8, .ref qf9, .int v10, .int v11, .int v12, .int v13, .int v14, .int v15, .int v16, .int v17, .int v18])), (qf3, .inr (1, [.ref qf3_0, .int u2_1, .ref qf3_2, .int v3_3, .int v3_4, .ref qf3_5, .ref qf3_6, .int v3_7, .int v3_8, .ref qf3_9, .int v3_10, .ref qf3_11, .ref qf3_12, .ref qf3_13, .int v3_14, .int v3_15])), (qf3_2, .inl (cf3_2, 20, .inl f3_2))]) [0, 5, 1] rfl
      have hDc := hD.sub (ws' := [(h0, .inr (10, [.ref qf0, .ref qf1, .ref qf2, .ref qf3, .ref qf4, .ref qf5, .ref qf6, .ref qf7, .ref qf8, .ref qf9, .int v10, .int v11, .int v12, .int v13, .int v14, .int v15, .int v16, .int v17, .int v18])), (qf3, .inr (1, [.ref qf3_0, .int u2_1, .ref qf3_2, .int v3_3, .int v3_4, .ref qf3_5, .ref qf3_6, .int v3_7, .int v3_8, .ref qf3_9, .int v3_10, .ref qf3_11, .ref qf3_12, .ref qf3_13, .int v3_14, .int v3_15])), (qf3_2, .inl (cf3_2, 20, .inl f3_2))]) [0, 5, 1] (by decide) rfl
      have hKc := hK.sub (tys' := [(cf3_2, .int)]) [0] rfl
      have hFc := va_free (wc := [(h0, .inr (10, [.ref qf0, .ref qf1, .ref qf2, .ref qf3, .ref qf4, .ref qf5, .ref qf6, .ref qf7, .ref qf8, .ref qf9, .int v10, .int v11, .int v12, .int v13, .int v14, .int v15, .int v16, .int v17, .int v18])), (qf3, .inr (1, [.ref qf3_0, .int u2_1, .ref qf3_2, .int v3_3, .int v3_4, .ref qf3_5, .ref qf3_6, .int v3_7, .int v3_8, .ref qf3_9, .int v3_10, .ref qf3_11, .ref qf3_12, .ref qf3_13, .int v3_14, .int v3_15])), (qf3_2, .inl (cf3_2, 20, .inl f3_2))]) hD hS hA [0, 5, 1] rfl
      refine va_callv (va_runV (As := [.int 301]) (rest := []) ⟨hx, hb, hml, hown, hts⟩ (t10_give l dC dI H.size h0 301 qf0 qf1 qf2 qf3 qf4 qf5 qf6 qf7 qf8 qf9 v10 v11 v12 v13 v14 v15 v16 v17 v18 qf3_0 u2_1 qf3_2 v3_3 v3_4 qf3_5 qf3_6 v3_7 v3_8 qf3_9 v3_10 qf3_11 qf3_12 qf3_13 v3_14 v3_15 cf3_2 f3_2 nf g903_0 u3_1 u3_2 u3_3 u3_4 hu_3) (cwV 1 hts gv_h4_79 rfl rfl rfl (by decide +kernel) ⟨Nat.le_of_ble_eq_true rfl, Nat.le_of_ble_eq_true rfl⟩) ⟨fun a U g mk q => by obtain ⟨q0, q1, qP, qK, qD⟩ := q; exact ⟨q0, q1, qP, va_K.moved (u := U) (U := U.calling g mk a) (Vm.Alike.refl U.vm) qK, qD⟩, va_recv hKc hPc (ci := 10) (q0 := 0) rfl rfl, fun U hU hW => ⟨rfl, by rw [hU], by rw [hU]; exact hPc, va_K.moved hW.alike hKc, hDc.weaken (fun _ _ _ _ => trivial)⟩⟩ rfl rfl hl.1 rfl (lv_room (Nat.le_of_ble_eq_true rfl)) dX10_readNumber_58 ⟨Nat.le_of_ble_eq_true rfl, Nat.le_of_ble_eq_true rfl⟩) hS (fun q _ h => hFc q h) hFc ?_
      clear hS
      intro u t H1 locs ht hvm hw hB hz1 hk1 hS
      obtain ⟨⟩ := u
      obtain ⟨hP1, hK1, hD1⟩ := hB
      rw [ht] at hP1
      have hK1 := va_K.moved hvm.symm hK1
      try dsimp only at hw
      have hPD := va_join (wr := [(qf4, .inr (6, [.ref qf4_0, .ref qf4_1, .ref qf4_2, .ref qf4_3, .int u1_3, .int u1_4, .ref qf4_6, .int v4_7])), (qf4_2, .inl (cf4_2, 201, .inl g901_1)), (qf4_3, .inl (cf4_3, 201, .inl g901_2)), (qf3_0, .inl (cf3_0, 1500, .inl g902_0))]) (w1 := [(h0, .inr (10, [.ref qf0, .ref qf1, .ref qf2, .ref qf3, .ref qf4, .ref qf5, .ref qf6, .ref qf7, .ref qf8, .ref qf9, .int v10, .int u3_1, .int u3_2, .int v13, .int v14, .int v15, .int v16, .int v17, .int v18])), (qf3, .inr (1, [.ref qf3_0, .int u2_1, .ref qf3_2, .int u3_3, .int u3_4, .ref qf3_5, .ref qf3_6, .int v3_7, .int v3_8, .ref qf3_9, .int v3_10, .ref qf3_11, .ref qf3_12, .ref qf3_13, .int v3_14, .int v3_15])), (qf3_2, .inl (cf3_2, 20, .inl g903_0))]) hP hD [0, 5, 1] [2, 3, 4, 6] rfl rfl (by decide) (by decide) hk1 hFc hP1 hD1
      clear hP hD
      obtain ⟨hP, hD⟩ := hPD
      replace hK := (hK.sub (tys' := [(cf4_2, .int), (cf4_3, .int), (cf3_0, .byte)]) [1, 2, 3] rfl).app hK1
      clear hPc hDc hKc hFc hP1 hK1 hD1 hz1 hk1 ht hvm
      generalize H1 = H at hP hS ⊢
      replace hP : va_P (dC, dI) vwCl [(qf4, .inr (6, [.ref qf4_0, .ref qf4_1, .ref qf4_2, .ref qf4_3, .int u1_3, .int u1_4, .ref qf4_6, .int v4_7])), (qf4_2, .inl (cf4_2, 201, .inl g901_1)), (qf4_3, .inl (cf4_3, 201, .inl g901_2)), (qf3_0, .inl (cf3_0, 1500, .inl g902_0)), (h0, .inr (10, [.ref qf0, .ref qf1, .ref qf2, .ref qf3, .ref qf4, .ref qf5, .ref qf6, .ref qf7, .ref qf8, .ref qf9, .int v10, .int u3_1, .int u3_2, .int v13, .int v14, .int v15, .int v16, .int v17, .int v18])), (qf3, .inr (1, [.ref qf3_0, .int u2_1, .ref qf3_2, .int u3_3, .int u3_4, .ref qf3_5, .ref qf3_6, .int v3_7, .int v3_8, .ref qf3_9, .int v3_10, .ref qf3_11, .ref qf3_12, .ref qf3_13, .int v3_14, .int v3_15])), (qf3_2, .inl (cf3_2, 20, .inl g903_0))] H := hP
      replace hD : va_D A [(qf4, .inr (6, [.ref qf4_0, .ref qf4_1, .ref qf4_2, .ref qf4_3, .int u1_3, .int u1_4, .ref qf4_6, .int v4_7])), (qf4_2, .inl (cf4_2, 201, .inl g901_1)), (qf4_3, .inl (cf4_3, 201, .inl g901_2)), (qf3_0, .inl (cf3_0, 1500, .inl g902_0)), (h0, .inr (10, [.ref qf0, .ref qf1, .ref qf2, .ref qf3, .ref qf4, .ref qf5, .ref qf6, .ref qf7, .ref qf8, .ref qf9, .int v10, .int u3_1, .int u3_2, .int v13, .int v14, .int v15, .int v16, .int v17, .int v18])), (qf3, .inr (1, [.ref qf3_0, .int u2_1, .ref qf3_2, .int u3_3, .int u3_4, .ref qf3_5, .ref qf3_6, .int v3_7, .int v3_8, .ref qf3_9, .int v3_10, .ref qf3_11, .ref qf3_12, .ref qf3_13, .int v3_14, .int v3_15])), (qf3_2, .inl (cf3_2, 20, .inl g903_0))] := hD
      replace hK : va_K (dC, dI) vwCl [(cf4_2, .int), (cf4_3, .int), (cf3_0, .byte), (cf3_2, .int)] s := hK
      have hr0 := Option.some.inj hsp
      clear hsp
      obtain ⟨hq0, hr1⟩ := Prod.mk.inj hr0
      clear hr0
      obtain ⟨hq1, hr2⟩ := Prod.mk.inj hr1
      clear hr1
      obtain ⟨hq2, hr3⟩ := Prod.mk.inj hr2
      clear hr2
      obtain ⟨hq3, hr4⟩ := Prod.mk.inj hr3
      clear hr3
      obtain ⟨hq4, hr5⟩ := Prod.mk.inj hr4
      clear hr4
      obtain ⟨hq5, hr6⟩ := Prod.mk.inj hr5
      clear hr5
      obtain ⟨hq6, hr7⟩ := Prod.mk.inj hr6
      clear hr6
      obtain ⟨hq7, hr8⟩ := Prod.mk.inj hr7
      clear hr7
      obtain ⟨hq8, hr9⟩ := Prod.mk.inj hr8
      clear hr8
      obtain ⟨hq9, hr10⟩ := Prod.mk.inj hr9
      clear hr9
      subst hq0
      subst hq1
      subst hq2
      subst hq3
      subst hq4
      subst hq5
      subst hq6
      subst hq7
      subst hq8
      subst hq9
      subst hr10
      have hP9 := hP.sub (ws' := [(h0, .inr (10, [.ref qf0, .ref qf1, .ref qf2, .ref qf3, .ref qf4, .ref qf5, .ref qf6, .ref qf7, .ref qf8, .ref qf9, .int v10, .int u3_1, .int u3_2, .int v13, .int v14, .int v15, .int v16, .int v17, .int v18])), (qf4, .inr (6, [.ref qf4_0, .ref qf4_1, .ref qf4_2, .ref qf4_3, .int u1_3, .int u1_4, .ref qf4_6, .int v4_7])), (qf4_2, .inl (cf4_2, 201, .inl g901_1)), (qf4_3, .inl (cf4_3, 201, .inl g901_2)), (qf3, .inr (1, [.ref qf3_0, .int u2_1, .ref qf3_2, .int u3_3, .int u3_4, .ref qf3_5, .ref qf3_6, .int v3_7, .int v3_8, .ref qf3_9, .int v3_10, .ref qf3_11, .ref qf3_12, .ref qf3_13, .int v3_14, .int v3_15])), (qf3_0, .inl (cf3_0, 1500, .inl g902_0)), (qf3_2, .inl (cf3_2, 20, .inl g903_0))]) [4, 0, 1, 2, 5, 3, 6] rfl
      have hD9 := hD.sub (ws' := [(h0, .inr (10, [.ref qf0, .ref qf1, .ref qf2, .ref qf3, .ref qf4, .ref qf5, .ref qf6, .ref qf7, .ref qf8, .ref qf9, .int v10, .int u3_1, .int u3_2, .int v13, .int v14, .int v15, .int v16, .int v17, .int v18])), (qf4, .inr (6, [.ref qf4_0, .ref qf4_1, .ref qf4_2, .ref qf4_3, .int u1_3, .int u1_4, .ref qf4_6, .int v4_7])), (qf4_2, .inl (cf4_2, 201, .inl g901_1)), (qf4_3, .inl (cf4_3, 201, .inl g901_2)), (qf3, .inr (1, [.ref qf3_0, .int u2_1, .ref qf3_2, .int u3_3, .int u3_4, .ref qf3_5, .ref qf3_6, .int v3_7, .int v3_8, .ref qf3_9, .int v3_10, .ref qf3_11, .ref qf3_12, .ref qf3_13, .int v3_14, .int v3_15])), (qf3_0, .inl (cf3_0, 1500, .inl g902_0)), (qf3_2, .inl (cf3_2, 20, .inl g903_0))]) [4, 0, 1, 2, 5, 3, 6] (by decide) rfl
      have hK9 := hK.sub (tys' := [(cf4_2, .int), (cf4_3, .int), (cf3_0, .byte), (cf3_2, .int)]) [0, 1, 2, 3] rfl
      exact W.vret hx hb hr (fun t ht hW => ⟨⟨(), rfl, trivial, by rw [ht]; exact hP9, va_K.moved hW.alike hK9, hD9⟩, hS.F ht⟩) hS.2.2 dX10_readNumber_61
    · rw [if_neg c_2] at hsp
      refine lv_aload_n hx hb dX10_readNumber_24 rfl (lv_at hl 0 rfl) ?_
      refine va_get (D := (dC, dI)) (ci := 10) (v := .ref qf3) (C := RX10) (T := TX10) (N := 19) hx hb hts uV_h4_X10 hown hK hP 0 rfl rfl 3 (by decide) (hts (.fieldLink RX10 46 "ClassMill$Values" "code" "LClassMill$Code;") mw_h4_318) (fun _ h9 => h9) rfl dX10_readNumber_25 ?_
      refine lv_bipush (v := 16) hx hb dX10_readNumber_28 (by decide) ?_
      refine lv_iload_n hx hb dX10_readNumber_30 rfl (lv_at hl 1 rfl) ?_
      obtain ⟨⟨g904_0, u4_1⟩, hu_4, hsp⟩ := ox_bind hsp
      try dsimp only at hsp
      have hPc := hP.sub (ws' := [(qf3, .inr (1, [.ref qf3_0, .int v3_1, .ref qf3_2, .int v3_3, .int v3_4, .ref qf3_5, .ref qf3_6, .int v3_7, .int v3_8, .ref qf3_9, .int v3_10, .ref qf3_11, .ref qf3_12, .ref qf3_13, .int v3_14, .int v3_15])), (qf3_0, .inl (cf3_0, 1500, .inl f3_0))]) [4, 5] rfl
      have hDc := hD.sub (ws' := [(qf3, .inr (1, [.ref qf3_0, .int v3_1, .ref qf3_2, .int v3_3, .int v3_4, .ref qf3_5, .ref qf3_6, .int v3_7, .int v3_8, .ref qf3_9, .int v3_10, .ref qf3_11, .ref qf3_12, .ref qf3_13, .int v3_14, .int v3_15])), (qf3_0, .inl (cf3_0, 1500, .inl f3_0))]) [4, 5] (by decide) rfl
      have hKc := hK.sub (tys' := [(cf3_0, .byte)]) [2] rfl
      have hFc := va_free (wc := [(qf3, .inr (1, [.ref qf3_0, .int v3_1, .ref qf3_2, .int v3_3, .int v3_4, .ref qf3_5, .ref qf3_6, .int v3_7, .int v3_8, .ref qf3_9, .int v3_10, .ref qf3_11, .ref qf3_12, .ref qf3_13, .int v3_14, .int v3_15])), (qf3_0, .inl (cf3_0, 1500, .inl f3_0))]) hD hS hA [4, 5] rfl
      refine va_callv (va_runV (As := [.int 16, .int a1]) (rest := []) ⟨hx, hb, hml, hown, hts⟩ (t1_op_ l dC dI H.size qf3 16 a1 qf3_0 v3_1 qf3_2 v3_3 v3_4 qf3_5 qf3_6 v3_7 v3_8 qf3_9 v3_10 qf3_11 qf3_12 qf3_13 v3_14 v3_15 cf3_0 f3_0 nf g904_0 u4_1 hu_4) (cwV 2 hts gv_h4_71 rfl rfl rfl (by decide +kernel) ⟨Nat.le_of_ble_eq_true rfl, Nat.le_of_ble_eq_true rfl⟩) ⟨fun a U g mk q => by obtain ⟨q0, q1, qP, qK, qD⟩ := q; exact ⟨q0, q1, qP, va_K.moved (u := U) (U := U.calling g mk a) (Vm.Alike.refl U.vm) qK, qD⟩, va_recv hKc hPc (ci := 1) (q0 := 0) rfl rfl, fun U hU hW => ⟨rfl, by rw [hU], by rw [hU]; exact hPc, va_K.moved hW.alike hKc, hDc.weaken (fun _ _ _ _ => trivial)⟩⟩ rfl rfl hl.1 rfl (lv_room (Nat.le_of_ble_eq_true rfl)) dX10_readNumber_31 ⟨Nat.le_of_ble_eq_true rfl, Nat.le_of_ble_eq_true rfl⟩) hS (fun q _ h => hFc q h) hFc ?_
      clear hS
      intro u t H1 locs ht hvm hw hB hz1 hk1 hS
      obtain ⟨⟩ := u
      obtain ⟨hP1, hK1, hD1⟩ := hB
      rw [ht] at hP1
      have hK1 := va_K.moved hvm.symm hK1
      try dsimp only at hw
      have hPD := va_join (wr := [(h0, .inr (10, [.ref qf0, .ref qf1, .ref qf2, .ref qf3, .ref qf4, .ref qf5, .ref qf6, .ref qf7, .ref qf8, .ref qf9, .int v10, .int v11, .int v12, .int v13, .int v14, .int v15, .int v16, .int v17, .int v18])), (qf4, .inr (6, [.ref qf4_0, .ref qf4_1, .ref qf4_2, .ref qf4_3, .int v4_4, .int v4_5, .ref qf4_6, .int v4_7])), (qf4_2, .inl (cf4_2, 201, .inl f4_2)), (qf4_3, .inl (cf4_3, 201, .inl f4_3)), (qf3_2, .inl (cf3_2, 20, .inl f3_2))]) (w1 := [(qf3, .inr (1, [.ref qf3_0, .int u4_1, .ref qf3_2, .int v3_3, .int v3_4, .ref qf3_5, .ref qf3_6, .int v3_7, .int v3_8, .ref qf3_9, .int v3_10, .ref qf3_11, .ref qf3_12, .ref qf3_13, .int v3_14, .int v3_15])), (qf3_0, .inl (cf3_0, 1500, .inl g904_0))]) hP hD [4, 5] [0, 1, 2, 3, 6] rfl rfl (by decide) (by decide) hk1 hFc hP1 hD1
      clear hP hD
      obtain ⟨hP, hD⟩ := hPD
      replace hK := (hK.sub (tys' := [(cf4_2, .int), (cf4_3, .int), (cf3_2, .int)]) [0, 1, 3] rfl).app hK1
      clear hPc hDc hKc hFc hP1 hK1 hD1 hz1 hk1 ht hvm
      generalize H1 = H at hP hS ⊢
      replace hP : va_P (dC, dI) vwCl [(h0, .inr (10, [.ref qf0, .ref qf1, .ref qf2, .ref qf3, .ref qf4, .ref qf5, .ref qf6, .ref qf7, .ref qf8, .ref qf9, .int v10, .int v11, .int v12, .int v13, .int v14, .int v15, .int v16, .int v17, .int v18])), (qf4, .inr (6, [.ref qf4_0, .ref qf4_1, .ref qf4_2, .ref qf4_3, .int v4_4, .int v4_5, .ref qf4_6, .int v4_7])), (qf4_2, .inl (cf4_2, 201, .inl f4_2)), (qf4_3, .inl (cf4_3, 201, .inl f4_3)), (qf3_2, .inl (cf3_2, 20, .inl f3_2)), (qf3, .inr (1, [.ref qf3_0, .int u4_1, .ref qf3_2, .int v3_3, .int v3_4, .ref qf3_5, .ref qf3_6, .int v3_7, .int v3_8, .ref qf3_9, .int v3_10, .ref qf3_11, .ref qf3_12, .ref qf3_13, .int v3_14, .int v3_15])), (qf3_0, .inl (cf3_0, 1500, .inl g904_0))] H := hP
      replace hD : va_D A [(h0, .inr (10, [.ref qf0, .ref qf1, .ref qf2, .ref qf3, .ref qf4, .ref qf5, .ref qf6, .ref qf7, .ref qf8, .ref qf9, .int v10, .int v11, .int v12, .int v13, .int v14, .int v15, .int v16, .int v17, .int v18])), (qf4, .inr (6, [.ref qf4_0, .ref qf4_1, .ref qf4_2, .ref qf4_3, .int v4_4, .int v4_5, .ref qf4_6, .int v4_7])), (qf4_2, .inl (cf4_2, 201, .inl f4_2)), (qf4_3, .inl (cf4_3, 201, .inl f4_3)), (qf3_2, .inl (cf3_2, 20, .inl f3_2)), (qf3, .inr (1, [.ref qf3_0, .int u4_1, .ref qf3_2, .int v3_3, .int v3_4, .ref qf3_5, .ref qf3_6, .int v3_7, .int v3_8, .ref qf3_9, .int v3_10, .ref qf3_11, .ref qf3_12, .ref qf3_13, .int v3_14, .int v3_15])), (qf3_0, .inl (cf3_0, 1500, .inl g904_0))] := hD
      replace hK : va_K (dC, dI) vwCl [(cf4_2, .int), (cf4_3, .int), (cf3_2, .int), (cf3_0, .byte)] s := hK
      refine lv_goto (tgt := 54) hx hb dX10_readNumber_34 (by decide) ?_
      refine lv_aload_n hx hb dX10_readNumber_54 rfl (lv_at hl 0 rfl) ?_
      refine lv_sipush (v := 301) hx hb dX10_readNumber_55 (by decide) ?_
      obtain ⟨⟨g905_0, u5_1, u5_2, u5_3, u5_4⟩, hu_5, hsp⟩ := ox_bind hsp
      try dsimp only at hsp
      have hPc := hP.sub (ws' := [(h0, .inr (10, [.ref qf0, .ref qf1, .ref qf2, .ref qf3, .ref qf4, .ref qf5, .ref qf6, .ref qf7, .ref qf8, .ref qf9, .int v10, .int v11, .int v12, .int v13, .int v14, .int v15, .int v16, .int v17, .int v18])), (qf3, .inr (1, [.ref qf3_0, .int u4_1, .ref qf3_2, .int v3_3, .int v3_4, .ref qf3_5, .ref qf3_6, .int v3_7, .int v3_8, .ref qf3_9, .int v3_10, .ref qf3_11, .ref qf3_12, .ref qf3_13, .int v3_14, .int v3_15])), (qf3_2, .inl (cf3_2, 20, .inl f3_2))]) [0, 5, 4] rfl
      have hDc := hD.sub (ws' := [(h0, .inr (10, [.ref qf0, .ref qf1, .ref qf2, .ref qf3, .ref qf4, .ref qf5, .ref qf6, .ref qf7, .ref qf8, .ref qf9, .int v10, .int v11, .int v12, .int v13, .int v14, .int v15, .int v16, .int v17, .int v18])), (qf3, .inr (1, [.ref qf3_0, .int u4_1, .ref qf3_2, .int v3_3, .int v3_4, .ref qf3_5, .ref qf3_6, .int v3_7, .int v3_8, .ref qf3_9, .int v3_10, .ref qf3_11, .ref qf3_12, .ref qf3_13, .int v3_14, .int v3_15])), (qf3_2, .inl (cf3_2, 20, .inl f3_2))]) [0, 5, 4] (by decide) rfl
      have hKc := hK.sub (tys' := [(cf3_2, .int)]) [2] rfl
      have hFc := va_free (wc := [(h0, .inr (10, [.ref qf0, .ref qf1, .ref qf2, .ref qf3, .ref qf4, .ref qf5, .ref qf6, .ref qf7, .ref qf8, .ref qf9, .int v10, .int v11, .int v12, .int v13, .int v14, .int v15, .int v16, .int v17, .int v18])), (qf3, .inr (1, [.ref qf3_0, .int u4_1, .ref qf3_2, .int v3_3, .int v3_4, .ref qf3_5, .ref qf3_6, .int v3_7, .int v3_8, .ref qf3_9, .int v3_10, .ref qf3_11, .ref qf3_12, .ref qf3_13, .int v3_14, .int v3_15])), (qf3_2, .inl (cf3_2, 20, .inl f3_2))]) hD hS hA [0, 5, 4] rfl
      refine va_callv (va_runV (As := [.int 301]) (rest := []) ⟨hx, hb, hml, hown, hts⟩ (t10_give l dC dI H.size h0 301 qf0 qf1 qf2 qf3 qf4 qf5 qf6 qf7 qf8 qf9 v10 v11 v12 v13 v14 v15 v16 v17 v18 qf3_0 u4_1 qf3_2 v3_3 v3_4 qf3_5 qf3_6 v3_7 v3_8 qf3_9 v3_10 qf3_11 qf3_12 qf3_13 v3_14 v3_15 cf3_2 f3_2 nf g905_0 u5_1 u5_2 u5_3 u5_4 hu_5) (cwV 1 hts gv_h4_79 rfl rfl rfl (by decide +kernel) ⟨Nat.le_of_ble_eq_true rfl, Nat.le_of_ble_eq_true rfl⟩) ⟨fun a U g mk q => by obtain ⟨q0, q1, qP, qK, qD⟩ := q; exact ⟨q0, q1, qP, va_K.moved (u := U) (U := U.calling g mk a) (Vm.Alike.refl U.vm) qK, qD⟩, va_recv hKc hPc (ci := 10) (q0 := 0) rfl rfl, fun U hU hW => ⟨rfl, by rw [hU], by rw [hU]; exact hPc, va_K.moved hW.alike hKc, hDc.weaken (fun _ _ _ _ => trivial)⟩⟩ rfl rfl hl.1 rfl (lv_room (Nat.le_of_ble_eq_true rfl)) dX10_readNumber_58 ⟨Nat.le_of_ble_eq_true rfl, Nat.le_of_ble_eq_true rfl⟩) hS (fun q _ h => hFc q h) hFc ?_
      clear hS
      intro u t H1 locs ht hvm hw hB hz1 hk1 hS
      obtain ⟨⟩ := u
      obtain ⟨hP1, hK1, hD1⟩ := hB
      rw [ht] at hP1
      have hK1 := va_K.moved hvm.symm hK1
      try dsimp only at hw
      have hPD := va_join (wr := [(qf4, .inr (6, [.ref qf4_0, .ref qf4_1, .ref qf4_2, .ref qf4_3, .int v4_4, .int v4_5, .ref qf4_6, .int v4_7])), (qf4_2, .inl (cf4_2, 201, .inl f4_2)), (qf4_3, .inl (cf4_3, 201, .inl f4_3)), (qf3_0, .inl (cf3_0, 1500, .inl g904_0))]) (w1 := [(h0, .inr (10, [.ref qf0, .ref qf1, .ref qf2, .ref qf3, .ref qf4, .ref qf5, .ref qf6, .ref qf7, .ref qf8, .ref qf9, .int v10, .int u5_1, .int u5_2, .int v13, .int v14, .int v15, .int v16, .int v17, .int v18])), (qf3, .inr (1, [.ref qf3_0, .int u4_1, .ref qf3_2, .int u5_3, .int u5_4, .ref qf3_5, .ref qf3_6, .int v3_7, .int v3_8, .ref qf3_9, .int v3_10, .ref qf3_11, .ref qf3_12, .ref qf3_13, .int v3_14, .int v3_15])), (qf3_2, .inl (cf3_2, 20, .inl g905_0))]) hP hD [0, 5, 4] [1, 2, 3, 6] rfl rfl (by decide) (by decide) hk1 hFc hP1 hD1
      clear hP hD
      obtain ⟨hP, hD⟩ := hPD
      replace hK := (hK.sub (tys' := [(cf4_2, .int), (cf4_3, .int), (cf3_0, .byte)]) [0, 1, 3] rfl).app hK1
      clear hPc hDc hKc hFc hP1 hK1 hD1 hz1 hk1 ht hvm
      generalize H1 = H at hP hS ⊢
      replace hP : va_P (dC, dI) vwCl [(qf4, .inr (6, [.ref qf4_0, .ref qf4_1, .ref qf4_2, .ref qf4_3, .int v4_4, .int v4_5, .ref qf4_6, .int v4_7])), (qf4_2, .inl (cf4_2, 201, .inl f4_2)), (qf4_3, .inl (cf4_3, 201, .inl f4_3)), (qf3_0, .inl (cf3_0, 1500, .inl g904_0)), (h0, .inr (10, [.ref qf0, .ref qf1, .ref qf2, .ref qf3, .ref qf4, .ref qf5, .ref qf6, .ref qf7, .ref qf8, .ref qf9, .int v10, .int u5_1, .int u5_2, .int v13, .int v14, .int v15, .int v16, .int v17, .int v18])), (qf3, .inr (1, [.ref qf3_0, .int u4_1, .ref qf3_2, .int u5_3, .int u5_4, .ref qf3_5, .ref qf3_6, .int v3_7, .int v3_8, .ref qf3_9, .int v3_10, .ref qf3_11, .ref qf3_12, .ref qf3_13, .int v3_14, .int v3_15])), (qf3_2, .inl (cf3_2, 20, .inl g905_0))] H := hP
      replace hD : va_D A [(qf4, .inr (6, [.ref qf4_0, .ref qf4_1, .ref qf4_2, .ref qf4_3, .int v4_4, .int v4_5, .ref qf4_6, .int v4_7])), (qf4_2, .inl (cf4_2, 201, .inl f4_2)), (qf4_3, .inl (cf4_3, 201, .inl f4_3)), (qf3_0, .inl (cf3_0, 1500, .inl g904_0)), (h0, .inr (10, [.ref qf0, .ref qf1, .ref qf2, .ref qf3, .ref qf4, .ref qf5, .ref qf6, .ref qf7, .ref qf8, .ref qf9, .int v10, .int u5_1, .int u5_2, .int v13, .int v14, .int v15, .int v16, .int v17, .int v18])), (qf3, .inr (1, [.ref qf3_0, .int u4_1, .ref qf3_2, .int u5_3, .int u5_4, .ref qf3_5, .ref qf3_6, .int v3_7, .int v3_8, .ref qf3_9, .int v3_10, .ref qf3_11, .ref qf3_12, .ref qf3_13, .int v3_14, .int v3_15])), (qf3_2, .inl (cf3_2, 20, .inl g905_0))] := hD
      replace hK : va_K (dC, dI) vwCl [(cf4_2, .int), (cf4_3, .int), (cf3_0, .byte), (cf3_2, .int)] s := hK
      have hr0 := Option.some.inj hsp
      clear hsp
      obtain ⟨hq0, hr1⟩ := Prod.mk.inj hr0
      clear hr0
      obtain ⟨hq1, hr2⟩ := Prod.mk.inj hr1
      clear hr1
      obtain ⟨hq2, hr3⟩ := Prod.mk.inj hr2
      clear hr2
      obtain ⟨hq3, hr4⟩ := Prod.mk.inj hr3
      clear hr3
      obtain ⟨hq4, hr5⟩ := Prod.mk.inj hr4
      clear hr4
      obtain ⟨hq5, hr6⟩ := Prod.mk.inj hr5
      clear hr5
      obtain ⟨hq6, hr7⟩ := Prod.mk.inj hr6
      clear hr6
      obtain ⟨hq7, hr8⟩ := Prod.mk.inj hr7
      clear hr7
      obtain ⟨hq8, hr9⟩ := Prod.mk.inj hr8
      clear hr8
      obtain ⟨hq9, hr10⟩ := Prod.mk.inj hr9
      clear hr9
      subst hq0
      subst hq1
      subst hq2
      subst hq3
      subst hq4
      subst hq5
      subst hq6
      subst hq7
      subst hq8
      subst hq9
      subst hr10
      have hP9 := hP.sub (ws' := [(h0, .inr (10, [.ref qf0, .ref qf1, .ref qf2, .ref qf3, .ref qf4, .ref qf5, .ref qf6, .ref qf7, .ref qf8, .ref qf9, .int v10, .int u5_1, .int u5_2, .int v13, .int v14, .int v15, .int v16, .int v17, .int v18])), (qf4, .inr (6, [.ref qf4_0, .ref qf4_1, .ref qf4_2, .ref qf4_3, .int v4_4, .int v4_5, .ref qf4_6, .int v4_7])), (qf4_2, .inl (cf4_2, 201, .inl f4_2)), (qf4_3, .inl (cf4_3, 201, .inl f4_3)), (qf3, .inr (1, [.ref qf3_0, .int u4_1, .ref qf3_2, .int u5_3, .int u5_4, .ref qf3_5, .ref qf3_6, .int v3_7, .int v3_8, .ref qf3_9, .int v3_10, .ref qf3_11, .ref qf3_12, .ref qf3_13, .int v3_14, .int v3_15])), (qf3_0, .inl (cf3_0, 1500, .inl g904_0)), (qf3_2, .inl (cf3_2, 20, .inl g905_0))]) [4, 0, 1, 2, 5, 3, 6] rfl
      have hD9 := hD.sub (ws' := [(h0, .inr (10, [.ref qf0, .ref qf1, .ref qf2, .ref qf3, .ref qf4, .ref qf5, .ref qf6, .ref qf7, .ref qf8, .ref qf9, .int v10, .int u5_1, .int u5_2, .int v13, .int v14, .int v15, .int v16, .int v17, .int v18])), (qf4, .inr (6, [.ref qf4_0, .ref qf4_1, .ref qf4_2, .ref qf4_3, .int v4_4, .int v4_5, .ref qf4_6, .int v4_7])), (qf4_2, .inl (cf4_2, 201, .inl f4_2)), (qf4_3, .inl (cf4_3, 201, .inl f4_3)), (qf3, .inr (1, [.ref qf3_0, .int u4_1, .ref qf3_2, .int u5_3, .int u5_4, .ref qf3_5, .ref qf3_6, .int v3_7, .int v3_8, .ref qf3_9, .int v3_10, .ref qf3_11, .ref qf3_12, .ref qf3_13, .int v3_14, .int v3_15])), (qf3_0, .inl (cf3_0, 1500, .inl g904_0)), (qf3_2, .inl (cf3_2, 20, .inl g905_0))]) [4, 0, 1, 2, 5, 3, 6] (by decide) rfl
      have hK9 := hK.sub (tys' := [(cf4_2, .int), (cf4_3, .int), (cf3_0, .byte), (cf3_2, .int)]) [0, 1, 2, 3] rfl
      exact W.vret hx hb hr (fun t ht hW => ⟨⟨(), rfl, trivial, by rw [ht]; exact hP9, va_K.moved hW.alike hK9, hD9⟩, hS.F ht⟩) hS.2.2 dX10_readNumber_61
  · rw [if_neg c_1] at hsp
    refine lv_aload_n hx hb dX10_readNumber_5 rfl (lv_at hl 0 rfl) ?_
    refine va_get (D := (dC, dI)) (ci := 10) (v := .ref qf3) (C := RX10) (T := TX10) (N := 19) hx hb hts uV_h4_X10 hown hK hP 0 rfl rfl 3 (by decide) (hts (.fieldLink RX10 46 "ClassMill$Values" "code" "LClassMill$Code;") mw_h4_318) (fun _ h9 => h9) rfl dX10_readNumber_6 ?_
    refine lv_iconst (v := 3) hx hb dX10_readNumber_9 (by decide) ?_
    refine lv_iload_n hx hb dX10_readNumber_10 rfl (lv_at hl 1 rfl) ?_
    refine lv_iadd hx hb dX10_readNumber_11 ?_
    obtain ⟨⟨g906_0, u6_1⟩, hu_6, hsp⟩ := ox_bind hsp
    try dsimp only at hsp
    have hPc := hP.sub (ws' := [(qf3, .inr (1, [.ref qf3_0, .int v3_1, .ref qf3_2, .int v3_3, .int v3_4, .ref qf3_5, .ref qf3_6, .int v3_7, .int v3_8, .ref qf3_9, .int v3_10, .ref qf3_11, .ref qf3_12, .ref qf3_13, .int v3_14, .int v3_15])), (qf3_0, .inl (cf3_0, 1500, .inl f3_0))]) [4, 5] rfl
    have hDc := hD.sub (ws' := [(qf3, .inr (1, [.ref qf3_0, .int v3_1, .ref qf3_2, .int v3_3, .int v3_4, .ref qf3_5, .ref qf3_6, .int v3_7, .int v3_8, .ref qf3_9, .int v3_10, .ref qf3_11, .ref qf3_12, .ref qf3_13, .int v3_14, .int v3_15])), (qf3_0, .inl (cf3_0, 1500, .inl f3_0))]) [4, 5] (by decide) rfl
    have hKc := hK.sub (tys' := [(cf3_0, .byte)]) [2] rfl
    have hFc := va_free (wc := [(qf3, .inr (1, [.ref qf3_0, .int v3_1, .ref qf3_2, .int v3_3, .int v3_4, .ref qf3_5, .ref qf3_6, .int v3_7, .int v3_8, .ref qf3_9, .int v3_10, .ref qf3_11, .ref qf3_12, .ref qf3_13, .int v3_14, .int v3_15])), (qf3_0, .inl (cf3_0, 1500, .inl f3_0))]) hD hS hA [4, 5] rfl
    refine va_callv (va_runV (As := [.int (3 + a1)]) (rest := []) ⟨hx, hb, hml, hown, hts⟩ (t1_op l dC dI H.size qf3 ((3 + a1)) qf3_0 v3_1 qf3_2 v3_3 v3_4 qf3_5 qf3_6 v3_7 v3_8 qf3_9 v3_10 qf3_11 qf3_12 qf3_13 v3_14 v3_15 cf3_0 f3_0 nf g906_0 u6_1 hu_6) (cwV 1 hts gv_h4_72 rfl rfl rfl (by decide +kernel) ⟨Nat.le_of_ble_eq_true rfl, Nat.le_of_ble_eq_true rfl⟩) ⟨fun a U g mk q => by obtain ⟨q0, q1, qP, qK, qD⟩ := q; exact ⟨q0, q1, qP, va_K.moved (u := U) (U := U.calling g mk a) (Vm.Alike.refl U.vm) qK, qD⟩, va_recv hKc hPc (ci := 1) (q0 := 0) rfl rfl, fun U hU hW => ⟨rfl, by rw [hU], by rw [hU]; exact hPc, va_K.moved hW.alike hKc, hDc.weaken (fun _ _ _ _ => trivial)⟩⟩ rfl rfl hl.1 rfl (lv_room (Nat.le_of_ble_eq_true rfl)) dX10_readNumber_12 ⟨Nat.le_of_ble_eq_true rfl, Nat.le_of_ble_eq_true rfl⟩) hS (fun q _ h => hFc q h) hFc ?_
    clear hS
    intro u t H1 locs ht hvm hw hB hz1 hk1 hS
    obtain ⟨⟩ := u
    obtain ⟨hP1, hK1, hD1⟩ := hB
    rw [ht] at hP1
    have hK1 := va_K.moved hvm.symm hK1
    try dsimp only at hw
    have hPD := va_join (wr := [(h0, .inr (10, [.ref qf0, .ref qf1, .ref qf2, .ref qf3, .ref qf4, .ref qf5, .ref qf6, .ref qf7, .ref qf8, .ref qf9, .int v10, .int v11, .int v12, .int v13, .int v14, .int v15, .int v16, .int v17, .int v18])), (qf4, .inr (6, [.ref qf4_0, .ref qf4_1, .ref qf4_2, .ref qf4_3, .int v4_4, .int v4_5, .ref qf4_6, .int v4_7])), (qf4_2, .inl (cf4_2, 201, .inl f4_2)), (qf4_3, .inl (cf4_3, 201, .inl f4_3)), (qf3_2, .inl (cf3_2, 20, .inl f3_2))]) (w1 := [(qf3, .inr (1, [.ref qf3_0, .int u6_1, .ref qf3_2, .int v3_3, .int v3_4, .ref qf3_5, .ref qf3_6, .int v3_7, .int v3_8, .ref qf3_9, .int v3_10, .ref qf3_11, .ref qf3_12, .ref qf3_13, .int v3_14, .int v3_15])), (qf3_0, .inl (cf3_0, 1500, .inl g906_0))]) hP hD [4, 5] [0, 1, 2, 3, 6] rfl rfl (by decide) (by decide) hk1 hFc hP1 hD1
    clear hP hD
    obtain ⟨hP, hD⟩ := hPD
    replace hK := (hK.sub (tys' := [(cf4_2, .int), (cf4_3, .int), (cf3_2, .int)]) [0, 1, 3] rfl).app hK1
    clear hPc hDc hKc hFc hP1 hK1 hD1 hz1 hk1 ht hvm
    generalize H1 = H at hP hS ⊢
    replace hP : va_P (dC, dI) vwCl [(h0, .inr (10, [.ref qf0, .ref qf1, .ref qf2, .ref qf3, .ref qf4, .ref qf5, .ref qf6, .ref qf7, .ref qf8, .ref qf9, .int v10, .int v11, .int v12, .int v13, .int v14, .int v15, .int v16, .int v17, .int v18])), (qf4, .inr (6, [.ref qf4_0, .ref qf4_1, .ref qf4_2, .ref qf4_3, .int v4_4, .int v4_5, .ref qf4_6, .int v4_7])), (qf4_2, .inl (cf4_2, 201, .inl f4_2)), (qf4_3, .inl (cf4_3, 201, .inl f4_3)), (qf3_2, .inl (cf3_2, 20, .inl f3_2)), (qf3, .inr (1, [.ref qf3_0, .int u6_1, .ref qf3_2, .int v3_3, .int v3_4, .ref qf3_5, .ref qf3_6, .int v3_7, .int v3_8, .ref qf3_9, .int v3_10, .ref qf3_11, .ref qf3_12, .ref qf3_13, .int v3_14, .int v3_15])), (qf3_0, .inl (cf3_0, 1500, .inl g906_0))] H := hP
    replace hD : va_D A [(h0, .inr (10, [.ref qf0, .ref qf1, .ref qf2, .ref qf3, .ref qf4, .ref qf5, .ref qf6, .ref qf7, .ref qf8, .ref qf9, .int v10, .int v11, .int v12, .int v13, .int v14, .int v15, .int v16, .int v17, .int v18])), (qf4, .inr (6, [.ref qf4_0, .ref qf4_1, .ref qf4_2, .ref qf4_3, .int v4_4, .int v4_5, .ref qf4_6, .int v4_7])), (qf4_2, .inl (cf4_2, 201, .inl f4_2)), (qf4_3, .inl (cf4_3, 201, .inl f4_3)), (qf3_2, .inl (cf3_2, 20, .inl f3_2)), (qf3, .inr (1, [.ref qf3_0, .int u6_1, .ref qf3_2, .int v3_3, .int v3_4, .ref qf3_5, .ref qf3_6, .int v3_7, .int v3_8, .ref qf3_9, .int v3_10, .ref qf3_11, .ref qf3_12, .ref qf3_13, .int v3_14, .int v3_15])), (qf3_0, .inl (cf3_0, 1500, .inl g906_0))] := hD
    replace hK : va_K (dC, dI) vwCl [(cf4_2, .int), (cf4_3, .int), (cf3_2, .int), (cf3_0, .byte)] s := hK
    refine lv_goto (tgt := 54) hx hb dX10_readNumber_15 (by decide) ?_
    refine lv_aload_n hx hb dX10_readNumber_54 rfl (lv_at hl 0 rfl) ?_
    refine lv_sipush (v := 301) hx hb dX10_readNumber_55 (by decide) ?_
    obtain ⟨⟨g907_0, u7_1, u7_2, u7_3, u7_4⟩, hu_7, hsp⟩ := ox_bind hsp
    try dsimp only at hsp
    have hPc := hP.sub (ws' := [(h0, .inr (10, [.ref qf0, .ref qf1, .ref qf2, .ref qf3, .ref qf4, .ref qf5, .ref qf6, .ref qf7, .ref qf8, .ref qf9, .int v10, .int v11, .int v12, .int v13, .int v14, .int v15, .int v16, .int v17, .int v18])), (qf3, .inr (1, [.ref qf3_0, .int u6_1, .ref qf3_2, .int v3_3, .int v3_4, .ref qf3_5, .ref qf3_6, .int v3_7, .int v3_8, .ref qf3_9, .int v3_10, .ref qf3_11, .ref qf3_12, .ref qf3_13, .int v3_14, .int v3_15])), (qf3_2, .inl (cf3_2, 20, .inl f3_2))]) [0, 5, 4] rfl
    have hDc := hD.sub (ws' := [(h0, .inr (10, [.ref qf0, .ref qf1, .ref qf2, .ref qf3, .ref qf4, .ref qf5, .ref qf6, .ref qf7, .ref qf8, .ref qf9, .int v10, .int v11, .int v12, .int v13, .int v14, .int v15, .int v16, .int v17, .int v18])), (qf3, .inr (1, [.ref qf3_0, .int u6_1, .ref qf3_2, .int v3_3, .int v3_4, .ref qf3_5, .ref qf3_6, .int v3_7, .int v3_8, .ref qf3_9, .int v3_10, .ref qf3_11, .ref qf3_12, .ref qf3_13, .int v3_14, .int v3_15])), (qf3_2, .inl (cf3_2, 20, .inl f3_2))]) [0, 5, 4] (by decide) rfl
    have hKc := hK.sub (tys' := [(cf3_2, .int)]) [2] rfl
    have hFc := va_free (wc := [(h0, .inr (10, [.ref qf0, .ref qf1, .ref qf2, .ref qf3, .ref qf4, .ref qf5, .ref qf6, .ref qf7, .ref qf8, .ref qf9, .int v10, .int v11, .int v12, .int v13, .int v14, .int v15, .int v16, .int v17, .int v18])), (qf3, .inr (1, [.ref qf3_0, .int u6_1, .ref qf3_2, .int v3_3, .int v3_4, .ref qf3_5, .ref qf3_6, .int v3_7, .int v3_8, .ref qf3_9, .int v3_10, .ref qf3_11, .ref qf3_12, .ref qf3_13, .int v3_14, .int v3_15])), (qf3_2, .inl (cf3_2, 20, .inl f3_2))]) hD hS hA [0, 5, 4] rfl
    refine va_callv (va_runV (As := [.int 301]) (rest := []) ⟨hx, hb, hml, hown, hts⟩ (t10_give l dC dI H.size h0 301 qf0 qf1 qf2 qf3 qf4 qf5 qf6 qf7 qf8 qf9 v10 v11 v12 v13 v14 v15 v16 v17 v18 qf3_0 u6_1 qf3_2 v3_3 v3_4 qf3_5 qf3_6 v3_7 v3_8 qf3_9 v3_10 qf3_11 qf3_12 qf3_13 v3_14 v3_15 cf3_2 f3_2 nf g907_0 u7_1 u7_2 u7_3 u7_4 hu_7) (cwV 1 hts gv_h4_79 rfl rfl rfl (by decide +kernel) ⟨Nat.le_of_ble_eq_true rfl, Nat.le_of_ble_eq_true rfl⟩) ⟨fun a U g mk q => by obtain ⟨q0, q1, qP, qK, qD⟩ := q; exact ⟨q0, q1, qP, va_K.moved (u := U) (U := U.calling g mk a) (Vm.Alike.refl U.vm) qK, qD⟩, va_recv hKc hPc (ci := 10) (q0 := 0) rfl rfl, fun U hU hW => ⟨rfl, by rw [hU], by rw [hU]; exact hPc, va_K.moved hW.alike hKc, hDc.weaken (fun _ _ _ _ => trivial)⟩⟩ rfl rfl hl.1 rfl (lv_room (Nat.le_of_ble_eq_true rfl)) dX10_readNumber_58 ⟨Nat.le_of_ble_eq_true rfl, Nat.le_of_ble_eq_true rfl⟩) hS (fun q _ h => hFc q h) hFc ?_
    clear hS
    intro u t H1 locs ht hvm hw hB hz1 hk1 hS
    obtain ⟨⟩ := u
    obtain ⟨hP1, hK1, hD1⟩ := hB
    rw [ht] at hP1
    have hK1 := va_K.moved hvm.symm hK1
    try dsimp only at hw
    have hPD := va_join (wr := [(qf4, .inr (6, [.ref qf4_0, .ref qf4_1, .ref qf4_2, .ref qf4_3, .int v4_4, .int v4_5, .ref qf4_6, .int v4_7])), (qf4_2, .inl (cf4_2, 201, .inl f4_2)), (qf4_3, .inl (cf4_3, 201, .inl f4_3)), (qf3_0, .inl (cf3_0, 1500, .inl g906_0))]) (w1 := [(h0, .inr (10, [.ref qf0, .ref qf1, .ref qf2, .ref qf3, .ref qf4, .ref qf5, .ref qf6, .ref qf7, .ref qf8, .ref qf9, .int v10, .int u7_1, .int u7_2, .int v13, .int v14, .int v15, .int v16, .int v17, .int v18])), (qf3, .inr (1, [.ref qf3_0, .int u6_1, .ref qf3_2, .int u7_3, .int u7_4, .ref qf3_5, .ref qf3_6, .int v3_7, .int v3_8, .ref qf3_9, .int v3_10, .ref qf3_11, .ref qf3_12, .ref qf3_13, .int v3_14, .int v3_15])), (qf3_2, .inl (cf3_2, 20, .inl g907_0))]) hP hD [0, 5, 4] [1, 2, 3, 6] rfl rfl (by decide) (by decide) hk1 hFc hP1 hD1
    clear hP hD
    obtain ⟨hP, hD⟩ := hPD
    replace hK := (hK.sub (tys' := [(cf4_2, .int), (cf4_3, .int), (cf3_0, .byte)]) [0, 1, 3] rfl).app hK1
    clear hPc hDc hKc hFc hP1 hK1 hD1 hz1 hk1 ht hvm
    generalize H1 = H at hP hS ⊢
    replace hP : va_P (dC, dI) vwCl [(qf4, .inr (6, [.ref qf4_0, .ref qf4_1, .ref qf4_2, .ref qf4_3, .int v4_4, .int v4_5, .ref qf4_6, .int v4_7])), (qf4_2, .inl (cf4_2, 201, .inl f4_2)), (qf4_3, .inl (cf4_3, 201, .inl f4_3)), (qf3_0, .inl (cf3_0, 1500, .inl g906_0)), (h0, .inr (10, [.ref qf0, .ref qf1, .ref qf2, .ref qf3, .ref qf4, .ref qf5, .ref qf6, .ref qf7, .ref qf8, .ref qf9, .int v10, .int u7_1, .int u7_2, .int v13, .int v14, .int v15, .int v16, .int v17, .int v18])), (qf3, .inr (1, [.ref qf3_0, .int u6_1, .ref qf3_2, .int u7_3, .int u7_4, .ref qf3_5, .ref qf3_6, .int v3_7, .int v3_8, .ref qf3_9, .int v3_10, .ref qf3_11, .ref qf3_12, .ref qf3_13, .int v3_14, .int v3_15])), (qf3_2, .inl (cf3_2, 20, .inl g907_0))] H := hP
    replace hD : va_D A [(qf4, .inr (6, [.ref qf4_0, .ref qf4_1, .ref qf4_2, .ref qf4_3, .int v4_4, .int v4_5, .ref qf4_6, .int v4_7])), (qf4_2, .inl (cf4_2, 201, .inl f4_2)), (qf4_3, .inl (cf4_3, 201, .inl f4_3)), (qf3_0, .inl (cf3_0, 1500, .inl g906_0)), (h0, .inr (10, [.ref qf0, .ref qf1, .ref qf2, .ref qf3, .ref qf4, .ref qf5, .ref qf6, .ref qf7, .ref qf8, .ref qf9, .int v10, .int u7_1, .int u7_2, .int v13, .int v14, .int v15, .int v16, .int v17, .int v18])), (qf3, .inr (1, [.ref qf3_0, .int u6_1, .ref qf3_2, .int u7_3, .int u7_4, .ref qf3_5, .ref qf3_6, .int v3_7, .int v3_8, .ref qf3_9, .int v3_10, .ref qf3_11, .ref qf3_12, .ref qf3_13, .int v3_14, .int v3_15])), (qf3_2, .inl (cf3_2, 20, .inl g907_0))] := hD
    replace hK : va_K (dC, dI) vwCl [(cf4_2, .int), (cf4_3, .int), (cf3_0, .byte), (cf3_2, .int)] s := hK
    have hr0 := Option.some.inj hsp
    clear hsp
    obtain ⟨hq0, hr1⟩ := Prod.mk.inj hr0
    clear hr0
    obtain ⟨hq1, hr2⟩ := Prod.mk.inj hr1
    clear hr1
    obtain ⟨hq2, hr3⟩ := Prod.mk.inj hr2
    clear hr2
    obtain ⟨hq3, hr4⟩ := Prod.mk.inj hr3
    clear hr3
    obtain ⟨hq4, hr5⟩ := Prod.mk.inj hr4
    clear hr4
    obtain ⟨hq5, hr6⟩ := Prod.mk.inj hr5
    clear hr5
    obtain ⟨hq6, hr7⟩ := Prod.mk.inj hr6
    clear hr6
    obtain ⟨hq7, hr8⟩ := Prod.mk.inj hr7
    clear hr7
    obtain ⟨hq8, hr9⟩ := Prod.mk.inj hr8
    clear hr8
    obtain ⟨hq9, hr10⟩ := Prod.mk.inj hr9
    clear hr9
    subst hq0
    subst hq1
    subst hq2
    subst hq3
    subst hq4
    subst hq5
    subst hq6
    subst hq7
    subst hq8
    subst hq9
    subst hr10
    have hP9 := hP.sub (ws' := [(h0, .inr (10, [.ref qf0, .ref qf1, .ref qf2, .ref qf3, .ref qf4, .ref qf5, .ref qf6, .ref qf7, .ref qf8, .ref qf9, .int v10, .int u7_1, .int u7_2, .int v13, .int v14, .int v15, .int v16, .int v17, .int v18])), (qf4, .inr (6, [.ref qf4_0, .ref qf4_1, .ref qf4_2, .ref qf4_3, .int v4_4, .int v4_5, .ref qf4_6, .int v4_7])), (qf4_2, .inl (cf4_2, 201, .inl f4_2)), (qf4_3, .inl (cf4_3, 201, .inl f4_3)), (qf3, .inr (1, [.ref qf3_0, .int u6_1, .ref qf3_2, .int u7_3, .int u7_4, .ref qf3_5, .ref qf3_6, .int v3_7, .int v3_8, .ref qf3_9, .int v3_10, .ref qf3_11, .ref qf3_12, .ref qf3_13, .int v3_14, .int v3_15])), (qf3_0, .inl (cf3_0, 1500, .inl g906_0)), (qf3_2, .inl (cf3_2, 20, .inl g907_0))]) [4, 0, 1, 2, 5, 3, 6] rfl
    have hD9 := hD.sub (ws' := [(h0, .inr (10, [.ref qf0, .ref qf1, .ref qf2, .ref qf3, .ref qf4, .ref qf5, .ref qf6, .ref qf7, .ref qf8, .ref qf9, .int v10, .int u7_1, .int u7_2, .int v13, .int v14, .int v15, .int v16, .int v17, .int v18])), (qf4, .inr (6, [.ref qf4_0, .ref qf4_1, .ref qf4_2, .ref qf4_3, .int v4_4, .int v4_5, .ref qf4_6, .int v4_7])), (qf4_2, .inl (cf4_2, 201, .inl f4_2)), (qf4_3, .inl (cf4_3, 201, .inl f4_3)), (qf3, .inr (1, [.ref qf3_0, .int u6_1, .ref qf3_2, .int u7_3, .int u7_4, .ref qf3_5, .ref qf3_6, .int v3_7, .int v3_8, .ref qf3_9, .int v3_10, .ref qf3_11, .ref qf3_12, .ref qf3_13, .int v3_14, .int v3_15])), (qf3_0, .inl (cf3_0, 1500, .inl g906_0)), (qf3_2, .inl (cf3_2, 20, .inl g907_0))]) [4, 0, 1, 2, 5, 3, 6] (by decide) rfl
    have hK9 := hK.sub (tys' := [(cf4_2, .int), (cf4_3, .int), (cf3_0, .byte), (cf3_2, .int)]) [0, 1, 2, 3] rfl
    exact W.vret hx hb hr (fun t ht hW => ⟨⟨(), rfl, trivial, by rw [ht]; exact hP9, va_K.moved hW.alike hK9, hD9⟩, hS.F ht⟩) hS.2.2 dX10_readNumber_61
def sp_t10_giveThis (nf : Nat) (a1 : Int32) (v16 : Int32) (v17 : Int32) (v3_1 : Int32) (v3_3 : Int32) (v3_4 : Int32) (f3_0 : Nat → Int32) (f3_2 : Nat → Int32) (v0_3 : Int32) (v0_11 : Int32) (v0_12 : Int32) (f0_1 : Nat → Int32) : Option ((Nat → Int32) × (Nat → Int32) × Int32 × Int32 × Int32 × Int32 × Int32 × Int32 × Int32) := (if v17 = 0 then ((sp_t1_op_ nf 25 0 v3_1 f3_0).bind (fun p1 => ((sp_t10_give nf v16 v3_3 v3_4 f3_2).bind (fun p2 => (some (p1.1, p2.1, v0_11, v0_12, p2.2.1, p2.2.2.1, p1.2, p2.2.2.2.1, p2.2.2.2.2)))))) else ((sp_t9_tell nf 7 a1 v0_3 v0_11 v0_12 f0_1).bind (fun p3 => ((sp_t1_op_ nf 25 0 v3_1 f3_0).bind (fun p4 => ((sp_t10_give nf v16 v3_3 v3_4 f3_2).bind (fun p5 => (some (p4.1, p5.1, p3.1, p3.2, p5.2.1, p5.2.2.1, p4.2, p5.2.2.2.1, p5.2.2.2.2)))))))))
set_option maxHeartbeats 4000000 in
set_option maxRecDepth 100000 in
/-- ClassMill$Values.giveThis -/
theorem t10_giveThis (l : Launch) (dC : Nat → ClassId) (dI : Nat → Nat → Nat) (sz : Nat) (h0 : Nat) (a1 : Int32) (qf0 : Nat) (qf1 : Nat) (qf2 : Nat) (qf3 : Nat) (qf4 : Nat) (qf5 : Nat) (qf6 : Nat) (qf7 : Nat) (qf8 : Nat) (qf9 : Nat) (v10 : Int32) (v11 : Int32) (v12 : Int32) (v13 : Int32) (v14 : Int32) (v15 : Int32) (v16 : Int32) (v17 : Int32) (v18 : Int32) (qf3_0 : Nat) (v3_1 : Int32) (qf3_2 : Nat) (v3_3 : Int32) (v3_4 : Int32) (qf3_5 : Nat) (qf3_6 : Nat) (v3_7 : Int32) (v3_8 : Int32) (qf3_9 : Nat) (v3_10 : Int32) (qf3_11 : Nat) (qf3_12 : Nat) (qf3_13 : Nat) (v3_14 : Int32) (v3_15 : Int32) (cf3_0 : ClassId) (f3_0 : (Nat → Int32)) (cf3_2 : ClassId) (f3_2 : (Nat → Int32)) (qf0_0 : Nat) (qf0_1 : Nat) (qf0_2 : Nat) (v0_3 : Int32) (qf0_4 : Nat) (qf0_5 : Nat) (qf0_6 : Nat) (qf0_7 : Nat) (qf0_8 : Nat) (v0_9 : Int32) (v0_10 : Int32) (v0_11 : Int32) (v0_12 : Int32) (cf0_1 : ClassId) (f0_1 : (Nat → Int32)) (nf : Nat) (o3_0 : (Nat → Int32)) (o3_2 : (Nat → Int32)) (w0_11 : Int32) (w0_12 : Int32) (w11 : Int32) (w12 : Int32) (w3_1 : Int32) (w3_3 : Int32) (w3_4 : Int32) (hsp : sp_t10_giveThis nf a1 v16 v17 v3_1 v3_3 v3_4 f3_0 f3_2 v0_3 v0_11 v0_12 f0_1 = some (o3_0, o3_2, w0_11, w0_12, w11, w12, w3_1, w3_3, w3_4)) : Met l yX10_giveThis (.code yX10_giveThis cX10_giveThis 2 none :: VS_h4) ({ frames := 3, cells := 0, slots := 0, locals := 57 }) (va_Pc [.ref h0, .int a1] (fun U => U.heap.size = sz ∧ va_P (dC, dI) vwCl [(h0, .inr (10, [.ref qf0, .ref qf1, .ref qf2, .ref qf3, .ref qf4, .ref qf5, .ref qf6, .ref qf7, .ref qf8, .ref qf9, .int v10, .int v11, .int v12, .int v13, .int v14, .int v15, .int v16, .int v17, .int v18])), (qf3, .inr (1, [.ref qf3_0, .int v3_1, .ref qf3_2, .int v3_3, .int v3_4, .ref qf3_5, .ref qf3_6, .int v3_7, .int v3_8, .ref qf3_9, .int v3_10, .ref qf3_11, .ref qf3_12, .ref qf3_13, .int v3_14, .int v3_15])), (qf3_0, .inl (cf3_0, 1500, .inl f3_0)), (qf3_2, .inl (cf3_2, 20, .inl f3_2)), (qf0, .inr (9, [.ref qf0_0, .ref qf0_1, .ref qf0_2, .int v0_3, .ref qf0_4, .ref qf0_5, .ref qf0_6, .ref qf0_7, .ref qf0_8, .int v0_9, .int v0_10, .int v0_11, .int v0_12])), (qf0_1, .inl (cf0_1, 3001, .inl f0_1))] U.heap ∧ va_K (dC, dI) vwCl [(cf3_0, .byte), (cf3_2, .int), (cf0_1, .int)] U ∧ va_D (fun _ => True) [(h0, .inr (10, [.ref qf0, .ref qf1, .ref qf2, .ref qf3, .ref qf4, .ref qf5, .ref qf6, .ref qf7, .ref qf8, .ref qf9, .int v10, .int v11, .int v12, .int v13, .int v14, .int v15, .int v16, .int v17, .int v18])), (qf3, .inr (1, [.ref qf3_0, .int v3_1, .ref qf3_2, .int v3_3, .int v3_4, .ref qf3_5, .ref qf3_6, .int v3_7, .int v3_8, .ref qf3_9, .int v3_10, .ref qf3_11, .ref qf3_12, .ref qf3_13, .int v3_14, .int v3_15])), (qf3_0, .inl (cf3_0, 1500, .inl f3_0)), (qf3_2, .inl (cf3_2, 20, .inl f3_2)), (qf0, .inr (9, [.ref qf0_0, .ref qf0_1, .ref qf0_2, .int v0_3, .ref qf0_4, .ref qf0_5, .ref qf0_6, .ref qf0_7, .ref qf0_8, .int v0_9, .int v0_10, .int v0_11, .int v0_12])), (qf0_1, .inl (cf0_1, 3001, .inl f0_1))])) (va_Qv (fun (u : Unit) => match u with | () => True) (fun (u : Unit) (t : State) => match u with | () => va_P (dC, dI) vwCl [(h0, .inr (10, [.ref qf0, .ref qf1, .ref qf2, .ref qf3, .ref qf4, .ref qf5, .ref qf6, .ref qf7, .ref qf8, .ref qf9, .int v10, .int w11, .int w12, .int v13, .int v14, .int v15, .int v16, .int v17, .int v18])), (qf3, .inr (1, [.ref qf3_0, .int w3_1, .ref qf3_2, .int w3_3, .int w3_4, .ref qf3_5, .ref qf3_6, .int v3_7, .int v3_8, .ref qf3_9, .int v3_10, .ref qf3_11, .ref qf3_12, .ref qf3_13, .int v3_14, .int v3_15])), (qf3_0, .inl (cf3_0, 1500, .inl o3_0)), (qf3_2, .inl (cf3_2, 20, .inl o3_2)), (qf0, .inr (9, [.ref qf0_0, .ref qf0_1, .ref qf0_2, .int v0_3, .ref qf0_4, .ref qf0_5, .ref qf0_6, .ref qf0_7, .ref qf0_8, .int v0_9, .int v0_10, .int w0_11, .int w0_12])), (qf0_1, .inl (cf0_1, 3001, .inl f0_1))] t.heap ∧ va_K (dC, dI) vwCl [(cf3_0, .byte), (cf3_2, .int), (cf0_1, .int)] t ∧ va_D (va_A [(h0, .inr (10, [.ref qf0, .ref qf1, .ref qf2, .ref qf3, .ref qf4, .ref qf5, .ref qf6, .ref qf7, .ref qf8, .ref qf9, .int v10, .int v11, .int v12, .int v13, .int v14, .int v15, .int v16, .int v17, .int v18])), (qf3, .inr (1, [.ref qf3_0, .int v3_1, .ref qf3_2, .int v3_3, .int v3_4, .ref qf3_5, .ref qf3_6, .int v3_7, .int v3_8, .ref qf3_9, .int v3_10, .ref qf3_11, .ref qf3_12, .ref qf3_13, .int v3_14, .int v3_15])), (qf3_0, .inl (cf3_0, 1500, .inl f3_0)), (qf3_2, .inl (cf3_2, 20, .inl f3_2)), (qf0, .inr (9, [.ref qf0_0, .ref qf0_1, .ref qf0_2, .int v0_3, .ref qf0_4, .ref qf0_5, .ref qf0_6, .ref qf0_7, .ref qf0_8, .int v0_9, .int v0_10, .int v0_11, .int v0_12])), (qf0_1, .inl (cf0_1, 3001, .inl f0_1))] sz) [(h0, .inr (10, [.ref qf0, .ref qf1, .ref qf2, .ref qf3, .ref qf4, .ref qf5, .ref qf6, .ref qf7, .ref qf8, .ref qf9, .int v10, .int w11, .int w12, .int v13, .int v14, .int v15, .int v16, .int v17, .int v18])), (qf3, .inr (1, [.ref qf3_0, .int w3_1, .ref qf3_2, .int w3_3, .int w3_4, .ref qf3_5, .ref qf3_6, .int v3_7, .int v3_8, .ref qf3_9, .int v3_10, .ref qf3_11, .ref qf3_12, .ref qf3_13, .int v3_14, .int v3_15])), (qf3_0, .inl (cf3_0, 1500, .inl o3_0)), (qf3_2, .inl (cf3_2, 20, .inl o3_2)), (qf0, .inr (9, [.ref qf0_0, .ref qf0_1, .ref qf0_2, .int v0_3, .ref qf0_4, .ref qf0_5, .ref qf0_6, .ref qf0_7, .ref qf0_8, .int v0_9, .int v0_10, .int w0_11, .int w0_12])), (qf0_1, .inl (cf0_1, 3001, .inl f0_1))]) (va_A [(h0, .inr (10, [.ref qf0, .ref qf1, .ref qf2, .ref qf3, .ref qf4, .ref qf5, .ref qf6, .ref qf7, .ref qf8, .ref qf9, .int v10, .int v11, .int v12, .int v13, .int v14, .int v15, .int v16, .int v17, .int v18])), (qf3, .inr (1, [.ref qf3_0, .int v3_1, .ref qf3_2, .int v3_3, .int v3_4, .ref qf3_5, .ref qf3_6, .int v3_7, .int v3_8, .ref qf3_9, .int v3_10, .ref qf3_11, .ref qf3_12, .ref qf3_13, .int v3_14, .int v3_15])), (qf3_0, .inl (cf3_0, 1500, .inl f3_0)), (qf3_2, .inl (cf3_2, 20, .inl f3_2)), (qf0, .inr (9, [.ref qf0_0, .ref qf0_1, .ref qf0_2, .int v0_3, .ref qf0_4, .ref qf0_5, .ref qf0_6, .ref qf0_7, .ref qf0_8, .int v0_9, .int v0_10, .int v0_11, .int v0_12])), (qf0_1, .inl (cf0_1, 3001, .inl f0_1))] sz)) 0 0 (va_A [(h0, .inr (10, [.ref qf0, .ref qf1, .ref qf2, .ref qf3, .ref qf4, .ref qf5, .ref qf6, .ref qf7, .ref qf8, .ref qf9, .int v10, .int v11, .int v12, .int v13, .int v14, .int v15, .int v16, .int v17, .int v18])), (qf3, .inr (1, [.ref qf3_0, .int v3_1, .ref qf3_2, .int v3_3, .int v3_4, .ref qf3_5, .ref qf3_6, .int v3_7, .int v3_8, .ref qf3_9, .int v3_10, .ref qf3_11, .ref qf3_12, .ref qf3_13, .int v3_14, .int v3_15])), (qf3_0, .inl (cf3_0, 1500, .inl f3_0)), (qf3_2, .inl (cf3_2, 20, .inl f3_2)), (qf0, .inr (9, [.ref qf0_0, .ref qf0_1, .ref qf0_2, .int v0_3, .ref qf0_4, .ref qf0_5, .ref qf0_6, .ref qf0_7, .ref qf0_8, .int v0_9, .int v0_10, .int v0_11, .int v0_12])), (qf0_1, .inl (cf0_1, 3001, .inl f0_1))] sz) := by
  refine Met.ofW (cc := cX10_giveThis) (maxL := 2) (ret := none) (by decide) rfl ?_
  intro p e s m args below meth c s₁ B hml hv
  obtain ⟨rfl, hsz, hP, hK, hD0⟩ := hv
  have hx := B.exec
  have hb := B.bytes
  have hr := B.returns
  have hts := atoms_spec (ws := (.code yX10_giveThis cX10_giveThis 2 none :: VS_h4)) B.pre
  replace hts := fun w (h : w ∈ VS_h4) => hts w (List.mem_cons_of_mem _ h)
  have hown : s.vm.findClass RX10 = some m.cls := findClass_of_methodNamed B.named
  have hlocks := B.notSynchronized
  subst hsz
  have hD := hD0.self (sz := s.heap.size)
  generalize hAe : va_A [(h0, .inr (10, [.ref qf0, .ref qf1, .ref qf2, .ref qf3, .ref qf4, .ref qf5, .ref qf6, .ref qf7, .ref qf8, .ref qf9, .int v10, .int v11, .int v12, .int v13, .int v14, .int v15, .int v16, .int v17, .int v18])), (qf3, .inr (1, [.ref qf3_0, .int v3_1, .ref qf3_2, .int v3_3, .int v3_4, .ref qf3_5, .ref qf3_6, .int v3_7, .int v3_8, .ref qf3_9, .int v3_10, .ref qf3_11, .ref qf3_12, .ref qf3_13, .int v3_14, .int v3_15])), (qf3_0, .inl (cf3_0, 1500, .inl f3_0)), (qf3_2, .inl (cf3_2, 20, .inl f3_2)), (qf0, .inr (9, [.ref qf0_0, .ref qf0_1, .ref qf0_2, .int v0_3, .ref qf0_4, .ref qf0_5, .ref qf0_6, .ref qf0_7, .ref qf0_8, .int v0_9, .int v0_10, .int v0_11, .int v0_12])), (qf0_1, .inl (cf0_1, 3001, .inl f0_1))] s.heap.size = A at hD  ⊢
  have hA : ∀ q : Nat, s.heap.size ≤ q → A q := fun q h => by rw [← hAe]; exact Or.inr h
  have hP : va_P (dC, dI) vwCl [(h0, .inr (10, [.ref qf0, .ref qf1, .ref qf2, .ref qf3, .ref qf4, .ref qf5, .ref qf6, .ref qf7, .ref qf8, .ref qf9, .int v10, .int v11, .int v12, .int v13, .int v14, .int v15, .int v16, .int v17, .int v18])), (qf3, .inr (1, [.ref qf3_0, .int v3_1, .ref qf3_2, .int v3_3, .int v3_4, .ref qf3_5, .ref qf3_6, .int v3_7, .int v3_8, .ref qf3_9, .int v3_10, .ref qf3_11, .ref qf3_12, .ref qf3_13, .int v3_14, .int v3_15])), (qf3_0, .inl (cf3_0, 1500, .inl f3_0)), (qf3_2, .inl (cf3_2, 20, .inl f3_2)), (qf0, .inr (9, [.ref qf0_0, .ref qf0_1, .ref qf0_2, .int v0_3, .ref qf0_4, .ref qf0_5, .ref qf0_6, .ref qf0_7, .ref qf0_8, .int v0_9, .int v0_10, .int v0_11, .int v0_12])), (qf0_1, .inl (cf0_1, 3001, .inl f0_1))] s.heap := hP
  have hl := lv_entry ([.ref h0, .int a1]) (n := 2) (Nat.le_of_ble_eq_true rfl)
  rw [lg_entry_eq]
  generalize (lg_sl ([.ref h0, .int a1]) ++ List.replicate (2 - (lg_sl ([.ref h0, .int a1])).length) Slot.unset).toArray = ls at hl ⊢
  have hl : lv_has ls 2 [(0, .ref h0), (1, .int a1)] := hl
  obtain ⟨H, hH⟩ : ∃ H : Heap, s.heap = H := ⟨_, rfl⟩
  rw [hH] at hP ⊢
  have hS : va_S A s.heap H [] := by rw [← hH]; exact va_S.rf
  obtain ⟨locs, hlo⟩ : ∃ locs : List Loc, locs = [] := ⟨_, rfl⟩
  rw [← hlo] at hS ⊢
  unfold sp_t10_giveThis at hsp
  refine lv_aload_n hx hb dX10_giveThis_0 rfl (lv_at hl 0 rfl) ?_
  refine va_get (D := (dC, dI)) (ci := 10) (v := .int v17) (C := RX10) (T := TX10) (N := 19) hx hb hts uV_h4_X10 hown hK hP 0 rfl rfl 17 (by decide) (hts (.fieldLink RX10 58 "ClassMill$Values" "fixed" "Z") mw_h4_279) (fun _ h9 => h9) rfl dX10_giveThis_1 ?_
  refine lv_if_eq (tgt := 17) hx hb dX10_giveThis_4 (by decide) (fun c_1 => ?_) (fun c_1 => ?_)
  · rw [if_pos c_1] at hsp
    refine lv_aload_n hx hb dX10_giveThis_17 rfl (lv_at hl 0 rfl) ?_
    refine va_get (D := (dC, dI)) (ci := 10) (v := .ref qf3) (C := RX10) (T := TX10) (N := 19) hx hb hts uV_h4_X10 hown hK hP 0 rfl rfl 3 (by decide) (hts (.fieldLink RX10 46 "ClassMill$Values" "code" "LClassMill$Code;") mw_h4_318) (fun _ h9 => h9) rfl dX10_giveThis_18 ?_
    refine lv_bipush (v := 25) hx hb dX10_giveThis_21 (by decide) ?_
    refine lv_iconst (v := 0) hx hb dX10_giveThis_23 (by decide) ?_
    obtain ⟨⟨g901_0, u1_1⟩, hu_1, hsp⟩ := ox_bind hsp
    try dsimp only at hsp
    have hPc := hP.sub (ws' := [(qf3, .inr (1, [.ref qf3_0, .int v3_1, .ref qf3_2, .int v3_3, .int v3_4, .ref qf3_5, .ref qf3_6, .int v3_7, .int v3_8, .ref qf3_9, .int v3_10, .ref qf3_11, .ref qf3_12, .ref qf3_13, .int v3_14, .int v3_15])), (qf3_0, .inl (cf3_0, 1500, .inl f3_0))]) [1, 2] rfl
    have hDc := hD.sub (ws' := [(qf3, .inr (1, [.ref qf3_0, .int v3_1, .ref qf3_2, .int v3_3, .int v3_4, .ref qf3_5, .ref qf3_6, .int v3_7, .int v3_8, .ref qf3_9, .int v3_10, .ref qf3_11, .ref qf3_12, .ref qf3_13, .int v3_14, .int v3_15])), (qf3_0, .inl (cf3_0, 1500, .inl f3_0))]) [1, 2] (by decide) rfl
    have hKc := hK.sub (tys' := [(cf3_0, .byte)]) [0] rfl
    have hFc := va_free (wc := [(qf3, .inr (1, [.ref qf3_0, .int v3_1, .ref qf3_2, .int v3_3, .int v3_4, .ref qf3_5, .ref qf3_6, .int v3_7, .int v3_8, .ref qf3_9, .int v3_10, .ref qf3_11, .ref qf3_12, .ref qf3_13, .int v3_14, .int v3_15])), (qf3_0, .inl (cf3_0, 1500, .inl f3_0))]) hD hS hA [1, 2] rfl
    refine va_callv (va_runV (As := [.int 25, .int 0]) (rest := []) ⟨hx, hb, hml, hown, hts⟩ (t1_op_ l dC dI H.size qf3 25 0 qf3_0 v3_1 qf3_2 v3_3 v3_4 qf3_5 qf3_6 v3_7 v3_8 qf3_9 v3_10 qf3_11 qf3_12 qf3_13 v3_14 v3_15 cf3_0 f3_0 nf g901_0 u1_1 hu_1) (cwV 2 hts gv_h4_71 rfl rfl rfl (by decide +kernel) ⟨Nat.le_of_ble_eq_true rfl, Nat.le_of_ble_eq_true rfl⟩) ⟨fun a U g mk q => by obtain ⟨q0, q1, qP, qK, qD⟩ := q; exact ⟨q0, q1, qP, va_K.moved (u := U) (U := U.calling g mk a) (Vm.Alike.refl U.vm) qK, qD⟩, va_recv hKc hPc (ci := 1) (q0 := 0) rfl rfl, fun U hU hW => ⟨rfl, by rw [hU], by rw [hU]; exact hPc, va_K.moved hW.alike hKc, hDc.weaken (fun _ _ _ _ => trivial)⟩⟩ rfl rfl hl.1 rfl (lv_room (Nat.le_of_ble_eq_true rfl)) dX10_giveThis_24 ⟨Nat.le_of_ble_eq_true rfl, Nat.le_of_ble_eq_true rfl⟩) hS (fun q _ h => hFc q h) hFc ?_
    clear hS
    intro u t H1 locs ht hvm hw hB hz1 hk1 hS
    obtain ⟨⟩ := u
    obtain ⟨hP1, hK1, hD1⟩ := hB
    rw [ht] at hP1
    have hK1 := va_K.moved hvm.symm hK1
    try dsimp only at hw
    have hPD := va_join (wr := [(h0, .inr (10, [.ref qf0, .ref qf1, .ref qf2, .ref qf3, .ref qf4, .ref qf5, .ref qf6, .ref qf7, .ref qf8, .ref qf9, .int v10, .int v11, .int v12, .int v13, .int v14, .int v15, .int v16, .int v17, .int v18])), (qf3_2, .inl (cf3_2, 20, .inl f3_2)), (qf0, .inr (9, [.ref qf0_0, .ref qf0_1, .ref qf0_2, .int v0_3, .ref qf0_4, .ref qf0_5, .ref qf0_6, .ref qf0_7, .ref qf0_8, .int v0_9, .int v0_10, .int v0_11, .int v0_12])), (qf0_1, .inl (cf0_1, 3001, .inl f0_1))]) (w1 := [(qf3, .inr (1, [.ref qf3_0, .int u1_1, .ref qf3_2, .int v3_3, .int v3_4, .ref qf3_5, .ref qf3_6, .int v3_7, .int v3_8, .ref qf3_9, .int v3_10, .ref qf3_11, .ref qf3_12, .ref qf3_13, .int v3_14, .int v3_15])), (qf3_0, .inl (cf3_0, 1500, .inl g901_0))]) hP hD [1, 2] [0, 3, 4, 5] rfl rfl (by decide) (by decide) hk1 hFc hP1 hD1
    clear hP hD
    obtain ⟨hP, hD⟩ := hPD
    replace hK := (hK.sub (tys' := [(cf3_2, .int), (cf0_1, .int)]) [1, 2] rfl).app hK1
    clear hPc hDc hKc hFc hP1 hK1 hD1 hz1 hk1 ht hvm
    generalize H1 = H at hP hS ⊢
    replace hP : va_P (dC, dI) vwCl [(h0, .inr (10, [.ref qf0, .ref qf1, .ref qf2, .ref qf3, .ref qf4, .ref qf5, .ref qf6, .ref qf7, .ref qf8, .ref qf9, .int v10, .int v11, .int v12, .int v13, .int v14, .int v15, .int v16, .int v17, .int v18])), (qf3_2, .inl (cf3_2, 20, .inl f3_2)), (qf0, .inr (9, [.ref qf0_0, .ref qf0_1, .ref qf0_2, .int v0_3, .ref qf0_4, .ref qf0_5, .ref qf0_6, .ref qf0_7, .ref qf0_8, .int v0_9, .int v0_10, .int v0_11, .int v0_12])), (qf0_1, .inl (cf0_1, 3001, .inl f0_1)), (qf3, .inr (1, [.ref qf3_0, .int u1_1, .ref qf3_2, .int v3_3, .int v3_4, .ref qf3_5, .ref qf3_6, .int v3_7, .int v3_8, .ref qf3_9, .int v3_10, .ref qf3_11, .ref qf3_12, .ref qf3_13, .int v3_14, .int v3_15])), (qf3_0, .inl (cf3_0, 1500, .inl g901_0))] H := hP
    replace hD : va_D A [(h0, .inr (10, [.ref qf0, .ref qf1, .ref qf2, .ref qf3, .ref qf4, .ref qf5, .ref qf6, .ref qf7, .ref qf8, .ref qf9, .int v10, .int v11, .int v12, .int v13, .int v14, .int v15, .int v16, .int v17, .int v18])), (qf3_2, .inl (cf3_2, 20, .inl f3_2)), (qf0, .inr (9, [.ref qf0_0, .ref qf0_1, .ref qf0_2, .int v0_3, .ref qf0_4, .ref qf0_5, .ref qf0_6, .ref qf0_7, .ref qf0_8, .int v0_9, .int v0_10, .int v0_11, .int v0_12])), (qf0_1, .inl (cf0_1, 3001, .inl f0_1)), (qf3, .inr (1, [.ref qf3_0, .int u1_1, .ref qf3_2, .int v3_3, .int v3_4, .ref qf3_5, .ref qf3_6, .int v3_7, .int v3_8, .ref qf3_9, .int v3_10, .ref qf3_11, .ref qf3_12, .ref qf3_13, .int v3_14, .int v3_15])), (qf3_0, .inl (cf3_0, 1500, .inl g901_0))] := hD
    replace hK : va_K (dC, dI) vwCl [(cf3_2, .int), (cf0_1, .int), (cf3_0, .byte)] s := hK
    refine lv_aload_n hx hb dX10_giveThis_27 rfl (lv_at hl 0 rfl) ?_
    refine lv_aload_n hx hb dX10_giveThis_28 rfl (lv_at hl 0 rfl) ?_
    refine va_get (D := (dC, dI)) (ci := 10) (v := .int v16) (C := RX10) (T := TX10) (N := 19) hx hb hts uV_h4_X10 hown hK hP 0 rfl rfl 16 (by decide) (hts (.fieldLink RX10 54 "ClassMill$Values" "own" "I") mw_h4_278) (fun _ h9 => h9) rfl dX10_giveThis_29 ?_
    obtain ⟨⟨g902_0, u2_1, u2_2, u2_3, u2_4⟩, hu_2, hsp⟩ := ox_bind hsp
    try dsimp only at hsp
    have hPc := hP.sub (ws' := [(h0, .inr (10, [.ref qf0, .ref qf1, .ref qf2, .ref qf3, .ref qf4, .ref qf5, .ref qf6, .ref qf7, .ref qf8, .ref qf9, .int v10, .int v11, .int v12, .int v13, .int v14, .int v15, .int v16, .int v17, .int v18])), (qf3, .inr (1, [.ref qf3_0, .int u1_1, .ref qf3_2, .int v3_3, .int v3_4, .ref qf3_5, .ref qf3_6, .int v3_7, .int v3_8, .ref qf3_9, .int v3_10, .ref qf3_11, .ref qf3_12, .ref qf3_13, .int v3_14, .int v3_15])), (qf3_2, .inl (cf3_2, 20, .inl f3_2))]) [0, 4, 1] rfl
    have hDc := hD.sub (ws' := [(h0, .inr (10, [.ref qf0, .ref qf1, .ref qf2, .ref qf3, .ref qf4, .ref qf5, .ref qf6, .ref qf7, .ref qf8, .ref qf9, .int v10, .int v11, .int v12, .int v13, .int v14, .int v15, .int v16, .int v17, .int v18])), (qf3, .inr (1, [.ref qf3_0, .int u1_1, .ref qf3_2, .int v3_3, .int v3_4, .ref qf3_5, .ref qf3_6, .int v3_7, .int v3_8, .ref qf3_9, .int v3_10, .ref qf3_11, .ref qf3_12, .ref qf3_13, .int v3_14, .int v3_15])), (qf3_2, .inl (cf3_2, 20, .inl f3_2))]) [0, 4, 1] (by decide) rfl
    have hKc := hK.sub (tys' := [(cf3_2, .int)]) [0] rfl
    have hFc := va_free (wc := [(h0, .inr (10, [.ref qf0, .ref qf1, .ref qf2, .ref qf3, .ref qf4, .ref qf5, .ref qf6, .ref qf7, .ref qf8, .ref qf9, .int v10, .int v11, .int v12, .int v13, .int v14, .int v15, .int v16, .int v17, .int v18])), (qf3, .inr (1, [.ref qf3_0, .int u1_1, .ref qf3_2, .int v3_3, .int v3_4, .ref qf3_5, .ref qf3_6, .int v3_7, .int v3_8, .ref qf3_9, .int v3_10, .ref qf3_11, .ref qf3_12, .ref qf3_13, .int v3_14, .int v3_15])), (qf3_2, .inl (cf3_2, 20, .inl f3_2))]) hD hS hA [0, 4, 1] rfl
    refine va_callv (va_runV (As := [.int v16]) (rest := []) ⟨hx, hb, hml, hown, hts⟩ (t10_give l dC dI H.size h0 v16 qf0 qf1 qf2 qf3 qf4 qf5 qf6 qf7 qf8 qf9 v10 v11 v12 v13 v14 v15 v16 v17 v18 qf3_0 u1_1 qf3_2 v3_3 v3_4 qf3_5 qf3_6 v3_7 v3_8 qf3_9 v3_10 qf3_11 qf3_12 qf3_13 v3_14 v3_15 cf3_2 f3_2 nf g902_0 u2_1 u2_2 u2_3 u2_4 hu_2) (cwV 1 hts gv_h4_79 rfl rfl rfl (by decide +kernel) ⟨Nat.le_of_ble_eq_true rfl, Nat.le_of_ble_eq_true rfl⟩) ⟨fun a U g mk q => by obtain ⟨q0, q1, qP, qK, qD⟩ := q; exact ⟨q0, q1, qP, va_K.moved (u := U) (U := U.calling g mk a) (Vm.Alike.refl U.vm) qK, qD⟩, va_recv hKc hPc (ci := 10) (q0 := 0) rfl rfl, fun U hU hW => ⟨rfl, by rw [hU], by rw [hU]; exact hPc, va_K.moved hW.alike hKc, hDc.weaken (fun _ _ _ _ => trivial)⟩⟩ rfl rfl hl.1 rfl (lv_room (Nat.le_of_ble_eq_true rfl)) dX10_giveThis_32 ⟨Nat.le_of_ble_eq_true rfl, Nat.le_of_ble_eq_true rfl⟩) hS (fun q _ h => hFc q h) hFc ?_
    clear hS
    intro u t H1 locs ht hvm hw hB hz1 hk1 hS
    obtain ⟨⟩ := u
    obtain ⟨hP1, hK1, hD1⟩ := hB
    rw [ht] at hP1
    have hK1 := va_K.moved hvm.symm hK1
    try dsimp only at hw
    have hPD := va_join (wr := [(qf0, .inr (9, [.ref qf0_0, .ref qf0_1, .ref qf0_2, .int v0_3, .ref qf0_4, .ref qf0_5, .ref qf0_6, .ref qf0_7, .ref qf0_8, .int v0_9, .int v0_10, .int v0_11, .int v0_12])), (qf0_1, .inl (cf0_1, 3001, .inl f0_1)), (qf3_0, .inl (cf3_0, 1500, .inl g901_0))]) (w1 := [(h0, .inr (10, [.ref qf0, .ref qf1, .ref qf2, .ref qf3, .ref qf4, .ref qf5, .ref qf6, .ref qf7, .ref qf8, .ref qf9, .int v10, .int u2_1, .int u2_2, .int v13, .int v14, .int v15, .int v16, .int v17, .int v18])), (qf3, .inr (1, [.ref qf3_0, .int u1_1, .ref qf3_2, .int u2_3, .int u2_4, .ref qf3_5, .ref qf3_6, .int v3_7, .int v3_8, .ref qf3_9, .int v3_10, .ref qf3_11, .ref qf3_12, .ref qf3_13, .int v3_14, .int v3_15])), (qf3_2, .inl (cf3_2, 20, .inl g902_0))]) hP hD [0, 4, 1] [2, 3, 5] rfl rfl (by decide) (by decide) hk1 hFc hP1 hD1
    clear hP hD
    obtain ⟨hP, hD⟩ := hPD
    replace hK := (hK.sub (tys' := [(cf0_1, .int), (cf3_0, .byte)]) [1, 2] rfl).app hK1
    clear hPc hDc hKc hFc hP1 hK1 hD1 hz1 hk1 ht hvm
    generalize H1 = H at hP hS ⊢
    replace hP : va_P (dC, dI) vwCl [(qf0, .inr (9, [.ref qf0_0, .ref qf0_1, .ref qf0_2, .int v0_3, .ref qf0_4, .ref qf0_5, .ref qf0_6, .ref qf0_7, .ref qf0_8, .int v0_9, .int v0_10, .int v0_11, .int v0_12])), (qf0_1, .inl (cf0_1, 3001, .inl f0_1)), (qf3_0, .inl (cf3_0, 1500, .inl g901_0)), (h0, .inr (10, [.ref qf0, .ref qf1, .ref qf2, .ref qf3, .ref qf4, .ref qf5, .ref qf6, .ref qf7, .ref qf8, .ref qf9, .int v10, .int u2_1, .int u2_2, .int v13, .int v14, .int v15, .int v16, .int v17, .int v18])), (qf3, .inr (1, [.ref qf3_0, .int u1_1, .ref qf3_2, .int u2_3, .int u2_4, .ref qf3_5, .ref qf3_6, .int v3_7, .int v3_8, .ref qf3_9, .int v3_10, .ref qf3_11, .ref qf3_12, .ref qf3_13, .int v3_14, .int v3_15])), (qf3_2, .inl (cf3_2, 20, .inl g902_0))] H := hP
    replace hD : va_D A [(qf0, .inr (9, [.ref qf0_0, .ref qf0_1, .ref qf0_2, .int v0_3, .ref qf0_4, .ref qf0_5, .ref qf0_6, .ref qf0_7, .ref qf0_8, .int v0_9, .int v0_10, .int v0_11, .int v0_12])), (qf0_1, .inl (cf0_1, 3001, .inl f0_1)), (qf3_0, .inl (cf3_0, 1500, .inl g901_0)), (h0, .inr (10, [.ref qf0, .ref qf1, .ref qf2, .ref qf3, .ref qf4, .ref qf5, .ref qf6, .ref qf7, .ref qf8, .ref qf9, .int v10, .int u2_1, .int u2_2, .int v13, .int v14, .int v15, .int v16, .int v17, .int v18])), (qf3, .inr (1, [.ref qf3_0, .int u1_1, .ref qf3_2, .int u2_3, .int u2_4, .ref qf3_5, .ref qf3_6, .int v3_7, .int v3_8, .ref qf3_9, .int v3_10, .ref qf3_11, .ref qf3_12, .ref qf3_13, .int v3_14, .int v3_15])), (qf3_2, .inl (cf3_2, 20, .inl g902_0))] := hD
    replace hK : va_K (dC, dI) vwCl [(cf0_1, .int), (cf3_0, .byte), (cf3_2, .int)] s := hK
    have hr0 := Option.some.inj hsp
    clear hsp
    obtain ⟨hq0, hr1⟩ := Prod.mk.inj hr0
    clear hr0
    obtain ⟨hq1, hr2⟩ := Prod.mk.inj hr1
    clear hr1
    obtain ⟨hq2, hr3⟩ := Prod.mk.inj hr2
    clear hr2
    obtain ⟨hq3, hr4⟩ := Prod.mk.inj hr3
    clear hr3
    obtain ⟨hq4, hr5⟩ := Prod.mk.inj hr4
    clear hr4
    obtain ⟨hq5, hr6⟩ := Prod.mk.inj hr5
    clear hr5
    obtain ⟨hq6, hr7⟩ := Prod.mk.inj hr6
    clear hr6
    obtain ⟨hq7, hr8⟩ := Prod.mk.inj hr7
    clear hr7
    subst hq0
    subst hq1
    subst hq2
    subst hq3
    subst hq4
    subst hq5
    subst hq6
    subst hq7
    subst hr8
    have hP9 := hP.sub (ws' := [(h0, .inr (10, [.ref qf0, .ref qf1, .ref qf2, .ref qf3, .ref qf4, .ref qf5, .ref qf6, .ref qf7, .ref qf8, .ref qf9, .int v10, .int u2_1, .int u2_2, .int v13, .int v14, .int v15, .int v16, .int v17, .int v18])), (qf3, .inr (1, [.ref qf3_0, .int u1_1, .ref qf3_2, .int u2_3, .int u2_4, .ref qf3_5, .ref qf3_6, .int v3_7, .int v3_8, .ref qf3_9, .int v3_10, .ref qf3_11, .ref qf3_12, .ref qf3_13, .int v3_14, .int v3_15])), (qf3_0, .inl (cf3_0, 1500, .inl g901_0)), (qf3_2, .inl (cf3_2, 20, .inl g902_0)), (qf0, .inr (9, [.ref qf0_0, .ref qf0_1, .ref qf0_2, .int v0_3, .ref qf0_4, .ref qf0_5, .ref qf0_6, .ref qf0_7, .ref qf0_8, .int v0_9, .int v0_10, .int v0_11, .int v0_12])), (qf0_1, .inl (cf0_1, 3001, .inl f0_1))]) [3, 4, 2, 5, 0, 1] rfl
    have hD9 := hD.sub (ws' := [(h0, .inr (10, [.ref qf0, .ref qf1, .ref qf2, .ref qf3, .ref qf4, .ref qf5, .ref qf6, .ref qf7, .ref qf8, .ref qf9, .int v10, .int u2_1, .int u2_2, .int v13, .int v14, .int v15, .int v16, .int v17, .int v18])), (qf3, .inr (1, [.ref qf3_0, .int u1_1, .ref qf3_2, .int u2_3, .int u2_4, .ref qf3_5, .ref qf3_6, .int v3_7, .int v3_8, .ref qf3_9, .int v3_10, .ref qf3_11, .ref qf3_12, .ref qf3_13, .int v3_14, .int v3_15])), (qf3_0, .inl (cf3_0, 1500, .inl g901_0)), (qf3_2, .inl (cf3_2, 20, .inl g902_0)), (qf0, .inr (9, [.ref qf0_0, .ref qf0_1, .ref qf0_2, .int v0_3, .ref qf0_4, .ref qf0_5, .ref qf0_6, .ref qf0_7, .ref qf0_8, .int v0_9, .int v0_10, .int v0_11, .int v0_12])), (qf0_1, .inl (cf0_1, 3001, .inl f0_1))]) [3, 4, 2, 5, 0, 1] (by decide) rfl
    have hK9 := hK.sub (tys' := [(cf3_0, .byte), (cf3_2, .int), (cf0_1, .int)]) [1, 2, 0] rfl
    exact W.vret hx hb hr (fun t ht hW => ⟨⟨(), rfl, trivial, by rw [ht]; exact hP9, va_K.moved hW.alike hK9, hD9⟩, hS.F ht⟩) hS.2.2 dX10_giveThis_35
  · rw [if_neg c_1] at hsp
    refine lv_aload_n hx hb dX10_giveThis_7 rfl (lv_at hl 0 rfl) ?_
    refine va_get (D := (dC, dI)) (ci := 10) (v := .ref qf0) (C := RX10) (T := TX10) (N := 19) hx hb hts uV_h4_X10 hown hK hP 0 rfl rfl 0 (by decide) (hts (.fieldLink RX10 31 "ClassMill$Values" "text" "LClassMill$Text;") mw_h4_297) (fun _ h9 => h9) rfl dX10_giveThis_8 ?_
    refine lv_bipush (v := 7) hx hb dX10_giveThis_11 (by decide) ?_
    refine lv_iload_n hx hb dX10_giveThis_13 rfl (lv_at hl 1 rfl) ?_
    obtain ⟨⟨u3_0, u3_1⟩, hu_3, hsp⟩ := ox_bind hsp
    try dsimp only at hsp
    have hPc := hP.sub (ws' := [(qf0, .inr (9, [.ref qf0_0, .ref qf0_1, .ref qf0_2, .int v0_3, .ref qf0_4, .ref qf0_5, .ref qf0_6, .ref qf0_7, .ref qf0_8, .int v0_9, .int v0_10, .int v0_11, .int v0_12])), (qf0_1, .inl (cf0_1, 3001, .inl f0_1))]) [4, 5] rfl
    have hDc := hD.sub (ws' := [(qf0, .inr (9, [.ref qf0_0, .ref qf0_1, .ref qf0_2, .int v0_3, .ref qf0_4, .ref qf0_5, .ref qf0_6, .ref qf0_7, .ref qf0_8, .int v0_9, .int v0_10, .int v0_11, .int v0_12])), (qf0_1, .inl (cf0_1, 3001, .inl f0_1))]) [4, 5] (by decide) rfl
    have hKc := hK.sub (tys' := [(cf0_1, .int)]) [2] rfl
    have hFc := va_free (wc := [(qf0, .inr (9, [.ref qf0_0, .ref qf0_1, .ref qf0_2, .int v0_3, .ref qf0_4, .ref qf0_5, .ref qf0_6, .ref qf0_7, .ref qf0_8, .int v0_9, .int v0_10, .int v0_11, .int v0_12])), (qf0_1, .inl (cf0_1, 3001, .inl f0_1))]) hD hS hA [4, 5] rfl
    refine va_callv (va_runV (As := [.int 7, .int a1]) (rest := []) ⟨hx, hb, hml, hown, hts⟩ (t9_tell l dC dI H.size qf0 7 a1 qf0_0 qf0_1 qf0_2 v0_3 qf0_4 qf0_5 qf0_6 qf0_7 qf0_8 v0_9 v0_10 v0_11 v0_12 cf0_1 f0_1 nf u3_0 u3_1 hu_3) (cwV 2 hts gv_h4_65 rfl rfl rfl (by decide +kernel) ⟨Nat.le_of_ble_eq_true rfl, Nat.le_of_ble_eq_true rfl⟩) ⟨fun a U g mk q => by obtain ⟨q0, q1, qP, qK, qD⟩ := q; exact ⟨q0, q1, qP, va_K.moved (u := U) (U := U.calling g mk a) (Vm.Alike.refl U.vm) qK, qD⟩, va_recv hKc hPc (ci := 9) (q0 := 0) rfl rfl, fun U hU hW => ⟨rfl, by rw [hU], by rw [hU]; exact hPc, va_K.moved hW.alike hKc, hDc.weaken (fun _ _ _ _ => trivial)⟩⟩ rfl rfl hl.1 rfl (lv_room (Nat.le_of_ble_eq_true rfl)) dX10_giveThis_14 ⟨Nat.le_of_ble_eq_true rfl, Nat.le_of_ble_eq_true rfl⟩) hS (fun q _ h => hFc q h) hFc ?_
    clear hS
    intro u t H1 locs ht hvm hw hB hz1 hk1 hS
    obtain ⟨⟩ := u
    obtain ⟨hP1, hK1, hD1⟩ := hB
    rw [ht] at hP1
    have hK1 := va_K.moved hvm.symm hK1
    try dsimp only at hw
    have hPD := va_join (wr := [(h0, .inr (10, [.ref qf0, .ref qf1, .ref qf2, .ref qf3, .ref qf4, .ref qf5, .ref qf6, .ref qf7, .ref qf8, .ref qf9, .int v10, .int v11, .int v12, .int v13, .int v14, .int v15, .int v16, .int v17, .int v18])), (qf3, .inr (1, [.ref qf3_0, .int v3_1, .ref qf3_2, .int v3_3, .int v3_4, .ref qf3_5, .ref qf3_6, .int v3_7, .int v3_8, .ref qf3_9, .int v3_10, .ref qf3_11, .ref qf3_12, .ref qf3_13, .int v3_14, .int v3_15])), (qf3_0, .inl (cf3_0, 1500, .inl f3_0)), (qf3_2, .inl (cf3_2, 20, .inl f3_2))]) (w1 := [(qf0, .inr (9, [.ref qf0_0, .ref qf0_1, .ref qf0_2, .int v0_3, .ref qf0_4, .ref qf0_5, .ref qf0_6, .ref qf0_7, .ref qf0_8, .int v0_9, .int v0_10, .int u3_0, .int u3_1])), (qf0_1, .inl (cf0_1, 3001, .inl f0_1))]) hP hD [4, 5] [0, 1, 2, 3] rfl rfl (by decide) (by decide) hk1 hFc hP1 hD1
    clear hP hD
    obtain ⟨hP, hD⟩ := hPD
    replace hK := (hK.sub (tys' := [(cf3_0, .byte), (cf3_2, .int)]) [0, 1] rfl).app hK1
    clear hPc hDc hKc hFc hP1 hK1 hD1 hz1 hk1 ht hvm
    generalize H1 = H at hP hS ⊢
    replace hP : va_P (dC, dI) vwCl [(h0, .inr (10, [.ref qf0, .ref qf1, .ref qf2, .ref qf3, .ref qf4, .ref qf5, .ref qf6, .ref qf7, .ref qf8, .ref qf9, .int v10, .int v11, .int v12, .int v13, .int v14, .int v15, .int v16, .int v17, .int v18])), (qf3, .inr (1, [.ref qf3_0, .int v3_1, .ref qf3_2, .int v3_3, .int v3_4, .ref qf3_5, .ref qf3_6, .int v3_7, .int v3_8, .ref qf3_9, .int v3_10, .ref qf3_11, .ref qf3_12, .ref qf3_13, .int v3_14, .int v3_15])), (qf3_0, .inl (cf3_0, 1500, .inl f3_0)), (qf3_2, .inl (cf3_2, 20, .inl f3_2)), (qf0, .inr (9, [.ref qf0_0, .ref qf0_1, .ref qf0_2, .int v0_3, .ref qf0_4, .ref qf0_5, .ref qf0_6, .ref qf0_7, .ref qf0_8, .int v0_9, .int v0_10, .int u3_0, .int u3_1])), (qf0_1, .inl (cf0_1, 3001, .inl f0_1))] H := hP
    replace hD : va_D A [(h0, .inr (10, [.ref qf0, .ref qf1, .ref qf2, .ref qf3, .ref qf4, .ref qf5, .ref qf6, .ref qf7, .ref qf8, .ref qf9, .int v10, .int v11, .int v12, .int v13, .int v14, .int v15, .int v16, .int v17, .int v18])), (qf3, .inr (1, [.ref qf3_0, .int v3_1, .ref qf3_2, .int v3_3, .int v3_4, .ref qf3_5, .ref qf3_6, .int v3_7, .int v3_8, .ref qf3_9, .int v3_10, .ref qf3_11, .ref qf3_12, .ref qf3_13, .int v3_14, .int v3_15])), (qf3_0, .inl (cf3_0, 1500, .inl f3_0)), (qf3_2, .inl (cf3_2, 20, .inl f3_2)), (qf0, .inr (9, [.ref qf0_0, .ref qf0_1, .ref qf0_2, .int v0_3, .ref qf0_4, .ref qf0_5, .ref qf0_6, .ref qf0_7, .ref qf0_8, .int v0_9, .int v0_10, .int u3_0, .int u3_1])), (qf0_1, .inl (cf0_1, 3001, .inl f0_1))] := hD
    replace hK : va_K (dC, dI) vwCl [(cf3_0, .byte), (cf3_2, .int), (cf0_1, .int)] s := hK
    refine lv_aload_n hx hb dX10_giveThis_17 rfl (lv_at hl 0 rfl) ?_
    refine va_get (D := (dC, dI)) (ci := 10) (v := .ref qf3) (C := RX10) (T := TX10) (N := 19) hx hb hts uV_h4_X10 hown hK hP 0 rfl rfl 3 (by decide) (hts (.fieldLink RX10 46 "ClassMill$Values" "code" "LClassMill$Code;") mw_h4_318) (fun _ h9 => h9) rfl dX10_giveThis_18 ?_
    refine lv_bipush (v := 25) hx hb dX10_giveThis_21 (by decide) ?_
    refine lv_iconst (v := 0) hx hb dX10_giveThis_23 (by decide) ?_
    obtain ⟨⟨g904_0, u4_1⟩, hu_4, hsp⟩ := ox_bind hsp
    try dsimp only at hsp
    have hPc := hP.sub (ws' := [(qf3, .inr (1, [.ref qf3_0, .int v3_1, .ref qf3_2, .int v3_3, .int v3_4, .ref qf3_5, .ref qf3_6, .int v3_7, .int v3_8, .ref qf3_9, .int v3_10, .ref qf3_11, .ref qf3_12, .ref qf3_13, .int v3_14, .int v3_15])), (qf3_0, .inl (cf3_0, 1500, .inl f3_0))]) [1, 2] rfl
    have hDc := hD.sub (ws' := [(qf3, .inr (1, [.ref qf3_0, .int v3_1, .ref qf3_2, .int v3_3, .int v3_4, .ref qf3_5, .ref qf3_6, .int v3_7, .int v3_8, .ref qf3_9, .int v3_10, .ref qf3_11, .ref qf3_12, .ref qf3_13, .int v3_14, .int v3_15])), (qf3_0, .inl (cf3_0, 1500, .inl f3_0))]) [1, 2] (by decide) rfl
    have hKc := hK.sub (tys' := [(cf3_0, .byte)]) [0] rfl
    have hFc := va_free (wc := [(qf3, .inr (1, [.ref qf3_0, .int v3_1, .ref qf3_2, .int v3_3, .int v3_4, .ref qf3_5, .ref qf3_6, .int v3_7, .int v3_8, .ref qf3_9, .int v3_10, .ref qf3_11, .ref qf3_12, .ref qf3_13, .int v3_14, .int v3_15])), (qf3_0, .inl (cf3_0, 1500, .inl f3_0))]) hD hS hA [1, 2] rfl
    refine va_callv (va_runV (As := [.int 25, .int 0]) (rest := []) ⟨hx, hb, hml, hown, hts⟩ (t1_op_ l dC dI H.size qf3 25 0 qf3_0 v3_1 qf3_2 v3_3 v3_4 qf3_5 qf3_6 v3_7 v3_8 qf3_9 v3_10 qf3_11 qf3_12 qf3_13 v3_14 v3_15 cf3_0 f3_0 nf g904_0 u4_1 hu_4) (cwV 2 hts gv_h4_71 rfl rfl rfl (by decide +kernel) ⟨Nat.le_of_ble_eq_true rfl, Nat.le_of_ble_eq_true rfl⟩) ⟨fun a U g mk q => by obtain ⟨q0, q1, qP, qK, qD⟩ := q; exact ⟨q0, q1, qP, va_K.moved (u := U) (U := U.calling g mk a) (Vm.Alike.refl U.vm) qK, qD⟩, va_recv hKc hPc (ci := 1) (q0 := 0) rfl rfl, fun U hU hW => ⟨rfl, by rw [hU], by rw [hU]; exact hPc, va_K.moved hW.alike hKc, hDc.weaken (fun _ _ _ _ => trivial)⟩⟩ rfl rfl hl.1 rfl (lv_room (Nat.le_of_ble_eq_true rfl)) dX10_giveThis_24 ⟨Nat.le_of_ble_eq_true rfl, Nat.le_of_ble_eq_true rfl⟩) hS (fun q _ h => hFc q h) hFc ?_
    clear hS
    intro u t H1 locs ht hvm hw hB hz1 hk1 hS
    obtain ⟨⟩ := u
    obtain ⟨hP1, hK1, hD1⟩ := hB
    rw [ht] at hP1
    have hK1 := va_K.moved hvm.symm hK1
    try dsimp only at hw
    have hPD := va_join (wr := [(h0, .inr (10, [.ref qf0, .ref qf1, .ref qf2, .ref qf3, .ref qf4, .ref qf5, .ref qf6, .ref qf7, .ref qf8, .ref qf9, .int v10, .int v11, .int v12, .int v13, .int v14, .int v15, .int v16, .int v17, .int v18])), (qf3_2, .inl (cf3_2, 20, .inl f3_2)), (qf0, .inr (9, [.ref qf0_0, .ref qf0_1, .ref qf0_2, .int v0_3, .ref qf0_4, .ref qf0_5, .ref qf0_6, .ref qf0_7, .ref qf0_8, .int v0_9, .int v0_10, .int u3_0, .int u3_1])), (qf0_1, .inl (cf0_1, 3001, .inl f0_1))]) (w1 := [(qf3, .inr (1, [.ref qf3_0, .int u4_1, .ref qf3_2, .int v3_3, .int v3_4, .ref qf3_5, .ref qf3_6, .int v3_7, .int v3_8, .ref qf3_9, .int v3_10, .ref qf3_11, .ref qf3_12, .ref qf3_13, .int v3_14, .int v3_15])), (qf3_0, .inl (cf3_0, 1500, .inl g904_0))]) hP hD [1, 2] [0, 3, 4, 5] rfl rfl (by decide) (by decide) hk1 hFc hP1 hD1
    clear hP hD
    obtain ⟨hP, hD⟩ := hPD
    replace hK := (hK.sub (tys' := [(cf3_2, .int), (cf0_1, .int)]) [1, 2] rfl).app hK1
    clear hPc hDc hKc hFc hP1 hK1 hD1 hz1 hk1 ht hvm
    generalize H1 = H at hP hS ⊢
    replace hP : va_P (dC, dI) vwCl [(h0, .inr (10, [.ref qf0, .ref qf1, .ref qf2, .ref qf3, .ref qf4, .ref qf5, .ref qf6, .ref qf7, .ref qf8, .ref qf9, .int v10, .int v11, .int v12, .int v13, .int v14, .int v15, .int v16, .int v17, .int v18])), (qf3_2, .inl (cf3_2, 20, .inl f3_2)), (qf0, .inr (9, [.ref qf0_0, .ref qf0_1, .ref qf0_2, .int v0_3, .ref qf0_4, .ref qf0_5, .ref qf0_6, .ref qf0_7, .ref qf0_8, .int v0_9, .int v0_10, .int u3_0, .int u3_1])), (qf0_1, .inl (cf0_1, 3001, .inl f0_1)), (qf3, .inr (1, [.ref qf3_0, .int u4_1, .ref qf3_2, .int v3_3, .int v3_4, .ref qf3_5, .ref qf3_6, .int v3_7, .int v3_8, .ref qf3_9, .int v3_10, .ref qf3_11, .ref qf3_12, .ref qf3_13, .int v3_14, .int v3_15])), (qf3_0, .inl (cf3_0, 1500, .inl g904_0))] H := hP
    replace hD : va_D A [(h0, .inr (10, [.ref qf0, .ref qf1, .ref qf2, .ref qf3, .ref qf4, .ref qf5, .ref qf6, .ref qf7, .ref qf8, .ref qf9, .int v10, .int v11, .int v12, .int v13, .int v14, .int v15, .int v16, .int v17, .int v18])), (qf3_2, .inl (cf3_2, 20, .inl f3_2)), (qf0, .inr (9, [.ref qf0_0, .ref qf0_1, .ref qf0_2, .int v0_3, .ref qf0_4, .ref qf0_5, .ref qf0_6, .ref qf0_7, .ref qf0_8, .int v0_9, .int v0_10, .int u3_0, .int u3_1])), (qf0_1, .inl (cf0_1, 3001, .inl f0_1)), (qf3, .inr (1, [.ref qf3_0, .int u4_1, .ref qf3_2, .int v3_3, .int v3_4, .ref qf3_5, .ref qf3_6, .int v3_7, .int v3_8, .ref qf3_9, .int v3_10, .ref qf3_11, .ref qf3_12, .ref qf3_13, .int v3_14, .int v3_15])), (qf3_0, .inl (cf3_0, 1500, .inl g904_0))] := hD
    replace hK : va_K (dC, dI) vwCl [(cf3_2, .int), (cf0_1, .int), (cf3_0, .byte)] s := hK
    refine lv_aload_n hx hb dX10_giveThis_27 rfl (lv_at hl 0 rfl) ?_
    refine lv_aload_n hx hb dX10_giveThis_28 rfl (lv_at hl 0 rfl) ?_
    refine va_get (D := (dC, dI)) (ci := 10) (v := .int v16) (C := RX10) (T := TX10) (N := 19) hx hb hts uV_h4_X10 hown hK hP 0 rfl rfl 16 (by decide) (hts (.fieldLink RX10 54 "ClassMill$Values" "own" "I") mw_h4_278) (fun _ h9 => h9) rfl dX10_giveThis_29 ?_
    obtain ⟨⟨g905_0, u5_1, u5_2, u5_3, u5_4⟩, hu_5, hsp⟩ := ox_bind hsp
    try dsimp only at hsp
    have hPc := hP.sub (ws' := [(h0, .inr (10, [.ref qf0, .ref qf1, .ref qf2, .ref qf3, .ref qf4, .ref qf5, .ref qf6, .ref qf7, .ref qf8, .ref qf9, .int v10, .int v11, .int v12, .int v13, .int v14, .int v15, .int v16, .int v17, .int v18])), (qf3, .inr (1, [.ref qf3_0, .int u4_1, .ref qf3_2, .int v3_3, .int v3_4, .ref qf3_5, .ref qf3_6, .int v3_7, .int v3_8, .ref qf3_9, .int v3_10, .ref qf3_11, .ref qf3_12, .ref qf3_13, .int v3_14, .int v3_15])), (qf3_2, .inl (cf3_2, 20, .inl f3_2))]) [0, 4, 1] rfl
    have hDc := hD.sub (ws' := [(h0, .inr (10, [.ref qf0, .ref qf1, .ref qf2, .ref qf3, .ref qf4, .ref qf5, .ref qf6, .ref qf7, .ref qf8, .ref qf9, .int v10, .int v11, .int v12, .int v13, .int v14, .int v15, .int v16, .int v17, .int v18])), (qf3, .inr (1, [.ref qf3_0, .int u4_1, .ref qf3_2, .int v3_3, .int v3_4, .ref qf3_5, .ref qf3_6, .int v3_7, .int v3_8, .ref qf3_9, .int v3_10, .ref qf3_11, .ref qf3_12, .ref qf3_13, .int v3_14, .int v3_15])), (qf3_2, .inl (cf3_2, 20, .inl f3_2))]) [0, 4, 1] (by decide) rfl
    have hKc := hK.sub (tys' := [(cf3_2, .int)]) [0] rfl
    have hFc := va_free (wc := [(h0, .inr (10, [.ref qf0, .ref qf1, .ref qf2, .ref qf3, .ref qf4, .ref qf5, .ref qf6, .ref qf7, .ref qf8, .ref qf9, .int v10, .int v11, .int v12, .int v13, .int v14, .int v15, .int v16, .int v17, .int v18])), (qf3, .inr (1, [.ref qf3_0, .int u4_1, .ref qf3_2, .int v3_3, .int v3_4, .ref qf3_5, .ref qf3_6, .int v3_7, .int v3_8, .ref qf3_9, .int v3_10, .ref qf3_11, .ref qf3_12, .ref qf3_13, .int v3_14, .int v3_15])), (qf3_2, .inl (cf3_2, 20, .inl f3_2))]) hD hS hA [0, 4, 1] rfl
    refine va_callv (va_runV (As := [.int v16]) (rest := []) ⟨hx, hb, hml, hown, hts⟩ (t10_give l dC dI H.size h0 v16 qf0 qf1 qf2 qf3 qf4 qf5 qf6 qf7 qf8 qf9 v10 v11 v12 v13 v14 v15 v16 v17 v18 qf3_0 u4_1 qf3_2 v3_3 v3_4 qf3_5 qf3_6 v3_7 v3_8 qf3_9 v3_10 qf3_11 qf3_12 qf3_13 v3_14 v3_15 cf3_2 f3_2 nf g905_0 u5_1 u5_2 u5_3 u5_4 hu_5) (cwV 1 hts gv_h4_79 rfl rfl rfl (by decide +kernel) ⟨Nat.le_of_ble_eq_true rfl, Nat.le_of_ble_eq_true rfl⟩) ⟨fun a U g mk q => by obtain ⟨q0, q1, qP, qK, qD⟩ := q; exact ⟨q0, q1, qP, va_K.moved (u := U) (U := U.calling g mk a) (Vm.Alike.refl U.vm) qK, qD⟩, va_recv hKc hPc (ci := 10) (q0 := 0) rfl rfl, fun U hU hW => ⟨rfl, by rw [hU], by rw [hU]; exact hPc, va_K.moved hW.alike hKc, hDc.weaken (fun _ _ _ _ => trivial)⟩⟩ rfl rfl hl.1 rfl (lv_room (Nat.le_of_ble_eq_true rfl)) dX10_giveThis_32 ⟨Nat.le_of_ble_eq_true rfl, Nat.le_of_ble_eq_true rfl⟩) hS (fun q _ h => hFc q h) hFc ?_
    clear hS
    intro u t H1 locs ht hvm hw hB hz1 hk1 hS
    obtain ⟨⟩ := u
    obtain ⟨hP1, hK1, hD1⟩ := hB
    rw [ht] at hP1
    have hK1 := va_K.moved hvm.symm hK1
    try dsimp only at hw
    have hPD := va_join (wr := [(qf0, .inr (9, [.ref qf0_0, .ref qf0_1, .ref qf0_2, .int v0_3, .ref qf0_4, .ref qf0_5, .ref qf0_6, .ref qf0_7, .ref qf0_8, .int v0_9, .int v0_10, .int u3_0, .int u3_1])), (qf0_1, .inl (cf0_1, 3001, .inl f0_1)), (qf3_0, .inl (cf3_0, 1500, .inl g904_0))]) (w1 := [(h0, .inr (10, [.ref qf0, .ref qf1, .ref qf2, .ref qf3, .ref qf4, .ref qf5, .ref qf6, .ref qf7, .ref qf8, .ref qf9, .int v10, .int u5_1, .int u5_2, .int v13, .int v14, .int v15, .int v16, .int v17, .int v18])), (qf3, .inr (1, [.ref qf3_0, .int u4_1, .ref qf3_2, .int u5_3, .int u5_4, .ref qf3_5, .ref qf3_6, .int v3_7, .int v3_8, .ref qf3_9, .int v3_10, .ref qf3_11, .ref qf3_12, .ref qf3_13, .int v3_14, .int v3_15])), (qf3_2, .inl (cf3_2, 20, .inl g905_0))]) hP hD [0, 4, 1] [2, 3, 5] rfl rfl (by decide) (by decide) hk1 hFc hP1 hD1
    clear hP hD
    obtain ⟨hP, hD⟩ := hPD
    replace hK := (hK.sub (tys' := [(cf0_1, .int), (cf3_0, .byte)]) [1, 2] rfl).app hK1
    clear hPc hDc hKc hFc hP1 hK1 hD1 hz1 hk1 ht hvm
    generalize H1 = H at hP hS ⊢
    replace hP : va_P (dC, dI) vwCl [(qf0, .inr (9, [.ref qf0_0, .ref qf0_1, .ref qf0_2, .int v0_3, .ref qf0_4, .ref qf0_5, .ref qf0_6, .ref qf0_7, .ref qf0_8, .int v0_9, .int v0_10, .int u3_0, .int u3_1])), (qf0_1, .inl (cf0_1, 3001, .inl f0_1)), (qf3_0, .inl (cf3_0, 1500, .inl g904_0)), (h0, .inr (10, [.ref qf0, .ref qf1, .ref qf2, .ref qf3, .ref qf4, .ref qf5, .ref qf6, .ref qf7, .ref qf8, .ref qf9, .int v10, .int u5_1, .int u5_2, .int v13, .int v14, .int v15, .int v16, .int v17, .int v18])), (qf3, .inr (1, [.ref qf3_0, .int u4_1, .ref qf3_2, .int u5_3, .int u5_4, .ref qf3_5, .ref qf3_6, .int v3_7, .int v3_8, .ref qf3_9, .int v3_10, .ref qf3_11, .ref qf3_12, .ref qf3_13, .int v3_14, .int v3_15])), (qf3_2, .inl (cf3_2, 20, .inl g905_0))] H := hP
    replace hD : va_D A [(qf0, .inr (9, [.ref qf0_0, .ref qf0_1, .ref qf0_2, .int v0_3, .ref qf0_4, .ref qf0_5, .ref qf0_6, .ref qf0_7, .ref qf0_8, .int v0_9, .int v0_10, .int u3_0, .int u3_1])), (qf0_1, .inl (cf0_1, 3001, .inl f0_1)), (qf3_0, .inl (cf3_0, 1500, .inl g904_0)), (h0, .inr (10, [.ref qf0, .ref qf1, .ref qf2, .ref qf3, .ref qf4, .ref qf5, .ref qf6, .ref qf7, .ref qf8, .ref qf9, .int v10, .int u5_1, .int u5_2, .int v13, .int v14, .int v15, .int v16, .int v17, .int v18])), (qf3, .inr (1, [.ref qf3_0, .int u4_1, .ref qf3_2, .int u5_3, .int u5_4, .ref qf3_5, .ref qf3_6, .int v3_7, .int v3_8, .ref qf3_9, .int v3_10, .ref qf3_11, .ref qf3_12, .ref qf3_13, .int v3_14, .int v3_15])), (qf3_2, .inl (cf3_2, 20, .inl g905_0))] := hD
    replace hK : va_K (dC, dI) vwCl [(cf0_1, .int), (cf3_0, .byte), (cf3_2, .int)] s := hK
    have hr0 := Option.some.inj hsp
    clear hsp
    obtain ⟨hq0, hr1⟩ := Prod.mk.inj hr0
    clear hr0
    obtain ⟨hq1, hr2⟩ := Prod.mk.inj hr1
    clear hr1
    obtain ⟨hq2, hr3⟩ := Prod.mk.inj hr2
    clear hr2
    obtain ⟨hq3, hr4⟩ := Prod.mk.inj hr3
    clear hr3
    obtain ⟨hq4, hr5⟩ := Prod.mk.inj hr4
    clear hr4
    obtain ⟨hq5, hr6⟩ := Prod.mk.inj hr5
    clear hr5
    obtain ⟨hq6, hr7⟩ := Prod.mk.inj hr6
    clear hr6
    obtain ⟨hq7, hr8⟩ := Prod.mk.inj hr7
    clear hr7
    subst hq0
    subst hq1
    subst hq2
    subst hq3
    subst hq4
    subst hq5
    subst hq6
    subst hq7
    subst hr8
    have hP9 := hP.sub (ws' := [(h0, .inr (10, [.ref qf0, .ref qf1, .ref qf2, .ref qf3, .ref qf4, .ref qf5, .ref qf6, .ref qf7, .ref qf8, .ref qf9, .int v10, .int u5_1, .int u5_2, .int v13, .int v14, .int v15, .int v16, .int v17, .int v18])), (qf3, .inr (1, [.ref qf3_0, .int u4_1, .ref qf3_2, .int u5_3, .int u5_4, .ref qf3_5, .ref qf3_6, .int v3_7, .int v3_8, .ref qf3_9, .int v3_10, .ref qf3_11, .ref qf3_12, .ref qf3_13, .int v3_14, .int v3_15])), (qf3_0, .inl (cf3_0, 1500, .inl g904_0)), (qf3_2, .inl (cf3_2, 20, .inl g905_0)), (qf0, .inr (9, [.ref qf0_0, .ref qf0_1, .ref qf0_2, .int v0_3, .ref qf0_4, .ref qf0_5, .ref qf0_6, .ref qf0_7, .ref qf0_8, .int v0_9, .int v0_10, .int u3_0, .int u3_1])), (qf0_1, .inl (cf0_1, 3001, .inl f0_1))]) [3, 4, 2, 5, 0, 1] rfl
    have hD9 := hD.sub (ws' := [(h0, .inr (10, [.ref qf0, .ref qf1, .ref qf2, .ref qf3, .ref qf4, .ref qf5, .ref qf6, .ref qf7, .ref qf8, .ref qf9, .int v10, .int u5_1, .int u5_2, .int v13, .int v14, .int v15, .int v16, .int v17, .int v18])), (qf3, .inr (1, [.ref qf3_0, .int u4_1, .ref qf3_2, .int u5_3, .int u5_4, .ref qf3_5, .ref qf3_6, .int v3_7, .int v3_8, .ref qf3_9, .int v3_10, .ref qf3_11, .ref qf3_12, .ref qf3_13, .int v3_14, .int v3_15])), (qf3_0, .inl (cf3_0, 1500, .inl g904_0)), (qf3_2, .inl (cf3_2, 20, .inl g905_0)), (qf0, .inr (9, [.ref qf0_0, .ref qf0_1, .ref qf0_2, .int v0_3, .ref qf0_4, .ref qf0_5, .ref qf0_6, .ref qf0_7, .ref qf0_8, .int v0_9, .int v0_10, .int u3_0, .int u3_1])), (qf0_1, .inl (cf0_1, 3001, .inl f0_1))]) [3, 4, 2, 5, 0, 1] (by decide) rfl
    have hK9 := hK.sub (tys' := [(cf3_0, .byte), (cf3_2, .int), (cf0_1, .int)]) [1, 2, 0] rfl
    exact W.vret hx hb hr (fun t ht hW => ⟨⟨(), rfl, trivial, by rw [ht]; exact hP9, va_K.moved hW.alike hK9, hD9⟩, hS.F ht⟩) hS.2.2 dX10_giveThis_35
def sp_t10_methodNamed (nf : Nat) (a1 : Int32) (a2 : Int32) (v0_3 : Int32) (v0_11 : Int32) (v0_12 : Int32) (f0_2 : Nat → Int32) (f1_9 : Nat → Int32) (f1_10 : Nat → Int32) (v1_0_3 : Int32) (f1_0_2 : Nat → Int32) (f1_1_0 : Nat → Int32) (f0_1 : Nat → Int32) : Option (Int32 × Int32 × Int32) := ((sp_t9_valueAt nf a2 v0_3 f0_2).bind (fun p1 => ((sp_t2_methodOf nf a1 p1 f1_9 f1_10 v1_0_3 f1_0_2 f1_1_0).bind (fun p2 => (if p2 = (-1) then ((sp_t9_tell nf 5 a2 v0_3 v0_11 v0_12 f0_1).bind (fun p3 => (some (p2, p3.1, p3.2)))) else (some (p2, v0_11, v0_12)))))))
