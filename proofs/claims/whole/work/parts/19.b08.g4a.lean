set_option maxHeartbeats 4000000 in
set_option maxRecDepth 100000 in
/-- ClassMill$Image.nextName -/
theorem v3_nextName (l : Launch) (dC : Nat → ClassId) (dI : Nat → Nat → Nat) (sz : Nat) (h0 : Nat) (qf0 : Nat) (v1 : Int32) (v2 : Int32) (v3 : Int32) (qf4 : Nat) (qf5 : Nat) (qf6 : Nat) (v7 : Int32) (v8 : Int32) (v9 : Int32) (v10 : Int32) (qf11 : Nat) (v12 : Int32) (qf13 : Nat) (cf0 : ClassId) (nb : Nat) (f0 : (Nat → Int32)) (cf4 : ClassId) (f4 : (Nat → Int32)) (cf5 : ClassId) (f5 : (Nat → Int32)) (cf6 : ClassId) (f6 : (Nat → Int32)) (nf : Nat) (r0 : Int32) (w2 : Int32) (w3 : Int32) (hsp : sp_v3_nextName nf v1 v2 v3 v7 nb f0 f4 f5 f6 = some (r0, w2, w3)) : Met l yX3_nextName (.code yX3_nextName cX3_nextName 2 (some .int) :: VS_h7) ({ frames := 2, cells := 0, slots := 0, locals := 47 }) (va_Pc [.ref h0] (fun U => U.heap.size = sz ∧ va_P (dC, dI) vwCl [(h0, .inr (3, [.ref qf0, .int v1, .int v2, .int v3, .ref qf4, .ref qf5, .ref qf6, .int v7, .int v8, .int v9, .int v10, .ref qf11, .int v12, .ref qf13])), (qf0, .inl (cf0, nb, .inl f0)), (qf4, .inl (cf4, 256, .inl f4)), (qf5, .inl (cf5, 256, .inl f5)), (qf6, .inl (cf6, 256, .inl f6))] U.heap ∧ va_K (dC, dI) vwCl [(cf0, .byte), (cf4, .int), (cf5, .int), (cf6, .int)] U ∧ va_D (fun _ => True) [(h0, .inr (3, [.ref qf0, .int v1, .int v2, .int v3, .ref qf4, .ref qf5, .ref qf6, .int v7, .int v8, .int v9, .int v10, .ref qf11, .int v12, .ref qf13])), (qf0, .inl (cf0, nb, .inl f0)), (qf4, .inl (cf4, 256, .inl f4)), (qf5, .inl (cf5, 256, .inl f5)), (qf6, .inl (cf6, 256, .inl f6))])) (va_Qi (fun (r : Int32) (u : Unit) => match u with | () => r0 = r) (fun (u : Unit) (t : State) => match u with | () => va_P (dC, dI) vwCl [(h0, .inr (3, [.ref qf0, .int v1, .int w2, .int w3, .ref qf4, .ref qf5, .ref qf6, .int v7, .int v8, .int v9, .int v10, .ref qf11, .int v12, .ref qf13])), (qf0, .inl (cf0, nb, .inl f0)), (qf4, .inl (cf4, 256, .inl f4)), (qf5, .inl (cf5, 256, .inl f5)), (qf6, .inl (cf6, 256, .inl f6))] t.heap ∧ va_K (dC, dI) vwCl [(cf0, .byte), (cf4, .int), (cf5, .int), (cf6, .int)] t ∧ va_D (va_A [(h0, .inr (3, [.ref qf0, .int v1, .int v2, .int v3, .ref qf4, .ref qf5, .ref qf6, .int v7, .int v8, .int v9, .int v10, .ref qf11, .int v12, .ref qf13])), (qf0, .inl (cf0, nb, .inl f0)), (qf4, .inl (cf4, 256, .inl f4)), (qf5, .inl (cf5, 256, .inl f5)), (qf6, .inl (cf6, 256, .inl f6))] sz) [(h0, .inr (3, [.ref qf0, .int v1, .int w2, .int w3, .ref qf4, .ref qf5, .ref qf6, .int v7, .int v8, .int v9, .int v10, .ref qf11, .int v12, .ref qf13])), (qf0, .inl (cf0, nb, .inl f0)), (qf4, .inl (cf4, 256, .inl f4)), (qf5, .inl (cf5, 256, .inl f5)), (qf6, .inl (cf6, 256, .inl f6))]) (va_A [(h0, .inr (3, [.ref qf0, .int v1, .int v2, .int v3, .ref qf4, .ref qf5, .ref qf6, .int v7, .int v8, .int v9, .int v10, .ref qf11, .int v12, .ref qf13])), (qf0, .inl (cf0, nb, .inl f0)), (qf4, .inl (cf4, 256, .inl f4)), (qf5, .inl (cf5, 256, .inl f5)), (qf6, .inl (cf6, 256, .inl f6))] sz)) 0 0 (va_A [(h0, .inr (3, [.ref qf0, .int v1, .int v2, .int v3, .ref qf4, .ref qf5, .ref qf6, .int v7, .int v8, .int v9, .int v10, .ref qf11, .int v12, .ref qf13])), (qf0, .inl (cf0, nb, .inl f0)), (qf4, .inl (cf4, 256, .inl f4)), (qf5, .inl (cf5, 256, .inl f5)), (qf6, .inl (cf6, 256, .inl f6))] sz) := by
  refine Met.ofW (cc := cX3_nextName) (maxL := 2) (ret := (some .int)) (by decide) rfl ?_
  intro p e s m args below meth c s₁ B hml hv
  obtain ⟨rfl, hsz, hP, hK, hD0⟩ := hv
  have hx := B.exec
  have hb := B.bytes
  have hr := B.returns
  have hts := atoms_spec (ws := (.code yX3_nextName cX3_nextName 2 (some .int) :: VS_h7)) B.pre
  replace hts := fun w (h : w ∈ VS_h7) => hts w (List.mem_cons_of_mem _ h)
  have hown : s.vm.findClass RX3 = some m.cls := findClass_of_methodNamed B.named
  have hlocks := B.notSynchronized
  subst hsz
  have hD := hD0.self (sz := s.heap.size)
  generalize hAe : va_A [(h0, .inr (3, [.ref qf0, .int v1, .int v2, .int v3, .ref qf4, .ref qf5, .ref qf6, .int v7, .int v8, .int v9, .int v10, .ref qf11, .int v12, .ref qf13])), (qf0, .inl (cf0, nb, .inl f0)), (qf4, .inl (cf4, 256, .inl f4)), (qf5, .inl (cf5, 256, .inl f5)), (qf6, .inl (cf6, 256, .inl f6))] s.heap.size = A at hD  ⊢
  have hA : ∀ q : Nat, s.heap.size ≤ q → A q := fun q h => by rw [← hAe]; exact Or.inr h
  have hP : va_P (dC, dI) vwCl [(h0, .inr (3, [.ref qf0, .int v1, .int v2, .int v3, .ref qf4, .ref qf5, .ref qf6, .int v7, .int v8, .int v9, .int v10, .ref qf11, .int v12, .ref qf13])), (qf0, .inl (cf0, nb, .inl f0)), (qf4, .inl (cf4, 256, .inl f4)), (qf5, .inl (cf5, 256, .inl f5)), (qf6, .inl (cf6, 256, .inl f6))] s.heap := hP
  have hl := lv_entry ([.ref h0]) (n := 2) (Nat.le_of_ble_eq_true rfl)
  rw [lg_entry_eq]
  generalize (lg_sl ([.ref h0]) ++ List.replicate (2 - (lg_sl ([.ref h0])).length) Slot.unset).toArray = ls at hl ⊢
  have hl : lv_has ls 2 [(0, .ref h0)] := hl
  obtain ⟨H, hH⟩ : ∃ H : Heap, s.heap = H := ⟨_, rfl⟩
  rw [hH] at hP ⊢
  have hS : va_S A s.heap H [] := by rw [← hH]; exact va_S.rf
  obtain ⟨locs, hlo⟩ : ∃ locs : List Loc, locs = [] := ⟨_, rfl⟩
  rw [← hlo] at hS ⊢
  unfold sp_v3_nextName at hsp
  refine lv_aload_n hx hb dX3_nextName_0 rfl (lv_at hl 0 rfl) ?_
  obtain ⟨⟨u1_0, u1_1, u1_2⟩, hu_1, hsp⟩ := ox_bind hsp
  try dsimp only at hsp
  have hPc := hP.sub (ws' := [(h0, .inr (3, [.ref qf0, .int v1, .int v2, .int v3, .ref qf4, .ref qf5, .ref qf6, .int v7, .int v8, .int v9, .int v10, .ref qf11, .int v12, .ref qf13])), (qf0, .inl (cf0, nb, .inl f0))]) [0, 1] rfl
  have hDc := hD.sub (ws' := [(h0, .inr (3, [.ref qf0, .int v1, .int v2, .int v3, .ref qf4, .ref qf5, .ref qf6, .int v7, .int v8, .int v9, .int v10, .ref qf11, .int v12, .ref qf13])), (qf0, .inl (cf0, nb, .inl f0))]) [0, 1] (by decide) rfl
  have hKc := hK.sub (tys' := [(cf0, .byte)]) [0] rfl
  have hFc := va_free (wc := [(h0, .inr (3, [.ref qf0, .int v1, .int v2, .int v3, .ref qf4, .ref qf5, .ref qf6, .int v7, .int v8, .int v9, .int v10, .ref qf11, .int v12, .ref qf13])), (qf0, .inl (cf0, nb, .inl f0))]) hD hS hA [0, 1] rfl
  refine va_calli (va_runV (As := []) (rest := []) ⟨hx, hb, hml, hown, hts⟩ (ti_next l dC dI H.size h0 qf0 v1 v2 v3 qf4 qf5 qf6 v7 v8 v9 v10 qf11 v12 qf13 cf0 nb f0 nf u1_0 u1_1 u1_2 hu_1) (cwV 0 hts gv_h7_30 rfl rfl rfl (by decide +kernel) ⟨Nat.le_of_ble_eq_true rfl, Nat.le_of_ble_eq_true rfl⟩) ⟨fun a U g mk q => by obtain ⟨q0, q1, qP, qK, qD⟩ := q; exact ⟨q0, q1, qP, va_K.moved (u := U) (U := U.calling g mk a) (Vm.Alike.refl U.vm) qK, qD⟩, va_recv hKc hPc (ci := 3) (q0 := 0) rfl rfl, fun U hU hW => ⟨rfl, by rw [hU], by rw [hU]; exact hPc, va_K.moved hW.alike hKc, hDc.weaken (fun _ _ _ _ => trivial)⟩⟩ rfl rfl hl.1 rfl (lv_room (Nat.le_of_ble_eq_true rfl)) dX3_nextName_1 ⟨Nat.le_of_ble_eq_true rfl, Nat.le_of_ble_eq_true rfl⟩) hS (fun q _ h => hFc q h) hFc ?_
  clear hS
  intro r_1 u t H1 locs ht hvm hw hB hz1 hk1 hS
  obtain ⟨⟩ := u
  obtain ⟨hP1, hK1, hD1⟩ := hB
  rw [ht] at hP1
  have hK1 := va_K.moved hvm.symm hK1
  try dsimp only at hw
  have hPD := va_join (wr := [(qf4, .inl (cf4, 256, .inl f4)), (qf5, .inl (cf5, 256, .inl f5)), (qf6, .inl (cf6, 256, .inl f6))]) (w1 := [(h0, .inr (3, [.ref qf0, .int v1, .int u1_1, .int u1_2, .ref qf4, .ref qf5, .ref qf6, .int v7, .int v8, .int v9, .int v10, .ref qf11, .int v12, .ref qf13])), (qf0, .inl (cf0, nb, .inl f0))]) hP hD [0, 1] [2, 3, 4] rfl rfl (by decide) (by decide) hk1 hFc hP1 hD1
  clear hP hD
  obtain ⟨hP, hD⟩ := hPD
  replace hK := (hK.sub (tys' := [(cf4, .int), (cf5, .int), (cf6, .int)]) [1, 2, 3] rfl).app hK1
  clear hPc hDc hKc hFc hP1 hK1 hD1 hz1 hk1 ht hvm
  generalize H1 = H at hP hS ⊢
  replace hP : va_P (dC, dI) vwCl [(qf4, .inl (cf4, 256, .inl f4)), (qf5, .inl (cf5, 256, .inl f5)), (qf6, .inl (cf6, 256, .inl f6)), (h0, .inr (3, [.ref qf0, .int v1, .int u1_1, .int u1_2, .ref qf4, .ref qf5, .ref qf6, .int v7, .int v8, .int v9, .int v10, .ref qf11, .int v12, .ref qf13])), (qf0, .inl (cf0, nb, .inl f0))] H := hP
  replace hD : va_D A [(qf4, .inl (cf4, 256, .inl f4)), (qf5, .inl (cf5, 256, .inl f5)), (qf6, .inl (cf6, 256, .inl f6)), (h0, .inr (3, [.ref qf0, .int v1, .int u1_1, .int u1_2, .ref qf4, .ref qf5, .ref qf6, .int v7, .int v8, .int v9, .int v10, .ref qf11, .int v12, .ref qf13])), (qf0, .inl (cf0, nb, .inl f0))] := hD
  replace hK : va_K (dC, dI) vwCl [(cf4, .int), (cf5, .int), (cf6, .int), (cf0, .byte)] s := hK
  obtain rfl := hw
  refine lv_istore_n (lv' := [(1, .int u1_0), (0, .ref h0)]) hx hb dX3_nextName_4 rfl hl (by decide) rfl (fun ls hl => ?_)
  refine lv_aload_n hx hb dX3_nextName_5 rfl (lv_at hl 1 rfl) ?_
  refine lv_iload_n hx hb dX3_nextName_6 rfl (lv_at hl 0 rfl) ?_
  obtain ⟨u2_0, hu_2, hsp⟩ := ox_bind hsp
  try dsimp only at hsp
  have hPc := hP.sub (ws' := [(h0, .inr (3, [.ref qf0, .int v1, .int u1_1, .int u1_2, .ref qf4, .ref qf5, .ref qf6, .int v7, .int v8, .int v9, .int v10, .ref qf11, .int v12, .ref qf13])), (qf4, .inl (cf4, 256, .inl f4)), (qf5, .inl (cf5, 256, .inl f5)), (qf6, .inl (cf6, 256, .inl f6)), (qf0, .inl (cf0, nb, .inl f0))]) [3, 0, 1, 2, 4] rfl
  have hDc := hD.sub (ws' := [(h0, .inr (3, [.ref qf0, .int v1, .int u1_1, .int u1_2, .ref qf4, .ref qf5, .ref qf6, .int v7, .int v8, .int v9, .int v10, .ref qf11, .int v12, .ref qf13])), (qf4, .inl (cf4, 256, .inl f4)), (qf5, .inl (cf5, 256, .inl f5)), (qf6, .inl (cf6, 256, .inl f6)), (qf0, .inl (cf0, nb, .inl f0))]) [3, 0, 1, 2, 4] (by decide) rfl
  have hKc := hK.sub (tys' := [(cf4, .int), (cf5, .int), (cf6, .int), (cf0, .byte)]) [0, 1, 2, 3] rfl
  have hFc := va_free (wc := [(h0, .inr (3, [.ref qf0, .int v1, .int u1_1, .int u1_2, .ref qf4, .ref qf5, .ref qf6, .int v7, .int v8, .int v9, .int v10, .ref qf11, .int v12, .ref qf13])), (qf4, .inl (cf4, 256, .inl f4)), (qf5, .inl (cf5, 256, .inl f5)), (qf6, .inl (cf6, 256, .inl f6)), (qf0, .inl (cf0, nb, .inl f0))]) hD hS hA [3, 0, 1, 2, 4] rfl
  refine va_calli (va_runV (As := [.int u1_0]) (rest := []) ⟨hx, hb, hml, hown, hts⟩ (v3_isNameText l dC dI H.size h0 u1_0 qf0 v1 u1_1 u1_2 qf4 qf5 qf6 v7 v8 v9 v10 qf11 v12 qf13 cf4 f4 cf5 f5 cf6 f6 cf0 nb f0 nf u2_0 hu_2) (cwV 1 hts gv_h7_38 rfl rfl rfl (by decide +kernel) ⟨Nat.le_of_ble_eq_true rfl, Nat.le_of_ble_eq_true rfl⟩) ⟨fun a U g mk q => by obtain ⟨q0, q1, qP, qK, qD⟩ := q; exact ⟨q0, q1, qP, va_K.moved (u := U) (U := U.calling g mk a) (Vm.Alike.refl U.vm) qK, qD⟩, va_recv hKc hPc (ci := 3) (q0 := 0) rfl rfl, fun U hU hW => ⟨rfl, by rw [hU], by rw [hU]; exact hPc, va_K.moved hW.alike hKc, hDc.weaken (fun _ _ _ _ => trivial)⟩⟩ rfl rfl hl.1 rfl (lv_room (Nat.le_of_ble_eq_true rfl)) dX3_nextName_7 ⟨Nat.le_of_ble_eq_true rfl, Nat.le_of_ble_eq_true rfl⟩) hS (fun q _ h => hFc q h) hFc ?_
  clear hS
  intro r_2 u t H1 locs ht hvm hw hB hz1 hk1 hS
  obtain ⟨⟩ := u
  obtain ⟨hP1, hK1, hD1⟩ := hB
  rw [ht] at hP1
  have hK1 := va_K.moved hvm.symm hK1
  try dsimp only at hw
  have hPD := va_join (wr := []) (w1 := [(h0, .inr (3, [.ref qf0, .int v1, .int u1_1, .int u1_2, .ref qf4, .ref qf5, .ref qf6, .int v7, .int v8, .int v9, .int v10, .ref qf11, .int v12, .ref qf13])), (qf4, .inl (cf4, 256, .inl f4)), (qf5, .inl (cf5, 256, .inl f5)), (qf6, .inl (cf6, 256, .inl f6)), (qf0, .inl (cf0, nb, .inl f0))]) hP hD [3, 0, 1, 2, 4] [] rfl rfl (by decide) (by decide) hk1 hFc hP1 hD1
  clear hP hD
  obtain ⟨hP, hD⟩ := hPD
  replace hK := (hK.sub (tys' := []) [] rfl).app hK1
  clear hPc hDc hKc hFc hP1 hK1 hD1 hz1 hk1 ht hvm
  generalize H1 = H at hP hS ⊢
  replace hP : va_P (dC, dI) vwCl [(h0, .inr (3, [.ref qf0, .int v1, .int u1_1, .int u1_2, .ref qf4, .ref qf5, .ref qf6, .int v7, .int v8, .int v9, .int v10, .ref qf11, .int v12, .ref qf13])), (qf4, .inl (cf4, 256, .inl f4)), (qf5, .inl (cf5, 256, .inl f5)), (qf6, .inl (cf6, 256, .inl f6)), (qf0, .inl (cf0, nb, .inl f0))] H := hP
  replace hD : va_D A [(h0, .inr (3, [.ref qf0, .int v1, .int u1_1, .int u1_2, .ref qf4, .ref qf5, .ref qf6, .int v7, .int v8, .int v9, .int v10, .ref qf11, .int v12, .ref qf13])), (qf4, .inl (cf4, 256, .inl f4)), (qf5, .inl (cf5, 256, .inl f5)), (qf6, .inl (cf6, 256, .inl f6)), (qf0, .inl (cf0, nb, .inl f0))] := hD
  replace hK : va_K (dC, dI) vwCl [(cf4, .int), (cf5, .int), (cf6, .int), (cf0, .byte)] s := hK
  obtain ⟨rfl, hz_2⟩ := hw
  rcases hz_2 with rfl | rfl
  · rw [if_pos rfl] at hsp
    refine lv_if_ne (tgt := 23) hx hb dX3_nextName_10 (by decide) (fun c_3 => (show False by revert c_3; decide).elim) (fun c_3 => ?_)
    refine lv_aload_n hx hb dX3_nextName_13 rfl (lv_at hl 1 rfl) ?_
    refine lv_aload_n hx hb dX3_nextName_14 rfl (lv_at hl 1 rfl) ?_
    refine va_get (D := (dC, dI)) (ci := 3) (v := .int u1_1) (C := RX3) (T := TX3) (N := 14) hx hb hts uV_h7_X3 hown hK hP 0 rfl rfl 2 (by decide) (hts (.fieldLink RX3 43 "ClassMill$Image" "pos" "I") mw_h7_160) (fun _ h9 => h9) rfl dX3_nextName_15 ?_
    refine lv_iconst (v := 1) hx hb dX3_nextName_18 (by decide) ?_
    refine lv_isub hx hb dX3_nextName_19 ?_
    obtain ⟨u3_0, hu_3, hsp⟩ := ox_bind hsp
    try dsimp only at hsp
    have hPc := hP.sub (ws' := [(h0, .inr (3, [.ref qf0, .int v1, .int u1_1, .int u1_2, .ref qf4, .ref qf5, .ref qf6, .int v7, .int v8, .int v9, .int v10, .ref qf11, .int v12, .ref qf13]))]) [0] rfl
    have hDc := hD.sub (ws' := [(h0, .inr (3, [.ref qf0, .int v1, .int u1_1, .int u1_2, .ref qf4, .ref qf5, .ref qf6, .int v7, .int v8, .int v9, .int v10, .ref qf11, .int v12, .ref qf13]))]) [0] (by decide) rfl
    have hKc := hK.sub (tys' := []) [] rfl
    have hFc := va_free (wc := [(h0, .inr (3, [.ref qf0, .int v1, .int u1_1, .int u1_2, .ref qf4, .ref qf5, .ref qf6, .int v7, .int v8, .int v9, .int v10, .ref qf11, .int v12, .ref qf13]))]) hD hS hA [0] rfl
    refine va_callv (va_runV (As := [.int (u1_1 - 1)]) (rest := []) ⟨hx, hb, hml, hown, hts⟩ (ti_bad l dC dI H.size h0 ((u1_1 - 1)) qf0 v1 u1_1 u1_2 qf4 qf5 qf6 v7 v8 v9 v10 qf11 v12 qf13 nf u3_0 hu_3) (cwV 1 hts gv_h7_39 rfl rfl rfl (by decide +kernel) ⟨Nat.le_of_ble_eq_true rfl, Nat.le_of_ble_eq_true rfl⟩) ⟨fun a U g mk q => by obtain ⟨q0, q1, qP, qK, qD⟩ := q; exact ⟨q0, q1, qP, va_K.moved (u := U) (U := U.calling g mk a) (Vm.Alike.refl U.vm) qK, qD⟩, va_recv hKc hPc (ci := 3) (q0 := 0) rfl rfl, fun U hU hW => ⟨rfl, by rw [hU], by rw [hU]; exact hPc, va_K.moved hW.alike hKc, hDc.weaken (fun _ _ _ _ => trivial)⟩⟩ rfl rfl hl.1 rfl (lv_room (Nat.le_of_ble_eq_true rfl)) dX3_nextName_20 ⟨Nat.le_of_ble_eq_true rfl, Nat.le_of_ble_eq_true rfl⟩) hS (fun q _ h => hFc q h) hFc ?_
    clear hS
    intro u t H1 locs ht hvm hw hB hz1 hk1 hS
    obtain ⟨⟩ := u
    obtain ⟨hP1, hK1, hD1⟩ := hB
    rw [ht] at hP1
    have hK1 := va_K.moved hvm.symm hK1
    try dsimp only at hw
    have hPD := va_join (wr := [(qf4, .inl (cf4, 256, .inl f4)), (qf5, .inl (cf5, 256, .inl f5)), (qf6, .inl (cf6, 256, .inl f6)), (qf0, .inl (cf0, nb, .inl f0))]) (w1 := [(h0, .inr (3, [.ref qf0, .int v1, .int u1_1, .int u3_0, .ref qf4, .ref qf5, .ref qf6, .int v7, .int v8, .int v9, .int v10, .ref qf11, .int v12, .ref qf13]))]) hP hD [0] [1, 2, 3, 4] rfl rfl (by decide) (by decide) hk1 hFc hP1 hD1
    clear hP hD
    obtain ⟨hP, hD⟩ := hPD
    replace hK := (hK.sub (tys' := [(cf4, .int), (cf5, .int), (cf6, .int), (cf0, .byte)]) [0, 1, 2, 3] rfl).app hK1
    clear hPc hDc hKc hFc hP1 hK1 hD1 hz1 hk1 ht hvm
    generalize H1 = H at hP hS ⊢
    replace hP : va_P (dC, dI) vwCl [(qf4, .inl (cf4, 256, .inl f4)), (qf5, .inl (cf5, 256, .inl f5)), (qf6, .inl (cf6, 256, .inl f6)), (qf0, .inl (cf0, nb, .inl f0)), (h0, .inr (3, [.ref qf0, .int v1, .int u1_1, .int u3_0, .ref qf4, .ref qf5, .ref qf6, .int v7, .int v8, .int v9, .int v10, .ref qf11, .int v12, .ref qf13]))] H := hP
    replace hD : va_D A [(qf4, .inl (cf4, 256, .inl f4)), (qf5, .inl (cf5, 256, .inl f5)), (qf6, .inl (cf6, 256, .inl f6)), (qf0, .inl (cf0, nb, .inl f0)), (h0, .inr (3, [.ref qf0, .int v1, .int u1_1, .int u3_0, .ref qf4, .ref qf5, .ref qf6, .int v7, .int v8, .int v9, .int v10, .ref qf11, .int v12, .ref qf13]))] := hD
    replace hK : va_K (dC, dI) vwCl [(cf4, .int), (cf5, .int), (cf6, .int), (cf0, .byte)] s := hK
    refine lv_iload_n hx hb dX3_nextName_23 rfl (lv_at hl 0 rfl) ?_
    have hr0 := Option.some.inj hsp
    clear hsp
    obtain ⟨hq0, hr1⟩ := Prod.mk.inj hr0
    clear hr0
    obtain ⟨hq1, hr2⟩ := Prod.mk.inj hr1
    clear hr1
    subst hq0
    subst hq1
    subst hr2
    have hP9 := hP.sub (ws' := [(h0, .inr (3, [.ref qf0, .int v1, .int u1_1, .int u3_0, .ref qf4, .ref qf5, .ref qf6, .int v7, .int v8, .int v9, .int v10, .ref qf11, .int v12, .ref qf13])), (qf0, .inl (cf0, nb, .inl f0)), (qf4, .inl (cf4, 256, .inl f4)), (qf5, .inl (cf5, 256, .inl f5)), (qf6, .inl (cf6, 256, .inl f6))]) [4, 3, 0, 1, 2] rfl
    have hD9 := hD.sub (ws' := [(h0, .inr (3, [.ref qf0, .int v1, .int u1_1, .int u3_0, .ref qf4, .ref qf5, .ref qf6, .int v7, .int v8, .int v9, .int v10, .ref qf11, .int v12, .ref qf13])), (qf0, .inl (cf0, nb, .inl f0)), (qf4, .inl (cf4, 256, .inl f4)), (qf5, .inl (cf5, 256, .inl f5)), (qf6, .inl (cf6, 256, .inl f6))]) [4, 3, 0, 1, 2] (by decide) rfl
    have hK9 := hK.sub (tys' := [(cf0, .byte), (cf4, .int), (cf5, .int), (cf6, .int)]) [3, 0, 1, 2] rfl
    exact W.iret hx hb hr (fun t ht hW => ⟨⟨(u1_0), (), rfl, rfl, by rw [ht]; exact hP9, va_K.moved hW.alike hK9, hD9⟩, hS.F ht⟩) hS.2.2 dX3_nextName_24
  · rw [if_neg (by decide)] at hsp
    refine lv_if_ne (tgt := 23) hx hb dX3_nextName_10 (by decide) (fun c_4 => ?_) (fun c_4 => (show False by revert c_4; decide).elim)
    refine lv_iload_n hx hb dX3_nextName_23 rfl (lv_at hl 0 rfl) ?_
    have hr0 := Option.some.inj hsp
    clear hsp
    obtain ⟨hq0, hr1⟩ := Prod.mk.inj hr0
    clear hr0
    obtain ⟨hq1, hr2⟩ := Prod.mk.inj hr1
    clear hr1
    subst hq0
    subst hq1
    subst hr2
    have hP9 := hP.sub (ws' := [(h0, .inr (3, [.ref qf0, .int v1, .int u1_1, .int u1_2, .ref qf4, .ref qf5, .ref qf6, .int v7, .int v8, .int v9, .int v10, .ref qf11, .int v12, .ref qf13])), (qf0, .inl (cf0, nb, .inl f0)), (qf4, .inl (cf4, 256, .inl f4)), (qf5, .inl (cf5, 256, .inl f5)), (qf6, .inl (cf6, 256, .inl f6))]) [0, 4, 1, 2, 3] rfl
    have hD9 := hD.sub (ws' := [(h0, .inr (3, [.ref qf0, .int v1, .int u1_1, .int u1_2, .ref qf4, .ref qf5, .ref qf6, .int v7, .int v8, .int v9, .int v10, .ref qf11, .int v12, .ref qf13])), (qf0, .inl (cf0, nb, .inl f0)), (qf4, .inl (cf4, 256, .inl f4)), (qf5, .inl (cf5, 256, .inl f5)), (qf6, .inl (cf6, 256, .inl f6))]) [0, 4, 1, 2, 3] (by decide) rfl
    have hK9 := hK.sub (tys' := [(cf0, .byte), (cf4, .int), (cf5, .int), (cf6, .int)]) [3, 0, 1, 2] rfl
    exact W.iret hx hb hr (fun t ht hW => ⟨⟨(u1_0), (), rfl, rfl, by rw [ht]; exact hP9, va_K.moved hW.alike hK9, hD9⟩, hS.F ht⟩) hS.2.2 dX3_nextName_24
def jn_v3_readMethod_52 (nf : Nat) (a1 : Int32) (v1 : Int32) (v2 : Int32) (v3 : Int32) (v7 : Int32) (nb : Nat) (f0 : Nat → Int32) (f13 : Nat → Int32) (f4 : Nat → Int32) (f5 : Nat → Int32) (f6 : Nat → Int32)  (l1_52 : Int32) (l2_52 : Int32) (l3_52 : Int32) (g13_52 : Nat → Int32) (x2_52 : Int32) (x3_52 : Int32) : Option ((Nat → Int32) × Int32 × Int32) := (if (l1_52 + 2) < 0 then none else if 144 ≤ ((l1_52 + 2) : Int32).toNatClampNeg then none else (if (l1_52 + 11) < 0 then none else if 144 ≤ ((l1_52 + 11) : Int32).toNatClampNeg then none else ((sp_ti_nextUpTo nf 0 30 v1 x2_52 x3_52 nb f0).bind (fun p1 => (if (l1_52 + 3) < 0 then none else if 144 ≤ ((l1_52 + 3) : Int32).toNatClampNeg then none else (if (l1_52 + 0) < 0 then none else if 144 ≤ ((l1_52 + 0) : Int32).toNatClampNeg then none else ((sp_ti_nextUpTo nf ((l3_52 + 1) - ((upd (upd (upd g13_52 ((l1_52 + 2) : Int32).toNatClampNeg l2_52) ((l1_52 + 11) : Int32).toNatClampNeg l3_52) ((l1_52 + 3) : Int32).toNatClampNeg p1.1) ((l1_52 + 0) : Int32).toNatClampNeg)) 30 v1 p1.2.1 p1.2.2 nb f0).bind (fun p2 => (if (l1_52 + 4) < 0 then none else if 144 ≤ ((l1_52 + 4) : Int32).toNatClampNeg then none else ((sp_t3_readCode nf l1_52 v1 p2.2.1 p2.2.2 nb f0 (upd (upd (upd (upd g13_52 ((l1_52 + 2) : Int32).toNatClampNeg l2_52) ((l1_52 + 11) : Int32).toNatClampNeg l3_52) ((l1_52 + 3) : Int32).toNatClampNeg p1.1) ((l1_52 + 4) : Int32).toNatClampNeg p2.1)).bind (fun p3 => ((sp_t3_readHandlers nf l1_52 v1 p3.2.1 p3.2.2 v7 nb f0 p3.1 f4).bind (fun p4 => ((sp_t3_readFrames nf l1_52 v1 p4.2.1 p4.2.2 v7 nb f0 p4.1 f4).bind (fun p5 => (some (p5.1, p5.2.1, p5.2.2)))))))))))))))))
def sp_v3_readMethod (nf : Nat) (a1 : Int32) (v1 : Int32) (v2 : Int32) (v3 : Int32) (v7 : Int32) (nb : Nat) (f0 : Nat → Int32) (f13 : Nat → Int32) (f4 : Nat → Int32) (f5 : Nat → Int32) (f6 : Nat → Int32) : Option ((Nat → Int32) × Int32 × Int32) := ((sp_ti_nextUpTo nf 0 1 v1 v2 v3 nb f0).bind (fun p1 => (if (a1 + 0) < 0 then none else if 144 ≤ ((a1 + 0) : Int32).toNatClampNeg then none else ((sp_v3_nextName nf v1 p1.2.1 p1.2.2 v7 nb f0 f4 f5 f6).bind (fun p2 => (if (a1 + 1) < 0 then none else if 144 ≤ ((a1 + 1) : Int32).toNatClampNeg then none else ((sp_ti_next nf v1 p2.2.1 p2.2.2 nb f0).bind (fun p3 => ((sp_v3_parametersIn nf p3.1 v1 v7 f4 f5 nb f0 f6).bind (fun p4 => (if p4 = (-1) then ((sp_ti_bad nf (p3.2.1 - 1) p3.2.2).bind (fun p5 => (jn_v3_readMethod_52 nf a1 v1 v2 v3 v7 nb f0 f13 f4 f5 f6  a1 p3.1 p4 (upd (upd f13 ((a1 + 0) : Int32).toNatClampNeg p1.1) ((a1 + 1) : Int32).toNatClampNeg p2.1) p3.2.1 p5))) else (jn_v3_readMethod_52 nf a1 v1 v2 v3 v7 nb f0 f13 f4 f5 f6  a1 p3.1 p4 (upd (upd f13 ((a1 + 0) : Int32).toNatClampNeg p1.1) ((a1 + 1) : Int32).toNatClampNeg p2.1) p3.2.1 p3.2.2))))))))))))
set_option maxHeartbeats 4000000 in
set_option maxRecDepth 100000 in
/-- ClassMill$Image.readMethod -/
theorem v3_readMethod (l : Launch) (dC : Nat → ClassId) (dI : Nat → Nat → Nat) (sz : Nat) (h0 : Nat) (a1 : Int32) (qf0 : Nat) (v1 : Int32) (v2 : Int32) (v3 : Int32) (qf4 : Nat) (qf5 : Nat) (qf6 : Nat) (v7 : Int32) (v8 : Int32) (v9 : Int32) (v10 : Int32) (qf11 : Nat) (v12 : Int32) (qf13 : Nat) (cf0 : ClassId) (nb : Nat) (f0 : (Nat → Int32)) (cf13 : ClassId) (f13 : (Nat → Int32)) (cf4 : ClassId) (f4 : (Nat → Int32)) (cf5 : ClassId) (f5 : (Nat → Int32)) (cf6 : ClassId) (f6 : (Nat → Int32)) (nf : Nat) (o13 : (Nat → Int32)) (w2 : Int32) (w3 : Int32) (hsp : sp_v3_readMethod nf a1 v1 v2 v3 v7 nb f0 f13 f4 f5 f6 = some (o13, w2, w3)) : Met l yX3_readMethod (.code yX3_readMethod cX3_readMethod 4 none :: VS_h7) ({ frames := 4, cells := 0, slots := 0, locals := 89 }) (va_Pc [.ref h0, .int a1] (fun U => U.heap.size = sz ∧ va_P (dC, dI) vwCl [(h0, .inr (3, [.ref qf0, .int v1, .int v2, .int v3, .ref qf4, .ref qf5, .ref qf6, .int v7, .int v8, .int v9, .int v10, .ref qf11, .int v12, .ref qf13])), (qf0, .inl (cf0, nb, .inl f0)), (qf13, .inl (cf13, 144, .inl f13)), (qf4, .inl (cf4, 256, .inl f4)), (qf5, .inl (cf5, 256, .inl f5)), (qf6, .inl (cf6, 256, .inl f6))] U.heap ∧ va_K (dC, dI) vwCl [(cf0, .byte), (cf13, .int), (cf4, .int), (cf5, .int), (cf6, .int)] U ∧ va_D (fun _ => True) [(h0, .inr (3, [.ref qf0, .int v1, .int v2, .int v3, .ref qf4, .ref qf5, .ref qf6, .int v7, .int v8, .int v9, .int v10, .ref qf11, .int v12, .ref qf13])), (qf0, .inl (cf0, nb, .inl f0)), (qf13, .inl (cf13, 144, .inl f13)), (qf4, .inl (cf4, 256, .inl f4)), (qf5, .inl (cf5, 256, .inl f5)), (qf6, .inl (cf6, 256, .inl f6))])) (va_Qv (fun (u : Unit) => match u with | () => True) (fun (u : Unit) (t : State) => match u with | () => va_P (dC, dI) vwCl [(h0, .inr (3, [.ref qf0, .int v1, .int w2, .int w3, .ref qf4, .ref qf5, .ref qf6, .int v7, .int v8, .int v9, .int v10, .ref qf11, .int v12, .ref qf13])), (qf0, .inl (cf0, nb, .inl f0)), (qf13, .inl (cf13, 144, .inl o13)), (qf4, .inl (cf4, 256, .inl f4)), (qf5, .inl (cf5, 256, .inl f5)), (qf6, .inl (cf6, 256, .inl f6))] t.heap ∧ va_K (dC, dI) vwCl [(cf0, .byte), (cf13, .int), (cf4, .int), (cf5, .int), (cf6, .int)] t ∧ va_D (va_A [(h0, .inr (3, [.ref qf0, .int v1, .int v2, .int v3, .ref qf4, .ref qf5, .ref qf6, .int v7, .int v8, .int v9, .int v10, .ref qf11, .int v12, .ref qf13])), (qf0, .inl (cf0, nb, .inl f0)), (qf13, .inl (cf13, 144, .inl f13)), (qf4, .inl (cf4, 256, .inl f4)), (qf5, .inl (cf5, 256, .inl f5)), (qf6, .inl (cf6, 256, .inl f6))] sz) [(h0, .inr (3, [.ref qf0, .int v1, .int w2, .int w3, .ref qf4, .ref qf5, .ref qf6, .int v7, .int v8, .int v9, .int v10, .ref qf11, .int v12, .ref qf13])), (qf0, .inl (cf0, nb, .inl f0)), (qf13, .inl (cf13, 144, .inl o13)), (qf4, .inl (cf4, 256, .inl f4)), (qf5, .inl (cf5, 256, .inl f5)), (qf6, .inl (cf6, 256, .inl f6))]) (va_A [(h0, .inr (3, [.ref qf0, .int v1, .int v2, .int v3, .ref qf4, .ref qf5, .ref qf6, .int v7, .int v8, .int v9, .int v10, .ref qf11, .int v12, .ref qf13])), (qf0, .inl (cf0, nb, .inl f0)), (qf13, .inl (cf13, 144, .inl f13)), (qf4, .inl (cf4, 256, .inl f4)), (qf5, .inl (cf5, 256, .inl f5)), (qf6, .inl (cf6, 256, .inl f6))] sz)) 0 0 (va_A [(h0, .inr (3, [.ref qf0, .int v1, .int v2, .int v3, .ref qf4, .ref qf5, .ref qf6, .int v7, .int v8, .int v9, .int v10, .ref qf11, .int v12, .ref qf13])), (qf0, .inl (cf0, nb, .inl f0)), (qf13, .inl (cf13, 144, .inl f13)), (qf4, .inl (cf4, 256, .inl f4)), (qf5, .inl (cf5, 256, .inl f5)), (qf6, .inl (cf6, 256, .inl f6))] sz) := by
  refine Met.ofW (cc := cX3_readMethod) (maxL := 4) (ret := none) (by decide) rfl ?_
  intro p e s m args below meth c s₁ B hml hv
  obtain ⟨rfl, hsz, hP, hK, hD0⟩ := hv
  have hx := B.exec
  have hb := B.bytes
  have hr := B.returns
  have hts := atoms_spec (ws := (.code yX3_readMethod cX3_readMethod 4 none :: VS_h7)) B.pre
  replace hts := fun w (h : w ∈ VS_h7) => hts w (List.mem_cons_of_mem _ h)
  have hown : s.vm.findClass RX3 = some m.cls := findClass_of_methodNamed B.named
  have hlocks := B.notSynchronized
  subst hsz
  have hD := hD0.self (sz := s.heap.size)
  generalize hAe : va_A [(h0, .inr (3, [.ref qf0, .int v1, .int v2, .int v3, .ref qf4, .ref qf5, .ref qf6, .int v7, .int v8, .int v9, .int v10, .ref qf11, .int v12, .ref qf13])), (qf0, .inl (cf0, nb, .inl f0)), (qf13, .inl (cf13, 144, .inl f13)), (qf4, .inl (cf4, 256, .inl f4)), (qf5, .inl (cf5, 256, .inl f5)), (qf6, .inl (cf6, 256, .inl f6))] s.heap.size = A at hD  ⊢
  have hA : ∀ q : Nat, s.heap.size ≤ q → A q := fun q h => by rw [← hAe]; exact Or.inr h
  have hP : va_P (dC, dI) vwCl [(h0, .inr (3, [.ref qf0, .int v1, .int v2, .int v3, .ref qf4, .ref qf5, .ref qf6, .int v7, .int v8, .int v9, .int v10, .ref qf11, .int v12, .ref qf13])), (qf0, .inl (cf0, nb, .inl f0)), (qf13, .inl (cf13, 144, .inl f13)), (qf4, .inl (cf4, 256, .inl f4)), (qf5, .inl (cf5, 256, .inl f5)), (qf6, .inl (cf6, 256, .inl f6))] s.heap := hP
  have hl := lv_entry ([.ref h0, .int a1]) (n := 4) (Nat.le_of_ble_eq_true rfl)
  rw [lg_entry_eq]
  generalize (lg_sl ([.ref h0, .int a1]) ++ List.replicate (4 - (lg_sl ([.ref h0, .int a1])).length) Slot.unset).toArray = ls at hl ⊢
  have hl : lv_has ls 4 [(0, .ref h0), (1, .int a1)] := hl
  obtain ⟨H, hH⟩ : ∃ H : Heap, s.heap = H := ⟨_, rfl⟩
  rw [hH] at hP ⊢
  have hS : va_S A s.heap H [] := by rw [← hH]; exact va_S.rf
  obtain ⟨locs, hlo⟩ : ∃ locs : List Loc, locs = [] := ⟨_, rfl⟩
  rw [← hlo] at hS ⊢
  unfold sp_v3_readMethod at hsp
  refine jn_use (α := Heap × List Loc × Array Slot × Int32 × Int32 × Int32 × (Nat → Int32) × Int32 × Int32) (fun x9 => x9.1) (fun x9 => x9.2.1) (fun x9 => F0 m 52 x9.2.2.1 []) (fun x9 => match x9 with | (H, locs, ls, l1_52, l2_52, l3_52, g13_52, x2_52, x3_52) => lv_has ls 4 [(0, .ref h0), (1, .int l1_52), (2, .int l2_52), (3, .int l3_52)] ∧ va_S A s.heap H locs ∧ va_D A [(h0, .inr (3, [.ref qf0, .int v1, .int x2_52, .int x3_52, .ref qf4, .ref qf5, .ref qf6, .int v7, .int v8, .int v9, .int v10, .ref qf11, .int v12, .ref qf13])), (qf0, .inl (cf0, nb, .inl f0)), (qf13, .inl (cf13, 144, .inl g13_52)), (qf4, .inl (cf4, 256, .inl f4)), (qf5, .inl (cf5, 256, .inl f5)), (qf6, .inl (cf6, 256, .inl f6))] ∧ va_P (dC, dI) vwCl [(h0, .inr (3, [.ref qf0, .int v1, .int x2_52, .int x3_52, .ref qf4, .ref qf5, .ref qf6, .int v7, .int v8, .int v9, .int v10, .ref qf11, .int v12, .ref qf13])), (qf0, .inl (cf0, nb, .inl f0)), (qf13, .inl (cf13, 144, .inl g13_52)), (qf4, .inl (cf4, 256, .inl f4)), (qf5, .inl (cf5, 256, .inl f5)), (qf6, .inl (cf6, 256, .inl f6))] H ∧ jn_v3_readMethod_52 nf a1 v1 v2 v3 v7 nb f0 f13 f4 f5 f6 l1_52 l2_52 l3_52 g13_52 x2_52 x3_52 = some (o13, w2, w3)) ?_ ?_
  · intro x9 hJ9
    obtain ⟨H, locs, ls, l1_52, l2_52, l3_52, g13_52, x2_52, x3_52⟩ := x9
    obtain ⟨hl, hS, hD, hP, hsp⟩ := hJ9
    replace hl : lv_has ls 4 [(0, .ref h0), (1, .int l1_52), (2, .int l2_52), (3, .int l3_52)] := hl
    replace hS : va_S A s.heap H locs := hS
    replace hD : va_D A [(h0, .inr (3, [.ref qf0, .int v1, .int x2_52, .int x3_52, .ref qf4, .ref qf5, .ref qf6, .int v7, .int v8, .int v9, .int v10, .ref qf11, .int v12, .ref qf13])), (qf0, .inl (cf0, nb, .inl f0)), (qf13, .inl (cf13, 144, .inl g13_52)), (qf4, .inl (cf4, 256, .inl f4)), (qf5, .inl (cf5, 256, .inl f5)), (qf6, .inl (cf6, 256, .inl f6))] := hD
    replace hP : va_P (dC, dI) vwCl [(h0, .inr (3, [.ref qf0, .int v1, .int x2_52, .int x3_52, .ref qf4, .ref qf5, .ref qf6, .int v7, .int v8, .int v9, .int v10, .ref qf11, .int v12, .ref qf13])), (qf0, .inl (cf0, nb, .inl f0)), (qf13, .inl (cf13, 144, .inl g13_52)), (qf4, .inl (cf4, 256, .inl f4)), (qf5, .inl (cf5, 256, .inl f5)), (qf6, .inl (cf6, 256, .inl f6))] H := hP
    replace hsp : jn_v3_readMethod_52 nf a1 v1 v2 v3 v7 nb f0 f13 f4 f5 f6 l1_52 l2_52 l3_52 g13_52 x2_52 x3_52 = some (o13, w2, w3) := hsp
    show W _ _ _ _ _ _ _ _ _ _ H locs _ _ _ (F0 m 52 ls [])
    unfold jn_v3_readMethod_52 at hsp
    try dsimp only at hsp
    refine lv_aload_n hx hb dX3_readMethod_52 rfl (lv_at hl 0 rfl) ?_
    refine va_get (D := (dC, dI)) (ci := 3) (v := .ref qf13) (C := RX3) (T := TX3) (N := 14) hx hb hts uV_h7_X3 hown hK hP 0 rfl rfl 13 (by decide) (hts (.fieldLink RX3 30 "ClassMill$Image" "method" "[I") mw_h7_218) (fun _ h9 => h9) rfl dX3_readMethod_53 ?_
    refine lv_iload_n hx hb dX3_readMethod_56 rfl (lv_at hl 1 rfl) ?_
    refine lv_iconst (v := 2) hx hb dX3_readMethod_57 (by decide) ?_
    refine lv_iadd hx hb dX3_readMethod_58 ?_
    refine lv_iload_n hx hb dX3_readMethod_59 rfl (lv_at hl 2 rfl) ?_
    obtain ⟨hi_8, hsp⟩ := ox_in hsp
    refine va_iast hx hb hK hP hD hS 2 1 rfl rfl (i := (l1_52 + 2)) (x := l2_52) hi_8 dX3_readMethod_60 ?_
    clear hP hD hS
    intro H locs hP hD hS
    replace hP : va_P (dC, dI) vwCl [(h0, .inr (3, [.ref qf0, .int v1, .int x2_52, .int x3_52, .ref qf4, .ref qf5, .ref qf6, .int v7, .int v8, .int v9, .int v10, .ref qf11, .int v12, .ref qf13])), (qf0, .inl (cf0, nb, .inl f0)), (qf13, .inl (cf13, 144, .inl (upd g13_52 ((l1_52 + 2) : Int32).toNatClampNeg l2_52))), (qf4, .inl (cf4, 256, .inl f4)), (qf5, .inl (cf5, 256, .inl f5)), (qf6, .inl (cf6, 256, .inl f6))] H := hP
    replace hD : va_D A [(h0, .inr (3, [.ref qf0, .int v1, .int x2_52, .int x3_52, .ref qf4, .ref qf5, .ref qf6, .int v7, .int v8, .int v9, .int v10, .ref qf11, .int v12, .ref qf13])), (qf0, .inl (cf0, nb, .inl f0)), (qf13, .inl (cf13, 144, .inl (upd g13_52 ((l1_52 + 2) : Int32).toNatClampNeg l2_52))), (qf4, .inl (cf4, 256, .inl f4)), (qf5, .inl (cf5, 256, .inl f5)), (qf6, .inl (cf6, 256, .inl f6))] := hD
    refine lv_aload_n hx hb dX3_readMethod_61 rfl (lv_at hl 0 rfl) ?_
    refine va_get (D := (dC, dI)) (ci := 3) (v := .ref qf13) (C := RX3) (T := TX3) (N := 14) hx hb hts uV_h7_X3 hown hK hP 0 rfl rfl 13 (by decide) (hts (.fieldLink RX3 30 "ClassMill$Image" "method" "[I") mw_h7_218) (fun _ h9 => h9) rfl dX3_readMethod_62 ?_
    refine lv_iload_n hx hb dX3_readMethod_65 rfl (lv_at hl 1 rfl) ?_
    refine lv_bipush (v := 11) hx hb dX3_readMethod_66 (by decide) ?_
    refine lv_iadd hx hb dX3_readMethod_68 ?_
    refine lv_iload_n hx hb dX3_readMethod_69 rfl (lv_at hl 3 rfl) ?_
    obtain ⟨hi_9, hsp⟩ := ox_in hsp
    refine va_iast hx hb hK hP hD hS 2 1 rfl rfl (i := (l1_52 + 11)) (x := l3_52) hi_9 dX3_readMethod_70 ?_
    clear hP hD hS
    intro H locs hP hD hS
    replace hP : va_P (dC, dI) vwCl [(h0, .inr (3, [.ref qf0, .int v1, .int x2_52, .int x3_52, .ref qf4, .ref qf5, .ref qf6, .int v7, .int v8, .int v9, .int v10, .ref qf11, .int v12, .ref qf13])), (qf0, .inl (cf0, nb, .inl f0)), (qf13, .inl (cf13, 144, .inl (upd (upd g13_52 ((l1_52 + 2) : Int32).toNatClampNeg l2_52) ((l1_52 + 11) : Int32).toNatClampNeg l3_52))), (qf4, .inl (cf4, 256, .inl f4)), (qf5, .inl (cf5, 256, .inl f5)), (qf6, .inl (cf6, 256, .inl f6))] H := hP
    replace hD : va_D A [(h0, .inr (3, [.ref qf0, .int v1, .int x2_52, .int x3_52, .ref qf4, .ref qf5, .ref qf6, .int v7, .int v8, .int v9, .int v10, .ref qf11, .int v12, .ref qf13])), (qf0, .inl (cf0, nb, .inl f0)), (qf13, .inl (cf13, 144, .inl (upd (upd g13_52 ((l1_52 + 2) : Int32).toNatClampNeg l2_52) ((l1_52 + 11) : Int32).toNatClampNeg l3_52))), (qf4, .inl (cf4, 256, .inl f4)), (qf5, .inl (cf5, 256, .inl f5)), (qf6, .inl (cf6, 256, .inl f6))] := hD
    refine lv_aload_n hx hb dX3_readMethod_71 rfl (lv_at hl 0 rfl) ?_
    refine va_get (D := (dC, dI)) (ci := 3) (v := .ref qf13) (C := RX3) (T := TX3) (N := 14) hx hb hts uV_h7_X3 hown hK hP 0 rfl rfl 13 (by decide) (hts (.fieldLink RX3 30 "ClassMill$Image" "method" "[I") mw_h7_218) (fun _ h9 => h9) rfl dX3_readMethod_72 ?_
    refine lv_iload_n hx hb dX3_readMethod_75 rfl (lv_at hl 1 rfl) ?_
    refine lv_iconst (v := 3) hx hb dX3_readMethod_76 (by decide) ?_
    refine lv_iadd hx hb dX3_readMethod_77 ?_
    refine lv_aload_n hx hb dX3_readMethod_78 rfl (lv_at hl 0 rfl) ?_
    refine lv_iconst (v := 0) hx hb dX3_readMethod_79 (by decide) ?_
    refine lv_bipush (v := 30) hx hb dX3_readMethod_80 (by decide) ?_
    obtain ⟨⟨u6_0, u6_1, u6_2⟩, hu_6, hsp⟩ := ox_bind hsp
    try dsimp only at hsp
    have hPc := hP.sub (ws' := [(h0, .inr (3, [.ref qf0, .int v1, .int x2_52, .int x3_52, .ref qf4, .ref qf5, .ref qf6, .int v7, .int v8, .int v9, .int v10, .ref qf11, .int v12, .ref qf13])), (qf0, .inl (cf0, nb, .inl f0))]) [0, 1] rfl
    have hDc := hD.sub (ws' := [(h0, .inr (3, [.ref qf0, .int v1, .int x2_52, .int x3_52, .ref qf4, .ref qf5, .ref qf6, .int v7, .int v8, .int v9, .int v10, .ref qf11, .int v12, .ref qf13])), (qf0, .inl (cf0, nb, .inl f0))]) [0, 1] (by decide) rfl
    have hKc := hK.sub (tys' := [(cf0, .byte)]) [0] rfl
    have hFc := va_free (wc := [(h0, .inr (3, [.ref qf0, .int v1, .int x2_52, .int x3_52, .ref qf4, .ref qf5, .ref qf6, .int v7, .int v8, .int v9, .int v10, .ref qf11, .int v12, .ref qf13])), (qf0, .inl (cf0, nb, .inl f0))]) hD hS hA [0, 1] rfl
    refine va_calli (va_runV (As := [.int 0, .int 30]) (rest := [.int (l1_52 + 3), .ref qf13]) ⟨hx, hb, hml, hown, hts⟩ (ti_nextUpTo l dC dI H.size h0 0 30 qf0 v1 x2_52 x3_52 qf4 qf5 qf6 v7 v8 v9 v10 qf11 v12 qf13 cf0 nb f0 nf u6_0 u6_1 u6_2 hu_6) (cwV 2 hts gv_h7_29 rfl rfl rfl (by decide +kernel) ⟨Nat.le_of_ble_eq_true rfl, Nat.le_of_ble_eq_true rfl⟩) ⟨fun a U g mk q => by obtain ⟨q0, q1, qP, qK, qD⟩ := q; exact ⟨q0, q1, qP, va_K.moved (u := U) (U := U.calling g mk a) (Vm.Alike.refl U.vm) qK, qD⟩, va_recv hKc hPc (ci := 3) (q0 := 0) rfl rfl, fun U hU hW => ⟨rfl, by rw [hU], by rw [hU]; exact hPc, va_K.moved hW.alike hKc, hDc.weaken (fun _ _ _ _ => trivial)⟩⟩ rfl rfl hl.1 rfl (lv_room (Nat.le_of_ble_eq_true rfl)) dX3_readMethod_82 ⟨Nat.le_of_ble_eq_true rfl, Nat.le_of_ble_eq_true rfl⟩) hS (fun q _ h => hFc q h) hFc ?_
    clear hS
    intro r_10 u t H1 locs ht hvm hw hB hz1 hk1 hS
    obtain ⟨⟩ := u
    obtain ⟨hP1, hK1, hD1⟩ := hB
    rw [ht] at hP1
    have hK1 := va_K.moved hvm.symm hK1
    try dsimp only at hw
    have hPD := va_join (wr := [(qf13, .inl (cf13, 144, .inl (upd (upd g13_52 ((l1_52 + 2) : Int32).toNatClampNeg l2_52) ((l1_52 + 11) : Int32).toNatClampNeg l3_52))), (qf4, .inl (cf4, 256, .inl f4)), (qf5, .inl (cf5, 256, .inl f5)), (qf6, .inl (cf6, 256, .inl f6))]) (w1 := [(h0, .inr (3, [.ref qf0, .int v1, .int u6_1, .int u6_2, .ref qf4, .ref qf5, .ref qf6, .int v7, .int v8, .int v9, .int v10, .ref qf11, .int v12, .ref qf13])), (qf0, .inl (cf0, nb, .inl f0))]) hP hD [0, 1] [2, 3, 4, 5] rfl rfl (by decide) (by decide) hk1 hFc hP1 hD1
    clear hP hD
    obtain ⟨hP, hD⟩ := hPD
    replace hK := (hK.sub (tys' := [(cf13, .int), (cf4, .int), (cf5, .int), (cf6, .int)]) [1, 2, 3, 4] rfl).app hK1
    clear hPc hDc hKc hFc hP1 hK1 hD1 hz1 hk1 ht hvm
    generalize H1 = H at hP hS ⊢
    replace hP : va_P (dC, dI) vwCl [(qf13, .inl (cf13, 144, .inl (upd (upd g13_52 ((l1_52 + 2) : Int32).toNatClampNeg l2_52) ((l1_52 + 11) : Int32).toNatClampNeg l3_52))), (qf4, .inl (cf4, 256, .inl f4)), (qf5, .inl (cf5, 256, .inl f5)), (qf6, .inl (cf6, 256, .inl f6)), (h0, .inr (3, [.ref qf0, .int v1, .int u6_1, .int u6_2, .ref qf4, .ref qf5, .ref qf6, .int v7, .int v8, .int v9, .int v10, .ref qf11, .int v12, .ref qf13])), (qf0, .inl (cf0, nb, .inl f0))] H := hP
    replace hD : va_D A [(qf13, .inl (cf13, 144, .inl (upd (upd g13_52 ((l1_52 + 2) : Int32).toNatClampNeg l2_52) ((l1_52 + 11) : Int32).toNatClampNeg l3_52))), (qf4, .inl (cf4, 256, .inl f4)), (qf5, .inl (cf5, 256, .inl f5)), (qf6, .inl (cf6, 256, .inl f6)), (h0, .inr (3, [.ref qf0, .int v1, .int u6_1, .int u6_2, .ref qf4, .ref qf5, .ref qf6, .int v7, .int v8, .int v9, .int v10, .ref qf11, .int v12, .ref qf13])), (qf0, .inl (cf0, nb, .inl f0))] := hD
    replace hK : va_K (dC, dI) vwCl [(cf13, .int), (cf4, .int), (cf5, .int), (cf6, .int), (cf0, .byte)] s := hK
    obtain rfl := hw
    obtain ⟨hi_11, hsp⟩ := ox_in hsp
    refine va_iast hx hb hK hP hD hS 0 0 rfl rfl (i := (l1_52 + 3)) (x := u6_0) hi_11 dX3_readMethod_85 ?_
    clear hP hD hS
    intro H locs hP hD hS
    replace hP : va_P (dC, dI) vwCl [(qf13, .inl (cf13, 144, .inl (upd (upd (upd g13_52 ((l1_52 + 2) : Int32).toNatClampNeg l2_52) ((l1_52 + 11) : Int32).toNatClampNeg l3_52) ((l1_52 + 3) : Int32).toNatClampNeg u6_0))), (qf4, .inl (cf4, 256, .inl f4)), (qf5, .inl (cf5, 256, .inl f5)), (qf6, .inl (cf6, 256, .inl f6)), (h0, .inr (3, [.ref qf0, .int v1, .int u6_1, .int u6_2, .ref qf4, .ref qf5, .ref qf6, .int v7, .int v8, .int v9, .int v10, .ref qf11, .int v12, .ref qf13])), (qf0, .inl (cf0, nb, .inl f0))] H := hP
    replace hD : va_D A [(qf13, .inl (cf13, 144, .inl (upd (upd (upd g13_52 ((l1_52 + 2) : Int32).toNatClampNeg l2_52) ((l1_52 + 11) : Int32).toNatClampNeg l3_52) ((l1_52 + 3) : Int32).toNatClampNeg u6_0))), (qf4, .inl (cf4, 256, .inl f4)), (qf5, .inl (cf5, 256, .inl f5)), (qf6, .inl (cf6, 256, .inl f6)), (h0, .inr (3, [.ref qf0, .int v1, .int u6_1, .int u6_2, .ref qf4, .ref qf5, .ref qf6, .int v7, .int v8, .int v9, .int v10, .ref qf11, .int v12, .ref qf13])), (qf0, .inl (cf0, nb, .inl f0))] := hD
    refine lv_aload_n hx hb dX3_readMethod_86 rfl (lv_at hl 0 rfl) ?_
    refine va_get (D := (dC, dI)) (ci := 3) (v := .ref qf13) (C := RX3) (T := TX3) (N := 14) hx hb hts uV_h7_X3 hown hK hP 4 rfl rfl 13 (by decide) (hts (.fieldLink RX3 30 "ClassMill$Image" "method" "[I") mw_h7_218) (fun _ h9 => h9) rfl dX3_readMethod_87 ?_
    refine lv_iload_n hx hb dX3_readMethod_90 rfl (lv_at hl 1 rfl) ?_
    refine lv_iconst (v := 4) hx hb dX3_readMethod_91 (by decide) ?_
    refine lv_iadd hx hb dX3_readMethod_92 ?_
    refine lv_aload_n hx hb dX3_readMethod_93 rfl (lv_at hl 0 rfl) ?_
    refine lv_iload_n hx hb dX3_readMethod_94 rfl (lv_at hl 3 rfl) ?_
    refine lv_iconst (v := 1) hx hb dX3_readMethod_95 (by decide) ?_
    refine lv_iadd hx hb dX3_readMethod_96 ?_
    refine lv_aload_n hx hb dX3_readMethod_97 rfl (lv_at hl 0 rfl) ?_
    refine va_get (D := (dC, dI)) (ci := 3) (v := .ref qf13) (C := RX3) (T := TX3) (N := 14) hx hb hts uV_h7_X3 hown hK hP 4 rfl rfl 13 (by decide) (hts (.fieldLink RX3 30 "ClassMill$Image" "method" "[I") mw_h7_218) (fun _ h9 => h9) rfl dX3_readMethod_98 ?_
    refine lv_iload_n hx hb dX3_readMethod_101 rfl (lv_at hl 1 rfl) ?_
    refine lv_iconst (v := 0) hx hb dX3_readMethod_102 (by decide) ?_
    refine lv_iadd hx hb dX3_readMethod_103 ?_
    obtain ⟨hi_12, hsp⟩ := ox_in hsp
    refine va_iald hx hb hK hP 0 0 rfl rfl (i := (l1_52 + 0)) hi_12 dX3_readMethod_104 ?_
    refine lv_isub hx hb dX3_readMethod_105 ?_
    refine lv_bipush (v := 30) hx hb dX3_readMethod_106 (by decide) ?_
    obtain ⟨⟨u7_0, u7_1, u7_2⟩, hu_7, hsp⟩ := ox_bind hsp
    try dsimp only at hsp
    have hPc := hP.sub (ws' := [(h0, .inr (3, [.ref qf0, .int v1, .int u6_1, .int u6_2, .ref qf4, .ref qf5, .ref qf6, .int v7, .int v8, .int v9, .int v10, .ref qf11, .int v12, .ref qf13])), (qf0, .inl (cf0, nb, .inl f0))]) [4, 5] rfl
    have hDc := hD.sub (ws' := [(h0, .inr (3, [.ref qf0, .int v1, .int u6_1, .int u6_2, .ref qf4, .ref qf5, .ref qf6, .int v7, .int v8, .int v9, .int v10, .ref qf11, .int v12, .ref qf13])), (qf0, .inl (cf0, nb, .inl f0))]) [4, 5] (by decide) rfl
    have hKc := hK.sub (tys' := [(cf0, .byte)]) [4] rfl
    have hFc := va_free (wc := [(h0, .inr (3, [.ref qf0, .int v1, .int u6_1, .int u6_2, .ref qf4, .ref qf5, .ref qf6, .int v7, .int v8, .int v9, .int v10, .ref qf11, .int v12, .ref qf13])), (qf0, .inl (cf0, nb, .inl f0))]) hD hS hA [4, 5] rfl
    refine va_calli (va_runV (As := [.int ((l3_52 + 1) - ((upd (upd (upd g13_52 ((l1_52 + 2) : Int32).toNatClampNeg l2_52) ((l1_52 + 11) : Int32).toNatClampNeg l3_52) ((l1_52 + 3) : Int32).toNatClampNeg u6_0) ((l1_52 + 0) : Int32).toNatClampNeg)), .int 30]) (rest := [.int (l1_52 + 4), .ref qf13]) ⟨hx, hb, hml, hown, hts⟩ (ti_nextUpTo l dC dI H.size h0 (((l3_52 + 1) - ((upd (upd (upd g13_52 ((l1_52 + 2) : Int32).toNatClampNeg l2_52) ((l1_52 + 11) : Int32).toNatClampNeg l3_52) ((l1_52 + 3) : Int32).toNatClampNeg u6_0) ((l1_52 + 0) : Int32).toNatClampNeg))) 30 qf0 v1 u6_1 u6_2 qf4 qf5 qf6 v7 v8 v9 v10 qf11 v12 qf13 cf0 nb f0 nf u7_0 u7_1 u7_2 hu_7) (cwV 2 hts gv_h7_29 rfl rfl rfl (by decide +kernel) ⟨Nat.le_of_ble_eq_true rfl, Nat.le_of_ble_eq_true rfl⟩) ⟨fun a U g mk q => by obtain ⟨q0, q1, qP, qK, qD⟩ := q; exact ⟨q0, q1, qP, va_K.moved (u := U) (U := U.calling g mk a) (Vm.Alike.refl U.vm) qK, qD⟩, va_recv hKc hPc (ci := 3) (q0 := 0) rfl rfl, fun U hU hW => ⟨rfl, by rw [hU], by rw [hU]; exact hPc, va_K.moved hW.alike hKc, hDc.weaken (fun _ _ _ _ => trivial)⟩⟩ rfl rfl hl.1 rfl (lv_room (Nat.le_of_ble_eq_true rfl)) dX3_readMethod_108 ⟨Nat.le_of_ble_eq_true rfl, Nat.le_of_ble_eq_true rfl⟩) hS (fun q _ h => hFc q h) hFc ?_
    clear hS
    intro r_13 u t H1 locs ht hvm hw hB hz1 hk1 hS
    obtain ⟨⟩ := u
    obtain ⟨hP1, hK1, hD1⟩ := hB
    rw [ht] at hP1
    have hK1 := va_K.moved hvm.symm hK1
    try dsimp only at hw
    have hPD := va_join (wr := [(qf13, .inl (cf13, 144, .inl (upd (upd (upd g13_52 ((l1_52 + 2) : Int32).toNatClampNeg l2_52) ((l1_52 + 11) : Int32).toNatClampNeg l3_52) ((l1_52 + 3) : Int32).toNatClampNeg u6_0))), (qf4, .inl (cf4, 256, .inl f4)), (qf5, .inl (cf5, 256, .inl f5)), (qf6, .inl (cf6, 256, .inl f6))]) (w1 := [(h0, .inr (3, [.ref qf0, .int v1, .int u7_1, .int u7_2, .ref qf4, .ref qf5, .ref qf6, .int v7, .int v8, .int v9, .int v10, .ref qf11, .int v12, .ref qf13])), (qf0, .inl (cf0, nb, .inl f0))]) hP hD [4, 5] [0, 1, 2, 3] rfl rfl (by decide) (by decide) hk1 hFc hP1 hD1
    clear hP hD
    obtain ⟨hP, hD⟩ := hPD
    replace hK := (hK.sub (tys' := [(cf13, .int), (cf4, .int), (cf5, .int), (cf6, .int)]) [0, 1, 2, 3] rfl).app hK1
    clear hPc hDc hKc hFc hP1 hK1 hD1 hz1 hk1 ht hvm
    generalize H1 = H at hP hS ⊢
    replace hP : va_P (dC, dI) vwCl [(qf13, .inl (cf13, 144, .inl (upd (upd (upd g13_52 ((l1_52 + 2) : Int32).toNatClampNeg l2_52) ((l1_52 + 11) : Int32).toNatClampNeg l3_52) ((l1_52 + 3) : Int32).toNatClampNeg u6_0))), (qf4, .inl (cf4, 256, .inl f4)), (qf5, .inl (cf5, 256, .inl f5)), (qf6, .inl (cf6, 256, .inl f6)), (h0, .inr (3, [.ref qf0, .int v1, .int u7_1, .int u7_2, .ref qf4, .ref qf5, .ref qf6, .int v7, .int v8, .int v9, .int v10, .ref qf11, .int v12, .ref qf13])), (qf0, .inl (cf0, nb, .inl f0))] H := hP
    replace hD : va_D A [(qf13, .inl (cf13, 144, .inl (upd (upd (upd g13_52 ((l1_52 + 2) : Int32).toNatClampNeg l2_52) ((l1_52 + 11) : Int32).toNatClampNeg l3_52) ((l1_52 + 3) : Int32).toNatClampNeg u6_0))), (qf4, .inl (cf4, 256, .inl f4)), (qf5, .inl (cf5, 256, .inl f5)), (qf6, .inl (cf6, 256, .inl f6)), (h0, .inr (3, [.ref qf0, .int v1, .int u7_1, .int u7_2, .ref qf4, .ref qf5, .ref qf6, .int v7, .int v8, .int v9, .int v10, .ref qf11, .int v12, .ref qf13])), (qf0, .inl (cf0, nb, .inl f0))] := hD
    replace hK : va_K (dC, dI) vwCl [(cf13, .int), (cf4, .int), (cf5, .int), (cf6, .int), (cf0, .byte)] s := hK
    obtain rfl := hw
    obtain ⟨hi_14, hsp⟩ := ox_in hsp
    refine va_iast hx hb hK hP hD hS 0 0 rfl rfl (i := (l1_52 + 4)) (x := u7_0) hi_14 dX3_readMethod_111 ?_
    clear hP hD hS
    intro H locs hP hD hS
    replace hP : va_P (dC, dI) vwCl [(qf13, .inl (cf13, 144, .inl (upd (upd (upd (upd g13_52 ((l1_52 + 2) : Int32).toNatClampNeg l2_52) ((l1_52 + 11) : Int32).toNatClampNeg l3_52) ((l1_52 + 3) : Int32).toNatClampNeg u6_0) ((l1_52 + 4) : Int32).toNatClampNeg u7_0))), (qf4, .inl (cf4, 256, .inl f4)), (qf5, .inl (cf5, 256, .inl f5)), (qf6, .inl (cf6, 256, .inl f6)), (h0, .inr (3, [.ref qf0, .int v1, .int u7_1, .int u7_2, .ref qf4, .ref qf5, .ref qf6, .int v7, .int v8, .int v9, .int v10, .ref qf11, .int v12, .ref qf13])), (qf0, .inl (cf0, nb, .inl f0))] H := hP
    replace hD : va_D A [(qf13, .inl (cf13, 144, .inl (upd (upd (upd (upd g13_52 ((l1_52 + 2) : Int32).toNatClampNeg l2_52) ((l1_52 + 11) : Int32).toNatClampNeg l3_52) ((l1_52 + 3) : Int32).toNatClampNeg u6_0) ((l1_52 + 4) : Int32).toNatClampNeg u7_0))), (qf4, .inl (cf4, 256, .inl f4)), (qf5, .inl (cf5, 256, .inl f5)), (qf6, .inl (cf6, 256, .inl f6)), (h0, .inr (3, [.ref qf0, .int v1, .int u7_1, .int u7_2, .ref qf4, .ref qf5, .ref qf6, .int v7, .int v8, .int v9, .int v10, .ref qf11, .int v12, .ref qf13])), (qf0, .inl (cf0, nb, .inl f0))] := hD
    refine lv_aload_n hx hb dX3_readMethod_112 rfl (lv_at hl 0 rfl) ?_
    refine lv_iload_n hx hb dX3_readMethod_113 rfl (lv_at hl 1 rfl) ?_
    obtain ⟨⟨g908_0, u8_1, u8_2⟩, hu_8, hsp⟩ := ox_bind hsp
    try dsimp only at hsp
    have hPc := hP.sub (ws' := [(h0, .inr (3, [.ref qf0, .int v1, .int u7_1, .int u7_2, .ref qf4, .ref qf5, .ref qf6, .int v7, .int v8, .int v9, .int v10, .ref qf11, .int v12, .ref qf13])), (qf0, .inl (cf0, nb, .inl f0)), (qf13, .inl (cf13, 144, .inl (upd (upd (upd (upd g13_52 ((l1_52 + 2) : Int32).toNatClampNeg l2_52) ((l1_52 + 11) : Int32).toNatClampNeg l3_52) ((l1_52 + 3) : Int32).toNatClampNeg u6_0) ((l1_52 + 4) : Int32).toNatClampNeg u7_0)))]) [4, 5, 0] rfl
    have hDc := hD.sub (ws' := [(h0, .inr (3, [.ref qf0, .int v1, .int u7_1, .int u7_2, .ref qf4, .ref qf5, .ref qf6, .int v7, .int v8, .int v9, .int v10, .ref qf11, .int v12, .ref qf13])), (qf0, .inl (cf0, nb, .inl f0)), (qf13, .inl (cf13, 144, .inl (upd (upd (upd (upd g13_52 ((l1_52 + 2) : Int32).toNatClampNeg l2_52) ((l1_52 + 11) : Int32).toNatClampNeg l3_52) ((l1_52 + 3) : Int32).toNatClampNeg u6_0) ((l1_52 + 4) : Int32).toNatClampNeg u7_0)))]) [4, 5, 0] (by decide) rfl
    have hKc := hK.sub (tys' := [(cf0, .byte), (cf13, .int)]) [4, 0] rfl
    have hFc := va_free (wc := [(h0, .inr (3, [.ref qf0, .int v1, .int u7_1, .int u7_2, .ref qf4, .ref qf5, .ref qf6, .int v7, .int v8, .int v9, .int v10, .ref qf11, .int v12, .ref qf13])), (qf0, .inl (cf0, nb, .inl f0)), (qf13, .inl (cf13, 144, .inl (upd (upd (upd (upd g13_52 ((l1_52 + 2) : Int32).toNatClampNeg l2_52) ((l1_52 + 11) : Int32).toNatClampNeg l3_52) ((l1_52 + 3) : Int32).toNatClampNeg u6_0) ((l1_52 + 4) : Int32).toNatClampNeg u7_0)))]) hD hS hA [4, 5, 0] rfl
    refine va_callv (va_runV (As := [.int l1_52]) (rest := []) ⟨hx, hb, hml, hown, hts⟩ (t3_readCode l dC dI H.size h0 l1_52 qf0 v1 u7_1 u7_2 qf4 qf5 qf6 v7 v8 v9 v10 qf11 v12 qf13 cf0 nb f0 cf13 ((upd (upd (upd (upd g13_52 ((l1_52 + 2) : Int32).toNatClampNeg l2_52) ((l1_52 + 11) : Int32).toNatClampNeg l3_52) ((l1_52 + 3) : Int32).toNatClampNeg u6_0) ((l1_52 + 4) : Int32).toNatClampNeg u7_0)) nf g908_0 u8_1 u8_2 hu_8) (cwV 1 hts gv_h7_42 rfl rfl rfl (by decide +kernel) ⟨Nat.le_of_ble_eq_true rfl, Nat.le_of_ble_eq_true rfl⟩) ⟨fun a U g mk q => by obtain ⟨q0, q1, qP, qK, qD⟩ := q; exact ⟨q0, q1, qP, va_K.moved (u := U) (U := U.calling g mk a) (Vm.Alike.refl U.vm) qK, qD⟩, va_recv hKc hPc (ci := 3) (q0 := 0) rfl rfl, fun U hU hW => ⟨rfl, by rw [hU], by rw [hU]; exact hPc, va_K.moved hW.alike hKc, hDc.weaken (fun _ _ _ _ => trivial)⟩⟩ rfl rfl hl.1 rfl (lv_room (Nat.le_of_ble_eq_true rfl)) dX3_readMethod_114 ⟨Nat.le_of_ble_eq_true rfl, Nat.le_of_ble_eq_true rfl⟩) hS (fun q _ h => hFc q h) hFc ?_
    clear hS
    intro u t H1 locs ht hvm hw hB hz1 hk1 hS
    obtain ⟨⟩ := u
    obtain ⟨hP1, hK1, hD1⟩ := hB
    rw [ht] at hP1
    have hK1 := va_K.moved hvm.symm hK1
    try dsimp only at hw
    have hPD := va_join (wr := [(qf4, .inl (cf4, 256, .inl f4)), (qf5, .inl (cf5, 256, .inl f5)), (qf6, .inl (cf6, 256, .inl f6))]) (w1 := [(h0, .inr (3, [.ref qf0, .int v1, .int u8_1, .int u8_2, .ref qf4, .ref qf5, .ref qf6, .int v7, .int v8, .int v9, .int v10, .ref qf11, .int v12, .ref qf13])), (qf0, .inl (cf0, nb, .inl f0)), (qf13, .inl (cf13, 144, .inl g908_0))]) hP hD [4, 5, 0] [1, 2, 3] rfl rfl (by decide) (by decide) hk1 hFc hP1 hD1
    clear hP hD
    obtain ⟨hP, hD⟩ := hPD
    replace hK := (hK.sub (tys' := [(cf4, .int), (cf5, .int), (cf6, .int)]) [1, 2, 3] rfl).app hK1
    clear hPc hDc hKc hFc hP1 hK1 hD1 hz1 hk1 ht hvm
    generalize H1 = H at hP hS ⊢
    replace hP : va_P (dC, dI) vwCl [(qf4, .inl (cf4, 256, .inl f4)), (qf5, .inl (cf5, 256, .inl f5)), (qf6, .inl (cf6, 256, .inl f6)), (h0, .inr (3, [.ref qf0, .int v1, .int u8_1, .int u8_2, .ref qf4, .ref qf5, .ref qf6, .int v7, .int v8, .int v9, .int v10, .ref qf11, .int v12, .ref qf13])), (qf0, .inl (cf0, nb, .inl f0)), (qf13, .inl (cf13, 144, .inl g908_0))] H := hP
    replace hD : va_D A [(qf4, .inl (cf4, 256, .inl f4)), (qf5, .inl (cf5, 256, .inl f5)), (qf6, .inl (cf6, 256, .inl f6)), (h0, .inr (3, [.ref qf0, .int v1, .int u8_1, .int u8_2, .ref qf4, .ref qf5, .ref qf6, .int v7, .int v8, .int v9, .int v10, .ref qf11, .int v12, .ref qf13])), (qf0, .inl (cf0, nb, .inl f0)), (qf13, .inl (cf13, 144, .inl g908_0))] := hD
    replace hK : va_K (dC, dI) vwCl [(cf4, .int), (cf5, .int), (cf6, .int), (cf0, .byte), (cf13, .int)] s := hK
    refine lv_aload_n hx hb dX3_readMethod_117 rfl (lv_at hl 0 rfl) ?_
    refine lv_iload_n hx hb dX3_readMethod_118 rfl (lv_at hl 1 rfl) ?_
    obtain ⟨⟨g909_0, u9_1, u9_2⟩, hu_9, hsp⟩ := ox_bind hsp
    try dsimp only at hsp
    have hPc := hP.sub (ws' := [(h0, .inr (3, [.ref qf0, .int v1, .int u8_1, .int u8_2, .ref qf4, .ref qf5, .ref qf6, .int v7, .int v8, .int v9, .int v10, .ref qf11, .int v12, .ref qf13])), (qf0, .inl (cf0, nb, .inl f0)), (qf13, .inl (cf13, 144, .inl g908_0)), (qf4, .inl (cf4, 256, .inl f4))]) [3, 4, 5, 0] rfl
    have hDc := hD.sub (ws' := [(h0, .inr (3, [.ref qf0, .int v1, .int u8_1, .int u8_2, .ref qf4, .ref qf5, .ref qf6, .int v7, .int v8, .int v9, .int v10, .ref qf11, .int v12, .ref qf13])), (qf0, .inl (cf0, nb, .inl f0)), (qf13, .inl (cf13, 144, .inl g908_0)), (qf4, .inl (cf4, 256, .inl f4))]) [3, 4, 5, 0] (by decide) rfl
    have hKc := hK.sub (tys' := [(cf0, .byte), (cf13, .int), (cf4, .int)]) [3, 4, 0] rfl
    have hFc := va_free (wc := [(h0, .inr (3, [.ref qf0, .int v1, .int u8_1, .int u8_2, .ref qf4, .ref qf5, .ref qf6, .int v7, .int v8, .int v9, .int v10, .ref qf11, .int v12, .ref qf13])), (qf0, .inl (cf0, nb, .inl f0)), (qf13, .inl (cf13, 144, .inl g908_0)), (qf4, .inl (cf4, 256, .inl f4))]) hD hS hA [3, 4, 5, 0] rfl
    refine va_callv (va_runV (As := [.int l1_52]) (rest := []) ⟨hx, hb, hml, hown, hts⟩ (t3_readHandlers l dC dI H.size h0 l1_52 qf0 v1 u8_1 u8_2 qf4 qf5 qf6 v7 v8 v9 v10 qf11 v12 qf13 cf0 nb f0 cf13 g908_0 cf4 f4 nf g909_0 u9_1 u9_2 hu_9) (cwV 1 hts gv_h7_43 rfl rfl rfl (by decide +kernel) ⟨Nat.le_of_ble_eq_true rfl, Nat.le_of_ble_eq_true rfl⟩) ⟨fun a U g mk q => by obtain ⟨q0, q1, qP, qK, qD⟩ := q; exact ⟨q0, q1, qP, va_K.moved (u := U) (U := U.calling g mk a) (Vm.Alike.refl U.vm) qK, qD⟩, va_recv hKc hPc (ci := 3) (q0 := 0) rfl rfl, fun U hU hW => ⟨rfl, by rw [hU], by rw [hU]; exact hPc, va_K.moved hW.alike hKc, hDc.weaken (fun _ _ _ _ => trivial)⟩⟩ rfl rfl hl.1 rfl (lv_room (Nat.le_of_ble_eq_true rfl)) dX3_readMethod_119 ⟨Nat.le_of_ble_eq_true rfl, Nat.le_of_ble_eq_true rfl⟩) hS (fun q _ h => hFc q h) hFc ?_
    clear hS
    intro u t H1 locs ht hvm hw hB hz1 hk1 hS
    obtain ⟨⟩ := u
    obtain ⟨hP1, hK1, hD1⟩ := hB
    rw [ht] at hP1
    have hK1 := va_K.moved hvm.symm hK1
    try dsimp only at hw
    have hPD := va_join (wr := [(qf5, .inl (cf5, 256, .inl f5)), (qf6, .inl (cf6, 256, .inl f6))]) (w1 := [(h0, .inr (3, [.ref qf0, .int v1, .int u9_1, .int u9_2, .ref qf4, .ref qf5, .ref qf6, .int v7, .int v8, .int v9, .int v10, .ref qf11, .int v12, .ref qf13])), (qf0, .inl (cf0, nb, .inl f0)), (qf13, .inl (cf13, 144, .inl g909_0)), (qf4, .inl (cf4, 256, .inl f4))]) hP hD [3, 4, 5, 0] [1, 2] rfl rfl (by decide) (by decide) hk1 hFc hP1 hD1
    clear hP hD
    obtain ⟨hP, hD⟩ := hPD
    replace hK := (hK.sub (tys' := [(cf5, .int), (cf6, .int)]) [1, 2] rfl).app hK1
    clear hPc hDc hKc hFc hP1 hK1 hD1 hz1 hk1 ht hvm
    generalize H1 = H at hP hS ⊢
    replace hP : va_P (dC, dI) vwCl [(qf5, .inl (cf5, 256, .inl f5)), (qf6, .inl (cf6, 256, .inl f6)), (h0, .inr (3, [.ref qf0, .int v1, .int u9_1, .int u9_2, .ref qf4, .ref qf5, .ref qf6, .int v7, .int v8, .int v9, .int v10, .ref qf11, .int v12, .ref qf13])), (qf0, .inl (cf0, nb, .inl f0)), (qf13, .inl (cf13, 144, .inl g909_0)), (qf4, .inl (cf4, 256, .inl f4))] H := hP
    replace hD : va_D A [(qf5, .inl (cf5, 256, .inl f5)), (qf6, .inl (cf6, 256, .inl f6)), (h0, .inr (3, [.ref qf0, .int v1, .int u9_1, .int u9_2, .ref qf4, .ref qf5, .ref qf6, .int v7, .int v8, .int v9, .int v10, .ref qf11, .int v12, .ref qf13])), (qf0, .inl (cf0, nb, .inl f0)), (qf13, .inl (cf13, 144, .inl g909_0)), (qf4, .inl (cf4, 256, .inl f4))] := hD
    replace hK : va_K (dC, dI) vwCl [(cf5, .int), (cf6, .int), (cf0, .byte), (cf13, .int), (cf4, .int)] s := hK
    refine lv_aload_n hx hb dX3_readMethod_122 rfl (lv_at hl 0 rfl) ?_
    refine lv_iload_n hx hb dX3_readMethod_123 rfl (lv_at hl 1 rfl) ?_
    obtain ⟨⟨g910_0, u10_1, u10_2⟩, hu_10, hsp⟩ := ox_bind hsp
    try dsimp only at hsp
    have hPc := hP.sub (ws' := [(h0, .inr (3, [.ref qf0, .int v1, .int u9_1, .int u9_2, .ref qf4, .ref qf5, .ref qf6, .int v7, .int v8, .int v9, .int v10, .ref qf11, .int v12, .ref qf13])), (qf0, .inl (cf0, nb, .inl f0)), (qf13, .inl (cf13, 144, .inl g909_0)), (qf4, .inl (cf4, 256, .inl f4))]) [2, 3, 4, 5] rfl
    have hDc := hD.sub (ws' := [(h0, .inr (3, [.ref qf0, .int v1, .int u9_1, .int u9_2, .ref qf4, .ref qf5, .ref qf6, .int v7, .int v8, .int v9, .int v10, .ref qf11, .int v12, .ref qf13])), (qf0, .inl (cf0, nb, .inl f0)), (qf13, .inl (cf13, 144, .inl g909_0)), (qf4, .inl (cf4, 256, .inl f4))]) [2, 3, 4, 5] (by decide) rfl
    have hKc := hK.sub (tys' := [(cf0, .byte), (cf13, .int), (cf4, .int)]) [2, 3, 4] rfl
    have hFc := va_free (wc := [(h0, .inr (3, [.ref qf0, .int v1, .int u9_1, .int u9_2, .ref qf4, .ref qf5, .ref qf6, .int v7, .int v8, .int v9, .int v10, .ref qf11, .int v12, .ref qf13])), (qf0, .inl (cf0, nb, .inl f0)), (qf13, .inl (cf13, 144, .inl g909_0)), (qf4, .inl (cf4, 256, .inl f4))]) hD hS hA [2, 3, 4, 5] rfl
    refine va_callv (va_runV (As := [.int l1_52]) (rest := []) ⟨hx, hb, hml, hown, hts⟩ (t3_readFrames l dC dI H.size h0 l1_52 qf0 v1 u9_1 u9_2 qf4 qf5 qf6 v7 v8 v9 v10 qf11 v12 qf13 cf0 nb f0 cf13 g909_0 cf4 f4 nf g910_0 u10_1 u10_2 hu_10) (cwV 1 hts gv_h7_44 rfl rfl rfl (by decide +kernel) ⟨Nat.le_of_ble_eq_true rfl, Nat.le_of_ble_eq_true rfl⟩) ⟨fun a U g mk q => by obtain ⟨q0, q1, qP, qK, qD⟩ := q; exact ⟨q0, q1, qP, va_K.moved (u := U) (U := U.calling g mk a) (Vm.Alike.refl U.vm) qK, qD⟩, va_recv hKc hPc (ci := 3) (q0 := 0) rfl rfl, fun U hU hW => ⟨rfl, by rw [hU], by rw [hU]; exact hPc, va_K.moved hW.alike hKc, hDc.weaken (fun _ _ _ _ => trivial)⟩⟩ rfl rfl hl.1 rfl (lv_room (Nat.le_of_ble_eq_true rfl)) dX3_readMethod_124 ⟨Nat.le_of_ble_eq_true rfl, Nat.le_of_ble_eq_true rfl⟩) hS (fun q _ h => hFc q h) hFc ?_
    clear hS
    intro u t H1 locs ht hvm hw hB hz1 hk1 hS
    obtain ⟨⟩ := u
    obtain ⟨hP1, hK1, hD1⟩ := hB
    rw [ht] at hP1
    have hK1 := va_K.moved hvm.symm hK1
    try dsimp only at hw
    have hPD := va_join (wr := [(qf5, .inl (cf5, 256, .inl f5)), (qf6, .inl (cf6, 256, .inl f6))]) (w1 := [(h0, .inr (3, [.ref qf0, .int v1, .int u10_1, .int u10_2, .ref qf4, .ref qf5, .ref qf6, .int v7, .int v8, .int v9, .int v10, .ref qf11, .int v12, .ref qf13])), (qf0, .inl (cf0, nb, .inl f0)), (qf13, .inl (cf13, 144, .inl g910_0)), (qf4, .inl (cf4, 256, .inl f4))]) hP hD [2, 3, 4, 5] [0, 1] rfl rfl (by decide) (by decide) hk1 hFc hP1 hD1
    clear hP hD
    obtain ⟨hP, hD⟩ := hPD
    replace hK := (hK.sub (tys' := [(cf5, .int), (cf6, .int)]) [0, 1] rfl).app hK1
    clear hPc hDc hKc hFc hP1 hK1 hD1 hz1 hk1 ht hvm
    generalize H1 = H at hP hS ⊢
    replace hP : va_P (dC, dI) vwCl [(qf5, .inl (cf5, 256, .inl f5)), (qf6, .inl (cf6, 256, .inl f6)), (h0, .inr (3, [.ref qf0, .int v1, .int u10_1, .int u10_2, .ref qf4, .ref qf5, .ref qf6, .int v7, .int v8, .int v9, .int v10, .ref qf11, .int v12, .ref qf13])), (qf0, .inl (cf0, nb, .inl f0)), (qf13, .inl (cf13, 144, .inl g910_0)), (qf4, .inl (cf4, 256, .inl f4))] H := hP
    replace hD : va_D A [(qf5, .inl (cf5, 256, .inl f5)), (qf6, .inl (cf6, 256, .inl f6)), (h0, .inr (3, [.ref qf0, .int v1, .int u10_1, .int u10_2, .ref qf4, .ref qf5, .ref qf6, .int v7, .int v8, .int v9, .int v10, .ref qf11, .int v12, .ref qf13])), (qf0, .inl (cf0, nb, .inl f0)), (qf13, .inl (cf13, 144, .inl g910_0)), (qf4, .inl (cf4, 256, .inl f4))] := hD
    replace hK : va_K (dC, dI) vwCl [(cf5, .int), (cf6, .int), (cf0, .byte), (cf13, .int), (cf4, .int)] s := hK
    have hr0 := Option.some.inj hsp
    clear hsp
    obtain ⟨hq0, hr1⟩ := Prod.mk.inj hr0
    clear hr0
    obtain ⟨hq1, hr2⟩ := Prod.mk.inj hr1
    clear hr1
    subst hq0
    subst hq1
    subst hr2
    have hP9 := hP.sub (ws' := [(h0, .inr (3, [.ref qf0, .int v1, .int u10_1, .int u10_2, .ref qf4, .ref qf5, .ref qf6, .int v7, .int v8, .int v9, .int v10, .ref qf11, .int v12, .ref qf13])), (qf0, .inl (cf0, nb, .inl f0)), (qf13, .inl (cf13, 144, .inl g910_0)), (qf4, .inl (cf4, 256, .inl f4)), (qf5, .inl (cf5, 256, .inl f5)), (qf6, .inl (cf6, 256, .inl f6))]) [2, 3, 4, 5, 0, 1] rfl
    have hD9 := hD.sub (ws' := [(h0, .inr (3, [.ref qf0, .int v1, .int u10_1, .int u10_2, .ref qf4, .ref qf5, .ref qf6, .int v7, .int v8, .int v9, .int v10, .ref qf11, .int v12, .ref qf13])), (qf0, .inl (cf0, nb, .inl f0)), (qf13, .inl (cf13, 144, .inl g910_0)), (qf4, .inl (cf4, 256, .inl f4)), (qf5, .inl (cf5, 256, .inl f5)), (qf6, .inl (cf6, 256, .inl f6))]) [2, 3, 4, 5, 0, 1] (by decide) rfl
    have hK9 := hK.sub (tys' := [(cf0, .byte), (cf13, .int), (cf4, .int), (cf5, .int), (cf6, .int)]) [2, 3, 4, 0, 1] rfl
    exact W.vret hx hb hr (fun t ht hW => ⟨⟨(), rfl, trivial, by rw [ht]; exact hP9, va_K.moved hW.alike hK9, hD9⟩, hS.F ht⟩) hS.2.2 dX3_readMethod_127
  intro hj_52
  refine lv_aload_n hx hb dX3_readMethod_0 rfl (lv_at hl 0 rfl) ?_
  refine va_get (D := (dC, dI)) (ci := 3) (v := .ref qf13) (C := RX3) (T := TX3) (N := 14) hx hb hts uV_h7_X3 hown hK hP 0 rfl rfl 13 (by decide) (hts (.fieldLink RX3 30 "ClassMill$Image" "method" "[I") mw_h7_218) (fun _ h9 => h9) rfl dX3_readMethod_1 ?_
  refine lv_iload_n hx hb dX3_readMethod_4 rfl (lv_at hl 1 rfl) ?_
  refine lv_iconst (v := 0) hx hb dX3_readMethod_5 (by decide) ?_
  refine lv_iadd hx hb dX3_readMethod_6 ?_
  refine lv_aload_n hx hb dX3_readMethod_7 rfl (lv_at hl 0 rfl) ?_
  refine lv_iconst (v := 0) hx hb dX3_readMethod_8 (by decide) ?_
  refine lv_iconst (v := 1) hx hb dX3_readMethod_9 (by decide) ?_
  obtain ⟨⟨u1_0, u1_1, u1_2⟩, hu_1, hsp⟩ := ox_bind hsp
  try dsimp only at hsp
  have hPc := hP.sub (ws' := [(h0, .inr (3, [.ref qf0, .int v1, .int v2, .int v3, .ref qf4, .ref qf5, .ref qf6, .int v7, .int v8, .int v9, .int v10, .ref qf11, .int v12, .ref qf13])), (qf0, .inl (cf0, nb, .inl f0))]) [0, 1] rfl
  have hDc := hD.sub (ws' := [(h0, .inr (3, [.ref qf0, .int v1, .int v2, .int v3, .ref qf4, .ref qf5, .ref qf6, .int v7, .int v8, .int v9, .int v10, .ref qf11, .int v12, .ref qf13])), (qf0, .inl (cf0, nb, .inl f0))]) [0, 1] (by decide) rfl
  have hKc := hK.sub (tys' := [(cf0, .byte)]) [0] rfl
  have hFc := va_free (wc := [(h0, .inr (3, [.ref qf0, .int v1, .int v2, .int v3, .ref qf4, .ref qf5, .ref qf6, .int v7, .int v8, .int v9, .int v10, .ref qf11, .int v12, .ref qf13])), (qf0, .inl (cf0, nb, .inl f0))]) hD hS hA [0, 1] rfl
  refine va_calli (va_runV (As := [.int 0, .int 1]) (rest := [.int (a1 + 0), .ref qf13]) ⟨hx, hb, hml, hown, hts⟩ (ti_nextUpTo l dC dI H.size h0 0 1 qf0 v1 v2 v3 qf4 qf5 qf6 v7 v8 v9 v10 qf11 v12 qf13 cf0 nb f0 nf u1_0 u1_1 u1_2 hu_1) (cwV 2 hts gv_h7_29 rfl rfl rfl (by decide +kernel) ⟨Nat.le_of_ble_eq_true rfl, Nat.le_of_ble_eq_true rfl⟩) ⟨fun a U g mk q => by obtain ⟨q0, q1, qP, qK, qD⟩ := q; exact ⟨q0, q1, qP, va_K.moved (u := U) (U := U.calling g mk a) (Vm.Alike.refl U.vm) qK, qD⟩, va_recv hKc hPc (ci := 3) (q0 := 0) rfl rfl, fun U hU hW => ⟨rfl, by rw [hU], by rw [hU]; exact hPc, va_K.moved hW.alike hKc, hDc.weaken (fun _ _ _ _ => trivial)⟩⟩ rfl rfl hl.1 rfl (lv_room (Nat.le_of_ble_eq_true rfl)) dX3_readMethod_10 ⟨Nat.le_of_ble_eq_true rfl, Nat.le_of_ble_eq_true rfl⟩) hS (fun q _ h => hFc q h) hFc ?_
  clear hS
  intro r_1 u t H1 locs ht hvm hw hB hz1 hk1 hS
  obtain ⟨⟩ := u
  obtain ⟨hP1, hK1, hD1⟩ := hB
  rw [ht] at hP1
  have hK1 := va_K.moved hvm.symm hK1
  try dsimp only at hw
  have hPD := va_join (wr := [(qf13, .inl (cf13, 144, .inl f13)), (qf4, .inl (cf4, 256, .inl f4)), (qf5, .inl (cf5, 256, .inl f5)), (qf6, .inl (cf6, 256, .inl f6))]) (w1 := [(h0, .inr (3, [.ref qf0, .int v1, .int u1_1, .int u1_2, .ref qf4, .ref qf5, .ref qf6, .int v7, .int v8, .int v9, .int v10, .ref qf11, .int v12, .ref qf13])), (qf0, .inl (cf0, nb, .inl f0))]) hP hD [0, 1] [2, 3, 4, 5] rfl rfl (by decide) (by decide) hk1 hFc hP1 hD1
  clear hP hD
  obtain ⟨hP, hD⟩ := hPD
  replace hK := (hK.sub (tys' := [(cf13, .int), (cf4, .int), (cf5, .int), (cf6, .int)]) [1, 2, 3, 4] rfl).app hK1
  clear hPc hDc hKc hFc hP1 hK1 hD1 hz1 hk1 ht hvm
  generalize H1 = H at hP hS ⊢
  replace hP : va_P (dC, dI) vwCl [(qf13, .inl (cf13, 144, .inl f13)), (qf4, .inl (cf4, 256, .inl f4)), (qf5, .inl (cf5, 256, .inl f5)), (qf6, .inl (cf6, 256, .inl f6)), (h0, .inr (3, [.ref qf0, .int v1, .int u1_1, .int u1_2, .ref qf4, .ref qf5, .ref qf6, .int v7, .int v8, .int v9, .int v10, .ref qf11, .int v12, .ref qf13])), (qf0, .inl (cf0, nb, .inl f0))] H := hP
  replace hD : va_D A [(qf13, .inl (cf13, 144, .inl f13)), (qf4, .inl (cf4, 256, .inl f4)), (qf5, .inl (cf5, 256, .inl f5)), (qf6, .inl (cf6, 256, .inl f6)), (h0, .inr (3, [.ref qf0, .int v1, .int u1_1, .int u1_2, .ref qf4, .ref qf5, .ref qf6, .int v7, .int v8, .int v9, .int v10, .ref qf11, .int v12, .ref qf13])), (qf0, .inl (cf0, nb, .inl f0))] := hD
  replace hK : va_K (dC, dI) vwCl [(cf13, .int), (cf4, .int), (cf5, .int), (cf6, .int), (cf0, .byte)] s := hK
  obtain rfl := hw
  obtain ⟨hi_2, hsp⟩ := ox_in hsp
  refine va_iast hx hb hK hP hD hS 0 0 rfl rfl (i := (a1 + 0)) (x := u1_0) hi_2 dX3_readMethod_13 ?_
  clear hP hD hS
  intro H locs hP hD hS
  replace hP : va_P (dC, dI) vwCl [(qf13, .inl (cf13, 144, .inl (upd f13 ((a1 + 0) : Int32).toNatClampNeg u1_0))), (qf4, .inl (cf4, 256, .inl f4)), (qf5, .inl (cf5, 256, .inl f5)), (qf6, .inl (cf6, 256, .inl f6)), (h0, .inr (3, [.ref qf0, .int v1, .int u1_1, .int u1_2, .ref qf4, .ref qf5, .ref qf6, .int v7, .int v8, .int v9, .int v10, .ref qf11, .int v12, .ref qf13])), (qf0, .inl (cf0, nb, .inl f0))] H := hP
  replace hD : va_D A [(qf13, .inl (cf13, 144, .inl (upd f13 ((a1 + 0) : Int32).toNatClampNeg u1_0))), (qf4, .inl (cf4, 256, .inl f4)), (qf5, .inl (cf5, 256, .inl f5)), (qf6, .inl (cf6, 256, .inl f6)), (h0, .inr (3, [.ref qf0, .int v1, .int u1_1, .int u1_2, .ref qf4, .ref qf5, .ref qf6, .int v7, .int v8, .int v9, .int v10, .ref qf11, .int v12, .ref qf13])), (qf0, .inl (cf0, nb, .inl f0))] := hD
  refine lv_aload_n hx hb dX3_readMethod_14 rfl (lv_at hl 0 rfl) ?_
  refine va_get (D := (dC, dI)) (ci := 3) (v := .ref qf13) (C := RX3) (T := TX3) (N := 14) hx hb hts uV_h7_X3 hown hK hP 4 rfl rfl 13 (by decide) (hts (.fieldLink RX3 30 "ClassMill$Image" "method" "[I") mw_h7_218) (fun _ h9 => h9) rfl dX3_readMethod_15 ?_
  refine lv_iload_n hx hb dX3_readMethod_18 rfl (lv_at hl 1 rfl) ?_
  refine lv_iconst (v := 1) hx hb dX3_readMethod_19 (by decide) ?_
  refine lv_iadd hx hb dX3_readMethod_20 ?_
  refine lv_aload_n hx hb dX3_readMethod_21 rfl (lv_at hl 0 rfl) ?_
  obtain ⟨⟨u2_0, u2_1, u2_2⟩, hu_2, hsp⟩ := ox_bind hsp
  try dsimp only at hsp
  have hPc := hP.sub (ws' := [(h0, .inr (3, [.ref qf0, .int v1, .int u1_1, .int u1_2, .ref qf4, .ref qf5, .ref qf6, .int v7, .int v8, .int v9, .int v10, .ref qf11, .int v12, .ref qf13])), (qf0, .inl (cf0, nb, .inl f0)), (qf4, .inl (cf4, 256, .inl f4)), (qf5, .inl (cf5, 256, .inl f5)), (qf6, .inl (cf6, 256, .inl f6))]) [4, 5, 1, 2, 3] rfl
  have hDc := hD.sub (ws' := [(h0, .inr (3, [.ref qf0, .int v1, .int u1_1, .int u1_2, .ref qf4, .ref qf5, .ref qf6, .int v7, .int v8, .int v9, .int v10, .ref qf11, .int v12, .ref qf13])), (qf0, .inl (cf0, nb, .inl f0)), (qf4, .inl (cf4, 256, .inl f4)), (qf5, .inl (cf5, 256, .inl f5)), (qf6, .inl (cf6, 256, .inl f6))]) [4, 5, 1, 2, 3] (by decide) rfl
  have hKc := hK.sub (tys' := [(cf0, .byte), (cf4, .int), (cf5, .int), (cf6, .int)]) [4, 1, 2, 3] rfl
  have hFc := va_free (wc := [(h0, .inr (3, [.ref qf0, .int v1, .int u1_1, .int u1_2, .ref qf4, .ref qf5, .ref qf6, .int v7, .int v8, .int v9, .int v10, .ref qf11, .int v12, .ref qf13])), (qf0, .inl (cf0, nb, .inl f0)), (qf4, .inl (cf4, 256, .inl f4)), (qf5, .inl (cf5, 256, .inl f5)), (qf6, .inl (cf6, 256, .inl f6))]) hD hS hA [4, 5, 1, 2, 3] rfl
  refine va_calli (va_runV (As := []) (rest := [.int (a1 + 1), .ref qf13]) ⟨hx, hb, hml, hown, hts⟩ (v3_nextName l dC dI H.size h0 qf0 v1 u1_1 u1_2 qf4 qf5 qf6 v7 v8 v9 v10 qf11 v12 qf13 cf0 nb f0 cf4 f4 cf5 f5 cf6 f6 nf u2_0 u2_1 u2_2 hu_2) (cwV 0 hts gv_h7_40 rfl rfl rfl (by decide +kernel) ⟨Nat.le_of_ble_eq_true rfl, Nat.le_of_ble_eq_true rfl⟩) ⟨fun a U g mk q => by obtain ⟨q0, q1, qP, qK, qD⟩ := q; exact ⟨q0, q1, qP, va_K.moved (u := U) (U := U.calling g mk a) (Vm.Alike.refl U.vm) qK, qD⟩, va_recv hKc hPc (ci := 3) (q0 := 0) rfl rfl, fun U hU hW => ⟨rfl, by rw [hU], by rw [hU]; exact hPc, va_K.moved hW.alike hKc, hDc.weaken (fun _ _ _ _ => trivial)⟩⟩ rfl rfl hl.1 rfl (lv_room (Nat.le_of_ble_eq_true rfl)) dX3_readMethod_22 ⟨Nat.le_of_ble_eq_true rfl, Nat.le_of_ble_eq_true rfl⟩) hS (fun q _ h => hFc q h) hFc ?_
  clear hS
  intro r_3 u t H1 locs ht hvm hw hB hz1 hk1 hS
  obtain ⟨⟩ := u
  obtain ⟨hP1, hK1, hD1⟩ := hB
  rw [ht] at hP1
  have hK1 := va_K.moved hvm.symm hK1
  try dsimp only at hw
  have hPD := va_join (wr := [(qf13, .inl (cf13, 144, .inl (upd f13 ((a1 + 0) : Int32).toNatClampNeg u1_0)))]) (w1 := [(h0, .inr (3, [.ref qf0, .int v1, .int u2_1, .int u2_2, .ref qf4, .ref qf5, .ref qf6, .int v7, .int v8, .int v9, .int v10, .ref qf11, .int v12, .ref qf13])), (qf0, .inl (cf0, nb, .inl f0)), (qf4, .inl (cf4, 256, .inl f4)), (qf5, .inl (cf5, 256, .inl f5)), (qf6, .inl (cf6, 256, .inl f6))]) hP hD [4, 5, 1, 2, 3] [0] rfl rfl (by decide) (by decide) hk1 hFc hP1 hD1
  clear hP hD
  obtain ⟨hP, hD⟩ := hPD
  replace hK := (hK.sub (tys' := [(cf13, .int)]) [0] rfl).app hK1
  clear hPc hDc hKc hFc hP1 hK1 hD1 hz1 hk1 ht hvm
  generalize H1 = H at hP hS ⊢
  replace hP : va_P (dC, dI) vwCl [(qf13, .inl (cf13, 144, .inl (upd f13 ((a1 + 0) : Int32).toNatClampNeg u1_0))), (h0, .inr (3, [.ref qf0, .int v1, .int u2_1, .int u2_2, .ref qf4, .ref qf5, .ref qf6, .int v7, .int v8, .int v9, .int v10, .ref qf11, .int v12, .ref qf13])), (qf0, .inl (cf0, nb, .inl f0)), (qf4, .inl (cf4, 256, .inl f4)), (qf5, .inl (cf5, 256, .inl f5)), (qf6, .inl (cf6, 256, .inl f6))] H := hP
  replace hD : va_D A [(qf13, .inl (cf13, 144, .inl (upd f13 ((a1 + 0) : Int32).toNatClampNeg u1_0))), (h0, .inr (3, [.ref qf0, .int v1, .int u2_1, .int u2_2, .ref qf4, .ref qf5, .ref qf6, .int v7, .int v8, .int v9, .int v10, .ref qf11, .int v12, .ref qf13])), (qf0, .inl (cf0, nb, .inl f0)), (qf4, .inl (cf4, 256, .inl f4)), (qf5, .inl (cf5, 256, .inl f5)), (qf6, .inl (cf6, 256, .inl f6))] := hD
  replace hK : va_K (dC, dI) vwCl [(cf13, .int), (cf0, .byte), (cf4, .int), (cf5, .int), (cf6, .int)] s := hK
  obtain rfl := hw
  obtain ⟨hi_4, hsp⟩ := ox_in hsp
  refine va_iast hx hb hK hP hD hS 0 0 rfl rfl (i := (a1 + 1)) (x := u2_0) hi_4 dX3_readMethod_25 ?_
  clear hP hD hS
  intro H locs hP hD hS
  replace hP : va_P (dC, dI) vwCl [(qf13, .inl (cf13, 144, .inl (upd (upd f13 ((a1 + 0) : Int32).toNatClampNeg u1_0) ((a1 + 1) : Int32).toNatClampNeg u2_0))), (h0, .inr (3, [.ref qf0, .int v1, .int u2_1, .int u2_2, .ref qf4, .ref qf5, .ref qf6, .int v7, .int v8, .int v9, .int v10, .ref qf11, .int v12, .ref qf13])), (qf0, .inl (cf0, nb, .inl f0)), (qf4, .inl (cf4, 256, .inl f4)), (qf5, .inl (cf5, 256, .inl f5)), (qf6, .inl (cf6, 256, .inl f6))] H := hP
  replace hD : va_D A [(qf13, .inl (cf13, 144, .inl (upd (upd f13 ((a1 + 0) : Int32).toNatClampNeg u1_0) ((a1 + 1) : Int32).toNatClampNeg u2_0))), (h0, .inr (3, [.ref qf0, .int v1, .int u2_1, .int u2_2, .ref qf4, .ref qf5, .ref qf6, .int v7, .int v8, .int v9, .int v10, .ref qf11, .int v12, .ref qf13])), (qf0, .inl (cf0, nb, .inl f0)), (qf4, .inl (cf4, 256, .inl f4)), (qf5, .inl (cf5, 256, .inl f5)), (qf6, .inl (cf6, 256, .inl f6))] := hD
  refine lv_aload_n hx hb dX3_readMethod_26 rfl (lv_at hl 0 rfl) ?_
  obtain ⟨⟨u3_0, u3_1, u3_2⟩, hu_3, hsp⟩ := ox_bind hsp
  try dsimp only at hsp
  have hPc := hP.sub (ws' := [(h0, .inr (3, [.ref qf0, .int v1, .int u2_1, .int u2_2, .ref qf4, .ref qf5, .ref qf6, .int v7, .int v8, .int v9, .int v10, .ref qf11, .int v12, .ref qf13])), (qf0, .inl (cf0, nb, .inl f0))]) [1, 2] rfl
  have hDc := hD.sub (ws' := [(h0, .inr (3, [.ref qf0, .int v1, .int u2_1, .int u2_2, .ref qf4, .ref qf5, .ref qf6, .int v7, .int v8, .int v9, .int v10, .ref qf11, .int v12, .ref qf13])), (qf0, .inl (cf0, nb, .inl f0))]) [1, 2] (by decide) rfl
  have hKc := hK.sub (tys' := [(cf0, .byte)]) [1] rfl
  have hFc := va_free (wc := [(h0, .inr (3, [.ref qf0, .int v1, .int u2_1, .int u2_2, .ref qf4, .ref qf5, .ref qf6, .int v7, .int v8, .int v9, .int v10, .ref qf11, .int v12, .ref qf13])), (qf0, .inl (cf0, nb, .inl f0))]) hD hS hA [1, 2] rfl
  refine va_calli (va_runV (As := []) (rest := []) ⟨hx, hb, hml, hown, hts⟩ (ti_next l dC dI H.size h0 qf0 v1 u2_1 u2_2 qf4 qf5 qf6 v7 v8 v9 v10 qf11 v12 qf13 cf0 nb f0 nf u3_0 u3_1 u3_2 hu_3) (cwV 0 hts gv_h7_30 rfl rfl rfl (by decide +kernel) ⟨Nat.le_of_ble_eq_true rfl, Nat.le_of_ble_eq_true rfl⟩) ⟨fun a U g mk q => by obtain ⟨q0, q1, qP, qK, qD⟩ := q; exact ⟨q0, q1, qP, va_K.moved (u := U) (U := U.calling g mk a) (Vm.Alike.refl U.vm) qK, qD⟩, va_recv hKc hPc (ci := 3) (q0 := 0) rfl rfl, fun U hU hW => ⟨rfl, by rw [hU], by rw [hU]; exact hPc, va_K.moved hW.alike hKc, hDc.weaken (fun _ _ _ _ => trivial)⟩⟩ rfl rfl hl.1 rfl (lv_room (Nat.le_of_ble_eq_true rfl)) dX3_readMethod_27 ⟨Nat.le_of_ble_eq_true rfl, Nat.le_of_ble_eq_true rfl⟩) hS (fun q _ h => hFc q h) hFc ?_
  clear hS
  intro r_5 u t H1 locs ht hvm hw hB hz1 hk1 hS
  obtain ⟨⟩ := u
  obtain ⟨hP1, hK1, hD1⟩ := hB
  rw [ht] at hP1
  have hK1 := va_K.moved hvm.symm hK1
  try dsimp only at hw
  have hPD := va_join (wr := [(qf13, .inl (cf13, 144, .inl (upd (upd f13 ((a1 + 0) : Int32).toNatClampNeg u1_0) ((a1 + 1) : Int32).toNatClampNeg u2_0))), (qf4, .inl (cf4, 256, .inl f4)), (qf5, .inl (cf5, 256, .inl f5)), (qf6, .inl (cf6, 256, .inl f6))]) (w1 := [(h0, .inr (3, [.ref qf0, .int v1, .int u3_1, .int u3_2, .ref qf4, .ref qf5, .ref qf6, .int v7, .int v8, .int v9, .int v10, .ref qf11, .int v12, .ref qf13])), (qf0, .inl (cf0, nb, .inl f0))]) hP hD [1, 2] [0, 3, 4, 5] rfl rfl (by decide) (by decide) hk1 hFc hP1 hD1
  clear hP hD
  obtain ⟨hP, hD⟩ := hPD
  replace hK := (hK.sub (tys' := [(cf13, .int), (cf4, .int), (cf5, .int), (cf6, .int)]) [0, 2, 3, 4] rfl).app hK1
  clear hPc hDc hKc hFc hP1 hK1 hD1 hz1 hk1 ht hvm
  generalize H1 = H at hP hS ⊢
  replace hP : va_P (dC, dI) vwCl [(qf13, .inl (cf13, 144, .inl (upd (upd f13 ((a1 + 0) : Int32).toNatClampNeg u1_0) ((a1 + 1) : Int32).toNatClampNeg u2_0))), (qf4, .inl (cf4, 256, .inl f4)), (qf5, .inl (cf5, 256, .inl f5)), (qf6, .inl (cf6, 256, .inl f6)), (h0, .inr (3, [.ref qf0, .int v1, .int u3_1, .int u3_2, .ref qf4, .ref qf5, .ref qf6, .int v7, .int v8, .int v9, .int v10, .ref qf11, .int v12, .ref qf13])), (qf0, .inl (cf0, nb, .inl f0))] H := hP
  replace hD : va_D A [(qf13, .inl (cf13, 144, .inl (upd (upd f13 ((a1 + 0) : Int32).toNatClampNeg u1_0) ((a1 + 1) : Int32).toNatClampNeg u2_0))), (qf4, .inl (cf4, 256, .inl f4)), (qf5, .inl (cf5, 256, .inl f5)), (qf6, .inl (cf6, 256, .inl f6)), (h0, .inr (3, [.ref qf0, .int v1, .int u3_1, .int u3_2, .ref qf4, .ref qf5, .ref qf6, .int v7, .int v8, .int v9, .int v10, .ref qf11, .int v12, .ref qf13])), (qf0, .inl (cf0, nb, .inl f0))] := hD
  replace hK : va_K (dC, dI) vwCl [(cf13, .int), (cf4, .int), (cf5, .int), (cf6, .int), (cf0, .byte)] s := hK
  obtain rfl := hw
  refine lv_istore_n (lv' := [(2, .int u3_0), (0, .ref h0), (1, .int a1)]) hx hb dX3_readMethod_30 rfl hl (by decide) rfl (fun ls hl => ?_)
  refine lv_aload_n hx hb dX3_readMethod_31 rfl (lv_at hl 1 rfl) ?_
  refine lv_iload_n hx hb dX3_readMethod_32 rfl (lv_at hl 0 rfl) ?_
  obtain ⟨u4_0, hu_4, hsp⟩ := ox_bind hsp
  try dsimp only at hsp
  have hPc := hP.sub (ws' := [(h0, .inr (3, [.ref qf0, .int v1, .int u3_1, .int u3_2, .ref qf4, .ref qf5, .ref qf6, .int v7, .int v8, .int v9, .int v10, .ref qf11, .int v12, .ref qf13])), (qf4, .inl (cf4, 256, .inl f4)), (qf5, .inl (cf5, 256, .inl f5)), (qf0, .inl (cf0, nb, .inl f0)), (qf6, .inl (cf6, 256, .inl f6))]) [4, 1, 2, 5, 3] rfl
  have hDc := hD.sub (ws' := [(h0, .inr (3, [.ref qf0, .int v1, .int u3_1, .int u3_2, .ref qf4, .ref qf5, .ref qf6, .int v7, .int v8, .int v9, .int v10, .ref qf11, .int v12, .ref qf13])), (qf4, .inl (cf4, 256, .inl f4)), (qf5, .inl (cf5, 256, .inl f5)), (qf0, .inl (cf0, nb, .inl f0)), (qf6, .inl (cf6, 256, .inl f6))]) [4, 1, 2, 5, 3] (by decide) rfl
  have hKc := hK.sub (tys' := [(cf4, .int), (cf5, .int), (cf0, .byte), (cf6, .int)]) [1, 2, 4, 3] rfl
  have hFc := va_free (wc := [(h0, .inr (3, [.ref qf0, .int v1, .int u3_1, .int u3_2, .ref qf4, .ref qf5, .ref qf6, .int v7, .int v8, .int v9, .int v10, .ref qf11, .int v12, .ref qf13])), (qf4, .inl (cf4, 256, .inl f4)), (qf5, .inl (cf5, 256, .inl f5)), (qf0, .inl (cf0, nb, .inl f0)), (qf6, .inl (cf6, 256, .inl f6))]) hD hS hA [4, 1, 2, 5, 3] rfl
  refine va_calli (va_runV (As := [.int u3_0]) (rest := []) ⟨hx, hb, hml, hown, hts⟩ (v3_parametersIn l dC dI H.size h0 u3_0 qf0 v1 u3_1 u3_2 qf4 qf5 qf6 v7 v8 v9 v10 qf11 v12 qf13 cf4 f4 cf5 f5 cf0 nb f0 cf6 f6 nf u4_0 hu_4) (cwV 1 hts gv_h7_41 rfl rfl rfl (by decide +kernel) ⟨Nat.le_of_ble_eq_true rfl, Nat.le_of_ble_eq_true rfl⟩) ⟨fun a U g mk q => by obtain ⟨q0, q1, qP, qK, qD⟩ := q; exact ⟨q0, q1, qP, va_K.moved (u := U) (U := U.calling g mk a) (Vm.Alike.refl U.vm) qK, qD⟩, va_recv hKc hPc (ci := 3) (q0 := 0) rfl rfl, fun U hU hW => ⟨rfl, by rw [hU], by rw [hU]; exact hPc, va_K.moved hW.alike hKc, hDc.weaken (fun _ _ _ _ => trivial)⟩⟩ rfl rfl hl.1 rfl (lv_room (Nat.le_of_ble_eq_true rfl)) dX3_readMethod_33 ⟨Nat.le_of_ble_eq_true rfl, Nat.le_of_ble_eq_true rfl⟩) hS (fun q _ h => hFc q h) hFc ?_
  clear hS
  intro r_6 u t H1 locs ht hvm hw hB hz1 hk1 hS
  obtain ⟨⟩ := u
  obtain ⟨hP1, hK1, hD1⟩ := hB
  rw [ht] at hP1
  have hK1 := va_K.moved hvm.symm hK1
  try dsimp only at hw
  have hPD := va_join (wr := [(qf13, .inl (cf13, 144, .inl (upd (upd f13 ((a1 + 0) : Int32).toNatClampNeg u1_0) ((a1 + 1) : Int32).toNatClampNeg u2_0)))]) (w1 := [(h0, .inr (3, [.ref qf0, .int v1, .int u3_1, .int u3_2, .ref qf4, .ref qf5, .ref qf6, .int v7, .int v8, .int v9, .int v10, .ref qf11, .int v12, .ref qf13])), (qf4, .inl (cf4, 256, .inl f4)), (qf5, .inl (cf5, 256, .inl f5)), (qf0, .inl (cf0, nb, .inl f0)), (qf6, .inl (cf6, 256, .inl f6))]) hP hD [4, 1, 2, 5, 3] [0] rfl rfl (by decide) (by decide) hk1 hFc hP1 hD1
  clear hP hD
  obtain ⟨hP, hD⟩ := hPD
  replace hK := (hK.sub (tys' := [(cf13, .int)]) [0] rfl).app hK1
  clear hPc hDc hKc hFc hP1 hK1 hD1 hz1 hk1 ht hvm
  generalize H1 = H at hP hS ⊢
  replace hP : va_P (dC, dI) vwCl [(qf13, .inl (cf13, 144, .inl (upd (upd f13 ((a1 + 0) : Int32).toNatClampNeg u1_0) ((a1 + 1) : Int32).toNatClampNeg u2_0))), (h0, .inr (3, [.ref qf0, .int v1, .int u3_1, .int u3_2, .ref qf4, .ref qf5, .ref qf6, .int v7, .int v8, .int v9, .int v10, .ref qf11, .int v12, .ref qf13])), (qf4, .inl (cf4, 256, .inl f4)), (qf5, .inl (cf5, 256, .inl f5)), (qf0, .inl (cf0, nb, .inl f0)), (qf6, .inl (cf6, 256, .inl f6))] H := hP
  replace hD : va_D A [(qf13, .inl (cf13, 144, .inl (upd (upd f13 ((a1 + 0) : Int32).toNatClampNeg u1_0) ((a1 + 1) : Int32).toNatClampNeg u2_0))), (h0, .inr (3, [.ref qf0, .int v1, .int u3_1, .int u3_2, .ref qf4, .ref qf5, .ref qf6, .int v7, .int v8, .int v9, .int v10, .ref qf11, .int v12, .ref qf13])), (qf4, .inl (cf4, 256, .inl f4)), (qf5, .inl (cf5, 256, .inl f5)), (qf0, .inl (cf0, nb, .inl f0)), (qf6, .inl (cf6, 256, .inl f6))] := hD
  replace hK : va_K (dC, dI) vwCl [(cf13, .int), (cf4, .int), (cf5, .int), (cf0, .byte), (cf6, .int)] s := hK
  obtain rfl := hw
  refine lv_istore_n (lv' := [(3, .int u4_0), (2, .int u3_0), (0, .ref h0), (1, .int a1)]) hx hb dX3_readMethod_36 rfl hl (by decide) rfl (fun ls hl => ?_)
  refine lv_iload_n hx hb dX3_readMethod_37 rfl (lv_at hl 0 rfl) ?_
  refine lv_iconst (v := (-1)) hx hb dX3_readMethod_38 (by decide) ?_
  refine lv_icmp_ne (tgt := 52) hx hb dX3_readMethod_39 (by decide) (fun c_7 => ?_) (fun c_7 => ?_)
  · rw [if_neg c_7] at hsp
    exact hj_52 (H, locs, ls, a1, u3_0, u4_0, (upd (upd f13 ((a1 + 0) : Int32).toNatClampNeg u1_0) ((a1 + 1) : Int32).toNatClampNeg u2_0), u3_1, u3_2) ⟨lv_sub hl [2, 3, 1, 0] rfl, hS, hD.sub (ws' := [(h0, .inr (3, [.ref qf0, .int v1, .int u3_1, .int u3_2, .ref qf4, .ref qf5, .ref qf6, .int v7, .int v8, .int v9, .int v10, .ref qf11, .int v12, .ref qf13])), (qf0, .inl (cf0, nb, .inl f0)), (qf13, .inl (cf13, 144, .inl (upd (upd f13 ((a1 + 0) : Int32).toNatClampNeg u1_0) ((a1 + 1) : Int32).toNatClampNeg u2_0))), (qf4, .inl (cf4, 256, .inl f4)), (qf5, .inl (cf5, 256, .inl f5)), (qf6, .inl (cf6, 256, .inl f6))]) [1, 4, 0, 2, 3, 5] (by decide) rfl, hP.sub (ws' := [(h0, .inr (3, [.ref qf0, .int v1, .int u3_1, .int u3_2, .ref qf4, .ref qf5, .ref qf6, .int v7, .int v8, .int v9, .int v10, .ref qf11, .int v12, .ref qf13])), (qf0, .inl (cf0, nb, .inl f0)), (qf13, .inl (cf13, 144, .inl (upd (upd f13 ((a1 + 0) : Int32).toNatClampNeg u1_0) ((a1 + 1) : Int32).toNatClampNeg u2_0))), (qf4, .inl (cf4, 256, .inl f4)), (qf5, .inl (cf5, 256, .inl f5)), (qf6, .inl (cf6, 256, .inl f6))]) [1, 4, 0, 2, 3, 5] rfl, hsp⟩
  · rw [if_pos c_7] at hsp
    refine lv_aload_n hx hb dX3_readMethod_42 rfl (lv_at hl 2 rfl) ?_
    refine lv_aload_n hx hb dX3_readMethod_43 rfl (lv_at hl 2 rfl) ?_
    refine va_get (D := (dC, dI)) (ci := 3) (v := .int u3_1) (C := RX3) (T := TX3) (N := 14) hx hb hts uV_h7_X3 hown hK hP 1 rfl rfl 2 (by decide) (hts (.fieldLink RX3 43 "ClassMill$Image" "pos" "I") mw_h7_160) (fun _ h9 => h9) rfl dX3_readMethod_44 ?_
    refine lv_iconst (v := 1) hx hb dX3_readMethod_47 (by decide) ?_
    refine lv_isub hx hb dX3_readMethod_48 ?_
    obtain ⟨u5_0, hu_5, hsp⟩ := ox_bind hsp
    try dsimp only at hsp
    have hPc := hP.sub (ws' := [(h0, .inr (3, [.ref qf0, .int v1, .int u3_1, .int u3_2, .ref qf4, .ref qf5, .ref qf6, .int v7, .int v8, .int v9, .int v10, .ref qf11, .int v12, .ref qf13]))]) [1] rfl
    have hDc := hD.sub (ws' := [(h0, .inr (3, [.ref qf0, .int v1, .int u3_1, .int u3_2, .ref qf4, .ref qf5, .ref qf6, .int v7, .int v8, .int v9, .int v10, .ref qf11, .int v12, .ref qf13]))]) [1] (by decide) rfl
    have hKc := hK.sub (tys' := []) [] rfl
    have hFc := va_free (wc := [(h0, .inr (3, [.ref qf0, .int v1, .int u3_1, .int u3_2, .ref qf4, .ref qf5, .ref qf6, .int v7, .int v8, .int v9, .int v10, .ref qf11, .int v12, .ref qf13]))]) hD hS hA [1] rfl
    refine va_callv (va_runV (As := [.int (u3_1 - 1)]) (rest := []) ⟨hx, hb, hml, hown, hts⟩ (ti_bad l dC dI H.size h0 ((u3_1 - 1)) qf0 v1 u3_1 u3_2 qf4 qf5 qf6 v7 v8 v9 v10 qf11 v12 qf13 nf u5_0 hu_5) (cwV 1 hts gv_h7_39 rfl rfl rfl (by decide +kernel) ⟨Nat.le_of_ble_eq_true rfl, Nat.le_of_ble_eq_true rfl⟩) ⟨fun a U g mk q => by obtain ⟨q0, q1, qP, qK, qD⟩ := q; exact ⟨q0, q1, qP, va_K.moved (u := U) (U := U.calling g mk a) (Vm.Alike.refl U.vm) qK, qD⟩, va_recv hKc hPc (ci := 3) (q0 := 0) rfl rfl, fun U hU hW => ⟨rfl, by rw [hU], by rw [hU]; exact hPc, va_K.moved hW.alike hKc, hDc.weaken (fun _ _ _ _ => trivial)⟩⟩ rfl rfl hl.1 rfl (lv_room (Nat.le_of_ble_eq_true rfl)) dX3_readMethod_49 ⟨Nat.le_of_ble_eq_true rfl, Nat.le_of_ble_eq_true rfl⟩) hS (fun q _ h => hFc q h) hFc ?_
    clear hS
    intro u t H1 locs ht hvm hw hB hz1 hk1 hS
    obtain ⟨⟩ := u
    obtain ⟨hP1, hK1, hD1⟩ := hB
    rw [ht] at hP1
    have hK1 := va_K.moved hvm.symm hK1
    try dsimp only at hw
    have hPD := va_join (wr := [(qf13, .inl (cf13, 144, .inl (upd (upd f13 ((a1 + 0) : Int32).toNatClampNeg u1_0) ((a1 + 1) : Int32).toNatClampNeg u2_0))), (qf4, .inl (cf4, 256, .inl f4)), (qf5, .inl (cf5, 256, .inl f5)), (qf0, .inl (cf0, nb, .inl f0)), (qf6, .inl (cf6, 256, .inl f6))]) (w1 := [(h0, .inr (3, [.ref qf0, .int v1, .int u3_1, .int u5_0, .ref qf4, .ref qf5, .ref qf6, .int v7, .int v8, .int v9, .int v10, .ref qf11, .int v12, .ref qf13]))]) hP hD [1] [0, 2, 3, 4, 5] rfl rfl (by decide) (by decide) hk1 hFc hP1 hD1
    clear hP hD
    obtain ⟨hP, hD⟩ := hPD
    replace hK := (hK.sub (tys' := [(cf13, .int), (cf4, .int), (cf5, .int), (cf0, .byte), (cf6, .int)]) [0, 1, 2, 3, 4] rfl).app hK1
    clear hPc hDc hKc hFc hP1 hK1 hD1 hz1 hk1 ht hvm
    generalize H1 = H at hP hS ⊢
    replace hP : va_P (dC, dI) vwCl [(qf13, .inl (cf13, 144, .inl (upd (upd f13 ((a1 + 0) : Int32).toNatClampNeg u1_0) ((a1 + 1) : Int32).toNatClampNeg u2_0))), (qf4, .inl (cf4, 256, .inl f4)), (qf5, .inl (cf5, 256, .inl f5)), (qf0, .inl (cf0, nb, .inl f0)), (qf6, .inl (cf6, 256, .inl f6)), (h0, .inr (3, [.ref qf0, .int v1, .int u3_1, .int u5_0, .ref qf4, .ref qf5, .ref qf6, .int v7, .int v8, .int v9, .int v10, .ref qf11, .int v12, .ref qf13]))] H := hP
    replace hD : va_D A [(qf13, .inl (cf13, 144, .inl (upd (upd f13 ((a1 + 0) : Int32).toNatClampNeg u1_0) ((a1 + 1) : Int32).toNatClampNeg u2_0))), (qf4, .inl (cf4, 256, .inl f4)), (qf5, .inl (cf5, 256, .inl f5)), (qf0, .inl (cf0, nb, .inl f0)), (qf6, .inl (cf6, 256, .inl f6)), (h0, .inr (3, [.ref qf0, .int v1, .int u3_1, .int u5_0, .ref qf4, .ref qf5, .ref qf6, .int v7, .int v8, .int v9, .int v10, .ref qf11, .int v12, .ref qf13]))] := hD
    replace hK : va_K (dC, dI) vwCl [(cf13, .int), (cf4, .int), (cf5, .int), (cf0, .byte), (cf6, .int)] s := hK
    exact hj_52 (H, locs, ls, a1, u3_0, u4_0, (upd (upd f13 ((a1 + 0) : Int32).toNatClampNeg u1_0) ((a1 + 1) : Int32).toNatClampNeg u2_0), u3_1, u5_0) ⟨lv_sub hl [2, 3, 1, 0] rfl, hS, hD.sub (ws' := [(h0, .inr (3, [.ref qf0, .int v1, .int u3_1, .int u5_0, .ref qf4, .ref qf5, .ref qf6, .int v7, .int v8, .int v9, .int v10, .ref qf11, .int v12, .ref qf13])), (qf0, .inl (cf0, nb, .inl f0)), (qf13, .inl (cf13, 144, .inl (upd (upd f13 ((a1 + 0) : Int32).toNatClampNeg u1_0) ((a1 + 1) : Int32).toNatClampNeg u2_0))), (qf4, .inl (cf4, 256, .inl f4)), (qf5, .inl (cf5, 256, .inl f5)), (qf6, .inl (cf6, 256, .inl f6))]) [5, 3, 0, 1, 2, 4] (by decide) rfl, hP.sub (ws' := [(h0, .inr (3, [.ref qf0, .int v1, .int u3_1, .int u5_0, .ref qf4, .ref qf5, .ref qf6, .int v7, .int v8, .int v9, .int v10, .ref qf11, .int v12, .ref qf13])), (qf0, .inl (cf0, nb, .inl f0)), (qf13, .inl (cf13, 144, .inl (upd (upd f13 ((a1 + 0) : Int32).toNatClampNeg u1_0) ((a1 + 1) : Int32).toNatClampNeg u2_0))), (qf4, .inl (cf4, 256, .inl f4)), (qf5, .inl (cf5, 256, .inl f5)), (qf6, .inl (cf6, 256, .inl f6))]) [5, 3, 0, 1, 2, 4] rfl, hsp⟩
def lp_v4_forget_10 (nf n : Nat) (f0 : Nat → Int32) (f1 : Nat → Int32)  (l1_10 : Int32) (g0_10 : Nat → Int32) (g1_10 : Nat → Int32) : Option ((Nat → Int32) × (Nat → Int32)) := match n with
  | 0 => none
  | n + 1 => (if 8 ≤ l1_10 then ((sp_t4_settle nf g1_10 g0_10).bind (fun p1 => (some (g0_10, p1)))) else (if l1_10 = 1 then (if l1_10 < 0 then none else if 16 ≤ (l1_10 : Int32).toNatClampNeg then none else (lp_v4_forget_10 nf n f0 f1 (l1_10 + 1) (upd g0_10 (l1_10 : Int32).toNatClampNeg 0) g1_10)) else (if l1_10 < 0 then none else if 16 ≤ (l1_10 : Int32).toNatClampNeg then none else (lp_v4_forget_10 nf n f0 f1 (l1_10 + 1) (upd g0_10 (l1_10 : Int32).toNatClampNeg 1) g1_10))))
def sp_v4_forget (nf : Nat) (f0 : Nat → Int32) (f1 : Nat → Int32) : Option ((Nat → Int32) × (Nat → Int32)) := ((sp_jd_fill nf (-1) 16 f0).bind (fun p1 => (lp_v4_forget_10 nf nf f0 f1  1 p1 f1)))
set_option maxHeartbeats 4000000 in
set_option maxRecDepth 100000 in
/-- ClassMill$Kin.forget -/
theorem v4_forget (l : Launch) (dC : Nat → ClassId) (dI : Nat → Nat → Nat) (sz : Nat) (h0 : Nat) (qf0 : Nat) (qf1 : Nat) (cf0 : ClassId) (f0 : (Nat → Int32)) (cf1 : ClassId) (f1 : (Nat → Int32)) (nf : Nat) (o0 : (Nat → Int32)) (o1 : (Nat → Int32)) (hsp : sp_v4_forget nf f0 f1 = some (o0, o1)) : Met l yX4_forget (.code yX4_forget cX4_forget 2 none :: VS_h7) ({ frames := 1, cells := 0, slots := 0, locals := 23 }) (va_Pc [.ref h0] (fun U => U.heap.size = sz ∧ va_P (dC, dI) vwCl [(h0, .inr (4, [.ref qf0, .ref qf1])), (qf0, .inl (cf0, 16, .inl f0)), (qf1, .inl (cf1, 256, .inl f1))] U.heap ∧ va_K (dC, dI) vwCl [(cf0, .int), (cf1, .boolean)] U ∧ va_D (fun _ => True) [(h0, .inr (4, [.ref qf0, .ref qf1])), (qf0, .inl (cf0, 16, .inl f0)), (qf1, .inl (cf1, 256, .inl f1))])) (va_Qv (fun (u : Unit) => match u with | () => True) (fun (u : Unit) (t : State) => match u with | () => va_P (dC, dI) vwCl [(h0, .inr (4, [.ref qf0, .ref qf1])), (qf0, .inl (cf0, 16, .inl o0)), (qf1, .inl (cf1, 256, .inl o1))] t.heap ∧ va_K (dC, dI) vwCl [(cf0, .int), (cf1, .boolean)] t ∧ va_D (va_A [(h0, .inr (4, [.ref qf0, .ref qf1])), (qf0, .inl (cf0, 16, .inl f0)), (qf1, .inl (cf1, 256, .inl f1))] sz) [(h0, .inr (4, [.ref qf0, .ref qf1])), (qf0, .inl (cf0, 16, .inl o0)), (qf1, .inl (cf1, 256, .inl o1))]) (va_A [(h0, .inr (4, [.ref qf0, .ref qf1])), (qf0, .inl (cf0, 16, .inl f0)), (qf1, .inl (cf1, 256, .inl f1))] sz)) 0 0 (va_A [(h0, .inr (4, [.ref qf0, .ref qf1])), (qf0, .inl (cf0, 16, .inl f0)), (qf1, .inl (cf1, 256, .inl f1))] sz) := by
  refine Met.ofW (cc := cX4_forget) (maxL := 2) (ret := none) (by decide) rfl ?_
  intro p e s m args below meth c s₁ B hml hv
  obtain ⟨rfl, hsz, hP, hK, hD0⟩ := hv
  have hx := B.exec
  have hb := B.bytes
  have hr := B.returns
  have hts := atoms_spec (ws := (.code yX4_forget cX4_forget 2 none :: VS_h7)) B.pre
  replace hts := fun w (h : w ∈ VS_h7) => hts w (List.mem_cons_of_mem _ h)
  have hown : s.vm.findClass RX4 = some m.cls := findClass_of_methodNamed B.named
  have hlocks := B.notSynchronized
  subst hsz
  have hD := hD0.self (sz := s.heap.size)
  generalize hAe : va_A [(h0, .inr (4, [.ref qf0, .ref qf1])), (qf0, .inl (cf0, 16, .inl f0)), (qf1, .inl (cf1, 256, .inl f1))] s.heap.size = A at hD  ⊢
  have hA : ∀ q : Nat, s.heap.size ≤ q → A q := fun q h => by rw [← hAe]; exact Or.inr h
  have hP : va_P (dC, dI) vwCl [(h0, .inr (4, [.ref qf0, .ref qf1])), (qf0, .inl (cf0, 16, .inl f0)), (qf1, .inl (cf1, 256, .inl f1))] s.heap := hP
  have hl := lv_entry ([.ref h0]) (n := 2) (Nat.le_of_ble_eq_true rfl)
  rw [lg_entry_eq]
  generalize (lg_sl ([.ref h0]) ++ List.replicate (2 - (lg_sl ([.ref h0])).length) Slot.unset).toArray = ls at hl ⊢
  have hl : lv_has ls 2 [(0, .ref h0)] := hl
  obtain ⟨H, hH⟩ : ∃ H : Heap, s.heap = H := ⟨_, rfl⟩
  rw [hH] at hP ⊢
  have hS : va_S A s.heap H [] := by rw [← hH]; exact va_S.rf
  obtain ⟨locs, hlo⟩ : ∃ locs : List Loc, locs = [] := ⟨_, rfl⟩
  rw [← hlo] at hS ⊢
  unfold sp_v4_forget at hsp
  refine lv_aload_n hx hb dX4_forget_0 rfl (lv_at hl 0 rfl) ?_
  refine va_get (D := (dC, dI)) (ci := 4) (v := .ref qf0) (C := RX4) (T := TX4) (N := 2) hx hb hts uV_h7_X4 hown hK hP 0 rfl rfl 0 (by decide) (hts (.fieldLink RX4 11 "ClassMill$Kin" "above" "[I") mw_h7_224) (fun _ h9 => h9) rfl dX4_forget_1 ?_
  refine lv_iconst (v := (-1)) hx hb dX4_forget_4 (by decide) ?_
  obtain ⟨g901_0, hu_1, hsp⟩ := ox_bind hsp
  try dsimp only at hsp
  have hPc := hP.sub (ws' := [(qf0, .inl (cf0, 16, .inl f0))]) [1] rfl
  have hDc := hD.sub (ws' := [(qf0, .inl (cf0, 16, .inl f0))]) [1] (by decide) rfl
  have hKc := hK.sub (tys' := [(cf0, .int)]) [0] rfl
  have hFc := va_free (wc := [(qf0, .inl (cf0, 16, .inl f0))]) hD hS hA [1] rfl
  refine va_callv (va_runS (As := [.ref qf0, .int (-1)]) (rest := []) ⟨hx, hb, hml, hown, hts⟩ (jd_fill l dC dI H.size qf0 (-1) cf0 16 f0 nf g901_0 hu_1) (va_cwS 2 hts gv_h7_45 rfl rfl rfl (by decide +kernel) ⟨Nat.le_of_ble_eq_true rfl, Nat.le_of_ble_eq_true rfl⟩) ⟨fun a U g mk q => by obtain ⟨q0, q1, qP, qK, qD⟩ := q; exact ⟨q0, q1, qP, va_K.moved (u := U) (U := U.calling g mk a) (Vm.Alike.refl U.vm) qK, qD⟩, fun U hU hW => ⟨rfl, by rw [hU], by rw [hU]; exact hPc, va_K.moved hW.alike hKc, hDc.weaken (fun _ _ _ _ => trivial)⟩⟩ rfl rfl hl.1 rfl (lv_room (Nat.le_of_ble_eq_true rfl)) dX4_forget_5 ⟨Nat.le_of_ble_eq_true rfl, Nat.le_of_ble_eq_true rfl⟩) hS (fun q _ h => hFc q h) hFc ?_
  clear hS
  intro u t H1 locs ht hvm hw hB hz1 hk1 hS
  obtain ⟨⟩ := u
  obtain ⟨hP1, hK1, hD1⟩ := hB
  rw [ht] at hP1
  have hK1 := va_K.moved hvm.symm hK1
  try dsimp only at hw
  have hPD := va_join (wr := [(h0, .inr (4, [.ref qf0, .ref qf1])), (qf1, .inl (cf1, 256, .inl f1))]) (w1 := [(qf0, .inl (cf0, 16, .inl g901_0))]) hP hD [1] [0, 2] rfl rfl (by decide) (by decide) hk1 hFc hP1 hD1
  clear hP hD
  obtain ⟨hP, hD⟩ := hPD
  replace hK := (hK.sub (tys' := [(cf1, .boolean)]) [1] rfl).app hK1
  clear hPc hDc hKc hFc hP1 hK1 hD1 hz1 hk1 ht hvm
  generalize H1 = H at hP hS ⊢
  replace hP : va_P (dC, dI) vwCl [(h0, .inr (4, [.ref qf0, .ref qf1])), (qf1, .inl (cf1, 256, .inl f1)), (qf0, .inl (cf0, 16, .inl g901_0))] H := hP
  replace hD : va_D A [(h0, .inr (4, [.ref qf0, .ref qf1])), (qf1, .inl (cf1, 256, .inl f1)), (qf0, .inl (cf0, 16, .inl g901_0))] := hD
  replace hK : va_K (dC, dI) vwCl [(cf1, .boolean), (cf0, .int)] s := hK
  refine lv_iconst (v := 1) hx hb dX4_forget_8 (by decide) ?_
  refine lv_istore_n (lv' := [(1, .int 1), (0, .ref h0)]) hx hb dX4_forget_9 rfl hl (by decide) rfl (fun ls hl => ?_)
  replace hl : lv_has ls 2 [(1, .int 1), (0, .ref h0)] := lv_sub hl [0, 1] rfl
  replace hP := hP.sub (ws' := [(h0, .inr (4, [.ref qf0, .ref qf1])), (qf0, .inl (cf0, 16, .inl g901_0)), (qf1, .inl (cf1, 256, .inl f1))]) [0, 2, 1] rfl
  replace hD := hD.sub (ws' := [(h0, .inr (4, [.ref qf0, .ref qf1])), (qf0, .inl (cf0, 16, .inl g901_0)), (qf1, .inl (cf1, 256, .inl f1))]) [0, 2, 1] (by decide) rfl
  replace hK := hK.sub (tys' := [(cf0, .int), (cf1, .boolean)]) [1, 0] rfl
  obtain ⟨n_10, hn_10⟩ : ∃ z : Nat, z = nf := ⟨_, rfl⟩
  obtain ⟨l1_10, el1_10⟩ : ∃ z : Int32, z = 1 := ⟨_, rfl⟩
  obtain ⟨g0_10, eg0_10⟩ : ∃ z : Nat → Int32, z = g901_0 := ⟨_, rfl⟩
  obtain ⟨g1_10, eg1_10⟩ : ∃ z : Nat → Int32, z = f1 := ⟨_, rfl⟩
  replace hsp : lp_v4_forget_10 nf n_10 f0 f1 l1_10 g0_10 g1_10 = some (o0, o1) := by rw [hn_10, el1_10, eg0_10, eg1_10]; exact hsp
  replace hl : lv_has ls 2 [(1, .int l1_10), (0, .ref h0)] := by rw [el1_10]; exact hl
  replace hP : va_P (dC, dI) vwCl [(h0, .inr (4, [.ref qf0, .ref qf1])), (qf0, .inl (cf0, 16, .inl g0_10)), (qf1, .inl (cf1, 256, .inl g1_10))] H := by rw [eg0_10, eg1_10]; exact hP
  replace hD : va_D A [(h0, .inr (4, [.ref qf0, .ref qf1])), (qf0, .inl (cf0, 16, .inl g0_10)), (qf1, .inl (cf1, 256, .inl g1_10))] := by rw [eg0_10, eg1_10]; exact hD
  clear hn_10 el1_10 eg0_10 eg1_10
  try clear hlo
  try clear hH
  revert hsp
  revert hP
  revert hD
  revert hS
  revert hl
  revert g1_10
  revert g0_10
  revert l1_10
  revert ls
  revert locs
  revert H
  induction n_10 with
  | zero => intro H locs ls l1_10 g0_10 g1_10  hl hS hD hP hsp; unfold lp_v4_forget_10 at hsp; cases hsp
  | succ n_10 ih_10 =>
    intro H locs ls l1_10 g0_10 g1_10  hl hS hD hP hsp
    unfold lp_v4_forget_10 at hsp
    try dsimp only at hsp
    refine lv_iload_n hx hb dX4_forget_10 rfl (lv_at hl 0 rfl) ?_
    refine lv_bipush (v := 8) hx hb dX4_forget_11 (by decide) ?_
    refine lv_icmp_ge (tgt := 38) hx hb dX4_forget_13 (by decide) (fun c_1 => ?_) (fun c_1 => ?_)
    · rw [if_pos c_1] at hsp
      refine lv_aload_n hx hb dX4_forget_38 rfl (lv_at hl 1 rfl) ?_
      obtain ⟨g902_0, hu_2, hsp⟩ := ox_bind hsp
      try dsimp only at hsp
      have hPc := hP.sub (ws' := [(h0, .inr (4, [.ref qf0, .ref qf1])), (qf1, .inl (cf1, 256, .inl g1_10)), (qf0, .inl (cf0, 16, .inl g0_10))]) [0, 2, 1] rfl
      have hDc := hD.sub (ws' := [(h0, .inr (4, [.ref qf0, .ref qf1])), (qf1, .inl (cf1, 256, .inl g1_10)), (qf0, .inl (cf0, 16, .inl g0_10))]) [0, 2, 1] (by decide) rfl
      have hKc := hK.sub (tys' := [(cf1, .boolean), (cf0, .int)]) [1, 0] rfl
      have hFc := va_free (wc := [(h0, .inr (4, [.ref qf0, .ref qf1])), (qf1, .inl (cf1, 256, .inl g1_10)), (qf0, .inl (cf0, 16, .inl g0_10))]) hD hS hA [0, 2, 1] rfl
      refine va_callv (va_runV (As := []) (rest := []) ⟨hx, hb, hml, hown, hts⟩ (t4_settle l dC dI H.size h0 qf0 qf1 cf1 g1_10 cf0 g0_10 nf g902_0 hu_2) (cwV 0 hts gv_h7_46 rfl rfl rfl (by decide +kernel) ⟨Nat.le_of_ble_eq_true rfl, Nat.le_of_ble_eq_true rfl⟩) ⟨fun a U g mk q => by obtain ⟨q0, q1, qP, qK, qD⟩ := q; exact ⟨q0, q1, qP, va_K.moved (u := U) (U := U.calling g mk a) (Vm.Alike.refl U.vm) qK, qD⟩, va_recv hKc hPc (ci := 4) (q0 := 0) rfl rfl, fun U hU hW => ⟨rfl, by rw [hU], by rw [hU]; exact hPc, va_K.moved hW.alike hKc, hDc.weaken (fun _ _ _ _ => trivial)⟩⟩ rfl rfl hl.1 rfl (lv_room (Nat.le_of_ble_eq_true rfl)) dX4_forget_39 ⟨Nat.le_of_ble_eq_true rfl, Nat.le_of_ble_eq_true rfl⟩) hS (fun q _ h => hFc q h) hFc ?_
      clear hS
      intro u t H1 locs ht hvm hw hB hz1 hk1 hS
      obtain ⟨⟩ := u
      obtain ⟨hP1, hK1, hD1⟩ := hB
      rw [ht] at hP1
      have hK1 := va_K.moved hvm.symm hK1
      try dsimp only at hw
      have hPD := va_join (wr := []) (w1 := [(h0, .inr (4, [.ref qf0, .ref qf1])), (qf1, .inl (cf1, 256, .inl g902_0)), (qf0, .inl (cf0, 16, .inl g0_10))]) hP hD [0, 2, 1] [] rfl rfl (by decide) (by decide) hk1 hFc hP1 hD1
      clear hP hD
      obtain ⟨hP, hD⟩ := hPD
      replace hK := (hK.sub (tys' := []) [] rfl).app hK1
      clear hPc hDc hKc hFc hP1 hK1 hD1 hz1 hk1 ht hvm
      generalize H1 = H at hP hS ⊢
      replace hP : va_P (dC, dI) vwCl [(h0, .inr (4, [.ref qf0, .ref qf1])), (qf1, .inl (cf1, 256, .inl g902_0)), (qf0, .inl (cf0, 16, .inl g0_10))] H := hP
      replace hD : va_D A [(h0, .inr (4, [.ref qf0, .ref qf1])), (qf1, .inl (cf1, 256, .inl g902_0)), (qf0, .inl (cf0, 16, .inl g0_10))] := hD
      replace hK : va_K (dC, dI) vwCl [(cf1, .boolean), (cf0, .int)] s := hK
      have hr0 := Option.some.inj hsp
      clear hsp
      obtain ⟨hq0, hr1⟩ := Prod.mk.inj hr0
      clear hr0
      subst hq0
      subst hr1
      have hP9 := hP.sub (ws' := [(h0, .inr (4, [.ref qf0, .ref qf1])), (qf0, .inl (cf0, 16, .inl g0_10)), (qf1, .inl (cf1, 256, .inl g902_0))]) [0, 2, 1] rfl
      have hD9 := hD.sub (ws' := [(h0, .inr (4, [.ref qf0, .ref qf1])), (qf0, .inl (cf0, 16, .inl g0_10)), (qf1, .inl (cf1, 256, .inl g902_0))]) [0, 2, 1] (by decide) rfl
      have hK9 := hK.sub (tys' := [(cf0, .int), (cf1, .boolean)]) [1, 0] rfl
      exact W.vret hx hb hr (fun t ht hW => ⟨⟨(), rfl, trivial, by rw [ht]; exact hP9, va_K.moved hW.alike hK9, hD9⟩, hS.F ht⟩) hS.2.2 dX4_forget_42
    · rw [if_neg c_1] at hsp
      refine lv_aload_n hx hb dX4_forget_16 rfl (lv_at hl 1 rfl) ?_
      refine va_get (D := (dC, dI)) (ci := 4) (v := .ref qf0) (C := RX4) (T := TX4) (N := 2) hx hb hts uV_h7_X4 hown hK hP 0 rfl rfl 0 (by decide) (hts (.fieldLink RX4 11 "ClassMill$Kin" "above" "[I") mw_h7_224) (fun _ h9 => h9) rfl dX4_forget_17 ?_
      refine lv_iload_n hx hb dX4_forget_20 rfl (lv_at hl 0 rfl) ?_
      refine lv_iload_n hx hb dX4_forget_21 rfl (lv_at hl 0 rfl) ?_
      refine lv_iconst (v := 1) hx hb dX4_forget_22 (by decide) ?_
      refine lv_icmp_ne (tgt := 30) hx hb dX4_forget_23 (by decide) (fun c_2 => ?_) (fun c_2 => ?_)
      · rw [if_neg c_2] at hsp
        refine lv_iconst (v := 1) hx hb dX4_forget_30 (by decide) ?_
        obtain ⟨hi_3, hsp⟩ := ox_in hsp
        refine va_iast hx hb hK hP hD hS 1 0 rfl rfl (i := l1_10) (x := 1) hi_3 dX4_forget_31 ?_
        clear hP hD hS
        intro H locs hP hD hS
        replace hP : va_P (dC, dI) vwCl [(h0, .inr (4, [.ref qf0, .ref qf1])), (qf0, .inl (cf0, 16, .inl (upd g0_10 (l1_10 : Int32).toNatClampNeg 1))), (qf1, .inl (cf1, 256, .inl g1_10))] H := hP
        replace hD : va_D A [(h0, .inr (4, [.ref qf0, .ref qf1])), (qf0, .inl (cf0, 16, .inl (upd g0_10 (l1_10 : Int32).toNatClampNeg 1))), (qf1, .inl (cf1, 256, .inl g1_10))] := hD
        refine lv_iinc (v := (l1_10 + 1)) (lv' := [(1, .int (l1_10 + 1)), (0, .ref h0)]) hx hb dX4_forget_32 hl (k := 0) rfl rfl (by decide) rfl (fun ls hl => ?_)
        refine lv_goto (tgt := 10) hx hb dX4_forget_35 (by decide) ?_
        exact ih_10 H locs ls (l1_10 + 1) (upd g0_10 (l1_10 : Int32).toNatClampNeg 1) g1_10 (lv_sub hl [0, 1] rfl) hS (hD.sub (ws' := [(h0, .inr (4, [.ref qf0, .ref qf1])), (qf0, .inl (cf0, 16, .inl (upd g0_10 (l1_10 : Int32).toNatClampNeg 1))), (qf1, .inl (cf1, 256, .inl g1_10))]) [0, 1, 2] (by decide) rfl) (hP.sub (ws' := [(h0, .inr (4, [.ref qf0, .ref qf1])), (qf0, .inl (cf0, 16, .inl (upd g0_10 (l1_10 : Int32).toNatClampNeg 1))), (qf1, .inl (cf1, 256, .inl g1_10))]) [0, 1, 2] rfl) hsp
      · rw [if_pos c_2] at hsp
        refine lv_iconst (v := 0) hx hb dX4_forget_26 (by decide) ?_
        refine lv_goto (tgt := 31) hx hb dX4_forget_27 (by decide) ?_
        obtain ⟨hi_4, hsp⟩ := ox_in hsp
        refine va_iast hx hb hK hP hD hS 1 0 rfl rfl (i := l1_10) (x := 0) hi_4 dX4_forget_31 ?_
        clear hP hD hS
        intro H locs hP hD hS
        replace hP : va_P (dC, dI) vwCl [(h0, .inr (4, [.ref qf0, .ref qf1])), (qf0, .inl (cf0, 16, .inl (upd g0_10 (l1_10 : Int32).toNatClampNeg 0))), (qf1, .inl (cf1, 256, .inl g1_10))] H := hP
        replace hD : va_D A [(h0, .inr (4, [.ref qf0, .ref qf1])), (qf0, .inl (cf0, 16, .inl (upd g0_10 (l1_10 : Int32).toNatClampNeg 0))), (qf1, .inl (cf1, 256, .inl g1_10))] := hD
        refine lv_iinc (v := (l1_10 + 1)) (lv' := [(1, .int (l1_10 + 1)), (0, .ref h0)]) hx hb dX4_forget_32 hl (k := 0) rfl rfl (by decide) rfl (fun ls hl => ?_)
        refine lv_goto (tgt := 10) hx hb dX4_forget_35 (by decide) ?_
        exact ih_10 H locs ls (l1_10 + 1) (upd g0_10 (l1_10 : Int32).toNatClampNeg 0) g1_10 (lv_sub hl [0, 1] rfl) hS (hD.sub (ws' := [(h0, .inr (4, [.ref qf0, .ref qf1])), (qf0, .inl (cf0, 16, .inl (upd g0_10 (l1_10 : Int32).toNatClampNeg 0))), (qf1, .inl (cf1, 256, .inl g1_10))]) [0, 1, 2] (by decide) rfl) (hP.sub (ws' := [(h0, .inr (4, [.ref qf0, .ref qf1])), (qf0, .inl (cf0, 16, .inl (upd g0_10 (l1_10 : Int32).toNatClampNeg 0))), (qf1, .inl (cf1, 256, .inl g1_10))]) [0, 1, 2] rfl) hsp
def sp_v5_computed (nf : Nat) (a1 : Int32) (a2 : Int32) (a3 : Int32) : Option (Int32) := (if a1 = 96 then (some (a2 + a3)) else (if a1 = 97 then (some (a2 ^^^ a3)) else (if a1 = 98 then (some (a2 ^^^ a3)) else (if a1 = 99 then (some (a2 ^^^ a3)) else (if a1 = 100 then (some (a2 - a3)) else (if a1 = 101 then (some (a2 ^^^ a3)) else (if a1 = 102 then (some (a2 ^^^ a3)) else (if a1 = 103 then (some (a2 ^^^ a3)) else (if a1 = 104 then (some (a2 * a3)) else (if a1 = 105 then (some (a2 ^^^ a3)) else (if a1 = 106 then (some (a2 ^^^ a3)) else (if a1 = 107 then (some (a2 ^^^ a3)) else (if a1 = 108 then (if a3 = 0 then (some 0) else (if a3 = 0 then none else (some (a2 / a3)))) else (if a1 = 109 then (some (a2 ^^^ a3)) else (if a1 = 110 then (some (a2 ^^^ a3)) else (if a1 = 111 then (some (a2 ^^^ a3)) else (if a1 = 112 then (if a3 = 0 then (some 0) else (if a3 = 0 then none else (some (a2 - a2 / a3 * a3)))) else (if a1 = 113 then (some (a2 ^^^ a3)) else (if a1 = 114 then (some (a2 ^^^ a3)) else (if a1 = 115 then (some (a2 ^^^ a3)) else (if a1 = 116 then (some (a2 ^^^ a3)) else (if a1 = 117 then (some (a2 ^^^ a3)) else (if a1 = 118 then (some (a2 ^^^ a3)) else (if a1 = 119 then (some (a2 ^^^ a3)) else (if a1 = 120 then (some (a2 <<< (a3 &&& 31))) else (if a1 = 121 then (some (a2 ^^^ a3)) else (if a1 = 122 then (some (a2 >>> (a3 &&& 31))) else (if a1 = 123 then (some (a2 ^^^ a3)) else (if a1 = 124 then (some ((a2 : Int32).toUInt32 >>> ((a3 : Int32).toUInt32 &&& Int32.toUInt32 31)).toInt32) else (if a1 = 125 then (some (a2 ^^^ a3)) else (if a1 = 126 then (some (a2 &&& a3)) else (if a1 = 127 then (some (a2 ^^^ a3)) else (if a1 = 128 then (some (a2 ||| a3)) else (some (a2 ^^^ a3)))))))))))))))))))))))))))))))))))
