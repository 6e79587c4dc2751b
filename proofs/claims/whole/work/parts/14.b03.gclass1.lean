set_option maxHeartbeats 4000000 in
set_option maxRecDepth 100000 in
/-- ClassMill$Image.readCode -/
theorem t3_readCode (l : Launch) (dC : Nat → ClassId) (dI : Nat → Nat → Nat) (sz : Nat) (h0 : Nat) (a1 : Int32) (qf0 : Nat) (v1 : Int32) (v2 : Int32) (v3 : Int32) (qf4 : Nat) (qf5 : Nat) (qf6 : Nat) (v7 : Int32) (v8 : Int32) (v9 : Int32) (v10 : Int32) (qf11 : Nat) (v12 : Int32) (qf13 : Nat) (cf0 : ClassId) (nb : Nat) (f0 : (Nat → Int32)) (cf13 : ClassId) (f13 : (Nat → Int32)) (nf : Nat) (o13 : (Nat → Int32)) (w2 : Int32) (w3 : Int32) (hsp : sp_t3_readCode nf a1 v1 v2 v3 nb f0 f13 = some (o13, w2, w3)) : Met l yX3_readCode (.code yX3_readCode cX3_readCode 5 none :: VS_h3) ({ frames := 1, cells := 0, slots := 0, locals := 21 }) (va_Pc [.ref h0, .int a1] (fun U => U.heap.size = sz ∧ va_P (dC, dI) vwCl [(h0, .inr (3, [.ref qf0, .int v1, .int v2, .int v3, .ref qf4, .ref qf5, .ref qf6, .int v7, .int v8, .int v9, .int v10, .ref qf11, .int v12, .ref qf13])), (qf0, .inl (cf0, nb, .inl f0)), (qf13, .inl (cf13, 144, .inl f13))] U.heap ∧ va_K (dC, dI) vwCl [(cf0, .byte), (cf13, .int)] U ∧ va_D (fun _ => True) [(h0, .inr (3, [.ref qf0, .int v1, .int v2, .int v3, .ref qf4, .ref qf5, .ref qf6, .int v7, .int v8, .int v9, .int v10, .ref qf11, .int v12, .ref qf13])), (qf0, .inl (cf0, nb, .inl f0)), (qf13, .inl (cf13, 144, .inl f13))])) (va_Qv (fun (u : Unit) => match u with | () => True) (fun (u : Unit) (t : State) => match u with | () => va_P (dC, dI) vwCl [(h0, .inr (3, [.ref qf0, .int v1, .int w2, .int w3, .ref qf4, .ref qf5, .ref qf6, .int v7, .int v8, .int v9, .int v10, .ref qf11, .int v12, .ref qf13])), (qf0, .inl (cf0, nb, .inl f0)), (qf13, .inl (cf13, 144, .inl o13))] t.heap ∧ va_K (dC, dI) vwCl [(cf0, .byte), (cf13, .int)] t ∧ va_D (va_A [(h0, .inr (3, [.ref qf0, .int v1, .int v2, .int v3, .ref qf4, .ref qf5, .ref qf6, .int v7, .int v8, .int v9, .int v10, .ref qf11, .int v12, .ref qf13])), (qf0, .inl (cf0, nb, .inl f0)), (qf13, .inl (cf13, 144, .inl f13))] sz) [(h0, .inr (3, [.ref qf0, .int v1, .int w2, .int w3, .ref qf4, .ref qf5, .ref qf6, .int v7, .int v8, .int v9, .int v10, .ref qf11, .int v12, .ref qf13])), (qf0, .inl (cf0, nb, .inl f0)), (qf13, .inl (cf13, 144, .inl o13))]) (va_A [(h0, .inr (3, [.ref qf0, .int v1, .int v2, .int v3, .ref qf4, .ref qf5, .ref qf6, .int v7, .int v8, .int v9, .int v10, .ref qf11, .int v12, .ref qf13])), (qf0, .inl (cf0, nb, .inl f0)), (qf13, .inl (cf13, 144, .inl f13))] sz)) 0 0 (va_A [(h0, .inr (3, [.ref qf0, .int v1, .int v2, .int v3, .ref qf4, .ref qf5, .ref qf6, .int v7, .int v8, .int v9, .int v10, .ref qf11, .int v12, .ref qf13])), (qf0, .inl (cf0, nb, .inl f0)), (qf13, .inl (cf13, 144, .inl f13))] sz) := by
  refine Met.ofW (cc := cX3_readCode) (maxL := 5) (ret := none) (by decide) rfl ?_
  intro p e s m args below meth c s₁ B hml hv
  obtain ⟨rfl, hsz, hP, hK, hD0⟩ := hv
  have hx := B.exec
  have hb := B.bytes
  have hr := B.returns
  have hts := atoms_spec (ws := (.code yX3_readCode cX3_readCode 5 none :: VS_h3)) B.pre
  replace hts := fun w (h : w ∈ VS_h3) => hts w (List.mem_cons_of_mem _ h)
  have hown : s.vm.findClass RX3 = some m.cls := findClass_of_methodNamed B.named
  have hlocks := B.notSynchronized
  subst hsz
  have hD := hD0.self (sz := s.heap.size)
  generalize hAe : va_A [(h0, .inr (3, [.ref qf0, .int v1, .int v2, .int v3, .ref qf4, .ref qf5, .ref qf6, .int v7, .int v8, .int v9, .int v10, .ref qf11, .int v12, .ref qf13])), (qf0, .inl (cf0, nb, .inl f0)), (qf13, .inl (cf13, 144, .inl f13))] s.heap.size = A at hD  ⊢
  have hA : ∀ q : Nat, s.heap.size ≤ q → A q := fun q h => by rw [← hAe]; exact Or.inr h
  have hP : va_P (dC, dI) vwCl [(h0, .inr (3, [.ref qf0, .int v1, .int v2, .int v3, .ref qf4, .ref qf5, .ref qf6, .int v7, .int v8, .int v9, .int v10, .ref qf11, .int v12, .ref qf13])), (qf0, .inl (cf0, nb, .inl f0)), (qf13, .inl (cf13, 144, .inl f13))] s.heap := hP
  have hl := lv_entry ([.ref h0, .int a1]) (n := 5) (Nat.le_of_ble_eq_true rfl)
  rw [lg_entry_eq]
  generalize (lg_sl ([.ref h0, .int a1]) ++ List.replicate (5 - (lg_sl ([.ref h0, .int a1])).length) Slot.unset).toArray = ls at hl ⊢
  have hl : lv_has ls 5 [(0, .ref h0), (1, .int a1)] := hl
  obtain ⟨H, hH⟩ : ∃ H : Heap, s.heap = H := ⟨_, rfl⟩
  rw [hH] at hP ⊢
  have hS : va_S A s.heap H [] := by rw [← hH]; exact va_S.rf
  obtain ⟨locs, hlo⟩ : ∃ locs : List Loc, locs = [] := ⟨_, rfl⟩
  rw [← hlo] at hS ⊢
  unfold sp_t3_readCode at hsp
  refine lv_aload_n hx hb dX3_readCode_0 rfl (lv_at hl 0 rfl) ?_
  refine va_get (D := (dC, dI)) (ci := 3) (v := .int v2) (C := RX3) (T := TX3) (N := 14) hx hb hts uV_h3_X3 hown hK hP 0 rfl rfl 2 (by decide) (hts (.fieldLink RX3 43 "ClassMill$Image" "pos" "I") mw_h3_47) (fun _ h9 => h9) rfl dX3_readCode_1 ?_
  refine lv_istore_n (lv' := [(2, .int v2), (0, .ref h0), (1, .int a1)]) hx hb dX3_readCode_4 rfl hl (by decide) rfl (fun ls hl => ?_)
  refine lv_aload_n hx hb dX3_readCode_5 rfl (lv_at hl 1 rfl) ?_
  obtain ⟨⟨u1_0, u1_1, u1_2⟩, hu_1, hsp⟩ := ox_bind hsp
  try dsimp only at hsp
  have hPc := hP.sub (ws' := [(h0, .inr (3, [.ref qf0, .int v1, .int v2, .int v3, .ref qf4, .ref qf5, .ref qf6, .int v7, .int v8, .int v9, .int v10, .ref qf11, .int v12, .ref qf13])), (qf0, .inl (cf0, nb, .inl f0))]) [0, 1] rfl
  have hDc := hD.sub (ws' := [(h0, .inr (3, [.ref qf0, .int v1, .int v2, .int v3, .ref qf4, .ref qf5, .ref qf6, .int v7, .int v8, .int v9, .int v10, .ref qf11, .int v12, .ref qf13])), (qf0, .inl (cf0, nb, .inl f0))]) [0, 1] (by decide) rfl
  have hKc := hK.sub (tys' := [(cf0, .byte)]) [0] rfl
  have hFc := va_free (wc := [(h0, .inr (3, [.ref qf0, .int v1, .int v2, .int v3, .ref qf4, .ref qf5, .ref qf6, .int v7, .int v8, .int v9, .int v10, .ref qf11, .int v12, .ref qf13])), (qf0, .inl (cf0, nb, .inl f0))]) hD hS hA [0, 1] rfl
  refine va_calli (va_runV (As := []) (rest := []) ⟨hx, hb, hml, hown, hts⟩ (ti_next l dC dI H.size h0 qf0 v1 v2 v3 qf4 qf5 qf6 v7 v8 v9 v10 qf11 v12 qf13 cf0 nb f0 nf u1_0 u1_1 u1_2 hu_1) (cwV 0 hts gv_h3_2 rfl rfl rfl (by decide +kernel) ⟨Nat.le_of_ble_eq_true rfl, Nat.le_of_ble_eq_true rfl⟩) ⟨fun a U g mk q => by obtain ⟨q0, q1, qP, qK, qD⟩ := q; exact ⟨q0, q1, qP, va_K.moved (u := U) (U := U.calling g mk a) (Vm.Alike.refl U.vm) qK, qD⟩, va_recv hKc hPc (ci := 3) (q0 := 0) rfl rfl, fun U hU hW => ⟨rfl, by rw [hU], by rw [hU]; exact hPc, va_K.moved hW.alike hKc, hDc.weaken (fun _ _ _ _ => trivial)⟩⟩ rfl rfl hl.1 rfl (lv_room (Nat.le_of_ble_eq_true rfl)) dX3_readCode_6 ⟨Nat.le_of_ble_eq_true rfl, Nat.le_of_ble_eq_true rfl⟩) hS (fun q _ h => hFc q h) hFc ?_
  clear hS
  intro r_1 u t H1 locs ht hvm hw hB hz1 hk1 hS
  obtain ⟨⟩ := u
  obtain ⟨hP1, hK1, hD1⟩ := hB
  rw [ht] at hP1
  have hK1 := va_K.moved hvm.symm hK1
  try dsimp only at hw
  have hPD := va_join (wr := [(qf13, .inl (cf13, 144, .inl f13))]) (w1 := [(h0, .inr (3, [.ref qf0, .int v1, .int u1_1, .int u1_2, .ref qf4, .ref qf5, .ref qf6, .int v7, .int v8, .int v9, .int v10, .ref qf11, .int v12, .ref qf13])), (qf0, .inl (cf0, nb, .inl f0))]) hP hD [0, 1] [2] rfl rfl (by decide) (by decide) hk1 hFc hP1 hD1
  clear hP hD
  obtain ⟨hP, hD⟩ := hPD
  replace hK := (hK.sub (tys' := [(cf13, .int)]) [1] rfl).app hK1
  clear hPc hDc hKc hFc hP1 hK1 hD1 hz1 hk1 ht hvm
  generalize H1 = H at hP hS ⊢
  replace hP : va_P (dC, dI) vwCl [(qf13, .inl (cf13, 144, .inl f13)), (h0, .inr (3, [.ref qf0, .int v1, .int u1_1, .int u1_2, .ref qf4, .ref qf5, .ref qf6, .int v7, .int v8, .int v9, .int v10, .ref qf11, .int v12, .ref qf13])), (qf0, .inl (cf0, nb, .inl f0))] H := hP
  replace hD : va_D A [(qf13, .inl (cf13, 144, .inl f13)), (h0, .inr (3, [.ref qf0, .int v1, .int u1_1, .int u1_2, .ref qf4, .ref qf5, .ref qf6, .int v7, .int v8, .int v9, .int v10, .ref qf11, .int v12, .ref qf13])), (qf0, .inl (cf0, nb, .inl f0))] := hD
  replace hK : va_K (dC, dI) vwCl [(cf13, .int), (cf0, .byte)] s := hK
  obtain rfl := hw
  refine lv_istore_n (lv' := [(3, .int u1_0), (2, .int v2), (0, .ref h0), (1, .int a1)]) hx hb dX3_readCode_9 rfl hl (by decide) rfl (fun ls hl => ?_)
  refine lv_iload_n hx hb dX3_readCode_10 rfl (lv_at hl 0 rfl) ?_
  refine lv_bipush (v := 8) hx hb dX3_readCode_11 (by decide) ?_
  refine lv_ishl hx hb dX3_readCode_13 ?_
  refine lv_aload_n hx hb dX3_readCode_14 rfl (lv_at hl 2 rfl) ?_
  obtain ⟨⟨u2_0, u2_1, u2_2⟩, hu_2, hsp⟩ := ox_bind hsp
  try dsimp only at hsp
  have hPc := hP.sub (ws' := [(h0, .inr (3, [.ref qf0, .int v1, .int u1_1, .int u1_2, .ref qf4, .ref qf5, .ref qf6, .int v7, .int v8, .int v9, .int v10, .ref qf11, .int v12, .ref qf13])), (qf0, .inl (cf0, nb, .inl f0))]) [1, 2] rfl
  have hDc := hD.sub (ws' := [(h0, .inr (3, [.ref qf0, .int v1, .int u1_1, .int u1_2, .ref qf4, .ref qf5, .ref qf6, .int v7, .int v8, .int v9, .int v10, .ref qf11, .int v12, .ref qf13])), (qf0, .inl (cf0, nb, .inl f0))]) [1, 2] (by decide) rfl
  have hKc := hK.sub (tys' := [(cf0, .byte)]) [1] rfl
  have hFc := va_free (wc := [(h0, .inr (3, [.ref qf0, .int v1, .int u1_1, .int u1_2, .ref qf4, .ref qf5, .ref qf6, .int v7, .int v8, .int v9, .int v10, .ref qf11, .int v12, .ref qf13])), (qf0, .inl (cf0, nb, .inl f0))]) hD hS hA [1, 2] rfl
  refine va_calli (va_runV (As := []) (rest := [.int (u1_0 <<< (8 &&& 31))]) ⟨hx, hb, hml, hown, hts⟩ (ti_next l dC dI H.size h0 qf0 v1 u1_1 u1_2 qf4 qf5 qf6 v7 v8 v9 v10 qf11 v12 qf13 cf0 nb f0 nf u2_0 u2_1 u2_2 hu_2) (cwV 0 hts gv_h3_2 rfl rfl rfl (by decide +kernel) ⟨Nat.le_of_ble_eq_true rfl, Nat.le_of_ble_eq_true rfl⟩) ⟨fun a U g mk q => by obtain ⟨q0, q1, qP, qK, qD⟩ := q; exact ⟨q0, q1, qP, va_K.moved (u := U) (U := U.calling g mk a) (Vm.Alike.refl U.vm) qK, qD⟩, va_recv hKc hPc (ci := 3) (q0 := 0) rfl rfl, fun U hU hW => ⟨rfl, by rw [hU], by rw [hU]; exact hPc, va_K.moved hW.alike hKc, hDc.weaken (fun _ _ _ _ => trivial)⟩⟩ rfl rfl hl.1 rfl (lv_room (Nat.le_of_ble_eq_true rfl)) dX3_readCode_15 ⟨Nat.le_of_ble_eq_true rfl, Nat.le_of_ble_eq_true rfl⟩) hS (fun q _ h => hFc q h) hFc ?_
  clear hS
  intro r_2 u t H1 locs ht hvm hw hB hz1 hk1 hS
  obtain ⟨⟩ := u
  obtain ⟨hP1, hK1, hD1⟩ := hB
  rw [ht] at hP1
  have hK1 := va_K.moved hvm.symm hK1
  try dsimp only at hw
  have hPD := va_join (wr := [(qf13, .inl (cf13, 144, .inl f13))]) (w1 := [(h0, .inr (3, [.ref qf0, .int v1, .int u2_1, .int u2_2, .ref qf4, .ref qf5, .ref qf6, .int v7, .int v8, .int v9, .int v10, .ref qf11, .int v12, .ref qf13])), (qf0, .inl (cf0, nb, .inl f0))]) hP hD [1, 2] [0] rfl rfl (by decide) (by decide) hk1 hFc hP1 hD1
  clear hP hD
  obtain ⟨hP, hD⟩ := hPD
  replace hK := (hK.sub (tys' := [(cf13, .int)]) [0] rfl).app hK1
  clear hPc hDc hKc hFc hP1 hK1 hD1 hz1 hk1 ht hvm
  generalize H1 = H at hP hS ⊢
  replace hP : va_P (dC, dI) vwCl [(qf13, .inl (cf13, 144, .inl f13)), (h0, .inr (3, [.ref qf0, .int v1, .int u2_1, .int u2_2, .ref qf4, .ref qf5, .ref qf6, .int v7, .int v8, .int v9, .int v10, .ref qf11, .int v12, .ref qf13])), (qf0, .inl (cf0, nb, .inl f0))] H := hP
  replace hD : va_D A [(qf13, .inl (cf13, 144, .inl f13)), (h0, .inr (3, [.ref qf0, .int v1, .int u2_1, .int u2_2, .ref qf4, .ref qf5, .ref qf6, .int v7, .int v8, .int v9, .int v10, .ref qf11, .int v12, .ref qf13])), (qf0, .inl (cf0, nb, .inl f0))] := hD
  replace hK : va_K (dC, dI) vwCl [(cf13, .int), (cf0, .byte)] s := hK
  obtain rfl := hw
  refine lv_ior hx hb dX3_readCode_18 ?_
  refine lv_istore (lv' := [(4, .int ((u1_0 <<< (8 &&& 31)) ||| u2_0)), (3, .int u1_0), (2, .int v2), (0, .ref h0), (1, .int a1)]) hx hb dX3_readCode_19 hl (by decide) rfl (fun ls hl => ?_)
  refine lv_iload hx hb dX3_readCode_21 (lv_at hl 0 rfl) ?_
  refine lv_iconst (v := 1) hx hb dX3_readCode_23 (by decide) ?_
  refine lv_icmp_lt (tgt := 35) hx hb dX3_readCode_24 (by decide) (fun c_3 => ?_) (fun c_3 => ?_)
  · rw [if_pos c_3] at hsp
    refine lv_aload_n hx hb dX3_readCode_35 rfl (lv_at hl 3 rfl) ?_
    refine lv_iload_n hx hb dX3_readCode_36 rfl (lv_at hl 2 rfl) ?_
    obtain ⟨u3_0, hu_3, hsp⟩ := ox_bind hsp
    try dsimp only at hsp
    have hPc := hP.sub (ws' := [(h0, .inr (3, [.ref qf0, .int v1, .int u2_1, .int u2_2, .ref qf4, .ref qf5, .ref qf6, .int v7, .int v8, .int v9, .int v10, .ref qf11, .int v12, .ref qf13]))]) [1] rfl
    have hDc := hD.sub (ws' := [(h0, .inr (3, [.ref qf0, .int v1, .int u2_1, .int u2_2, .ref qf4, .ref qf5, .ref qf6, .int v7, .int v8, .int v9, .int v10, .ref qf11, .int v12, .ref qf13]))]) [1] (by decide) rfl
    have hKc := hK.sub (tys' := []) [] rfl
    have hFc := va_free (wc := [(h0, .inr (3, [.ref qf0, .int v1, .int u2_1, .int u2_2, .ref qf4, .ref qf5, .ref qf6, .int v7, .int v8, .int v9, .int v10, .ref qf11, .int v12, .ref qf13]))]) hD hS hA [1] rfl
    refine va_callv (va_runV (As := [.int v2]) (rest := []) ⟨hx, hb, hml, hown, hts⟩ (ti_bad l dC dI H.size h0 v2 qf0 v1 u2_1 u2_2 qf4 qf5 qf6 v7 v8 v9 v10 qf11 v12 qf13 nf u3_0 hu_3) (cwV 1 hts gv_h3_9 rfl rfl rfl (by decide +kernel) ⟨Nat.le_of_ble_eq_true rfl, Nat.le_of_ble_eq_true rfl⟩) ⟨fun a U g mk q => by obtain ⟨q0, q1, qP, qK, qD⟩ := q; exact ⟨q0, q1, qP, va_K.moved (u := U) (U := U.calling g mk a) (Vm.Alike.refl U.vm) qK, qD⟩, va_recv hKc hPc (ci := 3) (q0 := 0) rfl rfl, fun U hU hW => ⟨rfl, by rw [hU], by rw [hU]; exact hPc, va_K.moved hW.alike hKc, hDc.weaken (fun _ _ _ _ => trivial)⟩⟩ rfl rfl hl.1 rfl (lv_room (Nat.le_of_ble_eq_true rfl)) dX3_readCode_37 ⟨Nat.le_of_ble_eq_true rfl, Nat.le_of_ble_eq_true rfl⟩) hS (fun q _ h => hFc q h) hFc ?_
    clear hS
    intro u t H1 locs ht hvm hw hB hz1 hk1 hS
    obtain ⟨⟩ := u
    obtain ⟨hP1, hK1, hD1⟩ := hB
    rw [ht] at hP1
    have hK1 := va_K.moved hvm.symm hK1
    try dsimp only at hw
    have hPD := va_join (wr := [(qf13, .inl (cf13, 144, .inl f13)), (qf0, .inl (cf0, nb, .inl f0))]) (w1 := [(h0, .inr (3, [.ref qf0, .int v1, .int u2_1, .int u3_0, .ref qf4, .ref qf5, .ref qf6, .int v7, .int v8, .int v9, .int v10, .ref qf11, .int v12, .ref qf13]))]) hP hD [1] [0, 2] rfl rfl (by decide) (by decide) hk1 hFc hP1 hD1
    clear hP hD
    obtain ⟨hP, hD⟩ := hPD
    replace hK := (hK.sub (tys' := [(cf13, .int), (cf0, .byte)]) [0, 1] rfl).app hK1
    clear hPc hDc hKc hFc hP1 hK1 hD1 hz1 hk1 ht hvm
    generalize H1 = H at hP hS ⊢
    replace hP : va_P (dC, dI) vwCl [(qf13, .inl (cf13, 144, .inl f13)), (qf0, .inl (cf0, nb, .inl f0)), (h0, .inr (3, [.ref qf0, .int v1, .int u2_1, .int u3_0, .ref qf4, .ref qf5, .ref qf6, .int v7, .int v8, .int v9, .int v10, .ref qf11, .int v12, .ref qf13]))] H := hP
    replace hD : va_D A [(qf13, .inl (cf13, 144, .inl f13)), (qf0, .inl (cf0, nb, .inl f0)), (h0, .inr (3, [.ref qf0, .int v1, .int u2_1, .int u3_0, .ref qf4, .ref qf5, .ref qf6, .int v7, .int v8, .int v9, .int v10, .ref qf11, .int v12, .ref qf13]))] := hD
    replace hK : va_K (dC, dI) vwCl [(cf13, .int), (cf0, .byte)] s := hK
    refine lv_aload_n hx hb dX3_readCode_40 rfl (lv_at hl 3 rfl) ?_
    refine va_get (D := (dC, dI)) (ci := 3) (v := .ref qf13) (C := RX3) (T := TX3) (N := 14) hx hb hts uV_h3_X3 hown hK hP 2 rfl rfl 13 (by decide) (hts (.fieldLink RX3 30 "ClassMill$Image" "method" "[I") mw_h3_52) (fun _ h9 => h9) rfl dX3_readCode_41 ?_
    refine lv_iload_n hx hb dX3_readCode_44 rfl (lv_at hl 4 rfl) ?_
    refine lv_iconst (v := 5) hx hb dX3_readCode_45 (by decide) ?_
    refine lv_iadd hx hb dX3_readCode_46 ?_
    refine lv_iload hx hb dX3_readCode_47 (lv_at hl 0 rfl) ?_
    obtain ⟨hi_4, hsp⟩ := ox_in hsp
    refine va_iast hx hb hK hP hD hS 0 0 rfl rfl (i := (a1 + 5)) (x := ((u1_0 <<< (8 &&& 31)) ||| u2_0)) hi_4 dX3_readCode_49 ?_
    clear hP hD hS
    intro H locs hP hD hS
    replace hP : va_P (dC, dI) vwCl [(qf13, .inl (cf13, 144, .inl (upd f13 ((a1 + 5) : Int32).toNatClampNeg ((u1_0 <<< (8 &&& 31)) ||| u2_0)))), (qf0, .inl (cf0, nb, .inl f0)), (h0, .inr (3, [.ref qf0, .int v1, .int u2_1, .int u3_0, .ref qf4, .ref qf5, .ref qf6, .int v7, .int v8, .int v9, .int v10, .ref qf11, .int v12, .ref qf13]))] H := hP
    replace hD : va_D A [(qf13, .inl (cf13, 144, .inl (upd f13 ((a1 + 5) : Int32).toNatClampNeg ((u1_0 <<< (8 &&& 31)) ||| u2_0)))), (qf0, .inl (cf0, nb, .inl f0)), (h0, .inr (3, [.ref qf0, .int v1, .int u2_1, .int u3_0, .ref qf4, .ref qf5, .ref qf6, .int v7, .int v8, .int v9, .int v10, .ref qf11, .int v12, .ref qf13]))] := hD
    refine lv_aload_n hx hb dX3_readCode_50 rfl (lv_at hl 3 rfl) ?_
    refine va_get (D := (dC, dI)) (ci := 3) (v := .ref qf13) (C := RX3) (T := TX3) (N := 14) hx hb hts uV_h3_X3 hown hK hP 2 rfl rfl 13 (by decide) (hts (.fieldLink RX3 30 "ClassMill$Image" "method" "[I") mw_h3_52) (fun _ h9 => h9) rfl dX3_readCode_51 ?_
    refine lv_iload_n hx hb dX3_readCode_54 rfl (lv_at hl 4 rfl) ?_
    refine lv_bipush (v := 6) hx hb dX3_readCode_55 (by decide) ?_
    refine lv_iadd hx hb dX3_readCode_57 ?_
    refine lv_aload_n hx hb dX3_readCode_58 rfl (lv_at hl 3 rfl) ?_
    refine va_get (D := (dC, dI)) (ci := 3) (v := .int u2_1) (C := RX3) (T := TX3) (N := 14) hx hb hts uV_h3_X3 hown hK hP 2 rfl rfl 2 (by decide) (hts (.fieldLink RX3 43 "ClassMill$Image" "pos" "I") mw_h3_47) (fun _ h9 => h9) rfl dX3_readCode_59 ?_
    obtain ⟨hi_5, hsp⟩ := ox_in hsp
    refine va_iast hx hb hK hP hD hS 0 0 rfl rfl (i := (a1 + 6)) (x := u2_1) hi_5 dX3_readCode_62 ?_
    clear hP hD hS
    intro H locs hP hD hS
    replace hP : va_P (dC, dI) vwCl [(qf13, .inl (cf13, 144, .inl (upd (upd f13 ((a1 + 5) : Int32).toNatClampNeg ((u1_0 <<< (8 &&& 31)) ||| u2_0)) ((a1 + 6) : Int32).toNatClampNeg u2_1))), (qf0, .inl (cf0, nb, .inl f0)), (h0, .inr (3, [.ref qf0, .int v1, .int u2_1, .int u3_0, .ref qf4, .ref qf5, .ref qf6, .int v7, .int v8, .int v9, .int v10, .ref qf11, .int v12, .ref qf13]))] H := hP
    replace hD : va_D A [(qf13, .inl (cf13, 144, .inl (upd (upd f13 ((a1 + 5) : Int32).toNatClampNeg ((u1_0 <<< (8 &&& 31)) ||| u2_0)) ((a1 + 6) : Int32).toNatClampNeg u2_1))), (qf0, .inl (cf0, nb, .inl f0)), (h0, .inr (3, [.ref qf0, .int v1, .int u2_1, .int u3_0, .ref qf4, .ref qf5, .ref qf6, .int v7, .int v8, .int v9, .int v10, .ref qf11, .int v12, .ref qf13]))] := hD
    refine lv_aload_n hx hb dX3_readCode_63 rfl (lv_at hl 3 rfl) ?_
    refine va_get (D := (dC, dI)) (ci := 3) (v := .int u2_1) (C := RX3) (T := TX3) (N := 14) hx hb hts uV_h3_X3 hown hK hP 2 rfl rfl 2 (by decide) (hts (.fieldLink RX3 43 "ClassMill$Image" "pos" "I") mw_h3_47) (fun _ h9 => h9) rfl dX3_readCode_64 ?_
    refine lv_iload hx hb dX3_readCode_67 (lv_at hl 0 rfl) ?_
    refine lv_iadd hx hb dX3_readCode_69 ?_
    refine lv_aload_n hx hb dX3_readCode_70 rfl (lv_at hl 3 rfl) ?_
    refine va_get (D := (dC, dI)) (ci := 3) (v := .int v1) (C := RX3) (T := TX3) (N := 14) hx hb hts uV_h3_X3 hown hK hP 2 rfl rfl 1 (by decide) (hts (.fieldLink RX3 39 "ClassMill$Image" "size" "I") mw_h3_25) (fun _ h9 => h9) rfl dX3_readCode_71 ?_
    refine lv_icmp_le (tgt := 85) hx hb dX3_readCode_74 (by decide) (fun c_6 => ?_) (fun c_6 => ?_)
    · rw [if_pos c_6] at hsp
      refine lv_aload_n hx hb dX3_readCode_85 rfl (lv_at hl 3 rfl) ?_
      refine lv_aload_n hx hb dX3_readCode_86 rfl (lv_at hl 3 rfl) ?_
      refine va_get (D := (dC, dI)) (ci := 3) (v := .int u2_1) (C := RX3) (T := TX3) (N := 14) hx hb hts uV_h3_X3 hown hK hP 2 rfl rfl 2 (by decide) (hts (.fieldLink RX3 43 "ClassMill$Image" "pos" "I") mw_h3_47) (fun _ h9 => h9) rfl dX3_readCode_87 ?_
      refine lv_iload hx hb dX3_readCode_90 (lv_at hl 0 rfl) ?_
      refine lv_iadd hx hb dX3_readCode_92 ?_
      refine lv_aload_n hx hb dX3_readCode_93 rfl (lv_at hl 3 rfl) ?_
      refine va_get (D := (dC, dI)) (ci := 3) (v := .int v1) (C := RX3) (T := TX3) (N := 14) hx hb hts uV_h3_X3 hown hK hP 2 rfl rfl 1 (by decide) (hts (.fieldLink RX3 39 "ClassMill$Image" "size" "I") mw_h3_25) (fun _ h9 => h9) rfl dX3_readCode_94 ?_
      refine va_mmin hx hb (by rw [hml]; exact hl.1.symm) hown (hts (.methodLink RX3 33 yJ9_min_7cf53) mw_h3_53) (hts (.static yJ9_min_7cf53) mw_h3_54) (hts (.initialized "java/lang/Math") mw_h3_55) (hts (.code yJ9_min_7cf53 cJ9_min_7cf53 2 (some .int)) mw_h3_56) (Nat.le_of_ble_eq_true rfl) (Nat.le_of_ble_eq_true rfl) (Nat.le_of_ble_eq_true rfl) (Nat.le_of_ble_eq_true rfl) dX3_readCode_97 ?_
      refine va_put (D := (dC, dI)) (ci := 3) (v := .int (if v1 < (u2_1 + ((u1_0 <<< (8 &&& 31)) ||| u2_0)) then v1 else (u2_1 + ((u1_0 <<< (8 &&& 31)) ||| u2_0)))) (ty := .int) (C := RX3) (T := TX3) (N := 14) hx hb hts uV_h3_X3 tyX3 tyX3_ok nmX3 hown hK hP hD hS 2 rfl rfl 2 (by decide) (hts (.fieldLink RX3 43 "ClassMill$Image" "pos" "I") mw_h3_47) (fun _ h9 => h9) rfl (by decide +kernel) rfl rfl (Nat.le_of_ble_eq_true rfl) dX3_readCode_100 ?_
      clear hP hD hS
      intro H locs hP hD hS
      replace hP : va_P (dC, dI) vwCl [(qf13, .inl (cf13, 144, .inl (upd (upd f13 ((a1 + 5) : Int32).toNatClampNeg ((u1_0 <<< (8 &&& 31)) ||| u2_0)) ((a1 + 6) : Int32).toNatClampNeg u2_1))), (qf0, .inl (cf0, nb, .inl f0)), (h0, .inr (3, [.ref qf0, .int v1, .int (if v1 < (u2_1 + ((u1_0 <<< (8 &&& 31)) ||| u2_0)) then v1 else (u2_1 + ((u1_0 <<< (8 &&& 31)) ||| u2_0))), .int u3_0, .ref qf4, .ref qf5, .ref qf6, .int v7, .int v8, .int v9, .int v10, .ref qf11, .int v12, .ref qf13]))] H := hP
      replace hD : va_D A [(qf13, .inl (cf13, 144, .inl (upd (upd f13 ((a1 + 5) : Int32).toNatClampNeg ((u1_0 <<< (8 &&& 31)) ||| u2_0)) ((a1 + 6) : Int32).toNatClampNeg u2_1))), (qf0, .inl (cf0, nb, .inl f0)), (h0, .inr (3, [.ref qf0, .int v1, .int (if v1 < (u2_1 + ((u1_0 <<< (8 &&& 31)) ||| u2_0)) then v1 else (u2_1 + ((u1_0 <<< (8 &&& 31)) ||| u2_0))), .int u3_0, .ref qf4, .ref qf5, .ref qf6, .int v7, .int v8, .int v9, .int v10, .ref qf11, .int v12, .ref qf13]))] := hD
      have hr0 := Option.some.inj hsp
      clear hsp
      obtain ⟨hq0, hr1⟩ := Prod.mk.inj hr0
      clear hr0
      obtain ⟨hq1, hr2⟩ := Prod.mk.inj hr1
      clear hr1
      subst hq0
      subst hq1
      subst hr2
      have hP9 := hP.sub (ws' := [(h0, .inr (3, [.ref qf0, .int v1, .int (if v1 < (u2_1 + ((u1_0 <<< (8 &&& 31)) ||| u2_0)) then v1 else (u2_1 + ((u1_0 <<< (8 &&& 31)) ||| u2_0))), .int u3_0, .ref qf4, .ref qf5, .ref qf6, .int v7, .int v8, .int v9, .int v10, .ref qf11, .int v12, .ref qf13])), (qf0, .inl (cf0, nb, .inl f0)), (qf13, .inl (cf13, 144, .inl (upd (upd f13 ((a1 + 5) : Int32).toNatClampNeg ((u1_0 <<< (8 &&& 31)) ||| u2_0)) ((a1 + 6) : Int32).toNatClampNeg u2_1)))]) [2, 1, 0] rfl
      have hD9 := hD.sub (ws' := [(h0, .inr (3, [.ref qf0, .int v1, .int (if v1 < (u2_1 + ((u1_0 <<< (8 &&& 31)) ||| u2_0)) then v1 else (u2_1 + ((u1_0 <<< (8 &&& 31)) ||| u2_0))), .int u3_0, .ref qf4, .ref qf5, .ref qf6, .int v7, .int v8, .int v9, .int v10, .ref qf11, .int v12, .ref qf13])), (qf0, .inl (cf0, nb, .inl f0)), (qf13, .inl (cf13, 144, .inl (upd (upd f13 ((a1 + 5) : Int32).toNatClampNeg ((u1_0 <<< (8 &&& 31)) ||| u2_0)) ((a1 + 6) : Int32).toNatClampNeg u2_1)))]) [2, 1, 0] (by decide) rfl
      have hK9 := hK.sub (tys' := [(cf0, .byte), (cf13, .int)]) [1, 0] rfl
      exact W.vret hx hb hr (fun t ht hW => ⟨⟨(), rfl, trivial, by rw [ht]; exact hP9, va_K.moved hW.alike hK9, hD9⟩, hS.F ht⟩) hS.2.2 dX3_readCode_103
    · rw [if_neg c_6] at hsp
      refine lv_aload_n hx hb dX3_readCode_77 rfl (lv_at hl 3 rfl) ?_
      refine lv_aload_n hx hb dX3_readCode_78 rfl (lv_at hl 3 rfl) ?_
      refine va_get (D := (dC, dI)) (ci := 3) (v := .int v1) (C := RX3) (T := TX3) (N := 14) hx hb hts uV_h3_X3 hown hK hP 2 rfl rfl 1 (by decide) (hts (.fieldLink RX3 39 "ClassMill$Image" "size" "I") mw_h3_25) (fun _ h9 => h9) rfl dX3_readCode_79 ?_
      obtain ⟨u4_0, hu_4, hsp⟩ := ox_bind hsp
      try dsimp only at hsp
      have hPc := hP.sub (ws' := [(h0, .inr (3, [.ref qf0, .int v1, .int u2_1, .int u3_0, .ref qf4, .ref qf5, .ref qf6, .int v7, .int v8, .int v9, .int v10, .ref qf11, .int v12, .ref qf13]))]) [2] rfl
      have hDc := hD.sub (ws' := [(h0, .inr (3, [.ref qf0, .int v1, .int u2_1, .int u3_0, .ref qf4, .ref qf5, .ref qf6, .int v7, .int v8, .int v9, .int v10, .ref qf11, .int v12, .ref qf13]))]) [2] (by decide) rfl
      have hKc := hK.sub (tys' := []) [] rfl
      have hFc := va_free (wc := [(h0, .inr (3, [.ref qf0, .int v1, .int u2_1, .int u3_0, .ref qf4, .ref qf5, .ref qf6, .int v7, .int v8, .int v9, .int v10, .ref qf11, .int v12, .ref qf13]))]) hD hS hA [2] rfl
      refine va_callv (va_runV (As := [.int v1]) (rest := []) ⟨hx, hb, hml, hown, hts⟩ (ti_bad l dC dI H.size h0 v1 qf0 v1 u2_1 u3_0 qf4 qf5 qf6 v7 v8 v9 v10 qf11 v12 qf13 nf u4_0 hu_4) (cwV 1 hts gv_h3_9 rfl rfl rfl (by decide +kernel) ⟨Nat.le_of_ble_eq_true rfl, Nat.le_of_ble_eq_true rfl⟩) ⟨fun a U g mk q => by obtain ⟨q0, q1, qP, qK, qD⟩ := q; exact ⟨q0, q1, qP, va_K.moved (u := U) (U := U.calling g mk a) (Vm.Alike.refl U.vm) qK, qD⟩, va_recv hKc hPc (ci := 3) (q0 := 0) rfl rfl, fun U hU hW => ⟨rfl, by rw [hU], by rw [hU]; exact hPc, va_K.moved hW.alike hKc, hDc.weaken (fun _ _ _ _ => trivial)⟩⟩ rfl rfl hl.1 rfl (lv_room (Nat.le_of_ble_eq_true rfl)) dX3_readCode_82 ⟨Nat.le_of_ble_eq_true rfl, Nat.le_of_ble_eq_true rfl⟩) hS (fun q _ h => hFc q h) hFc ?_
      clear hS
      intro u t H1 locs ht hvm hw hB hz1 hk1 hS
      obtain ⟨⟩ := u
      obtain ⟨hP1, hK1, hD1⟩ := hB
      rw [ht] at hP1
      have hK1 := va_K.moved hvm.symm hK1
      try dsimp only at hw
      have hPD := va_join (wr := [(qf13, .inl (cf13, 144, .inl (upd (upd f13 ((a1 + 5) : Int32).toNatClampNeg ((u1_0 <<< (8 &&& 31)) ||| u2_0)) ((a1 + 6) : Int32).toNatClampNeg u2_1))), (qf0, .inl (cf0, nb, .inl f0))]) (w1 := [(h0, .inr (3, [.ref qf0, .int v1, .int u2_1, .int u4_0, .ref qf4, .ref qf5, .ref qf6, .int v7, .int v8, .int v9, .int v10, .ref qf11, .int v12, .ref qf13]))]) hP hD [2] [0, 1] rfl rfl (by decide) (by decide) hk1 hFc hP1 hD1
      clear hP hD
      obtain ⟨hP, hD⟩ := hPD
      replace hK := (hK.sub (tys' := [(cf13, .int), (cf0, .byte)]) [0, 1] rfl).app hK1
      clear hPc hDc hKc hFc hP1 hK1 hD1 hz1 hk1 ht hvm
      generalize H1 = H at hP hS ⊢
      replace hP : va_P (dC, dI) vwCl [(qf13, .inl (cf13, 144, .inl (upd (upd f13 ((a1 + 5) : Int32).toNatClampNeg ((u1_0 <<< (8 &&& 31)) ||| u2_0)) ((a1 + 6) : Int32).toNatClampNeg u2_1))), (qf0, .inl (cf0, nb, .inl f0)), (h0, .inr (3, [.ref qf0, .int v1, .int u2_1, .int u4_0, .ref qf4, .ref qf5, .ref qf6, .int v7, .int v8, .int v9, .int v10, .ref qf11, .int v12, .ref qf13]))] H := hP
      replace hD : va_D A [(qf13, .inl (cf13, 144, .inl (upd (upd f13 ((a1 + 5) : Int32).toNatClampNeg ((u1_0 <<< (8 &&& 31)) ||| u2_0)) ((a1 + 6) : Int32).toNatClampNeg u2_1))), (qf0, .inl (cf0, nb, .inl f0)), (h0, .inr (3, [.ref qf0, .int v1, .int u2_1, .int u4_0, .ref qf4, .ref qf5, .ref qf6, .int v7, .int v8, .int v9, .int v10, .ref qf11, .int v12, .ref qf13]))] := hD
      replace hK : va_K (dC, dI) vwCl [(cf13, .int), (cf0, .byte)] s := hK
      refine lv_aload_n hx hb dX3_readCode_85 rfl (lv_at hl 3 rfl) ?_
      refine lv_aload_n hx hb dX3_readCode_86 rfl (lv_at hl 3 rfl) ?_
      refine va_get (D := (dC, dI)) (ci := 3) (v := .int u2_1) (C := RX3) (T := TX3) (N := 14) hx hb hts uV_h3_X3 hown hK hP 2 rfl rfl 2 (by decide) (hts (.fieldLink RX3 43 "ClassMill$Image" "pos" "I") mw_h3_47) (fun _ h9 => h9) rfl dX3_readCode_87 ?_
      refine lv_iload hx hb dX3_readCode_90 (lv_at hl 0 rfl) ?_
      refine lv_iadd hx hb dX3_readCode_92 ?_
      refine lv_aload_n hx hb dX3_readCode_93 rfl (lv_at hl 3 rfl) ?_
      refine va_get (D := (dC, dI)) (ci := 3) (v := .int v1) (C := RX3) (T := TX3) (N := 14) hx hb hts uV_h3_X3 hown hK hP 2 rfl rfl 1 (by decide) (hts (.fieldLink RX3 39 "ClassMill$Image" "size" "I") mw_h3_25) (fun _ h9 => h9) rfl dX3_readCode_94 ?_
      refine va_mmin hx hb (by rw [hml]; exact hl.1.symm) hown (hts (.methodLink RX3 33 yJ9_min_7cf53) mw_h3_53) (hts (.static yJ9_min_7cf53) mw_h3_54) (hts (.initialized "java/lang/Math") mw_h3_55) (hts (.code yJ9_min_7cf53 cJ9_min_7cf53 2 (some .int)) mw_h3_56) (Nat.le_of_ble_eq_true rfl) (Nat.le_of_ble_eq_true rfl) (Nat.le_of_ble_eq_true rfl) (Nat.le_of_ble_eq_true rfl) dX3_readCode_97 ?_
      refine va_put (D := (dC, dI)) (ci := 3) (v := .int (if v1 < (u2_1 + ((u1_0 <<< (8 &&& 31)) ||| u2_0)) then v1 else (u2_1 + ((u1_0 <<< (8 &&& 31)) ||| u2_0)))) (ty := .int) (C := RX3) (T := TX3) (N := 14) hx hb hts uV_h3_X3 tyX3 tyX3_ok nmX3 hown hK hP hD hS 2 rfl rfl 2 (by decide) (hts (.fieldLink RX3 43 "ClassMill$Image" "pos" "I") mw_h3_47) (fun _ h9 => h9) rfl (by decide +kernel) rfl rfl (Nat.le_of_ble_eq_true rfl) dX3_readCode_100 ?_
      clear hP hD hS
      intro H locs hP hD hS
      replace hP : va_P (dC, dI) vwCl [(qf13, .inl (cf13, 144, .inl (upd (upd f13 ((a1 + 5) : Int32).toNatClampNeg ((u1_0 <<< (8 &&& 31)) ||| u2_0)) ((a1 + 6) : Int32).toNatClampNeg u2_1))), (qf0, .inl (cf0, nb, .inl f0)), (h0, .inr (3, [.ref qf0, .int v1, .int (if v1 < (u2_1 + ((u1_0 <<< (8 &&& 31)) ||| u2_0)) then v1 else (u2_1 + ((u1_0 <<< (8 &&& 31)) ||| u2_0))), .int u4_0, .ref qf4, .ref qf5, .ref qf6, .int v7, .int v8, .int v9, .int v10, .ref qf11, .int v12, .ref qf13]))] H := hP
      replace hD : va_D A [(qf13, .inl (cf13, 144, .inl (upd (upd f13 ((a1 + 5) : Int32).toNatClampNeg ((u1_0 <<< (8 &&& 31)) ||| u2_0)) ((a1 + 6) : Int32).toNatClampNeg u2_1))), (qf0, .inl (cf0, nb, .inl f0)), (h0, .inr (3, [.ref qf0, .int v1, .int (if v1 < (u2_1 + ((u1_0 <<< (8 &&& 31)) ||| u2_0)) then v1 else (u2_1 + ((u1_0 <<< (8 &&& 31)) ||| u2_0))), .int u4_0, .ref qf4, .ref qf5, .ref qf6, .int v7, .int v8, .int v9, .int v10, .ref qf11, .int v12, .ref qf13]))] := hD
      have hr0 := Option.some.inj hsp
      clear hsp
      obtain ⟨hq0, hr1⟩ := Prod.mk.inj hr0
      clear hr0
      obtain ⟨hq1, hr2⟩ := Prod.mk.inj hr1
      clear hr1
      subst hq0
      subst hq1
      subst hr2
      have hP9 := hP.sub (ws' := [(h0, .inr (3, [.ref qf0, .int v1, .int (if v1 < (u2_1 + ((u1_0 <<< (8 &&& 31)) ||| u2_0)) then v1 else (u2_1 + ((u1_0 <<< (8 &&& 31)) ||| u2_0))), .int u4_0, .ref qf4, .ref qf5, .ref qf6, .int v7, .int v8, .int v9, .int v10, .ref qf11, .int v12, .ref qf13])), (qf0, .inl (cf0, nb, .inl f0)), (qf13, .inl (cf13, 144, .inl (upd (upd f13 ((a1 + 5) : Int32).toNatClampNeg ((u1_0 <<< (8 &&& 31)) ||| u2_0)) ((a1 + 6) : Int32).toNatClampNeg u2_1)))]) [2, 1, 0] rfl
      have hD9 := hD.sub (ws' := [(h0, .inr (3, [.ref qf0, .int v1, .int (if v1 < (u2_1 + ((u1_0 <<< (8 &&& 31)) ||| u2_0)) then v1 else (u2_1 + ((u1_0 <<< (8 &&& 31)) ||| u2_0))), .int u4_0, .ref qf4, .ref qf5, .ref qf6, .int v7, .int v8, .int v9, .int v10, .ref qf11, .int v12, .ref qf13])), (qf0, .inl (cf0, nb, .inl f0)), (qf13, .inl (cf13, 144, .inl (upd (upd f13 ((a1 + 5) : Int32).toNatClampNeg ((u1_0 <<< (8 &&& 31)) ||| u2_0)) ((a1 + 6) : Int32).toNatClampNeg u2_1)))]) [2, 1, 0] (by decide) rfl
      have hK9 := hK.sub (tys' := [(cf0, .byte), (cf13, .int)]) [1, 0] rfl
      exact W.vret hx hb hr (fun t ht hW => ⟨⟨(), rfl, trivial, by rw [ht]; exact hP9, va_K.moved hW.alike hK9, hD9⟩, hS.F ht⟩) hS.2.2 dX3_readCode_103
  · rw [if_neg c_3] at hsp
    refine lv_iload hx hb dX3_readCode_27 (lv_at hl 0 rfl) ?_
    refine lv_sipush (v := 1500) hx hb dX3_readCode_29 (by decide) ?_
    refine lv_icmp_le (tgt := 40) hx hb dX3_readCode_32 (by decide) (fun c_7 => ?_) (fun c_7 => ?_)
    · rw [if_pos c_7] at hsp
      refine lv_aload_n hx hb dX3_readCode_40 rfl (lv_at hl 3 rfl) ?_
      refine va_get (D := (dC, dI)) (ci := 3) (v := .ref qf13) (C := RX3) (T := TX3) (N := 14) hx hb hts uV_h3_X3 hown hK hP 1 rfl rfl 13 (by decide) (hts (.fieldLink RX3 30 "ClassMill$Image" "method" "[I") mw_h3_52) (fun _ h9 => h9) rfl dX3_readCode_41 ?_
      refine lv_iload_n hx hb dX3_readCode_44 rfl (lv_at hl 4 rfl) ?_
      refine lv_iconst (v := 5) hx hb dX3_readCode_45 (by decide) ?_
      refine lv_iadd hx hb dX3_readCode_46 ?_
      refine lv_iload hx hb dX3_readCode_47 (lv_at hl 0 rfl) ?_
      obtain ⟨hi_8, hsp⟩ := ox_in hsp
      refine va_iast hx hb hK hP hD hS 0 0 rfl rfl (i := (a1 + 5)) (x := ((u1_0 <<< (8 &&& 31)) ||| u2_0)) hi_8 dX3_readCode_49 ?_
      clear hP hD hS
      intro H locs hP hD hS
      replace hP : va_P (dC, dI) vwCl [(qf13, .inl (cf13, 144, .inl (upd f13 ((a1 + 5) : Int32).toNatClampNeg ((u1_0 <<< (8 &&& 31)) ||| u2_0)))), (h0, .inr (3, [.ref qf0, .int v1, .int u2_1, .int u2_2, .ref qf4, .ref qf5, .ref qf6, .int v7, .int v8, .int v9, .int v10, .ref qf11, .int v12, .ref qf13])), (qf0, .inl (cf0, nb, .inl f0))] H := hP
      replace hD : va_D A [(qf13, .inl (cf13, 144, .inl (upd f13 ((a1 + 5) : Int32).toNatClampNeg ((u1_0 <<< (8 &&& 31)) ||| u2_0)))), (h0, .inr (3, [.ref qf0, .int v1, .int u2_1, .int u2_2, .ref qf4, .ref qf5, .ref qf6, .int v7, .int v8, .int v9, .int v10, .ref qf11, .int v12, .ref qf13])), (qf0, .inl (cf0, nb, .inl f0))] := hD
      refine lv_aload_n hx hb dX3_readCode_50 rfl (lv_at hl 3 rfl) ?_
      refine va_get (D := (dC, dI)) (ci := 3) (v := .ref qf13) (C := RX3) (T := TX3) (N := 14) hx hb hts uV_h3_X3 hown hK hP 1 rfl rfl 13 (by decide) (hts (.fieldLink RX3 30 "ClassMill$Image" "method" "[I") mw_h3_52) (fun _ h9 => h9) rfl dX3_readCode_51 ?_
      refine lv_iload_n hx hb dX3_readCode_54 rfl (lv_at hl 4 rfl) ?_
      refine lv_bipush (v := 6) hx hb dX3_readCode_55 (by decide) ?_
      refine lv_iadd hx hb dX3_readCode_57 ?_
      refine lv_aload_n hx hb dX3_readCode_58 rfl (lv_at hl 3 rfl) ?_
      refine va_get (D := (dC, dI)) (ci := 3) (v := .int u2_1) (C := RX3) (T := TX3) (N := 14) hx hb hts uV_h3_X3 hown hK hP 1 rfl rfl 2 (by decide) (hts (.fieldLink RX3 43 "ClassMill$Image" "pos" "I") mw_h3_47) (fun _ h9 => h9) rfl dX3_readCode_59 ?_
      obtain ⟨hi_9, hsp⟩ := ox_in hsp
      refine va_iast hx hb hK hP hD hS 0 0 rfl rfl (i := (a1 + 6)) (x := u2_1) hi_9 dX3_readCode_62 ?_
      clear hP hD hS
      intro H locs hP hD hS
      replace hP : va_P (dC, dI) vwCl [(qf13, .inl (cf13, 144, .inl (upd (upd f13 ((a1 + 5) : Int32).toNatClampNeg ((u1_0 <<< (8 &&& 31)) ||| u2_0)) ((a1 + 6) : Int32).toNatClampNeg u2_1))), (h0, .inr (3, [.ref qf0, .int v1, .int u2_1, .int u2_2, .ref qf4, .ref qf5, .ref qf6, .int v7, .int v8, .int v9, .int v10, .ref qf11, .int v12, .ref qf13])), (qf0, .inl (cf0, nb, .inl f0))] H := hP
      replace hD : va_D A [(qf13, .inl (cf13, 144, .inl (upd (upd f13 ((a1 + 5) : Int32).toNatClampNeg ((u1_0 <<< (8 &&& 31)) ||| u2_0)) ((a1 + 6) : Int32).toNatClampNeg u2_1))), (h0, .inr (3, [.ref qf0, .int v1, .int u2_1, .int u2_2, .ref qf4, .ref qf5, .ref qf6, .int v7, .int v8, .int v9, .int v10, .ref qf11, .int v12, .ref qf13])), (qf0, .inl (cf0, nb, .inl f0))] := hD
      refine lv_aload_n hx hb dX3_readCode_63 rfl (lv_at hl 3 rfl) ?_
      refine va_get (D := (dC, dI)) (ci := 3) (v := .int u2_1) (C := RX3) (T := TX3) (N := 14) hx hb hts uV_h3_X3 hown hK hP 1 rfl rfl 2 (by decide) (hts (.fieldLink RX3 43 "ClassMill$Image" "pos" "I") mw_h3_47) (fun _ h9 => h9) rfl dX3_readCode_64 ?_
      refine lv_iload hx hb dX3_readCode_67 (lv_at hl 0 rfl) ?_
      refine lv_iadd hx hb dX3_readCode_69 ?_
      refine lv_aload_n hx hb dX3_readCode_70 rfl (lv_at hl 3 rfl) ?_
      refine va_get (D := (dC, dI)) (ci := 3) (v := .int v1) (C := RX3) (T := TX3) (N := 14) hx hb hts uV_h3_X3 hown hK hP 1 rfl rfl 1 (by decide) (hts (.fieldLink RX3 39 "ClassMill$Image" "size" "I") mw_h3_25) (fun _ h9 => h9) rfl dX3_readCode_71 ?_
      refine lv_icmp_le (tgt := 85) hx hb dX3_readCode_74 (by decide) (fun c_10 => ?_) (fun c_10 => ?_)
      · rw [if_pos c_10] at hsp
        refine lv_aload_n hx hb dX3_readCode_85 rfl (lv_at hl 3 rfl) ?_
        refine lv_aload_n hx hb dX3_readCode_86 rfl (lv_at hl 3 rfl) ?_
        refine va_get (D := (dC, dI)) (ci := 3) (v := .int u2_1) (C := RX3) (T := TX3) (N := 14) hx hb hts uV_h3_X3 hown hK hP 1 rfl rfl 2 (by decide) (hts (.fieldLink RX3 43 "ClassMill$Image" "pos" "I") mw_h3_47) (fun _ h9 => h9) rfl dX3_readCode_87 ?_
        refine lv_iload hx hb dX3_readCode_90 (lv_at hl 0 rfl) ?_
        refine lv_iadd hx hb dX3_readCode_92 ?_
        refine lv_aload_n hx hb dX3_readCode_93 rfl (lv_at hl 3 rfl) ?_
        refine va_get (D := (dC, dI)) (ci := 3) (v := .int v1) (C := RX3) (T := TX3) (N := 14) hx hb hts uV_h3_X3 hown hK hP 1 rfl rfl 1 (by decide) (hts (.fieldLink RX3 39 "ClassMill$Image" "size" "I") mw_h3_25) (fun _ h9 => h9) rfl dX3_readCode_94 ?_
        refine va_mmin hx hb (by rw [hml]; exact hl.1.symm) hown (hts (.methodLink RX3 33 yJ9_min_7cf53) mw_h3_53) (hts (.static yJ9_min_7cf53) mw_h3_54) (hts (.initialized "java/lang/Math") mw_h3_55) (hts (.code yJ9_min_7cf53 cJ9_min_7cf53 2 (some .int)) mw_h3_56) (Nat.le_of_ble_eq_true rfl) (Nat.le_of_ble_eq_true rfl) (Nat.le_of_ble_eq_true rfl) (Nat.le_of_ble_eq_true rfl) dX3_readCode_97 ?_
        refine va_put (D := (dC, dI)) (ci := 3) (v := .int (if v1 < (u2_1 + ((u1_0 <<< (8 &&& 31)) ||| u2_0)) then v1 else (u2_1 + ((u1_0 <<< (8 &&& 31)) ||| u2_0)))) (ty := .int) (C := RX3) (T := TX3) (N := 14) hx hb hts uV_h3_X3 tyX3 tyX3_ok nmX3 hown hK hP hD hS 1 rfl rfl 2 (by decide) (hts (.fieldLink RX3 43 "ClassMill$Image" "pos" "I") mw_h3_47) (fun _ h9 => h9) rfl (by decide +kernel) rfl rfl (Nat.le_of_ble_eq_true rfl) dX3_readCode_100 ?_
        clear hP hD hS
        intro H locs hP hD hS
        replace hP : va_P (dC, dI) vwCl [(qf13, .inl (cf13, 144, .inl (upd (upd f13 ((a1 + 5) : Int32).toNatClampNeg ((u1_0 <<< (8 &&& 31)) ||| u2_0)) ((a1 + 6) : Int32).toNatClampNeg u2_1))), (h0, .inr (3, [.ref qf0, .int v1, .int (if v1 < (u2_1 + ((u1_0 <<< (8 &&& 31)) ||| u2_0)) then v1 else (u2_1 + ((u1_0 <<< (8 &&& 31)) ||| u2_0))), .int u2_2, .ref qf4, .ref qf5, .ref qf6, .int v7, .int v8, .int v9, .int v10, .ref qf11, .int v12, .ref qf13])), (qf0, .inl (cf0, nb, .inl f0))] H := hP
        replace hD : va_D A [(qf13, .inl (cf13, 144, .inl (upd (upd f13 ((a1 + 5) : Int32).toNatClampNeg ((u1_0 <<< (8 &&& 31)) ||| u2_0)) ((a1 + 6) : Int32).toNatClampNeg u2_1))), (h0, .inr (3, [.ref qf0, .int v1, .int (if v1 < (u2_1 + ((u1_0 <<< (8 &&& 31)) ||| u2_0)) then v1 else (u2_1 + ((u1_0 <<< (8 &&& 31)) ||| u2_0))), .int u2_2, .ref qf4, .ref qf5, .ref qf6, .int v7, .int v8, .int v9, .int v10, .ref qf11, .int v12, .ref qf13])), (qf0, .inl (cf0, nb, .inl f0))] := hD
        have hr0 := Option.some.inj hsp
        clear hsp
        obtain ⟨hq0, hr1⟩ := Prod.mk.inj hr0
        clear hr0
        obtain ⟨hq1, hr2⟩ := Prod.mk.inj hr1
        clear hr1
        subst hq0
        subst hq1
        subst hr2
        have hP9 := hP.sub (ws' := [(h0, .inr (3, [.ref qf0, .int v1, .int (if v1 < (u2_1 + ((u1_0 <<< (8 &&& 31)) ||| u2_0)) then v1 else (u2_1 + ((u1_0 <<< (8 &&& 31)) ||| u2_0))), .int u2_2, .ref qf4, .ref qf5, .ref qf6, .int v7, .int v8, .int v9, .int v10, .ref qf11, .int v12, .ref qf13])), (qf0, .inl (cf0, nb, .inl f0)), (qf13, .inl (cf13, 144, .inl (upd (upd f13 ((a1 + 5) : Int32).toNatClampNeg ((u1_0 <<< (8 &&& 31)) ||| u2_0)) ((a1 + 6) : Int32).toNatClampNeg u2_1)))]) [1, 2, 0] rfl
        have hD9 := hD.sub (ws' := [(h0, .inr (3, [.ref qf0, .int v1, .int (if v1 < (u2_1 + ((u1_0 <<< (8 &&& 31)) ||| u2_0)) then v1 else (u2_1 + ((u1_0 <<< (8 &&& 31)) ||| u2_0))), .int u2_2, .ref qf4, .ref qf5, .ref qf6, .int v7, .int v8, .int v9, .int v10, .ref qf11, .int v12, .ref qf13])), (qf0, .inl (cf0, nb, .inl f0)), (qf13, .inl (cf13, 144, .inl (upd (upd f13 ((a1 + 5) : Int32).toNatClampNeg ((u1_0 <<< (8 &&& 31)) ||| u2_0)) ((a1 + 6) : Int32).toNatClampNeg u2_1)))]) [1, 2, 0] (by decide) rfl
        have hK9 := hK.sub (tys' := [(cf0, .byte), (cf13, .int)]) [1, 0] rfl
        exact W.vret hx hb hr (fun t ht hW => ⟨⟨(), rfl, trivial, by rw [ht]; exact hP9, va_K.moved hW.alike hK9, hD9⟩, hS.F ht⟩) hS.2.2 dX3_readCode_103
      · rw [if_neg c_10] at hsp
        refine lv_aload_n hx hb dX3_readCode_77 rfl (lv_at hl 3 rfl) ?_
        refine lv_aload_n hx hb dX3_readCode_78 rfl (lv_at hl 3 rfl) ?_
        refine va_get (D := (dC, dI)) (ci := 3) (v := .int v1) (C := RX3) (T := TX3) (N := 14) hx hb hts uV_h3_X3 hown hK hP 1 rfl rfl 1 (by decide) (hts (.fieldLink RX3 39 "ClassMill$Image" "size" "I") mw_h3_25) (fun _ h9 => h9) rfl dX3_readCode_79 ?_
        obtain ⟨u5_0, hu_5, hsp⟩ := ox_bind hsp
        try dsimp only at hsp
        have hPc := hP.sub (ws' := [(h0, .inr (3, [.ref qf0, .int v1, .int u2_1, .int u2_2, .ref qf4, .ref qf5, .ref qf6, .int v7, .int v8, .int v9, .int v10, .ref qf11, .int v12, .ref qf13]))]) [1] rfl
        have hDc := hD.sub (ws' := [(h0, .inr (3, [.ref qf0, .int v1, .int u2_1, .int u2_2, .ref qf4, .ref qf5, .ref qf6, .int v7, .int v8, .int v9, .int v10, .ref qf11, .int v12, .ref qf13]))]) [1] (by decide) rfl
        have hKc := hK.sub (tys' := []) [] rfl
        have hFc := va_free (wc := [(h0, .inr (3, [.ref qf0, .int v1, .int u2_1, .int u2_2, .ref qf4, .ref qf5, .ref qf6, .int v7, .int v8, .int v9, .int v10, .ref qf11, .int v12, .ref qf13]))]) hD hS hA [1] rfl
        refine va_callv (va_runV (As := [.int v1]) (rest := []) ⟨hx, hb, hml, hown, hts⟩ (ti_bad l dC dI H.size h0 v1 qf0 v1 u2_1 u2_2 qf4 qf5 qf6 v7 v8 v9 v10 qf11 v12 qf13 nf u5_0 hu_5) (cwV 1 hts gv_h3_9 rfl rfl rfl (by decide +kernel) ⟨Nat.le_of_ble_eq_true rfl, Nat.le_of_ble_eq_true rfl⟩) ⟨fun a U g mk q => by obtain ⟨q0, q1, qP, qK, qD⟩ := q; exact ⟨q0, q1, qP, va_K.moved (u := U) (U := U.calling g mk a) (Vm.Alike.refl U.vm) qK, qD⟩, va_recv hKc hPc (ci := 3) (q0 := 0) rfl rfl, fun U hU hW => ⟨rfl, by rw [hU], by rw [hU]; exact hPc, va_K.moved hW.alike hKc, hDc.weaken (fun _ _ _ _ => trivial)⟩⟩ rfl rfl hl.1 rfl (lv_room (Nat.le_of_ble_eq_true rfl)) dX3_readCode_82 ⟨Nat.le_of_ble_eq_true rfl, Nat.le_of_ble_eq_true rfl⟩) hS (fun q _ h => hFc q h) hFc ?_
        clear hS
        intro u t H1 locs ht hvm hw hB hz1 hk1 hS
        obtain ⟨⟩ := u
        obtain ⟨hP1, hK1, hD1⟩ := hB
        rw [ht] at hP1
        have hK1 := va_K.moved hvm.symm hK1
        try dsimp only at hw
        have hPD := va_join (wr := [(qf13, .inl (cf13, 144, .inl (upd (upd f13 ((a1 + 5) : Int32).toNatClampNeg ((u1_0 <<< (8 &&& 31)) ||| u2_0)) ((a1 + 6) : Int32).toNatClampNeg u2_1))), (qf0, .inl (cf0, nb, .inl f0))]) (w1 := [(h0, .inr (3, [.ref qf0, .int v1, .int u2_1, .int u5_0, .ref qf4, .ref qf5, .ref qf6, .int v7, .int v8, .int v9, .int v10, .ref qf11, .int v12, .ref qf13]))]) hP hD [1] [0, 2] rfl rfl (by decide) (by decide) hk1 hFc hP1 hD1
        clear hP hD
        obtain ⟨hP, hD⟩ := hPD
        replace hK := (hK.sub (tys' := [(cf13, .int), (cf0, .byte)]) [0, 1] rfl).app hK1
        clear hPc hDc hKc hFc hP1 hK1 hD1 hz1 hk1 ht hvm
        generalize H1 = H at hP hS ⊢
        replace hP : va_P (dC, dI) vwCl [(qf13, .inl (cf13, 144, .inl (upd (upd f13 ((a1 + 5) : Int32).toNatClampNeg ((u1_0 <<< (8 &&& 31)) ||| u2_0)) ((a1 + 6) : Int32).toNatClampNeg u2_1))), (qf0, .inl (cf0, nb, .inl f0)), (h0, .inr (3, [.ref qf0, .int v1, .int u2_1, .int u5_0, .ref qf4, .ref qf5, .ref qf6, .int v7, .int v8, .int v9, .int v10, .ref qf11, .int v12, .ref qf13]))] H := hP
        replace hD : va_D A [(qf13, .inl (cf13, 144, .inl (upd (upd f13 ((a1 + 5) : Int32).toNatClampNeg ((u1_0 <<< (8 &&& 31)) ||| u2_0)) ((a1 + 6) : Int32).toNatClampNeg u2_1))), (qf0, .inl (cf0, nb, .inl f0)), (h0, .inr (3, [.ref qf0, .int v1, .int u2_1, .int u5_0, .ref qf4, .ref qf5, .ref qf6, .int v7, .int v8, .int v9, .int v10, .ref qf11, .int v12, .ref qf13]))] := hD
        replace hK : va_K (dC, dI) vwCl [(cf13, .int), (cf0, .byte)] s := hK
        refine lv_aload_n hx hb dX3_readCode_85 rfl (lv_at hl 3 rfl) ?_
        refine lv_aload_n hx hb dX3_readCode_86 rfl (lv_at hl 3 rfl) ?_
        refine va_get (D := (dC, dI)) (ci := 3) (v := .int u2_1) (C := RX3) (T := TX3) (N := 14) hx hb hts uV_h3_X3 hown hK hP 2 rfl rfl 2 (by decide) (hts (.fieldLink RX3 43 "ClassMill$Image" "pos" "I") mw_h3_47) (fun _ h9 => h9) rfl dX3_readCode_87 ?_
        refine lv_iload hx hb dX3_readCode_90 (lv_at hl 0 rfl) ?_
        refine lv_iadd hx hb dX3_readCode_92 ?_
        refine lv_aload_n hx hb dX3_readCode_93 rfl (lv_at hl 3 rfl) ?_
        refine va_get (D := (dC, dI)) (ci := 3) (v := .int v1) (C := RX3) (T := TX3) (N := 14) hx hb hts uV_h3_X3 hown hK hP 2 rfl rfl 1 (by decide) (hts (.fieldLink RX3 39 "ClassMill$Image" "size" "I") mw_h3_25) (fun _ h9 => h9) rfl dX3_readCode_94 ?_
        refine va_mmin hx hb (by rw [hml]; exact hl.1.symm) hown (hts (.methodLink RX3 33 yJ9_min_7cf53) mw_h3_53) (hts (.static yJ9_min_7cf53) mw_h3_54) (hts (.initialized "java/lang/Math") mw_h3_55) (hts (.code yJ9_min_7cf53 cJ9_min_7cf53 2 (some .int)) mw_h3_56) (Nat.le_of_ble_eq_true rfl) (Nat.le_of_ble_eq_true rfl) (Nat.le_of_ble_eq_true rfl) (Nat.le_of_ble_eq_true rfl) dX3_readCode_97 ?_
        refine va_put (D := (dC, dI)) (ci := 3) (v := .int (if v1 < (u2_1 + ((u1_0 <<< (8 &&& 31)) ||| u2_0)) then v1 else (u2_1 + ((u1_0 <<< (8 &&& 31)) ||| u2_0)))) (ty := .int) (C := RX3) (T := TX3) (N := 14) hx hb hts uV_h3_X3 tyX3 tyX3_ok nmX3 hown hK hP hD hS 2 rfl rfl 2 (by decide) (hts (.fieldLink RX3 43 "ClassMill$Image" "pos" "I") mw_h3_47) (fun _ h9 => h9) rfl (by decide +kernel) rfl rfl (Nat.le_of_ble_eq_true rfl) dX3_readCode_100 ?_
        clear hP hD hS
        intro H locs hP hD hS
        replace hP : va_P (dC, dI) vwCl [(qf13, .inl (cf13, 144, .inl (upd (upd f13 ((a1 + 5) : Int32).toNatClampNeg ((u1_0 <<< (8 &&& 31)) ||| u2_0)) ((a1 + 6) : Int32).toNatClampNeg u2_1))), (qf0, .inl (cf0, nb, .inl f0)), (h0, .inr (3, [.ref qf0, .int v1, .int (if v1 < (u2_1 + ((u1_0 <<< (8 &&& 31)) ||| u2_0)) then v1 else (u2_1 + ((u1_0 <<< (8 &&& 31)) ||| u2_0))), .int u5_0, .ref qf4, .ref qf5, .ref qf6, .int v7, .int v8, .int v9, .int v10, .ref qf11, .int v12, .ref qf13]))] H := hP
        replace hD : va_D A [(qf13, .inl (cf13, 144, .inl (upd (upd f13 ((a1 + 5) : Int32).toNatClampNeg ((u1_0 <<< (8 &&& 31)) ||| u2_0)) ((a1 + 6) : Int32).toNatClampNeg u2_1))), (qf0, .inl (cf0, nb, .inl f0)), (h0, .inr (3, [.ref qf0, .int v1, .int (if v1 < (u2_1 + ((u1_0 <<< (8 &&& 31)) ||| u2_0)) then v1 else (u2_1 + ((u1_0 <<< (8 &&& 31)) ||| u2_0))), .int u5_0, .ref qf4, .ref qf5, .ref qf6, .int v7, .int v8, .int v9, .int v10, .ref qf11, .int v12, .ref qf13]))] := hD
        have hr0 := Option.some.inj hsp
        clear hsp
        obtain ⟨hq0, hr1⟩ := Prod.mk.inj hr0
        clear hr0
        obtain ⟨hq1, hr2⟩ := Prod.mk.inj hr1
        clear hr1
        subst hq0
        subst hq1
        subst hr2
        have hP9 := hP.sub (ws' := [(h0, .inr (3, [.ref qf0, .int v1, .int (if v1 < (u2_1 + ((u1_0 <<< (8 &&& 31)) ||| u2_0)) then v1 else (u2_1 + ((u1_0 <<< (8 &&& 31)) ||| u2_0))), .int u5_0, .ref qf4, .ref qf5, .ref qf6, .int v7, .int v8, .int v9, .int v10, .ref qf11, .int v12, .ref qf13])), (qf0, .inl (cf0, nb, .inl f0)), (qf13, .inl (cf13, 144, .inl (upd (upd f13 ((a1 + 5) : Int32).toNatClampNeg ((u1_0 <<< (8 &&& 31)) ||| u2_0)) ((a1 + 6) : Int32).toNatClampNeg u2_1)))]) [2, 1, 0] rfl
        have hD9 := hD.sub (ws' := [(h0, .inr (3, [.ref qf0, .int v1, .int (if v1 < (u2_1 + ((u1_0 <<< (8 &&& 31)) ||| u2_0)) then v1 else (u2_1 + ((u1_0 <<< (8 &&& 31)) ||| u2_0))), .int u5_0, .ref qf4, .ref qf5, .ref qf6, .int v7, .int v8, .int v9, .int v10, .ref qf11, .int v12, .ref qf13])), (qf0, .inl (cf0, nb, .inl f0)), (qf13, .inl (cf13, 144, .inl (upd (upd f13 ((a1 + 5) : Int32).toNatClampNeg ((u1_0 <<< (8 &&& 31)) ||| u2_0)) ((a1 + 6) : Int32).toNatClampNeg u2_1)))]) [2, 1, 0] (by decide) rfl
        have hK9 := hK.sub (tys' := [(cf0, .byte), (cf13, .int)]) [1, 0] rfl
        exact W.vret hx hb hr (fun t ht hW => ⟨⟨(), rfl, trivial, by rw [ht]; exact hP9, va_K.moved hW.alike hK9, hD9⟩, hS.F ht⟩) hS.2.2 dX3_readCode_103
    · rw [if_neg c_7] at hsp
      refine lv_aload_n hx hb dX3_readCode_35 rfl (lv_at hl 3 rfl) ?_
      refine lv_iload_n hx hb dX3_readCode_36 rfl (lv_at hl 2 rfl) ?_
      obtain ⟨u6_0, hu_6, hsp⟩ := ox_bind hsp
      try dsimp only at hsp
      have hPc := hP.sub (ws' := [(h0, .inr (3, [.ref qf0, .int v1, .int u2_1, .int u2_2, .ref qf4, .ref qf5, .ref qf6, .int v7, .int v8, .int v9, .int v10, .ref qf11, .int v12, .ref qf13]))]) [1] rfl
      have hDc := hD.sub (ws' := [(h0, .inr (3, [.ref qf0, .int v1, .int u2_1, .int u2_2, .ref qf4, .ref qf5, .ref qf6, .int v7, .int v8, .int v9, .int v10, .ref qf11, .int v12, .ref qf13]))]) [1] (by decide) rfl
      have hKc := hK.sub (tys' := []) [] rfl
      have hFc := va_free (wc := [(h0, .inr (3, [.ref qf0, .int v1, .int u2_1, .int u2_2, .ref qf4, .ref qf5, .ref qf6, .int v7, .int v8, .int v9, .int v10, .ref qf11, .int v12, .ref qf13]))]) hD hS hA [1] rfl
      refine va_callv (va_runV (As := [.int v2]) (rest := []) ⟨hx, hb, hml, hown, hts⟩ (ti_bad l dC dI H.size h0 v2 qf0 v1 u2_1 u2_2 qf4 qf5 qf6 v7 v8 v9 v10 qf11 v12 qf13 nf u6_0 hu_6) (cwV 1 hts gv_h3_9 rfl rfl rfl (by decide +kernel) ⟨Nat.le_of_ble_eq_true rfl, Nat.le_of_ble_eq_true rfl⟩) ⟨fun a U g mk q => by obtain ⟨q0, q1, qP, qK, qD⟩ := q; exact ⟨q0, q1, qP, va_K.moved (u := U) (U := U.calling g mk a) (Vm.Alike.refl U.vm) qK, qD⟩, va_recv hKc hPc (ci := 3) (q0 := 0) rfl rfl, fun U hU hW => ⟨rfl, by rw [hU], by rw [hU]; exact hPc, va_K.moved hW.alike hKc, hDc.weaken (fun _ _ _ _ => trivial)⟩⟩ rfl rfl hl.1 rfl (lv_room (Nat.le_of_ble_eq_true rfl)) dX3_readCode_37 ⟨Nat.le_of_ble_eq_true rfl, Nat.le_of_ble_eq_true rfl⟩) hS (fun q _ h => hFc q h) hFc ?_
      clear hS
      intro u t H1 locs ht hvm hw hB hz1 hk1 hS
      obtain ⟨⟩ := u
      obtain ⟨hP1, hK1, hD1⟩ := hB
      rw [ht] at hP1
      have hK1 := va_K.moved hvm.symm hK1
      try dsimp only at hw
      have hPD := va_join (wr := [(qf13, .inl (cf13, 144, .inl f13)), (qf0, .inl (cf0, nb, .inl f0))]) (w1 := [(h0, .inr (3, [.ref qf0, .int v1, .int u2_1, .int u6_0, .ref qf4, .ref qf5, .ref qf6, .int v7, .int v8, .int v9, .int v10, .ref qf11, .int v12, .ref qf13]))]) hP hD [1] [0, 2] rfl rfl (by decide) (by decide) hk1 hFc hP1 hD1
      clear hP hD
      obtain ⟨hP, hD⟩ := hPD
      replace hK := (hK.sub (tys' := [(cf13, .int), (cf0, .byte)]) [0, 1] rfl).app hK1
      clear hPc hDc hKc hFc hP1 hK1 hD1 hz1 hk1 ht hvm
      generalize H1 = H at hP hS ⊢
      replace hP : va_P (dC, dI) vwCl [(qf13, .inl (cf13, 144, .inl f13)), (qf0, .inl (cf0, nb, .inl f0)), (h0, .inr (3, [.ref qf0, .int v1, .int u2_1, .int u6_0, .ref qf4, .ref qf5, .ref qf6, .int v7, .int v8, .int v9, .int v10, .ref qf11, .int v12, .ref qf13]))] H := hP
      replace hD : va_D A [(qf13, .inl (cf13, 144, .inl f13)), (qf0, .inl (cf0, nb, .inl f0)), (h0, .inr (3, [.ref qf0, .int v1, .int u2_1, .int u6_0, .ref qf4, .ref qf5, .ref qf6, .int v7, .int v8, .int v9, .int v10, .ref qf11, .int v12, .ref qf13]))] := hD
      replace hK : va_K (dC, dI) vwCl [(cf13, .int), (cf0, .byte)] s := hK
      refine lv_aload_n hx hb dX3_readCode_40 rfl (lv_at hl 3 rfl) ?_
      refine va_get (D := (dC, dI)) (ci := 3) (v := .ref qf13) (C := RX3) (T := TX3) (N := 14) hx hb hts uV_h3_X3 hown hK hP 2 rfl rfl 13 (by decide) (hts (.fieldLink RX3 30 "ClassMill$Image" "method" "[I") mw_h3_52) (fun _ h9 => h9) rfl dX3_readCode_41 ?_
      refine lv_iload_n hx hb dX3_readCode_44 rfl (lv_at hl 4 rfl) ?_
      refine lv_iconst (v := 5) hx hb dX3_readCode_45 (by decide) ?_
      refine lv_iadd hx hb dX3_readCode_46 ?_
      refine lv_iload hx hb dX3_readCode_47 (lv_at hl 0 rfl) ?_
      obtain ⟨hi_11, hsp⟩ := ox_in hsp
      refine va_iast hx hb hK hP hD hS 0 0 rfl rfl (i := (a1 + 5)) (x := ((u1_0 <<< (8 &&& 31)) ||| u2_0)) hi_11 dX3_readCode_49 ?_
      clear hP hD hS
      intro H locs hP hD hS
      replace hP : va_P (dC, dI) vwCl [(qf13, .inl (cf13, 144, .inl (upd f13 ((a1 + 5) : Int32).toNatClampNeg ((u1_0 <<< (8 &&& 31)) ||| u2_0)))), (qf0, .inl (cf0, nb, .inl f0)), (h0, .inr (3, [.ref qf0, .int v1, .int u2_1, .int u6_0, .ref qf4, .ref qf5, .ref qf6, .int v7, .int v8, .int v9, .int v10, .ref qf11, .int v12, .ref qf13]))] H := hP
      replace hD : va_D A [(qf13, .inl (cf13, 144, .inl (upd f13 ((a1 + 5) : Int32).toNatClampNeg ((u1_0 <<< (8 &&& 31)) ||| u2_0)))), (qf0, .inl (cf0, nb, .inl f0)), (h0, .inr (3, [.ref qf0, .int v1, .int u2_1, .int u6_0, .ref qf4, .ref qf5, .ref qf6, .int v7, .int v8, .int v9, .int v10, .ref qf11, .int v12, .ref qf13]))] := hD
      refine lv_aload_n hx hb dX3_readCode_50 rfl (lv_at hl 3 rfl) ?_
      refine va_get (D := (dC, dI)) (ci := 3) (v := .ref qf13) (C := RX3) (T := TX3) (N := 14) hx hb hts uV_h3_X3 hown hK hP 2 rfl rfl 13 (by decide) (hts (.fieldLink RX3 30 "ClassMill$Image" "method" "[I") mw_h3_52) (fun _ h9 => h9) rfl dX3_readCode_51 ?_
      refine lv_iload_n hx hb dX3_readCode_54 rfl (lv_at hl 4 rfl) ?_
      refine lv_bipush (v := 6) hx hb dX3_readCode_55 (by decide) ?_
      refine lv_iadd hx hb dX3_readCode_57 ?_
      refine lv_aload_n hx hb dX3_readCode_58 rfl (lv_at hl 3 rfl) ?_
      refine va_get (D := (dC, dI)) (ci := 3) (v := .int u2_1) (C := RX3) (T := TX3) (N := 14) hx hb hts uV_h3_X3 hown hK hP 2 rfl rfl 2 (by decide) (hts (.fieldLink RX3 43 "ClassMill$Image" "pos" "I") mw_h3_47) (fun _ h9 => h9) rfl dX3_readCode_59 ?_
      obtain ⟨hi_12, hsp⟩ := ox_in hsp
      refine va_iast hx hb hK hP hD hS 0 0 rfl rfl (i := (a1 + 6)) (x := u2_1) hi_12 dX3_readCode_62 ?_
      clear hP hD hS
      intro H locs hP hD hS
      replace hP : va_P (dC, dI) vwCl [(qf13, .inl (cf13, 144, .inl (upd (upd f13 ((a1 + 5) : Int32).toNatClampNeg ((u1_0 <<< (8 &&& 31)) ||| u2_0)) ((a1 + 6) : Int32).toNatClampNeg u2_1))), (qf0, .inl (cf0, nb, .inl f0)), (h0, .inr (3, [.ref qf0, .int v1, .int u2_1, .int u6_0, .ref qf4, .ref qf5, .ref qf6, .int v7, .int v8, .int v9, .int v10, .ref qf11, .int v12, .ref qf13]))] H := hP
      replace hD : va_D A [(qf13, .inl (cf13, 144, .inl (upd (upd f13 ((a1 + 5) : Int32).toNatClampNeg ((u1_0 <<< (8 &&& 31)) ||| u2_0)) ((a1 + 6) : Int32).toNatClampNeg u2_1))), (qf0, .inl (cf0, nb, .inl f0)), (h0, .inr (3, [.ref qf0, .int v1, .int u2_1, .int u6_0, .ref qf4, .ref qf5, .ref qf6, .int v7, .int v8, .int v9, .int v10, .ref qf11, .int v12, .ref qf13]))] := hD
      refine lv_aload_n hx hb dX3_readCode_63 rfl (lv_at hl 3 rfl) ?_
      refine va_get (D := (dC, dI)) (ci := 3) (v := .int u2_1) (C := RX3) (T := TX3) (N := 14) hx hb hts uV_h3_X3 hown hK hP 2 rfl rfl 2 (by decide) (hts (.fieldLink RX3 43 "ClassMill$Image" "pos" "I") mw_h3_47) (fun _ h9 => h9) rfl dX3_readCode_64 ?_
      refine lv_iload hx hb dX3_readCode_67 (lv_at hl 0 rfl) ?_
      refine lv_iadd hx hb dX3_readCode_69 ?_
      refine lv_aload_n hx hb dX3_readCode_70 rfl (lv_at hl 3 rfl) ?_
      refine va_get (D := (dC, dI)) (ci := 3) (v := .int v1) (C := RX3) (T := TX3) (N := 14) hx hb hts uV_h3_X3 hown hK hP 2 rfl rfl 1 (by decide) (hts (.fieldLink RX3 39 "ClassMill$Image" "size" "I") mw_h3_25) (fun _ h9 => h9) rfl dX3_readCode_71 ?_
      refine lv_icmp_le (tgt := 85) hx hb dX3_readCode_74 (by decide) (fun c_13 => ?_) (fun c_13 => ?_)
      · rw [if_pos c_13] at hsp
        refine lv_aload_n hx hb dX3_readCode_85 rfl (lv_at hl 3 rfl) ?_
        refine lv_aload_n hx hb dX3_readCode_86 rfl (lv_at hl 3 rfl) ?_
        refine va_get (D := (dC, dI)) (ci := 3) (v := .int u2_1) (C := RX3) (T := TX3) (N := 14) hx hb hts uV_h3_X3 hown hK hP 2 rfl rfl 2 (by decide) (hts (.fieldLink RX3 43 "ClassMill$Image" "pos" "I") mw_h3_47) (fun _ h9 => h9) rfl dX3_readCode_87 ?_
        refine lv_iload hx hb dX3_readCode_90 (lv_at hl 0 rfl) ?_
        refine lv_iadd hx hb dX3_readCode_92 ?_
        refine lv_aload_n hx hb dX3_readCode_93 rfl (lv_at hl 3 rfl) ?_
        refine va_get (D := (dC, dI)) (ci := 3) (v := .int v1) (C := RX3) (T := TX3) (N := 14) hx hb hts uV_h3_X3 hown hK hP 2 rfl rfl 1 (by decide) (hts (.fieldLink RX3 39 "ClassMill$Image" "size" "I") mw_h3_25) (fun _ h9 => h9) rfl dX3_readCode_94 ?_
        refine va_mmin hx hb (by rw [hml]; exact hl.1.symm) hown (hts (.methodLink RX3 33 yJ9_min_7cf53) mw_h3_53) (hts (.static yJ9_min_7cf53) mw_h3_54) (hts (.initialized "java/lang/Math") mw_h3_55) (hts (.code yJ9_min_7cf53 cJ9_min_7cf53 2 (some .int)) mw_h3_56) (Nat.le_of_ble_eq_true rfl) (Nat.le_of_ble_eq_true rfl) (Nat.le_of_ble_eq_true rfl) (Nat.le_of_ble_eq_true rfl) dX3_readCode_97 ?_
        refine va_put (D := (dC, dI)) (ci := 3) (v := .int (if v1 < (u2_1 + ((u1_0 <<< (8 &&& 31)) ||| u2_0)) then v1 else (u2_1 + ((u1_0 <<< (8 &&& 31)) ||| u2_0)))) (ty := .int) (C := RX3) (T := TX3) (N := 14) hx hb hts uV_h3_X3 tyX3 tyX3_ok nmX3 hown hK hP hD hS 2 rfl rfl 2 (by decide) (hts (.fieldLink RX3 43 "ClassMill$Image" "pos" "I") mw_h3_47) (fun _ h9 => h9) rfl (by decide +kernel) rfl rfl (Nat.le_of_ble_eq_true rfl) dX3_readCode_100 ?_
        clear hP hD hS
        intro H locs hP hD hS
        replace hP : va_P (dC, dI) vwCl [(qf13, .inl (cf13, 144, .inl (upd (upd f13 ((a1 + 5) : Int32).toNatClampNeg ((u1_0 <<< (8 &&& 31)) ||| u2_0)) ((a1 + 6) : Int32).toNatClampNeg u2_1))), (qf0, .inl (cf0, nb, .inl f0)), (h0, .inr (3, [.ref qf0, .int v1, .int (if v1 < (u2_1 + ((u1_0 <<< (8 &&& 31)) ||| u2_0)) then v1 else (u2_1 + ((u1_0 <<< (8 &&& 31)) ||| u2_0))), .int u6_0, .ref qf4, .ref qf5, .ref qf6, .int v7, .int v8, .int v9, .int v10, .ref qf11, .int v12, .ref qf13]))] H := hP
        replace hD : va_D A [(qf13, .inl (cf13, 144, .inl (upd (upd f13 ((a1 + 5) : Int32).toNatClampNeg ((u1_0 <<< (8 &&& 31)) ||| u2_0)) ((a1 + 6) : Int32).toNatClampNeg u2_1))), (qf0, .inl (cf0, nb, .inl f0)), (h0, .inr (3, [.ref qf0, .int v1, .int (if v1 < (u2_1 + ((u1_0 <<< (8 &&& 31)) ||| u2_0)) then v1 else (u2_1 + ((u1_0 <<< (8 &&& 31)) ||| u2_0))), .int u6_0, .ref qf4, .ref qf5, .ref qf6, .int v7, .int v8, .int v9, .int v10, .ref qf11, .int v12, .ref qf13]))] := hD
        have hr0 := Option.some.inj hsp
        clear hsp
        obtain ⟨hq0, hr1⟩ := Prod.mk.inj hr0
        clear hr0
        obtain ⟨hq1, hr2⟩ := Prod.mk.inj hr1
        clear hr1
        subst hq0
        subst hq1
        subst hr2
        have hP9 := hP.sub (ws' := [(h0, .inr (3, [.ref qf0, .int v1, .int (if v1 < (u2_1 + ((u1_0 <<< (8 &&& 31)) ||| u2_0)) then v1 else (u2_1 + ((u1_0 <<< (8 &&& 31)) ||| u2_0))), .int u6_0, .ref qf4, .ref qf5, .ref qf6, .int v7, .int v8, .int v9, .int v10, .ref qf11, .int v12, .ref qf13])), (qf0, .inl (cf0, nb, .inl f0)), (qf13, .inl (cf13, 144, .inl (upd (upd f13 ((a1 + 5) : Int32).toNatClampNeg ((u1_0 <<< (8 &&& 31)) ||| u2_0)) ((a1 + 6) : Int32).toNatClampNeg u2_1)))]) [2, 1, 0] rfl
        have hD9 := hD.sub (ws' := [(h0, .inr (3, [.ref qf0, .int v1, .int (if v1 < (u2_1 + ((u1_0 <<< (8 &&& 31)) ||| u2_0)) then v1 else (u2_1 + ((u1_0 <<< (8 &&& 31)) ||| u2_0))), .int u6_0, .ref qf4, .ref qf5, .ref qf6, .int v7, .int v8, .int v9, .int v10, .ref qf11, .int v12, .ref qf13])), (qf0, .inl (cf0, nb, .inl f0)), (qf13, .inl (cf13, 144, .inl (upd (upd f13 ((a1 + 5) : Int32).toNatClampNeg ((u1_0 <<< (8 &&& 31)) ||| u2_0)) ((a1 + 6) : Int32).toNatClampNeg u2_1)))]) [2, 1, 0] (by decide) rfl
        have hK9 := hK.sub (tys' := [(cf0, .byte), (cf13, .int)]) [1, 0] rfl
        exact W.vret hx hb hr (fun t ht hW => ⟨⟨(), rfl, trivial, by rw [ht]; exact hP9, va_K.moved hW.alike hK9, hD9⟩, hS.F ht⟩) hS.2.2 dX3_readCode_103
      · rw [if_neg c_13] at hsp
        refine lv_aload_n hx hb dX3_readCode_77 rfl (lv_at hl 3 rfl) ?_
        refine lv_aload_n hx hb dX3_readCode_78 rfl (lv_at hl 3 rfl) ?_
        refine va_get (D := (dC, dI)) (ci := 3) (v := .int v1) (C := RX3) (T := TX3) (N := 14) hx hb hts uV_h3_X3 hown hK hP 2 rfl rfl 1 (by decide) (hts (.fieldLink RX3 39 "ClassMill$Image" "size" "I") mw_h3_25) (fun _ h9 => h9) rfl dX3_readCode_79 ?_
        obtain ⟨u7_0, hu_7, hsp⟩ := ox_bind hsp
        try dsimp only at hsp
        have hPc := hP.sub (ws' := [(h0, .inr (3, [.ref qf0, .int v1, .int u2_1, .int u6_0, .ref qf4, .ref qf5, .ref qf6, .int v7, .int v8, .int v9, .int v10, .ref qf11, .int v12, .ref qf13]))]) [2] rfl
        have hDc := hD.sub (ws' := [(h0, .inr (3, [.ref qf0, .int v1, .int u2_1, .int u6_0, .ref qf4, .ref qf5, .ref qf6, .int v7, .int v8, .int v9, .int v10, .ref qf11, .int v12, .ref qf13]))]) [2] (by decide) rfl
        have hKc := hK.sub (tys' := []) [] rfl
        have hFc := va_free (wc := [(h0, .inr (3, [.ref qf0, .int v1, .int u2_1, .int u6_0, .ref qf4, .ref qf5, .ref qf6, .int v7, .int v8, .int v9, .int v10, .ref qf11, .int v12, .ref qf13]))]) hD hS hA [2] rfl
        refine va_callv (va_runV (As := [.int v1]) (rest := []) ⟨hx, hb, hml, hown, hts⟩ (ti_bad l dC dI H.size h0 v1 qf0 v1 u2_1 u6_0 qf4 qf5 qf6 v7 v8 v9 v10 qf11 v12 qf13 nf u7_0 hu_7) (cwV 1 hts gv_h3_9 rfl rfl rfl (by decide +kernel) ⟨Nat.le_of_ble_eq_true rfl, Nat.le_of_ble_eq_true rfl⟩) ⟨fun a U g mk q => by obtain ⟨q0, q1, qP, qK, qD⟩ := q; exact ⟨q0, q1, qP, va_K.moved (u := U) (U := U.calling g mk a) (Vm.Alike.refl U.vm) qK, qD⟩, va_recv hKc hPc (ci := 3) (q0 := 0) rfl rfl, fun U hU hW => ⟨rfl, by rw [hU], by rw [hU]; exact hPc, va_K.moved hW.alike hKc, hDc.weaken (fun _ _ _ _ => trivial)⟩⟩ rfl rfl hl.1 rfl (lv_room (Nat.le_of_ble_eq_true rfl)) dX3_readCode_82 ⟨Nat.le_of_ble_eq_true rfl, Nat.le_of_ble_eq_true rfl⟩) hS (fun q _ h => hFc q h) hFc ?_
        clear hS
        intro u t H1 locs ht hvm hw hB hz1 hk1 hS
        obtain ⟨⟩ := u
        obtain ⟨hP1, hK1, hD1⟩ := hB
        rw [ht] at hP1
        have hK1 := va_K.moved hvm.symm hK1
        try dsimp only at hw
        have hPD := va_join (wr := [(qf13, .inl (cf13, 144, .inl (upd (upd f13 ((a1 + 5) : Int32).toNatClampNeg ((u1_0 <<< (8 &&& 31)) ||| u2_0)) ((a1 + 6) : Int32).toNatClampNeg u2_1))), (qf0, .inl (cf0, nb, .inl f0))]) (w1 := [(h0, .inr (3, [.ref qf0, .int v1, .int u2_1, .int u7_0, .ref qf4, .ref qf5, .ref qf6, .int v7, .int v8, .int v9, .int v10, .ref qf11, .int v12, .ref qf13]))]) hP hD [2] [0, 1] rfl rfl (by decide) (by decide) hk1 hFc hP1 hD1
        clear hP hD
        obtain ⟨hP, hD⟩ := hPD
        replace hK := (hK.sub (tys' := [(cf13, .int), (cf0, .byte)]) [0, 1] rfl).app hK1
        clear hPc hDc hKc hFc hP1 hK1 hD1 hz1 hk1 ht hvm
        generalize H1 = H at hP hS ⊢
        replace hP : va_P (dC, dI) vwCl [(qf13, .inl (cf13, 144, .inl (upd (upd f13 ((a1 + 5) : Int32).toNatClampNeg ((u1_0 <<< (8 &&& 31)) ||| u2_0)) ((a1 + 6) : Int32).toNatClampNeg u2_1))), (qf0, .inl (cf0, nb, .inl f0)), (h0, .inr (3, [.ref qf0, .int v1, .int u2_1, .int u7_0, .ref qf4, .ref qf5, .ref qf6, .int v7, .int v8, .int v9, .int v10, .ref qf11, .int v12, .ref qf13]))] H := hP
        replace hD : va_D A [(qf13, .inl (cf13, 144, .inl (upd (upd f13 ((a1 + 5) : Int32).toNatClampNeg ((u1_0 <<< (8 &&& 31)) ||| u2_0)) ((a1 + 6) : Int32).toNatClampNeg u2_1))), (qf0, .inl (cf0, nb, .inl f0)), (h0, .inr (3, [.ref qf0, .int v1, .int u2_1, .int u7_0, .ref qf4, .ref qf5, .ref qf6, .int v7, .int v8, .int v9, .int v10, .ref qf11, .int v12, .ref qf13]))] := hD
        replace hK : va_K (dC, dI) vwCl [(cf13, .int), (cf0, .byte)] s := hK
        refine lv_aload_n hx hb dX3_readCode_85 rfl (lv_at hl 3 rfl) ?_
        refine lv_aload_n hx hb dX3_readCode_86 rfl (lv_at hl 3 rfl) ?_
        refine va_get (D := (dC, dI)) (ci := 3) (v := .int u2_1) (C := RX3) (T := TX3) (N := 14) hx hb hts uV_h3_X3 hown hK hP 2 rfl rfl 2 (by decide) (hts (.fieldLink RX3 43 "ClassMill$Image" "pos" "I") mw_h3_47) (fun _ h9 => h9) rfl dX3_readCode_87 ?_
        refine lv_iload hx hb dX3_readCode_90 (lv_at hl 0 rfl) ?_
        refine lv_iadd hx hb dX3_readCode_92 ?_
        refine lv_aload_n hx hb dX3_readCode_93 rfl (lv_at hl 3 rfl) ?_
        refine va_get (D := (dC, dI)) (ci := 3) (v := .int v1) (C := RX3) (T := TX3) (N := 14) hx hb hts uV_h3_X3 hown hK hP 2 rfl rfl 1 (by decide) (hts (.fieldLink RX3 39 "ClassMill$Image" "size" "I") mw_h3_25) (fun _ h9 => h9) rfl dX3_readCode_94 ?_
        refine va_mmin hx hb (by rw [hml]; exact hl.1.symm) hown (hts (.methodLink RX3 33 yJ9_min_7cf53) mw_h3_53) (hts (.static yJ9_min_7cf53) mw_h3_54) (hts (.initialized "java/lang/Math") mw_h3_55) (hts (.code yJ9_min_7cf53 cJ9_min_7cf53 2 (some .int)) mw_h3_56) (Nat.le_of_ble_eq_true rfl) (Nat.le_of_ble_eq_true rfl) (Nat.le_of_ble_eq_true rfl) (Nat.le_of_ble_eq_true rfl) dX3_readCode_97 ?_
        refine va_put (D := (dC, dI)) (ci := 3) (v := .int (if v1 < (u2_1 + ((u1_0 <<< (8 &&& 31)) ||| u2_0)) then v1 else (u2_1 + ((u1_0 <<< (8 &&& 31)) ||| u2_0)))) (ty := .int) (C := RX3) (T := TX3) (N := 14) hx hb hts uV_h3_X3 tyX3 tyX3_ok nmX3 hown hK hP hD hS 2 rfl rfl 2 (by decide) (hts (.fieldLink RX3 43 "ClassMill$Image" "pos" "I") mw_h3_47) (fun _ h9 => h9) rfl (by decide +kernel) rfl rfl (Nat.le_of_ble_eq_true rfl) dX3_readCode_100 ?_
        clear hP hD hS
        intro H locs hP hD hS
        replace hP : va_P (dC, dI) vwCl [(qf13, .inl (cf13, 144, .inl (upd (upd f13 ((a1 + 5) : Int32).toNatClampNeg ((u1_0 <<< (8 &&& 31)) ||| u2_0)) ((a1 + 6) : Int32).toNatClampNeg u2_1))), (qf0, .inl (cf0, nb, .inl f0)), (h0, .inr (3, [.ref qf0, .int v1, .int (if v1 < (u2_1 + ((u1_0 <<< (8 &&& 31)) ||| u2_0)) then v1 else (u2_1 + ((u1_0 <<< (8 &&& 31)) ||| u2_0))), .int u7_0, .ref qf4, .ref qf5, .ref qf6, .int v7, .int v8, .int v9, .int v10, .ref qf11, .int v12, .ref qf13]))] H := hP
        replace hD : va_D A [(qf13, .inl (cf13, 144, .inl (upd (upd f13 ((a1 + 5) : Int32).toNatClampNeg ((u1_0 <<< (8 &&& 31)) ||| u2_0)) ((a1 + 6) : Int32).toNatClampNeg u2_1))), (qf0, .inl (cf0, nb, .inl f0)), (h0, .inr (3, [.ref qf0, .int v1, .int (if v1 < (u2_1 + ((u1_0 <<< (8 &&& 31)) ||| u2_0)) then v1 else (u2_1 + ((u1_0 <<< (8 &&& 31)) ||| u2_0))), .int u7_0, .ref qf4, .ref qf5, .ref qf6, .int v7, .int v8, .int v9, .int v10, .ref qf11, .int v12, .ref qf13]))] := hD
        have hr0 := Option.some.inj hsp
        clear hsp
        obtain ⟨hq0, hr1⟩ := Prod.mk.inj hr0
        clear hr0
        obtain ⟨hq1, hr2⟩ := Prod.mk.inj hr1
        clear hr1
        subst hq0
        subst hq1
        subst hr2
        have hP9 := hP.sub (ws' := [(h0, .inr (3, [.ref qf0, .int v1, .int (if v1 < (u2_1 + ((u1_0 <<< (8 &&& 31)) ||| u2_0)) then v1 else (u2_1 + ((u1_0 <<< (8 &&& 31)) ||| u2_0))), .int u7_0, .ref qf4, .ref qf5, .ref qf6, .int v7, .int v8, .int v9, .int v10, .ref qf11, .int v12, .ref qf13])), (qf0, .inl (cf0, nb, .inl f0)), (qf13, .inl (cf13, 144, .inl (upd (upd f13 ((a1 + 5) : Int32).toNatClampNeg ((u1_0 <<< (8 &&& 31)) ||| u2_0)) ((a1 + 6) : Int32).toNatClampNeg u2_1)))]) [2, 1, 0] rfl
        have hD9 := hD.sub (ws' := [(h0, .inr (3, [.ref qf0, .int v1, .int (if v1 < (u2_1 + ((u1_0 <<< (8 &&& 31)) ||| u2_0)) then v1 else (u2_1 + ((u1_0 <<< (8 &&& 31)) ||| u2_0))), .int u7_0, .ref qf4, .ref qf5, .ref qf6, .int v7, .int v8, .int v9, .int v10, .ref qf11, .int v12, .ref qf13])), (qf0, .inl (cf0, nb, .inl f0)), (qf13, .inl (cf13, 144, .inl (upd (upd f13 ((a1 + 5) : Int32).toNatClampNeg ((u1_0 <<< (8 &&& 31)) ||| u2_0)) ((a1 + 6) : Int32).toNatClampNeg u2_1)))]) [2, 1, 0] (by decide) rfl
        have hK9 := hK.sub (tys' := [(cf0, .byte), (cf13, .int)]) [1, 0] rfl
        exact W.vret hx hb hr (fun t ht hW => ⟨⟨(), rfl, trivial, by rw [ht]; exact hP9, va_K.moved hW.alike hK9, hD9⟩, hS.F ht⟩) hS.2.2 dX3_readCode_103
def lp_t3_readHandlers_33 (nf n : Nat) (a1 : Int32) (v1 : Int32) (v2 : Int32) (v3 : Int32) (v7 : Int32) (nb : Nat) (f0 : Nat → Int32) (f13 : Nat → Int32) (f4 : Nat → Int32)  (l1_33 : Int32) (l2_33 : Int32) (l3_33 : Int32) (g13_33 : Nat → Int32) (x2_33 : Int32) (x3_33 : Int32) : Option ((Nat → Int32) × Int32 × Int32) := match n with
  | 0 => none
  | n + 1 => (if l2_33 ≤ l3_33 then (some (g13_33, x2_33, x3_33)) else (if x3_33 = (-1) then ((sp_ti_skipPairs nf 3 v1 x2_33 x3_33 nb f0).bind (fun p2 => ((sp_t3_nextClass nf v1 p2.1 p2.2 v7 nb f0 f4).bind (fun p3 => (lp_t3_readHandlers_33 nf n a1 v1 v2 v3 v7 nb f0 f13 f4 l1_33 l2_33 (l3_33 + 1) g13_33 p3.1 p3.2))))) else (some (g13_33, x2_33, x3_33))))
def sp_t3_readHandlers (nf : Nat) (a1 : Int32) (v1 : Int32) (v2 : Int32) (v3 : Int32) (v7 : Int32) (nb : Nat) (f0 : Nat → Int32) (f13 : Nat → Int32) (f4 : Nat → Int32) : Option ((Nat → Int32) × Int32 × Int32) := ((sp_ti_nextUpTo nf 0 20 v1 v2 v3 nb f0).bind (fun p1 => (if (a1 + 7) < 0 then none else if 144 ≤ ((a1 + 7) : Int32).toNatClampNeg then none else (if (a1 + 8) < 0 then none else if 144 ≤ ((a1 + 8) : Int32).toNatClampNeg then none else (lp_t3_readHandlers_33 nf nf a1 v1 v2 v3 v7 nb f0 f13 f4 a1 p1.1 0 (upd (upd f13 ((a1 + 7) : Int32).toNatClampNeg p1.1) ((a1 + 8) : Int32).toNatClampNeg p1.2.1) p1.2.1 p1.2.2)))))
set_option maxHeartbeats 4000000 in
set_option maxRecDepth 100000 in
/-- ClassMill$Image.readHandlers -/
theorem t3_readHandlers (l : Launch) (dC : Nat → ClassId) (dI : Nat → Nat → Nat) (sz : Nat) (h0 : Nat) (a1 : Int32) (qf0 : Nat) (v1 : Int32) (v2 : Int32) (v3 : Int32) (qf4 : Nat) (qf5 : Nat) (qf6 : Nat) (v7 : Int32) (v8 : Int32) (v9 : Int32) (v10 : Int32) (qf11 : Nat) (v12 : Int32) (qf13 : Nat) (cf0 : ClassId) (nb : Nat) (f0 : (Nat → Int32)) (cf13 : ClassId) (f13 : (Nat → Int32)) (cf4 : ClassId) (f4 : (Nat → Int32)) (nf : Nat) (o13 : (Nat → Int32)) (w2 : Int32) (w3 : Int32) (hsp : sp_t3_readHandlers nf a1 v1 v2 v3 v7 nb f0 f13 f4 = some (o13, w2, w3)) : Met l yX3_readHandlers (.code yX3_readHandlers cX3_readHandlers 4 none :: VS_h3) ({ frames := 2, cells := 0, slots := 0, locals := 44 }) (va_Pc [.ref h0, .int a1] (fun U => U.heap.size = sz ∧ va_P (dC, dI) vwCl [(h0, .inr (3, [.ref qf0, .int v1, .int v2, .int v3, .ref qf4, .ref qf5, .ref qf6, .int v7, .int v8, .int v9, .int v10, .ref qf11, .int v12, .ref qf13])), (qf0, .inl (cf0, nb, .inl f0)), (qf13, .inl (cf13, 144, .inl f13)), (qf4, .inl (cf4, 256, .inl f4))] U.heap ∧ va_K (dC, dI) vwCl [(cf0, .byte), (cf13, .int), (cf4, .int)] U ∧ va_D (fun _ => True) [(h0, .inr (3, [.ref qf0, .int v1, .int v2, .int v3, .ref qf4, .ref qf5, .ref qf6, .int v7, .int v8, .int v9, .int v10, .ref qf11, .int v12, .ref qf13])), (qf0, .inl (cf0, nb, .inl f0)), (qf13, .inl (cf13, 144, .inl f13)), (qf4, .inl (cf4, 256, .inl f4))])) (va_Qv (fun (u : Unit) => match u with | () => True) (fun (u : Unit) (t : State) => match u with | () => va_P (dC, dI) vwCl [(h0, .inr (3, [.ref qf0, .int v1, .int w2, .int w3, .ref qf4, .ref qf5, .ref qf6, .int v7, .int v8, .int v9, .int v10, .ref qf11, .int v12, .ref qf13])), (qf0, .inl (cf0, nb, .inl f0)), (qf13, .inl (cf13, 144, .inl o13)), (qf4, .inl (cf4, 256, .inl f4))] t.heap ∧ va_K (dC, dI) vwCl [(cf0, .byte), (cf13, .int), (cf4, .int)] t ∧ va_D (va_A [(h0, .inr (3, [.ref qf0, .int v1, .int v2, .int v3, .ref qf4, .ref qf5, .ref qf6, .int v7, .int v8, .int v9, .int v10, .ref qf11, .int v12, .ref qf13])), (qf0, .inl (cf0, nb, .inl f0)), (qf13, .inl (cf13, 144, .inl f13)), (qf4, .inl (cf4, 256, .inl f4))] sz) [(h0, .inr (3, [.ref qf0, .int v1, .int w2, .int w3, .ref qf4, .ref qf5, .ref qf6, .int v7, .int v8, .int v9, .int v10, .ref qf11, .int v12, .ref qf13])), (qf0, .inl (cf0, nb, .inl f0)), (qf13, .inl (cf13, 144, .inl o13)), (qf4, .inl (cf4, 256, .inl f4))]) (va_A [(h0, .inr (3, [.ref qf0, .int v1, .int v2, .int v3, .ref qf4, .ref qf5, .ref qf6, .int v7, .int v8, .int v9, .int v10, .ref qf11, .int v12, .ref qf13])), (qf0, .inl (cf0, nb, .inl f0)), (qf13, .inl (cf13, 144, .inl f13)), (qf4, .inl (cf4, 256, .inl f4))] sz)) 0 0 (va_A [(h0, .inr (3, [.ref qf0, .int v1, .int v2, .int v3, .ref qf4, .ref qf5, .ref qf6, .int v7, .int v8, .int v9, .int v10, .ref qf11, .int v12, .ref qf13])), (qf0, .inl (cf0, nb, .inl f0)), (qf13, .inl (cf13, 144, .inl f13)), (qf4, .inl (cf4, 256, .inl f4))] sz) := by
  refine Met.ofW (cc := cX3_readHandlers) (maxL := 4) (ret := none) (by decide) rfl ?_
  intro p e s m args below meth c s₁ B hml hv
  obtain ⟨rfl, hsz, hP, hK, hD0⟩ := hv
  have hx := B.exec
  have hb := B.bytes
  have hr := B.returns
  have hts := atoms_spec (ws := (.code yX3_readHandlers cX3_readHandlers 4 none :: VS_h3)) B.pre
  replace hts := fun w (h : w ∈ VS_h3) => hts w (List.mem_cons_of_mem _ h)
  have hown : s.vm.findClass RX3 = some m.cls := findClass_of_methodNamed B.named
  have hlocks := B.notSynchronized
  subst hsz
  have hD := hD0.self (sz := s.heap.size)
  generalize hAe : va_A [(h0, .inr (3, [.ref qf0, .int v1, .int v2, .int v3, .ref qf4, .ref qf5, .ref qf6, .int v7, .int v8, .int v9, .int v10, .ref qf11, .int v12, .ref qf13])), (qf0, .inl (cf0, nb, .inl f0)), (qf13, .inl (cf13, 144, .inl f13)), (qf4, .inl (cf4, 256, .inl f4))] s.heap.size = A at hD  ⊢
  have hA : ∀ q : Nat, s.heap.size ≤ q → A q := fun q h => by rw [← hAe]; exact Or.inr h
  have hP : va_P (dC, dI) vwCl [(h0, .inr (3, [.ref qf0, .int v1, .int v2, .int v3, .ref qf4, .ref qf5, .ref qf6, .int v7, .int v8, .int v9, .int v10, .ref qf11, .int v12, .ref qf13])), (qf0, .inl (cf0, nb, .inl f0)), (qf13, .inl (cf13, 144, .inl f13)), (qf4, .inl (cf4, 256, .inl f4))] s.heap := hP
  have hl := lv_entry ([.ref h0, .int a1]) (n := 4) (Nat.le_of_ble_eq_true rfl)
  rw [lg_entry_eq]
  generalize (lg_sl ([.ref h0, .int a1]) ++ List.replicate (4 - (lg_sl ([.ref h0, .int a1])).length) Slot.unset).toArray = ls at hl ⊢
  have hl : lv_has ls 4 [(0, .ref h0), (1, .int a1)] := hl
  obtain ⟨H, hH⟩ : ∃ H : Heap, s.heap = H := ⟨_, rfl⟩
  rw [hH] at hP ⊢
  have hS : va_S A s.heap H [] := by rw [← hH]; exact va_S.rf
  obtain ⟨locs, hlo⟩ : ∃ locs : List Loc, locs = [] := ⟨_, rfl⟩
  rw [← hlo] at hS ⊢
  unfold sp_t3_readHandlers at hsp
  refine lv_aload_n hx hb dX3_readHandlers_0 rfl (lv_at hl 0 rfl) ?_
  refine lv_iconst (v := 0) hx hb dX3_readHandlers_1 (by decide) ?_
  refine lv_bipush (v := 20) hx hb dX3_readHandlers_2 (by decide) ?_
  obtain ⟨⟨u1_0, u1_1, u1_2⟩, hu_1, hsp⟩ := ox_bind hsp
  try dsimp only at hsp
  have hPc := hP.sub (ws' := [(h0, .inr (3, [.ref qf0, .int v1, .int v2, .int v3, .ref qf4, .ref qf5, .ref qf6, .int v7, .int v8, .int v9, .int v10, .ref qf11, .int v12, .ref qf13])), (qf0, .inl (cf0, nb, .inl f0))]) [0, 1] rfl
  have hDc := hD.sub (ws' := [(h0, .inr (3, [.ref qf0, .int v1, .int v2, .int v3, .ref qf4, .ref qf5, .ref qf6, .int v7, .int v8, .int v9, .int v10, .ref qf11, .int v12, .ref qf13])), (qf0, .inl (cf0, nb, .inl f0))]) [0, 1] (by decide) rfl
  have hKc := hK.sub (tys' := [(cf0, .byte)]) [0] rfl
  have hFc := va_free (wc := [(h0, .inr (3, [.ref qf0, .int v1, .int v2, .int v3, .ref qf4, .ref qf5, .ref qf6, .int v7, .int v8, .int v9, .int v10, .ref qf11, .int v12, .ref qf13])), (qf0, .inl (cf0, nb, .inl f0))]) hD hS hA [0, 1] rfl
  refine va_calli (va_runV (As := [.int 0, .int 20]) (rest := []) ⟨hx, hb, hml, hown, hts⟩ (ti_nextUpTo l dC dI H.size h0 0 20 qf0 v1 v2 v3 qf4 qf5 qf6 v7 v8 v9 v10 qf11 v12 qf13 cf0 nb f0 nf u1_0 u1_1 u1_2 hu_1) (cwV 2 hts gv_h3_1 rfl rfl rfl (by decide +kernel) ⟨Nat.le_of_ble_eq_true rfl, Nat.le_of_ble_eq_true rfl⟩) ⟨fun a U g mk q => by obtain ⟨q0, q1, qP, qK, qD⟩ := q; exact ⟨q0, q1, qP, va_K.moved (u := U) (U := U.calling g mk a) (Vm.Alike.refl U.vm) qK, qD⟩, va_recv hKc hPc (ci := 3) (q0 := 0) rfl rfl, fun U hU hW => ⟨rfl, by rw [hU], by rw [hU]; exact hPc, va_K.moved hW.alike hKc, hDc.weaken (fun _ _ _ _ => trivial)⟩⟩ rfl rfl hl.1 rfl (lv_room (Nat.le_of_ble_eq_true rfl)) dX3_readHandlers_4 ⟨Nat.le_of_ble_eq_true rfl, Nat.le_of_ble_eq_true rfl⟩) hS (fun q _ h => hFc q h) hFc ?_
  clear hS
  intro r_1 u t H1 locs ht hvm hw hB hz1 hk1 hS
  obtain ⟨⟩ := u
  obtain ⟨hP1, hK1, hD1⟩ := hB
  rw [ht] at hP1
  have hK1 := va_K.moved hvm.symm hK1
  try dsimp only at hw
  have hPD := va_join (wr := [(qf13, .inl (cf13, 144, .inl f13)), (qf4, .inl (cf4, 256, .inl f4))]) (w1 := [(h0, .inr (3, [.ref qf0, .int v1, .int u1_1, .int u1_2, .ref qf4, .ref qf5, .ref qf6, .int v7, .int v8, .int v9, .int v10, .ref qf11, .int v12, .ref qf13])), (qf0, .inl (cf0, nb, .inl f0))]) hP hD [0, 1] [2, 3] rfl rfl (by decide) (by decide) hk1 hFc hP1 hD1
  clear hP hD
  obtain ⟨hP, hD⟩ := hPD
  replace hK := (hK.sub (tys' := [(cf13, .int), (cf4, .int)]) [1, 2] rfl).app hK1
  clear hPc hDc hKc hFc hP1 hK1 hD1 hz1 hk1 ht hvm
  generalize H1 = H at hP hS ⊢
  replace hP : va_P (dC, dI) vwCl [(qf13, .inl (cf13, 144, .inl f13)), (qf4, .inl (cf4, 256, .inl f4)), (h0, .inr (3, [.ref qf0, .int v1, .int u1_1, .int u1_2, .ref qf4, .ref qf5, .ref qf6, .int v7, .int v8, .int v9, .int v10, .ref qf11, .int v12, .ref qf13])), (qf0, .inl (cf0, nb, .inl f0))] H := hP
  replace hD : va_D A [(qf13, .inl (cf13, 144, .inl f13)), (qf4, .inl (cf4, 256, .inl f4)), (h0, .inr (3, [.ref qf0, .int v1, .int u1_1, .int u1_2, .ref qf4, .ref qf5, .ref qf6, .int v7, .int v8, .int v9, .int v10, .ref qf11, .int v12, .ref qf13])), (qf0, .inl (cf0, nb, .inl f0))] := hD
  replace hK : va_K (dC, dI) vwCl [(cf13, .int), (cf4, .int), (cf0, .byte)] s := hK
  obtain rfl := hw
  refine lv_istore_n (lv' := [(2, .int u1_0), (0, .ref h0), (1, .int a1)]) hx hb dX3_readHandlers_7 rfl hl (by decide) rfl (fun ls hl => ?_)
  refine lv_aload_n hx hb dX3_readHandlers_8 rfl (lv_at hl 1 rfl) ?_
  refine va_get (D := (dC, dI)) (ci := 3) (v := .ref qf13) (C := RX3) (T := TX3) (N := 14) hx hb hts uV_h3_X3 hown hK hP 2 rfl rfl 13 (by decide) (hts (.fieldLink RX3 30 "ClassMill$Image" "method" "[I") mw_h3_52) (fun _ h9 => h9) rfl dX3_readHandlers_9 ?_
  refine lv_iload_n hx hb dX3_readHandlers_12 rfl (lv_at hl 2 rfl) ?_
  refine lv_bipush (v := 7) hx hb dX3_readHandlers_13 (by decide) ?_
  refine lv_iadd hx hb dX3_readHandlers_15 ?_
  refine lv_iload_n hx hb dX3_readHandlers_16 rfl (lv_at hl 0 rfl) ?_
  obtain ⟨hi_2, hsp⟩ := ox_in hsp
  refine va_iast hx hb hK hP hD hS 0 0 rfl rfl (i := (a1 + 7)) (x := u1_0) hi_2 dX3_readHandlers_17 ?_
  clear hP hD hS
  intro H locs hP hD hS
  replace hP : va_P (dC, dI) vwCl [(qf13, .inl (cf13, 144, .inl (upd f13 ((a1 + 7) : Int32).toNatClampNeg u1_0))), (qf4, .inl (cf4, 256, .inl f4)), (h0, .inr (3, [.ref qf0, .int v1, .int u1_1, .int u1_2, .ref qf4, .ref qf5, .ref qf6, .int v7, .int v8, .int v9, .int v10, .ref qf11, .int v12, .ref qf13])), (qf0, .inl (cf0, nb, .inl f0))] H := hP
  replace hD : va_D A [(qf13, .inl (cf13, 144, .inl (upd f13 ((a1 + 7) : Int32).toNatClampNeg u1_0))), (qf4, .inl (cf4, 256, .inl f4)), (h0, .inr (3, [.ref qf0, .int v1, .int u1_1, .int u1_2, .ref qf4, .ref qf5, .ref qf6, .int v7, .int v8, .int v9, .int v10, .ref qf11, .int v12, .ref qf13])), (qf0, .inl (cf0, nb, .inl f0))] := hD
  refine lv_aload_n hx hb dX3_readHandlers_18 rfl (lv_at hl 1 rfl) ?_
  refine va_get (D := (dC, dI)) (ci := 3) (v := .ref qf13) (C := RX3) (T := TX3) (N := 14) hx hb hts uV_h3_X3 hown hK hP 2 rfl rfl 13 (by decide) (hts (.fieldLink RX3 30 "ClassMill$Image" "method" "[I") mw_h3_52) (fun _ h9 => h9) rfl dX3_readHandlers_19 ?_
  refine lv_iload_n hx hb dX3_readHandlers_22 rfl (lv_at hl 2 rfl) ?_
  refine lv_bipush (v := 8) hx hb dX3_readHandlers_23 (by decide) ?_
  refine lv_iadd hx hb dX3_readHandlers_25 ?_
  refine lv_aload_n hx hb dX3_readHandlers_26 rfl (lv_at hl 1 rfl) ?_
  refine va_get (D := (dC, dI)) (ci := 3) (v := .int u1_1) (C := RX3) (T := TX3) (N := 14) hx hb hts uV_h3_X3 hown hK hP 2 rfl rfl 2 (by decide) (hts (.fieldLink RX3 43 "ClassMill$Image" "pos" "I") mw_h3_47) (fun _ h9 => h9) rfl dX3_readHandlers_27 ?_
  obtain ⟨hi_3, hsp⟩ := ox_in hsp
  refine va_iast hx hb hK hP hD hS 0 0 rfl rfl (i := (a1 + 8)) (x := u1_1) hi_3 dX3_readHandlers_30 ?_
  clear hP hD hS
  intro H locs hP hD hS
  replace hP : va_P (dC, dI) vwCl [(qf13, .inl (cf13, 144, .inl (upd (upd f13 ((a1 + 7) : Int32).toNatClampNeg u1_0) ((a1 + 8) : Int32).toNatClampNeg u1_1))), (qf4, .inl (cf4, 256, .inl f4)), (h0, .inr (3, [.ref qf0, .int v1, .int u1_1, .int u1_2, .ref qf4, .ref qf5, .ref qf6, .int v7, .int v8, .int v9, .int v10, .ref qf11, .int v12, .ref qf13])), (qf0, .inl (cf0, nb, .inl f0))] H := hP
  replace hD : va_D A [(qf13, .inl (cf13, 144, .inl (upd (upd f13 ((a1 + 7) : Int32).toNatClampNeg u1_0) ((a1 + 8) : Int32).toNatClampNeg u1_1))), (qf4, .inl (cf4, 256, .inl f4)), (h0, .inr (3, [.ref qf0, .int v1, .int u1_1, .int u1_2, .ref qf4, .ref qf5, .ref qf6, .int v7, .int v8, .int v9, .int v10, .ref qf11, .int v12, .ref qf13])), (qf0, .inl (cf0, nb, .inl f0))] := hD
  refine lv_iconst (v := 0) hx hb dX3_readHandlers_31 (by decide) ?_
  refine lv_istore_n (lv' := [(3, .int 0), (2, .int u1_0), (0, .ref h0), (1, .int a1)]) hx hb dX3_readHandlers_32 rfl hl (by decide) rfl (fun ls hl => ?_)
  replace hP := hP.sub (ws' := [(h0, .inr (3, [.ref qf0, .int v1, .int u1_1, .int u1_2, .ref qf4, .ref qf5, .ref qf6, .int v7, .int v8, .int v9, .int v10, .ref qf11, .int v12, .ref qf13])), (qf0, .inl (cf0, nb, .inl f0)), (qf13, .inl (cf13, 144, .inl (upd (upd f13 ((a1 + 7) : Int32).toNatClampNeg u1_0) ((a1 + 8) : Int32).toNatClampNeg u1_1))), (qf4, .inl (cf4, 256, .inl f4))]) [2, 3, 0, 1] rfl
  replace hD := hD.sub (ws' := [(h0, .inr (3, [.ref qf0, .int v1, .int u1_1, .int u1_2, .ref qf4, .ref qf5, .ref qf6, .int v7, .int v8, .int v9, .int v10, .ref qf11, .int v12, .ref qf13])), (qf0, .inl (cf0, nb, .inl f0)), (qf13, .inl (cf13, 144, .inl (upd (upd f13 ((a1 + 7) : Int32).toNatClampNeg u1_0) ((a1 + 8) : Int32).toNatClampNeg u1_1))), (qf4, .inl (cf4, 256, .inl f4))]) [2, 3, 0, 1] (by decide) rfl
  replace hK := hK.sub (tys' := [(cf0, .byte), (cf13, .int), (cf4, .int)]) [2, 0, 1] rfl
  obtain ⟨n_33, hn_33⟩ : ∃ z : Nat, z = nf := ⟨_, rfl⟩
  obtain ⟨l1_33, el1_33⟩ : ∃ z : Int32, z = a1 := ⟨_, rfl⟩
  obtain ⟨l2_33, el2_33⟩ : ∃ z : Int32, z = u1_0 := ⟨_, rfl⟩
  obtain ⟨l3_33, el3_33⟩ : ∃ z : Int32, z = 0 := ⟨_, rfl⟩
  obtain ⟨g13_33, eg13_33⟩ : ∃ z : Nat → Int32, z = (upd (upd f13 ((a1 + 7) : Int32).toNatClampNeg u1_0) ((a1 + 8) : Int32).toNatClampNeg u1_1) := ⟨_, rfl⟩
  obtain ⟨x2_33, ex2_33⟩ : ∃ z : Int32, z = u1_1 := ⟨_, rfl⟩
  obtain ⟨x3_33, ex3_33⟩ : ∃ z : Int32, z = u1_2 := ⟨_, rfl⟩
  replace hsp : lp_t3_readHandlers_33 nf n_33 a1 v1 v2 v3 v7 nb f0 f13 f4 l1_33 l2_33 l3_33 g13_33 x2_33 x3_33 = some (o13, w2, w3) := by rw [hn_33, el1_33, el2_33, el3_33, eg13_33, ex2_33, ex3_33]; exact hsp
  replace hl : lv_has ls 4 [(3, .int l3_33), (2, .int l2_33), (0, .ref h0), (1, .int l1_33)] := by rw [el1_33, el2_33, el3_33]; exact hl
  replace hP : va_P (dC, dI) vwCl [(h0, .inr (3, [.ref qf0, .int v1, .int x2_33, .int x3_33, .ref qf4, .ref qf5, .ref qf6, .int v7, .int v8, .int v9, .int v10, .ref qf11, .int v12, .ref qf13])), (qf0, .inl (cf0, nb, .inl f0)), (qf13, .inl (cf13, 144, .inl g13_33)), (qf4, .inl (cf4, 256, .inl f4))] H := by rw [eg13_33, ex2_33, ex3_33]; exact hP
  replace hD : va_D A [(h0, .inr (3, [.ref qf0, .int v1, .int x2_33, .int x3_33, .ref qf4, .ref qf5, .ref qf6, .int v7, .int v8, .int v9, .int v10, .ref qf11, .int v12, .ref qf13])), (qf0, .inl (cf0, nb, .inl f0)), (qf13, .inl (cf13, 144, .inl g13_33)), (qf4, .inl (cf4, 256, .inl f4))] := by rw [eg13_33, ex2_33, ex3_33]; exact hD
  clear hn_33 el1_33 el2_33 el3_33 eg13_33 ex2_33 ex3_33
  try clear hlo
  try clear hH
  revert hsp
  revert hP
  revert hD
  revert hS
  revert hl
  revert x3_33
  revert x2_33
  revert g13_33
  revert l3_33
  revert l2_33
  revert l1_33
  revert ls
  revert locs
  revert H
  induction n_33 with
  | zero => intro H locs ls l1_33 l2_33 l3_33 g13_33 x2_33 x3_33 hl hS hD hP hsp; unfold lp_t3_readHandlers_33 at hsp; cases hsp
  | succ n_33 ih_33 =>
    intro H locs ls l1_33 l2_33 l3_33 g13_33 x2_33 x3_33 hl hS hD hP hsp
    unfold lp_t3_readHandlers_33 at hsp
    try dsimp only at hsp
    refine lv_iload_n hx hb dX3_readHandlers_33 rfl (lv_at hl 0 rfl) ?_
    refine lv_iload_n hx hb dX3_readHandlers_34 rfl (lv_at hl 1 rfl) ?_
    refine lv_icmp_ge (tgt := 61) hx hb dX3_readHandlers_35 (by decide) (fun c_4 => ?_) (fun c_4 => ?_)
    · rw [if_pos c_4] at hsp
      have hr0 := Option.some.inj hsp
      clear hsp
      obtain ⟨hq0, hr1⟩ := Prod.mk.inj hr0
      clear hr0
      obtain ⟨hq1, hr2⟩ := Prod.mk.inj hr1
      clear hr1
      subst hq0
      subst hq1
      subst hr2
      have hP9 := hP.sub (ws' := [(h0, .inr (3, [.ref qf0, .int v1, .int x2_33, .int x3_33, .ref qf4, .ref qf5, .ref qf6, .int v7, .int v8, .int v9, .int v10, .ref qf11, .int v12, .ref qf13])), (qf0, .inl (cf0, nb, .inl f0)), (qf13, .inl (cf13, 144, .inl g13_33)), (qf4, .inl (cf4, 256, .inl f4))]) [0, 1, 2, 3] rfl
      have hD9 := hD.sub (ws' := [(h0, .inr (3, [.ref qf0, .int v1, .int x2_33, .int x3_33, .ref qf4, .ref qf5, .ref qf6, .int v7, .int v8, .int v9, .int v10, .ref qf11, .int v12, .ref qf13])), (qf0, .inl (cf0, nb, .inl f0)), (qf13, .inl (cf13, 144, .inl g13_33)), (qf4, .inl (cf4, 256, .inl f4))]) [0, 1, 2, 3] (by decide) rfl
      have hK9 := hK.sub (tys' := [(cf0, .byte), (cf13, .int), (cf4, .int)]) [0, 1, 2] rfl
      exact W.vret hx hb hr (fun t ht hW => ⟨⟨(), rfl, trivial, by rw [ht]; exact hP9, va_K.moved hW.alike hK9, hD9⟩, hS.F ht⟩) hS.2.2 dX3_readHandlers_61
    · rw [if_neg c_4] at hsp
      refine lv_aload_n hx hb dX3_readHandlers_38 rfl (lv_at hl 2 rfl) ?_
      refine va_get (D := (dC, dI)) (ci := 3) (v := .int x3_33) (C := RX3) (T := TX3) (N := 14) hx hb hts uV_h3_X3 hown hK hP 0 rfl rfl 3 (by decide) (hts (.fieldLink RX3 46 "ClassMill$Image" "form" "I") mw_h3_65) (fun _ h9 => h9) rfl dX3_readHandlers_39 ?_
      refine lv_iconst (v := (-1)) hx hb dX3_readHandlers_42 (by decide) ?_
      refine lv_icmp_ne (tgt := 61) hx hb dX3_readHandlers_43 (by decide) (fun c_5 => ?_) (fun c_5 => ?_)
      · rw [if_neg c_5] at hsp
        have hr0 := Option.some.inj hsp
        clear hsp
        obtain ⟨hq0, hr1⟩ := Prod.mk.inj hr0
        clear hr0
        obtain ⟨hq1, hr2⟩ := Prod.mk.inj hr1
        clear hr1
        subst hq0
        subst hq1
        subst hr2
        have hP9 := hP.sub (ws' := [(h0, .inr (3, [.ref qf0, .int v1, .int x2_33, .int x3_33, .ref qf4, .ref qf5, .ref qf6, .int v7, .int v8, .int v9, .int v10, .ref qf11, .int v12, .ref qf13])), (qf0, .inl (cf0, nb, .inl f0)), (qf13, .inl (cf13, 144, .inl g13_33)), (qf4, .inl (cf4, 256, .inl f4))]) [0, 1, 2, 3] rfl
        have hD9 := hD.sub (ws' := [(h0, .inr (3, [.ref qf0, .int v1, .int x2_33, .int x3_33, .ref qf4, .ref qf5, .ref qf6, .int v7, .int v8, .int v9, .int v10, .ref qf11, .int v12, .ref qf13])), (qf0, .inl (cf0, nb, .inl f0)), (qf13, .inl (cf13, 144, .inl g13_33)), (qf4, .inl (cf4, 256, .inl f4))]) [0, 1, 2, 3] (by decide) rfl
        have hK9 := hK.sub (tys' := [(cf0, .byte), (cf13, .int), (cf4, .int)]) [0, 1, 2] rfl
        exact W.vret hx hb hr (fun t ht hW => ⟨⟨(), rfl, trivial, by rw [ht]; exact hP9, va_K.moved hW.alike hK9, hD9⟩, hS.F ht⟩) hS.2.2 dX3_readHandlers_61
      · rw [if_pos c_5] at hsp
        refine lv_aload_n hx hb dX3_readHandlers_46 rfl (lv_at hl 2 rfl) ?_
        refine lv_iconst (v := 3) hx hb dX3_readHandlers_47 (by decide) ?_
        obtain ⟨⟨u2_0, u2_1⟩, hu_2, hsp⟩ := ox_bind hsp
        try dsimp only at hsp
        have hPc := hP.sub (ws' := [(h0, .inr (3, [.ref qf0, .int v1, .int x2_33, .int x3_33, .ref qf4, .ref qf5, .ref qf6, .int v7, .int v8, .int v9, .int v10, .ref qf11, .int v12, .ref qf13])), (qf0, .inl (cf0, nb, .inl f0))]) [0, 1] rfl
        have hDc := hD.sub (ws' := [(h0, .inr (3, [.ref qf0, .int v1, .int x2_33, .int x3_33, .ref qf4, .ref qf5, .ref qf6, .int v7, .int v8, .int v9, .int v10, .ref qf11, .int v12, .ref qf13])), (qf0, .inl (cf0, nb, .inl f0))]) [0, 1] (by decide) rfl
        have hKc := hK.sub (tys' := [(cf0, .byte)]) [0] rfl
        have hFc := va_free (wc := [(h0, .inr (3, [.ref qf0, .int v1, .int x2_33, .int x3_33, .ref qf4, .ref qf5, .ref qf6, .int v7, .int v8, .int v9, .int v10, .ref qf11, .int v12, .ref qf13])), (qf0, .inl (cf0, nb, .inl f0))]) hD hS hA [0, 1] rfl
        refine va_callv (va_runV (As := [.int 3]) (rest := []) ⟨hx, hb, hml, hown, hts⟩ (ti_skipPairs l dC dI H.size h0 3 qf0 v1 x2_33 x3_33 qf4 qf5 qf6 v7 v8 v9 v10 qf11 v12 qf13 cf0 nb f0 nf u2_0 u2_1 hu_2) (cwV 1 hts gv_h3_11 rfl rfl rfl (by decide +kernel) ⟨Nat.le_of_ble_eq_true rfl, Nat.le_of_ble_eq_true rfl⟩) ⟨fun a U g mk q => by obtain ⟨q0, q1, qP, qK, qD⟩ := q; exact ⟨q0, q1, qP, va_K.moved (u := U) (U := U.calling g mk a) (Vm.Alike.refl U.vm) qK, qD⟩, va_recv hKc hPc (ci := 3) (q0 := 0) rfl rfl, fun U hU hW => ⟨rfl, by rw [hU], by rw [hU]; exact hPc, va_K.moved hW.alike hKc, hDc.weaken (fun _ _ _ _ => trivial)⟩⟩ rfl rfl hl.1 rfl (lv_room (Nat.le_of_ble_eq_true rfl)) dX3_readHandlers_48 ⟨Nat.le_of_ble_eq_true rfl, Nat.le_of_ble_eq_true rfl⟩) hS (fun q _ h => hFc q h) hFc ?_
        clear hS
        intro u t H1 locs ht hvm hw hB hz1 hk1 hS
        obtain ⟨⟩ := u
        obtain ⟨hP1, hK1, hD1⟩ := hB
        rw [ht] at hP1
        have hK1 := va_K.moved hvm.symm hK1
        try dsimp only at hw
        have hPD := va_join (wr := [(qf13, .inl (cf13, 144, .inl g13_33)), (qf4, .inl (cf4, 256, .inl f4))]) (w1 := [(h0, .inr (3, [.ref qf0, .int v1, .int u2_0, .int u2_1, .ref qf4, .ref qf5, .ref qf6, .int v7, .int v8, .int v9, .int v10, .ref qf11, .int v12, .ref qf13])), (qf0, .inl (cf0, nb, .inl f0))]) hP hD [0, 1] [2, 3] rfl rfl (by decide) (by decide) hk1 hFc hP1 hD1
        clear hP hD
        obtain ⟨hP, hD⟩ := hPD
        replace hK := (hK.sub (tys' := [(cf13, .int), (cf4, .int)]) [1, 2] rfl).app hK1
        clear hPc hDc hKc hFc hP1 hK1 hD1 hz1 hk1 ht hvm
        generalize H1 = H at hP hS ⊢
        replace hP : va_P (dC, dI) vwCl [(qf13, .inl (cf13, 144, .inl g13_33)), (qf4, .inl (cf4, 256, .inl f4)), (h0, .inr (3, [.ref qf0, .int v1, .int u2_0, .int u2_1, .ref qf4, .ref qf5, .ref qf6, .int v7, .int v8, .int v9, .int v10, .ref qf11, .int v12, .ref qf13])), (qf0, .inl (cf0, nb, .inl f0))] H := hP
        replace hD : va_D A [(qf13, .inl (cf13, 144, .inl g13_33)), (qf4, .inl (cf4, 256, .inl f4)), (h0, .inr (3, [.ref qf0, .int v1, .int u2_0, .int u2_1, .ref qf4, .ref qf5, .ref qf6, .int v7, .int v8, .int v9, .int v10, .ref qf11, .int v12, .ref qf13])), (qf0, .inl (cf0, nb, .inl f0))] := hD
        replace hK : va_K (dC, dI) vwCl [(cf13, .int), (cf4, .int), (cf0, .byte)] s := hK
        refine lv_aload_n hx hb dX3_readHandlers_51 rfl (lv_at hl 2 rfl) ?_
        obtain ⟨⟨u3_0, u3_1⟩, hu_3, hsp⟩ := ox_bind hsp
        try dsimp only at hsp
        have hPc := hP.sub (ws' := [(h0, .inr (3, [.ref qf0, .int v1, .int u2_0, .int u2_1, .ref qf4, .ref qf5, .ref qf6, .int v7, .int v8, .int v9, .int v10, .ref qf11, .int v12, .ref qf13])), (qf0, .inl (cf0, nb, .inl f0)), (qf4, .inl (cf4, 256, .inl f4))]) [2, 3, 1] rfl
        have hDc := hD.sub (ws' := [(h0, .inr (3, [.ref qf0, .int v1, .int u2_0, .int u2_1, .ref qf4, .ref qf5, .ref qf6, .int v7, .int v8, .int v9, .int v10, .ref qf11, .int v12, .ref qf13])), (qf0, .inl (cf0, nb, .inl f0)), (qf4, .inl (cf4, 256, .inl f4))]) [2, 3, 1] (by decide) rfl
        have hKc := hK.sub (tys' := [(cf0, .byte), (cf4, .int)]) [2, 1] rfl
        have hFc := va_free (wc := [(h0, .inr (3, [.ref qf0, .int v1, .int u2_0, .int u2_1, .ref qf4, .ref qf5, .ref qf6, .int v7, .int v8, .int v9, .int v10, .ref qf11, .int v12, .ref qf13])), (qf0, .inl (cf0, nb, .inl f0)), (qf4, .inl (cf4, 256, .inl f4))]) hD hS hA [2, 3, 1] rfl
        refine va_callv (va_runV (As := []) (rest := []) ⟨hx, hb, hml, hown, hts⟩ (t3_nextClass l dC dI H.size h0 qf0 v1 u2_0 u2_1 qf4 qf5 qf6 v7 v8 v9 v10 qf11 v12 qf13 cf0 nb f0 cf4 f4 nf u3_0 u3_1 hu_3) (cwV 0 hts gv_h3_12 rfl rfl rfl (by decide +kernel) ⟨Nat.le_of_ble_eq_true rfl, Nat.le_of_ble_eq_true rfl⟩) ⟨fun a U g mk q => by obtain ⟨q0, q1, qP, qK, qD⟩ := q; exact ⟨q0, q1, qP, va_K.moved (u := U) (U := U.calling g mk a) (Vm.Alike.refl U.vm) qK, qD⟩, va_recv hKc hPc (ci := 3) (q0 := 0) rfl rfl, fun U hU hW => ⟨rfl, by rw [hU], by rw [hU]; exact hPc, va_K.moved hW.alike hKc, hDc.weaken (fun _ _ _ _ => trivial)⟩⟩ rfl rfl hl.1 rfl (lv_room (Nat.le_of_ble_eq_true rfl)) dX3_readHandlers_52 ⟨Nat.le_of_ble_eq_true rfl, Nat.le_of_ble_eq_true rfl⟩) hS (fun q _ h => hFc q h) hFc ?_
        clear hS
        intro u t H1 locs ht hvm hw hB hz1 hk1 hS
        obtain ⟨⟩ := u
        obtain ⟨hP1, hK1, hD1⟩ := hB
        rw [ht] at hP1
        have hK1 := va_K.moved hvm.symm hK1
        try dsimp only at hw
        have hPD := va_join (wr := [(qf13, .inl (cf13, 144, .inl g13_33))]) (w1 := [(h0, .inr (3, [.ref qf0, .int v1, .int u3_0, .int u3_1, .ref qf4, .ref qf5, .ref qf6, .int v7, .int v8, .int v9, .int v10, .ref qf11, .int v12, .ref qf13])), (qf0, .inl (cf0, nb, .inl f0)), (qf4, .inl (cf4, 256, .inl f4))]) hP hD [2, 3, 1] [0] rfl rfl (by decide) (by decide) hk1 hFc hP1 hD1
        clear hP hD
        obtain ⟨hP, hD⟩ := hPD
        replace hK := (hK.sub (tys' := [(cf13, .int)]) [0] rfl).app hK1
        clear hPc hDc hKc hFc hP1 hK1 hD1 hz1 hk1 ht hvm
        generalize H1 = H at hP hS ⊢
        replace hP : va_P (dC, dI) vwCl [(qf13, .inl (cf13, 144, .inl g13_33)), (h0, .inr (3, [.ref qf0, .int v1, .int u3_0, .int u3_1, .ref qf4, .ref qf5, .ref qf6, .int v7, .int v8, .int v9, .int v10, .ref qf11, .int v12, .ref qf13])), (qf0, .inl (cf0, nb, .inl f0)), (qf4, .inl (cf4, 256, .inl f4))] H := hP
        replace hD : va_D A [(qf13, .inl (cf13, 144, .inl g13_33)), (h0, .inr (3, [.ref qf0, .int v1, .int u3_0, .int u3_1, .ref qf4, .ref qf5, .ref qf6, .int v7, .int v8, .int v9, .int v10, .ref qf11, .int v12, .ref qf13])), (qf0, .inl (cf0, nb, .inl f0)), (qf4, .inl (cf4, 256, .inl f4))] := hD
        replace hK : va_K (dC, dI) vwCl [(cf13, .int), (cf0, .byte), (cf4, .int)] s := hK
        refine lv_iinc (v := (l3_33 + 1)) (lv' := [(3, .int (l3_33 + 1)), (2, .int l2_33), (0, .ref h0), (1, .int l1_33)]) hx hb dX3_readHandlers_55 hl (k := 0) rfl rfl (by decide) rfl (fun ls hl => ?_)
        refine lv_goto (tgt := 33) hx hb dX3_readHandlers_58 (by decide) ?_
        exact ih_33 H locs ls l1_33 l2_33 (l3_33 + 1) g13_33 u3_0 u3_1 (lv_sub hl [0, 1, 2, 3] rfl) hS (hD.sub (ws' := [(h0, .inr (3, [.ref qf0, .int v1, .int u3_0, .int u3_1, .ref qf4, .ref qf5, .ref qf6, .int v7, .int v8, .int v9, .int v10, .ref qf11, .int v12, .ref qf13])), (qf0, .inl (cf0, nb, .inl f0)), (qf13, .inl (cf13, 144, .inl g13_33)), (qf4, .inl (cf4, 256, .inl f4))]) [1, 2, 0, 3] (by decide) rfl) (hP.sub (ws' := [(h0, .inr (3, [.ref qf0, .int v1, .int u3_0, .int u3_1, .ref qf4, .ref qf5, .ref qf6, .int v7, .int v8, .int v9, .int v10, .ref qf11, .int v12, .ref qf13])), (qf0, .inl (cf0, nb, .inl f0)), (qf13, .inl (cf13, 144, .inl g13_33)), (qf4, .inl (cf4, 256, .inl f4))]) [1, 2, 0, 3] rfl) hsp
def lp_t3_readFrameTypes_7 (nf n : Nat) (v1 : Int32) (v2 : Int32) (v3 : Int32) (v7 : Int32) (nb : Nat) (f0 : Nat → Int32) (f4 : Nat → Int32)  (l1_7 : Int32) (l2_7 : Int32) (x2_7 : Int32) (x3_7 : Int32) : Option (Int32 × Int32) := match n with
  | 0 => none
  | n + 1 => (if l1_7 ≤ l2_7 then (some (x2_7, x3_7)) else (if x3_7 = (-1) then ((sp_ti_nextUpTo nf 0 3 v1 x2_7 x3_7 nb f0).bind (fun p2 => (if p2.1 = 3 then ((sp_t3_nextClass nf v1 p2.2.1 p2.2.2 v7 nb f0 f4).bind (fun p3 => (lp_t3_readFrameTypes_7 nf n v1 v2 v3 v7 nb f0 f4 l1_7 (l2_7 + 1) p3.1 p3.2))) else (lp_t3_readFrameTypes_7 nf n v1 v2 v3 v7 nb f0 f4 l1_7 (l2_7 + 1) p2.2.1 p2.2.2)))) else (some (x2_7, x3_7))))
def sp_t3_readFrameTypes (nf : Nat) (v1 : Int32) (v2 : Int32) (v3 : Int32) (v7 : Int32) (nb : Nat) (f0 : Nat → Int32) (f4 : Nat → Int32) : Option (Int32 × Int32) := ((sp_ti_next nf v1 v2 v3 nb f0).bind (fun p1 => (lp_t3_readFrameTypes_7 nf nf v1 v2 v3 v7 nb f0 f4 p1.1 0 p1.2.1 p1.2.2)))
