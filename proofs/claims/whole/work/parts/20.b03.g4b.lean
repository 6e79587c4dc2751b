set_option maxHeartbeats 4000000 in
set_option maxRecDepth 100000 in
/-- ClassMill$Syntax.readNew -/
theorem op_v8_readNew_ok (nf d : Nat) (rc : GT_synv) (ih_0 : CT_v8_readValue d rc.1) (ih_1 : CT_v8_readUnary d rc.2.1) (ih_2 : CT_v8_readPrimary d rc.2.2.1) (ih_3 : CT_v8_readBehind d rc.2.2.2.1) (ih_4 : CT_v8_readNew d rc.2.2.2.2.1) (ih_5 : CT_v8_readArguments d rc.2.2.2.2.2) : CT_v8_readNew (d + 1) (op_v8_readNew nf rc) := by
  intro l dC dI sz h0 a1 qf0 qf1 qf0_0 qf0_1 qf0_2 v0_3 qf0_4 qf0_5 qf0_6 qf0_7 qf0_8 v0_9 v0_10 v0_11 v0_12 cf0_0 f0_0 cf0_1 f0_1 nf9 w0_10 w0_11 w0_12 hsp
  refine Met.ofW (cc := cX8_readNew) (maxL := 3) (ret := none) (by decide) rfl ?_
  intro p e s m args below meth c s₁ B hml hv
  obtain ⟨rfl, hsz, hP, hK, hD0⟩ := hv
  have hx := B.exec
  have hb := B.bytes
  have hr := B.returns
  have hts := atoms_spec (ws := (.code yX8_readNew cX8_readNew 3 none :: VS_h8)) B.pre
  replace hts := fun w (h : w ∈ VS_h8) => hts w (List.mem_cons_of_mem _ h)
  have hown : s.vm.findClass RX8 = some m.cls := findClass_of_methodNamed B.named
  have hlocks := B.notSynchronized
  subst hsz
  have hD := hD0.self (sz := s.heap.size)
  generalize hAe : va_A [(h0, .inr (8, [.ref qf0, .ref qf1])), (qf0, .inr (9, [.ref qf0_0, .ref qf0_1, .ref qf0_2, .int v0_3, .ref qf0_4, .ref qf0_5, .ref qf0_6, .ref qf0_7, .ref qf0_8, .int v0_9, .int v0_10, .int v0_11, .int v0_12])), (qf0_0, .inl (cf0_0, 3001, .inl f0_0)), (qf0_1, .inl (cf0_1, 3001, .inl f0_1))] s.heap.size = A at hD  ⊢
  have hA : ∀ q : Nat, s.heap.size ≤ q → A q := fun q h => by rw [← hAe]; exact Or.inr h
  have hP : va_P (dC, dI) vwCl [(h0, .inr (8, [.ref qf0, .ref qf1])), (qf0, .inr (9, [.ref qf0_0, .ref qf0_1, .ref qf0_2, .int v0_3, .ref qf0_4, .ref qf0_5, .ref qf0_6, .ref qf0_7, .ref qf0_8, .int v0_9, .int v0_10, .int v0_11, .int v0_12])), (qf0_0, .inl (cf0_0, 3001, .inl f0_0)), (qf0_1, .inl (cf0_1, 3001, .inl f0_1))] s.heap := hP
  have hl := lv_entry ([.ref h0, .int a1]) (n := 3) (Nat.le_of_ble_eq_true rfl)
  rw [lg_entry_eq]
  generalize (lg_sl ([.ref h0, .int a1]) ++ List.replicate (3 - (lg_sl ([.ref h0, .int a1])).length) Slot.unset).toArray = ls at hl ⊢
  have hl : lv_has ls 3 [(0, .ref h0), (1, .int a1)] := hl
  obtain ⟨H, hH⟩ : ∃ H : Heap, s.heap = H := ⟨_, rfl⟩
  rw [hH] at hP ⊢
  have hS : va_S A s.heap H [] := by rw [← hH]; exact va_S.rf
  obtain ⟨locs, hlo⟩ : ∃ locs : List Loc, locs = [] := ⟨_, rfl⟩
  rw [← hlo] at hS ⊢
  replace hsp : op_v8_readNew nf rc a1 v0_3 v0_10 v0_11 v0_12 f0_0 f0_1 = some (w0_10, w0_11, w0_12) := hsp
  unfold op_v8_readNew at hsp
  refine jn_use (α := Heap × List Loc × Array Slot × Int32 × Int32 × Int32 × Int32) (fun x9 => x9.1) (fun x9 => x9.2.1) (fun x9 => F0 m 45 x9.2.2.1 []) (fun x9 => match x9 with | (H, locs, ls, l1_45, x0_10_45, x0_11_45, x0_12_45) => lv_has ls 3 [(0, .ref h0), (1, .int l1_45)] ∧ va_S A s.heap H locs ∧ va_D A [(h0, .inr (8, [.ref qf0, .ref qf1])), (qf0, .inr (9, [.ref qf0_0, .ref qf0_1, .ref qf0_2, .int v0_3, .ref qf0_4, .ref qf0_5, .ref qf0_6, .ref qf0_7, .ref qf0_8, .int v0_9, .int x0_10_45, .int x0_11_45, .int x0_12_45])), (qf0_0, .inl (cf0_0, 3001, .inl f0_0)), (qf0_1, .inl (cf0_1, 3001, .inl f0_1))] ∧ va_P (dC, dI) vwCl [(h0, .inr (8, [.ref qf0, .ref qf1])), (qf0, .inr (9, [.ref qf0_0, .ref qf0_1, .ref qf0_2, .int v0_3, .ref qf0_4, .ref qf0_5, .ref qf0_6, .ref qf0_7, .ref qf0_8, .int v0_9, .int x0_10_45, .int x0_11_45, .int x0_12_45])), (qf0_0, .inl (cf0_0, 3001, .inl f0_0)), (qf0_1, .inl (cf0_1, 3001, .inl f0_1))] H ∧ jn_v8_readNew_45 nf rc a1 v0_3 v0_10 v0_11 v0_12 f0_0 f0_1 l1_45 x0_10_45 x0_11_45 x0_12_45 = some (w0_10, w0_11, w0_12)) ?_ ?_
  · intro x9 hJ9
    obtain ⟨H, locs, ls, l1_45, x0_10_45, x0_11_45, x0_12_45⟩ := x9
    obtain ⟨hl, hS, hD, hP, hsp⟩ := hJ9
    replace hl : lv_has ls 3 [(0, .ref h0), (1, .int l1_45)] := hl
    replace hS : va_S A s.heap H locs := hS
    replace hD : va_D A [(h0, .inr (8, [.ref qf0, .ref qf1])), (qf0, .inr (9, [.ref qf0_0, .ref qf0_1, .ref qf0_2, .int v0_3, .ref qf0_4, .ref qf0_5, .ref qf0_6, .ref qf0_7, .ref qf0_8, .int v0_9, .int x0_10_45, .int x0_11_45, .int x0_12_45])), (qf0_0, .inl (cf0_0, 3001, .inl f0_0)), (qf0_1, .inl (cf0_1, 3001, .inl f0_1))] := hD
    replace hP : va_P (dC, dI) vwCl [(h0, .inr (8, [.ref qf0, .ref qf1])), (qf0, .inr (9, [.ref qf0_0, .ref qf0_1, .ref qf0_2, .int v0_3, .ref qf0_4, .ref qf0_5, .ref qf0_6, .ref qf0_7, .ref qf0_8, .int v0_9, .int x0_10_45, .int x0_11_45, .int x0_12_45])), (qf0_0, .inl (cf0_0, 3001, .inl f0_0)), (qf0_1, .inl (cf0_1, 3001, .inl f0_1))] H := hP
    replace hsp : jn_v8_readNew_45 nf rc a1 v0_3 v0_10 v0_11 v0_12 f0_0 f0_1 l1_45 x0_10_45 x0_11_45 x0_12_45 = some (w0_10, w0_11, w0_12) := hsp
    show W _ _ _ _ _ _ _ _ _ _ H locs _ _ _ (F0 m 45 ls [])
    unfold jn_v8_readNew_45 at hsp
    try dsimp only at hsp
    refine lv_aload_n hx hb dX8_readNew_45 rfl (lv_at hl 0 rfl) ?_
    refine lv_bipush (v := 44) hx hb dX8_readNew_46 (by decide) ?_
    obtain ⟨⟨u5_0, u5_1, u5_2⟩, hu_5, hsp⟩ := ox_bind hsp
    try dsimp only at hsp
    have hPc := hP.sub (ws' := [(h0, .inr (8, [.ref qf0, .ref qf1])), (qf0, .inr (9, [.ref qf0_0, .ref qf0_1, .ref qf0_2, .int v0_3, .ref qf0_4, .ref qf0_5, .ref qf0_6, .ref qf0_7, .ref qf0_8, .int v0_9, .int x0_10_45, .int x0_11_45, .int x0_12_45])), (qf0_0, .inl (cf0_0, 3001, .inl f0_0)), (qf0_1, .inl (cf0_1, 3001, .inl f0_1))]) [0, 1, 2, 3] rfl
    have hDc := hD.sub (ws' := [(h0, .inr (8, [.ref qf0, .ref qf1])), (qf0, .inr (9, [.ref qf0_0, .ref qf0_1, .ref qf0_2, .int v0_3, .ref qf0_4, .ref qf0_5, .ref qf0_6, .ref qf0_7, .ref qf0_8, .int v0_9, .int x0_10_45, .int x0_11_45, .int x0_12_45])), (qf0_0, .inl (cf0_0, 3001, .inl f0_0)), (qf0_1, .inl (cf0_1, 3001, .inl f0_1))]) [0, 1, 2, 3] (by decide) rfl
    have hKc := hK.sub (tys' := [(cf0_0, .int), (cf0_1, .int)]) [0, 1] rfl
    have hFc := va_free (wc := [(h0, .inr (8, [.ref qf0, .ref qf1])), (qf0, .inr (9, [.ref qf0_0, .ref qf0_1, .ref qf0_2, .int v0_3, .ref qf0_4, .ref qf0_5, .ref qf0_6, .ref qf0_7, .ref qf0_8, .int v0_9, .int x0_10_45, .int x0_11_45, .int x0_12_45])), (qf0_0, .inl (cf0_0, 3001, .inl f0_0)), (qf0_1, .inl (cf0_1, 3001, .inl f0_1))]) hD hS hA [0, 1, 2, 3] rfl
    refine va_callv (va_runV (As := [.int 44]) (rest := []) ⟨hx, hb, hml, hown, hts⟩ (t8_need l dC dI H.size h0 44 qf0 qf1 qf0_0 qf0_1 qf0_2 v0_3 qf0_4 qf0_5 qf0_6 qf0_7 qf0_8 v0_9 x0_10_45 x0_11_45 x0_12_45 cf0_0 f0_0 cf0_1 f0_1 nf u5_0 u5_1 u5_2 hu_5) (cwV 1 hts gv_h8_23 rfl rfl rfl (by decide +kernel) ⟨by dsimp only [headSpec]; omega, by dsimp only [headSpec]; omega⟩) ⟨fun a U g mk q => by obtain ⟨q0, q1, qP, qK, qD⟩ := q; exact ⟨q0, q1, qP, va_K.moved (u := U) (U := U.calling g mk a) (Vm.Alike.refl U.vm) qK, qD⟩, va_recv hKc hPc (ci := 8) (q0 := 0) rfl rfl, fun U hU hW => ⟨rfl, by rw [hU], by rw [hU]; exact hPc, va_K.moved hW.alike hKc, hDc.weaken (fun _ _ _ _ => trivial)⟩⟩ rfl rfl hl.1 rfl (lv_room (Nat.le_of_ble_eq_true rfl)) dX8_readNew_48 ⟨Nat.le_of_ble_eq_true rfl, Nat.le_of_ble_eq_true rfl⟩) hS (fun q _ h => hFc q h) hFc ?_
    clear hS
    intro u t H1 locs ht hvm hw hB hz1 hk1 hS
    obtain ⟨⟩ := u
    obtain ⟨hP1, hK1, hD1⟩ := hB
    rw [ht] at hP1
    have hK1 := va_K.moved hvm.symm hK1
    try dsimp only at hw
    have hPD := va_join (wr := []) (w1 := [(h0, .inr (8, [.ref qf0, .ref qf1])), (qf0, .inr (9, [.ref qf0_0, .ref qf0_1, .ref qf0_2, .int v0_3, .ref qf0_4, .ref qf0_5, .ref qf0_6, .ref qf0_7, .ref qf0_8, .int v0_9, .int u5_0, .int u5_1, .int u5_2])), (qf0_0, .inl (cf0_0, 3001, .inl f0_0)), (qf0_1, .inl (cf0_1, 3001, .inl f0_1))]) hP hD [0, 1, 2, 3] [] rfl rfl (by decide) (by decide) hk1 hFc hP1 hD1
    clear hP hD
    obtain ⟨hP, hD⟩ := hPD
    replace hK := (hK.sub (tys' := []) [] rfl).app hK1
    clear hPc hDc hKc hFc hP1 hK1 hD1 hz1 hk1 ht hvm
    generalize H1 = H at hP hS ⊢
    replace hP : va_P (dC, dI) vwCl [(h0, .inr (8, [.ref qf0, .ref qf1])), (qf0, .inr (9, [.ref qf0_0, .ref qf0_1, .ref qf0_2, .int v0_3, .ref qf0_4, .ref qf0_5, .ref qf0_6, .ref qf0_7, .ref qf0_8, .int v0_9, .int u5_0, .int u5_1, .int u5_2])), (qf0_0, .inl (cf0_0, 3001, .inl f0_0)), (qf0_1, .inl (cf0_1, 3001, .inl f0_1))] H := hP
    replace hD : va_D A [(h0, .inr (8, [.ref qf0, .ref qf1])), (qf0, .inr (9, [.ref qf0_0, .ref qf0_1, .ref qf0_2, .int v0_3, .ref qf0_4, .ref qf0_5, .ref qf0_6, .ref qf0_7, .ref qf0_8, .int v0_9, .int u5_0, .int u5_1, .int u5_2])), (qf0_0, .inl (cf0_0, 3001, .inl f0_0)), (qf0_1, .inl (cf0_1, 3001, .inl f0_1))] := hD
    replace hK : va_K (dC, dI) vwCl [(cf0_0, .int), (cf0_1, .int)] s := hK
    refine lv_aload_n hx hb dX8_readNew_51 rfl (lv_at hl 0 rfl) ?_
    refine lv_iload_n hx hb dX8_readNew_52 rfl (lv_at hl 1 rfl) ?_
    obtain ⟨⟨u6_0, u6_1, u6_2⟩, hu_6, hsp⟩ := ox_bind hsp
    try dsimp only at hsp
    have hPc := hP.sub (ws' := [(h0, .inr (8, [.ref qf0, .ref qf1])), (qf0, .inr (9, [.ref qf0_0, .ref qf0_1, .ref qf0_2, .int v0_3, .ref qf0_4, .ref qf0_5, .ref qf0_6, .ref qf0_7, .ref qf0_8, .int v0_9, .int u5_0, .int u5_1, .int u5_2])), (qf0_0, .inl (cf0_0, 3001, .inl f0_0)), (qf0_1, .inl (cf0_1, 3001, .inl f0_1))]) [0, 1, 2, 3] rfl
    have hDc := hD.sub (ws' := [(h0, .inr (8, [.ref qf0, .ref qf1])), (qf0, .inr (9, [.ref qf0_0, .ref qf0_1, .ref qf0_2, .int v0_3, .ref qf0_4, .ref qf0_5, .ref qf0_6, .ref qf0_7, .ref qf0_8, .int v0_9, .int u5_0, .int u5_1, .int u5_2])), (qf0_0, .inl (cf0_0, 3001, .inl f0_0)), (qf0_1, .inl (cf0_1, 3001, .inl f0_1))]) [0, 1, 2, 3] (by decide) rfl
    have hKc := hK.sub (tys' := [(cf0_0, .int), (cf0_1, .int)]) [0, 1] rfl
    have hFc := va_free (wc := [(h0, .inr (8, [.ref qf0, .ref qf1])), (qf0, .inr (9, [.ref qf0_0, .ref qf0_1, .ref qf0_2, .int v0_3, .ref qf0_4, .ref qf0_5, .ref qf0_6, .ref qf0_7, .ref qf0_8, .int v0_9, .int u5_0, .int u5_1, .int u5_2])), (qf0_0, .inl (cf0_0, 3001, .inl f0_0)), (qf0_1, .inl (cf0_1, 3001, .inl f0_1))]) hD hS hA [0, 1, 2, 3] rfl
    refine va_callv (va_runV (As := [.int l1_45]) (rest := []) ⟨hx, hb, hml, hown, hts⟩ (ih_0 l dC dI H.size h0 l1_45 qf0 qf1 qf0_0 qf0_1 qf0_2 v0_3 qf0_4 qf0_5 qf0_6 qf0_7 qf0_8 v0_9 u5_0 u5_1 u5_2 cf0_0 f0_0 cf0_1 f0_1 nf u6_0 u6_1 u6_2 hu_6) (cwV 1 hts gv_h8_24 rfl rfl rfl (by decide +kernel) ⟨by dsimp only [headSpec]; omega, by dsimp only [headSpec]; omega⟩) ⟨fun a U g mk q => by obtain ⟨q0, q1, qP, qK, qD⟩ := q; exact ⟨q0, q1, qP, va_K.moved (u := U) (U := U.calling g mk a) (Vm.Alike.refl U.vm) qK, qD⟩, va_recv hKc hPc (ci := 8) (q0 := 0) rfl rfl, fun U hU hW => ⟨rfl, by rw [hU], by rw [hU]; exact hPc, va_K.moved hW.alike hKc, hDc.weaken (fun _ _ _ _ => trivial)⟩⟩ rfl rfl hl.1 rfl (lv_room (Nat.le_of_ble_eq_true rfl)) dX8_readNew_53 ⟨Nat.le_of_ble_eq_true rfl, Nat.le_of_ble_eq_true rfl⟩) hS (fun q _ h => hFc q h) hFc ?_
    clear hS
    intro u t H1 locs ht hvm hw hB hz1 hk1 hS
    obtain ⟨⟩ := u
    obtain ⟨hP1, hK1, hD1⟩ := hB
    rw [ht] at hP1
    have hK1 := va_K.moved hvm.symm hK1
    try dsimp only at hw
    have hPD := va_join (wr := []) (w1 := [(h0, .inr (8, [.ref qf0, .ref qf1])), (qf0, .inr (9, [.ref qf0_0, .ref qf0_1, .ref qf0_2, .int v0_3, .ref qf0_4, .ref qf0_5, .ref qf0_6, .ref qf0_7, .ref qf0_8, .int v0_9, .int u6_0, .int u6_1, .int u6_2])), (qf0_0, .inl (cf0_0, 3001, .inl f0_0)), (qf0_1, .inl (cf0_1, 3001, .inl f0_1))]) hP hD [0, 1, 2, 3] [] rfl rfl (by decide) (by decide) hk1 hFc hP1 hD1
    clear hP hD
    obtain ⟨hP, hD⟩ := hPD
    replace hK := (hK.sub (tys' := []) [] rfl).app hK1
    clear hPc hDc hKc hFc hP1 hK1 hD1 hz1 hk1 ht hvm
    generalize H1 = H at hP hS ⊢
    replace hP : va_P (dC, dI) vwCl [(h0, .inr (8, [.ref qf0, .ref qf1])), (qf0, .inr (9, [.ref qf0_0, .ref qf0_1, .ref qf0_2, .int v0_3, .ref qf0_4, .ref qf0_5, .ref qf0_6, .ref qf0_7, .ref qf0_8, .int v0_9, .int u6_0, .int u6_1, .int u6_2])), (qf0_0, .inl (cf0_0, 3001, .inl f0_0)), (qf0_1, .inl (cf0_1, 3001, .inl f0_1))] H := hP
    replace hD : va_D A [(h0, .inr (8, [.ref qf0, .ref qf1])), (qf0, .inr (9, [.ref qf0_0, .ref qf0_1, .ref qf0_2, .int v0_3, .ref qf0_4, .ref qf0_5, .ref qf0_6, .ref qf0_7, .ref qf0_8, .int v0_9, .int u6_0, .int u6_1, .int u6_2])), (qf0_0, .inl (cf0_0, 3001, .inl f0_0)), (qf0_1, .inl (cf0_1, 3001, .inl f0_1))] := hD
    replace hK : va_K (dC, dI) vwCl [(cf0_0, .int), (cf0_1, .int)] s := hK
    refine lv_aload_n hx hb dX8_readNew_56 rfl (lv_at hl 0 rfl) ?_
    refine lv_bipush (v := 45) hx hb dX8_readNew_57 (by decide) ?_
    obtain ⟨⟨u7_0, u7_1, u7_2⟩, hu_7, hsp⟩ := ox_bind hsp
    try dsimp only at hsp
    have hPc := hP.sub (ws' := [(h0, .inr (8, [.ref qf0, .ref qf1])), (qf0, .inr (9, [.ref qf0_0, .ref qf0_1, .ref qf0_2, .int v0_3, .ref qf0_4, .ref qf0_5, .ref qf0_6, .ref qf0_7, .ref qf0_8, .int v0_9, .int u6_0, .int u6_1, .int u6_2])), (qf0_0, .inl (cf0_0, 3001, .inl f0_0)), (qf0_1, .inl (cf0_1, 3001, .inl f0_1))]) [0, 1, 2, 3] rfl
    have hDc := hD.sub (ws' := [(h0, .inr (8, [.ref qf0, .ref qf1])), (qf0, .inr (9, [.ref qf0_0, .ref qf0_1, .ref qf0_2, .int v0_3, .ref qf0_4, .ref qf0_5, .ref qf0_6, .ref qf0_7, .ref qf0_8, .int v0_9, .int u6_0, .int u6_1, .int u6_2])), (qf0_0, .inl (cf0_0, 3001, .inl f0_0)), (qf0_1, .inl (cf0_1, 3001, .inl f0_1))]) [0, 1, 2, 3] (by decide) rfl
    have hKc := hK.sub (tys' := [(cf0_0, .int), (cf0_1, .int)]) [0, 1] rfl
    have hFc := va_free (wc := [(h0, .inr (8, [.ref qf0, .ref qf1])), (qf0, .inr (9, [.ref qf0_0, .ref qf0_1, .ref qf0_2, .int v0_3, .ref qf0_4, .ref qf0_5, .ref qf0_6, .ref qf0_7, .ref qf0_8, .int v0_9, .int u6_0, .int u6_1, .int u6_2])), (qf0_0, .inl (cf0_0, 3001, .inl f0_0)), (qf0_1, .inl (cf0_1, 3001, .inl f0_1))]) hD hS hA [0, 1, 2, 3] rfl
    refine va_callv (va_runV (As := [.int 45]) (rest := []) ⟨hx, hb, hml, hown, hts⟩ (t8_need l dC dI H.size h0 45 qf0 qf1 qf0_0 qf0_1 qf0_2 v0_3 qf0_4 qf0_5 qf0_6 qf0_7 qf0_8 v0_9 u6_0 u6_1 u6_2 cf0_0 f0_0 cf0_1 f0_1 nf u7_0 u7_1 u7_2 hu_7) (cwV 1 hts gv_h8_23 rfl rfl rfl (by decide +kernel) ⟨by dsimp only [headSpec]; omega, by dsimp only [headSpec]; omega⟩) ⟨fun a U g mk q => by obtain ⟨q0, q1, qP, qK, qD⟩ := q; exact ⟨q0, q1, qP, va_K.moved (u := U) (U := U.calling g mk a) (Vm.Alike.refl U.vm) qK, qD⟩, va_recv hKc hPc (ci := 8) (q0 := 0) rfl rfl, fun U hU hW => ⟨rfl, by rw [hU], by rw [hU]; exact hPc, va_K.moved hW.alike hKc, hDc.weaken (fun _ _ _ _ => trivial)⟩⟩ rfl rfl hl.1 rfl (lv_room (Nat.le_of_ble_eq_true rfl)) dX8_readNew_59 ⟨Nat.le_of_ble_eq_true rfl, Nat.le_of_ble_eq_true rfl⟩) hS (fun q _ h => hFc q h) hFc ?_
    clear hS
    intro u t H1 locs ht hvm hw hB hz1 hk1 hS
    obtain ⟨⟩ := u
    obtain ⟨hP1, hK1, hD1⟩ := hB
    rw [ht] at hP1
    have hK1 := va_K.moved hvm.symm hK1
    try dsimp only at hw
    have hPD := va_join (wr := []) (w1 := [(h0, .inr (8, [.ref qf0, .ref qf1])), (qf0, .inr (9, [.ref qf0_0, .ref qf0_1, .ref qf0_2, .int v0_3, .ref qf0_4, .ref qf0_5, .ref qf0_6, .ref qf0_7, .ref qf0_8, .int v0_9, .int u7_0, .int u7_1, .int u7_2])), (qf0_0, .inl (cf0_0, 3001, .inl f0_0)), (qf0_1, .inl (cf0_1, 3001, .inl f0_1))]) hP hD [0, 1, 2, 3] [] rfl rfl (by decide) (by decide) hk1 hFc hP1 hD1
    clear hP hD
    obtain ⟨hP, hD⟩ := hPD
    replace hK := (hK.sub (tys' := []) [] rfl).app hK1
    clear hPc hDc hKc hFc hP1 hK1 hD1 hz1 hk1 ht hvm
    generalize H1 = H at hP hS ⊢
    replace hP : va_P (dC, dI) vwCl [(h0, .inr (8, [.ref qf0, .ref qf1])), (qf0, .inr (9, [.ref qf0_0, .ref qf0_1, .ref qf0_2, .int v0_3, .ref qf0_4, .ref qf0_5, .ref qf0_6, .ref qf0_7, .ref qf0_8, .int v0_9, .int u7_0, .int u7_1, .int u7_2])), (qf0_0, .inl (cf0_0, 3001, .inl f0_0)), (qf0_1, .inl (cf0_1, 3001, .inl f0_1))] H := hP
    replace hD : va_D A [(h0, .inr (8, [.ref qf0, .ref qf1])), (qf0, .inr (9, [.ref qf0_0, .ref qf0_1, .ref qf0_2, .int v0_3, .ref qf0_4, .ref qf0_5, .ref qf0_6, .ref qf0_7, .ref qf0_8, .int v0_9, .int u7_0, .int u7_1, .int u7_2])), (qf0_0, .inl (cf0_0, 3001, .inl f0_0)), (qf0_1, .inl (cf0_1, 3001, .inl f0_1))] := hD
    replace hK : va_K (dC, dI) vwCl [(cf0_0, .int), (cf0_1, .int)] s := hK
    have hr0 := Option.some.inj hsp
    clear hsp
    obtain ⟨hq0, hr1⟩ := Prod.mk.inj hr0
    clear hr0
    obtain ⟨hq1, hr2⟩ := Prod.mk.inj hr1
    clear hr1
    subst hq0
    subst hq1
    subst hr2
    have hP9 := hP.sub (ws' := [(h0, .inr (8, [.ref qf0, .ref qf1])), (qf0, .inr (9, [.ref qf0_0, .ref qf0_1, .ref qf0_2, .int v0_3, .ref qf0_4, .ref qf0_5, .ref qf0_6, .ref qf0_7, .ref qf0_8, .int v0_9, .int u7_0, .int u7_1, .int u7_2])), (qf0_0, .inl (cf0_0, 3001, .inl f0_0)), (qf0_1, .inl (cf0_1, 3001, .inl f0_1))]) [0, 1, 2, 3] rfl
    have hD9 := hD.sub (ws' := [(h0, .inr (8, [.ref qf0, .ref qf1])), (qf0, .inr (9, [.ref qf0_0, .ref qf0_1, .ref qf0_2, .int v0_3, .ref qf0_4, .ref qf0_5, .ref qf0_6, .ref qf0_7, .ref qf0_8, .int v0_9, .int u7_0, .int u7_1, .int u7_2])), (qf0_0, .inl (cf0_0, 3001, .inl f0_0)), (qf0_1, .inl (cf0_1, 3001, .inl f0_1))]) [0, 1, 2, 3] (by decide) rfl
    have hK9 := hK.sub (tys' := [(cf0_0, .int), (cf0_1, .int)]) [0, 1] rfl
    exact W.vret hx hb hr (fun t ht hW => ⟨⟨(), rfl, trivial, by rw [ht]; exact hP9, va_K.moved hW.alike hK9, hD9⟩, hS.F ht⟩) hS.2.2 dX8_readNew_62
  intro hj_45
  refine lv_aload_n hx hb dX8_readNew_0 rfl (lv_at hl 0 rfl) ?_
  refine va_get (D := (dC, dI)) (ci := 8) (v := .ref qf0) (C := RX8) (T := TX8) (N := 2) hx hb hts uV_h8_X8 hown hK hP 0 rfl rfl 0 (by decide) (hts (.fieldLink RX8 7 "ClassMill$Syntax" "text" "LClassMill$Text;") mw_h8_135) (fun _ h9 => h9) rfl dX8_readNew_1 ?_
  refine lv_dup hx hb dX8_readNew_4 rfl ?_
  refine va_get (D := (dC, dI)) (ci := 9) (v := .int v0_10) (C := RX9) (T := TX9) (N := 13) hx hb hts uV_h8_X9 hown hK hP 1 rfl rfl 10 (by decide) (hts (.fieldLink RX8 30 "ClassMill$Text" "pos" "I") mw_h8_136) (fun _ h9 => h9) rfl dX8_readNew_5 ?_
  refine lv_iconst (v := 1) hx hb dX8_readNew_8 (by decide) ?_
  refine lv_iadd hx hb dX8_readNew_9 ?_
  refine va_put (D := (dC, dI)) (ci := 9) (v := .int (v0_10 + 1)) (ty := .int) (C := RX9) (T := TX9) (N := 13) hx hb hts uV_h8_X9 tyX9 tyX9_ok nmX9 hown hK hP hD hS 1 rfl rfl 10 (by decide) (hts (.fieldLink RX8 30 "ClassMill$Text" "pos" "I") mw_h8_136) (fun _ h9 => h9) rfl (by decide +kernel) rfl rfl (Nat.le_of_ble_eq_true rfl) dX8_readNew_10 ?_
  clear hP hD hS
  intro H locs hP hD hS
  replace hP : va_P (dC, dI) vwCl [(h0, .inr (8, [.ref qf0, .ref qf1])), (qf0, .inr (9, [.ref qf0_0, .ref qf0_1, .ref qf0_2, .int v0_3, .ref qf0_4, .ref qf0_5, .ref qf0_6, .ref qf0_7, .ref qf0_8, .int v0_9, .int (v0_10 + 1), .int v0_11, .int v0_12])), (qf0_0, .inl (cf0_0, 3001, .inl f0_0)), (qf0_1, .inl (cf0_1, 3001, .inl f0_1))] H := hP
  replace hD : va_D A [(h0, .inr (8, [.ref qf0, .ref qf1])), (qf0, .inr (9, [.ref qf0_0, .ref qf0_1, .ref qf0_2, .int v0_3, .ref qf0_4, .ref qf0_5, .ref qf0_6, .ref qf0_7, .ref qf0_8, .int v0_9, .int (v0_10 + 1), .int v0_11, .int v0_12])), (qf0_0, .inl (cf0_0, 3001, .inl f0_0)), (qf0_1, .inl (cf0_1, 3001, .inl f0_1))] := hD
  refine lv_aload_n hx hb dX8_readNew_13 rfl (lv_at hl 0 rfl) ?_
  refine lv_bipush (v := 20) hx hb dX8_readNew_14 (by decide) ?_
  obtain ⟨⟨u1_0, u1_1⟩, hu_1, hsp⟩ := ox_bind hsp
  try dsimp only at hsp
  have hPc := hP.sub (ws' := [(h0, .inr (8, [.ref qf0, .ref qf1])), (qf0, .inr (9, [.ref qf0_0, .ref qf0_1, .ref qf0_2, .int v0_3, .ref qf0_4, .ref qf0_5, .ref qf0_6, .ref qf0_7, .ref qf0_8, .int v0_9, .int (v0_10 + 1), .int v0_11, .int v0_12])), (qf0_0, .inl (cf0_0, 3001, .inl f0_0))]) [0, 1, 2] rfl
  have hDc := hD.sub (ws' := [(h0, .inr (8, [.ref qf0, .ref qf1])), (qf0, .inr (9, [.ref qf0_0, .ref qf0_1, .ref qf0_2, .int v0_3, .ref qf0_4, .ref qf0_5, .ref qf0_6, .ref qf0_7, .ref qf0_8, .int v0_9, .int (v0_10 + 1), .int v0_11, .int v0_12])), (qf0_0, .inl (cf0_0, 3001, .inl f0_0))]) [0, 1, 2] (by decide) rfl
  have hKc := hK.sub (tys' := [(cf0_0, .int)]) [0] rfl
  have hFc := va_free (wc := [(h0, .inr (8, [.ref qf0, .ref qf1])), (qf0, .inr (9, [.ref qf0_0, .ref qf0_1, .ref qf0_2, .int v0_3, .ref qf0_4, .ref qf0_5, .ref qf0_6, .ref qf0_7, .ref qf0_8, .int v0_9, .int (v0_10 + 1), .int v0_11, .int v0_12])), (qf0_0, .inl (cf0_0, 3001, .inl f0_0))]) hD hS hA [0, 1, 2] rfl
  refine va_calli (va_runV (As := [.int 20]) (rest := []) ⟨hx, hb, hml, hown, hts⟩ (t8_accept l dC dI H.size h0 20 qf0 qf1 qf0_0 qf0_1 qf0_2 v0_3 qf0_4 qf0_5 qf0_6 qf0_7 qf0_8 v0_9 ((v0_10 + 1)) v0_11 v0_12 cf0_0 f0_0 nf u1_0 u1_1 hu_1) (cwV 1 hts gv_h8_22 rfl rfl rfl (by decide +kernel) ⟨by dsimp only [headSpec]; omega, by dsimp only [headSpec]; omega⟩) ⟨fun a U g mk q => by obtain ⟨q0, q1, qP, qK, qD⟩ := q; exact ⟨q0, q1, qP, va_K.moved (u := U) (U := U.calling g mk a) (Vm.Alike.refl U.vm) qK, qD⟩, va_recv hKc hPc (ci := 8) (q0 := 0) rfl rfl, fun U hU hW => ⟨rfl, by rw [hU], by rw [hU]; exact hPc, va_K.moved hW.alike hKc, hDc.weaken (fun _ _ _ _ => trivial)⟩⟩ rfl rfl hl.1 rfl (lv_room (Nat.le_of_ble_eq_true rfl)) dX8_readNew_16 ⟨Nat.le_of_ble_eq_true rfl, Nat.le_of_ble_eq_true rfl⟩) hS (fun q _ h => hFc q h) hFc ?_
  clear hS
  intro r_1 u t H1 locs ht hvm hw hB hz1 hk1 hS
  obtain ⟨⟩ := u
  obtain ⟨hP1, hK1, hD1⟩ := hB
  rw [ht] at hP1
  have hK1 := va_K.moved hvm.symm hK1
  try dsimp only at hw
  have hPD := va_join (wr := [(qf0_1, .inl (cf0_1, 3001, .inl f0_1))]) (w1 := [(h0, .inr (8, [.ref qf0, .ref qf1])), (qf0, .inr (9, [.ref qf0_0, .ref qf0_1, .ref qf0_2, .int v0_3, .ref qf0_4, .ref qf0_5, .ref qf0_6, .ref qf0_7, .ref qf0_8, .int v0_9, .int u1_1, .int v0_11, .int v0_12])), (qf0_0, .inl (cf0_0, 3001, .inl f0_0))]) hP hD [0, 1, 2] [3] rfl rfl (by decide) (by decide) hk1 hFc hP1 hD1
  clear hP hD
  obtain ⟨hP, hD⟩ := hPD
  replace hK := (hK.sub (tys' := [(cf0_1, .int)]) [1] rfl).app hK1
  clear hPc hDc hKc hFc hP1 hK1 hD1 hz1 hk1 ht hvm
  generalize H1 = H at hP hS ⊢
  replace hP : va_P (dC, dI) vwCl [(qf0_1, .inl (cf0_1, 3001, .inl f0_1)), (h0, .inr (8, [.ref qf0, .ref qf1])), (qf0, .inr (9, [.ref qf0_0, .ref qf0_1, .ref qf0_2, .int v0_3, .ref qf0_4, .ref qf0_5, .ref qf0_6, .ref qf0_7, .ref qf0_8, .int v0_9, .int u1_1, .int v0_11, .int v0_12])), (qf0_0, .inl (cf0_0, 3001, .inl f0_0))] H := hP
  replace hD : va_D A [(qf0_1, .inl (cf0_1, 3001, .inl f0_1)), (h0, .inr (8, [.ref qf0, .ref qf1])), (qf0, .inr (9, [.ref qf0_0, .ref qf0_1, .ref qf0_2, .int v0_3, .ref qf0_4, .ref qf0_5, .ref qf0_6, .ref qf0_7, .ref qf0_8, .int v0_9, .int u1_1, .int v0_11, .int v0_12])), (qf0_0, .inl (cf0_0, 3001, .inl f0_0))] := hD
  replace hK : va_K (dC, dI) vwCl [(cf0_1, .int), (cf0_0, .int)] s := hK
  obtain ⟨rfl, hz_1⟩ := hw
  rcases hz_1 with rfl | rfl
  · rw [if_pos rfl] at hsp
    refine lv_istore_n (lv' := [(2, .int 0), (0, .ref h0), (1, .int a1)]) hx hb dX8_readNew_19 rfl hl (by decide) rfl (fun ls hl => ?_)
    refine lv_iload_n hx hb dX8_readNew_20 rfl (lv_at hl 0 rfl) ?_
    refine lv_if_ne (tgt := 45) hx hb dX8_readNew_21 (by decide) (fun c_2 => (show False by revert c_2; decide).elim) (fun c_2 => ?_)
    refine lv_aload_n hx hb dX8_readNew_24 rfl (lv_at hl 1 rfl) ?_
    refine lv_iconst (v := 2) hx hb dX8_readNew_25 (by decide) ?_
    obtain ⟨⟨u2_0, u2_1, u2_2⟩, hu_2, hsp⟩ := ox_bind hsp
    try dsimp only at hsp
    have hPc := hP.sub (ws' := [(h0, .inr (8, [.ref qf0, .ref qf1])), (qf0, .inr (9, [.ref qf0_0, .ref qf0_1, .ref qf0_2, .int v0_3, .ref qf0_4, .ref qf0_5, .ref qf0_6, .ref qf0_7, .ref qf0_8, .int v0_9, .int u1_1, .int v0_11, .int v0_12])), (qf0_0, .inl (cf0_0, 3001, .inl f0_0)), (qf0_1, .inl (cf0_1, 3001, .inl f0_1))]) [1, 2, 3, 0] rfl
    have hDc := hD.sub (ws' := [(h0, .inr (8, [.ref qf0, .ref qf1])), (qf0, .inr (9, [.ref qf0_0, .ref qf0_1, .ref qf0_2, .int v0_3, .ref qf0_4, .ref qf0_5, .ref qf0_6, .ref qf0_7, .ref qf0_8, .int v0_9, .int u1_1, .int v0_11, .int v0_12])), (qf0_0, .inl (cf0_0, 3001, .inl f0_0)), (qf0_1, .inl (cf0_1, 3001, .inl f0_1))]) [1, 2, 3, 0] (by decide) rfl
    have hKc := hK.sub (tys' := [(cf0_0, .int), (cf0_1, .int)]) [1, 0] rfl
    have hFc := va_free (wc := [(h0, .inr (8, [.ref qf0, .ref qf1])), (qf0, .inr (9, [.ref qf0_0, .ref qf0_1, .ref qf0_2, .int v0_3, .ref qf0_4, .ref qf0_5, .ref qf0_6, .ref qf0_7, .ref qf0_8, .int v0_9, .int u1_1, .int v0_11, .int v0_12])), (qf0_0, .inl (cf0_0, 3001, .inl f0_0)), (qf0_1, .inl (cf0_1, 3001, .inl f0_1))]) hD hS hA [1, 2, 3, 0] rfl
    refine va_callv (va_runV (As := [.int 2]) (rest := []) ⟨hx, hb, hml, hown, hts⟩ (t8_need l dC dI H.size h0 2 qf0 qf1 qf0_0 qf0_1 qf0_2 v0_3 qf0_4 qf0_5 qf0_6 qf0_7 qf0_8 v0_9 u1_1 v0_11 v0_12 cf0_0 f0_0 cf0_1 f0_1 nf u2_0 u2_1 u2_2 hu_2) (cwV 1 hts gv_h8_23 rfl rfl rfl (by decide +kernel) ⟨by dsimp only [headSpec]; omega, by dsimp only [headSpec]; omega⟩) ⟨fun a U g mk q => by obtain ⟨q0, q1, qP, qK, qD⟩ := q; exact ⟨q0, q1, qP, va_K.moved (u := U) (U := U.calling g mk a) (Vm.Alike.refl U.vm) qK, qD⟩, va_recv hKc hPc (ci := 8) (q0 := 0) rfl rfl, fun U hU hW => ⟨rfl, by rw [hU], by rw [hU]; exact hPc, va_K.moved hW.alike hKc, hDc.weaken (fun _ _ _ _ => trivial)⟩⟩ rfl rfl hl.1 rfl (lv_room (Nat.le_of_ble_eq_true rfl)) dX8_readNew_26 ⟨Nat.le_of_ble_eq_true rfl, Nat.le_of_ble_eq_true rfl⟩) hS (fun q _ h => hFc q h) hFc ?_
    clear hS
    intro u t H1 locs ht hvm hw hB hz1 hk1 hS
    obtain ⟨⟩ := u
    obtain ⟨hP1, hK1, hD1⟩ := hB
    rw [ht] at hP1
    have hK1 := va_K.moved hvm.symm hK1
    try dsimp only at hw
    have hPD := va_join (wr := []) (w1 := [(h0, .inr (8, [.ref qf0, .ref qf1])), (qf0, .inr (9, [.ref qf0_0, .ref qf0_1, .ref qf0_2, .int v0_3, .ref qf0_4, .ref qf0_5, .ref qf0_6, .ref qf0_7, .ref qf0_8, .int v0_9, .int u2_0, .int u2_1, .int u2_2])), (qf0_0, .inl (cf0_0, 3001, .inl f0_0)), (qf0_1, .inl (cf0_1, 3001, .inl f0_1))]) hP hD [1, 2, 3, 0] [] rfl rfl (by decide) (by decide) hk1 hFc hP1 hD1
    clear hP hD
    obtain ⟨hP, hD⟩ := hPD
    replace hK := (hK.sub (tys' := []) [] rfl).app hK1
    clear hPc hDc hKc hFc hP1 hK1 hD1 hz1 hk1 ht hvm
    generalize H1 = H at hP hS ⊢
    replace hP : va_P (dC, dI) vwCl [(h0, .inr (8, [.ref qf0, .ref qf1])), (qf0, .inr (9, [.ref qf0_0, .ref qf0_1, .ref qf0_2, .int v0_3, .ref qf0_4, .ref qf0_5, .ref qf0_6, .ref qf0_7, .ref qf0_8, .int v0_9, .int u2_0, .int u2_1, .int u2_2])), (qf0_0, .inl (cf0_0, 3001, .inl f0_0)), (qf0_1, .inl (cf0_1, 3001, .inl f0_1))] H := hP
    replace hD : va_D A [(h0, .inr (8, [.ref qf0, .ref qf1])), (qf0, .inr (9, [.ref qf0_0, .ref qf0_1, .ref qf0_2, .int v0_3, .ref qf0_4, .ref qf0_5, .ref qf0_6, .ref qf0_7, .ref qf0_8, .int v0_9, .int u2_0, .int u2_1, .int u2_2])), (qf0_0, .inl (cf0_0, 3001, .inl f0_0)), (qf0_1, .inl (cf0_1, 3001, .inl f0_1))] := hD
    replace hK : va_K (dC, dI) vwCl [(cf0_0, .int), (cf0_1, .int)] s := hK
    refine lv_aload_n hx hb dX8_readNew_29 rfl (lv_at hl 1 rfl) ?_
    refine lv_bipush (v := 40) hx hb dX8_readNew_30 (by decide) ?_
    obtain ⟨⟨u3_0, u3_1⟩, hu_3, hsp⟩ := ox_bind hsp
    try dsimp only at hsp
    have hPc := hP.sub (ws' := [(h0, .inr (8, [.ref qf0, .ref qf1])), (qf0, .inr (9, [.ref qf0_0, .ref qf0_1, .ref qf0_2, .int v0_3, .ref qf0_4, .ref qf0_5, .ref qf0_6, .ref qf0_7, .ref qf0_8, .int v0_9, .int u2_0, .int u2_1, .int u2_2])), (qf0_0, .inl (cf0_0, 3001, .inl f0_0))]) [0, 1, 2] rfl
    have hDc := hD.sub (ws' := [(h0, .inr (8, [.ref qf0, .ref qf1])), (qf0, .inr (9, [.ref qf0_0, .ref qf0_1, .ref qf0_2, .int v0_3, .ref qf0_4, .ref qf0_5, .ref qf0_6, .ref qf0_7, .ref qf0_8, .int v0_9, .int u2_0, .int u2_1, .int u2_2])), (qf0_0, .inl (cf0_0, 3001, .inl f0_0))]) [0, 1, 2] (by decide) rfl
    have hKc := hK.sub (tys' := [(cf0_0, .int)]) [0] rfl
    have hFc := va_free (wc := [(h0, .inr (8, [.ref qf0, .ref qf1])), (qf0, .inr (9, [.ref qf0_0, .ref qf0_1, .ref qf0_2, .int v0_3, .ref qf0_4, .ref qf0_5, .ref qf0_6, .ref qf0_7, .ref qf0_8, .int v0_9, .int u2_0, .int u2_1, .int u2_2])), (qf0_0, .inl (cf0_0, 3001, .inl f0_0))]) hD hS hA [0, 1, 2] rfl
    refine va_calli (va_runV (As := [.int 40]) (rest := []) ⟨hx, hb, hml, hown, hts⟩ (t8_accept l dC dI H.size h0 40 qf0 qf1 qf0_0 qf0_1 qf0_2 v0_3 qf0_4 qf0_5 qf0_6 qf0_7 qf0_8 v0_9 u2_0 u2_1 u2_2 cf0_0 f0_0 nf u3_0 u3_1 hu_3) (cwV 1 hts gv_h8_22 rfl rfl rfl (by decide +kernel) ⟨by dsimp only [headSpec]; omega, by dsimp only [headSpec]; omega⟩) ⟨fun a U g mk q => by obtain ⟨q0, q1, qP, qK, qD⟩ := q; exact ⟨q0, q1, qP, va_K.moved (u := U) (U := U.calling g mk a) (Vm.Alike.refl U.vm) qK, qD⟩, va_recv hKc hPc (ci := 8) (q0 := 0) rfl rfl, fun U hU hW => ⟨rfl, by rw [hU], by rw [hU]; exact hPc, va_K.moved hW.alike hKc, hDc.weaken (fun _ _ _ _ => trivial)⟩⟩ rfl rfl hl.1 rfl (lv_room (Nat.le_of_ble_eq_true rfl)) dX8_readNew_32 ⟨Nat.le_of_ble_eq_true rfl, Nat.le_of_ble_eq_true rfl⟩) hS (fun q _ h => hFc q h) hFc ?_
    clear hS
    intro r_3 u t H1 locs ht hvm hw hB hz1 hk1 hS
    obtain ⟨⟩ := u
    obtain ⟨hP1, hK1, hD1⟩ := hB
    rw [ht] at hP1
    have hK1 := va_K.moved hvm.symm hK1
    try dsimp only at hw
    have hPD := va_join (wr := [(qf0_1, .inl (cf0_1, 3001, .inl f0_1))]) (w1 := [(h0, .inr (8, [.ref qf0, .ref qf1])), (qf0, .inr (9, [.ref qf0_0, .ref qf0_1, .ref qf0_2, .int v0_3, .ref qf0_4, .ref qf0_5, .ref qf0_6, .ref qf0_7, .ref qf0_8, .int v0_9, .int u3_1, .int u2_1, .int u2_2])), (qf0_0, .inl (cf0_0, 3001, .inl f0_0))]) hP hD [0, 1, 2] [3] rfl rfl (by decide) (by decide) hk1 hFc hP1 hD1
    clear hP hD
    obtain ⟨hP, hD⟩ := hPD
    replace hK := (hK.sub (tys' := [(cf0_1, .int)]) [1] rfl).app hK1
    clear hPc hDc hKc hFc hP1 hK1 hD1 hz1 hk1 ht hvm
    generalize H1 = H at hP hS ⊢
    replace hP : va_P (dC, dI) vwCl [(qf0_1, .inl (cf0_1, 3001, .inl f0_1)), (h0, .inr (8, [.ref qf0, .ref qf1])), (qf0, .inr (9, [.ref qf0_0, .ref qf0_1, .ref qf0_2, .int v0_3, .ref qf0_4, .ref qf0_5, .ref qf0_6, .ref qf0_7, .ref qf0_8, .int v0_9, .int u3_1, .int u2_1, .int u2_2])), (qf0_0, .inl (cf0_0, 3001, .inl f0_0))] H := hP
    replace hD : va_D A [(qf0_1, .inl (cf0_1, 3001, .inl f0_1)), (h0, .inr (8, [.ref qf0, .ref qf1])), (qf0, .inr (9, [.ref qf0_0, .ref qf0_1, .ref qf0_2, .int v0_3, .ref qf0_4, .ref qf0_5, .ref qf0_6, .ref qf0_7, .ref qf0_8, .int v0_9, .int u3_1, .int u2_1, .int u2_2])), (qf0_0, .inl (cf0_0, 3001, .inl f0_0))] := hD
    replace hK : va_K (dC, dI) vwCl [(cf0_1, .int), (cf0_0, .int)] s := hK
    obtain ⟨rfl, hz_3⟩ := hw
    rcases hz_3 with rfl | rfl
    · rw [if_pos rfl] at hsp
      refine lv_if_eq (tgt := 45) hx hb dX8_readNew_35 (by decide) (fun c_4 => ?_) (fun c_4 => (show False by revert c_4; decide).elim)
      exact hj_45 (H, locs, ls, a1, u3_1, u2_1, u2_2) ⟨lv_sub hl [1, 2] rfl, hS, hD.sub (ws' := [(h0, .inr (8, [.ref qf0, .ref qf1])), (qf0, .inr (9, [.ref qf0_0, .ref qf0_1, .ref qf0_2, .int v0_3, .ref qf0_4, .ref qf0_5, .ref qf0_6, .ref qf0_7, .ref qf0_8, .int v0_9, .int u3_1, .int u2_1, .int u2_2])), (qf0_0, .inl (cf0_0, 3001, .inl f0_0)), (qf0_1, .inl (cf0_1, 3001, .inl f0_1))]) [1, 2, 3, 0] (by decide) rfl, hP.sub (ws' := [(h0, .inr (8, [.ref qf0, .ref qf1])), (qf0, .inr (9, [.ref qf0_0, .ref qf0_1, .ref qf0_2, .int v0_3, .ref qf0_4, .ref qf0_5, .ref qf0_6, .ref qf0_7, .ref qf0_8, .int v0_9, .int u3_1, .int u2_1, .int u2_2])), (qf0_0, .inl (cf0_0, 3001, .inl f0_0)), (qf0_1, .inl (cf0_1, 3001, .inl f0_1))]) [1, 2, 3, 0] rfl, hsp⟩
    · rw [if_neg (by decide)] at hsp
      refine lv_if_eq (tgt := 45) hx hb dX8_readNew_35 (by decide) (fun c_5 => (show False by revert c_5; decide).elim) (fun c_5 => ?_)
      refine lv_aload_n hx hb dX8_readNew_38 rfl (lv_at hl 1 rfl) ?_
      refine lv_bipush (v := 41) hx hb dX8_readNew_39 (by decide) ?_
      obtain ⟨⟨u4_0, u4_1, u4_2⟩, hu_4, hsp⟩ := ox_bind hsp
      try dsimp only at hsp
      have hPc := hP.sub (ws' := [(h0, .inr (8, [.ref qf0, .ref qf1])), (qf0, .inr (9, [.ref qf0_0, .ref qf0_1, .ref qf0_2, .int v0_3, .ref qf0_4, .ref qf0_5, .ref qf0_6, .ref qf0_7, .ref qf0_8, .int v0_9, .int u3_1, .int u2_1, .int u2_2])), (qf0_0, .inl (cf0_0, 3001, .inl f0_0)), (qf0_1, .inl (cf0_1, 3001, .inl f0_1))]) [1, 2, 3, 0] rfl
      have hDc := hD.sub (ws' := [(h0, .inr (8, [.ref qf0, .ref qf1])), (qf0, .inr (9, [.ref qf0_0, .ref qf0_1, .ref qf0_2, .int v0_3, .ref qf0_4, .ref qf0_5, .ref qf0_6, .ref qf0_7, .ref qf0_8, .int v0_9, .int u3_1, .int u2_1, .int u2_2])), (qf0_0, .inl (cf0_0, 3001, .inl f0_0)), (qf0_1, .inl (cf0_1, 3001, .inl f0_1))]) [1, 2, 3, 0] (by decide) rfl
      have hKc := hK.sub (tys' := [(cf0_0, .int), (cf0_1, .int)]) [1, 0] rfl
      have hFc := va_free (wc := [(h0, .inr (8, [.ref qf0, .ref qf1])), (qf0, .inr (9, [.ref qf0_0, .ref qf0_1, .ref qf0_2, .int v0_3, .ref qf0_4, .ref qf0_5, .ref qf0_6, .ref qf0_7, .ref qf0_8, .int v0_9, .int u3_1, .int u2_1, .int u2_2])), (qf0_0, .inl (cf0_0, 3001, .inl f0_0)), (qf0_1, .inl (cf0_1, 3001, .inl f0_1))]) hD hS hA [1, 2, 3, 0] rfl
      refine va_callv (va_runV (As := [.int 41]) (rest := []) ⟨hx, hb, hml, hown, hts⟩ (t8_need l dC dI H.size h0 41 qf0 qf1 qf0_0 qf0_1 qf0_2 v0_3 qf0_4 qf0_5 qf0_6 qf0_7 qf0_8 v0_9 u3_1 u2_1 u2_2 cf0_0 f0_0 cf0_1 f0_1 nf u4_0 u4_1 u4_2 hu_4) (cwV 1 hts gv_h8_23 rfl rfl rfl (by decide +kernel) ⟨by dsimp only [headSpec]; omega, by dsimp only [headSpec]; omega⟩) ⟨fun a U g mk q => by obtain ⟨q0, q1, qP, qK, qD⟩ := q; exact ⟨q0, q1, qP, va_K.moved (u := U) (U := U.calling g mk a) (Vm.Alike.refl U.vm) qK, qD⟩, va_recv hKc hPc (ci := 8) (q0 := 0) rfl rfl, fun U hU hW => ⟨rfl, by rw [hU], by rw [hU]; exact hPc, va_K.moved hW.alike hKc, hDc.weaken (fun _ _ _ _ => trivial)⟩⟩ rfl rfl hl.1 rfl (lv_room (Nat.le_of_ble_eq_true rfl)) dX8_readNew_41 ⟨Nat.le_of_ble_eq_true rfl, Nat.le_of_ble_eq_true rfl⟩) hS (fun q _ h => hFc q h) hFc ?_
      clear hS
      intro u t H1 locs ht hvm hw hB hz1 hk1 hS
      obtain ⟨⟩ := u
      obtain ⟨hP1, hK1, hD1⟩ := hB
      rw [ht] at hP1
      have hK1 := va_K.moved hvm.symm hK1
      try dsimp only at hw
      have hPD := va_join (wr := []) (w1 := [(h0, .inr (8, [.ref qf0, .ref qf1])), (qf0, .inr (9, [.ref qf0_0, .ref qf0_1, .ref qf0_2, .int v0_3, .ref qf0_4, .ref qf0_5, .ref qf0_6, .ref qf0_7, .ref qf0_8, .int v0_9, .int u4_0, .int u4_1, .int u4_2])), (qf0_0, .inl (cf0_0, 3001, .inl f0_0)), (qf0_1, .inl (cf0_1, 3001, .inl f0_1))]) hP hD [1, 2, 3, 0] [] rfl rfl (by decide) (by decide) hk1 hFc hP1 hD1
      clear hP hD
      obtain ⟨hP, hD⟩ := hPD
      replace hK := (hK.sub (tys' := []) [] rfl).app hK1
      clear hPc hDc hKc hFc hP1 hK1 hD1 hz1 hk1 ht hvm
      generalize H1 = H at hP hS ⊢
      replace hP : va_P (dC, dI) vwCl [(h0, .inr (8, [.ref qf0, .ref qf1])), (qf0, .inr (9, [.ref qf0_0, .ref qf0_1, .ref qf0_2, .int v0_3, .ref qf0_4, .ref qf0_5, .ref qf0_6, .ref qf0_7, .ref qf0_8, .int v0_9, .int u4_0, .int u4_1, .int u4_2])), (qf0_0, .inl (cf0_0, 3001, .inl f0_0)), (qf0_1, .inl (cf0_1, 3001, .inl f0_1))] H := hP
      replace hD : va_D A [(h0, .inr (8, [.ref qf0, .ref qf1])), (qf0, .inr (9, [.ref qf0_0, .ref qf0_1, .ref qf0_2, .int v0_3, .ref qf0_4, .ref qf0_5, .ref qf0_6, .ref qf0_7, .ref qf0_8, .int v0_9, .int u4_0, .int u4_1, .int u4_2])), (qf0_0, .inl (cf0_0, 3001, .inl f0_0)), (qf0_1, .inl (cf0_1, 3001, .inl f0_1))] := hD
      replace hK : va_K (dC, dI) vwCl [(cf0_0, .int), (cf0_1, .int)] s := hK
      have hr0 := Option.some.inj hsp
      clear hsp
      obtain ⟨hq0, hr1⟩ := Prod.mk.inj hr0
      clear hr0
      obtain ⟨hq1, hr2⟩ := Prod.mk.inj hr1
      clear hr1
      subst hq0
      subst hq1
      subst hr2
      have hP9 := hP.sub (ws' := [(h0, .inr (8, [.ref qf0, .ref qf1])), (qf0, .inr (9, [.ref qf0_0, .ref qf0_1, .ref qf0_2, .int v0_3, .ref qf0_4, .ref qf0_5, .ref qf0_6, .ref qf0_7, .ref qf0_8, .int v0_9, .int u4_0, .int u4_1, .int u4_2])), (qf0_0, .inl (cf0_0, 3001, .inl f0_0)), (qf0_1, .inl (cf0_1, 3001, .inl f0_1))]) [0, 1, 2, 3] rfl
      have hD9 := hD.sub (ws' := [(h0, .inr (8, [.ref qf0, .ref qf1])), (qf0, .inr (9, [.ref qf0_0, .ref qf0_1, .ref qf0_2, .int v0_3, .ref qf0_4, .ref qf0_5, .ref qf0_6, .ref qf0_7, .ref qf0_8, .int v0_9, .int u4_0, .int u4_1, .int u4_2])), (qf0_0, .inl (cf0_0, 3001, .inl f0_0)), (qf0_1, .inl (cf0_1, 3001, .inl f0_1))]) [0, 1, 2, 3] (by decide) rfl
      have hK9 := hK.sub (tys' := [(cf0_0, .int), (cf0_1, .int)]) [0, 1] rfl
      exact W.vret hx hb hr (fun t ht hW => ⟨⟨(), rfl, trivial, by rw [ht]; exact hP9, va_K.moved hW.alike hK9, hD9⟩, hS.F ht⟩) hS.2.2 dX8_readNew_44
  · rw [if_neg (by decide)] at hsp
    refine lv_istore_n (lv' := [(2, .int 1), (0, .ref h0), (1, .int a1)]) hx hb dX8_readNew_19 rfl hl (by decide) rfl (fun ls hl => ?_)
    refine lv_iload_n hx hb dX8_readNew_20 rfl (lv_at hl 0 rfl) ?_
    refine lv_if_ne (tgt := 45) hx hb dX8_readNew_21 (by decide) (fun c_6 => ?_) (fun c_6 => (show False by revert c_6; decide).elim)
    exact hj_45 (H, locs, ls, a1, u1_1, v0_11, v0_12) ⟨lv_sub hl [1, 2] rfl, hS, hD.sub (ws' := [(h0, .inr (8, [.ref qf0, .ref qf1])), (qf0, .inr (9, [.ref qf0_0, .ref qf0_1, .ref qf0_2, .int v0_3, .ref qf0_4, .ref qf0_5, .ref qf0_6, .ref qf0_7, .ref qf0_8, .int v0_9, .int u1_1, .int v0_11, .int v0_12])), (qf0_0, .inl (cf0_0, 3001, .inl f0_0)), (qf0_1, .inl (cf0_1, 3001, .inl f0_1))]) [1, 2, 3, 0] (by decide) rfl, hP.sub (ws' := [(h0, .inr (8, [.ref qf0, .ref qf1])), (qf0, .inr (9, [.ref qf0_0, .ref qf0_1, .ref qf0_2, .int v0_3, .ref qf0_4, .ref qf0_5, .ref qf0_6, .ref qf0_7, .ref qf0_8, .int v0_9, .int u1_1, .int v0_11, .int v0_12])), (qf0_0, .inl (cf0_0, 3001, .inl f0_0)), (qf0_1, .inl (cf0_1, 3001, .inl f0_1))]) [1, 2, 3, 0] rfl, hsp⟩
set_option maxHeartbeats 4000000 in
set_option maxRecDepth 100000 in
/-- ClassMill$Syntax.readArguments -/
theorem op_v8_readArguments_ok (nf d : Nat) (rc : GT_synv) (ih_0 : CT_v8_readValue d rc.1) (ih_1 : CT_v8_readUnary d rc.2.1) (ih_2 : CT_v8_readPrimary d rc.2.2.1) (ih_3 : CT_v8_readBehind d rc.2.2.2.1) (ih_4 : CT_v8_readNew d rc.2.2.2.2.1) (ih_5 : CT_v8_readArguments d rc.2.2.2.2.2) : CT_v8_readArguments (d + 1) (op_v8_readArguments nf rc) := by
  intro l dC dI sz h0 a1 qf0 qf1 qf0_0 qf0_1 qf0_2 v0_3 qf0_4 qf0_5 qf0_6 qf0_7 qf0_8 v0_9 v0_10 v0_11 v0_12 cf0_0 f0_0 cf0_1 f0_1 nf9 w0_10 w0_11 w0_12 hsp
  refine Met.ofW (cc := cX8_readArguments) (maxL := 4) (ret := none) (by decide) rfl ?_
  intro p e s m args below meth c s₁ B hml hv
  obtain ⟨rfl, hsz, hP, hK, hD0⟩ := hv
  have hx := B.exec
  have hb := B.bytes
  have hr := B.returns
  have hts := atoms_spec (ws := (.code yX8_readArguments cX8_readArguments 4 none :: VS_h8)) B.pre
  replace hts := fun w (h : w ∈ VS_h8) => hts w (List.mem_cons_of_mem _ h)
  have hown : s.vm.findClass RX8 = some m.cls := findClass_of_methodNamed B.named
  have hlocks := B.notSynchronized
  subst hsz
  have hD := hD0.self (sz := s.heap.size)
  generalize hAe : va_A [(h0, .inr (8, [.ref qf0, .ref qf1])), (qf0, .inr (9, [.ref qf0_0, .ref qf0_1, .ref qf0_2, .int v0_3, .ref qf0_4, .ref qf0_5, .ref qf0_6, .ref qf0_7, .ref qf0_8, .int v0_9, .int v0_10, .int v0_11, .int v0_12])), (qf0_0, .inl (cf0_0, 3001, .inl f0_0)), (qf0_1, .inl (cf0_1, 3001, .inl f0_1))] s.heap.size = A at hD  ⊢
  have hA : ∀ q : Nat, s.heap.size ≤ q → A q := fun q h => by rw [← hAe]; exact Or.inr h
  have hP : va_P (dC, dI) vwCl [(h0, .inr (8, [.ref qf0, .ref qf1])), (qf0, .inr (9, [.ref qf0_0, .ref qf0_1, .ref qf0_2, .int v0_3, .ref qf0_4, .ref qf0_5, .ref qf0_6, .ref qf0_7, .ref qf0_8, .int v0_9, .int v0_10, .int v0_11, .int v0_12])), (qf0_0, .inl (cf0_0, 3001, .inl f0_0)), (qf0_1, .inl (cf0_1, 3001, .inl f0_1))] s.heap := hP
  have hl := lv_entry ([.ref h0, .int a1]) (n := 4) (Nat.le_of_ble_eq_true rfl)
  rw [lg_entry_eq]
  generalize (lg_sl ([.ref h0, .int a1]) ++ List.replicate (4 - (lg_sl ([.ref h0, .int a1])).length) Slot.unset).toArray = ls at hl ⊢
  have hl : lv_has ls 4 [(0, .ref h0), (1, .int a1)] := hl
  obtain ⟨H, hH⟩ : ∃ H : Heap, s.heap = H := ⟨_, rfl⟩
  rw [hH] at hP ⊢
  have hS : va_S A s.heap H [] := by rw [← hH]; exact va_S.rf
  obtain ⟨locs, hlo⟩ : ∃ locs : List Loc, locs = [] := ⟨_, rfl⟩
  rw [← hlo] at hS ⊢
  replace hsp : op_v8_readArguments nf rc a1 v0_3 v0_10 v0_11 v0_12 f0_0 f0_1 = some (w0_10, w0_11, w0_12) := hsp
  unfold op_v8_readArguments at hsp
  refine lv_aload_n hx hb dX8_readArguments_0 rfl (lv_at hl 0 rfl) ?_
  refine lv_bipush (v := 40) hx hb dX8_readArguments_1 (by decide) ?_
  obtain ⟨⟨u1_0, u1_1⟩, hu_1, hsp⟩ := ox_bind hsp
  try dsimp only at hsp
  have hPc := hP.sub (ws' := [(h0, .inr (8, [.ref qf0, .ref qf1])), (qf0, .inr (9, [.ref qf0_0, .ref qf0_1, .ref qf0_2, .int v0_3, .ref qf0_4, .ref qf0_5, .ref qf0_6, .ref qf0_7, .ref qf0_8, .int v0_9, .int v0_10, .int v0_11, .int v0_12])), (qf0_0, .inl (cf0_0, 3001, .inl f0_0))]) [0, 1, 2] rfl
  have hDc := hD.sub (ws' := [(h0, .inr (8, [.ref qf0, .ref qf1])), (qf0, .inr (9, [.ref qf0_0, .ref qf0_1, .ref qf0_2, .int v0_3, .ref qf0_4, .ref qf0_5, .ref qf0_6, .ref qf0_7, .ref qf0_8, .int v0_9, .int v0_10, .int v0_11, .int v0_12])), (qf0_0, .inl (cf0_0, 3001, .inl f0_0))]) [0, 1, 2] (by decide) rfl
  have hKc := hK.sub (tys' := [(cf0_0, .int)]) [0] rfl
  have hFc := va_free (wc := [(h0, .inr (8, [.ref qf0, .ref qf1])), (qf0, .inr (9, [.ref qf0_0, .ref qf0_1, .ref qf0_2, .int v0_3, .ref qf0_4, .ref qf0_5, .ref qf0_6, .ref qf0_7, .ref qf0_8, .int v0_9, .int v0_10, .int v0_11, .int v0_12])), (qf0_0, .inl (cf0_0, 3001, .inl f0_0))]) hD hS hA [0, 1, 2] rfl
  refine va_calli (va_runV (As := [.int 40]) (rest := []) ⟨hx, hb, hml, hown, hts⟩ (t8_accept l dC dI H.size h0 40 qf0 qf1 qf0_0 qf0_1 qf0_2 v0_3 qf0_4 qf0_5 qf0_6 qf0_7 qf0_8 v0_9 v0_10 v0_11 v0_12 cf0_0 f0_0 nf u1_0 u1_1 hu_1) (cwV 1 hts gv_h8_22 rfl rfl rfl (by decide +kernel) ⟨by dsimp only [headSpec]; omega, by dsimp only [headSpec]; omega⟩) ⟨fun a U g mk q => by obtain ⟨q0, q1, qP, qK, qD⟩ := q; exact ⟨q0, q1, qP, va_K.moved (u := U) (U := U.calling g mk a) (Vm.Alike.refl U.vm) qK, qD⟩, va_recv hKc hPc (ci := 8) (q0 := 0) rfl rfl, fun U hU hW => ⟨rfl, by rw [hU], by rw [hU]; exact hPc, va_K.moved hW.alike hKc, hDc.weaken (fun _ _ _ _ => trivial)⟩⟩ rfl rfl hl.1 rfl (lv_room (Nat.le_of_ble_eq_true rfl)) dX8_readArguments_3 ⟨Nat.le_of_ble_eq_true rfl, Nat.le_of_ble_eq_true rfl⟩) hS (fun q _ h => hFc q h) hFc ?_
  clear hS
  intro r_1 u t H1 locs ht hvm hw hB hz1 hk1 hS
  obtain ⟨⟩ := u
  obtain ⟨hP1, hK1, hD1⟩ := hB
  rw [ht] at hP1
  have hK1 := va_K.moved hvm.symm hK1
  try dsimp only at hw
  have hPD := va_join (wr := [(qf0_1, .inl (cf0_1, 3001, .inl f0_1))]) (w1 := [(h0, .inr (8, [.ref qf0, .ref qf1])), (qf0, .inr (9, [.ref qf0_0, .ref qf0_1, .ref qf0_2, .int v0_3, .ref qf0_4, .ref qf0_5, .ref qf0_6, .ref qf0_7, .ref qf0_8, .int v0_9, .int u1_1, .int v0_11, .int v0_12])), (qf0_0, .inl (cf0_0, 3001, .inl f0_0))]) hP hD [0, 1, 2] [3] rfl rfl (by decide) (by decide) hk1 hFc hP1 hD1
  clear hP hD
  obtain ⟨hP, hD⟩ := hPD
  replace hK := (hK.sub (tys' := [(cf0_1, .int)]) [1] rfl).app hK1
  clear hPc hDc hKc hFc hP1 hK1 hD1 hz1 hk1 ht hvm
  generalize H1 = H at hP hS ⊢
  replace hP : va_P (dC, dI) vwCl [(qf0_1, .inl (cf0_1, 3001, .inl f0_1)), (h0, .inr (8, [.ref qf0, .ref qf1])), (qf0, .inr (9, [.ref qf0_0, .ref qf0_1, .ref qf0_2, .int v0_3, .ref qf0_4, .ref qf0_5, .ref qf0_6, .ref qf0_7, .ref qf0_8, .int v0_9, .int u1_1, .int v0_11, .int v0_12])), (qf0_0, .inl (cf0_0, 3001, .inl f0_0))] H := hP
  replace hD : va_D A [(qf0_1, .inl (cf0_1, 3001, .inl f0_1)), (h0, .inr (8, [.ref qf0, .ref qf1])), (qf0, .inr (9, [.ref qf0_0, .ref qf0_1, .ref qf0_2, .int v0_3, .ref qf0_4, .ref qf0_5, .ref qf0_6, .ref qf0_7, .ref qf0_8, .int v0_9, .int u1_1, .int v0_11, .int v0_12])), (qf0_0, .inl (cf0_0, 3001, .inl f0_0))] := hD
  replace hK : va_K (dC, dI) vwCl [(cf0_1, .int), (cf0_0, .int)] s := hK
  obtain ⟨rfl, hz_1⟩ := hw
  rcases hz_1 with rfl | rfl
  · rw [if_pos rfl] at hsp
    refine lv_if_eq (tgt := 18) hx hb dX8_readArguments_6 (by decide) (fun c_2 => ?_) (fun c_2 => (show False by revert c_2; decide).elim)
    have hr0 := Option.some.inj hsp
    clear hsp
    obtain ⟨hq0, hr1⟩ := Prod.mk.inj hr0
    clear hr0
    obtain ⟨hq1, hr2⟩ := Prod.mk.inj hr1
    clear hr1
    subst hq0
    subst hq1
    subst hr2
    have hP9 := hP.sub (ws' := [(h0, .inr (8, [.ref qf0, .ref qf1])), (qf0, .inr (9, [.ref qf0_0, .ref qf0_1, .ref qf0_2, .int v0_3, .ref qf0_4, .ref qf0_5, .ref qf0_6, .ref qf0_7, .ref qf0_8, .int v0_9, .int u1_1, .int v0_11, .int v0_12])), (qf0_0, .inl (cf0_0, 3001, .inl f0_0)), (qf0_1, .inl (cf0_1, 3001, .inl f0_1))]) [1, 2, 3, 0] rfl
    have hD9 := hD.sub (ws' := [(h0, .inr (8, [.ref qf0, .ref qf1])), (qf0, .inr (9, [.ref qf0_0, .ref qf0_1, .ref qf0_2, .int v0_3, .ref qf0_4, .ref qf0_5, .ref qf0_6, .ref qf0_7, .ref qf0_8, .int v0_9, .int u1_1, .int v0_11, .int v0_12])), (qf0_0, .inl (cf0_0, 3001, .inl f0_0)), (qf0_1, .inl (cf0_1, 3001, .inl f0_1))]) [1, 2, 3, 0] (by decide) rfl
    have hK9 := hK.sub (tys' := [(cf0_0, .int), (cf0_1, .int)]) [1, 0] rfl
    exact W.vret hx hb hr (fun t ht hW => ⟨⟨(), rfl, trivial, by rw [ht]; exact hP9, va_K.moved hW.alike hK9, hD9⟩, hS.F ht⟩) hS.2.2 dX8_readArguments_18
  · rw [if_neg (by decide)] at hsp
    refine lv_if_eq (tgt := 18) hx hb dX8_readArguments_6 (by decide) (fun c_3 => (show False by revert c_3; decide).elim) (fun c_3 => ?_)
    refine lv_aload_n hx hb dX8_readArguments_9 rfl (lv_at hl 0 rfl) ?_
    refine lv_bipush (v := 41) hx hb dX8_readArguments_10 (by decide) ?_
    obtain ⟨⟨u2_0, u2_1⟩, hu_2, hsp⟩ := ox_bind hsp
    try dsimp only at hsp
    have hPc := hP.sub (ws' := [(h0, .inr (8, [.ref qf0, .ref qf1])), (qf0, .inr (9, [.ref qf0_0, .ref qf0_1, .ref qf0_2, .int v0_3, .ref qf0_4, .ref qf0_5, .ref qf0_6, .ref qf0_7, .ref qf0_8, .int v0_9, .int u1_1, .int v0_11, .int v0_12])), (qf0_0, .inl (cf0_0, 3001, .inl f0_0))]) [1, 2, 3] rfl
    have hDc := hD.sub (ws' := [(h0, .inr (8, [.ref qf0, .ref qf1])), (qf0, .inr (9, [.ref qf0_0, .ref qf0_1, .ref qf0_2, .int v0_3, .ref qf0_4, .ref qf0_5, .ref qf0_6, .ref qf0_7, .ref qf0_8, .int v0_9, .int u1_1, .int v0_11, .int v0_12])), (qf0_0, .inl (cf0_0, 3001, .inl f0_0))]) [1, 2, 3] (by decide) rfl
    have hKc := hK.sub (tys' := [(cf0_0, .int)]) [1] rfl
    have hFc := va_free (wc := [(h0, .inr (8, [.ref qf0, .ref qf1])), (qf0, .inr (9, [.ref qf0_0, .ref qf0_1, .ref qf0_2, .int v0_3, .ref qf0_4, .ref qf0_5, .ref qf0_6, .ref qf0_7, .ref qf0_8, .int v0_9, .int u1_1, .int v0_11, .int v0_12])), (qf0_0, .inl (cf0_0, 3001, .inl f0_0))]) hD hS hA [1, 2, 3] rfl
    refine va_calli (va_runV (As := [.int 41]) (rest := []) ⟨hx, hb, hml, hown, hts⟩ (t8_accept l dC dI H.size h0 41 qf0 qf1 qf0_0 qf0_1 qf0_2 v0_3 qf0_4 qf0_5 qf0_6 qf0_7 qf0_8 v0_9 u1_1 v0_11 v0_12 cf0_0 f0_0 nf u2_0 u2_1 hu_2) (cwV 1 hts gv_h8_22 rfl rfl rfl (by decide +kernel) ⟨by dsimp only [headSpec]; omega, by dsimp only [headSpec]; omega⟩) ⟨fun a U g mk q => by obtain ⟨q0, q1, qP, qK, qD⟩ := q; exact ⟨q0, q1, qP, va_K.moved (u := U) (U := U.calling g mk a) (Vm.Alike.refl U.vm) qK, qD⟩, va_recv hKc hPc (ci := 8) (q0 := 0) rfl rfl, fun U hU hW => ⟨rfl, by rw [hU], by rw [hU]; exact hPc, va_K.moved hW.alike hKc, hDc.weaken (fun _ _ _ _ => trivial)⟩⟩ rfl rfl hl.1 rfl (lv_room (Nat.le_of_ble_eq_true rfl)) dX8_readArguments_12 ⟨Nat.le_of_ble_eq_true rfl, Nat.le_of_ble_eq_true rfl⟩) hS (fun q _ h => hFc q h) hFc ?_
    clear hS
    intro r_4 u t H1 locs ht hvm hw hB hz1 hk1 hS
    obtain ⟨⟩ := u
    obtain ⟨hP1, hK1, hD1⟩ := hB
    rw [ht] at hP1
    have hK1 := va_K.moved hvm.symm hK1
    try dsimp only at hw
    have hPD := va_join (wr := [(qf0_1, .inl (cf0_1, 3001, .inl f0_1))]) (w1 := [(h0, .inr (8, [.ref qf0, .ref qf1])), (qf0, .inr (9, [.ref qf0_0, .ref qf0_1, .ref qf0_2, .int v0_3, .ref qf0_4, .ref qf0_5, .ref qf0_6, .ref qf0_7, .ref qf0_8, .int v0_9, .int u2_1, .int v0_11, .int v0_12])), (qf0_0, .inl (cf0_0, 3001, .inl f0_0))]) hP hD [1, 2, 3] [0] rfl rfl (by decide) (by decide) hk1 hFc hP1 hD1
    clear hP hD
    obtain ⟨hP, hD⟩ := hPD
    replace hK := (hK.sub (tys' := [(cf0_1, .int)]) [0] rfl).app hK1
    clear hPc hDc hKc hFc hP1 hK1 hD1 hz1 hk1 ht hvm
    generalize H1 = H at hP hS ⊢
    replace hP : va_P (dC, dI) vwCl [(qf0_1, .inl (cf0_1, 3001, .inl f0_1)), (h0, .inr (8, [.ref qf0, .ref qf1])), (qf0, .inr (9, [.ref qf0_0, .ref qf0_1, .ref qf0_2, .int v0_3, .ref qf0_4, .ref qf0_5, .ref qf0_6, .ref qf0_7, .ref qf0_8, .int v0_9, .int u2_1, .int v0_11, .int v0_12])), (qf0_0, .inl (cf0_0, 3001, .inl f0_0))] H := hP
    replace hD : va_D A [(qf0_1, .inl (cf0_1, 3001, .inl f0_1)), (h0, .inr (8, [.ref qf0, .ref qf1])), (qf0, .inr (9, [.ref qf0_0, .ref qf0_1, .ref qf0_2, .int v0_3, .ref qf0_4, .ref qf0_5, .ref qf0_6, .ref qf0_7, .ref qf0_8, .int v0_9, .int u2_1, .int v0_11, .int v0_12])), (qf0_0, .inl (cf0_0, 3001, .inl f0_0))] := hD
    replace hK : va_K (dC, dI) vwCl [(cf0_1, .int), (cf0_0, .int)] s := hK
    obtain ⟨rfl, hz_2⟩ := hw
    rcases hz_2 with rfl | rfl
    · rw [if_pos rfl] at hsp
      refine lv_if_eq (tgt := 19) hx hb dX8_readArguments_15 (by decide) (fun c_5 => ?_) (fun c_5 => (show False by revert c_5; decide).elim)
      refine lv_iconst (v := 1) hx hb dX8_readArguments_19 (by decide) ?_
      refine lv_istore_n (lv' := [(2, .int 1), (0, .ref h0), (1, .int a1)]) hx hb dX8_readArguments_20 rfl hl (by decide) rfl (fun ls hl => ?_)
      refine lv_iconst (v := 0) hx hb dX8_readArguments_21 (by decide) ?_
      refine lv_istore_n (lv' := [(3, .int 0), (2, .int 1), (0, .ref h0), (1, .int a1)]) hx hb dX8_readArguments_22 rfl hl (by decide) rfl (fun ls hl => ?_)
      replace hl : lv_has ls 4 [(3, .int 0), (2, .int 1), (0, .ref h0), (1, .int a1)] := lv_sub hl [0, 1, 2, 3] rfl
      replace hP := hP.sub (ws' := [(h0, .inr (8, [.ref qf0, .ref qf1])), (qf0, .inr (9, [.ref qf0_0, .ref qf0_1, .ref qf0_2, .int v0_3, .ref qf0_4, .ref qf0_5, .ref qf0_6, .ref qf0_7, .ref qf0_8, .int v0_9, .int u2_1, .int v0_11, .int v0_12])), (qf0_0, .inl (cf0_0, 3001, .inl f0_0)), (qf0_1, .inl (cf0_1, 3001, .inl f0_1))]) [1, 2, 3, 0] rfl
      replace hD := hD.sub (ws' := [(h0, .inr (8, [.ref qf0, .ref qf1])), (qf0, .inr (9, [.ref qf0_0, .ref qf0_1, .ref qf0_2, .int v0_3, .ref qf0_4, .ref qf0_5, .ref qf0_6, .ref qf0_7, .ref qf0_8, .int v0_9, .int u2_1, .int v0_11, .int v0_12])), (qf0_0, .inl (cf0_0, 3001, .inl f0_0)), (qf0_1, .inl (cf0_1, 3001, .inl f0_1))]) [1, 2, 3, 0] (by decide) rfl
      replace hK := hK.sub (tys' := [(cf0_0, .int), (cf0_1, .int)]) [1, 0] rfl
      obtain ⟨n_23, hn_23⟩ : ∃ z : Nat, z = nf := ⟨_, rfl⟩
      obtain ⟨l1_23, el1_23⟩ : ∃ z : Int32, z = a1 := ⟨_, rfl⟩
      obtain ⟨l2_23, el2_23⟩ : ∃ z : Int32, z = 1 := ⟨_, rfl⟩
      obtain ⟨l3_23, el3_23⟩ : ∃ z : Int32, z = 0 := ⟨_, rfl⟩
      obtain ⟨x0_10_23, ex0_10_23⟩ : ∃ z : Int32, z = u2_1 := ⟨_, rfl⟩
      obtain ⟨x0_11_23, ex0_11_23⟩ : ∃ z : Int32, z = v0_11 := ⟨_, rfl⟩
      obtain ⟨x0_12_23, ex0_12_23⟩ : ∃ z : Int32, z = v0_12 := ⟨_, rfl⟩
      replace hsp : lp_v8_readArguments_23 nf n_23 rc a1 v0_3 v0_10 v0_11 v0_12 f0_0 f0_1 l1_23 l2_23 l3_23 x0_10_23 x0_11_23 x0_12_23 = some (w0_10, w0_11, w0_12) := by rw [hn_23, el1_23, el2_23, el3_23, ex0_10_23, ex0_11_23, ex0_12_23]; exact hsp
      replace hl : lv_has ls 4 [(3, .int l3_23), (2, .int l2_23), (0, .ref h0), (1, .int l1_23)] := by rw [el1_23, el2_23, el3_23]; exact hl
      replace hP : va_P (dC, dI) vwCl [(h0, .inr (8, [.ref qf0, .ref qf1])), (qf0, .inr (9, [.ref qf0_0, .ref qf0_1, .ref qf0_2, .int v0_3, .ref qf0_4, .ref qf0_5, .ref qf0_6, .ref qf0_7, .ref qf0_8, .int v0_9, .int x0_10_23, .int x0_11_23, .int x0_12_23])), (qf0_0, .inl (cf0_0, 3001, .inl f0_0)), (qf0_1, .inl (cf0_1, 3001, .inl f0_1))] H := by rw [ex0_10_23, ex0_11_23, ex0_12_23]; exact hP
      replace hD : va_D A [(h0, .inr (8, [.ref qf0, .ref qf1])), (qf0, .inr (9, [.ref qf0_0, .ref qf0_1, .ref qf0_2, .int v0_3, .ref qf0_4, .ref qf0_5, .ref qf0_6, .ref qf0_7, .ref qf0_8, .int v0_9, .int x0_10_23, .int x0_11_23, .int x0_12_23])), (qf0_0, .inl (cf0_0, 3001, .inl f0_0)), (qf0_1, .inl (cf0_1, 3001, .inl f0_1))] := by rw [ex0_10_23, ex0_11_23, ex0_12_23]; exact hD
      clear hn_23 el1_23 el2_23 el3_23 ex0_10_23 ex0_11_23 ex0_12_23
      try clear hlo
      try clear hH
      revert hsp
      revert hP
      revert hD
      revert hS
      revert hl
      revert x0_12_23
      revert x0_11_23
      revert x0_10_23
      revert l3_23
      revert l2_23
      revert l1_23
      revert ls
      revert locs
      revert H
      induction n_23 with
      | zero => intro H locs ls l1_23 l2_23 l3_23 x0_10_23 x0_11_23 x0_12_23  hl hS hD hP hsp; unfold lp_v8_readArguments_23 at hsp; cases hsp
      | succ n_23 ih_23 =>
        intro H locs ls l1_23 l2_23 l3_23 x0_10_23 x0_11_23 x0_12_23  hl hS hD hP hsp
        unfold lp_v8_readArguments_23 at hsp
        try dsimp only at hsp
        refine lv_iload_n hx hb dX8_readArguments_23 rfl (lv_at hl 0 rfl) ?_
        refine lv_sipush (v := 3000) hx hb dX8_readArguments_24 (by decide) ?_
        refine lv_icmp_ge (tgt := 52) hx hb dX8_readArguments_27 (by decide) (fun c_6 => ?_) (fun c_6 => ?_)
        · rw [if_pos c_6] at hsp
          refine lv_aload_n hx hb dX8_readArguments_52 rfl (lv_at hl 2 rfl) ?_
          refine lv_bipush (v := 41) hx hb dX8_readArguments_53 (by decide) ?_
          obtain ⟨⟨u3_0, u3_1, u3_2⟩, hu_3, hsp⟩ := ox_bind hsp
          try dsimp only at hsp
          have hPc := hP.sub (ws' := [(h0, .inr (8, [.ref qf0, .ref qf1])), (qf0, .inr (9, [.ref qf0_0, .ref qf0_1, .ref qf0_2, .int v0_3, .ref qf0_4, .ref qf0_5, .ref qf0_6, .ref qf0_7, .ref qf0_8, .int v0_9, .int x0_10_23, .int x0_11_23, .int x0_12_23])), (qf0_0, .inl (cf0_0, 3001, .inl f0_0)), (qf0_1, .inl (cf0_1, 3001, .inl f0_1))]) [0, 1, 2, 3] rfl
          have hDc := hD.sub (ws' := [(h0, .inr (8, [.ref qf0, .ref qf1])), (qf0, .inr (9, [.ref qf0_0, .ref qf0_1, .ref qf0_2, .int v0_3, .ref qf0_4, .ref qf0_5, .ref qf0_6, .ref qf0_7, .ref qf0_8, .int v0_9, .int x0_10_23, .int x0_11_23, .int x0_12_23])), (qf0_0, .inl (cf0_0, 3001, .inl f0_0)), (qf0_1, .inl (cf0_1, 3001, .inl f0_1))]) [0, 1, 2, 3] (by decide) rfl
          have hKc := hK.sub (tys' := [(cf0_0, .int), (cf0_1, .int)]) [0, 1] rfl
          have hFc := va_free (wc := [(h0, .inr (8, [.ref qf0, .ref qf1])), (qf0, .inr (9, [.ref qf0_0, .ref qf0_1, .ref qf0_2, .int v0_3, .ref qf0_4, .ref qf0_5, .ref qf0_6, .ref qf0_7, .ref qf0_8, .int v0_9, .int x0_10_23, .int x0_11_23, .int x0_12_23])), (qf0_0, .inl (cf0_0, 3001, .inl f0_0)), (qf0_1, .inl (cf0_1, 3001, .inl f0_1))]) hD hS hA [0, 1, 2, 3] rfl
          refine va_callv (va_runV (As := [.int 41]) (rest := []) ⟨hx, hb, hml, hown, hts⟩ (t8_need l dC dI H.size h0 41 qf0 qf1 qf0_0 qf0_1 qf0_2 v0_3 qf0_4 qf0_5 qf0_6 qf0_7 qf0_8 v0_9 x0_10_23 x0_11_23 x0_12_23 cf0_0 f0_0 cf0_1 f0_1 nf u3_0 u3_1 u3_2 hu_3) (cwV 1 hts gv_h8_23 rfl rfl rfl (by decide +kernel) ⟨by dsimp only [headSpec]; omega, by dsimp only [headSpec]; omega⟩) ⟨fun a U g mk q => by obtain ⟨q0, q1, qP, qK, qD⟩ := q; exact ⟨q0, q1, qP, va_K.moved (u := U) (U := U.calling g mk a) (Vm.Alike.refl U.vm) qK, qD⟩, va_recv hKc hPc (ci := 8) (q0 := 0) rfl rfl, fun U hU hW => ⟨rfl, by rw [hU], by rw [hU]; exact hPc, va_K.moved hW.alike hKc, hDc.weaken (fun _ _ _ _ => trivial)⟩⟩ rfl rfl hl.1 rfl (lv_room (Nat.le_of_ble_eq_true rfl)) dX8_readArguments_55 ⟨Nat.le_of_ble_eq_true rfl, Nat.le_of_ble_eq_true rfl⟩) hS (fun q _ h => hFc q h) hFc ?_
          clear hS
          intro u t H1 locs ht hvm hw hB hz1 hk1 hS
          obtain ⟨⟩ := u
          obtain ⟨hP1, hK1, hD1⟩ := hB
          rw [ht] at hP1
          have hK1 := va_K.moved hvm.symm hK1
          try dsimp only at hw
          have hPD := va_join (wr := []) (w1 := [(h0, .inr (8, [.ref qf0, .ref qf1])), (qf0, .inr (9, [.ref qf0_0, .ref qf0_1, .ref qf0_2, .int v0_3, .ref qf0_4, .ref qf0_5, .ref qf0_6, .ref qf0_7, .ref qf0_8, .int v0_9, .int u3_0, .int u3_1, .int u3_2])), (qf0_0, .inl (cf0_0, 3001, .inl f0_0)), (qf0_1, .inl (cf0_1, 3001, .inl f0_1))]) hP hD [0, 1, 2, 3] [] rfl rfl (by decide) (by decide) hk1 hFc hP1 hD1
          clear hP hD
          obtain ⟨hP, hD⟩ := hPD
          replace hK := (hK.sub (tys' := []) [] rfl).app hK1
          clear hPc hDc hKc hFc hP1 hK1 hD1 hz1 hk1 ht hvm
          generalize H1 = H at hP hS ⊢
          replace hP : va_P (dC, dI) vwCl [(h0, .inr (8, [.ref qf0, .ref qf1])), (qf0, .inr (9, [.ref qf0_0, .ref qf0_1, .ref qf0_2, .int v0_3, .ref qf0_4, .ref qf0_5, .ref qf0_6, .ref qf0_7, .ref qf0_8, .int v0_9, .int u3_0, .int u3_1, .int u3_2])), (qf0_0, .inl (cf0_0, 3001, .inl f0_0)), (qf0_1, .inl (cf0_1, 3001, .inl f0_1))] H := hP
          replace hD : va_D A [(h0, .inr (8, [.ref qf0, .ref qf1])), (qf0, .inr (9, [.ref qf0_0, .ref qf0_1, .ref qf0_2, .int v0_3, .ref qf0_4, .ref qf0_5, .ref qf0_6, .ref qf0_7, .ref qf0_8, .int v0_9, .int u3_0, .int u3_1, .int u3_2])), (qf0_0, .inl (cf0_0, 3001, .inl f0_0)), (qf0_1, .inl (cf0_1, 3001, .inl f0_1))] := hD
          replace hK : va_K (dC, dI) vwCl [(cf0_0, .int), (cf0_1, .int)] s := hK
          have hr0 := Option.some.inj hsp
          clear hsp
          obtain ⟨hq0, hr1⟩ := Prod.mk.inj hr0
          clear hr0
          obtain ⟨hq1, hr2⟩ := Prod.mk.inj hr1
          clear hr1
          subst hq0
          subst hq1
          subst hr2
          have hP9 := hP.sub (ws' := [(h0, .inr (8, [.ref qf0, .ref qf1])), (qf0, .inr (9, [.ref qf0_0, .ref qf0_1, .ref qf0_2, .int v0_3, .ref qf0_4, .ref qf0_5, .ref qf0_6, .ref qf0_7, .ref qf0_8, .int v0_9, .int u3_0, .int u3_1, .int u3_2])), (qf0_0, .inl (cf0_0, 3001, .inl f0_0)), (qf0_1, .inl (cf0_1, 3001, .inl f0_1))]) [0, 1, 2, 3] rfl
          have hD9 := hD.sub (ws' := [(h0, .inr (8, [.ref qf0, .ref qf1])), (qf0, .inr (9, [.ref qf0_0, .ref qf0_1, .ref qf0_2, .int v0_3, .ref qf0_4, .ref qf0_5, .ref qf0_6, .ref qf0_7, .ref qf0_8, .int v0_9, .int u3_0, .int u3_1, .int u3_2])), (qf0_0, .inl (cf0_0, 3001, .inl f0_0)), (qf0_1, .inl (cf0_1, 3001, .inl f0_1))]) [0, 1, 2, 3] (by decide) rfl
          have hK9 := hK.sub (tys' := [(cf0_0, .int), (cf0_1, .int)]) [0, 1] rfl
          exact W.vret hx hb hr (fun t ht hW => ⟨⟨(), rfl, trivial, by rw [ht]; exact hP9, va_K.moved hW.alike hK9, hD9⟩, hS.F ht⟩) hS.2.2 dX8_readArguments_58
        · rw [if_neg c_6] at hsp
          refine lv_iload_n hx hb dX8_readArguments_30 rfl (lv_at hl 1 rfl) ?_
          refine lv_if_eq (tgt := 52) hx hb dX8_readArguments_31 (by decide) (fun c_7 => ?_) (fun c_7 => ?_)
          · rw [if_pos c_7] at hsp
            refine lv_aload_n hx hb dX8_readArguments_52 rfl (lv_at hl 2 rfl) ?_
            refine lv_bipush (v := 41) hx hb dX8_readArguments_53 (by decide) ?_
            obtain ⟨⟨u4_0, u4_1, u4_2⟩, hu_4, hsp⟩ := ox_bind hsp
            try dsimp only at hsp
            have hPc := hP.sub (ws' := [(h0, .inr (8, [.ref qf0, .ref qf1])), (qf0, .inr (9, [.ref qf0_0, .ref qf0_1, .ref qf0_2, .int v0_3, .ref qf0_4, .ref qf0_5, .ref qf0_6, .ref qf0_7, .ref qf0_8, .int v0_9, .int x0_10_23, .int x0_11_23, .int x0_12_23])), (qf0_0, .inl (cf0_0, 3001, .inl f0_0)), (qf0_1, .inl (cf0_1, 3001, .inl f0_1))]) [0, 1, 2, 3] rfl
            have hDc := hD.sub (ws' := [(h0, .inr (8, [.ref qf0, .ref qf1])), (qf0, .inr (9, [.ref qf0_0, .ref qf0_1, .ref qf0_2, .int v0_3, .ref qf0_4, .ref qf0_5, .ref qf0_6, .ref qf0_7, .ref qf0_8, .int v0_9, .int x0_10_23, .int x0_11_23, .int x0_12_23])), (qf0_0, .inl (cf0_0, 3001, .inl f0_0)), (qf0_1, .inl (cf0_1, 3001, .inl f0_1))]) [0, 1, 2, 3] (by decide) rfl
            have hKc := hK.sub (tys' := [(cf0_0, .int), (cf0_1, .int)]) [0, 1] rfl
            have hFc := va_free (wc := [(h0, .inr (8, [.ref qf0, .ref qf1])), (qf0, .inr (9, [.ref qf0_0, .ref qf0_1, .ref qf0_2, .int v0_3, .ref qf0_4, .ref qf0_5, .ref qf0_6, .ref qf0_7, .ref qf0_8, .int v0_9, .int x0_10_23, .int x0_11_23, .int x0_12_23])), (qf0_0, .inl (cf0_0, 3001, .inl f0_0)), (qf0_1, .inl (cf0_1, 3001, .inl f0_1))]) hD hS hA [0, 1, 2, 3] rfl
            refine va_callv (va_runV (As := [.int 41]) (rest := []) ⟨hx, hb, hml, hown, hts⟩ (t8_need l dC dI H.size h0 41 qf0 qf1 qf0_0 qf0_1 qf0_2 v0_3 qf0_4 qf0_5 qf0_6 qf0_7 qf0_8 v0_9 x0_10_23 x0_11_23 x0_12_23 cf0_0 f0_0 cf0_1 f0_1 nf u4_0 u4_1 u4_2 hu_4) (cwV 1 hts gv_h8_23 rfl rfl rfl (by decide +kernel) ⟨by dsimp only [headSpec]; omega, by dsimp only [headSpec]; omega⟩) ⟨fun a U g mk q => by obtain ⟨q0, q1, qP, qK, qD⟩ := q; exact ⟨q0, q1, qP, va_K.moved (u := U) (U := U.calling g mk a) (Vm.Alike.refl U.vm) qK, qD⟩, va_recv hKc hPc (ci := 8) (q0 := 0) rfl rfl, fun U hU hW => ⟨rfl, by rw [hU], by rw [hU]; exact hPc, va_K.moved hW.alike hKc, hDc.weaken (fun _ _ _ _ => trivial)⟩⟩ rfl rfl hl.1 rfl (lv_room (Nat.le_of_ble_eq_true rfl)) dX8_readArguments_55 ⟨Nat.le_of_ble_eq_true rfl, Nat.le_of_ble_eq_true rfl⟩) hS (fun q _ h => hFc q h) hFc ?_
            clear hS
            intro u t H1 locs ht hvm hw hB hz1 hk1 hS
            obtain ⟨⟩ := u
            obtain ⟨hP1, hK1, hD1⟩ := hB
            rw [ht] at hP1
            have hK1 := va_K.moved hvm.symm hK1
            try dsimp only at hw
            have hPD := va_join (wr := []) (w1 := [(h0, .inr (8, [.ref qf0, .ref qf1])), (qf0, .inr (9, [.ref qf0_0, .ref qf0_1, .ref qf0_2, .int v0_3, .ref qf0_4, .ref qf0_5, .ref qf0_6, .ref qf0_7, .ref qf0_8, .int v0_9, .int u4_0, .int u4_1, .int u4_2])), (qf0_0, .inl (cf0_0, 3001, .inl f0_0)), (qf0_1, .inl (cf0_1, 3001, .inl f0_1))]) hP hD [0, 1, 2, 3] [] rfl rfl (by decide) (by decide) hk1 hFc hP1 hD1
            clear hP hD
            obtain ⟨hP, hD⟩ := hPD
            replace hK := (hK.sub (tys' := []) [] rfl).app hK1
            clear hPc hDc hKc hFc hP1 hK1 hD1 hz1 hk1 ht hvm
            generalize H1 = H at hP hS ⊢
            replace hP : va_P (dC, dI) vwCl [(h0, .inr (8, [.ref qf0, .ref qf1])), (qf0, .inr (9, [.ref qf0_0, .ref qf0_1, .ref qf0_2, .int v0_3, .ref qf0_4, .ref qf0_5, .ref qf0_6, .ref qf0_7, .ref qf0_8, .int v0_9, .int u4_0, .int u4_1, .int u4_2])), (qf0_0, .inl (cf0_0, 3001, .inl f0_0)), (qf0_1, .inl (cf0_1, 3001, .inl f0_1))] H := hP
            replace hD : va_D A [(h0, .inr (8, [.ref qf0, .ref qf1])), (qf0, .inr (9, [.ref qf0_0, .ref qf0_1, .ref qf0_2, .int v0_3, .ref qf0_4, .ref qf0_5, .ref qf0_6, .ref qf0_7, .ref qf0_8, .int v0_9, .int u4_0, .int u4_1, .int u4_2])), (qf0_0, .inl (cf0_0, 3001, .inl f0_0)), (qf0_1, .inl (cf0_1, 3001, .inl f0_1))] := hD
            replace hK : va_K (dC, dI) vwCl [(cf0_0, .int), (cf0_1, .int)] s := hK
            have hr0 := Option.some.inj hsp
            clear hsp
            obtain ⟨hq0, hr1⟩ := Prod.mk.inj hr0
            clear hr0
            obtain ⟨hq1, hr2⟩ := Prod.mk.inj hr1
            clear hr1
            subst hq0
            subst hq1
            subst hr2
            have hP9 := hP.sub (ws' := [(h0, .inr (8, [.ref qf0, .ref qf1])), (qf0, .inr (9, [.ref qf0_0, .ref qf0_1, .ref qf0_2, .int v0_3, .ref qf0_4, .ref qf0_5, .ref qf0_6, .ref qf0_7, .ref qf0_8, .int v0_9, .int u4_0, .int u4_1, .int u4_2])), (qf0_0, .inl (cf0_0, 3001, .inl f0_0)), (qf0_1, .inl (cf0_1, 3001, .inl f0_1))]) [0, 1, 2, 3] rfl
            have hD9 := hD.sub (ws' := [(h0, .inr (8, [.ref qf0, .ref qf1])), (qf0, .inr (9, [.ref qf0_0, .ref qf0_1, .ref qf0_2, .int v0_3, .ref qf0_4, .ref qf0_5, .ref qf0_6, .ref qf0_7, .ref qf0_8, .int v0_9, .int u4_0, .int u4_1, .int u4_2])), (qf0_0, .inl (cf0_0, 3001, .inl f0_0)), (qf0_1, .inl (cf0_1, 3001, .inl f0_1))]) [0, 1, 2, 3] (by decide) rfl
            have hK9 := hK.sub (tys' := [(cf0_0, .int), (cf0_1, .int)]) [0, 1] rfl
            exact W.vret hx hb hr (fun t ht hW => ⟨⟨(), rfl, trivial, by rw [ht]; exact hP9, va_K.moved hW.alike hK9, hD9⟩, hS.F ht⟩) hS.2.2 dX8_readArguments_58
          · rw [if_neg c_7] at hsp
            refine lv_aload_n hx hb dX8_readArguments_34 rfl (lv_at hl 2 rfl) ?_
            refine lv_iload_n hx hb dX8_readArguments_35 rfl (lv_at hl 3 rfl) ?_
            obtain ⟨⟨u5_0, u5_1, u5_2⟩, hu_5, hsp⟩ := ox_bind hsp
            try dsimp only at hsp
            have hPc := hP.sub (ws' := [(h0, .inr (8, [.ref qf0, .ref qf1])), (qf0, .inr (9, [.ref qf0_0, .ref qf0_1, .ref qf0_2, .int v0_3, .ref qf0_4, .ref qf0_5, .ref qf0_6, .ref qf0_7, .ref qf0_8, .int v0_9, .int x0_10_23, .int x0_11_23, .int x0_12_23])), (qf0_0, .inl (cf0_0, 3001, .inl f0_0)), (qf0_1, .inl (cf0_1, 3001, .inl f0_1))]) [0, 1, 2, 3] rfl
            have hDc := hD.sub (ws' := [(h0, .inr (8, [.ref qf0, .ref qf1])), (qf0, .inr (9, [.ref qf0_0, .ref qf0_1, .ref qf0_2, .int v0_3, .ref qf0_4, .ref qf0_5, .ref qf0_6, .ref qf0_7, .ref qf0_8, .int v0_9, .int x0_10_23, .int x0_11_23, .int x0_12_23])), (qf0_0, .inl (cf0_0, 3001, .inl f0_0)), (qf0_1, .inl (cf0_1, 3001, .inl f0_1))]) [0, 1, 2, 3] (by decide) rfl
            have hKc := hK.sub (tys' := [(cf0_0, .int), (cf0_1, .int)]) [0, 1] rfl
            have hFc := va_free (wc := [(h0, .inr (8, [.ref qf0, .ref qf1])), (qf0, .inr (9, [.ref qf0_0, .ref qf0_1, .ref qf0_2, .int v0_3, .ref qf0_4, .ref qf0_5, .ref qf0_6, .ref qf0_7, .ref qf0_8, .int v0_9, .int x0_10_23, .int x0_11_23, .int x0_12_23])), (qf0_0, .inl (cf0_0, 3001, .inl f0_0)), (qf0_1, .inl (cf0_1, 3001, .inl f0_1))]) hD hS hA [0, 1, 2, 3] rfl
            refine va_callv (va_runV (As := [.int l1_23]) (rest := []) ⟨hx, hb, hml, hown, hts⟩ (ih_0 l dC dI H.size h0 l1_23 qf0 qf1 qf0_0 qf0_1 qf0_2 v0_3 qf0_4 qf0_5 qf0_6 qf0_7 qf0_8 v0_9 x0_10_23 x0_11_23 x0_12_23 cf0_0 f0_0 cf0_1 f0_1 nf u5_0 u5_1 u5_2 hu_5) (cwV 1 hts gv_h8_24 rfl rfl rfl (by decide +kernel) ⟨by dsimp only [headSpec]; omega, by dsimp only [headSpec]; omega⟩) ⟨fun a U g mk q => by obtain ⟨q0, q1, qP, qK, qD⟩ := q; exact ⟨q0, q1, qP, va_K.moved (u := U) (U := U.calling g mk a) (Vm.Alike.refl U.vm) qK, qD⟩, va_recv hKc hPc (ci := 8) (q0 := 0) rfl rfl, fun U hU hW => ⟨rfl, by rw [hU], by rw [hU]; exact hPc, va_K.moved hW.alike hKc, hDc.weaken (fun _ _ _ _ => trivial)⟩⟩ rfl rfl hl.1 rfl (lv_room (Nat.le_of_ble_eq_true rfl)) dX8_readArguments_36 ⟨Nat.le_of_ble_eq_true rfl, Nat.le_of_ble_eq_true rfl⟩) hS (fun q _ h => hFc q h) hFc ?_
            clear hS
            intro u t H1 locs ht hvm hw hB hz1 hk1 hS
            obtain ⟨⟩ := u
            obtain ⟨hP1, hK1, hD1⟩ := hB
            rw [ht] at hP1
            have hK1 := va_K.moved hvm.symm hK1
            try dsimp only at hw
            have hPD := va_join (wr := []) (w1 := [(h0, .inr (8, [.ref qf0, .ref qf1])), (qf0, .inr (9, [.ref qf0_0, .ref qf0_1, .ref qf0_2, .int v0_3, .ref qf0_4, .ref qf0_5, .ref qf0_6, .ref qf0_7, .ref qf0_8, .int v0_9, .int u5_0, .int u5_1, .int u5_2])), (qf0_0, .inl (cf0_0, 3001, .inl f0_0)), (qf0_1, .inl (cf0_1, 3001, .inl f0_1))]) hP hD [0, 1, 2, 3] [] rfl rfl (by decide) (by decide) hk1 hFc hP1 hD1
            clear hP hD
            obtain ⟨hP, hD⟩ := hPD
            replace hK := (hK.sub (tys' := []) [] rfl).app hK1
            clear hPc hDc hKc hFc hP1 hK1 hD1 hz1 hk1 ht hvm
            generalize H1 = H at hP hS ⊢
            replace hP : va_P (dC, dI) vwCl [(h0, .inr (8, [.ref qf0, .ref qf1])), (qf0, .inr (9, [.ref qf0_0, .ref qf0_1, .ref qf0_2, .int v0_3, .ref qf0_4, .ref qf0_5, .ref qf0_6, .ref qf0_7, .ref qf0_8, .int v0_9, .int u5_0, .int u5_1, .int u5_2])), (qf0_0, .inl (cf0_0, 3001, .inl f0_0)), (qf0_1, .inl (cf0_1, 3001, .inl f0_1))] H := hP
            replace hD : va_D A [(h0, .inr (8, [.ref qf0, .ref qf1])), (qf0, .inr (9, [.ref qf0_0, .ref qf0_1, .ref qf0_2, .int v0_3, .ref qf0_4, .ref qf0_5, .ref qf0_6, .ref qf0_7, .ref qf0_8, .int v0_9, .int u5_0, .int u5_1, .int u5_2])), (qf0_0, .inl (cf0_0, 3001, .inl f0_0)), (qf0_1, .inl (cf0_1, 3001, .inl f0_1))] := hD
            replace hK : va_K (dC, dI) vwCl [(cf0_0, .int), (cf0_1, .int)] s := hK
            refine lv_aload_n hx hb dX8_readArguments_39 rfl (lv_at hl 2 rfl) ?_
            refine lv_bipush (v := 47) hx hb dX8_readArguments_40 (by decide) ?_
            obtain ⟨⟨u6_0, u6_1⟩, hu_6, hsp⟩ := ox_bind hsp
            try dsimp only at hsp
            have hPc := hP.sub (ws' := [(h0, .inr (8, [.ref qf0, .ref qf1])), (qf0, .inr (9, [.ref qf0_0, .ref qf0_1, .ref qf0_2, .int v0_3, .ref qf0_4, .ref qf0_5, .ref qf0_6, .ref qf0_7, .ref qf0_8, .int v0_9, .int u5_0, .int u5_1, .int u5_2])), (qf0_0, .inl (cf0_0, 3001, .inl f0_0))]) [0, 1, 2] rfl
            have hDc := hD.sub (ws' := [(h0, .inr (8, [.ref qf0, .ref qf1])), (qf0, .inr (9, [.ref qf0_0, .ref qf0_1, .ref qf0_2, .int v0_3, .ref qf0_4, .ref qf0_5, .ref qf0_6, .ref qf0_7, .ref qf0_8, .int v0_9, .int u5_0, .int u5_1, .int u5_2])), (qf0_0, .inl (cf0_0, 3001, .inl f0_0))]) [0, 1, 2] (by decide) rfl
            have hKc := hK.sub (tys' := [(cf0_0, .int)]) [0] rfl
            have hFc := va_free (wc := [(h0, .inr (8, [.ref qf0, .ref qf1])), (qf0, .inr (9, [.ref qf0_0, .ref qf0_1, .ref qf0_2, .int v0_3, .ref qf0_4, .ref qf0_5, .ref qf0_6, .ref qf0_7, .ref qf0_8, .int v0_9, .int u5_0, .int u5_1, .int u5_2])), (qf0_0, .inl (cf0_0, 3001, .inl f0_0))]) hD hS hA [0, 1, 2] rfl
            refine va_calli (va_runV (As := [.int 47]) (rest := []) ⟨hx, hb, hml, hown, hts⟩ (t8_accept l dC dI H.size h0 47 qf0 qf1 qf0_0 qf0_1 qf0_2 v0_3 qf0_4 qf0_5 qf0_6 qf0_7 qf0_8 v0_9 u5_0 u5_1 u5_2 cf0_0 f0_0 nf u6_0 u6_1 hu_6) (cwV 1 hts gv_h8_22 rfl rfl rfl (by decide +kernel) ⟨by dsimp only [headSpec]; omega, by dsimp only [headSpec]; omega⟩) ⟨fun a U g mk q => by obtain ⟨q0, q1, qP, qK, qD⟩ := q; exact ⟨q0, q1, qP, va_K.moved (u := U) (U := U.calling g mk a) (Vm.Alike.refl U.vm) qK, qD⟩, va_recv hKc hPc (ci := 8) (q0 := 0) rfl rfl, fun U hU hW => ⟨rfl, by rw [hU], by rw [hU]; exact hPc, va_K.moved hW.alike hKc, hDc.weaken (fun _ _ _ _ => trivial)⟩⟩ rfl rfl hl.1 rfl (lv_room (Nat.le_of_ble_eq_true rfl)) dX8_readArguments_42 ⟨Nat.le_of_ble_eq_true rfl, Nat.le_of_ble_eq_true rfl⟩) hS (fun q _ h => hFc q h) hFc ?_
            clear hS
            intro r_8 u t H1 locs ht hvm hw hB hz1 hk1 hS
            obtain ⟨⟩ := u
            obtain ⟨hP1, hK1, hD1⟩ := hB
            rw [ht] at hP1
            have hK1 := va_K.moved hvm.symm hK1
            try dsimp only at hw
            have hPD := va_join (wr := [(qf0_1, .inl (cf0_1, 3001, .inl f0_1))]) (w1 := [(h0, .inr (8, [.ref qf0, .ref qf1])), (qf0, .inr (9, [.ref qf0_0, .ref qf0_1, .ref qf0_2, .int v0_3, .ref qf0_4, .ref qf0_5, .ref qf0_6, .ref qf0_7, .ref qf0_8, .int v0_9, .int u6_1, .int u5_1, .int u5_2])), (qf0_0, .inl (cf0_0, 3001, .inl f0_0))]) hP hD [0, 1, 2] [3] rfl rfl (by decide) (by decide) hk1 hFc hP1 hD1
            clear hP hD
            obtain ⟨hP, hD⟩ := hPD
            replace hK := (hK.sub (tys' := [(cf0_1, .int)]) [1] rfl).app hK1
            clear hPc hDc hKc hFc hP1 hK1 hD1 hz1 hk1 ht hvm
            generalize H1 = H at hP hS ⊢
            replace hP : va_P (dC, dI) vwCl [(qf0_1, .inl (cf0_1, 3001, .inl f0_1)), (h0, .inr (8, [.ref qf0, .ref qf1])), (qf0, .inr (9, [.ref qf0_0, .ref qf0_1, .ref qf0_2, .int v0_3, .ref qf0_4, .ref qf0_5, .ref qf0_6, .ref qf0_7, .ref qf0_8, .int v0_9, .int u6_1, .int u5_1, .int u5_2])), (qf0_0, .inl (cf0_0, 3001, .inl f0_0))] H := hP
            replace hD : va_D A [(qf0_1, .inl (cf0_1, 3001, .inl f0_1)), (h0, .inr (8, [.ref qf0, .ref qf1])), (qf0, .inr (9, [.ref qf0_0, .ref qf0_1, .ref qf0_2, .int v0_3, .ref qf0_4, .ref qf0_5, .ref qf0_6, .ref qf0_7, .ref qf0_8, .int v0_9, .int u6_1, .int u5_1, .int u5_2])), (qf0_0, .inl (cf0_0, 3001, .inl f0_0))] := hD
            replace hK : va_K (dC, dI) vwCl [(cf0_1, .int), (cf0_0, .int)] s := hK
            obtain ⟨rfl, hz_6⟩ := hw
            rcases hz_6 with rfl | rfl
            · rw [if_pos rfl] at hsp
              refine lv_istore_n (lv' := [(2, .int 0), (3, .int l3_23), (0, .ref h0), (1, .int l1_23)]) hx hb dX8_readArguments_45 rfl hl (by decide) rfl (fun ls hl => ?_)
              refine lv_iinc (v := (l3_23 + 1)) (lv' := [(3, .int (l3_23 + 1)), (2, .int 0), (0, .ref h0), (1, .int l1_23)]) hx hb dX8_readArguments_46 hl (k := 1) rfl rfl (by decide) rfl (fun ls hl => ?_)
              refine lv_goto (tgt := 23) hx hb dX8_readArguments_49 (by decide) ?_
              exact ih_23 H locs ls l1_23 0 (l3_23 + 1) u6_1 u5_1 u5_2 (lv_sub hl [0, 1, 2, 3] rfl) hS (hD.sub (ws' := [(h0, .inr (8, [.ref qf0, .ref qf1])), (qf0, .inr (9, [.ref qf0_0, .ref qf0_1, .ref qf0_2, .int v0_3, .ref qf0_4, .ref qf0_5, .ref qf0_6, .ref qf0_7, .ref qf0_8, .int v0_9, .int u6_1, .int u5_1, .int u5_2])), (qf0_0, .inl (cf0_0, 3001, .inl f0_0)), (qf0_1, .inl (cf0_1, 3001, .inl f0_1))]) [1, 2, 3, 0] (by decide) rfl) (hP.sub (ws' := [(h0, .inr (8, [.ref qf0, .ref qf1])), (qf0, .inr (9, [.ref qf0_0, .ref qf0_1, .ref qf0_2, .int v0_3, .ref qf0_4, .ref qf0_5, .ref qf0_6, .ref qf0_7, .ref qf0_8, .int v0_9, .int u6_1, .int u5_1, .int u5_2])), (qf0_0, .inl (cf0_0, 3001, .inl f0_0)), (qf0_1, .inl (cf0_1, 3001, .inl f0_1))]) [1, 2, 3, 0] rfl) hsp
            · rw [if_neg (by decide)] at hsp
              refine lv_istore_n (lv' := [(2, .int 1), (3, .int l3_23), (0, .ref h0), (1, .int l1_23)]) hx hb dX8_readArguments_45 rfl hl (by decide) rfl (fun ls hl => ?_)
              refine lv_iinc (v := (l3_23 + 1)) (lv' := [(3, .int (l3_23 + 1)), (2, .int 1), (0, .ref h0), (1, .int l1_23)]) hx hb dX8_readArguments_46 hl (k := 1) rfl rfl (by decide) rfl (fun ls hl => ?_)
              refine lv_goto (tgt := 23) hx hb dX8_readArguments_49 (by decide) ?_
              exact ih_23 H locs ls l1_23 1 (l3_23 + 1) u6_1 u5_1 u5_2 (lv_sub hl [0, 1, 2, 3] rfl) hS (hD.sub (ws' := [(h0, .inr (8, [.ref qf0, .ref qf1])), (qf0, .inr (9, [.ref qf0_0, .ref qf0_1, .ref qf0_2, .int v0_3, .ref qf0_4, .ref qf0_5, .ref qf0_6, .ref qf0_7, .ref qf0_8, .int v0_9, .int u6_1, .int u5_1, .int u5_2])), (qf0_0, .inl (cf0_0, 3001, .inl f0_0)), (qf0_1, .inl (cf0_1, 3001, .inl f0_1))]) [1, 2, 3, 0] (by decide) rfl) (hP.sub (ws' := [(h0, .inr (8, [.ref qf0, .ref qf1])), (qf0, .inr (9, [.ref qf0_0, .ref qf0_1, .ref qf0_2, .int v0_3, .ref qf0_4, .ref qf0_5, .ref qf0_6, .ref qf0_7, .ref qf0_8, .int v0_9, .int u6_1, .int u5_1, .int u5_2])), (qf0_0, .inl (cf0_0, 3001, .inl f0_0)), (qf0_1, .inl (cf0_1, 3001, .inl f0_1))]) [1, 2, 3, 0] rfl) hsp
    · rw [if_neg (by decide)] at hsp
      refine lv_if_eq (tgt := 19) hx hb dX8_readArguments_15 (by decide) (fun c_9 => (show False by revert c_9; decide).elim) (fun c_9 => ?_)
      have hr0 := Option.some.inj hsp
      clear hsp
      obtain ⟨hq0, hr1⟩ := Prod.mk.inj hr0
      clear hr0
      obtain ⟨hq1, hr2⟩ := Prod.mk.inj hr1
      clear hr1
      subst hq0
      subst hq1
      subst hr2
      have hP9 := hP.sub (ws' := [(h0, .inr (8, [.ref qf0, .ref qf1])), (qf0, .inr (9, [.ref qf0_0, .ref qf0_1, .ref qf0_2, .int v0_3, .ref qf0_4, .ref qf0_5, .ref qf0_6, .ref qf0_7, .ref qf0_8, .int v0_9, .int u2_1, .int v0_11, .int v0_12])), (qf0_0, .inl (cf0_0, 3001, .inl f0_0)), (qf0_1, .inl (cf0_1, 3001, .inl f0_1))]) [1, 2, 3, 0] rfl
      have hD9 := hD.sub (ws' := [(h0, .inr (8, [.ref qf0, .ref qf1])), (qf0, .inr (9, [.ref qf0_0, .ref qf0_1, .ref qf0_2, .int v0_3, .ref qf0_4, .ref qf0_5, .ref qf0_6, .ref qf0_7, .ref qf0_8, .int v0_9, .int u2_1, .int v0_11, .int v0_12])), (qf0_0, .inl (cf0_0, 3001, .inl f0_0)), (qf0_1, .inl (cf0_1, 3001, .inl f0_1))]) [1, 2, 3, 0] (by decide) rfl
      have hK9 := hK.sub (tys' := [(cf0_0, .int), (cf0_1, .int)]) [1, 0] rfl
      exact W.vret hx hb hr (fun t ht hW => ⟨⟨(), rfl, trivial, by rw [ht]; exact hP9, va_K.moved hW.alike hK9, hD9⟩, hS.F ht⟩) hS.2.2 dX8_readArguments_18
set_option maxHeartbeats 4000000 in
set_option maxRecDepth 100000 in
theorem gr_synv_ok (nf : Nat) : ∀ d : Nat, CT_v8_readValue d (gr_synv nf d).1 ∧ CT_v8_readUnary d (gr_synv nf d).2.1 ∧ CT_v8_readPrimary d (gr_synv nf d).2.2.1 ∧ CT_v8_readBehind d (gr_synv nf d).2.2.2.1 ∧ CT_v8_readNew d (gr_synv nf d).2.2.2.2.1 ∧ CT_v8_readArguments d (gr_synv nf d).2.2.2.2.2 := by
  intro d
  induction d with
  | zero => exact ⟨(fun _ _ _ _ _ _ _ _ _ _ _ _ _ _ _ _ _ _ _ _ _ _ _ _ _ _ _ _ _ hq => nomatch (show (none : Option (Int32 × Int32 × Int32)) = some _ from hq)), (fun _ _ _ _ _ _ _ _ _ _ _ _ _ _ _ _ _ _ _ _ _ _ _ _ _ _ _ _ _ hq => nomatch (show (none : Option (Int32 × Int32 × Int32)) = some _ from hq)), (fun _ _ _ _ _ _ _ _ _ _ _ _ _ _ _ _ _ _ _ _ _ _ _ _ _ _ _ _ _ hq => nomatch (show (none : Option (Int32 × Int32 × Int32)) = some _ from hq)), (fun _ _ _ _ _ _ _ _ _ _ _ _ _ _ _ _ _ _ _ _ _ _ _ _ _ _ _ _ _ hq => nomatch (show (none : Option (Int32 × Int32 × Int32)) = some _ from hq)), (fun _ _ _ _ _ _ _ _ _ _ _ _ _ _ _ _ _ _ _ _ _ _ _ _ _ _ _ _ _ hq => nomatch (show (none : Option (Int32 × Int32 × Int32)) = some _ from hq)), (fun _ _ _ _ _ _ _ _ _ _ _ _ _ _ _ _ _ _ _ _ _ _ _ _ _ _ _ _ _ hq => nomatch (show (none : Option (Int32 × Int32 × Int32)) = some _ from hq))⟩
  | succ d ih =>
    obtain ⟨i0, i1, i2, i3, i4, i5⟩ := ih
    exact ⟨op_v8_readValue_ok nf d (gr_synv nf d) i0 i1 i2 i3 i4 i5, op_v8_readUnary_ok nf d (gr_synv nf d) i0 i1 i2 i3 i4 i5, op_v8_readPrimary_ok nf d (gr_synv nf d) i0 i1 i2 i3 i4 i5, op_v8_readBehind_ok nf d (gr_synv nf d) i0 i1 i2 i3 i4 i5, op_v8_readNew_ok nf d (gr_synv nf d) i0 i1 i2 i3 i4 i5, op_v8_readArguments_ok nf d (gr_synv nf d) i0 i1 i2 i3 i4 i5⟩
def sp_v8_readValue (nf : Nat) (a1 : Int32) (v0_3 : Int32) (v0_10 : Int32) (v0_11 : Int32) (v0_12 : Int32) (f0_0 : Nat → Int32) (f0_1 : Nat → Int32) : Option (Int32 × Int32 × Int32) := (gr_synv nf 300).1 a1 v0_3 v0_10 v0_11 v0_12 f0_0 f0_1
set_option maxHeartbeats 4000000 in
set_option maxRecDepth 100000 in
theorem v8_readValue (l : Launch) (dC : Nat → ClassId) (dI : Nat → Nat → Nat) (sz : Nat) (h0 : Nat) (a1 : Int32) (qf0 : Nat) (qf1 : Nat) (qf0_0 : Nat) (qf0_1 : Nat) (qf0_2 : Nat) (v0_3 : Int32) (qf0_4 : Nat) (qf0_5 : Nat) (qf0_6 : Nat) (qf0_7 : Nat) (qf0_8 : Nat) (v0_9 : Int32) (v0_10 : Int32) (v0_11 : Int32) (v0_12 : Int32) (cf0_0 : ClassId) (f0_0 : (Nat → Int32)) (cf0_1 : ClassId) (f0_1 : (Nat → Int32)) (nf : Nat) (w0_10 : Int32) (w0_11 : Int32) (w0_12 : Int32) (hsp : sp_v8_readValue nf a1 v0_3 v0_10 v0_11 v0_12 f0_0 f0_1 = some (w0_10, w0_11, w0_12)) : Met l yX8_readValue (.code yX8_readValue cX8_readValue 4 none :: VS_h8) ({ frames := 303, cells := 0, slots := 0, locals := 6960 }) (va_Pc [.ref h0, .int a1] (fun U => U.heap.size = sz ∧ va_P (dC, dI) vwCl [(h0, .inr (8, [.ref qf0, .ref qf1])), (qf0, .inr (9, [.ref qf0_0, .ref qf0_1, .ref qf0_2, .int v0_3, .ref qf0_4, .ref qf0_5, .ref qf0_6, .ref qf0_7, .ref qf0_8, .int v0_9, .int v0_10, .int v0_11, .int v0_12])), (qf0_0, .inl (cf0_0, 3001, .inl f0_0)), (qf0_1, .inl (cf0_1, 3001, .inl f0_1))] U.heap ∧ va_K (dC, dI) vwCl [(cf0_0, .int), (cf0_1, .int)] U ∧ va_D (fun _ => True) [(h0, .inr (8, [.ref qf0, .ref qf1])), (qf0, .inr (9, [.ref qf0_0, .ref qf0_1, .ref qf0_2, .int v0_3, .ref qf0_4, .ref qf0_5, .ref qf0_6, .ref qf0_7, .ref qf0_8, .int v0_9, .int v0_10, .int v0_11, .int v0_12])), (qf0_0, .inl (cf0_0, 3001, .inl f0_0)), (qf0_1, .inl (cf0_1, 3001, .inl f0_1))])) (va_Qv (fun (u : Unit) => match u with | () => True) (fun (u : Unit) (t : State) => match u with | () => va_P (dC, dI) vwCl [(h0, .inr (8, [.ref qf0, .ref qf1])), (qf0, .inr (9, [.ref qf0_0, .ref qf0_1, .ref qf0_2, .int v0_3, .ref qf0_4, .ref qf0_5, .ref qf0_6, .ref qf0_7, .ref qf0_8, .int v0_9, .int w0_10, .int w0_11, .int w0_12])), (qf0_0, .inl (cf0_0, 3001, .inl f0_0)), (qf0_1, .inl (cf0_1, 3001, .inl f0_1))] t.heap ∧ va_K (dC, dI) vwCl [(cf0_0, .int), (cf0_1, .int)] t ∧ va_D (va_A [(h0, .inr (8, [.ref qf0, .ref qf1])), (qf0, .inr (9, [.ref qf0_0, .ref qf0_1, .ref qf0_2, .int v0_3, .ref qf0_4, .ref qf0_5, .ref qf0_6, .ref qf0_7, .ref qf0_8, .int v0_9, .int v0_10, .int v0_11, .int v0_12])), (qf0_0, .inl (cf0_0, 3001, .inl f0_0)), (qf0_1, .inl (cf0_1, 3001, .inl f0_1))] sz) [(h0, .inr (8, [.ref qf0, .ref qf1])), (qf0, .inr (9, [.ref qf0_0, .ref qf0_1, .ref qf0_2, .int v0_3, .ref qf0_4, .ref qf0_5, .ref qf0_6, .ref qf0_7, .ref qf0_8, .int v0_9, .int w0_10, .int w0_11, .int w0_12])), (qf0_0, .inl (cf0_0, 3001, .inl f0_0)), (qf0_1, .inl (cf0_1, 3001, .inl f0_1))]) (va_A [(h0, .inr (8, [.ref qf0, .ref qf1])), (qf0, .inr (9, [.ref qf0_0, .ref qf0_1, .ref qf0_2, .int v0_3, .ref qf0_4, .ref qf0_5, .ref qf0_6, .ref qf0_7, .ref qf0_8, .int v0_9, .int v0_10, .int v0_11, .int v0_12])), (qf0_0, .inl (cf0_0, 3001, .inl f0_0)), (qf0_1, .inl (cf0_1, 3001, .inl f0_1))] sz)) 0 0 (va_A [(h0, .inr (8, [.ref qf0, .ref qf1])), (qf0, .inr (9, [.ref qf0_0, .ref qf0_1, .ref qf0_2, .int v0_3, .ref qf0_4, .ref qf0_5, .ref qf0_6, .ref qf0_7, .ref qf0_8, .int v0_9, .int v0_10, .int v0_11, .int v0_12])), (qf0_0, .inl (cf0_0, 3001, .inl f0_0)), (qf0_1, .inl (cf0_1, 3001, .inl f0_1))] sz) := by
  unfold sp_v8_readValue at hsp
  exact (gr_synv_ok nf 300).1 l dC dI sz h0 a1 qf0 qf1 qf0_0 qf0_1 qf0_2 v0_3 qf0_4 qf0_5 qf0_6 qf0_7 qf0_8 v0_9 v0_10 v0_11 v0_12 cf0_0 f0_0 cf0_1 f0_1 nf w0_10 w0_11 w0_12  hsp
def sp_v8_readUnary (nf : Nat) (a1 : Int32) (v0_3 : Int32) (v0_10 : Int32) (v0_11 : Int32) (v0_12 : Int32) (f0_0 : Nat → Int32) (f0_1 : Nat → Int32) : Option (Int32 × Int32 × Int32) := (gr_synv nf 300).2.1 a1 v0_3 v0_10 v0_11 v0_12 f0_0 f0_1
set_option maxHeartbeats 4000000 in
set_option maxRecDepth 100000 in
theorem v8_readUnary (l : Launch) (dC : Nat → ClassId) (dI : Nat → Nat → Nat) (sz : Nat) (h0 : Nat) (a1 : Int32) (qf0 : Nat) (qf1 : Nat) (qf0_0 : Nat) (qf0_1 : Nat) (qf0_2 : Nat) (v0_3 : Int32) (qf0_4 : Nat) (qf0_5 : Nat) (qf0_6 : Nat) (qf0_7 : Nat) (qf0_8 : Nat) (v0_9 : Int32) (v0_10 : Int32) (v0_11 : Int32) (v0_12 : Int32) (cf0_0 : ClassId) (f0_0 : (Nat → Int32)) (cf0_1 : ClassId) (f0_1 : (Nat → Int32)) (nf : Nat) (w0_10 : Int32) (w0_11 : Int32) (w0_12 : Int32) (hsp : sp_v8_readUnary nf a1 v0_3 v0_10 v0_11 v0_12 f0_0 f0_1 = some (w0_10, w0_11, w0_12)) : Met l yX8_readUnary (.code yX8_readUnary cX8_readUnary 4 none :: VS_h8) ({ frames := 303, cells := 0, slots := 0, locals := 6960 }) (va_Pc [.ref h0, .int a1] (fun U => U.heap.size = sz ∧ va_P (dC, dI) vwCl [(h0, .inr (8, [.ref qf0, .ref qf1])), (qf0, .inr (9, [.ref qf0_0, .ref qf0_1, .ref qf0_2, .int v0_3, .ref qf0_4, .ref qf0_5, .ref qf0_6, .ref qf0_7, .ref qf0_8, .int v0_9, .int v0_10, .int v0_11, .int v0_12])), (qf0_0, .inl (cf0_0, 3001, .inl f0_0)), (qf0_1, .inl (cf0_1, 3001, .inl f0_1))] U.heap ∧ va_K (dC, dI) vwCl [(cf0_0, .int), (cf0_1, .int)] U ∧ va_D (fun _ => True) [(h0, .inr (8, [.ref qf0, .ref qf1])), (qf0, .inr (9, [.ref qf0_0, .ref qf0_1, .ref qf0_2, .int v0_3, .ref qf0_4, .ref qf0_5, .ref qf0_6, .ref qf0_7, .ref qf0_8, .int v0_9, .int v0_10, .int v0_11, .int v0_12])), (qf0_0, .inl (cf0_0, 3001, .inl f0_0)), (qf0_1, .inl (cf0_1, 3001, .inl f0_1))])) (va_Qv (fun (u : Unit) => match u with | () => True) (fun (u : Unit) (t : State) => match u with | () => va_P (dC, dI) vwCl [(h0, .inr (8, [.ref qf0, .ref qf1])), (qf0, .inr (9, [.ref qf0_0, .ref qf0_1, .ref qf0_2, .int v0_3, .ref qf0_4, .ref qf0_5, .ref qf0_6, .ref qf0_7, .ref qf0_8, .int v0_9, .int w0_10, .int w0_11, .int w0_12])), (qf0_0, .inl (cf0_0, 3001, .inl f0_0)), (qf0_1, .inl (cf0_1, 3001, .inl f0_1))] t.heap ∧ va_K (dC, dI) vwCl [(cf0_0, .int), (cf0_1, .int)] t ∧ va_D (va_A [(h0, .inr (8, [.ref qf0, .ref qf1])), (qf0, .inr (9, [.ref qf0_0, .ref qf0_1, .ref qf0_2, .int v0_3, .ref qf0_4, .ref qf0_5, .ref qf0_6, .ref qf0_7, .ref qf0_8, .int v0_9, .int v0_10, .int v0_11, .int v0_12])), (qf0_0, .inl (cf0_0, 3001, .inl f0_0)), (qf0_1, .inl (cf0_1, 3001, .inl f0_1))] sz) [(h0, .inr (8, [.ref qf0, .ref qf1])), (qf0, .inr (9, [.ref qf0_0, .ref qf0_1, .ref qf0_2, .int v0_3, .ref qf0_4, .ref qf0_5, .ref qf0_6, .ref qf0_7, .ref qf0_8, .int v0_9, .int w0_10, .int w0_11, .int w0_12])), (qf0_0, .inl (cf0_0, 3001, .inl f0_0)), (qf0_1, .inl (cf0_1, 3001, .inl f0_1))]) (va_A [(h0, .inr (8, [.ref qf0, .ref qf1])), (qf0, .inr (9, [.ref qf0_0, .ref qf0_1, .ref qf0_2, .int v0_3, .ref qf0_4, .ref qf0_5, .ref qf0_6, .ref qf0_7, .ref qf0_8, .int v0_9, .int v0_10, .int v0_11, .int v0_12])), (qf0_0, .inl (cf0_0, 3001, .inl f0_0)), (qf0_1, .inl (cf0_1, 3001, .inl f0_1))] sz)) 0 0 (va_A [(h0, .inr (8, [.ref qf0, .ref qf1])), (qf0, .inr (9, [.ref qf0_0, .ref qf0_1, .ref qf0_2, .int v0_3, .ref qf0_4, .ref qf0_5, .ref qf0_6, .ref qf0_7, .ref qf0_8, .int v0_9, .int v0_10, .int v0_11, .int v0_12])), (qf0_0, .inl (cf0_0, 3001, .inl f0_0)), (qf0_1, .inl (cf0_1, 3001, .inl f0_1))] sz) := by
  unfold sp_v8_readUnary at hsp
  exact (gr_synv_ok nf 300).2.1 l dC dI sz h0 a1 qf0 qf1 qf0_0 qf0_1 qf0_2 v0_3 qf0_4 qf0_5 qf0_6 qf0_7 qf0_8 v0_9 v0_10 v0_11 v0_12 cf0_0 f0_0 cf0_1 f0_1 nf w0_10 w0_11 w0_12  hsp
def sp_v8_readPrimary (nf : Nat) (a1 : Int32) (v0_3 : Int32) (v0_10 : Int32) (v0_11 : Int32) (v0_12 : Int32) (f0_0 : Nat → Int32) (f0_1 : Nat → Int32) : Option (Int32 × Int32 × Int32) := (gr_synv nf 300).2.2.1 a1 v0_3 v0_10 v0_11 v0_12 f0_0 f0_1
set_option maxHeartbeats 4000000 in
set_option maxRecDepth 100000 in
theorem v8_readPrimary (l : Launch) (dC : Nat → ClassId) (dI : Nat → Nat → Nat) (sz : Nat) (h0 : Nat) (a1 : Int32) (qf0 : Nat) (qf1 : Nat) (qf0_0 : Nat) (qf0_1 : Nat) (qf0_2 : Nat) (v0_3 : Int32) (qf0_4 : Nat) (qf0_5 : Nat) (qf0_6 : Nat) (qf0_7 : Nat) (qf0_8 : Nat) (v0_9 : Int32) (v0_10 : Int32) (v0_11 : Int32) (v0_12 : Int32) (cf0_0 : ClassId) (f0_0 : (Nat → Int32)) (cf0_1 : ClassId) (f0_1 : (Nat → Int32)) (nf : Nat) (w0_10 : Int32) (w0_11 : Int32) (w0_12 : Int32) (hsp : sp_v8_readPrimary nf a1 v0_3 v0_10 v0_11 v0_12 f0_0 f0_1 = some (w0_10, w0_11, w0_12)) : Met l yX8_readPrimary (.code yX8_readPrimary cX8_readPrimary 2 none :: VS_h8) ({ frames := 303, cells := 0, slots := 0, locals := 6960 }) (va_Pc [.ref h0, .int a1] (fun U => U.heap.size = sz ∧ va_P (dC, dI) vwCl [(h0, .inr (8, [.ref qf0, .ref qf1])), (qf0, .inr (9, [.ref qf0_0, .ref qf0_1, .ref qf0_2, .int v0_3, .ref qf0_4, .ref qf0_5, .ref qf0_6, .ref qf0_7, .ref qf0_8, .int v0_9, .int v0_10, .int v0_11, .int v0_12])), (qf0_0, .inl (cf0_0, 3001, .inl f0_0)), (qf0_1, .inl (cf0_1, 3001, .inl f0_1))] U.heap ∧ va_K (dC, dI) vwCl [(cf0_0, .int), (cf0_1, .int)] U ∧ va_D (fun _ => True) [(h0, .inr (8, [.ref qf0, .ref qf1])), (qf0, .inr (9, [.ref qf0_0, .ref qf0_1, .ref qf0_2, .int v0_3, .ref qf0_4, .ref qf0_5, .ref qf0_6, .ref qf0_7, .ref qf0_8, .int v0_9, .int v0_10, .int v0_11, .int v0_12])), (qf0_0, .inl (cf0_0, 3001, .inl f0_0)), (qf0_1, .inl (cf0_1, 3001, .inl f0_1))])) (va_Qv (fun (u : Unit) => match u with | () => True) (fun (u : Unit) (t : State) => match u with | () => va_P (dC, dI) vwCl [(h0, .inr (8, [.ref qf0, .ref qf1])), (qf0, .inr (9, [.ref qf0_0, .ref qf0_1, .ref qf0_2, .int v0_3, .ref qf0_4, .ref qf0_5, .ref qf0_6, .ref qf0_7, .ref qf0_8, .int v0_9, .int w0_10, .int w0_11, .int w0_12])), (qf0_0, .inl (cf0_0, 3001, .inl f0_0)), (qf0_1, .inl (cf0_1, 3001, .inl f0_1))] t.heap ∧ va_K (dC, dI) vwCl [(cf0_0, .int), (cf0_1, .int)] t ∧ va_D (va_A [(h0, .inr (8, [.ref qf0, .ref qf1])), (qf0, .inr (9, [.ref qf0_0, .ref qf0_1, .ref qf0_2, .int v0_3, .ref qf0_4, .ref qf0_5, .ref qf0_6, .ref qf0_7, .ref qf0_8, .int v0_9, .int v0_10, .int v0_11, .int v0_12])), (qf0_0, .inl (cf0_0, 3001, .inl f0_0)), (qf0_1, .inl (cf0_1, 3001, .inl f0_1))] sz) [(h0, .inr (8, [.ref qf0, .ref qf1])), (qf0, .inr (9, [.ref qf0_0, .ref qf0_1, .ref qf0_2, .int v0_3, .ref qf0_4, .ref qf0_5, .ref qf0_6, .ref qf0_7, .ref qf0_8, .int v0_9, .int w0_10, .int w0_11, .int w0_12])), (qf0_0, .inl (cf0_0, 3001, .inl f0_0)), (qf0_1, .inl (cf0_1, 3001, .inl f0_1))]) (va_A [(h0, .inr (8, [.ref qf0, .ref qf1])), (qf0, .inr (9, [.ref qf0_0, .ref qf0_1, .ref qf0_2, .int v0_3, .ref qf0_4, .ref qf0_5, .ref qf0_6, .ref qf0_7, .ref qf0_8, .int v0_9, .int v0_10, .int v0_11, .int v0_12])), (qf0_0, .inl (cf0_0, 3001, .inl f0_0)), (qf0_1, .inl (cf0_1, 3001, .inl f0_1))] sz)) 0 0 (va_A [(h0, .inr (8, [.ref qf0, .ref qf1])), (qf0, .inr (9, [.ref qf0_0, .ref qf0_1, .ref qf0_2, .int v0_3, .ref qf0_4, .ref qf0_5, .ref qf0_6, .ref qf0_7, .ref qf0_8, .int v0_9, .int v0_10, .int v0_11, .int v0_12])), (qf0_0, .inl (cf0_0, 3001, .inl f0_0)), (qf0_1, .inl (cf0_1, 3001, .inl f0_1))] sz) := by
  unfold sp_v8_readPrimary at hsp
  exact (gr_synv_ok nf 300).2.2.1 l dC dI sz h0 a1 qf0 qf1 qf0_0 qf0_1 qf0_2 v0_3 qf0_4 qf0_5 qf0_6 qf0_7 qf0_8 v0_9 v0_10 v0_11 v0_12 cf0_0 f0_0 cf0_1 f0_1 nf w0_10 w0_11 w0_12  hsp
def sp_v8_readBehind (nf : Nat) (a1 : Int32) (v0_3 : Int32) (v0_10 : Int32) (v0_11 : Int32) (v0_12 : Int32) (f0_0 : Nat → Int32) (f0_1 : Nat → Int32) : Option (Int32 × Int32 × Int32) := (gr_synv nf 300).2.2.2.1 a1 v0_3 v0_10 v0_11 v0_12 f0_0 f0_1
set_option maxHeartbeats 4000000 in
set_option maxRecDepth 100000 in
theorem v8_readBehind (l : Launch) (dC : Nat → ClassId) (dI : Nat → Nat → Nat) (sz : Nat) (h0 : Nat) (a1 : Int32) (qf0 : Nat) (qf1 : Nat) (qf0_0 : Nat) (qf0_1 : Nat) (qf0_2 : Nat) (v0_3 : Int32) (qf0_4 : Nat) (qf0_5 : Nat) (qf0_6 : Nat) (qf0_7 : Nat) (qf0_8 : Nat) (v0_9 : Int32) (v0_10 : Int32) (v0_11 : Int32) (v0_12 : Int32) (cf0_0 : ClassId) (f0_0 : (Nat → Int32)) (cf0_1 : ClassId) (f0_1 : (Nat → Int32)) (nf : Nat) (w0_10 : Int32) (w0_11 : Int32) (w0_12 : Int32) (hsp : sp_v8_readBehind nf a1 v0_3 v0_10 v0_11 v0_12 f0_0 f0_1 = some (w0_10, w0_11, w0_12)) : Met l yX8_readBehind (.code yX8_readBehind cX8_readBehind 4 none :: VS_h8) ({ frames := 303, cells := 0, slots := 0, locals := 6960 }) (va_Pc [.ref h0, .int a1] (fun U => U.heap.size = sz ∧ va_P (dC, dI) vwCl [(h0, .inr (8, [.ref qf0, .ref qf1])), (qf0, .inr (9, [.ref qf0_0, .ref qf0_1, .ref qf0_2, .int v0_3, .ref qf0_4, .ref qf0_5, .ref qf0_6, .ref qf0_7, .ref qf0_8, .int v0_9, .int v0_10, .int v0_11, .int v0_12])), (qf0_0, .inl (cf0_0, 3001, .inl f0_0)), (qf0_1, .inl (cf0_1, 3001, .inl f0_1))] U.heap ∧ va_K (dC, dI) vwCl [(cf0_0, .int), (cf0_1, .int)] U ∧ va_D (fun _ => True) [(h0, .inr (8, [.ref qf0, .ref qf1])), (qf0, .inr (9, [.ref qf0_0, .ref qf0_1, .ref qf0_2, .int v0_3, .ref qf0_4, .ref qf0_5, .ref qf0_6, .ref qf0_7, .ref qf0_8, .int v0_9, .int v0_10, .int v0_11, .int v0_12])), (qf0_0, .inl (cf0_0, 3001, .inl f0_0)), (qf0_1, .inl (cf0_1, 3001, .inl f0_1))])) (va_Qv (fun (u : Unit) => match u with | () => True) (fun (u : Unit) (t : State) => match u with | () => va_P (dC, dI) vwCl [(h0, .inr (8, [.ref qf0, .ref qf1])), (qf0, .inr (9, [.ref qf0_0, .ref qf0_1, .ref qf0_2, .int v0_3, .ref qf0_4, .ref qf0_5, .ref qf0_6, .ref qf0_7, .ref qf0_8, .int v0_9, .int w0_10, .int w0_11, .int w0_12])), (qf0_0, .inl (cf0_0, 3001, .inl f0_0)), (qf0_1, .inl (cf0_1, 3001, .inl f0_1))] t.heap ∧ va_K (dC, dI) vwCl [(cf0_0, .int), (cf0_1, .int)] t ∧ va_D (va_A [(h0, .inr (8, [.ref qf0, .ref qf1])), (qf0, .inr (9, [.ref qf0_0, .ref qf0_1, .ref qf0_2, .int v0_3, .ref qf0_4, .ref qf0_5, .ref qf0_6, .ref qf0_7, .ref qf0_8, .int v0_9, .int v0_10, .int v0_11, .int v0_12])), (qf0_0, .inl (cf0_0, 3001, .inl f0_0)), (qf0_1, .inl (cf0_1, 3001, .inl f0_1))] sz) [(h0, .inr (8, [.ref qf0, .ref qf1])), (qf0, .inr (9, [.ref qf0_0, .ref qf0_1, .ref qf0_2, .int v0_3, .ref qf0_4, .ref qf0_5, .ref qf0_6, .ref qf0_7, .ref qf0_8, .int v0_9, .int w0_10, .int w0_11, .int w0_12])), (qf0_0, .inl (cf0_0, 3001, .inl f0_0)), (qf0_1, .inl (cf0_1, 3001, .inl f0_1))]) (va_A [(h0, .inr (8, [.ref qf0, .ref qf1])), (qf0, .inr (9, [.ref qf0_0, .ref qf0_1, .ref qf0_2, .int v0_3, .ref qf0_4, .ref qf0_5, .ref qf0_6, .ref qf0_7, .ref qf0_8, .int v0_9, .int v0_10, .int v0_11, .int v0_12])), (qf0_0, .inl (cf0_0, 3001, .inl f0_0)), (qf0_1, .inl (cf0_1, 3001, .inl f0_1))] sz)) 0 0 (va_A [(h0, .inr (8, [.ref qf0, .ref qf1])), (qf0, .inr (9, [.ref qf0_0, .ref qf0_1, .ref qf0_2, .int v0_3, .ref qf0_4, .ref qf0_5, .ref qf0_6, .ref qf0_7, .ref qf0_8, .int v0_9, .int v0_10, .int v0_11, .int v0_12])), (qf0_0, .inl (cf0_0, 3001, .inl f0_0)), (qf0_1, .inl (cf0_1, 3001, .inl f0_1))] sz) := by
  unfold sp_v8_readBehind at hsp
  exact (gr_synv_ok nf 300).2.2.2.1 l dC dI sz h0 a1 qf0 qf1 qf0_0 qf0_1 qf0_2 v0_3 qf0_4 qf0_5 qf0_6 qf0_7 qf0_8 v0_9 v0_10 v0_11 v0_12 cf0_0 f0_0 cf0_1 f0_1 nf w0_10 w0_11 w0_12  hsp
def sp_v8_readNew (nf : Nat) (a1 : Int32) (v0_3 : Int32) (v0_10 : Int32) (v0_11 : Int32) (v0_12 : Int32) (f0_0 : Nat → Int32) (f0_1 : Nat → Int32) : Option (Int32 × Int32 × Int32) := (gr_synv nf 300).2.2.2.2.1 a1 v0_3 v0_10 v0_11 v0_12 f0_0 f0_1
