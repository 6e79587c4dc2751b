set_option maxHeartbeats 4000000 in
set_option maxRecDepth 100000 in
/-- ClassMill$Syntax.readValue -/
theorem op_v8_readValue_ok (nf d : Nat) (rc : GT_synv) (ih_0 : CT_v8_readValue d rc.1) (ih_1 : CT_v8_readUnary d rc.2.1) (ih_2 : CT_v8_readPrimary d rc.2.2.1) (ih_3 : CT_v8_readBehind d rc.2.2.2.1) (ih_4 : CT_v8_readNew d rc.2.2.2.2.1) (ih_5 : CT_v8_readArguments d rc.2.2.2.2.2) : CT_v8_readValue (d + 1) (op_v8_readValue nf rc) := by
  intro l dC dI sz h0 a1 qf0 qf1 qf0_0 qf0_1 qf0_2 v0_3 qf0_4 qf0_5 qf0_6 qf0_7 qf0_8 v0_9 v0_10 v0_11 v0_12 cf0_0 f0_0 cf0_1 f0_1 nf9 w0_10 w0_11 w0_12 hsp
  refine Met.ofW (cc := cX8_readValue) (maxL := 4) (ret := none) (by decide) rfl ?_
  intro p e s m args below meth c s₁ B hml hv
  obtain ⟨rfl, hsz, hP, hK, hD0⟩ := hv
  have hx := B.exec
  have hb := B.bytes
  have hr := B.returns
  have hts := atoms_spec (ws := (.code yX8_readValue cX8_readValue 4 none :: VS_h8)) B.pre
  replace hts := fun w (h : w ∈ VS_h8) => hts w (List.mem_cons_of_mem _ h)
  have hown : s.vm.findClass RX8 = some m.cls := findClass_of_methodNamed B.named
  have hlocks := B.notSynchronized
  subst hsz
  have hD := hD0.self (sz := s.heap.size)
  generalize hAe : va_A [(h0, .inr (8, [.ref qf0, .ref qf1])), (qf0, .inr (9, [.ref qf0_0, .ref qf0_1, .ref qf0_2, .int v0_3, .ref qf0_4, .ref qf0_5, .ref qf0_6, .ref qf0_7, .ref qf0_8, .int v0_9, .int v0_10, .int v0_11, .int v0_12])), (qf0_0, .inl (cf0_0, 3001, .inl f0_0)), (qf0_1, .inl (cf0_1, 3001, .inl f0_1))] s.heap.size = A at hD  ⊢
  have hA : ∀ q : Nat, s.heap.size ≤ q → A q := fun q h => by rw [← hAe]; exact Or.inr h
  have hP : va_P (dC, dI) vwCl [(h0, .inr (8, [.ref qf0, .ref qf1])), (qf0, .inr (9, [.ref qf0_0, .ref qf0_1, .ref qf0_2, .int v0_3, .ref qf0_4, .ref qf0_5, .ref qf0_6, .ref qf0_7, .ref qf0_8, .int v0_9, .int v0_10, .int v0_11, .int v0_12])), (qf0_0, .inl (cf0_0, 3001, .inl f0_0)), (qf0_1, .inl (cf0_1, 3001, .inl f0_1))] s.heap := hP
  have hl := lv_entry ([.ref h0, .int a1]) (n := 4) (Nat.le_of_ble_eq_true rfl)
  rw [lg_entry_eq]
  generalize (lg_sl ([.ref h0, .int a1]) ++ List.replicate (4 - (lg_sl ([.ref h0, .int a1])).length) Slot.unset).toArray = ls at hl ⊢
  have hl : lv_has ls 4 [(0, .ref h0), (1, .int a1)] := hl
  obtain ⟨H, hH⟩ : ∃ H : Heap, s.heap = H := ⟨_, rfl⟩
  rw [hH] at hP ⊢
  have hS : va_S A s.heap H [] := by rw [← hH]; exact va_S.rf
  obtain ⟨locs, hlo⟩ : ∃ locs : List Loc, locs = [] := ⟨_, rfl⟩
  rw [← hlo] at hS ⊢
  replace hsp : op_v8_readValue nf rc a1 v0_3 v0_10 v0_11 v0_12 f0_0 f0_1 = some (w0_10, w0_11, w0_12) := hsp
  unfold op_v8_readValue at hsp
  refine jn_use (α := Heap × List Loc × Array Slot × Int32 × Int32 × Int32 × Int32) (fun x9 => x9.1) (fun x9 => x9.2.1) (fun x9 => F0 m 88 x9.2.2.1 []) (fun x9 => match x9 with | (H, locs, ls, l1_88, x0_10_88, x0_11_88, x0_12_88) => lv_has ls 4 [(0, .ref h0), (1, .int l1_88)] ∧ va_S A s.heap H locs ∧ va_D A [(h0, .inr (8, [.ref qf0, .ref qf1])), (qf0, .inr (9, [.ref qf0_0, .ref qf0_1, .ref qf0_2, .int v0_3, .ref qf0_4, .ref qf0_5, .ref qf0_6, .ref qf0_7, .ref qf0_8, .int v0_9, .int x0_10_88, .int x0_11_88, .int x0_12_88])), (qf0_0, .inl (cf0_0, 3001, .inl f0_0)), (qf0_1, .inl (cf0_1, 3001, .inl f0_1))] ∧ va_P (dC, dI) vwCl [(h0, .inr (8, [.ref qf0, .ref qf1])), (qf0, .inr (9, [.ref qf0_0, .ref qf0_1, .ref qf0_2, .int v0_3, .ref qf0_4, .ref qf0_5, .ref qf0_6, .ref qf0_7, .ref qf0_8, .int v0_9, .int x0_10_88, .int x0_11_88, .int x0_12_88])), (qf0_0, .inl (cf0_0, 3001, .inl f0_0)), (qf0_1, .inl (cf0_1, 3001, .inl f0_1))] H ∧ jn_v8_readValue_88 nf rc a1 v0_3 v0_10 v0_11 v0_12 f0_0 f0_1 l1_88 x0_10_88 x0_11_88 x0_12_88 = some (w0_10, w0_11, w0_12)) ?_ ?_
  · intro x9 hJ9
    obtain ⟨H, locs, ls, l1_88, x0_10_88, x0_11_88, x0_12_88⟩ := x9
    obtain ⟨hl, hS, hD, hP, hsp⟩ := hJ9
    replace hl : lv_has ls 4 [(0, .ref h0), (1, .int l1_88)] := hl
    replace hS : va_S A s.heap H locs := hS
    replace hD : va_D A [(h0, .inr (8, [.ref qf0, .ref qf1])), (qf0, .inr (9, [.ref qf0_0, .ref qf0_1, .ref qf0_2, .int v0_3, .ref qf0_4, .ref qf0_5, .ref qf0_6, .ref qf0_7, .ref qf0_8, .int v0_9, .int x0_10_88, .int x0_11_88, .int x0_12_88])), (qf0_0, .inl (cf0_0, 3001, .inl f0_0)), (qf0_1, .inl (cf0_1, 3001, .inl f0_1))] := hD
    replace hP : va_P (dC, dI) vwCl [(h0, .inr (8, [.ref qf0, .ref qf1])), (qf0, .inr (9, [.ref qf0_0, .ref qf0_1, .ref qf0_2, .int v0_3, .ref qf0_4, .ref qf0_5, .ref qf0_6, .ref qf0_7, .ref qf0_8, .int v0_9, .int x0_10_88, .int x0_11_88, .int x0_12_88])), (qf0_0, .inl (cf0_0, 3001, .inl f0_0)), (qf0_1, .inl (cf0_1, 3001, .inl f0_1))] H := hP
    replace hsp : jn_v8_readValue_88 nf rc a1 v0_3 v0_10 v0_11 v0_12 f0_0 f0_1 l1_88 x0_10_88 x0_11_88 x0_12_88 = some (w0_10, w0_11, w0_12) := hsp
    show W _ _ _ _ _ _ _ _ _ _ H locs _ _ _ (F0 m 88 ls [])
    unfold jn_v8_readValue_88 at hsp
    try dsimp only at hsp
    refine lv_aload_n hx hb dX8_readValue_88 rfl (lv_at hl 0 rfl) ?_
    refine lv_bipush (v := 49) hx hb dX8_readValue_89 (by decide) ?_
    obtain ⟨⟨u7_0, u7_1⟩, hu_7, hsp⟩ := ox_bind hsp
    try dsimp only at hsp
    have hPc := hP.sub (ws' := [(h0, .inr (8, [.ref qf0, .ref qf1])), (qf0, .inr (9, [.ref qf0_0, .ref qf0_1, .ref qf0_2, .int v0_3, .ref qf0_4, .ref qf0_5, .ref qf0_6, .ref qf0_7, .ref qf0_8, .int v0_9, .int x0_10_88, .int x0_11_88, .int x0_12_88])), (qf0_0, .inl (cf0_0, 3001, .inl f0_0))]) [0, 1, 2] rfl
    have hDc := hD.sub (ws' := [(h0, .inr (8, [.ref qf0, .ref qf1])), (qf0, .inr (9, [.ref qf0_0, .ref qf0_1, .ref qf0_2, .int v0_3, .ref qf0_4, .ref qf0_5, .ref qf0_6, .ref qf0_7, .ref qf0_8, .int v0_9, .int x0_10_88, .int x0_11_88, .int x0_12_88])), (qf0_0, .inl (cf0_0, 3001, .inl f0_0))]) [0, 1, 2] (by decide) rfl
    have hKc := hK.sub (tys' := [(cf0_0, .int)]) [0] rfl
    have hFc := va_free (wc := [(h0, .inr (8, [.ref qf0, .ref qf1])), (qf0, .inr (9, [.ref qf0_0, .ref qf0_1, .ref qf0_2, .int v0_3, .ref qf0_4, .ref qf0_5, .ref qf0_6, .ref qf0_7, .ref qf0_8, .int v0_9, .int x0_10_88, .int x0_11_88, .int x0_12_88])), (qf0_0, .inl (cf0_0, 3001, .inl f0_0))]) hD hS hA [0, 1, 2] rfl
    refine va_calli (va_runV (As := [.int 49]) (rest := []) ⟨hx, hb, hml, hown, hts⟩ (t8_accept l dC dI H.size h0 49 qf0 qf1 qf0_0 qf0_1 qf0_2 v0_3 qf0_4 qf0_5 qf0_6 qf0_7 qf0_8 v0_9 x0_10_88 x0_11_88 x0_12_88 cf0_0 f0_0 nf u7_0 u7_1 hu_7) (cwV 1 hts gv_h8_22 rfl rfl rfl (by decide +kernel) ⟨by dsimp only [headSpec]; omega, by dsimp only [headSpec]; omega⟩) ⟨fun a U g mk q => by obtain ⟨q0, q1, qP, qK, qD⟩ := q; exact ⟨q0, q1, qP, va_K.moved (u := U) (U := U.calling g mk a) (Vm.Alike.refl U.vm) qK, qD⟩, va_recv hKc hPc (ci := 8) (q0 := 0) rfl rfl, fun U hU hW => ⟨rfl, by rw [hU], by rw [hU]; exact hPc, va_K.moved hW.alike hKc, hDc.weaken (fun _ _ _ _ => trivial)⟩⟩ rfl rfl hl.1 rfl (lv_room (Nat.le_of_ble_eq_true rfl)) dX8_readValue_91 ⟨Nat.le_of_ble_eq_true rfl, Nat.le_of_ble_eq_true rfl⟩) hS (fun q _ h => hFc q h) hFc ?_
    clear hS
    intro r_12 u t H1 locs ht hvm hw hB hz1 hk1 hS
    obtain ⟨⟩ := u
    obtain ⟨hP1, hK1, hD1⟩ := hB
    rw [ht] at hP1
    have hK1 := va_K.moved hvm.symm hK1
    try dsimp only at hw
    have hPD := va_join (wr := [(qf0_1, .inl (cf0_1, 3001, .inl f0_1))]) (w1 := [(h0, .inr (8, [.ref qf0, .ref qf1])), (qf0, .inr (9, [.ref qf0_0, .ref qf0_1, .ref qf0_2, .int v0_3, .ref qf0_4, .ref qf0_5, .ref qf0_6, .ref qf0_7, .ref qf0_8, .int v0_9, .int u7_1, .int x0_11_88, .int x0_12_88])), (qf0_0, .inl (cf0_0, 3001, .inl f0_0))]) hP hD [0, 1, 2] [3] rfl rfl (by decide) (by decide) hk1 hFc hP1 hD1
    clear hP hD
    obtain ⟨hP, hD⟩ := hPD
    replace hK := (hK.sub (tys' := [(cf0_1, .int)]) [1] rfl).app hK1
    clear hPc hDc hKc hFc hP1 hK1 hD1 hz1 hk1 ht hvm
    generalize H1 = H at hP hS ⊢
    replace hP : va_P (dC, dI) vwCl [(qf0_1, .inl (cf0_1, 3001, .inl f0_1)), (h0, .inr (8, [.ref qf0, .ref qf1])), (qf0, .inr (9, [.ref qf0_0, .ref qf0_1, .ref qf0_2, .int v0_3, .ref qf0_4, .ref qf0_5, .ref qf0_6, .ref qf0_7, .ref qf0_8, .int v0_9, .int u7_1, .int x0_11_88, .int x0_12_88])), (qf0_0, .inl (cf0_0, 3001, .inl f0_0))] H := hP
    replace hD : va_D A [(qf0_1, .inl (cf0_1, 3001, .inl f0_1)), (h0, .inr (8, [.ref qf0, .ref qf1])), (qf0, .inr (9, [.ref qf0_0, .ref qf0_1, .ref qf0_2, .int v0_3, .ref qf0_4, .ref qf0_5, .ref qf0_6, .ref qf0_7, .ref qf0_8, .int v0_9, .int u7_1, .int x0_11_88, .int x0_12_88])), (qf0_0, .inl (cf0_0, 3001, .inl f0_0))] := hD
    replace hK : va_K (dC, dI) vwCl [(cf0_1, .int), (cf0_0, .int)] s := hK
    obtain ⟨rfl, hz_7⟩ := hw
    rcases hz_7 with rfl | rfl
    · rw [if_pos rfl] at hsp
      refine lv_if_eq (tgt := 117) hx hb dX8_readValue_94 (by decide) (fun c_13 => ?_) (fun c_13 => (show False by revert c_13; decide).elim)
      have hr0 := Option.some.inj hsp
      clear hsp
      obtain ⟨hq0, hr1⟩ := Prod.mk.inj hr0
      clear hr0
      obtain ⟨hq1, hr2⟩ := Prod.mk.inj hr1
      clear hr1
      subst hq0
      subst hq1
      subst hr2
      have hP9 := hP.sub (ws' := [(h0, .inr (8, [.ref qf0, .ref qf1])), (qf0, .inr (9, [.ref qf0_0, .ref qf0_1, .ref qf0_2, .int v0_3, .ref qf0_4, .ref qf0_5, .ref qf0_6, .ref qf0_7, .ref qf0_8, .int v0_9, .int u7_1, .int x0_11_88, .int x0_12_88])), (qf0_0, .inl (cf0_0, 3001, .inl f0_0)), (qf0_1, .inl (cf0_1, 3001, .inl f0_1))]) [1, 2, 3, 0] rfl
      have hD9 := hD.sub (ws' := [(h0, .inr (8, [.ref qf0, .ref qf1])), (qf0, .inr (9, [.ref qf0_0, .ref qf0_1, .ref qf0_2, .int v0_3, .ref qf0_4, .ref qf0_5, .ref qf0_6, .ref qf0_7, .ref qf0_8, .int v0_9, .int u7_1, .int x0_11_88, .int x0_12_88])), (qf0_0, .inl (cf0_0, 3001, .inl f0_0)), (qf0_1, .inl (cf0_1, 3001, .inl f0_1))]) [1, 2, 3, 0] (by decide) rfl
      have hK9 := hK.sub (tys' := [(cf0_0, .int), (cf0_1, .int)]) [1, 0] rfl
      exact W.vret hx hb hr (fun t ht hW => ⟨⟨(), rfl, trivial, by rw [ht]; exact hP9, va_K.moved hW.alike hK9, hD9⟩, hS.F ht⟩) hS.2.2 dX8_readValue_117
    · rw [if_neg (by decide)] at hsp
      refine lv_if_eq (tgt := 117) hx hb dX8_readValue_94 (by decide) (fun c_14 => (show False by revert c_14; decide).elim) (fun c_14 => ?_)
      refine lv_aload_n hx hb dX8_readValue_97 rfl (lv_at hl 0 rfl) ?_
      refine lv_iload_n hx hb dX8_readValue_98 rfl (lv_at hl 1 rfl) ?_
      refine lv_iconst (v := 1) hx hb dX8_readValue_99 (by decide) ?_
      refine lv_iadd hx hb dX8_readValue_100 ?_
      obtain ⟨⟨u8_0, u8_1, u8_2⟩, hu_8, hsp⟩ := ox_bind hsp
      try dsimp only at hsp
      have hPc := hP.sub (ws' := [(h0, .inr (8, [.ref qf0, .ref qf1])), (qf0, .inr (9, [.ref qf0_0, .ref qf0_1, .ref qf0_2, .int v0_3, .ref qf0_4, .ref qf0_5, .ref qf0_6, .ref qf0_7, .ref qf0_8, .int v0_9, .int u7_1, .int x0_11_88, .int x0_12_88])), (qf0_0, .inl (cf0_0, 3001, .inl f0_0)), (qf0_1, .inl (cf0_1, 3001, .inl f0_1))]) [1, 2, 3, 0] rfl
      have hDc := hD.sub (ws' := [(h0, .inr (8, [.ref qf0, .ref qf1])), (qf0, .inr (9, [.ref qf0_0, .ref qf0_1, .ref qf0_2, .int v0_3, .ref qf0_4, .ref qf0_5, .ref qf0_6, .ref qf0_7, .ref qf0_8, .int v0_9, .int u7_1, .int x0_11_88, .int x0_12_88])), (qf0_0, .inl (cf0_0, 3001, .inl f0_0)), (qf0_1, .inl (cf0_1, 3001, .inl f0_1))]) [1, 2, 3, 0] (by decide) rfl
      have hKc := hK.sub (tys' := [(cf0_0, .int), (cf0_1, .int)]) [1, 0] rfl
      have hFc := va_free (wc := [(h0, .inr (8, [.ref qf0, .ref qf1])), (qf0, .inr (9, [.ref qf0_0, .ref qf0_1, .ref qf0_2, .int v0_3, .ref qf0_4, .ref qf0_5, .ref qf0_6, .ref qf0_7, .ref qf0_8, .int v0_9, .int u7_1, .int x0_11_88, .int x0_12_88])), (qf0_0, .inl (cf0_0, 3001, .inl f0_0)), (qf0_1, .inl (cf0_1, 3001, .inl f0_1))]) hD hS hA [1, 2, 3, 0] rfl
      refine va_callv (va_runV (As := [.int (l1_88 + 1)]) (rest := []) ⟨hx, hb, hml, hown, hts⟩ (ih_0 l dC dI H.size h0 ((l1_88 + 1)) qf0 qf1 qf0_0 qf0_1 qf0_2 v0_3 qf0_4 qf0_5 qf0_6 qf0_7 qf0_8 v0_9 u7_1 x0_11_88 x0_12_88 cf0_0 f0_0 cf0_1 f0_1 nf u8_0 u8_1 u8_2 hu_8) (cwV 1 hts gv_h8_24 rfl rfl rfl (by decide +kernel) ⟨by dsimp only [headSpec]; omega, by dsimp only [headSpec]; omega⟩) ⟨fun a U g mk q => by obtain ⟨q0, q1, qP, qK, qD⟩ := q; exact ⟨q0, q1, qP, va_K.moved (u := U) (U := U.calling g mk a) (Vm.Alike.refl U.vm) qK, qD⟩, va_recv hKc hPc (ci := 8) (q0 := 0) rfl rfl, fun U hU hW => ⟨rfl, by rw [hU], by rw [hU]; exact hPc, va_K.moved hW.alike hKc, hDc.weaken (fun _ _ _ _ => trivial)⟩⟩ rfl rfl hl.1 rfl (lv_room (Nat.le_of_ble_eq_true rfl)) dX8_readValue_101 ⟨Nat.le_of_ble_eq_true rfl, Nat.le_of_ble_eq_true rfl⟩) hS (fun q _ h => hFc q h) hFc ?_
      clear hS
      intro u t H1 locs ht hvm hw hB hz1 hk1 hS
      obtain ⟨⟩ := u
      obtain ⟨hP1, hK1, hD1⟩ := hB
      rw [ht] at hP1
      have hK1 := va_K.moved hvm.symm hK1
      try dsimp only at hw
      have hPD := va_join (wr := []) (w1 := [(h0, .inr (8, [.ref qf0, .ref qf1])), (qf0, .inr (9, [.ref qf0_0, .ref qf0_1, .ref qf0_2, .int v0_3, .ref qf0_4, .ref qf0_5, .ref qf0_6, .ref qf0_7, .ref qf0_8, .int v0_9, .int u8_0, .int u8_1, .int u8_2])), (qf0_0, .inl (cf0_0, 3001, .inl f0_0)), (qf0_1, .inl (cf0_1, 3001, .inl f0_1))]) hP hD [1, 2, 3, 0] [] rfl rfl (by decide) (by decide) hk1 hFc hP1 hD1
      clear hP hD
      obtain ⟨hP, hD⟩ := hPD
      replace hK := (hK.sub (tys' := []) [] rfl).app hK1
      clear hPc hDc hKc hFc hP1 hK1 hD1 hz1 hk1 ht hvm
      generalize H1 = H at hP hS ⊢
      replace hP : va_P (dC, dI) vwCl [(h0, .inr (8, [.ref qf0, .ref qf1])), (qf0, .inr (9, [.ref qf0_0, .ref qf0_1, .ref qf0_2, .int v0_3, .ref qf0_4, .ref qf0_5, .ref qf0_6, .ref qf0_7, .ref qf0_8, .int v0_9, .int u8_0, .int u8_1, .int u8_2])), (qf0_0, .inl (cf0_0, 3001, .inl f0_0)), (qf0_1, .inl (cf0_1, 3001, .inl f0_1))] H := hP
      replace hD : va_D A [(h0, .inr (8, [.ref qf0, .ref qf1])), (qf0, .inr (9, [.ref qf0_0, .ref qf0_1, .ref qf0_2, .int v0_3, .ref qf0_4, .ref qf0_5, .ref qf0_6, .ref qf0_7, .ref qf0_8, .int v0_9, .int u8_0, .int u8_1, .int u8_2])), (qf0_0, .inl (cf0_0, 3001, .inl f0_0)), (qf0_1, .inl (cf0_1, 3001, .inl f0_1))] := hD
      replace hK : va_K (dC, dI) vwCl [(cf0_0, .int), (cf0_1, .int)] s := hK
      refine lv_aload_n hx hb dX8_readValue_104 rfl (lv_at hl 0 rfl) ?_
      refine lv_bipush (v := 50) hx hb dX8_readValue_105 (by decide) ?_
      obtain ⟨⟨u9_0, u9_1, u9_2⟩, hu_9, hsp⟩ := ox_bind hsp
      try dsimp only at hsp
      have hPc := hP.sub (ws' := [(h0, .inr (8, [.ref qf0, .ref qf1])), (qf0, .inr (9, [.ref qf0_0, .ref qf0_1, .ref qf0_2, .int v0_3, .ref qf0_4, .ref qf0_5, .ref qf0_6, .ref qf0_7, .ref qf0_8, .int v0_9, .int u8_0, .int u8_1, .int u8_2])), (qf0_0, .inl (cf0_0, 3001, .inl f0_0)), (qf0_1, .inl (cf0_1, 3001, .inl f0_1))]) [0, 1, 2, 3] rfl
      have hDc := hD.sub (ws' := [(h0, .inr (8, [.ref qf0, .ref qf1])), (qf0, .inr (9, [.ref qf0_0, .ref qf0_1, .ref qf0_2, .int v0_3, .ref qf0_4, .ref qf0_5, .ref qf0_6, .ref qf0_7, .ref qf0_8, .int v0_9, .int u8_0, .int u8_1, .int u8_2])), (qf0_0, .inl (cf0_0, 3001, .inl f0_0)), (qf0_1, .inl (cf0_1, 3001, .inl f0_1))]) [0, 1, 2, 3] (by decide) rfl
      have hKc := hK.sub (tys' := [(cf0_0, .int), (cf0_1, .int)]) [0, 1] rfl
      have hFc := va_free (wc := [(h0, .inr (8, [.ref qf0, .ref qf1])), (qf0, .inr (9, [.ref qf0_0, .ref qf0_1, .ref qf0_2, .int v0_3, .ref qf0_4, .ref qf0_5, .ref qf0_6, .ref qf0_7, .ref qf0_8, .int v0_9, .int u8_0, .int u8_1, .int u8_2])), (qf0_0, .inl (cf0_0, 3001, .inl f0_0)), (qf0_1, .inl (cf0_1, 3001, .inl f0_1))]) hD hS hA [0, 1, 2, 3] rfl
      refine va_callv (va_runV (As := [.int 50]) (rest := []) ⟨hx, hb, hml, hown, hts⟩ (t8_need l dC dI H.size h0 50 qf0 qf1 qf0_0 qf0_1 qf0_2 v0_3 qf0_4 qf0_5 qf0_6 qf0_7 qf0_8 v0_9 u8_0 u8_1 u8_2 cf0_0 f0_0 cf0_1 f0_1 nf u9_0 u9_1 u9_2 hu_9) (cwV 1 hts gv_h8_23 rfl rfl rfl (by decide +kernel) ⟨by dsimp only [headSpec]; omega, by dsimp only [headSpec]; omega⟩) ⟨fun a U g mk q => by obtain ⟨q0, q1, qP, qK, qD⟩ := q; exact ⟨q0, q1, qP, va_K.moved (u := U) (U := U.calling g mk a) (Vm.Alike.refl U.vm) qK, qD⟩, va_recv hKc hPc (ci := 8) (q0 := 0) rfl rfl, fun U hU hW => ⟨rfl, by rw [hU], by rw [hU]; exact hPc, va_K.moved hW.alike hKc, hDc.weaken (fun _ _ _ _ => trivial)⟩⟩ rfl rfl hl.1 rfl (lv_room (Nat.le_of_ble_eq_true rfl)) dX8_readValue_107 ⟨Nat.le_of_ble_eq_true rfl, Nat.le_of_ble_eq_true rfl⟩) hS (fun q _ h => hFc q h) hFc ?_
      clear hS
      intro u t H1 locs ht hvm hw hB hz1 hk1 hS
      obtain ⟨⟩ := u
      obtain ⟨hP1, hK1, hD1⟩ := hB
      rw [ht] at hP1
      have hK1 := va_K.moved hvm.symm hK1
      try dsimp only at hw
      have hPD := va_join (wr := []) (w1 := [(h0, .inr (8, [.ref qf0, .ref qf1])), (qf0, .inr (9, [.ref qf0_0, .ref qf0_1, .ref qf0_2, .int v0_3, .ref qf0_4, .ref qf0_5, .ref qf0_6, .ref qf0_7, .ref qf0_8, .int v0_9, .int u9_0, .int u9_1, .int u9_2])), (qf0_0, .inl (cf0_0, 3001, .inl f0_0)), (qf0_1, .inl (cf0_1, 3001, .inl f0_1))]) hP hD [0, 1, 2, 3] [] rfl rfl (by decide) (by decide) hk1 hFc hP1 hD1
      clear hP hD
      obtain ⟨hP, hD⟩ := hPD
      replace hK := (hK.sub (tys' := []) [] rfl).app hK1
      clear hPc hDc hKc hFc hP1 hK1 hD1 hz1 hk1 ht hvm
      generalize H1 = H at hP hS ⊢
      replace hP : va_P (dC, dI) vwCl [(h0, .inr (8, [.ref qf0, .ref qf1])), (qf0, .inr (9, [.ref qf0_0, .ref qf0_1, .ref qf0_2, .int v0_3, .ref qf0_4, .ref qf0_5, .ref qf0_6, .ref qf0_7, .ref qf0_8, .int v0_9, .int u9_0, .int u9_1, .int u9_2])), (qf0_0, .inl (cf0_0, 3001, .inl f0_0)), (qf0_1, .inl (cf0_1, 3001, .inl f0_1))] H := hP
      replace hD : va_D A [(h0, .inr (8, [.ref qf0, .ref qf1])), (qf0, .inr (9, [.ref qf0_0, .ref qf0_1, .ref qf0_2, .int v0_3, .ref qf0_4, .ref qf0_5, .ref qf0_6, .ref qf0_7, .ref qf0_8, .int v0_9, .int u9_0, .int u9_1, .int u9_2])), (qf0_0, .inl (cf0_0, 3001, .inl f0_0)), (qf0_1, .inl (cf0_1, 3001, .inl f0_1))] := hD
      replace hK : va_K (dC, dI) vwCl [(cf0_0, .int), (cf0_1, .int)] s := hK
      refine lv_aload_n hx hb dX8_readValue_110 rfl (lv_at hl 0 rfl) ?_
      refine lv_iload_n hx hb dX8_readValue_111 rfl (lv_at hl 1 rfl) ?_
      refine lv_iconst (v := 1) hx hb dX8_readValue_112 (by decide) ?_
      refine lv_iadd hx hb dX8_readValue_113 ?_
      obtain ⟨⟨u10_0, u10_1, u10_2⟩, hu_10, hsp⟩ := ox_bind hsp
      try dsimp only at hsp
      have hPc := hP.sub (ws' := [(h0, .inr (8, [.ref qf0, .ref qf1])), (qf0, .inr (9, [.ref qf0_0, .ref qf0_1, .ref qf0_2, .int v0_3, .ref qf0_4, .ref qf0_5, .ref qf0_6, .ref qf0_7, .ref qf0_8, .int v0_9, .int u9_0, .int u9_1, .int u9_2])), (qf0_0, .inl (cf0_0, 3001, .inl f0_0)), (qf0_1, .inl (cf0_1, 3001, .inl f0_1))]) [0, 1, 2, 3] rfl
      have hDc := hD.sub (ws' := [(h0, .inr (8, [.ref qf0, .ref qf1])), (qf0, .inr (9, [.ref qf0_0, .ref qf0_1, .ref qf0_2, .int v0_3, .ref qf0_4, .ref qf0_5, .ref qf0_6, .ref qf0_7, .ref qf0_8, .int v0_9, .int u9_0, .int u9_1, .int u9_2])), (qf0_0, .inl (cf0_0, 3001, .inl f0_0)), (qf0_1, .inl (cf0_1, 3001, .inl f0_1))]) [0, 1, 2, 3] (by decide) rfl
      have hKc := hK.sub (tys' := [(cf0_0, .int), (cf0_1, .int)]) [0, 1] rfl
      have hFc := va_free (wc := [(h0, .inr (8, [.ref qf0, .ref qf1])), (qf0, .inr (9, [.ref qf0_0, .ref qf0_1, .ref qf0_2, .int v0_3, .ref qf0_4, .ref qf0_5, .ref qf0_6, .ref qf0_7, .ref qf0_8, .int v0_9, .int u9_0, .int u9_1, .int u9_2])), (qf0_0, .inl (cf0_0, 3001, .inl f0_0)), (qf0_1, .inl (cf0_1, 3001, .inl f0_1))]) hD hS hA [0, 1, 2, 3] rfl
      refine va_callv (va_runV (As := [.int (l1_88 + 1)]) (rest := []) ⟨hx, hb, hml, hown, hts⟩ (ih_0 l dC dI H.size h0 ((l1_88 + 1)) qf0 qf1 qf0_0 qf0_1 qf0_2 v0_3 qf0_4 qf0_5 qf0_6 qf0_7 qf0_8 v0_9 u9_0 u9_1 u9_2 cf0_0 f0_0 cf0_1 f0_1 nf u10_0 u10_1 u10_2 hu_10) (cwV 1 hts gv_h8_24 rfl rfl rfl (by decide +kernel) ⟨by dsimp only [headSpec]; omega, by dsimp only [headSpec]; omega⟩) ⟨fun a U g mk q => by obtain ⟨q0, q1, qP, qK, qD⟩ := q; exact ⟨q0, q1, qP, va_K.moved (u := U) (U := U.calling g mk a) (Vm.Alike.refl U.vm) qK, qD⟩, va_recv hKc hPc (ci := 8) (q0 := 0) rfl rfl, fun U hU hW => ⟨rfl, by rw [hU], by rw [hU]; exact hPc, va_K.moved hW.alike hKc, hDc.weaken (fun _ _ _ _ => trivial)⟩⟩ rfl rfl hl.1 rfl (lv_room (Nat.le_of_ble_eq_true rfl)) dX8_readValue_114 ⟨Nat.le_of_ble_eq_true rfl, Nat.le_of_ble_eq_true rfl⟩) hS (fun q _ h => hFc q h) hFc ?_
      clear hS
      intro u t H1 locs ht hvm hw hB hz1 hk1 hS
      obtain ⟨⟩ := u
      obtain ⟨hP1, hK1, hD1⟩ := hB
      rw [ht] at hP1
      have hK1 := va_K.moved hvm.symm hK1
      try dsimp only at hw
      have hPD := va_join (wr := []) (w1 := [(h0, .inr (8, [.ref qf0, .ref qf1])), (qf0, .inr (9, [.ref qf0_0, .ref qf0_1, .ref qf0_2, .int v0_3, .ref qf0_4, .ref qf0_5, .ref qf0_6, .ref qf0_7, .ref qf0_8, .int v0_9, .int u10_0, .int u10_1, .int u10_2])), (qf0_0, .inl (cf0_0, 3001, .inl f0_0)), (qf0_1, .inl (cf0_1, 3001, .inl f0_1))]) hP hD [0, 1, 2, 3] [] rfl rfl (by decide) (by decide) hk1 hFc hP1 hD1
      clear hP hD
      obtain ⟨hP, hD⟩ := hPD
      replace hK := (hK.sub (tys' := []) [] rfl).app hK1
      clear hPc hDc hKc hFc hP1 hK1 hD1 hz1 hk1 ht hvm
      generalize H1 = H at hP hS ⊢
      replace hP : va_P (dC, dI) vwCl [(h0, .inr (8, [.ref qf0, .ref qf1])), (qf0, .inr (9, [.ref qf0_0, .ref qf0_1, .ref qf0_2, .int v0_3, .ref qf0_4, .ref qf0_5, .ref qf0_6, .ref qf0_7, .ref qf0_8, .int v0_9, .int u10_0, .int u10_1, .int u10_2])), (qf0_0, .inl (cf0_0, 3001, .inl f0_0)), (qf0_1, .inl (cf0_1, 3001, .inl f0_1))] H := hP
      replace hD : va_D A [(h0, .inr (8, [.ref qf0, .ref qf1])), (qf0, .inr (9, [.ref qf0_0, .ref qf0_1, .ref qf0_2, .int v0_3, .ref qf0_4, .ref qf0_5, .ref qf0_6, .ref qf0_7, .ref qf0_8, .int v0_9, .int u10_0, .int u10_1, .int u10_2])), (qf0_0, .inl (cf0_0, 3001, .inl f0_0)), (qf0_1, .inl (cf0_1, 3001, .inl f0_1))] := hD
      replace hK : va_K (dC, dI) vwCl [(cf0_0, .int), (cf0_1, .int)] s := hK
      have hr0 := Option.some.inj hsp
      clear hsp
      obtain ⟨hq0, hr1⟩ := Prod.mk.inj hr0
      clear hr0
      obtain ⟨hq1, hr2⟩ := Prod.mk.inj hr1
      clear hr1
      subst hq0
      subst hq1
      subst hr2
      have hP9 := hP.sub (ws' := [(h0, .inr (8, [.ref qf0, .ref qf1])), (qf0, .inr (9, [.ref qf0_0, .ref qf0_1, .ref qf0_2, .int v0_3, .ref qf0_4, .ref qf0_5, .ref qf0_6, .ref qf0_7, .ref qf0_8, .int v0_9, .int u10_0, .int u10_1, .int u10_2])), (qf0_0, .inl (cf0_0, 3001, .inl f0_0)), (qf0_1, .inl (cf0_1, 3001, .inl f0_1))]) [0, 1, 2, 3] rfl
      have hD9 := hD.sub (ws' := [(h0, .inr (8, [.ref qf0, .ref qf1])), (qf0, .inr (9, [.ref qf0_0, .ref qf0_1, .ref qf0_2, .int v0_3, .ref qf0_4, .ref qf0_5, .ref qf0_6, .ref qf0_7, .ref qf0_8, .int v0_9, .int u10_0, .int u10_1, .int u10_2])), (qf0_0, .inl (cf0_0, 3001, .inl f0_0)), (qf0_1, .inl (cf0_1, 3001, .inl f0_1))]) [0, 1, 2, 3] (by decide) rfl
      have hK9 := hK.sub (tys' := [(cf0_0, .int), (cf0_1, .int)]) [0, 1] rfl
      exact W.vret hx hb hr (fun t ht hW => ⟨⟨(), rfl, trivial, by rw [ht]; exact hP9, va_K.moved hW.alike hK9, hD9⟩, hS.F ht⟩) hS.2.2 dX8_readValue_117
  intro hj_88
  refine lv_aload_n hx hb dX8_readValue_0 rfl (lv_at hl 0 rfl) ?_
  refine lv_iload_n hx hb dX8_readValue_1 rfl (lv_at hl 1 rfl) ?_
  obtain ⟨⟨u1_0, u1_1, u1_2⟩, hu_1, hsp⟩ := ox_bind hsp
  try dsimp only at hsp
  have hPc := hP.sub (ws' := [(h0, .inr (8, [.ref qf0, .ref qf1])), (qf0, .inr (9, [.ref qf0_0, .ref qf0_1, .ref qf0_2, .int v0_3, .ref qf0_4, .ref qf0_5, .ref qf0_6, .ref qf0_7, .ref qf0_8, .int v0_9, .int v0_10, .int v0_11, .int v0_12])), (qf0_0, .inl (cf0_0, 3001, .inl f0_0)), (qf0_1, .inl (cf0_1, 3001, .inl f0_1))]) [0, 1, 2, 3] rfl
  have hDc := hD.sub (ws' := [(h0, .inr (8, [.ref qf0, .ref qf1])), (qf0, .inr (9, [.ref qf0_0, .ref qf0_1, .ref qf0_2, .int v0_3, .ref qf0_4, .ref qf0_5, .ref qf0_6, .ref qf0_7, .ref qf0_8, .int v0_9, .int v0_10, .int v0_11, .int v0_12])), (qf0_0, .inl (cf0_0, 3001, .inl f0_0)), (qf0_1, .inl (cf0_1, 3001, .inl f0_1))]) [0, 1, 2, 3] (by decide) rfl
  have hKc := hK.sub (tys' := [(cf0_0, .int), (cf0_1, .int)]) [0, 1] rfl
  have hFc := va_free (wc := [(h0, .inr (8, [.ref qf0, .ref qf1])), (qf0, .inr (9, [.ref qf0_0, .ref qf0_1, .ref qf0_2, .int v0_3, .ref qf0_4, .ref qf0_5, .ref qf0_6, .ref qf0_7, .ref qf0_8, .int v0_9, .int v0_10, .int v0_11, .int v0_12])), (qf0_0, .inl (cf0_0, 3001, .inl f0_0)), (qf0_1, .inl (cf0_1, 3001, .inl f0_1))]) hD hS hA [0, 1, 2, 3] rfl
  refine va_calli (va_runV (As := [.int a1]) (rest := []) ⟨hx, hb, hml, hown, hts⟩ (t8_tooDeep l dC dI H.size h0 a1 qf0 qf1 qf0_0 qf0_1 qf0_2 v0_3 qf0_4 qf0_5 qf0_6 qf0_7 qf0_8 v0_9 v0_10 v0_11 v0_12 cf0_0 f0_0 cf0_1 f0_1 nf u1_0 u1_1 u1_2 hu_1) (cwV 1 hts gv_h8_19 rfl rfl rfl (by decide +kernel) ⟨by dsimp only [headSpec]; omega, by dsimp only [headSpec]; omega⟩) ⟨fun a U g mk q => by obtain ⟨q0, q1, qP, qK, qD⟩ := q; exact ⟨q0, q1, qP, va_K.moved (u := U) (U := U.calling g mk a) (Vm.Alike.refl U.vm) qK, qD⟩, va_recv hKc hPc (ci := 8) (q0 := 0) rfl rfl, fun U hU hW => ⟨rfl, by rw [hU], by rw [hU]; exact hPc, va_K.moved hW.alike hKc, hDc.weaken (fun _ _ _ _ => trivial)⟩⟩ rfl rfl hl.1 rfl (lv_room (Nat.le_of_ble_eq_true rfl)) dX8_readValue_2 ⟨Nat.le_of_ble_eq_true rfl, Nat.le_of_ble_eq_true rfl⟩) hS (fun q _ h => hFc q h) hFc ?_
  clear hS
  intro r_1 u t H1 locs ht hvm hw hB hz1 hk1 hS
  obtain ⟨⟩ := u
  obtain ⟨hP1, hK1, hD1⟩ := hB
  rw [ht] at hP1
  have hK1 := va_K.moved hvm.symm hK1
  try dsimp only at hw
  have hPD := va_join (wr := []) (w1 := [(h0, .inr (8, [.ref qf0, .ref qf1])), (qf0, .inr (9, [.ref qf0_0, .ref qf0_1, .ref qf0_2, .int v0_3, .ref qf0_4, .ref qf0_5, .ref qf0_6, .ref qf0_7, .ref qf0_8, .int v0_9, .int v0_10, .int u1_1, .int u1_2])), (qf0_0, .inl (cf0_0, 3001, .inl f0_0)), (qf0_1, .inl (cf0_1, 3001, .inl f0_1))]) hP hD [0, 1, 2, 3] [] rfl rfl (by decide) (by decide) hk1 hFc hP1 hD1
  clear hP hD
  obtain ⟨hP, hD⟩ := hPD
  replace hK := (hK.sub (tys' := []) [] rfl).app hK1
  clear hPc hDc hKc hFc hP1 hK1 hD1 hz1 hk1 ht hvm
  generalize H1 = H at hP hS ⊢
  replace hP : va_P (dC, dI) vwCl [(h0, .inr (8, [.ref qf0, .ref qf1])), (qf0, .inr (9, [.ref qf0_0, .ref qf0_1, .ref qf0_2, .int v0_3, .ref qf0_4, .ref qf0_5, .ref qf0_6, .ref qf0_7, .ref qf0_8, .int v0_9, .int v0_10, .int u1_1, .int u1_2])), (qf0_0, .inl (cf0_0, 3001, .inl f0_0)), (qf0_1, .inl (cf0_1, 3001, .inl f0_1))] H := hP
  replace hD : va_D A [(h0, .inr (8, [.ref qf0, .ref qf1])), (qf0, .inr (9, [.ref qf0_0, .ref qf0_1, .ref qf0_2, .int v0_3, .ref qf0_4, .ref qf0_5, .ref qf0_6, .ref qf0_7, .ref qf0_8, .int v0_9, .int v0_10, .int u1_1, .int u1_2])), (qf0_0, .inl (cf0_0, 3001, .inl f0_0)), (qf0_1, .inl (cf0_1, 3001, .inl f0_1))] := hD
  replace hK : va_K (dC, dI) vwCl [(cf0_0, .int), (cf0_1, .int)] s := hK
  obtain ⟨rfl, hz_1⟩ := hw
  rcases hz_1 with rfl | rfl
  · rw [if_pos rfl] at hsp
    refine lv_if_eq (tgt := 9) hx hb dX8_readValue_5 (by decide) (fun c_2 => ?_) (fun c_2 => (show False by revert c_2; decide).elim)
    refine lv_iconst (v := 1) hx hb dX8_readValue_9 (by decide) ?_
    refine lv_istore_n (lv' := [(2, .int 1), (0, .ref h0), (1, .int a1)]) hx hb dX8_readValue_10 rfl hl (by decide) rfl (fun ls hl => ?_)
    refine lv_aload_n hx hb dX8_readValue_11 rfl (lv_at hl 1 rfl) ?_
    refine lv_iload_n hx hb dX8_readValue_12 rfl (lv_at hl 2 rfl) ?_
    refine lv_iconst (v := 1) hx hb dX8_readValue_13 (by decide) ?_
    refine lv_iadd hx hb dX8_readValue_14 ?_
    obtain ⟨⟨u2_0, u2_1, u2_2⟩, hu_2, hsp⟩ := ox_bind hsp
    try dsimp only at hsp
    have hPc := hP.sub (ws' := [(h0, .inr (8, [.ref qf0, .ref qf1])), (qf0, .inr (9, [.ref qf0_0, .ref qf0_1, .ref qf0_2, .int v0_3, .ref qf0_4, .ref qf0_5, .ref qf0_6, .ref qf0_7, .ref qf0_8, .int v0_9, .int v0_10, .int u1_1, .int u1_2])), (qf0_0, .inl (cf0_0, 3001, .inl f0_0)), (qf0_1, .inl (cf0_1, 3001, .inl f0_1))]) [0, 1, 2, 3] rfl
    have hDc := hD.sub (ws' := [(h0, .inr (8, [.ref qf0, .ref qf1])), (qf0, .inr (9, [.ref qf0_0, .ref qf0_1, .ref qf0_2, .int v0_3, .ref qf0_4, .ref qf0_5, .ref qf0_6, .ref qf0_7, .ref qf0_8, .int v0_9, .int v0_10, .int u1_1, .int u1_2])), (qf0_0, .inl (cf0_0, 3001, .inl f0_0)), (qf0_1, .inl (cf0_1, 3001, .inl f0_1))]) [0, 1, 2, 3] (by decide) rfl
    have hKc := hK.sub (tys' := [(cf0_0, .int), (cf0_1, .int)]) [0, 1] rfl
    have hFc := va_free (wc := [(h0, .inr (8, [.ref qf0, .ref qf1])), (qf0, .inr (9, [.ref qf0_0, .ref qf0_1, .ref qf0_2, .int v0_3, .ref qf0_4, .ref qf0_5, .ref qf0_6, .ref qf0_7, .ref qf0_8, .int v0_9, .int v0_10, .int u1_1, .int u1_2])), (qf0_0, .inl (cf0_0, 3001, .inl f0_0)), (qf0_1, .inl (cf0_1, 3001, .inl f0_1))]) hD hS hA [0, 1, 2, 3] rfl
    refine va_callv (va_runV (As := [.int (a1 + 1)]) (rest := []) ⟨hx, hb, hml, hown, hts⟩ (ih_1 l dC dI H.size h0 ((a1 + 1)) qf0 qf1 qf0_0 qf0_1 qf0_2 v0_3 qf0_4 qf0_5 qf0_6 qf0_7 qf0_8 v0_9 v0_10 u1_1 u1_2 cf0_0 f0_0 cf0_1 f0_1 nf u2_0 u2_1 u2_2 hu_2) (cwV 1 hts gv_h8_20 rfl rfl rfl (by decide +kernel) ⟨by dsimp only [headSpec]; omega, by dsimp only [headSpec]; omega⟩) ⟨fun a U g mk q => by obtain ⟨q0, q1, qP, qK, qD⟩ := q; exact ⟨q0, q1, qP, va_K.moved (u := U) (U := U.calling g mk a) (Vm.Alike.refl U.vm) qK, qD⟩, va_recv hKc hPc (ci := 8) (q0 := 0) rfl rfl, fun U hU hW => ⟨rfl, by rw [hU], by rw [hU]; exact hPc, va_K.moved hW.alike hKc, hDc.weaken (fun _ _ _ _ => trivial)⟩⟩ rfl rfl hl.1 rfl (lv_room (Nat.le_of_ble_eq_true rfl)) dX8_readValue_15 ⟨Nat.le_of_ble_eq_true rfl, Nat.le_of_ble_eq_true rfl⟩) hS (fun q _ h => hFc q h) hFc ?_
    clear hS
    intro u t H1 locs ht hvm hw hB hz1 hk1 hS
    obtain ⟨⟩ := u
    obtain ⟨hP1, hK1, hD1⟩ := hB
    rw [ht] at hP1
    have hK1 := va_K.moved hvm.symm hK1
    try dsimp only at hw
    have hPD := va_join (wr := []) (w1 := [(h0, .inr (8, [.ref qf0, .ref qf1])), (qf0, .inr (9, [.ref qf0_0, .ref qf0_1, .ref qf0_2, .int v0_3, .ref qf0_4, .ref qf0_5, .ref qf0_6, .ref qf0_7, .ref qf0_8, .int v0_9, .int u2_0, .int u2_1, .int u2_2])), (qf0_0, .inl (cf0_0, 3001, .inl f0_0)), (qf0_1, .inl (cf0_1, 3001, .inl f0_1))]) hP hD [0, 1, 2, 3] [] rfl rfl (by decide) (by decide) hk1 hFc hP1 hD1
    clear hP hD
    obtain ⟨hP, hD⟩ := hPD
    replace hK := (hK.sub (tys' := []) [] rfl).app hK1
    clear hPc hDc hKc hFc hP1 hK1 hD1 hz1 hk1 ht hvm
    generalize H1 = H at hP hS ⊢
    replace hP : va_P (dC, dI) vwCl [(h0, .inr (8, [.ref qf0, .ref qf1])), (qf0, .inr (9, [.ref qf0_0, .ref qf0_1, .ref qf0_2, .int v0_3, .ref qf0_4, .ref qf0_5, .ref qf0_6, .ref qf0_7, .ref qf0_8, .int v0_9, .int u2_0, .int u2_1, .int u2_2])), (qf0_0, .inl (cf0_0, 3001, .inl f0_0)), (qf0_1, .inl (cf0_1, 3001, .inl f0_1))] H := hP
    replace hD : va_D A [(h0, .inr (8, [.ref qf0, .ref qf1])), (qf0, .inr (9, [.ref qf0_0, .ref qf0_1, .ref qf0_2, .int v0_3, .ref qf0_4, .ref qf0_5, .ref qf0_6, .ref qf0_7, .ref qf0_8, .int v0_9, .int u2_0, .int u2_1, .int u2_2])), (qf0_0, .inl (cf0_0, 3001, .inl f0_0)), (qf0_1, .inl (cf0_1, 3001, .inl f0_1))] := hD
    replace hK : va_K (dC, dI) vwCl [(cf0_0, .int), (cf0_1, .int)] s := hK
    refine lv_iconst (v := 0) hx hb dX8_readValue_18 (by decide) ?_
    refine lv_istore_n (lv' := [(3, .int 0), (2, .int 1), (0, .ref h0), (1, .int a1)]) hx hb dX8_readValue_19 rfl hl (by decide) rfl (fun ls hl => ?_)
    replace hl : lv_has ls 4 [(3, .int 0), (2, .int 1), (0, .ref h0), (1, .int a1)] := lv_sub hl [0, 1, 2, 3] rfl
    replace hP := hP.sub (ws' := [(h0, .inr (8, [.ref qf0, .ref qf1])), (qf0, .inr (9, [.ref qf0_0, .ref qf0_1, .ref qf0_2, .int v0_3, .ref qf0_4, .ref qf0_5, .ref qf0_6, .ref qf0_7, .ref qf0_8, .int v0_9, .int u2_0, .int u2_1, .int u2_2])), (qf0_0, .inl (cf0_0, 3001, .inl f0_0)), (qf0_1, .inl (cf0_1, 3001, .inl f0_1))]) [0, 1, 2, 3] rfl
    replace hD := hD.sub (ws' := [(h0, .inr (8, [.ref qf0, .ref qf1])), (qf0, .inr (9, [.ref qf0_0, .ref qf0_1, .ref qf0_2, .int v0_3, .ref qf0_4, .ref qf0_5, .ref qf0_6, .ref qf0_7, .ref qf0_8, .int v0_9, .int u2_0, .int u2_1, .int u2_2])), (qf0_0, .inl (cf0_0, 3001, .inl f0_0)), (qf0_1, .inl (cf0_1, 3001, .inl f0_1))]) [0, 1, 2, 3] (by decide) rfl
    replace hK := hK.sub (tys' := [(cf0_0, .int), (cf0_1, .int)]) [0, 1] rfl
    obtain ⟨n_20, hn_20⟩ : ∃ z : Nat, z = nf := ⟨_, rfl⟩
    obtain ⟨l1_20, el1_20⟩ : ∃ z : Int32, z = a1 := ⟨_, rfl⟩
    obtain ⟨l2_20, el2_20⟩ : ∃ z : Int32, z = 1 := ⟨_, rfl⟩
    obtain ⟨l3_20, el3_20⟩ : ∃ z : Int32, z = 0 := ⟨_, rfl⟩
    obtain ⟨x0_10_20, ex0_10_20⟩ : ∃ z : Int32, z = u2_0 := ⟨_, rfl⟩
    obtain ⟨x0_11_20, ex0_11_20⟩ : ∃ z : Int32, z = u2_1 := ⟨_, rfl⟩
    obtain ⟨x0_12_20, ex0_12_20⟩ : ∃ z : Int32, z = u2_2 := ⟨_, rfl⟩
    replace hsp : lp_v8_readValue_20 nf n_20 rc a1 v0_3 v0_10 v0_11 v0_12 f0_0 f0_1 l1_20 l2_20 l3_20 x0_10_20 x0_11_20 x0_12_20 = some (w0_10, w0_11, w0_12) := by rw [hn_20, el1_20, el2_20, el3_20, ex0_10_20, ex0_11_20, ex0_12_20]; exact hsp
    replace hl : lv_has ls 4 [(3, .int l3_20), (2, .int l2_20), (0, .ref h0), (1, .int l1_20)] := by rw [el1_20, el2_20, el3_20]; exact hl
    replace hP : va_P (dC, dI) vwCl [(h0, .inr (8, [.ref qf0, .ref qf1])), (qf0, .inr (9, [.ref qf0_0, .ref qf0_1, .ref qf0_2, .int v0_3, .ref qf0_4, .ref qf0_5, .ref qf0_6, .ref qf0_7, .ref qf0_8, .int v0_9, .int x0_10_20, .int x0_11_20, .int x0_12_20])), (qf0_0, .inl (cf0_0, 3001, .inl f0_0)), (qf0_1, .inl (cf0_1, 3001, .inl f0_1))] H := by rw [ex0_10_20, ex0_11_20, ex0_12_20]; exact hP
    replace hD : va_D A [(h0, .inr (8, [.ref qf0, .ref qf1])), (qf0, .inr (9, [.ref qf0_0, .ref qf0_1, .ref qf0_2, .int v0_3, .ref qf0_4, .ref qf0_5, .ref qf0_6, .ref qf0_7, .ref qf0_8, .int v0_9, .int x0_10_20, .int x0_11_20, .int x0_12_20])), (qf0_0, .inl (cf0_0, 3001, .inl f0_0)), (qf0_1, .inl (cf0_1, 3001, .inl f0_1))] := by rw [ex0_10_20, ex0_11_20, ex0_12_20]; exact hD
    clear hn_20 el1_20 el2_20 el3_20 ex0_10_20 ex0_11_20 ex0_12_20
    try clear hlo
    try clear hH
    revert hsp
    revert hP
    revert hD
    revert hS
    revert hl
    revert x0_12_20
    revert x0_11_20
    revert x0_10_20
    revert l3_20
    revert l2_20
    revert l1_20
    revert ls
    revert locs
    revert H
    induction n_20 with
    | zero => intro H locs ls l1_20 l2_20 l3_20 x0_10_20 x0_11_20 x0_12_20  hl hS hD hP hsp; unfold lp_v8_readValue_20 at hsp; cases hsp
    | succ n_20 ih_20 =>
      intro H locs ls l1_20 l2_20 l3_20 x0_10_20 x0_11_20 x0_12_20  hl hS hD hP hsp
      unfold lp_v8_readValue_20 at hsp
      try dsimp only at hsp
      refine jn_use (α := Heap × List Loc × Array Slot × Int32 × Int32 × Int32 × Int32 × Int32 × Int32) (fun x9 => x9.1) (fun x9 => x9.2.1) (fun x9 => F0 m 49 x9.2.2.1 [.int (x9.2.2.2.2.2.1)]) (fun x9 => match x9 with | (H, locs, ls, l1_49, l3_49, s0_49, x0_10_49, x0_11_49, x0_12_49) => lv_has ls 4 [(0, .ref h0), (1, .int l1_49), (3, .int l3_49)] ∧ va_S A s.heap H locs ∧ va_D A [(h0, .inr (8, [.ref qf0, .ref qf1])), (qf0, .inr (9, [.ref qf0_0, .ref qf0_1, .ref qf0_2, .int v0_3, .ref qf0_4, .ref qf0_5, .ref qf0_6, .ref qf0_7, .ref qf0_8, .int v0_9, .int x0_10_49, .int x0_11_49, .int x0_12_49])), (qf0_0, .inl (cf0_0, 3001, .inl f0_0)), (qf0_1, .inl (cf0_1, 3001, .inl f0_1))] ∧ va_P (dC, dI) vwCl [(h0, .inr (8, [.ref qf0, .ref qf1])), (qf0, .inr (9, [.ref qf0_0, .ref qf0_1, .ref qf0_2, .int v0_3, .ref qf0_4, .ref qf0_5, .ref qf0_6, .ref qf0_7, .ref qf0_8, .int v0_9, .int x0_10_49, .int x0_11_49, .int x0_12_49])), (qf0_0, .inl (cf0_0, 3001, .inl f0_0)), (qf0_1, .inl (cf0_1, 3001, .inl f0_1))] H ∧ jn_v8_readValue_49 nf rc a1 v0_3 v0_10 v0_11 v0_12 f0_0 f0_1 (lp_v8_readValue_20 nf n_20 rc a1 v0_3 v0_10 v0_11 v0_12 f0_0 f0_1) l1_49 l3_49 s0_49 x0_10_49 x0_11_49 x0_12_49 = some (w0_10, w0_11, w0_12)) ?_ ?_
      · intro x9 hJ9
        obtain ⟨H, locs, ls, l1_49, l3_49, s0_49, x0_10_49, x0_11_49, x0_12_49⟩ := x9
        obtain ⟨hl, hS, hD, hP, hsp⟩ := hJ9
        replace hl : lv_has ls 4 [(0, .ref h0), (1, .int l1_49), (3, .int l3_49)] := hl
        replace hS : va_S A s.heap H locs := hS
        replace hD : va_D A [(h0, .inr (8, [.ref qf0, .ref qf1])), (qf0, .inr (9, [.ref qf0_0, .ref qf0_1, .ref qf0_2, .int v0_3, .ref qf0_4, .ref qf0_5, .ref qf0_6, .ref qf0_7, .ref qf0_8, .int v0_9, .int x0_10_49, .int x0_11_49, .int x0_12_49])), (qf0_0, .inl (cf0_0, 3001, .inl f0_0)), (qf0_1, .inl (cf0_1, 3001, .inl f0_1))] := hD
        replace hP : va_P (dC, dI) vwCl [(h0, .inr (8, [.ref qf0, .ref qf1])), (qf0, .inr (9, [.ref qf0_0, .ref qf0_1, .ref qf0_2, .int v0_3, .ref qf0_4, .ref qf0_5, .ref qf0_6, .ref qf0_7, .ref qf0_8, .int v0_9, .int x0_10_49, .int x0_11_49, .int x0_12_49])), (qf0_0, .inl (cf0_0, 3001, .inl f0_0)), (qf0_1, .inl (cf0_1, 3001, .inl f0_1))] H := hP
        replace hsp : jn_v8_readValue_49 nf rc a1 v0_3 v0_10 v0_11 v0_12 f0_0 f0_1 (lp_v8_readValue_20 nf n_20 rc a1 v0_3 v0_10 v0_11 v0_12 f0_0 f0_1) l1_49 l3_49 s0_49 x0_10_49 x0_11_49 x0_12_49 = some (w0_10, w0_11, w0_12) := hsp
        show W _ _ _ _ _ _ _ _ _ _ H locs _ _ _ (F0 m 49 ls [.int s0_49])
        unfold jn_v8_readValue_49 at hsp
        try dsimp only at hsp
        refine lv_istore_n (lv' := [(2, .int s0_49), (0, .ref h0), (1, .int l1_49), (3, .int l3_49)]) hx hb dX8_readValue_49 rfl hl (by decide) rfl (fun ls hl => ?_)
        refine lv_iload_n hx hb dX8_readValue_50 rfl (lv_at hl 0 rfl) ?_
        refine lv_if_eq (tgt := 77) hx hb dX8_readValue_51 (by decide) (fun c_10 => ?_) (fun c_10 => ?_)
        · rw [if_pos c_10] at hsp
          refine lv_aload_n hx hb dX8_readValue_77 rfl (lv_at hl 1 rfl) ?_
          refine lv_iconst (v := 2) hx hb dX8_readValue_78 (by decide) ?_
          obtain ⟨⟨u5_0, u5_1, u5_2⟩, hu_5, hsp⟩ := ox_bind hsp
          try dsimp only at hsp
          have hPc := hP.sub (ws' := [(h0, .inr (8, [.ref qf0, .ref qf1])), (qf0, .inr (9, [.ref qf0_0, .ref qf0_1, .ref qf0_2, .int v0_3, .ref qf0_4, .ref qf0_5, .ref qf0_6, .ref qf0_7, .ref qf0_8, .int v0_9, .int x0_10_49, .int x0_11_49, .int x0_12_49])), (qf0_0, .inl (cf0_0, 3001, .inl f0_0)), (qf0_1, .inl (cf0_1, 3001, .inl f0_1))]) [0, 1, 2, 3] rfl
          have hDc := hD.sub (ws' := [(h0, .inr (8, [.ref qf0, .ref qf1])), (qf0, .inr (9, [.ref qf0_0, .ref qf0_1, .ref qf0_2, .int v0_3, .ref qf0_4, .ref qf0_5, .ref qf0_6, .ref qf0_7, .ref qf0_8, .int v0_9, .int x0_10_49, .int x0_11_49, .int x0_12_49])), (qf0_0, .inl (cf0_0, 3001, .inl f0_0)), (qf0_1, .inl (cf0_1, 3001, .inl f0_1))]) [0, 1, 2, 3] (by decide) rfl
          have hKc := hK.sub (tys' := [(cf0_0, .int), (cf0_1, .int)]) [0, 1] rfl
          have hFc := va_free (wc := [(h0, .inr (8, [.ref qf0, .ref qf1])), (qf0, .inr (9, [.ref qf0_0, .ref qf0_1, .ref qf0_2, .int v0_3, .ref qf0_4, .ref qf0_5, .ref qf0_6, .ref qf0_7, .ref qf0_8, .int v0_9, .int x0_10_49, .int x0_11_49, .int x0_12_49])), (qf0_0, .inl (cf0_0, 3001, .inl f0_0)), (qf0_1, .inl (cf0_1, 3001, .inl f0_1))]) hD hS hA [0, 1, 2, 3] rfl
          refine va_callv (va_runV (As := [.int 2]) (rest := []) ⟨hx, hb, hml, hown, hts⟩ (t8_need l dC dI H.size h0 2 qf0 qf1 qf0_0 qf0_1 qf0_2 v0_3 qf0_4 qf0_5 qf0_6 qf0_7 qf0_8 v0_9 x0_10_49 x0_11_49 x0_12_49 cf0_0 f0_0 cf0_1 f0_1 nf u5_0 u5_1 u5_2 hu_5) (cwV 1 hts gv_h8_23 rfl rfl rfl (by decide +kernel) ⟨by dsimp only [headSpec]; omega, by dsimp only [headSpec]; omega⟩) ⟨fun a U g mk q => by obtain ⟨q0, q1, qP, qK, qD⟩ := q; exact ⟨q0, q1, qP, va_K.moved (u := U) (U := U.calling g mk a) (Vm.Alike.refl U.vm) qK, qD⟩, va_recv hKc hPc (ci := 8) (q0 := 0) rfl rfl, fun U hU hW => ⟨rfl, by rw [hU], by rw [hU]; exact hPc, va_K.moved hW.alike hKc, hDc.weaken (fun _ _ _ _ => trivial)⟩⟩ rfl rfl hl.1 rfl (lv_room (Nat.le_of_ble_eq_true rfl)) dX8_readValue_79 ⟨Nat.le_of_ble_eq_true rfl, Nat.le_of_ble_eq_true rfl⟩) hS (fun q _ h => hFc q h) hFc ?_
          clear hS
          intro u t H1 locs ht hvm hw hB hz1 hk1 hS
          obtain ⟨⟩ := u
          obtain ⟨hP1, hK1, hD1⟩ := hB
          rw [ht] at hP1
          have hK1 := va_K.moved hvm.symm hK1
          try dsimp only at hw
          have hPD := va_join (wr := []) (w1 := [(h0, .inr (8, [.ref qf0, .ref qf1])), (qf0, .inr (9, [.ref qf0_0, .ref qf0_1, .ref qf0_2, .int v0_3, .ref qf0_4, .ref qf0_5, .ref qf0_6, .ref qf0_7, .ref qf0_8, .int v0_9, .int u5_0, .int u5_1, .int u5_2])), (qf0_0, .inl (cf0_0, 3001, .inl f0_0)), (qf0_1, .inl (cf0_1, 3001, .inl f0_1))]) hP hD [0, 1, 2, 3] [] rfl rfl (by decide) (by decide) hk1 hFc hP1 hD1
          clear hP hD
          obtain ⟨hP, hD⟩ := hPD
          replace hK := (hK.sub (tys' := []) [] rfl).app hK1
          clear hPc hDc hKc hFc hP1 hK1 hD1 hz1 hk1 ht hvm
          generalize H1 = H at hP hS ⊢
          replace hP : va_P (dC, dI) vwCl [(h0, .inr (8, [.ref qf0, .ref qf1])), (qf0, .inr (9, [.ref qf0_0, .ref qf0_1, .ref qf0_2, .int v0_3, .ref qf0_4, .ref qf0_5, .ref qf0_6, .ref qf0_7, .ref qf0_8, .int v0_9, .int u5_0, .int u5_1, .int u5_2])), (qf0_0, .inl (cf0_0, 3001, .inl f0_0)), (qf0_1, .inl (cf0_1, 3001, .inl f0_1))] H := hP
          replace hD : va_D A [(h0, .inr (8, [.ref qf0, .ref qf1])), (qf0, .inr (9, [.ref qf0_0, .ref qf0_1, .ref qf0_2, .int v0_3, .ref qf0_4, .ref qf0_5, .ref qf0_6, .ref qf0_7, .ref qf0_8, .int v0_9, .int u5_0, .int u5_1, .int u5_2])), (qf0_0, .inl (cf0_0, 3001, .inl f0_0)), (qf0_1, .inl (cf0_1, 3001, .inl f0_1))] := hD
          replace hK : va_K (dC, dI) vwCl [(cf0_0, .int), (cf0_1, .int)] s := hK
          refine lv_iinc (v := (l3_49 + 1)) (lv' := [(3, .int (l3_49 + 1)), (2, .int s0_49), (0, .ref h0), (1, .int l1_49)]) hx hb dX8_readValue_82 hl (k := 3) rfl rfl (by decide) rfl (fun ls hl => ?_)
          refine lv_goto (tgt := 20) hx hb dX8_readValue_85 (by decide) ?_
          exact ih_20 H locs ls l1_49 s0_49 (l3_49 + 1) u5_0 u5_1 u5_2 (lv_sub hl [0, 1, 2, 3] rfl) hS (hD.sub (ws' := [(h0, .inr (8, [.ref qf0, .ref qf1])), (qf0, .inr (9, [.ref qf0_0, .ref qf0_1, .ref qf0_2, .int v0_3, .ref qf0_4, .ref qf0_5, .ref qf0_6, .ref qf0_7, .ref qf0_8, .int v0_9, .int u5_0, .int u5_1, .int u5_2])), (qf0_0, .inl (cf0_0, 3001, .inl f0_0)), (qf0_1, .inl (cf0_1, 3001, .inl f0_1))]) [0, 1, 2, 3] (by decide) rfl) (hP.sub (ws' := [(h0, .inr (8, [.ref qf0, .ref qf1])), (qf0, .inr (9, [.ref qf0_0, .ref qf0_1, .ref qf0_2, .int v0_3, .ref qf0_4, .ref qf0_5, .ref qf0_6, .ref qf0_7, .ref qf0_8, .int v0_9, .int u5_0, .int u5_1, .int u5_2])), (qf0_0, .inl (cf0_0, 3001, .inl f0_0)), (qf0_1, .inl (cf0_1, 3001, .inl f0_1))]) [0, 1, 2, 3] rfl) hsp
        · rw [if_neg c_10] at hsp
          refine lv_aload_n hx hb dX8_readValue_54 rfl (lv_at hl 1 rfl) ?_
          refine va_get (D := (dC, dI)) (ci := 8) (v := .ref qf0) (C := RX8) (T := TX8) (N := 2) hx hb hts uV_h8_X8 hown hK hP 0 rfl rfl 0 (by decide) (hts (.fieldLink RX8 7 "ClassMill$Syntax" "text" "LClassMill$Text;") mw_h8_135) (fun _ h9 => h9) rfl dX8_readValue_55 ?_
          refine lv_dup hx hb dX8_readValue_58 rfl ?_
          refine va_get (D := (dC, dI)) (ci := 9) (v := .int x0_10_49) (C := RX9) (T := TX9) (N := 13) hx hb hts uV_h8_X9 hown hK hP 1 rfl rfl 10 (by decide) (hts (.fieldLink RX8 30 "ClassMill$Text" "pos" "I") mw_h8_136) (fun _ h9 => h9) rfl dX8_readValue_59 ?_
          refine lv_iconst (v := 1) hx hb dX8_readValue_62 (by decide) ?_
          refine lv_iadd hx hb dX8_readValue_63 ?_
          refine va_put (D := (dC, dI)) (ci := 9) (v := .int (x0_10_49 + 1)) (ty := .int) (C := RX9) (T := TX9) (N := 13) hx hb hts uV_h8_X9 tyX9 tyX9_ok nmX9 hown hK hP hD hS 1 rfl rfl 10 (by decide) (hts (.fieldLink RX8 30 "ClassMill$Text" "pos" "I") mw_h8_136) (fun _ h9 => h9) rfl (by decide +kernel) rfl rfl (Nat.le_of_ble_eq_true rfl) dX8_readValue_64 ?_
          clear hP hD hS
          intro H locs hP hD hS
          replace hP : va_P (dC, dI) vwCl [(h0, .inr (8, [.ref qf0, .ref qf1])), (qf0, .inr (9, [.ref qf0_0, .ref qf0_1, .ref qf0_2, .int v0_3, .ref qf0_4, .ref qf0_5, .ref qf0_6, .ref qf0_7, .ref qf0_8, .int v0_9, .int (x0_10_49 + 1), .int x0_11_49, .int x0_12_49])), (qf0_0, .inl (cf0_0, 3001, .inl f0_0)), (qf0_1, .inl (cf0_1, 3001, .inl f0_1))] H := hP
          replace hD : va_D A [(h0, .inr (8, [.ref qf0, .ref qf1])), (qf0, .inr (9, [.ref qf0_0, .ref qf0_1, .ref qf0_2, .int v0_3, .ref qf0_4, .ref qf0_5, .ref qf0_6, .ref qf0_7, .ref qf0_8, .int v0_9, .int (x0_10_49 + 1), .int x0_11_49, .int x0_12_49])), (qf0_0, .inl (cf0_0, 3001, .inl f0_0)), (qf0_1, .inl (cf0_1, 3001, .inl f0_1))] := hD
          refine lv_aload_n hx hb dX8_readValue_67 rfl (lv_at hl 1 rfl) ?_
          refine lv_iload_n hx hb dX8_readValue_68 rfl (lv_at hl 2 rfl) ?_
          refine lv_iconst (v := 1) hx hb dX8_readValue_69 (by decide) ?_
          refine lv_iadd hx hb dX8_readValue_70 ?_
          obtain ⟨⟨u6_0, u6_1, u6_2⟩, hu_6, hsp⟩ := ox_bind hsp
          try dsimp only at hsp
          have hPc := hP.sub (ws' := [(h0, .inr (8, [.ref qf0, .ref qf1])), (qf0, .inr (9, [.ref qf0_0, .ref qf0_1, .ref qf0_2, .int v0_3, .ref qf0_4, .ref qf0_5, .ref qf0_6, .ref qf0_7, .ref qf0_8, .int v0_9, .int (x0_10_49 + 1), .int x0_11_49, .int x0_12_49])), (qf0_0, .inl (cf0_0, 3001, .inl f0_0)), (qf0_1, .inl (cf0_1, 3001, .inl f0_1))]) [0, 1, 2, 3] rfl
          have hDc := hD.sub (ws' := [(h0, .inr (8, [.ref qf0, .ref qf1])), (qf0, .inr (9, [.ref qf0_0, .ref qf0_1, .ref qf0_2, .int v0_3, .ref qf0_4, .ref qf0_5, .ref qf0_6, .ref qf0_7, .ref qf0_8, .int v0_9, .int (x0_10_49 + 1), .int x0_11_49, .int x0_12_49])), (qf0_0, .inl (cf0_0, 3001, .inl f0_0)), (qf0_1, .inl (cf0_1, 3001, .inl f0_1))]) [0, 1, 2, 3] (by decide) rfl
          have hKc := hK.sub (tys' := [(cf0_0, .int), (cf0_1, .int)]) [0, 1] rfl
          have hFc := va_free (wc := [(h0, .inr (8, [.ref qf0, .ref qf1])), (qf0, .inr (9, [.ref qf0_0, .ref qf0_1, .ref qf0_2, .int v0_3, .ref qf0_4, .ref qf0_5, .ref qf0_6, .ref qf0_7, .ref qf0_8, .int v0_9, .int (x0_10_49 + 1), .int x0_11_49, .int x0_12_49])), (qf0_0, .inl (cf0_0, 3001, .inl f0_0)), (qf0_1, .inl (cf0_1, 3001, .inl f0_1))]) hD hS hA [0, 1, 2, 3] rfl
          refine va_callv (va_runV (As := [.int (l1_49 + 1)]) (rest := []) ⟨hx, hb, hml, hown, hts⟩ (ih_1 l dC dI H.size h0 ((l1_49 + 1)) qf0 qf1 qf0_0 qf0_1 qf0_2 v0_3 qf0_4 qf0_5 qf0_6 qf0_7 qf0_8 v0_9 ((x0_10_49 + 1)) x0_11_49 x0_12_49 cf0_0 f0_0 cf0_1 f0_1 nf u6_0 u6_1 u6_2 hu_6) (cwV 1 hts gv_h8_20 rfl rfl rfl (by decide +kernel) ⟨by dsimp only [headSpec]; omega, by dsimp only [headSpec]; omega⟩) ⟨fun a U g mk q => by obtain ⟨q0, q1, qP, qK, qD⟩ := q; exact ⟨q0, q1, qP, va_K.moved (u := U) (U := U.calling g mk a) (Vm.Alike.refl U.vm) qK, qD⟩, va_recv hKc hPc (ci := 8) (q0 := 0) rfl rfl, fun U hU hW => ⟨rfl, by rw [hU], by rw [hU]; exact hPc, va_K.moved hW.alike hKc, hDc.weaken (fun _ _ _ _ => trivial)⟩⟩ rfl rfl hl.1 rfl (lv_room (Nat.le_of_ble_eq_true rfl)) dX8_readValue_71 ⟨Nat.le_of_ble_eq_true rfl, Nat.le_of_ble_eq_true rfl⟩) hS (fun q _ h => hFc q h) hFc ?_
          clear hS
          intro u t H1 locs ht hvm hw hB hz1 hk1 hS
          obtain ⟨⟩ := u
          obtain ⟨hP1, hK1, hD1⟩ := hB
          rw [ht] at hP1
          have hK1 := va_K.moved hvm.symm hK1
          try dsimp only at hw
          have hPD := va_join (wr := []) (w1 := [(h0, .inr (8, [.ref qf0, .ref qf1])), (qf0, .inr (9, [.ref qf0_0, .ref qf0_1, .ref qf0_2, .int v0_3, .ref qf0_4, .ref qf0_5, .ref qf0_6, .ref qf0_7, .ref qf0_8, .int v0_9, .int u6_0, .int u6_1, .int u6_2])), (qf0_0, .inl (cf0_0, 3001, .inl f0_0)), (qf0_1, .inl (cf0_1, 3001, .inl f0_1))]) hP hD [0, 1, 2, 3] [] rfl rfl (by decide) (by decide) hk1 hFc hP1 hD1
          clear hP hD
          obtain ⟨hP, hD⟩ := hPD
          replace hK := (hK.sub (tys' := []) [] rfl).app hK1
          clear hPc hDc hKc hFc hP1 hK1 hD1 hz1 hk1 ht hvm
          generalize H1 = H at hP hS ⊢
          replace hP : va_P (dC, dI) vwCl [(h0, .inr (8, [.ref qf0, .ref qf1])), (qf0, .inr (9, [.ref qf0_0, .ref qf0_1, .ref qf0_2, .int v0_3, .ref qf0_4, .ref qf0_5, .ref qf0_6, .ref qf0_7, .ref qf0_8, .int v0_9, .int u6_0, .int u6_1, .int u6_2])), (qf0_0, .inl (cf0_0, 3001, .inl f0_0)), (qf0_1, .inl (cf0_1, 3001, .inl f0_1))] H := hP
          replace hD : va_D A [(h0, .inr (8, [.ref qf0, .ref qf1])), (qf0, .inr (9, [.ref qf0_0, .ref qf0_1, .ref qf0_2, .int v0_3, .ref qf0_4, .ref qf0_5, .ref qf0_6, .ref qf0_7, .ref qf0_8, .int v0_9, .int u6_0, .int u6_1, .int u6_2])), (qf0_0, .inl (cf0_0, 3001, .inl f0_0)), (qf0_1, .inl (cf0_1, 3001, .inl f0_1))] := hD
          replace hK : va_K (dC, dI) vwCl [(cf0_0, .int), (cf0_1, .int)] s := hK
          refine lv_goto (tgt := 82) hx hb dX8_readValue_74 (by decide) ?_
          refine lv_iinc (v := (l3_49 + 1)) (lv' := [(3, .int (l3_49 + 1)), (2, .int s0_49), (0, .ref h0), (1, .int l1_49)]) hx hb dX8_readValue_82 hl (k := 3) rfl rfl (by decide) rfl (fun ls hl => ?_)
          refine lv_goto (tgt := 20) hx hb dX8_readValue_85 (by decide) ?_
          exact ih_20 H locs ls l1_49 s0_49 (l3_49 + 1) u6_0 u6_1 u6_2 (lv_sub hl [0, 1, 2, 3] rfl) hS (hD.sub (ws' := [(h0, .inr (8, [.ref qf0, .ref qf1])), (qf0, .inr (9, [.ref qf0_0, .ref qf0_1, .ref qf0_2, .int v0_3, .ref qf0_4, .ref qf0_5, .ref qf0_6, .ref qf0_7, .ref qf0_8, .int v0_9, .int u6_0, .int u6_1, .int u6_2])), (qf0_0, .inl (cf0_0, 3001, .inl f0_0)), (qf0_1, .inl (cf0_1, 3001, .inl f0_1))]) [0, 1, 2, 3] (by decide) rfl) (hP.sub (ws' := [(h0, .inr (8, [.ref qf0, .ref qf1])), (qf0, .inr (9, [.ref qf0_0, .ref qf0_1, .ref qf0_2, .int v0_3, .ref qf0_4, .ref qf0_5, .ref qf0_6, .ref qf0_7, .ref qf0_8, .int v0_9, .int u6_0, .int u6_1, .int u6_2])), (qf0_0, .inl (cf0_0, 3001, .inl f0_0)), (qf0_1, .inl (cf0_1, 3001, .inl f0_1))]) [0, 1, 2, 3] rfl) hsp
      intro hj_49
      refine lv_iload_n hx hb dX8_readValue_20 rfl (lv_at hl 0 rfl) ?_
      refine lv_sipush (v := 3000) hx hb dX8_readValue_21 (by decide) ?_
      refine lv_icmp_ge (tgt := 88) hx hb dX8_readValue_24 (by decide) (fun c_3 => ?_) (fun c_3 => ?_)
      · rw [if_pos c_3] at hsp
        exact hj_88 (H, locs, ls, l1_20, x0_10_20, x0_11_20, x0_12_20) ⟨lv_sub hl [2, 3] rfl, hS, hD.sub (ws' := [(h0, .inr (8, [.ref qf0, .ref qf1])), (qf0, .inr (9, [.ref qf0_0, .ref qf0_1, .ref qf0_2, .int v0_3, .ref qf0_4, .ref qf0_5, .ref qf0_6, .ref qf0_7, .ref qf0_8, .int v0_9, .int x0_10_20, .int x0_11_20, .int x0_12_20])), (qf0_0, .inl (cf0_0, 3001, .inl f0_0)), (qf0_1, .inl (cf0_1, 3001, .inl f0_1))]) [0, 1, 2, 3] (by decide) rfl, hP.sub (ws' := [(h0, .inr (8, [.ref qf0, .ref qf1])), (qf0, .inr (9, [.ref qf0_0, .ref qf0_1, .ref qf0_2, .int v0_3, .ref qf0_4, .ref qf0_5, .ref qf0_6, .ref qf0_7, .ref qf0_8, .int v0_9, .int x0_10_20, .int x0_11_20, .int x0_12_20])), (qf0_0, .inl (cf0_0, 3001, .inl f0_0)), (qf0_1, .inl (cf0_1, 3001, .inl f0_1))]) [0, 1, 2, 3] rfl, hsp⟩
      · rw [if_neg c_3] at hsp
        refine lv_aload_n hx hb dX8_readValue_27 rfl (lv_at hl 2 rfl) ?_
        refine lv_iload_n hx hb dX8_readValue_28 rfl (lv_at hl 1 rfl) ?_
        obtain ⟨u3_0, hu_3, hsp⟩ := ox_bind hsp
        try dsimp only at hsp
        have hPc := hP.sub (ws' := [(h0, .inr (8, [.ref qf0, .ref qf1])), (qf0, .inr (9, [.ref qf0_0, .ref qf0_1, .ref qf0_2, .int v0_3, .ref qf0_4, .ref qf0_5, .ref qf0_6, .ref qf0_7, .ref qf0_8, .int v0_9, .int x0_10_20, .int x0_11_20, .int x0_12_20])), (qf0_0, .inl (cf0_0, 3001, .inl f0_0))]) [0, 1, 2] rfl
        have hDc := hD.sub (ws' := [(h0, .inr (8, [.ref qf0, .ref qf1])), (qf0, .inr (9, [.ref qf0_0, .ref qf0_1, .ref qf0_2, .int v0_3, .ref qf0_4, .ref qf0_5, .ref qf0_6, .ref qf0_7, .ref qf0_8, .int v0_9, .int x0_10_20, .int x0_11_20, .int x0_12_20])), (qf0_0, .inl (cf0_0, 3001, .inl f0_0))]) [0, 1, 2] (by decide) rfl
        have hKc := hK.sub (tys' := [(cf0_0, .int)]) [0] rfl
        have hFc := va_free (wc := [(h0, .inr (8, [.ref qf0, .ref qf1])), (qf0, .inr (9, [.ref qf0_0, .ref qf0_1, .ref qf0_2, .int v0_3, .ref qf0_4, .ref qf0_5, .ref qf0_6, .ref qf0_7, .ref qf0_8, .int v0_9, .int x0_10_20, .int x0_11_20, .int x0_12_20])), (qf0_0, .inl (cf0_0, 3001, .inl f0_0))]) hD hS hA [0, 1, 2] rfl
        refine va_calli (va_runV (As := [.int l2_20]) (rest := []) ⟨hx, hb, hml, hown, hts⟩ (t8_binaryAhead l dC dI H.size h0 l2_20 qf0 qf1 qf0_0 qf0_1 qf0_2 v0_3 qf0_4 qf0_5 qf0_6 qf0_7 qf0_8 v0_9 x0_10_20 x0_11_20 x0_12_20 cf0_0 f0_0 nf u3_0 hu_3) (cwV 1 hts gv_h8_21 rfl rfl rfl (by decide +kernel) ⟨by dsimp only [headSpec]; omega, by dsimp only [headSpec]; omega⟩) ⟨fun a U g mk q => by obtain ⟨q0, q1, qP, qK, qD⟩ := q; exact ⟨q0, q1, qP, va_K.moved (u := U) (U := U.calling g mk a) (Vm.Alike.refl U.vm) qK, qD⟩, va_recv hKc hPc (ci := 8) (q0 := 0) rfl rfl, fun U hU hW => ⟨rfl, by rw [hU], by rw [hU]; exact hPc, va_K.moved hW.alike hKc, hDc.weaken (fun _ _ _ _ => trivial)⟩⟩ rfl rfl hl.1 rfl (lv_room (Nat.le_of_ble_eq_true rfl)) dX8_readValue_29 ⟨Nat.le_of_ble_eq_true rfl, Nat.le_of_ble_eq_true rfl⟩) hS (fun q _ h => hFc q h) hFc ?_
        clear hS
        intro r_4 u t H1 locs ht hvm hw hB hz1 hk1 hS
        obtain ⟨⟩ := u
        obtain ⟨hP1, hK1, hD1⟩ := hB
        rw [ht] at hP1
        have hK1 := va_K.moved hvm.symm hK1
        try dsimp only at hw
        have hPD := va_join (wr := [(qf0_1, .inl (cf0_1, 3001, .inl f0_1))]) (w1 := [(h0, .inr (8, [.ref qf0, .ref qf1])), (qf0, .inr (9, [.ref qf0_0, .ref qf0_1, .ref qf0_2, .int v0_3, .ref qf0_4, .ref qf0_5, .ref qf0_6, .ref qf0_7, .ref qf0_8, .int v0_9, .int x0_10_20, .int x0_11_20, .int x0_12_20])), (qf0_0, .inl (cf0_0, 3001, .inl f0_0))]) hP hD [0, 1, 2] [3] rfl rfl (by decide) (by decide) hk1 hFc hP1 hD1
        clear hP hD
        obtain ⟨hP, hD⟩ := hPD
        replace hK := (hK.sub (tys' := [(cf0_1, .int)]) [1] rfl).app hK1
        clear hPc hDc hKc hFc hP1 hK1 hD1 hz1 hk1 ht hvm
        generalize H1 = H at hP hS ⊢
        replace hP : va_P (dC, dI) vwCl [(qf0_1, .inl (cf0_1, 3001, .inl f0_1)), (h0, .inr (8, [.ref qf0, .ref qf1])), (qf0, .inr (9, [.ref qf0_0, .ref qf0_1, .ref qf0_2, .int v0_3, .ref qf0_4, .ref qf0_5, .ref qf0_6, .ref qf0_7, .ref qf0_8, .int v0_9, .int x0_10_20, .int x0_11_20, .int x0_12_20])), (qf0_0, .inl (cf0_0, 3001, .inl f0_0))] H := hP
        replace hD : va_D A [(qf0_1, .inl (cf0_1, 3001, .inl f0_1)), (h0, .inr (8, [.ref qf0, .ref qf1])), (qf0, .inr (9, [.ref qf0_0, .ref qf0_1, .ref qf0_2, .int v0_3, .ref qf0_4, .ref qf0_5, .ref qf0_6, .ref qf0_7, .ref qf0_8, .int v0_9, .int x0_10_20, .int x0_11_20, .int x0_12_20])), (qf0_0, .inl (cf0_0, 3001, .inl f0_0))] := hD
        replace hK : va_K (dC, dI) vwCl [(cf0_1, .int), (cf0_0, .int)] s := hK
        obtain ⟨rfl, hz_3⟩ := hw
        rcases hz_3 with rfl | rfl
        · rw [if_pos rfl] at hsp
          refine lv_if_eq (tgt := 88) hx hb dX8_readValue_32 (by decide) (fun c_5 => ?_) (fun c_5 => (show False by revert c_5; decide).elim)
          exact hj_88 (H, locs, ls, l1_20, x0_10_20, x0_11_20, x0_12_20) ⟨lv_sub hl [2, 3] rfl, hS, hD.sub (ws' := [(h0, .inr (8, [.ref qf0, .ref qf1])), (qf0, .inr (9, [.ref qf0_0, .ref qf0_1, .ref qf0_2, .int v0_3, .ref qf0_4, .ref qf0_5, .ref qf0_6, .ref qf0_7, .ref qf0_8, .int v0_9, .int x0_10_20, .int x0_11_20, .int x0_12_20])), (qf0_0, .inl (cf0_0, 3001, .inl f0_0)), (qf0_1, .inl (cf0_1, 3001, .inl f0_1))]) [1, 2, 3, 0] (by decide) rfl, hP.sub (ws' := [(h0, .inr (8, [.ref qf0, .ref qf1])), (qf0, .inr (9, [.ref qf0_0, .ref qf0_1, .ref qf0_2, .int v0_3, .ref qf0_4, .ref qf0_5, .ref qf0_6, .ref qf0_7, .ref qf0_8, .int v0_9, .int x0_10_20, .int x0_11_20, .int x0_12_20])), (qf0_0, .inl (cf0_0, 3001, .inl f0_0)), (qf0_1, .inl (cf0_1, 3001, .inl f0_1))]) [1, 2, 3, 0] rfl, hsp⟩
        · rw [if_neg (by decide)] at hsp
          refine lv_if_eq (tgt := 88) hx hb dX8_readValue_32 (by decide) (fun c_6 => (show False by revert c_6; decide).elim) (fun c_6 => ?_)
          refine lv_aload_n hx hb dX8_readValue_35 rfl (lv_at hl 2 rfl) ?_
          refine lv_bipush (v := 19) hx hb dX8_readValue_36 (by decide) ?_
          obtain ⟨⟨u4_0, u4_1⟩, hu_4, hsp⟩ := ox_bind hsp
          try dsimp only at hsp
          have hPc := hP.sub (ws' := [(h0, .inr (8, [.ref qf0, .ref qf1])), (qf0, .inr (9, [.ref qf0_0, .ref qf0_1, .ref qf0_2, .int v0_3, .ref qf0_4, .ref qf0_5, .ref qf0_6, .ref qf0_7, .ref qf0_8, .int v0_9, .int x0_10_20, .int x0_11_20, .int x0_12_20])), (qf0_0, .inl (cf0_0, 3001, .inl f0_0))]) [1, 2, 3] rfl
          have hDc := hD.sub (ws' := [(h0, .inr (8, [.ref qf0, .ref qf1])), (qf0, .inr (9, [.ref qf0_0, .ref qf0_1, .ref qf0_2, .int v0_3, .ref qf0_4, .ref qf0_5, .ref qf0_6, .ref qf0_7, .ref qf0_8, .int v0_9, .int x0_10_20, .int x0_11_20, .int x0_12_20])), (qf0_0, .inl (cf0_0, 3001, .inl f0_0))]) [1, 2, 3] (by decide) rfl
          have hKc := hK.sub (tys' := [(cf0_0, .int)]) [1] rfl
          have hFc := va_free (wc := [(h0, .inr (8, [.ref qf0, .ref qf1])), (qf0, .inr (9, [.ref qf0_0, .ref qf0_1, .ref qf0_2, .int v0_3, .ref qf0_4, .ref qf0_5, .ref qf0_6, .ref qf0_7, .ref qf0_8, .int v0_9, .int x0_10_20, .int x0_11_20, .int x0_12_20])), (qf0_0, .inl (cf0_0, 3001, .inl f0_0))]) hD hS hA [1, 2, 3] rfl
          refine va_calli (va_runV (As := [.int 19]) (rest := []) ⟨hx, hb, hml, hown, hts⟩ (t8_accept l dC dI H.size h0 19 qf0 qf1 qf0_0 qf0_1 qf0_2 v0_3 qf0_4 qf0_5 qf0_6 qf0_7 qf0_8 v0_9 x0_10_20 x0_11_20 x0_12_20 cf0_0 f0_0 nf u4_0 u4_1 hu_4) (cwV 1 hts gv_h8_22 rfl rfl rfl (by decide +kernel) ⟨by dsimp only [headSpec]; omega, by dsimp only [headSpec]; omega⟩) ⟨fun a U g mk q => by obtain ⟨q0, q1, qP, qK, qD⟩ := q; exact ⟨q0, q1, qP, va_K.moved (u := U) (U := U.calling g mk a) (Vm.Alike.refl U.vm) qK, qD⟩, va_recv hKc hPc (ci := 8) (q0 := 0) rfl rfl, fun U hU hW => ⟨rfl, by rw [hU], by rw [hU]; exact hPc, va_K.moved hW.alike hKc, hDc.weaken (fun _ _ _ _ => trivial)⟩⟩ rfl rfl hl.1 rfl (lv_room (Nat.le_of_ble_eq_true rfl)) dX8_readValue_38 ⟨Nat.le_of_ble_eq_true rfl, Nat.le_of_ble_eq_true rfl⟩) hS (fun q _ h => hFc q h) hFc ?_
          clear hS
          intro r_7 u t H1 locs ht hvm hw hB hz1 hk1 hS
          obtain ⟨⟩ := u
          obtain ⟨hP1, hK1, hD1⟩ := hB
          rw [ht] at hP1
          have hK1 := va_K.moved hvm.symm hK1
          try dsimp only at hw
          have hPD := va_join (wr := [(qf0_1, .inl (cf0_1, 3001, .inl f0_1))]) (w1 := [(h0, .inr (8, [.ref qf0, .ref qf1])), (qf0, .inr (9, [.ref qf0_0, .ref qf0_1, .ref qf0_2, .int v0_3, .ref qf0_4, .ref qf0_5, .ref qf0_6, .ref qf0_7, .ref qf0_8, .int v0_9, .int u4_1, .int x0_11_20, .int x0_12_20])), (qf0_0, .inl (cf0_0, 3001, .inl f0_0))]) hP hD [1, 2, 3] [0] rfl rfl (by decide) (by decide) hk1 hFc hP1 hD1
          clear hP hD
          obtain ⟨hP, hD⟩ := hPD
          replace hK := (hK.sub (tys' := [(cf0_1, .int)]) [0] rfl).app hK1
          clear hPc hDc hKc hFc hP1 hK1 hD1 hz1 hk1 ht hvm
          generalize H1 = H at hP hS ⊢
          replace hP : va_P (dC, dI) vwCl [(qf0_1, .inl (cf0_1, 3001, .inl f0_1)), (h0, .inr (8, [.ref qf0, .ref qf1])), (qf0, .inr (9, [.ref qf0_0, .ref qf0_1, .ref qf0_2, .int v0_3, .ref qf0_4, .ref qf0_5, .ref qf0_6, .ref qf0_7, .ref qf0_8, .int v0_9, .int u4_1, .int x0_11_20, .int x0_12_20])), (qf0_0, .inl (cf0_0, 3001, .inl f0_0))] H := hP
          replace hD : va_D A [(qf0_1, .inl (cf0_1, 3001, .inl f0_1)), (h0, .inr (8, [.ref qf0, .ref qf1])), (qf0, .inr (9, [.ref qf0_0, .ref qf0_1, .ref qf0_2, .int v0_3, .ref qf0_4, .ref qf0_5, .ref qf0_6, .ref qf0_7, .ref qf0_8, .int v0_9, .int u4_1, .int x0_11_20, .int x0_12_20])), (qf0_0, .inl (cf0_0, 3001, .inl f0_0))] := hD
          replace hK : va_K (dC, dI) vwCl [(cf0_1, .int), (cf0_0, .int)] s := hK
          obtain ⟨rfl, hz_4⟩ := hw
          rcases hz_4 with rfl | rfl
          · rw [if_pos rfl] at hsp
            refine lv_if_ne (tgt := 48) hx hb dX8_readValue_41 (by decide) (fun c_8 => (show False by revert c_8; decide).elim) (fun c_8 => ?_)
            refine lv_iconst (v := 1) hx hb dX8_readValue_44 (by decide) ?_
            refine lv_goto (tgt := 49) hx hb dX8_readValue_45 (by decide) ?_
            exact hj_49 (H, locs, ls, l1_20, l3_20, 1, u4_1, x0_11_20, x0_12_20) ⟨lv_sub hl [2, 3, 0] rfl, hS, hD.sub (ws' := [(h0, .inr (8, [.ref qf0, .ref qf1])), (qf0, .inr (9, [.ref qf0_0, .ref qf0_1, .ref qf0_2, .int v0_3, .ref qf0_4, .ref qf0_5, .ref qf0_6, .ref qf0_7, .ref qf0_8, .int v0_9, .int u4_1, .int x0_11_20, .int x0_12_20])), (qf0_0, .inl (cf0_0, 3001, .inl f0_0)), (qf0_1, .inl (cf0_1, 3001, .inl f0_1))]) [1, 2, 3, 0] (by decide) rfl, hP.sub (ws' := [(h0, .inr (8, [.ref qf0, .ref qf1])), (qf0, .inr (9, [.ref qf0_0, .ref qf0_1, .ref qf0_2, .int v0_3, .ref qf0_4, .ref qf0_5, .ref qf0_6, .ref qf0_7, .ref qf0_8, .int v0_9, .int u4_1, .int x0_11_20, .int x0_12_20])), (qf0_0, .inl (cf0_0, 3001, .inl f0_0)), (qf0_1, .inl (cf0_1, 3001, .inl f0_1))]) [1, 2, 3, 0] rfl, hsp⟩
          · rw [if_neg (by decide)] at hsp
            refine lv_if_ne (tgt := 48) hx hb dX8_readValue_41 (by decide) (fun c_9 => ?_) (fun c_9 => (show False by revert c_9; decide).elim)
            refine lv_iconst (v := 0) hx hb dX8_readValue_48 (by decide) ?_
            exact hj_49 (H, locs, ls, l1_20, l3_20, 0, u4_1, x0_11_20, x0_12_20) ⟨lv_sub hl [2, 3, 0] rfl, hS, hD.sub (ws' := [(h0, .inr (8, [.ref qf0, .ref qf1])), (qf0, .inr (9, [.ref qf0_0, .ref qf0_1, .ref qf0_2, .int v0_3, .ref qf0_4, .ref qf0_5, .ref qf0_6, .ref qf0_7, .ref qf0_8, .int v0_9, .int u4_1, .int x0_11_20, .int x0_12_20])), (qf0_0, .inl (cf0_0, 3001, .inl f0_0)), (qf0_1, .inl (cf0_1, 3001, .inl f0_1))]) [1, 2, 3, 0] (by decide) rfl, hP.sub (ws' := [(h0, .inr (8, [.ref qf0, .ref qf1])), (qf0, .inr (9, [.ref qf0_0, .ref qf0_1, .ref qf0_2, .int v0_3, .ref qf0_4, .ref qf0_5, .ref qf0_6, .ref qf0_7, .ref qf0_8, .int v0_9, .int u4_1, .int x0_11_20, .int x0_12_20])), (qf0_0, .inl (cf0_0, 3001, .inl f0_0)), (qf0_1, .inl (cf0_1, 3001, .inl f0_1))]) [1, 2, 3, 0] rfl, hsp⟩
  · rw [if_neg (by decide)] at hsp
    refine lv_if_eq (tgt := 9) hx hb dX8_readValue_5 (by decide) (fun c_11 => (show False by revert c_11; decide).elim) (fun c_11 => ?_)
    have hr0 := Option.some.inj hsp
    clear hsp
    obtain ⟨hq0, hr1⟩ := Prod.mk.inj hr0
    clear hr0
    obtain ⟨hq1, hr2⟩ := Prod.mk.inj hr1
    clear hr1
    subst hq0
    subst hq1
    subst hr2
    have hP9 := hP.sub (ws' := [(h0, .inr (8, [.ref qf0, .ref qf1])), (qf0, .inr (9, [.ref qf0_0, .ref qf0_1, .ref qf0_2, .int v0_3, .ref qf0_4, .ref qf0_5, .ref qf0_6, .ref qf0_7, .ref qf0_8, .int v0_9, .int v0_10, .int u1_1, .int u1_2])), (qf0_0, .inl (cf0_0, 3001, .inl f0_0)), (qf0_1, .inl (cf0_1, 3001, .inl f0_1))]) [0, 1, 2, 3] rfl
    have hD9 := hD.sub (ws' := [(h0, .inr (8, [.ref qf0, .ref qf1])), (qf0, .inr (9, [.ref qf0_0, .ref qf0_1, .ref qf0_2, .int v0_3, .ref qf0_4, .ref qf0_5, .ref qf0_6, .ref qf0_7, .ref qf0_8, .int v0_9, .int v0_10, .int u1_1, .int u1_2])), (qf0_0, .inl (cf0_0, 3001, .inl f0_0)), (qf0_1, .inl (cf0_1, 3001, .inl f0_1))]) [0, 1, 2, 3] (by decide) rfl
    have hK9 := hK.sub (tys' := [(cf0_0, .int), (cf0_1, .int)]) [0, 1] rfl
    exact W.vret hx hb hr (fun t ht hW => ⟨⟨(), rfl, trivial, by rw [ht]; exact hP9, va_K.moved hW.alike hK9, hD9⟩, hS.F ht⟩) hS.2.2 dX8_readValue_8
set_option maxHeartbeats 4000000 in
set_option maxRecDepth 100000 in
/-- ClassMill$Syntax.readUnary -/
theorem op_v8_readUnary_ok (nf d : Nat) (rc : GT_synv) (ih_0 : CT_v8_readValue d rc.1) (ih_1 : CT_v8_readUnary d rc.2.1) (ih_2 : CT_v8_readPrimary d rc.2.2.1) (ih_3 : CT_v8_readBehind d rc.2.2.2.1) (ih_4 : CT_v8_readNew d rc.2.2.2.2.1) (ih_5 : CT_v8_readArguments d rc.2.2.2.2.2) : CT_v8_readUnary (d + 1) (op_v8_readUnary nf rc) := by
  intro l dC dI sz h0 a1 qf0 qf1 qf0_0 qf0_1 qf0_2 v0_3 qf0_4 qf0_5 qf0_6 qf0_7 qf0_8 v0_9 v0_10 v0_11 v0_12 cf0_0 f0_0 cf0_1 f0_1 nf9 w0_10 w0_11 w0_12 hsp
  refine Met.ofW (cc := cX8_readUnary) (maxL := 4) (ret := none) (by decide) rfl ?_
  intro p e s m args below meth c s₁ B hml hv
  obtain ⟨rfl, hsz, hP, hK, hD0⟩ := hv
  have hx := B.exec
  have hb := B.bytes
  have hr := B.returns
  have hts := atoms_spec (ws := (.code yX8_readUnary cX8_readUnary 4 none :: VS_h8)) B.pre
  replace hts := fun w (h : w ∈ VS_h8) => hts w (List.mem_cons_of_mem _ h)
  have hown : s.vm.findClass RX8 = some m.cls := findClass_of_methodNamed B.named
  have hlocks := B.notSynchronized
  subst hsz
  have hD := hD0.self (sz := s.heap.size)
  generalize hAe : va_A [(h0, .inr (8, [.ref qf0, .ref qf1])), (qf0, .inr (9, [.ref qf0_0, .ref qf0_1, .ref qf0_2, .int v0_3, .ref qf0_4, .ref qf0_5, .ref qf0_6, .ref qf0_7, .ref qf0_8, .int v0_9, .int v0_10, .int v0_11, .int v0_12])), (qf0_0, .inl (cf0_0, 3001, .inl f0_0)), (qf0_1, .inl (cf0_1, 3001, .inl f0_1))] s.heap.size = A at hD  ⊢
  have hA : ∀ q : Nat, s.heap.size ≤ q → A q := fun q h => by rw [← hAe]; exact Or.inr h
  have hP : va_P (dC, dI) vwCl [(h0, .inr (8, [.ref qf0, .ref qf1])), (qf0, .inr (9, [.ref qf0_0, .ref qf0_1, .ref qf0_2, .int v0_3, .ref qf0_4, .ref qf0_5, .ref qf0_6, .ref qf0_7, .ref qf0_8, .int v0_9, .int v0_10, .int v0_11, .int v0_12])), (qf0_0, .inl (cf0_0, 3001, .inl f0_0)), (qf0_1, .inl (cf0_1, 3001, .inl f0_1))] s.heap := hP
  have hl := lv_entry ([.ref h0, .int a1]) (n := 4) (Nat.le_of_ble_eq_true rfl)
  rw [lg_entry_eq]
  generalize (lg_sl ([.ref h0, .int a1]) ++ List.replicate (4 - (lg_sl ([.ref h0, .int a1])).length) Slot.unset).toArray = ls at hl ⊢
  have hl : lv_has ls 4 [(0, .ref h0), (1, .int a1)] := hl
  obtain ⟨H, hH⟩ : ∃ H : Heap, s.heap = H := ⟨_, rfl⟩
  rw [hH] at hP ⊢
  have hS : va_S A s.heap H [] := by rw [← hH]; exact va_S.rf
  obtain ⟨locs, hlo⟩ : ∃ locs : List Loc, locs = [] := ⟨_, rfl⟩
  rw [← hlo] at hS ⊢
  replace hsp : op_v8_readUnary nf rc a1 v0_3 v0_10 v0_11 v0_12 f0_0 f0_1 = some (w0_10, w0_11, w0_12) := hsp
  unfold op_v8_readUnary at hsp
  refine jn_use (α := Heap × List Loc × Array Slot × Int32 × Int32 × Int32 × Int32 × Int32) (fun x9 => x9.1) (fun x9 => x9.2.1) (fun x9 => F0 m 44 x9.2.2.1 []) (fun x9 => match x9 with | (H, locs, ls, l1_44, l3_44, x0_10_44, x0_11_44, x0_12_44) => lv_has ls 4 [(0, .ref h0), (1, .int l1_44), (3, .int l3_44)] ∧ va_S A s.heap H locs ∧ va_D A [(h0, .inr (8, [.ref qf0, .ref qf1])), (qf0, .inr (9, [.ref qf0_0, .ref qf0_1, .ref qf0_2, .int v0_3, .ref qf0_4, .ref qf0_5, .ref qf0_6, .ref qf0_7, .ref qf0_8, .int v0_9, .int x0_10_44, .int x0_11_44, .int x0_12_44])), (qf0_0, .inl (cf0_0, 3001, .inl f0_0)), (qf0_1, .inl (cf0_1, 3001, .inl f0_1))] ∧ va_P (dC, dI) vwCl [(h0, .inr (8, [.ref qf0, .ref qf1])), (qf0, .inr (9, [.ref qf0_0, .ref qf0_1, .ref qf0_2, .int v0_3, .ref qf0_4, .ref qf0_5, .ref qf0_6, .ref qf0_7, .ref qf0_8, .int v0_9, .int x0_10_44, .int x0_11_44, .int x0_12_44])), (qf0_0, .inl (cf0_0, 3001, .inl f0_0)), (qf0_1, .inl (cf0_1, 3001, .inl f0_1))] H ∧ jn_v8_readUnary_44 nf rc a1 v0_3 v0_10 v0_11 v0_12 f0_0 f0_1 l1_44 l3_44 x0_10_44 x0_11_44 x0_12_44 = some (w0_10, w0_11, w0_12)) ?_ ?_
  · intro x9 hJ9
    obtain ⟨H, locs, ls, l1_44, l3_44, x0_10_44, x0_11_44, x0_12_44⟩ := x9
    obtain ⟨hl, hS, hD, hP, hsp⟩ := hJ9
    replace hl : lv_has ls 4 [(0, .ref h0), (1, .int l1_44), (3, .int l3_44)] := hl
    replace hS : va_S A s.heap H locs := hS
    replace hD : va_D A [(h0, .inr (8, [.ref qf0, .ref qf1])), (qf0, .inr (9, [.ref qf0_0, .ref qf0_1, .ref qf0_2, .int v0_3, .ref qf0_4, .ref qf0_5, .ref qf0_6, .ref qf0_7, .ref qf0_8, .int v0_9, .int x0_10_44, .int x0_11_44, .int x0_12_44])), (qf0_0, .inl (cf0_0, 3001, .inl f0_0)), (qf0_1, .inl (cf0_1, 3001, .inl f0_1))] := hD
    replace hP : va_P (dC, dI) vwCl [(h0, .inr (8, [.ref qf0, .ref qf1])), (qf0, .inr (9, [.ref qf0_0, .ref qf0_1, .ref qf0_2, .int v0_3, .ref qf0_4, .ref qf0_5, .ref qf0_6, .ref qf0_7, .ref qf0_8, .int v0_9, .int x0_10_44, .int x0_11_44, .int x0_12_44])), (qf0_0, .inl (cf0_0, 3001, .inl f0_0)), (qf0_1, .inl (cf0_1, 3001, .inl f0_1))] H := hP
    replace hsp : jn_v8_readUnary_44 nf rc a1 v0_3 v0_10 v0_11 v0_12 f0_0 f0_1 l1_44 l3_44 x0_10_44 x0_11_44 x0_12_44 = some (w0_10, w0_11, w0_12) := hsp
    show W _ _ _ _ _ _ _ _ _ _ H locs _ _ _ (F0 m 44 ls [])
    unfold jn_v8_readUnary_44 at hsp
    try dsimp only at hsp
    refine lv_aload_n hx hb dX8_readUnary_44 rfl (lv_at hl 0 rfl) ?_
    refine lv_iload_n hx hb dX8_readUnary_45 rfl (lv_at hl 1 rfl) ?_
    obtain ⟨⟨u4_0, u4_1, u4_2⟩, hu_4, hsp⟩ := ox_bind hsp
    try dsimp only at hsp
    have hPc := hP.sub (ws' := [(h0, .inr (8, [.ref qf0, .ref qf1])), (qf0, .inr (9, [.ref qf0_0, .ref qf0_1, .ref qf0_2, .int v0_3, .ref qf0_4, .ref qf0_5, .ref qf0_6, .ref qf0_7, .ref qf0_8, .int v0_9, .int x0_10_44, .int x0_11_44, .int x0_12_44])), (qf0_0, .inl (cf0_0, 3001, .inl f0_0)), (qf0_1, .inl (cf0_1, 3001, .inl f0_1))]) [0, 1, 2, 3] rfl
    have hDc := hD.sub (ws' := [(h0, .inr (8, [.ref qf0, .ref qf1])), (qf0, .inr (9, [.ref qf0_0, .ref qf0_1, .ref qf0_2, .int v0_3, .ref qf0_4, .ref qf0_5, .ref qf0_6, .ref qf0_7, .ref qf0_8, .int v0_9, .int x0_10_44, .int x0_11_44, .int x0_12_44])), (qf0_0, .inl (cf0_0, 3001, .inl f0_0)), (qf0_1, .inl (cf0_1, 3001, .inl f0_1))]) [0, 1, 2, 3] (by decide) rfl
    have hKc := hK.sub (tys' := [(cf0_0, .int), (cf0_1, .int)]) [0, 1] rfl
    have hFc := va_free (wc := [(h0, .inr (8, [.ref qf0, .ref qf1])), (qf0, .inr (9, [.ref qf0_0, .ref qf0_1, .ref qf0_2, .int v0_3, .ref qf0_4, .ref qf0_5, .ref qf0_6, .ref qf0_7, .ref qf0_8, .int v0_9, .int x0_10_44, .int x0_11_44, .int x0_12_44])), (qf0_0, .inl (cf0_0, 3001, .inl f0_0)), (qf0_1, .inl (cf0_1, 3001, .inl f0_1))]) hD hS hA [0, 1, 2, 3] rfl
    refine va_calli (va_runV (As := [.int l1_44]) (rest := []) ⟨hx, hb, hml, hown, hts⟩ (t8_tooDeep l dC dI H.size h0 l1_44 qf0 qf1 qf0_0 qf0_1 qf0_2 v0_3 qf0_4 qf0_5 qf0_6 qf0_7 qf0_8 v0_9 x0_10_44 x0_11_44 x0_12_44 cf0_0 f0_0 cf0_1 f0_1 nf u4_0 u4_1 u4_2 hu_4) (cwV 1 hts gv_h8_19 rfl rfl rfl (by decide +kernel) ⟨by dsimp only [headSpec]; omega, by dsimp only [headSpec]; omega⟩) ⟨fun a U g mk q => by obtain ⟨q0, q1, qP, qK, qD⟩ := q; exact ⟨q0, q1, qP, va_K.moved (u := U) (U := U.calling g mk a) (Vm.Alike.refl U.vm) qK, qD⟩, va_recv hKc hPc (ci := 8) (q0 := 0) rfl rfl, fun U hU hW => ⟨rfl, by rw [hU], by rw [hU]; exact hPc, va_K.moved hW.alike hKc, hDc.weaken (fun _ _ _ _ => trivial)⟩⟩ rfl rfl hl.1 rfl (lv_room (Nat.le_of_ble_eq_true rfl)) dX8_readUnary_46 ⟨Nat.le_of_ble_eq_true rfl, Nat.le_of_ble_eq_true rfl⟩) hS (fun q _ h => hFc q h) hFc ?_
    clear hS
    intro r_8 u t H1 locs ht hvm hw hB hz1 hk1 hS
    obtain ⟨⟩ := u
    obtain ⟨hP1, hK1, hD1⟩ := hB
    rw [ht] at hP1
    have hK1 := va_K.moved hvm.symm hK1
    try dsimp only at hw
    have hPD := va_join (wr := []) (w1 := [(h0, .inr (8, [.ref qf0, .ref qf1])), (qf0, .inr (9, [.ref qf0_0, .ref qf0_1, .ref qf0_2, .int v0_3, .ref qf0_4, .ref qf0_5, .ref qf0_6, .ref qf0_7, .ref qf0_8, .int v0_9, .int x0_10_44, .int u4_1, .int u4_2])), (qf0_0, .inl (cf0_0, 3001, .inl f0_0)), (qf0_1, .inl (cf0_1, 3001, .inl f0_1))]) hP hD [0, 1, 2, 3] [] rfl rfl (by decide) (by decide) hk1 hFc hP1 hD1
    clear hP hD
    obtain ⟨hP, hD⟩ := hPD
    replace hK := (hK.sub (tys' := []) [] rfl).app hK1
    clear hPc hDc hKc hFc hP1 hK1 hD1 hz1 hk1 ht hvm
    generalize H1 = H at hP hS ⊢
    replace hP : va_P (dC, dI) vwCl [(h0, .inr (8, [.ref qf0, .ref qf1])), (qf0, .inr (9, [.ref qf0_0, .ref qf0_1, .ref qf0_2, .int v0_3, .ref qf0_4, .ref qf0_5, .ref qf0_6, .ref qf0_7, .ref qf0_8, .int v0_9, .int x0_10_44, .int u4_1, .int u4_2])), (qf0_0, .inl (cf0_0, 3001, .inl f0_0)), (qf0_1, .inl (cf0_1, 3001, .inl f0_1))] H := hP
    replace hD : va_D A [(h0, .inr (8, [.ref qf0, .ref qf1])), (qf0, .inr (9, [.ref qf0_0, .ref qf0_1, .ref qf0_2, .int v0_3, .ref qf0_4, .ref qf0_5, .ref qf0_6, .ref qf0_7, .ref qf0_8, .int v0_9, .int x0_10_44, .int u4_1, .int u4_2])), (qf0_0, .inl (cf0_0, 3001, .inl f0_0)), (qf0_1, .inl (cf0_1, 3001, .inl f0_1))] := hD
    replace hK : va_K (dC, dI) vwCl [(cf0_0, .int), (cf0_1, .int)] s := hK
    obtain ⟨rfl, hz_4⟩ := hw
    rcases hz_4 with rfl | rfl
    · rw [if_pos rfl] at hsp
      refine lv_if_eq (tgt := 53) hx hb dX8_readUnary_49 (by decide) (fun c_9 => ?_) (fun c_9 => (show False by revert c_9; decide).elim)
      refine lv_aload_n hx hb dX8_readUnary_53 rfl (lv_at hl 0 rfl) ?_
      refine va_get (D := (dC, dI)) (ci := 8) (v := .ref qf0) (C := RX8) (T := TX8) (N := 2) hx hb hts uV_h8_X8 hown hK hP 0 rfl rfl 0 (by decide) (hts (.fieldLink RX8 7 "ClassMill$Syntax" "text" "LClassMill$Text;") mw_h8_135) (fun _ h9 => h9) rfl dX8_readUnary_54 ?_
      refine lv_dup hx hb dX8_readUnary_57 rfl ?_
      refine va_get (D := (dC, dI)) (ci := 9) (v := .int x0_10_44) (C := RX9) (T := TX9) (N := 13) hx hb hts uV_h8_X9 hown hK hP 1 rfl rfl 10 (by decide) (hts (.fieldLink RX8 30 "ClassMill$Text" "pos" "I") mw_h8_136) (fun _ h9 => h9) rfl dX8_readUnary_58 ?_
      refine lv_iload_n hx hb dX8_readUnary_61 rfl (lv_at hl 2 rfl) ?_
      refine lv_if_eq (tgt := 69) hx hb dX8_readUnary_62 (by decide) (fun c_10 => ?_) (fun c_10 => ?_)
      · rw [if_pos c_10] at hsp
        refine lv_iconst (v := 1) hx hb dX8_readUnary_69 (by decide) ?_
        refine lv_iadd hx hb dX8_readUnary_70 ?_
        refine va_put (D := (dC, dI)) (ci := 9) (v := .int (x0_10_44 + 1)) (ty := .int) (C := RX9) (T := TX9) (N := 13) hx hb hts uV_h8_X9 tyX9 tyX9_ok nmX9 hown hK hP hD hS 1 rfl rfl 10 (by decide) (hts (.fieldLink RX8 30 "ClassMill$Text" "pos" "I") mw_h8_136) (fun _ h9 => h9) rfl (by decide +kernel) rfl rfl (Nat.le_of_ble_eq_true rfl) dX8_readUnary_71 ?_
        clear hP hD hS
        intro H locs hP hD hS
        replace hP : va_P (dC, dI) vwCl [(h0, .inr (8, [.ref qf0, .ref qf1])), (qf0, .inr (9, [.ref qf0_0, .ref qf0_1, .ref qf0_2, .int v0_3, .ref qf0_4, .ref qf0_5, .ref qf0_6, .ref qf0_7, .ref qf0_8, .int v0_9, .int (x0_10_44 + 1), .int u4_1, .int u4_2])), (qf0_0, .inl (cf0_0, 3001, .inl f0_0)), (qf0_1, .inl (cf0_1, 3001, .inl f0_1))] H := hP
        replace hD : va_D A [(h0, .inr (8, [.ref qf0, .ref qf1])), (qf0, .inr (9, [.ref qf0_0, .ref qf0_1, .ref qf0_2, .int v0_3, .ref qf0_4, .ref qf0_5, .ref qf0_6, .ref qf0_7, .ref qf0_8, .int v0_9, .int (x0_10_44 + 1), .int u4_1, .int u4_2])), (qf0_0, .inl (cf0_0, 3001, .inl f0_0)), (qf0_1, .inl (cf0_1, 3001, .inl f0_1))] := hD
        refine lv_aload_n hx hb dX8_readUnary_74 rfl (lv_at hl 0 rfl) ?_
        refine lv_iload_n hx hb dX8_readUnary_75 rfl (lv_at hl 1 rfl) ?_
        refine lv_iconst (v := 1) hx hb dX8_readUnary_76 (by decide) ?_
        refine lv_iadd hx hb dX8_readUnary_77 ?_
        obtain ⟨⟨u5_0, u5_1, u5_2⟩, hu_5, hsp⟩ := ox_bind hsp
        try dsimp only at hsp
        have hPc := hP.sub (ws' := [(h0, .inr (8, [.ref qf0, .ref qf1])), (qf0, .inr (9, [.ref qf0_0, .ref qf0_1, .ref qf0_2, .int v0_3, .ref qf0_4, .ref qf0_5, .ref qf0_6, .ref qf0_7, .ref qf0_8, .int v0_9, .int (x0_10_44 + 1), .int u4_1, .int u4_2])), (qf0_0, .inl (cf0_0, 3001, .inl f0_0)), (qf0_1, .inl (cf0_1, 3001, .inl f0_1))]) [0, 1, 2, 3] rfl
        have hDc := hD.sub (ws' := [(h0, .inr (8, [.ref qf0, .ref qf1])), (qf0, .inr (9, [.ref qf0_0, .ref qf0_1, .ref qf0_2, .int v0_3, .ref qf0_4, .ref qf0_5, .ref qf0_6, .ref qf0_7, .ref qf0_8, .int v0_9, .int (x0_10_44 + 1), .int u4_1, .int u4_2])), (qf0_0, .inl (cf0_0, 3001, .inl f0_0)), (qf0_1, .inl (cf0_1, 3001, .inl f0_1))]) [0, 1, 2, 3] (by decide) rfl
        have hKc := hK.sub (tys' := [(cf0_0, .int), (cf0_1, .int)]) [0, 1] rfl
        have hFc := va_free (wc := [(h0, .inr (8, [.ref qf0, .ref qf1])), (qf0, .inr (9, [.ref qf0_0, .ref qf0_1, .ref qf0_2, .int v0_3, .ref qf0_4, .ref qf0_5, .ref qf0_6, .ref qf0_7, .ref qf0_8, .int v0_9, .int (x0_10_44 + 1), .int u4_1, .int u4_2])), (qf0_0, .inl (cf0_0, 3001, .inl f0_0)), (qf0_1, .inl (cf0_1, 3001, .inl f0_1))]) hD hS hA [0, 1, 2, 3] rfl
        refine va_callv (va_runV (As := [.int (l1_44 + 1)]) (rest := []) ⟨hx, hb, hml, hown, hts⟩ (ih_1 l dC dI H.size h0 ((l1_44 + 1)) qf0 qf1 qf0_0 qf0_1 qf0_2 v0_3 qf0_4 qf0_5 qf0_6 qf0_7 qf0_8 v0_9 ((x0_10_44 + 1)) u4_1 u4_2 cf0_0 f0_0 cf0_1 f0_1 nf u5_0 u5_1 u5_2 hu_5) (cwV 1 hts gv_h8_20 rfl rfl rfl (by decide +kernel) ⟨by dsimp only [headSpec]; omega, by dsimp only [headSpec]; omega⟩) ⟨fun a U g mk q => by obtain ⟨q0, q1, qP, qK, qD⟩ := q; exact ⟨q0, q1, qP, va_K.moved (u := U) (U := U.calling g mk a) (Vm.Alike.refl U.vm) qK, qD⟩, va_recv hKc hPc (ci := 8) (q0 := 0) rfl rfl, fun U hU hW => ⟨rfl, by rw [hU], by rw [hU]; exact hPc, va_K.moved hW.alike hKc, hDc.weaken (fun _ _ _ _ => trivial)⟩⟩ rfl rfl hl.1 rfl (lv_room (Nat.le_of_ble_eq_true rfl)) dX8_readUnary_78 ⟨Nat.le_of_ble_eq_true rfl, Nat.le_of_ble_eq_true rfl⟩) hS (fun q _ h => hFc q h) hFc ?_
        clear hS
        intro u t H1 locs ht hvm hw hB hz1 hk1 hS
        obtain ⟨⟩ := u
        obtain ⟨hP1, hK1, hD1⟩ := hB
        rw [ht] at hP1
        have hK1 := va_K.moved hvm.symm hK1
        try dsimp only at hw
        have hPD := va_join (wr := []) (w1 := [(h0, .inr (8, [.ref qf0, .ref qf1])), (qf0, .inr (9, [.ref qf0_0, .ref qf0_1, .ref qf0_2, .int v0_3, .ref qf0_4, .ref qf0_5, .ref qf0_6, .ref qf0_7, .ref qf0_8, .int v0_9, .int u5_0, .int u5_1, .int u5_2])), (qf0_0, .inl (cf0_0, 3001, .inl f0_0)), (qf0_1, .inl (cf0_1, 3001, .inl f0_1))]) hP hD [0, 1, 2, 3] [] rfl rfl (by decide) (by decide) hk1 hFc hP1 hD1
        clear hP hD
        obtain ⟨hP, hD⟩ := hPD
        replace hK := (hK.sub (tys' := []) [] rfl).app hK1
        clear hPc hDc hKc hFc hP1 hK1 hD1 hz1 hk1 ht hvm
        generalize H1 = H at hP hS ⊢
        replace hP : va_P (dC, dI) vwCl [(h0, .inr (8, [.ref qf0, .ref qf1])), (qf0, .inr (9, [.ref qf0_0, .ref qf0_1, .ref qf0_2, .int v0_3, .ref qf0_4, .ref qf0_5, .ref qf0_6, .ref qf0_7, .ref qf0_8, .int v0_9, .int u5_0, .int u5_1, .int u5_2])), (qf0_0, .inl (cf0_0, 3001, .inl f0_0)), (qf0_1, .inl (cf0_1, 3001, .inl f0_1))] H := hP
        replace hD : va_D A [(h0, .inr (8, [.ref qf0, .ref qf1])), (qf0, .inr (9, [.ref qf0_0, .ref qf0_1, .ref qf0_2, .int v0_3, .ref qf0_4, .ref qf0_5, .ref qf0_6, .ref qf0_7, .ref qf0_8, .int v0_9, .int u5_0, .int u5_1, .int u5_2])), (qf0_0, .inl (cf0_0, 3001, .inl f0_0)), (qf0_1, .inl (cf0_1, 3001, .inl f0_1))] := hD
        replace hK : va_K (dC, dI) vwCl [(cf0_0, .int), (cf0_1, .int)] s := hK
        have hr0 := Option.some.inj hsp
        clear hsp
        obtain ⟨hq0, hr1⟩ := Prod.mk.inj hr0
        clear hr0
        obtain ⟨hq1, hr2⟩ := Prod.mk.inj hr1
        clear hr1
        subst hq0
        subst hq1
        subst hr2
        have hP9 := hP.sub (ws' := [(h0, .inr (8, [.ref qf0, .ref qf1])), (qf0, .inr (9, [.ref qf0_0, .ref qf0_1, .ref qf0_2, .int v0_3, .ref qf0_4, .ref qf0_5, .ref qf0_6, .ref qf0_7, .ref qf0_8, .int v0_9, .int u5_0, .int u5_1, .int u5_2])), (qf0_0, .inl (cf0_0, 3001, .inl f0_0)), (qf0_1, .inl (cf0_1, 3001, .inl f0_1))]) [0, 1, 2, 3] rfl
        have hD9 := hD.sub (ws' := [(h0, .inr (8, [.ref qf0, .ref qf1])), (qf0, .inr (9, [.ref qf0_0, .ref qf0_1, .ref qf0_2, .int v0_3, .ref qf0_4, .ref qf0_5, .ref qf0_6, .ref qf0_7, .ref qf0_8, .int v0_9, .int u5_0, .int u5_1, .int u5_2])), (qf0_0, .inl (cf0_0, 3001, .inl f0_0)), (qf0_1, .inl (cf0_1, 3001, .inl f0_1))]) [0, 1, 2, 3] (by decide) rfl
        have hK9 := hK.sub (tys' := [(cf0_0, .int), (cf0_1, .int)]) [0, 1] rfl
        exact W.vret hx hb hr (fun t ht hW => ⟨⟨(), rfl, trivial, by rw [ht]; exact hP9, va_K.moved hW.alike hK9, hD9⟩, hS.F ht⟩) hS.2.2 dX8_readUnary_81
      · rw [if_neg c_10] at hsp
        refine lv_iconst (v := 3) hx hb dX8_readUnary_65 (by decide) ?_
        refine lv_goto (tgt := 70) hx hb dX8_readUnary_66 (by decide) ?_
        refine lv_iadd hx hb dX8_readUnary_70 ?_
        refine va_put (D := (dC, dI)) (ci := 9) (v := .int (x0_10_44 + 3)) (ty := .int) (C := RX9) (T := TX9) (N := 13) hx hb hts uV_h8_X9 tyX9 tyX9_ok nmX9 hown hK hP hD hS 1 rfl rfl 10 (by decide) (hts (.fieldLink RX8 30 "ClassMill$Text" "pos" "I") mw_h8_136) (fun _ h9 => h9) rfl (by decide +kernel) rfl rfl (Nat.le_of_ble_eq_true rfl) dX8_readUnary_71 ?_
        clear hP hD hS
        intro H locs hP hD hS
        replace hP : va_P (dC, dI) vwCl [(h0, .inr (8, [.ref qf0, .ref qf1])), (qf0, .inr (9, [.ref qf0_0, .ref qf0_1, .ref qf0_2, .int v0_3, .ref qf0_4, .ref qf0_5, .ref qf0_6, .ref qf0_7, .ref qf0_8, .int v0_9, .int (x0_10_44 + 3), .int u4_1, .int u4_2])), (qf0_0, .inl (cf0_0, 3001, .inl f0_0)), (qf0_1, .inl (cf0_1, 3001, .inl f0_1))] H := hP
        replace hD : va_D A [(h0, .inr (8, [.ref qf0, .ref qf1])), (qf0, .inr (9, [.ref qf0_0, .ref qf0_1, .ref qf0_2, .int v0_3, .ref qf0_4, .ref qf0_5, .ref qf0_6, .ref qf0_7, .ref qf0_8, .int v0_9, .int (x0_10_44 + 3), .int u4_1, .int u4_2])), (qf0_0, .inl (cf0_0, 3001, .inl f0_0)), (qf0_1, .inl (cf0_1, 3001, .inl f0_1))] := hD
        refine lv_aload_n hx hb dX8_readUnary_74 rfl (lv_at hl 0 rfl) ?_
        refine lv_iload_n hx hb dX8_readUnary_75 rfl (lv_at hl 1 rfl) ?_
        refine lv_iconst (v := 1) hx hb dX8_readUnary_76 (by decide) ?_
        refine lv_iadd hx hb dX8_readUnary_77 ?_
        obtain ⟨⟨u6_0, u6_1, u6_2⟩, hu_6, hsp⟩ := ox_bind hsp
        try dsimp only at hsp
        have hPc := hP.sub (ws' := [(h0, .inr (8, [.ref qf0, .ref qf1])), (qf0, .inr (9, [.ref qf0_0, .ref qf0_1, .ref qf0_2, .int v0_3, .ref qf0_4, .ref qf0_5, .ref qf0_6, .ref qf0_7, .ref qf0_8, .int v0_9, .int (x0_10_44 + 3), .int u4_1, .int u4_2])), (qf0_0, .inl (cf0_0, 3001, .inl f0_0)), (qf0_1, .inl (cf0_1, 3001, .inl f0_1))]) [0, 1, 2, 3] rfl
        have hDc := hD.sub (ws' := [(h0, .inr (8, [.ref qf0, .ref qf1])), (qf0, .inr (9, [.ref qf0_0, .ref qf0_1, .ref qf0_2, .int v0_3, .ref qf0_4, .ref qf0_5, .ref qf0_6, .ref qf0_7, .ref qf0_8, .int v0_9, .int (x0_10_44 + 3), .int u4_1, .int u4_2])), (qf0_0, .inl (cf0_0, 3001, .inl f0_0)), (qf0_1, .inl (cf0_1, 3001, .inl f0_1))]) [0, 1, 2, 3] (by decide) rfl
        have hKc := hK.sub (tys' := [(cf0_0, .int), (cf0_1, .int)]) [0, 1] rfl
        have hFc := va_free (wc := [(h0, .inr (8, [.ref qf0, .ref qf1])), (qf0, .inr (9, [.ref qf0_0, .ref qf0_1, .ref qf0_2, .int v0_3, .ref qf0_4, .ref qf0_5, .ref qf0_6, .ref qf0_7, .ref qf0_8, .int v0_9, .int (x0_10_44 + 3), .int u4_1, .int u4_2])), (qf0_0, .inl (cf0_0, 3001, .inl f0_0)), (qf0_1, .inl (cf0_1, 3001, .inl f0_1))]) hD hS hA [0, 1, 2, 3] rfl
        refine va_callv (va_runV (As := [.int (l1_44 + 1)]) (rest := []) ⟨hx, hb, hml, hown, hts⟩ (ih_1 l dC dI H.size h0 ((l1_44 + 1)) qf0 qf1 qf0_0 qf0_1 qf0_2 v0_3 qf0_4 qf0_5 qf0_6 qf0_7 qf0_8 v0_9 ((x0_10_44 + 3)) u4_1 u4_2 cf0_0 f0_0 cf0_1 f0_1 nf u6_0 u6_1 u6_2 hu_6) (cwV 1 hts gv_h8_20 rfl rfl rfl (by decide +kernel) ⟨by dsimp only [headSpec]; omega, by dsimp only [headSpec]; omega⟩) ⟨fun a U g mk q => by obtain ⟨q0, q1, qP, qK, qD⟩ := q; exact ⟨q0, q1, qP, va_K.moved (u := U) (U := U.calling g mk a) (Vm.Alike.refl U.vm) qK, qD⟩, va_recv hKc hPc (ci := 8) (q0 := 0) rfl rfl, fun U hU hW => ⟨rfl, by rw [hU], by rw [hU]; exact hPc, va_K.moved hW.alike hKc, hDc.weaken (fun _ _ _ _ => trivial)⟩⟩ rfl rfl hl.1 rfl (lv_room (Nat.le_of_ble_eq_true rfl)) dX8_readUnary_78 ⟨Nat.le_of_ble_eq_true rfl, Nat.le_of_ble_eq_true rfl⟩) hS (fun q _ h => hFc q h) hFc ?_
        clear hS
        intro u t H1 locs ht hvm hw hB hz1 hk1 hS
        obtain ⟨⟩ := u
        obtain ⟨hP1, hK1, hD1⟩ := hB
        rw [ht] at hP1
        have hK1 := va_K.moved hvm.symm hK1
        try dsimp only at hw
        have hPD := va_join (wr := []) (w1 := [(h0, .inr (8, [.ref qf0, .ref qf1])), (qf0, .inr (9, [.ref qf0_0, .ref qf0_1, .ref qf0_2, .int v0_3, .ref qf0_4, .ref qf0_5, .ref qf0_6, .ref qf0_7, .ref qf0_8, .int v0_9, .int u6_0, .int u6_1, .int u6_2])), (qf0_0, .inl (cf0_0, 3001, .inl f0_0)), (qf0_1, .inl (cf0_1, 3001, .inl f0_1))]) hP hD [0, 1, 2, 3] [] rfl rfl (by decide) (by decide) hk1 hFc hP1 hD1
        clear hP hD
        obtain ⟨hP, hD⟩ := hPD
        replace hK := (hK.sub (tys' := []) [] rfl).app hK1
        clear hPc hDc hKc hFc hP1 hK1 hD1 hz1 hk1 ht hvm
        generalize H1 = H at hP hS ⊢
        replace hP : va_P (dC, dI) vwCl [(h0, .inr (8, [.ref qf0, .ref qf1])), (qf0, .inr (9, [.ref qf0_0, .ref qf0_1, .ref qf0_2, .int v0_3, .ref qf0_4, .ref qf0_5, .ref qf0_6, .ref qf0_7, .ref qf0_8, .int v0_9, .int u6_0, .int u6_1, .int u6_2])), (qf0_0, .inl (cf0_0, 3001, .inl f0_0)), (qf0_1, .inl (cf0_1, 3001, .inl f0_1))] H := hP
        replace hD : va_D A [(h0, .inr (8, [.ref qf0, .ref qf1])), (qf0, .inr (9, [.ref qf0_0, .ref qf0_1, .ref qf0_2, .int v0_3, .ref qf0_4, .ref qf0_5, .ref qf0_6, .ref qf0_7, .ref qf0_8, .int v0_9, .int u6_0, .int u6_1, .int u6_2])), (qf0_0, .inl (cf0_0, 3001, .inl f0_0)), (qf0_1, .inl (cf0_1, 3001, .inl f0_1))] := hD
        replace hK : va_K (dC, dI) vwCl [(cf0_0, .int), (cf0_1, .int)] s := hK
        have hr0 := Option.some.inj hsp
        clear hsp
        obtain ⟨hq0, hr1⟩ := Prod.mk.inj hr0
        clear hr0
        obtain ⟨hq1, hr2⟩ := Prod.mk.inj hr1
        clear hr1
        subst hq0
        subst hq1
        subst hr2
        have hP9 := hP.sub (ws' := [(h0, .inr (8, [.ref qf0, .ref qf1])), (qf0, .inr (9, [.ref qf0_0, .ref qf0_1, .ref qf0_2, .int v0_3, .ref qf0_4, .ref qf0_5, .ref qf0_6, .ref qf0_7, .ref qf0_8, .int v0_9, .int u6_0, .int u6_1, .int u6_2])), (qf0_0, .inl (cf0_0, 3001, .inl f0_0)), (qf0_1, .inl (cf0_1, 3001, .inl f0_1))]) [0, 1, 2, 3] rfl
        have hD9 := hD.sub (ws' := [(h0, .inr (8, [.ref qf0, .ref qf1])), (qf0, .inr (9, [.ref qf0_0, .ref qf0_1, .ref qf0_2, .int v0_3, .ref qf0_4, .ref qf0_5, .ref qf0_6, .ref qf0_7, .ref qf0_8, .int v0_9, .int u6_0, .int u6_1, .int u6_2])), (qf0_0, .inl (cf0_0, 3001, .inl f0_0)), (qf0_1, .inl (cf0_1, 3001, .inl f0_1))]) [0, 1, 2, 3] (by decide) rfl
        have hK9 := hK.sub (tys' := [(cf0_0, .int), (cf0_1, .int)]) [0, 1] rfl
        exact W.vret hx hb hr (fun t ht hW => ⟨⟨(), rfl, trivial, by rw [ht]; exact hP9, va_K.moved hW.alike hK9, hD9⟩, hS.F ht⟩) hS.2.2 dX8_readUnary_81
    · rw [if_neg (by decide)] at hsp
      refine lv_if_eq (tgt := 53) hx hb dX8_readUnary_49 (by decide) (fun c_11 => (show False by revert c_11; decide).elim) (fun c_11 => ?_)
      have hr0 := Option.some.inj hsp
      clear hsp
      obtain ⟨hq0, hr1⟩ := Prod.mk.inj hr0
      clear hr0
      obtain ⟨hq1, hr2⟩ := Prod.mk.inj hr1
      clear hr1
      subst hq0
      subst hq1
      subst hr2
      have hP9 := hP.sub (ws' := [(h0, .inr (8, [.ref qf0, .ref qf1])), (qf0, .inr (9, [.ref qf0_0, .ref qf0_1, .ref qf0_2, .int v0_3, .ref qf0_4, .ref qf0_5, .ref qf0_6, .ref qf0_7, .ref qf0_8, .int v0_9, .int x0_10_44, .int u4_1, .int u4_2])), (qf0_0, .inl (cf0_0, 3001, .inl f0_0)), (qf0_1, .inl (cf0_1, 3001, .inl f0_1))]) [0, 1, 2, 3] rfl
      have hD9 := hD.sub (ws' := [(h0, .inr (8, [.ref qf0, .ref qf1])), (qf0, .inr (9, [.ref qf0_0, .ref qf0_1, .ref qf0_2, .int v0_3, .ref qf0_4, .ref qf0_5, .ref qf0_6, .ref qf0_7, .ref qf0_8, .int v0_9, .int x0_10_44, .int u4_1, .int u4_2])), (qf0_0, .inl (cf0_0, 3001, .inl f0_0)), (qf0_1, .inl (cf0_1, 3001, .inl f0_1))]) [0, 1, 2, 3] (by decide) rfl
      have hK9 := hK.sub (tys' := [(cf0_0, .int), (cf0_1, .int)]) [0, 1] rfl
      exact W.vret hx hb hr (fun t ht hW => ⟨⟨(), rfl, trivial, by rw [ht]; exact hP9, va_K.moved hW.alike hK9, hD9⟩, hS.F ht⟩) hS.2.2 dX8_readUnary_52
  intro hj_44
  refine lv_aload_n hx hb dX8_readUnary_0 rfl (lv_at hl 0 rfl) ?_
  refine va_get (D := (dC, dI)) (ci := 8) (v := .ref qf0) (C := RX8) (T := TX8) (N := 2) hx hb hts uV_h8_X8 hown hK hP 0 rfl rfl 0 (by decide) (hts (.fieldLink RX8 7 "ClassMill$Syntax" "text" "LClassMill$Text;") mw_h8_135) (fun _ h9 => h9) rfl dX8_readUnary_1 ?_
  obtain ⟨u1_0, hu_1, hsp⟩ := ox_bind hsp
  try dsimp only at hsp
  have hPc := hP.sub (ws' := [(qf0, .inr (9, [.ref qf0_0, .ref qf0_1, .ref qf0_2, .int v0_3, .ref qf0_4, .ref qf0_5, .ref qf0_6, .ref qf0_7, .ref qf0_8, .int v0_9, .int v0_10, .int v0_11, .int v0_12])), (qf0_0, .inl (cf0_0, 3001, .inl f0_0))]) [1, 2] rfl
  have hDc := hD.sub (ws' := [(qf0, .inr (9, [.ref qf0_0, .ref qf0_1, .ref qf0_2, .int v0_3, .ref qf0_4, .ref qf0_5, .ref qf0_6, .ref qf0_7, .ref qf0_8, .int v0_9, .int v0_10, .int v0_11, .int v0_12])), (qf0_0, .inl (cf0_0, 3001, .inl f0_0))]) [1, 2] (by decide) rfl
  have hKc := hK.sub (tys' := [(cf0_0, .int)]) [0] rfl
  have hFc := va_free (wc := [(qf0, .inr (9, [.ref qf0_0, .ref qf0_1, .ref qf0_2, .int v0_3, .ref qf0_4, .ref qf0_5, .ref qf0_6, .ref qf0_7, .ref qf0_8, .int v0_9, .int v0_10, .int v0_11, .int v0_12])), (qf0_0, .inl (cf0_0, 3001, .inl f0_0))]) hD hS hA [1, 2] rfl
  refine va_calli (va_runV (As := []) (rest := []) ⟨hx, hb, hml, hown, hts⟩ (t9_kind l dC dI H.size qf0 qf0_0 qf0_1 qf0_2 v0_3 qf0_4 qf0_5 qf0_6 qf0_7 qf0_8 v0_9 v0_10 v0_11 v0_12 cf0_0 f0_0 nf u1_0 hu_1) (cwV 0 hts gv_h8_25 rfl rfl rfl (by decide +kernel) ⟨by dsimp only [headSpec]; omega, by dsimp only [headSpec]; omega⟩) ⟨fun a U g mk q => by obtain ⟨q0, q1, qP, qK, qD⟩ := q; exact ⟨q0, q1, qP, va_K.moved (u := U) (U := U.calling g mk a) (Vm.Alike.refl U.vm) qK, qD⟩, va_recv hKc hPc (ci := 9) (q0 := 0) rfl rfl, fun U hU hW => ⟨rfl, by rw [hU], by rw [hU]; exact hPc, va_K.moved hW.alike hKc, hDc.weaken (fun _ _ _ _ => trivial)⟩⟩ rfl rfl hl.1 rfl (lv_room (Nat.le_of_ble_eq_true rfl)) dX8_readUnary_4 ⟨Nat.le_of_ble_eq_true rfl, Nat.le_of_ble_eq_true rfl⟩) hS (fun q _ h => hFc q h) hFc ?_
  clear hS
  intro r_1 u t H1 locs ht hvm hw hB hz1 hk1 hS
  obtain ⟨⟩ := u
  obtain ⟨hP1, hK1, hD1⟩ := hB
  rw [ht] at hP1
  have hK1 := va_K.moved hvm.symm hK1
  try dsimp only at hw
  have hPD := va_join (wr := [(h0, .inr (8, [.ref qf0, .ref qf1])), (qf0_1, .inl (cf0_1, 3001, .inl f0_1))]) (w1 := [(qf0, .inr (9, [.ref qf0_0, .ref qf0_1, .ref qf0_2, .int v0_3, .ref qf0_4, .ref qf0_5, .ref qf0_6, .ref qf0_7, .ref qf0_8, .int v0_9, .int v0_10, .int v0_11, .int v0_12])), (qf0_0, .inl (cf0_0, 3001, .inl f0_0))]) hP hD [1, 2] [0, 3] rfl rfl (by decide) (by decide) hk1 hFc hP1 hD1
  clear hP hD
  obtain ⟨hP, hD⟩ := hPD
  replace hK := (hK.sub (tys' := [(cf0_1, .int)]) [1] rfl).app hK1
  clear hPc hDc hKc hFc hP1 hK1 hD1 hz1 hk1 ht hvm
  generalize H1 = H at hP hS ⊢
  replace hP : va_P (dC, dI) vwCl [(h0, .inr (8, [.ref qf0, .ref qf1])), (qf0_1, .inl (cf0_1, 3001, .inl f0_1)), (qf0, .inr (9, [.ref qf0_0, .ref qf0_1, .ref qf0_2, .int v0_3, .ref qf0_4, .ref qf0_5, .ref qf0_6, .ref qf0_7, .ref qf0_8, .int v0_9, .int v0_10, .int v0_11, .int v0_12])), (qf0_0, .inl (cf0_0, 3001, .inl f0_0))] H := hP
  replace hD : va_D A [(h0, .inr (8, [.ref qf0, .ref qf1])), (qf0_1, .inl (cf0_1, 3001, .inl f0_1)), (qf0, .inr (9, [.ref qf0_0, .ref qf0_1, .ref qf0_2, .int v0_3, .ref qf0_4, .ref qf0_5, .ref qf0_6, .ref qf0_7, .ref qf0_8, .int v0_9, .int v0_10, .int v0_11, .int v0_12])), (qf0_0, .inl (cf0_0, 3001, .inl f0_0))] := hD
  replace hK : va_K (dC, dI) vwCl [(cf0_1, .int), (cf0_0, .int)] s := hK
  obtain rfl := hw
  refine lv_istore_n (lv' := [(2, .int u1_0), (0, .ref h0), (1, .int a1)]) hx hb dX8_readUnary_7 rfl hl (by decide) rfl (fun ls hl => ?_)
  refine lv_aload_n hx hb dX8_readUnary_8 rfl (lv_at hl 1 rfl) ?_
  refine va_get (D := (dC, dI)) (ci := 8) (v := .ref qf0) (C := RX8) (T := TX8) (N := 2) hx hb hts uV_h8_X8 hown hK hP 0 rfl rfl 0 (by decide) (hts (.fieldLink RX8 7 "ClassMill$Syntax" "text" "LClassMill$Text;") mw_h8_135) (fun _ h9 => h9) rfl dX8_readUnary_9 ?_
  obtain ⟨u2_0, hu_2, hsp⟩ := ox_bind hsp
  try dsimp only at hsp
  have hPc := hP.sub (ws' := [(qf0, .inr (9, [.ref qf0_0, .ref qf0_1, .ref qf0_2, .int v0_3, .ref qf0_4, .ref qf0_5, .ref qf0_6, .ref qf0_7, .ref qf0_8, .int v0_9, .int v0_10, .int v0_11, .int v0_12])), (qf0_0, .inl (cf0_0, 3001, .inl f0_0))]) [2, 3] rfl
  have hDc := hD.sub (ws' := [(qf0, .inr (9, [.ref qf0_0, .ref qf0_1, .ref qf0_2, .int v0_3, .ref qf0_4, .ref qf0_5, .ref qf0_6, .ref qf0_7, .ref qf0_8, .int v0_9, .int v0_10, .int v0_11, .int v0_12])), (qf0_0, .inl (cf0_0, 3001, .inl f0_0))]) [2, 3] (by decide) rfl
  have hKc := hK.sub (tys' := [(cf0_0, .int)]) [1] rfl
  have hFc := va_free (wc := [(qf0, .inr (9, [.ref qf0_0, .ref qf0_1, .ref qf0_2, .int v0_3, .ref qf0_4, .ref qf0_5, .ref qf0_6, .ref qf0_7, .ref qf0_8, .int v0_9, .int v0_10, .int v0_11, .int v0_12])), (qf0_0, .inl (cf0_0, 3001, .inl f0_0))]) hD hS hA [2, 3] rfl
  refine va_calli (va_runV (As := []) (rest := []) ⟨hx, hb, hml, hown, hts⟩ (t9_beginsCast l dC dI H.size qf0 qf0_0 qf0_1 qf0_2 v0_3 qf0_4 qf0_5 qf0_6 qf0_7 qf0_8 v0_9 v0_10 v0_11 v0_12 cf0_0 f0_0 nf u2_0 hu_2) (cwV 0 hts gv_h8_26 rfl rfl rfl (by decide +kernel) ⟨by dsimp only [headSpec]; omega, by dsimp only [headSpec]; omega⟩) ⟨fun a U g mk q => by obtain ⟨q0, q1, qP, qK, qD⟩ := q; exact ⟨q0, q1, qP, va_K.moved (u := U) (U := U.calling g mk a) (Vm.Alike.refl U.vm) qK, qD⟩, va_recv hKc hPc (ci := 9) (q0 := 0) rfl rfl, fun U hU hW => ⟨rfl, by rw [hU], by rw [hU]; exact hPc, va_K.moved hW.alike hKc, hDc.weaken (fun _ _ _ _ => trivial)⟩⟩ rfl rfl hl.1 rfl (lv_room (Nat.le_of_ble_eq_true rfl)) dX8_readUnary_12 ⟨Nat.le_of_ble_eq_true rfl, Nat.le_of_ble_eq_true rfl⟩) hS (fun q _ h => hFc q h) hFc ?_
  clear hS
  intro r_2 u t H1 locs ht hvm hw hB hz1 hk1 hS
  obtain ⟨⟩ := u
  obtain ⟨hP1, hK1, hD1⟩ := hB
  rw [ht] at hP1
  have hK1 := va_K.moved hvm.symm hK1
  try dsimp only at hw
  have hPD := va_join (wr := [(h0, .inr (8, [.ref qf0, .ref qf1])), (qf0_1, .inl (cf0_1, 3001, .inl f0_1))]) (w1 := [(qf0, .inr (9, [.ref qf0_0, .ref qf0_1, .ref qf0_2, .int v0_3, .ref qf0_4, .ref qf0_5, .ref qf0_6, .ref qf0_7, .ref qf0_8, .int v0_9, .int v0_10, .int v0_11, .int v0_12])), (qf0_0, .inl (cf0_0, 3001, .inl f0_0))]) hP hD [2, 3] [0, 1] rfl rfl (by decide) (by decide) hk1 hFc hP1 hD1
  clear hP hD
  obtain ⟨hP, hD⟩ := hPD
  replace hK := (hK.sub (tys' := [(cf0_1, .int)]) [0] rfl).app hK1
  clear hPc hDc hKc hFc hP1 hK1 hD1 hz1 hk1 ht hvm
  generalize H1 = H at hP hS ⊢
  replace hP : va_P (dC, dI) vwCl [(h0, .inr (8, [.ref qf0, .ref qf1])), (qf0_1, .inl (cf0_1, 3001, .inl f0_1)), (qf0, .inr (9, [.ref qf0_0, .ref qf0_1, .ref qf0_2, .int v0_3, .ref qf0_4, .ref qf0_5, .ref qf0_6, .ref qf0_7, .ref qf0_8, .int v0_9, .int v0_10, .int v0_11, .int v0_12])), (qf0_0, .inl (cf0_0, 3001, .inl f0_0))] H := hP
  replace hD : va_D A [(h0, .inr (8, [.ref qf0, .ref qf1])), (qf0_1, .inl (cf0_1, 3001, .inl f0_1)), (qf0, .inr (9, [.ref qf0_0, .ref qf0_1, .ref qf0_2, .int v0_3, .ref qf0_4, .ref qf0_5, .ref qf0_6, .ref qf0_7, .ref qf0_8, .int v0_9, .int v0_10, .int v0_11, .int v0_12])), (qf0_0, .inl (cf0_0, 3001, .inl f0_0))] := hD
  replace hK : va_K (dC, dI) vwCl [(cf0_1, .int), (cf0_0, .int)] s := hK
  obtain ⟨rfl, hz_2⟩ := hw
  rcases hz_2 with rfl | rfl
  · rw [if_pos rfl] at hsp
    refine lv_istore_n (lv' := [(3, .int 0), (2, .int u1_0), (0, .ref h0), (1, .int a1)]) hx hb dX8_readUnary_15 rfl hl (by decide) rfl (fun ls hl => ?_)
    refine lv_iload_n hx hb dX8_readUnary_16 rfl (lv_at hl 0 rfl) ?_
    refine lv_if_ne (tgt := 44) hx hb dX8_readUnary_17 (by decide) (fun c_3 => (show False by revert c_3; decide).elim) (fun c_3 => ?_)
    refine lv_iload_n hx hb dX8_readUnary_20 rfl (lv_at hl 1 rfl) ?_
    refine lv_bipush (v := 62) hx hb dX8_readUnary_21 (by decide) ?_
    refine lv_icmp_eq (tgt := 44) hx hb dX8_readUnary_23 (by decide) (fun c_4 => ?_) (fun c_4 => ?_)
    · rw [if_pos c_4] at hsp
      exact hj_44 (H, locs, ls, a1, 0, v0_10, v0_11, v0_12) ⟨lv_sub hl [2, 3, 0] rfl, hS, hD.sub (ws' := [(h0, .inr (8, [.ref qf0, .ref qf1])), (qf0, .inr (9, [.ref qf0_0, .ref qf0_1, .ref qf0_2, .int v0_3, .ref qf0_4, .ref qf0_5, .ref qf0_6, .ref qf0_7, .ref qf0_8, .int v0_9, .int v0_10, .int v0_11, .int v0_12])), (qf0_0, .inl (cf0_0, 3001, .inl f0_0)), (qf0_1, .inl (cf0_1, 3001, .inl f0_1))]) [0, 2, 3, 1] (by decide) rfl, hP.sub (ws' := [(h0, .inr (8, [.ref qf0, .ref qf1])), (qf0, .inr (9, [.ref qf0_0, .ref qf0_1, .ref qf0_2, .int v0_3, .ref qf0_4, .ref qf0_5, .ref qf0_6, .ref qf0_7, .ref qf0_8, .int v0_9, .int v0_10, .int v0_11, .int v0_12])), (qf0_0, .inl (cf0_0, 3001, .inl f0_0)), (qf0_1, .inl (cf0_1, 3001, .inl f0_1))]) [0, 2, 3, 1] rfl, hsp⟩
    · rw [if_neg c_4] at hsp
      refine lv_iload_n hx hb dX8_readUnary_26 rfl (lv_at hl 1 rfl) ?_
      refine lv_bipush (v := 71) hx hb dX8_readUnary_27 (by decide) ?_
      refine lv_icmp_eq (tgt := 44) hx hb dX8_readUnary_29 (by decide) (fun c_5 => ?_) (fun c_5 => ?_)
      · rw [if_pos c_5] at hsp
        exact hj_44 (H, locs, ls, a1, 0, v0_10, v0_11, v0_12) ⟨lv_sub hl [2, 3, 0] rfl, hS, hD.sub (ws' := [(h0, .inr (8, [.ref qf0, .ref qf1])), (qf0, .inr (9, [.ref qf0_0, .ref qf0_1, .ref qf0_2, .int v0_3, .ref qf0_4, .ref qf0_5, .ref qf0_6, .ref qf0_7, .ref qf0_8, .int v0_9, .int v0_10, .int v0_11, .int v0_12])), (qf0_0, .inl (cf0_0, 3001, .inl f0_0)), (qf0_1, .inl (cf0_1, 3001, .inl f0_1))]) [0, 2, 3, 1] (by decide) rfl, hP.sub (ws' := [(h0, .inr (8, [.ref qf0, .ref qf1])), (qf0, .inr (9, [.ref qf0_0, .ref qf0_1, .ref qf0_2, .int v0_3, .ref qf0_4, .ref qf0_5, .ref qf0_6, .ref qf0_7, .ref qf0_8, .int v0_9, .int v0_10, .int v0_11, .int v0_12])), (qf0_0, .inl (cf0_0, 3001, .inl f0_0)), (qf0_1, .inl (cf0_1, 3001, .inl f0_1))]) [0, 2, 3, 1] rfl, hsp⟩
      · rw [if_neg c_5] at hsp
        refine lv_iload_n hx hb dX8_readUnary_32 rfl (lv_at hl 1 rfl) ?_
        refine lv_bipush (v := 72) hx hb dX8_readUnary_33 (by decide) ?_
        refine lv_icmp_eq (tgt := 44) hx hb dX8_readUnary_35 (by decide) (fun c_6 => ?_) (fun c_6 => ?_)
        · rw [if_pos c_6] at hsp
          exact hj_44 (H, locs, ls, a1, 0, v0_10, v0_11, v0_12) ⟨lv_sub hl [2, 3, 0] rfl, hS, hD.sub (ws' := [(h0, .inr (8, [.ref qf0, .ref qf1])), (qf0, .inr (9, [.ref qf0_0, .ref qf0_1, .ref qf0_2, .int v0_3, .ref qf0_4, .ref qf0_5, .ref qf0_6, .ref qf0_7, .ref qf0_8, .int v0_9, .int v0_10, .int v0_11, .int v0_12])), (qf0_0, .inl (cf0_0, 3001, .inl f0_0)), (qf0_1, .inl (cf0_1, 3001, .inl f0_1))]) [0, 2, 3, 1] (by decide) rfl, hP.sub (ws' := [(h0, .inr (8, [.ref qf0, .ref qf1])), (qf0, .inr (9, [.ref qf0_0, .ref qf0_1, .ref qf0_2, .int v0_3, .ref qf0_4, .ref qf0_5, .ref qf0_6, .ref qf0_7, .ref qf0_8, .int v0_9, .int v0_10, .int v0_11, .int v0_12])), (qf0_0, .inl (cf0_0, 3001, .inl f0_0)), (qf0_1, .inl (cf0_1, 3001, .inl f0_1))]) [0, 2, 3, 1] rfl, hsp⟩
        · rw [if_neg c_6] at hsp
          refine lv_aload_n hx hb dX8_readUnary_38 rfl (lv_at hl 2 rfl) ?_
          refine lv_iload_n hx hb dX8_readUnary_39 rfl (lv_at hl 3 rfl) ?_
          obtain ⟨⟨u3_0, u3_1, u3_2⟩, hu_3, hsp⟩ := ox_bind hsp
          try dsimp only at hsp
          have hPc := hP.sub (ws' := [(h0, .inr (8, [.ref qf0, .ref qf1])), (qf0, .inr (9, [.ref qf0_0, .ref qf0_1, .ref qf0_2, .int v0_3, .ref qf0_4, .ref qf0_5, .ref qf0_6, .ref qf0_7, .ref qf0_8, .int v0_9, .int v0_10, .int v0_11, .int v0_12])), (qf0_0, .inl (cf0_0, 3001, .inl f0_0)), (qf0_1, .inl (cf0_1, 3001, .inl f0_1))]) [0, 2, 3, 1] rfl
          have hDc := hD.sub (ws' := [(h0, .inr (8, [.ref qf0, .ref qf1])), (qf0, .inr (9, [.ref qf0_0, .ref qf0_1, .ref qf0_2, .int v0_3, .ref qf0_4, .ref qf0_5, .ref qf0_6, .ref qf0_7, .ref qf0_8, .int v0_9, .int v0_10, .int v0_11, .int v0_12])), (qf0_0, .inl (cf0_0, 3001, .inl f0_0)), (qf0_1, .inl (cf0_1, 3001, .inl f0_1))]) [0, 2, 3, 1] (by decide) rfl
          have hKc := hK.sub (tys' := [(cf0_0, .int), (cf0_1, .int)]) [1, 0] rfl
          have hFc := va_free (wc := [(h0, .inr (8, [.ref qf0, .ref qf1])), (qf0, .inr (9, [.ref qf0_0, .ref qf0_1, .ref qf0_2, .int v0_3, .ref qf0_4, .ref qf0_5, .ref qf0_6, .ref qf0_7, .ref qf0_8, .int v0_9, .int v0_10, .int v0_11, .int v0_12])), (qf0_0, .inl (cf0_0, 3001, .inl f0_0)), (qf0_1, .inl (cf0_1, 3001, .inl f0_1))]) hD hS hA [0, 2, 3, 1] rfl
          refine va_callv (va_runV (As := [.int a1]) (rest := []) ⟨hx, hb, hml, hown, hts⟩ (ih_2 l dC dI H.size h0 a1 qf0 qf1 qf0_0 qf0_1 qf0_2 v0_3 qf0_4 qf0_5 qf0_6 qf0_7 qf0_8 v0_9 v0_10 v0_11 v0_12 cf0_0 f0_0 cf0_1 f0_1 nf u3_0 u3_1 u3_2 hu_3) (cwV 1 hts gv_h8_27 rfl rfl rfl (by decide +kernel) ⟨by dsimp only [headSpec]; omega, by dsimp only [headSpec]; omega⟩) ⟨fun a U g mk q => by obtain ⟨q0, q1, qP, qK, qD⟩ := q; exact ⟨q0, q1, qP, va_K.moved (u := U) (U := U.calling g mk a) (Vm.Alike.refl U.vm) qK, qD⟩, va_recv hKc hPc (ci := 8) (q0 := 0) rfl rfl, fun U hU hW => ⟨rfl, by rw [hU], by rw [hU]; exact hPc, va_K.moved hW.alike hKc, hDc.weaken (fun _ _ _ _ => trivial)⟩⟩ rfl rfl hl.1 rfl (lv_room (Nat.le_of_ble_eq_true rfl)) dX8_readUnary_40 ⟨Nat.le_of_ble_eq_true rfl, Nat.le_of_ble_eq_true rfl⟩) hS (fun q _ h => hFc q h) hFc ?_
          clear hS
          intro u t H1 locs ht hvm hw hB hz1 hk1 hS
          obtain ⟨⟩ := u
          obtain ⟨hP1, hK1, hD1⟩ := hB
          rw [ht] at hP1
          have hK1 := va_K.moved hvm.symm hK1
          try dsimp only at hw
          have hPD := va_join (wr := []) (w1 := [(h0, .inr (8, [.ref qf0, .ref qf1])), (qf0, .inr (9, [.ref qf0_0, .ref qf0_1, .ref qf0_2, .int v0_3, .ref qf0_4, .ref qf0_5, .ref qf0_6, .ref qf0_7, .ref qf0_8, .int v0_9, .int u3_0, .int u3_1, .int u3_2])), (qf0_0, .inl (cf0_0, 3001, .inl f0_0)), (qf0_1, .inl (cf0_1, 3001, .inl f0_1))]) hP hD [0, 2, 3, 1] [] rfl rfl (by decide) (by decide) hk1 hFc hP1 hD1
          clear hP hD
          obtain ⟨hP, hD⟩ := hPD
          replace hK := (hK.sub (tys' := []) [] rfl).app hK1
          clear hPc hDc hKc hFc hP1 hK1 hD1 hz1 hk1 ht hvm
          generalize H1 = H at hP hS ⊢
          replace hP : va_P (dC, dI) vwCl [(h0, .inr (8, [.ref qf0, .ref qf1])), (qf0, .inr (9, [.ref qf0_0, .ref qf0_1, .ref qf0_2, .int v0_3, .ref qf0_4, .ref qf0_5, .ref qf0_6, .ref qf0_7, .ref qf0_8, .int v0_9, .int u3_0, .int u3_1, .int u3_2])), (qf0_0, .inl (cf0_0, 3001, .inl f0_0)), (qf0_1, .inl (cf0_1, 3001, .inl f0_1))] H := hP
          replace hD : va_D A [(h0, .inr (8, [.ref qf0, .ref qf1])), (qf0, .inr (9, [.ref qf0_0, .ref qf0_1, .ref qf0_2, .int v0_3, .ref qf0_4, .ref qf0_5, .ref qf0_6, .ref qf0_7, .ref qf0_8, .int v0_9, .int u3_0, .int u3_1, .int u3_2])), (qf0_0, .inl (cf0_0, 3001, .inl f0_0)), (qf0_1, .inl (cf0_1, 3001, .inl f0_1))] := hD
          replace hK : va_K (dC, dI) vwCl [(cf0_0, .int), (cf0_1, .int)] s := hK
          have hr0 := Option.some.inj hsp
          clear hsp
          obtain ⟨hq0, hr1⟩ := Prod.mk.inj hr0
          clear hr0
          obtain ⟨hq1, hr2⟩ := Prod.mk.inj hr1
          clear hr1
          subst hq0
          subst hq1
          subst hr2
          have hP9 := hP.sub (ws' := [(h0, .inr (8, [.ref qf0, .ref qf1])), (qf0, .inr (9, [.ref qf0_0, .ref qf0_1, .ref qf0_2, .int v0_3, .ref qf0_4, .ref qf0_5, .ref qf0_6, .ref qf0_7, .ref qf0_8, .int v0_9, .int u3_0, .int u3_1, .int u3_2])), (qf0_0, .inl (cf0_0, 3001, .inl f0_0)), (qf0_1, .inl (cf0_1, 3001, .inl f0_1))]) [0, 1, 2, 3] rfl
          have hD9 := hD.sub (ws' := [(h0, .inr (8, [.ref qf0, .ref qf1])), (qf0, .inr (9, [.ref qf0_0, .ref qf0_1, .ref qf0_2, .int v0_3, .ref qf0_4, .ref qf0_5, .ref qf0_6, .ref qf0_7, .ref qf0_8, .int v0_9, .int u3_0, .int u3_1, .int u3_2])), (qf0_0, .inl (cf0_0, 3001, .inl f0_0)), (qf0_1, .inl (cf0_1, 3001, .inl f0_1))]) [0, 1, 2, 3] (by decide) rfl
          have hK9 := hK.sub (tys' := [(cf0_0, .int), (cf0_1, .int)]) [0, 1] rfl
          exact W.vret hx hb hr (fun t ht hW => ⟨⟨(), rfl, trivial, by rw [ht]; exact hP9, va_K.moved hW.alike hK9, hD9⟩, hS.F ht⟩) hS.2.2 dX8_readUnary_43
  · rw [if_neg (by decide)] at hsp
    refine lv_istore_n (lv' := [(3, .int 1), (2, .int u1_0), (0, .ref h0), (1, .int a1)]) hx hb dX8_readUnary_15 rfl hl (by decide) rfl (fun ls hl => ?_)
    refine lv_iload_n hx hb dX8_readUnary_16 rfl (lv_at hl 0 rfl) ?_
    refine lv_if_ne (tgt := 44) hx hb dX8_readUnary_17 (by decide) (fun c_7 => ?_) (fun c_7 => (show False by revert c_7; decide).elim)
    exact hj_44 (H, locs, ls, a1, 1, v0_10, v0_11, v0_12) ⟨lv_sub hl [2, 3, 0] rfl, hS, hD.sub (ws' := [(h0, .inr (8, [.ref qf0, .ref qf1])), (qf0, .inr (9, [.ref qf0_0, .ref qf0_1, .ref qf0_2, .int v0_3, .ref qf0_4, .ref qf0_5, .ref qf0_6, .ref qf0_7, .ref qf0_8, .int v0_9, .int v0_10, .int v0_11, .int v0_12])), (qf0_0, .inl (cf0_0, 3001, .inl f0_0)), (qf0_1, .inl (cf0_1, 3001, .inl f0_1))]) [0, 2, 3, 1] (by decide) rfl, hP.sub (ws' := [(h0, .inr (8, [.ref qf0, .ref qf1])), (qf0, .inr (9, [.ref qf0_0, .ref qf0_1, .ref qf0_2, .int v0_3, .ref qf0_4, .ref qf0_5, .ref qf0_6, .ref qf0_7, .ref qf0_8, .int v0_9, .int v0_10, .int v0_11, .int v0_12])), (qf0_0, .inl (cf0_0, 3001, .inl f0_0)), (qf0_1, .inl (cf0_1, 3001, .inl f0_1))]) [0, 2, 3, 1] rfl, hsp⟩
