set_option maxHeartbeats 4000000 in
set_option maxRecDepth 100000 in
/-- ClassMill$Syntax.readStatement -/
theorem op_v8_readStatement_ok (nf d : Nat) (rc : GT_syns) (ih_0 : CT_v8_readStatement d rc.1) (ih_1 : CT_v8_readBlock d rc.2.1) (ih_2 : CT_v8_readTry d rc.2.2) : CT_v8_readStatement (d + 1) (op_v8_readStatement nf rc) := by
  intro l dC dI sz h0 a1 qf0 qf1 qf0_0 qf0_1 qf0_2 v0_3 qf0_4 qf0_5 qf0_6 qf0_7 qf0_8 v0_9 v0_10 v0_11 v0_12 cf0_0 f0_0 cf0_1 f0_1 nf9 w0_10 w0_11 w0_12 hsp
  refine Met.ofW (cc := cX8_readStatement) (maxL := 2) (ret := none) (by decide) rfl ?_
  intro p e s m args below meth c s₁ B hml hv
  obtain ⟨rfl, hsz, hP, hK, hD0⟩ := hv
  have hx := B.exec
  have hb := B.bytes
  have hr := B.returns
  have hts := atoms_spec (ws := (.code yX8_readStatement cX8_readStatement 2 none :: VS_h8)) B.pre
  replace hts := fun w (h : w ∈ VS_h8) => hts w (List.mem_cons_of_mem _ h)
  have hown : s.vm.findClass RX8 = some m.cls := findClass_of_methodNamed B.named
  have hlocks := B.notSynchronized
  subst hsz
  have hD := hD0.self (sz := s.heap.size)
  generalize hAe : va_A [(h0, .inr (8, [.ref qf0, .ref qf1])), (qf0, .inr (9, [.ref qf0_0, .ref qf0_1, .ref qf0_2, .int v0_3, .ref qf0_4, .ref qf0_5, .ref qf0_6, .ref qf0_7, .ref qf0_8, .int v0_9, .int v0_10, .int v0_11, .int v0_12])), (qf0_0, .inl (cf0_0, 3001, .inl f0_0)), (qf0_1, .inl (cf0_1, 3001, .inl f0_1))] s.heap.size = A at hD  ⊢
  have hA : ∀ q : Nat, s.heap.size ≤ q → A q := fun q h => by rw [← hAe]; exact Or.inr h
  have hP : va_P (dC, dI) vwCl [(h0, .inr (8, [.ref qf0, .ref qf1])), (qf0, .inr (9, [.ref qf0_0, .ref qf0_1, .ref qf0_2, .int v0_3, .ref qf0_4, .ref qf0_5, .ref qf0_6, .ref qf0_7, .ref qf0_8, .int v0_9, .int v0_10, .int v0_11, .int v0_12])), (qf0_0, .inl (cf0_0, 3001, .inl f0_0)), (qf0_1, .inl (cf0_1, 3001, .inl f0_1))] s.heap := hP
  have hl := lv_entry ([.ref h0, .int a1]) (n := 2) (Nat.le_of_ble_eq_true rfl)
  rw [lg_entry_eq]
  generalize (lg_sl ([.ref h0, .int a1]) ++ List.replicate (2 - (lg_sl ([.ref h0, .int a1])).length) Slot.unset).toArray = ls at hl ⊢
  have hl : lv_has ls 2 [(0, .ref h0), (1, .int a1)] := hl
  obtain ⟨H, hH⟩ : ∃ H : Heap, s.heap = H := ⟨_, rfl⟩
  rw [hH] at hP ⊢
  have hS : va_S A s.heap H [] := by rw [← hH]; exact va_S.rf
  obtain ⟨locs, hlo⟩ : ∃ locs : List Loc, locs = [] := ⟨_, rfl⟩
  rw [← hlo] at hS ⊢
  replace hsp : op_v8_readStatement nf rc a1 v0_3 v0_10 v0_11 v0_12 f0_0 f0_1 = some (w0_10, w0_11, w0_12) := hsp
  unfold op_v8_readStatement at hsp
  refine lv_aload_n hx hb dX8_readStatement_0 rfl (lv_at hl 0 rfl) ?_
  refine lv_iload_n hx hb dX8_readStatement_1 rfl (lv_at hl 1 rfl) ?_
  obtain ⟨⟨u1_0, u1_1, u1_2⟩, hu_1, hsp⟩ := ox_bind hsp
  try dsimp only at hsp
  have hPc := hP.sub (ws' := [(h0, .inr (8, [.ref qf0, .ref qf1])), (qf0, .inr (9, [.ref qf0_0, .ref qf0_1, .ref qf0_2, .int v0_3, .ref qf0_4, .ref qf0_5, .ref qf0_6, .ref qf0_7, .ref qf0_8, .int v0_9, .int v0_10, .int v0_11, .int v0_12])), (qf0_0, .inl (cf0_0, 3001, .inl f0_0)), (qf0_1, .inl (cf0_1, 3001, .inl f0_1))]) [0, 1, 2, 3] rfl
  have hDc := hD.sub (ws' := [(h0, .inr (8, [.ref qf0, .ref qf1])), (qf0, .inr (9, [.ref qf0_0, .ref qf0_1, .ref qf0_2, .int v0_3, .ref qf0_4, .ref qf0_5, .ref qf0_6, .ref qf0_7, .ref qf0_8, .int v0_9, .int v0_10, .int v0_11, .int v0_12])), (qf0_0, .inl (cf0_0, 3001, .inl f0_0)), (qf0_1, .inl (cf0_1, 3001, .inl f0_1))]) [0, 1, 2, 3] (by decide) rfl
  have hKc := hK.sub (tys' := [(cf0_0, .int), (cf0_1, .int)]) [0, 1] rfl
  have hFc := va_free (wc := [(h0, .inr (8, [.ref qf0, .ref qf1])), (qf0, .inr (9, [.ref qf0_0, .ref qf0_1, .ref qf0_2, .int v0_3, .ref qf0_4, .ref qf0_5, .ref qf0_6, .ref qf0_7, .ref qf0_8, .int v0_9, .int v0_10, .int v0_11, .int v0_12])), (qf0_0, .inl (cf0_0, 3001, .inl f0_0)), (qf0_1, .inl (cf0_1, 3001, .inl f0_1))]) hD hS hA [0, 1, 2, 3] rfl
  refine va_calli (va_runV (As := [.int a1]) (rest := []) ⟨hx, hb, hml, hown, hts⟩ (t8_tooDeep l dC dI H.size h0 a1 qf0 qf1 qf0_0 qf0_1 qf0_2 v0_3 qf0_4 qf0_5 qf0_6 qf0_7 qf0_8 v0_9 v0_10 v0_11 v0_12 cf0_0 f0_0 cf0_1 f0_1 nf u1_0 u1_1 u1_2 hu_1) (cwV 1 hts gv_h8_19 rfl rfl rfl (by decide +kernel) ⟨by dsimp only [headSpec]; omega, by dsimp only [headSpec]; omega⟩) ⟨fun a U g mk q => by obtain ⟨q0, q1, qP, qK, qD⟩ := q; exact ⟨q0, q1, qP, va_K.moved (u := U) (U := U.calling g mk a) (Vm.Alike.refl U.vm) qK, qD⟩, va_recv hKc hPc (ci := 8) (q0 := 0) rfl rfl, fun U hU hW => ⟨rfl, by rw [hU], by rw [hU]; exact hPc, va_K.moved hW.alike hKc, hDc.weaken (fun _ _ _ _ => trivial)⟩⟩ rfl rfl hl.1 rfl (lv_room (Nat.le_of_ble_eq_true rfl)) dX8_readStatement_2 ⟨Nat.le_of_ble_eq_true rfl, Nat.le_of_ble_eq_true rfl⟩) hS (fun q _ h => hFc q h) hFc ?_
  clear hS
  intro r_1 u t H1 locs ht hvm hw hB hz1 hk1 hS
  obtain ⟨⟩ := u
  obtain ⟨hP1, hK1, hD1⟩ := hB
  rw [ht] at hP1
  have hK1 := va_K.moved hvm.symm hK1
  try dsimp only at hw
  have hPD := va_join (wr := []) (w1 := [(h0, .inr (8, [.ref qf0, .ref qf1])), (qf0, .inr (9, [.ref qf0_0, .ref qf0_1, .ref qf0_2, .int v0_3, .ref qf0_4, .ref qf0_5, .ref qf0_6, .ref qf0_7, .ref qf0_8, .int v0_9, .int v0_10, .int u1_1, .int u1_2])), (qf0_0, .inl (cf0_0, 3001, .inl f0_0)), (qf0_1, .inl (cf0_1, 3001, .inl f0_1))]) hP hD [0, 1, 2, 3] [] rfl rfl (by decide) (by decide) hk1 hFc hP1 hD1
  clear hP hD
  obtain ⟨hP, hD⟩ := hPD
  replace hK := (hK.sub (tys' := []) [] rfl).app hK1
  clear hPc hDc hKc hFc hP1 hK1 hD1 hz1 hk1 ht hvm
  generalize H1 = H at hP hS ⊢
  replace hP : va_P (dC, dI) vwCl [(h0, .inr (8, [.ref qf0, .ref qf1])), (qf0, .inr (9, [.ref qf0_0, .ref qf0_1, .ref qf0_2, .int v0_3, .ref qf0_4, .ref qf0_5, .ref qf0_6, .ref qf0_7, .ref qf0_8, .int v0_9, .int v0_10, .int u1_1, .int u1_2])), (qf0_0, .inl (cf0_0, 3001, .inl f0_0)), (qf0_1, .inl (cf0_1, 3001, .inl f0_1))] H := hP
  replace hD : va_D A [(h0, .inr (8, [.ref qf0, .ref qf1])), (qf0, .inr (9, [.ref qf0_0, .ref qf0_1, .ref qf0_2, .int v0_3, .ref qf0_4, .ref qf0_5, .ref qf0_6, .ref qf0_7, .ref qf0_8, .int v0_9, .int v0_10, .int u1_1, .int u1_2])), (qf0_0, .inl (cf0_0, 3001, .inl f0_0)), (qf0_1, .inl (cf0_1, 3001, .inl f0_1))] := hD
  replace hK : va_K (dC, dI) vwCl [(cf0_0, .int), (cf0_1, .int)] s := hK
  obtain ⟨rfl, hz_1⟩ := hw
  rcases hz_1 with rfl | rfl
  · rw [if_pos rfl] at hsp
    refine lv_if_eq (tgt := 9) hx hb dX8_readStatement_5 (by decide) (fun c_2 => ?_) (fun c_2 => (show False by revert c_2; decide).elim)
    refine lv_aload_n hx hb dX8_readStatement_9 rfl (lv_at hl 0 rfl) ?_
    refine va_get (D := (dC, dI)) (ci := 8) (v := .ref qf0) (C := RX8) (T := TX8) (N := 2) hx hb hts uV_h8_X8 hown hK hP 0 rfl rfl 0 (by decide) (hts (.fieldLink RX8 7 "ClassMill$Syntax" "text" "LClassMill$Text;") mw_h8_135) (fun _ h9 => h9) rfl dX8_readStatement_10 ?_
    obtain ⟨u2_0, hu_2, hsp⟩ := ox_bind hsp
    try dsimp only at hsp
    have hPc := hP.sub (ws' := [(qf0, .inr (9, [.ref qf0_0, .ref qf0_1, .ref qf0_2, .int v0_3, .ref qf0_4, .ref qf0_5, .ref qf0_6, .ref qf0_7, .ref qf0_8, .int v0_9, .int v0_10, .int u1_1, .int u1_2])), (qf0_0, .inl (cf0_0, 3001, .inl f0_0))]) [1, 2] rfl
    have hDc := hD.sub (ws' := [(qf0, .inr (9, [.ref qf0_0, .ref qf0_1, .ref qf0_2, .int v0_3, .ref qf0_4, .ref qf0_5, .ref qf0_6, .ref qf0_7, .ref qf0_8, .int v0_9, .int v0_10, .int u1_1, .int u1_2])), (qf0_0, .inl (cf0_0, 3001, .inl f0_0))]) [1, 2] (by decide) rfl
    have hKc := hK.sub (tys' := [(cf0_0, .int)]) [0] rfl
    have hFc := va_free (wc := [(qf0, .inr (9, [.ref qf0_0, .ref qf0_1, .ref qf0_2, .int v0_3, .ref qf0_4, .ref qf0_5, .ref qf0_6, .ref qf0_7, .ref qf0_8, .int v0_9, .int v0_10, .int u1_1, .int u1_2])), (qf0_0, .inl (cf0_0, 3001, .inl f0_0))]) hD hS hA [1, 2] rfl
    refine va_calli (va_runV (As := []) (rest := []) ⟨hx, hb, hml, hown, hts⟩ (t9_kind l dC dI H.size qf0 qf0_0 qf0_1 qf0_2 v0_3 qf0_4 qf0_5 qf0_6 qf0_7 qf0_8 v0_9 v0_10 u1_1 u1_2 cf0_0 f0_0 nf u2_0 hu_2) (cwV 0 hts gv_h8_25 rfl rfl rfl (by decide +kernel) ⟨by dsimp only [headSpec]; omega, by dsimp only [headSpec]; omega⟩) ⟨fun a U g mk q => by obtain ⟨q0, q1, qP, qK, qD⟩ := q; exact ⟨q0, q1, qP, va_K.moved (u := U) (U := U.calling g mk a) (Vm.Alike.refl U.vm) qK, qD⟩, va_recv hKc hPc (ci := 9) (q0 := 0) rfl rfl, fun U hU hW => ⟨rfl, by rw [hU], by rw [hU]; exact hPc, va_K.moved hW.alike hKc, hDc.weaken (fun _ _ _ _ => trivial)⟩⟩ rfl rfl hl.1 rfl (lv_room (Nat.le_of_ble_eq_true rfl)) dX8_readStatement_13 ⟨Nat.le_of_ble_eq_true rfl, Nat.le_of_ble_eq_true rfl⟩) hS (fun q _ h => hFc q h) hFc ?_
    clear hS
    intro r_3 u t H1 locs ht hvm hw hB hz1 hk1 hS
    obtain ⟨⟩ := u
    obtain ⟨hP1, hK1, hD1⟩ := hB
    rw [ht] at hP1
    have hK1 := va_K.moved hvm.symm hK1
    try dsimp only at hw
    have hPD := va_join (wr := [(h0, .inr (8, [.ref qf0, .ref qf1])), (qf0_1, .inl (cf0_1, 3001, .inl f0_1))]) (w1 := [(qf0, .inr (9, [.ref qf0_0, .ref qf0_1, .ref qf0_2, .int v0_3, .ref qf0_4, .ref qf0_5, .ref qf0_6, .ref qf0_7, .ref qf0_8, .int v0_9, .int v0_10, .int u1_1, .int u1_2])), (qf0_0, .inl (cf0_0, 3001, .inl f0_0))]) hP hD [1, 2] [0, 3] rfl rfl (by decide) (by decide) hk1 hFc hP1 hD1
    clear hP hD
    obtain ⟨hP, hD⟩ := hPD
    replace hK := (hK.sub (tys' := [(cf0_1, .int)]) [1] rfl).app hK1
    clear hPc hDc hKc hFc hP1 hK1 hD1 hz1 hk1 ht hvm
    generalize H1 = H at hP hS ⊢
    replace hP : va_P (dC, dI) vwCl [(h0, .inr (8, [.ref qf0, .ref qf1])), (qf0_1, .inl (cf0_1, 3001, .inl f0_1)), (qf0, .inr (9, [.ref qf0_0, .ref qf0_1, .ref qf0_2, .int v0_3, .ref qf0_4, .ref qf0_5, .ref qf0_6, .ref qf0_7, .ref qf0_8, .int v0_9, .int v0_10, .int u1_1, .int u1_2])), (qf0_0, .inl (cf0_0, 3001, .inl f0_0))] H := hP
    replace hD : va_D A [(h0, .inr (8, [.ref qf0, .ref qf1])), (qf0_1, .inl (cf0_1, 3001, .inl f0_1)), (qf0, .inr (9, [.ref qf0_0, .ref qf0_1, .ref qf0_2, .int v0_3, .ref qf0_4, .ref qf0_5, .ref qf0_6, .ref qf0_7, .ref qf0_8, .int v0_9, .int v0_10, .int u1_1, .int u1_2])), (qf0_0, .inl (cf0_0, 3001, .inl f0_0))] := hD
    replace hK : va_K (dC, dI) vwCl [(cf0_1, .int), (cf0_0, .int)] s := hK
    obtain rfl := hw
    by_cases hs_4 : u2_0 = 18
    · rw [if_pos hs_4] at hsp
      refine lv_lookup (tgt := 70) hx hb dX8_readStatement_16 (by decide) (off := 54) (by rw [hs_4]; rfl) (by decide) ?_
      refine lv_aload_n hx hb dX8_readStatement_70 rfl (lv_at hl 0 rfl) ?_
      refine lv_iload_n hx hb dX8_readStatement_71 rfl (lv_at hl 1 rfl) ?_
      refine lv_iconst (v := 1) hx hb dX8_readStatement_72 (by decide) ?_
      refine lv_iadd hx hb dX8_readStatement_73 ?_
      obtain ⟨⟨u3_0, u3_1, u3_2⟩, hu_3, hsp⟩ := ox_bind hsp
      try dsimp only at hsp
      have hPc := hP.sub (ws' := [(h0, .inr (8, [.ref qf0, .ref qf1])), (qf0, .inr (9, [.ref qf0_0, .ref qf0_1, .ref qf0_2, .int v0_3, .ref qf0_4, .ref qf0_5, .ref qf0_6, .ref qf0_7, .ref qf0_8, .int v0_9, .int v0_10, .int u1_1, .int u1_2])), (qf0_0, .inl (cf0_0, 3001, .inl f0_0)), (qf0_1, .inl (cf0_1, 3001, .inl f0_1))]) [0, 2, 3, 1] rfl
      have hDc := hD.sub (ws' := [(h0, .inr (8, [.ref qf0, .ref qf1])), (qf0, .inr (9, [.ref qf0_0, .ref qf0_1, .ref qf0_2, .int v0_3, .ref qf0_4, .ref qf0_5, .ref qf0_6, .ref qf0_7, .ref qf0_8, .int v0_9, .int v0_10, .int u1_1, .int u1_2])), (qf0_0, .inl (cf0_0, 3001, .inl f0_0)), (qf0_1, .inl (cf0_1, 3001, .inl f0_1))]) [0, 2, 3, 1] (by decide) rfl
      have hKc := hK.sub (tys' := [(cf0_0, .int), (cf0_1, .int)]) [1, 0] rfl
      have hFc := va_free (wc := [(h0, .inr (8, [.ref qf0, .ref qf1])), (qf0, .inr (9, [.ref qf0_0, .ref qf0_1, .ref qf0_2, .int v0_3, .ref qf0_4, .ref qf0_5, .ref qf0_6, .ref qf0_7, .ref qf0_8, .int v0_9, .int v0_10, .int u1_1, .int u1_2])), (qf0_0, .inl (cf0_0, 3001, .inl f0_0)), (qf0_1, .inl (cf0_1, 3001, .inl f0_1))]) hD hS hA [0, 2, 3, 1] rfl
      refine va_callv (va_runV (As := [.int (a1 + 1)]) (rest := []) ⟨hx, hb, hml, hown, hts⟩ (v8_readCondition l dC dI H.size h0 ((a1 + 1)) qf0 qf1 qf0_0 qf0_1 qf0_2 v0_3 qf0_4 qf0_5 qf0_6 qf0_7 qf0_8 v0_9 v0_10 u1_1 u1_2 cf0_0 f0_0 cf0_1 f0_1 nf u3_0 u3_1 u3_2 hu_3) (cwV 1 hts gv_h8_35 rfl rfl rfl (by decide +kernel) ⟨by dsimp only [headSpec]; omega, by dsimp only [headSpec]; omega⟩) ⟨fun a U g mk q => by obtain ⟨q0, q1, qP, qK, qD⟩ := q; exact ⟨q0, q1, qP, va_K.moved (u := U) (U := U.calling g mk a) (Vm.Alike.refl U.vm) qK, qD⟩, va_recv hKc hPc (ci := 8) (q0 := 0) rfl rfl, fun U hU hW => ⟨rfl, by rw [hU], by rw [hU]; exact hPc, va_K.moved hW.alike hKc, hDc.weaken (fun _ _ _ _ => trivial)⟩⟩ rfl rfl hl.1 rfl (lv_room (Nat.le_of_ble_eq_true rfl)) dX8_readStatement_74 ⟨Nat.le_of_ble_eq_true rfl, Nat.le_of_ble_eq_true rfl⟩) hS (fun q _ h => hFc q h) hFc ?_
      clear hS
      intro u t H1 locs ht hvm hw hB hz1 hk1 hS
      obtain ⟨⟩ := u
      obtain ⟨hP1, hK1, hD1⟩ := hB
      rw [ht] at hP1
      have hK1 := va_K.moved hvm.symm hK1
      try dsimp only at hw
      have hPD := va_join (wr := []) (w1 := [(h0, .inr (8, [.ref qf0, .ref qf1])), (qf0, .inr (9, [.ref qf0_0, .ref qf0_1, .ref qf0_2, .int v0_3, .ref qf0_4, .ref qf0_5, .ref qf0_6, .ref qf0_7, .ref qf0_8, .int v0_9, .int u3_0, .int u3_1, .int u3_2])), (qf0_0, .inl (cf0_0, 3001, .inl f0_0)), (qf0_1, .inl (cf0_1, 3001, .inl f0_1))]) hP hD [0, 2, 3, 1] [] rfl rfl (by decide) (by decide) hk1 hFc hP1 hD1
      clear hP hD
      obtain ⟨hP, hD⟩ := hPD
      replace hK := (hK.sub (tys' := []) [] rfl).app hK1
      clear hPc hDc hKc hFc hP1 hK1 hD1 hz1 hk1 ht hvm
      generalize H1 = H at hP hS ⊢
      replace hP : va_P (dC, dI) vwCl [(h0, .inr (8, [.ref qf0, .ref qf1])), (qf0, .inr (9, [.ref qf0_0, .ref qf0_1, .ref qf0_2, .int v0_3, .ref qf0_4, .ref qf0_5, .ref qf0_6, .ref qf0_7, .ref qf0_8, .int v0_9, .int u3_0, .int u3_1, .int u3_2])), (qf0_0, .inl (cf0_0, 3001, .inl f0_0)), (qf0_1, .inl (cf0_1, 3001, .inl f0_1))] H := hP
      replace hD : va_D A [(h0, .inr (8, [.ref qf0, .ref qf1])), (qf0, .inr (9, [.ref qf0_0, .ref qf0_1, .ref qf0_2, .int v0_3, .ref qf0_4, .ref qf0_5, .ref qf0_6, .ref qf0_7, .ref qf0_8, .int v0_9, .int u3_0, .int u3_1, .int u3_2])), (qf0_0, .inl (cf0_0, 3001, .inl f0_0)), (qf0_1, .inl (cf0_1, 3001, .inl f0_1))] := hD
      replace hK : va_K (dC, dI) vwCl [(cf0_0, .int), (cf0_1, .int)] s := hK
      refine lv_aload_n hx hb dX8_readStatement_77 rfl (lv_at hl 0 rfl) ?_
      refine lv_iload_n hx hb dX8_readStatement_78 rfl (lv_at hl 1 rfl) ?_
      refine lv_iconst (v := 1) hx hb dX8_readStatement_79 (by decide) ?_
      refine lv_iadd hx hb dX8_readStatement_80 ?_
      obtain ⟨⟨u4_0, u4_1, u4_2⟩, hu_4, hsp⟩ := ox_bind hsp
      try dsimp only at hsp
      have hPc := hP.sub (ws' := [(h0, .inr (8, [.ref qf0, .ref qf1])), (qf0, .inr (9, [.ref qf0_0, .ref qf0_1, .ref qf0_2, .int v0_3, .ref qf0_4, .ref qf0_5, .ref qf0_6, .ref qf0_7, .ref qf0_8, .int v0_9, .int u3_0, .int u3_1, .int u3_2])), (qf0_0, .inl (cf0_0, 3001, .inl f0_0)), (qf0_1, .inl (cf0_1, 3001, .inl f0_1))]) [0, 1, 2, 3] rfl
      have hDc := hD.sub (ws' := [(h0, .inr (8, [.ref qf0, .ref qf1])), (qf0, .inr (9, [.ref qf0_0, .ref qf0_1, .ref qf0_2, .int v0_3, .ref qf0_4, .ref qf0_5, .ref qf0_6, .ref qf0_7, .ref qf0_8, .int v0_9, .int u3_0, .int u3_1, .int u3_2])), (qf0_0, .inl (cf0_0, 3001, .inl f0_0)), (qf0_1, .inl (cf0_1, 3001, .inl f0_1))]) [0, 1, 2, 3] (by decide) rfl
      have hKc := hK.sub (tys' := [(cf0_0, .int), (cf0_1, .int)]) [0, 1] rfl
      have hFc := va_free (wc := [(h0, .inr (8, [.ref qf0, .ref qf1])), (qf0, .inr (9, [.ref qf0_0, .ref qf0_1, .ref qf0_2, .int v0_3, .ref qf0_4, .ref qf0_5, .ref qf0_6, .ref qf0_7, .ref qf0_8, .int v0_9, .int u3_0, .int u3_1, .int u3_2])), (qf0_0, .inl (cf0_0, 3001, .inl f0_0)), (qf0_1, .inl (cf0_1, 3001, .inl f0_1))]) hD hS hA [0, 1, 2, 3] rfl
      refine va_callv (va_runV (As := [.int (a1 + 1)]) (rest := []) ⟨hx, hb, hml, hown, hts⟩ (ih_0 l dC dI H.size h0 ((a1 + 1)) qf0 qf1 qf0_0 qf0_1 qf0_2 v0_3 qf0_4 qf0_5 qf0_6 qf0_7 qf0_8 v0_9 u3_0 u3_1 u3_2 cf0_0 f0_0 cf0_1 f0_1 nf u4_0 u4_1 u4_2 hu_4) (cwV 1 hts gv_h8_36 rfl rfl rfl (by decide +kernel) ⟨by dsimp only [headSpec]; omega, by dsimp only [headSpec]; omega⟩) ⟨fun a U g mk q => by obtain ⟨q0, q1, qP, qK, qD⟩ := q; exact ⟨q0, q1, qP, va_K.moved (u := U) (U := U.calling g mk a) (Vm.Alike.refl U.vm) qK, qD⟩, va_recv hKc hPc (ci := 8) (q0 := 0) rfl rfl, fun U hU hW => ⟨rfl, by rw [hU], by rw [hU]; exact hPc, va_K.moved hW.alike hKc, hDc.weaken (fun _ _ _ _ => trivial)⟩⟩ rfl rfl hl.1 rfl (lv_room (Nat.le_of_ble_eq_true rfl)) dX8_readStatement_81 ⟨Nat.le_of_ble_eq_true rfl, Nat.le_of_ble_eq_true rfl⟩) hS (fun q _ h => hFc q h) hFc ?_
      clear hS
      intro u t H1 locs ht hvm hw hB hz1 hk1 hS
      obtain ⟨⟩ := u
      obtain ⟨hP1, hK1, hD1⟩ := hB
      rw [ht] at hP1
      have hK1 := va_K.moved hvm.symm hK1
      try dsimp only at hw
      have hPD := va_join (wr := []) (w1 := [(h0, .inr (8, [.ref qf0, .ref qf1])), (qf0, .inr (9, [.ref qf0_0, .ref qf0_1, .ref qf0_2, .int v0_3, .ref qf0_4, .ref qf0_5, .ref qf0_6, .ref qf0_7, .ref qf0_8, .int v0_9, .int u4_0, .int u4_1, .int u4_2])), (qf0_0, .inl (cf0_0, 3001, .inl f0_0)), (qf0_1, .inl (cf0_1, 3001, .inl f0_1))]) hP hD [0, 1, 2, 3] [] rfl rfl (by decide) (by decide) hk1 hFc hP1 hD1
      clear hP hD
      obtain ⟨hP, hD⟩ := hPD
      replace hK := (hK.sub (tys' := []) [] rfl).app hK1
      clear hPc hDc hKc hFc hP1 hK1 hD1 hz1 hk1 ht hvm
      generalize H1 = H at hP hS ⊢
      replace hP : va_P (dC, dI) vwCl [(h0, .inr (8, [.ref qf0, .ref qf1])), (qf0, .inr (9, [.ref qf0_0, .ref qf0_1, .ref qf0_2, .int v0_3, .ref qf0_4, .ref qf0_5, .ref qf0_6, .ref qf0_7, .ref qf0_8, .int v0_9, .int u4_0, .int u4_1, .int u4_2])), (qf0_0, .inl (cf0_0, 3001, .inl f0_0)), (qf0_1, .inl (cf0_1, 3001, .inl f0_1))] H := hP
      replace hD : va_D A [(h0, .inr (8, [.ref qf0, .ref qf1])), (qf0, .inr (9, [.ref qf0_0, .ref qf0_1, .ref qf0_2, .int v0_3, .ref qf0_4, .ref qf0_5, .ref qf0_6, .ref qf0_7, .ref qf0_8, .int v0_9, .int u4_0, .int u4_1, .int u4_2])), (qf0_0, .inl (cf0_0, 3001, .inl f0_0)), (qf0_1, .inl (cf0_1, 3001, .inl f0_1))] := hD
      replace hK : va_K (dC, dI) vwCl [(cf0_0, .int), (cf0_1, .int)] s := hK
      refine lv_aload_n hx hb dX8_readStatement_84 rfl (lv_at hl 0 rfl) ?_
      refine lv_bipush (v := 15) hx hb dX8_readStatement_85 (by decide) ?_
      obtain ⟨⟨u5_0, u5_1⟩, hu_5, hsp⟩ := ox_bind hsp
      try dsimp only at hsp
      have hPc := hP.sub (ws' := [(h0, .inr (8, [.ref qf0, .ref qf1])), (qf0, .inr (9, [.ref qf0_0, .ref qf0_1, .ref qf0_2, .int v0_3, .ref qf0_4, .ref qf0_5, .ref qf0_6, .ref qf0_7, .ref qf0_8, .int v0_9, .int u4_0, .int u4_1, .int u4_2])), (qf0_0, .inl (cf0_0, 3001, .inl f0_0))]) [0, 1, 2] rfl
      have hDc := hD.sub (ws' := [(h0, .inr (8, [.ref qf0, .ref qf1])), (qf0, .inr (9, [.ref qf0_0, .ref qf0_1, .ref qf0_2, .int v0_3, .ref qf0_4, .ref qf0_5, .ref qf0_6, .ref qf0_7, .ref qf0_8, .int v0_9, .int u4_0, .int u4_1, .int u4_2])), (qf0_0, .inl (cf0_0, 3001, .inl f0_0))]) [0, 1, 2] (by decide) rfl
      have hKc := hK.sub (tys' := [(cf0_0, .int)]) [0] rfl
      have hFc := va_free (wc := [(h0, .inr (8, [.ref qf0, .ref qf1])), (qf0, .inr (9, [.ref qf0_0, .ref qf0_1, .ref qf0_2, .int v0_3, .ref qf0_4, .ref qf0_5, .ref qf0_6, .ref qf0_7, .ref qf0_8, .int v0_9, .int u4_0, .int u4_1, .int u4_2])), (qf0_0, .inl (cf0_0, 3001, .inl f0_0))]) hD hS hA [0, 1, 2] rfl
      refine va_calli (va_runV (As := [.int 15]) (rest := []) ⟨hx, hb, hml, hown, hts⟩ (t8_accept l dC dI H.size h0 15 qf0 qf1 qf0_0 qf0_1 qf0_2 v0_3 qf0_4 qf0_5 qf0_6 qf0_7 qf0_8 v0_9 u4_0 u4_1 u4_2 cf0_0 f0_0 nf u5_0 u5_1 hu_5) (cwV 1 hts gv_h8_22 rfl rfl rfl (by decide +kernel) ⟨by dsimp only [headSpec]; omega, by dsimp only [headSpec]; omega⟩) ⟨fun a U g mk q => by obtain ⟨q0, q1, qP, qK, qD⟩ := q; exact ⟨q0, q1, qP, va_K.moved (u := U) (U := U.calling g mk a) (Vm.Alike.refl U.vm) qK, qD⟩, va_recv hKc hPc (ci := 8) (q0 := 0) rfl rfl, fun U hU hW => ⟨rfl, by rw [hU], by rw [hU]; exact hPc, va_K.moved hW.alike hKc, hDc.weaken (fun _ _ _ _ => trivial)⟩⟩ rfl rfl hl.1 rfl (lv_room (Nat.le_of_ble_eq_true rfl)) dX8_readStatement_87 ⟨Nat.le_of_ble_eq_true rfl, Nat.le_of_ble_eq_true rfl⟩) hS (fun q _ h => hFc q h) hFc ?_
      clear hS
      intro r_5 u t H1 locs ht hvm hw hB hz1 hk1 hS
      obtain ⟨⟩ := u
      obtain ⟨hP1, hK1, hD1⟩ := hB
      rw [ht] at hP1
      have hK1 := va_K.moved hvm.symm hK1
      try dsimp only at hw
      have hPD := va_join (wr := [(qf0_1, .inl (cf0_1, 3001, .inl f0_1))]) (w1 := [(h0, .inr (8, [.ref qf0, .ref qf1])), (qf0, .inr (9, [.ref qf0_0, .ref qf0_1, .ref qf0_2, .int v0_3, .ref qf0_4, .ref qf0_5, .ref qf0_6, .ref qf0_7, .ref qf0_8, .int v0_9, .int u5_1, .int u4_1, .int u4_2])), (qf0_0, .inl (cf0_0, 3001, .inl f0_0))]) hP hD [0, 1, 2] [3] rfl rfl (by decide) (by decide) hk1 hFc hP1 hD1
      clear hP hD
      obtain ⟨hP, hD⟩ := hPD
      replace hK := (hK.sub (tys' := [(cf0_1, .int)]) [1] rfl).app hK1
      clear hPc hDc hKc hFc hP1 hK1 hD1 hz1 hk1 ht hvm
      generalize H1 = H at hP hS ⊢
      replace hP : va_P (dC, dI) vwCl [(qf0_1, .inl (cf0_1, 3001, .inl f0_1)), (h0, .inr (8, [.ref qf0, .ref qf1])), (qf0, .inr (9, [.ref qf0_0, .ref qf0_1, .ref qf0_2, .int v0_3, .ref qf0_4, .ref qf0_5, .ref qf0_6, .ref qf0_7, .ref qf0_8, .int v0_9, .int u5_1, .int u4_1, .int u4_2])), (qf0_0, .inl (cf0_0, 3001, .inl f0_0))] H := hP
      replace hD : va_D A [(qf0_1, .inl (cf0_1, 3001, .inl f0_1)), (h0, .inr (8, [.ref qf0, .ref qf1])), (qf0, .inr (9, [.ref qf0_0, .ref qf0_1, .ref qf0_2, .int v0_3, .ref qf0_4, .ref qf0_5, .ref qf0_6, .ref qf0_7, .ref qf0_8, .int v0_9, .int u5_1, .int u4_1, .int u4_2])), (qf0_0, .inl (cf0_0, 3001, .inl f0_0))] := hD
      replace hK : va_K (dC, dI) vwCl [(cf0_1, .int), (cf0_0, .int)] s := hK
      obtain ⟨rfl, hz_5⟩ := hw
      rcases hz_5 with rfl | rfl
      · rw [if_pos rfl] at hsp
        refine lv_if_eq (tgt := 163) hx hb dX8_readStatement_90 (by decide) (fun c_6 => ?_) (fun c_6 => (show False by revert c_6; decide).elim)
        have hr0 := Option.some.inj hsp
        clear hsp
        obtain ⟨hq0, hr1⟩ := Prod.mk.inj hr0
        clear hr0
        obtain ⟨hq1, hr2⟩ := Prod.mk.inj hr1
        clear hr1
        subst hq0
        subst hq1
        subst hr2
        have hP9 := hP.sub (ws' := [(h0, .inr (8, [.ref qf0, .ref qf1])), (qf0, .inr (9, [.ref qf0_0, .ref qf0_1, .ref qf0_2, .int v0_3, .ref qf0_4, .ref qf0_5, .ref qf0_6, .ref qf0_7, .ref qf0_8, .int v0_9, .int u5_1, .int u4_1, .int u4_2])), (qf0_0, .inl (cf0_0, 3001, .inl f0_0)), (qf0_1, .inl (cf0_1, 3001, .inl f0_1))]) [1, 2, 3, 0] rfl
        have hD9 := hD.sub (ws' := [(h0, .inr (8, [.ref qf0, .ref qf1])), (qf0, .inr (9, [.ref qf0_0, .ref qf0_1, .ref qf0_2, .int v0_3, .ref qf0_4, .ref qf0_5, .ref qf0_6, .ref qf0_7, .ref qf0_8, .int v0_9, .int u5_1, .int u4_1, .int u4_2])), (qf0_0, .inl (cf0_0, 3001, .inl f0_0)), (qf0_1, .inl (cf0_1, 3001, .inl f0_1))]) [1, 2, 3, 0] (by decide) rfl
        have hK9 := hK.sub (tys' := [(cf0_0, .int), (cf0_1, .int)]) [1, 0] rfl
        exact W.vret hx hb hr (fun t ht hW => ⟨⟨(), rfl, trivial, by rw [ht]; exact hP9, va_K.moved hW.alike hK9, hD9⟩, hS.F ht⟩) hS.2.2 dX8_readStatement_163
      · rw [if_neg (by decide)] at hsp
        refine lv_if_eq (tgt := 163) hx hb dX8_readStatement_90 (by decide) (fun c_7 => (show False by revert c_7; decide).elim) (fun c_7 => ?_)
        refine lv_aload_n hx hb dX8_readStatement_93 rfl (lv_at hl 0 rfl) ?_
        refine lv_iload_n hx hb dX8_readStatement_94 rfl (lv_at hl 1 rfl) ?_
        refine lv_iconst (v := 1) hx hb dX8_readStatement_95 (by decide) ?_
        refine lv_iadd hx hb dX8_readStatement_96 ?_
        obtain ⟨⟨u6_0, u6_1, u6_2⟩, hu_6, hsp⟩ := ox_bind hsp
        try dsimp only at hsp
        have hPc := hP.sub (ws' := [(h0, .inr (8, [.ref qf0, .ref qf1])), (qf0, .inr (9, [.ref qf0_0, .ref qf0_1, .ref qf0_2, .int v0_3, .ref qf0_4, .ref qf0_5, .ref qf0_6, .ref qf0_7, .ref qf0_8, .int v0_9, .int u5_1, .int u4_1, .int u4_2])), (qf0_0, .inl (cf0_0, 3001, .inl f0_0)), (qf0_1, .inl (cf0_1, 3001, .inl f0_1))]) [1, 2, 3, 0] rfl
        have hDc := hD.sub (ws' := [(h0, .inr (8, [.ref qf0, .ref qf1])), (qf0, .inr (9, [.ref qf0_0, .ref qf0_1, .ref qf0_2, .int v0_3, .ref qf0_4, .ref qf0_5, .ref qf0_6, .ref qf0_7, .ref qf0_8, .int v0_9, .int u5_1, .int u4_1, .int u4_2])), (qf0_0, .inl (cf0_0, 3001, .inl f0_0)), (qf0_1, .inl (cf0_1, 3001, .inl f0_1))]) [1, 2, 3, 0] (by decide) rfl
        have hKc := hK.sub (tys' := [(cf0_0, .int), (cf0_1, .int)]) [1, 0] rfl
        have hFc := va_free (wc := [(h0, .inr (8, [.ref qf0, .ref qf1])), (qf0, .inr (9, [.ref qf0_0, .ref qf0_1, .ref qf0_2, .int v0_3, .ref qf0_4, .ref qf0_5, .ref qf0_6, .ref qf0_7, .ref qf0_8, .int v0_9, .int u5_1, .int u4_1, .int u4_2])), (qf0_0, .inl (cf0_0, 3001, .inl f0_0)), (qf0_1, .inl (cf0_1, 3001, .inl f0_1))]) hD hS hA [1, 2, 3, 0] rfl
        refine va_callv (va_runV (As := [.int (a1 + 1)]) (rest := []) ⟨hx, hb, hml, hown, hts⟩ (ih_0 l dC dI H.size h0 ((a1 + 1)) qf0 qf1 qf0_0 qf0_1 qf0_2 v0_3 qf0_4 qf0_5 qf0_6 qf0_7 qf0_8 v0_9 u5_1 u4_1 u4_2 cf0_0 f0_0 cf0_1 f0_1 nf u6_0 u6_1 u6_2 hu_6) (cwV 1 hts gv_h8_36 rfl rfl rfl (by decide +kernel) ⟨by dsimp only [headSpec]; omega, by dsimp only [headSpec]; omega⟩) ⟨fun a U g mk q => by obtain ⟨q0, q1, qP, qK, qD⟩ := q; exact ⟨q0, q1, qP, va_K.moved (u := U) (U := U.calling g mk a) (Vm.Alike.refl U.vm) qK, qD⟩, va_recv hKc hPc (ci := 8) (q0 := 0) rfl rfl, fun U hU hW => ⟨rfl, by rw [hU], by rw [hU]; exact hPc, va_K.moved hW.alike hKc, hDc.weaken (fun _ _ _ _ => trivial)⟩⟩ rfl rfl hl.1 rfl (lv_room (Nat.le_of_ble_eq_true rfl)) dX8_readStatement_97 ⟨Nat.le_of_ble_eq_true rfl, Nat.le_of_ble_eq_true rfl⟩) hS (fun q _ h => hFc q h) hFc ?_
        clear hS
        intro u t H1 locs ht hvm hw hB hz1 hk1 hS
        obtain ⟨⟩ := u
        obtain ⟨hP1, hK1, hD1⟩ := hB
        rw [ht] at hP1
        have hK1 := va_K.moved hvm.symm hK1
        try dsimp only at hw
        have hPD := va_join (wr := []) (w1 := [(h0, .inr (8, [.ref qf0, .ref qf1])), (qf0, .inr (9, [.ref qf0_0, .ref qf0_1, .ref qf0_2, .int v0_3, .ref qf0_4, .ref qf0_5, .ref qf0_6, .ref qf0_7, .ref qf0_8, .int v0_9, .int u6_0, .int u6_1, .int u6_2])), (qf0_0, .inl (cf0_0, 3001, .inl f0_0)), (qf0_1, .inl (cf0_1, 3001, .inl f0_1))]) hP hD [1, 2, 3, 0] [] rfl rfl (by decide) (by decide) hk1 hFc hP1 hD1
        clear hP hD
        obtain ⟨hP, hD⟩ := hPD
        replace hK := (hK.sub (tys' := []) [] rfl).app hK1
        clear hPc hDc hKc hFc hP1 hK1 hD1 hz1 hk1 ht hvm
        generalize H1 = H at hP hS ⊢
        replace hP : va_P (dC, dI) vwCl [(h0, .inr (8, [.ref qf0, .ref qf1])), (qf0, .inr (9, [.ref qf0_0, .ref qf0_1, .ref qf0_2, .int v0_3, .ref qf0_4, .ref qf0_5, .ref qf0_6, .ref qf0_7, .ref qf0_8, .int v0_9, .int u6_0, .int u6_1, .int u6_2])), (qf0_0, .inl (cf0_0, 3001, .inl f0_0)), (qf0_1, .inl (cf0_1, 3001, .inl f0_1))] H := hP
        replace hD : va_D A [(h0, .inr (8, [.ref qf0, .ref qf1])), (qf0, .inr (9, [.ref qf0_0, .ref qf0_1, .ref qf0_2, .int v0_3, .ref qf0_4, .ref qf0_5, .ref qf0_6, .ref qf0_7, .ref qf0_8, .int v0_9, .int u6_0, .int u6_1, .int u6_2])), (qf0_0, .inl (cf0_0, 3001, .inl f0_0)), (qf0_1, .inl (cf0_1, 3001, .inl f0_1))] := hD
        replace hK : va_K (dC, dI) vwCl [(cf0_0, .int), (cf0_1, .int)] s := hK
        refine lv_goto (tgt := 163) hx hb dX8_readStatement_100 (by decide) ?_
        have hr0 := Option.some.inj hsp
        clear hsp
        obtain ⟨hq0, hr1⟩ := Prod.mk.inj hr0
        clear hr0
        obtain ⟨hq1, hr2⟩ := Prod.mk.inj hr1
        clear hr1
        subst hq0
        subst hq1
        subst hr2
        have hP9 := hP.sub (ws' := [(h0, .inr (8, [.ref qf0, .ref qf1])), (qf0, .inr (9, [.ref qf0_0, .ref qf0_1, .ref qf0_2, .int v0_3, .ref qf0_4, .ref qf0_5, .ref qf0_6, .ref qf0_7, .ref qf0_8, .int v0_9, .int u6_0, .int u6_1, .int u6_2])), (qf0_0, .inl (cf0_0, 3001, .inl f0_0)), (qf0_1, .inl (cf0_1, 3001, .inl f0_1))]) [0, 1, 2, 3] rfl
        have hD9 := hD.sub (ws' := [(h0, .inr (8, [.ref qf0, .ref qf1])), (qf0, .inr (9, [.ref qf0_0, .ref qf0_1, .ref qf0_2, .int v0_3, .ref qf0_4, .ref qf0_5, .ref qf0_6, .ref qf0_7, .ref qf0_8, .int v0_9, .int u6_0, .int u6_1, .int u6_2])), (qf0_0, .inl (cf0_0, 3001, .inl f0_0)), (qf0_1, .inl (cf0_1, 3001, .inl f0_1))]) [0, 1, 2, 3] (by decide) rfl
        have hK9 := hK.sub (tys' := [(cf0_0, .int), (cf0_1, .int)]) [0, 1] rfl
        exact W.vret hx hb hr (fun t ht hW => ⟨⟨(), rfl, trivial, by rw [ht]; exact hP9, va_K.moved hW.alike hK9, hD9⟩, hS.F ht⟩) hS.2.2 dX8_readStatement_163
    rw [if_neg hs_4] at hsp
    by_cases hs_8 : u2_0 = 29
    · rw [if_pos hs_8] at hsp
      refine lv_lookup (tgt := 120) hx hb dX8_readStatement_16 (by decide) (off := 104) (by rw [hs_8]; rfl) (by decide) ?_
      refine lv_aload_n hx hb dX8_readStatement_120 rfl (lv_at hl 0 rfl) ?_
      refine lv_iload_n hx hb dX8_readStatement_121 rfl (lv_at hl 1 rfl) ?_
      refine lv_iconst (v := 1) hx hb dX8_readStatement_122 (by decide) ?_
      refine lv_iadd hx hb dX8_readStatement_123 ?_
      obtain ⟨⟨u7_0, u7_1, u7_2⟩, hu_7, hsp⟩ := ox_bind hsp
      try dsimp only at hsp
      have hPc := hP.sub (ws' := [(h0, .inr (8, [.ref qf0, .ref qf1])), (qf0, .inr (9, [.ref qf0_0, .ref qf0_1, .ref qf0_2, .int v0_3, .ref qf0_4, .ref qf0_5, .ref qf0_6, .ref qf0_7, .ref qf0_8, .int v0_9, .int v0_10, .int u1_1, .int u1_2])), (qf0_0, .inl (cf0_0, 3001, .inl f0_0)), (qf0_1, .inl (cf0_1, 3001, .inl f0_1))]) [0, 2, 3, 1] rfl
      have hDc := hD.sub (ws' := [(h0, .inr (8, [.ref qf0, .ref qf1])), (qf0, .inr (9, [.ref qf0_0, .ref qf0_1, .ref qf0_2, .int v0_3, .ref qf0_4, .ref qf0_5, .ref qf0_6, .ref qf0_7, .ref qf0_8, .int v0_9, .int v0_10, .int u1_1, .int u1_2])), (qf0_0, .inl (cf0_0, 3001, .inl f0_0)), (qf0_1, .inl (cf0_1, 3001, .inl f0_1))]) [0, 2, 3, 1] (by decide) rfl
      have hKc := hK.sub (tys' := [(cf0_0, .int), (cf0_1, .int)]) [1, 0] rfl
      have hFc := va_free (wc := [(h0, .inr (8, [.ref qf0, .ref qf1])), (qf0, .inr (9, [.ref qf0_0, .ref qf0_1, .ref qf0_2, .int v0_3, .ref qf0_4, .ref qf0_5, .ref qf0_6, .ref qf0_7, .ref qf0_8, .int v0_9, .int v0_10, .int u1_1, .int u1_2])), (qf0_0, .inl (cf0_0, 3001, .inl f0_0)), (qf0_1, .inl (cf0_1, 3001, .inl f0_1))]) hD hS hA [0, 2, 3, 1] rfl
      refine va_callv (va_runV (As := [.int (a1 + 1)]) (rest := []) ⟨hx, hb, hml, hown, hts⟩ (ih_2 l dC dI H.size h0 ((a1 + 1)) qf0 qf1 qf0_0 qf0_1 qf0_2 v0_3 qf0_4 qf0_5 qf0_6 qf0_7 qf0_8 v0_9 v0_10 u1_1 u1_2 cf0_0 f0_0 cf0_1 f0_1 nf u7_0 u7_1 u7_2 hu_7) (cwV 1 hts gv_h8_37 rfl rfl rfl (by decide +kernel) ⟨by dsimp only [headSpec]; omega, by dsimp only [headSpec]; omega⟩) ⟨fun a U g mk q => by obtain ⟨q0, q1, qP, qK, qD⟩ := q; exact ⟨q0, q1, qP, va_K.moved (u := U) (U := U.calling g mk a) (Vm.Alike.refl U.vm) qK, qD⟩, va_recv hKc hPc (ci := 8) (q0 := 0) rfl rfl, fun U hU hW => ⟨rfl, by rw [hU], by rw [hU]; exact hPc, va_K.moved hW.alike hKc, hDc.weaken (fun _ _ _ _ => trivial)⟩⟩ rfl rfl hl.1 rfl (lv_room (Nat.le_of_ble_eq_true rfl)) dX8_readStatement_124 ⟨Nat.le_of_ble_eq_true rfl, Nat.le_of_ble_eq_true rfl⟩) hS (fun q _ h => hFc q h) hFc ?_
      clear hS
      intro u t H1 locs ht hvm hw hB hz1 hk1 hS
      obtain ⟨⟩ := u
      obtain ⟨hP1, hK1, hD1⟩ := hB
      rw [ht] at hP1
      have hK1 := va_K.moved hvm.symm hK1
      try dsimp only at hw
      have hPD := va_join (wr := []) (w1 := [(h0, .inr (8, [.ref qf0, .ref qf1])), (qf0, .inr (9, [.ref qf0_0, .ref qf0_1, .ref qf0_2, .int v0_3, .ref qf0_4, .ref qf0_5, .ref qf0_6, .ref qf0_7, .ref qf0_8, .int v0_9, .int u7_0, .int u7_1, .int u7_2])), (qf0_0, .inl (cf0_0, 3001, .inl f0_0)), (qf0_1, .inl (cf0_1, 3001, .inl f0_1))]) hP hD [0, 2, 3, 1] [] rfl rfl (by decide) (by decide) hk1 hFc hP1 hD1
      clear hP hD
      obtain ⟨hP, hD⟩ := hPD
      replace hK := (hK.sub (tys' := []) [] rfl).app hK1
      clear hPc hDc hKc hFc hP1 hK1 hD1 hz1 hk1 ht hvm
      generalize H1 = H at hP hS ⊢
      replace hP : va_P (dC, dI) vwCl [(h0, .inr (8, [.ref qf0, .ref qf1])), (qf0, .inr (9, [.ref qf0_0, .ref qf0_1, .ref qf0_2, .int v0_3, .ref qf0_4, .ref qf0_5, .ref qf0_6, .ref qf0_7, .ref qf0_8, .int v0_9, .int u7_0, .int u7_1, .int u7_2])), (qf0_0, .inl (cf0_0, 3001, .inl f0_0)), (qf0_1, .inl (cf0_1, 3001, .inl f0_1))] H := hP
      replace hD : va_D A [(h0, .inr (8, [.ref qf0, .ref qf1])), (qf0, .inr (9, [.ref qf0_0, .ref qf0_1, .ref qf0_2, .int v0_3, .ref qf0_4, .ref qf0_5, .ref qf0_6, .ref qf0_7, .ref qf0_8, .int v0_9, .int u7_0, .int u7_1, .int u7_2])), (qf0_0, .inl (cf0_0, 3001, .inl f0_0)), (qf0_1, .inl (cf0_1, 3001, .inl f0_1))] := hD
      replace hK : va_K (dC, dI) vwCl [(cf0_0, .int), (cf0_1, .int)] s := hK
      refine lv_goto (tgt := 163) hx hb dX8_readStatement_127 (by decide) ?_
      have hr0 := Option.some.inj hsp
      clear hsp
      obtain ⟨hq0, hr1⟩ := Prod.mk.inj hr0
      clear hr0
      obtain ⟨hq1, hr2⟩ := Prod.mk.inj hr1
      clear hr1
      subst hq0
      subst hq1
      subst hr2
      have hP9 := hP.sub (ws' := [(h0, .inr (8, [.ref qf0, .ref qf1])), (qf0, .inr (9, [.ref qf0_0, .ref qf0_1, .ref qf0_2, .int v0_3, .ref qf0_4, .ref qf0_5, .ref qf0_6, .ref qf0_7, .ref qf0_8, .int v0_9, .int u7_0, .int u7_1, .int u7_2])), (qf0_0, .inl (cf0_0, 3001, .inl f0_0)), (qf0_1, .inl (cf0_1, 3001, .inl f0_1))]) [0, 1, 2, 3] rfl
      have hD9 := hD.sub (ws' := [(h0, .inr (8, [.ref qf0, .ref qf1])), (qf0, .inr (9, [.ref qf0_0, .ref qf0_1, .ref qf0_2, .int v0_3, .ref qf0_4, .ref qf0_5, .ref qf0_6, .ref qf0_7, .ref qf0_8, .int v0_9, .int u7_0, .int u7_1, .int u7_2])), (qf0_0, .inl (cf0_0, 3001, .inl f0_0)), (qf0_1, .inl (cf0_1, 3001, .inl f0_1))]) [0, 1, 2, 3] (by decide) rfl
      have hK9 := hK.sub (tys' := [(cf0_0, .int), (cf0_1, .int)]) [0, 1] rfl
      exact W.vret hx hb hr (fun t ht hW => ⟨⟨(), rfl, trivial, by rw [ht]; exact hP9, va_K.moved hW.alike hK9, hD9⟩, hS.F ht⟩) hS.2.2 dX8_readStatement_163
    rw [if_neg hs_8] at hsp
    by_cases hs_9 : u2_0 = 31
    · rw [if_pos hs_9] at hsp
      refine lv_lookup (tgt := 103) hx hb dX8_readStatement_16 (by decide) (off := 87) (by rw [hs_9]; rfl) (by decide) ?_
      refine lv_aload_n hx hb dX8_readStatement_103 rfl (lv_at hl 0 rfl) ?_
      refine lv_iload_n hx hb dX8_readStatement_104 rfl (lv_at hl 1 rfl) ?_
      refine lv_iconst (v := 1) hx hb dX8_readStatement_105 (by decide) ?_
      refine lv_iadd hx hb dX8_readStatement_106 ?_
      obtain ⟨⟨u8_0, u8_1, u8_2⟩, hu_8, hsp⟩ := ox_bind hsp
      try dsimp only at hsp
      have hPc := hP.sub (ws' := [(h0, .inr (8, [.ref qf0, .ref qf1])), (qf0, .inr (9, [.ref qf0_0, .ref qf0_1, .ref qf0_2, .int v0_3, .ref qf0_4, .ref qf0_5, .ref qf0_6, .ref qf0_7, .ref qf0_8, .int v0_9, .int v0_10, .int u1_1, .int u1_2])), (qf0_0, .inl (cf0_0, 3001, .inl f0_0)), (qf0_1, .inl (cf0_1, 3001, .inl f0_1))]) [0, 2, 3, 1] rfl
      have hDc := hD.sub (ws' := [(h0, .inr (8, [.ref qf0, .ref qf1])), (qf0, .inr (9, [.ref qf0_0, .ref qf0_1, .ref qf0_2, .int v0_3, .ref qf0_4, .ref qf0_5, .ref qf0_6, .ref qf0_7, .ref qf0_8, .int v0_9, .int v0_10, .int u1_1, .int u1_2])), (qf0_0, .inl (cf0_0, 3001, .inl f0_0)), (qf0_1, .inl (cf0_1, 3001, .inl f0_1))]) [0, 2, 3, 1] (by decide) rfl
      have hKc := hK.sub (tys' := [(cf0_0, .int), (cf0_1, .int)]) [1, 0] rfl
      have hFc := va_free (wc := [(h0, .inr (8, [.ref qf0, .ref qf1])), (qf0, .inr (9, [.ref qf0_0, .ref qf0_1, .ref qf0_2, .int v0_3, .ref qf0_4, .ref qf0_5, .ref qf0_6, .ref qf0_7, .ref qf0_8, .int v0_9, .int v0_10, .int u1_1, .int u1_2])), (qf0_0, .inl (cf0_0, 3001, .inl f0_0)), (qf0_1, .inl (cf0_1, 3001, .inl f0_1))]) hD hS hA [0, 2, 3, 1] rfl
      refine va_callv (va_runV (As := [.int (a1 + 1)]) (rest := []) ⟨hx, hb, hml, hown, hts⟩ (v8_readCondition l dC dI H.size h0 ((a1 + 1)) qf0 qf1 qf0_0 qf0_1 qf0_2 v0_3 qf0_4 qf0_5 qf0_6 qf0_7 qf0_8 v0_9 v0_10 u1_1 u1_2 cf0_0 f0_0 cf0_1 f0_1 nf u8_0 u8_1 u8_2 hu_8) (cwV 1 hts gv_h8_35 rfl rfl rfl (by decide +kernel) ⟨by dsimp only [headSpec]; omega, by dsimp only [headSpec]; omega⟩) ⟨fun a U g mk q => by obtain ⟨q0, q1, qP, qK, qD⟩ := q; exact ⟨q0, q1, qP, va_K.moved (u := U) (U := U.calling g mk a) (Vm.Alike.refl U.vm) qK, qD⟩, va_recv hKc hPc (ci := 8) (q0 := 0) rfl rfl, fun U hU hW => ⟨rfl, by rw [hU], by rw [hU]; exact hPc, va_K.moved hW.alike hKc, hDc.weaken (fun _ _ _ _ => trivial)⟩⟩ rfl rfl hl.1 rfl (lv_room (Nat.le_of_ble_eq_true rfl)) dX8_readStatement_107 ⟨Nat.le_of_ble_eq_true rfl, Nat.le_of_ble_eq_true rfl⟩) hS (fun q _ h => hFc q h) hFc ?_
      clear hS
      intro u t H1 locs ht hvm hw hB hz1 hk1 hS
      obtain ⟨⟩ := u
      obtain ⟨hP1, hK1, hD1⟩ := hB
      rw [ht] at hP1
      have hK1 := va_K.moved hvm.symm hK1
      try dsimp only at hw
      have hPD := va_join (wr := []) (w1 := [(h0, .inr (8, [.ref qf0, .ref qf1])), (qf0, .inr (9, [.ref qf0_0, .ref qf0_1, .ref qf0_2, .int v0_3, .ref qf0_4, .ref qf0_5, .ref qf0_6, .ref qf0_7, .ref qf0_8, .int v0_9, .int u8_0, .int u8_1, .int u8_2])), (qf0_0, .inl (cf0_0, 3001, .inl f0_0)), (qf0_1, .inl (cf0_1, 3001, .inl f0_1))]) hP hD [0, 2, 3, 1] [] rfl rfl (by decide) (by decide) hk1 hFc hP1 hD1
      clear hP hD
      obtain ⟨hP, hD⟩ := hPD
      replace hK := (hK.sub (tys' := []) [] rfl).app hK1
      clear hPc hDc hKc hFc hP1 hK1 hD1 hz1 hk1 ht hvm
      generalize H1 = H at hP hS ⊢
      replace hP : va_P (dC, dI) vwCl [(h0, .inr (8, [.ref qf0, .ref qf1])), (qf0, .inr (9, [.ref qf0_0, .ref qf0_1, .ref qf0_2, .int v0_3, .ref qf0_4, .ref qf0_5, .ref qf0_6, .ref qf0_7, .ref qf0_8, .int v0_9, .int u8_0, .int u8_1, .int u8_2])), (qf0_0, .inl (cf0_0, 3001, .inl f0_0)), (qf0_1, .inl (cf0_1, 3001, .inl f0_1))] H := hP
      replace hD : va_D A [(h0, .inr (8, [.ref qf0, .ref qf1])), (qf0, .inr (9, [.ref qf0_0, .ref qf0_1, .ref qf0_2, .int v0_3, .ref qf0_4, .ref qf0_5, .ref qf0_6, .ref qf0_7, .ref qf0_8, .int v0_9, .int u8_0, .int u8_1, .int u8_2])), (qf0_0, .inl (cf0_0, 3001, .inl f0_0)), (qf0_1, .inl (cf0_1, 3001, .inl f0_1))] := hD
      replace hK : va_K (dC, dI) vwCl [(cf0_0, .int), (cf0_1, .int)] s := hK
      refine lv_aload_n hx hb dX8_readStatement_110 rfl (lv_at hl 0 rfl) ?_
      refine lv_iload_n hx hb dX8_readStatement_111 rfl (lv_at hl 1 rfl) ?_
      refine lv_iconst (v := 1) hx hb dX8_readStatement_112 (by decide) ?_
      refine lv_iadd hx hb dX8_readStatement_113 ?_
      obtain ⟨⟨u9_0, u9_1, u9_2⟩, hu_9, hsp⟩ := ox_bind hsp
      try dsimp only at hsp
      have hPc := hP.sub (ws' := [(h0, .inr (8, [.ref qf0, .ref qf1])), (qf0, .inr (9, [.ref qf0_0, .ref qf0_1, .ref qf0_2, .int v0_3, .ref qf0_4, .ref qf0_5, .ref qf0_6, .ref qf0_7, .ref qf0_8, .int v0_9, .int u8_0, .int u8_1, .int u8_2])), (qf0_0, .inl (cf0_0, 3001, .inl f0_0)), (qf0_1, .inl (cf0_1, 3001, .inl f0_1))]) [0, 1, 2, 3] rfl
      have hDc := hD.sub (ws' := [(h0, .inr (8, [.ref qf0, .ref qf1])), (qf0, .inr (9, [.ref qf0_0, .ref qf0_1, .ref qf0_2, .int v0_3, .ref qf0_4, .ref qf0_5, .ref qf0_6, .ref qf0_7, .ref qf0_8, .int v0_9, .int u8_0, .int u8_1, .int u8_2])), (qf0_0, .inl (cf0_0, 3001, .inl f0_0)), (qf0_1, .inl (cf0_1, 3001, .inl f0_1))]) [0, 1, 2, 3] (by decide) rfl
      have hKc := hK.sub (tys' := [(cf0_0, .int), (cf0_1, .int)]) [0, 1] rfl
      have hFc := va_free (wc := [(h0, .inr (8, [.ref qf0, .ref qf1])), (qf0, .inr (9, [.ref qf0_0, .ref qf0_1, .ref qf0_2, .int v0_3, .ref qf0_4, .ref qf0_5, .ref qf0_6, .ref qf0_7, .ref qf0_8, .int v0_9, .int u8_0, .int u8_1, .int u8_2])), (qf0_0, .inl (cf0_0, 3001, .inl f0_0)), (qf0_1, .inl (cf0_1, 3001, .inl f0_1))]) hD hS hA [0, 1, 2, 3] rfl
      refine va_callv (va_runV (As := [.int (a1 + 1)]) (rest := []) ⟨hx, hb, hml, hown, hts⟩ (ih_0 l dC dI H.size h0 ((a1 + 1)) qf0 qf1 qf0_0 qf0_1 qf0_2 v0_3 qf0_4 qf0_5 qf0_6 qf0_7 qf0_8 v0_9 u8_0 u8_1 u8_2 cf0_0 f0_0 cf0_1 f0_1 nf u9_0 u9_1 u9_2 hu_9) (cwV 1 hts gv_h8_36 rfl rfl rfl (by decide +kernel) ⟨by dsimp only [headSpec]; omega, by dsimp only [headSpec]; omega⟩) ⟨fun a U g mk q => by obtain ⟨q0, q1, qP, qK, qD⟩ := q; exact ⟨q0, q1, qP, va_K.moved (u := U) (U := U.calling g mk a) (Vm.Alike.refl U.vm) qK, qD⟩, va_recv hKc hPc (ci := 8) (q0 := 0) rfl rfl, fun U hU hW => ⟨rfl, by rw [hU], by rw [hU]; exact hPc, va_K.moved hW.alike hKc, hDc.weaken (fun _ _ _ _ => trivial)⟩⟩ rfl rfl hl.1 rfl (lv_room (Nat.le_of_ble_eq_true rfl)) dX8_readStatement_114 ⟨Nat.le_of_ble_eq_true rfl, Nat.le_of_ble_eq_true rfl⟩) hS (fun q _ h => hFc q h) hFc ?_
      clear hS
      intro u t H1 locs ht hvm hw hB hz1 hk1 hS
      obtain ⟨⟩ := u
      obtain ⟨hP1, hK1, hD1⟩ := hB
      rw [ht] at hP1
      have hK1 := va_K.moved hvm.symm hK1
      try dsimp only at hw
      have hPD := va_join (wr := []) (w1 := [(h0, .inr (8, [.ref qf0, .ref qf1])), (qf0, .inr (9, [.ref qf0_0, .ref qf0_1, .ref qf0_2, .int v0_3, .ref qf0_4, .ref qf0_5, .ref qf0_6, .ref qf0_7, .ref qf0_8, .int v0_9, .int u9_0, .int u9_1, .int u9_2])), (qf0_0, .inl (cf0_0, 3001, .inl f0_0)), (qf0_1, .inl (cf0_1, 3001, .inl f0_1))]) hP hD [0, 1, 2, 3] [] rfl rfl (by decide) (by decide) hk1 hFc hP1 hD1
      clear hP hD
      obtain ⟨hP, hD⟩ := hPD
      replace hK := (hK.sub (tys' := []) [] rfl).app hK1
      clear hPc hDc hKc hFc hP1 hK1 hD1 hz1 hk1 ht hvm
      generalize H1 = H at hP hS ⊢
      replace hP : va_P (dC, dI) vwCl [(h0, .inr (8, [.ref qf0, .ref qf1])), (qf0, .inr (9, [.ref qf0_0, .ref qf0_1, .ref qf0_2, .int v0_3, .ref qf0_4, .ref qf0_5, .ref qf0_6, .ref qf0_7, .ref qf0_8, .int v0_9, .int u9_0, .int u9_1, .int u9_2])), (qf0_0, .inl (cf0_0, 3001, .inl f0_0)), (qf0_1, .inl (cf0_1, 3001, .inl f0_1))] H := hP
      replace hD : va_D A [(h0, .inr (8, [.ref qf0, .ref qf1])), (qf0, .inr (9, [.ref qf0_0, .ref qf0_1, .ref qf0_2, .int v0_3, .ref qf0_4, .ref qf0_5, .ref qf0_6, .ref qf0_7, .ref qf0_8, .int v0_9, .int u9_0, .int u9_1, .int u9_2])), (qf0_0, .inl (cf0_0, 3001, .inl f0_0)), (qf0_1, .inl (cf0_1, 3001, .inl f0_1))] := hD
      replace hK : va_K (dC, dI) vwCl [(cf0_0, .int), (cf0_1, .int)] s := hK
      refine lv_goto (tgt := 163) hx hb dX8_readStatement_117 (by decide) ?_
      have hr0 := Option.some.inj hsp
      clear hsp
      obtain ⟨hq0, hr1⟩ := Prod.mk.inj hr0
      clear hr0
      obtain ⟨hq1, hr2⟩ := Prod.mk.inj hr1
      clear hr1
      subst hq0
      subst hq1
      subst hr2
      have hP9 := hP.sub (ws' := [(h0, .inr (8, [.ref qf0, .ref qf1])), (qf0, .inr (9, [.ref qf0_0, .ref qf0_1, .ref qf0_2, .int v0_3, .ref qf0_4, .ref qf0_5, .ref qf0_6, .ref qf0_7, .ref qf0_8, .int v0_9, .int u9_0, .int u9_1, .int u9_2])), (qf0_0, .inl (cf0_0, 3001, .inl f0_0)), (qf0_1, .inl (cf0_1, 3001, .inl f0_1))]) [0, 1, 2, 3] rfl
      have hD9 := hD.sub (ws' := [(h0, .inr (8, [.ref qf0, .ref qf1])), (qf0, .inr (9, [.ref qf0_0, .ref qf0_1, .ref qf0_2, .int v0_3, .ref qf0_4, .ref qf0_5, .ref qf0_6, .ref qf0_7, .ref qf0_8, .int v0_9, .int u9_0, .int u9_1, .int u9_2])), (qf0_0, .inl (cf0_0, 3001, .inl f0_0)), (qf0_1, .inl (cf0_1, 3001, .inl f0_1))]) [0, 1, 2, 3] (by decide) rfl
      have hK9 := hK.sub (tys' := [(cf0_0, .int), (cf0_1, .int)]) [0, 1] rfl
      exact W.vret hx hb hr (fun t ht hW => ⟨⟨(), rfl, trivial, by rw [ht]; exact hP9, va_K.moved hW.alike hK9, hD9⟩, hS.F ht⟩) hS.2.2 dX8_readStatement_163
    rw [if_neg hs_9] at hsp
    by_cases hs_10 : u2_0 = 42
    · rw [if_pos hs_10] at hsp
      refine lv_lookup (tgt := 60) hx hb dX8_readStatement_16 (by decide) (off := 44) (by rw [hs_10]; rfl) (by decide) ?_
      refine lv_aload_n hx hb dX8_readStatement_60 rfl (lv_at hl 0 rfl) ?_
      refine lv_iload_n hx hb dX8_readStatement_61 rfl (lv_at hl 1 rfl) ?_
      refine lv_iconst (v := 1) hx hb dX8_readStatement_62 (by decide) ?_
      refine lv_iadd hx hb dX8_readStatement_63 ?_
      obtain ⟨⟨u10_0, u10_1, u10_2⟩, hu_10, hsp⟩ := ox_bind hsp
      try dsimp only at hsp
      have hPc := hP.sub (ws' := [(h0, .inr (8, [.ref qf0, .ref qf1])), (qf0, .inr (9, [.ref qf0_0, .ref qf0_1, .ref qf0_2, .int v0_3, .ref qf0_4, .ref qf0_5, .ref qf0_6, .ref qf0_7, .ref qf0_8, .int v0_9, .int v0_10, .int u1_1, .int u1_2])), (qf0_0, .inl (cf0_0, 3001, .inl f0_0)), (qf0_1, .inl (cf0_1, 3001, .inl f0_1))]) [0, 2, 3, 1] rfl
      have hDc := hD.sub (ws' := [(h0, .inr (8, [.ref qf0, .ref qf1])), (qf0, .inr (9, [.ref qf0_0, .ref qf0_1, .ref qf0_2, .int v0_3, .ref qf0_4, .ref qf0_5, .ref qf0_6, .ref qf0_7, .ref qf0_8, .int v0_9, .int v0_10, .int u1_1, .int u1_2])), (qf0_0, .inl (cf0_0, 3001, .inl f0_0)), (qf0_1, .inl (cf0_1, 3001, .inl f0_1))]) [0, 2, 3, 1] (by decide) rfl
      have hKc := hK.sub (tys' := [(cf0_0, .int), (cf0_1, .int)]) [1, 0] rfl
      have hFc := va_free (wc := [(h0, .inr (8, [.ref qf0, .ref qf1])), (qf0, .inr (9, [.ref qf0_0, .ref qf0_1, .ref qf0_2, .int v0_3, .ref qf0_4, .ref qf0_5, .ref qf0_6, .ref qf0_7, .ref qf0_8, .int v0_9, .int v0_10, .int u1_1, .int u1_2])), (qf0_0, .inl (cf0_0, 3001, .inl f0_0)), (qf0_1, .inl (cf0_1, 3001, .inl f0_1))]) hD hS hA [0, 2, 3, 1] rfl
      refine va_callv (va_runV (As := [.int (a1 + 1)]) (rest := []) ⟨hx, hb, hml, hown, hts⟩ (ih_1 l dC dI H.size h0 ((a1 + 1)) qf0 qf1 qf0_0 qf0_1 qf0_2 v0_3 qf0_4 qf0_5 qf0_6 qf0_7 qf0_8 v0_9 v0_10 u1_1 u1_2 cf0_0 f0_0 cf0_1 f0_1 nf u10_0 u10_1 u10_2 hu_10) (cwV 1 hts gv_h8_38 rfl rfl rfl (by decide +kernel) ⟨by dsimp only [headSpec]; omega, by dsimp only [headSpec]; omega⟩) ⟨fun a U g mk q => by obtain ⟨q0, q1, qP, qK, qD⟩ := q; exact ⟨q0, q1, qP, va_K.moved (u := U) (U := U.calling g mk a) (Vm.Alike.refl U.vm) qK, qD⟩, va_recv hKc hPc (ci := 8) (q0 := 0) rfl rfl, fun U hU hW => ⟨rfl, by rw [hU], by rw [hU]; exact hPc, va_K.moved hW.alike hKc, hDc.weaken (fun _ _ _ _ => trivial)⟩⟩ rfl rfl hl.1 rfl (lv_room (Nat.le_of_ble_eq_true rfl)) dX8_readStatement_64 ⟨Nat.le_of_ble_eq_true rfl, Nat.le_of_ble_eq_true rfl⟩) hS (fun q _ h => hFc q h) hFc ?_
      clear hS
      intro u t H1 locs ht hvm hw hB hz1 hk1 hS
      obtain ⟨⟩ := u
      obtain ⟨hP1, hK1, hD1⟩ := hB
      rw [ht] at hP1
      have hK1 := va_K.moved hvm.symm hK1
      try dsimp only at hw
      have hPD := va_join (wr := []) (w1 := [(h0, .inr (8, [.ref qf0, .ref qf1])), (qf0, .inr (9, [.ref qf0_0, .ref qf0_1, .ref qf0_2, .int v0_3, .ref qf0_4, .ref qf0_5, .ref qf0_6, .ref qf0_7, .ref qf0_8, .int v0_9, .int u10_0, .int u10_1, .int u10_2])), (qf0_0, .inl (cf0_0, 3001, .inl f0_0)), (qf0_1, .inl (cf0_1, 3001, .inl f0_1))]) hP hD [0, 2, 3, 1] [] rfl rfl (by decide) (by decide) hk1 hFc hP1 hD1
      clear hP hD
      obtain ⟨hP, hD⟩ := hPD
      replace hK := (hK.sub (tys' := []) [] rfl).app hK1
      clear hPc hDc hKc hFc hP1 hK1 hD1 hz1 hk1 ht hvm
      generalize H1 = H at hP hS ⊢
      replace hP : va_P (dC, dI) vwCl [(h0, .inr (8, [.ref qf0, .ref qf1])), (qf0, .inr (9, [.ref qf0_0, .ref qf0_1, .ref qf0_2, .int v0_3, .ref qf0_4, .ref qf0_5, .ref qf0_6, .ref qf0_7, .ref qf0_8, .int v0_9, .int u10_0, .int u10_1, .int u10_2])), (qf0_0, .inl (cf0_0, 3001, .inl f0_0)), (qf0_1, .inl (cf0_1, 3001, .inl f0_1))] H := hP
      replace hD : va_D A [(h0, .inr (8, [.ref qf0, .ref qf1])), (qf0, .inr (9, [.ref qf0_0, .ref qf0_1, .ref qf0_2, .int v0_3, .ref qf0_4, .ref qf0_5, .ref qf0_6, .ref qf0_7, .ref qf0_8, .int v0_9, .int u10_0, .int u10_1, .int u10_2])), (qf0_0, .inl (cf0_0, 3001, .inl f0_0)), (qf0_1, .inl (cf0_1, 3001, .inl f0_1))] := hD
      replace hK : va_K (dC, dI) vwCl [(cf0_0, .int), (cf0_1, .int)] s := hK
      refine lv_goto (tgt := 163) hx hb dX8_readStatement_67 (by decide) ?_
      have hr0 := Option.some.inj hsp
      clear hsp
      obtain ⟨hq0, hr1⟩ := Prod.mk.inj hr0
      clear hr0
      obtain ⟨hq1, hr2⟩ := Prod.mk.inj hr1
      clear hr1
      subst hq0
      subst hq1
      subst hr2
      have hP9 := hP.sub (ws' := [(h0, .inr (8, [.ref qf0, .ref qf1])), (qf0, .inr (9, [.ref qf0_0, .ref qf0_1, .ref qf0_2, .int v0_3, .ref qf0_4, .ref qf0_5, .ref qf0_6, .ref qf0_7, .ref qf0_8, .int v0_9, .int u10_0, .int u10_1, .int u10_2])), (qf0_0, .inl (cf0_0, 3001, .inl f0_0)), (qf0_1, .inl (cf0_1, 3001, .inl f0_1))]) [0, 1, 2, 3] rfl
      have hD9 := hD.sub (ws' := [(h0, .inr (8, [.ref qf0, .ref qf1])), (qf0, .inr (9, [.ref qf0_0, .ref qf0_1, .ref qf0_2, .int v0_3, .ref qf0_4, .ref qf0_5, .ref qf0_6, .ref qf0_7, .ref qf0_8, .int v0_9, .int u10_0, .int u10_1, .int u10_2])), (qf0_0, .inl (cf0_0, 3001, .inl f0_0)), (qf0_1, .inl (cf0_1, 3001, .inl f0_1))]) [0, 1, 2, 3] (by decide) rfl
      have hK9 := hK.sub (tys' := [(cf0_0, .int), (cf0_1, .int)]) [0, 1] rfl
      exact W.vret hx hb hr (fun t ht hW => ⟨⟨(), rfl, trivial, by rw [ht]; exact hP9, va_K.moved hW.alike hK9, hD9⟩, hS.F ht⟩) hS.2.2 dX8_readStatement_163
    rw [if_neg hs_10] at hsp
    refine lv_lookup (tgt := 130) hx hb dX8_readStatement_16 (by decide) (off := 114) (by show Op.lookupswitch.offset [(18, 54), (29, 104), (31, 87), (42, 44)] 114 (u2_0 : Int32).toInt = 114; rw [lv_osw hs_4 (a := 18) rfl, lv_osw hs_8 (a := 29) rfl, lv_osw hs_9 (a := 31) rfl, lv_osw hs_10 (a := 42) rfl]; rfl) (by decide) ?_
    refine lv_aload_n hx hb dX8_readStatement_130 rfl (lv_at hl 0 rfl) ?_
    refine va_get (D := (dC, dI)) (ci := 8) (v := .ref qf0) (C := RX8) (T := TX8) (N := 2) hx hb hts uV_h8_X8 hown hK hP 0 rfl rfl 0 (by decide) (hts (.fieldLink RX8 7 "ClassMill$Syntax" "text" "LClassMill$Text;") mw_h8_135) (fun _ h9 => h9) rfl dX8_readStatement_131 ?_
    obtain ⟨u11_0, hu_11, hsp⟩ := ox_bind hsp
    try dsimp only at hsp
    have hPc := hP.sub (ws' := [(qf0, .inr (9, [.ref qf0_0, .ref qf0_1, .ref qf0_2, .int v0_3, .ref qf0_4, .ref qf0_5, .ref qf0_6, .ref qf0_7, .ref qf0_8, .int v0_9, .int v0_10, .int u1_1, .int u1_2])), (qf0_0, .inl (cf0_0, 3001, .inl f0_0))]) [2, 3] rfl
    have hDc := hD.sub (ws' := [(qf0, .inr (9, [.ref qf0_0, .ref qf0_1, .ref qf0_2, .int v0_3, .ref qf0_4, .ref qf0_5, .ref qf0_6, .ref qf0_7, .ref qf0_8, .int v0_9, .int v0_10, .int u1_1, .int u1_2])), (qf0_0, .inl (cf0_0, 3001, .inl f0_0))]) [2, 3] (by decide) rfl
    have hKc := hK.sub (tys' := [(cf0_0, .int)]) [1] rfl
    have hFc := va_free (wc := [(qf0, .inr (9, [.ref qf0_0, .ref qf0_1, .ref qf0_2, .int v0_3, .ref qf0_4, .ref qf0_5, .ref qf0_6, .ref qf0_7, .ref qf0_8, .int v0_9, .int v0_10, .int u1_1, .int u1_2])), (qf0_0, .inl (cf0_0, 3001, .inl f0_0))]) hD hS hA [2, 3] rfl
    refine va_calli (va_runV (As := []) (rest := []) ⟨hx, hb, hml, hown, hts⟩ (t9_beginsVariable l dC dI H.size qf0 qf0_0 qf0_1 qf0_2 v0_3 qf0_4 qf0_5 qf0_6 qf0_7 qf0_8 v0_9 v0_10 u1_1 u1_2 cf0_0 f0_0 nf u11_0 hu_11) (cwV 0 hts gv_h8_39 rfl rfl rfl (by decide +kernel) ⟨by dsimp only [headSpec]; omega, by dsimp only [headSpec]; omega⟩) ⟨fun a U g mk q => by obtain ⟨q0, q1, qP, qK, qD⟩ := q; exact ⟨q0, q1, qP, va_K.moved (u := U) (U := U.calling g mk a) (Vm.Alike.refl U.vm) qK, qD⟩, va_recv hKc hPc (ci := 9) (q0 := 0) rfl rfl, fun U hU hW => ⟨rfl, by rw [hU], by rw [hU]; exact hPc, va_K.moved hW.alike hKc, hDc.weaken (fun _ _ _ _ => trivial)⟩⟩ rfl rfl hl.1 rfl (lv_room (Nat.le_of_ble_eq_true rfl)) dX8_readStatement_134 ⟨Nat.le_of_ble_eq_true rfl, Nat.le_of_ble_eq_true rfl⟩) hS (fun q _ h => hFc q h) hFc ?_
    clear hS
    intro r_11 u t H1 locs ht hvm hw hB hz1 hk1 hS
    obtain ⟨⟩ := u
    obtain ⟨hP1, hK1, hD1⟩ := hB
    rw [ht] at hP1
    have hK1 := va_K.moved hvm.symm hK1
    try dsimp only at hw
    have hPD := va_join (wr := [(h0, .inr (8, [.ref qf0, .ref qf1])), (qf0_1, .inl (cf0_1, 3001, .inl f0_1))]) (w1 := [(qf0, .inr (9, [.ref qf0_0, .ref qf0_1, .ref qf0_2, .int v0_3, .ref qf0_4, .ref qf0_5, .ref qf0_6, .ref qf0_7, .ref qf0_8, .int v0_9, .int v0_10, .int u1_1, .int u1_2])), (qf0_0, .inl (cf0_0, 3001, .inl f0_0))]) hP hD [2, 3] [0, 1] rfl rfl (by decide) (by decide) hk1 hFc hP1 hD1
    clear hP hD
    obtain ⟨hP, hD⟩ := hPD
    replace hK := (hK.sub (tys' := [(cf0_1, .int)]) [0] rfl).app hK1
    clear hPc hDc hKc hFc hP1 hK1 hD1 hz1 hk1 ht hvm
    generalize H1 = H at hP hS ⊢
    replace hP : va_P (dC, dI) vwCl [(h0, .inr (8, [.ref qf0, .ref qf1])), (qf0_1, .inl (cf0_1, 3001, .inl f0_1)), (qf0, .inr (9, [.ref qf0_0, .ref qf0_1, .ref qf0_2, .int v0_3, .ref qf0_4, .ref qf0_5, .ref qf0_6, .ref qf0_7, .ref qf0_8, .int v0_9, .int v0_10, .int u1_1, .int u1_2])), (qf0_0, .inl (cf0_0, 3001, .inl f0_0))] H := hP
    replace hD : va_D A [(h0, .inr (8, [.ref qf0, .ref qf1])), (qf0_1, .inl (cf0_1, 3001, .inl f0_1)), (qf0, .inr (9, [.ref qf0_0, .ref qf0_1, .ref qf0_2, .int v0_3, .ref qf0_4, .ref qf0_5, .ref qf0_6, .ref qf0_7, .ref qf0_8, .int v0_9, .int v0_10, .int u1_1, .int u1_2])), (qf0_0, .inl (cf0_0, 3001, .inl f0_0))] := hD
    replace hK : va_K (dC, dI) vwCl [(cf0_1, .int), (cf0_0, .int)] s := hK
    obtain ⟨rfl, hz_11⟩ := hw
    rcases hz_11 with rfl | rfl
    · rw [if_pos rfl] at hsp
      refine lv_if_eq (tgt := 150) hx hb dX8_readStatement_137 (by decide) (fun c_12 => ?_) (fun c_12 => (show False by revert c_12; decide).elim)
      refine lv_aload_n hx hb dX8_readStatement_150 rfl (lv_at hl 0 rfl) ?_
      refine lv_iload_n hx hb dX8_readStatement_151 rfl (lv_at hl 1 rfl) ?_
      refine lv_iconst (v := 1) hx hb dX8_readStatement_152 (by decide) ?_
      refine lv_iadd hx hb dX8_readStatement_153 ?_
      obtain ⟨⟨u12_0, u12_1, u12_2⟩, hu_12, hsp⟩ := ox_bind hsp
      try dsimp only at hsp
      have hPc := hP.sub (ws' := [(h0, .inr (8, [.ref qf0, .ref qf1])), (qf0, .inr (9, [.ref qf0_0, .ref qf0_1, .ref qf0_2, .int v0_3, .ref qf0_4, .ref qf0_5, .ref qf0_6, .ref qf0_7, .ref qf0_8, .int v0_9, .int v0_10, .int u1_1, .int u1_2])), (qf0_0, .inl (cf0_0, 3001, .inl f0_0)), (qf0_1, .inl (cf0_1, 3001, .inl f0_1))]) [0, 2, 3, 1] rfl
      have hDc := hD.sub (ws' := [(h0, .inr (8, [.ref qf0, .ref qf1])), (qf0, .inr (9, [.ref qf0_0, .ref qf0_1, .ref qf0_2, .int v0_3, .ref qf0_4, .ref qf0_5, .ref qf0_6, .ref qf0_7, .ref qf0_8, .int v0_9, .int v0_10, .int u1_1, .int u1_2])), (qf0_0, .inl (cf0_0, 3001, .inl f0_0)), (qf0_1, .inl (cf0_1, 3001, .inl f0_1))]) [0, 2, 3, 1] (by decide) rfl
      have hKc := hK.sub (tys' := [(cf0_0, .int), (cf0_1, .int)]) [1, 0] rfl
      have hFc := va_free (wc := [(h0, .inr (8, [.ref qf0, .ref qf1])), (qf0, .inr (9, [.ref qf0_0, .ref qf0_1, .ref qf0_2, .int v0_3, .ref qf0_4, .ref qf0_5, .ref qf0_6, .ref qf0_7, .ref qf0_8, .int v0_9, .int v0_10, .int u1_1, .int u1_2])), (qf0_0, .inl (cf0_0, 3001, .inl f0_0)), (qf0_1, .inl (cf0_1, 3001, .inl f0_1))]) hD hS hA [0, 2, 3, 1] rfl
      refine va_callv (va_runV (As := [.int (a1 + 1)]) (rest := []) ⟨hx, hb, hml, hown, hts⟩ (v8_readPlain l dC dI H.size h0 ((a1 + 1)) qf0 qf1 qf0_0 qf0_1 qf0_2 v0_3 qf0_4 qf0_5 qf0_6 qf0_7 qf0_8 v0_9 v0_10 u1_1 u1_2 cf0_0 f0_0 cf0_1 f0_1 nf u12_0 u12_1 u12_2 hu_12) (cwV 1 hts gv_h8_40 rfl rfl rfl (by decide +kernel) ⟨by dsimp only [headSpec]; omega, by dsimp only [headSpec]; omega⟩) ⟨fun a U g mk q => by obtain ⟨q0, q1, qP, qK, qD⟩ := q; exact ⟨q0, q1, qP, va_K.moved (u := U) (U := U.calling g mk a) (Vm.Alike.refl U.vm) qK, qD⟩, va_recv hKc hPc (ci := 8) (q0 := 0) rfl rfl, fun U hU hW => ⟨rfl, by rw [hU], by rw [hU]; exact hPc, va_K.moved hW.alike hKc, hDc.weaken (fun _ _ _ _ => trivial)⟩⟩ rfl rfl hl.1 rfl (lv_room (Nat.le_of_ble_eq_true rfl)) dX8_readStatement_154 ⟨Nat.le_of_ble_eq_true rfl, Nat.le_of_ble_eq_true rfl⟩) hS (fun q _ h => hFc q h) hFc ?_
      clear hS
      intro u t H1 locs ht hvm hw hB hz1 hk1 hS
      obtain ⟨⟩ := u
      obtain ⟨hP1, hK1, hD1⟩ := hB
      rw [ht] at hP1
      have hK1 := va_K.moved hvm.symm hK1
      try dsimp only at hw
      have hPD := va_join (wr := []) (w1 := [(h0, .inr (8, [.ref qf0, .ref qf1])), (qf0, .inr (9, [.ref qf0_0, .ref qf0_1, .ref qf0_2, .int v0_3, .ref qf0_4, .ref qf0_5, .ref qf0_6, .ref qf0_7, .ref qf0_8, .int v0_9, .int u12_0, .int u12_1, .int u12_2])), (qf0_0, .inl (cf0_0, 3001, .inl f0_0)), (qf0_1, .inl (cf0_1, 3001, .inl f0_1))]) hP hD [0, 2, 3, 1] [] rfl rfl (by decide) (by decide) hk1 hFc hP1 hD1
      clear hP hD
      obtain ⟨hP, hD⟩ := hPD
      replace hK := (hK.sub (tys' := []) [] rfl).app hK1
      clear hPc hDc hKc hFc hP1 hK1 hD1 hz1 hk1 ht hvm
      generalize H1 = H at hP hS ⊢
      replace hP : va_P (dC, dI) vwCl [(h0, .inr (8, [.ref qf0, .ref qf1])), (qf0, .inr (9, [.ref qf0_0, .ref qf0_1, .ref qf0_2, .int v0_3, .ref qf0_4, .ref qf0_5, .ref qf0_6, .ref qf0_7, .ref qf0_8, .int v0_9, .int u12_0, .int u12_1, .int u12_2])), (qf0_0, .inl (cf0_0, 3001, .inl f0_0)), (qf0_1, .inl (cf0_1, 3001, .inl f0_1))] H := hP
      replace hD : va_D A [(h0, .inr (8, [.ref qf0, .ref qf1])), (qf0, .inr (9, [.ref qf0_0, .ref qf0_1, .ref qf0_2, .int v0_3, .ref qf0_4, .ref qf0_5, .ref qf0_6, .ref qf0_7, .ref qf0_8, .int v0_9, .int u12_0, .int u12_1, .int u12_2])), (qf0_0, .inl (cf0_0, 3001, .inl f0_0)), (qf0_1, .inl (cf0_1, 3001, .inl f0_1))] := hD
      replace hK : va_K (dC, dI) vwCl [(cf0_0, .int), (cf0_1, .int)] s := hK
      refine lv_aload_n hx hb dX8_readStatement_157 rfl (lv_at hl 0 rfl) ?_
      refine lv_bipush (v := 46) hx hb dX8_readStatement_158 (by decide) ?_
      obtain ⟨⟨u13_0, u13_1, u13_2⟩, hu_13, hsp⟩ := ox_bind hsp
      try dsimp only at hsp
      have hPc := hP.sub (ws' := [(h0, .inr (8, [.ref qf0, .ref qf1])), (qf0, .inr (9, [.ref qf0_0, .ref qf0_1, .ref qf0_2, .int v0_3, .ref qf0_4, .ref qf0_5, .ref qf0_6, .ref qf0_7, .ref qf0_8, .int v0_9, .int u12_0, .int u12_1, .int u12_2])), (qf0_0, .inl (cf0_0, 3001, .inl f0_0)), (qf0_1, .inl (cf0_1, 3001, .inl f0_1))]) [0, 1, 2, 3] rfl
      have hDc := hD.sub (ws' := [(h0, .inr (8, [.ref qf0, .ref qf1])), (qf0, .inr (9, [.ref qf0_0, .ref qf0_1, .ref qf0_2, .int v0_3, .ref qf0_4, .ref qf0_5, .ref qf0_6, .ref qf0_7, .ref qf0_8, .int v0_9, .int u12_0, .int u12_1, .int u12_2])), (qf0_0, .inl (cf0_0, 3001, .inl f0_0)), (qf0_1, .inl (cf0_1, 3001, .inl f0_1))]) [0, 1, 2, 3] (by decide) rfl
      have hKc := hK.sub (tys' := [(cf0_0, .int), (cf0_1, .int)]) [0, 1] rfl
      have hFc := va_free (wc := [(h0, .inr (8, [.ref qf0, .ref qf1])), (qf0, .inr (9, [.ref qf0_0, .ref qf0_1, .ref qf0_2, .int v0_3, .ref qf0_4, .ref qf0_5, .ref qf0_6, .ref qf0_7, .ref qf0_8, .int v0_9, .int u12_0, .int u12_1, .int u12_2])), (qf0_0, .inl (cf0_0, 3001, .inl f0_0)), (qf0_1, .inl (cf0_1, 3001, .inl f0_1))]) hD hS hA [0, 1, 2, 3] rfl
      refine va_callv (va_runV (As := [.int 46]) (rest := []) ⟨hx, hb, hml, hown, hts⟩ (t8_need l dC dI H.size h0 46 qf0 qf1 qf0_0 qf0_1 qf0_2 v0_3 qf0_4 qf0_5 qf0_6 qf0_7 qf0_8 v0_9 u12_0 u12_1 u12_2 cf0_0 f0_0 cf0_1 f0_1 nf u13_0 u13_1 u13_2 hu_13) (cwV 1 hts gv_h8_23 rfl rfl rfl (by decide +kernel) ⟨by dsimp only [headSpec]; omega, by dsimp only [headSpec]; omega⟩) ⟨fun a U g mk q => by obtain ⟨q0, q1, qP, qK, qD⟩ := q; exact ⟨q0, q1, qP, va_K.moved (u := U) (U := U.calling g mk a) (Vm.Alike.refl U.vm) qK, qD⟩, va_recv hKc hPc (ci := 8) (q0 := 0) rfl rfl, fun U hU hW => ⟨rfl, by rw [hU], by rw [hU]; exact hPc, va_K.moved hW.alike hKc, hDc.weaken (fun _ _ _ _ => trivial)⟩⟩ rfl rfl hl.1 rfl (lv_room (Nat.le_of_ble_eq_true rfl)) dX8_readStatement_160 ⟨Nat.le_of_ble_eq_true rfl, Nat.le_of_ble_eq_true rfl⟩) hS (fun q _ h => hFc q h) hFc ?_
      clear hS
      intro u t H1 locs ht hvm hw hB hz1 hk1 hS
      obtain ⟨⟩ := u
      obtain ⟨hP1, hK1, hD1⟩ := hB
      rw [ht] at hP1
      have hK1 := va_K.moved hvm.symm hK1
      try dsimp only at hw
      have hPD := va_join (wr := []) (w1 := [(h0, .inr (8, [.ref qf0, .ref qf1])), (qf0, .inr (9, [.ref qf0_0, .ref qf0_1, .ref qf0_2, .int v0_3, .ref qf0_4, .ref qf0_5, .ref qf0_6, .ref qf0_7, .ref qf0_8, .int v0_9, .int u13_0, .int u13_1, .int u13_2])), (qf0_0, .inl (cf0_0, 3001, .inl f0_0)), (qf0_1, .inl (cf0_1, 3001, .inl f0_1))]) hP hD [0, 1, 2, 3] [] rfl rfl (by decide) (by decide) hk1 hFc hP1 hD1
      clear hP hD
      obtain ⟨hP, hD⟩ := hPD
      replace hK := (hK.sub (tys' := []) [] rfl).app hK1
      clear hPc hDc hKc hFc hP1 hK1 hD1 hz1 hk1 ht hvm
      generalize H1 = H at hP hS ⊢
      replace hP : va_P (dC, dI) vwCl [(h0, .inr (8, [.ref qf0, .ref qf1])), (qf0, .inr (9, [.ref qf0_0, .ref qf0_1, .ref qf0_2, .int v0_3, .ref qf0_4, .ref qf0_5, .ref qf0_6, .ref qf0_7, .ref qf0_8, .int v0_9, .int u13_0, .int u13_1, .int u13_2])), (qf0_0, .inl (cf0_0, 3001, .inl f0_0)), (qf0_1, .inl (cf0_1, 3001, .inl f0_1))] H := hP
      replace hD : va_D A [(h0, .inr (8, [.ref qf0, .ref qf1])), (qf0, .inr (9, [.ref qf0_0, .ref qf0_1, .ref qf0_2, .int v0_3, .ref qf0_4, .ref qf0_5, .ref qf0_6, .ref qf0_7, .ref qf0_8, .int v0_9, .int u13_0, .int u13_1, .int u13_2])), (qf0_0, .inl (cf0_0, 3001, .inl f0_0)), (qf0_1, .inl (cf0_1, 3001, .inl f0_1))] := hD
      replace hK : va_K (dC, dI) vwCl [(cf0_0, .int), (cf0_1, .int)] s := hK
      have hr0 := Option.some.inj hsp
      clear hsp
      obtain ⟨hq0, hr1⟩ := Prod.mk.inj hr0
      clear hr0
      obtain ⟨hq1, hr2⟩ := Prod.mk.inj hr1
      clear hr1
      subst hq0
      subst hq1
      subst hr2
      have hP9 := hP.sub (ws' := [(h0, .inr (8, [.ref qf0, .ref qf1])), (qf0, .inr (9, [.ref qf0_0, .ref qf0_1, .ref qf0_2, .int v0_3, .ref qf0_4, .ref qf0_5, .ref qf0_6, .ref qf0_7, .ref qf0_8, .int v0_9, .int u13_0, .int u13_1, .int u13_2])), (qf0_0, .inl (cf0_0, 3001, .inl f0_0)), (qf0_1, .inl (cf0_1, 3001, .inl f0_1))]) [0, 1, 2, 3] rfl
      have hD9 := hD.sub (ws' := [(h0, .inr (8, [.ref qf0, .ref qf1])), (qf0, .inr (9, [.ref qf0_0, .ref qf0_1, .ref qf0_2, .int v0_3, .ref qf0_4, .ref qf0_5, .ref qf0_6, .ref qf0_7, .ref qf0_8, .int v0_9, .int u13_0, .int u13_1, .int u13_2])), (qf0_0, .inl (cf0_0, 3001, .inl f0_0)), (qf0_1, .inl (cf0_1, 3001, .inl f0_1))]) [0, 1, 2, 3] (by decide) rfl
      have hK9 := hK.sub (tys' := [(cf0_0, .int), (cf0_1, .int)]) [0, 1] rfl
      exact W.vret hx hb hr (fun t ht hW => ⟨⟨(), rfl, trivial, by rw [ht]; exact hP9, va_K.moved hW.alike hK9, hD9⟩, hS.F ht⟩) hS.2.2 dX8_readStatement_163
    · rw [if_neg (by decide)] at hsp
      refine lv_if_eq (tgt := 150) hx hb dX8_readStatement_137 (by decide) (fun c_13 => (show False by revert c_13; decide).elim) (fun c_13 => ?_)
      refine lv_aload_n hx hb dX8_readStatement_140 rfl (lv_at hl 0 rfl) ?_
      refine lv_iload_n hx hb dX8_readStatement_141 rfl (lv_at hl 1 rfl) ?_
      refine lv_iconst (v := 1) hx hb dX8_readStatement_142 (by decide) ?_
      refine lv_iadd hx hb dX8_readStatement_143 ?_
      obtain ⟨⟨u14_0, u14_1, u14_2⟩, hu_14, hsp⟩ := ox_bind hsp
      try dsimp only at hsp
      have hPc := hP.sub (ws' := [(h0, .inr (8, [.ref qf0, .ref qf1])), (qf0, .inr (9, [.ref qf0_0, .ref qf0_1, .ref qf0_2, .int v0_3, .ref qf0_4, .ref qf0_5, .ref qf0_6, .ref qf0_7, .ref qf0_8, .int v0_9, .int v0_10, .int u1_1, .int u1_2])), (qf0_0, .inl (cf0_0, 3001, .inl f0_0)), (qf0_1, .inl (cf0_1, 3001, .inl f0_1))]) [0, 2, 3, 1] rfl
      have hDc := hD.sub (ws' := [(h0, .inr (8, [.ref qf0, .ref qf1])), (qf0, .inr (9, [.ref qf0_0, .ref qf0_1, .ref qf0_2, .int v0_3, .ref qf0_4, .ref qf0_5, .ref qf0_6, .ref qf0_7, .ref qf0_8, .int v0_9, .int v0_10, .int u1_1, .int u1_2])), (qf0_0, .inl (cf0_0, 3001, .inl f0_0)), (qf0_1, .inl (cf0_1, 3001, .inl f0_1))]) [0, 2, 3, 1] (by decide) rfl
      have hKc := hK.sub (tys' := [(cf0_0, .int), (cf0_1, .int)]) [1, 0] rfl
      have hFc := va_free (wc := [(h0, .inr (8, [.ref qf0, .ref qf1])), (qf0, .inr (9, [.ref qf0_0, .ref qf0_1, .ref qf0_2, .int v0_3, .ref qf0_4, .ref qf0_5, .ref qf0_6, .ref qf0_7, .ref qf0_8, .int v0_9, .int v0_10, .int u1_1, .int u1_2])), (qf0_0, .inl (cf0_0, 3001, .inl f0_0)), (qf0_1, .inl (cf0_1, 3001, .inl f0_1))]) hD hS hA [0, 2, 3, 1] rfl
      refine va_callv (va_runV (As := [.int (a1 + 1)]) (rest := []) ⟨hx, hb, hml, hown, hts⟩ (v8_readVariable l dC dI H.size h0 ((a1 + 1)) qf0 qf1 qf0_0 qf0_1 qf0_2 v0_3 qf0_4 qf0_5 qf0_6 qf0_7 qf0_8 v0_9 v0_10 u1_1 u1_2 cf0_0 f0_0 cf0_1 f0_1 nf u14_0 u14_1 u14_2 hu_14) (cwV 1 hts gv_h8_41 rfl rfl rfl (by decide +kernel) ⟨by dsimp only [headSpec]; omega, by dsimp only [headSpec]; omega⟩) ⟨fun a U g mk q => by obtain ⟨q0, q1, qP, qK, qD⟩ := q; exact ⟨q0, q1, qP, va_K.moved (u := U) (U := U.calling g mk a) (Vm.Alike.refl U.vm) qK, qD⟩, va_recv hKc hPc (ci := 8) (q0 := 0) rfl rfl, fun U hU hW => ⟨rfl, by rw [hU], by rw [hU]; exact hPc, va_K.moved hW.alike hKc, hDc.weaken (fun _ _ _ _ => trivial)⟩⟩ rfl rfl hl.1 rfl (lv_room (Nat.le_of_ble_eq_true rfl)) dX8_readStatement_144 ⟨Nat.le_of_ble_eq_true rfl, Nat.le_of_ble_eq_true rfl⟩) hS (fun q _ h => hFc q h) hFc ?_
      clear hS
      intro u t H1 locs ht hvm hw hB hz1 hk1 hS
      obtain ⟨⟩ := u
      obtain ⟨hP1, hK1, hD1⟩ := hB
      rw [ht] at hP1
      have hK1 := va_K.moved hvm.symm hK1
      try dsimp only at hw
      have hPD := va_join (wr := []) (w1 := [(h0, .inr (8, [.ref qf0, .ref qf1])), (qf0, .inr (9, [.ref qf0_0, .ref qf0_1, .ref qf0_2, .int v0_3, .ref qf0_4, .ref qf0_5, .ref qf0_6, .ref qf0_7, .ref qf0_8, .int v0_9, .int u14_0, .int u14_1, .int u14_2])), (qf0_0, .inl (cf0_0, 3001, .inl f0_0)), (qf0_1, .inl (cf0_1, 3001, .inl f0_1))]) hP hD [0, 2, 3, 1] [] rfl rfl (by decide) (by decide) hk1 hFc hP1 hD1
      clear hP hD
      obtain ⟨hP, hD⟩ := hPD
      replace hK := (hK.sub (tys' := []) [] rfl).app hK1
      clear hPc hDc hKc hFc hP1 hK1 hD1 hz1 hk1 ht hvm
      generalize H1 = H at hP hS ⊢
      replace hP : va_P (dC, dI) vwCl [(h0, .inr (8, [.ref qf0, .ref qf1])), (qf0, .inr (9, [.ref qf0_0, .ref qf0_1, .ref qf0_2, .int v0_3, .ref qf0_4, .ref qf0_5, .ref qf0_6, .ref qf0_7, .ref qf0_8, .int v0_9, .int u14_0, .int u14_1, .int u14_2])), (qf0_0, .inl (cf0_0, 3001, .inl f0_0)), (qf0_1, .inl (cf0_1, 3001, .inl f0_1))] H := hP
      replace hD : va_D A [(h0, .inr (8, [.ref qf0, .ref qf1])), (qf0, .inr (9, [.ref qf0_0, .ref qf0_1, .ref qf0_2, .int v0_3, .ref qf0_4, .ref qf0_5, .ref qf0_6, .ref qf0_7, .ref qf0_8, .int v0_9, .int u14_0, .int u14_1, .int u14_2])), (qf0_0, .inl (cf0_0, 3001, .inl f0_0)), (qf0_1, .inl (cf0_1, 3001, .inl f0_1))] := hD
      replace hK : va_K (dC, dI) vwCl [(cf0_0, .int), (cf0_1, .int)] s := hK
      refine lv_goto (tgt := 157) hx hb dX8_readStatement_147 (by decide) ?_
      refine lv_aload_n hx hb dX8_readStatement_157 rfl (lv_at hl 0 rfl) ?_
      refine lv_bipush (v := 46) hx hb dX8_readStatement_158 (by decide) ?_
      obtain ⟨⟨u15_0, u15_1, u15_2⟩, hu_15, hsp⟩ := ox_bind hsp
      try dsimp only at hsp
      have hPc := hP.sub (ws' := [(h0, .inr (8, [.ref qf0, .ref qf1])), (qf0, .inr (9, [.ref qf0_0, .ref qf0_1, .ref qf0_2, .int v0_3, .ref qf0_4, .ref qf0_5, .ref qf0_6, .ref qf0_7, .ref qf0_8, .int v0_9, .int u14_0, .int u14_1, .int u14_2])), (qf0_0, .inl (cf0_0, 3001, .inl f0_0)), (qf0_1, .inl (cf0_1, 3001, .inl f0_1))]) [0, 1, 2, 3] rfl
      have hDc := hD.sub (ws' := [(h0, .inr (8, [.ref qf0, .ref qf1])), (qf0, .inr (9, [.ref qf0_0, .ref qf0_1, .ref qf0_2, .int v0_3, .ref qf0_4, .ref qf0_5, .ref qf0_6, .ref qf0_7, .ref qf0_8, .int v0_9, .int u14_0, .int u14_1, .int u14_2])), (qf0_0, .inl (cf0_0, 3001, .inl f0_0)), (qf0_1, .inl (cf0_1, 3001, .inl f0_1))]) [0, 1, 2, 3] (by decide) rfl
      have hKc := hK.sub (tys' := [(cf0_0, .int), (cf0_1, .int)]) [0, 1] rfl
      have hFc := va_free (wc := [(h0, .inr (8, [.ref qf0, .ref qf1])), (qf0, .inr (9, [.ref qf0_0, .ref qf0_1, .ref qf0_2, .int v0_3, .ref qf0_4, .ref qf0_5, .ref qf0_6, .ref qf0_7, .ref qf0_8, .int v0_9, .int u14_0, .int u14_1, .int u14_2])), (qf0_0, .inl (cf0_0, 3001, .inl f0_0)), (qf0_1, .inl (cf0_1, 3001, .inl f0_1))]) hD hS hA [0, 1, 2, 3] rfl
      refine va_callv (va_runV (As := [.int 46]) (rest := []) ⟨hx, hb, hml, hown, hts⟩ (t8_need l dC dI H.size h0 46 qf0 qf1 qf0_0 qf0_1 qf0_2 v0_3 qf0_4 qf0_5 qf0_6 qf0_7 qf0_8 v0_9 u14_0 u14_1 u14_2 cf0_0 f0_0 cf0_1 f0_1 nf u15_0 u15_1 u15_2 hu_15) (cwV 1 hts gv_h8_23 rfl rfl rfl (by decide +kernel) ⟨by dsimp only [headSpec]; omega, by dsimp only [headSpec]; omega⟩) ⟨fun a U g mk q => by obtain ⟨q0, q1, qP, qK, qD⟩ := q; exact ⟨q0, q1, qP, va_K.moved (u := U) (U := U.calling g mk a) (Vm.Alike.refl U.vm) qK, qD⟩, va_recv hKc hPc (ci := 8) (q0 := 0) rfl rfl, fun U hU hW => ⟨rfl, by rw [hU], by rw [hU]; exact hPc, va_K.moved hW.alike hKc, hDc.weaken (fun _ _ _ _ => trivial)⟩⟩ rfl rfl hl.1 rfl (lv_room (Nat.le_of_ble_eq_true rfl)) dX8_readStatement_160 ⟨Nat.le_of_ble_eq_true rfl, Nat.le_of_ble_eq_true rfl⟩) hS (fun q _ h => hFc q h) hFc ?_
      clear hS
      intro u t H1 locs ht hvm hw hB hz1 hk1 hS
      obtain ⟨⟩ := u
      obtain ⟨hP1, hK1, hD1⟩ := hB
      rw [ht] at hP1
      have hK1 := va_K.moved hvm.symm hK1
      try dsimp only at hw
      have hPD := va_join (wr := []) (w1 := [(h0, .inr (8, [.ref qf0, .ref qf1])), (qf0, .inr (9, [.ref qf0_0, .ref qf0_1, .ref qf0_2, .int v0_3, .ref qf0_4, .ref qf0_5, .ref qf0_6, .ref qf0_7, .ref qf0_8, .int v0_9, .int u15_0, .int u15_1, .int u15_2])), (qf0_0, .inl (cf0_0, 3001, .inl f0_0)), (qf0_1, .inl (cf0_1, 3001, .inl f0_1))]) hP hD [0, 1, 2, 3] [] rfl rfl (by decide) (by decide) hk1 hFc hP1 hD1
      clear hP hD
      obtain ⟨hP, hD⟩ := hPD
      replace hK := (hK.sub (tys' := []) [] rfl).app hK1
      clear hPc hDc hKc hFc hP1 hK1 hD1 hz1 hk1 ht hvm
      generalize H1 = H at hP hS ⊢
      replace hP : va_P (dC, dI) vwCl [(h0, .inr (8, [.ref qf0, .ref qf1])), (qf0, .inr (9, [.ref qf0_0, .ref qf0_1, .ref qf0_2, .int v0_3, .ref qf0_4, .ref qf0_5, .ref qf0_6, .ref qf0_7, .ref qf0_8, .int v0_9, .int u15_0, .int u15_1, .int u15_2])), (qf0_0, .inl (cf0_0, 3001, .inl f0_0)), (qf0_1, .inl (cf0_1, 3001, .inl f0_1))] H := hP
      replace hD : va_D A [(h0, .inr (8, [.ref qf0, .ref qf1])), (qf0, .inr (9, [.ref qf0_0, .ref qf0_1, .ref qf0_2, .int v0_3, .ref qf0_4, .ref qf0_5, .ref qf0_6, .ref qf0_7, .ref qf0_8, .int v0_9, .int u15_0, .int u15_1, .int u15_2])), (qf0_0, .inl (cf0_0, 3001, .inl f0_0)), (qf0_1, .inl (cf0_1, 3001, .inl f0_1))] := hD
      replace hK : va_K (dC, dI) vwCl [(cf0_0, .int), (cf0_1, .int)] s := hK
      have hr0 := Option.some.inj hsp
      clear hsp
      obtain ⟨hq0, hr1⟩ := Prod.mk.inj hr0
      clear hr0
      obtain ⟨hq1, hr2⟩ := Prod.mk.inj hr1
      clear hr1
      subst hq0
      subst hq1
      subst hr2
      have hP9 := hP.sub (ws' := [(h0, .inr (8, [.ref qf0, .ref qf1])), (qf0, .inr (9, [.ref qf0_0, .ref qf0_1, .ref qf0_2, .int v0_3, .ref qf0_4, .ref qf0_5, .ref qf0_6, .ref qf0_7, .ref qf0_8, .int v0_9, .int u15_0, .int u15_1, .int u15_2])), (qf0_0, .inl (cf0_0, 3001, .inl f0_0)), (qf0_1, .inl (cf0_1, 3001, .inl f0_1))]) [0, 1, 2, 3] rfl
      have hD9 := hD.sub (ws' := [(h0, .inr (8, [.ref qf0, .ref qf1])), (qf0, .inr (9, [.ref qf0_0, .ref qf0_1, .ref qf0_2, .int v0_3, .ref qf0_4, .ref qf0_5, .ref qf0_6, .ref qf0_7, .ref qf0_8, .int v0_9, .int u15_0, .int u15_1, .int u15_2])), (qf0_0, .inl (cf0_0, 3001, .inl f0_0)), (qf0_1, .inl (cf0_1, 3001, .inl f0_1))]) [0, 1, 2, 3] (by decide) rfl
      have hK9 := hK.sub (tys' := [(cf0_0, .int), (cf0_1, .int)]) [0, 1] rfl
      exact W.vret hx hb hr (fun t ht hW => ⟨⟨(), rfl, trivial, by rw [ht]; exact hP9, va_K.moved hW.alike hK9, hD9⟩, hS.F ht⟩) hS.2.2 dX8_readStatement_163
  · rw [if_neg (by decide)] at hsp
    refine lv_if_eq (tgt := 9) hx hb dX8_readStatement_5 (by decide) (fun c_14 => (show False by revert c_14; decide).elim) (fun c_14 => ?_)
    have hr0 := Option.some.inj hsp
    clear hsp
    obtain ⟨hq0, hr1⟩ := Prod.mk.inj hr0
    clear hr0
    obtain ⟨hq1, hr2⟩ := Prod.mk.inj hr1
    clear hr1
    subst hq0
    subst hq1
    subst hr2
    have hP9 := hP.sub (ws' := [(h0, .inr (8, [.ref qf0, .ref qf1])), (qf0, .inr (9, [.ref qf0_0, .ref qf0_1, .ref qf0_2, .int v0_3, .ref qf0_4, .ref qf0_5, .ref qf0_6, .ref qf0_7, .ref qf0_8, .int v0_9, .int v0_10, .int u1_1, .int u1_2])), (qf0_0, .inl (cf0_0, 3001, .inl f0_0)), (qf0_1, .inl (cf0_1, 3001, .inl f0_1))]) [0, 1, 2, 3] rfl
    have hD9 := hD.sub (ws' := [(h0, .inr (8, [.ref qf0, .ref qf1])), (qf0, .inr (9, [.ref qf0_0, .ref qf0_1, .ref qf0_2, .int v0_3, .ref qf0_4, .ref qf0_5, .ref qf0_6, .ref qf0_7, .ref qf0_8, .int v0_9, .int v0_10, .int u1_1, .int u1_2])), (qf0_0, .inl (cf0_0, 3001, .inl f0_0)), (qf0_1, .inl (cf0_1, 3001, .inl f0_1))]) [0, 1, 2, 3] (by decide) rfl
    have hK9 := hK.sub (tys' := [(cf0_0, .int), (cf0_1, .int)]) [0, 1] rfl
    exact W.vret hx hb hr (fun t ht hW => ⟨⟨(), rfl, trivial, by rw [ht]; exact hP9, va_K.moved hW.alike hK9, hD9⟩, hS.F ht⟩) hS.2.2 dX8_readStatement_8
set_option maxHeartbeats 4000000 in
set_option maxRecDepth 100000 in
/-- ClassMill$Syntax.readBlock -/
theorem op_v8_readBlock_ok (nf d : Nat) (rc : GT_syns) (ih_0 : CT_v8_readStatement d rc.1) (ih_1 : CT_v8_readBlock d rc.2.1) (ih_2 : CT_v8_readTry d rc.2.2) : CT_v8_readBlock (d + 1) (op_v8_readBlock nf rc) := by
  intro l dC dI sz h0 a1 qf0 qf1 qf0_0 qf0_1 qf0_2 v0_3 qf0_4 qf0_5 qf0_6 qf0_7 qf0_8 v0_9 v0_10 v0_11 v0_12 cf0_0 f0_0 cf0_1 f0_1 nf9 w0_10 w0_11 w0_12 hsp
  refine Met.ofW (cc := cX8_readBlock) (maxL := 3) (ret := none) (by decide) rfl ?_
  intro p e s m args below meth c s₁ B hml hv
  obtain ⟨rfl, hsz, hP, hK, hD0⟩ := hv
  have hx := B.exec
  have hb := B.bytes
  have hr := B.returns
  have hts := atoms_spec (ws := (.code yX8_readBlock cX8_readBlock 3 none :: VS_h8)) B.pre
  replace hts := fun w (h : w ∈ VS_h8) => hts w (List.mem_cons_of_mem _ h)
  have hown : s.vm.findClass RX8 = some m.cls := findClass_of_methodNamed B.named
  have hlocks := B.notSynchronized
  subst hsz
  have hD := hD0.self (sz := s.heap.size)
  generalize hAe : va_A [(h0, .inr (8, [.ref qf0, .ref qf1])), (qf0, .inr (9, [.ref qf0_0, .ref qf0_1, .ref qf0_2, .int v0_3, .ref qf0_4, .ref qf0_5, .ref qf0_6, .ref qf0_7, .ref qf0_8, .int v0_9, .int v0_10, .int v0_11, .int v0_12])), (qf0_0, .inl (cf0_0, 3001, .inl f0_0)), (qf0_1, .inl (cf0_1, 3001, .inl f0_1))] s.heap.size = A at hD  ⊢
  have hA : ∀ q : Nat, s.heap.size ≤ q → A q := fun q h => by rw [← hAe]; exact Or.inr h
  have hP : va_P (dC, dI) vwCl [(h0, .inr (8, [.ref qf0, .ref qf1])), (qf0, .inr (9, [.ref qf0_0, .ref qf0_1, .ref qf0_2, .int v0_3, .ref qf0_4, .ref qf0_5, .ref qf0_6, .ref qf0_7, .ref qf0_8, .int v0_9, .int v0_10, .int v0_11, .int v0_12])), (qf0_0, .inl (cf0_0, 3001, .inl f0_0)), (qf0_1, .inl (cf0_1, 3001, .inl f0_1))] s.heap := hP
  have hl := lv_entry ([.ref h0, .int a1]) (n := 3) (Nat.le_of_ble_eq_true rfl)
  rw [lg_entry_eq]
  generalize (lg_sl ([.ref h0, .int a1]) ++ List.replicate (3 - (lg_sl ([.ref h0, .int a1])).length) Slot.unset).toArray = ls at hl ⊢
  have hl : lv_has ls 3 [(0, .ref h0), (1, .int a1)] := hl
  obtain ⟨H, hH⟩ : ∃ H : Heap, s.heap = H := ⟨_, rfl⟩
  rw [hH] at hP ⊢
  have hS : va_S A s.heap H [] := by rw [← hH]; exact va_S.rf
  obtain ⟨locs, hlo⟩ : ∃ locs : List Loc, locs = [] := ⟨_, rfl⟩
  rw [← hlo] at hS ⊢
  replace hsp : op_v8_readBlock nf rc a1 v0_3 v0_10 v0_11 v0_12 f0_0 f0_1 = some (w0_10, w0_11, w0_12) := hsp
  unfold op_v8_readBlock at hsp
  refine lv_aload_n hx hb dX8_readBlock_0 rfl (lv_at hl 0 rfl) ?_
  refine lv_bipush (v := 42) hx hb dX8_readBlock_1 (by decide) ?_
  obtain ⟨⟨u1_0, u1_1, u1_2⟩, hu_1, hsp⟩ := ox_bind hsp
  try dsimp only at hsp
  have hPc := hP.sub (ws' := [(h0, .inr (8, [.ref qf0, .ref qf1])), (qf0, .inr (9, [.ref qf0_0, .ref qf0_1, .ref qf0_2, .int v0_3, .ref qf0_4, .ref qf0_5, .ref qf0_6, .ref qf0_7, .ref qf0_8, .int v0_9, .int v0_10, .int v0_11, .int v0_12])), (qf0_0, .inl (cf0_0, 3001, .inl f0_0)), (qf0_1, .inl (cf0_1, 3001, .inl f0_1))]) [0, 1, 2, 3] rfl
  have hDc := hD.sub (ws' := [(h0, .inr (8, [.ref qf0, .ref qf1])), (qf0, .inr (9, [.ref qf0_0, .ref qf0_1, .ref qf0_2, .int v0_3, .ref qf0_4, .ref qf0_5, .ref qf0_6, .ref qf0_7, .ref qf0_8, .int v0_9, .int v0_10, .int v0_11, .int v0_12])), (qf0_0, .inl (cf0_0, 3001, .inl f0_0)), (qf0_1, .inl (cf0_1, 3001, .inl f0_1))]) [0, 1, 2, 3] (by decide) rfl
  have hKc := hK.sub (tys' := [(cf0_0, .int), (cf0_1, .int)]) [0, 1] rfl
  have hFc := va_free (wc := [(h0, .inr (8, [.ref qf0, .ref qf1])), (qf0, .inr (9, [.ref qf0_0, .ref qf0_1, .ref qf0_2, .int v0_3, .ref qf0_4, .ref qf0_5, .ref qf0_6, .ref qf0_7, .ref qf0_8, .int v0_9, .int v0_10, .int v0_11, .int v0_12])), (qf0_0, .inl (cf0_0, 3001, .inl f0_0)), (qf0_1, .inl (cf0_1, 3001, .inl f0_1))]) hD hS hA [0, 1, 2, 3] rfl
  refine va_callv (va_runV (As := [.int 42]) (rest := []) ⟨hx, hb, hml, hown, hts⟩ (t8_need l dC dI H.size h0 42 qf0 qf1 qf0_0 qf0_1 qf0_2 v0_3 qf0_4 qf0_5 qf0_6 qf0_7 qf0_8 v0_9 v0_10 v0_11 v0_12 cf0_0 f0_0 cf0_1 f0_1 nf u1_0 u1_1 u1_2 hu_1) (cwV 1 hts gv_h8_23 rfl rfl rfl (by decide +kernel) ⟨by dsimp only [headSpec]; omega, by dsimp only [headSpec]; omega⟩) ⟨fun a U g mk q => by obtain ⟨q0, q1, qP, qK, qD⟩ := q; exact ⟨q0, q1, qP, va_K.moved (u := U) (U := U.calling g mk a) (Vm.Alike.refl U.vm) qK, qD⟩, va_recv hKc hPc (ci := 8) (q0 := 0) rfl rfl, fun U hU hW => ⟨rfl, by rw [hU], by rw [hU]; exact hPc, va_K.moved hW.alike hKc, hDc.weaken (fun _ _ _ _ => trivial)⟩⟩ rfl rfl hl.1 rfl (lv_room (Nat.le_of_ble_eq_true rfl)) dX8_readBlock_3 ⟨Nat.le_of_ble_eq_true rfl, Nat.le_of_ble_eq_true rfl⟩) hS (fun q _ h => hFc q h) hFc ?_
  clear hS
  intro u t H1 locs ht hvm hw hB hz1 hk1 hS
  obtain ⟨⟩ := u
  obtain ⟨hP1, hK1, hD1⟩ := hB
  rw [ht] at hP1
  have hK1 := va_K.moved hvm.symm hK1
  try dsimp only at hw
  have hPD := va_join (wr := []) (w1 := [(h0, .inr (8, [.ref qf0, .ref qf1])), (qf0, .inr (9, [.ref qf0_0, .ref qf0_1, .ref qf0_2, .int v0_3, .ref qf0_4, .ref qf0_5, .ref qf0_6, .ref qf0_7, .ref qf0_8, .int v0_9, .int u1_0, .int u1_1, .int u1_2])), (qf0_0, .inl (cf0_0, 3001, .inl f0_0)), (qf0_1, .inl (cf0_1, 3001, .inl f0_1))]) hP hD [0, 1, 2, 3] [] rfl rfl (by decide) (by decide) hk1 hFc hP1 hD1
  clear hP hD
  obtain ⟨hP, hD⟩ := hPD
  replace hK := (hK.sub (tys' := []) [] rfl).app hK1
  clear hPc hDc hKc hFc hP1 hK1 hD1 hz1 hk1 ht hvm
  generalize H1 = H at hP hS ⊢
  replace hP : va_P (dC, dI) vwCl [(h0, .inr (8, [.ref qf0, .ref qf1])), (qf0, .inr (9, [.ref qf0_0, .ref qf0_1, .ref qf0_2, .int v0_3, .ref qf0_4, .ref qf0_5, .ref qf0_6, .ref qf0_7, .ref qf0_8, .int v0_9, .int u1_0, .int u1_1, .int u1_2])), (qf0_0, .inl (cf0_0, 3001, .inl f0_0)), (qf0_1, .inl (cf0_1, 3001, .inl f0_1))] H := hP
  replace hD : va_D A [(h0, .inr (8, [.ref qf0, .ref qf1])), (qf0, .inr (9, [.ref qf0_0, .ref qf0_1, .ref qf0_2, .int v0_3, .ref qf0_4, .ref qf0_5, .ref qf0_6, .ref qf0_7, .ref qf0_8, .int v0_9, .int u1_0, .int u1_1, .int u1_2])), (qf0_0, .inl (cf0_0, 3001, .inl f0_0)), (qf0_1, .inl (cf0_1, 3001, .inl f0_1))] := hD
  replace hK : va_K (dC, dI) vwCl [(cf0_0, .int), (cf0_1, .int)] s := hK
  refine lv_iconst (v := 0) hx hb dX8_readBlock_6 (by decide) ?_
  refine lv_istore_n (lv' := [(2, .int 0), (0, .ref h0), (1, .int a1)]) hx hb dX8_readBlock_7 rfl hl (by decide) rfl (fun ls hl => ?_)
  replace hl : lv_has ls 3 [(2, .int 0), (0, .ref h0), (1, .int a1)] := lv_sub hl [0, 1, 2] rfl
  replace hP := hP.sub (ws' := [(h0, .inr (8, [.ref qf0, .ref qf1])), (qf0, .inr (9, [.ref qf0_0, .ref qf0_1, .ref qf0_2, .int v0_3, .ref qf0_4, .ref qf0_5, .ref qf0_6, .ref qf0_7, .ref qf0_8, .int v0_9, .int u1_0, .int u1_1, .int u1_2])), (qf0_0, .inl (cf0_0, 3001, .inl f0_0)), (qf0_1, .inl (cf0_1, 3001, .inl f0_1))]) [0, 1, 2, 3] rfl
  replace hD := hD.sub (ws' := [(h0, .inr (8, [.ref qf0, .ref qf1])), (qf0, .inr (9, [.ref qf0_0, .ref qf0_1, .ref qf0_2, .int v0_3, .ref qf0_4, .ref qf0_5, .ref qf0_6, .ref qf0_7, .ref qf0_8, .int v0_9, .int u1_0, .int u1_1, .int u1_2])), (qf0_0, .inl (cf0_0, 3001, .inl f0_0)), (qf0_1, .inl (cf0_1, 3001, .inl f0_1))]) [0, 1, 2, 3] (by decide) rfl
  replace hK := hK.sub (tys' := [(cf0_0, .int), (cf0_1, .int)]) [0, 1] rfl
  obtain ⟨n_8, hn_8⟩ : ∃ z : Nat, z = nf := ⟨_, rfl⟩
  obtain ⟨l1_8, el1_8⟩ : ∃ z : Int32, z = a1 := ⟨_, rfl⟩
  obtain ⟨l2_8, el2_8⟩ : ∃ z : Int32, z = 0 := ⟨_, rfl⟩
  obtain ⟨x0_10_8, ex0_10_8⟩ : ∃ z : Int32, z = u1_0 := ⟨_, rfl⟩
  obtain ⟨x0_11_8, ex0_11_8⟩ : ∃ z : Int32, z = u1_1 := ⟨_, rfl⟩
  obtain ⟨x0_12_8, ex0_12_8⟩ : ∃ z : Int32, z = u1_2 := ⟨_, rfl⟩
  replace hsp : lp_v8_readBlock_8 nf n_8 rc a1 v0_3 v0_10 v0_11 v0_12 f0_0 f0_1 l1_8 l2_8 x0_10_8 x0_11_8 x0_12_8 = some (w0_10, w0_11, w0_12) := by rw [hn_8, el1_8, el2_8, ex0_10_8, ex0_11_8, ex0_12_8]; exact hsp
  replace hl : lv_has ls 3 [(2, .int l2_8), (0, .ref h0), (1, .int l1_8)] := by rw [el1_8, el2_8]; exact hl
  replace hP : va_P (dC, dI) vwCl [(h0, .inr (8, [.ref qf0, .ref qf1])), (qf0, .inr (9, [.ref qf0_0, .ref qf0_1, .ref qf0_2, .int v0_3, .ref qf0_4, .ref qf0_5, .ref qf0_6, .ref qf0_7, .ref qf0_8, .int v0_9, .int x0_10_8, .int x0_11_8, .int x0_12_8])), (qf0_0, .inl (cf0_0, 3001, .inl f0_0)), (qf0_1, .inl (cf0_1, 3001, .inl f0_1))] H := by rw [ex0_10_8, ex0_11_8, ex0_12_8]; exact hP
  replace hD : va_D A [(h0, .inr (8, [.ref qf0, .ref qf1])), (qf0, .inr (9, [.ref qf0_0, .ref qf0_1, .ref qf0_2, .int v0_3, .ref qf0_4, .ref qf0_5, .ref qf0_6, .ref qf0_7, .ref qf0_8, .int v0_9, .int x0_10_8, .int x0_11_8, .int x0_12_8])), (qf0_0, .inl (cf0_0, 3001, .inl f0_0)), (qf0_1, .inl (cf0_1, 3001, .inl f0_1))] := by rw [ex0_10_8, ex0_11_8, ex0_12_8]; exact hD
  clear hn_8 el1_8 el2_8 ex0_10_8 ex0_11_8 ex0_12_8
  try clear hlo
  try clear hH
  revert hsp
  revert hP
  revert hD
  revert hS
  revert hl
  revert x0_12_8
  revert x0_11_8
  revert x0_10_8
  revert l2_8
  revert l1_8
  revert ls
  revert locs
  revert H
  induction n_8 with
  | zero => intro H locs ls l1_8 l2_8 x0_10_8 x0_11_8 x0_12_8  hl hS hD hP hsp; unfold lp_v8_readBlock_8 at hsp; cases hsp
  | succ n_8 ih_8 =>
    intro H locs ls l1_8 l2_8 x0_10_8 x0_11_8 x0_12_8  hl hS hD hP hsp
    unfold lp_v8_readBlock_8 at hsp
    try dsimp only at hsp
    refine lv_iload_n hx hb dX8_readBlock_8 rfl (lv_at hl 0 rfl) ?_
    refine lv_sipush (v := 3000) hx hb dX8_readBlock_9 (by decide) ?_
    refine lv_icmp_ge (tgt := 48) hx hb dX8_readBlock_12 (by decide) (fun c_1 => ?_) (fun c_1 => ?_)
    · rw [if_pos c_1] at hsp
      refine lv_aload_n hx hb dX8_readBlock_48 rfl (lv_at hl 1 rfl) ?_
      refine lv_bipush (v := 43) hx hb dX8_readBlock_49 (by decide) ?_
      obtain ⟨⟨u2_0, u2_1, u2_2⟩, hu_2, hsp⟩ := ox_bind hsp
      try dsimp only at hsp
      have hPc := hP.sub (ws' := [(h0, .inr (8, [.ref qf0, .ref qf1])), (qf0, .inr (9, [.ref qf0_0, .ref qf0_1, .ref qf0_2, .int v0_3, .ref qf0_4, .ref qf0_5, .ref qf0_6, .ref qf0_7, .ref qf0_8, .int v0_9, .int x0_10_8, .int x0_11_8, .int x0_12_8])), (qf0_0, .inl (cf0_0, 3001, .inl f0_0)), (qf0_1, .inl (cf0_1, 3001, .inl f0_1))]) [0, 1, 2, 3] rfl
      have hDc := hD.sub (ws' := [(h0, .inr (8, [.ref qf0, .ref qf1])), (qf0, .inr (9, [.ref qf0_0, .ref qf0_1, .ref qf0_2, .int v0_3, .ref qf0_4, .ref qf0_5, .ref qf0_6, .ref qf0_7, .ref qf0_8, .int v0_9, .int x0_10_8, .int x0_11_8, .int x0_12_8])), (qf0_0, .inl (cf0_0, 3001, .inl f0_0)), (qf0_1, .inl (cf0_1, 3001, .inl f0_1))]) [0, 1, 2, 3] (by decide) rfl
      have hKc := hK.sub (tys' := [(cf0_0, .int), (cf0_1, .int)]) [0, 1] rfl
      have hFc := va_free (wc := [(h0, .inr (8, [.ref qf0, .ref qf1])), (qf0, .inr (9, [.ref qf0_0, .ref qf0_1, .ref qf0_2, .int v0_3, .ref qf0_4, .ref qf0_5, .ref qf0_6, .ref qf0_7, .ref qf0_8, .int v0_9, .int x0_10_8, .int x0_11_8, .int x0_12_8])), (qf0_0, .inl (cf0_0, 3001, .inl f0_0)), (qf0_1, .inl (cf0_1, 3001, .inl f0_1))]) hD hS hA [0, 1, 2, 3] rfl
      refine va_callv (va_runV (As := [.int 43]) (rest := []) ⟨hx, hb, hml, hown, hts⟩ (t8_need l dC dI H.size h0 43 qf0 qf1 qf0_0 qf0_1 qf0_2 v0_3 qf0_4 qf0_5 qf0_6 qf0_7 qf0_8 v0_9 x0_10_8 x0_11_8 x0_12_8 cf0_0 f0_0 cf0_1 f0_1 nf u2_0 u2_1 u2_2 hu_2) (cwV 1 hts gv_h8_23 rfl rfl rfl (by decide +kernel) ⟨by dsimp only [headSpec]; omega, by dsimp only [headSpec]; omega⟩) ⟨fun a U g mk q => by obtain ⟨q0, q1, qP, qK, qD⟩ := q; exact ⟨q0, q1, qP, va_K.moved (u := U) (U := U.calling g mk a) (Vm.Alike.refl U.vm) qK, qD⟩, va_recv hKc hPc (ci := 8) (q0 := 0) rfl rfl, fun U hU hW => ⟨rfl, by rw [hU], by rw [hU]; exact hPc, va_K.moved hW.alike hKc, hDc.weaken (fun _ _ _ _ => trivial)⟩⟩ rfl rfl hl.1 rfl (lv_room (Nat.le_of_ble_eq_true rfl)) dX8_readBlock_51 ⟨Nat.le_of_ble_eq_true rfl, Nat.le_of_ble_eq_true rfl⟩) hS (fun q _ h => hFc q h) hFc ?_
      clear hS
      intro u t H1 locs ht hvm hw hB hz1 hk1 hS
      obtain ⟨⟩ := u
      obtain ⟨hP1, hK1, hD1⟩ := hB
      rw [ht] at hP1
      have hK1 := va_K.moved hvm.symm hK1
      try dsimp only at hw
      have hPD := va_join (wr := []) (w1 := [(h0, .inr (8, [.ref qf0, .ref qf1])), (qf0, .inr (9, [.ref qf0_0, .ref qf0_1, .ref qf0_2, .int v0_3, .ref qf0_4, .ref qf0_5, .ref qf0_6, .ref qf0_7, .ref qf0_8, .int v0_9, .int u2_0, .int u2_1, .int u2_2])), (qf0_0, .inl (cf0_0, 3001, .inl f0_0)), (qf0_1, .inl (cf0_1, 3001, .inl f0_1))]) hP hD [0, 1, 2, 3] [] rfl rfl (by decide) (by decide) hk1 hFc hP1 hD1
      clear hP hD
      obtain ⟨hP, hD⟩ := hPD
      replace hK := (hK.sub (tys' := []) [] rfl).app hK1
      clear hPc hDc hKc hFc hP1 hK1 hD1 hz1 hk1 ht hvm
      generalize H1 = H at hP hS ⊢
      replace hP : va_P (dC, dI) vwCl [(h0, .inr (8, [.ref qf0, .ref qf1])), (qf0, .inr (9, [.ref qf0_0, .ref qf0_1, .ref qf0_2, .int v0_3, .ref qf0_4, .ref qf0_5, .ref qf0_6, .ref qf0_7, .ref qf0_8, .int v0_9, .int u2_0, .int u2_1, .int u2_2])), (qf0_0, .inl (cf0_0, 3001, .inl f0_0)), (qf0_1, .inl (cf0_1, 3001, .inl f0_1))] H := hP
      replace hD : va_D A [(h0, .inr (8, [.ref qf0, .ref qf1])), (qf0, .inr (9, [.ref qf0_0, .ref qf0_1, .ref qf0_2, .int v0_3, .ref qf0_4, .ref qf0_5, .ref qf0_6, .ref qf0_7, .ref qf0_8, .int v0_9, .int u2_0, .int u2_1, .int u2_2])), (qf0_0, .inl (cf0_0, 3001, .inl f0_0)), (qf0_1, .inl (cf0_1, 3001, .inl f0_1))] := hD
      replace hK : va_K (dC, dI) vwCl [(cf0_0, .int), (cf0_1, .int)] s := hK
      have hr0 := Option.some.inj hsp
      clear hsp
      obtain ⟨hq0, hr1⟩ := Prod.mk.inj hr0
      clear hr0
      obtain ⟨hq1, hr2⟩ := Prod.mk.inj hr1
      clear hr1
      subst hq0
      subst hq1
      subst hr2
      have hP9 := hP.sub (ws' := [(h0, .inr (8, [.ref qf0, .ref qf1])), (qf0, .inr (9, [.ref qf0_0, .ref qf0_1, .ref qf0_2, .int v0_3, .ref qf0_4, .ref qf0_5, .ref qf0_6, .ref qf0_7, .ref qf0_8, .int v0_9, .int u2_0, .int u2_1, .int u2_2])), (qf0_0, .inl (cf0_0, 3001, .inl f0_0)), (qf0_1, .inl (cf0_1, 3001, .inl f0_1))]) [0, 1, 2, 3] rfl
      have hD9 := hD.sub (ws' := [(h0, .inr (8, [.ref qf0, .ref qf1])), (qf0, .inr (9, [.ref qf0_0, .ref qf0_1, .ref qf0_2, .int v0_3, .ref qf0_4, .ref qf0_5, .ref qf0_6, .ref qf0_7, .ref qf0_8, .int v0_9, .int u2_0, .int u2_1, .int u2_2])), (qf0_0, .inl (cf0_0, 3001, .inl f0_0)), (qf0_1, .inl (cf0_1, 3001, .inl f0_1))]) [0, 1, 2, 3] (by decide) rfl
      have hK9 := hK.sub (tys' := [(cf0_0, .int), (cf0_1, .int)]) [0, 1] rfl
      exact W.vret hx hb hr (fun t ht hW => ⟨⟨(), rfl, trivial, by rw [ht]; exact hP9, va_K.moved hW.alike hK9, hD9⟩, hS.F ht⟩) hS.2.2 dX8_readBlock_54
    · rw [if_neg c_1] at hsp
      refine lv_aload_n hx hb dX8_readBlock_15 rfl (lv_at hl 1 rfl) ?_
      refine va_get (D := (dC, dI)) (ci := 8) (v := .ref qf0) (C := RX8) (T := TX8) (N := 2) hx hb hts uV_h8_X8 hown hK hP 0 rfl rfl 0 (by decide) (hts (.fieldLink RX8 7 "ClassMill$Syntax" "text" "LClassMill$Text;") mw_h8_135) (fun _ h9 => h9) rfl dX8_readBlock_16 ?_
      refine va_get (D := (dC, dI)) (ci := 9) (v := .int x0_11_8) (C := RX9) (T := TX9) (N := 13) hx hb hts uV_h8_X9 hown hK hP 1 rfl rfl 11 (by decide) (hts (.fieldLink RX8 19 "ClassMill$Text" "fault" "I") mw_h8_174) (fun _ h9 => h9) rfl dX8_readBlock_19 ?_
      refine lv_if_ne (tgt := 48) hx hb dX8_readBlock_22 (by decide) (fun c_2 => ?_) (fun c_2 => ?_)
      · rw [if_neg c_2] at hsp
        refine lv_aload_n hx hb dX8_readBlock_48 rfl (lv_at hl 1 rfl) ?_
        refine lv_bipush (v := 43) hx hb dX8_readBlock_49 (by decide) ?_
        obtain ⟨⟨u3_0, u3_1, u3_2⟩, hu_3, hsp⟩ := ox_bind hsp
        try dsimp only at hsp
        have hPc := hP.sub (ws' := [(h0, .inr (8, [.ref qf0, .ref qf1])), (qf0, .inr (9, [.ref qf0_0, .ref qf0_1, .ref qf0_2, .int v0_3, .ref qf0_4, .ref qf0_5, .ref qf0_6, .ref qf0_7, .ref qf0_8, .int v0_9, .int x0_10_8, .int x0_11_8, .int x0_12_8])), (qf0_0, .inl (cf0_0, 3001, .inl f0_0)), (qf0_1, .inl (cf0_1, 3001, .inl f0_1))]) [0, 1, 2, 3] rfl
        have hDc := hD.sub (ws' := [(h0, .inr (8, [.ref qf0, .ref qf1])), (qf0, .inr (9, [.ref qf0_0, .ref qf0_1, .ref qf0_2, .int v0_3, .ref qf0_4, .ref qf0_5, .ref qf0_6, .ref qf0_7, .ref qf0_8, .int v0_9, .int x0_10_8, .int x0_11_8, .int x0_12_8])), (qf0_0, .inl (cf0_0, 3001, .inl f0_0)), (qf0_1, .inl (cf0_1, 3001, .inl f0_1))]) [0, 1, 2, 3] (by decide) rfl
        have hKc := hK.sub (tys' := [(cf0_0, .int), (cf0_1, .int)]) [0, 1] rfl
        have hFc := va_free (wc := [(h0, .inr (8, [.ref qf0, .ref qf1])), (qf0, .inr (9, [.ref qf0_0, .ref qf0_1, .ref qf0_2, .int v0_3, .ref qf0_4, .ref qf0_5, .ref qf0_6, .ref qf0_7, .ref qf0_8, .int v0_9, .int x0_10_8, .int x0_11_8, .int x0_12_8])), (qf0_0, .inl (cf0_0, 3001, .inl f0_0)), (qf0_1, .inl (cf0_1, 3001, .inl f0_1))]) hD hS hA [0, 1, 2, 3] rfl
        refine va_callv (va_runV (As := [.int 43]) (rest := []) ⟨hx, hb, hml, hown, hts⟩ (t8_need l dC dI H.size h0 43 qf0 qf1 qf0_0 qf0_1 qf0_2 v0_3 qf0_4 qf0_5 qf0_6 qf0_7 qf0_8 v0_9 x0_10_8 x0_11_8 x0_12_8 cf0_0 f0_0 cf0_1 f0_1 nf u3_0 u3_1 u3_2 hu_3) (cwV 1 hts gv_h8_23 rfl rfl rfl (by decide +kernel) ⟨by dsimp only [headSpec]; omega, by dsimp only [headSpec]; omega⟩) ⟨fun a U g mk q => by obtain ⟨q0, q1, qP, qK, qD⟩ := q; exact ⟨q0, q1, qP, va_K.moved (u := U) (U := U.calling g mk a) (Vm.Alike.refl U.vm) qK, qD⟩, va_recv hKc hPc (ci := 8) (q0 := 0) rfl rfl, fun U hU hW => ⟨rfl, by rw [hU], by rw [hU]; exact hPc, va_K.moved hW.alike hKc, hDc.weaken (fun _ _ _ _ => trivial)⟩⟩ rfl rfl hl.1 rfl (lv_room (Nat.le_of_ble_eq_true rfl)) dX8_readBlock_51 ⟨Nat.le_of_ble_eq_true rfl, Nat.le_of_ble_eq_true rfl⟩) hS (fun q _ h => hFc q h) hFc ?_
        clear hS
        intro u t H1 locs ht hvm hw hB hz1 hk1 hS
        obtain ⟨⟩ := u
        obtain ⟨hP1, hK1, hD1⟩ := hB
        rw [ht] at hP1
        have hK1 := va_K.moved hvm.symm hK1
        try dsimp only at hw
        have hPD := va_join (wr := []) (w1 := [(h0, .inr (8, [.ref qf0, .ref qf1])), (qf0, .inr (9, [.ref qf0_0, .ref qf0_1, .ref qf0_2, .int v0_3, .ref qf0_4, .ref qf0_5, .ref qf0_6, .ref qf0_7, .ref qf0_8, .int v0_9, .int u3_0, .int u3_1, .int u3_2])), (qf0_0, .inl (cf0_0, 3001, .inl f0_0)), (qf0_1, .inl (cf0_1, 3001, .inl f0_1))]) hP hD [0, 1, 2, 3] [] rfl rfl (by decide) (by decide) hk1 hFc hP1 hD1
        clear hP hD
        obtain ⟨hP, hD⟩ := hPD
        replace hK := (hK.sub (tys' := []) [] rfl).app hK1
        clear hPc hDc hKc hFc hP1 hK1 hD1 hz1 hk1 ht hvm
        generalize H1 = H at hP hS ⊢
        replace hP : va_P (dC, dI) vwCl [(h0, .inr (8, [.ref qf0, .ref qf1])), (qf0, .inr (9, [.ref qf0_0, .ref qf0_1, .ref qf0_2, .int v0_3, .ref qf0_4, .ref qf0_5, .ref qf0_6, .ref qf0_7, .ref qf0_8, .int v0_9, .int u3_0, .int u3_1, .int u3_2])), (qf0_0, .inl (cf0_0, 3001, .inl f0_0)), (qf0_1, .inl (cf0_1, 3001, .inl f0_1))] H := hP
        replace hD : va_D A [(h0, .inr (8, [.ref qf0, .ref qf1])), (qf0, .inr (9, [.ref qf0_0, .ref qf0_1, .ref qf0_2, .int v0_3, .ref qf0_4, .ref qf0_5, .ref qf0_6, .ref qf0_7, .ref qf0_8, .int v0_9, .int u3_0, .int u3_1, .int u3_2])), (qf0_0, .inl (cf0_0, 3001, .inl f0_0)), (qf0_1, .inl (cf0_1, 3001, .inl f0_1))] := hD
        replace hK : va_K (dC, dI) vwCl [(cf0_0, .int), (cf0_1, .int)] s := hK
        have hr0 := Option.some.inj hsp
        clear hsp
        obtain ⟨hq0, hr1⟩ := Prod.mk.inj hr0
        clear hr0
        obtain ⟨hq1, hr2⟩ := Prod.mk.inj hr1
        clear hr1
        subst hq0
        subst hq1
        subst hr2
        have hP9 := hP.sub (ws' := [(h0, .inr (8, [.ref qf0, .ref qf1])), (qf0, .inr (9, [.ref qf0_0, .ref qf0_1, .ref qf0_2, .int v0_3, .ref qf0_4, .ref qf0_5, .ref qf0_6, .ref qf0_7, .ref qf0_8, .int v0_9, .int u3_0, .int u3_1, .int u3_2])), (qf0_0, .inl (cf0_0, 3001, .inl f0_0)), (qf0_1, .inl (cf0_1, 3001, .inl f0_1))]) [0, 1, 2, 3] rfl
        have hD9 := hD.sub (ws' := [(h0, .inr (8, [.ref qf0, .ref qf1])), (qf0, .inr (9, [.ref qf0_0, .ref qf0_1, .ref qf0_2, .int v0_3, .ref qf0_4, .ref qf0_5, .ref qf0_6, .ref qf0_7, .ref qf0_8, .int v0_9, .int u3_0, .int u3_1, .int u3_2])), (qf0_0, .inl (cf0_0, 3001, .inl f0_0)), (qf0_1, .inl (cf0_1, 3001, .inl f0_1))]) [0, 1, 2, 3] (by decide) rfl
        have hK9 := hK.sub (tys' := [(cf0_0, .int), (cf0_1, .int)]) [0, 1] rfl
        exact W.vret hx hb hr (fun t ht hW => ⟨⟨(), rfl, trivial, by rw [ht]; exact hP9, va_K.moved hW.alike hK9, hD9⟩, hS.F ht⟩) hS.2.2 dX8_readBlock_54
      · rw [if_pos c_2] at hsp
        refine lv_aload_n hx hb dX8_readBlock_25 rfl (lv_at hl 1 rfl) ?_
        refine va_get (D := (dC, dI)) (ci := 8) (v := .ref qf0) (C := RX8) (T := TX8) (N := 2) hx hb hts uV_h8_X8 hown hK hP 0 rfl rfl 0 (by decide) (hts (.fieldLink RX8 7 "ClassMill$Syntax" "text" "LClassMill$Text;") mw_h8_135) (fun _ h9 => h9) rfl dX8_readBlock_26 ?_
        obtain ⟨u4_0, hu_4, hsp⟩ := ox_bind hsp
        try dsimp only at hsp
        have hPc := hP.sub (ws' := [(qf0, .inr (9, [.ref qf0_0, .ref qf0_1, .ref qf0_2, .int v0_3, .ref qf0_4, .ref qf0_5, .ref qf0_6, .ref qf0_7, .ref qf0_8, .int v0_9, .int x0_10_8, .int x0_11_8, .int x0_12_8])), (qf0_0, .inl (cf0_0, 3001, .inl f0_0))]) [1, 2] rfl
        have hDc := hD.sub (ws' := [(qf0, .inr (9, [.ref qf0_0, .ref qf0_1, .ref qf0_2, .int v0_3, .ref qf0_4, .ref qf0_5, .ref qf0_6, .ref qf0_7, .ref qf0_8, .int v0_9, .int x0_10_8, .int x0_11_8, .int x0_12_8])), (qf0_0, .inl (cf0_0, 3001, .inl f0_0))]) [1, 2] (by decide) rfl
        have hKc := hK.sub (tys' := [(cf0_0, .int)]) [0] rfl
        have hFc := va_free (wc := [(qf0, .inr (9, [.ref qf0_0, .ref qf0_1, .ref qf0_2, .int v0_3, .ref qf0_4, .ref qf0_5, .ref qf0_6, .ref qf0_7, .ref qf0_8, .int v0_9, .int x0_10_8, .int x0_11_8, .int x0_12_8])), (qf0_0, .inl (cf0_0, 3001, .inl f0_0))]) hD hS hA [1, 2] rfl
        refine va_calli (va_runV (As := []) (rest := []) ⟨hx, hb, hml, hown, hts⟩ (t9_kind l dC dI H.size qf0 qf0_0 qf0_1 qf0_2 v0_3 qf0_4 qf0_5 qf0_6 qf0_7 qf0_8 v0_9 x0_10_8 x0_11_8 x0_12_8 cf0_0 f0_0 nf u4_0 hu_4) (cwV 0 hts gv_h8_25 rfl rfl rfl (by decide +kernel) ⟨by dsimp only [headSpec]; omega, by dsimp only [headSpec]; omega⟩) ⟨fun a U g mk q => by obtain ⟨q0, q1, qP, qK, qD⟩ := q; exact ⟨q0, q1, qP, va_K.moved (u := U) (U := U.calling g mk a) (Vm.Alike.refl U.vm) qK, qD⟩, va_recv hKc hPc (ci := 9) (q0 := 0) rfl rfl, fun U hU hW => ⟨rfl, by rw [hU], by rw [hU]; exact hPc, va_K.moved hW.alike hKc, hDc.weaken (fun _ _ _ _ => trivial)⟩⟩ rfl rfl hl.1 rfl (lv_room (Nat.le_of_ble_eq_true rfl)) dX8_readBlock_29 ⟨Nat.le_of_ble_eq_true rfl, Nat.le_of_ble_eq_true rfl⟩) hS (fun q _ h => hFc q h) hFc ?_
        clear hS
        intro r_3 u t H1 locs ht hvm hw hB hz1 hk1 hS
        obtain ⟨⟩ := u
        obtain ⟨hP1, hK1, hD1⟩ := hB
        rw [ht] at hP1
        have hK1 := va_K.moved hvm.symm hK1
        try dsimp only at hw
        have hPD := va_join (wr := [(h0, .inr (8, [.ref qf0, .ref qf1])), (qf0_1, .inl (cf0_1, 3001, .inl f0_1))]) (w1 := [(qf0, .inr (9, [.ref qf0_0, .ref qf0_1, .ref qf0_2, .int v0_3, .ref qf0_4, .ref qf0_5, .ref qf0_6, .ref qf0_7, .ref qf0_8, .int v0_9, .int x0_10_8, .int x0_11_8, .int x0_12_8])), (qf0_0, .inl (cf0_0, 3001, .inl f0_0))]) hP hD [1, 2] [0, 3] rfl rfl (by decide) (by decide) hk1 hFc hP1 hD1
        clear hP hD
        obtain ⟨hP, hD⟩ := hPD
        replace hK := (hK.sub (tys' := [(cf0_1, .int)]) [1] rfl).app hK1
        clear hPc hDc hKc hFc hP1 hK1 hD1 hz1 hk1 ht hvm
        generalize H1 = H at hP hS ⊢
        replace hP : va_P (dC, dI) vwCl [(h0, .inr (8, [.ref qf0, .ref qf1])), (qf0_1, .inl (cf0_1, 3001, .inl f0_1)), (qf0, .inr (9, [.ref qf0_0, .ref qf0_1, .ref qf0_2, .int v0_3, .ref qf0_4, .ref qf0_5, .ref qf0_6, .ref qf0_7, .ref qf0_8, .int v0_9, .int x0_10_8, .int x0_11_8, .int x0_12_8])), (qf0_0, .inl (cf0_0, 3001, .inl f0_0))] H := hP
        replace hD : va_D A [(h0, .inr (8, [.ref qf0, .ref qf1])), (qf0_1, .inl (cf0_1, 3001, .inl f0_1)), (qf0, .inr (9, [.ref qf0_0, .ref qf0_1, .ref qf0_2, .int v0_3, .ref qf0_4, .ref qf0_5, .ref qf0_6, .ref qf0_7, .ref qf0_8, .int v0_9, .int x0_10_8, .int x0_11_8, .int x0_12_8])), (qf0_0, .inl (cf0_0, 3001, .inl f0_0))] := hD
        replace hK : va_K (dC, dI) vwCl [(cf0_1, .int), (cf0_0, .int)] s := hK
        obtain rfl := hw
        refine lv_bipush (v := 43) hx hb dX8_readBlock_32 (by decide) ?_
        refine lv_icmp_eq (tgt := 48) hx hb dX8_readBlock_34 (by decide) (fun c_4 => ?_) (fun c_4 => ?_)
        · rw [if_pos c_4] at hsp
          refine lv_aload_n hx hb dX8_readBlock_48 rfl (lv_at hl 1 rfl) ?_
          refine lv_bipush (v := 43) hx hb dX8_readBlock_49 (by decide) ?_
          obtain ⟨⟨u5_0, u5_1, u5_2⟩, hu_5, hsp⟩ := ox_bind hsp
          try dsimp only at hsp
          have hPc := hP.sub (ws' := [(h0, .inr (8, [.ref qf0, .ref qf1])), (qf0, .inr (9, [.ref qf0_0, .ref qf0_1, .ref qf0_2, .int v0_3, .ref qf0_4, .ref qf0_5, .ref qf0_6, .ref qf0_7, .ref qf0_8, .int v0_9, .int x0_10_8, .int x0_11_8, .int x0_12_8])), (qf0_0, .inl (cf0_0, 3001, .inl f0_0)), (qf0_1, .inl (cf0_1, 3001, .inl f0_1))]) [0, 2, 3, 1] rfl
          have hDc := hD.sub (ws' := [(h0, .inr (8, [.ref qf0, .ref qf1])), (qf0, .inr (9, [.ref qf0_0, .ref qf0_1, .ref qf0_2, .int v0_3, .ref qf0_4, .ref qf0_5, .ref qf0_6, .ref qf0_7, .ref qf0_8, .int v0_9, .int x0_10_8, .int x0_11_8, .int x0_12_8])), (qf0_0, .inl (cf0_0, 3001, .inl f0_0)), (qf0_1, .inl (cf0_1, 3001, .inl f0_1))]) [0, 2, 3, 1] (by decide) rfl
          have hKc := hK.sub (tys' := [(cf0_0, .int), (cf0_1, .int)]) [1, 0] rfl
          have hFc := va_free (wc := [(h0, .inr (8, [.ref qf0, .ref qf1])), (qf0, .inr (9, [.ref qf0_0, .ref qf0_1, .ref qf0_2, .int v0_3, .ref qf0_4, .ref qf0_5, .ref qf0_6, .ref qf0_7, .ref qf0_8, .int v0_9, .int x0_10_8, .int x0_11_8, .int x0_12_8])), (qf0_0, .inl (cf0_0, 3001, .inl f0_0)), (qf0_1, .inl (cf0_1, 3001, .inl f0_1))]) hD hS hA [0, 2, 3, 1] rfl
          refine va_callv (va_runV (As := [.int 43]) (rest := []) ⟨hx, hb, hml, hown, hts⟩ (t8_need l dC dI H.size h0 43 qf0 qf1 qf0_0 qf0_1 qf0_2 v0_3 qf0_4 qf0_5 qf0_6 qf0_7 qf0_8 v0_9 x0_10_8 x0_11_8 x0_12_8 cf0_0 f0_0 cf0_1 f0_1 nf u5_0 u5_1 u5_2 hu_5) (cwV 1 hts gv_h8_23 rfl rfl rfl (by decide +kernel) ⟨by dsimp only [headSpec]; omega, by dsimp only [headSpec]; omega⟩) ⟨fun a U g mk q => by obtain ⟨q0, q1, qP, qK, qD⟩ := q; exact ⟨q0, q1, qP, va_K.moved (u := U) (U := U.calling g mk a) (Vm.Alike.refl U.vm) qK, qD⟩, va_recv hKc hPc (ci := 8) (q0 := 0) rfl rfl, fun U hU hW => ⟨rfl, by rw [hU], by rw [hU]; exact hPc, va_K.moved hW.alike hKc, hDc.weaken (fun _ _ _ _ => trivial)⟩⟩ rfl rfl hl.1 rfl (lv_room (Nat.le_of_ble_eq_true rfl)) dX8_readBlock_51 ⟨Nat.le_of_ble_eq_true rfl, Nat.le_of_ble_eq_true rfl⟩) hS (fun q _ h => hFc q h) hFc ?_
          clear hS
          intro u t H1 locs ht hvm hw hB hz1 hk1 hS
          obtain ⟨⟩ := u
          obtain ⟨hP1, hK1, hD1⟩ := hB
          rw [ht] at hP1
          have hK1 := va_K.moved hvm.symm hK1
          try dsimp only at hw
          have hPD := va_join (wr := []) (w1 := [(h0, .inr (8, [.ref qf0, .ref qf1])), (qf0, .inr (9, [.ref qf0_0, .ref qf0_1, .ref qf0_2, .int v0_3, .ref qf0_4, .ref qf0_5, .ref qf0_6, .ref qf0_7, .ref qf0_8, .int v0_9, .int u5_0, .int u5_1, .int u5_2])), (qf0_0, .inl (cf0_0, 3001, .inl f0_0)), (qf0_1, .inl (cf0_1, 3001, .inl f0_1))]) hP hD [0, 2, 3, 1] [] rfl rfl (by decide) (by decide) hk1 hFc hP1 hD1
          clear hP hD
          obtain ⟨hP, hD⟩ := hPD
          replace hK := (hK.sub (tys' := []) [] rfl).app hK1
          clear hPc hDc hKc hFc hP1 hK1 hD1 hz1 hk1 ht hvm
          generalize H1 = H at hP hS ⊢
          replace hP : va_P (dC, dI) vwCl [(h0, .inr (8, [.ref qf0, .ref qf1])), (qf0, .inr (9, [.ref qf0_0, .ref qf0_1, .ref qf0_2, .int v0_3, .ref qf0_4, .ref qf0_5, .ref qf0_6, .ref qf0_7, .ref qf0_8, .int v0_9, .int u5_0, .int u5_1, .int u5_2])), (qf0_0, .inl (cf0_0, 3001, .inl f0_0)), (qf0_1, .inl (cf0_1, 3001, .inl f0_1))] H := hP
          replace hD : va_D A [(h0, .inr (8, [.ref qf0, .ref qf1])), (qf0, .inr (9, [.ref qf0_0, .ref qf0_1, .ref qf0_2, .int v0_3, .ref qf0_4, .ref qf0_5, .ref qf0_6, .ref qf0_7, .ref qf0_8, .int v0_9, .int u5_0, .int u5_1, .int u5_2])), (qf0_0, .inl (cf0_0, 3001, .inl f0_0)), (qf0_1, .inl (cf0_1, 3001, .inl f0_1))] := hD
          replace hK : va_K (dC, dI) vwCl [(cf0_0, .int), (cf0_1, .int)] s := hK
          have hr0 := Option.some.inj hsp
          clear hsp
          obtain ⟨hq0, hr1⟩ := Prod.mk.inj hr0
          clear hr0
          obtain ⟨hq1, hr2⟩ := Prod.mk.inj hr1
          clear hr1
          subst hq0
          subst hq1
          subst hr2
          have hP9 := hP.sub (ws' := [(h0, .inr (8, [.ref qf0, .ref qf1])), (qf0, .inr (9, [.ref qf0_0, .ref qf0_1, .ref qf0_2, .int v0_3, .ref qf0_4, .ref qf0_5, .ref qf0_6, .ref qf0_7, .ref qf0_8, .int v0_9, .int u5_0, .int u5_1, .int u5_2])), (qf0_0, .inl (cf0_0, 3001, .inl f0_0)), (qf0_1, .inl (cf0_1, 3001, .inl f0_1))]) [0, 1, 2, 3] rfl
          have hD9 := hD.sub (ws' := [(h0, .inr (8, [.ref qf0, .ref qf1])), (qf0, .inr (9, [.ref qf0_0, .ref qf0_1, .ref qf0_2, .int v0_3, .ref qf0_4, .ref qf0_5, .ref qf0_6, .ref qf0_7, .ref qf0_8, .int v0_9, .int u5_0, .int u5_1, .int u5_2])), (qf0_0, .inl (cf0_0, 3001, .inl f0_0)), (qf0_1, .inl (cf0_1, 3001, .inl f0_1))]) [0, 1, 2, 3] (by decide) rfl
          have hK9 := hK.sub (tys' := [(cf0_0, .int), (cf0_1, .int)]) [0, 1] rfl
          exact W.vret hx hb hr (fun t ht hW => ⟨⟨(), rfl, trivial, by rw [ht]; exact hP9, va_K.moved hW.alike hK9, hD9⟩, hS.F ht⟩) hS.2.2 dX8_readBlock_54
        · rw [if_neg c_4] at hsp
          refine lv_aload_n hx hb dX8_readBlock_37 rfl (lv_at hl 1 rfl) ?_
          refine lv_iload_n hx hb dX8_readBlock_38 rfl (lv_at hl 2 rfl) ?_
          obtain ⟨⟨u6_0, u6_1, u6_2⟩, hu_6, hsp⟩ := ox_bind hsp
          try dsimp only at hsp
          have hPc := hP.sub (ws' := [(h0, .inr (8, [.ref qf0, .ref qf1])), (qf0, .inr (9, [.ref qf0_0, .ref qf0_1, .ref qf0_2, .int v0_3, .ref qf0_4, .ref qf0_5, .ref qf0_6, .ref qf0_7, .ref qf0_8, .int v0_9, .int x0_10_8, .int x0_11_8, .int x0_12_8])), (qf0_0, .inl (cf0_0, 3001, .inl f0_0)), (qf0_1, .inl (cf0_1, 3001, .inl f0_1))]) [0, 2, 3, 1] rfl
          have hDc := hD.sub (ws' := [(h0, .inr (8, [.ref qf0, .ref qf1])), (qf0, .inr (9, [.ref qf0_0, .ref qf0_1, .ref qf0_2, .int v0_3, .ref qf0_4, .ref qf0_5, .ref qf0_6, .ref qf0_7, .ref qf0_8, .int v0_9, .int x0_10_8, .int x0_11_8, .int x0_12_8])), (qf0_0, .inl (cf0_0, 3001, .inl f0_0)), (qf0_1, .inl (cf0_1, 3001, .inl f0_1))]) [0, 2, 3, 1] (by decide) rfl
          have hKc := hK.sub (tys' := [(cf0_0, .int), (cf0_1, .int)]) [1, 0] rfl
          have hFc := va_free (wc := [(h0, .inr (8, [.ref qf0, .ref qf1])), (qf0, .inr (9, [.ref qf0_0, .ref qf0_1, .ref qf0_2, .int v0_3, .ref qf0_4, .ref qf0_5, .ref qf0_6, .ref qf0_7, .ref qf0_8, .int v0_9, .int x0_10_8, .int x0_11_8, .int x0_12_8])), (qf0_0, .inl (cf0_0, 3001, .inl f0_0)), (qf0_1, .inl (cf0_1, 3001, .inl f0_1))]) hD hS hA [0, 2, 3, 1] rfl
          refine va_callv (va_runV (As := [.int l1_8]) (rest := []) ⟨hx, hb, hml, hown, hts⟩ (ih_0 l dC dI H.size h0 l1_8 qf0 qf1 qf0_0 qf0_1 qf0_2 v0_3 qf0_4 qf0_5 qf0_6 qf0_7 qf0_8 v0_9 x0_10_8 x0_11_8 x0_12_8 cf0_0 f0_0 cf0_1 f0_1 nf u6_0 u6_1 u6_2 hu_6) (cwV 1 hts gv_h8_36 rfl rfl rfl (by decide +kernel) ⟨by dsimp only [headSpec]; omega, by dsimp only [headSpec]; omega⟩) ⟨fun a U g mk q => by obtain ⟨q0, q1, qP, qK, qD⟩ := q; exact ⟨q0, q1, qP, va_K.moved (u := U) (U := U.calling g mk a) (Vm.Alike.refl U.vm) qK, qD⟩, va_recv hKc hPc (ci := 8) (q0 := 0) rfl rfl, fun U hU hW => ⟨rfl, by rw [hU], by rw [hU]; exact hPc, va_K.moved hW.alike hKc, hDc.weaken (fun _ _ _ _ => trivial)⟩⟩ rfl rfl hl.1 rfl (lv_room (Nat.le_of_ble_eq_true rfl)) dX8_readBlock_39 ⟨Nat.le_of_ble_eq_true rfl, Nat.le_of_ble_eq_true rfl⟩) hS (fun q _ h => hFc q h) hFc ?_
          clear hS
          intro u t H1 locs ht hvm hw hB hz1 hk1 hS
          obtain ⟨⟩ := u
          obtain ⟨hP1, hK1, hD1⟩ := hB
          rw [ht] at hP1
          have hK1 := va_K.moved hvm.symm hK1
          try dsimp only at hw
          have hPD := va_join (wr := []) (w1 := [(h0, .inr (8, [.ref qf0, .ref qf1])), (qf0, .inr (9, [.ref qf0_0, .ref qf0_1, .ref qf0_2, .int v0_3, .ref qf0_4, .ref qf0_5, .ref qf0_6, .ref qf0_7, .ref qf0_8, .int v0_9, .int u6_0, .int u6_1, .int u6_2])), (qf0_0, .inl (cf0_0, 3001, .inl f0_0)), (qf0_1, .inl (cf0_1, 3001, .inl f0_1))]) hP hD [0, 2, 3, 1] [] rfl rfl (by decide) (by decide) hk1 hFc hP1 hD1
          clear hP hD
          obtain ⟨hP, hD⟩ := hPD
          replace hK := (hK.sub (tys' := []) [] rfl).app hK1
          clear hPc hDc hKc hFc hP1 hK1 hD1 hz1 hk1 ht hvm
          generalize H1 = H at hP hS ⊢
          replace hP : va_P (dC, dI) vwCl [(h0, .inr (8, [.ref qf0, .ref qf1])), (qf0, .inr (9, [.ref qf0_0, .ref qf0_1, .ref qf0_2, .int v0_3, .ref qf0_4, .ref qf0_5, .ref qf0_6, .ref qf0_7, .ref qf0_8, .int v0_9, .int u6_0, .int u6_1, .int u6_2])), (qf0_0, .inl (cf0_0, 3001, .inl f0_0)), (qf0_1, .inl (cf0_1, 3001, .inl f0_1))] H := hP
          replace hD : va_D A [(h0, .inr (8, [.ref qf0, .ref qf1])), (qf0, .inr (9, [.ref qf0_0, .ref qf0_1, .ref qf0_2, .int v0_3, .ref qf0_4, .ref qf0_5, .ref qf0_6, .ref qf0_7, .ref qf0_8, .int v0_9, .int u6_0, .int u6_1, .int u6_2])), (qf0_0, .inl (cf0_0, 3001, .inl f0_0)), (qf0_1, .inl (cf0_1, 3001, .inl f0_1))] := hD
          replace hK : va_K (dC, dI) vwCl [(cf0_0, .int), (cf0_1, .int)] s := hK
          refine lv_iinc (v := (l2_8 + 1)) (lv' := [(2, .int (l2_8 + 1)), (0, .ref h0), (1, .int l1_8)]) hx hb dX8_readBlock_42 hl (k := 0) rfl rfl (by decide) rfl (fun ls hl => ?_)
          refine lv_goto (tgt := 8) hx hb dX8_readBlock_45 (by decide) ?_
          exact ih_8 H locs ls l1_8 (l2_8 + 1) u6_0 u6_1 u6_2 (lv_sub hl [0, 1, 2] rfl) hS (hD.sub (ws' := [(h0, .inr (8, [.ref qf0, .ref qf1])), (qf0, .inr (9, [.ref qf0_0, .ref qf0_1, .ref qf0_2, .int v0_3, .ref qf0_4, .ref qf0_5, .ref qf0_6, .ref qf0_7, .ref qf0_8, .int v0_9, .int u6_0, .int u6_1, .int u6_2])), (qf0_0, .inl (cf0_0, 3001, .inl f0_0)), (qf0_1, .inl (cf0_1, 3001, .inl f0_1))]) [0, 1, 2, 3] (by decide) rfl) (hP.sub (ws' := [(h0, .inr (8, [.ref qf0, .ref qf1])), (qf0, .inr (9, [.ref qf0_0, .ref qf0_1, .ref qf0_2, .int v0_3, .ref qf0_4, .ref qf0_5, .ref qf0_6, .ref qf0_7, .ref qf0_8, .int v0_9, .int u6_0, .int u6_1, .int u6_2])), (qf0_0, .inl (cf0_0, 3001, .inl f0_0)), (qf0_1, .inl (cf0_1, 3001, .inl f0_1))]) [0, 1, 2, 3] rfl) hsp
