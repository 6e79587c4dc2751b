set_option maxHeartbeats 4000000 in
set_option maxRecDepth 100000 in
/-- ClassMill$Image.checkConstant -/
theorem v3_checkConstant (l : Launch) (dC : Nat → ClassId) (dI : Nat → Nat → Nat) (sz : Nat) (h0 : Nat) (a1 : Int32) (qf0 : Nat) (v1 : Int32) (v2 : Int32) (v3 : Int32) (qf4 : Nat) (qf5 : Nat) (qf6 : Nat) (v7 : Int32) (v8 : Int32) (v9 : Int32) (v10 : Int32) (qf11 : Nat) (v12 : Int32) (qf13 : Nat) (cf5 : ClassId) (f5 : (Nat → Int32)) (cf4 : ClassId) (f4 : (Nat → Int32)) (cf0 : ClassId) (nb : Nat) (f0 : (Nat → Int32)) (cf6 : ClassId) (f6 : (Nat → Int32)) (nf : Nat) (w3 : Int32) (hsp : sp_v3_checkConstant nf a1 v1 v3 v7 f5 f4 nb f0 f6 = some w3) : Met l yX3_checkConstant (.code yX3_checkConstant cX3_checkConstant 4 none :: VS_h7) ({ frames := 3, cells := 0, slots := 0, locals := 76 }) (va_Pc [.ref h0, .int a1] (fun U => U.heap.size = sz ∧ va_P (dC, dI) vwCl [(h0, .inr (3, [.ref qf0, .int v1, .int v2, .int v3, .ref qf4, .ref qf5, .ref qf6, .int v7, .int v8, .int v9, .int v10, .ref qf11, .int v12, .ref qf13])), (qf5, .inl (cf5, 256, .inl f5)), (qf4, .inl (cf4, 256, .inl f4)), (qf0, .inl (cf0, nb, .inl f0)), (qf6, .inl (cf6, 256, .inl f6))] U.heap ∧ va_K (dC, dI) vwCl [(cf5, .int), (cf4, .int), (cf0, .byte), (cf6, .int)] U ∧ va_D (fun _ => True) [(h0, .inr (3, [.ref qf0, .int v1, .int v2, .int v3, .ref qf4, .ref qf5, .ref qf6, .int v7, .int v8, .int v9, .int v10, .ref qf11, .int v12, .ref qf13])), (qf5, .inl (cf5, 256, .inl f5)), (qf4, .inl (cf4, 256, .inl f4)), (qf0, .inl (cf0, nb, .inl f0)), (qf6, .inl (cf6, 256, .inl f6))])) (va_Qv (fun (u : Unit) => match u with | () => True) (fun (u : Unit) (t : State) => match u with | () => va_P (dC, dI) vwCl [(h0, .inr (3, [.ref qf0, .int v1, .int v2, .int w3, .ref qf4, .ref qf5, .ref qf6, .int v7, .int v8, .int v9, .int v10, .ref qf11, .int v12, .ref qf13])), (qf5, .inl (cf5, 256, .inl f5)), (qf4, .inl (cf4, 256, .inl f4)), (qf0, .inl (cf0, nb, .inl f0)), (qf6, .inl (cf6, 256, .inl f6))] t.heap ∧ va_K (dC, dI) vwCl [(cf5, .int), (cf4, .int), (cf0, .byte), (cf6, .int)] t ∧ va_D (va_A [(h0, .inr (3, [.ref qf0, .int v1, .int v2, .int v3, .ref qf4, .ref qf5, .ref qf6, .int v7, .int v8, .int v9, .int v10, .ref qf11, .int v12, .ref qf13])), (qf5, .inl (cf5, 256, .inl f5)), (qf4, .inl (cf4, 256, .inl f4)), (qf0, .inl (cf0, nb, .inl f0)), (qf6, .inl (cf6, 256, .inl f6))] sz) [(h0, .inr (3, [.ref qf0, .int v1, .int v2, .int w3, .ref qf4, .ref qf5, .ref qf6, .int v7, .int v8, .int v9, .int v10, .ref qf11, .int v12, .ref qf13])), (qf5, .inl (cf5, 256, .inl f5)), (qf4, .inl (cf4, 256, .inl f4)), (qf0, .inl (cf0, nb, .inl f0)), (qf6, .inl (cf6, 256, .inl f6))]) (va_A [(h0, .inr (3, [.ref qf0, .int v1, .int v2, .int v3, .ref qf4, .ref qf5, .ref qf6, .int v7, .int v8, .int v9, .int v10, .ref qf11, .int v12, .ref qf13])), (qf5, .inl (cf5, 256, .inl f5)), (qf4, .inl (cf4, 256, .inl f4)), (qf0, .inl (cf0, nb, .inl f0)), (qf6, .inl (cf6, 256, .inl f6))] sz)) 0 0 (va_A [(h0, .inr (3, [.ref qf0, .int v1, .int v2, .int v3, .ref qf4, .ref qf5, .ref qf6, .int v7, .int v8, .int v9, .int v10, .ref qf11, .int v12, .ref qf13])), (qf5, .inl (cf5, 256, .inl f5)), (qf4, .inl (cf4, 256, .inl f4)), (qf0, .inl (cf0, nb, .inl f0)), (qf6, .inl (cf6, 256, .inl f6))] sz) := by
  refine Met.ofW (cc := cX3_checkConstant) (maxL := 4) (ret := none) (by decide) rfl ?_
  intro p e s m args below meth c s₁ B hml hv
  obtain ⟨rfl, hsz, hP, hK, hD0⟩ := hv
  have hx := B.exec
  have hb := B.bytes
  have hr := B.returns
  have hts := atoms_spec (ws := (.code yX3_checkConstant cX3_checkConstant 4 none :: VS_h7)) B.pre
  replace hts := fun w (h : w ∈ VS_h7) => hts w (List.mem_cons_of_mem _ h)
  have hown : s.vm.findClass RX3 = some m.cls := findClass_of_methodNamed B.named
  have hlocks := B.notSynchronized
  subst hsz
  have hD := hD0.self (sz := s.heap.size)
  generalize hAe : va_A [(h0, .inr (3, [.ref qf0, .int v1, .int v2, .int v3, .ref qf4, .ref qf5, .ref qf6, .int v7, .int v8, .int v9, .int v10, .ref qf11, .int v12, .ref qf13])), (qf5, .inl (cf5, 256, .inl f5)), (qf4, .inl (cf4, 256, .inl f4)), (qf0, .inl (cf0, nb, .inl f0)), (qf6, .inl (cf6, 256, .inl f6))] s.heap.size = A at hD  ⊢
  have hA : ∀ q : Nat, s.heap.size ≤ q → A q := fun q h => by rw [← hAe]; exact Or.inr h
  have hP : va_P (dC, dI) vwCl [(h0, .inr (3, [.ref qf0, .int v1, .int v2, .int v3, .ref qf4, .ref qf5, .ref qf6, .int v7, .int v8, .int v9, .int v10, .ref qf11, .int v12, .ref qf13])), (qf5, .inl (cf5, 256, .inl f5)), (qf4, .inl (cf4, 256, .inl f4)), (qf0, .inl (cf0, nb, .inl f0)), (qf6, .inl (cf6, 256, .inl f6))] s.heap := hP
  have hl := lv_entry ([.ref h0, .int a1]) (n := 4) (Nat.le_of_ble_eq_true rfl)
  rw [lg_entry_eq]
  generalize (lg_sl ([.ref h0, .int a1]) ++ List.replicate (4 - (lg_sl ([.ref h0, .int a1])).length) Slot.unset).toArray = ls at hl ⊢
  have hl : lv_has ls 4 [(0, .ref h0), (1, .int a1)] := hl
  obtain ⟨H, hH⟩ : ∃ H : Heap, s.heap = H := ⟨_, rfl⟩
  rw [hH] at hP ⊢
  have hS : va_S A s.heap H [] := by rw [← hH]; exact va_S.rf
  obtain ⟨locs, hlo⟩ : ∃ locs : List Loc, locs = [] := ⟨_, rfl⟩
  rw [← hlo] at hS ⊢
  unfold sp_v3_checkConstant at hsp
  refine jn_use (α := Heap × List Loc × Array Slot × Int32 × Int32 × Int32) (fun x9 => x9.1) (fun x9 => x9.2.1) (fun x9 => F0 m 109 x9.2.2.1 []) (fun x9 => match x9 with | (H, locs, ls, l2_109, l3_109, x3_109) => lv_has ls 4 [(0, .ref h0), (2, .int l2_109), (3, .int l3_109)] ∧ va_S A s.heap H locs ∧ va_D A [(h0, .inr (3, [.ref qf0, .int v1, .int v2, .int x3_109, .ref qf4, .ref qf5, .ref qf6, .int v7, .int v8, .int v9, .int v10, .ref qf11, .int v12, .ref qf13])), (qf5, .inl (cf5, 256, .inl f5)), (qf4, .inl (cf4, 256, .inl f4)), (qf0, .inl (cf0, nb, .inl f0)), (qf6, .inl (cf6, 256, .inl f6))] ∧ va_P (dC, dI) vwCl [(h0, .inr (3, [.ref qf0, .int v1, .int v2, .int x3_109, .ref qf4, .ref qf5, .ref qf6, .int v7, .int v8, .int v9, .int v10, .ref qf11, .int v12, .ref qf13])), (qf5, .inl (cf5, 256, .inl f5)), (qf4, .inl (cf4, 256, .inl f4)), (qf0, .inl (cf0, nb, .inl f0)), (qf6, .inl (cf6, 256, .inl f6))] H ∧ jn_v3_checkConstant_109 nf a1 v1 v3 v7 f5 f4 nb f0 f6 l2_109 l3_109 x3_109 = some w3) ?_ ?_
  · intro x9 hJ9
    obtain ⟨H, locs, ls, l2_109, l3_109, x3_109⟩ := x9
    obtain ⟨hl, hS, hD, hP, hsp⟩ := hJ9
    replace hl : lv_has ls 4 [(0, .ref h0), (2, .int l2_109), (3, .int l3_109)] := hl
    replace hS : va_S A s.heap H locs := hS
    replace hD : va_D A [(h0, .inr (3, [.ref qf0, .int v1, .int v2, .int x3_109, .ref qf4, .ref qf5, .ref qf6, .int v7, .int v8, .int v9, .int v10, .ref qf11, .int v12, .ref qf13])), (qf5, .inl (cf5, 256, .inl f5)), (qf4, .inl (cf4, 256, .inl f4)), (qf0, .inl (cf0, nb, .inl f0)), (qf6, .inl (cf6, 256, .inl f6))] := hD
    replace hP : va_P (dC, dI) vwCl [(h0, .inr (3, [.ref qf0, .int v1, .int v2, .int x3_109, .ref qf4, .ref qf5, .ref qf6, .int v7, .int v8, .int v9, .int v10, .ref qf11, .int v12, .ref qf13])), (qf5, .inl (cf5, 256, .inl f5)), (qf4, .inl (cf4, 256, .inl f4)), (qf0, .inl (cf0, nb, .inl f0)), (qf6, .inl (cf6, 256, .inl f6))] H := hP
    replace hsp : jn_v3_checkConstant_109 nf a1 v1 v3 v7 f5 f4 nb f0 f6 l2_109 l3_109 x3_109 = some w3 := hsp
    show W _ _ _ _ _ _ _ _ _ _ H locs _ _ _ (F0 m 109 ls [])
    unfold jn_v3_checkConstant_109 at hsp
    try dsimp only at hsp
    refine lv_aload_n hx hb dX3_checkConstant_109 rfl (lv_at hl 0 rfl) ?_
    refine lv_iload_n hx hb dX3_checkConstant_110 rfl (lv_at hl 2 rfl) ?_
    obtain ⟨u13_0, hu_13, hsp⟩ := ox_bind hsp
    try dsimp only at hsp
    have hPc := hP.sub (ws' := [(h0, .inr (3, [.ref qf0, .int v1, .int v2, .int x3_109, .ref qf4, .ref qf5, .ref qf6, .int v7, .int v8, .int v9, .int v10, .ref qf11, .int v12, .ref qf13])), (qf4, .inl (cf4, 256, .inl f4)), (qf5, .inl (cf5, 256, .inl f5)), (qf6, .inl (cf6, 256, .inl f6)), (qf0, .inl (cf0, nb, .inl f0))]) [0, 2, 1, 4, 3] rfl
    have hDc := hD.sub (ws' := [(h0, .inr (3, [.ref qf0, .int v1, .int v2, .int x3_109, .ref qf4, .ref qf5, .ref qf6, .int v7, .int v8, .int v9, .int v10, .ref qf11, .int v12, .ref qf13])), (qf4, .inl (cf4, 256, .inl f4)), (qf5, .inl (cf5, 256, .inl f5)), (qf6, .inl (cf6, 256, .inl f6)), (qf0, .inl (cf0, nb, .inl f0))]) [0, 2, 1, 4, 3] (by decide) rfl
    have hKc := hK.sub (tys' := [(cf4, .int), (cf5, .int), (cf6, .int), (cf0, .byte)]) [1, 0, 3, 2] rfl
    have hFc := va_free (wc := [(h0, .inr (3, [.ref qf0, .int v1, .int v2, .int x3_109, .ref qf4, .ref qf5, .ref qf6, .int v7, .int v8, .int v9, .int v10, .ref qf11, .int v12, .ref qf13])), (qf4, .inl (cf4, 256, .inl f4)), (qf5, .inl (cf5, 256, .inl f5)), (qf6, .inl (cf6, 256, .inl f6)), (qf0, .inl (cf0, nb, .inl f0))]) hD hS hA [0, 2, 1, 4, 3] rfl
    refine va_calli (va_runV (As := [.int l3_109]) (rest := []) ⟨hx, hb, hml, hown, hts⟩ (v3_isFieldKind l dC dI H.size h0 l3_109 qf0 v1 v2 x3_109 qf4 qf5 qf6 v7 v8 v9 v10 qf11 v12 qf13 cf4 f4 cf5 f5 cf6 f6 cf0 nb f0 nf u13_0 hu_13) (cwV 1 hts gv_h7_122 rfl rfl rfl (by decide +kernel) ⟨Nat.le_of_ble_eq_true rfl, Nat.le_of_ble_eq_true rfl⟩) ⟨fun a U g mk q => by obtain ⟨q0, q1, qP, qK, qD⟩ := q; exact ⟨q0, q1, qP, va_K.moved (u := U) (U := U.calling g mk a) (Vm.Alike.refl U.vm) qK, qD⟩, va_recv hKc hPc (ci := 3) (q0 := 0) rfl rfl, fun U hU hW => ⟨rfl, by rw [hU], by rw [hU]; exact hPc, va_K.moved hW.alike hKc, hDc.weaken (fun _ _ _ _ => trivial)⟩⟩ rfl rfl hl.1 rfl (lv_room (Nat.le_of_ble_eq_true rfl)) dX3_checkConstant_111 ⟨Nat.le_of_ble_eq_true rfl, Nat.le_of_ble_eq_true rfl⟩) hS (fun q _ h => hFc q h) hFc ?_
    clear hS
    intro r_24 u t H1 locs ht hvm hw hB hz1 hk1 hS
    obtain ⟨⟩ := u
    obtain ⟨hP1, hK1, hD1⟩ := hB
    rw [ht] at hP1
    have hK1 := va_K.moved hvm.symm hK1
    try dsimp only at hw
    have hPD := va_join (wr := []) (w1 := [(h0, .inr (3, [.ref qf0, .int v1, .int v2, .int x3_109, .ref qf4, .ref qf5, .ref qf6, .int v7, .int v8, .int v9, .int v10, .ref qf11, .int v12, .ref qf13])), (qf4, .inl (cf4, 256, .inl f4)), (qf5, .inl (cf5, 256, .inl f5)), (qf6, .inl (cf6, 256, .inl f6)), (qf0, .inl (cf0, nb, .inl f0))]) hP hD [0, 2, 1, 4, 3] [] rfl rfl (by decide) (by decide) hk1 hFc hP1 hD1
    clear hP hD
    obtain ⟨hP, hD⟩ := hPD
    replace hK := (hK.sub (tys' := []) [] rfl).app hK1
    clear hPc hDc hKc hFc hP1 hK1 hD1 hz1 hk1 ht hvm
    generalize H1 = H at hP hS ⊢
    replace hP : va_P (dC, dI) vwCl [(h0, .inr (3, [.ref qf0, .int v1, .int v2, .int x3_109, .ref qf4, .ref qf5, .ref qf6, .int v7, .int v8, .int v9, .int v10, .ref qf11, .int v12, .ref qf13])), (qf4, .inl (cf4, 256, .inl f4)), (qf5, .inl (cf5, 256, .inl f5)), (qf6, .inl (cf6, 256, .inl f6)), (qf0, .inl (cf0, nb, .inl f0))] H := hP
    replace hD : va_D A [(h0, .inr (3, [.ref qf0, .int v1, .int v2, .int x3_109, .ref qf4, .ref qf5, .ref qf6, .int v7, .int v8, .int v9, .int v10, .ref qf11, .int v12, .ref qf13])), (qf4, .inl (cf4, 256, .inl f4)), (qf5, .inl (cf5, 256, .inl f5)), (qf6, .inl (cf6, 256, .inl f6)), (qf0, .inl (cf0, nb, .inl f0))] := hD
    replace hK : va_K (dC, dI) vwCl [(cf4, .int), (cf5, .int), (cf6, .int), (cf0, .byte)] s := hK
    obtain ⟨rfl, hz_13⟩ := hw
    rcases hz_13 with rfl | rfl
    · rw [if_pos rfl] at hsp
      refine lv_if_ne (tgt := 133) hx hb dX3_checkConstant_114 (by decide) (fun c_25 => (show False by revert c_25; decide).elim) (fun c_25 => ?_)
      refine lv_aload_n hx hb dX3_checkConstant_117 rfl (lv_at hl 0 rfl) ?_
      refine lv_iload_n hx hb dX3_checkConstant_118 rfl (lv_at hl 2 rfl) ?_
      obtain ⟨u14_0, hu_14, hsp⟩ := ox_bind hsp
      try dsimp only at hsp
      have hPc := hP.sub (ws' := [(h0, .inr (3, [.ref qf0, .int v1, .int v2, .int x3_109, .ref qf4, .ref qf5, .ref qf6, .int v7, .int v8, .int v9, .int v10, .ref qf11, .int v12, .ref qf13])), (qf4, .inl (cf4, 256, .inl f4)), (qf5, .inl (cf5, 256, .inl f5)), (qf0, .inl (cf0, nb, .inl f0)), (qf6, .inl (cf6, 256, .inl f6))]) [0, 1, 2, 4, 3] rfl
      have hDc := hD.sub (ws' := [(h0, .inr (3, [.ref qf0, .int v1, .int v2, .int x3_109, .ref qf4, .ref qf5, .ref qf6, .int v7, .int v8, .int v9, .int v10, .ref qf11, .int v12, .ref qf13])), (qf4, .inl (cf4, 256, .inl f4)), (qf5, .inl (cf5, 256, .inl f5)), (qf0, .inl (cf0, nb, .inl f0)), (qf6, .inl (cf6, 256, .inl f6))]) [0, 1, 2, 4, 3] (by decide) rfl
      have hKc := hK.sub (tys' := [(cf4, .int), (cf5, .int), (cf0, .byte), (cf6, .int)]) [0, 1, 3, 2] rfl
      have hFc := va_free (wc := [(h0, .inr (3, [.ref qf0, .int v1, .int v2, .int x3_109, .ref qf4, .ref qf5, .ref qf6, .int v7, .int v8, .int v9, .int v10, .ref qf11, .int v12, .ref qf13])), (qf4, .inl (cf4, 256, .inl f4)), (qf5, .inl (cf5, 256, .inl f5)), (qf0, .inl (cf0, nb, .inl f0)), (qf6, .inl (cf6, 256, .inl f6))]) hD hS hA [0, 1, 2, 4, 3] rfl
      refine va_calli (va_runV (As := [.int l3_109]) (rest := []) ⟨hx, hb, hml, hown, hts⟩ (v3_parametersIn l dC dI H.size h0 l3_109 qf0 v1 v2 x3_109 qf4 qf5 qf6 v7 v8 v9 v10 qf11 v12 qf13 cf4 f4 cf5 f5 cf0 nb f0 cf6 f6 nf u14_0 hu_14) (cwV 1 hts gv_h7_41 rfl rfl rfl (by decide +kernel) ⟨Nat.le_of_ble_eq_true rfl, Nat.le_of_ble_eq_true rfl⟩) ⟨fun a U g mk q => by obtain ⟨q0, q1, qP, qK, qD⟩ := q; exact ⟨q0, q1, qP, va_K.moved (u := U) (U := U.calling g mk a) (Vm.Alike.refl U.vm) qK, qD⟩, va_recv hKc hPc (ci := 3) (q0 := 0) rfl rfl, fun U hU hW => ⟨rfl, by rw [hU], by rw [hU]; exact hPc, va_K.moved hW.alike hKc, hDc.weaken (fun _ _ _ _ => trivial)⟩⟩ rfl rfl hl.1 rfl (lv_room (Nat.le_of_ble_eq_true rfl)) dX3_checkConstant_119 ⟨Nat.le_of_ble_eq_true rfl, Nat.le_of_ble_eq_true rfl⟩) hS (fun q _ h => hFc q h) hFc ?_
      clear hS
      intro r_26 u t H1 locs ht hvm hw hB hz1 hk1 hS
      obtain ⟨⟩ := u
      obtain ⟨hP1, hK1, hD1⟩ := hB
      rw [ht] at hP1
      have hK1 := va_K.moved hvm.symm hK1
      try dsimp only at hw
      have hPD := va_join (wr := []) (w1 := [(h0, .inr (3, [.ref qf0, .int v1, .int v2, .int x3_109, .ref qf4, .ref qf5, .ref qf6, .int v7, .int v8, .int v9, .int v10, .ref qf11, .int v12, .ref qf13])), (qf4, .inl (cf4, 256, .inl f4)), (qf5, .inl (cf5, 256, .inl f5)), (qf0, .inl (cf0, nb, .inl f0)), (qf6, .inl (cf6, 256, .inl f6))]) hP hD [0, 1, 2, 4, 3] [] rfl rfl (by decide) (by decide) hk1 hFc hP1 hD1
      clear hP hD
      obtain ⟨hP, hD⟩ := hPD
      replace hK := (hK.sub (tys' := []) [] rfl).app hK1
      clear hPc hDc hKc hFc hP1 hK1 hD1 hz1 hk1 ht hvm
      generalize H1 = H at hP hS ⊢
      replace hP : va_P (dC, dI) vwCl [(h0, .inr (3, [.ref qf0, .int v1, .int v2, .int x3_109, .ref qf4, .ref qf5, .ref qf6, .int v7, .int v8, .int v9, .int v10, .ref qf11, .int v12, .ref qf13])), (qf4, .inl (cf4, 256, .inl f4)), (qf5, .inl (cf5, 256, .inl f5)), (qf0, .inl (cf0, nb, .inl f0)), (qf6, .inl (cf6, 256, .inl f6))] H := hP
      replace hD : va_D A [(h0, .inr (3, [.ref qf0, .int v1, .int v2, .int x3_109, .ref qf4, .ref qf5, .ref qf6, .int v7, .int v8, .int v9, .int v10, .ref qf11, .int v12, .ref qf13])), (qf4, .inl (cf4, 256, .inl f4)), (qf5, .inl (cf5, 256, .inl f5)), (qf0, .inl (cf0, nb, .inl f0)), (qf6, .inl (cf6, 256, .inl f6))] := hD
      replace hK : va_K (dC, dI) vwCl [(cf4, .int), (cf5, .int), (cf0, .byte), (cf6, .int)] s := hK
      obtain rfl := hw
      refine lv_iconst (v := (-1)) hx hb dX3_checkConstant_122 (by decide) ?_
      refine lv_icmp_ne (tgt := 133) hx hb dX3_checkConstant_123 (by decide) (fun c_27 => ?_) (fun c_27 => ?_)
      · rw [if_neg c_27] at hsp
        have hr0 := Option.some.inj hsp
        clear hsp
        subst hr0
        have hP9 := hP.sub (ws' := [(h0, .inr (3, [.ref qf0, .int v1, .int v2, .int x3_109, .ref qf4, .ref qf5, .ref qf6, .int v7, .int v8, .int v9, .int v10, .ref qf11, .int v12, .ref qf13])), (qf5, .inl (cf5, 256, .inl f5)), (qf4, .inl (cf4, 256, .inl f4)), (qf0, .inl (cf0, nb, .inl f0)), (qf6, .inl (cf6, 256, .inl f6))]) [0, 2, 1, 3, 4] rfl
        have hD9 := hD.sub (ws' := [(h0, .inr (3, [.ref qf0, .int v1, .int v2, .int x3_109, .ref qf4, .ref qf5, .ref qf6, .int v7, .int v8, .int v9, .int v10, .ref qf11, .int v12, .ref qf13])), (qf5, .inl (cf5, 256, .inl f5)), (qf4, .inl (cf4, 256, .inl f4)), (qf0, .inl (cf0, nb, .inl f0)), (qf6, .inl (cf6, 256, .inl f6))]) [0, 2, 1, 3, 4] (by decide) rfl
        have hK9 := hK.sub (tys' := [(cf5, .int), (cf4, .int), (cf0, .byte), (cf6, .int)]) [1, 0, 2, 3] rfl
        exact W.vret hx hb hr (fun t ht hW => ⟨⟨(), rfl, trivial, by rw [ht]; exact hP9, va_K.moved hW.alike hK9, hD9⟩, hS.F ht⟩) hS.2.2 dX3_checkConstant_133
      · rw [if_pos c_27] at hsp
        refine lv_aload_n hx hb dX3_checkConstant_126 rfl (lv_at hl 0 rfl) ?_
        refine lv_iload_n hx hb dX3_checkConstant_127 rfl (lv_at hl 1 rfl) ?_
        refine lv_iconst (v := 2) hx hb dX3_checkConstant_128 (by decide) ?_
        refine lv_iadd hx hb dX3_checkConstant_129 ?_
        obtain ⟨u15_0, hu_15, hsp⟩ := ox_bind hsp
        try dsimp only at hsp
        have hPc := hP.sub (ws' := [(h0, .inr (3, [.ref qf0, .int v1, .int v2, .int x3_109, .ref qf4, .ref qf5, .ref qf6, .int v7, .int v8, .int v9, .int v10, .ref qf11, .int v12, .ref qf13]))]) [0] rfl
        have hDc := hD.sub (ws' := [(h0, .inr (3, [.ref qf0, .int v1, .int v2, .int x3_109, .ref qf4, .ref qf5, .ref qf6, .int v7, .int v8, .int v9, .int v10, .ref qf11, .int v12, .ref qf13]))]) [0] (by decide) rfl
        have hKc := hK.sub (tys' := []) [] rfl
        have hFc := va_free (wc := [(h0, .inr (3, [.ref qf0, .int v1, .int v2, .int x3_109, .ref qf4, .ref qf5, .ref qf6, .int v7, .int v8, .int v9, .int v10, .ref qf11, .int v12, .ref qf13]))]) hD hS hA [0] rfl
        refine va_callv (va_runV (As := [.int (l2_109 + 2)]) (rest := []) ⟨hx, hb, hml, hown, hts⟩ (ti_bad l dC dI H.size h0 ((l2_109 + 2)) qf0 v1 v2 x3_109 qf4 qf5 qf6 v7 v8 v9 v10 qf11 v12 qf13 nf u15_0 hu_15) (cwV 1 hts gv_h7_39 rfl rfl rfl (by decide +kernel) ⟨Nat.le_of_ble_eq_true rfl, Nat.le_of_ble_eq_true rfl⟩) ⟨fun a U g mk q => by obtain ⟨q0, q1, qP, qK, qD⟩ := q; exact ⟨q0, q1, qP, va_K.moved (u := U) (U := U.calling g mk a) (Vm.Alike.refl U.vm) qK, qD⟩, va_recv hKc hPc (ci := 3) (q0 := 0) rfl rfl, fun U hU hW => ⟨rfl, by rw [hU], by rw [hU]; exact hPc, va_K.moved hW.alike hKc, hDc.weaken (fun _ _ _ _ => trivial)⟩⟩ rfl rfl hl.1 rfl (lv_room (Nat.le_of_ble_eq_true rfl)) dX3_checkConstant_130 ⟨Nat.le_of_ble_eq_true rfl, Nat.le_of_ble_eq_true rfl⟩) hS (fun q _ h => hFc q h) hFc ?_
        clear hS
        intro u t H1 locs ht hvm hw hB hz1 hk1 hS
        obtain ⟨⟩ := u
        obtain ⟨hP1, hK1, hD1⟩ := hB
        rw [ht] at hP1
        have hK1 := va_K.moved hvm.symm hK1
        try dsimp only at hw
        have hPD := va_join (wr := [(qf4, .inl (cf4, 256, .inl f4)), (qf5, .inl (cf5, 256, .inl f5)), (qf0, .inl (cf0, nb, .inl f0)), (qf6, .inl (cf6, 256, .inl f6))]) (w1 := [(h0, .inr (3, [.ref qf0, .int v1, .int v2, .int u15_0, .ref qf4, .ref qf5, .ref qf6, .int v7, .int v8, .int v9, .int v10, .ref qf11, .int v12, .ref qf13]))]) hP hD [0] [1, 2, 3, 4] rfl rfl (by decide) (by decide) hk1 hFc hP1 hD1
        clear hP hD
        obtain ⟨hP, hD⟩ := hPD
        replace hK := (hK.sub (tys' := [(cf4, .int), (cf5, .int), (cf0, .byte), (cf6, .int)]) [0, 1, 2, 3] rfl).app hK1
        clear hPc hDc hKc hFc hP1 hK1 hD1 hz1 hk1 ht hvm
        generalize H1 = H at hP hS ⊢
        replace hP : va_P (dC, dI) vwCl [(qf4, .inl (cf4, 256, .inl f4)), (qf5, .inl (cf5, 256, .inl f5)), (qf0, .inl (cf0, nb, .inl f0)), (qf6, .inl (cf6, 256, .inl f6)), (h0, .inr (3, [.ref qf0, .int v1, .int v2, .int u15_0, .ref qf4, .ref qf5, .ref qf6, .int v7, .int v8, .int v9, .int v10, .ref qf11, .int v12, .ref qf13]))] H := hP
        replace hD : va_D A [(qf4, .inl (cf4, 256, .inl f4)), (qf5, .inl (cf5, 256, .inl f5)), (qf0, .inl (cf0, nb, .inl f0)), (qf6, .inl (cf6, 256, .inl f6)), (h0, .inr (3, [.ref qf0, .int v1, .int v2, .int u15_0, .ref qf4, .ref qf5, .ref qf6, .int v7, .int v8, .int v9, .int v10, .ref qf11, .int v12, .ref qf13]))] := hD
        replace hK : va_K (dC, dI) vwCl [(cf4, .int), (cf5, .int), (cf0, .byte), (cf6, .int)] s := hK
        have hr0 := Option.some.inj hsp
        clear hsp
        subst hr0
        have hP9 := hP.sub (ws' := [(h0, .inr (3, [.ref qf0, .int v1, .int v2, .int u15_0, .ref qf4, .ref qf5, .ref qf6, .int v7, .int v8, .int v9, .int v10, .ref qf11, .int v12, .ref qf13])), (qf5, .inl (cf5, 256, .inl f5)), (qf4, .inl (cf4, 256, .inl f4)), (qf0, .inl (cf0, nb, .inl f0)), (qf6, .inl (cf6, 256, .inl f6))]) [4, 1, 0, 2, 3] rfl
        have hD9 := hD.sub (ws' := [(h0, .inr (3, [.ref qf0, .int v1, .int v2, .int u15_0, .ref qf4, .ref qf5, .ref qf6, .int v7, .int v8, .int v9, .int v10, .ref qf11, .int v12, .ref qf13])), (qf5, .inl (cf5, 256, .inl f5)), (qf4, .inl (cf4, 256, .inl f4)), (qf0, .inl (cf0, nb, .inl f0)), (qf6, .inl (cf6, 256, .inl f6))]) [4, 1, 0, 2, 3] (by decide) rfl
        have hK9 := hK.sub (tys' := [(cf5, .int), (cf4, .int), (cf0, .byte), (cf6, .int)]) [1, 0, 2, 3] rfl
        exact W.vret hx hb hr (fun t ht hW => ⟨⟨(), rfl, trivial, by rw [ht]; exact hP9, va_K.moved hW.alike hK9, hD9⟩, hS.F ht⟩) hS.2.2 dX3_checkConstant_133
    · rw [if_neg (by decide)] at hsp
      refine lv_if_ne (tgt := 133) hx hb dX3_checkConstant_114 (by decide) (fun c_28 => ?_) (fun c_28 => (show False by revert c_28; decide).elim)
      have hr0 := Option.some.inj hsp
      clear hsp
      subst hr0
      have hP9 := hP.sub (ws' := [(h0, .inr (3, [.ref qf0, .int v1, .int v2, .int x3_109, .ref qf4, .ref qf5, .ref qf6, .int v7, .int v8, .int v9, .int v10, .ref qf11, .int v12, .ref qf13])), (qf5, .inl (cf5, 256, .inl f5)), (qf4, .inl (cf4, 256, .inl f4)), (qf0, .inl (cf0, nb, .inl f0)), (qf6, .inl (cf6, 256, .inl f6))]) [0, 2, 1, 4, 3] rfl
      have hD9 := hD.sub (ws' := [(h0, .inr (3, [.ref qf0, .int v1, .int v2, .int x3_109, .ref qf4, .ref qf5, .ref qf6, .int v7, .int v8, .int v9, .int v10, .ref qf11, .int v12, .ref qf13])), (qf5, .inl (cf5, 256, .inl f5)), (qf4, .inl (cf4, 256, .inl f4)), (qf0, .inl (cf0, nb, .inl f0)), (qf6, .inl (cf6, 256, .inl f6))]) [0, 2, 1, 4, 3] (by decide) rfl
      have hK9 := hK.sub (tys' := [(cf5, .int), (cf4, .int), (cf0, .byte), (cf6, .int)]) [1, 0, 3, 2] rfl
      exact W.vret hx hb hr (fun t ht hW => ⟨⟨(), rfl, trivial, by rw [ht]; exact hP9, va_K.moved hW.alike hK9, hD9⟩, hS.F ht⟩) hS.2.2 dX3_checkConstant_133
  intro hj_109
  refine jn_use (α := Heap × List Loc × Array Slot × Int32 × Int32 × Int32 × Int32) (fun x9 => x9.1) (fun x9 => x9.2.1) (fun x9 => F0 m 89 x9.2.2.1 []) (fun x9 => match x9 with | (H, locs, ls, l1_89, l2_89, l3_89, x3_89) => lv_has ls 4 [(0, .ref h0), (1, .int l1_89), (2, .int l2_89), (3, .int l3_89)] ∧ va_S A s.heap H locs ∧ va_D A [(h0, .inr (3, [.ref qf0, .int v1, .int v2, .int x3_89, .ref qf4, .ref qf5, .ref qf6, .int v7, .int v8, .int v9, .int v10, .ref qf11, .int v12, .ref qf13])), (qf5, .inl (cf5, 256, .inl f5)), (qf4, .inl (cf4, 256, .inl f4)), (qf0, .inl (cf0, nb, .inl f0)), (qf6, .inl (cf6, 256, .inl f6))] ∧ va_P (dC, dI) vwCl [(h0, .inr (3, [.ref qf0, .int v1, .int v2, .int x3_89, .ref qf4, .ref qf5, .ref qf6, .int v7, .int v8, .int v9, .int v10, .ref qf11, .int v12, .ref qf13])), (qf5, .inl (cf5, 256, .inl f5)), (qf4, .inl (cf4, 256, .inl f4)), (qf0, .inl (cf0, nb, .inl f0)), (qf6, .inl (cf6, 256, .inl f6))] H ∧ jn_v3_checkConstant_89 nf a1 v1 v3 v7 f5 f4 nb f0 f6 l1_89 l2_89 l3_89 x3_89 = some w3) ?_ ?_
  · intro x9 hJ9
    obtain ⟨H, locs, ls, l1_89, l2_89, l3_89, x3_89⟩ := x9
    obtain ⟨hl, hS, hD, hP, hsp⟩ := hJ9
    replace hl : lv_has ls 4 [(0, .ref h0), (1, .int l1_89), (2, .int l2_89), (3, .int l3_89)] := hl
    replace hS : va_S A s.heap H locs := hS
    replace hD : va_D A [(h0, .inr (3, [.ref qf0, .int v1, .int v2, .int x3_89, .ref qf4, .ref qf5, .ref qf6, .int v7, .int v8, .int v9, .int v10, .ref qf11, .int v12, .ref qf13])), (qf5, .inl (cf5, 256, .inl f5)), (qf4, .inl (cf4, 256, .inl f4)), (qf0, .inl (cf0, nb, .inl f0)), (qf6, .inl (cf6, 256, .inl f6))] := hD
    replace hP : va_P (dC, dI) vwCl [(h0, .inr (3, [.ref qf0, .int v1, .int v2, .int x3_89, .ref qf4, .ref qf5, .ref qf6, .int v7, .int v8, .int v9, .int v10, .ref qf11, .int v12, .ref qf13])), (qf5, .inl (cf5, 256, .inl f5)), (qf4, .inl (cf4, 256, .inl f4)), (qf0, .inl (cf0, nb, .inl f0)), (qf6, .inl (cf6, 256, .inl f6))] H := hP
    replace hsp : jn_v3_checkConstant_89 nf a1 v1 v3 v7 f5 f4 nb f0 f6 l1_89 l2_89 l3_89 x3_89 = some w3 := hsp
    show W _ _ _ _ _ _ _ _ _ _ H locs _ _ _ (F0 m 89 ls [])
    unfold jn_v3_checkConstant_89 at hsp
    try dsimp only at hsp
    refine lv_aload_n hx hb dX3_checkConstant_89 rfl (lv_at hl 0 rfl) ?_
    refine lv_aload_n hx hb dX3_checkConstant_90 rfl (lv_at hl 0 rfl) ?_
    refine lv_iload_n hx hb dX3_checkConstant_91 rfl (lv_at hl 1 rfl) ?_
    refine lv_iconst (v := 1) hx hb dX3_checkConstant_92 (by decide) ?_
    obtain ⟨u10_0, hu_10, hsp⟩ := ox_bind hsp
    try dsimp only at hsp
    have hPc := hP.sub (ws' := [(h0, .inr (3, [.ref qf0, .int v1, .int v2, .int x3_89, .ref qf4, .ref qf5, .ref qf6, .int v7, .int v8, .int v9, .int v10, .ref qf11, .int v12, .ref qf13])), (qf5, .inl (cf5, 256, .inl f5)), (qf0, .inl (cf0, nb, .inl f0))]) [0, 1, 3] rfl
    have hDc := hD.sub (ws' := [(h0, .inr (3, [.ref qf0, .int v1, .int v2, .int x3_89, .ref qf4, .ref qf5, .ref qf6, .int v7, .int v8, .int v9, .int v10, .ref qf11, .int v12, .ref qf13])), (qf5, .inl (cf5, 256, .inl f5)), (qf0, .inl (cf0, nb, .inl f0))]) [0, 1, 3] (by decide) rfl
    have hKc := hK.sub (tys' := [(cf5, .int), (cf0, .byte)]) [0, 2] rfl
    have hFc := va_free (wc := [(h0, .inr (3, [.ref qf0, .int v1, .int v2, .int x3_89, .ref qf4, .ref qf5, .ref qf6, .int v7, .int v8, .int v9, .int v10, .ref qf11, .int v12, .ref qf13])), (qf5, .inl (cf5, 256, .inl f5)), (qf0, .inl (cf0, nb, .inl f0))]) hD hS hA [0, 1, 3] rfl
    refine va_calli (va_runV (As := [.int l1_89, .int 1]) (rest := [.ref h0]) ⟨hx, hb, hml, hown, hts⟩ (ti_partOf l dC dI H.size h0 l1_89 1 qf0 v1 v2 x3_89 qf4 qf5 qf6 v7 v8 v9 v10 qf11 v12 qf13 cf5 f5 cf0 nb f0 nf u10_0 hu_10) (cwV 2 hts gv_h7_31 rfl rfl rfl (by decide +kernel) ⟨Nat.le_of_ble_eq_true rfl, Nat.le_of_ble_eq_true rfl⟩) ⟨fun a U g mk q => by obtain ⟨q0, q1, qP, qK, qD⟩ := q; exact ⟨q0, q1, qP, va_K.moved (u := U) (U := U.calling g mk a) (Vm.Alike.refl U.vm) qK, qD⟩, va_recv hKc hPc (ci := 3) (q0 := 0) rfl rfl, fun U hU hW => ⟨rfl, by rw [hU], by rw [hU]; exact hPc, va_K.moved hW.alike hKc, hDc.weaken (fun _ _ _ _ => trivial)⟩⟩ rfl rfl hl.1 rfl (lv_room (Nat.le_of_ble_eq_true rfl)) dX3_checkConstant_93 ⟨Nat.le_of_ble_eq_true rfl, Nat.le_of_ble_eq_true rfl⟩) hS (fun q _ h => hFc q h) hFc ?_
    clear hS
    intro r_20 u t H1 locs ht hvm hw hB hz1 hk1 hS
    obtain ⟨⟩ := u
    obtain ⟨hP1, hK1, hD1⟩ := hB
    rw [ht] at hP1
    have hK1 := va_K.moved hvm.symm hK1
    try dsimp only at hw
    have hPD := va_join (wr := [(qf4, .inl (cf4, 256, .inl f4)), (qf6, .inl (cf6, 256, .inl f6))]) (w1 := [(h0, .inr (3, [.ref qf0, .int v1, .int v2, .int x3_89, .ref qf4, .ref qf5, .ref qf6, .int v7, .int v8, .int v9, .int v10, .ref qf11, .int v12, .ref qf13])), (qf5, .inl (cf5, 256, .inl f5)), (qf0, .inl (cf0, nb, .inl f0))]) hP hD [0, 1, 3] [2, 4] rfl rfl (by decide) (by decide) hk1 hFc hP1 hD1
    clear hP hD
    obtain ⟨hP, hD⟩ := hPD
    replace hK := (hK.sub (tys' := [(cf4, .int), (cf6, .int)]) [1, 3] rfl).app hK1
    clear hPc hDc hKc hFc hP1 hK1 hD1 hz1 hk1 ht hvm
    generalize H1 = H at hP hS ⊢
    replace hP : va_P (dC, dI) vwCl [(qf4, .inl (cf4, 256, .inl f4)), (qf6, .inl (cf6, 256, .inl f6)), (h0, .inr (3, [.ref qf0, .int v1, .int v2, .int x3_89, .ref qf4, .ref qf5, .ref qf6, .int v7, .int v8, .int v9, .int v10, .ref qf11, .int v12, .ref qf13])), (qf5, .inl (cf5, 256, .inl f5)), (qf0, .inl (cf0, nb, .inl f0))] H := hP
    replace hD : va_D A [(qf4, .inl (cf4, 256, .inl f4)), (qf6, .inl (cf6, 256, .inl f6)), (h0, .inr (3, [.ref qf0, .int v1, .int v2, .int x3_89, .ref qf4, .ref qf5, .ref qf6, .int v7, .int v8, .int v9, .int v10, .ref qf11, .int v12, .ref qf13])), (qf5, .inl (cf5, 256, .inl f5)), (qf0, .inl (cf0, nb, .inl f0))] := hD
    replace hK : va_K (dC, dI) vwCl [(cf4, .int), (cf6, .int), (cf5, .int), (cf0, .byte)] s := hK
    obtain rfl := hw
    obtain ⟨u11_0, hu_11, hsp⟩ := ox_bind hsp
    try dsimp only at hsp
    have hPc := hP.sub (ws' := [(h0, .inr (3, [.ref qf0, .int v1, .int v2, .int x3_89, .ref qf4, .ref qf5, .ref qf6, .int v7, .int v8, .int v9, .int v10, .ref qf11, .int v12, .ref qf13])), (qf4, .inl (cf4, 256, .inl f4)), (qf5, .inl (cf5, 256, .inl f5)), (qf6, .inl (cf6, 256, .inl f6)), (qf0, .inl (cf0, nb, .inl f0))]) [2, 0, 3, 1, 4] rfl
    have hDc := hD.sub (ws' := [(h0, .inr (3, [.ref qf0, .int v1, .int v2, .int x3_89, .ref qf4, .ref qf5, .ref qf6, .int v7, .int v8, .int v9, .int v10, .ref qf11, .int v12, .ref qf13])), (qf4, .inl (cf4, 256, .inl f4)), (qf5, .inl (cf5, 256, .inl f5)), (qf6, .inl (cf6, 256, .inl f6)), (qf0, .inl (cf0, nb, .inl f0))]) [2, 0, 3, 1, 4] (by decide) rfl
    have hKc := hK.sub (tys' := [(cf4, .int), (cf5, .int), (cf6, .int), (cf0, .byte)]) [0, 2, 1, 3] rfl
    have hFc := va_free (wc := [(h0, .inr (3, [.ref qf0, .int v1, .int v2, .int x3_89, .ref qf4, .ref qf5, .ref qf6, .int v7, .int v8, .int v9, .int v10, .ref qf11, .int v12, .ref qf13])), (qf4, .inl (cf4, 256, .inl f4)), (qf5, .inl (cf5, 256, .inl f5)), (qf6, .inl (cf6, 256, .inl f6)), (qf0, .inl (cf0, nb, .inl f0))]) hD hS hA [2, 0, 3, 1, 4] rfl
    refine va_calli (va_runV (As := [.int u10_0]) (rest := []) ⟨hx, hb, hml, hown, hts⟩ (v3_isNameText l dC dI H.size h0 u10_0 qf0 v1 v2 x3_89 qf4 qf5 qf6 v7 v8 v9 v10 qf11 v12 qf13 cf4 f4 cf5 f5 cf6 f6 cf0 nb f0 nf u11_0 hu_11) (cwV 1 hts gv_h7_38 rfl rfl rfl (by decide +kernel) ⟨Nat.le_of_ble_eq_true rfl, Nat.le_of_ble_eq_true rfl⟩) ⟨fun a U g mk q => by obtain ⟨q0, q1, qP, qK, qD⟩ := q; exact ⟨q0, q1, qP, va_K.moved (u := U) (U := U.calling g mk a) (Vm.Alike.refl U.vm) qK, qD⟩, va_recv hKc hPc (ci := 3) (q0 := 0) rfl rfl, fun U hU hW => ⟨rfl, by rw [hU], by rw [hU]; exact hPc, va_K.moved hW.alike hKc, hDc.weaken (fun _ _ _ _ => trivial)⟩⟩ rfl rfl hl.1 rfl (lv_room (Nat.le_of_ble_eq_true rfl)) dX3_checkConstant_96 ⟨Nat.le_of_ble_eq_true rfl, Nat.le_of_ble_eq_true rfl⟩) hS (fun q _ h => hFc q h) hFc ?_
    clear hS
    intro r_21 u t H1 locs ht hvm hw hB hz1 hk1 hS
    obtain ⟨⟩ := u
    obtain ⟨hP1, hK1, hD1⟩ := hB
    rw [ht] at hP1
    have hK1 := va_K.moved hvm.symm hK1
    try dsimp only at hw
    have hPD := va_join (wr := []) (w1 := [(h0, .inr (3, [.ref qf0, .int v1, .int v2, .int x3_89, .ref qf4, .ref qf5, .ref qf6, .int v7, .int v8, .int v9, .int v10, .ref qf11, .int v12, .ref qf13])), (qf4, .inl (cf4, 256, .inl f4)), (qf5, .inl (cf5, 256, .inl f5)), (qf6, .inl (cf6, 256, .inl f6)), (qf0, .inl (cf0, nb, .inl f0))]) hP hD [2, 0, 3, 1, 4] [] rfl rfl (by decide) (by decide) hk1 hFc hP1 hD1
    clear hP hD
    obtain ⟨hP, hD⟩ := hPD
    replace hK := (hK.sub (tys' := []) [] rfl).app hK1
    clear hPc hDc hKc hFc hP1 hK1 hD1 hz1 hk1 ht hvm
    generalize H1 = H at hP hS ⊢
    replace hP : va_P (dC, dI) vwCl [(h0, .inr (3, [.ref qf0, .int v1, .int v2, .int x3_89, .ref qf4, .ref qf5, .ref qf6, .int v7, .int v8, .int v9, .int v10, .ref qf11, .int v12, .ref qf13])), (qf4, .inl (cf4, 256, .inl f4)), (qf5, .inl (cf5, 256, .inl f5)), (qf6, .inl (cf6, 256, .inl f6)), (qf0, .inl (cf0, nb, .inl f0))] H := hP
    replace hD : va_D A [(h0, .inr (3, [.ref qf0, .int v1, .int v2, .int x3_89, .ref qf4, .ref qf5, .ref qf6, .int v7, .int v8, .int v9, .int v10, .ref qf11, .int v12, .ref qf13])), (qf4, .inl (cf4, 256, .inl f4)), (qf5, .inl (cf5, 256, .inl f5)), (qf6, .inl (cf6, 256, .inl f6)), (qf0, .inl (cf0, nb, .inl f0))] := hD
    replace hK : va_K (dC, dI) vwCl [(cf4, .int), (cf5, .int), (cf6, .int), (cf0, .byte)] s := hK
    obtain ⟨rfl, hz_11⟩ := hw
    rcases hz_11 with rfl | rfl
    · rw [if_pos rfl] at hsp
      refine lv_if_ne (tgt := 109) hx hb dX3_checkConstant_99 (by decide) (fun c_22 => (show False by revert c_22; decide).elim) (fun c_22 => ?_)
      refine lv_aload_n hx hb dX3_checkConstant_102 rfl (lv_at hl 0 rfl) ?_
      refine lv_iload_n hx hb dX3_checkConstant_103 rfl (lv_at hl 2 rfl) ?_
      refine lv_iconst (v := 1) hx hb dX3_checkConstant_104 (by decide) ?_
      refine lv_iadd hx hb dX3_checkConstant_105 ?_
      obtain ⟨u12_0, hu_12, hsp⟩ := ox_bind hsp
      try dsimp only at hsp
      have hPc := hP.sub (ws' := [(h0, .inr (3, [.ref qf0, .int v1, .int v2, .int x3_89, .ref qf4, .ref qf5, .ref qf6, .int v7, .int v8, .int v9, .int v10, .ref qf11, .int v12, .ref qf13]))]) [0] rfl
      have hDc := hD.sub (ws' := [(h0, .inr (3, [.ref qf0, .int v1, .int v2, .int x3_89, .ref qf4, .ref qf5, .ref qf6, .int v7, .int v8, .int v9, .int v10, .ref qf11, .int v12, .ref qf13]))]) [0] (by decide) rfl
      have hKc := hK.sub (tys' := []) [] rfl
      have hFc := va_free (wc := [(h0, .inr (3, [.ref qf0, .int v1, .int v2, .int x3_89, .ref qf4, .ref qf5, .ref qf6, .int v7, .int v8, .int v9, .int v10, .ref qf11, .int v12, .ref qf13]))]) hD hS hA [0] rfl
      refine va_callv (va_runV (As := [.int (l2_89 + 1)]) (rest := []) ⟨hx, hb, hml, hown, hts⟩ (ti_bad l dC dI H.size h0 ((l2_89 + 1)) qf0 v1 v2 x3_89 qf4 qf5 qf6 v7 v8 v9 v10 qf11 v12 qf13 nf u12_0 hu_12) (cwV 1 hts gv_h7_39 rfl rfl rfl (by decide +kernel) ⟨Nat.le_of_ble_eq_true rfl, Nat.le_of_ble_eq_true rfl⟩) ⟨fun a U g mk q => by obtain ⟨q0, q1, qP, qK, qD⟩ := q; exact ⟨q0, q1, qP, va_K.moved (u := U) (U := U.calling g mk a) (Vm.Alike.refl U.vm) qK, qD⟩, va_recv hKc hPc (ci := 3) (q0 := 0) rfl rfl, fun U hU hW => ⟨rfl, by rw [hU], by rw [hU]; exact hPc, va_K.moved hW.alike hKc, hDc.weaken (fun _ _ _ _ => trivial)⟩⟩ rfl rfl hl.1 rfl (lv_room (Nat.le_of_ble_eq_true rfl)) dX3_checkConstant_106 ⟨Nat.le_of_ble_eq_true rfl, Nat.le_of_ble_eq_true rfl⟩) hS (fun q _ h => hFc q h) hFc ?_
      clear hS
      intro u t H1 locs ht hvm hw hB hz1 hk1 hS
      obtain ⟨⟩ := u
      obtain ⟨hP1, hK1, hD1⟩ := hB
      rw [ht] at hP1
      have hK1 := va_K.moved hvm.symm hK1
      try dsimp only at hw
      have hPD := va_join (wr := [(qf4, .inl (cf4, 256, .inl f4)), (qf5, .inl (cf5, 256, .inl f5)), (qf6, .inl (cf6, 256, .inl f6)), (qf0, .inl (cf0, nb, .inl f0))]) (w1 := [(h0, .inr (3, [.ref qf0, .int v1, .int v2, .int u12_0, .ref qf4, .ref qf5, .ref qf6, .int v7, .int v8, .int v9, .int v10, .ref qf11, .int v12, .ref qf13]))]) hP hD [0] [1, 2, 3, 4] rfl rfl (by decide) (by decide) hk1 hFc hP1 hD1
      clear hP hD
      obtain ⟨hP, hD⟩ := hPD
      replace hK := (hK.sub (tys' := [(cf4, .int), (cf5, .int), (cf6, .int), (cf0, .byte)]) [0, 1, 2, 3] rfl).app hK1
      clear hPc hDc hKc hFc hP1 hK1 hD1 hz1 hk1 ht hvm
      generalize H1 = H at hP hS ⊢
      replace hP : va_P (dC, dI) vwCl [(qf4, .inl (cf4, 256, .inl f4)), (qf5, .inl (cf5, 256, .inl f5)), (qf6, .inl (cf6, 256, .inl f6)), (qf0, .inl (cf0, nb, .inl f0)), (h0, .inr (3, [.ref qf0, .int v1, .int v2, .int u12_0, .ref qf4, .ref qf5, .ref qf6, .int v7, .int v8, .int v9, .int v10, .ref qf11, .int v12, .ref qf13]))] H := hP
      replace hD : va_D A [(qf4, .inl (cf4, 256, .inl f4)), (qf5, .inl (cf5, 256, .inl f5)), (qf6, .inl (cf6, 256, .inl f6)), (qf0, .inl (cf0, nb, .inl f0)), (h0, .inr (3, [.ref qf0, .int v1, .int v2, .int u12_0, .ref qf4, .ref qf5, .ref qf6, .int v7, .int v8, .int v9, .int v10, .ref qf11, .int v12, .ref qf13]))] := hD
      replace hK : va_K (dC, dI) vwCl [(cf4, .int), (cf5, .int), (cf6, .int), (cf0, .byte)] s := hK
      exact hj_109 (H, locs, ls, l2_89, l3_89, u12_0) ⟨lv_sub hl [0, 2, 3] rfl, hS, hD.sub (ws' := [(h0, .inr (3, [.ref qf0, .int v1, .int v2, .int u12_0, .ref qf4, .ref qf5, .ref qf6, .int v7, .int v8, .int v9, .int v10, .ref qf11, .int v12, .ref qf13])), (qf5, .inl (cf5, 256, .inl f5)), (qf4, .inl (cf4, 256, .inl f4)), (qf0, .inl (cf0, nb, .inl f0)), (qf6, .inl (cf6, 256, .inl f6))]) [4, 1, 0, 3, 2] (by decide) rfl, hP.sub (ws' := [(h0, .inr (3, [.ref qf0, .int v1, .int v2, .int u12_0, .ref qf4, .ref qf5, .ref qf6, .int v7, .int v8, .int v9, .int v10, .ref qf11, .int v12, .ref qf13])), (qf5, .inl (cf5, 256, .inl f5)), (qf4, .inl (cf4, 256, .inl f4)), (qf0, .inl (cf0, nb, .inl f0)), (qf6, .inl (cf6, 256, .inl f6))]) [4, 1, 0, 3, 2] rfl, hsp⟩
    · rw [if_neg (by decide)] at hsp
      refine lv_if_ne (tgt := 109) hx hb dX3_checkConstant_99 (by decide) (fun c_23 => ?_) (fun c_23 => (show False by revert c_23; decide).elim)
      exact hj_109 (H, locs, ls, l2_89, l3_89, x3_89) ⟨lv_sub hl [0, 2, 3] rfl, hS, hD.sub (ws' := [(h0, .inr (3, [.ref qf0, .int v1, .int v2, .int x3_89, .ref qf4, .ref qf5, .ref qf6, .int v7, .int v8, .int v9, .int v10, .ref qf11, .int v12, .ref qf13])), (qf5, .inl (cf5, 256, .inl f5)), (qf4, .inl (cf4, 256, .inl f4)), (qf0, .inl (cf0, nb, .inl f0)), (qf6, .inl (cf6, 256, .inl f6))]) [0, 2, 1, 4, 3] (by decide) rfl, hP.sub (ws' := [(h0, .inr (3, [.ref qf0, .int v1, .int v2, .int x3_89, .ref qf4, .ref qf5, .ref qf6, .int v7, .int v8, .int v9, .int v10, .ref qf11, .int v12, .ref qf13])), (qf5, .inl (cf5, 256, .inl f5)), (qf4, .inl (cf4, 256, .inl f4)), (qf0, .inl (cf0, nb, .inl f0)), (qf6, .inl (cf6, 256, .inl f6))]) [0, 2, 1, 4, 3] rfl, hsp⟩
  intro hj_89
  refine jn_use (α := Heap × List Loc × Array Slot × Int32 × Int32 × Int32) (fun x9 => x9.1) (fun x9 => x9.2.1) (fun x9 => F0 m 53 x9.2.2.1 []) (fun x9 => match x9 with | (H, locs, ls, l1_53, l2_53, x3_53) => lv_has ls 4 [(0, .ref h0), (1, .int l1_53), (2, .int l2_53)] ∧ va_S A s.heap H locs ∧ va_D A [(h0, .inr (3, [.ref qf0, .int v1, .int v2, .int x3_53, .ref qf4, .ref qf5, .ref qf6, .int v7, .int v8, .int v9, .int v10, .ref qf11, .int v12, .ref qf13])), (qf5, .inl (cf5, 256, .inl f5)), (qf4, .inl (cf4, 256, .inl f4)), (qf0, .inl (cf0, nb, .inl f0)), (qf6, .inl (cf6, 256, .inl f6))] ∧ va_P (dC, dI) vwCl [(h0, .inr (3, [.ref qf0, .int v1, .int v2, .int x3_53, .ref qf4, .ref qf5, .ref qf6, .int v7, .int v8, .int v9, .int v10, .ref qf11, .int v12, .ref qf13])), (qf5, .inl (cf5, 256, .inl f5)), (qf4, .inl (cf4, 256, .inl f4)), (qf0, .inl (cf0, nb, .inl f0)), (qf6, .inl (cf6, 256, .inl f6))] H ∧ jn_v3_checkConstant_53 nf a1 v1 v3 v7 f5 f4 nb f0 f6 l1_53 l2_53 x3_53 = some w3) ?_ ?_
  · intro x9 hJ9
    obtain ⟨H, locs, ls, l1_53, l2_53, x3_53⟩ := x9
    obtain ⟨hl, hS, hD, hP, hsp⟩ := hJ9
    replace hl : lv_has ls 4 [(0, .ref h0), (1, .int l1_53), (2, .int l2_53)] := hl
    replace hS : va_S A s.heap H locs := hS
    replace hD : va_D A [(h0, .inr (3, [.ref qf0, .int v1, .int v2, .int x3_53, .ref qf4, .ref qf5, .ref qf6, .int v7, .int v8, .int v9, .int v10, .ref qf11, .int v12, .ref qf13])), (qf5, .inl (cf5, 256, .inl f5)), (qf4, .inl (cf4, 256, .inl f4)), (qf0, .inl (cf0, nb, .inl f0)), (qf6, .inl (cf6, 256, .inl f6))] := hD
    replace hP : va_P (dC, dI) vwCl [(h0, .inr (3, [.ref qf0, .int v1, .int v2, .int x3_53, .ref qf4, .ref qf5, .ref qf6, .int v7, .int v8, .int v9, .int v10, .ref qf11, .int v12, .ref qf13])), (qf5, .inl (cf5, 256, .inl f5)), (qf4, .inl (cf4, 256, .inl f4)), (qf0, .inl (cf0, nb, .inl f0)), (qf6, .inl (cf6, 256, .inl f6))] H := hP
    replace hsp : jn_v3_checkConstant_53 nf a1 v1 v3 v7 f5 f4 nb f0 f6 l1_53 l2_53 x3_53 = some w3 := hsp
    show W _ _ _ _ _ _ _ _ _ _ H locs _ _ _ (F0 m 53 ls [])
    unfold jn_v3_checkConstant_53 at hsp
    try dsimp only at hsp
    refine lv_aload_n hx hb dX3_checkConstant_53 rfl (lv_at hl 0 rfl) ?_
    refine va_get (D := (dC, dI)) (ci := 3) (v := .ref qf4) (C := RX3) (T := TX3) (N := 14) hx hb hts uV_h7_X3 hown hK hP 0 rfl rfl 4 (by decide) (hts (.fieldLink RX3 15 "ClassMill$Image" "tags" "[I") mw_h7_158) (fun _ h9 => h9) rfl dX3_checkConstant_54 ?_
    refine lv_iload_n hx hb dX3_checkConstant_57 rfl (lv_at hl 1 rfl) ?_
    obtain ⟨hi_14, hsp⟩ := ox_in hsp
    refine va_iald hx hb hK hP 2 1 rfl rfl (i := l1_53) hi_14 dX3_checkConstant_58 ?_
    refine lv_iconst (v := 4) hx hb dX3_checkConstant_59 (by decide) ?_
    refine lv_icmp_ne (tgt := 133) hx hb dX3_checkConstant_60 (by decide) (fun c_15 => ?_) (fun c_15 => ?_)
    · rw [if_neg c_15] at hsp
      have hr0 := Option.some.inj hsp
      clear hsp
      subst hr0
      have hP9 := hP.sub (ws' := [(h0, .inr (3, [.ref qf0, .int v1, .int v2, .int x3_53, .ref qf4, .ref qf5, .ref qf6, .int v7, .int v8, .int v9, .int v10, .ref qf11, .int v12, .ref qf13])), (qf5, .inl (cf5, 256, .inl f5)), (qf4, .inl (cf4, 256, .inl f4)), (qf0, .inl (cf0, nb, .inl f0)), (qf6, .inl (cf6, 256, .inl f6))]) [0, 1, 2, 3, 4] rfl
      have hD9 := hD.sub (ws' := [(h0, .inr (3, [.ref qf0, .int v1, .int v2, .int x3_53, .ref qf4, .ref qf5, .ref qf6, .int v7, .int v8, .int v9, .int v10, .ref qf11, .int v12, .ref qf13])), (qf5, .inl (cf5, 256, .inl f5)), (qf4, .inl (cf4, 256, .inl f4)), (qf0, .inl (cf0, nb, .inl f0)), (qf6, .inl (cf6, 256, .inl f6))]) [0, 1, 2, 3, 4] (by decide) rfl
      have hK9 := hK.sub (tys' := [(cf5, .int), (cf4, .int), (cf0, .byte), (cf6, .int)]) [0, 1, 2, 3] rfl
      exact W.vret hx hb hr (fun t ht hW => ⟨⟨(), rfl, trivial, by rw [ht]; exact hP9, va_K.moved hW.alike hK9, hD9⟩, hS.F ht⟩) hS.2.2 dX3_checkConstant_133
    · rw [if_pos c_15] at hsp
      refine lv_aload_n hx hb dX3_checkConstant_63 rfl (lv_at hl 0 rfl) ?_
      refine lv_iload_n hx hb dX3_checkConstant_64 rfl (lv_at hl 1 rfl) ?_
      refine lv_iconst (v := 2) hx hb dX3_checkConstant_65 (by decide) ?_
      obtain ⟨u6_0, hu_6, hsp⟩ := ox_bind hsp
      try dsimp only at hsp
      have hPc := hP.sub (ws' := [(h0, .inr (3, [.ref qf0, .int v1, .int v2, .int x3_53, .ref qf4, .ref qf5, .ref qf6, .int v7, .int v8, .int v9, .int v10, .ref qf11, .int v12, .ref qf13])), (qf5, .inl (cf5, 256, .inl f5)), (qf0, .inl (cf0, nb, .inl f0))]) [0, 1, 3] rfl
      have hDc := hD.sub (ws' := [(h0, .inr (3, [.ref qf0, .int v1, .int v2, .int x3_53, .ref qf4, .ref qf5, .ref qf6, .int v7, .int v8, .int v9, .int v10, .ref qf11, .int v12, .ref qf13])), (qf5, .inl (cf5, 256, .inl f5)), (qf0, .inl (cf0, nb, .inl f0))]) [0, 1, 3] (by decide) rfl
      have hKc := hK.sub (tys' := [(cf5, .int), (cf0, .byte)]) [0, 2] rfl
      have hFc := va_free (wc := [(h0, .inr (3, [.ref qf0, .int v1, .int v2, .int x3_53, .ref qf4, .ref qf5, .ref qf6, .int v7, .int v8, .int v9, .int v10, .ref qf11, .int v12, .ref qf13])), (qf5, .inl (cf5, 256, .inl f5)), (qf0, .inl (cf0, nb, .inl f0))]) hD hS hA [0, 1, 3] rfl
      refine va_calli (va_runV (As := [.int l1_53, .int 2]) (rest := []) ⟨hx, hb, hml, hown, hts⟩ (ti_partOf l dC dI H.size h0 l1_53 2 qf0 v1 v2 x3_53 qf4 qf5 qf6 v7 v8 v9 v10 qf11 v12 qf13 cf5 f5 cf0 nb f0 nf u6_0 hu_6) (cwV 2 hts gv_h7_31 rfl rfl rfl (by decide +kernel) ⟨Nat.le_of_ble_eq_true rfl, Nat.le_of_ble_eq_true rfl⟩) ⟨fun a U g mk q => by obtain ⟨q0, q1, qP, qK, qD⟩ := q; exact ⟨q0, q1, qP, va_K.moved (u := U) (U := U.calling g mk a) (Vm.Alike.refl U.vm) qK, qD⟩, va_recv hKc hPc (ci := 3) (q0 := 0) rfl rfl, fun U hU hW => ⟨rfl, by rw [hU], by rw [hU]; exact hPc, va_K.moved hW.alike hKc, hDc.weaken (fun _ _ _ _ => trivial)⟩⟩ rfl rfl hl.1 rfl (lv_room (Nat.le_of_ble_eq_true rfl)) dX3_checkConstant_66 ⟨Nat.le_of_ble_eq_true rfl, Nat.le_of_ble_eq_true rfl⟩) hS (fun q _ h => hFc q h) hFc ?_
      clear hS
      intro r_16 u t H1 locs ht hvm hw hB hz1 hk1 hS
      obtain ⟨⟩ := u
      obtain ⟨hP1, hK1, hD1⟩ := hB
      rw [ht] at hP1
      have hK1 := va_K.moved hvm.symm hK1
      try dsimp only at hw
      have hPD := va_join (wr := [(qf4, .inl (cf4, 256, .inl f4)), (qf6, .inl (cf6, 256, .inl f6))]) (w1 := [(h0, .inr (3, [.ref qf0, .int v1, .int v2, .int x3_53, .ref qf4, .ref qf5, .ref qf6, .int v7, .int v8, .int v9, .int v10, .ref qf11, .int v12, .ref qf13])), (qf5, .inl (cf5, 256, .inl f5)), (qf0, .inl (cf0, nb, .inl f0))]) hP hD [0, 1, 3] [2, 4] rfl rfl (by decide) (by decide) hk1 hFc hP1 hD1
      clear hP hD
      obtain ⟨hP, hD⟩ := hPD
      replace hK := (hK.sub (tys' := [(cf4, .int), (cf6, .int)]) [1, 3] rfl).app hK1
      clear hPc hDc hKc hFc hP1 hK1 hD1 hz1 hk1 ht hvm
      generalize H1 = H at hP hS ⊢
      replace hP : va_P (dC, dI) vwCl [(qf4, .inl (cf4, 256, .inl f4)), (qf6, .inl (cf6, 256, .inl f6)), (h0, .inr (3, [.ref qf0, .int v1, .int v2, .int x3_53, .ref qf4, .ref qf5, .ref qf6, .int v7, .int v8, .int v9, .int v10, .ref qf11, .int v12, .ref qf13])), (qf5, .inl (cf5, 256, .inl f5)), (qf0, .inl (cf0, nb, .inl f0))] H := hP
      replace hD : va_D A [(qf4, .inl (cf4, 256, .inl f4)), (qf6, .inl (cf6, 256, .inl f6)), (h0, .inr (3, [.ref qf0, .int v1, .int v2, .int x3_53, .ref qf4, .ref qf5, .ref qf6, .int v7, .int v8, .int v9, .int v10, .ref qf11, .int v12, .ref qf13])), (qf5, .inl (cf5, 256, .inl f5)), (qf0, .inl (cf0, nb, .inl f0))] := hD
      replace hK : va_K (dC, dI) vwCl [(cf4, .int), (cf6, .int), (cf5, .int), (cf0, .byte)] s := hK
      obtain rfl := hw
      refine lv_istore_n (lv' := [(3, .int u6_0), (0, .ref h0), (1, .int l1_53), (2, .int l2_53)]) hx hb dX3_checkConstant_69 rfl hl (by decide) rfl (fun ls hl => ?_)
      refine lv_aload_n hx hb dX3_checkConstant_70 rfl (lv_at hl 1 rfl) ?_
      refine lv_aload_n hx hb dX3_checkConstant_71 rfl (lv_at hl 1 rfl) ?_
      refine lv_iload_n hx hb dX3_checkConstant_72 rfl (lv_at hl 2 rfl) ?_
      refine lv_iconst (v := 0) hx hb dX3_checkConstant_73 (by decide) ?_
      obtain ⟨u7_0, hu_7, hsp⟩ := ox_bind hsp
      try dsimp only at hsp
      have hPc := hP.sub (ws' := [(h0, .inr (3, [.ref qf0, .int v1, .int v2, .int x3_53, .ref qf4, .ref qf5, .ref qf6, .int v7, .int v8, .int v9, .int v10, .ref qf11, .int v12, .ref qf13])), (qf5, .inl (cf5, 256, .inl f5)), (qf0, .inl (cf0, nb, .inl f0))]) [2, 3, 4] rfl
      have hDc := hD.sub (ws' := [(h0, .inr (3, [.ref qf0, .int v1, .int v2, .int x3_53, .ref qf4, .ref qf5, .ref qf6, .int v7, .int v8, .int v9, .int v10, .ref qf11, .int v12, .ref qf13])), (qf5, .inl (cf5, 256, .inl f5)), (qf0, .inl (cf0, nb, .inl f0))]) [2, 3, 4] (by decide) rfl
      have hKc := hK.sub (tys' := [(cf5, .int), (cf0, .byte)]) [2, 3] rfl
      have hFc := va_free (wc := [(h0, .inr (3, [.ref qf0, .int v1, .int v2, .int x3_53, .ref qf4, .ref qf5, .ref qf6, .int v7, .int v8, .int v9, .int v10, .ref qf11, .int v12, .ref qf13])), (qf5, .inl (cf5, 256, .inl f5)), (qf0, .inl (cf0, nb, .inl f0))]) hD hS hA [2, 3, 4] rfl
      refine va_calli (va_runV (As := [.int l1_53, .int 0]) (rest := [.ref h0]) ⟨hx, hb, hml, hown, hts⟩ (ti_partOf l dC dI H.size h0 l1_53 0 qf0 v1 v2 x3_53 qf4 qf5 qf6 v7 v8 v9 v10 qf11 v12 qf13 cf5 f5 cf0 nb f0 nf u7_0 hu_7) (cwV 2 hts gv_h7_31 rfl rfl rfl (by decide +kernel) ⟨Nat.le_of_ble_eq_true rfl, Nat.le_of_ble_eq_true rfl⟩) ⟨fun a U g mk q => by obtain ⟨q0, q1, qP, qK, qD⟩ := q; exact ⟨q0, q1, qP, va_K.moved (u := U) (U := U.calling g mk a) (Vm.Alike.refl U.vm) qK, qD⟩, va_recv hKc hPc (ci := 3) (q0 := 0) rfl rfl, fun U hU hW => ⟨rfl, by rw [hU], by rw [hU]; exact hPc, va_K.moved hW.alike hKc, hDc.weaken (fun _ _ _ _ => trivial)⟩⟩ rfl rfl hl.1 rfl (lv_room (Nat.le_of_ble_eq_true rfl)) dX3_checkConstant_74 ⟨Nat.le_of_ble_eq_true rfl, Nat.le_of_ble_eq_true rfl⟩) hS (fun q _ h => hFc q h) hFc ?_
      clear hS
      intro r_17 u t H1 locs ht hvm hw hB hz1 hk1 hS
      obtain ⟨⟩ := u
      obtain ⟨hP1, hK1, hD1⟩ := hB
      rw [ht] at hP1
      have hK1 := va_K.moved hvm.symm hK1
      try dsimp only at hw
      have hPD := va_join (wr := [(qf4, .inl (cf4, 256, .inl f4)), (qf6, .inl (cf6, 256, .inl f6))]) (w1 := [(h0, .inr (3, [.ref qf0, .int v1, .int v2, .int x3_53, .ref qf4, .ref qf5, .ref qf6, .int v7, .int v8, .int v9, .int v10, .ref qf11, .int v12, .ref qf13])), (qf5, .inl (cf5, 256, .inl f5)), (qf0, .inl (cf0, nb, .inl f0))]) hP hD [2, 3, 4] [0, 1] rfl rfl (by decide) (by decide) hk1 hFc hP1 hD1
      clear hP hD
      obtain ⟨hP, hD⟩ := hPD
      replace hK := (hK.sub (tys' := [(cf4, .int), (cf6, .int)]) [0, 1] rfl).app hK1
      clear hPc hDc hKc hFc hP1 hK1 hD1 hz1 hk1 ht hvm
      generalize H1 = H at hP hS ⊢
      replace hP : va_P (dC, dI) vwCl [(qf4, .inl (cf4, 256, .inl f4)), (qf6, .inl (cf6, 256, .inl f6)), (h0, .inr (3, [.ref qf0, .int v1, .int v2, .int x3_53, .ref qf4, .ref qf5, .ref qf6, .int v7, .int v8, .int v9, .int v10, .ref qf11, .int v12, .ref qf13])), (qf5, .inl (cf5, 256, .inl f5)), (qf0, .inl (cf0, nb, .inl f0))] H := hP
      replace hD : va_D A [(qf4, .inl (cf4, 256, .inl f4)), (qf6, .inl (cf6, 256, .inl f6)), (h0, .inr (3, [.ref qf0, .int v1, .int v2, .int x3_53, .ref qf4, .ref qf5, .ref qf6, .int v7, .int v8, .int v9, .int v10, .ref qf11, .int v12, .ref qf13])), (qf5, .inl (cf5, 256, .inl f5)), (qf0, .inl (cf0, nb, .inl f0))] := hD
      replace hK : va_K (dC, dI) vwCl [(cf4, .int), (cf6, .int), (cf5, .int), (cf0, .byte)] s := hK
      obtain rfl := hw
      obtain ⟨u8_0, hu_8, hsp⟩ := ox_bind hsp
      try dsimp only at hsp
      have hPc := hP.sub (ws' := [(h0, .inr (3, [.ref qf0, .int v1, .int v2, .int x3_53, .ref qf4, .ref qf5, .ref qf6, .int v7, .int v8, .int v9, .int v10, .ref qf11, .int v12, .ref qf13])), (qf4, .inl (cf4, 256, .inl f4))]) [2, 0] rfl
      have hDc := hD.sub (ws' := [(h0, .inr (3, [.ref qf0, .int v1, .int v2, .int x3_53, .ref qf4, .ref qf5, .ref qf6, .int v7, .int v8, .int v9, .int v10, .ref qf11, .int v12, .ref qf13])), (qf4, .inl (cf4, 256, .inl f4))]) [2, 0] (by decide) rfl
      have hKc := hK.sub (tys' := [(cf4, .int)]) [0] rfl
      have hFc := va_free (wc := [(h0, .inr (3, [.ref qf0, .int v1, .int v2, .int x3_53, .ref qf4, .ref qf5, .ref qf6, .int v7, .int v8, .int v9, .int v10, .ref qf11, .int v12, .ref qf13])), (qf4, .inl (cf4, 256, .inl f4))]) hD hS hA [2, 0] rfl
      refine va_calli (va_runV (As := [.int u7_0]) (rest := []) ⟨hx, hb, hml, hown, hts⟩ (ti_tagOf l dC dI H.size h0 u7_0 qf0 v1 v2 x3_53 qf4 qf5 qf6 v7 v8 v9 v10 qf11 v12 qf13 cf4 f4 nf u8_0 hu_8) (cwV 1 hts gv_h7_34 rfl rfl rfl (by decide +kernel) ⟨Nat.le_of_ble_eq_true rfl, Nat.le_of_ble_eq_true rfl⟩) ⟨fun a U g mk q => by obtain ⟨q0, q1, qP, qK, qD⟩ := q; exact ⟨q0, q1, qP, va_K.moved (u := U) (U := U.calling g mk a) (Vm.Alike.refl U.vm) qK, qD⟩, va_recv hKc hPc (ci := 3) (q0 := 0) rfl rfl, fun U hU hW => ⟨rfl, by rw [hU], by rw [hU]; exact hPc, va_K.moved hW.alike hKc, hDc.weaken (fun _ _ _ _ => trivial)⟩⟩ rfl rfl hl.1 rfl (lv_room (Nat.le_of_ble_eq_true rfl)) dX3_checkConstant_77 ⟨Nat.le_of_ble_eq_true rfl, Nat.le_of_ble_eq_true rfl⟩) hS (fun q _ h => hFc q h) hFc ?_
      clear hS
      intro r_18 u t H1 locs ht hvm hw hB hz1 hk1 hS
      obtain ⟨⟩ := u
      obtain ⟨hP1, hK1, hD1⟩ := hB
      rw [ht] at hP1
      have hK1 := va_K.moved hvm.symm hK1
      try dsimp only at hw
      have hPD := va_join (wr := [(qf6, .inl (cf6, 256, .inl f6)), (qf5, .inl (cf5, 256, .inl f5)), (qf0, .inl (cf0, nb, .inl f0))]) (w1 := [(h0, .inr (3, [.ref qf0, .int v1, .int v2, .int x3_53, .ref qf4, .ref qf5, .ref qf6, .int v7, .int v8, .int v9, .int v10, .ref qf11, .int v12, .ref qf13])), (qf4, .inl (cf4, 256, .inl f4))]) hP hD [2, 0] [1, 3, 4] rfl rfl (by decide) (by decide) hk1 hFc hP1 hD1
      clear hP hD
      obtain ⟨hP, hD⟩ := hPD
      replace hK := (hK.sub (tys' := [(cf6, .int), (cf5, .int), (cf0, .byte)]) [1, 2, 3] rfl).app hK1
      clear hPc hDc hKc hFc hP1 hK1 hD1 hz1 hk1 ht hvm
      generalize H1 = H at hP hS ⊢
      replace hP : va_P (dC, dI) vwCl [(qf6, .inl (cf6, 256, .inl f6)), (qf5, .inl (cf5, 256, .inl f5)), (qf0, .inl (cf0, nb, .inl f0)), (h0, .inr (3, [.ref qf0, .int v1, .int v2, .int x3_53, .ref qf4, .ref qf5, .ref qf6, .int v7, .int v8, .int v9, .int v10, .ref qf11, .int v12, .ref qf13])), (qf4, .inl (cf4, 256, .inl f4))] H := hP
      replace hD : va_D A [(qf6, .inl (cf6, 256, .inl f6)), (qf5, .inl (cf5, 256, .inl f5)), (qf0, .inl (cf0, nb, .inl f0)), (h0, .inr (3, [.ref qf0, .int v1, .int v2, .int x3_53, .ref qf4, .ref qf5, .ref qf6, .int v7, .int v8, .int v9, .int v10, .ref qf11, .int v12, .ref qf13])), (qf4, .inl (cf4, 256, .inl f4))] := hD
      replace hK : va_K (dC, dI) vwCl [(cf6, .int), (cf5, .int), (cf0, .byte), (cf4, .int)] s := hK
      obtain rfl := hw
      refine lv_iconst (v := 3) hx hb dX3_checkConstant_80 (by decide) ?_
      refine lv_icmp_eq (tgt := 89) hx hb dX3_checkConstant_81 (by decide) (fun c_19 => ?_) (fun c_19 => ?_)
      · rw [if_pos c_19] at hsp
        exact hj_89 (H, locs, ls, l1_53, l2_53, u6_0, x3_53) ⟨lv_sub hl [1, 2, 3, 0] rfl, hS, hD.sub (ws' := [(h0, .inr (3, [.ref qf0, .int v1, .int v2, .int x3_53, .ref qf4, .ref qf5, .ref qf6, .int v7, .int v8, .int v9, .int v10, .ref qf11, .int v12, .ref qf13])), (qf5, .inl (cf5, 256, .inl f5)), (qf4, .inl (cf4, 256, .inl f4)), (qf0, .inl (cf0, nb, .inl f0)), (qf6, .inl (cf6, 256, .inl f6))]) [3, 1, 4, 2, 0] (by decide) rfl, hP.sub (ws' := [(h0, .inr (3, [.ref qf0, .int v1, .int v2, .int x3_53, .ref qf4, .ref qf5, .ref qf6, .int v7, .int v8, .int v9, .int v10, .ref qf11, .int v12, .ref qf13])), (qf5, .inl (cf5, 256, .inl f5)), (qf4, .inl (cf4, 256, .inl f4)), (qf0, .inl (cf0, nb, .inl f0)), (qf6, .inl (cf6, 256, .inl f6))]) [3, 1, 4, 2, 0] rfl, hsp⟩
      · rw [if_neg c_19] at hsp
        refine lv_aload_n hx hb dX3_checkConstant_84 rfl (lv_at hl 1 rfl) ?_
        refine lv_iload_n hx hb dX3_checkConstant_85 rfl (lv_at hl 3 rfl) ?_
        obtain ⟨u9_0, hu_9, hsp⟩ := ox_bind hsp
        try dsimp only at hsp
        have hPc := hP.sub (ws' := [(h0, .inr (3, [.ref qf0, .int v1, .int v2, .int x3_53, .ref qf4, .ref qf5, .ref qf6, .int v7, .int v8, .int v9, .int v10, .ref qf11, .int v12, .ref qf13]))]) [3] rfl
        have hDc := hD.sub (ws' := [(h0, .inr (3, [.ref qf0, .int v1, .int v2, .int x3_53, .ref qf4, .ref qf5, .ref qf6, .int v7, .int v8, .int v9, .int v10, .ref qf11, .int v12, .ref qf13]))]) [3] (by decide) rfl
        have hKc := hK.sub (tys' := []) [] rfl
        have hFc := va_free (wc := [(h0, .inr (3, [.ref qf0, .int v1, .int v2, .int x3_53, .ref qf4, .ref qf5, .ref qf6, .int v7, .int v8, .int v9, .int v10, .ref qf11, .int v12, .ref qf13]))]) hD hS hA [3] rfl
        refine va_callv (va_runV (As := [.int l2_53]) (rest := []) ⟨hx, hb, hml, hown, hts⟩ (ti_bad l dC dI H.size h0 l2_53 qf0 v1 v2 x3_53 qf4 qf5 qf6 v7 v8 v9 v10 qf11 v12 qf13 nf u9_0 hu_9) (cwV 1 hts gv_h7_39 rfl rfl rfl (by decide +kernel) ⟨Nat.le_of_ble_eq_true rfl, Nat.le_of_ble_eq_true rfl⟩) ⟨fun a U g mk q => by obtain ⟨q0, q1, qP, qK, qD⟩ := q; exact ⟨q0, q1, qP, va_K.moved (u := U) (U := U.calling g mk a) (Vm.Alike.refl U.vm) qK, qD⟩, va_recv hKc hPc (ci := 3) (q0 := 0) rfl rfl, fun U hU hW => ⟨rfl, by rw [hU], by rw [hU]; exact hPc, va_K.moved hW.alike hKc, hDc.weaken (fun _ _ _ _ => trivial)⟩⟩ rfl rfl hl.1 rfl (lv_room (Nat.le_of_ble_eq_true rfl)) dX3_checkConstant_86 ⟨Nat.le_of_ble_eq_true rfl, Nat.le_of_ble_eq_true rfl⟩) hS (fun q _ h => hFc q h) hFc ?_
        clear hS
        intro u t H1 locs ht hvm hw hB hz1 hk1 hS
        obtain ⟨⟩ := u
        obtain ⟨hP1, hK1, hD1⟩ := hB
        rw [ht] at hP1
        have hK1 := va_K.moved hvm.symm hK1
        try dsimp only at hw
        have hPD := va_join (wr := [(qf6, .inl (cf6, 256, .inl f6)), (qf5, .inl (cf5, 256, .inl f5)), (qf0, .inl (cf0, nb, .inl f0)), (qf4, .inl (cf4, 256, .inl f4))]) (w1 := [(h0, .inr (3, [.ref qf0, .int v1, .int v2, .int u9_0, .ref qf4, .ref qf5, .ref qf6, .int v7, .int v8, .int v9, .int v10, .ref qf11, .int v12, .ref qf13]))]) hP hD [3] [0, 1, 2, 4] rfl rfl (by decide) (by decide) hk1 hFc hP1 hD1
        clear hP hD
        obtain ⟨hP, hD⟩ := hPD
        replace hK := (hK.sub (tys' := [(cf6, .int), (cf5, .int), (cf0, .byte), (cf4, .int)]) [0, 1, 2, 3] rfl).app hK1
        clear hPc hDc hKc hFc hP1 hK1 hD1 hz1 hk1 ht hvm
        generalize H1 = H at hP hS ⊢
        replace hP : va_P (dC, dI) vwCl [(qf6, .inl (cf6, 256, .inl f6)), (qf5, .inl (cf5, 256, .inl f5)), (qf0, .inl (cf0, nb, .inl f0)), (qf4, .inl (cf4, 256, .inl f4)), (h0, .inr (3, [.ref qf0, .int v1, .int v2, .int u9_0, .ref qf4, .ref qf5, .ref qf6, .int v7, .int v8, .int v9, .int v10, .ref qf11, .int v12, .ref qf13]))] H := hP
        replace hD : va_D A [(qf6, .inl (cf6, 256, .inl f6)), (qf5, .inl (cf5, 256, .inl f5)), (qf0, .inl (cf0, nb, .inl f0)), (qf4, .inl (cf4, 256, .inl f4)), (h0, .inr (3, [.ref qf0, .int v1, .int v2, .int u9_0, .ref qf4, .ref qf5, .ref qf6, .int v7, .int v8, .int v9, .int v10, .ref qf11, .int v12, .ref qf13]))] := hD
        replace hK : va_K (dC, dI) vwCl [(cf6, .int), (cf5, .int), (cf0, .byte), (cf4, .int)] s := hK
        exact hj_89 (H, locs, ls, l1_53, l2_53, u6_0, u9_0) ⟨lv_sub hl [1, 2, 3, 0] rfl, hS, hD.sub (ws' := [(h0, .inr (3, [.ref qf0, .int v1, .int v2, .int u9_0, .ref qf4, .ref qf5, .ref qf6, .int v7, .int v8, .int v9, .int v10, .ref qf11, .int v12, .ref qf13])), (qf5, .inl (cf5, 256, .inl f5)), (qf4, .inl (cf4, 256, .inl f4)), (qf0, .inl (cf0, nb, .inl f0)), (qf6, .inl (cf6, 256, .inl f6))]) [4, 1, 3, 2, 0] (by decide) rfl, hP.sub (ws' := [(h0, .inr (3, [.ref qf0, .int v1, .int v2, .int u9_0, .ref qf4, .ref qf5, .ref qf6, .int v7, .int v8, .int v9, .int v10, .ref qf11, .int v12, .ref qf13])), (qf5, .inl (cf5, 256, .inl f5)), (qf4, .inl (cf4, 256, .inl f4)), (qf0, .inl (cf0, nb, .inl f0)), (qf6, .inl (cf6, 256, .inl f6))]) [4, 1, 3, 2, 0] rfl, hsp⟩
  intro hj_53
  refine jn_use (α := Heap × List Loc × Array Slot × Int32 × Int32 × Int32) (fun x9 => x9.1) (fun x9 => x9.2.1) (fun x9 => F0 m 48 x9.2.2.1 []) (fun x9 => match x9 with | (H, locs, ls, l1_48, l2_48, x3_48) => lv_has ls 4 [(0, .ref h0), (1, .int l1_48), (2, .int l2_48)] ∧ va_S A s.heap H locs ∧ va_D A [(h0, .inr (3, [.ref qf0, .int v1, .int v2, .int x3_48, .ref qf4, .ref qf5, .ref qf6, .int v7, .int v8, .int v9, .int v10, .ref qf11, .int v12, .ref qf13])), (qf5, .inl (cf5, 256, .inl f5)), (qf4, .inl (cf4, 256, .inl f4)), (qf0, .inl (cf0, nb, .inl f0)), (qf6, .inl (cf6, 256, .inl f6))] ∧ va_P (dC, dI) vwCl [(h0, .inr (3, [.ref qf0, .int v1, .int v2, .int x3_48, .ref qf4, .ref qf5, .ref qf6, .int v7, .int v8, .int v9, .int v10, .ref qf11, .int v12, .ref qf13])), (qf5, .inl (cf5, 256, .inl f5)), (qf4, .inl (cf4, 256, .inl f4)), (qf0, .inl (cf0, nb, .inl f0)), (qf6, .inl (cf6, 256, .inl f6))] H ∧ jn_v3_checkConstant_48 nf a1 v1 v3 v7 f5 f4 nb f0 f6 l1_48 l2_48 x3_48 = some w3) ?_ ?_
  · intro x9 hJ9
    obtain ⟨H, locs, ls, l1_48, l2_48, x3_48⟩ := x9
    obtain ⟨hl, hS, hD, hP, hsp⟩ := hJ9
    replace hl : lv_has ls 4 [(0, .ref h0), (1, .int l1_48), (2, .int l2_48)] := hl
    replace hS : va_S A s.heap H locs := hS
    replace hD : va_D A [(h0, .inr (3, [.ref qf0, .int v1, .int v2, .int x3_48, .ref qf4, .ref qf5, .ref qf6, .int v7, .int v8, .int v9, .int v10, .ref qf11, .int v12, .ref qf13])), (qf5, .inl (cf5, 256, .inl f5)), (qf4, .inl (cf4, 256, .inl f4)), (qf0, .inl (cf0, nb, .inl f0)), (qf6, .inl (cf6, 256, .inl f6))] := hD
    replace hP : va_P (dC, dI) vwCl [(h0, .inr (3, [.ref qf0, .int v1, .int v2, .int x3_48, .ref qf4, .ref qf5, .ref qf6, .int v7, .int v8, .int v9, .int v10, .ref qf11, .int v12, .ref qf13])), (qf5, .inl (cf5, 256, .inl f5)), (qf4, .inl (cf4, 256, .inl f4)), (qf0, .inl (cf0, nb, .inl f0)), (qf6, .inl (cf6, 256, .inl f6))] H := hP
    replace hsp : jn_v3_checkConstant_48 nf a1 v1 v3 v7 f5 f4 nb f0 f6 l1_48 l2_48 x3_48 = some w3 := hsp
    show W _ _ _ _ _ _ _ _ _ _ H locs _ _ _ (F0 m 48 ls [])
    unfold jn_v3_checkConstant_48 at hsp
    try dsimp only at hsp
    refine lv_aload_n hx hb dX3_checkConstant_48 rfl (lv_at hl 0 rfl) ?_
    refine lv_iload_n hx hb dX3_checkConstant_49 rfl (lv_at hl 2 rfl) ?_
    obtain ⟨u5_0, hu_5, hsp⟩ := ox_bind hsp
    try dsimp only at hsp
    have hPc := hP.sub (ws' := [(h0, .inr (3, [.ref qf0, .int v1, .int v2, .int x3_48, .ref qf4, .ref qf5, .ref qf6, .int v7, .int v8, .int v9, .int v10, .ref qf11, .int v12, .ref qf13]))]) [0] rfl
    have hDc := hD.sub (ws' := [(h0, .inr (3, [.ref qf0, .int v1, .int v2, .int x3_48, .ref qf4, .ref qf5, .ref qf6, .int v7, .int v8, .int v9, .int v10, .ref qf11, .int v12, .ref qf13]))]) [0] (by decide) rfl
    have hKc := hK.sub (tys' := []) [] rfl
    have hFc := va_free (wc := [(h0, .inr (3, [.ref qf0, .int v1, .int v2, .int x3_48, .ref qf4, .ref qf5, .ref qf6, .int v7, .int v8, .int v9, .int v10, .ref qf11, .int v12, .ref qf13]))]) hD hS hA [0] rfl
    refine va_callv (va_runV (As := [.int l2_48]) (rest := []) ⟨hx, hb, hml, hown, hts⟩ (ti_bad l dC dI H.size h0 l2_48 qf0 v1 v2 x3_48 qf4 qf5 qf6 v7 v8 v9 v10 qf11 v12 qf13 nf u5_0 hu_5) (cwV 1 hts gv_h7_39 rfl rfl rfl (by decide +kernel) ⟨Nat.le_of_ble_eq_true rfl, Nat.le_of_ble_eq_true rfl⟩) ⟨fun a U g mk q => by obtain ⟨q0, q1, qP, qK, qD⟩ := q; exact ⟨q0, q1, qP, va_K.moved (u := U) (U := U.calling g mk a) (Vm.Alike.refl U.vm) qK, qD⟩, va_recv hKc hPc (ci := 3) (q0 := 0) rfl rfl, fun U hU hW => ⟨rfl, by rw [hU], by rw [hU]; exact hPc, va_K.moved hW.alike hKc, hDc.weaken (fun _ _ _ _ => trivial)⟩⟩ rfl rfl hl.1 rfl (lv_room (Nat.le_of_ble_eq_true rfl)) dX3_checkConstant_50 ⟨Nat.le_of_ble_eq_true rfl, Nat.le_of_ble_eq_true rfl⟩) hS (fun q _ h => hFc q h) hFc ?_
    clear hS
    intro u t H1 locs ht hvm hw hB hz1 hk1 hS
    obtain ⟨⟩ := u
    obtain ⟨hP1, hK1, hD1⟩ := hB
    rw [ht] at hP1
    have hK1 := va_K.moved hvm.symm hK1
    try dsimp only at hw
    have hPD := va_join (wr := [(qf5, .inl (cf5, 256, .inl f5)), (qf4, .inl (cf4, 256, .inl f4)), (qf0, .inl (cf0, nb, .inl f0)), (qf6, .inl (cf6, 256, .inl f6))]) (w1 := [(h0, .inr (3, [.ref qf0, .int v1, .int v2, .int u5_0, .ref qf4, .ref qf5, .ref qf6, .int v7, .int v8, .int v9, .int v10, .ref qf11, .int v12, .ref qf13]))]) hP hD [0] [1, 2, 3, 4] rfl rfl (by decide) (by decide) hk1 hFc hP1 hD1
    clear hP hD
    obtain ⟨hP, hD⟩ := hPD
    replace hK := (hK.sub (tys' := [(cf5, .int), (cf4, .int), (cf0, .byte), (cf6, .int)]) [0, 1, 2, 3] rfl).app hK1
    clear hPc hDc hKc hFc hP1 hK1 hD1 hz1 hk1 ht hvm
    generalize H1 = H at hP hS ⊢
    replace hP : va_P (dC, dI) vwCl [(qf5, .inl (cf5, 256, .inl f5)), (qf4, .inl (cf4, 256, .inl f4)), (qf0, .inl (cf0, nb, .inl f0)), (qf6, .inl (cf6, 256, .inl f6)), (h0, .inr (3, [.ref qf0, .int v1, .int v2, .int u5_0, .ref qf4, .ref qf5, .ref qf6, .int v7, .int v8, .int v9, .int v10, .ref qf11, .int v12, .ref qf13]))] H := hP
    replace hD : va_D A [(qf5, .inl (cf5, 256, .inl f5)), (qf4, .inl (cf4, 256, .inl f4)), (qf0, .inl (cf0, nb, .inl f0)), (qf6, .inl (cf6, 256, .inl f6)), (h0, .inr (3, [.ref qf0, .int v1, .int v2, .int u5_0, .ref qf4, .ref qf5, .ref qf6, .int v7, .int v8, .int v9, .int v10, .ref qf11, .int v12, .ref qf13]))] := hD
    replace hK : va_K (dC, dI) vwCl [(cf5, .int), (cf4, .int), (cf0, .byte), (cf6, .int)] s := hK
    exact hj_53 (H, locs, ls, l1_48, l2_48, u5_0) ⟨lv_sub hl [0, 1, 2] rfl, hS, hD.sub (ws' := [(h0, .inr (3, [.ref qf0, .int v1, .int v2, .int u5_0, .ref qf4, .ref qf5, .ref qf6, .int v7, .int v8, .int v9, .int v10, .ref qf11, .int v12, .ref qf13])), (qf5, .inl (cf5, 256, .inl f5)), (qf4, .inl (cf4, 256, .inl f4)), (qf0, .inl (cf0, nb, .inl f0)), (qf6, .inl (cf6, 256, .inl f6))]) [4, 0, 1, 2, 3] (by decide) rfl, hP.sub (ws' := [(h0, .inr (3, [.ref qf0, .int v1, .int v2, .int u5_0, .ref qf4, .ref qf5, .ref qf6, .int v7, .int v8, .int v9, .int v10, .ref qf11, .int v12, .ref qf13])), (qf5, .inl (cf5, 256, .inl f5)), (qf4, .inl (cf4, 256, .inl f4)), (qf0, .inl (cf0, nb, .inl f0)), (qf6, .inl (cf6, 256, .inl f6))]) [4, 0, 1, 2, 3] rfl, hsp⟩
  intro hj_48
  refine lv_aload_n hx hb dX3_checkConstant_0 rfl (lv_at hl 0 rfl) ?_
  refine va_get (D := (dC, dI)) (ci := 3) (v := .ref qf5) (C := RX3) (T := TX3) (N := 14) hx hb hts uV_h7_X3 hown hK hP 0 rfl rfl 5 (by decide) (hts (.fieldLink RX3 19 "ClassMill$Image" "at" "[I") mw_h7_159) (fun _ h9 => h9) rfl dX3_checkConstant_1 ?_
  refine lv_iload_n hx hb dX3_checkConstant_4 rfl (lv_at hl 1 rfl) ?_
  obtain ⟨hi_1, hsp⟩ := ox_in hsp
  refine va_iald hx hb hK hP 1 0 rfl rfl (i := a1) hi_1 dX3_checkConstant_5 ?_
  refine lv_istore_n (lv' := [(2, .int (f5 (a1 : Int32).toNatClampNeg)), (0, .ref h0), (1, .int a1)]) hx hb dX3_checkConstant_6 rfl hl (by decide) rfl (fun ls hl => ?_)
  refine lv_aload_n hx hb dX3_checkConstant_7 rfl (lv_at hl 1 rfl) ?_
  refine va_get (D := (dC, dI)) (ci := 3) (v := .ref qf4) (C := RX3) (T := TX3) (N := 14) hx hb hts uV_h7_X3 hown hK hP 0 rfl rfl 4 (by decide) (hts (.fieldLink RX3 15 "ClassMill$Image" "tags" "[I") mw_h7_158) (fun _ h9 => h9) rfl dX3_checkConstant_8 ?_
  refine lv_iload_n hx hb dX3_checkConstant_11 rfl (lv_at hl 2 rfl) ?_
  obtain ⟨hi_2, hsp⟩ := ox_in hsp
  refine va_iald hx hb hK hP 2 1 rfl rfl (i := a1) hi_2 dX3_checkConstant_12 ?_
  refine lv_iconst (v := 3) hx hb dX3_checkConstant_13 (by decide) ?_
  refine lv_icmp_ne (tgt := 53) hx hb dX3_checkConstant_14 (by decide) (fun c_3 => ?_) (fun c_3 => ?_)
  · rw [if_neg c_3] at hsp
    exact hj_53 (H, locs, ls, a1, (f5 (a1 : Int32).toNatClampNeg), v3) ⟨lv_sub hl [1, 2, 0] rfl, hS, hD.sub (ws' := [(h0, .inr (3, [.ref qf0, .int v1, .int v2, .int v3, .ref qf4, .ref qf5, .ref qf6, .int v7, .int v8, .int v9, .int v10, .ref qf11, .int v12, .ref qf13])), (qf5, .inl (cf5, 256, .inl f5)), (qf4, .inl (cf4, 256, .inl f4)), (qf0, .inl (cf0, nb, .inl f0)), (qf6, .inl (cf6, 256, .inl f6))]) [0, 1, 2, 3, 4] (by decide) rfl, hP.sub (ws' := [(h0, .inr (3, [.ref qf0, .int v1, .int v2, .int v3, .ref qf4, .ref qf5, .ref qf6, .int v7, .int v8, .int v9, .int v10, .ref qf11, .int v12, .ref qf13])), (qf5, .inl (cf5, 256, .inl f5)), (qf4, .inl (cf4, 256, .inl f4)), (qf0, .inl (cf0, nb, .inl f0)), (qf6, .inl (cf6, 256, .inl f6))]) [0, 1, 2, 3, 4] rfl, hsp⟩
  · rw [if_pos c_3] at hsp
    refine lv_aload_n hx hb dX3_checkConstant_17 rfl (lv_at hl 1 rfl) ?_
    refine lv_iload_n hx hb dX3_checkConstant_18 rfl (lv_at hl 2 rfl) ?_
    refine lv_iconst (v := 0) hx hb dX3_checkConstant_19 (by decide) ?_
    obtain ⟨u1_0, hu_1, hsp⟩ := ox_bind hsp
    try dsimp only at hsp
    have hPc := hP.sub (ws' := [(h0, .inr (3, [.ref qf0, .int v1, .int v2, .int v3, .ref qf4, .ref qf5, .ref qf6, .int v7, .int v8, .int v9, .int v10, .ref qf11, .int v12, .ref qf13])), (qf5, .inl (cf5, 256, .inl f5)), (qf0, .inl (cf0, nb, .inl f0))]) [0, 1, 3] rfl
    have hDc := hD.sub (ws' := [(h0, .inr (3, [.ref qf0, .int v1, .int v2, .int v3, .ref qf4, .ref qf5, .ref qf6, .int v7, .int v8, .int v9, .int v10, .ref qf11, .int v12, .ref qf13])), (qf5, .inl (cf5, 256, .inl f5)), (qf0, .inl (cf0, nb, .inl f0))]) [0, 1, 3] (by decide) rfl
    have hKc := hK.sub (tys' := [(cf5, .int), (cf0, .byte)]) [0, 2] rfl
    have hFc := va_free (wc := [(h0, .inr (3, [.ref qf0, .int v1, .int v2, .int v3, .ref qf4, .ref qf5, .ref qf6, .int v7, .int v8, .int v9, .int v10, .ref qf11, .int v12, .ref qf13])), (qf5, .inl (cf5, 256, .inl f5)), (qf0, .inl (cf0, nb, .inl f0))]) hD hS hA [0, 1, 3] rfl
    refine va_calli (va_runV (As := [.int a1, .int 0]) (rest := []) ⟨hx, hb, hml, hown, hts⟩ (ti_partOf l dC dI H.size h0 a1 0 qf0 v1 v2 v3 qf4 qf5 qf6 v7 v8 v9 v10 qf11 v12 qf13 cf5 f5 cf0 nb f0 nf u1_0 hu_1) (cwV 2 hts gv_h7_31 rfl rfl rfl (by decide +kernel) ⟨Nat.le_of_ble_eq_true rfl, Nat.le_of_ble_eq_true rfl⟩) ⟨fun a U g mk q => by obtain ⟨q0, q1, qP, qK, qD⟩ := q; exact ⟨q0, q1, qP, va_K.moved (u := U) (U := U.calling g mk a) (Vm.Alike.refl U.vm) qK, qD⟩, va_recv hKc hPc (ci := 3) (q0 := 0) rfl rfl, fun U hU hW => ⟨rfl, by rw [hU], by rw [hU]; exact hPc, va_K.moved hW.alike hKc, hDc.weaken (fun _ _ _ _ => trivial)⟩⟩ rfl rfl hl.1 rfl (lv_room (Nat.le_of_ble_eq_true rfl)) dX3_checkConstant_20 ⟨Nat.le_of_ble_eq_true rfl, Nat.le_of_ble_eq_true rfl⟩) hS (fun q _ h => hFc q h) hFc ?_
    clear hS
    intro r_4 u t H1 locs ht hvm hw hB hz1 hk1 hS
    obtain ⟨⟩ := u
    obtain ⟨hP1, hK1, hD1⟩ := hB
    rw [ht] at hP1
    have hK1 := va_K.moved hvm.symm hK1
    try dsimp only at hw
    have hPD := va_join (wr := [(qf4, .inl (cf4, 256, .inl f4)), (qf6, .inl (cf6, 256, .inl f6))]) (w1 := [(h0, .inr (3, [.ref qf0, .int v1, .int v2, .int v3, .ref qf4, .ref qf5, .ref qf6, .int v7, .int v8, .int v9, .int v10, .ref qf11, .int v12, .ref qf13])), (qf5, .inl (cf5, 256, .inl f5)), (qf0, .inl (cf0, nb, .inl f0))]) hP hD [0, 1, 3] [2, 4] rfl rfl (by decide) (by decide) hk1 hFc hP1 hD1
    clear hP hD
    obtain ⟨hP, hD⟩ := hPD
    replace hK := (hK.sub (tys' := [(cf4, .int), (cf6, .int)]) [1, 3] rfl).app hK1
    clear hPc hDc hKc hFc hP1 hK1 hD1 hz1 hk1 ht hvm
    generalize H1 = H at hP hS ⊢
    replace hP : va_P (dC, dI) vwCl [(qf4, .inl (cf4, 256, .inl f4)), (qf6, .inl (cf6, 256, .inl f6)), (h0, .inr (3, [.ref qf0, .int v1, .int v2, .int v3, .ref qf4, .ref qf5, .ref qf6, .int v7, .int v8, .int v9, .int v10, .ref qf11, .int v12, .ref qf13])), (qf5, .inl (cf5, 256, .inl f5)), (qf0, .inl (cf0, nb, .inl f0))] H := hP
    replace hD : va_D A [(qf4, .inl (cf4, 256, .inl f4)), (qf6, .inl (cf6, 256, .inl f6)), (h0, .inr (3, [.ref qf0, .int v1, .int v2, .int v3, .ref qf4, .ref qf5, .ref qf6, .int v7, .int v8, .int v9, .int v10, .ref qf11, .int v12, .ref qf13])), (qf5, .inl (cf5, 256, .inl f5)), (qf0, .inl (cf0, nb, .inl f0))] := hD
    replace hK : va_K (dC, dI) vwCl [(cf4, .int), (cf6, .int), (cf5, .int), (cf0, .byte)] s := hK
    obtain rfl := hw
    refine lv_istore_n (lv' := [(3, .int u1_0), (2, .int (f5 (a1 : Int32).toNatClampNeg)), (0, .ref h0), (1, .int a1)]) hx hb dX3_checkConstant_23 rfl hl (by decide) rfl (fun ls hl => ?_)
    refine lv_aload_n hx hb dX3_checkConstant_24 rfl (lv_at hl 2 rfl) ?_
    refine lv_iload_n hx hb dX3_checkConstant_25 rfl (lv_at hl 0 rfl) ?_
    obtain ⟨u2_0, hu_2, hsp⟩ := ox_bind hsp
    try dsimp only at hsp
    have hPc := hP.sub (ws' := [(h0, .inr (3, [.ref qf0, .int v1, .int v2, .int v3, .ref qf4, .ref qf5, .ref qf6, .int v7, .int v8, .int v9, .int v10, .ref qf11, .int v12, .ref qf13])), (qf4, .inl (cf4, 256, .inl f4)), (qf5, .inl (cf5, 256, .inl f5)), (qf6, .inl (cf6, 256, .inl f6)), (qf0, .inl (cf0, nb, .inl f0))]) [2, 0, 3, 1, 4] rfl
    have hDc := hD.sub (ws' := [(h0, .inr (3, [.ref qf0, .int v1, .int v2, .int v3, .ref qf4, .ref qf5, .ref qf6, .int v7, .int v8, .int v9, .int v10, .ref qf11, .int v12, .ref qf13])), (qf4, .inl (cf4, 256, .inl f4)), (qf5, .inl (cf5, 256, .inl f5)), (qf6, .inl (cf6, 256, .inl f6)), (qf0, .inl (cf0, nb, .inl f0))]) [2, 0, 3, 1, 4] (by decide) rfl
    have hKc := hK.sub (tys' := [(cf4, .int), (cf5, .int), (cf6, .int), (cf0, .byte)]) [0, 2, 1, 3] rfl
    have hFc := va_free (wc := [(h0, .inr (3, [.ref qf0, .int v1, .int v2, .int v3, .ref qf4, .ref qf5, .ref qf6, .int v7, .int v8, .int v9, .int v10, .ref qf11, .int v12, .ref qf13])), (qf4, .inl (cf4, 256, .inl f4)), (qf5, .inl (cf5, 256, .inl f5)), (qf6, .inl (cf6, 256, .inl f6)), (qf0, .inl (cf0, nb, .inl f0))]) hD hS hA [2, 0, 3, 1, 4] rfl
    refine va_calli (va_runV (As := [.int u1_0]) (rest := []) ⟨hx, hb, hml, hown, hts⟩ (v3_isNameText l dC dI H.size h0 u1_0 qf0 v1 v2 v3 qf4 qf5 qf6 v7 v8 v9 v10 qf11 v12 qf13 cf4 f4 cf5 f5 cf6 f6 cf0 nb f0 nf u2_0 hu_2) (cwV 1 hts gv_h7_38 rfl rfl rfl (by decide +kernel) ⟨Nat.le_of_ble_eq_true rfl, Nat.le_of_ble_eq_true rfl⟩) ⟨fun a U g mk q => by obtain ⟨q0, q1, qP, qK, qD⟩ := q; exact ⟨q0, q1, qP, va_K.moved (u := U) (U := U.calling g mk a) (Vm.Alike.refl U.vm) qK, qD⟩, va_recv hKc hPc (ci := 3) (q0 := 0) rfl rfl, fun U hU hW => ⟨rfl, by rw [hU], by rw [hU]; exact hPc, va_K.moved hW.alike hKc, hDc.weaken (fun _ _ _ _ => trivial)⟩⟩ rfl rfl hl.1 rfl (lv_room (Nat.le_of_ble_eq_true rfl)) dX3_checkConstant_26 ⟨Nat.le_of_ble_eq_true rfl, Nat.le_of_ble_eq_true rfl⟩) hS (fun q _ h => hFc q h) hFc ?_
    clear hS
    intro r_5 u t H1 locs ht hvm hw hB hz1 hk1 hS
    obtain ⟨⟩ := u
    obtain ⟨hP1, hK1, hD1⟩ := hB
    rw [ht] at hP1
    have hK1 := va_K.moved hvm.symm hK1
    try dsimp only at hw
    have hPD := va_join (wr := []) (w1 := [(h0, .inr (3, [.ref qf0, .int v1, .int v2, .int v3, .ref qf4, .ref qf5, .ref qf6, .int v7, .int v8, .int v9, .int v10, .ref qf11, .int v12, .ref qf13])), (qf4, .inl (cf4, 256, .inl f4)), (qf5, .inl (cf5, 256, .inl f5)), (qf6, .inl (cf6, 256, .inl f6)), (qf0, .inl (cf0, nb, .inl f0))]) hP hD [2, 0, 3, 1, 4] [] rfl rfl (by decide) (by decide) hk1 hFc hP1 hD1
    clear hP hD
    obtain ⟨hP, hD⟩ := hPD
    replace hK := (hK.sub (tys' := []) [] rfl).app hK1
    clear hPc hDc hKc hFc hP1 hK1 hD1 hz1 hk1 ht hvm
    generalize H1 = H at hP hS ⊢
    replace hP : va_P (dC, dI) vwCl [(h0, .inr (3, [.ref qf0, .int v1, .int v2, .int v3, .ref qf4, .ref qf5, .ref qf6, .int v7, .int v8, .int v9, .int v10, .ref qf11, .int v12, .ref qf13])), (qf4, .inl (cf4, 256, .inl f4)), (qf5, .inl (cf5, 256, .inl f5)), (qf6, .inl (cf6, 256, .inl f6)), (qf0, .inl (cf0, nb, .inl f0))] H := hP
    replace hD : va_D A [(h0, .inr (3, [.ref qf0, .int v1, .int v2, .int v3, .ref qf4, .ref qf5, .ref qf6, .int v7, .int v8, .int v9, .int v10, .ref qf11, .int v12, .ref qf13])), (qf4, .inl (cf4, 256, .inl f4)), (qf5, .inl (cf5, 256, .inl f5)), (qf6, .inl (cf6, 256, .inl f6)), (qf0, .inl (cf0, nb, .inl f0))] := hD
    replace hK : va_K (dC, dI) vwCl [(cf4, .int), (cf5, .int), (cf6, .int), (cf0, .byte)] s := hK
    obtain ⟨rfl, hz_2⟩ := hw
    rcases hz_2 with rfl | rfl
    · rw [if_pos rfl] at hsp
      refine lv_if_ne (tgt := 53) hx hb dX3_checkConstant_29 (by decide) (fun c_6 => (show False by revert c_6; decide).elim) (fun c_6 => ?_)
      refine lv_aload_n hx hb dX3_checkConstant_32 rfl (lv_at hl 2 rfl) ?_
      refine lv_iload_n hx hb dX3_checkConstant_33 rfl (lv_at hl 0 rfl) ?_
      obtain ⟨u3_0, hu_3, hsp⟩ := ox_bind hsp
      try dsimp only at hsp
      have hPc := hP.sub (ws' := [(h0, .inr (3, [.ref qf0, .int v1, .int v2, .int v3, .ref qf4, .ref qf5, .ref qf6, .int v7, .int v8, .int v9, .int v10, .ref qf11, .int v12, .ref qf13])), (qf4, .inl (cf4, 256, .inl f4)), (qf5, .inl (cf5, 256, .inl f5)), (qf0, .inl (cf0, nb, .inl f0))]) [0, 1, 2, 4] rfl
      have hDc := hD.sub (ws' := [(h0, .inr (3, [.ref qf0, .int v1, .int v2, .int v3, .ref qf4, .ref qf5, .ref qf6, .int v7, .int v8, .int v9, .int v10, .ref qf11, .int v12, .ref qf13])), (qf4, .inl (cf4, 256, .inl f4)), (qf5, .inl (cf5, 256, .inl f5)), (qf0, .inl (cf0, nb, .inl f0))]) [0, 1, 2, 4] (by decide) rfl
      have hKc := hK.sub (tys' := [(cf4, .int), (cf5, .int), (cf0, .byte)]) [0, 1, 3] rfl
      have hFc := va_free (wc := [(h0, .inr (3, [.ref qf0, .int v1, .int v2, .int v3, .ref qf4, .ref qf5, .ref qf6, .int v7, .int v8, .int v9, .int v10, .ref qf11, .int v12, .ref qf13])), (qf4, .inl (cf4, 256, .inl f4)), (qf5, .inl (cf5, 256, .inl f5)), (qf0, .inl (cf0, nb, .inl f0))]) hD hS hA [0, 1, 2, 4] rfl
      refine va_calli (va_runV (As := [.int u1_0]) (rest := []) ⟨hx, hb, hml, hown, hts⟩ (t3_isArrayText l dC dI H.size h0 u1_0 qf0 v1 v2 v3 qf4 qf5 qf6 v7 v8 v9 v10 qf11 v12 qf13 cf4 f4 cf5 f5 cf0 nb f0 nf u3_0 hu_3) (cwV 1 hts gv_h7_121 rfl rfl rfl (by decide +kernel) ⟨Nat.le_of_ble_eq_true rfl, Nat.le_of_ble_eq_true rfl⟩) ⟨fun a U g mk q => by obtain ⟨q0, q1, qP, qK, qD⟩ := q; exact ⟨q0, q1, qP, va_K.moved (u := U) (U := U.calling g mk a) (Vm.Alike.refl U.vm) qK, qD⟩, va_recv hKc hPc (ci := 3) (q0 := 0) rfl rfl, fun U hU hW => ⟨rfl, by rw [hU], by rw [hU]; exact hPc, va_K.moved hW.alike hKc, hDc.weaken (fun _ _ _ _ => trivial)⟩⟩ rfl rfl hl.1 rfl (lv_room (Nat.le_of_ble_eq_true rfl)) dX3_checkConstant_34 ⟨Nat.le_of_ble_eq_true rfl, Nat.le_of_ble_eq_true rfl⟩) hS (fun q _ h => hFc q h) hFc ?_
      clear hS
      intro r_7 u t H1 locs ht hvm hw hB hz1 hk1 hS
      obtain ⟨⟩ := u
      obtain ⟨hP1, hK1, hD1⟩ := hB
      rw [ht] at hP1
      have hK1 := va_K.moved hvm.symm hK1
      try dsimp only at hw
      have hPD := va_join (wr := [(qf6, .inl (cf6, 256, .inl f6))]) (w1 := [(h0, .inr (3, [.ref qf0, .int v1, .int v2, .int v3, .ref qf4, .ref qf5, .ref qf6, .int v7, .int v8, .int v9, .int v10, .ref qf11, .int v12, .ref qf13])), (qf4, .inl (cf4, 256, .inl f4)), (qf5, .inl (cf5, 256, .inl f5)), (qf0, .inl (cf0, nb, .inl f0))]) hP hD [0, 1, 2, 4] [3] rfl rfl (by decide) (by decide) hk1 hFc hP1 hD1
      clear hP hD
      obtain ⟨hP, hD⟩ := hPD
      replace hK := (hK.sub (tys' := [(cf6, .int)]) [2] rfl).app hK1
      clear hPc hDc hKc hFc hP1 hK1 hD1 hz1 hk1 ht hvm
      generalize H1 = H at hP hS ⊢
      replace hP : va_P (dC, dI) vwCl [(qf6, .inl (cf6, 256, .inl f6)), (h0, .inr (3, [.ref qf0, .int v1, .int v2, .int v3, .ref qf4, .ref qf5, .ref qf6, .int v7, .int v8, .int v9, .int v10, .ref qf11, .int v12, .ref qf13])), (qf4, .inl (cf4, 256, .inl f4)), (qf5, .inl (cf5, 256, .inl f5)), (qf0, .inl (cf0, nb, .inl f0))] H := hP
      replace hD : va_D A [(qf6, .inl (cf6, 256, .inl f6)), (h0, .inr (3, [.ref qf0, .int v1, .int v2, .int v3, .ref qf4, .ref qf5, .ref qf6, .int v7, .int v8, .int v9, .int v10, .ref qf11, .int v12, .ref qf13])), (qf4, .inl (cf4, 256, .inl f4)), (qf5, .inl (cf5, 256, .inl f5)), (qf0, .inl (cf0, nb, .inl f0))] := hD
      replace hK : va_K (dC, dI) vwCl [(cf6, .int), (cf4, .int), (cf5, .int), (cf0, .byte)] s := hK
      obtain ⟨rfl, hz_3⟩ := hw
      rcases hz_3 with rfl | rfl
      · rw [if_pos rfl] at hsp
        refine lv_if_eq (tgt := 48) hx hb dX3_checkConstant_37 (by decide) (fun c_8 => ?_) (fun c_8 => (show False by revert c_8; decide).elim)
        exact hj_48 (H, locs, ls, a1, (f5 (a1 : Int32).toNatClampNeg), v3) ⟨lv_sub hl [2, 3, 1] rfl, hS, hD.sub (ws' := [(h0, .inr (3, [.ref qf0, .int v1, .int v2, .int v3, .ref qf4, .ref qf5, .ref qf6, .int v7, .int v8, .int v9, .int v10, .ref qf11, .int v12, .ref qf13])), (qf5, .inl (cf5, 256, .inl f5)), (qf4, .inl (cf4, 256, .inl f4)), (qf0, .inl (cf0, nb, .inl f0)), (qf6, .inl (cf6, 256, .inl f6))]) [1, 3, 2, 4, 0] (by decide) rfl, hP.sub (ws' := [(h0, .inr (3, [.ref qf0, .int v1, .int v2, .int v3, .ref qf4, .ref qf5, .ref qf6, .int v7, .int v8, .int v9, .int v10, .ref qf11, .int v12, .ref qf13])), (qf5, .inl (cf5, 256, .inl f5)), (qf4, .inl (cf4, 256, .inl f4)), (qf0, .inl (cf0, nb, .inl f0)), (qf6, .inl (cf6, 256, .inl f6))]) [1, 3, 2, 4, 0] rfl, hsp⟩
      · rw [if_neg (by decide)] at hsp
        refine lv_if_eq (tgt := 48) hx hb dX3_checkConstant_37 (by decide) (fun c_9 => (show False by revert c_9; decide).elim) (fun c_9 => ?_)
        refine lv_aload_n hx hb dX3_checkConstant_40 rfl (lv_at hl 2 rfl) ?_
        refine lv_iload_n hx hb dX3_checkConstant_41 rfl (lv_at hl 0 rfl) ?_
        obtain ⟨u4_0, hu_4, hsp⟩ := ox_bind hsp
        try dsimp only at hsp
        have hPc := hP.sub (ws' := [(h0, .inr (3, [.ref qf0, .int v1, .int v2, .int v3, .ref qf4, .ref qf5, .ref qf6, .int v7, .int v8, .int v9, .int v10, .ref qf11, .int v12, .ref qf13])), (qf4, .inl (cf4, 256, .inl f4)), (qf5, .inl (cf5, 256, .inl f5)), (qf6, .inl (cf6, 256, .inl f6)), (qf0, .inl (cf0, nb, .inl f0))]) [1, 2, 3, 0, 4] rfl
        have hDc := hD.sub (ws' := [(h0, .inr (3, [.ref qf0, .int v1, .int v2, .int v3, .ref qf4, .ref qf5, .ref qf6, .int v7, .int v8, .int v9, .int v10, .ref qf11, .int v12, .ref qf13])), (qf4, .inl (cf4, 256, .inl f4)), (qf5, .inl (cf5, 256, .inl f5)), (qf6, .inl (cf6, 256, .inl f6)), (qf0, .inl (cf0, nb, .inl f0))]) [1, 2, 3, 0, 4] (by decide) rfl
        have hKc := hK.sub (tys' := [(cf4, .int), (cf5, .int), (cf6, .int), (cf0, .byte)]) [1, 2, 0, 3] rfl
        have hFc := va_free (wc := [(h0, .inr (3, [.ref qf0, .int v1, .int v2, .int v3, .ref qf4, .ref qf5, .ref qf6, .int v7, .int v8, .int v9, .int v10, .ref qf11, .int v12, .ref qf13])), (qf4, .inl (cf4, 256, .inl f4)), (qf5, .inl (cf5, 256, .inl f5)), (qf6, .inl (cf6, 256, .inl f6)), (qf0, .inl (cf0, nb, .inl f0))]) hD hS hA [1, 2, 3, 0, 4] rfl
        refine va_calli (va_runV (As := [.int u1_0]) (rest := []) ⟨hx, hb, hml, hown, hts⟩ (v3_isFieldKind l dC dI H.size h0 u1_0 qf0 v1 v2 v3 qf4 qf5 qf6 v7 v8 v9 v10 qf11 v12 qf13 cf4 f4 cf5 f5 cf6 f6 cf0 nb f0 nf u4_0 hu_4) (cwV 1 hts gv_h7_122 rfl rfl rfl (by decide +kernel) ⟨Nat.le_of_ble_eq_true rfl, Nat.le_of_ble_eq_true rfl⟩) ⟨fun a U g mk q => by obtain ⟨q0, q1, qP, qK, qD⟩ := q; exact ⟨q0, q1, qP, va_K.moved (u := U) (U := U.calling g mk a) (Vm.Alike.refl U.vm) qK, qD⟩, va_recv hKc hPc (ci := 3) (q0 := 0) rfl rfl, fun U hU hW => ⟨rfl, by rw [hU], by rw [hU]; exact hPc, va_K.moved hW.alike hKc, hDc.weaken (fun _ _ _ _ => trivial)⟩⟩ rfl rfl hl.1 rfl (lv_room (Nat.le_of_ble_eq_true rfl)) dX3_checkConstant_42 ⟨Nat.le_of_ble_eq_true rfl, Nat.le_of_ble_eq_true rfl⟩) hS (fun q _ h => hFc q h) hFc ?_
        clear hS
        intro r_10 u t H1 locs ht hvm hw hB hz1 hk1 hS
        obtain ⟨⟩ := u
        obtain ⟨hP1, hK1, hD1⟩ := hB
        rw [ht] at hP1
        have hK1 := va_K.moved hvm.symm hK1
        try dsimp only at hw
        have hPD := va_join (wr := []) (w1 := [(h0, .inr (3, [.ref qf0, .int v1, .int v2, .int v3, .ref qf4, .ref qf5, .ref qf6, .int v7, .int v8, .int v9, .int v10, .ref qf11, .int v12, .ref qf13])), (qf4, .inl (cf4, 256, .inl f4)), (qf5, .inl (cf5, 256, .inl f5)), (qf6, .inl (cf6, 256, .inl f6)), (qf0, .inl (cf0, nb, .inl f0))]) hP hD [1, 2, 3, 0, 4] [] rfl rfl (by decide) (by decide) hk1 hFc hP1 hD1
        clear hP hD
        obtain ⟨hP, hD⟩ := hPD
        replace hK := (hK.sub (tys' := []) [] rfl).app hK1
        clear hPc hDc hKc hFc hP1 hK1 hD1 hz1 hk1 ht hvm
        generalize H1 = H at hP hS ⊢
        replace hP : va_P (dC, dI) vwCl [(h0, .inr (3, [.ref qf0, .int v1, .int v2, .int v3, .ref qf4, .ref qf5, .ref qf6, .int v7, .int v8, .int v9, .int v10, .ref qf11, .int v12, .ref qf13])), (qf4, .inl (cf4, 256, .inl f4)), (qf5, .inl (cf5, 256, .inl f5)), (qf6, .inl (cf6, 256, .inl f6)), (qf0, .inl (cf0, nb, .inl f0))] H := hP
        replace hD : va_D A [(h0, .inr (3, [.ref qf0, .int v1, .int v2, .int v3, .ref qf4, .ref qf5, .ref qf6, .int v7, .int v8, .int v9, .int v10, .ref qf11, .int v12, .ref qf13])), (qf4, .inl (cf4, 256, .inl f4)), (qf5, .inl (cf5, 256, .inl f5)), (qf6, .inl (cf6, 256, .inl f6)), (qf0, .inl (cf0, nb, .inl f0))] := hD
        replace hK : va_K (dC, dI) vwCl [(cf4, .int), (cf5, .int), (cf6, .int), (cf0, .byte)] s := hK
        obtain ⟨rfl, hz_4⟩ := hw
        rcases hz_4 with rfl | rfl
        · rw [if_pos rfl] at hsp
          refine lv_if_ne (tgt := 53) hx hb dX3_checkConstant_45 (by decide) (fun c_11 => (show False by revert c_11; decide).elim) (fun c_11 => ?_)
          exact hj_48 (H, locs, ls, a1, (f5 (a1 : Int32).toNatClampNeg), v3) ⟨lv_sub hl [2, 3, 1] rfl, hS, hD.sub (ws' := [(h0, .inr (3, [.ref qf0, .int v1, .int v2, .int v3, .ref qf4, .ref qf5, .ref qf6, .int v7, .int v8, .int v9, .int v10, .ref qf11, .int v12, .ref qf13])), (qf5, .inl (cf5, 256, .inl f5)), (qf4, .inl (cf4, 256, .inl f4)), (qf0, .inl (cf0, nb, .inl f0)), (qf6, .inl (cf6, 256, .inl f6))]) [0, 2, 1, 4, 3] (by decide) rfl, hP.sub (ws' := [(h0, .inr (3, [.ref qf0, .int v1, .int v2, .int v3, .ref qf4, .ref qf5, .ref qf6, .int v7, .int v8, .int v9, .int v10, .ref qf11, .int v12, .ref qf13])), (qf5, .inl (cf5, 256, .inl f5)), (qf4, .inl (cf4, 256, .inl f4)), (qf0, .inl (cf0, nb, .inl f0)), (qf6, .inl (cf6, 256, .inl f6))]) [0, 2, 1, 4, 3] rfl, hsp⟩
        · rw [if_neg (by decide)] at hsp
          refine lv_if_ne (tgt := 53) hx hb dX3_checkConstant_45 (by decide) (fun c_12 => ?_) (fun c_12 => (show False by revert c_12; decide).elim)
          exact hj_53 (H, locs, ls, a1, (f5 (a1 : Int32).toNatClampNeg), v3) ⟨lv_sub hl [2, 3, 1] rfl, hS, hD.sub (ws' := [(h0, .inr (3, [.ref qf0, .int v1, .int v2, .int v3, .ref qf4, .ref qf5, .ref qf6, .int v7, .int v8, .int v9, .int v10, .ref qf11, .int v12, .ref qf13])), (qf5, .inl (cf5, 256, .inl f5)), (qf4, .inl (cf4, 256, .inl f4)), (qf0, .inl (cf0, nb, .inl f0)), (qf6, .inl (cf6, 256, .inl f6))]) [0, 2, 1, 4, 3] (by decide) rfl, hP.sub (ws' := [(h0, .inr (3, [.ref qf0, .int v1, .int v2, .int v3, .ref qf4, .ref qf5, .ref qf6, .int v7, .int v8, .int v9, .int v10, .ref qf11, .int v12, .ref qf13])), (qf5, .inl (cf5, 256, .inl f5)), (qf4, .inl (cf4, 256, .inl f4)), (qf0, .inl (cf0, nb, .inl f0)), (qf6, .inl (cf6, 256, .inl f6))]) [0, 2, 1, 4, 3] rfl, hsp⟩
    · rw [if_neg (by decide)] at hsp
      refine lv_if_ne (tgt := 53) hx hb dX3_checkConstant_29 (by decide) (fun c_13 => ?_) (fun c_13 => (show False by revert c_13; decide).elim)
      exact hj_53 (H, locs, ls, a1, (f5 (a1 : Int32).toNatClampNeg), v3) ⟨lv_sub hl [2, 3, 1] rfl, hS, hD.sub (ws' := [(h0, .inr (3, [.ref qf0, .int v1, .int v2, .int v3, .ref qf4, .ref qf5, .ref qf6, .int v7, .int v8, .int v9, .int v10, .ref qf11, .int v12, .ref qf13])), (qf5, .inl (cf5, 256, .inl f5)), (qf4, .inl (cf4, 256, .inl f4)), (qf0, .inl (cf0, nb, .inl f0)), (qf6, .inl (cf6, 256, .inl f6))]) [0, 2, 1, 4, 3] (by decide) rfl, hP.sub (ws' := [(h0, .inr (3, [.ref qf0, .int v1, .int v2, .int v3, .ref qf4, .ref qf5, .ref qf6, .int v7, .int v8, .int v9, .int v10, .ref qf11, .int v12, .ref qf13])), (qf5, .inl (cf5, 256, .inl f5)), (qf4, .inl (cf4, 256, .inl f4)), (qf0, .inl (cf0, nb, .inl f0)), (qf6, .inl (cf6, 256, .inl f6))]) [0, 2, 1, 4, 3] rfl, hsp⟩
def jn_v9_scanToken_110 (nf : Nat) (a2 : Int32) (a3 : Int32) (v3 : Int32) (v9 : Int32) (na1 : Nat) (fa1 : Nat → Int32) (f0 : Nat → Int32) (f1 : Nat → Int32) (f2 : Nat → Int32) (f7 : Nat → Int32) (f5 : Nat → Int32) (f4 : Nat → Int32) (f6 : Nat → Int32)  (l3_110 : Int32) (s0_110 : Int32) (g0_110 : Nat → Int32) (g1_110 : Nat → Int32) (g2_110 : Nat → Int32) (g4_110 : Nat → Int32) (g5_110 : Nat → Int32) (g6_110 : Nat → Int32) (g7_110 : Nat → Int32) (x3_110 : Int32) (x9_110 : Int32) : Option (Int32 × (Nat → Int32) × (Nat → Int32) × (Nat → Int32) × (Nat → Int32) × (Nat → Int32) × (Nat → Int32) × (Nat → Int32) × Int32 × Int32) := (if s0_110 = 0 then ((sp_t9_signLength nf s0_110).bind (fun p1 => (some (p1, g0_110, g1_110, g2_110, g4_110, g5_110, g6_110, g7_110, x3_110, x9_110)))) else ((sp_t9_addToken nf s0_110 l3_110 0 x3_110 g0_110 g1_110 g2_110).bind (fun p2 => ((sp_t9_signLength nf s0_110).bind (fun p3 => (some (p3, p2.1, p2.2.1, p2.2.2.1, g4_110, g5_110, g6_110, g7_110, p2.2.2.2, x9_110)))))))
def jn_v9_scanToken_103 (nf : Nat) (a2 : Int32) (a3 : Int32) (v3 : Int32) (v9 : Int32) (na1 : Nat) (fa1 : Nat → Int32) (f0 : Nat → Int32) (f1 : Nat → Int32) (f2 : Nat → Int32) (f7 : Nat → Int32) (f5 : Nat → Int32) (f4 : Nat → Int32) (f6 : Nat → Int32)  (l3_103 : Int32) (l4_103 : Int32) (l5_103 : Int32) (g0_103 : Nat → Int32) (g1_103 : Nat → Int32) (g2_103 : Nat → Int32) (g4_103 : Nat → Int32) (g5_103 : Nat → Int32) (g6_103 : Nat → Int32) (g7_103 : Nat → Int32) (x3_103 : Int32) (x9_103 : Int32) : Option (Int32 × (Nat → Int32) × (Nat → Int32) × (Nat → Int32) × (Nat → Int32) × (Nat → Int32) × (Nat → Int32) × (Nat → Int32) × Int32 × Int32) := ((sp_t9_signOf nf l4_103 l5_103).bind (fun p1 => (jn_v9_scanToken_110 nf a2 a3 v3 v9 na1 fa1 f0 f1 f2 f7 f5 f4 f6  l3_103 p1 g0_103 g1_103 g2_103 g4_103 g5_103 g6_103 g7_103 x3_103 x9_103)))
def jn_v9_scanToken_84 (nf : Nat) (a2 : Int32) (a3 : Int32) (v3 : Int32) (v9 : Int32) (na1 : Nat) (fa1 : Nat → Int32) (f0 : Nat → Int32) (f1 : Nat → Int32) (f2 : Nat → Int32) (f7 : Nat → Int32) (f5 : Nat → Int32) (f4 : Nat → Int32) (f6 : Nat → Int32)  (l3_84 : Int32) (l4_84 : Int32) (l5_84 : Int32) (s0_84 : Int32) (g0_84 : Nat → Int32) (g1_84 : Nat → Int32) (g2_84 : Nat → Int32) (g4_84 : Nat → Int32) (g5_84 : Nat → Int32) (g6_84 : Nat → Int32) (g7_84 : Nat → Int32) (x3_84 : Int32) (x9_84 : Int32) : Option (Int32 × (Nat → Int32) × (Nat → Int32) × (Nat → Int32) × (Nat → Int32) × (Nat → Int32) × (Nat → Int32) × (Nat → Int32) × Int32 × Int32) := (if l4_84 = 62 then (if s0_84 = 0 then (jn_v9_scanToken_103 nf a2 a3 v3 v9 na1 fa1 f0 f1 f2 f7 f5 f4 f6  l3_84 l4_84 l5_84 g0_84 g1_84 g2_84 g4_84 g5_84 g6_84 g7_84 x3_84 x9_84) else (jn_v9_scanToken_110 nf a2 a3 v3 v9 na1 fa1 f0 f1 f2 f7 f5 f4 f6  l3_84 60 g0_84 g1_84 g2_84 g4_84 g5_84 g6_84 g7_84 x3_84 x9_84)) else (jn_v9_scanToken_103 nf a2 a3 v3 v9 na1 fa1 f0 f1 f2 f7 f5 f4 f6  l3_84 l4_84 l5_84 g0_84 g1_84 g2_84 g4_84 g5_84 g6_84 g7_84 x3_84 x9_84))
def jn_v9_scanToken_83 (nf : Nat) (a2 : Int32) (a3 : Int32) (v3 : Int32) (v9 : Int32) (na1 : Nat) (fa1 : Nat → Int32) (f0 : Nat → Int32) (f1 : Nat → Int32) (f2 : Nat → Int32) (f7 : Nat → Int32) (f5 : Nat → Int32) (f4 : Nat → Int32) (f6 : Nat → Int32)  (l3_83 : Int32) (l4_83 : Int32) (l5_83 : Int32) (g0_83 : Nat → Int32) (g1_83 : Nat → Int32) (g2_83 : Nat → Int32) (g4_83 : Nat → Int32) (g5_83 : Nat → Int32) (g6_83 : Nat → Int32) (g7_83 : Nat → Int32) (x3_83 : Int32) (x9_83 : Int32) : Option (Int32 × (Nat → Int32) × (Nat → Int32) × (Nat → Int32) × (Nat → Int32) × (Nat → Int32) × (Nat → Int32) × (Nat → Int32) × Int32 × Int32) := (jn_v9_scanToken_84 nf a2 a3 v3 v9 na1 fa1 f0 f1 f2 f7 f5 f4 f6  l3_83 l4_83 l5_83 0 g0_83 g1_83 g2_83 g4_83 g5_83 g6_83 g7_83 x3_83 x9_83)
def jn_v9_scanToken_53 (nf : Nat) (a2 : Int32) (a3 : Int32) (v3 : Int32) (v9 : Int32) (na1 : Nat) (fa1 : Nat → Int32) (f0 : Nat → Int32) (f1 : Nat → Int32) (f2 : Nat → Int32) (f7 : Nat → Int32) (f5 : Nat → Int32) (f4 : Nat → Int32) (f6 : Nat → Int32)  (l2_53 : Int32) (l3_53 : Int32) (l4_53 : Int32) (s0_53 : Int32) (g0_53 : Nat → Int32) (g1_53 : Nat → Int32) (g2_53 : Nat → Int32) (g4_53 : Nat → Int32) (g5_53 : Nat → Int32) (g6_53 : Nat → Int32) (g7_53 : Nat → Int32) (x3_53 : Int32) (x9_53 : Int32) : Option (Int32 × (Nat → Int32) × (Nat → Int32) × (Nat → Int32) × (Nat → Int32) × (Nat → Int32) × (Nat → Int32) × (Nat → Int32) × Int32 × Int32) := (if s0_53 = 62 then (if l2_53 ≤ (l3_53 + 2) then (jn_v9_scanToken_83 nf a2 a3 v3 v9 na1 fa1 f0 f1 f2 f7 f5 f4 f6  l3_53 l4_53 s0_53 g0_53 g1_53 g2_53 g4_53 g5_53 g6_53 g7_53 x3_53 x9_53) else (if (l3_53 + 2) < 0 then none else if na1 ≤ ((l3_53 + 2) : Int32).toNatClampNeg then none else (if (fa1 ((l3_53 + 2) : Int32).toNatClampNeg) = 62 then (jn_v9_scanToken_84 nf a2 a3 v3 v9 na1 fa1 f0 f1 f2 f7 f5 f4 f6  l3_53 l4_53 s0_53 1 g0_53 g1_53 g2_53 g4_53 g5_53 g6_53 g7_53 x3_53 x9_53) else (jn_v9_scanToken_83 nf a2 a3 v3 v9 na1 fa1 f0 f1 f2 f7 f5 f4 f6  l3_53 l4_53 s0_53 g0_53 g1_53 g2_53 g4_53 g5_53 g6_53 g7_53 x3_53 x9_53)))) else (jn_v9_scanToken_83 nf a2 a3 v3 v9 na1 fa1 f0 f1 f2 f7 f5 f4 f6  l3_53 l4_53 s0_53 g0_53 g1_53 g2_53 g4_53 g5_53 g6_53 g7_53 x3_53 x9_53))
def sp_v9_scanToken (nf : Nat) (a2 : Int32) (a3 : Int32) (v3 : Int32) (v9 : Int32) (na1 : Nat) (fa1 : Nat → Int32) (f0 : Nat → Int32) (f1 : Nat → Int32) (f2 : Nat → Int32) (f7 : Nat → Int32) (f5 : Nat → Int32) (f4 : Nat → Int32) (f6 : Nat → Int32) : Option (Int32 × (Nat → Int32) × (Nat → Int32) × (Nat → Int32) × (Nat → Int32) × (Nat → Int32) × (Nat → Int32) × (Nat → Int32) × Int32 × Int32) := (if a3 < 0 then none else if na1 ≤ (a3 : Int32).toNatClampNeg then none else ((sp_t9_isLetter nf (fa1 (a3 : Int32).toNatClampNeg)).bind (fun p1 => (if p1 = 0 then ((sp_t9_isDigit nf (fa1 (a3 : Int32).toNatClampNeg)).bind (fun p2 => (if p2 = 0 then (if a2 ≤ (a3 + 1) then (jn_v9_scanToken_53 nf a2 a3 v3 v9 na1 fa1 f0 f1 f2 f7 f5 f4 f6  a2 a3 (fa1 (a3 : Int32).toNatClampNeg) 0 f0 f1 f2 f4 f5 f6 f7 v3 v9) else (if (a3 + 1) < 0 then none else if na1 ≤ ((a3 + 1) : Int32).toNatClampNeg then none else (jn_v9_scanToken_53 nf a2 a3 v3 v9 na1 fa1 f0 f1 f2 f7 f5 f4 f6  a2 a3 (fa1 (a3 : Int32).toNatClampNeg) (fa1 ((a3 + 1) : Int32).toNatClampNeg) f0 f1 f2 f4 f5 f6 f7 v3 v9))) else ((sp_v9_scanNumber nf a2 a3 v3 na1 fa1 f0 f1 f2).bind (fun p3 => (some (p3.1, p3.2.1, p3.2.2.1, p3.2.2.2.1, f4, f5, f6, f7, p3.2.2.2.2, v9))))))) else ((sp_v9_scanWord nf a2 a3 v3 v9 na1 fa1 f7 f5 f4 f6 f0 f1 f2).bind (fun p4 => (some (p4.1, p4.2.1, p4.2.2.1, p4.2.2.2.1, p4.2.2.2.2.1, p4.2.2.2.2.2.1, p4.2.2.2.2.2.2.1, p4.2.2.2.2.2.2.2.1, p4.2.2.2.2.2.2.2.2.1, p4.2.2.2.2.2.2.2.2.2))))))))
