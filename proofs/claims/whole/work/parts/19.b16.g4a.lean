set_option maxHeartbeats 4000000 in
set_option maxRecDepth 100000 in
/-- ClassMill$Image.isFieldKind -/
theorem v3_isFieldKind (l : Launch) (dC : Nat → ClassId) (dI : Nat → Nat → Nat) (sz : Nat) (h0 : Nat) (a1 : Int32) (qf0 : Nat) (v1 : Int32) (v2 : Int32) (v3 : Int32) (qf4 : Nat) (qf5 : Nat) (qf6 : Nat) (v7 : Int32) (v8 : Int32) (v9 : Int32) (v10 : Int32) (qf11 : Nat) (v12 : Int32) (qf13 : Nat) (cf4 : ClassId) (f4 : (Nat → Int32)) (cf5 : ClassId) (f5 : (Nat → Int32)) (cf6 : ClassId) (f6 : (Nat → Int32)) (cf0 : ClassId) (nb : Nat) (f0 : (Nat → Int32)) (nf : Nat) (r0 : Int32) (hsp : sp_v3_isFieldKind nf a1 v1 v7 f4 f5 f6 nb f0 = some r0) : Met l yX3_isFieldKind (.code yX3_isFieldKind cX3_isFieldKind 2 (some .boolean) :: VS_h7) ({ frames := 2, cells := 0, slots := 0, locals := 51 }) (va_Pc [.ref h0, .int a1] (fun U => U.heap.size = sz ∧ va_P (dC, dI) vwCl [(h0, .inr (3, [.ref qf0, .int v1, .int v2, .int v3, .ref qf4, .ref qf5, .ref qf6, .int v7, .int v8, .int v9, .int v10, .ref qf11, .int v12, .ref qf13])), (qf4, .inl (cf4, 256, .inl f4)), (qf5, .inl (cf5, 256, .inl f5)), (qf6, .inl (cf6, 256, .inl f6)), (qf0, .inl (cf0, nb, .inl f0))] U.heap ∧ va_K (dC, dI) vwCl [(cf4, .int), (cf5, .int), (cf6, .int), (cf0, .byte)] U ∧ va_D (fun _ => True) [(h0, .inr (3, [.ref qf0, .int v1, .int v2, .int v3, .ref qf4, .ref qf5, .ref qf6, .int v7, .int v8, .int v9, .int v10, .ref qf11, .int v12, .ref qf13])), (qf4, .inl (cf4, 256, .inl f4)), (qf5, .inl (cf5, 256, .inl f5)), (qf6, .inl (cf6, 256, .inl f6)), (qf0, .inl (cf0, nb, .inl f0))])) (va_Qi (fun (r : Int32) (u : Unit) => match u with | () => r0 = r ∧ (r0 = 0 ∨ r0 = 1)) (fun (u : Unit) (t : State) => match u with | () => va_P (dC, dI) vwCl [(h0, .inr (3, [.ref qf0, .int v1, .int v2, .int v3, .ref qf4, .ref qf5, .ref qf6, .int v7, .int v8, .int v9, .int v10, .ref qf11, .int v12, .ref qf13])), (qf4, .inl (cf4, 256, .inl f4)), (qf5, .inl (cf5, 256, .inl f5)), (qf6, .inl (cf6, 256, .inl f6)), (qf0, .inl (cf0, nb, .inl f0))] t.heap ∧ va_K (dC, dI) vwCl [(cf4, .int), (cf5, .int), (cf6, .int), (cf0, .byte)] t ∧ va_D (va_A [(h0, .inr (3, [.ref qf0, .int v1, .int v2, .int v3, .ref qf4, .ref qf5, .ref qf6, .int v7, .int v8, .int v9, .int v10, .ref qf11, .int v12, .ref qf13])), (qf4, .inl (cf4, 256, .inl f4)), (qf5, .inl (cf5, 256, .inl f5)), (qf6, .inl (cf6, 256, .inl f6)), (qf0, .inl (cf0, nb, .inl f0))] sz) [(h0, .inr (3, [.ref qf0, .int v1, .int v2, .int v3, .ref qf4, .ref qf5, .ref qf6, .int v7, .int v8, .int v9, .int v10, .ref qf11, .int v12, .ref qf13])), (qf4, .inl (cf4, 256, .inl f4)), (qf5, .inl (cf5, 256, .inl f5)), (qf6, .inl (cf6, 256, .inl f6)), (qf0, .inl (cf0, nb, .inl f0))]) (va_A [(h0, .inr (3, [.ref qf0, .int v1, .int v2, .int v3, .ref qf4, .ref qf5, .ref qf6, .int v7, .int v8, .int v9, .int v10, .ref qf11, .int v12, .ref qf13])), (qf4, .inl (cf4, 256, .inl f4)), (qf5, .inl (cf5, 256, .inl f5)), (qf6, .inl (cf6, 256, .inl f6)), (qf0, .inl (cf0, nb, .inl f0))] sz)) 0 0 (va_A [(h0, .inr (3, [.ref qf0, .int v1, .int v2, .int v3, .ref qf4, .ref qf5, .ref qf6, .int v7, .int v8, .int v9, .int v10, .ref qf11, .int v12, .ref qf13])), (qf4, .inl (cf4, 256, .inl f4)), (qf5, .inl (cf5, 256, .inl f5)), (qf6, .inl (cf6, 256, .inl f6)), (qf0, .inl (cf0, nb, .inl f0))] sz) := by
  refine Met.ofW (cc := cX3_isFieldKind) (maxL := 2) (ret := (some .boolean)) (by decide) rfl ?_
  intro p e s m args below meth c s₁ B hml hv
  obtain ⟨rfl, hsz, hP, hK, hD0⟩ := hv
  have hx := B.exec
  have hb := B.bytes
  have hr := B.returns
  have hts := atoms_spec (ws := (.code yX3_isFieldKind cX3_isFieldKind 2 (some .boolean) :: VS_h7)) B.pre
  replace hts := fun w (h : w ∈ VS_h7) => hts w (List.mem_cons_of_mem _ h)
  have hown : s.vm.findClass RX3 = some m.cls := findClass_of_methodNamed B.named
  have hlocks := B.notSynchronized
  subst hsz
  have hD := hD0.self (sz := s.heap.size)
  generalize hAe : va_A [(h0, .inr (3, [.ref qf0, .int v1, .int v2, .int v3, .ref qf4, .ref qf5, .ref qf6, .int v7, .int v8, .int v9, .int v10, .ref qf11, .int v12, .ref qf13])), (qf4, .inl (cf4, 256, .inl f4)), (qf5, .inl (cf5, 256, .inl f5)), (qf6, .inl (cf6, 256, .inl f6)), (qf0, .inl (cf0, nb, .inl f0))] s.heap.size = A at hD  ⊢
  have hA : ∀ q : Nat, s.heap.size ≤ q → A q := fun q h => by rw [← hAe]; exact Or.inr h
  have hP : va_P (dC, dI) vwCl [(h0, .inr (3, [.ref qf0, .int v1, .int v2, .int v3, .ref qf4, .ref qf5, .ref qf6, .int v7, .int v8, .int v9, .int v10, .ref qf11, .int v12, .ref qf13])), (qf4, .inl (cf4, 256, .inl f4)), (qf5, .inl (cf5, 256, .inl f5)), (qf6, .inl (cf6, 256, .inl f6)), (qf0, .inl (cf0, nb, .inl f0))] s.heap := hP
  have hl := lv_entry ([.ref h0, .int a1]) (n := 2) (Nat.le_of_ble_eq_true rfl)
  rw [lg_entry_eq]
  generalize (lg_sl ([.ref h0, .int a1]) ++ List.replicate (2 - (lg_sl ([.ref h0, .int a1])).length) Slot.unset).toArray = ls at hl ⊢
  have hl : lv_has ls 2 [(0, .ref h0), (1, .int a1)] := hl
  obtain ⟨H, hH⟩ : ∃ H : Heap, s.heap = H := ⟨_, rfl⟩
  rw [hH] at hP ⊢
  have hS : va_S A s.heap H [] := by rw [← hH]; exact va_S.rf
  obtain ⟨locs, hlo⟩ : ∃ locs : List Loc, locs = [] := ⟨_, rfl⟩
  rw [← hlo] at hS ⊢
  unfold sp_v3_isFieldKind at hsp
  refine lv_aload_n hx hb dX3_isFieldKind_0 rfl (lv_at hl 0 rfl) ?_
  refine lv_iload_n hx hb dX3_isFieldKind_1 rfl (lv_at hl 1 rfl) ?_
  obtain ⟨u1_0, hu_1, hsp⟩ := ox_bind hsp
  try dsimp only at hsp
  have hPc := hP.sub (ws' := [(h0, .inr (3, [.ref qf0, .int v1, .int v2, .int v3, .ref qf4, .ref qf5, .ref qf6, .int v7, .int v8, .int v9, .int v10, .ref qf11, .int v12, .ref qf13])), (qf4, .inl (cf4, 256, .inl f4))]) [0, 1] rfl
  have hDc := hD.sub (ws' := [(h0, .inr (3, [.ref qf0, .int v1, .int v2, .int v3, .ref qf4, .ref qf5, .ref qf6, .int v7, .int v8, .int v9, .int v10, .ref qf11, .int v12, .ref qf13])), (qf4, .inl (cf4, 256, .inl f4))]) [0, 1] (by decide) rfl
  have hKc := hK.sub (tys' := [(cf4, .int)]) [0] rfl
  have hFc := va_free (wc := [(h0, .inr (3, [.ref qf0, .int v1, .int v2, .int v3, .ref qf4, .ref qf5, .ref qf6, .int v7, .int v8, .int v9, .int v10, .ref qf11, .int v12, .ref qf13])), (qf4, .inl (cf4, 256, .inl f4))]) hD hS hA [0, 1] rfl
  refine va_calli (va_runV (As := [.int a1]) (rest := []) ⟨hx, hb, hml, hown, hts⟩ (ti_tagOf l dC dI H.size h0 a1 qf0 v1 v2 v3 qf4 qf5 qf6 v7 v8 v9 v10 qf11 v12 qf13 cf4 f4 nf u1_0 hu_1) (cwV 1 hts gv_h7_34 rfl rfl rfl (by decide +kernel) ⟨Nat.le_of_ble_eq_true rfl, Nat.le_of_ble_eq_true rfl⟩) ⟨fun a U g mk q => by obtain ⟨q0, q1, qP, qK, qD⟩ := q; exact ⟨q0, q1, qP, va_K.moved (u := U) (U := U.calling g mk a) (Vm.Alike.refl U.vm) qK, qD⟩, va_recv hKc hPc (ci := 3) (q0 := 0) rfl rfl, fun U hU hW => ⟨rfl, by rw [hU], by rw [hU]; exact hPc, va_K.moved hW.alike hKc, hDc.weaken (fun _ _ _ _ => trivial)⟩⟩ rfl rfl hl.1 rfl (lv_room (Nat.le_of_ble_eq_true rfl)) dX3_isFieldKind_2 ⟨Nat.le_of_ble_eq_true rfl, Nat.le_of_ble_eq_true rfl⟩) hS (fun q _ h => hFc q h) hFc ?_
  clear hS
  intro r_1 u t H1 locs ht hvm hw hB hz1 hk1 hS
  obtain ⟨⟩ := u
  obtain ⟨hP1, hK1, hD1⟩ := hB
  rw [ht] at hP1
  have hK1 := va_K.moved hvm.symm hK1
  try dsimp only at hw
  have hPD := va_join (wr := [(qf5, .inl (cf5, 256, .inl f5)), (qf6, .inl (cf6, 256, .inl f6)), (qf0, .inl (cf0, nb, .inl f0))]) (w1 := [(h0, .inr (3, [.ref qf0, .int v1, .int v2, .int v3, .ref qf4, .ref qf5, .ref qf6, .int v7, .int v8, .int v9, .int v10, .ref qf11, .int v12, .ref qf13])), (qf4, .inl (cf4, 256, .inl f4))]) hP hD [0, 1] [2, 3, 4] rfl rfl (by decide) (by decide) hk1 hFc hP1 hD1
  clear hP hD
  obtain ⟨hP, hD⟩ := hPD
  replace hK := (hK.sub (tys' := [(cf5, .int), (cf6, .int), (cf0, .byte)]) [1, 2, 3] rfl).app hK1
  clear hPc hDc hKc hFc hP1 hK1 hD1 hz1 hk1 ht hvm
  generalize H1 = H at hP hS ⊢
  replace hP : va_P (dC, dI) vwCl [(qf5, .inl (cf5, 256, .inl f5)), (qf6, .inl (cf6, 256, .inl f6)), (qf0, .inl (cf0, nb, .inl f0)), (h0, .inr (3, [.ref qf0, .int v1, .int v2, .int v3, .ref qf4, .ref qf5, .ref qf6, .int v7, .int v8, .int v9, .int v10, .ref qf11, .int v12, .ref qf13])), (qf4, .inl (cf4, 256, .inl f4))] H := hP
  replace hD : va_D A [(qf5, .inl (cf5, 256, .inl f5)), (qf6, .inl (cf6, 256, .inl f6)), (qf0, .inl (cf0, nb, .inl f0)), (h0, .inr (3, [.ref qf0, .int v1, .int v2, .int v3, .ref qf4, .ref qf5, .ref qf6, .int v7, .int v8, .int v9, .int v10, .ref qf11, .int v12, .ref qf13])), (qf4, .inl (cf4, 256, .inl f4))] := hD
  replace hK : va_K (dC, dI) vwCl [(cf5, .int), (cf6, .int), (cf0, .byte), (cf4, .int)] s := hK
  obtain rfl := hw
  refine lv_iconst (v := 1) hx hb dX3_isFieldKind_5 (by decide) ?_
  refine lv_icmp_ne (tgt := 38) hx hb dX3_isFieldKind_6 (by decide) (fun c_2 => ?_) (fun c_2 => ?_)
  · rw [if_neg c_2] at hsp
    refine lv_iconst (v := 0) hx hb dX3_isFieldKind_38 (by decide) ?_
    have hr0 := Option.some.inj hsp
    clear hsp
    subst hr0
    have hP9 := hP.sub (ws' := [(h0, .inr (3, [.ref qf0, .int v1, .int v2, .int v3, .ref qf4, .ref qf5, .ref qf6, .int v7, .int v8, .int v9, .int v10, .ref qf11, .int v12, .ref qf13])), (qf4, .inl (cf4, 256, .inl f4)), (qf5, .inl (cf5, 256, .inl f5)), (qf6, .inl (cf6, 256, .inl f6)), (qf0, .inl (cf0, nb, .inl f0))]) [3, 4, 0, 1, 2] rfl
    have hD9 := hD.sub (ws' := [(h0, .inr (3, [.ref qf0, .int v1, .int v2, .int v3, .ref qf4, .ref qf5, .ref qf6, .int v7, .int v8, .int v9, .int v10, .ref qf11, .int v12, .ref qf13])), (qf4, .inl (cf4, 256, .inl f4)), (qf5, .inl (cf5, 256, .inl f5)), (qf6, .inl (cf6, 256, .inl f6)), (qf0, .inl (cf0, nb, .inl f0))]) [3, 4, 0, 1, 2] (by decide) rfl
    have hK9 := hK.sub (tys' := [(cf4, .int), (cf5, .int), (cf6, .int), (cf0, .byte)]) [3, 0, 1, 2] rfl
    exact W.zret hx hb hr (by decide) (fun t ht hW => ⟨⟨(0), (), rfl, ⟨rfl, Or.inl rfl⟩, by rw [ht]; exact hP9, va_K.moved hW.alike hK9, hD9⟩, hS.F ht⟩) hS.2.2 dX3_isFieldKind_39
  · rw [if_pos c_2] at hsp
    refine lv_aload_n hx hb dX3_isFieldKind_9 rfl (lv_at hl 0 rfl) ?_
    refine lv_aload_n hx hb dX3_isFieldKind_10 rfl (lv_at hl 0 rfl) ?_
    refine va_get (D := (dC, dI)) (ci := 3) (v := .ref qf5) (C := RX3) (T := TX3) (N := 14) hx hb hts uV_h7_X3 hown hK hP 3 rfl rfl 5 (by decide) (hts (.fieldLink RX3 19 "ClassMill$Image" "at" "[I") mw_h7_159) (fun _ h9 => h9) rfl dX3_isFieldKind_11 ?_
    refine lv_iload_n hx hb dX3_isFieldKind_14 rfl (lv_at hl 1 rfl) ?_
    obtain ⟨hi_3, hsp⟩ := ox_in hsp
    refine va_iald hx hb hK hP 0 0 rfl rfl (i := a1) hi_3 dX3_isFieldKind_15 ?_
    refine lv_aload_n hx hb dX3_isFieldKind_16 rfl (lv_at hl 0 rfl) ?_
    refine va_get (D := (dC, dI)) (ci := 3) (v := .ref qf6) (C := RX3) (T := TX3) (N := 14) hx hb hts uV_h7_X3 hown hK hP 3 rfl rfl 6 (by decide) (hts (.fieldLink RX3 22 "ClassMill$Image" "textStop" "[I") mw_h7_161) (fun _ h9 => h9) rfl dX3_isFieldKind_17 ?_
    refine lv_iload_n hx hb dX3_isFieldKind_20 rfl (lv_at hl 1 rfl) ?_
    obtain ⟨hi_4, hsp⟩ := ox_in hsp
    refine va_iald hx hb hK hP 1 1 rfl rfl (i := a1) hi_4 dX3_isFieldKind_21 ?_
    obtain ⟨u2_0, hu_2, hsp⟩ := ox_bind hsp
    try dsimp only at hsp
    have hPc := hP.sub (ws' := [(h0, .inr (3, [.ref qf0, .int v1, .int v2, .int v3, .ref qf4, .ref qf5, .ref qf6, .int v7, .int v8, .int v9, .int v10, .ref qf11, .int v12, .ref qf13])), (qf0, .inl (cf0, nb, .inl f0))]) [3, 2] rfl
    have hDc := hD.sub (ws' := [(h0, .inr (3, [.ref qf0, .int v1, .int v2, .int v3, .ref qf4, .ref qf5, .ref qf6, .int v7, .int v8, .int v9, .int v10, .ref qf11, .int v12, .ref qf13])), (qf0, .inl (cf0, nb, .inl f0))]) [3, 2] (by decide) rfl
    have hKc := hK.sub (tys' := [(cf0, .byte)]) [2] rfl
    have hFc := va_free (wc := [(h0, .inr (3, [.ref qf0, .int v1, .int v2, .int v3, .ref qf4, .ref qf5, .ref qf6, .int v7, .int v8, .int v9, .int v10, .ref qf11, .int v12, .ref qf13])), (qf0, .inl (cf0, nb, .inl f0))]) hD hS hA [3, 2] rfl
    refine va_calli (va_runV (As := [.int (f5 (a1 : Int32).toNatClampNeg), .int (f6 (a1 : Int32).toNatClampNeg)]) (rest := []) ⟨hx, hb, hml, hown, hts⟩ (v3_behindKind l dC dI H.size h0 ((f5 (a1 : Int32).toNatClampNeg)) ((f6 (a1 : Int32).toNatClampNeg)) qf0 v1 v2 v3 qf4 qf5 qf6 v7 v8 v9 v10 qf11 v12 qf13 cf0 nb f0 nf u2_0 hu_2) (cwV 2 hts gv_h7_37 rfl rfl rfl (by decide +kernel) ⟨Nat.le_of_ble_eq_true rfl, Nat.le_of_ble_eq_true rfl⟩) ⟨fun a U g mk q => by obtain ⟨q0, q1, qP, qK, qD⟩ := q; exact ⟨q0, q1, qP, va_K.moved (u := U) (U := U.calling g mk a) (Vm.Alike.refl U.vm) qK, qD⟩, va_recv hKc hPc (ci := 3) (q0 := 0) rfl rfl, fun U hU hW => ⟨rfl, by rw [hU], by rw [hU]; exact hPc, va_K.moved hW.alike hKc, hDc.weaken (fun _ _ _ _ => trivial)⟩⟩ rfl rfl hl.1 rfl (lv_room (Nat.le_of_ble_eq_true rfl)) dX3_isFieldKind_22 ⟨Nat.le_of_ble_eq_true rfl, Nat.le_of_ble_eq_true rfl⟩) hS (fun q _ h => hFc q h) hFc ?_
    clear hS
    intro r_5 u t H1 locs ht hvm hw hB hz1 hk1 hS
    obtain ⟨⟩ := u
    obtain ⟨hP1, hK1, hD1⟩ := hB
    rw [ht] at hP1
    have hK1 := va_K.moved hvm.symm hK1
    try dsimp only at hw
    have hPD := va_join (wr := [(qf5, .inl (cf5, 256, .inl f5)), (qf6, .inl (cf6, 256, .inl f6)), (qf4, .inl (cf4, 256, .inl f4))]) (w1 := [(h0, .inr (3, [.ref qf0, .int v1, .int v2, .int v3, .ref qf4, .ref qf5, .ref qf6, .int v7, .int v8, .int v9, .int v10, .ref qf11, .int v12, .ref qf13])), (qf0, .inl (cf0, nb, .inl f0))]) hP hD [3, 2] [0, 1, 4] rfl rfl (by decide) (by decide) hk1 hFc hP1 hD1
    clear hP hD
    obtain ⟨hP, hD⟩ := hPD
    replace hK := (hK.sub (tys' := [(cf5, .int), (cf6, .int), (cf4, .int)]) [0, 1, 3] rfl).app hK1
    clear hPc hDc hKc hFc hP1 hK1 hD1 hz1 hk1 ht hvm
    generalize H1 = H at hP hS ⊢
    replace hP : va_P (dC, dI) vwCl [(qf5, .inl (cf5, 256, .inl f5)), (qf6, .inl (cf6, 256, .inl f6)), (qf4, .inl (cf4, 256, .inl f4)), (h0, .inr (3, [.ref qf0, .int v1, .int v2, .int v3, .ref qf4, .ref qf5, .ref qf6, .int v7, .int v8, .int v9, .int v10, .ref qf11, .int v12, .ref qf13])), (qf0, .inl (cf0, nb, .inl f0))] H := hP
    replace hD : va_D A [(qf5, .inl (cf5, 256, .inl f5)), (qf6, .inl (cf6, 256, .inl f6)), (qf4, .inl (cf4, 256, .inl f4)), (h0, .inr (3, [.ref qf0, .int v1, .int v2, .int v3, .ref qf4, .ref qf5, .ref qf6, .int v7, .int v8, .int v9, .int v10, .ref qf11, .int v12, .ref qf13])), (qf0, .inl (cf0, nb, .inl f0))] := hD
    replace hK : va_K (dC, dI) vwCl [(cf5, .int), (cf6, .int), (cf4, .int), (cf0, .byte)] s := hK
    obtain rfl := hw
    refine lv_aload_n hx hb dX3_isFieldKind_25 rfl (lv_at hl 0 rfl) ?_
    refine va_get (D := (dC, dI)) (ci := 3) (v := .ref qf6) (C := RX3) (T := TX3) (N := 14) hx hb hts uV_h7_X3 hown hK hP 3 rfl rfl 6 (by decide) (hts (.fieldLink RX3 22 "ClassMill$Image" "textStop" "[I") mw_h7_161) (fun _ h9 => h9) rfl dX3_isFieldKind_26 ?_
    refine lv_iload_n hx hb dX3_isFieldKind_29 rfl (lv_at hl 1 rfl) ?_
    obtain ⟨hi_6, hsp⟩ := ox_in hsp
    refine va_iald hx hb hK hP 1 1 rfl rfl (i := a1) hi_6 dX3_isFieldKind_30 ?_
    refine lv_icmp_ne (tgt := 38) hx hb dX3_isFieldKind_31 (by decide) (fun c_7 => ?_) (fun c_7 => ?_)
    · rw [if_neg c_7] at hsp
      refine lv_iconst (v := 0) hx hb dX3_isFieldKind_38 (by decide) ?_
      have hr0 := Option.some.inj hsp
      clear hsp
      subst hr0
      have hP9 := hP.sub (ws' := [(h0, .inr (3, [.ref qf0, .int v1, .int v2, .int v3, .ref qf4, .ref qf5, .ref qf6, .int v7, .int v8, .int v9, .int v10, .ref qf11, .int v12, .ref qf13])), (qf4, .inl (cf4, 256, .inl f4)), (qf5, .inl (cf5, 256, .inl f5)), (qf6, .inl (cf6, 256, .inl f6)), (qf0, .inl (cf0, nb, .inl f0))]) [3, 2, 0, 1, 4] rfl
      have hD9 := hD.sub (ws' := [(h0, .inr (3, [.ref qf0, .int v1, .int v2, .int v3, .ref qf4, .ref qf5, .ref qf6, .int v7, .int v8, .int v9, .int v10, .ref qf11, .int v12, .ref qf13])), (qf4, .inl (cf4, 256, .inl f4)), (qf5, .inl (cf5, 256, .inl f5)), (qf6, .inl (cf6, 256, .inl f6)), (qf0, .inl (cf0, nb, .inl f0))]) [3, 2, 0, 1, 4] (by decide) rfl
      have hK9 := hK.sub (tys' := [(cf4, .int), (cf5, .int), (cf6, .int), (cf0, .byte)]) [2, 0, 1, 3] rfl
      exact W.zret hx hb hr (by decide) (fun t ht hW => ⟨⟨(0), (), rfl, ⟨rfl, Or.inl rfl⟩, by rw [ht]; exact hP9, va_K.moved hW.alike hK9, hD9⟩, hS.F ht⟩) hS.2.2 dX3_isFieldKind_39
    · rw [if_pos c_7] at hsp
      refine lv_iconst (v := 1) hx hb dX3_isFieldKind_34 (by decide) ?_
      refine lv_goto (tgt := 39) hx hb dX3_isFieldKind_35 (by decide) ?_
      have hr0 := Option.some.inj hsp
      clear hsp
      subst hr0
      have hP9 := hP.sub (ws' := [(h0, .inr (3, [.ref qf0, .int v1, .int v2, .int v3, .ref qf4, .ref qf5, .ref qf6, .int v7, .int v8, .int v9, .int v10, .ref qf11, .int v12, .ref qf13])), (qf4, .inl (cf4, 256, .inl f4)), (qf5, .inl (cf5, 256, .inl f5)), (qf6, .inl (cf6, 256, .inl f6)), (qf0, .inl (cf0, nb, .inl f0))]) [3, 2, 0, 1, 4] rfl
      have hD9 := hD.sub (ws' := [(h0, .inr (3, [.ref qf0, .int v1, .int v2, .int v3, .ref qf4, .ref qf5, .ref qf6, .int v7, .int v8, .int v9, .int v10, .ref qf11, .int v12, .ref qf13])), (qf4, .inl (cf4, 256, .inl f4)), (qf5, .inl (cf5, 256, .inl f5)), (qf6, .inl (cf6, 256, .inl f6)), (qf0, .inl (cf0, nb, .inl f0))]) [3, 2, 0, 1, 4] (by decide) rfl
      have hK9 := hK.sub (tys' := [(cf4, .int), (cf5, .int), (cf6, .int), (cf0, .byte)]) [2, 0, 1, 3] rfl
      exact W.zret hx hb hr (by decide) (fun t ht hW => ⟨⟨(1), (), rfl, ⟨rfl, Or.inr rfl⟩, by rw [ht]; exact hP9, va_K.moved hW.alike hK9, hD9⟩, hS.F ht⟩) hS.2.2 dX3_isFieldKind_39
def jn_v3_readFields_58 (nf : Nat) (v1 : Int32) (v2 : Int32) (v3 : Int32) (v7 : Int32) (v10 : Int32) (nb : Nat) (f0 : Nat → Int32) (f4 : Nat → Int32) (f5 : Nat → Int32) (f6 : Nat → Int32) (f11 : Nat → Int32) (kk_10 : Int32 → Int32 → (Nat → Int32) → Int32 → Int32 → Int32 → Option ((Nat → Int32) × Int32 × Int32 × Int32)) (l1_58 : Int32) (l2_58 : Int32) (l3_58 : Int32) (g11_58 : Nat → Int32) (x10_58 : Int32) (x2_58 : Int32) (x3_58 : Int32) : Option ((Nat → Int32) × Int32 × Int32 × Int32) := (if ((l2_58 * 2) + 1) < 0 then none else if 24 ≤ (((l2_58 * 2) + 1) : Int32).toNatClampNeg then none else (kk_10 l1_58 (l2_58 + 1) (upd g11_58 (((l2_58 * 2) + 1) : Int32).toNatClampNeg l3_58) (x10_58 + 1) x2_58 x3_58))
def lp_v3_readFields_10 (nf n : Nat) (v1 : Int32) (v2 : Int32) (v3 : Int32) (v7 : Int32) (v10 : Int32) (nb : Nat) (f0 : Nat → Int32) (f4 : Nat → Int32) (f5 : Nat → Int32) (f6 : Nat → Int32) (f11 : Nat → Int32)  (l1_10 : Int32) (l2_10 : Int32) (g11_10 : Nat → Int32) (x10_10 : Int32) (x2_10 : Int32) (x3_10 : Int32) : Option ((Nat → Int32) × Int32 × Int32 × Int32) := match n with
  | 0 => none
  | n + 1 => (if l1_10 ≤ l2_10 then (some (g11_10, x10_10, x2_10, x3_10)) else (if x3_10 = (-1) then ((sp_v3_nextName nf v1 x2_10 x3_10 v7 nb f0 f4 f5 f6).bind (fun p1 => (if (l2_10 * 2) < 0 then none else if 24 ≤ ((l2_10 * 2) : Int32).toNatClampNeg then none else ((sp_ti_next nf v1 p1.2.1 p1.2.2 nb f0).bind (fun p2 => ((sp_v3_isFieldKind nf p2.1 v1 v7 f4 f5 f6 nb f0).bind (fun p3 => (if p3 = 0 then ((sp_ti_bad nf (p2.2.1 - 1) p2.2.2).bind (fun p4 => (jn_v3_readFields_58 nf v1 v2 v3 v7 v10 nb f0 f4 f5 f6 f11 (lp_v3_readFields_10 nf n v1 v2 v3 v7 v10 nb f0 f4 f5 f6 f11) l1_10 l2_10 p2.1 (upd g11_10 ((l2_10 * 2) : Int32).toNatClampNeg p1.1) x10_10 p2.2.1 p4))) else (jn_v3_readFields_58 nf v1 v2 v3 v7 v10 nb f0 f4 f5 f6 f11 (lp_v3_readFields_10 nf n v1 v2 v3 v7 v10 nb f0 f4 f5 f6 f11) l1_10 l2_10 p2.1 (upd g11_10 ((l2_10 * 2) : Int32).toNatClampNeg p1.1) x10_10 p2.2.1 p2.2.2))))))))) else (some (g11_10, x10_10, x2_10, x3_10))))
def sp_v3_readFields (nf : Nat) (v1 : Int32) (v2 : Int32) (v3 : Int32) (v7 : Int32) (v10 : Int32) (nb : Nat) (f0 : Nat → Int32) (f4 : Nat → Int32) (f5 : Nat → Int32) (f6 : Nat → Int32) (f11 : Nat → Int32) : Option ((Nat → Int32) × Int32 × Int32 × Int32) := ((sp_ti_nextUpTo nf 0 12 v1 v2 v3 nb f0).bind (fun p1 => (lp_v3_readFields_10 nf nf v1 v2 v3 v7 v10 nb f0 f4 f5 f6 f11  p1.1 0 f11 v10 p1.2.1 p1.2.2)))
set_option maxHeartbeats 4000000 in
set_option maxRecDepth 100000 in
/-- ClassMill$Image.readFields -/
theorem v3_readFields (l : Launch) (dC : Nat → ClassId) (dI : Nat → Nat → Nat) (sz : Nat) (h0 : Nat) (qf0 : Nat) (v1 : Int32) (v2 : Int32) (v3 : Int32) (qf4 : Nat) (qf5 : Nat) (qf6 : Nat) (v7 : Int32) (v8 : Int32) (v9 : Int32) (v10 : Int32) (qf11 : Nat) (v12 : Int32) (qf13 : Nat) (cf0 : ClassId) (nb : Nat) (f0 : (Nat → Int32)) (cf4 : ClassId) (f4 : (Nat → Int32)) (cf5 : ClassId) (f5 : (Nat → Int32)) (cf6 : ClassId) (f6 : (Nat → Int32)) (cf11 : ClassId) (f11 : (Nat → Int32)) (nf : Nat) (o11 : (Nat → Int32)) (w10 : Int32) (w2 : Int32) (w3 : Int32) (hsp : sp_v3_readFields nf v1 v2 v3 v7 v10 nb f0 f4 f5 f6 f11 = some (o11, w10, w2, w3)) : Met l yX3_readFields (.code yX3_readFields cX3_readFields 4 none :: VS_h7) ({ frames := 3, cells := 0, slots := 0, locals := 72 }) (va_Pc [.ref h0] (fun U => U.heap.size = sz ∧ va_P (dC, dI) vwCl [(h0, .inr (3, [.ref qf0, .int v1, .int v2, .int v3, .ref qf4, .ref qf5, .ref qf6, .int v7, .int v8, .int v9, .int v10, .ref qf11, .int v12, .ref qf13])), (qf0, .inl (cf0, nb, .inl f0)), (qf4, .inl (cf4, 256, .inl f4)), (qf5, .inl (cf5, 256, .inl f5)), (qf6, .inl (cf6, 256, .inl f6)), (qf11, .inl (cf11, 24, .inl f11))] U.heap ∧ va_K (dC, dI) vwCl [(cf0, .byte), (cf4, .int), (cf5, .int), (cf6, .int), (cf11, .int)] U ∧ va_D (fun _ => True) [(h0, .inr (3, [.ref qf0, .int v1, .int v2, .int v3, .ref qf4, .ref qf5, .ref qf6, .int v7, .int v8, .int v9, .int v10, .ref qf11, .int v12, .ref qf13])), (qf0, .inl (cf0, nb, .inl f0)), (qf4, .inl (cf4, 256, .inl f4)), (qf5, .inl (cf5, 256, .inl f5)), (qf6, .inl (cf6, 256, .inl f6)), (qf11, .inl (cf11, 24, .inl f11))])) (va_Qv (fun (u : Unit) => match u with | () => True) (fun (u : Unit) (t : State) => match u with | () => va_P (dC, dI) vwCl [(h0, .inr (3, [.ref qf0, .int v1, .int w2, .int w3, .ref qf4, .ref qf5, .ref qf6, .int v7, .int v8, .int v9, .int w10, .ref qf11, .int v12, .ref qf13])), (qf0, .inl (cf0, nb, .inl f0)), (qf4, .inl (cf4, 256, .inl f4)), (qf5, .inl (cf5, 256, .inl f5)), (qf6, .inl (cf6, 256, .inl f6)), (qf11, .inl (cf11, 24, .inl o11))] t.heap ∧ va_K (dC, dI) vwCl [(cf0, .byte), (cf4, .int), (cf5, .int), (cf6, .int), (cf11, .int)] t ∧ va_D (va_A [(h0, .inr (3, [.ref qf0, .int v1, .int v2, .int v3, .ref qf4, .ref qf5, .ref qf6, .int v7, .int v8, .int v9, .int v10, .ref qf11, .int v12, .ref qf13])), (qf0, .inl (cf0, nb, .inl f0)), (qf4, .inl (cf4, 256, .inl f4)), (qf5, .inl (cf5, 256, .inl f5)), (qf6, .inl (cf6, 256, .inl f6)), (qf11, .inl (cf11, 24, .inl f11))] sz) [(h0, .inr (3, [.ref qf0, .int v1, .int w2, .int w3, .ref qf4, .ref qf5, .ref qf6, .int v7, .int v8, .int v9, .int w10, .ref qf11, .int v12, .ref qf13])), (qf0, .inl (cf0, nb, .inl f0)), (qf4, .inl (cf4, 256, .inl f4)), (qf5, .inl (cf5, 256, .inl f5)), (qf6, .inl (cf6, 256, .inl f6)), (qf11, .inl (cf11, 24, .inl o11))]) (va_A [(h0, .inr (3, [.ref qf0, .int v1, .int v2, .int v3, .ref qf4, .ref qf5, .ref qf6, .int v7, .int v8, .int v9, .int v10, .ref qf11, .int v12, .ref qf13])), (qf0, .inl (cf0, nb, .inl f0)), (qf4, .inl (cf4, 256, .inl f4)), (qf5, .inl (cf5, 256, .inl f5)), (qf6, .inl (cf6, 256, .inl f6)), (qf11, .inl (cf11, 24, .inl f11))] sz)) 0 0 (va_A [(h0, .inr (3, [.ref qf0, .int v1, .int v2, .int v3, .ref qf4, .ref qf5, .ref qf6, .int v7, .int v8, .int v9, .int v10, .ref qf11, .int v12, .ref qf13])), (qf0, .inl (cf0, nb, .inl f0)), (qf4, .inl (cf4, 256, .inl f4)), (qf5, .inl (cf5, 256, .inl f5)), (qf6, .inl (cf6, 256, .inl f6)), (qf11, .inl (cf11, 24, .inl f11))] sz) := by
  refine Met.ofW (cc := cX3_readFields) (maxL := 4) (ret := none) (by decide) rfl ?_
  intro p e s m args below meth c s₁ B hml hv
  obtain ⟨rfl, hsz, hP, hK, hD0⟩ := hv
  have hx := B.exec
  have hb := B.bytes
  have hr := B.returns
  have hts := atoms_spec (ws := (.code yX3_readFields cX3_readFields 4 none :: VS_h7)) B.pre
  replace hts := fun w (h : w ∈ VS_h7) => hts w (List.mem_cons_of_mem _ h)
  have hown : s.vm.findClass RX3 = some m.cls := findClass_of_methodNamed B.named
  have hlocks := B.notSynchronized
  subst hsz
  have hD := hD0.self (sz := s.heap.size)
  generalize hAe : va_A [(h0, .inr (3, [.ref qf0, .int v1, .int v2, .int v3, .ref qf4, .ref qf5, .ref qf6, .int v7, .int v8, .int v9, .int v10, .ref qf11, .int v12, .ref qf13])), (qf0, .inl (cf0, nb, .inl f0)), (qf4, .inl (cf4, 256, .inl f4)), (qf5, .inl (cf5, 256, .inl f5)), (qf6, .inl (cf6, 256, .inl f6)), (qf11, .inl (cf11, 24, .inl f11))] s.heap.size = A at hD  ⊢
  have hA : ∀ q : Nat, s.heap.size ≤ q → A q := fun q h => by rw [← hAe]; exact Or.inr h
  have hP : va_P (dC, dI) vwCl [(h0, .inr (3, [.ref qf0, .int v1, .int v2, .int v3, .ref qf4, .ref qf5, .ref qf6, .int v7, .int v8, .int v9, .int v10, .ref qf11, .int v12, .ref qf13])), (qf0, .inl (cf0, nb, .inl f0)), (qf4, .inl (cf4, 256, .inl f4)), (qf5, .inl (cf5, 256, .inl f5)), (qf6, .inl (cf6, 256, .inl f6)), (qf11, .inl (cf11, 24, .inl f11))] s.heap := hP
  have hl := lv_entry ([.ref h0]) (n := 4) (Nat.le_of_ble_eq_true rfl)
  rw [lg_entry_eq]
  generalize (lg_sl ([.ref h0]) ++ List.replicate (4 - (lg_sl ([.ref h0])).length) Slot.unset).toArray = ls at hl ⊢
  have hl : lv_has ls 4 [(0, .ref h0)] := hl
  obtain ⟨H, hH⟩ : ∃ H : Heap, s.heap = H := ⟨_, rfl⟩
  rw [hH] at hP ⊢
  have hS : va_S A s.heap H [] := by rw [← hH]; exact va_S.rf
  obtain ⟨locs, hlo⟩ : ∃ locs : List Loc, locs = [] := ⟨_, rfl⟩
  rw [← hlo] at hS ⊢
  unfold sp_v3_readFields at hsp
  refine lv_aload_n hx hb dX3_readFields_0 rfl (lv_at hl 0 rfl) ?_
  refine lv_iconst (v := 0) hx hb dX3_readFields_1 (by decide) ?_
  refine lv_bipush (v := 12) hx hb dX3_readFields_2 (by decide) ?_
  obtain ⟨⟨u1_0, u1_1, u1_2⟩, hu_1, hsp⟩ := ox_bind hsp
  try dsimp only at hsp
  have hPc := hP.sub (ws' := [(h0, .inr (3, [.ref qf0, .int v1, .int v2, .int v3, .ref qf4, .ref qf5, .ref qf6, .int v7, .int v8, .int v9, .int v10, .ref qf11, .int v12, .ref qf13])), (qf0, .inl (cf0, nb, .inl f0))]) [0, 1] rfl
  have hDc := hD.sub (ws' := [(h0, .inr (3, [.ref qf0, .int v1, .int v2, .int v3, .ref qf4, .ref qf5, .ref qf6, .int v7, .int v8, .int v9, .int v10, .ref qf11, .int v12, .ref qf13])), (qf0, .inl (cf0, nb, .inl f0))]) [0, 1] (by decide) rfl
  have hKc := hK.sub (tys' := [(cf0, .byte)]) [0] rfl
  have hFc := va_free (wc := [(h0, .inr (3, [.ref qf0, .int v1, .int v2, .int v3, .ref qf4, .ref qf5, .ref qf6, .int v7, .int v8, .int v9, .int v10, .ref qf11, .int v12, .ref qf13])), (qf0, .inl (cf0, nb, .inl f0))]) hD hS hA [0, 1] rfl
  refine va_calli (va_runV (As := [.int 0, .int 12]) (rest := []) ⟨hx, hb, hml, hown, hts⟩ (ti_nextUpTo l dC dI H.size h0 0 12 qf0 v1 v2 v3 qf4 qf5 qf6 v7 v8 v9 v10 qf11 v12 qf13 cf0 nb f0 nf u1_0 u1_1 u1_2 hu_1) (cwV 2 hts gv_h7_29 rfl rfl rfl (by decide +kernel) ⟨Nat.le_of_ble_eq_true rfl, Nat.le_of_ble_eq_true rfl⟩) ⟨fun a U g mk q => by obtain ⟨q0, q1, qP, qK, qD⟩ := q; exact ⟨q0, q1, qP, va_K.moved (u := U) (U := U.calling g mk a) (Vm.Alike.refl U.vm) qK, qD⟩, va_recv hKc hPc (ci := 3) (q0 := 0) rfl rfl, fun U hU hW => ⟨rfl, by rw [hU], by rw [hU]; exact hPc, va_K.moved hW.alike hKc, hDc.weaken (fun _ _ _ _ => trivial)⟩⟩ rfl rfl hl.1 rfl (lv_room (Nat.le_of_ble_eq_true rfl)) dX3_readFields_4 ⟨Nat.le_of_ble_eq_true rfl, Nat.le_of_ble_eq_true rfl⟩) hS (fun q _ h => hFc q h) hFc ?_
  clear hS
  intro r_1 u t H1 locs ht hvm hw hB hz1 hk1 hS
  obtain ⟨⟩ := u
  obtain ⟨hP1, hK1, hD1⟩ := hB
  rw [ht] at hP1
  have hK1 := va_K.moved hvm.symm hK1
  try dsimp only at hw
  have hPD := va_join (wr := [(qf4, .inl (cf4, 256, .inl f4)), (qf5, .inl (cf5, 256, .inl f5)), (qf6, .inl (cf6, 256, .inl f6)), (qf11, .inl (cf11, 24, .inl f11))]) (w1 := [(h0, .inr (3, [.ref qf0, .int v1, .int u1_1, .int u1_2, .ref qf4, .ref qf5, .ref qf6, .int v7, .int v8, .int v9, .int v10, .ref qf11, .int v12, .ref qf13])), (qf0, .inl (cf0, nb, .inl f0))]) hP hD [0, 1] [2, 3, 4, 5] rfl rfl (by decide) (by decide) hk1 hFc hP1 hD1
  clear hP hD
  obtain ⟨hP, hD⟩ := hPD
  replace hK := (hK.sub (tys' := [(cf4, .int), (cf5, .int), (cf6, .int), (cf11, .int)]) [1, 2, 3, 4] rfl).app hK1
  clear hPc hDc hKc hFc hP1 hK1 hD1 hz1 hk1 ht hvm
  generalize H1 = H at hP hS ⊢
  replace hP : va_P (dC, dI) vwCl [(qf4, .inl (cf4, 256, .inl f4)), (qf5, .inl (cf5, 256, .inl f5)), (qf6, .inl (cf6, 256, .inl f6)), (qf11, .inl (cf11, 24, .inl f11)), (h0, .inr (3, [.ref qf0, .int v1, .int u1_1, .int u1_2, .ref qf4, .ref qf5, .ref qf6, .int v7, .int v8, .int v9, .int v10, .ref qf11, .int v12, .ref qf13])), (qf0, .inl (cf0, nb, .inl f0))] H := hP
  replace hD : va_D A [(qf4, .inl (cf4, 256, .inl f4)), (qf5, .inl (cf5, 256, .inl f5)), (qf6, .inl (cf6, 256, .inl f6)), (qf11, .inl (cf11, 24, .inl f11)), (h0, .inr (3, [.ref qf0, .int v1, .int u1_1, .int u1_2, .ref qf4, .ref qf5, .ref qf6, .int v7, .int v8, .int v9, .int v10, .ref qf11, .int v12, .ref qf13])), (qf0, .inl (cf0, nb, .inl f0))] := hD
  replace hK : va_K (dC, dI) vwCl [(cf4, .int), (cf5, .int), (cf6, .int), (cf11, .int), (cf0, .byte)] s := hK
  obtain rfl := hw
  refine lv_istore_n (lv' := [(1, .int u1_0), (0, .ref h0)]) hx hb dX3_readFields_7 rfl hl (by decide) rfl (fun ls hl => ?_)
  refine lv_iconst (v := 0) hx hb dX3_readFields_8 (by decide) ?_
  refine lv_istore_n (lv' := [(2, .int 0), (1, .int u1_0), (0, .ref h0)]) hx hb dX3_readFields_9 rfl hl (by decide) rfl (fun ls hl => ?_)
  replace hl : lv_has ls 4 [(2, .int 0), (1, .int u1_0), (0, .ref h0)] := lv_sub hl [0, 1, 2] rfl
  replace hP := hP.sub (ws' := [(h0, .inr (3, [.ref qf0, .int v1, .int u1_1, .int u1_2, .ref qf4, .ref qf5, .ref qf6, .int v7, .int v8, .int v9, .int v10, .ref qf11, .int v12, .ref qf13])), (qf0, .inl (cf0, nb, .inl f0)), (qf4, .inl (cf4, 256, .inl f4)), (qf5, .inl (cf5, 256, .inl f5)), (qf6, .inl (cf6, 256, .inl f6)), (qf11, .inl (cf11, 24, .inl f11))]) [4, 5, 0, 1, 2, 3] rfl
  replace hD := hD.sub (ws' := [(h0, .inr (3, [.ref qf0, .int v1, .int u1_1, .int u1_2, .ref qf4, .ref qf5, .ref qf6, .int v7, .int v8, .int v9, .int v10, .ref qf11, .int v12, .ref qf13])), (qf0, .inl (cf0, nb, .inl f0)), (qf4, .inl (cf4, 256, .inl f4)), (qf5, .inl (cf5, 256, .inl f5)), (qf6, .inl (cf6, 256, .inl f6)), (qf11, .inl (cf11, 24, .inl f11))]) [4, 5, 0, 1, 2, 3] (by decide) rfl
  replace hK := hK.sub (tys' := [(cf0, .byte), (cf4, .int), (cf5, .int), (cf6, .int), (cf11, .int)]) [4, 0, 1, 2, 3] rfl
  obtain ⟨n_10, hn_10⟩ : ∃ z : Nat, z = nf := ⟨_, rfl⟩
  obtain ⟨l1_10, el1_10⟩ : ∃ z : Int32, z = u1_0 := ⟨_, rfl⟩
  obtain ⟨l2_10, el2_10⟩ : ∃ z : Int32, z = 0 := ⟨_, rfl⟩
  obtain ⟨g11_10, eg11_10⟩ : ∃ z : Nat → Int32, z = f11 := ⟨_, rfl⟩
  obtain ⟨x10_10, ex10_10⟩ : ∃ z : Int32, z = v10 := ⟨_, rfl⟩
  obtain ⟨x2_10, ex2_10⟩ : ∃ z : Int32, z = u1_1 := ⟨_, rfl⟩
  obtain ⟨x3_10, ex3_10⟩ : ∃ z : Int32, z = u1_2 := ⟨_, rfl⟩
  replace hsp : lp_v3_readFields_10 nf n_10 v1 v2 v3 v7 v10 nb f0 f4 f5 f6 f11 l1_10 l2_10 g11_10 x10_10 x2_10 x3_10 = some (o11, w10, w2, w3) := by rw [hn_10, el1_10, el2_10, eg11_10, ex10_10, ex2_10, ex3_10]; exact hsp
  replace hl : lv_has ls 4 [(2, .int l2_10), (1, .int l1_10), (0, .ref h0)] := by rw [el1_10, el2_10]; exact hl
  replace hP : va_P (dC, dI) vwCl [(h0, .inr (3, [.ref qf0, .int v1, .int x2_10, .int x3_10, .ref qf4, .ref qf5, .ref qf6, .int v7, .int v8, .int v9, .int x10_10, .ref qf11, .int v12, .ref qf13])), (qf0, .inl (cf0, nb, .inl f0)), (qf4, .inl (cf4, 256, .inl f4)), (qf5, .inl (cf5, 256, .inl f5)), (qf6, .inl (cf6, 256, .inl f6)), (qf11, .inl (cf11, 24, .inl g11_10))] H := by rw [eg11_10, ex10_10, ex2_10, ex3_10]; exact hP
  replace hD : va_D A [(h0, .inr (3, [.ref qf0, .int v1, .int x2_10, .int x3_10, .ref qf4, .ref qf5, .ref qf6, .int v7, .int v8, .int v9, .int x10_10, .ref qf11, .int v12, .ref qf13])), (qf0, .inl (cf0, nb, .inl f0)), (qf4, .inl (cf4, 256, .inl f4)), (qf5, .inl (cf5, 256, .inl f5)), (qf6, .inl (cf6, 256, .inl f6)), (qf11, .inl (cf11, 24, .inl g11_10))] := by rw [eg11_10, ex10_10, ex2_10, ex3_10]; exact hD
  clear hn_10 el1_10 el2_10 eg11_10 ex10_10 ex2_10 ex3_10
  try clear hlo
  try clear hH
  revert hsp
  revert hP
  revert hD
  revert hS
  revert hl
  revert x3_10
  revert x2_10
  revert x10_10
  revert g11_10
  revert l2_10
  revert l1_10
  revert ls
  revert locs
  revert H
  induction n_10 with
  | zero => intro H locs ls l1_10 l2_10 g11_10 x10_10 x2_10 x3_10  hl hS hD hP hsp; unfold lp_v3_readFields_10 at hsp; cases hsp
  | succ n_10 ih_10 =>
    intro H locs ls l1_10 l2_10 g11_10 x10_10 x2_10 x3_10  hl hS hD hP hsp
    unfold lp_v3_readFields_10 at hsp
    try dsimp only at hsp
    refine jn_use (α := Heap × List Loc × Array Slot × Int32 × Int32 × Int32 × (Nat → Int32) × Int32 × Int32 × Int32) (fun x9 => x9.1) (fun x9 => x9.2.1) (fun x9 => F0 m 58 x9.2.2.1 []) (fun x9 => match x9 with | (H, locs, ls, l1_58, l2_58, l3_58, g11_58, x10_58, x2_58, x3_58) => lv_has ls 4 [(0, .ref h0), (1, .int l1_58), (2, .int l2_58), (3, .int l3_58)] ∧ va_S A s.heap H locs ∧ va_D A [(h0, .inr (3, [.ref qf0, .int v1, .int x2_58, .int x3_58, .ref qf4, .ref qf5, .ref qf6, .int v7, .int v8, .int v9, .int x10_58, .ref qf11, .int v12, .ref qf13])), (qf0, .inl (cf0, nb, .inl f0)), (qf4, .inl (cf4, 256, .inl f4)), (qf5, .inl (cf5, 256, .inl f5)), (qf6, .inl (cf6, 256, .inl f6)), (qf11, .inl (cf11, 24, .inl g11_58))] ∧ va_P (dC, dI) vwCl [(h0, .inr (3, [.ref qf0, .int v1, .int x2_58, .int x3_58, .ref qf4, .ref qf5, .ref qf6, .int v7, .int v8, .int v9, .int x10_58, .ref qf11, .int v12, .ref qf13])), (qf0, .inl (cf0, nb, .inl f0)), (qf4, .inl (cf4, 256, .inl f4)), (qf5, .inl (cf5, 256, .inl f5)), (qf6, .inl (cf6, 256, .inl f6)), (qf11, .inl (cf11, 24, .inl g11_58))] H ∧ jn_v3_readFields_58 nf v1 v2 v3 v7 v10 nb f0 f4 f5 f6 f11 (lp_v3_readFields_10 nf n_10 v1 v2 v3 v7 v10 nb f0 f4 f5 f6 f11) l1_58 l2_58 l3_58 g11_58 x10_58 x2_58 x3_58 = some (o11, w10, w2, w3)) ?_ ?_
    · intro x9 hJ9
      obtain ⟨H, locs, ls, l1_58, l2_58, l3_58, g11_58, x10_58, x2_58, x3_58⟩ := x9
      obtain ⟨hl, hS, hD, hP, hsp⟩ := hJ9
      replace hl : lv_has ls 4 [(0, .ref h0), (1, .int l1_58), (2, .int l2_58), (3, .int l3_58)] := hl
      replace hS : va_S A s.heap H locs := hS
      replace hD : va_D A [(h0, .inr (3, [.ref qf0, .int v1, .int x2_58, .int x3_58, .ref qf4, .ref qf5, .ref qf6, .int v7, .int v8, .int v9, .int x10_58, .ref qf11, .int v12, .ref qf13])), (qf0, .inl (cf0, nb, .inl f0)), (qf4, .inl (cf4, 256, .inl f4)), (qf5, .inl (cf5, 256, .inl f5)), (qf6, .inl (cf6, 256, .inl f6)), (qf11, .inl (cf11, 24, .inl g11_58))] := hD
      replace hP : va_P (dC, dI) vwCl [(h0, .inr (3, [.ref qf0, .int v1, .int x2_58, .int x3_58, .ref qf4, .ref qf5, .ref qf6, .int v7, .int v8, .int v9, .int x10_58, .ref qf11, .int v12, .ref qf13])), (qf0, .inl (cf0, nb, .inl f0)), (qf4, .inl (cf4, 256, .inl f4)), (qf5, .inl (cf5, 256, .inl f5)), (qf6, .inl (cf6, 256, .inl f6)), (qf11, .inl (cf11, 24, .inl g11_58))] H := hP
      replace hsp : jn_v3_readFields_58 nf v1 v2 v3 v7 v10 nb f0 f4 f5 f6 f11 (lp_v3_readFields_10 nf n_10 v1 v2 v3 v7 v10 nb f0 f4 f5 f6 f11) l1_58 l2_58 l3_58 g11_58 x10_58 x2_58 x3_58 = some (o11, w10, w2, w3) := hsp
      show W _ _ _ _ _ _ _ _ _ _ H locs _ _ _ (F0 m 58 ls [])
      unfold jn_v3_readFields_58 at hsp
      try dsimp only at hsp
      refine lv_aload_n hx hb dX3_readFields_58 rfl (lv_at hl 0 rfl) ?_
      refine va_get (D := (dC, dI)) (ci := 3) (v := .ref qf11) (C := RX3) (T := TX3) (N := 14) hx hb hts uV_h7_X3 hown hK hP 0 rfl rfl 11 (by decide) (hts (.fieldLink RX3 27 "ClassMill$Image" "field" "[I") mw_h7_502) (fun _ h9 => h9) rfl dX3_readFields_59 ?_
      refine lv_iload_n hx hb dX3_readFields_62 rfl (lv_at hl 2 rfl) ?_
      refine lv_iconst (v := 2) hx hb dX3_readFields_63 (by decide) ?_
      refine lv_imul hx hb dX3_readFields_64 ?_
      refine lv_iconst (v := 1) hx hb dX3_readFields_65 (by decide) ?_
      refine lv_iadd hx hb dX3_readFields_66 ?_
      refine lv_iload_n hx hb dX3_readFields_67 rfl (lv_at hl 3 rfl) ?_
      obtain ⟨hi_10, hsp⟩ := ox_in hsp
      refine va_iast hx hb hK hP hD hS 5 4 rfl rfl (i := ((l2_58 * 2) + 1)) (x := l3_58) hi_10 dX3_readFields_68 ?_
      clear hP hD hS
      intro H locs hP hD hS
      replace hP : va_P (dC, dI) vwCl [(h0, .inr (3, [.ref qf0, .int v1, .int x2_58, .int x3_58, .ref qf4, .ref qf5, .ref qf6, .int v7, .int v8, .int v9, .int x10_58, .ref qf11, .int v12, .ref qf13])), (qf0, .inl (cf0, nb, .inl f0)), (qf4, .inl (cf4, 256, .inl f4)), (qf5, .inl (cf5, 256, .inl f5)), (qf6, .inl (cf6, 256, .inl f6)), (qf11, .inl (cf11, 24, .inl (upd g11_58 (((l2_58 * 2) + 1) : Int32).toNatClampNeg l3_58)))] H := hP
      replace hD : va_D A [(h0, .inr (3, [.ref qf0, .int v1, .int x2_58, .int x3_58, .ref qf4, .ref qf5, .ref qf6, .int v7, .int v8, .int v9, .int x10_58, .ref qf11, .int v12, .ref qf13])), (qf0, .inl (cf0, nb, .inl f0)), (qf4, .inl (cf4, 256, .inl f4)), (qf5, .inl (cf5, 256, .inl f5)), (qf6, .inl (cf6, 256, .inl f6)), (qf11, .inl (cf11, 24, .inl (upd g11_58 (((l2_58 * 2) + 1) : Int32).toNatClampNeg l3_58)))] := hD
      refine lv_aload_n hx hb dX3_readFields_69 rfl (lv_at hl 0 rfl) ?_
      refine lv_dup hx hb dX3_readFields_70 rfl ?_
      refine va_get (D := (dC, dI)) (ci := 3) (v := .int x10_58) (C := RX3) (T := TX3) (N := 14) hx hb hts uV_h7_X3 hown hK hP 0 rfl rfl 10 (by decide) (hts (.fieldLink RX3 49 "ClassMill$Image" "fields" "I") mw_h7_503) (fun _ h9 => h9) rfl dX3_readFields_71 ?_
      refine lv_iconst (v := 1) hx hb dX3_readFields_74 (by decide) ?_
      refine lv_iadd hx hb dX3_readFields_75 ?_
      refine va_put (D := (dC, dI)) (ci := 3) (v := .int (x10_58 + 1)) (ty := .int) (C := RX3) (T := TX3) (N := 14) hx hb hts uV_h7_X3 tyX3 tyX3_ok nmX3 hown hK hP hD hS 0 rfl rfl 10 (by decide) (hts (.fieldLink RX3 49 "ClassMill$Image" "fields" "I") mw_h7_503) (fun _ h9 => h9) rfl (by decide +kernel) rfl rfl (Nat.le_of_ble_eq_true rfl) dX3_readFields_76 ?_
      clear hP hD hS
      intro H locs hP hD hS
      replace hP : va_P (dC, dI) vwCl [(h0, .inr (3, [.ref qf0, .int v1, .int x2_58, .int x3_58, .ref qf4, .ref qf5, .ref qf6, .int v7, .int v8, .int v9, .int (x10_58 + 1), .ref qf11, .int v12, .ref qf13])), (qf0, .inl (cf0, nb, .inl f0)), (qf4, .inl (cf4, 256, .inl f4)), (qf5, .inl (cf5, 256, .inl f5)), (qf6, .inl (cf6, 256, .inl f6)), (qf11, .inl (cf11, 24, .inl (upd g11_58 (((l2_58 * 2) + 1) : Int32).toNatClampNeg l3_58)))] H := hP
      replace hD : va_D A [(h0, .inr (3, [.ref qf0, .int v1, .int x2_58, .int x3_58, .ref qf4, .ref qf5, .ref qf6, .int v7, .int v8, .int v9, .int (x10_58 + 1), .ref qf11, .int v12, .ref qf13])), (qf0, .inl (cf0, nb, .inl f0)), (qf4, .inl (cf4, 256, .inl f4)), (qf5, .inl (cf5, 256, .inl f5)), (qf6, .inl (cf6, 256, .inl f6)), (qf11, .inl (cf11, 24, .inl (upd g11_58 (((l2_58 * 2) + 1) : Int32).toNatClampNeg l3_58)))] := hD
      refine lv_iinc (v := (l2_58 + 1)) (lv' := [(2, .int (l2_58 + 1)), (0, .ref h0), (1, .int l1_58), (3, .int l3_58)]) hx hb dX3_readFields_79 hl (k := 2) rfl rfl (by decide) rfl (fun ls hl => ?_)
      refine lv_goto (tgt := 10) hx hb dX3_readFields_82 (by decide) ?_
      exact ih_10 H locs ls l1_58 (l2_58 + 1) (upd g11_58 (((l2_58 * 2) + 1) : Int32).toNatClampNeg l3_58) (x10_58 + 1) x2_58 x3_58 (lv_sub hl [0, 2, 1] rfl) hS (hD.sub (ws' := [(h0, .inr (3, [.ref qf0, .int v1, .int x2_58, .int x3_58, .ref qf4, .ref qf5, .ref qf6, .int v7, .int v8, .int v9, .int (x10_58 + 1), .ref qf11, .int v12, .ref qf13])), (qf0, .inl (cf0, nb, .inl f0)), (qf4, .inl (cf4, 256, .inl f4)), (qf5, .inl (cf5, 256, .inl f5)), (qf6, .inl (cf6, 256, .inl f6)), (qf11, .inl (cf11, 24, .inl (upd g11_58 (((l2_58 * 2) + 1) : Int32).toNatClampNeg l3_58)))]) [0, 1, 2, 3, 4, 5] (by decide) rfl) (hP.sub (ws' := [(h0, .inr (3, [.ref qf0, .int v1, .int x2_58, .int x3_58, .ref qf4, .ref qf5, .ref qf6, .int v7, .int v8, .int v9, .int (x10_58 + 1), .ref qf11, .int v12, .ref qf13])), (qf0, .inl (cf0, nb, .inl f0)), (qf4, .inl (cf4, 256, .inl f4)), (qf5, .inl (cf5, 256, .inl f5)), (qf6, .inl (cf6, 256, .inl f6)), (qf11, .inl (cf11, 24, .inl (upd g11_58 (((l2_58 * 2) + 1) : Int32).toNatClampNeg l3_58)))]) [0, 1, 2, 3, 4, 5] rfl) hsp
    intro hj_58
    refine lv_iload_n hx hb dX3_readFields_10 rfl (lv_at hl 0 rfl) ?_
    refine lv_iload_n hx hb dX3_readFields_11 rfl (lv_at hl 1 rfl) ?_
    refine lv_icmp_ge (tgt := 85) hx hb dX3_readFields_12 (by decide) (fun c_2 => ?_) (fun c_2 => ?_)
    · rw [if_pos c_2] at hsp
      have hr0 := Option.some.inj hsp
      clear hsp
      obtain ⟨hq0, hr1⟩ := Prod.mk.inj hr0
      clear hr0
      obtain ⟨hq1, hr2⟩ := Prod.mk.inj hr1
      clear hr1
      obtain ⟨hq2, hr3⟩ := Prod.mk.inj hr2
      clear hr2
      subst hq0
      subst hq1
      subst hq2
      subst hr3
      have hP9 := hP.sub (ws' := [(h0, .inr (3, [.ref qf0, .int v1, .int x2_10, .int x3_10, .ref qf4, .ref qf5, .ref qf6, .int v7, .int v8, .int v9, .int x10_10, .ref qf11, .int v12, .ref qf13])), (qf0, .inl (cf0, nb, .inl f0)), (qf4, .inl (cf4, 256, .inl f4)), (qf5, .inl (cf5, 256, .inl f5)), (qf6, .inl (cf6, 256, .inl f6)), (qf11, .inl (cf11, 24, .inl g11_10))]) [0, 1, 2, 3, 4, 5] rfl
      have hD9 := hD.sub (ws' := [(h0, .inr (3, [.ref qf0, .int v1, .int x2_10, .int x3_10, .ref qf4, .ref qf5, .ref qf6, .int v7, .int v8, .int v9, .int x10_10, .ref qf11, .int v12, .ref qf13])), (qf0, .inl (cf0, nb, .inl f0)), (qf4, .inl (cf4, 256, .inl f4)), (qf5, .inl (cf5, 256, .inl f5)), (qf6, .inl (cf6, 256, .inl f6)), (qf11, .inl (cf11, 24, .inl g11_10))]) [0, 1, 2, 3, 4, 5] (by decide) rfl
      have hK9 := hK.sub (tys' := [(cf0, .byte), (cf4, .int), (cf5, .int), (cf6, .int), (cf11, .int)]) [0, 1, 2, 3, 4] rfl
      exact W.vret hx hb hr (fun t ht hW => ⟨⟨(), rfl, trivial, by rw [ht]; exact hP9, va_K.moved hW.alike hK9, hD9⟩, hS.F ht⟩) hS.2.2 dX3_readFields_85
    · rw [if_neg c_2] at hsp
      refine lv_aload_n hx hb dX3_readFields_15 rfl (lv_at hl 2 rfl) ?_
      refine va_get (D := (dC, dI)) (ci := 3) (v := .int x3_10) (C := RX3) (T := TX3) (N := 14) hx hb hts uV_h7_X3 hown hK hP 0 rfl rfl 3 (by decide) (hts (.fieldLink RX3 46 "ClassMill$Image" "form" "I") mw_h7_157) (fun _ h9 => h9) rfl dX3_readFields_16 ?_
      refine lv_iconst (v := (-1)) hx hb dX3_readFields_19 (by decide) ?_
      refine lv_icmp_ne (tgt := 85) hx hb dX3_readFields_20 (by decide) (fun c_3 => ?_) (fun c_3 => ?_)
      · rw [if_neg c_3] at hsp
        have hr0 := Option.some.inj hsp
        clear hsp
        obtain ⟨hq0, hr1⟩ := Prod.mk.inj hr0
        clear hr0
        obtain ⟨hq1, hr2⟩ := Prod.mk.inj hr1
        clear hr1
        obtain ⟨hq2, hr3⟩ := Prod.mk.inj hr2
        clear hr2
        subst hq0
        subst hq1
        subst hq2
        subst hr3
        have hP9 := hP.sub (ws' := [(h0, .inr (3, [.ref qf0, .int v1, .int x2_10, .int x3_10, .ref qf4, .ref qf5, .ref qf6, .int v7, .int v8, .int v9, .int x10_10, .ref qf11, .int v12, .ref qf13])), (qf0, .inl (cf0, nb, .inl f0)), (qf4, .inl (cf4, 256, .inl f4)), (qf5, .inl (cf5, 256, .inl f5)), (qf6, .inl (cf6, 256, .inl f6)), (qf11, .inl (cf11, 24, .inl g11_10))]) [0, 1, 2, 3, 4, 5] rfl
        have hD9 := hD.sub (ws' := [(h0, .inr (3, [.ref qf0, .int v1, .int x2_10, .int x3_10, .ref qf4, .ref qf5, .ref qf6, .int v7, .int v8, .int v9, .int x10_10, .ref qf11, .int v12, .ref qf13])), (qf0, .inl (cf0, nb, .inl f0)), (qf4, .inl (cf4, 256, .inl f4)), (qf5, .inl (cf5, 256, .inl f5)), (qf6, .inl (cf6, 256, .inl f6)), (qf11, .inl (cf11, 24, .inl g11_10))]) [0, 1, 2, 3, 4, 5] (by decide) rfl
        have hK9 := hK.sub (tys' := [(cf0, .byte), (cf4, .int), (cf5, .int), (cf6, .int), (cf11, .int)]) [0, 1, 2, 3, 4] rfl
        exact W.vret hx hb hr (fun t ht hW => ⟨⟨(), rfl, trivial, by rw [ht]; exact hP9, va_K.moved hW.alike hK9, hD9⟩, hS.F ht⟩) hS.2.2 dX3_readFields_85
      · rw [if_pos c_3] at hsp
        refine lv_aload_n hx hb dX3_readFields_23 rfl (lv_at hl 2 rfl) ?_
        refine va_get (D := (dC, dI)) (ci := 3) (v := .ref qf11) (C := RX3) (T := TX3) (N := 14) hx hb hts uV_h7_X3 hown hK hP 0 rfl rfl 11 (by decide) (hts (.fieldLink RX3 27 "ClassMill$Image" "field" "[I") mw_h7_502) (fun _ h9 => h9) rfl dX3_readFields_24 ?_
        refine lv_iload_n hx hb dX3_readFields_27 rfl (lv_at hl 0 rfl) ?_
        refine lv_iconst (v := 2) hx hb dX3_readFields_28 (by decide) ?_
        refine lv_imul hx hb dX3_readFields_29 ?_
        refine lv_aload_n hx hb dX3_readFields_30 rfl (lv_at hl 2 rfl) ?_
        obtain ⟨⟨u2_0, u2_1, u2_2⟩, hu_2, hsp⟩ := ox_bind hsp
        try dsimp only at hsp
        have hPc := hP.sub (ws' := [(h0, .inr (3, [.ref qf0, .int v1, .int x2_10, .int x3_10, .ref qf4, .ref qf5, .ref qf6, .int v7, .int v8, .int v9, .int x10_10, .ref qf11, .int v12, .ref qf13])), (qf0, .inl (cf0, nb, .inl f0)), (qf4, .inl (cf4, 256, .inl f4)), (qf5, .inl (cf5, 256, .inl f5)), (qf6, .inl (cf6, 256, .inl f6))]) [0, 1, 2, 3, 4] rfl
        have hDc := hD.sub (ws' := [(h0, .inr (3, [.ref qf0, .int v1, .int x2_10, .int x3_10, .ref qf4, .ref qf5, .ref qf6, .int v7, .int v8, .int v9, .int x10_10, .ref qf11, .int v12, .ref qf13])), (qf0, .inl (cf0, nb, .inl f0)), (qf4, .inl (cf4, 256, .inl f4)), (qf5, .inl (cf5, 256, .inl f5)), (qf6, .inl (cf6, 256, .inl f6))]) [0, 1, 2, 3, 4] (by decide) rfl
        have hKc := hK.sub (tys' := [(cf0, .byte), (cf4, .int), (cf5, .int), (cf6, .int)]) [0, 1, 2, 3] rfl
        have hFc := va_free (wc := [(h0, .inr (3, [.ref qf0, .int v1, .int x2_10, .int x3_10, .ref qf4, .ref qf5, .ref qf6, .int v7, .int v8, .int v9, .int x10_10, .ref qf11, .int v12, .ref qf13])), (qf0, .inl (cf0, nb, .inl f0)), (qf4, .inl (cf4, 256, .inl f4)), (qf5, .inl (cf5, 256, .inl f5)), (qf6, .inl (cf6, 256, .inl f6))]) hD hS hA [0, 1, 2, 3, 4] rfl
        refine va_calli (va_runV (As := []) (rest := [.int (l2_10 * 2), .ref qf11]) ⟨hx, hb, hml, hown, hts⟩ (v3_nextName l dC dI H.size h0 qf0 v1 x2_10 x3_10 qf4 qf5 qf6 v7 v8 v9 x10_10 qf11 v12 qf13 cf0 nb f0 cf4 f4 cf5 f5 cf6 f6 nf u2_0 u2_1 u2_2 hu_2) (cwV 0 hts gv_h7_40 rfl rfl rfl (by decide +kernel) ⟨Nat.le_of_ble_eq_true rfl, Nat.le_of_ble_eq_true rfl⟩) ⟨fun a U g mk q => by obtain ⟨q0, q1, qP, qK, qD⟩ := q; exact ⟨q0, q1, qP, va_K.moved (u := U) (U := U.calling g mk a) (Vm.Alike.refl U.vm) qK, qD⟩, va_recv hKc hPc (ci := 3) (q0 := 0) rfl rfl, fun U hU hW => ⟨rfl, by rw [hU], by rw [hU]; exact hPc, va_K.moved hW.alike hKc, hDc.weaken (fun _ _ _ _ => trivial)⟩⟩ rfl rfl hl.1 rfl (lv_room (Nat.le_of_ble_eq_true rfl)) dX3_readFields_31 ⟨Nat.le_of_ble_eq_true rfl, Nat.le_of_ble_eq_true rfl⟩) hS (fun q _ h => hFc q h) hFc ?_
        clear hS
        intro r_4 u t H1 locs ht hvm hw hB hz1 hk1 hS
        obtain ⟨⟩ := u
        obtain ⟨hP1, hK1, hD1⟩ := hB
        rw [ht] at hP1
        have hK1 := va_K.moved hvm.symm hK1
        try dsimp only at hw
        have hPD := va_join (wr := [(qf11, .inl (cf11, 24, .inl g11_10))]) (w1 := [(h0, .inr (3, [.ref qf0, .int v1, .int u2_1, .int u2_2, .ref qf4, .ref qf5, .ref qf6, .int v7, .int v8, .int v9, .int x10_10, .ref qf11, .int v12, .ref qf13])), (qf0, .inl (cf0, nb, .inl f0)), (qf4, .inl (cf4, 256, .inl f4)), (qf5, .inl (cf5, 256, .inl f5)), (qf6, .inl (cf6, 256, .inl f6))]) hP hD [0, 1, 2, 3, 4] [5] rfl rfl (by decide) (by decide) hk1 hFc hP1 hD1
        clear hP hD
        obtain ⟨hP, hD⟩ := hPD
        replace hK := (hK.sub (tys' := [(cf11, .int)]) [4] rfl).app hK1
        clear hPc hDc hKc hFc hP1 hK1 hD1 hz1 hk1 ht hvm
        generalize H1 = H at hP hS ⊢
        replace hP : va_P (dC, dI) vwCl [(qf11, .inl (cf11, 24, .inl g11_10)), (h0, .inr (3, [.ref qf0, .int v1, .int u2_1, .int u2_2, .ref qf4, .ref qf5, .ref qf6, .int v7, .int v8, .int v9, .int x10_10, .ref qf11, .int v12, .ref qf13])), (qf0, .inl (cf0, nb, .inl f0)), (qf4, .inl (cf4, 256, .inl f4)), (qf5, .inl (cf5, 256, .inl f5)), (qf6, .inl (cf6, 256, .inl f6))] H := hP
        replace hD : va_D A [(qf11, .inl (cf11, 24, .inl g11_10)), (h0, .inr (3, [.ref qf0, .int v1, .int u2_1, .int u2_2, .ref qf4, .ref qf5, .ref qf6, .int v7, .int v8, .int v9, .int x10_10, .ref qf11, .int v12, .ref qf13])), (qf0, .inl (cf0, nb, .inl f0)), (qf4, .inl (cf4, 256, .inl f4)), (qf5, .inl (cf5, 256, .inl f5)), (qf6, .inl (cf6, 256, .inl f6))] := hD
        replace hK : va_K (dC, dI) vwCl [(cf11, .int), (cf0, .byte), (cf4, .int), (cf5, .int), (cf6, .int)] s := hK
        obtain rfl := hw
        obtain ⟨hi_5, hsp⟩ := ox_in hsp
        refine va_iast hx hb hK hP hD hS 0 0 rfl rfl (i := (l2_10 * 2)) (x := u2_0) hi_5 dX3_readFields_34 ?_
        clear hP hD hS
        intro H locs hP hD hS
        replace hP : va_P (dC, dI) vwCl [(qf11, .inl (cf11, 24, .inl (upd g11_10 ((l2_10 * 2) : Int32).toNatClampNeg u2_0))), (h0, .inr (3, [.ref qf0, .int v1, .int u2_1, .int u2_2, .ref qf4, .ref qf5, .ref qf6, .int v7, .int v8, .int v9, .int x10_10, .ref qf11, .int v12, .ref qf13])), (qf0, .inl (cf0, nb, .inl f0)), (qf4, .inl (cf4, 256, .inl f4)), (qf5, .inl (cf5, 256, .inl f5)), (qf6, .inl (cf6, 256, .inl f6))] H := hP
        replace hD : va_D A [(qf11, .inl (cf11, 24, .inl (upd g11_10 ((l2_10 * 2) : Int32).toNatClampNeg u2_0))), (h0, .inr (3, [.ref qf0, .int v1, .int u2_1, .int u2_2, .ref qf4, .ref qf5, .ref qf6, .int v7, .int v8, .int v9, .int x10_10, .ref qf11, .int v12, .ref qf13])), (qf0, .inl (cf0, nb, .inl f0)), (qf4, .inl (cf4, 256, .inl f4)), (qf5, .inl (cf5, 256, .inl f5)), (qf6, .inl (cf6, 256, .inl f6))] := hD
        refine lv_aload_n hx hb dX3_readFields_35 rfl (lv_at hl 2 rfl) ?_
        obtain ⟨⟨u3_0, u3_1, u3_2⟩, hu_3, hsp⟩ := ox_bind hsp
        try dsimp only at hsp
        have hPc := hP.sub (ws' := [(h0, .inr (3, [.ref qf0, .int v1, .int u2_1, .int u2_2, .ref qf4, .ref qf5, .ref qf6, .int v7, .int v8, .int v9, .int x10_10, .ref qf11, .int v12, .ref qf13])), (qf0, .inl (cf0, nb, .inl f0))]) [1, 2] rfl
        have hDc := hD.sub (ws' := [(h0, .inr (3, [.ref qf0, .int v1, .int u2_1, .int u2_2, .ref qf4, .ref qf5, .ref qf6, .int v7, .int v8, .int v9, .int x10_10, .ref qf11, .int v12, .ref qf13])), (qf0, .inl (cf0, nb, .inl f0))]) [1, 2] (by decide) rfl
        have hKc := hK.sub (tys' := [(cf0, .byte)]) [1] rfl
        have hFc := va_free (wc := [(h0, .inr (3, [.ref qf0, .int v1, .int u2_1, .int u2_2, .ref qf4, .ref qf5, .ref qf6, .int v7, .int v8, .int v9, .int x10_10, .ref qf11, .int v12, .ref qf13])), (qf0, .inl (cf0, nb, .inl f0))]) hD hS hA [1, 2] rfl
        refine va_calli (va_runV (As := []) (rest := []) ⟨hx, hb, hml, hown, hts⟩ (ti_next l dC dI H.size h0 qf0 v1 u2_1 u2_2 qf4 qf5 qf6 v7 v8 v9 x10_10 qf11 v12 qf13 cf0 nb f0 nf u3_0 u3_1 u3_2 hu_3) (cwV 0 hts gv_h7_30 rfl rfl rfl (by decide +kernel) ⟨Nat.le_of_ble_eq_true rfl, Nat.le_of_ble_eq_true rfl⟩) ⟨fun a U g mk q => by obtain ⟨q0, q1, qP, qK, qD⟩ := q; exact ⟨q0, q1, qP, va_K.moved (u := U) (U := U.calling g mk a) (Vm.Alike.refl U.vm) qK, qD⟩, va_recv hKc hPc (ci := 3) (q0 := 0) rfl rfl, fun U hU hW => ⟨rfl, by rw [hU], by rw [hU]; exact hPc, va_K.moved hW.alike hKc, hDc.weaken (fun _ _ _ _ => trivial)⟩⟩ rfl rfl hl.1 rfl (lv_room (Nat.le_of_ble_eq_true rfl)) dX3_readFields_36 ⟨Nat.le_of_ble_eq_true rfl, Nat.le_of_ble_eq_true rfl⟩) hS (fun q _ h => hFc q h) hFc ?_
        clear hS
        intro r_6 u t H1 locs ht hvm hw hB hz1 hk1 hS
        obtain ⟨⟩ := u
        obtain ⟨hP1, hK1, hD1⟩ := hB
        rw [ht] at hP1
        have hK1 := va_K.moved hvm.symm hK1
        try dsimp only at hw
        have hPD := va_join (wr := [(qf11, .inl (cf11, 24, .inl (upd g11_10 ((l2_10 * 2) : Int32).toNatClampNeg u2_0))), (qf4, .inl (cf4, 256, .inl f4)), (qf5, .inl (cf5, 256, .inl f5)), (qf6, .inl (cf6, 256, .inl f6))]) (w1 := [(h0, .inr (3, [.ref qf0, .int v1, .int u3_1, .int u3_2, .ref qf4, .ref qf5, .ref qf6, .int v7, .int v8, .int v9, .int x10_10, .ref qf11, .int v12, .ref qf13])), (qf0, .inl (cf0, nb, .inl f0))]) hP hD [1, 2] [0, 3, 4, 5] rfl rfl (by decide) (by decide) hk1 hFc hP1 hD1
        clear hP hD
        obtain ⟨hP, hD⟩ := hPD
        replace hK := (hK.sub (tys' := [(cf11, .int), (cf4, .int), (cf5, .int), (cf6, .int)]) [0, 2, 3, 4] rfl).app hK1
        clear hPc hDc hKc hFc hP1 hK1 hD1 hz1 hk1 ht hvm
        generalize H1 = H at hP hS ⊢
        replace hP : va_P (dC, dI) vwCl [(qf11, .inl (cf11, 24, .inl (upd g11_10 ((l2_10 * 2) : Int32).toNatClampNeg u2_0))), (qf4, .inl (cf4, 256, .inl f4)), (qf5, .inl (cf5, 256, .inl f5)), (qf6, .inl (cf6, 256, .inl f6)), (h0, .inr (3, [.ref qf0, .int v1, .int u3_1, .int u3_2, .ref qf4, .ref qf5, .ref qf6, .int v7, .int v8, .int v9, .int x10_10, .ref qf11, .int v12, .ref qf13])), (qf0, .inl (cf0, nb, .inl f0))] H := hP
        replace hD : va_D A [(qf11, .inl (cf11, 24, .inl (upd g11_10 ((l2_10 * 2) : Int32).toNatClampNeg u2_0))), (qf4, .inl (cf4, 256, .inl f4)), (qf5, .inl (cf5, 256, .inl f5)), (qf6, .inl (cf6, 256, .inl f6)), (h0, .inr (3, [.ref qf0, .int v1, .int u3_1, .int u3_2, .ref qf4, .ref qf5, .ref qf6, .int v7, .int v8, .int v9, .int x10_10, .ref qf11, .int v12, .ref qf13])), (qf0, .inl (cf0, nb, .inl f0))] := hD
        replace hK : va_K (dC, dI) vwCl [(cf11, .int), (cf4, .int), (cf5, .int), (cf6, .int), (cf0, .byte)] s := hK
        obtain rfl := hw
        refine lv_istore_n (lv' := [(3, .int u3_0), (2, .int l2_10), (1, .int l1_10), (0, .ref h0)]) hx hb dX3_readFields_39 rfl hl (by decide) rfl (fun ls hl => ?_)
        refine lv_aload_n hx hb dX3_readFields_40 rfl (lv_at hl 3 rfl) ?_
        refine lv_iload_n hx hb dX3_readFields_41 rfl (lv_at hl 0 rfl) ?_
        obtain ⟨u4_0, hu_4, hsp⟩ := ox_bind hsp
        try dsimp only at hsp
        have hPc := hP.sub (ws' := [(h0, .inr (3, [.ref qf0, .int v1, .int u3_1, .int u3_2, .ref qf4, .ref qf5, .ref qf6, .int v7, .int v8, .int v9, .int x10_10, .ref qf11, .int v12, .ref qf13])), (qf4, .inl (cf4, 256, .inl f4)), (qf5, .inl (cf5, 256, .inl f5)), (qf6, .inl (cf6, 256, .inl f6)), (qf0, .inl (cf0, nb, .inl f0))]) [4, 1, 2, 3, 5] rfl
        have hDc := hD.sub (ws' := [(h0, .inr (3, [.ref qf0, .int v1, .int u3_1, .int u3_2, .ref qf4, .ref qf5, .ref qf6, .int v7, .int v8, .int v9, .int x10_10, .ref qf11, .int v12, .ref qf13])), (qf4, .inl (cf4, 256, .inl f4)), (qf5, .inl (cf5, 256, .inl f5)), (qf6, .inl (cf6, 256, .inl f6)), (qf0, .inl (cf0, nb, .inl f0))]) [4, 1, 2, 3, 5] (by decide) rfl
        have hKc := hK.sub (tys' := [(cf4, .int), (cf5, .int), (cf6, .int), (cf0, .byte)]) [1, 2, 3, 4] rfl
        have hFc := va_free (wc := [(h0, .inr (3, [.ref qf0, .int v1, .int u3_1, .int u3_2, .ref qf4, .ref qf5, .ref qf6, .int v7, .int v8, .int v9, .int x10_10, .ref qf11, .int v12, .ref qf13])), (qf4, .inl (cf4, 256, .inl f4)), (qf5, .inl (cf5, 256, .inl f5)), (qf6, .inl (cf6, 256, .inl f6)), (qf0, .inl (cf0, nb, .inl f0))]) hD hS hA [4, 1, 2, 3, 5] rfl
        refine va_calli (va_runV (As := [.int u3_0]) (rest := []) ⟨hx, hb, hml, hown, hts⟩ (v3_isFieldKind l dC dI H.size h0 u3_0 qf0 v1 u3_1 u3_2 qf4 qf5 qf6 v7 v8 v9 x10_10 qf11 v12 qf13 cf4 f4 cf5 f5 cf6 f6 cf0 nb f0 nf u4_0 hu_4) (cwV 1 hts gv_h7_122 rfl rfl rfl (by decide +kernel) ⟨Nat.le_of_ble_eq_true rfl, Nat.le_of_ble_eq_true rfl⟩) ⟨fun a U g mk q => by obtain ⟨q0, q1, qP, qK, qD⟩ := q; exact ⟨q0, q1, qP, va_K.moved (u := U) (U := U.calling g mk a) (Vm.Alike.refl U.vm) qK, qD⟩, va_recv hKc hPc (ci := 3) (q0 := 0) rfl rfl, fun U hU hW => ⟨rfl, by rw [hU], by rw [hU]; exact hPc, va_K.moved hW.alike hKc, hDc.weaken (fun _ _ _ _ => trivial)⟩⟩ rfl rfl hl.1 rfl (lv_room (Nat.le_of_ble_eq_true rfl)) dX3_readFields_42 ⟨Nat.le_of_ble_eq_true rfl, Nat.le_of_ble_eq_true rfl⟩) hS (fun q _ h => hFc q h) hFc ?_
        clear hS
        intro r_7 u t H1 locs ht hvm hw hB hz1 hk1 hS
        obtain ⟨⟩ := u
        obtain ⟨hP1, hK1, hD1⟩ := hB
        rw [ht] at hP1
        have hK1 := va_K.moved hvm.symm hK1
        try dsimp only at hw
        have hPD := va_join (wr := [(qf11, .inl (cf11, 24, .inl (upd g11_10 ((l2_10 * 2) : Int32).toNatClampNeg u2_0)))]) (w1 := [(h0, .inr (3, [.ref qf0, .int v1, .int u3_1, .int u3_2, .ref qf4, .ref qf5, .ref qf6, .int v7, .int v8, .int v9, .int x10_10, .ref qf11, .int v12, .ref qf13])), (qf4, .inl (cf4, 256, .inl f4)), (qf5, .inl (cf5, 256, .inl f5)), (qf6, .inl (cf6, 256, .inl f6)), (qf0, .inl (cf0, nb, .inl f0))]) hP hD [4, 1, 2, 3, 5] [0] rfl rfl (by decide) (by decide) hk1 hFc hP1 hD1
        clear hP hD
        obtain ⟨hP, hD⟩ := hPD
        replace hK := (hK.sub (tys' := [(cf11, .int)]) [0] rfl).app hK1
        clear hPc hDc hKc hFc hP1 hK1 hD1 hz1 hk1 ht hvm
        generalize H1 = H at hP hS ⊢
        replace hP : va_P (dC, dI) vwCl [(qf11, .inl (cf11, 24, .inl (upd g11_10 ((l2_10 * 2) : Int32).toNatClampNeg u2_0))), (h0, .inr (3, [.ref qf0, .int v1, .int u3_1, .int u3_2, .ref qf4, .ref qf5, .ref qf6, .int v7, .int v8, .int v9, .int x10_10, .ref qf11, .int v12, .ref qf13])), (qf4, .inl (cf4, 256, .inl f4)), (qf5, .inl (cf5, 256, .inl f5)), (qf6, .inl (cf6, 256, .inl f6)), (qf0, .inl (cf0, nb, .inl f0))] H := hP
        replace hD : va_D A [(qf11, .inl (cf11, 24, .inl (upd g11_10 ((l2_10 * 2) : Int32).toNatClampNeg u2_0))), (h0, .inr (3, [.ref qf0, .int v1, .int u3_1, .int u3_2, .ref qf4, .ref qf5, .ref qf6, .int v7, .int v8, .int v9, .int x10_10, .ref qf11, .int v12, .ref qf13])), (qf4, .inl (cf4, 256, .inl f4)), (qf5, .inl (cf5, 256, .inl f5)), (qf6, .inl (cf6, 256, .inl f6)), (qf0, .inl (cf0, nb, .inl f0))] := hD
        replace hK : va_K (dC, dI) vwCl [(cf11, .int), (cf4, .int), (cf5, .int), (cf6, .int), (cf0, .byte)] s := hK
        obtain ⟨rfl, hz_4⟩ := hw
        rcases hz_4 with rfl | rfl
        · rw [if_pos rfl] at hsp
          refine lv_if_ne (tgt := 58) hx hb dX3_readFields_45 (by decide) (fun c_8 => (show False by revert c_8; decide).elim) (fun c_8 => ?_)
          refine lv_aload_n hx hb dX3_readFields_48 rfl (lv_at hl 3 rfl) ?_
          refine lv_aload_n hx hb dX3_readFields_49 rfl (lv_at hl 3 rfl) ?_
          refine va_get (D := (dC, dI)) (ci := 3) (v := .int u3_1) (C := RX3) (T := TX3) (N := 14) hx hb hts uV_h7_X3 hown hK hP 1 rfl rfl 2 (by decide) (hts (.fieldLink RX3 43 "ClassMill$Image" "pos" "I") mw_h7_160) (fun _ h9 => h9) rfl dX3_readFields_50 ?_
          refine lv_iconst (v := 1) hx hb dX3_readFields_53 (by decide) ?_
          refine lv_isub hx hb dX3_readFields_54 ?_
          obtain ⟨u5_0, hu_5, hsp⟩ := ox_bind hsp
          try dsimp only at hsp
          have hPc := hP.sub (ws' := [(h0, .inr (3, [.ref qf0, .int v1, .int u3_1, .int u3_2, .ref qf4, .ref qf5, .ref qf6, .int v7, .int v8, .int v9, .int x10_10, .ref qf11, .int v12, .ref qf13]))]) [1] rfl
          have hDc := hD.sub (ws' := [(h0, .inr (3, [.ref qf0, .int v1, .int u3_1, .int u3_2, .ref qf4, .ref qf5, .ref qf6, .int v7, .int v8, .int v9, .int x10_10, .ref qf11, .int v12, .ref qf13]))]) [1] (by decide) rfl
          have hKc := hK.sub (tys' := []) [] rfl
          have hFc := va_free (wc := [(h0, .inr (3, [.ref qf0, .int v1, .int u3_1, .int u3_2, .ref qf4, .ref qf5, .ref qf6, .int v7, .int v8, .int v9, .int x10_10, .ref qf11, .int v12, .ref qf13]))]) hD hS hA [1] rfl
          refine va_callv (va_runV (As := [.int (u3_1 - 1)]) (rest := []) ⟨hx, hb, hml, hown, hts⟩ (ti_bad l dC dI H.size h0 ((u3_1 - 1)) qf0 v1 u3_1 u3_2 qf4 qf5 qf6 v7 v8 v9 x10_10 qf11 v12 qf13 nf u5_0 hu_5) (cwV 1 hts gv_h7_39 rfl rfl rfl (by decide +kernel) ⟨Nat.le_of_ble_eq_true rfl, Nat.le_of_ble_eq_true rfl⟩) ⟨fun a U g mk q => by obtain ⟨q0, q1, qP, qK, qD⟩ := q; exact ⟨q0, q1, qP, va_K.moved (u := U) (U := U.calling g mk a) (Vm.Alike.refl U.vm) qK, qD⟩, va_recv hKc hPc (ci := 3) (q0 := 0) rfl rfl, fun U hU hW => ⟨rfl, by rw [hU], by rw [hU]; exact hPc, va_K.moved hW.alike hKc, hDc.weaken (fun _ _ _ _ => trivial)⟩⟩ rfl rfl hl.1 rfl (lv_room (Nat.le_of_ble_eq_true rfl)) dX3_readFields_55 ⟨Nat.le_of_ble_eq_true rfl, Nat.le_of_ble_eq_true rfl⟩) hS (fun q _ h => hFc q h) hFc ?_
          clear hS
          intro u t H1 locs ht hvm hw hB hz1 hk1 hS
          obtain ⟨⟩ := u
          obtain ⟨hP1, hK1, hD1⟩ := hB
          rw [ht] at hP1
          have hK1 := va_K.moved hvm.symm hK1
          try dsimp only at hw
          have hPD := va_join (wr := [(qf11, .inl (cf11, 24, .inl (upd g11_10 ((l2_10 * 2) : Int32).toNatClampNeg u2_0))), (qf4, .inl (cf4, 256, .inl f4)), (qf5, .inl (cf5, 256, .inl f5)), (qf6, .inl (cf6, 256, .inl f6)), (qf0, .inl (cf0, nb, .inl f0))]) (w1 := [(h0, .inr (3, [.ref qf0, .int v1, .int u3_1, .int u5_0, .ref qf4, .ref qf5, .ref qf6, .int v7, .int v8, .int v9, .int x10_10, .ref qf11, .int v12, .ref qf13]))]) hP hD [1] [0, 2, 3, 4, 5] rfl rfl (by decide) (by decide) hk1 hFc hP1 hD1
          clear hP hD
          obtain ⟨hP, hD⟩ := hPD
          replace hK := (hK.sub (tys' := [(cf11, .int), (cf4, .int), (cf5, .int), (cf6, .int), (cf0, .byte)]) [0, 1, 2, 3, 4] rfl).app hK1
          clear hPc hDc hKc hFc hP1 hK1 hD1 hz1 hk1 ht hvm
          generalize H1 = H at hP hS ⊢
          replace hP : va_P (dC, dI) vwCl [(qf11, .inl (cf11, 24, .inl (upd g11_10 ((l2_10 * 2) : Int32).toNatClampNeg u2_0))), (qf4, .inl (cf4, 256, .inl f4)), (qf5, .inl (cf5, 256, .inl f5)), (qf6, .inl (cf6, 256, .inl f6)), (qf0, .inl (cf0, nb, .inl f0)), (h0, .inr (3, [.ref qf0, .int v1, .int u3_1, .int u5_0, .ref qf4, .ref qf5, .ref qf6, .int v7, .int v8, .int v9, .int x10_10, .ref qf11, .int v12, .ref qf13]))] H := hP
          replace hD : va_D A [(qf11, .inl (cf11, 24, .inl (upd g11_10 ((l2_10 * 2) : Int32).toNatClampNeg u2_0))), (qf4, .inl (cf4, 256, .inl f4)), (qf5, .inl (cf5, 256, .inl f5)), (qf6, .inl (cf6, 256, .inl f6)), (qf0, .inl (cf0, nb, .inl f0)), (h0, .inr (3, [.ref qf0, .int v1, .int u3_1, .int u5_0, .ref qf4, .ref qf5, .ref qf6, .int v7, .int v8, .int v9, .int x10_10, .ref qf11, .int v12, .ref qf13]))] := hD
          replace hK : va_K (dC, dI) vwCl [(cf11, .int), (cf4, .int), (cf5, .int), (cf6, .int), (cf0, .byte)] s := hK
          exact hj_58 (H, locs, ls, l1_10, l2_10, u3_0, (upd g11_10 ((l2_10 * 2) : Int32).toNatClampNeg u2_0), x10_10, u3_1, u5_0) ⟨lv_sub hl [3, 2, 1, 0] rfl, hS, hD.sub (ws' := [(h0, .inr (3, [.ref qf0, .int v1, .int u3_1, .int u5_0, .ref qf4, .ref qf5, .ref qf6, .int v7, .int v8, .int v9, .int x10_10, .ref qf11, .int v12, .ref qf13])), (qf0, .inl (cf0, nb, .inl f0)), (qf4, .inl (cf4, 256, .inl f4)), (qf5, .inl (cf5, 256, .inl f5)), (qf6, .inl (cf6, 256, .inl f6)), (qf11, .inl (cf11, 24, .inl (upd g11_10 ((l2_10 * 2) : Int32).toNatClampNeg u2_0)))]) [5, 4, 1, 2, 3, 0] (by decide) rfl, hP.sub (ws' := [(h0, .inr (3, [.ref qf0, .int v1, .int u3_1, .int u5_0, .ref qf4, .ref qf5, .ref qf6, .int v7, .int v8, .int v9, .int x10_10, .ref qf11, .int v12, .ref qf13])), (qf0, .inl (cf0, nb, .inl f0)), (qf4, .inl (cf4, 256, .inl f4)), (qf5, .inl (cf5, 256, .inl f5)), (qf6, .inl (cf6, 256, .inl f6)), (qf11, .inl (cf11, 24, .inl (upd g11_10 ((l2_10 * 2) : Int32).toNatClampNeg u2_0)))]) [5, 4, 1, 2, 3, 0] rfl, hsp⟩
        · rw [if_neg (by decide)] at hsp
          refine lv_if_ne (tgt := 58) hx hb dX3_readFields_45 (by decide) (fun c_9 => ?_) (fun c_9 => (show False by revert c_9; decide).elim)
          exact hj_58 (H, locs, ls, l1_10, l2_10, u3_0, (upd g11_10 ((l2_10 * 2) : Int32).toNatClampNeg u2_0), x10_10, u3_1, u3_2) ⟨lv_sub hl [3, 2, 1, 0] rfl, hS, hD.sub (ws' := [(h0, .inr (3, [.ref qf0, .int v1, .int u3_1, .int u3_2, .ref qf4, .ref qf5, .ref qf6, .int v7, .int v8, .int v9, .int x10_10, .ref qf11, .int v12, .ref qf13])), (qf0, .inl (cf0, nb, .inl f0)), (qf4, .inl (cf4, 256, .inl f4)), (qf5, .inl (cf5, 256, .inl f5)), (qf6, .inl (cf6, 256, .inl f6)), (qf11, .inl (cf11, 24, .inl (upd g11_10 ((l2_10 * 2) : Int32).toNatClampNeg u2_0)))]) [1, 5, 2, 3, 4, 0] (by decide) rfl, hP.sub (ws' := [(h0, .inr (3, [.ref qf0, .int v1, .int u3_1, .int u3_2, .ref qf4, .ref qf5, .ref qf6, .int v7, .int v8, .int v9, .int x10_10, .ref qf11, .int v12, .ref qf13])), (qf0, .inl (cf0, nb, .inl f0)), (qf4, .inl (cf4, 256, .inl f4)), (qf5, .inl (cf5, 256, .inl f5)), (qf6, .inl (cf6, 256, .inl f6)), (qf11, .inl (cf11, 24, .inl (upd g11_10 ((l2_10 * 2) : Int32).toNatClampNeg u2_0)))]) [1, 5, 2, 3, 4, 0] rfl, hsp⟩
def sp_v5_stepArithmetic (nf : Nat) (a1 : Int32) (v1 : Int32) (v17 : Int32) (v20 : Int32) (f14 : Nat → Int32) (f16 : Nat → Int32) (f13 : Nat → Int32) : Option ((Nat → Int32) × (Nat → Int32) × (Nat → Int32) × Int32 × Int32) := ((sp_t5_pop nf v1 v17 f14 f16).bind (fun p1 => ((sp_t5_pop nf p1.2.2 v17 p1.2.1 f16).bind (fun p2 => (if p1.1 = 0 then (if a1 = 108 then (some (f13, p2.2.1, f16, p2.2.2, (-4))) else (if a1 = 112 then (some (f13, p2.2.1, f16, p2.2.2, (-4))) else ((sp_v5_computed nf a1 p2.1 p1.1).bind (fun p5 => ((sp_t5_give nf p5 1 p2.2.2 v17 p2.2.1 f16 f13).bind (fun p6 => (some (p6.1, p6.2.1, p6.2.2.1, p6.2.2.2, v20)))))))) else ((sp_v5_computed nf a1 p2.1 p1.1).bind (fun p3 => ((sp_t5_give nf p3 1 p2.2.2 v17 p2.2.1 f16 f13).bind (fun p4 => (some (p4.1, p4.2.1, p4.2.2.1, p4.2.2.2, v20)))))))))))
set_option maxHeartbeats 4000000 in
set_option maxRecDepth 100000 in
/-- ClassMill$Machine.stepArithmetic -/
theorem v5_stepArithmetic (l : Launch) (dC : Nat → ClassId) (dI : Nat → Nat → Nat) (sz : Nat) (h0 : Nat) (a1 : Int32) (qf0 : Nat) (v1 : Int32) (v2 : Int32) (v3 : Int32) (v4 : Int32) (v5 : Int32) (v6 : Int32) (v7 : Int32) (qf8 : Nat) (qf9 : Nat) (qf10 : Nat) (qf11 : Nat) (qf12 : Nat) (qf13 : Nat) (qf14 : Nat) (qf15 : Nat) (qf16 : Nat) (v17 : Int32) (qf18 : Nat) (v19 : Int32) (v20 : Int32) (cf14 : ClassId) (f14 : (Nat → Int32)) (cf16 : ClassId) (f16 : (Nat → Int32)) (cf13 : ClassId) (f13 : (Nat → Int32)) (nf : Nat) (o13 : (Nat → Int32)) (o14 : (Nat → Int32)) (o16 : (Nat → Int32)) (w1 : Int32) (w20 : Int32) (hsp : sp_v5_stepArithmetic nf a1 v1 v17 v20 f14 f16 f13 = some (o13, o14, o16, w1, w20)) : Met l yX5_stepArithmetic (.code yX5_stepArithmetic cX5_stepArithmetic 4 none :: VS_h7) ({ frames := 2, cells := 0, slots := 0, locals := 44 }) (va_Pc [.ref h0, .int a1] (fun U => U.heap.size = sz ∧ va_P (dC, dI) vwCl [(h0, .inr (5, [.ref qf0, .int v1, .int v2, .int v3, .int v4, .int v5, .int v6, .int v7, .ref qf8, .ref qf9, .ref qf10, .ref qf11, .ref qf12, .ref qf13, .ref qf14, .ref qf15, .ref qf16, .int v17, .ref qf18, .int v19, .int v20])), (qf14, .inl (cf14, 60, .inl f14)), (qf16, .inl (cf16, 1800, .inl f16)), (qf13, .inl (cf13, 60, .inl f13))] U.heap ∧ va_K (dC, dI) vwCl [(cf14, .int), (cf16, .int), (cf13, .int)] U ∧ va_D (fun _ => True) [(h0, .inr (5, [.ref qf0, .int v1, .int v2, .int v3, .int v4, .int v5, .int v6, .int v7, .ref qf8, .ref qf9, .ref qf10, .ref qf11, .ref qf12, .ref qf13, .ref qf14, .ref qf15, .ref qf16, .int v17, .ref qf18, .int v19, .int v20])), (qf14, .inl (cf14, 60, .inl f14)), (qf16, .inl (cf16, 1800, .inl f16)), (qf13, .inl (cf13, 60, .inl f13))])) (va_Qv (fun (u : Unit) => match u with | () => True) (fun (u : Unit) (t : State) => match u with | () => va_P (dC, dI) vwCl [(h0, .inr (5, [.ref qf0, .int w1, .int v2, .int v3, .int v4, .int v5, .int v6, .int v7, .ref qf8, .ref qf9, .ref qf10, .ref qf11, .ref qf12, .ref qf13, .ref qf14, .ref qf15, .ref qf16, .int v17, .ref qf18, .int v19, .int w20])), (qf14, .inl (cf14, 60, .inl o14)), (qf16, .inl (cf16, 1800, .inl o16)), (qf13, .inl (cf13, 60, .inl o13))] t.heap ∧ va_K (dC, dI) vwCl [(cf14, .int), (cf16, .int), (cf13, .int)] t ∧ va_D (va_A [(h0, .inr (5, [.ref qf0, .int v1, .int v2, .int v3, .int v4, .int v5, .int v6, .int v7, .ref qf8, .ref qf9, .ref qf10, .ref qf11, .ref qf12, .ref qf13, .ref qf14, .ref qf15, .ref qf16, .int v17, .ref qf18, .int v19, .int v20])), (qf14, .inl (cf14, 60, .inl f14)), (qf16, .inl (cf16, 1800, .inl f16)), (qf13, .inl (cf13, 60, .inl f13))] sz) [(h0, .inr (5, [.ref qf0, .int w1, .int v2, .int v3, .int v4, .int v5, .int v6, .int v7, .ref qf8, .ref qf9, .ref qf10, .ref qf11, .ref qf12, .ref qf13, .ref qf14, .ref qf15, .ref qf16, .int v17, .ref qf18, .int v19, .int w20])), (qf14, .inl (cf14, 60, .inl o14)), (qf16, .inl (cf16, 1800, .inl o16)), (qf13, .inl (cf13, 60, .inl o13))]) (va_A [(h0, .inr (5, [.ref qf0, .int v1, .int v2, .int v3, .int v4, .int v5, .int v6, .int v7, .ref qf8, .ref qf9, .ref qf10, .ref qf11, .ref qf12, .ref qf13, .ref qf14, .ref qf15, .ref qf16, .int v17, .ref qf18, .int v19, .int v20])), (qf14, .inl (cf14, 60, .inl f14)), (qf16, .inl (cf16, 1800, .inl f16)), (qf13, .inl (cf13, 60, .inl f13))] sz)) 0 0 (va_A [(h0, .inr (5, [.ref qf0, .int v1, .int v2, .int v3, .int v4, .int v5, .int v6, .int v7, .ref qf8, .ref qf9, .ref qf10, .ref qf11, .ref qf12, .ref qf13, .ref qf14, .ref qf15, .ref qf16, .int v17, .ref qf18, .int v19, .int v20])), (qf14, .inl (cf14, 60, .inl f14)), (qf16, .inl (cf16, 1800, .inl f16)), (qf13, .inl (cf13, 60, .inl f13))] sz) := by
  refine Met.ofW (cc := cX5_stepArithmetic) (maxL := 4) (ret := none) (by decide) rfl ?_
  intro p e s m args below meth c s₁ B hml hv
  obtain ⟨rfl, hsz, hP, hK, hD0⟩ := hv
  have hx := B.exec
  have hb := B.bytes
  have hr := B.returns
  have hts := atoms_spec (ws := (.code yX5_stepArithmetic cX5_stepArithmetic 4 none :: VS_h7)) B.pre
  replace hts := fun w (h : w ∈ VS_h7) => hts w (List.mem_cons_of_mem _ h)
  have hown : s.vm.findClass RX5 = some m.cls := findClass_of_methodNamed B.named
  have hlocks := B.notSynchronized
  subst hsz
  have hD := hD0.self (sz := s.heap.size)
  generalize hAe : va_A [(h0, .inr (5, [.ref qf0, .int v1, .int v2, .int v3, .int v4, .int v5, .int v6, .int v7, .ref qf8, .ref qf9, .ref qf10, .ref qf11, .ref qf12, .ref qf13, .ref qf14, .ref qf15, .ref qf16, .int v17, .ref qf18, .int v19, .int v20])), (qf14, .inl (cf14, 60, .inl f14)), (qf16, .inl (cf16, 1800, .inl f16)), (qf13, .inl (cf13, 60, .inl f13))] s.heap.size = A at hD  ⊢
  have hA : ∀ q : Nat, s.heap.size ≤ q → A q := fun q h => by rw [← hAe]; exact Or.inr h
  have hP : va_P (dC, dI) vwCl [(h0, .inr (5, [.ref qf0, .int v1, .int v2, .int v3, .int v4, .int v5, .int v6, .int v7, .ref qf8, .ref qf9, .ref qf10, .ref qf11, .ref qf12, .ref qf13, .ref qf14, .ref qf15, .ref qf16, .int v17, .ref qf18, .int v19, .int v20])), (qf14, .inl (cf14, 60, .inl f14)), (qf16, .inl (cf16, 1800, .inl f16)), (qf13, .inl (cf13, 60, .inl f13))] s.heap := hP
  have hl := lv_entry ([.ref h0, .int a1]) (n := 4) (Nat.le_of_ble_eq_true rfl)
  rw [lg_entry_eq]
  generalize (lg_sl ([.ref h0, .int a1]) ++ List.replicate (4 - (lg_sl ([.ref h0, .int a1])).length) Slot.unset).toArray = ls at hl ⊢
  have hl : lv_has ls 4 [(0, .ref h0), (1, .int a1)] := hl
  obtain ⟨H, hH⟩ : ∃ H : Heap, s.heap = H := ⟨_, rfl⟩
  rw [hH] at hP ⊢
  have hS : va_S A s.heap H [] := by rw [← hH]; exact va_S.rf
  obtain ⟨locs, hlo⟩ : ∃ locs : List Loc, locs = [] := ⟨_, rfl⟩
  rw [← hlo] at hS ⊢
  unfold sp_v5_stepArithmetic at hsp
  refine lv_aload_n hx hb dX5_stepArithmetic_0 rfl (lv_at hl 0 rfl) ?_
  obtain ⟨⟨u1_0, g901_1, u1_2⟩, hu_1, hsp⟩ := ox_bind hsp
  try dsimp only at hsp
  have hPc := hP.sub (ws' := [(h0, .inr (5, [.ref qf0, .int v1, .int v2, .int v3, .int v4, .int v5, .int v6, .int v7, .ref qf8, .ref qf9, .ref qf10, .ref qf11, .ref qf12, .ref qf13, .ref qf14, .ref qf15, .ref qf16, .int v17, .ref qf18, .int v19, .int v20])), (qf14, .inl (cf14, 60, .inl f14)), (qf16, .inl (cf16, 1800, .inl f16))]) [0, 1, 2] rfl
  have hDc := hD.sub (ws' := [(h0, .inr (5, [.ref qf0, .int v1, .int v2, .int v3, .int v4, .int v5, .int v6, .int v7, .ref qf8, .ref qf9, .ref qf10, .ref qf11, .ref qf12, .ref qf13, .ref qf14, .ref qf15, .ref qf16, .int v17, .ref qf18, .int v19, .int v20])), (qf14, .inl (cf14, 60, .inl f14)), (qf16, .inl (cf16, 1800, .inl f16))]) [0, 1, 2] (by decide) rfl
  have hKc := hK.sub (tys' := [(cf14, .int), (cf16, .int)]) [0, 1] rfl
  have hFc := va_free (wc := [(h0, .inr (5, [.ref qf0, .int v1, .int v2, .int v3, .int v4, .int v5, .int v6, .int v7, .ref qf8, .ref qf9, .ref qf10, .ref qf11, .ref qf12, .ref qf13, .ref qf14, .ref qf15, .ref qf16, .int v17, .ref qf18, .int v19, .int v20])), (qf14, .inl (cf14, 60, .inl f14)), (qf16, .inl (cf16, 1800, .inl f16))]) hD hS hA [0, 1, 2] rfl
  refine va_calli (va_runV (As := []) (rest := []) ⟨hx, hb, hml, hown, hts⟩ (t5_pop l dC dI H.size h0 qf0 v1 v2 v3 v4 v5 v6 v7 qf8 qf9 qf10 qf11 qf12 qf13 qf14 qf15 qf16 v17 qf18 v19 v20 cf14 f14 cf16 f16 nf u1_0 g901_1 u1_2 hu_1) (cwV 0 hts gv_h7_52 rfl rfl rfl (by decide +kernel) ⟨Nat.le_of_ble_eq_true rfl, Nat.le_of_ble_eq_true rfl⟩) ⟨fun a U g mk q => by obtain ⟨q0, q1, qP, qK, qD⟩ := q; exact ⟨q0, q1, qP, va_K.moved (u := U) (U := U.calling g mk a) (Vm.Alike.refl U.vm) qK, qD⟩, va_recv hKc hPc (ci := 5) (q0 := 0) rfl rfl, fun U hU hW => ⟨rfl, by rw [hU], by rw [hU]; exact hPc, va_K.moved hW.alike hKc, hDc.weaken (fun _ _ _ _ => trivial)⟩⟩ rfl rfl hl.1 rfl (lv_room (Nat.le_of_ble_eq_true rfl)) dX5_stepArithmetic_1 ⟨Nat.le_of_ble_eq_true rfl, Nat.le_of_ble_eq_true rfl⟩) hS (fun q _ h => hFc q h) hFc ?_
  clear hS
  intro r_1 u t H1 locs ht hvm hw hB hz1 hk1 hS
  obtain ⟨⟩ := u
  obtain ⟨hP1, hK1, hD1⟩ := hB
  rw [ht] at hP1
  have hK1 := va_K.moved hvm.symm hK1
  try dsimp only at hw
  have hPD := va_join (wr := [(qf13, .inl (cf13, 60, .inl f13))]) (w1 := [(h0, .inr (5, [.ref qf0, .int u1_2, .int v2, .int v3, .int v4, .int v5, .int v6, .int v7, .ref qf8, .ref qf9, .ref qf10, .ref qf11, .ref qf12, .ref qf13, .ref qf14, .ref qf15, .ref qf16, .int v17, .ref qf18, .int v19, .int v20])), (qf14, .inl (cf14, 60, .inl g901_1)), (qf16, .inl (cf16, 1800, .inl f16))]) hP hD [0, 1, 2] [3] rfl rfl (by decide) (by decide) hk1 hFc hP1 hD1
  clear hP hD
  obtain ⟨hP, hD⟩ := hPD
  replace hK := (hK.sub (tys' := [(cf13, .int)]) [2] rfl).app hK1
  clear hPc hDc hKc hFc hP1 hK1 hD1 hz1 hk1 ht hvm
  generalize H1 = H at hP hS ⊢
  replace hP : va_P (dC, dI) vwCl [(qf13, .inl (cf13, 60, .inl f13)), (h0, .inr (5, [.ref qf0, .int u1_2, .int v2, .int v3, .int v4, .int v5, .int v6, .int v7, .ref qf8, .ref qf9, .ref qf10, .ref qf11, .ref qf12, .ref qf13, .ref qf14, .ref qf15, .ref qf16, .int v17, .ref qf18, .int v19, .int v20])), (qf14, .inl (cf14, 60, .inl g901_1)), (qf16, .inl (cf16, 1800, .inl f16))] H := hP
  replace hD : va_D A [(qf13, .inl (cf13, 60, .inl f13)), (h0, .inr (5, [.ref qf0, .int u1_2, .int v2, .int v3, .int v4, .int v5, .int v6, .int v7, .ref qf8, .ref qf9, .ref qf10, .ref qf11, .ref qf12, .ref qf13, .ref qf14, .ref qf15, .ref qf16, .int v17, .ref qf18, .int v19, .int v20])), (qf14, .inl (cf14, 60, .inl g901_1)), (qf16, .inl (cf16, 1800, .inl f16))] := hD
  replace hK : va_K (dC, dI) vwCl [(cf13, .int), (cf14, .int), (cf16, .int)] s := hK
  obtain rfl := hw
  refine lv_istore_n (lv' := [(2, .int u1_0), (0, .ref h0), (1, .int a1)]) hx hb dX5_stepArithmetic_4 rfl hl (by decide) rfl (fun ls hl => ?_)
  refine lv_aload_n hx hb dX5_stepArithmetic_5 rfl (lv_at hl 1 rfl) ?_
  obtain ⟨⟨u2_0, g902_1, u2_2⟩, hu_2, hsp⟩ := ox_bind hsp
  try dsimp only at hsp
  have hPc := hP.sub (ws' := [(h0, .inr (5, [.ref qf0, .int u1_2, .int v2, .int v3, .int v4, .int v5, .int v6, .int v7, .ref qf8, .ref qf9, .ref qf10, .ref qf11, .ref qf12, .ref qf13, .ref qf14, .ref qf15, .ref qf16, .int v17, .ref qf18, .int v19, .int v20])), (qf14, .inl (cf14, 60, .inl g901_1)), (qf16, .inl (cf16, 1800, .inl f16))]) [1, 2, 3] rfl
  have hDc := hD.sub (ws' := [(h0, .inr (5, [.ref qf0, .int u1_2, .int v2, .int v3, .int v4, .int v5, .int v6, .int v7, .ref qf8, .ref qf9, .ref qf10, .ref qf11, .ref qf12, .ref qf13, .ref qf14, .ref qf15, .ref qf16, .int v17, .ref qf18, .int v19, .int v20])), (qf14, .inl (cf14, 60, .inl g901_1)), (qf16, .inl (cf16, 1800, .inl f16))]) [1, 2, 3] (by decide) rfl
  have hKc := hK.sub (tys' := [(cf14, .int), (cf16, .int)]) [1, 2] rfl
  have hFc := va_free (wc := [(h0, .inr (5, [.ref qf0, .int u1_2, .int v2, .int v3, .int v4, .int v5, .int v6, .int v7, .ref qf8, .ref qf9, .ref qf10, .ref qf11, .ref qf12, .ref qf13, .ref qf14, .ref qf15, .ref qf16, .int v17, .ref qf18, .int v19, .int v20])), (qf14, .inl (cf14, 60, .inl g901_1)), (qf16, .inl (cf16, 1800, .inl f16))]) hD hS hA [1, 2, 3] rfl
  refine va_calli (va_runV (As := []) (rest := []) ⟨hx, hb, hml, hown, hts⟩ (t5_pop l dC dI H.size h0 qf0 u1_2 v2 v3 v4 v5 v6 v7 qf8 qf9 qf10 qf11 qf12 qf13 qf14 qf15 qf16 v17 qf18 v19 v20 cf14 g901_1 cf16 f16 nf u2_0 g902_1 u2_2 hu_2) (cwV 0 hts gv_h7_52 rfl rfl rfl (by decide +kernel) ⟨Nat.le_of_ble_eq_true rfl, Nat.le_of_ble_eq_true rfl⟩) ⟨fun a U g mk q => by obtain ⟨q0, q1, qP, qK, qD⟩ := q; exact ⟨q0, q1, qP, va_K.moved (u := U) (U := U.calling g mk a) (Vm.Alike.refl U.vm) qK, qD⟩, va_recv hKc hPc (ci := 5) (q0 := 0) rfl rfl, fun U hU hW => ⟨rfl, by rw [hU], by rw [hU]; exact hPc, va_K.moved hW.alike hKc, hDc.weaken (fun _ _ _ _ => trivial)⟩⟩ rfl rfl hl.1 rfl (lv_room (Nat.le_of_ble_eq_true rfl)) dX5_stepArithmetic_6 ⟨Nat.le_of_ble_eq_true rfl, Nat.le_of_ble_eq_true rfl⟩) hS (fun q _ h => hFc q h) hFc ?_
  clear hS
  intro r_2 u t H1 locs ht hvm hw hB hz1 hk1 hS
  obtain ⟨⟩ := u
  obtain ⟨hP1, hK1, hD1⟩ := hB
  rw [ht] at hP1
  have hK1 := va_K.moved hvm.symm hK1
  try dsimp only at hw
  have hPD := va_join (wr := [(qf13, .inl (cf13, 60, .inl f13))]) (w1 := [(h0, .inr (5, [.ref qf0, .int u2_2, .int v2, .int v3, .int v4, .int v5, .int v6, .int v7, .ref qf8, .ref qf9, .ref qf10, .ref qf11, .ref qf12, .ref qf13, .ref qf14, .ref qf15, .ref qf16, .int v17, .ref qf18, .int v19, .int v20])), (qf14, .inl (cf14, 60, .inl g902_1)), (qf16, .inl (cf16, 1800, .inl f16))]) hP hD [1, 2, 3] [0] rfl rfl (by decide) (by decide) hk1 hFc hP1 hD1
  clear hP hD
  obtain ⟨hP, hD⟩ := hPD
  replace hK := (hK.sub (tys' := [(cf13, .int)]) [0] rfl).app hK1
  clear hPc hDc hKc hFc hP1 hK1 hD1 hz1 hk1 ht hvm
  generalize H1 = H at hP hS ⊢
  replace hP : va_P (dC, dI) vwCl [(qf13, .inl (cf13, 60, .inl f13)), (h0, .inr (5, [.ref qf0, .int u2_2, .int v2, .int v3, .int v4, .int v5, .int v6, .int v7, .ref qf8, .ref qf9, .ref qf10, .ref qf11, .ref qf12, .ref qf13, .ref qf14, .ref qf15, .ref qf16, .int v17, .ref qf18, .int v19, .int v20])), (qf14, .inl (cf14, 60, .inl g902_1)), (qf16, .inl (cf16, 1800, .inl f16))] H := hP
  replace hD : va_D A [(qf13, .inl (cf13, 60, .inl f13)), (h0, .inr (5, [.ref qf0, .int u2_2, .int v2, .int v3, .int v4, .int v5, .int v6, .int v7, .ref qf8, .ref qf9, .ref qf10, .ref qf11, .ref qf12, .ref qf13, .ref qf14, .ref qf15, .ref qf16, .int v17, .ref qf18, .int v19, .int v20])), (qf14, .inl (cf14, 60, .inl g902_1)), (qf16, .inl (cf16, 1800, .inl f16))] := hD
  replace hK : va_K (dC, dI) vwCl [(cf13, .int), (cf14, .int), (cf16, .int)] s := hK
  obtain rfl := hw
  refine lv_istore_n (lv' := [(3, .int u2_0), (2, .int u1_0), (0, .ref h0), (1, .int a1)]) hx hb dX5_stepArithmetic_9 rfl hl (by decide) rfl (fun ls hl => ?_)
  refine lv_iload_n hx hb dX5_stepArithmetic_10 rfl (lv_at hl 1 rfl) ?_
  refine lv_if_ne (tgt := 35) hx hb dX5_stepArithmetic_11 (by decide) (fun c_3 => ?_) (fun c_3 => ?_)
  · rw [if_neg c_3] at hsp
    refine lv_aload_n hx hb dX5_stepArithmetic_35 rfl (lv_at hl 2 rfl) ?_
    refine lv_iload_n hx hb dX5_stepArithmetic_36 rfl (lv_at hl 3 rfl) ?_
    refine lv_iload_n hx hb dX5_stepArithmetic_37 rfl (lv_at hl 0 rfl) ?_
    refine lv_iload_n hx hb dX5_stepArithmetic_38 rfl (lv_at hl 1 rfl) ?_
    obtain ⟨u3_0, hu_3, hsp⟩ := ox_bind hsp
    try dsimp only at hsp
    have hPc := hP.sub (ws' := []) [] rfl
    have hDc := hD.sub (ws' := []) [] (by decide) rfl
    have hKc := hK.sub (tys' := []) [] rfl
    have hFc := va_free (wc := []) hD hS hA [] rfl
    refine va_calli (va_runS (As := [.int a1, .int u2_0, .int u1_0]) (rest := [.ref h0]) ⟨hx, hb, hml, hown, hts⟩ (v5_computed l dC dI H.size a1 u2_0 u1_0 nf u3_0 hu_3) (va_cwS 3 hts gv_h7_123 rfl rfl rfl (by decide +kernel) ⟨Nat.le_of_ble_eq_true rfl, Nat.le_of_ble_eq_true rfl⟩) ⟨fun a U g mk q => by obtain ⟨q0, q1, qP, qK, qD⟩ := q; exact ⟨q0, q1, qP, va_K.moved (u := U) (U := U.calling g mk a) (Vm.Alike.refl U.vm) qK, qD⟩, fun U hU hW => ⟨rfl, by rw [hU], by rw [hU]; exact hPc, va_K.moved hW.alike hKc, hDc.weaken (fun _ _ _ _ => trivial)⟩⟩ rfl rfl hl.1 rfl (lv_room (Nat.le_of_ble_eq_true rfl)) dX5_stepArithmetic_39 ⟨Nat.le_of_ble_eq_true rfl, Nat.le_of_ble_eq_true rfl⟩) hS (fun q _ h => hFc q h) hFc ?_
    clear hS
    intro r_4 u t H1 locs ht hvm hw hB hz1 hk1 hS
    obtain ⟨⟩ := u
    obtain ⟨hP1, hK1, hD1⟩ := hB
    rw [ht] at hP1
    have hK1 := va_K.moved hvm.symm hK1
    try dsimp only at hw
    have hPD := va_join (wr := [(qf13, .inl (cf13, 60, .inl f13)), (h0, .inr (5, [.ref qf0, .int u2_2, .int v2, .int v3, .int v4, .int v5, .int v6, .int v7, .ref qf8, .ref qf9, .ref qf10, .ref qf11, .ref qf12, .ref qf13, .ref qf14, .ref qf15, .ref qf16, .int v17, .ref qf18, .int v19, .int v20])), (qf14, .inl (cf14, 60, .inl g902_1)), (qf16, .inl (cf16, 1800, .inl f16))]) (w1 := []) hP hD [] [0, 1, 2, 3] rfl rfl (by decide) (by decide) hk1 hFc hP1 hD1
    clear hP hD
    obtain ⟨hP, hD⟩ := hPD
    replace hK := (hK.sub (tys' := [(cf13, .int), (cf14, .int), (cf16, .int)]) [0, 1, 2] rfl).app hK1
    clear hPc hDc hKc hFc hP1 hK1 hD1 hz1 hk1 ht hvm
    generalize H1 = H at hP hS ⊢
    replace hP : va_P (dC, dI) vwCl [(qf13, .inl (cf13, 60, .inl f13)), (h0, .inr (5, [.ref qf0, .int u2_2, .int v2, .int v3, .int v4, .int v5, .int v6, .int v7, .ref qf8, .ref qf9, .ref qf10, .ref qf11, .ref qf12, .ref qf13, .ref qf14, .ref qf15, .ref qf16, .int v17, .ref qf18, .int v19, .int v20])), (qf14, .inl (cf14, 60, .inl g902_1)), (qf16, .inl (cf16, 1800, .inl f16))] H := hP
    replace hD : va_D A [(qf13, .inl (cf13, 60, .inl f13)), (h0, .inr (5, [.ref qf0, .int u2_2, .int v2, .int v3, .int v4, .int v5, .int v6, .int v7, .ref qf8, .ref qf9, .ref qf10, .ref qf11, .ref qf12, .ref qf13, .ref qf14, .ref qf15, .ref qf16, .int v17, .ref qf18, .int v19, .int v20])), (qf14, .inl (cf14, 60, .inl g902_1)), (qf16, .inl (cf16, 1800, .inl f16))] := hD
    replace hK : va_K (dC, dI) vwCl [(cf13, .int), (cf14, .int), (cf16, .int)] s := hK
    obtain rfl := hw
    refine lv_iconst (v := 1) hx hb dX5_stepArithmetic_42 (by decide) ?_
    obtain ⟨⟨g904_0, g904_1, g904_2, u4_3⟩, hu_4, hsp⟩ := ox_bind hsp
    try dsimp only at hsp
    have hPc := hP.sub (ws' := [(h0, .inr (5, [.ref qf0, .int u2_2, .int v2, .int v3, .int v4, .int v5, .int v6, .int v7, .ref qf8, .ref qf9, .ref qf10, .ref qf11, .ref qf12, .ref qf13, .ref qf14, .ref qf15, .ref qf16, .int v17, .ref qf18, .int v19, .int v20])), (qf14, .inl (cf14, 60, .inl g902_1)), (qf16, .inl (cf16, 1800, .inl f16)), (qf13, .inl (cf13, 60, .inl f13))]) [1, 2, 3, 0] rfl
    have hDc := hD.sub (ws' := [(h0, .inr (5, [.ref qf0, .int u2_2, .int v2, .int v3, .int v4, .int v5, .int v6, .int v7, .ref qf8, .ref qf9, .ref qf10, .ref qf11, .ref qf12, .ref qf13, .ref qf14, .ref qf15, .ref qf16, .int v17, .ref qf18, .int v19, .int v20])), (qf14, .inl (cf14, 60, .inl g902_1)), (qf16, .inl (cf16, 1800, .inl f16)), (qf13, .inl (cf13, 60, .inl f13))]) [1, 2, 3, 0] (by decide) rfl
    have hKc := hK.sub (tys' := [(cf14, .int), (cf16, .int), (cf13, .int)]) [1, 2, 0] rfl
    have hFc := va_free (wc := [(h0, .inr (5, [.ref qf0, .int u2_2, .int v2, .int v3, .int v4, .int v5, .int v6, .int v7, .ref qf8, .ref qf9, .ref qf10, .ref qf11, .ref qf12, .ref qf13, .ref qf14, .ref qf15, .ref qf16, .int v17, .ref qf18, .int v19, .int v20])), (qf14, .inl (cf14, 60, .inl g902_1)), (qf16, .inl (cf16, 1800, .inl f16)), (qf13, .inl (cf13, 60, .inl f13))]) hD hS hA [1, 2, 3, 0] rfl
    refine va_callv (va_runV (As := [.int u3_0, .int 1]) (rest := []) ⟨hx, hb, hml, hown, hts⟩ (t5_give l dC dI H.size h0 u3_0 1 qf0 u2_2 v2 v3 v4 v5 v6 v7 qf8 qf9 qf10 qf11 qf12 qf13 qf14 qf15 qf16 v17 qf18 v19 v20 cf14 g902_1 cf16 f16 cf13 f13 nf g904_0 g904_1 g904_2 u4_3 hu_4) (cwV 2 hts gv_h7_51 rfl rfl rfl (by decide +kernel) ⟨Nat.le_of_ble_eq_true rfl, Nat.le_of_ble_eq_true rfl⟩) ⟨fun a U g mk q => by obtain ⟨q0, q1, qP, qK, qD⟩ := q; exact ⟨q0, q1, qP, va_K.moved (u := U) (U := U.calling g mk a) (Vm.Alike.refl U.vm) qK, qD⟩, va_recv hKc hPc (ci := 5) (q0 := 0) rfl rfl, fun U hU hW => ⟨rfl, by rw [hU], by rw [hU]; exact hPc, va_K.moved hW.alike hKc, hDc.weaken (fun _ _ _ _ => trivial)⟩⟩ rfl rfl hl.1 rfl (lv_room (Nat.le_of_ble_eq_true rfl)) dX5_stepArithmetic_43 ⟨Nat.le_of_ble_eq_true rfl, Nat.le_of_ble_eq_true rfl⟩) hS (fun q _ h => hFc q h) hFc ?_
    clear hS
    intro u t H1 locs ht hvm hw hB hz1 hk1 hS
    obtain ⟨⟩ := u
    obtain ⟨hP1, hK1, hD1⟩ := hB
    rw [ht] at hP1
    have hK1 := va_K.moved hvm.symm hK1
    try dsimp only at hw
    have hPD := va_join (wr := []) (w1 := [(h0, .inr (5, [.ref qf0, .int u4_3, .int v2, .int v3, .int v4, .int v5, .int v6, .int v7, .ref qf8, .ref qf9, .ref qf10, .ref qf11, .ref qf12, .ref qf13, .ref qf14, .ref qf15, .ref qf16, .int v17, .ref qf18, .int v19, .int v20])), (qf14, .inl (cf14, 60, .inl g904_1)), (qf16, .inl (cf16, 1800, .inl g904_2)), (qf13, .inl (cf13, 60, .inl g904_0))]) hP hD [1, 2, 3, 0] [] rfl rfl (by decide) (by decide) hk1 hFc hP1 hD1
    clear hP hD
    obtain ⟨hP, hD⟩ := hPD
    replace hK := (hK.sub (tys' := []) [] rfl).app hK1
    clear hPc hDc hKc hFc hP1 hK1 hD1 hz1 hk1 ht hvm
    generalize H1 = H at hP hS ⊢
    replace hP : va_P (dC, dI) vwCl [(h0, .inr (5, [.ref qf0, .int u4_3, .int v2, .int v3, .int v4, .int v5, .int v6, .int v7, .ref qf8, .ref qf9, .ref qf10, .ref qf11, .ref qf12, .ref qf13, .ref qf14, .ref qf15, .ref qf16, .int v17, .ref qf18, .int v19, .int v20])), (qf14, .inl (cf14, 60, .inl g904_1)), (qf16, .inl (cf16, 1800, .inl g904_2)), (qf13, .inl (cf13, 60, .inl g904_0))] H := hP
    replace hD : va_D A [(h0, .inr (5, [.ref qf0, .int u4_3, .int v2, .int v3, .int v4, .int v5, .int v6, .int v7, .ref qf8, .ref qf9, .ref qf10, .ref qf11, .ref qf12, .ref qf13, .ref qf14, .ref qf15, .ref qf16, .int v17, .ref qf18, .int v19, .int v20])), (qf14, .inl (cf14, 60, .inl g904_1)), (qf16, .inl (cf16, 1800, .inl g904_2)), (qf13, .inl (cf13, 60, .inl g904_0))] := hD
    replace hK : va_K (dC, dI) vwCl [(cf14, .int), (cf16, .int), (cf13, .int)] s := hK
    have hr0 := Option.some.inj hsp
    clear hsp
    obtain ⟨hq0, hr1⟩ := Prod.mk.inj hr0
    clear hr0
    obtain ⟨hq1, hr2⟩ := Prod.mk.inj hr1
    clear hr1
    obtain ⟨hq2, hr3⟩ := Prod.mk.inj hr2
    clear hr2
    obtain ⟨hq3, hr4⟩ := Prod.mk.inj hr3
    clear hr3
    subst hq0
    subst hq1
    subst hq2
    subst hq3
    subst hr4
    have hP9 := hP.sub (ws' := [(h0, .inr (5, [.ref qf0, .int u4_3, .int v2, .int v3, .int v4, .int v5, .int v6, .int v7, .ref qf8, .ref qf9, .ref qf10, .ref qf11, .ref qf12, .ref qf13, .ref qf14, .ref qf15, .ref qf16, .int v17, .ref qf18, .int v19, .int v20])), (qf14, .inl (cf14, 60, .inl g904_1)), (qf16, .inl (cf16, 1800, .inl g904_2)), (qf13, .inl (cf13, 60, .inl g904_0))]) [0, 1, 2, 3] rfl
    have hD9 := hD.sub (ws' := [(h0, .inr (5, [.ref qf0, .int u4_3, .int v2, .int v3, .int v4, .int v5, .int v6, .int v7, .ref qf8, .ref qf9, .ref qf10, .ref qf11, .ref qf12, .ref qf13, .ref qf14, .ref qf15, .ref qf16, .int v17, .ref qf18, .int v19, .int v20])), (qf14, .inl (cf14, 60, .inl g904_1)), (qf16, .inl (cf16, 1800, .inl g904_2)), (qf13, .inl (cf13, 60, .inl g904_0))]) [0, 1, 2, 3] (by decide) rfl
    have hK9 := hK.sub (tys' := [(cf14, .int), (cf16, .int), (cf13, .int)]) [0, 1, 2] rfl
    exact W.vret hx hb hr (fun t ht hW => ⟨⟨(), rfl, trivial, by rw [ht]; exact hP9, va_K.moved hW.alike hK9, hD9⟩, hS.F ht⟩) hS.2.2 dX5_stepArithmetic_46
  · rw [if_pos c_3] at hsp
    refine lv_iload_n hx hb dX5_stepArithmetic_14 rfl (lv_at hl 3 rfl) ?_
    refine lv_bipush (v := 108) hx hb dX5_stepArithmetic_15 (by decide) ?_
    refine lv_icmp_eq (tgt := 26) hx hb dX5_stepArithmetic_17 (by decide) (fun c_5 => ?_) (fun c_5 => ?_)
    · rw [if_pos c_5] at hsp
      refine lv_aload_n hx hb dX5_stepArithmetic_26 rfl (lv_at hl 2 rfl) ?_
      refine lv_bipush (v := (-4)) hx hb dX5_stepArithmetic_27 (by decide) ?_
      refine va_put (D := (dC, dI)) (ci := 5) (v := .int (-4)) (ty := .int) (C := RX5) (T := TX5) (N := 21) hx hb hts uV_h7_X5 tyX5 tyX5_ok nmX5 hown hK hP hD hS 1 rfl rfl 20 (by decide) (hts (.fieldLink RX5 86 "ClassMill$Machine" "thrown" "I") mw_h7_272) (fun _ h9 => h9) rfl (by decide +kernel) rfl rfl (Nat.le_of_ble_eq_true rfl) dX5_stepArithmetic_29 ?_
      clear hP hD hS
      intro H locs hP hD hS
      replace hP : va_P (dC, dI) vwCl [(qf13, .inl (cf13, 60, .inl f13)), (h0, .inr (5, [.ref qf0, .int u2_2, .int v2, .int v3, .int v4, .int v5, .int v6, .int v7, .ref qf8, .ref qf9, .ref qf10, .ref qf11, .ref qf12, .ref qf13, .ref qf14, .ref qf15, .ref qf16, .int v17, .ref qf18, .int v19, .int (-4)])), (qf14, .inl (cf14, 60, .inl g902_1)), (qf16, .inl (cf16, 1800, .inl f16))] H := hP
      replace hD : va_D A [(qf13, .inl (cf13, 60, .inl f13)), (h0, .inr (5, [.ref qf0, .int u2_2, .int v2, .int v3, .int v4, .int v5, .int v6, .int v7, .ref qf8, .ref qf9, .ref qf10, .ref qf11, .ref qf12, .ref qf13, .ref qf14, .ref qf15, .ref qf16, .int v17, .ref qf18, .int v19, .int (-4)])), (qf14, .inl (cf14, 60, .inl g902_1)), (qf16, .inl (cf16, 1800, .inl f16))] := hD
      refine lv_goto (tgt := 46) hx hb dX5_stepArithmetic_32 (by decide) ?_
      have hr0 := Option.some.inj hsp
      clear hsp
      obtain ⟨hq0, hr1⟩ := Prod.mk.inj hr0
      clear hr0
      obtain ⟨hq1, hr2⟩ := Prod.mk.inj hr1
      clear hr1
      obtain ⟨hq2, hr3⟩ := Prod.mk.inj hr2
      clear hr2
      obtain ⟨hq3, hr4⟩ := Prod.mk.inj hr3
      clear hr3
      subst hq0
      subst hq1
      subst hq2
      subst hq3
      subst hr4
      have hP9 := hP.sub (ws' := [(h0, .inr (5, [.ref qf0, .int u2_2, .int v2, .int v3, .int v4, .int v5, .int v6, .int v7, .ref qf8, .ref qf9, .ref qf10, .ref qf11, .ref qf12, .ref qf13, .ref qf14, .ref qf15, .ref qf16, .int v17, .ref qf18, .int v19, .int (-4)])), (qf14, .inl (cf14, 60, .inl g902_1)), (qf16, .inl (cf16, 1800, .inl f16)), (qf13, .inl (cf13, 60, .inl f13))]) [1, 2, 3, 0] rfl
      have hD9 := hD.sub (ws' := [(h0, .inr (5, [.ref qf0, .int u2_2, .int v2, .int v3, .int v4, .int v5, .int v6, .int v7, .ref qf8, .ref qf9, .ref qf10, .ref qf11, .ref qf12, .ref qf13, .ref qf14, .ref qf15, .ref qf16, .int v17, .ref qf18, .int v19, .int (-4)])), (qf14, .inl (cf14, 60, .inl g902_1)), (qf16, .inl (cf16, 1800, .inl f16)), (qf13, .inl (cf13, 60, .inl f13))]) [1, 2, 3, 0] (by decide) rfl
      have hK9 := hK.sub (tys' := [(cf14, .int), (cf16, .int), (cf13, .int)]) [1, 2, 0] rfl
      exact W.vret hx hb hr (fun t ht hW => ⟨⟨(), rfl, trivial, by rw [ht]; exact hP9, va_K.moved hW.alike hK9, hD9⟩, hS.F ht⟩) hS.2.2 dX5_stepArithmetic_46
    · rw [if_neg c_5] at hsp
      refine lv_iload_n hx hb dX5_stepArithmetic_20 rfl (lv_at hl 3 rfl) ?_
      refine lv_bipush (v := 112) hx hb dX5_stepArithmetic_21 (by decide) ?_
      refine lv_icmp_ne (tgt := 35) hx hb dX5_stepArithmetic_23 (by decide) (fun c_6 => ?_) (fun c_6 => ?_)
      · rw [if_neg c_6] at hsp
        refine lv_aload_n hx hb dX5_stepArithmetic_35 rfl (lv_at hl 2 rfl) ?_
        refine lv_iload_n hx hb dX5_stepArithmetic_36 rfl (lv_at hl 3 rfl) ?_
        refine lv_iload_n hx hb dX5_stepArithmetic_37 rfl (lv_at hl 0 rfl) ?_
        refine lv_iload_n hx hb dX5_stepArithmetic_38 rfl (lv_at hl 1 rfl) ?_
        obtain ⟨u5_0, hu_5, hsp⟩ := ox_bind hsp
        try dsimp only at hsp
        have hPc := hP.sub (ws' := []) [] rfl
        have hDc := hD.sub (ws' := []) [] (by decide) rfl
        have hKc := hK.sub (tys' := []) [] rfl
        have hFc := va_free (wc := []) hD hS hA [] rfl
        refine va_calli (va_runS (As := [.int a1, .int u2_0, .int u1_0]) (rest := [.ref h0]) ⟨hx, hb, hml, hown, hts⟩ (v5_computed l dC dI H.size a1 u2_0 u1_0 nf u5_0 hu_5) (va_cwS 3 hts gv_h7_123 rfl rfl rfl (by decide +kernel) ⟨Nat.le_of_ble_eq_true rfl, Nat.le_of_ble_eq_true rfl⟩) ⟨fun a U g mk q => by obtain ⟨q0, q1, qP, qK, qD⟩ := q; exact ⟨q0, q1, qP, va_K.moved (u := U) (U := U.calling g mk a) (Vm.Alike.refl U.vm) qK, qD⟩, fun U hU hW => ⟨rfl, by rw [hU], by rw [hU]; exact hPc, va_K.moved hW.alike hKc, hDc.weaken (fun _ _ _ _ => trivial)⟩⟩ rfl rfl hl.1 rfl (lv_room (Nat.le_of_ble_eq_true rfl)) dX5_stepArithmetic_39 ⟨Nat.le_of_ble_eq_true rfl, Nat.le_of_ble_eq_true rfl⟩) hS (fun q _ h => hFc q h) hFc ?_
        clear hS
        intro r_7 u t H1 locs ht hvm hw hB hz1 hk1 hS
        obtain ⟨⟩ := u
        obtain ⟨hP1, hK1, hD1⟩ := hB
        rw [ht] at hP1
        have hK1 := va_K.moved hvm.symm hK1
        try dsimp only at hw
        have hPD := va_join (wr := [(qf13, .inl (cf13, 60, .inl f13)), (h0, .inr (5, [.ref qf0, .int u2_2, .int v2, .int v3, .int v4, .int v5, .int v6, .int v7, .ref qf8, .ref qf9, .ref qf10, .ref qf11, .ref qf12, .ref qf13, .ref qf14, .ref qf15, .ref qf16, .int v17, .ref qf18, .int v19, .int v20])), (qf14, .inl (cf14, 60, .inl g902_1)), (qf16, .inl (cf16, 1800, .inl f16))]) (w1 := []) hP hD [] [0, 1, 2, 3] rfl rfl (by decide) (by decide) hk1 hFc hP1 hD1
        clear hP hD
        obtain ⟨hP, hD⟩ := hPD
        replace hK := (hK.sub (tys' := [(cf13, .int), (cf14, .int), (cf16, .int)]) [0, 1, 2] rfl).app hK1
        clear hPc hDc hKc hFc hP1 hK1 hD1 hz1 hk1 ht hvm
        generalize H1 = H at hP hS ⊢
        replace hP : va_P (dC, dI) vwCl [(qf13, .inl (cf13, 60, .inl f13)), (h0, .inr (5, [.ref qf0, .int u2_2, .int v2, .int v3, .int v4, .int v5, .int v6, .int v7, .ref qf8, .ref qf9, .ref qf10, .ref qf11, .ref qf12, .ref qf13, .ref qf14, .ref qf15, .ref qf16, .int v17, .ref qf18, .int v19, .int v20])), (qf14, .inl (cf14, 60, .inl g902_1)), (qf16, .inl (cf16, 1800, .inl f16))] H := hP
        replace hD : va_D A [(qf13, .inl (cf13, 60, .inl f13)), (h0, .inr (5, [.ref qf0, .int u2_2, .int v2, .int v3, .int v4, .int v5, .int v6, .int v7, .ref qf8, .ref qf9, .ref qf10, .ref qf11, .ref qf12, .ref qf13, .ref qf14, .ref qf15, .ref qf16, .int v17, .ref qf18, .int v19, .int v20])), (qf14, .inl (cf14, 60, .inl g902_1)), (qf16, .inl (cf16, 1800, .inl f16))] := hD
        replace hK : va_K (dC, dI) vwCl [(cf13, .int), (cf14, .int), (cf16, .int)] s := hK
        obtain rfl := hw
        refine lv_iconst (v := 1) hx hb dX5_stepArithmetic_42 (by decide) ?_
        obtain ⟨⟨g906_0, g906_1, g906_2, u6_3⟩, hu_6, hsp⟩ := ox_bind hsp
        try dsimp only at hsp
        have hPc := hP.sub (ws' := [(h0, .inr (5, [.ref qf0, .int u2_2, .int v2, .int v3, .int v4, .int v5, .int v6, .int v7, .ref qf8, .ref qf9, .ref qf10, .ref qf11, .ref qf12, .ref qf13, .ref qf14, .ref qf15, .ref qf16, .int v17, .ref qf18, .int v19, .int v20])), (qf14, .inl (cf14, 60, .inl g902_1)), (qf16, .inl (cf16, 1800, .inl f16)), (qf13, .inl (cf13, 60, .inl f13))]) [1, 2, 3, 0] rfl
        have hDc := hD.sub (ws' := [(h0, .inr (5, [.ref qf0, .int u2_2, .int v2, .int v3, .int v4, .int v5, .int v6, .int v7, .ref qf8, .ref qf9, .ref qf10, .ref qf11, .ref qf12, .ref qf13, .ref qf14, .ref qf15, .ref qf16, .int v17, .ref qf18, .int v19, .int v20])), (qf14, .inl (cf14, 60, .inl g902_1)), (qf16, .inl (cf16, 1800, .inl f16)), (qf13, .inl (cf13, 60, .inl f13))]) [1, 2, 3, 0] (by decide) rfl
        have hKc := hK.sub (tys' := [(cf14, .int), (cf16, .int), (cf13, .int)]) [1, 2, 0] rfl
        have hFc := va_free (wc := [(h0, .inr (5, [.ref qf0, .int u2_2, .int v2, .int v3, .int v4, .int v5, .int v6, .int v7, .ref qf8, .ref qf9, .ref qf10, .ref qf11, .ref qf12, .ref qf13, .ref qf14, .ref qf15, .ref qf16, .int v17, .ref qf18, .int v19, .int v20])), (qf14, .inl (cf14, 60, .inl g902_1)), (qf16, .inl (cf16, 1800, .inl f16)), (qf13, .inl (cf13, 60, .inl f13))]) hD hS hA [1, 2, 3, 0] rfl
        refine va_callv (va_runV (As := [.int u5_0, .int 1]) (rest := []) ⟨hx, hb, hml, hown, hts⟩ (t5_give l dC dI H.size h0 u5_0 1 qf0 u2_2 v2 v3 v4 v5 v6 v7 qf8 qf9 qf10 qf11 qf12 qf13 qf14 qf15 qf16 v17 qf18 v19 v20 cf14 g902_1 cf16 f16 cf13 f13 nf g906_0 g906_1 g906_2 u6_3 hu_6) (cwV 2 hts gv_h7_51 rfl rfl rfl (by decide +kernel) ⟨Nat.le_of_ble_eq_true rfl, Nat.le_of_ble_eq_true rfl⟩) ⟨fun a U g mk q => by obtain ⟨q0, q1, qP, qK, qD⟩ := q; exact ⟨q0, q1, qP, va_K.moved (u := U) (U := U.calling g mk a) (Vm.Alike.refl U.vm) qK, qD⟩, va_recv hKc hPc (ci := 5) (q0 := 0) rfl rfl, fun U hU hW => ⟨rfl, by rw [hU], by rw [hU]; exact hPc, va_K.moved hW.alike hKc, hDc.weaken (fun _ _ _ _ => trivial)⟩⟩ rfl rfl hl.1 rfl (lv_room (Nat.le_of_ble_eq_true rfl)) dX5_stepArithmetic_43 ⟨Nat.le_of_ble_eq_true rfl, Nat.le_of_ble_eq_true rfl⟩) hS (fun q _ h => hFc q h) hFc ?_
        clear hS
        intro u t H1 locs ht hvm hw hB hz1 hk1 hS
        obtain ⟨⟩ := u
        obtain ⟨hP1, hK1, hD1⟩ := hB
        rw [ht] at hP1
        have hK1 := va_K.moved hvm.symm hK1
        try dsimp only at hw
        have hPD := va_join (wr := []) (w1 := [(h0, .inr (5, [.ref qf0, .int u6_3, .int v2, .int v3, .int v4, .int v5, .int v6, .int v7, .ref qf8, .ref qf9, .ref qf10, .ref qf11, .ref qf12, .ref qf13, .ref qf14, .ref qf15, .ref qf16, .int v17, .ref qf18, .int v19, .int v20])), (qf14, .inl (cf14, 60, .inl g906_1)), (qf16, .inl (cf16, 1800, .inl g906_2)), (qf13, .inl (cf13, 60, .inl g906_0))]) hP hD [1, 2, 3, 0] [] rfl rfl (by decide) (by decide) hk1 hFc hP1 hD1
        clear hP hD
        obtain ⟨hP, hD⟩ := hPD
        replace hK := (hK.sub (tys' := []) [] rfl).app hK1
        clear hPc hDc hKc hFc hP1 hK1 hD1 hz1 hk1 ht hvm
        generalize H1 = H at hP hS ⊢
        replace hP : va_P (dC, dI) vwCl [(h0, .inr (5, [.ref qf0, .int u6_3, .int v2, .int v3, .int v4, .int v5, .int v6, .int v7, .ref qf8, .ref qf9, .ref qf10, .ref qf11, .ref qf12, .ref qf13, .ref qf14, .ref qf15, .ref qf16, .int v17, .ref qf18, .int v19, .int v20])), (qf14, .inl (cf14, 60, .inl g906_1)), (qf16, .inl (cf16, 1800, .inl g906_2)), (qf13, .inl (cf13, 60, .inl g906_0))] H := hP
        replace hD : va_D A [(h0, .inr (5, [.ref qf0, .int u6_3, .int v2, .int v3, .int v4, .int v5, .int v6, .int v7, .ref qf8, .ref qf9, .ref qf10, .ref qf11, .ref qf12, .ref qf13, .ref qf14, .ref qf15, .ref qf16, .int v17, .ref qf18, .int v19, .int v20])), (qf14, .inl (cf14, 60, .inl g906_1)), (qf16, .inl (cf16, 1800, .inl g906_2)), (qf13, .inl (cf13, 60, .inl g906_0))] := hD
        replace hK : va_K (dC, dI) vwCl [(cf14, .int), (cf16, .int), (cf13, .int)] s := hK
        have hr0 := Option.some.inj hsp
        clear hsp
        obtain ⟨hq0, hr1⟩ := Prod.mk.inj hr0
        clear hr0
        obtain ⟨hq1, hr2⟩ := Prod.mk.inj hr1
        clear hr1
        obtain ⟨hq2, hr3⟩ := Prod.mk.inj hr2
        clear hr2
        obtain ⟨hq3, hr4⟩ := Prod.mk.inj hr3
        clear hr3
        subst hq0
        subst hq1
        subst hq2
        subst hq3
        subst hr4
        have hP9 := hP.sub (ws' := [(h0, .inr (5, [.ref qf0, .int u6_3, .int v2, .int v3, .int v4, .int v5, .int v6, .int v7, .ref qf8, .ref qf9, .ref qf10, .ref qf11, .ref qf12, .ref qf13, .ref qf14, .ref qf15, .ref qf16, .int v17, .ref qf18, .int v19, .int v20])), (qf14, .inl (cf14, 60, .inl g906_1)), (qf16, .inl (cf16, 1800, .inl g906_2)), (qf13, .inl (cf13, 60, .inl g906_0))]) [0, 1, 2, 3] rfl
        have hD9 := hD.sub (ws' := [(h0, .inr (5, [.ref qf0, .int u6_3, .int v2, .int v3, .int v4, .int v5, .int v6, .int v7, .ref qf8, .ref qf9, .ref qf10, .ref qf11, .ref qf12, .ref qf13, .ref qf14, .ref qf15, .ref qf16, .int v17, .ref qf18, .int v19, .int v20])), (qf14, .inl (cf14, 60, .inl g906_1)), (qf16, .inl (cf16, 1800, .inl g906_2)), (qf13, .inl (cf13, 60, .inl g906_0))]) [0, 1, 2, 3] (by decide) rfl
        have hK9 := hK.sub (tys' := [(cf14, .int), (cf16, .int), (cf13, .int)]) [0, 1, 2] rfl
        exact W.vret hx hb hr (fun t ht hW => ⟨⟨(), rfl, trivial, by rw [ht]; exact hP9, va_K.moved hW.alike hK9, hD9⟩, hS.F ht⟩) hS.2.2 dX5_stepArithmetic_46
      · rw [if_pos c_6] at hsp
        refine lv_aload_n hx hb dX5_stepArithmetic_26 rfl (lv_at hl 2 rfl) ?_
        refine lv_bipush (v := (-4)) hx hb dX5_stepArithmetic_27 (by decide) ?_
        refine va_put (D := (dC, dI)) (ci := 5) (v := .int (-4)) (ty := .int) (C := RX5) (T := TX5) (N := 21) hx hb hts uV_h7_X5 tyX5 tyX5_ok nmX5 hown hK hP hD hS 1 rfl rfl 20 (by decide) (hts (.fieldLink RX5 86 "ClassMill$Machine" "thrown" "I") mw_h7_272) (fun _ h9 => h9) rfl (by decide +kernel) rfl rfl (Nat.le_of_ble_eq_true rfl) dX5_stepArithmetic_29 ?_
        clear hP hD hS
        intro H locs hP hD hS
        replace hP : va_P (dC, dI) vwCl [(qf13, .inl (cf13, 60, .inl f13)), (h0, .inr (5, [.ref qf0, .int u2_2, .int v2, .int v3, .int v4, .int v5, .int v6, .int v7, .ref qf8, .ref qf9, .ref qf10, .ref qf11, .ref qf12, .ref qf13, .ref qf14, .ref qf15, .ref qf16, .int v17, .ref qf18, .int v19, .int (-4)])), (qf14, .inl (cf14, 60, .inl g902_1)), (qf16, .inl (cf16, 1800, .inl f16))] H := hP
        replace hD : va_D A [(qf13, .inl (cf13, 60, .inl f13)), (h0, .inr (5, [.ref qf0, .int u2_2, .int v2, .int v3, .int v4, .int v5, .int v6, .int v7, .ref qf8, .ref qf9, .ref qf10, .ref qf11, .ref qf12, .ref qf13, .ref qf14, .ref qf15, .ref qf16, .int v17, .ref qf18, .int v19, .int (-4)])), (qf14, .inl (cf14, 60, .inl g902_1)), (qf16, .inl (cf16, 1800, .inl f16))] := hD
        refine lv_goto (tgt := 46) hx hb dX5_stepArithmetic_32 (by decide) ?_
        have hr0 := Option.some.inj hsp
        clear hsp
        obtain ⟨hq0, hr1⟩ := Prod.mk.inj hr0
        clear hr0
        obtain ⟨hq1, hr2⟩ := Prod.mk.inj hr1
        clear hr1
        obtain ⟨hq2, hr3⟩ := Prod.mk.inj hr2
        clear hr2
        obtain ⟨hq3, hr4⟩ := Prod.mk.inj hr3
        clear hr3
        subst hq0
        subst hq1
        subst hq2
        subst hq3
        subst hr4
        have hP9 := hP.sub (ws' := [(h0, .inr (5, [.ref qf0, .int u2_2, .int v2, .int v3, .int v4, .int v5, .int v6, .int v7, .ref qf8, .ref qf9, .ref qf10, .ref qf11, .ref qf12, .ref qf13, .ref qf14, .ref qf15, .ref qf16, .int v17, .ref qf18, .int v19, .int (-4)])), (qf14, .inl (cf14, 60, .inl g902_1)), (qf16, .inl (cf16, 1800, .inl f16)), (qf13, .inl (cf13, 60, .inl f13))]) [1, 2, 3, 0] rfl
        have hD9 := hD.sub (ws' := [(h0, .inr (5, [.ref qf0, .int u2_2, .int v2, .int v3, .int v4, .int v5, .int v6, .int v7, .ref qf8, .ref qf9, .ref qf10, .ref qf11, .ref qf12, .ref qf13, .ref qf14, .ref qf15, .ref qf16, .int v17, .ref qf18, .int v19, .int (-4)])), (qf14, .inl (cf14, 60, .inl g902_1)), (qf16, .inl (cf16, 1800, .inl f16)), (qf13, .inl (cf13, 60, .inl f13))]) [1, 2, 3, 0] (by decide) rfl
        have hK9 := hK.sub (tys' := [(cf14, .int), (cf16, .int), (cf13, .int)]) [1, 2, 0] rfl
        exact W.vret hx hb hr (fun t ht hW => ⟨⟨(), rfl, trivial, by rw [ht]; exact hP9, va_K.moved hW.alike hK9, hD9⟩, hS.F ht⟩) hS.2.2 dX5_stepArithmetic_46
def lp_v6_writeConstant_83 (nf n : Nat) (a1 : Int32) (a3 : Int32) (f2 : Nat → Int32) (f3 : Nat → Int32) (v0_9 : Int32) (f0_5 : Nat → Int32) (na2 : Nat) (fa2 : Nat → Int32) (f0_4 : Nat → Int32)  (l1_83 : Int32) (l3_83 : Int32) (l4_83 : Int32) (l5_83 : Int32) (ga2_83 : Nat → Int32) : Option ((Nat → Int32)) := match n with
  | 0 => none
  | n + 1 => (if l4_83 ≤ l5_83 then (some ga2_83) else (if l1_83 < 0 then none else if 201 ≤ (l1_83 : Int32).toNatClampNeg then none else (if (l3_83 + l5_83) < 0 then none else if na2 ≤ ((l3_83 + l5_83) : Int32).toNatClampNeg then none else (lp_v6_writeConstant_83 nf n a1 a3 f2 f3 v0_9 f0_5 na2 fa2 f0_4 l1_83 l3_83 l4_83 (l5_83 + 1) (upd ga2_83 ((l3_83 + l5_83) : Int32).toNatClampNeg (vp_nar .byte ((((f3 (l1_83 : Int32).toNatClampNeg) >>> ((8 * ((l4_83 - 1) - l5_83)) &&& 31)) : Int32).toInt8.toInt32)))))))
def sp_v6_writeConstant (nf : Nat) (a1 : Int32) (a3 : Int32) (f2 : Nat → Int32) (f3 : Nat → Int32) (v0_9 : Int32) (f0_5 : Nat → Int32) (na2 : Nat) (fa2 : Nat → Int32) (f0_4 : Nat → Int32) : Option ((Nat → Int32)) := (if a1 < 0 then none else if 201 ≤ (a1 : Int32).toNatClampNeg then none else (if a1 < 0 then none else if 201 ≤ (a1 : Int32).toNatClampNeg then none else ((sp_t6_bytesOf nf (f2 (a1 : Int32).toNatClampNeg) (f3 (a1 : Int32).toNatClampNeg) v0_9 f0_5).bind (fun p1 => (if a3 < 0 then (some fa2) else (if (a3 + p1) ≤ (nI na2) then (if a1 < 0 then none else if 201 ≤ (a1 : Int32).toNatClampNeg then none else (if a3 < 0 then none else if na2 ≤ (a3 : Int32).toNatClampNeg then none else (if a1 < 0 then none else if 201 ≤ (a1 : Int32).toNatClampNeg then none else (if (f2 (a1 : Int32).toNatClampNeg) = 1 then (if (a3 + 1) < 0 then none else if na2 ≤ ((a3 + 1) : Int32).toNatClampNeg then none else (if a1 < 0 then none else if 201 ≤ (a1 : Int32).toNatClampNeg then none else ((sp_v9_copyName nf (f3 (a1 : Int32).toNatClampNeg) (a3 + 2) v0_9 f0_5 na2 (upd (upd fa2 (a3 : Int32).toNatClampNeg (vp_nar .byte (((f2 (a1 : Int32).toNatClampNeg) : Int32).toInt8.toInt32))) ((a3 + 1) : Int32).toNatClampNeg (vp_nar .byte (((p1 - 2) : Int32).toInt8.toInt32))) f0_4).bind (fun p2 => (some p2))))) else (lp_v6_writeConstant_83 nf nf a1 a3 f2 f3 v0_9 f0_5 na2 fa2 f0_4  a1 a3 p1 1 (upd fa2 (a3 : Int32).toNatClampNeg (vp_nar .byte (((f2 (a1 : Int32).toNatClampNeg) : Int32).toInt8.toInt32)))))))) else (some fa2)))))))
