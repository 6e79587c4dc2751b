set_option maxHeartbeats 4000000 in
set_option maxRecDepth 100000 in
/-- ClassMill$Text.beginsCast -/
theorem t9_beginsCast (l : Launch) (dC : Nat → ClassId) (dI : Nat → Nat → Nat) (sz : Nat) (h0 : Nat) (qf0 : Nat) (qf1 : Nat) (qf2 : Nat) (v3 : Int32) (qf4 : Nat) (qf5 : Nat) (qf6 : Nat) (qf7 : Nat) (qf8 : Nat) (v9 : Int32) (v10 : Int32) (v11 : Int32) (v12 : Int32) (cf0 : ClassId) (f0 : (Nat → Int32)) (nf : Nat) (r0 : Int32) (hsp : sp_t9_beginsCast nf v3 v10 v11 f0 = some r0) : Met l yX9_beginsCast (.code yX9_beginsCast cX9_beginsCast 1 (some .boolean) :: VS_h4) ({ frames := 1, cells := 0, slots := 0, locals := 21 }) (va_Pc [.ref h0] (fun U => U.heap.size = sz ∧ va_P (dC, dI) vwCl [(h0, .inr (9, [.ref qf0, .ref qf1, .ref qf2, .int v3, .ref qf4, .ref qf5, .ref qf6, .ref qf7, .ref qf8, .int v9, .int v10, .int v11, .int v12])), (qf0, .inl (cf0, 3001, .inl f0))] U.heap ∧ va_K (dC, dI) vwCl [(cf0, .int)] U ∧ va_D (fun _ => True) [(h0, .inr (9, [.ref qf0, .ref qf1, .ref qf2, .int v3, .ref qf4, .ref qf5, .ref qf6, .ref qf7, .ref qf8, .int v9, .int v10, .int v11, .int v12])), (qf0, .inl (cf0, 3001, .inl f0))])) (va_Qi (fun (r : Int32) (u : Unit) => match u with | () => r0 = r ∧ (r0 = 0 ∨ r0 = 1)) (fun (u : Unit) (t : State) => match u with | () => va_P (dC, dI) vwCl [(h0, .inr (9, [.ref qf0, .ref qf1, .ref qf2, .int v3, .ref qf4, .ref qf5, .ref qf6, .ref qf7, .ref qf8, .int v9, .int v10, .int v11, .int v12])), (qf0, .inl (cf0, 3001, .inl f0))] t.heap ∧ va_K (dC, dI) vwCl [(cf0, .int)] t ∧ va_D (va_A [(h0, .inr (9, [.ref qf0, .ref qf1, .ref qf2, .int v3, .ref qf4, .ref qf5, .ref qf6, .ref qf7, .ref qf8, .int v9, .int v10, .int v11, .int v12])), (qf0, .inl (cf0, 3001, .inl f0))] sz) [(h0, .inr (9, [.ref qf0, .ref qf1, .ref qf2, .int v3, .ref qf4, .ref qf5, .ref qf6, .ref qf7, .ref qf8, .int v9, .int v10, .int v11, .int v12])), (qf0, .inl (cf0, 3001, .inl f0))]) (va_A [(h0, .inr (9, [.ref qf0, .ref qf1, .ref qf2, .int v3, .ref qf4, .ref qf5, .ref qf6, .ref qf7, .ref qf8, .int v9, .int v10, .int v11, .int v12])), (qf0, .inl (cf0, 3001, .inl f0))] sz)) 0 0 (va_A [(h0, .inr (9, [.ref qf0, .ref qf1, .ref qf2, .int v3, .ref qf4, .ref qf5, .ref qf6, .ref qf7, .ref qf8, .int v9, .int v10, .int v11, .int v12])), (qf0, .inl (cf0, 3001, .inl f0))] sz) := by
  refine Met.ofW (cc := cX9_beginsCast) (maxL := 1) (ret := (some .boolean)) (by decide) rfl ?_
  intro p e s m args below meth c s₁ B hml hv
  obtain ⟨rfl, hsz, hP, hK, hD0⟩ := hv
  have hx := B.exec
  have hb := B.bytes
  have hr := B.returns
  have hts := atoms_spec (ws := (.code yX9_beginsCast cX9_beginsCast 1 (some .boolean) :: VS_h4)) B.pre
  replace hts := fun w (h : w ∈ VS_h4) => hts w (List.mem_cons_of_mem _ h)
  have hown : s.vm.findClass RX9 = some m.cls := findClass_of_methodNamed B.named
  have hlocks := B.notSynchronized
  subst hsz
  have hD := hD0.self (sz := s.heap.size)
  generalize hAe : va_A [(h0, .inr (9, [.ref qf0, .ref qf1, .ref qf2, .int v3, .ref qf4, .ref qf5, .ref qf6, .ref qf7, .ref qf8, .int v9, .int v10, .int v11, .int v12])), (qf0, .inl (cf0, 3001, .inl f0))] s.heap.size = A at hD  ⊢
  have hA : ∀ q : Nat, s.heap.size ≤ q → A q := fun q h => by rw [← hAe]; exact Or.inr h
  have hP : va_P (dC, dI) vwCl [(h0, .inr (9, [.ref qf0, .ref qf1, .ref qf2, .int v3, .ref qf4, .ref qf5, .ref qf6, .ref qf7, .ref qf8, .int v9, .int v10, .int v11, .int v12])), (qf0, .inl (cf0, 3001, .inl f0))] s.heap := hP
  have hl := lv_entry ([.ref h0]) (n := 1) (Nat.le_of_ble_eq_true rfl)
  rw [lg_entry_eq]
  generalize (lg_sl ([.ref h0]) ++ List.replicate (1 - (lg_sl ([.ref h0])).length) Slot.unset).toArray = ls at hl ⊢
  have hl : lv_has ls 1 [(0, .ref h0)] := hl
  obtain ⟨H, hH⟩ : ∃ H : Heap, s.heap = H := ⟨_, rfl⟩
  rw [hH] at hP ⊢
  have hS : va_S A s.heap H [] := by rw [← hH]; exact va_S.rf
  obtain ⟨locs, hlo⟩ : ∃ locs : List Loc, locs = [] := ⟨_, rfl⟩
  rw [← hlo] at hS ⊢
  unfold sp_t9_beginsCast at hsp
  refine lv_aload_n hx hb dX9_beginsCast_0 rfl (lv_at hl 0 rfl) ?_
  obtain ⟨u1_0, hu_1, hsp⟩ := ox_bind hsp
  try dsimp only at hsp
  have hPc := hP.sub (ws' := [(h0, .inr (9, [.ref qf0, .ref qf1, .ref qf2, .int v3, .ref qf4, .ref qf5, .ref qf6, .ref qf7, .ref qf8, .int v9, .int v10, .int v11, .int v12])), (qf0, .inl (cf0, 3001, .inl f0))]) [0, 1] rfl
  have hDc := hD.sub (ws' := [(h0, .inr (9, [.ref qf0, .ref qf1, .ref qf2, .int v3, .ref qf4, .ref qf5, .ref qf6, .ref qf7, .ref qf8, .int v9, .int v10, .int v11, .int v12])), (qf0, .inl (cf0, 3001, .inl f0))]) [0, 1] (by decide) rfl
  have hKc := hK.sub (tys' := [(cf0, .int)]) [0] rfl
  have hFc := va_free (wc := [(h0, .inr (9, [.ref qf0, .ref qf1, .ref qf2, .int v3, .ref qf4, .ref qf5, .ref qf6, .ref qf7, .ref qf8, .int v9, .int v10, .int v11, .int v12])), (qf0, .inl (cf0, 3001, .inl f0))]) hD hS hA [0, 1] rfl
  refine va_calli (va_runV (As := []) (rest := []) ⟨hx, hb, hml, hown, hts⟩ (t9_kind l dC dI H.size h0 qf0 qf1 qf2 v3 qf4 qf5 qf6 qf7 qf8 v9 v10 v11 v12 cf0 f0 nf u1_0 hu_1) (cwV 0 hts gv_h4_4 rfl rfl rfl (by decide +kernel) ⟨Nat.le_of_ble_eq_true rfl, Nat.le_of_ble_eq_true rfl⟩) ⟨fun a U g mk q => by obtain ⟨q0, q1, qP, qK, qD⟩ := q; exact ⟨q0, q1, qP, va_K.moved (u := U) (U := U.calling g mk a) (Vm.Alike.refl U.vm) qK, qD⟩, va_recv hKc hPc (ci := 9) (q0 := 0) rfl rfl, fun U hU hW => ⟨rfl, by rw [hU], by rw [hU]; exact hPc, va_K.moved hW.alike hKc, hDc.weaken (fun _ _ _ _ => trivial)⟩⟩ rfl rfl hl.1 rfl (lv_room (Nat.le_of_ble_eq_true rfl)) dX9_beginsCast_1 ⟨Nat.le_of_ble_eq_true rfl, Nat.le_of_ble_eq_true rfl⟩) hS (fun q _ h => hFc q h) hFc ?_
  clear hS
  intro r_1 u t H1 locs ht hvm hw hB hz1 hk1 hS
  obtain ⟨⟩ := u
  obtain ⟨hP1, hK1, hD1⟩ := hB
  rw [ht] at hP1
  have hK1 := va_K.moved hvm.symm hK1
  try dsimp only at hw
  have hPD := va_join (wr := []) (w1 := [(h0, .inr (9, [.ref qf0, .ref qf1, .ref qf2, .int v3, .ref qf4, .ref qf5, .ref qf6, .ref qf7, .ref qf8, .int v9, .int v10, .int v11, .int v12])), (qf0, .inl (cf0, 3001, .inl f0))]) hP hD [0, 1] [] rfl rfl (by decide) (by decide) hk1 hFc hP1 hD1
  clear hP hD
  obtain ⟨hP, hD⟩ := hPD
  replace hK := (hK.sub (tys' := []) [] rfl).app hK1
  clear hPc hDc hKc hFc hP1 hK1 hD1 hz1 hk1 ht hvm
  generalize H1 = H at hP hS ⊢
  replace hP : va_P (dC, dI) vwCl [(h0, .inr (9, [.ref qf0, .ref qf1, .ref qf2, .int v3, .ref qf4, .ref qf5, .ref qf6, .ref qf7, .ref qf8, .int v9, .int v10, .int v11, .int v12])), (qf0, .inl (cf0, 3001, .inl f0))] H := hP
  replace hD : va_D A [(h0, .inr (9, [.ref qf0, .ref qf1, .ref qf2, .int v3, .ref qf4, .ref qf5, .ref qf6, .ref qf7, .ref qf8, .int v9, .int v10, .int v11, .int v12])), (qf0, .inl (cf0, 3001, .inl f0))] := hD
  replace hK : va_K (dC, dI) vwCl [(cf0, .int)] s := hK
  obtain rfl := hw
  refine lv_bipush (v := 40) hx hb dX9_beginsCast_4 (by decide) ?_
  refine lv_icmp_ne (tgt := 38) hx hb dX9_beginsCast_6 (by decide) (fun c_2 => ?_) (fun c_2 => ?_)
  · rw [if_neg c_2] at hsp
    refine lv_iconst (v := 0) hx hb dX9_beginsCast_38 (by decide) ?_
    have hr0 := Option.some.inj hsp
    clear hsp
    subst hr0
    have hP9 := hP.sub (ws' := [(h0, .inr (9, [.ref qf0, .ref qf1, .ref qf2, .int v3, .ref qf4, .ref qf5, .ref qf6, .ref qf7, .ref qf8, .int v9, .int v10, .int v11, .int v12])), (qf0, .inl (cf0, 3001, .inl f0))]) [0, 1] rfl
    have hD9 := hD.sub (ws' := [(h0, .inr (9, [.ref qf0, .ref qf1, .ref qf2, .int v3, .ref qf4, .ref qf5, .ref qf6, .ref qf7, .ref qf8, .int v9, .int v10, .int v11, .int v12])), (qf0, .inl (cf0, 3001, .inl f0))]) [0, 1] (by decide) rfl
    have hK9 := hK.sub (tys' := [(cf0, .int)]) [0] rfl
    exact W.zret hx hb hr (by decide) (fun t ht hW => ⟨⟨(0), (), rfl, ⟨rfl, Or.inl rfl⟩, by rw [ht]; exact hP9, va_K.moved hW.alike hK9, hD9⟩, hS.F ht⟩) hS.2.2 dX9_beginsCast_39
  · rw [if_pos c_2] at hsp
    refine lv_aload_n hx hb dX9_beginsCast_9 rfl (lv_at hl 0 rfl) ?_
    refine lv_aload_n hx hb dX9_beginsCast_10 rfl (lv_at hl 0 rfl) ?_
    refine va_get (D := (dC, dI)) (ci := 9) (v := .int v10) (C := RX9) (T := TX9) (N := 13) hx hb hts uV_h4_X9 hown hK hP 0 rfl rfl 10 (by decide) (hts (.fieldLink RX9 86 "ClassMill$Text" "pos" "I") mw_h4_4) (fun _ h9 => h9) rfl dX9_beginsCast_11 ?_
    refine lv_iconst (v := 1) hx hb dX9_beginsCast_14 (by decide) ?_
    refine lv_iadd hx hb dX9_beginsCast_15 ?_
    obtain ⟨u2_0, hu_2, hsp⟩ := ox_bind hsp
    try dsimp only at hsp
    have hPc := hP.sub (ws' := [(h0, .inr (9, [.ref qf0, .ref qf1, .ref qf2, .int v3, .ref qf4, .ref qf5, .ref qf6, .ref qf7, .ref qf8, .int v9, .int v10, .int v11, .int v12])), (qf0, .inl (cf0, 3001, .inl f0))]) [0, 1] rfl
    have hDc := hD.sub (ws' := [(h0, .inr (9, [.ref qf0, .ref qf1, .ref qf2, .int v3, .ref qf4, .ref qf5, .ref qf6, .ref qf7, .ref qf8, .int v9, .int v10, .int v11, .int v12])), (qf0, .inl (cf0, 3001, .inl f0))]) [0, 1] (by decide) rfl
    have hKc := hK.sub (tys' := [(cf0, .int)]) [0] rfl
    have hFc := va_free (wc := [(h0, .inr (9, [.ref qf0, .ref qf1, .ref qf2, .int v3, .ref qf4, .ref qf5, .ref qf6, .ref qf7, .ref qf8, .int v9, .int v10, .int v11, .int v12])), (qf0, .inl (cf0, 3001, .inl f0))]) hD hS hA [0, 1] rfl
    refine va_calli (va_runV (As := [.int (v10 + 1)]) (rest := []) ⟨hx, hb, hml, hown, hts⟩ (t9_kindAt l dC dI H.size h0 ((v10 + 1)) qf0 qf1 qf2 v3 qf4 qf5 qf6 qf7 qf8 v9 v10 v11 v12 cf0 f0 nf u2_0 hu_2) (cwV 1 hts gv_h4_5 rfl rfl rfl (by decide +kernel) ⟨Nat.le_of_ble_eq_true rfl, Nat.le_of_ble_eq_true rfl⟩) ⟨fun a U g mk q => by obtain ⟨q0, q1, qP, qK, qD⟩ := q; exact ⟨q0, q1, qP, va_K.moved (u := U) (U := U.calling g mk a) (Vm.Alike.refl U.vm) qK, qD⟩, va_recv hKc hPc (ci := 9) (q0 := 0) rfl rfl, fun U hU hW => ⟨rfl, by rw [hU], by rw [hU]; exact hPc, va_K.moved hW.alike hKc, hDc.weaken (fun _ _ _ _ => trivial)⟩⟩ rfl rfl hl.1 rfl (lv_room (Nat.le_of_ble_eq_true rfl)) dX9_beginsCast_16 ⟨Nat.le_of_ble_eq_true rfl, Nat.le_of_ble_eq_true rfl⟩) hS (fun q _ h => hFc q h) hFc ?_
    clear hS
    intro r_3 u t H1 locs ht hvm hw hB hz1 hk1 hS
    obtain ⟨⟩ := u
    obtain ⟨hP1, hK1, hD1⟩ := hB
    rw [ht] at hP1
    have hK1 := va_K.moved hvm.symm hK1
    try dsimp only at hw
    have hPD := va_join (wr := []) (w1 := [(h0, .inr (9, [.ref qf0, .ref qf1, .ref qf2, .int v3, .ref qf4, .ref qf5, .ref qf6, .ref qf7, .ref qf8, .int v9, .int v10, .int v11, .int v12])), (qf0, .inl (cf0, 3001, .inl f0))]) hP hD [0, 1] [] rfl rfl (by decide) (by decide) hk1 hFc hP1 hD1
    clear hP hD
    obtain ⟨hP, hD⟩ := hPD
    replace hK := (hK.sub (tys' := []) [] rfl).app hK1
    clear hPc hDc hKc hFc hP1 hK1 hD1 hz1 hk1 ht hvm
    generalize H1 = H at hP hS ⊢
    replace hP : va_P (dC, dI) vwCl [(h0, .inr (9, [.ref qf0, .ref qf1, .ref qf2, .int v3, .ref qf4, .ref qf5, .ref qf6, .ref qf7, .ref qf8, .int v9, .int v10, .int v11, .int v12])), (qf0, .inl (cf0, 3001, .inl f0))] H := hP
    replace hD : va_D A [(h0, .inr (9, [.ref qf0, .ref qf1, .ref qf2, .int v3, .ref qf4, .ref qf5, .ref qf6, .ref qf7, .ref qf8, .int v9, .int v10, .int v11, .int v12])), (qf0, .inl (cf0, 3001, .inl f0))] := hD
    replace hK : va_K (dC, dI) vwCl [(cf0, .int)] s := hK
    obtain rfl := hw
    refine lv_iconst (v := 2) hx hb dX9_beginsCast_19 (by decide) ?_
    refine lv_icmp_ne (tgt := 38) hx hb dX9_beginsCast_20 (by decide) (fun c_4 => ?_) (fun c_4 => ?_)
    · rw [if_neg c_4] at hsp
      refine lv_iconst (v := 0) hx hb dX9_beginsCast_38 (by decide) ?_
      have hr0 := Option.some.inj hsp
      clear hsp
      subst hr0
      have hP9 := hP.sub (ws' := [(h0, .inr (9, [.ref qf0, .ref qf1, .ref qf2, .int v3, .ref qf4, .ref qf5, .ref qf6, .ref qf7, .ref qf8, .int v9, .int v10, .int v11, .int v12])), (qf0, .inl (cf0, 3001, .inl f0))]) [0, 1] rfl
      have hD9 := hD.sub (ws' := [(h0, .inr (9, [.ref qf0, .ref qf1, .ref qf2, .int v3, .ref qf4, .ref qf5, .ref qf6, .ref qf7, .ref qf8, .int v9, .int v10, .int v11, .int v12])), (qf0, .inl (cf0, 3001, .inl f0))]) [0, 1] (by decide) rfl
      have hK9 := hK.sub (tys' := [(cf0, .int)]) [0] rfl
      exact W.zret hx hb hr (by decide) (fun t ht hW => ⟨⟨(0), (), rfl, ⟨rfl, Or.inl rfl⟩, by rw [ht]; exact hP9, va_K.moved hW.alike hK9, hD9⟩, hS.F ht⟩) hS.2.2 dX9_beginsCast_39
    · rw [if_pos c_4] at hsp
      refine lv_aload_n hx hb dX9_beginsCast_23 rfl (lv_at hl 0 rfl) ?_
      refine lv_aload_n hx hb dX9_beginsCast_24 rfl (lv_at hl 0 rfl) ?_
      refine va_get (D := (dC, dI)) (ci := 9) (v := .int v10) (C := RX9) (T := TX9) (N := 13) hx hb hts uV_h4_X9 hown hK hP 0 rfl rfl 10 (by decide) (hts (.fieldLink RX9 86 "ClassMill$Text" "pos" "I") mw_h4_4) (fun _ h9 => h9) rfl dX9_beginsCast_25 ?_
      refine lv_iconst (v := 2) hx hb dX9_beginsCast_28 (by decide) ?_
      refine lv_iadd hx hb dX9_beginsCast_29 ?_
      obtain ⟨u3_0, hu_3, hsp⟩ := ox_bind hsp
      try dsimp only at hsp
      have hPc := hP.sub (ws' := [(h0, .inr (9, [.ref qf0, .ref qf1, .ref qf2, .int v3, .ref qf4, .ref qf5, .ref qf6, .ref qf7, .ref qf8, .int v9, .int v10, .int v11, .int v12])), (qf0, .inl (cf0, 3001, .inl f0))]) [0, 1] rfl
      have hDc := hD.sub (ws' := [(h0, .inr (9, [.ref qf0, .ref qf1, .ref qf2, .int v3, .ref qf4, .ref qf5, .ref qf6, .ref qf7, .ref qf8, .int v9, .int v10, .int v11, .int v12])), (qf0, .inl (cf0, 3001, .inl f0))]) [0, 1] (by decide) rfl
      have hKc := hK.sub (tys' := [(cf0, .int)]) [0] rfl
      have hFc := va_free (wc := [(h0, .inr (9, [.ref qf0, .ref qf1, .ref qf2, .int v3, .ref qf4, .ref qf5, .ref qf6, .ref qf7, .ref qf8, .int v9, .int v10, .int v11, .int v12])), (qf0, .inl (cf0, 3001, .inl f0))]) hD hS hA [0, 1] rfl
      refine va_calli (va_runV (As := [.int (v10 + 2)]) (rest := []) ⟨hx, hb, hml, hown, hts⟩ (t9_kindAt l dC dI H.size h0 ((v10 + 2)) qf0 qf1 qf2 v3 qf4 qf5 qf6 qf7 qf8 v9 v10 v11 v12 cf0 f0 nf u3_0 hu_3) (cwV 1 hts gv_h4_5 rfl rfl rfl (by decide +kernel) ⟨Nat.le_of_ble_eq_true rfl, Nat.le_of_ble_eq_true rfl⟩) ⟨fun a U g mk q => by obtain ⟨q0, q1, qP, qK, qD⟩ := q; exact ⟨q0, q1, qP, va_K.moved (u := U) (U := U.calling g mk a) (Vm.Alike.refl U.vm) qK, qD⟩, va_recv hKc hPc (ci := 9) (q0 := 0) rfl rfl, fun U hU hW => ⟨rfl, by rw [hU], by rw [hU]; exact hPc, va_K.moved hW.alike hKc, hDc.weaken (fun _ _ _ _ => trivial)⟩⟩ rfl rfl hl.1 rfl (lv_room (Nat.le_of_ble_eq_true rfl)) dX9_beginsCast_30 ⟨Nat.le_of_ble_eq_true rfl, Nat.le_of_ble_eq_true rfl⟩) hS (fun q _ h => hFc q h) hFc ?_
      clear hS
      intro r_5 u t H1 locs ht hvm hw hB hz1 hk1 hS
      obtain ⟨⟩ := u
      obtain ⟨hP1, hK1, hD1⟩ := hB
      rw [ht] at hP1
      have hK1 := va_K.moved hvm.symm hK1
      try dsimp only at hw
      have hPD := va_join (wr := []) (w1 := [(h0, .inr (9, [.ref qf0, .ref qf1, .ref qf2, .int v3, .ref qf4, .ref qf5, .ref qf6, .ref qf7, .ref qf8, .int v9, .int v10, .int v11, .int v12])), (qf0, .inl (cf0, 3001, .inl f0))]) hP hD [0, 1] [] rfl rfl (by decide) (by decide) hk1 hFc hP1 hD1
      clear hP hD
      obtain ⟨hP, hD⟩ := hPD
      replace hK := (hK.sub (tys' := []) [] rfl).app hK1
      clear hPc hDc hKc hFc hP1 hK1 hD1 hz1 hk1 ht hvm
      generalize H1 = H at hP hS ⊢
      replace hP : va_P (dC, dI) vwCl [(h0, .inr (9, [.ref qf0, .ref qf1, .ref qf2, .int v3, .ref qf4, .ref qf5, .ref qf6, .ref qf7, .ref qf8, .int v9, .int v10, .int v11, .int v12])), (qf0, .inl (cf0, 3001, .inl f0))] H := hP
      replace hD : va_D A [(h0, .inr (9, [.ref qf0, .ref qf1, .ref qf2, .int v3, .ref qf4, .ref qf5, .ref qf6, .ref qf7, .ref qf8, .int v9, .int v10, .int v11, .int v12])), (qf0, .inl (cf0, 3001, .inl f0))] := hD
      replace hK : va_K (dC, dI) vwCl [(cf0, .int)] s := hK
      obtain rfl := hw
      refine lv_bipush (v := 41) hx hb dX9_beginsCast_33 (by decide) ?_
      refine lv_icmp_eq (tgt := 40) hx hb dX9_beginsCast_35 (by decide) (fun c_6 => ?_) (fun c_6 => ?_)
      · rw [if_pos c_6] at hsp
        refine lv_aload_n hx hb dX9_beginsCast_40 rfl (lv_at hl 0 rfl) ?_
        refine lv_aload_n hx hb dX9_beginsCast_41 rfl (lv_at hl 0 rfl) ?_
        refine va_get (D := (dC, dI)) (ci := 9) (v := .int v10) (C := RX9) (T := TX9) (N := 13) hx hb hts uV_h4_X9 hown hK hP 0 rfl rfl 10 (by decide) (hts (.fieldLink RX9 86 "ClassMill$Text" "pos" "I") mw_h4_4) (fun _ h9 => h9) rfl dX9_beginsCast_42 ?_
        refine lv_iconst (v := 3) hx hb dX9_beginsCast_45 (by decide) ?_
        refine lv_iadd hx hb dX9_beginsCast_46 ?_
        obtain ⟨u4_0, hu_4, hsp⟩ := ox_bind hsp
        try dsimp only at hsp
        have hPc := hP.sub (ws' := [(h0, .inr (9, [.ref qf0, .ref qf1, .ref qf2, .int v3, .ref qf4, .ref qf5, .ref qf6, .ref qf7, .ref qf8, .int v9, .int v10, .int v11, .int v12])), (qf0, .inl (cf0, 3001, .inl f0))]) [0, 1] rfl
        have hDc := hD.sub (ws' := [(h0, .inr (9, [.ref qf0, .ref qf1, .ref qf2, .int v3, .ref qf4, .ref qf5, .ref qf6, .ref qf7, .ref qf8, .int v9, .int v10, .int v11, .int v12])), (qf0, .inl (cf0, 3001, .inl f0))]) [0, 1] (by decide) rfl
        have hKc := hK.sub (tys' := [(cf0, .int)]) [0] rfl
        have hFc := va_free (wc := [(h0, .inr (9, [.ref qf0, .ref qf1, .ref qf2, .int v3, .ref qf4, .ref qf5, .ref qf6, .ref qf7, .ref qf8, .int v9, .int v10, .int v11, .int v12])), (qf0, .inl (cf0, 3001, .inl f0))]) hD hS hA [0, 1] rfl
        refine va_calli (va_runV (As := [.int (v10 + 3)]) (rest := []) ⟨hx, hb, hml, hown, hts⟩ (t9_kindAt l dC dI H.size h0 ((v10 + 3)) qf0 qf1 qf2 v3 qf4 qf5 qf6 qf7 qf8 v9 v10 v11 v12 cf0 f0 nf u4_0 hu_4) (cwV 1 hts gv_h4_5 rfl rfl rfl (by decide +kernel) ⟨Nat.le_of_ble_eq_true rfl, Nat.le_of_ble_eq_true rfl⟩) ⟨fun a U g mk q => by obtain ⟨q0, q1, qP, qK, qD⟩ := q; exact ⟨q0, q1, qP, va_K.moved (u := U) (U := U.calling g mk a) (Vm.Alike.refl U.vm) qK, qD⟩, va_recv hKc hPc (ci := 9) (q0 := 0) rfl rfl, fun U hU hW => ⟨rfl, by rw [hU], by rw [hU]; exact hPc, va_K.moved hW.alike hKc, hDc.weaken (fun _ _ _ _ => trivial)⟩⟩ rfl rfl hl.1 rfl (lv_room (Nat.le_of_ble_eq_true rfl)) dX9_beginsCast_47 ⟨Nat.le_of_ble_eq_true rfl, Nat.le_of_ble_eq_true rfl⟩) hS (fun q _ h => hFc q h) hFc ?_
        clear hS
        intro r_7 u t H1 locs ht hvm hw hB hz1 hk1 hS
        obtain ⟨⟩ := u
        obtain ⟨hP1, hK1, hD1⟩ := hB
        rw [ht] at hP1
        have hK1 := va_K.moved hvm.symm hK1
        try dsimp only at hw
        have hPD := va_join (wr := []) (w1 := [(h0, .inr (9, [.ref qf0, .ref qf1, .ref qf2, .int v3, .ref qf4, .ref qf5, .ref qf6, .ref qf7, .ref qf8, .int v9, .int v10, .int v11, .int v12])), (qf0, .inl (cf0, 3001, .inl f0))]) hP hD [0, 1] [] rfl rfl (by decide) (by decide) hk1 hFc hP1 hD1
        clear hP hD
        obtain ⟨hP, hD⟩ := hPD
        replace hK := (hK.sub (tys' := []) [] rfl).app hK1
        clear hPc hDc hKc hFc hP1 hK1 hD1 hz1 hk1 ht hvm
        generalize H1 = H at hP hS ⊢
        replace hP : va_P (dC, dI) vwCl [(h0, .inr (9, [.ref qf0, .ref qf1, .ref qf2, .int v3, .ref qf4, .ref qf5, .ref qf6, .ref qf7, .ref qf8, .int v9, .int v10, .int v11, .int v12])), (qf0, .inl (cf0, 3001, .inl f0))] H := hP
        replace hD : va_D A [(h0, .inr (9, [.ref qf0, .ref qf1, .ref qf2, .int v3, .ref qf4, .ref qf5, .ref qf6, .ref qf7, .ref qf8, .int v9, .int v10, .int v11, .int v12])), (qf0, .inl (cf0, 3001, .inl f0))] := hD
        replace hK : va_K (dC, dI) vwCl [(cf0, .int)] s := hK
        obtain rfl := hw
        by_cases hs_8 : u4_0 = 2
        · rw [if_pos hs_8] at hsp
          refine lv_lookup (tgt := 140) hx hb dX9_beginsCast_50 (by decide) (off := 90) (by rw [hs_8]; rfl) (by decide) ?_
          refine lv_iconst (v := 1) hx hb dX9_beginsCast_140 (by decide) ?_
          have hr0 := Option.some.inj hsp
          clear hsp
          subst hr0
          have hP9 := hP.sub (ws' := [(h0, .inr (9, [.ref qf0, .ref qf1, .ref qf2, .int v3, .ref qf4, .ref qf5, .ref qf6, .ref qf7, .ref qf8, .int v9, .int v10, .int v11, .int v12])), (qf0, .inl (cf0, 3001, .inl f0))]) [0, 1] rfl
          have hD9 := hD.sub (ws' := [(h0, .inr (9, [.ref qf0, .ref qf1, .ref qf2, .int v3, .ref qf4, .ref qf5, .ref qf6, .ref qf7, .ref qf8, .int v9, .int v10, .int v11, .int v12])), (qf0, .inl (cf0, 3001, .inl f0))]) [0, 1] (by decide) rfl
          have hK9 := hK.sub (tys' := [(cf0, .int)]) [0] rfl
          exact W.zret hx hb hr (by decide) (fun t ht hW => ⟨⟨(1), (), rfl, ⟨rfl, Or.inr rfl⟩, by rw [ht]; exact hP9, va_K.moved hW.alike hK9, hD9⟩, hS.F ht⟩) hS.2.2 dX9_beginsCast_141
        rw [if_neg hs_8] at hsp
        by_cases hs_9 : u4_0 = 3
        · rw [if_pos hs_9] at hsp
          refine lv_lookup (tgt := 140) hx hb dX9_beginsCast_50 (by decide) (off := 90) (by rw [hs_9]; rfl) (by decide) ?_
          refine lv_iconst (v := 1) hx hb dX9_beginsCast_140 (by decide) ?_
          have hr0 := Option.some.inj hsp
          clear hsp
          subst hr0
          have hP9 := hP.sub (ws' := [(h0, .inr (9, [.ref qf0, .ref qf1, .ref qf2, .int v3, .ref qf4, .ref qf5, .ref qf6, .ref qf7, .ref qf8, .int v9, .int v10, .int v11, .int v12])), (qf0, .inl (cf0, 3001, .inl f0))]) [0, 1] rfl
          have hD9 := hD.sub (ws' := [(h0, .inr (9, [.ref qf0, .ref qf1, .ref qf2, .int v3, .ref qf4, .ref qf5, .ref qf6, .ref qf7, .ref qf8, .int v9, .int v10, .int v11, .int v12])), (qf0, .inl (cf0, 3001, .inl f0))]) [0, 1] (by decide) rfl
          have hK9 := hK.sub (tys' := [(cf0, .int)]) [0] rfl
          exact W.zret hx hb hr (by decide) (fun t ht hW => ⟨⟨(1), (), rfl, ⟨rfl, Or.inr rfl⟩, by rw [ht]; exact hP9, va_K.moved hW.alike hK9, hD9⟩, hS.F ht⟩) hS.2.2 dX9_beginsCast_141
        rw [if_neg hs_9] at hsp
        by_cases hs_10 : u4_0 = 17
        · rw [if_pos hs_10] at hsp
          refine lv_lookup (tgt := 140) hx hb dX9_beginsCast_50 (by decide) (off := 90) (by rw [hs_10]; rfl) (by decide) ?_
          refine lv_iconst (v := 1) hx hb dX9_beginsCast_140 (by decide) ?_
          have hr0 := Option.some.inj hsp
          clear hsp
          subst hr0
          have hP9 := hP.sub (ws' := [(h0, .inr (9, [.ref qf0, .ref qf1, .ref qf2, .int v3, .ref qf4, .ref qf5, .ref qf6, .ref qf7, .ref qf8, .int v9, .int v10, .int v11, .int v12])), (qf0, .inl (cf0, 3001, .inl f0))]) [0, 1] rfl
          have hD9 := hD.sub (ws' := [(h0, .inr (9, [.ref qf0, .ref qf1, .ref qf2, .int v3, .ref qf4, .ref qf5, .ref qf6, .ref qf7, .ref qf8, .int v9, .int v10, .int v11, .int v12])), (qf0, .inl (cf0, 3001, .inl f0))]) [0, 1] (by decide) rfl
          have hK9 := hK.sub (tys' := [(cf0, .int)]) [0] rfl
          exact W.zret hx hb hr (by decide) (fun t ht hW => ⟨⟨(1), (), rfl, ⟨rfl, Or.inr rfl⟩, by rw [ht]; exact hP9, va_K.moved hW.alike hK9, hD9⟩, hS.F ht⟩) hS.2.2 dX9_beginsCast_141
        rw [if_neg hs_10] at hsp
        by_cases hs_11 : u4_0 = 21
        · rw [if_pos hs_11] at hsp
          refine lv_lookup (tgt := 140) hx hb dX9_beginsCast_50 (by decide) (off := 90) (by rw [hs_11]; rfl) (by decide) ?_
          refine lv_iconst (v := 1) hx hb dX9_beginsCast_140 (by decide) ?_
          have hr0 := Option.some.inj hsp
          clear hsp
          subst hr0
          have hP9 := hP.sub (ws' := [(h0, .inr (9, [.ref qf0, .ref qf1, .ref qf2, .int v3, .ref qf4, .ref qf5, .ref qf6, .ref qf7, .ref qf8, .int v9, .int v10, .int v11, .int v12])), (qf0, .inl (cf0, 3001, .inl f0))]) [0, 1] rfl
          have hD9 := hD.sub (ws' := [(h0, .inr (9, [.ref qf0, .ref qf1, .ref qf2, .int v3, .ref qf4, .ref qf5, .ref qf6, .ref qf7, .ref qf8, .int v9, .int v10, .int v11, .int v12])), (qf0, .inl (cf0, 3001, .inl f0))]) [0, 1] (by decide) rfl
          have hK9 := hK.sub (tys' := [(cf0, .int)]) [0] rfl
          exact W.zret hx hb hr (by decide) (fun t ht hW => ⟨⟨(1), (), rfl, ⟨rfl, Or.inr rfl⟩, by rw [ht]; exact hP9, va_K.moved hW.alike hK9, hD9⟩, hS.F ht⟩) hS.2.2 dX9_beginsCast_141
        rw [if_neg hs_11] at hsp
        by_cases hs_12 : u4_0 = 22
        · rw [if_pos hs_12] at hsp
          refine lv_lookup (tgt := 140) hx hb dX9_beginsCast_50 (by decide) (off := 90) (by rw [hs_12]; rfl) (by decide) ?_
          refine lv_iconst (v := 1) hx hb dX9_beginsCast_140 (by decide) ?_
          have hr0 := Option.some.inj hsp
          clear hsp
          subst hr0
          have hP9 := hP.sub (ws' := [(h0, .inr (9, [.ref qf0, .ref qf1, .ref qf2, .int v3, .ref qf4, .ref qf5, .ref qf6, .ref qf7, .ref qf8, .int v9, .int v10, .int v11, .int v12])), (qf0, .inl (cf0, 3001, .inl f0))]) [0, 1] rfl
          have hD9 := hD.sub (ws' := [(h0, .inr (9, [.ref qf0, .ref qf1, .ref qf2, .int v3, .ref qf4, .ref qf5, .ref qf6, .ref qf7, .ref qf8, .int v9, .int v10, .int v11, .int v12])), (qf0, .inl (cf0, 3001, .inl f0))]) [0, 1] (by decide) rfl
          have hK9 := hK.sub (tys' := [(cf0, .int)]) [0] rfl
          exact W.zret hx hb hr (by decide) (fun t ht hW => ⟨⟨(1), (), rfl, ⟨rfl, Or.inr rfl⟩, by rw [ht]; exact hP9, va_K.moved hW.alike hK9, hD9⟩, hS.F ht⟩) hS.2.2 dX9_beginsCast_141
        rw [if_neg hs_12] at hsp
        by_cases hs_13 : u4_0 = 26
        · rw [if_pos hs_13] at hsp
          refine lv_lookup (tgt := 140) hx hb dX9_beginsCast_50 (by decide) (off := 90) (by rw [hs_13]; rfl) (by decide) ?_
          refine lv_iconst (v := 1) hx hb dX9_beginsCast_140 (by decide) ?_
          have hr0 := Option.some.inj hsp
          clear hsp
          subst hr0
          have hP9 := hP.sub (ws' := [(h0, .inr (9, [.ref qf0, .ref qf1, .ref qf2, .int v3, .ref qf4, .ref qf5, .ref qf6, .ref qf7, .ref qf8, .int v9, .int v10, .int v11, .int v12])), (qf0, .inl (cf0, 3001, .inl f0))]) [0, 1] rfl
          have hD9 := hD.sub (ws' := [(h0, .inr (9, [.ref qf0, .ref qf1, .ref qf2, .int v3, .ref qf4, .ref qf5, .ref qf6, .ref qf7, .ref qf8, .int v9, .int v10, .int v11, .int v12])), (qf0, .inl (cf0, 3001, .inl f0))]) [0, 1] (by decide) rfl
          have hK9 := hK.sub (tys' := [(cf0, .int)]) [0] rfl
          exact W.zret hx hb hr (by decide) (fun t ht hW => ⟨⟨(1), (), rfl, ⟨rfl, Or.inr rfl⟩, by rw [ht]; exact hP9, va_K.moved hW.alike hK9, hD9⟩, hS.F ht⟩) hS.2.2 dX9_beginsCast_141
        rw [if_neg hs_13] at hsp
        by_cases hs_14 : u4_0 = 28
        · rw [if_pos hs_14] at hsp
          refine lv_lookup (tgt := 140) hx hb dX9_beginsCast_50 (by decide) (off := 90) (by rw [hs_14]; rfl) (by decide) ?_
          refine lv_iconst (v := 1) hx hb dX9_beginsCast_140 (by decide) ?_
          have hr0 := Option.some.inj hsp
          clear hsp
          subst hr0
          have hP9 := hP.sub (ws' := [(h0, .inr (9, [.ref qf0, .ref qf1, .ref qf2, .int v3, .ref qf4, .ref qf5, .ref qf6, .ref qf7, .ref qf8, .int v9, .int v10, .int v11, .int v12])), (qf0, .inl (cf0, 3001, .inl f0))]) [0, 1] rfl
          have hD9 := hD.sub (ws' := [(h0, .inr (9, [.ref qf0, .ref qf1, .ref qf2, .int v3, .ref qf4, .ref qf5, .ref qf6, .ref qf7, .ref qf8, .int v9, .int v10, .int v11, .int v12])), (qf0, .inl (cf0, 3001, .inl f0))]) [0, 1] (by decide) rfl
          have hK9 := hK.sub (tys' := [(cf0, .int)]) [0] rfl
          exact W.zret hx hb hr (by decide) (fun t ht hW => ⟨⟨(1), (), rfl, ⟨rfl, Or.inr rfl⟩, by rw [ht]; exact hP9, va_K.moved hW.alike hK9, hD9⟩, hS.F ht⟩) hS.2.2 dX9_beginsCast_141
        rw [if_neg hs_14] at hsp
        by_cases hs_15 : u4_0 = 40
        · rw [if_pos hs_15] at hsp
          refine lv_lookup (tgt := 140) hx hb dX9_beginsCast_50 (by decide) (off := 90) (by rw [hs_15]; rfl) (by decide) ?_
          refine lv_iconst (v := 1) hx hb dX9_beginsCast_140 (by decide) ?_
          have hr0 := Option.some.inj hsp
          clear hsp
          subst hr0
          have hP9 := hP.sub (ws' := [(h0, .inr (9, [.ref qf0, .ref qf1, .ref qf2, .int v3, .ref qf4, .ref qf5, .ref qf6, .ref qf7, .ref qf8, .int v9, .int v10, .int v11, .int v12])), (qf0, .inl (cf0, 3001, .inl f0))]) [0, 1] rfl
          have hD9 := hD.sub (ws' := [(h0, .inr (9, [.ref qf0, .ref qf1, .ref qf2, .int v3, .ref qf4, .ref qf5, .ref qf6, .ref qf7, .ref qf8, .int v9, .int v10, .int v11, .int v12])), (qf0, .inl (cf0, 3001, .inl f0))]) [0, 1] (by decide) rfl
          have hK9 := hK.sub (tys' := [(cf0, .int)]) [0] rfl
          exact W.zret hx hb hr (by decide) (fun t ht hW => ⟨⟨(1), (), rfl, ⟨rfl, Or.inr rfl⟩, by rw [ht]; exact hP9, va_K.moved hW.alike hK9, hD9⟩, hS.F ht⟩) hS.2.2 dX9_beginsCast_141
        rw [if_neg hs_15] at hsp
        by_cases hs_16 : u4_0 = 71
        · rw [if_pos hs_16] at hsp
          refine lv_lookup (tgt := 140) hx hb dX9_beginsCast_50 (by decide) (off := 90) (by rw [hs_16]; rfl) (by decide) ?_
          refine lv_iconst (v := 1) hx hb dX9_beginsCast_140 (by decide) ?_
          have hr0 := Option.some.inj hsp
          clear hsp
          subst hr0
          have hP9 := hP.sub (ws' := [(h0, .inr (9, [.ref qf0, .ref qf1, .ref qf2, .int v3, .ref qf4, .ref qf5, .ref qf6, .ref qf7, .ref qf8, .int v9, .int v10, .int v11, .int v12])), (qf0, .inl (cf0, 3001, .inl f0))]) [0, 1] rfl
          have hD9 := hD.sub (ws' := [(h0, .inr (9, [.ref qf0, .ref qf1, .ref qf2, .int v3, .ref qf4, .ref qf5, .ref qf6, .ref qf7, .ref qf8, .int v9, .int v10, .int v11, .int v12])), (qf0, .inl (cf0, 3001, .inl f0))]) [0, 1] (by decide) rfl
          have hK9 := hK.sub (tys' := [(cf0, .int)]) [0] rfl
          exact W.zret hx hb hr (by decide) (fun t ht hW => ⟨⟨(1), (), rfl, ⟨rfl, Or.inr rfl⟩, by rw [ht]; exact hP9, va_K.moved hW.alike hK9, hD9⟩, hS.F ht⟩) hS.2.2 dX9_beginsCast_141
        rw [if_neg hs_16] at hsp
        by_cases hs_17 : u4_0 = 72
        · rw [if_pos hs_17] at hsp
          refine lv_lookup (tgt := 140) hx hb dX9_beginsCast_50 (by decide) (off := 90) (by rw [hs_17]; rfl) (by decide) ?_
          refine lv_iconst (v := 1) hx hb dX9_beginsCast_140 (by decide) ?_
          have hr0 := Option.some.inj hsp
          clear hsp
          subst hr0
          have hP9 := hP.sub (ws' := [(h0, .inr (9, [.ref qf0, .ref qf1, .ref qf2, .int v3, .ref qf4, .ref qf5, .ref qf6, .ref qf7, .ref qf8, .int v9, .int v10, .int v11, .int v12])), (qf0, .inl (cf0, 3001, .inl f0))]) [0, 1] rfl
          have hD9 := hD.sub (ws' := [(h0, .inr (9, [.ref qf0, .ref qf1, .ref qf2, .int v3, .ref qf4, .ref qf5, .ref qf6, .ref qf7, .ref qf8, .int v9, .int v10, .int v11, .int v12])), (qf0, .inl (cf0, 3001, .inl f0))]) [0, 1] (by decide) rfl
          have hK9 := hK.sub (tys' := [(cf0, .int)]) [0] rfl
          exact W.zret hx hb hr (by decide) (fun t ht hW => ⟨⟨(1), (), rfl, ⟨rfl, Or.inr rfl⟩, by rw [ht]; exact hP9, va_K.moved hW.alike hK9, hD9⟩, hS.F ht⟩) hS.2.2 dX9_beginsCast_141
        rw [if_neg hs_17] at hsp
        refine lv_lookup (tgt := 142) hx hb dX9_beginsCast_50 (by decide) (off := 92) (by show Op.lookupswitch.offset [(2, 90), (3, 90), (17, 90), (21, 90), (22, 90), (26, 90), (28, 90), (40, 90), (71, 90), (72, 90)] 92 (u4_0 : Int32).toInt = 92; rw [lv_osw hs_8 (a := 2) rfl, lv_osw hs_9 (a := 3) rfl, lv_osw hs_10 (a := 17) rfl, lv_osw hs_11 (a := 21) rfl, lv_osw hs_12 (a := 22) rfl, lv_osw hs_13 (a := 26) rfl, lv_osw hs_14 (a := 28) rfl, lv_osw hs_15 (a := 40) rfl, lv_osw hs_16 (a := 71) rfl, lv_osw hs_17 (a := 72) rfl]; rfl) (by decide) ?_
        refine lv_iconst (v := 0) hx hb dX9_beginsCast_142 (by decide) ?_
        have hr0 := Option.some.inj hsp
        clear hsp
        subst hr0
        have hP9 := hP.sub (ws' := [(h0, .inr (9, [.ref qf0, .ref qf1, .ref qf2, .int v3, .ref qf4, .ref qf5, .ref qf6, .ref qf7, .ref qf8, .int v9, .int v10, .int v11, .int v12])), (qf0, .inl (cf0, 3001, .inl f0))]) [0, 1] rfl
        have hD9 := hD.sub (ws' := [(h0, .inr (9, [.ref qf0, .ref qf1, .ref qf2, .int v3, .ref qf4, .ref qf5, .ref qf6, .ref qf7, .ref qf8, .int v9, .int v10, .int v11, .int v12])), (qf0, .inl (cf0, 3001, .inl f0))]) [0, 1] (by decide) rfl
        have hK9 := hK.sub (tys' := [(cf0, .int)]) [0] rfl
        exact W.zret hx hb hr (by decide) (fun t ht hW => ⟨⟨(0), (), rfl, ⟨rfl, Or.inl rfl⟩, by rw [ht]; exact hP9, va_K.moved hW.alike hK9, hD9⟩, hS.F ht⟩) hS.2.2 dX9_beginsCast_143
      · rw [if_neg c_6] at hsp
        refine lv_iconst (v := 0) hx hb dX9_beginsCast_38 (by decide) ?_
        have hr0 := Option.some.inj hsp
        clear hsp
        subst hr0
        have hP9 := hP.sub (ws' := [(h0, .inr (9, [.ref qf0, .ref qf1, .ref qf2, .int v3, .ref qf4, .ref qf5, .ref qf6, .ref qf7, .ref qf8, .int v9, .int v10, .int v11, .int v12])), (qf0, .inl (cf0, 3001, .inl f0))]) [0, 1] rfl
        have hD9 := hD.sub (ws' := [(h0, .inr (9, [.ref qf0, .ref qf1, .ref qf2, .int v3, .ref qf4, .ref qf5, .ref qf6, .ref qf7, .ref qf8, .int v9, .int v10, .int v11, .int v12])), (qf0, .inl (cf0, 3001, .inl f0))]) [0, 1] (by decide) rfl
        have hK9 := hK.sub (tys' := [(cf0, .int)]) [0] rfl
        exact W.zret hx hb hr (by decide) (fun t ht hW => ⟨⟨(0), (), rfl, ⟨rfl, Or.inl rfl⟩, by rw [ht]; exact hP9, va_K.moved hW.alike hK9, hD9⟩, hS.F ht⟩) hS.2.2 dX9_beginsCast_39
def sp_t9_isWhileTrue (nf : Nat) (v3 : Int32) (v10 : Int32) (f0 : Nat → Int32) : Option (Int32) := ((sp_t9_kindAt nf (v10 + 1) v3 f0).bind (fun p1 => (if p1 = 40 then ((sp_t9_kindAt nf (v10 + 2) v3 f0).bind (fun p2 => (if p2 = 28 then ((sp_t9_kindAt nf (v10 + 3) v3 f0).bind (fun p3 => (if p3 = 41 then (some 1) else (some 0)))) else (some 0)))) else (some 0))))
set_option maxHeartbeats 4000000 in
set_option maxRecDepth 100000 in
/-- ClassMill$Text.isWhileTrue -/
theorem t9_isWhileTrue (l : Launch) (dC : Nat → ClassId) (dI : Nat → Nat → Nat) (sz : Nat) (h0 : Nat) (qf0 : Nat) (qf1 : Nat) (qf2 : Nat) (v3 : Int32) (qf4 : Nat) (qf5 : Nat) (qf6 : Nat) (qf7 : Nat) (qf8 : Nat) (v9 : Int32) (v10 : Int32) (v11 : Int32) (v12 : Int32) (cf0 : ClassId) (f0 : (Nat → Int32)) (nf : Nat) (r0 : Int32) (hsp : sp_t9_isWhileTrue nf v3 v10 f0 = some r0) : Met l yX9_isWhileTrue (.code yX9_isWhileTrue cX9_isWhileTrue 1 (some .boolean) :: VS_h4) ({ frames := 1, cells := 0, slots := 0, locals := 21 }) (va_Pc [.ref h0] (fun U => U.heap.size = sz ∧ va_P (dC, dI) vwCl [(h0, .inr (9, [.ref qf0, .ref qf1, .ref qf2, .int v3, .ref qf4, .ref qf5, .ref qf6, .ref qf7, .ref qf8, .int v9, .int v10, .int v11, .int v12])), (qf0, .inl (cf0, 3001, .inl f0))] U.heap ∧ va_K (dC, dI) vwCl [(cf0, .int)] U ∧ va_D (fun _ => True) [(h0, .inr (9, [.ref qf0, .ref qf1, .ref qf2, .int v3, .ref qf4, .ref qf5, .ref qf6, .ref qf7, .ref qf8, .int v9, .int v10, .int v11, .int v12])), (qf0, .inl (cf0, 3001, .inl f0))])) (va_Qi (fun (r : Int32) (u : Unit) => match u with | () => r0 = r ∧ (r0 = 0 ∨ r0 = 1)) (fun (u : Unit) (t : State) => match u with | () => va_P (dC, dI) vwCl [(h0, .inr (9, [.ref qf0, .ref qf1, .ref qf2, .int v3, .ref qf4, .ref qf5, .ref qf6, .ref qf7, .ref qf8, .int v9, .int v10, .int v11, .int v12])), (qf0, .inl (cf0, 3001, .inl f0))] t.heap ∧ va_K (dC, dI) vwCl [(cf0, .int)] t ∧ va_D (va_A [(h0, .inr (9, [.ref qf0, .ref qf1, .ref qf2, .int v3, .ref qf4, .ref qf5, .ref qf6, .ref qf7, .ref qf8, .int v9, .int v10, .int v11, .int v12])), (qf0, .inl (cf0, 3001, .inl f0))] sz) [(h0, .inr (9, [.ref qf0, .ref qf1, .ref qf2, .int v3, .ref qf4, .ref qf5, .ref qf6, .ref qf7, .ref qf8, .int v9, .int v10, .int v11, .int v12])), (qf0, .inl (cf0, 3001, .inl f0))]) (va_A [(h0, .inr (9, [.ref qf0, .ref qf1, .ref qf2, .int v3, .ref qf4, .ref qf5, .ref qf6, .ref qf7, .ref qf8, .int v9, .int v10, .int v11, .int v12])), (qf0, .inl (cf0, 3001, .inl f0))] sz)) 0 0 (va_A [(h0, .inr (9, [.ref qf0, .ref qf1, .ref qf2, .int v3, .ref qf4, .ref qf5, .ref qf6, .ref qf7, .ref qf8, .int v9, .int v10, .int v11, .int v12])), (qf0, .inl (cf0, 3001, .inl f0))] sz) := by
  refine Met.ofW (cc := cX9_isWhileTrue) (maxL := 1) (ret := (some .boolean)) (by decide) rfl ?_
  intro p e s m args below meth c s₁ B hml hv
  obtain ⟨rfl, hsz, hP, hK, hD0⟩ := hv
  have hx := B.exec
  have hb := B.bytes
  have hr := B.returns
  have hts := atoms_spec (ws := (.code yX9_isWhileTrue cX9_isWhileTrue 1 (some .boolean) :: VS_h4)) B.pre
  replace hts := fun w (h : w ∈ VS_h4) => hts w (List.mem_cons_of_mem _ h)
  have hown : s.vm.findClass RX9 = some m.cls := findClass_of_methodNamed B.named
  have hlocks := B.notSynchronized
  subst hsz
  have hD := hD0.self (sz := s.heap.size)
  generalize hAe : va_A [(h0, .inr (9, [.ref qf0, .ref qf1, .ref qf2, .int v3, .ref qf4, .ref qf5, .ref qf6, .ref qf7, .ref qf8, .int v9, .int v10, .int v11, .int v12])), (qf0, .inl (cf0, 3001, .inl f0))] s.heap.size = A at hD  ⊢
  have hA : ∀ q : Nat, s.heap.size ≤ q → A q := fun q h => by rw [← hAe]; exact Or.inr h
  have hP : va_P (dC, dI) vwCl [(h0, .inr (9, [.ref qf0, .ref qf1, .ref qf2, .int v3, .ref qf4, .ref qf5, .ref qf6, .ref qf7, .ref qf8, .int v9, .int v10, .int v11, .int v12])), (qf0, .inl (cf0, 3001, .inl f0))] s.heap := hP
  have hl := lv_entry ([.ref h0]) (n := 1) (Nat.le_of_ble_eq_true rfl)
  rw [lg_entry_eq]
  generalize (lg_sl ([.ref h0]) ++ List.replicate (1 - (lg_sl ([.ref h0])).length) Slot.unset).toArray = ls at hl ⊢
  have hl : lv_has ls 1 [(0, .ref h0)] := hl
  obtain ⟨H, hH⟩ : ∃ H : Heap, s.heap = H := ⟨_, rfl⟩
  rw [hH] at hP ⊢
  have hS : va_S A s.heap H [] := by rw [← hH]; exact va_S.rf
  obtain ⟨locs, hlo⟩ : ∃ locs : List Loc, locs = [] := ⟨_, rfl⟩
  rw [← hlo] at hS ⊢
  unfold sp_t9_isWhileTrue at hsp
  refine lv_aload_n hx hb dX9_isWhileTrue_0 rfl (lv_at hl 0 rfl) ?_
  refine lv_aload_n hx hb dX9_isWhileTrue_1 rfl (lv_at hl 0 rfl) ?_
  refine va_get (D := (dC, dI)) (ci := 9) (v := .int v10) (C := RX9) (T := TX9) (N := 13) hx hb hts uV_h4_X9 hown hK hP 0 rfl rfl 10 (by decide) (hts (.fieldLink RX9 86 "ClassMill$Text" "pos" "I") mw_h4_4) (fun _ h9 => h9) rfl dX9_isWhileTrue_2 ?_
  refine lv_iconst (v := 1) hx hb dX9_isWhileTrue_5 (by decide) ?_
  refine lv_iadd hx hb dX9_isWhileTrue_6 ?_
  obtain ⟨u1_0, hu_1, hsp⟩ := ox_bind hsp
  try dsimp only at hsp
  have hPc := hP.sub (ws' := [(h0, .inr (9, [.ref qf0, .ref qf1, .ref qf2, .int v3, .ref qf4, .ref qf5, .ref qf6, .ref qf7, .ref qf8, .int v9, .int v10, .int v11, .int v12])), (qf0, .inl (cf0, 3001, .inl f0))]) [0, 1] rfl
  have hDc := hD.sub (ws' := [(h0, .inr (9, [.ref qf0, .ref qf1, .ref qf2, .int v3, .ref qf4, .ref qf5, .ref qf6, .ref qf7, .ref qf8, .int v9, .int v10, .int v11, .int v12])), (qf0, .inl (cf0, 3001, .inl f0))]) [0, 1] (by decide) rfl
  have hKc := hK.sub (tys' := [(cf0, .int)]) [0] rfl
  have hFc := va_free (wc := [(h0, .inr (9, [.ref qf0, .ref qf1, .ref qf2, .int v3, .ref qf4, .ref qf5, .ref qf6, .ref qf7, .ref qf8, .int v9, .int v10, .int v11, .int v12])), (qf0, .inl (cf0, 3001, .inl f0))]) hD hS hA [0, 1] rfl
  refine va_calli (va_runV (As := [.int (v10 + 1)]) (rest := []) ⟨hx, hb, hml, hown, hts⟩ (t9_kindAt l dC dI H.size h0 ((v10 + 1)) qf0 qf1 qf2 v3 qf4 qf5 qf6 qf7 qf8 v9 v10 v11 v12 cf0 f0 nf u1_0 hu_1) (cwV 1 hts gv_h4_5 rfl rfl rfl (by decide +kernel) ⟨Nat.le_of_ble_eq_true rfl, Nat.le_of_ble_eq_true rfl⟩) ⟨fun a U g mk q => by obtain ⟨q0, q1, qP, qK, qD⟩ := q; exact ⟨q0, q1, qP, va_K.moved (u := U) (U := U.calling g mk a) (Vm.Alike.refl U.vm) qK, qD⟩, va_recv hKc hPc (ci := 9) (q0 := 0) rfl rfl, fun U hU hW => ⟨rfl, by rw [hU], by rw [hU]; exact hPc, va_K.moved hW.alike hKc, hDc.weaken (fun _ _ _ _ => trivial)⟩⟩ rfl rfl hl.1 rfl (lv_room (Nat.le_of_ble_eq_true rfl)) dX9_isWhileTrue_7 ⟨Nat.le_of_ble_eq_true rfl, Nat.le_of_ble_eq_true rfl⟩) hS (fun q _ h => hFc q h) hFc ?_
  clear hS
  intro r_1 u t H1 locs ht hvm hw hB hz1 hk1 hS
  obtain ⟨⟩ := u
  obtain ⟨hP1, hK1, hD1⟩ := hB
  rw [ht] at hP1
  have hK1 := va_K.moved hvm.symm hK1
  try dsimp only at hw
  have hPD := va_join (wr := []) (w1 := [(h0, .inr (9, [.ref qf0, .ref qf1, .ref qf2, .int v3, .ref qf4, .ref qf5, .ref qf6, .ref qf7, .ref qf8, .int v9, .int v10, .int v11, .int v12])), (qf0, .inl (cf0, 3001, .inl f0))]) hP hD [0, 1] [] rfl rfl (by decide) (by decide) hk1 hFc hP1 hD1
  clear hP hD
  obtain ⟨hP, hD⟩ := hPD
  replace hK := (hK.sub (tys' := []) [] rfl).app hK1
  clear hPc hDc hKc hFc hP1 hK1 hD1 hz1 hk1 ht hvm
  generalize H1 = H at hP hS ⊢
  replace hP : va_P (dC, dI) vwCl [(h0, .inr (9, [.ref qf0, .ref qf1, .ref qf2, .int v3, .ref qf4, .ref qf5, .ref qf6, .ref qf7, .ref qf8, .int v9, .int v10, .int v11, .int v12])), (qf0, .inl (cf0, 3001, .inl f0))] H := hP
  replace hD : va_D A [(h0, .inr (9, [.ref qf0, .ref qf1, .ref qf2, .int v3, .ref qf4, .ref qf5, .ref qf6, .ref qf7, .ref qf8, .int v9, .int v10, .int v11, .int v12])), (qf0, .inl (cf0, 3001, .inl f0))] := hD
  replace hK : va_K (dC, dI) vwCl [(cf0, .int)] s := hK
  obtain rfl := hw
  refine lv_bipush (v := 40) hx hb dX9_isWhileTrue_10 (by decide) ?_
  refine lv_icmp_ne (tgt := 49) hx hb dX9_isWhileTrue_12 (by decide) (fun c_2 => ?_) (fun c_2 => ?_)
  · rw [if_neg c_2] at hsp
    refine lv_iconst (v := 0) hx hb dX9_isWhileTrue_49 (by decide) ?_
    have hr0 := Option.some.inj hsp
    clear hsp
    subst hr0
    have hP9 := hP.sub (ws' := [(h0, .inr (9, [.ref qf0, .ref qf1, .ref qf2, .int v3, .ref qf4, .ref qf5, .ref qf6, .ref qf7, .ref qf8, .int v9, .int v10, .int v11, .int v12])), (qf0, .inl (cf0, 3001, .inl f0))]) [0, 1] rfl
    have hD9 := hD.sub (ws' := [(h0, .inr (9, [.ref qf0, .ref qf1, .ref qf2, .int v3, .ref qf4, .ref qf5, .ref qf6, .ref qf7, .ref qf8, .int v9, .int v10, .int v11, .int v12])), (qf0, .inl (cf0, 3001, .inl f0))]) [0, 1] (by decide) rfl
    have hK9 := hK.sub (tys' := [(cf0, .int)]) [0] rfl
    exact W.zret hx hb hr (by decide) (fun t ht hW => ⟨⟨(0), (), rfl, ⟨rfl, Or.inl rfl⟩, by rw [ht]; exact hP9, va_K.moved hW.alike hK9, hD9⟩, hS.F ht⟩) hS.2.2 dX9_isWhileTrue_50
  · rw [if_pos c_2] at hsp
    refine lv_aload_n hx hb dX9_isWhileTrue_15 rfl (lv_at hl 0 rfl) ?_
    refine lv_aload_n hx hb dX9_isWhileTrue_16 rfl (lv_at hl 0 rfl) ?_
    refine va_get (D := (dC, dI)) (ci := 9) (v := .int v10) (C := RX9) (T := TX9) (N := 13) hx hb hts uV_h4_X9 hown hK hP 0 rfl rfl 10 (by decide) (hts (.fieldLink RX9 86 "ClassMill$Text" "pos" "I") mw_h4_4) (fun _ h9 => h9) rfl dX9_isWhileTrue_17 ?_
    refine lv_iconst (v := 2) hx hb dX9_isWhileTrue_20 (by decide) ?_
    refine lv_iadd hx hb dX9_isWhileTrue_21 ?_
    obtain ⟨u2_0, hu_2, hsp⟩ := ox_bind hsp
    try dsimp only at hsp
    have hPc := hP.sub (ws' := [(h0, .inr (9, [.ref qf0, .ref qf1, .ref qf2, .int v3, .ref qf4, .ref qf5, .ref qf6, .ref qf7, .ref qf8, .int v9, .int v10, .int v11, .int v12])), (qf0, .inl (cf0, 3001, .inl f0))]) [0, 1] rfl
    have hDc := hD.sub (ws' := [(h0, .inr (9, [.ref qf0, .ref qf1, .ref qf2, .int v3, .ref qf4, .ref qf5, .ref qf6, .ref qf7, .ref qf8, .int v9, .int v10, .int v11, .int v12])), (qf0, .inl (cf0, 3001, .inl f0))]) [0, 1] (by decide) rfl
    have hKc := hK.sub (tys' := [(cf0, .int)]) [0] rfl
    have hFc := va_free (wc := [(h0, .inr (9, [.ref qf0, .ref qf1, .ref qf2, .int v3, .ref qf4, .ref qf5, .ref qf6, .ref qf7, .ref qf8, .int v9, .int v10, .int v11, .int v12])), (qf0, .inl (cf0, 3001, .inl f0))]) hD hS hA [0, 1] rfl
    refine va_calli (va_runV (As := [.int (v10 + 2)]) (rest := []) ⟨hx, hb, hml, hown, hts⟩ (t9_kindAt l dC dI H.size h0 ((v10 + 2)) qf0 qf1 qf2 v3 qf4 qf5 qf6 qf7 qf8 v9 v10 v11 v12 cf0 f0 nf u2_0 hu_2) (cwV 1 hts gv_h4_5 rfl rfl rfl (by decide +kernel) ⟨Nat.le_of_ble_eq_true rfl, Nat.le_of_ble_eq_true rfl⟩) ⟨fun a U g mk q => by obtain ⟨q0, q1, qP, qK, qD⟩ := q; exact ⟨q0, q1, qP, va_K.moved (u := U) (U := U.calling g mk a) (Vm.Alike.refl U.vm) qK, qD⟩, va_recv hKc hPc (ci := 9) (q0 := 0) rfl rfl, fun U hU hW => ⟨rfl, by rw [hU], by rw [hU]; exact hPc, va_K.moved hW.alike hKc, hDc.weaken (fun _ _ _ _ => trivial)⟩⟩ rfl rfl hl.1 rfl (lv_room (Nat.le_of_ble_eq_true rfl)) dX9_isWhileTrue_22 ⟨Nat.le_of_ble_eq_true rfl, Nat.le_of_ble_eq_true rfl⟩) hS (fun q _ h => hFc q h) hFc ?_
    clear hS
    intro r_3 u t H1 locs ht hvm hw hB hz1 hk1 hS
    obtain ⟨⟩ := u
    obtain ⟨hP1, hK1, hD1⟩ := hB
    rw [ht] at hP1
    have hK1 := va_K.moved hvm.symm hK1
    try dsimp only at hw
    have hPD := va_join (wr := []) (w1 := [(h0, .inr (9, [.ref qf0, .ref qf1, .ref qf2, .int v3, .ref qf4, .ref qf5, .ref qf6, .ref qf7, .ref qf8, .int v9, .int v10, .int v11, .int v12])), (qf0, .inl (cf0, 3001, .inl f0))]) hP hD [0, 1] [] rfl rfl (by decide) (by decide) hk1 hFc hP1 hD1
    clear hP hD
    obtain ⟨hP, hD⟩ := hPD
    replace hK := (hK.sub (tys' := []) [] rfl).app hK1
    clear hPc hDc hKc hFc hP1 hK1 hD1 hz1 hk1 ht hvm
    generalize H1 = H at hP hS ⊢
    replace hP : va_P (dC, dI) vwCl [(h0, .inr (9, [.ref qf0, .ref qf1, .ref qf2, .int v3, .ref qf4, .ref qf5, .ref qf6, .ref qf7, .ref qf8, .int v9, .int v10, .int v11, .int v12])), (qf0, .inl (cf0, 3001, .inl f0))] H := hP
    replace hD : va_D A [(h0, .inr (9, [.ref qf0, .ref qf1, .ref qf2, .int v3, .ref qf4, .ref qf5, .ref qf6, .ref qf7, .ref qf8, .int v9, .int v10, .int v11, .int v12])), (qf0, .inl (cf0, 3001, .inl f0))] := hD
    replace hK : va_K (dC, dI) vwCl [(cf0, .int)] s := hK
    obtain rfl := hw
    refine lv_bipush (v := 28) hx hb dX9_isWhileTrue_25 (by decide) ?_
    refine lv_icmp_ne (tgt := 49) hx hb dX9_isWhileTrue_27 (by decide) (fun c_4 => ?_) (fun c_4 => ?_)
    · rw [if_neg c_4] at hsp
      refine lv_iconst (v := 0) hx hb dX9_isWhileTrue_49 (by decide) ?_
      have hr0 := Option.some.inj hsp
      clear hsp
      subst hr0
      have hP9 := hP.sub (ws' := [(h0, .inr (9, [.ref qf0, .ref qf1, .ref qf2, .int v3, .ref qf4, .ref qf5, .ref qf6, .ref qf7, .ref qf8, .int v9, .int v10, .int v11, .int v12])), (qf0, .inl (cf0, 3001, .inl f0))]) [0, 1] rfl
      have hD9 := hD.sub (ws' := [(h0, .inr (9, [.ref qf0, .ref qf1, .ref qf2, .int v3, .ref qf4, .ref qf5, .ref qf6, .ref qf7, .ref qf8, .int v9, .int v10, .int v11, .int v12])), (qf0, .inl (cf0, 3001, .inl f0))]) [0, 1] (by decide) rfl
      have hK9 := hK.sub (tys' := [(cf0, .int)]) [0] rfl
      exact W.zret hx hb hr (by decide) (fun t ht hW => ⟨⟨(0), (), rfl, ⟨rfl, Or.inl rfl⟩, by rw [ht]; exact hP9, va_K.moved hW.alike hK9, hD9⟩, hS.F ht⟩) hS.2.2 dX9_isWhileTrue_50
    · rw [if_pos c_4] at hsp
      refine lv_aload_n hx hb dX9_isWhileTrue_30 rfl (lv_at hl 0 rfl) ?_
      refine lv_aload_n hx hb dX9_isWhileTrue_31 rfl (lv_at hl 0 rfl) ?_
      refine va_get (D := (dC, dI)) (ci := 9) (v := .int v10) (C := RX9) (T := TX9) (N := 13) hx hb hts uV_h4_X9 hown hK hP 0 rfl rfl 10 (by decide) (hts (.fieldLink RX9 86 "ClassMill$Text" "pos" "I") mw_h4_4) (fun _ h9 => h9) rfl dX9_isWhileTrue_32 ?_
      refine lv_iconst (v := 3) hx hb dX9_isWhileTrue_35 (by decide) ?_
      refine lv_iadd hx hb dX9_isWhileTrue_36 ?_
      obtain ⟨u3_0, hu_3, hsp⟩ := ox_bind hsp
      try dsimp only at hsp
      have hPc := hP.sub (ws' := [(h0, .inr (9, [.ref qf0, .ref qf1, .ref qf2, .int v3, .ref qf4, .ref qf5, .ref qf6, .ref qf7, .ref qf8, .int v9, .int v10, .int v11, .int v12])), (qf0, .inl (cf0, 3001, .inl f0))]) [0, 1] rfl
      have hDc := hD.sub (ws' := [(h0, .inr (9, [.ref qf0, .ref qf1, .ref qf2, .int v3, .ref qf4, .ref qf5, .ref qf6, .ref qf7, .ref qf8, .int v9, .int v10, .int v11, .int v12])), (qf0, .inl (cf0, 3001, .inl f0))]) [0, 1] (by decide) rfl
      have hKc := hK.sub (tys' := [(cf0, .int)]) [0] rfl
      have hFc := va_free (wc := [(h0, .inr (9, [.ref qf0, .ref qf1, .ref qf2, .int v3, .ref qf4, .ref qf5, .ref qf6, .ref qf7, .ref qf8, .int v9, .int v10, .int v11, .int v12])), (qf0, .inl (cf0, 3001, .inl f0))]) hD hS hA [0, 1] rfl
      refine va_calli (va_runV (As := [.int (v10 + 3)]) (rest := []) ⟨hx, hb, hml, hown, hts⟩ (t9_kindAt l dC dI H.size h0 ((v10 + 3)) qf0 qf1 qf2 v3 qf4 qf5 qf6 qf7 qf8 v9 v10 v11 v12 cf0 f0 nf u3_0 hu_3) (cwV 1 hts gv_h4_5 rfl rfl rfl (by decide +kernel) ⟨Nat.le_of_ble_eq_true rfl, Nat.le_of_ble_eq_true rfl⟩) ⟨fun a U g mk q => by obtain ⟨q0, q1, qP, qK, qD⟩ := q; exact ⟨q0, q1, qP, va_K.moved (u := U) (U := U.calling g mk a) (Vm.Alike.refl U.vm) qK, qD⟩, va_recv hKc hPc (ci := 9) (q0 := 0) rfl rfl, fun U hU hW => ⟨rfl, by rw [hU], by rw [hU]; exact hPc, va_K.moved hW.alike hKc, hDc.weaken (fun _ _ _ _ => trivial)⟩⟩ rfl rfl hl.1 rfl (lv_room (Nat.le_of_ble_eq_true rfl)) dX9_isWhileTrue_37 ⟨Nat.le_of_ble_eq_true rfl, Nat.le_of_ble_eq_true rfl⟩) hS (fun q _ h => hFc q h) hFc ?_
      clear hS
      intro r_5 u t H1 locs ht hvm hw hB hz1 hk1 hS
      obtain ⟨⟩ := u
      obtain ⟨hP1, hK1, hD1⟩ := hB
      rw [ht] at hP1
      have hK1 := va_K.moved hvm.symm hK1
      try dsimp only at hw
      have hPD := va_join (wr := []) (w1 := [(h0, .inr (9, [.ref qf0, .ref qf1, .ref qf2, .int v3, .ref qf4, .ref qf5, .ref qf6, .ref qf7, .ref qf8, .int v9, .int v10, .int v11, .int v12])), (qf0, .inl (cf0, 3001, .inl f0))]) hP hD [0, 1] [] rfl rfl (by decide) (by decide) hk1 hFc hP1 hD1
      clear hP hD
      obtain ⟨hP, hD⟩ := hPD
      replace hK := (hK.sub (tys' := []) [] rfl).app hK1
      clear hPc hDc hKc hFc hP1 hK1 hD1 hz1 hk1 ht hvm
      generalize H1 = H at hP hS ⊢
      replace hP : va_P (dC, dI) vwCl [(h0, .inr (9, [.ref qf0, .ref qf1, .ref qf2, .int v3, .ref qf4, .ref qf5, .ref qf6, .ref qf7, .ref qf8, .int v9, .int v10, .int v11, .int v12])), (qf0, .inl (cf0, 3001, .inl f0))] H := hP
      replace hD : va_D A [(h0, .inr (9, [.ref qf0, .ref qf1, .ref qf2, .int v3, .ref qf4, .ref qf5, .ref qf6, .ref qf7, .ref qf8, .int v9, .int v10, .int v11, .int v12])), (qf0, .inl (cf0, 3001, .inl f0))] := hD
      replace hK : va_K (dC, dI) vwCl [(cf0, .int)] s := hK
      obtain rfl := hw
      refine lv_bipush (v := 41) hx hb dX9_isWhileTrue_40 (by decide) ?_
      refine lv_icmp_ne (tgt := 49) hx hb dX9_isWhileTrue_42 (by decide) (fun c_6 => ?_) (fun c_6 => ?_)
      · rw [if_neg c_6] at hsp
        refine lv_iconst (v := 0) hx hb dX9_isWhileTrue_49 (by decide) ?_
        have hr0 := Option.some.inj hsp
        clear hsp
        subst hr0
        have hP9 := hP.sub (ws' := [(h0, .inr (9, [.ref qf0, .ref qf1, .ref qf2, .int v3, .ref qf4, .ref qf5, .ref qf6, .ref qf7, .ref qf8, .int v9, .int v10, .int v11, .int v12])), (qf0, .inl (cf0, 3001, .inl f0))]) [0, 1] rfl
        have hD9 := hD.sub (ws' := [(h0, .inr (9, [.ref qf0, .ref qf1, .ref qf2, .int v3, .ref qf4, .ref qf5, .ref qf6, .ref qf7, .ref qf8, .int v9, .int v10, .int v11, .int v12])), (qf0, .inl (cf0, 3001, .inl f0))]) [0, 1] (by decide) rfl
        have hK9 := hK.sub (tys' := [(cf0, .int)]) [0] rfl
        exact W.zret hx hb hr (by decide) (fun t ht hW => ⟨⟨(0), (), rfl, ⟨rfl, Or.inl rfl⟩, by rw [ht]; exact hP9, va_K.moved hW.alike hK9, hD9⟩, hS.F ht⟩) hS.2.2 dX9_isWhileTrue_50
      · rw [if_pos c_6] at hsp
        refine lv_iconst (v := 1) hx hb dX9_isWhileTrue_45 (by decide) ?_
        refine lv_goto (tgt := 50) hx hb dX9_isWhileTrue_46 (by decide) ?_
        have hr0 := Option.some.inj hsp
        clear hsp
        subst hr0
        have hP9 := hP.sub (ws' := [(h0, .inr (9, [.ref qf0, .ref qf1, .ref qf2, .int v3, .ref qf4, .ref qf5, .ref qf6, .ref qf7, .ref qf8, .int v9, .int v10, .int v11, .int v12])), (qf0, .inl (cf0, 3001, .inl f0))]) [0, 1] rfl
        have hD9 := hD.sub (ws' := [(h0, .inr (9, [.ref qf0, .ref qf1, .ref qf2, .int v3, .ref qf4, .ref qf5, .ref qf6, .ref qf7, .ref qf8, .int v9, .int v10, .int v11, .int v12])), (qf0, .inl (cf0, 3001, .inl f0))]) [0, 1] (by decide) rfl
        have hK9 := hK.sub (tys' := [(cf0, .int)]) [0] rfl
        exact W.zret hx hb hr (by decide) (fun t ht hW => ⟨⟨(1), (), rfl, ⟨rfl, Or.inr rfl⟩, by rw [ht]; exact hP9, va_K.moved hW.alike hK9, hD9⟩, hS.F ht⟩) hS.2.2 dX9_isWhileTrue_50
def sp_t9_closeName (nf : Nat) (a1 : Int32) (v9 : Int32) (f5 : Nat → Int32) (f4 : Nat → Int32) (f7 : Nat → Int32) (f6 : Nat → Int32) : Option ((Nat → Int32) × (Nat → Int32) × (Nat → Int32) × Int32) := (if v9 < 0 then none else if 1741 ≤ (v9 : Int32).toNatClampNeg then none else ((sp_t9_bucketOf nf (f5 (v9 : Int32).toNatClampNeg) (a1 - (f5 (v9 : Int32).toNatClampNeg)) 6400 f4).bind (fun p1 => (if p1 < 0 then none else if 64 ≤ (p1 : Int32).toNatClampNeg then none else (if v9 < 0 then none else if 1740 ≤ (v9 : Int32).toNatClampNeg then none else (if p1 < 0 then none else if 64 ≤ (p1 : Int32).toNatClampNeg then none else (if (v9 + 1) < 0 then none else if 1741 ≤ ((v9 + 1) : Int32).toNatClampNeg then none else (some ((upd f5 ((v9 + 1) : Int32).toNatClampNeg a1), (upd f6 (v9 : Int32).toNatClampNeg (f7 (p1 : Int32).toNatClampNeg)), (upd f7 (p1 : Int32).toNatClampNeg v9), (v9 + 1))))))))))
set_option maxHeartbeats 4000000 in
set_option maxRecDepth 100000 in
/-- ClassMill$Text.closeName -/
theorem t9_closeName (l : Launch) (dC : Nat → ClassId) (dI : Nat → Nat → Nat) (sz : Nat) (h0 : Nat) (a1 : Int32) (qf0 : Nat) (qf1 : Nat) (qf2 : Nat) (v3 : Int32) (qf4 : Nat) (qf5 : Nat) (qf6 : Nat) (qf7 : Nat) (qf8 : Nat) (v9 : Int32) (v10 : Int32) (v11 : Int32) (v12 : Int32) (cf5 : ClassId) (f5 : (Nat → Int32)) (cf4 : ClassId) (f4 : (Nat → Int32)) (cf7 : ClassId) (f7 : (Nat → Int32)) (cf6 : ClassId) (f6 : (Nat → Int32)) (nf : Nat) (o5 : (Nat → Int32)) (o6 : (Nat → Int32)) (o7 : (Nat → Int32)) (w9 : Int32) (hsp : sp_t9_closeName nf a1 v9 f5 f4 f7 f6 = some (o5, o6, o7, w9)) : Met l yX9_closeName (.code yX9_closeName cX9_closeName 4 none :: VS_h4) ({ frames := 1, cells := 0, slots := 0, locals := 22 }) (va_Pc [.ref h0, .int a1] (fun U => U.heap.size = sz ∧ va_P (dC, dI) vwCl [(h0, .inr (9, [.ref qf0, .ref qf1, .ref qf2, .int v3, .ref qf4, .ref qf5, .ref qf6, .ref qf7, .ref qf8, .int v9, .int v10, .int v11, .int v12])), (qf5, .inl (cf5, 1741, .inl f5)), (qf4, .inl (cf4, 6400, .inl f4)), (qf7, .inl (cf7, 64, .inl f7)), (qf6, .inl (cf6, 1740, .inl f6))] U.heap ∧ va_K (dC, dI) vwCl [(cf5, .int), (cf4, .byte), (cf7, .int), (cf6, .int)] U ∧ va_D (fun _ => True) [(h0, .inr (9, [.ref qf0, .ref qf1, .ref qf2, .int v3, .ref qf4, .ref qf5, .ref qf6, .ref qf7, .ref qf8, .int v9, .int v10, .int v11, .int v12])), (qf5, .inl (cf5, 1741, .inl f5)), (qf4, .inl (cf4, 6400, .inl f4)), (qf7, .inl (cf7, 64, .inl f7)), (qf6, .inl (cf6, 1740, .inl f6))])) (va_Qv (fun (u : Unit) => match u with | () => True) (fun (u : Unit) (t : State) => match u with | () => va_P (dC, dI) vwCl [(h0, .inr (9, [.ref qf0, .ref qf1, .ref qf2, .int v3, .ref qf4, .ref qf5, .ref qf6, .ref qf7, .ref qf8, .int w9, .int v10, .int v11, .int v12])), (qf5, .inl (cf5, 1741, .inl o5)), (qf4, .inl (cf4, 6400, .inl f4)), (qf7, .inl (cf7, 64, .inl o7)), (qf6, .inl (cf6, 1740, .inl o6))] t.heap ∧ va_K (dC, dI) vwCl [(cf5, .int), (cf4, .byte), (cf7, .int), (cf6, .int)] t ∧ va_D (va_A [(h0, .inr (9, [.ref qf0, .ref qf1, .ref qf2, .int v3, .ref qf4, .ref qf5, .ref qf6, .ref qf7, .ref qf8, .int v9, .int v10, .int v11, .int v12])), (qf5, .inl (cf5, 1741, .inl f5)), (qf4, .inl (cf4, 6400, .inl f4)), (qf7, .inl (cf7, 64, .inl f7)), (qf6, .inl (cf6, 1740, .inl f6))] sz) [(h0, .inr (9, [.ref qf0, .ref qf1, .ref qf2, .int v3, .ref qf4, .ref qf5, .ref qf6, .ref qf7, .ref qf8, .int w9, .int v10, .int v11, .int v12])), (qf5, .inl (cf5, 1741, .inl o5)), (qf4, .inl (cf4, 6400, .inl f4)), (qf7, .inl (cf7, 64, .inl o7)), (qf6, .inl (cf6, 1740, .inl o6))]) (va_A [(h0, .inr (9, [.ref qf0, .ref qf1, .ref qf2, .int v3, .ref qf4, .ref qf5, .ref qf6, .ref qf7, .ref qf8, .int v9, .int v10, .int v11, .int v12])), (qf5, .inl (cf5, 1741, .inl f5)), (qf4, .inl (cf4, 6400, .inl f4)), (qf7, .inl (cf7, 64, .inl f7)), (qf6, .inl (cf6, 1740, .inl f6))] sz)) 0 0 (va_A [(h0, .inr (9, [.ref qf0, .ref qf1, .ref qf2, .int v3, .ref qf4, .ref qf5, .ref qf6, .ref qf7, .ref qf8, .int v9, .int v10, .int v11, .int v12])), (qf5, .inl (cf5, 1741, .inl f5)), (qf4, .inl (cf4, 6400, .inl f4)), (qf7, .inl (cf7, 64, .inl f7)), (qf6, .inl (cf6, 1740, .inl f6))] sz) := by
  refine Met.ofW (cc := cX9_closeName) (maxL := 4) (ret := none) (by decide) rfl ?_
  intro p e s m args below meth c s₁ B hml hv
  obtain ⟨rfl, hsz, hP, hK, hD0⟩ := hv
  have hx := B.exec
  have hb := B.bytes
  have hr := B.returns
  have hts := atoms_spec (ws := (.code yX9_closeName cX9_closeName 4 none :: VS_h4)) B.pre
  replace hts := fun w (h : w ∈ VS_h4) => hts w (List.mem_cons_of_mem _ h)
  have hown : s.vm.findClass RX9 = some m.cls := findClass_of_methodNamed B.named
  have hlocks := B.notSynchronized
  subst hsz
  have hD := hD0.self (sz := s.heap.size)
  generalize hAe : va_A [(h0, .inr (9, [.ref qf0, .ref qf1, .ref qf2, .int v3, .ref qf4, .ref qf5, .ref qf6, .ref qf7, .ref qf8, .int v9, .int v10, .int v11, .int v12])), (qf5, .inl (cf5, 1741, .inl f5)), (qf4, .inl (cf4, 6400, .inl f4)), (qf7, .inl (cf7, 64, .inl f7)), (qf6, .inl (cf6, 1740, .inl f6))] s.heap.size = A at hD  ⊢
  have hA : ∀ q : Nat, s.heap.size ≤ q → A q := fun q h => by rw [← hAe]; exact Or.inr h
  have hP : va_P (dC, dI) vwCl [(h0, .inr (9, [.ref qf0, .ref qf1, .ref qf2, .int v3, .ref qf4, .ref qf5, .ref qf6, .ref qf7, .ref qf8, .int v9, .int v10, .int v11, .int v12])), (qf5, .inl (cf5, 1741, .inl f5)), (qf4, .inl (cf4, 6400, .inl f4)), (qf7, .inl (cf7, 64, .inl f7)), (qf6, .inl (cf6, 1740, .inl f6))] s.heap := hP
  have hl := lv_entry ([.ref h0, .int a1]) (n := 4) (Nat.le_of_ble_eq_true rfl)
  rw [lg_entry_eq]
  generalize (lg_sl ([.ref h0, .int a1]) ++ List.replicate (4 - (lg_sl ([.ref h0, .int a1])).length) Slot.unset).toArray = ls at hl ⊢
  have hl : lv_has ls 4 [(0, .ref h0), (1, .int a1)] := hl
  obtain ⟨H, hH⟩ : ∃ H : Heap, s.heap = H := ⟨_, rfl⟩
  rw [hH] at hP ⊢
  have hS : va_S A s.heap H [] := by rw [← hH]; exact va_S.rf
  obtain ⟨locs, hlo⟩ : ∃ locs : List Loc, locs = [] := ⟨_, rfl⟩
  rw [← hlo] at hS ⊢
  unfold sp_t9_closeName at hsp
  refine lv_aload_n hx hb dX9_closeName_0 rfl (lv_at hl 0 rfl) ?_
  refine va_get (D := (dC, dI)) (ci := 9) (v := .ref qf5) (C := RX9) (T := TX9) (N := 13) hx hb hts uV_h4_X9 hown hK hP 0 rfl rfl 5 (by decide) (hts (.fieldLink RX9 29 "ClassMill$Text" "nameAt" "[I") mw_h4_8) (fun _ h9 => h9) rfl dX9_closeName_1 ?_
  refine lv_aload_n hx hb dX9_closeName_4 rfl (lv_at hl 0 rfl) ?_
  refine va_get (D := (dC, dI)) (ci := 9) (v := .int v9) (C := RX9) (T := TX9) (N := 13) hx hb hts uV_h4_X9 hown hK hP 0 rfl rfl 9 (by decide) (hts (.fieldLink RX9 73 "ClassMill$Text" "names" "I") mw_h4_7) (fun _ h9 => h9) rfl dX9_closeName_5 ?_
  obtain ⟨hi_1, hsp⟩ := ox_in hsp
  refine va_iald hx hb hK hP 1 0 rfl rfl (i := v9) hi_1 dX9_closeName_8 ?_
  refine lv_istore_n (lv' := [(2, .int (f5 (v9 : Int32).toNatClampNeg)), (0, .ref h0), (1, .int a1)]) hx hb dX9_closeName_9 rfl hl (by decide) rfl (fun ls hl => ?_)
  refine lv_aload_n hx hb dX9_closeName_10 rfl (lv_at hl 1 rfl) ?_
  refine va_get (D := (dC, dI)) (ci := 9) (v := .ref qf4) (C := RX9) (T := TX9) (N := 13) hx hb hts uV_h4_X9 hown hK hP 0 rfl rfl 4 (by decide) (hts (.fieldLink RX9 25 "ClassMill$Text" "letters" "[B") mw_h4_23) (fun _ h9 => h9) rfl dX9_closeName_11 ?_
  refine lv_iload_n hx hb dX9_closeName_14 rfl (lv_at hl 0 rfl) ?_
  refine lv_iload_n hx hb dX9_closeName_15 rfl (lv_at hl 2 rfl) ?_
  refine lv_iload_n hx hb dX9_closeName_16 rfl (lv_at hl 0 rfl) ?_
  refine lv_isub hx hb dX9_closeName_17 ?_
  obtain ⟨u1_0, hu_1, hsp⟩ := ox_bind hsp
  try dsimp only at hsp
  have hPc := hP.sub (ws' := [(qf4, .inl (cf4, 6400, .inl f4))]) [2] rfl
  have hDc := hD.sub (ws' := [(qf4, .inl (cf4, 6400, .inl f4))]) [2] (by decide) rfl
  have hKc := hK.sub (tys' := [(cf4, .byte)]) [1] rfl
  have hFc := va_free (wc := [(qf4, .inl (cf4, 6400, .inl f4))]) hD hS hA [2] rfl
  refine va_calli (va_runS (As := [.ref qf4, .int (f5 (v9 : Int32).toNatClampNeg), .int (a1 - (f5 (v9 : Int32).toNatClampNeg))]) (rest := []) ⟨hx, hb, hml, hown, hts⟩ (t9_bucketOf l dC dI H.size qf4 ((f5 (v9 : Int32).toNatClampNeg)) ((a1 - (f5 (v9 : Int32).toNatClampNeg))) cf4 6400 f4 nf u1_0 hu_1) (va_cwS 3 hts gv_h4_3 rfl rfl rfl (by decide +kernel) ⟨Nat.le_of_ble_eq_true rfl, Nat.le_of_ble_eq_true rfl⟩) ⟨fun a U g mk q => by obtain ⟨q0, q1, qP, qK, qD⟩ := q; exact ⟨q0, q1, qP, va_K.moved (u := U) (U := U.calling g mk a) (Vm.Alike.refl U.vm) qK, qD⟩, fun U hU hW => ⟨rfl, by rw [hU], by rw [hU]; exact hPc, va_K.moved hW.alike hKc, hDc.weaken (fun _ _ _ _ => trivial)⟩⟩ rfl rfl hl.1 rfl (lv_room (Nat.le_of_ble_eq_true rfl)) dX9_closeName_18 ⟨Nat.le_of_ble_eq_true rfl, Nat.le_of_ble_eq_true rfl⟩) hS (fun q _ h => hFc q h) hFc ?_
  clear hS
  intro r_2 u t H1 locs ht hvm hw hB hz1 hk1 hS
  obtain ⟨⟩ := u
  obtain ⟨hP1, hK1, hD1⟩ := hB
  rw [ht] at hP1
  have hK1 := va_K.moved hvm.symm hK1
  try dsimp only at hw
  have hPD := va_join (wr := [(h0, .inr (9, [.ref qf0, .ref qf1, .ref qf2, .int v3, .ref qf4, .ref qf5, .ref qf6, .ref qf7, .ref qf8, .int v9, .int v10, .int v11, .int v12])), (qf5, .inl (cf5, 1741, .inl f5)), (qf7, .inl (cf7, 64, .inl f7)), (qf6, .inl (cf6, 1740, .inl f6))]) (w1 := [(qf4, .inl (cf4, 6400, .inl f4))]) hP hD [2] [0, 1, 3, 4] rfl rfl (by decide) (by decide) hk1 hFc hP1 hD1
  clear hP hD
  obtain ⟨hP, hD⟩ := hPD
  replace hK := (hK.sub (tys' := [(cf5, .int), (cf7, .int), (cf6, .int)]) [0, 2, 3] rfl).app hK1
  clear hPc hDc hKc hFc hP1 hK1 hD1 hz1 hk1 ht hvm
  generalize H1 = H at hP hS ⊢
  replace hP : va_P (dC, dI) vwCl [(h0, .inr (9, [.ref qf0, .ref qf1, .ref qf2, .int v3, .ref qf4, .ref qf5, .ref qf6, .ref qf7, .ref qf8, .int v9, .int v10, .int v11, .int v12])), (qf5, .inl (cf5, 1741, .inl f5)), (qf7, .inl (cf7, 64, .inl f7)), (qf6, .inl (cf6, 1740, .inl f6)), (qf4, .inl (cf4, 6400, .inl f4))] H := hP
  replace hD : va_D A [(h0, .inr (9, [.ref qf0, .ref qf1, .ref qf2, .int v3, .ref qf4, .ref qf5, .ref qf6, .ref qf7, .ref qf8, .int v9, .int v10, .int v11, .int v12])), (qf5, .inl (cf5, 1741, .inl f5)), (qf7, .inl (cf7, 64, .inl f7)), (qf6, .inl (cf6, 1740, .inl f6)), (qf4, .inl (cf4, 6400, .inl f4))] := hD
  replace hK : va_K (dC, dI) vwCl [(cf5, .int), (cf7, .int), (cf6, .int), (cf4, .byte)] s := hK
  obtain rfl := hw
  refine lv_istore_n (lv' := [(3, .int u1_0), (2, .int (f5 (v9 : Int32).toNatClampNeg)), (0, .ref h0), (1, .int a1)]) hx hb dX9_closeName_21 rfl hl (by decide) rfl (fun ls hl => ?_)
  refine lv_aload_n hx hb dX9_closeName_22 rfl (lv_at hl 2 rfl) ?_
  refine va_get (D := (dC, dI)) (ci := 9) (v := .ref qf6) (C := RX9) (T := TX9) (N := 13) hx hb hts uV_h4_X9 hown hK hP 0 rfl rfl 6 (by decide) (hts (.fieldLink RX9 32 "ClassMill$Text" "sameBucket" "[I") mw_h4_32) (fun _ h9 => h9) rfl dX9_closeName_23 ?_
  refine lv_aload_n hx hb dX9_closeName_26 rfl (lv_at hl 2 rfl) ?_
  refine va_get (D := (dC, dI)) (ci := 9) (v := .int v9) (C := RX9) (T := TX9) (N := 13) hx hb hts uV_h4_X9 hown hK hP 0 rfl rfl 9 (by decide) (hts (.fieldLink RX9 73 "ClassMill$Text" "names" "I") mw_h4_7) (fun _ h9 => h9) rfl dX9_closeName_27 ?_
  refine lv_aload_n hx hb dX9_closeName_30 rfl (lv_at hl 2 rfl) ?_
  refine va_get (D := (dC, dI)) (ci := 9) (v := .ref qf7) (C := RX9) (T := TX9) (N := 13) hx hb hts uV_h4_X9 hown hK hP 0 rfl rfl 7 (by decide) (hts (.fieldLink RX9 35 "ClassMill$Text" "bucket" "[I") mw_h4_33) (fun _ h9 => h9) rfl dX9_closeName_31 ?_
  refine lv_iload_n hx hb dX9_closeName_34 rfl (lv_at hl 0 rfl) ?_
  obtain ⟨hi_3, hsp⟩ := ox_in hsp
  refine va_iald hx hb hK hP 2 1 rfl rfl (i := u1_0) hi_3 dX9_closeName_35 ?_
  obtain ⟨hi_4, hsp⟩ := ox_in hsp
  refine va_iast hx hb hK hP hD hS 3 2 rfl rfl (i := v9) (x := (f7 (u1_0 : Int32).toNatClampNeg)) hi_4 dX9_closeName_36 ?_
  clear hP hD hS
  intro H locs hP hD hS
  replace hP : va_P (dC, dI) vwCl [(h0, .inr (9, [.ref qf0, .ref qf1, .ref qf2, .int v3, .ref qf4, .ref qf5, .ref qf6, .ref qf7, .ref qf8, .int v9, .int v10, .int v11, .int v12])), (qf5, .inl (cf5, 1741, .inl f5)), (qf7, .inl (cf7, 64, .inl f7)), (qf6, .inl (cf6, 1740, .inl (upd f6 (v9 : Int32).toNatClampNeg (f7 (u1_0 : Int32).toNatClampNeg)))), (qf4, .inl (cf4, 6400, .inl f4))] H := hP
  replace hD : va_D A [(h0, .inr (9, [.ref qf0, .ref qf1, .ref qf2, .int v3, .ref qf4, .ref qf5, .ref qf6, .ref qf7, .ref qf8, .int v9, .int v10, .int v11, .int v12])), (qf5, .inl (cf5, 1741, .inl f5)), (qf7, .inl (cf7, 64, .inl f7)), (qf6, .inl (cf6, 1740, .inl (upd f6 (v9 : Int32).toNatClampNeg (f7 (u1_0 : Int32).toNatClampNeg)))), (qf4, .inl (cf4, 6400, .inl f4))] := hD
  refine lv_aload_n hx hb dX9_closeName_37 rfl (lv_at hl 2 rfl) ?_
  refine va_get (D := (dC, dI)) (ci := 9) (v := .ref qf7) (C := RX9) (T := TX9) (N := 13) hx hb hts uV_h4_X9 hown hK hP 0 rfl rfl 7 (by decide) (hts (.fieldLink RX9 35 "ClassMill$Text" "bucket" "[I") mw_h4_33) (fun _ h9 => h9) rfl dX9_closeName_38 ?_
  refine lv_iload_n hx hb dX9_closeName_41 rfl (lv_at hl 0 rfl) ?_
  refine lv_aload_n hx hb dX9_closeName_42 rfl (lv_at hl 2 rfl) ?_
  refine va_get (D := (dC, dI)) (ci := 9) (v := .int v9) (C := RX9) (T := TX9) (N := 13) hx hb hts uV_h4_X9 hown hK hP 0 rfl rfl 9 (by decide) (hts (.fieldLink RX9 73 "ClassMill$Text" "names" "I") mw_h4_7) (fun _ h9 => h9) rfl dX9_closeName_43 ?_
  obtain ⟨hi_5, hsp⟩ := ox_in hsp
  refine va_iast hx hb hK hP hD hS 2 1 rfl rfl (i := u1_0) (x := v9) hi_5 dX9_closeName_46 ?_
  clear hP hD hS
  intro H locs hP hD hS
  replace hP : va_P (dC, dI) vwCl [(h0, .inr (9, [.ref qf0, .ref qf1, .ref qf2, .int v3, .ref qf4, .ref qf5, .ref qf6, .ref qf7, .ref qf8, .int v9, .int v10, .int v11, .int v12])), (qf5, .inl (cf5, 1741, .inl f5)), (qf7, .inl (cf7, 64, .inl (upd f7 (u1_0 : Int32).toNatClampNeg v9))), (qf6, .inl (cf6, 1740, .inl (upd f6 (v9 : Int32).toNatClampNeg (f7 (u1_0 : Int32).toNatClampNeg)))), (qf4, .inl (cf4, 6400, .inl f4))] H := hP
  replace hD : va_D A [(h0, .inr (9, [.ref qf0, .ref qf1, .ref qf2, .int v3, .ref qf4, .ref qf5, .ref qf6, .ref qf7, .ref qf8, .int v9, .int v10, .int v11, .int v12])), (qf5, .inl (cf5, 1741, .inl f5)), (qf7, .inl (cf7, 64, .inl (upd f7 (u1_0 : Int32).toNatClampNeg v9))), (qf6, .inl (cf6, 1740, .inl (upd f6 (v9 : Int32).toNatClampNeg (f7 (u1_0 : Int32).toNatClampNeg)))), (qf4, .inl (cf4, 6400, .inl f4))] := hD
  refine lv_aload_n hx hb dX9_closeName_47 rfl (lv_at hl 2 rfl) ?_
  refine lv_dup hx hb dX9_closeName_48 rfl ?_
  refine va_get (D := (dC, dI)) (ci := 9) (v := .int v9) (C := RX9) (T := TX9) (N := 13) hx hb hts uV_h4_X9 hown hK hP 0 rfl rfl 9 (by decide) (hts (.fieldLink RX9 73 "ClassMill$Text" "names" "I") mw_h4_7) (fun _ h9 => h9) rfl dX9_closeName_49 ?_
  refine lv_iconst (v := 1) hx hb dX9_closeName_52 (by decide) ?_
  refine lv_iadd hx hb dX9_closeName_53 ?_
  refine va_put (D := (dC, dI)) (ci := 9) (v := .int (v9 + 1)) (ty := .int) (C := RX9) (T := TX9) (N := 13) hx hb hts uV_h4_X9 tyX9 tyX9_ok nmX9 hown hK hP hD hS 0 rfl rfl 9 (by decide) (hts (.fieldLink RX9 73 "ClassMill$Text" "names" "I") mw_h4_7) (fun _ h9 => h9) rfl (by decide +kernel) rfl rfl (Nat.le_of_ble_eq_true rfl) dX9_closeName_54 ?_
  clear hP hD hS
  intro H locs hP hD hS
  replace hP : va_P (dC, dI) vwCl [(h0, .inr (9, [.ref qf0, .ref qf1, .ref qf2, .int v3, .ref qf4, .ref qf5, .ref qf6, .ref qf7, .ref qf8, .int (v9 + 1), .int v10, .int v11, .int v12])), (qf5, .inl (cf5, 1741, .inl f5)), (qf7, .inl (cf7, 64, .inl (upd f7 (u1_0 : Int32).toNatClampNeg v9))), (qf6, .inl (cf6, 1740, .inl (upd f6 (v9 : Int32).toNatClampNeg (f7 (u1_0 : Int32).toNatClampNeg)))), (qf4, .inl (cf4, 6400, .inl f4))] H := hP
  replace hD : va_D A [(h0, .inr (9, [.ref qf0, .ref qf1, .ref qf2, .int v3, .ref qf4, .ref qf5, .ref qf6, .ref qf7, .ref qf8, .int (v9 + 1), .int v10, .int v11, .int v12])), (qf5, .inl (cf5, 1741, .inl f5)), (qf7, .inl (cf7, 64, .inl (upd f7 (u1_0 : Int32).toNatClampNeg v9))), (qf6, .inl (cf6, 1740, .inl (upd f6 (v9 : Int32).toNatClampNeg (f7 (u1_0 : Int32).toNatClampNeg)))), (qf4, .inl (cf4, 6400, .inl f4))] := hD
  refine lv_aload_n hx hb dX9_closeName_57 rfl (lv_at hl 2 rfl) ?_
  refine va_get (D := (dC, dI)) (ci := 9) (v := .ref qf5) (C := RX9) (T := TX9) (N := 13) hx hb hts uV_h4_X9 hown hK hP 0 rfl rfl 5 (by decide) (hts (.fieldLink RX9 29 "ClassMill$Text" "nameAt" "[I") mw_h4_8) (fun _ h9 => h9) rfl dX9_closeName_58 ?_
  refine lv_aload_n hx hb dX9_closeName_61 rfl (lv_at hl 2 rfl) ?_
  refine va_get (D := (dC, dI)) (ci := 9) (v := .int (v9 + 1)) (C := RX9) (T := TX9) (N := 13) hx hb hts uV_h4_X9 hown hK hP 0 rfl rfl 9 (by decide) (hts (.fieldLink RX9 73 "ClassMill$Text" "names" "I") mw_h4_7) (fun _ h9 => h9) rfl dX9_closeName_62 ?_
  refine lv_iload_n hx hb dX9_closeName_65 rfl (lv_at hl 3 rfl) ?_
  obtain ⟨hi_6, hsp⟩ := ox_in hsp
  refine va_iast hx hb hK hP hD hS 1 0 rfl rfl (i := (v9 + 1)) (x := a1) hi_6 dX9_closeName_66 ?_
  clear hP hD hS
  intro H locs hP hD hS
  replace hP : va_P (dC, dI) vwCl [(h0, .inr (9, [.ref qf0, .ref qf1, .ref qf2, .int v3, .ref qf4, .ref qf5, .ref qf6, .ref qf7, .ref qf8, .int (v9 + 1), .int v10, .int v11, .int v12])), (qf5, .inl (cf5, 1741, .inl (upd f5 ((v9 + 1) : Int32).toNatClampNeg a1))), (qf7, .inl (cf7, 64, .inl (upd f7 (u1_0 : Int32).toNatClampNeg v9))), (qf6, .inl (cf6, 1740, .inl (upd f6 (v9 : Int32).toNatClampNeg (f7 (u1_0 : Int32).toNatClampNeg)))), (qf4, .inl (cf4, 6400, .inl f4))] H := hP
  replace hD : va_D A [(h0, .inr (9, [.ref qf0, .ref qf1, .ref qf2, .int v3, .ref qf4, .ref qf5, .ref qf6, .ref qf7, .ref qf8, .int (v9 + 1), .int v10, .int v11, .int v12])), (qf5, .inl (cf5, 1741, .inl (upd f5 ((v9 + 1) : Int32).toNatClampNeg a1))), (qf7, .inl (cf7, 64, .inl (upd f7 (u1_0 : Int32).toNatClampNeg v9))), (qf6, .inl (cf6, 1740, .inl (upd f6 (v9 : Int32).toNatClampNeg (f7 (u1_0 : Int32).toNatClampNeg)))), (qf4, .inl (cf4, 6400, .inl f4))] := hD
  have hr0 := Option.some.inj hsp
  clear hsp
  obtain ⟨hq0, hr1⟩ := Prod.mk.inj hr0
  clear hr0
  obtain ⟨hq1, hr2⟩ := Prod.mk.inj hr1
  clear hr1
  obtain ⟨hq2, hr3⟩ := Prod.mk.inj hr2
  clear hr2
  subst hq0
  subst hq1
  subst hq2
  subst hr3
  have hP9 := hP.sub (ws' := [(h0, .inr (9, [.ref qf0, .ref qf1, .ref qf2, .int v3, .ref qf4, .ref qf5, .ref qf6, .ref qf7, .ref qf8, .int (v9 + 1), .int v10, .int v11, .int v12])), (qf5, .inl (cf5, 1741, .inl (upd f5 ((v9 + 1) : Int32).toNatClampNeg a1))), (qf4, .inl (cf4, 6400, .inl f4)), (qf7, .inl (cf7, 64, .inl (upd f7 (u1_0 : Int32).toNatClampNeg v9))), (qf6, .inl (cf6, 1740, .inl (upd f6 (v9 : Int32).toNatClampNeg (f7 (u1_0 : Int32).toNatClampNeg))))]) [0, 1, 4, 2, 3] rfl
  have hD9 := hD.sub (ws' := [(h0, .inr (9, [.ref qf0, .ref qf1, .ref qf2, .int v3, .ref qf4, .ref qf5, .ref qf6, .ref qf7, .ref qf8, .int (v9 + 1), .int v10, .int v11, .int v12])), (qf5, .inl (cf5, 1741, .inl (upd f5 ((v9 + 1) : Int32).toNatClampNeg a1))), (qf4, .inl (cf4, 6400, .inl f4)), (qf7, .inl (cf7, 64, .inl (upd f7 (u1_0 : Int32).toNatClampNeg v9))), (qf6, .inl (cf6, 1740, .inl (upd f6 (v9 : Int32).toNatClampNeg (f7 (u1_0 : Int32).toNatClampNeg))))]) [0, 1, 4, 2, 3] (by decide) rfl
  have hK9 := hK.sub (tys' := [(cf5, .int), (cf4, .byte), (cf7, .int), (cf6, .int)]) [0, 3, 1, 2] rfl
  exact W.vret hx hb hr (fun t ht hW => ⟨⟨(), rfl, trivial, by rw [ht]; exact hP9, va_K.moved hW.alike hK9, hD9⟩, hS.F ht⟩) hS.2.2 dX9_closeName_67
def sp_t9_signOf (nf : Nat) (a1 : Int32) (a2 : Int32) : Option (Int32) := (if a1 = 33 then (if a2 = 61 then (some 53) else (some 71)) else (if a1 = 38 then (if a2 = 38 then (some 67) else (some 66)) else (if a1 = 60 then (if a2 = 61 then (some 55) else (if a2 = 60 then (some 58) else (some 54))) else (if a1 = 61 then (if a2 = 61 then (some 52) else (some 51)) else (if a1 = 62 then (if a2 = 61 then (some 57) else (if a2 = 62 then (some 59) else (some 56))) else (if a1 = 124 then (if a2 = 124 then (some 69) else (some 68)) else ((sp_t9_plainSignOf nf a1).bind (fun p1 => (some p1)))))))))
set_option maxHeartbeats 4000000 in
set_option maxRecDepth 100000 in
/-- ClassMill$Text.signOf -/
theorem t9_signOf (l : Launch) (dC : Nat → ClassId) (dI : Nat → Nat → Nat) (sz : Nat) (a1 : Int32) (a2 : Int32) (nf : Nat) (r0 : Int32) (hsp : sp_t9_signOf nf a1 a2 = some r0) : Met l yX9_signOf (.code yX9_signOf cX9_signOf 2 (some .int) :: VS_h4) ({ frames := 1, cells := 0, slots := 0, locals := 20 }) (va_Pc [.int a1, .int a2] (fun U => U.heap.size = sz ∧ va_P (dC, dI) vwCl [] U.heap ∧ va_K (dC, dI) vwCl [] U ∧ va_D (fun _ => True) [])) (va_Qi (fun (r : Int32) (u : Unit) => match u with | () => r0 = r) (fun (u : Unit) (t : State) => match u with | () => va_P (dC, dI) vwCl [] t.heap ∧ va_K (dC, dI) vwCl [] t ∧ va_D (va_A [] sz) []) (va_A [] sz)) 0 0 (va_A [] sz) := by
  refine Met.ofW (cc := cX9_signOf) (maxL := 2) (ret := (some .int)) (by decide) rfl ?_
  intro p e s m args below meth c s₁ B hml hv
  obtain ⟨rfl, hsz, hP, hK, hD0⟩ := hv
  have hx := B.exec
  have hb := B.bytes
  have hr := B.returns
  have hts := atoms_spec (ws := (.code yX9_signOf cX9_signOf 2 (some .int) :: VS_h4)) B.pre
  replace hts := fun w (h : w ∈ VS_h4) => hts w (List.mem_cons_of_mem _ h)
  have hown : s.vm.findClass RX9 = some m.cls := findClass_of_methodNamed B.named
  have hlocks := B.notSynchronized
  subst hsz
  have hD := hD0.self (sz := s.heap.size)
  generalize hAe : va_A [] s.heap.size = A at hD  ⊢
  have hA : ∀ q : Nat, s.heap.size ≤ q → A q := fun q h => by rw [← hAe]; exact Or.inr h
  have hP : va_P (dC, dI) vwCl [] s.heap := hP
  have hl := lv_entry ([.int a1, .int a2]) (n := 2) (Nat.le_of_ble_eq_true rfl)
  rw [lg_entry_eq]
  generalize (lg_sl ([.int a1, .int a2]) ++ List.replicate (2 - (lg_sl ([.int a1, .int a2])).length) Slot.unset).toArray = ls at hl ⊢
  have hl : lv_has ls 2 [(0, .int a1), (1, .int a2)] := hl
  obtain ⟨H, hH⟩ : ∃ H : Heap, s.heap = H := ⟨_, rfl⟩
  rw [hH] at hP ⊢
  have hS : va_S A s.heap H [] := by rw [← hH]; exact va_S.rf
  obtain ⟨locs, hlo⟩ : ∃ locs : List Loc, locs = [] := ⟨_, rfl⟩
  rw [← hlo] at hS ⊢
  unfold sp_t9_signOf at hsp
  refine lv_iload_n hx hb dX9_signOf_0 rfl (lv_at hl 0 rfl) ?_
  by_cases hs_1 : a1 = 33
  · rw [if_pos hs_1] at hsp
    refine lv_lookup (tgt := 74) hx hb dX9_signOf_1 (by decide) (off := 73) (by rw [hs_1]; rfl) (by decide) ?_
    refine lv_iload_n hx hb dX9_signOf_74 rfl (lv_at hl 1 rfl) ?_
    refine lv_bipush (v := 61) hx hb dX9_signOf_75 (by decide) ?_
    refine lv_icmp_ne (tgt := 85) hx hb dX9_signOf_77 (by decide) (fun c_2 => ?_) (fun c_2 => ?_)
    · rw [if_neg c_2] at hsp
      refine lv_bipush (v := 71) hx hb dX9_signOf_85 (by decide) ?_
      have hr0 := Option.some.inj hsp
      clear hsp
      subst hr0
      have hP9 := hP.sub (ws' := []) [] rfl
      have hD9 := hD.sub (ws' := []) [] (by decide) rfl
      have hK9 := hK.sub (tys' := []) [] rfl
      exact W.iret hx hb hr (fun t ht hW => ⟨⟨(71), (), rfl, rfl, by rw [ht]; exact hP9, va_K.moved hW.alike hK9, hD9⟩, hS.F ht⟩) hS.2.2 dX9_signOf_87
    · rw [if_pos c_2] at hsp
      refine lv_bipush (v := 53) hx hb dX9_signOf_80 (by decide) ?_
      refine lv_goto (tgt := 87) hx hb dX9_signOf_82 (by decide) ?_
      have hr0 := Option.some.inj hsp
      clear hsp
      subst hr0
      have hP9 := hP.sub (ws' := []) [] rfl
      have hD9 := hD.sub (ws' := []) [] (by decide) rfl
      have hK9 := hK.sub (tys' := []) [] rfl
      exact W.iret hx hb hr (fun t ht hW => ⟨⟨(53), (), rfl, rfl, by rw [ht]; exact hP9, va_K.moved hW.alike hK9, hD9⟩, hS.F ht⟩) hS.2.2 dX9_signOf_87
  rw [if_neg hs_1] at hsp
  by_cases hs_3 : a1 = 38
  · rw [if_pos hs_3] at hsp
    refine lv_lookup (tgt := 138) hx hb dX9_signOf_1 (by decide) (off := 137) (by rw [hs_3]; rfl) (by decide) ?_
    refine lv_iload_n hx hb dX9_signOf_138 rfl (lv_at hl 1 rfl) ?_
    refine lv_bipush (v := 38) hx hb dX9_signOf_139 (by decide) ?_
    refine lv_icmp_ne (tgt := 149) hx hb dX9_signOf_141 (by decide) (fun c_4 => ?_) (fun c_4 => ?_)
    · rw [if_neg c_4] at hsp
      refine lv_bipush (v := 66) hx hb dX9_signOf_149 (by decide) ?_
      have hr0 := Option.some.inj hsp
      clear hsp
      subst hr0
      have hP9 := hP.sub (ws' := []) [] rfl
      have hD9 := hD.sub (ws' := []) [] (by decide) rfl
      have hK9 := hK.sub (tys' := []) [] rfl
      exact W.iret hx hb hr (fun t ht hW => ⟨⟨(66), (), rfl, rfl, by rw [ht]; exact hP9, va_K.moved hW.alike hK9, hD9⟩, hS.F ht⟩) hS.2.2 dX9_signOf_151
    · rw [if_pos c_4] at hsp
      refine lv_bipush (v := 67) hx hb dX9_signOf_144 (by decide) ?_
      refine lv_goto (tgt := 151) hx hb dX9_signOf_146 (by decide) ?_
      have hr0 := Option.some.inj hsp
      clear hsp
      subst hr0
      have hP9 := hP.sub (ws' := []) [] rfl
      have hD9 := hD.sub (ws' := []) [] (by decide) rfl
      have hK9 := hK.sub (tys' := []) [] rfl
      exact W.iret hx hb hr (fun t ht hW => ⟨⟨(67), (), rfl, rfl, by rw [ht]; exact hP9, va_K.moved hW.alike hK9, hD9⟩, hS.F ht⟩) hS.2.2 dX9_signOf_151
  rw [if_neg hs_3] at hsp
  by_cases hs_5 : a1 = 60
  · rw [if_pos hs_5] at hsp
    refine lv_lookup (tgt := 88) hx hb dX9_signOf_1 (by decide) (off := 87) (by rw [hs_5]; rfl) (by decide) ?_
    refine lv_iload_n hx hb dX9_signOf_88 rfl (lv_at hl 1 rfl) ?_
    refine lv_bipush (v := 61) hx hb dX9_signOf_89 (by decide) ?_
    refine lv_icmp_ne (tgt := 99) hx hb dX9_signOf_91 (by decide) (fun c_6 => ?_) (fun c_6 => ?_)
    · rw [if_neg c_6] at hsp
      refine lv_iload_n hx hb dX9_signOf_99 rfl (lv_at hl 1 rfl) ?_
      refine lv_bipush (v := 60) hx hb dX9_signOf_100 (by decide) ?_
      refine lv_icmp_ne (tgt := 110) hx hb dX9_signOf_102 (by decide) (fun c_7 => ?_) (fun c_7 => ?_)
      · rw [if_neg c_7] at hsp
        refine lv_bipush (v := 54) hx hb dX9_signOf_110 (by decide) ?_
        have hr0 := Option.some.inj hsp
        clear hsp
        subst hr0
        have hP9 := hP.sub (ws' := []) [] rfl
        have hD9 := hD.sub (ws' := []) [] (by decide) rfl
        have hK9 := hK.sub (tys' := []) [] rfl
        exact W.iret hx hb hr (fun t ht hW => ⟨⟨(54), (), rfl, rfl, by rw [ht]; exact hP9, va_K.moved hW.alike hK9, hD9⟩, hS.F ht⟩) hS.2.2 dX9_signOf_112
      · rw [if_pos c_7] at hsp
        refine lv_bipush (v := 58) hx hb dX9_signOf_105 (by decide) ?_
        refine lv_goto (tgt := 112) hx hb dX9_signOf_107 (by decide) ?_
        have hr0 := Option.some.inj hsp
        clear hsp
        subst hr0
        have hP9 := hP.sub (ws' := []) [] rfl
        have hD9 := hD.sub (ws' := []) [] (by decide) rfl
        have hK9 := hK.sub (tys' := []) [] rfl
        exact W.iret hx hb hr (fun t ht hW => ⟨⟨(58), (), rfl, rfl, by rw [ht]; exact hP9, va_K.moved hW.alike hK9, hD9⟩, hS.F ht⟩) hS.2.2 dX9_signOf_112
    · rw [if_pos c_6] at hsp
      refine lv_bipush (v := 55) hx hb dX9_signOf_94 (by decide) ?_
      refine lv_goto (tgt := 112) hx hb dX9_signOf_96 (by decide) ?_
      have hr0 := Option.some.inj hsp
      clear hsp
      subst hr0
      have hP9 := hP.sub (ws' := []) [] rfl
      have hD9 := hD.sub (ws' := []) [] (by decide) rfl
      have hK9 := hK.sub (tys' := []) [] rfl
      exact W.iret hx hb hr (fun t ht hW => ⟨⟨(55), (), rfl, rfl, by rw [ht]; exact hP9, va_K.moved hW.alike hK9, hD9⟩, hS.F ht⟩) hS.2.2 dX9_signOf_112
  rw [if_neg hs_5] at hsp
  by_cases hs_8 : a1 = 61
  · rw [if_pos hs_8] at hsp
    refine lv_lookup (tgt := 60) hx hb dX9_signOf_1 (by decide) (off := 59) (by rw [hs_8]; rfl) (by decide) ?_
    refine lv_iload_n hx hb dX9_signOf_60 rfl (lv_at hl 1 rfl) ?_
    refine lv_bipush (v := 61) hx hb dX9_signOf_61 (by decide) ?_
    refine lv_icmp_ne (tgt := 71) hx hb dX9_signOf_63 (by decide) (fun c_9 => ?_) (fun c_9 => ?_)
    · rw [if_neg c_9] at hsp
      refine lv_bipush (v := 51) hx hb dX9_signOf_71 (by decide) ?_
      have hr0 := Option.some.inj hsp
      clear hsp
      subst hr0
      have hP9 := hP.sub (ws' := []) [] rfl
      have hD9 := hD.sub (ws' := []) [] (by decide) rfl
      have hK9 := hK.sub (tys' := []) [] rfl
      exact W.iret hx hb hr (fun t ht hW => ⟨⟨(51), (), rfl, rfl, by rw [ht]; exact hP9, va_K.moved hW.alike hK9, hD9⟩, hS.F ht⟩) hS.2.2 dX9_signOf_73
    · rw [if_pos c_9] at hsp
      refine lv_bipush (v := 52) hx hb dX9_signOf_66 (by decide) ?_
      refine lv_goto (tgt := 73) hx hb dX9_signOf_68 (by decide) ?_
      have hr0 := Option.some.inj hsp
      clear hsp
      subst hr0
      have hP9 := hP.sub (ws' := []) [] rfl
      have hD9 := hD.sub (ws' := []) [] (by decide) rfl
      have hK9 := hK.sub (tys' := []) [] rfl
      exact W.iret hx hb hr (fun t ht hW => ⟨⟨(52), (), rfl, rfl, by rw [ht]; exact hP9, va_K.moved hW.alike hK9, hD9⟩, hS.F ht⟩) hS.2.2 dX9_signOf_73
  rw [if_neg hs_8] at hsp
  by_cases hs_10 : a1 = 62
  · rw [if_pos hs_10] at hsp
    refine lv_lookup (tgt := 113) hx hb dX9_signOf_1 (by decide) (off := 112) (by rw [hs_10]; rfl) (by decide) ?_
    refine lv_iload_n hx hb dX9_signOf_113 rfl (lv_at hl 1 rfl) ?_
    refine lv_bipush (v := 61) hx hb dX9_signOf_114 (by decide) ?_
    refine lv_icmp_ne (tgt := 124) hx hb dX9_signOf_116 (by decide) (fun c_11 => ?_) (fun c_11 => ?_)
    · rw [if_neg c_11] at hsp
      refine lv_iload_n hx hb dX9_signOf_124 rfl (lv_at hl 1 rfl) ?_
      refine lv_bipush (v := 62) hx hb dX9_signOf_125 (by decide) ?_
      refine lv_icmp_ne (tgt := 135) hx hb dX9_signOf_127 (by decide) (fun c_12 => ?_) (fun c_12 => ?_)
      · rw [if_neg c_12] at hsp
        refine lv_bipush (v := 56) hx hb dX9_signOf_135 (by decide) ?_
        have hr0 := Option.some.inj hsp
        clear hsp
        subst hr0
        have hP9 := hP.sub (ws' := []) [] rfl
        have hD9 := hD.sub (ws' := []) [] (by decide) rfl
        have hK9 := hK.sub (tys' := []) [] rfl
        exact W.iret hx hb hr (fun t ht hW => ⟨⟨(56), (), rfl, rfl, by rw [ht]; exact hP9, va_K.moved hW.alike hK9, hD9⟩, hS.F ht⟩) hS.2.2 dX9_signOf_137
      · rw [if_pos c_12] at hsp
        refine lv_bipush (v := 59) hx hb dX9_signOf_130 (by decide) ?_
        refine lv_goto (tgt := 137) hx hb dX9_signOf_132 (by decide) ?_
        have hr0 := Option.some.inj hsp
        clear hsp
        subst hr0
        have hP9 := hP.sub (ws' := []) [] rfl
        have hD9 := hD.sub (ws' := []) [] (by decide) rfl
        have hK9 := hK.sub (tys' := []) [] rfl
        exact W.iret hx hb hr (fun t ht hW => ⟨⟨(59), (), rfl, rfl, by rw [ht]; exact hP9, va_K.moved hW.alike hK9, hD9⟩, hS.F ht⟩) hS.2.2 dX9_signOf_137
    · rw [if_pos c_11] at hsp
      refine lv_bipush (v := 57) hx hb dX9_signOf_119 (by decide) ?_
      refine lv_goto (tgt := 137) hx hb dX9_signOf_121 (by decide) ?_
      have hr0 := Option.some.inj hsp
      clear hsp
      subst hr0
      have hP9 := hP.sub (ws' := []) [] rfl
      have hD9 := hD.sub (ws' := []) [] (by decide) rfl
      have hK9 := hK.sub (tys' := []) [] rfl
      exact W.iret hx hb hr (fun t ht hW => ⟨⟨(57), (), rfl, rfl, by rw [ht]; exact hP9, va_K.moved hW.alike hK9, hD9⟩, hS.F ht⟩) hS.2.2 dX9_signOf_137
  rw [if_neg hs_10] at hsp
  by_cases hs_13 : a1 = 124
  · rw [if_pos hs_13] at hsp
    refine lv_lookup (tgt := 152) hx hb dX9_signOf_1 (by decide) (off := 151) (by rw [hs_13]; rfl) (by decide) ?_
    refine lv_iload_n hx hb dX9_signOf_152 rfl (lv_at hl 1 rfl) ?_
    refine lv_bipush (v := 124) hx hb dX9_signOf_153 (by decide) ?_
    refine lv_icmp_ne (tgt := 163) hx hb dX9_signOf_155 (by decide) (fun c_14 => ?_) (fun c_14 => ?_)
    · rw [if_neg c_14] at hsp
      refine lv_bipush (v := 68) hx hb dX9_signOf_163 (by decide) ?_
      have hr0 := Option.some.inj hsp
      clear hsp
      subst hr0
      have hP9 := hP.sub (ws' := []) [] rfl
      have hD9 := hD.sub (ws' := []) [] (by decide) rfl
      have hK9 := hK.sub (tys' := []) [] rfl
      exact W.iret hx hb hr (fun t ht hW => ⟨⟨(68), (), rfl, rfl, by rw [ht]; exact hP9, va_K.moved hW.alike hK9, hD9⟩, hS.F ht⟩) hS.2.2 dX9_signOf_165
    · rw [if_pos c_14] at hsp
      refine lv_bipush (v := 69) hx hb dX9_signOf_158 (by decide) ?_
      refine lv_goto (tgt := 165) hx hb dX9_signOf_160 (by decide) ?_
      have hr0 := Option.some.inj hsp
      clear hsp
      subst hr0
      have hP9 := hP.sub (ws' := []) [] rfl
      have hD9 := hD.sub (ws' := []) [] (by decide) rfl
      have hK9 := hK.sub (tys' := []) [] rfl
      exact W.iret hx hb hr (fun t ht hW => ⟨⟨(69), (), rfl, rfl, by rw [ht]; exact hP9, va_K.moved hW.alike hK9, hD9⟩, hS.F ht⟩) hS.2.2 dX9_signOf_165
  rw [if_neg hs_13] at hsp
  refine lv_lookup (tgt := 166) hx hb dX9_signOf_1 (by decide) (off := 165) (by show Op.lookupswitch.offset [(33, 73), (38, 137), (60, 87), (61, 59), (62, 112), (124, 151)] 165 (a1 : Int32).toInt = 165; rw [lv_osw hs_1 (a := 33) rfl, lv_osw hs_3 (a := 38) rfl, lv_osw hs_5 (a := 60) rfl, lv_osw hs_8 (a := 61) rfl, lv_osw hs_10 (a := 62) rfl, lv_osw hs_13 (a := 124) rfl]; rfl) (by decide) ?_
  refine lv_iload_n hx hb dX9_signOf_166 rfl (lv_at hl 0 rfl) ?_
  obtain ⟨u1_0, hu_1, hsp⟩ := ox_bind hsp
  try dsimp only at hsp
  have hPc := hP.sub (ws' := []) [] rfl
  have hDc := hD.sub (ws' := []) [] (by decide) rfl
  have hKc := hK.sub (tys' := []) [] rfl
  have hFc := va_free (wc := []) hD hS hA [] rfl
  refine va_calli (va_runS (As := [.int a1]) (rest := []) ⟨hx, hb, hml, hown, hts⟩ (t9_plainSignOf l dC dI H.size a1 nf u1_0 hu_1) (va_cwS 1 hts gv_h4_6 rfl rfl rfl (by decide +kernel) ⟨Nat.le_of_ble_eq_true rfl, Nat.le_of_ble_eq_true rfl⟩) ⟨fun a U g mk q => by obtain ⟨q0, q1, qP, qK, qD⟩ := q; exact ⟨q0, q1, qP, va_K.moved (u := U) (U := U.calling g mk a) (Vm.Alike.refl U.vm) qK, qD⟩, fun U hU hW => ⟨rfl, by rw [hU], by rw [hU]; exact hPc, va_K.moved hW.alike hKc, hDc.weaken (fun _ _ _ _ => trivial)⟩⟩ rfl rfl hl.1 rfl (lv_room (Nat.le_of_ble_eq_true rfl)) dX9_signOf_167 ⟨Nat.le_of_ble_eq_true rfl, Nat.le_of_ble_eq_true rfl⟩) hS (fun q _ h => hFc q h) hFc ?_
  clear hS
  intro r_15 u t H1 locs ht hvm hw hB hz1 hk1 hS
  obtain ⟨⟩ := u
  obtain ⟨hP1, hK1, hD1⟩ := hB
  rw [ht] at hP1
  have hK1 := va_K.moved hvm.symm hK1
  try dsimp only at hw
  have hPD := va_join (wr := []) (w1 := []) hP hD [] [] rfl rfl (by decide) (by decide) hk1 hFc hP1 hD1
  clear hP hD
  obtain ⟨hP, hD⟩ := hPD
  replace hK := (hK.sub (tys' := []) [] rfl).app hK1
  clear hPc hDc hKc hFc hP1 hK1 hD1 hz1 hk1 ht hvm
  generalize H1 = H at hP hS ⊢
  replace hP : va_P (dC, dI) vwCl [] H := hP
  replace hD : va_D A [] := hD
  replace hK : va_K (dC, dI) vwCl [] s := hK
  obtain rfl := hw
  have hr0 := Option.some.inj hsp
  clear hsp
  subst hr0
  have hP9 := hP.sub (ws' := []) [] rfl
  have hD9 := hD.sub (ws' := []) [] (by decide) rfl
  have hK9 := hK.sub (tys' := []) [] rfl
  exact W.iret hx hb hr (fun t ht hW => ⟨⟨(u1_0), (), rfl, rfl, by rw [ht]; exact hP9, va_K.moved hW.alike hK9, hD9⟩, hS.F ht⟩) hS.2.2 dX9_signOf_170
def sp_t6_put (nf : Nat) (a1 : Int32) (v7 : Int32) (f6 : Nat → Int32) : Option ((Nat → Int32) × Int32) := (if 6000 ≤ v7 then (some (f6, (v7 + 1))) else (if v7 < 0 then none else if 6000 ≤ (v7 : Int32).toNatClampNeg then none else (some ((upd f6 (v7 : Int32).toNatClampNeg (vp_nar .byte ((a1 : Int32).toInt8.toInt32))), (v7 + 1)))))
set_option maxHeartbeats 4000000 in
set_option maxRecDepth 100000 in
/-- ClassMill$Pool.put -/
theorem t6_put (l : Launch) (dC : Nat → ClassId) (dI : Nat → Nat → Nat) (sz : Nat) (h0 : Nat) (a1 : Int32) (qf0 : Nat) (qf1 : Nat) (qf2 : Nat) (qf3 : Nat) (v4 : Int32) (v5 : Int32) (qf6 : Nat) (v7 : Int32) (cf6 : ClassId) (f6 : (Nat → Int32)) (nf : Nat) (o6 : (Nat → Int32)) (w7 : Int32) (hsp : sp_t6_put nf a1 v7 f6 = some (o6, w7)) : Met l yX6_put (.code yX6_put cX6_put 2 none :: VS_h4) ({ frames := 0, cells := 0, slots := 0, locals := 0 }) (va_Pc [.ref h0, .int a1] (fun U => U.heap.size = sz ∧ va_P (dC, dI) vwCl [(h0, .inr (6, [.ref qf0, .ref qf1, .ref qf2, .ref qf3, .int v4, .int v5, .ref qf6, .int v7])), (qf6, .inl (cf6, 6000, .inl f6))] U.heap ∧ va_K (dC, dI) vwCl [(cf6, .byte)] U ∧ va_D (fun _ => True) [(h0, .inr (6, [.ref qf0, .ref qf1, .ref qf2, .ref qf3, .int v4, .int v5, .ref qf6, .int v7])), (qf6, .inl (cf6, 6000, .inl f6))])) (va_Qv (fun (u : Unit) => match u with | () => True) (fun (u : Unit) (t : State) => match u with | () => va_P (dC, dI) vwCl [(h0, .inr (6, [.ref qf0, .ref qf1, .ref qf2, .ref qf3, .int v4, .int v5, .ref qf6, .int w7])), (qf6, .inl (cf6, 6000, .inl o6))] t.heap ∧ va_K (dC, dI) vwCl [(cf6, .byte)] t ∧ va_D (va_A [(h0, .inr (6, [.ref qf0, .ref qf1, .ref qf2, .ref qf3, .int v4, .int v5, .ref qf6, .int v7])), (qf6, .inl (cf6, 6000, .inl f6))] sz) [(h0, .inr (6, [.ref qf0, .ref qf1, .ref qf2, .ref qf3, .int v4, .int v5, .ref qf6, .int w7])), (qf6, .inl (cf6, 6000, .inl o6))]) (va_A [(h0, .inr (6, [.ref qf0, .ref qf1, .ref qf2, .ref qf3, .int v4, .int v5, .ref qf6, .int v7])), (qf6, .inl (cf6, 6000, .inl f6))] sz)) 0 0 (va_A [(h0, .inr (6, [.ref qf0, .ref qf1, .ref qf2, .ref qf3, .int v4, .int v5, .ref qf6, .int v7])), (qf6, .inl (cf6, 6000, .inl f6))] sz) := by
  refine Met.ofW (cc := cX6_put) (maxL := 2) (ret := none) (by decide) rfl ?_
  intro p e s m args below meth c s₁ B hml hv
  obtain ⟨rfl, hsz, hP, hK, hD0⟩ := hv
  have hx := B.exec
  have hb := B.bytes
  have hr := B.returns
  have hts := atoms_spec (ws := (.code yX6_put cX6_put 2 none :: VS_h4)) B.pre
  replace hts := fun w (h : w ∈ VS_h4) => hts w (List.mem_cons_of_mem _ h)
  have hown : s.vm.findClass RX6 = some m.cls := findClass_of_methodNamed B.named
  have hlocks := B.notSynchronized
  subst hsz
  have hD := hD0.self (sz := s.heap.size)
  generalize hAe : va_A [(h0, .inr (6, [.ref qf0, .ref qf1, .ref qf2, .ref qf3, .int v4, .int v5, .ref qf6, .int v7])), (qf6, .inl (cf6, 6000, .inl f6))] s.heap.size = A at hD  ⊢
  have hA : ∀ q : Nat, s.heap.size ≤ q → A q := fun q h => by rw [← hAe]; exact Or.inr h
  have hP : va_P (dC, dI) vwCl [(h0, .inr (6, [.ref qf0, .ref qf1, .ref qf2, .ref qf3, .int v4, .int v5, .ref qf6, .int v7])), (qf6, .inl (cf6, 6000, .inl f6))] s.heap := hP
  have hl := lv_entry ([.ref h0, .int a1]) (n := 2) (Nat.le_of_ble_eq_true rfl)
  rw [lg_entry_eq]
  generalize (lg_sl ([.ref h0, .int a1]) ++ List.replicate (2 - (lg_sl ([.ref h0, .int a1])).length) Slot.unset).toArray = ls at hl ⊢
  have hl : lv_has ls 2 [(0, .ref h0), (1, .int a1)] := hl
  obtain ⟨H, hH⟩ : ∃ H : Heap, s.heap = H := ⟨_, rfl⟩
  rw [hH] at hP ⊢
  have hS : va_S A s.heap H [] := by rw [← hH]; exact va_S.rf
  obtain ⟨locs, hlo⟩ : ∃ locs : List Loc, locs = [] := ⟨_, rfl⟩
  rw [← hlo] at hS ⊢
  unfold sp_t6_put at hsp
  refine lv_aload_n hx hb dX6_put_0 rfl (lv_at hl 0 rfl) ?_
  refine va_get (D := (dC, dI)) (ci := 6) (v := .int v7) (C := RX6) (T := TX6) (N := 8) hx hb hts uV_h4_X6 hown hK hP 0 rfl rfl 7 (by decide) (hts (.fieldLink RX6 36 "ClassMill$Pool" "bodySize" "I") mw_h4_47) (fun _ h9 => h9) rfl dX6_put_1 ?_
  refine lv_aload_n hx hb dX6_put_4 rfl (lv_at hl 0 rfl) ?_
  refine va_get (D := (dC, dI)) (ci := 6) (v := .ref qf6) (C := RX6) (T := TX6) (N := 8) hx hb hts uV_h4_X6 hown hK hP 0 rfl rfl 6 (by decide) (hts (.fieldLink RX6 16 "ClassMill$Pool" "body" "[B") mw_h4_48) (fun _ h9 => h9) rfl dX6_put_5 ?_
  refine va_alen (v := 6000) hx hb hK hP 1 0 rfl rfl rfl dX6_put_8 ?_
  refine lv_icmp_ge (tgt := 23) hx hb dX6_put_9 (by decide) (fun c_1 => ?_) (fun c_1 => ?_)
  · rw [if_pos c_1] at hsp
    refine lv_aload_n hx hb dX6_put_23 rfl (lv_at hl 0 rfl) ?_
    refine lv_dup hx hb dX6_put_24 rfl ?_
    refine va_get (D := (dC, dI)) (ci := 6) (v := .int v7) (C := RX6) (T := TX6) (N := 8) hx hb hts uV_h4_X6 hown hK hP 0 rfl rfl 7 (by decide) (hts (.fieldLink RX6 36 "ClassMill$Pool" "bodySize" "I") mw_h4_47) (fun _ h9 => h9) rfl dX6_put_25 ?_
    refine lv_iconst (v := 1) hx hb dX6_put_28 (by decide) ?_
    refine lv_iadd hx hb dX6_put_29 ?_
    refine va_put (D := (dC, dI)) (ci := 6) (v := .int (v7 + 1)) (ty := .int) (C := RX6) (T := TX6) (N := 8) hx hb hts uV_h4_X6 tyX6 tyX6_ok nmX6 hown hK hP hD hS 0 rfl rfl 7 (by decide) (hts (.fieldLink RX6 36 "ClassMill$Pool" "bodySize" "I") mw_h4_47) (fun _ h9 => h9) rfl (by decide +kernel) rfl rfl (Nat.le_of_ble_eq_true rfl) dX6_put_30 ?_
    clear hP hD hS
    intro H locs hP hD hS
    replace hP : va_P (dC, dI) vwCl [(h0, .inr (6, [.ref qf0, .ref qf1, .ref qf2, .ref qf3, .int v4, .int v5, .ref qf6, .int (v7 + 1)])), (qf6, .inl (cf6, 6000, .inl f6))] H := hP
    replace hD : va_D A [(h0, .inr (6, [.ref qf0, .ref qf1, .ref qf2, .ref qf3, .int v4, .int v5, .ref qf6, .int (v7 + 1)])), (qf6, .inl (cf6, 6000, .inl f6))] := hD
    have hr0 := Option.some.inj hsp
    clear hsp
    obtain ⟨hq0, hr1⟩ := Prod.mk.inj hr0
    clear hr0
    subst hq0
    subst hr1
    have hP9 := hP.sub (ws' := [(h0, .inr (6, [.ref qf0, .ref qf1, .ref qf2, .ref qf3, .int v4, .int v5, .ref qf6, .int (v7 + 1)])), (qf6, .inl (cf6, 6000, .inl f6))]) [0, 1] rfl
    have hD9 := hD.sub (ws' := [(h0, .inr (6, [.ref qf0, .ref qf1, .ref qf2, .ref qf3, .int v4, .int v5, .ref qf6, .int (v7 + 1)])), (qf6, .inl (cf6, 6000, .inl f6))]) [0, 1] (by decide) rfl
    have hK9 := hK.sub (tys' := [(cf6, .byte)]) [0] rfl
    exact W.vret hx hb hr (fun t ht hW => ⟨⟨(), rfl, trivial, by rw [ht]; exact hP9, va_K.moved hW.alike hK9, hD9⟩, hS.F ht⟩) hS.2.2 dX6_put_33
  · rw [if_neg c_1] at hsp
    refine lv_aload_n hx hb dX6_put_12 rfl (lv_at hl 0 rfl) ?_
    refine va_get (D := (dC, dI)) (ci := 6) (v := .ref qf6) (C := RX6) (T := TX6) (N := 8) hx hb hts uV_h4_X6 hown hK hP 0 rfl rfl 6 (by decide) (hts (.fieldLink RX6 16 "ClassMill$Pool" "body" "[B") mw_h4_48) (fun _ h9 => h9) rfl dX6_put_13 ?_
    refine lv_aload_n hx hb dX6_put_16 rfl (lv_at hl 0 rfl) ?_
    refine va_get (D := (dC, dI)) (ci := 6) (v := .int v7) (C := RX6) (T := TX6) (N := 8) hx hb hts uV_h4_X6 hown hK hP 0 rfl rfl 7 (by decide) (hts (.fieldLink RX6 36 "ClassMill$Pool" "bodySize" "I") mw_h4_47) (fun _ h9 => h9) rfl dX6_put_17 ?_
    refine lv_iload_n hx hb dX6_put_20 rfl (lv_at hl 1 rfl) ?_
    refine lv_i2b hx hb dX6_put_21 rfl ?_
    obtain ⟨hi_2, hsp⟩ := ox_in hsp
    refine va_bast hx hb hK hP hD hS 1 0 rfl rfl (i := v7) (x := ((a1 : Int32).toInt8.toInt32)) hi_2 dX6_put_22 ?_
    clear hP hD hS
    intro H locs hP hD hS
    replace hP : va_P (dC, dI) vwCl [(h0, .inr (6, [.ref qf0, .ref qf1, .ref qf2, .ref qf3, .int v4, .int v5, .ref qf6, .int v7])), (qf6, .inl (cf6, 6000, .inl (upd f6 (v7 : Int32).toNatClampNeg (vp_nar .byte ((a1 : Int32).toInt8.toInt32)))))] H := hP
    replace hD : va_D A [(h0, .inr (6, [.ref qf0, .ref qf1, .ref qf2, .ref qf3, .int v4, .int v5, .ref qf6, .int v7])), (qf6, .inl (cf6, 6000, .inl (upd f6 (v7 : Int32).toNatClampNeg (vp_nar .byte ((a1 : Int32).toInt8.toInt32)))))] := hD
    refine lv_aload_n hx hb dX6_put_23 rfl (lv_at hl 0 rfl) ?_
    refine lv_dup hx hb dX6_put_24 rfl ?_
    refine va_get (D := (dC, dI)) (ci := 6) (v := .int v7) (C := RX6) (T := TX6) (N := 8) hx hb hts uV_h4_X6 hown hK hP 0 rfl rfl 7 (by decide) (hts (.fieldLink RX6 36 "ClassMill$Pool" "bodySize" "I") mw_h4_47) (fun _ h9 => h9) rfl dX6_put_25 ?_
    refine lv_iconst (v := 1) hx hb dX6_put_28 (by decide) ?_
    refine lv_iadd hx hb dX6_put_29 ?_
    refine va_put (D := (dC, dI)) (ci := 6) (v := .int (v7 + 1)) (ty := .int) (C := RX6) (T := TX6) (N := 8) hx hb hts uV_h4_X6 tyX6 tyX6_ok nmX6 hown hK hP hD hS 0 rfl rfl 7 (by decide) (hts (.fieldLink RX6 36 "ClassMill$Pool" "bodySize" "I") mw_h4_47) (fun _ h9 => h9) rfl (by decide +kernel) rfl rfl (Nat.le_of_ble_eq_true rfl) dX6_put_30 ?_
    clear hP hD hS
    intro H locs hP hD hS
    replace hP : va_P (dC, dI) vwCl [(h0, .inr (6, [.ref qf0, .ref qf1, .ref qf2, .ref qf3, .int v4, .int v5, .ref qf6, .int (v7 + 1)])), (qf6, .inl (cf6, 6000, .inl (upd f6 (v7 : Int32).toNatClampNeg (vp_nar .byte ((a1 : Int32).toInt8.toInt32)))))] H := hP
    replace hD : va_D A [(h0, .inr (6, [.ref qf0, .ref qf1, .ref qf2, .ref qf3, .int v4, .int v5, .ref qf6, .int (v7 + 1)])), (qf6, .inl (cf6, 6000, .inl (upd f6 (v7 : Int32).toNatClampNeg (vp_nar .byte ((a1 : Int32).toInt8.toInt32)))))] := hD
    have hr0 := Option.some.inj hsp
    clear hsp
    obtain ⟨hq0, hr1⟩ := Prod.mk.inj hr0
    clear hr0
    subst hq0
    subst hr1
    have hP9 := hP.sub (ws' := [(h0, .inr (6, [.ref qf0, .ref qf1, .ref qf2, .ref qf3, .int v4, .int v5, .ref qf6, .int (v7 + 1)])), (qf6, .inl (cf6, 6000, .inl (upd f6 (v7 : Int32).toNatClampNeg (vp_nar .byte ((a1 : Int32).toInt8.toInt32)))))]) [0, 1] rfl
    have hD9 := hD.sub (ws' := [(h0, .inr (6, [.ref qf0, .ref qf1, .ref qf2, .ref qf3, .int v4, .int v5, .ref qf6, .int (v7 + 1)])), (qf6, .inl (cf6, 6000, .inl (upd f6 (v7 : Int32).toNatClampNeg (vp_nar .byte ((a1 : Int32).toInt8.toInt32)))))]) [0, 1] (by decide) rfl
    have hK9 := hK.sub (tys' := [(cf6, .byte)]) [0] rfl
    exact W.vret hx hb hr (fun t ht hW => ⟨⟨(), rfl, trivial, by rw [ht]; exact hP9, va_K.moved hW.alike hK9, hD9⟩, hS.F ht⟩) hS.2.2 dX6_put_33
def sp_t6_putPair (nf : Nat) (a1 : Int32) (v7 : Int32) (f6 : Nat → Int32) : Option ((Nat → Int32) × Int32) := ((sp_t6_put nf (a1 >>> (8 &&& 31)) v7 f6).bind (fun p1 => ((sp_t6_put nf a1 p1.2 p1.1).bind (fun p2 => (some (p2.1, p2.2))))))
