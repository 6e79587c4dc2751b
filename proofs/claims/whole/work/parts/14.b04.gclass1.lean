set_option maxHeartbeats 4000000 in
set_option maxRecDepth 100000 in
/-- ClassMill$Image.readFrameTypes -/
theorem t3_readFrameTypes (l : Launch) (dC : Nat → ClassId) (dI : Nat → Nat → Nat) (sz : Nat) (h0 : Nat) (qf0 : Nat) (v1 : Int32) (v2 : Int32) (v3 : Int32) (qf4 : Nat) (qf5 : Nat) (qf6 : Nat) (v7 : Int32) (v8 : Int32) (v9 : Int32) (v10 : Int32) (qf11 : Nat) (v12 : Int32) (qf13 : Nat) (cf0 : ClassId) (nb : Nat) (f0 : (Nat → Int32)) (cf4 : ClassId) (f4 : (Nat → Int32)) (nf : Nat) (w2 : Int32) (w3 : Int32) (hsp : sp_t3_readFrameTypes nf v1 v2 v3 v7 nb f0 f4 = some (w2, w3)) : Met l yX3_readFrameTypes (.code yX3_readFrameTypes cX3_readFrameTypes 3 none :: VS_h3) ({ frames := 2, cells := 0, slots := 0, locals := 44 }) (va_Pc [.ref h0] (fun U => U.heap.size = sz ∧ va_P (dC, dI) vwCl [(h0, .inr (3, [.ref qf0, .int v1, .int v2, .int v3, .ref qf4, .ref qf5, .ref qf6, .int v7, .int v8, .int v9, .int v10, .ref qf11, .int v12, .ref qf13])), (qf0, .inl (cf0, nb, .inl f0)), (qf4, .inl (cf4, 256, .inl f4))] U.heap ∧ va_K (dC, dI) vwCl [(cf0, .byte), (cf4, .int)] U ∧ va_D (fun _ => True) [(h0, .inr (3, [.ref qf0, .int v1, .int v2, .int v3, .ref qf4, .ref qf5, .ref qf6, .int v7, .int v8, .int v9, .int v10, .ref qf11, .int v12, .ref qf13])), (qf0, .inl (cf0, nb, .inl f0)), (qf4, .inl (cf4, 256, .inl f4))])) (va_Qv (fun (u : Unit) => match u with | () => True) (fun (u : Unit) (t : State) => match u with | () => va_P (dC, dI) vwCl [(h0, .inr (3, [.ref qf0, .int v1, .int w2, .int w3, .ref qf4, .ref qf5, .ref qf6, .int v7, .int v8, .int v9, .int v10, .ref qf11, .int v12, .ref qf13])), (qf0, .inl (cf0, nb, .inl f0)), (qf4, .inl (cf4, 256, .inl f4))] t.heap ∧ va_K (dC, dI) vwCl [(cf0, .byte), (cf4, .int)] t ∧ va_D (va_A [(h0, .inr (3, [.ref qf0, .int v1, .int v2, .int v3, .ref qf4, .ref qf5, .ref qf6, .int v7, .int v8, .int v9, .int v10, .ref qf11, .int v12, .ref qf13])), (qf0, .inl (cf0, nb, .inl f0)), (qf4, .inl (cf4, 256, .inl f4))] sz) [(h0, .inr (3, [.ref qf0, .int v1, .int w2, .int w3, .ref qf4, .ref qf5, .ref qf6, .int v7, .int v8, .int v9, .int v10, .ref qf11, .int v12, .ref qf13])), (qf0, .inl (cf0, nb, .inl f0)), (qf4, .inl (cf4, 256, .inl f4))]) (va_A [(h0, .inr (3, [.ref qf0, .int v1, .int v2, .int v3, .ref qf4, .ref qf5, .ref qf6, .int v7, .int v8, .int v9, .int v10, .ref qf11, .int v12, .ref qf13])), (qf0, .inl (cf0, nb, .inl f0)), (qf4, .inl (cf4, 256, .inl f4))] sz)) 0 0 (va_A [(h0, .inr (3, [.ref qf0, .int v1, .int v2, .int v3, .ref qf4, .ref qf5, .ref qf6, .int v7, .int v8, .int v9, .int v10, .ref qf11, .int v12, .ref qf13])), (qf0, .inl (cf0, nb, .inl f0)), (qf4, .inl (cf4, 256, .inl f4))] sz) := by
  refine Met.ofW (cc := cX3_readFrameTypes) (maxL := 3) (ret := none) (by decide) rfl ?_
  intro p e s m args below meth c s₁ B hml hv
  obtain ⟨rfl, hsz, hP, hK, hD0⟩ := hv
  have hx := B.exec
  have hb := B.bytes
  have hr := B.returns
  have hts := atoms_spec (ws := (.code yX3_readFrameTypes cX3_readFrameTypes 3 none :: VS_h3)) B.pre
  replace hts := fun w (h : w ∈ VS_h3) => hts w (List.mem_cons_of_mem _ h)
  have hown : s.vm.findClass RX3 = some m.cls := findClass_of_methodNamed B.named
  have hlocks := B.notSynchronized
  subst hsz
  have hD := hD0.self (sz := s.heap.size)
  generalize hAe : va_A [(h0, .inr (3, [.ref qf0, .int v1, .int v2, .int v3, .ref qf4, .ref qf5, .ref qf6, .int v7, .int v8, .int v9, .int v10, .ref qf11, .int v12, .ref qf13])), (qf0, .inl (cf0, nb, .inl f0)), (qf4, .inl (cf4, 256, .inl f4))] s.heap.size = A at hD  ⊢
  have hA : ∀ q : Nat, s.heap.size ≤ q → A q := fun q h => by rw [← hAe]; exact Or.inr h
  have hP : va_P (dC, dI) vwCl [(h0, .inr (3, [.ref qf0, .int v1, .int v2, .int v3, .ref qf4, .ref qf5, .ref qf6, .int v7, .int v8, .int v9, .int v10, .ref qf11, .int v12, .ref qf13])), (qf0, .inl (cf0, nb, .inl f0)), (qf4, .inl (cf4, 256, .inl f4))] s.heap := hP
  have hl := lv_entry ([.ref h0]) (n := 3) (Nat.le_of_ble_eq_true rfl)
  rw [lg_entry_eq]
  generalize (lg_sl ([.ref h0]) ++ List.replicate (3 - (lg_sl ([.ref h0])).length) Slot.unset).toArray = ls at hl ⊢
  have hl : lv_has ls 3 [(0, .ref h0)] := hl
  obtain ⟨H, hH⟩ : ∃ H : Heap, s.heap = H := ⟨_, rfl⟩
  rw [hH] at hP ⊢
  have hS : va_S A s.heap H [] := by rw [← hH]; exact va_S.rf
  obtain ⟨locs, hlo⟩ : ∃ locs : List Loc, locs = [] := ⟨_, rfl⟩
  rw [← hlo] at hS ⊢
  unfold sp_t3_readFrameTypes at hsp
  refine lv_aload_n hx hb dX3_readFrameTypes_0 rfl (lv_at hl 0 rfl) ?_
  obtain ⟨⟨u1_0, u1_1, u1_2⟩, hu_1, hsp⟩ := ox_bind hsp
  try dsimp only at hsp
  have hPc := hP.sub (ws' := [(h0, .inr (3, [.ref qf0, .int v1, .int v2, .int v3, .ref qf4, .ref qf5, .ref qf6, .int v7, .int v8, .int v9, .int v10, .ref qf11, .int v12, .ref qf13])), (qf0, .inl (cf0, nb, .inl f0))]) [0, 1] rfl
  have hDc := hD.sub (ws' := [(h0, .inr (3, [.ref qf0, .int v1, .int v2, .int v3, .ref qf4, .ref qf5, .ref qf6, .int v7, .int v8, .int v9, .int v10, .ref qf11, .int v12, .ref qf13])), (qf0, .inl (cf0, nb, .inl f0))]) [0, 1] (by decide) rfl
  have hKc := hK.sub (tys' := [(cf0, .byte)]) [0] rfl
  have hFc := va_free (wc := [(h0, .inr (3, [.ref qf0, .int v1, .int v2, .int v3, .ref qf4, .ref qf5, .ref qf6, .int v7, .int v8, .int v9, .int v10, .ref qf11, .int v12, .ref qf13])), (qf0, .inl (cf0, nb, .inl f0))]) hD hS hA [0, 1] rfl
  refine va_calli (va_runV (As := []) (rest := []) ⟨hx, hb, hml, hown, hts⟩ (ti_next l dC dI H.size h0 qf0 v1 v2 v3 qf4 qf5 qf6 v7 v8 v9 v10 qf11 v12 qf13 cf0 nb f0 nf u1_0 u1_1 u1_2 hu_1) (cwV 0 hts gv_h3_2 rfl rfl rfl (by decide +kernel) ⟨Nat.le_of_ble_eq_true rfl, Nat.le_of_ble_eq_true rfl⟩) ⟨fun a U g mk q => by obtain ⟨q0, q1, qP, qK, qD⟩ := q; exact ⟨q0, q1, qP, va_K.moved (u := U) (U := U.calling g mk a) (Vm.Alike.refl U.vm) qK, qD⟩, va_recv hKc hPc (ci := 3) (q0 := 0) rfl rfl, fun U hU hW => ⟨rfl, by rw [hU], by rw [hU]; exact hPc, va_K.moved hW.alike hKc, hDc.weaken (fun _ _ _ _ => trivial)⟩⟩ rfl rfl hl.1 rfl (lv_room (Nat.le_of_ble_eq_true rfl)) dX3_readFrameTypes_1 ⟨Nat.le_of_ble_eq_true rfl, Nat.le_of_ble_eq_true rfl⟩) hS (fun q _ h => hFc q h) hFc ?_
  clear hS
  intro r_1 u t H1 locs ht hvm hw hB hz1 hk1 hS
  obtain ⟨⟩ := u
  obtain ⟨hP1, hK1, hD1⟩ := hB
  rw [ht] at hP1
  have hK1 := va_K.moved hvm.symm hK1
  try dsimp only at hw
  have hPD := va_join (wr := [(qf4, .inl (cf4, 256, .inl f4))]) (w1 := [(h0, .inr (3, [.ref qf0, .int v1, .int u1_1, .int u1_2, .ref qf4, .ref qf5, .ref qf6, .int v7, .int v8, .int v9, .int v10, .ref qf11, .int v12, .ref qf13])), (qf0, .inl (cf0, nb, .inl f0))]) hP hD [0, 1] [2] rfl rfl (by decide) (by decide) hk1 hFc hP1 hD1
  clear hP hD
  obtain ⟨hP, hD⟩ := hPD
  replace hK := (hK.sub (tys' := [(cf4, .int)]) [1] rfl).app hK1
  clear hPc hDc hKc hFc hP1 hK1 hD1 hz1 hk1 ht hvm
  generalize H1 = H at hP hS ⊢
  replace hP : va_P (dC, dI) vwCl [(qf4, .inl (cf4, 256, .inl f4)), (h0, .inr (3, [.ref qf0, .int v1, .int u1_1, .int u1_2, .ref qf4, .ref qf5, .ref qf6, .int v7, .int v8, .int v9, .int v10, .ref qf11, .int v12, .ref qf13])), (qf0, .inl (cf0, nb, .inl f0))] H := hP
  replace hD : va_D A [(qf4, .inl (cf4, 256, .inl f4)), (h0, .inr (3, [.ref qf0, .int v1, .int u1_1, .int u1_2, .ref qf4, .ref qf5, .ref qf6, .int v7, .int v8, .int v9, .int v10, .ref qf11, .int v12, .ref qf13])), (qf0, .inl (cf0, nb, .inl f0))] := hD
  replace hK : va_K (dC, dI) vwCl [(cf4, .int), (cf0, .byte)] s := hK
  obtain rfl := hw
  refine lv_istore_n (lv' := [(1, .int u1_0), (0, .ref h0)]) hx hb dX3_readFrameTypes_4 rfl hl (by decide) rfl (fun ls hl => ?_)
  refine lv_iconst (v := 0) hx hb dX3_readFrameTypes_5 (by decide) ?_
  refine lv_istore_n (lv' := [(2, .int 0), (1, .int u1_0), (0, .ref h0)]) hx hb dX3_readFrameTypes_6 rfl hl (by decide) rfl (fun ls hl => ?_)
  replace hP := hP.sub (ws' := [(h0, .inr (3, [.ref qf0, .int v1, .int u1_1, .int u1_2, .ref qf4, .ref qf5, .ref qf6, .int v7, .int v8, .int v9, .int v10, .ref qf11, .int v12, .ref qf13])), (qf0, .inl (cf0, nb, .inl f0)), (qf4, .inl (cf4, 256, .inl f4))]) [1, 2, 0] rfl
  replace hD := hD.sub (ws' := [(h0, .inr (3, [.ref qf0, .int v1, .int u1_1, .int u1_2, .ref qf4, .ref qf5, .ref qf6, .int v7, .int v8, .int v9, .int v10, .ref qf11, .int v12, .ref qf13])), (qf0, .inl (cf0, nb, .inl f0)), (qf4, .inl (cf4, 256, .inl f4))]) [1, 2, 0] (by decide) rfl
  replace hK := hK.sub (tys' := [(cf0, .byte), (cf4, .int)]) [1, 0] rfl
  obtain ⟨n_7, hn_7⟩ : ∃ z : Nat, z = nf := ⟨_, rfl⟩
  obtain ⟨l1_7, el1_7⟩ : ∃ z : Int32, z = u1_0 := ⟨_, rfl⟩
  obtain ⟨l2_7, el2_7⟩ : ∃ z : Int32, z = 0 := ⟨_, rfl⟩
  obtain ⟨x2_7, ex2_7⟩ : ∃ z : Int32, z = u1_1 := ⟨_, rfl⟩
  obtain ⟨x3_7, ex3_7⟩ : ∃ z : Int32, z = u1_2 := ⟨_, rfl⟩
  replace hsp : lp_t3_readFrameTypes_7 nf n_7 v1 v2 v3 v7 nb f0 f4 l1_7 l2_7 x2_7 x3_7 = some (w2, w3) := by rw [hn_7, el1_7, el2_7, ex2_7, ex3_7]; exact hsp
  replace hl : lv_has ls 3 [(2, .int l2_7), (1, .int l1_7), (0, .ref h0)] := by rw [el1_7, el2_7]; exact hl
  replace hP : va_P (dC, dI) vwCl [(h0, .inr (3, [.ref qf0, .int v1, .int x2_7, .int x3_7, .ref qf4, .ref qf5, .ref qf6, .int v7, .int v8, .int v9, .int v10, .ref qf11, .int v12, .ref qf13])), (qf0, .inl (cf0, nb, .inl f0)), (qf4, .inl (cf4, 256, .inl f4))] H := by rw [ex2_7, ex3_7]; exact hP
  replace hD : va_D A [(h0, .inr (3, [.ref qf0, .int v1, .int x2_7, .int x3_7, .ref qf4, .ref qf5, .ref qf6, .int v7, .int v8, .int v9, .int v10, .ref qf11, .int v12, .ref qf13])), (qf0, .inl (cf0, nb, .inl f0)), (qf4, .inl (cf4, 256, .inl f4))] := by rw [ex2_7, ex3_7]; exact hD
  clear hn_7 el1_7 el2_7 ex2_7 ex3_7
  try clear hlo
  try clear hH
  revert hsp
  revert hP
  revert hD
  revert hS
  revert hl
  revert x3_7
  revert x2_7
  revert l2_7
  revert l1_7
  revert ls
  revert locs
  revert H
  induction n_7 with
  | zero => intro H locs ls l1_7 l2_7 x2_7 x3_7 hl hS hD hP hsp; unfold lp_t3_readFrameTypes_7 at hsp; cases hsp
  | succ n_7 ih_7 =>
    intro H locs ls l1_7 l2_7 x2_7 x3_7 hl hS hD hP hsp
    unfold lp_t3_readFrameTypes_7 at hsp
    try dsimp only at hsp
    refine lv_iload_n hx hb dX3_readFrameTypes_7 rfl (lv_at hl 0 rfl) ?_
    refine lv_iload_n hx hb dX3_readFrameTypes_8 rfl (lv_at hl 1 rfl) ?_
    refine lv_icmp_ge (tgt := 40) hx hb dX3_readFrameTypes_9 (by decide) (fun c_2 => ?_) (fun c_2 => ?_)
    · rw [if_pos c_2] at hsp
      have hr0 := Option.some.inj hsp
      clear hsp
      obtain ⟨hq0, hr1⟩ := Prod.mk.inj hr0
      clear hr0
      subst hq0
      subst hr1
      have hP9 := hP.sub (ws' := [(h0, .inr (3, [.ref qf0, .int v1, .int x2_7, .int x3_7, .ref qf4, .ref qf5, .ref qf6, .int v7, .int v8, .int v9, .int v10, .ref qf11, .int v12, .ref qf13])), (qf0, .inl (cf0, nb, .inl f0)), (qf4, .inl (cf4, 256, .inl f4))]) [0, 1, 2] rfl
      have hD9 := hD.sub (ws' := [(h0, .inr (3, [.ref qf0, .int v1, .int x2_7, .int x3_7, .ref qf4, .ref qf5, .ref qf6, .int v7, .int v8, .int v9, .int v10, .ref qf11, .int v12, .ref qf13])), (qf0, .inl (cf0, nb, .inl f0)), (qf4, .inl (cf4, 256, .inl f4))]) [0, 1, 2] (by decide) rfl
      have hK9 := hK.sub (tys' := [(cf0, .byte), (cf4, .int)]) [0, 1] rfl
      exact W.vret hx hb hr (fun t ht hW => ⟨⟨(), rfl, trivial, by rw [ht]; exact hP9, va_K.moved hW.alike hK9, hD9⟩, hS.F ht⟩) hS.2.2 dX3_readFrameTypes_40
    · rw [if_neg c_2] at hsp
      refine lv_aload_n hx hb dX3_readFrameTypes_12 rfl (lv_at hl 2 rfl) ?_
      refine va_get (D := (dC, dI)) (ci := 3) (v := .int x3_7) (C := RX3) (T := TX3) (N := 14) hx hb hts uV_h3_X3 hown hK hP 0 rfl rfl 3 (by decide) (hts (.fieldLink RX3 46 "ClassMill$Image" "form" "I") mw_h3_65) (fun _ h9 => h9) rfl dX3_readFrameTypes_13 ?_
      refine lv_iconst (v := (-1)) hx hb dX3_readFrameTypes_16 (by decide) ?_
      refine lv_icmp_ne (tgt := 40) hx hb dX3_readFrameTypes_17 (by decide) (fun c_3 => ?_) (fun c_3 => ?_)
      · rw [if_neg c_3] at hsp
        have hr0 := Option.some.inj hsp
        clear hsp
        obtain ⟨hq0, hr1⟩ := Prod.mk.inj hr0
        clear hr0
        subst hq0
        subst hr1
        have hP9 := hP.sub (ws' := [(h0, .inr (3, [.ref qf0, .int v1, .int x2_7, .int x3_7, .ref qf4, .ref qf5, .ref qf6, .int v7, .int v8, .int v9, .int v10, .ref qf11, .int v12, .ref qf13])), (qf0, .inl (cf0, nb, .inl f0)), (qf4, .inl (cf4, 256, .inl f4))]) [0, 1, 2] rfl
        have hD9 := hD.sub (ws' := [(h0, .inr (3, [.ref qf0, .int v1, .int x2_7, .int x3_7, .ref qf4, .ref qf5, .ref qf6, .int v7, .int v8, .int v9, .int v10, .ref qf11, .int v12, .ref qf13])), (qf0, .inl (cf0, nb, .inl f0)), (qf4, .inl (cf4, 256, .inl f4))]) [0, 1, 2] (by decide) rfl
        have hK9 := hK.sub (tys' := [(cf0, .byte), (cf4, .int)]) [0, 1] rfl
        exact W.vret hx hb hr (fun t ht hW => ⟨⟨(), rfl, trivial, by rw [ht]; exact hP9, va_K.moved hW.alike hK9, hD9⟩, hS.F ht⟩) hS.2.2 dX3_readFrameTypes_40
      · rw [if_pos c_3] at hsp
        refine lv_aload_n hx hb dX3_readFrameTypes_20 rfl (lv_at hl 2 rfl) ?_
        refine lv_iconst (v := 0) hx hb dX3_readFrameTypes_21 (by decide) ?_
        refine lv_iconst (v := 3) hx hb dX3_readFrameTypes_22 (by decide) ?_
        obtain ⟨⟨u2_0, u2_1, u2_2⟩, hu_2, hsp⟩ := ox_bind hsp
        try dsimp only at hsp
        have hPc := hP.sub (ws' := [(h0, .inr (3, [.ref qf0, .int v1, .int x2_7, .int x3_7, .ref qf4, .ref qf5, .ref qf6, .int v7, .int v8, .int v9, .int v10, .ref qf11, .int v12, .ref qf13])), (qf0, .inl (cf0, nb, .inl f0))]) [0, 1] rfl
        have hDc := hD.sub (ws' := [(h0, .inr (3, [.ref qf0, .int v1, .int x2_7, .int x3_7, .ref qf4, .ref qf5, .ref qf6, .int v7, .int v8, .int v9, .int v10, .ref qf11, .int v12, .ref qf13])), (qf0, .inl (cf0, nb, .inl f0))]) [0, 1] (by decide) rfl
        have hKc := hK.sub (tys' := [(cf0, .byte)]) [0] rfl
        have hFc := va_free (wc := [(h0, .inr (3, [.ref qf0, .int v1, .int x2_7, .int x3_7, .ref qf4, .ref qf5, .ref qf6, .int v7, .int v8, .int v9, .int v10, .ref qf11, .int v12, .ref qf13])), (qf0, .inl (cf0, nb, .inl f0))]) hD hS hA [0, 1] rfl
        refine va_calli (va_runV (As := [.int 0, .int 3]) (rest := []) ⟨hx, hb, hml, hown, hts⟩ (ti_nextUpTo l dC dI H.size h0 0 3 qf0 v1 x2_7 x3_7 qf4 qf5 qf6 v7 v8 v9 v10 qf11 v12 qf13 cf0 nb f0 nf u2_0 u2_1 u2_2 hu_2) (cwV 2 hts gv_h3_1 rfl rfl rfl (by decide +kernel) ⟨Nat.le_of_ble_eq_true rfl, Nat.le_of_ble_eq_true rfl⟩) ⟨fun a U g mk q => by obtain ⟨q0, q1, qP, qK, qD⟩ := q; exact ⟨q0, q1, qP, va_K.moved (u := U) (U := U.calling g mk a) (Vm.Alike.refl U.vm) qK, qD⟩, va_recv hKc hPc (ci := 3) (q0 := 0) rfl rfl, fun U hU hW => ⟨rfl, by rw [hU], by rw [hU]; exact hPc, va_K.moved hW.alike hKc, hDc.weaken (fun _ _ _ _ => trivial)⟩⟩ rfl rfl hl.1 rfl (lv_room (Nat.le_of_ble_eq_true rfl)) dX3_readFrameTypes_23 ⟨Nat.le_of_ble_eq_true rfl, Nat.le_of_ble_eq_true rfl⟩) hS (fun q _ h => hFc q h) hFc ?_
        clear hS
        intro r_4 u t H1 locs ht hvm hw hB hz1 hk1 hS
        obtain ⟨⟩ := u
        obtain ⟨hP1, hK1, hD1⟩ := hB
        rw [ht] at hP1
        have hK1 := va_K.moved hvm.symm hK1
        try dsimp only at hw
        have hPD := va_join (wr := [(qf4, .inl (cf4, 256, .inl f4))]) (w1 := [(h0, .inr (3, [.ref qf0, .int v1, .int u2_1, .int u2_2, .ref qf4, .ref qf5, .ref qf6, .int v7, .int v8, .int v9, .int v10, .ref qf11, .int v12, .ref qf13])), (qf0, .inl (cf0, nb, .inl f0))]) hP hD [0, 1] [2] rfl rfl (by decide) (by decide) hk1 hFc hP1 hD1
        clear hP hD
        obtain ⟨hP, hD⟩ := hPD
        replace hK := (hK.sub (tys' := [(cf4, .int)]) [1] rfl).app hK1
        clear hPc hDc hKc hFc hP1 hK1 hD1 hz1 hk1 ht hvm
        generalize H1 = H at hP hS ⊢
        replace hP : va_P (dC, dI) vwCl [(qf4, .inl (cf4, 256, .inl f4)), (h0, .inr (3, [.ref qf0, .int v1, .int u2_1, .int u2_2, .ref qf4, .ref qf5, .ref qf6, .int v7, .int v8, .int v9, .int v10, .ref qf11, .int v12, .ref qf13])), (qf0, .inl (cf0, nb, .inl f0))] H := hP
        replace hD : va_D A [(qf4, .inl (cf4, 256, .inl f4)), (h0, .inr (3, [.ref qf0, .int v1, .int u2_1, .int u2_2, .ref qf4, .ref qf5, .ref qf6, .int v7, .int v8, .int v9, .int v10, .ref qf11, .int v12, .ref qf13])), (qf0, .inl (cf0, nb, .inl f0))] := hD
        replace hK : va_K (dC, dI) vwCl [(cf4, .int), (cf0, .byte)] s := hK
        obtain rfl := hw
        refine lv_iconst (v := 3) hx hb dX3_readFrameTypes_26 (by decide) ?_
        refine lv_icmp_ne (tgt := 34) hx hb dX3_readFrameTypes_27 (by decide) (fun c_5 => ?_) (fun c_5 => ?_)
        · rw [if_neg c_5] at hsp
          refine lv_iinc (v := (l2_7 + 1)) (lv' := [(2, .int (l2_7 + 1)), (1, .int l1_7), (0, .ref h0)]) hx hb dX3_readFrameTypes_34 hl (k := 0) rfl rfl (by decide) rfl (fun ls hl => ?_)
          refine lv_goto (tgt := 7) hx hb dX3_readFrameTypes_37 (by decide) ?_
          exact ih_7 H locs ls l1_7 (l2_7 + 1) u2_1 u2_2 (lv_sub hl [0, 1, 2] rfl) hS (hD.sub (ws' := [(h0, .inr (3, [.ref qf0, .int v1, .int u2_1, .int u2_2, .ref qf4, .ref qf5, .ref qf6, .int v7, .int v8, .int v9, .int v10, .ref qf11, .int v12, .ref qf13])), (qf0, .inl (cf0, nb, .inl f0)), (qf4, .inl (cf4, 256, .inl f4))]) [1, 2, 0] (by decide) rfl) (hP.sub (ws' := [(h0, .inr (3, [.ref qf0, .int v1, .int u2_1, .int u2_2, .ref qf4, .ref qf5, .ref qf6, .int v7, .int v8, .int v9, .int v10, .ref qf11, .int v12, .ref qf13])), (qf0, .inl (cf0, nb, .inl f0)), (qf4, .inl (cf4, 256, .inl f4))]) [1, 2, 0] rfl) hsp
        · rw [if_pos c_5] at hsp
          refine lv_aload_n hx hb dX3_readFrameTypes_30 rfl (lv_at hl 2 rfl) ?_
          obtain ⟨⟨u3_0, u3_1⟩, hu_3, hsp⟩ := ox_bind hsp
          try dsimp only at hsp
          have hPc := hP.sub (ws' := [(h0, .inr (3, [.ref qf0, .int v1, .int u2_1, .int u2_2, .ref qf4, .ref qf5, .ref qf6, .int v7, .int v8, .int v9, .int v10, .ref qf11, .int v12, .ref qf13])), (qf0, .inl (cf0, nb, .inl f0)), (qf4, .inl (cf4, 256, .inl f4))]) [1, 2, 0] rfl
          have hDc := hD.sub (ws' := [(h0, .inr (3, [.ref qf0, .int v1, .int u2_1, .int u2_2, .ref qf4, .ref qf5, .ref qf6, .int v7, .int v8, .int v9, .int v10, .ref qf11, .int v12, .ref qf13])), (qf0, .inl (cf0, nb, .inl f0)), (qf4, .inl (cf4, 256, .inl f4))]) [1, 2, 0] (by decide) rfl
          have hKc := hK.sub (tys' := [(cf0, .byte), (cf4, .int)]) [1, 0] rfl
          have hFc := va_free (wc := [(h0, .inr (3, [.ref qf0, .int v1, .int u2_1, .int u2_2, .ref qf4, .ref qf5, .ref qf6, .int v7, .int v8, .int v9, .int v10, .ref qf11, .int v12, .ref qf13])), (qf0, .inl (cf0, nb, .inl f0)), (qf4, .inl (cf4, 256, .inl f4))]) hD hS hA [1, 2, 0] rfl
          refine va_callv (va_runV (As := []) (rest := []) ⟨hx, hb, hml, hown, hts⟩ (t3_nextClass l dC dI H.size h0 qf0 v1 u2_1 u2_2 qf4 qf5 qf6 v7 v8 v9 v10 qf11 v12 qf13 cf0 nb f0 cf4 f4 nf u3_0 u3_1 hu_3) (cwV 0 hts gv_h3_12 rfl rfl rfl (by decide +kernel) ⟨Nat.le_of_ble_eq_true rfl, Nat.le_of_ble_eq_true rfl⟩) ⟨fun a U g mk q => by obtain ⟨q0, q1, qP, qK, qD⟩ := q; exact ⟨q0, q1, qP, va_K.moved (u := U) (U := U.calling g mk a) (Vm.Alike.refl U.vm) qK, qD⟩, va_recv hKc hPc (ci := 3) (q0 := 0) rfl rfl, fun U hU hW => ⟨rfl, by rw [hU], by rw [hU]; exact hPc, va_K.moved hW.alike hKc, hDc.weaken (fun _ _ _ _ => trivial)⟩⟩ rfl rfl hl.1 rfl (lv_room (Nat.le_of_ble_eq_true rfl)) dX3_readFrameTypes_31 ⟨Nat.le_of_ble_eq_true rfl, Nat.le_of_ble_eq_true rfl⟩) hS (fun q _ h => hFc q h) hFc ?_
          clear hS
          intro u t H1 locs ht hvm hw hB hz1 hk1 hS
          obtain ⟨⟩ := u
          obtain ⟨hP1, hK1, hD1⟩ := hB
          rw [ht] at hP1
          have hK1 := va_K.moved hvm.symm hK1
          try dsimp only at hw
          have hPD := va_join (wr := []) (w1 := [(h0, .inr (3, [.ref qf0, .int v1, .int u3_0, .int u3_1, .ref qf4, .ref qf5, .ref qf6, .int v7, .int v8, .int v9, .int v10, .ref qf11, .int v12, .ref qf13])), (qf0, .inl (cf0, nb, .inl f0)), (qf4, .inl (cf4, 256, .inl f4))]) hP hD [1, 2, 0] [] rfl rfl (by decide) (by decide) hk1 hFc hP1 hD1
          clear hP hD
          obtain ⟨hP, hD⟩ := hPD
          replace hK := (hK.sub (tys' := []) [] rfl).app hK1
          clear hPc hDc hKc hFc hP1 hK1 hD1 hz1 hk1 ht hvm
          generalize H1 = H at hP hS ⊢
          replace hP : va_P (dC, dI) vwCl [(h0, .inr (3, [.ref qf0, .int v1, .int u3_0, .int u3_1, .ref qf4, .ref qf5, .ref qf6, .int v7, .int v8, .int v9, .int v10, .ref qf11, .int v12, .ref qf13])), (qf0, .inl (cf0, nb, .inl f0)), (qf4, .inl (cf4, 256, .inl f4))] H := hP
          replace hD : va_D A [(h0, .inr (3, [.ref qf0, .int v1, .int u3_0, .int u3_1, .ref qf4, .ref qf5, .ref qf6, .int v7, .int v8, .int v9, .int v10, .ref qf11, .int v12, .ref qf13])), (qf0, .inl (cf0, nb, .inl f0)), (qf4, .inl (cf4, 256, .inl f4))] := hD
          replace hK : va_K (dC, dI) vwCl [(cf0, .byte), (cf4, .int)] s := hK
          refine lv_iinc (v := (l2_7 + 1)) (lv' := [(2, .int (l2_7 + 1)), (1, .int l1_7), (0, .ref h0)]) hx hb dX3_readFrameTypes_34 hl (k := 0) rfl rfl (by decide) rfl (fun ls hl => ?_)
          refine lv_goto (tgt := 7) hx hb dX3_readFrameTypes_37 (by decide) ?_
          exact ih_7 H locs ls l1_7 (l2_7 + 1) u3_0 u3_1 (lv_sub hl [0, 1, 2] rfl) hS (hD.sub (ws' := [(h0, .inr (3, [.ref qf0, .int v1, .int u3_0, .int u3_1, .ref qf4, .ref qf5, .ref qf6, .int v7, .int v8, .int v9, .int v10, .ref qf11, .int v12, .ref qf13])), (qf0, .inl (cf0, nb, .inl f0)), (qf4, .inl (cf4, 256, .inl f4))]) [0, 1, 2] (by decide) rfl) (hP.sub (ws' := [(h0, .inr (3, [.ref qf0, .int v1, .int u3_0, .int u3_1, .ref qf4, .ref qf5, .ref qf6, .int v7, .int v8, .int v9, .int v10, .ref qf11, .int v12, .ref qf13])), (qf0, .inl (cf0, nb, .inl f0)), (qf4, .inl (cf4, 256, .inl f4))]) [0, 1, 2] rfl) hsp
def sp_t3_of (nf : Nat) (a1 : Int32) (a2 : Int32) (v12 : Int32) (f13 : Nat → Int32) : Option (Int32) := (if a1 < 0 then (some 0) else (if v12 ≤ a1 then (some 0) else (if 144 ≤ ((a1 * 12) + a2) then (some 0) else (if ((a1 * 12) + a2) < 0 then none else if 144 ≤ (((a1 * 12) + a2) : Int32).toNatClampNeg then none else (some (f13 (((a1 * 12) + a2) : Int32).toNatClampNeg))))))
set_option maxHeartbeats 4000000 in
set_option maxRecDepth 100000 in
/-- ClassMill$Image.of -/
theorem t3_of (l : Launch) (dC : Nat → ClassId) (dI : Nat → Nat → Nat) (sz : Nat) (h0 : Nat) (a1 : Int32) (a2 : Int32) (qf0 : Nat) (v1 : Int32) (v2 : Int32) (v3 : Int32) (qf4 : Nat) (qf5 : Nat) (qf6 : Nat) (v7 : Int32) (v8 : Int32) (v9 : Int32) (v10 : Int32) (qf11 : Nat) (v12 : Int32) (qf13 : Nat) (cf13 : ClassId) (f13 : (Nat → Int32)) (nf : Nat) (r0 : Int32) (hsp : sp_t3_of nf a1 a2 v12 f13 = some r0) : Met l yX3_of (.code yX3_of cX3_of 4 (some .int) :: VS_h3) ({ frames := 0, cells := 0, slots := 0, locals := 0 }) (va_Pc [.ref h0, .int a1, .int a2] (fun U => U.heap.size = sz ∧ va_P (dC, dI) vwCl [(h0, .inr (3, [.ref qf0, .int v1, .int v2, .int v3, .ref qf4, .ref qf5, .ref qf6, .int v7, .int v8, .int v9, .int v10, .ref qf11, .int v12, .ref qf13])), (qf13, .inl (cf13, 144, .inl f13))] U.heap ∧ va_K (dC, dI) vwCl [(cf13, .int)] U ∧ va_D (fun _ => True) [(h0, .inr (3, [.ref qf0, .int v1, .int v2, .int v3, .ref qf4, .ref qf5, .ref qf6, .int v7, .int v8, .int v9, .int v10, .ref qf11, .int v12, .ref qf13])), (qf13, .inl (cf13, 144, .inl f13))])) (va_Qi (fun (r : Int32) (u : Unit) => match u with | () => r0 = r) (fun (u : Unit) (t : State) => match u with | () => va_P (dC, dI) vwCl [(h0, .inr (3, [.ref qf0, .int v1, .int v2, .int v3, .ref qf4, .ref qf5, .ref qf6, .int v7, .int v8, .int v9, .int v10, .ref qf11, .int v12, .ref qf13])), (qf13, .inl (cf13, 144, .inl f13))] t.heap ∧ va_K (dC, dI) vwCl [(cf13, .int)] t ∧ va_D (va_A [(h0, .inr (3, [.ref qf0, .int v1, .int v2, .int v3, .ref qf4, .ref qf5, .ref qf6, .int v7, .int v8, .int v9, .int v10, .ref qf11, .int v12, .ref qf13])), (qf13, .inl (cf13, 144, .inl f13))] sz) [(h0, .inr (3, [.ref qf0, .int v1, .int v2, .int v3, .ref qf4, .ref qf5, .ref qf6, .int v7, .int v8, .int v9, .int v10, .ref qf11, .int v12, .ref qf13])), (qf13, .inl (cf13, 144, .inl f13))]) (va_A [(h0, .inr (3, [.ref qf0, .int v1, .int v2, .int v3, .ref qf4, .ref qf5, .ref qf6, .int v7, .int v8, .int v9, .int v10, .ref qf11, .int v12, .ref qf13])), (qf13, .inl (cf13, 144, .inl f13))] sz)) 0 0 (va_A [(h0, .inr (3, [.ref qf0, .int v1, .int v2, .int v3, .ref qf4, .ref qf5, .ref qf6, .int v7, .int v8, .int v9, .int v10, .ref qf11, .int v12, .ref qf13])), (qf13, .inl (cf13, 144, .inl f13))] sz) := by
  refine Met.ofW (cc := cX3_of) (maxL := 4) (ret := (some .int)) (by decide) rfl ?_
  intro p e s m args below meth c s₁ B hml hv
  obtain ⟨rfl, hsz, hP, hK, hD0⟩ := hv
  have hx := B.exec
  have hb := B.bytes
  have hr := B.returns
  have hts := atoms_spec (ws := (.code yX3_of cX3_of 4 (some .int) :: VS_h3)) B.pre
  replace hts := fun w (h : w ∈ VS_h3) => hts w (List.mem_cons_of_mem _ h)
  have hown : s.vm.findClass RX3 = some m.cls := findClass_of_methodNamed B.named
  have hlocks := B.notSynchronized
  subst hsz
  have hD := hD0.self (sz := s.heap.size)
  generalize hAe : va_A [(h0, .inr (3, [.ref qf0, .int v1, .int v2, .int v3, .ref qf4, .ref qf5, .ref qf6, .int v7, .int v8, .int v9, .int v10, .ref qf11, .int v12, .ref qf13])), (qf13, .inl (cf13, 144, .inl f13))] s.heap.size = A at hD  ⊢
  have hA : ∀ q : Nat, s.heap.size ≤ q → A q := fun q h => by rw [← hAe]; exact Or.inr h
  have hP : va_P (dC, dI) vwCl [(h0, .inr (3, [.ref qf0, .int v1, .int v2, .int v3, .ref qf4, .ref qf5, .ref qf6, .int v7, .int v8, .int v9, .int v10, .ref qf11, .int v12, .ref qf13])), (qf13, .inl (cf13, 144, .inl f13))] s.heap := hP
  have hl := lv_entry ([.ref h0, .int a1, .int a2]) (n := 4) (Nat.le_of_ble_eq_true rfl)
  rw [lg_entry_eq]
  generalize (lg_sl ([.ref h0, .int a1, .int a2]) ++ List.replicate (4 - (lg_sl ([.ref h0, .int a1, .int a2])).length) Slot.unset).toArray = ls at hl ⊢
  have hl : lv_has ls 4 [(0, .ref h0), (1, .int a1), (2, .int a2)] := hl
  obtain ⟨H, hH⟩ : ∃ H : Heap, s.heap = H := ⟨_, rfl⟩
  rw [hH] at hP ⊢
  have hS : va_S A s.heap H [] := by rw [← hH]; exact va_S.rf
  obtain ⟨locs, hlo⟩ : ∃ locs : List Loc, locs = [] := ⟨_, rfl⟩
  rw [← hlo] at hS ⊢
  unfold sp_t3_of at hsp
  refine lv_iload_n hx hb dX3_of_0 rfl (lv_at hl 1 rfl) ?_
  refine lv_bipush (v := 12) hx hb dX3_of_1 (by decide) ?_
  refine lv_imul hx hb dX3_of_3 ?_
  refine lv_iload_n hx hb dX3_of_4 rfl (lv_at hl 2 rfl) ?_
  refine lv_iadd hx hb dX3_of_5 ?_
  refine lv_istore_n (lv' := [(3, .int ((a1 * 12) + a2)), (0, .ref h0), (1, .int a1), (2, .int a2)]) hx hb dX3_of_6 rfl hl (by decide) rfl (fun ls hl => ?_)
  refine lv_iload_n hx hb dX3_of_7 rfl (lv_at hl 2 rfl) ?_
  refine lv_if_lt (tgt := 37) hx hb dX3_of_8 (by decide) (fun c_1 => ?_) (fun c_1 => ?_)
  · rw [if_pos c_1] at hsp
    refine lv_iconst (v := 0) hx hb dX3_of_37 (by decide) ?_
    have hr0 := Option.some.inj hsp
    clear hsp
    subst hr0
    have hP9 := hP.sub (ws' := [(h0, .inr (3, [.ref qf0, .int v1, .int v2, .int v3, .ref qf4, .ref qf5, .ref qf6, .int v7, .int v8, .int v9, .int v10, .ref qf11, .int v12, .ref qf13])), (qf13, .inl (cf13, 144, .inl f13))]) [0, 1] rfl
    have hD9 := hD.sub (ws' := [(h0, .inr (3, [.ref qf0, .int v1, .int v2, .int v3, .ref qf4, .ref qf5, .ref qf6, .int v7, .int v8, .int v9, .int v10, .ref qf11, .int v12, .ref qf13])), (qf13, .inl (cf13, 144, .inl f13))]) [0, 1] (by decide) rfl
    have hK9 := hK.sub (tys' := [(cf13, .int)]) [0] rfl
    exact W.iret hx hb hr (fun t ht hW => ⟨⟨(0), (), rfl, rfl, by rw [ht]; exact hP9, va_K.moved hW.alike hK9, hD9⟩, hS.F ht⟩) hS.2.2 dX3_of_38
  · rw [if_neg c_1] at hsp
    refine lv_iload_n hx hb dX3_of_11 rfl (lv_at hl 2 rfl) ?_
    refine lv_aload_n hx hb dX3_of_12 rfl (lv_at hl 1 rfl) ?_
    refine va_get (D := (dC, dI)) (ci := 3) (v := .int v12) (C := RX3) (T := TX3) (N := 14) hx hb hts uV_h3_X3 hown hK hP 0 rfl rfl 12 (by decide) (hts (.fieldLink RX3 52 "ClassMill$Image" "methods" "I") mw_h3_66) (fun _ h9 => h9) rfl dX3_of_13 ?_
    refine lv_icmp_ge (tgt := 37) hx hb dX3_of_16 (by decide) (fun c_2 => ?_) (fun c_2 => ?_)
    · rw [if_pos c_2] at hsp
      refine lv_iconst (v := 0) hx hb dX3_of_37 (by decide) ?_
      have hr0 := Option.some.inj hsp
      clear hsp
      subst hr0
      have hP9 := hP.sub (ws' := [(h0, .inr (3, [.ref qf0, .int v1, .int v2, .int v3, .ref qf4, .ref qf5, .ref qf6, .int v7, .int v8, .int v9, .int v10, .ref qf11, .int v12, .ref qf13])), (qf13, .inl (cf13, 144, .inl f13))]) [0, 1] rfl
      have hD9 := hD.sub (ws' := [(h0, .inr (3, [.ref qf0, .int v1, .int v2, .int v3, .ref qf4, .ref qf5, .ref qf6, .int v7, .int v8, .int v9, .int v10, .ref qf11, .int v12, .ref qf13])), (qf13, .inl (cf13, 144, .inl f13))]) [0, 1] (by decide) rfl
      have hK9 := hK.sub (tys' := [(cf13, .int)]) [0] rfl
      exact W.iret hx hb hr (fun t ht hW => ⟨⟨(0), (), rfl, rfl, by rw [ht]; exact hP9, va_K.moved hW.alike hK9, hD9⟩, hS.F ht⟩) hS.2.2 dX3_of_38
    · rw [if_neg c_2] at hsp
      refine lv_iload_n hx hb dX3_of_19 rfl (lv_at hl 0 rfl) ?_
      refine lv_aload_n hx hb dX3_of_20 rfl (lv_at hl 1 rfl) ?_
      refine va_get (D := (dC, dI)) (ci := 3) (v := .ref qf13) (C := RX3) (T := TX3) (N := 14) hx hb hts uV_h3_X3 hown hK hP 0 rfl rfl 13 (by decide) (hts (.fieldLink RX3 30 "ClassMill$Image" "method" "[I") mw_h3_52) (fun _ h9 => h9) rfl dX3_of_21 ?_
      refine va_alen (v := 144) hx hb hK hP 1 0 rfl rfl rfl dX3_of_24 ?_
      refine lv_icmp_ge (tgt := 37) hx hb dX3_of_25 (by decide) (fun c_3 => ?_) (fun c_3 => ?_)
      · rw [if_pos c_3] at hsp
        refine lv_iconst (v := 0) hx hb dX3_of_37 (by decide) ?_
        have hr0 := Option.some.inj hsp
        clear hsp
        subst hr0
        have hP9 := hP.sub (ws' := [(h0, .inr (3, [.ref qf0, .int v1, .int v2, .int v3, .ref qf4, .ref qf5, .ref qf6, .int v7, .int v8, .int v9, .int v10, .ref qf11, .int v12, .ref qf13])), (qf13, .inl (cf13, 144, .inl f13))]) [0, 1] rfl
        have hD9 := hD.sub (ws' := [(h0, .inr (3, [.ref qf0, .int v1, .int v2, .int v3, .ref qf4, .ref qf5, .ref qf6, .int v7, .int v8, .int v9, .int v10, .ref qf11, .int v12, .ref qf13])), (qf13, .inl (cf13, 144, .inl f13))]) [0, 1] (by decide) rfl
        have hK9 := hK.sub (tys' := [(cf13, .int)]) [0] rfl
        exact W.iret hx hb hr (fun t ht hW => ⟨⟨(0), (), rfl, rfl, by rw [ht]; exact hP9, va_K.moved hW.alike hK9, hD9⟩, hS.F ht⟩) hS.2.2 dX3_of_38
      · rw [if_neg c_3] at hsp
        refine lv_aload_n hx hb dX3_of_28 rfl (lv_at hl 1 rfl) ?_
        refine va_get (D := (dC, dI)) (ci := 3) (v := .ref qf13) (C := RX3) (T := TX3) (N := 14) hx hb hts uV_h3_X3 hown hK hP 0 rfl rfl 13 (by decide) (hts (.fieldLink RX3 30 "ClassMill$Image" "method" "[I") mw_h3_52) (fun _ h9 => h9) rfl dX3_of_29 ?_
        refine lv_iload_n hx hb dX3_of_32 rfl (lv_at hl 0 rfl) ?_
        obtain ⟨hi_4, hsp⟩ := ox_in hsp
        refine va_iald hx hb hK hP 1 0 rfl rfl (i := ((a1 * 12) + a2)) hi_4 dX3_of_33 ?_
        refine lv_goto (tgt := 38) hx hb dX3_of_34 (by decide) ?_
        have hr0 := Option.some.inj hsp
        clear hsp
        subst hr0
        have hP9 := hP.sub (ws' := [(h0, .inr (3, [.ref qf0, .int v1, .int v2, .int v3, .ref qf4, .ref qf5, .ref qf6, .int v7, .int v8, .int v9, .int v10, .ref qf11, .int v12, .ref qf13])), (qf13, .inl (cf13, 144, .inl f13))]) [0, 1] rfl
        have hD9 := hD.sub (ws' := [(h0, .inr (3, [.ref qf0, .int v1, .int v2, .int v3, .ref qf4, .ref qf5, .ref qf6, .int v7, .int v8, .int v9, .int v10, .ref qf11, .int v12, .ref qf13])), (qf13, .inl (cf13, 144, .inl f13))]) [0, 1] (by decide) rfl
        have hK9 := hK.sub (tys' := [(cf13, .int)]) [0] rfl
        exact W.iret hx hb hr (fun t ht hW => ⟨⟨((f13 (((a1 * 12) + a2) : Int32).toNatClampNeg)), (), rfl, rfl, by rw [ht]; exact hP9, va_K.moved hW.alike hK9, hD9⟩, hS.F ht⟩) hS.2.2 dX3_of_38
def sp_t3_fieldKind (nf : Nat) (a1 : Int32) (v10 : Int32) (f11 : Nat → Int32) : Option (Int32) := (if a1 < 0 then (some 0) else (if v10 ≤ a1 then (some 0) else (if ((a1 * 2) + 1) < 0 then none else if 24 ≤ (((a1 * 2) + 1) : Int32).toNatClampNeg then none else (some (f11 (((a1 * 2) + 1) : Int32).toNatClampNeg)))))
set_option maxHeartbeats 4000000 in
set_option maxRecDepth 100000 in
/-- ClassMill$Image.fieldKind -/
theorem t3_fieldKind (l : Launch) (dC : Nat → ClassId) (dI : Nat → Nat → Nat) (sz : Nat) (h0 : Nat) (a1 : Int32) (qf0 : Nat) (v1 : Int32) (v2 : Int32) (v3 : Int32) (qf4 : Nat) (qf5 : Nat) (qf6 : Nat) (v7 : Int32) (v8 : Int32) (v9 : Int32) (v10 : Int32) (qf11 : Nat) (v12 : Int32) (qf13 : Nat) (cf11 : ClassId) (f11 : (Nat → Int32)) (nf : Nat) (r0 : Int32) (hsp : sp_t3_fieldKind nf a1 v10 f11 = some r0) : Met l yX3_fieldKind (.code yX3_fieldKind cX3_fieldKind 2 (some .int) :: VS_h3) ({ frames := 0, cells := 0, slots := 0, locals := 0 }) (va_Pc [.ref h0, .int a1] (fun U => U.heap.size = sz ∧ va_P (dC, dI) vwCl [(h0, .inr (3, [.ref qf0, .int v1, .int v2, .int v3, .ref qf4, .ref qf5, .ref qf6, .int v7, .int v8, .int v9, .int v10, .ref qf11, .int v12, .ref qf13])), (qf11, .inl (cf11, 24, .inl f11))] U.heap ∧ va_K (dC, dI) vwCl [(cf11, .int)] U ∧ va_D (fun _ => True) [(h0, .inr (3, [.ref qf0, .int v1, .int v2, .int v3, .ref qf4, .ref qf5, .ref qf6, .int v7, .int v8, .int v9, .int v10, .ref qf11, .int v12, .ref qf13])), (qf11, .inl (cf11, 24, .inl f11))])) (va_Qi (fun (r : Int32) (u : Unit) => match u with | () => r0 = r) (fun (u : Unit) (t : State) => match u with | () => va_P (dC, dI) vwCl [(h0, .inr (3, [.ref qf0, .int v1, .int v2, .int v3, .ref qf4, .ref qf5, .ref qf6, .int v7, .int v8, .int v9, .int v10, .ref qf11, .int v12, .ref qf13])), (qf11, .inl (cf11, 24, .inl f11))] t.heap ∧ va_K (dC, dI) vwCl [(cf11, .int)] t ∧ va_D (va_A [(h0, .inr (3, [.ref qf0, .int v1, .int v2, .int v3, .ref qf4, .ref qf5, .ref qf6, .int v7, .int v8, .int v9, .int v10, .ref qf11, .int v12, .ref qf13])), (qf11, .inl (cf11, 24, .inl f11))] sz) [(h0, .inr (3, [.ref qf0, .int v1, .int v2, .int v3, .ref qf4, .ref qf5, .ref qf6, .int v7, .int v8, .int v9, .int v10, .ref qf11, .int v12, .ref qf13])), (qf11, .inl (cf11, 24, .inl f11))]) (va_A [(h0, .inr (3, [.ref qf0, .int v1, .int v2, .int v3, .ref qf4, .ref qf5, .ref qf6, .int v7, .int v8, .int v9, .int v10, .ref qf11, .int v12, .ref qf13])), (qf11, .inl (cf11, 24, .inl f11))] sz)) 0 0 (va_A [(h0, .inr (3, [.ref qf0, .int v1, .int v2, .int v3, .ref qf4, .ref qf5, .ref qf6, .int v7, .int v8, .int v9, .int v10, .ref qf11, .int v12, .ref qf13])), (qf11, .inl (cf11, 24, .inl f11))] sz) := by
  refine Met.ofW (cc := cX3_fieldKind) (maxL := 2) (ret := (some .int)) (by decide) rfl ?_
  intro p e s m args below meth c s₁ B hml hv
  obtain ⟨rfl, hsz, hP, hK, hD0⟩ := hv
  have hx := B.exec
  have hb := B.bytes
  have hr := B.returns
  have hts := atoms_spec (ws := (.code yX3_fieldKind cX3_fieldKind 2 (some .int) :: VS_h3)) B.pre
  replace hts := fun w (h : w ∈ VS_h3) => hts w (List.mem_cons_of_mem _ h)
  have hown : s.vm.findClass RX3 = some m.cls := findClass_of_methodNamed B.named
  have hlocks := B.notSynchronized
  subst hsz
  have hD := hD0.self (sz := s.heap.size)
  generalize hAe : va_A [(h0, .inr (3, [.ref qf0, .int v1, .int v2, .int v3, .ref qf4, .ref qf5, .ref qf6, .int v7, .int v8, .int v9, .int v10, .ref qf11, .int v12, .ref qf13])), (qf11, .inl (cf11, 24, .inl f11))] s.heap.size = A at hD  ⊢
  have hA : ∀ q : Nat, s.heap.size ≤ q → A q := fun q h => by rw [← hAe]; exact Or.inr h
  have hP : va_P (dC, dI) vwCl [(h0, .inr (3, [.ref qf0, .int v1, .int v2, .int v3, .ref qf4, .ref qf5, .ref qf6, .int v7, .int v8, .int v9, .int v10, .ref qf11, .int v12, .ref qf13])), (qf11, .inl (cf11, 24, .inl f11))] s.heap := hP
  have hl := lv_entry ([.ref h0, .int a1]) (n := 2) (Nat.le_of_ble_eq_true rfl)
  rw [lg_entry_eq]
  generalize (lg_sl ([.ref h0, .int a1]) ++ List.replicate (2 - (lg_sl ([.ref h0, .int a1])).length) Slot.unset).toArray = ls at hl ⊢
  have hl : lv_has ls 2 [(0, .ref h0), (1, .int a1)] := hl
  obtain ⟨H, hH⟩ : ∃ H : Heap, s.heap = H := ⟨_, rfl⟩
  rw [hH] at hP ⊢
  have hS : va_S A s.heap H [] := by rw [← hH]; exact va_S.rf
  obtain ⟨locs, hlo⟩ : ∃ locs : List Loc, locs = [] := ⟨_, rfl⟩
  rw [← hlo] at hS ⊢
  unfold sp_t3_fieldKind at hsp
  refine lv_iload_n hx hb dX3_fieldKind_0 rfl (lv_at hl 1 rfl) ?_
  refine lv_if_lt (tgt := 25) hx hb dX3_fieldKind_1 (by decide) (fun c_1 => ?_) (fun c_1 => ?_)
  · rw [if_pos c_1] at hsp
    refine lv_iconst (v := 0) hx hb dX3_fieldKind_25 (by decide) ?_
    have hr0 := Option.some.inj hsp
    clear hsp
    subst hr0
    have hP9 := hP.sub (ws' := [(h0, .inr (3, [.ref qf0, .int v1, .int v2, .int v3, .ref qf4, .ref qf5, .ref qf6, .int v7, .int v8, .int v9, .int v10, .ref qf11, .int v12, .ref qf13])), (qf11, .inl (cf11, 24, .inl f11))]) [0, 1] rfl
    have hD9 := hD.sub (ws' := [(h0, .inr (3, [.ref qf0, .int v1, .int v2, .int v3, .ref qf4, .ref qf5, .ref qf6, .int v7, .int v8, .int v9, .int v10, .ref qf11, .int v12, .ref qf13])), (qf11, .inl (cf11, 24, .inl f11))]) [0, 1] (by decide) rfl
    have hK9 := hK.sub (tys' := [(cf11, .int)]) [0] rfl
    exact W.iret hx hb hr (fun t ht hW => ⟨⟨(0), (), rfl, rfl, by rw [ht]; exact hP9, va_K.moved hW.alike hK9, hD9⟩, hS.F ht⟩) hS.2.2 dX3_fieldKind_26
  · rw [if_neg c_1] at hsp
    refine lv_iload_n hx hb dX3_fieldKind_4 rfl (lv_at hl 1 rfl) ?_
    refine lv_aload_n hx hb dX3_fieldKind_5 rfl (lv_at hl 0 rfl) ?_
    refine va_get (D := (dC, dI)) (ci := 3) (v := .int v10) (C := RX3) (T := TX3) (N := 14) hx hb hts uV_h3_X3 hown hK hP 0 rfl rfl 10 (by decide) (hts (.fieldLink RX3 49 "ClassMill$Image" "fields" "I") mw_h3_67) (fun _ h9 => h9) rfl dX3_fieldKind_6 ?_
    refine lv_icmp_ge (tgt := 25) hx hb dX3_fieldKind_9 (by decide) (fun c_2 => ?_) (fun c_2 => ?_)
    · rw [if_pos c_2] at hsp
      refine lv_iconst (v := 0) hx hb dX3_fieldKind_25 (by decide) ?_
      have hr0 := Option.some.inj hsp
      clear hsp
      subst hr0
      have hP9 := hP.sub (ws' := [(h0, .inr (3, [.ref qf0, .int v1, .int v2, .int v3, .ref qf4, .ref qf5, .ref qf6, .int v7, .int v8, .int v9, .int v10, .ref qf11, .int v12, .ref qf13])), (qf11, .inl (cf11, 24, .inl f11))]) [0, 1] rfl
      have hD9 := hD.sub (ws' := [(h0, .inr (3, [.ref qf0, .int v1, .int v2, .int v3, .ref qf4, .ref qf5, .ref qf6, .int v7, .int v8, .int v9, .int v10, .ref qf11, .int v12, .ref qf13])), (qf11, .inl (cf11, 24, .inl f11))]) [0, 1] (by decide) rfl
      have hK9 := hK.sub (tys' := [(cf11, .int)]) [0] rfl
      exact W.iret hx hb hr (fun t ht hW => ⟨⟨(0), (), rfl, rfl, by rw [ht]; exact hP9, va_K.moved hW.alike hK9, hD9⟩, hS.F ht⟩) hS.2.2 dX3_fieldKind_26
    · rw [if_neg c_2] at hsp
      refine lv_aload_n hx hb dX3_fieldKind_12 rfl (lv_at hl 0 rfl) ?_
      refine va_get (D := (dC, dI)) (ci := 3) (v := .ref qf11) (C := RX3) (T := TX3) (N := 14) hx hb hts uV_h3_X3 hown hK hP 0 rfl rfl 11 (by decide) (hts (.fieldLink RX3 27 "ClassMill$Image" "field" "[I") mw_h3_68) (fun _ h9 => h9) rfl dX3_fieldKind_13 ?_
      refine lv_iload_n hx hb dX3_fieldKind_16 rfl (lv_at hl 1 rfl) ?_
      refine lv_iconst (v := 2) hx hb dX3_fieldKind_17 (by decide) ?_
      refine lv_imul hx hb dX3_fieldKind_18 ?_
      refine lv_iconst (v := 1) hx hb dX3_fieldKind_19 (by decide) ?_
      refine lv_iadd hx hb dX3_fieldKind_20 ?_
      obtain ⟨hi_3, hsp⟩ := ox_in hsp
      refine va_iald hx hb hK hP 1 0 rfl rfl (i := ((a1 * 2) + 1)) hi_3 dX3_fieldKind_21 ?_
      refine lv_goto (tgt := 26) hx hb dX3_fieldKind_22 (by decide) ?_
      have hr0 := Option.some.inj hsp
      clear hsp
      subst hr0
      have hP9 := hP.sub (ws' := [(h0, .inr (3, [.ref qf0, .int v1, .int v2, .int v3, .ref qf4, .ref qf5, .ref qf6, .int v7, .int v8, .int v9, .int v10, .ref qf11, .int v12, .ref qf13])), (qf11, .inl (cf11, 24, .inl f11))]) [0, 1] rfl
      have hD9 := hD.sub (ws' := [(h0, .inr (3, [.ref qf0, .int v1, .int v2, .int v3, .ref qf4, .ref qf5, .ref qf6, .int v7, .int v8, .int v9, .int v10, .ref qf11, .int v12, .ref qf13])), (qf11, .inl (cf11, 24, .inl f11))]) [0, 1] (by decide) rfl
      have hK9 := hK.sub (tys' := [(cf11, .int)]) [0] rfl
      exact W.iret hx hb hr (fun t ht hW => ⟨⟨((f11 (((a1 * 2) + 1) : Int32).toNatClampNeg)), (), rfl, rfl, by rw [ht]; exact hP9, va_K.moved hW.alike hK9, hD9⟩, hS.F ht⟩) hS.2.2 dX3_fieldKind_26
def lp_t3_readFrames_33 (nf n : Nat) (a1 : Int32) (v1 : Int32) (v2 : Int32) (v3 : Int32) (v7 : Int32) (nb : Nat) (f0 : Nat → Int32) (f13 : Nat → Int32) (f4 : Nat → Int32)  (l1_33 : Int32) (l2_33 : Int32) (l3_33 : Int32) (g13_33 : Nat → Int32) (x2_33 : Int32) (x3_33 : Int32) : Option ((Nat → Int32) × Int32 × Int32) := match n with
  | 0 => none
  | n + 1 => (if l2_33 ≤ l3_33 then (some (g13_33, x2_33, x3_33)) else (if x3_33 = (-1) then ((sp_ti_skipPairs nf 1 v1 x2_33 x3_33 nb f0).bind (fun p2 => ((sp_t3_readFrameTypes nf v1 p2.1 p2.2 v7 nb f0 f4).bind (fun p3 => ((sp_t3_readFrameTypes nf v1 p3.1 p3.2 v7 nb f0 f4).bind (fun p4 => (lp_t3_readFrames_33 nf n a1 v1 v2 v3 v7 nb f0 f13 f4 l1_33 l2_33 (l3_33 + 1) g13_33 p4.1 p4.2))))))) else (some (g13_33, x2_33, x3_33))))
def sp_t3_readFrames (nf : Nat) (a1 : Int32) (v1 : Int32) (v2 : Int32) (v3 : Int32) (v7 : Int32) (nb : Nat) (f0 : Nat → Int32) (f13 : Nat → Int32) (f4 : Nat → Int32) : Option ((Nat → Int32) × Int32 × Int32) := ((sp_ti_nextUpTo nf 0 100 v1 v2 v3 nb f0).bind (fun p1 => (if (a1 + 9) < 0 then none else if 144 ≤ ((a1 + 9) : Int32).toNatClampNeg then none else (if (a1 + 10) < 0 then none else if 144 ≤ ((a1 + 10) : Int32).toNatClampNeg then none else (lp_t3_readFrames_33 nf nf a1 v1 v2 v3 v7 nb f0 f13 f4 a1 p1.1 0 (upd (upd f13 ((a1 + 9) : Int32).toNatClampNeg p1.1) ((a1 + 10) : Int32).toNatClampNeg p1.2.1) p1.2.1 p1.2.2)))))
set_option maxHeartbeats 4000000 in
set_option maxRecDepth 100000 in
/-- ClassMill$Image.readFrames -/
theorem t3_readFrames (l : Launch) (dC : Nat → ClassId) (dI : Nat → Nat → Nat) (sz : Nat) (h0 : Nat) (a1 : Int32) (qf0 : Nat) (v1 : Int32) (v2 : Int32) (v3 : Int32) (qf4 : Nat) (qf5 : Nat) (qf6 : Nat) (v7 : Int32) (v8 : Int32) (v9 : Int32) (v10 : Int32) (qf11 : Nat) (v12 : Int32) (qf13 : Nat) (cf0 : ClassId) (nb : Nat) (f0 : (Nat → Int32)) (cf13 : ClassId) (f13 : (Nat → Int32)) (cf4 : ClassId) (f4 : (Nat → Int32)) (nf : Nat) (o13 : (Nat → Int32)) (w2 : Int32) (w3 : Int32) (hsp : sp_t3_readFrames nf a1 v1 v2 v3 v7 nb f0 f13 f4 = some (o13, w2, w3)) : Met l yX3_readFrames (.code yX3_readFrames cX3_readFrames 4 none :: VS_h3) ({ frames := 3, cells := 0, slots := 0, locals := 66 }) (va_Pc [.ref h0, .int a1] (fun U => U.heap.size = sz ∧ va_P (dC, dI) vwCl [(h0, .inr (3, [.ref qf0, .int v1, .int v2, .int v3, .ref qf4, .ref qf5, .ref qf6, .int v7, .int v8, .int v9, .int v10, .ref qf11, .int v12, .ref qf13])), (qf0, .inl (cf0, nb, .inl f0)), (qf13, .inl (cf13, 144, .inl f13)), (qf4, .inl (cf4, 256, .inl f4))] U.heap ∧ va_K (dC, dI) vwCl [(cf0, .byte), (cf13, .int), (cf4, .int)] U ∧ va_D (fun _ => True) [(h0, .inr (3, [.ref qf0, .int v1, .int v2, .int v3, .ref qf4, .ref qf5, .ref qf6, .int v7, .int v8, .int v9, .int v10, .ref qf11, .int v12, .ref qf13])), (qf0, .inl (cf0, nb, .inl f0)), (qf13, .inl (cf13, 144, .inl f13)), (qf4, .inl (cf4, 256, .inl f4))])) (va_Qv (fun (u : Unit) => match u with | () => True) (fun (u : Unit) (t : State) => match u with | () => va_P (dC, dI) vwCl [(h0, .inr (3, [.ref qf0, .int v1, .int w2, .int w3, .ref qf4, .ref qf5, .ref qf6, .int v7, .int v8, .int v9, .int v10, .ref qf11, .int v12, .ref qf13])), (qf0, .inl (cf0, nb, .inl f0)), (qf13, .inl (cf13, 144, .inl o13)), (qf4, .inl (cf4, 256, .inl f4))] t.heap ∧ va_K (dC, dI) vwCl [(cf0, .byte), (cf13, .int), (cf4, .int)] t ∧ va_D (va_A [(h0, .inr (3, [.ref qf0, .int v1, .int v2, .int v3, .ref qf4, .ref qf5, .ref qf6, .int v7, .int v8, .int v9, .int v10, .ref qf11, .int v12, .ref qf13])), (qf0, .inl (cf0, nb, .inl f0)), (qf13, .inl (cf13, 144, .inl f13)), (qf4, .inl (cf4, 256, .inl f4))] sz) [(h0, .inr (3, [.ref qf0, .int v1, .int w2, .int w3, .ref qf4, .ref qf5, .ref qf6, .int v7, .int v8, .int v9, .int v10, .ref qf11, .int v12, .ref qf13])), (qf0, .inl (cf0, nb, .inl f0)), (qf13, .inl (cf13, 144, .inl o13)), (qf4, .inl (cf4, 256, .inl f4))]) (va_A [(h0, .inr (3, [.ref qf0, .int v1, .int v2, .int v3, .ref qf4, .ref qf5, .ref qf6, .int v7, .int v8, .int v9, .int v10, .ref qf11, .int v12, .ref qf13])), (qf0, .inl (cf0, nb, .inl f0)), (qf13, .inl (cf13, 144, .inl f13)), (qf4, .inl (cf4, 256, .inl f4))] sz)) 0 0 (va_A [(h0, .inr (3, [.ref qf0, .int v1, .int v2, .int v3, .ref qf4, .ref qf5, .ref qf6, .int v7, .int v8, .int v9, .int v10, .ref qf11, .int v12, .ref qf13])), (qf0, .inl (cf0, nb, .inl f0)), (qf13, .inl (cf13, 144, .inl f13)), (qf4, .inl (cf4, 256, .inl f4))] sz) := by
  refine Met.ofW (cc := cX3_readFrames) (maxL := 4) (ret := none) (by decide) rfl ?_
  intro p e s m args below meth c s₁ B hml hv
  obtain ⟨rfl, hsz, hP, hK, hD0⟩ := hv
  have hx := B.exec
  have hb := B.bytes
  have hr := B.returns
  have hts := atoms_spec (ws := (.code yX3_readFrames cX3_readFrames 4 none :: VS_h3)) B.pre
  replace hts := fun w (h : w ∈ VS_h3) => hts w (List.mem_cons_of_mem _ h)
  have hown : s.vm.findClass RX3 = some m.cls := findClass_of_methodNamed B.named
  have hlocks := B.notSynchronized
  subst hsz
  have hD := hD0.self (sz := s.heap.size)
  generalize hAe : va_A [(h0, .inr (3, [.ref qf0, .int v1, .int v2, .int v3, .ref qf4, .ref qf5, .ref qf6, .int v7, .int v8, .int v9, .int v10, .ref qf11, .int v12, .ref qf13])), (qf0, .inl (cf0, nb, .inl f0)), (qf13, .inl (cf13, 144, .inl f13)), (qf4, .inl (cf4, 256, .inl f4))] s.heap.size = A at hD  ⊢
  have hA : ∀ q : Nat, s.heap.size ≤ q → A q := fun q h => by rw [← hAe]; exact Or.inr h
  have hP : va_P (dC, dI) vwCl [(h0, .inr (3, [.ref qf0, .int v1, .int v2, .int v3, .ref qf4, .ref qf5, .ref qf6, .int v7, .int v8, .int v9, .int v10, .ref qf11, .int v12, .ref qf13])), (qf0, .inl (cf0, nb, .inl f0)), (qf13, .inl (cf13, 144, .inl f13)), (qf4, .inl (cf4, 256, .inl f4))] s.heap := hP
  have hl := lv_entry ([.ref h0, .int a1]) (n := 4) (Nat.le_of_ble_eq_true rfl)
  rw [lg_entry_eq]
  generalize (lg_sl ([.ref h0, .int a1]) ++ List.replicate (4 - (lg_sl ([.ref h0, .int a1])).length) Slot.unset).toArray = ls at hl ⊢
  have hl : lv_has ls 4 [(0, .ref h0), (1, .int a1)] := hl
  obtain ⟨H, hH⟩ : ∃ H : Heap, s.heap = H := ⟨_, rfl⟩
  rw [hH] at hP ⊢
  have hS : va_S A s.heap H [] := by rw [← hH]; exact va_S.rf
  obtain ⟨locs, hlo⟩ : ∃ locs : List Loc, locs = [] := ⟨_, rfl⟩
  rw [← hlo] at hS ⊢
  unfold sp_t3_readFrames at hsp
  refine lv_aload_n hx hb dX3_readFrames_0 rfl (lv_at hl 0 rfl) ?_
  refine lv_iconst (v := 0) hx hb dX3_readFrames_1 (by decide) ?_
  refine lv_bipush (v := 100) hx hb dX3_readFrames_2 (by decide) ?_
  obtain ⟨⟨u1_0, u1_1, u1_2⟩, hu_1, hsp⟩ := ox_bind hsp
  try dsimp only at hsp
  have hPc := hP.sub (ws' := [(h0, .inr (3, [.ref qf0, .int v1, .int v2, .int v3, .ref qf4, .ref qf5, .ref qf6, .int v7, .int v8, .int v9, .int v10, .ref qf11, .int v12, .ref qf13])), (qf0, .inl (cf0, nb, .inl f0))]) [0, 1] rfl
  have hDc := hD.sub (ws' := [(h0, .inr (3, [.ref qf0, .int v1, .int v2, .int v3, .ref qf4, .ref qf5, .ref qf6, .int v7, .int v8, .int v9, .int v10, .ref qf11, .int v12, .ref qf13])), (qf0, .inl (cf0, nb, .inl f0))]) [0, 1] (by decide) rfl
  have hKc := hK.sub (tys' := [(cf0, .byte)]) [0] rfl
  have hFc := va_free (wc := [(h0, .inr (3, [.ref qf0, .int v1, .int v2, .int v3, .ref qf4, .ref qf5, .ref qf6, .int v7, .int v8, .int v9, .int v10, .ref qf11, .int v12, .ref qf13])), (qf0, .inl (cf0, nb, .inl f0))]) hD hS hA [0, 1] rfl
  refine va_calli (va_runV (As := [.int 0, .int 100]) (rest := []) ⟨hx, hb, hml, hown, hts⟩ (ti_nextUpTo l dC dI H.size h0 0 100 qf0 v1 v2 v3 qf4 qf5 qf6 v7 v8 v9 v10 qf11 v12 qf13 cf0 nb f0 nf u1_0 u1_1 u1_2 hu_1) (cwV 2 hts gv_h3_1 rfl rfl rfl (by decide +kernel) ⟨Nat.le_of_ble_eq_true rfl, Nat.le_of_ble_eq_true rfl⟩) ⟨fun a U g mk q => by obtain ⟨q0, q1, qP, qK, qD⟩ := q; exact ⟨q0, q1, qP, va_K.moved (u := U) (U := U.calling g mk a) (Vm.Alike.refl U.vm) qK, qD⟩, va_recv hKc hPc (ci := 3) (q0 := 0) rfl rfl, fun U hU hW => ⟨rfl, by rw [hU], by rw [hU]; exact hPc, va_K.moved hW.alike hKc, hDc.weaken (fun _ _ _ _ => trivial)⟩⟩ rfl rfl hl.1 rfl (lv_room (Nat.le_of_ble_eq_true rfl)) dX3_readFrames_4 ⟨Nat.le_of_ble_eq_true rfl, Nat.le_of_ble_eq_true rfl⟩) hS (fun q _ h => hFc q h) hFc ?_
  clear hS
  intro r_1 u t H1 locs ht hvm hw hB hz1 hk1 hS
  obtain ⟨⟩ := u
  obtain ⟨hP1, hK1, hD1⟩ := hB
  rw [ht] at hP1
  have hK1 := va_K.moved hvm.symm hK1
  try dsimp only at hw
  have hPD := va_join (wr := [(qf13, .inl (cf13, 144, .inl f13)), (qf4, .inl (cf4, 256, .inl f4))]) (w1 := [(h0, .inr (3, [.ref qf0, .int v1, .int u1_1, .int u1_2, .ref qf4, .ref qf5, .ref qf6, .int v7, .int v8, .int v9, .int v10, .ref qf11, .int v12, .ref qf13])), (qf0, .inl (cf0, nb, .inl f0))]) hP hD [0, 1] [2, 3] rfl rfl (by decide) (by decide) hk1 hFc hP1 hD1
  clear hP hD
  obtain ⟨hP, hD⟩ := hPD
  replace hK := (hK.sub (tys' := [(cf13, .int), (cf4, .int)]) [1, 2] rfl).app hK1
  clear hPc hDc hKc hFc hP1 hK1 hD1 hz1 hk1 ht hvm
  generalize H1 = H at hP hS ⊢
  replace hP : va_P (dC, dI) vwCl [(qf13, .inl (cf13, 144, .inl f13)), (qf4, .inl (cf4, 256, .inl f4)), (h0, .inr (3, [.ref qf0, .int v1, .int u1_1, .int u1_2, .ref qf4, .ref qf5, .ref qf6, .int v7, .int v8, .int v9, .int v10, .ref qf11, .int v12, .ref qf13])), (qf0, .inl (cf0, nb, .inl f0))] H := hP
  replace hD : va_D A [(qf13, .inl (cf13, 144, .inl f13)), (qf4, .inl (cf4, 256, .inl f4)), (h0, .inr (3, [.ref qf0, .int v1, .int u1_1, .int u1_2, .ref qf4, .ref qf5, .ref qf6, .int v7, .int v8, .int v9, .int v10, .ref qf11, .int v12, .ref qf13])), (qf0, .inl (cf0, nb, .inl f0))] := hD
  replace hK : va_K (dC, dI) vwCl [(cf13, .int), (cf4, .int), (cf0, .byte)] s := hK
  obtain rfl := hw
  refine lv_istore_n (lv' := [(2, .int u1_0), (0, .ref h0), (1, .int a1)]) hx hb dX3_readFrames_7 rfl hl (by decide) rfl (fun ls hl => ?_)
  refine lv_aload_n hx hb dX3_readFrames_8 rfl (lv_at hl 1 rfl) ?_
  refine va_get (D := (dC, dI)) (ci := 3) (v := .ref qf13) (C := RX3) (T := TX3) (N := 14) hx hb hts uV_h3_X3 hown hK hP 2 rfl rfl 13 (by decide) (hts (.fieldLink RX3 30 "ClassMill$Image" "method" "[I") mw_h3_52) (fun _ h9 => h9) rfl dX3_readFrames_9 ?_
  refine lv_iload_n hx hb dX3_readFrames_12 rfl (lv_at hl 2 rfl) ?_
  refine lv_bipush (v := 9) hx hb dX3_readFrames_13 (by decide) ?_
  refine lv_iadd hx hb dX3_readFrames_15 ?_
  refine lv_iload_n hx hb dX3_readFrames_16 rfl (lv_at hl 0 rfl) ?_
  obtain ⟨hi_2, hsp⟩ := ox_in hsp
  refine va_iast hx hb hK hP hD hS 0 0 rfl rfl (i := (a1 + 9)) (x := u1_0) hi_2 dX3_readFrames_17 ?_
  clear hP hD hS
  intro H locs hP hD hS
  replace hP : va_P (dC, dI) vwCl [(qf13, .inl (cf13, 144, .inl (upd f13 ((a1 + 9) : Int32).toNatClampNeg u1_0))), (qf4, .inl (cf4, 256, .inl f4)), (h0, .inr (3, [.ref qf0, .int v1, .int u1_1, .int u1_2, .ref qf4, .ref qf5, .ref qf6, .int v7, .int v8, .int v9, .int v10, .ref qf11, .int v12, .ref qf13])), (qf0, .inl (cf0, nb, .inl f0))] H := hP
  replace hD : va_D A [(qf13, .inl (cf13, 144, .inl (upd f13 ((a1 + 9) : Int32).toNatClampNeg u1_0))), (qf4, .inl (cf4, 256, .inl f4)), (h0, .inr (3, [.ref qf0, .int v1, .int u1_1, .int u1_2, .ref qf4, .ref qf5, .ref qf6, .int v7, .int v8, .int v9, .int v10, .ref qf11, .int v12, .ref qf13])), (qf0, .inl (cf0, nb, .inl f0))] := hD
  refine lv_aload_n hx hb dX3_readFrames_18 rfl (lv_at hl 1 rfl) ?_
  refine va_get (D := (dC, dI)) (ci := 3) (v := .ref qf13) (C := RX3) (T := TX3) (N := 14) hx hb hts uV_h3_X3 hown hK hP 2 rfl rfl 13 (by decide) (hts (.fieldLink RX3 30 "ClassMill$Image" "method" "[I") mw_h3_52) (fun _ h9 => h9) rfl dX3_readFrames_19 ?_
  refine lv_iload_n hx hb dX3_readFrames_22 rfl (lv_at hl 2 rfl) ?_
  refine lv_bipush (v := 10) hx hb dX3_readFrames_23 (by decide) ?_
  refine lv_iadd hx hb dX3_readFrames_25 ?_
  refine lv_aload_n hx hb dX3_readFrames_26 rfl (lv_at hl 1 rfl) ?_
  refine va_get (D := (dC, dI)) (ci := 3) (v := .int u1_1) (C := RX3) (T := TX3) (N := 14) hx hb hts uV_h3_X3 hown hK hP 2 rfl rfl 2 (by decide) (hts (.fieldLink RX3 43 "ClassMill$Image" "pos" "I") mw_h3_47) (fun _ h9 => h9) rfl dX3_readFrames_27 ?_
  obtain ⟨hi_3, hsp⟩ := ox_in hsp
  refine va_iast hx hb hK hP hD hS 0 0 rfl rfl (i := (a1 + 10)) (x := u1_1) hi_3 dX3_readFrames_30 ?_
  clear hP hD hS
  intro H locs hP hD hS
  replace hP : va_P (dC, dI) vwCl [(qf13, .inl (cf13, 144, .inl (upd (upd f13 ((a1 + 9) : Int32).toNatClampNeg u1_0) ((a1 + 10) : Int32).toNatClampNeg u1_1))), (qf4, .inl (cf4, 256, .inl f4)), (h0, .inr (3, [.ref qf0, .int v1, .int u1_1, .int u1_2, .ref qf4, .ref qf5, .ref qf6, .int v7, .int v8, .int v9, .int v10, .ref qf11, .int v12, .ref qf13])), (qf0, .inl (cf0, nb, .inl f0))] H := hP
  replace hD : va_D A [(qf13, .inl (cf13, 144, .inl (upd (upd f13 ((a1 + 9) : Int32).toNatClampNeg u1_0) ((a1 + 10) : Int32).toNatClampNeg u1_1))), (qf4, .inl (cf4, 256, .inl f4)), (h0, .inr (3, [.ref qf0, .int v1, .int u1_1, .int u1_2, .ref qf4, .ref qf5, .ref qf6, .int v7, .int v8, .int v9, .int v10, .ref qf11, .int v12, .ref qf13])), (qf0, .inl (cf0, nb, .inl f0))] := hD
  refine lv_iconst (v := 0) hx hb dX3_readFrames_31 (by decide) ?_
  refine lv_istore_n (lv' := [(3, .int 0), (2, .int u1_0), (0, .ref h0), (1, .int a1)]) hx hb dX3_readFrames_32 rfl hl (by decide) rfl (fun ls hl => ?_)
  replace hP := hP.sub (ws' := [(h0, .inr (3, [.ref qf0, .int v1, .int u1_1, .int u1_2, .ref qf4, .ref qf5, .ref qf6, .int v7, .int v8, .int v9, .int v10, .ref qf11, .int v12, .ref qf13])), (qf0, .inl (cf0, nb, .inl f0)), (qf13, .inl (cf13, 144, .inl (upd (upd f13 ((a1 + 9) : Int32).toNatClampNeg u1_0) ((a1 + 10) : Int32).toNatClampNeg u1_1))), (qf4, .inl (cf4, 256, .inl f4))]) [2, 3, 0, 1] rfl
  replace hD := hD.sub (ws' := [(h0, .inr (3, [.ref qf0, .int v1, .int u1_1, .int u1_2, .ref qf4, .ref qf5, .ref qf6, .int v7, .int v8, .int v9, .int v10, .ref qf11, .int v12, .ref qf13])), (qf0, .inl (cf0, nb, .inl f0)), (qf13, .inl (cf13, 144, .inl (upd (upd f13 ((a1 + 9) : Int32).toNatClampNeg u1_0) ((a1 + 10) : Int32).toNatClampNeg u1_1))), (qf4, .inl (cf4, 256, .inl f4))]) [2, 3, 0, 1] (by decide) rfl
  replace hK := hK.sub (tys' := [(cf0, .byte), (cf13, .int), (cf4, .int)]) [2, 0, 1] rfl
  obtain ⟨n_33, hn_33⟩ : ∃ z : Nat, z = nf := ⟨_, rfl⟩
  obtain ⟨l1_33, el1_33⟩ : ∃ z : Int32, z = a1 := ⟨_, rfl⟩
  obtain ⟨l2_33, el2_33⟩ : ∃ z : Int32, z = u1_0 := ⟨_, rfl⟩
  obtain ⟨l3_33, el3_33⟩ : ∃ z : Int32, z = 0 := ⟨_, rfl⟩
  obtain ⟨g13_33, eg13_33⟩ : ∃ z : Nat → Int32, z = (upd (upd f13 ((a1 + 9) : Int32).toNatClampNeg u1_0) ((a1 + 10) : Int32).toNatClampNeg u1_1) := ⟨_, rfl⟩
  obtain ⟨x2_33, ex2_33⟩ : ∃ z : Int32, z = u1_1 := ⟨_, rfl⟩
  obtain ⟨x3_33, ex3_33⟩ : ∃ z : Int32, z = u1_2 := ⟨_, rfl⟩
  replace hsp : lp_t3_readFrames_33 nf n_33 a1 v1 v2 v3 v7 nb f0 f13 f4 l1_33 l2_33 l3_33 g13_33 x2_33 x3_33 = some (o13, w2, w3) := by rw [hn_33, el1_33, el2_33, el3_33, eg13_33, ex2_33, ex3_33]; exact hsp
  replace hl : lv_has ls 4 [(3, .int l3_33), (2, .int l2_33), (0, .ref h0), (1, .int l1_33)] := by rw [el1_33, el2_33, el3_33]; exact hl
  replace hP : va_P (dC, dI) vwCl [(h0, .inr (3, [.ref qf0, .int v1, .int x2_33, .int x3_33, .ref qf4, .ref qf5, .ref qf6, .int v7, .int v8, .int v9, .int v10, .ref qf11, .int v12, .ref qf13])), (qf0, .inl (cf0, nb, .inl f0)), (qf13, .inl (cf13, 144, .inl g13_33)), (qf4, .inl (cf4, 256, .inl f4))] H := by rw [eg13_33, ex2_33, ex3_33]; exact hP
  replace hD : va_D A [(h0, .inr (3, [.ref qf0, .int v1, .int x2_33, .int x3_33, .ref qf4, .ref qf5, .ref qf6, .int v7, .int v8, .int v9, .int v10, .ref qf11, .int v12, .ref qf13])), (qf0, .inl (cf0, nb, .inl f0)), (qf13, .inl (cf13, 144, .inl g13_33)), (qf4, .inl (cf4, 256, .inl f4))] := by rw [eg13_33, ex2_33, ex3_33]; exact hD
  clear hn_33 el1_33 el2_33 el3_33 eg13_33 ex2_33 ex3_33
  try clear hlo
  try clear hH
  revert hsp
  revert hP
  revert hD
  revert hS
  revert hl
  revert x3_33
  revert x2_33
  revert g13_33
  revert l3_33
  revert l2_33
  revert l1_33
  revert ls
  revert locs
  revert H
  induction n_33 with
  | zero => intro H locs ls l1_33 l2_33 l3_33 g13_33 x2_33 x3_33 hl hS hD hP hsp; unfold lp_t3_readFrames_33 at hsp; cases hsp
  | succ n_33 ih_33 =>
    intro H locs ls l1_33 l2_33 l3_33 g13_33 x2_33 x3_33 hl hS hD hP hsp
    unfold lp_t3_readFrames_33 at hsp
    try dsimp only at hsp
    refine lv_iload_n hx hb dX3_readFrames_33 rfl (lv_at hl 0 rfl) ?_
    refine lv_iload_n hx hb dX3_readFrames_34 rfl (lv_at hl 1 rfl) ?_
    refine lv_icmp_ge (tgt := 65) hx hb dX3_readFrames_35 (by decide) (fun c_4 => ?_) (fun c_4 => ?_)
    · rw [if_pos c_4] at hsp
      have hr0 := Option.some.inj hsp
      clear hsp
      obtain ⟨hq0, hr1⟩ := Prod.mk.inj hr0
      clear hr0
      obtain ⟨hq1, hr2⟩ := Prod.mk.inj hr1
      clear hr1
      subst hq0
      subst hq1
      subst hr2
      have hP9 := hP.sub (ws' := [(h0, .inr (3, [.ref qf0, .int v1, .int x2_33, .int x3_33, .ref qf4, .ref qf5, .ref qf6, .int v7, .int v8, .int v9, .int v10, .ref qf11, .int v12, .ref qf13])), (qf0, .inl (cf0, nb, .inl f0)), (qf13, .inl (cf13, 144, .inl g13_33)), (qf4, .inl (cf4, 256, .inl f4))]) [0, 1, 2, 3] rfl
      have hD9 := hD.sub (ws' := [(h0, .inr (3, [.ref qf0, .int v1, .int x2_33, .int x3_33, .ref qf4, .ref qf5, .ref qf6, .int v7, .int v8, .int v9, .int v10, .ref qf11, .int v12, .ref qf13])), (qf0, .inl (cf0, nb, .inl f0)), (qf13, .inl (cf13, 144, .inl g13_33)), (qf4, .inl (cf4, 256, .inl f4))]) [0, 1, 2, 3] (by decide) rfl
      have hK9 := hK.sub (tys' := [(cf0, .byte), (cf13, .int), (cf4, .int)]) [0, 1, 2] rfl
      exact W.vret hx hb hr (fun t ht hW => ⟨⟨(), rfl, trivial, by rw [ht]; exact hP9, va_K.moved hW.alike hK9, hD9⟩, hS.F ht⟩) hS.2.2 dX3_readFrames_65
    · rw [if_neg c_4] at hsp
      refine lv_aload_n hx hb dX3_readFrames_38 rfl (lv_at hl 2 rfl) ?_
      refine va_get (D := (dC, dI)) (ci := 3) (v := .int x3_33) (C := RX3) (T := TX3) (N := 14) hx hb hts uV_h3_X3 hown hK hP 0 rfl rfl 3 (by decide) (hts (.fieldLink RX3 46 "ClassMill$Image" "form" "I") mw_h3_65) (fun _ h9 => h9) rfl dX3_readFrames_39 ?_
      refine lv_iconst (v := (-1)) hx hb dX3_readFrames_42 (by decide) ?_
      refine lv_icmp_ne (tgt := 65) hx hb dX3_readFrames_43 (by decide) (fun c_5 => ?_) (fun c_5 => ?_)
      · rw [if_neg c_5] at hsp
        have hr0 := Option.some.inj hsp
        clear hsp
        obtain ⟨hq0, hr1⟩ := Prod.mk.inj hr0
        clear hr0
        obtain ⟨hq1, hr2⟩ := Prod.mk.inj hr1
        clear hr1
        subst hq0
        subst hq1
        subst hr2
        have hP9 := hP.sub (ws' := [(h0, .inr (3, [.ref qf0, .int v1, .int x2_33, .int x3_33, .ref qf4, .ref qf5, .ref qf6, .int v7, .int v8, .int v9, .int v10, .ref qf11, .int v12, .ref qf13])), (qf0, .inl (cf0, nb, .inl f0)), (qf13, .inl (cf13, 144, .inl g13_33)), (qf4, .inl (cf4, 256, .inl f4))]) [0, 1, 2, 3] rfl
        have hD9 := hD.sub (ws' := [(h0, .inr (3, [.ref qf0, .int v1, .int x2_33, .int x3_33, .ref qf4, .ref qf5, .ref qf6, .int v7, .int v8, .int v9, .int v10, .ref qf11, .int v12, .ref qf13])), (qf0, .inl (cf0, nb, .inl f0)), (qf13, .inl (cf13, 144, .inl g13_33)), (qf4, .inl (cf4, 256, .inl f4))]) [0, 1, 2, 3] (by decide) rfl
        have hK9 := hK.sub (tys' := [(cf0, .byte), (cf13, .int), (cf4, .int)]) [0, 1, 2] rfl
        exact W.vret hx hb hr (fun t ht hW => ⟨⟨(), rfl, trivial, by rw [ht]; exact hP9, va_K.moved hW.alike hK9, hD9⟩, hS.F ht⟩) hS.2.2 dX3_readFrames_65
      · rw [if_pos c_5] at hsp
        refine lv_aload_n hx hb dX3_readFrames_46 rfl (lv_at hl 2 rfl) ?_
        refine lv_iconst (v := 1) hx hb dX3_readFrames_47 (by decide) ?_
        obtain ⟨⟨u2_0, u2_1⟩, hu_2, hsp⟩ := ox_bind hsp
        try dsimp only at hsp
        have hPc := hP.sub (ws' := [(h0, .inr (3, [.ref qf0, .int v1, .int x2_33, .int x3_33, .ref qf4, .ref qf5, .ref qf6, .int v7, .int v8, .int v9, .int v10, .ref qf11, .int v12, .ref qf13])), (qf0, .inl (cf0, nb, .inl f0))]) [0, 1] rfl
        have hDc := hD.sub (ws' := [(h0, .inr (3, [.ref qf0, .int v1, .int x2_33, .int x3_33, .ref qf4, .ref qf5, .ref qf6, .int v7, .int v8, .int v9, .int v10, .ref qf11, .int v12, .ref qf13])), (qf0, .inl (cf0, nb, .inl f0))]) [0, 1] (by decide) rfl
        have hKc := hK.sub (tys' := [(cf0, .byte)]) [0] rfl
        have hFc := va_free (wc := [(h0, .inr (3, [.ref qf0, .int v1, .int x2_33, .int x3_33, .ref qf4, .ref qf5, .ref qf6, .int v7, .int v8, .int v9, .int v10, .ref qf11, .int v12, .ref qf13])), (qf0, .inl (cf0, nb, .inl f0))]) hD hS hA [0, 1] rfl
        refine va_callv (va_runV (As := [.int 1]) (rest := []) ⟨hx, hb, hml, hown, hts⟩ (ti_skipPairs l dC dI H.size h0 1 qf0 v1 x2_33 x3_33 qf4 qf5 qf6 v7 v8 v9 v10 qf11 v12 qf13 cf0 nb f0 nf u2_0 u2_1 hu_2) (cwV 1 hts gv_h3_11 rfl rfl rfl (by decide +kernel) ⟨Nat.le_of_ble_eq_true rfl, Nat.le_of_ble_eq_true rfl⟩) ⟨fun a U g mk q => by obtain ⟨q0, q1, qP, qK, qD⟩ := q; exact ⟨q0, q1, qP, va_K.moved (u := U) (U := U.calling g mk a) (Vm.Alike.refl U.vm) qK, qD⟩, va_recv hKc hPc (ci := 3) (q0 := 0) rfl rfl, fun U hU hW => ⟨rfl, by rw [hU], by rw [hU]; exact hPc, va_K.moved hW.alike hKc, hDc.weaken (fun _ _ _ _ => trivial)⟩⟩ rfl rfl hl.1 rfl (lv_room (Nat.le_of_ble_eq_true rfl)) dX3_readFrames_48 ⟨Nat.le_of_ble_eq_true rfl, Nat.le_of_ble_eq_true rfl⟩) hS (fun q _ h => hFc q h) hFc ?_
        clear hS
        intro u t H1 locs ht hvm hw hB hz1 hk1 hS
        obtain ⟨⟩ := u
        obtain ⟨hP1, hK1, hD1⟩ := hB
        rw [ht] at hP1
        have hK1 := va_K.moved hvm.symm hK1
        try dsimp only at hw
        have hPD := va_join (wr := [(qf13, .inl (cf13, 144, .inl g13_33)), (qf4, .inl (cf4, 256, .inl f4))]) (w1 := [(h0, .inr (3, [.ref qf0, .int v1, .int u2_0, .int u2_1, .ref qf4, .ref qf5, .ref qf6, .int v7, .int v8, .int v9, .int v10, .ref qf11, .int v12, .ref qf13])), (qf0, .inl (cf0, nb, .inl f0))]) hP hD [0, 1] [2, 3] rfl rfl (by decide) (by decide) hk1 hFc hP1 hD1
        clear hP hD
        obtain ⟨hP, hD⟩ := hPD
        replace hK := (hK.sub (tys' := [(cf13, .int), (cf4, .int)]) [1, 2] rfl).app hK1
        clear hPc hDc hKc hFc hP1 hK1 hD1 hz1 hk1 ht hvm
        generalize H1 = H at hP hS ⊢
        replace hP : va_P (dC, dI) vwCl [(qf13, .inl (cf13, 144, .inl g13_33)), (qf4, .inl (cf4, 256, .inl f4)), (h0, .inr (3, [.ref qf0, .int v1, .int u2_0, .int u2_1, .ref qf4, .ref qf5, .ref qf6, .int v7, .int v8, .int v9, .int v10, .ref qf11, .int v12, .ref qf13])), (qf0, .inl (cf0, nb, .inl f0))] H := hP
        replace hD : va_D A [(qf13, .inl (cf13, 144, .inl g13_33)), (qf4, .inl (cf4, 256, .inl f4)), (h0, .inr (3, [.ref qf0, .int v1, .int u2_0, .int u2_1, .ref qf4, .ref qf5, .ref qf6, .int v7, .int v8, .int v9, .int v10, .ref qf11, .int v12, .ref qf13])), (qf0, .inl (cf0, nb, .inl f0))] := hD
        replace hK : va_K (dC, dI) vwCl [(cf13, .int), (cf4, .int), (cf0, .byte)] s := hK
        refine lv_aload_n hx hb dX3_readFrames_51 rfl (lv_at hl 2 rfl) ?_
        obtain ⟨⟨u3_0, u3_1⟩, hu_3, hsp⟩ := ox_bind hsp
        try dsimp only at hsp
        have hPc := hP.sub (ws' := [(h0, .inr (3, [.ref qf0, .int v1, .int u2_0, .int u2_1, .ref qf4, .ref qf5, .ref qf6, .int v7, .int v8, .int v9, .int v10, .ref qf11, .int v12, .ref qf13])), (qf0, .inl (cf0, nb, .inl f0)), (qf4, .inl (cf4, 256, .inl f4))]) [2, 3, 1] rfl
        have hDc := hD.sub (ws' := [(h0, .inr (3, [.ref qf0, .int v1, .int u2_0, .int u2_1, .ref qf4, .ref qf5, .ref qf6, .int v7, .int v8, .int v9, .int v10, .ref qf11, .int v12, .ref qf13])), (qf0, .inl (cf0, nb, .inl f0)), (qf4, .inl (cf4, 256, .inl f4))]) [2, 3, 1] (by decide) rfl
        have hKc := hK.sub (tys' := [(cf0, .byte), (cf4, .int)]) [2, 1] rfl
        have hFc := va_free (wc := [(h0, .inr (3, [.ref qf0, .int v1, .int u2_0, .int u2_1, .ref qf4, .ref qf5, .ref qf6, .int v7, .int v8, .int v9, .int v10, .ref qf11, .int v12, .ref qf13])), (qf0, .inl (cf0, nb, .inl f0)), (qf4, .inl (cf4, 256, .inl f4))]) hD hS hA [2, 3, 1] rfl
        refine va_callv (va_runV (As := []) (rest := []) ⟨hx, hb, hml, hown, hts⟩ (t3_readFrameTypes l dC dI H.size h0 qf0 v1 u2_0 u2_1 qf4 qf5 qf6 v7 v8 v9 v10 qf11 v12 qf13 cf0 nb f0 cf4 f4 nf u3_0 u3_1 hu_3) (cwV 0 hts gv_h3_13 rfl rfl rfl (by decide +kernel) ⟨Nat.le_of_ble_eq_true rfl, Nat.le_of_ble_eq_true rfl⟩) ⟨fun a U g mk q => by obtain ⟨q0, q1, qP, qK, qD⟩ := q; exact ⟨q0, q1, qP, va_K.moved (u := U) (U := U.calling g mk a) (Vm.Alike.refl U.vm) qK, qD⟩, va_recv hKc hPc (ci := 3) (q0 := 0) rfl rfl, fun U hU hW => ⟨rfl, by rw [hU], by rw [hU]; exact hPc, va_K.moved hW.alike hKc, hDc.weaken (fun _ _ _ _ => trivial)⟩⟩ rfl rfl hl.1 rfl (lv_room (Nat.le_of_ble_eq_true rfl)) dX3_readFrames_52 ⟨Nat.le_of_ble_eq_true rfl, Nat.le_of_ble_eq_true rfl⟩) hS (fun q _ h => hFc q h) hFc ?_
        clear hS
        intro u t H1 locs ht hvm hw hB hz1 hk1 hS
        obtain ⟨⟩ := u
        obtain ⟨hP1, hK1, hD1⟩ := hB
        rw [ht] at hP1
        have hK1 := va_K.moved hvm.symm hK1
        try dsimp only at hw
        have hPD := va_join (wr := [(qf13, .inl (cf13, 144, .inl g13_33))]) (w1 := [(h0, .inr (3, [.ref qf0, .int v1, .int u3_0, .int u3_1, .ref qf4, .ref qf5, .ref qf6, .int v7, .int v8, .int v9, .int v10, .ref qf11, .int v12, .ref qf13])), (qf0, .inl (cf0, nb, .inl f0)), (qf4, .inl (cf4, 256, .inl f4))]) hP hD [2, 3, 1] [0] rfl rfl (by decide) (by decide) hk1 hFc hP1 hD1
        clear hP hD
        obtain ⟨hP, hD⟩ := hPD
        replace hK := (hK.sub (tys' := [(cf13, .int)]) [0] rfl).app hK1
        clear hPc hDc hKc hFc hP1 hK1 hD1 hz1 hk1 ht hvm
        generalize H1 = H at hP hS ⊢
        replace hP : va_P (dC, dI) vwCl [(qf13, .inl (cf13, 144, .inl g13_33)), (h0, .inr (3, [.ref qf0, .int v1, .int u3_0, .int u3_1, .ref qf4, .ref qf5, .ref qf6, .int v7, .int v8, .int v9, .int v10, .ref qf11, .int v12, .ref qf13])), (qf0, .inl (cf0, nb, .inl f0)), (qf4, .inl (cf4, 256, .inl f4))] H := hP
        replace hD : va_D A [(qf13, .inl (cf13, 144, .inl g13_33)), (h0, .inr (3, [.ref qf0, .int v1, .int u3_0, .int u3_1, .ref qf4, .ref qf5, .ref qf6, .int v7, .int v8, .int v9, .int v10, .ref qf11, .int v12, .ref qf13])), (qf0, .inl (cf0, nb, .inl f0)), (qf4, .inl (cf4, 256, .inl f4))] := hD
        replace hK : va_K (dC, dI) vwCl [(cf13, .int), (cf0, .byte), (cf4, .int)] s := hK
        refine lv_aload_n hx hb dX3_readFrames_55 rfl (lv_at hl 2 rfl) ?_
        obtain ⟨⟨u4_0, u4_1⟩, hu_4, hsp⟩ := ox_bind hsp
        try dsimp only at hsp
        have hPc := hP.sub (ws' := [(h0, .inr (3, [.ref qf0, .int v1, .int u3_0, .int u3_1, .ref qf4, .ref qf5, .ref qf6, .int v7, .int v8, .int v9, .int v10, .ref qf11, .int v12, .ref qf13])), (qf0, .inl (cf0, nb, .inl f0)), (qf4, .inl (cf4, 256, .inl f4))]) [1, 2, 3] rfl
        have hDc := hD.sub (ws' := [(h0, .inr (3, [.ref qf0, .int v1, .int u3_0, .int u3_1, .ref qf4, .ref qf5, .ref qf6, .int v7, .int v8, .int v9, .int v10, .ref qf11, .int v12, .ref qf13])), (qf0, .inl (cf0, nb, .inl f0)), (qf4, .inl (cf4, 256, .inl f4))]) [1, 2, 3] (by decide) rfl
        have hKc := hK.sub (tys' := [(cf0, .byte), (cf4, .int)]) [1, 2] rfl
        have hFc := va_free (wc := [(h0, .inr (3, [.ref qf0, .int v1, .int u3_0, .int u3_1, .ref qf4, .ref qf5, .ref qf6, .int v7, .int v8, .int v9, .int v10, .ref qf11, .int v12, .ref qf13])), (qf0, .inl (cf0, nb, .inl f0)), (qf4, .inl (cf4, 256, .inl f4))]) hD hS hA [1, 2, 3] rfl
        refine va_callv (va_runV (As := []) (rest := []) ⟨hx, hb, hml, hown, hts⟩ (t3_readFrameTypes l dC dI H.size h0 qf0 v1 u3_0 u3_1 qf4 qf5 qf6 v7 v8 v9 v10 qf11 v12 qf13 cf0 nb f0 cf4 f4 nf u4_0 u4_1 hu_4) (cwV 0 hts gv_h3_13 rfl rfl rfl (by decide +kernel) ⟨Nat.le_of_ble_eq_true rfl, Nat.le_of_ble_eq_true rfl⟩) ⟨fun a U g mk q => by obtain ⟨q0, q1, qP, qK, qD⟩ := q; exact ⟨q0, q1, qP, va_K.moved (u := U) (U := U.calling g mk a) (Vm.Alike.refl U.vm) qK, qD⟩, va_recv hKc hPc (ci := 3) (q0 := 0) rfl rfl, fun U hU hW => ⟨rfl, by rw [hU], by rw [hU]; exact hPc, va_K.moved hW.alike hKc, hDc.weaken (fun _ _ _ _ => trivial)⟩⟩ rfl rfl hl.1 rfl (lv_room (Nat.le_of_ble_eq_true rfl)) dX3_readFrames_56 ⟨Nat.le_of_ble_eq_true rfl, Nat.le_of_ble_eq_true rfl⟩) hS (fun q _ h => hFc q h) hFc ?_
        clear hS
        intro u t H1 locs ht hvm hw hB hz1 hk1 hS
        obtain ⟨⟩ := u
        obtain ⟨hP1, hK1, hD1⟩ := hB
        rw [ht] at hP1
        have hK1 := va_K.moved hvm.symm hK1
        try dsimp only at hw
        have hPD := va_join (wr := [(qf13, .inl (cf13, 144, .inl g13_33))]) (w1 := [(h0, .inr (3, [.ref qf0, .int v1, .int u4_0, .int u4_1, .ref qf4, .ref qf5, .ref qf6, .int v7, .int v8, .int v9, .int v10, .ref qf11, .int v12, .ref qf13])), (qf0, .inl (cf0, nb, .inl f0)), (qf4, .inl (cf4, 256, .inl f4))]) hP hD [1, 2, 3] [0] rfl rfl (by decide) (by decide) hk1 hFc hP1 hD1
        clear hP hD
        obtain ⟨hP, hD⟩ := hPD
        replace hK := (hK.sub (tys' := [(cf13, .int)]) [0] rfl).app hK1
        clear hPc hDc hKc hFc hP1 hK1 hD1 hz1 hk1 ht hvm
        generalize H1 = H at hP hS ⊢
        replace hP : va_P (dC, dI) vwCl [(qf13, .inl (cf13, 144, .inl g13_33)), (h0, .inr (3, [.ref qf0, .int v1, .int u4_0, .int u4_1, .ref qf4, .ref qf5, .ref qf6, .int v7, .int v8, .int v9, .int v10, .ref qf11, .int v12, .ref qf13])), (qf0, .inl (cf0, nb, .inl f0)), (qf4, .inl (cf4, 256, .inl f4))] H := hP
        replace hD : va_D A [(qf13, .inl (cf13, 144, .inl g13_33)), (h0, .inr (3, [.ref qf0, .int v1, .int u4_0, .int u4_1, .ref qf4, .ref qf5, .ref qf6, .int v7, .int v8, .int v9, .int v10, .ref qf11, .int v12, .ref qf13])), (qf0, .inl (cf0, nb, .inl f0)), (qf4, .inl (cf4, 256, .inl f4))] := hD
        replace hK : va_K (dC, dI) vwCl [(cf13, .int), (cf0, .byte), (cf4, .int)] s := hK
        refine lv_iinc (v := (l3_33 + 1)) (lv' := [(3, .int (l3_33 + 1)), (2, .int l2_33), (0, .ref h0), (1, .int l1_33)]) hx hb dX3_readFrames_59 hl (k := 0) rfl rfl (by decide) rfl (fun ls hl => ?_)
        refine lv_goto (tgt := 33) hx hb dX3_readFrames_62 (by decide) ?_
        exact ih_33 H locs ls l1_33 l2_33 (l3_33 + 1) g13_33 u4_0 u4_1 (lv_sub hl [0, 1, 2, 3] rfl) hS (hD.sub (ws' := [(h0, .inr (3, [.ref qf0, .int v1, .int u4_0, .int u4_1, .ref qf4, .ref qf5, .ref qf6, .int v7, .int v8, .int v9, .int v10, .ref qf11, .int v12, .ref qf13])), (qf0, .inl (cf0, nb, .inl f0)), (qf13, .inl (cf13, 144, .inl g13_33)), (qf4, .inl (cf4, 256, .inl f4))]) [1, 2, 0, 3] (by decide) rfl) (hP.sub (ws' := [(h0, .inr (3, [.ref qf0, .int v1, .int u4_0, .int u4_1, .ref qf4, .ref qf5, .ref qf6, .int v7, .int v8, .int v9, .int v10, .ref qf11, .int v12, .ref qf13])), (qf0, .inl (cf0, nb, .inl f0)), (qf13, .inl (cf13, 144, .inl g13_33)), (qf4, .inl (cf4, 256, .inl f4))]) [1, 2, 0, 3] rfl) hsp
def sp_t5_forget (nf : Nat)  : Option (Int32 × Int32 × Int32 × Int32 × Int32 × Int32 × Int32) := (some (0, (-1), 0, 0, 0, 0, 0))
set_option maxHeartbeats 4000000 in
set_option maxRecDepth 100000 in
/-- ClassMill$Machine.forget -/
theorem t5_forget (l : Launch) (dC : Nat → ClassId) (dI : Nat → Nat → Nat) (sz : Nat) (h0 : Nat) (qf0 : Nat) (v1 : Int32) (v2 : Int32) (v3 : Int32) (v4 : Int32) (v5 : Int32) (v6 : Int32) (v7 : Int32) (qf8 : Nat) (qf9 : Nat) (qf10 : Nat) (qf11 : Nat) (qf12 : Nat) (qf13 : Nat) (qf14 : Nat) (qf15 : Nat) (qf16 : Nat) (v17 : Int32) (qf18 : Nat) (v19 : Int32) (v20 : Int32) (nf : Nat) (w1 : Int32) (w2 : Int32) (w3 : Int32) (w4 : Int32) (w5 : Int32) (w6 : Int32) (w7 : Int32) (hsp : sp_t5_forget nf  = some (w1, w2, w3, w4, w5, w6, w7)) : Met l yX5_forget (.code yX5_forget cX5_forget 1 none :: VS_h3) ({ frames := 0, cells := 0, slots := 0, locals := 0 }) (va_Pc [.ref h0] (fun U => U.heap.size = sz ∧ va_P (dC, dI) vwCl [(h0, .inr (5, [.ref qf0, .int v1, .int v2, .int v3, .int v4, .int v5, .int v6, .int v7, .ref qf8, .ref qf9, .ref qf10, .ref qf11, .ref qf12, .ref qf13, .ref qf14, .ref qf15, .ref qf16, .int v17, .ref qf18, .int v19, .int v20]))] U.heap ∧ va_K (dC, dI) vwCl [] U ∧ va_D (fun _ => True) [(h0, .inr (5, [.ref qf0, .int v1, .int v2, .int v3, .int v4, .int v5, .int v6, .int v7, .ref qf8, .ref qf9, .ref qf10, .ref qf11, .ref qf12, .ref qf13, .ref qf14, .ref qf15, .ref qf16, .int v17, .ref qf18, .int v19, .int v20]))])) (va_Qv (fun (u : Unit) => match u with | () => True) (fun (u : Unit) (t : State) => match u with | () => va_P (dC, dI) vwCl [(h0, .inr (5, [.ref qf0, .int w1, .int w2, .int w3, .int w4, .int w5, .int w6, .int w7, .ref qf8, .ref qf9, .ref qf10, .ref qf11, .ref qf12, .ref qf13, .ref qf14, .ref qf15, .ref qf16, .int v17, .ref qf18, .int v19, .int v20]))] t.heap ∧ va_K (dC, dI) vwCl [] t ∧ va_D (va_A [(h0, .inr (5, [.ref qf0, .int v1, .int v2, .int v3, .int v4, .int v5, .int v6, .int v7, .ref qf8, .ref qf9, .ref qf10, .ref qf11, .ref qf12, .ref qf13, .ref qf14, .ref qf15, .ref qf16, .int v17, .ref qf18, .int v19, .int v20]))] sz) [(h0, .inr (5, [.ref qf0, .int w1, .int w2, .int w3, .int w4, .int w5, .int w6, .int w7, .ref qf8, .ref qf9, .ref qf10, .ref qf11, .ref qf12, .ref qf13, .ref qf14, .ref qf15, .ref qf16, .int v17, .ref qf18, .int v19, .int v20]))]) (va_A [(h0, .inr (5, [.ref qf0, .int v1, .int v2, .int v3, .int v4, .int v5, .int v6, .int v7, .ref qf8, .ref qf9, .ref qf10, .ref qf11, .ref qf12, .ref qf13, .ref qf14, .ref qf15, .ref qf16, .int v17, .ref qf18, .int v19, .int v20]))] sz)) 0 0 (va_A [(h0, .inr (5, [.ref qf0, .int v1, .int v2, .int v3, .int v4, .int v5, .int v6, .int v7, .ref qf8, .ref qf9, .ref qf10, .ref qf11, .ref qf12, .ref qf13, .ref qf14, .ref qf15, .ref qf16, .int v17, .ref qf18, .int v19, .int v20]))] sz) := by
  refine Met.ofW (cc := cX5_forget) (maxL := 1) (ret := none) (by decide) rfl ?_
  intro p e s m args below meth c s₁ B hml hv
  obtain ⟨rfl, hsz, hP, hK, hD0⟩ := hv
  have hx := B.exec
  have hb := B.bytes
  have hr := B.returns
  have hts := atoms_spec (ws := (.code yX5_forget cX5_forget 1 none :: VS_h3)) B.pre
  replace hts := fun w (h : w ∈ VS_h3) => hts w (List.mem_cons_of_mem _ h)
  have hown : s.vm.findClass RX5 = some m.cls := findClass_of_methodNamed B.named
  have hlocks := B.notSynchronized
  subst hsz
  have hD := hD0.self (sz := s.heap.size)
  generalize hAe : va_A [(h0, .inr (5, [.ref qf0, .int v1, .int v2, .int v3, .int v4, .int v5, .int v6, .int v7, .ref qf8, .ref qf9, .ref qf10, .ref qf11, .ref qf12, .ref qf13, .ref qf14, .ref qf15, .ref qf16, .int v17, .ref qf18, .int v19, .int v20]))] s.heap.size = A at hD  ⊢
  have hA : ∀ q : Nat, s.heap.size ≤ q → A q := fun q h => by rw [← hAe]; exact Or.inr h
  have hP : va_P (dC, dI) vwCl [(h0, .inr (5, [.ref qf0, .int v1, .int v2, .int v3, .int v4, .int v5, .int v6, .int v7, .ref qf8, .ref qf9, .ref qf10, .ref qf11, .ref qf12, .ref qf13, .ref qf14, .ref qf15, .ref qf16, .int v17, .ref qf18, .int v19, .int v20]))] s.heap := hP
  have hl := lv_entry ([.ref h0]) (n := 1) (Nat.le_of_ble_eq_true rfl)
  rw [lg_entry_eq]
  generalize (lg_sl ([.ref h0]) ++ List.replicate (1 - (lg_sl ([.ref h0])).length) Slot.unset).toArray = ls at hl ⊢
  have hl : lv_has ls 1 [(0, .ref h0)] := hl
  obtain ⟨H, hH⟩ : ∃ H : Heap, s.heap = H := ⟨_, rfl⟩
  rw [hH] at hP ⊢
  have hS : va_S A s.heap H [] := by rw [← hH]; exact va_S.rf
  obtain ⟨locs, hlo⟩ : ∃ locs : List Loc, locs = [] := ⟨_, rfl⟩
  rw [← hlo] at hS ⊢
  unfold sp_t5_forget at hsp
  refine lv_aload_n hx hb dX5_forget_0 rfl (lv_at hl 0 rfl) ?_
  refine lv_iconst (v := 0) hx hb dX5_forget_1 (by decide) ?_
  refine va_put (D := (dC, dI)) (ci := 5) (v := .int 0) (ty := .int) (C := RX5) (T := TX5) (N := 21) hx hb hts uV_h3_X5 tyX5 tyX5_ok nmX5 hown hK hP hD hS 0 rfl rfl 1 (by decide) (hts (.fieldLink RX5 54 "ClassMill$Machine" "state" "I") mw_h3_73) (fun _ h9 => h9) rfl (by decide +kernel) rfl rfl (Nat.le_of_ble_eq_true rfl) dX5_forget_2 ?_
  clear hP hD hS
  intro H locs hP hD hS
  replace hP : va_P (dC, dI) vwCl [(h0, .inr (5, [.ref qf0, .int 0, .int v2, .int v3, .int v4, .int v5, .int v6, .int v7, .ref qf8, .ref qf9, .ref qf10, .ref qf11, .ref qf12, .ref qf13, .ref qf14, .ref qf15, .ref qf16, .int v17, .ref qf18, .int v19, .int v20]))] H := hP
  replace hD : va_D A [(h0, .inr (5, [.ref qf0, .int 0, .int v2, .int v3, .int v4, .int v5, .int v6, .int v7, .ref qf8, .ref qf9, .ref qf10, .ref qf11, .ref qf12, .ref qf13, .ref qf14, .ref qf15, .ref qf16, .int v17, .ref qf18, .int v19, .int v20]))] := hD
  refine lv_aload_n hx hb dX5_forget_5 rfl (lv_at hl 0 rfl) ?_
  refine lv_iconst (v := (-1)) hx hb dX5_forget_6 (by decide) ?_
  refine va_put (D := (dC, dI)) (ci := 5) (v := .int (-1)) (ty := .int) (C := RX5) (T := TX5) (N := 21) hx hb hts uV_h3_X5 tyX5 tyX5_ok nmX5 hown hK hP hD hS 0 rfl rfl 2 (by decide) (hts (.fieldLink RX5 50 "ClassMill$Machine" "gave" "I") mw_h3_74) (fun _ h9 => h9) rfl (by decide +kernel) rfl rfl (Nat.le_of_ble_eq_true rfl) dX5_forget_7 ?_
  clear hP hD hS
  intro H locs hP hD hS
  replace hP : va_P (dC, dI) vwCl [(h0, .inr (5, [.ref qf0, .int 0, .int (-1), .int v3, .int v4, .int v5, .int v6, .int v7, .ref qf8, .ref qf9, .ref qf10, .ref qf11, .ref qf12, .ref qf13, .ref qf14, .ref qf15, .ref qf16, .int v17, .ref qf18, .int v19, .int v20]))] H := hP
  replace hD : va_D A [(h0, .inr (5, [.ref qf0, .int 0, .int (-1), .int v3, .int v4, .int v5, .int v6, .int v7, .ref qf8, .ref qf9, .ref qf10, .ref qf11, .ref qf12, .ref qf13, .ref qf14, .ref qf15, .ref qf16, .int v17, .ref qf18, .int v19, .int v20]))] := hD
  refine lv_aload_n hx hb dX5_forget_10 rfl (lv_at hl 0 rfl) ?_
  refine lv_iconst (v := 0) hx hb dX5_forget_11 (by decide) ?_
  refine va_put (D := (dC, dI)) (ci := 5) (v := .int 0) (ty := .int) (C := RX5) (T := TX5) (N := 21) hx hb hts uV_h3_X5 tyX5 tyX5_ok nmX5 hown hK hP hD hS 0 rfl rfl 3 (by decide) (hts (.fieldLink RX5 57 "ClassMill$Machine" "steps" "I") mw_h3_75) (fun _ h9 => h9) rfl (by decide +kernel) rfl rfl (Nat.le_of_ble_eq_true rfl) dX5_forget_12 ?_
  clear hP hD hS
  intro H locs hP hD hS
  replace hP : va_P (dC, dI) vwCl [(h0, .inr (5, [.ref qf0, .int 0, .int (-1), .int 0, .int v4, .int v5, .int v6, .int v7, .ref qf8, .ref qf9, .ref qf10, .ref qf11, .ref qf12, .ref qf13, .ref qf14, .ref qf15, .ref qf16, .int v17, .ref qf18, .int v19, .int v20]))] H := hP
  replace hD : va_D A [(h0, .inr (5, [.ref qf0, .int 0, .int (-1), .int 0, .int v4, .int v5, .int v6, .int v7, .ref qf8, .ref qf9, .ref qf10, .ref qf11, .ref qf12, .ref qf13, .ref qf14, .ref qf15, .ref qf16, .int v17, .ref qf18, .int v19, .int v20]))] := hD
  refine lv_aload_n hx hb dX5_forget_15 rfl (lv_at hl 0 rfl) ?_
  refine lv_iconst (v := 0) hx hb dX5_forget_16 (by decide) ?_
  refine va_put (D := (dC, dI)) (ci := 5) (v := .int 0) (ty := .int) (C := RX5) (T := TX5) (N := 21) hx hb hts uV_h3_X5 tyX5 tyX5_ok nmX5 hown hK hP hD hS 0 rfl rfl 4 (by decide) (hts (.fieldLink RX5 60 "ClassMill$Machine" "objects" "I") mw_h3_76) (fun _ h9 => h9) rfl (by decide +kernel) rfl rfl (Nat.le_of_ble_eq_true rfl) dX5_forget_17 ?_
  clear hP hD hS
  intro H locs hP hD hS
  replace hP : va_P (dC, dI) vwCl [(h0, .inr (5, [.ref qf0, .int 0, .int (-1), .int 0, .int 0, .int v5, .int v6, .int v7, .ref qf8, .ref qf9, .ref qf10, .ref qf11, .ref qf12, .ref qf13, .ref qf14, .ref qf15, .ref qf16, .int v17, .ref qf18, .int v19, .int v20]))] H := hP
  replace hD : va_D A [(h0, .inr (5, [.ref qf0, .int 0, .int (-1), .int 0, .int 0, .int v5, .int v6, .int v7, .ref qf8, .ref qf9, .ref qf10, .ref qf11, .ref qf12, .ref qf13, .ref qf14, .ref qf15, .ref qf16, .int v17, .ref qf18, .int v19, .int v20]))] := hD
  refine lv_aload_n hx hb dX5_forget_20 rfl (lv_at hl 0 rfl) ?_
  refine lv_iconst (v := 0) hx hb dX5_forget_21 (by decide) ?_
  refine va_put (D := (dC, dI)) (ci := 5) (v := .int 0) (ty := .int) (C := RX5) (T := TX5) (N := 21) hx hb hts uV_h3_X5 tyX5 tyX5_ok nmX5 hown hK hP hD hS 0 rfl rfl 5 (by decide) (hts (.fieldLink RX5 63 "ClassMill$Machine" "cells" "I") mw_h3_77) (fun _ h9 => h9) rfl (by decide +kernel) rfl rfl (Nat.le_of_ble_eq_true rfl) dX5_forget_22 ?_
  clear hP hD hS
  intro H locs hP hD hS
  replace hP : va_P (dC, dI) vwCl [(h0, .inr (5, [.ref qf0, .int 0, .int (-1), .int 0, .int 0, .int 0, .int v6, .int v7, .ref qf8, .ref qf9, .ref qf10, .ref qf11, .ref qf12, .ref qf13, .ref qf14, .ref qf15, .ref qf16, .int v17, .ref qf18, .int v19, .int v20]))] H := hP
  replace hD : va_D A [(h0, .inr (5, [.ref qf0, .int 0, .int (-1), .int 0, .int 0, .int 0, .int v6, .int v7, .ref qf8, .ref qf9, .ref qf10, .ref qf11, .ref qf12, .ref qf13, .ref qf14, .ref qf15, .ref qf16, .int v17, .ref qf18, .int v19, .int v20]))] := hD
  refine lv_aload_n hx hb dX5_forget_25 rfl (lv_at hl 0 rfl) ?_
  refine lv_iconst (v := 0) hx hb dX5_forget_26 (by decide) ?_
  refine va_put (D := (dC, dI)) (ci := 5) (v := .int 0) (ty := .int) (C := RX5) (T := TX5) (N := 21) hx hb hts uV_h3_X5 tyX5 tyX5_ok nmX5 hown hK hP hD hS 0 rfl rfl 6 (by decide) (hts (.fieldLink RX5 66 "ClassMill$Machine" "depth" "I") mw_h3_78) (fun _ h9 => h9) rfl (by decide +kernel) rfl rfl (Nat.le_of_ble_eq_true rfl) dX5_forget_27 ?_
  clear hP hD hS
  intro H locs hP hD hS
  replace hP : va_P (dC, dI) vwCl [(h0, .inr (5, [.ref qf0, .int 0, .int (-1), .int 0, .int 0, .int 0, .int 0, .int v7, .ref qf8, .ref qf9, .ref qf10, .ref qf11, .ref qf12, .ref qf13, .ref qf14, .ref qf15, .ref qf16, .int v17, .ref qf18, .int v19, .int v20]))] H := hP
  replace hD : va_D A [(h0, .inr (5, [.ref qf0, .int 0, .int (-1), .int 0, .int 0, .int 0, .int 0, .int v7, .ref qf8, .ref qf9, .ref qf10, .ref qf11, .ref qf12, .ref qf13, .ref qf14, .ref qf15, .ref qf16, .int v17, .ref qf18, .int v19, .int v20]))] := hD
  refine lv_aload_n hx hb dX5_forget_30 rfl (lv_at hl 0 rfl) ?_
  refine lv_iconst (v := 0) hx hb dX5_forget_31 (by decide) ?_
  refine va_put (D := (dC, dI)) (ci := 5) (v := .int 0) (ty := .int) (C := RX5) (T := TX5) (N := 21) hx hb hts uV_h3_X5 tyX5 tyX5_ok nmX5 hown hK hP hD hS 0 rfl rfl 7 (by decide) (hts (.fieldLink RX5 69 "ClassMill$Machine" "prints" "I") mw_h3_79) (fun _ h9 => h9) rfl (by decide +kernel) rfl rfl (Nat.le_of_ble_eq_true rfl) dX5_forget_32 ?_
  clear hP hD hS
  intro H locs hP hD hS
  replace hP : va_P (dC, dI) vwCl [(h0, .inr (5, [.ref qf0, .int 0, .int (-1), .int 0, .int 0, .int 0, .int 0, .int 0, .ref qf8, .ref qf9, .ref qf10, .ref qf11, .ref qf12, .ref qf13, .ref qf14, .ref qf15, .ref qf16, .int v17, .ref qf18, .int v19, .int v20]))] H := hP
  replace hD : va_D A [(h0, .inr (5, [.ref qf0, .int 0, .int (-1), .int 0, .int 0, .int 0, .int 0, .int 0, .ref qf8, .ref qf9, .ref qf10, .ref qf11, .ref qf12, .ref qf13, .ref qf14, .ref qf15, .ref qf16, .int v17, .ref qf18, .int v19, .int v20]))] := hD
  have hr0 := Option.some.inj hsp
  clear hsp
  obtain ⟨hq0, hr1⟩ := Prod.mk.inj hr0
  clear hr0
  obtain ⟨hq1, hr2⟩ := Prod.mk.inj hr1
  clear hr1
  obtain ⟨hq2, hr3⟩ := Prod.mk.inj hr2
  clear hr2
  obtain ⟨hq3, hr4⟩ := Prod.mk.inj hr3
  clear hr3
  obtain ⟨hq4, hr5⟩ := Prod.mk.inj hr4
  clear hr4
  obtain ⟨hq5, hr6⟩ := Prod.mk.inj hr5
  clear hr5
  subst hq0
  subst hq1
  subst hq2
  subst hq3
  subst hq4
  subst hq5
  subst hr6
  have hP9 := hP.sub (ws' := [(h0, .inr (5, [.ref qf0, .int 0, .int (-1), .int 0, .int 0, .int 0, .int 0, .int 0, .ref qf8, .ref qf9, .ref qf10, .ref qf11, .ref qf12, .ref qf13, .ref qf14, .ref qf15, .ref qf16, .int v17, .ref qf18, .int v19, .int v20]))]) [0] rfl
  have hD9 := hD.sub (ws' := [(h0, .inr (5, [.ref qf0, .int 0, .int (-1), .int 0, .int 0, .int 0, .int 0, .int 0, .ref qf8, .ref qf9, .ref qf10, .ref qf11, .ref qf12, .ref qf13, .ref qf14, .ref qf15, .ref qf16, .int v17, .ref qf18, .int v19, .int v20]))]) [0] (by decide) rfl
  have hK9 := hK.sub (tys' := []) [] rfl
  exact W.vret hx hb hr (fun t ht hW => ⟨⟨(), rfl, trivial, by rw [ht]; exact hP9, va_K.moved hW.alike hK9, hD9⟩, hS.F ht⟩) hS.2.2 dX5_forget_35
def sp_t5_tell (nf : Nat) (a1 : Int32) (v1 : Int32) (v2 : Int32) (v3 : Int32) (v4 : Int32) (v5 : Int32) (v6 : Int32) (v7 : Int32) : Option (Int32) := (if a1 = 0 then (some v1) else (if a1 = 1 then (some v2) else (if a1 = 2 then (some v3) else (if a1 = 3 then (some v4) else (if a1 = 4 then (some v5) else (if a1 = 5 then (some v6) else (if a1 = 6 then (some v7) else (some (-1)))))))))
set_option maxHeartbeats 4000000 in
set_option maxRecDepth 100000 in
/-- ClassMill$Machine.tell -/
theorem t5_tell (l : Launch) (dC : Nat → ClassId) (dI : Nat → Nat → Nat) (sz : Nat) (h0 : Nat) (a1 : Int32) (qf0 : Nat) (v1 : Int32) (v2 : Int32) (v3 : Int32) (v4 : Int32) (v5 : Int32) (v6 : Int32) (v7 : Int32) (qf8 : Nat) (qf9 : Nat) (qf10 : Nat) (qf11 : Nat) (qf12 : Nat) (qf13 : Nat) (qf14 : Nat) (qf15 : Nat) (qf16 : Nat) (v17 : Int32) (qf18 : Nat) (v19 : Int32) (v20 : Int32) (nf : Nat) (r0 : Int32) (hsp : sp_t5_tell nf a1 v1 v2 v3 v4 v5 v6 v7 = some r0) : Met l yX5_tell (.code yX5_tell cX5_tell 2 (some .int) :: VS_h3) ({ frames := 0, cells := 0, slots := 0, locals := 0 }) (va_Pc [.ref h0, .int a1] (fun U => U.heap.size = sz ∧ va_P (dC, dI) vwCl [(h0, .inr (5, [.ref qf0, .int v1, .int v2, .int v3, .int v4, .int v5, .int v6, .int v7, .ref qf8, .ref qf9, .ref qf10, .ref qf11, .ref qf12, .ref qf13, .ref qf14, .ref qf15, .ref qf16, .int v17, .ref qf18, .int v19, .int v20]))] U.heap ∧ va_K (dC, dI) vwCl [] U ∧ va_D (fun _ => True) [(h0, .inr (5, [.ref qf0, .int v1, .int v2, .int v3, .int v4, .int v5, .int v6, .int v7, .ref qf8, .ref qf9, .ref qf10, .ref qf11, .ref qf12, .ref qf13, .ref qf14, .ref qf15, .ref qf16, .int v17, .ref qf18, .int v19, .int v20]))])) (va_Qi (fun (r : Int32) (u : Unit) => match u with | () => r0 = r) (fun (u : Unit) (t : State) => match u with | () => va_P (dC, dI) vwCl [(h0, .inr (5, [.ref qf0, .int v1, .int v2, .int v3, .int v4, .int v5, .int v6, .int v7, .ref qf8, .ref qf9, .ref qf10, .ref qf11, .ref qf12, .ref qf13, .ref qf14, .ref qf15, .ref qf16, .int v17, .ref qf18, .int v19, .int v20]))] t.heap ∧ va_K (dC, dI) vwCl [] t ∧ va_D (va_A [(h0, .inr (5, [.ref qf0, .int v1, .int v2, .int v3, .int v4, .int v5, .int v6, .int v7, .ref qf8, .ref qf9, .ref qf10, .ref qf11, .ref qf12, .ref qf13, .ref qf14, .ref qf15, .ref qf16, .int v17, .ref qf18, .int v19, .int v20]))] sz) [(h0, .inr (5, [.ref qf0, .int v1, .int v2, .int v3, .int v4, .int v5, .int v6, .int v7, .ref qf8, .ref qf9, .ref qf10, .ref qf11, .ref qf12, .ref qf13, .ref qf14, .ref qf15, .ref qf16, .int v17, .ref qf18, .int v19, .int v20]))]) (va_A [(h0, .inr (5, [.ref qf0, .int v1, .int v2, .int v3, .int v4, .int v5, .int v6, .int v7, .ref qf8, .ref qf9, .ref qf10, .ref qf11, .ref qf12, .ref qf13, .ref qf14, .ref qf15, .ref qf16, .int v17, .ref qf18, .int v19, .int v20]))] sz)) 0 0 (va_A [(h0, .inr (5, [.ref qf0, .int v1, .int v2, .int v3, .int v4, .int v5, .int v6, .int v7, .ref qf8, .ref qf9, .ref qf10, .ref qf11, .ref qf12, .ref qf13, .ref qf14, .ref qf15, .ref qf16, .int v17, .ref qf18, .int v19, .int v20]))] sz) := by
  refine Met.ofW (cc := cX5_tell) (maxL := 2) (ret := (some .int)) (by decide) rfl ?_
  intro p e s m args below meth c s₁ B hml hv
  obtain ⟨rfl, hsz, hP, hK, hD0⟩ := hv
  have hx := B.exec
  have hb := B.bytes
  have hr := B.returns
  have hts := atoms_spec (ws := (.code yX5_tell cX5_tell 2 (some .int) :: VS_h3)) B.pre
  replace hts := fun w (h : w ∈ VS_h3) => hts w (List.mem_cons_of_mem _ h)
  have hown : s.vm.findClass RX5 = some m.cls := findClass_of_methodNamed B.named
  have hlocks := B.notSynchronized
  subst hsz
  have hD := hD0.self (sz := s.heap.size)
  generalize hAe : va_A [(h0, .inr (5, [.ref qf0, .int v1, .int v2, .int v3, .int v4, .int v5, .int v6, .int v7, .ref qf8, .ref qf9, .ref qf10, .ref qf11, .ref qf12, .ref qf13, .ref qf14, .ref qf15, .ref qf16, .int v17, .ref qf18, .int v19, .int v20]))] s.heap.size = A at hD  ⊢
  have hA : ∀ q : Nat, s.heap.size ≤ q → A q := fun q h => by rw [← hAe]; exact Or.inr h
  have hP : va_P (dC, dI) vwCl [(h0, .inr (5, [.ref qf0, .int v1, .int v2, .int v3, .int v4, .int v5, .int v6, .int v7, .ref qf8, .ref qf9, .ref qf10, .ref qf11, .ref qf12, .ref qf13, .ref qf14, .ref qf15, .ref qf16, .int v17, .ref qf18, .int v19, .int v20]))] s.heap := hP
  have hl := lv_entry ([.ref h0, .int a1]) (n := 2) (Nat.le_of_ble_eq_true rfl)
  rw [lg_entry_eq]
  generalize (lg_sl ([.ref h0, .int a1]) ++ List.replicate (2 - (lg_sl ([.ref h0, .int a1])).length) Slot.unset).toArray = ls at hl ⊢
  have hl : lv_has ls 2 [(0, .ref h0), (1, .int a1)] := hl
  obtain ⟨H, hH⟩ : ∃ H : Heap, s.heap = H := ⟨_, rfl⟩
  rw [hH] at hP ⊢
  have hS : va_S A s.heap H [] := by rw [← hH]; exact va_S.rf
  obtain ⟨locs, hlo⟩ : ∃ locs : List Loc, locs = [] := ⟨_, rfl⟩
  rw [← hlo] at hS ⊢
  unfold sp_t5_tell at hsp
  refine lv_iload_n hx hb dX5_tell_0 rfl (lv_at hl 1 rfl) ?_
  by_cases hs_1 : a1 = 0
  · rw [if_pos hs_1] at hsp
    refine lv_tableIn (tgt := 44) hx hb dX5_tell_1 (by rw [hs_1]; decide) (by rw [hs_1]; decide) (off := 43) (by rw [hs_1]; rfl) (by decide) ?_
    refine lv_aload_n hx hb dX5_tell_44 rfl (lv_at hl 0 rfl) ?_
    refine va_get (D := (dC, dI)) (ci := 5) (v := .int v1) (C := RX5) (T := TX5) (N := 21) hx hb hts uV_h3_X5 hown hK hP 0 rfl rfl 1 (by decide) (hts (.fieldLink RX5 54 "ClassMill$Machine" "state" "I") mw_h3_73) (fun _ h9 => h9) rfl dX5_tell_45 ?_
    have hr0 := Option.some.inj hsp
    clear hsp
    subst hr0
    have hP9 := hP.sub (ws' := [(h0, .inr (5, [.ref qf0, .int v1, .int v2, .int v3, .int v4, .int v5, .int v6, .int v7, .ref qf8, .ref qf9, .ref qf10, .ref qf11, .ref qf12, .ref qf13, .ref qf14, .ref qf15, .ref qf16, .int v17, .ref qf18, .int v19, .int v20]))]) [0] rfl
    have hD9 := hD.sub (ws' := [(h0, .inr (5, [.ref qf0, .int v1, .int v2, .int v3, .int v4, .int v5, .int v6, .int v7, .ref qf8, .ref qf9, .ref qf10, .ref qf11, .ref qf12, .ref qf13, .ref qf14, .ref qf15, .ref qf16, .int v17, .ref qf18, .int v19, .int v20]))]) [0] (by decide) rfl
    have hK9 := hK.sub (tys' := []) [] rfl
    exact W.iret hx hb hr (fun t ht hW => ⟨⟨(v1), (), rfl, rfl, by rw [ht]; exact hP9, va_K.moved hW.alike hK9, hD9⟩, hS.F ht⟩) hS.2.2 dX5_tell_48
  rw [if_neg hs_1] at hsp
  by_cases hs_2 : a1 = 1
  · rw [if_pos hs_2] at hsp
    refine lv_tableIn (tgt := 49) hx hb dX5_tell_1 (by rw [hs_2]; decide) (by rw [hs_2]; decide) (off := 48) (by rw [hs_2]; rfl) (by decide) ?_
    refine lv_aload_n hx hb dX5_tell_49 rfl (lv_at hl 0 rfl) ?_
    refine va_get (D := (dC, dI)) (ci := 5) (v := .int v2) (C := RX5) (T := TX5) (N := 21) hx hb hts uV_h3_X5 hown hK hP 0 rfl rfl 2 (by decide) (hts (.fieldLink RX5 50 "ClassMill$Machine" "gave" "I") mw_h3_74) (fun _ h9 => h9) rfl dX5_tell_50 ?_
    have hr0 := Option.some.inj hsp
    clear hsp
    subst hr0
    have hP9 := hP.sub (ws' := [(h0, .inr (5, [.ref qf0, .int v1, .int v2, .int v3, .int v4, .int v5, .int v6, .int v7, .ref qf8, .ref qf9, .ref qf10, .ref qf11, .ref qf12, .ref qf13, .ref qf14, .ref qf15, .ref qf16, .int v17, .ref qf18, .int v19, .int v20]))]) [0] rfl
    have hD9 := hD.sub (ws' := [(h0, .inr (5, [.ref qf0, .int v1, .int v2, .int v3, .int v4, .int v5, .int v6, .int v7, .ref qf8, .ref qf9, .ref qf10, .ref qf11, .ref qf12, .ref qf13, .ref qf14, .ref qf15, .ref qf16, .int v17, .ref qf18, .int v19, .int v20]))]) [0] (by decide) rfl
    have hK9 := hK.sub (tys' := []) [] rfl
    exact W.iret hx hb hr (fun t ht hW => ⟨⟨(v2), (), rfl, rfl, by rw [ht]; exact hP9, va_K.moved hW.alike hK9, hD9⟩, hS.F ht⟩) hS.2.2 dX5_tell_53
  rw [if_neg hs_2] at hsp
  by_cases hs_3 : a1 = 2
  · rw [if_pos hs_3] at hsp
    refine lv_tableIn (tgt := 54) hx hb dX5_tell_1 (by rw [hs_3]; decide) (by rw [hs_3]; decide) (off := 53) (by rw [hs_3]; rfl) (by decide) ?_
    refine lv_aload_n hx hb dX5_tell_54 rfl (lv_at hl 0 rfl) ?_
    refine va_get (D := (dC, dI)) (ci := 5) (v := .int v3) (C := RX5) (T := TX5) (N := 21) hx hb hts uV_h3_X5 hown hK hP 0 rfl rfl 3 (by decide) (hts (.fieldLink RX5 57 "ClassMill$Machine" "steps" "I") mw_h3_75) (fun _ h9 => h9) rfl dX5_tell_55 ?_
    have hr0 := Option.some.inj hsp
    clear hsp
    subst hr0
    have hP9 := hP.sub (ws' := [(h0, .inr (5, [.ref qf0, .int v1, .int v2, .int v3, .int v4, .int v5, .int v6, .int v7, .ref qf8, .ref qf9, .ref qf10, .ref qf11, .ref qf12, .ref qf13, .ref qf14, .ref qf15, .ref qf16, .int v17, .ref qf18, .int v19, .int v20]))]) [0] rfl
    have hD9 := hD.sub (ws' := [(h0, .inr (5, [.ref qf0, .int v1, .int v2, .int v3, .int v4, .int v5, .int v6, .int v7, .ref qf8, .ref qf9, .ref qf10, .ref qf11, .ref qf12, .ref qf13, .ref qf14, .ref qf15, .ref qf16, .int v17, .ref qf18, .int v19, .int v20]))]) [0] (by decide) rfl
    have hK9 := hK.sub (tys' := []) [] rfl
    exact W.iret hx hb hr (fun t ht hW => ⟨⟨(v3), (), rfl, rfl, by rw [ht]; exact hP9, va_K.moved hW.alike hK9, hD9⟩, hS.F ht⟩) hS.2.2 dX5_tell_58
  rw [if_neg hs_3] at hsp
  by_cases hs_4 : a1 = 3
  · rw [if_pos hs_4] at hsp
    refine lv_tableIn (tgt := 59) hx hb dX5_tell_1 (by rw [hs_4]; decide) (by rw [hs_4]; decide) (off := 58) (by rw [hs_4]; rfl) (by decide) ?_
    refine lv_aload_n hx hb dX5_tell_59 rfl (lv_at hl 0 rfl) ?_
    refine va_get (D := (dC, dI)) (ci := 5) (v := .int v4) (C := RX5) (T := TX5) (N := 21) hx hb hts uV_h3_X5 hown hK hP 0 rfl rfl 4 (by decide) (hts (.fieldLink RX5 60 "ClassMill$Machine" "objects" "I") mw_h3_76) (fun _ h9 => h9) rfl dX5_tell_60 ?_
    have hr0 := Option.some.inj hsp
    clear hsp
    subst hr0
    have hP9 := hP.sub (ws' := [(h0, .inr (5, [.ref qf0, .int v1, .int v2, .int v3, .int v4, .int v5, .int v6, .int v7, .ref qf8, .ref qf9, .ref qf10, .ref qf11, .ref qf12, .ref qf13, .ref qf14, .ref qf15, .ref qf16, .int v17, .ref qf18, .int v19, .int v20]))]) [0] rfl
    have hD9 := hD.sub (ws' := [(h0, .inr (5, [.ref qf0, .int v1, .int v2, .int v3, .int v4, .int v5, .int v6, .int v7, .ref qf8, .ref qf9, .ref qf10, .ref qf11, .ref qf12, .ref qf13, .ref qf14, .ref qf15, .ref qf16, .int v17, .ref qf18, .int v19, .int v20]))]) [0] (by decide) rfl
    have hK9 := hK.sub (tys' := []) [] rfl
    exact W.iret hx hb hr (fun t ht hW => ⟨⟨(v4), (), rfl, rfl, by rw [ht]; exact hP9, va_K.moved hW.alike hK9, hD9⟩, hS.F ht⟩) hS.2.2 dX5_tell_63
  rw [if_neg hs_4] at hsp
  by_cases hs_5 : a1 = 4
  · rw [if_pos hs_5] at hsp
    refine lv_tableIn (tgt := 64) hx hb dX5_tell_1 (by rw [hs_5]; decide) (by rw [hs_5]; decide) (off := 63) (by rw [hs_5]; rfl) (by decide) ?_
    refine lv_aload_n hx hb dX5_tell_64 rfl (lv_at hl 0 rfl) ?_
    refine va_get (D := (dC, dI)) (ci := 5) (v := .int v5) (C := RX5) (T := TX5) (N := 21) hx hb hts uV_h3_X5 hown hK hP 0 rfl rfl 5 (by decide) (hts (.fieldLink RX5 63 "ClassMill$Machine" "cells" "I") mw_h3_77) (fun _ h9 => h9) rfl dX5_tell_65 ?_
    have hr0 := Option.some.inj hsp
    clear hsp
    subst hr0
    have hP9 := hP.sub (ws' := [(h0, .inr (5, [.ref qf0, .int v1, .int v2, .int v3, .int v4, .int v5, .int v6, .int v7, .ref qf8, .ref qf9, .ref qf10, .ref qf11, .ref qf12, .ref qf13, .ref qf14, .ref qf15, .ref qf16, .int v17, .ref qf18, .int v19, .int v20]))]) [0] rfl
    have hD9 := hD.sub (ws' := [(h0, .inr (5, [.ref qf0, .int v1, .int v2, .int v3, .int v4, .int v5, .int v6, .int v7, .ref qf8, .ref qf9, .ref qf10, .ref qf11, .ref qf12, .ref qf13, .ref qf14, .ref qf15, .ref qf16, .int v17, .ref qf18, .int v19, .int v20]))]) [0] (by decide) rfl
    have hK9 := hK.sub (tys' := []) [] rfl
    exact W.iret hx hb hr (fun t ht hW => ⟨⟨(v5), (), rfl, rfl, by rw [ht]; exact hP9, va_K.moved hW.alike hK9, hD9⟩, hS.F ht⟩) hS.2.2 dX5_tell_68
  rw [if_neg hs_5] at hsp
  by_cases hs_6 : a1 = 5
  · rw [if_pos hs_6] at hsp
    refine lv_tableIn (tgt := 69) hx hb dX5_tell_1 (by rw [hs_6]; decide) (by rw [hs_6]; decide) (off := 68) (by rw [hs_6]; rfl) (by decide) ?_
    refine lv_aload_n hx hb dX5_tell_69 rfl (lv_at hl 0 rfl) ?_
    refine va_get (D := (dC, dI)) (ci := 5) (v := .int v6) (C := RX5) (T := TX5) (N := 21) hx hb hts uV_h3_X5 hown hK hP 0 rfl rfl 6 (by decide) (hts (.fieldLink RX5 66 "ClassMill$Machine" "depth" "I") mw_h3_78) (fun _ h9 => h9) rfl dX5_tell_70 ?_
    have hr0 := Option.some.inj hsp
    clear hsp
    subst hr0
    have hP9 := hP.sub (ws' := [(h0, .inr (5, [.ref qf0, .int v1, .int v2, .int v3, .int v4, .int v5, .int v6, .int v7, .ref qf8, .ref qf9, .ref qf10, .ref qf11, .ref qf12, .ref qf13, .ref qf14, .ref qf15, .ref qf16, .int v17, .ref qf18, .int v19, .int v20]))]) [0] rfl
    have hD9 := hD.sub (ws' := [(h0, .inr (5, [.ref qf0, .int v1, .int v2, .int v3, .int v4, .int v5, .int v6, .int v7, .ref qf8, .ref qf9, .ref qf10, .ref qf11, .ref qf12, .ref qf13, .ref qf14, .ref qf15, .ref qf16, .int v17, .ref qf18, .int v19, .int v20]))]) [0] (by decide) rfl
    have hK9 := hK.sub (tys' := []) [] rfl
    exact W.iret hx hb hr (fun t ht hW => ⟨⟨(v6), (), rfl, rfl, by rw [ht]; exact hP9, va_K.moved hW.alike hK9, hD9⟩, hS.F ht⟩) hS.2.2 dX5_tell_73
  rw [if_neg hs_6] at hsp
  by_cases hs_7 : a1 = 6
  · rw [if_pos hs_7] at hsp
    refine lv_tableIn (tgt := 74) hx hb dX5_tell_1 (by rw [hs_7]; decide) (by rw [hs_7]; decide) (off := 73) (by rw [hs_7]; rfl) (by decide) ?_
    refine lv_aload_n hx hb dX5_tell_74 rfl (lv_at hl 0 rfl) ?_
    refine va_get (D := (dC, dI)) (ci := 5) (v := .int v7) (C := RX5) (T := TX5) (N := 21) hx hb hts uV_h3_X5 hown hK hP 0 rfl rfl 7 (by decide) (hts (.fieldLink RX5 69 "ClassMill$Machine" "prints" "I") mw_h3_79) (fun _ h9 => h9) rfl dX5_tell_75 ?_
    have hr0 := Option.some.inj hsp
    clear hsp
    subst hr0
    have hP9 := hP.sub (ws' := [(h0, .inr (5, [.ref qf0, .int v1, .int v2, .int v3, .int v4, .int v5, .int v6, .int v7, .ref qf8, .ref qf9, .ref qf10, .ref qf11, .ref qf12, .ref qf13, .ref qf14, .ref qf15, .ref qf16, .int v17, .ref qf18, .int v19, .int v20]))]) [0] rfl
    have hD9 := hD.sub (ws' := [(h0, .inr (5, [.ref qf0, .int v1, .int v2, .int v3, .int v4, .int v5, .int v6, .int v7, .ref qf8, .ref qf9, .ref qf10, .ref qf11, .ref qf12, .ref qf13, .ref qf14, .ref qf15, .ref qf16, .int v17, .ref qf18, .int v19, .int v20]))]) [0] (by decide) rfl
    have hK9 := hK.sub (tys' := []) [] rfl
    exact W.iret hx hb hr (fun t ht hW => ⟨⟨(v7), (), rfl, rfl, by rw [ht]; exact hP9, va_K.moved hW.alike hK9, hD9⟩, hS.F ht⟩) hS.2.2 dX5_tell_78
  rw [if_neg hs_7] at hsp
  refine lv_tableOut (tgt := 79) hx hb dX5_tell_1 (by have a0 := lv_neT hs_1 (a := 0) rfl; have a1 := lv_neT hs_2 (a := 1) rfl; have a2 := lv_neT hs_3 (a := 2) rfl; have a3 := lv_neT hs_4 (a := 3) rfl; have a4 := lv_neT hs_5 (a := 4) rfl; have a5 := lv_neT hs_6 (a := 5) rfl; have a6 := lv_neT hs_7 (a := 6) rfl; omega) (by decide) ?_
  refine lv_iconst (v := (-1)) hx hb dX5_tell_79 (by decide) ?_
  have hr0 := Option.some.inj hsp
  clear hsp
  subst hr0
  have hP9 := hP.sub (ws' := [(h0, .inr (5, [.ref qf0, .int v1, .int v2, .int v3, .int v4, .int v5, .int v6, .int v7, .ref qf8, .ref qf9, .ref qf10, .ref qf11, .ref qf12, .ref qf13, .ref qf14, .ref qf15, .ref qf16, .int v17, .ref qf18, .int v19, .int v20]))]) [0] rfl
  have hD9 := hD.sub (ws' := [(h0, .inr (5, [.ref qf0, .int v1, .int v2, .int v3, .int v4, .int v5, .int v6, .int v7, .ref qf8, .ref qf9, .ref qf10, .ref qf11, .ref qf12, .ref qf13, .ref qf14, .ref qf15, .ref qf16, .int v17, .ref qf18, .int v19, .int v20]))]) [0] (by decide) rfl
  have hK9 := hK.sub (tys' := []) [] rfl
  exact W.iret hx hb hr (fun t ht hW => ⟨⟨((-1)), (), rfl, rfl, by rw [ht]; exact hP9, va_K.moved hW.alike hK9, hD9⟩, hS.F ht⟩) hS.2.2 dX5_tell_80
def sp_t5_tellTop (nf : Nat) (a1 : Int32) (v1 : Int32) (v17 : Int32) (f12 : Nat → Int32) (f13 : Nat → Int32) (f14 : Nat → Int32) : Option (Int32) := (if v1 = 1 then (if a1 = 7 then (if v17 < 0 then none else if 60 ≤ (v17 : Int32).toNatClampNeg then none else (some (8 + ((f12 (v17 : Int32).toNatClampNeg) / 12)))) else (if a1 = 8 then (if v17 < 0 then none else if 60 ≤ (v17 : Int32).toNatClampNeg then none else (some ((f12 (v17 : Int32).toNatClampNeg) - (f12 (v17 : Int32).toNatClampNeg) / 12 * 12))) else (if a1 = 9 then (if v17 < 0 then none else if 60 ≤ (v17 : Int32).toNatClampNeg then none else (some (f13 (v17 : Int32).toNatClampNeg))) else (if a1 = 10 then (if v17 < 0 then none else if 60 ≤ (v17 : Int32).toNatClampNeg then none else (some (f14 (v17 : Int32).toNatClampNeg))) else (some (-1)))))) else (some (-1)))
