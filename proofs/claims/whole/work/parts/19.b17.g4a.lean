set_option maxHeartbeats 4000000 in
set_option maxRecDepth 100000 in
/-- ClassMill$Pool.writeConstant -/
theorem v6_writeConstant (l : Launch) (dC : Nat → ClassId) (dI : Nat → Nat → Nat) (sz : Nat) (h0 : Nat) (a1 : Int32) (qa2 : Nat) (a3 : Int32) (qf0 : Nat) (qf1 : Nat) (qf2 : Nat) (qf3 : Nat) (v4 : Int32) (v5 : Int32) (qf6 : Nat) (v7 : Int32) (cf2 : ClassId) (f2 : (Nat → Int32)) (cf3 : ClassId) (f3 : (Nat → Int32)) (qf0_0 : Nat) (qf0_1 : Nat) (qf0_2 : Nat) (v0_3 : Int32) (qf0_4 : Nat) (qf0_5 : Nat) (qf0_6 : Nat) (qf0_7 : Nat) (qf0_8 : Nat) (v0_9 : Int32) (v0_10 : Int32) (v0_11 : Int32) (v0_12 : Int32) (cf0_5 : ClassId) (f0_5 : (Nat → Int32)) (ca2 : ClassId) (na2 : Nat) (fa2 : (Nat → Int32)) (cf0_4 : ClassId) (f0_4 : (Nat → Int32)) (nf : Nat) (oa2 : (Nat → Int32)) (hsp : sp_v6_writeConstant nf a1 a3 f2 f3 v0_9 f0_5 na2 fa2 f0_4 = some oa2) : Met l yX6_writeConstant (.code yX6_writeConstant cX6_writeConstant 6 none :: VS_h7) ({ frames := 2, cells := 0, slots := 0, locals := 64 }) (va_Pc [.ref h0, .int a1, .ref qa2, .int a3] (fun U => U.heap.size = sz ∧ va_P (dC, dI) vwCl [(h0, .inr (6, [.ref qf0, .ref qf1, .ref qf2, .ref qf3, .int v4, .int v5, .ref qf6, .int v7])), (qf2, .inl (cf2, 201, .inl f2)), (qf3, .inl (cf3, 201, .inl f3)), (qf0, .inr (9, [.ref qf0_0, .ref qf0_1, .ref qf0_2, .int v0_3, .ref qf0_4, .ref qf0_5, .ref qf0_6, .ref qf0_7, .ref qf0_8, .int v0_9, .int v0_10, .int v0_11, .int v0_12])), (qf0_5, .inl (cf0_5, 1741, .inl f0_5)), (qa2, .inl (ca2, na2, .inl fa2)), (qf0_4, .inl (cf0_4, 6400, .inl f0_4))] U.heap ∧ va_K (dC, dI) vwCl [(cf2, .int), (cf3, .int), (cf0_5, .int), (ca2, .byte), (cf0_4, .byte)] U ∧ va_D (fun _ => True) [(h0, .inr (6, [.ref qf0, .ref qf1, .ref qf2, .ref qf3, .int v4, .int v5, .ref qf6, .int v7])), (qf2, .inl (cf2, 201, .inl f2)), (qf3, .inl (cf3, 201, .inl f3)), (qf0, .inr (9, [.ref qf0_0, .ref qf0_1, .ref qf0_2, .int v0_3, .ref qf0_4, .ref qf0_5, .ref qf0_6, .ref qf0_7, .ref qf0_8, .int v0_9, .int v0_10, .int v0_11, .int v0_12])), (qf0_5, .inl (cf0_5, 1741, .inl f0_5)), (qa2, .inl (ca2, na2, .inl fa2)), (qf0_4, .inl (cf0_4, 6400, .inl f0_4))])) (va_Qv (fun (u : Unit) => match u with | () => True) (fun (u : Unit) (t : State) => match u with | () => va_P (dC, dI) vwCl [(h0, .inr (6, [.ref qf0, .ref qf1, .ref qf2, .ref qf3, .int v4, .int v5, .ref qf6, .int v7])), (qf2, .inl (cf2, 201, .inl f2)), (qf3, .inl (cf3, 201, .inl f3)), (qf0, .inr (9, [.ref qf0_0, .ref qf0_1, .ref qf0_2, .int v0_3, .ref qf0_4, .ref qf0_5, .ref qf0_6, .ref qf0_7, .ref qf0_8, .int v0_9, .int v0_10, .int v0_11, .int v0_12])), (qf0_5, .inl (cf0_5, 1741, .inl f0_5)), (qa2, .inl (ca2, na2, .inl oa2)), (qf0_4, .inl (cf0_4, 6400, .inl f0_4))] t.heap ∧ va_K (dC, dI) vwCl [(cf2, .int), (cf3, .int), (cf0_5, .int), (ca2, .byte), (cf0_4, .byte)] t ∧ va_D (va_A [(h0, .inr (6, [.ref qf0, .ref qf1, .ref qf2, .ref qf3, .int v4, .int v5, .ref qf6, .int v7])), (qf2, .inl (cf2, 201, .inl f2)), (qf3, .inl (cf3, 201, .inl f3)), (qf0, .inr (9, [.ref qf0_0, .ref qf0_1, .ref qf0_2, .int v0_3, .ref qf0_4, .ref qf0_5, .ref qf0_6, .ref qf0_7, .ref qf0_8, .int v0_9, .int v0_10, .int v0_11, .int v0_12])), (qf0_5, .inl (cf0_5, 1741, .inl f0_5)), (qa2, .inl (ca2, na2, .inl fa2)), (qf0_4, .inl (cf0_4, 6400, .inl f0_4))] sz) [(h0, .inr (6, [.ref qf0, .ref qf1, .ref qf2, .ref qf3, .int v4, .int v5, .ref qf6, .int v7])), (qf2, .inl (cf2, 201, .inl f2)), (qf3, .inl (cf3, 201, .inl f3)), (qf0, .inr (9, [.ref qf0_0, .ref qf0_1, .ref qf0_2, .int v0_3, .ref qf0_4, .ref qf0_5, .ref qf0_6, .ref qf0_7, .ref qf0_8, .int v0_9, .int v0_10, .int v0_11, .int v0_12])), (qf0_5, .inl (cf0_5, 1741, .inl f0_5)), (qa2, .inl (ca2, na2, .inl oa2)), (qf0_4, .inl (cf0_4, 6400, .inl f0_4))]) (va_A [(h0, .inr (6, [.ref qf0, .ref qf1, .ref qf2, .ref qf3, .int v4, .int v5, .ref qf6, .int v7])), (qf2, .inl (cf2, 201, .inl f2)), (qf3, .inl (cf3, 201, .inl f3)), (qf0, .inr (9, [.ref qf0_0, .ref qf0_1, .ref qf0_2, .int v0_3, .ref qf0_4, .ref qf0_5, .ref qf0_6, .ref qf0_7, .ref qf0_8, .int v0_9, .int v0_10, .int v0_11, .int v0_12])), (qf0_5, .inl (cf0_5, 1741, .inl f0_5)), (qa2, .inl (ca2, na2, .inl fa2)), (qf0_4, .inl (cf0_4, 6400, .inl f0_4))] sz)) 0 0 (va_A [(h0, .inr (6, [.ref qf0, .ref qf1, .ref qf2, .ref qf3, .int v4, .int v5, .ref qf6, .int v7])), (qf2, .inl (cf2, 201, .inl f2)), (qf3, .inl (cf3, 201, .inl f3)), (qf0, .inr (9, [.ref qf0_0, .ref qf0_1, .ref qf0_2, .int v0_3, .ref qf0_4, .ref qf0_5, .ref qf0_6, .ref qf0_7, .ref qf0_8, .int v0_9, .int v0_10, .int v0_11, .int v0_12])), (qf0_5, .inl (cf0_5, 1741, .inl f0_5)), (qa2, .inl (ca2, na2, .inl fa2)), (qf0_4, .inl (cf0_4, 6400, .inl f0_4))] sz) := by
  refine Met.ofW (cc := cX6_writeConstant) (maxL := 6) (ret := none) (by decide) rfl ?_
  intro p e s m args below meth c s₁ B hml hv
  obtain ⟨rfl, hsz, hP, hK, hD0⟩ := hv
  have hx := B.exec
  have hb := B.bytes
  have hr := B.returns
  have hts := atoms_spec (ws := (.code yX6_writeConstant cX6_writeConstant 6 none :: VS_h7)) B.pre
  replace hts := fun w (h : w ∈ VS_h7) => hts w (List.mem_cons_of_mem _ h)
  have hown : s.vm.findClass RX6 = some m.cls := findClass_of_methodNamed B.named
  have hlocks := B.notSynchronized
  subst hsz
  have hD := hD0.self (sz := s.heap.size)
  generalize hAe : va_A [(h0, .inr (6, [.ref qf0, .ref qf1, .ref qf2, .ref qf3, .int v4, .int v5, .ref qf6, .int v7])), (qf2, .inl (cf2, 201, .inl f2)), (qf3, .inl (cf3, 201, .inl f3)), (qf0, .inr (9, [.ref qf0_0, .ref qf0_1, .ref qf0_2, .int v0_3, .ref qf0_4, .ref qf0_5, .ref qf0_6, .ref qf0_7, .ref qf0_8, .int v0_9, .int v0_10, .int v0_11, .int v0_12])), (qf0_5, .inl (cf0_5, 1741, .inl f0_5)), (qa2, .inl (ca2, na2, .inl fa2)), (qf0_4, .inl (cf0_4, 6400, .inl f0_4))] s.heap.size = A at hD  ⊢
  have hA : ∀ q : Nat, s.heap.size ≤ q → A q := fun q h => by rw [← hAe]; exact Or.inr h
  have hP : va_P (dC, dI) vwCl [(h0, .inr (6, [.ref qf0, .ref qf1, .ref qf2, .ref qf3, .int v4, .int v5, .ref qf6, .int v7])), (qf2, .inl (cf2, 201, .inl f2)), (qf3, .inl (cf3, 201, .inl f3)), (qf0, .inr (9, [.ref qf0_0, .ref qf0_1, .ref qf0_2, .int v0_3, .ref qf0_4, .ref qf0_5, .ref qf0_6, .ref qf0_7, .ref qf0_8, .int v0_9, .int v0_10, .int v0_11, .int v0_12])), (qf0_5, .inl (cf0_5, 1741, .inl f0_5)), (qa2, .inl (ca2, na2, .inl fa2)), (qf0_4, .inl (cf0_4, 6400, .inl f0_4))] s.heap := hP
  have hl := lv_entry ([.ref h0, .int a1, .ref qa2, .int a3]) (n := 6) (Nat.le_of_ble_eq_true rfl)
  rw [lg_entry_eq]
  generalize (lg_sl ([.ref h0, .int a1, .ref qa2, .int a3]) ++ List.replicate (6 - (lg_sl ([.ref h0, .int a1, .ref qa2, .int a3])).length) Slot.unset).toArray = ls at hl ⊢
  have hl : lv_has ls 6 [(0, .ref h0), (1, .int a1), (2, .ref qa2), (3, .int a3)] := hl
  obtain ⟨H, hH⟩ : ∃ H : Heap, s.heap = H := ⟨_, rfl⟩
  rw [hH] at hP ⊢
  have hS : va_S A s.heap H [] := by rw [← hH]; exact va_S.rf
  obtain ⟨locs, hlo⟩ : ∃ locs : List Loc, locs = [] := ⟨_, rfl⟩
  rw [← hlo] at hS ⊢
  unfold sp_v6_writeConstant at hsp
  refine lv_aload_n hx hb dX6_writeConstant_0 rfl (lv_at hl 0 rfl) ?_
  refine lv_aload_n hx hb dX6_writeConstant_1 rfl (lv_at hl 0 rfl) ?_
  refine va_get (D := (dC, dI)) (ci := 6) (v := .ref qf2) (C := RX6) (T := TX6) (N := 8) hx hb hts uV_h7_X6 hown hK hP 0 rfl rfl 2 (by decide) (hts (.fieldLink RX6 9 "ClassMill$Pool" "tags" "[I") mw_h7_508) (fun _ h9 => h9) rfl dX6_writeConstant_2 ?_
  refine lv_iload_n hx hb dX6_writeConstant_5 rfl (lv_at hl 1 rfl) ?_
  obtain ⟨hi_1, hsp⟩ := ox_in hsp
  refine va_iald hx hb hK hP 1 0 rfl rfl (i := a1) hi_1 dX6_writeConstant_6 ?_
  refine lv_aload_n hx hb dX6_writeConstant_7 rfl (lv_at hl 0 rfl) ?_
  refine va_get (D := (dC, dI)) (ci := 6) (v := .ref qf3) (C := RX6) (T := TX6) (N := 8) hx hb hts uV_h7_X6 hown hK hP 0 rfl rfl 3 (by decide) (hts (.fieldLink RX6 13 "ClassMill$Pool" "values" "[I") mw_h7_509) (fun _ h9 => h9) rfl dX6_writeConstant_8 ?_
  refine lv_iload_n hx hb dX6_writeConstant_11 rfl (lv_at hl 1 rfl) ?_
  obtain ⟨hi_2, hsp⟩ := ox_in hsp
  refine va_iald hx hb hK hP 2 1 rfl rfl (i := a1) hi_2 dX6_writeConstant_12 ?_
  obtain ⟨u1_0, hu_1, hsp⟩ := ox_bind hsp
  try dsimp only at hsp
  have hPc := hP.sub (ws' := [(h0, .inr (6, [.ref qf0, .ref qf1, .ref qf2, .ref qf3, .int v4, .int v5, .ref qf6, .int v7])), (qf0, .inr (9, [.ref qf0_0, .ref qf0_1, .ref qf0_2, .int v0_3, .ref qf0_4, .ref qf0_5, .ref qf0_6, .ref qf0_7, .ref qf0_8, .int v0_9, .int v0_10, .int v0_11, .int v0_12])), (qf0_5, .inl (cf0_5, 1741, .inl f0_5))]) [0, 3, 4] rfl
  have hDc := hD.sub (ws' := [(h0, .inr (6, [.ref qf0, .ref qf1, .ref qf2, .ref qf3, .int v4, .int v5, .ref qf6, .int v7])), (qf0, .inr (9, [.ref qf0_0, .ref qf0_1, .ref qf0_2, .int v0_3, .ref qf0_4, .ref qf0_5, .ref qf0_6, .ref qf0_7, .ref qf0_8, .int v0_9, .int v0_10, .int v0_11, .int v0_12])), (qf0_5, .inl (cf0_5, 1741, .inl f0_5))]) [0, 3, 4] (by decide) rfl
  have hKc := hK.sub (tys' := [(cf0_5, .int)]) [2] rfl
  have hFc := va_free (wc := [(h0, .inr (6, [.ref qf0, .ref qf1, .ref qf2, .ref qf3, .int v4, .int v5, .ref qf6, .int v7])), (qf0, .inr (9, [.ref qf0_0, .ref qf0_1, .ref qf0_2, .int v0_3, .ref qf0_4, .ref qf0_5, .ref qf0_6, .ref qf0_7, .ref qf0_8, .int v0_9, .int v0_10, .int v0_11, .int v0_12])), (qf0_5, .inl (cf0_5, 1741, .inl f0_5))]) hD hS hA [0, 3, 4] rfl
  refine va_calli (va_runV (As := [.int (f2 (a1 : Int32).toNatClampNeg), .int (f3 (a1 : Int32).toNatClampNeg)]) (rest := []) ⟨hx, hb, hml, hown, hts⟩ (t6_bytesOf l dC dI H.size h0 ((f2 (a1 : Int32).toNatClampNeg)) ((f3 (a1 : Int32).toNatClampNeg)) qf0 qf1 qf2 qf3 v4 v5 qf6 v7 qf0_0 qf0_1 qf0_2 v0_3 qf0_4 qf0_5 qf0_6 qf0_7 qf0_8 v0_9 v0_10 v0_11 v0_12 cf0_5 f0_5 nf u1_0 hu_1) (cwV 2 hts gv_h7_60 rfl rfl rfl (by decide +kernel) ⟨Nat.le_of_ble_eq_true rfl, Nat.le_of_ble_eq_true rfl⟩) ⟨fun a U g mk q => by obtain ⟨q0, q1, qP, qK, qD⟩ := q; exact ⟨q0, q1, qP, va_K.moved (u := U) (U := U.calling g mk a) (Vm.Alike.refl U.vm) qK, qD⟩, va_recv hKc hPc (ci := 6) (q0 := 0) rfl rfl, fun U hU hW => ⟨rfl, by rw [hU], by rw [hU]; exact hPc, va_K.moved hW.alike hKc, hDc.weaken (fun _ _ _ _ => trivial)⟩⟩ rfl rfl hl.1 rfl (lv_room (Nat.le_of_ble_eq_true rfl)) dX6_writeConstant_13 ⟨Nat.le_of_ble_eq_true rfl, Nat.le_of_ble_eq_true rfl⟩) hS (fun q _ h => hFc q h) hFc ?_
  clear hS
  intro r_3 u t H1 locs ht hvm hw hB hz1 hk1 hS
  obtain ⟨⟩ := u
  obtain ⟨hP1, hK1, hD1⟩ := hB
  rw [ht] at hP1
  have hK1 := va_K.moved hvm.symm hK1
  try dsimp only at hw
  have hPD := va_join (wr := [(qf2, .inl (cf2, 201, .inl f2)), (qf3, .inl (cf3, 201, .inl f3)), (qa2, .inl (ca2, na2, .inl fa2)), (qf0_4, .inl (cf0_4, 6400, .inl f0_4))]) (w1 := [(h0, .inr (6, [.ref qf0, .ref qf1, .ref qf2, .ref qf3, .int v4, .int v5, .ref qf6, .int v7])), (qf0, .inr (9, [.ref qf0_0, .ref qf0_1, .ref qf0_2, .int v0_3, .ref qf0_4, .ref qf0_5, .ref qf0_6, .ref qf0_7, .ref qf0_8, .int v0_9, .int v0_10, .int v0_11, .int v0_12])), (qf0_5, .inl (cf0_5, 1741, .inl f0_5))]) hP hD [0, 3, 4] [1, 2, 5, 6] rfl rfl (by decide) (by decide) hk1 hFc hP1 hD1
  clear hP hD
  obtain ⟨hP, hD⟩ := hPD
  replace hK := (hK.sub (tys' := [(cf2, .int), (cf3, .int), (ca2, .byte), (cf0_4, .byte)]) [0, 1, 3, 4] rfl).app hK1
  clear hPc hDc hKc hFc hP1 hK1 hD1 hz1 hk1 ht hvm
  generalize H1 = H at hP hS ⊢
  replace hP : va_P (dC, dI) vwCl [(qf2, .inl (cf2, 201, .inl f2)), (qf3, .inl (cf3, 201, .inl f3)), (qa2, .inl (ca2, na2, .inl fa2)), (qf0_4, .inl (cf0_4, 6400, .inl f0_4)), (h0, .inr (6, [.ref qf0, .ref qf1, .ref qf2, .ref qf3, .int v4, .int v5, .ref qf6, .int v7])), (qf0, .inr (9, [.ref qf0_0, .ref qf0_1, .ref qf0_2, .int v0_3, .ref qf0_4, .ref qf0_5, .ref qf0_6, .ref qf0_7, .ref qf0_8, .int v0_9, .int v0_10, .int v0_11, .int v0_12])), (qf0_5, .inl (cf0_5, 1741, .inl f0_5))] H := hP
  replace hD : va_D A [(qf2, .inl (cf2, 201, .inl f2)), (qf3, .inl (cf3, 201, .inl f3)), (qa2, .inl (ca2, na2, .inl fa2)), (qf0_4, .inl (cf0_4, 6400, .inl f0_4)), (h0, .inr (6, [.ref qf0, .ref qf1, .ref qf2, .ref qf3, .int v4, .int v5, .ref qf6, .int v7])), (qf0, .inr (9, [.ref qf0_0, .ref qf0_1, .ref qf0_2, .int v0_3, .ref qf0_4, .ref qf0_5, .ref qf0_6, .ref qf0_7, .ref qf0_8, .int v0_9, .int v0_10, .int v0_11, .int v0_12])), (qf0_5, .inl (cf0_5, 1741, .inl f0_5))] := hD
  replace hK : va_K (dC, dI) vwCl [(cf2, .int), (cf3, .int), (ca2, .byte), (cf0_4, .byte), (cf0_5, .int)] s := hK
  obtain rfl := hw
  refine lv_istore (lv' := [(4, .int u1_0), (0, .ref h0), (1, .int a1), (2, .ref qa2), (3, .int a3)]) hx hb dX6_writeConstant_16 hl (by decide) rfl (fun ls hl => ?_)
  refine lv_iload_n hx hb dX6_writeConstant_18 rfl (lv_at hl 4 rfl) ?_
  refine lv_if_lt (tgt := 31) hx hb dX6_writeConstant_19 (by decide) (fun c_4 => ?_) (fun c_4 => ?_)
  · rw [if_pos c_4] at hsp
    have hr0 := Option.some.inj hsp
    clear hsp
    subst hr0
    have hP9 := hP.sub (ws' := [(h0, .inr (6, [.ref qf0, .ref qf1, .ref qf2, .ref qf3, .int v4, .int v5, .ref qf6, .int v7])), (qf2, .inl (cf2, 201, .inl f2)), (qf3, .inl (cf3, 201, .inl f3)), (qf0, .inr (9, [.ref qf0_0, .ref qf0_1, .ref qf0_2, .int v0_3, .ref qf0_4, .ref qf0_5, .ref qf0_6, .ref qf0_7, .ref qf0_8, .int v0_9, .int v0_10, .int v0_11, .int v0_12])), (qf0_5, .inl (cf0_5, 1741, .inl f0_5)), (qa2, .inl (ca2, na2, .inl fa2)), (qf0_4, .inl (cf0_4, 6400, .inl f0_4))]) [4, 0, 1, 5, 6, 2, 3] rfl
    have hD9 := hD.sub (ws' := [(h0, .inr (6, [.ref qf0, .ref qf1, .ref qf2, .ref qf3, .int v4, .int v5, .ref qf6, .int v7])), (qf2, .inl (cf2, 201, .inl f2)), (qf3, .inl (cf3, 201, .inl f3)), (qf0, .inr (9, [.ref qf0_0, .ref qf0_1, .ref qf0_2, .int v0_3, .ref qf0_4, .ref qf0_5, .ref qf0_6, .ref qf0_7, .ref qf0_8, .int v0_9, .int v0_10, .int v0_11, .int v0_12])), (qf0_5, .inl (cf0_5, 1741, .inl f0_5)), (qa2, .inl (ca2, na2, .inl fa2)), (qf0_4, .inl (cf0_4, 6400, .inl f0_4))]) [4, 0, 1, 5, 6, 2, 3] (by decide) rfl
    have hK9 := hK.sub (tys' := [(cf2, .int), (cf3, .int), (cf0_5, .int), (ca2, .byte), (cf0_4, .byte)]) [0, 1, 4, 2, 3] rfl
    exact W.vret hx hb hr (fun t ht hW => ⟨⟨(), rfl, trivial, by rw [ht]; exact hP9, va_K.moved hW.alike hK9, hD9⟩, hS.F ht⟩) hS.2.2 dX6_writeConstant_31
  · rw [if_neg c_4] at hsp
    refine lv_iload_n hx hb dX6_writeConstant_22 rfl (lv_at hl 4 rfl) ?_
    refine lv_iload hx hb dX6_writeConstant_23 (lv_at hl 0 rfl) ?_
    refine lv_iadd hx hb dX6_writeConstant_25 ?_
    refine lv_aload_n hx hb dX6_writeConstant_26 rfl (lv_at hl 3 rfl) ?_
    refine va_alen (v := nI na2) hx hb hK hP 2 2 rfl rfl rfl dX6_writeConstant_27 ?_
    refine lv_icmp_le (tgt := 32) hx hb dX6_writeConstant_28 (by decide) (fun c_5 => ?_) (fun c_5 => ?_)
    · rw [if_pos c_5] at hsp
      refine lv_aload_n hx hb dX6_writeConstant_32 rfl (lv_at hl 3 rfl) ?_
      refine lv_iload_n hx hb dX6_writeConstant_33 rfl (lv_at hl 4 rfl) ?_
      refine lv_aload_n hx hb dX6_writeConstant_34 rfl (lv_at hl 1 rfl) ?_
      refine va_get (D := (dC, dI)) (ci := 6) (v := .ref qf2) (C := RX6) (T := TX6) (N := 8) hx hb hts uV_h7_X6 hown hK hP 4 rfl rfl 2 (by decide) (hts (.fieldLink RX6 9 "ClassMill$Pool" "tags" "[I") mw_h7_508) (fun _ h9 => h9) rfl dX6_writeConstant_35 ?_
      refine lv_iload_n hx hb dX6_writeConstant_38 rfl (lv_at hl 2 rfl) ?_
      obtain ⟨hi_6, hsp⟩ := ox_in hsp
      refine va_iald hx hb hK hP 0 0 rfl rfl (i := a1) hi_6 dX6_writeConstant_39 ?_
      refine lv_i2b hx hb dX6_writeConstant_40 rfl ?_
      obtain ⟨hi_7, hsp⟩ := ox_in hsp
      refine va_bast hx hb hK hP hD hS 2 2 rfl rfl (i := a3) (x := (((f2 (a1 : Int32).toNatClampNeg) : Int32).toInt8.toInt32)) hi_7 dX6_writeConstant_41 ?_
      clear hP hD hS
      intro H locs hP hD hS
      replace hP : va_P (dC, dI) vwCl [(qf2, .inl (cf2, 201, .inl f2)), (qf3, .inl (cf3, 201, .inl f3)), (qa2, .inl (ca2, na2, .inl (upd fa2 (a3 : Int32).toNatClampNeg (vp_nar .byte (((f2 (a1 : Int32).toNatClampNeg) : Int32).toInt8.toInt32))))), (qf0_4, .inl (cf0_4, 6400, .inl f0_4)), (h0, .inr (6, [.ref qf0, .ref qf1, .ref qf2, .ref qf3, .int v4, .int v5, .ref qf6, .int v7])), (qf0, .inr (9, [.ref qf0_0, .ref qf0_1, .ref qf0_2, .int v0_3, .ref qf0_4, .ref qf0_5, .ref qf0_6, .ref qf0_7, .ref qf0_8, .int v0_9, .int v0_10, .int v0_11, .int v0_12])), (qf0_5, .inl (cf0_5, 1741, .inl f0_5))] H := hP
      replace hD : va_D A [(qf2, .inl (cf2, 201, .inl f2)), (qf3, .inl (cf3, 201, .inl f3)), (qa2, .inl (ca2, na2, .inl (upd fa2 (a3 : Int32).toNatClampNeg (vp_nar .byte (((f2 (a1 : Int32).toNatClampNeg) : Int32).toInt8.toInt32))))), (qf0_4, .inl (cf0_4, 6400, .inl f0_4)), (h0, .inr (6, [.ref qf0, .ref qf1, .ref qf2, .ref qf3, .int v4, .int v5, .ref qf6, .int v7])), (qf0, .inr (9, [.ref qf0_0, .ref qf0_1, .ref qf0_2, .int v0_3, .ref qf0_4, .ref qf0_5, .ref qf0_6, .ref qf0_7, .ref qf0_8, .int v0_9, .int v0_10, .int v0_11, .int v0_12])), (qf0_5, .inl (cf0_5, 1741, .inl f0_5))] := hD
      refine lv_aload_n hx hb dX6_writeConstant_42 rfl (lv_at hl 1 rfl) ?_
      refine va_get (D := (dC, dI)) (ci := 6) (v := .ref qf2) (C := RX6) (T := TX6) (N := 8) hx hb hts uV_h7_X6 hown hK hP 4 rfl rfl 2 (by decide) (hts (.fieldLink RX6 9 "ClassMill$Pool" "tags" "[I") mw_h7_508) (fun _ h9 => h9) rfl dX6_writeConstant_43 ?_
      refine lv_iload_n hx hb dX6_writeConstant_46 rfl (lv_at hl 2 rfl) ?_
      obtain ⟨hi_8, hsp⟩ := ox_in hsp
      refine va_iald hx hb hK hP 0 0 rfl rfl (i := a1) hi_8 dX6_writeConstant_47 ?_
      refine lv_iconst (v := 1) hx hb dX6_writeConstant_48 (by decide) ?_
      refine lv_icmp_ne (tgt := 80) hx hb dX6_writeConstant_49 (by decide) (fun c_9 => ?_) (fun c_9 => ?_)
      · rw [if_neg c_9] at hsp
        refine lv_iconst (v := 1) hx hb dX6_writeConstant_80 (by decide) ?_
        refine lv_istore (lv' := [(5, .int 1), (4, .int u1_0), (0, .ref h0), (1, .int a1), (2, .ref qa2), (3, .int a3)]) hx hb dX6_writeConstant_81 hl (by decide) rfl (fun ls hl => ?_)
        replace hl : lv_has ls 6 [(5, .int 1), (4, .int u1_0), (0, .ref h0), (1, .int a1), (2, .ref qa2), (3, .int a3)] := lv_sub hl [0, 1, 2, 3, 4, 5] rfl
        replace hP := hP.sub (ws' := [(h0, .inr (6, [.ref qf0, .ref qf1, .ref qf2, .ref qf3, .int v4, .int v5, .ref qf6, .int v7])), (qf2, .inl (cf2, 201, .inl f2)), (qf3, .inl (cf3, 201, .inl f3)), (qf0, .inr (9, [.ref qf0_0, .ref qf0_1, .ref qf0_2, .int v0_3, .ref qf0_4, .ref qf0_5, .ref qf0_6, .ref qf0_7, .ref qf0_8, .int v0_9, .int v0_10, .int v0_11, .int v0_12])), (qf0_5, .inl (cf0_5, 1741, .inl f0_5)), (qa2, .inl (ca2, na2, .inl (upd fa2 (a3 : Int32).toNatClampNeg (vp_nar .byte (((f2 (a1 : Int32).toNatClampNeg) : Int32).toInt8.toInt32))))), (qf0_4, .inl (cf0_4, 6400, .inl f0_4))]) [4, 0, 1, 5, 6, 2, 3] rfl
        replace hD := hD.sub (ws' := [(h0, .inr (6, [.ref qf0, .ref qf1, .ref qf2, .ref qf3, .int v4, .int v5, .ref qf6, .int v7])), (qf2, .inl (cf2, 201, .inl f2)), (qf3, .inl (cf3, 201, .inl f3)), (qf0, .inr (9, [.ref qf0_0, .ref qf0_1, .ref qf0_2, .int v0_3, .ref qf0_4, .ref qf0_5, .ref qf0_6, .ref qf0_7, .ref qf0_8, .int v0_9, .int v0_10, .int v0_11, .int v0_12])), (qf0_5, .inl (cf0_5, 1741, .inl f0_5)), (qa2, .inl (ca2, na2, .inl (upd fa2 (a3 : Int32).toNatClampNeg (vp_nar .byte (((f2 (a1 : Int32).toNatClampNeg) : Int32).toInt8.toInt32))))), (qf0_4, .inl (cf0_4, 6400, .inl f0_4))]) [4, 0, 1, 5, 6, 2, 3] (by decide) rfl
        replace hK := hK.sub (tys' := [(cf2, .int), (cf3, .int), (cf0_5, .int), (ca2, .byte), (cf0_4, .byte)]) [0, 1, 4, 2, 3] rfl
        obtain ⟨n_83, hn_83⟩ : ∃ z : Nat, z = nf := ⟨_, rfl⟩
        obtain ⟨l1_83, el1_83⟩ : ∃ z : Int32, z = a1 := ⟨_, rfl⟩
        obtain ⟨l3_83, el3_83⟩ : ∃ z : Int32, z = a3 := ⟨_, rfl⟩
        obtain ⟨l4_83, el4_83⟩ : ∃ z : Int32, z = u1_0 := ⟨_, rfl⟩
        obtain ⟨l5_83, el5_83⟩ : ∃ z : Int32, z = 1 := ⟨_, rfl⟩
        obtain ⟨ga2_83, ega2_83⟩ : ∃ z : Nat → Int32, z = (upd fa2 (a3 : Int32).toNatClampNeg (vp_nar .byte (((f2 (a1 : Int32).toNatClampNeg) : Int32).toInt8.toInt32))) := ⟨_, rfl⟩
        replace hsp : lp_v6_writeConstant_83 nf n_83 a1 a3 f2 f3 v0_9 f0_5 na2 fa2 f0_4 l1_83 l3_83 l4_83 l5_83 ga2_83 = some oa2 := by rw [hn_83, el1_83, el3_83, el4_83, el5_83, ega2_83]; exact hsp
        replace hl : lv_has ls 6 [(5, .int l5_83), (4, .int l4_83), (0, .ref h0), (1, .int l1_83), (2, .ref qa2), (3, .int l3_83)] := by rw [el1_83, el3_83, el4_83, el5_83]; exact hl
        replace hP : va_P (dC, dI) vwCl [(h0, .inr (6, [.ref qf0, .ref qf1, .ref qf2, .ref qf3, .int v4, .int v5, .ref qf6, .int v7])), (qf2, .inl (cf2, 201, .inl f2)), (qf3, .inl (cf3, 201, .inl f3)), (qf0, .inr (9, [.ref qf0_0, .ref qf0_1, .ref qf0_2, .int v0_3, .ref qf0_4, .ref qf0_5, .ref qf0_6, .ref qf0_7, .ref qf0_8, .int v0_9, .int v0_10, .int v0_11, .int v0_12])), (qf0_5, .inl (cf0_5, 1741, .inl f0_5)), (qa2, .inl (ca2, na2, .inl ga2_83)), (qf0_4, .inl (cf0_4, 6400, .inl f0_4))] H := by rw [ega2_83]; exact hP
        replace hD : va_D A [(h0, .inr (6, [.ref qf0, .ref qf1, .ref qf2, .ref qf3, .int v4, .int v5, .ref qf6, .int v7])), (qf2, .inl (cf2, 201, .inl f2)), (qf3, .inl (cf3, 201, .inl f3)), (qf0, .inr (9, [.ref qf0_0, .ref qf0_1, .ref qf0_2, .int v0_3, .ref qf0_4, .ref qf0_5, .ref qf0_6, .ref qf0_7, .ref qf0_8, .int v0_9, .int v0_10, .int v0_11, .int v0_12])), (qf0_5, .inl (cf0_5, 1741, .inl f0_5)), (qa2, .inl (ca2, na2, .inl ga2_83)), (qf0_4, .inl (cf0_4, 6400, .inl f0_4))] := by rw [ega2_83]; exact hD
        clear hn_83 el1_83 el3_83 el4_83 el5_83 ega2_83
        try clear hlo
        try clear hH
        revert hsp
        revert hP
        revert hD
        revert hS
        revert hl
        revert ga2_83
        revert l5_83
        revert l4_83
        revert l3_83
        revert l1_83
        revert ls
        revert locs
        revert H
        induction n_83 with
        | zero => intro H locs ls l1_83 l3_83 l4_83 l5_83 ga2_83  hl hS hD hP hsp; unfold lp_v6_writeConstant_83 at hsp; cases hsp
        | succ n_83 ih_83 =>
          intro H locs ls l1_83 l3_83 l4_83 l5_83 ga2_83  hl hS hD hP hsp
          unfold lp_v6_writeConstant_83 at hsp
          try dsimp only at hsp
          refine lv_iload hx hb dX6_writeConstant_83 (lv_at hl 0 rfl) ?_
          refine lv_iload hx hb dX6_writeConstant_85 (lv_at hl 1 rfl) ?_
          refine lv_icmp_ge (tgt := 120) hx hb dX6_writeConstant_87 (by decide) (fun c_10 => ?_) (fun c_10 => ?_)
          · rw [if_pos c_10] at hsp
            have hr0 := Option.some.inj hsp
            clear hsp
            subst hr0
            have hP9 := hP.sub (ws' := [(h0, .inr (6, [.ref qf0, .ref qf1, .ref qf2, .ref qf3, .int v4, .int v5, .ref qf6, .int v7])), (qf2, .inl (cf2, 201, .inl f2)), (qf3, .inl (cf3, 201, .inl f3)), (qf0, .inr (9, [.ref qf0_0, .ref qf0_1, .ref qf0_2, .int v0_3, .ref qf0_4, .ref qf0_5, .ref qf0_6, .ref qf0_7, .ref qf0_8, .int v0_9, .int v0_10, .int v0_11, .int v0_12])), (qf0_5, .inl (cf0_5, 1741, .inl f0_5)), (qa2, .inl (ca2, na2, .inl ga2_83)), (qf0_4, .inl (cf0_4, 6400, .inl f0_4))]) [0, 1, 2, 3, 4, 5, 6] rfl
            have hD9 := hD.sub (ws' := [(h0, .inr (6, [.ref qf0, .ref qf1, .ref qf2, .ref qf3, .int v4, .int v5, .ref qf6, .int v7])), (qf2, .inl (cf2, 201, .inl f2)), (qf3, .inl (cf3, 201, .inl f3)), (qf0, .inr (9, [.ref qf0_0, .ref qf0_1, .ref qf0_2, .int v0_3, .ref qf0_4, .ref qf0_5, .ref qf0_6, .ref qf0_7, .ref qf0_8, .int v0_9, .int v0_10, .int v0_11, .int v0_12])), (qf0_5, .inl (cf0_5, 1741, .inl f0_5)), (qa2, .inl (ca2, na2, .inl ga2_83)), (qf0_4, .inl (cf0_4, 6400, .inl f0_4))]) [0, 1, 2, 3, 4, 5, 6] (by decide) rfl
            have hK9 := hK.sub (tys' := [(cf2, .int), (cf3, .int), (cf0_5, .int), (ca2, .byte), (cf0_4, .byte)]) [0, 1, 2, 3, 4] rfl
            exact W.vret hx hb hr (fun t ht hW => ⟨⟨(), rfl, trivial, by rw [ht]; exact hP9, va_K.moved hW.alike hK9, hD9⟩, hS.F ht⟩) hS.2.2 dX6_writeConstant_120
          · rw [if_neg c_10] at hsp
            refine lv_aload_n hx hb dX6_writeConstant_90 rfl (lv_at hl 4 rfl) ?_
            refine lv_iload_n hx hb dX6_writeConstant_91 rfl (lv_at hl 5 rfl) ?_
            refine lv_iload hx hb dX6_writeConstant_92 (lv_at hl 0 rfl) ?_
            refine lv_iadd hx hb dX6_writeConstant_94 ?_
            refine lv_aload_n hx hb dX6_writeConstant_95 rfl (lv_at hl 2 rfl) ?_
            refine va_get (D := (dC, dI)) (ci := 6) (v := .ref qf3) (C := RX6) (T := TX6) (N := 8) hx hb hts uV_h7_X6 hown hK hP 0 rfl rfl 3 (by decide) (hts (.fieldLink RX6 13 "ClassMill$Pool" "values" "[I") mw_h7_509) (fun _ h9 => h9) rfl dX6_writeConstant_96 ?_
            refine lv_iload_n hx hb dX6_writeConstant_99 rfl (lv_at hl 3 rfl) ?_
            obtain ⟨hi_11, hsp⟩ := ox_in hsp
            refine va_iald hx hb hK hP 2 1 rfl rfl (i := l1_83) hi_11 dX6_writeConstant_100 ?_
            refine lv_bipush (v := 8) hx hb dX6_writeConstant_101 (by decide) ?_
            refine lv_iload hx hb dX6_writeConstant_103 (lv_at hl 1 rfl) ?_
            refine lv_iconst (v := 1) hx hb dX6_writeConstant_105 (by decide) ?_
            refine lv_isub hx hb dX6_writeConstant_106 ?_
            refine lv_iload hx hb dX6_writeConstant_107 (lv_at hl 0 rfl) ?_
            refine lv_isub hx hb dX6_writeConstant_109 ?_
            refine lv_imul hx hb dX6_writeConstant_110 ?_
            refine lv_ishr hx hb dX6_writeConstant_111 ?_
            refine lv_i2b hx hb dX6_writeConstant_112 rfl ?_
            obtain ⟨hi_12, hsp⟩ := ox_in hsp
            refine va_bast hx hb hK hP hD hS 5 3 rfl rfl (i := (l3_83 + l5_83)) (x := ((((f3 (l1_83 : Int32).toNatClampNeg) >>> ((8 * ((l4_83 - 1) - l5_83)) &&& 31)) : Int32).toInt8.toInt32)) hi_12 dX6_writeConstant_113 ?_
            clear hP hD hS
            intro H locs hP hD hS
            replace hP : va_P (dC, dI) vwCl [(h0, .inr (6, [.ref qf0, .ref qf1, .ref qf2, .ref qf3, .int v4, .int v5, .ref qf6, .int v7])), (qf2, .inl (cf2, 201, .inl f2)), (qf3, .inl (cf3, 201, .inl f3)), (qf0, .inr (9, [.ref qf0_0, .ref qf0_1, .ref qf0_2, .int v0_3, .ref qf0_4, .ref qf0_5, .ref qf0_6, .ref qf0_7, .ref qf0_8, .int v0_9, .int v0_10, .int v0_11, .int v0_12])), (qf0_5, .inl (cf0_5, 1741, .inl f0_5)), (qa2, .inl (ca2, na2, .inl (upd ga2_83 ((l3_83 + l5_83) : Int32).toNatClampNeg (vp_nar .byte ((((f3 (l1_83 : Int32).toNatClampNeg) >>> ((8 * ((l4_83 - 1) - l5_83)) &&& 31)) : Int32).toInt8.toInt32))))), (qf0_4, .inl (cf0_4, 6400, .inl f0_4))] H := hP
            replace hD : va_D A [(h0, .inr (6, [.ref qf0, .ref qf1, .ref qf2, .ref qf3, .int v4, .int v5, .ref qf6, .int v7])), (qf2, .inl (cf2, 201, .inl f2)), (qf3, .inl (cf3, 201, .inl f3)), (qf0, .inr (9, [.ref qf0_0, .ref qf0_1, .ref qf0_2, .int v0_3, .ref qf0_4, .ref qf0_5, .ref qf0_6, .ref qf0_7, .ref qf0_8, .int v0_9, .int v0_10, .int v0_11, .int v0_12])), (qf0_5, .inl (cf0_5, 1741, .inl f0_5)), (qa2, .inl (ca2, na2, .inl (upd ga2_83 ((l3_83 + l5_83) : Int32).toNatClampNeg (vp_nar .byte ((((f3 (l1_83 : Int32).toNatClampNeg) >>> ((8 * ((l4_83 - 1) - l5_83)) &&& 31)) : Int32).toInt8.toInt32))))), (qf0_4, .inl (cf0_4, 6400, .inl f0_4))] := hD
            refine lv_iinc (v := (l5_83 + 1)) (lv' := [(5, .int (l5_83 + 1)), (4, .int l4_83), (0, .ref h0), (1, .int l1_83), (2, .ref qa2), (3, .int l3_83)]) hx hb dX6_writeConstant_114 hl (k := 0) rfl rfl (by decide) rfl (fun ls hl => ?_)
            refine lv_goto (tgt := 83) hx hb dX6_writeConstant_117 (by decide) ?_
            exact ih_83 H locs ls l1_83 l3_83 l4_83 (l5_83 + 1) (upd ga2_83 ((l3_83 + l5_83) : Int32).toNatClampNeg (vp_nar .byte ((((f3 (l1_83 : Int32).toNatClampNeg) >>> ((8 * ((l4_83 - 1) - l5_83)) &&& 31)) : Int32).toInt8.toInt32))) (lv_sub hl [0, 1, 2, 3, 4, 5] rfl) hS (hD.sub (ws' := [(h0, .inr (6, [.ref qf0, .ref qf1, .ref qf2, .ref qf3, .int v4, .int v5, .ref qf6, .int v7])), (qf2, .inl (cf2, 201, .inl f2)), (qf3, .inl (cf3, 201, .inl f3)), (qf0, .inr (9, [.ref qf0_0, .ref qf0_1, .ref qf0_2, .int v0_3, .ref qf0_4, .ref qf0_5, .ref qf0_6, .ref qf0_7, .ref qf0_8, .int v0_9, .int v0_10, .int v0_11, .int v0_12])), (qf0_5, .inl (cf0_5, 1741, .inl f0_5)), (qa2, .inl (ca2, na2, .inl (upd ga2_83 ((l3_83 + l5_83) : Int32).toNatClampNeg (vp_nar .byte ((((f3 (l1_83 : Int32).toNatClampNeg) >>> ((8 * ((l4_83 - 1) - l5_83)) &&& 31)) : Int32).toInt8.toInt32))))), (qf0_4, .inl (cf0_4, 6400, .inl f0_4))]) [0, 1, 2, 3, 4, 5, 6] (by decide) rfl) (hP.sub (ws' := [(h0, .inr (6, [.ref qf0, .ref qf1, .ref qf2, .ref qf3, .int v4, .int v5, .ref qf6, .int v7])), (qf2, .inl (cf2, 201, .inl f2)), (qf3, .inl (cf3, 201, .inl f3)), (qf0, .inr (9, [.ref qf0_0, .ref qf0_1, .ref qf0_2, .int v0_3, .ref qf0_4, .ref qf0_5, .ref qf0_6, .ref qf0_7, .ref qf0_8, .int v0_9, .int v0_10, .int v0_11, .int v0_12])), (qf0_5, .inl (cf0_5, 1741, .inl f0_5)), (qa2, .inl (ca2, na2, .inl (upd ga2_83 ((l3_83 + l5_83) : Int32).toNatClampNeg (vp_nar .byte ((((f3 (l1_83 : Int32).toNatClampNeg) >>> ((8 * ((l4_83 - 1) - l5_83)) &&& 31)) : Int32).toInt8.toInt32))))), (qf0_4, .inl (cf0_4, 6400, .inl f0_4))]) [0, 1, 2, 3, 4, 5, 6] rfl) hsp
      · rw [if_pos c_9] at hsp
        refine lv_aload_n hx hb dX6_writeConstant_52 rfl (lv_at hl 3 rfl) ?_
        refine lv_iload_n hx hb dX6_writeConstant_53 rfl (lv_at hl 4 rfl) ?_
        refine lv_iconst (v := 1) hx hb dX6_writeConstant_54 (by decide) ?_
        refine lv_iadd hx hb dX6_writeConstant_55 ?_
        refine lv_iload hx hb dX6_writeConstant_56 (lv_at hl 0 rfl) ?_
        refine lv_iconst (v := 2) hx hb dX6_writeConstant_58 (by decide) ?_
        refine lv_isub hx hb dX6_writeConstant_59 ?_
        refine lv_i2b hx hb dX6_writeConstant_60 rfl ?_
        obtain ⟨hi_13, hsp⟩ := ox_in hsp
        refine va_bast hx hb hK hP hD hS 2 2 rfl rfl (i := (a3 + 1)) (x := (((u1_0 - 2) : Int32).toInt8.toInt32)) hi_13 dX6_writeConstant_61 ?_
        clear hP hD hS
        intro H locs hP hD hS
        replace hP : va_P (dC, dI) vwCl [(qf2, .inl (cf2, 201, .inl f2)), (qf3, .inl (cf3, 201, .inl f3)), (qa2, .inl (ca2, na2, .inl (upd (upd fa2 (a3 : Int32).toNatClampNeg (vp_nar .byte (((f2 (a1 : Int32).toNatClampNeg) : Int32).toInt8.toInt32))) ((a3 + 1) : Int32).toNatClampNeg (vp_nar .byte (((u1_0 - 2) : Int32).toInt8.toInt32))))), (qf0_4, .inl (cf0_4, 6400, .inl f0_4)), (h0, .inr (6, [.ref qf0, .ref qf1, .ref qf2, .ref qf3, .int v4, .int v5, .ref qf6, .int v7])), (qf0, .inr (9, [.ref qf0_0, .ref qf0_1, .ref qf0_2, .int v0_3, .ref qf0_4, .ref qf0_5, .ref qf0_6, .ref qf0_7, .ref qf0_8, .int v0_9, .int v0_10, .int v0_11, .int v0_12])), (qf0_5, .inl (cf0_5, 1741, .inl f0_5))] H := hP
        replace hD : va_D A [(qf2, .inl (cf2, 201, .inl f2)), (qf3, .inl (cf3, 201, .inl f3)), (qa2, .inl (ca2, na2, .inl (upd (upd fa2 (a3 : Int32).toNatClampNeg (vp_nar .byte (((f2 (a1 : Int32).toNatClampNeg) : Int32).toInt8.toInt32))) ((a3 + 1) : Int32).toNatClampNeg (vp_nar .byte (((u1_0 - 2) : Int32).toInt8.toInt32))))), (qf0_4, .inl (cf0_4, 6400, .inl f0_4)), (h0, .inr (6, [.ref qf0, .ref qf1, .ref qf2, .ref qf3, .int v4, .int v5, .ref qf6, .int v7])), (qf0, .inr (9, [.ref qf0_0, .ref qf0_1, .ref qf0_2, .int v0_3, .ref qf0_4, .ref qf0_5, .ref qf0_6, .ref qf0_7, .ref qf0_8, .int v0_9, .int v0_10, .int v0_11, .int v0_12])), (qf0_5, .inl (cf0_5, 1741, .inl f0_5))] := hD
        refine lv_aload_n hx hb dX6_writeConstant_62 rfl (lv_at hl 1 rfl) ?_
        refine va_get (D := (dC, dI)) (ci := 6) (v := .ref qf0) (C := RX6) (T := TX6) (N := 8) hx hb hts uV_h7_X6 hown hK hP 4 rfl rfl 0 (by decide) (hts (.fieldLink RX6 20 "ClassMill$Pool" "text" "LClassMill$Text;") mw_h7_510) (fun _ h9 => h9) rfl dX6_writeConstant_63 ?_
        refine lv_aload_n hx hb dX6_writeConstant_66 rfl (lv_at hl 1 rfl) ?_
        refine va_get (D := (dC, dI)) (ci := 6) (v := .ref qf3) (C := RX6) (T := TX6) (N := 8) hx hb hts uV_h7_X6 hown hK hP 4 rfl rfl 3 (by decide) (hts (.fieldLink RX6 13 "ClassMill$Pool" "values" "[I") mw_h7_509) (fun _ h9 => h9) rfl dX6_writeConstant_67 ?_
        refine lv_iload_n hx hb dX6_writeConstant_70 rfl (lv_at hl 2 rfl) ?_
        obtain ⟨hi_14, hsp⟩ := ox_in hsp
        refine va_iald hx hb hK hP 1 1 rfl rfl (i := a1) hi_14 dX6_writeConstant_71 ?_
        refine lv_aload_n hx hb dX6_writeConstant_72 rfl (lv_at hl 3 rfl) ?_
        refine lv_iload_n hx hb dX6_writeConstant_73 rfl (lv_at hl 4 rfl) ?_
        refine lv_iconst (v := 2) hx hb dX6_writeConstant_74 (by decide) ?_
        refine lv_iadd hx hb dX6_writeConstant_75 ?_
        obtain ⟨g902_0, hu_2, hsp⟩ := ox_bind hsp
        try dsimp only at hsp
        have hPc := hP.sub (ws' := [(qf0, .inr (9, [.ref qf0_0, .ref qf0_1, .ref qf0_2, .int v0_3, .ref qf0_4, .ref qf0_5, .ref qf0_6, .ref qf0_7, .ref qf0_8, .int v0_9, .int v0_10, .int v0_11, .int v0_12])), (qf0_5, .inl (cf0_5, 1741, .inl f0_5)), (qa2, .inl (ca2, na2, .inl (upd (upd fa2 (a3 : Int32).toNatClampNeg (vp_nar .byte (((f2 (a1 : Int32).toNatClampNeg) : Int32).toInt8.toInt32))) ((a3 + 1) : Int32).toNatClampNeg (vp_nar .byte (((u1_0 - 2) : Int32).toInt8.toInt32))))), (qf0_4, .inl (cf0_4, 6400, .inl f0_4))]) [5, 6, 2, 3] rfl
        have hDc := hD.sub (ws' := [(qf0, .inr (9, [.ref qf0_0, .ref qf0_1, .ref qf0_2, .int v0_3, .ref qf0_4, .ref qf0_5, .ref qf0_6, .ref qf0_7, .ref qf0_8, .int v0_9, .int v0_10, .int v0_11, .int v0_12])), (qf0_5, .inl (cf0_5, 1741, .inl f0_5)), (qa2, .inl (ca2, na2, .inl (upd (upd fa2 (a3 : Int32).toNatClampNeg (vp_nar .byte (((f2 (a1 : Int32).toNatClampNeg) : Int32).toInt8.toInt32))) ((a3 + 1) : Int32).toNatClampNeg (vp_nar .byte (((u1_0 - 2) : Int32).toInt8.toInt32))))), (qf0_4, .inl (cf0_4, 6400, .inl f0_4))]) [5, 6, 2, 3] (by decide) rfl
        have hKc := hK.sub (tys' := [(cf0_5, .int), (ca2, .byte), (cf0_4, .byte)]) [4, 2, 3] rfl
        have hFc := va_free (wc := [(qf0, .inr (9, [.ref qf0_0, .ref qf0_1, .ref qf0_2, .int v0_3, .ref qf0_4, .ref qf0_5, .ref qf0_6, .ref qf0_7, .ref qf0_8, .int v0_9, .int v0_10, .int v0_11, .int v0_12])), (qf0_5, .inl (cf0_5, 1741, .inl f0_5)), (qa2, .inl (ca2, na2, .inl (upd (upd fa2 (a3 : Int32).toNatClampNeg (vp_nar .byte (((f2 (a1 : Int32).toNatClampNeg) : Int32).toInt8.toInt32))) ((a3 + 1) : Int32).toNatClampNeg (vp_nar .byte (((u1_0 - 2) : Int32).toInt8.toInt32))))), (qf0_4, .inl (cf0_4, 6400, .inl f0_4))]) hD hS hA [5, 6, 2, 3] rfl
        refine va_callv (va_runV (As := [.int (f3 (a1 : Int32).toNatClampNeg), .ref qa2, .int (a3 + 2)]) (rest := []) ⟨hx, hb, hml, hown, hts⟩ (v9_copyName l dC dI H.size qf0 ((f3 (a1 : Int32).toNatClampNeg)) qa2 ((a3 + 2)) qf0_0 qf0_1 qf0_2 v0_3 qf0_4 qf0_5 qf0_6 qf0_7 qf0_8 v0_9 v0_10 v0_11 v0_12 cf0_5 f0_5 ca2 na2 ((upd (upd fa2 (a3 : Int32).toNatClampNeg (vp_nar .byte (((f2 (a1 : Int32).toNatClampNeg) : Int32).toInt8.toInt32))) ((a3 + 1) : Int32).toNatClampNeg (vp_nar .byte (((u1_0 - 2) : Int32).toInt8.toInt32)))) cf0_4 f0_4 nf g902_0 hu_2) (cwV 3 hts gv_h7_124 rfl rfl rfl (by decide +kernel) ⟨Nat.le_of_ble_eq_true rfl, Nat.le_of_ble_eq_true rfl⟩) ⟨fun a U g mk q => by obtain ⟨q0, q1, qP, qK, qD⟩ := q; exact ⟨q0, q1, qP, va_K.moved (u := U) (U := U.calling g mk a) (Vm.Alike.refl U.vm) qK, qD⟩, va_recv hKc hPc (ci := 9) (q0 := 0) rfl rfl, fun U hU hW => ⟨rfl, by rw [hU], by rw [hU]; exact hPc, va_K.moved hW.alike hKc, hDc.weaken (fun _ _ _ _ => trivial)⟩⟩ rfl rfl hl.1 rfl (lv_room (Nat.le_of_ble_eq_true rfl)) dX6_writeConstant_76 ⟨Nat.le_of_ble_eq_true rfl, Nat.le_of_ble_eq_true rfl⟩) hS (fun q _ h => hFc q h) hFc ?_
        clear hS
        intro u t H1 locs ht hvm hw hB hz1 hk1 hS
        obtain ⟨⟩ := u
        obtain ⟨hP1, hK1, hD1⟩ := hB
        rw [ht] at hP1
        have hK1 := va_K.moved hvm.symm hK1
        try dsimp only at hw
        have hPD := va_join (wr := [(qf2, .inl (cf2, 201, .inl f2)), (qf3, .inl (cf3, 201, .inl f3)), (h0, .inr (6, [.ref qf0, .ref qf1, .ref qf2, .ref qf3, .int v4, .int v5, .ref qf6, .int v7]))]) (w1 := [(qf0, .inr (9, [.ref qf0_0, .ref qf0_1, .ref qf0_2, .int v0_3, .ref qf0_4, .ref qf0_5, .ref qf0_6, .ref qf0_7, .ref qf0_8, .int v0_9, .int v0_10, .int v0_11, .int v0_12])), (qf0_5, .inl (cf0_5, 1741, .inl f0_5)), (qa2, .inl (ca2, na2, .inl g902_0)), (qf0_4, .inl (cf0_4, 6400, .inl f0_4))]) hP hD [5, 6, 2, 3] [0, 1, 4] rfl rfl (by decide) (by decide) hk1 hFc hP1 hD1
        clear hP hD
        obtain ⟨hP, hD⟩ := hPD
        replace hK := (hK.sub (tys' := [(cf2, .int), (cf3, .int)]) [0, 1] rfl).app hK1
        clear hPc hDc hKc hFc hP1 hK1 hD1 hz1 hk1 ht hvm
        generalize H1 = H at hP hS ⊢
        replace hP : va_P (dC, dI) vwCl [(qf2, .inl (cf2, 201, .inl f2)), (qf3, .inl (cf3, 201, .inl f3)), (h0, .inr (6, [.ref qf0, .ref qf1, .ref qf2, .ref qf3, .int v4, .int v5, .ref qf6, .int v7])), (qf0, .inr (9, [.ref qf0_0, .ref qf0_1, .ref qf0_2, .int v0_3, .ref qf0_4, .ref qf0_5, .ref qf0_6, .ref qf0_7, .ref qf0_8, .int v0_9, .int v0_10, .int v0_11, .int v0_12])), (qf0_5, .inl (cf0_5, 1741, .inl f0_5)), (qa2, .inl (ca2, na2, .inl g902_0)), (qf0_4, .inl (cf0_4, 6400, .inl f0_4))] H := hP
        replace hD : va_D A [(qf2, .inl (cf2, 201, .inl f2)), (qf3, .inl (cf3, 201, .inl f3)), (h0, .inr (6, [.ref qf0, .ref qf1, .ref qf2, .ref qf3, .int v4, .int v5, .ref qf6, .int v7])), (qf0, .inr (9, [.ref qf0_0, .ref qf0_1, .ref qf0_2, .int v0_3, .ref qf0_4, .ref qf0_5, .ref qf0_6, .ref qf0_7, .ref qf0_8, .int v0_9, .int v0_10, .int v0_11, .int v0_12])), (qf0_5, .inl (cf0_5, 1741, .inl f0_5)), (qa2, .inl (ca2, na2, .inl g902_0)), (qf0_4, .inl (cf0_4, 6400, .inl f0_4))] := hD
        replace hK : va_K (dC, dI) vwCl [(cf2, .int), (cf3, .int), (cf0_5, .int), (ca2, .byte), (cf0_4, .byte)] s := hK
        have hr0 := Option.some.inj hsp
        clear hsp
        subst hr0
        have hP9 := hP.sub (ws' := [(h0, .inr (6, [.ref qf0, .ref qf1, .ref qf2, .ref qf3, .int v4, .int v5, .ref qf6, .int v7])), (qf2, .inl (cf2, 201, .inl f2)), (qf3, .inl (cf3, 201, .inl f3)), (qf0, .inr (9, [.ref qf0_0, .ref qf0_1, .ref qf0_2, .int v0_3, .ref qf0_4, .ref qf0_5, .ref qf0_6, .ref qf0_7, .ref qf0_8, .int v0_9, .int v0_10, .int v0_11, .int v0_12])), (qf0_5, .inl (cf0_5, 1741, .inl f0_5)), (qa2, .inl (ca2, na2, .inl g902_0)), (qf0_4, .inl (cf0_4, 6400, .inl f0_4))]) [2, 0, 1, 3, 4, 5, 6] rfl
        have hD9 := hD.sub (ws' := [(h0, .inr (6, [.ref qf0, .ref qf1, .ref qf2, .ref qf3, .int v4, .int v5, .ref qf6, .int v7])), (qf2, .inl (cf2, 201, .inl f2)), (qf3, .inl (cf3, 201, .inl f3)), (qf0, .inr (9, [.ref qf0_0, .ref qf0_1, .ref qf0_2, .int v0_3, .ref qf0_4, .ref qf0_5, .ref qf0_6, .ref qf0_7, .ref qf0_8, .int v0_9, .int v0_10, .int v0_11, .int v0_12])), (qf0_5, .inl (cf0_5, 1741, .inl f0_5)), (qa2, .inl (ca2, na2, .inl g902_0)), (qf0_4, .inl (cf0_4, 6400, .inl f0_4))]) [2, 0, 1, 3, 4, 5, 6] (by decide) rfl
        have hK9 := hK.sub (tys' := [(cf2, .int), (cf3, .int), (cf0_5, .int), (ca2, .byte), (cf0_4, .byte)]) [0, 1, 2, 3, 4] rfl
        exact W.vret hx hb hr (fun t ht hW => ⟨⟨(), rfl, trivial, by rw [ht]; exact hP9, va_K.moved hW.alike hK9, hD9⟩, hS.F ht⟩) hS.2.2 dX6_writeConstant_79
    · rw [if_neg c_5] at hsp
      have hr0 := Option.some.inj hsp
      clear hsp
      subst hr0
      have hP9 := hP.sub (ws' := [(h0, .inr (6, [.ref qf0, .ref qf1, .ref qf2, .ref qf3, .int v4, .int v5, .ref qf6, .int v7])), (qf2, .inl (cf2, 201, .inl f2)), (qf3, .inl (cf3, 201, .inl f3)), (qf0, .inr (9, [.ref qf0_0, .ref qf0_1, .ref qf0_2, .int v0_3, .ref qf0_4, .ref qf0_5, .ref qf0_6, .ref qf0_7, .ref qf0_8, .int v0_9, .int v0_10, .int v0_11, .int v0_12])), (qf0_5, .inl (cf0_5, 1741, .inl f0_5)), (qa2, .inl (ca2, na2, .inl fa2)), (qf0_4, .inl (cf0_4, 6400, .inl f0_4))]) [4, 0, 1, 5, 6, 2, 3] rfl
      have hD9 := hD.sub (ws' := [(h0, .inr (6, [.ref qf0, .ref qf1, .ref qf2, .ref qf3, .int v4, .int v5, .ref qf6, .int v7])), (qf2, .inl (cf2, 201, .inl f2)), (qf3, .inl (cf3, 201, .inl f3)), (qf0, .inr (9, [.ref qf0_0, .ref qf0_1, .ref qf0_2, .int v0_3, .ref qf0_4, .ref qf0_5, .ref qf0_6, .ref qf0_7, .ref qf0_8, .int v0_9, .int v0_10, .int v0_11, .int v0_12])), (qf0_5, .inl (cf0_5, 1741, .inl f0_5)), (qa2, .inl (ca2, na2, .inl fa2)), (qf0_4, .inl (cf0_4, 6400, .inl f0_4))]) [4, 0, 1, 5, 6, 2, 3] (by decide) rfl
      have hK9 := hK.sub (tys' := [(cf2, .int), (cf3, .int), (cf0_5, .int), (ca2, .byte), (cf0_4, .byte)]) [0, 1, 4, 2, 3] rfl
      exact W.vret hx hb hr (fun t ht hW => ⟨⟨(), rfl, trivial, by rw [ht]; exact hP9, va_K.moved hW.alike hK9, hD9⟩, hS.F ht⟩) hS.2.2 dX6_writeConstant_31
def jn_v9_scanWord_69 (nf : Nat) (a2 : Int32) (a3 : Int32) (v3 : Int32) (v9 : Int32) (na1 : Nat) (fa1 : Nat → Int32) (f7 : Nat → Int32) (f5 : Nat → Int32) (f4 : Nat → Int32) (f6 : Nat → Int32) (f0 : Nat → Int32) (f1 : Nat → Int32) (f2 : Nat → Int32)  (l3_69 : Int32) (l5_69 : Int32) (l6_69 : Int32) (s0_69 : Int32) (g0_69 : Nat → Int32) (g1_69 : Nat → Int32) (g2_69 : Nat → Int32) (g4_69 : Nat → Int32) (g5_69 : Nat → Int32) (g6_69 : Nat → Int32) (g7_69 : Nat → Int32) (x3_69 : Int32) (x9_69 : Int32) : Option (Int32 × (Nat → Int32) × (Nat → Int32) × (Nat → Int32) × (Nat → Int32) × (Nat → Int32) × (Nat → Int32) × (Nat → Int32) × Int32 × Int32) := (if s0_69 = 0 then ((sp_t9_addToken nf 2 l3_69 l6_69 x3_69 g0_69 g1_69 g2_69).bind (fun p1 => (some (l5_69, p1.1, p1.2.1, p1.2.2.1, g4_69, g5_69, g6_69, g7_69, p1.2.2.2, x9_69)))) else ((sp_t9_addToken nf ((10 + l6_69) - 9) l3_69 l6_69 x3_69 g0_69 g1_69 g2_69).bind (fun p2 => (some (l5_69, p2.1, p2.2.1, p2.2.2.1, g4_69, g5_69, g6_69, g7_69, p2.2.2.2, x9_69)))))
def jn_v9_scanWord_68 (nf : Nat) (a2 : Int32) (a3 : Int32) (v3 : Int32) (v9 : Int32) (na1 : Nat) (fa1 : Nat → Int32) (f7 : Nat → Int32) (f5 : Nat → Int32) (f4 : Nat → Int32) (f6 : Nat → Int32) (f0 : Nat → Int32) (f1 : Nat → Int32) (f2 : Nat → Int32)  (l3_68 : Int32) (l5_68 : Int32) (l6_68 : Int32) (g0_68 : Nat → Int32) (g1_68 : Nat → Int32) (g2_68 : Nat → Int32) (g4_68 : Nat → Int32) (g5_68 : Nat → Int32) (g6_68 : Nat → Int32) (g7_68 : Nat → Int32) (x3_68 : Int32) (x9_68 : Int32) : Option (Int32 × (Nat → Int32) × (Nat → Int32) × (Nat → Int32) × (Nat → Int32) × (Nat → Int32) × (Nat → Int32) × (Nat → Int32) × Int32 × Int32) := (jn_v9_scanWord_69 nf a2 a3 v3 v9 na1 fa1 f7 f5 f4 f6 f0 f1 f2  l3_68 l5_68 l6_68 0 g0_68 g1_68 g2_68 g4_68 g5_68 g6_68 g7_68 x3_68 x9_68)
def jn_v9_scanWord_25 (nf : Nat) (a2 : Int32) (a3 : Int32) (v3 : Int32) (v9 : Int32) (na1 : Nat) (fa1 : Nat → Int32) (f7 : Nat → Int32) (f5 : Nat → Int32) (f4 : Nat → Int32) (f6 : Nat → Int32) (f0 : Nat → Int32) (f1 : Nat → Int32) (f2 : Nat → Int32)  (l3_25 : Int32) (l4_25 : Int32) (g0_25 : Nat → Int32) (g1_25 : Nat → Int32) (g2_25 : Nat → Int32) (g4_25 : Nat → Int32) (g5_25 : Nat → Int32) (g6_25 : Nat → Int32) (g7_25 : Nat → Int32) (x3_25 : Int32) (x9_25 : Int32) : Option (Int32 × (Nat → Int32) × (Nat → Int32) × (Nat → Int32) × (Nat → Int32) × (Nat → Int32) × (Nat → Int32) × (Nat → Int32) × Int32 × Int32) := (if (l4_25 - l3_25) ≤ 12 then ((sp_v9_nameOf nf l3_25 (l4_25 - l3_25) x9_25 na1 fa1 g7_25 g5_25 g4_25 g6_25).bind (fun p1 => (if p1.1 < 9 then (jn_v9_scanWord_68 nf a2 a3 v3 v9 na1 fa1 f7 f5 f4 f6 f0 f1 f2  l3_25 (l4_25 - l3_25) p1.1 g0_25 g1_25 g2_25 p1.2.1 p1.2.2.1 p1.2.2.2.1 p1.2.2.2.2.1 x3_25 p1.2.2.2.2.2) else (if 31 ≤ p1.1 then (jn_v9_scanWord_68 nf a2 a3 v3 v9 na1 fa1 f7 f5 f4 f6 f0 f1 f2  l3_25 (l4_25 - l3_25) p1.1 g0_25 g1_25 g2_25 p1.2.1 p1.2.2.1 p1.2.2.2.1 p1.2.2.2.2.1 x3_25 p1.2.2.2.2.2) else (jn_v9_scanWord_69 nf a2 a3 v3 v9 na1 fa1 f7 f5 f4 f6 f0 f1 f2  l3_25 (l4_25 - l3_25) p1.1 1 g0_25 g1_25 g2_25 p1.2.1 p1.2.2.1 p1.2.2.2.1 p1.2.2.2.2.1 x3_25 p1.2.2.2.2.2))))) else (some (0, g0_25, g1_25, g2_25, g4_25, g5_25, g6_25, g7_25, x3_25, x9_25)))
def lp_v9_scanWord_3 (nf n : Nat) (a2 : Int32) (a3 : Int32) (v3 : Int32) (v9 : Int32) (na1 : Nat) (fa1 : Nat → Int32) (f7 : Nat → Int32) (f5 : Nat → Int32) (f4 : Nat → Int32) (f6 : Nat → Int32) (f0 : Nat → Int32) (f1 : Nat → Int32) (f2 : Nat → Int32)  (l2_3 : Int32) (l3_3 : Int32) (l4_3 : Int32) (g0_3 : Nat → Int32) (g1_3 : Nat → Int32) (g2_3 : Nat → Int32) (g4_3 : Nat → Int32) (g5_3 : Nat → Int32) (g6_3 : Nat → Int32) (g7_3 : Nat → Int32) (x3_3 : Int32) (x9_3 : Int32) : Option (Int32 × (Nat → Int32) × (Nat → Int32) × (Nat → Int32) × (Nat → Int32) × (Nat → Int32) × (Nat → Int32) × (Nat → Int32) × Int32 × Int32) := match n with
  | 0 => none
  | n + 1 => (if l2_3 ≤ l4_3 then (jn_v9_scanWord_25 nf a2 a3 v3 v9 na1 fa1 f7 f5 f4 f6 f0 f1 f2  l3_3 l4_3 g0_3 g1_3 g2_3 g4_3 g5_3 g6_3 g7_3 x3_3 x9_3) else (if l4_3 < 0 then none else if na1 ≤ (l4_3 : Int32).toNatClampNeg then none else ((sp_t9_isNamePart nf (fa1 (l4_3 : Int32).toNatClampNeg)).bind (fun p1 => (if p1 = 0 then (jn_v9_scanWord_25 nf a2 a3 v3 v9 na1 fa1 f7 f5 f4 f6 f0 f1 f2  l3_3 l4_3 g0_3 g1_3 g2_3 g4_3 g5_3 g6_3 g7_3 x3_3 x9_3) else (lp_v9_scanWord_3 nf n a2 a3 v3 v9 na1 fa1 f7 f5 f4 f6 f0 f1 f2 l2_3 l3_3 (l4_3 + 1) g0_3 g1_3 g2_3 g4_3 g5_3 g6_3 g7_3 x3_3 x9_3))))))
def sp_v9_scanWord (nf : Nat) (a2 : Int32) (a3 : Int32) (v3 : Int32) (v9 : Int32) (na1 : Nat) (fa1 : Nat → Int32) (f7 : Nat → Int32) (f5 : Nat → Int32) (f4 : Nat → Int32) (f6 : Nat → Int32) (f0 : Nat → Int32) (f1 : Nat → Int32) (f2 : Nat → Int32) : Option (Int32 × (Nat → Int32) × (Nat → Int32) × (Nat → Int32) × (Nat → Int32) × (Nat → Int32) × (Nat → Int32) × (Nat → Int32) × Int32 × Int32) := (lp_v9_scanWord_3 nf nf a2 a3 v3 v9 na1 fa1 f7 f5 f4 f6 f0 f1 f2  a2 a3 a3 f0 f1 f2 f4 f5 f6 f7 v3 v9)
set_option maxHeartbeats 4000000 in
set_option maxRecDepth 100000 in
/-- ClassMill$Text.scanWord -/
theorem v9_scanWord (l : Launch) (dC : Nat → ClassId) (dI : Nat → Nat → Nat) (sz : Nat) (h0 : Nat) (qa1 : Nat) (a2 : Int32) (a3 : Int32) (qf0 : Nat) (qf1 : Nat) (qf2 : Nat) (v3 : Int32) (qf4 : Nat) (qf5 : Nat) (qf6 : Nat) (qf7 : Nat) (qf8 : Nat) (v9 : Int32) (v10 : Int32) (v11 : Int32) (v12 : Int32) (ca1 : ClassId) (na1 : Nat) (fa1 : (Nat → Int32)) (cf7 : ClassId) (f7 : (Nat → Int32)) (cf5 : ClassId) (f5 : (Nat → Int32)) (cf4 : ClassId) (f4 : (Nat → Int32)) (cf6 : ClassId) (f6 : (Nat → Int32)) (cf0 : ClassId) (f0 : (Nat → Int32)) (cf1 : ClassId) (f1 : (Nat → Int32)) (cf2 : ClassId) (f2 : (Nat → Int32)) (nf : Nat) (r0 : Int32) (o0 : (Nat → Int32)) (o1 : (Nat → Int32)) (o2 : (Nat → Int32)) (o4 : (Nat → Int32)) (o5 : (Nat → Int32)) (o6 : (Nat → Int32)) (o7 : (Nat → Int32)) (w3 : Int32) (w9 : Int32) (hsp : sp_v9_scanWord nf a2 a3 v3 v9 na1 fa1 f7 f5 f4 f6 f0 f1 f2 = some (r0, o0, o1, o2, o4, o5, o6, o7, w3, w9)) : Met l yX9_scanWord (.code yX9_scanWord cX9_scanWord 8 (some .int) :: VS_h7) ({ frames := 3, cells := 0, slots := 0, locals := 70 }) (va_Pc [.ref h0, .ref qa1, .int a2, .int a3] (fun U => U.heap.size = sz ∧ va_P (dC, dI) vwCl [(h0, .inr (9, [.ref qf0, .ref qf1, .ref qf2, .int v3, .ref qf4, .ref qf5, .ref qf6, .ref qf7, .ref qf8, .int v9, .int v10, .int v11, .int v12])), (qa1, .inl (ca1, na1, .inl fa1)), (qf7, .inl (cf7, 64, .inl f7)), (qf5, .inl (cf5, 1741, .inl f5)), (qf4, .inl (cf4, 6400, .inl f4)), (qf6, .inl (cf6, 1740, .inl f6)), (qf0, .inl (cf0, 3001, .inl f0)), (qf1, .inl (cf1, 3001, .inl f1)), (qf2, .inl (cf2, 3001, .inl f2))] U.heap ∧ va_K (dC, dI) vwCl [(ca1, .byte), (cf7, .int), (cf5, .int), (cf4, .byte), (cf6, .int), (cf0, .int), (cf1, .int), (cf2, .int)] U ∧ va_D (fun _ => True) [(h0, .inr (9, [.ref qf0, .ref qf1, .ref qf2, .int v3, .ref qf4, .ref qf5, .ref qf6, .ref qf7, .ref qf8, .int v9, .int v10, .int v11, .int v12])), (qa1, .inl (ca1, na1, .inl fa1)), (qf7, .inl (cf7, 64, .inl f7)), (qf5, .inl (cf5, 1741, .inl f5)), (qf4, .inl (cf4, 6400, .inl f4)), (qf6, .inl (cf6, 1740, .inl f6)), (qf0, .inl (cf0, 3001, .inl f0)), (qf1, .inl (cf1, 3001, .inl f1)), (qf2, .inl (cf2, 3001, .inl f2))])) (va_Qi (fun (r : Int32) (u : Unit) => match u with | () => r0 = r) (fun (u : Unit) (t : State) => match u with | () => va_P (dC, dI) vwCl [(h0, .inr (9, [.ref qf0, .ref qf1, .ref qf2, .int w3, .ref qf4, .ref qf5, .ref qf6, .ref qf7, .ref qf8, .int w9, .int v10, .int v11, .int v12])), (qa1, .inl (ca1, na1, .inl fa1)), (qf7, .inl (cf7, 64, .inl o7)), (qf5, .inl (cf5, 1741, .inl o5)), (qf4, .inl (cf4, 6400, .inl o4)), (qf6, .inl (cf6, 1740, .inl o6)), (qf0, .inl (cf0, 3001, .inl o0)), (qf1, .inl (cf1, 3001, .inl o1)), (qf2, .inl (cf2, 3001, .inl o2))] t.heap ∧ va_K (dC, dI) vwCl [(ca1, .byte), (cf7, .int), (cf5, .int), (cf4, .byte), (cf6, .int), (cf0, .int), (cf1, .int), (cf2, .int)] t ∧ va_D (va_A [(h0, .inr (9, [.ref qf0, .ref qf1, .ref qf2, .int v3, .ref qf4, .ref qf5, .ref qf6, .ref qf7, .ref qf8, .int v9, .int v10, .int v11, .int v12])), (qa1, .inl (ca1, na1, .inl fa1)), (qf7, .inl (cf7, 64, .inl f7)), (qf5, .inl (cf5, 1741, .inl f5)), (qf4, .inl (cf4, 6400, .inl f4)), (qf6, .inl (cf6, 1740, .inl f6)), (qf0, .inl (cf0, 3001, .inl f0)), (qf1, .inl (cf1, 3001, .inl f1)), (qf2, .inl (cf2, 3001, .inl f2))] sz) [(h0, .inr (9, [.ref qf0, .ref qf1, .ref qf2, .int w3, .ref qf4, .ref qf5, .ref qf6, .ref qf7, .ref qf8, .int w9, .int v10, .int v11, .int v12])), (qa1, .inl (ca1, na1, .inl fa1)), (qf7, .inl (cf7, 64, .inl o7)), (qf5, .inl (cf5, 1741, .inl o5)), (qf4, .inl (cf4, 6400, .inl o4)), (qf6, .inl (cf6, 1740, .inl o6)), (qf0, .inl (cf0, 3001, .inl o0)), (qf1, .inl (cf1, 3001, .inl o1)), (qf2, .inl (cf2, 3001, .inl o2))]) (va_A [(h0, .inr (9, [.ref qf0, .ref qf1, .ref qf2, .int v3, .ref qf4, .ref qf5, .ref qf6, .ref qf7, .ref qf8, .int v9, .int v10, .int v11, .int v12])), (qa1, .inl (ca1, na1, .inl fa1)), (qf7, .inl (cf7, 64, .inl f7)), (qf5, .inl (cf5, 1741, .inl f5)), (qf4, .inl (cf4, 6400, .inl f4)), (qf6, .inl (cf6, 1740, .inl f6)), (qf0, .inl (cf0, 3001, .inl f0)), (qf1, .inl (cf1, 3001, .inl f1)), (qf2, .inl (cf2, 3001, .inl f2))] sz)) 0 0 (va_A [(h0, .inr (9, [.ref qf0, .ref qf1, .ref qf2, .int v3, .ref qf4, .ref qf5, .ref qf6, .ref qf7, .ref qf8, .int v9, .int v10, .int v11, .int v12])), (qa1, .inl (ca1, na1, .inl fa1)), (qf7, .inl (cf7, 64, .inl f7)), (qf5, .inl (cf5, 1741, .inl f5)), (qf4, .inl (cf4, 6400, .inl f4)), (qf6, .inl (cf6, 1740, .inl f6)), (qf0, .inl (cf0, 3001, .inl f0)), (qf1, .inl (cf1, 3001, .inl f1)), (qf2, .inl (cf2, 3001, .inl f2))] sz) := by
  refine Met.ofW (cc := cX9_scanWord) (maxL := 8) (ret := (some .int)) (by decide) rfl ?_
  intro p e s m args below meth c s₁ B hml hv
  obtain ⟨rfl, hsz, hP, hK, hD0⟩ := hv
  have hx := B.exec
  have hb := B.bytes
  have hr := B.returns
  have hts := atoms_spec (ws := (.code yX9_scanWord cX9_scanWord 8 (some .int) :: VS_h7)) B.pre
  replace hts := fun w (h : w ∈ VS_h7) => hts w (List.mem_cons_of_mem _ h)
  have hown : s.vm.findClass RX9 = some m.cls := findClass_of_methodNamed B.named
  have hlocks := B.notSynchronized
  subst hsz
  have hD := hD0.self (sz := s.heap.size)
  generalize hAe : va_A [(h0, .inr (9, [.ref qf0, .ref qf1, .ref qf2, .int v3, .ref qf4, .ref qf5, .ref qf6, .ref qf7, .ref qf8, .int v9, .int v10, .int v11, .int v12])), (qa1, .inl (ca1, na1, .inl fa1)), (qf7, .inl (cf7, 64, .inl f7)), (qf5, .inl (cf5, 1741, .inl f5)), (qf4, .inl (cf4, 6400, .inl f4)), (qf6, .inl (cf6, 1740, .inl f6)), (qf0, .inl (cf0, 3001, .inl f0)), (qf1, .inl (cf1, 3001, .inl f1)), (qf2, .inl (cf2, 3001, .inl f2))] s.heap.size = A at hD  ⊢
  have hA : ∀ q : Nat, s.heap.size ≤ q → A q := fun q h => by rw [← hAe]; exact Or.inr h
  have hP : va_P (dC, dI) vwCl [(h0, .inr (9, [.ref qf0, .ref qf1, .ref qf2, .int v3, .ref qf4, .ref qf5, .ref qf6, .ref qf7, .ref qf8, .int v9, .int v10, .int v11, .int v12])), (qa1, .inl (ca1, na1, .inl fa1)), (qf7, .inl (cf7, 64, .inl f7)), (qf5, .inl (cf5, 1741, .inl f5)), (qf4, .inl (cf4, 6400, .inl f4)), (qf6, .inl (cf6, 1740, .inl f6)), (qf0, .inl (cf0, 3001, .inl f0)), (qf1, .inl (cf1, 3001, .inl f1)), (qf2, .inl (cf2, 3001, .inl f2))] s.heap := hP
  have hl := lv_entry ([.ref h0, .ref qa1, .int a2, .int a3]) (n := 8) (Nat.le_of_ble_eq_true rfl)
  rw [lg_entry_eq]
  generalize (lg_sl ([.ref h0, .ref qa1, .int a2, .int a3]) ++ List.replicate (8 - (lg_sl ([.ref h0, .ref qa1, .int a2, .int a3])).length) Slot.unset).toArray = ls at hl ⊢
  have hl : lv_has ls 8 [(0, .ref h0), (1, .ref qa1), (2, .int a2), (3, .int a3)] := hl
  obtain ⟨H, hH⟩ : ∃ H : Heap, s.heap = H := ⟨_, rfl⟩
  rw [hH] at hP ⊢
  have hS : va_S A s.heap H [] := by rw [← hH]; exact va_S.rf
  obtain ⟨locs, hlo⟩ : ∃ locs : List Loc, locs = [] := ⟨_, rfl⟩
  rw [← hlo] at hS ⊢
  unfold sp_v9_scanWord at hsp
  refine jn_use (α := Heap × List Loc × Array Slot × Int32 × Int32 × Int32 × Int32 × (Nat → Int32) × (Nat → Int32) × (Nat → Int32) × (Nat → Int32) × (Nat → Int32) × (Nat → Int32) × (Nat → Int32) × Int32 × Int32) (fun x9 => x9.1) (fun x9 => x9.2.1) (fun x9 => F0 m 69 x9.2.2.1 [.int (x9.2.2.2.2.2.2.1)]) (fun x9 => match x9 with | (H, locs, ls, l3_69, l5_69, l6_69, s0_69, g0_69, g1_69, g2_69, g4_69, g5_69, g6_69, g7_69, x3_69, x9_69) => lv_has ls 8 [(0, .ref h0), (3, .int l3_69), (5, .int l5_69), (6, .int l6_69)] ∧ va_S A s.heap H locs ∧ va_D A [(h0, .inr (9, [.ref qf0, .ref qf1, .ref qf2, .int x3_69, .ref qf4, .ref qf5, .ref qf6, .ref qf7, .ref qf8, .int x9_69, .int v10, .int v11, .int v12])), (qa1, .inl (ca1, na1, .inl fa1)), (qf7, .inl (cf7, 64, .inl g7_69)), (qf5, .inl (cf5, 1741, .inl g5_69)), (qf4, .inl (cf4, 6400, .inl g4_69)), (qf6, .inl (cf6, 1740, .inl g6_69)), (qf0, .inl (cf0, 3001, .inl g0_69)), (qf1, .inl (cf1, 3001, .inl g1_69)), (qf2, .inl (cf2, 3001, .inl g2_69))] ∧ va_P (dC, dI) vwCl [(h0, .inr (9, [.ref qf0, .ref qf1, .ref qf2, .int x3_69, .ref qf4, .ref qf5, .ref qf6, .ref qf7, .ref qf8, .int x9_69, .int v10, .int v11, .int v12])), (qa1, .inl (ca1, na1, .inl fa1)), (qf7, .inl (cf7, 64, .inl g7_69)), (qf5, .inl (cf5, 1741, .inl g5_69)), (qf4, .inl (cf4, 6400, .inl g4_69)), (qf6, .inl (cf6, 1740, .inl g6_69)), (qf0, .inl (cf0, 3001, .inl g0_69)), (qf1, .inl (cf1, 3001, .inl g1_69)), (qf2, .inl (cf2, 3001, .inl g2_69))] H ∧ jn_v9_scanWord_69 nf a2 a3 v3 v9 na1 fa1 f7 f5 f4 f6 f0 f1 f2 l3_69 l5_69 l6_69 s0_69 g0_69 g1_69 g2_69 g4_69 g5_69 g6_69 g7_69 x3_69 x9_69 = some (r0, o0, o1, o2, o4, o5, o6, o7, w3, w9)) ?_ ?_
  · intro x9 hJ9
    obtain ⟨H, locs, ls, l3_69, l5_69, l6_69, s0_69, g0_69, g1_69, g2_69, g4_69, g5_69, g6_69, g7_69, x3_69, x9_69⟩ := x9
    obtain ⟨hl, hS, hD, hP, hsp⟩ := hJ9
    replace hl : lv_has ls 8 [(0, .ref h0), (3, .int l3_69), (5, .int l5_69), (6, .int l6_69)] := hl
    replace hS : va_S A s.heap H locs := hS
    replace hD : va_D A [(h0, .inr (9, [.ref qf0, .ref qf1, .ref qf2, .int x3_69, .ref qf4, .ref qf5, .ref qf6, .ref qf7, .ref qf8, .int x9_69, .int v10, .int v11, .int v12])), (qa1, .inl (ca1, na1, .inl fa1)), (qf7, .inl (cf7, 64, .inl g7_69)), (qf5, .inl (cf5, 1741, .inl g5_69)), (qf4, .inl (cf4, 6400, .inl g4_69)), (qf6, .inl (cf6, 1740, .inl g6_69)), (qf0, .inl (cf0, 3001, .inl g0_69)), (qf1, .inl (cf1, 3001, .inl g1_69)), (qf2, .inl (cf2, 3001, .inl g2_69))] := hD
    replace hP : va_P (dC, dI) vwCl [(h0, .inr (9, [.ref qf0, .ref qf1, .ref qf2, .int x3_69, .ref qf4, .ref qf5, .ref qf6, .ref qf7, .ref qf8, .int x9_69, .int v10, .int v11, .int v12])), (qa1, .inl (ca1, na1, .inl fa1)), (qf7, .inl (cf7, 64, .inl g7_69)), (qf5, .inl (cf5, 1741, .inl g5_69)), (qf4, .inl (cf4, 6400, .inl g4_69)), (qf6, .inl (cf6, 1740, .inl g6_69)), (qf0, .inl (cf0, 3001, .inl g0_69)), (qf1, .inl (cf1, 3001, .inl g1_69)), (qf2, .inl (cf2, 3001, .inl g2_69))] H := hP
    replace hsp : jn_v9_scanWord_69 nf a2 a3 v3 v9 na1 fa1 f7 f5 f4 f6 f0 f1 f2 l3_69 l5_69 l6_69 s0_69 g0_69 g1_69 g2_69 g4_69 g5_69 g6_69 g7_69 x3_69 x9_69 = some (r0, o0, o1, o2, o4, o5, o6, o7, w3, w9) := hsp
    show W _ _ _ _ _ _ _ _ _ _ H locs _ _ _ (F0 m 69 ls [.int s0_69])
    unfold jn_v9_scanWord_69 at hsp
    try dsimp only at hsp
    refine lv_istore (lv' := [(7, .int s0_69), (0, .ref h0), (3, .int l3_69), (5, .int l5_69), (6, .int l6_69)]) hx hb dX9_scanWord_69 hl (by decide) rfl (fun ls hl => ?_)
    refine lv_aload_n hx hb dX9_scanWord_71 rfl (lv_at hl 1 rfl) ?_
    refine lv_iload hx hb dX9_scanWord_72 (lv_at hl 0 rfl) ?_
    refine lv_if_eq (tgt := 88) hx hb dX9_scanWord_74 (by decide) (fun c_10 => ?_) (fun c_10 => ?_)
    · rw [if_pos c_10] at hsp
      refine lv_iconst (v := 2) hx hb dX9_scanWord_88 (by decide) ?_
      refine lv_iload_n hx hb dX9_scanWord_89 rfl (lv_at hl 2 rfl) ?_
      refine lv_iload hx hb dX9_scanWord_90 (lv_at hl 4 rfl) ?_
      obtain ⟨⟨g903_0, g903_1, g903_2, u3_3⟩, hu_3, hsp⟩ := ox_bind hsp
      try dsimp only at hsp
      have hPc := hP.sub (ws' := [(h0, .inr (9, [.ref qf0, .ref qf1, .ref qf2, .int x3_69, .ref qf4, .ref qf5, .ref qf6, .ref qf7, .ref qf8, .int x9_69, .int v10, .int v11, .int v12])), (qf0, .inl (cf0, 3001, .inl g0_69)), (qf1, .inl (cf1, 3001, .inl g1_69)), (qf2, .inl (cf2, 3001, .inl g2_69))]) [0, 6, 7, 8] rfl
      have hDc := hD.sub (ws' := [(h0, .inr (9, [.ref qf0, .ref qf1, .ref qf2, .int x3_69, .ref qf4, .ref qf5, .ref qf6, .ref qf7, .ref qf8, .int x9_69, .int v10, .int v11, .int v12])), (qf0, .inl (cf0, 3001, .inl g0_69)), (qf1, .inl (cf1, 3001, .inl g1_69)), (qf2, .inl (cf2, 3001, .inl g2_69))]) [0, 6, 7, 8] (by decide) rfl
      have hKc := hK.sub (tys' := [(cf0, .int), (cf1, .int), (cf2, .int)]) [5, 6, 7] rfl
      have hFc := va_free (wc := [(h0, .inr (9, [.ref qf0, .ref qf1, .ref qf2, .int x3_69, .ref qf4, .ref qf5, .ref qf6, .ref qf7, .ref qf8, .int x9_69, .int v10, .int v11, .int v12])), (qf0, .inl (cf0, 3001, .inl g0_69)), (qf1, .inl (cf1, 3001, .inl g1_69)), (qf2, .inl (cf2, 3001, .inl g2_69))]) hD hS hA [0, 6, 7, 8] rfl
      refine va_callv (va_runV (As := [.int 2, .int l3_69, .int l6_69]) (rest := []) ⟨hx, hb, hml, hown, hts⟩ (t9_addToken l dC dI H.size h0 2 l3_69 l6_69 qf0 qf1 qf2 x3_69 qf4 qf5 qf6 qf7 qf8 x9_69 v10 v11 v12 cf0 g0_69 cf1 g1_69 cf2 g2_69 nf g903_0 g903_1 g903_2 u3_3 hu_3) (cwV 3 hts gv_h7_63 rfl rfl rfl (by decide +kernel) ⟨Nat.le_of_ble_eq_true rfl, Nat.le_of_ble_eq_true rfl⟩) ⟨fun a U g mk q => by obtain ⟨q0, q1, qP, qK, qD⟩ := q; exact ⟨q0, q1, qP, va_K.moved (u := U) (U := U.calling g mk a) (Vm.Alike.refl U.vm) qK, qD⟩, va_recv hKc hPc (ci := 9) (q0 := 0) rfl rfl, fun U hU hW => ⟨rfl, by rw [hU], by rw [hU]; exact hPc, va_K.moved hW.alike hKc, hDc.weaken (fun _ _ _ _ => trivial)⟩⟩ rfl rfl hl.1 rfl (lv_room (Nat.le_of_ble_eq_true rfl)) dX9_scanWord_92 ⟨Nat.le_of_ble_eq_true rfl, Nat.le_of_ble_eq_true rfl⟩) hS (fun q _ h => hFc q h) hFc ?_
      clear hS
      intro u t H1 locs ht hvm hw hB hz1 hk1 hS
      obtain ⟨⟩ := u
      obtain ⟨hP1, hK1, hD1⟩ := hB
      rw [ht] at hP1
      have hK1 := va_K.moved hvm.symm hK1
      try dsimp only at hw
      have hPD := va_join (wr := [(qa1, .inl (ca1, na1, .inl fa1)), (qf7, .inl (cf7, 64, .inl g7_69)), (qf5, .inl (cf5, 1741, .inl g5_69)), (qf4, .inl (cf4, 6400, .inl g4_69)), (qf6, .inl (cf6, 1740, .inl g6_69))]) (w1 := [(h0, .inr (9, [.ref qf0, .ref qf1, .ref qf2, .int u3_3, .ref qf4, .ref qf5, .ref qf6, .ref qf7, .ref qf8, .int x9_69, .int v10, .int v11, .int v12])), (qf0, .inl (cf0, 3001, .inl g903_0)), (qf1, .inl (cf1, 3001, .inl g903_1)), (qf2, .inl (cf2, 3001, .inl g903_2))]) hP hD [0, 6, 7, 8] [1, 2, 3, 4, 5] rfl rfl (by decide) (by decide) hk1 hFc hP1 hD1
      clear hP hD
      obtain ⟨hP, hD⟩ := hPD
      replace hK := (hK.sub (tys' := [(ca1, .byte), (cf7, .int), (cf5, .int), (cf4, .byte), (cf6, .int)]) [0, 1, 2, 3, 4] rfl).app hK1
      clear hPc hDc hKc hFc hP1 hK1 hD1 hz1 hk1 ht hvm
      generalize H1 = H at hP hS ⊢
      replace hP : va_P (dC, dI) vwCl [(qa1, .inl (ca1, na1, .inl fa1)), (qf7, .inl (cf7, 64, .inl g7_69)), (qf5, .inl (cf5, 1741, .inl g5_69)), (qf4, .inl (cf4, 6400, .inl g4_69)), (qf6, .inl (cf6, 1740, .inl g6_69)), (h0, .inr (9, [.ref qf0, .ref qf1, .ref qf2, .int u3_3, .ref qf4, .ref qf5, .ref qf6, .ref qf7, .ref qf8, .int x9_69, .int v10, .int v11, .int v12])), (qf0, .inl (cf0, 3001, .inl g903_0)), (qf1, .inl (cf1, 3001, .inl g903_1)), (qf2, .inl (cf2, 3001, .inl g903_2))] H := hP
      replace hD : va_D A [(qa1, .inl (ca1, na1, .inl fa1)), (qf7, .inl (cf7, 64, .inl g7_69)), (qf5, .inl (cf5, 1741, .inl g5_69)), (qf4, .inl (cf4, 6400, .inl g4_69)), (qf6, .inl (cf6, 1740, .inl g6_69)), (h0, .inr (9, [.ref qf0, .ref qf1, .ref qf2, .int u3_3, .ref qf4, .ref qf5, .ref qf6, .ref qf7, .ref qf8, .int x9_69, .int v10, .int v11, .int v12])), (qf0, .inl (cf0, 3001, .inl g903_0)), (qf1, .inl (cf1, 3001, .inl g903_1)), (qf2, .inl (cf2, 3001, .inl g903_2))] := hD
      replace hK : va_K (dC, dI) vwCl [(ca1, .byte), (cf7, .int), (cf5, .int), (cf4, .byte), (cf6, .int), (cf0, .int), (cf1, .int), (cf2, .int)] s := hK
      refine lv_iload hx hb dX9_scanWord_95 (lv_at hl 3 rfl) ?_
      have hr0 := Option.some.inj hsp
      clear hsp
      obtain ⟨hq0, hr1⟩ := Prod.mk.inj hr0
      clear hr0
      obtain ⟨hq1, hr2⟩ := Prod.mk.inj hr1
      clear hr1
      obtain ⟨hq2, hr3⟩ := Prod.mk.inj hr2
      clear hr2
      obtain ⟨hq3, hr4⟩ := Prod.mk.inj hr3
      clear hr3
      obtain ⟨hq4, hr5⟩ := Prod.mk.inj hr4
      clear hr4
      obtain ⟨hq5, hr6⟩ := Prod.mk.inj hr5
      clear hr5
      obtain ⟨hq6, hr7⟩ := Prod.mk.inj hr6
      clear hr6
      obtain ⟨hq7, hr8⟩ := Prod.mk.inj hr7
      clear hr7
      obtain ⟨hq8, hr9⟩ := Prod.mk.inj hr8
      clear hr8
      subst hq0
      subst hq1
      subst hq2
      subst hq3
      subst hq4
      subst hq5
      subst hq6
      subst hq7
      subst hq8
      subst hr9
      have hP9 := hP.sub (ws' := [(h0, .inr (9, [.ref qf0, .ref qf1, .ref qf2, .int u3_3, .ref qf4, .ref qf5, .ref qf6, .ref qf7, .ref qf8, .int x9_69, .int v10, .int v11, .int v12])), (qa1, .inl (ca1, na1, .inl fa1)), (qf7, .inl (cf7, 64, .inl g7_69)), (qf5, .inl (cf5, 1741, .inl g5_69)), (qf4, .inl (cf4, 6400, .inl g4_69)), (qf6, .inl (cf6, 1740, .inl g6_69)), (qf0, .inl (cf0, 3001, .inl g903_0)), (qf1, .inl (cf1, 3001, .inl g903_1)), (qf2, .inl (cf2, 3001, .inl g903_2))]) [5, 0, 1, 2, 3, 4, 6, 7, 8] rfl
      have hD9 := hD.sub (ws' := [(h0, .inr (9, [.ref qf0, .ref qf1, .ref qf2, .int u3_3, .ref qf4, .ref qf5, .ref qf6, .ref qf7, .ref qf8, .int x9_69, .int v10, .int v11, .int v12])), (qa1, .inl (ca1, na1, .inl fa1)), (qf7, .inl (cf7, 64, .inl g7_69)), (qf5, .inl (cf5, 1741, .inl g5_69)), (qf4, .inl (cf4, 6400, .inl g4_69)), (qf6, .inl (cf6, 1740, .inl g6_69)), (qf0, .inl (cf0, 3001, .inl g903_0)), (qf1, .inl (cf1, 3001, .inl g903_1)), (qf2, .inl (cf2, 3001, .inl g903_2))]) [5, 0, 1, 2, 3, 4, 6, 7, 8] (by decide) rfl
      have hK9 := hK.sub (tys' := [(ca1, .byte), (cf7, .int), (cf5, .int), (cf4, .byte), (cf6, .int), (cf0, .int), (cf1, .int), (cf2, .int)]) [0, 1, 2, 3, 4, 5, 6, 7] rfl
      exact W.iret hx hb hr (fun t ht hW => ⟨⟨(l5_69), (), rfl, rfl, by rw [ht]; exact hP9, va_K.moved hW.alike hK9, hD9⟩, hS.F ht⟩) hS.2.2 dX9_scanWord_97
    · rw [if_neg c_10] at hsp
      refine lv_bipush (v := 10) hx hb dX9_scanWord_77 (by decide) ?_
      refine lv_iload hx hb dX9_scanWord_79 (lv_at hl 4 rfl) ?_
      refine lv_iadd hx hb dX9_scanWord_81 ?_
      refine lv_bipush (v := 9) hx hb dX9_scanWord_82 (by decide) ?_
      refine lv_isub hx hb dX9_scanWord_84 ?_
      refine lv_goto (tgt := 89) hx hb dX9_scanWord_85 (by decide) ?_
      refine lv_iload_n hx hb dX9_scanWord_89 rfl (lv_at hl 2 rfl) ?_
      refine lv_iload hx hb dX9_scanWord_90 (lv_at hl 4 rfl) ?_
      obtain ⟨⟨g904_0, g904_1, g904_2, u4_3⟩, hu_4, hsp⟩ := ox_bind hsp
      try dsimp only at hsp
      have hPc := hP.sub (ws' := [(h0, .inr (9, [.ref qf0, .ref qf1, .ref qf2, .int x3_69, .ref qf4, .ref qf5, .ref qf6, .ref qf7, .ref qf8, .int x9_69, .int v10, .int v11, .int v12])), (qf0, .inl (cf0, 3001, .inl g0_69)), (qf1, .inl (cf1, 3001, .inl g1_69)), (qf2, .inl (cf2, 3001, .inl g2_69))]) [0, 6, 7, 8] rfl
      have hDc := hD.sub (ws' := [(h0, .inr (9, [.ref qf0, .ref qf1, .ref qf2, .int x3_69, .ref qf4, .ref qf5, .ref qf6, .ref qf7, .ref qf8, .int x9_69, .int v10, .int v11, .int v12])), (qf0, .inl (cf0, 3001, .inl g0_69)), (qf1, .inl (cf1, 3001, .inl g1_69)), (qf2, .inl (cf2, 3001, .inl g2_69))]) [0, 6, 7, 8] (by decide) rfl
      have hKc := hK.sub (tys' := [(cf0, .int), (cf1, .int), (cf2, .int)]) [5, 6, 7] rfl
      have hFc := va_free (wc := [(h0, .inr (9, [.ref qf0, .ref qf1, .ref qf2, .int x3_69, .ref qf4, .ref qf5, .ref qf6, .ref qf7, .ref qf8, .int x9_69, .int v10, .int v11, .int v12])), (qf0, .inl (cf0, 3001, .inl g0_69)), (qf1, .inl (cf1, 3001, .inl g1_69)), (qf2, .inl (cf2, 3001, .inl g2_69))]) hD hS hA [0, 6, 7, 8] rfl
      refine va_callv (va_runV (As := [.int ((10 + l6_69) - 9), .int l3_69, .int l6_69]) (rest := []) ⟨hx, hb, hml, hown, hts⟩ (t9_addToken l dC dI H.size h0 (((10 + l6_69) - 9)) l3_69 l6_69 qf0 qf1 qf2 x3_69 qf4 qf5 qf6 qf7 qf8 x9_69 v10 v11 v12 cf0 g0_69 cf1 g1_69 cf2 g2_69 nf g904_0 g904_1 g904_2 u4_3 hu_4) (cwV 3 hts gv_h7_63 rfl rfl rfl (by decide +kernel) ⟨Nat.le_of_ble_eq_true rfl, Nat.le_of_ble_eq_true rfl⟩) ⟨fun a U g mk q => by obtain ⟨q0, q1, qP, qK, qD⟩ := q; exact ⟨q0, q1, qP, va_K.moved (u := U) (U := U.calling g mk a) (Vm.Alike.refl U.vm) qK, qD⟩, va_recv hKc hPc (ci := 9) (q0 := 0) rfl rfl, fun U hU hW => ⟨rfl, by rw [hU], by rw [hU]; exact hPc, va_K.moved hW.alike hKc, hDc.weaken (fun _ _ _ _ => trivial)⟩⟩ rfl rfl hl.1 rfl (lv_room (Nat.le_of_ble_eq_true rfl)) dX9_scanWord_92 ⟨Nat.le_of_ble_eq_true rfl, Nat.le_of_ble_eq_true rfl⟩) hS (fun q _ h => hFc q h) hFc ?_
      clear hS
      intro u t H1 locs ht hvm hw hB hz1 hk1 hS
      obtain ⟨⟩ := u
      obtain ⟨hP1, hK1, hD1⟩ := hB
      rw [ht] at hP1
      have hK1 := va_K.moved hvm.symm hK1
      try dsimp only at hw
      have hPD := va_join (wr := [(qa1, .inl (ca1, na1, .inl fa1)), (qf7, .inl (cf7, 64, .inl g7_69)), (qf5, .inl (cf5, 1741, .inl g5_69)), (qf4, .inl (cf4, 6400, .inl g4_69)), (qf6, .inl (cf6, 1740, .inl g6_69))]) (w1 := [(h0, .inr (9, [.ref qf0, .ref qf1, .ref qf2, .int u4_3, .ref qf4, .ref qf5, .ref qf6, .ref qf7, .ref qf8, .int x9_69, .int v10, .int v11, .int v12])), (qf0, .inl (cf0, 3001, .inl g904_0)), (qf1, .inl (cf1, 3001, .inl g904_1)), (qf2, .inl (cf2, 3001, .inl g904_2))]) hP hD [0, 6, 7, 8] [1, 2, 3, 4, 5] rfl rfl (by decide) (by decide) hk1 hFc hP1 hD1
      clear hP hD
      obtain ⟨hP, hD⟩ := hPD
      replace hK := (hK.sub (tys' := [(ca1, .byte), (cf7, .int), (cf5, .int), (cf4, .byte), (cf6, .int)]) [0, 1, 2, 3, 4] rfl).app hK1
      clear hPc hDc hKc hFc hP1 hK1 hD1 hz1 hk1 ht hvm
      generalize H1 = H at hP hS ⊢
      replace hP : va_P (dC, dI) vwCl [(qa1, .inl (ca1, na1, .inl fa1)), (qf7, .inl (cf7, 64, .inl g7_69)), (qf5, .inl (cf5, 1741, .inl g5_69)), (qf4, .inl (cf4, 6400, .inl g4_69)), (qf6, .inl (cf6, 1740, .inl g6_69)), (h0, .inr (9, [.ref qf0, .ref qf1, .ref qf2, .int u4_3, .ref qf4, .ref qf5, .ref qf6, .ref qf7, .ref qf8, .int x9_69, .int v10, .int v11, .int v12])), (qf0, .inl (cf0, 3001, .inl g904_0)), (qf1, .inl (cf1, 3001, .inl g904_1)), (qf2, .inl (cf2, 3001, .inl g904_2))] H := hP
      replace hD : va_D A [(qa1, .inl (ca1, na1, .inl fa1)), (qf7, .inl (cf7, 64, .inl g7_69)), (qf5, .inl (cf5, 1741, .inl g5_69)), (qf4, .inl (cf4, 6400, .inl g4_69)), (qf6, .inl (cf6, 1740, .inl g6_69)), (h0, .inr (9, [.ref qf0, .ref qf1, .ref qf2, .int u4_3, .ref qf4, .ref qf5, .ref qf6, .ref qf7, .ref qf8, .int x9_69, .int v10, .int v11, .int v12])), (qf0, .inl (cf0, 3001, .inl g904_0)), (qf1, .inl (cf1, 3001, .inl g904_1)), (qf2, .inl (cf2, 3001, .inl g904_2))] := hD
      replace hK : va_K (dC, dI) vwCl [(ca1, .byte), (cf7, .int), (cf5, .int), (cf4, .byte), (cf6, .int), (cf0, .int), (cf1, .int), (cf2, .int)] s := hK
      refine lv_iload hx hb dX9_scanWord_95 (lv_at hl 3 rfl) ?_
      have hr0 := Option.some.inj hsp
      clear hsp
      obtain ⟨hq0, hr1⟩ := Prod.mk.inj hr0
      clear hr0
      obtain ⟨hq1, hr2⟩ := Prod.mk.inj hr1
      clear hr1
      obtain ⟨hq2, hr3⟩ := Prod.mk.inj hr2
      clear hr2
      obtain ⟨hq3, hr4⟩ := Prod.mk.inj hr3
      clear hr3
      obtain ⟨hq4, hr5⟩ := Prod.mk.inj hr4
      clear hr4
      obtain ⟨hq5, hr6⟩ := Prod.mk.inj hr5
      clear hr5
      obtain ⟨hq6, hr7⟩ := Prod.mk.inj hr6
      clear hr6
      obtain ⟨hq7, hr8⟩ := Prod.mk.inj hr7
      clear hr7
      obtain ⟨hq8, hr9⟩ := Prod.mk.inj hr8
      clear hr8
      subst hq0
      subst hq1
      subst hq2
      subst hq3
      subst hq4
      subst hq5
      subst hq6
      subst hq7
      subst hq8
      subst hr9
      have hP9 := hP.sub (ws' := [(h0, .inr (9, [.ref qf0, .ref qf1, .ref qf2, .int u4_3, .ref qf4, .ref qf5, .ref qf6, .ref qf7, .ref qf8, .int x9_69, .int v10, .int v11, .int v12])), (qa1, .inl (ca1, na1, .inl fa1)), (qf7, .inl (cf7, 64, .inl g7_69)), (qf5, .inl (cf5, 1741, .inl g5_69)), (qf4, .inl (cf4, 6400, .inl g4_69)), (qf6, .inl (cf6, 1740, .inl g6_69)), (qf0, .inl (cf0, 3001, .inl g904_0)), (qf1, .inl (cf1, 3001, .inl g904_1)), (qf2, .inl (cf2, 3001, .inl g904_2))]) [5, 0, 1, 2, 3, 4, 6, 7, 8] rfl
      have hD9 := hD.sub (ws' := [(h0, .inr (9, [.ref qf0, .ref qf1, .ref qf2, .int u4_3, .ref qf4, .ref qf5, .ref qf6, .ref qf7, .ref qf8, .int x9_69, .int v10, .int v11, .int v12])), (qa1, .inl (ca1, na1, .inl fa1)), (qf7, .inl (cf7, 64, .inl g7_69)), (qf5, .inl (cf5, 1741, .inl g5_69)), (qf4, .inl (cf4, 6400, .inl g4_69)), (qf6, .inl (cf6, 1740, .inl g6_69)), (qf0, .inl (cf0, 3001, .inl g904_0)), (qf1, .inl (cf1, 3001, .inl g904_1)), (qf2, .inl (cf2, 3001, .inl g904_2))]) [5, 0, 1, 2, 3, 4, 6, 7, 8] (by decide) rfl
      have hK9 := hK.sub (tys' := [(ca1, .byte), (cf7, .int), (cf5, .int), (cf4, .byte), (cf6, .int), (cf0, .int), (cf1, .int), (cf2, .int)]) [0, 1, 2, 3, 4, 5, 6, 7] rfl
      exact W.iret hx hb hr (fun t ht hW => ⟨⟨(l5_69), (), rfl, rfl, by rw [ht]; exact hP9, va_K.moved hW.alike hK9, hD9⟩, hS.F ht⟩) hS.2.2 dX9_scanWord_97
  intro hj_69
  refine jn_use (α := Heap × List Loc × Array Slot × Int32 × Int32 × Int32 × (Nat → Int32) × (Nat → Int32) × (Nat → Int32) × (Nat → Int32) × (Nat → Int32) × (Nat → Int32) × (Nat → Int32) × Int32 × Int32) (fun x9 => x9.1) (fun x9 => x9.2.1) (fun x9 => F0 m 68 x9.2.2.1 []) (fun x9 => match x9 with | (H, locs, ls, l3_68, l5_68, l6_68, g0_68, g1_68, g2_68, g4_68, g5_68, g6_68, g7_68, x3_68, x9_68) => lv_has ls 8 [(0, .ref h0), (3, .int l3_68), (5, .int l5_68), (6, .int l6_68)] ∧ va_S A s.heap H locs ∧ va_D A [(h0, .inr (9, [.ref qf0, .ref qf1, .ref qf2, .int x3_68, .ref qf4, .ref qf5, .ref qf6, .ref qf7, .ref qf8, .int x9_68, .int v10, .int v11, .int v12])), (qa1, .inl (ca1, na1, .inl fa1)), (qf7, .inl (cf7, 64, .inl g7_68)), (qf5, .inl (cf5, 1741, .inl g5_68)), (qf4, .inl (cf4, 6400, .inl g4_68)), (qf6, .inl (cf6, 1740, .inl g6_68)), (qf0, .inl (cf0, 3001, .inl g0_68)), (qf1, .inl (cf1, 3001, .inl g1_68)), (qf2, .inl (cf2, 3001, .inl g2_68))] ∧ va_P (dC, dI) vwCl [(h0, .inr (9, [.ref qf0, .ref qf1, .ref qf2, .int x3_68, .ref qf4, .ref qf5, .ref qf6, .ref qf7, .ref qf8, .int x9_68, .int v10, .int v11, .int v12])), (qa1, .inl (ca1, na1, .inl fa1)), (qf7, .inl (cf7, 64, .inl g7_68)), (qf5, .inl (cf5, 1741, .inl g5_68)), (qf4, .inl (cf4, 6400, .inl g4_68)), (qf6, .inl (cf6, 1740, .inl g6_68)), (qf0, .inl (cf0, 3001, .inl g0_68)), (qf1, .inl (cf1, 3001, .inl g1_68)), (qf2, .inl (cf2, 3001, .inl g2_68))] H ∧ jn_v9_scanWord_68 nf a2 a3 v3 v9 na1 fa1 f7 f5 f4 f6 f0 f1 f2 l3_68 l5_68 l6_68 g0_68 g1_68 g2_68 g4_68 g5_68 g6_68 g7_68 x3_68 x9_68 = some (r0, o0, o1, o2, o4, o5, o6, o7, w3, w9)) ?_ ?_
  · intro x9 hJ9
    obtain ⟨H, locs, ls, l3_68, l5_68, l6_68, g0_68, g1_68, g2_68, g4_68, g5_68, g6_68, g7_68, x3_68, x9_68⟩ := x9
    obtain ⟨hl, hS, hD, hP, hsp⟩ := hJ9
    replace hl : lv_has ls 8 [(0, .ref h0), (3, .int l3_68), (5, .int l5_68), (6, .int l6_68)] := hl
    replace hS : va_S A s.heap H locs := hS
    replace hD : va_D A [(h0, .inr (9, [.ref qf0, .ref qf1, .ref qf2, .int x3_68, .ref qf4, .ref qf5, .ref qf6, .ref qf7, .ref qf8, .int x9_68, .int v10, .int v11, .int v12])), (qa1, .inl (ca1, na1, .inl fa1)), (qf7, .inl (cf7, 64, .inl g7_68)), (qf5, .inl (cf5, 1741, .inl g5_68)), (qf4, .inl (cf4, 6400, .inl g4_68)), (qf6, .inl (cf6, 1740, .inl g6_68)), (qf0, .inl (cf0, 3001, .inl g0_68)), (qf1, .inl (cf1, 3001, .inl g1_68)), (qf2, .inl (cf2, 3001, .inl g2_68))] := hD
    replace hP : va_P (dC, dI) vwCl [(h0, .inr (9, [.ref qf0, .ref qf1, .ref qf2, .int x3_68, .ref qf4, .ref qf5, .ref qf6, .ref qf7, .ref qf8, .int x9_68, .int v10, .int v11, .int v12])), (qa1, .inl (ca1, na1, .inl fa1)), (qf7, .inl (cf7, 64, .inl g7_68)), (qf5, .inl (cf5, 1741, .inl g5_68)), (qf4, .inl (cf4, 6400, .inl g4_68)), (qf6, .inl (cf6, 1740, .inl g6_68)), (qf0, .inl (cf0, 3001, .inl g0_68)), (qf1, .inl (cf1, 3001, .inl g1_68)), (qf2, .inl (cf2, 3001, .inl g2_68))] H := hP
    replace hsp : jn_v9_scanWord_68 nf a2 a3 v3 v9 na1 fa1 f7 f5 f4 f6 f0 f1 f2 l3_68 l5_68 l6_68 g0_68 g1_68 g2_68 g4_68 g5_68 g6_68 g7_68 x3_68 x9_68 = some (r0, o0, o1, o2, o4, o5, o6, o7, w3, w9) := hsp
    show W _ _ _ _ _ _ _ _ _ _ H locs _ _ _ (F0 m 68 ls [])
    unfold jn_v9_scanWord_68 at hsp
    try dsimp only at hsp
    refine lv_iconst (v := 0) hx hb dX9_scanWord_68 (by decide) ?_
    exact hj_69 (H, locs, ls, l3_68, l5_68, l6_68, 0, g0_68, g1_68, g2_68, g4_68, g5_68, g6_68, g7_68, x3_68, x9_68) ⟨lv_sub hl [0, 1, 2, 3] rfl, hS, hD.sub (ws' := [(h0, .inr (9, [.ref qf0, .ref qf1, .ref qf2, .int x3_68, .ref qf4, .ref qf5, .ref qf6, .ref qf7, .ref qf8, .int x9_68, .int v10, .int v11, .int v12])), (qa1, .inl (ca1, na1, .inl fa1)), (qf7, .inl (cf7, 64, .inl g7_68)), (qf5, .inl (cf5, 1741, .inl g5_68)), (qf4, .inl (cf4, 6400, .inl g4_68)), (qf6, .inl (cf6, 1740, .inl g6_68)), (qf0, .inl (cf0, 3001, .inl g0_68)), (qf1, .inl (cf1, 3001, .inl g1_68)), (qf2, .inl (cf2, 3001, .inl g2_68))]) [0, 1, 2, 3, 4, 5, 6, 7, 8] (by decide) rfl, hP.sub (ws' := [(h0, .inr (9, [.ref qf0, .ref qf1, .ref qf2, .int x3_68, .ref qf4, .ref qf5, .ref qf6, .ref qf7, .ref qf8, .int x9_68, .int v10, .int v11, .int v12])), (qa1, .inl (ca1, na1, .inl fa1)), (qf7, .inl (cf7, 64, .inl g7_68)), (qf5, .inl (cf5, 1741, .inl g5_68)), (qf4, .inl (cf4, 6400, .inl g4_68)), (qf6, .inl (cf6, 1740, .inl g6_68)), (qf0, .inl (cf0, 3001, .inl g0_68)), (qf1, .inl (cf1, 3001, .inl g1_68)), (qf2, .inl (cf2, 3001, .inl g2_68))]) [0, 1, 2, 3, 4, 5, 6, 7, 8] rfl, hsp⟩
  intro hj_68
  refine jn_use (α := Heap × List Loc × Array Slot × Int32 × Int32 × (Nat → Int32) × (Nat → Int32) × (Nat → Int32) × (Nat → Int32) × (Nat → Int32) × (Nat → Int32) × (Nat → Int32) × Int32 × Int32) (fun x9 => x9.1) (fun x9 => x9.2.1) (fun x9 => F0 m 25 x9.2.2.1 []) (fun x9 => match x9 with | (H, locs, ls, l3_25, l4_25, g0_25, g1_25, g2_25, g4_25, g5_25, g6_25, g7_25, x3_25, x9_25) => lv_has ls 8 [(0, .ref h0), (1, .ref qa1), (3, .int l3_25), (4, .int l4_25)] ∧ va_S A s.heap H locs ∧ va_D A [(h0, .inr (9, [.ref qf0, .ref qf1, .ref qf2, .int x3_25, .ref qf4, .ref qf5, .ref qf6, .ref qf7, .ref qf8, .int x9_25, .int v10, .int v11, .int v12])), (qa1, .inl (ca1, na1, .inl fa1)), (qf7, .inl (cf7, 64, .inl g7_25)), (qf5, .inl (cf5, 1741, .inl g5_25)), (qf4, .inl (cf4, 6400, .inl g4_25)), (qf6, .inl (cf6, 1740, .inl g6_25)), (qf0, .inl (cf0, 3001, .inl g0_25)), (qf1, .inl (cf1, 3001, .inl g1_25)), (qf2, .inl (cf2, 3001, .inl g2_25))] ∧ va_P (dC, dI) vwCl [(h0, .inr (9, [.ref qf0, .ref qf1, .ref qf2, .int x3_25, .ref qf4, .ref qf5, .ref qf6, .ref qf7, .ref qf8, .int x9_25, .int v10, .int v11, .int v12])), (qa1, .inl (ca1, na1, .inl fa1)), (qf7, .inl (cf7, 64, .inl g7_25)), (qf5, .inl (cf5, 1741, .inl g5_25)), (qf4, .inl (cf4, 6400, .inl g4_25)), (qf6, .inl (cf6, 1740, .inl g6_25)), (qf0, .inl (cf0, 3001, .inl g0_25)), (qf1, .inl (cf1, 3001, .inl g1_25)), (qf2, .inl (cf2, 3001, .inl g2_25))] H ∧ jn_v9_scanWord_25 nf a2 a3 v3 v9 na1 fa1 f7 f5 f4 f6 f0 f1 f2 l3_25 l4_25 g0_25 g1_25 g2_25 g4_25 g5_25 g6_25 g7_25 x3_25 x9_25 = some (r0, o0, o1, o2, o4, o5, o6, o7, w3, w9)) ?_ ?_
  · intro x9 hJ9
    obtain ⟨H, locs, ls, l3_25, l4_25, g0_25, g1_25, g2_25, g4_25, g5_25, g6_25, g7_25, x3_25, x9_25⟩ := x9
    obtain ⟨hl, hS, hD, hP, hsp⟩ := hJ9
    replace hl : lv_has ls 8 [(0, .ref h0), (1, .ref qa1), (3, .int l3_25), (4, .int l4_25)] := hl
    replace hS : va_S A s.heap H locs := hS
    replace hD : va_D A [(h0, .inr (9, [.ref qf0, .ref qf1, .ref qf2, .int x3_25, .ref qf4, .ref qf5, .ref qf6, .ref qf7, .ref qf8, .int x9_25, .int v10, .int v11, .int v12])), (qa1, .inl (ca1, na1, .inl fa1)), (qf7, .inl (cf7, 64, .inl g7_25)), (qf5, .inl (cf5, 1741, .inl g5_25)), (qf4, .inl (cf4, 6400, .inl g4_25)), (qf6, .inl (cf6, 1740, .inl g6_25)), (qf0, .inl (cf0, 3001, .inl g0_25)), (qf1, .inl (cf1, 3001, .inl g1_25)), (qf2, .inl (cf2, 3001, .inl g2_25))] := hD
    replace hP : va_P (dC, dI) vwCl [(h0, .inr (9, [.ref qf0, .ref qf1, .ref qf2, .int x3_25, .ref qf4, .ref qf5, .ref qf6, .ref qf7, .ref qf8, .int x9_25, .int v10, .int v11, .int v12])), (qa1, .inl (ca1, na1, .inl fa1)), (qf7, .inl (cf7, 64, .inl g7_25)), (qf5, .inl (cf5, 1741, .inl g5_25)), (qf4, .inl (cf4, 6400, .inl g4_25)), (qf6, .inl (cf6, 1740, .inl g6_25)), (qf0, .inl (cf0, 3001, .inl g0_25)), (qf1, .inl (cf1, 3001, .inl g1_25)), (qf2, .inl (cf2, 3001, .inl g2_25))] H := hP
    replace hsp : jn_v9_scanWord_25 nf a2 a3 v3 v9 na1 fa1 f7 f5 f4 f6 f0 f1 f2 l3_25 l4_25 g0_25 g1_25 g2_25 g4_25 g5_25 g6_25 g7_25 x3_25 x9_25 = some (r0, o0, o1, o2, o4, o5, o6, o7, w3, w9) := hsp
    show W _ _ _ _ _ _ _ _ _ _ H locs _ _ _ (F0 m 25 ls [])
    unfold jn_v9_scanWord_25 at hsp
    try dsimp only at hsp
    refine lv_iload hx hb dX9_scanWord_25 (lv_at hl 3 rfl) ?_
    refine lv_iload_n hx hb dX9_scanWord_27 rfl (lv_at hl 2 rfl) ?_
    refine lv_isub hx hb dX9_scanWord_28 ?_
    refine lv_istore (lv' := [(5, .int (l4_25 - l3_25)), (0, .ref h0), (1, .ref qa1), (3, .int l3_25), (4, .int l4_25)]) hx hb dX9_scanWord_29 hl (by decide) rfl (fun ls hl => ?_)
    refine lv_iload hx hb dX9_scanWord_31 (lv_at hl 0 rfl) ?_
    refine lv_bipush (v := 12) hx hb dX9_scanWord_33 (by decide) ?_
    refine lv_icmp_le (tgt := 40) hx hb dX9_scanWord_35 (by decide) (fun c_6 => ?_) (fun c_6 => ?_)
    · rw [if_pos c_6] at hsp
      refine lv_aload_n hx hb dX9_scanWord_40 rfl (lv_at hl 1 rfl) ?_
      refine lv_aload_n hx hb dX9_scanWord_41 rfl (lv_at hl 2 rfl) ?_
      refine lv_iload_n hx hb dX9_scanWord_42 rfl (lv_at hl 3 rfl) ?_
      refine lv_iload hx hb dX9_scanWord_43 (lv_at hl 0 rfl) ?_
      obtain ⟨⟨u2_0, g902_1, g902_2, g902_3, g902_4, u2_5⟩, hu_2, hsp⟩ := ox_bind hsp
      try dsimp only at hsp
      have hPc := hP.sub (ws' := [(h0, .inr (9, [.ref qf0, .ref qf1, .ref qf2, .int x3_25, .ref qf4, .ref qf5, .ref qf6, .ref qf7, .ref qf8, .int x9_25, .int v10, .int v11, .int v12])), (qa1, .inl (ca1, na1, .inl fa1)), (qf7, .inl (cf7, 64, .inl g7_25)), (qf5, .inl (cf5, 1741, .inl g5_25)), (qf4, .inl (cf4, 6400, .inl g4_25)), (qf6, .inl (cf6, 1740, .inl g6_25))]) [0, 1, 2, 3, 4, 5] rfl
      have hDc := hD.sub (ws' := [(h0, .inr (9, [.ref qf0, .ref qf1, .ref qf2, .int x3_25, .ref qf4, .ref qf5, .ref qf6, .ref qf7, .ref qf8, .int x9_25, .int v10, .int v11, .int v12])), (qa1, .inl (ca1, na1, .inl fa1)), (qf7, .inl (cf7, 64, .inl g7_25)), (qf5, .inl (cf5, 1741, .inl g5_25)), (qf4, .inl (cf4, 6400, .inl g4_25)), (qf6, .inl (cf6, 1740, .inl g6_25))]) [0, 1, 2, 3, 4, 5] (by decide) rfl
      have hKc := hK.sub (tys' := [(ca1, .byte), (cf7, .int), (cf5, .int), (cf4, .byte), (cf6, .int)]) [0, 1, 2, 3, 4] rfl
      have hFc := va_free (wc := [(h0, .inr (9, [.ref qf0, .ref qf1, .ref qf2, .int x3_25, .ref qf4, .ref qf5, .ref qf6, .ref qf7, .ref qf8, .int x9_25, .int v10, .int v11, .int v12])), (qa1, .inl (ca1, na1, .inl fa1)), (qf7, .inl (cf7, 64, .inl g7_25)), (qf5, .inl (cf5, 1741, .inl g5_25)), (qf4, .inl (cf4, 6400, .inl g4_25)), (qf6, .inl (cf6, 1740, .inl g6_25))]) hD hS hA [0, 1, 2, 3, 4, 5] rfl
      refine va_calli (va_runV (As := [.ref qa1, .int l3_25, .int (l4_25 - l3_25)]) (rest := []) ⟨hx, hb, hml, hown, hts⟩ (v9_nameOf l dC dI H.size h0 qa1 l3_25 ((l4_25 - l3_25)) qf0 qf1 qf2 x3_25 qf4 qf5 qf6 qf7 qf8 x9_25 v10 v11 v12 ca1 na1 fa1 cf7 g7_25 cf5 g5_25 cf4 g4_25 cf6 g6_25 nf u2_0 g902_1 g902_2 g902_3 g902_4 u2_5 hu_2) (cwV 3 hts gv_h7_126 rfl rfl rfl (by decide +kernel) ⟨Nat.le_of_ble_eq_true rfl, Nat.le_of_ble_eq_true rfl⟩) ⟨fun a U g mk q => by obtain ⟨q0, q1, qP, qK, qD⟩ := q; exact ⟨q0, q1, qP, va_K.moved (u := U) (U := U.calling g mk a) (Vm.Alike.refl U.vm) qK, qD⟩, va_recv hKc hPc (ci := 9) (q0 := 0) rfl rfl, fun U hU hW => ⟨rfl, by rw [hU], by rw [hU]; exact hPc, va_K.moved hW.alike hKc, hDc.weaken (fun _ _ _ _ => trivial)⟩⟩ rfl rfl hl.1 rfl (lv_room (Nat.le_of_ble_eq_true rfl)) dX9_scanWord_45 ⟨Nat.le_of_ble_eq_true rfl, Nat.le_of_ble_eq_true rfl⟩) hS (fun q _ h => hFc q h) hFc ?_
      clear hS
      intro r_7 u t H1 locs ht hvm hw hB hz1 hk1 hS
      obtain ⟨⟩ := u
      obtain ⟨hP1, hK1, hD1⟩ := hB
      rw [ht] at hP1
      have hK1 := va_K.moved hvm.symm hK1
      try dsimp only at hw
      have hPD := va_join (wr := [(qf0, .inl (cf0, 3001, .inl g0_25)), (qf1, .inl (cf1, 3001, .inl g1_25)), (qf2, .inl (cf2, 3001, .inl g2_25))]) (w1 := [(h0, .inr (9, [.ref qf0, .ref qf1, .ref qf2, .int x3_25, .ref qf4, .ref qf5, .ref qf6, .ref qf7, .ref qf8, .int u2_5, .int v10, .int v11, .int v12])), (qa1, .inl (ca1, na1, .inl fa1)), (qf7, .inl (cf7, 64, .inl g902_4)), (qf5, .inl (cf5, 1741, .inl g902_2)), (qf4, .inl (cf4, 6400, .inl g902_1)), (qf6, .inl (cf6, 1740, .inl g902_3))]) hP hD [0, 1, 2, 3, 4, 5] [6, 7, 8] rfl rfl (by decide) (by decide) hk1 hFc hP1 hD1
      clear hP hD
      obtain ⟨hP, hD⟩ := hPD
      replace hK := (hK.sub (tys' := [(cf0, .int), (cf1, .int), (cf2, .int)]) [5, 6, 7] rfl).app hK1
      clear hPc hDc hKc hFc hP1 hK1 hD1 hz1 hk1 ht hvm
      generalize H1 = H at hP hS ⊢
      replace hP : va_P (dC, dI) vwCl [(qf0, .inl (cf0, 3001, .inl g0_25)), (qf1, .inl (cf1, 3001, .inl g1_25)), (qf2, .inl (cf2, 3001, .inl g2_25)), (h0, .inr (9, [.ref qf0, .ref qf1, .ref qf2, .int x3_25, .ref qf4, .ref qf5, .ref qf6, .ref qf7, .ref qf8, .int u2_5, .int v10, .int v11, .int v12])), (qa1, .inl (ca1, na1, .inl fa1)), (qf7, .inl (cf7, 64, .inl g902_4)), (qf5, .inl (cf5, 1741, .inl g902_2)), (qf4, .inl (cf4, 6400, .inl g902_1)), (qf6, .inl (cf6, 1740, .inl g902_3))] H := hP
      replace hD : va_D A [(qf0, .inl (cf0, 3001, .inl g0_25)), (qf1, .inl (cf1, 3001, .inl g1_25)), (qf2, .inl (cf2, 3001, .inl g2_25)), (h0, .inr (9, [.ref qf0, .ref qf1, .ref qf2, .int x3_25, .ref qf4, .ref qf5, .ref qf6, .ref qf7, .ref qf8, .int u2_5, .int v10, .int v11, .int v12])), (qa1, .inl (ca1, na1, .inl fa1)), (qf7, .inl (cf7, 64, .inl g902_4)), (qf5, .inl (cf5, 1741, .inl g902_2)), (qf4, .inl (cf4, 6400, .inl g902_1)), (qf6, .inl (cf6, 1740, .inl g902_3))] := hD
      replace hK : va_K (dC, dI) vwCl [(cf0, .int), (cf1, .int), (cf2, .int), (ca1, .byte), (cf7, .int), (cf5, .int), (cf4, .byte), (cf6, .int)] s := hK
      obtain rfl := hw
      refine lv_istore (lv' := [(6, .int u2_0), (5, .int (l4_25 - l3_25)), (0, .ref h0), (1, .ref qa1), (3, .int l3_25), (4, .int l4_25)]) hx hb dX9_scanWord_48 hl (by decide) rfl (fun ls hl => ?_)
      refine lv_iload hx hb dX9_scanWord_50 (lv_at hl 0 rfl) ?_
      refine lv_bipush (v := 9) hx hb dX9_scanWord_52 (by decide) ?_
      refine lv_icmp_lt (tgt := 68) hx hb dX9_scanWord_54 (by decide) (fun c_8 => ?_) (fun c_8 => ?_)
      · rw [if_pos c_8] at hsp
        exact hj_68 (H, locs, ls, l3_25, (l4_25 - l3_25), u2_0, g0_25, g1_25, g2_25, g902_1, g902_2, g902_3, g902_4, x3_25, u2_5) ⟨lv_sub hl [2, 4, 1, 0] rfl, hS, hD.sub (ws' := [(h0, .inr (9, [.ref qf0, .ref qf1, .ref qf2, .int x3_25, .ref qf4, .ref qf5, .ref qf6, .ref qf7, .ref qf8, .int u2_5, .int v10, .int v11, .int v12])), (qa1, .inl (ca1, na1, .inl fa1)), (qf7, .inl (cf7, 64, .inl g902_4)), (qf5, .inl (cf5, 1741, .inl g902_2)), (qf4, .inl (cf4, 6400, .inl g902_1)), (qf6, .inl (cf6, 1740, .inl g902_3)), (qf0, .inl (cf0, 3001, .inl g0_25)), (qf1, .inl (cf1, 3001, .inl g1_25)), (qf2, .inl (cf2, 3001, .inl g2_25))]) [3, 4, 5, 6, 7, 8, 0, 1, 2] (by decide) rfl, hP.sub (ws' := [(h0, .inr (9, [.ref qf0, .ref qf1, .ref qf2, .int x3_25, .ref qf4, .ref qf5, .ref qf6, .ref qf7, .ref qf8, .int u2_5, .int v10, .int v11, .int v12])), (qa1, .inl (ca1, na1, .inl fa1)), (qf7, .inl (cf7, 64, .inl g902_4)), (qf5, .inl (cf5, 1741, .inl g902_2)), (qf4, .inl (cf4, 6400, .inl g902_1)), (qf6, .inl (cf6, 1740, .inl g902_3)), (qf0, .inl (cf0, 3001, .inl g0_25)), (qf1, .inl (cf1, 3001, .inl g1_25)), (qf2, .inl (cf2, 3001, .inl g2_25))]) [3, 4, 5, 6, 7, 8, 0, 1, 2] rfl, hsp⟩
      · rw [if_neg c_8] at hsp
        refine lv_iload hx hb dX9_scanWord_57 (lv_at hl 0 rfl) ?_
        refine lv_bipush (v := 31) hx hb dX9_scanWord_59 (by decide) ?_
        refine lv_icmp_ge (tgt := 68) hx hb dX9_scanWord_61 (by decide) (fun c_9 => ?_) (fun c_9 => ?_)
        · rw [if_pos c_9] at hsp
          exact hj_68 (H, locs, ls, l3_25, (l4_25 - l3_25), u2_0, g0_25, g1_25, g2_25, g902_1, g902_2, g902_3, g902_4, x3_25, u2_5) ⟨lv_sub hl [2, 4, 1, 0] rfl, hS, hD.sub (ws' := [(h0, .inr (9, [.ref qf0, .ref qf1, .ref qf2, .int x3_25, .ref qf4, .ref qf5, .ref qf6, .ref qf7, .ref qf8, .int u2_5, .int v10, .int v11, .int v12])), (qa1, .inl (ca1, na1, .inl fa1)), (qf7, .inl (cf7, 64, .inl g902_4)), (qf5, .inl (cf5, 1741, .inl g902_2)), (qf4, .inl (cf4, 6400, .inl g902_1)), (qf6, .inl (cf6, 1740, .inl g902_3)), (qf0, .inl (cf0, 3001, .inl g0_25)), (qf1, .inl (cf1, 3001, .inl g1_25)), (qf2, .inl (cf2, 3001, .inl g2_25))]) [3, 4, 5, 6, 7, 8, 0, 1, 2] (by decide) rfl, hP.sub (ws' := [(h0, .inr (9, [.ref qf0, .ref qf1, .ref qf2, .int x3_25, .ref qf4, .ref qf5, .ref qf6, .ref qf7, .ref qf8, .int u2_5, .int v10, .int v11, .int v12])), (qa1, .inl (ca1, na1, .inl fa1)), (qf7, .inl (cf7, 64, .inl g902_4)), (qf5, .inl (cf5, 1741, .inl g902_2)), (qf4, .inl (cf4, 6400, .inl g902_1)), (qf6, .inl (cf6, 1740, .inl g902_3)), (qf0, .inl (cf0, 3001, .inl g0_25)), (qf1, .inl (cf1, 3001, .inl g1_25)), (qf2, .inl (cf2, 3001, .inl g2_25))]) [3, 4, 5, 6, 7, 8, 0, 1, 2] rfl, hsp⟩
        · rw [if_neg c_9] at hsp
          refine lv_iconst (v := 1) hx hb dX9_scanWord_64 (by decide) ?_
          refine lv_goto (tgt := 69) hx hb dX9_scanWord_65 (by decide) ?_
          exact hj_69 (H, locs, ls, l3_25, (l4_25 - l3_25), u2_0, 1, g0_25, g1_25, g2_25, g902_1, g902_2, g902_3, g902_4, x3_25, u2_5) ⟨lv_sub hl [2, 4, 1, 0] rfl, hS, hD.sub (ws' := [(h0, .inr (9, [.ref qf0, .ref qf1, .ref qf2, .int x3_25, .ref qf4, .ref qf5, .ref qf6, .ref qf7, .ref qf8, .int u2_5, .int v10, .int v11, .int v12])), (qa1, .inl (ca1, na1, .inl fa1)), (qf7, .inl (cf7, 64, .inl g902_4)), (qf5, .inl (cf5, 1741, .inl g902_2)), (qf4, .inl (cf4, 6400, .inl g902_1)), (qf6, .inl (cf6, 1740, .inl g902_3)), (qf0, .inl (cf0, 3001, .inl g0_25)), (qf1, .inl (cf1, 3001, .inl g1_25)), (qf2, .inl (cf2, 3001, .inl g2_25))]) [3, 4, 5, 6, 7, 8, 0, 1, 2] (by decide) rfl, hP.sub (ws' := [(h0, .inr (9, [.ref qf0, .ref qf1, .ref qf2, .int x3_25, .ref qf4, .ref qf5, .ref qf6, .ref qf7, .ref qf8, .int u2_5, .int v10, .int v11, .int v12])), (qa1, .inl (ca1, na1, .inl fa1)), (qf7, .inl (cf7, 64, .inl g902_4)), (qf5, .inl (cf5, 1741, .inl g902_2)), (qf4, .inl (cf4, 6400, .inl g902_1)), (qf6, .inl (cf6, 1740, .inl g902_3)), (qf0, .inl (cf0, 3001, .inl g0_25)), (qf1, .inl (cf1, 3001, .inl g1_25)), (qf2, .inl (cf2, 3001, .inl g2_25))]) [3, 4, 5, 6, 7, 8, 0, 1, 2] rfl, hsp⟩
    · rw [if_neg c_6] at hsp
      refine lv_iconst (v := 0) hx hb dX9_scanWord_38 (by decide) ?_
      have hr0 := Option.some.inj hsp
      clear hsp
      obtain ⟨hq0, hr1⟩ := Prod.mk.inj hr0
      clear hr0
      obtain ⟨hq1, hr2⟩ := Prod.mk.inj hr1
      clear hr1
      obtain ⟨hq2, hr3⟩ := Prod.mk.inj hr2
      clear hr2
      obtain ⟨hq3, hr4⟩ := Prod.mk.inj hr3
      clear hr3
      obtain ⟨hq4, hr5⟩ := Prod.mk.inj hr4
      clear hr4
      obtain ⟨hq5, hr6⟩ := Prod.mk.inj hr5
      clear hr5
      obtain ⟨hq6, hr7⟩ := Prod.mk.inj hr6
      clear hr6
      obtain ⟨hq7, hr8⟩ := Prod.mk.inj hr7
      clear hr7
      obtain ⟨hq8, hr9⟩ := Prod.mk.inj hr8
      clear hr8
      subst hq0
      subst hq1
      subst hq2
      subst hq3
      subst hq4
      subst hq5
      subst hq6
      subst hq7
      subst hq8
      subst hr9
      have hP9 := hP.sub (ws' := [(h0, .inr (9, [.ref qf0, .ref qf1, .ref qf2, .int x3_25, .ref qf4, .ref qf5, .ref qf6, .ref qf7, .ref qf8, .int x9_25, .int v10, .int v11, .int v12])), (qa1, .inl (ca1, na1, .inl fa1)), (qf7, .inl (cf7, 64, .inl g7_25)), (qf5, .inl (cf5, 1741, .inl g5_25)), (qf4, .inl (cf4, 6400, .inl g4_25)), (qf6, .inl (cf6, 1740, .inl g6_25)), (qf0, .inl (cf0, 3001, .inl g0_25)), (qf1, .inl (cf1, 3001, .inl g1_25)), (qf2, .inl (cf2, 3001, .inl g2_25))]) [0, 1, 2, 3, 4, 5, 6, 7, 8] rfl
      have hD9 := hD.sub (ws' := [(h0, .inr (9, [.ref qf0, .ref qf1, .ref qf2, .int x3_25, .ref qf4, .ref qf5, .ref qf6, .ref qf7, .ref qf8, .int x9_25, .int v10, .int v11, .int v12])), (qa1, .inl (ca1, na1, .inl fa1)), (qf7, .inl (cf7, 64, .inl g7_25)), (qf5, .inl (cf5, 1741, .inl g5_25)), (qf4, .inl (cf4, 6400, .inl g4_25)), (qf6, .inl (cf6, 1740, .inl g6_25)), (qf0, .inl (cf0, 3001, .inl g0_25)), (qf1, .inl (cf1, 3001, .inl g1_25)), (qf2, .inl (cf2, 3001, .inl g2_25))]) [0, 1, 2, 3, 4, 5, 6, 7, 8] (by decide) rfl
      have hK9 := hK.sub (tys' := [(ca1, .byte), (cf7, .int), (cf5, .int), (cf4, .byte), (cf6, .int), (cf0, .int), (cf1, .int), (cf2, .int)]) [0, 1, 2, 3, 4, 5, 6, 7] rfl
      exact W.iret hx hb hr (fun t ht hW => ⟨⟨(0), (), rfl, rfl, by rw [ht]; exact hP9, va_K.moved hW.alike hK9, hD9⟩, hS.F ht⟩) hS.2.2 dX9_scanWord_39
  intro hj_25
  refine lv_iload_n hx hb dX9_scanWord_0 rfl (lv_at hl 3 rfl) ?_
  refine lv_istore (lv' := [(4, .int a3), (0, .ref h0), (1, .ref qa1), (2, .int a2), (3, .int a3)]) hx hb dX9_scanWord_1 hl (by decide) rfl (fun ls hl => ?_)
  replace hl : lv_has ls 8 [(4, .int a3), (0, .ref h0), (1, .ref qa1), (2, .int a2), (3, .int a3)] := lv_sub hl [0, 1, 2, 3, 4] rfl
  replace hP := hP.sub (ws' := [(h0, .inr (9, [.ref qf0, .ref qf1, .ref qf2, .int v3, .ref qf4, .ref qf5, .ref qf6, .ref qf7, .ref qf8, .int v9, .int v10, .int v11, .int v12])), (qa1, .inl (ca1, na1, .inl fa1)), (qf7, .inl (cf7, 64, .inl f7)), (qf5, .inl (cf5, 1741, .inl f5)), (qf4, .inl (cf4, 6400, .inl f4)), (qf6, .inl (cf6, 1740, .inl f6)), (qf0, .inl (cf0, 3001, .inl f0)), (qf1, .inl (cf1, 3001, .inl f1)), (qf2, .inl (cf2, 3001, .inl f2))]) [0, 1, 2, 3, 4, 5, 6, 7, 8] rfl
  replace hD := hD.sub (ws' := [(h0, .inr (9, [.ref qf0, .ref qf1, .ref qf2, .int v3, .ref qf4, .ref qf5, .ref qf6, .ref qf7, .ref qf8, .int v9, .int v10, .int v11, .int v12])), (qa1, .inl (ca1, na1, .inl fa1)), (qf7, .inl (cf7, 64, .inl f7)), (qf5, .inl (cf5, 1741, .inl f5)), (qf4, .inl (cf4, 6400, .inl f4)), (qf6, .inl (cf6, 1740, .inl f6)), (qf0, .inl (cf0, 3001, .inl f0)), (qf1, .inl (cf1, 3001, .inl f1)), (qf2, .inl (cf2, 3001, .inl f2))]) [0, 1, 2, 3, 4, 5, 6, 7, 8] (by decide) rfl
  replace hK := hK.sub (tys' := [(ca1, .byte), (cf7, .int), (cf5, .int), (cf4, .byte), (cf6, .int), (cf0, .int), (cf1, .int), (cf2, .int)]) [0, 1, 2, 3, 4, 5, 6, 7] rfl
  obtain ⟨n_3, hn_3⟩ : ∃ z : Nat, z = nf := ⟨_, rfl⟩
  obtain ⟨l2_3, el2_3⟩ : ∃ z : Int32, z = a2 := ⟨_, rfl⟩
  obtain ⟨l3_3, el3_3⟩ : ∃ z : Int32, z = a3 := ⟨_, rfl⟩
  obtain ⟨l4_3, el4_3⟩ : ∃ z : Int32, z = a3 := ⟨_, rfl⟩
  obtain ⟨g0_3, eg0_3⟩ : ∃ z : Nat → Int32, z = f0 := ⟨_, rfl⟩
  obtain ⟨g1_3, eg1_3⟩ : ∃ z : Nat → Int32, z = f1 := ⟨_, rfl⟩
  obtain ⟨g2_3, eg2_3⟩ : ∃ z : Nat → Int32, z = f2 := ⟨_, rfl⟩
  obtain ⟨g4_3, eg4_3⟩ : ∃ z : Nat → Int32, z = f4 := ⟨_, rfl⟩
  obtain ⟨g5_3, eg5_3⟩ : ∃ z : Nat → Int32, z = f5 := ⟨_, rfl⟩
  obtain ⟨g6_3, eg6_3⟩ : ∃ z : Nat → Int32, z = f6 := ⟨_, rfl⟩
  obtain ⟨g7_3, eg7_3⟩ : ∃ z : Nat → Int32, z = f7 := ⟨_, rfl⟩
  obtain ⟨x3_3, ex3_3⟩ : ∃ z : Int32, z = v3 := ⟨_, rfl⟩
  obtain ⟨x9_3, ex9_3⟩ : ∃ z : Int32, z = v9 := ⟨_, rfl⟩
  replace hsp : lp_v9_scanWord_3 nf n_3 a2 a3 v3 v9 na1 fa1 f7 f5 f4 f6 f0 f1 f2 l2_3 l3_3 l4_3 g0_3 g1_3 g2_3 g4_3 g5_3 g6_3 g7_3 x3_3 x9_3 = some (r0, o0, o1, o2, o4, o5, o6, o7, w3, w9) := by rw [hn_3, el2_3, el3_3, el4_3, eg0_3, eg1_3, eg2_3, eg4_3, eg5_3, eg6_3, eg7_3, ex3_3, ex9_3]; exact hsp
  replace hl : lv_has ls 8 [(4, .int l4_3), (0, .ref h0), (1, .ref qa1), (2, .int l2_3), (3, .int l3_3)] := by rw [el2_3, el3_3, el4_3]; exact hl
  replace hP : va_P (dC, dI) vwCl [(h0, .inr (9, [.ref qf0, .ref qf1, .ref qf2, .int x3_3, .ref qf4, .ref qf5, .ref qf6, .ref qf7, .ref qf8, .int x9_3, .int v10, .int v11, .int v12])), (qa1, .inl (ca1, na1, .inl fa1)), (qf7, .inl (cf7, 64, .inl g7_3)), (qf5, .inl (cf5, 1741, .inl g5_3)), (qf4, .inl (cf4, 6400, .inl g4_3)), (qf6, .inl (cf6, 1740, .inl g6_3)), (qf0, .inl (cf0, 3001, .inl g0_3)), (qf1, .inl (cf1, 3001, .inl g1_3)), (qf2, .inl (cf2, 3001, .inl g2_3))] H := by rw [eg0_3, eg1_3, eg2_3, eg4_3, eg5_3, eg6_3, eg7_3, ex3_3, ex9_3]; exact hP
  replace hD : va_D A [(h0, .inr (9, [.ref qf0, .ref qf1, .ref qf2, .int x3_3, .ref qf4, .ref qf5, .ref qf6, .ref qf7, .ref qf8, .int x9_3, .int v10, .int v11, .int v12])), (qa1, .inl (ca1, na1, .inl fa1)), (qf7, .inl (cf7, 64, .inl g7_3)), (qf5, .inl (cf5, 1741, .inl g5_3)), (qf4, .inl (cf4, 6400, .inl g4_3)), (qf6, .inl (cf6, 1740, .inl g6_3)), (qf0, .inl (cf0, 3001, .inl g0_3)), (qf1, .inl (cf1, 3001, .inl g1_3)), (qf2, .inl (cf2, 3001, .inl g2_3))] := by rw [eg0_3, eg1_3, eg2_3, eg4_3, eg5_3, eg6_3, eg7_3, ex3_3, ex9_3]; exact hD
  clear hn_3 el2_3 el3_3 el4_3 eg0_3 eg1_3 eg2_3 eg4_3 eg5_3 eg6_3 eg7_3 ex3_3 ex9_3
  try clear hlo
  try clear hH
  revert hsp
  revert hP
  revert hD
  revert hS
  revert hl
  revert x9_3
  revert x3_3
  revert g7_3
  revert g6_3
  revert g5_3
  revert g4_3
  revert g2_3
  revert g1_3
  revert g0_3
  revert l4_3
  revert l3_3
  revert l2_3
  revert ls
  revert locs
  revert H
  induction n_3 with
  | zero => intro H locs ls l2_3 l3_3 l4_3 g0_3 g1_3 g2_3 g4_3 g5_3 g6_3 g7_3 x3_3 x9_3  hl hS hD hP hsp; unfold lp_v9_scanWord_3 at hsp; cases hsp
  | succ n_3 ih_3 =>
    intro H locs ls l2_3 l3_3 l4_3 g0_3 g1_3 g2_3 g4_3 g5_3 g6_3 g7_3 x3_3 x9_3  hl hS hD hP hsp
    unfold lp_v9_scanWord_3 at hsp
    try dsimp only at hsp
    refine lv_iload hx hb dX9_scanWord_3 (lv_at hl 0 rfl) ?_
    refine lv_iload_n hx hb dX9_scanWord_5 rfl (lv_at hl 3 rfl) ?_
    refine lv_icmp_ge (tgt := 25) hx hb dX9_scanWord_6 (by decide) (fun c_1 => ?_) (fun c_1 => ?_)
    · rw [if_pos c_1] at hsp
      exact hj_25 (H, locs, ls, l3_3, l4_3, g0_3, g1_3, g2_3, g4_3, g5_3, g6_3, g7_3, x3_3, x9_3) ⟨lv_sub hl [1, 2, 4, 0] rfl, hS, hD.sub (ws' := [(h0, .inr (9, [.ref qf0, .ref qf1, .ref qf2, .int x3_3, .ref qf4, .ref qf5, .ref qf6, .ref qf7, .ref qf8, .int x9_3, .int v10, .int v11, .int v12])), (qa1, .inl (ca1, na1, .inl fa1)), (qf7, .inl (cf7, 64, .inl g7_3)), (qf5, .inl (cf5, 1741, .inl g5_3)), (qf4, .inl (cf4, 6400, .inl g4_3)), (qf6, .inl (cf6, 1740, .inl g6_3)), (qf0, .inl (cf0, 3001, .inl g0_3)), (qf1, .inl (cf1, 3001, .inl g1_3)), (qf2, .inl (cf2, 3001, .inl g2_3))]) [0, 1, 2, 3, 4, 5, 6, 7, 8] (by decide) rfl, hP.sub (ws' := [(h0, .inr (9, [.ref qf0, .ref qf1, .ref qf2, .int x3_3, .ref qf4, .ref qf5, .ref qf6, .ref qf7, .ref qf8, .int x9_3, .int v10, .int v11, .int v12])), (qa1, .inl (ca1, na1, .inl fa1)), (qf7, .inl (cf7, 64, .inl g7_3)), (qf5, .inl (cf5, 1741, .inl g5_3)), (qf4, .inl (cf4, 6400, .inl g4_3)), (qf6, .inl (cf6, 1740, .inl g6_3)), (qf0, .inl (cf0, 3001, .inl g0_3)), (qf1, .inl (cf1, 3001, .inl g1_3)), (qf2, .inl (cf2, 3001, .inl g2_3))]) [0, 1, 2, 3, 4, 5, 6, 7, 8] rfl, hsp⟩
    · rw [if_neg c_1] at hsp
      refine lv_aload_n hx hb dX9_scanWord_9 rfl (lv_at hl 2 rfl) ?_
      refine lv_iload hx hb dX9_scanWord_10 (lv_at hl 0 rfl) ?_
      obtain ⟨hi_2, hsp⟩ := ox_in hsp
      refine va_bald hx hb hK hP 1 0 rfl rfl (i := l4_3) hi_2 dX9_scanWord_12 ?_
      obtain ⟨u1_0, hu_1, hsp⟩ := ox_bind hsp
      try dsimp only at hsp
      have hPc := hP.sub (ws' := []) [] rfl
      have hDc := hD.sub (ws' := []) [] (by decide) rfl
      have hKc := hK.sub (tys' := []) [] rfl
      have hFc := va_free (wc := []) hD hS hA [] rfl
      refine va_calli (va_runS (As := [.int (fa1 (l4_3 : Int32).toNatClampNeg)]) (rest := []) ⟨hx, hb, hml, hown, hts⟩ (t9_isNamePart l dC dI H.size ((fa1 (l4_3 : Int32).toNatClampNeg)) nf u1_0 hu_1) (va_cwS 1 hts gv_h7_66 rfl rfl rfl (by decide +kernel) ⟨Nat.le_of_ble_eq_true rfl, Nat.le_of_ble_eq_true rfl⟩) ⟨fun a U g mk q => by obtain ⟨q0, q1, qP, qK, qD⟩ := q; exact ⟨q0, q1, qP, va_K.moved (u := U) (U := U.calling g mk a) (Vm.Alike.refl U.vm) qK, qD⟩, fun U hU hW => ⟨rfl, by rw [hU], by rw [hU]; exact hPc, va_K.moved hW.alike hKc, hDc.weaken (fun _ _ _ _ => trivial)⟩⟩ rfl rfl hl.1 rfl (lv_room (Nat.le_of_ble_eq_true rfl)) dX9_scanWord_13 ⟨Nat.le_of_ble_eq_true rfl, Nat.le_of_ble_eq_true rfl⟩) hS (fun q _ h => hFc q h) hFc ?_
      clear hS
      intro r_3 u t H1 locs ht hvm hw hB hz1 hk1 hS
      obtain ⟨⟩ := u
      obtain ⟨hP1, hK1, hD1⟩ := hB
      rw [ht] at hP1
      have hK1 := va_K.moved hvm.symm hK1
      try dsimp only at hw
      have hPD := va_join (wr := [(h0, .inr (9, [.ref qf0, .ref qf1, .ref qf2, .int x3_3, .ref qf4, .ref qf5, .ref qf6, .ref qf7, .ref qf8, .int x9_3, .int v10, .int v11, .int v12])), (qa1, .inl (ca1, na1, .inl fa1)), (qf7, .inl (cf7, 64, .inl g7_3)), (qf5, .inl (cf5, 1741, .inl g5_3)), (qf4, .inl (cf4, 6400, .inl g4_3)), (qf6, .inl (cf6, 1740, .inl g6_3)), (qf0, .inl (cf0, 3001, .inl g0_3)), (qf1, .inl (cf1, 3001, .inl g1_3)), (qf2, .inl (cf2, 3001, .inl g2_3))]) (w1 := []) hP hD [] [0, 1, 2, 3, 4, 5, 6, 7, 8] rfl rfl (by decide) (by decide) hk1 hFc hP1 hD1
      clear hP hD
      obtain ⟨hP, hD⟩ := hPD
      replace hK := (hK.sub (tys' := [(ca1, .byte), (cf7, .int), (cf5, .int), (cf4, .byte), (cf6, .int), (cf0, .int), (cf1, .int), (cf2, .int)]) [0, 1, 2, 3, 4, 5, 6, 7] rfl).app hK1
      clear hPc hDc hKc hFc hP1 hK1 hD1 hz1 hk1 ht hvm
      generalize H1 = H at hP hS ⊢
      replace hP : va_P (dC, dI) vwCl [(h0, .inr (9, [.ref qf0, .ref qf1, .ref qf2, .int x3_3, .ref qf4, .ref qf5, .ref qf6, .ref qf7, .ref qf8, .int x9_3, .int v10, .int v11, .int v12])), (qa1, .inl (ca1, na1, .inl fa1)), (qf7, .inl (cf7, 64, .inl g7_3)), (qf5, .inl (cf5, 1741, .inl g5_3)), (qf4, .inl (cf4, 6400, .inl g4_3)), (qf6, .inl (cf6, 1740, .inl g6_3)), (qf0, .inl (cf0, 3001, .inl g0_3)), (qf1, .inl (cf1, 3001, .inl g1_3)), (qf2, .inl (cf2, 3001, .inl g2_3))] H := hP
      replace hD : va_D A [(h0, .inr (9, [.ref qf0, .ref qf1, .ref qf2, .int x3_3, .ref qf4, .ref qf5, .ref qf6, .ref qf7, .ref qf8, .int x9_3, .int v10, .int v11, .int v12])), (qa1, .inl (ca1, na1, .inl fa1)), (qf7, .inl (cf7, 64, .inl g7_3)), (qf5, .inl (cf5, 1741, .inl g5_3)), (qf4, .inl (cf4, 6400, .inl g4_3)), (qf6, .inl (cf6, 1740, .inl g6_3)), (qf0, .inl (cf0, 3001, .inl g0_3)), (qf1, .inl (cf1, 3001, .inl g1_3)), (qf2, .inl (cf2, 3001, .inl g2_3))] := hD
      replace hK : va_K (dC, dI) vwCl [(ca1, .byte), (cf7, .int), (cf5, .int), (cf4, .byte), (cf6, .int), (cf0, .int), (cf1, .int), (cf2, .int)] s := hK
      obtain ⟨rfl, hz_1⟩ := hw
      rcases hz_1 with rfl | rfl
      · rw [if_pos rfl] at hsp
        refine lv_if_eq (tgt := 25) hx hb dX9_scanWord_16 (by decide) (fun c_4 => ?_) (fun c_4 => (show False by revert c_4; decide).elim)
        exact hj_25 (H, locs, ls, l3_3, l4_3, g0_3, g1_3, g2_3, g4_3, g5_3, g6_3, g7_3, x3_3, x9_3) ⟨lv_sub hl [1, 2, 4, 0] rfl, hS, hD.sub (ws' := [(h0, .inr (9, [.ref qf0, .ref qf1, .ref qf2, .int x3_3, .ref qf4, .ref qf5, .ref qf6, .ref qf7, .ref qf8, .int x9_3, .int v10, .int v11, .int v12])), (qa1, .inl (ca1, na1, .inl fa1)), (qf7, .inl (cf7, 64, .inl g7_3)), (qf5, .inl (cf5, 1741, .inl g5_3)), (qf4, .inl (cf4, 6400, .inl g4_3)), (qf6, .inl (cf6, 1740, .inl g6_3)), (qf0, .inl (cf0, 3001, .inl g0_3)), (qf1, .inl (cf1, 3001, .inl g1_3)), (qf2, .inl (cf2, 3001, .inl g2_3))]) [0, 1, 2, 3, 4, 5, 6, 7, 8] (by decide) rfl, hP.sub (ws' := [(h0, .inr (9, [.ref qf0, .ref qf1, .ref qf2, .int x3_3, .ref qf4, .ref qf5, .ref qf6, .ref qf7, .ref qf8, .int x9_3, .int v10, .int v11, .int v12])), (qa1, .inl (ca1, na1, .inl fa1)), (qf7, .inl (cf7, 64, .inl g7_3)), (qf5, .inl (cf5, 1741, .inl g5_3)), (qf4, .inl (cf4, 6400, .inl g4_3)), (qf6, .inl (cf6, 1740, .inl g6_3)), (qf0, .inl (cf0, 3001, .inl g0_3)), (qf1, .inl (cf1, 3001, .inl g1_3)), (qf2, .inl (cf2, 3001, .inl g2_3))]) [0, 1, 2, 3, 4, 5, 6, 7, 8] rfl, hsp⟩
      · rw [if_neg (by decide)] at hsp
        refine lv_if_eq (tgt := 25) hx hb dX9_scanWord_16 (by decide) (fun c_5 => (show False by revert c_5; decide).elim) (fun c_5 => ?_)
        refine lv_iinc (v := (l4_3 + 1)) (lv' := [(4, .int (l4_3 + 1)), (0, .ref h0), (1, .ref qa1), (2, .int l2_3), (3, .int l3_3)]) hx hb dX9_scanWord_19 hl (k := 0) rfl rfl (by decide) rfl (fun ls hl => ?_)
        refine lv_goto (tgt := 3) hx hb dX9_scanWord_22 (by decide) ?_
        exact ih_3 H locs ls l2_3 l3_3 (l4_3 + 1) g0_3 g1_3 g2_3 g4_3 g5_3 g6_3 g7_3 x3_3 x9_3 (lv_sub hl [0, 1, 2, 3, 4] rfl) hS (hD.sub (ws' := [(h0, .inr (9, [.ref qf0, .ref qf1, .ref qf2, .int x3_3, .ref qf4, .ref qf5, .ref qf6, .ref qf7, .ref qf8, .int x9_3, .int v10, .int v11, .int v12])), (qa1, .inl (ca1, na1, .inl fa1)), (qf7, .inl (cf7, 64, .inl g7_3)), (qf5, .inl (cf5, 1741, .inl g5_3)), (qf4, .inl (cf4, 6400, .inl g4_3)), (qf6, .inl (cf6, 1740, .inl g6_3)), (qf0, .inl (cf0, 3001, .inl g0_3)), (qf1, .inl (cf1, 3001, .inl g1_3)), (qf2, .inl (cf2, 3001, .inl g2_3))]) [0, 1, 2, 3, 4, 5, 6, 7, 8] (by decide) rfl) (hP.sub (ws' := [(h0, .inr (9, [.ref qf0, .ref qf1, .ref qf2, .int x3_3, .ref qf4, .ref qf5, .ref qf6, .ref qf7, .ref qf8, .int x9_3, .int v10, .int v11, .int v12])), (qa1, .inl (ca1, na1, .inl fa1)), (qf7, .inl (cf7, 64, .inl g7_3)), (qf5, .inl (cf5, 1741, .inl g5_3)), (qf4, .inl (cf4, 6400, .inl g4_3)), (qf6, .inl (cf6, 1740, .inl g6_3)), (qf0, .inl (cf0, 3001, .inl g0_3)), (qf1, .inl (cf1, 3001, .inl g1_3)), (qf2, .inl (cf2, 3001, .inl g2_3))]) [0, 1, 2, 3, 4, 5, 6, 7, 8] rfl) hsp
def jn_v10_closeShort_66 (nf : Nat) (a1 : Int32) (a2 : Int32) (v12 : Int32) (v15 : Int32) (v0_3 : Int32) (v0_11 : Int32) (v0_12 : Int32) (f0_1 : Nat → Int32) (v3_1 : Int32) (v3_3 : Int32) (v3_4 : Int32) (v3_7 : Int32) (v3_14 : Int32) (v3_15 : Int32) (f3_0 : Nat → Int32) (f3_13 : Nat → Int32) (f3_11 : Nat → Int32) (f3_12 : Nat → Int32) (f3_6 : Nat → Int32) (f3_2 : Nat → Int32)  (l3_66 : Int32) (s0_66 : Int32) (g3_0_66 : Nat → Int32) (g3_11_66 : Nat → Int32) (g3_12_66 : Nat → Int32) (g3_13_66 : Nat → Int32) (g3_2_66 : Nat → Int32) (x0_11_66 : Int32) (x0_12_66 : Int32) (x12_66 : Int32) (x3_1_66 : Int32) (x3_14_66 : Int32) (x3_15_66 : Int32) (x3_3_66 : Int32) (x3_4_66 : Int32) : Option ((Nat → Int32) × (Nat → Int32) × (Nat → Int32) × (Nat → Int32) × (Nat → Int32) × Int32 × Int32 × Int32 × Int32 × Int32 × Int32 × Int32 × Int32) := ((sp_t1_op nf s0_66 x3_1_66 g3_0_66).bind (fun p1 => ((sp_t1_push nf 302 x3_3_66 x3_4_66 g3_2_66).bind (fun p2 => ((sp_v1_aimHere nf l3_66 p1.2 p2.2.1 v3_7 x3_14_66 x3_15_66 p1.1 g3_13_66 g3_11_66 g3_12_66 f3_6 p2.1).bind (fun p3 => (some (p3.1, p3.2.1, p3.2.2.1, p3.2.2.2.1, p2.1, x0_11_66, x0_12_66, 302, p1.2, p3.2.2.2.2.1, p3.2.2.2.2.2, p2.2.1, p2.2.2))))))))
def jn_v10_closeShort_16 (nf : Nat) (a1 : Int32) (a2 : Int32) (v12 : Int32) (v15 : Int32) (v0_3 : Int32) (v0_11 : Int32) (v0_12 : Int32) (f0_1 : Nat → Int32) (v3_1 : Int32) (v3_3 : Int32) (v3_4 : Int32) (v3_7 : Int32) (v3_14 : Int32) (v3_15 : Int32) (f3_0 : Nat → Int32) (f3_13 : Nat → Int32) (f3_11 : Nat → Int32) (f3_12 : Nat → Int32) (f3_6 : Nat → Int32) (f3_2 : Nat → Int32)  (l1_16 : Int32) (l2_16 : Int32) (s0_16 : Int32) (g3_0_16 : Nat → Int32) (g3_11_16 : Nat → Int32) (g3_12_16 : Nat → Int32) (g3_13_16 : Nat → Int32) (g3_2_16 : Nat → Int32) (x0_11_16 : Int32) (x0_12_16 : Int32) (x12_16 : Int32) (x3_1_16 : Int32) (x3_14_16 : Int32) (x3_15_16 : Int32) (x3_3_16 : Int32) (x3_4_16 : Int32) : Option ((Nat → Int32) × (Nat → Int32) × (Nat → Int32) × (Nat → Int32) × (Nat → Int32) × Int32 × Int32 × Int32 × Int32 × Int32 × Int32 × Int32 × Int32) := ((sp_t10_wantType nf s0_16 v15 v0_3 x0_11_16 x0_12_16 f0_1).bind (fun p1 => ((sp_t1_jump nf 167 0 x3_1_16 x3_3_16 g3_0_16).bind (fun p2 => ((sp_t1_pop nf 1 p2.2.2.2).bind (fun p3 => ((sp_v1_aimHere nf l2_16 p2.2.2.1 p3 v3_7 x3_14_16 x3_15_16 p2.2.1 g3_13_16 g3_11_16 g3_12_16 f3_6 g3_2_16).bind (fun p4 => (if l1_16 = 67 then (jn_v10_closeShort_66 nf a1 a2 v12 v15 v0_3 v0_11 v0_12 f0_1 v3_1 v3_3 v3_4 v3_7 v3_14 v3_15 f3_0 f3_13 f3_11 f3_12 f3_6 f3_2  p2.1 3 p4.1 p4.2.1 p4.2.2.1 p4.2.2.2.1 g3_2_16 p1.1 p1.2 x12_16 p2.2.2.1 p4.2.2.2.2.1 p4.2.2.2.2.2 p3 x3_4_16) else (jn_v10_closeShort_66 nf a1 a2 v12 v15 v0_3 v0_11 v0_12 f0_1 v3_1 v3_3 v3_4 v3_7 v3_14 v3_15 f3_0 f3_13 f3_11 f3_12 f3_6 f3_2  p2.1 4 p4.1 p4.2.1 p4.2.2.1 p4.2.2.2.1 g3_2_16 p1.1 p1.2 x12_16 p2.2.2.1 p4.2.2.2.2.1 p4.2.2.2.2.2 p3 x3_4_16))))))))))
def sp_v10_closeShort (nf : Nat) (a1 : Int32) (a2 : Int32) (v12 : Int32) (v15 : Int32) (v0_3 : Int32) (v0_11 : Int32) (v0_12 : Int32) (f0_1 : Nat → Int32) (v3_1 : Int32) (v3_3 : Int32) (v3_4 : Int32) (v3_7 : Int32) (v3_14 : Int32) (v3_15 : Int32) (f3_0 : Nat → Int32) (f3_13 : Nat → Int32) (f3_11 : Nat → Int32) (f3_12 : Nat → Int32) (f3_6 : Nat → Int32) (f3_2 : Nat → Int32) : Option ((Nat → Int32) × (Nat → Int32) × (Nat → Int32) × (Nat → Int32) × (Nat → Int32) × Int32 × Int32 × Int32 × Int32 × Int32 × Int32 × Int32 × Int32) := (if v12 = 302 then (jn_v10_closeShort_16 nf a1 a2 v12 v15 v0_3 v0_11 v0_12 f0_1 v3_1 v3_3 v3_4 v3_7 v3_14 v3_15 f3_0 f3_13 f3_11 f3_12 f3_6 f3_2  a1 a2 1 f3_0 f3_11 f3_12 f3_13 f3_2 v0_11 v0_12 v12 v3_1 v3_14 v3_15 v3_3 v3_4) else (jn_v10_closeShort_16 nf a1 a2 v12 v15 v0_3 v0_11 v0_12 f0_1 v3_1 v3_3 v3_4 v3_7 v3_14 v3_15 f3_0 f3_13 f3_11 f3_12 f3_6 f3_2  a1 a2 0 f3_0 f3_11 f3_12 f3_13 f3_2 v0_11 v0_12 v12 v3_1 v3_14 v3_15 v3_3 v3_4))
