set_option maxHeartbeats 4000000 in
set_option maxRecDepth 100000 in
/-- ClassMill$Pool.putPair -/
theorem t6_putPair (l : Launch) (dC : Nat → ClassId) (dI : Nat → Nat → Nat) (sz : Nat) (h0 : Nat) (a1 : Int32) (qf0 : Nat) (qf1 : Nat) (qf2 : Nat) (qf3 : Nat) (v4 : Int32) (v5 : Int32) (qf6 : Nat) (v7 : Int32) (cf6 : ClassId) (f6 : (Nat → Int32)) (nf : Nat) (o6 : (Nat → Int32)) (w7 : Int32) (hsp : sp_t6_putPair nf a1 v7 f6 = some (o6, w7)) : Met l yX6_putPair (.code yX6_putPair cX6_putPair 2 none :: VS_h4) ({ frames := 1, cells := 0, slots := 0, locals := 21 }) (va_Pc [.ref h0, .int a1] (fun U => U.heap.size = sz ∧ va_P (dC, dI) vwCl [(h0, .inr (6, [.ref qf0, .ref qf1, .ref qf2, .ref qf3, .int v4, .int v5, .ref qf6, .int v7])), (qf6, .inl (cf6, 6000, .inl f6))] U.heap ∧ va_K (dC, dI) vwCl [(cf6, .byte)] U ∧ va_D (fun _ => True) [(h0, .inr (6, [.ref qf0, .ref qf1, .ref qf2, .ref qf3, .int v4, .int v5, .ref qf6, .int v7])), (qf6, .inl (cf6, 6000, .inl f6))])) (va_Qv (fun (u : Unit) => match u with | () => True) (fun (u : Unit) (t : State) => match u with | () => va_P (dC, dI) vwCl [(h0, .inr (6, [.ref qf0, .ref qf1, .ref qf2, .ref qf3, .int v4, .int v5, .ref qf6, .int w7])), (qf6, .inl (cf6, 6000, .inl o6))] t.heap ∧ va_K (dC, dI) vwCl [(cf6, .byte)] t ∧ va_D (va_A [(h0, .inr (6, [.ref qf0, .ref qf1, .ref qf2, .ref qf3, .int v4, .int v5, .ref qf6, .int v7])), (qf6, .inl (cf6, 6000, .inl f6))] sz) [(h0, .inr (6, [.ref qf0, .ref qf1, .ref qf2, .ref qf3, .int v4, .int v5, .ref qf6, .int w7])), (qf6, .inl (cf6, 6000, .inl o6))]) (va_A [(h0, .inr (6, [.ref qf0, .ref qf1, .ref qf2, .ref qf3, .int v4, .int v5, .ref qf6, .int v7])), (qf6, .inl (cf6, 6000, .inl f6))] sz)) 0 0 (va_A [(h0, .inr (6, [.ref qf0, .ref qf1, .ref qf2, .ref qf3, .int v4, .int v5, .ref qf6, .int v7])), (qf6, .inl (cf6, 6000, .inl f6))] sz) := by
  refine Met.ofW (cc := cX6_putPair) (maxL := 2) (ret := none) (by decide) rfl ?_
  intro p e s m args below meth c s₁ B hml hv
  obtain ⟨rfl, hsz, hP, hK, hD0⟩ := hv
  have hx := B.exec
  have hb := B.bytes
  have hr := B.returns
  have hts := atoms_spec (ws := (.code yX6_putPair cX6_putPair 2 none :: VS_h4)) B.pre
  replace hts := fun w (h : w ∈ VS_h4) => hts w (List.mem_cons_of_mem _ h)
  have hown : s.vm.findClass RX6 = some m.cls := findClass_of_methodNamed B.named
  have hlocks := B.notSynchronized
  subst hsz
  have hD := hD0.self (sz := s.heap.size)
  generalize hAe : va_A [(h0, .inr (6, [.ref qf0, .ref qf1, .ref qf2, .ref qf3, .int v4, .int v5, .ref qf6, .int v7])), (qf6, .inl (cf6, 6000, .inl f6))] s.heap.size = A at hD  ⊢
  have hA : ∀ q : Nat, s.heap.size ≤ q → A q := fun q h => by rw [← hAe]; exact Or.inr h
  have hP : va_P (dC, dI) vwCl [(h0, .inr (6, [.ref qf0, .ref qf1, .ref qf2, .ref qf3, .int v4, .int v5, .ref qf6, .int v7])), (qf6, .inl (cf6, 6000, .inl f6))] s.heap := hP
  have hl := lv_entry ([.ref h0, .int a1]) (n := 2) (Nat.le_of_ble_eq_true rfl)
  rw [lg_entry_eq]
  generalize (lg_sl ([.ref h0, .int a1]) ++ List.replicate (2 - (lg_sl ([.ref h0, .int a1])).length) Slot.unset).toArray = ls at hl ⊢
  have hl : lv_has ls 2 [(0, .ref h0), (1, .int a1)] := hl
  obtain ⟨H, hH⟩ : ∃ H : Heap, s.heap = H := ⟨_, rfl⟩
  rw [hH] at hP ⊢
  have hS : va_S A s.heap H [] := by rw [← hH]; exact va_S.rf
  obtain ⟨locs, hlo⟩ : ∃ locs : List Loc, locs = [] := ⟨_, rfl⟩
  rw [← hlo] at hS ⊢
  unfold sp_t6_putPair at hsp
  refine lv_aload_n hx hb dX6_putPair_0 rfl (lv_at hl 0 rfl) ?_
  refine lv_iload_n hx hb dX6_putPair_1 rfl (lv_at hl 1 rfl) ?_
  refine lv_bipush (v := 8) hx hb dX6_putPair_2 (by decide) ?_
  refine lv_ishr hx hb dX6_putPair_4 ?_
  obtain ⟨⟨g901_0, u1_1⟩, hu_1, hsp⟩ := ox_bind hsp
  try dsimp only at hsp
  have hPc := hP.sub (ws' := [(h0, .inr (6, [.ref qf0, .ref qf1, .ref qf2, .ref qf3, .int v4, .int v5, .ref qf6, .int v7])), (qf6, .inl (cf6, 6000, .inl f6))]) [0, 1] rfl
  have hDc := hD.sub (ws' := [(h0, .inr (6, [.ref qf0, .ref qf1, .ref qf2, .ref qf3, .int v4, .int v5, .ref qf6, .int v7])), (qf6, .inl (cf6, 6000, .inl f6))]) [0, 1] (by decide) rfl
  have hKc := hK.sub (tys' := [(cf6, .byte)]) [0] rfl
  have hFc := va_free (wc := [(h0, .inr (6, [.ref qf0, .ref qf1, .ref qf2, .ref qf3, .int v4, .int v5, .ref qf6, .int v7])), (qf6, .inl (cf6, 6000, .inl f6))]) hD hS hA [0, 1] rfl
  refine va_callv (va_runV (As := [.int (a1 >>> (8 &&& 31))]) (rest := []) ⟨hx, hb, hml, hown, hts⟩ (t6_put l dC dI H.size h0 ((a1 >>> (8 &&& 31))) qf0 qf1 qf2 qf3 v4 v5 qf6 v7 cf6 f6 nf g901_0 u1_1 hu_1) (cwV 1 hts gv_h4_10 rfl rfl rfl (by decide +kernel) ⟨Nat.le_of_ble_eq_true rfl, Nat.le_of_ble_eq_true rfl⟩) ⟨fun a U g mk q => by obtain ⟨q0, q1, qP, qK, qD⟩ := q; exact ⟨q0, q1, qP, va_K.moved (u := U) (U := U.calling g mk a) (Vm.Alike.refl U.vm) qK, qD⟩, va_recv hKc hPc (ci := 6) (q0 := 0) rfl rfl, fun U hU hW => ⟨rfl, by rw [hU], by rw [hU]; exact hPc, va_K.moved hW.alike hKc, hDc.weaken (fun _ _ _ _ => trivial)⟩⟩ rfl rfl hl.1 rfl (lv_room (Nat.le_of_ble_eq_true rfl)) dX6_putPair_5 ⟨Nat.le_of_ble_eq_true rfl, Nat.le_of_ble_eq_true rfl⟩) hS (fun q _ h => hFc q h) hFc ?_
  clear hS
  intro u t H1 locs ht hvm hw hB hz1 hk1 hS
  obtain ⟨⟩ := u
  obtain ⟨hP1, hK1, hD1⟩ := hB
  rw [ht] at hP1
  have hK1 := va_K.moved hvm.symm hK1
  try dsimp only at hw
  have hPD := va_join (wr := []) (w1 := [(h0, .inr (6, [.ref qf0, .ref qf1, .ref qf2, .ref qf3, .int v4, .int v5, .ref qf6, .int u1_1])), (qf6, .inl (cf6, 6000, .inl g901_0))]) hP hD [0, 1] [] rfl rfl (by decide) (by decide) hk1 hFc hP1 hD1
  clear hP hD
  obtain ⟨hP, hD⟩ := hPD
  replace hK := (hK.sub (tys' := []) [] rfl).app hK1
  clear hPc hDc hKc hFc hP1 hK1 hD1 hz1 hk1 ht hvm
  generalize H1 = H at hP hS ⊢
  replace hP : va_P (dC, dI) vwCl [(h0, .inr (6, [.ref qf0, .ref qf1, .ref qf2, .ref qf3, .int v4, .int v5, .ref qf6, .int u1_1])), (qf6, .inl (cf6, 6000, .inl g901_0))] H := hP
  replace hD : va_D A [(h0, .inr (6, [.ref qf0, .ref qf1, .ref qf2, .ref qf3, .int v4, .int v5, .ref qf6, .int u1_1])), (qf6, .inl (cf6, 6000, .inl g901_0))] := hD
  replace hK : va_K (dC, dI) vwCl [(cf6, .byte)] s := hK
  refine lv_aload_n hx hb dX6_putPair_8 rfl (lv_at hl 0 rfl) ?_
  refine lv_iload_n hx hb dX6_putPair_9 rfl (lv_at hl 1 rfl) ?_
  obtain ⟨⟨g902_0, u2_1⟩, hu_2, hsp⟩ := ox_bind hsp
  try dsimp only at hsp
  have hPc := hP.sub (ws' := [(h0, .inr (6, [.ref qf0, .ref qf1, .ref qf2, .ref qf3, .int v4, .int v5, .ref qf6, .int u1_1])), (qf6, .inl (cf6, 6000, .inl g901_0))]) [0, 1] rfl
  have hDc := hD.sub (ws' := [(h0, .inr (6, [.ref qf0, .ref qf1, .ref qf2, .ref qf3, .int v4, .int v5, .ref qf6, .int u1_1])), (qf6, .inl (cf6, 6000, .inl g901_0))]) [0, 1] (by decide) rfl
  have hKc := hK.sub (tys' := [(cf6, .byte)]) [0] rfl
  have hFc := va_free (wc := [(h0, .inr (6, [.ref qf0, .ref qf1, .ref qf2, .ref qf3, .int v4, .int v5, .ref qf6, .int u1_1])), (qf6, .inl (cf6, 6000, .inl g901_0))]) hD hS hA [0, 1] rfl
  refine va_callv (va_runV (As := [.int a1]) (rest := []) ⟨hx, hb, hml, hown, hts⟩ (t6_put l dC dI H.size h0 a1 qf0 qf1 qf2 qf3 v4 v5 qf6 u1_1 cf6 g901_0 nf g902_0 u2_1 hu_2) (cwV 1 hts gv_h4_10 rfl rfl rfl (by decide +kernel) ⟨Nat.le_of_ble_eq_true rfl, Nat.le_of_ble_eq_true rfl⟩) ⟨fun a U g mk q => by obtain ⟨q0, q1, qP, qK, qD⟩ := q; exact ⟨q0, q1, qP, va_K.moved (u := U) (U := U.calling g mk a) (Vm.Alike.refl U.vm) qK, qD⟩, va_recv hKc hPc (ci := 6) (q0 := 0) rfl rfl, fun U hU hW => ⟨rfl, by rw [hU], by rw [hU]; exact hPc, va_K.moved hW.alike hKc, hDc.weaken (fun _ _ _ _ => trivial)⟩⟩ rfl rfl hl.1 rfl (lv_room (Nat.le_of_ble_eq_true rfl)) dX6_putPair_10 ⟨Nat.le_of_ble_eq_true rfl, Nat.le_of_ble_eq_true rfl⟩) hS (fun q _ h => hFc q h) hFc ?_
  clear hS
  intro u t H1 locs ht hvm hw hB hz1 hk1 hS
  obtain ⟨⟩ := u
  obtain ⟨hP1, hK1, hD1⟩ := hB
  rw [ht] at hP1
  have hK1 := va_K.moved hvm.symm hK1
  try dsimp only at hw
  have hPD := va_join (wr := []) (w1 := [(h0, .inr (6, [.ref qf0, .ref qf1, .ref qf2, .ref qf3, .int v4, .int v5, .ref qf6, .int u2_1])), (qf6, .inl (cf6, 6000, .inl g902_0))]) hP hD [0, 1] [] rfl rfl (by decide) (by decide) hk1 hFc hP1 hD1
  clear hP hD
  obtain ⟨hP, hD⟩ := hPD
  replace hK := (hK.sub (tys' := []) [] rfl).app hK1
  clear hPc hDc hKc hFc hP1 hK1 hD1 hz1 hk1 ht hvm
  generalize H1 = H at hP hS ⊢
  replace hP : va_P (dC, dI) vwCl [(h0, .inr (6, [.ref qf0, .ref qf1, .ref qf2, .ref qf3, .int v4, .int v5, .ref qf6, .int u2_1])), (qf6, .inl (cf6, 6000, .inl g902_0))] H := hP
  replace hD : va_D A [(h0, .inr (6, [.ref qf0, .ref qf1, .ref qf2, .ref qf3, .int v4, .int v5, .ref qf6, .int u2_1])), (qf6, .inl (cf6, 6000, .inl g902_0))] := hD
  replace hK : va_K (dC, dI) vwCl [(cf6, .byte)] s := hK
  have hr0 := Option.some.inj hsp
  clear hsp
  obtain ⟨hq0, hr1⟩ := Prod.mk.inj hr0
  clear hr0
  subst hq0
  subst hr1
  have hP9 := hP.sub (ws' := [(h0, .inr (6, [.ref qf0, .ref qf1, .ref qf2, .ref qf3, .int v4, .int v5, .ref qf6, .int u2_1])), (qf6, .inl (cf6, 6000, .inl g902_0))]) [0, 1] rfl
  have hD9 := hD.sub (ws' := [(h0, .inr (6, [.ref qf0, .ref qf1, .ref qf2, .ref qf3, .int v4, .int v5, .ref qf6, .int u2_1])), (qf6, .inl (cf6, 6000, .inl g902_0))]) [0, 1] (by decide) rfl
  have hK9 := hK.sub (tys' := [(cf6, .byte)]) [0] rfl
  exact W.vret hx hb hr (fun t ht hW => ⟨⟨(), rfl, trivial, by rw [ht]; exact hP9, va_K.moved hW.alike hK9, hD9⟩, hS.F ht⟩) hS.2.2 dX6_putPair_13
def sp_t6_bytesOf (nf : Nat) (a1 : Int32) (a2 : Int32) (v0_9 : Int32) (f0_5 : Nat → Int32) : Option (Int32) := (if a1 = 1 then ((sp_t9_nameLength nf a2 v0_9 f0_5).bind (fun p1 => (some (2 + p1)))) else (if a1 = 2 then (some 5) else (if a1 = 3 then (some 2) else (some 4))))
set_option maxHeartbeats 4000000 in
set_option maxRecDepth 100000 in
/-- ClassMill$Pool.bytesOf -/
theorem t6_bytesOf (l : Launch) (dC : Nat → ClassId) (dI : Nat → Nat → Nat) (sz : Nat) (h0 : Nat) (a1 : Int32) (a2 : Int32) (qf0 : Nat) (qf1 : Nat) (qf2 : Nat) (qf3 : Nat) (v4 : Int32) (v5 : Int32) (qf6 : Nat) (v7 : Int32) (qf0_0 : Nat) (qf0_1 : Nat) (qf0_2 : Nat) (v0_3 : Int32) (qf0_4 : Nat) (qf0_5 : Nat) (qf0_6 : Nat) (qf0_7 : Nat) (qf0_8 : Nat) (v0_9 : Int32) (v0_10 : Int32) (v0_11 : Int32) (v0_12 : Int32) (cf0_5 : ClassId) (f0_5 : (Nat → Int32)) (nf : Nat) (r0 : Int32) (hsp : sp_t6_bytesOf nf a1 a2 v0_9 f0_5 = some r0) : Met l yX6_bytesOf (.code yX6_bytesOf cX6_bytesOf 3 (some .int) :: VS_h4) ({ frames := 1, cells := 0, slots := 0, locals := 21 }) (va_Pc [.ref h0, .int a1, .int a2] (fun U => U.heap.size = sz ∧ va_P (dC, dI) vwCl [(h0, .inr (6, [.ref qf0, .ref qf1, .ref qf2, .ref qf3, .int v4, .int v5, .ref qf6, .int v7])), (qf0, .inr (9, [.ref qf0_0, .ref qf0_1, .ref qf0_2, .int v0_3, .ref qf0_4, .ref qf0_5, .ref qf0_6, .ref qf0_7, .ref qf0_8, .int v0_9, .int v0_10, .int v0_11, .int v0_12])), (qf0_5, .inl (cf0_5, 1741, .inl f0_5))] U.heap ∧ va_K (dC, dI) vwCl [(cf0_5, .int)] U ∧ va_D (fun _ => True) [(h0, .inr (6, [.ref qf0, .ref qf1, .ref qf2, .ref qf3, .int v4, .int v5, .ref qf6, .int v7])), (qf0, .inr (9, [.ref qf0_0, .ref qf0_1, .ref qf0_2, .int v0_3, .ref qf0_4, .ref qf0_5, .ref qf0_6, .ref qf0_7, .ref qf0_8, .int v0_9, .int v0_10, .int v0_11, .int v0_12])), (qf0_5, .inl (cf0_5, 1741, .inl f0_5))])) (va_Qi (fun (r : Int32) (u : Unit) => match u with | () => r0 = r) (fun (u : Unit) (t : State) => match u with | () => va_P (dC, dI) vwCl [(h0, .inr (6, [.ref qf0, .ref qf1, .ref qf2, .ref qf3, .int v4, .int v5, .ref qf6, .int v7])), (qf0, .inr (9, [.ref qf0_0, .ref qf0_1, .ref qf0_2, .int v0_3, .ref qf0_4, .ref qf0_5, .ref qf0_6, .ref qf0_7, .ref qf0_8, .int v0_9, .int v0_10, .int v0_11, .int v0_12])), (qf0_5, .inl (cf0_5, 1741, .inl f0_5))] t.heap ∧ va_K (dC, dI) vwCl [(cf0_5, .int)] t ∧ va_D (va_A [(h0, .inr (6, [.ref qf0, .ref qf1, .ref qf2, .ref qf3, .int v4, .int v5, .ref qf6, .int v7])), (qf0, .inr (9, [.ref qf0_0, .ref qf0_1, .ref qf0_2, .int v0_3, .ref qf0_4, .ref qf0_5, .ref qf0_6, .ref qf0_7, .ref qf0_8, .int v0_9, .int v0_10, .int v0_11, .int v0_12])), (qf0_5, .inl (cf0_5, 1741, .inl f0_5))] sz) [(h0, .inr (6, [.ref qf0, .ref qf1, .ref qf2, .ref qf3, .int v4, .int v5, .ref qf6, .int v7])), (qf0, .inr (9, [.ref qf0_0, .ref qf0_1, .ref qf0_2, .int v0_3, .ref qf0_4, .ref qf0_5, .ref qf0_6, .ref qf0_7, .ref qf0_8, .int v0_9, .int v0_10, .int v0_11, .int v0_12])), (qf0_5, .inl (cf0_5, 1741, .inl f0_5))]) (va_A [(h0, .inr (6, [.ref qf0, .ref qf1, .ref qf2, .ref qf3, .int v4, .int v5, .ref qf6, .int v7])), (qf0, .inr (9, [.ref qf0_0, .ref qf0_1, .ref qf0_2, .int v0_3, .ref qf0_4, .ref qf0_5, .ref qf0_6, .ref qf0_7, .ref qf0_8, .int v0_9, .int v0_10, .int v0_11, .int v0_12])), (qf0_5, .inl (cf0_5, 1741, .inl f0_5))] sz)) 0 0 (va_A [(h0, .inr (6, [.ref qf0, .ref qf1, .ref qf2, .ref qf3, .int v4, .int v5, .ref qf6, .int v7])), (qf0, .inr (9, [.ref qf0_0, .ref qf0_1, .ref qf0_2, .int v0_3, .ref qf0_4, .ref qf0_5, .ref qf0_6, .ref qf0_7, .ref qf0_8, .int v0_9, .int v0_10, .int v0_11, .int v0_12])), (qf0_5, .inl (cf0_5, 1741, .inl f0_5))] sz) := by
  refine Met.ofW (cc := cX6_bytesOf) (maxL := 3) (ret := (some .int)) (by decide) rfl ?_
  intro p e s m args below meth c s₁ B hml hv
  obtain ⟨rfl, hsz, hP, hK, hD0⟩ := hv
  have hx := B.exec
  have hb := B.bytes
  have hr := B.returns
  have hts := atoms_spec (ws := (.code yX6_bytesOf cX6_bytesOf 3 (some .int) :: VS_h4)) B.pre
  replace hts := fun w (h : w ∈ VS_h4) => hts w (List.mem_cons_of_mem _ h)
  have hown : s.vm.findClass RX6 = some m.cls := findClass_of_methodNamed B.named
  have hlocks := B.notSynchronized
  subst hsz
  have hD := hD0.self (sz := s.heap.size)
  generalize hAe : va_A [(h0, .inr (6, [.ref qf0, .ref qf1, .ref qf2, .ref qf3, .int v4, .int v5, .ref qf6, .int v7])), (qf0, .inr (9, [.ref qf0_0, .ref qf0_1, .ref qf0_2, .int v0_3, .ref qf0_4, .ref qf0_5, .ref qf0_6, .ref qf0_7, .ref qf0_8, .int v0_9, .int v0_10, .int v0_11, .int v0_12])), (qf0_5, .inl (cf0_5, 1741, .inl f0_5))] s.heap.size = A at hD  ⊢
  have hA : ∀ q : Nat, s.heap.size ≤ q → A q := fun q h => by rw [← hAe]; exact Or.inr h
  have hP : va_P (dC, dI) vwCl [(h0, .inr (6, [.ref qf0, .ref qf1, .ref qf2, .ref qf3, .int v4, .int v5, .ref qf6, .int v7])), (qf0, .inr (9, [.ref qf0_0, .ref qf0_1, .ref qf0_2, .int v0_3, .ref qf0_4, .ref qf0_5, .ref qf0_6, .ref qf0_7, .ref qf0_8, .int v0_9, .int v0_10, .int v0_11, .int v0_12])), (qf0_5, .inl (cf0_5, 1741, .inl f0_5))] s.heap := hP
  have hl := lv_entry ([.ref h0, .int a1, .int a2]) (n := 3) (Nat.le_of_ble_eq_true rfl)
  rw [lg_entry_eq]
  generalize (lg_sl ([.ref h0, .int a1, .int a2]) ++ List.replicate (3 - (lg_sl ([.ref h0, .int a1, .int a2])).length) Slot.unset).toArray = ls at hl ⊢
  have hl : lv_has ls 3 [(0, .ref h0), (1, .int a1), (2, .int a2)] := hl
  obtain ⟨H, hH⟩ : ∃ H : Heap, s.heap = H := ⟨_, rfl⟩
  rw [hH] at hP ⊢
  have hS : va_S A s.heap H [] := by rw [← hH]; exact va_S.rf
  obtain ⟨locs, hlo⟩ : ∃ locs : List Loc, locs = [] := ⟨_, rfl⟩
  rw [← hlo] at hS ⊢
  unfold sp_t6_bytesOf at hsp
  refine lv_iload_n hx hb dX6_bytesOf_0 rfl (lv_at hl 1 rfl) ?_
  by_cases hs_1 : a1 = 1
  · rw [if_pos hs_1] at hsp
    refine lv_tableIn (tgt := 28) hx hb dX6_bytesOf_1 (by rw [hs_1]; decide) (by rw [hs_1]; decide) (off := 27) (by rw [hs_1]; rfl) (by decide) ?_
    refine lv_iconst (v := 2) hx hb dX6_bytesOf_28 (by decide) ?_
    refine lv_aload_n hx hb dX6_bytesOf_29 rfl (lv_at hl 0 rfl) ?_
    refine va_get (D := (dC, dI)) (ci := 6) (v := .ref qf0) (C := RX6) (T := TX6) (N := 8) hx hb hts uV_h4_X6 hown hK hP 0 rfl rfl 0 (by decide) (hts (.fieldLink RX6 20 "ClassMill$Pool" "text" "LClassMill$Text;") mw_h4_55) (fun _ h9 => h9) rfl dX6_bytesOf_30 ?_
    refine lv_iload_n hx hb dX6_bytesOf_33 rfl (lv_at hl 2 rfl) ?_
    obtain ⟨u1_0, hu_1, hsp⟩ := ox_bind hsp
    try dsimp only at hsp
    have hPc := hP.sub (ws' := [(qf0, .inr (9, [.ref qf0_0, .ref qf0_1, .ref qf0_2, .int v0_3, .ref qf0_4, .ref qf0_5, .ref qf0_6, .ref qf0_7, .ref qf0_8, .int v0_9, .int v0_10, .int v0_11, .int v0_12])), (qf0_5, .inl (cf0_5, 1741, .inl f0_5))]) [1, 2] rfl
    have hDc := hD.sub (ws' := [(qf0, .inr (9, [.ref qf0_0, .ref qf0_1, .ref qf0_2, .int v0_3, .ref qf0_4, .ref qf0_5, .ref qf0_6, .ref qf0_7, .ref qf0_8, .int v0_9, .int v0_10, .int v0_11, .int v0_12])), (qf0_5, .inl (cf0_5, 1741, .inl f0_5))]) [1, 2] (by decide) rfl
    have hKc := hK.sub (tys' := [(cf0_5, .int)]) [0] rfl
    have hFc := va_free (wc := [(qf0, .inr (9, [.ref qf0_0, .ref qf0_1, .ref qf0_2, .int v0_3, .ref qf0_4, .ref qf0_5, .ref qf0_6, .ref qf0_7, .ref qf0_8, .int v0_9, .int v0_10, .int v0_11, .int v0_12])), (qf0_5, .inl (cf0_5, 1741, .inl f0_5))]) hD hS hA [1, 2] rfl
    refine va_calli (va_runV (As := [.int a2]) (rest := [.int 2]) ⟨hx, hb, hml, hown, hts⟩ (t9_nameLength l dC dI H.size qf0 a2 qf0_0 qf0_1 qf0_2 v0_3 qf0_4 qf0_5 qf0_6 qf0_7 qf0_8 v0_9 v0_10 v0_11 v0_12 cf0_5 f0_5 nf u1_0 hu_1) (cwV 1 hts gv_h4_11 rfl rfl rfl (by decide +kernel) ⟨Nat.le_of_ble_eq_true rfl, Nat.le_of_ble_eq_true rfl⟩) ⟨fun a U g mk q => by obtain ⟨q0, q1, qP, qK, qD⟩ := q; exact ⟨q0, q1, qP, va_K.moved (u := U) (U := U.calling g mk a) (Vm.Alike.refl U.vm) qK, qD⟩, va_recv hKc hPc (ci := 9) (q0 := 0) rfl rfl, fun U hU hW => ⟨rfl, by rw [hU], by rw [hU]; exact hPc, va_K.moved hW.alike hKc, hDc.weaken (fun _ _ _ _ => trivial)⟩⟩ rfl rfl hl.1 rfl (lv_room (Nat.le_of_ble_eq_true rfl)) dX6_bytesOf_34 ⟨Nat.le_of_ble_eq_true rfl, Nat.le_of_ble_eq_true rfl⟩) hS (fun q _ h => hFc q h) hFc ?_
    clear hS
    intro r_2 u t H1 locs ht hvm hw hB hz1 hk1 hS
    obtain ⟨⟩ := u
    obtain ⟨hP1, hK1, hD1⟩ := hB
    rw [ht] at hP1
    have hK1 := va_K.moved hvm.symm hK1
    try dsimp only at hw
    have hPD := va_join (wr := [(h0, .inr (6, [.ref qf0, .ref qf1, .ref qf2, .ref qf3, .int v4, .int v5, .ref qf6, .int v7]))]) (w1 := [(qf0, .inr (9, [.ref qf0_0, .ref qf0_1, .ref qf0_2, .int v0_3, .ref qf0_4, .ref qf0_5, .ref qf0_6, .ref qf0_7, .ref qf0_8, .int v0_9, .int v0_10, .int v0_11, .int v0_12])), (qf0_5, .inl (cf0_5, 1741, .inl f0_5))]) hP hD [1, 2] [0] rfl rfl (by decide) (by decide) hk1 hFc hP1 hD1
    clear hP hD
    obtain ⟨hP, hD⟩ := hPD
    replace hK := (hK.sub (tys' := []) [] rfl).app hK1
    clear hPc hDc hKc hFc hP1 hK1 hD1 hz1 hk1 ht hvm
    generalize H1 = H at hP hS ⊢
    replace hP : va_P (dC, dI) vwCl [(h0, .inr (6, [.ref qf0, .ref qf1, .ref qf2, .ref qf3, .int v4, .int v5, .ref qf6, .int v7])), (qf0, .inr (9, [.ref qf0_0, .ref qf0_1, .ref qf0_2, .int v0_3, .ref qf0_4, .ref qf0_5, .ref qf0_6, .ref qf0_7, .ref qf0_8, .int v0_9, .int v0_10, .int v0_11, .int v0_12])), (qf0_5, .inl (cf0_5, 1741, .inl f0_5))] H := hP
    replace hD : va_D A [(h0, .inr (6, [.ref qf0, .ref qf1, .ref qf2, .ref qf3, .int v4, .int v5, .ref qf6, .int v7])), (qf0, .inr (9, [.ref qf0_0, .ref qf0_1, .ref qf0_2, .int v0_3, .ref qf0_4, .ref qf0_5, .ref qf0_6, .ref qf0_7, .ref qf0_8, .int v0_9, .int v0_10, .int v0_11, .int v0_12])), (qf0_5, .inl (cf0_5, 1741, .inl f0_5))] := hD
    replace hK : va_K (dC, dI) vwCl [(cf0_5, .int)] s := hK
    obtain rfl := hw
    refine lv_iadd hx hb dX6_bytesOf_37 ?_
    have hr0 := Option.some.inj hsp
    clear hsp
    subst hr0
    have hP9 := hP.sub (ws' := [(h0, .inr (6, [.ref qf0, .ref qf1, .ref qf2, .ref qf3, .int v4, .int v5, .ref qf6, .int v7])), (qf0, .inr (9, [.ref qf0_0, .ref qf0_1, .ref qf0_2, .int v0_3, .ref qf0_4, .ref qf0_5, .ref qf0_6, .ref qf0_7, .ref qf0_8, .int v0_9, .int v0_10, .int v0_11, .int v0_12])), (qf0_5, .inl (cf0_5, 1741, .inl f0_5))]) [0, 1, 2] rfl
    have hD9 := hD.sub (ws' := [(h0, .inr (6, [.ref qf0, .ref qf1, .ref qf2, .ref qf3, .int v4, .int v5, .ref qf6, .int v7])), (qf0, .inr (9, [.ref qf0_0, .ref qf0_1, .ref qf0_2, .int v0_3, .ref qf0_4, .ref qf0_5, .ref qf0_6, .ref qf0_7, .ref qf0_8, .int v0_9, .int v0_10, .int v0_11, .int v0_12])), (qf0_5, .inl (cf0_5, 1741, .inl f0_5))]) [0, 1, 2] (by decide) rfl
    have hK9 := hK.sub (tys' := [(cf0_5, .int)]) [0] rfl
    exact W.iret hx hb hr (fun t ht hW => ⟨⟨((2 + u1_0)), (), rfl, rfl, by rw [ht]; exact hP9, va_K.moved hW.alike hK9, hD9⟩, hS.F ht⟩) hS.2.2 dX6_bytesOf_38
  rw [if_neg hs_1] at hsp
  by_cases hs_3 : a1 = 2
  · rw [if_pos hs_3] at hsp
    refine lv_tableIn (tgt := 39) hx hb dX6_bytesOf_1 (by rw [hs_3]; decide) (by rw [hs_3]; decide) (off := 38) (by rw [hs_3]; rfl) (by decide) ?_
    refine lv_iconst (v := 5) hx hb dX6_bytesOf_39 (by decide) ?_
    have hr0 := Option.some.inj hsp
    clear hsp
    subst hr0
    have hP9 := hP.sub (ws' := [(h0, .inr (6, [.ref qf0, .ref qf1, .ref qf2, .ref qf3, .int v4, .int v5, .ref qf6, .int v7])), (qf0, .inr (9, [.ref qf0_0, .ref qf0_1, .ref qf0_2, .int v0_3, .ref qf0_4, .ref qf0_5, .ref qf0_6, .ref qf0_7, .ref qf0_8, .int v0_9, .int v0_10, .int v0_11, .int v0_12])), (qf0_5, .inl (cf0_5, 1741, .inl f0_5))]) [0, 1, 2] rfl
    have hD9 := hD.sub (ws' := [(h0, .inr (6, [.ref qf0, .ref qf1, .ref qf2, .ref qf3, .int v4, .int v5, .ref qf6, .int v7])), (qf0, .inr (9, [.ref qf0_0, .ref qf0_1, .ref qf0_2, .int v0_3, .ref qf0_4, .ref qf0_5, .ref qf0_6, .ref qf0_7, .ref qf0_8, .int v0_9, .int v0_10, .int v0_11, .int v0_12])), (qf0_5, .inl (cf0_5, 1741, .inl f0_5))]) [0, 1, 2] (by decide) rfl
    have hK9 := hK.sub (tys' := [(cf0_5, .int)]) [0] rfl
    exact W.iret hx hb hr (fun t ht hW => ⟨⟨(5), (), rfl, rfl, by rw [ht]; exact hP9, va_K.moved hW.alike hK9, hD9⟩, hS.F ht⟩) hS.2.2 dX6_bytesOf_40
  rw [if_neg hs_3] at hsp
  by_cases hs_4 : a1 = 3
  · rw [if_pos hs_4] at hsp
    refine lv_tableIn (tgt := 41) hx hb dX6_bytesOf_1 (by rw [hs_4]; decide) (by rw [hs_4]; decide) (off := 40) (by rw [hs_4]; rfl) (by decide) ?_
    refine lv_iconst (v := 2) hx hb dX6_bytesOf_41 (by decide) ?_
    have hr0 := Option.some.inj hsp
    clear hsp
    subst hr0
    have hP9 := hP.sub (ws' := [(h0, .inr (6, [.ref qf0, .ref qf1, .ref qf2, .ref qf3, .int v4, .int v5, .ref qf6, .int v7])), (qf0, .inr (9, [.ref qf0_0, .ref qf0_1, .ref qf0_2, .int v0_3, .ref qf0_4, .ref qf0_5, .ref qf0_6, .ref qf0_7, .ref qf0_8, .int v0_9, .int v0_10, .int v0_11, .int v0_12])), (qf0_5, .inl (cf0_5, 1741, .inl f0_5))]) [0, 1, 2] rfl
    have hD9 := hD.sub (ws' := [(h0, .inr (6, [.ref qf0, .ref qf1, .ref qf2, .ref qf3, .int v4, .int v5, .ref qf6, .int v7])), (qf0, .inr (9, [.ref qf0_0, .ref qf0_1, .ref qf0_2, .int v0_3, .ref qf0_4, .ref qf0_5, .ref qf0_6, .ref qf0_7, .ref qf0_8, .int v0_9, .int v0_10, .int v0_11, .int v0_12])), (qf0_5, .inl (cf0_5, 1741, .inl f0_5))]) [0, 1, 2] (by decide) rfl
    have hK9 := hK.sub (tys' := [(cf0_5, .int)]) [0] rfl
    exact W.iret hx hb hr (fun t ht hW => ⟨⟨(2), (), rfl, rfl, by rw [ht]; exact hP9, va_K.moved hW.alike hK9, hD9⟩, hS.F ht⟩) hS.2.2 dX6_bytesOf_42
  rw [if_neg hs_4] at hsp
  refine lv_tableOut (tgt := 43) hx hb dX6_bytesOf_1 (by have a0 := lv_neT hs_1 (a := 1) rfl; have a1 := lv_neT hs_3 (a := 2) rfl; have a2 := lv_neT hs_4 (a := 3) rfl; omega) (by decide) ?_
  refine lv_iconst (v := 4) hx hb dX6_bytesOf_43 (by decide) ?_
  have hr0 := Option.some.inj hsp
  clear hsp
  subst hr0
  have hP9 := hP.sub (ws' := [(h0, .inr (6, [.ref qf0, .ref qf1, .ref qf2, .ref qf3, .int v4, .int v5, .ref qf6, .int v7])), (qf0, .inr (9, [.ref qf0_0, .ref qf0_1, .ref qf0_2, .int v0_3, .ref qf0_4, .ref qf0_5, .ref qf0_6, .ref qf0_7, .ref qf0_8, .int v0_9, .int v0_10, .int v0_11, .int v0_12])), (qf0_5, .inl (cf0_5, 1741, .inl f0_5))]) [0, 1, 2] rfl
  have hD9 := hD.sub (ws' := [(h0, .inr (6, [.ref qf0, .ref qf1, .ref qf2, .ref qf3, .int v4, .int v5, .ref qf6, .int v7])), (qf0, .inr (9, [.ref qf0_0, .ref qf0_1, .ref qf0_2, .int v0_3, .ref qf0_4, .ref qf0_5, .ref qf0_6, .ref qf0_7, .ref qf0_8, .int v0_9, .int v0_10, .int v0_11, .int v0_12])), (qf0_5, .inl (cf0_5, 1741, .inl f0_5))]) [0, 1, 2] (by decide) rfl
  have hK9 := hK.sub (tys' := [(cf0_5, .int)]) [0] rfl
  exact W.iret hx hb hr (fun t ht hW => ⟨⟨(4), (), rfl, rfl, by rw [ht]; exact hP9, va_K.moved hW.alike hK9, hD9⟩, hS.F ht⟩) hS.2.2 dX6_bytesOf_44
def lp_t6_constant_2 (nf n : Nat) (a1 : Int32) (a2 : Int32) (v4 : Int32) (v5 : Int32) (f2 : Nat → Int32) (f3 : Nat → Int32)  (l1_2 : Int32) (l2_2 : Int32) (l3_2 : Int32) (g2_2 : Nat → Int32) (g3_2 : Nat → Int32) (x4_2 : Int32) (x5_2 : Int32) : Option (Int32 × (Nat → Int32) × (Nat → Int32) × Int32 × Int32) := match n with
  | 0 => none
  | n + 1 => (if x4_2 < l3_2 then (if x4_2 < 200 then (if (x4_2 + 1) < 0 then none else if 201 ≤ ((x4_2 + 1) : Int32).toNatClampNeg then none else (if (x4_2 + 1) < 0 then none else if 201 ≤ ((x4_2 + 1) : Int32).toNatClampNeg then none else (some ((x4_2 + 1), (upd g2_2 ((x4_2 + 1) : Int32).toNatClampNeg l1_2), (upd g3_2 ((x4_2 + 1) : Int32).toNatClampNeg l2_2), (x4_2 + 1), x5_2)))) else (some (0, g2_2, g3_2, x4_2, 1))) else (if l3_2 < 0 then none else if 201 ≤ (l3_2 : Int32).toNatClampNeg then none else (if (g2_2 (l3_2 : Int32).toNatClampNeg) = l1_2 then (if l3_2 < 0 then none else if 201 ≤ (l3_2 : Int32).toNatClampNeg then none else (if (g3_2 (l3_2 : Int32).toNatClampNeg) = l2_2 then (some (l3_2, g2_2, g3_2, x4_2, x5_2)) else (lp_t6_constant_2 nf n a1 a2 v4 v5 f2 f3 l1_2 l2_2 (l3_2 + 1) g2_2 g3_2 x4_2 x5_2))) else (lp_t6_constant_2 nf n a1 a2 v4 v5 f2 f3 l1_2 l2_2 (l3_2 + 1) g2_2 g3_2 x4_2 x5_2))))
def sp_t6_constant (nf : Nat) (a1 : Int32) (a2 : Int32) (v4 : Int32) (v5 : Int32) (f2 : Nat → Int32) (f3 : Nat → Int32) : Option (Int32 × (Nat → Int32) × (Nat → Int32) × Int32 × Int32) := (lp_t6_constant_2 nf nf a1 a2 v4 v5 f2 f3 a1 a2 1 f2 f3 v4 v5)
set_option maxHeartbeats 4000000 in
set_option maxRecDepth 100000 in
/-- ClassMill$Pool.constant -/
theorem t6_constant (l : Launch) (dC : Nat → ClassId) (dI : Nat → Nat → Nat) (sz : Nat) (h0 : Nat) (a1 : Int32) (a2 : Int32) (qf0 : Nat) (qf1 : Nat) (qf2 : Nat) (qf3 : Nat) (v4 : Int32) (v5 : Int32) (qf6 : Nat) (v7 : Int32) (cf2 : ClassId) (f2 : (Nat → Int32)) (cf3 : ClassId) (f3 : (Nat → Int32)) (nf : Nat) (r0 : Int32) (o2 : (Nat → Int32)) (o3 : (Nat → Int32)) (w4 : Int32) (w5 : Int32) (hsp : sp_t6_constant nf a1 a2 v4 v5 f2 f3 = some (r0, o2, o3, w4, w5)) : Met l yX6_constant (.code yX6_constant cX6_constant 4 (some .int) :: VS_h4) ({ frames := 0, cells := 0, slots := 0, locals := 0 }) (va_Pc [.ref h0, .int a1, .int a2] (fun U => U.heap.size = sz ∧ va_P (dC, dI) vwCl [(h0, .inr (6, [.ref qf0, .ref qf1, .ref qf2, .ref qf3, .int v4, .int v5, .ref qf6, .int v7])), (qf2, .inl (cf2, 201, .inl f2)), (qf3, .inl (cf3, 201, .inl f3))] U.heap ∧ va_K (dC, dI) vwCl [(cf2, .int), (cf3, .int)] U ∧ va_D (fun _ => True) [(h0, .inr (6, [.ref qf0, .ref qf1, .ref qf2, .ref qf3, .int v4, .int v5, .ref qf6, .int v7])), (qf2, .inl (cf2, 201, .inl f2)), (qf3, .inl (cf3, 201, .inl f3))])) (va_Qi (fun (r : Int32) (u : Unit) => match u with | () => r0 = r) (fun (u : Unit) (t : State) => match u with | () => va_P (dC, dI) vwCl [(h0, .inr (6, [.ref qf0, .ref qf1, .ref qf2, .ref qf3, .int w4, .int w5, .ref qf6, .int v7])), (qf2, .inl (cf2, 201, .inl o2)), (qf3, .inl (cf3, 201, .inl o3))] t.heap ∧ va_K (dC, dI) vwCl [(cf2, .int), (cf3, .int)] t ∧ va_D (va_A [(h0, .inr (6, [.ref qf0, .ref qf1, .ref qf2, .ref qf3, .int v4, .int v5, .ref qf6, .int v7])), (qf2, .inl (cf2, 201, .inl f2)), (qf3, .inl (cf3, 201, .inl f3))] sz) [(h0, .inr (6, [.ref qf0, .ref qf1, .ref qf2, .ref qf3, .int w4, .int w5, .ref qf6, .int v7])), (qf2, .inl (cf2, 201, .inl o2)), (qf3, .inl (cf3, 201, .inl o3))]) (va_A [(h0, .inr (6, [.ref qf0, .ref qf1, .ref qf2, .ref qf3, .int v4, .int v5, .ref qf6, .int v7])), (qf2, .inl (cf2, 201, .inl f2)), (qf3, .inl (cf3, 201, .inl f3))] sz)) 0 0 (va_A [(h0, .inr (6, [.ref qf0, .ref qf1, .ref qf2, .ref qf3, .int v4, .int v5, .ref qf6, .int v7])), (qf2, .inl (cf2, 201, .inl f2)), (qf3, .inl (cf3, 201, .inl f3))] sz) := by
  refine Met.ofW (cc := cX6_constant) (maxL := 4) (ret := (some .int)) (by decide) rfl ?_
  intro p e s m args below meth c s₁ B hml hv
  obtain ⟨rfl, hsz, hP, hK, hD0⟩ := hv
  have hx := B.exec
  have hb := B.bytes
  have hr := B.returns
  have hts := atoms_spec (ws := (.code yX6_constant cX6_constant 4 (some .int) :: VS_h4)) B.pre
  replace hts := fun w (h : w ∈ VS_h4) => hts w (List.mem_cons_of_mem _ h)
  have hown : s.vm.findClass RX6 = some m.cls := findClass_of_methodNamed B.named
  have hlocks := B.notSynchronized
  subst hsz
  have hD := hD0.self (sz := s.heap.size)
  generalize hAe : va_A [(h0, .inr (6, [.ref qf0, .ref qf1, .ref qf2, .ref qf3, .int v4, .int v5, .ref qf6, .int v7])), (qf2, .inl (cf2, 201, .inl f2)), (qf3, .inl (cf3, 201, .inl f3))] s.heap.size = A at hD  ⊢
  have hA : ∀ q : Nat, s.heap.size ≤ q → A q := fun q h => by rw [← hAe]; exact Or.inr h
  have hP : va_P (dC, dI) vwCl [(h0, .inr (6, [.ref qf0, .ref qf1, .ref qf2, .ref qf3, .int v4, .int v5, .ref qf6, .int v7])), (qf2, .inl (cf2, 201, .inl f2)), (qf3, .inl (cf3, 201, .inl f3))] s.heap := hP
  have hl := lv_entry ([.ref h0, .int a1, .int a2]) (n := 4) (Nat.le_of_ble_eq_true rfl)
  rw [lg_entry_eq]
  generalize (lg_sl ([.ref h0, .int a1, .int a2]) ++ List.replicate (4 - (lg_sl ([.ref h0, .int a1, .int a2])).length) Slot.unset).toArray = ls at hl ⊢
  have hl : lv_has ls 4 [(0, .ref h0), (1, .int a1), (2, .int a2)] := hl
  obtain ⟨H, hH⟩ : ∃ H : Heap, s.heap = H := ⟨_, rfl⟩
  rw [hH] at hP ⊢
  have hS : va_S A s.heap H [] := by rw [← hH]; exact va_S.rf
  obtain ⟨locs, hlo⟩ : ∃ locs : List Loc, locs = [] := ⟨_, rfl⟩
  rw [← hlo] at hS ⊢
  unfold sp_t6_constant at hsp
  refine lv_iconst (v := 1) hx hb dX6_constant_0 (by decide) ?_
  refine lv_istore_n (lv' := [(3, .int 1), (0, .ref h0), (1, .int a1), (2, .int a2)]) hx hb dX6_constant_1 rfl hl (by decide) rfl (fun ls hl => ?_)
  replace hP := hP.sub (ws' := [(h0, .inr (6, [.ref qf0, .ref qf1, .ref qf2, .ref qf3, .int v4, .int v5, .ref qf6, .int v7])), (qf2, .inl (cf2, 201, .inl f2)), (qf3, .inl (cf3, 201, .inl f3))]) [0, 1, 2] rfl
  replace hD := hD.sub (ws' := [(h0, .inr (6, [.ref qf0, .ref qf1, .ref qf2, .ref qf3, .int v4, .int v5, .ref qf6, .int v7])), (qf2, .inl (cf2, 201, .inl f2)), (qf3, .inl (cf3, 201, .inl f3))]) [0, 1, 2] (by decide) rfl
  replace hK := hK.sub (tys' := [(cf2, .int), (cf3, .int)]) [0, 1] rfl
  obtain ⟨n_2, hn_2⟩ : ∃ z : Nat, z = nf := ⟨_, rfl⟩
  obtain ⟨l1_2, el1_2⟩ : ∃ z : Int32, z = a1 := ⟨_, rfl⟩
  obtain ⟨l2_2, el2_2⟩ : ∃ z : Int32, z = a2 := ⟨_, rfl⟩
  obtain ⟨l3_2, el3_2⟩ : ∃ z : Int32, z = 1 := ⟨_, rfl⟩
  obtain ⟨g2_2, eg2_2⟩ : ∃ z : Nat → Int32, z = f2 := ⟨_, rfl⟩
  obtain ⟨g3_2, eg3_2⟩ : ∃ z : Nat → Int32, z = f3 := ⟨_, rfl⟩
  obtain ⟨x4_2, ex4_2⟩ : ∃ z : Int32, z = v4 := ⟨_, rfl⟩
  obtain ⟨x5_2, ex5_2⟩ : ∃ z : Int32, z = v5 := ⟨_, rfl⟩
  replace hsp : lp_t6_constant_2 nf n_2 a1 a2 v4 v5 f2 f3 l1_2 l2_2 l3_2 g2_2 g3_2 x4_2 x5_2 = some (r0, o2, o3, w4, w5) := by rw [hn_2, el1_2, el2_2, el3_2, eg2_2, eg3_2, ex4_2, ex5_2]; exact hsp
  replace hl : lv_has ls 4 [(3, .int l3_2), (0, .ref h0), (1, .int l1_2), (2, .int l2_2)] := by rw [el1_2, el2_2, el3_2]; exact hl
  replace hP : va_P (dC, dI) vwCl [(h0, .inr (6, [.ref qf0, .ref qf1, .ref qf2, .ref qf3, .int x4_2, .int x5_2, .ref qf6, .int v7])), (qf2, .inl (cf2, 201, .inl g2_2)), (qf3, .inl (cf3, 201, .inl g3_2))] H := by rw [eg2_2, eg3_2, ex4_2, ex5_2]; exact hP
  replace hD : va_D A [(h0, .inr (6, [.ref qf0, .ref qf1, .ref qf2, .ref qf3, .int x4_2, .int x5_2, .ref qf6, .int v7])), (qf2, .inl (cf2, 201, .inl g2_2)), (qf3, .inl (cf3, 201, .inl g3_2))] := by rw [eg2_2, eg3_2, ex4_2, ex5_2]; exact hD
  clear hn_2 el1_2 el2_2 el3_2 eg2_2 eg3_2 ex4_2 ex5_2
  try clear hlo
  try clear hH
  revert hsp
  revert hP
  revert hD
  revert hS
  revert hl
  revert x5_2
  revert x4_2
  revert g3_2
  revert g2_2
  revert l3_2
  revert l2_2
  revert l1_2
  revert ls
  revert locs
  revert H
  induction n_2 with
  | zero => intro H locs ls l1_2 l2_2 l3_2 g2_2 g3_2 x4_2 x5_2 hl hS hD hP hsp; unfold lp_t6_constant_2 at hsp; cases hsp
  | succ n_2 ih_2 =>
    intro H locs ls l1_2 l2_2 l3_2 g2_2 g3_2 x4_2 x5_2 hl hS hD hP hsp
    unfold lp_t6_constant_2 at hsp
    try dsimp only at hsp
    refine lv_iload_n hx hb dX6_constant_2 rfl (lv_at hl 0 rfl) ?_
    refine lv_aload_n hx hb dX6_constant_3 rfl (lv_at hl 1 rfl) ?_
    refine va_get (D := (dC, dI)) (ci := 6) (v := .int x4_2) (C := RX6) (T := TX6) (N := 8) hx hb hts uV_h4_X6 hown hK hP 0 rfl rfl 4 (by decide) (hts (.fieldLink RX6 28 "ClassMill$Pool" "count" "I") mw_h4_60) (fun _ h9 => h9) rfl dX6_constant_4 ?_
    refine lv_icmp_gt (tgt := 38) hx hb dX6_constant_7 (by decide) (fun c_1 => ?_) (fun c_1 => ?_)
    · rw [if_pos c_1] at hsp
      refine lv_aload_n hx hb dX6_constant_38 rfl (lv_at hl 1 rfl) ?_
      refine va_get (D := (dC, dI)) (ci := 6) (v := .int x4_2) (C := RX6) (T := TX6) (N := 8) hx hb hts uV_h4_X6 hown hK hP 0 rfl rfl 4 (by decide) (hts (.fieldLink RX6 28 "ClassMill$Pool" "count" "I") mw_h4_60) (fun _ h9 => h9) rfl dX6_constant_39 ?_
      refine lv_sipush (v := 200) hx hb dX6_constant_42 (by decide) ?_
      refine lv_icmp_lt (tgt := 55) hx hb dX6_constant_45 (by decide) (fun c_2 => ?_) (fun c_2 => ?_)
      · rw [if_pos c_2] at hsp
        refine lv_aload_n hx hb dX6_constant_55 rfl (lv_at hl 1 rfl) ?_
        refine lv_dup hx hb dX6_constant_56 rfl ?_
        refine va_get (D := (dC, dI)) (ci := 6) (v := .int x4_2) (C := RX6) (T := TX6) (N := 8) hx hb hts uV_h4_X6 hown hK hP 0 rfl rfl 4 (by decide) (hts (.fieldLink RX6 28 "ClassMill$Pool" "count" "I") mw_h4_60) (fun _ h9 => h9) rfl dX6_constant_57 ?_
        refine lv_iconst (v := 1) hx hb dX6_constant_60 (by decide) ?_
        refine lv_iadd hx hb dX6_constant_61 ?_
        refine va_put (D := (dC, dI)) (ci := 6) (v := .int (x4_2 + 1)) (ty := .int) (C := RX6) (T := TX6) (N := 8) hx hb hts uV_h4_X6 tyX6 tyX6_ok nmX6 hown hK hP hD hS 0 rfl rfl 4 (by decide) (hts (.fieldLink RX6 28 "ClassMill$Pool" "count" "I") mw_h4_60) (fun _ h9 => h9) rfl (by decide +kernel) rfl rfl (Nat.le_of_ble_eq_true rfl) dX6_constant_62 ?_
        clear hP hD hS
        intro H locs hP hD hS
        replace hP : va_P (dC, dI) vwCl [(h0, .inr (6, [.ref qf0, .ref qf1, .ref qf2, .ref qf3, .int (x4_2 + 1), .int x5_2, .ref qf6, .int v7])), (qf2, .inl (cf2, 201, .inl g2_2)), (qf3, .inl (cf3, 201, .inl g3_2))] H := hP
        replace hD : va_D A [(h0, .inr (6, [.ref qf0, .ref qf1, .ref qf2, .ref qf3, .int (x4_2 + 1), .int x5_2, .ref qf6, .int v7])), (qf2, .inl (cf2, 201, .inl g2_2)), (qf3, .inl (cf3, 201, .inl g3_2))] := hD
        refine lv_aload_n hx hb dX6_constant_65 rfl (lv_at hl 1 rfl) ?_
        refine va_get (D := (dC, dI)) (ci := 6) (v := .ref qf2) (C := RX6) (T := TX6) (N := 8) hx hb hts uV_h4_X6 hown hK hP 0 rfl rfl 2 (by decide) (hts (.fieldLink RX6 9 "ClassMill$Pool" "tags" "[I") mw_h4_61) (fun _ h9 => h9) rfl dX6_constant_66 ?_
        refine lv_aload_n hx hb dX6_constant_69 rfl (lv_at hl 1 rfl) ?_
        refine va_get (D := (dC, dI)) (ci := 6) (v := .int (x4_2 + 1)) (C := RX6) (T := TX6) (N := 8) hx hb hts uV_h4_X6 hown hK hP 0 rfl rfl 4 (by decide) (hts (.fieldLink RX6 28 "ClassMill$Pool" "count" "I") mw_h4_60) (fun _ h9 => h9) rfl dX6_constant_70 ?_
        refine lv_iload_n hx hb dX6_constant_73 rfl (lv_at hl 2 rfl) ?_
        obtain ⟨hi_3, hsp⟩ := ox_in hsp
        refine va_iast hx hb hK hP hD hS 1 0 rfl rfl (i := (x4_2 + 1)) (x := l1_2) hi_3 dX6_constant_74 ?_
        clear hP hD hS
        intro H locs hP hD hS
        replace hP : va_P (dC, dI) vwCl [(h0, .inr (6, [.ref qf0, .ref qf1, .ref qf2, .ref qf3, .int (x4_2 + 1), .int x5_2, .ref qf6, .int v7])), (qf2, .inl (cf2, 201, .inl (upd g2_2 ((x4_2 + 1) : Int32).toNatClampNeg l1_2))), (qf3, .inl (cf3, 201, .inl g3_2))] H := hP
        replace hD : va_D A [(h0, .inr (6, [.ref qf0, .ref qf1, .ref qf2, .ref qf3, .int (x4_2 + 1), .int x5_2, .ref qf6, .int v7])), (qf2, .inl (cf2, 201, .inl (upd g2_2 ((x4_2 + 1) : Int32).toNatClampNeg l1_2))), (qf3, .inl (cf3, 201, .inl g3_2))] := hD
        refine lv_aload_n hx hb dX6_constant_75 rfl (lv_at hl 1 rfl) ?_
        refine va_get (D := (dC, dI)) (ci := 6) (v := .ref qf3) (C := RX6) (T := TX6) (N := 8) hx hb hts uV_h4_X6 hown hK hP 0 rfl rfl 3 (by decide) (hts (.fieldLink RX6 13 "ClassMill$Pool" "values" "[I") mw_h4_62) (fun _ h9 => h9) rfl dX6_constant_76 ?_
        refine lv_aload_n hx hb dX6_constant_79 rfl (lv_at hl 1 rfl) ?_
        refine va_get (D := (dC, dI)) (ci := 6) (v := .int (x4_2 + 1)) (C := RX6) (T := TX6) (N := 8) hx hb hts uV_h4_X6 hown hK hP 0 rfl rfl 4 (by decide) (hts (.fieldLink RX6 28 "ClassMill$Pool" "count" "I") mw_h4_60) (fun _ h9 => h9) rfl dX6_constant_80 ?_
        refine lv_iload_n hx hb dX6_constant_83 rfl (lv_at hl 3 rfl) ?_
        obtain ⟨hi_4, hsp⟩ := ox_in hsp
        refine va_iast hx hb hK hP hD hS 2 1 rfl rfl (i := (x4_2 + 1)) (x := l2_2) hi_4 dX6_constant_84 ?_
        clear hP hD hS
        intro H locs hP hD hS
        replace hP : va_P (dC, dI) vwCl [(h0, .inr (6, [.ref qf0, .ref qf1, .ref qf2, .ref qf3, .int (x4_2 + 1), .int x5_2, .ref qf6, .int v7])), (qf2, .inl (cf2, 201, .inl (upd g2_2 ((x4_2 + 1) : Int32).toNatClampNeg l1_2))), (qf3, .inl (cf3, 201, .inl (upd g3_2 ((x4_2 + 1) : Int32).toNatClampNeg l2_2)))] H := hP
        replace hD : va_D A [(h0, .inr (6, [.ref qf0, .ref qf1, .ref qf2, .ref qf3, .int (x4_2 + 1), .int x5_2, .ref qf6, .int v7])), (qf2, .inl (cf2, 201, .inl (upd g2_2 ((x4_2 + 1) : Int32).toNatClampNeg l1_2))), (qf3, .inl (cf3, 201, .inl (upd g3_2 ((x4_2 + 1) : Int32).toNatClampNeg l2_2)))] := hD
        refine lv_aload_n hx hb dX6_constant_85 rfl (lv_at hl 1 rfl) ?_
        refine va_get (D := (dC, dI)) (ci := 6) (v := .int (x4_2 + 1)) (C := RX6) (T := TX6) (N := 8) hx hb hts uV_h4_X6 hown hK hP 0 rfl rfl 4 (by decide) (hts (.fieldLink RX6 28 "ClassMill$Pool" "count" "I") mw_h4_60) (fun _ h9 => h9) rfl dX6_constant_86 ?_
        have hr0 := Option.some.inj hsp
        clear hsp
        obtain ⟨hq0, hr1⟩ := Prod.mk.inj hr0
        clear hr0
        obtain ⟨hq1, hr2⟩ := Prod.mk.inj hr1
        clear hr1
        obtain ⟨hq2, hr3⟩ := Prod.mk.inj hr2
        clear hr2
        obtain ⟨hq3, hr4⟩ := Prod.mk.inj hr3
        clear hr3
        subst hq0
        subst hq1
        subst hq2
        subst hq3
        subst hr4
        have hP9 := hP.sub (ws' := [(h0, .inr (6, [.ref qf0, .ref qf1, .ref qf2, .ref qf3, .int (x4_2 + 1), .int x5_2, .ref qf6, .int v7])), (qf2, .inl (cf2, 201, .inl (upd g2_2 ((x4_2 + 1) : Int32).toNatClampNeg l1_2))), (qf3, .inl (cf3, 201, .inl (upd g3_2 ((x4_2 + 1) : Int32).toNatClampNeg l2_2)))]) [0, 1, 2] rfl
        have hD9 := hD.sub (ws' := [(h0, .inr (6, [.ref qf0, .ref qf1, .ref qf2, .ref qf3, .int (x4_2 + 1), .int x5_2, .ref qf6, .int v7])), (qf2, .inl (cf2, 201, .inl (upd g2_2 ((x4_2 + 1) : Int32).toNatClampNeg l1_2))), (qf3, .inl (cf3, 201, .inl (upd g3_2 ((x4_2 + 1) : Int32).toNatClampNeg l2_2)))]) [0, 1, 2] (by decide) rfl
        have hK9 := hK.sub (tys' := [(cf2, .int), (cf3, .int)]) [0, 1] rfl
        exact W.iret hx hb hr (fun t ht hW => ⟨⟨((x4_2 + 1)), (), rfl, rfl, by rw [ht]; exact hP9, va_K.moved hW.alike hK9, hD9⟩, hS.F ht⟩) hS.2.2 dX6_constant_89
      · rw [if_neg c_2] at hsp
        refine lv_aload_n hx hb dX6_constant_48 rfl (lv_at hl 1 rfl) ?_
        refine lv_iconst (v := 1) hx hb dX6_constant_49 (by decide) ?_
        refine va_put (D := (dC, dI)) (ci := 6) (v := .int 1) (ty := .boolean) (C := RX6) (T := TX6) (N := 8) hx hb hts uV_h4_X6 tyX6 tyX6_ok nmX6 hown hK hP hD hS 0 rfl rfl 5 (by decide) (hts (.fieldLink RX6 32 "ClassMill$Pool" "full" "Z") mw_h4_63) (fun _ h9 => h9) rfl (by decide +kernel) rfl rfl (Nat.le_of_ble_eq_true rfl) dX6_constant_50 ?_
        clear hP hD hS
        intro H locs hP hD hS
        replace hP : va_P (dC, dI) vwCl [(h0, .inr (6, [.ref qf0, .ref qf1, .ref qf2, .ref qf3, .int x4_2, .int 1, .ref qf6, .int v7])), (qf2, .inl (cf2, 201, .inl g2_2)), (qf3, .inl (cf3, 201, .inl g3_2))] H := hP
        replace hD : va_D A [(h0, .inr (6, [.ref qf0, .ref qf1, .ref qf2, .ref qf3, .int x4_2, .int 1, .ref qf6, .int v7])), (qf2, .inl (cf2, 201, .inl g2_2)), (qf3, .inl (cf3, 201, .inl g3_2))] := hD
        refine lv_iconst (v := 0) hx hb dX6_constant_53 (by decide) ?_
        have hr0 := Option.some.inj hsp
        clear hsp
        obtain ⟨hq0, hr1⟩ := Prod.mk.inj hr0
        clear hr0
        obtain ⟨hq1, hr2⟩ := Prod.mk.inj hr1
        clear hr1
        obtain ⟨hq2, hr3⟩ := Prod.mk.inj hr2
        clear hr2
        obtain ⟨hq3, hr4⟩ := Prod.mk.inj hr3
        clear hr3
        subst hq0
        subst hq1
        subst hq2
        subst hq3
        subst hr4
        have hP9 := hP.sub (ws' := [(h0, .inr (6, [.ref qf0, .ref qf1, .ref qf2, .ref qf3, .int x4_2, .int 1, .ref qf6, .int v7])), (qf2, .inl (cf2, 201, .inl g2_2)), (qf3, .inl (cf3, 201, .inl g3_2))]) [0, 1, 2] rfl
        have hD9 := hD.sub (ws' := [(h0, .inr (6, [.ref qf0, .ref qf1, .ref qf2, .ref qf3, .int x4_2, .int 1, .ref qf6, .int v7])), (qf2, .inl (cf2, 201, .inl g2_2)), (qf3, .inl (cf3, 201, .inl g3_2))]) [0, 1, 2] (by decide) rfl
        have hK9 := hK.sub (tys' := [(cf2, .int), (cf3, .int)]) [0, 1] rfl
        exact W.iret hx hb hr (fun t ht hW => ⟨⟨(0), (), rfl, rfl, by rw [ht]; exact hP9, va_K.moved hW.alike hK9, hD9⟩, hS.F ht⟩) hS.2.2 dX6_constant_54
    · rw [if_neg c_1] at hsp
      refine lv_aload_n hx hb dX6_constant_10 rfl (lv_at hl 1 rfl) ?_
      refine va_get (D := (dC, dI)) (ci := 6) (v := .ref qf2) (C := RX6) (T := TX6) (N := 8) hx hb hts uV_h4_X6 hown hK hP 0 rfl rfl 2 (by decide) (hts (.fieldLink RX6 9 "ClassMill$Pool" "tags" "[I") mw_h4_61) (fun _ h9 => h9) rfl dX6_constant_11 ?_
      refine lv_iload_n hx hb dX6_constant_14 rfl (lv_at hl 0 rfl) ?_
      obtain ⟨hi_5, hsp⟩ := ox_in hsp
      refine va_iald hx hb hK hP 1 0 rfl rfl (i := l3_2) hi_5 dX6_constant_15 ?_
      refine lv_iload_n hx hb dX6_constant_16 rfl (lv_at hl 2 rfl) ?_
      refine lv_icmp_ne (tgt := 32) hx hb dX6_constant_17 (by decide) (fun c_6 => ?_) (fun c_6 => ?_)
      · rw [if_neg c_6] at hsp
        refine lv_iinc (v := (l3_2 + 1)) (lv' := [(3, .int (l3_2 + 1)), (0, .ref h0), (1, .int l1_2), (2, .int l2_2)]) hx hb dX6_constant_32 hl (k := 0) rfl rfl (by decide) rfl (fun ls hl => ?_)
        refine lv_goto (tgt := 2) hx hb dX6_constant_35 (by decide) ?_
        exact ih_2 H locs ls l1_2 l2_2 (l3_2 + 1) g2_2 g3_2 x4_2 x5_2 (lv_sub hl [0, 1, 2, 3] rfl) hS (hD.sub (ws' := [(h0, .inr (6, [.ref qf0, .ref qf1, .ref qf2, .ref qf3, .int x4_2, .int x5_2, .ref qf6, .int v7])), (qf2, .inl (cf2, 201, .inl g2_2)), (qf3, .inl (cf3, 201, .inl g3_2))]) [0, 1, 2] (by decide) rfl) (hP.sub (ws' := [(h0, .inr (6, [.ref qf0, .ref qf1, .ref qf2, .ref qf3, .int x4_2, .int x5_2, .ref qf6, .int v7])), (qf2, .inl (cf2, 201, .inl g2_2)), (qf3, .inl (cf3, 201, .inl g3_2))]) [0, 1, 2] rfl) hsp
      · rw [if_pos c_6] at hsp
        refine lv_aload_n hx hb dX6_constant_20 rfl (lv_at hl 1 rfl) ?_
        refine va_get (D := (dC, dI)) (ci := 6) (v := .ref qf3) (C := RX6) (T := TX6) (N := 8) hx hb hts uV_h4_X6 hown hK hP 0 rfl rfl 3 (by decide) (hts (.fieldLink RX6 13 "ClassMill$Pool" "values" "[I") mw_h4_62) (fun _ h9 => h9) rfl dX6_constant_21 ?_
        refine lv_iload_n hx hb dX6_constant_24 rfl (lv_at hl 0 rfl) ?_
        obtain ⟨hi_7, hsp⟩ := ox_in hsp
        refine va_iald hx hb hK hP 2 1 rfl rfl (i := l3_2) hi_7 dX6_constant_25 ?_
        refine lv_iload_n hx hb dX6_constant_26 rfl (lv_at hl 3 rfl) ?_
        refine lv_icmp_ne (tgt := 32) hx hb dX6_constant_27 (by decide) (fun c_8 => ?_) (fun c_8 => ?_)
        · rw [if_neg c_8] at hsp
          refine lv_iinc (v := (l3_2 + 1)) (lv' := [(3, .int (l3_2 + 1)), (0, .ref h0), (1, .int l1_2), (2, .int l2_2)]) hx hb dX6_constant_32 hl (k := 0) rfl rfl (by decide) rfl (fun ls hl => ?_)
          refine lv_goto (tgt := 2) hx hb dX6_constant_35 (by decide) ?_
          exact ih_2 H locs ls l1_2 l2_2 (l3_2 + 1) g2_2 g3_2 x4_2 x5_2 (lv_sub hl [0, 1, 2, 3] rfl) hS (hD.sub (ws' := [(h0, .inr (6, [.ref qf0, .ref qf1, .ref qf2, .ref qf3, .int x4_2, .int x5_2, .ref qf6, .int v7])), (qf2, .inl (cf2, 201, .inl g2_2)), (qf3, .inl (cf3, 201, .inl g3_2))]) [0, 1, 2] (by decide) rfl) (hP.sub (ws' := [(h0, .inr (6, [.ref qf0, .ref qf1, .ref qf2, .ref qf3, .int x4_2, .int x5_2, .ref qf6, .int v7])), (qf2, .inl (cf2, 201, .inl g2_2)), (qf3, .inl (cf3, 201, .inl g3_2))]) [0, 1, 2] rfl) hsp
        · rw [if_pos c_8] at hsp
          refine lv_iload_n hx hb dX6_constant_30 rfl (lv_at hl 0 rfl) ?_
          have hr0 := Option.some.inj hsp
          clear hsp
          obtain ⟨hq0, hr1⟩ := Prod.mk.inj hr0
          clear hr0
          obtain ⟨hq1, hr2⟩ := Prod.mk.inj hr1
          clear hr1
          obtain ⟨hq2, hr3⟩ := Prod.mk.inj hr2
          clear hr2
          obtain ⟨hq3, hr4⟩ := Prod.mk.inj hr3
          clear hr3
          subst hq0
          subst hq1
          subst hq2
          subst hq3
          subst hr4
          have hP9 := hP.sub (ws' := [(h0, .inr (6, [.ref qf0, .ref qf1, .ref qf2, .ref qf3, .int x4_2, .int x5_2, .ref qf6, .int v7])), (qf2, .inl (cf2, 201, .inl g2_2)), (qf3, .inl (cf3, 201, .inl g3_2))]) [0, 1, 2] rfl
          have hD9 := hD.sub (ws' := [(h0, .inr (6, [.ref qf0, .ref qf1, .ref qf2, .ref qf3, .int x4_2, .int x5_2, .ref qf6, .int v7])), (qf2, .inl (cf2, 201, .inl g2_2)), (qf3, .inl (cf3, 201, .inl g3_2))]) [0, 1, 2] (by decide) rfl
          have hK9 := hK.sub (tys' := [(cf2, .int), (cf3, .int)]) [0, 1] rfl
          exact W.iret hx hb hr (fun t ht hW => ⟨⟨(l3_2), (), rfl, rfl, by rw [ht]; exact hP9, va_K.moved hW.alike hK9, hD9⟩, hS.F ht⟩) hS.2.2 dX6_constant_31
def sp_t6_numberOf (nf : Nat) (a1 : Int32) (v4 : Int32) (v5 : Int32) (f2 : Nat → Int32) (f3 : Nat → Int32) : Option (Int32 × (Nat → Int32) × (Nat → Int32) × Int32 × Int32) := ((sp_t6_constant nf 2 a1 v4 v5 f2 f3).bind (fun p1 => (some (p1.1, p1.2.1, p1.2.2.1, p1.2.2.2.1, p1.2.2.2.2))))
set_option maxHeartbeats 4000000 in
set_option maxRecDepth 100000 in
/-- ClassMill$Pool.numberOf -/
theorem t6_numberOf (l : Launch) (dC : Nat → ClassId) (dI : Nat → Nat → Nat) (sz : Nat) (h0 : Nat) (a1 : Int32) (qf0 : Nat) (qf1 : Nat) (qf2 : Nat) (qf3 : Nat) (v4 : Int32) (v5 : Int32) (qf6 : Nat) (v7 : Int32) (cf2 : ClassId) (f2 : (Nat → Int32)) (cf3 : ClassId) (f3 : (Nat → Int32)) (nf : Nat) (r0 : Int32) (o2 : (Nat → Int32)) (o3 : (Nat → Int32)) (w4 : Int32) (w5 : Int32) (hsp : sp_t6_numberOf nf a1 v4 v5 f2 f3 = some (r0, o2, o3, w4, w5)) : Met l yX6_numberOf (.code yX6_numberOf cX6_numberOf 2 (some .int) :: VS_h4) ({ frames := 1, cells := 0, slots := 0, locals := 23 }) (va_Pc [.ref h0, .int a1] (fun U => U.heap.size = sz ∧ va_P (dC, dI) vwCl [(h0, .inr (6, [.ref qf0, .ref qf1, .ref qf2, .ref qf3, .int v4, .int v5, .ref qf6, .int v7])), (qf2, .inl (cf2, 201, .inl f2)), (qf3, .inl (cf3, 201, .inl f3))] U.heap ∧ va_K (dC, dI) vwCl [(cf2, .int), (cf3, .int)] U ∧ va_D (fun _ => True) [(h0, .inr (6, [.ref qf0, .ref qf1, .ref qf2, .ref qf3, .int v4, .int v5, .ref qf6, .int v7])), (qf2, .inl (cf2, 201, .inl f2)), (qf3, .inl (cf3, 201, .inl f3))])) (va_Qi (fun (r : Int32) (u : Unit) => match u with | () => r0 = r) (fun (u : Unit) (t : State) => match u with | () => va_P (dC, dI) vwCl [(h0, .inr (6, [.ref qf0, .ref qf1, .ref qf2, .ref qf3, .int w4, .int w5, .ref qf6, .int v7])), (qf2, .inl (cf2, 201, .inl o2)), (qf3, .inl (cf3, 201, .inl o3))] t.heap ∧ va_K (dC, dI) vwCl [(cf2, .int), (cf3, .int)] t ∧ va_D (va_A [(h0, .inr (6, [.ref qf0, .ref qf1, .ref qf2, .ref qf3, .int v4, .int v5, .ref qf6, .int v7])), (qf2, .inl (cf2, 201, .inl f2)), (qf3, .inl (cf3, 201, .inl f3))] sz) [(h0, .inr (6, [.ref qf0, .ref qf1, .ref qf2, .ref qf3, .int w4, .int w5, .ref qf6, .int v7])), (qf2, .inl (cf2, 201, .inl o2)), (qf3, .inl (cf3, 201, .inl o3))]) (va_A [(h0, .inr (6, [.ref qf0, .ref qf1, .ref qf2, .ref qf3, .int v4, .int v5, .ref qf6, .int v7])), (qf2, .inl (cf2, 201, .inl f2)), (qf3, .inl (cf3, 201, .inl f3))] sz)) 0 0 (va_A [(h0, .inr (6, [.ref qf0, .ref qf1, .ref qf2, .ref qf3, .int v4, .int v5, .ref qf6, .int v7])), (qf2, .inl (cf2, 201, .inl f2)), (qf3, .inl (cf3, 201, .inl f3))] sz) := by
  refine Met.ofW (cc := cX6_numberOf) (maxL := 2) (ret := (some .int)) (by decide) rfl ?_
  intro p e s m args below meth c s₁ B hml hv
  obtain ⟨rfl, hsz, hP, hK, hD0⟩ := hv
  have hx := B.exec
  have hb := B.bytes
  have hr := B.returns
  have hts := atoms_spec (ws := (.code yX6_numberOf cX6_numberOf 2 (some .int) :: VS_h4)) B.pre
  replace hts := fun w (h : w ∈ VS_h4) => hts w (List.mem_cons_of_mem _ h)
  have hown : s.vm.findClass RX6 = some m.cls := findClass_of_methodNamed B.named
  have hlocks := B.notSynchronized
  subst hsz
  have hD := hD0.self (sz := s.heap.size)
  generalize hAe : va_A [(h0, .inr (6, [.ref qf0, .ref qf1, .ref qf2, .ref qf3, .int v4, .int v5, .ref qf6, .int v7])), (qf2, .inl (cf2, 201, .inl f2)), (qf3, .inl (cf3, 201, .inl f3))] s.heap.size = A at hD  ⊢
  have hA : ∀ q : Nat, s.heap.size ≤ q → A q := fun q h => by rw [← hAe]; exact Or.inr h
  have hP : va_P (dC, dI) vwCl [(h0, .inr (6, [.ref qf0, .ref qf1, .ref qf2, .ref qf3, .int v4, .int v5, .ref qf6, .int v7])), (qf2, .inl (cf2, 201, .inl f2)), (qf3, .inl (cf3, 201, .inl f3))] s.heap := hP
  have hl := lv_entry ([.ref h0, .int a1]) (n := 2) (Nat.le_of_ble_eq_true rfl)
  rw [lg_entry_eq]
  generalize (lg_sl ([.ref h0, .int a1]) ++ List.replicate (2 - (lg_sl ([.ref h0, .int a1])).length) Slot.unset).toArray = ls at hl ⊢
  have hl : lv_has ls 2 [(0, .ref h0), (1, .int a1)] := hl
  obtain ⟨H, hH⟩ : ∃ H : Heap, s.heap = H := ⟨_, rfl⟩
  rw [hH] at hP ⊢
  have hS : va_S A s.heap H [] := by rw [← hH]; exact va_S.rf
  obtain ⟨locs, hlo⟩ : ∃ locs : List Loc, locs = [] := ⟨_, rfl⟩
  rw [← hlo] at hS ⊢
  unfold sp_t6_numberOf at hsp
  refine lv_aload_n hx hb dX6_numberOf_0 rfl (lv_at hl 0 rfl) ?_
  refine lv_iconst (v := 2) hx hb dX6_numberOf_1 (by decide) ?_
  refine lv_iload_n hx hb dX6_numberOf_2 rfl (lv_at hl 1 rfl) ?_
  obtain ⟨⟨u1_0, g901_1, g901_2, u1_3, u1_4⟩, hu_1, hsp⟩ := ox_bind hsp
  try dsimp only at hsp
  have hPc := hP.sub (ws' := [(h0, .inr (6, [.ref qf0, .ref qf1, .ref qf2, .ref qf3, .int v4, .int v5, .ref qf6, .int v7])), (qf2, .inl (cf2, 201, .inl f2)), (qf3, .inl (cf3, 201, .inl f3))]) [0, 1, 2] rfl
  have hDc := hD.sub (ws' := [(h0, .inr (6, [.ref qf0, .ref qf1, .ref qf2, .ref qf3, .int v4, .int v5, .ref qf6, .int v7])), (qf2, .inl (cf2, 201, .inl f2)), (qf3, .inl (cf3, 201, .inl f3))]) [0, 1, 2] (by decide) rfl
  have hKc := hK.sub (tys' := [(cf2, .int), (cf3, .int)]) [0, 1] rfl
  have hFc := va_free (wc := [(h0, .inr (6, [.ref qf0, .ref qf1, .ref qf2, .ref qf3, .int v4, .int v5, .ref qf6, .int v7])), (qf2, .inl (cf2, 201, .inl f2)), (qf3, .inl (cf3, 201, .inl f3))]) hD hS hA [0, 1, 2] rfl
  refine va_calli (va_runV (As := [.int 2, .int a1]) (rest := []) ⟨hx, hb, hml, hown, hts⟩ (t6_constant l dC dI H.size h0 2 a1 qf0 qf1 qf2 qf3 v4 v5 qf6 v7 cf2 f2 cf3 f3 nf u1_0 g901_1 g901_2 u1_3 u1_4 hu_1) (cwV 2 hts gv_h4_13 rfl rfl rfl (by decide +kernel) ⟨Nat.le_of_ble_eq_true rfl, Nat.le_of_ble_eq_true rfl⟩) ⟨fun a U g mk q => by obtain ⟨q0, q1, qP, qK, qD⟩ := q; exact ⟨q0, q1, qP, va_K.moved (u := U) (U := U.calling g mk a) (Vm.Alike.refl U.vm) qK, qD⟩, va_recv hKc hPc (ci := 6) (q0 := 0) rfl rfl, fun U hU hW => ⟨rfl, by rw [hU], by rw [hU]; exact hPc, va_K.moved hW.alike hKc, hDc.weaken (fun _ _ _ _ => trivial)⟩⟩ rfl rfl hl.1 rfl (lv_room (Nat.le_of_ble_eq_true rfl)) dX6_numberOf_3 ⟨Nat.le_of_ble_eq_true rfl, Nat.le_of_ble_eq_true rfl⟩) hS (fun q _ h => hFc q h) hFc ?_
  clear hS
  intro r_1 u t H1 locs ht hvm hw hB hz1 hk1 hS
  obtain ⟨⟩ := u
  obtain ⟨hP1, hK1, hD1⟩ := hB
  rw [ht] at hP1
  have hK1 := va_K.moved hvm.symm hK1
  try dsimp only at hw
  have hPD := va_join (wr := []) (w1 := [(h0, .inr (6, [.ref qf0, .ref qf1, .ref qf2, .ref qf3, .int u1_3, .int u1_4, .ref qf6, .int v7])), (qf2, .inl (cf2, 201, .inl g901_1)), (qf3, .inl (cf3, 201, .inl g901_2))]) hP hD [0, 1, 2] [] rfl rfl (by decide) (by decide) hk1 hFc hP1 hD1
  clear hP hD
  obtain ⟨hP, hD⟩ := hPD
  replace hK := (hK.sub (tys' := []) [] rfl).app hK1
  clear hPc hDc hKc hFc hP1 hK1 hD1 hz1 hk1 ht hvm
  generalize H1 = H at hP hS ⊢
  replace hP : va_P (dC, dI) vwCl [(h0, .inr (6, [.ref qf0, .ref qf1, .ref qf2, .ref qf3, .int u1_3, .int u1_4, .ref qf6, .int v7])), (qf2, .inl (cf2, 201, .inl g901_1)), (qf3, .inl (cf3, 201, .inl g901_2))] H := hP
  replace hD : va_D A [(h0, .inr (6, [.ref qf0, .ref qf1, .ref qf2, .ref qf3, .int u1_3, .int u1_4, .ref qf6, .int v7])), (qf2, .inl (cf2, 201, .inl g901_1)), (qf3, .inl (cf3, 201, .inl g901_2))] := hD
  replace hK : va_K (dC, dI) vwCl [(cf2, .int), (cf3, .int)] s := hK
  obtain rfl := hw
  have hr0 := Option.some.inj hsp
  clear hsp
  obtain ⟨hq0, hr1⟩ := Prod.mk.inj hr0
  clear hr0
  obtain ⟨hq1, hr2⟩ := Prod.mk.inj hr1
  clear hr1
  obtain ⟨hq2, hr3⟩ := Prod.mk.inj hr2
  clear hr2
  obtain ⟨hq3, hr4⟩ := Prod.mk.inj hr3
  clear hr3
  subst hq0
  subst hq1
  subst hq2
  subst hq3
  subst hr4
  have hP9 := hP.sub (ws' := [(h0, .inr (6, [.ref qf0, .ref qf1, .ref qf2, .ref qf3, .int u1_3, .int u1_4, .ref qf6, .int v7])), (qf2, .inl (cf2, 201, .inl g901_1)), (qf3, .inl (cf3, 201, .inl g901_2))]) [0, 1, 2] rfl
  have hD9 := hD.sub (ws' := [(h0, .inr (6, [.ref qf0, .ref qf1, .ref qf2, .ref qf3, .int u1_3, .int u1_4, .ref qf6, .int v7])), (qf2, .inl (cf2, 201, .inl g901_1)), (qf3, .inl (cf3, 201, .inl g901_2))]) [0, 1, 2] (by decide) rfl
  have hK9 := hK.sub (tys' := [(cf2, .int), (cf3, .int)]) [0, 1] rfl
  exact W.iret hx hb hr (fun t ht hW => ⟨⟨(u1_0), (), rfl, rfl, by rw [ht]; exact hP9, va_K.moved hW.alike hK9, hD9⟩, hS.F ht⟩) hS.2.2 dX6_numberOf_6
def lp_t6_imageSize_9 (nf n : Nat) (v4 : Int32) (v7 : Int32) (f2 : Nat → Int32) (f3 : Nat → Int32) (v0_9 : Int32) (f0_5 : Nat → Int32)  (l1_9 : Int32) (l2_9 : Int32) : Option (Int32) := match n with
  | 0 => none
  | n + 1 => (if v4 < l2_9 then (some l1_9) else (if l2_9 < 0 then none else if 201 ≤ (l2_9 : Int32).toNatClampNeg then none else (if l2_9 < 0 then none else if 201 ≤ (l2_9 : Int32).toNatClampNeg then none else ((sp_t6_bytesOf nf (f2 (l2_9 : Int32).toNatClampNeg) (f3 (l2_9 : Int32).toNatClampNeg) v0_9 f0_5).bind (fun p1 => (lp_t6_imageSize_9 nf n v4 v7 f2 f3 v0_9 f0_5 (l1_9 + p1) (l2_9 + 1)))))))
def sp_t6_imageSize (nf : Nat) (v4 : Int32) (v7 : Int32) (f2 : Nat → Int32) (f3 : Nat → Int32) (v0_9 : Int32) (f0_5 : Nat → Int32) : Option (Int32) := (lp_t6_imageSize_9 nf nf v4 v7 f2 f3 v0_9 f0_5 (3 + v7) 1)
set_option maxHeartbeats 4000000 in
set_option maxRecDepth 100000 in
/-- ClassMill$Pool.imageSize -/
theorem t6_imageSize (l : Launch) (dC : Nat → ClassId) (dI : Nat → Nat → Nat) (sz : Nat) (h0 : Nat) (qf0 : Nat) (qf1 : Nat) (qf2 : Nat) (qf3 : Nat) (v4 : Int32) (v5 : Int32) (qf6 : Nat) (v7 : Int32) (cf2 : ClassId) (f2 : (Nat → Int32)) (cf3 : ClassId) (f3 : (Nat → Int32)) (qf0_0 : Nat) (qf0_1 : Nat) (qf0_2 : Nat) (v0_3 : Int32) (qf0_4 : Nat) (qf0_5 : Nat) (qf0_6 : Nat) (qf0_7 : Nat) (qf0_8 : Nat) (v0_9 : Int32) (v0_10 : Int32) (v0_11 : Int32) (v0_12 : Int32) (cf0_5 : ClassId) (f0_5 : (Nat → Int32)) (nf : Nat) (r0 : Int32) (hsp : sp_t6_imageSize nf v4 v7 f2 f3 v0_9 f0_5 = some r0) : Met l yX6_imageSize (.code yX6_imageSize cX6_imageSize 3 (some .int) :: VS_h4) ({ frames := 2, cells := 0, slots := 0, locals := 43 }) (va_Pc [.ref h0] (fun U => U.heap.size = sz ∧ va_P (dC, dI) vwCl [(h0, .inr (6, [.ref qf0, .ref qf1, .ref qf2, .ref qf3, .int v4, .int v5, .ref qf6, .int v7])), (qf2, .inl (cf2, 201, .inl f2)), (qf3, .inl (cf3, 201, .inl f3)), (qf0, .inr (9, [.ref qf0_0, .ref qf0_1, .ref qf0_2, .int v0_3, .ref qf0_4, .ref qf0_5, .ref qf0_6, .ref qf0_7, .ref qf0_8, .int v0_9, .int v0_10, .int v0_11, .int v0_12])), (qf0_5, .inl (cf0_5, 1741, .inl f0_5))] U.heap ∧ va_K (dC, dI) vwCl [(cf2, .int), (cf3, .int), (cf0_5, .int)] U ∧ va_D (fun _ => True) [(h0, .inr (6, [.ref qf0, .ref qf1, .ref qf2, .ref qf3, .int v4, .int v5, .ref qf6, .int v7])), (qf2, .inl (cf2, 201, .inl f2)), (qf3, .inl (cf3, 201, .inl f3)), (qf0, .inr (9, [.ref qf0_0, .ref qf0_1, .ref qf0_2, .int v0_3, .ref qf0_4, .ref qf0_5, .ref qf0_6, .ref qf0_7, .ref qf0_8, .int v0_9, .int v0_10, .int v0_11, .int v0_12])), (qf0_5, .inl (cf0_5, 1741, .inl f0_5))])) (va_Qi (fun (r : Int32) (u : Unit) => match u with | () => r0 = r) (fun (u : Unit) (t : State) => match u with | () => va_P (dC, dI) vwCl [(h0, .inr (6, [.ref qf0, .ref qf1, .ref qf2, .ref qf3, .int v4, .int v5, .ref qf6, .int v7])), (qf2, .inl (cf2, 201, .inl f2)), (qf3, .inl (cf3, 201, .inl f3)), (qf0, .inr (9, [.ref qf0_0, .ref qf0_1, .ref qf0_2, .int v0_3, .ref qf0_4, .ref qf0_5, .ref qf0_6, .ref qf0_7, .ref qf0_8, .int v0_9, .int v0_10, .int v0_11, .int v0_12])), (qf0_5, .inl (cf0_5, 1741, .inl f0_5))] t.heap ∧ va_K (dC, dI) vwCl [(cf2, .int), (cf3, .int), (cf0_5, .int)] t ∧ va_D (va_A [(h0, .inr (6, [.ref qf0, .ref qf1, .ref qf2, .ref qf3, .int v4, .int v5, .ref qf6, .int v7])), (qf2, .inl (cf2, 201, .inl f2)), (qf3, .inl (cf3, 201, .inl f3)), (qf0, .inr (9, [.ref qf0_0, .ref qf0_1, .ref qf0_2, .int v0_3, .ref qf0_4, .ref qf0_5, .ref qf0_6, .ref qf0_7, .ref qf0_8, .int v0_9, .int v0_10, .int v0_11, .int v0_12])), (qf0_5, .inl (cf0_5, 1741, .inl f0_5))] sz) [(h0, .inr (6, [.ref qf0, .ref qf1, .ref qf2, .ref qf3, .int v4, .int v5, .ref qf6, .int v7])), (qf2, .inl (cf2, 201, .inl f2)), (qf3, .inl (cf3, 201, .inl f3)), (qf0, .inr (9, [.ref qf0_0, .ref qf0_1, .ref qf0_2, .int v0_3, .ref qf0_4, .ref qf0_5, .ref qf0_6, .ref qf0_7, .ref qf0_8, .int v0_9, .int v0_10, .int v0_11, .int v0_12])), (qf0_5, .inl (cf0_5, 1741, .inl f0_5))]) (va_A [(h0, .inr (6, [.ref qf0, .ref qf1, .ref qf2, .ref qf3, .int v4, .int v5, .ref qf6, .int v7])), (qf2, .inl (cf2, 201, .inl f2)), (qf3, .inl (cf3, 201, .inl f3)), (qf0, .inr (9, [.ref qf0_0, .ref qf0_1, .ref qf0_2, .int v0_3, .ref qf0_4, .ref qf0_5, .ref qf0_6, .ref qf0_7, .ref qf0_8, .int v0_9, .int v0_10, .int v0_11, .int v0_12])), (qf0_5, .inl (cf0_5, 1741, .inl f0_5))] sz)) 0 0 (va_A [(h0, .inr (6, [.ref qf0, .ref qf1, .ref qf2, .ref qf3, .int v4, .int v5, .ref qf6, .int v7])), (qf2, .inl (cf2, 201, .inl f2)), (qf3, .inl (cf3, 201, .inl f3)), (qf0, .inr (9, [.ref qf0_0, .ref qf0_1, .ref qf0_2, .int v0_3, .ref qf0_4, .ref qf0_5, .ref qf0_6, .ref qf0_7, .ref qf0_8, .int v0_9, .int v0_10, .int v0_11, .int v0_12])), (qf0_5, .inl (cf0_5, 1741, .inl f0_5))] sz) := by
  refine Met.ofW (cc := cX6_imageSize) (maxL := 3) (ret := (some .int)) (by decide) rfl ?_
  intro p e s m args below meth c s₁ B hml hv
  obtain ⟨rfl, hsz, hP, hK, hD0⟩ := hv
  have hx := B.exec
  have hb := B.bytes
  have hr := B.returns
  have hts := atoms_spec (ws := (.code yX6_imageSize cX6_imageSize 3 (some .int) :: VS_h4)) B.pre
  replace hts := fun w (h : w ∈ VS_h4) => hts w (List.mem_cons_of_mem _ h)
  have hown : s.vm.findClass RX6 = some m.cls := findClass_of_methodNamed B.named
  have hlocks := B.notSynchronized
  subst hsz
  have hD := hD0.self (sz := s.heap.size)
  generalize hAe : va_A [(h0, .inr (6, [.ref qf0, .ref qf1, .ref qf2, .ref qf3, .int v4, .int v5, .ref qf6, .int v7])), (qf2, .inl (cf2, 201, .inl f2)), (qf3, .inl (cf3, 201, .inl f3)), (qf0, .inr (9, [.ref qf0_0, .ref qf0_1, .ref qf0_2, .int v0_3, .ref qf0_4, .ref qf0_5, .ref qf0_6, .ref qf0_7, .ref qf0_8, .int v0_9, .int v0_10, .int v0_11, .int v0_12])), (qf0_5, .inl (cf0_5, 1741, .inl f0_5))] s.heap.size = A at hD  ⊢
  have hA : ∀ q : Nat, s.heap.size ≤ q → A q := fun q h => by rw [← hAe]; exact Or.inr h
  have hP : va_P (dC, dI) vwCl [(h0, .inr (6, [.ref qf0, .ref qf1, .ref qf2, .ref qf3, .int v4, .int v5, .ref qf6, .int v7])), (qf2, .inl (cf2, 201, .inl f2)), (qf3, .inl (cf3, 201, .inl f3)), (qf0, .inr (9, [.ref qf0_0, .ref qf0_1, .ref qf0_2, .int v0_3, .ref qf0_4, .ref qf0_5, .ref qf0_6, .ref qf0_7, .ref qf0_8, .int v0_9, .int v0_10, .int v0_11, .int v0_12])), (qf0_5, .inl (cf0_5, 1741, .inl f0_5))] s.heap := hP
  have hl := lv_entry ([.ref h0]) (n := 3) (Nat.le_of_ble_eq_true rfl)
  rw [lg_entry_eq]
  generalize (lg_sl ([.ref h0]) ++ List.replicate (3 - (lg_sl ([.ref h0])).length) Slot.unset).toArray = ls at hl ⊢
  have hl : lv_has ls 3 [(0, .ref h0)] := hl
  obtain ⟨H, hH⟩ : ∃ H : Heap, s.heap = H := ⟨_, rfl⟩
  rw [hH] at hP ⊢
  have hS : va_S A s.heap H [] := by rw [← hH]; exact va_S.rf
  obtain ⟨locs, hlo⟩ : ∃ locs : List Loc, locs = [] := ⟨_, rfl⟩
  rw [← hlo] at hS ⊢
  unfold sp_t6_imageSize at hsp
  refine lv_iconst (v := 3) hx hb dX6_imageSize_0 (by decide) ?_
  refine lv_aload_n hx hb dX6_imageSize_1 rfl (lv_at hl 0 rfl) ?_
  refine va_get (D := (dC, dI)) (ci := 6) (v := .int v7) (C := RX6) (T := TX6) (N := 8) hx hb hts uV_h4_X6 hown hK hP 0 rfl rfl 7 (by decide) (hts (.fieldLink RX6 36 "ClassMill$Pool" "bodySize" "I") mw_h4_47) (fun _ h9 => h9) rfl dX6_imageSize_2 ?_
  refine lv_iadd hx hb dX6_imageSize_5 ?_
  refine lv_istore_n (lv' := [(1, .int (3 + v7)), (0, .ref h0)]) hx hb dX6_imageSize_6 rfl hl (by decide) rfl (fun ls hl => ?_)
  refine lv_iconst (v := 1) hx hb dX6_imageSize_7 (by decide) ?_
  refine lv_istore_n (lv' := [(2, .int 1), (1, .int (3 + v7)), (0, .ref h0)]) hx hb dX6_imageSize_8 rfl hl (by decide) rfl (fun ls hl => ?_)
  replace hP := hP.sub (ws' := [(h0, .inr (6, [.ref qf0, .ref qf1, .ref qf2, .ref qf3, .int v4, .int v5, .ref qf6, .int v7])), (qf2, .inl (cf2, 201, .inl f2)), (qf3, .inl (cf3, 201, .inl f3)), (qf0, .inr (9, [.ref qf0_0, .ref qf0_1, .ref qf0_2, .int v0_3, .ref qf0_4, .ref qf0_5, .ref qf0_6, .ref qf0_7, .ref qf0_8, .int v0_9, .int v0_10, .int v0_11, .int v0_12])), (qf0_5, .inl (cf0_5, 1741, .inl f0_5))]) [0, 1, 2, 3, 4] rfl
  replace hD := hD.sub (ws' := [(h0, .inr (6, [.ref qf0, .ref qf1, .ref qf2, .ref qf3, .int v4, .int v5, .ref qf6, .int v7])), (qf2, .inl (cf2, 201, .inl f2)), (qf3, .inl (cf3, 201, .inl f3)), (qf0, .inr (9, [.ref qf0_0, .ref qf0_1, .ref qf0_2, .int v0_3, .ref qf0_4, .ref qf0_5, .ref qf0_6, .ref qf0_7, .ref qf0_8, .int v0_9, .int v0_10, .int v0_11, .int v0_12])), (qf0_5, .inl (cf0_5, 1741, .inl f0_5))]) [0, 1, 2, 3, 4] (by decide) rfl
  replace hK := hK.sub (tys' := [(cf2, .int), (cf3, .int), (cf0_5, .int)]) [0, 1, 2] rfl
  obtain ⟨n_9, hn_9⟩ : ∃ z : Nat, z = nf := ⟨_, rfl⟩
  obtain ⟨l1_9, el1_9⟩ : ∃ z : Int32, z = (3 + v7) := ⟨_, rfl⟩
  obtain ⟨l2_9, el2_9⟩ : ∃ z : Int32, z = 1 := ⟨_, rfl⟩
  replace hsp : lp_t6_imageSize_9 nf n_9 v4 v7 f2 f3 v0_9 f0_5 l1_9 l2_9 = some r0 := by rw [hn_9, el1_9, el2_9]; exact hsp
  replace hl : lv_has ls 3 [(2, .int l2_9), (1, .int l1_9), (0, .ref h0)] := by rw [el1_9, el2_9]; exact hl
  clear hn_9 el1_9 el2_9
  try clear hlo
  try clear hH
  revert hsp
  revert hP
  revert hD
  revert hS
  revert hl
  revert l2_9
  revert l1_9
  revert ls
  revert locs
  revert H
  induction n_9 with
  | zero => intro H locs ls l1_9 l2_9 hl hS hD hP hsp; unfold lp_t6_imageSize_9 at hsp; cases hsp
  | succ n_9 ih_9 =>
    intro H locs ls l1_9 l2_9 hl hS hD hP hsp
    unfold lp_t6_imageSize_9 at hsp
    try dsimp only at hsp
    refine lv_iload_n hx hb dX6_imageSize_9 rfl (lv_at hl 0 rfl) ?_
    refine lv_aload_n hx hb dX6_imageSize_10 rfl (lv_at hl 2 rfl) ?_
    refine va_get (D := (dC, dI)) (ci := 6) (v := .int v4) (C := RX6) (T := TX6) (N := 8) hx hb hts uV_h4_X6 hown hK hP 0 rfl rfl 4 (by decide) (hts (.fieldLink RX6 28 "ClassMill$Pool" "count" "I") mw_h4_60) (fun _ h9 => h9) rfl dX6_imageSize_11 ?_
    refine lv_icmp_gt (tgt := 42) hx hb dX6_imageSize_14 (by decide) (fun c_1 => ?_) (fun c_1 => ?_)
    · rw [if_pos c_1] at hsp
      refine lv_iload_n hx hb dX6_imageSize_42 rfl (lv_at hl 1 rfl) ?_
      have hr0 := Option.some.inj hsp
      clear hsp
      subst hr0
      have hP9 := hP.sub (ws' := [(h0, .inr (6, [.ref qf0, .ref qf1, .ref qf2, .ref qf3, .int v4, .int v5, .ref qf6, .int v7])), (qf2, .inl (cf2, 201, .inl f2)), (qf3, .inl (cf3, 201, .inl f3)), (qf0, .inr (9, [.ref qf0_0, .ref qf0_1, .ref qf0_2, .int v0_3, .ref qf0_4, .ref qf0_5, .ref qf0_6, .ref qf0_7, .ref qf0_8, .int v0_9, .int v0_10, .int v0_11, .int v0_12])), (qf0_5, .inl (cf0_5, 1741, .inl f0_5))]) [0, 1, 2, 3, 4] rfl
      have hD9 := hD.sub (ws' := [(h0, .inr (6, [.ref qf0, .ref qf1, .ref qf2, .ref qf3, .int v4, .int v5, .ref qf6, .int v7])), (qf2, .inl (cf2, 201, .inl f2)), (qf3, .inl (cf3, 201, .inl f3)), (qf0, .inr (9, [.ref qf0_0, .ref qf0_1, .ref qf0_2, .int v0_3, .ref qf0_4, .ref qf0_5, .ref qf0_6, .ref qf0_7, .ref qf0_8, .int v0_9, .int v0_10, .int v0_11, .int v0_12])), (qf0_5, .inl (cf0_5, 1741, .inl f0_5))]) [0, 1, 2, 3, 4] (by decide) rfl
      have hK9 := hK.sub (tys' := [(cf2, .int), (cf3, .int), (cf0_5, .int)]) [0, 1, 2] rfl
      exact W.iret hx hb hr (fun t ht hW => ⟨⟨(l1_9), (), rfl, rfl, by rw [ht]; exact hP9, va_K.moved hW.alike hK9, hD9⟩, hS.F ht⟩) hS.2.2 dX6_imageSize_43
    · rw [if_neg c_1] at hsp
      refine lv_iload_n hx hb dX6_imageSize_17 rfl (lv_at hl 1 rfl) ?_
      refine lv_aload_n hx hb dX6_imageSize_18 rfl (lv_at hl 2 rfl) ?_
      refine lv_aload_n hx hb dX6_imageSize_19 rfl (lv_at hl 2 rfl) ?_
      refine va_get (D := (dC, dI)) (ci := 6) (v := .ref qf2) (C := RX6) (T := TX6) (N := 8) hx hb hts uV_h4_X6 hown hK hP 0 rfl rfl 2 (by decide) (hts (.fieldLink RX6 9 "ClassMill$Pool" "tags" "[I") mw_h4_61) (fun _ h9 => h9) rfl dX6_imageSize_20 ?_
      refine lv_iload_n hx hb dX6_imageSize_23 rfl (lv_at hl 0 rfl) ?_
      obtain ⟨hi_2, hsp⟩ := ox_in hsp
      refine va_iald hx hb hK hP 1 0 rfl rfl (i := l2_9) hi_2 dX6_imageSize_24 ?_
      refine lv_aload_n hx hb dX6_imageSize_25 rfl (lv_at hl 2 rfl) ?_
      refine va_get (D := (dC, dI)) (ci := 6) (v := .ref qf3) (C := RX6) (T := TX6) (N := 8) hx hb hts uV_h4_X6 hown hK hP 0 rfl rfl 3 (by decide) (hts (.fieldLink RX6 13 "ClassMill$Pool" "values" "[I") mw_h4_62) (fun _ h9 => h9) rfl dX6_imageSize_26 ?_
      refine lv_iload_n hx hb dX6_imageSize_29 rfl (lv_at hl 0 rfl) ?_
      obtain ⟨hi_3, hsp⟩ := ox_in hsp
      refine va_iald hx hb hK hP 2 1 rfl rfl (i := l2_9) hi_3 dX6_imageSize_30 ?_
      obtain ⟨u1_0, hu_1, hsp⟩ := ox_bind hsp
      try dsimp only at hsp
      have hPc := hP.sub (ws' := [(h0, .inr (6, [.ref qf0, .ref qf1, .ref qf2, .ref qf3, .int v4, .int v5, .ref qf6, .int v7])), (qf0, .inr (9, [.ref qf0_0, .ref qf0_1, .ref qf0_2, .int v0_3, .ref qf0_4, .ref qf0_5, .ref qf0_6, .ref qf0_7, .ref qf0_8, .int v0_9, .int v0_10, .int v0_11, .int v0_12])), (qf0_5, .inl (cf0_5, 1741, .inl f0_5))]) [0, 3, 4] rfl
      have hDc := hD.sub (ws' := [(h0, .inr (6, [.ref qf0, .ref qf1, .ref qf2, .ref qf3, .int v4, .int v5, .ref qf6, .int v7])), (qf0, .inr (9, [.ref qf0_0, .ref qf0_1, .ref qf0_2, .int v0_3, .ref qf0_4, .ref qf0_5, .ref qf0_6, .ref qf0_7, .ref qf0_8, .int v0_9, .int v0_10, .int v0_11, .int v0_12])), (qf0_5, .inl (cf0_5, 1741, .inl f0_5))]) [0, 3, 4] (by decide) rfl
      have hKc := hK.sub (tys' := [(cf0_5, .int)]) [2] rfl
      have hFc := va_free (wc := [(h0, .inr (6, [.ref qf0, .ref qf1, .ref qf2, .ref qf3, .int v4, .int v5, .ref qf6, .int v7])), (qf0, .inr (9, [.ref qf0_0, .ref qf0_1, .ref qf0_2, .int v0_3, .ref qf0_4, .ref qf0_5, .ref qf0_6, .ref qf0_7, .ref qf0_8, .int v0_9, .int v0_10, .int v0_11, .int v0_12])), (qf0_5, .inl (cf0_5, 1741, .inl f0_5))]) hD hS hA [0, 3, 4] rfl
      refine va_calli (va_runV (As := [.int (f2 (l2_9 : Int32).toNatClampNeg), .int (f3 (l2_9 : Int32).toNatClampNeg)]) (rest := [.int l1_9]) ⟨hx, hb, hml, hown, hts⟩ (t6_bytesOf l dC dI H.size h0 ((f2 (l2_9 : Int32).toNatClampNeg)) ((f3 (l2_9 : Int32).toNatClampNeg)) qf0 qf1 qf2 qf3 v4 v5 qf6 v7 qf0_0 qf0_1 qf0_2 v0_3 qf0_4 qf0_5 qf0_6 qf0_7 qf0_8 v0_9 v0_10 v0_11 v0_12 cf0_5 f0_5 nf u1_0 hu_1) (cwV 2 hts gv_h4_12 rfl rfl rfl (by decide +kernel) ⟨Nat.le_of_ble_eq_true rfl, Nat.le_of_ble_eq_true rfl⟩) ⟨fun a U g mk q => by obtain ⟨q0, q1, qP, qK, qD⟩ := q; exact ⟨q0, q1, qP, va_K.moved (u := U) (U := U.calling g mk a) (Vm.Alike.refl U.vm) qK, qD⟩, va_recv hKc hPc (ci := 6) (q0 := 0) rfl rfl, fun U hU hW => ⟨rfl, by rw [hU], by rw [hU]; exact hPc, va_K.moved hW.alike hKc, hDc.weaken (fun _ _ _ _ => trivial)⟩⟩ rfl rfl hl.1 rfl (lv_room (Nat.le_of_ble_eq_true rfl)) dX6_imageSize_31 ⟨Nat.le_of_ble_eq_true rfl, Nat.le_of_ble_eq_true rfl⟩) hS (fun q _ h => hFc q h) hFc ?_
      clear hS
      intro r_4 u t H1 locs ht hvm hw hB hz1 hk1 hS
      obtain ⟨⟩ := u
      obtain ⟨hP1, hK1, hD1⟩ := hB
      rw [ht] at hP1
      have hK1 := va_K.moved hvm.symm hK1
      try dsimp only at hw
      have hPD := va_join (wr := [(qf2, .inl (cf2, 201, .inl f2)), (qf3, .inl (cf3, 201, .inl f3))]) (w1 := [(h0, .inr (6, [.ref qf0, .ref qf1, .ref qf2, .ref qf3, .int v4, .int v5, .ref qf6, .int v7])), (qf0, .inr (9, [.ref qf0_0, .ref qf0_1, .ref qf0_2, .int v0_3, .ref qf0_4, .ref qf0_5, .ref qf0_6, .ref qf0_7, .ref qf0_8, .int v0_9, .int v0_10, .int v0_11, .int v0_12])), (qf0_5, .inl (cf0_5, 1741, .inl f0_5))]) hP hD [0, 3, 4] [1, 2] rfl rfl (by decide) (by decide) hk1 hFc hP1 hD1
      clear hP hD
      obtain ⟨hP, hD⟩ := hPD
      replace hK := (hK.sub (tys' := [(cf2, .int), (cf3, .int)]) [0, 1] rfl).app hK1
      clear hPc hDc hKc hFc hP1 hK1 hD1 hz1 hk1 ht hvm
      generalize H1 = H at hP hS ⊢
      replace hP : va_P (dC, dI) vwCl [(qf2, .inl (cf2, 201, .inl f2)), (qf3, .inl (cf3, 201, .inl f3)), (h0, .inr (6, [.ref qf0, .ref qf1, .ref qf2, .ref qf3, .int v4, .int v5, .ref qf6, .int v7])), (qf0, .inr (9, [.ref qf0_0, .ref qf0_1, .ref qf0_2, .int v0_3, .ref qf0_4, .ref qf0_5, .ref qf0_6, .ref qf0_7, .ref qf0_8, .int v0_9, .int v0_10, .int v0_11, .int v0_12])), (qf0_5, .inl (cf0_5, 1741, .inl f0_5))] H := hP
      replace hD : va_D A [(qf2, .inl (cf2, 201, .inl f2)), (qf3, .inl (cf3, 201, .inl f3)), (h0, .inr (6, [.ref qf0, .ref qf1, .ref qf2, .ref qf3, .int v4, .int v5, .ref qf6, .int v7])), (qf0, .inr (9, [.ref qf0_0, .ref qf0_1, .ref qf0_2, .int v0_3, .ref qf0_4, .ref qf0_5, .ref qf0_6, .ref qf0_7, .ref qf0_8, .int v0_9, .int v0_10, .int v0_11, .int v0_12])), (qf0_5, .inl (cf0_5, 1741, .inl f0_5))] := hD
      replace hK : va_K (dC, dI) vwCl [(cf2, .int), (cf3, .int), (cf0_5, .int)] s := hK
      obtain rfl := hw
      refine lv_iadd hx hb dX6_imageSize_34 ?_
      refine lv_istore_n (lv' := [(1, .int (l1_9 + u1_0)), (2, .int l2_9), (0, .ref h0)]) hx hb dX6_imageSize_35 rfl hl (by decide) rfl (fun ls hl => ?_)
      refine lv_iinc (v := (l2_9 + 1)) (lv' := [(2, .int (l2_9 + 1)), (1, .int (l1_9 + u1_0)), (0, .ref h0)]) hx hb dX6_imageSize_36 hl (k := 1) rfl rfl (by decide) rfl (fun ls hl => ?_)
      refine lv_goto (tgt := 9) hx hb dX6_imageSize_39 (by decide) ?_
      exact ih_9 H locs ls (l1_9 + u1_0) (l2_9 + 1) (lv_sub hl [0, 1, 2] rfl) hS (hD.sub (ws' := [(h0, .inr (6, [.ref qf0, .ref qf1, .ref qf2, .ref qf3, .int v4, .int v5, .ref qf6, .int v7])), (qf2, .inl (cf2, 201, .inl f2)), (qf3, .inl (cf3, 201, .inl f3)), (qf0, .inr (9, [.ref qf0_0, .ref qf0_1, .ref qf0_2, .int v0_3, .ref qf0_4, .ref qf0_5, .ref qf0_6, .ref qf0_7, .ref qf0_8, .int v0_9, .int v0_10, .int v0_11, .int v0_12])), (qf0_5, .inl (cf0_5, 1741, .inl f0_5))]) [2, 0, 1, 3, 4] (by decide) rfl) (hP.sub (ws' := [(h0, .inr (6, [.ref qf0, .ref qf1, .ref qf2, .ref qf3, .int v4, .int v5, .ref qf6, .int v7])), (qf2, .inl (cf2, 201, .inl f2)), (qf3, .inl (cf3, 201, .inl f3)), (qf0, .inr (9, [.ref qf0_0, .ref qf0_1, .ref qf0_2, .int v0_3, .ref qf0_4, .ref qf0_5, .ref qf0_6, .ref qf0_7, .ref qf0_8, .int v0_9, .int v0_10, .int v0_11, .int v0_12])), (qf0_5, .inl (cf0_5, 1741, .inl f0_5))]) [2, 0, 1, 3, 4] rfl) hsp
def sp_t6_isTooMuch (nf : Nat) (v4 : Int32) (v5 : Int32) (v7 : Int32) (f2 : Nat → Int32) (f3 : Nat → Int32) (v0_9 : Int32) (f0_5 : Nat → Int32) : Option (Int32) := (if v5 = 0 then ((sp_t6_imageSize nf v4 v7 f2 f3 v0_9 f0_5).bind (fun p1 => (if p1 ≤ 6000 then (some 0) else (some 1)))) else (some 1))
set_option maxHeartbeats 4000000 in
set_option maxRecDepth 100000 in
/-- ClassMill$Pool.isTooMuch -/
theorem t6_isTooMuch (l : Launch) (dC : Nat → ClassId) (dI : Nat → Nat → Nat) (sz : Nat) (h0 : Nat) (qf0 : Nat) (qf1 : Nat) (qf2 : Nat) (qf3 : Nat) (v4 : Int32) (v5 : Int32) (qf6 : Nat) (v7 : Int32) (cf2 : ClassId) (f2 : (Nat → Int32)) (cf3 : ClassId) (f3 : (Nat → Int32)) (qf0_0 : Nat) (qf0_1 : Nat) (qf0_2 : Nat) (v0_3 : Int32) (qf0_4 : Nat) (qf0_5 : Nat) (qf0_6 : Nat) (qf0_7 : Nat) (qf0_8 : Nat) (v0_9 : Int32) (v0_10 : Int32) (v0_11 : Int32) (v0_12 : Int32) (cf0_5 : ClassId) (f0_5 : (Nat → Int32)) (nf : Nat) (r0 : Int32) (hsp : sp_t6_isTooMuch nf v4 v5 v7 f2 f3 v0_9 f0_5 = some r0) : Met l yX6_isTooMuch (.code yX6_isTooMuch cX6_isTooMuch 1 (some .boolean) :: VS_h4) ({ frames := 3, cells := 0, slots := 0, locals := 65 }) (va_Pc [.ref h0] (fun U => U.heap.size = sz ∧ va_P (dC, dI) vwCl [(h0, .inr (6, [.ref qf0, .ref qf1, .ref qf2, .ref qf3, .int v4, .int v5, .ref qf6, .int v7])), (qf2, .inl (cf2, 201, .inl f2)), (qf3, .inl (cf3, 201, .inl f3)), (qf0, .inr (9, [.ref qf0_0, .ref qf0_1, .ref qf0_2, .int v0_3, .ref qf0_4, .ref qf0_5, .ref qf0_6, .ref qf0_7, .ref qf0_8, .int v0_9, .int v0_10, .int v0_11, .int v0_12])), (qf0_5, .inl (cf0_5, 1741, .inl f0_5))] U.heap ∧ va_K (dC, dI) vwCl [(cf2, .int), (cf3, .int), (cf0_5, .int)] U ∧ va_D (fun _ => True) [(h0, .inr (6, [.ref qf0, .ref qf1, .ref qf2, .ref qf3, .int v4, .int v5, .ref qf6, .int v7])), (qf2, .inl (cf2, 201, .inl f2)), (qf3, .inl (cf3, 201, .inl f3)), (qf0, .inr (9, [.ref qf0_0, .ref qf0_1, .ref qf0_2, .int v0_3, .ref qf0_4, .ref qf0_5, .ref qf0_6, .ref qf0_7, .ref qf0_8, .int v0_9, .int v0_10, .int v0_11, .int v0_12])), (qf0_5, .inl (cf0_5, 1741, .inl f0_5))])) (va_Qi (fun (r : Int32) (u : Unit) => match u with | () => r0 = r ∧ (r0 = 0 ∨ r0 = 1)) (fun (u : Unit) (t : State) => match u with | () => va_P (dC, dI) vwCl [(h0, .inr (6, [.ref qf0, .ref qf1, .ref qf2, .ref qf3, .int v4, .int v5, .ref qf6, .int v7])), (qf2, .inl (cf2, 201, .inl f2)), (qf3, .inl (cf3, 201, .inl f3)), (qf0, .inr (9, [.ref qf0_0, .ref qf0_1, .ref qf0_2, .int v0_3, .ref qf0_4, .ref qf0_5, .ref qf0_6, .ref qf0_7, .ref qf0_8, .int v0_9, .int v0_10, .int v0_11, .int v0_12])), (qf0_5, .inl (cf0_5, 1741, .inl f0_5))] t.heap ∧ va_K (dC, dI) vwCl [(cf2, .int), (cf3, .int), (cf0_5, .int)] t ∧ va_D (va_A [(h0, .inr (6, [.ref qf0, .ref qf1, .ref qf2, .ref qf3, .int v4, .int v5, .ref qf6, .int v7])), (qf2, .inl (cf2, 201, .inl f2)), (qf3, .inl (cf3, 201, .inl f3)), (qf0, .inr (9, [.ref qf0_0, .ref qf0_1, .ref qf0_2, .int v0_3, .ref qf0_4, .ref qf0_5, .ref qf0_6, .ref qf0_7, .ref qf0_8, .int v0_9, .int v0_10, .int v0_11, .int v0_12])), (qf0_5, .inl (cf0_5, 1741, .inl f0_5))] sz) [(h0, .inr (6, [.ref qf0, .ref qf1, .ref qf2, .ref qf3, .int v4, .int v5, .ref qf6, .int v7])), (qf2, .inl (cf2, 201, .inl f2)), (qf3, .inl (cf3, 201, .inl f3)), (qf0, .inr (9, [.ref qf0_0, .ref qf0_1, .ref qf0_2, .int v0_3, .ref qf0_4, .ref qf0_5, .ref qf0_6, .ref qf0_7, .ref qf0_8, .int v0_9, .int v0_10, .int v0_11, .int v0_12])), (qf0_5, .inl (cf0_5, 1741, .inl f0_5))]) (va_A [(h0, .inr (6, [.ref qf0, .ref qf1, .ref qf2, .ref qf3, .int v4, .int v5, .ref qf6, .int v7])), (qf2, .inl (cf2, 201, .inl f2)), (qf3, .inl (cf3, 201, .inl f3)), (qf0, .inr (9, [.ref qf0_0, .ref qf0_1, .ref qf0_2, .int v0_3, .ref qf0_4, .ref qf0_5, .ref qf0_6, .ref qf0_7, .ref qf0_8, .int v0_9, .int v0_10, .int v0_11, .int v0_12])), (qf0_5, .inl (cf0_5, 1741, .inl f0_5))] sz)) 0 0 (va_A [(h0, .inr (6, [.ref qf0, .ref qf1, .ref qf2, .ref qf3, .int v4, .int v5, .ref qf6, .int v7])), (qf2, .inl (cf2, 201, .inl f2)), (qf3, .inl (cf3, 201, .inl f3)), (qf0, .inr (9, [.ref qf0_0, .ref qf0_1, .ref qf0_2, .int v0_3, .ref qf0_4, .ref qf0_5, .ref qf0_6, .ref qf0_7, .ref qf0_8, .int v0_9, .int v0_10, .int v0_11, .int v0_12])), (qf0_5, .inl (cf0_5, 1741, .inl f0_5))] sz) := by
  refine Met.ofW (cc := cX6_isTooMuch) (maxL := 1) (ret := (some .boolean)) (by decide) rfl ?_
  intro p e s m args below meth c s₁ B hml hv
  obtain ⟨rfl, hsz, hP, hK, hD0⟩ := hv
  have hx := B.exec
  have hb := B.bytes
  have hr := B.returns
  have hts := atoms_spec (ws := (.code yX6_isTooMuch cX6_isTooMuch 1 (some .boolean) :: VS_h4)) B.pre
  replace hts := fun w (h : w ∈ VS_h4) => hts w (List.mem_cons_of_mem _ h)
  have hown : s.vm.findClass RX6 = some m.cls := findClass_of_methodNamed B.named
  have hlocks := B.notSynchronized
  subst hsz
  have hD := hD0.self (sz := s.heap.size)
  generalize hAe : va_A [(h0, .inr (6, [.ref qf0, .ref qf1, .ref qf2, .ref qf3, .int v4, .int v5, .ref qf6, .int v7])), (qf2, .inl (cf2, 201, .inl f2)), (qf3, .inl (cf3, 201, .inl f3)), (qf0, .inr (9, [.ref qf0_0, .ref qf0_1, .ref qf0_2, .int v0_3, .ref qf0_4, .ref qf0_5, .ref qf0_6, .ref qf0_7, .ref qf0_8, .int v0_9, .int v0_10, .int v0_11, .int v0_12])), (qf0_5, .inl (cf0_5, 1741, .inl f0_5))] s.heap.size = A at hD  ⊢
  have hA : ∀ q : Nat, s.heap.size ≤ q → A q := fun q h => by rw [← hAe]; exact Or.inr h
  have hP : va_P (dC, dI) vwCl [(h0, .inr (6, [.ref qf0, .ref qf1, .ref qf2, .ref qf3, .int v4, .int v5, .ref qf6, .int v7])), (qf2, .inl (cf2, 201, .inl f2)), (qf3, .inl (cf3, 201, .inl f3)), (qf0, .inr (9, [.ref qf0_0, .ref qf0_1, .ref qf0_2, .int v0_3, .ref qf0_4, .ref qf0_5, .ref qf0_6, .ref qf0_7, .ref qf0_8, .int v0_9, .int v0_10, .int v0_11, .int v0_12])), (qf0_5, .inl (cf0_5, 1741, .inl f0_5))] s.heap := hP
  have hl := lv_entry ([.ref h0]) (n := 1) (Nat.le_of_ble_eq_true rfl)
  rw [lg_entry_eq]
  generalize (lg_sl ([.ref h0]) ++ List.replicate (1 - (lg_sl ([.ref h0])).length) Slot.unset).toArray = ls at hl ⊢
  have hl : lv_has ls 1 [(0, .ref h0)] := hl
  obtain ⟨H, hH⟩ : ∃ H : Heap, s.heap = H := ⟨_, rfl⟩
  rw [hH] at hP ⊢
  have hS : va_S A s.heap H [] := by rw [← hH]; exact va_S.rf
  obtain ⟨locs, hlo⟩ : ∃ locs : List Loc, locs = [] := ⟨_, rfl⟩
  rw [← hlo] at hS ⊢
  unfold sp_t6_isTooMuch at hsp
  refine lv_aload_n hx hb dX6_isTooMuch_0 rfl (lv_at hl 0 rfl) ?_
  refine va_get (D := (dC, dI)) (ci := 6) (v := .int v5) (C := RX6) (T := TX6) (N := 8) hx hb hts uV_h4_X6 hown hK hP 0 rfl rfl 5 (by decide) (hts (.fieldLink RX6 32 "ClassMill$Pool" "full" "Z") mw_h4_63) (fun _ h9 => h9) rfl dX6_isTooMuch_1 ?_
  refine lv_if_ne (tgt := 17) hx hb dX6_isTooMuch_4 (by decide) (fun c_1 => ?_) (fun c_1 => ?_)
  · rw [if_neg c_1] at hsp
    refine lv_iconst (v := 1) hx hb dX6_isTooMuch_17 (by decide) ?_
    refine lv_goto (tgt := 22) hx hb dX6_isTooMuch_18 (by decide) ?_
    have hr0 := Option.some.inj hsp
    clear hsp
    subst hr0
    have hP9 := hP.sub (ws' := [(h0, .inr (6, [.ref qf0, .ref qf1, .ref qf2, .ref qf3, .int v4, .int v5, .ref qf6, .int v7])), (qf2, .inl (cf2, 201, .inl f2)), (qf3, .inl (cf3, 201, .inl f3)), (qf0, .inr (9, [.ref qf0_0, .ref qf0_1, .ref qf0_2, .int v0_3, .ref qf0_4, .ref qf0_5, .ref qf0_6, .ref qf0_7, .ref qf0_8, .int v0_9, .int v0_10, .int v0_11, .int v0_12])), (qf0_5, .inl (cf0_5, 1741, .inl f0_5))]) [0, 1, 2, 3, 4] rfl
    have hD9 := hD.sub (ws' := [(h0, .inr (6, [.ref qf0, .ref qf1, .ref qf2, .ref qf3, .int v4, .int v5, .ref qf6, .int v7])), (qf2, .inl (cf2, 201, .inl f2)), (qf3, .inl (cf3, 201, .inl f3)), (qf0, .inr (9, [.ref qf0_0, .ref qf0_1, .ref qf0_2, .int v0_3, .ref qf0_4, .ref qf0_5, .ref qf0_6, .ref qf0_7, .ref qf0_8, .int v0_9, .int v0_10, .int v0_11, .int v0_12])), (qf0_5, .inl (cf0_5, 1741, .inl f0_5))]) [0, 1, 2, 3, 4] (by decide) rfl
    have hK9 := hK.sub (tys' := [(cf2, .int), (cf3, .int), (cf0_5, .int)]) [0, 1, 2] rfl
    exact W.zret hx hb hr (by decide) (fun t ht hW => ⟨⟨(1), (), rfl, ⟨rfl, Or.inr rfl⟩, by rw [ht]; exact hP9, va_K.moved hW.alike hK9, hD9⟩, hS.F ht⟩) hS.2.2 dX6_isTooMuch_22
  · rw [if_pos c_1] at hsp
    refine lv_aload_n hx hb dX6_isTooMuch_7 rfl (lv_at hl 0 rfl) ?_
    obtain ⟨u1_0, hu_1, hsp⟩ := ox_bind hsp
    try dsimp only at hsp
    have hPc := hP.sub (ws' := [(h0, .inr (6, [.ref qf0, .ref qf1, .ref qf2, .ref qf3, .int v4, .int v5, .ref qf6, .int v7])), (qf2, .inl (cf2, 201, .inl f2)), (qf3, .inl (cf3, 201, .inl f3)), (qf0, .inr (9, [.ref qf0_0, .ref qf0_1, .ref qf0_2, .int v0_3, .ref qf0_4, .ref qf0_5, .ref qf0_6, .ref qf0_7, .ref qf0_8, .int v0_9, .int v0_10, .int v0_11, .int v0_12])), (qf0_5, .inl (cf0_5, 1741, .inl f0_5))]) [0, 1, 2, 3, 4] rfl
    have hDc := hD.sub (ws' := [(h0, .inr (6, [.ref qf0, .ref qf1, .ref qf2, .ref qf3, .int v4, .int v5, .ref qf6, .int v7])), (qf2, .inl (cf2, 201, .inl f2)), (qf3, .inl (cf3, 201, .inl f3)), (qf0, .inr (9, [.ref qf0_0, .ref qf0_1, .ref qf0_2, .int v0_3, .ref qf0_4, .ref qf0_5, .ref qf0_6, .ref qf0_7, .ref qf0_8, .int v0_9, .int v0_10, .int v0_11, .int v0_12])), (qf0_5, .inl (cf0_5, 1741, .inl f0_5))]) [0, 1, 2, 3, 4] (by decide) rfl
    have hKc := hK.sub (tys' := [(cf2, .int), (cf3, .int), (cf0_5, .int)]) [0, 1, 2] rfl
    have hFc := va_free (wc := [(h0, .inr (6, [.ref qf0, .ref qf1, .ref qf2, .ref qf3, .int v4, .int v5, .ref qf6, .int v7])), (qf2, .inl (cf2, 201, .inl f2)), (qf3, .inl (cf3, 201, .inl f3)), (qf0, .inr (9, [.ref qf0_0, .ref qf0_1, .ref qf0_2, .int v0_3, .ref qf0_4, .ref qf0_5, .ref qf0_6, .ref qf0_7, .ref qf0_8, .int v0_9, .int v0_10, .int v0_11, .int v0_12])), (qf0_5, .inl (cf0_5, 1741, .inl f0_5))]) hD hS hA [0, 1, 2, 3, 4] rfl
    refine va_calli (va_runV (As := []) (rest := []) ⟨hx, hb, hml, hown, hts⟩ (t6_imageSize l dC dI H.size h0 qf0 qf1 qf2 qf3 v4 v5 qf6 v7 cf2 f2 cf3 f3 qf0_0 qf0_1 qf0_2 v0_3 qf0_4 qf0_5 qf0_6 qf0_7 qf0_8 v0_9 v0_10 v0_11 v0_12 cf0_5 f0_5 nf u1_0 hu_1) (cwV 0 hts gv_h4_14 rfl rfl rfl (by decide +kernel) ⟨Nat.le_of_ble_eq_true rfl, Nat.le_of_ble_eq_true rfl⟩) ⟨fun a U g mk q => by obtain ⟨q0, q1, qP, qK, qD⟩ := q; exact ⟨q0, q1, qP, va_K.moved (u := U) (U := U.calling g mk a) (Vm.Alike.refl U.vm) qK, qD⟩, va_recv hKc hPc (ci := 6) (q0 := 0) rfl rfl, fun U hU hW => ⟨rfl, by rw [hU], by rw [hU]; exact hPc, va_K.moved hW.alike hKc, hDc.weaken (fun _ _ _ _ => trivial)⟩⟩ rfl rfl hl.1 rfl (lv_room (Nat.le_of_ble_eq_true rfl)) dX6_isTooMuch_8 ⟨Nat.le_of_ble_eq_true rfl, Nat.le_of_ble_eq_true rfl⟩) hS (fun q _ h => hFc q h) hFc ?_
    clear hS
    intro r_2 u t H1 locs ht hvm hw hB hz1 hk1 hS
    obtain ⟨⟩ := u
    obtain ⟨hP1, hK1, hD1⟩ := hB
    rw [ht] at hP1
    have hK1 := va_K.moved hvm.symm hK1
    try dsimp only at hw
    have hPD := va_join (wr := []) (w1 := [(h0, .inr (6, [.ref qf0, .ref qf1, .ref qf2, .ref qf3, .int v4, .int v5, .ref qf6, .int v7])), (qf2, .inl (cf2, 201, .inl f2)), (qf3, .inl (cf3, 201, .inl f3)), (qf0, .inr (9, [.ref qf0_0, .ref qf0_1, .ref qf0_2, .int v0_3, .ref qf0_4, .ref qf0_5, .ref qf0_6, .ref qf0_7, .ref qf0_8, .int v0_9, .int v0_10, .int v0_11, .int v0_12])), (qf0_5, .inl (cf0_5, 1741, .inl f0_5))]) hP hD [0, 1, 2, 3, 4] [] rfl rfl (by decide) (by decide) hk1 hFc hP1 hD1
    clear hP hD
    obtain ⟨hP, hD⟩ := hPD
    replace hK := (hK.sub (tys' := []) [] rfl).app hK1
    clear hPc hDc hKc hFc hP1 hK1 hD1 hz1 hk1 ht hvm
    generalize H1 = H at hP hS ⊢
    replace hP : va_P (dC, dI) vwCl [(h0, .inr (6, [.ref qf0, .ref qf1, .ref qf2, .ref qf3, .int v4, .int v5, .ref qf6, .int v7])), (qf2, .inl (cf2, 201, .inl f2)), (qf3, .inl (cf3, 201, .inl f3)), (qf0, .inr (9, [.ref qf0_0, .ref qf0_1, .ref qf0_2, .int v0_3, .ref qf0_4, .ref qf0_5, .ref qf0_6, .ref qf0_7, .ref qf0_8, .int v0_9, .int v0_10, .int v0_11, .int v0_12])), (qf0_5, .inl (cf0_5, 1741, .inl f0_5))] H := hP
    replace hD : va_D A [(h0, .inr (6, [.ref qf0, .ref qf1, .ref qf2, .ref qf3, .int v4, .int v5, .ref qf6, .int v7])), (qf2, .inl (cf2, 201, .inl f2)), (qf3, .inl (cf3, 201, .inl f3)), (qf0, .inr (9, [.ref qf0_0, .ref qf0_1, .ref qf0_2, .int v0_3, .ref qf0_4, .ref qf0_5, .ref qf0_6, .ref qf0_7, .ref qf0_8, .int v0_9, .int v0_10, .int v0_11, .int v0_12])), (qf0_5, .inl (cf0_5, 1741, .inl f0_5))] := hD
    replace hK : va_K (dC, dI) vwCl [(cf2, .int), (cf3, .int), (cf0_5, .int)] s := hK
    obtain rfl := hw
    refine lv_sipush (v := 6000) hx hb dX6_isTooMuch_11 (by decide) ?_
    refine lv_icmp_le (tgt := 21) hx hb dX6_isTooMuch_14 (by decide) (fun c_3 => ?_) (fun c_3 => ?_)
    · rw [if_pos c_3] at hsp
      refine lv_iconst (v := 0) hx hb dX6_isTooMuch_21 (by decide) ?_
      have hr0 := Option.some.inj hsp
      clear hsp
      subst hr0
      have hP9 := hP.sub (ws' := [(h0, .inr (6, [.ref qf0, .ref qf1, .ref qf2, .ref qf3, .int v4, .int v5, .ref qf6, .int v7])), (qf2, .inl (cf2, 201, .inl f2)), (qf3, .inl (cf3, 201, .inl f3)), (qf0, .inr (9, [.ref qf0_0, .ref qf0_1, .ref qf0_2, .int v0_3, .ref qf0_4, .ref qf0_5, .ref qf0_6, .ref qf0_7, .ref qf0_8, .int v0_9, .int v0_10, .int v0_11, .int v0_12])), (qf0_5, .inl (cf0_5, 1741, .inl f0_5))]) [0, 1, 2, 3, 4] rfl
      have hD9 := hD.sub (ws' := [(h0, .inr (6, [.ref qf0, .ref qf1, .ref qf2, .ref qf3, .int v4, .int v5, .ref qf6, .int v7])), (qf2, .inl (cf2, 201, .inl f2)), (qf3, .inl (cf3, 201, .inl f3)), (qf0, .inr (9, [.ref qf0_0, .ref qf0_1, .ref qf0_2, .int v0_3, .ref qf0_4, .ref qf0_5, .ref qf0_6, .ref qf0_7, .ref qf0_8, .int v0_9, .int v0_10, .int v0_11, .int v0_12])), (qf0_5, .inl (cf0_5, 1741, .inl f0_5))]) [0, 1, 2, 3, 4] (by decide) rfl
      have hK9 := hK.sub (tys' := [(cf2, .int), (cf3, .int), (cf0_5, .int)]) [0, 1, 2] rfl
      exact W.zret hx hb hr (by decide) (fun t ht hW => ⟨⟨(0), (), rfl, ⟨rfl, Or.inl rfl⟩, by rw [ht]; exact hP9, va_K.moved hW.alike hK9, hD9⟩, hS.F ht⟩) hS.2.2 dX6_isTooMuch_22
    · rw [if_neg c_3] at hsp
      refine lv_iconst (v := 1) hx hb dX6_isTooMuch_17 (by decide) ?_
      refine lv_goto (tgt := 22) hx hb dX6_isTooMuch_18 (by decide) ?_
      have hr0 := Option.some.inj hsp
      clear hsp
      subst hr0
      have hP9 := hP.sub (ws' := [(h0, .inr (6, [.ref qf0, .ref qf1, .ref qf2, .ref qf3, .int v4, .int v5, .ref qf6, .int v7])), (qf2, .inl (cf2, 201, .inl f2)), (qf3, .inl (cf3, 201, .inl f3)), (qf0, .inr (9, [.ref qf0_0, .ref qf0_1, .ref qf0_2, .int v0_3, .ref qf0_4, .ref qf0_5, .ref qf0_6, .ref qf0_7, .ref qf0_8, .int v0_9, .int v0_10, .int v0_11, .int v0_12])), (qf0_5, .inl (cf0_5, 1741, .inl f0_5))]) [0, 1, 2, 3, 4] rfl
      have hD9 := hD.sub (ws' := [(h0, .inr (6, [.ref qf0, .ref qf1, .ref qf2, .ref qf3, .int v4, .int v5, .ref qf6, .int v7])), (qf2, .inl (cf2, 201, .inl f2)), (qf3, .inl (cf3, 201, .inl f3)), (qf0, .inr (9, [.ref qf0_0, .ref qf0_1, .ref qf0_2, .int v0_3, .ref qf0_4, .ref qf0_5, .ref qf0_6, .ref qf0_7, .ref qf0_8, .int v0_9, .int v0_10, .int v0_11, .int v0_12])), (qf0_5, .inl (cf0_5, 1741, .inl f0_5))]) [0, 1, 2, 3, 4] (by decide) rfl
      have hK9 := hK.sub (tys' := [(cf2, .int), (cf3, .int), (cf0_5, .int)]) [0, 1, 2] rfl
      exact W.zret hx hb hr (by decide) (fun t ht hW => ⟨⟨(1), (), rfl, ⟨rfl, Or.inr rfl⟩, by rw [ht]; exact hP9, va_K.moved hW.alike hK9, hD9⟩, hS.F ht⟩) hS.2.2 dX6_isTooMuch_22
def sp_t1_beginMethod (nf : Nat)  : Option (Int32 × Int32 × Int32 × Int32 × Int32 × Int32 × Int32 × Int32) := (some (0, 0, 0, 0, 0, 0, 0, 0))
set_option maxHeartbeats 4000000 in
set_option maxRecDepth 100000 in
/-- ClassMill$Code.beginMethod -/
theorem t1_beginMethod (l : Launch) (dC : Nat → ClassId) (dI : Nat → Nat → Nat) (sz : Nat) (h0 : Nat) (qf0 : Nat) (v1 : Int32) (qf2 : Nat) (v3 : Int32) (v4 : Int32) (qf5 : Nat) (qf6 : Nat) (v7 : Int32) (v8 : Int32) (qf9 : Nat) (v10 : Int32) (qf11 : Nat) (qf12 : Nat) (qf13 : Nat) (v14 : Int32) (v15 : Int32) (nf : Nat) (w1 : Int32) (w10 : Int32) (w14 : Int32) (w15 : Int32) (w3 : Int32) (w4 : Int32) (w7 : Int32) (w8 : Int32) (hsp : sp_t1_beginMethod nf  = some (w1, w10, w14, w15, w3, w4, w7, w8)) : Met l yX1_beginMethod (.code yX1_beginMethod cX1_beginMethod 1 none :: VS_h4) ({ frames := 0, cells := 0, slots := 0, locals := 0 }) (va_Pc [.ref h0] (fun U => U.heap.size = sz ∧ va_P (dC, dI) vwCl [(h0, .inr (1, [.ref qf0, .int v1, .ref qf2, .int v3, .int v4, .ref qf5, .ref qf6, .int v7, .int v8, .ref qf9, .int v10, .ref qf11, .ref qf12, .ref qf13, .int v14, .int v15]))] U.heap ∧ va_K (dC, dI) vwCl [] U ∧ va_D (fun _ => True) [(h0, .inr (1, [.ref qf0, .int v1, .ref qf2, .int v3, .int v4, .ref qf5, .ref qf6, .int v7, .int v8, .ref qf9, .int v10, .ref qf11, .ref qf12, .ref qf13, .int v14, .int v15]))])) (va_Qv (fun (u : Unit) => match u with | () => True) (fun (u : Unit) (t : State) => match u with | () => va_P (dC, dI) vwCl [(h0, .inr (1, [.ref qf0, .int w1, .ref qf2, .int w3, .int w4, .ref qf5, .ref qf6, .int w7, .int w8, .ref qf9, .int w10, .ref qf11, .ref qf12, .ref qf13, .int w14, .int w15]))] t.heap ∧ va_K (dC, dI) vwCl [] t ∧ va_D (va_A [(h0, .inr (1, [.ref qf0, .int v1, .ref qf2, .int v3, .int v4, .ref qf5, .ref qf6, .int v7, .int v8, .ref qf9, .int v10, .ref qf11, .ref qf12, .ref qf13, .int v14, .int v15]))] sz) [(h0, .inr (1, [.ref qf0, .int w1, .ref qf2, .int w3, .int w4, .ref qf5, .ref qf6, .int w7, .int w8, .ref qf9, .int w10, .ref qf11, .ref qf12, .ref qf13, .int w14, .int w15]))]) (va_A [(h0, .inr (1, [.ref qf0, .int v1, .ref qf2, .int v3, .int v4, .ref qf5, .ref qf6, .int v7, .int v8, .ref qf9, .int v10, .ref qf11, .ref qf12, .ref qf13, .int v14, .int v15]))] sz)) 0 0 (va_A [(h0, .inr (1, [.ref qf0, .int v1, .ref qf2, .int v3, .int v4, .ref qf5, .ref qf6, .int v7, .int v8, .ref qf9, .int v10, .ref qf11, .ref qf12, .ref qf13, .int v14, .int v15]))] sz) := by
  refine Met.ofW (cc := cX1_beginMethod) (maxL := 1) (ret := none) (by decide) rfl ?_
  intro p e s m args below meth c s₁ B hml hv
  obtain ⟨rfl, hsz, hP, hK, hD0⟩ := hv
  have hx := B.exec
  have hb := B.bytes
  have hr := B.returns
  have hts := atoms_spec (ws := (.code yX1_beginMethod cX1_beginMethod 1 none :: VS_h4)) B.pre
  replace hts := fun w (h : w ∈ VS_h4) => hts w (List.mem_cons_of_mem _ h)
  have hown : s.vm.findClass RX1 = some m.cls := findClass_of_methodNamed B.named
  have hlocks := B.notSynchronized
  subst hsz
  have hD := hD0.self (sz := s.heap.size)
  generalize hAe : va_A [(h0, .inr (1, [.ref qf0, .int v1, .ref qf2, .int v3, .int v4, .ref qf5, .ref qf6, .int v7, .int v8, .ref qf9, .int v10, .ref qf11, .ref qf12, .ref qf13, .int v14, .int v15]))] s.heap.size = A at hD  ⊢
  have hA : ∀ q : Nat, s.heap.size ≤ q → A q := fun q h => by rw [← hAe]; exact Or.inr h
  have hP : va_P (dC, dI) vwCl [(h0, .inr (1, [.ref qf0, .int v1, .ref qf2, .int v3, .int v4, .ref qf5, .ref qf6, .int v7, .int v8, .ref qf9, .int v10, .ref qf11, .ref qf12, .ref qf13, .int v14, .int v15]))] s.heap := hP
  have hl := lv_entry ([.ref h0]) (n := 1) (Nat.le_of_ble_eq_true rfl)
  rw [lg_entry_eq]
  generalize (lg_sl ([.ref h0]) ++ List.replicate (1 - (lg_sl ([.ref h0])).length) Slot.unset).toArray = ls at hl ⊢
  have hl : lv_has ls 1 [(0, .ref h0)] := hl
  obtain ⟨H, hH⟩ : ∃ H : Heap, s.heap = H := ⟨_, rfl⟩
  rw [hH] at hP ⊢
  have hS : va_S A s.heap H [] := by rw [← hH]; exact va_S.rf
  obtain ⟨locs, hlo⟩ : ∃ locs : List Loc, locs = [] := ⟨_, rfl⟩
  rw [← hlo] at hS ⊢
  unfold sp_t1_beginMethod at hsp
  refine lv_aload_n hx hb dX1_beginMethod_0 rfl (lv_at hl 0 rfl) ?_
  refine lv_iconst (v := 0) hx hb dX1_beginMethod_1 (by decide) ?_
  refine va_put (D := (dC, dI)) (ci := 1) (v := .int 0) (ty := .int) (C := RX1) (T := TX1) (N := 16) hx hb hts uV_h4_X1 tyX1 tyX1_ok nmX1 hown hK hP hD hS 0 rfl rfl 1 (by decide) (hts (.fieldLink RX1 39 "ClassMill$Code" "length" "I") mw_h4_72) (fun _ h9 => h9) rfl (by decide +kernel) rfl rfl (Nat.le_of_ble_eq_true rfl) dX1_beginMethod_2 ?_
  clear hP hD hS
  intro H locs hP hD hS
  replace hP : va_P (dC, dI) vwCl [(h0, .inr (1, [.ref qf0, .int 0, .ref qf2, .int v3, .int v4, .ref qf5, .ref qf6, .int v7, .int v8, .ref qf9, .int v10, .ref qf11, .ref qf12, .ref qf13, .int v14, .int v15]))] H := hP
  replace hD : va_D A [(h0, .inr (1, [.ref qf0, .int 0, .ref qf2, .int v3, .int v4, .ref qf5, .ref qf6, .int v7, .int v8, .ref qf9, .int v10, .ref qf11, .ref qf12, .ref qf13, .int v14, .int v15]))] := hD
  refine lv_aload_n hx hb dX1_beginMethod_5 rfl (lv_at hl 0 rfl) ?_
  refine lv_iconst (v := 0) hx hb dX1_beginMethod_6 (by decide) ?_
  refine va_put (D := (dC, dI)) (ci := 1) (v := .int 0) (ty := .int) (C := RX1) (T := TX1) (N := 16) hx hb hts uV_h4_X1 tyX1 tyX1_ok nmX1 hown hK hP hD hS 0 rfl rfl 3 (by decide) (hts (.fieldLink RX1 43 "ClassMill$Code" "height" "I") mw_h4_73) (fun _ h9 => h9) rfl (by decide +kernel) rfl rfl (Nat.le_of_ble_eq_true rfl) dX1_beginMethod_7 ?_
  clear hP hD hS
  intro H locs hP hD hS
  replace hP : va_P (dC, dI) vwCl [(h0, .inr (1, [.ref qf0, .int 0, .ref qf2, .int 0, .int v4, .ref qf5, .ref qf6, .int v7, .int v8, .ref qf9, .int v10, .ref qf11, .ref qf12, .ref qf13, .int v14, .int v15]))] H := hP
  replace hD : va_D A [(h0, .inr (1, [.ref qf0, .int 0, .ref qf2, .int 0, .int v4, .ref qf5, .ref qf6, .int v7, .int v8, .ref qf9, .int v10, .ref qf11, .ref qf12, .ref qf13, .int v14, .int v15]))] := hD
  refine lv_aload_n hx hb dX1_beginMethod_10 rfl (lv_at hl 0 rfl) ?_
  refine lv_iconst (v := 0) hx hb dX1_beginMethod_11 (by decide) ?_
  refine va_put (D := (dC, dI)) (ci := 1) (v := .int 0) (ty := .int) (C := RX1) (T := TX1) (N := 16) hx hb hts uV_h4_X1 tyX1 tyX1_ok nmX1 hown hK hP hD hS 0 rfl rfl 4 (by decide) (hts (.fieldLink RX1 46 "ClassMill$Code" "mostHeight" "I") mw_h4_74) (fun _ h9 => h9) rfl (by decide +kernel) rfl rfl (Nat.le_of_ble_eq_true rfl) dX1_beginMethod_12 ?_
  clear hP hD hS
  intro H locs hP hD hS
  replace hP : va_P (dC, dI) vwCl [(h0, .inr (1, [.ref qf0, .int 0, .ref qf2, .int 0, .int 0, .ref qf5, .ref qf6, .int v7, .int v8, .ref qf9, .int v10, .ref qf11, .ref qf12, .ref qf13, .int v14, .int v15]))] H := hP
  replace hD : va_D A [(h0, .inr (1, [.ref qf0, .int 0, .ref qf2, .int 0, .int 0, .ref qf5, .ref qf6, .int v7, .int v8, .ref qf9, .int v10, .ref qf11, .ref qf12, .ref qf13, .int v14, .int v15]))] := hD
  refine lv_aload_n hx hb dX1_beginMethod_15 rfl (lv_at hl 0 rfl) ?_
  refine lv_iconst (v := 0) hx hb dX1_beginMethod_16 (by decide) ?_
  refine va_put (D := (dC, dI)) (ci := 1) (v := .int 0) (ty := .int) (C := RX1) (T := TX1) (N := 16) hx hb hts uV_h4_X1 tyX1 tyX1_ok nmX1 hown hK hP hD hS 0 rfl rfl 7 (by decide) (hts (.fieldLink RX1 49 "ClassMill$Code" "sight" "I") mw_h4_75) (fun _ h9 => h9) rfl (by decide +kernel) rfl rfl (Nat.le_of_ble_eq_true rfl) dX1_beginMethod_17 ?_
  clear hP hD hS
  intro H locs hP hD hS
  replace hP : va_P (dC, dI) vwCl [(h0, .inr (1, [.ref qf0, .int 0, .ref qf2, .int 0, .int 0, .ref qf5, .ref qf6, .int 0, .int v8, .ref qf9, .int v10, .ref qf11, .ref qf12, .ref qf13, .int v14, .int v15]))] H := hP
  replace hD : va_D A [(h0, .inr (1, [.ref qf0, .int 0, .ref qf2, .int 0, .int 0, .ref qf5, .ref qf6, .int 0, .int v8, .ref qf9, .int v10, .ref qf11, .ref qf12, .ref qf13, .int v14, .int v15]))] := hD
  refine lv_aload_n hx hb dX1_beginMethod_20 rfl (lv_at hl 0 rfl) ?_
  refine lv_iconst (v := 0) hx hb dX1_beginMethod_21 (by decide) ?_
  refine va_put (D := (dC, dI)) (ci := 1) (v := .int 0) (ty := .int) (C := RX1) (T := TX1) (N := 16) hx hb hts uV_h4_X1 tyX1 tyX1_ok nmX1 hown hK hP hD hS 0 rfl rfl 8 (by decide) (hts (.fieldLink RX1 52 "ClassMill$Code" "mostLocals" "I") mw_h4_76) (fun _ h9 => h9) rfl (by decide +kernel) rfl rfl (Nat.le_of_ble_eq_true rfl) dX1_beginMethod_22 ?_
  clear hP hD hS
  intro H locs hP hD hS
  replace hP : va_P (dC, dI) vwCl [(h0, .inr (1, [.ref qf0, .int 0, .ref qf2, .int 0, .int 0, .ref qf5, .ref qf6, .int 0, .int 0, .ref qf9, .int v10, .ref qf11, .ref qf12, .ref qf13, .int v14, .int v15]))] H := hP
  replace hD : va_D A [(h0, .inr (1, [.ref qf0, .int 0, .ref qf2, .int 0, .int 0, .ref qf5, .ref qf6, .int 0, .int 0, .ref qf9, .int v10, .ref qf11, .ref qf12, .ref qf13, .int v14, .int v15]))] := hD
  refine lv_aload_n hx hb dX1_beginMethod_25 rfl (lv_at hl 0 rfl) ?_
  refine lv_iconst (v := 0) hx hb dX1_beginMethod_26 (by decide) ?_
  refine va_put (D := (dC, dI)) (ci := 1) (v := .int 0) (ty := .int) (C := RX1) (T := TX1) (N := 16) hx hb hts uV_h4_X1 tyX1 tyX1_ok nmX1 hown hK hP hD hS 0 rfl rfl 10 (by decide) (hts (.fieldLink RX1 55 "ClassMill$Code" "handlerCount" "I") mw_h4_77) (fun _ h9 => h9) rfl (by decide +kernel) rfl rfl (Nat.le_of_ble_eq_true rfl) dX1_beginMethod_27 ?_
  clear hP hD hS
  intro H locs hP hD hS
  replace hP : va_P (dC, dI) vwCl [(h0, .inr (1, [.ref qf0, .int 0, .ref qf2, .int 0, .int 0, .ref qf5, .ref qf6, .int 0, .int 0, .ref qf9, .int 0, .ref qf11, .ref qf12, .ref qf13, .int v14, .int v15]))] H := hP
  replace hD : va_D A [(h0, .inr (1, [.ref qf0, .int 0, .ref qf2, .int 0, .int 0, .ref qf5, .ref qf6, .int 0, .int 0, .ref qf9, .int 0, .ref qf11, .ref qf12, .ref qf13, .int v14, .int v15]))] := hD
  refine lv_aload_n hx hb dX1_beginMethod_30 rfl (lv_at hl 0 rfl) ?_
  refine lv_iconst (v := 0) hx hb dX1_beginMethod_31 (by decide) ?_
  refine va_put (D := (dC, dI)) (ci := 1) (v := .int 0) (ty := .int) (C := RX1) (T := TX1) (N := 16) hx hb hts uV_h4_X1 tyX1 tyX1_ok nmX1 hown hK hP hD hS 0 rfl rfl 14 (by decide) (hts (.fieldLink RX1 58 "ClassMill$Code" "frameCount" "I") mw_h4_78) (fun _ h9 => h9) rfl (by decide +kernel) rfl rfl (Nat.le_of_ble_eq_true rfl) dX1_beginMethod_32 ?_
  clear hP hD hS
  intro H locs hP hD hS
  replace hP : va_P (dC, dI) vwCl [(h0, .inr (1, [.ref qf0, .int 0, .ref qf2, .int 0, .int 0, .ref qf5, .ref qf6, .int 0, .int 0, .ref qf9, .int 0, .ref qf11, .ref qf12, .ref qf13, .int 0, .int v15]))] H := hP
  replace hD : va_D A [(h0, .inr (1, [.ref qf0, .int 0, .ref qf2, .int 0, .int 0, .ref qf5, .ref qf6, .int 0, .int 0, .ref qf9, .int 0, .ref qf11, .ref qf12, .ref qf13, .int 0, .int v15]))] := hD
  refine lv_aload_n hx hb dX1_beginMethod_35 rfl (lv_at hl 0 rfl) ?_
  refine lv_iconst (v := 0) hx hb dX1_beginMethod_36 (by decide) ?_
  refine va_put (D := (dC, dI)) (ci := 1) (v := .int 0) (ty := .boolean) (C := RX1) (T := TX1) (N := 16) hx hb hts uV_h4_X1 tyX1 tyX1_ok nmX1 hown hK hP hD hS 0 rfl rfl 15 (by decide) (hts (.fieldLink RX1 61 "ClassMill$Code" "full" "Z") mw_h4_79) (fun _ h9 => h9) rfl (by decide +kernel) rfl rfl (Nat.le_of_ble_eq_true rfl) dX1_beginMethod_37 ?_
  clear hP hD hS
  intro H locs hP hD hS
  replace hP : va_P (dC, dI) vwCl [(h0, .inr (1, [.ref qf0, .int 0, .ref qf2, .int 0, .int 0, .ref qf5, .ref qf6, .int 0, .int 0, .ref qf9, .int 0, .ref qf11, .ref qf12, .ref qf13, .int 0, .int 0]))] H := hP
  replace hD : va_D A [(h0, .inr (1, [.ref qf0, .int 0, .ref qf2, .int 0, .int 0, .ref qf5, .ref qf6, .int 0, .int 0, .ref qf9, .int 0, .ref qf11, .ref qf12, .ref qf13, .int 0, .int 0]))] := hD
  have hr0 := Option.some.inj hsp
  clear hsp
  obtain ⟨hq0, hr1⟩ := Prod.mk.inj hr0
  clear hr0
  obtain ⟨hq1, hr2⟩ := Prod.mk.inj hr1
  clear hr1
  obtain ⟨hq2, hr3⟩ := Prod.mk.inj hr2
  clear hr2
  obtain ⟨hq3, hr4⟩ := Prod.mk.inj hr3
  clear hr3
  obtain ⟨hq4, hr5⟩ := Prod.mk.inj hr4
  clear hr4
  obtain ⟨hq5, hr6⟩ := Prod.mk.inj hr5
  clear hr5
  obtain ⟨hq6, hr7⟩ := Prod.mk.inj hr6
  clear hr6
  subst hq0
  subst hq1
  subst hq2
  subst hq3
  subst hq4
  subst hq5
  subst hq6
  subst hr7
  have hP9 := hP.sub (ws' := [(h0, .inr (1, [.ref qf0, .int 0, .ref qf2, .int 0, .int 0, .ref qf5, .ref qf6, .int 0, .int 0, .ref qf9, .int 0, .ref qf11, .ref qf12, .ref qf13, .int 0, .int 0]))]) [0] rfl
  have hD9 := hD.sub (ws' := [(h0, .inr (1, [.ref qf0, .int 0, .ref qf2, .int 0, .int 0, .ref qf5, .ref qf6, .int 0, .int 0, .ref qf9, .int 0, .ref qf11, .ref qf12, .ref qf13, .int 0, .int 0]))]) [0] (by decide) rfl
  have hK9 := hK.sub (tys' := []) [] rfl
  exact W.vret hx hb hr (fun t ht hW => ⟨⟨(), rfl, trivial, by rw [ht]; exact hP9, va_K.moved hW.alike hK9, hD9⟩, hS.F ht⟩) hS.2.2 dX1_beginMethod_40
def sp_t1_isTooMuch (nf : Nat) (v1 : Int32) (v4 : Int32) (v8 : Int32) (v15 : Int32) : Option (Int32) := (if v15 = 0 then (if 1500 < v1 then (some 1) else (if 30 < v8 then (some 1) else (if v4 ≤ 20 then (some 0) else (some 1)))) else (some 1))
