set_option maxHeartbeats 4000000 in
set_option maxRecDepth 100000 in
/-- ClassMill$Image.sameText -/
theorem t3_sameText (l : Launch) (dC : Nat → ClassId) (dI : Nat → Nat → Nat) (sz : Nat) (h0 : Nat) (a1 : Int32) (qa2 : Nat) (a3 : Int32) (qf0 : Nat) (v1 : Int32) (v2 : Int32) (v3 : Int32) (qf4 : Nat) (qf5 : Nat) (qf6 : Nat) (v7 : Int32) (v8 : Int32) (v9 : Int32) (v10 : Int32) (qf11 : Nat) (v12 : Int32) (qf13 : Nat) (cf5 : ClassId) (f5 : (Nat → Int32)) (cf6 : ClassId) (f6 : (Nat → Int32)) (qfa2_0 : Nat) (va2_1 : Int32) (va2_2 : Int32) (va2_3 : Int32) (qfa2_4 : Nat) (qfa2_5 : Nat) (qfa2_6 : Nat) (va2_7 : Int32) (va2_8 : Int32) (va2_9 : Int32) (va2_10 : Int32) (qfa2_11 : Nat) (va2_12 : Int32) (qfa2_13 : Nat) (cfa2_5 : ClassId) (fa2_5 : (Nat → Int32)) (cfa2_6 : ClassId) (fa2_6 : (Nat → Int32)) (cf0 : ClassId) (nb : Nat) (f0 : (Nat → Int32)) (cfa2_0 : ClassId) (fa2_0 : (Nat → Int32)) (nf : Nat) (r0 : Int32) (hsp : sp_t3_sameText nf a1 a3 v1 v7 f5 f6 va2_1 va2_7 fa2_5 fa2_6 nb f0 fa2_0 = some r0) : Met l yX3_sameText (.code yX3_sameText cX3_sameText 4 (some .boolean) :: VS_h3) ({ frames := 1, cells := 0, slots := 0, locals := 27 }) (va_Pc [.ref h0, .int a1, .ref qa2, .int a3] (fun U => U.heap.size = sz ∧ va_P (dC, dI) vwCl [(h0, .inr (3, [.ref qf0, .int v1, .int v2, .int v3, .ref qf4, .ref qf5, .ref qf6, .int v7, .int v8, .int v9, .int v10, .ref qf11, .int v12, .ref qf13])), (qf5, .inl (cf5, 256, .inl f5)), (qf6, .inl (cf6, 256, .inl f6)), (qa2, .inr (3, [.ref qfa2_0, .int va2_1, .int va2_2, .int va2_3, .ref qfa2_4, .ref qfa2_5, .ref qfa2_6, .int va2_7, .int va2_8, .int va2_9, .int va2_10, .ref qfa2_11, .int va2_12, .ref qfa2_13])), (qfa2_5, .inl (cfa2_5, 256, .inl fa2_5)), (qfa2_6, .inl (cfa2_6, 256, .inl fa2_6)), (qf0, .inl (cf0, nb, .inl f0)), (qfa2_0, .inl (cfa2_0, nb, .inl fa2_0))] U.heap ∧ va_K (dC, dI) vwCl [(cf5, .int), (cf6, .int), (cfa2_5, .int), (cfa2_6, .int), (cf0, .byte), (cfa2_0, .byte)] U ∧ va_D (fun _ => True) [(h0, .inr (3, [.ref qf0, .int v1, .int v2, .int v3, .ref qf4, .ref qf5, .ref qf6, .int v7, .int v8, .int v9, .int v10, .ref qf11, .int v12, .ref qf13])), (qf5, .inl (cf5, 256, .inl f5)), (qf6, .inl (cf6, 256, .inl f6)), (qa2, .inr (3, [.ref qfa2_0, .int va2_1, .int va2_2, .int va2_3, .ref qfa2_4, .ref qfa2_5, .ref qfa2_6, .int va2_7, .int va2_8, .int va2_9, .int va2_10, .ref qfa2_11, .int va2_12, .ref qfa2_13])), (qfa2_5, .inl (cfa2_5, 256, .inl fa2_5)), (qfa2_6, .inl (cfa2_6, 256, .inl fa2_6)), (qf0, .inl (cf0, nb, .inl f0)), (qfa2_0, .inl (cfa2_0, nb, .inl fa2_0))])) (va_Qi (fun (r : Int32) (u : Unit) => match u with | () => r0 = r ∧ (r0 = 0 ∨ r0 = 1)) (fun (u : Unit) (t : State) => match u with | () => va_P (dC, dI) vwCl [(h0, .inr (3, [.ref qf0, .int v1, .int v2, .int v3, .ref qf4, .ref qf5, .ref qf6, .int v7, .int v8, .int v9, .int v10, .ref qf11, .int v12, .ref qf13])), (qf5, .inl (cf5, 256, .inl f5)), (qf6, .inl (cf6, 256, .inl f6)), (qa2, .inr (3, [.ref qfa2_0, .int va2_1, .int va2_2, .int va2_3, .ref qfa2_4, .ref qfa2_5, .ref qfa2_6, .int va2_7, .int va2_8, .int va2_9, .int va2_10, .ref qfa2_11, .int va2_12, .ref qfa2_13])), (qfa2_5, .inl (cfa2_5, 256, .inl fa2_5)), (qfa2_6, .inl (cfa2_6, 256, .inl fa2_6)), (qf0, .inl (cf0, nb, .inl f0)), (qfa2_0, .inl (cfa2_0, nb, .inl fa2_0))] t.heap ∧ va_K (dC, dI) vwCl [(cf5, .int), (cf6, .int), (cfa2_5, .int), (cfa2_6, .int), (cf0, .byte), (cfa2_0, .byte)] t ∧ va_D (va_A [(h0, .inr (3, [.ref qf0, .int v1, .int v2, .int v3, .ref qf4, .ref qf5, .ref qf6, .int v7, .int v8, .int v9, .int v10, .ref qf11, .int v12, .ref qf13])), (qf5, .inl (cf5, 256, .inl f5)), (qf6, .inl (cf6, 256, .inl f6)), (qa2, .inr (3, [.ref qfa2_0, .int va2_1, .int va2_2, .int va2_3, .ref qfa2_4, .ref qfa2_5, .ref qfa2_6, .int va2_7, .int va2_8, .int va2_9, .int va2_10, .ref qfa2_11, .int va2_12, .ref qfa2_13])), (qfa2_5, .inl (cfa2_5, 256, .inl fa2_5)), (qfa2_6, .inl (cfa2_6, 256, .inl fa2_6)), (qf0, .inl (cf0, nb, .inl f0)), (qfa2_0, .inl (cfa2_0, nb, .inl fa2_0))] sz) [(h0, .inr (3, [.ref qf0, .int v1, .int v2, .int v3, .ref qf4, .ref qf5, .ref qf6, .int v7, .int v8, .int v9, .int v10, .ref qf11, .int v12, .ref qf13])), (qf5, .inl (cf5, 256, .inl f5)), (qf6, .inl (cf6, 256, .inl f6)), (qa2, .inr (3, [.ref qfa2_0, .int va2_1, .int va2_2, .int va2_3, .ref qfa2_4, .ref qfa2_5, .ref qfa2_6, .int va2_7, .int va2_8, .int va2_9, .int va2_10, .ref qfa2_11, .int va2_12, .ref qfa2_13])), (qfa2_5, .inl (cfa2_5, 256, .inl fa2_5)), (qfa2_6, .inl (cfa2_6, 256, .inl fa2_6)), (qf0, .inl (cf0, nb, .inl f0)), (qfa2_0, .inl (cfa2_0, nb, .inl fa2_0))]) (va_A [(h0, .inr (3, [.ref qf0, .int v1, .int v2, .int v3, .ref qf4, .ref qf5, .ref qf6, .int v7, .int v8, .int v9, .int v10, .ref qf11, .int v12, .ref qf13])), (qf5, .inl (cf5, 256, .inl f5)), (qf6, .inl (cf6, 256, .inl f6)), (qa2, .inr (3, [.ref qfa2_0, .int va2_1, .int va2_2, .int va2_3, .ref qfa2_4, .ref qfa2_5, .ref qfa2_6, .int va2_7, .int va2_8, .int va2_9, .int va2_10, .ref qfa2_11, .int va2_12, .ref qfa2_13])), (qfa2_5, .inl (cfa2_5, 256, .inl fa2_5)), (qfa2_6, .inl (cfa2_6, 256, .inl fa2_6)), (qf0, .inl (cf0, nb, .inl f0)), (qfa2_0, .inl (cfa2_0, nb, .inl fa2_0))] sz)) 0 0 (va_A [(h0, .inr (3, [.ref qf0, .int v1, .int v2, .int v3, .ref qf4, .ref qf5, .ref qf6, .int v7, .int v8, .int v9, .int v10, .ref qf11, .int v12, .ref qf13])), (qf5, .inl (cf5, 256, .inl f5)), (qf6, .inl (cf6, 256, .inl f6)), (qa2, .inr (3, [.ref qfa2_0, .int va2_1, .int va2_2, .int va2_3, .ref qfa2_4, .ref qfa2_5, .ref qfa2_6, .int va2_7, .int va2_8, .int va2_9, .int va2_10, .ref qfa2_11, .int va2_12, .ref qfa2_13])), (qfa2_5, .inl (cfa2_5, 256, .inl fa2_5)), (qfa2_6, .inl (cfa2_6, 256, .inl fa2_6)), (qf0, .inl (cf0, nb, .inl f0)), (qfa2_0, .inl (cfa2_0, nb, .inl fa2_0))] sz) := by
  refine Met.ofW (cc := cX3_sameText) (maxL := 4) (ret := (some .boolean)) (by decide) rfl ?_
  intro p e s m args below meth c s₁ B hml hv
  obtain ⟨rfl, hsz, hP, hK, hD0⟩ := hv
  have hx := B.exec
  have hb := B.bytes
  have hr := B.returns
  have hts := atoms_spec (ws := (.code yX3_sameText cX3_sameText 4 (some .boolean) :: VS_h3)) B.pre
  replace hts := fun w (h : w ∈ VS_h3) => hts w (List.mem_cons_of_mem _ h)
  have hown : s.vm.findClass RX3 = some m.cls := findClass_of_methodNamed B.named
  have hlocks := B.notSynchronized
  subst hsz
  have hD := hD0.self (sz := s.heap.size)
  generalize hAe : va_A [(h0, .inr (3, [.ref qf0, .int v1, .int v2, .int v3, .ref qf4, .ref qf5, .ref qf6, .int v7, .int v8, .int v9, .int v10, .ref qf11, .int v12, .ref qf13])), (qf5, .inl (cf5, 256, .inl f5)), (qf6, .inl (cf6, 256, .inl f6)), (qa2, .inr (3, [.ref qfa2_0, .int va2_1, .int va2_2, .int va2_3, .ref qfa2_4, .ref qfa2_5, .ref qfa2_6, .int va2_7, .int va2_8, .int va2_9, .int va2_10, .ref qfa2_11, .int va2_12, .ref qfa2_13])), (qfa2_5, .inl (cfa2_5, 256, .inl fa2_5)), (qfa2_6, .inl (cfa2_6, 256, .inl fa2_6)), (qf0, .inl (cf0, nb, .inl f0)), (qfa2_0, .inl (cfa2_0, nb, .inl fa2_0))] s.heap.size = A at hD  ⊢
  have hA : ∀ q : Nat, s.heap.size ≤ q → A q := fun q h => by rw [← hAe]; exact Or.inr h
  have hP : va_P (dC, dI) vwCl [(h0, .inr (3, [.ref qf0, .int v1, .int v2, .int v3, .ref qf4, .ref qf5, .ref qf6, .int v7, .int v8, .int v9, .int v10, .ref qf11, .int v12, .ref qf13])), (qf5, .inl (cf5, 256, .inl f5)), (qf6, .inl (cf6, 256, .inl f6)), (qa2, .inr (3, [.ref qfa2_0, .int va2_1, .int va2_2, .int va2_3, .ref qfa2_4, .ref qfa2_5, .ref qfa2_6, .int va2_7, .int va2_8, .int va2_9, .int va2_10, .ref qfa2_11, .int va2_12, .ref qfa2_13])), (qfa2_5, .inl (cfa2_5, 256, .inl fa2_5)), (qfa2_6, .inl (cfa2_6, 256, .inl fa2_6)), (qf0, .inl (cf0, nb, .inl f0)), (qfa2_0, .inl (cfa2_0, nb, .inl fa2_0))] s.heap := hP
  have hl := lv_entry ([.ref h0, .int a1, .ref qa2, .int a3]) (n := 4) (Nat.le_of_ble_eq_true rfl)
  rw [lg_entry_eq]
  generalize (lg_sl ([.ref h0, .int a1, .ref qa2, .int a3]) ++ List.replicate (4 - (lg_sl ([.ref h0, .int a1, .ref qa2, .int a3])).length) Slot.unset).toArray = ls at hl ⊢
  have hl : lv_has ls 4 [(0, .ref h0), (1, .int a1), (2, .ref qa2), (3, .int a3)] := hl
  obtain ⟨H, hH⟩ : ∃ H : Heap, s.heap = H := ⟨_, rfl⟩
  rw [hH] at hP ⊢
  have hS : va_S A s.heap H [] := by rw [← hH]; exact va_S.rf
  obtain ⟨locs, hlo⟩ : ∃ locs : List Loc, locs = [] := ⟨_, rfl⟩
  rw [← hlo] at hS ⊢
  unfold sp_t3_sameText at hsp
  refine lv_aload_n hx hb dX3_sameText_0 rfl (lv_at hl 0 rfl) ?_
  refine lv_aload_n hx hb dX3_sameText_1 rfl (lv_at hl 0 rfl) ?_
  refine lv_iload_n hx hb dX3_sameText_2 rfl (lv_at hl 1 rfl) ?_
  obtain ⟨u1_0, hu_1, hsp⟩ := ox_bind hsp
  try dsimp only at hsp
  have hPc := hP.sub (ws' := [(h0, .inr (3, [.ref qf0, .int v1, .int v2, .int v3, .ref qf4, .ref qf5, .ref qf6, .int v7, .int v8, .int v9, .int v10, .ref qf11, .int v12, .ref qf13])), (qf5, .inl (cf5, 256, .inl f5))]) [0, 1] rfl
  have hDc := hD.sub (ws' := [(h0, .inr (3, [.ref qf0, .int v1, .int v2, .int v3, .ref qf4, .ref qf5, .ref qf6, .int v7, .int v8, .int v9, .int v10, .ref qf11, .int v12, .ref qf13])), (qf5, .inl (cf5, 256, .inl f5))]) [0, 1] (by decide) rfl
  have hKc := hK.sub (tys' := [(cf5, .int)]) [0] rfl
  have hFc := va_free (wc := [(h0, .inr (3, [.ref qf0, .int v1, .int v2, .int v3, .ref qf4, .ref qf5, .ref qf6, .int v7, .int v8, .int v9, .int v10, .ref qf11, .int v12, .ref qf13])), (qf5, .inl (cf5, 256, .inl f5))]) hD hS hA [0, 1] rfl
  refine va_calli (va_runV (As := [.int a1]) (rest := [.ref h0]) ⟨hx, hb, hml, hown, hts⟩ (ti_textAt l dC dI H.size h0 a1 qf0 v1 v2 v3 qf4 qf5 qf6 v7 v8 v9 v10 qf11 v12 qf13 cf5 f5 nf u1_0 hu_1) (cwV 1 hts gv_h3_5 rfl rfl rfl (by decide +kernel) ⟨Nat.le_of_ble_eq_true rfl, Nat.le_of_ble_eq_true rfl⟩) ⟨fun a U g mk q => by obtain ⟨q0, q1, qP, qK, qD⟩ := q; exact ⟨q0, q1, qP, va_K.moved (u := U) (U := U.calling g mk a) (Vm.Alike.refl U.vm) qK, qD⟩, va_recv hKc hPc (ci := 3) (q0 := 0) rfl rfl, fun U hU hW => ⟨rfl, by rw [hU], by rw [hU]; exact hPc, va_K.moved hW.alike hKc, hDc.weaken (fun _ _ _ _ => trivial)⟩⟩ rfl rfl hl.1 rfl (lv_room (Nat.le_of_ble_eq_true rfl)) dX3_sameText_3 ⟨Nat.le_of_ble_eq_true rfl, Nat.le_of_ble_eq_true rfl⟩) hS (fun q _ h => hFc q h) hFc ?_
  clear hS
  intro r_1 u t H1 locs ht hvm hw hB hz1 hk1 hS
  obtain ⟨⟩ := u
  obtain ⟨hP1, hK1, hD1⟩ := hB
  rw [ht] at hP1
  have hK1 := va_K.moved hvm.symm hK1
  try dsimp only at hw
  have hPD := va_join (wr := [(qf6, .inl (cf6, 256, .inl f6)), (qa2, .inr (3, [.ref qfa2_0, .int va2_1, .int va2_2, .int va2_3, .ref qfa2_4, .ref qfa2_5, .ref qfa2_6, .int va2_7, .int va2_8, .int va2_9, .int va2_10, .ref qfa2_11, .int va2_12, .ref qfa2_13])), (qfa2_5, .inl (cfa2_5, 256, .inl fa2_5)), (qfa2_6, .inl (cfa2_6, 256, .inl fa2_6)), (qf0, .inl (cf0, nb, .inl f0)), (qfa2_0, .inl (cfa2_0, nb, .inl fa2_0))]) (w1 := [(h0, .inr (3, [.ref qf0, .int v1, .int v2, .int v3, .ref qf4, .ref qf5, .ref qf6, .int v7, .int v8, .int v9, .int v10, .ref qf11, .int v12, .ref qf13])), (qf5, .inl (cf5, 256, .inl f5))]) hP hD [0, 1] [2, 3, 4, 5, 6, 7] rfl rfl (by decide) (by decide) hk1 hFc hP1 hD1
  clear hP hD
  obtain ⟨hP, hD⟩ := hPD
  replace hK := (hK.sub (tys' := [(cf6, .int), (cfa2_5, .int), (cfa2_6, .int), (cf0, .byte), (cfa2_0, .byte)]) [1, 2, 3, 4, 5] rfl).app hK1
  clear hPc hDc hKc hFc hP1 hK1 hD1 hz1 hk1 ht hvm
  generalize H1 = H at hP hS ⊢
  replace hP : va_P (dC, dI) vwCl [(qf6, .inl (cf6, 256, .inl f6)), (qa2, .inr (3, [.ref qfa2_0, .int va2_1, .int va2_2, .int va2_3, .ref qfa2_4, .ref qfa2_5, .ref qfa2_6, .int va2_7, .int va2_8, .int va2_9, .int va2_10, .ref qfa2_11, .int va2_12, .ref qfa2_13])), (qfa2_5, .inl (cfa2_5, 256, .inl fa2_5)), (qfa2_6, .inl (cfa2_6, 256, .inl fa2_6)), (qf0, .inl (cf0, nb, .inl f0)), (qfa2_0, .inl (cfa2_0, nb, .inl fa2_0)), (h0, .inr (3, [.ref qf0, .int v1, .int v2, .int v3, .ref qf4, .ref qf5, .ref qf6, .int v7, .int v8, .int v9, .int v10, .ref qf11, .int v12, .ref qf13])), (qf5, .inl (cf5, 256, .inl f5))] H := hP
  replace hD : va_D A [(qf6, .inl (cf6, 256, .inl f6)), (qa2, .inr (3, [.ref qfa2_0, .int va2_1, .int va2_2, .int va2_3, .ref qfa2_4, .ref qfa2_5, .ref qfa2_6, .int va2_7, .int va2_8, .int va2_9, .int va2_10, .ref qfa2_11, .int va2_12, .ref qfa2_13])), (qfa2_5, .inl (cfa2_5, 256, .inl fa2_5)), (qfa2_6, .inl (cfa2_6, 256, .inl fa2_6)), (qf0, .inl (cf0, nb, .inl f0)), (qfa2_0, .inl (cfa2_0, nb, .inl fa2_0)), (h0, .inr (3, [.ref qf0, .int v1, .int v2, .int v3, .ref qf4, .ref qf5, .ref qf6, .int v7, .int v8, .int v9, .int v10, .ref qf11, .int v12, .ref qf13])), (qf5, .inl (cf5, 256, .inl f5))] := hD
  replace hK : va_K (dC, dI) vwCl [(cf6, .int), (cfa2_5, .int), (cfa2_6, .int), (cf0, .byte), (cfa2_0, .byte), (cf5, .int)] s := hK
  obtain rfl := hw
  refine lv_aload_n hx hb dX3_sameText_6 rfl (lv_at hl 0 rfl) ?_
  refine lv_iload_n hx hb dX3_sameText_7 rfl (lv_at hl 1 rfl) ?_
  obtain ⟨u2_0, hu_2, hsp⟩ := ox_bind hsp
  try dsimp only at hsp
  have hPc := hP.sub (ws' := [(h0, .inr (3, [.ref qf0, .int v1, .int v2, .int v3, .ref qf4, .ref qf5, .ref qf6, .int v7, .int v8, .int v9, .int v10, .ref qf11, .int v12, .ref qf13])), (qf6, .inl (cf6, 256, .inl f6))]) [6, 0] rfl
  have hDc := hD.sub (ws' := [(h0, .inr (3, [.ref qf0, .int v1, .int v2, .int v3, .ref qf4, .ref qf5, .ref qf6, .int v7, .int v8, .int v9, .int v10, .ref qf11, .int v12, .ref qf13])), (qf6, .inl (cf6, 256, .inl f6))]) [6, 0] (by decide) rfl
  have hKc := hK.sub (tys' := [(cf6, .int)]) [0] rfl
  have hFc := va_free (wc := [(h0, .inr (3, [.ref qf0, .int v1, .int v2, .int v3, .ref qf4, .ref qf5, .ref qf6, .int v7, .int v8, .int v9, .int v10, .ref qf11, .int v12, .ref qf13])), (qf6, .inl (cf6, 256, .inl f6))]) hD hS hA [6, 0] rfl
  refine va_calli (va_runV (As := [.int a1]) (rest := [.int u1_0, .ref h0]) ⟨hx, hb, hml, hown, hts⟩ (ti_textEnd l dC dI H.size h0 a1 qf0 v1 v2 v3 qf4 qf5 qf6 v7 v8 v9 v10 qf11 v12 qf13 cf6 f6 nf u2_0 hu_2) (cwV 1 hts gv_h3_6 rfl rfl rfl (by decide +kernel) ⟨Nat.le_of_ble_eq_true rfl, Nat.le_of_ble_eq_true rfl⟩) ⟨fun a U g mk q => by obtain ⟨q0, q1, qP, qK, qD⟩ := q; exact ⟨q0, q1, qP, va_K.moved (u := U) (U := U.calling g mk a) (Vm.Alike.refl U.vm) qK, qD⟩, va_recv hKc hPc (ci := 3) (q0 := 0) rfl rfl, fun U hU hW => ⟨rfl, by rw [hU], by rw [hU]; exact hPc, va_K.moved hW.alike hKc, hDc.weaken (fun _ _ _ _ => trivial)⟩⟩ rfl rfl hl.1 rfl (lv_room (Nat.le_of_ble_eq_true rfl)) dX3_sameText_8 ⟨Nat.le_of_ble_eq_true rfl, Nat.le_of_ble_eq_true rfl⟩) hS (fun q _ h => hFc q h) hFc ?_
  clear hS
  intro r_2 u t H1 locs ht hvm hw hB hz1 hk1 hS
  obtain ⟨⟩ := u
  obtain ⟨hP1, hK1, hD1⟩ := hB
  rw [ht] at hP1
  have hK1 := va_K.moved hvm.symm hK1
  try dsimp only at hw
  have hPD := va_join (wr := [(qa2, .inr (3, [.ref qfa2_0, .int va2_1, .int va2_2, .int va2_3, .ref qfa2_4, .ref qfa2_5, .ref qfa2_6, .int va2_7, .int va2_8, .int va2_9, .int va2_10, .ref qfa2_11, .int va2_12, .ref qfa2_13])), (qfa2_5, .inl (cfa2_5, 256, .inl fa2_5)), (qfa2_6, .inl (cfa2_6, 256, .inl fa2_6)), (qf0, .inl (cf0, nb, .inl f0)), (qfa2_0, .inl (cfa2_0, nb, .inl fa2_0)), (qf5, .inl (cf5, 256, .inl f5))]) (w1 := [(h0, .inr (3, [.ref qf0, .int v1, .int v2, .int v3, .ref qf4, .ref qf5, .ref qf6, .int v7, .int v8, .int v9, .int v10, .ref qf11, .int v12, .ref qf13])), (qf6, .inl (cf6, 256, .inl f6))]) hP hD [6, 0] [1, 2, 3, 4, 5, 7] rfl rfl (by decide) (by decide) hk1 hFc hP1 hD1
  clear hP hD
  obtain ⟨hP, hD⟩ := hPD
  replace hK := (hK.sub (tys' := [(cfa2_5, .int), (cfa2_6, .int), (cf0, .byte), (cfa2_0, .byte), (cf5, .int)]) [1, 2, 3, 4, 5] rfl).app hK1
  clear hPc hDc hKc hFc hP1 hK1 hD1 hz1 hk1 ht hvm
  generalize H1 = H at hP hS ⊢
  replace hP : va_P (dC, dI) vwCl [(qa2, .inr (3, [.ref qfa2_0, .int va2_1, .int va2_2, .int va2_3, .ref qfa2_4, .ref qfa2_5, .ref qfa2_6, .int va2_7, .int va2_8, .int va2_9, .int va2_10, .ref qfa2_11, .int va2_12, .ref qfa2_13])), (qfa2_5, .inl (cfa2_5, 256, .inl fa2_5)), (qfa2_6, .inl (cfa2_6, 256, .inl fa2_6)), (qf0, .inl (cf0, nb, .inl f0)), (qfa2_0, .inl (cfa2_0, nb, .inl fa2_0)), (qf5, .inl (cf5, 256, .inl f5)), (h0, .inr (3, [.ref qf0, .int v1, .int v2, .int v3, .ref qf4, .ref qf5, .ref qf6, .int v7, .int v8, .int v9, .int v10, .ref qf11, .int v12, .ref qf13])), (qf6, .inl (cf6, 256, .inl f6))] H := hP
  replace hD : va_D A [(qa2, .inr (3, [.ref qfa2_0, .int va2_1, .int va2_2, .int va2_3, .ref qfa2_4, .ref qfa2_5, .ref qfa2_6, .int va2_7, .int va2_8, .int va2_9, .int va2_10, .ref qfa2_11, .int va2_12, .ref qfa2_13])), (qfa2_5, .inl (cfa2_5, 256, .inl fa2_5)), (qfa2_6, .inl (cfa2_6, 256, .inl fa2_6)), (qf0, .inl (cf0, nb, .inl f0)), (qfa2_0, .inl (cfa2_0, nb, .inl fa2_0)), (qf5, .inl (cf5, 256, .inl f5)), (h0, .inr (3, [.ref qf0, .int v1, .int v2, .int v3, .ref qf4, .ref qf5, .ref qf6, .int v7, .int v8, .int v9, .int v10, .ref qf11, .int v12, .ref qf13])), (qf6, .inl (cf6, 256, .inl f6))] := hD
  replace hK : va_K (dC, dI) vwCl [(cfa2_5, .int), (cfa2_6, .int), (cf0, .byte), (cfa2_0, .byte), (cf5, .int), (cf6, .int)] s := hK
  obtain rfl := hw
  refine lv_aload_n hx hb dX3_sameText_11 rfl (lv_at hl 2 rfl) ?_
  refine lv_aload_n hx hb dX3_sameText_12 rfl (lv_at hl 2 rfl) ?_
  refine lv_iload_n hx hb dX3_sameText_13 rfl (lv_at hl 3 rfl) ?_
  obtain ⟨u3_0, hu_3, hsp⟩ := ox_bind hsp
  try dsimp only at hsp
  have hPc := hP.sub (ws' := [(qa2, .inr (3, [.ref qfa2_0, .int va2_1, .int va2_2, .int va2_3, .ref qfa2_4, .ref qfa2_5, .ref qfa2_6, .int va2_7, .int va2_8, .int va2_9, .int va2_10, .ref qfa2_11, .int va2_12, .ref qfa2_13])), (qfa2_5, .inl (cfa2_5, 256, .inl fa2_5))]) [0, 1] rfl
  have hDc := hD.sub (ws' := [(qa2, .inr (3, [.ref qfa2_0, .int va2_1, .int va2_2, .int va2_3, .ref qfa2_4, .ref qfa2_5, .ref qfa2_6, .int va2_7, .int va2_8, .int va2_9, .int va2_10, .ref qfa2_11, .int va2_12, .ref qfa2_13])), (qfa2_5, .inl (cfa2_5, 256, .inl fa2_5))]) [0, 1] (by decide) rfl
  have hKc := hK.sub (tys' := [(cfa2_5, .int)]) [0] rfl
  have hFc := va_free (wc := [(qa2, .inr (3, [.ref qfa2_0, .int va2_1, .int va2_2, .int va2_3, .ref qfa2_4, .ref qfa2_5, .ref qfa2_6, .int va2_7, .int va2_8, .int va2_9, .int va2_10, .ref qfa2_11, .int va2_12, .ref qfa2_13])), (qfa2_5, .inl (cfa2_5, 256, .inl fa2_5))]) hD hS hA [0, 1] rfl
  refine va_calli (va_runV (As := [.int a3]) (rest := [.ref qa2, .int u2_0, .int u1_0, .ref h0]) ⟨hx, hb, hml, hown, hts⟩ (ti_textAt l dC dI H.size qa2 a3 qfa2_0 va2_1 va2_2 va2_3 qfa2_4 qfa2_5 qfa2_6 va2_7 va2_8 va2_9 va2_10 qfa2_11 va2_12 qfa2_13 cfa2_5 fa2_5 nf u3_0 hu_3) (cwV 1 hts gv_h3_5 rfl rfl rfl (by decide +kernel) ⟨Nat.le_of_ble_eq_true rfl, Nat.le_of_ble_eq_true rfl⟩) ⟨fun a U g mk q => by obtain ⟨q0, q1, qP, qK, qD⟩ := q; exact ⟨q0, q1, qP, va_K.moved (u := U) (U := U.calling g mk a) (Vm.Alike.refl U.vm) qK, qD⟩, va_recv hKc hPc (ci := 3) (q0 := 0) rfl rfl, fun U hU hW => ⟨rfl, by rw [hU], by rw [hU]; exact hPc, va_K.moved hW.alike hKc, hDc.weaken (fun _ _ _ _ => trivial)⟩⟩ rfl rfl hl.1 rfl (lv_room (Nat.le_of_ble_eq_true rfl)) dX3_sameText_14 ⟨Nat.le_of_ble_eq_true rfl, Nat.le_of_ble_eq_true rfl⟩) hS (fun q _ h => hFc q h) hFc ?_
  clear hS
  intro r_3 u t H1 locs ht hvm hw hB hz1 hk1 hS
  obtain ⟨⟩ := u
  obtain ⟨hP1, hK1, hD1⟩ := hB
  rw [ht] at hP1
  have hK1 := va_K.moved hvm.symm hK1
  try dsimp only at hw
  have hPD := va_join (wr := [(qfa2_6, .inl (cfa2_6, 256, .inl fa2_6)), (qf0, .inl (cf0, nb, .inl f0)), (qfa2_0, .inl (cfa2_0, nb, .inl fa2_0)), (qf5, .inl (cf5, 256, .inl f5)), (h0, .inr (3, [.ref qf0, .int v1, .int v2, .int v3, .ref qf4, .ref qf5, .ref qf6, .int v7, .int v8, .int v9, .int v10, .ref qf11, .int v12, .ref qf13])), (qf6, .inl (cf6, 256, .inl f6))]) (w1 := [(qa2, .inr (3, [.ref qfa2_0, .int va2_1, .int va2_2, .int va2_3, .ref qfa2_4, .ref qfa2_5, .ref qfa2_6, .int va2_7, .int va2_8, .int va2_9, .int va2_10, .ref qfa2_11, .int va2_12, .ref qfa2_13])), (qfa2_5, .inl (cfa2_5, 256, .inl fa2_5))]) hP hD [0, 1] [2, 3, 4, 5, 6, 7] rfl rfl (by decide) (by decide) hk1 hFc hP1 hD1
  clear hP hD
  obtain ⟨hP, hD⟩ := hPD
  replace hK := (hK.sub (tys' := [(cfa2_6, .int), (cf0, .byte), (cfa2_0, .byte), (cf5, .int), (cf6, .int)]) [1, 2, 3, 4, 5] rfl).app hK1
  clear hPc hDc hKc hFc hP1 hK1 hD1 hz1 hk1 ht hvm
  generalize H1 = H at hP hS ⊢
  replace hP : va_P (dC, dI) vwCl [(qfa2_6, .inl (cfa2_6, 256, .inl fa2_6)), (qf0, .inl (cf0, nb, .inl f0)), (qfa2_0, .inl (cfa2_0, nb, .inl fa2_0)), (qf5, .inl (cf5, 256, .inl f5)), (h0, .inr (3, [.ref qf0, .int v1, .int v2, .int v3, .ref qf4, .ref qf5, .ref qf6, .int v7, .int v8, .int v9, .int v10, .ref qf11, .int v12, .ref qf13])), (qf6, .inl (cf6, 256, .inl f6)), (qa2, .inr (3, [.ref qfa2_0, .int va2_1, .int va2_2, .int va2_3, .ref qfa2_4, .ref qfa2_5, .ref qfa2_6, .int va2_7, .int va2_8, .int va2_9, .int va2_10, .ref qfa2_11, .int va2_12, .ref qfa2_13])), (qfa2_5, .inl (cfa2_5, 256, .inl fa2_5))] H := hP
  replace hD : va_D A [(qfa2_6, .inl (cfa2_6, 256, .inl fa2_6)), (qf0, .inl (cf0, nb, .inl f0)), (qfa2_0, .inl (cfa2_0, nb, .inl fa2_0)), (qf5, .inl (cf5, 256, .inl f5)), (h0, .inr (3, [.ref qf0, .int v1, .int v2, .int v3, .ref qf4, .ref qf5, .ref qf6, .int v7, .int v8, .int v9, .int v10, .ref qf11, .int v12, .ref qf13])), (qf6, .inl (cf6, 256, .inl f6)), (qa2, .inr (3, [.ref qfa2_0, .int va2_1, .int va2_2, .int va2_3, .ref qfa2_4, .ref qfa2_5, .ref qfa2_6, .int va2_7, .int va2_8, .int va2_9, .int va2_10, .ref qfa2_11, .int va2_12, .ref qfa2_13])), (qfa2_5, .inl (cfa2_5, 256, .inl fa2_5))] := hD
  replace hK : va_K (dC, dI) vwCl [(cfa2_6, .int), (cf0, .byte), (cfa2_0, .byte), (cf5, .int), (cf6, .int), (cfa2_5, .int)] s := hK
  obtain rfl := hw
  refine lv_aload_n hx hb dX3_sameText_17 rfl (lv_at hl 2 rfl) ?_
  refine lv_iload_n hx hb dX3_sameText_18 rfl (lv_at hl 3 rfl) ?_
  obtain ⟨u4_0, hu_4, hsp⟩ := ox_bind hsp
  try dsimp only at hsp
  have hPc := hP.sub (ws' := [(qa2, .inr (3, [.ref qfa2_0, .int va2_1, .int va2_2, .int va2_3, .ref qfa2_4, .ref qfa2_5, .ref qfa2_6, .int va2_7, .int va2_8, .int va2_9, .int va2_10, .ref qfa2_11, .int va2_12, .ref qfa2_13])), (qfa2_6, .inl (cfa2_6, 256, .inl fa2_6))]) [6, 0] rfl
  have hDc := hD.sub (ws' := [(qa2, .inr (3, [.ref qfa2_0, .int va2_1, .int va2_2, .int va2_3, .ref qfa2_4, .ref qfa2_5, .ref qfa2_6, .int va2_7, .int va2_8, .int va2_9, .int va2_10, .ref qfa2_11, .int va2_12, .ref qfa2_13])), (qfa2_6, .inl (cfa2_6, 256, .inl fa2_6))]) [6, 0] (by decide) rfl
  have hKc := hK.sub (tys' := [(cfa2_6, .int)]) [0] rfl
  have hFc := va_free (wc := [(qa2, .inr (3, [.ref qfa2_0, .int va2_1, .int va2_2, .int va2_3, .ref qfa2_4, .ref qfa2_5, .ref qfa2_6, .int va2_7, .int va2_8, .int va2_9, .int va2_10, .ref qfa2_11, .int va2_12, .ref qfa2_13])), (qfa2_6, .inl (cfa2_6, 256, .inl fa2_6))]) hD hS hA [6, 0] rfl
  refine va_calli (va_runV (As := [.int a3]) (rest := [.int u3_0, .ref qa2, .int u2_0, .int u1_0, .ref h0]) ⟨hx, hb, hml, hown, hts⟩ (ti_textEnd l dC dI H.size qa2 a3 qfa2_0 va2_1 va2_2 va2_3 qfa2_4 qfa2_5 qfa2_6 va2_7 va2_8 va2_9 va2_10 qfa2_11 va2_12 qfa2_13 cfa2_6 fa2_6 nf u4_0 hu_4) (cwV 1 hts gv_h3_6 rfl rfl rfl (by decide +kernel) ⟨Nat.le_of_ble_eq_true rfl, Nat.le_of_ble_eq_true rfl⟩) ⟨fun a U g mk q => by obtain ⟨q0, q1, qP, qK, qD⟩ := q; exact ⟨q0, q1, qP, va_K.moved (u := U) (U := U.calling g mk a) (Vm.Alike.refl U.vm) qK, qD⟩, va_recv hKc hPc (ci := 3) (q0 := 0) rfl rfl, fun U hU hW => ⟨rfl, by rw [hU], by rw [hU]; exact hPc, va_K.moved hW.alike hKc, hDc.weaken (fun _ _ _ _ => trivial)⟩⟩ rfl rfl hl.1 rfl (lv_room (Nat.le_of_ble_eq_true rfl)) dX3_sameText_19 ⟨Nat.le_of_ble_eq_true rfl, Nat.le_of_ble_eq_true rfl⟩) hS (fun q _ h => hFc q h) hFc ?_
  clear hS
  intro r_4 u t H1 locs ht hvm hw hB hz1 hk1 hS
  obtain ⟨⟩ := u
  obtain ⟨hP1, hK1, hD1⟩ := hB
  rw [ht] at hP1
  have hK1 := va_K.moved hvm.symm hK1
  try dsimp only at hw
  have hPD := va_join (wr := [(qf0, .inl (cf0, nb, .inl f0)), (qfa2_0, .inl (cfa2_0, nb, .inl fa2_0)), (qf5, .inl (cf5, 256, .inl f5)), (h0, .inr (3, [.ref qf0, .int v1, .int v2, .int v3, .ref qf4, .ref qf5, .ref qf6, .int v7, .int v8, .int v9, .int v10, .ref qf11, .int v12, .ref qf13])), (qf6, .inl (cf6, 256, .inl f6)), (qfa2_5, .inl (cfa2_5, 256, .inl fa2_5))]) (w1 := [(qa2, .inr (3, [.ref qfa2_0, .int va2_1, .int va2_2, .int va2_3, .ref qfa2_4, .ref qfa2_5, .ref qfa2_6, .int va2_7, .int va2_8, .int va2_9, .int va2_10, .ref qfa2_11, .int va2_12, .ref qfa2_13])), (qfa2_6, .inl (cfa2_6, 256, .inl fa2_6))]) hP hD [6, 0] [1, 2, 3, 4, 5, 7] rfl rfl (by decide) (by decide) hk1 hFc hP1 hD1
  clear hP hD
  obtain ⟨hP, hD⟩ := hPD
  replace hK := (hK.sub (tys' := [(cf0, .byte), (cfa2_0, .byte), (cf5, .int), (cf6, .int), (cfa2_5, .int)]) [1, 2, 3, 4, 5] rfl).app hK1
  clear hPc hDc hKc hFc hP1 hK1 hD1 hz1 hk1 ht hvm
  generalize H1 = H at hP hS ⊢
  replace hP : va_P (dC, dI) vwCl [(qf0, .inl (cf0, nb, .inl f0)), (qfa2_0, .inl (cfa2_0, nb, .inl fa2_0)), (qf5, .inl (cf5, 256, .inl f5)), (h0, .inr (3, [.ref qf0, .int v1, .int v2, .int v3, .ref qf4, .ref qf5, .ref qf6, .int v7, .int v8, .int v9, .int v10, .ref qf11, .int v12, .ref qf13])), (qf6, .inl (cf6, 256, .inl f6)), (qfa2_5, .inl (cfa2_5, 256, .inl fa2_5)), (qa2, .inr (3, [.ref qfa2_0, .int va2_1, .int va2_2, .int va2_3, .ref qfa2_4, .ref qfa2_5, .ref qfa2_6, .int va2_7, .int va2_8, .int va2_9, .int va2_10, .ref qfa2_11, .int va2_12, .ref qfa2_13])), (qfa2_6, .inl (cfa2_6, 256, .inl fa2_6))] H := hP
  replace hD : va_D A [(qf0, .inl (cf0, nb, .inl f0)), (qfa2_0, .inl (cfa2_0, nb, .inl fa2_0)), (qf5, .inl (cf5, 256, .inl f5)), (h0, .inr (3, [.ref qf0, .int v1, .int v2, .int v3, .ref qf4, .ref qf5, .ref qf6, .int v7, .int v8, .int v9, .int v10, .ref qf11, .int v12, .ref qf13])), (qf6, .inl (cf6, 256, .inl f6)), (qfa2_5, .inl (cfa2_5, 256, .inl fa2_5)), (qa2, .inr (3, [.ref qfa2_0, .int va2_1, .int va2_2, .int va2_3, .ref qfa2_4, .ref qfa2_5, .ref qfa2_6, .int va2_7, .int va2_8, .int va2_9, .int va2_10, .ref qfa2_11, .int va2_12, .ref qfa2_13])), (qfa2_6, .inl (cfa2_6, 256, .inl fa2_6))] := hD
  replace hK : va_K (dC, dI) vwCl [(cf0, .byte), (cfa2_0, .byte), (cf5, .int), (cf6, .int), (cfa2_5, .int), (cfa2_6, .int)] s := hK
  obtain rfl := hw
  obtain ⟨u5_0, hu_5, hsp⟩ := ox_bind hsp
  try dsimp only at hsp
  have hPc := hP.sub (ws' := [(h0, .inr (3, [.ref qf0, .int v1, .int v2, .int v3, .ref qf4, .ref qf5, .ref qf6, .int v7, .int v8, .int v9, .int v10, .ref qf11, .int v12, .ref qf13])), (qf0, .inl (cf0, nb, .inl f0)), (qa2, .inr (3, [.ref qfa2_0, .int va2_1, .int va2_2, .int va2_3, .ref qfa2_4, .ref qfa2_5, .ref qfa2_6, .int va2_7, .int va2_8, .int va2_9, .int va2_10, .ref qfa2_11, .int va2_12, .ref qfa2_13])), (qfa2_0, .inl (cfa2_0, nb, .inl fa2_0))]) [3, 0, 6, 1] rfl
  have hDc := hD.sub (ws' := [(h0, .inr (3, [.ref qf0, .int v1, .int v2, .int v3, .ref qf4, .ref qf5, .ref qf6, .int v7, .int v8, .int v9, .int v10, .ref qf11, .int v12, .ref qf13])), (qf0, .inl (cf0, nb, .inl f0)), (qa2, .inr (3, [.ref qfa2_0, .int va2_1, .int va2_2, .int va2_3, .ref qfa2_4, .ref qfa2_5, .ref qfa2_6, .int va2_7, .int va2_8, .int va2_9, .int va2_10, .ref qfa2_11, .int va2_12, .ref qfa2_13])), (qfa2_0, .inl (cfa2_0, nb, .inl fa2_0))]) [3, 0, 6, 1] (by decide) rfl
  have hKc := hK.sub (tys' := [(cf0, .byte), (cfa2_0, .byte)]) [0, 1] rfl
  have hFc := va_free (wc := [(h0, .inr (3, [.ref qf0, .int v1, .int v2, .int v3, .ref qf4, .ref qf5, .ref qf6, .int v7, .int v8, .int v9, .int v10, .ref qf11, .int v12, .ref qf13])), (qf0, .inl (cf0, nb, .inl f0)), (qa2, .inr (3, [.ref qfa2_0, .int va2_1, .int va2_2, .int va2_3, .ref qfa2_4, .ref qfa2_5, .ref qfa2_6, .int va2_7, .int va2_8, .int va2_9, .int va2_10, .ref qfa2_11, .int va2_12, .ref qfa2_13])), (qfa2_0, .inl (cfa2_0, nb, .inl fa2_0))]) hD hS hA [3, 0, 6, 1] rfl
  refine va_calli (va_runV (As := [.int u1_0, .int u2_0, .ref qa2, .int u3_0, .int u4_0]) (rest := []) ⟨hx, hb, hml, hown, hts⟩ (t3_sameBytes l dC dI H.size h0 u1_0 u2_0 qa2 u3_0 u4_0 qf0 v1 v2 v3 qf4 qf5 qf6 v7 v8 v9 v10 qf11 v12 qf13 cf0 nb f0 qfa2_0 va2_1 va2_2 va2_3 qfa2_4 qfa2_5 qfa2_6 va2_7 va2_8 va2_9 va2_10 qfa2_11 va2_12 qfa2_13 cfa2_0 fa2_0 nf u5_0 hu_5) (cwV 5 hts gv_h3_7 rfl rfl rfl (by decide +kernel) ⟨Nat.le_of_ble_eq_true rfl, Nat.le_of_ble_eq_true rfl⟩) ⟨fun a U g mk q => by obtain ⟨q0, q1, qP, qK, qD⟩ := q; exact ⟨q0, q1, qP, va_K.moved (u := U) (U := U.calling g mk a) (Vm.Alike.refl U.vm) qK, qD⟩, va_recv hKc hPc (ci := 3) (q0 := 0) rfl rfl, fun U hU hW => ⟨rfl, by rw [hU], by rw [hU]; exact hPc, va_K.moved hW.alike hKc, hDc.weaken (fun _ _ _ _ => trivial)⟩⟩ rfl rfl hl.1 rfl (lv_room (Nat.le_of_ble_eq_true rfl)) dX3_sameText_22 ⟨Nat.le_of_ble_eq_true rfl, Nat.le_of_ble_eq_true rfl⟩) hS (fun q _ h => hFc q h) hFc ?_
  clear hS
  intro r_5 u t H1 locs ht hvm hw hB hz1 hk1 hS
  obtain ⟨⟩ := u
  obtain ⟨hP1, hK1, hD1⟩ := hB
  rw [ht] at hP1
  have hK1 := va_K.moved hvm.symm hK1
  try dsimp only at hw
  have hPD := va_join (wr := [(qf5, .inl (cf5, 256, .inl f5)), (qf6, .inl (cf6, 256, .inl f6)), (qfa2_5, .inl (cfa2_5, 256, .inl fa2_5)), (qfa2_6, .inl (cfa2_6, 256, .inl fa2_6))]) (w1 := [(h0, .inr (3, [.ref qf0, .int v1, .int v2, .int v3, .ref qf4, .ref qf5, .ref qf6, .int v7, .int v8, .int v9, .int v10, .ref qf11, .int v12, .ref qf13])), (qf0, .inl (cf0, nb, .inl f0)), (qa2, .inr (3, [.ref qfa2_0, .int va2_1, .int va2_2, .int va2_3, .ref qfa2_4, .ref qfa2_5, .ref qfa2_6, .int va2_7, .int va2_8, .int va2_9, .int va2_10, .ref qfa2_11, .int va2_12, .ref qfa2_13])), (qfa2_0, .inl (cfa2_0, nb, .inl fa2_0))]) hP hD [3, 0, 6, 1] [2, 4, 5, 7] rfl rfl (by decide) (by decide) hk1 hFc hP1 hD1
  clear hP hD
  obtain ⟨hP, hD⟩ := hPD
  replace hK := (hK.sub (tys' := [(cf5, .int), (cf6, .int), (cfa2_5, .int), (cfa2_6, .int)]) [2, 3, 4, 5] rfl).app hK1
  clear hPc hDc hKc hFc hP1 hK1 hD1 hz1 hk1 ht hvm
  generalize H1 = H at hP hS ⊢
  replace hP : va_P (dC, dI) vwCl [(qf5, .inl (cf5, 256, .inl f5)), (qf6, .inl (cf6, 256, .inl f6)), (qfa2_5, .inl (cfa2_5, 256, .inl fa2_5)), (qfa2_6, .inl (cfa2_6, 256, .inl fa2_6)), (h0, .inr (3, [.ref qf0, .int v1, .int v2, .int v3, .ref qf4, .ref qf5, .ref qf6, .int v7, .int v8, .int v9, .int v10, .ref qf11, .int v12, .ref qf13])), (qf0, .inl (cf0, nb, .inl f0)), (qa2, .inr (3, [.ref qfa2_0, .int va2_1, .int va2_2, .int va2_3, .ref qfa2_4, .ref qfa2_5, .ref qfa2_6, .int va2_7, .int va2_8, .int va2_9, .int va2_10, .ref qfa2_11, .int va2_12, .ref qfa2_13])), (qfa2_0, .inl (cfa2_0, nb, .inl fa2_0))] H := hP
  replace hD : va_D A [(qf5, .inl (cf5, 256, .inl f5)), (qf6, .inl (cf6, 256, .inl f6)), (qfa2_5, .inl (cfa2_5, 256, .inl fa2_5)), (qfa2_6, .inl (cfa2_6, 256, .inl fa2_6)), (h0, .inr (3, [.ref qf0, .int v1, .int v2, .int v3, .ref qf4, .ref qf5, .ref qf6, .int v7, .int v8, .int v9, .int v10, .ref qf11, .int v12, .ref qf13])), (qf0, .inl (cf0, nb, .inl f0)), (qa2, .inr (3, [.ref qfa2_0, .int va2_1, .int va2_2, .int va2_3, .ref qfa2_4, .ref qfa2_5, .ref qfa2_6, .int va2_7, .int va2_8, .int va2_9, .int va2_10, .ref qfa2_11, .int va2_12, .ref qfa2_13])), (qfa2_0, .inl (cfa2_0, nb, .inl fa2_0))] := hD
  replace hK : va_K (dC, dI) vwCl [(cf5, .int), (cf6, .int), (cfa2_5, .int), (cfa2_6, .int), (cf0, .byte), (cfa2_0, .byte)] s := hK
  obtain ⟨rfl, hz_5⟩ := hw
  rcases hz_5 with rfl | rfl
  · rw [if_pos rfl] at hsp
    have hr0 := Option.some.inj hsp
    clear hsp
    subst hr0
    have hP9 := hP.sub (ws' := [(h0, .inr (3, [.ref qf0, .int v1, .int v2, .int v3, .ref qf4, .ref qf5, .ref qf6, .int v7, .int v8, .int v9, .int v10, .ref qf11, .int v12, .ref qf13])), (qf5, .inl (cf5, 256, .inl f5)), (qf6, .inl (cf6, 256, .inl f6)), (qa2, .inr (3, [.ref qfa2_0, .int va2_1, .int va2_2, .int va2_3, .ref qfa2_4, .ref qfa2_5, .ref qfa2_6, .int va2_7, .int va2_8, .int va2_9, .int va2_10, .ref qfa2_11, .int va2_12, .ref qfa2_13])), (qfa2_5, .inl (cfa2_5, 256, .inl fa2_5)), (qfa2_6, .inl (cfa2_6, 256, .inl fa2_6)), (qf0, .inl (cf0, nb, .inl f0)), (qfa2_0, .inl (cfa2_0, nb, .inl fa2_0))]) [4, 0, 1, 6, 2, 3, 5, 7] rfl
    have hD9 := hD.sub (ws' := [(h0, .inr (3, [.ref qf0, .int v1, .int v2, .int v3, .ref qf4, .ref qf5, .ref qf6, .int v7, .int v8, .int v9, .int v10, .ref qf11, .int v12, .ref qf13])), (qf5, .inl (cf5, 256, .inl f5)), (qf6, .inl (cf6, 256, .inl f6)), (qa2, .inr (3, [.ref qfa2_0, .int va2_1, .int va2_2, .int va2_3, .ref qfa2_4, .ref qfa2_5, .ref qfa2_6, .int va2_7, .int va2_8, .int va2_9, .int va2_10, .ref qfa2_11, .int va2_12, .ref qfa2_13])), (qfa2_5, .inl (cfa2_5, 256, .inl fa2_5)), (qfa2_6, .inl (cfa2_6, 256, .inl fa2_6)), (qf0, .inl (cf0, nb, .inl f0)), (qfa2_0, .inl (cfa2_0, nb, .inl fa2_0))]) [4, 0, 1, 6, 2, 3, 5, 7] (by decide) rfl
    have hK9 := hK.sub (tys' := [(cf5, .int), (cf6, .int), (cfa2_5, .int), (cfa2_6, .int), (cf0, .byte), (cfa2_0, .byte)]) [0, 1, 2, 3, 4, 5] rfl
    exact W.zret hx hb hr (by decide) (fun t ht hW => ⟨⟨(0), (), rfl, ⟨rfl, Or.inl rfl⟩, by rw [ht]; exact hP9, va_K.moved hW.alike hK9, hD9⟩, hS.F ht⟩) hS.2.2 dX3_sameText_25
  · rw [if_neg (by decide)] at hsp
    have hr0 := Option.some.inj hsp
    clear hsp
    subst hr0
    have hP9 := hP.sub (ws' := [(h0, .inr (3, [.ref qf0, .int v1, .int v2, .int v3, .ref qf4, .ref qf5, .ref qf6, .int v7, .int v8, .int v9, .int v10, .ref qf11, .int v12, .ref qf13])), (qf5, .inl (cf5, 256, .inl f5)), (qf6, .inl (cf6, 256, .inl f6)), (qa2, .inr (3, [.ref qfa2_0, .int va2_1, .int va2_2, .int va2_3, .ref qfa2_4, .ref qfa2_5, .ref qfa2_6, .int va2_7, .int va2_8, .int va2_9, .int va2_10, .ref qfa2_11, .int va2_12, .ref qfa2_13])), (qfa2_5, .inl (cfa2_5, 256, .inl fa2_5)), (qfa2_6, .inl (cfa2_6, 256, .inl fa2_6)), (qf0, .inl (cf0, nb, .inl f0)), (qfa2_0, .inl (cfa2_0, nb, .inl fa2_0))]) [4, 0, 1, 6, 2, 3, 5, 7] rfl
    have hD9 := hD.sub (ws' := [(h0, .inr (3, [.ref qf0, .int v1, .int v2, .int v3, .ref qf4, .ref qf5, .ref qf6, .int v7, .int v8, .int v9, .int v10, .ref qf11, .int v12, .ref qf13])), (qf5, .inl (cf5, 256, .inl f5)), (qf6, .inl (cf6, 256, .inl f6)), (qa2, .inr (3, [.ref qfa2_0, .int va2_1, .int va2_2, .int va2_3, .ref qfa2_4, .ref qfa2_5, .ref qfa2_6, .int va2_7, .int va2_8, .int va2_9, .int va2_10, .ref qfa2_11, .int va2_12, .ref qfa2_13])), (qfa2_5, .inl (cfa2_5, 256, .inl fa2_5)), (qfa2_6, .inl (cfa2_6, 256, .inl fa2_6)), (qf0, .inl (cf0, nb, .inl f0)), (qfa2_0, .inl (cfa2_0, nb, .inl fa2_0))]) [4, 0, 1, 6, 2, 3, 5, 7] (by decide) rfl
    have hK9 := hK.sub (tys' := [(cf5, .int), (cf6, .int), (cfa2_5, .int), (cfa2_6, .int), (cf0, .byte), (cfa2_0, .byte)]) [0, 1, 2, 3, 4, 5] rfl
    exact W.zret hx hb hr (by decide) (fun t ht hW => ⟨⟨(1), (), rfl, ⟨rfl, Or.inr rfl⟩, by rw [ht]; exact hP9, va_K.moved hW.alike hK9, hD9⟩, hS.F ht⟩) hS.2.2 dX3_sameText_25
def sp_t3_isArrayText (nf : Nat) (a1 : Int32) (v1 : Int32) (v7 : Int32) (f4 : Nat → Int32) (f5 : Nat → Int32) (nb : Nat) (f0 : Nat → Int32) : Option (Int32) := ((sp_ti_tagOf nf a1 v7 f4).bind (fun p1 => (if p1 = 1 then (if a1 < 0 then none else if 256 ≤ (a1 : Int32).toNatClampNeg then none else ((sp_ti_byteAt nf (f5 (a1 : Int32).toNatClampNeg) v1 nb f0).bind (fun p2 => (if p2 = 91 then (some 1) else (some 0))))) else (some 0))))
set_option maxHeartbeats 4000000 in
set_option maxRecDepth 100000 in
/-- ClassMill$Image.isArrayText -/
theorem t3_isArrayText (l : Launch) (dC : Nat → ClassId) (dI : Nat → Nat → Nat) (sz : Nat) (h0 : Nat) (a1 : Int32) (qf0 : Nat) (v1 : Int32) (v2 : Int32) (v3 : Int32) (qf4 : Nat) (qf5 : Nat) (qf6 : Nat) (v7 : Int32) (v8 : Int32) (v9 : Int32) (v10 : Int32) (qf11 : Nat) (v12 : Int32) (qf13 : Nat) (cf4 : ClassId) (f4 : (Nat → Int32)) (cf5 : ClassId) (f5 : (Nat → Int32)) (cf0 : ClassId) (nb : Nat) (f0 : (Nat → Int32)) (nf : Nat) (r0 : Int32) (hsp : sp_t3_isArrayText nf a1 v1 v7 f4 f5 nb f0 = some r0) : Met l yX3_isArrayText (.code yX3_isArrayText cX3_isArrayText 2 (some .boolean) :: VS_h3) ({ frames := 1, cells := 0, slots := 0, locals := 21 }) (va_Pc [.ref h0, .int a1] (fun U => U.heap.size = sz ∧ va_P (dC, dI) vwCl [(h0, .inr (3, [.ref qf0, .int v1, .int v2, .int v3, .ref qf4, .ref qf5, .ref qf6, .int v7, .int v8, .int v9, .int v10, .ref qf11, .int v12, .ref qf13])), (qf4, .inl (cf4, 256, .inl f4)), (qf5, .inl (cf5, 256, .inl f5)), (qf0, .inl (cf0, nb, .inl f0))] U.heap ∧ va_K (dC, dI) vwCl [(cf4, .int), (cf5, .int), (cf0, .byte)] U ∧ va_D (fun _ => True) [(h0, .inr (3, [.ref qf0, .int v1, .int v2, .int v3, .ref qf4, .ref qf5, .ref qf6, .int v7, .int v8, .int v9, .int v10, .ref qf11, .int v12, .ref qf13])), (qf4, .inl (cf4, 256, .inl f4)), (qf5, .inl (cf5, 256, .inl f5)), (qf0, .inl (cf0, nb, .inl f0))])) (va_Qi (fun (r : Int32) (u : Unit) => match u with | () => r0 = r ∧ (r0 = 0 ∨ r0 = 1)) (fun (u : Unit) (t : State) => match u with | () => va_P (dC, dI) vwCl [(h0, .inr (3, [.ref qf0, .int v1, .int v2, .int v3, .ref qf4, .ref qf5, .ref qf6, .int v7, .int v8, .int v9, .int v10, .ref qf11, .int v12, .ref qf13])), (qf4, .inl (cf4, 256, .inl f4)), (qf5, .inl (cf5, 256, .inl f5)), (qf0, .inl (cf0, nb, .inl f0))] t.heap ∧ va_K (dC, dI) vwCl [(cf4, .int), (cf5, .int), (cf0, .byte)] t ∧ va_D (va_A [(h0, .inr (3, [.ref qf0, .int v1, .int v2, .int v3, .ref qf4, .ref qf5, .ref qf6, .int v7, .int v8, .int v9, .int v10, .ref qf11, .int v12, .ref qf13])), (qf4, .inl (cf4, 256, .inl f4)), (qf5, .inl (cf5, 256, .inl f5)), (qf0, .inl (cf0, nb, .inl f0))] sz) [(h0, .inr (3, [.ref qf0, .int v1, .int v2, .int v3, .ref qf4, .ref qf5, .ref qf6, .int v7, .int v8, .int v9, .int v10, .ref qf11, .int v12, .ref qf13])), (qf4, .inl (cf4, 256, .inl f4)), (qf5, .inl (cf5, 256, .inl f5)), (qf0, .inl (cf0, nb, .inl f0))]) (va_A [(h0, .inr (3, [.ref qf0, .int v1, .int v2, .int v3, .ref qf4, .ref qf5, .ref qf6, .int v7, .int v8, .int v9, .int v10, .ref qf11, .int v12, .ref qf13])), (qf4, .inl (cf4, 256, .inl f4)), (qf5, .inl (cf5, 256, .inl f5)), (qf0, .inl (cf0, nb, .inl f0))] sz)) 0 0 (va_A [(h0, .inr (3, [.ref qf0, .int v1, .int v2, .int v3, .ref qf4, .ref qf5, .ref qf6, .int v7, .int v8, .int v9, .int v10, .ref qf11, .int v12, .ref qf13])), (qf4, .inl (cf4, 256, .inl f4)), (qf5, .inl (cf5, 256, .inl f5)), (qf0, .inl (cf0, nb, .inl f0))] sz) := by
  refine Met.ofW (cc := cX3_isArrayText) (maxL := 2) (ret := (some .boolean)) (by decide) rfl ?_
  intro p e s m args below meth c s₁ B hml hv
  obtain ⟨rfl, hsz, hP, hK, hD0⟩ := hv
  have hx := B.exec
  have hb := B.bytes
  have hr := B.returns
  have hts := atoms_spec (ws := (.code yX3_isArrayText cX3_isArrayText 2 (some .boolean) :: VS_h3)) B.pre
  replace hts := fun w (h : w ∈ VS_h3) => hts w (List.mem_cons_of_mem _ h)
  have hown : s.vm.findClass RX3 = some m.cls := findClass_of_methodNamed B.named
  have hlocks := B.notSynchronized
  subst hsz
  have hD := hD0.self (sz := s.heap.size)
  generalize hAe : va_A [(h0, .inr (3, [.ref qf0, .int v1, .int v2, .int v3, .ref qf4, .ref qf5, .ref qf6, .int v7, .int v8, .int v9, .int v10, .ref qf11, .int v12, .ref qf13])), (qf4, .inl (cf4, 256, .inl f4)), (qf5, .inl (cf5, 256, .inl f5)), (qf0, .inl (cf0, nb, .inl f0))] s.heap.size = A at hD  ⊢
  have hA : ∀ q : Nat, s.heap.size ≤ q → A q := fun q h => by rw [← hAe]; exact Or.inr h
  have hP : va_P (dC, dI) vwCl [(h0, .inr (3, [.ref qf0, .int v1, .int v2, .int v3, .ref qf4, .ref qf5, .ref qf6, .int v7, .int v8, .int v9, .int v10, .ref qf11, .int v12, .ref qf13])), (qf4, .inl (cf4, 256, .inl f4)), (qf5, .inl (cf5, 256, .inl f5)), (qf0, .inl (cf0, nb, .inl f0))] s.heap := hP
  have hl := lv_entry ([.ref h0, .int a1]) (n := 2) (Nat.le_of_ble_eq_true rfl)
  rw [lg_entry_eq]
  generalize (lg_sl ([.ref h0, .int a1]) ++ List.replicate (2 - (lg_sl ([.ref h0, .int a1])).length) Slot.unset).toArray = ls at hl ⊢
  have hl : lv_has ls 2 [(0, .ref h0), (1, .int a1)] := hl
  obtain ⟨H, hH⟩ : ∃ H : Heap, s.heap = H := ⟨_, rfl⟩
  rw [hH] at hP ⊢
  have hS : va_S A s.heap H [] := by rw [← hH]; exact va_S.rf
  obtain ⟨locs, hlo⟩ : ∃ locs : List Loc, locs = [] := ⟨_, rfl⟩
  rw [← hlo] at hS ⊢
  unfold sp_t3_isArrayText at hsp
  refine lv_aload_n hx hb dX3_isArrayText_0 rfl (lv_at hl 0 rfl) ?_
  refine lv_iload_n hx hb dX3_isArrayText_1 rfl (lv_at hl 1 rfl) ?_
  obtain ⟨u1_0, hu_1, hsp⟩ := ox_bind hsp
  try dsimp only at hsp
  have hPc := hP.sub (ws' := [(h0, .inr (3, [.ref qf0, .int v1, .int v2, .int v3, .ref qf4, .ref qf5, .ref qf6, .int v7, .int v8, .int v9, .int v10, .ref qf11, .int v12, .ref qf13])), (qf4, .inl (cf4, 256, .inl f4))]) [0, 1] rfl
  have hDc := hD.sub (ws' := [(h0, .inr (3, [.ref qf0, .int v1, .int v2, .int v3, .ref qf4, .ref qf5, .ref qf6, .int v7, .int v8, .int v9, .int v10, .ref qf11, .int v12, .ref qf13])), (qf4, .inl (cf4, 256, .inl f4))]) [0, 1] (by decide) rfl
  have hKc := hK.sub (tys' := [(cf4, .int)]) [0] rfl
  have hFc := va_free (wc := [(h0, .inr (3, [.ref qf0, .int v1, .int v2, .int v3, .ref qf4, .ref qf5, .ref qf6, .int v7, .int v8, .int v9, .int v10, .ref qf11, .int v12, .ref qf13])), (qf4, .inl (cf4, 256, .inl f4))]) hD hS hA [0, 1] rfl
  refine va_calli (va_runV (As := [.int a1]) (rest := []) ⟨hx, hb, hml, hown, hts⟩ (ti_tagOf l dC dI H.size h0 a1 qf0 v1 v2 v3 qf4 qf5 qf6 v7 v8 v9 v10 qf11 v12 qf13 cf4 f4 nf u1_0 hu_1) (cwV 1 hts gv_h3_4 rfl rfl rfl (by decide +kernel) ⟨Nat.le_of_ble_eq_true rfl, Nat.le_of_ble_eq_true rfl⟩) ⟨fun a U g mk q => by obtain ⟨q0, q1, qP, qK, qD⟩ := q; exact ⟨q0, q1, qP, va_K.moved (u := U) (U := U.calling g mk a) (Vm.Alike.refl U.vm) qK, qD⟩, va_recv hKc hPc (ci := 3) (q0 := 0) rfl rfl, fun U hU hW => ⟨rfl, by rw [hU], by rw [hU]; exact hPc, va_K.moved hW.alike hKc, hDc.weaken (fun _ _ _ _ => trivial)⟩⟩ rfl rfl hl.1 rfl (lv_room (Nat.le_of_ble_eq_true rfl)) dX3_isArrayText_2 ⟨Nat.le_of_ble_eq_true rfl, Nat.le_of_ble_eq_true rfl⟩) hS (fun q _ h => hFc q h) hFc ?_
  clear hS
  intro r_1 u t H1 locs ht hvm hw hB hz1 hk1 hS
  obtain ⟨⟩ := u
  obtain ⟨hP1, hK1, hD1⟩ := hB
  rw [ht] at hP1
  have hK1 := va_K.moved hvm.symm hK1
  try dsimp only at hw
  have hPD := va_join (wr := [(qf5, .inl (cf5, 256, .inl f5)), (qf0, .inl (cf0, nb, .inl f0))]) (w1 := [(h0, .inr (3, [.ref qf0, .int v1, .int v2, .int v3, .ref qf4, .ref qf5, .ref qf6, .int v7, .int v8, .int v9, .int v10, .ref qf11, .int v12, .ref qf13])), (qf4, .inl (cf4, 256, .inl f4))]) hP hD [0, 1] [2, 3] rfl rfl (by decide) (by decide) hk1 hFc hP1 hD1
  clear hP hD
  obtain ⟨hP, hD⟩ := hPD
  replace hK := (hK.sub (tys' := [(cf5, .int), (cf0, .byte)]) [1, 2] rfl).app hK1
  clear hPc hDc hKc hFc hP1 hK1 hD1 hz1 hk1 ht hvm
  generalize H1 = H at hP hS ⊢
  replace hP : va_P (dC, dI) vwCl [(qf5, .inl (cf5, 256, .inl f5)), (qf0, .inl (cf0, nb, .inl f0)), (h0, .inr (3, [.ref qf0, .int v1, .int v2, .int v3, .ref qf4, .ref qf5, .ref qf6, .int v7, .int v8, .int v9, .int v10, .ref qf11, .int v12, .ref qf13])), (qf4, .inl (cf4, 256, .inl f4))] H := hP
  replace hD : va_D A [(qf5, .inl (cf5, 256, .inl f5)), (qf0, .inl (cf0, nb, .inl f0)), (h0, .inr (3, [.ref qf0, .int v1, .int v2, .int v3, .ref qf4, .ref qf5, .ref qf6, .int v7, .int v8, .int v9, .int v10, .ref qf11, .int v12, .ref qf13])), (qf4, .inl (cf4, 256, .inl f4))] := hD
  replace hK : va_K (dC, dI) vwCl [(cf5, .int), (cf0, .byte), (cf4, .int)] s := hK
  obtain rfl := hw
  refine lv_iconst (v := 1) hx hb dX3_isArrayText_5 (by decide) ?_
  refine lv_icmp_ne (tgt := 28) hx hb dX3_isArrayText_6 (by decide) (fun c_2 => ?_) (fun c_2 => ?_)
  · rw [if_neg c_2] at hsp
    refine lv_iconst (v := 0) hx hb dX3_isArrayText_28 (by decide) ?_
    have hr0 := Option.some.inj hsp
    clear hsp
    subst hr0
    have hP9 := hP.sub (ws' := [(h0, .inr (3, [.ref qf0, .int v1, .int v2, .int v3, .ref qf4, .ref qf5, .ref qf6, .int v7, .int v8, .int v9, .int v10, .ref qf11, .int v12, .ref qf13])), (qf4, .inl (cf4, 256, .inl f4)), (qf5, .inl (cf5, 256, .inl f5)), (qf0, .inl (cf0, nb, .inl f0))]) [2, 3, 0, 1] rfl
    have hD9 := hD.sub (ws' := [(h0, .inr (3, [.ref qf0, .int v1, .int v2, .int v3, .ref qf4, .ref qf5, .ref qf6, .int v7, .int v8, .int v9, .int v10, .ref qf11, .int v12, .ref qf13])), (qf4, .inl (cf4, 256, .inl f4)), (qf5, .inl (cf5, 256, .inl f5)), (qf0, .inl (cf0, nb, .inl f0))]) [2, 3, 0, 1] (by decide) rfl
    have hK9 := hK.sub (tys' := [(cf4, .int), (cf5, .int), (cf0, .byte)]) [2, 0, 1] rfl
    exact W.zret hx hb hr (by decide) (fun t ht hW => ⟨⟨(0), (), rfl, ⟨rfl, Or.inl rfl⟩, by rw [ht]; exact hP9, va_K.moved hW.alike hK9, hD9⟩, hS.F ht⟩) hS.2.2 dX3_isArrayText_29
  · rw [if_pos c_2] at hsp
    refine lv_aload_n hx hb dX3_isArrayText_9 rfl (lv_at hl 0 rfl) ?_
    refine lv_aload_n hx hb dX3_isArrayText_10 rfl (lv_at hl 0 rfl) ?_
    refine va_get (D := (dC, dI)) (ci := 3) (v := .ref qf5) (C := RX3) (T := TX3) (N := 14) hx hb hts uV_h3_X3 hown hK hP 2 rfl rfl 5 (by decide) (hts (.fieldLink RX3 19 "ClassMill$Image" "at" "[I") mw_h3_42) (fun _ h9 => h9) rfl dX3_isArrayText_11 ?_
    refine lv_iload_n hx hb dX3_isArrayText_14 rfl (lv_at hl 1 rfl) ?_
    obtain ⟨hi_3, hsp⟩ := ox_in hsp
    refine va_iald hx hb hK hP 0 0 rfl rfl (i := a1) hi_3 dX3_isArrayText_15 ?_
    obtain ⟨u2_0, hu_2, hsp⟩ := ox_bind hsp
    try dsimp only at hsp
    have hPc := hP.sub (ws' := [(h0, .inr (3, [.ref qf0, .int v1, .int v2, .int v3, .ref qf4, .ref qf5, .ref qf6, .int v7, .int v8, .int v9, .int v10, .ref qf11, .int v12, .ref qf13])), (qf0, .inl (cf0, nb, .inl f0))]) [2, 1] rfl
    have hDc := hD.sub (ws' := [(h0, .inr (3, [.ref qf0, .int v1, .int v2, .int v3, .ref qf4, .ref qf5, .ref qf6, .int v7, .int v8, .int v9, .int v10, .ref qf11, .int v12, .ref qf13])), (qf0, .inl (cf0, nb, .inl f0))]) [2, 1] (by decide) rfl
    have hKc := hK.sub (tys' := [(cf0, .byte)]) [1] rfl
    have hFc := va_free (wc := [(h0, .inr (3, [.ref qf0, .int v1, .int v2, .int v3, .ref qf4, .ref qf5, .ref qf6, .int v7, .int v8, .int v9, .int v10, .ref qf11, .int v12, .ref qf13])), (qf0, .inl (cf0, nb, .inl f0))]) hD hS hA [2, 1] rfl
    refine va_calli (va_runV (As := [.int (f5 (a1 : Int32).toNatClampNeg)]) (rest := []) ⟨hx, hb, hml, hown, hts⟩ (ti_byteAt l dC dI H.size h0 ((f5 (a1 : Int32).toNatClampNeg)) qf0 v1 v2 v3 qf4 qf5 qf6 v7 v8 v9 v10 qf11 v12 qf13 cf0 nb f0 nf u2_0 hu_2) (cwV 1 hts gv_h3_8 rfl rfl rfl (by decide +kernel) ⟨Nat.le_of_ble_eq_true rfl, Nat.le_of_ble_eq_true rfl⟩) ⟨fun a U g mk q => by obtain ⟨q0, q1, qP, qK, qD⟩ := q; exact ⟨q0, q1, qP, va_K.moved (u := U) (U := U.calling g mk a) (Vm.Alike.refl U.vm) qK, qD⟩, va_recv hKc hPc (ci := 3) (q0 := 0) rfl rfl, fun U hU hW => ⟨rfl, by rw [hU], by rw [hU]; exact hPc, va_K.moved hW.alike hKc, hDc.weaken (fun _ _ _ _ => trivial)⟩⟩ rfl rfl hl.1 rfl (lv_room (Nat.le_of_ble_eq_true rfl)) dX3_isArrayText_16 ⟨Nat.le_of_ble_eq_true rfl, Nat.le_of_ble_eq_true rfl⟩) hS (fun q _ h => hFc q h) hFc ?_
    clear hS
    intro r_4 u t H1 locs ht hvm hw hB hz1 hk1 hS
    obtain ⟨⟩ := u
    obtain ⟨hP1, hK1, hD1⟩ := hB
    rw [ht] at hP1
    have hK1 := va_K.moved hvm.symm hK1
    try dsimp only at hw
    have hPD := va_join (wr := [(qf5, .inl (cf5, 256, .inl f5)), (qf4, .inl (cf4, 256, .inl f4))]) (w1 := [(h0, .inr (3, [.ref qf0, .int v1, .int v2, .int v3, .ref qf4, .ref qf5, .ref qf6, .int v7, .int v8, .int v9, .int v10, .ref qf11, .int v12, .ref qf13])), (qf0, .inl (cf0, nb, .inl f0))]) hP hD [2, 1] [0, 3] rfl rfl (by decide) (by decide) hk1 hFc hP1 hD1
    clear hP hD
    obtain ⟨hP, hD⟩ := hPD
    replace hK := (hK.sub (tys' := [(cf5, .int), (cf4, .int)]) [0, 2] rfl).app hK1
    clear hPc hDc hKc hFc hP1 hK1 hD1 hz1 hk1 ht hvm
    generalize H1 = H at hP hS ⊢
    replace hP : va_P (dC, dI) vwCl [(qf5, .inl (cf5, 256, .inl f5)), (qf4, .inl (cf4, 256, .inl f4)), (h0, .inr (3, [.ref qf0, .int v1, .int v2, .int v3, .ref qf4, .ref qf5, .ref qf6, .int v7, .int v8, .int v9, .int v10, .ref qf11, .int v12, .ref qf13])), (qf0, .inl (cf0, nb, .inl f0))] H := hP
    replace hD : va_D A [(qf5, .inl (cf5, 256, .inl f5)), (qf4, .inl (cf4, 256, .inl f4)), (h0, .inr (3, [.ref qf0, .int v1, .int v2, .int v3, .ref qf4, .ref qf5, .ref qf6, .int v7, .int v8, .int v9, .int v10, .ref qf11, .int v12, .ref qf13])), (qf0, .inl (cf0, nb, .inl f0))] := hD
    replace hK : va_K (dC, dI) vwCl [(cf5, .int), (cf4, .int), (cf0, .byte)] s := hK
    obtain rfl := hw
    refine lv_bipush (v := 91) hx hb dX3_isArrayText_19 (by decide) ?_
    refine lv_icmp_ne (tgt := 28) hx hb dX3_isArrayText_21 (by decide) (fun c_5 => ?_) (fun c_5 => ?_)
    · rw [if_neg c_5] at hsp
      refine lv_iconst (v := 0) hx hb dX3_isArrayText_28 (by decide) ?_
      have hr0 := Option.some.inj hsp
      clear hsp
      subst hr0
      have hP9 := hP.sub (ws' := [(h0, .inr (3, [.ref qf0, .int v1, .int v2, .int v3, .ref qf4, .ref qf5, .ref qf6, .int v7, .int v8, .int v9, .int v10, .ref qf11, .int v12, .ref qf13])), (qf4, .inl (cf4, 256, .inl f4)), (qf5, .inl (cf5, 256, .inl f5)), (qf0, .inl (cf0, nb, .inl f0))]) [2, 1, 0, 3] rfl
      have hD9 := hD.sub (ws' := [(h0, .inr (3, [.ref qf0, .int v1, .int v2, .int v3, .ref qf4, .ref qf5, .ref qf6, .int v7, .int v8, .int v9, .int v10, .ref qf11, .int v12, .ref qf13])), (qf4, .inl (cf4, 256, .inl f4)), (qf5, .inl (cf5, 256, .inl f5)), (qf0, .inl (cf0, nb, .inl f0))]) [2, 1, 0, 3] (by decide) rfl
      have hK9 := hK.sub (tys' := [(cf4, .int), (cf5, .int), (cf0, .byte)]) [1, 0, 2] rfl
      exact W.zret hx hb hr (by decide) (fun t ht hW => ⟨⟨(0), (), rfl, ⟨rfl, Or.inl rfl⟩, by rw [ht]; exact hP9, va_K.moved hW.alike hK9, hD9⟩, hS.F ht⟩) hS.2.2 dX3_isArrayText_29
    · rw [if_pos c_5] at hsp
      refine lv_iconst (v := 1) hx hb dX3_isArrayText_24 (by decide) ?_
      refine lv_goto (tgt := 29) hx hb dX3_isArrayText_25 (by decide) ?_
      have hr0 := Option.some.inj hsp
      clear hsp
      subst hr0
      have hP9 := hP.sub (ws' := [(h0, .inr (3, [.ref qf0, .int v1, .int v2, .int v3, .ref qf4, .ref qf5, .ref qf6, .int v7, .int v8, .int v9, .int v10, .ref qf11, .int v12, .ref qf13])), (qf4, .inl (cf4, 256, .inl f4)), (qf5, .inl (cf5, 256, .inl f5)), (qf0, .inl (cf0, nb, .inl f0))]) [2, 1, 0, 3] rfl
      have hD9 := hD.sub (ws' := [(h0, .inr (3, [.ref qf0, .int v1, .int v2, .int v3, .ref qf4, .ref qf5, .ref qf6, .int v7, .int v8, .int v9, .int v10, .ref qf11, .int v12, .ref qf13])), (qf4, .inl (cf4, 256, .inl f4)), (qf5, .inl (cf5, 256, .inl f5)), (qf0, .inl (cf0, nb, .inl f0))]) [2, 1, 0, 3] (by decide) rfl
      have hK9 := hK.sub (tys' := [(cf4, .int), (cf5, .int), (cf0, .byte)]) [1, 0, 2] rfl
      exact W.zret hx hb hr (by decide) (fun t ht hW => ⟨⟨(1), (), rfl, ⟨rfl, Or.inr rfl⟩, by rw [ht]; exact hP9, va_K.moved hW.alike hK9, hD9⟩, hS.F ht⟩) hS.2.2 dX3_isArrayText_29
def sp_t3_nextClass (nf : Nat) (v1 : Int32) (v2 : Int32) (v3 : Int32) (v7 : Int32) (nb : Nat) (f0 : Nat → Int32) (f4 : Nat → Int32) : Option (Int32 × Int32) := ((sp_ti_next nf v1 v2 v3 nb f0).bind (fun p1 => ((sp_ti_tagOf nf p1.1 v7 f4).bind (fun p2 => (if p2 = 3 then (some (p1.2.1, p1.2.2)) else ((sp_ti_bad nf (p1.2.1 - 1) p1.2.2).bind (fun p3 => (some (p1.2.1, p3)))))))))
set_option maxHeartbeats 4000000 in
set_option maxRecDepth 100000 in
/-- ClassMill$Image.nextClass -/
theorem t3_nextClass (l : Launch) (dC : Nat → ClassId) (dI : Nat → Nat → Nat) (sz : Nat) (h0 : Nat) (qf0 : Nat) (v1 : Int32) (v2 : Int32) (v3 : Int32) (qf4 : Nat) (qf5 : Nat) (qf6 : Nat) (v7 : Int32) (v8 : Int32) (v9 : Int32) (v10 : Int32) (qf11 : Nat) (v12 : Int32) (qf13 : Nat) (cf0 : ClassId) (nb : Nat) (f0 : (Nat → Int32)) (cf4 : ClassId) (f4 : (Nat → Int32)) (nf : Nat) (w2 : Int32) (w3 : Int32) (hsp : sp_t3_nextClass nf v1 v2 v3 v7 nb f0 f4 = some (w2, w3)) : Met l yX3_nextClass (.code yX3_nextClass cX3_nextClass 1 none :: VS_h3) ({ frames := 1, cells := 0, slots := 0, locals := 21 }) (va_Pc [.ref h0] (fun U => U.heap.size = sz ∧ va_P (dC, dI) vwCl [(h0, .inr (3, [.ref qf0, .int v1, .int v2, .int v3, .ref qf4, .ref qf5, .ref qf6, .int v7, .int v8, .int v9, .int v10, .ref qf11, .int v12, .ref qf13])), (qf0, .inl (cf0, nb, .inl f0)), (qf4, .inl (cf4, 256, .inl f4))] U.heap ∧ va_K (dC, dI) vwCl [(cf0, .byte), (cf4, .int)] U ∧ va_D (fun _ => True) [(h0, .inr (3, [.ref qf0, .int v1, .int v2, .int v3, .ref qf4, .ref qf5, .ref qf6, .int v7, .int v8, .int v9, .int v10, .ref qf11, .int v12, .ref qf13])), (qf0, .inl (cf0, nb, .inl f0)), (qf4, .inl (cf4, 256, .inl f4))])) (va_Qv (fun (u : Unit) => match u with | () => True) (fun (u : Unit) (t : State) => match u with | () => va_P (dC, dI) vwCl [(h0, .inr (3, [.ref qf0, .int v1, .int w2, .int w3, .ref qf4, .ref qf5, .ref qf6, .int v7, .int v8, .int v9, .int v10, .ref qf11, .int v12, .ref qf13])), (qf0, .inl (cf0, nb, .inl f0)), (qf4, .inl (cf4, 256, .inl f4))] t.heap ∧ va_K (dC, dI) vwCl [(cf0, .byte), (cf4, .int)] t ∧ va_D (va_A [(h0, .inr (3, [.ref qf0, .int v1, .int v2, .int v3, .ref qf4, .ref qf5, .ref qf6, .int v7, .int v8, .int v9, .int v10, .ref qf11, .int v12, .ref qf13])), (qf0, .inl (cf0, nb, .inl f0)), (qf4, .inl (cf4, 256, .inl f4))] sz) [(h0, .inr (3, [.ref qf0, .int v1, .int w2, .int w3, .ref qf4, .ref qf5, .ref qf6, .int v7, .int v8, .int v9, .int v10, .ref qf11, .int v12, .ref qf13])), (qf0, .inl (cf0, nb, .inl f0)), (qf4, .inl (cf4, 256, .inl f4))]) (va_A [(h0, .inr (3, [.ref qf0, .int v1, .int v2, .int v3, .ref qf4, .ref qf5, .ref qf6, .int v7, .int v8, .int v9, .int v10, .ref qf11, .int v12, .ref qf13])), (qf0, .inl (cf0, nb, .inl f0)), (qf4, .inl (cf4, 256, .inl f4))] sz)) 0 0 (va_A [(h0, .inr (3, [.ref qf0, .int v1, .int v2, .int v3, .ref qf4, .ref qf5, .ref qf6, .int v7, .int v8, .int v9, .int v10, .ref qf11, .int v12, .ref qf13])), (qf0, .inl (cf0, nb, .inl f0)), (qf4, .inl (cf4, 256, .inl f4))] sz) := by
  refine Met.ofW (cc := cX3_nextClass) (maxL := 1) (ret := none) (by decide) rfl ?_
  intro p e s m args below meth c s₁ B hml hv
  obtain ⟨rfl, hsz, hP, hK, hD0⟩ := hv
  have hx := B.exec
  have hb := B.bytes
  have hr := B.returns
  have hts := atoms_spec (ws := (.code yX3_nextClass cX3_nextClass 1 none :: VS_h3)) B.pre
  replace hts := fun w (h : w ∈ VS_h3) => hts w (List.mem_cons_of_mem _ h)
  have hown : s.vm.findClass RX3 = some m.cls := findClass_of_methodNamed B.named
  have hlocks := B.notSynchronized
  subst hsz
  have hD := hD0.self (sz := s.heap.size)
  generalize hAe : va_A [(h0, .inr (3, [.ref qf0, .int v1, .int v2, .int v3, .ref qf4, .ref qf5, .ref qf6, .int v7, .int v8, .int v9, .int v10, .ref qf11, .int v12, .ref qf13])), (qf0, .inl (cf0, nb, .inl f0)), (qf4, .inl (cf4, 256, .inl f4))] s.heap.size = A at hD  ⊢
  have hA : ∀ q : Nat, s.heap.size ≤ q → A q := fun q h => by rw [← hAe]; exact Or.inr h
  have hP : va_P (dC, dI) vwCl [(h0, .inr (3, [.ref qf0, .int v1, .int v2, .int v3, .ref qf4, .ref qf5, .ref qf6, .int v7, .int v8, .int v9, .int v10, .ref qf11, .int v12, .ref qf13])), (qf0, .inl (cf0, nb, .inl f0)), (qf4, .inl (cf4, 256, .inl f4))] s.heap := hP
  have hl := lv_entry ([.ref h0]) (n := 1) (Nat.le_of_ble_eq_true rfl)
  rw [lg_entry_eq]
  generalize (lg_sl ([.ref h0]) ++ List.replicate (1 - (lg_sl ([.ref h0])).length) Slot.unset).toArray = ls at hl ⊢
  have hl : lv_has ls 1 [(0, .ref h0)] := hl
  obtain ⟨H, hH⟩ : ∃ H : Heap, s.heap = H := ⟨_, rfl⟩
  rw [hH] at hP ⊢
  have hS : va_S A s.heap H [] := by rw [← hH]; exact va_S.rf
  obtain ⟨locs, hlo⟩ : ∃ locs : List Loc, locs = [] := ⟨_, rfl⟩
  rw [← hlo] at hS ⊢
  unfold sp_t3_nextClass at hsp
  refine lv_aload_n hx hb dX3_nextClass_0 rfl (lv_at hl 0 rfl) ?_
  refine lv_aload_n hx hb dX3_nextClass_1 rfl (lv_at hl 0 rfl) ?_
  obtain ⟨⟨u1_0, u1_1, u1_2⟩, hu_1, hsp⟩ := ox_bind hsp
  try dsimp only at hsp
  have hPc := hP.sub (ws' := [(h0, .inr (3, [.ref qf0, .int v1, .int v2, .int v3, .ref qf4, .ref qf5, .ref qf6, .int v7, .int v8, .int v9, .int v10, .ref qf11, .int v12, .ref qf13])), (qf0, .inl (cf0, nb, .inl f0))]) [0, 1] rfl
  have hDc := hD.sub (ws' := [(h0, .inr (3, [.ref qf0, .int v1, .int v2, .int v3, .ref qf4, .ref qf5, .ref qf6, .int v7, .int v8, .int v9, .int v10, .ref qf11, .int v12, .ref qf13])), (qf0, .inl (cf0, nb, .inl f0))]) [0, 1] (by decide) rfl
  have hKc := hK.sub (tys' := [(cf0, .byte)]) [0] rfl
  have hFc := va_free (wc := [(h0, .inr (3, [.ref qf0, .int v1, .int v2, .int v3, .ref qf4, .ref qf5, .ref qf6, .int v7, .int v8, .int v9, .int v10, .ref qf11, .int v12, .ref qf13])), (qf0, .inl (cf0, nb, .inl f0))]) hD hS hA [0, 1] rfl
  refine va_calli (va_runV (As := []) (rest := [.ref h0]) ⟨hx, hb, hml, hown, hts⟩ (ti_next l dC dI H.size h0 qf0 v1 v2 v3 qf4 qf5 qf6 v7 v8 v9 v10 qf11 v12 qf13 cf0 nb f0 nf u1_0 u1_1 u1_2 hu_1) (cwV 0 hts gv_h3_2 rfl rfl rfl (by decide +kernel) ⟨Nat.le_of_ble_eq_true rfl, Nat.le_of_ble_eq_true rfl⟩) ⟨fun a U g mk q => by obtain ⟨q0, q1, qP, qK, qD⟩ := q; exact ⟨q0, q1, qP, va_K.moved (u := U) (U := U.calling g mk a) (Vm.Alike.refl U.vm) qK, qD⟩, va_recv hKc hPc (ci := 3) (q0 := 0) rfl rfl, fun U hU hW => ⟨rfl, by rw [hU], by rw [hU]; exact hPc, va_K.moved hW.alike hKc, hDc.weaken (fun _ _ _ _ => trivial)⟩⟩ rfl rfl hl.1 rfl (lv_room (Nat.le_of_ble_eq_true rfl)) dX3_nextClass_2 ⟨Nat.le_of_ble_eq_true rfl, Nat.le_of_ble_eq_true rfl⟩) hS (fun q _ h => hFc q h) hFc ?_
  clear hS
  intro r_1 u t H1 locs ht hvm hw hB hz1 hk1 hS
  obtain ⟨⟩ := u
  obtain ⟨hP1, hK1, hD1⟩ := hB
  rw [ht] at hP1
  have hK1 := va_K.moved hvm.symm hK1
  try dsimp only at hw
  have hPD := va_join (wr := [(qf4, .inl (cf4, 256, .inl f4))]) (w1 := [(h0, .inr (3, [.ref qf0, .int v1, .int u1_1, .int u1_2, .ref qf4, .ref qf5, .ref qf6, .int v7, .int v8, .int v9, .int v10, .ref qf11, .int v12, .ref qf13])), (qf0, .inl (cf0, nb, .inl f0))]) hP hD [0, 1] [2] rfl rfl (by decide) (by decide) hk1 hFc hP1 hD1
  clear hP hD
  obtain ⟨hP, hD⟩ := hPD
  replace hK := (hK.sub (tys' := [(cf4, .int)]) [1] rfl).app hK1
  clear hPc hDc hKc hFc hP1 hK1 hD1 hz1 hk1 ht hvm
  generalize H1 = H at hP hS ⊢
  replace hP : va_P (dC, dI) vwCl [(qf4, .inl (cf4, 256, .inl f4)), (h0, .inr (3, [.ref qf0, .int v1, .int u1_1, .int u1_2, .ref qf4, .ref qf5, .ref qf6, .int v7, .int v8, .int v9, .int v10, .ref qf11, .int v12, .ref qf13])), (qf0, .inl (cf0, nb, .inl f0))] H := hP
  replace hD : va_D A [(qf4, .inl (cf4, 256, .inl f4)), (h0, .inr (3, [.ref qf0, .int v1, .int u1_1, .int u1_2, .ref qf4, .ref qf5, .ref qf6, .int v7, .int v8, .int v9, .int v10, .ref qf11, .int v12, .ref qf13])), (qf0, .inl (cf0, nb, .inl f0))] := hD
  replace hK : va_K (dC, dI) vwCl [(cf4, .int), (cf0, .byte)] s := hK
  obtain rfl := hw
  obtain ⟨u2_0, hu_2, hsp⟩ := ox_bind hsp
  try dsimp only at hsp
  have hPc := hP.sub (ws' := [(h0, .inr (3, [.ref qf0, .int v1, .int u1_1, .int u1_2, .ref qf4, .ref qf5, .ref qf6, .int v7, .int v8, .int v9, .int v10, .ref qf11, .int v12, .ref qf13])), (qf4, .inl (cf4, 256, .inl f4))]) [1, 0] rfl
  have hDc := hD.sub (ws' := [(h0, .inr (3, [.ref qf0, .int v1, .int u1_1, .int u1_2, .ref qf4, .ref qf5, .ref qf6, .int v7, .int v8, .int v9, .int v10, .ref qf11, .int v12, .ref qf13])), (qf4, .inl (cf4, 256, .inl f4))]) [1, 0] (by decide) rfl
  have hKc := hK.sub (tys' := [(cf4, .int)]) [0] rfl
  have hFc := va_free (wc := [(h0, .inr (3, [.ref qf0, .int v1, .int u1_1, .int u1_2, .ref qf4, .ref qf5, .ref qf6, .int v7, .int v8, .int v9, .int v10, .ref qf11, .int v12, .ref qf13])), (qf4, .inl (cf4, 256, .inl f4))]) hD hS hA [1, 0] rfl
  refine va_calli (va_runV (As := [.int u1_0]) (rest := []) ⟨hx, hb, hml, hown, hts⟩ (ti_tagOf l dC dI H.size h0 u1_0 qf0 v1 u1_1 u1_2 qf4 qf5 qf6 v7 v8 v9 v10 qf11 v12 qf13 cf4 f4 nf u2_0 hu_2) (cwV 1 hts gv_h3_4 rfl rfl rfl (by decide +kernel) ⟨Nat.le_of_ble_eq_true rfl, Nat.le_of_ble_eq_true rfl⟩) ⟨fun a U g mk q => by obtain ⟨q0, q1, qP, qK, qD⟩ := q; exact ⟨q0, q1, qP, va_K.moved (u := U) (U := U.calling g mk a) (Vm.Alike.refl U.vm) qK, qD⟩, va_recv hKc hPc (ci := 3) (q0 := 0) rfl rfl, fun U hU hW => ⟨rfl, by rw [hU], by rw [hU]; exact hPc, va_K.moved hW.alike hKc, hDc.weaken (fun _ _ _ _ => trivial)⟩⟩ rfl rfl hl.1 rfl (lv_room (Nat.le_of_ble_eq_true rfl)) dX3_nextClass_5 ⟨Nat.le_of_ble_eq_true rfl, Nat.le_of_ble_eq_true rfl⟩) hS (fun q _ h => hFc q h) hFc ?_
  clear hS
  intro r_2 u t H1 locs ht hvm hw hB hz1 hk1 hS
  obtain ⟨⟩ := u
  obtain ⟨hP1, hK1, hD1⟩ := hB
  rw [ht] at hP1
  have hK1 := va_K.moved hvm.symm hK1
  try dsimp only at hw
  have hPD := va_join (wr := [(qf0, .inl (cf0, nb, .inl f0))]) (w1 := [(h0, .inr (3, [.ref qf0, .int v1, .int u1_1, .int u1_2, .ref qf4, .ref qf5, .ref qf6, .int v7, .int v8, .int v9, .int v10, .ref qf11, .int v12, .ref qf13])), (qf4, .inl (cf4, 256, .inl f4))]) hP hD [1, 0] [2] rfl rfl (by decide) (by decide) hk1 hFc hP1 hD1
  clear hP hD
  obtain ⟨hP, hD⟩ := hPD
  replace hK := (hK.sub (tys' := [(cf0, .byte)]) [1] rfl).app hK1
  clear hPc hDc hKc hFc hP1 hK1 hD1 hz1 hk1 ht hvm
  generalize H1 = H at hP hS ⊢
  replace hP : va_P (dC, dI) vwCl [(qf0, .inl (cf0, nb, .inl f0)), (h0, .inr (3, [.ref qf0, .int v1, .int u1_1, .int u1_2, .ref qf4, .ref qf5, .ref qf6, .int v7, .int v8, .int v9, .int v10, .ref qf11, .int v12, .ref qf13])), (qf4, .inl (cf4, 256, .inl f4))] H := hP
  replace hD : va_D A [(qf0, .inl (cf0, nb, .inl f0)), (h0, .inr (3, [.ref qf0, .int v1, .int u1_1, .int u1_2, .ref qf4, .ref qf5, .ref qf6, .int v7, .int v8, .int v9, .int v10, .ref qf11, .int v12, .ref qf13])), (qf4, .inl (cf4, 256, .inl f4))] := hD
  replace hK : va_K (dC, dI) vwCl [(cf0, .byte), (cf4, .int)] s := hK
  obtain rfl := hw
  refine lv_iconst (v := 3) hx hb dX3_nextClass_8 (by decide) ?_
  refine lv_icmp_eq (tgt := 22) hx hb dX3_nextClass_9 (by decide) (fun c_3 => ?_) (fun c_3 => ?_)
  · rw [if_pos c_3] at hsp
    have hr0 := Option.some.inj hsp
    clear hsp
    obtain ⟨hq0, hr1⟩ := Prod.mk.inj hr0
    clear hr0
    subst hq0
    subst hr1
    have hP9 := hP.sub (ws' := [(h0, .inr (3, [.ref qf0, .int v1, .int u1_1, .int u1_2, .ref qf4, .ref qf5, .ref qf6, .int v7, .int v8, .int v9, .int v10, .ref qf11, .int v12, .ref qf13])), (qf0, .inl (cf0, nb, .inl f0)), (qf4, .inl (cf4, 256, .inl f4))]) [1, 0, 2] rfl
    have hD9 := hD.sub (ws' := [(h0, .inr (3, [.ref qf0, .int v1, .int u1_1, .int u1_2, .ref qf4, .ref qf5, .ref qf6, .int v7, .int v8, .int v9, .int v10, .ref qf11, .int v12, .ref qf13])), (qf0, .inl (cf0, nb, .inl f0)), (qf4, .inl (cf4, 256, .inl f4))]) [1, 0, 2] (by decide) rfl
    have hK9 := hK.sub (tys' := [(cf0, .byte), (cf4, .int)]) [0, 1] rfl
    exact W.vret hx hb hr (fun t ht hW => ⟨⟨(), rfl, trivial, by rw [ht]; exact hP9, va_K.moved hW.alike hK9, hD9⟩, hS.F ht⟩) hS.2.2 dX3_nextClass_22
  · rw [if_neg c_3] at hsp
    refine lv_aload_n hx hb dX3_nextClass_12 rfl (lv_at hl 0 rfl) ?_
    refine lv_aload_n hx hb dX3_nextClass_13 rfl (lv_at hl 0 rfl) ?_
    refine va_get (D := (dC, dI)) (ci := 3) (v := .int u1_1) (C := RX3) (T := TX3) (N := 14) hx hb hts uV_h3_X3 hown hK hP 1 rfl rfl 2 (by decide) (hts (.fieldLink RX3 43 "ClassMill$Image" "pos" "I") mw_h3_47) (fun _ h9 => h9) rfl dX3_nextClass_14 ?_
    refine lv_iconst (v := 1) hx hb dX3_nextClass_17 (by decide) ?_
    refine lv_isub hx hb dX3_nextClass_18 ?_
    obtain ⟨u3_0, hu_3, hsp⟩ := ox_bind hsp
    try dsimp only at hsp
    have hPc := hP.sub (ws' := [(h0, .inr (3, [.ref qf0, .int v1, .int u1_1, .int u1_2, .ref qf4, .ref qf5, .ref qf6, .int v7, .int v8, .int v9, .int v10, .ref qf11, .int v12, .ref qf13]))]) [1] rfl
    have hDc := hD.sub (ws' := [(h0, .inr (3, [.ref qf0, .int v1, .int u1_1, .int u1_2, .ref qf4, .ref qf5, .ref qf6, .int v7, .int v8, .int v9, .int v10, .ref qf11, .int v12, .ref qf13]))]) [1] (by decide) rfl
    have hKc := hK.sub (tys' := []) [] rfl
    have hFc := va_free (wc := [(h0, .inr (3, [.ref qf0, .int v1, .int u1_1, .int u1_2, .ref qf4, .ref qf5, .ref qf6, .int v7, .int v8, .int v9, .int v10, .ref qf11, .int v12, .ref qf13]))]) hD hS hA [1] rfl
    refine va_callv (va_runV (As := [.int (u1_1 - 1)]) (rest := []) ⟨hx, hb, hml, hown, hts⟩ (ti_bad l dC dI H.size h0 ((u1_1 - 1)) qf0 v1 u1_1 u1_2 qf4 qf5 qf6 v7 v8 v9 v10 qf11 v12 qf13 nf u3_0 hu_3) (cwV 1 hts gv_h3_9 rfl rfl rfl (by decide +kernel) ⟨Nat.le_of_ble_eq_true rfl, Nat.le_of_ble_eq_true rfl⟩) ⟨fun a U g mk q => by obtain ⟨q0, q1, qP, qK, qD⟩ := q; exact ⟨q0, q1, qP, va_K.moved (u := U) (U := U.calling g mk a) (Vm.Alike.refl U.vm) qK, qD⟩, va_recv hKc hPc (ci := 3) (q0 := 0) rfl rfl, fun U hU hW => ⟨rfl, by rw [hU], by rw [hU]; exact hPc, va_K.moved hW.alike hKc, hDc.weaken (fun _ _ _ _ => trivial)⟩⟩ rfl rfl hl.1 rfl (lv_room (Nat.le_of_ble_eq_true rfl)) dX3_nextClass_19 ⟨Nat.le_of_ble_eq_true rfl, Nat.le_of_ble_eq_true rfl⟩) hS (fun q _ h => hFc q h) hFc ?_
    clear hS
    intro u t H1 locs ht hvm hw hB hz1 hk1 hS
    obtain ⟨⟩ := u
    obtain ⟨hP1, hK1, hD1⟩ := hB
    rw [ht] at hP1
    have hK1 := va_K.moved hvm.symm hK1
    try dsimp only at hw
    have hPD := va_join (wr := [(qf0, .inl (cf0, nb, .inl f0)), (qf4, .inl (cf4, 256, .inl f4))]) (w1 := [(h0, .inr (3, [.ref qf0, .int v1, .int u1_1, .int u3_0, .ref qf4, .ref qf5, .ref qf6, .int v7, .int v8, .int v9, .int v10, .ref qf11, .int v12, .ref qf13]))]) hP hD [1] [0, 2] rfl rfl (by decide) (by decide) hk1 hFc hP1 hD1
    clear hP hD
    obtain ⟨hP, hD⟩ := hPD
    replace hK := (hK.sub (tys' := [(cf0, .byte), (cf4, .int)]) [0, 1] rfl).app hK1
    clear hPc hDc hKc hFc hP1 hK1 hD1 hz1 hk1 ht hvm
    generalize H1 = H at hP hS ⊢
    replace hP : va_P (dC, dI) vwCl [(qf0, .inl (cf0, nb, .inl f0)), (qf4, .inl (cf4, 256, .inl f4)), (h0, .inr (3, [.ref qf0, .int v1, .int u1_1, .int u3_0, .ref qf4, .ref qf5, .ref qf6, .int v7, .int v8, .int v9, .int v10, .ref qf11, .int v12, .ref qf13]))] H := hP
    replace hD : va_D A [(qf0, .inl (cf0, nb, .inl f0)), (qf4, .inl (cf4, 256, .inl f4)), (h0, .inr (3, [.ref qf0, .int v1, .int u1_1, .int u3_0, .ref qf4, .ref qf5, .ref qf6, .int v7, .int v8, .int v9, .int v10, .ref qf11, .int v12, .ref qf13]))] := hD
    replace hK : va_K (dC, dI) vwCl [(cf0, .byte), (cf4, .int)] s := hK
    have hr0 := Option.some.inj hsp
    clear hsp
    obtain ⟨hq0, hr1⟩ := Prod.mk.inj hr0
    clear hr0
    subst hq0
    subst hr1
    have hP9 := hP.sub (ws' := [(h0, .inr (3, [.ref qf0, .int v1, .int u1_1, .int u3_0, .ref qf4, .ref qf5, .ref qf6, .int v7, .int v8, .int v9, .int v10, .ref qf11, .int v12, .ref qf13])), (qf0, .inl (cf0, nb, .inl f0)), (qf4, .inl (cf4, 256, .inl f4))]) [2, 0, 1] rfl
    have hD9 := hD.sub (ws' := [(h0, .inr (3, [.ref qf0, .int v1, .int u1_1, .int u3_0, .ref qf4, .ref qf5, .ref qf6, .int v7, .int v8, .int v9, .int v10, .ref qf11, .int v12, .ref qf13])), (qf0, .inl (cf0, nb, .inl f0)), (qf4, .inl (cf4, 256, .inl f4))]) [2, 0, 1] (by decide) rfl
    have hK9 := hK.sub (tys' := [(cf0, .byte), (cf4, .int)]) [0, 1] rfl
    exact W.vret hx hb hr (fun t ht hW => ⟨⟨(), rfl, trivial, by rw [ht]; exact hP9, va_K.moved hW.alike hK9, hD9⟩, hS.F ht⟩) hS.2.2 dX3_nextClass_22
def sp_t3_nextPlainClass (nf : Nat) (v1 : Int32) (v2 : Int32) (v3 : Int32) (v7 : Int32) (nb : Nat) (f0 : Nat → Int32) (f5 : Nat → Int32) (f4 : Nat → Int32) : Option (Int32 × Int32 × Int32) := ((sp_ti_next nf v1 v2 v3 nb f0).bind (fun p1 => ((sp_ti_partOf nf p1.1 0 v1 v7 f5 nb f0).bind (fun p2 => ((sp_ti_tagOf nf p1.1 v7 f4).bind (fun p3 => (if p3 = 3 then ((sp_t3_isArrayText nf p2 v1 v7 f4 f5 nb f0).bind (fun p5 => (if p5 = 0 then (some (p2, p1.2.1, p1.2.2)) else ((sp_ti_bad nf (p1.2.1 - 1) p1.2.2).bind (fun p6 => (some (p2, p1.2.1, p6))))))) else ((sp_ti_bad nf (p1.2.1 - 1) p1.2.2).bind (fun p4 => (some (p2, p1.2.1, p4)))))))))))
set_option maxHeartbeats 4000000 in
set_option maxRecDepth 100000 in
/-- ClassMill$Image.nextPlainClass -/
theorem t3_nextPlainClass (l : Launch) (dC : Nat → ClassId) (dI : Nat → Nat → Nat) (sz : Nat) (h0 : Nat) (qf0 : Nat) (v1 : Int32) (v2 : Int32) (v3 : Int32) (qf4 : Nat) (qf5 : Nat) (qf6 : Nat) (v7 : Int32) (v8 : Int32) (v9 : Int32) (v10 : Int32) (qf11 : Nat) (v12 : Int32) (qf13 : Nat) (cf0 : ClassId) (nb : Nat) (f0 : (Nat → Int32)) (cf5 : ClassId) (f5 : (Nat → Int32)) (cf4 : ClassId) (f4 : (Nat → Int32)) (nf : Nat) (r0 : Int32) (w2 : Int32) (w3 : Int32) (hsp : sp_t3_nextPlainClass nf v1 v2 v3 v7 nb f0 f5 f4 = some (r0, w2, w3)) : Met l yX3_nextPlainClass (.code yX3_nextPlainClass cX3_nextPlainClass 3 (some .int) :: VS_h3) ({ frames := 2, cells := 0, slots := 0, locals := 43 }) (va_Pc [.ref h0] (fun U => U.heap.size = sz ∧ va_P (dC, dI) vwCl [(h0, .inr (3, [.ref qf0, .int v1, .int v2, .int v3, .ref qf4, .ref qf5, .ref qf6, .int v7, .int v8, .int v9, .int v10, .ref qf11, .int v12, .ref qf13])), (qf0, .inl (cf0, nb, .inl f0)), (qf5, .inl (cf5, 256, .inl f5)), (qf4, .inl (cf4, 256, .inl f4))] U.heap ∧ va_K (dC, dI) vwCl [(cf0, .byte), (cf5, .int), (cf4, .int)] U ∧ va_D (fun _ => True) [(h0, .inr (3, [.ref qf0, .int v1, .int v2, .int v3, .ref qf4, .ref qf5, .ref qf6, .int v7, .int v8, .int v9, .int v10, .ref qf11, .int v12, .ref qf13])), (qf0, .inl (cf0, nb, .inl f0)), (qf5, .inl (cf5, 256, .inl f5)), (qf4, .inl (cf4, 256, .inl f4))])) (va_Qi (fun (r : Int32) (u : Unit) => match u with | () => r0 = r) (fun (u : Unit) (t : State) => match u with | () => va_P (dC, dI) vwCl [(h0, .inr (3, [.ref qf0, .int v1, .int w2, .int w3, .ref qf4, .ref qf5, .ref qf6, .int v7, .int v8, .int v9, .int v10, .ref qf11, .int v12, .ref qf13])), (qf0, .inl (cf0, nb, .inl f0)), (qf5, .inl (cf5, 256, .inl f5)), (qf4, .inl (cf4, 256, .inl f4))] t.heap ∧ va_K (dC, dI) vwCl [(cf0, .byte), (cf5, .int), (cf4, .int)] t ∧ va_D (va_A [(h0, .inr (3, [.ref qf0, .int v1, .int v2, .int v3, .ref qf4, .ref qf5, .ref qf6, .int v7, .int v8, .int v9, .int v10, .ref qf11, .int v12, .ref qf13])), (qf0, .inl (cf0, nb, .inl f0)), (qf5, .inl (cf5, 256, .inl f5)), (qf4, .inl (cf4, 256, .inl f4))] sz) [(h0, .inr (3, [.ref qf0, .int v1, .int w2, .int w3, .ref qf4, .ref qf5, .ref qf6, .int v7, .int v8, .int v9, .int v10, .ref qf11, .int v12, .ref qf13])), (qf0, .inl (cf0, nb, .inl f0)), (qf5, .inl (cf5, 256, .inl f5)), (qf4, .inl (cf4, 256, .inl f4))]) (va_A [(h0, .inr (3, [.ref qf0, .int v1, .int v2, .int v3, .ref qf4, .ref qf5, .ref qf6, .int v7, .int v8, .int v9, .int v10, .ref qf11, .int v12, .ref qf13])), (qf0, .inl (cf0, nb, .inl f0)), (qf5, .inl (cf5, 256, .inl f5)), (qf4, .inl (cf4, 256, .inl f4))] sz)) 0 0 (va_A [(h0, .inr (3, [.ref qf0, .int v1, .int v2, .int v3, .ref qf4, .ref qf5, .ref qf6, .int v7, .int v8, .int v9, .int v10, .ref qf11, .int v12, .ref qf13])), (qf0, .inl (cf0, nb, .inl f0)), (qf5, .inl (cf5, 256, .inl f5)), (qf4, .inl (cf4, 256, .inl f4))] sz) := by
  refine Met.ofW (cc := cX3_nextPlainClass) (maxL := 3) (ret := (some .int)) (by decide) rfl ?_
  intro p e s m args below meth c s₁ B hml hv
  obtain ⟨rfl, hsz, hP, hK, hD0⟩ := hv
  have hx := B.exec
  have hb := B.bytes
  have hr := B.returns
  have hts := atoms_spec (ws := (.code yX3_nextPlainClass cX3_nextPlainClass 3 (some .int) :: VS_h3)) B.pre
  replace hts := fun w (h : w ∈ VS_h3) => hts w (List.mem_cons_of_mem _ h)
  have hown : s.vm.findClass RX3 = some m.cls := findClass_of_methodNamed B.named
  have hlocks := B.notSynchronized
  subst hsz
  have hD := hD0.self (sz := s.heap.size)
  generalize hAe : va_A [(h0, .inr (3, [.ref qf0, .int v1, .int v2, .int v3, .ref qf4, .ref qf5, .ref qf6, .int v7, .int v8, .int v9, .int v10, .ref qf11, .int v12, .ref qf13])), (qf0, .inl (cf0, nb, .inl f0)), (qf5, .inl (cf5, 256, .inl f5)), (qf4, .inl (cf4, 256, .inl f4))] s.heap.size = A at hD  ⊢
  have hA : ∀ q : Nat, s.heap.size ≤ q → A q := fun q h => by rw [← hAe]; exact Or.inr h
  have hP : va_P (dC, dI) vwCl [(h0, .inr (3, [.ref qf0, .int v1, .int v2, .int v3, .ref qf4, .ref qf5, .ref qf6, .int v7, .int v8, .int v9, .int v10, .ref qf11, .int v12, .ref qf13])), (qf0, .inl (cf0, nb, .inl f0)), (qf5, .inl (cf5, 256, .inl f5)), (qf4, .inl (cf4, 256, .inl f4))] s.heap := hP
  have hl := lv_entry ([.ref h0]) (n := 3) (Nat.le_of_ble_eq_true rfl)
  rw [lg_entry_eq]
  generalize (lg_sl ([.ref h0]) ++ List.replicate (3 - (lg_sl ([.ref h0])).length) Slot.unset).toArray = ls at hl ⊢
  have hl : lv_has ls 3 [(0, .ref h0)] := hl
  obtain ⟨H, hH⟩ : ∃ H : Heap, s.heap = H := ⟨_, rfl⟩
  rw [hH] at hP ⊢
  have hS : va_S A s.heap H [] := by rw [← hH]; exact va_S.rf
  obtain ⟨locs, hlo⟩ : ∃ locs : List Loc, locs = [] := ⟨_, rfl⟩
  rw [← hlo] at hS ⊢
  unfold sp_t3_nextPlainClass at hsp
  refine lv_aload_n hx hb dX3_nextPlainClass_0 rfl (lv_at hl 0 rfl) ?_
  obtain ⟨⟨u1_0, u1_1, u1_2⟩, hu_1, hsp⟩ := ox_bind hsp
  try dsimp only at hsp
  have hPc := hP.sub (ws' := [(h0, .inr (3, [.ref qf0, .int v1, .int v2, .int v3, .ref qf4, .ref qf5, .ref qf6, .int v7, .int v8, .int v9, .int v10, .ref qf11, .int v12, .ref qf13])), (qf0, .inl (cf0, nb, .inl f0))]) [0, 1] rfl
  have hDc := hD.sub (ws' := [(h0, .inr (3, [.ref qf0, .int v1, .int v2, .int v3, .ref qf4, .ref qf5, .ref qf6, .int v7, .int v8, .int v9, .int v10, .ref qf11, .int v12, .ref qf13])), (qf0, .inl (cf0, nb, .inl f0))]) [0, 1] (by decide) rfl
  have hKc := hK.sub (tys' := [(cf0, .byte)]) [0] rfl
  have hFc := va_free (wc := [(h0, .inr (3, [.ref qf0, .int v1, .int v2, .int v3, .ref qf4, .ref qf5, .ref qf6, .int v7, .int v8, .int v9, .int v10, .ref qf11, .int v12, .ref qf13])), (qf0, .inl (cf0, nb, .inl f0))]) hD hS hA [0, 1] rfl
  refine va_calli (va_runV (As := []) (rest := []) ⟨hx, hb, hml, hown, hts⟩ (ti_next l dC dI H.size h0 qf0 v1 v2 v3 qf4 qf5 qf6 v7 v8 v9 v10 qf11 v12 qf13 cf0 nb f0 nf u1_0 u1_1 u1_2 hu_1) (cwV 0 hts gv_h3_2 rfl rfl rfl (by decide +kernel) ⟨Nat.le_of_ble_eq_true rfl, Nat.le_of_ble_eq_true rfl⟩) ⟨fun a U g mk q => by obtain ⟨q0, q1, qP, qK, qD⟩ := q; exact ⟨q0, q1, qP, va_K.moved (u := U) (U := U.calling g mk a) (Vm.Alike.refl U.vm) qK, qD⟩, va_recv hKc hPc (ci := 3) (q0 := 0) rfl rfl, fun U hU hW => ⟨rfl, by rw [hU], by rw [hU]; exact hPc, va_K.moved hW.alike hKc, hDc.weaken (fun _ _ _ _ => trivial)⟩⟩ rfl rfl hl.1 rfl (lv_room (Nat.le_of_ble_eq_true rfl)) dX3_nextPlainClass_1 ⟨Nat.le_of_ble_eq_true rfl, Nat.le_of_ble_eq_true rfl⟩) hS (fun q _ h => hFc q h) hFc ?_
  clear hS
  intro r_1 u t H1 locs ht hvm hw hB hz1 hk1 hS
  obtain ⟨⟩ := u
  obtain ⟨hP1, hK1, hD1⟩ := hB
  rw [ht] at hP1
  have hK1 := va_K.moved hvm.symm hK1
  try dsimp only at hw
  have hPD := va_join (wr := [(qf5, .inl (cf5, 256, .inl f5)), (qf4, .inl (cf4, 256, .inl f4))]) (w1 := [(h0, .inr (3, [.ref qf0, .int v1, .int u1_1, .int u1_2, .ref qf4, .ref qf5, .ref qf6, .int v7, .int v8, .int v9, .int v10, .ref qf11, .int v12, .ref qf13])), (qf0, .inl (cf0, nb, .inl f0))]) hP hD [0, 1] [2, 3] rfl rfl (by decide) (by decide) hk1 hFc hP1 hD1
  clear hP hD
  obtain ⟨hP, hD⟩ := hPD
  replace hK := (hK.sub (tys' := [(cf5, .int), (cf4, .int)]) [1, 2] rfl).app hK1
  clear hPc hDc hKc hFc hP1 hK1 hD1 hz1 hk1 ht hvm
  generalize H1 = H at hP hS ⊢
  replace hP : va_P (dC, dI) vwCl [(qf5, .inl (cf5, 256, .inl f5)), (qf4, .inl (cf4, 256, .inl f4)), (h0, .inr (3, [.ref qf0, .int v1, .int u1_1, .int u1_2, .ref qf4, .ref qf5, .ref qf6, .int v7, .int v8, .int v9, .int v10, .ref qf11, .int v12, .ref qf13])), (qf0, .inl (cf0, nb, .inl f0))] H := hP
  replace hD : va_D A [(qf5, .inl (cf5, 256, .inl f5)), (qf4, .inl (cf4, 256, .inl f4)), (h0, .inr (3, [.ref qf0, .int v1, .int u1_1, .int u1_2, .ref qf4, .ref qf5, .ref qf6, .int v7, .int v8, .int v9, .int v10, .ref qf11, .int v12, .ref qf13])), (qf0, .inl (cf0, nb, .inl f0))] := hD
  replace hK : va_K (dC, dI) vwCl [(cf5, .int), (cf4, .int), (cf0, .byte)] s := hK
  obtain rfl := hw
  refine lv_istore_n (lv' := [(1, .int u1_0), (0, .ref h0)]) hx hb dX3_nextPlainClass_4 rfl hl (by decide) rfl (fun ls hl => ?_)
  refine lv_aload_n hx hb dX3_nextPlainClass_5 rfl (lv_at hl 1 rfl) ?_
  refine lv_iload_n hx hb dX3_nextPlainClass_6 rfl (lv_at hl 0 rfl) ?_
  refine lv_iconst (v := 0) hx hb dX3_nextPlainClass_7 (by decide) ?_
  obtain ⟨u2_0, hu_2, hsp⟩ := ox_bind hsp
  try dsimp only at hsp
  have hPc := hP.sub (ws' := [(h0, .inr (3, [.ref qf0, .int v1, .int u1_1, .int u1_2, .ref qf4, .ref qf5, .ref qf6, .int v7, .int v8, .int v9, .int v10, .ref qf11, .int v12, .ref qf13])), (qf5, .inl (cf5, 256, .inl f5)), (qf0, .inl (cf0, nb, .inl f0))]) [2, 0, 3] rfl
  have hDc := hD.sub (ws' := [(h0, .inr (3, [.ref qf0, .int v1, .int u1_1, .int u1_2, .ref qf4, .ref qf5, .ref qf6, .int v7, .int v8, .int v9, .int v10, .ref qf11, .int v12, .ref qf13])), (qf5, .inl (cf5, 256, .inl f5)), (qf0, .inl (cf0, nb, .inl f0))]) [2, 0, 3] (by decide) rfl
  have hKc := hK.sub (tys' := [(cf5, .int), (cf0, .byte)]) [0, 2] rfl
  have hFc := va_free (wc := [(h0, .inr (3, [.ref qf0, .int v1, .int u1_1, .int u1_2, .ref qf4, .ref qf5, .ref qf6, .int v7, .int v8, .int v9, .int v10, .ref qf11, .int v12, .ref qf13])), (qf5, .inl (cf5, 256, .inl f5)), (qf0, .inl (cf0, nb, .inl f0))]) hD hS hA [2, 0, 3] rfl
  refine va_calli (va_runV (As := [.int u1_0, .int 0]) (rest := []) ⟨hx, hb, hml, hown, hts⟩ (ti_partOf l dC dI H.size h0 u1_0 0 qf0 v1 u1_1 u1_2 qf4 qf5 qf6 v7 v8 v9 v10 qf11 v12 qf13 cf5 f5 cf0 nb f0 nf u2_0 hu_2) (cwV 2 hts gv_h3_3 rfl rfl rfl (by decide +kernel) ⟨Nat.le_of_ble_eq_true rfl, Nat.le_of_ble_eq_true rfl⟩) ⟨fun a U g mk q => by obtain ⟨q0, q1, qP, qK, qD⟩ := q; exact ⟨q0, q1, qP, va_K.moved (u := U) (U := U.calling g mk a) (Vm.Alike.refl U.vm) qK, qD⟩, va_recv hKc hPc (ci := 3) (q0 := 0) rfl rfl, fun U hU hW => ⟨rfl, by rw [hU], by rw [hU]; exact hPc, va_K.moved hW.alike hKc, hDc.weaken (fun _ _ _ _ => trivial)⟩⟩ rfl rfl hl.1 rfl (lv_room (Nat.le_of_ble_eq_true rfl)) dX3_nextPlainClass_8 ⟨Nat.le_of_ble_eq_true rfl, Nat.le_of_ble_eq_true rfl⟩) hS (fun q _ h => hFc q h) hFc ?_
  clear hS
  intro r_2 u t H1 locs ht hvm hw hB hz1 hk1 hS
  obtain ⟨⟩ := u
  obtain ⟨hP1, hK1, hD1⟩ := hB
  rw [ht] at hP1
  have hK1 := va_K.moved hvm.symm hK1
  try dsimp only at hw
  have hPD := va_join (wr := [(qf4, .inl (cf4, 256, .inl f4))]) (w1 := [(h0, .inr (3, [.ref qf0, .int v1, .int u1_1, .int u1_2, .ref qf4, .ref qf5, .ref qf6, .int v7, .int v8, .int v9, .int v10, .ref qf11, .int v12, .ref qf13])), (qf5, .inl (cf5, 256, .inl f5)), (qf0, .inl (cf0, nb, .inl f0))]) hP hD [2, 0, 3] [1] rfl rfl (by decide) (by decide) hk1 hFc hP1 hD1
  clear hP hD
  obtain ⟨hP, hD⟩ := hPD
  replace hK := (hK.sub (tys' := [(cf4, .int)]) [1] rfl).app hK1
  clear hPc hDc hKc hFc hP1 hK1 hD1 hz1 hk1 ht hvm
  generalize H1 = H at hP hS ⊢
  replace hP : va_P (dC, dI) vwCl [(qf4, .inl (cf4, 256, .inl f4)), (h0, .inr (3, [.ref qf0, .int v1, .int u1_1, .int u1_2, .ref qf4, .ref qf5, .ref qf6, .int v7, .int v8, .int v9, .int v10, .ref qf11, .int v12, .ref qf13])), (qf5, .inl (cf5, 256, .inl f5)), (qf0, .inl (cf0, nb, .inl f0))] H := hP
  replace hD : va_D A [(qf4, .inl (cf4, 256, .inl f4)), (h0, .inr (3, [.ref qf0, .int v1, .int u1_1, .int u1_2, .ref qf4, .ref qf5, .ref qf6, .int v7, .int v8, .int v9, .int v10, .ref qf11, .int v12, .ref qf13])), (qf5, .inl (cf5, 256, .inl f5)), (qf0, .inl (cf0, nb, .inl f0))] := hD
  replace hK : va_K (dC, dI) vwCl [(cf4, .int), (cf5, .int), (cf0, .byte)] s := hK
  obtain rfl := hw
  refine lv_istore_n (lv' := [(2, .int u2_0), (1, .int u1_0), (0, .ref h0)]) hx hb dX3_nextPlainClass_11 rfl hl (by decide) rfl (fun ls hl => ?_)
  refine lv_aload_n hx hb dX3_nextPlainClass_12 rfl (lv_at hl 2 rfl) ?_
  refine lv_iload_n hx hb dX3_nextPlainClass_13 rfl (lv_at hl 1 rfl) ?_
  obtain ⟨u3_0, hu_3, hsp⟩ := ox_bind hsp
  try dsimp only at hsp
  have hPc := hP.sub (ws' := [(h0, .inr (3, [.ref qf0, .int v1, .int u1_1, .int u1_2, .ref qf4, .ref qf5, .ref qf6, .int v7, .int v8, .int v9, .int v10, .ref qf11, .int v12, .ref qf13])), (qf4, .inl (cf4, 256, .inl f4))]) [1, 0] rfl
  have hDc := hD.sub (ws' := [(h0, .inr (3, [.ref qf0, .int v1, .int u1_1, .int u1_2, .ref qf4, .ref qf5, .ref qf6, .int v7, .int v8, .int v9, .int v10, .ref qf11, .int v12, .ref qf13])), (qf4, .inl (cf4, 256, .inl f4))]) [1, 0] (by decide) rfl
  have hKc := hK.sub (tys' := [(cf4, .int)]) [0] rfl
  have hFc := va_free (wc := [(h0, .inr (3, [.ref qf0, .int v1, .int u1_1, .int u1_2, .ref qf4, .ref qf5, .ref qf6, .int v7, .int v8, .int v9, .int v10, .ref qf11, .int v12, .ref qf13])), (qf4, .inl (cf4, 256, .inl f4))]) hD hS hA [1, 0] rfl
  refine va_calli (va_runV (As := [.int u1_0]) (rest := []) ⟨hx, hb, hml, hown, hts⟩ (ti_tagOf l dC dI H.size h0 u1_0 qf0 v1 u1_1 u1_2 qf4 qf5 qf6 v7 v8 v9 v10 qf11 v12 qf13 cf4 f4 nf u3_0 hu_3) (cwV 1 hts gv_h3_4 rfl rfl rfl (by decide +kernel) ⟨Nat.le_of_ble_eq_true rfl, Nat.le_of_ble_eq_true rfl⟩) ⟨fun a U g mk q => by obtain ⟨q0, q1, qP, qK, qD⟩ := q; exact ⟨q0, q1, qP, va_K.moved (u := U) (U := U.calling g mk a) (Vm.Alike.refl U.vm) qK, qD⟩, va_recv hKc hPc (ci := 3) (q0 := 0) rfl rfl, fun U hU hW => ⟨rfl, by rw [hU], by rw [hU]; exact hPc, va_K.moved hW.alike hKc, hDc.weaken (fun _ _ _ _ => trivial)⟩⟩ rfl rfl hl.1 rfl (lv_room (Nat.le_of_ble_eq_true rfl)) dX3_nextPlainClass_14 ⟨Nat.le_of_ble_eq_true rfl, Nat.le_of_ble_eq_true rfl⟩) hS (fun q _ h => hFc q h) hFc ?_
  clear hS
  intro r_3 u t H1 locs ht hvm hw hB hz1 hk1 hS
  obtain ⟨⟩ := u
  obtain ⟨hP1, hK1, hD1⟩ := hB
  rw [ht] at hP1
  have hK1 := va_K.moved hvm.symm hK1
  try dsimp only at hw
  have hPD := va_join (wr := [(qf5, .inl (cf5, 256, .inl f5)), (qf0, .inl (cf0, nb, .inl f0))]) (w1 := [(h0, .inr (3, [.ref qf0, .int v1, .int u1_1, .int u1_2, .ref qf4, .ref qf5, .ref qf6, .int v7, .int v8, .int v9, .int v10, .ref qf11, .int v12, .ref qf13])), (qf4, .inl (cf4, 256, .inl f4))]) hP hD [1, 0] [2, 3] rfl rfl (by decide) (by decide) hk1 hFc hP1 hD1
  clear hP hD
  obtain ⟨hP, hD⟩ := hPD
  replace hK := (hK.sub (tys' := [(cf5, .int), (cf0, .byte)]) [1, 2] rfl).app hK1
  clear hPc hDc hKc hFc hP1 hK1 hD1 hz1 hk1 ht hvm
  generalize H1 = H at hP hS ⊢
  replace hP : va_P (dC, dI) vwCl [(qf5, .inl (cf5, 256, .inl f5)), (qf0, .inl (cf0, nb, .inl f0)), (h0, .inr (3, [.ref qf0, .int v1, .int u1_1, .int u1_2, .ref qf4, .ref qf5, .ref qf6, .int v7, .int v8, .int v9, .int v10, .ref qf11, .int v12, .ref qf13])), (qf4, .inl (cf4, 256, .inl f4))] H := hP
  replace hD : va_D A [(qf5, .inl (cf5, 256, .inl f5)), (qf0, .inl (cf0, nb, .inl f0)), (h0, .inr (3, [.ref qf0, .int v1, .int u1_1, .int u1_2, .ref qf4, .ref qf5, .ref qf6, .int v7, .int v8, .int v9, .int v10, .ref qf11, .int v12, .ref qf13])), (qf4, .inl (cf4, 256, .inl f4))] := hD
  replace hK : va_K (dC, dI) vwCl [(cf5, .int), (cf0, .byte), (cf4, .int)] s := hK
  obtain rfl := hw
  refine lv_iconst (v := 3) hx hb dX3_nextPlainClass_17 (by decide) ?_
  refine lv_icmp_ne (tgt := 29) hx hb dX3_nextPlainClass_18 (by decide) (fun c_4 => ?_) (fun c_4 => ?_)
  · rw [if_neg c_4] at hsp
    refine lv_aload_n hx hb dX3_nextPlainClass_29 rfl (lv_at hl 2 rfl) ?_
    refine lv_aload_n hx hb dX3_nextPlainClass_30 rfl (lv_at hl 2 rfl) ?_
    refine va_get (D := (dC, dI)) (ci := 3) (v := .int u1_1) (C := RX3) (T := TX3) (N := 14) hx hb hts uV_h3_X3 hown hK hP 2 rfl rfl 2 (by decide) (hts (.fieldLink RX3 43 "ClassMill$Image" "pos" "I") mw_h3_47) (fun _ h9 => h9) rfl dX3_nextPlainClass_31 ?_
    refine lv_iconst (v := 1) hx hb dX3_nextPlainClass_34 (by decide) ?_
    refine lv_isub hx hb dX3_nextPlainClass_35 ?_
    obtain ⟨u4_0, hu_4, hsp⟩ := ox_bind hsp
    try dsimp only at hsp
    have hPc := hP.sub (ws' := [(h0, .inr (3, [.ref qf0, .int v1, .int u1_1, .int u1_2, .ref qf4, .ref qf5, .ref qf6, .int v7, .int v8, .int v9, .int v10, .ref qf11, .int v12, .ref qf13]))]) [2] rfl
    have hDc := hD.sub (ws' := [(h0, .inr (3, [.ref qf0, .int v1, .int u1_1, .int u1_2, .ref qf4, .ref qf5, .ref qf6, .int v7, .int v8, .int v9, .int v10, .ref qf11, .int v12, .ref qf13]))]) [2] (by decide) rfl
    have hKc := hK.sub (tys' := []) [] rfl
    have hFc := va_free (wc := [(h0, .inr (3, [.ref qf0, .int v1, .int u1_1, .int u1_2, .ref qf4, .ref qf5, .ref qf6, .int v7, .int v8, .int v9, .int v10, .ref qf11, .int v12, .ref qf13]))]) hD hS hA [2] rfl
    refine va_callv (va_runV (As := [.int (u1_1 - 1)]) (rest := []) ⟨hx, hb, hml, hown, hts⟩ (ti_bad l dC dI H.size h0 ((u1_1 - 1)) qf0 v1 u1_1 u1_2 qf4 qf5 qf6 v7 v8 v9 v10 qf11 v12 qf13 nf u4_0 hu_4) (cwV 1 hts gv_h3_9 rfl rfl rfl (by decide +kernel) ⟨Nat.le_of_ble_eq_true rfl, Nat.le_of_ble_eq_true rfl⟩) ⟨fun a U g mk q => by obtain ⟨q0, q1, qP, qK, qD⟩ := q; exact ⟨q0, q1, qP, va_K.moved (u := U) (U := U.calling g mk a) (Vm.Alike.refl U.vm) qK, qD⟩, va_recv hKc hPc (ci := 3) (q0 := 0) rfl rfl, fun U hU hW => ⟨rfl, by rw [hU], by rw [hU]; exact hPc, va_K.moved hW.alike hKc, hDc.weaken (fun _ _ _ _ => trivial)⟩⟩ rfl rfl hl.1 rfl (lv_room (Nat.le_of_ble_eq_true rfl)) dX3_nextPlainClass_36 ⟨Nat.le_of_ble_eq_true rfl, Nat.le_of_ble_eq_true rfl⟩) hS (fun q _ h => hFc q h) hFc ?_
    clear hS
    intro u t H1 locs ht hvm hw hB hz1 hk1 hS
    obtain ⟨⟩ := u
    obtain ⟨hP1, hK1, hD1⟩ := hB
    rw [ht] at hP1
    have hK1 := va_K.moved hvm.symm hK1
    try dsimp only at hw
    have hPD := va_join (wr := [(qf5, .inl (cf5, 256, .inl f5)), (qf0, .inl (cf0, nb, .inl f0)), (qf4, .inl (cf4, 256, .inl f4))]) (w1 := [(h0, .inr (3, [.ref qf0, .int v1, .int u1_1, .int u4_0, .ref qf4, .ref qf5, .ref qf6, .int v7, .int v8, .int v9, .int v10, .ref qf11, .int v12, .ref qf13]))]) hP hD [2] [0, 1, 3] rfl rfl (by decide) (by decide) hk1 hFc hP1 hD1
    clear hP hD
    obtain ⟨hP, hD⟩ := hPD
    replace hK := (hK.sub (tys' := [(cf5, .int), (cf0, .byte), (cf4, .int)]) [0, 1, 2] rfl).app hK1
    clear hPc hDc hKc hFc hP1 hK1 hD1 hz1 hk1 ht hvm
    generalize H1 = H at hP hS ⊢
    replace hP : va_P (dC, dI) vwCl [(qf5, .inl (cf5, 256, .inl f5)), (qf0, .inl (cf0, nb, .inl f0)), (qf4, .inl (cf4, 256, .inl f4)), (h0, .inr (3, [.ref qf0, .int v1, .int u1_1, .int u4_0, .ref qf4, .ref qf5, .ref qf6, .int v7, .int v8, .int v9, .int v10, .ref qf11, .int v12, .ref qf13]))] H := hP
    replace hD : va_D A [(qf5, .inl (cf5, 256, .inl f5)), (qf0, .inl (cf0, nb, .inl f0)), (qf4, .inl (cf4, 256, .inl f4)), (h0, .inr (3, [.ref qf0, .int v1, .int u1_1, .int u4_0, .ref qf4, .ref qf5, .ref qf6, .int v7, .int v8, .int v9, .int v10, .ref qf11, .int v12, .ref qf13]))] := hD
    replace hK : va_K (dC, dI) vwCl [(cf5, .int), (cf0, .byte), (cf4, .int)] s := hK
    refine lv_iload_n hx hb dX3_nextPlainClass_39 rfl (lv_at hl 0 rfl) ?_
    have hr0 := Option.some.inj hsp
    clear hsp
    obtain ⟨hq0, hr1⟩ := Prod.mk.inj hr0
    clear hr0
    obtain ⟨hq1, hr2⟩ := Prod.mk.inj hr1
    clear hr1
    subst hq0
    subst hq1
    subst hr2
    have hP9 := hP.sub (ws' := [(h0, .inr (3, [.ref qf0, .int v1, .int u1_1, .int u4_0, .ref qf4, .ref qf5, .ref qf6, .int v7, .int v8, .int v9, .int v10, .ref qf11, .int v12, .ref qf13])), (qf0, .inl (cf0, nb, .inl f0)), (qf5, .inl (cf5, 256, .inl f5)), (qf4, .inl (cf4, 256, .inl f4))]) [3, 1, 0, 2] rfl
    have hD9 := hD.sub (ws' := [(h0, .inr (3, [.ref qf0, .int v1, .int u1_1, .int u4_0, .ref qf4, .ref qf5, .ref qf6, .int v7, .int v8, .int v9, .int v10, .ref qf11, .int v12, .ref qf13])), (qf0, .inl (cf0, nb, .inl f0)), (qf5, .inl (cf5, 256, .inl f5)), (qf4, .inl (cf4, 256, .inl f4))]) [3, 1, 0, 2] (by decide) rfl
    have hK9 := hK.sub (tys' := [(cf0, .byte), (cf5, .int), (cf4, .int)]) [1, 0, 2] rfl
    exact W.iret hx hb hr (fun t ht hW => ⟨⟨(u2_0), (), rfl, rfl, by rw [ht]; exact hP9, va_K.moved hW.alike hK9, hD9⟩, hS.F ht⟩) hS.2.2 dX3_nextPlainClass_40
  · rw [if_pos c_4] at hsp
    refine lv_aload_n hx hb dX3_nextPlainClass_21 rfl (lv_at hl 2 rfl) ?_
    refine lv_iload_n hx hb dX3_nextPlainClass_22 rfl (lv_at hl 0 rfl) ?_
    obtain ⟨u5_0, hu_5, hsp⟩ := ox_bind hsp
    try dsimp only at hsp
    have hPc := hP.sub (ws' := [(h0, .inr (3, [.ref qf0, .int v1, .int u1_1, .int u1_2, .ref qf4, .ref qf5, .ref qf6, .int v7, .int v8, .int v9, .int v10, .ref qf11, .int v12, .ref qf13])), (qf4, .inl (cf4, 256, .inl f4)), (qf5, .inl (cf5, 256, .inl f5)), (qf0, .inl (cf0, nb, .inl f0))]) [2, 3, 0, 1] rfl
    have hDc := hD.sub (ws' := [(h0, .inr (3, [.ref qf0, .int v1, .int u1_1, .int u1_2, .ref qf4, .ref qf5, .ref qf6, .int v7, .int v8, .int v9, .int v10, .ref qf11, .int v12, .ref qf13])), (qf4, .inl (cf4, 256, .inl f4)), (qf5, .inl (cf5, 256, .inl f5)), (qf0, .inl (cf0, nb, .inl f0))]) [2, 3, 0, 1] (by decide) rfl
    have hKc := hK.sub (tys' := [(cf4, .int), (cf5, .int), (cf0, .byte)]) [2, 0, 1] rfl
    have hFc := va_free (wc := [(h0, .inr (3, [.ref qf0, .int v1, .int u1_1, .int u1_2, .ref qf4, .ref qf5, .ref qf6, .int v7, .int v8, .int v9, .int v10, .ref qf11, .int v12, .ref qf13])), (qf4, .inl (cf4, 256, .inl f4)), (qf5, .inl (cf5, 256, .inl f5)), (qf0, .inl (cf0, nb, .inl f0))]) hD hS hA [2, 3, 0, 1] rfl
    refine va_calli (va_runV (As := [.int u2_0]) (rest := []) ⟨hx, hb, hml, hown, hts⟩ (t3_isArrayText l dC dI H.size h0 u2_0 qf0 v1 u1_1 u1_2 qf4 qf5 qf6 v7 v8 v9 v10 qf11 v12 qf13 cf4 f4 cf5 f5 cf0 nb f0 nf u5_0 hu_5) (cwV 1 hts gv_h3_10 rfl rfl rfl (by decide +kernel) ⟨Nat.le_of_ble_eq_true rfl, Nat.le_of_ble_eq_true rfl⟩) ⟨fun a U g mk q => by obtain ⟨q0, q1, qP, qK, qD⟩ := q; exact ⟨q0, q1, qP, va_K.moved (u := U) (U := U.calling g mk a) (Vm.Alike.refl U.vm) qK, qD⟩, va_recv hKc hPc (ci := 3) (q0 := 0) rfl rfl, fun U hU hW => ⟨rfl, by rw [hU], by rw [hU]; exact hPc, va_K.moved hW.alike hKc, hDc.weaken (fun _ _ _ _ => trivial)⟩⟩ rfl rfl hl.1 rfl (lv_room (Nat.le_of_ble_eq_true rfl)) dX3_nextPlainClass_23 ⟨Nat.le_of_ble_eq_true rfl, Nat.le_of_ble_eq_true rfl⟩) hS (fun q _ h => hFc q h) hFc ?_
    clear hS
    intro r_5 u t H1 locs ht hvm hw hB hz1 hk1 hS
    obtain ⟨⟩ := u
    obtain ⟨hP1, hK1, hD1⟩ := hB
    rw [ht] at hP1
    have hK1 := va_K.moved hvm.symm hK1
    try dsimp only at hw
    have hPD := va_join (wr := []) (w1 := [(h0, .inr (3, [.ref qf0, .int v1, .int u1_1, .int u1_2, .ref qf4, .ref qf5, .ref qf6, .int v7, .int v8, .int v9, .int v10, .ref qf11, .int v12, .ref qf13])), (qf4, .inl (cf4, 256, .inl f4)), (qf5, .inl (cf5, 256, .inl f5)), (qf0, .inl (cf0, nb, .inl f0))]) hP hD [2, 3, 0, 1] [] rfl rfl (by decide) (by decide) hk1 hFc hP1 hD1
    clear hP hD
    obtain ⟨hP, hD⟩ := hPD
    replace hK := (hK.sub (tys' := []) [] rfl).app hK1
    clear hPc hDc hKc hFc hP1 hK1 hD1 hz1 hk1 ht hvm
    generalize H1 = H at hP hS ⊢
    replace hP : va_P (dC, dI) vwCl [(h0, .inr (3, [.ref qf0, .int v1, .int u1_1, .int u1_2, .ref qf4, .ref qf5, .ref qf6, .int v7, .int v8, .int v9, .int v10, .ref qf11, .int v12, .ref qf13])), (qf4, .inl (cf4, 256, .inl f4)), (qf5, .inl (cf5, 256, .inl f5)), (qf0, .inl (cf0, nb, .inl f0))] H := hP
    replace hD : va_D A [(h0, .inr (3, [.ref qf0, .int v1, .int u1_1, .int u1_2, .ref qf4, .ref qf5, .ref qf6, .int v7, .int v8, .int v9, .int v10, .ref qf11, .int v12, .ref qf13])), (qf4, .inl (cf4, 256, .inl f4)), (qf5, .inl (cf5, 256, .inl f5)), (qf0, .inl (cf0, nb, .inl f0))] := hD
    replace hK : va_K (dC, dI) vwCl [(cf4, .int), (cf5, .int), (cf0, .byte)] s := hK
    obtain ⟨rfl, hz_5⟩ := hw
    rcases hz_5 with rfl | rfl
    · rw [if_pos rfl] at hsp
      refine lv_if_eq (tgt := 39) hx hb dX3_nextPlainClass_26 (by decide) (fun c_6 => ?_) (fun c_6 => (show False by revert c_6; decide).elim)
      refine lv_iload_n hx hb dX3_nextPlainClass_39 rfl (lv_at hl 0 rfl) ?_
      have hr0 := Option.some.inj hsp
      clear hsp
      obtain ⟨hq0, hr1⟩ := Prod.mk.inj hr0
      clear hr0
      obtain ⟨hq1, hr2⟩ := Prod.mk.inj hr1
      clear hr1
      subst hq0
      subst hq1
      subst hr2
      have hP9 := hP.sub (ws' := [(h0, .inr (3, [.ref qf0, .int v1, .int u1_1, .int u1_2, .ref qf4, .ref qf5, .ref qf6, .int v7, .int v8, .int v9, .int v10, .ref qf11, .int v12, .ref qf13])), (qf0, .inl (cf0, nb, .inl f0)), (qf5, .inl (cf5, 256, .inl f5)), (qf4, .inl (cf4, 256, .inl f4))]) [0, 3, 2, 1] rfl
      have hD9 := hD.sub (ws' := [(h0, .inr (3, [.ref qf0, .int v1, .int u1_1, .int u1_2, .ref qf4, .ref qf5, .ref qf6, .int v7, .int v8, .int v9, .int v10, .ref qf11, .int v12, .ref qf13])), (qf0, .inl (cf0, nb, .inl f0)), (qf5, .inl (cf5, 256, .inl f5)), (qf4, .inl (cf4, 256, .inl f4))]) [0, 3, 2, 1] (by decide) rfl
      have hK9 := hK.sub (tys' := [(cf0, .byte), (cf5, .int), (cf4, .int)]) [2, 1, 0] rfl
      exact W.iret hx hb hr (fun t ht hW => ⟨⟨(u2_0), (), rfl, rfl, by rw [ht]; exact hP9, va_K.moved hW.alike hK9, hD9⟩, hS.F ht⟩) hS.2.2 dX3_nextPlainClass_40
    · rw [if_neg (by decide)] at hsp
      refine lv_if_eq (tgt := 39) hx hb dX3_nextPlainClass_26 (by decide) (fun c_7 => (show False by revert c_7; decide).elim) (fun c_7 => ?_)
      refine lv_aload_n hx hb dX3_nextPlainClass_29 rfl (lv_at hl 2 rfl) ?_
      refine lv_aload_n hx hb dX3_nextPlainClass_30 rfl (lv_at hl 2 rfl) ?_
      refine va_get (D := (dC, dI)) (ci := 3) (v := .int u1_1) (C := RX3) (T := TX3) (N := 14) hx hb hts uV_h3_X3 hown hK hP 0 rfl rfl 2 (by decide) (hts (.fieldLink RX3 43 "ClassMill$Image" "pos" "I") mw_h3_47) (fun _ h9 => h9) rfl dX3_nextPlainClass_31 ?_
      refine lv_iconst (v := 1) hx hb dX3_nextPlainClass_34 (by decide) ?_
      refine lv_isub hx hb dX3_nextPlainClass_35 ?_
      obtain ⟨u6_0, hu_6, hsp⟩ := ox_bind hsp
      try dsimp only at hsp
      have hPc := hP.sub (ws' := [(h0, .inr (3, [.ref qf0, .int v1, .int u1_1, .int u1_2, .ref qf4, .ref qf5, .ref qf6, .int v7, .int v8, .int v9, .int v10, .ref qf11, .int v12, .ref qf13]))]) [0] rfl
      have hDc := hD.sub (ws' := [(h0, .inr (3, [.ref qf0, .int v1, .int u1_1, .int u1_2, .ref qf4, .ref qf5, .ref qf6, .int v7, .int v8, .int v9, .int v10, .ref qf11, .int v12, .ref qf13]))]) [0] (by decide) rfl
      have hKc := hK.sub (tys' := []) [] rfl
      have hFc := va_free (wc := [(h0, .inr (3, [.ref qf0, .int v1, .int u1_1, .int u1_2, .ref qf4, .ref qf5, .ref qf6, .int v7, .int v8, .int v9, .int v10, .ref qf11, .int v12, .ref qf13]))]) hD hS hA [0] rfl
      refine va_callv (va_runV (As := [.int (u1_1 - 1)]) (rest := []) ⟨hx, hb, hml, hown, hts⟩ (ti_bad l dC dI H.size h0 ((u1_1 - 1)) qf0 v1 u1_1 u1_2 qf4 qf5 qf6 v7 v8 v9 v10 qf11 v12 qf13 nf u6_0 hu_6) (cwV 1 hts gv_h3_9 rfl rfl rfl (by decide +kernel) ⟨Nat.le_of_ble_eq_true rfl, Nat.le_of_ble_eq_true rfl⟩) ⟨fun a U g mk q => by obtain ⟨q0, q1, qP, qK, qD⟩ := q; exact ⟨q0, q1, qP, va_K.moved (u := U) (U := U.calling g mk a) (Vm.Alike.refl U.vm) qK, qD⟩, va_recv hKc hPc (ci := 3) (q0 := 0) rfl rfl, fun U hU hW => ⟨rfl, by rw [hU], by rw [hU]; exact hPc, va_K.moved hW.alike hKc, hDc.weaken (fun _ _ _ _ => trivial)⟩⟩ rfl rfl hl.1 rfl (lv_room (Nat.le_of_ble_eq_true rfl)) dX3_nextPlainClass_36 ⟨Nat.le_of_ble_eq_true rfl, Nat.le_of_ble_eq_true rfl⟩) hS (fun q _ h => hFc q h) hFc ?_
      clear hS
      intro u t H1 locs ht hvm hw hB hz1 hk1 hS
      obtain ⟨⟩ := u
      obtain ⟨hP1, hK1, hD1⟩ := hB
      rw [ht] at hP1
      have hK1 := va_K.moved hvm.symm hK1
      try dsimp only at hw
      have hPD := va_join (wr := [(qf4, .inl (cf4, 256, .inl f4)), (qf5, .inl (cf5, 256, .inl f5)), (qf0, .inl (cf0, nb, .inl f0))]) (w1 := [(h0, .inr (3, [.ref qf0, .int v1, .int u1_1, .int u6_0, .ref qf4, .ref qf5, .ref qf6, .int v7, .int v8, .int v9, .int v10, .ref qf11, .int v12, .ref qf13]))]) hP hD [0] [1, 2, 3] rfl rfl (by decide) (by decide) hk1 hFc hP1 hD1
      clear hP hD
      obtain ⟨hP, hD⟩ := hPD
      replace hK := (hK.sub (tys' := [(cf4, .int), (cf5, .int), (cf0, .byte)]) [0, 1, 2] rfl).app hK1
      clear hPc hDc hKc hFc hP1 hK1 hD1 hz1 hk1 ht hvm
      generalize H1 = H at hP hS ⊢
      replace hP : va_P (dC, dI) vwCl [(qf4, .inl (cf4, 256, .inl f4)), (qf5, .inl (cf5, 256, .inl f5)), (qf0, .inl (cf0, nb, .inl f0)), (h0, .inr (3, [.ref qf0, .int v1, .int u1_1, .int u6_0, .ref qf4, .ref qf5, .ref qf6, .int v7, .int v8, .int v9, .int v10, .ref qf11, .int v12, .ref qf13]))] H := hP
      replace hD : va_D A [(qf4, .inl (cf4, 256, .inl f4)), (qf5, .inl (cf5, 256, .inl f5)), (qf0, .inl (cf0, nb, .inl f0)), (h0, .inr (3, [.ref qf0, .int v1, .int u1_1, .int u6_0, .ref qf4, .ref qf5, .ref qf6, .int v7, .int v8, .int v9, .int v10, .ref qf11, .int v12, .ref qf13]))] := hD
      replace hK : va_K (dC, dI) vwCl [(cf4, .int), (cf5, .int), (cf0, .byte)] s := hK
      refine lv_iload_n hx hb dX3_nextPlainClass_39 rfl (lv_at hl 0 rfl) ?_
      have hr0 := Option.some.inj hsp
      clear hsp
      obtain ⟨hq0, hr1⟩ := Prod.mk.inj hr0
      clear hr0
      obtain ⟨hq1, hr2⟩ := Prod.mk.inj hr1
      clear hr1
      subst hq0
      subst hq1
      subst hr2
      have hP9 := hP.sub (ws' := [(h0, .inr (3, [.ref qf0, .int v1, .int u1_1, .int u6_0, .ref qf4, .ref qf5, .ref qf6, .int v7, .int v8, .int v9, .int v10, .ref qf11, .int v12, .ref qf13])), (qf0, .inl (cf0, nb, .inl f0)), (qf5, .inl (cf5, 256, .inl f5)), (qf4, .inl (cf4, 256, .inl f4))]) [3, 2, 1, 0] rfl
      have hD9 := hD.sub (ws' := [(h0, .inr (3, [.ref qf0, .int v1, .int u1_1, .int u6_0, .ref qf4, .ref qf5, .ref qf6, .int v7, .int v8, .int v9, .int v10, .ref qf11, .int v12, .ref qf13])), (qf0, .inl (cf0, nb, .inl f0)), (qf5, .inl (cf5, 256, .inl f5)), (qf4, .inl (cf4, 256, .inl f4))]) [3, 2, 1, 0] (by decide) rfl
      have hK9 := hK.sub (tys' := [(cf0, .byte), (cf5, .int), (cf4, .int)]) [2, 1, 0] rfl
      exact W.iret hx hb hr (fun t ht hW => ⟨⟨(u2_0), (), rfl, rfl, by rw [ht]; exact hP9, va_K.moved hW.alike hK9, hD9⟩, hS.F ht⟩) hS.2.2 dX3_nextPlainClass_40
def sp_t3_readCode (nf : Nat) (a1 : Int32) (v1 : Int32) (v2 : Int32) (v3 : Int32) (nb : Nat) (f0 : Nat → Int32) (f13 : Nat → Int32) : Option ((Nat → Int32) × Int32 × Int32) := ((sp_ti_next nf v1 v2 v3 nb f0).bind (fun p1 => ((sp_ti_next nf v1 p1.2.1 p1.2.2 nb f0).bind (fun p2 => (if ((p1.1 <<< (8 &&& 31)) ||| p2.1) < 1 then ((sp_ti_bad nf v2 p2.2.2).bind (fun p3 => (if (a1 + 5) < 0 then none else if 144 ≤ ((a1 + 5) : Int32).toNatClampNeg then none else (if (a1 + 6) < 0 then none else if 144 ≤ ((a1 + 6) : Int32).toNatClampNeg then none else (if (p2.2.1 + ((p1.1 <<< (8 &&& 31)) ||| p2.1)) ≤ v1 then (some ((upd (upd f13 ((a1 + 5) : Int32).toNatClampNeg ((p1.1 <<< (8 &&& 31)) ||| p2.1)) ((a1 + 6) : Int32).toNatClampNeg p2.2.1), (if v1 < (p2.2.1 + ((p1.1 <<< (8 &&& 31)) ||| p2.1)) then v1 else (p2.2.1 + ((p1.1 <<< (8 &&& 31)) ||| p2.1))), p3)) else ((sp_ti_bad nf v1 p3).bind (fun p4 => (some ((upd (upd f13 ((a1 + 5) : Int32).toNatClampNeg ((p1.1 <<< (8 &&& 31)) ||| p2.1)) ((a1 + 6) : Int32).toNatClampNeg p2.2.1), (if v1 < (p2.2.1 + ((p1.1 <<< (8 &&& 31)) ||| p2.1)) then v1 else (p2.2.1 + ((p1.1 <<< (8 &&& 31)) ||| p2.1))), p4))))))))) else (if ((p1.1 <<< (8 &&& 31)) ||| p2.1) ≤ 1500 then (if (a1 + 5) < 0 then none else if 144 ≤ ((a1 + 5) : Int32).toNatClampNeg then none else (if (a1 + 6) < 0 then none else if 144 ≤ ((a1 + 6) : Int32).toNatClampNeg then none else (if (p2.2.1 + ((p1.1 <<< (8 &&& 31)) ||| p2.1)) ≤ v1 then (some ((upd (upd f13 ((a1 + 5) : Int32).toNatClampNeg ((p1.1 <<< (8 &&& 31)) ||| p2.1)) ((a1 + 6) : Int32).toNatClampNeg p2.2.1), (if v1 < (p2.2.1 + ((p1.1 <<< (8 &&& 31)) ||| p2.1)) then v1 else (p2.2.1 + ((p1.1 <<< (8 &&& 31)) ||| p2.1))), p2.2.2)) else ((sp_ti_bad nf v1 p2.2.2).bind (fun p5 => (some ((upd (upd f13 ((a1 + 5) : Int32).toNatClampNeg ((p1.1 <<< (8 &&& 31)) ||| p2.1)) ((a1 + 6) : Int32).toNatClampNeg p2.2.1), (if v1 < (p2.2.1 + ((p1.1 <<< (8 &&& 31)) ||| p2.1)) then v1 else (p2.2.1 + ((p1.1 <<< (8 &&& 31)) ||| p2.1))), p5))))))) else ((sp_ti_bad nf v2 p2.2.2).bind (fun p6 => (if (a1 + 5) < 0 then none else if 144 ≤ ((a1 + 5) : Int32).toNatClampNeg then none else (if (a1 + 6) < 0 then none else if 144 ≤ ((a1 + 6) : Int32).toNatClampNeg then none else (if (p2.2.1 + ((p1.1 <<< (8 &&& 31)) ||| p2.1)) ≤ v1 then (some ((upd (upd f13 ((a1 + 5) : Int32).toNatClampNeg ((p1.1 <<< (8 &&& 31)) ||| p2.1)) ((a1 + 6) : Int32).toNatClampNeg p2.2.1), (if v1 < (p2.2.1 + ((p1.1 <<< (8 &&& 31)) ||| p2.1)) then v1 else (p2.2.1 + ((p1.1 <<< (8 &&& 31)) ||| p2.1))), p6)) else ((sp_ti_bad nf v1 p6).bind (fun p7 => (some ((upd (upd f13 ((a1 + 5) : Int32).toNatClampNeg ((p1.1 <<< (8 &&& 31)) ||| p2.1)) ((a1 + 6) : Int32).toNatClampNeg p2.2.1), (if v1 < (p2.2.1 + ((p1.1 <<< (8 &&& 31)) ||| p2.1)) then v1 else (p2.2.1 + ((p1.1 <<< (8 &&& 31)) ||| p2.1))), p7)))))))))))))))
