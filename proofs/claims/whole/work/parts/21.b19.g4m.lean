set_option maxHeartbeats 4000000 in
set_option maxRecDepth 100000 in
/-- ClassMillModel.textOf -/
theorem vm_textOf (l : Launch) (dC : Nat → ClassId) (dI : Nat → Nat → Nat) (sz : Nat) (h0 : Nat) (zs : (List Value)) (a1 : Int32) (qf2 : Nat) (qf5 : Nat) (qf6 : Nat) (qf58 : Nat) (qf59 : Nat) (qf60 : Nat) (qf61 : Nat) (v62 : Int32) (qf63 : Nat) (v64 : Int32) (qf65 : Nat) (v66 : Int32) (cf6 : ClassId) (f6 : (Nat → Int32)) (cf5 : ClassId) (f5 : (Nat → Int32)) (cf2 : ClassId) (f2 : (Nat → Int32)) (cf65 : ClassId) (f65 : (Nat → Int32)) (cf58 : ClassId) (f58 : (Nat → Int32)) (cf59 : ClassId) (f59 : (Nat → Int32)) (cf60 : ClassId) (f60 : (Nat → Int32)) (cf61 : ClassId) (f61 : (Nat → Int32)) (cf63 : ClassId) (f63 : (Nat → Int32)) (nf : Nat) (r0 : Int32) (o58 : (Nat → Int32)) (o59 : (Nat → Int32)) (o60 : (Nat → Int32)) (o61 : (Nat → Int32)) (o63 : (Nat → Int32)) (o65 : (Nat → Int32)) (w62 : Int32) (w64 : Int32) (w66 : Int32) (hlen : zs.length = 155) (hf2 : zs[2]? = some (.ref qf2)) (hf5 : zs[5]? = some (.ref qf5)) (hf6 : zs[6]? = some (.ref qf6)) (hf58 : zs[58]? = some (.ref qf58)) (hf59 : zs[59]? = some (.ref qf59)) (hf60 : zs[60]? = some (.ref qf60)) (hf61 : zs[61]? = some (.ref qf61)) (hf62 : zs[62]? = some (.int v62)) (hf63 : zs[63]? = some (.ref qf63)) (hf64 : zs[64]? = some (.int v64)) (hf65 : zs[65]? = some (.ref qf65)) (hf66 : zs[66]? = some (.int v66)) (hsp : sp_vm_textOf nf a1 v62 v64 v66 f6 f5 f2 f65 f58 f59 f60 f61 f63 = some (r0, o58, o59, o60, o61, o63, o65, w62, w64, w66)) : Met l yX13_textOf (.code yX13_textOf cX13_textOf 2 (some .int) :: VS_h9) ({ frames := 2, cells := 0, slots := 0, locals := 49 }) (va_Pc [.ref h0, .int a1] (fun U => U.heap.size = sz ∧ va_P (dC, dI) vwCl [(h0, .inr (13, zs)), (qf6, .inl (cf6, 3002, .inl f6)), (qf5, .inl (cf5, 3002, .inl f5)), (qf2, .inl (cf2, 3000, .inl f2)), (qf65, .inl (cf65, 200, .inl f65)), (qf58, .inl (cf58, 2000, .inl f58)), (qf59, .inl (cf59, 2000, .inl f59)), (qf60, .inl (cf60, 2000, .inl f60)), (qf61, .inl (cf61, 2000, .inl f61)), (qf63, .inl (cf63, 40000, .inl f63))] U.heap ∧ va_K (dC, dI) vwCl [(cf6, .int), (cf5, .int), (cf2, .int), (cf65, .int), (cf58, .int), (cf59, .int), (cf60, .int), (cf61, .int), (cf63, .int)] U ∧ va_D (fun _ => True) [(h0, .inr (13, zs)), (qf6, .inl (cf6, 3002, .inl f6)), (qf5, .inl (cf5, 3002, .inl f5)), (qf2, .inl (cf2, 3000, .inl f2)), (qf65, .inl (cf65, 200, .inl f65)), (qf58, .inl (cf58, 2000, .inl f58)), (qf59, .inl (cf59, 2000, .inl f59)), (qf60, .inl (cf60, 2000, .inl f60)), (qf61, .inl (cf61, 2000, .inl f61)), (qf63, .inl (cf63, 40000, .inl f63))])) (va_Qi (fun (r : Int32) (u : (List Value)) => match u with | (zo1) => r0 = r ∧ zo1.length = 155 ∧ (∀ j : Nat, j ≠ 62 → j ≠ 64 → j ≠ 66 → zo1[j]? = zs[j]?) ∧ zo1[62]? = some (.int w62) ∧ zo1[64]? = some (.int w64) ∧ zo1[66]? = some (.int w66)) (fun (u : (List Value)) (t : State) => match u with | (zo1) => va_P (dC, dI) vwCl [(h0, .inr (13, zo1)), (qf6, .inl (cf6, 3002, .inl f6)), (qf5, .inl (cf5, 3002, .inl f5)), (qf2, .inl (cf2, 3000, .inl f2)), (qf65, .inl (cf65, 200, .inl o65)), (qf58, .inl (cf58, 2000, .inl o58)), (qf59, .inl (cf59, 2000, .inl o59)), (qf60, .inl (cf60, 2000, .inl o60)), (qf61, .inl (cf61, 2000, .inl o61)), (qf63, .inl (cf63, 40000, .inl o63))] t.heap ∧ va_K (dC, dI) vwCl [(cf6, .int), (cf5, .int), (cf2, .int), (cf65, .int), (cf58, .int), (cf59, .int), (cf60, .int), (cf61, .int), (cf63, .int)] t ∧ va_D (va_A [(h0, .inr (13, zs)), (qf6, .inl (cf6, 3002, .inl f6)), (qf5, .inl (cf5, 3002, .inl f5)), (qf2, .inl (cf2, 3000, .inl f2)), (qf65, .inl (cf65, 200, .inl f65)), (qf58, .inl (cf58, 2000, .inl f58)), (qf59, .inl (cf59, 2000, .inl f59)), (qf60, .inl (cf60, 2000, .inl f60)), (qf61, .inl (cf61, 2000, .inl f61)), (qf63, .inl (cf63, 40000, .inl f63))] sz) [(h0, .inr (13, zo1)), (qf6, .inl (cf6, 3002, .inl f6)), (qf5, .inl (cf5, 3002, .inl f5)), (qf2, .inl (cf2, 3000, .inl f2)), (qf65, .inl (cf65, 200, .inl o65)), (qf58, .inl (cf58, 2000, .inl o58)), (qf59, .inl (cf59, 2000, .inl o59)), (qf60, .inl (cf60, 2000, .inl o60)), (qf61, .inl (cf61, 2000, .inl o61)), (qf63, .inl (cf63, 40000, .inl o63))]) (va_A [(h0, .inr (13, zs)), (qf6, .inl (cf6, 3002, .inl f6)), (qf5, .inl (cf5, 3002, .inl f5)), (qf2, .inl (cf2, 3000, .inl f2)), (qf65, .inl (cf65, 200, .inl f65)), (qf58, .inl (cf58, 2000, .inl f58)), (qf59, .inl (cf59, 2000, .inl f59)), (qf60, .inl (cf60, 2000, .inl f60)), (qf61, .inl (cf61, 2000, .inl f61)), (qf63, .inl (cf63, 40000, .inl f63))] sz)) 0 0 (va_A [(h0, .inr (13, zs)), (qf6, .inl (cf6, 3002, .inl f6)), (qf5, .inl (cf5, 3002, .inl f5)), (qf2, .inl (cf2, 3000, .inl f2)), (qf65, .inl (cf65, 200, .inl f65)), (qf58, .inl (cf58, 2000, .inl f58)), (qf59, .inl (cf59, 2000, .inl f59)), (qf60, .inl (cf60, 2000, .inl f60)), (qf61, .inl (cf61, 2000, .inl f61)), (qf63, .inl (cf63, 40000, .inl f63))] sz) := by
  refine Met.ofW (cc := cX13_textOf) (maxL := 2) (ret := (some .int)) (by decide) rfl ?_
  intro p e s m args below meth c s₁ B hml hv
  obtain ⟨rfl, hsz, hP, hK, hD0⟩ := hv
  have hx := B.exec
  have hb := B.bytes
  have hr := B.returns
  have hts := atoms_spec (ws := (.code yX13_textOf cX13_textOf 2 (some .int) :: VS_h9)) B.pre
  replace hts := fun w (h : w ∈ VS_h9) => hts w (List.mem_cons_of_mem _ h)
  have hown : s.vm.findClass RX13 = some m.cls := findClass_of_methodNamed B.named
  have hlocks := B.notSynchronized
  subst hsz
  have hD := hD0.self (sz := s.heap.size)
  generalize hAe : va_A [(h0, .inr (13, zs)), (qf6, .inl (cf6, 3002, .inl f6)), (qf5, .inl (cf5, 3002, .inl f5)), (qf2, .inl (cf2, 3000, .inl f2)), (qf65, .inl (cf65, 200, .inl f65)), (qf58, .inl (cf58, 2000, .inl f58)), (qf59, .inl (cf59, 2000, .inl f59)), (qf60, .inl (cf60, 2000, .inl f60)), (qf61, .inl (cf61, 2000, .inl f61)), (qf63, .inl (cf63, 40000, .inl f63))] s.heap.size = A at hD  ⊢
  have hA : ∀ q : Nat, s.heap.size ≤ q → A q := fun q h => by rw [← hAe]; exact Or.inr h
  have hP : va_P (dC, dI) vwCl [(h0, .inr (13, zs)), (qf6, .inl (cf6, 3002, .inl f6)), (qf5, .inl (cf5, 3002, .inl f5)), (qf2, .inl (cf2, 3000, .inl f2)), (qf65, .inl (cf65, 200, .inl f65)), (qf58, .inl (cf58, 2000, .inl f58)), (qf59, .inl (cf59, 2000, .inl f59)), (qf60, .inl (cf60, 2000, .inl f60)), (qf61, .inl (cf61, 2000, .inl f61)), (qf63, .inl (cf63, 40000, .inl f63))] s.heap := hP
  have hl := lv_entry ([.ref h0, .int a1]) (n := 2) (Nat.le_of_ble_eq_true rfl)
  rw [lg_entry_eq]
  generalize (lg_sl ([.ref h0, .int a1]) ++ List.replicate (2 - (lg_sl ([.ref h0, .int a1])).length) Slot.unset).toArray = ls at hl ⊢
  have hl : lv_has ls 2 [(0, .ref h0), (1, .int a1)] := hl
  obtain ⟨H, hH⟩ : ∃ H : Heap, s.heap = H := ⟨_, rfl⟩
  rw [hH] at hP ⊢
  have hS : va_S A s.heap H [] := by rw [← hH]; exact va_S.rf
  obtain ⟨locs, hlo⟩ : ∃ locs : List Loc, locs = [] := ⟨_, rfl⟩
  rw [← hlo] at hS ⊢
  have hrs0 : ∀ j : Nat, j ≠ 62 → j ≠ 64 → j ≠ 66 → zs[j]? = zs[j]? := fun _ _ _ _  => rfl
  unfold sp_vm_textOf at hsp
  refine lv_aload_n hx hb dX13_textOf_0 rfl (lv_at hl 0 rfl) ?_
  refine lv_iload_n hx hb dX13_textOf_1 rfl (lv_at hl 1 rfl) ?_
  obtain ⟨⟨g901_0, u1_1⟩, hu_1, hsp⟩ := ox_bind hsp
  try dsimp only at hsp
  have hPc := hP.sub (ws' := [(h0, .inr (13, zs)), (qf6, .inl (cf6, 3002, .inl f6)), (qf5, .inl (cf5, 3002, .inl f5)), (qf2, .inl (cf2, 3000, .inl f2)), (qf65, .inl (cf65, 200, .inl f65))]) [0, 1, 2, 3, 4] rfl
  have hDc := hD.sub (ws' := [(h0, .inr (13, zs)), (qf6, .inl (cf6, 3002, .inl f6)), (qf5, .inl (cf5, 3002, .inl f5)), (qf2, .inl (cf2, 3000, .inl f2)), (qf65, .inl (cf65, 200, .inl f65))]) [0, 1, 2, 3, 4] (by decide) rfl
  have hKc := hK.sub (tys' := [(cf6, .int), (cf5, .int), (cf2, .int), (cf65, .int)]) [0, 1, 2, 3] rfl
  have hFc := va_free (wc := [(h0, .inr (13, zs)), (qf6, .inl (cf6, 3002, .inl f6)), (qf5, .inl (cf5, 3002, .inl f5)), (qf2, .inl (cf2, 3000, .inl f2)), (qf65, .inl (cf65, 200, .inl f65))]) hD hS hA [0, 1, 2, 3, 4] rfl
  refine va_callv (va_runV (As := [.int a1]) (rest := []) ⟨hx, hb, hml, hown, hts⟩ (tn_spellToken l dC dI H.size h0 zs a1 qf2 qf5 qf6 qf65 v66 cf6 f6 cf5 f5 cf2 f2 cf65 f65 nf g901_0 u1_1 hlen hf2 hf5 hf6 hf65 hf66 hu_1) (cwV 1 hts gv_h9_28 rfl rfl rfl (by decide +kernel) ⟨Nat.le_of_ble_eq_true rfl, Nat.le_of_ble_eq_true rfl⟩) ⟨fun a U g mk q => by obtain ⟨q0, q1, qP, qK, qD⟩ := q; exact ⟨q0, q1, qP, va_K.moved (u := U) (U := U.calling g mk a) (Vm.Alike.refl U.vm) qK, qD⟩, va_recv hKc hPc (ci := 13) (q0 := 0) rfl rfl, fun U hU hW => ⟨rfl, by rw [hU], by rw [hU]; exact hPc, va_K.moved hW.alike hKc, hDc.weaken (fun _ _ _ _ => trivial)⟩⟩ rfl rfl hl.1 rfl (lv_room (Nat.le_of_ble_eq_true rfl)) dX13_textOf_2 ⟨Nat.le_of_ble_eq_true rfl, Nat.le_of_ble_eq_true rfl⟩) hS (fun q _ h => hFc q h) hFc ?_
  clear hS
  intro u t H1 locs ht hvm hw hB hz1 hk1 hS
  obtain ⟨z_1, rfl⟩ : ∃ z, z = u := ⟨_, rfl⟩
  obtain ⟨hP1, hK1, hD1⟩ := hB
  rw [ht] at hP1
  have hK1 := va_K.moved hvm.symm hK1
  try dsimp only at hw
  have hPD := va_join (wr := [(qf58, .inl (cf58, 2000, .inl f58)), (qf59, .inl (cf59, 2000, .inl f59)), (qf60, .inl (cf60, 2000, .inl f60)), (qf61, .inl (cf61, 2000, .inl f61)), (qf63, .inl (cf63, 40000, .inl f63))]) (w1 := [(h0, .inr (13, z_1)), (qf6, .inl (cf6, 3002, .inl f6)), (qf5, .inl (cf5, 3002, .inl f5)), (qf2, .inl (cf2, 3000, .inl f2)), (qf65, .inl (cf65, 200, .inl g901_0))]) hP hD [0, 1, 2, 3, 4] [5, 6, 7, 8, 9] rfl rfl (by decide) (by decide) hk1 hFc hP1 hD1
  clear hP hD
  obtain ⟨hP, hD⟩ := hPD
  replace hK := (hK.sub (tys' := [(cf58, .int), (cf59, .int), (cf60, .int), (cf61, .int), (cf63, .int)]) [4, 5, 6, 7, 8] rfl).app hK1
  clear hPc hDc hKc hFc hP1 hK1 hD1 hz1 hk1 ht hvm
  generalize H1 = H at hP hS ⊢
  replace hP : va_P (dC, dI) vwCl [(qf58, .inl (cf58, 2000, .inl f58)), (qf59, .inl (cf59, 2000, .inl f59)), (qf60, .inl (cf60, 2000, .inl f60)), (qf61, .inl (cf61, 2000, .inl f61)), (qf63, .inl (cf63, 40000, .inl f63)), (h0, .inr (13, z_1)), (qf6, .inl (cf6, 3002, .inl f6)), (qf5, .inl (cf5, 3002, .inl f5)), (qf2, .inl (cf2, 3000, .inl f2)), (qf65, .inl (cf65, 200, .inl g901_0))] H := hP
  replace hD : va_D A [(qf58, .inl (cf58, 2000, .inl f58)), (qf59, .inl (cf59, 2000, .inl f59)), (qf60, .inl (cf60, 2000, .inl f60)), (qf61, .inl (cf61, 2000, .inl f61)), (qf63, .inl (cf63, 40000, .inl f63)), (h0, .inr (13, z_1)), (qf6, .inl (cf6, 3002, .inl f6)), (qf5, .inl (cf5, 3002, .inl f5)), (qf2, .inl (cf2, 3000, .inl f2)), (qf65, .inl (cf65, 200, .inl g901_0))] := hD
  replace hK : va_K (dC, dI) vwCl [(cf58, .int), (cf59, .int), (cf60, .int), (cf61, .int), (cf63, .int), (cf6, .int), (cf5, .int), (cf2, .int), (cf65, .int)] s := hK
  obtain ⟨hwa_1, hln_1, hre_1, hch_1_66⟩ := hw
  have hfk_1_2 : z_1[2]? = some (.ref qf2) := (hre_1 2 (by decide)).trans (hf2)
  have hfk_1_5 : z_1[5]? = some (.ref qf5) := (hre_1 5 (by decide)).trans (hf5)
  have hfk_1_6 : z_1[6]? = some (.ref qf6) := (hre_1 6 (by decide)).trans (hf6)
  have hfk_1_58 : z_1[58]? = some (.ref qf58) := (hre_1 58 (by decide)).trans (hf58)
  have hfk_1_59 : z_1[59]? = some (.ref qf59) := (hre_1 59 (by decide)).trans (hf59)
  have hfk_1_60 : z_1[60]? = some (.ref qf60) := (hre_1 60 (by decide)).trans (hf60)
  have hfk_1_61 : z_1[61]? = some (.ref qf61) := (hre_1 61 (by decide)).trans (hf61)
  have hfk_1_62 : z_1[62]? = some (.int v62) := (hre_1 62 (by decide)).trans (hf62)
  have hfk_1_63 : z_1[63]? = some (.ref qf63) := (hre_1 63 (by decide)).trans (hf63)
  have hfk_1_64 : z_1[64]? = some (.int v64) := (hre_1 64 (by decide)).trans (hf64)
  have hfk_1_65 : z_1[65]? = some (.ref qf65) := (hre_1 65 (by decide)).trans (hf65)
  have hrq_1 : ∀ j : Nat, j ≠ 62 → j ≠ 64 → j ≠ 66 → z_1[j]? = zs[j]? := fun j g62 g64 g66 => (hre_1 j g66).trans (hrs0 j g62 g64 g66)
  refine lv_aload_n hx hb dX13_textOf_5 rfl (lv_at hl 0 rfl) ?_
  obtain ⟨⟨u2_0, g902_1, g902_2, g902_3, g902_4, g902_5, u2_6, u2_7, u2_8⟩, hu_2, hsp⟩ := ox_bind hsp
  try dsimp only at hsp
  have hPc := hP.sub (ws' := [(h0, .inr (13, z_1)), (qf58, .inl (cf58, 2000, .inl f58)), (qf59, .inl (cf59, 2000, .inl f59)), (qf60, .inl (cf60, 2000, .inl f60)), (qf61, .inl (cf61, 2000, .inl f61)), (qf65, .inl (cf65, 200, .inl g901_0)), (qf63, .inl (cf63, 40000, .inl f63))]) [5, 0, 1, 2, 3, 9, 4] rfl
  have hDc := hD.sub (ws' := [(h0, .inr (13, z_1)), (qf58, .inl (cf58, 2000, .inl f58)), (qf59, .inl (cf59, 2000, .inl f59)), (qf60, .inl (cf60, 2000, .inl f60)), (qf61, .inl (cf61, 2000, .inl f61)), (qf65, .inl (cf65, 200, .inl g901_0)), (qf63, .inl (cf63, 40000, .inl f63))]) [5, 0, 1, 2, 3, 9, 4] (by decide) rfl
  have hKc := hK.sub (tys' := [(cf58, .int), (cf59, .int), (cf60, .int), (cf61, .int), (cf65, .int), (cf63, .int)]) [0, 1, 2, 3, 8, 4] rfl
  have hFc := va_free (wc := [(h0, .inr (13, z_1)), (qf58, .inl (cf58, 2000, .inl f58)), (qf59, .inl (cf59, 2000, .inl f59)), (qf60, .inl (cf60, 2000, .inl f60)), (qf61, .inl (cf61, 2000, .inl f61)), (qf65, .inl (cf65, 200, .inl g901_0)), (qf63, .inl (cf63, 40000, .inl f63))]) hD hS hA [5, 0, 1, 2, 3, 9, 4] rfl
  refine va_calli (va_runV (As := []) (rest := []) ⟨hx, hb, hml, hown, hts⟩ (vm_spelling l dC dI H.size h0 z_1 qf58 qf59 qf60 qf61 v62 qf63 v64 qf65 u1_1 cf58 f58 cf59 f59 cf60 f60 cf61 f61 cf65 g901_0 cf63 f63 nf u2_0 g902_1 g902_2 g902_3 g902_4 g902_5 u2_6 u2_7 u2_8 hln_1 hfk_1_58 hfk_1_59 hfk_1_60 hfk_1_61 hfk_1_62 hfk_1_63 hfk_1_64 hfk_1_65 hch_1_66 hu_2) (cwV 0 hts gv_h9_79 rfl rfl rfl (by decide +kernel) ⟨Nat.le_of_ble_eq_true rfl, Nat.le_of_ble_eq_true rfl⟩) ⟨fun a U g mk q => by obtain ⟨q0, q1, qP, qK, qD⟩ := q; exact ⟨q0, q1, qP, va_K.moved (u := U) (U := U.calling g mk a) (Vm.Alike.refl U.vm) qK, qD⟩, va_recv hKc hPc (ci := 13) (q0 := 0) rfl rfl, fun U hU hW => ⟨rfl, by rw [hU], by rw [hU]; exact hPc, va_K.moved hW.alike hKc, hDc.weaken (fun _ _ _ _ => trivial)⟩⟩ rfl rfl hl.1 rfl (lv_room (Nat.le_of_ble_eq_true rfl)) dX13_textOf_6 ⟨Nat.le_of_ble_eq_true rfl, Nat.le_of_ble_eq_true rfl⟩) hS (fun q _ h => hFc q h) hFc ?_
  clear hS
  intro r_1 u t H1 locs ht hvm hw hB hz1 hk1 hS
  obtain ⟨z_2, rfl⟩ : ∃ z, z = u := ⟨_, rfl⟩
  obtain ⟨hP1, hK1, hD1⟩ := hB
  rw [ht] at hP1
  have hK1 := va_K.moved hvm.symm hK1
  try dsimp only at hw
  have hPD := va_join (wr := [(qf6, .inl (cf6, 3002, .inl f6)), (qf5, .inl (cf5, 3002, .inl f5)), (qf2, .inl (cf2, 3000, .inl f2))]) (w1 := [(h0, .inr (13, z_2)), (qf58, .inl (cf58, 2000, .inl g902_1)), (qf59, .inl (cf59, 2000, .inl g902_2)), (qf60, .inl (cf60, 2000, .inl g902_3)), (qf61, .inl (cf61, 2000, .inl g902_4)), (qf65, .inl (cf65, 200, .inl g901_0)), (qf63, .inl (cf63, 40000, .inl g902_5))]) hP hD [5, 0, 1, 2, 3, 9, 4] [6, 7, 8] rfl rfl (by decide) (by decide) hk1 hFc hP1 hD1
  clear hP hD
  obtain ⟨hP, hD⟩ := hPD
  replace hK := (hK.sub (tys' := [(cf6, .int), (cf5, .int), (cf2, .int)]) [5, 6, 7] rfl).app hK1
  clear hPc hDc hKc hFc hP1 hK1 hD1 hz1 hk1 ht hvm
  generalize H1 = H at hP hS ⊢
  replace hP : va_P (dC, dI) vwCl [(qf6, .inl (cf6, 3002, .inl f6)), (qf5, .inl (cf5, 3002, .inl f5)), (qf2, .inl (cf2, 3000, .inl f2)), (h0, .inr (13, z_2)), (qf58, .inl (cf58, 2000, .inl g902_1)), (qf59, .inl (cf59, 2000, .inl g902_2)), (qf60, .inl (cf60, 2000, .inl g902_3)), (qf61, .inl (cf61, 2000, .inl g902_4)), (qf65, .inl (cf65, 200, .inl g901_0)), (qf63, .inl (cf63, 40000, .inl g902_5))] H := hP
  replace hD : va_D A [(qf6, .inl (cf6, 3002, .inl f6)), (qf5, .inl (cf5, 3002, .inl f5)), (qf2, .inl (cf2, 3000, .inl f2)), (h0, .inr (13, z_2)), (qf58, .inl (cf58, 2000, .inl g902_1)), (qf59, .inl (cf59, 2000, .inl g902_2)), (qf60, .inl (cf60, 2000, .inl g902_3)), (qf61, .inl (cf61, 2000, .inl g902_4)), (qf65, .inl (cf65, 200, .inl g901_0)), (qf63, .inl (cf63, 40000, .inl g902_5))] := hD
  replace hK : va_K (dC, dI) vwCl [(cf6, .int), (cf5, .int), (cf2, .int), (cf58, .int), (cf59, .int), (cf60, .int), (cf61, .int), (cf65, .int), (cf63, .int)] s := hK
  obtain ⟨hwa_2, hln_2, hre_2, hch_2_62, hch_2_64, hch_2_66⟩ := hw
  have hfk_2_2 : z_2[2]? = some (.ref qf2) := (hre_2 2 (by decide) (by decide) (by decide)).trans (hfk_1_2)
  have hfk_2_5 : z_2[5]? = some (.ref qf5) := (hre_2 5 (by decide) (by decide) (by decide)).trans (hfk_1_5)
  have hfk_2_6 : z_2[6]? = some (.ref qf6) := (hre_2 6 (by decide) (by decide) (by decide)).trans (hfk_1_6)
  have hfk_2_58 : z_2[58]? = some (.ref qf58) := (hre_2 58 (by decide) (by decide) (by decide)).trans (hfk_1_58)
  have hfk_2_59 : z_2[59]? = some (.ref qf59) := (hre_2 59 (by decide) (by decide) (by decide)).trans (hfk_1_59)
  have hfk_2_60 : z_2[60]? = some (.ref qf60) := (hre_2 60 (by decide) (by decide) (by decide)).trans (hfk_1_60)
  have hfk_2_61 : z_2[61]? = some (.ref qf61) := (hre_2 61 (by decide) (by decide) (by decide)).trans (hfk_1_61)
  have hfk_2_63 : z_2[63]? = some (.ref qf63) := (hre_2 63 (by decide) (by decide) (by decide)).trans (hfk_1_63)
  have hfk_2_65 : z_2[65]? = some (.ref qf65) := (hre_2 65 (by decide) (by decide) (by decide)).trans (hfk_1_65)
  have hrq_2 : ∀ j : Nat, j ≠ 62 → j ≠ 64 → j ≠ 66 → z_2[j]? = zs[j]? := fun j g62 g64 g66 => (hre_2 j g62 g64 g66).trans (hrq_1 j g62 g64 g66)
  obtain rfl := hwa_2
  have hr0 := Option.some.inj hsp
  clear hsp
  obtain ⟨hq0, hr1⟩ := Prod.mk.inj hr0
  clear hr0
  obtain ⟨hq1, hr2⟩ := Prod.mk.inj hr1
  clear hr1
  obtain ⟨hq2, hr3⟩ := Prod.mk.inj hr2
  clear hr2
  obtain ⟨hq3, hr4⟩ := Prod.mk.inj hr3
  clear hr3
  obtain ⟨hq4, hr5⟩ := Prod.mk.inj hr4
  clear hr4
  obtain ⟨hq5, hr6⟩ := Prod.mk.inj hr5
  clear hr5
  obtain ⟨hq6, hr7⟩ := Prod.mk.inj hr6
  clear hr6
  obtain ⟨hq7, hr8⟩ := Prod.mk.inj hr7
  clear hr7
  obtain ⟨hq8, hr9⟩ := Prod.mk.inj hr8
  clear hr8
  subst hq0
  subst hq1
  subst hq2
  subst hq3
  subst hq4
  subst hq5
  subst hq6
  subst hq7
  subst hq8
  subst hr9
  have hP9 := hP.sub (ws' := [(h0, .inr (13, z_2)), (qf6, .inl (cf6, 3002, .inl f6)), (qf5, .inl (cf5, 3002, .inl f5)), (qf2, .inl (cf2, 3000, .inl f2)), (qf65, .inl (cf65, 200, .inl g901_0)), (qf58, .inl (cf58, 2000, .inl g902_1)), (qf59, .inl (cf59, 2000, .inl g902_2)), (qf60, .inl (cf60, 2000, .inl g902_3)), (qf61, .inl (cf61, 2000, .inl g902_4)), (qf63, .inl (cf63, 40000, .inl g902_5))]) [3, 0, 1, 2, 8, 4, 5, 6, 7, 9] rfl
  have hD9 := hD.sub (ws' := [(h0, .inr (13, z_2)), (qf6, .inl (cf6, 3002, .inl f6)), (qf5, .inl (cf5, 3002, .inl f5)), (qf2, .inl (cf2, 3000, .inl f2)), (qf65, .inl (cf65, 200, .inl g901_0)), (qf58, .inl (cf58, 2000, .inl g902_1)), (qf59, .inl (cf59, 2000, .inl g902_2)), (qf60, .inl (cf60, 2000, .inl g902_3)), (qf61, .inl (cf61, 2000, .inl g902_4)), (qf63, .inl (cf63, 40000, .inl g902_5))]) [3, 0, 1, 2, 8, 4, 5, 6, 7, 9] (by decide) rfl
  have hK9 := hK.sub (tys' := [(cf6, .int), (cf5, .int), (cf2, .int), (cf65, .int), (cf58, .int), (cf59, .int), (cf60, .int), (cf61, .int), (cf63, .int)]) [0, 1, 2, 7, 3, 4, 5, 6, 8] rfl
  exact W.iret hx hb hr (fun t ht hW => ⟨⟨(u2_0), (z_2), rfl, ⟨rfl, hln_2, hrq_2, hch_2_62, hch_2_64, hch_2_66⟩, by rw [ht]; exact hP9, va_K.moved hW.alike hK9, hD9⟩, hS.F ht⟩) hS.2.2 dX13_textOf_9
def jn_vm_kindOf_56 (nf : Nat) (a1 : Int32) (v62 : Int32) (v64 : Int32) (v66 : Int32) (f30 : Nat → Int32) (f65 : Nat → Int32) (f37 : Nat → Int32) (f36 : Nat → Int32) (f44 : Nat → Int32) (f25 : Nat → Int32) (f6 : Nat → Int32) (f5 : Nat → Int32) (f2 : Nat → Int32) (f35 : Nat → Int32) (f58 : Nat → Int32) (f59 : Nat → Int32) (f60 : Nat → Int32) (f61 : Nat → Int32) (f63 : Nat → Int32) (nS477 : Nat) (fS477 : Nat → Int32)  (l1_56 : Int32) (g58_56 : Nat → Int32) (g59_56 : Nat → Int32) (g60_56 : Nat → Int32) (g61_56 : Nat → Int32) (g63_56 : Nat → Int32) (g65_56 : Nat → Int32) (x62_56 : Int32) (x64_56 : Int32) (x66_56 : Int32) : Option (Int32 × (Nat → Int32) × (Nat → Int32) × (Nat → Int32) × (Nat → Int32) × (Nat → Int32) × (Nat → Int32) × Int32 × Int32 × Int32) := (if l1_56 < 0 then none else if 800 ≤ (l1_56 : Int32).toNatClampNeg then none else ((sp_vm_spellKind nf (f35 (l1_56 : Int32).toNatClampNeg) x66_56 g65_56 f25 f6 f5 f2 nS477 fS477).bind (fun p1 => ((sp_vm_spelling nf x62_56 x64_56 p1.2 g58_56 g59_56 g60_56 g61_56 p1.1 g63_56).bind (fun p2 => (some (p2.1, p2.2.1, p2.2.2.1, p2.2.2.2.1, p2.2.2.2.2.1, p2.2.2.2.2.2.1, p1.1, p2.2.2.2.2.2.2.1, p2.2.2.2.2.2.2.2.1, p2.2.2.2.2.2.2.2.2)))))))
def lp_vm_kindOf_17 (nf n : Nat) (a1 : Int32) (v62 : Int32) (v64 : Int32) (v66 : Int32) (f30 : Nat → Int32) (f65 : Nat → Int32) (f37 : Nat → Int32) (f36 : Nat → Int32) (f44 : Nat → Int32) (f25 : Nat → Int32) (f6 : Nat → Int32) (f5 : Nat → Int32) (f2 : Nat → Int32) (f35 : Nat → Int32) (f58 : Nat → Int32) (f59 : Nat → Int32) (f60 : Nat → Int32) (f61 : Nat → Int32) (f63 : Nat → Int32) (nS477 : Nat) (fS477 : Nat → Int32)  (l1_17 : Int32) (l2_17 : Int32) (g58_17 : Nat → Int32) (g59_17 : Nat → Int32) (g60_17 : Nat → Int32) (g61_17 : Nat → Int32) (g63_17 : Nat → Int32) (g65_17 : Nat → Int32) (x62_17 : Int32) (x64_17 : Int32) (x66_17 : Int32) : Option (Int32 × (Nat → Int32) × (Nat → Int32) × (Nat → Int32) × (Nat → Int32) × (Nat → Int32) × (Nat → Int32) × Int32 × Int32 × Int32) := match n with
  | 0 => none
  | n + 1 => (if l1_17 < 0 then none else if 800 ≤ (l1_17 : Int32).toNatClampNeg then none else (if (f37 (l1_17 : Int32).toNatClampNeg) ≤ l2_17 then ((sp_tm_spell nf 41 x66_17 g65_17).bind (fun p1 => (jn_vm_kindOf_56 nf a1 v62 v64 v66 f30 f65 f37 f36 f44 f25 f6 f5 f2 f35 f58 f59 f60 f61 f63 nS477 fS477  l1_17 g58_17 g59_17 g60_17 g61_17 g63_17 p1.1 x62_17 x64_17 p1.2))) else (if l1_17 < 0 then none else if 800 ≤ (l1_17 : Int32).toNatClampNeg then none else (if ((f36 (l1_17 : Int32).toNatClampNeg) + l2_17) < 0 then none else if 1500 ≤ (((f36 (l1_17 : Int32).toNatClampNeg) + l2_17) : Int32).toNatClampNeg then none else ((sp_vm_spellKind nf (f44 (((f36 (l1_17 : Int32).toNatClampNeg) + l2_17) : Int32).toNatClampNeg) x66_17 g65_17 f25 f6 f5 f2 nS477 fS477).bind (fun p2 => (lp_vm_kindOf_17 nf n a1 v62 v64 v66 f30 f65 f37 f36 f44 f25 f6 f5 f2 f35 f58 f59 f60 f61 f63 nS477 fS477 l1_17 (l2_17 + 1) g58_17 g59_17 g60_17 g61_17 g63_17 p2.1 x62_17 x64_17 p2.2)))))))
def sp_vm_kindOf (nf : Nat) (a1 : Int32) (v62 : Int32) (v64 : Int32) (v66 : Int32) (f30 : Nat → Int32) (f65 : Nat → Int32) (f37 : Nat → Int32) (f36 : Nat → Int32) (f44 : Nat → Int32) (f25 : Nat → Int32) (f6 : Nat → Int32) (f5 : Nat → Int32) (f2 : Nat → Int32) (f35 : Nat → Int32) (f58 : Nat → Int32) (f59 : Nat → Int32) (f60 : Nat → Int32) (f61 : Nat → Int32) (f63 : Nat → Int32) (nS477 : Nat) (fS477 : Nat → Int32) : Option (Int32 × (Nat → Int32) × (Nat → Int32) × (Nat → Int32) × (Nat → Int32) × (Nat → Int32) × (Nat → Int32) × Int32 × Int32 × Int32) := (if a1 < 0 then none else if 800 ≤ (a1 : Int32).toNatClampNeg then none else (if (f30 (a1 : Int32).toNatClampNeg) ≤ 0 then (jn_vm_kindOf_56 nf a1 v62 v64 v66 f30 f65 f37 f36 f44 f25 f6 f5 f2 f35 f58 f59 f60 f61 f63 nS477 fS477  a1 f58 f59 f60 f61 f63 f65 v62 v64 v66) else ((sp_tm_spell nf 40 v66 f65).bind (fun p1 => (lp_vm_kindOf_17 nf nf a1 v62 v64 v66 f30 f65 f37 f36 f44 f25 f6 f5 f2 f35 f58 f59 f60 f61 f63 nS477 fS477  a1 0 f58 f59 f60 f61 f63 p1.1 v62 v64 p1.2)))))
set_option maxHeartbeats 4000000 in
set_option maxRecDepth 100000 in
/-- ClassMillModel.kindOf -/
theorem vm_kindOf (l : Launch) (dC : Nat → ClassId) (dI : Nat → Nat → Nat) (sz : Nat) (h0 : Nat) (zs : (List Value)) (a1 : Int32) (qf2 : Nat) (qf5 : Nat) (qf6 : Nat) (qf25 : Nat) (qf30 : Nat) (qf35 : Nat) (qf36 : Nat) (qf37 : Nat) (qf44 : Nat) (qf58 : Nat) (qf59 : Nat) (qf60 : Nat) (qf61 : Nat) (v62 : Int32) (qf63 : Nat) (v64 : Int32) (qf65 : Nat) (v66 : Int32) (cf30 : ClassId) (f30 : (Nat → Int32)) (cf65 : ClassId) (f65 : (Nat → Int32)) (cf37 : ClassId) (f37 : (Nat → Int32)) (cf36 : ClassId) (f36 : (Nat → Int32)) (cf44 : ClassId) (f44 : (Nat → Int32)) (cf25 : ClassId) (f25 : (Nat → Int32)) (cf6 : ClassId) (f6 : (Nat → Int32)) (cf5 : ClassId) (f5 : (Nat → Int32)) (cf2 : ClassId) (f2 : (Nat → Int32)) (cf35 : ClassId) (f35 : (Nat → Int32)) (cf58 : ClassId) (f58 : (Nat → Int32)) (cf59 : ClassId) (f59 : (Nat → Int32)) (cf60 : ClassId) (f60 : (Nat → Int32)) (cf61 : ClassId) (f61 : (Nat → Int32)) (cf63 : ClassId) (f63 : (Nat → Int32)) (nS477 : Nat) (fS477 : (Nat → Int32)) (hS477 : Nat) (qS477 : Nat) (tS477 : String) (nf : Nat) (r0 : Int32) (o58 : (Nat → Int32)) (o59 : (Nat → Int32)) (o60 : (Nat → Int32)) (o61 : (Nat → Int32)) (o63 : (Nat → Int32)) (o65 : (Nat → Int32)) (w62 : Int32) (w64 : Int32) (w66 : Int32) (hlen : zs.length = 155) (hf2 : zs[2]? = some (.ref qf2)) (hf5 : zs[5]? = some (.ref qf5)) (hf6 : zs[6]? = some (.ref qf6)) (hf25 : zs[25]? = some (.ref qf25)) (hf30 : zs[30]? = some (.ref qf30)) (hf35 : zs[35]? = some (.ref qf35)) (hf36 : zs[36]? = some (.ref qf36)) (hf37 : zs[37]? = some (.ref qf37)) (hf44 : zs[44]? = some (.ref qf44)) (hf58 : zs[58]? = some (.ref qf58)) (hf59 : zs[59]? = some (.ref qf59)) (hf60 : zs[60]? = some (.ref qf60)) (hf61 : zs[61]? = some (.ref qf61)) (hf62 : zs[62]? = some (.int v62)) (hf63 : zs[63]? = some (.ref qf63)) (hf64 : zs[64]? = some (.int v64)) (hf65 : zs[65]? = some (.ref qf65)) (hf66 : zs[66]? = some (.int v66)) (hsp : sp_vm_kindOf nf a1 v62 v64 v66 f30 f65 f37 f36 f44 f25 f6 f5 f2 f35 f58 f59 f60 f61 f63 nS477 fS477 = some (r0, o58, o59, o60, o61, o63, o65, w62, w64, w66)) : Met l yX13_kindOf (.code yX13_kindOf cX13_kindOf 3 (some .int) :: VS_h9) ({ frames := 6, cells := 0, slots := 0, locals := 129 }) (va_Pc [.ref h0, .int a1] (fun U => U.heap.size = sz ∧ va_P (dC, dI) vwCl [(h0, .inr (13, zs)), (qf30, .inl (cf30, 800, .inl f30)), (qf65, .inl (cf65, 200, .inl f65)), (qf37, .inl (cf37, 800, .inl f37)), (qf36, .inl (cf36, 800, .inl f36)), (qf44, .inl (cf44, 1500, .inl f44)), (qf25, .inl (cf25, 400, .inl f25)), (qf6, .inl (cf6, 3002, .inl f6)), (qf5, .inl (cf5, 3002, .inl f5)), (qf2, .inl (cf2, 3000, .inl f2)), (qf35, .inl (cf35, 800, .inl f35)), (qf58, .inl (cf58, 2000, .inl f58)), (qf59, .inl (cf59, 2000, .inl f59)), (qf60, .inl (cf60, 2000, .inl f60)), (qf61, .inl (cf61, 2000, .inl f61)), (qf63, .inl (cf63, 40000, .inl f63))] U.heap ∧ va_K (dC, dI) vwCl [(cf30, .int), (cf65, .int), (cf37, .int), (cf36, .int), (cf44, .int), (cf25, .int), (cf6, .int), (cf5, .int), (cf2, .int), (cf35, .int), (cf58, .int), (cf59, .int), (cf60, .int), (cf61, .int), (cf63, .int)] U ∧ va_D (fun _ => True) [(h0, .inr (13, zs)), (qf30, .inl (cf30, 800, .inl f30)), (qf65, .inl (cf65, 200, .inl f65)), (qf37, .inl (cf37, 800, .inl f37)), (qf36, .inl (cf36, 800, .inl f36)), (qf44, .inl (cf44, 1500, .inl f44)), (qf25, .inl (cf25, 400, .inl f25)), (qf6, .inl (cf6, 3002, .inl f6)), (qf5, .inl (cf5, 3002, .inl f5)), (qf2, .inl (cf2, 3000, .inl f2)), (qf35, .inl (cf35, 800, .inl f35)), (qf58, .inl (cf58, 2000, .inl f58)), (qf59, .inl (cf59, 2000, .inl f59)), (qf60, .inl (cf60, 2000, .inl f60)), (qf61, .inl (cf61, 2000, .inl f61)), (qf63, .inl (cf63, 40000, .inl f63))] ∧ pz_W nS477 fS477 hS477 qS477 (va_A [(h0, .inr (13, zs)), (qf30, .inl (cf30, 800, .inl f30)), (qf65, .inl (cf65, 200, .inl f65)), (qf37, .inl (cf37, 800, .inl f37)), (qf36, .inl (cf36, 800, .inl f36)), (qf44, .inl (cf44, 1500, .inl f44)), (qf25, .inl (cf25, 400, .inl f25)), (qf6, .inl (cf6, 3002, .inl f6)), (qf5, .inl (cf5, 3002, .inl f5)), (qf2, .inl (cf2, 3000, .inl f2)), (qf35, .inl (cf35, 800, .inl f35)), (qf58, .inl (cf58, 2000, .inl f58)), (qf59, .inl (cf59, 2000, .inl f59)), (qf60, .inl (cf60, 2000, .inl f60)), (qf61, .inl (cf61, 2000, .inl f61)), (qf63, .inl (cf63, 40000, .inl f63))] sz) U U.heap ∧ vk_R RX13 477 tS477 hS477 U)) (va_Qi (fun (r : Int32) (u : (List Value)) => match u with | (zo1) => r0 = r ∧ zo1.length = 155 ∧ (∀ j : Nat, j ≠ 62 → j ≠ 64 → j ≠ 66 → zo1[j]? = zs[j]?) ∧ zo1[62]? = some (.int w62) ∧ zo1[64]? = some (.int w64) ∧ zo1[66]? = some (.int w66)) (fun (u : (List Value)) (t : State) => match u with | (zo1) => va_P (dC, dI) vwCl [(h0, .inr (13, zo1)), (qf30, .inl (cf30, 800, .inl f30)), (qf65, .inl (cf65, 200, .inl o65)), (qf37, .inl (cf37, 800, .inl f37)), (qf36, .inl (cf36, 800, .inl f36)), (qf44, .inl (cf44, 1500, .inl f44)), (qf25, .inl (cf25, 400, .inl f25)), (qf6, .inl (cf6, 3002, .inl f6)), (qf5, .inl (cf5, 3002, .inl f5)), (qf2, .inl (cf2, 3000, .inl f2)), (qf35, .inl (cf35, 800, .inl f35)), (qf58, .inl (cf58, 2000, .inl o58)), (qf59, .inl (cf59, 2000, .inl o59)), (qf60, .inl (cf60, 2000, .inl o60)), (qf61, .inl (cf61, 2000, .inl o61)), (qf63, .inl (cf63, 40000, .inl o63))] t.heap ∧ va_K (dC, dI) vwCl [(cf30, .int), (cf65, .int), (cf37, .int), (cf36, .int), (cf44, .int), (cf25, .int), (cf6, .int), (cf5, .int), (cf2, .int), (cf35, .int), (cf58, .int), (cf59, .int), (cf60, .int), (cf61, .int), (cf63, .int)] t ∧ va_D (va_A [(h0, .inr (13, zs)), (qf30, .inl (cf30, 800, .inl f30)), (qf65, .inl (cf65, 200, .inl f65)), (qf37, .inl (cf37, 800, .inl f37)), (qf36, .inl (cf36, 800, .inl f36)), (qf44, .inl (cf44, 1500, .inl f44)), (qf25, .inl (cf25, 400, .inl f25)), (qf6, .inl (cf6, 3002, .inl f6)), (qf5, .inl (cf5, 3002, .inl f5)), (qf2, .inl (cf2, 3000, .inl f2)), (qf35, .inl (cf35, 800, .inl f35)), (qf58, .inl (cf58, 2000, .inl f58)), (qf59, .inl (cf59, 2000, .inl f59)), (qf60, .inl (cf60, 2000, .inl f60)), (qf61, .inl (cf61, 2000, .inl f61)), (qf63, .inl (cf63, 40000, .inl f63))] sz) [(h0, .inr (13, zo1)), (qf30, .inl (cf30, 800, .inl f30)), (qf65, .inl (cf65, 200, .inl o65)), (qf37, .inl (cf37, 800, .inl f37)), (qf36, .inl (cf36, 800, .inl f36)), (qf44, .inl (cf44, 1500, .inl f44)), (qf25, .inl (cf25, 400, .inl f25)), (qf6, .inl (cf6, 3002, .inl f6)), (qf5, .inl (cf5, 3002, .inl f5)), (qf2, .inl (cf2, 3000, .inl f2)), (qf35, .inl (cf35, 800, .inl f35)), (qf58, .inl (cf58, 2000, .inl o58)), (qf59, .inl (cf59, 2000, .inl o59)), (qf60, .inl (cf60, 2000, .inl o60)), (qf61, .inl (cf61, 2000, .inl o61)), (qf63, .inl (cf63, 40000, .inl o63))]) (va_A [(h0, .inr (13, zs)), (qf30, .inl (cf30, 800, .inl f30)), (qf65, .inl (cf65, 200, .inl f65)), (qf37, .inl (cf37, 800, .inl f37)), (qf36, .inl (cf36, 800, .inl f36)), (qf44, .inl (cf44, 1500, .inl f44)), (qf25, .inl (cf25, 400, .inl f25)), (qf6, .inl (cf6, 3002, .inl f6)), (qf5, .inl (cf5, 3002, .inl f5)), (qf2, .inl (cf2, 3000, .inl f2)), (qf35, .inl (cf35, 800, .inl f35)), (qf58, .inl (cf58, 2000, .inl f58)), (qf59, .inl (cf59, 2000, .inl f59)), (qf60, .inl (cf60, 2000, .inl f60)), (qf61, .inl (cf61, 2000, .inl f61)), (qf63, .inl (cf63, 40000, .inl f63))] sz)) 0 0 (va_A [(h0, .inr (13, zs)), (qf30, .inl (cf30, 800, .inl f30)), (qf65, .inl (cf65, 200, .inl f65)), (qf37, .inl (cf37, 800, .inl f37)), (qf36, .inl (cf36, 800, .inl f36)), (qf44, .inl (cf44, 1500, .inl f44)), (qf25, .inl (cf25, 400, .inl f25)), (qf6, .inl (cf6, 3002, .inl f6)), (qf5, .inl (cf5, 3002, .inl f5)), (qf2, .inl (cf2, 3000, .inl f2)), (qf35, .inl (cf35, 800, .inl f35)), (qf58, .inl (cf58, 2000, .inl f58)), (qf59, .inl (cf59, 2000, .inl f59)), (qf60, .inl (cf60, 2000, .inl f60)), (qf61, .inl (cf61, 2000, .inl f61)), (qf63, .inl (cf63, 40000, .inl f63))] sz) := by
  refine Met.ofW (cc := cX13_kindOf) (maxL := 3) (ret := (some .int)) (by decide) rfl ?_
  intro p e s m args below meth c s₁ B hml hv
  obtain ⟨rfl, hsz, hP, hK, hD0, hZWS477, hZRS477⟩ := hv
  have hx := B.exec
  have hb := B.bytes
  have hr := B.returns
  have hts := atoms_spec (ws := (.code yX13_kindOf cX13_kindOf 3 (some .int) :: VS_h9)) B.pre
  replace hts := fun w (h : w ∈ VS_h9) => hts w (List.mem_cons_of_mem _ h)
  have hown : s.vm.findClass RX13 = some m.cls := findClass_of_methodNamed B.named
  have hlocks := B.notSynchronized
  subst hsz
  have hD := hD0.self (sz := s.heap.size)
  generalize hAe : va_A [(h0, .inr (13, zs)), (qf30, .inl (cf30, 800, .inl f30)), (qf65, .inl (cf65, 200, .inl f65)), (qf37, .inl (cf37, 800, .inl f37)), (qf36, .inl (cf36, 800, .inl f36)), (qf44, .inl (cf44, 1500, .inl f44)), (qf25, .inl (cf25, 400, .inl f25)), (qf6, .inl (cf6, 3002, .inl f6)), (qf5, .inl (cf5, 3002, .inl f5)), (qf2, .inl (cf2, 3000, .inl f2)), (qf35, .inl (cf35, 800, .inl f35)), (qf58, .inl (cf58, 2000, .inl f58)), (qf59, .inl (cf59, 2000, .inl f59)), (qf60, .inl (cf60, 2000, .inl f60)), (qf61, .inl (cf61, 2000, .inl f61)), (qf63, .inl (cf63, 40000, .inl f63))] s.heap.size = A at hD hZWS477 ⊢
  have hA : ∀ q : Nat, s.heap.size ≤ q → A q := fun q h => by rw [← hAe]; exact Or.inr h
  have hP : va_P (dC, dI) vwCl [(h0, .inr (13, zs)), (qf30, .inl (cf30, 800, .inl f30)), (qf65, .inl (cf65, 200, .inl f65)), (qf37, .inl (cf37, 800, .inl f37)), (qf36, .inl (cf36, 800, .inl f36)), (qf44, .inl (cf44, 1500, .inl f44)), (qf25, .inl (cf25, 400, .inl f25)), (qf6, .inl (cf6, 3002, .inl f6)), (qf5, .inl (cf5, 3002, .inl f5)), (qf2, .inl (cf2, 3000, .inl f2)), (qf35, .inl (cf35, 800, .inl f35)), (qf58, .inl (cf58, 2000, .inl f58)), (qf59, .inl (cf59, 2000, .inl f59)), (qf60, .inl (cf60, 2000, .inl f60)), (qf61, .inl (cf61, 2000, .inl f61)), (qf63, .inl (cf63, 40000, .inl f63))] s.heap := hP
  have hl := lv_entry ([.ref h0, .int a1]) (n := 3) (Nat.le_of_ble_eq_true rfl)
  rw [lg_entry_eq]
  generalize (lg_sl ([.ref h0, .int a1]) ++ List.replicate (3 - (lg_sl ([.ref h0, .int a1])).length) Slot.unset).toArray = ls at hl ⊢
  have hl : lv_has ls 3 [(0, .ref h0), (1, .int a1)] := hl
  obtain ⟨H, hH⟩ : ∃ H : Heap, s.heap = H := ⟨_, rfl⟩
  rw [hH] at hP ⊢
  have hS : va_S A s.heap H [] := by rw [← hH]; exact va_S.rf
  obtain ⟨locs, hlo⟩ : ∃ locs : List Loc, locs = [] := ⟨_, rfl⟩
  rw [← hlo] at hS ⊢
  have hrs0 : ∀ j : Nat, j ≠ 62 → j ≠ 64 → j ≠ 66 → zs[j]? = zs[j]? := fun _ _ _ _  => rfl
  unfold sp_vm_kindOf at hsp
  refine jn_use (α := Heap × List Loc × Array Slot × List Value × Int32 × (Nat → Int32) × (Nat → Int32) × (Nat → Int32) × (Nat → Int32) × (Nat → Int32) × (Nat → Int32) × Int32 × Int32 × Int32) (fun x9 => x9.1) (fun x9 => x9.2.1) (fun x9 => F0 m 56 x9.2.2.1 []) (fun x9 => match x9 with | (H, locs, ls, z56, l1_56, g58_56, g59_56, g60_56, g61_56, g63_56, g65_56, x62_56, x64_56, x66_56) => lv_has ls 3 [(0, .ref h0), (1, .int l1_56)] ∧ va_S A s.heap H locs ∧ va_D A [(h0, .inr (13, z56)), (qf30, .inl (cf30, 800, .inl f30)), (qf65, .inl (cf65, 200, .inl g65_56)), (qf37, .inl (cf37, 800, .inl f37)), (qf36, .inl (cf36, 800, .inl f36)), (qf44, .inl (cf44, 1500, .inl f44)), (qf25, .inl (cf25, 400, .inl f25)), (qf6, .inl (cf6, 3002, .inl f6)), (qf5, .inl (cf5, 3002, .inl f5)), (qf2, .inl (cf2, 3000, .inl f2)), (qf35, .inl (cf35, 800, .inl f35)), (qf58, .inl (cf58, 2000, .inl g58_56)), (qf59, .inl (cf59, 2000, .inl g59_56)), (qf60, .inl (cf60, 2000, .inl g60_56)), (qf61, .inl (cf61, 2000, .inl g61_56)), (qf63, .inl (cf63, 40000, .inl g63_56))] ∧ va_P (dC, dI) vwCl [(h0, .inr (13, z56)), (qf30, .inl (cf30, 800, .inl f30)), (qf65, .inl (cf65, 200, .inl g65_56)), (qf37, .inl (cf37, 800, .inl f37)), (qf36, .inl (cf36, 800, .inl f36)), (qf44, .inl (cf44, 1500, .inl f44)), (qf25, .inl (cf25, 400, .inl f25)), (qf6, .inl (cf6, 3002, .inl f6)), (qf5, .inl (cf5, 3002, .inl f5)), (qf2, .inl (cf2, 3000, .inl f2)), (qf35, .inl (cf35, 800, .inl f35)), (qf58, .inl (cf58, 2000, .inl g58_56)), (qf59, .inl (cf59, 2000, .inl g59_56)), (qf60, .inl (cf60, 2000, .inl g60_56)), (qf61, .inl (cf61, 2000, .inl g61_56)), (qf63, .inl (cf63, 40000, .inl g63_56))] H ∧ z56[2]? = some (.ref qf2) ∧ z56[5]? = some (.ref qf5) ∧ z56[6]? = some (.ref qf6) ∧ z56[25]? = some (.ref qf25) ∧ z56[30]? = some (.ref qf30) ∧ z56[35]? = some (.ref qf35) ∧ z56[36]? = some (.ref qf36) ∧ z56[37]? = some (.ref qf37) ∧ z56[44]? = some (.ref qf44) ∧ z56[58]? = some (.ref qf58) ∧ z56[59]? = some (.ref qf59) ∧ z56[60]? = some (.ref qf60) ∧ z56[61]? = some (.ref qf61) ∧ z56[62]? = some (.int x62_56) ∧ z56[63]? = some (.ref qf63) ∧ z56[64]? = some (.int x64_56) ∧ z56[65]? = some (.ref qf65) ∧ z56[66]? = some (.int x66_56) ∧ z56.length = 155 ∧ (∀ j : Nat, j ≠ 62 → j ≠ 64 → j ≠ 66 → z56[j]? = zs[j]?) ∧ jn_vm_kindOf_56 nf a1 v62 v64 v66 f30 f65 f37 f36 f44 f25 f6 f5 f2 f35 f58 f59 f60 f61 f63 nS477 fS477 l1_56 g58_56 g59_56 g60_56 g61_56 g63_56 g65_56 x62_56 x64_56 x66_56 = some (r0, o58, o59, o60, o61, o63, o65, w62, w64, w66)) ?_ ?_
  · intro x9 hJ9
    obtain ⟨H, locs, ls, z56, l1_56, g58_56, g59_56, g60_56, g61_56, g63_56, g65_56, x62_56, x64_56, x66_56⟩ := x9
    obtain ⟨hl, hS, hD, hP, hfh_56_2, hfh_56_5, hfh_56_6, hfh_56_25, hfh_56_30, hfh_56_35, hfh_56_36, hfh_56_37, hfh_56_44, hfh_56_58, hfh_56_59, hfh_56_60, hfh_56_61, hfh_56_62, hfh_56_63, hfh_56_64, hfh_56_65, hfh_56_66, hlh_56, hrh_56, hsp⟩ := hJ9
    replace hl : lv_has ls 3 [(0, .ref h0), (1, .int l1_56)] := hl
    replace hS : va_S A s.heap H locs := hS
    replace hD : va_D A [(h0, .inr (13, z56)), (qf30, .inl (cf30, 800, .inl f30)), (qf65, .inl (cf65, 200, .inl g65_56)), (qf37, .inl (cf37, 800, .inl f37)), (qf36, .inl (cf36, 800, .inl f36)), (qf44, .inl (cf44, 1500, .inl f44)), (qf25, .inl (cf25, 400, .inl f25)), (qf6, .inl (cf6, 3002, .inl f6)), (qf5, .inl (cf5, 3002, .inl f5)), (qf2, .inl (cf2, 3000, .inl f2)), (qf35, .inl (cf35, 800, .inl f35)), (qf58, .inl (cf58, 2000, .inl g58_56)), (qf59, .inl (cf59, 2000, .inl g59_56)), (qf60, .inl (cf60, 2000, .inl g60_56)), (qf61, .inl (cf61, 2000, .inl g61_56)), (qf63, .inl (cf63, 40000, .inl g63_56))] := hD
    replace hP : va_P (dC, dI) vwCl [(h0, .inr (13, z56)), (qf30, .inl (cf30, 800, .inl f30)), (qf65, .inl (cf65, 200, .inl g65_56)), (qf37, .inl (cf37, 800, .inl f37)), (qf36, .inl (cf36, 800, .inl f36)), (qf44, .inl (cf44, 1500, .inl f44)), (qf25, .inl (cf25, 400, .inl f25)), (qf6, .inl (cf6, 3002, .inl f6)), (qf5, .inl (cf5, 3002, .inl f5)), (qf2, .inl (cf2, 3000, .inl f2)), (qf35, .inl (cf35, 800, .inl f35)), (qf58, .inl (cf58, 2000, .inl g58_56)), (qf59, .inl (cf59, 2000, .inl g59_56)), (qf60, .inl (cf60, 2000, .inl g60_56)), (qf61, .inl (cf61, 2000, .inl g61_56)), (qf63, .inl (cf63, 40000, .inl g63_56))] H := hP
    replace hsp : jn_vm_kindOf_56 nf a1 v62 v64 v66 f30 f65 f37 f36 f44 f25 f6 f5 f2 f35 f58 f59 f60 f61 f63 nS477 fS477 l1_56 g58_56 g59_56 g60_56 g61_56 g63_56 g65_56 x62_56 x64_56 x66_56 = some (r0, o58, o59, o60, o61, o63, o65, w62, w64, w66) := hsp
    show W _ _ _ _ _ _ _ _ _ _ H locs _ _ _ (F0 m 56 ls [])
    unfold jn_vm_kindOf_56 at hsp
    try dsimp only at hsp
    refine lv_aload_n hx hb dX13_kindOf_56 rfl (lv_at hl 0 rfl) ?_
    refine lv_aload_n hx hb dX13_kindOf_57 rfl (lv_at hl 0 rfl) ?_
    refine va_get (D := (dC, dI)) (ci := 13) (v := .ref qf35) (C := RX13) (T := TX13) (N := 155) hx hb hts uV_h9_X13 hown hK hP 0 rfl rfl 35 (by decide) (hts (.fieldLink RX13 89 "ClassMillModel" "memberType" "[I") mw_h9_119) (fun _ h9 => h9) hfh_56_35 dX13_kindOf_58 ?_
    refine lv_iload_n hx hb dX13_kindOf_61 rfl (lv_at hl 1 rfl) ?_
    obtain ⟨hi_7, hsp⟩ := ox_in hsp
    refine va_iald hx hb hK hP 10 9 rfl rfl (i := l1_56) hi_7 dX13_kindOf_62 ?_
    obtain ⟨⟨g904_0, u4_1⟩, hu_4, hsp⟩ := ox_bind hsp
    try dsimp only at hsp
    have hPc := hP.sub (ws' := [(h0, .inr (13, z56)), (qf65, .inl (cf65, 200, .inl g65_56)), (qf25, .inl (cf25, 400, .inl f25)), (qf6, .inl (cf6, 3002, .inl f6)), (qf5, .inl (cf5, 3002, .inl f5)), (qf2, .inl (cf2, 3000, .inl f2))]) [0, 2, 6, 7, 8, 9] rfl
    have hDc := hD.sub (ws' := [(h0, .inr (13, z56)), (qf65, .inl (cf65, 200, .inl g65_56)), (qf25, .inl (cf25, 400, .inl f25)), (qf6, .inl (cf6, 3002, .inl f6)), (qf5, .inl (cf5, 3002, .inl f5)), (qf2, .inl (cf2, 3000, .inl f2))]) [0, 2, 6, 7, 8, 9] (by decide) rfl
    have hKc := hK.sub (tys' := [(cf65, .int), (cf25, .int), (cf6, .int), (cf5, .int), (cf2, .int)]) [1, 5, 6, 7, 8] rfl
    have hFc := va_free (wc := [(h0, .inr (13, z56)), (qf65, .inl (cf65, 200, .inl g65_56)), (qf25, .inl (cf25, 400, .inl f25)), (qf6, .inl (cf6, 3002, .inl f6)), (qf5, .inl (cf5, 3002, .inl f5)), (qf2, .inl (cf2, 3000, .inl f2))]) hD hS hA [0, 2, 6, 7, 8, 9] rfl
    refine va_callv (va_runV (As := [.int (f35 (l1_56 : Int32).toNatClampNeg)]) (rest := []) ⟨hx, hb, hml, hown, hts⟩ (vm_spellKind l dC dI H.size h0 z56 ((f35 (l1_56 : Int32).toNatClampNeg)) qf2 qf5 qf6 qf25 qf65 x66_56 cf65 g65_56 cf25 f25 cf6 f6 cf5 f5 cf2 f2 nS477 fS477 hS477 qS477 tS477 nf g904_0 u4_1 hlh_56 hfh_56_2 hfh_56_5 hfh_56_6 hfh_56_25 hfh_56_65 hfh_56_66 hu_4) (cwV 1 hts gv_h9_30 rfl rfl rfl (by decide +kernel) ⟨Nat.le_of_ble_eq_true rfl, Nat.le_of_ble_eq_true rfl⟩) ⟨fun a U g mk q => by obtain ⟨q0, q1, qP, qK, qD, qhZWS477, qhZRS477⟩ := q; exact ⟨q0, q1, qP, va_K.moved (u := U) (U := U.calling g mk a) (Vm.Alike.refl U.vm) qK, qD, pz_W.moved (u := U) (U := U.calling g mk a) (Vm.Alike.refl U.vm) qhZWS477, vk_R.same rfl qhZRS477⟩, va_recv hKc hPc (ci := 13) (q0 := 0) rfl rfl, fun U hU hW => ⟨rfl, by rw [hU], by rw [hU]; exact hPc, va_K.moved hW.alike hKc, hDc.weaken (fun _ _ _ _ => trivial), by rw [hU]; exact ((pz_W.moved hW.alike hZWS477).kept hS.2.1).narrow hFc, vk_R.warm hW hZRS477⟩⟩ rfl rfl hl.1 rfl (lv_room (Nat.le_of_ble_eq_true rfl)) dX13_kindOf_63 ⟨Nat.le_of_ble_eq_true rfl, Nat.le_of_ble_eq_true rfl⟩) hS (fun q _ h => hFc q h) hFc ?_
    clear hS
    intro u t H1 locs ht hvm hw hB hz1 hk1 hS
    obtain ⟨z_4, rfl⟩ : ∃ z, z = u := ⟨_, rfl⟩
    obtain ⟨hP1, hK1, hD1⟩ := hB
    rw [ht] at hP1
    have hK1 := va_K.moved hvm.symm hK1
    try dsimp only at hw
    have hPD := va_join (wr := [(qf30, .inl (cf30, 800, .inl f30)), (qf37, .inl (cf37, 800, .inl f37)), (qf36, .inl (cf36, 800, .inl f36)), (qf44, .inl (cf44, 1500, .inl f44)), (qf35, .inl (cf35, 800, .inl f35)), (qf58, .inl (cf58, 2000, .inl g58_56)), (qf59, .inl (cf59, 2000, .inl g59_56)), (qf60, .inl (cf60, 2000, .inl g60_56)), (qf61, .inl (cf61, 2000, .inl g61_56)), (qf63, .inl (cf63, 40000, .inl g63_56))]) (w1 := [(h0, .inr (13, z_4)), (qf65, .inl (cf65, 200, .inl g904_0)), (qf25, .inl (cf25, 400, .inl f25)), (qf6, .inl (cf6, 3002, .inl f6)), (qf5, .inl (cf5, 3002, .inl f5)), (qf2, .inl (cf2, 3000, .inl f2))]) hP hD [0, 2, 6, 7, 8, 9] [1, 3, 4, 5, 10, 11, 12, 13, 14, 15] rfl rfl (by decide) (by decide) hk1 hFc hP1 hD1
    clear hP hD
    obtain ⟨hP, hD⟩ := hPD
    replace hK := (hK.sub (tys' := [(cf30, .int), (cf37, .int), (cf36, .int), (cf44, .int), (cf35, .int), (cf58, .int), (cf59, .int), (cf60, .int), (cf61, .int), (cf63, .int)]) [0, 2, 3, 4, 9, 10, 11, 12, 13, 14] rfl).app hK1
    clear hPc hDc hKc hFc hP1 hK1 hD1 hz1 hk1 ht hvm
    generalize H1 = H at hP hS ⊢
    replace hP : va_P (dC, dI) vwCl [(qf30, .inl (cf30, 800, .inl f30)), (qf37, .inl (cf37, 800, .inl f37)), (qf36, .inl (cf36, 800, .inl f36)), (qf44, .inl (cf44, 1500, .inl f44)), (qf35, .inl (cf35, 800, .inl f35)), (qf58, .inl (cf58, 2000, .inl g58_56)), (qf59, .inl (cf59, 2000, .inl g59_56)), (qf60, .inl (cf60, 2000, .inl g60_56)), (qf61, .inl (cf61, 2000, .inl g61_56)), (qf63, .inl (cf63, 40000, .inl g63_56)), (h0, .inr (13, z_4)), (qf65, .inl (cf65, 200, .inl g904_0)), (qf25, .inl (cf25, 400, .inl f25)), (qf6, .inl (cf6, 3002, .inl f6)), (qf5, .inl (cf5, 3002, .inl f5)), (qf2, .inl (cf2, 3000, .inl f2))] H := hP
    replace hD : va_D A [(qf30, .inl (cf30, 800, .inl f30)), (qf37, .inl (cf37, 800, .inl f37)), (qf36, .inl (cf36, 800, .inl f36)), (qf44, .inl (cf44, 1500, .inl f44)), (qf35, .inl (cf35, 800, .inl f35)), (qf58, .inl (cf58, 2000, .inl g58_56)), (qf59, .inl (cf59, 2000, .inl g59_56)), (qf60, .inl (cf60, 2000, .inl g60_56)), (qf61, .inl (cf61, 2000, .inl g61_56)), (qf63, .inl (cf63, 40000, .inl g63_56)), (h0, .inr (13, z_4)), (qf65, .inl (cf65, 200, .inl g904_0)), (qf25, .inl (cf25, 400, .inl f25)), (qf6, .inl (cf6, 3002, .inl f6)), (qf5, .inl (cf5, 3002, .inl f5)), (qf2, .inl (cf2, 3000, .inl f2))] := hD
    replace hK : va_K (dC, dI) vwCl [(cf30, .int), (cf37, .int), (cf36, .int), (cf44, .int), (cf35, .int), (cf58, .int), (cf59, .int), (cf60, .int), (cf61, .int), (cf63, .int), (cf65, .int), (cf25, .int), (cf6, .int), (cf5, .int), (cf2, .int)] s := hK
    obtain ⟨hwa_4, hln_4, hre_4, hch_4_66⟩ := hw
    have hfk_4_2 : z_4[2]? = some (.ref qf2) := (hre_4 2 (by decide)).trans (hfh_56_2)
    have hfk_4_5 : z_4[5]? = some (.ref qf5) := (hre_4 5 (by decide)).trans (hfh_56_5)
    have hfk_4_6 : z_4[6]? = some (.ref qf6) := (hre_4 6 (by decide)).trans (hfh_56_6)
    have hfk_4_25 : z_4[25]? = some (.ref qf25) := (hre_4 25 (by decide)).trans (hfh_56_25)
    have hfk_4_30 : z_4[30]? = some (.ref qf30) := (hre_4 30 (by decide)).trans (hfh_56_30)
    have hfk_4_35 : z_4[35]? = some (.ref qf35) := (hre_4 35 (by decide)).trans (hfh_56_35)
    have hfk_4_36 : z_4[36]? = some (.ref qf36) := (hre_4 36 (by decide)).trans (hfh_56_36)
    have hfk_4_37 : z_4[37]? = some (.ref qf37) := (hre_4 37 (by decide)).trans (hfh_56_37)
    have hfk_4_44 : z_4[44]? = some (.ref qf44) := (hre_4 44 (by decide)).trans (hfh_56_44)
    have hfk_4_58 : z_4[58]? = some (.ref qf58) := (hre_4 58 (by decide)).trans (hfh_56_58)
    have hfk_4_59 : z_4[59]? = some (.ref qf59) := (hre_4 59 (by decide)).trans (hfh_56_59)
    have hfk_4_60 : z_4[60]? = some (.ref qf60) := (hre_4 60 (by decide)).trans (hfh_56_60)
    have hfk_4_61 : z_4[61]? = some (.ref qf61) := (hre_4 61 (by decide)).trans (hfh_56_61)
    have hfk_4_62 : z_4[62]? = some (.int x62_56) := (hre_4 62 (by decide)).trans (hfh_56_62)
    have hfk_4_63 : z_4[63]? = some (.ref qf63) := (hre_4 63 (by decide)).trans (hfh_56_63)
    have hfk_4_64 : z_4[64]? = some (.int x64_56) := (hre_4 64 (by decide)).trans (hfh_56_64)
    have hfk_4_65 : z_4[65]? = some (.ref qf65) := (hre_4 65 (by decide)).trans (hfh_56_65)
    have hrq_4 : ∀ j : Nat, j ≠ 62 → j ≠ 64 → j ≠ 66 → z_4[j]? = zs[j]? := fun j g62 g64 g66 => (hre_4 j g66).trans (hrh_56 j g62 g64 g66)
    refine lv_aload_n hx hb dX13_kindOf_66 rfl (lv_at hl 0 rfl) ?_
    obtain ⟨⟨u5_0, g905_1, g905_2, g905_3, g905_4, g905_5, u5_6, u5_7, u5_8⟩, hu_5, hsp⟩ := ox_bind hsp
    try dsimp only at hsp
    have hPc := hP.sub (ws' := [(h0, .inr (13, z_4)), (qf58, .inl (cf58, 2000, .inl g58_56)), (qf59, .inl (cf59, 2000, .inl g59_56)), (qf60, .inl (cf60, 2000, .inl g60_56)), (qf61, .inl (cf61, 2000, .inl g61_56)), (qf65, .inl (cf65, 200, .inl g904_0)), (qf63, .inl (cf63, 40000, .inl g63_56))]) [10, 5, 6, 7, 8, 11, 9] rfl
    have hDc := hD.sub (ws' := [(h0, .inr (13, z_4)), (qf58, .inl (cf58, 2000, .inl g58_56)), (qf59, .inl (cf59, 2000, .inl g59_56)), (qf60, .inl (cf60, 2000, .inl g60_56)), (qf61, .inl (cf61, 2000, .inl g61_56)), (qf65, .inl (cf65, 200, .inl g904_0)), (qf63, .inl (cf63, 40000, .inl g63_56))]) [10, 5, 6, 7, 8, 11, 9] (by decide) rfl
    have hKc := hK.sub (tys' := [(cf58, .int), (cf59, .int), (cf60, .int), (cf61, .int), (cf65, .int), (cf63, .int)]) [5, 6, 7, 8, 10, 9] rfl
    have hFc := va_free (wc := [(h0, .inr (13, z_4)), (qf58, .inl (cf58, 2000, .inl g58_56)), (qf59, .inl (cf59, 2000, .inl g59_56)), (qf60, .inl (cf60, 2000, .inl g60_56)), (qf61, .inl (cf61, 2000, .inl g61_56)), (qf65, .inl (cf65, 200, .inl g904_0)), (qf63, .inl (cf63, 40000, .inl g63_56))]) hD hS hA [10, 5, 6, 7, 8, 11, 9] rfl
    refine va_calli (va_runV (As := []) (rest := []) ⟨hx, hb, hml, hown, hts⟩ (vm_spelling l dC dI H.size h0 z_4 qf58 qf59 qf60 qf61 x62_56 qf63 x64_56 qf65 u4_1 cf58 g58_56 cf59 g59_56 cf60 g60_56 cf61 g61_56 cf65 g904_0 cf63 g63_56 nf u5_0 g905_1 g905_2 g905_3 g905_4 g905_5 u5_6 u5_7 u5_8 hln_4 hfk_4_58 hfk_4_59 hfk_4_60 hfk_4_61 hfk_4_62 hfk_4_63 hfk_4_64 hfk_4_65 hch_4_66 hu_5) (cwV 0 hts gv_h9_79 rfl rfl rfl (by decide +kernel) ⟨Nat.le_of_ble_eq_true rfl, Nat.le_of_ble_eq_true rfl⟩) ⟨fun a U g mk q => by obtain ⟨q0, q1, qP, qK, qD⟩ := q; exact ⟨q0, q1, qP, va_K.moved (u := U) (U := U.calling g mk a) (Vm.Alike.refl U.vm) qK, qD⟩, va_recv hKc hPc (ci := 13) (q0 := 0) rfl rfl, fun U hU hW => ⟨rfl, by rw [hU], by rw [hU]; exact hPc, va_K.moved hW.alike hKc, hDc.weaken (fun _ _ _ _ => trivial)⟩⟩ rfl rfl hl.1 rfl (lv_room (Nat.le_of_ble_eq_true rfl)) dX13_kindOf_67 ⟨Nat.le_of_ble_eq_true rfl, Nat.le_of_ble_eq_true rfl⟩) hS (fun q _ h => hFc q h) hFc ?_
    clear hS
    intro r_8 u t H1 locs ht hvm hw hB hz1 hk1 hS
    obtain ⟨z_5, rfl⟩ : ∃ z, z = u := ⟨_, rfl⟩
    obtain ⟨hP1, hK1, hD1⟩ := hB
    rw [ht] at hP1
    have hK1 := va_K.moved hvm.symm hK1
    try dsimp only at hw
    have hPD := va_join (wr := [(qf30, .inl (cf30, 800, .inl f30)), (qf37, .inl (cf37, 800, .inl f37)), (qf36, .inl (cf36, 800, .inl f36)), (qf44, .inl (cf44, 1500, .inl f44)), (qf35, .inl (cf35, 800, .inl f35)), (qf25, .inl (cf25, 400, .inl f25)), (qf6, .inl (cf6, 3002, .inl f6)), (qf5, .inl (cf5, 3002, .inl f5)), (qf2, .inl (cf2, 3000, .inl f2))]) (w1 := [(h0, .inr (13, z_5)), (qf58, .inl (cf58, 2000, .inl g905_1)), (qf59, .inl (cf59, 2000, .inl g905_2)), (qf60, .inl (cf60, 2000, .inl g905_3)), (qf61, .inl (cf61, 2000, .inl g905_4)), (qf65, .inl (cf65, 200, .inl g904_0)), (qf63, .inl (cf63, 40000, .inl g905_5))]) hP hD [10, 5, 6, 7, 8, 11, 9] [0, 1, 2, 3, 4, 12, 13, 14, 15] rfl rfl (by decide) (by decide) hk1 hFc hP1 hD1
    clear hP hD
    obtain ⟨hP, hD⟩ := hPD
    replace hK := (hK.sub (tys' := [(cf30, .int), (cf37, .int), (cf36, .int), (cf44, .int), (cf35, .int), (cf25, .int), (cf6, .int), (cf5, .int), (cf2, .int)]) [0, 1, 2, 3, 4, 11, 12, 13, 14] rfl).app hK1
    clear hPc hDc hKc hFc hP1 hK1 hD1 hz1 hk1 ht hvm
    generalize H1 = H at hP hS ⊢
    replace hP : va_P (dC, dI) vwCl [(qf30, .inl (cf30, 800, .inl f30)), (qf37, .inl (cf37, 800, .inl f37)), (qf36, .inl (cf36, 800, .inl f36)), (qf44, .inl (cf44, 1500, .inl f44)), (qf35, .inl (cf35, 800, .inl f35)), (qf25, .inl (cf25, 400, .inl f25)), (qf6, .inl (cf6, 3002, .inl f6)), (qf5, .inl (cf5, 3002, .inl f5)), (qf2, .inl (cf2, 3000, .inl f2)), (h0, .inr (13, z_5)), (qf58, .inl (cf58, 2000, .inl g905_1)), (qf59, .inl (cf59, 2000, .inl g905_2)), (qf60, .inl (cf60, 2000, .inl g905_3)), (qf61, .inl (cf61, 2000, .inl g905_4)), (qf65, .inl (cf65, 200, .inl g904_0)), (qf63, .inl (cf63, 40000, .inl g905_5))] H := hP
    replace hD : va_D A [(qf30, .inl (cf30, 800, .inl f30)), (qf37, .inl (cf37, 800, .inl f37)), (qf36, .inl (cf36, 800, .inl f36)), (qf44, .inl (cf44, 1500, .inl f44)), (qf35, .inl (cf35, 800, .inl f35)), (qf25, .inl (cf25, 400, .inl f25)), (qf6, .inl (cf6, 3002, .inl f6)), (qf5, .inl (cf5, 3002, .inl f5)), (qf2, .inl (cf2, 3000, .inl f2)), (h0, .inr (13, z_5)), (qf58, .inl (cf58, 2000, .inl g905_1)), (qf59, .inl (cf59, 2000, .inl g905_2)), (qf60, .inl (cf60, 2000, .inl g905_3)), (qf61, .inl (cf61, 2000, .inl g905_4)), (qf65, .inl (cf65, 200, .inl g904_0)), (qf63, .inl (cf63, 40000, .inl g905_5))] := hD
    replace hK : va_K (dC, dI) vwCl [(cf30, .int), (cf37, .int), (cf36, .int), (cf44, .int), (cf35, .int), (cf25, .int), (cf6, .int), (cf5, .int), (cf2, .int), (cf58, .int), (cf59, .int), (cf60, .int), (cf61, .int), (cf65, .int), (cf63, .int)] s := hK
    obtain ⟨hwa_5, hln_5, hre_5, hch_5_62, hch_5_64, hch_5_66⟩ := hw
    have hfk_5_2 : z_5[2]? = some (.ref qf2) := (hre_5 2 (by decide) (by decide) (by decide)).trans (hfk_4_2)
    have hfk_5_5 : z_5[5]? = some (.ref qf5) := (hre_5 5 (by decide) (by decide) (by decide)).trans (hfk_4_5)
    have hfk_5_6 : z_5[6]? = some (.ref qf6) := (hre_5 6 (by decide) (by decide) (by decide)).trans (hfk_4_6)
    have hfk_5_25 : z_5[25]? = some (.ref qf25) := (hre_5 25 (by decide) (by decide) (by decide)).trans (hfk_4_25)
    have hfk_5_30 : z_5[30]? = some (.ref qf30) := (hre_5 30 (by decide) (by decide) (by decide)).trans (hfk_4_30)
    have hfk_5_35 : z_5[35]? = some (.ref qf35) := (hre_5 35 (by decide) (by decide) (by decide)).trans (hfk_4_35)
    have hfk_5_36 : z_5[36]? = some (.ref qf36) := (hre_5 36 (by decide) (by decide) (by decide)).trans (hfk_4_36)
    have hfk_5_37 : z_5[37]? = some (.ref qf37) := (hre_5 37 (by decide) (by decide) (by decide)).trans (hfk_4_37)
    have hfk_5_44 : z_5[44]? = some (.ref qf44) := (hre_5 44 (by decide) (by decide) (by decide)).trans (hfk_4_44)
    have hfk_5_58 : z_5[58]? = some (.ref qf58) := (hre_5 58 (by decide) (by decide) (by decide)).trans (hfk_4_58)
    have hfk_5_59 : z_5[59]? = some (.ref qf59) := (hre_5 59 (by decide) (by decide) (by decide)).trans (hfk_4_59)
    have hfk_5_60 : z_5[60]? = some (.ref qf60) := (hre_5 60 (by decide) (by decide) (by decide)).trans (hfk_4_60)
    have hfk_5_61 : z_5[61]? = some (.ref qf61) := (hre_5 61 (by decide) (by decide) (by decide)).trans (hfk_4_61)
    have hfk_5_63 : z_5[63]? = some (.ref qf63) := (hre_5 63 (by decide) (by decide) (by decide)).trans (hfk_4_63)
    have hfk_5_65 : z_5[65]? = some (.ref qf65) := (hre_5 65 (by decide) (by decide) (by decide)).trans (hfk_4_65)
    have hrq_5 : ∀ j : Nat, j ≠ 62 → j ≠ 64 → j ≠ 66 → z_5[j]? = zs[j]? := fun j g62 g64 g66 => (hre_5 j g62 g64 g66).trans (hrq_4 j g62 g64 g66)
    obtain rfl := hwa_5
    have hr0 := Option.some.inj hsp
    clear hsp
    obtain ⟨hq0, hr1⟩ := Prod.mk.inj hr0
    clear hr0
    obtain ⟨hq1, hr2⟩ := Prod.mk.inj hr1
    clear hr1
    obtain ⟨hq2, hr3⟩ := Prod.mk.inj hr2
    clear hr2
    obtain ⟨hq3, hr4⟩ := Prod.mk.inj hr3
    clear hr3
    obtain ⟨hq4, hr5⟩ := Prod.mk.inj hr4
    clear hr4
    obtain ⟨hq5, hr6⟩ := Prod.mk.inj hr5
    clear hr5
    obtain ⟨hq6, hr7⟩ := Prod.mk.inj hr6
    clear hr6
    obtain ⟨hq7, hr8⟩ := Prod.mk.inj hr7
    clear hr7
    obtain ⟨hq8, hr9⟩ := Prod.mk.inj hr8
    clear hr8
    subst hq0
    subst hq1
    subst hq2
    subst hq3
    subst hq4
    subst hq5
    subst hq6
    subst hq7
    subst hq8
    subst hr9
    have hP9 := hP.sub (ws' := [(h0, .inr (13, z_5)), (qf30, .inl (cf30, 800, .inl f30)), (qf65, .inl (cf65, 200, .inl g904_0)), (qf37, .inl (cf37, 800, .inl f37)), (qf36, .inl (cf36, 800, .inl f36)), (qf44, .inl (cf44, 1500, .inl f44)), (qf25, .inl (cf25, 400, .inl f25)), (qf6, .inl (cf6, 3002, .inl f6)), (qf5, .inl (cf5, 3002, .inl f5)), (qf2, .inl (cf2, 3000, .inl f2)), (qf35, .inl (cf35, 800, .inl f35)), (qf58, .inl (cf58, 2000, .inl g905_1)), (qf59, .inl (cf59, 2000, .inl g905_2)), (qf60, .inl (cf60, 2000, .inl g905_3)), (qf61, .inl (cf61, 2000, .inl g905_4)), (qf63, .inl (cf63, 40000, .inl g905_5))]) [9, 0, 14, 1, 2, 3, 5, 6, 7, 8, 4, 10, 11, 12, 13, 15] rfl
    have hD9 := hD.sub (ws' := [(h0, .inr (13, z_5)), (qf30, .inl (cf30, 800, .inl f30)), (qf65, .inl (cf65, 200, .inl g904_0)), (qf37, .inl (cf37, 800, .inl f37)), (qf36, .inl (cf36, 800, .inl f36)), (qf44, .inl (cf44, 1500, .inl f44)), (qf25, .inl (cf25, 400, .inl f25)), (qf6, .inl (cf6, 3002, .inl f6)), (qf5, .inl (cf5, 3002, .inl f5)), (qf2, .inl (cf2, 3000, .inl f2)), (qf35, .inl (cf35, 800, .inl f35)), (qf58, .inl (cf58, 2000, .inl g905_1)), (qf59, .inl (cf59, 2000, .inl g905_2)), (qf60, .inl (cf60, 2000, .inl g905_3)), (qf61, .inl (cf61, 2000, .inl g905_4)), (qf63, .inl (cf63, 40000, .inl g905_5))]) [9, 0, 14, 1, 2, 3, 5, 6, 7, 8, 4, 10, 11, 12, 13, 15] (by decide) rfl
    have hK9 := hK.sub (tys' := [(cf30, .int), (cf65, .int), (cf37, .int), (cf36, .int), (cf44, .int), (cf25, .int), (cf6, .int), (cf5, .int), (cf2, .int), (cf35, .int), (cf58, .int), (cf59, .int), (cf60, .int), (cf61, .int), (cf63, .int)]) [0, 13, 1, 2, 3, 5, 6, 7, 8, 4, 9, 10, 11, 12, 14] rfl
    exact W.iret hx hb hr (fun t ht hW => ⟨⟨(u5_0), (z_5), rfl, ⟨rfl, hln_5, hrq_5, hch_5_62, hch_5_64, hch_5_66⟩, by rw [ht]; exact hP9, va_K.moved hW.alike hK9, hD9⟩, hS.F ht⟩) hS.2.2 dX13_kindOf_70
  intro hj_56
  refine lv_aload_n hx hb dX13_kindOf_0 rfl (lv_at hl 0 rfl) ?_
  refine va_get (D := (dC, dI)) (ci := 13) (v := .ref qf30) (C := RX13) (T := TX13) (N := 155) hx hb hts uV_h9_X13 hown hK hP 0 rfl rfl 30 (by decide) (hts (.fieldLink RX13 74 "ClassMillModel" "memberSort" "[I") mw_h9_123) (fun _ h9 => h9) hf30 dX13_kindOf_1 ?_
  refine lv_iload_n hx hb dX13_kindOf_4 rfl (lv_at hl 1 rfl) ?_
  obtain ⟨hi_1, hsp⟩ := ox_in hsp
  refine va_iald hx hb hK hP 1 0 rfl rfl (i := a1) hi_1 dX13_kindOf_5 ?_
  refine lv_if_le (tgt := 56) hx hb dX13_kindOf_6 (by decide) (fun c_2 => ?_) (fun c_2 => ?_)
  · rw [if_pos c_2] at hsp
    exact hj_56 (H, locs, ls, zs, a1, f58, f59, f60, f61, f63, f65, v62, v64, v66) ⟨lv_sub hl [0, 1] rfl, hS, hD.sub (ws' := [(h0, .inr (13, zs)), (qf30, .inl (cf30, 800, .inl f30)), (qf65, .inl (cf65, 200, .inl f65)), (qf37, .inl (cf37, 800, .inl f37)), (qf36, .inl (cf36, 800, .inl f36)), (qf44, .inl (cf44, 1500, .inl f44)), (qf25, .inl (cf25, 400, .inl f25)), (qf6, .inl (cf6, 3002, .inl f6)), (qf5, .inl (cf5, 3002, .inl f5)), (qf2, .inl (cf2, 3000, .inl f2)), (qf35, .inl (cf35, 800, .inl f35)), (qf58, .inl (cf58, 2000, .inl f58)), (qf59, .inl (cf59, 2000, .inl f59)), (qf60, .inl (cf60, 2000, .inl f60)), (qf61, .inl (cf61, 2000, .inl f61)), (qf63, .inl (cf63, 40000, .inl f63))]) [0, 1, 2, 3, 4, 5, 6, 7, 8, 9, 10, 11, 12, 13, 14, 15] (by decide) rfl, hP.sub (ws' := [(h0, .inr (13, zs)), (qf30, .inl (cf30, 800, .inl f30)), (qf65, .inl (cf65, 200, .inl f65)), (qf37, .inl (cf37, 800, .inl f37)), (qf36, .inl (cf36, 800, .inl f36)), (qf44, .inl (cf44, 1500, .inl f44)), (qf25, .inl (cf25, 400, .inl f25)), (qf6, .inl (cf6, 3002, .inl f6)), (qf5, .inl (cf5, 3002, .inl f5)), (qf2, .inl (cf2, 3000, .inl f2)), (qf35, .inl (cf35, 800, .inl f35)), (qf58, .inl (cf58, 2000, .inl f58)), (qf59, .inl (cf59, 2000, .inl f59)), (qf60, .inl (cf60, 2000, .inl f60)), (qf61, .inl (cf61, 2000, .inl f61)), (qf63, .inl (cf63, 40000, .inl f63))]) [0, 1, 2, 3, 4, 5, 6, 7, 8, 9, 10, 11, 12, 13, 14, 15] rfl, hf2, hf5, hf6, hf25, hf30, hf35, hf36, hf37, hf44, hf58, hf59, hf60, hf61, hf62, hf63, hf64, hf65, hf66, hlen, hrs0, hsp⟩
  · rw [if_neg c_2] at hsp
    refine lv_aload_n hx hb dX13_kindOf_9 rfl (lv_at hl 0 rfl) ?_
    refine lv_bipush (v := 40) hx hb dX13_kindOf_10 (by decide) ?_
    obtain ⟨⟨g901_0, u1_1⟩, hu_1, hsp⟩ := ox_bind hsp
    try dsimp only at hsp
    have hPc := hP.sub (ws' := [(h0, .inr (13, zs)), (qf65, .inl (cf65, 200, .inl f65))]) [0, 2] rfl
    have hDc := hD.sub (ws' := [(h0, .inr (13, zs)), (qf65, .inl (cf65, 200, .inl f65))]) [0, 2] (by decide) rfl
    have hKc := hK.sub (tys' := [(cf65, .int)]) [1] rfl
    have hFc := va_free (wc := [(h0, .inr (13, zs)), (qf65, .inl (cf65, 200, .inl f65))]) hD hS hA [0, 2] rfl
    refine va_callv (va_runV (As := [.int 40]) (rest := []) ⟨hx, hb, hml, hown, hts⟩ (tm_spell l dC dI H.size h0 zs 40 qf65 v66 cf65 f65 nf g901_0 u1_1 hlen hf65 hf66 hu_1) (cwV 1 hts gv_h9_27 rfl rfl rfl (by decide +kernel) ⟨Nat.le_of_ble_eq_true rfl, Nat.le_of_ble_eq_true rfl⟩) ⟨fun a U g mk q => by obtain ⟨q0, q1, qP, qK, qD⟩ := q; exact ⟨q0, q1, qP, va_K.moved (u := U) (U := U.calling g mk a) (Vm.Alike.refl U.vm) qK, qD⟩, va_recv hKc hPc (ci := 13) (q0 := 0) rfl rfl, fun U hU hW => ⟨rfl, by rw [hU], by rw [hU]; exact hPc, va_K.moved hW.alike hKc, hDc.weaken (fun _ _ _ _ => trivial)⟩⟩ rfl rfl hl.1 rfl (lv_room (Nat.le_of_ble_eq_true rfl)) dX13_kindOf_12 ⟨Nat.le_of_ble_eq_true rfl, Nat.le_of_ble_eq_true rfl⟩) hS (fun q _ h => hFc q h) hFc ?_
    clear hS
    intro u t H1 locs ht hvm hw hB hz1 hk1 hS
    obtain ⟨z_1, rfl⟩ : ∃ z, z = u := ⟨_, rfl⟩
    obtain ⟨hP1, hK1, hD1⟩ := hB
    rw [ht] at hP1
    have hK1 := va_K.moved hvm.symm hK1
    try dsimp only at hw
    have hPD := va_join (wr := [(qf30, .inl (cf30, 800, .inl f30)), (qf37, .inl (cf37, 800, .inl f37)), (qf36, .inl (cf36, 800, .inl f36)), (qf44, .inl (cf44, 1500, .inl f44)), (qf25, .inl (cf25, 400, .inl f25)), (qf6, .inl (cf6, 3002, .inl f6)), (qf5, .inl (cf5, 3002, .inl f5)), (qf2, .inl (cf2, 3000, .inl f2)), (qf35, .inl (cf35, 800, .inl f35)), (qf58, .inl (cf58, 2000, .inl f58)), (qf59, .inl (cf59, 2000, .inl f59)), (qf60, .inl (cf60, 2000, .inl f60)), (qf61, .inl (cf61, 2000, .inl f61)), (qf63, .inl (cf63, 40000, .inl f63))]) (w1 := [(h0, .inr (13, z_1)), (qf65, .inl (cf65, 200, .inl g901_0))]) hP hD [0, 2] [1, 3, 4, 5, 6, 7, 8, 9, 10, 11, 12, 13, 14, 15] rfl rfl (by decide) (by decide) hk1 hFc hP1 hD1
    clear hP hD
    obtain ⟨hP, hD⟩ := hPD
    replace hK := (hK.sub (tys' := [(cf30, .int), (cf37, .int), (cf36, .int), (cf44, .int), (cf25, .int), (cf6, .int), (cf5, .int), (cf2, .int), (cf35, .int), (cf58, .int), (cf59, .int), (cf60, .int), (cf61, .int), (cf63, .int)]) [0, 2, 3, 4, 5, 6, 7, 8, 9, 10, 11, 12, 13, 14] rfl).app hK1
    clear hPc hDc hKc hFc hP1 hK1 hD1 hz1 hk1 ht hvm
    generalize H1 = H at hP hS ⊢
    replace hP : va_P (dC, dI) vwCl [(qf30, .inl (cf30, 800, .inl f30)), (qf37, .inl (cf37, 800, .inl f37)), (qf36, .inl (cf36, 800, .inl f36)), (qf44, .inl (cf44, 1500, .inl f44)), (qf25, .inl (cf25, 400, .inl f25)), (qf6, .inl (cf6, 3002, .inl f6)), (qf5, .inl (cf5, 3002, .inl f5)), (qf2, .inl (cf2, 3000, .inl f2)), (qf35, .inl (cf35, 800, .inl f35)), (qf58, .inl (cf58, 2000, .inl f58)), (qf59, .inl (cf59, 2000, .inl f59)), (qf60, .inl (cf60, 2000, .inl f60)), (qf61, .inl (cf61, 2000, .inl f61)), (qf63, .inl (cf63, 40000, .inl f63)), (h0, .inr (13, z_1)), (qf65, .inl (cf65, 200, .inl g901_0))] H := hP
    replace hD : va_D A [(qf30, .inl (cf30, 800, .inl f30)), (qf37, .inl (cf37, 800, .inl f37)), (qf36, .inl (cf36, 800, .inl f36)), (qf44, .inl (cf44, 1500, .inl f44)), (qf25, .inl (cf25, 400, .inl f25)), (qf6, .inl (cf6, 3002, .inl f6)), (qf5, .inl (cf5, 3002, .inl f5)), (qf2, .inl (cf2, 3000, .inl f2)), (qf35, .inl (cf35, 800, .inl f35)), (qf58, .inl (cf58, 2000, .inl f58)), (qf59, .inl (cf59, 2000, .inl f59)), (qf60, .inl (cf60, 2000, .inl f60)), (qf61, .inl (cf61, 2000, .inl f61)), (qf63, .inl (cf63, 40000, .inl f63)), (h0, .inr (13, z_1)), (qf65, .inl (cf65, 200, .inl g901_0))] := hD
    replace hK : va_K (dC, dI) vwCl [(cf30, .int), (cf37, .int), (cf36, .int), (cf44, .int), (cf25, .int), (cf6, .int), (cf5, .int), (cf2, .int), (cf35, .int), (cf58, .int), (cf59, .int), (cf60, .int), (cf61, .int), (cf63, .int), (cf65, .int)] s := hK
    obtain ⟨hwa_1, hln_1, hre_1, hch_1_66⟩ := hw
    have hfk_1_2 : z_1[2]? = some (.ref qf2) := (hre_1 2 (by decide)).trans (hf2)
    have hfk_1_5 : z_1[5]? = some (.ref qf5) := (hre_1 5 (by decide)).trans (hf5)
    have hfk_1_6 : z_1[6]? = some (.ref qf6) := (hre_1 6 (by decide)).trans (hf6)
    have hfk_1_25 : z_1[25]? = some (.ref qf25) := (hre_1 25 (by decide)).trans (hf25)
    have hfk_1_30 : z_1[30]? = some (.ref qf30) := (hre_1 30 (by decide)).trans (hf30)
    have hfk_1_35 : z_1[35]? = some (.ref qf35) := (hre_1 35 (by decide)).trans (hf35)
    have hfk_1_36 : z_1[36]? = some (.ref qf36) := (hre_1 36 (by decide)).trans (hf36)
    have hfk_1_37 : z_1[37]? = some (.ref qf37) := (hre_1 37 (by decide)).trans (hf37)
    have hfk_1_44 : z_1[44]? = some (.ref qf44) := (hre_1 44 (by decide)).trans (hf44)
    have hfk_1_58 : z_1[58]? = some (.ref qf58) := (hre_1 58 (by decide)).trans (hf58)
    have hfk_1_59 : z_1[59]? = some (.ref qf59) := (hre_1 59 (by decide)).trans (hf59)
    have hfk_1_60 : z_1[60]? = some (.ref qf60) := (hre_1 60 (by decide)).trans (hf60)
    have hfk_1_61 : z_1[61]? = some (.ref qf61) := (hre_1 61 (by decide)).trans (hf61)
    have hfk_1_62 : z_1[62]? = some (.int v62) := (hre_1 62 (by decide)).trans (hf62)
    have hfk_1_63 : z_1[63]? = some (.ref qf63) := (hre_1 63 (by decide)).trans (hf63)
    have hfk_1_64 : z_1[64]? = some (.int v64) := (hre_1 64 (by decide)).trans (hf64)
    have hfk_1_65 : z_1[65]? = some (.ref qf65) := (hre_1 65 (by decide)).trans (hf65)
    have hrq_1 : ∀ j : Nat, j ≠ 62 → j ≠ 64 → j ≠ 66 → z_1[j]? = zs[j]? := fun j g62 g64 g66 => (hre_1 j g66).trans (hrs0 j g62 g64 g66)
    refine lv_iconst (v := 0) hx hb dX13_kindOf_15 (by decide) ?_
    refine lv_istore_n (lv' := [(2, .int 0), (0, .ref h0), (1, .int a1)]) hx hb dX13_kindOf_16 rfl hl (by decide) rfl (fun ls hl => ?_)
    replace hl : lv_has ls 3 [(2, .int 0), (0, .ref h0), (1, .int a1)] := lv_sub hl [0, 1, 2] rfl
    replace hP := hP.sub (ws' := [(h0, .inr (13, z_1)), (qf30, .inl (cf30, 800, .inl f30)), (qf65, .inl (cf65, 200, .inl g901_0)), (qf37, .inl (cf37, 800, .inl f37)), (qf36, .inl (cf36, 800, .inl f36)), (qf44, .inl (cf44, 1500, .inl f44)), (qf25, .inl (cf25, 400, .inl f25)), (qf6, .inl (cf6, 3002, .inl f6)), (qf5, .inl (cf5, 3002, .inl f5)), (qf2, .inl (cf2, 3000, .inl f2)), (qf35, .inl (cf35, 800, .inl f35)), (qf58, .inl (cf58, 2000, .inl f58)), (qf59, .inl (cf59, 2000, .inl f59)), (qf60, .inl (cf60, 2000, .inl f60)), (qf61, .inl (cf61, 2000, .inl f61)), (qf63, .inl (cf63, 40000, .inl f63))]) [14, 0, 15, 1, 2, 3, 4, 5, 6, 7, 8, 9, 10, 11, 12, 13] rfl
    replace hD := hD.sub (ws' := [(h0, .inr (13, z_1)), (qf30, .inl (cf30, 800, .inl f30)), (qf65, .inl (cf65, 200, .inl g901_0)), (qf37, .inl (cf37, 800, .inl f37)), (qf36, .inl (cf36, 800, .inl f36)), (qf44, .inl (cf44, 1500, .inl f44)), (qf25, .inl (cf25, 400, .inl f25)), (qf6, .inl (cf6, 3002, .inl f6)), (qf5, .inl (cf5, 3002, .inl f5)), (qf2, .inl (cf2, 3000, .inl f2)), (qf35, .inl (cf35, 800, .inl f35)), (qf58, .inl (cf58, 2000, .inl f58)), (qf59, .inl (cf59, 2000, .inl f59)), (qf60, .inl (cf60, 2000, .inl f60)), (qf61, .inl (cf61, 2000, .inl f61)), (qf63, .inl (cf63, 40000, .inl f63))]) [14, 0, 15, 1, 2, 3, 4, 5, 6, 7, 8, 9, 10, 11, 12, 13] (by decide) rfl
    replace hK := hK.sub (tys' := [(cf30, .int), (cf65, .int), (cf37, .int), (cf36, .int), (cf44, .int), (cf25, .int), (cf6, .int), (cf5, .int), (cf2, .int), (cf35, .int), (cf58, .int), (cf59, .int), (cf60, .int), (cf61, .int), (cf63, .int)]) [0, 14, 1, 2, 3, 4, 5, 6, 7, 8, 9, 10, 11, 12, 13] rfl
    obtain ⟨n_17, hn_17⟩ : ∃ z : Nat, z = nf := ⟨_, rfl⟩
    obtain ⟨l1_17, el1_17⟩ : ∃ z : Int32, z = a1 := ⟨_, rfl⟩
    obtain ⟨l2_17, el2_17⟩ : ∃ z : Int32, z = 0 := ⟨_, rfl⟩
    obtain ⟨g58_17, eg58_17⟩ : ∃ z : Nat → Int32, z = f58 := ⟨_, rfl⟩
    obtain ⟨g59_17, eg59_17⟩ : ∃ z : Nat → Int32, z = f59 := ⟨_, rfl⟩
    obtain ⟨g60_17, eg60_17⟩ : ∃ z : Nat → Int32, z = f60 := ⟨_, rfl⟩
    obtain ⟨g61_17, eg61_17⟩ : ∃ z : Nat → Int32, z = f61 := ⟨_, rfl⟩
    obtain ⟨g63_17, eg63_17⟩ : ∃ z : Nat → Int32, z = f63 := ⟨_, rfl⟩
    obtain ⟨g65_17, eg65_17⟩ : ∃ z : Nat → Int32, z = g901_0 := ⟨_, rfl⟩
    obtain ⟨x62_17, ex62_17⟩ : ∃ z : Int32, z = v62 := ⟨_, rfl⟩
    obtain ⟨x64_17, ex64_17⟩ : ∃ z : Int32, z = v64 := ⟨_, rfl⟩
    obtain ⟨x66_17, ex66_17⟩ : ∃ z : Int32, z = u1_1 := ⟨_, rfl⟩
    replace hsp : lp_vm_kindOf_17 nf n_17 a1 v62 v64 v66 f30 f65 f37 f36 f44 f25 f6 f5 f2 f35 f58 f59 f60 f61 f63 nS477 fS477 l1_17 l2_17 g58_17 g59_17 g60_17 g61_17 g63_17 g65_17 x62_17 x64_17 x66_17 = some (r0, o58, o59, o60, o61, o63, o65, w62, w64, w66) := by rw [hn_17, el1_17, el2_17, eg58_17, eg59_17, eg60_17, eg61_17, eg63_17, eg65_17, ex62_17, ex64_17, ex66_17]; exact hsp
    replace hl : lv_has ls 3 [(2, .int l2_17), (0, .ref h0), (1, .int l1_17)] := by rw [el1_17, el2_17]; exact hl
    obtain ⟨z17, ez17⟩ : ∃ z : List Value, z = z_1 := ⟨_, rfl⟩
    have hfh_17_2 : z17[2]? = some (.ref qf2) := by rw [ez17]; exact hfk_1_2
    have hfh_17_5 : z17[5]? = some (.ref qf5) := by rw [ez17]; exact hfk_1_5
    have hfh_17_6 : z17[6]? = some (.ref qf6) := by rw [ez17]; exact hfk_1_6
    have hfh_17_25 : z17[25]? = some (.ref qf25) := by rw [ez17]; exact hfk_1_25
    have hfh_17_30 : z17[30]? = some (.ref qf30) := by rw [ez17]; exact hfk_1_30
    have hfh_17_35 : z17[35]? = some (.ref qf35) := by rw [ez17]; exact hfk_1_35
    have hfh_17_36 : z17[36]? = some (.ref qf36) := by rw [ez17]; exact hfk_1_36
    have hfh_17_37 : z17[37]? = some (.ref qf37) := by rw [ez17]; exact hfk_1_37
    have hfh_17_44 : z17[44]? = some (.ref qf44) := by rw [ez17]; exact hfk_1_44
    have hfh_17_58 : z17[58]? = some (.ref qf58) := by rw [ez17]; exact hfk_1_58
    have hfh_17_59 : z17[59]? = some (.ref qf59) := by rw [ez17]; exact hfk_1_59
    have hfh_17_60 : z17[60]? = some (.ref qf60) := by rw [ez17]; exact hfk_1_60
    have hfh_17_61 : z17[61]? = some (.ref qf61) := by rw [ez17]; exact hfk_1_61
    have hfh_17_62 : z17[62]? = some (.int x62_17) := by rw [ez17, ex62_17]; exact hfk_1_62
    have hfh_17_63 : z17[63]? = some (.ref qf63) := by rw [ez17]; exact hfk_1_63
    have hfh_17_64 : z17[64]? = some (.int x64_17) := by rw [ez17, ex64_17]; exact hfk_1_64
    have hfh_17_65 : z17[65]? = some (.ref qf65) := by rw [ez17]; exact hfk_1_65
    have hfh_17_66 : z17[66]? = some (.int x66_17) := by rw [ez17, ex66_17]; exact hch_1_66
    have hlh_17 : z17.length = 155 := by rw [ez17]; exact hln_1
    have hrh_17 : ∀ j : Nat, j ≠ 62 → j ≠ 64 → j ≠ 66 → z17[j]? = zs[j]? := by rw [ez17]; exact hrq_1
    replace hP : va_P (dC, dI) vwCl [(h0, .inr (13, z17)), (qf30, .inl (cf30, 800, .inl f30)), (qf65, .inl (cf65, 200, .inl g65_17)), (qf37, .inl (cf37, 800, .inl f37)), (qf36, .inl (cf36, 800, .inl f36)), (qf44, .inl (cf44, 1500, .inl f44)), (qf25, .inl (cf25, 400, .inl f25)), (qf6, .inl (cf6, 3002, .inl f6)), (qf5, .inl (cf5, 3002, .inl f5)), (qf2, .inl (cf2, 3000, .inl f2)), (qf35, .inl (cf35, 800, .inl f35)), (qf58, .inl (cf58, 2000, .inl g58_17)), (qf59, .inl (cf59, 2000, .inl g59_17)), (qf60, .inl (cf60, 2000, .inl g60_17)), (qf61, .inl (cf61, 2000, .inl g61_17)), (qf63, .inl (cf63, 40000, .inl g63_17))] H := by rw [ez17, eg58_17, eg59_17, eg60_17, eg61_17, eg63_17, eg65_17]; exact hP
    replace hD : va_D A [(h0, .inr (13, z17)), (qf30, .inl (cf30, 800, .inl f30)), (qf65, .inl (cf65, 200, .inl g65_17)), (qf37, .inl (cf37, 800, .inl f37)), (qf36, .inl (cf36, 800, .inl f36)), (qf44, .inl (cf44, 1500, .inl f44)), (qf25, .inl (cf25, 400, .inl f25)), (qf6, .inl (cf6, 3002, .inl f6)), (qf5, .inl (cf5, 3002, .inl f5)), (qf2, .inl (cf2, 3000, .inl f2)), (qf35, .inl (cf35, 800, .inl f35)), (qf58, .inl (cf58, 2000, .inl g58_17)), (qf59, .inl (cf59, 2000, .inl g59_17)), (qf60, .inl (cf60, 2000, .inl g60_17)), (qf61, .inl (cf61, 2000, .inl g61_17)), (qf63, .inl (cf63, 40000, .inl g63_17))] := by rw [ez17, eg58_17, eg59_17, eg60_17, eg61_17, eg63_17, eg65_17]; exact hD
    clear hn_17 ez17 el1_17 el2_17 eg58_17 eg59_17 eg60_17 eg61_17 eg63_17 eg65_17 ex62_17 ex64_17 ex66_17
    try clear hlo
    try clear hH
    revert hsp
    revert hP
    revert hD
    revert hS
    revert hl
    revert hrh_17
    revert hlh_17
    revert hfh_17_66
    revert hfh_17_65
    revert hfh_17_64
    revert hfh_17_63
    revert hfh_17_62
    revert hfh_17_61
    revert hfh_17_60
    revert hfh_17_59
    revert hfh_17_58
    revert hfh_17_44
    revert hfh_17_37
    revert hfh_17_36
    revert hfh_17_35
    revert hfh_17_30
    revert hfh_17_25
    revert hfh_17_6
    revert hfh_17_5
    revert hfh_17_2
    revert x66_17
    revert x64_17
    revert x62_17
    revert g65_17
    revert g63_17
    revert g61_17
    revert g60_17
    revert g59_17
    revert g58_17
    revert l2_17
    revert l1_17
    revert z17
    revert ls
    revert locs
    revert H
    induction n_17 with
    | zero => intro H locs ls z17 l1_17 l2_17 g58_17 g59_17 g60_17 g61_17 g63_17 g65_17 x62_17 x64_17 x66_17 hfh_17_2 hfh_17_5 hfh_17_6 hfh_17_25 hfh_17_30 hfh_17_35 hfh_17_36 hfh_17_37 hfh_17_44 hfh_17_58 hfh_17_59 hfh_17_60 hfh_17_61 hfh_17_62 hfh_17_63 hfh_17_64 hfh_17_65 hfh_17_66 hlh_17 hrh_17 hl hS hD hP hsp; unfold lp_vm_kindOf_17 at hsp; cases hsp
    | succ n_17 ih_17 =>
      intro H locs ls z17 l1_17 l2_17 g58_17 g59_17 g60_17 g61_17 g63_17 g65_17 x62_17 x64_17 x66_17 hfh_17_2 hfh_17_5 hfh_17_6 hfh_17_25 hfh_17_30 hfh_17_35 hfh_17_36 hfh_17_37 hfh_17_44 hfh_17_58 hfh_17_59 hfh_17_60 hfh_17_61 hfh_17_62 hfh_17_63 hfh_17_64 hfh_17_65 hfh_17_66 hlh_17 hrh_17 hl hS hD hP hsp
      unfold lp_vm_kindOf_17 at hsp
      try dsimp only at hsp
      refine lv_iload_n hx hb dX13_kindOf_17 rfl (lv_at hl 0 rfl) ?_
      refine lv_aload_n hx hb dX13_kindOf_18 rfl (lv_at hl 1 rfl) ?_
      refine va_get (D := (dC, dI)) (ci := 13) (v := .ref qf37) (C := RX13) (T := TX13) (N := 155) hx hb hts uV_h9_X13 hown hK hP 0 rfl rfl 37 (by decide) (hts (.fieldLink RX13 95 "ClassMillModel" "memberMany" "[I") mw_h9_113) (fun _ h9 => h9) hfh_17_37 dX13_kindOf_19 ?_
      refine lv_iload_n hx hb dX13_kindOf_22 rfl (lv_at hl 2 rfl) ?_
      obtain ⟨hi_3, hsp⟩ := ox_in hsp
      refine va_iald hx hb hK hP 3 2 rfl rfl (i := l1_17) hi_3 dX13_kindOf_23 ?_
      refine lv_icmp_ge (tgt := 50) hx hb dX13_kindOf_24 (by decide) (fun c_4 => ?_) (fun c_4 => ?_)
      · rw [if_pos c_4] at hsp
        refine lv_aload_n hx hb dX13_kindOf_50 rfl (lv_at hl 1 rfl) ?_
        refine lv_bipush (v := 41) hx hb dX13_kindOf_51 (by decide) ?_
        obtain ⟨⟨g902_0, u2_1⟩, hu_2, hsp⟩ := ox_bind hsp
        try dsimp only at hsp
        have hPc := hP.sub (ws' := [(h0, .inr (13, z17)), (qf65, .inl (cf65, 200, .inl g65_17))]) [0, 2] rfl
        have hDc := hD.sub (ws' := [(h0, .inr (13, z17)), (qf65, .inl (cf65, 200, .inl g65_17))]) [0, 2] (by decide) rfl
        have hKc := hK.sub (tys' := [(cf65, .int)]) [1] rfl
        have hFc := va_free (wc := [(h0, .inr (13, z17)), (qf65, .inl (cf65, 200, .inl g65_17))]) hD hS hA [0, 2] rfl
        refine va_callv (va_runV (As := [.int 41]) (rest := []) ⟨hx, hb, hml, hown, hts⟩ (tm_spell l dC dI H.size h0 z17 41 qf65 x66_17 cf65 g65_17 nf g902_0 u2_1 hlh_17 hfh_17_65 hfh_17_66 hu_2) (cwV 1 hts gv_h9_27 rfl rfl rfl (by decide +kernel) ⟨Nat.le_of_ble_eq_true rfl, Nat.le_of_ble_eq_true rfl⟩) ⟨fun a U g mk q => by obtain ⟨q0, q1, qP, qK, qD⟩ := q; exact ⟨q0, q1, qP, va_K.moved (u := U) (U := U.calling g mk a) (Vm.Alike.refl U.vm) qK, qD⟩, va_recv hKc hPc (ci := 13) (q0 := 0) rfl rfl, fun U hU hW => ⟨rfl, by rw [hU], by rw [hU]; exact hPc, va_K.moved hW.alike hKc, hDc.weaken (fun _ _ _ _ => trivial)⟩⟩ rfl rfl hl.1 rfl (lv_room (Nat.le_of_ble_eq_true rfl)) dX13_kindOf_53 ⟨Nat.le_of_ble_eq_true rfl, Nat.le_of_ble_eq_true rfl⟩) hS (fun q _ h => hFc q h) hFc ?_
        clear hS
        intro u t H1 locs ht hvm hw hB hz1 hk1 hS
        obtain ⟨z_2, rfl⟩ : ∃ z, z = u := ⟨_, rfl⟩
        obtain ⟨hP1, hK1, hD1⟩ := hB
        rw [ht] at hP1
        have hK1 := va_K.moved hvm.symm hK1
        try dsimp only at hw
        have hPD := va_join (wr := [(qf30, .inl (cf30, 800, .inl f30)), (qf37, .inl (cf37, 800, .inl f37)), (qf36, .inl (cf36, 800, .inl f36)), (qf44, .inl (cf44, 1500, .inl f44)), (qf25, .inl (cf25, 400, .inl f25)), (qf6, .inl (cf6, 3002, .inl f6)), (qf5, .inl (cf5, 3002, .inl f5)), (qf2, .inl (cf2, 3000, .inl f2)), (qf35, .inl (cf35, 800, .inl f35)), (qf58, .inl (cf58, 2000, .inl g58_17)), (qf59, .inl (cf59, 2000, .inl g59_17)), (qf60, .inl (cf60, 2000, .inl g60_17)), (qf61, .inl (cf61, 2000, .inl g61_17)), (qf63, .inl (cf63, 40000, .inl g63_17))]) (w1 := [(h0, .inr (13, z_2)), (qf65, .inl (cf65, 200, .inl g902_0))]) hP hD [0, 2] [1, 3, 4, 5, 6, 7, 8, 9, 10, 11, 12, 13, 14, 15] rfl rfl (by decide) (by decide) hk1 hFc hP1 hD1
        clear hP hD
        obtain ⟨hP, hD⟩ := hPD
        replace hK := (hK.sub (tys' := [(cf30, .int), (cf37, .int), (cf36, .int), (cf44, .int), (cf25, .int), (cf6, .int), (cf5, .int), (cf2, .int), (cf35, .int), (cf58, .int), (cf59, .int), (cf60, .int), (cf61, .int), (cf63, .int)]) [0, 2, 3, 4, 5, 6, 7, 8, 9, 10, 11, 12, 13, 14] rfl).app hK1
        clear hPc hDc hKc hFc hP1 hK1 hD1 hz1 hk1 ht hvm
        generalize H1 = H at hP hS ⊢
        replace hP : va_P (dC, dI) vwCl [(qf30, .inl (cf30, 800, .inl f30)), (qf37, .inl (cf37, 800, .inl f37)), (qf36, .inl (cf36, 800, .inl f36)), (qf44, .inl (cf44, 1500, .inl f44)), (qf25, .inl (cf25, 400, .inl f25)), (qf6, .inl (cf6, 3002, .inl f6)), (qf5, .inl (cf5, 3002, .inl f5)), (qf2, .inl (cf2, 3000, .inl f2)), (qf35, .inl (cf35, 800, .inl f35)), (qf58, .inl (cf58, 2000, .inl g58_17)), (qf59, .inl (cf59, 2000, .inl g59_17)), (qf60, .inl (cf60, 2000, .inl g60_17)), (qf61, .inl (cf61, 2000, .inl g61_17)), (qf63, .inl (cf63, 40000, .inl g63_17)), (h0, .inr (13, z_2)), (qf65, .inl (cf65, 200, .inl g902_0))] H := hP
        replace hD : va_D A [(qf30, .inl (cf30, 800, .inl f30)), (qf37, .inl (cf37, 800, .inl f37)), (qf36, .inl (cf36, 800, .inl f36)), (qf44, .inl (cf44, 1500, .inl f44)), (qf25, .inl (cf25, 400, .inl f25)), (qf6, .inl (cf6, 3002, .inl f6)), (qf5, .inl (cf5, 3002, .inl f5)), (qf2, .inl (cf2, 3000, .inl f2)), (qf35, .inl (cf35, 800, .inl f35)), (qf58, .inl (cf58, 2000, .inl g58_17)), (qf59, .inl (cf59, 2000, .inl g59_17)), (qf60, .inl (cf60, 2000, .inl g60_17)), (qf61, .inl (cf61, 2000, .inl g61_17)), (qf63, .inl (cf63, 40000, .inl g63_17)), (h0, .inr (13, z_2)), (qf65, .inl (cf65, 200, .inl g902_0))] := hD
        replace hK : va_K (dC, dI) vwCl [(cf30, .int), (cf37, .int), (cf36, .int), (cf44, .int), (cf25, .int), (cf6, .int), (cf5, .int), (cf2, .int), (cf35, .int), (cf58, .int), (cf59, .int), (cf60, .int), (cf61, .int), (cf63, .int), (cf65, .int)] s := hK
        obtain ⟨hwa_2, hln_2, hre_2, hch_2_66⟩ := hw
        have hfk_2_2 : z_2[2]? = some (.ref qf2) := (hre_2 2 (by decide)).trans (hfh_17_2)
        have hfk_2_5 : z_2[5]? = some (.ref qf5) := (hre_2 5 (by decide)).trans (hfh_17_5)
        have hfk_2_6 : z_2[6]? = some (.ref qf6) := (hre_2 6 (by decide)).trans (hfh_17_6)
        have hfk_2_25 : z_2[25]? = some (.ref qf25) := (hre_2 25 (by decide)).trans (hfh_17_25)
        have hfk_2_30 : z_2[30]? = some (.ref qf30) := (hre_2 30 (by decide)).trans (hfh_17_30)
        have hfk_2_35 : z_2[35]? = some (.ref qf35) := (hre_2 35 (by decide)).trans (hfh_17_35)
        have hfk_2_36 : z_2[36]? = some (.ref qf36) := (hre_2 36 (by decide)).trans (hfh_17_36)
        have hfk_2_37 : z_2[37]? = some (.ref qf37) := (hre_2 37 (by decide)).trans (hfh_17_37)
        have hfk_2_44 : z_2[44]? = some (.ref qf44) := (hre_2 44 (by decide)).trans (hfh_17_44)
        have hfk_2_58 : z_2[58]? = some (.ref qf58) := (hre_2 58 (by decide)).trans (hfh_17_58)
        have hfk_2_59 : z_2[59]? = some (.ref qf59) := (hre_2 59 (by decide)).trans (hfh_17_59)
        have hfk_2_60 : z_2[60]? = some (.ref qf60) := (hre_2 60 (by decide)).trans (hfh_17_60)
        have hfk_2_61 : z_2[61]? = some (.ref qf61) := (hre_2 61 (by decide)).trans (hfh_17_61)
        have hfk_2_62 : z_2[62]? = some (.int x62_17) := (hre_2 62 (by decide)).trans (hfh_17_62)
        have hfk_2_63 : z_2[63]? = some (.ref qf63) := (hre_2 63 (by decide)).trans (hfh_17_63)
        have hfk_2_64 : z_2[64]? = some (.int x64_17) := (hre_2 64 (by decide)).trans (hfh_17_64)
        have hfk_2_65 : z_2[65]? = some (.ref qf65) := (hre_2 65 (by decide)).trans (hfh_17_65)
        have hrq_2 : ∀ j : Nat, j ≠ 62 → j ≠ 64 → j ≠ 66 → z_2[j]? = zs[j]? := fun j g62 g64 g66 => (hre_2 j g66).trans (hrh_17 j g62 g64 g66)
        exact hj_56 (H, locs, ls, z_2, l1_17, g58_17, g59_17, g60_17, g61_17, g63_17, g902_0, x62_17, x64_17, u2_1) ⟨lv_sub hl [1, 2] rfl, hS, hD.sub (ws' := [(h0, .inr (13, z_2)), (qf30, .inl (cf30, 800, .inl f30)), (qf65, .inl (cf65, 200, .inl g902_0)), (qf37, .inl (cf37, 800, .inl f37)), (qf36, .inl (cf36, 800, .inl f36)), (qf44, .inl (cf44, 1500, .inl f44)), (qf25, .inl (cf25, 400, .inl f25)), (qf6, .inl (cf6, 3002, .inl f6)), (qf5, .inl (cf5, 3002, .inl f5)), (qf2, .inl (cf2, 3000, .inl f2)), (qf35, .inl (cf35, 800, .inl f35)), (qf58, .inl (cf58, 2000, .inl g58_17)), (qf59, .inl (cf59, 2000, .inl g59_17)), (qf60, .inl (cf60, 2000, .inl g60_17)), (qf61, .inl (cf61, 2000, .inl g61_17)), (qf63, .inl (cf63, 40000, .inl g63_17))]) [14, 0, 15, 1, 2, 3, 4, 5, 6, 7, 8, 9, 10, 11, 12, 13] (by decide) rfl, hP.sub (ws' := [(h0, .inr (13, z_2)), (qf30, .inl (cf30, 800, .inl f30)), (qf65, .inl (cf65, 200, .inl g902_0)), (qf37, .inl (cf37, 800, .inl f37)), (qf36, .inl (cf36, 800, .inl f36)), (qf44, .inl (cf44, 1500, .inl f44)), (qf25, .inl (cf25, 400, .inl f25)), (qf6, .inl (cf6, 3002, .inl f6)), (qf5, .inl (cf5, 3002, .inl f5)), (qf2, .inl (cf2, 3000, .inl f2)), (qf35, .inl (cf35, 800, .inl f35)), (qf58, .inl (cf58, 2000, .inl g58_17)), (qf59, .inl (cf59, 2000, .inl g59_17)), (qf60, .inl (cf60, 2000, .inl g60_17)), (qf61, .inl (cf61, 2000, .inl g61_17)), (qf63, .inl (cf63, 40000, .inl g63_17))]) [14, 0, 15, 1, 2, 3, 4, 5, 6, 7, 8, 9, 10, 11, 12, 13] rfl, hfk_2_2, hfk_2_5, hfk_2_6, hfk_2_25, hfk_2_30, hfk_2_35, hfk_2_36, hfk_2_37, hfk_2_44, hfk_2_58, hfk_2_59, hfk_2_60, hfk_2_61, hfk_2_62, hfk_2_63, hfk_2_64, hfk_2_65, hch_2_66, hln_2, hrq_2, hsp⟩
      · rw [if_neg c_4] at hsp
        refine lv_aload_n hx hb dX13_kindOf_27 rfl (lv_at hl 1 rfl) ?_
        refine lv_aload_n hx hb dX13_kindOf_28 rfl (lv_at hl 1 rfl) ?_
        refine va_get (D := (dC, dI)) (ci := 13) (v := .ref qf44) (C := RX13) (T := TX13) (N := 155) hx hb hts uV_h9_X13 hown hK hP 0 rfl rfl 44 (by decide) (hts (.fieldLink RX13 113 "ClassMillModel" "parameterType" "[I") mw_h9_114) (fun _ h9 => h9) hfh_17_44 dX13_kindOf_29 ?_
        refine lv_aload_n hx hb dX13_kindOf_32 rfl (lv_at hl 1 rfl) ?_
        refine va_get (D := (dC, dI)) (ci := 13) (v := .ref qf36) (C := RX13) (T := TX13) (N := 155) hx hb hts uV_h9_X13 hown hK hP 0 rfl rfl 36 (by decide) (hts (.fieldLink RX13 92 "ClassMillModel" "memberFirst" "[I") mw_h9_111) (fun _ h9 => h9) hfh_17_36 dX13_kindOf_33 ?_
        refine lv_iload_n hx hb dX13_kindOf_36 rfl (lv_at hl 2 rfl) ?_
        obtain ⟨hi_5, hsp⟩ := ox_in hsp
        refine va_iald hx hb hK hP 4 3 rfl rfl (i := l1_17) hi_5 dX13_kindOf_37 ?_
        refine lv_iload_n hx hb dX13_kindOf_38 rfl (lv_at hl 0 rfl) ?_
        refine lv_iadd hx hb dX13_kindOf_39 ?_
        obtain ⟨hi_6, hsp⟩ := ox_in hsp
        refine va_iald hx hb hK hP 5 4 rfl rfl (i := ((f36 (l1_17 : Int32).toNatClampNeg) + l2_17)) hi_6 dX13_kindOf_40 ?_
        obtain ⟨⟨g903_0, u3_1⟩, hu_3, hsp⟩ := ox_bind hsp
        try dsimp only at hsp
        have hPc := hP.sub (ws' := [(h0, .inr (13, z17)), (qf65, .inl (cf65, 200, .inl g65_17)), (qf25, .inl (cf25, 400, .inl f25)), (qf6, .inl (cf6, 3002, .inl f6)), (qf5, .inl (cf5, 3002, .inl f5)), (qf2, .inl (cf2, 3000, .inl f2))]) [0, 2, 6, 7, 8, 9] rfl
        have hDc := hD.sub (ws' := [(h0, .inr (13, z17)), (qf65, .inl (cf65, 200, .inl g65_17)), (qf25, .inl (cf25, 400, .inl f25)), (qf6, .inl (cf6, 3002, .inl f6)), (qf5, .inl (cf5, 3002, .inl f5)), (qf2, .inl (cf2, 3000, .inl f2))]) [0, 2, 6, 7, 8, 9] (by decide) rfl
        have hKc := hK.sub (tys' := [(cf65, .int), (cf25, .int), (cf6, .int), (cf5, .int), (cf2, .int)]) [1, 5, 6, 7, 8] rfl
        have hFc := va_free (wc := [(h0, .inr (13, z17)), (qf65, .inl (cf65, 200, .inl g65_17)), (qf25, .inl (cf25, 400, .inl f25)), (qf6, .inl (cf6, 3002, .inl f6)), (qf5, .inl (cf5, 3002, .inl f5)), (qf2, .inl (cf2, 3000, .inl f2))]) hD hS hA [0, 2, 6, 7, 8, 9] rfl
        refine va_callv (va_runV (As := [.int (f44 (((f36 (l1_17 : Int32).toNatClampNeg) + l2_17) : Int32).toNatClampNeg)]) (rest := []) ⟨hx, hb, hml, hown, hts⟩ (vm_spellKind l dC dI H.size h0 z17 ((f44 (((f36 (l1_17 : Int32).toNatClampNeg) + l2_17) : Int32).toNatClampNeg)) qf2 qf5 qf6 qf25 qf65 x66_17 cf65 g65_17 cf25 f25 cf6 f6 cf5 f5 cf2 f2 nS477 fS477 hS477 qS477 tS477 nf g903_0 u3_1 hlh_17 hfh_17_2 hfh_17_5 hfh_17_6 hfh_17_25 hfh_17_65 hfh_17_66 hu_3) (cwV 1 hts gv_h9_30 rfl rfl rfl (by decide +kernel) ⟨Nat.le_of_ble_eq_true rfl, Nat.le_of_ble_eq_true rfl⟩) ⟨fun a U g mk q => by obtain ⟨q0, q1, qP, qK, qD, qhZWS477, qhZRS477⟩ := q; exact ⟨q0, q1, qP, va_K.moved (u := U) (U := U.calling g mk a) (Vm.Alike.refl U.vm) qK, qD, pz_W.moved (u := U) (U := U.calling g mk a) (Vm.Alike.refl U.vm) qhZWS477, vk_R.same rfl qhZRS477⟩, va_recv hKc hPc (ci := 13) (q0 := 0) rfl rfl, fun U hU hW => ⟨rfl, by rw [hU], by rw [hU]; exact hPc, va_K.moved hW.alike hKc, hDc.weaken (fun _ _ _ _ => trivial), by rw [hU]; exact ((pz_W.moved hW.alike hZWS477).kept hS.2.1).narrow hFc, vk_R.warm hW hZRS477⟩⟩ rfl rfl hl.1 rfl (lv_room (Nat.le_of_ble_eq_true rfl)) dX13_kindOf_41 ⟨Nat.le_of_ble_eq_true rfl, Nat.le_of_ble_eq_true rfl⟩) hS (fun q _ h => hFc q h) hFc ?_
        clear hS
        intro u t H1 locs ht hvm hw hB hz1 hk1 hS
        obtain ⟨z_3, rfl⟩ : ∃ z, z = u := ⟨_, rfl⟩
        obtain ⟨hP1, hK1, hD1⟩ := hB
        rw [ht] at hP1
        have hK1 := va_K.moved hvm.symm hK1
        try dsimp only at hw
        have hPD := va_join (wr := [(qf30, .inl (cf30, 800, .inl f30)), (qf37, .inl (cf37, 800, .inl f37)), (qf36, .inl (cf36, 800, .inl f36)), (qf44, .inl (cf44, 1500, .inl f44)), (qf35, .inl (cf35, 800, .inl f35)), (qf58, .inl (cf58, 2000, .inl g58_17)), (qf59, .inl (cf59, 2000, .inl g59_17)), (qf60, .inl (cf60, 2000, .inl g60_17)), (qf61, .inl (cf61, 2000, .inl g61_17)), (qf63, .inl (cf63, 40000, .inl g63_17))]) (w1 := [(h0, .inr (13, z_3)), (qf65, .inl (cf65, 200, .inl g903_0)), (qf25, .inl (cf25, 400, .inl f25)), (qf6, .inl (cf6, 3002, .inl f6)), (qf5, .inl (cf5, 3002, .inl f5)), (qf2, .inl (cf2, 3000, .inl f2))]) hP hD [0, 2, 6, 7, 8, 9] [1, 3, 4, 5, 10, 11, 12, 13, 14, 15] rfl rfl (by decide) (by decide) hk1 hFc hP1 hD1
        clear hP hD
        obtain ⟨hP, hD⟩ := hPD
        replace hK := (hK.sub (tys' := [(cf30, .int), (cf37, .int), (cf36, .int), (cf44, .int), (cf35, .int), (cf58, .int), (cf59, .int), (cf60, .int), (cf61, .int), (cf63, .int)]) [0, 2, 3, 4, 9, 10, 11, 12, 13, 14] rfl).app hK1
        clear hPc hDc hKc hFc hP1 hK1 hD1 hz1 hk1 ht hvm
        generalize H1 = H at hP hS ⊢
        replace hP : va_P (dC, dI) vwCl [(qf30, .inl (cf30, 800, .inl f30)), (qf37, .inl (cf37, 800, .inl f37)), (qf36, .inl (cf36, 800, .inl f36)), (qf44, .inl (cf44, 1500, .inl f44)), (qf35, .inl (cf35, 800, .inl f35)), (qf58, .inl (cf58, 2000, .inl g58_17)), (qf59, .inl (cf59, 2000, .inl g59_17)), (qf60, .inl (cf60, 2000, .inl g60_17)), (qf61, .inl (cf61, 2000, .inl g61_17)), (qf63, .inl (cf63, 40000, .inl g63_17)), (h0, .inr (13, z_3)), (qf65, .inl (cf65, 200, .inl g903_0)), (qf25, .inl (cf25, 400, .inl f25)), (qf6, .inl (cf6, 3002, .inl f6)), (qf5, .inl (cf5, 3002, .inl f5)), (qf2, .inl (cf2, 3000, .inl f2))] H := hP
        replace hD : va_D A [(qf30, .inl (cf30, 800, .inl f30)), (qf37, .inl (cf37, 800, .inl f37)), (qf36, .inl (cf36, 800, .inl f36)), (qf44, .inl (cf44, 1500, .inl f44)), (qf35, .inl (cf35, 800, .inl f35)), (qf58, .inl (cf58, 2000, .inl g58_17)), (qf59, .inl (cf59, 2000, .inl g59_17)), (qf60, .inl (cf60, 2000, .inl g60_17)), (qf61, .inl (cf61, 2000, .inl g61_17)), (qf63, .inl (cf63, 40000, .inl g63_17)), (h0, .inr (13, z_3)), (qf65, .inl (cf65, 200, .inl g903_0)), (qf25, .inl (cf25, 400, .inl f25)), (qf6, .inl (cf6, 3002, .inl f6)), (qf5, .inl (cf5, 3002, .inl f5)), (qf2, .inl (cf2, 3000, .inl f2))] := hD
        replace hK : va_K (dC, dI) vwCl [(cf30, .int), (cf37, .int), (cf36, .int), (cf44, .int), (cf35, .int), (cf58, .int), (cf59, .int), (cf60, .int), (cf61, .int), (cf63, .int), (cf65, .int), (cf25, .int), (cf6, .int), (cf5, .int), (cf2, .int)] s := hK
        obtain ⟨hwa_3, hln_3, hre_3, hch_3_66⟩ := hw
        have hfk_3_2 : z_3[2]? = some (.ref qf2) := (hre_3 2 (by decide)).trans (hfh_17_2)
        have hfk_3_5 : z_3[5]? = some (.ref qf5) := (hre_3 5 (by decide)).trans (hfh_17_5)
        have hfk_3_6 : z_3[6]? = some (.ref qf6) := (hre_3 6 (by decide)).trans (hfh_17_6)
        have hfk_3_25 : z_3[25]? = some (.ref qf25) := (hre_3 25 (by decide)).trans (hfh_17_25)
        have hfk_3_30 : z_3[30]? = some (.ref qf30) := (hre_3 30 (by decide)).trans (hfh_17_30)
        have hfk_3_35 : z_3[35]? = some (.ref qf35) := (hre_3 35 (by decide)).trans (hfh_17_35)
        have hfk_3_36 : z_3[36]? = some (.ref qf36) := (hre_3 36 (by decide)).trans (hfh_17_36)
        have hfk_3_37 : z_3[37]? = some (.ref qf37) := (hre_3 37 (by decide)).trans (hfh_17_37)
        have hfk_3_44 : z_3[44]? = some (.ref qf44) := (hre_3 44 (by decide)).trans (hfh_17_44)
        have hfk_3_58 : z_3[58]? = some (.ref qf58) := (hre_3 58 (by decide)).trans (hfh_17_58)
        have hfk_3_59 : z_3[59]? = some (.ref qf59) := (hre_3 59 (by decide)).trans (hfh_17_59)
        have hfk_3_60 : z_3[60]? = some (.ref qf60) := (hre_3 60 (by decide)).trans (hfh_17_60)
        have hfk_3_61 : z_3[61]? = some (.ref qf61) := (hre_3 61 (by decide)).trans (hfh_17_61)
        have hfk_3_62 : z_3[62]? = some (.int x62_17) := (hre_3 62 (by decide)).trans (hfh_17_62)
        have hfk_3_63 : z_3[63]? = some (.ref qf63) := (hre_3 63 (by decide)).trans (hfh_17_63)
        have hfk_3_64 : z_3[64]? = some (.int x64_17) := (hre_3 64 (by decide)).trans (hfh_17_64)
        have hfk_3_65 : z_3[65]? = some (.ref qf65) := (hre_3 65 (by decide)).trans (hfh_17_65)
        have hrq_3 : ∀ j : Nat, j ≠ 62 → j ≠ 64 → j ≠ 66 → z_3[j]? = zs[j]? := fun j g62 g64 g66 => (hre_3 j g66).trans (hrh_17 j g62 g64 g66)
        refine lv_iinc (v := (l2_17 + 1)) (lv' := [(2, .int (l2_17 + 1)), (0, .ref h0), (1, .int l1_17)]) hx hb dX13_kindOf_44 hl (k := 0) rfl rfl (by decide) rfl (fun ls hl => ?_)
        refine lv_goto (tgt := 17) hx hb dX13_kindOf_47 (by decide) ?_
        exact ih_17 H locs ls z_3 l1_17 (l2_17 + 1) g58_17 g59_17 g60_17 g61_17 g63_17 g903_0 x62_17 x64_17 u3_1 (hfk_3_2) (hfk_3_5) (hfk_3_6) (hfk_3_25) (hfk_3_30) (hfk_3_35) (hfk_3_36) (hfk_3_37) (hfk_3_44) (hfk_3_58) (hfk_3_59) (hfk_3_60) (hfk_3_61) (hfk_3_62) (hfk_3_63) (hfk_3_64) (hfk_3_65) (hch_3_66) hln_3 hrq_3 (lv_sub hl [0, 1, 2] rfl) hS (hD.sub (ws' := [(h0, .inr (13, z_3)), (qf30, .inl (cf30, 800, .inl f30)), (qf65, .inl (cf65, 200, .inl g903_0)), (qf37, .inl (cf37, 800, .inl f37)), (qf36, .inl (cf36, 800, .inl f36)), (qf44, .inl (cf44, 1500, .inl f44)), (qf25, .inl (cf25, 400, .inl f25)), (qf6, .inl (cf6, 3002, .inl f6)), (qf5, .inl (cf5, 3002, .inl f5)), (qf2, .inl (cf2, 3000, .inl f2)), (qf35, .inl (cf35, 800, .inl f35)), (qf58, .inl (cf58, 2000, .inl g58_17)), (qf59, .inl (cf59, 2000, .inl g59_17)), (qf60, .inl (cf60, 2000, .inl g60_17)), (qf61, .inl (cf61, 2000, .inl g61_17)), (qf63, .inl (cf63, 40000, .inl g63_17))]) [10, 0, 11, 1, 2, 3, 12, 13, 14, 15, 4, 5, 6, 7, 8, 9] (by decide) rfl) (hP.sub (ws' := [(h0, .inr (13, z_3)), (qf30, .inl (cf30, 800, .inl f30)), (qf65, .inl (cf65, 200, .inl g903_0)), (qf37, .inl (cf37, 800, .inl f37)), (qf36, .inl (cf36, 800, .inl f36)), (qf44, .inl (cf44, 1500, .inl f44)), (qf25, .inl (cf25, 400, .inl f25)), (qf6, .inl (cf6, 3002, .inl f6)), (qf5, .inl (cf5, 3002, .inl f5)), (qf2, .inl (cf2, 3000, .inl f2)), (qf35, .inl (cf35, 800, .inl f35)), (qf58, .inl (cf58, 2000, .inl g58_17)), (qf59, .inl (cf59, 2000, .inl g59_17)), (qf60, .inl (cf60, 2000, .inl g60_17)), (qf61, .inl (cf61, 2000, .inl g61_17)), (qf63, .inl (cf63, 40000, .inl g63_17))]) [10, 0, 11, 1, 2, 3, 12, 13, 14, 15, 4, 5, 6, 7, 8, 9] rfl) hsp
def sp_vm_memberConstant (nf : Nat) (a1 : Int32) (a2 : Int32) (v62 : Int32) (v64 : Int32) (v66 : Int32) (f65 : Nat → Int32) (f25 : Nat → Int32) (f6 : Nat → Int32) (f5 : Nat → Int32) (f2 : Nat → Int32) (f58 : Nat → Int32) (f59 : Nat → Int32) (f60 : Nat → Int32) (f61 : Nat → Int32) (f63 : Nat → Int32) (f34 : Nat → Int32) (f30 : Nat → Int32) (f37 : Nat → Int32) (f36 : Nat → Int32) (f44 : Nat → Int32) (f35 : Nat → Int32) (nS477 : Nat) (fS477 : Nat → Int32) : Option (Int32 × (Nat → Int32) × (Nat → Int32) × (Nat → Int32) × (Nat → Int32) × (Nat → Int32) × (Nat → Int32) × Int32 × Int32 × Int32) := ((sp_vm_classConstant nf (8 + (2 * a1)) v62 v64 v66 f65 f25 f6 f5 f2 f58 f59 f60 f61 f63 nS477 fS477).bind (fun p1 => (if a2 < 0 then none else if 800 ≤ (a2 : Int32).toNatClampNeg then none else ((sp_vm_textOf nf (f34 (a2 : Int32).toNatClampNeg) p1.2.2.2.2.2.2.2.1 p1.2.2.2.2.2.2.2.2.1 p1.2.2.2.2.2.2.2.2.2 f6 f5 f2 p1.2.2.2.2.2.2.1 p1.2.1 p1.2.2.1 p1.2.2.2.1 p1.2.2.2.2.1 p1.2.2.2.2.2.1).bind (fun p2 => ((sp_vm_kindOf nf a2 p2.2.2.2.2.2.2.2.1 p2.2.2.2.2.2.2.2.2.1 p2.2.2.2.2.2.2.2.2.2 f30 p2.2.2.2.2.2.2.1 f37 f36 f44 f25 f6 f5 f2 f35 p2.2.1 p2.2.2.1 p2.2.2.2.1 p2.2.2.2.2.1 p2.2.2.2.2.2.1 nS477 fS477).bind (fun p3 => ((sp_vm_constant nf 4 p1.1 p2.1 p3.1 p3.2.2.2.2.2.2.2.1 p3.2.1 p3.2.2.1 p3.2.2.2.1 p3.2.2.2.2.1).bind (fun p4 => (some (p4.1, p4.2.1, p4.2.2.1, p4.2.2.2.1, p4.2.2.2.2.1, p3.2.2.2.2.2.1, p3.2.2.2.2.2.2.1, p4.2.2.2.2.2, p3.2.2.2.2.2.2.2.2.1, p3.2.2.2.2.2.2.2.2.2)))))))))))
