set_option maxHeartbeats 4000000 in
set_option maxRecDepth 100000 in
/-- ClassMillModel.memberConstant -/
theorem vm_memberConstant (l : Launch) (dC : Nat → ClassId) (dI : Nat → Nat → Nat) (sz : Nat) (h0 : Nat) (zs : (List Value)) (a1 : Int32) (a2 : Int32) (qf2 : Nat) (qf5 : Nat) (qf6 : Nat) (qf25 : Nat) (qf30 : Nat) (qf34 : Nat) (qf35 : Nat) (qf36 : Nat) (qf37 : Nat) (qf44 : Nat) (qf58 : Nat) (qf59 : Nat) (qf60 : Nat) (qf61 : Nat) (v62 : Int32) (qf63 : Nat) (v64 : Int32) (qf65 : Nat) (v66 : Int32) (cf65 : ClassId) (f65 : (Nat → Int32)) (cf25 : ClassId) (f25 : (Nat → Int32)) (cf6 : ClassId) (f6 : (Nat → Int32)) (cf5 : ClassId) (f5 : (Nat → Int32)) (cf2 : ClassId) (f2 : (Nat → Int32)) (cf58 : ClassId) (f58 : (Nat → Int32)) (cf59 : ClassId) (f59 : (Nat → Int32)) (cf60 : ClassId) (f60 : (Nat → Int32)) (cf61 : ClassId) (f61 : (Nat → Int32)) (cf63 : ClassId) (f63 : (Nat → Int32)) (cf34 : ClassId) (f34 : (Nat → Int32)) (cf30 : ClassId) (f30 : (Nat → Int32)) (cf37 : ClassId) (f37 : (Nat → Int32)) (cf36 : ClassId) (f36 : (Nat → Int32)) (cf44 : ClassId) (f44 : (Nat → Int32)) (cf35 : ClassId) (f35 : (Nat → Int32)) (nS477 : Nat) (fS477 : (Nat → Int32)) (hS477 : Nat) (qS477 : Nat) (tS477 : String) (nf : Nat) (r0 : Int32) (o58 : (Nat → Int32)) (o59 : (Nat → Int32)) (o60 : (Nat → Int32)) (o61 : (Nat → Int32)) (o63 : (Nat → Int32)) (o65 : (Nat → Int32)) (w62 : Int32) (w64 : Int32) (w66 : Int32) (hlen : zs.length = 155) (hf2 : zs[2]? = some (.ref qf2)) (hf5 : zs[5]? = some (.ref qf5)) (hf6 : zs[6]? = some (.ref qf6)) (hf25 : zs[25]? = some (.ref qf25)) (hf30 : zs[30]? = some (.ref qf30)) (hf34 : zs[34]? = some (.ref qf34)) (hf35 : zs[35]? = some (.ref qf35)) (hf36 : zs[36]? = some (.ref qf36)) (hf37 : zs[37]? = some (.ref qf37)) (hf44 : zs[44]? = some (.ref qf44)) (hf58 : zs[58]? = some (.ref qf58)) (hf59 : zs[59]? = some (.ref qf59)) (hf60 : zs[60]? = some (.ref qf60)) (hf61 : zs[61]? = some (.ref qf61)) (hf62 : zs[62]? = some (.int v62)) (hf63 : zs[63]? = some (.ref qf63)) (hf64 : zs[64]? = some (.int v64)) (hf65 : zs[65]? = some (.ref qf65)) (hf66 : zs[66]? = some (.int v66)) (hsp : sp_vm_memberConstant nf a1 a2 v62 v64 v66 f65 f25 f6 f5 f2 f58 f59 f60 f61 f63 f34 f30 f37 f36 f44 f35 nS477 fS477 = some (r0, o58, o59, o60, o61, o63, o65, w62, w64, w66)) : Met l yX13_memberConstant (.code yX13_memberConstant cX13_memberConstant 5 (some .int) :: VS_h9) ({ frames := 7, cells := 0, slots := 0, locals := 151 }) (va_Pc [.ref h0, .int a1, .int a2] (fun U => U.heap.size = sz ∧ va_P (dC, dI) vwCl [(h0, .inr (13, zs)), (qf65, .inl (cf65, 200, .inl f65)), (qf25, .inl (cf25, 400, .inl f25)), (qf6, .inl (cf6, 3002, .inl f6)), (qf5, .inl (cf5, 3002, .inl f5)), (qf2, .inl (cf2, 3000, .inl f2)), (qf58, .inl (cf58, 2000, .inl f58)), (qf59, .inl (cf59, 2000, .inl f59)), (qf60, .inl (cf60, 2000, .inl f60)), (qf61, .inl (cf61, 2000, .inl f61)), (qf63, .inl (cf63, 40000, .inl f63)), (qf34, .inl (cf34, 800, .inl f34)), (qf30, .inl (cf30, 800, .inl f30)), (qf37, .inl (cf37, 800, .inl f37)), (qf36, .inl (cf36, 800, .inl f36)), (qf44, .inl (cf44, 1500, .inl f44)), (qf35, .inl (cf35, 800, .inl f35))] U.heap ∧ va_K (dC, dI) vwCl [(cf65, .int), (cf25, .int), (cf6, .int), (cf5, .int), (cf2, .int), (cf58, .int), (cf59, .int), (cf60, .int), (cf61, .int), (cf63, .int), (cf34, .int), (cf30, .int), (cf37, .int), (cf36, .int), (cf44, .int), (cf35, .int)] U ∧ va_D (fun _ => True) [(h0, .inr (13, zs)), (qf65, .inl (cf65, 200, .inl f65)), (qf25, .inl (cf25, 400, .inl f25)), (qf6, .inl (cf6, 3002, .inl f6)), (qf5, .inl (cf5, 3002, .inl f5)), (qf2, .inl (cf2, 3000, .inl f2)), (qf58, .inl (cf58, 2000, .inl f58)), (qf59, .inl (cf59, 2000, .inl f59)), (qf60, .inl (cf60, 2000, .inl f60)), (qf61, .inl (cf61, 2000, .inl f61)), (qf63, .inl (cf63, 40000, .inl f63)), (qf34, .inl (cf34, 800, .inl f34)), (qf30, .inl (cf30, 800, .inl f30)), (qf37, .inl (cf37, 800, .inl f37)), (qf36, .inl (cf36, 800, .inl f36)), (qf44, .inl (cf44, 1500, .inl f44)), (qf35, .inl (cf35, 800, .inl f35))] ∧ pz_W nS477 fS477 hS477 qS477 (va_A [(h0, .inr (13, zs)), (qf65, .inl (cf65, 200, .inl f65)), (qf25, .inl (cf25, 400, .inl f25)), (qf6, .inl (cf6, 3002, .inl f6)), (qf5, .inl (cf5, 3002, .inl f5)), (qf2, .inl (cf2, 3000, .inl f2)), (qf58, .inl (cf58, 2000, .inl f58)), (qf59, .inl (cf59, 2000, .inl f59)), (qf60, .inl (cf60, 2000, .inl f60)), (qf61, .inl (cf61, 2000, .inl f61)), (qf63, .inl (cf63, 40000, .inl f63)), (qf34, .inl (cf34, 800, .inl f34)), (qf30, .inl (cf30, 800, .inl f30)), (qf37, .inl (cf37, 800, .inl f37)), (qf36, .inl (cf36, 800, .inl f36)), (qf44, .inl (cf44, 1500, .inl f44)), (qf35, .inl (cf35, 800, .inl f35))] sz) U U.heap ∧ vk_R RX13 477 tS477 hS477 U)) (va_Qi (fun (r : Int32) (u : (List Value)) => match u with | (zo1) => r0 = r ∧ zo1.length = 155 ∧ (∀ j : Nat, j ≠ 62 → j ≠ 64 → j ≠ 66 → zo1[j]? = zs[j]?) ∧ zo1[62]? = some (.int w62) ∧ zo1[64]? = some (.int w64) ∧ zo1[66]? = some (.int w66)) (fun (u : (List Value)) (t : State) => match u with | (zo1) => va_P (dC, dI) vwCl [(h0, .inr (13, zo1)), (qf65, .inl (cf65, 200, .inl o65)), (qf25, .inl (cf25, 400, .inl f25)), (qf6, .inl (cf6, 3002, .inl f6)), (qf5, .inl (cf5, 3002, .inl f5)), (qf2, .inl (cf2, 3000, .inl f2)), (qf58, .inl (cf58, 2000, .inl o58)), (qf59, .inl (cf59, 2000, .inl o59)), (qf60, .inl (cf60, 2000, .inl o60)), (qf61, .inl (cf61, 2000, .inl o61)), (qf63, .inl (cf63, 40000, .inl o63)), (qf34, .inl (cf34, 800, .inl f34)), (qf30, .inl (cf30, 800, .inl f30)), (qf37, .inl (cf37, 800, .inl f37)), (qf36, .inl (cf36, 800, .inl f36)), (qf44, .inl (cf44, 1500, .inl f44)), (qf35, .inl (cf35, 800, .inl f35))] t.heap ∧ va_K (dC, dI) vwCl [(cf65, .int), (cf25, .int), (cf6, .int), (cf5, .int), (cf2, .int), (cf58, .int), (cf59, .int), (cf60, .int), (cf61, .int), (cf63, .int), (cf34, .int), (cf30, .int), (cf37, .int), (cf36, .int), (cf44, .int), (cf35, .int)] t ∧ va_D (va_A [(h0, .inr (13, zs)), (qf65, .inl (cf65, 200, .inl f65)), (qf25, .inl (cf25, 400, .inl f25)), (qf6, .inl (cf6, 3002, .inl f6)), (qf5, .inl (cf5, 3002, .inl f5)), (qf2, .inl (cf2, 3000, .inl f2)), (qf58, .inl (cf58, 2000, .inl f58)), (qf59, .inl (cf59, 2000, .inl f59)), (qf60, .inl (cf60, 2000, .inl f60)), (qf61, .inl (cf61, 2000, .inl f61)), (qf63, .inl (cf63, 40000, .inl f63)), (qf34, .inl (cf34, 800, .inl f34)), (qf30, .inl (cf30, 800, .inl f30)), (qf37, .inl (cf37, 800, .inl f37)), (qf36, .inl (cf36, 800, .inl f36)), (qf44, .inl (cf44, 1500, .inl f44)), (qf35, .inl (cf35, 800, .inl f35))] sz) [(h0, .inr (13, zo1)), (qf65, .inl (cf65, 200, .inl o65)), (qf25, .inl (cf25, 400, .inl f25)), (qf6, .inl (cf6, 3002, .inl f6)), (qf5, .inl (cf5, 3002, .inl f5)), (qf2, .inl (cf2, 3000, .inl f2)), (qf58, .inl (cf58, 2000, .inl o58)), (qf59, .inl (cf59, 2000, .inl o59)), (qf60, .inl (cf60, 2000, .inl o60)), (qf61, .inl (cf61, 2000, .inl o61)), (qf63, .inl (cf63, 40000, .inl o63)), (qf34, .inl (cf34, 800, .inl f34)), (qf30, .inl (cf30, 800, .inl f30)), (qf37, .inl (cf37, 800, .inl f37)), (qf36, .inl (cf36, 800, .inl f36)), (qf44, .inl (cf44, 1500, .inl f44)), (qf35, .inl (cf35, 800, .inl f35))]) (va_A [(h0, .inr (13, zs)), (qf65, .inl (cf65, 200, .inl f65)), (qf25, .inl (cf25, 400, .inl f25)), (qf6, .inl (cf6, 3002, .inl f6)), (qf5, .inl (cf5, 3002, .inl f5)), (qf2, .inl (cf2, 3000, .inl f2)), (qf58, .inl (cf58, 2000, .inl f58)), (qf59, .inl (cf59, 2000, .inl f59)), (qf60, .inl (cf60, 2000, .inl f60)), (qf61, .inl (cf61, 2000, .inl f61)), (qf63, .inl (cf63, 40000, .inl f63)), (qf34, .inl (cf34, 800, .inl f34)), (qf30, .inl (cf30, 800, .inl f30)), (qf37, .inl (cf37, 800, .inl f37)), (qf36, .inl (cf36, 800, .inl f36)), (qf44, .inl (cf44, 1500, .inl f44)), (qf35, .inl (cf35, 800, .inl f35))] sz)) 0 0 (va_A [(h0, .inr (13, zs)), (qf65, .inl (cf65, 200, .inl f65)), (qf25, .inl (cf25, 400, .inl f25)), (qf6, .inl (cf6, 3002, .inl f6)), (qf5, .inl (cf5, 3002, .inl f5)), (qf2, .inl (cf2, 3000, .inl f2)), (qf58, .inl (cf58, 2000, .inl f58)), (qf59, .inl (cf59, 2000, .inl f59)), (qf60, .inl (cf60, 2000, .inl f60)), (qf61, .inl (cf61, 2000, .inl f61)), (qf63, .inl (cf63, 40000, .inl f63)), (qf34, .inl (cf34, 800, .inl f34)), (qf30, .inl (cf30, 800, .inl f30)), (qf37, .inl (cf37, 800, .inl f37)), (qf36, .inl (cf36, 800, .inl f36)), (qf44, .inl (cf44, 1500, .inl f44)), (qf35, .inl (cf35, 800, .inl f35))] sz) := by
  refine Met.ofW (cc := cX13_memberConstant) (maxL := 5) (ret := (some .int)) (by decide) rfl ?_
  intro p e s m args below meth c s₁ B hml hv
  obtain ⟨rfl, hsz, hP, hK, hD0, hZWS477, hZRS477⟩ := hv
  have hx := B.exec
  have hb := B.bytes
  have hr := B.returns
  have hts := atoms_spec (ws := (.code yX13_memberConstant cX13_memberConstant 5 (some .int) :: VS_h9)) B.pre
  replace hts := fun w (h : w ∈ VS_h9) => hts w (List.mem_cons_of_mem _ h)
  have hown : s.vm.findClass RX13 = some m.cls := findClass_of_methodNamed B.named
  have hlocks := B.notSynchronized
  subst hsz
  have hD := hD0.self (sz := s.heap.size)
  generalize hAe : va_A [(h0, .inr (13, zs)), (qf65, .inl (cf65, 200, .inl f65)), (qf25, .inl (cf25, 400, .inl f25)), (qf6, .inl (cf6, 3002, .inl f6)), (qf5, .inl (cf5, 3002, .inl f5)), (qf2, .inl (cf2, 3000, .inl f2)), (qf58, .inl (cf58, 2000, .inl f58)), (qf59, .inl (cf59, 2000, .inl f59)), (qf60, .inl (cf60, 2000, .inl f60)), (qf61, .inl (cf61, 2000, .inl f61)), (qf63, .inl (cf63, 40000, .inl f63)), (qf34, .inl (cf34, 800, .inl f34)), (qf30, .inl (cf30, 800, .inl f30)), (qf37, .inl (cf37, 800, .inl f37)), (qf36, .inl (cf36, 800, .inl f36)), (qf44, .inl (cf44, 1500, .inl f44)), (qf35, .inl (cf35, 800, .inl f35))] s.heap.size = A at hD hZWS477 ⊢
  have hA : ∀ q : Nat, s.heap.size ≤ q → A q := fun q h => by rw [← hAe]; exact Or.inr h
  have hP : va_P (dC, dI) vwCl [(h0, .inr (13, zs)), (qf65, .inl (cf65, 200, .inl f65)), (qf25, .inl (cf25, 400, .inl f25)), (qf6, .inl (cf6, 3002, .inl f6)), (qf5, .inl (cf5, 3002, .inl f5)), (qf2, .inl (cf2, 3000, .inl f2)), (qf58, .inl (cf58, 2000, .inl f58)), (qf59, .inl (cf59, 2000, .inl f59)), (qf60, .inl (cf60, 2000, .inl f60)), (qf61, .inl (cf61, 2000, .inl f61)), (qf63, .inl (cf63, 40000, .inl f63)), (qf34, .inl (cf34, 800, .inl f34)), (qf30, .inl (cf30, 800, .inl f30)), (qf37, .inl (cf37, 800, .inl f37)), (qf36, .inl (cf36, 800, .inl f36)), (qf44, .inl (cf44, 1500, .inl f44)), (qf35, .inl (cf35, 800, .inl f35))] s.heap := hP
  have hl := lv_entry ([.ref h0, .int a1, .int a2]) (n := 5) (Nat.le_of_ble_eq_true rfl)
  rw [lg_entry_eq]
  generalize (lg_sl ([.ref h0, .int a1, .int a2]) ++ List.replicate (5 - (lg_sl ([.ref h0, .int a1, .int a2])).length) Slot.unset).toArray = ls at hl ⊢
  have hl : lv_has ls 5 [(0, .ref h0), (1, .int a1), (2, .int a2)] := hl
  obtain ⟨H, hH⟩ : ∃ H : Heap, s.heap = H := ⟨_, rfl⟩
  rw [hH] at hP ⊢
  have hS : va_S A s.heap H [] := by rw [← hH]; exact va_S.rf
  obtain ⟨locs, hlo⟩ : ∃ locs : List Loc, locs = [] := ⟨_, rfl⟩
  rw [← hlo] at hS ⊢
  have hrs0 : ∀ j : Nat, j ≠ 62 → j ≠ 64 → j ≠ 66 → zs[j]? = zs[j]? := fun _ _ _ _  => rfl
  unfold sp_vm_memberConstant at hsp
  refine lv_aload_n hx hb dX13_memberConstant_0 rfl (lv_at hl 0 rfl) ?_
  refine lv_bipush (v := 8) hx hb dX13_memberConstant_1 (by decide) ?_
  refine lv_iconst (v := 2) hx hb dX13_memberConstant_3 (by decide) ?_
  refine lv_iload_n hx hb dX13_memberConstant_4 rfl (lv_at hl 1 rfl) ?_
  refine lv_imul hx hb dX13_memberConstant_5 ?_
  refine lv_iadd hx hb dX13_memberConstant_6 ?_
  obtain ⟨⟨u1_0, g901_1, g901_2, g901_3, g901_4, g901_5, g901_6, u1_7, u1_8, u1_9⟩, hu_1, hsp⟩ := ox_bind hsp
  try dsimp only at hsp
  have hPc := hP.sub (ws' := [(h0, .inr (13, zs)), (qf65, .inl (cf65, 200, .inl f65)), (qf25, .inl (cf25, 400, .inl f25)), (qf6, .inl (cf6, 3002, .inl f6)), (qf5, .inl (cf5, 3002, .inl f5)), (qf2, .inl (cf2, 3000, .inl f2)), (qf58, .inl (cf58, 2000, .inl f58)), (qf59, .inl (cf59, 2000, .inl f59)), (qf60, .inl (cf60, 2000, .inl f60)), (qf61, .inl (cf61, 2000, .inl f61)), (qf63, .inl (cf63, 40000, .inl f63))]) [0, 1, 2, 3, 4, 5, 6, 7, 8, 9, 10] rfl
  have hDc := hD.sub (ws' := [(h0, .inr (13, zs)), (qf65, .inl (cf65, 200, .inl f65)), (qf25, .inl (cf25, 400, .inl f25)), (qf6, .inl (cf6, 3002, .inl f6)), (qf5, .inl (cf5, 3002, .inl f5)), (qf2, .inl (cf2, 3000, .inl f2)), (qf58, .inl (cf58, 2000, .inl f58)), (qf59, .inl (cf59, 2000, .inl f59)), (qf60, .inl (cf60, 2000, .inl f60)), (qf61, .inl (cf61, 2000, .inl f61)), (qf63, .inl (cf63, 40000, .inl f63))]) [0, 1, 2, 3, 4, 5, 6, 7, 8, 9, 10] (by decide) rfl
  have hKc := hK.sub (tys' := [(cf65, .int), (cf25, .int), (cf6, .int), (cf5, .int), (cf2, .int), (cf58, .int), (cf59, .int), (cf60, .int), (cf61, .int), (cf63, .int)]) [0, 1, 2, 3, 4, 5, 6, 7, 8, 9] rfl
  have hFc := va_free (wc := [(h0, .inr (13, zs)), (qf65, .inl (cf65, 200, .inl f65)), (qf25, .inl (cf25, 400, .inl f25)), (qf6, .inl (cf6, 3002, .inl f6)), (qf5, .inl (cf5, 3002, .inl f5)), (qf2, .inl (cf2, 3000, .inl f2)), (qf58, .inl (cf58, 2000, .inl f58)), (qf59, .inl (cf59, 2000, .inl f59)), (qf60, .inl (cf60, 2000, .inl f60)), (qf61, .inl (cf61, 2000, .inl f61)), (qf63, .inl (cf63, 40000, .inl f63))]) hD hS hA [0, 1, 2, 3, 4, 5, 6, 7, 8, 9, 10] rfl
  refine va_calli (va_runV (As := [.int (8 + (2 * a1))]) (rest := []) ⟨hx, hb, hml, hown, hts⟩ (vm_classConstant l dC dI H.size h0 zs ((8 + (2 * a1))) qf2 qf5 qf6 qf25 qf58 qf59 qf60 qf61 v62 qf63 v64 qf65 v66 cf65 f65 cf25 f25 cf6 f6 cf5 f5 cf2 f2 cf58 f58 cf59 f59 cf60 f60 cf61 f61 cf63 f63 nS477 fS477 hS477 qS477 tS477 nf u1_0 g901_1 g901_2 g901_3 g901_4 g901_5 g901_6 u1_7 u1_8 u1_9 hlen hf2 hf5 hf6 hf25 hf58 hf59 hf60 hf61 hf62 hf63 hf64 hf65 hf66 hu_1) (cwV 1 hts gv_h9_80 rfl rfl rfl (by decide +kernel) ⟨Nat.le_of_ble_eq_true rfl, Nat.le_of_ble_eq_true rfl⟩) ⟨fun a U g mk q => by obtain ⟨q0, q1, qP, qK, qD, qhZWS477, qhZRS477⟩ := q; exact ⟨q0, q1, qP, va_K.moved (u := U) (U := U.calling g mk a) (Vm.Alike.refl U.vm) qK, qD, pz_W.moved (u := U) (U := U.calling g mk a) (Vm.Alike.refl U.vm) qhZWS477, vk_R.same rfl qhZRS477⟩, va_recv hKc hPc (ci := 13) (q0 := 0) rfl rfl, fun U hU hW => ⟨rfl, by rw [hU], by rw [hU]; exact hPc, va_K.moved hW.alike hKc, hDc.weaken (fun _ _ _ _ => trivial), by rw [hU]; exact ((pz_W.moved hW.alike hZWS477).kept hS.2.1).narrow hFc, vk_R.warm hW hZRS477⟩⟩ rfl rfl hl.1 rfl (lv_room (Nat.le_of_ble_eq_true rfl)) dX13_memberConstant_7 ⟨Nat.le_of_ble_eq_true rfl, Nat.le_of_ble_eq_true rfl⟩) hS (fun q _ h => hFc q h) hFc ?_
  clear hS
  intro r_1 u t H1 locs ht hvm hw hB hz1 hk1 hS
  obtain ⟨z_1, rfl⟩ : ∃ z, z = u := ⟨_, rfl⟩
  obtain ⟨hP1, hK1, hD1⟩ := hB
  rw [ht] at hP1
  have hK1 := va_K.moved hvm.symm hK1
  try dsimp only at hw
  have hPD := va_join (wr := [(qf34, .inl (cf34, 800, .inl f34)), (qf30, .inl (cf30, 800, .inl f30)), (qf37, .inl (cf37, 800, .inl f37)), (qf36, .inl (cf36, 800, .inl f36)), (qf44, .inl (cf44, 1500, .inl f44)), (qf35, .inl (cf35, 800, .inl f35))]) (w1 := [(h0, .inr (13, z_1)), (qf65, .inl (cf65, 200, .inl g901_6)), (qf25, .inl (cf25, 400, .inl f25)), (qf6, .inl (cf6, 3002, .inl f6)), (qf5, .inl (cf5, 3002, .inl f5)), (qf2, .inl (cf2, 3000, .inl f2)), (qf58, .inl (cf58, 2000, .inl g901_1)), (qf59, .inl (cf59, 2000, .inl g901_2)), (qf60, .inl (cf60, 2000, .inl g901_3)), (qf61, .inl (cf61, 2000, .inl g901_4)), (qf63, .inl (cf63, 40000, .inl g901_5))]) hP hD [0, 1, 2, 3, 4, 5, 6, 7, 8, 9, 10] [11, 12, 13, 14, 15, 16] rfl rfl (by decide) (by decide) hk1 hFc hP1 hD1
  clear hP hD
  obtain ⟨hP, hD⟩ := hPD
  replace hK := (hK.sub (tys' := [(cf34, .int), (cf30, .int), (cf37, .int), (cf36, .int), (cf44, .int), (cf35, .int)]) [10, 11, 12, 13, 14, 15] rfl).app hK1
  clear hPc hDc hKc hFc hP1 hK1 hD1 hz1 hk1 ht hvm
  generalize H1 = H at hP hS ⊢
  replace hP : va_P (dC, dI) vwCl [(qf34, .inl (cf34, 800, .inl f34)), (qf30, .inl (cf30, 800, .inl f30)), (qf37, .inl (cf37, 800, .inl f37)), (qf36, .inl (cf36, 800, .inl f36)), (qf44, .inl (cf44, 1500, .inl f44)), (qf35, .inl (cf35, 800, .inl f35)), (h0, .inr (13, z_1)), (qf65, .inl (cf65, 200, .inl g901_6)), (qf25, .inl (cf25, 400, .inl f25)), (qf6, .inl (cf6, 3002, .inl f6)), (qf5, .inl (cf5, 3002, .inl f5)), (qf2, .inl (cf2, 3000, .inl f2)), (qf58, .inl (cf58, 2000, .inl g901_1)), (qf59, .inl (cf59, 2000, .inl g901_2)), (qf60, .inl (cf60, 2000, .inl g901_3)), (qf61, .inl (cf61, 2000, .inl g901_4)), (qf63, .inl (cf63, 40000, .inl g901_5))] H := hP
  replace hD : va_D A [(qf34, .inl (cf34, 800, .inl f34)), (qf30, .inl (cf30, 800, .inl f30)), (qf37, .inl (cf37, 800, .inl f37)), (qf36, .inl (cf36, 800, .inl f36)), (qf44, .inl (cf44, 1500, .inl f44)), (qf35, .inl (cf35, 800, .inl f35)), (h0, .inr (13, z_1)), (qf65, .inl (cf65, 200, .inl g901_6)), (qf25, .inl (cf25, 400, .inl f25)), (qf6, .inl (cf6, 3002, .inl f6)), (qf5, .inl (cf5, 3002, .inl f5)), (qf2, .inl (cf2, 3000, .inl f2)), (qf58, .inl (cf58, 2000, .inl g901_1)), (qf59, .inl (cf59, 2000, .inl g901_2)), (qf60, .inl (cf60, 2000, .inl g901_3)), (qf61, .inl (cf61, 2000, .inl g901_4)), (qf63, .inl (cf63, 40000, .inl g901_5))] := hD
  replace hK : va_K (dC, dI) vwCl [(cf34, .int), (cf30, .int), (cf37, .int), (cf36, .int), (cf44, .int), (cf35, .int), (cf65, .int), (cf25, .int), (cf6, .int), (cf5, .int), (cf2, .int), (cf58, .int), (cf59, .int), (cf60, .int), (cf61, .int), (cf63, .int)] s := hK
  obtain ⟨hwa_1, hln_1, hre_1, hch_1_62, hch_1_64, hch_1_66⟩ := hw
  have hfk_1_2 : z_1[2]? = some (.ref qf2) := (hre_1 2 (by decide) (by decide) (by decide)).trans (hf2)
  have hfk_1_5 : z_1[5]? = some (.ref qf5) := (hre_1 5 (by decide) (by decide) (by decide)).trans (hf5)
  have hfk_1_6 : z_1[6]? = some (.ref qf6) := (hre_1 6 (by decide) (by decide) (by decide)).trans (hf6)
  have hfk_1_25 : z_1[25]? = some (.ref qf25) := (hre_1 25 (by decide) (by decide) (by decide)).trans (hf25)
  have hfk_1_30 : z_1[30]? = some (.ref qf30) := (hre_1 30 (by decide) (by decide) (by decide)).trans (hf30)
  have hfk_1_34 : z_1[34]? = some (.ref qf34) := (hre_1 34 (by decide) (by decide) (by decide)).trans (hf34)
  have hfk_1_35 : z_1[35]? = some (.ref qf35) := (hre_1 35 (by decide) (by decide) (by decide)).trans (hf35)
  have hfk_1_36 : z_1[36]? = some (.ref qf36) := (hre_1 36 (by decide) (by decide) (by decide)).trans (hf36)
  have hfk_1_37 : z_1[37]? = some (.ref qf37) := (hre_1 37 (by decide) (by decide) (by decide)).trans (hf37)
  have hfk_1_44 : z_1[44]? = some (.ref qf44) := (hre_1 44 (by decide) (by decide) (by decide)).trans (hf44)
  have hfk_1_58 : z_1[58]? = some (.ref qf58) := (hre_1 58 (by decide) (by decide) (by decide)).trans (hf58)
  have hfk_1_59 : z_1[59]? = some (.ref qf59) := (hre_1 59 (by decide) (by decide) (by decide)).trans (hf59)
  have hfk_1_60 : z_1[60]? = some (.ref qf60) := (hre_1 60 (by decide) (by decide) (by decide)).trans (hf60)
  have hfk_1_61 : z_1[61]? = some (.ref qf61) := (hre_1 61 (by decide) (by decide) (by decide)).trans (hf61)
  have hfk_1_63 : z_1[63]? = some (.ref qf63) := (hre_1 63 (by decide) (by decide) (by decide)).trans (hf63)
  have hfk_1_65 : z_1[65]? = some (.ref qf65) := (hre_1 65 (by decide) (by decide) (by decide)).trans (hf65)
  have hrq_1 : ∀ j : Nat, j ≠ 62 → j ≠ 64 → j ≠ 66 → z_1[j]? = zs[j]? := fun j g62 g64 g66 => (hre_1 j g62 g64 g66).trans (hrs0 j g62 g64 g66)
  obtain rfl := hwa_1
  refine lv_istore_n (lv' := [(3, .int u1_0), (0, .ref h0), (1, .int a1), (2, .int a2)]) hx hb dX13_memberConstant_10 rfl hl (by decide) rfl (fun ls hl => ?_)
  refine lv_aload_n hx hb dX13_memberConstant_11 rfl (lv_at hl 1 rfl) ?_
  refine lv_aload_n hx hb dX13_memberConstant_12 rfl (lv_at hl 1 rfl) ?_
  refine va_get (D := (dC, dI)) (ci := 13) (v := .ref qf34) (C := RX13) (T := TX13) (N := 155) hx hb hts uV_h9_X13 hown hK hP 6 rfl rfl 34 (by decide) (hts (.fieldLink RX13 86 "ClassMillModel" "memberName" "[I") mw_h9_118) (fun _ h9 => h9) hfk_1_34 dX13_memberConstant_13 ?_
  refine lv_iload_n hx hb dX13_memberConstant_16 rfl (lv_at hl 3 rfl) ?_
  obtain ⟨hi_2, hsp⟩ := ox_in hsp
  refine va_iald hx hb hK hP 0 0 rfl rfl (i := a2) hi_2 dX13_memberConstant_17 ?_
  obtain ⟨⟨u2_0, g902_1, g902_2, g902_3, g902_4, g902_5, g902_6, u2_7, u2_8, u2_9⟩, hu_2, hsp⟩ := ox_bind hsp
  try dsimp only at hsp
  have hPc := hP.sub (ws' := [(h0, .inr (13, z_1)), (qf6, .inl (cf6, 3002, .inl f6)), (qf5, .inl (cf5, 3002, .inl f5)), (qf2, .inl (cf2, 3000, .inl f2)), (qf65, .inl (cf65, 200, .inl g901_6)), (qf58, .inl (cf58, 2000, .inl g901_1)), (qf59, .inl (cf59, 2000, .inl g901_2)), (qf60, .inl (cf60, 2000, .inl g901_3)), (qf61, .inl (cf61, 2000, .inl g901_4)), (qf63, .inl (cf63, 40000, .inl g901_5))]) [6, 9, 10, 11, 7, 12, 13, 14, 15, 16] rfl
  have hDc := hD.sub (ws' := [(h0, .inr (13, z_1)), (qf6, .inl (cf6, 3002, .inl f6)), (qf5, .inl (cf5, 3002, .inl f5)), (qf2, .inl (cf2, 3000, .inl f2)), (qf65, .inl (cf65, 200, .inl g901_6)), (qf58, .inl (cf58, 2000, .inl g901_1)), (qf59, .inl (cf59, 2000, .inl g901_2)), (qf60, .inl (cf60, 2000, .inl g901_3)), (qf61, .inl (cf61, 2000, .inl g901_4)), (qf63, .inl (cf63, 40000, .inl g901_5))]) [6, 9, 10, 11, 7, 12, 13, 14, 15, 16] (by decide) rfl
  have hKc := hK.sub (tys' := [(cf6, .int), (cf5, .int), (cf2, .int), (cf65, .int), (cf58, .int), (cf59, .int), (cf60, .int), (cf61, .int), (cf63, .int)]) [8, 9, 10, 6, 11, 12, 13, 14, 15] rfl
  have hFc := va_free (wc := [(h0, .inr (13, z_1)), (qf6, .inl (cf6, 3002, .inl f6)), (qf5, .inl (cf5, 3002, .inl f5)), (qf2, .inl (cf2, 3000, .inl f2)), (qf65, .inl (cf65, 200, .inl g901_6)), (qf58, .inl (cf58, 2000, .inl g901_1)), (qf59, .inl (cf59, 2000, .inl g901_2)), (qf60, .inl (cf60, 2000, .inl g901_3)), (qf61, .inl (cf61, 2000, .inl g901_4)), (qf63, .inl (cf63, 40000, .inl g901_5))]) hD hS hA [6, 9, 10, 11, 7, 12, 13, 14, 15, 16] rfl
  refine va_calli (va_runV (As := [.int (f34 (a2 : Int32).toNatClampNeg)]) (rest := []) ⟨hx, hb, hml, hown, hts⟩ (vm_textOf l dC dI H.size h0 z_1 ((f34 (a2 : Int32).toNatClampNeg)) qf2 qf5 qf6 qf58 qf59 qf60 qf61 u1_7 qf63 u1_8 qf65 u1_9 cf6 f6 cf5 f5 cf2 f2 cf65 g901_6 cf58 g901_1 cf59 g901_2 cf60 g901_3 cf61 g901_4 cf63 g901_5 nf u2_0 g902_1 g902_2 g902_3 g902_4 g902_5 g902_6 u2_7 u2_8 u2_9 hln_1 hfk_1_2 hfk_1_5 hfk_1_6 hfk_1_58 hfk_1_59 hfk_1_60 hfk_1_61 hch_1_62 hfk_1_63 hch_1_64 hfk_1_65 hch_1_66 hu_2) (cwV 1 hts gv_h9_81 rfl rfl rfl (by decide +kernel) ⟨Nat.le_of_ble_eq_true rfl, Nat.le_of_ble_eq_true rfl⟩) ⟨fun a U g mk q => by obtain ⟨q0, q1, qP, qK, qD⟩ := q; exact ⟨q0, q1, qP, va_K.moved (u := U) (U := U.calling g mk a) (Vm.Alike.refl U.vm) qK, qD⟩, va_recv hKc hPc (ci := 13) (q0 := 0) rfl rfl, fun U hU hW => ⟨rfl, by rw [hU], by rw [hU]; exact hPc, va_K.moved hW.alike hKc, hDc.weaken (fun _ _ _ _ => trivial)⟩⟩ rfl rfl hl.1 rfl (lv_room (Nat.le_of_ble_eq_true rfl)) dX13_memberConstant_18 ⟨Nat.le_of_ble_eq_true rfl, Nat.le_of_ble_eq_true rfl⟩) hS (fun q _ h => hFc q h) hFc ?_
  clear hS
  intro r_3 u t H1 locs ht hvm hw hB hz1 hk1 hS
  obtain ⟨z_2, rfl⟩ : ∃ z, z = u := ⟨_, rfl⟩
  obtain ⟨hP1, hK1, hD1⟩ := hB
  rw [ht] at hP1
  have hK1 := va_K.moved hvm.symm hK1
  try dsimp only at hw
  have hPD := va_join (wr := [(qf34, .inl (cf34, 800, .inl f34)), (qf30, .inl (cf30, 800, .inl f30)), (qf37, .inl (cf37, 800, .inl f37)), (qf36, .inl (cf36, 800, .inl f36)), (qf44, .inl (cf44, 1500, .inl f44)), (qf35, .inl (cf35, 800, .inl f35)), (qf25, .inl (cf25, 400, .inl f25))]) (w1 := [(h0, .inr (13, z_2)), (qf6, .inl (cf6, 3002, .inl f6)), (qf5, .inl (cf5, 3002, .inl f5)), (qf2, .inl (cf2, 3000, .inl f2)), (qf65, .inl (cf65, 200, .inl g902_6)), (qf58, .inl (cf58, 2000, .inl g902_1)), (qf59, .inl (cf59, 2000, .inl g902_2)), (qf60, .inl (cf60, 2000, .inl g902_3)), (qf61, .inl (cf61, 2000, .inl g902_4)), (qf63, .inl (cf63, 40000, .inl g902_5))]) hP hD [6, 9, 10, 11, 7, 12, 13, 14, 15, 16] [0, 1, 2, 3, 4, 5, 8] rfl rfl (by decide) (by decide) hk1 hFc hP1 hD1
  clear hP hD
  obtain ⟨hP, hD⟩ := hPD
  replace hK := (hK.sub (tys' := [(cf34, .int), (cf30, .int), (cf37, .int), (cf36, .int), (cf44, .int), (cf35, .int), (cf25, .int)]) [0, 1, 2, 3, 4, 5, 7] rfl).app hK1
  clear hPc hDc hKc hFc hP1 hK1 hD1 hz1 hk1 ht hvm
  generalize H1 = H at hP hS ⊢
  replace hP : va_P (dC, dI) vwCl [(qf34, .inl (cf34, 800, .inl f34)), (qf30, .inl (cf30, 800, .inl f30)), (qf37, .inl (cf37, 800, .inl f37)), (qf36, .inl (cf36, 800, .inl f36)), (qf44, .inl (cf44, 1500, .inl f44)), (qf35, .inl (cf35, 800, .inl f35)), (qf25, .inl (cf25, 400, .inl f25)), (h0, .inr (13, z_2)), (qf6, .inl (cf6, 3002, .inl f6)), (qf5, .inl (cf5, 3002, .inl f5)), (qf2, .inl (cf2, 3000, .inl f2)), (qf65, .inl (cf65, 200, .inl g902_6)), (qf58, .inl (cf58, 2000, .inl g902_1)), (qf59, .inl (cf59, 2000, .inl g902_2)), (qf60, .inl (cf60, 2000, .inl g902_3)), (qf61, .inl (cf61, 2000, .inl g902_4)), (qf63, .inl (cf63, 40000, .inl g902_5))] H := hP
  replace hD : va_D A [(qf34, .inl (cf34, 800, .inl f34)), (qf30, .inl (cf30, 800, .inl f30)), (qf37, .inl (cf37, 800, .inl f37)), (qf36, .inl (cf36, 800, .inl f36)), (qf44, .inl (cf44, 1500, .inl f44)), (qf35, .inl (cf35, 800, .inl f35)), (qf25, .inl (cf25, 400, .inl f25)), (h0, .inr (13, z_2)), (qf6, .inl (cf6, 3002, .inl f6)), (qf5, .inl (cf5, 3002, .inl f5)), (qf2, .inl (cf2, 3000, .inl f2)), (qf65, .inl (cf65, 200, .inl g902_6)), (qf58, .inl (cf58, 2000, .inl g902_1)), (qf59, .inl (cf59, 2000, .inl g902_2)), (qf60, .inl (cf60, 2000, .inl g902_3)), (qf61, .inl (cf61, 2000, .inl g902_4)), (qf63, .inl (cf63, 40000, .inl g902_5))] := hD
  replace hK : va_K (dC, dI) vwCl [(cf34, .int), (cf30, .int), (cf37, .int), (cf36, .int), (cf44, .int), (cf35, .int), (cf25, .int), (cf6, .int), (cf5, .int), (cf2, .int), (cf65, .int), (cf58, .int), (cf59, .int), (cf60, .int), (cf61, .int), (cf63, .int)] s := hK
  obtain ⟨hwa_2, hln_2, hre_2, hch_2_62, hch_2_64, hch_2_66⟩ := hw
  have hfk_2_2 : z_2[2]? = some (.ref qf2) := (hre_2 2 (by decide) (by decide) (by decide)).trans (hfk_1_2)
  have hfk_2_5 : z_2[5]? = some (.ref qf5) := (hre_2 5 (by decide) (by decide) (by decide)).trans (hfk_1_5)
  have hfk_2_6 : z_2[6]? = some (.ref qf6) := (hre_2 6 (by decide) (by decide) (by decide)).trans (hfk_1_6)
  have hfk_2_25 : z_2[25]? = some (.ref qf25) := (hre_2 25 (by decide) (by decide) (by decide)).trans (hfk_1_25)
  have hfk_2_30 : z_2[30]? = some (.ref qf30) := (hre_2 30 (by decide) (by decide) (by decide)).trans (hfk_1_30)
  have hfk_2_34 : z_2[34]? = some (.ref qf34) := (hre_2 34 (by decide) (by decide) (by decide)).trans (hfk_1_34)
  have hfk_2_35 : z_2[35]? = some (.ref qf35) := (hre_2 35 (by decide) (by decide) (by decide)).trans (hfk_1_35)
  have hfk_2_36 : z_2[36]? = some (.ref qf36) := (hre_2 36 (by decide) (by decide) (by decide)).trans (hfk_1_36)
  have hfk_2_37 : z_2[37]? = some (.ref qf37) := (hre_2 37 (by decide) (by decide) (by decide)).trans (hfk_1_37)
  have hfk_2_44 : z_2[44]? = some (.ref qf44) := (hre_2 44 (by decide) (by decide) (by decide)).trans (hfk_1_44)
  have hfk_2_58 : z_2[58]? = some (.ref qf58) := (hre_2 58 (by decide) (by decide) (by decide)).trans (hfk_1_58)
  have hfk_2_59 : z_2[59]? = some (.ref qf59) := (hre_2 59 (by decide) (by decide) (by decide)).trans (hfk_1_59)
  have hfk_2_60 : z_2[60]? = some (.ref qf60) := (hre_2 60 (by decide) (by decide) (by decide)).trans (hfk_1_60)
  have hfk_2_61 : z_2[61]? = some (.ref qf61) := (hre_2 61 (by decide) (by decide) (by decide)).trans (hfk_1_61)
  have hfk_2_63 : z_2[63]? = some (.ref qf63) := (hre_2 63 (by decide) (by decide) (by decide)).trans (hfk_1_63)
  have hfk_2_65 : z_2[65]? = some (.ref qf65) := (hre_2 65 (by decide) (by decide) (by decide)).trans (hfk_1_65)
  have hrq_2 : ∀ j : Nat, j ≠ 62 → j ≠ 64 → j ≠ 66 → z_2[j]? = zs[j]? := fun j g62 g64 g66 => (hre_2 j g62 g64 g66).trans (hrq_1 j g62 g64 g66)
  obtain rfl := hwa_2
  refine lv_istore (lv' := [(4, .int u2_0), (3, .int u1_0), (0, .ref h0), (1, .int a1), (2, .int a2)]) hx hb dX13_memberConstant_21 hl (by decide) rfl (fun ls hl => ?_)
  refine lv_aload_n hx hb dX13_memberConstant_23 rfl (lv_at hl 2 rfl) ?_
  refine lv_iconst (v := 4) hx hb dX13_memberConstant_24 (by decide) ?_
  refine lv_iload_n hx hb dX13_memberConstant_25 rfl (lv_at hl 1 rfl) ?_
  refine lv_iload hx hb dX13_memberConstant_26 (lv_at hl 0 rfl) ?_
  refine lv_aload_n hx hb dX13_memberConstant_28 rfl (lv_at hl 2 rfl) ?_
  refine lv_iload_n hx hb dX13_memberConstant_29 rfl (lv_at hl 4 rfl) ?_
  obtain ⟨⟨u3_0, g903_1, g903_2, g903_3, g903_4, g903_5, g903_6, u3_7, u3_8, u3_9⟩, hu_3, hsp⟩ := ox_bind hsp
  try dsimp only at hsp
  have hPc := hP.sub (ws' := [(h0, .inr (13, z_2)), (qf30, .inl (cf30, 800, .inl f30)), (qf65, .inl (cf65, 200, .inl g902_6)), (qf37, .inl (cf37, 800, .inl f37)), (qf36, .inl (cf36, 800, .inl f36)), (qf44, .inl (cf44, 1500, .inl f44)), (qf25, .inl (cf25, 400, .inl f25)), (qf6, .inl (cf6, 3002, .inl f6)), (qf5, .inl (cf5, 3002, .inl f5)), (qf2, .inl (cf2, 3000, .inl f2)), (qf35, .inl (cf35, 800, .inl f35)), (qf58, .inl (cf58, 2000, .inl g902_1)), (qf59, .inl (cf59, 2000, .inl g902_2)), (qf60, .inl (cf60, 2000, .inl g902_3)), (qf61, .inl (cf61, 2000, .inl g902_4)), (qf63, .inl (cf63, 40000, .inl g902_5))]) [7, 1, 11, 2, 3, 4, 6, 8, 9, 10, 5, 12, 13, 14, 15, 16] rfl
  have hDc := hD.sub (ws' := [(h0, .inr (13, z_2)), (qf30, .inl (cf30, 800, .inl f30)), (qf65, .inl (cf65, 200, .inl g902_6)), (qf37, .inl (cf37, 800, .inl f37)), (qf36, .inl (cf36, 800, .inl f36)), (qf44, .inl (cf44, 1500, .inl f44)), (qf25, .inl (cf25, 400, .inl f25)), (qf6, .inl (cf6, 3002, .inl f6)), (qf5, .inl (cf5, 3002, .inl f5)), (qf2, .inl (cf2, 3000, .inl f2)), (qf35, .inl (cf35, 800, .inl f35)), (qf58, .inl (cf58, 2000, .inl g902_1)), (qf59, .inl (cf59, 2000, .inl g902_2)), (qf60, .inl (cf60, 2000, .inl g902_3)), (qf61, .inl (cf61, 2000, .inl g902_4)), (qf63, .inl (cf63, 40000, .inl g902_5))]) [7, 1, 11, 2, 3, 4, 6, 8, 9, 10, 5, 12, 13, 14, 15, 16] (by decide) rfl
  have hKc := hK.sub (tys' := [(cf30, .int), (cf65, .int), (cf37, .int), (cf36, .int), (cf44, .int), (cf25, .int), (cf6, .int), (cf5, .int), (cf2, .int), (cf35, .int), (cf58, .int), (cf59, .int), (cf60, .int), (cf61, .int), (cf63, .int)]) [1, 10, 2, 3, 4, 6, 7, 8, 9, 5, 11, 12, 13, 14, 15] rfl
  have hFc := va_free (wc := [(h0, .inr (13, z_2)), (qf30, .inl (cf30, 800, .inl f30)), (qf65, .inl (cf65, 200, .inl g902_6)), (qf37, .inl (cf37, 800, .inl f37)), (qf36, .inl (cf36, 800, .inl f36)), (qf44, .inl (cf44, 1500, .inl f44)), (qf25, .inl (cf25, 400, .inl f25)), (qf6, .inl (cf6, 3002, .inl f6)), (qf5, .inl (cf5, 3002, .inl f5)), (qf2, .inl (cf2, 3000, .inl f2)), (qf35, .inl (cf35, 800, .inl f35)), (qf58, .inl (cf58, 2000, .inl g902_1)), (qf59, .inl (cf59, 2000, .inl g902_2)), (qf60, .inl (cf60, 2000, .inl g902_3)), (qf61, .inl (cf61, 2000, .inl g902_4)), (qf63, .inl (cf63, 40000, .inl g902_5))]) hD hS hA [7, 1, 11, 2, 3, 4, 6, 8, 9, 10, 5, 12, 13, 14, 15, 16] rfl
  refine va_calli (va_runV (As := [.int a2]) (rest := [.int u2_0, .int u1_0, .int 4, .ref h0]) ⟨hx, hb, hml, hown, hts⟩ (vm_kindOf l dC dI H.size h0 z_2 a2 qf2 qf5 qf6 qf25 qf30 qf35 qf36 qf37 qf44 qf58 qf59 qf60 qf61 u2_7 qf63 u2_8 qf65 u2_9 cf30 f30 cf65 g902_6 cf37 f37 cf36 f36 cf44 f44 cf25 f25 cf6 f6 cf5 f5 cf2 f2 cf35 f35 cf58 g902_1 cf59 g902_2 cf60 g902_3 cf61 g902_4 cf63 g902_5 nS477 fS477 hS477 qS477 tS477 nf u3_0 g903_1 g903_2 g903_3 g903_4 g903_5 g903_6 u3_7 u3_8 u3_9 hln_2 hfk_2_2 hfk_2_5 hfk_2_6 hfk_2_25 hfk_2_30 hfk_2_35 hfk_2_36 hfk_2_37 hfk_2_44 hfk_2_58 hfk_2_59 hfk_2_60 hfk_2_61 hch_2_62 hfk_2_63 hch_2_64 hfk_2_65 hch_2_66 hu_3) (cwV 1 hts gv_h9_82 rfl rfl rfl (by decide +kernel) ⟨Nat.le_of_ble_eq_true rfl, Nat.le_of_ble_eq_true rfl⟩) ⟨fun a U g mk q => by obtain ⟨q0, q1, qP, qK, qD, qhZWS477, qhZRS477⟩ := q; exact ⟨q0, q1, qP, va_K.moved (u := U) (U := U.calling g mk a) (Vm.Alike.refl U.vm) qK, qD, pz_W.moved (u := U) (U := U.calling g mk a) (Vm.Alike.refl U.vm) qhZWS477, vk_R.same rfl qhZRS477⟩, va_recv hKc hPc (ci := 13) (q0 := 0) rfl rfl, fun U hU hW => ⟨rfl, by rw [hU], by rw [hU]; exact hPc, va_K.moved hW.alike hKc, hDc.weaken (fun _ _ _ _ => trivial), by rw [hU]; exact ((pz_W.moved hW.alike hZWS477).kept hS.2.1).narrow hFc, vk_R.warm hW hZRS477⟩⟩ rfl rfl hl.1 rfl (lv_room (Nat.le_of_ble_eq_true rfl)) dX13_memberConstant_30 ⟨Nat.le_of_ble_eq_true rfl, Nat.le_of_ble_eq_true rfl⟩) hS (fun q _ h => hFc q h) hFc ?_
  clear hS
  intro r_4 u t H1 locs ht hvm hw hB hz1 hk1 hS
  obtain ⟨z_3, rfl⟩ : ∃ z, z = u := ⟨_, rfl⟩
  obtain ⟨hP1, hK1, hD1⟩ := hB
  rw [ht] at hP1
  have hK1 := va_K.moved hvm.symm hK1
  try dsimp only at hw
  have hPD := va_join (wr := [(qf34, .inl (cf34, 800, .inl f34))]) (w1 := [(h0, .inr (13, z_3)), (qf30, .inl (cf30, 800, .inl f30)), (qf65, .inl (cf65, 200, .inl g903_6)), (qf37, .inl (cf37, 800, .inl f37)), (qf36, .inl (cf36, 800, .inl f36)), (qf44, .inl (cf44, 1500, .inl f44)), (qf25, .inl (cf25, 400, .inl f25)), (qf6, .inl (cf6, 3002, .inl f6)), (qf5, .inl (cf5, 3002, .inl f5)), (qf2, .inl (cf2, 3000, .inl f2)), (qf35, .inl (cf35, 800, .inl f35)), (qf58, .inl (cf58, 2000, .inl g903_1)), (qf59, .inl (cf59, 2000, .inl g903_2)), (qf60, .inl (cf60, 2000, .inl g903_3)), (qf61, .inl (cf61, 2000, .inl g903_4)), (qf63, .inl (cf63, 40000, .inl g903_5))]) hP hD [7, 1, 11, 2, 3, 4, 6, 8, 9, 10, 5, 12, 13, 14, 15, 16] [0] rfl rfl (by decide) (by decide) hk1 hFc hP1 hD1
  clear hP hD
  obtain ⟨hP, hD⟩ := hPD
  replace hK := (hK.sub (tys' := [(cf34, .int)]) [0] rfl).app hK1
  clear hPc hDc hKc hFc hP1 hK1 hD1 hz1 hk1 ht hvm
  generalize H1 = H at hP hS ⊢
  replace hP : va_P (dC, dI) vwCl [(qf34, .inl (cf34, 800, .inl f34)), (h0, .inr (13, z_3)), (qf30, .inl (cf30, 800, .inl f30)), (qf65, .inl (cf65, 200, .inl g903_6)), (qf37, .inl (cf37, 800, .inl f37)), (qf36, .inl (cf36, 800, .inl f36)), (qf44, .inl (cf44, 1500, .inl f44)), (qf25, .inl (cf25, 400, .inl f25)), (qf6, .inl (cf6, 3002, .inl f6)), (qf5, .inl (cf5, 3002, .inl f5)), (qf2, .inl (cf2, 3000, .inl f2)), (qf35, .inl (cf35, 800, .inl f35)), (qf58, .inl (cf58, 2000, .inl g903_1)), (qf59, .inl (cf59, 2000, .inl g903_2)), (qf60, .inl (cf60, 2000, .inl g903_3)), (qf61, .inl (cf61, 2000, .inl g903_4)), (qf63, .inl (cf63, 40000, .inl g903_5))] H := hP
  replace hD : va_D A [(qf34, .inl (cf34, 800, .inl f34)), (h0, .inr (13, z_3)), (qf30, .inl (cf30, 800, .inl f30)), (qf65, .inl (cf65, 200, .inl g903_6)), (qf37, .inl (cf37, 800, .inl f37)), (qf36, .inl (cf36, 800, .inl f36)), (qf44, .inl (cf44, 1500, .inl f44)), (qf25, .inl (cf25, 400, .inl f25)), (qf6, .inl (cf6, 3002, .inl f6)), (qf5, .inl (cf5, 3002, .inl f5)), (qf2, .inl (cf2, 3000, .inl f2)), (qf35, .inl (cf35, 800, .inl f35)), (qf58, .inl (cf58, 2000, .inl g903_1)), (qf59, .inl (cf59, 2000, .inl g903_2)), (qf60, .inl (cf60, 2000, .inl g903_3)), (qf61, .inl (cf61, 2000, .inl g903_4)), (qf63, .inl (cf63, 40000, .inl g903_5))] := hD
  replace hK : va_K (dC, dI) vwCl [(cf34, .int), (cf30, .int), (cf65, .int), (cf37, .int), (cf36, .int), (cf44, .int), (cf25, .int), (cf6, .int), (cf5, .int), (cf2, .int), (cf35, .int), (cf58, .int), (cf59, .int), (cf60, .int), (cf61, .int), (cf63, .int)] s := hK
  obtain ⟨hwa_3, hln_3, hre_3, hch_3_62, hch_3_64, hch_3_66⟩ := hw
  have hfk_3_2 : z_3[2]? = some (.ref qf2) := (hre_3 2 (by decide) (by decide) (by decide)).trans (hfk_2_2)
  have hfk_3_5 : z_3[5]? = some (.ref qf5) := (hre_3 5 (by decide) (by decide) (by decide)).trans (hfk_2_5)
  have hfk_3_6 : z_3[6]? = some (.ref qf6) := (hre_3 6 (by decide) (by decide) (by decide)).trans (hfk_2_6)
  have hfk_3_25 : z_3[25]? = some (.ref qf25) := (hre_3 25 (by decide) (by decide) (by decide)).trans (hfk_2_25)
  have hfk_3_30 : z_3[30]? = some (.ref qf30) := (hre_3 30 (by decide) (by decide) (by decide)).trans (hfk_2_30)
  have hfk_3_34 : z_3[34]? = some (.ref qf34) := (hre_3 34 (by decide) (by decide) (by decide)).trans (hfk_2_34)
  have hfk_3_35 : z_3[35]? = some (.ref qf35) := (hre_3 35 (by decide) (by decide) (by decide)).trans (hfk_2_35)
  have hfk_3_36 : z_3[36]? = some (.ref qf36) := (hre_3 36 (by decide) (by decide) (by decide)).trans (hfk_2_36)
  have hfk_3_37 : z_3[37]? = some (.ref qf37) := (hre_3 37 (by decide) (by decide) (by decide)).trans (hfk_2_37)
  have hfk_3_44 : z_3[44]? = some (.ref qf44) := (hre_3 44 (by decide) (by decide) (by decide)).trans (hfk_2_44)
  have hfk_3_58 : z_3[58]? = some (.ref qf58) := (hre_3 58 (by decide) (by decide) (by decide)).trans (hfk_2_58)
  have hfk_3_59 : z_3[59]? = some (.ref qf59) := (hre_3 59 (by decide) (by decide) (by decide)).trans (hfk_2_59)
  have hfk_3_60 : z_3[60]? = some (.ref qf60) := (hre_3 60 (by decide) (by decide) (by decide)).trans (hfk_2_60)
  have hfk_3_61 : z_3[61]? = some (.ref qf61) := (hre_3 61 (by decide) (by decide) (by decide)).trans (hfk_2_61)
  have hfk_3_63 : z_3[63]? = some (.ref qf63) := (hre_3 63 (by decide) (by decide) (by decide)).trans (hfk_2_63)
  have hfk_3_65 : z_3[65]? = some (.ref qf65) := (hre_3 65 (by decide) (by decide) (by decide)).trans (hfk_2_65)
  have hrq_3 : ∀ j : Nat, j ≠ 62 → j ≠ 64 → j ≠ 66 → z_3[j]? = zs[j]? := fun j g62 g64 g66 => (hre_3 j g62 g64 g66).trans (hrq_2 j g62 g64 g66)
  obtain rfl := hwa_3
  obtain ⟨⟨u4_0, g904_1, g904_2, g904_3, g904_4, u4_5⟩, hu_4, hsp⟩ := ox_bind hsp
  try dsimp only at hsp
  have hPc := hP.sub (ws' := [(h0, .inr (13, z_3)), (qf58, .inl (cf58, 2000, .inl g903_1)), (qf59, .inl (cf59, 2000, .inl g903_2)), (qf60, .inl (cf60, 2000, .inl g903_3)), (qf61, .inl (cf61, 2000, .inl g903_4))]) [1, 12, 13, 14, 15] rfl
  have hDc := hD.sub (ws' := [(h0, .inr (13, z_3)), (qf58, .inl (cf58, 2000, .inl g903_1)), (qf59, .inl (cf59, 2000, .inl g903_2)), (qf60, .inl (cf60, 2000, .inl g903_3)), (qf61, .inl (cf61, 2000, .inl g903_4))]) [1, 12, 13, 14, 15] (by decide) rfl
  have hKc := hK.sub (tys' := [(cf58, .int), (cf59, .int), (cf60, .int), (cf61, .int)]) [11, 12, 13, 14] rfl
  have hFc := va_free (wc := [(h0, .inr (13, z_3)), (qf58, .inl (cf58, 2000, .inl g903_1)), (qf59, .inl (cf59, 2000, .inl g903_2)), (qf60, .inl (cf60, 2000, .inl g903_3)), (qf61, .inl (cf61, 2000, .inl g903_4))]) hD hS hA [1, 12, 13, 14, 15] rfl
  refine va_calli (va_runV (As := [.int 4, .int u1_0, .int u2_0, .int u3_0]) (rest := []) ⟨hx, hb, hml, hown, hts⟩ (vm_constant l dC dI H.size h0 z_3 4 u1_0 u2_0 u3_0 qf58 qf59 qf60 qf61 u3_7 cf58 g903_1 cf59 g903_2 cf60 g903_3 cf61 g903_4 nf u4_0 g904_1 g904_2 g904_3 g904_4 u4_5 hln_3 hfk_3_58 hfk_3_59 hfk_3_60 hfk_3_61 hch_3_62 hu_4) (cwV 4 hts gv_h9_33 rfl rfl rfl (by decide +kernel) ⟨Nat.le_of_ble_eq_true rfl, Nat.le_of_ble_eq_true rfl⟩) ⟨fun a U g mk q => by obtain ⟨q0, q1, qP, qK, qD⟩ := q; exact ⟨q0, q1, qP, va_K.moved (u := U) (U := U.calling g mk a) (Vm.Alike.refl U.vm) qK, qD⟩, va_recv hKc hPc (ci := 13) (q0 := 0) rfl rfl, fun U hU hW => ⟨rfl, by rw [hU], by rw [hU]; exact hPc, va_K.moved hW.alike hKc, hDc.weaken (fun _ _ _ _ => trivial)⟩⟩ rfl rfl hl.1 rfl (lv_room (Nat.le_of_ble_eq_true rfl)) dX13_memberConstant_33 ⟨Nat.le_of_ble_eq_true rfl, Nat.le_of_ble_eq_true rfl⟩) hS (fun q _ h => hFc q h) hFc ?_
  clear hS
  intro r_5 u t H1 locs ht hvm hw hB hz1 hk1 hS
  obtain ⟨z_4, rfl⟩ : ∃ z, z = u := ⟨_, rfl⟩
  obtain ⟨hP1, hK1, hD1⟩ := hB
  rw [ht] at hP1
  have hK1 := va_K.moved hvm.symm hK1
  try dsimp only at hw
  have hPD := va_join (wr := [(qf34, .inl (cf34, 800, .inl f34)), (qf30, .inl (cf30, 800, .inl f30)), (qf65, .inl (cf65, 200, .inl g903_6)), (qf37, .inl (cf37, 800, .inl f37)), (qf36, .inl (cf36, 800, .inl f36)), (qf44, .inl (cf44, 1500, .inl f44)), (qf25, .inl (cf25, 400, .inl f25)), (qf6, .inl (cf6, 3002, .inl f6)), (qf5, .inl (cf5, 3002, .inl f5)), (qf2, .inl (cf2, 3000, .inl f2)), (qf35, .inl (cf35, 800, .inl f35)), (qf63, .inl (cf63, 40000, .inl g903_5))]) (w1 := [(h0, .inr (13, z_4)), (qf58, .inl (cf58, 2000, .inl g904_1)), (qf59, .inl (cf59, 2000, .inl g904_2)), (qf60, .inl (cf60, 2000, .inl g904_3)), (qf61, .inl (cf61, 2000, .inl g904_4))]) hP hD [1, 12, 13, 14, 15] [0, 2, 3, 4, 5, 6, 7, 8, 9, 10, 11, 16] rfl rfl (by decide) (by decide) hk1 hFc hP1 hD1
  clear hP hD
  obtain ⟨hP, hD⟩ := hPD
  replace hK := (hK.sub (tys' := [(cf34, .int), (cf30, .int), (cf65, .int), (cf37, .int), (cf36, .int), (cf44, .int), (cf25, .int), (cf6, .int), (cf5, .int), (cf2, .int), (cf35, .int), (cf63, .int)]) [0, 1, 2, 3, 4, 5, 6, 7, 8, 9, 10, 15] rfl).app hK1
  clear hPc hDc hKc hFc hP1 hK1 hD1 hz1 hk1 ht hvm
  generalize H1 = H at hP hS ⊢
  replace hP : va_P (dC, dI) vwCl [(qf34, .inl (cf34, 800, .inl f34)), (qf30, .inl (cf30, 800, .inl f30)), (qf65, .inl (cf65, 200, .inl g903_6)), (qf37, .inl (cf37, 800, .inl f37)), (qf36, .inl (cf36, 800, .inl f36)), (qf44, .inl (cf44, 1500, .inl f44)), (qf25, .inl (cf25, 400, .inl f25)), (qf6, .inl (cf6, 3002, .inl f6)), (qf5, .inl (cf5, 3002, .inl f5)), (qf2, .inl (cf2, 3000, .inl f2)), (qf35, .inl (cf35, 800, .inl f35)), (qf63, .inl (cf63, 40000, .inl g903_5)), (h0, .inr (13, z_4)), (qf58, .inl (cf58, 2000, .inl g904_1)), (qf59, .inl (cf59, 2000, .inl g904_2)), (qf60, .inl (cf60, 2000, .inl g904_3)), (qf61, .inl (cf61, 2000, .inl g904_4))] H := hP
  replace hD : va_D A [(qf34, .inl (cf34, 800, .inl f34)), (qf30, .inl (cf30, 800, .inl f30)), (qf65, .inl (cf65, 200, .inl g903_6)), (qf37, .inl (cf37, 800, .inl f37)), (qf36, .inl (cf36, 800, .inl f36)), (qf44, .inl (cf44, 1500, .inl f44)), (qf25, .inl (cf25, 400, .inl f25)), (qf6, .inl (cf6, 3002, .inl f6)), (qf5, .inl (cf5, 3002, .inl f5)), (qf2, .inl (cf2, 3000, .inl f2)), (qf35, .inl (cf35, 800, .inl f35)), (qf63, .inl (cf63, 40000, .inl g903_5)), (h0, .inr (13, z_4)), (qf58, .inl (cf58, 2000, .inl g904_1)), (qf59, .inl (cf59, 2000, .inl g904_2)), (qf60, .inl (cf60, 2000, .inl g904_3)), (qf61, .inl (cf61, 2000, .inl g904_4))] := hD
  replace hK : va_K (dC, dI) vwCl [(cf34, .int), (cf30, .int), (cf65, .int), (cf37, .int), (cf36, .int), (cf44, .int), (cf25, .int), (cf6, .int), (cf5, .int), (cf2, .int), (cf35, .int), (cf63, .int), (cf58, .int), (cf59, .int), (cf60, .int), (cf61, .int)] s := hK
  obtain ⟨hwa_4, hln_4, hre_4, hch_4_62⟩ := hw
  have hfk_4_2 : z_4[2]? = some (.ref qf2) := (hre_4 2 (by decide)).trans (hfk_3_2)
  have hfk_4_5 : z_4[5]? = some (.ref qf5) := (hre_4 5 (by decide)).trans (hfk_3_5)
  have hfk_4_6 : z_4[6]? = some (.ref qf6) := (hre_4 6 (by decide)).trans (hfk_3_6)
  have hfk_4_25 : z_4[25]? = some (.ref qf25) := (hre_4 25 (by decide)).trans (hfk_3_25)
  have hfk_4_30 : z_4[30]? = some (.ref qf30) := (hre_4 30 (by decide)).trans (hfk_3_30)
  have hfk_4_34 : z_4[34]? = some (.ref qf34) := (hre_4 34 (by decide)).trans (hfk_3_34)
  have hfk_4_35 : z_4[35]? = some (.ref qf35) := (hre_4 35 (by decide)).trans (hfk_3_35)
  have hfk_4_36 : z_4[36]? = some (.ref qf36) := (hre_4 36 (by decide)).trans (hfk_3_36)
  have hfk_4_37 : z_4[37]? = some (.ref qf37) := (hre_4 37 (by decide)).trans (hfk_3_37)
  have hfk_4_44 : z_4[44]? = some (.ref qf44) := (hre_4 44 (by decide)).trans (hfk_3_44)
  have hfk_4_58 : z_4[58]? = some (.ref qf58) := (hre_4 58 (by decide)).trans (hfk_3_58)
  have hfk_4_59 : z_4[59]? = some (.ref qf59) := (hre_4 59 (by decide)).trans (hfk_3_59)
  have hfk_4_60 : z_4[60]? = some (.ref qf60) := (hre_4 60 (by decide)).trans (hfk_3_60)
  have hfk_4_61 : z_4[61]? = some (.ref qf61) := (hre_4 61 (by decide)).trans (hfk_3_61)
  have hfk_4_63 : z_4[63]? = some (.ref qf63) := (hre_4 63 (by decide)).trans (hfk_3_63)
  have hfk_4_64 : z_4[64]? = some (.int u3_8) := (hre_4 64 (by decide)).trans (hch_3_64)
  have hfk_4_65 : z_4[65]? = some (.ref qf65) := (hre_4 65 (by decide)).trans (hfk_3_65)
  have hfk_4_66 : z_4[66]? = some (.int u3_9) := (hre_4 66 (by decide)).trans (hch_3_66)
  have hrq_4 : ∀ j : Nat, j ≠ 62 → j ≠ 64 → j ≠ 66 → z_4[j]? = zs[j]? := fun j g62 g64 g66 => (hre_4 j g62).trans (hrq_3 j g62 g64 g66)
  obtain rfl := hwa_4
  have hr0 := Option.some.inj hsp
  clear hsp
  obtain ⟨hq0, hr1⟩ := Prod.mk.inj hr0
  clear hr0
  obtain ⟨hq1, hr2⟩ := Prod.mk.inj hr1
  clear hr1
  obtain ⟨hq2, hr3⟩ := Prod.mk.inj hr2
  clear hr2
  obtain ⟨hq3, hr4⟩ := Prod.mk.inj hr3
  clear hr3
  obtain ⟨hq4, hr5⟩ := Prod.mk.inj hr4
  clear hr4
  obtain ⟨hq5, hr6⟩ := Prod.mk.inj hr5
  clear hr5
  obtain ⟨hq6, hr7⟩ := Prod.mk.inj hr6
  clear hr6
  obtain ⟨hq7, hr8⟩ := Prod.mk.inj hr7
  clear hr7
  obtain ⟨hq8, hr9⟩ := Prod.mk.inj hr8
  clear hr8
  subst hq0
  subst hq1
  subst hq2
  subst hq3
  subst hq4
  subst hq5
  subst hq6
  subst hq7
  subst hq8
  subst hr9
  have hP9 := hP.sub (ws' := [(h0, .inr (13, z_4)), (qf65, .inl (cf65, 200, .inl g903_6)), (qf25, .inl (cf25, 400, .inl f25)), (qf6, .inl (cf6, 3002, .inl f6)), (qf5, .inl (cf5, 3002, .inl f5)), (qf2, .inl (cf2, 3000, .inl f2)), (qf58, .inl (cf58, 2000, .inl g904_1)), (qf59, .inl (cf59, 2000, .inl g904_2)), (qf60, .inl (cf60, 2000, .inl g904_3)), (qf61, .inl (cf61, 2000, .inl g904_4)), (qf63, .inl (cf63, 40000, .inl g903_5)), (qf34, .inl (cf34, 800, .inl f34)), (qf30, .inl (cf30, 800, .inl f30)), (qf37, .inl (cf37, 800, .inl f37)), (qf36, .inl (cf36, 800, .inl f36)), (qf44, .inl (cf44, 1500, .inl f44)), (qf35, .inl (cf35, 800, .inl f35))]) [12, 2, 6, 7, 8, 9, 13, 14, 15, 16, 11, 0, 1, 3, 4, 5, 10] rfl
  have hD9 := hD.sub (ws' := [(h0, .inr (13, z_4)), (qf65, .inl (cf65, 200, .inl g903_6)), (qf25, .inl (cf25, 400, .inl f25)), (qf6, .inl (cf6, 3002, .inl f6)), (qf5, .inl (cf5, 3002, .inl f5)), (qf2, .inl (cf2, 3000, .inl f2)), (qf58, .inl (cf58, 2000, .inl g904_1)), (qf59, .inl (cf59, 2000, .inl g904_2)), (qf60, .inl (cf60, 2000, .inl g904_3)), (qf61, .inl (cf61, 2000, .inl g904_4)), (qf63, .inl (cf63, 40000, .inl g903_5)), (qf34, .inl (cf34, 800, .inl f34)), (qf30, .inl (cf30, 800, .inl f30)), (qf37, .inl (cf37, 800, .inl f37)), (qf36, .inl (cf36, 800, .inl f36)), (qf44, .inl (cf44, 1500, .inl f44)), (qf35, .inl (cf35, 800, .inl f35))]) [12, 2, 6, 7, 8, 9, 13, 14, 15, 16, 11, 0, 1, 3, 4, 5, 10] (by decide) rfl
  have hK9 := hK.sub (tys' := [(cf65, .int), (cf25, .int), (cf6, .int), (cf5, .int), (cf2, .int), (cf58, .int), (cf59, .int), (cf60, .int), (cf61, .int), (cf63, .int), (cf34, .int), (cf30, .int), (cf37, .int), (cf36, .int), (cf44, .int), (cf35, .int)]) [2, 6, 7, 8, 9, 12, 13, 14, 15, 11, 0, 1, 3, 4, 5, 10] rfl
  exact W.iret hx hb hr (fun t ht hW => ⟨⟨(u4_0), (z_4), rfl, ⟨rfl, hln_4, hrq_4, hch_4_62, hfk_4_64, hfk_4_66⟩, by rw [ht]; exact hP9, va_K.moved hW.alike hK9, hD9⟩, hS.F ht⟩) hS.2.2 dX13_memberConstant_36
def lp_vm_stands_8 (nf n : Nat) (a1 : Int32) (a2 : Int32) (v50 : Int32) (v52 : Int32) (v53 : Int32) (v70 : Int32) (v78 : Int32) (v79 : Int32) (v87 : Int32) (f73 : Nat → Int32) (f74 : Nat → Int32) (f75 : Nat → Int32) (f76 : Nat → Int32) (f77 : Nat → Int32) (f69 : Nat → Int32) (f49 : Nat → Int32) (f86 : Nat → Int32) (f85 : Nat → Int32) (f67 : Nat → Int32)  (l1_8 : Int32) (l2_8 : Int32) (l3_8 : Int32) (l4_8 : Int32) (l5_8 : Int32) (g67_8 : Nat → Int32) (g73_8 : Nat → Int32) (g74_8 : Nat → Int32) (g75_8 : Nat → Int32) (g76_8 : Nat → Int32) (g77_8 : Nat → Int32) (g85_8 : Nat → Int32) (g86_8 : Nat → Int32) (x78_8 : Int32) (x79_8 : Int32) (x87_8 : Int32) : Option ((Nat → Int32) × (Nat → Int32) × (Nat → Int32) × (Nat → Int32) × (Nat → Int32) × (Nat → Int32) × (Nat → Int32) × (Nat → Int32) × Int32 × Int32 × Int32) := match n with
  | 0 => none
  | n + 1 => (if x87_8 ≤ l5_8 then (if l3_8 = 0 then (some (g67_8, g73_8, g74_8, g75_8, g76_8, g77_8, g85_8, g86_8, x78_8, x79_8, l4_8)) else ((sp_vm_frame nf l2_8 v50 v52 v53 v70 x78_8 x79_8 g73_8 g74_8 g75_8 g76_8 g77_8 f69 f49).bind (fun p1 => (some (g67_8, p1.1, p1.2.1, p1.2.2.1, p1.2.2.2.1, p1.2.2.2.2.1, g85_8, g86_8, p1.2.2.2.2.2.1, p1.2.2.2.2.2.2, l4_8))))) else (if l5_8 < 0 then none else if 3000 ≤ (l5_8 : Int32).toNatClampNeg then none else (if (g86_8 (l5_8 : Int32).toNatClampNeg) = l1_8 then (if l5_8 < 0 then none else if 3000 ≤ (l5_8 : Int32).toNatClampNeg then none else (if l5_8 < 0 then none else if 3000 ≤ (l5_8 : Int32).toNatClampNeg then none else (if 12000 ≤ ((g85_8 (l5_8 : Int32).toNatClampNeg) + 2) then (lp_vm_stands_8 nf n a1 a2 v50 v52 v53 v70 v78 v79 v87 f73 f74 f75 f76 f77 f69 f49 f86 f85 f67 l1_8 l2_8 1 l4_8 (l5_8 + 1) g67_8 g73_8 g74_8 g75_8 g76_8 g77_8 g85_8 g86_8 x78_8 x79_8 x87_8) else (if l5_8 < 0 then none else if 3000 ≤ (l5_8 : Int32).toNatClampNeg then none else (if ((g85_8 (l5_8 : Int32).toNatClampNeg) + 1) < 0 then none else if 12000 ≤ (((g85_8 (l5_8 : Int32).toNatClampNeg) + 1) : Int32).toNatClampNeg then none else (if l5_8 < 0 then none else if 3000 ≤ (l5_8 : Int32).toNatClampNeg then none else (if ((g85_8 (l5_8 : Int32).toNatClampNeg) + 2) < 0 then none else if 12000 ≤ (((g85_8 (l5_8 : Int32).toNatClampNeg) + 2) : Int32).toNatClampNeg then none else (lp_vm_stands_8 nf n a1 a2 v50 v52 v53 v70 v78 v79 v87 f73 f74 f75 f76 f77 f69 f49 f86 f85 f67 l1_8 l2_8 1 l4_8 (l5_8 + 1) (upd (upd g67_8 (((g85_8 (l5_8 : Int32).toNatClampNeg) + 1) : Int32).toNatClampNeg (((l2_8 - (g85_8 (l5_8 : Int32).toNatClampNeg)) >>> (8 &&& 31)) &&& 255)) (((g85_8 (l5_8 : Int32).toNatClampNeg) + 2) : Int32).toNatClampNeg ((l2_8 - (g85_8 (l5_8 : Int32).toNatClampNeg)) &&& 255)) g73_8 g74_8 g75_8 g76_8 g77_8 g85_8 g86_8 x78_8 x79_8 x87_8)))))))) else (if l5_8 < 0 then none else if 3000 ≤ (l5_8 : Int32).toNatClampNeg then none else (if l4_8 < 0 then none else if 3000 ≤ (l4_8 : Int32).toNatClampNeg then none else (if l5_8 < 0 then none else if 3000 ≤ (l5_8 : Int32).toNatClampNeg then none else (if l4_8 < 0 then none else if 3000 ≤ (l4_8 : Int32).toNatClampNeg then none else (lp_vm_stands_8 nf n a1 a2 v50 v52 v53 v70 v78 v79 v87 f73 f74 f75 f76 f77 f69 f49 f86 f85 f67 l1_8 l2_8 l3_8 (l4_8 + 1) (l5_8 + 1) g67_8 g73_8 g74_8 g75_8 g76_8 g77_8 (upd g85_8 (l4_8 : Int32).toNatClampNeg (g85_8 (l5_8 : Int32).toNatClampNeg)) (upd g86_8 (l4_8 : Int32).toNatClampNeg (g86_8 (l5_8 : Int32).toNatClampNeg)) x78_8 x79_8 x87_8))))))))
def sp_vm_stands (nf : Nat) (a1 : Int32) (a2 : Int32) (v50 : Int32) (v52 : Int32) (v53 : Int32) (v70 : Int32) (v78 : Int32) (v79 : Int32) (v87 : Int32) (f73 : Nat → Int32) (f74 : Nat → Int32) (f75 : Nat → Int32) (f76 : Nat → Int32) (f77 : Nat → Int32) (f69 : Nat → Int32) (f49 : Nat → Int32) (f86 : Nat → Int32) (f85 : Nat → Int32) (f67 : Nat → Int32) : Option ((Nat → Int32) × (Nat → Int32) × (Nat → Int32) × (Nat → Int32) × (Nat → Int32) × (Nat → Int32) × (Nat → Int32) × (Nat → Int32) × Int32 × Int32 × Int32) := (lp_vm_stands_8 nf nf a1 a2 v50 v52 v53 v70 v78 v79 v87 f73 f74 f75 f76 f77 f69 f49 f86 f85 f67  a1 a2 0 0 0 f67 f73 f74 f75 f76 f77 f85 f86 v78 v79 v87)
set_option maxHeartbeats 4000000 in
set_option maxRecDepth 100000 in
/-- ClassMillModel.stands -/
theorem vm_stands (l : Launch) (dC : Nat → ClassId) (dI : Nat → Nat → Nat) (sz : Nat) (h0 : Nat) (zs : (List Value)) (a1 : Int32) (a2 : Int32) (qf49 : Nat) (v50 : Int32) (v52 : Int32) (v53 : Int32) (qf67 : Nat) (qf69 : Nat) (v70 : Int32) (qf73 : Nat) (qf74 : Nat) (qf75 : Nat) (qf76 : Nat) (qf77 : Nat) (v78 : Int32) (v79 : Int32) (qf85 : Nat) (qf86 : Nat) (v87 : Int32) (cf73 : ClassId) (f73 : (Nat → Int32)) (cf74 : ClassId) (f74 : (Nat → Int32)) (cf75 : ClassId) (f75 : (Nat → Int32)) (cf76 : ClassId) (f76 : (Nat → Int32)) (cf77 : ClassId) (f77 : (Nat → Int32)) (cf69 : ClassId) (f69 : (Nat → Int32)) (cf49 : ClassId) (f49 : (Nat → Int32)) (cf86 : ClassId) (f86 : (Nat → Int32)) (cf85 : ClassId) (f85 : (Nat → Int32)) (cf67 : ClassId) (f67 : (Nat → Int32)) (nf : Nat) (o67 : (Nat → Int32)) (o73 : (Nat → Int32)) (o74 : (Nat → Int32)) (o75 : (Nat → Int32)) (o76 : (Nat → Int32)) (o77 : (Nat → Int32)) (o85 : (Nat → Int32)) (o86 : (Nat → Int32)) (w78 : Int32) (w79 : Int32) (w87 : Int32) (hlen : zs.length = 155) (hf49 : zs[49]? = some (.ref qf49)) (hf50 : zs[50]? = some (.int v50)) (hf52 : zs[52]? = some (.int v52)) (hf53 : zs[53]? = some (.int v53)) (hf67 : zs[67]? = some (.ref qf67)) (hf69 : zs[69]? = some (.ref qf69)) (hf70 : zs[70]? = some (.int v70)) (hf73 : zs[73]? = some (.ref qf73)) (hf74 : zs[74]? = some (.ref qf74)) (hf75 : zs[75]? = some (.ref qf75)) (hf76 : zs[76]? = some (.ref qf76)) (hf77 : zs[77]? = some (.ref qf77)) (hf78 : zs[78]? = some (.int v78)) (hf79 : zs[79]? = some (.int v79)) (hf85 : zs[85]? = some (.ref qf85)) (hf86 : zs[86]? = some (.ref qf86)) (hf87 : zs[87]? = some (.int v87)) (hsp : sp_vm_stands nf a1 a2 v50 v52 v53 v70 v78 v79 v87 f73 f74 f75 f76 f77 f69 f49 f86 f85 f67 = some (o67, o73, o74, o75, o76, o77, o85, o86, w78, w79, w87)) : Met l yX13_stands (.code yX13_stands cX13_stands 7 none :: VS_h9) ({ frames := 1, cells := 0, slots := 0, locals := 24 }) (va_Pc [.ref h0, .int a1, .int a2] (fun U => U.heap.size = sz ∧ va_P (dC, dI) vwCl [(h0, .inr (13, zs)), (qf73, .inl (cf73, 6200, .inl f73)), (qf74, .inl (cf74, 6200, .inl f74)), (qf75, .inl (cf75, 6200, .inl f75)), (qf76, .inl (cf76, 6200, .inl f76)), (qf77, .inl (cf77, 60000, .inl f77)), (qf69, .inl (cf69, 3000, .inl f69)), (qf49, .inl (cf49, 3000, .inl f49)), (qf86, .inl (cf86, 3000, .inl f86)), (qf85, .inl (cf85, 3000, .inl f85)), (qf67, .inl (cf67, 12000, .inl f67))] U.heap ∧ va_K (dC, dI) vwCl [(cf73, .int), (cf74, .int), (cf75, .int), (cf76, .int), (cf77, .int), (cf69, .int), (cf49, .int), (cf86, .int), (cf85, .int), (cf67, .int)] U ∧ va_D (fun _ => True) [(h0, .inr (13, zs)), (qf73, .inl (cf73, 6200, .inl f73)), (qf74, .inl (cf74, 6200, .inl f74)), (qf75, .inl (cf75, 6200, .inl f75)), (qf76, .inl (cf76, 6200, .inl f76)), (qf77, .inl (cf77, 60000, .inl f77)), (qf69, .inl (cf69, 3000, .inl f69)), (qf49, .inl (cf49, 3000, .inl f49)), (qf86, .inl (cf86, 3000, .inl f86)), (qf85, .inl (cf85, 3000, .inl f85)), (qf67, .inl (cf67, 12000, .inl f67))])) (va_Qv (fun (u : (List Value)) => match u with | (zo1) => True ∧ zo1.length = 155 ∧ (∀ j : Nat, j ≠ 78 → j ≠ 79 → j ≠ 87 → zo1[j]? = zs[j]?) ∧ zo1[78]? = some (.int w78) ∧ zo1[79]? = some (.int w79) ∧ zo1[87]? = some (.int w87)) (fun (u : (List Value)) (t : State) => match u with | (zo1) => va_P (dC, dI) vwCl [(h0, .inr (13, zo1)), (qf73, .inl (cf73, 6200, .inl o73)), (qf74, .inl (cf74, 6200, .inl o74)), (qf75, .inl (cf75, 6200, .inl o75)), (qf76, .inl (cf76, 6200, .inl o76)), (qf77, .inl (cf77, 60000, .inl o77)), (qf69, .inl (cf69, 3000, .inl f69)), (qf49, .inl (cf49, 3000, .inl f49)), (qf86, .inl (cf86, 3000, .inl o86)), (qf85, .inl (cf85, 3000, .inl o85)), (qf67, .inl (cf67, 12000, .inl o67))] t.heap ∧ va_K (dC, dI) vwCl [(cf73, .int), (cf74, .int), (cf75, .int), (cf76, .int), (cf77, .int), (cf69, .int), (cf49, .int), (cf86, .int), (cf85, .int), (cf67, .int)] t ∧ va_D (va_A [(h0, .inr (13, zs)), (qf73, .inl (cf73, 6200, .inl f73)), (qf74, .inl (cf74, 6200, .inl f74)), (qf75, .inl (cf75, 6200, .inl f75)), (qf76, .inl (cf76, 6200, .inl f76)), (qf77, .inl (cf77, 60000, .inl f77)), (qf69, .inl (cf69, 3000, .inl f69)), (qf49, .inl (cf49, 3000, .inl f49)), (qf86, .inl (cf86, 3000, .inl f86)), (qf85, .inl (cf85, 3000, .inl f85)), (qf67, .inl (cf67, 12000, .inl f67))] sz) [(h0, .inr (13, zo1)), (qf73, .inl (cf73, 6200, .inl o73)), (qf74, .inl (cf74, 6200, .inl o74)), (qf75, .inl (cf75, 6200, .inl o75)), (qf76, .inl (cf76, 6200, .inl o76)), (qf77, .inl (cf77, 60000, .inl o77)), (qf69, .inl (cf69, 3000, .inl f69)), (qf49, .inl (cf49, 3000, .inl f49)), (qf86, .inl (cf86, 3000, .inl o86)), (qf85, .inl (cf85, 3000, .inl o85)), (qf67, .inl (cf67, 12000, .inl o67))]) (va_A [(h0, .inr (13, zs)), (qf73, .inl (cf73, 6200, .inl f73)), (qf74, .inl (cf74, 6200, .inl f74)), (qf75, .inl (cf75, 6200, .inl f75)), (qf76, .inl (cf76, 6200, .inl f76)), (qf77, .inl (cf77, 60000, .inl f77)), (qf69, .inl (cf69, 3000, .inl f69)), (qf49, .inl (cf49, 3000, .inl f49)), (qf86, .inl (cf86, 3000, .inl f86)), (qf85, .inl (cf85, 3000, .inl f85)), (qf67, .inl (cf67, 12000, .inl f67))] sz)) 0 0 (va_A [(h0, .inr (13, zs)), (qf73, .inl (cf73, 6200, .inl f73)), (qf74, .inl (cf74, 6200, .inl f74)), (qf75, .inl (cf75, 6200, .inl f75)), (qf76, .inl (cf76, 6200, .inl f76)), (qf77, .inl (cf77, 60000, .inl f77)), (qf69, .inl (cf69, 3000, .inl f69)), (qf49, .inl (cf49, 3000, .inl f49)), (qf86, .inl (cf86, 3000, .inl f86)), (qf85, .inl (cf85, 3000, .inl f85)), (qf67, .inl (cf67, 12000, .inl f67))] sz) := by
  refine Met.ofW (cc := cX13_stands) (maxL := 7) (ret := none) (by decide) rfl ?_
  intro p e s m args below meth c s₁ B hml hv
  obtain ⟨rfl, hsz, hP, hK, hD0⟩ := hv
  have hx := B.exec
  have hb := B.bytes
  have hr := B.returns
  have hts := atoms_spec (ws := (.code yX13_stands cX13_stands 7 none :: VS_h9)) B.pre
  replace hts := fun w (h : w ∈ VS_h9) => hts w (List.mem_cons_of_mem _ h)
  have hown : s.vm.findClass RX13 = some m.cls := findClass_of_methodNamed B.named
  have hlocks := B.notSynchronized
  subst hsz
  have hD := hD0.self (sz := s.heap.size)
  generalize hAe : va_A [(h0, .inr (13, zs)), (qf73, .inl (cf73, 6200, .inl f73)), (qf74, .inl (cf74, 6200, .inl f74)), (qf75, .inl (cf75, 6200, .inl f75)), (qf76, .inl (cf76, 6200, .inl f76)), (qf77, .inl (cf77, 60000, .inl f77)), (qf69, .inl (cf69, 3000, .inl f69)), (qf49, .inl (cf49, 3000, .inl f49)), (qf86, .inl (cf86, 3000, .inl f86)), (qf85, .inl (cf85, 3000, .inl f85)), (qf67, .inl (cf67, 12000, .inl f67))] s.heap.size = A at hD  ⊢
  have hA : ∀ q : Nat, s.heap.size ≤ q → A q := fun q h => by rw [← hAe]; exact Or.inr h
  have hP : va_P (dC, dI) vwCl [(h0, .inr (13, zs)), (qf73, .inl (cf73, 6200, .inl f73)), (qf74, .inl (cf74, 6200, .inl f74)), (qf75, .inl (cf75, 6200, .inl f75)), (qf76, .inl (cf76, 6200, .inl f76)), (qf77, .inl (cf77, 60000, .inl f77)), (qf69, .inl (cf69, 3000, .inl f69)), (qf49, .inl (cf49, 3000, .inl f49)), (qf86, .inl (cf86, 3000, .inl f86)), (qf85, .inl (cf85, 3000, .inl f85)), (qf67, .inl (cf67, 12000, .inl f67))] s.heap := hP
  have hl := lv_entry ([.ref h0, .int a1, .int a2]) (n := 7) (Nat.le_of_ble_eq_true rfl)
  rw [lg_entry_eq]
  generalize (lg_sl ([.ref h0, .int a1, .int a2]) ++ List.replicate (7 - (lg_sl ([.ref h0, .int a1, .int a2])).length) Slot.unset).toArray = ls at hl ⊢
  have hl : lv_has ls 7 [(0, .ref h0), (1, .int a1), (2, .int a2)] := hl
  obtain ⟨H, hH⟩ : ∃ H : Heap, s.heap = H := ⟨_, rfl⟩
  rw [hH] at hP ⊢
  have hS : va_S A s.heap H [] := by rw [← hH]; exact va_S.rf
  obtain ⟨locs, hlo⟩ : ∃ locs : List Loc, locs = [] := ⟨_, rfl⟩
  rw [← hlo] at hS ⊢
  have hrs0 : ∀ j : Nat, j ≠ 78 → j ≠ 79 → j ≠ 87 → zs[j]? = zs[j]? := fun _ _ _ _  => rfl
  unfold sp_vm_stands at hsp
  refine lv_iconst (v := 0) hx hb dX13_stands_0 (by decide) ?_
  refine lv_istore_n (lv' := [(3, .int 0), (0, .ref h0), (1, .int a1), (2, .int a2)]) hx hb dX13_stands_1 rfl hl (by decide) rfl (fun ls hl => ?_)
  refine lv_iconst (v := 0) hx hb dX13_stands_2 (by decide) ?_
  refine lv_istore (lv' := [(4, .int 0), (3, .int 0), (0, .ref h0), (1, .int a1), (2, .int a2)]) hx hb dX13_stands_3 hl (by decide) rfl (fun ls hl => ?_)
  refine lv_iconst (v := 0) hx hb dX13_stands_5 (by decide) ?_
  refine lv_istore (lv' := [(5, .int 0), (4, .int 0), (3, .int 0), (0, .ref h0), (1, .int a1), (2, .int a2)]) hx hb dX13_stands_6 hl (by decide) rfl (fun ls hl => ?_)
  replace hl : lv_has ls 7 [(5, .int 0), (4, .int 0), (3, .int 0), (0, .ref h0), (1, .int a1), (2, .int a2)] := lv_sub hl [0, 1, 2, 3, 4, 5] rfl
  replace hP := hP.sub (ws' := [(h0, .inr (13, zs)), (qf73, .inl (cf73, 6200, .inl f73)), (qf74, .inl (cf74, 6200, .inl f74)), (qf75, .inl (cf75, 6200, .inl f75)), (qf76, .inl (cf76, 6200, .inl f76)), (qf77, .inl (cf77, 60000, .inl f77)), (qf69, .inl (cf69, 3000, .inl f69)), (qf49, .inl (cf49, 3000, .inl f49)), (qf86, .inl (cf86, 3000, .inl f86)), (qf85, .inl (cf85, 3000, .inl f85)), (qf67, .inl (cf67, 12000, .inl f67))]) [0, 1, 2, 3, 4, 5, 6, 7, 8, 9, 10] rfl
  replace hD := hD.sub (ws' := [(h0, .inr (13, zs)), (qf73, .inl (cf73, 6200, .inl f73)), (qf74, .inl (cf74, 6200, .inl f74)), (qf75, .inl (cf75, 6200, .inl f75)), (qf76, .inl (cf76, 6200, .inl f76)), (qf77, .inl (cf77, 60000, .inl f77)), (qf69, .inl (cf69, 3000, .inl f69)), (qf49, .inl (cf49, 3000, .inl f49)), (qf86, .inl (cf86, 3000, .inl f86)), (qf85, .inl (cf85, 3000, .inl f85)), (qf67, .inl (cf67, 12000, .inl f67))]) [0, 1, 2, 3, 4, 5, 6, 7, 8, 9, 10] (by decide) rfl
  replace hK := hK.sub (tys' := [(cf73, .int), (cf74, .int), (cf75, .int), (cf76, .int), (cf77, .int), (cf69, .int), (cf49, .int), (cf86, .int), (cf85, .int), (cf67, .int)]) [0, 1, 2, 3, 4, 5, 6, 7, 8, 9] rfl
  obtain ⟨n_8, hn_8⟩ : ∃ z : Nat, z = nf := ⟨_, rfl⟩
  obtain ⟨l1_8, el1_8⟩ : ∃ z : Int32, z = a1 := ⟨_, rfl⟩
  obtain ⟨l2_8, el2_8⟩ : ∃ z : Int32, z = a2 := ⟨_, rfl⟩
  obtain ⟨l3_8, el3_8⟩ : ∃ z : Int32, z = 0 := ⟨_, rfl⟩
  obtain ⟨l4_8, el4_8⟩ : ∃ z : Int32, z = 0 := ⟨_, rfl⟩
  obtain ⟨l5_8, el5_8⟩ : ∃ z : Int32, z = 0 := ⟨_, rfl⟩
  obtain ⟨g67_8, eg67_8⟩ : ∃ z : Nat → Int32, z = f67 := ⟨_, rfl⟩
  obtain ⟨g73_8, eg73_8⟩ : ∃ z : Nat → Int32, z = f73 := ⟨_, rfl⟩
  obtain ⟨g74_8, eg74_8⟩ : ∃ z : Nat → Int32, z = f74 := ⟨_, rfl⟩
  obtain ⟨g75_8, eg75_8⟩ : ∃ z : Nat → Int32, z = f75 := ⟨_, rfl⟩
  obtain ⟨g76_8, eg76_8⟩ : ∃ z : Nat → Int32, z = f76 := ⟨_, rfl⟩
  obtain ⟨g77_8, eg77_8⟩ : ∃ z : Nat → Int32, z = f77 := ⟨_, rfl⟩
  obtain ⟨g85_8, eg85_8⟩ : ∃ z : Nat → Int32, z = f85 := ⟨_, rfl⟩
  obtain ⟨g86_8, eg86_8⟩ : ∃ z : Nat → Int32, z = f86 := ⟨_, rfl⟩
  obtain ⟨x78_8, ex78_8⟩ : ∃ z : Int32, z = v78 := ⟨_, rfl⟩
  obtain ⟨x79_8, ex79_8⟩ : ∃ z : Int32, z = v79 := ⟨_, rfl⟩
  obtain ⟨x87_8, ex87_8⟩ : ∃ z : Int32, z = v87 := ⟨_, rfl⟩
  replace hsp : lp_vm_stands_8 nf n_8 a1 a2 v50 v52 v53 v70 v78 v79 v87 f73 f74 f75 f76 f77 f69 f49 f86 f85 f67 l1_8 l2_8 l3_8 l4_8 l5_8 g67_8 g73_8 g74_8 g75_8 g76_8 g77_8 g85_8 g86_8 x78_8 x79_8 x87_8 = some (o67, o73, o74, o75, o76, o77, o85, o86, w78, w79, w87) := by rw [hn_8, el1_8, el2_8, el3_8, el4_8, el5_8, eg67_8, eg73_8, eg74_8, eg75_8, eg76_8, eg77_8, eg85_8, eg86_8, ex78_8, ex79_8, ex87_8]; exact hsp
  replace hl : lv_has ls 7 [(5, .int l5_8), (4, .int l4_8), (3, .int l3_8), (0, .ref h0), (1, .int l1_8), (2, .int l2_8)] := by rw [el1_8, el2_8, el3_8, el4_8, el5_8]; exact hl
  obtain ⟨z8, ez8⟩ : ∃ z : List Value, z = zs := ⟨_, rfl⟩
  have hfh_8_49 : z8[49]? = some (.ref qf49) := by rw [ez8]; exact hf49
  have hfh_8_50 : z8[50]? = some (.int v50) := by rw [ez8]; exact hf50
  have hfh_8_52 : z8[52]? = some (.int v52) := by rw [ez8]; exact hf52
  have hfh_8_53 : z8[53]? = some (.int v53) := by rw [ez8]; exact hf53
  have hfh_8_67 : z8[67]? = some (.ref qf67) := by rw [ez8]; exact hf67
  have hfh_8_69 : z8[69]? = some (.ref qf69) := by rw [ez8]; exact hf69
  have hfh_8_70 : z8[70]? = some (.int v70) := by rw [ez8]; exact hf70
  have hfh_8_73 : z8[73]? = some (.ref qf73) := by rw [ez8]; exact hf73
  have hfh_8_74 : z8[74]? = some (.ref qf74) := by rw [ez8]; exact hf74
  have hfh_8_75 : z8[75]? = some (.ref qf75) := by rw [ez8]; exact hf75
  have hfh_8_76 : z8[76]? = some (.ref qf76) := by rw [ez8]; exact hf76
  have hfh_8_77 : z8[77]? = some (.ref qf77) := by rw [ez8]; exact hf77
  have hfh_8_78 : z8[78]? = some (.int x78_8) := by rw [ez8, ex78_8]; exact hf78
  have hfh_8_79 : z8[79]? = some (.int x79_8) := by rw [ez8, ex79_8]; exact hf79
  have hfh_8_85 : z8[85]? = some (.ref qf85) := by rw [ez8]; exact hf85
  have hfh_8_86 : z8[86]? = some (.ref qf86) := by rw [ez8]; exact hf86
  have hfh_8_87 : z8[87]? = some (.int x87_8) := by rw [ez8, ex87_8]; exact hf87
  have hlh_8 : z8.length = 155 := by rw [ez8]; exact hlen
  have hrh_8 : ∀ j : Nat, j ≠ 78 → j ≠ 79 → j ≠ 87 → z8[j]? = zs[j]? := by rw [ez8]; exact hrs0
  replace hP : va_P (dC, dI) vwCl [(h0, .inr (13, z8)), (qf73, .inl (cf73, 6200, .inl g73_8)), (qf74, .inl (cf74, 6200, .inl g74_8)), (qf75, .inl (cf75, 6200, .inl g75_8)), (qf76, .inl (cf76, 6200, .inl g76_8)), (qf77, .inl (cf77, 60000, .inl g77_8)), (qf69, .inl (cf69, 3000, .inl f69)), (qf49, .inl (cf49, 3000, .inl f49)), (qf86, .inl (cf86, 3000, .inl g86_8)), (qf85, .inl (cf85, 3000, .inl g85_8)), (qf67, .inl (cf67, 12000, .inl g67_8))] H := by rw [ez8, eg67_8, eg73_8, eg74_8, eg75_8, eg76_8, eg77_8, eg85_8, eg86_8]; exact hP
  replace hD : va_D A [(h0, .inr (13, z8)), (qf73, .inl (cf73, 6200, .inl g73_8)), (qf74, .inl (cf74, 6200, .inl g74_8)), (qf75, .inl (cf75, 6200, .inl g75_8)), (qf76, .inl (cf76, 6200, .inl g76_8)), (qf77, .inl (cf77, 60000, .inl g77_8)), (qf69, .inl (cf69, 3000, .inl f69)), (qf49, .inl (cf49, 3000, .inl f49)), (qf86, .inl (cf86, 3000, .inl g86_8)), (qf85, .inl (cf85, 3000, .inl g85_8)), (qf67, .inl (cf67, 12000, .inl g67_8))] := by rw [ez8, eg67_8, eg73_8, eg74_8, eg75_8, eg76_8, eg77_8, eg85_8, eg86_8]; exact hD
  clear hn_8 ez8 el1_8 el2_8 el3_8 el4_8 el5_8 eg67_8 eg73_8 eg74_8 eg75_8 eg76_8 eg77_8 eg85_8 eg86_8 ex78_8 ex79_8 ex87_8
  try clear hlo
  try clear hH
  revert hsp
  revert hP
  revert hD
  revert hS
  revert hl
  revert hrh_8
  revert hlh_8
  revert hfh_8_87
  revert hfh_8_86
  revert hfh_8_85
  revert hfh_8_79
  revert hfh_8_78
  revert hfh_8_77
  revert hfh_8_76
  revert hfh_8_75
  revert hfh_8_74
  revert hfh_8_73
  revert hfh_8_70
  revert hfh_8_69
  revert hfh_8_67
  revert hfh_8_53
  revert hfh_8_52
  revert hfh_8_50
  revert hfh_8_49
  revert x87_8
  revert x79_8
  revert x78_8
  revert g86_8
  revert g85_8
  revert g77_8
  revert g76_8
  revert g75_8
  revert g74_8
  revert g73_8
  revert g67_8
  revert l5_8
  revert l4_8
  revert l3_8
  revert l2_8
  revert l1_8
  revert z8
  revert ls
  revert locs
  revert H
  induction n_8 with
  | zero => intro H locs ls z8 l1_8 l2_8 l3_8 l4_8 l5_8 g67_8 g73_8 g74_8 g75_8 g76_8 g77_8 g85_8 g86_8 x78_8 x79_8 x87_8 hfh_8_49 hfh_8_50 hfh_8_52 hfh_8_53 hfh_8_67 hfh_8_69 hfh_8_70 hfh_8_73 hfh_8_74 hfh_8_75 hfh_8_76 hfh_8_77 hfh_8_78 hfh_8_79 hfh_8_85 hfh_8_86 hfh_8_87 hlh_8 hrh_8 hl hS hD hP hsp; unfold lp_vm_stands_8 at hsp; cases hsp
  | succ n_8 ih_8 =>
    intro H locs ls z8 l1_8 l2_8 l3_8 l4_8 l5_8 g67_8 g73_8 g74_8 g75_8 g76_8 g77_8 g85_8 g86_8 x78_8 x79_8 x87_8 hfh_8_49 hfh_8_50 hfh_8_52 hfh_8_53 hfh_8_67 hfh_8_69 hfh_8_70 hfh_8_73 hfh_8_74 hfh_8_75 hfh_8_76 hfh_8_77 hfh_8_78 hfh_8_79 hfh_8_85 hfh_8_86 hfh_8_87 hlh_8 hrh_8 hl hS hD hP hsp
    unfold lp_vm_stands_8 at hsp
    try dsimp only at hsp
    refine lv_iload hx hb dX13_stands_8 (lv_at hl 0 rfl) ?_
    refine lv_aload_n hx hb dX13_stands_10 rfl (lv_at hl 3 rfl) ?_
    refine va_get (D := (dC, dI)) (ci := 13) (v := .int x87_8) (C := RX13) (T := TX13) (N := 155) hx hb hts uV_h9_X13 hown hK hP 0 rfl rfl 87 (by decide) (hts (.fieldLink RX13 643 "ClassMillModel" "jumps" "I") mw_h9_426) (fun _ h9 => h9) hfh_8_87 dX13_stands_11 ?_
    refine lv_icmp_ge (tgt := 139) hx hb dX13_stands_14 (by decide) (fun c_1 => ?_) (fun c_1 => ?_)
    · rw [if_pos c_1] at hsp
      refine lv_aload_n hx hb dX13_stands_139 rfl (lv_at hl 3 rfl) ?_
      refine lv_iload hx hb dX13_stands_140 (lv_at hl 1 rfl) ?_
      refine va_put (D := (dC, dI)) (ci := 13) (v := .int l4_8) (ty := .int) (C := RX13) (T := TX13) (N := 155) hx hb hts uV_h9_X13 tyX13 tyX13_ok nmX13 hown hK hP hD hS 0 rfl rfl 87 (by decide) (hts (.fieldLink RX13 643 "ClassMillModel" "jumps" "I") mw_h9_426) (fun _ h9 => h9) rfl (by decide +kernel) rfl rfl (by rw [hlh_8]; decide) dX13_stands_142 ?_
      clear hP hD hS
      intro H locs hP hD hS
      obtain ⟨fs_2, efs_2⟩ : ∃ zf : List Value, zf = z8.set 87 (.int l4_8) := ⟨_, rfl⟩
      rw [← efs_2] at hP hD
      have hlfs_2 : fs_2.length = 155 := by rw [efs_2, List.length_set]; exact hlh_8
      have hfs_2_49 : fs_2[49]? = some (.ref qf49) := by rw [efs_2, List.getElem?_set_ne (by decide)]; exact hfh_8_49
      have hfs_2_50 : fs_2[50]? = some (.int v50) := by rw [efs_2, List.getElem?_set_ne (by decide)]; exact hfh_8_50
      have hfs_2_52 : fs_2[52]? = some (.int v52) := by rw [efs_2, List.getElem?_set_ne (by decide)]; exact hfh_8_52
      have hfs_2_53 : fs_2[53]? = some (.int v53) := by rw [efs_2, List.getElem?_set_ne (by decide)]; exact hfh_8_53
      have hfs_2_67 : fs_2[67]? = some (.ref qf67) := by rw [efs_2, List.getElem?_set_ne (by decide)]; exact hfh_8_67
      have hfs_2_69 : fs_2[69]? = some (.ref qf69) := by rw [efs_2, List.getElem?_set_ne (by decide)]; exact hfh_8_69
      have hfs_2_70 : fs_2[70]? = some (.int v70) := by rw [efs_2, List.getElem?_set_ne (by decide)]; exact hfh_8_70
      have hfs_2_73 : fs_2[73]? = some (.ref qf73) := by rw [efs_2, List.getElem?_set_ne (by decide)]; exact hfh_8_73
      have hfs_2_74 : fs_2[74]? = some (.ref qf74) := by rw [efs_2, List.getElem?_set_ne (by decide)]; exact hfh_8_74
      have hfs_2_75 : fs_2[75]? = some (.ref qf75) := by rw [efs_2, List.getElem?_set_ne (by decide)]; exact hfh_8_75
      have hfs_2_76 : fs_2[76]? = some (.ref qf76) := by rw [efs_2, List.getElem?_set_ne (by decide)]; exact hfh_8_76
      have hfs_2_77 : fs_2[77]? = some (.ref qf77) := by rw [efs_2, List.getElem?_set_ne (by decide)]; exact hfh_8_77
      have hfs_2_78 : fs_2[78]? = some (.int x78_8) := by rw [efs_2, List.getElem?_set_ne (by decide)]; exact hfh_8_78
      have hfs_2_79 : fs_2[79]? = some (.int x79_8) := by rw [efs_2, List.getElem?_set_ne (by decide)]; exact hfh_8_79
      have hfs_2_85 : fs_2[85]? = some (.ref qf85) := by rw [efs_2, List.getElem?_set_ne (by decide)]; exact hfh_8_85
      have hfs_2_86 : fs_2[86]? = some (.ref qf86) := by rw [efs_2, List.getElem?_set_ne (by decide)]; exact hfh_8_86
      have hfs_2_87 : fs_2[87]? = some (.int l4_8) := by rw [efs_2, List.getElem?_set_self (by rw [hlh_8]; decide)]
      replace hP : va_P (dC, dI) vwCl [(h0, .inr (13, fs_2)), (qf73, .inl (cf73, 6200, .inl g73_8)), (qf74, .inl (cf74, 6200, .inl g74_8)), (qf75, .inl (cf75, 6200, .inl g75_8)), (qf76, .inl (cf76, 6200, .inl g76_8)), (qf77, .inl (cf77, 60000, .inl g77_8)), (qf69, .inl (cf69, 3000, .inl f69)), (qf49, .inl (cf49, 3000, .inl f49)), (qf86, .inl (cf86, 3000, .inl g86_8)), (qf85, .inl (cf85, 3000, .inl g85_8)), (qf67, .inl (cf67, 12000, .inl g67_8))] H := hP
      replace hD : va_D A [(h0, .inr (13, fs_2)), (qf73, .inl (cf73, 6200, .inl g73_8)), (qf74, .inl (cf74, 6200, .inl g74_8)), (qf75, .inl (cf75, 6200, .inl g75_8)), (qf76, .inl (cf76, 6200, .inl g76_8)), (qf77, .inl (cf77, 60000, .inl g77_8)), (qf69, .inl (cf69, 3000, .inl f69)), (qf49, .inl (cf49, 3000, .inl f49)), (qf86, .inl (cf86, 3000, .inl g86_8)), (qf85, .inl (cf85, 3000, .inl g85_8)), (qf67, .inl (cf67, 12000, .inl g67_8))] := hD
      have hrs_3 : ∀ j : Nat, j ≠ 78 → j ≠ 79 → j ≠ 87 → fs_2[j]? = zs[j]? := fun j g78 g79 g87 => ((congrArg (fun z : List Value => z[j]?) efs_2).trans (List.getElem?_set_ne (Ne.symm g87))).trans (hrh_8 j g78 g79 g87)
      refine lv_iload_n hx hb dX13_stands_145 rfl (lv_at hl 2 rfl) ?_
      refine lv_if_eq (tgt := 154) hx hb dX13_stands_146 (by decide) (fun c_4 => ?_) (fun c_4 => ?_)
      · rw [if_pos c_4] at hsp
        have hr0 := Option.some.inj hsp
        clear hsp
        obtain ⟨hq0, hr1⟩ := Prod.mk.inj hr0
        clear hr0
        obtain ⟨hq1, hr2⟩ := Prod.mk.inj hr1
        clear hr1
        obtain ⟨hq2, hr3⟩ := Prod.mk.inj hr2
        clear hr2
        obtain ⟨hq3, hr4⟩ := Prod.mk.inj hr3
        clear hr3
        obtain ⟨hq4, hr5⟩ := Prod.mk.inj hr4
        clear hr4
        obtain ⟨hq5, hr6⟩ := Prod.mk.inj hr5
        clear hr5
        obtain ⟨hq6, hr7⟩ := Prod.mk.inj hr6
        clear hr6
        obtain ⟨hq7, hr8⟩ := Prod.mk.inj hr7
        clear hr7
        obtain ⟨hq8, hr9⟩ := Prod.mk.inj hr8
        clear hr8
        obtain ⟨hq9, hr10⟩ := Prod.mk.inj hr9
        clear hr9
        subst hq0
        subst hq1
        subst hq2
        subst hq3
        subst hq4
        subst hq5
        subst hq6
        subst hq7
        subst hq8
        subst hq9
        subst hr10
        have hP9 := hP.sub (ws' := [(h0, .inr (13, fs_2)), (qf73, .inl (cf73, 6200, .inl g73_8)), (qf74, .inl (cf74, 6200, .inl g74_8)), (qf75, .inl (cf75, 6200, .inl g75_8)), (qf76, .inl (cf76, 6200, .inl g76_8)), (qf77, .inl (cf77, 60000, .inl g77_8)), (qf69, .inl (cf69, 3000, .inl f69)), (qf49, .inl (cf49, 3000, .inl f49)), (qf86, .inl (cf86, 3000, .inl g86_8)), (qf85, .inl (cf85, 3000, .inl g85_8)), (qf67, .inl (cf67, 12000, .inl g67_8))]) [0, 1, 2, 3, 4, 5, 6, 7, 8, 9, 10] rfl
        have hD9 := hD.sub (ws' := [(h0, .inr (13, fs_2)), (qf73, .inl (cf73, 6200, .inl g73_8)), (qf74, .inl (cf74, 6200, .inl g74_8)), (qf75, .inl (cf75, 6200, .inl g75_8)), (qf76, .inl (cf76, 6200, .inl g76_8)), (qf77, .inl (cf77, 60000, .inl g77_8)), (qf69, .inl (cf69, 3000, .inl f69)), (qf49, .inl (cf49, 3000, .inl f49)), (qf86, .inl (cf86, 3000, .inl g86_8)), (qf85, .inl (cf85, 3000, .inl g85_8)), (qf67, .inl (cf67, 12000, .inl g67_8))]) [0, 1, 2, 3, 4, 5, 6, 7, 8, 9, 10] (by decide) rfl
        have hK9 := hK.sub (tys' := [(cf73, .int), (cf74, .int), (cf75, .int), (cf76, .int), (cf77, .int), (cf69, .int), (cf49, .int), (cf86, .int), (cf85, .int), (cf67, .int)]) [0, 1, 2, 3, 4, 5, 6, 7, 8, 9] rfl
        exact W.vret hx hb hr (fun t ht hW => ⟨⟨(fs_2), rfl, ⟨trivial, hlfs_2, hrs_3, hfs_2_78, hfs_2_79, hfs_2_87⟩, by rw [ht]; exact hP9, va_K.moved hW.alike hK9, hD9⟩, hS.F ht⟩) hS.2.2 dX13_stands_154
      · rw [if_neg c_4] at hsp
        refine lv_aload_n hx hb dX13_stands_149 rfl (lv_at hl 3 rfl) ?_
        refine lv_iload_n hx hb dX13_stands_150 rfl (lv_at hl 5 rfl) ?_
        obtain ⟨⟨g901_0, g901_1, g901_2, g901_3, g901_4, u1_5, u1_6⟩, hu_1, hsp⟩ := ox_bind hsp
        try dsimp only at hsp
        have hPc := hP.sub (ws' := [(h0, .inr (13, fs_2)), (qf73, .inl (cf73, 6200, .inl g73_8)), (qf74, .inl (cf74, 6200, .inl g74_8)), (qf75, .inl (cf75, 6200, .inl g75_8)), (qf76, .inl (cf76, 6200, .inl g76_8)), (qf77, .inl (cf77, 60000, .inl g77_8)), (qf69, .inl (cf69, 3000, .inl f69)), (qf49, .inl (cf49, 3000, .inl f49))]) [0, 1, 2, 3, 4, 5, 6, 7] rfl
        have hDc := hD.sub (ws' := [(h0, .inr (13, fs_2)), (qf73, .inl (cf73, 6200, .inl g73_8)), (qf74, .inl (cf74, 6200, .inl g74_8)), (qf75, .inl (cf75, 6200, .inl g75_8)), (qf76, .inl (cf76, 6200, .inl g76_8)), (qf77, .inl (cf77, 60000, .inl g77_8)), (qf69, .inl (cf69, 3000, .inl f69)), (qf49, .inl (cf49, 3000, .inl f49))]) [0, 1, 2, 3, 4, 5, 6, 7] (by decide) rfl
        have hKc := hK.sub (tys' := [(cf73, .int), (cf74, .int), (cf75, .int), (cf76, .int), (cf77, .int), (cf69, .int), (cf49, .int)]) [0, 1, 2, 3, 4, 5, 6] rfl
        have hFc := va_free (wc := [(h0, .inr (13, fs_2)), (qf73, .inl (cf73, 6200, .inl g73_8)), (qf74, .inl (cf74, 6200, .inl g74_8)), (qf75, .inl (cf75, 6200, .inl g75_8)), (qf76, .inl (cf76, 6200, .inl g76_8)), (qf77, .inl (cf77, 60000, .inl g77_8)), (qf69, .inl (cf69, 3000, .inl f69)), (qf49, .inl (cf49, 3000, .inl f49))]) hD hS hA [0, 1, 2, 3, 4, 5, 6, 7] rfl
        refine va_callv (va_runV (As := [.int l2_8]) (rest := []) ⟨hx, hb, hml, hown, hts⟩ (vm_frame l dC dI H.size h0 fs_2 l2_8 qf49 v50 v52 v53 qf69 v70 qf73 qf74 qf75 qf76 qf77 x78_8 x79_8 cf73 g73_8 cf74 g74_8 cf75 g75_8 cf76 g76_8 cf77 g77_8 cf69 f69 cf49 f49 nf g901_0 g901_1 g901_2 g901_3 g901_4 u1_5 u1_6 hlfs_2 hfs_2_49 hfs_2_50 hfs_2_52 hfs_2_53 hfs_2_69 hfs_2_70 hfs_2_73 hfs_2_74 hfs_2_75 hfs_2_76 hfs_2_77 hfs_2_78 hfs_2_79 hu_1) (cwV 1 hts gv_h9_83 rfl rfl rfl (by decide +kernel) ⟨Nat.le_of_ble_eq_true rfl, Nat.le_of_ble_eq_true rfl⟩) ⟨fun a U g mk q => by obtain ⟨q0, q1, qP, qK, qD⟩ := q; exact ⟨q0, q1, qP, va_K.moved (u := U) (U := U.calling g mk a) (Vm.Alike.refl U.vm) qK, qD⟩, va_recv hKc hPc (ci := 13) (q0 := 0) rfl rfl, fun U hU hW => ⟨rfl, by rw [hU], by rw [hU]; exact hPc, va_K.moved hW.alike hKc, hDc.weaken (fun _ _ _ _ => trivial)⟩⟩ rfl rfl hl.1 rfl (lv_room (Nat.le_of_ble_eq_true rfl)) dX13_stands_151 ⟨Nat.le_of_ble_eq_true rfl, Nat.le_of_ble_eq_true rfl⟩) hS (fun q _ h => hFc q h) hFc ?_
        clear hS
        intro u t H1 locs ht hvm hw hB hz1 hk1 hS
        obtain ⟨z_1, rfl⟩ : ∃ z, z = u := ⟨_, rfl⟩
        obtain ⟨hP1, hK1, hD1⟩ := hB
        rw [ht] at hP1
        have hK1 := va_K.moved hvm.symm hK1
        try dsimp only at hw
        have hPD := va_join (wr := [(qf86, .inl (cf86, 3000, .inl g86_8)), (qf85, .inl (cf85, 3000, .inl g85_8)), (qf67, .inl (cf67, 12000, .inl g67_8))]) (w1 := [(h0, .inr (13, z_1)), (qf73, .inl (cf73, 6200, .inl g901_0)), (qf74, .inl (cf74, 6200, .inl g901_1)), (qf75, .inl (cf75, 6200, .inl g901_2)), (qf76, .inl (cf76, 6200, .inl g901_3)), (qf77, .inl (cf77, 60000, .inl g901_4)), (qf69, .inl (cf69, 3000, .inl f69)), (qf49, .inl (cf49, 3000, .inl f49))]) hP hD [0, 1, 2, 3, 4, 5, 6, 7] [8, 9, 10] rfl rfl (by decide) (by decide) hk1 hFc hP1 hD1
        clear hP hD
        obtain ⟨hP, hD⟩ := hPD
        replace hK := (hK.sub (tys' := [(cf86, .int), (cf85, .int), (cf67, .int)]) [7, 8, 9] rfl).app hK1
        clear hPc hDc hKc hFc hP1 hK1 hD1 hz1 hk1 ht hvm
        generalize H1 = H at hP hS ⊢
        replace hP : va_P (dC, dI) vwCl [(qf86, .inl (cf86, 3000, .inl g86_8)), (qf85, .inl (cf85, 3000, .inl g85_8)), (qf67, .inl (cf67, 12000, .inl g67_8)), (h0, .inr (13, z_1)), (qf73, .inl (cf73, 6200, .inl g901_0)), (qf74, .inl (cf74, 6200, .inl g901_1)), (qf75, .inl (cf75, 6200, .inl g901_2)), (qf76, .inl (cf76, 6200, .inl g901_3)), (qf77, .inl (cf77, 60000, .inl g901_4)), (qf69, .inl (cf69, 3000, .inl f69)), (qf49, .inl (cf49, 3000, .inl f49))] H := hP
        replace hD : va_D A [(qf86, .inl (cf86, 3000, .inl g86_8)), (qf85, .inl (cf85, 3000, .inl g85_8)), (qf67, .inl (cf67, 12000, .inl g67_8)), (h0, .inr (13, z_1)), (qf73, .inl (cf73, 6200, .inl g901_0)), (qf74, .inl (cf74, 6200, .inl g901_1)), (qf75, .inl (cf75, 6200, .inl g901_2)), (qf76, .inl (cf76, 6200, .inl g901_3)), (qf77, .inl (cf77, 60000, .inl g901_4)), (qf69, .inl (cf69, 3000, .inl f69)), (qf49, .inl (cf49, 3000, .inl f49))] := hD
        replace hK : va_K (dC, dI) vwCl [(cf86, .int), (cf85, .int), (cf67, .int), (cf73, .int), (cf74, .int), (cf75, .int), (cf76, .int), (cf77, .int), (cf69, .int), (cf49, .int)] s := hK
        obtain ⟨hwa_1, hln_1, hre_1, hch_1_78, hch_1_79⟩ := hw
        have hfk_1_49 : z_1[49]? = some (.ref qf49) := (hre_1 49 (by decide) (by decide)).trans (hfs_2_49)
        have hfk_1_50 : z_1[50]? = some (.int v50) := (hre_1 50 (by decide) (by decide)).trans (hfs_2_50)
        have hfk_1_52 : z_1[52]? = some (.int v52) := (hre_1 52 (by decide) (by decide)).trans (hfs_2_52)
        have hfk_1_53 : z_1[53]? = some (.int v53) := (hre_1 53 (by decide) (by decide)).trans (hfs_2_53)
        have hfk_1_67 : z_1[67]? = some (.ref qf67) := (hre_1 67 (by decide) (by decide)).trans (hfs_2_67)
        have hfk_1_69 : z_1[69]? = some (.ref qf69) := (hre_1 69 (by decide) (by decide)).trans (hfs_2_69)
        have hfk_1_70 : z_1[70]? = some (.int v70) := (hre_1 70 (by decide) (by decide)).trans (hfs_2_70)
        have hfk_1_73 : z_1[73]? = some (.ref qf73) := (hre_1 73 (by decide) (by decide)).trans (hfs_2_73)
        have hfk_1_74 : z_1[74]? = some (.ref qf74) := (hre_1 74 (by decide) (by decide)).trans (hfs_2_74)
        have hfk_1_75 : z_1[75]? = some (.ref qf75) := (hre_1 75 (by decide) (by decide)).trans (hfs_2_75)
        have hfk_1_76 : z_1[76]? = some (.ref qf76) := (hre_1 76 (by decide) (by decide)).trans (hfs_2_76)
        have hfk_1_77 : z_1[77]? = some (.ref qf77) := (hre_1 77 (by decide) (by decide)).trans (hfs_2_77)
        have hfk_1_85 : z_1[85]? = some (.ref qf85) := (hre_1 85 (by decide) (by decide)).trans (hfs_2_85)
        have hfk_1_86 : z_1[86]? = some (.ref qf86) := (hre_1 86 (by decide) (by decide)).trans (hfs_2_86)
        have hfk_1_87 : z_1[87]? = some (.int l4_8) := (hre_1 87 (by decide) (by decide)).trans (hfs_2_87)
        have hrq_1 : ∀ j : Nat, j ≠ 78 → j ≠ 79 → j ≠ 87 → z_1[j]? = zs[j]? := fun j g78 g79 g87 => (hre_1 j g78 g79).trans (hrs_3 j g78 g79 g87)
        have hr0 := Option.some.inj hsp
        clear hsp
        obtain ⟨hq0, hr1⟩ := Prod.mk.inj hr0
        clear hr0
        obtain ⟨hq1, hr2⟩ := Prod.mk.inj hr1
        clear hr1
        obtain ⟨hq2, hr3⟩ := Prod.mk.inj hr2
        clear hr2
        obtain ⟨hq3, hr4⟩ := Prod.mk.inj hr3
        clear hr3
        obtain ⟨hq4, hr5⟩ := Prod.mk.inj hr4
        clear hr4
        obtain ⟨hq5, hr6⟩ := Prod.mk.inj hr5
        clear hr5
        obtain ⟨hq6, hr7⟩ := Prod.mk.inj hr6
        clear hr6
        obtain ⟨hq7, hr8⟩ := Prod.mk.inj hr7
        clear hr7
        obtain ⟨hq8, hr9⟩ := Prod.mk.inj hr8
        clear hr8
        obtain ⟨hq9, hr10⟩ := Prod.mk.inj hr9
        clear hr9
        subst hq0
        subst hq1
        subst hq2
        subst hq3
        subst hq4
        subst hq5
        subst hq6
        subst hq7
        subst hq8
        subst hq9
        subst hr10
        have hP9 := hP.sub (ws' := [(h0, .inr (13, z_1)), (qf73, .inl (cf73, 6200, .inl g901_0)), (qf74, .inl (cf74, 6200, .inl g901_1)), (qf75, .inl (cf75, 6200, .inl g901_2)), (qf76, .inl (cf76, 6200, .inl g901_3)), (qf77, .inl (cf77, 60000, .inl g901_4)), (qf69, .inl (cf69, 3000, .inl f69)), (qf49, .inl (cf49, 3000, .inl f49)), (qf86, .inl (cf86, 3000, .inl g86_8)), (qf85, .inl (cf85, 3000, .inl g85_8)), (qf67, .inl (cf67, 12000, .inl g67_8))]) [3, 4, 5, 6, 7, 8, 9, 10, 0, 1, 2] rfl
        have hD9 := hD.sub (ws' := [(h0, .inr (13, z_1)), (qf73, .inl (cf73, 6200, .inl g901_0)), (qf74, .inl (cf74, 6200, .inl g901_1)), (qf75, .inl (cf75, 6200, .inl g901_2)), (qf76, .inl (cf76, 6200, .inl g901_3)), (qf77, .inl (cf77, 60000, .inl g901_4)), (qf69, .inl (cf69, 3000, .inl f69)), (qf49, .inl (cf49, 3000, .inl f49)), (qf86, .inl (cf86, 3000, .inl g86_8)), (qf85, .inl (cf85, 3000, .inl g85_8)), (qf67, .inl (cf67, 12000, .inl g67_8))]) [3, 4, 5, 6, 7, 8, 9, 10, 0, 1, 2] (by decide) rfl
        have hK9 := hK.sub (tys' := [(cf73, .int), (cf74, .int), (cf75, .int), (cf76, .int), (cf77, .int), (cf69, .int), (cf49, .int), (cf86, .int), (cf85, .int), (cf67, .int)]) [3, 4, 5, 6, 7, 8, 9, 0, 1, 2] rfl
        exact W.vret hx hb hr (fun t ht hW => ⟨⟨(z_1), rfl, ⟨trivial, hln_1, hrq_1, hch_1_78, hch_1_79, hfk_1_87⟩, by rw [ht]; exact hP9, va_K.moved hW.alike hK9, hD9⟩, hS.F ht⟩) hS.2.2 dX13_stands_154
    · rw [if_neg c_1] at hsp
      refine lv_aload_n hx hb dX13_stands_17 rfl (lv_at hl 3 rfl) ?_
      refine va_get (D := (dC, dI)) (ci := 13) (v := .ref qf86) (C := RX13) (T := TX13) (N := 155) hx hb hts uV_h9_X13 hown hK hP 0 rfl rfl 86 (by decide) (hts (.fieldLink RX13 184 "ClassMillModel" "jumpLabel" "[I") mw_h9_427) (fun _ h9 => h9) hfh_8_86 dX13_stands_18 ?_
      refine lv_iload hx hb dX13_stands_21 (lv_at hl 0 rfl) ?_
      obtain ⟨hi_5, hsp⟩ := ox_in hsp
      refine va_iald hx hb hK hP 8 7 rfl rfl (i := l5_8) hi_5 dX13_stands_23 ?_
      refine lv_iload_n hx hb dX13_stands_24 rfl (lv_at hl 4 rfl) ?_
      refine lv_icmp_ne (tgt := 102) hx hb dX13_stands_25 (by decide) (fun c_6 => ?_) (fun c_6 => ?_)
      · rw [if_neg c_6] at hsp
        refine lv_aload_n hx hb dX13_stands_102 rfl (lv_at hl 3 rfl) ?_
        refine va_get (D := (dC, dI)) (ci := 13) (v := .ref qf85) (C := RX13) (T := TX13) (N := 155) hx hb hts uV_h9_X13 hown hK hP 0 rfl rfl 85 (by decide) (hts (.fieldLink RX13 181 "ClassMillModel" "jumpAt" "[I") mw_h9_428) (fun _ h9 => h9) hfh_8_85 dX13_stands_103 ?_
        refine lv_iload hx hb dX13_stands_106 (lv_at hl 1 rfl) ?_
        refine lv_aload_n hx hb dX13_stands_108 rfl (lv_at hl 3 rfl) ?_
        refine va_get (D := (dC, dI)) (ci := 13) (v := .ref qf85) (C := RX13) (T := TX13) (N := 155) hx hb hts uV_h9_X13 hown hK hP 0 rfl rfl 85 (by decide) (hts (.fieldLink RX13 181 "ClassMillModel" "jumpAt" "[I") mw_h9_428) (fun _ h9 => h9) hfh_8_85 dX13_stands_109 ?_
        refine lv_iload hx hb dX13_stands_112 (lv_at hl 0 rfl) ?_
        obtain ⟨hi_7, hsp⟩ := ox_in hsp
        refine va_iald hx hb hK hP 9 8 rfl rfl (i := l5_8) hi_7 dX13_stands_114 ?_
        obtain ⟨hi_8, hsp⟩ := ox_in hsp
        refine va_iast hx hb hK hP hD hS 9 8 rfl rfl (i := l4_8) (x := (g85_8 (l5_8 : Int32).toNatClampNeg)) hi_8 dX13_stands_115 ?_
        clear hP hD hS
        intro H locs hP hD hS
        replace hP : va_P (dC, dI) vwCl [(h0, .inr (13, z8)), (qf73, .inl (cf73, 6200, .inl g73_8)), (qf74, .inl (cf74, 6200, .inl g74_8)), (qf75, .inl (cf75, 6200, .inl g75_8)), (qf76, .inl (cf76, 6200, .inl g76_8)), (qf77, .inl (cf77, 60000, .inl g77_8)), (qf69, .inl (cf69, 3000, .inl f69)), (qf49, .inl (cf49, 3000, .inl f49)), (qf86, .inl (cf86, 3000, .inl g86_8)), (qf85, .inl (cf85, 3000, .inl (upd g85_8 (l4_8 : Int32).toNatClampNeg (g85_8 (l5_8 : Int32).toNatClampNeg)))), (qf67, .inl (cf67, 12000, .inl g67_8))] H := hP
        replace hD : va_D A [(h0, .inr (13, z8)), (qf73, .inl (cf73, 6200, .inl g73_8)), (qf74, .inl (cf74, 6200, .inl g74_8)), (qf75, .inl (cf75, 6200, .inl g75_8)), (qf76, .inl (cf76, 6200, .inl g76_8)), (qf77, .inl (cf77, 60000, .inl g77_8)), (qf69, .inl (cf69, 3000, .inl f69)), (qf49, .inl (cf49, 3000, .inl f49)), (qf86, .inl (cf86, 3000, .inl g86_8)), (qf85, .inl (cf85, 3000, .inl (upd g85_8 (l4_8 : Int32).toNatClampNeg (g85_8 (l5_8 : Int32).toNatClampNeg)))), (qf67, .inl (cf67, 12000, .inl g67_8))] := hD
        refine lv_aload_n hx hb dX13_stands_116 rfl (lv_at hl 3 rfl) ?_
        refine va_get (D := (dC, dI)) (ci := 13) (v := .ref qf86) (C := RX13) (T := TX13) (N := 155) hx hb hts uV_h9_X13 hown hK hP 0 rfl rfl 86 (by decide) (hts (.fieldLink RX13 184 "ClassMillModel" "jumpLabel" "[I") mw_h9_427) (fun _ h9 => h9) hfh_8_86 dX13_stands_117 ?_
        refine lv_iload hx hb dX13_stands_120 (lv_at hl 1 rfl) ?_
        refine lv_aload_n hx hb dX13_stands_122 rfl (lv_at hl 3 rfl) ?_
        refine va_get (D := (dC, dI)) (ci := 13) (v := .ref qf86) (C := RX13) (T := TX13) (N := 155) hx hb hts uV_h9_X13 hown hK hP 0 rfl rfl 86 (by decide) (hts (.fieldLink RX13 184 "ClassMillModel" "jumpLabel" "[I") mw_h9_427) (fun _ h9 => h9) hfh_8_86 dX13_stands_123 ?_
        refine lv_iload hx hb dX13_stands_126 (lv_at hl 0 rfl) ?_
        obtain ⟨hi_9, hsp⟩ := ox_in hsp
        refine va_iald hx hb hK hP 8 7 rfl rfl (i := l5_8) hi_9 dX13_stands_128 ?_
        obtain ⟨hi_10, hsp⟩ := ox_in hsp
        refine va_iast hx hb hK hP hD hS 8 7 rfl rfl (i := l4_8) (x := (g86_8 (l5_8 : Int32).toNatClampNeg)) hi_10 dX13_stands_129 ?_
        clear hP hD hS
        intro H locs hP hD hS
        replace hP : va_P (dC, dI) vwCl [(h0, .inr (13, z8)), (qf73, .inl (cf73, 6200, .inl g73_8)), (qf74, .inl (cf74, 6200, .inl g74_8)), (qf75, .inl (cf75, 6200, .inl g75_8)), (qf76, .inl (cf76, 6200, .inl g76_8)), (qf77, .inl (cf77, 60000, .inl g77_8)), (qf69, .inl (cf69, 3000, .inl f69)), (qf49, .inl (cf49, 3000, .inl f49)), (qf86, .inl (cf86, 3000, .inl (upd g86_8 (l4_8 : Int32).toNatClampNeg (g86_8 (l5_8 : Int32).toNatClampNeg)))), (qf85, .inl (cf85, 3000, .inl (upd g85_8 (l4_8 : Int32).toNatClampNeg (g85_8 (l5_8 : Int32).toNatClampNeg)))), (qf67, .inl (cf67, 12000, .inl g67_8))] H := hP
        replace hD : va_D A [(h0, .inr (13, z8)), (qf73, .inl (cf73, 6200, .inl g73_8)), (qf74, .inl (cf74, 6200, .inl g74_8)), (qf75, .inl (cf75, 6200, .inl g75_8)), (qf76, .inl (cf76, 6200, .inl g76_8)), (qf77, .inl (cf77, 60000, .inl g77_8)), (qf69, .inl (cf69, 3000, .inl f69)), (qf49, .inl (cf49, 3000, .inl f49)), (qf86, .inl (cf86, 3000, .inl (upd g86_8 (l4_8 : Int32).toNatClampNeg (g86_8 (l5_8 : Int32).toNatClampNeg)))), (qf85, .inl (cf85, 3000, .inl (upd g85_8 (l4_8 : Int32).toNatClampNeg (g85_8 (l5_8 : Int32).toNatClampNeg)))), (qf67, .inl (cf67, 12000, .inl g67_8))] := hD
        refine lv_iinc (v := (l4_8 + 1)) (lv' := [(4, .int (l4_8 + 1)), (5, .int l5_8), (3, .int l3_8), (0, .ref h0), (1, .int l1_8), (2, .int l2_8)]) hx hb dX13_stands_130 hl (k := 1) rfl rfl (by decide) rfl (fun ls hl => ?_)
        refine lv_iinc (v := (l5_8 + 1)) (lv' := [(5, .int (l5_8 + 1)), (4, .int (l4_8 + 1)), (3, .int l3_8), (0, .ref h0), (1, .int l1_8), (2, .int l2_8)]) hx hb dX13_stands_133 hl (k := 1) rfl rfl (by decide) rfl (fun ls hl => ?_)
        refine lv_goto (tgt := 8) hx hb dX13_stands_136 (by decide) ?_
        exact ih_8 H locs ls z8 l1_8 l2_8 l3_8 (l4_8 + 1) (l5_8 + 1) g67_8 g73_8 g74_8 g75_8 g76_8 g77_8 (upd g85_8 (l4_8 : Int32).toNatClampNeg (g85_8 (l5_8 : Int32).toNatClampNeg)) (upd g86_8 (l4_8 : Int32).toNatClampNeg (g86_8 (l5_8 : Int32).toNatClampNeg)) x78_8 x79_8 x87_8 (hfh_8_49) (hfh_8_50) (hfh_8_52) (hfh_8_53) (hfh_8_67) (hfh_8_69) (hfh_8_70) (hfh_8_73) (hfh_8_74) (hfh_8_75) (hfh_8_76) (hfh_8_77) (hfh_8_78) (hfh_8_79) (hfh_8_85) (hfh_8_86) (hfh_8_87) hlh_8 hrh_8 (lv_sub hl [0, 1, 2, 3, 4, 5] rfl) hS (hD.sub (ws' := [(h0, .inr (13, z8)), (qf73, .inl (cf73, 6200, .inl g73_8)), (qf74, .inl (cf74, 6200, .inl g74_8)), (qf75, .inl (cf75, 6200, .inl g75_8)), (qf76, .inl (cf76, 6200, .inl g76_8)), (qf77, .inl (cf77, 60000, .inl g77_8)), (qf69, .inl (cf69, 3000, .inl f69)), (qf49, .inl (cf49, 3000, .inl f49)), (qf86, .inl (cf86, 3000, .inl (upd g86_8 (l4_8 : Int32).toNatClampNeg (g86_8 (l5_8 : Int32).toNatClampNeg)))), (qf85, .inl (cf85, 3000, .inl (upd g85_8 (l4_8 : Int32).toNatClampNeg (g85_8 (l5_8 : Int32).toNatClampNeg)))), (qf67, .inl (cf67, 12000, .inl g67_8))]) [0, 1, 2, 3, 4, 5, 6, 7, 8, 9, 10] (by decide) rfl) (hP.sub (ws' := [(h0, .inr (13, z8)), (qf73, .inl (cf73, 6200, .inl g73_8)), (qf74, .inl (cf74, 6200, .inl g74_8)), (qf75, .inl (cf75, 6200, .inl g75_8)), (qf76, .inl (cf76, 6200, .inl g76_8)), (qf77, .inl (cf77, 60000, .inl g77_8)), (qf69, .inl (cf69, 3000, .inl f69)), (qf49, .inl (cf49, 3000, .inl f49)), (qf86, .inl (cf86, 3000, .inl (upd g86_8 (l4_8 : Int32).toNatClampNeg (g86_8 (l5_8 : Int32).toNatClampNeg)))), (qf85, .inl (cf85, 3000, .inl (upd g85_8 (l4_8 : Int32).toNatClampNeg (g85_8 (l5_8 : Int32).toNatClampNeg)))), (qf67, .inl (cf67, 12000, .inl g67_8))]) [0, 1, 2, 3, 4, 5, 6, 7, 8, 9, 10] rfl) hsp
      · rw [if_pos c_6] at hsp
        refine lv_iconst (v := 1) hx hb dX13_stands_28 (by decide) ?_
        refine lv_istore_n (lv' := [(3, .int 1), (5, .int l5_8), (4, .int l4_8), (0, .ref h0), (1, .int l1_8), (2, .int l2_8)]) hx hb dX13_stands_29 rfl hl (by decide) rfl (fun ls hl => ?_)
        refine lv_iload_n hx hb dX13_stands_30 rfl (lv_at hl 5 rfl) ?_
        refine lv_aload_n hx hb dX13_stands_31 rfl (lv_at hl 3 rfl) ?_
        refine va_get (D := (dC, dI)) (ci := 13) (v := .ref qf85) (C := RX13) (T := TX13) (N := 155) hx hb hts uV_h9_X13 hown hK hP 0 rfl rfl 85 (by decide) (hts (.fieldLink RX13 181 "ClassMillModel" "jumpAt" "[I") mw_h9_428) (fun _ h9 => h9) hfh_8_85 dX13_stands_32 ?_
        refine lv_iload hx hb dX13_stands_35 (lv_at hl 1 rfl) ?_
        obtain ⟨hi_11, hsp⟩ := ox_in hsp
        refine va_iald hx hb hK hP 9 8 rfl rfl (i := l5_8) hi_11 dX13_stands_37 ?_
        refine lv_isub hx hb dX13_stands_38 ?_
        refine lv_istore (lv' := [(6, .int (l2_8 - (g85_8 (l5_8 : Int32).toNatClampNeg))), (3, .int 1), (5, .int l5_8), (4, .int l4_8), (0, .ref h0), (1, .int l1_8), (2, .int l2_8)]) hx hb dX13_stands_39 hl (by decide) rfl (fun ls hl => ?_)
        refine lv_aload_n hx hb dX13_stands_41 rfl (lv_at hl 4 rfl) ?_
        refine va_get (D := (dC, dI)) (ci := 13) (v := .ref qf85) (C := RX13) (T := TX13) (N := 155) hx hb hts uV_h9_X13 hown hK hP 0 rfl rfl 85 (by decide) (hts (.fieldLink RX13 181 "ClassMillModel" "jumpAt" "[I") mw_h9_428) (fun _ h9 => h9) hfh_8_85 dX13_stands_42 ?_
        refine lv_iload hx hb dX13_stands_45 (lv_at hl 2 rfl) ?_
        obtain ⟨hi_12, hsp⟩ := ox_in hsp
        refine va_iald hx hb hK hP 9 8 rfl rfl (i := l5_8) hi_12 dX13_stands_47 ?_
        refine lv_iconst (v := 2) hx hb dX13_stands_48 (by decide) ?_
        refine lv_iadd hx hb dX13_stands_49 ?_
        refine lv_sipush (v := 12000) hx hb dX13_stands_50 (by decide) ?_
        refine lv_icmp_ge (tgt := 99) hx hb dX13_stands_53 (by decide) (fun c_13 => ?_) (fun c_13 => ?_)
        · rw [if_pos c_13] at hsp
          refine lv_goto (tgt := 133) hx hb dX13_stands_99 (by decide) ?_
          refine lv_iinc (v := (l5_8 + 1)) (lv' := [(5, .int (l5_8 + 1)), (6, .int (l2_8 - (g85_8 (l5_8 : Int32).toNatClampNeg))), (3, .int 1), (4, .int l4_8), (0, .ref h0), (1, .int l1_8), (2, .int l2_8)]) hx hb dX13_stands_133 hl (k := 2) rfl rfl (by decide) rfl (fun ls hl => ?_)
          refine lv_goto (tgt := 8) hx hb dX13_stands_136 (by decide) ?_
          exact ih_8 H locs ls z8 l1_8 l2_8 1 l4_8 (l5_8 + 1) g67_8 g73_8 g74_8 g75_8 g76_8 g77_8 g85_8 g86_8 x78_8 x79_8 x87_8 (hfh_8_49) (hfh_8_50) (hfh_8_52) (hfh_8_53) (hfh_8_67) (hfh_8_69) (hfh_8_70) (hfh_8_73) (hfh_8_74) (hfh_8_75) (hfh_8_76) (hfh_8_77) (hfh_8_78) (hfh_8_79) (hfh_8_85) (hfh_8_86) (hfh_8_87) hlh_8 hrh_8 (lv_sub hl [0, 3, 2, 4, 5, 6] rfl) hS (hD.sub (ws' := [(h0, .inr (13, z8)), (qf73, .inl (cf73, 6200, .inl g73_8)), (qf74, .inl (cf74, 6200, .inl g74_8)), (qf75, .inl (cf75, 6200, .inl g75_8)), (qf76, .inl (cf76, 6200, .inl g76_8)), (qf77, .inl (cf77, 60000, .inl g77_8)), (qf69, .inl (cf69, 3000, .inl f69)), (qf49, .inl (cf49, 3000, .inl f49)), (qf86, .inl (cf86, 3000, .inl g86_8)), (qf85, .inl (cf85, 3000, .inl g85_8)), (qf67, .inl (cf67, 12000, .inl g67_8))]) [0, 1, 2, 3, 4, 5, 6, 7, 8, 9, 10] (by decide) rfl) (hP.sub (ws' := [(h0, .inr (13, z8)), (qf73, .inl (cf73, 6200, .inl g73_8)), (qf74, .inl (cf74, 6200, .inl g74_8)), (qf75, .inl (cf75, 6200, .inl g75_8)), (qf76, .inl (cf76, 6200, .inl g76_8)), (qf77, .inl (cf77, 60000, .inl g77_8)), (qf69, .inl (cf69, 3000, .inl f69)), (qf49, .inl (cf49, 3000, .inl f49)), (qf86, .inl (cf86, 3000, .inl g86_8)), (qf85, .inl (cf85, 3000, .inl g85_8)), (qf67, .inl (cf67, 12000, .inl g67_8))]) [0, 1, 2, 3, 4, 5, 6, 7, 8, 9, 10] rfl) hsp
        · rw [if_neg c_13] at hsp
          refine lv_aload_n hx hb dX13_stands_56 rfl (lv_at hl 4 rfl) ?_
          refine va_get (D := (dC, dI)) (ci := 13) (v := .ref qf67) (C := RX13) (T := TX13) (N := 155) hx hb hts uV_h9_X13 hown hK hP 0 rfl rfl 67 (by decide) (hts (.fieldLink RX13 147 "ClassMillModel" "code" "[I") mw_h9_429) (fun _ h9 => h9) hfh_8_67 dX13_stands_57 ?_
          refine lv_aload_n hx hb dX13_stands_60 rfl (lv_at hl 4 rfl) ?_
          refine va_get (D := (dC, dI)) (ci := 13) (v := .ref qf85) (C := RX13) (T := TX13) (N := 155) hx hb hts uV_h9_X13 hown hK hP 0 rfl rfl 85 (by decide) (hts (.fieldLink RX13 181 "ClassMillModel" "jumpAt" "[I") mw_h9_428) (fun _ h9 => h9) hfh_8_85 dX13_stands_61 ?_
          refine lv_iload hx hb dX13_stands_64 (lv_at hl 2 rfl) ?_
          obtain ⟨hi_14, hsp⟩ := ox_in hsp
          refine va_iald hx hb hK hP 9 8 rfl rfl (i := l5_8) hi_14 dX13_stands_66 ?_
          refine lv_iconst (v := 1) hx hb dX13_stands_67 (by decide) ?_
          refine lv_iadd hx hb dX13_stands_68 ?_
          refine lv_iload hx hb dX13_stands_69 (lv_at hl 0 rfl) ?_
          refine lv_bipush (v := 8) hx hb dX13_stands_71 (by decide) ?_
          refine lv_ishr hx hb dX13_stands_73 ?_
          refine lv_sipush (v := 255) hx hb dX13_stands_74 (by decide) ?_
          refine lv_iand hx hb dX13_stands_77 ?_
          obtain ⟨hi_15, hsp⟩ := ox_in hsp
          refine va_iast hx hb hK hP hD hS 10 9 rfl rfl (i := ((g85_8 (l5_8 : Int32).toNatClampNeg) + 1)) (x := (((l2_8 - (g85_8 (l5_8 : Int32).toNatClampNeg)) >>> (8 &&& 31)) &&& 255)) hi_15 dX13_stands_78 ?_
          clear hP hD hS
          intro H locs hP hD hS
          replace hP : va_P (dC, dI) vwCl [(h0, .inr (13, z8)), (qf73, .inl (cf73, 6200, .inl g73_8)), (qf74, .inl (cf74, 6200, .inl g74_8)), (qf75, .inl (cf75, 6200, .inl g75_8)), (qf76, .inl (cf76, 6200, .inl g76_8)), (qf77, .inl (cf77, 60000, .inl g77_8)), (qf69, .inl (cf69, 3000, .inl f69)), (qf49, .inl (cf49, 3000, .inl f49)), (qf86, .inl (cf86, 3000, .inl g86_8)), (qf85, .inl (cf85, 3000, .inl g85_8)), (qf67, .inl (cf67, 12000, .inl (upd g67_8 (((g85_8 (l5_8 : Int32).toNatClampNeg) + 1) : Int32).toNatClampNeg (((l2_8 - (g85_8 (l5_8 : Int32).toNatClampNeg)) >>> (8 &&& 31)) &&& 255))))] H := hP
          replace hD : va_D A [(h0, .inr (13, z8)), (qf73, .inl (cf73, 6200, .inl g73_8)), (qf74, .inl (cf74, 6200, .inl g74_8)), (qf75, .inl (cf75, 6200, .inl g75_8)), (qf76, .inl (cf76, 6200, .inl g76_8)), (qf77, .inl (cf77, 60000, .inl g77_8)), (qf69, .inl (cf69, 3000, .inl f69)), (qf49, .inl (cf49, 3000, .inl f49)), (qf86, .inl (cf86, 3000, .inl g86_8)), (qf85, .inl (cf85, 3000, .inl g85_8)), (qf67, .inl (cf67, 12000, .inl (upd g67_8 (((g85_8 (l5_8 : Int32).toNatClampNeg) + 1) : Int32).toNatClampNeg (((l2_8 - (g85_8 (l5_8 : Int32).toNatClampNeg)) >>> (8 &&& 31)) &&& 255))))] := hD
          refine lv_aload_n hx hb dX13_stands_79 rfl (lv_at hl 4 rfl) ?_
          refine va_get (D := (dC, dI)) (ci := 13) (v := .ref qf67) (C := RX13) (T := TX13) (N := 155) hx hb hts uV_h9_X13 hown hK hP 0 rfl rfl 67 (by decide) (hts (.fieldLink RX13 147 "ClassMillModel" "code" "[I") mw_h9_429) (fun _ h9 => h9) hfh_8_67 dX13_stands_80 ?_
          refine lv_aload_n hx hb dX13_stands_83 rfl (lv_at hl 4 rfl) ?_
          refine va_get (D := (dC, dI)) (ci := 13) (v := .ref qf85) (C := RX13) (T := TX13) (N := 155) hx hb hts uV_h9_X13 hown hK hP 0 rfl rfl 85 (by decide) (hts (.fieldLink RX13 181 "ClassMillModel" "jumpAt" "[I") mw_h9_428) (fun _ h9 => h9) hfh_8_85 dX13_stands_84 ?_
          refine lv_iload hx hb dX13_stands_87 (lv_at hl 2 rfl) ?_
          obtain ⟨hi_16, hsp⟩ := ox_in hsp
          refine va_iald hx hb hK hP 9 8 rfl rfl (i := l5_8) hi_16 dX13_stands_89 ?_
          refine lv_iconst (v := 2) hx hb dX13_stands_90 (by decide) ?_
          refine lv_iadd hx hb dX13_stands_91 ?_
          refine lv_iload hx hb dX13_stands_92 (lv_at hl 0 rfl) ?_
          refine lv_sipush (v := 255) hx hb dX13_stands_94 (by decide) ?_
          refine lv_iand hx hb dX13_stands_97 ?_
          obtain ⟨hi_17, hsp⟩ := ox_in hsp
          refine va_iast hx hb hK hP hD hS 10 9 rfl rfl (i := ((g85_8 (l5_8 : Int32).toNatClampNeg) + 2)) (x := ((l2_8 - (g85_8 (l5_8 : Int32).toNatClampNeg)) &&& 255)) hi_17 dX13_stands_98 ?_
          clear hP hD hS
          intro H locs hP hD hS
          replace hP : va_P (dC, dI) vwCl [(h0, .inr (13, z8)), (qf73, .inl (cf73, 6200, .inl g73_8)), (qf74, .inl (cf74, 6200, .inl g74_8)), (qf75, .inl (cf75, 6200, .inl g75_8)), (qf76, .inl (cf76, 6200, .inl g76_8)), (qf77, .inl (cf77, 60000, .inl g77_8)), (qf69, .inl (cf69, 3000, .inl f69)), (qf49, .inl (cf49, 3000, .inl f49)), (qf86, .inl (cf86, 3000, .inl g86_8)), (qf85, .inl (cf85, 3000, .inl g85_8)), (qf67, .inl (cf67, 12000, .inl (upd (upd g67_8 (((g85_8 (l5_8 : Int32).toNatClampNeg) + 1) : Int32).toNatClampNeg (((l2_8 - (g85_8 (l5_8 : Int32).toNatClampNeg)) >>> (8 &&& 31)) &&& 255)) (((g85_8 (l5_8 : Int32).toNatClampNeg) + 2) : Int32).toNatClampNeg ((l2_8 - (g85_8 (l5_8 : Int32).toNatClampNeg)) &&& 255))))] H := hP
          replace hD : va_D A [(h0, .inr (13, z8)), (qf73, .inl (cf73, 6200, .inl g73_8)), (qf74, .inl (cf74, 6200, .inl g74_8)), (qf75, .inl (cf75, 6200, .inl g75_8)), (qf76, .inl (cf76, 6200, .inl g76_8)), (qf77, .inl (cf77, 60000, .inl g77_8)), (qf69, .inl (cf69, 3000, .inl f69)), (qf49, .inl (cf49, 3000, .inl f49)), (qf86, .inl (cf86, 3000, .inl g86_8)), (qf85, .inl (cf85, 3000, .inl g85_8)), (qf67, .inl (cf67, 12000, .inl (upd (upd g67_8 (((g85_8 (l5_8 : Int32).toNatClampNeg) + 1) : Int32).toNatClampNeg (((l2_8 - (g85_8 (l5_8 : Int32).toNatClampNeg)) >>> (8 &&& 31)) &&& 255)) (((g85_8 (l5_8 : Int32).toNatClampNeg) + 2) : Int32).toNatClampNeg ((l2_8 - (g85_8 (l5_8 : Int32).toNatClampNeg)) &&& 255))))] := hD
          refine lv_goto (tgt := 133) hx hb dX13_stands_99 (by decide) ?_
          refine lv_iinc (v := (l5_8 + 1)) (lv' := [(5, .int (l5_8 + 1)), (6, .int (l2_8 - (g85_8 (l5_8 : Int32).toNatClampNeg))), (3, .int 1), (4, .int l4_8), (0, .ref h0), (1, .int l1_8), (2, .int l2_8)]) hx hb dX13_stands_133 hl (k := 2) rfl rfl (by decide) rfl (fun ls hl => ?_)
          refine lv_goto (tgt := 8) hx hb dX13_stands_136 (by decide) ?_
          exact ih_8 H locs ls z8 l1_8 l2_8 1 l4_8 (l5_8 + 1) (upd (upd g67_8 (((g85_8 (l5_8 : Int32).toNatClampNeg) + 1) : Int32).toNatClampNeg (((l2_8 - (g85_8 (l5_8 : Int32).toNatClampNeg)) >>> (8 &&& 31)) &&& 255)) (((g85_8 (l5_8 : Int32).toNatClampNeg) + 2) : Int32).toNatClampNeg ((l2_8 - (g85_8 (l5_8 : Int32).toNatClampNeg)) &&& 255)) g73_8 g74_8 g75_8 g76_8 g77_8 g85_8 g86_8 x78_8 x79_8 x87_8 (hfh_8_49) (hfh_8_50) (hfh_8_52) (hfh_8_53) (hfh_8_67) (hfh_8_69) (hfh_8_70) (hfh_8_73) (hfh_8_74) (hfh_8_75) (hfh_8_76) (hfh_8_77) (hfh_8_78) (hfh_8_79) (hfh_8_85) (hfh_8_86) (hfh_8_87) hlh_8 hrh_8 (lv_sub hl [0, 3, 2, 4, 5, 6] rfl) hS (hD.sub (ws' := [(h0, .inr (13, z8)), (qf73, .inl (cf73, 6200, .inl g73_8)), (qf74, .inl (cf74, 6200, .inl g74_8)), (qf75, .inl (cf75, 6200, .inl g75_8)), (qf76, .inl (cf76, 6200, .inl g76_8)), (qf77, .inl (cf77, 60000, .inl g77_8)), (qf69, .inl (cf69, 3000, .inl f69)), (qf49, .inl (cf49, 3000, .inl f49)), (qf86, .inl (cf86, 3000, .inl g86_8)), (qf85, .inl (cf85, 3000, .inl g85_8)), (qf67, .inl (cf67, 12000, .inl (upd (upd g67_8 (((g85_8 (l5_8 : Int32).toNatClampNeg) + 1) : Int32).toNatClampNeg (((l2_8 - (g85_8 (l5_8 : Int32).toNatClampNeg)) >>> (8 &&& 31)) &&& 255)) (((g85_8 (l5_8 : Int32).toNatClampNeg) + 2) : Int32).toNatClampNeg ((l2_8 - (g85_8 (l5_8 : Int32).toNatClampNeg)) &&& 255))))]) [0, 1, 2, 3, 4, 5, 6, 7, 8, 9, 10] (by decide) rfl) (hP.sub (ws' := [(h0, .inr (13, z8)), (qf73, .inl (cf73, 6200, .inl g73_8)), (qf74, .inl (cf74, 6200, .inl g74_8)), (qf75, .inl (cf75, 6200, .inl g75_8)), (qf76, .inl (cf76, 6200, .inl g76_8)), (qf77, .inl (cf77, 60000, .inl g77_8)), (qf69, .inl (cf69, 3000, .inl f69)), (qf49, .inl (cf49, 3000, .inl f49)), (qf86, .inl (cf86, 3000, .inl g86_8)), (qf85, .inl (cf85, 3000, .inl g85_8)), (qf67, .inl (cf67, 12000, .inl (upd (upd g67_8 (((g85_8 (l5_8 : Int32).toNatClampNeg) + 1) : Int32).toNatClampNeg (((l2_8 - (g85_8 (l5_8 : Int32).toNatClampNeg)) >>> (8 &&& 31)) &&& 255)) (((g85_8 (l5_8 : Int32).toNatClampNeg) + 2) : Int32).toNatClampNeg ((l2_8 - (g85_8 (l5_8 : Int32).toNatClampNeg)) &&& 255))))]) [0, 1, 2, 3, 4, 5, 6, 7, 8, 9, 10] rfl) hsp
def sp_vm_truth (nf : Nat) (a1 : Int32) (a2 : Int32) (v50 : Int32) (v52 : Int32) (v53 : Int32) (v68 : Int32) (v70 : Int32) (v71 : Int32) (v78 : Int32) (v79 : Int32) (v87 : Int32) (v88 : Int32) (f85 : Nat → Int32) (f86 : Nat → Int32) (f67 : Nat → Int32) (f69 : Nat → Int32) (f73 : Nat → Int32) (f74 : Nat → Int32) (f75 : Nat → Int32) (f76 : Nat → Int32) (f77 : Nat → Int32) (f49 : Nat → Int32) : Option ((Nat → Int32) × (Nat → Int32) × (Nat → Int32) × (Nat → Int32) × (Nat → Int32) × (Nat → Int32) × (Nat → Int32) × (Nat → Int32) × (Nat → Int32) × Int32 × Int32 × Int32 × Int32 × Int32 × Int32 × Int32) := ((sp_tm_label nf v88).bind (fun p1 => ((sp_tm_label nf p1.2).bind (fun p2 => ((sp_tm_jump nf a1 p1.1 v68 v87 f85 f86 f67).bind (fun p3 => ((sp_tm_put nf 3 p3.2.2.2.1 p3.1).bind (fun p4 => ((sp_tm_push nf 0 (v70 - a2) v71 f69).bind (fun p5 => ((sp_tm_jump nf 167 p2.1 p4.2 p3.2.2.2.2 p3.2.1 p3.2.2.1 p4.1).bind (fun p6 => ((sp_vm_stands nf p1.1 p6.2.2.2.1 v50 v52 v53 (p5.2.1 - 1) v78 v79 p6.2.2.2.2 f73 f74 f75 f76 f77 p5.1 f49 p6.2.2.1 p6.2.1 p6.1).bind (fun p7 => ((sp_tm_put nf 4 p6.2.2.2.1 p7.1).bind (fun p8 => ((sp_tm_push nf 1 (p5.2.1 - 1) p5.2.2 p5.1).bind (fun p9 => ((sp_vm_stands nf p2.1 p8.2 v50 v52 v53 p9.2.1 p7.2.2.2.2.2.2.2.2.1 p7.2.2.2.2.2.2.2.2.2.1 p7.2.2.2.2.2.2.2.2.2.2 p7.2.1 p7.2.2.1 p7.2.2.2.1 p7.2.2.2.2.1 p7.2.2.2.2.2.1 p9.1 f49 p7.2.2.2.2.2.2.2.1 p7.2.2.2.2.2.2.1 p8.1).bind (fun p10 => (some (p10.1, p9.1, p10.2.1, p10.2.2.1, p10.2.2.2.1, p10.2.2.2.2.1, p10.2.2.2.2.2.1, p10.2.2.2.2.2.2.1, p10.2.2.2.2.2.2.2.1, p8.2, p9.2.1, p9.2.2, p10.2.2.2.2.2.2.2.2.1, p10.2.2.2.2.2.2.2.2.2.1, p10.2.2.2.2.2.2.2.2.2.2, p2.2))))))))))))))))))))))
