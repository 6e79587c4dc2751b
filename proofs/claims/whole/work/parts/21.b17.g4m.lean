set_option maxHeartbeats 4000000 in
set_option maxRecDepth 100000 in
/-- ClassMillModel.heads -/
theorem vm_heads (l : Launch) (dC : Nat → ClassId) (dI : Nat → Nat → Nat) (sz : Nat) (h0 : Nat) (zs : (List Value)) (qf2 : Nat) (qf5 : Nat) (qf6 : Nat) (v9 : Int32) (v10 : Int32) (v24 : Int32) (qf25 : Nat) (qf26 : Nat) (qf27 : Nat) (v28 : Int32) (qf29 : Nat) (qf30 : Nat) (qf31 : Nat) (qf32 : Nat) (qf33 : Nat) (qf34 : Nat) (qf35 : Nat) (qf36 : Nat) (qf37 : Nat) (qf40 : Nat) (qf41 : Nat) (qf42 : Nat) (qf43 : Nat) (qf44 : Nat) (cf25 : ClassId) (f25 : (Nat → Int32)) (cf5 : ClassId) (f5 : (Nat → Int32)) (cf6 : ClassId) (f6 : (Nat → Int32)) (cf2 : ClassId) (f2 : (Nat → Int32)) (cf27 : ClassId) (f27 : (Nat → Int32)) (cf26 : ClassId) (f26 : (Nat → Int32)) (cf31 : ClassId) (f31 : (Nat → Int32)) (cf32 : ClassId) (f32 : (Nat → Int32)) (cf33 : ClassId) (f33 : (Nat → Int32)) (cf35 : ClassId) (f35 : (Nat → Int32)) (cf34 : ClassId) (f34 : (Nat → Int32)) (cf29 : ClassId) (f29 : (Nat → Int32)) (cf30 : ClassId) (f30 : (Nat → Int32)) (cf37 : ClassId) (f37 : (Nat → Int32)) (cf36 : ClassId) (f36 : (Nat → Int32)) (cf40 : ClassId) (f40 : (Nat → Int32)) (cf41 : ClassId) (f41 : (Nat → Int32)) (cf42 : ClassId) (f42 : (Nat → Int32)) (cf44 : ClassId) (f44 : (Nat → Int32)) (cf43 : ClassId) (f43 : (Nat → Int32)) (nS477 : Nat) (fS477 : (Nat → Int32)) (hS477 : Nat) (qS477 : Nat) (tS477 : String) (nf : Nat) (o27 : (Nat → Int32)) (o35 : (Nat → Int32)) (o44 : (Nat → Int32)) (w10 : Int32) (w9 : Int32) (hlen : zs.length = 155) (hf2 : zs[2]? = some (.ref qf2)) (hf5 : zs[5]? = some (.ref qf5)) (hf6 : zs[6]? = some (.ref qf6)) (hf9 : zs[9]? = some (.int v9)) (hf10 : zs[10]? = some (.int v10)) (hf24 : zs[24]? = some (.int v24)) (hf25 : zs[25]? = some (.ref qf25)) (hf26 : zs[26]? = some (.ref qf26)) (hf27 : zs[27]? = some (.ref qf27)) (hf28 : zs[28]? = some (.int v28)) (hf29 : zs[29]? = some (.ref qf29)) (hf30 : zs[30]? = some (.ref qf30)) (hf31 : zs[31]? = some (.ref qf31)) (hf32 : zs[32]? = some (.ref qf32)) (hf33 : zs[33]? = some (.ref qf33)) (hf34 : zs[34]? = some (.ref qf34)) (hf35 : zs[35]? = some (.ref qf35)) (hf36 : zs[36]? = some (.ref qf36)) (hf37 : zs[37]? = some (.ref qf37)) (hf40 : zs[40]? = some (.ref qf40)) (hf41 : zs[41]? = some (.ref qf41)) (hf42 : zs[42]? = some (.ref qf42)) (hf43 : zs[43]? = some (.ref qf43)) (hf44 : zs[44]? = some (.ref qf44)) (hsp : sp_vm_heads nf v9 v10 v24 v28 f25 f5 f6 f2 f27 f26 f31 f32 f33 f35 f34 f29 f30 f37 f36 f40 f41 f42 f44 f43 nS477 fS477 = some (o27, o35, o44, w10, w9)) : Met l yX13_heads (.code yX13_heads cX13_heads 4 none :: VS_h9) ({ frames := 8, cells := 0, slots := 0, locals := 185 }) (va_Pc [.ref h0] (fun U => U.heap.size = sz ∧ va_P (dC, dI) vwCl [(h0, .inr (13, zs)), (qf25, .inl (cf25, 400, .inl f25)), (qf5, .inl (cf5, 3002, .inl f5)), (qf6, .inl (cf6, 3002, .inl f6)), (qf2, .inl (cf2, 3000, .inl f2)), (qf27, .inl (cf27, 400, .inl f27)), (qf26, .inl (cf26, 400, .inl f26)), (qf31, .inl (cf31, 800, .inl f31)), (qf32, .inl (cf32, 800, .inl f32)), (qf33, .inl (cf33, 800, .inl f33)), (qf35, .inl (cf35, 800, .inl f35)), (qf34, .inl (cf34, 800, .inl f34)), (qf29, .inl (cf29, 800, .inl f29)), (qf30, .inl (cf30, 800, .inl f30)), (qf37, .inl (cf37, 800, .inl f37)), (qf36, .inl (cf36, 800, .inl f36)), (qf40, .inl (cf40, 1500, .inl f40)), (qf41, .inl (cf41, 1500, .inl f41)), (qf42, .inl (cf42, 1500, .inl f42)), (qf44, .inl (cf44, 1500, .inl f44)), (qf43, .inl (cf43, 1500, .inl f43))] U.heap ∧ va_K (dC, dI) vwCl [(cf25, .int), (cf5, .int), (cf6, .int), (cf2, .int), (cf27, .int), (cf26, .int), (cf31, .int), (cf32, .int), (cf33, .boolean), (cf35, .int), (cf34, .int), (cf29, .int), (cf30, .int), (cf37, .int), (cf36, .int), (cf40, .int), (cf41, .int), (cf42, .boolean), (cf44, .int), (cf43, .int)] U ∧ va_D (fun _ => True) [(h0, .inr (13, zs)), (qf25, .inl (cf25, 400, .inl f25)), (qf5, .inl (cf5, 3002, .inl f5)), (qf6, .inl (cf6, 3002, .inl f6)), (qf2, .inl (cf2, 3000, .inl f2)), (qf27, .inl (cf27, 400, .inl f27)), (qf26, .inl (cf26, 400, .inl f26)), (qf31, .inl (cf31, 800, .inl f31)), (qf32, .inl (cf32, 800, .inl f32)), (qf33, .inl (cf33, 800, .inl f33)), (qf35, .inl (cf35, 800, .inl f35)), (qf34, .inl (cf34, 800, .inl f34)), (qf29, .inl (cf29, 800, .inl f29)), (qf30, .inl (cf30, 800, .inl f30)), (qf37, .inl (cf37, 800, .inl f37)), (qf36, .inl (cf36, 800, .inl f36)), (qf40, .inl (cf40, 1500, .inl f40)), (qf41, .inl (cf41, 1500, .inl f41)), (qf42, .inl (cf42, 1500, .inl f42)), (qf44, .inl (cf44, 1500, .inl f44)), (qf43, .inl (cf43, 1500, .inl f43))] ∧ pz_W nS477 fS477 hS477 qS477 (va_A [(h0, .inr (13, zs)), (qf25, .inl (cf25, 400, .inl f25)), (qf5, .inl (cf5, 3002, .inl f5)), (qf6, .inl (cf6, 3002, .inl f6)), (qf2, .inl (cf2, 3000, .inl f2)), (qf27, .inl (cf27, 400, .inl f27)), (qf26, .inl (cf26, 400, .inl f26)), (qf31, .inl (cf31, 800, .inl f31)), (qf32, .inl (cf32, 800, .inl f32)), (qf33, .inl (cf33, 800, .inl f33)), (qf35, .inl (cf35, 800, .inl f35)), (qf34, .inl (cf34, 800, .inl f34)), (qf29, .inl (cf29, 800, .inl f29)), (qf30, .inl (cf30, 800, .inl f30)), (qf37, .inl (cf37, 800, .inl f37)), (qf36, .inl (cf36, 800, .inl f36)), (qf40, .inl (cf40, 1500, .inl f40)), (qf41, .inl (cf41, 1500, .inl f41)), (qf42, .inl (cf42, 1500, .inl f42)), (qf44, .inl (cf44, 1500, .inl f44)), (qf43, .inl (cf43, 1500, .inl f43))] sz) U U.heap ∧ vk_R RX13 477 tS477 hS477 U)) (va_Qv (fun (u : (List Value)) => match u with | (zo1) => True ∧ zo1.length = 155 ∧ (∀ j : Nat, j ≠ 10 → j ≠ 9 → zo1[j]? = zs[j]?) ∧ zo1[10]? = some (.int w10) ∧ zo1[9]? = some (.int w9)) (fun (u : (List Value)) (t : State) => match u with | (zo1) => va_P (dC, dI) vwCl [(h0, .inr (13, zo1)), (qf25, .inl (cf25, 400, .inl f25)), (qf5, .inl (cf5, 3002, .inl f5)), (qf6, .inl (cf6, 3002, .inl f6)), (qf2, .inl (cf2, 3000, .inl f2)), (qf27, .inl (cf27, 400, .inl o27)), (qf26, .inl (cf26, 400, .inl f26)), (qf31, .inl (cf31, 800, .inl f31)), (qf32, .inl (cf32, 800, .inl f32)), (qf33, .inl (cf33, 800, .inl f33)), (qf35, .inl (cf35, 800, .inl o35)), (qf34, .inl (cf34, 800, .inl f34)), (qf29, .inl (cf29, 800, .inl f29)), (qf30, .inl (cf30, 800, .inl f30)), (qf37, .inl (cf37, 800, .inl f37)), (qf36, .inl (cf36, 800, .inl f36)), (qf40, .inl (cf40, 1500, .inl f40)), (qf41, .inl (cf41, 1500, .inl f41)), (qf42, .inl (cf42, 1500, .inl f42)), (qf44, .inl (cf44, 1500, .inl o44)), (qf43, .inl (cf43, 1500, .inl f43))] t.heap ∧ va_K (dC, dI) vwCl [(cf25, .int), (cf5, .int), (cf6, .int), (cf2, .int), (cf27, .int), (cf26, .int), (cf31, .int), (cf32, .int), (cf33, .boolean), (cf35, .int), (cf34, .int), (cf29, .int), (cf30, .int), (cf37, .int), (cf36, .int), (cf40, .int), (cf41, .int), (cf42, .boolean), (cf44, .int), (cf43, .int)] t ∧ va_D (va_A [(h0, .inr (13, zs)), (qf25, .inl (cf25, 400, .inl f25)), (qf5, .inl (cf5, 3002, .inl f5)), (qf6, .inl (cf6, 3002, .inl f6)), (qf2, .inl (cf2, 3000, .inl f2)), (qf27, .inl (cf27, 400, .inl f27)), (qf26, .inl (cf26, 400, .inl f26)), (qf31, .inl (cf31, 800, .inl f31)), (qf32, .inl (cf32, 800, .inl f32)), (qf33, .inl (cf33, 800, .inl f33)), (qf35, .inl (cf35, 800, .inl f35)), (qf34, .inl (cf34, 800, .inl f34)), (qf29, .inl (cf29, 800, .inl f29)), (qf30, .inl (cf30, 800, .inl f30)), (qf37, .inl (cf37, 800, .inl f37)), (qf36, .inl (cf36, 800, .inl f36)), (qf40, .inl (cf40, 1500, .inl f40)), (qf41, .inl (cf41, 1500, .inl f41)), (qf42, .inl (cf42, 1500, .inl f42)), (qf44, .inl (cf44, 1500, .inl f44)), (qf43, .inl (cf43, 1500, .inl f43))] sz) [(h0, .inr (13, zo1)), (qf25, .inl (cf25, 400, .inl f25)), (qf5, .inl (cf5, 3002, .inl f5)), (qf6, .inl (cf6, 3002, .inl f6)), (qf2, .inl (cf2, 3000, .inl f2)), (qf27, .inl (cf27, 400, .inl o27)), (qf26, .inl (cf26, 400, .inl f26)), (qf31, .inl (cf31, 800, .inl f31)), (qf32, .inl (cf32, 800, .inl f32)), (qf33, .inl (cf33, 800, .inl f33)), (qf35, .inl (cf35, 800, .inl o35)), (qf34, .inl (cf34, 800, .inl f34)), (qf29, .inl (cf29, 800, .inl f29)), (qf30, .inl (cf30, 800, .inl f30)), (qf37, .inl (cf37, 800, .inl f37)), (qf36, .inl (cf36, 800, .inl f36)), (qf40, .inl (cf40, 1500, .inl f40)), (qf41, .inl (cf41, 1500, .inl f41)), (qf42, .inl (cf42, 1500, .inl f42)), (qf44, .inl (cf44, 1500, .inl o44)), (qf43, .inl (cf43, 1500, .inl f43))]) (va_A [(h0, .inr (13, zs)), (qf25, .inl (cf25, 400, .inl f25)), (qf5, .inl (cf5, 3002, .inl f5)), (qf6, .inl (cf6, 3002, .inl f6)), (qf2, .inl (cf2, 3000, .inl f2)), (qf27, .inl (cf27, 400, .inl f27)), (qf26, .inl (cf26, 400, .inl f26)), (qf31, .inl (cf31, 800, .inl f31)), (qf32, .inl (cf32, 800, .inl f32)), (qf33, .inl (cf33, 800, .inl f33)), (qf35, .inl (cf35, 800, .inl f35)), (qf34, .inl (cf34, 800, .inl f34)), (qf29, .inl (cf29, 800, .inl f29)), (qf30, .inl (cf30, 800, .inl f30)), (qf37, .inl (cf37, 800, .inl f37)), (qf36, .inl (cf36, 800, .inl f36)), (qf40, .inl (cf40, 1500, .inl f40)), (qf41, .inl (cf41, 1500, .inl f41)), (qf42, .inl (cf42, 1500, .inl f42)), (qf44, .inl (cf44, 1500, .inl f44)), (qf43, .inl (cf43, 1500, .inl f43))] sz)) 0 0 (va_A [(h0, .inr (13, zs)), (qf25, .inl (cf25, 400, .inl f25)), (qf5, .inl (cf5, 3002, .inl f5)), (qf6, .inl (cf6, 3002, .inl f6)), (qf2, .inl (cf2, 3000, .inl f2)), (qf27, .inl (cf27, 400, .inl f27)), (qf26, .inl (cf26, 400, .inl f26)), (qf31, .inl (cf31, 800, .inl f31)), (qf32, .inl (cf32, 800, .inl f32)), (qf33, .inl (cf33, 800, .inl f33)), (qf35, .inl (cf35, 800, .inl f35)), (qf34, .inl (cf34, 800, .inl f34)), (qf29, .inl (cf29, 800, .inl f29)), (qf30, .inl (cf30, 800, .inl f30)), (qf37, .inl (cf37, 800, .inl f37)), (qf36, .inl (cf36, 800, .inl f36)), (qf40, .inl (cf40, 1500, .inl f40)), (qf41, .inl (cf41, 1500, .inl f41)), (qf42, .inl (cf42, 1500, .inl f42)), (qf44, .inl (cf44, 1500, .inl f44)), (qf43, .inl (cf43, 1500, .inl f43))] sz) := by
  refine Met.ofW (cc := cX13_heads) (maxL := 4) (ret := none) (by decide) rfl ?_
  intro p e s m args below meth c s₁ B hml hv
  obtain ⟨rfl, hsz, hP, hK, hD0, hZWS477, hZRS477⟩ := hv
  have hx := B.exec
  have hb := B.bytes
  have hr := B.returns
  have hts := atoms_spec (ws := (.code yX13_heads cX13_heads 4 none :: VS_h9)) B.pre
  replace hts := fun w (h : w ∈ VS_h9) => hts w (List.mem_cons_of_mem _ h)
  have hown : s.vm.findClass RX13 = some m.cls := findClass_of_methodNamed B.named
  have hlocks := B.notSynchronized
  subst hsz
  have hD := hD0.self (sz := s.heap.size)
  generalize hAe : va_A [(h0, .inr (13, zs)), (qf25, .inl (cf25, 400, .inl f25)), (qf5, .inl (cf5, 3002, .inl f5)), (qf6, .inl (cf6, 3002, .inl f6)), (qf2, .inl (cf2, 3000, .inl f2)), (qf27, .inl (cf27, 400, .inl f27)), (qf26, .inl (cf26, 400, .inl f26)), (qf31, .inl (cf31, 800, .inl f31)), (qf32, .inl (cf32, 800, .inl f32)), (qf33, .inl (cf33, 800, .inl f33)), (qf35, .inl (cf35, 800, .inl f35)), (qf34, .inl (cf34, 800, .inl f34)), (qf29, .inl (cf29, 800, .inl f29)), (qf30, .inl (cf30, 800, .inl f30)), (qf37, .inl (cf37, 800, .inl f37)), (qf36, .inl (cf36, 800, .inl f36)), (qf40, .inl (cf40, 1500, .inl f40)), (qf41, .inl (cf41, 1500, .inl f41)), (qf42, .inl (cf42, 1500, .inl f42)), (qf44, .inl (cf44, 1500, .inl f44)), (qf43, .inl (cf43, 1500, .inl f43))] s.heap.size = A at hD hZWS477 ⊢
  have hA : ∀ q : Nat, s.heap.size ≤ q → A q := fun q h => by rw [← hAe]; exact Or.inr h
  have hP : va_P (dC, dI) vwCl [(h0, .inr (13, zs)), (qf25, .inl (cf25, 400, .inl f25)), (qf5, .inl (cf5, 3002, .inl f5)), (qf6, .inl (cf6, 3002, .inl f6)), (qf2, .inl (cf2, 3000, .inl f2)), (qf27, .inl (cf27, 400, .inl f27)), (qf26, .inl (cf26, 400, .inl f26)), (qf31, .inl (cf31, 800, .inl f31)), (qf32, .inl (cf32, 800, .inl f32)), (qf33, .inl (cf33, 800, .inl f33)), (qf35, .inl (cf35, 800, .inl f35)), (qf34, .inl (cf34, 800, .inl f34)), (qf29, .inl (cf29, 800, .inl f29)), (qf30, .inl (cf30, 800, .inl f30)), (qf37, .inl (cf37, 800, .inl f37)), (qf36, .inl (cf36, 800, .inl f36)), (qf40, .inl (cf40, 1500, .inl f40)), (qf41, .inl (cf41, 1500, .inl f41)), (qf42, .inl (cf42, 1500, .inl f42)), (qf44, .inl (cf44, 1500, .inl f44)), (qf43, .inl (cf43, 1500, .inl f43))] s.heap := hP
  have hl := lv_entry ([.ref h0]) (n := 4) (Nat.le_of_ble_eq_true rfl)
  rw [lg_entry_eq]
  generalize (lg_sl ([.ref h0]) ++ List.replicate (4 - (lg_sl ([.ref h0])).length) Slot.unset).toArray = ls at hl ⊢
  have hl : lv_has ls 4 [(0, .ref h0)] := hl
  obtain ⟨H, hH⟩ : ∃ H : Heap, s.heap = H := ⟨_, rfl⟩
  rw [hH] at hP ⊢
  have hS : va_S A s.heap H [] := by rw [← hH]; exact va_S.rf
  obtain ⟨locs, hlo⟩ : ∃ locs : List Loc, locs = [] := ⟨_, rfl⟩
  rw [← hlo] at hS ⊢
  have hrs0 : ∀ j : Nat, j ≠ 10 → j ≠ 9 → zs[j]? = zs[j]? := fun _ _ _  => rfl
  unfold sp_vm_heads at hsp
  refine jn_use (α := Heap × List Loc × Array Slot × List Value × (Nat → Int32) × (Nat → Int32) × (Nat → Int32) × Int32 × Int32) (fun x9 => x9.1) (fun x9 => x9.2.1) (fun x9 => F0 m 218 x9.2.2.1 []) (fun x9 => match x9 with | (H, locs, ls, z218, g27_218, g35_218, g44_218, x10_218, x9_218) => lv_has ls 4 [(0, .ref h0)] ∧ va_S A s.heap H locs ∧ va_D A [(h0, .inr (13, z218)), (qf25, .inl (cf25, 400, .inl f25)), (qf5, .inl (cf5, 3002, .inl f5)), (qf6, .inl (cf6, 3002, .inl f6)), (qf2, .inl (cf2, 3000, .inl f2)), (qf27, .inl (cf27, 400, .inl g27_218)), (qf26, .inl (cf26, 400, .inl f26)), (qf31, .inl (cf31, 800, .inl f31)), (qf32, .inl (cf32, 800, .inl f32)), (qf33, .inl (cf33, 800, .inl f33)), (qf35, .inl (cf35, 800, .inl g35_218)), (qf34, .inl (cf34, 800, .inl f34)), (qf29, .inl (cf29, 800, .inl f29)), (qf30, .inl (cf30, 800, .inl f30)), (qf37, .inl (cf37, 800, .inl f37)), (qf36, .inl (cf36, 800, .inl f36)), (qf40, .inl (cf40, 1500, .inl f40)), (qf41, .inl (cf41, 1500, .inl f41)), (qf42, .inl (cf42, 1500, .inl f42)), (qf44, .inl (cf44, 1500, .inl g44_218)), (qf43, .inl (cf43, 1500, .inl f43))] ∧ va_P (dC, dI) vwCl [(h0, .inr (13, z218)), (qf25, .inl (cf25, 400, .inl f25)), (qf5, .inl (cf5, 3002, .inl f5)), (qf6, .inl (cf6, 3002, .inl f6)), (qf2, .inl (cf2, 3000, .inl f2)), (qf27, .inl (cf27, 400, .inl g27_218)), (qf26, .inl (cf26, 400, .inl f26)), (qf31, .inl (cf31, 800, .inl f31)), (qf32, .inl (cf32, 800, .inl f32)), (qf33, .inl (cf33, 800, .inl f33)), (qf35, .inl (cf35, 800, .inl g35_218)), (qf34, .inl (cf34, 800, .inl f34)), (qf29, .inl (cf29, 800, .inl f29)), (qf30, .inl (cf30, 800, .inl f30)), (qf37, .inl (cf37, 800, .inl f37)), (qf36, .inl (cf36, 800, .inl f36)), (qf40, .inl (cf40, 1500, .inl f40)), (qf41, .inl (cf41, 1500, .inl f41)), (qf42, .inl (cf42, 1500, .inl f42)), (qf44, .inl (cf44, 1500, .inl g44_218)), (qf43, .inl (cf43, 1500, .inl f43))] H ∧ z218[2]? = some (.ref qf2) ∧ z218[5]? = some (.ref qf5) ∧ z218[6]? = some (.ref qf6) ∧ z218[9]? = some (.int x9_218) ∧ z218[10]? = some (.int x10_218) ∧ z218[24]? = some (.int v24) ∧ z218[25]? = some (.ref qf25) ∧ z218[26]? = some (.ref qf26) ∧ z218[27]? = some (.ref qf27) ∧ z218[28]? = some (.int v28) ∧ z218[29]? = some (.ref qf29) ∧ z218[30]? = some (.ref qf30) ∧ z218[31]? = some (.ref qf31) ∧ z218[32]? = some (.ref qf32) ∧ z218[33]? = some (.ref qf33) ∧ z218[34]? = some (.ref qf34) ∧ z218[35]? = some (.ref qf35) ∧ z218[36]? = some (.ref qf36) ∧ z218[37]? = some (.ref qf37) ∧ z218[40]? = some (.ref qf40) ∧ z218[41]? = some (.ref qf41) ∧ z218[42]? = some (.ref qf42) ∧ z218[43]? = some (.ref qf43) ∧ z218[44]? = some (.ref qf44) ∧ z218.length = 155 ∧ (∀ j : Nat, j ≠ 10 → j ≠ 9 → z218[j]? = zs[j]?) ∧ jn_vm_heads_218 nf v9 v10 v24 v28 f25 f5 f6 f2 f27 f26 f31 f32 f33 f35 f34 f29 f30 f37 f36 f40 f41 f42 f44 f43 nS477 fS477 g27_218 g35_218 g44_218 x10_218 x9_218 = some (o27, o35, o44, w10, w9)) ?_ ?_
  · intro x9 hJ9
    obtain ⟨H, locs, ls, z218, g27_218, g35_218, g44_218, x10_218, x9_218⟩ := x9
    obtain ⟨hl, hS, hD, hP, hfh_218_2, hfh_218_5, hfh_218_6, hfh_218_9, hfh_218_10, hfh_218_24, hfh_218_25, hfh_218_26, hfh_218_27, hfh_218_28, hfh_218_29, hfh_218_30, hfh_218_31, hfh_218_32, hfh_218_33, hfh_218_34, hfh_218_35, hfh_218_36, hfh_218_37, hfh_218_40, hfh_218_41, hfh_218_42, hfh_218_43, hfh_218_44, hlh_218, hrh_218, hsp⟩ := hJ9
    replace hl : lv_has ls 4 [(0, .ref h0)] := hl
    replace hS : va_S A s.heap H locs := hS
    replace hD : va_D A [(h0, .inr (13, z218)), (qf25, .inl (cf25, 400, .inl f25)), (qf5, .inl (cf5, 3002, .inl f5)), (qf6, .inl (cf6, 3002, .inl f6)), (qf2, .inl (cf2, 3000, .inl f2)), (qf27, .inl (cf27, 400, .inl g27_218)), (qf26, .inl (cf26, 400, .inl f26)), (qf31, .inl (cf31, 800, .inl f31)), (qf32, .inl (cf32, 800, .inl f32)), (qf33, .inl (cf33, 800, .inl f33)), (qf35, .inl (cf35, 800, .inl g35_218)), (qf34, .inl (cf34, 800, .inl f34)), (qf29, .inl (cf29, 800, .inl f29)), (qf30, .inl (cf30, 800, .inl f30)), (qf37, .inl (cf37, 800, .inl f37)), (qf36, .inl (cf36, 800, .inl f36)), (qf40, .inl (cf40, 1500, .inl f40)), (qf41, .inl (cf41, 1500, .inl f41)), (qf42, .inl (cf42, 1500, .inl f42)), (qf44, .inl (cf44, 1500, .inl g44_218)), (qf43, .inl (cf43, 1500, .inl f43))] := hD
    replace hP : va_P (dC, dI) vwCl [(h0, .inr (13, z218)), (qf25, .inl (cf25, 400, .inl f25)), (qf5, .inl (cf5, 3002, .inl f5)), (qf6, .inl (cf6, 3002, .inl f6)), (qf2, .inl (cf2, 3000, .inl f2)), (qf27, .inl (cf27, 400, .inl g27_218)), (qf26, .inl (cf26, 400, .inl f26)), (qf31, .inl (cf31, 800, .inl f31)), (qf32, .inl (cf32, 800, .inl f32)), (qf33, .inl (cf33, 800, .inl f33)), (qf35, .inl (cf35, 800, .inl g35_218)), (qf34, .inl (cf34, 800, .inl f34)), (qf29, .inl (cf29, 800, .inl f29)), (qf30, .inl (cf30, 800, .inl f30)), (qf37, .inl (cf37, 800, .inl f37)), (qf36, .inl (cf36, 800, .inl f36)), (qf40, .inl (cf40, 1500, .inl f40)), (qf41, .inl (cf41, 1500, .inl f41)), (qf42, .inl (cf42, 1500, .inl f42)), (qf44, .inl (cf44, 1500, .inl g44_218)), (qf43, .inl (cf43, 1500, .inl f43))] H := hP
    replace hsp : jn_vm_heads_218 nf v9 v10 v24 v28 f25 f5 f6 f2 f27 f26 f31 f32 f33 f35 f34 f29 f30 f37 f36 f40 f41 f42 f44 f43 nS477 fS477 g27_218 g35_218 g44_218 x10_218 x9_218 = some (o27, o35, o44, w10, w9) := hsp
    show W _ _ _ _ _ _ _ _ _ _ H locs _ _ _ (F0 m 218 ls [])
    unfold jn_vm_heads_218 at hsp
    try dsimp only at hsp
    refine lv_iconst (v := 0) hx hb dX13_heads_218 (by decide) ?_
    refine lv_istore_n (lv' := [(1, .int 0), (0, .ref h0)]) hx hb dX13_heads_219 rfl hl (by decide) rfl (fun ls hl => ?_)
    replace hl : lv_has ls 4 [(1, .int 0), (0, .ref h0)] := lv_sub hl [0, 1] rfl
    replace hP := hP.sub (ws' := [(h0, .inr (13, z218)), (qf25, .inl (cf25, 400, .inl f25)), (qf5, .inl (cf5, 3002, .inl f5)), (qf6, .inl (cf6, 3002, .inl f6)), (qf2, .inl (cf2, 3000, .inl f2)), (qf27, .inl (cf27, 400, .inl g27_218)), (qf26, .inl (cf26, 400, .inl f26)), (qf31, .inl (cf31, 800, .inl f31)), (qf32, .inl (cf32, 800, .inl f32)), (qf33, .inl (cf33, 800, .inl f33)), (qf35, .inl (cf35, 800, .inl g35_218)), (qf34, .inl (cf34, 800, .inl f34)), (qf29, .inl (cf29, 800, .inl f29)), (qf30, .inl (cf30, 800, .inl f30)), (qf37, .inl (cf37, 800, .inl f37)), (qf36, .inl (cf36, 800, .inl f36)), (qf40, .inl (cf40, 1500, .inl f40)), (qf41, .inl (cf41, 1500, .inl f41)), (qf42, .inl (cf42, 1500, .inl f42)), (qf44, .inl (cf44, 1500, .inl g44_218)), (qf43, .inl (cf43, 1500, .inl f43))]) [0, 1, 2, 3, 4, 5, 6, 7, 8, 9, 10, 11, 12, 13, 14, 15, 16, 17, 18, 19, 20] rfl
    replace hD := hD.sub (ws' := [(h0, .inr (13, z218)), (qf25, .inl (cf25, 400, .inl f25)), (qf5, .inl (cf5, 3002, .inl f5)), (qf6, .inl (cf6, 3002, .inl f6)), (qf2, .inl (cf2, 3000, .inl f2)), (qf27, .inl (cf27, 400, .inl g27_218)), (qf26, .inl (cf26, 400, .inl f26)), (qf31, .inl (cf31, 800, .inl f31)), (qf32, .inl (cf32, 800, .inl f32)), (qf33, .inl (cf33, 800, .inl f33)), (qf35, .inl (cf35, 800, .inl g35_218)), (qf34, .inl (cf34, 800, .inl f34)), (qf29, .inl (cf29, 800, .inl f29)), (qf30, .inl (cf30, 800, .inl f30)), (qf37, .inl (cf37, 800, .inl f37)), (qf36, .inl (cf36, 800, .inl f36)), (qf40, .inl (cf40, 1500, .inl f40)), (qf41, .inl (cf41, 1500, .inl f41)), (qf42, .inl (cf42, 1500, .inl f42)), (qf44, .inl (cf44, 1500, .inl g44_218)), (qf43, .inl (cf43, 1500, .inl f43))]) [0, 1, 2, 3, 4, 5, 6, 7, 8, 9, 10, 11, 12, 13, 14, 15, 16, 17, 18, 19, 20] (by decide) rfl
    replace hK := hK.sub (tys' := [(cf25, .int), (cf5, .int), (cf6, .int), (cf2, .int), (cf27, .int), (cf26, .int), (cf31, .int), (cf32, .int), (cf33, .boolean), (cf35, .int), (cf34, .int), (cf29, .int), (cf30, .int), (cf37, .int), (cf36, .int), (cf40, .int), (cf41, .int), (cf42, .boolean), (cf44, .int), (cf43, .int)]) [0, 1, 2, 3, 4, 5, 6, 7, 8, 9, 10, 11, 12, 13, 14, 15, 16, 17, 18, 19] rfl
    obtain ⟨n_220, hn_220⟩ : ∃ z : Nat, z = nf := ⟨_, rfl⟩
    obtain ⟨l1_220, el1_220⟩ : ∃ z : Int32, z = 0 := ⟨_, rfl⟩
    obtain ⟨g27_220, eg27_220⟩ : ∃ z : Nat → Int32, z = g27_218 := ⟨_, rfl⟩
    obtain ⟨g35_220, eg35_220⟩ : ∃ z : Nat → Int32, z = g35_218 := ⟨_, rfl⟩
    obtain ⟨g44_220, eg44_220⟩ : ∃ z : Nat → Int32, z = g44_218 := ⟨_, rfl⟩
    obtain ⟨x10_220, ex10_220⟩ : ∃ z : Int32, z = x10_218 := ⟨_, rfl⟩
    obtain ⟨x9_220, ex9_220⟩ : ∃ z : Int32, z = x9_218 := ⟨_, rfl⟩
    replace hsp : lp_vm_heads_220 nf n_220 v9 v10 v24 v28 f25 f5 f6 f2 f27 f26 f31 f32 f33 f35 f34 f29 f30 f37 f36 f40 f41 f42 f44 f43 nS477 fS477 l1_220 g27_220 g35_220 g44_220 x10_220 x9_220 = some (o27, o35, o44, w10, w9) := by rw [hn_220, el1_220, eg27_220, eg35_220, eg44_220, ex10_220, ex9_220]; exact hsp
    replace hl : lv_has ls 4 [(1, .int l1_220), (0, .ref h0)] := by rw [el1_220]; exact hl
    obtain ⟨z220, ez220⟩ : ∃ z : List Value, z = z218 := ⟨_, rfl⟩
    have hfh_220_2 : z220[2]? = some (.ref qf2) := by rw [ez220]; exact hfh_218_2
    have hfh_220_5 : z220[5]? = some (.ref qf5) := by rw [ez220]; exact hfh_218_5
    have hfh_220_6 : z220[6]? = some (.ref qf6) := by rw [ez220]; exact hfh_218_6
    have hfh_220_9 : z220[9]? = some (.int x9_220) := by rw [ez220, ex9_220]; exact hfh_218_9
    have hfh_220_10 : z220[10]? = some (.int x10_220) := by rw [ez220, ex10_220]; exact hfh_218_10
    have hfh_220_24 : z220[24]? = some (.int v24) := by rw [ez220]; exact hfh_218_24
    have hfh_220_25 : z220[25]? = some (.ref qf25) := by rw [ez220]; exact hfh_218_25
    have hfh_220_26 : z220[26]? = some (.ref qf26) := by rw [ez220]; exact hfh_218_26
    have hfh_220_27 : z220[27]? = some (.ref qf27) := by rw [ez220]; exact hfh_218_27
    have hfh_220_28 : z220[28]? = some (.int v28) := by rw [ez220]; exact hfh_218_28
    have hfh_220_29 : z220[29]? = some (.ref qf29) := by rw [ez220]; exact hfh_218_29
    have hfh_220_30 : z220[30]? = some (.ref qf30) := by rw [ez220]; exact hfh_218_30
    have hfh_220_31 : z220[31]? = some (.ref qf31) := by rw [ez220]; exact hfh_218_31
    have hfh_220_32 : z220[32]? = some (.ref qf32) := by rw [ez220]; exact hfh_218_32
    have hfh_220_33 : z220[33]? = some (.ref qf33) := by rw [ez220]; exact hfh_218_33
    have hfh_220_34 : z220[34]? = some (.ref qf34) := by rw [ez220]; exact hfh_218_34
    have hfh_220_35 : z220[35]? = some (.ref qf35) := by rw [ez220]; exact hfh_218_35
    have hfh_220_36 : z220[36]? = some (.ref qf36) := by rw [ez220]; exact hfh_218_36
    have hfh_220_37 : z220[37]? = some (.ref qf37) := by rw [ez220]; exact hfh_218_37
    have hfh_220_40 : z220[40]? = some (.ref qf40) := by rw [ez220]; exact hfh_218_40
    have hfh_220_41 : z220[41]? = some (.ref qf41) := by rw [ez220]; exact hfh_218_41
    have hfh_220_42 : z220[42]? = some (.ref qf42) := by rw [ez220]; exact hfh_218_42
    have hfh_220_43 : z220[43]? = some (.ref qf43) := by rw [ez220]; exact hfh_218_43
    have hfh_220_44 : z220[44]? = some (.ref qf44) := by rw [ez220]; exact hfh_218_44
    have hlh_220 : z220.length = 155 := by rw [ez220]; exact hlh_218
    have hrh_220 : ∀ j : Nat, j ≠ 10 → j ≠ 9 → z220[j]? = zs[j]? := by rw [ez220]; exact hrh_218
    replace hP : va_P (dC, dI) vwCl [(h0, .inr (13, z220)), (qf25, .inl (cf25, 400, .inl f25)), (qf5, .inl (cf5, 3002, .inl f5)), (qf6, .inl (cf6, 3002, .inl f6)), (qf2, .inl (cf2, 3000, .inl f2)), (qf27, .inl (cf27, 400, .inl g27_220)), (qf26, .inl (cf26, 400, .inl f26)), (qf31, .inl (cf31, 800, .inl f31)), (qf32, .inl (cf32, 800, .inl f32)), (qf33, .inl (cf33, 800, .inl f33)), (qf35, .inl (cf35, 800, .inl g35_220)), (qf34, .inl (cf34, 800, .inl f34)), (qf29, .inl (cf29, 800, .inl f29)), (qf30, .inl (cf30, 800, .inl f30)), (qf37, .inl (cf37, 800, .inl f37)), (qf36, .inl (cf36, 800, .inl f36)), (qf40, .inl (cf40, 1500, .inl f40)), (qf41, .inl (cf41, 1500, .inl f41)), (qf42, .inl (cf42, 1500, .inl f42)), (qf44, .inl (cf44, 1500, .inl g44_220)), (qf43, .inl (cf43, 1500, .inl f43))] H := by rw [ez220, eg27_220, eg35_220, eg44_220]; exact hP
    replace hD : va_D A [(h0, .inr (13, z220)), (qf25, .inl (cf25, 400, .inl f25)), (qf5, .inl (cf5, 3002, .inl f5)), (qf6, .inl (cf6, 3002, .inl f6)), (qf2, .inl (cf2, 3000, .inl f2)), (qf27, .inl (cf27, 400, .inl g27_220)), (qf26, .inl (cf26, 400, .inl f26)), (qf31, .inl (cf31, 800, .inl f31)), (qf32, .inl (cf32, 800, .inl f32)), (qf33, .inl (cf33, 800, .inl f33)), (qf35, .inl (cf35, 800, .inl g35_220)), (qf34, .inl (cf34, 800, .inl f34)), (qf29, .inl (cf29, 800, .inl f29)), (qf30, .inl (cf30, 800, .inl f30)), (qf37, .inl (cf37, 800, .inl f37)), (qf36, .inl (cf36, 800, .inl f36)), (qf40, .inl (cf40, 1500, .inl f40)), (qf41, .inl (cf41, 1500, .inl f41)), (qf42, .inl (cf42, 1500, .inl f42)), (qf44, .inl (cf44, 1500, .inl g44_220)), (qf43, .inl (cf43, 1500, .inl f43))] := by rw [ez220, eg27_220, eg35_220, eg44_220]; exact hD
    clear hn_220 ez220 el1_220 eg27_220 eg35_220 eg44_220 ex10_220 ex9_220
    try clear hlo
    try clear hH
    revert hsp
    revert hP
    revert hD
    revert hS
    revert hl
    revert hrh_220
    revert hlh_220
    revert hfh_220_44
    revert hfh_220_43
    revert hfh_220_42
    revert hfh_220_41
    revert hfh_220_40
    revert hfh_220_37
    revert hfh_220_36
    revert hfh_220_35
    revert hfh_220_34
    revert hfh_220_33
    revert hfh_220_32
    revert hfh_220_31
    revert hfh_220_30
    revert hfh_220_29
    revert hfh_220_28
    revert hfh_220_27
    revert hfh_220_26
    revert hfh_220_25
    revert hfh_220_24
    revert hfh_220_10
    revert hfh_220_9
    revert hfh_220_6
    revert hfh_220_5
    revert hfh_220_2
    revert x9_220
    revert x10_220
    revert g44_220
    revert g35_220
    revert g27_220
    revert l1_220
    revert z220
    revert ls
    revert locs
    revert H
    induction n_220 with
    | zero => intro H locs ls z220 l1_220 g27_220 g35_220 g44_220 x10_220 x9_220 hfh_220_2 hfh_220_5 hfh_220_6 hfh_220_9 hfh_220_10 hfh_220_24 hfh_220_25 hfh_220_26 hfh_220_27 hfh_220_28 hfh_220_29 hfh_220_30 hfh_220_31 hfh_220_32 hfh_220_33 hfh_220_34 hfh_220_35 hfh_220_36 hfh_220_37 hfh_220_40 hfh_220_41 hfh_220_42 hfh_220_43 hfh_220_44 hlh_220 hrh_220 hl hS hD hP hsp; unfold lp_vm_heads_220 at hsp; cases hsp
    | succ n_220 ih_220 =>
      intro H locs ls z220 l1_220 g27_220 g35_220 g44_220 x10_220 x9_220 hfh_220_2 hfh_220_5 hfh_220_6 hfh_220_9 hfh_220_10 hfh_220_24 hfh_220_25 hfh_220_26 hfh_220_27 hfh_220_28 hfh_220_29 hfh_220_30 hfh_220_31 hfh_220_32 hfh_220_33 hfh_220_34 hfh_220_35 hfh_220_36 hfh_220_37 hfh_220_40 hfh_220_41 hfh_220_42 hfh_220_43 hfh_220_44 hlh_220 hrh_220 hl hS hD hP hsp
      unfold lp_vm_heads_220 at hsp
      try dsimp only at hsp
      refine lv_iload_n hx hb dX13_heads_220 rfl (lv_at hl 0 rfl) ?_
      refine lv_aload_n hx hb dX13_heads_221 rfl (lv_at hl 1 rfl) ?_
      refine va_get (D := (dC, dI)) (ci := 13) (v := .int v28) (C := RX13) (T := TX13) (N := 155) hx hb hts uV_h9_X13 hown hK hP 0 rfl rfl 28 (by decide) (hts (.fieldLink RX13 412 "ClassMillModel" "members" "I") mw_h9_400) (fun _ h9 => h9) hfh_220_28 dX13_heads_222 ?_
      refine lv_icmp_ge (tgt := 255) hx hb dX13_heads_225 (by decide) (fun c_26 => ?_) (fun c_26 => ?_)
      · rw [if_pos c_26] at hsp
        have hr0 := Option.some.inj hsp
        clear hsp
        obtain ⟨hq0, hr1⟩ := Prod.mk.inj hr0
        clear hr0
        obtain ⟨hq1, hr2⟩ := Prod.mk.inj hr1
        clear hr1
        obtain ⟨hq2, hr3⟩ := Prod.mk.inj hr2
        clear hr2
        obtain ⟨hq3, hr4⟩ := Prod.mk.inj hr3
        clear hr3
        subst hq0
        subst hq1
        subst hq2
        subst hq3
        subst hr4
        have hP9 := hP.sub (ws' := [(h0, .inr (13, z220)), (qf25, .inl (cf25, 400, .inl f25)), (qf5, .inl (cf5, 3002, .inl f5)), (qf6, .inl (cf6, 3002, .inl f6)), (qf2, .inl (cf2, 3000, .inl f2)), (qf27, .inl (cf27, 400, .inl g27_220)), (qf26, .inl (cf26, 400, .inl f26)), (qf31, .inl (cf31, 800, .inl f31)), (qf32, .inl (cf32, 800, .inl f32)), (qf33, .inl (cf33, 800, .inl f33)), (qf35, .inl (cf35, 800, .inl g35_220)), (qf34, .inl (cf34, 800, .inl f34)), (qf29, .inl (cf29, 800, .inl f29)), (qf30, .inl (cf30, 800, .inl f30)), (qf37, .inl (cf37, 800, .inl f37)), (qf36, .inl (cf36, 800, .inl f36)), (qf40, .inl (cf40, 1500, .inl f40)), (qf41, .inl (cf41, 1500, .inl f41)), (qf42, .inl (cf42, 1500, .inl f42)), (qf44, .inl (cf44, 1500, .inl g44_220)), (qf43, .inl (cf43, 1500, .inl f43))]) [0, 1, 2, 3, 4, 5, 6, 7, 8, 9, 10, 11, 12, 13, 14, 15, 16, 17, 18, 19, 20] rfl
        have hD9 := hD.sub (ws' := [(h0, .inr (13, z220)), (qf25, .inl (cf25, 400, .inl f25)), (qf5, .inl (cf5, 3002, .inl f5)), (qf6, .inl (cf6, 3002, .inl f6)), (qf2, .inl (cf2, 3000, .inl f2)), (qf27, .inl (cf27, 400, .inl g27_220)), (qf26, .inl (cf26, 400, .inl f26)), (qf31, .inl (cf31, 800, .inl f31)), (qf32, .inl (cf32, 800, .inl f32)), (qf33, .inl (cf33, 800, .inl f33)), (qf35, .inl (cf35, 800, .inl g35_220)), (qf34, .inl (cf34, 800, .inl f34)), (qf29, .inl (cf29, 800, .inl f29)), (qf30, .inl (cf30, 800, .inl f30)), (qf37, .inl (cf37, 800, .inl f37)), (qf36, .inl (cf36, 800, .inl f36)), (qf40, .inl (cf40, 1500, .inl f40)), (qf41, .inl (cf41, 1500, .inl f41)), (qf42, .inl (cf42, 1500, .inl f42)), (qf44, .inl (cf44, 1500, .inl g44_220)), (qf43, .inl (cf43, 1500, .inl f43))]) [0, 1, 2, 3, 4, 5, 6, 7, 8, 9, 10, 11, 12, 13, 14, 15, 16, 17, 18, 19, 20] (by decide) rfl
        have hK9 := hK.sub (tys' := [(cf25, .int), (cf5, .int), (cf6, .int), (cf2, .int), (cf27, .int), (cf26, .int), (cf31, .int), (cf32, .int), (cf33, .boolean), (cf35, .int), (cf34, .int), (cf29, .int), (cf30, .int), (cf37, .int), (cf36, .int), (cf40, .int), (cf41, .int), (cf42, .boolean), (cf44, .int), (cf43, .int)]) [0, 1, 2, 3, 4, 5, 6, 7, 8, 9, 10, 11, 12, 13, 14, 15, 16, 17, 18, 19] rfl
        exact W.vret hx hb hr (fun t ht hW => ⟨⟨(z220), rfl, ⟨trivial, hlh_220, hrh_220, hfh_220_10, hfh_220_9⟩, by rw [ht]; exact hP9, va_K.moved hW.alike hK9, hD9⟩, hS.F ht⟩) hS.2.2 dX13_heads_255
      · rw [if_neg c_26] at hsp
        refine lv_aload_n hx hb dX13_heads_228 rfl (lv_at hl 1 rfl) ?_
        refine va_get (D := (dC, dI)) (ci := 13) (v := .int x9_220) (C := RX13) (T := TX13) (N := 155) hx hb hts uV_h9_X13 hown hK hP 0 rfl rfl 9 (by decide) (hts (.fieldLink RX13 319 "ClassMillModel" "fault" "I") mw_h9_66) (fun _ h9 => h9) hfh_220_9 dX13_heads_229 ?_
        refine lv_if_ne (tgt := 255) hx hb dX13_heads_232 (by decide) (fun c_27 => ?_) (fun c_27 => ?_)
        · rw [if_neg c_27] at hsp
          have hr0 := Option.some.inj hsp
          clear hsp
          obtain ⟨hq0, hr1⟩ := Prod.mk.inj hr0
          clear hr0
          obtain ⟨hq1, hr2⟩ := Prod.mk.inj hr1
          clear hr1
          obtain ⟨hq2, hr3⟩ := Prod.mk.inj hr2
          clear hr2
          obtain ⟨hq3, hr4⟩ := Prod.mk.inj hr3
          clear hr3
          subst hq0
          subst hq1
          subst hq2
          subst hq3
          subst hr4
          have hP9 := hP.sub (ws' := [(h0, .inr (13, z220)), (qf25, .inl (cf25, 400, .inl f25)), (qf5, .inl (cf5, 3002, .inl f5)), (qf6, .inl (cf6, 3002, .inl f6)), (qf2, .inl (cf2, 3000, .inl f2)), (qf27, .inl (cf27, 400, .inl g27_220)), (qf26, .inl (cf26, 400, .inl f26)), (qf31, .inl (cf31, 800, .inl f31)), (qf32, .inl (cf32, 800, .inl f32)), (qf33, .inl (cf33, 800, .inl f33)), (qf35, .inl (cf35, 800, .inl g35_220)), (qf34, .inl (cf34, 800, .inl f34)), (qf29, .inl (cf29, 800, .inl f29)), (qf30, .inl (cf30, 800, .inl f30)), (qf37, .inl (cf37, 800, .inl f37)), (qf36, .inl (cf36, 800, .inl f36)), (qf40, .inl (cf40, 1500, .inl f40)), (qf41, .inl (cf41, 1500, .inl f41)), (qf42, .inl (cf42, 1500, .inl f42)), (qf44, .inl (cf44, 1500, .inl g44_220)), (qf43, .inl (cf43, 1500, .inl f43))]) [0, 1, 2, 3, 4, 5, 6, 7, 8, 9, 10, 11, 12, 13, 14, 15, 16, 17, 18, 19, 20] rfl
          have hD9 := hD.sub (ws' := [(h0, .inr (13, z220)), (qf25, .inl (cf25, 400, .inl f25)), (qf5, .inl (cf5, 3002, .inl f5)), (qf6, .inl (cf6, 3002, .inl f6)), (qf2, .inl (cf2, 3000, .inl f2)), (qf27, .inl (cf27, 400, .inl g27_220)), (qf26, .inl (cf26, 400, .inl f26)), (qf31, .inl (cf31, 800, .inl f31)), (qf32, .inl (cf32, 800, .inl f32)), (qf33, .inl (cf33, 800, .inl f33)), (qf35, .inl (cf35, 800, .inl g35_220)), (qf34, .inl (cf34, 800, .inl f34)), (qf29, .inl (cf29, 800, .inl f29)), (qf30, .inl (cf30, 800, .inl f30)), (qf37, .inl (cf37, 800, .inl f37)), (qf36, .inl (cf36, 800, .inl f36)), (qf40, .inl (cf40, 1500, .inl f40)), (qf41, .inl (cf41, 1500, .inl f41)), (qf42, .inl (cf42, 1500, .inl f42)), (qf44, .inl (cf44, 1500, .inl g44_220)), (qf43, .inl (cf43, 1500, .inl f43))]) [0, 1, 2, 3, 4, 5, 6, 7, 8, 9, 10, 11, 12, 13, 14, 15, 16, 17, 18, 19, 20] (by decide) rfl
          have hK9 := hK.sub (tys' := [(cf25, .int), (cf5, .int), (cf6, .int), (cf2, .int), (cf27, .int), (cf26, .int), (cf31, .int), (cf32, .int), (cf33, .boolean), (cf35, .int), (cf34, .int), (cf29, .int), (cf30, .int), (cf37, .int), (cf36, .int), (cf40, .int), (cf41, .int), (cf42, .boolean), (cf44, .int), (cf43, .int)]) [0, 1, 2, 3, 4, 5, 6, 7, 8, 9, 10, 11, 12, 13, 14, 15, 16, 17, 18, 19] rfl
          exact W.vret hx hb hr (fun t ht hW => ⟨⟨(z220), rfl, ⟨trivial, hlh_220, hrh_220, hfh_220_10, hfh_220_9⟩, by rw [ht]; exact hP9, va_K.moved hW.alike hK9, hD9⟩, hS.F ht⟩) hS.2.2 dX13_heads_255
        · rw [if_pos c_27] at hsp
          refine lv_aload_n hx hb dX13_heads_235 rfl (lv_at hl 1 rfl) ?_
          refine va_get (D := (dC, dI)) (ci := 13) (v := .ref qf30) (C := RX13) (T := TX13) (N := 155) hx hb hts uV_h9_X13 hown hK hP 0 rfl rfl 30 (by decide) (hts (.fieldLink RX13 74 "ClassMillModel" "memberSort" "[I") mw_h9_123) (fun _ h9 => h9) hfh_220_30 dX13_heads_236 ?_
          refine lv_iload_n hx hb dX13_heads_239 rfl (lv_at hl 0 rfl) ?_
          obtain ⟨hi_28, hsp⟩ := ox_in hsp
          refine va_iald hx hb hK hP 13 12 rfl rfl (i := l1_220) hi_28 dX13_heads_240 ?_
          refine lv_if_le (tgt := 249) hx hb dX13_heads_241 (by decide) (fun c_29 => ?_) (fun c_29 => ?_)
          · rw [if_pos c_29] at hsp
            refine lv_iinc (v := (l1_220 + 1)) (lv' := [(1, .int (l1_220 + 1)), (0, .ref h0)]) hx hb dX13_heads_249 hl (k := 0) rfl rfl (by decide) rfl (fun ls hl => ?_)
            refine lv_goto (tgt := 220) hx hb dX13_heads_252 (by decide) ?_
            exact ih_220 H locs ls z220 (l1_220 + 1) g27_220 g35_220 g44_220 x10_220 x9_220 (hfh_220_2) (hfh_220_5) (hfh_220_6) (hfh_220_9) (hfh_220_10) (hfh_220_24) (hfh_220_25) (hfh_220_26) (hfh_220_27) (hfh_220_28) (hfh_220_29) (hfh_220_30) (hfh_220_31) (hfh_220_32) (hfh_220_33) (hfh_220_34) (hfh_220_35) (hfh_220_36) (hfh_220_37) (hfh_220_40) (hfh_220_41) (hfh_220_42) (hfh_220_43) (hfh_220_44) hlh_220 hrh_220 (lv_sub hl [0, 1] rfl) hS (hD.sub (ws' := [(h0, .inr (13, z220)), (qf25, .inl (cf25, 400, .inl f25)), (qf5, .inl (cf5, 3002, .inl f5)), (qf6, .inl (cf6, 3002, .inl f6)), (qf2, .inl (cf2, 3000, .inl f2)), (qf27, .inl (cf27, 400, .inl g27_220)), (qf26, .inl (cf26, 400, .inl f26)), (qf31, .inl (cf31, 800, .inl f31)), (qf32, .inl (cf32, 800, .inl f32)), (qf33, .inl (cf33, 800, .inl f33)), (qf35, .inl (cf35, 800, .inl g35_220)), (qf34, .inl (cf34, 800, .inl f34)), (qf29, .inl (cf29, 800, .inl f29)), (qf30, .inl (cf30, 800, .inl f30)), (qf37, .inl (cf37, 800, .inl f37)), (qf36, .inl (cf36, 800, .inl f36)), (qf40, .inl (cf40, 1500, .inl f40)), (qf41, .inl (cf41, 1500, .inl f41)), (qf42, .inl (cf42, 1500, .inl f42)), (qf44, .inl (cf44, 1500, .inl g44_220)), (qf43, .inl (cf43, 1500, .inl f43))]) [0, 1, 2, 3, 4, 5, 6, 7, 8, 9, 10, 11, 12, 13, 14, 15, 16, 17, 18, 19, 20] (by decide) rfl) (hP.sub (ws' := [(h0, .inr (13, z220)), (qf25, .inl (cf25, 400, .inl f25)), (qf5, .inl (cf5, 3002, .inl f5)), (qf6, .inl (cf6, 3002, .inl f6)), (qf2, .inl (cf2, 3000, .inl f2)), (qf27, .inl (cf27, 400, .inl g27_220)), (qf26, .inl (cf26, 400, .inl f26)), (qf31, .inl (cf31, 800, .inl f31)), (qf32, .inl (cf32, 800, .inl f32)), (qf33, .inl (cf33, 800, .inl f33)), (qf35, .inl (cf35, 800, .inl g35_220)), (qf34, .inl (cf34, 800, .inl f34)), (qf29, .inl (cf29, 800, .inl f29)), (qf30, .inl (cf30, 800, .inl f30)), (qf37, .inl (cf37, 800, .inl f37)), (qf36, .inl (cf36, 800, .inl f36)), (qf40, .inl (cf40, 1500, .inl f40)), (qf41, .inl (cf41, 1500, .inl f41)), (qf42, .inl (cf42, 1500, .inl f42)), (qf44, .inl (cf44, 1500, .inl g44_220)), (qf43, .inl (cf43, 1500, .inl f43))]) [0, 1, 2, 3, 4, 5, 6, 7, 8, 9, 10, 11, 12, 13, 14, 15, 16, 17, 18, 19, 20] rfl) hsp
          · rw [if_neg c_29] at hsp
            refine lv_aload_n hx hb dX13_heads_244 rfl (lv_at hl 1 rfl) ?_
            refine lv_iload_n hx hb dX13_heads_245 rfl (lv_at hl 0 rfl) ?_
            obtain ⟨⟨u9_0, u9_1⟩, hu_9, hsp⟩ := ox_bind hsp
            try dsimp only at hsp
            have hPc := hP.sub (ws' := [(h0, .inr (13, z220)), (qf29, .inl (cf29, 800, .inl f29)), (qf27, .inl (cf27, 400, .inl g27_220)), (qf34, .inl (cf34, 800, .inl f34)), (qf30, .inl (cf30, 800, .inl f30)), (qf6, .inl (cf6, 3002, .inl f6)), (qf5, .inl (cf5, 3002, .inl f5)), (qf2, .inl (cf2, 3000, .inl f2)), (qf35, .inl (cf35, 800, .inl g35_220)), (qf37, .inl (cf37, 800, .inl f37)), (qf36, .inl (cf36, 800, .inl f36)), (qf44, .inl (cf44, 1500, .inl g44_220))]) [0, 12, 5, 11, 13, 3, 2, 4, 10, 14, 15, 19] rfl
            have hDc := hD.sub (ws' := [(h0, .inr (13, z220)), (qf29, .inl (cf29, 800, .inl f29)), (qf27, .inl (cf27, 400, .inl g27_220)), (qf34, .inl (cf34, 800, .inl f34)), (qf30, .inl (cf30, 800, .inl f30)), (qf6, .inl (cf6, 3002, .inl f6)), (qf5, .inl (cf5, 3002, .inl f5)), (qf2, .inl (cf2, 3000, .inl f2)), (qf35, .inl (cf35, 800, .inl g35_220)), (qf37, .inl (cf37, 800, .inl f37)), (qf36, .inl (cf36, 800, .inl f36)), (qf44, .inl (cf44, 1500, .inl g44_220))]) [0, 12, 5, 11, 13, 3, 2, 4, 10, 14, 15, 19] (by decide) rfl
            have hKc := hK.sub (tys' := [(cf29, .int), (cf27, .int), (cf34, .int), (cf30, .int), (cf6, .int), (cf5, .int), (cf2, .int), (cf35, .int), (cf37, .int), (cf36, .int), (cf44, .int)]) [11, 4, 10, 12, 2, 1, 3, 9, 13, 14, 18] rfl
            have hFc := va_free (wc := [(h0, .inr (13, z220)), (qf29, .inl (cf29, 800, .inl f29)), (qf27, .inl (cf27, 400, .inl g27_220)), (qf34, .inl (cf34, 800, .inl f34)), (qf30, .inl (cf30, 800, .inl f30)), (qf6, .inl (cf6, 3002, .inl f6)), (qf5, .inl (cf5, 3002, .inl f5)), (qf2, .inl (cf2, 3000, .inl f2)), (qf35, .inl (cf35, 800, .inl g35_220)), (qf37, .inl (cf37, 800, .inl f37)), (qf36, .inl (cf36, 800, .inl f36)), (qf44, .inl (cf44, 1500, .inl g44_220))]) hD hS hA [0, 12, 5, 11, 13, 3, 2, 4, 10, 14, 15, 19] rfl
            refine va_callv (va_runV (As := [.int l1_220]) (rest := []) ⟨hx, hb, hml, hown, hts⟩ (vm_overrides l dC dI H.size h0 z220 l1_220 qf2 qf5 qf6 x9_220 x10_220 qf27 v28 qf29 qf30 qf34 qf35 qf36 qf37 qf44 cf29 f29 cf27 g27_220 cf34 f34 cf30 f30 cf6 f6 cf5 f5 cf2 f2 cf35 g35_220 cf37 f37 cf36 f36 cf44 g44_220 nf u9_0 u9_1 hlh_220 hfh_220_2 hfh_220_5 hfh_220_6 hfh_220_9 hfh_220_10 hfh_220_27 hfh_220_28 hfh_220_29 hfh_220_30 hfh_220_34 hfh_220_35 hfh_220_36 hfh_220_37 hfh_220_44 hu_9) (cwV 1 hts gv_h9_78 rfl rfl rfl (by decide +kernel) ⟨Nat.le_of_ble_eq_true rfl, Nat.le_of_ble_eq_true rfl⟩) ⟨fun a U g mk q => by obtain ⟨q0, q1, qP, qK, qD⟩ := q; exact ⟨q0, q1, qP, va_K.moved (u := U) (U := U.calling g mk a) (Vm.Alike.refl U.vm) qK, qD⟩, va_recv hKc hPc (ci := 13) (q0 := 0) rfl rfl, fun U hU hW => ⟨rfl, by rw [hU], by rw [hU]; exact hPc, va_K.moved hW.alike hKc, hDc.weaken (fun _ _ _ _ => trivial)⟩⟩ rfl rfl hl.1 rfl (lv_room (Nat.le_of_ble_eq_true rfl)) dX13_heads_246 ⟨Nat.le_of_ble_eq_true rfl, Nat.le_of_ble_eq_true rfl⟩) hS (fun q _ h => hFc q h) hFc ?_
            clear hS
            intro u t H1 locs ht hvm hw hB hz1 hk1 hS
            obtain ⟨z_9, rfl⟩ : ∃ z, z = u := ⟨_, rfl⟩
            obtain ⟨hP1, hK1, hD1⟩ := hB
            rw [ht] at hP1
            have hK1 := va_K.moved hvm.symm hK1
            try dsimp only at hw
            have hPD := va_join (wr := [(qf25, .inl (cf25, 400, .inl f25)), (qf26, .inl (cf26, 400, .inl f26)), (qf31, .inl (cf31, 800, .inl f31)), (qf32, .inl (cf32, 800, .inl f32)), (qf33, .inl (cf33, 800, .inl f33)), (qf40, .inl (cf40, 1500, .inl f40)), (qf41, .inl (cf41, 1500, .inl f41)), (qf42, .inl (cf42, 1500, .inl f42)), (qf43, .inl (cf43, 1500, .inl f43))]) (w1 := [(h0, .inr (13, z_9)), (qf29, .inl (cf29, 800, .inl f29)), (qf27, .inl (cf27, 400, .inl g27_220)), (qf34, .inl (cf34, 800, .inl f34)), (qf30, .inl (cf30, 800, .inl f30)), (qf6, .inl (cf6, 3002, .inl f6)), (qf5, .inl (cf5, 3002, .inl f5)), (qf2, .inl (cf2, 3000, .inl f2)), (qf35, .inl (cf35, 800, .inl g35_220)), (qf37, .inl (cf37, 800, .inl f37)), (qf36, .inl (cf36, 800, .inl f36)), (qf44, .inl (cf44, 1500, .inl g44_220))]) hP hD [0, 12, 5, 11, 13, 3, 2, 4, 10, 14, 15, 19] [1, 6, 7, 8, 9, 16, 17, 18, 20] rfl rfl (by decide) (by decide) hk1 hFc hP1 hD1
            clear hP hD
            obtain ⟨hP, hD⟩ := hPD
            replace hK := (hK.sub (tys' := [(cf25, .int), (cf26, .int), (cf31, .int), (cf32, .int), (cf33, .boolean), (cf40, .int), (cf41, .int), (cf42, .boolean), (cf43, .int)]) [0, 5, 6, 7, 8, 15, 16, 17, 19] rfl).app hK1
            clear hPc hDc hKc hFc hP1 hK1 hD1 hz1 hk1 ht hvm
            generalize H1 = H at hP hS ⊢
            replace hP : va_P (dC, dI) vwCl [(qf25, .inl (cf25, 400, .inl f25)), (qf26, .inl (cf26, 400, .inl f26)), (qf31, .inl (cf31, 800, .inl f31)), (qf32, .inl (cf32, 800, .inl f32)), (qf33, .inl (cf33, 800, .inl f33)), (qf40, .inl (cf40, 1500, .inl f40)), (qf41, .inl (cf41, 1500, .inl f41)), (qf42, .inl (cf42, 1500, .inl f42)), (qf43, .inl (cf43, 1500, .inl f43)), (h0, .inr (13, z_9)), (qf29, .inl (cf29, 800, .inl f29)), (qf27, .inl (cf27, 400, .inl g27_220)), (qf34, .inl (cf34, 800, .inl f34)), (qf30, .inl (cf30, 800, .inl f30)), (qf6, .inl (cf6, 3002, .inl f6)), (qf5, .inl (cf5, 3002, .inl f5)), (qf2, .inl (cf2, 3000, .inl f2)), (qf35, .inl (cf35, 800, .inl g35_220)), (qf37, .inl (cf37, 800, .inl f37)), (qf36, .inl (cf36, 800, .inl f36)), (qf44, .inl (cf44, 1500, .inl g44_220))] H := hP
            replace hD : va_D A [(qf25, .inl (cf25, 400, .inl f25)), (qf26, .inl (cf26, 400, .inl f26)), (qf31, .inl (cf31, 800, .inl f31)), (qf32, .inl (cf32, 800, .inl f32)), (qf33, .inl (cf33, 800, .inl f33)), (qf40, .inl (cf40, 1500, .inl f40)), (qf41, .inl (cf41, 1500, .inl f41)), (qf42, .inl (cf42, 1500, .inl f42)), (qf43, .inl (cf43, 1500, .inl f43)), (h0, .inr (13, z_9)), (qf29, .inl (cf29, 800, .inl f29)), (qf27, .inl (cf27, 400, .inl g27_220)), (qf34, .inl (cf34, 800, .inl f34)), (qf30, .inl (cf30, 800, .inl f30)), (qf6, .inl (cf6, 3002, .inl f6)), (qf5, .inl (cf5, 3002, .inl f5)), (qf2, .inl (cf2, 3000, .inl f2)), (qf35, .inl (cf35, 800, .inl g35_220)), (qf37, .inl (cf37, 800, .inl f37)), (qf36, .inl (cf36, 800, .inl f36)), (qf44, .inl (cf44, 1500, .inl g44_220))] := hD
            replace hK : va_K (dC, dI) vwCl [(cf25, .int), (cf26, .int), (cf31, .int), (cf32, .int), (cf33, .boolean), (cf40, .int), (cf41, .int), (cf42, .boolean), (cf43, .int), (cf29, .int), (cf27, .int), (cf34, .int), (cf30, .int), (cf6, .int), (cf5, .int), (cf2, .int), (cf35, .int), (cf37, .int), (cf36, .int), (cf44, .int)] s := hK
            obtain ⟨hwa_9, hln_9, hre_9, hch_9_10, hch_9_9⟩ := hw
            have hfk_9_2 : z_9[2]? = some (.ref qf2) := (hre_9 2 (by decide) (by decide)).trans (hfh_220_2)
            have hfk_9_5 : z_9[5]? = some (.ref qf5) := (hre_9 5 (by decide) (by decide)).trans (hfh_220_5)
            have hfk_9_6 : z_9[6]? = some (.ref qf6) := (hre_9 6 (by decide) (by decide)).trans (hfh_220_6)
            have hfk_9_24 : z_9[24]? = some (.int v24) := (hre_9 24 (by decide) (by decide)).trans (hfh_220_24)
            have hfk_9_25 : z_9[25]? = some (.ref qf25) := (hre_9 25 (by decide) (by decide)).trans (hfh_220_25)
            have hfk_9_26 : z_9[26]? = some (.ref qf26) := (hre_9 26 (by decide) (by decide)).trans (hfh_220_26)
            have hfk_9_27 : z_9[27]? = some (.ref qf27) := (hre_9 27 (by decide) (by decide)).trans (hfh_220_27)
            have hfk_9_28 : z_9[28]? = some (.int v28) := (hre_9 28 (by decide) (by decide)).trans (hfh_220_28)
            have hfk_9_29 : z_9[29]? = some (.ref qf29) := (hre_9 29 (by decide) (by decide)).trans (hfh_220_29)
            have hfk_9_30 : z_9[30]? = some (.ref qf30) := (hre_9 30 (by decide) (by decide)).trans (hfh_220_30)
            have hfk_9_31 : z_9[31]? = some (.ref qf31) := (hre_9 31 (by decide) (by decide)).trans (hfh_220_31)
            have hfk_9_32 : z_9[32]? = some (.ref qf32) := (hre_9 32 (by decide) (by decide)).trans (hfh_220_32)
            have hfk_9_33 : z_9[33]? = some (.ref qf33) := (hre_9 33 (by decide) (by decide)).trans (hfh_220_33)
            have hfk_9_34 : z_9[34]? = some (.ref qf34) := (hre_9 34 (by decide) (by decide)).trans (hfh_220_34)
            have hfk_9_35 : z_9[35]? = some (.ref qf35) := (hre_9 35 (by decide) (by decide)).trans (hfh_220_35)
            have hfk_9_36 : z_9[36]? = some (.ref qf36) := (hre_9 36 (by decide) (by decide)).trans (hfh_220_36)
            have hfk_9_37 : z_9[37]? = some (.ref qf37) := (hre_9 37 (by decide) (by decide)).trans (hfh_220_37)
            have hfk_9_40 : z_9[40]? = some (.ref qf40) := (hre_9 40 (by decide) (by decide)).trans (hfh_220_40)
            have hfk_9_41 : z_9[41]? = some (.ref qf41) := (hre_9 41 (by decide) (by decide)).trans (hfh_220_41)
            have hfk_9_42 : z_9[42]? = some (.ref qf42) := (hre_9 42 (by decide) (by decide)).trans (hfh_220_42)
            have hfk_9_43 : z_9[43]? = some (.ref qf43) := (hre_9 43 (by decide) (by decide)).trans (hfh_220_43)
            have hfk_9_44 : z_9[44]? = some (.ref qf44) := (hre_9 44 (by decide) (by decide)).trans (hfh_220_44)
            have hrq_9 : ∀ j : Nat, j ≠ 10 → j ≠ 9 → z_9[j]? = zs[j]? := fun j g10 g9 => (hre_9 j g10 g9).trans (hrh_220 j g10 g9)
            refine lv_iinc (v := (l1_220 + 1)) (lv' := [(1, .int (l1_220 + 1)), (0, .ref h0)]) hx hb dX13_heads_249 hl (k := 0) rfl rfl (by decide) rfl (fun ls hl => ?_)
            refine lv_goto (tgt := 220) hx hb dX13_heads_252 (by decide) ?_
            exact ih_220 H locs ls z_9 (l1_220 + 1) g27_220 g35_220 g44_220 u9_0 u9_1 (hfk_9_2) (hfk_9_5) (hfk_9_6) (hch_9_9) (hch_9_10) (hfk_9_24) (hfk_9_25) (hfk_9_26) (hfk_9_27) (hfk_9_28) (hfk_9_29) (hfk_9_30) (hfk_9_31) (hfk_9_32) (hfk_9_33) (hfk_9_34) (hfk_9_35) (hfk_9_36) (hfk_9_37) (hfk_9_40) (hfk_9_41) (hfk_9_42) (hfk_9_43) (hfk_9_44) hln_9 hrq_9 (lv_sub hl [0, 1] rfl) hS (hD.sub (ws' := [(h0, .inr (13, z_9)), (qf25, .inl (cf25, 400, .inl f25)), (qf5, .inl (cf5, 3002, .inl f5)), (qf6, .inl (cf6, 3002, .inl f6)), (qf2, .inl (cf2, 3000, .inl f2)), (qf27, .inl (cf27, 400, .inl g27_220)), (qf26, .inl (cf26, 400, .inl f26)), (qf31, .inl (cf31, 800, .inl f31)), (qf32, .inl (cf32, 800, .inl f32)), (qf33, .inl (cf33, 800, .inl f33)), (qf35, .inl (cf35, 800, .inl g35_220)), (qf34, .inl (cf34, 800, .inl f34)), (qf29, .inl (cf29, 800, .inl f29)), (qf30, .inl (cf30, 800, .inl f30)), (qf37, .inl (cf37, 800, .inl f37)), (qf36, .inl (cf36, 800, .inl f36)), (qf40, .inl (cf40, 1500, .inl f40)), (qf41, .inl (cf41, 1500, .inl f41)), (qf42, .inl (cf42, 1500, .inl f42)), (qf44, .inl (cf44, 1500, .inl g44_220)), (qf43, .inl (cf43, 1500, .inl f43))]) [9, 0, 15, 14, 16, 11, 1, 2, 3, 4, 17, 12, 10, 13, 18, 19, 5, 6, 7, 20, 8] (by decide) rfl) (hP.sub (ws' := [(h0, .inr (13, z_9)), (qf25, .inl (cf25, 400, .inl f25)), (qf5, .inl (cf5, 3002, .inl f5)), (qf6, .inl (cf6, 3002, .inl f6)), (qf2, .inl (cf2, 3000, .inl f2)), (qf27, .inl (cf27, 400, .inl g27_220)), (qf26, .inl (cf26, 400, .inl f26)), (qf31, .inl (cf31, 800, .inl f31)), (qf32, .inl (cf32, 800, .inl f32)), (qf33, .inl (cf33, 800, .inl f33)), (qf35, .inl (cf35, 800, .inl g35_220)), (qf34, .inl (cf34, 800, .inl f34)), (qf29, .inl (cf29, 800, .inl f29)), (qf30, .inl (cf30, 800, .inl f30)), (qf37, .inl (cf37, 800, .inl f37)), (qf36, .inl (cf36, 800, .inl f36)), (qf40, .inl (cf40, 1500, .inl f40)), (qf41, .inl (cf41, 1500, .inl f41)), (qf42, .inl (cf42, 1500, .inl f42)), (qf44, .inl (cf44, 1500, .inl g44_220)), (qf43, .inl (cf43, 1500, .inl f43))]) [9, 0, 15, 14, 16, 11, 1, 2, 3, 4, 17, 12, 10, 13, 18, 19, 5, 6, 7, 20, 8] rfl) hsp
  intro hj_218
  refine jn_use (α := Heap × List Loc × Array Slot × List Value × (Nat → Int32) × (Nat → Int32) × (Nat → Int32) × Int32 × Int32) (fun x9 => x9.1) (fun x9 => x9.2.1) (fun x9 => F0 m 190 x9.2.2.1 []) (fun x9 => match x9 with | (H, locs, ls, z190, g27_190, g35_190, g44_190, x10_190, x9_190) => lv_has ls 4 [(0, .ref h0)] ∧ va_S A s.heap H locs ∧ va_D A [(h0, .inr (13, z190)), (qf25, .inl (cf25, 400, .inl f25)), (qf5, .inl (cf5, 3002, .inl f5)), (qf6, .inl (cf6, 3002, .inl f6)), (qf2, .inl (cf2, 3000, .inl f2)), (qf27, .inl (cf27, 400, .inl g27_190)), (qf26, .inl (cf26, 400, .inl f26)), (qf31, .inl (cf31, 800, .inl f31)), (qf32, .inl (cf32, 800, .inl f32)), (qf33, .inl (cf33, 800, .inl f33)), (qf35, .inl (cf35, 800, .inl g35_190)), (qf34, .inl (cf34, 800, .inl f34)), (qf29, .inl (cf29, 800, .inl f29)), (qf30, .inl (cf30, 800, .inl f30)), (qf37, .inl (cf37, 800, .inl f37)), (qf36, .inl (cf36, 800, .inl f36)), (qf40, .inl (cf40, 1500, .inl f40)), (qf41, .inl (cf41, 1500, .inl f41)), (qf42, .inl (cf42, 1500, .inl f42)), (qf44, .inl (cf44, 1500, .inl g44_190)), (qf43, .inl (cf43, 1500, .inl f43))] ∧ va_P (dC, dI) vwCl [(h0, .inr (13, z190)), (qf25, .inl (cf25, 400, .inl f25)), (qf5, .inl (cf5, 3002, .inl f5)), (qf6, .inl (cf6, 3002, .inl f6)), (qf2, .inl (cf2, 3000, .inl f2)), (qf27, .inl (cf27, 400, .inl g27_190)), (qf26, .inl (cf26, 400, .inl f26)), (qf31, .inl (cf31, 800, .inl f31)), (qf32, .inl (cf32, 800, .inl f32)), (qf33, .inl (cf33, 800, .inl f33)), (qf35, .inl (cf35, 800, .inl g35_190)), (qf34, .inl (cf34, 800, .inl f34)), (qf29, .inl (cf29, 800, .inl f29)), (qf30, .inl (cf30, 800, .inl f30)), (qf37, .inl (cf37, 800, .inl f37)), (qf36, .inl (cf36, 800, .inl f36)), (qf40, .inl (cf40, 1500, .inl f40)), (qf41, .inl (cf41, 1500, .inl f41)), (qf42, .inl (cf42, 1500, .inl f42)), (qf44, .inl (cf44, 1500, .inl g44_190)), (qf43, .inl (cf43, 1500, .inl f43))] H ∧ z190[2]? = some (.ref qf2) ∧ z190[5]? = some (.ref qf5) ∧ z190[6]? = some (.ref qf6) ∧ z190[9]? = some (.int x9_190) ∧ z190[10]? = some (.int x10_190) ∧ z190[24]? = some (.int v24) ∧ z190[25]? = some (.ref qf25) ∧ z190[26]? = some (.ref qf26) ∧ z190[27]? = some (.ref qf27) ∧ z190[28]? = some (.int v28) ∧ z190[29]? = some (.ref qf29) ∧ z190[30]? = some (.ref qf30) ∧ z190[31]? = some (.ref qf31) ∧ z190[32]? = some (.ref qf32) ∧ z190[33]? = some (.ref qf33) ∧ z190[34]? = some (.ref qf34) ∧ z190[35]? = some (.ref qf35) ∧ z190[36]? = some (.ref qf36) ∧ z190[37]? = some (.ref qf37) ∧ z190[40]? = some (.ref qf40) ∧ z190[41]? = some (.ref qf41) ∧ z190[42]? = some (.ref qf42) ∧ z190[43]? = some (.ref qf43) ∧ z190[44]? = some (.ref qf44) ∧ z190.length = 155 ∧ (∀ j : Nat, j ≠ 10 → j ≠ 9 → z190[j]? = zs[j]?) ∧ jn_vm_heads_190 nf v9 v10 v24 v28 f25 f5 f6 f2 f27 f26 f31 f32 f33 f35 f34 f29 f30 f37 f36 f40 f41 f42 f44 f43 nS477 fS477 g27_190 g35_190 g44_190 x10_190 x9_190 = some (o27, o35, o44, w10, w9)) ?_ ?_
  · intro x9 hJ9
    obtain ⟨H, locs, ls, z190, g27_190, g35_190, g44_190, x10_190, x9_190⟩ := x9
    obtain ⟨hl, hS, hD, hP, hfh_190_2, hfh_190_5, hfh_190_6, hfh_190_9, hfh_190_10, hfh_190_24, hfh_190_25, hfh_190_26, hfh_190_27, hfh_190_28, hfh_190_29, hfh_190_30, hfh_190_31, hfh_190_32, hfh_190_33, hfh_190_34, hfh_190_35, hfh_190_36, hfh_190_37, hfh_190_40, hfh_190_41, hfh_190_42, hfh_190_43, hfh_190_44, hlh_190, hrh_190, hsp⟩ := hJ9
    replace hl : lv_has ls 4 [(0, .ref h0)] := hl
    replace hS : va_S A s.heap H locs := hS
    replace hD : va_D A [(h0, .inr (13, z190)), (qf25, .inl (cf25, 400, .inl f25)), (qf5, .inl (cf5, 3002, .inl f5)), (qf6, .inl (cf6, 3002, .inl f6)), (qf2, .inl (cf2, 3000, .inl f2)), (qf27, .inl (cf27, 400, .inl g27_190)), (qf26, .inl (cf26, 400, .inl f26)), (qf31, .inl (cf31, 800, .inl f31)), (qf32, .inl (cf32, 800, .inl f32)), (qf33, .inl (cf33, 800, .inl f33)), (qf35, .inl (cf35, 800, .inl g35_190)), (qf34, .inl (cf34, 800, .inl f34)), (qf29, .inl (cf29, 800, .inl f29)), (qf30, .inl (cf30, 800, .inl f30)), (qf37, .inl (cf37, 800, .inl f37)), (qf36, .inl (cf36, 800, .inl f36)), (qf40, .inl (cf40, 1500, .inl f40)), (qf41, .inl (cf41, 1500, .inl f41)), (qf42, .inl (cf42, 1500, .inl f42)), (qf44, .inl (cf44, 1500, .inl g44_190)), (qf43, .inl (cf43, 1500, .inl f43))] := hD
    replace hP : va_P (dC, dI) vwCl [(h0, .inr (13, z190)), (qf25, .inl (cf25, 400, .inl f25)), (qf5, .inl (cf5, 3002, .inl f5)), (qf6, .inl (cf6, 3002, .inl f6)), (qf2, .inl (cf2, 3000, .inl f2)), (qf27, .inl (cf27, 400, .inl g27_190)), (qf26, .inl (cf26, 400, .inl f26)), (qf31, .inl (cf31, 800, .inl f31)), (qf32, .inl (cf32, 800, .inl f32)), (qf33, .inl (cf33, 800, .inl f33)), (qf35, .inl (cf35, 800, .inl g35_190)), (qf34, .inl (cf34, 800, .inl f34)), (qf29, .inl (cf29, 800, .inl f29)), (qf30, .inl (cf30, 800, .inl f30)), (qf37, .inl (cf37, 800, .inl f37)), (qf36, .inl (cf36, 800, .inl f36)), (qf40, .inl (cf40, 1500, .inl f40)), (qf41, .inl (cf41, 1500, .inl f41)), (qf42, .inl (cf42, 1500, .inl f42)), (qf44, .inl (cf44, 1500, .inl g44_190)), (qf43, .inl (cf43, 1500, .inl f43))] H := hP
    replace hsp : jn_vm_heads_190 nf v9 v10 v24 v28 f25 f5 f6 f2 f27 f26 f31 f32 f33 f35 f34 f29 f30 f37 f36 f40 f41 f42 f44 f43 nS477 fS477 g27_190 g35_190 g44_190 x10_190 x9_190 = some (o27, o35, o44, w10, w9) := hsp
    show W _ _ _ _ _ _ _ _ _ _ H locs _ _ _ (F0 m 190 ls [])
    unfold jn_vm_heads_190 at hsp
    try dsimp only at hsp
    refine lv_iconst (v := 0) hx hb dX13_heads_190 (by decide) ?_
    refine lv_istore_n (lv' := [(1, .int 0), (0, .ref h0)]) hx hb dX13_heads_191 rfl hl (by decide) rfl (fun ls hl => ?_)
    replace hl : lv_has ls 4 [(1, .int 0), (0, .ref h0)] := lv_sub hl [0, 1] rfl
    replace hP := hP.sub (ws' := [(h0, .inr (13, z190)), (qf25, .inl (cf25, 400, .inl f25)), (qf5, .inl (cf5, 3002, .inl f5)), (qf6, .inl (cf6, 3002, .inl f6)), (qf2, .inl (cf2, 3000, .inl f2)), (qf27, .inl (cf27, 400, .inl g27_190)), (qf26, .inl (cf26, 400, .inl f26)), (qf31, .inl (cf31, 800, .inl f31)), (qf32, .inl (cf32, 800, .inl f32)), (qf33, .inl (cf33, 800, .inl f33)), (qf35, .inl (cf35, 800, .inl g35_190)), (qf34, .inl (cf34, 800, .inl f34)), (qf29, .inl (cf29, 800, .inl f29)), (qf30, .inl (cf30, 800, .inl f30)), (qf37, .inl (cf37, 800, .inl f37)), (qf36, .inl (cf36, 800, .inl f36)), (qf40, .inl (cf40, 1500, .inl f40)), (qf41, .inl (cf41, 1500, .inl f41)), (qf42, .inl (cf42, 1500, .inl f42)), (qf44, .inl (cf44, 1500, .inl g44_190)), (qf43, .inl (cf43, 1500, .inl f43))]) [0, 1, 2, 3, 4, 5, 6, 7, 8, 9, 10, 11, 12, 13, 14, 15, 16, 17, 18, 19, 20] rfl
    replace hD := hD.sub (ws' := [(h0, .inr (13, z190)), (qf25, .inl (cf25, 400, .inl f25)), (qf5, .inl (cf5, 3002, .inl f5)), (qf6, .inl (cf6, 3002, .inl f6)), (qf2, .inl (cf2, 3000, .inl f2)), (qf27, .inl (cf27, 400, .inl g27_190)), (qf26, .inl (cf26, 400, .inl f26)), (qf31, .inl (cf31, 800, .inl f31)), (qf32, .inl (cf32, 800, .inl f32)), (qf33, .inl (cf33, 800, .inl f33)), (qf35, .inl (cf35, 800, .inl g35_190)), (qf34, .inl (cf34, 800, .inl f34)), (qf29, .inl (cf29, 800, .inl f29)), (qf30, .inl (cf30, 800, .inl f30)), (qf37, .inl (cf37, 800, .inl f37)), (qf36, .inl (cf36, 800, .inl f36)), (qf40, .inl (cf40, 1500, .inl f40)), (qf41, .inl (cf41, 1500, .inl f41)), (qf42, .inl (cf42, 1500, .inl f42)), (qf44, .inl (cf44, 1500, .inl g44_190)), (qf43, .inl (cf43, 1500, .inl f43))]) [0, 1, 2, 3, 4, 5, 6, 7, 8, 9, 10, 11, 12, 13, 14, 15, 16, 17, 18, 19, 20] (by decide) rfl
    replace hK := hK.sub (tys' := [(cf25, .int), (cf5, .int), (cf6, .int), (cf2, .int), (cf27, .int), (cf26, .int), (cf31, .int), (cf32, .int), (cf33, .boolean), (cf35, .int), (cf34, .int), (cf29, .int), (cf30, .int), (cf37, .int), (cf36, .int), (cf40, .int), (cf41, .int), (cf42, .boolean), (cf44, .int), (cf43, .int)]) [0, 1, 2, 3, 4, 5, 6, 7, 8, 9, 10, 11, 12, 13, 14, 15, 16, 17, 18, 19] rfl
    obtain ⟨n_192, hn_192⟩ : ∃ z : Nat, z = nf := ⟨_, rfl⟩
    obtain ⟨l1_192, el1_192⟩ : ∃ z : Int32, z = 0 := ⟨_, rfl⟩
    obtain ⟨g27_192, eg27_192⟩ : ∃ z : Nat → Int32, z = g27_190 := ⟨_, rfl⟩
    obtain ⟨g35_192, eg35_192⟩ : ∃ z : Nat → Int32, z = g35_190 := ⟨_, rfl⟩
    obtain ⟨g44_192, eg44_192⟩ : ∃ z : Nat → Int32, z = g44_190 := ⟨_, rfl⟩
    obtain ⟨x10_192, ex10_192⟩ : ∃ z : Int32, z = x10_190 := ⟨_, rfl⟩
    obtain ⟨x9_192, ex9_192⟩ : ∃ z : Int32, z = x9_190 := ⟨_, rfl⟩
    replace hsp : lp_vm_heads_192 nf n_192 v9 v10 v24 v28 f25 f5 f6 f2 f27 f26 f31 f32 f33 f35 f34 f29 f30 f37 f36 f40 f41 f42 f44 f43 nS477 fS477 l1_192 g27_192 g35_192 g44_192 x10_192 x9_192 = some (o27, o35, o44, w10, w9) := by rw [hn_192, el1_192, eg27_192, eg35_192, eg44_192, ex10_192, ex9_192]; exact hsp
    replace hl : lv_has ls 4 [(1, .int l1_192), (0, .ref h0)] := by rw [el1_192]; exact hl
    obtain ⟨z192, ez192⟩ : ∃ z : List Value, z = z190 := ⟨_, rfl⟩
    have hfh_192_2 : z192[2]? = some (.ref qf2) := by rw [ez192]; exact hfh_190_2
    have hfh_192_5 : z192[5]? = some (.ref qf5) := by rw [ez192]; exact hfh_190_5
    have hfh_192_6 : z192[6]? = some (.ref qf6) := by rw [ez192]; exact hfh_190_6
    have hfh_192_9 : z192[9]? = some (.int x9_192) := by rw [ez192, ex9_192]; exact hfh_190_9
    have hfh_192_10 : z192[10]? = some (.int x10_192) := by rw [ez192, ex10_192]; exact hfh_190_10
    have hfh_192_24 : z192[24]? = some (.int v24) := by rw [ez192]; exact hfh_190_24
    have hfh_192_25 : z192[25]? = some (.ref qf25) := by rw [ez192]; exact hfh_190_25
    have hfh_192_26 : z192[26]? = some (.ref qf26) := by rw [ez192]; exact hfh_190_26
    have hfh_192_27 : z192[27]? = some (.ref qf27) := by rw [ez192]; exact hfh_190_27
    have hfh_192_28 : z192[28]? = some (.int v28) := by rw [ez192]; exact hfh_190_28
    have hfh_192_29 : z192[29]? = some (.ref qf29) := by rw [ez192]; exact hfh_190_29
    have hfh_192_30 : z192[30]? = some (.ref qf30) := by rw [ez192]; exact hfh_190_30
    have hfh_192_31 : z192[31]? = some (.ref qf31) := by rw [ez192]; exact hfh_190_31
    have hfh_192_32 : z192[32]? = some (.ref qf32) := by rw [ez192]; exact hfh_190_32
    have hfh_192_33 : z192[33]? = some (.ref qf33) := by rw [ez192]; exact hfh_190_33
    have hfh_192_34 : z192[34]? = some (.ref qf34) := by rw [ez192]; exact hfh_190_34
    have hfh_192_35 : z192[35]? = some (.ref qf35) := by rw [ez192]; exact hfh_190_35
    have hfh_192_36 : z192[36]? = some (.ref qf36) := by rw [ez192]; exact hfh_190_36
    have hfh_192_37 : z192[37]? = some (.ref qf37) := by rw [ez192]; exact hfh_190_37
    have hfh_192_40 : z192[40]? = some (.ref qf40) := by rw [ez192]; exact hfh_190_40
    have hfh_192_41 : z192[41]? = some (.ref qf41) := by rw [ez192]; exact hfh_190_41
    have hfh_192_42 : z192[42]? = some (.ref qf42) := by rw [ez192]; exact hfh_190_42
    have hfh_192_43 : z192[43]? = some (.ref qf43) := by rw [ez192]; exact hfh_190_43
    have hfh_192_44 : z192[44]? = some (.ref qf44) := by rw [ez192]; exact hfh_190_44
    have hlh_192 : z192.length = 155 := by rw [ez192]; exact hlh_190
    have hrh_192 : ∀ j : Nat, j ≠ 10 → j ≠ 9 → z192[j]? = zs[j]? := by rw [ez192]; exact hrh_190
    replace hP : va_P (dC, dI) vwCl [(h0, .inr (13, z192)), (qf25, .inl (cf25, 400, .inl f25)), (qf5, .inl (cf5, 3002, .inl f5)), (qf6, .inl (cf6, 3002, .inl f6)), (qf2, .inl (cf2, 3000, .inl f2)), (qf27, .inl (cf27, 400, .inl g27_192)), (qf26, .inl (cf26, 400, .inl f26)), (qf31, .inl (cf31, 800, .inl f31)), (qf32, .inl (cf32, 800, .inl f32)), (qf33, .inl (cf33, 800, .inl f33)), (qf35, .inl (cf35, 800, .inl g35_192)), (qf34, .inl (cf34, 800, .inl f34)), (qf29, .inl (cf29, 800, .inl f29)), (qf30, .inl (cf30, 800, .inl f30)), (qf37, .inl (cf37, 800, .inl f37)), (qf36, .inl (cf36, 800, .inl f36)), (qf40, .inl (cf40, 1500, .inl f40)), (qf41, .inl (cf41, 1500, .inl f41)), (qf42, .inl (cf42, 1500, .inl f42)), (qf44, .inl (cf44, 1500, .inl g44_192)), (qf43, .inl (cf43, 1500, .inl f43))] H := by rw [ez192, eg27_192, eg35_192, eg44_192]; exact hP
    replace hD : va_D A [(h0, .inr (13, z192)), (qf25, .inl (cf25, 400, .inl f25)), (qf5, .inl (cf5, 3002, .inl f5)), (qf6, .inl (cf6, 3002, .inl f6)), (qf2, .inl (cf2, 3000, .inl f2)), (qf27, .inl (cf27, 400, .inl g27_192)), (qf26, .inl (cf26, 400, .inl f26)), (qf31, .inl (cf31, 800, .inl f31)), (qf32, .inl (cf32, 800, .inl f32)), (qf33, .inl (cf33, 800, .inl f33)), (qf35, .inl (cf35, 800, .inl g35_192)), (qf34, .inl (cf34, 800, .inl f34)), (qf29, .inl (cf29, 800, .inl f29)), (qf30, .inl (cf30, 800, .inl f30)), (qf37, .inl (cf37, 800, .inl f37)), (qf36, .inl (cf36, 800, .inl f36)), (qf40, .inl (cf40, 1500, .inl f40)), (qf41, .inl (cf41, 1500, .inl f41)), (qf42, .inl (cf42, 1500, .inl f42)), (qf44, .inl (cf44, 1500, .inl g44_192)), (qf43, .inl (cf43, 1500, .inl f43))] := by rw [ez192, eg27_192, eg35_192, eg44_192]; exact hD
    clear hn_192 ez192 el1_192 eg27_192 eg35_192 eg44_192 ex10_192 ex9_192
    try clear hlo
    try clear hH
    revert hsp
    revert hP
    revert hD
    revert hS
    revert hl
    revert hrh_192
    revert hlh_192
    revert hfh_192_44
    revert hfh_192_43
    revert hfh_192_42
    revert hfh_192_41
    revert hfh_192_40
    revert hfh_192_37
    revert hfh_192_36
    revert hfh_192_35
    revert hfh_192_34
    revert hfh_192_33
    revert hfh_192_32
    revert hfh_192_31
    revert hfh_192_30
    revert hfh_192_29
    revert hfh_192_28
    revert hfh_192_27
    revert hfh_192_26
    revert hfh_192_25
    revert hfh_192_24
    revert hfh_192_10
    revert hfh_192_9
    revert hfh_192_6
    revert hfh_192_5
    revert hfh_192_2
    revert x9_192
    revert x10_192
    revert g44_192
    revert g35_192
    revert g27_192
    revert l1_192
    revert z192
    revert ls
    revert locs
    revert H
    induction n_192 with
    | zero => intro H locs ls z192 l1_192 g27_192 g35_192 g44_192 x10_192 x9_192 hfh_192_2 hfh_192_5 hfh_192_6 hfh_192_9 hfh_192_10 hfh_192_24 hfh_192_25 hfh_192_26 hfh_192_27 hfh_192_28 hfh_192_29 hfh_192_30 hfh_192_31 hfh_192_32 hfh_192_33 hfh_192_34 hfh_192_35 hfh_192_36 hfh_192_37 hfh_192_40 hfh_192_41 hfh_192_42 hfh_192_43 hfh_192_44 hlh_192 hrh_192 hl hS hD hP hsp; unfold lp_vm_heads_192 at hsp; cases hsp
    | succ n_192 ih_192 =>
      intro H locs ls z192 l1_192 g27_192 g35_192 g44_192 x10_192 x9_192 hfh_192_2 hfh_192_5 hfh_192_6 hfh_192_9 hfh_192_10 hfh_192_24 hfh_192_25 hfh_192_26 hfh_192_27 hfh_192_28 hfh_192_29 hfh_192_30 hfh_192_31 hfh_192_32 hfh_192_33 hfh_192_34 hfh_192_35 hfh_192_36 hfh_192_37 hfh_192_40 hfh_192_41 hfh_192_42 hfh_192_43 hfh_192_44 hlh_192 hrh_192 hl hS hD hP hsp
      unfold lp_vm_heads_192 at hsp
      try dsimp only at hsp
      refine lv_iload_n hx hb dX13_heads_192 rfl (lv_at hl 0 rfl) ?_
      refine lv_aload_n hx hb dX13_heads_193 rfl (lv_at hl 1 rfl) ?_
      refine va_get (D := (dC, dI)) (ci := 13) (v := .int v28) (C := RX13) (T := TX13) (N := 155) hx hb hts uV_h9_X13 hown hK hP 0 rfl rfl 28 (by decide) (hts (.fieldLink RX13 412 "ClassMillModel" "members" "I") mw_h9_400) (fun _ h9 => h9) hfh_192_28 dX13_heads_194 ?_
      refine lv_icmp_ge (tgt := 218) hx hb dX13_heads_197 (by decide) (fun c_24 => ?_) (fun c_24 => ?_)
      · rw [if_pos c_24] at hsp
        exact hj_218 (H, locs, ls, z192, g27_192, g35_192, g44_192, x10_192, x9_192) ⟨lv_sub hl [1] rfl, hS, hD.sub (ws' := [(h0, .inr (13, z192)), (qf25, .inl (cf25, 400, .inl f25)), (qf5, .inl (cf5, 3002, .inl f5)), (qf6, .inl (cf6, 3002, .inl f6)), (qf2, .inl (cf2, 3000, .inl f2)), (qf27, .inl (cf27, 400, .inl g27_192)), (qf26, .inl (cf26, 400, .inl f26)), (qf31, .inl (cf31, 800, .inl f31)), (qf32, .inl (cf32, 800, .inl f32)), (qf33, .inl (cf33, 800, .inl f33)), (qf35, .inl (cf35, 800, .inl g35_192)), (qf34, .inl (cf34, 800, .inl f34)), (qf29, .inl (cf29, 800, .inl f29)), (qf30, .inl (cf30, 800, .inl f30)), (qf37, .inl (cf37, 800, .inl f37)), (qf36, .inl (cf36, 800, .inl f36)), (qf40, .inl (cf40, 1500, .inl f40)), (qf41, .inl (cf41, 1500, .inl f41)), (qf42, .inl (cf42, 1500, .inl f42)), (qf44, .inl (cf44, 1500, .inl g44_192)), (qf43, .inl (cf43, 1500, .inl f43))]) [0, 1, 2, 3, 4, 5, 6, 7, 8, 9, 10, 11, 12, 13, 14, 15, 16, 17, 18, 19, 20] (by decide) rfl, hP.sub (ws' := [(h0, .inr (13, z192)), (qf25, .inl (cf25, 400, .inl f25)), (qf5, .inl (cf5, 3002, .inl f5)), (qf6, .inl (cf6, 3002, .inl f6)), (qf2, .inl (cf2, 3000, .inl f2)), (qf27, .inl (cf27, 400, .inl g27_192)), (qf26, .inl (cf26, 400, .inl f26)), (qf31, .inl (cf31, 800, .inl f31)), (qf32, .inl (cf32, 800, .inl f32)), (qf33, .inl (cf33, 800, .inl f33)), (qf35, .inl (cf35, 800, .inl g35_192)), (qf34, .inl (cf34, 800, .inl f34)), (qf29, .inl (cf29, 800, .inl f29)), (qf30, .inl (cf30, 800, .inl f30)), (qf37, .inl (cf37, 800, .inl f37)), (qf36, .inl (cf36, 800, .inl f36)), (qf40, .inl (cf40, 1500, .inl f40)), (qf41, .inl (cf41, 1500, .inl f41)), (qf42, .inl (cf42, 1500, .inl f42)), (qf44, .inl (cf44, 1500, .inl g44_192)), (qf43, .inl (cf43, 1500, .inl f43))]) [0, 1, 2, 3, 4, 5, 6, 7, 8, 9, 10, 11, 12, 13, 14, 15, 16, 17, 18, 19, 20] rfl, hfh_192_2, hfh_192_5, hfh_192_6, hfh_192_9, hfh_192_10, hfh_192_24, hfh_192_25, hfh_192_26, hfh_192_27, hfh_192_28, hfh_192_29, hfh_192_30, hfh_192_31, hfh_192_32, hfh_192_33, hfh_192_34, hfh_192_35, hfh_192_36, hfh_192_37, hfh_192_40, hfh_192_41, hfh_192_42, hfh_192_43, hfh_192_44, hlh_192, hrh_192, hsp⟩
      · rw [if_neg c_24] at hsp
        refine lv_aload_n hx hb dX13_heads_200 rfl (lv_at hl 1 rfl) ?_
        refine va_get (D := (dC, dI)) (ci := 13) (v := .int x9_192) (C := RX13) (T := TX13) (N := 155) hx hb hts uV_h9_X13 hown hK hP 0 rfl rfl 9 (by decide) (hts (.fieldLink RX13 319 "ClassMillModel" "fault" "I") mw_h9_66) (fun _ h9 => h9) hfh_192_9 dX13_heads_201 ?_
        refine lv_if_ne (tgt := 218) hx hb dX13_heads_204 (by decide) (fun c_25 => ?_) (fun c_25 => ?_)
        · rw [if_neg c_25] at hsp
          exact hj_218 (H, locs, ls, z192, g27_192, g35_192, g44_192, x10_192, x9_192) ⟨lv_sub hl [1] rfl, hS, hD.sub (ws' := [(h0, .inr (13, z192)), (qf25, .inl (cf25, 400, .inl f25)), (qf5, .inl (cf5, 3002, .inl f5)), (qf6, .inl (cf6, 3002, .inl f6)), (qf2, .inl (cf2, 3000, .inl f2)), (qf27, .inl (cf27, 400, .inl g27_192)), (qf26, .inl (cf26, 400, .inl f26)), (qf31, .inl (cf31, 800, .inl f31)), (qf32, .inl (cf32, 800, .inl f32)), (qf33, .inl (cf33, 800, .inl f33)), (qf35, .inl (cf35, 800, .inl g35_192)), (qf34, .inl (cf34, 800, .inl f34)), (qf29, .inl (cf29, 800, .inl f29)), (qf30, .inl (cf30, 800, .inl f30)), (qf37, .inl (cf37, 800, .inl f37)), (qf36, .inl (cf36, 800, .inl f36)), (qf40, .inl (cf40, 1500, .inl f40)), (qf41, .inl (cf41, 1500, .inl f41)), (qf42, .inl (cf42, 1500, .inl f42)), (qf44, .inl (cf44, 1500, .inl g44_192)), (qf43, .inl (cf43, 1500, .inl f43))]) [0, 1, 2, 3, 4, 5, 6, 7, 8, 9, 10, 11, 12, 13, 14, 15, 16, 17, 18, 19, 20] (by decide) rfl, hP.sub (ws' := [(h0, .inr (13, z192)), (qf25, .inl (cf25, 400, .inl f25)), (qf5, .inl (cf5, 3002, .inl f5)), (qf6, .inl (cf6, 3002, .inl f6)), (qf2, .inl (cf2, 3000, .inl f2)), (qf27, .inl (cf27, 400, .inl g27_192)), (qf26, .inl (cf26, 400, .inl f26)), (qf31, .inl (cf31, 800, .inl f31)), (qf32, .inl (cf32, 800, .inl f32)), (qf33, .inl (cf33, 800, .inl f33)), (qf35, .inl (cf35, 800, .inl g35_192)), (qf34, .inl (cf34, 800, .inl f34)), (qf29, .inl (cf29, 800, .inl f29)), (qf30, .inl (cf30, 800, .inl f30)), (qf37, .inl (cf37, 800, .inl f37)), (qf36, .inl (cf36, 800, .inl f36)), (qf40, .inl (cf40, 1500, .inl f40)), (qf41, .inl (cf41, 1500, .inl f41)), (qf42, .inl (cf42, 1500, .inl f42)), (qf44, .inl (cf44, 1500, .inl g44_192)), (qf43, .inl (cf43, 1500, .inl f43))]) [0, 1, 2, 3, 4, 5, 6, 7, 8, 9, 10, 11, 12, 13, 14, 15, 16, 17, 18, 19, 20] rfl, hfh_192_2, hfh_192_5, hfh_192_6, hfh_192_9, hfh_192_10, hfh_192_24, hfh_192_25, hfh_192_26, hfh_192_27, hfh_192_28, hfh_192_29, hfh_192_30, hfh_192_31, hfh_192_32, hfh_192_33, hfh_192_34, hfh_192_35, hfh_192_36, hfh_192_37, hfh_192_40, hfh_192_41, hfh_192_42, hfh_192_43, hfh_192_44, hlh_192, hrh_192, hsp⟩
        · rw [if_pos c_25] at hsp
          refine lv_aload_n hx hb dX13_heads_207 rfl (lv_at hl 1 rfl) ?_
          refine lv_iload_n hx hb dX13_heads_208 rfl (lv_at hl 0 rfl) ?_
          obtain ⟨⟨g908_0, g908_1, u8_2, u8_3⟩, hu_8, hsp⟩ := ox_bind hsp
          try dsimp only at hsp
          have hPc := hP.sub (ws' := [(h0, .inr (13, z192)), (qf31, .inl (cf31, 800, .inl f31)), (qf32, .inl (cf32, 800, .inl f32)), (qf33, .inl (cf33, 800, .inl f33)), (qf5, .inl (cf5, 3002, .inl f5)), (qf6, .inl (cf6, 3002, .inl f6)), (qf2, .inl (cf2, 3000, .inl f2)), (qf25, .inl (cf25, 400, .inl f25)), (qf35, .inl (cf35, 800, .inl g35_192)), (qf34, .inl (cf34, 800, .inl f34)), (qf29, .inl (cf29, 800, .inl f29)), (qf30, .inl (cf30, 800, .inl f30)), (qf37, .inl (cf37, 800, .inl f37)), (qf36, .inl (cf36, 800, .inl f36)), (qf40, .inl (cf40, 1500, .inl f40)), (qf41, .inl (cf41, 1500, .inl f41)), (qf42, .inl (cf42, 1500, .inl f42)), (qf44, .inl (cf44, 1500, .inl g44_192)), (qf43, .inl (cf43, 1500, .inl f43))]) [0, 7, 8, 9, 2, 3, 4, 1, 10, 11, 12, 13, 14, 15, 16, 17, 18, 19, 20] rfl
          have hDc := hD.sub (ws' := [(h0, .inr (13, z192)), (qf31, .inl (cf31, 800, .inl f31)), (qf32, .inl (cf32, 800, .inl f32)), (qf33, .inl (cf33, 800, .inl f33)), (qf5, .inl (cf5, 3002, .inl f5)), (qf6, .inl (cf6, 3002, .inl f6)), (qf2, .inl (cf2, 3000, .inl f2)), (qf25, .inl (cf25, 400, .inl f25)), (qf35, .inl (cf35, 800, .inl g35_192)), (qf34, .inl (cf34, 800, .inl f34)), (qf29, .inl (cf29, 800, .inl f29)), (qf30, .inl (cf30, 800, .inl f30)), (qf37, .inl (cf37, 800, .inl f37)), (qf36, .inl (cf36, 800, .inl f36)), (qf40, .inl (cf40, 1500, .inl f40)), (qf41, .inl (cf41, 1500, .inl f41)), (qf42, .inl (cf42, 1500, .inl f42)), (qf44, .inl (cf44, 1500, .inl g44_192)), (qf43, .inl (cf43, 1500, .inl f43))]) [0, 7, 8, 9, 2, 3, 4, 1, 10, 11, 12, 13, 14, 15, 16, 17, 18, 19, 20] (by decide) rfl
          have hKc := hK.sub (tys' := [(cf31, .int), (cf32, .int), (cf33, .boolean), (cf5, .int), (cf6, .int), (cf2, .int), (cf25, .int), (cf35, .int), (cf34, .int), (cf29, .int), (cf30, .int), (cf37, .int), (cf36, .int), (cf40, .int), (cf41, .int), (cf42, .boolean), (cf44, .int), (cf43, .int)]) [6, 7, 8, 1, 2, 3, 0, 9, 10, 11, 12, 13, 14, 15, 16, 17, 18, 19] rfl
          have hFc := va_free (wc := [(h0, .inr (13, z192)), (qf31, .inl (cf31, 800, .inl f31)), (qf32, .inl (cf32, 800, .inl f32)), (qf33, .inl (cf33, 800, .inl f33)), (qf5, .inl (cf5, 3002, .inl f5)), (qf6, .inl (cf6, 3002, .inl f6)), (qf2, .inl (cf2, 3000, .inl f2)), (qf25, .inl (cf25, 400, .inl f25)), (qf35, .inl (cf35, 800, .inl g35_192)), (qf34, .inl (cf34, 800, .inl f34)), (qf29, .inl (cf29, 800, .inl f29)), (qf30, .inl (cf30, 800, .inl f30)), (qf37, .inl (cf37, 800, .inl f37)), (qf36, .inl (cf36, 800, .inl f36)), (qf40, .inl (cf40, 1500, .inl f40)), (qf41, .inl (cf41, 1500, .inl f41)), (qf42, .inl (cf42, 1500, .inl f42)), (qf44, .inl (cf44, 1500, .inl g44_192)), (qf43, .inl (cf43, 1500, .inl f43))]) hD hS hA [0, 7, 8, 9, 2, 3, 4, 1, 10, 11, 12, 13, 14, 15, 16, 17, 18, 19, 20] rfl
          refine va_callv (va_runV (As := [.int l1_192]) (rest := []) ⟨hx, hb, hml, hown, hts⟩ (vm_memberHead l dC dI H.size h0 z192 l1_192 qf2 qf5 qf6 x9_192 x10_192 v24 qf25 qf29 qf30 qf31 qf32 qf33 qf34 qf35 qf36 qf37 qf40 qf41 qf42 qf43 qf44 cf31 f31 cf32 f32 cf33 f33 cf5 f5 cf6 f6 cf2 f2 cf25 f25 cf35 g35_192 cf34 f34 cf29 f29 cf30 f30 cf37 f37 cf36 f36 cf40 f40 cf41 f41 cf42 f42 cf44 g44_192 cf43 f43 nS477 fS477 hS477 qS477 tS477 nf g908_0 g908_1 u8_2 u8_3 hlh_192 hfh_192_2 hfh_192_5 hfh_192_6 hfh_192_9 hfh_192_10 hfh_192_24 hfh_192_25 hfh_192_29 hfh_192_30 hfh_192_31 hfh_192_32 hfh_192_33 hfh_192_34 hfh_192_35 hfh_192_36 hfh_192_37 hfh_192_40 hfh_192_41 hfh_192_42 hfh_192_43 hfh_192_44 hu_8) (cwV 1 hts gv_h9_77 rfl rfl rfl (by decide +kernel) ⟨Nat.le_of_ble_eq_true rfl, Nat.le_of_ble_eq_true rfl⟩) ⟨fun a U g mk q => by obtain ⟨q0, q1, qP, qK, qD, qhZWS477, qhZRS477⟩ := q; exact ⟨q0, q1, qP, va_K.moved (u := U) (U := U.calling g mk a) (Vm.Alike.refl U.vm) qK, qD, pz_W.moved (u := U) (U := U.calling g mk a) (Vm.Alike.refl U.vm) qhZWS477, vk_R.same rfl qhZRS477⟩, va_recv hKc hPc (ci := 13) (q0 := 0) rfl rfl, fun U hU hW => ⟨rfl, by rw [hU], by rw [hU]; exact hPc, va_K.moved hW.alike hKc, hDc.weaken (fun _ _ _ _ => trivial), by rw [hU]; exact ((pz_W.moved hW.alike hZWS477).kept hS.2.1).narrow hFc, vk_R.warm hW hZRS477⟩⟩ rfl rfl hl.1 rfl (lv_room (Nat.le_of_ble_eq_true rfl)) dX13_heads_209 ⟨Nat.le_of_ble_eq_true rfl, Nat.le_of_ble_eq_true rfl⟩) hS (fun q _ h => hFc q h) hFc ?_
          clear hS
          intro u t H1 locs ht hvm hw hB hz1 hk1 hS
          obtain ⟨z_8, rfl⟩ : ∃ z, z = u := ⟨_, rfl⟩
          obtain ⟨hP1, hK1, hD1⟩ := hB
          rw [ht] at hP1
          have hK1 := va_K.moved hvm.symm hK1
          try dsimp only at hw
          have hPD := va_join (wr := [(qf27, .inl (cf27, 400, .inl g27_192)), (qf26, .inl (cf26, 400, .inl f26))]) (w1 := [(h0, .inr (13, z_8)), (qf31, .inl (cf31, 800, .inl f31)), (qf32, .inl (cf32, 800, .inl f32)), (qf33, .inl (cf33, 800, .inl f33)), (qf5, .inl (cf5, 3002, .inl f5)), (qf6, .inl (cf6, 3002, .inl f6)), (qf2, .inl (cf2, 3000, .inl f2)), (qf25, .inl (cf25, 400, .inl f25)), (qf35, .inl (cf35, 800, .inl g908_0)), (qf34, .inl (cf34, 800, .inl f34)), (qf29, .inl (cf29, 800, .inl f29)), (qf30, .inl (cf30, 800, .inl f30)), (qf37, .inl (cf37, 800, .inl f37)), (qf36, .inl (cf36, 800, .inl f36)), (qf40, .inl (cf40, 1500, .inl f40)), (qf41, .inl (cf41, 1500, .inl f41)), (qf42, .inl (cf42, 1500, .inl f42)), (qf44, .inl (cf44, 1500, .inl g908_1)), (qf43, .inl (cf43, 1500, .inl f43))]) hP hD [0, 7, 8, 9, 2, 3, 4, 1, 10, 11, 12, 13, 14, 15, 16, 17, 18, 19, 20] [5, 6] rfl rfl (by decide) (by decide) hk1 hFc hP1 hD1
          clear hP hD
          obtain ⟨hP, hD⟩ := hPD
          replace hK := (hK.sub (tys' := [(cf27, .int), (cf26, .int)]) [4, 5] rfl).app hK1
          clear hPc hDc hKc hFc hP1 hK1 hD1 hz1 hk1 ht hvm
          generalize H1 = H at hP hS ⊢
          replace hP : va_P (dC, dI) vwCl [(qf27, .inl (cf27, 400, .inl g27_192)), (qf26, .inl (cf26, 400, .inl f26)), (h0, .inr (13, z_8)), (qf31, .inl (cf31, 800, .inl f31)), (qf32, .inl (cf32, 800, .inl f32)), (qf33, .inl (cf33, 800, .inl f33)), (qf5, .inl (cf5, 3002, .inl f5)), (qf6, .inl (cf6, 3002, .inl f6)), (qf2, .inl (cf2, 3000, .inl f2)), (qf25, .inl (cf25, 400, .inl f25)), (qf35, .inl (cf35, 800, .inl g908_0)), (qf34, .inl (cf34, 800, .inl f34)), (qf29, .inl (cf29, 800, .inl f29)), (qf30, .inl (cf30, 800, .inl f30)), (qf37, .inl (cf37, 800, .inl f37)), (qf36, .inl (cf36, 800, .inl f36)), (qf40, .inl (cf40, 1500, .inl f40)), (qf41, .inl (cf41, 1500, .inl f41)), (qf42, .inl (cf42, 1500, .inl f42)), (qf44, .inl (cf44, 1500, .inl g908_1)), (qf43, .inl (cf43, 1500, .inl f43))] H := hP
          replace hD : va_D A [(qf27, .inl (cf27, 400, .inl g27_192)), (qf26, .inl (cf26, 400, .inl f26)), (h0, .inr (13, z_8)), (qf31, .inl (cf31, 800, .inl f31)), (qf32, .inl (cf32, 800, .inl f32)), (qf33, .inl (cf33, 800, .inl f33)), (qf5, .inl (cf5, 3002, .inl f5)), (qf6, .inl (cf6, 3002, .inl f6)), (qf2, .inl (cf2, 3000, .inl f2)), (qf25, .inl (cf25, 400, .inl f25)), (qf35, .inl (cf35, 800, .inl g908_0)), (qf34, .inl (cf34, 800, .inl f34)), (qf29, .inl (cf29, 800, .inl f29)), (qf30, .inl (cf30, 800, .inl f30)), (qf37, .inl (cf37, 800, .inl f37)), (qf36, .inl (cf36, 800, .inl f36)), (qf40, .inl (cf40, 1500, .inl f40)), (qf41, .inl (cf41, 1500, .inl f41)), (qf42, .inl (cf42, 1500, .inl f42)), (qf44, .inl (cf44, 1500, .inl g908_1)), (qf43, .inl (cf43, 1500, .inl f43))] := hD
          replace hK : va_K (dC, dI) vwCl [(cf27, .int), (cf26, .int), (cf31, .int), (cf32, .int), (cf33, .boolean), (cf5, .int), (cf6, .int), (cf2, .int), (cf25, .int), (cf35, .int), (cf34, .int), (cf29, .int), (cf30, .int), (cf37, .int), (cf36, .int), (cf40, .int), (cf41, .int), (cf42, .boolean), (cf44, .int), (cf43, .int)] s := hK
          obtain ⟨hwa_8, hln_8, hre_8, hch_8_10, hch_8_9⟩ := hw
          have hfk_8_2 : z_8[2]? = some (.ref qf2) := (hre_8 2 (by decide) (by decide)).trans (hfh_192_2)
          have hfk_8_5 : z_8[5]? = some (.ref qf5) := (hre_8 5 (by decide) (by decide)).trans (hfh_192_5)
          have hfk_8_6 : z_8[6]? = some (.ref qf6) := (hre_8 6 (by decide) (by decide)).trans (hfh_192_6)
          have hfk_8_24 : z_8[24]? = some (.int v24) := (hre_8 24 (by decide) (by decide)).trans (hfh_192_24)
          have hfk_8_25 : z_8[25]? = some (.ref qf25) := (hre_8 25 (by decide) (by decide)).trans (hfh_192_25)
          have hfk_8_26 : z_8[26]? = some (.ref qf26) := (hre_8 26 (by decide) (by decide)).trans (hfh_192_26)
          have hfk_8_27 : z_8[27]? = some (.ref qf27) := (hre_8 27 (by decide) (by decide)).trans (hfh_192_27)
          have hfk_8_28 : z_8[28]? = some (.int v28) := (hre_8 28 (by decide) (by decide)).trans (hfh_192_28)
          have hfk_8_29 : z_8[29]? = some (.ref qf29) := (hre_8 29 (by decide) (by decide)).trans (hfh_192_29)
          have hfk_8_30 : z_8[30]? = some (.ref qf30) := (hre_8 30 (by decide) (by decide)).trans (hfh_192_30)
          have hfk_8_31 : z_8[31]? = some (.ref qf31) := (hre_8 31 (by decide) (by decide)).trans (hfh_192_31)
          have hfk_8_32 : z_8[32]? = some (.ref qf32) := (hre_8 32 (by decide) (by decide)).trans (hfh_192_32)
          have hfk_8_33 : z_8[33]? = some (.ref qf33) := (hre_8 33 (by decide) (by decide)).trans (hfh_192_33)
          have hfk_8_34 : z_8[34]? = some (.ref qf34) := (hre_8 34 (by decide) (by decide)).trans (hfh_192_34)
          have hfk_8_35 : z_8[35]? = some (.ref qf35) := (hre_8 35 (by decide) (by decide)).trans (hfh_192_35)
          have hfk_8_36 : z_8[36]? = some (.ref qf36) := (hre_8 36 (by decide) (by decide)).trans (hfh_192_36)
          have hfk_8_37 : z_8[37]? = some (.ref qf37) := (hre_8 37 (by decide) (by decide)).trans (hfh_192_37)
          have hfk_8_40 : z_8[40]? = some (.ref qf40) := (hre_8 40 (by decide) (by decide)).trans (hfh_192_40)
          have hfk_8_41 : z_8[41]? = some (.ref qf41) := (hre_8 41 (by decide) (by decide)).trans (hfh_192_41)
          have hfk_8_42 : z_8[42]? = some (.ref qf42) := (hre_8 42 (by decide) (by decide)).trans (hfh_192_42)
          have hfk_8_43 : z_8[43]? = some (.ref qf43) := (hre_8 43 (by decide) (by decide)).trans (hfh_192_43)
          have hfk_8_44 : z_8[44]? = some (.ref qf44) := (hre_8 44 (by decide) (by decide)).trans (hfh_192_44)
          have hrq_8 : ∀ j : Nat, j ≠ 10 → j ≠ 9 → z_8[j]? = zs[j]? := fun j g10 g9 => (hre_8 j g10 g9).trans (hrh_192 j g10 g9)
          refine lv_iinc (v := (l1_192 + 1)) (lv' := [(1, .int (l1_192 + 1)), (0, .ref h0)]) hx hb dX13_heads_212 hl (k := 0) rfl rfl (by decide) rfl (fun ls hl => ?_)
          refine lv_goto (tgt := 192) hx hb dX13_heads_215 (by decide) ?_
          exact ih_192 H locs ls z_8 (l1_192 + 1) g27_192 g908_0 g908_1 u8_2 u8_3 (hfk_8_2) (hfk_8_5) (hfk_8_6) (hch_8_9) (hch_8_10) (hfk_8_24) (hfk_8_25) (hfk_8_26) (hfk_8_27) (hfk_8_28) (hfk_8_29) (hfk_8_30) (hfk_8_31) (hfk_8_32) (hfk_8_33) (hfk_8_34) (hfk_8_35) (hfk_8_36) (hfk_8_37) (hfk_8_40) (hfk_8_41) (hfk_8_42) (hfk_8_43) (hfk_8_44) hln_8 hrq_8 (lv_sub hl [0, 1] rfl) hS (hD.sub (ws' := [(h0, .inr (13, z_8)), (qf25, .inl (cf25, 400, .inl f25)), (qf5, .inl (cf5, 3002, .inl f5)), (qf6, .inl (cf6, 3002, .inl f6)), (qf2, .inl (cf2, 3000, .inl f2)), (qf27, .inl (cf27, 400, .inl g27_192)), (qf26, .inl (cf26, 400, .inl f26)), (qf31, .inl (cf31, 800, .inl f31)), (qf32, .inl (cf32, 800, .inl f32)), (qf33, .inl (cf33, 800, .inl f33)), (qf35, .inl (cf35, 800, .inl g908_0)), (qf34, .inl (cf34, 800, .inl f34)), (qf29, .inl (cf29, 800, .inl f29)), (qf30, .inl (cf30, 800, .inl f30)), (qf37, .inl (cf37, 800, .inl f37)), (qf36, .inl (cf36, 800, .inl f36)), (qf40, .inl (cf40, 1500, .inl f40)), (qf41, .inl (cf41, 1500, .inl f41)), (qf42, .inl (cf42, 1500, .inl f42)), (qf44, .inl (cf44, 1500, .inl g908_1)), (qf43, .inl (cf43, 1500, .inl f43))]) [2, 9, 6, 7, 8, 0, 1, 3, 4, 5, 10, 11, 12, 13, 14, 15, 16, 17, 18, 19, 20] (by decide) rfl) (hP.sub (ws' := [(h0, .inr (13, z_8)), (qf25, .inl (cf25, 400, .inl f25)), (qf5, .inl (cf5, 3002, .inl f5)), (qf6, .inl (cf6, 3002, .inl f6)), (qf2, .inl (cf2, 3000, .inl f2)), (qf27, .inl (cf27, 400, .inl g27_192)), (qf26, .inl (cf26, 400, .inl f26)), (qf31, .inl (cf31, 800, .inl f31)), (qf32, .inl (cf32, 800, .inl f32)), (qf33, .inl (cf33, 800, .inl f33)), (qf35, .inl (cf35, 800, .inl g908_0)), (qf34, .inl (cf34, 800, .inl f34)), (qf29, .inl (cf29, 800, .inl f29)), (qf30, .inl (cf30, 800, .inl f30)), (qf37, .inl (cf37, 800, .inl f37)), (qf36, .inl (cf36, 800, .inl f36)), (qf40, .inl (cf40, 1500, .inl f40)), (qf41, .inl (cf41, 1500, .inl f41)), (qf42, .inl (cf42, 1500, .inl f42)), (qf44, .inl (cf44, 1500, .inl g908_1)), (qf43, .inl (cf43, 1500, .inl f43))]) [2, 9, 6, 7, 8, 0, 1, 3, 4, 5, 10, 11, 12, 13, 14, 15, 16, 17, 18, 19, 20] rfl) hsp
  intro hj_190
  refine lv_iconst (v := 0) hx hb dX13_heads_0 (by decide) ?_
  refine lv_istore_n (lv' := [(1, .int 0), (0, .ref h0)]) hx hb dX13_heads_1 rfl hl (by decide) rfl (fun ls hl => ?_)
  replace hl : lv_has ls 4 [(1, .int 0), (0, .ref h0)] := lv_sub hl [0, 1] rfl
  replace hP := hP.sub (ws' := [(h0, .inr (13, zs)), (qf25, .inl (cf25, 400, .inl f25)), (qf5, .inl (cf5, 3002, .inl f5)), (qf6, .inl (cf6, 3002, .inl f6)), (qf2, .inl (cf2, 3000, .inl f2)), (qf27, .inl (cf27, 400, .inl f27)), (qf26, .inl (cf26, 400, .inl f26)), (qf31, .inl (cf31, 800, .inl f31)), (qf32, .inl (cf32, 800, .inl f32)), (qf33, .inl (cf33, 800, .inl f33)), (qf35, .inl (cf35, 800, .inl f35)), (qf34, .inl (cf34, 800, .inl f34)), (qf29, .inl (cf29, 800, .inl f29)), (qf30, .inl (cf30, 800, .inl f30)), (qf37, .inl (cf37, 800, .inl f37)), (qf36, .inl (cf36, 800, .inl f36)), (qf40, .inl (cf40, 1500, .inl f40)), (qf41, .inl (cf41, 1500, .inl f41)), (qf42, .inl (cf42, 1500, .inl f42)), (qf44, .inl (cf44, 1500, .inl f44)), (qf43, .inl (cf43, 1500, .inl f43))]) [0, 1, 2, 3, 4, 5, 6, 7, 8, 9, 10, 11, 12, 13, 14, 15, 16, 17, 18, 19, 20] rfl
  replace hD := hD.sub (ws' := [(h0, .inr (13, zs)), (qf25, .inl (cf25, 400, .inl f25)), (qf5, .inl (cf5, 3002, .inl f5)), (qf6, .inl (cf6, 3002, .inl f6)), (qf2, .inl (cf2, 3000, .inl f2)), (qf27, .inl (cf27, 400, .inl f27)), (qf26, .inl (cf26, 400, .inl f26)), (qf31, .inl (cf31, 800, .inl f31)), (qf32, .inl (cf32, 800, .inl f32)), (qf33, .inl (cf33, 800, .inl f33)), (qf35, .inl (cf35, 800, .inl f35)), (qf34, .inl (cf34, 800, .inl f34)), (qf29, .inl (cf29, 800, .inl f29)), (qf30, .inl (cf30, 800, .inl f30)), (qf37, .inl (cf37, 800, .inl f37)), (qf36, .inl (cf36, 800, .inl f36)), (qf40, .inl (cf40, 1500, .inl f40)), (qf41, .inl (cf41, 1500, .inl f41)), (qf42, .inl (cf42, 1500, .inl f42)), (qf44, .inl (cf44, 1500, .inl f44)), (qf43, .inl (cf43, 1500, .inl f43))]) [0, 1, 2, 3, 4, 5, 6, 7, 8, 9, 10, 11, 12, 13, 14, 15, 16, 17, 18, 19, 20] (by decide) rfl
  replace hK := hK.sub (tys' := [(cf25, .int), (cf5, .int), (cf6, .int), (cf2, .int), (cf27, .int), (cf26, .int), (cf31, .int), (cf32, .int), (cf33, .boolean), (cf35, .int), (cf34, .int), (cf29, .int), (cf30, .int), (cf37, .int), (cf36, .int), (cf40, .int), (cf41, .int), (cf42, .boolean), (cf44, .int), (cf43, .int)]) [0, 1, 2, 3, 4, 5, 6, 7, 8, 9, 10, 11, 12, 13, 14, 15, 16, 17, 18, 19] rfl
  obtain ⟨n_2, hn_2⟩ : ∃ z : Nat, z = nf := ⟨_, rfl⟩
  obtain ⟨l1_2, el1_2⟩ : ∃ z : Int32, z = 0 := ⟨_, rfl⟩
  obtain ⟨g27_2, eg27_2⟩ : ∃ z : Nat → Int32, z = f27 := ⟨_, rfl⟩
  obtain ⟨g35_2, eg35_2⟩ : ∃ z : Nat → Int32, z = f35 := ⟨_, rfl⟩
  obtain ⟨g44_2, eg44_2⟩ : ∃ z : Nat → Int32, z = f44 := ⟨_, rfl⟩
  obtain ⟨x10_2, ex10_2⟩ : ∃ z : Int32, z = v10 := ⟨_, rfl⟩
  obtain ⟨x9_2, ex9_2⟩ : ∃ z : Int32, z = v9 := ⟨_, rfl⟩
  replace hsp : lp_vm_heads_2 nf n_2 v9 v10 v24 v28 f25 f5 f6 f2 f27 f26 f31 f32 f33 f35 f34 f29 f30 f37 f36 f40 f41 f42 f44 f43 nS477 fS477 l1_2 g27_2 g35_2 g44_2 x10_2 x9_2 = some (o27, o35, o44, w10, w9) := by rw [hn_2, el1_2, eg27_2, eg35_2, eg44_2, ex10_2, ex9_2]; exact hsp
  replace hl : lv_has ls 4 [(1, .int l1_2), (0, .ref h0)] := by rw [el1_2]; exact hl
  obtain ⟨z2, ez2⟩ : ∃ z : List Value, z = zs := ⟨_, rfl⟩
  have hfh_2_2 : z2[2]? = some (.ref qf2) := by rw [ez2]; exact hf2
  have hfh_2_5 : z2[5]? = some (.ref qf5) := by rw [ez2]; exact hf5
  have hfh_2_6 : z2[6]? = some (.ref qf6) := by rw [ez2]; exact hf6
  have hfh_2_9 : z2[9]? = some (.int x9_2) := by rw [ez2, ex9_2]; exact hf9
  have hfh_2_10 : z2[10]? = some (.int x10_2) := by rw [ez2, ex10_2]; exact hf10
  have hfh_2_24 : z2[24]? = some (.int v24) := by rw [ez2]; exact hf24
  have hfh_2_25 : z2[25]? = some (.ref qf25) := by rw [ez2]; exact hf25
  have hfh_2_26 : z2[26]? = some (.ref qf26) := by rw [ez2]; exact hf26
  have hfh_2_27 : z2[27]? = some (.ref qf27) := by rw [ez2]; exact hf27
  have hfh_2_28 : z2[28]? = some (.int v28) := by rw [ez2]; exact hf28
  have hfh_2_29 : z2[29]? = some (.ref qf29) := by rw [ez2]; exact hf29
  have hfh_2_30 : z2[30]? = some (.ref qf30) := by rw [ez2]; exact hf30
  have hfh_2_31 : z2[31]? = some (.ref qf31) := by rw [ez2]; exact hf31
  have hfh_2_32 : z2[32]? = some (.ref qf32) := by rw [ez2]; exact hf32
  have hfh_2_33 : z2[33]? = some (.ref qf33) := by rw [ez2]; exact hf33
  have hfh_2_34 : z2[34]? = some (.ref qf34) := by rw [ez2]; exact hf34
  have hfh_2_35 : z2[35]? = some (.ref qf35) := by rw [ez2]; exact hf35
  have hfh_2_36 : z2[36]? = some (.ref qf36) := by rw [ez2]; exact hf36
  have hfh_2_37 : z2[37]? = some (.ref qf37) := by rw [ez2]; exact hf37
  have hfh_2_40 : z2[40]? = some (.ref qf40) := by rw [ez2]; exact hf40
  have hfh_2_41 : z2[41]? = some (.ref qf41) := by rw [ez2]; exact hf41
  have hfh_2_42 : z2[42]? = some (.ref qf42) := by rw [ez2]; exact hf42
  have hfh_2_43 : z2[43]? = some (.ref qf43) := by rw [ez2]; exact hf43
  have hfh_2_44 : z2[44]? = some (.ref qf44) := by rw [ez2]; exact hf44
  have hlh_2 : z2.length = 155 := by rw [ez2]; exact hlen
  have hrh_2 : ∀ j : Nat, j ≠ 10 → j ≠ 9 → z2[j]? = zs[j]? := by rw [ez2]; exact hrs0
  replace hP : va_P (dC, dI) vwCl [(h0, .inr (13, z2)), (qf25, .inl (cf25, 400, .inl f25)), (qf5, .inl (cf5, 3002, .inl f5)), (qf6, .inl (cf6, 3002, .inl f6)), (qf2, .inl (cf2, 3000, .inl f2)), (qf27, .inl (cf27, 400, .inl g27_2)), (qf26, .inl (cf26, 400, .inl f26)), (qf31, .inl (cf31, 800, .inl f31)), (qf32, .inl (cf32, 800, .inl f32)), (qf33, .inl (cf33, 800, .inl f33)), (qf35, .inl (cf35, 800, .inl g35_2)), (qf34, .inl (cf34, 800, .inl f34)), (qf29, .inl (cf29, 800, .inl f29)), (qf30, .inl (cf30, 800, .inl f30)), (qf37, .inl (cf37, 800, .inl f37)), (qf36, .inl (cf36, 800, .inl f36)), (qf40, .inl (cf40, 1500, .inl f40)), (qf41, .inl (cf41, 1500, .inl f41)), (qf42, .inl (cf42, 1500, .inl f42)), (qf44, .inl (cf44, 1500, .inl g44_2)), (qf43, .inl (cf43, 1500, .inl f43))] H := by rw [ez2, eg27_2, eg35_2, eg44_2]; exact hP
  replace hD : va_D A [(h0, .inr (13, z2)), (qf25, .inl (cf25, 400, .inl f25)), (qf5, .inl (cf5, 3002, .inl f5)), (qf6, .inl (cf6, 3002, .inl f6)), (qf2, .inl (cf2, 3000, .inl f2)), (qf27, .inl (cf27, 400, .inl g27_2)), (qf26, .inl (cf26, 400, .inl f26)), (qf31, .inl (cf31, 800, .inl f31)), (qf32, .inl (cf32, 800, .inl f32)), (qf33, .inl (cf33, 800, .inl f33)), (qf35, .inl (cf35, 800, .inl g35_2)), (qf34, .inl (cf34, 800, .inl f34)), (qf29, .inl (cf29, 800, .inl f29)), (qf30, .inl (cf30, 800, .inl f30)), (qf37, .inl (cf37, 800, .inl f37)), (qf36, .inl (cf36, 800, .inl f36)), (qf40, .inl (cf40, 1500, .inl f40)), (qf41, .inl (cf41, 1500, .inl f41)), (qf42, .inl (cf42, 1500, .inl f42)), (qf44, .inl (cf44, 1500, .inl g44_2)), (qf43, .inl (cf43, 1500, .inl f43))] := by rw [ez2, eg27_2, eg35_2, eg44_2]; exact hD
  clear hn_2 ez2 el1_2 eg27_2 eg35_2 eg44_2 ex10_2 ex9_2
  try clear hlo
  try clear hH
  revert hsp
  revert hP
  revert hD
  revert hS
  revert hl
  revert hrh_2
  revert hlh_2
  revert hfh_2_44
  revert hfh_2_43
  revert hfh_2_42
  revert hfh_2_41
  revert hfh_2_40
  revert hfh_2_37
  revert hfh_2_36
  revert hfh_2_35
  revert hfh_2_34
  revert hfh_2_33
  revert hfh_2_32
  revert hfh_2_31
  revert hfh_2_30
  revert hfh_2_29
  revert hfh_2_28
  revert hfh_2_27
  revert hfh_2_26
  revert hfh_2_25
  revert hfh_2_24
  revert hfh_2_10
  revert hfh_2_9
  revert hfh_2_6
  revert hfh_2_5
  revert hfh_2_2
  revert x9_2
  revert x10_2
  revert g44_2
  revert g35_2
  revert g27_2
  revert l1_2
  revert z2
  revert ls
  revert locs
  revert H
  induction n_2 with
  | zero => intro H locs ls z2 l1_2 g27_2 g35_2 g44_2 x10_2 x9_2 hfh_2_2 hfh_2_5 hfh_2_6 hfh_2_9 hfh_2_10 hfh_2_24 hfh_2_25 hfh_2_26 hfh_2_27 hfh_2_28 hfh_2_29 hfh_2_30 hfh_2_31 hfh_2_32 hfh_2_33 hfh_2_34 hfh_2_35 hfh_2_36 hfh_2_37 hfh_2_40 hfh_2_41 hfh_2_42 hfh_2_43 hfh_2_44 hlh_2 hrh_2 hl hS hD hP hsp; unfold lp_vm_heads_2 at hsp; cases hsp
  | succ n_2 ih_2 =>
    intro H locs ls z2 l1_2 g27_2 g35_2 g44_2 x10_2 x9_2 hfh_2_2 hfh_2_5 hfh_2_6 hfh_2_9 hfh_2_10 hfh_2_24 hfh_2_25 hfh_2_26 hfh_2_27 hfh_2_28 hfh_2_29 hfh_2_30 hfh_2_31 hfh_2_32 hfh_2_33 hfh_2_34 hfh_2_35 hfh_2_36 hfh_2_37 hfh_2_40 hfh_2_41 hfh_2_42 hfh_2_43 hfh_2_44 hlh_2 hrh_2 hl hS hD hP hsp
    unfold lp_vm_heads_2 at hsp
    try dsimp only at hsp
    refine lv_iload_n hx hb dX13_heads_2 rfl (lv_at hl 0 rfl) ?_
    refine lv_aload_n hx hb dX13_heads_3 rfl (lv_at hl 1 rfl) ?_
    refine va_get (D := (dC, dI)) (ci := 13) (v := .int v24) (C := RX13) (T := TX13) (N := 155) hx hb hts uV_h9_X13 hown hK hP 0 rfl rfl 24 (by decide) (hts (.fieldLink RX13 409 "ClassMillModel" "classes" "I") mw_h9_93) (fun _ h9 => h9) hfh_2_24 dX13_heads_4 ?_
    refine lv_icmp_ge (tgt := 48) hx hb dX13_heads_7 (by decide) (fun c_1 => ?_) (fun c_1 => ?_)
    · rw [if_pos c_1] at hsp
      refine lv_iconst (v := 0) hx hb dX13_heads_48 (by decide) ?_
      refine lv_istore_n (lv' := [(1, .int 0), (0, .ref h0)]) hx hb dX13_heads_49 rfl hl (by decide) rfl (fun ls hl => ?_)
      replace hl : lv_has ls 4 [(1, .int 0), (0, .ref h0)] := lv_sub hl [0, 1] rfl
      replace hP := hP.sub (ws' := [(h0, .inr (13, z2)), (qf25, .inl (cf25, 400, .inl f25)), (qf5, .inl (cf5, 3002, .inl f5)), (qf6, .inl (cf6, 3002, .inl f6)), (qf2, .inl (cf2, 3000, .inl f2)), (qf27, .inl (cf27, 400, .inl g27_2)), (qf26, .inl (cf26, 400, .inl f26)), (qf31, .inl (cf31, 800, .inl f31)), (qf32, .inl (cf32, 800, .inl f32)), (qf33, .inl (cf33, 800, .inl f33)), (qf35, .inl (cf35, 800, .inl g35_2)), (qf34, .inl (cf34, 800, .inl f34)), (qf29, .inl (cf29, 800, .inl f29)), (qf30, .inl (cf30, 800, .inl f30)), (qf37, .inl (cf37, 800, .inl f37)), (qf36, .inl (cf36, 800, .inl f36)), (qf40, .inl (cf40, 1500, .inl f40)), (qf41, .inl (cf41, 1500, .inl f41)), (qf42, .inl (cf42, 1500, .inl f42)), (qf44, .inl (cf44, 1500, .inl g44_2)), (qf43, .inl (cf43, 1500, .inl f43))]) [0, 1, 2, 3, 4, 5, 6, 7, 8, 9, 10, 11, 12, 13, 14, 15, 16, 17, 18, 19, 20] rfl
      replace hD := hD.sub (ws' := [(h0, .inr (13, z2)), (qf25, .inl (cf25, 400, .inl f25)), (qf5, .inl (cf5, 3002, .inl f5)), (qf6, .inl (cf6, 3002, .inl f6)), (qf2, .inl (cf2, 3000, .inl f2)), (qf27, .inl (cf27, 400, .inl g27_2)), (qf26, .inl (cf26, 400, .inl f26)), (qf31, .inl (cf31, 800, .inl f31)), (qf32, .inl (cf32, 800, .inl f32)), (qf33, .inl (cf33, 800, .inl f33)), (qf35, .inl (cf35, 800, .inl g35_2)), (qf34, .inl (cf34, 800, .inl f34)), (qf29, .inl (cf29, 800, .inl f29)), (qf30, .inl (cf30, 800, .inl f30)), (qf37, .inl (cf37, 800, .inl f37)), (qf36, .inl (cf36, 800, .inl f36)), (qf40, .inl (cf40, 1500, .inl f40)), (qf41, .inl (cf41, 1500, .inl f41)), (qf42, .inl (cf42, 1500, .inl f42)), (qf44, .inl (cf44, 1500, .inl g44_2)), (qf43, .inl (cf43, 1500, .inl f43))]) [0, 1, 2, 3, 4, 5, 6, 7, 8, 9, 10, 11, 12, 13, 14, 15, 16, 17, 18, 19, 20] (by decide) rfl
      replace hK := hK.sub (tys' := [(cf25, .int), (cf5, .int), (cf6, .int), (cf2, .int), (cf27, .int), (cf26, .int), (cf31, .int), (cf32, .int), (cf33, .boolean), (cf35, .int), (cf34, .int), (cf29, .int), (cf30, .int), (cf37, .int), (cf36, .int), (cf40, .int), (cf41, .int), (cf42, .boolean), (cf44, .int), (cf43, .int)]) [0, 1, 2, 3, 4, 5, 6, 7, 8, 9, 10, 11, 12, 13, 14, 15, 16, 17, 18, 19] rfl
      obtain ⟨n_50, hn_50⟩ : ∃ z : Nat, z = nf := ⟨_, rfl⟩
      obtain ⟨l1_50, el1_50⟩ : ∃ z : Int32, z = 0 := ⟨_, rfl⟩
      obtain ⟨g27_50, eg27_50⟩ : ∃ z : Nat → Int32, z = g27_2 := ⟨_, rfl⟩
      obtain ⟨g35_50, eg35_50⟩ : ∃ z : Nat → Int32, z = g35_2 := ⟨_, rfl⟩
      obtain ⟨g44_50, eg44_50⟩ : ∃ z : Nat → Int32, z = g44_2 := ⟨_, rfl⟩
      obtain ⟨x10_50, ex10_50⟩ : ∃ z : Int32, z = x10_2 := ⟨_, rfl⟩
      obtain ⟨x9_50, ex9_50⟩ : ∃ z : Int32, z = x9_2 := ⟨_, rfl⟩
      replace hsp : lp_vm_heads_50 nf n_50 v9 v10 v24 v28 f25 f5 f6 f2 f27 f26 f31 f32 f33 f35 f34 f29 f30 f37 f36 f40 f41 f42 f44 f43 nS477 fS477 l1_50 g27_50 g35_50 g44_50 x10_50 x9_50 = some (o27, o35, o44, w10, w9) := by rw [hn_50, el1_50, eg27_50, eg35_50, eg44_50, ex10_50, ex9_50]; exact hsp
      replace hl : lv_has ls 4 [(1, .int l1_50), (0, .ref h0)] := by rw [el1_50]; exact hl
      obtain ⟨z50, ez50⟩ : ∃ z : List Value, z = z2 := ⟨_, rfl⟩
      have hfh_50_2 : z50[2]? = some (.ref qf2) := by rw [ez50]; exact hfh_2_2
      have hfh_50_5 : z50[5]? = some (.ref qf5) := by rw [ez50]; exact hfh_2_5
      have hfh_50_6 : z50[6]? = some (.ref qf6) := by rw [ez50]; exact hfh_2_6
      have hfh_50_9 : z50[9]? = some (.int x9_50) := by rw [ez50, ex9_50]; exact hfh_2_9
      have hfh_50_10 : z50[10]? = some (.int x10_50) := by rw [ez50, ex10_50]; exact hfh_2_10
      have hfh_50_24 : z50[24]? = some (.int v24) := by rw [ez50]; exact hfh_2_24
      have hfh_50_25 : z50[25]? = some (.ref qf25) := by rw [ez50]; exact hfh_2_25
      have hfh_50_26 : z50[26]? = some (.ref qf26) := by rw [ez50]; exact hfh_2_26
      have hfh_50_27 : z50[27]? = some (.ref qf27) := by rw [ez50]; exact hfh_2_27
      have hfh_50_28 : z50[28]? = some (.int v28) := by rw [ez50]; exact hfh_2_28
      have hfh_50_29 : z50[29]? = some (.ref qf29) := by rw [ez50]; exact hfh_2_29
      have hfh_50_30 : z50[30]? = some (.ref qf30) := by rw [ez50]; exact hfh_2_30
      have hfh_50_31 : z50[31]? = some (.ref qf31) := by rw [ez50]; exact hfh_2_31
      have hfh_50_32 : z50[32]? = some (.ref qf32) := by rw [ez50]; exact hfh_2_32
      have hfh_50_33 : z50[33]? = some (.ref qf33) := by rw [ez50]; exact hfh_2_33
      have hfh_50_34 : z50[34]? = some (.ref qf34) := by rw [ez50]; exact hfh_2_34
      have hfh_50_35 : z50[35]? = some (.ref qf35) := by rw [ez50]; exact hfh_2_35
      have hfh_50_36 : z50[36]? = some (.ref qf36) := by rw [ez50]; exact hfh_2_36
      have hfh_50_37 : z50[37]? = some (.ref qf37) := by rw [ez50]; exact hfh_2_37
      have hfh_50_40 : z50[40]? = some (.ref qf40) := by rw [ez50]; exact hfh_2_40
      have hfh_50_41 : z50[41]? = some (.ref qf41) := by rw [ez50]; exact hfh_2_41
      have hfh_50_42 : z50[42]? = some (.ref qf42) := by rw [ez50]; exact hfh_2_42
      have hfh_50_43 : z50[43]? = some (.ref qf43) := by rw [ez50]; exact hfh_2_43
      have hfh_50_44 : z50[44]? = some (.ref qf44) := by rw [ez50]; exact hfh_2_44
      have hlh_50 : z50.length = 155 := by rw [ez50]; exact hlh_2
      have hrh_50 : ∀ j : Nat, j ≠ 10 → j ≠ 9 → z50[j]? = zs[j]? := by rw [ez50]; exact hrh_2
      replace hP : va_P (dC, dI) vwCl [(h0, .inr (13, z50)), (qf25, .inl (cf25, 400, .inl f25)), (qf5, .inl (cf5, 3002, .inl f5)), (qf6, .inl (cf6, 3002, .inl f6)), (qf2, .inl (cf2, 3000, .inl f2)), (qf27, .inl (cf27, 400, .inl g27_50)), (qf26, .inl (cf26, 400, .inl f26)), (qf31, .inl (cf31, 800, .inl f31)), (qf32, .inl (cf32, 800, .inl f32)), (qf33, .inl (cf33, 800, .inl f33)), (qf35, .inl (cf35, 800, .inl g35_50)), (qf34, .inl (cf34, 800, .inl f34)), (qf29, .inl (cf29, 800, .inl f29)), (qf30, .inl (cf30, 800, .inl f30)), (qf37, .inl (cf37, 800, .inl f37)), (qf36, .inl (cf36, 800, .inl f36)), (qf40, .inl (cf40, 1500, .inl f40)), (qf41, .inl (cf41, 1500, .inl f41)), (qf42, .inl (cf42, 1500, .inl f42)), (qf44, .inl (cf44, 1500, .inl g44_50)), (qf43, .inl (cf43, 1500, .inl f43))] H := by rw [ez50, eg27_50, eg35_50, eg44_50]; exact hP
      replace hD : va_D A [(h0, .inr (13, z50)), (qf25, .inl (cf25, 400, .inl f25)), (qf5, .inl (cf5, 3002, .inl f5)), (qf6, .inl (cf6, 3002, .inl f6)), (qf2, .inl (cf2, 3000, .inl f2)), (qf27, .inl (cf27, 400, .inl g27_50)), (qf26, .inl (cf26, 400, .inl f26)), (qf31, .inl (cf31, 800, .inl f31)), (qf32, .inl (cf32, 800, .inl f32)), (qf33, .inl (cf33, 800, .inl f33)), (qf35, .inl (cf35, 800, .inl g35_50)), (qf34, .inl (cf34, 800, .inl f34)), (qf29, .inl (cf29, 800, .inl f29)), (qf30, .inl (cf30, 800, .inl f30)), (qf37, .inl (cf37, 800, .inl f37)), (qf36, .inl (cf36, 800, .inl f36)), (qf40, .inl (cf40, 1500, .inl f40)), (qf41, .inl (cf41, 1500, .inl f41)), (qf42, .inl (cf42, 1500, .inl f42)), (qf44, .inl (cf44, 1500, .inl g44_50)), (qf43, .inl (cf43, 1500, .inl f43))] := by rw [ez50, eg27_50, eg35_50, eg44_50]; exact hD
      clear hn_50 ez50 el1_50 eg27_50 eg35_50 eg44_50 ex10_50 ex9_50
      try clear hlo
      try clear hH
      revert hsp
      revert hP
      revert hD
      revert hS
      revert hl
      revert hrh_50
      revert hlh_50
      revert hfh_50_44
      revert hfh_50_43
      revert hfh_50_42
      revert hfh_50_41
      revert hfh_50_40
      revert hfh_50_37
      revert hfh_50_36
      revert hfh_50_35
      revert hfh_50_34
      revert hfh_50_33
      revert hfh_50_32
      revert hfh_50_31
      revert hfh_50_30
      revert hfh_50_29
      revert hfh_50_28
      revert hfh_50_27
      revert hfh_50_26
      revert hfh_50_25
      revert hfh_50_24
      revert hfh_50_10
      revert hfh_50_9
      revert hfh_50_6
      revert hfh_50_5
      revert hfh_50_2
      revert x9_50
      revert x10_50
      revert g44_50
      revert g35_50
      revert g27_50
      revert l1_50
      revert z50
      revert ls
      revert locs
      revert H
      induction n_50 with
      | zero => intro H locs ls z50 l1_50 g27_50 g35_50 g44_50 x10_50 x9_50 hfh_50_2 hfh_50_5 hfh_50_6 hfh_50_9 hfh_50_10 hfh_50_24 hfh_50_25 hfh_50_26 hfh_50_27 hfh_50_28 hfh_50_29 hfh_50_30 hfh_50_31 hfh_50_32 hfh_50_33 hfh_50_34 hfh_50_35 hfh_50_36 hfh_50_37 hfh_50_40 hfh_50_41 hfh_50_42 hfh_50_43 hfh_50_44 hlh_50 hrh_50 hl hS hD hP hsp; unfold lp_vm_heads_50 at hsp; cases hsp
      | succ n_50 ih_50 =>
        intro H locs ls z50 l1_50 g27_50 g35_50 g44_50 x10_50 x9_50 hfh_50_2 hfh_50_5 hfh_50_6 hfh_50_9 hfh_50_10 hfh_50_24 hfh_50_25 hfh_50_26 hfh_50_27 hfh_50_28 hfh_50_29 hfh_50_30 hfh_50_31 hfh_50_32 hfh_50_33 hfh_50_34 hfh_50_35 hfh_50_36 hfh_50_37 hfh_50_40 hfh_50_41 hfh_50_42 hfh_50_43 hfh_50_44 hlh_50 hrh_50 hl hS hD hP hsp
        unfold lp_vm_heads_50 at hsp
        try dsimp only at hsp
        refine jn_use (α := Heap × List Loc × Array Slot × List Value × Int32 × Int32 × (Nat → Int32) × (Nat → Int32) × (Nat → Int32) × Int32 × Int32) (fun x9 => x9.1) (fun x9 => x9.2.1) (fun x9 => F0 m 167 x9.2.2.1 []) (fun x9 => match x9 with | (H, locs, ls, z167, l1_167, l2_167, g27_167, g35_167, g44_167, x10_167, x9_167) => lv_has ls 4 [(0, .ref h0), (1, .int l1_167), (2, .int l2_167)] ∧ va_S A s.heap H locs ∧ va_D A [(h0, .inr (13, z167)), (qf25, .inl (cf25, 400, .inl f25)), (qf5, .inl (cf5, 3002, .inl f5)), (qf6, .inl (cf6, 3002, .inl f6)), (qf2, .inl (cf2, 3000, .inl f2)), (qf27, .inl (cf27, 400, .inl g27_167)), (qf26, .inl (cf26, 400, .inl f26)), (qf31, .inl (cf31, 800, .inl f31)), (qf32, .inl (cf32, 800, .inl f32)), (qf33, .inl (cf33, 800, .inl f33)), (qf35, .inl (cf35, 800, .inl g35_167)), (qf34, .inl (cf34, 800, .inl f34)), (qf29, .inl (cf29, 800, .inl f29)), (qf30, .inl (cf30, 800, .inl f30)), (qf37, .inl (cf37, 800, .inl f37)), (qf36, .inl (cf36, 800, .inl f36)), (qf40, .inl (cf40, 1500, .inl f40)), (qf41, .inl (cf41, 1500, .inl f41)), (qf42, .inl (cf42, 1500, .inl f42)), (qf44, .inl (cf44, 1500, .inl g44_167)), (qf43, .inl (cf43, 1500, .inl f43))] ∧ va_P (dC, dI) vwCl [(h0, .inr (13, z167)), (qf25, .inl (cf25, 400, .inl f25)), (qf5, .inl (cf5, 3002, .inl f5)), (qf6, .inl (cf6, 3002, .inl f6)), (qf2, .inl (cf2, 3000, .inl f2)), (qf27, .inl (cf27, 400, .inl g27_167)), (qf26, .inl (cf26, 400, .inl f26)), (qf31, .inl (cf31, 800, .inl f31)), (qf32, .inl (cf32, 800, .inl f32)), (qf33, .inl (cf33, 800, .inl f33)), (qf35, .inl (cf35, 800, .inl g35_167)), (qf34, .inl (cf34, 800, .inl f34)), (qf29, .inl (cf29, 800, .inl f29)), (qf30, .inl (cf30, 800, .inl f30)), (qf37, .inl (cf37, 800, .inl f37)), (qf36, .inl (cf36, 800, .inl f36)), (qf40, .inl (cf40, 1500, .inl f40)), (qf41, .inl (cf41, 1500, .inl f41)), (qf42, .inl (cf42, 1500, .inl f42)), (qf44, .inl (cf44, 1500, .inl g44_167)), (qf43, .inl (cf43, 1500, .inl f43))] H ∧ z167[2]? = some (.ref qf2) ∧ z167[5]? = some (.ref qf5) ∧ z167[6]? = some (.ref qf6) ∧ z167[9]? = some (.int x9_167) ∧ z167[10]? = some (.int x10_167) ∧ z167[24]? = some (.int v24) ∧ z167[25]? = some (.ref qf25) ∧ z167[26]? = some (.ref qf26) ∧ z167[27]? = some (.ref qf27) ∧ z167[28]? = some (.int v28) ∧ z167[29]? = some (.ref qf29) ∧ z167[30]? = some (.ref qf30) ∧ z167[31]? = some (.ref qf31) ∧ z167[32]? = some (.ref qf32) ∧ z167[33]? = some (.ref qf33) ∧ z167[34]? = some (.ref qf34) ∧ z167[35]? = some (.ref qf35) ∧ z167[36]? = some (.ref qf36) ∧ z167[37]? = some (.ref qf37) ∧ z167[40]? = some (.ref qf40) ∧ z167[41]? = some (.ref qf41) ∧ z167[42]? = some (.ref qf42) ∧ z167[43]? = some (.ref qf43) ∧ z167[44]? = some (.ref qf44) ∧ z167.length = 155 ∧ (∀ j : Nat, j ≠ 10 → j ≠ 9 → z167[j]? = zs[j]?) ∧ jn_vm_heads_167 nf v9 v10 v24 v28 f25 f5 f6 f2 f27 f26 f31 f32 f33 f35 f34 f29 f30 f37 f36 f40 f41 f42 f44 f43 nS477 fS477 (lp_vm_heads_50 nf n_50 v9 v10 v24 v28 f25 f5 f6 f2 f27 f26 f31 f32 f33 f35 f34 f29 f30 f37 f36 f40 f41 f42 f44 f43 nS477 fS477) l1_167 l2_167 g27_167 g35_167 g44_167 x10_167 x9_167 = some (o27, o35, o44, w10, w9)) ?_ ?_
        · intro x9 hJ9
          obtain ⟨H, locs, ls, z167, l1_167, l2_167, g27_167, g35_167, g44_167, x10_167, x9_167⟩ := x9
          obtain ⟨hl, hS, hD, hP, hfh_167_2, hfh_167_5, hfh_167_6, hfh_167_9, hfh_167_10, hfh_167_24, hfh_167_25, hfh_167_26, hfh_167_27, hfh_167_28, hfh_167_29, hfh_167_30, hfh_167_31, hfh_167_32, hfh_167_33, hfh_167_34, hfh_167_35, hfh_167_36, hfh_167_37, hfh_167_40, hfh_167_41, hfh_167_42, hfh_167_43, hfh_167_44, hlh_167, hrh_167, hsp⟩ := hJ9
          replace hl : lv_has ls 4 [(0, .ref h0), (1, .int l1_167), (2, .int l2_167)] := hl
          replace hS : va_S A s.heap H locs := hS
          replace hD : va_D A [(h0, .inr (13, z167)), (qf25, .inl (cf25, 400, .inl f25)), (qf5, .inl (cf5, 3002, .inl f5)), (qf6, .inl (cf6, 3002, .inl f6)), (qf2, .inl (cf2, 3000, .inl f2)), (qf27, .inl (cf27, 400, .inl g27_167)), (qf26, .inl (cf26, 400, .inl f26)), (qf31, .inl (cf31, 800, .inl f31)), (qf32, .inl (cf32, 800, .inl f32)), (qf33, .inl (cf33, 800, .inl f33)), (qf35, .inl (cf35, 800, .inl g35_167)), (qf34, .inl (cf34, 800, .inl f34)), (qf29, .inl (cf29, 800, .inl f29)), (qf30, .inl (cf30, 800, .inl f30)), (qf37, .inl (cf37, 800, .inl f37)), (qf36, .inl (cf36, 800, .inl f36)), (qf40, .inl (cf40, 1500, .inl f40)), (qf41, .inl (cf41, 1500, .inl f41)), (qf42, .inl (cf42, 1500, .inl f42)), (qf44, .inl (cf44, 1500, .inl g44_167)), (qf43, .inl (cf43, 1500, .inl f43))] := hD
          replace hP : va_P (dC, dI) vwCl [(h0, .inr (13, z167)), (qf25, .inl (cf25, 400, .inl f25)), (qf5, .inl (cf5, 3002, .inl f5)), (qf6, .inl (cf6, 3002, .inl f6)), (qf2, .inl (cf2, 3000, .inl f2)), (qf27, .inl (cf27, 400, .inl g27_167)), (qf26, .inl (cf26, 400, .inl f26)), (qf31, .inl (cf31, 800, .inl f31)), (qf32, .inl (cf32, 800, .inl f32)), (qf33, .inl (cf33, 800, .inl f33)), (qf35, .inl (cf35, 800, .inl g35_167)), (qf34, .inl (cf34, 800, .inl f34)), (qf29, .inl (cf29, 800, .inl f29)), (qf30, .inl (cf30, 800, .inl f30)), (qf37, .inl (cf37, 800, .inl f37)), (qf36, .inl (cf36, 800, .inl f36)), (qf40, .inl (cf40, 1500, .inl f40)), (qf41, .inl (cf41, 1500, .inl f41)), (qf42, .inl (cf42, 1500, .inl f42)), (qf44, .inl (cf44, 1500, .inl g44_167)), (qf43, .inl (cf43, 1500, .inl f43))] H := hP
          replace hsp : jn_vm_heads_167 nf v9 v10 v24 v28 f25 f5 f6 f2 f27 f26 f31 f32 f33 f35 f34 f29 f30 f37 f36 f40 f41 f42 f44 f43 nS477 fS477 (lp_vm_heads_50 nf n_50 v9 v10 v24 v28 f25 f5 f6 f2 f27 f26 f31 f32 f33 f35 f34 f29 f30 f37 f36 f40 f41 f42 f44 f43 nS477 fS477) l1_167 l2_167 g27_167 g35_167 g44_167 x10_167 x9_167 = some (o27, o35, o44, w10, w9) := hsp
          show W _ _ _ _ _ _ _ _ _ _ H locs _ _ _ (F0 m 167 ls [])
          unfold jn_vm_heads_167 at hsp
          try dsimp only at hsp
          refine lv_iload_n hx hb dX13_heads_167 rfl (lv_at hl 2 rfl) ?_
          refine lv_iconst (v := (-1)) hx hb dX13_heads_168 (by decide) ?_
          refine lv_icmp_eq (tgt := 184) hx hb dX13_heads_169 (by decide) (fun c_16 => ?_) (fun c_16 => ?_)
          · rw [if_pos c_16] at hsp
            refine lv_iinc (v := (l1_167 + 1)) (lv' := [(1, .int (l1_167 + 1)), (0, .ref h0), (2, .int l2_167)]) hx hb dX13_heads_184 hl (k := 1) rfl rfl (by decide) rfl (fun ls hl => ?_)
            refine lv_goto (tgt := 50) hx hb dX13_heads_187 (by decide) ?_
            exact ih_50 H locs ls z167 (l1_167 + 1) g27_167 g35_167 g44_167 x10_167 x9_167 (hfh_167_2) (hfh_167_5) (hfh_167_6) (hfh_167_9) (hfh_167_10) (hfh_167_24) (hfh_167_25) (hfh_167_26) (hfh_167_27) (hfh_167_28) (hfh_167_29) (hfh_167_30) (hfh_167_31) (hfh_167_32) (hfh_167_33) (hfh_167_34) (hfh_167_35) (hfh_167_36) (hfh_167_37) (hfh_167_40) (hfh_167_41) (hfh_167_42) (hfh_167_43) (hfh_167_44) hlh_167 hrh_167 (lv_sub hl [0, 1] rfl) hS (hD.sub (ws' := [(h0, .inr (13, z167)), (qf25, .inl (cf25, 400, .inl f25)), (qf5, .inl (cf5, 3002, .inl f5)), (qf6, .inl (cf6, 3002, .inl f6)), (qf2, .inl (cf2, 3000, .inl f2)), (qf27, .inl (cf27, 400, .inl g27_167)), (qf26, .inl (cf26, 400, .inl f26)), (qf31, .inl (cf31, 800, .inl f31)), (qf32, .inl (cf32, 800, .inl f32)), (qf33, .inl (cf33, 800, .inl f33)), (qf35, .inl (cf35, 800, .inl g35_167)), (qf34, .inl (cf34, 800, .inl f34)), (qf29, .inl (cf29, 800, .inl f29)), (qf30, .inl (cf30, 800, .inl f30)), (qf37, .inl (cf37, 800, .inl f37)), (qf36, .inl (cf36, 800, .inl f36)), (qf40, .inl (cf40, 1500, .inl f40)), (qf41, .inl (cf41, 1500, .inl f41)), (qf42, .inl (cf42, 1500, .inl f42)), (qf44, .inl (cf44, 1500, .inl g44_167)), (qf43, .inl (cf43, 1500, .inl f43))]) [0, 1, 2, 3, 4, 5, 6, 7, 8, 9, 10, 11, 12, 13, 14, 15, 16, 17, 18, 19, 20] (by decide) rfl) (hP.sub (ws' := [(h0, .inr (13, z167)), (qf25, .inl (cf25, 400, .inl f25)), (qf5, .inl (cf5, 3002, .inl f5)), (qf6, .inl (cf6, 3002, .inl f6)), (qf2, .inl (cf2, 3000, .inl f2)), (qf27, .inl (cf27, 400, .inl g27_167)), (qf26, .inl (cf26, 400, .inl f26)), (qf31, .inl (cf31, 800, .inl f31)), (qf32, .inl (cf32, 800, .inl f32)), (qf33, .inl (cf33, 800, .inl f33)), (qf35, .inl (cf35, 800, .inl g35_167)), (qf34, .inl (cf34, 800, .inl f34)), (qf29, .inl (cf29, 800, .inl f29)), (qf30, .inl (cf30, 800, .inl f30)), (qf37, .inl (cf37, 800, .inl f37)), (qf36, .inl (cf36, 800, .inl f36)), (qf40, .inl (cf40, 1500, .inl f40)), (qf41, .inl (cf41, 1500, .inl f41)), (qf42, .inl (cf42, 1500, .inl f42)), (qf44, .inl (cf44, 1500, .inl g44_167)), (qf43, .inl (cf43, 1500, .inl f43))]) [0, 1, 2, 3, 4, 5, 6, 7, 8, 9, 10, 11, 12, 13, 14, 15, 16, 17, 18, 19, 20] rfl) hsp
          · rw [if_neg c_16] at hsp
            refine lv_aload_n hx hb dX13_heads_172 rfl (lv_at hl 0 rfl) ?_
            refine lv_bipush (v := 6) hx hb dX13_heads_173 (by decide) ?_
            refine lv_aload_n hx hb dX13_heads_175 rfl (lv_at hl 0 rfl) ?_
            refine va_get (D := (dC, dI)) (ci := 13) (v := .ref qf26) (C := RX13) (T := TX13) (N := 155) hx hb hts uV_h9_X13 hown hK hP 0 rfl rfl 26 (by decide) (hts (.fieldLink RX13 65 "ClassMillModel" "classExtends" "[I") mw_h9_401) (fun _ h9 => h9) hfh_167_26 dX13_heads_176 ?_
            refine lv_iload_n hx hb dX13_heads_179 rfl (lv_at hl 1 rfl) ?_
            obtain ⟨hi_17, hsp⟩ := ox_in hsp
            refine va_iald hx hb hK hP 6 5 rfl rfl (i := l1_167) hi_17 dX13_heads_180 ?_
            obtain ⟨⟨u6_0, u6_1⟩, hu_6, hsp⟩ := ox_bind hsp
            try dsimp only at hsp
            have hPc := hP.sub (ws' := [(h0, .inr (13, z167)), (qf5, .inl (cf5, 3002, .inl f5))]) [0, 2] rfl
            have hDc := hD.sub (ws' := [(h0, .inr (13, z167)), (qf5, .inl (cf5, 3002, .inl f5))]) [0, 2] (by decide) rfl
            have hKc := hK.sub (tys' := [(cf5, .int)]) [1] rfl
            have hFc := va_free (wc := [(h0, .inr (13, z167)), (qf5, .inl (cf5, 3002, .inl f5))]) hD hS hA [0, 2] rfl
            refine va_callv (va_runV (As := [.int 6, .int (f26 (l1_167 : Int32).toNatClampNeg)]) (rest := []) ⟨hx, hb, hml, hown, hts⟩ (tm_wrong l dC dI H.size h0 z167 6 ((f26 (l1_167 : Int32).toNatClampNeg)) qf5 x9_167 x10_167 cf5 f5 nf u6_0 u6_1 hlh_167 hfh_167_5 hfh_167_9 hfh_167_10 hu_6) (cwV 2 hts gv_h9_18 rfl rfl rfl (by decide +kernel) ⟨Nat.le_of_ble_eq_true rfl, Nat.le_of_ble_eq_true rfl⟩) ⟨fun a U g mk q => by obtain ⟨q0, q1, qP, qK, qD⟩ := q; exact ⟨q0, q1, qP, va_K.moved (u := U) (U := U.calling g mk a) (Vm.Alike.refl U.vm) qK, qD⟩, va_recv hKc hPc (ci := 13) (q0 := 0) rfl rfl, fun U hU hW => ⟨rfl, by rw [hU], by rw [hU]; exact hPc, va_K.moved hW.alike hKc, hDc.weaken (fun _ _ _ _ => trivial)⟩⟩ rfl rfl hl.1 rfl (lv_room (Nat.le_of_ble_eq_true rfl)) dX13_heads_181 ⟨Nat.le_of_ble_eq_true rfl, Nat.le_of_ble_eq_true rfl⟩) hS (fun q _ h => hFc q h) hFc ?_
            clear hS
            intro u t H1 locs ht hvm hw hB hz1 hk1 hS
            obtain ⟨z_6, rfl⟩ : ∃ z, z = u := ⟨_, rfl⟩
            obtain ⟨hP1, hK1, hD1⟩ := hB
            rw [ht] at hP1
            have hK1 := va_K.moved hvm.symm hK1
            try dsimp only at hw
            have hPD := va_join (wr := [(qf25, .inl (cf25, 400, .inl f25)), (qf6, .inl (cf6, 3002, .inl f6)), (qf2, .inl (cf2, 3000, .inl f2)), (qf27, .inl (cf27, 400, .inl g27_167)), (qf26, .inl (cf26, 400, .inl f26)), (qf31, .inl (cf31, 800, .inl f31)), (qf32, .inl (cf32, 800, .inl f32)), (qf33, .inl (cf33, 800, .inl f33)), (qf35, .inl (cf35, 800, .inl g35_167)), (qf34, .inl (cf34, 800, .inl f34)), (qf29, .inl (cf29, 800, .inl f29)), (qf30, .inl (cf30, 800, .inl f30)), (qf37, .inl (cf37, 800, .inl f37)), (qf36, .inl (cf36, 800, .inl f36)), (qf40, .inl (cf40, 1500, .inl f40)), (qf41, .inl (cf41, 1500, .inl f41)), (qf42, .inl (cf42, 1500, .inl f42)), (qf44, .inl (cf44, 1500, .inl g44_167)), (qf43, .inl (cf43, 1500, .inl f43))]) (w1 := [(h0, .inr (13, z_6)), (qf5, .inl (cf5, 3002, .inl f5))]) hP hD [0, 2] [1, 3, 4, 5, 6, 7, 8, 9, 10, 11, 12, 13, 14, 15, 16, 17, 18, 19, 20] rfl rfl (by decide) (by decide) hk1 hFc hP1 hD1
            clear hP hD
            obtain ⟨hP, hD⟩ := hPD
            replace hK := (hK.sub (tys' := [(cf25, .int), (cf6, .int), (cf2, .int), (cf27, .int), (cf26, .int), (cf31, .int), (cf32, .int), (cf33, .boolean), (cf35, .int), (cf34, .int), (cf29, .int), (cf30, .int), (cf37, .int), (cf36, .int), (cf40, .int), (cf41, .int), (cf42, .boolean), (cf44, .int), (cf43, .int)]) [0, 2, 3, 4, 5, 6, 7, 8, 9, 10, 11, 12, 13, 14, 15, 16, 17, 18, 19] rfl).app hK1
            clear hPc hDc hKc hFc hP1 hK1 hD1 hz1 hk1 ht hvm
            generalize H1 = H at hP hS ⊢
            replace hP : va_P (dC, dI) vwCl [(qf25, .inl (cf25, 400, .inl f25)), (qf6, .inl (cf6, 3002, .inl f6)), (qf2, .inl (cf2, 3000, .inl f2)), (qf27, .inl (cf27, 400, .inl g27_167)), (qf26, .inl (cf26, 400, .inl f26)), (qf31, .inl (cf31, 800, .inl f31)), (qf32, .inl (cf32, 800, .inl f32)), (qf33, .inl (cf33, 800, .inl f33)), (qf35, .inl (cf35, 800, .inl g35_167)), (qf34, .inl (cf34, 800, .inl f34)), (qf29, .inl (cf29, 800, .inl f29)), (qf30, .inl (cf30, 800, .inl f30)), (qf37, .inl (cf37, 800, .inl f37)), (qf36, .inl (cf36, 800, .inl f36)), (qf40, .inl (cf40, 1500, .inl f40)), (qf41, .inl (cf41, 1500, .inl f41)), (qf42, .inl (cf42, 1500, .inl f42)), (qf44, .inl (cf44, 1500, .inl g44_167)), (qf43, .inl (cf43, 1500, .inl f43)), (h0, .inr (13, z_6)), (qf5, .inl (cf5, 3002, .inl f5))] H := hP
            replace hD : va_D A [(qf25, .inl (cf25, 400, .inl f25)), (qf6, .inl (cf6, 3002, .inl f6)), (qf2, .inl (cf2, 3000, .inl f2)), (qf27, .inl (cf27, 400, .inl g27_167)), (qf26, .inl (cf26, 400, .inl f26)), (qf31, .inl (cf31, 800, .inl f31)), (qf32, .inl (cf32, 800, .inl f32)), (qf33, .inl (cf33, 800, .inl f33)), (qf35, .inl (cf35, 800, .inl g35_167)), (qf34, .inl (cf34, 800, .inl f34)), (qf29, .inl (cf29, 800, .inl f29)), (qf30, .inl (cf30, 800, .inl f30)), (qf37, .inl (cf37, 800, .inl f37)), (qf36, .inl (cf36, 800, .inl f36)), (qf40, .inl (cf40, 1500, .inl f40)), (qf41, .inl (cf41, 1500, .inl f41)), (qf42, .inl (cf42, 1500, .inl f42)), (qf44, .inl (cf44, 1500, .inl g44_167)), (qf43, .inl (cf43, 1500, .inl f43)), (h0, .inr (13, z_6)), (qf5, .inl (cf5, 3002, .inl f5))] := hD
            replace hK : va_K (dC, dI) vwCl [(cf25, .int), (cf6, .int), (cf2, .int), (cf27, .int), (cf26, .int), (cf31, .int), (cf32, .int), (cf33, .boolean), (cf35, .int), (cf34, .int), (cf29, .int), (cf30, .int), (cf37, .int), (cf36, .int), (cf40, .int), (cf41, .int), (cf42, .boolean), (cf44, .int), (cf43, .int), (cf5, .int)] s := hK
            obtain ⟨hwa_6, hln_6, hre_6, hch_6_10, hch_6_9⟩ := hw
            have hfk_6_2 : z_6[2]? = some (.ref qf2) := (hre_6 2 (by decide) (by decide)).trans (hfh_167_2)
            have hfk_6_5 : z_6[5]? = some (.ref qf5) := (hre_6 5 (by decide) (by decide)).trans (hfh_167_5)
            have hfk_6_6 : z_6[6]? = some (.ref qf6) := (hre_6 6 (by decide) (by decide)).trans (hfh_167_6)
            have hfk_6_24 : z_6[24]? = some (.int v24) := (hre_6 24 (by decide) (by decide)).trans (hfh_167_24)
            have hfk_6_25 : z_6[25]? = some (.ref qf25) := (hre_6 25 (by decide) (by decide)).trans (hfh_167_25)
            have hfk_6_26 : z_6[26]? = some (.ref qf26) := (hre_6 26 (by decide) (by decide)).trans (hfh_167_26)
            have hfk_6_27 : z_6[27]? = some (.ref qf27) := (hre_6 27 (by decide) (by decide)).trans (hfh_167_27)
            have hfk_6_28 : z_6[28]? = some (.int v28) := (hre_6 28 (by decide) (by decide)).trans (hfh_167_28)
            have hfk_6_29 : z_6[29]? = some (.ref qf29) := (hre_6 29 (by decide) (by decide)).trans (hfh_167_29)
            have hfk_6_30 : z_6[30]? = some (.ref qf30) := (hre_6 30 (by decide) (by decide)).trans (hfh_167_30)
            have hfk_6_31 : z_6[31]? = some (.ref qf31) := (hre_6 31 (by decide) (by decide)).trans (hfh_167_31)
            have hfk_6_32 : z_6[32]? = some (.ref qf32) := (hre_6 32 (by decide) (by decide)).trans (hfh_167_32)
            have hfk_6_33 : z_6[33]? = some (.ref qf33) := (hre_6 33 (by decide) (by decide)).trans (hfh_167_33)
            have hfk_6_34 : z_6[34]? = some (.ref qf34) := (hre_6 34 (by decide) (by decide)).trans (hfh_167_34)
            have hfk_6_35 : z_6[35]? = some (.ref qf35) := (hre_6 35 (by decide) (by decide)).trans (hfh_167_35)
            have hfk_6_36 : z_6[36]? = some (.ref qf36) := (hre_6 36 (by decide) (by decide)).trans (hfh_167_36)
            have hfk_6_37 : z_6[37]? = some (.ref qf37) := (hre_6 37 (by decide) (by decide)).trans (hfh_167_37)
            have hfk_6_40 : z_6[40]? = some (.ref qf40) := (hre_6 40 (by decide) (by decide)).trans (hfh_167_40)
            have hfk_6_41 : z_6[41]? = some (.ref qf41) := (hre_6 41 (by decide) (by decide)).trans (hfh_167_41)
            have hfk_6_42 : z_6[42]? = some (.ref qf42) := (hre_6 42 (by decide) (by decide)).trans (hfh_167_42)
            have hfk_6_43 : z_6[43]? = some (.ref qf43) := (hre_6 43 (by decide) (by decide)).trans (hfh_167_43)
            have hfk_6_44 : z_6[44]? = some (.ref qf44) := (hre_6 44 (by decide) (by decide)).trans (hfh_167_44)
            have hrq_6 : ∀ j : Nat, j ≠ 10 → j ≠ 9 → z_6[j]? = zs[j]? := fun j g10 g9 => (hre_6 j g10 g9).trans (hrh_167 j g10 g9)
            refine lv_iinc (v := (l1_167 + 1)) (lv' := [(1, .int (l1_167 + 1)), (0, .ref h0), (2, .int l2_167)]) hx hb dX13_heads_184 hl (k := 1) rfl rfl (by decide) rfl (fun ls hl => ?_)
            refine lv_goto (tgt := 50) hx hb dX13_heads_187 (by decide) ?_
            exact ih_50 H locs ls z_6 (l1_167 + 1) g27_167 g35_167 g44_167 u6_0 u6_1 (hfk_6_2) (hfk_6_5) (hfk_6_6) (hch_6_9) (hch_6_10) (hfk_6_24) (hfk_6_25) (hfk_6_26) (hfk_6_27) (hfk_6_28) (hfk_6_29) (hfk_6_30) (hfk_6_31) (hfk_6_32) (hfk_6_33) (hfk_6_34) (hfk_6_35) (hfk_6_36) (hfk_6_37) (hfk_6_40) (hfk_6_41) (hfk_6_42) (hfk_6_43) (hfk_6_44) hln_6 hrq_6 (lv_sub hl [0, 1] rfl) hS (hD.sub (ws' := [(h0, .inr (13, z_6)), (qf25, .inl (cf25, 400, .inl f25)), (qf5, .inl (cf5, 3002, .inl f5)), (qf6, .inl (cf6, 3002, .inl f6)), (qf2, .inl (cf2, 3000, .inl f2)), (qf27, .inl (cf27, 400, .inl g27_167)), (qf26, .inl (cf26, 400, .inl f26)), (qf31, .inl (cf31, 800, .inl f31)), (qf32, .inl (cf32, 800, .inl f32)), (qf33, .inl (cf33, 800, .inl f33)), (qf35, .inl (cf35, 800, .inl g35_167)), (qf34, .inl (cf34, 800, .inl f34)), (qf29, .inl (cf29, 800, .inl f29)), (qf30, .inl (cf30, 800, .inl f30)), (qf37, .inl (cf37, 800, .inl f37)), (qf36, .inl (cf36, 800, .inl f36)), (qf40, .inl (cf40, 1500, .inl f40)), (qf41, .inl (cf41, 1500, .inl f41)), (qf42, .inl (cf42, 1500, .inl f42)), (qf44, .inl (cf44, 1500, .inl g44_167)), (qf43, .inl (cf43, 1500, .inl f43))]) [19, 0, 20, 1, 2, 3, 4, 5, 6, 7, 8, 9, 10, 11, 12, 13, 14, 15, 16, 17, 18] (by decide) rfl) (hP.sub (ws' := [(h0, .inr (13, z_6)), (qf25, .inl (cf25, 400, .inl f25)), (qf5, .inl (cf5, 3002, .inl f5)), (qf6, .inl (cf6, 3002, .inl f6)), (qf2, .inl (cf2, 3000, .inl f2)), (qf27, .inl (cf27, 400, .inl g27_167)), (qf26, .inl (cf26, 400, .inl f26)), (qf31, .inl (cf31, 800, .inl f31)), (qf32, .inl (cf32, 800, .inl f32)), (qf33, .inl (cf33, 800, .inl f33)), (qf35, .inl (cf35, 800, .inl g35_167)), (qf34, .inl (cf34, 800, .inl f34)), (qf29, .inl (cf29, 800, .inl f29)), (qf30, .inl (cf30, 800, .inl f30)), (qf37, .inl (cf37, 800, .inl f37)), (qf36, .inl (cf36, 800, .inl f36)), (qf40, .inl (cf40, 1500, .inl f40)), (qf41, .inl (cf41, 1500, .inl f41)), (qf42, .inl (cf42, 1500, .inl f42)), (qf44, .inl (cf44, 1500, .inl g44_167)), (qf43, .inl (cf43, 1500, .inl f43))]) [19, 0, 20, 1, 2, 3, 4, 5, 6, 7, 8, 9, 10, 11, 12, 13, 14, 15, 16, 17, 18] rfl) hsp
        intro hj_167
        refine jn_use (α := Heap × List Loc × Array Slot × List Value × Int32 × (Nat → Int32) × (Nat → Int32) × (Nat → Int32) × Int32 × Int32) (fun x9 => x9.1) (fun x9 => x9.2.1) (fun x9 => F0 m 132 x9.2.2.1 []) (fun x9 => match x9 with | (H, locs, ls, z132, l1_132, g27_132, g35_132, g44_132, x10_132, x9_132) => lv_has ls 4 [(0, .ref h0), (1, .int l1_132)] ∧ va_S A s.heap H locs ∧ va_D A [(h0, .inr (13, z132)), (qf25, .inl (cf25, 400, .inl f25)), (qf5, .inl (cf5, 3002, .inl f5)), (qf6, .inl (cf6, 3002, .inl f6)), (qf2, .inl (cf2, 3000, .inl f2)), (qf27, .inl (cf27, 400, .inl g27_132)), (qf26, .inl (cf26, 400, .inl f26)), (qf31, .inl (cf31, 800, .inl f31)), (qf32, .inl (cf32, 800, .inl f32)), (qf33, .inl (cf33, 800, .inl f33)), (qf35, .inl (cf35, 800, .inl g35_132)), (qf34, .inl (cf34, 800, .inl f34)), (qf29, .inl (cf29, 800, .inl f29)), (qf30, .inl (cf30, 800, .inl f30)), (qf37, .inl (cf37, 800, .inl f37)), (qf36, .inl (cf36, 800, .inl f36)), (qf40, .inl (cf40, 1500, .inl f40)), (qf41, .inl (cf41, 1500, .inl f41)), (qf42, .inl (cf42, 1500, .inl f42)), (qf44, .inl (cf44, 1500, .inl g44_132)), (qf43, .inl (cf43, 1500, .inl f43))] ∧ va_P (dC, dI) vwCl [(h0, .inr (13, z132)), (qf25, .inl (cf25, 400, .inl f25)), (qf5, .inl (cf5, 3002, .inl f5)), (qf6, .inl (cf6, 3002, .inl f6)), (qf2, .inl (cf2, 3000, .inl f2)), (qf27, .inl (cf27, 400, .inl g27_132)), (qf26, .inl (cf26, 400, .inl f26)), (qf31, .inl (cf31, 800, .inl f31)), (qf32, .inl (cf32, 800, .inl f32)), (qf33, .inl (cf33, 800, .inl f33)), (qf35, .inl (cf35, 800, .inl g35_132)), (qf34, .inl (cf34, 800, .inl f34)), (qf29, .inl (cf29, 800, .inl f29)), (qf30, .inl (cf30, 800, .inl f30)), (qf37, .inl (cf37, 800, .inl f37)), (qf36, .inl (cf36, 800, .inl f36)), (qf40, .inl (cf40, 1500, .inl f40)), (qf41, .inl (cf41, 1500, .inl f41)), (qf42, .inl (cf42, 1500, .inl f42)), (qf44, .inl (cf44, 1500, .inl g44_132)), (qf43, .inl (cf43, 1500, .inl f43))] H ∧ z132[2]? = some (.ref qf2) ∧ z132[5]? = some (.ref qf5) ∧ z132[6]? = some (.ref qf6) ∧ z132[9]? = some (.int x9_132) ∧ z132[10]? = some (.int x10_132) ∧ z132[24]? = some (.int v24) ∧ z132[25]? = some (.ref qf25) ∧ z132[26]? = some (.ref qf26) ∧ z132[27]? = some (.ref qf27) ∧ z132[28]? = some (.int v28) ∧ z132[29]? = some (.ref qf29) ∧ z132[30]? = some (.ref qf30) ∧ z132[31]? = some (.ref qf31) ∧ z132[32]? = some (.ref qf32) ∧ z132[33]? = some (.ref qf33) ∧ z132[34]? = some (.ref qf34) ∧ z132[35]? = some (.ref qf35) ∧ z132[36]? = some (.ref qf36) ∧ z132[37]? = some (.ref qf37) ∧ z132[40]? = some (.ref qf40) ∧ z132[41]? = some (.ref qf41) ∧ z132[42]? = some (.ref qf42) ∧ z132[43]? = some (.ref qf43) ∧ z132[44]? = some (.ref qf44) ∧ z132.length = 155 ∧ (∀ j : Nat, j ≠ 10 → j ≠ 9 → z132[j]? = zs[j]?) ∧ jn_vm_heads_132 nf v9 v10 v24 v28 f25 f5 f6 f2 f27 f26 f31 f32 f33 f35 f34 f29 f30 f37 f36 f40 f41 f42 f44 f43 nS477 fS477 (lp_vm_heads_50 nf n_50 v9 v10 v24 v28 f25 f5 f6 f2 f27 f26 f31 f32 f33 f35 f34 f29 f30 f37 f36 f40 f41 f42 f44 f43 nS477 fS477) l1_132 g27_132 g35_132 g44_132 x10_132 x9_132 = some (o27, o35, o44, w10, w9)) ?_ ?_
        · intro x9 hJ9
          obtain ⟨H, locs, ls, z132, l1_132, g27_132, g35_132, g44_132, x10_132, x9_132⟩ := x9
          obtain ⟨hl, hS, hD, hP, hfh_132_2, hfh_132_5, hfh_132_6, hfh_132_9, hfh_132_10, hfh_132_24, hfh_132_25, hfh_132_26, hfh_132_27, hfh_132_28, hfh_132_29, hfh_132_30, hfh_132_31, hfh_132_32, hfh_132_33, hfh_132_34, hfh_132_35, hfh_132_36, hfh_132_37, hfh_132_40, hfh_132_41, hfh_132_42, hfh_132_43, hfh_132_44, hlh_132, hrh_132, hsp⟩ := hJ9
          replace hl : lv_has ls 4 [(0, .ref h0), (1, .int l1_132)] := hl
          replace hS : va_S A s.heap H locs := hS
          replace hD : va_D A [(h0, .inr (13, z132)), (qf25, .inl (cf25, 400, .inl f25)), (qf5, .inl (cf5, 3002, .inl f5)), (qf6, .inl (cf6, 3002, .inl f6)), (qf2, .inl (cf2, 3000, .inl f2)), (qf27, .inl (cf27, 400, .inl g27_132)), (qf26, .inl (cf26, 400, .inl f26)), (qf31, .inl (cf31, 800, .inl f31)), (qf32, .inl (cf32, 800, .inl f32)), (qf33, .inl (cf33, 800, .inl f33)), (qf35, .inl (cf35, 800, .inl g35_132)), (qf34, .inl (cf34, 800, .inl f34)), (qf29, .inl (cf29, 800, .inl f29)), (qf30, .inl (cf30, 800, .inl f30)), (qf37, .inl (cf37, 800, .inl f37)), (qf36, .inl (cf36, 800, .inl f36)), (qf40, .inl (cf40, 1500, .inl f40)), (qf41, .inl (cf41, 1500, .inl f41)), (qf42, .inl (cf42, 1500, .inl f42)), (qf44, .inl (cf44, 1500, .inl g44_132)), (qf43, .inl (cf43, 1500, .inl f43))] := hD
          replace hP : va_P (dC, dI) vwCl [(h0, .inr (13, z132)), (qf25, .inl (cf25, 400, .inl f25)), (qf5, .inl (cf5, 3002, .inl f5)), (qf6, .inl (cf6, 3002, .inl f6)), (qf2, .inl (cf2, 3000, .inl f2)), (qf27, .inl (cf27, 400, .inl g27_132)), (qf26, .inl (cf26, 400, .inl f26)), (qf31, .inl (cf31, 800, .inl f31)), (qf32, .inl (cf32, 800, .inl f32)), (qf33, .inl (cf33, 800, .inl f33)), (qf35, .inl (cf35, 800, .inl g35_132)), (qf34, .inl (cf34, 800, .inl f34)), (qf29, .inl (cf29, 800, .inl f29)), (qf30, .inl (cf30, 800, .inl f30)), (qf37, .inl (cf37, 800, .inl f37)), (qf36, .inl (cf36, 800, .inl f36)), (qf40, .inl (cf40, 1500, .inl f40)), (qf41, .inl (cf41, 1500, .inl f41)), (qf42, .inl (cf42, 1500, .inl f42)), (qf44, .inl (cf44, 1500, .inl g44_132)), (qf43, .inl (cf43, 1500, .inl f43))] H := hP
          replace hsp : jn_vm_heads_132 nf v9 v10 v24 v28 f25 f5 f6 f2 f27 f26 f31 f32 f33 f35 f34 f29 f30 f37 f36 f40 f41 f42 f44 f43 nS477 fS477 (lp_vm_heads_50 nf n_50 v9 v10 v24 v28 f25 f5 f6 f2 f27 f26 f31 f32 f33 f35 f34 f29 f30 f37 f36 f40 f41 f42 f44 f43 nS477 fS477) l1_132 g27_132 g35_132 g44_132 x10_132 x9_132 = some (o27, o35, o44, w10, w9) := hsp
          show W _ _ _ _ _ _ _ _ _ _ H locs _ _ _ (F0 m 132 ls [])
          unfold jn_vm_heads_132 at hsp
          try dsimp only at hsp
          refine lv_bipush (v := 8) hx hb dX13_heads_132 (by decide) ?_
          refine lv_iload_n hx hb dX13_heads_134 rfl (lv_at hl 1 rfl) ?_
          refine lv_iadd hx hb dX13_heads_135 ?_
          refine lv_istore_n (lv' := [(2, .int (8 + l1_132)), (0, .ref h0), (1, .int l1_132)]) hx hb dX13_heads_136 rfl hl (by decide) rfl (fun ls hl => ?_)
          refine lv_iconst (v := 0) hx hb dX13_heads_137 (by decide) ?_
          refine lv_istore_n (lv' := [(3, .int 0), (2, .int (8 + l1_132)), (0, .ref h0), (1, .int l1_132)]) hx hb dX13_heads_138 rfl hl (by decide) rfl (fun ls hl => ?_)
          replace hl : lv_has ls 4 [(3, .int 0), (2, .int (8 + l1_132)), (0, .ref h0), (1, .int l1_132)] := lv_sub hl [0, 1, 2, 3] rfl
          replace hP := hP.sub (ws' := [(h0, .inr (13, z132)), (qf25, .inl (cf25, 400, .inl f25)), (qf5, .inl (cf5, 3002, .inl f5)), (qf6, .inl (cf6, 3002, .inl f6)), (qf2, .inl (cf2, 3000, .inl f2)), (qf27, .inl (cf27, 400, .inl g27_132)), (qf26, .inl (cf26, 400, .inl f26)), (qf31, .inl (cf31, 800, .inl f31)), (qf32, .inl (cf32, 800, .inl f32)), (qf33, .inl (cf33, 800, .inl f33)), (qf35, .inl (cf35, 800, .inl g35_132)), (qf34, .inl (cf34, 800, .inl f34)), (qf29, .inl (cf29, 800, .inl f29)), (qf30, .inl (cf30, 800, .inl f30)), (qf37, .inl (cf37, 800, .inl f37)), (qf36, .inl (cf36, 800, .inl f36)), (qf40, .inl (cf40, 1500, .inl f40)), (qf41, .inl (cf41, 1500, .inl f41)), (qf42, .inl (cf42, 1500, .inl f42)), (qf44, .inl (cf44, 1500, .inl g44_132)), (qf43, .inl (cf43, 1500, .inl f43))]) [0, 1, 2, 3, 4, 5, 6, 7, 8, 9, 10, 11, 12, 13, 14, 15, 16, 17, 18, 19, 20] rfl
          replace hD := hD.sub (ws' := [(h0, .inr (13, z132)), (qf25, .inl (cf25, 400, .inl f25)), (qf5, .inl (cf5, 3002, .inl f5)), (qf6, .inl (cf6, 3002, .inl f6)), (qf2, .inl (cf2, 3000, .inl f2)), (qf27, .inl (cf27, 400, .inl g27_132)), (qf26, .inl (cf26, 400, .inl f26)), (qf31, .inl (cf31, 800, .inl f31)), (qf32, .inl (cf32, 800, .inl f32)), (qf33, .inl (cf33, 800, .inl f33)), (qf35, .inl (cf35, 800, .inl g35_132)), (qf34, .inl (cf34, 800, .inl f34)), (qf29, .inl (cf29, 800, .inl f29)), (qf30, .inl (cf30, 800, .inl f30)), (qf37, .inl (cf37, 800, .inl f37)), (qf36, .inl (cf36, 800, .inl f36)), (qf40, .inl (cf40, 1500, .inl f40)), (qf41, .inl (cf41, 1500, .inl f41)), (qf42, .inl (cf42, 1500, .inl f42)), (qf44, .inl (cf44, 1500, .inl g44_132)), (qf43, .inl (cf43, 1500, .inl f43))]) [0, 1, 2, 3, 4, 5, 6, 7, 8, 9, 10, 11, 12, 13, 14, 15, 16, 17, 18, 19, 20] (by decide) rfl
          replace hK := hK.sub (tys' := [(cf25, .int), (cf5, .int), (cf6, .int), (cf2, .int), (cf27, .int), (cf26, .int), (cf31, .int), (cf32, .int), (cf33, .boolean), (cf35, .int), (cf34, .int), (cf29, .int), (cf30, .int), (cf37, .int), (cf36, .int), (cf40, .int), (cf41, .int), (cf42, .boolean), (cf44, .int), (cf43, .int)]) [0, 1, 2, 3, 4, 5, 6, 7, 8, 9, 10, 11, 12, 13, 14, 15, 16, 17, 18, 19] rfl
          obtain ⟨n_139, hn_139⟩ : ∃ z : Nat, z = nf := ⟨_, rfl⟩
          obtain ⟨l1_139, el1_139⟩ : ∃ z : Int32, z = l1_132 := ⟨_, rfl⟩
          obtain ⟨l2_139, el2_139⟩ : ∃ z : Int32, z = (8 + l1_132) := ⟨_, rfl⟩
          obtain ⟨l3_139, el3_139⟩ : ∃ z : Int32, z = 0 := ⟨_, rfl⟩
          obtain ⟨g27_139, eg27_139⟩ : ∃ z : Nat → Int32, z = g27_132 := ⟨_, rfl⟩
          obtain ⟨g35_139, eg35_139⟩ : ∃ z : Nat → Int32, z = g35_132 := ⟨_, rfl⟩
          obtain ⟨g44_139, eg44_139⟩ : ∃ z : Nat → Int32, z = g44_132 := ⟨_, rfl⟩
          obtain ⟨x10_139, ex10_139⟩ : ∃ z : Int32, z = x10_132 := ⟨_, rfl⟩
          obtain ⟨x9_139, ex9_139⟩ : ∃ z : Int32, z = x9_132 := ⟨_, rfl⟩
          replace hsp : lp_vm_heads_139 nf n_139 v9 v10 v24 v28 f25 f5 f6 f2 f27 f26 f31 f32 f33 f35 f34 f29 f30 f37 f36 f40 f41 f42 f44 f43 nS477 fS477 (lp_vm_heads_50 nf n_50 v9 v10 v24 v28 f25 f5 f6 f2 f27 f26 f31 f32 f33 f35 f34 f29 f30 f37 f36 f40 f41 f42 f44 f43 nS477 fS477) l1_139 l2_139 l3_139 g27_139 g35_139 g44_139 x10_139 x9_139 = some (o27, o35, o44, w10, w9) := by rw [hn_139, el1_139, el2_139, el3_139, eg27_139, eg35_139, eg44_139, ex10_139, ex9_139]; exact hsp
          replace hl : lv_has ls 4 [(3, .int l3_139), (2, .int l2_139), (0, .ref h0), (1, .int l1_139)] := by rw [el1_139, el2_139, el3_139]; exact hl
          obtain ⟨z139, ez139⟩ : ∃ z : List Value, z = z132 := ⟨_, rfl⟩
          have hfh_139_2 : z139[2]? = some (.ref qf2) := by rw [ez139]; exact hfh_132_2
          have hfh_139_5 : z139[5]? = some (.ref qf5) := by rw [ez139]; exact hfh_132_5
          have hfh_139_6 : z139[6]? = some (.ref qf6) := by rw [ez139]; exact hfh_132_6
          have hfh_139_9 : z139[9]? = some (.int x9_139) := by rw [ez139, ex9_139]; exact hfh_132_9
          have hfh_139_10 : z139[10]? = some (.int x10_139) := by rw [ez139, ex10_139]; exact hfh_132_10
          have hfh_139_24 : z139[24]? = some (.int v24) := by rw [ez139]; exact hfh_132_24
          have hfh_139_25 : z139[25]? = some (.ref qf25) := by rw [ez139]; exact hfh_132_25
          have hfh_139_26 : z139[26]? = some (.ref qf26) := by rw [ez139]; exact hfh_132_26
          have hfh_139_27 : z139[27]? = some (.ref qf27) := by rw [ez139]; exact hfh_132_27
          have hfh_139_28 : z139[28]? = some (.int v28) := by rw [ez139]; exact hfh_132_28
          have hfh_139_29 : z139[29]? = some (.ref qf29) := by rw [ez139]; exact hfh_132_29
          have hfh_139_30 : z139[30]? = some (.ref qf30) := by rw [ez139]; exact hfh_132_30
          have hfh_139_31 : z139[31]? = some (.ref qf31) := by rw [ez139]; exact hfh_132_31
          have hfh_139_32 : z139[32]? = some (.ref qf32) := by rw [ez139]; exact hfh_132_32
          have hfh_139_33 : z139[33]? = some (.ref qf33) := by rw [ez139]; exact hfh_132_33
          have hfh_139_34 : z139[34]? = some (.ref qf34) := by rw [ez139]; exact hfh_132_34
          have hfh_139_35 : z139[35]? = some (.ref qf35) := by rw [ez139]; exact hfh_132_35
          have hfh_139_36 : z139[36]? = some (.ref qf36) := by rw [ez139]; exact hfh_132_36
          have hfh_139_37 : z139[37]? = some (.ref qf37) := by rw [ez139]; exact hfh_132_37
          have hfh_139_40 : z139[40]? = some (.ref qf40) := by rw [ez139]; exact hfh_132_40
          have hfh_139_41 : z139[41]? = some (.ref qf41) := by rw [ez139]; exact hfh_132_41
          have hfh_139_42 : z139[42]? = some (.ref qf42) := by rw [ez139]; exact hfh_132_42
          have hfh_139_43 : z139[43]? = some (.ref qf43) := by rw [ez139]; exact hfh_132_43
          have hfh_139_44 : z139[44]? = some (.ref qf44) := by rw [ez139]; exact hfh_132_44
          have hlh_139 : z139.length = 155 := by rw [ez139]; exact hlh_132
          have hrh_139 : ∀ j : Nat, j ≠ 10 → j ≠ 9 → z139[j]? = zs[j]? := by rw [ez139]; exact hrh_132
          replace hP : va_P (dC, dI) vwCl [(h0, .inr (13, z139)), (qf25, .inl (cf25, 400, .inl f25)), (qf5, .inl (cf5, 3002, .inl f5)), (qf6, .inl (cf6, 3002, .inl f6)), (qf2, .inl (cf2, 3000, .inl f2)), (qf27, .inl (cf27, 400, .inl g27_139)), (qf26, .inl (cf26, 400, .inl f26)), (qf31, .inl (cf31, 800, .inl f31)), (qf32, .inl (cf32, 800, .inl f32)), (qf33, .inl (cf33, 800, .inl f33)), (qf35, .inl (cf35, 800, .inl g35_139)), (qf34, .inl (cf34, 800, .inl f34)), (qf29, .inl (cf29, 800, .inl f29)), (qf30, .inl (cf30, 800, .inl f30)), (qf37, .inl (cf37, 800, .inl f37)), (qf36, .inl (cf36, 800, .inl f36)), (qf40, .inl (cf40, 1500, .inl f40)), (qf41, .inl (cf41, 1500, .inl f41)), (qf42, .inl (cf42, 1500, .inl f42)), (qf44, .inl (cf44, 1500, .inl g44_139)), (qf43, .inl (cf43, 1500, .inl f43))] H := by rw [ez139, eg27_139, eg35_139, eg44_139]; exact hP
          replace hD : va_D A [(h0, .inr (13, z139)), (qf25, .inl (cf25, 400, .inl f25)), (qf5, .inl (cf5, 3002, .inl f5)), (qf6, .inl (cf6, 3002, .inl f6)), (qf2, .inl (cf2, 3000, .inl f2)), (qf27, .inl (cf27, 400, .inl g27_139)), (qf26, .inl (cf26, 400, .inl f26)), (qf31, .inl (cf31, 800, .inl f31)), (qf32, .inl (cf32, 800, .inl f32)), (qf33, .inl (cf33, 800, .inl f33)), (qf35, .inl (cf35, 800, .inl g35_139)), (qf34, .inl (cf34, 800, .inl f34)), (qf29, .inl (cf29, 800, .inl f29)), (qf30, .inl (cf30, 800, .inl f30)), (qf37, .inl (cf37, 800, .inl f37)), (qf36, .inl (cf36, 800, .inl f36)), (qf40, .inl (cf40, 1500, .inl f40)), (qf41, .inl (cf41, 1500, .inl f41)), (qf42, .inl (cf42, 1500, .inl f42)), (qf44, .inl (cf44, 1500, .inl g44_139)), (qf43, .inl (cf43, 1500, .inl f43))] := by rw [ez139, eg27_139, eg35_139, eg44_139]; exact hD
          clear hn_139 ez139 el1_139 el2_139 el3_139 eg27_139 eg35_139 eg44_139 ex10_139 ex9_139
          try clear hlo
          try clear hH
          revert hsp
          revert hP
          revert hD
          revert hS
          revert hl
          revert hrh_139
          revert hlh_139
          revert hfh_139_44
          revert hfh_139_43
          revert hfh_139_42
          revert hfh_139_41
          revert hfh_139_40
          revert hfh_139_37
          revert hfh_139_36
          revert hfh_139_35
          revert hfh_139_34
          revert hfh_139_33
          revert hfh_139_32
          revert hfh_139_31
          revert hfh_139_30
          revert hfh_139_29
          revert hfh_139_28
          revert hfh_139_27
          revert hfh_139_26
          revert hfh_139_25
          revert hfh_139_24
          revert hfh_139_10
          revert hfh_139_9
          revert hfh_139_6
          revert hfh_139_5
          revert hfh_139_2
          revert x9_139
          revert x10_139
          revert g44_139
          revert g35_139
          revert g27_139
          revert l3_139
          revert l2_139
          revert l1_139
          revert z139
          revert ls
          revert locs
          revert H
          induction n_139 with
          | zero => intro H locs ls z139 l1_139 l2_139 l3_139 g27_139 g35_139 g44_139 x10_139 x9_139 hfh_139_2 hfh_139_5 hfh_139_6 hfh_139_9 hfh_139_10 hfh_139_24 hfh_139_25 hfh_139_26 hfh_139_27 hfh_139_28 hfh_139_29 hfh_139_30 hfh_139_31 hfh_139_32 hfh_139_33 hfh_139_34 hfh_139_35 hfh_139_36 hfh_139_37 hfh_139_40 hfh_139_41 hfh_139_42 hfh_139_43 hfh_139_44 hlh_139 hrh_139 hl hS hD hP hsp; unfold lp_vm_heads_139 at hsp; cases hsp
          | succ n_139 ih_139 =>
            intro H locs ls z139 l1_139 l2_139 l3_139 g27_139 g35_139 g44_139 x10_139 x9_139 hfh_139_2 hfh_139_5 hfh_139_6 hfh_139_9 hfh_139_10 hfh_139_24 hfh_139_25 hfh_139_26 hfh_139_27 hfh_139_28 hfh_139_29 hfh_139_30 hfh_139_31 hfh_139_32 hfh_139_33 hfh_139_34 hfh_139_35 hfh_139_36 hfh_139_37 hfh_139_40 hfh_139_41 hfh_139_42 hfh_139_43 hfh_139_44 hlh_139 hrh_139 hl hS hD hP hsp
            unfold lp_vm_heads_139 at hsp
            try dsimp only at hsp
            refine lv_iload_n hx hb dX13_heads_139 rfl (lv_at hl 0 rfl) ?_
            refine lv_aload_n hx hb dX13_heads_140 rfl (lv_at hl 2 rfl) ?_
            refine va_get (D := (dC, dI)) (ci := 13) (v := .int v24) (C := RX13) (T := TX13) (N := 155) hx hb hts uV_h9_X13 hown hK hP 0 rfl rfl 24 (by decide) (hts (.fieldLink RX13 409 "ClassMillModel" "classes" "I") mw_h9_93) (fun _ h9 => h9) hfh_139_24 dX13_heads_141 ?_
            refine lv_bipush (v := 9) hx hb dX13_heads_144 (by decide) ?_
            refine lv_iadd hx hb dX13_heads_146 ?_
            refine lv_icmp_gt (tgt := 167) hx hb dX13_heads_147 (by decide) (fun c_13 => ?_) (fun c_13 => ?_)
            · rw [if_pos c_13] at hsp
              exact hj_167 (H, locs, ls, z139, l1_139, l2_139, g27_139, g35_139, g44_139, x10_139, x9_139) ⟨lv_sub hl [2, 3, 1] rfl, hS, hD.sub (ws' := [(h0, .inr (13, z139)), (qf25, .inl (cf25, 400, .inl f25)), (qf5, .inl (cf5, 3002, .inl f5)), (qf6, .inl (cf6, 3002, .inl f6)), (qf2, .inl (cf2, 3000, .inl f2)), (qf27, .inl (cf27, 400, .inl g27_139)), (qf26, .inl (cf26, 400, .inl f26)), (qf31, .inl (cf31, 800, .inl f31)), (qf32, .inl (cf32, 800, .inl f32)), (qf33, .inl (cf33, 800, .inl f33)), (qf35, .inl (cf35, 800, .inl g35_139)), (qf34, .inl (cf34, 800, .inl f34)), (qf29, .inl (cf29, 800, .inl f29)), (qf30, .inl (cf30, 800, .inl f30)), (qf37, .inl (cf37, 800, .inl f37)), (qf36, .inl (cf36, 800, .inl f36)), (qf40, .inl (cf40, 1500, .inl f40)), (qf41, .inl (cf41, 1500, .inl f41)), (qf42, .inl (cf42, 1500, .inl f42)), (qf44, .inl (cf44, 1500, .inl g44_139)), (qf43, .inl (cf43, 1500, .inl f43))]) [0, 1, 2, 3, 4, 5, 6, 7, 8, 9, 10, 11, 12, 13, 14, 15, 16, 17, 18, 19, 20] (by decide) rfl, hP.sub (ws' := [(h0, .inr (13, z139)), (qf25, .inl (cf25, 400, .inl f25)), (qf5, .inl (cf5, 3002, .inl f5)), (qf6, .inl (cf6, 3002, .inl f6)), (qf2, .inl (cf2, 3000, .inl f2)), (qf27, .inl (cf27, 400, .inl g27_139)), (qf26, .inl (cf26, 400, .inl f26)), (qf31, .inl (cf31, 800, .inl f31)), (qf32, .inl (cf32, 800, .inl f32)), (qf33, .inl (cf33, 800, .inl f33)), (qf35, .inl (cf35, 800, .inl g35_139)), (qf34, .inl (cf34, 800, .inl f34)), (qf29, .inl (cf29, 800, .inl f29)), (qf30, .inl (cf30, 800, .inl f30)), (qf37, .inl (cf37, 800, .inl f37)), (qf36, .inl (cf36, 800, .inl f36)), (qf40, .inl (cf40, 1500, .inl f40)), (qf41, .inl (cf41, 1500, .inl f41)), (qf42, .inl (cf42, 1500, .inl f42)), (qf44, .inl (cf44, 1500, .inl g44_139)), (qf43, .inl (cf43, 1500, .inl f43))]) [0, 1, 2, 3, 4, 5, 6, 7, 8, 9, 10, 11, 12, 13, 14, 15, 16, 17, 18, 19, 20] rfl, hfh_139_2, hfh_139_5, hfh_139_6, hfh_139_9, hfh_139_10, hfh_139_24, hfh_139_25, hfh_139_26, hfh_139_27, hfh_139_28, hfh_139_29, hfh_139_30, hfh_139_31, hfh_139_32, hfh_139_33, hfh_139_34, hfh_139_35, hfh_139_36, hfh_139_37, hfh_139_40, hfh_139_41, hfh_139_42, hfh_139_43, hfh_139_44, hlh_139, hrh_139, hsp⟩
            · rw [if_neg c_13] at hsp
              refine lv_iload_n hx hb dX13_heads_150 rfl (lv_at hl 1 rfl) ?_
              refine lv_iconst (v := (-1)) hx hb dX13_heads_151 (by decide) ?_
              refine lv_icmp_eq (tgt := 167) hx hb dX13_heads_152 (by decide) (fun c_14 => ?_) (fun c_14 => ?_)
              · rw [if_pos c_14] at hsp
                exact hj_167 (H, locs, ls, z139, l1_139, l2_139, g27_139, g35_139, g44_139, x10_139, x9_139) ⟨lv_sub hl [2, 3, 1] rfl, hS, hD.sub (ws' := [(h0, .inr (13, z139)), (qf25, .inl (cf25, 400, .inl f25)), (qf5, .inl (cf5, 3002, .inl f5)), (qf6, .inl (cf6, 3002, .inl f6)), (qf2, .inl (cf2, 3000, .inl f2)), (qf27, .inl (cf27, 400, .inl g27_139)), (qf26, .inl (cf26, 400, .inl f26)), (qf31, .inl (cf31, 800, .inl f31)), (qf32, .inl (cf32, 800, .inl f32)), (qf33, .inl (cf33, 800, .inl f33)), (qf35, .inl (cf35, 800, .inl g35_139)), (qf34, .inl (cf34, 800, .inl f34)), (qf29, .inl (cf29, 800, .inl f29)), (qf30, .inl (cf30, 800, .inl f30)), (qf37, .inl (cf37, 800, .inl f37)), (qf36, .inl (cf36, 800, .inl f36)), (qf40, .inl (cf40, 1500, .inl f40)), (qf41, .inl (cf41, 1500, .inl f41)), (qf42, .inl (cf42, 1500, .inl f42)), (qf44, .inl (cf44, 1500, .inl g44_139)), (qf43, .inl (cf43, 1500, .inl f43))]) [0, 1, 2, 3, 4, 5, 6, 7, 8, 9, 10, 11, 12, 13, 14, 15, 16, 17, 18, 19, 20] (by decide) rfl, hP.sub (ws' := [(h0, .inr (13, z139)), (qf25, .inl (cf25, 400, .inl f25)), (qf5, .inl (cf5, 3002, .inl f5)), (qf6, .inl (cf6, 3002, .inl f6)), (qf2, .inl (cf2, 3000, .inl f2)), (qf27, .inl (cf27, 400, .inl g27_139)), (qf26, .inl (cf26, 400, .inl f26)), (qf31, .inl (cf31, 800, .inl f31)), (qf32, .inl (cf32, 800, .inl f32)), (qf33, .inl (cf33, 800, .inl f33)), (qf35, .inl (cf35, 800, .inl g35_139)), (qf34, .inl (cf34, 800, .inl f34)), (qf29, .inl (cf29, 800, .inl f29)), (qf30, .inl (cf30, 800, .inl f30)), (qf37, .inl (cf37, 800, .inl f37)), (qf36, .inl (cf36, 800, .inl f36)), (qf40, .inl (cf40, 1500, .inl f40)), (qf41, .inl (cf41, 1500, .inl f41)), (qf42, .inl (cf42, 1500, .inl f42)), (qf44, .inl (cf44, 1500, .inl g44_139)), (qf43, .inl (cf43, 1500, .inl f43))]) [0, 1, 2, 3, 4, 5, 6, 7, 8, 9, 10, 11, 12, 13, 14, 15, 16, 17, 18, 19, 20] rfl, hfh_139_2, hfh_139_5, hfh_139_6, hfh_139_9, hfh_139_10, hfh_139_24, hfh_139_25, hfh_139_26, hfh_139_27, hfh_139_28, hfh_139_29, hfh_139_30, hfh_139_31, hfh_139_32, hfh_139_33, hfh_139_34, hfh_139_35, hfh_139_36, hfh_139_37, hfh_139_40, hfh_139_41, hfh_139_42, hfh_139_43, hfh_139_44, hlh_139, hrh_139, hsp⟩
              · rw [if_neg c_14] at hsp
                refine lv_aload_n hx hb dX13_heads_155 rfl (lv_at hl 2 rfl) ?_
                refine lv_iload_n hx hb dX13_heads_156 rfl (lv_at hl 1 rfl) ?_
                obtain ⟨u5_0, hu_5, hsp⟩ := ox_bind hsp
                try dsimp only at hsp
                have hPc := hP.sub (ws' := [(h0, .inr (13, z139)), (qf27, .inl (cf27, 400, .inl g27_139))]) [0, 5] rfl
                have hDc := hD.sub (ws' := [(h0, .inr (13, z139)), (qf27, .inl (cf27, 400, .inl g27_139))]) [0, 5] (by decide) rfl
                have hKc := hK.sub (tys' := [(cf27, .int)]) [4] rfl
                have hFc := va_free (wc := [(h0, .inr (13, z139)), (qf27, .inl (cf27, 400, .inl g27_139))]) hD hS hA [0, 5] rfl
                refine va_calli (va_runV (As := [.int l2_139]) (rest := []) ⟨hx, hb, hml, hown, hts⟩ (tm_upperOf l dC dI H.size h0 z139 l2_139 qf27 cf27 g27_139 nf u5_0 hlh_139 hfh_139_27 hu_5) (cwV 1 hts gv_h9_19 rfl rfl rfl (by decide +kernel) ⟨Nat.le_of_ble_eq_true rfl, Nat.le_of_ble_eq_true rfl⟩) ⟨fun a U g mk q => by obtain ⟨q0, q1, qP, qK, qD⟩ := q; exact ⟨q0, q1, qP, va_K.moved (u := U) (U := U.calling g mk a) (Vm.Alike.refl U.vm) qK, qD⟩, va_recv hKc hPc (ci := 13) (q0 := 0) rfl rfl, fun U hU hW => ⟨rfl, by rw [hU], by rw [hU]; exact hPc, va_K.moved hW.alike hKc, hDc.weaken (fun _ _ _ _ => trivial)⟩⟩ rfl rfl hl.1 rfl (lv_room (Nat.le_of_ble_eq_true rfl)) dX13_heads_157 ⟨Nat.le_of_ble_eq_true rfl, Nat.le_of_ble_eq_true rfl⟩) hS (fun q _ h => hFc q h) hFc ?_
                clear hS
                intro r_15 u t H1 locs ht hvm hw hB hz1 hk1 hS
                obtain ⟨z_5, rfl⟩ : ∃ z, z = u := ⟨_, rfl⟩
                obtain ⟨hP1, hK1, hD1⟩ := hB
                rw [ht] at hP1
                have hK1 := va_K.moved hvm.symm hK1
                try dsimp only at hw
                have hPD := va_join (wr := [(qf25, .inl (cf25, 400, .inl f25)), (qf5, .inl (cf5, 3002, .inl f5)), (qf6, .inl (cf6, 3002, .inl f6)), (qf2, .inl (cf2, 3000, .inl f2)), (qf26, .inl (cf26, 400, .inl f26)), (qf31, .inl (cf31, 800, .inl f31)), (qf32, .inl (cf32, 800, .inl f32)), (qf33, .inl (cf33, 800, .inl f33)), (qf35, .inl (cf35, 800, .inl g35_139)), (qf34, .inl (cf34, 800, .inl f34)), (qf29, .inl (cf29, 800, .inl f29)), (qf30, .inl (cf30, 800, .inl f30)), (qf37, .inl (cf37, 800, .inl f37)), (qf36, .inl (cf36, 800, .inl f36)), (qf40, .inl (cf40, 1500, .inl f40)), (qf41, .inl (cf41, 1500, .inl f41)), (qf42, .inl (cf42, 1500, .inl f42)), (qf44, .inl (cf44, 1500, .inl g44_139)), (qf43, .inl (cf43, 1500, .inl f43))]) (w1 := [(h0, .inr (13, z_5)), (qf27, .inl (cf27, 400, .inl g27_139))]) hP hD [0, 5] [1, 2, 3, 4, 6, 7, 8, 9, 10, 11, 12, 13, 14, 15, 16, 17, 18, 19, 20] rfl rfl (by decide) (by decide) hk1 hFc hP1 hD1
                clear hP hD
                obtain ⟨hP, hD⟩ := hPD
                replace hK := (hK.sub (tys' := [(cf25, .int), (cf5, .int), (cf6, .int), (cf2, .int), (cf26, .int), (cf31, .int), (cf32, .int), (cf33, .boolean), (cf35, .int), (cf34, .int), (cf29, .int), (cf30, .int), (cf37, .int), (cf36, .int), (cf40, .int), (cf41, .int), (cf42, .boolean), (cf44, .int), (cf43, .int)]) [0, 1, 2, 3, 5, 6, 7, 8, 9, 10, 11, 12, 13, 14, 15, 16, 17, 18, 19] rfl).app hK1
                clear hPc hDc hKc hFc hP1 hK1 hD1 hz1 hk1 ht hvm
                generalize H1 = H at hP hS ⊢
                replace hP : va_P (dC, dI) vwCl [(qf25, .inl (cf25, 400, .inl f25)), (qf5, .inl (cf5, 3002, .inl f5)), (qf6, .inl (cf6, 3002, .inl f6)), (qf2, .inl (cf2, 3000, .inl f2)), (qf26, .inl (cf26, 400, .inl f26)), (qf31, .inl (cf31, 800, .inl f31)), (qf32, .inl (cf32, 800, .inl f32)), (qf33, .inl (cf33, 800, .inl f33)), (qf35, .inl (cf35, 800, .inl g35_139)), (qf34, .inl (cf34, 800, .inl f34)), (qf29, .inl (cf29, 800, .inl f29)), (qf30, .inl (cf30, 800, .inl f30)), (qf37, .inl (cf37, 800, .inl f37)), (qf36, .inl (cf36, 800, .inl f36)), (qf40, .inl (cf40, 1500, .inl f40)), (qf41, .inl (cf41, 1500, .inl f41)), (qf42, .inl (cf42, 1500, .inl f42)), (qf44, .inl (cf44, 1500, .inl g44_139)), (qf43, .inl (cf43, 1500, .inl f43)), (h0, .inr (13, z_5)), (qf27, .inl (cf27, 400, .inl g27_139))] H := hP
                replace hD : va_D A [(qf25, .inl (cf25, 400, .inl f25)), (qf5, .inl (cf5, 3002, .inl f5)), (qf6, .inl (cf6, 3002, .inl f6)), (qf2, .inl (cf2, 3000, .inl f2)), (qf26, .inl (cf26, 400, .inl f26)), (qf31, .inl (cf31, 800, .inl f31)), (qf32, .inl (cf32, 800, .inl f32)), (qf33, .inl (cf33, 800, .inl f33)), (qf35, .inl (cf35, 800, .inl g35_139)), (qf34, .inl (cf34, 800, .inl f34)), (qf29, .inl (cf29, 800, .inl f29)), (qf30, .inl (cf30, 800, .inl f30)), (qf37, .inl (cf37, 800, .inl f37)), (qf36, .inl (cf36, 800, .inl f36)), (qf40, .inl (cf40, 1500, .inl f40)), (qf41, .inl (cf41, 1500, .inl f41)), (qf42, .inl (cf42, 1500, .inl f42)), (qf44, .inl (cf44, 1500, .inl g44_139)), (qf43, .inl (cf43, 1500, .inl f43)), (h0, .inr (13, z_5)), (qf27, .inl (cf27, 400, .inl g27_139))] := hD
                replace hK : va_K (dC, dI) vwCl [(cf25, .int), (cf5, .int), (cf6, .int), (cf2, .int), (cf26, .int), (cf31, .int), (cf32, .int), (cf33, .boolean), (cf35, .int), (cf34, .int), (cf29, .int), (cf30, .int), (cf37, .int), (cf36, .int), (cf40, .int), (cf41, .int), (cf42, .boolean), (cf44, .int), (cf43, .int), (cf27, .int)] s := hK
                obtain ⟨hwa_5, hln_5, hre_5⟩ := hw
                have hfk_5_2 : z_5[2]? = some (.ref qf2) := (hre_5 2 ).trans (hfh_139_2)
                have hfk_5_5 : z_5[5]? = some (.ref qf5) := (hre_5 5 ).trans (hfh_139_5)
                have hfk_5_6 : z_5[6]? = some (.ref qf6) := (hre_5 6 ).trans (hfh_139_6)
                have hfk_5_9 : z_5[9]? = some (.int x9_139) := (hre_5 9 ).trans (hfh_139_9)
                have hfk_5_10 : z_5[10]? = some (.int x10_139) := (hre_5 10 ).trans (hfh_139_10)
                have hfk_5_24 : z_5[24]? = some (.int v24) := (hre_5 24 ).trans (hfh_139_24)
                have hfk_5_25 : z_5[25]? = some (.ref qf25) := (hre_5 25 ).trans (hfh_139_25)
                have hfk_5_26 : z_5[26]? = some (.ref qf26) := (hre_5 26 ).trans (hfh_139_26)
                have hfk_5_27 : z_5[27]? = some (.ref qf27) := (hre_5 27 ).trans (hfh_139_27)
                have hfk_5_28 : z_5[28]? = some (.int v28) := (hre_5 28 ).trans (hfh_139_28)
                have hfk_5_29 : z_5[29]? = some (.ref qf29) := (hre_5 29 ).trans (hfh_139_29)
                have hfk_5_30 : z_5[30]? = some (.ref qf30) := (hre_5 30 ).trans (hfh_139_30)
                have hfk_5_31 : z_5[31]? = some (.ref qf31) := (hre_5 31 ).trans (hfh_139_31)
                have hfk_5_32 : z_5[32]? = some (.ref qf32) := (hre_5 32 ).trans (hfh_139_32)
                have hfk_5_33 : z_5[33]? = some (.ref qf33) := (hre_5 33 ).trans (hfh_139_33)
                have hfk_5_34 : z_5[34]? = some (.ref qf34) := (hre_5 34 ).trans (hfh_139_34)
                have hfk_5_35 : z_5[35]? = some (.ref qf35) := (hre_5 35 ).trans (hfh_139_35)
                have hfk_5_36 : z_5[36]? = some (.ref qf36) := (hre_5 36 ).trans (hfh_139_36)
                have hfk_5_37 : z_5[37]? = some (.ref qf37) := (hre_5 37 ).trans (hfh_139_37)
                have hfk_5_40 : z_5[40]? = some (.ref qf40) := (hre_5 40 ).trans (hfh_139_40)
                have hfk_5_41 : z_5[41]? = some (.ref qf41) := (hre_5 41 ).trans (hfh_139_41)
                have hfk_5_42 : z_5[42]? = some (.ref qf42) := (hre_5 42 ).trans (hfh_139_42)
                have hfk_5_43 : z_5[43]? = some (.ref qf43) := (hre_5 43 ).trans (hfh_139_43)
                have hfk_5_44 : z_5[44]? = some (.ref qf44) := (hre_5 44 ).trans (hfh_139_44)
                have hrq_5 : ∀ j : Nat, j ≠ 10 → j ≠ 9 → z_5[j]? = zs[j]? := fun j g10 g9 => (hre_5 j ).trans (hrh_139 j g10 g9)
                obtain rfl := hwa_5
                refine lv_istore_n (lv' := [(2, .int u5_0), (3, .int l3_139), (0, .ref h0), (1, .int l1_139)]) hx hb dX13_heads_160 rfl hl (by decide) rfl (fun ls hl => ?_)
                refine lv_iinc (v := (l3_139 + 1)) (lv' := [(3, .int (l3_139 + 1)), (2, .int u5_0), (0, .ref h0), (1, .int l1_139)]) hx hb dX13_heads_161 hl (k := 1) rfl rfl (by decide) rfl (fun ls hl => ?_)
                refine lv_goto (tgt := 139) hx hb dX13_heads_164 (by decide) ?_
                exact ih_139 H locs ls z_5 l1_139 u5_0 (l3_139 + 1) g27_139 g35_139 g44_139 x10_139 x9_139 (hfk_5_2) (hfk_5_5) (hfk_5_6) (hfk_5_9) (hfk_5_10) (hfk_5_24) (hfk_5_25) (hfk_5_26) (hfk_5_27) (hfk_5_28) (hfk_5_29) (hfk_5_30) (hfk_5_31) (hfk_5_32) (hfk_5_33) (hfk_5_34) (hfk_5_35) (hfk_5_36) (hfk_5_37) (hfk_5_40) (hfk_5_41) (hfk_5_42) (hfk_5_43) (hfk_5_44) hln_5 hrq_5 (lv_sub hl [0, 1, 2, 3] rfl) hS (hD.sub (ws' := [(h0, .inr (13, z_5)), (qf25, .inl (cf25, 400, .inl f25)), (qf5, .inl (cf5, 3002, .inl f5)), (qf6, .inl (cf6, 3002, .inl f6)), (qf2, .inl (cf2, 3000, .inl f2)), (qf27, .inl (cf27, 400, .inl g27_139)), (qf26, .inl (cf26, 400, .inl f26)), (qf31, .inl (cf31, 800, .inl f31)), (qf32, .inl (cf32, 800, .inl f32)), (qf33, .inl (cf33, 800, .inl f33)), (qf35, .inl (cf35, 800, .inl g35_139)), (qf34, .inl (cf34, 800, .inl f34)), (qf29, .inl (cf29, 800, .inl f29)), (qf30, .inl (cf30, 800, .inl f30)), (qf37, .inl (cf37, 800, .inl f37)), (qf36, .inl (cf36, 800, .inl f36)), (qf40, .inl (cf40, 1500, .inl f40)), (qf41, .inl (cf41, 1500, .inl f41)), (qf42, .inl (cf42, 1500, .inl f42)), (qf44, .inl (cf44, 1500, .inl g44_139)), (qf43, .inl (cf43, 1500, .inl f43))]) [19, 0, 1, 2, 3, 20, 4, 5, 6, 7, 8, 9, 10, 11, 12, 13, 14, 15, 16, 17, 18] (by decide) rfl) (hP.sub (ws' := [(h0, .inr (13, z_5)), (qf25, .inl (cf25, 400, .inl f25)), (qf5, .inl (cf5, 3002, .inl f5)), (qf6, .inl (cf6, 3002, .inl f6)), (qf2, .inl (cf2, 3000, .inl f2)), (qf27, .inl (cf27, 400, .inl g27_139)), (qf26, .inl (cf26, 400, .inl f26)), (qf31, .inl (cf31, 800, .inl f31)), (qf32, .inl (cf32, 800, .inl f32)), (qf33, .inl (cf33, 800, .inl f33)), (qf35, .inl (cf35, 800, .inl g35_139)), (qf34, .inl (cf34, 800, .inl f34)), (qf29, .inl (cf29, 800, .inl f29)), (qf30, .inl (cf30, 800, .inl f30)), (qf37, .inl (cf37, 800, .inl f37)), (qf36, .inl (cf36, 800, .inl f36)), (qf40, .inl (cf40, 1500, .inl f40)), (qf41, .inl (cf41, 1500, .inl f41)), (qf42, .inl (cf42, 1500, .inl f42)), (qf44, .inl (cf44, 1500, .inl g44_139)), (qf43, .inl (cf43, 1500, .inl f43))]) [19, 0, 1, 2, 3, 20, 4, 5, 6, 7, 8, 9, 10, 11, 12, 13, 14, 15, 16, 17, 18] rfl) hsp
        intro hj_132
        refine jn_use (α := Heap × List Loc × Array Slot × List Value × Int32 × (Nat → Int32) × (Nat → Int32) × (Nat → Int32) × Int32 × Int32) (fun x9 => x9.1) (fun x9 => x9.2.1) (fun x9 => F0 m 111 x9.2.2.1 []) (fun x9 => match x9 with | (H, locs, ls, z111, l1_111, g27_111, g35_111, g44_111, x10_111, x9_111) => lv_has ls 4 [(0, .ref h0), (1, .int l1_111)] ∧ va_S A s.heap H locs ∧ va_D A [(h0, .inr (13, z111)), (qf25, .inl (cf25, 400, .inl f25)), (qf5, .inl (cf5, 3002, .inl f5)), (qf6, .inl (cf6, 3002, .inl f6)), (qf2, .inl (cf2, 3000, .inl f2)), (qf27, .inl (cf27, 400, .inl g27_111)), (qf26, .inl (cf26, 400, .inl f26)), (qf31, .inl (cf31, 800, .inl f31)), (qf32, .inl (cf32, 800, .inl f32)), (qf33, .inl (cf33, 800, .inl f33)), (qf35, .inl (cf35, 800, .inl g35_111)), (qf34, .inl (cf34, 800, .inl f34)), (qf29, .inl (cf29, 800, .inl f29)), (qf30, .inl (cf30, 800, .inl f30)), (qf37, .inl (cf37, 800, .inl f37)), (qf36, .inl (cf36, 800, .inl f36)), (qf40, .inl (cf40, 1500, .inl f40)), (qf41, .inl (cf41, 1500, .inl f41)), (qf42, .inl (cf42, 1500, .inl f42)), (qf44, .inl (cf44, 1500, .inl g44_111)), (qf43, .inl (cf43, 1500, .inl f43))] ∧ va_P (dC, dI) vwCl [(h0, .inr (13, z111)), (qf25, .inl (cf25, 400, .inl f25)), (qf5, .inl (cf5, 3002, .inl f5)), (qf6, .inl (cf6, 3002, .inl f6)), (qf2, .inl (cf2, 3000, .inl f2)), (qf27, .inl (cf27, 400, .inl g27_111)), (qf26, .inl (cf26, 400, .inl f26)), (qf31, .inl (cf31, 800, .inl f31)), (qf32, .inl (cf32, 800, .inl f32)), (qf33, .inl (cf33, 800, .inl f33)), (qf35, .inl (cf35, 800, .inl g35_111)), (qf34, .inl (cf34, 800, .inl f34)), (qf29, .inl (cf29, 800, .inl f29)), (qf30, .inl (cf30, 800, .inl f30)), (qf37, .inl (cf37, 800, .inl f37)), (qf36, .inl (cf36, 800, .inl f36)), (qf40, .inl (cf40, 1500, .inl f40)), (qf41, .inl (cf41, 1500, .inl f41)), (qf42, .inl (cf42, 1500, .inl f42)), (qf44, .inl (cf44, 1500, .inl g44_111)), (qf43, .inl (cf43, 1500, .inl f43))] H ∧ z111[2]? = some (.ref qf2) ∧ z111[5]? = some (.ref qf5) ∧ z111[6]? = some (.ref qf6) ∧ z111[9]? = some (.int x9_111) ∧ z111[10]? = some (.int x10_111) ∧ z111[24]? = some (.int v24) ∧ z111[25]? = some (.ref qf25) ∧ z111[26]? = some (.ref qf26) ∧ z111[27]? = some (.ref qf27) ∧ z111[28]? = some (.int v28) ∧ z111[29]? = some (.ref qf29) ∧ z111[30]? = some (.ref qf30) ∧ z111[31]? = some (.ref qf31) ∧ z111[32]? = some (.ref qf32) ∧ z111[33]? = some (.ref qf33) ∧ z111[34]? = some (.ref qf34) ∧ z111[35]? = some (.ref qf35) ∧ z111[36]? = some (.ref qf36) ∧ z111[37]? = some (.ref qf37) ∧ z111[40]? = some (.ref qf40) ∧ z111[41]? = some (.ref qf41) ∧ z111[42]? = some (.ref qf42) ∧ z111[43]? = some (.ref qf43) ∧ z111[44]? = some (.ref qf44) ∧ z111.length = 155 ∧ (∀ j : Nat, j ≠ 10 → j ≠ 9 → z111[j]? = zs[j]?) ∧ jn_vm_heads_111 nf v9 v10 v24 v28 f25 f5 f6 f2 f27 f26 f31 f32 f33 f35 f34 f29 f30 f37 f36 f40 f41 f42 f44 f43 nS477 fS477 (lp_vm_heads_50 nf n_50 v9 v10 v24 v28 f25 f5 f6 f2 f27 f26 f31 f32 f33 f35 f34 f29 f30 f37 f36 f40 f41 f42 f44 f43 nS477 fS477) l1_111 g27_111 g35_111 g44_111 x10_111 x9_111 = some (o27, o35, o44, w10, w9)) ?_ ?_
        · intro x9 hJ9
          obtain ⟨H, locs, ls, z111, l1_111, g27_111, g35_111, g44_111, x10_111, x9_111⟩ := x9
          obtain ⟨hl, hS, hD, hP, hfh_111_2, hfh_111_5, hfh_111_6, hfh_111_9, hfh_111_10, hfh_111_24, hfh_111_25, hfh_111_26, hfh_111_27, hfh_111_28, hfh_111_29, hfh_111_30, hfh_111_31, hfh_111_32, hfh_111_33, hfh_111_34, hfh_111_35, hfh_111_36, hfh_111_37, hfh_111_40, hfh_111_41, hfh_111_42, hfh_111_43, hfh_111_44, hlh_111, hrh_111, hsp⟩ := hJ9
          replace hl : lv_has ls 4 [(0, .ref h0), (1, .int l1_111)] := hl
          replace hS : va_S A s.heap H locs := hS
          replace hD : va_D A [(h0, .inr (13, z111)), (qf25, .inl (cf25, 400, .inl f25)), (qf5, .inl (cf5, 3002, .inl f5)), (qf6, .inl (cf6, 3002, .inl f6)), (qf2, .inl (cf2, 3000, .inl f2)), (qf27, .inl (cf27, 400, .inl g27_111)), (qf26, .inl (cf26, 400, .inl f26)), (qf31, .inl (cf31, 800, .inl f31)), (qf32, .inl (cf32, 800, .inl f32)), (qf33, .inl (cf33, 800, .inl f33)), (qf35, .inl (cf35, 800, .inl g35_111)), (qf34, .inl (cf34, 800, .inl f34)), (qf29, .inl (cf29, 800, .inl f29)), (qf30, .inl (cf30, 800, .inl f30)), (qf37, .inl (cf37, 800, .inl f37)), (qf36, .inl (cf36, 800, .inl f36)), (qf40, .inl (cf40, 1500, .inl f40)), (qf41, .inl (cf41, 1500, .inl f41)), (qf42, .inl (cf42, 1500, .inl f42)), (qf44, .inl (cf44, 1500, .inl g44_111)), (qf43, .inl (cf43, 1500, .inl f43))] := hD
          replace hP : va_P (dC, dI) vwCl [(h0, .inr (13, z111)), (qf25, .inl (cf25, 400, .inl f25)), (qf5, .inl (cf5, 3002, .inl f5)), (qf6, .inl (cf6, 3002, .inl f6)), (qf2, .inl (cf2, 3000, .inl f2)), (qf27, .inl (cf27, 400, .inl g27_111)), (qf26, .inl (cf26, 400, .inl f26)), (qf31, .inl (cf31, 800, .inl f31)), (qf32, .inl (cf32, 800, .inl f32)), (qf33, .inl (cf33, 800, .inl f33)), (qf35, .inl (cf35, 800, .inl g35_111)), (qf34, .inl (cf34, 800, .inl f34)), (qf29, .inl (cf29, 800, .inl f29)), (qf30, .inl (cf30, 800, .inl f30)), (qf37, .inl (cf37, 800, .inl f37)), (qf36, .inl (cf36, 800, .inl f36)), (qf40, .inl (cf40, 1500, .inl f40)), (qf41, .inl (cf41, 1500, .inl f41)), (qf42, .inl (cf42, 1500, .inl f42)), (qf44, .inl (cf44, 1500, .inl g44_111)), (qf43, .inl (cf43, 1500, .inl f43))] H := hP
          replace hsp : jn_vm_heads_111 nf v9 v10 v24 v28 f25 f5 f6 f2 f27 f26 f31 f32 f33 f35 f34 f29 f30 f37 f36 f40 f41 f42 f44 f43 nS477 fS477 (lp_vm_heads_50 nf n_50 v9 v10 v24 v28 f25 f5 f6 f2 f27 f26 f31 f32 f33 f35 f34 f29 f30 f37 f36 f40 f41 f42 f44 f43 nS477 fS477) l1_111 g27_111 g35_111 g44_111 x10_111 x9_111 = some (o27, o35, o44, w10, w9) := hsp
          show W _ _ _ _ _ _ _ _ _ _ H locs _ _ _ (F0 m 111 ls [])
          unfold jn_vm_heads_111 at hsp
          try dsimp only at hsp
          refine lv_aload_n hx hb dX13_heads_111 rfl (lv_at hl 0 rfl) ?_
          refine va_get (D := (dC, dI)) (ci := 13) (v := .ref qf27) (C := RX13) (T := TX13) (N := 155) hx hb hts uV_h9_X13 hown hK hP 0 rfl rfl 27 (by decide) (hts (.fieldLink RX13 68 "ClassMillModel" "classUpper" "[I") mw_h9_402) (fun _ h9 => h9) hfh_111_27 dX13_heads_112 ?_
          refine lv_iload_n hx hb dX13_heads_115 rfl (lv_at hl 1 rfl) ?_
          obtain ⟨hi_10, hsp⟩ := ox_in hsp
          refine va_iald hx hb hK hP 5 4 rfl rfl (i := l1_111) hi_10 dX13_heads_116 ?_
          refine lv_iconst (v := (-1)) hx hb dX13_heads_117 (by decide) ?_
          refine lv_icmp_ne (tgt := 132) hx hb dX13_heads_118 (by decide) (fun c_11 => ?_) (fun c_11 => ?_)
          · rw [if_neg c_11] at hsp
            exact hj_132 (H, locs, ls, z111, l1_111, g27_111, g35_111, g44_111, x10_111, x9_111) ⟨lv_sub hl [0, 1] rfl, hS, hD.sub (ws' := [(h0, .inr (13, z111)), (qf25, .inl (cf25, 400, .inl f25)), (qf5, .inl (cf5, 3002, .inl f5)), (qf6, .inl (cf6, 3002, .inl f6)), (qf2, .inl (cf2, 3000, .inl f2)), (qf27, .inl (cf27, 400, .inl g27_111)), (qf26, .inl (cf26, 400, .inl f26)), (qf31, .inl (cf31, 800, .inl f31)), (qf32, .inl (cf32, 800, .inl f32)), (qf33, .inl (cf33, 800, .inl f33)), (qf35, .inl (cf35, 800, .inl g35_111)), (qf34, .inl (cf34, 800, .inl f34)), (qf29, .inl (cf29, 800, .inl f29)), (qf30, .inl (cf30, 800, .inl f30)), (qf37, .inl (cf37, 800, .inl f37)), (qf36, .inl (cf36, 800, .inl f36)), (qf40, .inl (cf40, 1500, .inl f40)), (qf41, .inl (cf41, 1500, .inl f41)), (qf42, .inl (cf42, 1500, .inl f42)), (qf44, .inl (cf44, 1500, .inl g44_111)), (qf43, .inl (cf43, 1500, .inl f43))]) [0, 1, 2, 3, 4, 5, 6, 7, 8, 9, 10, 11, 12, 13, 14, 15, 16, 17, 18, 19, 20] (by decide) rfl, hP.sub (ws' := [(h0, .inr (13, z111)), (qf25, .inl (cf25, 400, .inl f25)), (qf5, .inl (cf5, 3002, .inl f5)), (qf6, .inl (cf6, 3002, .inl f6)), (qf2, .inl (cf2, 3000, .inl f2)), (qf27, .inl (cf27, 400, .inl g27_111)), (qf26, .inl (cf26, 400, .inl f26)), (qf31, .inl (cf31, 800, .inl f31)), (qf32, .inl (cf32, 800, .inl f32)), (qf33, .inl (cf33, 800, .inl f33)), (qf35, .inl (cf35, 800, .inl g35_111)), (qf34, .inl (cf34, 800, .inl f34)), (qf29, .inl (cf29, 800, .inl f29)), (qf30, .inl (cf30, 800, .inl f30)), (qf37, .inl (cf37, 800, .inl f37)), (qf36, .inl (cf36, 800, .inl f36)), (qf40, .inl (cf40, 1500, .inl f40)), (qf41, .inl (cf41, 1500, .inl f41)), (qf42, .inl (cf42, 1500, .inl f42)), (qf44, .inl (cf44, 1500, .inl g44_111)), (qf43, .inl (cf43, 1500, .inl f43))]) [0, 1, 2, 3, 4, 5, 6, 7, 8, 9, 10, 11, 12, 13, 14, 15, 16, 17, 18, 19, 20] rfl, hfh_111_2, hfh_111_5, hfh_111_6, hfh_111_9, hfh_111_10, hfh_111_24, hfh_111_25, hfh_111_26, hfh_111_27, hfh_111_28, hfh_111_29, hfh_111_30, hfh_111_31, hfh_111_32, hfh_111_33, hfh_111_34, hfh_111_35, hfh_111_36, hfh_111_37, hfh_111_40, hfh_111_41, hfh_111_42, hfh_111_43, hfh_111_44, hlh_111, hrh_111, hsp⟩
          · rw [if_pos c_11] at hsp
            refine lv_aload_n hx hb dX13_heads_121 rfl (lv_at hl 0 rfl) ?_
            refine lv_iconst (v := 5) hx hb dX13_heads_122 (by decide) ?_
            refine lv_aload_n hx hb dX13_heads_123 rfl (lv_at hl 0 rfl) ?_
            refine va_get (D := (dC, dI)) (ci := 13) (v := .ref qf26) (C := RX13) (T := TX13) (N := 155) hx hb hts uV_h9_X13 hown hK hP 0 rfl rfl 26 (by decide) (hts (.fieldLink RX13 65 "ClassMillModel" "classExtends" "[I") mw_h9_401) (fun _ h9 => h9) hfh_111_26 dX13_heads_124 ?_
            refine lv_iload_n hx hb dX13_heads_127 rfl (lv_at hl 1 rfl) ?_
            obtain ⟨hi_12, hsp⟩ := ox_in hsp
            refine va_iald hx hb hK hP 6 5 rfl rfl (i := l1_111) hi_12 dX13_heads_128 ?_
            obtain ⟨⟨u4_0, u4_1⟩, hu_4, hsp⟩ := ox_bind hsp
            try dsimp only at hsp
            have hPc := hP.sub (ws' := [(h0, .inr (13, z111)), (qf5, .inl (cf5, 3002, .inl f5))]) [0, 2] rfl
            have hDc := hD.sub (ws' := [(h0, .inr (13, z111)), (qf5, .inl (cf5, 3002, .inl f5))]) [0, 2] (by decide) rfl
            have hKc := hK.sub (tys' := [(cf5, .int)]) [1] rfl
            have hFc := va_free (wc := [(h0, .inr (13, z111)), (qf5, .inl (cf5, 3002, .inl f5))]) hD hS hA [0, 2] rfl
            refine va_callv (va_runV (As := [.int 5, .int (f26 (l1_111 : Int32).toNatClampNeg)]) (rest := []) ⟨hx, hb, hml, hown, hts⟩ (tm_wrong l dC dI H.size h0 z111 5 ((f26 (l1_111 : Int32).toNatClampNeg)) qf5 x9_111 x10_111 cf5 f5 nf u4_0 u4_1 hlh_111 hfh_111_5 hfh_111_9 hfh_111_10 hu_4) (cwV 2 hts gv_h9_18 rfl rfl rfl (by decide +kernel) ⟨Nat.le_of_ble_eq_true rfl, Nat.le_of_ble_eq_true rfl⟩) ⟨fun a U g mk q => by obtain ⟨q0, q1, qP, qK, qD⟩ := q; exact ⟨q0, q1, qP, va_K.moved (u := U) (U := U.calling g mk a) (Vm.Alike.refl U.vm) qK, qD⟩, va_recv hKc hPc (ci := 13) (q0 := 0) rfl rfl, fun U hU hW => ⟨rfl, by rw [hU], by rw [hU]; exact hPc, va_K.moved hW.alike hKc, hDc.weaken (fun _ _ _ _ => trivial)⟩⟩ rfl rfl hl.1 rfl (lv_room (Nat.le_of_ble_eq_true rfl)) dX13_heads_129 ⟨Nat.le_of_ble_eq_true rfl, Nat.le_of_ble_eq_true rfl⟩) hS (fun q _ h => hFc q h) hFc ?_
            clear hS
            intro u t H1 locs ht hvm hw hB hz1 hk1 hS
            obtain ⟨z_4, rfl⟩ : ∃ z, z = u := ⟨_, rfl⟩
            obtain ⟨hP1, hK1, hD1⟩ := hB
            rw [ht] at hP1
            have hK1 := va_K.moved hvm.symm hK1
            try dsimp only at hw
            have hPD := va_join (wr := [(qf25, .inl (cf25, 400, .inl f25)), (qf6, .inl (cf6, 3002, .inl f6)), (qf2, .inl (cf2, 3000, .inl f2)), (qf27, .inl (cf27, 400, .inl g27_111)), (qf26, .inl (cf26, 400, .inl f26)), (qf31, .inl (cf31, 800, .inl f31)), (qf32, .inl (cf32, 800, .inl f32)), (qf33, .inl (cf33, 800, .inl f33)), (qf35, .inl (cf35, 800, .inl g35_111)), (qf34, .inl (cf34, 800, .inl f34)), (qf29, .inl (cf29, 800, .inl f29)), (qf30, .inl (cf30, 800, .inl f30)), (qf37, .inl (cf37, 800, .inl f37)), (qf36, .inl (cf36, 800, .inl f36)), (qf40, .inl (cf40, 1500, .inl f40)), (qf41, .inl (cf41, 1500, .inl f41)), (qf42, .inl (cf42, 1500, .inl f42)), (qf44, .inl (cf44, 1500, .inl g44_111)), (qf43, .inl (cf43, 1500, .inl f43))]) (w1 := [(h0, .inr (13, z_4)), (qf5, .inl (cf5, 3002, .inl f5))]) hP hD [0, 2] [1, 3, 4, 5, 6, 7, 8, 9, 10, 11, 12, 13, 14, 15, 16, 17, 18, 19, 20] rfl rfl (by decide) (by decide) hk1 hFc hP1 hD1
            clear hP hD
            obtain ⟨hP, hD⟩ := hPD
            replace hK := (hK.sub (tys' := [(cf25, .int), (cf6, .int), (cf2, .int), (cf27, .int), (cf26, .int), (cf31, .int), (cf32, .int), (cf33, .boolean), (cf35, .int), (cf34, .int), (cf29, .int), (cf30, .int), (cf37, .int), (cf36, .int), (cf40, .int), (cf41, .int), (cf42, .boolean), (cf44, .int), (cf43, .int)]) [0, 2, 3, 4, 5, 6, 7, 8, 9, 10, 11, 12, 13, 14, 15, 16, 17, 18, 19] rfl).app hK1
            clear hPc hDc hKc hFc hP1 hK1 hD1 hz1 hk1 ht hvm
            generalize H1 = H at hP hS ⊢
            replace hP : va_P (dC, dI) vwCl [(qf25, .inl (cf25, 400, .inl f25)), (qf6, .inl (cf6, 3002, .inl f6)), (qf2, .inl (cf2, 3000, .inl f2)), (qf27, .inl (cf27, 400, .inl g27_111)), (qf26, .inl (cf26, 400, .inl f26)), (qf31, .inl (cf31, 800, .inl f31)), (qf32, .inl (cf32, 800, .inl f32)), (qf33, .inl (cf33, 800, .inl f33)), (qf35, .inl (cf35, 800, .inl g35_111)), (qf34, .inl (cf34, 800, .inl f34)), (qf29, .inl (cf29, 800, .inl f29)), (qf30, .inl (cf30, 800, .inl f30)), (qf37, .inl (cf37, 800, .inl f37)), (qf36, .inl (cf36, 800, .inl f36)), (qf40, .inl (cf40, 1500, .inl f40)), (qf41, .inl (cf41, 1500, .inl f41)), (qf42, .inl (cf42, 1500, .inl f42)), (qf44, .inl (cf44, 1500, .inl g44_111)), (qf43, .inl (cf43, 1500, .inl f43)), (h0, .inr (13, z_4)), (qf5, .inl (cf5, 3002, .inl f5))] H := hP
            replace hD : va_D A [(qf25, .inl (cf25, 400, .inl f25)), (qf6, .inl (cf6, 3002, .inl f6)), (qf2, .inl (cf2, 3000, .inl f2)), (qf27, .inl (cf27, 400, .inl g27_111)), (qf26, .inl (cf26, 400, .inl f26)), (qf31, .inl (cf31, 800, .inl f31)), (qf32, .inl (cf32, 800, .inl f32)), (qf33, .inl (cf33, 800, .inl f33)), (qf35, .inl (cf35, 800, .inl g35_111)), (qf34, .inl (cf34, 800, .inl f34)), (qf29, .inl (cf29, 800, .inl f29)), (qf30, .inl (cf30, 800, .inl f30)), (qf37, .inl (cf37, 800, .inl f37)), (qf36, .inl (cf36, 800, .inl f36)), (qf40, .inl (cf40, 1500, .inl f40)), (qf41, .inl (cf41, 1500, .inl f41)), (qf42, .inl (cf42, 1500, .inl f42)), (qf44, .inl (cf44, 1500, .inl g44_111)), (qf43, .inl (cf43, 1500, .inl f43)), (h0, .inr (13, z_4)), (qf5, .inl (cf5, 3002, .inl f5))] := hD
            replace hK : va_K (dC, dI) vwCl [(cf25, .int), (cf6, .int), (cf2, .int), (cf27, .int), (cf26, .int), (cf31, .int), (cf32, .int), (cf33, .boolean), (cf35, .int), (cf34, .int), (cf29, .int), (cf30, .int), (cf37, .int), (cf36, .int), (cf40, .int), (cf41, .int), (cf42, .boolean), (cf44, .int), (cf43, .int), (cf5, .int)] s := hK
            obtain ⟨hwa_4, hln_4, hre_4, hch_4_10, hch_4_9⟩ := hw
            have hfk_4_2 : z_4[2]? = some (.ref qf2) := (hre_4 2 (by decide) (by decide)).trans (hfh_111_2)
            have hfk_4_5 : z_4[5]? = some (.ref qf5) := (hre_4 5 (by decide) (by decide)).trans (hfh_111_5)
            have hfk_4_6 : z_4[6]? = some (.ref qf6) := (hre_4 6 (by decide) (by decide)).trans (hfh_111_6)
            have hfk_4_24 : z_4[24]? = some (.int v24) := (hre_4 24 (by decide) (by decide)).trans (hfh_111_24)
            have hfk_4_25 : z_4[25]? = some (.ref qf25) := (hre_4 25 (by decide) (by decide)).trans (hfh_111_25)
            have hfk_4_26 : z_4[26]? = some (.ref qf26) := (hre_4 26 (by decide) (by decide)).trans (hfh_111_26)
            have hfk_4_27 : z_4[27]? = some (.ref qf27) := (hre_4 27 (by decide) (by decide)).trans (hfh_111_27)
            have hfk_4_28 : z_4[28]? = some (.int v28) := (hre_4 28 (by decide) (by decide)).trans (hfh_111_28)
            have hfk_4_29 : z_4[29]? = some (.ref qf29) := (hre_4 29 (by decide) (by decide)).trans (hfh_111_29)
            have hfk_4_30 : z_4[30]? = some (.ref qf30) := (hre_4 30 (by decide) (by decide)).trans (hfh_111_30)
            have hfk_4_31 : z_4[31]? = some (.ref qf31) := (hre_4 31 (by decide) (by decide)).trans (hfh_111_31)
            have hfk_4_32 : z_4[32]? = some (.ref qf32) := (hre_4 32 (by decide) (by decide)).trans (hfh_111_32)
            have hfk_4_33 : z_4[33]? = some (.ref qf33) := (hre_4 33 (by decide) (by decide)).trans (hfh_111_33)
            have hfk_4_34 : z_4[34]? = some (.ref qf34) := (hre_4 34 (by decide) (by decide)).trans (hfh_111_34)
            have hfk_4_35 : z_4[35]? = some (.ref qf35) := (hre_4 35 (by decide) (by decide)).trans (hfh_111_35)
            have hfk_4_36 : z_4[36]? = some (.ref qf36) := (hre_4 36 (by decide) (by decide)).trans (hfh_111_36)
            have hfk_4_37 : z_4[37]? = some (.ref qf37) := (hre_4 37 (by decide) (by decide)).trans (hfh_111_37)
            have hfk_4_40 : z_4[40]? = some (.ref qf40) := (hre_4 40 (by decide) (by decide)).trans (hfh_111_40)
            have hfk_4_41 : z_4[41]? = some (.ref qf41) := (hre_4 41 (by decide) (by decide)).trans (hfh_111_41)
            have hfk_4_42 : z_4[42]? = some (.ref qf42) := (hre_4 42 (by decide) (by decide)).trans (hfh_111_42)
            have hfk_4_43 : z_4[43]? = some (.ref qf43) := (hre_4 43 (by decide) (by decide)).trans (hfh_111_43)
            have hfk_4_44 : z_4[44]? = some (.ref qf44) := (hre_4 44 (by decide) (by decide)).trans (hfh_111_44)
            have hrq_4 : ∀ j : Nat, j ≠ 10 → j ≠ 9 → z_4[j]? = zs[j]? := fun j g10 g9 => (hre_4 j g10 g9).trans (hrh_111 j g10 g9)
            exact hj_132 (H, locs, ls, z_4, l1_111, g27_111, g35_111, g44_111, u4_0, u4_1) ⟨lv_sub hl [0, 1] rfl, hS, hD.sub (ws' := [(h0, .inr (13, z_4)), (qf25, .inl (cf25, 400, .inl f25)), (qf5, .inl (cf5, 3002, .inl f5)), (qf6, .inl (cf6, 3002, .inl f6)), (qf2, .inl (cf2, 3000, .inl f2)), (qf27, .inl (cf27, 400, .inl g27_111)), (qf26, .inl (cf26, 400, .inl f26)), (qf31, .inl (cf31, 800, .inl f31)), (qf32, .inl (cf32, 800, .inl f32)), (qf33, .inl (cf33, 800, .inl f33)), (qf35, .inl (cf35, 800, .inl g35_111)), (qf34, .inl (cf34, 800, .inl f34)), (qf29, .inl (cf29, 800, .inl f29)), (qf30, .inl (cf30, 800, .inl f30)), (qf37, .inl (cf37, 800, .inl f37)), (qf36, .inl (cf36, 800, .inl f36)), (qf40, .inl (cf40, 1500, .inl f40)), (qf41, .inl (cf41, 1500, .inl f41)), (qf42, .inl (cf42, 1500, .inl f42)), (qf44, .inl (cf44, 1500, .inl g44_111)), (qf43, .inl (cf43, 1500, .inl f43))]) [19, 0, 20, 1, 2, 3, 4, 5, 6, 7, 8, 9, 10, 11, 12, 13, 14, 15, 16, 17, 18] (by decide) rfl, hP.sub (ws' := [(h0, .inr (13, z_4)), (qf25, .inl (cf25, 400, .inl f25)), (qf5, .inl (cf5, 3002, .inl f5)), (qf6, .inl (cf6, 3002, .inl f6)), (qf2, .inl (cf2, 3000, .inl f2)), (qf27, .inl (cf27, 400, .inl g27_111)), (qf26, .inl (cf26, 400, .inl f26)), (qf31, .inl (cf31, 800, .inl f31)), (qf32, .inl (cf32, 800, .inl f32)), (qf33, .inl (cf33, 800, .inl f33)), (qf35, .inl (cf35, 800, .inl g35_111)), (qf34, .inl (cf34, 800, .inl f34)), (qf29, .inl (cf29, 800, .inl f29)), (qf30, .inl (cf30, 800, .inl f30)), (qf37, .inl (cf37, 800, .inl f37)), (qf36, .inl (cf36, 800, .inl f36)), (qf40, .inl (cf40, 1500, .inl f40)), (qf41, .inl (cf41, 1500, .inl f41)), (qf42, .inl (cf42, 1500, .inl f42)), (qf44, .inl (cf44, 1500, .inl g44_111)), (qf43, .inl (cf43, 1500, .inl f43))]) [19, 0, 20, 1, 2, 3, 4, 5, 6, 7, 8, 9, 10, 11, 12, 13, 14, 15, 16, 17, 18] rfl, hfk_4_2, hfk_4_5, hfk_4_6, hch_4_9, hch_4_10, hfk_4_24, hfk_4_25, hfk_4_26, hfk_4_27, hfk_4_28, hfk_4_29, hfk_4_30, hfk_4_31, hfk_4_32, hfk_4_33, hfk_4_34, hfk_4_35, hfk_4_36, hfk_4_37, hfk_4_40, hfk_4_41, hfk_4_42, hfk_4_43, hfk_4_44, hln_4, hrq_4, hsp⟩
        intro hj_111
        refine jn_use (α := Heap × List Loc × Array Slot × List Value × Int32 × (Nat → Int32) × (Nat → Int32) × (Nat → Int32) × Int32 × Int32) (fun x9 => x9.1) (fun x9 => x9.2.1) (fun x9 => F0 m 83 x9.2.2.1 []) (fun x9 => match x9 with | (H, locs, ls, z83, l1_83, g27_83, g35_83, g44_83, x10_83, x9_83) => lv_has ls 4 [(0, .ref h0), (1, .int l1_83)] ∧ va_S A s.heap H locs ∧ va_D A [(h0, .inr (13, z83)), (qf25, .inl (cf25, 400, .inl f25)), (qf5, .inl (cf5, 3002, .inl f5)), (qf6, .inl (cf6, 3002, .inl f6)), (qf2, .inl (cf2, 3000, .inl f2)), (qf27, .inl (cf27, 400, .inl g27_83)), (qf26, .inl (cf26, 400, .inl f26)), (qf31, .inl (cf31, 800, .inl f31)), (qf32, .inl (cf32, 800, .inl f32)), (qf33, .inl (cf33, 800, .inl f33)), (qf35, .inl (cf35, 800, .inl g35_83)), (qf34, .inl (cf34, 800, .inl f34)), (qf29, .inl (cf29, 800, .inl f29)), (qf30, .inl (cf30, 800, .inl f30)), (qf37, .inl (cf37, 800, .inl f37)), (qf36, .inl (cf36, 800, .inl f36)), (qf40, .inl (cf40, 1500, .inl f40)), (qf41, .inl (cf41, 1500, .inl f41)), (qf42, .inl (cf42, 1500, .inl f42)), (qf44, .inl (cf44, 1500, .inl g44_83)), (qf43, .inl (cf43, 1500, .inl f43))] ∧ va_P (dC, dI) vwCl [(h0, .inr (13, z83)), (qf25, .inl (cf25, 400, .inl f25)), (qf5, .inl (cf5, 3002, .inl f5)), (qf6, .inl (cf6, 3002, .inl f6)), (qf2, .inl (cf2, 3000, .inl f2)), (qf27, .inl (cf27, 400, .inl g27_83)), (qf26, .inl (cf26, 400, .inl f26)), (qf31, .inl (cf31, 800, .inl f31)), (qf32, .inl (cf32, 800, .inl f32)), (qf33, .inl (cf33, 800, .inl f33)), (qf35, .inl (cf35, 800, .inl g35_83)), (qf34, .inl (cf34, 800, .inl f34)), (qf29, .inl (cf29, 800, .inl f29)), (qf30, .inl (cf30, 800, .inl f30)), (qf37, .inl (cf37, 800, .inl f37)), (qf36, .inl (cf36, 800, .inl f36)), (qf40, .inl (cf40, 1500, .inl f40)), (qf41, .inl (cf41, 1500, .inl f41)), (qf42, .inl (cf42, 1500, .inl f42)), (qf44, .inl (cf44, 1500, .inl g44_83)), (qf43, .inl (cf43, 1500, .inl f43))] H ∧ z83[2]? = some (.ref qf2) ∧ z83[5]? = some (.ref qf5) ∧ z83[6]? = some (.ref qf6) ∧ z83[9]? = some (.int x9_83) ∧ z83[10]? = some (.int x10_83) ∧ z83[24]? = some (.int v24) ∧ z83[25]? = some (.ref qf25) ∧ z83[26]? = some (.ref qf26) ∧ z83[27]? = some (.ref qf27) ∧ z83[28]? = some (.int v28) ∧ z83[29]? = some (.ref qf29) ∧ z83[30]? = some (.ref qf30) ∧ z83[31]? = some (.ref qf31) ∧ z83[32]? = some (.ref qf32) ∧ z83[33]? = some (.ref qf33) ∧ z83[34]? = some (.ref qf34) ∧ z83[35]? = some (.ref qf35) ∧ z83[36]? = some (.ref qf36) ∧ z83[37]? = some (.ref qf37) ∧ z83[40]? = some (.ref qf40) ∧ z83[41]? = some (.ref qf41) ∧ z83[42]? = some (.ref qf42) ∧ z83[43]? = some (.ref qf43) ∧ z83[44]? = some (.ref qf44) ∧ z83.length = 155 ∧ (∀ j : Nat, j ≠ 10 → j ≠ 9 → z83[j]? = zs[j]?) ∧ jn_vm_heads_83 nf v9 v10 v24 v28 f25 f5 f6 f2 f27 f26 f31 f32 f33 f35 f34 f29 f30 f37 f36 f40 f41 f42 f44 f43 nS477 fS477 (lp_vm_heads_50 nf n_50 v9 v10 v24 v28 f25 f5 f6 f2 f27 f26 f31 f32 f33 f35 f34 f29 f30 f37 f36 f40 f41 f42 f44 f43 nS477 fS477) l1_83 g27_83 g35_83 g44_83 x10_83 x9_83 = some (o27, o35, o44, w10, w9)) ?_ ?_
        · intro x9 hJ9
          obtain ⟨H, locs, ls, z83, l1_83, g27_83, g35_83, g44_83, x10_83, x9_83⟩ := x9
          obtain ⟨hl, hS, hD, hP, hfh_83_2, hfh_83_5, hfh_83_6, hfh_83_9, hfh_83_10, hfh_83_24, hfh_83_25, hfh_83_26, hfh_83_27, hfh_83_28, hfh_83_29, hfh_83_30, hfh_83_31, hfh_83_32, hfh_83_33, hfh_83_34, hfh_83_35, hfh_83_36, hfh_83_37, hfh_83_40, hfh_83_41, hfh_83_42, hfh_83_43, hfh_83_44, hlh_83, hrh_83, hsp⟩ := hJ9
          replace hl : lv_has ls 4 [(0, .ref h0), (1, .int l1_83)] := hl
          replace hS : va_S A s.heap H locs := hS
          replace hD : va_D A [(h0, .inr (13, z83)), (qf25, .inl (cf25, 400, .inl f25)), (qf5, .inl (cf5, 3002, .inl f5)), (qf6, .inl (cf6, 3002, .inl f6)), (qf2, .inl (cf2, 3000, .inl f2)), (qf27, .inl (cf27, 400, .inl g27_83)), (qf26, .inl (cf26, 400, .inl f26)), (qf31, .inl (cf31, 800, .inl f31)), (qf32, .inl (cf32, 800, .inl f32)), (qf33, .inl (cf33, 800, .inl f33)), (qf35, .inl (cf35, 800, .inl g35_83)), (qf34, .inl (cf34, 800, .inl f34)), (qf29, .inl (cf29, 800, .inl f29)), (qf30, .inl (cf30, 800, .inl f30)), (qf37, .inl (cf37, 800, .inl f37)), (qf36, .inl (cf36, 800, .inl f36)), (qf40, .inl (cf40, 1500, .inl f40)), (qf41, .inl (cf41, 1500, .inl f41)), (qf42, .inl (cf42, 1500, .inl f42)), (qf44, .inl (cf44, 1500, .inl g44_83)), (qf43, .inl (cf43, 1500, .inl f43))] := hD
          replace hP : va_P (dC, dI) vwCl [(h0, .inr (13, z83)), (qf25, .inl (cf25, 400, .inl f25)), (qf5, .inl (cf5, 3002, .inl f5)), (qf6, .inl (cf6, 3002, .inl f6)), (qf2, .inl (cf2, 3000, .inl f2)), (qf27, .inl (cf27, 400, .inl g27_83)), (qf26, .inl (cf26, 400, .inl f26)), (qf31, .inl (cf31, 800, .inl f31)), (qf32, .inl (cf32, 800, .inl f32)), (qf33, .inl (cf33, 800, .inl f33)), (qf35, .inl (cf35, 800, .inl g35_83)), (qf34, .inl (cf34, 800, .inl f34)), (qf29, .inl (cf29, 800, .inl f29)), (qf30, .inl (cf30, 800, .inl f30)), (qf37, .inl (cf37, 800, .inl f37)), (qf36, .inl (cf36, 800, .inl f36)), (qf40, .inl (cf40, 1500, .inl f40)), (qf41, .inl (cf41, 1500, .inl f41)), (qf42, .inl (cf42, 1500, .inl f42)), (qf44, .inl (cf44, 1500, .inl g44_83)), (qf43, .inl (cf43, 1500, .inl f43))] H := hP
          replace hsp : jn_vm_heads_83 nf v9 v10 v24 v28 f25 f5 f6 f2 f27 f26 f31 f32 f33 f35 f34 f29 f30 f37 f36 f40 f41 f42 f44 f43 nS477 fS477 (lp_vm_heads_50 nf n_50 v9 v10 v24 v28 f25 f5 f6 f2 f27 f26 f31 f32 f33 f35 f34 f29 f30 f37 f36 f40 f41 f42 f44 f43 nS477 fS477) l1_83 g27_83 g35_83 g44_83 x10_83 x9_83 = some (o27, o35, o44, w10, w9) := hsp
          show W _ _ _ _ _ _ _ _ _ _ H locs _ _ _ (F0 m 83 ls [])
          unfold jn_vm_heads_83 at hsp
          try dsimp only at hsp
          refine lv_aload_n hx hb dX13_heads_83 rfl (lv_at hl 0 rfl) ?_
          refine lv_aload_n hx hb dX13_heads_84 rfl (lv_at hl 0 rfl) ?_
          refine va_get (D := (dC, dI)) (ci := 13) (v := .ref qf25) (C := RX13) (T := TX13) (N := 155) hx hb hts uV_h9_X13 hown hK hP 0 rfl rfl 25 (by decide) (hts (.fieldLink RX13 62 "ClassMillModel" "className" "[I") mw_h9_94) (fun _ h9 => h9) hfh_83_25 dX13_heads_85 ?_
          refine lv_iload_n hx hb dX13_heads_88 rfl (lv_at hl 1 rfl) ?_
          obtain ⟨hi_6, hsp⟩ := ox_in hsp
          refine va_iald hx hb hK hP 1 0 rfl rfl (i := l1_83) hi_6 dX13_heads_89 ?_
          obtain ⟨u2_0, hu_2, hsp⟩ := ox_bind hsp
          try dsimp only at hsp
          have hPc := hP.sub (ws' := [(h0, .inr (13, z83)), (qf5, .inl (cf5, 3002, .inl f5)), (qf6, .inl (cf6, 3002, .inl f6)), (qf2, .inl (cf2, 3000, .inl f2)), (qf25, .inl (cf25, 400, .inl f25))]) [0, 2, 3, 4, 1] rfl
          have hDc := hD.sub (ws' := [(h0, .inr (13, z83)), (qf5, .inl (cf5, 3002, .inl f5)), (qf6, .inl (cf6, 3002, .inl f6)), (qf2, .inl (cf2, 3000, .inl f2)), (qf25, .inl (cf25, 400, .inl f25))]) [0, 2, 3, 4, 1] (by decide) rfl
          have hKc := hK.sub (tys' := [(cf5, .int), (cf6, .int), (cf2, .int), (cf25, .int)]) [1, 2, 3, 0] rfl
          have hFc := va_free (wc := [(h0, .inr (13, z83)), (qf5, .inl (cf5, 3002, .inl f5)), (qf6, .inl (cf6, 3002, .inl f6)), (qf2, .inl (cf2, 3000, .inl f2)), (qf25, .inl (cf25, 400, .inl f25))]) hD hS hA [0, 2, 3, 4, 1] rfl
          refine va_calli (va_runV (As := [.int (f25 (l1_83 : Int32).toNatClampNeg)]) (rest := []) ⟨hx, hb, hml, hown, hts⟩ (vm_classOf l dC dI H.size h0 z83 ((f25 (l1_83 : Int32).toNatClampNeg)) qf2 qf5 qf6 v24 qf25 cf5 f5 cf6 f6 cf2 f2 cf25 f25 nS477 fS477 hS477 qS477 tS477 nf u2_0 hlh_83 hfh_83_2 hfh_83_5 hfh_83_6 hfh_83_24 hfh_83_25 hu_2) (cwV 1 hts gv_h9_17 rfl rfl rfl (by decide +kernel) ⟨Nat.le_of_ble_eq_true rfl, Nat.le_of_ble_eq_true rfl⟩) ⟨fun a U g mk q => by obtain ⟨q0, q1, qP, qK, qD, qhZWS477, qhZRS477⟩ := q; exact ⟨q0, q1, qP, va_K.moved (u := U) (U := U.calling g mk a) (Vm.Alike.refl U.vm) qK, qD, pz_W.moved (u := U) (U := U.calling g mk a) (Vm.Alike.refl U.vm) qhZWS477, vk_R.same rfl qhZRS477⟩, va_recv hKc hPc (ci := 13) (q0 := 0) rfl rfl, fun U hU hW => ⟨rfl, by rw [hU], by rw [hU]; exact hPc, va_K.moved hW.alike hKc, hDc.weaken (fun _ _ _ _ => trivial), by rw [hU]; exact ((pz_W.moved hW.alike hZWS477).kept hS.2.1).narrow hFc, vk_R.warm hW hZRS477⟩⟩ rfl rfl hl.1 rfl (lv_room (Nat.le_of_ble_eq_true rfl)) dX13_heads_90 ⟨Nat.le_of_ble_eq_true rfl, Nat.le_of_ble_eq_true rfl⟩) hS (fun q _ h => hFc q h) hFc ?_
          clear hS
          intro r_7 u t H1 locs ht hvm hw hB hz1 hk1 hS
          obtain ⟨z_2, rfl⟩ : ∃ z, z = u := ⟨_, rfl⟩
          obtain ⟨hP1, hK1, hD1⟩ := hB
          rw [ht] at hP1
          have hK1 := va_K.moved hvm.symm hK1
          try dsimp only at hw
          have hPD := va_join (wr := [(qf27, .inl (cf27, 400, .inl g27_83)), (qf26, .inl (cf26, 400, .inl f26)), (qf31, .inl (cf31, 800, .inl f31)), (qf32, .inl (cf32, 800, .inl f32)), (qf33, .inl (cf33, 800, .inl f33)), (qf35, .inl (cf35, 800, .inl g35_83)), (qf34, .inl (cf34, 800, .inl f34)), (qf29, .inl (cf29, 800, .inl f29)), (qf30, .inl (cf30, 800, .inl f30)), (qf37, .inl (cf37, 800, .inl f37)), (qf36, .inl (cf36, 800, .inl f36)), (qf40, .inl (cf40, 1500, .inl f40)), (qf41, .inl (cf41, 1500, .inl f41)), (qf42, .inl (cf42, 1500, .inl f42)), (qf44, .inl (cf44, 1500, .inl g44_83)), (qf43, .inl (cf43, 1500, .inl f43))]) (w1 := [(h0, .inr (13, z_2)), (qf5, .inl (cf5, 3002, .inl f5)), (qf6, .inl (cf6, 3002, .inl f6)), (qf2, .inl (cf2, 3000, .inl f2)), (qf25, .inl (cf25, 400, .inl f25))]) hP hD [0, 2, 3, 4, 1] [5, 6, 7, 8, 9, 10, 11, 12, 13, 14, 15, 16, 17, 18, 19, 20] rfl rfl (by decide) (by decide) hk1 hFc hP1 hD1
          clear hP hD
          obtain ⟨hP, hD⟩ := hPD
          replace hK := (hK.sub (tys' := [(cf27, .int), (cf26, .int), (cf31, .int), (cf32, .int), (cf33, .boolean), (cf35, .int), (cf34, .int), (cf29, .int), (cf30, .int), (cf37, .int), (cf36, .int), (cf40, .int), (cf41, .int), (cf42, .boolean), (cf44, .int), (cf43, .int)]) [4, 5, 6, 7, 8, 9, 10, 11, 12, 13, 14, 15, 16, 17, 18, 19] rfl).app hK1
          clear hPc hDc hKc hFc hP1 hK1 hD1 hz1 hk1 ht hvm
          generalize H1 = H at hP hS ⊢
          replace hP : va_P (dC, dI) vwCl [(qf27, .inl (cf27, 400, .inl g27_83)), (qf26, .inl (cf26, 400, .inl f26)), (qf31, .inl (cf31, 800, .inl f31)), (qf32, .inl (cf32, 800, .inl f32)), (qf33, .inl (cf33, 800, .inl f33)), (qf35, .inl (cf35, 800, .inl g35_83)), (qf34, .inl (cf34, 800, .inl f34)), (qf29, .inl (cf29, 800, .inl f29)), (qf30, .inl (cf30, 800, .inl f30)), (qf37, .inl (cf37, 800, .inl f37)), (qf36, .inl (cf36, 800, .inl f36)), (qf40, .inl (cf40, 1500, .inl f40)), (qf41, .inl (cf41, 1500, .inl f41)), (qf42, .inl (cf42, 1500, .inl f42)), (qf44, .inl (cf44, 1500, .inl g44_83)), (qf43, .inl (cf43, 1500, .inl f43)), (h0, .inr (13, z_2)), (qf5, .inl (cf5, 3002, .inl f5)), (qf6, .inl (cf6, 3002, .inl f6)), (qf2, .inl (cf2, 3000, .inl f2)), (qf25, .inl (cf25, 400, .inl f25))] H := hP
          replace hD : va_D A [(qf27, .inl (cf27, 400, .inl g27_83)), (qf26, .inl (cf26, 400, .inl f26)), (qf31, .inl (cf31, 800, .inl f31)), (qf32, .inl (cf32, 800, .inl f32)), (qf33, .inl (cf33, 800, .inl f33)), (qf35, .inl (cf35, 800, .inl g35_83)), (qf34, .inl (cf34, 800, .inl f34)), (qf29, .inl (cf29, 800, .inl f29)), (qf30, .inl (cf30, 800, .inl f30)), (qf37, .inl (cf37, 800, .inl f37)), (qf36, .inl (cf36, 800, .inl f36)), (qf40, .inl (cf40, 1500, .inl f40)), (qf41, .inl (cf41, 1500, .inl f41)), (qf42, .inl (cf42, 1500, .inl f42)), (qf44, .inl (cf44, 1500, .inl g44_83)), (qf43, .inl (cf43, 1500, .inl f43)), (h0, .inr (13, z_2)), (qf5, .inl (cf5, 3002, .inl f5)), (qf6, .inl (cf6, 3002, .inl f6)), (qf2, .inl (cf2, 3000, .inl f2)), (qf25, .inl (cf25, 400, .inl f25))] := hD
          replace hK : va_K (dC, dI) vwCl [(cf27, .int), (cf26, .int), (cf31, .int), (cf32, .int), (cf33, .boolean), (cf35, .int), (cf34, .int), (cf29, .int), (cf30, .int), (cf37, .int), (cf36, .int), (cf40, .int), (cf41, .int), (cf42, .boolean), (cf44, .int), (cf43, .int), (cf5, .int), (cf6, .int), (cf2, .int), (cf25, .int)] s := hK
          obtain ⟨hwa_2, hln_2, hre_2⟩ := hw
          have hfk_2_2 : z_2[2]? = some (.ref qf2) := (hre_2 2 ).trans (hfh_83_2)
          have hfk_2_5 : z_2[5]? = some (.ref qf5) := (hre_2 5 ).trans (hfh_83_5)
          have hfk_2_6 : z_2[6]? = some (.ref qf6) := (hre_2 6 ).trans (hfh_83_6)
          have hfk_2_9 : z_2[9]? = some (.int x9_83) := (hre_2 9 ).trans (hfh_83_9)
          have hfk_2_10 : z_2[10]? = some (.int x10_83) := (hre_2 10 ).trans (hfh_83_10)
          have hfk_2_24 : z_2[24]? = some (.int v24) := (hre_2 24 ).trans (hfh_83_24)
          have hfk_2_25 : z_2[25]? = some (.ref qf25) := (hre_2 25 ).trans (hfh_83_25)
          have hfk_2_26 : z_2[26]? = some (.ref qf26) := (hre_2 26 ).trans (hfh_83_26)
          have hfk_2_27 : z_2[27]? = some (.ref qf27) := (hre_2 27 ).trans (hfh_83_27)
          have hfk_2_28 : z_2[28]? = some (.int v28) := (hre_2 28 ).trans (hfh_83_28)
          have hfk_2_29 : z_2[29]? = some (.ref qf29) := (hre_2 29 ).trans (hfh_83_29)
          have hfk_2_30 : z_2[30]? = some (.ref qf30) := (hre_2 30 ).trans (hfh_83_30)
          have hfk_2_31 : z_2[31]? = some (.ref qf31) := (hre_2 31 ).trans (hfh_83_31)
          have hfk_2_32 : z_2[32]? = some (.ref qf32) := (hre_2 32 ).trans (hfh_83_32)
          have hfk_2_33 : z_2[33]? = some (.ref qf33) := (hre_2 33 ).trans (hfh_83_33)
          have hfk_2_34 : z_2[34]? = some (.ref qf34) := (hre_2 34 ).trans (hfh_83_34)
          have hfk_2_35 : z_2[35]? = some (.ref qf35) := (hre_2 35 ).trans (hfh_83_35)
          have hfk_2_36 : z_2[36]? = some (.ref qf36) := (hre_2 36 ).trans (hfh_83_36)
          have hfk_2_37 : z_2[37]? = some (.ref qf37) := (hre_2 37 ).trans (hfh_83_37)
          have hfk_2_40 : z_2[40]? = some (.ref qf40) := (hre_2 40 ).trans (hfh_83_40)
          have hfk_2_41 : z_2[41]? = some (.ref qf41) := (hre_2 41 ).trans (hfh_83_41)
          have hfk_2_42 : z_2[42]? = some (.ref qf42) := (hre_2 42 ).trans (hfh_83_42)
          have hfk_2_43 : z_2[43]? = some (.ref qf43) := (hre_2 43 ).trans (hfh_83_43)
          have hfk_2_44 : z_2[44]? = some (.ref qf44) := (hre_2 44 ).trans (hfh_83_44)
          have hrq_2 : ∀ j : Nat, j ≠ 10 → j ≠ 9 → z_2[j]? = zs[j]? := fun j g10 g9 => (hre_2 j ).trans (hrh_83 j g10 g9)
          obtain rfl := hwa_2
          refine lv_bipush (v := 8) hx hb dX13_heads_93 (by decide) ?_
          refine lv_iload_n hx hb dX13_heads_95 rfl (lv_at hl 1 rfl) ?_
          refine lv_iadd hx hb dX13_heads_96 ?_
          refine lv_icmp_eq (tgt := 111) hx hb dX13_heads_97 (by decide) (fun c_8 => ?_) (fun c_8 => ?_)
          · rw [if_pos c_8] at hsp
            exact hj_111 (H, locs, ls, z_2, l1_83, g27_83, g35_83, g44_83, x10_83, x9_83) ⟨lv_sub hl [0, 1] rfl, hS, hD.sub (ws' := [(h0, .inr (13, z_2)), (qf25, .inl (cf25, 400, .inl f25)), (qf5, .inl (cf5, 3002, .inl f5)), (qf6, .inl (cf6, 3002, .inl f6)), (qf2, .inl (cf2, 3000, .inl f2)), (qf27, .inl (cf27, 400, .inl g27_83)), (qf26, .inl (cf26, 400, .inl f26)), (qf31, .inl (cf31, 800, .inl f31)), (qf32, .inl (cf32, 800, .inl f32)), (qf33, .inl (cf33, 800, .inl f33)), (qf35, .inl (cf35, 800, .inl g35_83)), (qf34, .inl (cf34, 800, .inl f34)), (qf29, .inl (cf29, 800, .inl f29)), (qf30, .inl (cf30, 800, .inl f30)), (qf37, .inl (cf37, 800, .inl f37)), (qf36, .inl (cf36, 800, .inl f36)), (qf40, .inl (cf40, 1500, .inl f40)), (qf41, .inl (cf41, 1500, .inl f41)), (qf42, .inl (cf42, 1500, .inl f42)), (qf44, .inl (cf44, 1500, .inl g44_83)), (qf43, .inl (cf43, 1500, .inl f43))]) [16, 20, 17, 18, 19, 0, 1, 2, 3, 4, 5, 6, 7, 8, 9, 10, 11, 12, 13, 14, 15] (by decide) rfl, hP.sub (ws' := [(h0, .inr (13, z_2)), (qf25, .inl (cf25, 400, .inl f25)), (qf5, .inl (cf5, 3002, .inl f5)), (qf6, .inl (cf6, 3002, .inl f6)), (qf2, .inl (cf2, 3000, .inl f2)), (qf27, .inl (cf27, 400, .inl g27_83)), (qf26, .inl (cf26, 400, .inl f26)), (qf31, .inl (cf31, 800, .inl f31)), (qf32, .inl (cf32, 800, .inl f32)), (qf33, .inl (cf33, 800, .inl f33)), (qf35, .inl (cf35, 800, .inl g35_83)), (qf34, .inl (cf34, 800, .inl f34)), (qf29, .inl (cf29, 800, .inl f29)), (qf30, .inl (cf30, 800, .inl f30)), (qf37, .inl (cf37, 800, .inl f37)), (qf36, .inl (cf36, 800, .inl f36)), (qf40, .inl (cf40, 1500, .inl f40)), (qf41, .inl (cf41, 1500, .inl f41)), (qf42, .inl (cf42, 1500, .inl f42)), (qf44, .inl (cf44, 1500, .inl g44_83)), (qf43, .inl (cf43, 1500, .inl f43))]) [16, 20, 17, 18, 19, 0, 1, 2, 3, 4, 5, 6, 7, 8, 9, 10, 11, 12, 13, 14, 15] rfl, hfk_2_2, hfk_2_5, hfk_2_6, hfk_2_9, hfk_2_10, hfk_2_24, hfk_2_25, hfk_2_26, hfk_2_27, hfk_2_28, hfk_2_29, hfk_2_30, hfk_2_31, hfk_2_32, hfk_2_33, hfk_2_34, hfk_2_35, hfk_2_36, hfk_2_37, hfk_2_40, hfk_2_41, hfk_2_42, hfk_2_43, hfk_2_44, hln_2, hrq_2, hsp⟩
          · rw [if_neg c_8] at hsp
            refine lv_aload_n hx hb dX13_heads_100 rfl (lv_at hl 0 rfl) ?_
            refine lv_iconst (v := 4) hx hb dX13_heads_101 (by decide) ?_
            refine lv_aload_n hx hb dX13_heads_102 rfl (lv_at hl 0 rfl) ?_
            refine va_get (D := (dC, dI)) (ci := 13) (v := .ref qf25) (C := RX13) (T := TX13) (N := 155) hx hb hts uV_h9_X13 hown hK hP 16 rfl rfl 25 (by decide) (hts (.fieldLink RX13 62 "ClassMillModel" "className" "[I") mw_h9_94) (fun _ h9 => h9) hfk_2_25 dX13_heads_103 ?_
            refine lv_iload_n hx hb dX13_heads_106 rfl (lv_at hl 1 rfl) ?_
            obtain ⟨hi_9, hsp⟩ := ox_in hsp
            refine va_iald hx hb hK hP 20 19 rfl rfl (i := l1_83) hi_9 dX13_heads_107 ?_
            obtain ⟨⟨u3_0, u3_1⟩, hu_3, hsp⟩ := ox_bind hsp
            try dsimp only at hsp
            have hPc := hP.sub (ws' := [(h0, .inr (13, z_2)), (qf5, .inl (cf5, 3002, .inl f5))]) [16, 17] rfl
            have hDc := hD.sub (ws' := [(h0, .inr (13, z_2)), (qf5, .inl (cf5, 3002, .inl f5))]) [16, 17] (by decide) rfl
            have hKc := hK.sub (tys' := [(cf5, .int)]) [16] rfl
            have hFc := va_free (wc := [(h0, .inr (13, z_2)), (qf5, .inl (cf5, 3002, .inl f5))]) hD hS hA [16, 17] rfl
            refine va_callv (va_runV (As := [.int 4, .int (f25 (l1_83 : Int32).toNatClampNeg)]) (rest := []) ⟨hx, hb, hml, hown, hts⟩ (tm_wrong l dC dI H.size h0 z_2 4 ((f25 (l1_83 : Int32).toNatClampNeg)) qf5 x9_83 x10_83 cf5 f5 nf u3_0 u3_1 hln_2 hfk_2_5 hfk_2_9 hfk_2_10 hu_3) (cwV 2 hts gv_h9_18 rfl rfl rfl (by decide +kernel) ⟨Nat.le_of_ble_eq_true rfl, Nat.le_of_ble_eq_true rfl⟩) ⟨fun a U g mk q => by obtain ⟨q0, q1, qP, qK, qD⟩ := q; exact ⟨q0, q1, qP, va_K.moved (u := U) (U := U.calling g mk a) (Vm.Alike.refl U.vm) qK, qD⟩, va_recv hKc hPc (ci := 13) (q0 := 0) rfl rfl, fun U hU hW => ⟨rfl, by rw [hU], by rw [hU]; exact hPc, va_K.moved hW.alike hKc, hDc.weaken (fun _ _ _ _ => trivial)⟩⟩ rfl rfl hl.1 rfl (lv_room (Nat.le_of_ble_eq_true rfl)) dX13_heads_108 ⟨Nat.le_of_ble_eq_true rfl, Nat.le_of_ble_eq_true rfl⟩) hS (fun q _ h => hFc q h) hFc ?_
            clear hS
            intro u t H1 locs ht hvm hw hB hz1 hk1 hS
            obtain ⟨z_3, rfl⟩ : ∃ z, z = u := ⟨_, rfl⟩
            obtain ⟨hP1, hK1, hD1⟩ := hB
            rw [ht] at hP1
            have hK1 := va_K.moved hvm.symm hK1
            try dsimp only at hw
            have hPD := va_join (wr := [(qf27, .inl (cf27, 400, .inl g27_83)), (qf26, .inl (cf26, 400, .inl f26)), (qf31, .inl (cf31, 800, .inl f31)), (qf32, .inl (cf32, 800, .inl f32)), (qf33, .inl (cf33, 800, .inl f33)), (qf35, .inl (cf35, 800, .inl g35_83)), (qf34, .inl (cf34, 800, .inl f34)), (qf29, .inl (cf29, 800, .inl f29)), (qf30, .inl (cf30, 800, .inl f30)), (qf37, .inl (cf37, 800, .inl f37)), (qf36, .inl (cf36, 800, .inl f36)), (qf40, .inl (cf40, 1500, .inl f40)), (qf41, .inl (cf41, 1500, .inl f41)), (qf42, .inl (cf42, 1500, .inl f42)), (qf44, .inl (cf44, 1500, .inl g44_83)), (qf43, .inl (cf43, 1500, .inl f43)), (qf6, .inl (cf6, 3002, .inl f6)), (qf2, .inl (cf2, 3000, .inl f2)), (qf25, .inl (cf25, 400, .inl f25))]) (w1 := [(h0, .inr (13, z_3)), (qf5, .inl (cf5, 3002, .inl f5))]) hP hD [16, 17] [0, 1, 2, 3, 4, 5, 6, 7, 8, 9, 10, 11, 12, 13, 14, 15, 18, 19, 20] rfl rfl (by decide) (by decide) hk1 hFc hP1 hD1
            clear hP hD
            obtain ⟨hP, hD⟩ := hPD
            replace hK := (hK.sub (tys' := [(cf27, .int), (cf26, .int), (cf31, .int), (cf32, .int), (cf33, .boolean), (cf35, .int), (cf34, .int), (cf29, .int), (cf30, .int), (cf37, .int), (cf36, .int), (cf40, .int), (cf41, .int), (cf42, .boolean), (cf44, .int), (cf43, .int), (cf6, .int), (cf2, .int), (cf25, .int)]) [0, 1, 2, 3, 4, 5, 6, 7, 8, 9, 10, 11, 12, 13, 14, 15, 17, 18, 19] rfl).app hK1
            clear hPc hDc hKc hFc hP1 hK1 hD1 hz1 hk1 ht hvm
            generalize H1 = H at hP hS ⊢
            replace hP : va_P (dC, dI) vwCl [(qf27, .inl (cf27, 400, .inl g27_83)), (qf26, .inl (cf26, 400, .inl f26)), (qf31, .inl (cf31, 800, .inl f31)), (qf32, .inl (cf32, 800, .inl f32)), (qf33, .inl (cf33, 800, .inl f33)), (qf35, .inl (cf35, 800, .inl g35_83)), (qf34, .inl (cf34, 800, .inl f34)), (qf29, .inl (cf29, 800, .inl f29)), (qf30, .inl (cf30, 800, .inl f30)), (qf37, .inl (cf37, 800, .inl f37)), (qf36, .inl (cf36, 800, .inl f36)), (qf40, .inl (cf40, 1500, .inl f40)), (qf41, .inl (cf41, 1500, .inl f41)), (qf42, .inl (cf42, 1500, .inl f42)), (qf44, .inl (cf44, 1500, .inl g44_83)), (qf43, .inl (cf43, 1500, .inl f43)), (qf6, .inl (cf6, 3002, .inl f6)), (qf2, .inl (cf2, 3000, .inl f2)), (qf25, .inl (cf25, 400, .inl f25)), (h0, .inr (13, z_3)), (qf5, .inl (cf5, 3002, .inl f5))] H := hP
            replace hD : va_D A [(qf27, .inl (cf27, 400, .inl g27_83)), (qf26, .inl (cf26, 400, .inl f26)), (qf31, .inl (cf31, 800, .inl f31)), (qf32, .inl (cf32, 800, .inl f32)), (qf33, .inl (cf33, 800, .inl f33)), (qf35, .inl (cf35, 800, .inl g35_83)), (qf34, .inl (cf34, 800, .inl f34)), (qf29, .inl (cf29, 800, .inl f29)), (qf30, .inl (cf30, 800, .inl f30)), (qf37, .inl (cf37, 800, .inl f37)), (qf36, .inl (cf36, 800, .inl f36)), (qf40, .inl (cf40, 1500, .inl f40)), (qf41, .inl (cf41, 1500, .inl f41)), (qf42, .inl (cf42, 1500, .inl f42)), (qf44, .inl (cf44, 1500, .inl g44_83)), (qf43, .inl (cf43, 1500, .inl f43)), (qf6, .inl (cf6, 3002, .inl f6)), (qf2, .inl (cf2, 3000, .inl f2)), (qf25, .inl (cf25, 400, .inl f25)), (h0, .inr (13, z_3)), (qf5, .inl (cf5, 3002, .inl f5))] := hD
            replace hK : va_K (dC, dI) vwCl [(cf27, .int), (cf26, .int), (cf31, .int), (cf32, .int), (cf33, .boolean), (cf35, .int), (cf34, .int), (cf29, .int), (cf30, .int), (cf37, .int), (cf36, .int), (cf40, .int), (cf41, .int), (cf42, .boolean), (cf44, .int), (cf43, .int), (cf6, .int), (cf2, .int), (cf25, .int), (cf5, .int)] s := hK
            obtain ⟨hwa_3, hln_3, hre_3, hch_3_10, hch_3_9⟩ := hw
            have hfk_3_2 : z_3[2]? = some (.ref qf2) := (hre_3 2 (by decide) (by decide)).trans (hfk_2_2)
            have hfk_3_5 : z_3[5]? = some (.ref qf5) := (hre_3 5 (by decide) (by decide)).trans (hfk_2_5)
            have hfk_3_6 : z_3[6]? = some (.ref qf6) := (hre_3 6 (by decide) (by decide)).trans (hfk_2_6)
            have hfk_3_24 : z_3[24]? = some (.int v24) := (hre_3 24 (by decide) (by decide)).trans (hfk_2_24)
            have hfk_3_25 : z_3[25]? = some (.ref qf25) := (hre_3 25 (by decide) (by decide)).trans (hfk_2_25)
            have hfk_3_26 : z_3[26]? = some (.ref qf26) := (hre_3 26 (by decide) (by decide)).trans (hfk_2_26)
            have hfk_3_27 : z_3[27]? = some (.ref qf27) := (hre_3 27 (by decide) (by decide)).trans (hfk_2_27)
            have hfk_3_28 : z_3[28]? = some (.int v28) := (hre_3 28 (by decide) (by decide)).trans (hfk_2_28)
            have hfk_3_29 : z_3[29]? = some (.ref qf29) := (hre_3 29 (by decide) (by decide)).trans (hfk_2_29)
            have hfk_3_30 : z_3[30]? = some (.ref qf30) := (hre_3 30 (by decide) (by decide)).trans (hfk_2_30)
            have hfk_3_31 : z_3[31]? = some (.ref qf31) := (hre_3 31 (by decide) (by decide)).trans (hfk_2_31)
            have hfk_3_32 : z_3[32]? = some (.ref qf32) := (hre_3 32 (by decide) (by decide)).trans (hfk_2_32)
            have hfk_3_33 : z_3[33]? = some (.ref qf33) := (hre_3 33 (by decide) (by decide)).trans (hfk_2_33)
            have hfk_3_34 : z_3[34]? = some (.ref qf34) := (hre_3 34 (by decide) (by decide)).trans (hfk_2_34)
            have hfk_3_35 : z_3[35]? = some (.ref qf35) := (hre_3 35 (by decide) (by decide)).trans (hfk_2_35)
            have hfk_3_36 : z_3[36]? = some (.ref qf36) := (hre_3 36 (by decide) (by decide)).trans (hfk_2_36)
            have hfk_3_37 : z_3[37]? = some (.ref qf37) := (hre_3 37 (by decide) (by decide)).trans (hfk_2_37)
            have hfk_3_40 : z_3[40]? = some (.ref qf40) := (hre_3 40 (by decide) (by decide)).trans (hfk_2_40)
            have hfk_3_41 : z_3[41]? = some (.ref qf41) := (hre_3 41 (by decide) (by decide)).trans (hfk_2_41)
            have hfk_3_42 : z_3[42]? = some (.ref qf42) := (hre_3 42 (by decide) (by decide)).trans (hfk_2_42)
            have hfk_3_43 : z_3[43]? = some (.ref qf43) := (hre_3 43 (by decide) (by decide)).trans (hfk_2_43)
            have hfk_3_44 : z_3[44]? = some (.ref qf44) := (hre_3 44 (by decide) (by decide)).trans (hfk_2_44)
            have hrq_3 : ∀ j : Nat, j ≠ 10 → j ≠ 9 → z_3[j]? = zs[j]? := fun j g10 g9 => (hre_3 j g10 g9).trans (hrq_2 j g10 g9)
            exact hj_111 (H, locs, ls, z_3, l1_83, g27_83, g35_83, g44_83, u3_0, u3_1) ⟨lv_sub hl [0, 1] rfl, hS, hD.sub (ws' := [(h0, .inr (13, z_3)), (qf25, .inl (cf25, 400, .inl f25)), (qf5, .inl (cf5, 3002, .inl f5)), (qf6, .inl (cf6, 3002, .inl f6)), (qf2, .inl (cf2, 3000, .inl f2)), (qf27, .inl (cf27, 400, .inl g27_83)), (qf26, .inl (cf26, 400, .inl f26)), (qf31, .inl (cf31, 800, .inl f31)), (qf32, .inl (cf32, 800, .inl f32)), (qf33, .inl (cf33, 800, .inl f33)), (qf35, .inl (cf35, 800, .inl g35_83)), (qf34, .inl (cf34, 800, .inl f34)), (qf29, .inl (cf29, 800, .inl f29)), (qf30, .inl (cf30, 800, .inl f30)), (qf37, .inl (cf37, 800, .inl f37)), (qf36, .inl (cf36, 800, .inl f36)), (qf40, .inl (cf40, 1500, .inl f40)), (qf41, .inl (cf41, 1500, .inl f41)), (qf42, .inl (cf42, 1500, .inl f42)), (qf44, .inl (cf44, 1500, .inl g44_83)), (qf43, .inl (cf43, 1500, .inl f43))]) [19, 18, 20, 16, 17, 0, 1, 2, 3, 4, 5, 6, 7, 8, 9, 10, 11, 12, 13, 14, 15] (by decide) rfl, hP.sub (ws' := [(h0, .inr (13, z_3)), (qf25, .inl (cf25, 400, .inl f25)), (qf5, .inl (cf5, 3002, .inl f5)), (qf6, .inl (cf6, 3002, .inl f6)), (qf2, .inl (cf2, 3000, .inl f2)), (qf27, .inl (cf27, 400, .inl g27_83)), (qf26, .inl (cf26, 400, .inl f26)), (qf31, .inl (cf31, 800, .inl f31)), (qf32, .inl (cf32, 800, .inl f32)), (qf33, .inl (cf33, 800, .inl f33)), (qf35, .inl (cf35, 800, .inl g35_83)), (qf34, .inl (cf34, 800, .inl f34)), (qf29, .inl (cf29, 800, .inl f29)), (qf30, .inl (cf30, 800, .inl f30)), (qf37, .inl (cf37, 800, .inl f37)), (qf36, .inl (cf36, 800, .inl f36)), (qf40, .inl (cf40, 1500, .inl f40)), (qf41, .inl (cf41, 1500, .inl f41)), (qf42, .inl (cf42, 1500, .inl f42)), (qf44, .inl (cf44, 1500, .inl g44_83)), (qf43, .inl (cf43, 1500, .inl f43))]) [19, 18, 20, 16, 17, 0, 1, 2, 3, 4, 5, 6, 7, 8, 9, 10, 11, 12, 13, 14, 15] rfl, hfk_3_2, hfk_3_5, hfk_3_6, hch_3_9, hch_3_10, hfk_3_24, hfk_3_25, hfk_3_26, hfk_3_27, hfk_3_28, hfk_3_29, hfk_3_30, hfk_3_31, hfk_3_32, hfk_3_33, hfk_3_34, hfk_3_35, hfk_3_36, hfk_3_37, hfk_3_40, hfk_3_41, hfk_3_42, hfk_3_43, hfk_3_44, hln_3, hrq_3, hsp⟩
        intro hj_83
        refine lv_iload_n hx hb dX13_heads_50 rfl (lv_at hl 0 rfl) ?_
        refine lv_aload_n hx hb dX13_heads_51 rfl (lv_at hl 1 rfl) ?_
        refine va_get (D := (dC, dI)) (ci := 13) (v := .int v24) (C := RX13) (T := TX13) (N := 155) hx hb hts uV_h9_X13 hown hK hP 0 rfl rfl 24 (by decide) (hts (.fieldLink RX13 409 "ClassMillModel" "classes" "I") mw_h9_93) (fun _ h9 => h9) hfh_50_24 dX13_heads_52 ?_
        refine lv_icmp_ge (tgt := 190) hx hb dX13_heads_55 (by decide) (fun c_2 => ?_) (fun c_2 => ?_)
        · rw [if_pos c_2] at hsp
          exact hj_190 (H, locs, ls, z50, g27_50, g35_50, g44_50, x10_50, x9_50) ⟨lv_sub hl [1] rfl, hS, hD.sub (ws' := [(h0, .inr (13, z50)), (qf25, .inl (cf25, 400, .inl f25)), (qf5, .inl (cf5, 3002, .inl f5)), (qf6, .inl (cf6, 3002, .inl f6)), (qf2, .inl (cf2, 3000, .inl f2)), (qf27, .inl (cf27, 400, .inl g27_50)), (qf26, .inl (cf26, 400, .inl f26)), (qf31, .inl (cf31, 800, .inl f31)), (qf32, .inl (cf32, 800, .inl f32)), (qf33, .inl (cf33, 800, .inl f33)), (qf35, .inl (cf35, 800, .inl g35_50)), (qf34, .inl (cf34, 800, .inl f34)), (qf29, .inl (cf29, 800, .inl f29)), (qf30, .inl (cf30, 800, .inl f30)), (qf37, .inl (cf37, 800, .inl f37)), (qf36, .inl (cf36, 800, .inl f36)), (qf40, .inl (cf40, 1500, .inl f40)), (qf41, .inl (cf41, 1500, .inl f41)), (qf42, .inl (cf42, 1500, .inl f42)), (qf44, .inl (cf44, 1500, .inl g44_50)), (qf43, .inl (cf43, 1500, .inl f43))]) [0, 1, 2, 3, 4, 5, 6, 7, 8, 9, 10, 11, 12, 13, 14, 15, 16, 17, 18, 19, 20] (by decide) rfl, hP.sub (ws' := [(h0, .inr (13, z50)), (qf25, .inl (cf25, 400, .inl f25)), (qf5, .inl (cf5, 3002, .inl f5)), (qf6, .inl (cf6, 3002, .inl f6)), (qf2, .inl (cf2, 3000, .inl f2)), (qf27, .inl (cf27, 400, .inl g27_50)), (qf26, .inl (cf26, 400, .inl f26)), (qf31, .inl (cf31, 800, .inl f31)), (qf32, .inl (cf32, 800, .inl f32)), (qf33, .inl (cf33, 800, .inl f33)), (qf35, .inl (cf35, 800, .inl g35_50)), (qf34, .inl (cf34, 800, .inl f34)), (qf29, .inl (cf29, 800, .inl f29)), (qf30, .inl (cf30, 800, .inl f30)), (qf37, .inl (cf37, 800, .inl f37)), (qf36, .inl (cf36, 800, .inl f36)), (qf40, .inl (cf40, 1500, .inl f40)), (qf41, .inl (cf41, 1500, .inl f41)), (qf42, .inl (cf42, 1500, .inl f42)), (qf44, .inl (cf44, 1500, .inl g44_50)), (qf43, .inl (cf43, 1500, .inl f43))]) [0, 1, 2, 3, 4, 5, 6, 7, 8, 9, 10, 11, 12, 13, 14, 15, 16, 17, 18, 19, 20] rfl, hfh_50_2, hfh_50_5, hfh_50_6, hfh_50_9, hfh_50_10, hfh_50_24, hfh_50_25, hfh_50_26, hfh_50_27, hfh_50_28, hfh_50_29, hfh_50_30, hfh_50_31, hfh_50_32, hfh_50_33, hfh_50_34, hfh_50_35, hfh_50_36, hfh_50_37, hfh_50_40, hfh_50_41, hfh_50_42, hfh_50_43, hfh_50_44, hlh_50, hrh_50, hsp⟩
        · rw [if_neg c_2] at hsp
          refine lv_aload_n hx hb dX13_heads_58 rfl (lv_at hl 1 rfl) ?_
          refine va_get (D := (dC, dI)) (ci := 13) (v := .int x9_50) (C := RX13) (T := TX13) (N := 155) hx hb hts uV_h9_X13 hown hK hP 0 rfl rfl 9 (by decide) (hts (.fieldLink RX13 319 "ClassMillModel" "fault" "I") mw_h9_66) (fun _ h9 => h9) hfh_50_9 dX13_heads_59 ?_
          refine lv_if_ne (tgt := 190) hx hb dX13_heads_62 (by decide) (fun c_3 => ?_) (fun c_3 => ?_)
          · rw [if_neg c_3] at hsp
            exact hj_190 (H, locs, ls, z50, g27_50, g35_50, g44_50, x10_50, x9_50) ⟨lv_sub hl [1] rfl, hS, hD.sub (ws' := [(h0, .inr (13, z50)), (qf25, .inl (cf25, 400, .inl f25)), (qf5, .inl (cf5, 3002, .inl f5)), (qf6, .inl (cf6, 3002, .inl f6)), (qf2, .inl (cf2, 3000, .inl f2)), (qf27, .inl (cf27, 400, .inl g27_50)), (qf26, .inl (cf26, 400, .inl f26)), (qf31, .inl (cf31, 800, .inl f31)), (qf32, .inl (cf32, 800, .inl f32)), (qf33, .inl (cf33, 800, .inl f33)), (qf35, .inl (cf35, 800, .inl g35_50)), (qf34, .inl (cf34, 800, .inl f34)), (qf29, .inl (cf29, 800, .inl f29)), (qf30, .inl (cf30, 800, .inl f30)), (qf37, .inl (cf37, 800, .inl f37)), (qf36, .inl (cf36, 800, .inl f36)), (qf40, .inl (cf40, 1500, .inl f40)), (qf41, .inl (cf41, 1500, .inl f41)), (qf42, .inl (cf42, 1500, .inl f42)), (qf44, .inl (cf44, 1500, .inl g44_50)), (qf43, .inl (cf43, 1500, .inl f43))]) [0, 1, 2, 3, 4, 5, 6, 7, 8, 9, 10, 11, 12, 13, 14, 15, 16, 17, 18, 19, 20] (by decide) rfl, hP.sub (ws' := [(h0, .inr (13, z50)), (qf25, .inl (cf25, 400, .inl f25)), (qf5, .inl (cf5, 3002, .inl f5)), (qf6, .inl (cf6, 3002, .inl f6)), (qf2, .inl (cf2, 3000, .inl f2)), (qf27, .inl (cf27, 400, .inl g27_50)), (qf26, .inl (cf26, 400, .inl f26)), (qf31, .inl (cf31, 800, .inl f31)), (qf32, .inl (cf32, 800, .inl f32)), (qf33, .inl (cf33, 800, .inl f33)), (qf35, .inl (cf35, 800, .inl g35_50)), (qf34, .inl (cf34, 800, .inl f34)), (qf29, .inl (cf29, 800, .inl f29)), (qf30, .inl (cf30, 800, .inl f30)), (qf37, .inl (cf37, 800, .inl f37)), (qf36, .inl (cf36, 800, .inl f36)), (qf40, .inl (cf40, 1500, .inl f40)), (qf41, .inl (cf41, 1500, .inl f41)), (qf42, .inl (cf42, 1500, .inl f42)), (qf44, .inl (cf44, 1500, .inl g44_50)), (qf43, .inl (cf43, 1500, .inl f43))]) [0, 1, 2, 3, 4, 5, 6, 7, 8, 9, 10, 11, 12, 13, 14, 15, 16, 17, 18, 19, 20] rfl, hfh_50_2, hfh_50_5, hfh_50_6, hfh_50_9, hfh_50_10, hfh_50_24, hfh_50_25, hfh_50_26, hfh_50_27, hfh_50_28, hfh_50_29, hfh_50_30, hfh_50_31, hfh_50_32, hfh_50_33, hfh_50_34, hfh_50_35, hfh_50_36, hfh_50_37, hfh_50_40, hfh_50_41, hfh_50_42, hfh_50_43, hfh_50_44, hlh_50, hrh_50, hsp⟩
          · rw [if_pos c_3] at hsp
            refine lv_iload_n hx hb dX13_heads_65 rfl (lv_at hl 0 rfl) ?_
            refine lv_bipush (v := 8) hx hb dX13_heads_66 (by decide) ?_
            refine lv_icmp_ne (tgt := 83) hx hb dX13_heads_68 (by decide) (fun c_4 => ?_) (fun c_4 => ?_)
            · rw [if_neg c_4] at hsp
              exact hj_83 (H, locs, ls, z50, l1_50, g27_50, g35_50, g44_50, x10_50, x9_50) ⟨lv_sub hl [1, 0] rfl, hS, hD.sub (ws' := [(h0, .inr (13, z50)), (qf25, .inl (cf25, 400, .inl f25)), (qf5, .inl (cf5, 3002, .inl f5)), (qf6, .inl (cf6, 3002, .inl f6)), (qf2, .inl (cf2, 3000, .inl f2)), (qf27, .inl (cf27, 400, .inl g27_50)), (qf26, .inl (cf26, 400, .inl f26)), (qf31, .inl (cf31, 800, .inl f31)), (qf32, .inl (cf32, 800, .inl f32)), (qf33, .inl (cf33, 800, .inl f33)), (qf35, .inl (cf35, 800, .inl g35_50)), (qf34, .inl (cf34, 800, .inl f34)), (qf29, .inl (cf29, 800, .inl f29)), (qf30, .inl (cf30, 800, .inl f30)), (qf37, .inl (cf37, 800, .inl f37)), (qf36, .inl (cf36, 800, .inl f36)), (qf40, .inl (cf40, 1500, .inl f40)), (qf41, .inl (cf41, 1500, .inl f41)), (qf42, .inl (cf42, 1500, .inl f42)), (qf44, .inl (cf44, 1500, .inl g44_50)), (qf43, .inl (cf43, 1500, .inl f43))]) [0, 1, 2, 3, 4, 5, 6, 7, 8, 9, 10, 11, 12, 13, 14, 15, 16, 17, 18, 19, 20] (by decide) rfl, hP.sub (ws' := [(h0, .inr (13, z50)), (qf25, .inl (cf25, 400, .inl f25)), (qf5, .inl (cf5, 3002, .inl f5)), (qf6, .inl (cf6, 3002, .inl f6)), (qf2, .inl (cf2, 3000, .inl f2)), (qf27, .inl (cf27, 400, .inl g27_50)), (qf26, .inl (cf26, 400, .inl f26)), (qf31, .inl (cf31, 800, .inl f31)), (qf32, .inl (cf32, 800, .inl f32)), (qf33, .inl (cf33, 800, .inl f33)), (qf35, .inl (cf35, 800, .inl g35_50)), (qf34, .inl (cf34, 800, .inl f34)), (qf29, .inl (cf29, 800, .inl f29)), (qf30, .inl (cf30, 800, .inl f30)), (qf37, .inl (cf37, 800, .inl f37)), (qf36, .inl (cf36, 800, .inl f36)), (qf40, .inl (cf40, 1500, .inl f40)), (qf41, .inl (cf41, 1500, .inl f41)), (qf42, .inl (cf42, 1500, .inl f42)), (qf44, .inl (cf44, 1500, .inl g44_50)), (qf43, .inl (cf43, 1500, .inl f43))]) [0, 1, 2, 3, 4, 5, 6, 7, 8, 9, 10, 11, 12, 13, 14, 15, 16, 17, 18, 19, 20] rfl, hfh_50_2, hfh_50_5, hfh_50_6, hfh_50_9, hfh_50_10, hfh_50_24, hfh_50_25, hfh_50_26, hfh_50_27, hfh_50_28, hfh_50_29, hfh_50_30, hfh_50_31, hfh_50_32, hfh_50_33, hfh_50_34, hfh_50_35, hfh_50_36, hfh_50_37, hfh_50_40, hfh_50_41, hfh_50_42, hfh_50_43, hfh_50_44, hlh_50, hrh_50, hsp⟩
            · rw [if_pos c_4] at hsp
              refine lv_aload_n hx hb dX13_heads_71 rfl (lv_at hl 1 rfl) ?_
              refine lv_bipush (v := 11) hx hb dX13_heads_72 (by decide) ?_
              refine lv_aload_n hx hb dX13_heads_74 rfl (lv_at hl 1 rfl) ?_
              refine va_get (D := (dC, dI)) (ci := 13) (v := .ref qf25) (C := RX13) (T := TX13) (N := 155) hx hb hts uV_h9_X13 hown hK hP 0 rfl rfl 25 (by decide) (hts (.fieldLink RX13 62 "ClassMillModel" "className" "[I") mw_h9_94) (fun _ h9 => h9) hfh_50_25 dX13_heads_75 ?_
              refine lv_iload_n hx hb dX13_heads_78 rfl (lv_at hl 0 rfl) ?_
              obtain ⟨hi_5, hsp⟩ := ox_in hsp
              refine va_iald hx hb hK hP 1 0 rfl rfl (i := l1_50) hi_5 dX13_heads_79 ?_
              obtain ⟨⟨u1_0, u1_1⟩, hu_1, hsp⟩ := ox_bind hsp
              try dsimp only at hsp
              have hPc := hP.sub (ws' := [(h0, .inr (13, z50)), (qf5, .inl (cf5, 3002, .inl f5))]) [0, 2] rfl
              have hDc := hD.sub (ws' := [(h0, .inr (13, z50)), (qf5, .inl (cf5, 3002, .inl f5))]) [0, 2] (by decide) rfl
              have hKc := hK.sub (tys' := [(cf5, .int)]) [1] rfl
              have hFc := va_free (wc := [(h0, .inr (13, z50)), (qf5, .inl (cf5, 3002, .inl f5))]) hD hS hA [0, 2] rfl
              refine va_callv (va_runV (As := [.int 11, .int (f25 (l1_50 : Int32).toNatClampNeg)]) (rest := []) ⟨hx, hb, hml, hown, hts⟩ (tm_wrong l dC dI H.size h0 z50 11 ((f25 (l1_50 : Int32).toNatClampNeg)) qf5 x9_50 x10_50 cf5 f5 nf u1_0 u1_1 hlh_50 hfh_50_5 hfh_50_9 hfh_50_10 hu_1) (cwV 2 hts gv_h9_18 rfl rfl rfl (by decide +kernel) ⟨Nat.le_of_ble_eq_true rfl, Nat.le_of_ble_eq_true rfl⟩) ⟨fun a U g mk q => by obtain ⟨q0, q1, qP, qK, qD⟩ := q; exact ⟨q0, q1, qP, va_K.moved (u := U) (U := U.calling g mk a) (Vm.Alike.refl U.vm) qK, qD⟩, va_recv hKc hPc (ci := 13) (q0 := 0) rfl rfl, fun U hU hW => ⟨rfl, by rw [hU], by rw [hU]; exact hPc, va_K.moved hW.alike hKc, hDc.weaken (fun _ _ _ _ => trivial)⟩⟩ rfl rfl hl.1 rfl (lv_room (Nat.le_of_ble_eq_true rfl)) dX13_heads_80 ⟨Nat.le_of_ble_eq_true rfl, Nat.le_of_ble_eq_true rfl⟩) hS (fun q _ h => hFc q h) hFc ?_
              clear hS
              intro u t H1 locs ht hvm hw hB hz1 hk1 hS
              obtain ⟨z_1, rfl⟩ : ∃ z, z = u := ⟨_, rfl⟩
              obtain ⟨hP1, hK1, hD1⟩ := hB
              rw [ht] at hP1
              have hK1 := va_K.moved hvm.symm hK1
              try dsimp only at hw
              have hPD := va_join (wr := [(qf25, .inl (cf25, 400, .inl f25)), (qf6, .inl (cf6, 3002, .inl f6)), (qf2, .inl (cf2, 3000, .inl f2)), (qf27, .inl (cf27, 400, .inl g27_50)), (qf26, .inl (cf26, 400, .inl f26)), (qf31, .inl (cf31, 800, .inl f31)), (qf32, .inl (cf32, 800, .inl f32)), (qf33, .inl (cf33, 800, .inl f33)), (qf35, .inl (cf35, 800, .inl g35_50)), (qf34, .inl (cf34, 800, .inl f34)), (qf29, .inl (cf29, 800, .inl f29)), (qf30, .inl (cf30, 800, .inl f30)), (qf37, .inl (cf37, 800, .inl f37)), (qf36, .inl (cf36, 800, .inl f36)), (qf40, .inl (cf40, 1500, .inl f40)), (qf41, .inl (cf41, 1500, .inl f41)), (qf42, .inl (cf42, 1500, .inl f42)), (qf44, .inl (cf44, 1500, .inl g44_50)), (qf43, .inl (cf43, 1500, .inl f43))]) (w1 := [(h0, .inr (13, z_1)), (qf5, .inl (cf5, 3002, .inl f5))]) hP hD [0, 2] [1, 3, 4, 5, 6, 7, 8, 9, 10, 11, 12, 13, 14, 15, 16, 17, 18, 19, 20] rfl rfl (by decide) (by decide) hk1 hFc hP1 hD1
              clear hP hD
              obtain ⟨hP, hD⟩ := hPD
              replace hK := (hK.sub (tys' := [(cf25, .int), (cf6, .int), (cf2, .int), (cf27, .int), (cf26, .int), (cf31, .int), (cf32, .int), (cf33, .boolean), (cf35, .int), (cf34, .int), (cf29, .int), (cf30, .int), (cf37, .int), (cf36, .int), (cf40, .int), (cf41, .int), (cf42, .boolean), (cf44, .int), (cf43, .int)]) [0, 2, 3, 4, 5, 6, 7, 8, 9, 10, 11, 12, 13, 14, 15, 16, 17, 18, 19] rfl).app hK1
              clear hPc hDc hKc hFc hP1 hK1 hD1 hz1 hk1 ht hvm
              generalize H1 = H at hP hS ⊢
              replace hP : va_P (dC, dI) vwCl [(qf25, .inl (cf25, 400, .inl f25)), (qf6, .inl (cf6, 3002, .inl f6)), (qf2, .inl (cf2, 3000, .inl f2)), (qf27, .inl (cf27, 400, .inl g27_50)), (qf26, .inl (cf26, 400, .inl f26)), (qf31, .inl (cf31, 800, .inl f31)), (qf32, .inl (cf32, 800, .inl f32)), (qf33, .inl (cf33, 800, .inl f33)), (qf35, .inl (cf35, 800, .inl g35_50)), (qf34, .inl (cf34, 800, .inl f34)), (qf29, .inl (cf29, 800, .inl f29)), (qf30, .inl (cf30, 800, .inl f30)), (qf37, .inl (cf37, 800, .inl f37)), (qf36, .inl (cf36, 800, .inl f36)), (qf40, .inl (cf40, 1500, .inl f40)), (qf41, .inl (cf41, 1500, .inl f41)), (qf42, .inl (cf42, 1500, .inl f42)), (qf44, .inl (cf44, 1500, .inl g44_50)), (qf43, .inl (cf43, 1500, .inl f43)), (h0, .inr (13, z_1)), (qf5, .inl (cf5, 3002, .inl f5))] H := hP
              replace hD : va_D A [(qf25, .inl (cf25, 400, .inl f25)), (qf6, .inl (cf6, 3002, .inl f6)), (qf2, .inl (cf2, 3000, .inl f2)), (qf27, .inl (cf27, 400, .inl g27_50)), (qf26, .inl (cf26, 400, .inl f26)), (qf31, .inl (cf31, 800, .inl f31)), (qf32, .inl (cf32, 800, .inl f32)), (qf33, .inl (cf33, 800, .inl f33)), (qf35, .inl (cf35, 800, .inl g35_50)), (qf34, .inl (cf34, 800, .inl f34)), (qf29, .inl (cf29, 800, .inl f29)), (qf30, .inl (cf30, 800, .inl f30)), (qf37, .inl (cf37, 800, .inl f37)), (qf36, .inl (cf36, 800, .inl f36)), (qf40, .inl (cf40, 1500, .inl f40)), (qf41, .inl (cf41, 1500, .inl f41)), (qf42, .inl (cf42, 1500, .inl f42)), (qf44, .inl (cf44, 1500, .inl g44_50)), (qf43, .inl (cf43, 1500, .inl f43)), (h0, .inr (13, z_1)), (qf5, .inl (cf5, 3002, .inl f5))] := hD
              replace hK : va_K (dC, dI) vwCl [(cf25, .int), (cf6, .int), (cf2, .int), (cf27, .int), (cf26, .int), (cf31, .int), (cf32, .int), (cf33, .boolean), (cf35, .int), (cf34, .int), (cf29, .int), (cf30, .int), (cf37, .int), (cf36, .int), (cf40, .int), (cf41, .int), (cf42, .boolean), (cf44, .int), (cf43, .int), (cf5, .int)] s := hK
              obtain ⟨hwa_1, hln_1, hre_1, hch_1_10, hch_1_9⟩ := hw
              have hfk_1_2 : z_1[2]? = some (.ref qf2) := (hre_1 2 (by decide) (by decide)).trans (hfh_50_2)
              have hfk_1_5 : z_1[5]? = some (.ref qf5) := (hre_1 5 (by decide) (by decide)).trans (hfh_50_5)
              have hfk_1_6 : z_1[6]? = some (.ref qf6) := (hre_1 6 (by decide) (by decide)).trans (hfh_50_6)
              have hfk_1_24 : z_1[24]? = some (.int v24) := (hre_1 24 (by decide) (by decide)).trans (hfh_50_24)
              have hfk_1_25 : z_1[25]? = some (.ref qf25) := (hre_1 25 (by decide) (by decide)).trans (hfh_50_25)
              have hfk_1_26 : z_1[26]? = some (.ref qf26) := (hre_1 26 (by decide) (by decide)).trans (hfh_50_26)
              have hfk_1_27 : z_1[27]? = some (.ref qf27) := (hre_1 27 (by decide) (by decide)).trans (hfh_50_27)
              have hfk_1_28 : z_1[28]? = some (.int v28) := (hre_1 28 (by decide) (by decide)).trans (hfh_50_28)
              have hfk_1_29 : z_1[29]? = some (.ref qf29) := (hre_1 29 (by decide) (by decide)).trans (hfh_50_29)
              have hfk_1_30 : z_1[30]? = some (.ref qf30) := (hre_1 30 (by decide) (by decide)).trans (hfh_50_30)
              have hfk_1_31 : z_1[31]? = some (.ref qf31) := (hre_1 31 (by decide) (by decide)).trans (hfh_50_31)
              have hfk_1_32 : z_1[32]? = some (.ref qf32) := (hre_1 32 (by decide) (by decide)).trans (hfh_50_32)
              have hfk_1_33 : z_1[33]? = some (.ref qf33) := (hre_1 33 (by decide) (by decide)).trans (hfh_50_33)
              have hfk_1_34 : z_1[34]? = some (.ref qf34) := (hre_1 34 (by decide) (by decide)).trans (hfh_50_34)
              have hfk_1_35 : z_1[35]? = some (.ref qf35) := (hre_1 35 (by decide) (by decide)).trans (hfh_50_35)
              have hfk_1_36 : z_1[36]? = some (.ref qf36) := (hre_1 36 (by decide) (by decide)).trans (hfh_50_36)
              have hfk_1_37 : z_1[37]? = some (.ref qf37) := (hre_1 37 (by decide) (by decide)).trans (hfh_50_37)
              have hfk_1_40 : z_1[40]? = some (.ref qf40) := (hre_1 40 (by decide) (by decide)).trans (hfh_50_40)
              have hfk_1_41 : z_1[41]? = some (.ref qf41) := (hre_1 41 (by decide) (by decide)).trans (hfh_50_41)
              have hfk_1_42 : z_1[42]? = some (.ref qf42) := (hre_1 42 (by decide) (by decide)).trans (hfh_50_42)
              have hfk_1_43 : z_1[43]? = some (.ref qf43) := (hre_1 43 (by decide) (by decide)).trans (hfh_50_43)
              have hfk_1_44 : z_1[44]? = some (.ref qf44) := (hre_1 44 (by decide) (by decide)).trans (hfh_50_44)
              have hrq_1 : ∀ j : Nat, j ≠ 10 → j ≠ 9 → z_1[j]? = zs[j]? := fun j g10 g9 => (hre_1 j g10 g9).trans (hrh_50 j g10 g9)
              exact hj_83 (H, locs, ls, z_1, l1_50, g27_50, g35_50, g44_50, u1_0, u1_1) ⟨lv_sub hl [1, 0] rfl, hS, hD.sub (ws' := [(h0, .inr (13, z_1)), (qf25, .inl (cf25, 400, .inl f25)), (qf5, .inl (cf5, 3002, .inl f5)), (qf6, .inl (cf6, 3002, .inl f6)), (qf2, .inl (cf2, 3000, .inl f2)), (qf27, .inl (cf27, 400, .inl g27_50)), (qf26, .inl (cf26, 400, .inl f26)), (qf31, .inl (cf31, 800, .inl f31)), (qf32, .inl (cf32, 800, .inl f32)), (qf33, .inl (cf33, 800, .inl f33)), (qf35, .inl (cf35, 800, .inl g35_50)), (qf34, .inl (cf34, 800, .inl f34)), (qf29, .inl (cf29, 800, .inl f29)), (qf30, .inl (cf30, 800, .inl f30)), (qf37, .inl (cf37, 800, .inl f37)), (qf36, .inl (cf36, 800, .inl f36)), (qf40, .inl (cf40, 1500, .inl f40)), (qf41, .inl (cf41, 1500, .inl f41)), (qf42, .inl (cf42, 1500, .inl f42)), (qf44, .inl (cf44, 1500, .inl g44_50)), (qf43, .inl (cf43, 1500, .inl f43))]) [19, 0, 20, 1, 2, 3, 4, 5, 6, 7, 8, 9, 10, 11, 12, 13, 14, 15, 16, 17, 18] (by decide) rfl, hP.sub (ws' := [(h0, .inr (13, z_1)), (qf25, .inl (cf25, 400, .inl f25)), (qf5, .inl (cf5, 3002, .inl f5)), (qf6, .inl (cf6, 3002, .inl f6)), (qf2, .inl (cf2, 3000, .inl f2)), (qf27, .inl (cf27, 400, .inl g27_50)), (qf26, .inl (cf26, 400, .inl f26)), (qf31, .inl (cf31, 800, .inl f31)), (qf32, .inl (cf32, 800, .inl f32)), (qf33, .inl (cf33, 800, .inl f33)), (qf35, .inl (cf35, 800, .inl g35_50)), (qf34, .inl (cf34, 800, .inl f34)), (qf29, .inl (cf29, 800, .inl f29)), (qf30, .inl (cf30, 800, .inl f30)), (qf37, .inl (cf37, 800, .inl f37)), (qf36, .inl (cf36, 800, .inl f36)), (qf40, .inl (cf40, 1500, .inl f40)), (qf41, .inl (cf41, 1500, .inl f41)), (qf42, .inl (cf42, 1500, .inl f42)), (qf44, .inl (cf44, 1500, .inl g44_50)), (qf43, .inl (cf43, 1500, .inl f43))]) [19, 0, 20, 1, 2, 3, 4, 5, 6, 7, 8, 9, 10, 11, 12, 13, 14, 15, 16, 17, 18] rfl, hfk_1_2, hfk_1_5, hfk_1_6, hch_1_9, hch_1_10, hfk_1_24, hfk_1_25, hfk_1_26, hfk_1_27, hfk_1_28, hfk_1_29, hfk_1_30, hfk_1_31, hfk_1_32, hfk_1_33, hfk_1_34, hfk_1_35, hfk_1_36, hfk_1_37, hfk_1_40, hfk_1_41, hfk_1_42, hfk_1_43, hfk_1_44, hln_1, hrq_1, hsp⟩
    · rw [if_neg c_1] at hsp
      refine lv_aload_n hx hb dX13_heads_10 rfl (lv_at hl 1 rfl) ?_
      refine va_get (D := (dC, dI)) (ci := 13) (v := .ref qf26) (C := RX13) (T := TX13) (N := 155) hx hb hts uV_h9_X13 hown hK hP 0 rfl rfl 26 (by decide) (hts (.fieldLink RX13 65 "ClassMillModel" "classExtends" "[I") mw_h9_401) (fun _ h9 => h9) hfh_2_26 dX13_heads_11 ?_
      refine lv_iload_n hx hb dX13_heads_14 rfl (lv_at hl 0 rfl) ?_
      obtain ⟨hi_18, hsp⟩ := ox_in hsp
      refine va_iald hx hb hK hP 6 5 rfl rfl (i := l1_2) hi_18 dX13_heads_15 ?_
      refine lv_iconst (v := (-1)) hx hb dX13_heads_16 (by decide) ?_
      refine lv_icmp_ne (tgt := 24) hx hb dX13_heads_17 (by decide) (fun c_19 => ?_) (fun c_19 => ?_)
      · rw [if_neg c_19] at hsp
        refine lv_aload_n hx hb dX13_heads_24 rfl (lv_at hl 1 rfl) ?_
        refine lv_aload_n hx hb dX13_heads_25 rfl (lv_at hl 1 rfl) ?_
        refine va_get (D := (dC, dI)) (ci := 13) (v := .ref qf26) (C := RX13) (T := TX13) (N := 155) hx hb hts uV_h9_X13 hown hK hP 0 rfl rfl 26 (by decide) (hts (.fieldLink RX13 65 "ClassMillModel" "classExtends" "[I") mw_h9_401) (fun _ h9 => h9) hfh_2_26 dX13_heads_26 ?_
        refine lv_iload_n hx hb dX13_heads_29 rfl (lv_at hl 0 rfl) ?_
        obtain ⟨hi_20, hsp⟩ := ox_in hsp
        refine va_iald hx hb hK hP 6 5 rfl rfl (i := l1_2) hi_20 dX13_heads_30 ?_
        obtain ⟨u7_0, hu_7, hsp⟩ := ox_bind hsp
        try dsimp only at hsp
        have hPc := hP.sub (ws' := [(h0, .inr (13, z2)), (qf5, .inl (cf5, 3002, .inl f5)), (qf6, .inl (cf6, 3002, .inl f6)), (qf2, .inl (cf2, 3000, .inl f2)), (qf25, .inl (cf25, 400, .inl f25))]) [0, 2, 3, 4, 1] rfl
        have hDc := hD.sub (ws' := [(h0, .inr (13, z2)), (qf5, .inl (cf5, 3002, .inl f5)), (qf6, .inl (cf6, 3002, .inl f6)), (qf2, .inl (cf2, 3000, .inl f2)), (qf25, .inl (cf25, 400, .inl f25))]) [0, 2, 3, 4, 1] (by decide) rfl
        have hKc := hK.sub (tys' := [(cf5, .int), (cf6, .int), (cf2, .int), (cf25, .int)]) [1, 2, 3, 0] rfl
        have hFc := va_free (wc := [(h0, .inr (13, z2)), (qf5, .inl (cf5, 3002, .inl f5)), (qf6, .inl (cf6, 3002, .inl f6)), (qf2, .inl (cf2, 3000, .inl f2)), (qf25, .inl (cf25, 400, .inl f25))]) hD hS hA [0, 2, 3, 4, 1] rfl
        refine va_calli (va_runV (As := [.int (f26 (l1_2 : Int32).toNatClampNeg)]) (rest := []) ⟨hx, hb, hml, hown, hts⟩ (vm_classOf l dC dI H.size h0 z2 ((f26 (l1_2 : Int32).toNatClampNeg)) qf2 qf5 qf6 v24 qf25 cf5 f5 cf6 f6 cf2 f2 cf25 f25 nS477 fS477 hS477 qS477 tS477 nf u7_0 hlh_2 hfh_2_2 hfh_2_5 hfh_2_6 hfh_2_24 hfh_2_25 hu_7) (cwV 1 hts gv_h9_17 rfl rfl rfl (by decide +kernel) ⟨Nat.le_of_ble_eq_true rfl, Nat.le_of_ble_eq_true rfl⟩) ⟨fun a U g mk q => by obtain ⟨q0, q1, qP, qK, qD, qhZWS477, qhZRS477⟩ := q; exact ⟨q0, q1, qP, va_K.moved (u := U) (U := U.calling g mk a) (Vm.Alike.refl U.vm) qK, qD, pz_W.moved (u := U) (U := U.calling g mk a) (Vm.Alike.refl U.vm) qhZWS477, vk_R.same rfl qhZRS477⟩, va_recv hKc hPc (ci := 13) (q0 := 0) rfl rfl, fun U hU hW => ⟨rfl, by rw [hU], by rw [hU]; exact hPc, va_K.moved hW.alike hKc, hDc.weaken (fun _ _ _ _ => trivial), by rw [hU]; exact ((pz_W.moved hW.alike hZWS477).kept hS.2.1).narrow hFc, vk_R.warm hW hZRS477⟩⟩ rfl rfl hl.1 rfl (lv_room (Nat.le_of_ble_eq_true rfl)) dX13_heads_31 ⟨Nat.le_of_ble_eq_true rfl, Nat.le_of_ble_eq_true rfl⟩) hS (fun q _ h => hFc q h) hFc ?_
        clear hS
        intro r_21 u t H1 locs ht hvm hw hB hz1 hk1 hS
        obtain ⟨z_7, rfl⟩ : ∃ z, z = u := ⟨_, rfl⟩
        obtain ⟨hP1, hK1, hD1⟩ := hB
        rw [ht] at hP1
        have hK1 := va_K.moved hvm.symm hK1
        try dsimp only at hw
        have hPD := va_join (wr := [(qf27, .inl (cf27, 400, .inl g27_2)), (qf26, .inl (cf26, 400, .inl f26)), (qf31, .inl (cf31, 800, .inl f31)), (qf32, .inl (cf32, 800, .inl f32)), (qf33, .inl (cf33, 800, .inl f33)), (qf35, .inl (cf35, 800, .inl g35_2)), (qf34, .inl (cf34, 800, .inl f34)), (qf29, .inl (cf29, 800, .inl f29)), (qf30, .inl (cf30, 800, .inl f30)), (qf37, .inl (cf37, 800, .inl f37)), (qf36, .inl (cf36, 800, .inl f36)), (qf40, .inl (cf40, 1500, .inl f40)), (qf41, .inl (cf41, 1500, .inl f41)), (qf42, .inl (cf42, 1500, .inl f42)), (qf44, .inl (cf44, 1500, .inl g44_2)), (qf43, .inl (cf43, 1500, .inl f43))]) (w1 := [(h0, .inr (13, z_7)), (qf5, .inl (cf5, 3002, .inl f5)), (qf6, .inl (cf6, 3002, .inl f6)), (qf2, .inl (cf2, 3000, .inl f2)), (qf25, .inl (cf25, 400, .inl f25))]) hP hD [0, 2, 3, 4, 1] [5, 6, 7, 8, 9, 10, 11, 12, 13, 14, 15, 16, 17, 18, 19, 20] rfl rfl (by decide) (by decide) hk1 hFc hP1 hD1
        clear hP hD
        obtain ⟨hP, hD⟩ := hPD
        replace hK := (hK.sub (tys' := [(cf27, .int), (cf26, .int), (cf31, .int), (cf32, .int), (cf33, .boolean), (cf35, .int), (cf34, .int), (cf29, .int), (cf30, .int), (cf37, .int), (cf36, .int), (cf40, .int), (cf41, .int), (cf42, .boolean), (cf44, .int), (cf43, .int)]) [4, 5, 6, 7, 8, 9, 10, 11, 12, 13, 14, 15, 16, 17, 18, 19] rfl).app hK1
        clear hPc hDc hKc hFc hP1 hK1 hD1 hz1 hk1 ht hvm
        generalize H1 = H at hP hS ⊢
        replace hP : va_P (dC, dI) vwCl [(qf27, .inl (cf27, 400, .inl g27_2)), (qf26, .inl (cf26, 400, .inl f26)), (qf31, .inl (cf31, 800, .inl f31)), (qf32, .inl (cf32, 800, .inl f32)), (qf33, .inl (cf33, 800, .inl f33)), (qf35, .inl (cf35, 800, .inl g35_2)), (qf34, .inl (cf34, 800, .inl f34)), (qf29, .inl (cf29, 800, .inl f29)), (qf30, .inl (cf30, 800, .inl f30)), (qf37, .inl (cf37, 800, .inl f37)), (qf36, .inl (cf36, 800, .inl f36)), (qf40, .inl (cf40, 1500, .inl f40)), (qf41, .inl (cf41, 1500, .inl f41)), (qf42, .inl (cf42, 1500, .inl f42)), (qf44, .inl (cf44, 1500, .inl g44_2)), (qf43, .inl (cf43, 1500, .inl f43)), (h0, .inr (13, z_7)), (qf5, .inl (cf5, 3002, .inl f5)), (qf6, .inl (cf6, 3002, .inl f6)), (qf2, .inl (cf2, 3000, .inl f2)), (qf25, .inl (cf25, 400, .inl f25))] H := hP
        replace hD : va_D A [(qf27, .inl (cf27, 400, .inl g27_2)), (qf26, .inl (cf26, 400, .inl f26)), (qf31, .inl (cf31, 800, .inl f31)), (qf32, .inl (cf32, 800, .inl f32)), (qf33, .inl (cf33, 800, .inl f33)), (qf35, .inl (cf35, 800, .inl g35_2)), (qf34, .inl (cf34, 800, .inl f34)), (qf29, .inl (cf29, 800, .inl f29)), (qf30, .inl (cf30, 800, .inl f30)), (qf37, .inl (cf37, 800, .inl f37)), (qf36, .inl (cf36, 800, .inl f36)), (qf40, .inl (cf40, 1500, .inl f40)), (qf41, .inl (cf41, 1500, .inl f41)), (qf42, .inl (cf42, 1500, .inl f42)), (qf44, .inl (cf44, 1500, .inl g44_2)), (qf43, .inl (cf43, 1500, .inl f43)), (h0, .inr (13, z_7)), (qf5, .inl (cf5, 3002, .inl f5)), (qf6, .inl (cf6, 3002, .inl f6)), (qf2, .inl (cf2, 3000, .inl f2)), (qf25, .inl (cf25, 400, .inl f25))] := hD
        replace hK : va_K (dC, dI) vwCl [(cf27, .int), (cf26, .int), (cf31, .int), (cf32, .int), (cf33, .boolean), (cf35, .int), (cf34, .int), (cf29, .int), (cf30, .int), (cf37, .int), (cf36, .int), (cf40, .int), (cf41, .int), (cf42, .boolean), (cf44, .int), (cf43, .int), (cf5, .int), (cf6, .int), (cf2, .int), (cf25, .int)] s := hK
        obtain ⟨hwa_7, hln_7, hre_7⟩ := hw
        have hfk_7_2 : z_7[2]? = some (.ref qf2) := (hre_7 2 ).trans (hfh_2_2)
        have hfk_7_5 : z_7[5]? = some (.ref qf5) := (hre_7 5 ).trans (hfh_2_5)
        have hfk_7_6 : z_7[6]? = some (.ref qf6) := (hre_7 6 ).trans (hfh_2_6)
        have hfk_7_9 : z_7[9]? = some (.int x9_2) := (hre_7 9 ).trans (hfh_2_9)
        have hfk_7_10 : z_7[10]? = some (.int x10_2) := (hre_7 10 ).trans (hfh_2_10)
        have hfk_7_24 : z_7[24]? = some (.int v24) := (hre_7 24 ).trans (hfh_2_24)
        have hfk_7_25 : z_7[25]? = some (.ref qf25) := (hre_7 25 ).trans (hfh_2_25)
        have hfk_7_26 : z_7[26]? = some (.ref qf26) := (hre_7 26 ).trans (hfh_2_26)
        have hfk_7_27 : z_7[27]? = some (.ref qf27) := (hre_7 27 ).trans (hfh_2_27)
        have hfk_7_28 : z_7[28]? = some (.int v28) := (hre_7 28 ).trans (hfh_2_28)
        have hfk_7_29 : z_7[29]? = some (.ref qf29) := (hre_7 29 ).trans (hfh_2_29)
        have hfk_7_30 : z_7[30]? = some (.ref qf30) := (hre_7 30 ).trans (hfh_2_30)
        have hfk_7_31 : z_7[31]? = some (.ref qf31) := (hre_7 31 ).trans (hfh_2_31)
        have hfk_7_32 : z_7[32]? = some (.ref qf32) := (hre_7 32 ).trans (hfh_2_32)
        have hfk_7_33 : z_7[33]? = some (.ref qf33) := (hre_7 33 ).trans (hfh_2_33)
        have hfk_7_34 : z_7[34]? = some (.ref qf34) := (hre_7 34 ).trans (hfh_2_34)
        have hfk_7_35 : z_7[35]? = some (.ref qf35) := (hre_7 35 ).trans (hfh_2_35)
        have hfk_7_36 : z_7[36]? = some (.ref qf36) := (hre_7 36 ).trans (hfh_2_36)
        have hfk_7_37 : z_7[37]? = some (.ref qf37) := (hre_7 37 ).trans (hfh_2_37)
        have hfk_7_40 : z_7[40]? = some (.ref qf40) := (hre_7 40 ).trans (hfh_2_40)
        have hfk_7_41 : z_7[41]? = some (.ref qf41) := (hre_7 41 ).trans (hfh_2_41)
        have hfk_7_42 : z_7[42]? = some (.ref qf42) := (hre_7 42 ).trans (hfh_2_42)
        have hfk_7_43 : z_7[43]? = some (.ref qf43) := (hre_7 43 ).trans (hfh_2_43)
        have hfk_7_44 : z_7[44]? = some (.ref qf44) := (hre_7 44 ).trans (hfh_2_44)
        have hrq_7 : ∀ j : Nat, j ≠ 10 → j ≠ 9 → z_7[j]? = zs[j]? := fun j g10 g9 => (hre_7 j ).trans (hrh_2 j g10 g9)
        obtain rfl := hwa_7
        refine lv_istore_n (lv' := [(2, .int u7_0), (1, .int l1_2), (0, .ref h0)]) hx hb dX13_heads_34 rfl hl (by decide) rfl (fun ls hl => ?_)
        refine lv_aload_n hx hb dX13_heads_35 rfl (lv_at hl 2 rfl) ?_
        refine va_get (D := (dC, dI)) (ci := 13) (v := .ref qf27) (C := RX13) (T := TX13) (N := 155) hx hb hts uV_h9_X13 hown hK hP 16 rfl rfl 27 (by decide) (hts (.fieldLink RX13 68 "ClassMillModel" "classUpper" "[I") mw_h9_402) (fun _ h9 => h9) hfk_7_27 dX13_heads_36 ?_
        refine lv_iload_n hx hb dX13_heads_39 rfl (lv_at hl 1 rfl) ?_
        refine lv_iload_n hx hb dX13_heads_40 rfl (lv_at hl 0 rfl) ?_
        obtain ⟨hi_22, hsp⟩ := ox_in hsp
        refine va_iast hx hb hK hP hD hS 0 0 rfl rfl (i := l1_2) (x := u7_0) hi_22 dX13_heads_41 ?_
        clear hP hD hS
        intro H locs hP hD hS
        replace hP : va_P (dC, dI) vwCl [(qf27, .inl (cf27, 400, .inl (upd g27_2 (l1_2 : Int32).toNatClampNeg u7_0))), (qf26, .inl (cf26, 400, .inl f26)), (qf31, .inl (cf31, 800, .inl f31)), (qf32, .inl (cf32, 800, .inl f32)), (qf33, .inl (cf33, 800, .inl f33)), (qf35, .inl (cf35, 800, .inl g35_2)), (qf34, .inl (cf34, 800, .inl f34)), (qf29, .inl (cf29, 800, .inl f29)), (qf30, .inl (cf30, 800, .inl f30)), (qf37, .inl (cf37, 800, .inl f37)), (qf36, .inl (cf36, 800, .inl f36)), (qf40, .inl (cf40, 1500, .inl f40)), (qf41, .inl (cf41, 1500, .inl f41)), (qf42, .inl (cf42, 1500, .inl f42)), (qf44, .inl (cf44, 1500, .inl g44_2)), (qf43, .inl (cf43, 1500, .inl f43)), (h0, .inr (13, z_7)), (qf5, .inl (cf5, 3002, .inl f5)), (qf6, .inl (cf6, 3002, .inl f6)), (qf2, .inl (cf2, 3000, .inl f2)), (qf25, .inl (cf25, 400, .inl f25))] H := hP
        replace hD : va_D A [(qf27, .inl (cf27, 400, .inl (upd g27_2 (l1_2 : Int32).toNatClampNeg u7_0))), (qf26, .inl (cf26, 400, .inl f26)), (qf31, .inl (cf31, 800, .inl f31)), (qf32, .inl (cf32, 800, .inl f32)), (qf33, .inl (cf33, 800, .inl f33)), (qf35, .inl (cf35, 800, .inl g35_2)), (qf34, .inl (cf34, 800, .inl f34)), (qf29, .inl (cf29, 800, .inl f29)), (qf30, .inl (cf30, 800, .inl f30)), (qf37, .inl (cf37, 800, .inl f37)), (qf36, .inl (cf36, 800, .inl f36)), (qf40, .inl (cf40, 1500, .inl f40)), (qf41, .inl (cf41, 1500, .inl f41)), (qf42, .inl (cf42, 1500, .inl f42)), (qf44, .inl (cf44, 1500, .inl g44_2)), (qf43, .inl (cf43, 1500, .inl f43)), (h0, .inr (13, z_7)), (qf5, .inl (cf5, 3002, .inl f5)), (qf6, .inl (cf6, 3002, .inl f6)), (qf2, .inl (cf2, 3000, .inl f2)), (qf25, .inl (cf25, 400, .inl f25))] := hD
        refine lv_iinc (v := (l1_2 + 1)) (lv' := [(1, .int (l1_2 + 1)), (2, .int u7_0), (0, .ref h0)]) hx hb dX13_heads_42 hl (k := 1) rfl rfl (by decide) rfl (fun ls hl => ?_)
        refine lv_goto (tgt := 2) hx hb dX13_heads_45 (by decide) ?_
        exact ih_2 H locs ls z_7 (l1_2 + 1) (upd g27_2 (l1_2 : Int32).toNatClampNeg u7_0) g35_2 g44_2 x10_2 x9_2 (hfk_7_2) (hfk_7_5) (hfk_7_6) (hfk_7_9) (hfk_7_10) (hfk_7_24) (hfk_7_25) (hfk_7_26) (hfk_7_27) (hfk_7_28) (hfk_7_29) (hfk_7_30) (hfk_7_31) (hfk_7_32) (hfk_7_33) (hfk_7_34) (hfk_7_35) (hfk_7_36) (hfk_7_37) (hfk_7_40) (hfk_7_41) (hfk_7_42) (hfk_7_43) (hfk_7_44) hln_7 hrq_7 (lv_sub hl [0, 2] rfl) hS (hD.sub (ws' := [(h0, .inr (13, z_7)), (qf25, .inl (cf25, 400, .inl f25)), (qf5, .inl (cf5, 3002, .inl f5)), (qf6, .inl (cf6, 3002, .inl f6)), (qf2, .inl (cf2, 3000, .inl f2)), (qf27, .inl (cf27, 400, .inl (upd g27_2 (l1_2 : Int32).toNatClampNeg u7_0))), (qf26, .inl (cf26, 400, .inl f26)), (qf31, .inl (cf31, 800, .inl f31)), (qf32, .inl (cf32, 800, .inl f32)), (qf33, .inl (cf33, 800, .inl f33)), (qf35, .inl (cf35, 800, .inl g35_2)), (qf34, .inl (cf34, 800, .inl f34)), (qf29, .inl (cf29, 800, .inl f29)), (qf30, .inl (cf30, 800, .inl f30)), (qf37, .inl (cf37, 800, .inl f37)), (qf36, .inl (cf36, 800, .inl f36)), (qf40, .inl (cf40, 1500, .inl f40)), (qf41, .inl (cf41, 1500, .inl f41)), (qf42, .inl (cf42, 1500, .inl f42)), (qf44, .inl (cf44, 1500, .inl g44_2)), (qf43, .inl (cf43, 1500, .inl f43))]) [16, 20, 17, 18, 19, 0, 1, 2, 3, 4, 5, 6, 7, 8, 9, 10, 11, 12, 13, 14, 15] (by decide) rfl) (hP.sub (ws' := [(h0, .inr (13, z_7)), (qf25, .inl (cf25, 400, .inl f25)), (qf5, .inl (cf5, 3002, .inl f5)), (qf6, .inl (cf6, 3002, .inl f6)), (qf2, .inl (cf2, 3000, .inl f2)), (qf27, .inl (cf27, 400, .inl (upd g27_2 (l1_2 : Int32).toNatClampNeg u7_0))), (qf26, .inl (cf26, 400, .inl f26)), (qf31, .inl (cf31, 800, .inl f31)), (qf32, .inl (cf32, 800, .inl f32)), (qf33, .inl (cf33, 800, .inl f33)), (qf35, .inl (cf35, 800, .inl g35_2)), (qf34, .inl (cf34, 800, .inl f34)), (qf29, .inl (cf29, 800, .inl f29)), (qf30, .inl (cf30, 800, .inl f30)), (qf37, .inl (cf37, 800, .inl f37)), (qf36, .inl (cf36, 800, .inl f36)), (qf40, .inl (cf40, 1500, .inl f40)), (qf41, .inl (cf41, 1500, .inl f41)), (qf42, .inl (cf42, 1500, .inl f42)), (qf44, .inl (cf44, 1500, .inl g44_2)), (qf43, .inl (cf43, 1500, .inl f43))]) [16, 20, 17, 18, 19, 0, 1, 2, 3, 4, 5, 6, 7, 8, 9, 10, 11, 12, 13, 14, 15] rfl) hsp
      · rw [if_pos c_19] at hsp
        refine lv_iconst (v := 0) hx hb dX13_heads_20 (by decide) ?_
        refine lv_goto (tgt := 34) hx hb dX13_heads_21 (by decide) ?_
        refine lv_istore_n (lv' := [(2, .int 0), (1, .int l1_2), (0, .ref h0)]) hx hb dX13_heads_34 rfl hl (by decide) rfl (fun ls hl => ?_)
        refine lv_aload_n hx hb dX13_heads_35 rfl (lv_at hl 2 rfl) ?_
        refine va_get (D := (dC, dI)) (ci := 13) (v := .ref qf27) (C := RX13) (T := TX13) (N := 155) hx hb hts uV_h9_X13 hown hK hP 0 rfl rfl 27 (by decide) (hts (.fieldLink RX13 68 "ClassMillModel" "classUpper" "[I") mw_h9_402) (fun _ h9 => h9) hfh_2_27 dX13_heads_36 ?_
        refine lv_iload_n hx hb dX13_heads_39 rfl (lv_at hl 1 rfl) ?_
        refine lv_iload_n hx hb dX13_heads_40 rfl (lv_at hl 0 rfl) ?_
        obtain ⟨hi_23, hsp⟩ := ox_in hsp
        refine va_iast hx hb hK hP hD hS 5 4 rfl rfl (i := l1_2) (x := 0) hi_23 dX13_heads_41 ?_
        clear hP hD hS
        intro H locs hP hD hS
        replace hP : va_P (dC, dI) vwCl [(h0, .inr (13, z2)), (qf25, .inl (cf25, 400, .inl f25)), (qf5, .inl (cf5, 3002, .inl f5)), (qf6, .inl (cf6, 3002, .inl f6)), (qf2, .inl (cf2, 3000, .inl f2)), (qf27, .inl (cf27, 400, .inl (upd g27_2 (l1_2 : Int32).toNatClampNeg 0))), (qf26, .inl (cf26, 400, .inl f26)), (qf31, .inl (cf31, 800, .inl f31)), (qf32, .inl (cf32, 800, .inl f32)), (qf33, .inl (cf33, 800, .inl f33)), (qf35, .inl (cf35, 800, .inl g35_2)), (qf34, .inl (cf34, 800, .inl f34)), (qf29, .inl (cf29, 800, .inl f29)), (qf30, .inl (cf30, 800, .inl f30)), (qf37, .inl (cf37, 800, .inl f37)), (qf36, .inl (cf36, 800, .inl f36)), (qf40, .inl (cf40, 1500, .inl f40)), (qf41, .inl (cf41, 1500, .inl f41)), (qf42, .inl (cf42, 1500, .inl f42)), (qf44, .inl (cf44, 1500, .inl g44_2)), (qf43, .inl (cf43, 1500, .inl f43))] H := hP
        replace hD : va_D A [(h0, .inr (13, z2)), (qf25, .inl (cf25, 400, .inl f25)), (qf5, .inl (cf5, 3002, .inl f5)), (qf6, .inl (cf6, 3002, .inl f6)), (qf2, .inl (cf2, 3000, .inl f2)), (qf27, .inl (cf27, 400, .inl (upd g27_2 (l1_2 : Int32).toNatClampNeg 0))), (qf26, .inl (cf26, 400, .inl f26)), (qf31, .inl (cf31, 800, .inl f31)), (qf32, .inl (cf32, 800, .inl f32)), (qf33, .inl (cf33, 800, .inl f33)), (qf35, .inl (cf35, 800, .inl g35_2)), (qf34, .inl (cf34, 800, .inl f34)), (qf29, .inl (cf29, 800, .inl f29)), (qf30, .inl (cf30, 800, .inl f30)), (qf37, .inl (cf37, 800, .inl f37)), (qf36, .inl (cf36, 800, .inl f36)), (qf40, .inl (cf40, 1500, .inl f40)), (qf41, .inl (cf41, 1500, .inl f41)), (qf42, .inl (cf42, 1500, .inl f42)), (qf44, .inl (cf44, 1500, .inl g44_2)), (qf43, .inl (cf43, 1500, .inl f43))] := hD
        refine lv_iinc (v := (l1_2 + 1)) (lv' := [(1, .int (l1_2 + 1)), (2, .int 0), (0, .ref h0)]) hx hb dX13_heads_42 hl (k := 1) rfl rfl (by decide) rfl (fun ls hl => ?_)
        refine lv_goto (tgt := 2) hx hb dX13_heads_45 (by decide) ?_
        exact ih_2 H locs ls z2 (l1_2 + 1) (upd g27_2 (l1_2 : Int32).toNatClampNeg 0) g35_2 g44_2 x10_2 x9_2 (hfh_2_2) (hfh_2_5) (hfh_2_6) (hfh_2_9) (hfh_2_10) (hfh_2_24) (hfh_2_25) (hfh_2_26) (hfh_2_27) (hfh_2_28) (hfh_2_29) (hfh_2_30) (hfh_2_31) (hfh_2_32) (hfh_2_33) (hfh_2_34) (hfh_2_35) (hfh_2_36) (hfh_2_37) (hfh_2_40) (hfh_2_41) (hfh_2_42) (hfh_2_43) (hfh_2_44) hlh_2 hrh_2 (lv_sub hl [0, 2] rfl) hS (hD.sub (ws' := [(h0, .inr (13, z2)), (qf25, .inl (cf25, 400, .inl f25)), (qf5, .inl (cf5, 3002, .inl f5)), (qf6, .inl (cf6, 3002, .inl f6)), (qf2, .inl (cf2, 3000, .inl f2)), (qf27, .inl (cf27, 400, .inl (upd g27_2 (l1_2 : Int32).toNatClampNeg 0))), (qf26, .inl (cf26, 400, .inl f26)), (qf31, .inl (cf31, 800, .inl f31)), (qf32, .inl (cf32, 800, .inl f32)), (qf33, .inl (cf33, 800, .inl f33)), (qf35, .inl (cf35, 800, .inl g35_2)), (qf34, .inl (cf34, 800, .inl f34)), (qf29, .inl (cf29, 800, .inl f29)), (qf30, .inl (cf30, 800, .inl f30)), (qf37, .inl (cf37, 800, .inl f37)), (qf36, .inl (cf36, 800, .inl f36)), (qf40, .inl (cf40, 1500, .inl f40)), (qf41, .inl (cf41, 1500, .inl f41)), (qf42, .inl (cf42, 1500, .inl f42)), (qf44, .inl (cf44, 1500, .inl g44_2)), (qf43, .inl (cf43, 1500, .inl f43))]) [0, 1, 2, 3, 4, 5, 6, 7, 8, 9, 10, 11, 12, 13, 14, 15, 16, 17, 18, 19, 20] (by decide) rfl) (hP.sub (ws' := [(h0, .inr (13, z2)), (qf25, .inl (cf25, 400, .inl f25)), (qf5, .inl (cf5, 3002, .inl f5)), (qf6, .inl (cf6, 3002, .inl f6)), (qf2, .inl (cf2, 3000, .inl f2)), (qf27, .inl (cf27, 400, .inl (upd g27_2 (l1_2 : Int32).toNatClampNeg 0))), (qf26, .inl (cf26, 400, .inl f26)), (qf31, .inl (cf31, 800, .inl f31)), (qf32, .inl (cf32, 800, .inl f32)), (qf33, .inl (cf33, 800, .inl f33)), (qf35, .inl (cf35, 800, .inl g35_2)), (qf34, .inl (cf34, 800, .inl f34)), (qf29, .inl (cf29, 800, .inl f29)), (qf30, .inl (cf30, 800, .inl f30)), (qf37, .inl (cf37, 800, .inl f37)), (qf36, .inl (cf36, 800, .inl f36)), (qf40, .inl (cf40, 1500, .inl f40)), (qf41, .inl (cf41, 1500, .inl f41)), (qf42, .inl (cf42, 1500, .inl f42)), (qf44, .inl (cf44, 1500, .inl g44_2)), (qf43, .inl (cf43, 1500, .inl f43))]) [0, 1, 2, 3, 4, 5, 6, 7, 8, 9, 10, 11, 12, 13, 14, 15, 16, 17, 18, 19, 20] rfl) hsp
def lp_vm_spelling_109 (nf n : Nat) (v62 : Int32) (v64 : Int32) (v66 : Int32) (f58 : Nat → Int32) (f59 : Nat → Int32) (f60 : Nat → Int32) (f61 : Nat → Int32) (f65 : Nat → Int32) (f63 : Nat → Int32)  (l1_109 : Int32) (l2_109 : Int32) (g58_109 : Nat → Int32) (g59_109 : Nat → Int32) (g60_109 : Nat → Int32) (g61_109 : Nat → Int32) (g63_109 : Nat → Int32) (x62_109 : Int32) (x64_109 : Int32) (x66_109 : Int32) : Option (Int32 × (Nat → Int32) × (Nat → Int32) × (Nat → Int32) × (Nat → Int32) × (Nat → Int32) × Int32 × Int32 × Int32) := match n with
  | 0 => none
  | n + 1 => (if l1_109 ≤ l2_109 then ((sp_vm_constant nf 1 x64_109 l1_109 0 x62_109 g58_109 g59_109 g60_109 g61_109).bind (fun p1 => (some (p1.1, p1.2.1, p1.2.2.1, p1.2.2.2.1, p1.2.2.2.2.1, g63_109, p1.2.2.2.2.2, (x64_109 + l1_109), x66_109)))) else (if l2_109 < 0 then none else if 200 ≤ (l2_109 : Int32).toNatClampNeg then none else (if (x64_109 + l2_109) < 0 then none else if 40000 ≤ ((x64_109 + l2_109) : Int32).toNatClampNeg then none else (lp_vm_spelling_109 nf n v62 v64 v66 f58 f59 f60 f61 f65 f63 l1_109 (l2_109 + 1) g58_109 g59_109 g60_109 g61_109 (upd g63_109 ((x64_109 + l2_109) : Int32).toNatClampNeg (f65 (l2_109 : Int32).toNatClampNeg)) x62_109 x64_109 x66_109))))
def lp_vm_spelling_49 (nf n : Nat) (v62 : Int32) (v64 : Int32) (v66 : Int32) (f58 : Nat → Int32) (f59 : Nat → Int32) (f60 : Nat → Int32) (f61 : Nat → Int32) (f65 : Nat → Int32) (f63 : Nat → Int32) (kk_12 : Int32 → Int32 → (Nat → Int32) → (Nat → Int32) → (Nat → Int32) → (Nat → Int32) → (Nat → Int32) → Int32 → Int32 → Int32 → Option (Int32 × (Nat → Int32) × (Nat → Int32) × (Nat → Int32) × (Nat → Int32) × (Nat → Int32) × Int32 × Int32 × Int32)) (l1_49 : Int32) (l2_49 : Int32) (l3_49 : Int32) (l4_49 : Int32) (g58_49 : Nat → Int32) (g59_49 : Nat → Int32) (g60_49 : Nat → Int32) (g61_49 : Nat → Int32) (g63_49 : Nat → Int32) (x62_49 : Int32) (x64_49 : Int32) (x66_49 : Int32) : Option (Int32 × (Nat → Int32) × (Nat → Int32) × (Nat → Int32) × (Nat → Int32) × (Nat → Int32) × Int32 × Int32 × Int32) := match n with
  | 0 => none
  | n + 1 => (if l1_49 ≤ l4_49 then (if l3_49 = 0 then (kk_12 l1_49 (l2_49 + 1) g58_49 g59_49 g60_49 g61_49 g63_49 x62_49 x64_49 x66_49) else (some (l2_49, g58_49, g59_49, g60_49, g61_49, g63_49, x62_49, x64_49, x66_49))) else (if l3_49 = 0 then (if l3_49 = 0 then (kk_12 l1_49 (l2_49 + 1) g58_49 g59_49 g60_49 g61_49 g63_49 x62_49 x64_49 x66_49) else (some (l2_49, g58_49, g59_49, g60_49, g61_49, g63_49, x62_49, x64_49, x66_49))) else (if l2_49 < 0 then none else if 2000 ≤ (l2_49 : Int32).toNatClampNeg then none else (if ((g59_49 (l2_49 : Int32).toNatClampNeg) + l4_49) < 0 then none else if 40000 ≤ (((g59_49 (l2_49 : Int32).toNatClampNeg) + l4_49) : Int32).toNatClampNeg then none else (if l4_49 < 0 then none else if 200 ≤ (l4_49 : Int32).toNatClampNeg then none else (if (g63_49 (((g59_49 (l2_49 : Int32).toNatClampNeg) + l4_49) : Int32).toNatClampNeg) = (f65 (l4_49 : Int32).toNatClampNeg) then (lp_vm_spelling_49 nf n v62 v64 v66 f58 f59 f60 f61 f65 f63 kk_12 l1_49 l2_49 1 (l4_49 + 1) g58_49 g59_49 g60_49 g61_49 g63_49 x62_49 x64_49 x66_49) else (lp_vm_spelling_49 nf n v62 v64 v66 f58 f59 f60 f61 f65 f63 kk_12 l1_49 l2_49 0 (l4_49 + 1) g58_49 g59_49 g60_49 g61_49 g63_49 x62_49 x64_49 x66_49)))))))
def jn_vm_spelling_45 (nf : Nat) (v62 : Int32) (v64 : Int32) (v66 : Int32) (f58 : Nat → Int32) (f59 : Nat → Int32) (f60 : Nat → Int32) (f61 : Nat → Int32) (f65 : Nat → Int32) (f63 : Nat → Int32) (kk_12 : Int32 → Int32 → (Nat → Int32) → (Nat → Int32) → (Nat → Int32) → (Nat → Int32) → (Nat → Int32) → Int32 → Int32 → Int32 → Option (Int32 × (Nat → Int32) × (Nat → Int32) × (Nat → Int32) × (Nat → Int32) × (Nat → Int32) × Int32 × Int32 × Int32)) (l1_45 : Int32) (l2_45 : Int32) (s0_45 : Int32) (g58_45 : Nat → Int32) (g59_45 : Nat → Int32) (g60_45 : Nat → Int32) (g61_45 : Nat → Int32) (g63_45 : Nat → Int32) (x62_45 : Int32) (x64_45 : Int32) (x66_45 : Int32) : Option (Int32 × (Nat → Int32) × (Nat → Int32) × (Nat → Int32) × (Nat → Int32) × (Nat → Int32) × Int32 × Int32 × Int32) := (lp_vm_spelling_49 nf nf v62 v64 v66 f58 f59 f60 f61 f65 f63 kk_12 l1_45 l2_45 s0_45 0 g58_45 g59_45 g60_45 g61_45 g63_45 x62_45 x64_45 x66_45)
def jn_vm_spelling_44 (nf : Nat) (v62 : Int32) (v64 : Int32) (v66 : Int32) (f58 : Nat → Int32) (f59 : Nat → Int32) (f60 : Nat → Int32) (f61 : Nat → Int32) (f65 : Nat → Int32) (f63 : Nat → Int32) (kk_12 : Int32 → Int32 → (Nat → Int32) → (Nat → Int32) → (Nat → Int32) → (Nat → Int32) → (Nat → Int32) → Int32 → Int32 → Int32 → Option (Int32 × (Nat → Int32) × (Nat → Int32) × (Nat → Int32) × (Nat → Int32) × (Nat → Int32) × Int32 × Int32 × Int32)) (l1_44 : Int32) (l2_44 : Int32) (g58_44 : Nat → Int32) (g59_44 : Nat → Int32) (g60_44 : Nat → Int32) (g61_44 : Nat → Int32) (g63_44 : Nat → Int32) (x62_44 : Int32) (x64_44 : Int32) (x66_44 : Int32) : Option (Int32 × (Nat → Int32) × (Nat → Int32) × (Nat → Int32) × (Nat → Int32) × (Nat → Int32) × Int32 × Int32 × Int32) := (jn_vm_spelling_45 nf v62 v64 v66 f58 f59 f60 f61 f65 f63 kk_12 l1_44 l2_44 0 g58_44 g59_44 g60_44 g61_44 g63_44 x62_44 x64_44 x66_44)
def lp_vm_spelling_12 (nf n : Nat) (v62 : Int32) (v64 : Int32) (v66 : Int32) (f58 : Nat → Int32) (f59 : Nat → Int32) (f60 : Nat → Int32) (f61 : Nat → Int32) (f65 : Nat → Int32) (f63 : Nat → Int32)  (l1_12 : Int32) (l2_12 : Int32) (g58_12 : Nat → Int32) (g59_12 : Nat → Int32) (g60_12 : Nat → Int32) (g61_12 : Nat → Int32) (g63_12 : Nat → Int32) (x62_12 : Int32) (x64_12 : Int32) (x66_12 : Int32) : Option (Int32 × (Nat → Int32) × (Nat → Int32) × (Nat → Int32) × (Nat → Int32) × (Nat → Int32) × Int32 × Int32 × Int32) := match n with
  | 0 => none
  | n + 1 => (if x62_12 < l2_12 then (lp_vm_spelling_109 nf nf v62 v64 v66 f58 f59 f60 f61 f65 f63  l1_12 0 g58_12 g59_12 g60_12 g61_12 g63_12 x62_12 x64_12 x66_12) else (if l2_12 < 0 then none else if 2000 ≤ (l2_12 : Int32).toNatClampNeg then none else (if (g58_12 (l2_12 : Int32).toNatClampNeg) = 1 then (if l2_12 < 0 then none else if 2000 ≤ (l2_12 : Int32).toNatClampNeg then none else (if (g60_12 (l2_12 : Int32).toNatClampNeg) = l1_12 then (jn_vm_spelling_45 nf v62 v64 v66 f58 f59 f60 f61 f65 f63 (lp_vm_spelling_12 nf n v62 v64 v66 f58 f59 f60 f61 f65 f63) l1_12 l2_12 1 g58_12 g59_12 g60_12 g61_12 g63_12 x62_12 x64_12 x66_12) else (jn_vm_spelling_44 nf v62 v64 v66 f58 f59 f60 f61 f65 f63 (lp_vm_spelling_12 nf n v62 v64 v66 f58 f59 f60 f61 f65 f63) l1_12 l2_12 g58_12 g59_12 g60_12 g61_12 g63_12 x62_12 x64_12 x66_12))) else (jn_vm_spelling_44 nf v62 v64 v66 f58 f59 f60 f61 f65 f63 (lp_vm_spelling_12 nf n v62 v64 v66 f58 f59 f60 f61 f65 f63) l1_12 l2_12 g58_12 g59_12 g60_12 g61_12 g63_12 x62_12 x64_12 x66_12))))
def sp_vm_spelling (nf : Nat) (v62 : Int32) (v64 : Int32) (v66 : Int32) (f58 : Nat → Int32) (f59 : Nat → Int32) (f60 : Nat → Int32) (f61 : Nat → Int32) (f65 : Nat → Int32) (f63 : Nat → Int32) : Option (Int32 × (Nat → Int32) × (Nat → Int32) × (Nat → Int32) × (Nat → Int32) × (Nat → Int32) × Int32 × Int32 × Int32) := (lp_vm_spelling_12 nf nf v62 v64 v66 f58 f59 f60 f61 f65 f63  v66 1 f58 f59 f60 f61 f63 v62 v64 0)
