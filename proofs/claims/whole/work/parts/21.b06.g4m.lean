set_option maxHeartbeats 4000000 in
set_option maxRecDepth 100000 in
/-- ClassMillModel.field -/
theorem vm_field (l : Launch) (dC : Nat → ClassId) (dI : Nat → Nat → Nat) (sz : Nat) (h0 : Nat) (zs : (List Value)) (a1 : Int32) (qf2 : Nat) (qf5 : Nat) (qf6 : Nat) (v9 : Int32) (v10 : Int32) (qf12 : Nat) (qf14 : Nat) (qf16 : Nat) (qf18 : Nat) (qf19 : Nat) (qf27 : Nat) (v28 : Int32) (qf29 : Nat) (qf30 : Nat) (qf34 : Nat) (qf35 : Nat) (cf14 : ClassId) (f14 : (Nat → Int32)) (cf18 : ClassId) (f18 : (Nat → Int32)) (cf12 : ClassId) (f12 : (Nat → Int32)) (cf5 : ClassId) (f5 : (Nat → Int32)) (cf27 : ClassId) (f27 : (Nat → Int32)) (cf29 : ClassId) (f29 : (Nat → Int32)) (cf30 : ClassId) (f30 : (Nat → Int32)) (cf34 : ClassId) (f34 : (Nat → Int32)) (cf6 : ClassId) (f6 : (Nat → Int32)) (cf2 : ClassId) (f2 : (Nat → Int32)) (cf19 : ClassId) (f19 : (Nat → Int32)) (cf16 : ClassId) (f16 : (Nat → Int32)) (cf35 : ClassId) (f35 : (Nat → Int32)) (nS588 : Nat) (fS588 : (Nat → Int32)) (hS588 : Nat) (qS588 : Nat) (tS588 : String) (nf : Nat) (r0 : Int32) (o19 : (Nat → Int32)) (w10 : Int32) (w9 : Int32) (hlen : zs.length = 155) (hf2 : zs[2]? = some (.ref qf2)) (hf5 : zs[5]? = some (.ref qf5)) (hf6 : zs[6]? = some (.ref qf6)) (hf9 : zs[9]? = some (.int v9)) (hf10 : zs[10]? = some (.int v10)) (hf12 : zs[12]? = some (.ref qf12)) (hf14 : zs[14]? = some (.ref qf14)) (hf16 : zs[16]? = some (.ref qf16)) (hf18 : zs[18]? = some (.ref qf18)) (hf19 : zs[19]? = some (.ref qf19)) (hf27 : zs[27]? = some (.ref qf27)) (hf28 : zs[28]? = some (.int v28)) (hf29 : zs[29]? = some (.ref qf29)) (hf30 : zs[30]? = some (.ref qf30)) (hf34 : zs[34]? = some (.ref qf34)) (hf35 : zs[35]? = some (.ref qf35)) (hsp : sp_vm_field nf a1 v9 v10 v28 f14 f18 f12 f5 f27 f29 f30 f34 f6 f2 f19 f16 f35 nS588 fS588 = some (r0, o19, w10, w9)) : Met l yX13_field (.code yX13_field cX13_field 4 (some .int) :: VS_h9) ({ frames := 5, cells := 0, slots := 0, locals := 112 }) (va_Pc [.ref h0, .int a1] (fun U => U.heap.size = sz ∧ va_P (dC, dI) vwCl [(h0, .inr (13, zs)), (qf14, .inl (cf14, 9000, .inl f14)), (qf18, .inl (cf18, 9000, .inl f18)), (qf12, .inl (cf12, 9000, .inl f12)), (qf5, .inl (cf5, 3002, .inl f5)), (qf27, .inl (cf27, 400, .inl f27)), (qf29, .inl (cf29, 800, .inl f29)), (qf30, .inl (cf30, 800, .inl f30)), (qf34, .inl (cf34, 800, .inl f34)), (qf6, .inl (cf6, 3002, .inl f6)), (qf2, .inl (cf2, 3000, .inl f2)), (qf19, .inl (cf19, 9000, .inl f19)), (qf16, .inl (cf16, 9000, .inl f16)), (qf35, .inl (cf35, 800, .inl f35))] U.heap ∧ va_K (dC, dI) vwCl [(cf14, .int), (cf18, .int), (cf12, .int), (cf5, .int), (cf27, .int), (cf29, .int), (cf30, .int), (cf34, .int), (cf6, .int), (cf2, .int), (cf19, .int), (cf16, .int), (cf35, .int)] U ∧ va_D (fun _ => True) [(h0, .inr (13, zs)), (qf14, .inl (cf14, 9000, .inl f14)), (qf18, .inl (cf18, 9000, .inl f18)), (qf12, .inl (cf12, 9000, .inl f12)), (qf5, .inl (cf5, 3002, .inl f5)), (qf27, .inl (cf27, 400, .inl f27)), (qf29, .inl (cf29, 800, .inl f29)), (qf30, .inl (cf30, 800, .inl f30)), (qf34, .inl (cf34, 800, .inl f34)), (qf6, .inl (cf6, 3002, .inl f6)), (qf2, .inl (cf2, 3000, .inl f2)), (qf19, .inl (cf19, 9000, .inl f19)), (qf16, .inl (cf16, 9000, .inl f16)), (qf35, .inl (cf35, 800, .inl f35))] ∧ pz_W nS588 fS588 hS588 qS588 (va_A [(h0, .inr (13, zs)), (qf14, .inl (cf14, 9000, .inl f14)), (qf18, .inl (cf18, 9000, .inl f18)), (qf12, .inl (cf12, 9000, .inl f12)), (qf5, .inl (cf5, 3002, .inl f5)), (qf27, .inl (cf27, 400, .inl f27)), (qf29, .inl (cf29, 800, .inl f29)), (qf30, .inl (cf30, 800, .inl f30)), (qf34, .inl (cf34, 800, .inl f34)), (qf6, .inl (cf6, 3002, .inl f6)), (qf2, .inl (cf2, 3000, .inl f2)), (qf19, .inl (cf19, 9000, .inl f19)), (qf16, .inl (cf16, 9000, .inl f16)), (qf35, .inl (cf35, 800, .inl f35))] sz) U U.heap ∧ vk_R RX13 588 tS588 hS588 U)) (va_Qi (fun (r : Int32) (u : (List Value)) => match u with | (zo1) => r0 = r ∧ zo1.length = 155 ∧ (∀ j : Nat, j ≠ 10 → j ≠ 9 → zo1[j]? = zs[j]?) ∧ zo1[10]? = some (.int w10) ∧ zo1[9]? = some (.int w9)) (fun (u : (List Value)) (t : State) => match u with | (zo1) => va_P (dC, dI) vwCl [(h0, .inr (13, zo1)), (qf14, .inl (cf14, 9000, .inl f14)), (qf18, .inl (cf18, 9000, .inl f18)), (qf12, .inl (cf12, 9000, .inl f12)), (qf5, .inl (cf5, 3002, .inl f5)), (qf27, .inl (cf27, 400, .inl f27)), (qf29, .inl (cf29, 800, .inl f29)), (qf30, .inl (cf30, 800, .inl f30)), (qf34, .inl (cf34, 800, .inl f34)), (qf6, .inl (cf6, 3002, .inl f6)), (qf2, .inl (cf2, 3000, .inl f2)), (qf19, .inl (cf19, 9000, .inl o19)), (qf16, .inl (cf16, 9000, .inl f16)), (qf35, .inl (cf35, 800, .inl f35))] t.heap ∧ va_K (dC, dI) vwCl [(cf14, .int), (cf18, .int), (cf12, .int), (cf5, .int), (cf27, .int), (cf29, .int), (cf30, .int), (cf34, .int), (cf6, .int), (cf2, .int), (cf19, .int), (cf16, .int), (cf35, .int)] t ∧ va_D (va_A [(h0, .inr (13, zs)), (qf14, .inl (cf14, 9000, .inl f14)), (qf18, .inl (cf18, 9000, .inl f18)), (qf12, .inl (cf12, 9000, .inl f12)), (qf5, .inl (cf5, 3002, .inl f5)), (qf27, .inl (cf27, 400, .inl f27)), (qf29, .inl (cf29, 800, .inl f29)), (qf30, .inl (cf30, 800, .inl f30)), (qf34, .inl (cf34, 800, .inl f34)), (qf6, .inl (cf6, 3002, .inl f6)), (qf2, .inl (cf2, 3000, .inl f2)), (qf19, .inl (cf19, 9000, .inl f19)), (qf16, .inl (cf16, 9000, .inl f16)), (qf35, .inl (cf35, 800, .inl f35))] sz) [(h0, .inr (13, zo1)), (qf14, .inl (cf14, 9000, .inl f14)), (qf18, .inl (cf18, 9000, .inl f18)), (qf12, .inl (cf12, 9000, .inl f12)), (qf5, .inl (cf5, 3002, .inl f5)), (qf27, .inl (cf27, 400, .inl f27)), (qf29, .inl (cf29, 800, .inl f29)), (qf30, .inl (cf30, 800, .inl f30)), (qf34, .inl (cf34, 800, .inl f34)), (qf6, .inl (cf6, 3002, .inl f6)), (qf2, .inl (cf2, 3000, .inl f2)), (qf19, .inl (cf19, 9000, .inl o19)), (qf16, .inl (cf16, 9000, .inl f16)), (qf35, .inl (cf35, 800, .inl f35))]) (va_A [(h0, .inr (13, zs)), (qf14, .inl (cf14, 9000, .inl f14)), (qf18, .inl (cf18, 9000, .inl f18)), (qf12, .inl (cf12, 9000, .inl f12)), (qf5, .inl (cf5, 3002, .inl f5)), (qf27, .inl (cf27, 400, .inl f27)), (qf29, .inl (cf29, 800, .inl f29)), (qf30, .inl (cf30, 800, .inl f30)), (qf34, .inl (cf34, 800, .inl f34)), (qf6, .inl (cf6, 3002, .inl f6)), (qf2, .inl (cf2, 3000, .inl f2)), (qf19, .inl (cf19, 9000, .inl f19)), (qf16, .inl (cf16, 9000, .inl f16)), (qf35, .inl (cf35, 800, .inl f35))] sz)) 0 0 (va_A [(h0, .inr (13, zs)), (qf14, .inl (cf14, 9000, .inl f14)), (qf18, .inl (cf18, 9000, .inl f18)), (qf12, .inl (cf12, 9000, .inl f12)), (qf5, .inl (cf5, 3002, .inl f5)), (qf27, .inl (cf27, 400, .inl f27)), (qf29, .inl (cf29, 800, .inl f29)), (qf30, .inl (cf30, 800, .inl f30)), (qf34, .inl (cf34, 800, .inl f34)), (qf6, .inl (cf6, 3002, .inl f6)), (qf2, .inl (cf2, 3000, .inl f2)), (qf19, .inl (cf19, 9000, .inl f19)), (qf16, .inl (cf16, 9000, .inl f16)), (qf35, .inl (cf35, 800, .inl f35))] sz) := by
  refine Met.ofW (cc := cX13_field) (maxL := 4) (ret := (some .int)) (by decide) rfl ?_
  intro p e s m args below meth c s₁ B hml hv
  obtain ⟨rfl, hsz, hP, hK, hD0, hZWS588, hZRS588⟩ := hv
  have hx := B.exec
  have hb := B.bytes
  have hr := B.returns
  have hts := atoms_spec (ws := (.code yX13_field cX13_field 4 (some .int) :: VS_h9)) B.pre
  replace hts := fun w (h : w ∈ VS_h9) => hts w (List.mem_cons_of_mem _ h)
  have hown : s.vm.findClass RX13 = some m.cls := findClass_of_methodNamed B.named
  have hlocks := B.notSynchronized
  subst hsz
  have hD := hD0.self (sz := s.heap.size)
  generalize hAe : va_A [(h0, .inr (13, zs)), (qf14, .inl (cf14, 9000, .inl f14)), (qf18, .inl (cf18, 9000, .inl f18)), (qf12, .inl (cf12, 9000, .inl f12)), (qf5, .inl (cf5, 3002, .inl f5)), (qf27, .inl (cf27, 400, .inl f27)), (qf29, .inl (cf29, 800, .inl f29)), (qf30, .inl (cf30, 800, .inl f30)), (qf34, .inl (cf34, 800, .inl f34)), (qf6, .inl (cf6, 3002, .inl f6)), (qf2, .inl (cf2, 3000, .inl f2)), (qf19, .inl (cf19, 9000, .inl f19)), (qf16, .inl (cf16, 9000, .inl f16)), (qf35, .inl (cf35, 800, .inl f35))] s.heap.size = A at hD hZWS588 ⊢
  have hA : ∀ q : Nat, s.heap.size ≤ q → A q := fun q h => by rw [← hAe]; exact Or.inr h
  have hP : va_P (dC, dI) vwCl [(h0, .inr (13, zs)), (qf14, .inl (cf14, 9000, .inl f14)), (qf18, .inl (cf18, 9000, .inl f18)), (qf12, .inl (cf12, 9000, .inl f12)), (qf5, .inl (cf5, 3002, .inl f5)), (qf27, .inl (cf27, 400, .inl f27)), (qf29, .inl (cf29, 800, .inl f29)), (qf30, .inl (cf30, 800, .inl f30)), (qf34, .inl (cf34, 800, .inl f34)), (qf6, .inl (cf6, 3002, .inl f6)), (qf2, .inl (cf2, 3000, .inl f2)), (qf19, .inl (cf19, 9000, .inl f19)), (qf16, .inl (cf16, 9000, .inl f16)), (qf35, .inl (cf35, 800, .inl f35))] s.heap := hP
  have hl := lv_entry ([.ref h0, .int a1]) (n := 4) (Nat.le_of_ble_eq_true rfl)
  rw [lg_entry_eq]
  generalize (lg_sl ([.ref h0, .int a1]) ++ List.replicate (4 - (lg_sl ([.ref h0, .int a1])).length) Slot.unset).toArray = ls at hl ⊢
  have hl : lv_has ls 4 [(0, .ref h0), (1, .int a1)] := hl
  obtain ⟨H, hH⟩ : ∃ H : Heap, s.heap = H := ⟨_, rfl⟩
  rw [hH] at hP ⊢
  have hS : va_S A s.heap H [] := by rw [← hH]; exact va_S.rf
  obtain ⟨locs, hlo⟩ : ∃ locs : List Loc, locs = [] := ⟨_, rfl⟩
  rw [← hlo] at hS ⊢
  have hrs0 : ∀ j : Nat, j ≠ 10 → j ≠ 9 → zs[j]? = zs[j]? := fun _ _ _  => rfl
  unfold sp_vm_field at hsp
  refine jn_use (α := Heap × List Loc × Array Slot × List Value × Int32 × Int32 × (Nat → Int32) × Int32 × Int32) (fun x9 => x9.1) (fun x9 => x9.2.1) (fun x9 => F0 m 151 x9.2.2.1 []) (fun x9 => match x9 with | (H, locs, ls, z151, l1_151, l3_151, g19_151, x10_151, x9_151) => lv_has ls 4 [(0, .ref h0), (1, .int l1_151), (3, .int l3_151)] ∧ va_S A s.heap H locs ∧ va_D A [(h0, .inr (13, z151)), (qf14, .inl (cf14, 9000, .inl f14)), (qf18, .inl (cf18, 9000, .inl f18)), (qf12, .inl (cf12, 9000, .inl f12)), (qf5, .inl (cf5, 3002, .inl f5)), (qf27, .inl (cf27, 400, .inl f27)), (qf29, .inl (cf29, 800, .inl f29)), (qf30, .inl (cf30, 800, .inl f30)), (qf34, .inl (cf34, 800, .inl f34)), (qf6, .inl (cf6, 3002, .inl f6)), (qf2, .inl (cf2, 3000, .inl f2)), (qf19, .inl (cf19, 9000, .inl g19_151)), (qf16, .inl (cf16, 9000, .inl f16)), (qf35, .inl (cf35, 800, .inl f35))] ∧ va_P (dC, dI) vwCl [(h0, .inr (13, z151)), (qf14, .inl (cf14, 9000, .inl f14)), (qf18, .inl (cf18, 9000, .inl f18)), (qf12, .inl (cf12, 9000, .inl f12)), (qf5, .inl (cf5, 3002, .inl f5)), (qf27, .inl (cf27, 400, .inl f27)), (qf29, .inl (cf29, 800, .inl f29)), (qf30, .inl (cf30, 800, .inl f30)), (qf34, .inl (cf34, 800, .inl f34)), (qf6, .inl (cf6, 3002, .inl f6)), (qf2, .inl (cf2, 3000, .inl f2)), (qf19, .inl (cf19, 9000, .inl g19_151)), (qf16, .inl (cf16, 9000, .inl f16)), (qf35, .inl (cf35, 800, .inl f35))] H ∧ z151[2]? = some (.ref qf2) ∧ z151[5]? = some (.ref qf5) ∧ z151[6]? = some (.ref qf6) ∧ z151[9]? = some (.int x9_151) ∧ z151[10]? = some (.int x10_151) ∧ z151[12]? = some (.ref qf12) ∧ z151[14]? = some (.ref qf14) ∧ z151[16]? = some (.ref qf16) ∧ z151[18]? = some (.ref qf18) ∧ z151[19]? = some (.ref qf19) ∧ z151[27]? = some (.ref qf27) ∧ z151[28]? = some (.int v28) ∧ z151[29]? = some (.ref qf29) ∧ z151[30]? = some (.ref qf30) ∧ z151[34]? = some (.ref qf34) ∧ z151[35]? = some (.ref qf35) ∧ z151.length = 155 ∧ (∀ j : Nat, j ≠ 10 → j ≠ 9 → z151[j]? = zs[j]?) ∧ jn_vm_field_151 nf a1 v9 v10 v28 f14 f18 f12 f5 f27 f29 f30 f34 f6 f2 f19 f16 f35 nS588 fS588 l1_151 l3_151 g19_151 x10_151 x9_151 = some (r0, o19, w10, w9)) ?_ ?_
  · intro x9 hJ9
    obtain ⟨H, locs, ls, z151, l1_151, l3_151, g19_151, x10_151, x9_151⟩ := x9
    obtain ⟨hl, hS, hD, hP, hfh_151_2, hfh_151_5, hfh_151_6, hfh_151_9, hfh_151_10, hfh_151_12, hfh_151_14, hfh_151_16, hfh_151_18, hfh_151_19, hfh_151_27, hfh_151_28, hfh_151_29, hfh_151_30, hfh_151_34, hfh_151_35, hlh_151, hrh_151, hsp⟩ := hJ9
    replace hl : lv_has ls 4 [(0, .ref h0), (1, .int l1_151), (3, .int l3_151)] := hl
    replace hS : va_S A s.heap H locs := hS
    replace hD : va_D A [(h0, .inr (13, z151)), (qf14, .inl (cf14, 9000, .inl f14)), (qf18, .inl (cf18, 9000, .inl f18)), (qf12, .inl (cf12, 9000, .inl f12)), (qf5, .inl (cf5, 3002, .inl f5)), (qf27, .inl (cf27, 400, .inl f27)), (qf29, .inl (cf29, 800, .inl f29)), (qf30, .inl (cf30, 800, .inl f30)), (qf34, .inl (cf34, 800, .inl f34)), (qf6, .inl (cf6, 3002, .inl f6)), (qf2, .inl (cf2, 3000, .inl f2)), (qf19, .inl (cf19, 9000, .inl g19_151)), (qf16, .inl (cf16, 9000, .inl f16)), (qf35, .inl (cf35, 800, .inl f35))] := hD
    replace hP : va_P (dC, dI) vwCl [(h0, .inr (13, z151)), (qf14, .inl (cf14, 9000, .inl f14)), (qf18, .inl (cf18, 9000, .inl f18)), (qf12, .inl (cf12, 9000, .inl f12)), (qf5, .inl (cf5, 3002, .inl f5)), (qf27, .inl (cf27, 400, .inl f27)), (qf29, .inl (cf29, 800, .inl f29)), (qf30, .inl (cf30, 800, .inl f30)), (qf34, .inl (cf34, 800, .inl f34)), (qf6, .inl (cf6, 3002, .inl f6)), (qf2, .inl (cf2, 3000, .inl f2)), (qf19, .inl (cf19, 9000, .inl g19_151)), (qf16, .inl (cf16, 9000, .inl f16)), (qf35, .inl (cf35, 800, .inl f35))] H := hP
    replace hsp : jn_vm_field_151 nf a1 v9 v10 v28 f14 f18 f12 f5 f27 f29 f30 f34 f6 f2 f19 f16 f35 nS588 fS588 l1_151 l3_151 g19_151 x10_151 x9_151 = some (r0, o19, w10, w9) := hsp
    show W _ _ _ _ _ _ _ _ _ _ H locs _ _ _ (F0 m 151 ls [])
    unfold jn_vm_field_151 at hsp
    try dsimp only at hsp
    refine lv_aload_n hx hb dX13_field_151 rfl (lv_at hl 0 rfl) ?_
    refine va_get (D := (dC, dI)) (ci := 13) (v := .ref qf19) (C := RX13) (T := TX13) (N := 155) hx hb hts uV_h9_X13 hown hK hP 0 rfl rfl 19 (by decide) (hts (.fieldLink RX13 52 "ClassMillModel" "means" "[I") mw_h9_47) (fun _ h9 => h9) hfh_151_19 dX13_field_152 ?_
    refine lv_iload_n hx hb dX13_field_155 rfl (lv_at hl 1 rfl) ?_
    refine lv_iload_n hx hb dX13_field_156 rfl (lv_at hl 2 rfl) ?_
    obtain ⟨hi_25, hsp⟩ := ox_in hsp
    refine va_iast hx hb hK hP hD hS 11 10 rfl rfl (i := l1_151) (x := l3_151) hi_25 dX13_field_157 ?_
    clear hP hD hS
    intro H locs hP hD hS
    replace hP : va_P (dC, dI) vwCl [(h0, .inr (13, z151)), (qf14, .inl (cf14, 9000, .inl f14)), (qf18, .inl (cf18, 9000, .inl f18)), (qf12, .inl (cf12, 9000, .inl f12)), (qf5, .inl (cf5, 3002, .inl f5)), (qf27, .inl (cf27, 400, .inl f27)), (qf29, .inl (cf29, 800, .inl f29)), (qf30, .inl (cf30, 800, .inl f30)), (qf34, .inl (cf34, 800, .inl f34)), (qf6, .inl (cf6, 3002, .inl f6)), (qf2, .inl (cf2, 3000, .inl f2)), (qf19, .inl (cf19, 9000, .inl (upd g19_151 (l1_151 : Int32).toNatClampNeg l3_151))), (qf16, .inl (cf16, 9000, .inl f16)), (qf35, .inl (cf35, 800, .inl f35))] H := hP
    replace hD : va_D A [(h0, .inr (13, z151)), (qf14, .inl (cf14, 9000, .inl f14)), (qf18, .inl (cf18, 9000, .inl f18)), (qf12, .inl (cf12, 9000, .inl f12)), (qf5, .inl (cf5, 3002, .inl f5)), (qf27, .inl (cf27, 400, .inl f27)), (qf29, .inl (cf29, 800, .inl f29)), (qf30, .inl (cf30, 800, .inl f30)), (qf34, .inl (cf34, 800, .inl f34)), (qf6, .inl (cf6, 3002, .inl f6)), (qf2, .inl (cf2, 3000, .inl f2)), (qf19, .inl (cf19, 9000, .inl (upd g19_151 (l1_151 : Int32).toNatClampNeg l3_151))), (qf16, .inl (cf16, 9000, .inl f16)), (qf35, .inl (cf35, 800, .inl f35))] := hD
    refine lv_iload_n hx hb dX13_field_158 rfl (lv_at hl 2 rfl) ?_
    refine lv_iconst (v := (-1)) hx hb dX13_field_159 (by decide) ?_
    refine lv_icmp_ne (tgt := 167) hx hb dX13_field_160 (by decide) (fun c_26 => ?_) (fun c_26 => ?_)
    · rw [if_neg c_26] at hsp
      refine lv_aload_n hx hb dX13_field_167 rfl (lv_at hl 0 rfl) ?_
      refine va_get (D := (dC, dI)) (ci := 13) (v := .ref qf35) (C := RX13) (T := TX13) (N := 155) hx hb hts uV_h9_X13 hown hK hP 0 rfl rfl 35 (by decide) (hts (.fieldLink RX13 89 "ClassMillModel" "memberType" "[I") mw_h9_119) (fun _ h9 => h9) hfh_151_35 dX13_field_168 ?_
      refine lv_iload_n hx hb dX13_field_171 rfl (lv_at hl 2 rfl) ?_
      obtain ⟨hi_27, hsp⟩ := ox_in hsp
      refine va_iald hx hb hK hP 13 12 rfl rfl (i := l3_151) hi_27 dX13_field_172 ?_
      have hr0 := Option.some.inj hsp
      clear hsp
      obtain ⟨hq0, hr1⟩ := Prod.mk.inj hr0
      clear hr0
      obtain ⟨hq1, hr2⟩ := Prod.mk.inj hr1
      clear hr1
      obtain ⟨hq2, hr3⟩ := Prod.mk.inj hr2
      clear hr2
      subst hq0
      subst hq1
      subst hq2
      subst hr3
      have hP9 := hP.sub (ws' := [(h0, .inr (13, z151)), (qf14, .inl (cf14, 9000, .inl f14)), (qf18, .inl (cf18, 9000, .inl f18)), (qf12, .inl (cf12, 9000, .inl f12)), (qf5, .inl (cf5, 3002, .inl f5)), (qf27, .inl (cf27, 400, .inl f27)), (qf29, .inl (cf29, 800, .inl f29)), (qf30, .inl (cf30, 800, .inl f30)), (qf34, .inl (cf34, 800, .inl f34)), (qf6, .inl (cf6, 3002, .inl f6)), (qf2, .inl (cf2, 3000, .inl f2)), (qf19, .inl (cf19, 9000, .inl (upd g19_151 (l1_151 : Int32).toNatClampNeg l3_151))), (qf16, .inl (cf16, 9000, .inl f16)), (qf35, .inl (cf35, 800, .inl f35))]) [0, 1, 2, 3, 4, 5, 6, 7, 8, 9, 10, 11, 12, 13] rfl
      have hD9 := hD.sub (ws' := [(h0, .inr (13, z151)), (qf14, .inl (cf14, 9000, .inl f14)), (qf18, .inl (cf18, 9000, .inl f18)), (qf12, .inl (cf12, 9000, .inl f12)), (qf5, .inl (cf5, 3002, .inl f5)), (qf27, .inl (cf27, 400, .inl f27)), (qf29, .inl (cf29, 800, .inl f29)), (qf30, .inl (cf30, 800, .inl f30)), (qf34, .inl (cf34, 800, .inl f34)), (qf6, .inl (cf6, 3002, .inl f6)), (qf2, .inl (cf2, 3000, .inl f2)), (qf19, .inl (cf19, 9000, .inl (upd g19_151 (l1_151 : Int32).toNatClampNeg l3_151))), (qf16, .inl (cf16, 9000, .inl f16)), (qf35, .inl (cf35, 800, .inl f35))]) [0, 1, 2, 3, 4, 5, 6, 7, 8, 9, 10, 11, 12, 13] (by decide) rfl
      have hK9 := hK.sub (tys' := [(cf14, .int), (cf18, .int), (cf12, .int), (cf5, .int), (cf27, .int), (cf29, .int), (cf30, .int), (cf34, .int), (cf6, .int), (cf2, .int), (cf19, .int), (cf16, .int), (cf35, .int)]) [0, 1, 2, 3, 4, 5, 6, 7, 8, 9, 10, 11, 12] rfl
      exact W.iret hx hb hr (fun t ht hW => ⟨⟨((f35 (l3_151 : Int32).toNatClampNeg)), (z151), rfl, ⟨rfl, hlh_151, hrh_151, hfh_151_10, hfh_151_9⟩, by rw [ht]; exact hP9, va_K.moved hW.alike hK9, hD9⟩, hS.F ht⟩) hS.2.2 dX13_field_173
    · rw [if_pos c_26] at hsp
      refine lv_iconst (v := 0) hx hb dX13_field_163 (by decide) ?_
      refine lv_goto (tgt := 173) hx hb dX13_field_164 (by decide) ?_
      have hr0 := Option.some.inj hsp
      clear hsp
      obtain ⟨hq0, hr1⟩ := Prod.mk.inj hr0
      clear hr0
      obtain ⟨hq1, hr2⟩ := Prod.mk.inj hr1
      clear hr1
      obtain ⟨hq2, hr3⟩ := Prod.mk.inj hr2
      clear hr2
      subst hq0
      subst hq1
      subst hq2
      subst hr3
      have hP9 := hP.sub (ws' := [(h0, .inr (13, z151)), (qf14, .inl (cf14, 9000, .inl f14)), (qf18, .inl (cf18, 9000, .inl f18)), (qf12, .inl (cf12, 9000, .inl f12)), (qf5, .inl (cf5, 3002, .inl f5)), (qf27, .inl (cf27, 400, .inl f27)), (qf29, .inl (cf29, 800, .inl f29)), (qf30, .inl (cf30, 800, .inl f30)), (qf34, .inl (cf34, 800, .inl f34)), (qf6, .inl (cf6, 3002, .inl f6)), (qf2, .inl (cf2, 3000, .inl f2)), (qf19, .inl (cf19, 9000, .inl (upd g19_151 (l1_151 : Int32).toNatClampNeg l3_151))), (qf16, .inl (cf16, 9000, .inl f16)), (qf35, .inl (cf35, 800, .inl f35))]) [0, 1, 2, 3, 4, 5, 6, 7, 8, 9, 10, 11, 12, 13] rfl
      have hD9 := hD.sub (ws' := [(h0, .inr (13, z151)), (qf14, .inl (cf14, 9000, .inl f14)), (qf18, .inl (cf18, 9000, .inl f18)), (qf12, .inl (cf12, 9000, .inl f12)), (qf5, .inl (cf5, 3002, .inl f5)), (qf27, .inl (cf27, 400, .inl f27)), (qf29, .inl (cf29, 800, .inl f29)), (qf30, .inl (cf30, 800, .inl f30)), (qf34, .inl (cf34, 800, .inl f34)), (qf6, .inl (cf6, 3002, .inl f6)), (qf2, .inl (cf2, 3000, .inl f2)), (qf19, .inl (cf19, 9000, .inl (upd g19_151 (l1_151 : Int32).toNatClampNeg l3_151))), (qf16, .inl (cf16, 9000, .inl f16)), (qf35, .inl (cf35, 800, .inl f35))]) [0, 1, 2, 3, 4, 5, 6, 7, 8, 9, 10, 11, 12, 13] (by decide) rfl
      have hK9 := hK.sub (tys' := [(cf14, .int), (cf18, .int), (cf12, .int), (cf5, .int), (cf27, .int), (cf29, .int), (cf30, .int), (cf34, .int), (cf6, .int), (cf2, .int), (cf19, .int), (cf16, .int), (cf35, .int)]) [0, 1, 2, 3, 4, 5, 6, 7, 8, 9, 10, 11, 12] rfl
      exact W.iret hx hb hr (fun t ht hW => ⟨⟨(0), (z151), rfl, ⟨rfl, hlh_151, hrh_151, hfh_151_10, hfh_151_9⟩, by rw [ht]; exact hP9, va_K.moved hW.alike hK9, hD9⟩, hS.F ht⟩) hS.2.2 dX13_field_173
  intro hj_151
  refine jn_use (α := Heap × List Loc × Array Slot × List Value × Int32 × Int32 × (Nat → Int32) × Int32 × Int32) (fun x9 => x9.1) (fun x9 => x9.2.1) (fun x9 => F0 m 99 x9.2.2.1 [.int (x9.2.2.2.2.2.1)]) (fun x9 => match x9 with | (H, locs, ls, z99, l1_99, s0_99, g19_99, x10_99, x9_99) => lv_has ls 4 [(0, .ref h0), (1, .int l1_99)] ∧ va_S A s.heap H locs ∧ va_D A [(h0, .inr (13, z99)), (qf14, .inl (cf14, 9000, .inl f14)), (qf18, .inl (cf18, 9000, .inl f18)), (qf12, .inl (cf12, 9000, .inl f12)), (qf5, .inl (cf5, 3002, .inl f5)), (qf27, .inl (cf27, 400, .inl f27)), (qf29, .inl (cf29, 800, .inl f29)), (qf30, .inl (cf30, 800, .inl f30)), (qf34, .inl (cf34, 800, .inl f34)), (qf6, .inl (cf6, 3002, .inl f6)), (qf2, .inl (cf2, 3000, .inl f2)), (qf19, .inl (cf19, 9000, .inl g19_99)), (qf16, .inl (cf16, 9000, .inl f16)), (qf35, .inl (cf35, 800, .inl f35))] ∧ va_P (dC, dI) vwCl [(h0, .inr (13, z99)), (qf14, .inl (cf14, 9000, .inl f14)), (qf18, .inl (cf18, 9000, .inl f18)), (qf12, .inl (cf12, 9000, .inl f12)), (qf5, .inl (cf5, 3002, .inl f5)), (qf27, .inl (cf27, 400, .inl f27)), (qf29, .inl (cf29, 800, .inl f29)), (qf30, .inl (cf30, 800, .inl f30)), (qf34, .inl (cf34, 800, .inl f34)), (qf6, .inl (cf6, 3002, .inl f6)), (qf2, .inl (cf2, 3000, .inl f2)), (qf19, .inl (cf19, 9000, .inl g19_99)), (qf16, .inl (cf16, 9000, .inl f16)), (qf35, .inl (cf35, 800, .inl f35))] H ∧ z99[2]? = some (.ref qf2) ∧ z99[5]? = some (.ref qf5) ∧ z99[6]? = some (.ref qf6) ∧ z99[9]? = some (.int x9_99) ∧ z99[10]? = some (.int x10_99) ∧ z99[12]? = some (.ref qf12) ∧ z99[14]? = some (.ref qf14) ∧ z99[16]? = some (.ref qf16) ∧ z99[18]? = some (.ref qf18) ∧ z99[19]? = some (.ref qf19) ∧ z99[27]? = some (.ref qf27) ∧ z99[28]? = some (.int v28) ∧ z99[29]? = some (.ref qf29) ∧ z99[30]? = some (.ref qf30) ∧ z99[34]? = some (.ref qf34) ∧ z99[35]? = some (.ref qf35) ∧ z99.length = 155 ∧ (∀ j : Nat, j ≠ 10 → j ≠ 9 → z99[j]? = zs[j]?) ∧ jn_vm_field_99 nf a1 v9 v10 v28 f14 f18 f12 f5 f27 f29 f30 f34 f6 f2 f19 f16 f35 nS588 fS588 l1_99 s0_99 g19_99 x10_99 x9_99 = some (r0, o19, w10, w9)) ?_ ?_
  · intro x9 hJ9
    obtain ⟨H, locs, ls, z99, l1_99, s0_99, g19_99, x10_99, x9_99⟩ := x9
    obtain ⟨hl, hS, hD, hP, hfh_99_2, hfh_99_5, hfh_99_6, hfh_99_9, hfh_99_10, hfh_99_12, hfh_99_14, hfh_99_16, hfh_99_18, hfh_99_19, hfh_99_27, hfh_99_28, hfh_99_29, hfh_99_30, hfh_99_34, hfh_99_35, hlh_99, hrh_99, hsp⟩ := hJ9
    replace hl : lv_has ls 4 [(0, .ref h0), (1, .int l1_99)] := hl
    replace hS : va_S A s.heap H locs := hS
    replace hD : va_D A [(h0, .inr (13, z99)), (qf14, .inl (cf14, 9000, .inl f14)), (qf18, .inl (cf18, 9000, .inl f18)), (qf12, .inl (cf12, 9000, .inl f12)), (qf5, .inl (cf5, 3002, .inl f5)), (qf27, .inl (cf27, 400, .inl f27)), (qf29, .inl (cf29, 800, .inl f29)), (qf30, .inl (cf30, 800, .inl f30)), (qf34, .inl (cf34, 800, .inl f34)), (qf6, .inl (cf6, 3002, .inl f6)), (qf2, .inl (cf2, 3000, .inl f2)), (qf19, .inl (cf19, 9000, .inl g19_99)), (qf16, .inl (cf16, 9000, .inl f16)), (qf35, .inl (cf35, 800, .inl f35))] := hD
    replace hP : va_P (dC, dI) vwCl [(h0, .inr (13, z99)), (qf14, .inl (cf14, 9000, .inl f14)), (qf18, .inl (cf18, 9000, .inl f18)), (qf12, .inl (cf12, 9000, .inl f12)), (qf5, .inl (cf5, 3002, .inl f5)), (qf27, .inl (cf27, 400, .inl f27)), (qf29, .inl (cf29, 800, .inl f29)), (qf30, .inl (cf30, 800, .inl f30)), (qf34, .inl (cf34, 800, .inl f34)), (qf6, .inl (cf6, 3002, .inl f6)), (qf2, .inl (cf2, 3000, .inl f2)), (qf19, .inl (cf19, 9000, .inl g19_99)), (qf16, .inl (cf16, 9000, .inl f16)), (qf35, .inl (cf35, 800, .inl f35))] H := hP
    replace hsp : jn_vm_field_99 nf a1 v9 v10 v28 f14 f18 f12 f5 f27 f29 f30 f34 f6 f2 f19 f16 f35 nS588 fS588 l1_99 s0_99 g19_99 x10_99 x9_99 = some (r0, o19, w10, w9) := hsp
    show W _ _ _ _ _ _ _ _ _ _ H locs _ _ _ (F0 m 99 ls [.int s0_99])
    unfold jn_vm_field_99 at hsp
    try dsimp only at hsp
    refine lv_istore_n (lv' := [(3, .int s0_99), (0, .ref h0), (1, .int l1_99)]) hx hb dX13_field_99 rfl hl (by decide) rfl (fun ls hl => ?_)
    refine lv_iload_n hx hb dX13_field_100 rfl (lv_at hl 0 rfl) ?_
    refine lv_if_ne (tgt := 115) hx hb dX13_field_101 (by decide) (fun c_23 => ?_) (fun c_23 => ?_)
    · rw [if_neg c_23] at hsp
      refine lv_iconst (v := 0) hx hb dX13_field_115 (by decide) ?_
      have hr0 := Option.some.inj hsp
      clear hsp
      obtain ⟨hq0, hr1⟩ := Prod.mk.inj hr0
      clear hr0
      obtain ⟨hq1, hr2⟩ := Prod.mk.inj hr1
      clear hr1
      obtain ⟨hq2, hr3⟩ := Prod.mk.inj hr2
      clear hr2
      subst hq0
      subst hq1
      subst hq2
      subst hr3
      have hP9 := hP.sub (ws' := [(h0, .inr (13, z99)), (qf14, .inl (cf14, 9000, .inl f14)), (qf18, .inl (cf18, 9000, .inl f18)), (qf12, .inl (cf12, 9000, .inl f12)), (qf5, .inl (cf5, 3002, .inl f5)), (qf27, .inl (cf27, 400, .inl f27)), (qf29, .inl (cf29, 800, .inl f29)), (qf30, .inl (cf30, 800, .inl f30)), (qf34, .inl (cf34, 800, .inl f34)), (qf6, .inl (cf6, 3002, .inl f6)), (qf2, .inl (cf2, 3000, .inl f2)), (qf19, .inl (cf19, 9000, .inl g19_99)), (qf16, .inl (cf16, 9000, .inl f16)), (qf35, .inl (cf35, 800, .inl f35))]) [0, 1, 2, 3, 4, 5, 6, 7, 8, 9, 10, 11, 12, 13] rfl
      have hD9 := hD.sub (ws' := [(h0, .inr (13, z99)), (qf14, .inl (cf14, 9000, .inl f14)), (qf18, .inl (cf18, 9000, .inl f18)), (qf12, .inl (cf12, 9000, .inl f12)), (qf5, .inl (cf5, 3002, .inl f5)), (qf27, .inl (cf27, 400, .inl f27)), (qf29, .inl (cf29, 800, .inl f29)), (qf30, .inl (cf30, 800, .inl f30)), (qf34, .inl (cf34, 800, .inl f34)), (qf6, .inl (cf6, 3002, .inl f6)), (qf2, .inl (cf2, 3000, .inl f2)), (qf19, .inl (cf19, 9000, .inl g19_99)), (qf16, .inl (cf16, 9000, .inl f16)), (qf35, .inl (cf35, 800, .inl f35))]) [0, 1, 2, 3, 4, 5, 6, 7, 8, 9, 10, 11, 12, 13] (by decide) rfl
      have hK9 := hK.sub (tys' := [(cf14, .int), (cf18, .int), (cf12, .int), (cf5, .int), (cf27, .int), (cf29, .int), (cf30, .int), (cf34, .int), (cf6, .int), (cf2, .int), (cf19, .int), (cf16, .int), (cf35, .int)]) [0, 1, 2, 3, 4, 5, 6, 7, 8, 9, 10, 11, 12] rfl
      exact W.iret hx hb hr (fun t ht hW => ⟨⟨(0), (z99), rfl, ⟨rfl, hlh_99, hrh_99, hfh_99_10, hfh_99_9⟩, by rw [ht]; exact hP9, va_K.moved hW.alike hK9, hD9⟩, hS.F ht⟩) hS.2.2 dX13_field_116
    · rw [if_pos c_23] at hsp
      refine lv_aload_n hx hb dX13_field_104 rfl (lv_at hl 1 rfl) ?_
      refine lv_iconst (v := 5) hx hb dX13_field_105 (by decide) ?_
      refine lv_aload_n hx hb dX13_field_106 rfl (lv_at hl 1 rfl) ?_
      refine va_get (D := (dC, dI)) (ci := 13) (v := .ref qf12) (C := RX13) (T := TX13) (N := 155) hx hb hts uV_h9_X13 hown hK hP 0 rfl rfl 12 (by decide) (hts (.fieldLink RX13 31 "ClassMillModel" "tok" "[I") mw_h9_40) (fun _ h9 => h9) hfh_99_12 dX13_field_107 ?_
      refine lv_iload_n hx hb dX13_field_110 rfl (lv_at hl 2 rfl) ?_
      obtain ⟨hi_24, hsp⟩ := ox_in hsp
      refine va_iald hx hb hK hP 3 2 rfl rfl (i := l1_99) hi_24 dX13_field_111 ?_
      obtain ⟨⟨u8_0, u8_1⟩, hu_8, hsp⟩ := ox_bind hsp
      try dsimp only at hsp
      have hPc := hP.sub (ws' := [(h0, .inr (13, z99)), (qf5, .inl (cf5, 3002, .inl f5))]) [0, 4] rfl
      have hDc := hD.sub (ws' := [(h0, .inr (13, z99)), (qf5, .inl (cf5, 3002, .inl f5))]) [0, 4] (by decide) rfl
      have hKc := hK.sub (tys' := [(cf5, .int)]) [3] rfl
      have hFc := va_free (wc := [(h0, .inr (13, z99)), (qf5, .inl (cf5, 3002, .inl f5))]) hD hS hA [0, 4] rfl
      refine va_callv (va_runV (As := [.int 5, .int (f12 (l1_99 : Int32).toNatClampNeg)]) (rest := []) ⟨hx, hb, hml, hown, hts⟩ (tm_wrong l dC dI H.size h0 z99 5 ((f12 (l1_99 : Int32).toNatClampNeg)) qf5 x9_99 x10_99 cf5 f5 nf u8_0 u8_1 hlh_99 hfh_99_5 hfh_99_9 hfh_99_10 hu_8) (cwV 2 hts gv_h9_18 rfl rfl rfl (by decide +kernel) ⟨Nat.le_of_ble_eq_true rfl, Nat.le_of_ble_eq_true rfl⟩) ⟨fun a U g mk q => by obtain ⟨q0, q1, qP, qK, qD⟩ := q; exact ⟨q0, q1, qP, va_K.moved (u := U) (U := U.calling g mk a) (Vm.Alike.refl U.vm) qK, qD⟩, va_recv hKc hPc (ci := 13) (q0 := 0) rfl rfl, fun U hU hW => ⟨rfl, by rw [hU], by rw [hU]; exact hPc, va_K.moved hW.alike hKc, hDc.weaken (fun _ _ _ _ => trivial)⟩⟩ rfl rfl hl.1 rfl (lv_room (Nat.le_of_ble_eq_true rfl)) dX13_field_112 ⟨Nat.le_of_ble_eq_true rfl, Nat.le_of_ble_eq_true rfl⟩) hS (fun q _ h => hFc q h) hFc ?_
      clear hS
      intro u t H1 locs ht hvm hw hB hz1 hk1 hS
      obtain ⟨z_8, rfl⟩ : ∃ z, z = u := ⟨_, rfl⟩
      obtain ⟨hP1, hK1, hD1⟩ := hB
      rw [ht] at hP1
      have hK1 := va_K.moved hvm.symm hK1
      try dsimp only at hw
      have hPD := va_join (wr := [(qf14, .inl (cf14, 9000, .inl f14)), (qf18, .inl (cf18, 9000, .inl f18)), (qf12, .inl (cf12, 9000, .inl f12)), (qf27, .inl (cf27, 400, .inl f27)), (qf29, .inl (cf29, 800, .inl f29)), (qf30, .inl (cf30, 800, .inl f30)), (qf34, .inl (cf34, 800, .inl f34)), (qf6, .inl (cf6, 3002, .inl f6)), (qf2, .inl (cf2, 3000, .inl f2)), (qf19, .inl (cf19, 9000, .inl g19_99)), (qf16, .inl (cf16, 9000, .inl f16)), (qf35, .inl (cf35, 800, .inl f35))]) (w1 := [(h0, .inr (13, z_8)), (qf5, .inl (cf5, 3002, .inl f5))]) hP hD [0, 4] [1, 2, 3, 5, 6, 7, 8, 9, 10, 11, 12, 13] rfl rfl (by decide) (by decide) hk1 hFc hP1 hD1
      clear hP hD
      obtain ⟨hP, hD⟩ := hPD
      replace hK := (hK.sub (tys' := [(cf14, .int), (cf18, .int), (cf12, .int), (cf27, .int), (cf29, .int), (cf30, .int), (cf34, .int), (cf6, .int), (cf2, .int), (cf19, .int), (cf16, .int), (cf35, .int)]) [0, 1, 2, 4, 5, 6, 7, 8, 9, 10, 11, 12] rfl).app hK1
      clear hPc hDc hKc hFc hP1 hK1 hD1 hz1 hk1 ht hvm
      generalize H1 = H at hP hS ⊢
      replace hP : va_P (dC, dI) vwCl [(qf14, .inl (cf14, 9000, .inl f14)), (qf18, .inl (cf18, 9000, .inl f18)), (qf12, .inl (cf12, 9000, .inl f12)), (qf27, .inl (cf27, 400, .inl f27)), (qf29, .inl (cf29, 800, .inl f29)), (qf30, .inl (cf30, 800, .inl f30)), (qf34, .inl (cf34, 800, .inl f34)), (qf6, .inl (cf6, 3002, .inl f6)), (qf2, .inl (cf2, 3000, .inl f2)), (qf19, .inl (cf19, 9000, .inl g19_99)), (qf16, .inl (cf16, 9000, .inl f16)), (qf35, .inl (cf35, 800, .inl f35)), (h0, .inr (13, z_8)), (qf5, .inl (cf5, 3002, .inl f5))] H := hP
      replace hD : va_D A [(qf14, .inl (cf14, 9000, .inl f14)), (qf18, .inl (cf18, 9000, .inl f18)), (qf12, .inl (cf12, 9000, .inl f12)), (qf27, .inl (cf27, 400, .inl f27)), (qf29, .inl (cf29, 800, .inl f29)), (qf30, .inl (cf30, 800, .inl f30)), (qf34, .inl (cf34, 800, .inl f34)), (qf6, .inl (cf6, 3002, .inl f6)), (qf2, .inl (cf2, 3000, .inl f2)), (qf19, .inl (cf19, 9000, .inl g19_99)), (qf16, .inl (cf16, 9000, .inl f16)), (qf35, .inl (cf35, 800, .inl f35)), (h0, .inr (13, z_8)), (qf5, .inl (cf5, 3002, .inl f5))] := hD
      replace hK : va_K (dC, dI) vwCl [(cf14, .int), (cf18, .int), (cf12, .int), (cf27, .int), (cf29, .int), (cf30, .int), (cf34, .int), (cf6, .int), (cf2, .int), (cf19, .int), (cf16, .int), (cf35, .int), (cf5, .int)] s := hK
      obtain ⟨hwa_8, hln_8, hre_8, hch_8_10, hch_8_9⟩ := hw
      have hfk_8_2 : z_8[2]? = some (.ref qf2) := (hre_8 2 (by decide) (by decide)).trans (hfh_99_2)
      have hfk_8_5 : z_8[5]? = some (.ref qf5) := (hre_8 5 (by decide) (by decide)).trans (hfh_99_5)
      have hfk_8_6 : z_8[6]? = some (.ref qf6) := (hre_8 6 (by decide) (by decide)).trans (hfh_99_6)
      have hfk_8_12 : z_8[12]? = some (.ref qf12) := (hre_8 12 (by decide) (by decide)).trans (hfh_99_12)
      have hfk_8_14 : z_8[14]? = some (.ref qf14) := (hre_8 14 (by decide) (by decide)).trans (hfh_99_14)
      have hfk_8_16 : z_8[16]? = some (.ref qf16) := (hre_8 16 (by decide) (by decide)).trans (hfh_99_16)
      have hfk_8_18 : z_8[18]? = some (.ref qf18) := (hre_8 18 (by decide) (by decide)).trans (hfh_99_18)
      have hfk_8_19 : z_8[19]? = some (.ref qf19) := (hre_8 19 (by decide) (by decide)).trans (hfh_99_19)
      have hfk_8_27 : z_8[27]? = some (.ref qf27) := (hre_8 27 (by decide) (by decide)).trans (hfh_99_27)
      have hfk_8_28 : z_8[28]? = some (.int v28) := (hre_8 28 (by decide) (by decide)).trans (hfh_99_28)
      have hfk_8_29 : z_8[29]? = some (.ref qf29) := (hre_8 29 (by decide) (by decide)).trans (hfh_99_29)
      have hfk_8_30 : z_8[30]? = some (.ref qf30) := (hre_8 30 (by decide) (by decide)).trans (hfh_99_30)
      have hfk_8_34 : z_8[34]? = some (.ref qf34) := (hre_8 34 (by decide) (by decide)).trans (hfh_99_34)
      have hfk_8_35 : z_8[35]? = some (.ref qf35) := (hre_8 35 (by decide) (by decide)).trans (hfh_99_35)
      have hrq_8 : ∀ j : Nat, j ≠ 10 → j ≠ 9 → z_8[j]? = zs[j]? := fun j g10 g9 => (hre_8 j g10 g9).trans (hrh_99 j g10 g9)
      refine lv_iconst (v := 0) hx hb dX13_field_115 (by decide) ?_
      have hr0 := Option.some.inj hsp
      clear hsp
      obtain ⟨hq0, hr1⟩ := Prod.mk.inj hr0
      clear hr0
      obtain ⟨hq1, hr2⟩ := Prod.mk.inj hr1
      clear hr1
      obtain ⟨hq2, hr3⟩ := Prod.mk.inj hr2
      clear hr2
      subst hq0
      subst hq1
      subst hq2
      subst hr3
      have hP9 := hP.sub (ws' := [(h0, .inr (13, z_8)), (qf14, .inl (cf14, 9000, .inl f14)), (qf18, .inl (cf18, 9000, .inl f18)), (qf12, .inl (cf12, 9000, .inl f12)), (qf5, .inl (cf5, 3002, .inl f5)), (qf27, .inl (cf27, 400, .inl f27)), (qf29, .inl (cf29, 800, .inl f29)), (qf30, .inl (cf30, 800, .inl f30)), (qf34, .inl (cf34, 800, .inl f34)), (qf6, .inl (cf6, 3002, .inl f6)), (qf2, .inl (cf2, 3000, .inl f2)), (qf19, .inl (cf19, 9000, .inl g19_99)), (qf16, .inl (cf16, 9000, .inl f16)), (qf35, .inl (cf35, 800, .inl f35))]) [12, 0, 1, 2, 13, 3, 4, 5, 6, 7, 8, 9, 10, 11] rfl
      have hD9 := hD.sub (ws' := [(h0, .inr (13, z_8)), (qf14, .inl (cf14, 9000, .inl f14)), (qf18, .inl (cf18, 9000, .inl f18)), (qf12, .inl (cf12, 9000, .inl f12)), (qf5, .inl (cf5, 3002, .inl f5)), (qf27, .inl (cf27, 400, .inl f27)), (qf29, .inl (cf29, 800, .inl f29)), (qf30, .inl (cf30, 800, .inl f30)), (qf34, .inl (cf34, 800, .inl f34)), (qf6, .inl (cf6, 3002, .inl f6)), (qf2, .inl (cf2, 3000, .inl f2)), (qf19, .inl (cf19, 9000, .inl g19_99)), (qf16, .inl (cf16, 9000, .inl f16)), (qf35, .inl (cf35, 800, .inl f35))]) [12, 0, 1, 2, 13, 3, 4, 5, 6, 7, 8, 9, 10, 11] (by decide) rfl
      have hK9 := hK.sub (tys' := [(cf14, .int), (cf18, .int), (cf12, .int), (cf5, .int), (cf27, .int), (cf29, .int), (cf30, .int), (cf34, .int), (cf6, .int), (cf2, .int), (cf19, .int), (cf16, .int), (cf35, .int)]) [0, 1, 2, 12, 3, 4, 5, 6, 7, 8, 9, 10, 11] rfl
      exact W.iret hx hb hr (fun t ht hW => ⟨⟨(0), (z_8), rfl, ⟨rfl, hln_8, hrq_8, hch_8_10, hch_8_9⟩, by rw [ht]; exact hP9, va_K.moved hW.alike hK9, hD9⟩, hS.F ht⟩) hS.2.2 dX13_field_116
  intro hj_99
  refine jn_use (α := Heap × List Loc × Array Slot × List Value × Int32 × (Nat → Int32) × Int32 × Int32) (fun x9 => x9.1) (fun x9 => x9.2.1) (fun x9 => F0 m 98 x9.2.2.1 []) (fun x9 => match x9 with | (H, locs, ls, z98, l1_98, g19_98, x10_98, x9_98) => lv_has ls 4 [(0, .ref h0), (1, .int l1_98)] ∧ va_S A s.heap H locs ∧ va_D A [(h0, .inr (13, z98)), (qf14, .inl (cf14, 9000, .inl f14)), (qf18, .inl (cf18, 9000, .inl f18)), (qf12, .inl (cf12, 9000, .inl f12)), (qf5, .inl (cf5, 3002, .inl f5)), (qf27, .inl (cf27, 400, .inl f27)), (qf29, .inl (cf29, 800, .inl f29)), (qf30, .inl (cf30, 800, .inl f30)), (qf34, .inl (cf34, 800, .inl f34)), (qf6, .inl (cf6, 3002, .inl f6)), (qf2, .inl (cf2, 3000, .inl f2)), (qf19, .inl (cf19, 9000, .inl g19_98)), (qf16, .inl (cf16, 9000, .inl f16)), (qf35, .inl (cf35, 800, .inl f35))] ∧ va_P (dC, dI) vwCl [(h0, .inr (13, z98)), (qf14, .inl (cf14, 9000, .inl f14)), (qf18, .inl (cf18, 9000, .inl f18)), (qf12, .inl (cf12, 9000, .inl f12)), (qf5, .inl (cf5, 3002, .inl f5)), (qf27, .inl (cf27, 400, .inl f27)), (qf29, .inl (cf29, 800, .inl f29)), (qf30, .inl (cf30, 800, .inl f30)), (qf34, .inl (cf34, 800, .inl f34)), (qf6, .inl (cf6, 3002, .inl f6)), (qf2, .inl (cf2, 3000, .inl f2)), (qf19, .inl (cf19, 9000, .inl g19_98)), (qf16, .inl (cf16, 9000, .inl f16)), (qf35, .inl (cf35, 800, .inl f35))] H ∧ z98[2]? = some (.ref qf2) ∧ z98[5]? = some (.ref qf5) ∧ z98[6]? = some (.ref qf6) ∧ z98[9]? = some (.int x9_98) ∧ z98[10]? = some (.int x10_98) ∧ z98[12]? = some (.ref qf12) ∧ z98[14]? = some (.ref qf14) ∧ z98[16]? = some (.ref qf16) ∧ z98[18]? = some (.ref qf18) ∧ z98[19]? = some (.ref qf19) ∧ z98[27]? = some (.ref qf27) ∧ z98[28]? = some (.int v28) ∧ z98[29]? = some (.ref qf29) ∧ z98[30]? = some (.ref qf30) ∧ z98[34]? = some (.ref qf34) ∧ z98[35]? = some (.ref qf35) ∧ z98.length = 155 ∧ (∀ j : Nat, j ≠ 10 → j ≠ 9 → z98[j]? = zs[j]?) ∧ jn_vm_field_98 nf a1 v9 v10 v28 f14 f18 f12 f5 f27 f29 f30 f34 f6 f2 f19 f16 f35 nS588 fS588 l1_98 g19_98 x10_98 x9_98 = some (r0, o19, w10, w9)) ?_ ?_
  · intro x9 hJ9
    obtain ⟨H, locs, ls, z98, l1_98, g19_98, x10_98, x9_98⟩ := x9
    obtain ⟨hl, hS, hD, hP, hfh_98_2, hfh_98_5, hfh_98_6, hfh_98_9, hfh_98_10, hfh_98_12, hfh_98_14, hfh_98_16, hfh_98_18, hfh_98_19, hfh_98_27, hfh_98_28, hfh_98_29, hfh_98_30, hfh_98_34, hfh_98_35, hlh_98, hrh_98, hsp⟩ := hJ9
    replace hl : lv_has ls 4 [(0, .ref h0), (1, .int l1_98)] := hl
    replace hS : va_S A s.heap H locs := hS
    replace hD : va_D A [(h0, .inr (13, z98)), (qf14, .inl (cf14, 9000, .inl f14)), (qf18, .inl (cf18, 9000, .inl f18)), (qf12, .inl (cf12, 9000, .inl f12)), (qf5, .inl (cf5, 3002, .inl f5)), (qf27, .inl (cf27, 400, .inl f27)), (qf29, .inl (cf29, 800, .inl f29)), (qf30, .inl (cf30, 800, .inl f30)), (qf34, .inl (cf34, 800, .inl f34)), (qf6, .inl (cf6, 3002, .inl f6)), (qf2, .inl (cf2, 3000, .inl f2)), (qf19, .inl (cf19, 9000, .inl g19_98)), (qf16, .inl (cf16, 9000, .inl f16)), (qf35, .inl (cf35, 800, .inl f35))] := hD
    replace hP : va_P (dC, dI) vwCl [(h0, .inr (13, z98)), (qf14, .inl (cf14, 9000, .inl f14)), (qf18, .inl (cf18, 9000, .inl f18)), (qf12, .inl (cf12, 9000, .inl f12)), (qf5, .inl (cf5, 3002, .inl f5)), (qf27, .inl (cf27, 400, .inl f27)), (qf29, .inl (cf29, 800, .inl f29)), (qf30, .inl (cf30, 800, .inl f30)), (qf34, .inl (cf34, 800, .inl f34)), (qf6, .inl (cf6, 3002, .inl f6)), (qf2, .inl (cf2, 3000, .inl f2)), (qf19, .inl (cf19, 9000, .inl g19_98)), (qf16, .inl (cf16, 9000, .inl f16)), (qf35, .inl (cf35, 800, .inl f35))] H := hP
    replace hsp : jn_vm_field_98 nf a1 v9 v10 v28 f14 f18 f12 f5 f27 f29 f30 f34 f6 f2 f19 f16 f35 nS588 fS588 l1_98 g19_98 x10_98 x9_98 = some (r0, o19, w10, w9) := hsp
    show W _ _ _ _ _ _ _ _ _ _ H locs _ _ _ (F0 m 98 ls [])
    unfold jn_vm_field_98 at hsp
    try dsimp only at hsp
    refine lv_iconst (v := 0) hx hb dX13_field_98 (by decide) ?_
    exact hj_99 (H, locs, ls, z98, l1_98, 0, g19_98, x10_98, x9_98) ⟨lv_sub hl [0, 1] rfl, hS, hD.sub (ws' := [(h0, .inr (13, z98)), (qf14, .inl (cf14, 9000, .inl f14)), (qf18, .inl (cf18, 9000, .inl f18)), (qf12, .inl (cf12, 9000, .inl f12)), (qf5, .inl (cf5, 3002, .inl f5)), (qf27, .inl (cf27, 400, .inl f27)), (qf29, .inl (cf29, 800, .inl f29)), (qf30, .inl (cf30, 800, .inl f30)), (qf34, .inl (cf34, 800, .inl f34)), (qf6, .inl (cf6, 3002, .inl f6)), (qf2, .inl (cf2, 3000, .inl f2)), (qf19, .inl (cf19, 9000, .inl g19_98)), (qf16, .inl (cf16, 9000, .inl f16)), (qf35, .inl (cf35, 800, .inl f35))]) [0, 1, 2, 3, 4, 5, 6, 7, 8, 9, 10, 11, 12, 13] (by decide) rfl, hP.sub (ws' := [(h0, .inr (13, z98)), (qf14, .inl (cf14, 9000, .inl f14)), (qf18, .inl (cf18, 9000, .inl f18)), (qf12, .inl (cf12, 9000, .inl f12)), (qf5, .inl (cf5, 3002, .inl f5)), (qf27, .inl (cf27, 400, .inl f27)), (qf29, .inl (cf29, 800, .inl f29)), (qf30, .inl (cf30, 800, .inl f30)), (qf34, .inl (cf34, 800, .inl f34)), (qf6, .inl (cf6, 3002, .inl f6)), (qf2, .inl (cf2, 3000, .inl f2)), (qf19, .inl (cf19, 9000, .inl g19_98)), (qf16, .inl (cf16, 9000, .inl f16)), (qf35, .inl (cf35, 800, .inl f35))]) [0, 1, 2, 3, 4, 5, 6, 7, 8, 9, 10, 11, 12, 13] rfl, hfh_98_2, hfh_98_5, hfh_98_6, hfh_98_9, hfh_98_10, hfh_98_12, hfh_98_14, hfh_98_16, hfh_98_18, hfh_98_19, hfh_98_27, hfh_98_28, hfh_98_29, hfh_98_30, hfh_98_34, hfh_98_35, hlh_98, hrh_98, hsp⟩
  intro hj_98
  refine jn_use (α := Heap × List Loc × Array Slot × List Value × Int32 × (Nat → Int32) × Int32 × Int32) (fun x9 => x9.1) (fun x9 => x9.2.1) (fun x9 => F0 m 27 x9.2.2.1 []) (fun x9 => match x9 with | (H, locs, ls, z27, l1_27, g19_27, x10_27, x9_27) => lv_has ls 4 [(0, .ref h0), (1, .int l1_27)] ∧ va_S A s.heap H locs ∧ va_D A [(h0, .inr (13, z27)), (qf14, .inl (cf14, 9000, .inl f14)), (qf18, .inl (cf18, 9000, .inl f18)), (qf12, .inl (cf12, 9000, .inl f12)), (qf5, .inl (cf5, 3002, .inl f5)), (qf27, .inl (cf27, 400, .inl f27)), (qf29, .inl (cf29, 800, .inl f29)), (qf30, .inl (cf30, 800, .inl f30)), (qf34, .inl (cf34, 800, .inl f34)), (qf6, .inl (cf6, 3002, .inl f6)), (qf2, .inl (cf2, 3000, .inl f2)), (qf19, .inl (cf19, 9000, .inl g19_27)), (qf16, .inl (cf16, 9000, .inl f16)), (qf35, .inl (cf35, 800, .inl f35))] ∧ va_P (dC, dI) vwCl [(h0, .inr (13, z27)), (qf14, .inl (cf14, 9000, .inl f14)), (qf18, .inl (cf18, 9000, .inl f18)), (qf12, .inl (cf12, 9000, .inl f12)), (qf5, .inl (cf5, 3002, .inl f5)), (qf27, .inl (cf27, 400, .inl f27)), (qf29, .inl (cf29, 800, .inl f29)), (qf30, .inl (cf30, 800, .inl f30)), (qf34, .inl (cf34, 800, .inl f34)), (qf6, .inl (cf6, 3002, .inl f6)), (qf2, .inl (cf2, 3000, .inl f2)), (qf19, .inl (cf19, 9000, .inl g19_27)), (qf16, .inl (cf16, 9000, .inl f16)), (qf35, .inl (cf35, 800, .inl f35))] H ∧ z27[2]? = some (.ref qf2) ∧ z27[5]? = some (.ref qf5) ∧ z27[6]? = some (.ref qf6) ∧ z27[9]? = some (.int x9_27) ∧ z27[10]? = some (.int x10_27) ∧ z27[12]? = some (.ref qf12) ∧ z27[14]? = some (.ref qf14) ∧ z27[16]? = some (.ref qf16) ∧ z27[18]? = some (.ref qf18) ∧ z27[19]? = some (.ref qf19) ∧ z27[27]? = some (.ref qf27) ∧ z27[28]? = some (.int v28) ∧ z27[29]? = some (.ref qf29) ∧ z27[30]? = some (.ref qf30) ∧ z27[34]? = some (.ref qf34) ∧ z27[35]? = some (.ref qf35) ∧ z27.length = 155 ∧ (∀ j : Nat, j ≠ 10 → j ≠ 9 → z27[j]? = zs[j]?) ∧ jn_vm_field_27 nf a1 v9 v10 v28 f14 f18 f12 f5 f27 f29 f30 f34 f6 f2 f19 f16 f35 nS588 fS588 l1_27 g19_27 x10_27 x9_27 = some (r0, o19, w10, w9)) ?_ ?_
  · intro x9 hJ9
    obtain ⟨H, locs, ls, z27, l1_27, g19_27, x10_27, x9_27⟩ := x9
    obtain ⟨hl, hS, hD, hP, hfh_27_2, hfh_27_5, hfh_27_6, hfh_27_9, hfh_27_10, hfh_27_12, hfh_27_14, hfh_27_16, hfh_27_18, hfh_27_19, hfh_27_27, hfh_27_28, hfh_27_29, hfh_27_30, hfh_27_34, hfh_27_35, hlh_27, hrh_27, hsp⟩ := hJ9
    replace hl : lv_has ls 4 [(0, .ref h0), (1, .int l1_27)] := hl
    replace hS : va_S A s.heap H locs := hS
    replace hD : va_D A [(h0, .inr (13, z27)), (qf14, .inl (cf14, 9000, .inl f14)), (qf18, .inl (cf18, 9000, .inl f18)), (qf12, .inl (cf12, 9000, .inl f12)), (qf5, .inl (cf5, 3002, .inl f5)), (qf27, .inl (cf27, 400, .inl f27)), (qf29, .inl (cf29, 800, .inl f29)), (qf30, .inl (cf30, 800, .inl f30)), (qf34, .inl (cf34, 800, .inl f34)), (qf6, .inl (cf6, 3002, .inl f6)), (qf2, .inl (cf2, 3000, .inl f2)), (qf19, .inl (cf19, 9000, .inl g19_27)), (qf16, .inl (cf16, 9000, .inl f16)), (qf35, .inl (cf35, 800, .inl f35))] := hD
    replace hP : va_P (dC, dI) vwCl [(h0, .inr (13, z27)), (qf14, .inl (cf14, 9000, .inl f14)), (qf18, .inl (cf18, 9000, .inl f18)), (qf12, .inl (cf12, 9000, .inl f12)), (qf5, .inl (cf5, 3002, .inl f5)), (qf27, .inl (cf27, 400, .inl f27)), (qf29, .inl (cf29, 800, .inl f29)), (qf30, .inl (cf30, 800, .inl f30)), (qf34, .inl (cf34, 800, .inl f34)), (qf6, .inl (cf6, 3002, .inl f6)), (qf2, .inl (cf2, 3000, .inl f2)), (qf19, .inl (cf19, 9000, .inl g19_27)), (qf16, .inl (cf16, 9000, .inl f16)), (qf35, .inl (cf35, 800, .inl f35))] H := hP
    replace hsp : jn_vm_field_27 nf a1 v9 v10 v28 f14 f18 f12 f5 f27 f29 f30 f34 f6 f2 f19 f16 f35 nS588 fS588 l1_27 g19_27 x10_27 x9_27 = some (r0, o19, w10, w9) := hsp
    show W _ _ _ _ _ _ _ _ _ _ H locs _ _ _ (F0 m 27 ls [])
    unfold jn_vm_field_27 at hsp
    try dsimp only at hsp
    refine lv_aload_n hx hb dX13_field_27 rfl (lv_at hl 0 rfl) ?_
    refine lv_bipush (v := 6) hx hb dX13_field_28 (by decide) ?_
    refine lv_aload_n hx hb dX13_field_30 rfl (lv_at hl 0 rfl) ?_
    refine va_get (D := (dC, dI)) (ci := 13) (v := .ref qf16) (C := RX13) (T := TX13) (N := 155) hx hb hts uV_h9_X13 hown hK hP 0 rfl rfl 16 (by decide) (hts (.fieldLink RX13 43 "ClassMillModel" "three" "[I") mw_h9_44) (fun _ h9 => h9) hfh_27_16 dX13_field_31 ?_
    refine lv_iload_n hx hb dX13_field_34 rfl (lv_at hl 1 rfl) ?_
    obtain ⟨hi_22, hsp⟩ := ox_in hsp
    refine va_iald hx hb hK hP 12 11 rfl rfl (i := l1_27) hi_22 dX13_field_35 ?_
    obtain ⟨⟨u7_0, u7_1⟩, hu_7, hsp⟩ := ox_bind hsp
    try dsimp only at hsp
    have hPc := hP.sub (ws' := [(h0, .inr (13, z27)), (qf5, .inl (cf5, 3002, .inl f5))]) [0, 4] rfl
    have hDc := hD.sub (ws' := [(h0, .inr (13, z27)), (qf5, .inl (cf5, 3002, .inl f5))]) [0, 4] (by decide) rfl
    have hKc := hK.sub (tys' := [(cf5, .int)]) [3] rfl
    have hFc := va_free (wc := [(h0, .inr (13, z27)), (qf5, .inl (cf5, 3002, .inl f5))]) hD hS hA [0, 4] rfl
    refine va_callv (va_runV (As := [.int 6, .int (f16 (l1_27 : Int32).toNatClampNeg)]) (rest := []) ⟨hx, hb, hml, hown, hts⟩ (tm_wrong l dC dI H.size h0 z27 6 ((f16 (l1_27 : Int32).toNatClampNeg)) qf5 x9_27 x10_27 cf5 f5 nf u7_0 u7_1 hlh_27 hfh_27_5 hfh_27_9 hfh_27_10 hu_7) (cwV 2 hts gv_h9_18 rfl rfl rfl (by decide +kernel) ⟨Nat.le_of_ble_eq_true rfl, Nat.le_of_ble_eq_true rfl⟩) ⟨fun a U g mk q => by obtain ⟨q0, q1, qP, qK, qD⟩ := q; exact ⟨q0, q1, qP, va_K.moved (u := U) (U := U.calling g mk a) (Vm.Alike.refl U.vm) qK, qD⟩, va_recv hKc hPc (ci := 13) (q0 := 0) rfl rfl, fun U hU hW => ⟨rfl, by rw [hU], by rw [hU]; exact hPc, va_K.moved hW.alike hKc, hDc.weaken (fun _ _ _ _ => trivial)⟩⟩ rfl rfl hl.1 rfl (lv_room (Nat.le_of_ble_eq_true rfl)) dX13_field_36 ⟨Nat.le_of_ble_eq_true rfl, Nat.le_of_ble_eq_true rfl⟩) hS (fun q _ h => hFc q h) hFc ?_
    clear hS
    intro u t H1 locs ht hvm hw hB hz1 hk1 hS
    obtain ⟨z_7, rfl⟩ : ∃ z, z = u := ⟨_, rfl⟩
    obtain ⟨hP1, hK1, hD1⟩ := hB
    rw [ht] at hP1
    have hK1 := va_K.moved hvm.symm hK1
    try dsimp only at hw
    have hPD := va_join (wr := [(qf14, .inl (cf14, 9000, .inl f14)), (qf18, .inl (cf18, 9000, .inl f18)), (qf12, .inl (cf12, 9000, .inl f12)), (qf27, .inl (cf27, 400, .inl f27)), (qf29, .inl (cf29, 800, .inl f29)), (qf30, .inl (cf30, 800, .inl f30)), (qf34, .inl (cf34, 800, .inl f34)), (qf6, .inl (cf6, 3002, .inl f6)), (qf2, .inl (cf2, 3000, .inl f2)), (qf19, .inl (cf19, 9000, .inl g19_27)), (qf16, .inl (cf16, 9000, .inl f16)), (qf35, .inl (cf35, 800, .inl f35))]) (w1 := [(h0, .inr (13, z_7)), (qf5, .inl (cf5, 3002, .inl f5))]) hP hD [0, 4] [1, 2, 3, 5, 6, 7, 8, 9, 10, 11, 12, 13] rfl rfl (by decide) (by decide) hk1 hFc hP1 hD1
    clear hP hD
    obtain ⟨hP, hD⟩ := hPD
    replace hK := (hK.sub (tys' := [(cf14, .int), (cf18, .int), (cf12, .int), (cf27, .int), (cf29, .int), (cf30, .int), (cf34, .int), (cf6, .int), (cf2, .int), (cf19, .int), (cf16, .int), (cf35, .int)]) [0, 1, 2, 4, 5, 6, 7, 8, 9, 10, 11, 12] rfl).app hK1
    clear hPc hDc hKc hFc hP1 hK1 hD1 hz1 hk1 ht hvm
    generalize H1 = H at hP hS ⊢
    replace hP : va_P (dC, dI) vwCl [(qf14, .inl (cf14, 9000, .inl f14)), (qf18, .inl (cf18, 9000, .inl f18)), (qf12, .inl (cf12, 9000, .inl f12)), (qf27, .inl (cf27, 400, .inl f27)), (qf29, .inl (cf29, 800, .inl f29)), (qf30, .inl (cf30, 800, .inl f30)), (qf34, .inl (cf34, 800, .inl f34)), (qf6, .inl (cf6, 3002, .inl f6)), (qf2, .inl (cf2, 3000, .inl f2)), (qf19, .inl (cf19, 9000, .inl g19_27)), (qf16, .inl (cf16, 9000, .inl f16)), (qf35, .inl (cf35, 800, .inl f35)), (h0, .inr (13, z_7)), (qf5, .inl (cf5, 3002, .inl f5))] H := hP
    replace hD : va_D A [(qf14, .inl (cf14, 9000, .inl f14)), (qf18, .inl (cf18, 9000, .inl f18)), (qf12, .inl (cf12, 9000, .inl f12)), (qf27, .inl (cf27, 400, .inl f27)), (qf29, .inl (cf29, 800, .inl f29)), (qf30, .inl (cf30, 800, .inl f30)), (qf34, .inl (cf34, 800, .inl f34)), (qf6, .inl (cf6, 3002, .inl f6)), (qf2, .inl (cf2, 3000, .inl f2)), (qf19, .inl (cf19, 9000, .inl g19_27)), (qf16, .inl (cf16, 9000, .inl f16)), (qf35, .inl (cf35, 800, .inl f35)), (h0, .inr (13, z_7)), (qf5, .inl (cf5, 3002, .inl f5))] := hD
    replace hK : va_K (dC, dI) vwCl [(cf14, .int), (cf18, .int), (cf12, .int), (cf27, .int), (cf29, .int), (cf30, .int), (cf34, .int), (cf6, .int), (cf2, .int), (cf19, .int), (cf16, .int), (cf35, .int), (cf5, .int)] s := hK
    obtain ⟨hwa_7, hln_7, hre_7, hch_7_10, hch_7_9⟩ := hw
    have hfk_7_2 : z_7[2]? = some (.ref qf2) := (hre_7 2 (by decide) (by decide)).trans (hfh_27_2)
    have hfk_7_5 : z_7[5]? = some (.ref qf5) := (hre_7 5 (by decide) (by decide)).trans (hfh_27_5)
    have hfk_7_6 : z_7[6]? = some (.ref qf6) := (hre_7 6 (by decide) (by decide)).trans (hfh_27_6)
    have hfk_7_12 : z_7[12]? = some (.ref qf12) := (hre_7 12 (by decide) (by decide)).trans (hfh_27_12)
    have hfk_7_14 : z_7[14]? = some (.ref qf14) := (hre_7 14 (by decide) (by decide)).trans (hfh_27_14)
    have hfk_7_16 : z_7[16]? = some (.ref qf16) := (hre_7 16 (by decide) (by decide)).trans (hfh_27_16)
    have hfk_7_18 : z_7[18]? = some (.ref qf18) := (hre_7 18 (by decide) (by decide)).trans (hfh_27_18)
    have hfk_7_19 : z_7[19]? = some (.ref qf19) := (hre_7 19 (by decide) (by decide)).trans (hfh_27_19)
    have hfk_7_27 : z_7[27]? = some (.ref qf27) := (hre_7 27 (by decide) (by decide)).trans (hfh_27_27)
    have hfk_7_28 : z_7[28]? = some (.int v28) := (hre_7 28 (by decide) (by decide)).trans (hfh_27_28)
    have hfk_7_29 : z_7[29]? = some (.ref qf29) := (hre_7 29 (by decide) (by decide)).trans (hfh_27_29)
    have hfk_7_30 : z_7[30]? = some (.ref qf30) := (hre_7 30 (by decide) (by decide)).trans (hfh_27_30)
    have hfk_7_34 : z_7[34]? = some (.ref qf34) := (hre_7 34 (by decide) (by decide)).trans (hfh_27_34)
    have hfk_7_35 : z_7[35]? = some (.ref qf35) := (hre_7 35 (by decide) (by decide)).trans (hfh_27_35)
    have hrq_7 : ∀ j : Nat, j ≠ 10 → j ≠ 9 → z_7[j]? = zs[j]? := fun j g10 g9 => (hre_7 j g10 g9).trans (hrh_27 j g10 g9)
    refine lv_iconst (v := 0) hx hb dX13_field_39 (by decide) ?_
    have hr0 := Option.some.inj hsp
    clear hsp
    obtain ⟨hq0, hr1⟩ := Prod.mk.inj hr0
    clear hr0
    obtain ⟨hq1, hr2⟩ := Prod.mk.inj hr1
    clear hr1
    obtain ⟨hq2, hr3⟩ := Prod.mk.inj hr2
    clear hr2
    subst hq0
    subst hq1
    subst hq2
    subst hr3
    have hP9 := hP.sub (ws' := [(h0, .inr (13, z_7)), (qf14, .inl (cf14, 9000, .inl f14)), (qf18, .inl (cf18, 9000, .inl f18)), (qf12, .inl (cf12, 9000, .inl f12)), (qf5, .inl (cf5, 3002, .inl f5)), (qf27, .inl (cf27, 400, .inl f27)), (qf29, .inl (cf29, 800, .inl f29)), (qf30, .inl (cf30, 800, .inl f30)), (qf34, .inl (cf34, 800, .inl f34)), (qf6, .inl (cf6, 3002, .inl f6)), (qf2, .inl (cf2, 3000, .inl f2)), (qf19, .inl (cf19, 9000, .inl g19_27)), (qf16, .inl (cf16, 9000, .inl f16)), (qf35, .inl (cf35, 800, .inl f35))]) [12, 0, 1, 2, 13, 3, 4, 5, 6, 7, 8, 9, 10, 11] rfl
    have hD9 := hD.sub (ws' := [(h0, .inr (13, z_7)), (qf14, .inl (cf14, 9000, .inl f14)), (qf18, .inl (cf18, 9000, .inl f18)), (qf12, .inl (cf12, 9000, .inl f12)), (qf5, .inl (cf5, 3002, .inl f5)), (qf27, .inl (cf27, 400, .inl f27)), (qf29, .inl (cf29, 800, .inl f29)), (qf30, .inl (cf30, 800, .inl f30)), (qf34, .inl (cf34, 800, .inl f34)), (qf6, .inl (cf6, 3002, .inl f6)), (qf2, .inl (cf2, 3000, .inl f2)), (qf19, .inl (cf19, 9000, .inl g19_27)), (qf16, .inl (cf16, 9000, .inl f16)), (qf35, .inl (cf35, 800, .inl f35))]) [12, 0, 1, 2, 13, 3, 4, 5, 6, 7, 8, 9, 10, 11] (by decide) rfl
    have hK9 := hK.sub (tys' := [(cf14, .int), (cf18, .int), (cf12, .int), (cf5, .int), (cf27, .int), (cf29, .int), (cf30, .int), (cf34, .int), (cf6, .int), (cf2, .int), (cf19, .int), (cf16, .int), (cf35, .int)]) [0, 1, 2, 12, 3, 4, 5, 6, 7, 8, 9, 10, 11] rfl
    exact W.iret hx hb hr (fun t ht hW => ⟨⟨(0), (z_7), rfl, ⟨rfl, hln_7, hrq_7, hch_7_10, hch_7_9⟩, by rw [ht]; exact hP9, va_K.moved hW.alike hK9, hD9⟩, hS.F ht⟩) hS.2.2 dX13_field_40
  intro hj_27
  refine lv_aload_n hx hb dX13_field_0 rfl (lv_at hl 0 rfl) ?_
  refine lv_iload_n hx hb dX13_field_1 rfl (lv_at hl 1 rfl) ?_
  obtain ⟨⟨u1_0, u1_1, u1_2⟩, hu_1, hsp⟩ := ox_bind hsp
  try dsimp only at hsp
  have hPc := hP.sub (ws' := [(h0, .inr (13, zs)), (qf14, .inl (cf14, 9000, .inl f14)), (qf18, .inl (cf18, 9000, .inl f18)), (qf12, .inl (cf12, 9000, .inl f12)), (qf5, .inl (cf5, 3002, .inl f5))]) [0, 1, 2, 3, 4] rfl
  have hDc := hD.sub (ws' := [(h0, .inr (13, zs)), (qf14, .inl (cf14, 9000, .inl f14)), (qf18, .inl (cf18, 9000, .inl f18)), (qf12, .inl (cf12, 9000, .inl f12)), (qf5, .inl (cf5, 3002, .inl f5))]) [0, 1, 2, 3, 4] (by decide) rfl
  have hKc := hK.sub (tys' := [(cf14, .int), (cf18, .int), (cf12, .int), (cf5, .int)]) [0, 1, 2, 3] rfl
  have hFc := va_free (wc := [(h0, .inr (13, zs)), (qf14, .inl (cf14, 9000, .inl f14)), (qf18, .inl (cf18, 9000, .inl f18)), (qf12, .inl (cf12, 9000, .inl f12)), (qf5, .inl (cf5, 3002, .inl f5))]) hD hS hA [0, 1, 2, 3, 4] rfl
  refine va_calli (va_runV (As := [.int a1]) (rest := []) ⟨hx, hb, hml, hown, hts⟩ (tm_led l dC dI H.size h0 zs a1 qf5 v9 v10 qf12 qf14 qf18 cf14 f14 cf18 f18 cf12 f12 cf5 f5 nf u1_0 u1_1 u1_2 hlen hf5 hf9 hf10 hf12 hf14 hf18 hu_1) (cwV 1 hts gv_h9_24 rfl rfl rfl (by decide +kernel) ⟨Nat.le_of_ble_eq_true rfl, Nat.le_of_ble_eq_true rfl⟩) ⟨fun a U g mk q => by obtain ⟨q0, q1, qP, qK, qD⟩ := q; exact ⟨q0, q1, qP, va_K.moved (u := U) (U := U.calling g mk a) (Vm.Alike.refl U.vm) qK, qD⟩, va_recv hKc hPc (ci := 13) (q0 := 0) rfl rfl, fun U hU hW => ⟨rfl, by rw [hU], by rw [hU]; exact hPc, va_K.moved hW.alike hKc, hDc.weaken (fun _ _ _ _ => trivial)⟩⟩ rfl rfl hl.1 rfl (lv_room (Nat.le_of_ble_eq_true rfl)) dX13_field_2 ⟨Nat.le_of_ble_eq_true rfl, Nat.le_of_ble_eq_true rfl⟩) hS (fun q _ h => hFc q h) hFc ?_
  clear hS
  intro r_1 u t H1 locs ht hvm hw hB hz1 hk1 hS
  obtain ⟨z_1, rfl⟩ : ∃ z, z = u := ⟨_, rfl⟩
  obtain ⟨hP1, hK1, hD1⟩ := hB
  rw [ht] at hP1
  have hK1 := va_K.moved hvm.symm hK1
  try dsimp only at hw
  have hPD := va_join (wr := [(qf27, .inl (cf27, 400, .inl f27)), (qf29, .inl (cf29, 800, .inl f29)), (qf30, .inl (cf30, 800, .inl f30)), (qf34, .inl (cf34, 800, .inl f34)), (qf6, .inl (cf6, 3002, .inl f6)), (qf2, .inl (cf2, 3000, .inl f2)), (qf19, .inl (cf19, 9000, .inl f19)), (qf16, .inl (cf16, 9000, .inl f16)), (qf35, .inl (cf35, 800, .inl f35))]) (w1 := [(h0, .inr (13, z_1)), (qf14, .inl (cf14, 9000, .inl f14)), (qf18, .inl (cf18, 9000, .inl f18)), (qf12, .inl (cf12, 9000, .inl f12)), (qf5, .inl (cf5, 3002, .inl f5))]) hP hD [0, 1, 2, 3, 4] [5, 6, 7, 8, 9, 10, 11, 12, 13] rfl rfl (by decide) (by decide) hk1 hFc hP1 hD1
  clear hP hD
  obtain ⟨hP, hD⟩ := hPD
  replace hK := (hK.sub (tys' := [(cf27, .int), (cf29, .int), (cf30, .int), (cf34, .int), (cf6, .int), (cf2, .int), (cf19, .int), (cf16, .int), (cf35, .int)]) [4, 5, 6, 7, 8, 9, 10, 11, 12] rfl).app hK1
  clear hPc hDc hKc hFc hP1 hK1 hD1 hz1 hk1 ht hvm
  generalize H1 = H at hP hS ⊢
  replace hP : va_P (dC, dI) vwCl [(qf27, .inl (cf27, 400, .inl f27)), (qf29, .inl (cf29, 800, .inl f29)), (qf30, .inl (cf30, 800, .inl f30)), (qf34, .inl (cf34, 800, .inl f34)), (qf6, .inl (cf6, 3002, .inl f6)), (qf2, .inl (cf2, 3000, .inl f2)), (qf19, .inl (cf19, 9000, .inl f19)), (qf16, .inl (cf16, 9000, .inl f16)), (qf35, .inl (cf35, 800, .inl f35)), (h0, .inr (13, z_1)), (qf14, .inl (cf14, 9000, .inl f14)), (qf18, .inl (cf18, 9000, .inl f18)), (qf12, .inl (cf12, 9000, .inl f12)), (qf5, .inl (cf5, 3002, .inl f5))] H := hP
  replace hD : va_D A [(qf27, .inl (cf27, 400, .inl f27)), (qf29, .inl (cf29, 800, .inl f29)), (qf30, .inl (cf30, 800, .inl f30)), (qf34, .inl (cf34, 800, .inl f34)), (qf6, .inl (cf6, 3002, .inl f6)), (qf2, .inl (cf2, 3000, .inl f2)), (qf19, .inl (cf19, 9000, .inl f19)), (qf16, .inl (cf16, 9000, .inl f16)), (qf35, .inl (cf35, 800, .inl f35)), (h0, .inr (13, z_1)), (qf14, .inl (cf14, 9000, .inl f14)), (qf18, .inl (cf18, 9000, .inl f18)), (qf12, .inl (cf12, 9000, .inl f12)), (qf5, .inl (cf5, 3002, .inl f5))] := hD
  replace hK : va_K (dC, dI) vwCl [(cf27, .int), (cf29, .int), (cf30, .int), (cf34, .int), (cf6, .int), (cf2, .int), (cf19, .int), (cf16, .int), (cf35, .int), (cf14, .int), (cf18, .int), (cf12, .int), (cf5, .int)] s := hK
  obtain ⟨hwa_1, hln_1, hre_1, hch_1_10, hch_1_9⟩ := hw
  have hfk_1_2 : z_1[2]? = some (.ref qf2) := (hre_1 2 (by decide) (by decide)).trans (hf2)
  have hfk_1_5 : z_1[5]? = some (.ref qf5) := (hre_1 5 (by decide) (by decide)).trans (hf5)
  have hfk_1_6 : z_1[6]? = some (.ref qf6) := (hre_1 6 (by decide) (by decide)).trans (hf6)
  have hfk_1_12 : z_1[12]? = some (.ref qf12) := (hre_1 12 (by decide) (by decide)).trans (hf12)
  have hfk_1_14 : z_1[14]? = some (.ref qf14) := (hre_1 14 (by decide) (by decide)).trans (hf14)
  have hfk_1_16 : z_1[16]? = some (.ref qf16) := (hre_1 16 (by decide) (by decide)).trans (hf16)
  have hfk_1_18 : z_1[18]? = some (.ref qf18) := (hre_1 18 (by decide) (by decide)).trans (hf18)
  have hfk_1_19 : z_1[19]? = some (.ref qf19) := (hre_1 19 (by decide) (by decide)).trans (hf19)
  have hfk_1_27 : z_1[27]? = some (.ref qf27) := (hre_1 27 (by decide) (by decide)).trans (hf27)
  have hfk_1_28 : z_1[28]? = some (.int v28) := (hre_1 28 (by decide) (by decide)).trans (hf28)
  have hfk_1_29 : z_1[29]? = some (.ref qf29) := (hre_1 29 (by decide) (by decide)).trans (hf29)
  have hfk_1_30 : z_1[30]? = some (.ref qf30) := (hre_1 30 (by decide) (by decide)).trans (hf30)
  have hfk_1_34 : z_1[34]? = some (.ref qf34) := (hre_1 34 (by decide) (by decide)).trans (hf34)
  have hfk_1_35 : z_1[35]? = some (.ref qf35) := (hre_1 35 (by decide) (by decide)).trans (hf35)
  have hrq_1 : ∀ j : Nat, j ≠ 10 → j ≠ 9 → z_1[j]? = zs[j]? := fun j g10 g9 => (hre_1 j g10 g9).trans (hrs0 j g10 g9)
  obtain rfl := hwa_1
  refine lv_istore_n (lv' := [(2, .int u1_0), (0, .ref h0), (1, .int a1)]) hx hb dX13_field_5 rfl hl (by decide) rfl (fun ls hl => ?_)
  refine lv_aload_n hx hb dX13_field_6 rfl (lv_at hl 1 rfl) ?_
  refine va_get (D := (dC, dI)) (ci := 13) (v := .int u1_2) (C := RX13) (T := TX13) (N := 155) hx hb hts uV_h9_X13 hown hK hP 9 rfl rfl 9 (by decide) (hts (.fieldLink RX13 319 "ClassMillModel" "fault" "I") mw_h9_66) (fun _ h9 => h9) hch_1_9 dX13_field_7 ?_
  refine lv_if_eq (tgt := 15) hx hb dX13_field_10 (by decide) (fun c_2 => ?_) (fun c_2 => ?_)
  · rw [if_pos c_2] at hsp
    refine lv_iload_n hx hb dX13_field_15 rfl (lv_at hl 0 rfl) ?_
    refine lv_iconst (v := 2) hx hb dX13_field_16 (by decide) ?_
    refine lv_icmp_eq (tgt := 27) hx hb dX13_field_17 (by decide) (fun c_3 => ?_) (fun c_3 => ?_)
    · rw [if_pos c_3] at hsp
      exact hj_27 (H, locs, ls, z_1, a1, f19, u1_1, u1_2) ⟨lv_sub hl [1, 2] rfl, hS, hD.sub (ws' := [(h0, .inr (13, z_1)), (qf14, .inl (cf14, 9000, .inl f14)), (qf18, .inl (cf18, 9000, .inl f18)), (qf12, .inl (cf12, 9000, .inl f12)), (qf5, .inl (cf5, 3002, .inl f5)), (qf27, .inl (cf27, 400, .inl f27)), (qf29, .inl (cf29, 800, .inl f29)), (qf30, .inl (cf30, 800, .inl f30)), (qf34, .inl (cf34, 800, .inl f34)), (qf6, .inl (cf6, 3002, .inl f6)), (qf2, .inl (cf2, 3000, .inl f2)), (qf19, .inl (cf19, 9000, .inl f19)), (qf16, .inl (cf16, 9000, .inl f16)), (qf35, .inl (cf35, 800, .inl f35))]) [9, 10, 11, 12, 13, 0, 1, 2, 3, 4, 5, 6, 7, 8] (by decide) rfl, hP.sub (ws' := [(h0, .inr (13, z_1)), (qf14, .inl (cf14, 9000, .inl f14)), (qf18, .inl (cf18, 9000, .inl f18)), (qf12, .inl (cf12, 9000, .inl f12)), (qf5, .inl (cf5, 3002, .inl f5)), (qf27, .inl (cf27, 400, .inl f27)), (qf29, .inl (cf29, 800, .inl f29)), (qf30, .inl (cf30, 800, .inl f30)), (qf34, .inl (cf34, 800, .inl f34)), (qf6, .inl (cf6, 3002, .inl f6)), (qf2, .inl (cf2, 3000, .inl f2)), (qf19, .inl (cf19, 9000, .inl f19)), (qf16, .inl (cf16, 9000, .inl f16)), (qf35, .inl (cf35, 800, .inl f35))]) [9, 10, 11, 12, 13, 0, 1, 2, 3, 4, 5, 6, 7, 8] rfl, hfk_1_2, hfk_1_5, hfk_1_6, hch_1_9, hch_1_10, hfk_1_12, hfk_1_14, hfk_1_16, hfk_1_18, hfk_1_19, hfk_1_27, hfk_1_28, hfk_1_29, hfk_1_30, hfk_1_34, hfk_1_35, hln_1, hrq_1, hsp⟩
    · rw [if_neg c_3] at hsp
      refine lv_iload_n hx hb dX13_field_20 rfl (lv_at hl 0 rfl) ?_
      obtain ⟨u2_0, hu_2, hsp⟩ := ox_bind hsp
      try dsimp only at hsp
      have hPc := hP.sub (ws' := []) [] rfl
      have hDc := hD.sub (ws' := []) [] (by decide) rfl
      have hKc := hK.sub (tys' := []) [] rfl
      have hFc := va_free (wc := []) hD hS hA [] rfl
      refine va_calli (va_runS (As := [.int u1_0]) (rest := []) ⟨hx, hb, hml, hown, hts⟩ (tm_isThing l dC dI H.size u1_0 nf u2_0 hu_2) (va_cwS 1 hts gv_h9_25 rfl rfl rfl (by decide +kernel) ⟨Nat.le_of_ble_eq_true rfl, Nat.le_of_ble_eq_true rfl⟩) ⟨fun a U g mk q => by obtain ⟨q0, q1, qP, qK, qD⟩ := q; exact ⟨q0, q1, qP, va_K.moved (u := U) (U := U.calling g mk a) (Vm.Alike.refl U.vm) qK, qD⟩, fun U hU hW => ⟨rfl, by rw [hU], by rw [hU]; exact hPc, va_K.moved hW.alike hKc, hDc.weaken (fun _ _ _ _ => trivial)⟩⟩ rfl rfl hl.1 rfl (lv_room (Nat.le_of_ble_eq_true rfl)) dX13_field_21 ⟨Nat.le_of_ble_eq_true rfl, Nat.le_of_ble_eq_true rfl⟩) hS (fun q _ h => hFc q h) hFc ?_
      clear hS
      intro r_4 u t H1 locs ht hvm hw hB hz1 hk1 hS
      obtain ⟨⟩ := u
      obtain ⟨hP1, hK1, hD1⟩ := hB
      rw [ht] at hP1
      have hK1 := va_K.moved hvm.symm hK1
      try dsimp only at hw
      have hPD := va_join (wr := [(qf27, .inl (cf27, 400, .inl f27)), (qf29, .inl (cf29, 800, .inl f29)), (qf30, .inl (cf30, 800, .inl f30)), (qf34, .inl (cf34, 800, .inl f34)), (qf6, .inl (cf6, 3002, .inl f6)), (qf2, .inl (cf2, 3000, .inl f2)), (qf19, .inl (cf19, 9000, .inl f19)), (qf16, .inl (cf16, 9000, .inl f16)), (qf35, .inl (cf35, 800, .inl f35)), (h0, .inr (13, z_1)), (qf14, .inl (cf14, 9000, .inl f14)), (qf18, .inl (cf18, 9000, .inl f18)), (qf12, .inl (cf12, 9000, .inl f12)), (qf5, .inl (cf5, 3002, .inl f5))]) (w1 := []) hP hD [] [0, 1, 2, 3, 4, 5, 6, 7, 8, 9, 10, 11, 12, 13] rfl rfl (by decide) (by decide) hk1 hFc hP1 hD1
      clear hP hD
      obtain ⟨hP, hD⟩ := hPD
      replace hK := (hK.sub (tys' := [(cf27, .int), (cf29, .int), (cf30, .int), (cf34, .int), (cf6, .int), (cf2, .int), (cf19, .int), (cf16, .int), (cf35, .int), (cf14, .int), (cf18, .int), (cf12, .int), (cf5, .int)]) [0, 1, 2, 3, 4, 5, 6, 7, 8, 9, 10, 11, 12] rfl).app hK1
      clear hPc hDc hKc hFc hP1 hK1 hD1 hz1 hk1 ht hvm
      generalize H1 = H at hP hS ⊢
      replace hP : va_P (dC, dI) vwCl [(qf27, .inl (cf27, 400, .inl f27)), (qf29, .inl (cf29, 800, .inl f29)), (qf30, .inl (cf30, 800, .inl f30)), (qf34, .inl (cf34, 800, .inl f34)), (qf6, .inl (cf6, 3002, .inl f6)), (qf2, .inl (cf2, 3000, .inl f2)), (qf19, .inl (cf19, 9000, .inl f19)), (qf16, .inl (cf16, 9000, .inl f16)), (qf35, .inl (cf35, 800, .inl f35)), (h0, .inr (13, z_1)), (qf14, .inl (cf14, 9000, .inl f14)), (qf18, .inl (cf18, 9000, .inl f18)), (qf12, .inl (cf12, 9000, .inl f12)), (qf5, .inl (cf5, 3002, .inl f5))] H := hP
      replace hD : va_D A [(qf27, .inl (cf27, 400, .inl f27)), (qf29, .inl (cf29, 800, .inl f29)), (qf30, .inl (cf30, 800, .inl f30)), (qf34, .inl (cf34, 800, .inl f34)), (qf6, .inl (cf6, 3002, .inl f6)), (qf2, .inl (cf2, 3000, .inl f2)), (qf19, .inl (cf19, 9000, .inl f19)), (qf16, .inl (cf16, 9000, .inl f16)), (qf35, .inl (cf35, 800, .inl f35)), (h0, .inr (13, z_1)), (qf14, .inl (cf14, 9000, .inl f14)), (qf18, .inl (cf18, 9000, .inl f18)), (qf12, .inl (cf12, 9000, .inl f12)), (qf5, .inl (cf5, 3002, .inl f5))] := hD
      replace hK : va_K (dC, dI) vwCl [(cf27, .int), (cf29, .int), (cf30, .int), (cf34, .int), (cf6, .int), (cf2, .int), (cf19, .int), (cf16, .int), (cf35, .int), (cf14, .int), (cf18, .int), (cf12, .int), (cf5, .int)] s := hK
      obtain ⟨rfl, hz_2⟩ := hw
      rcases hz_2 with rfl | rfl
      · rw [if_pos rfl] at hsp
        refine lv_if_ne (tgt := 41) hx hb dX13_field_24 (by decide) (fun c_5 => (show False by revert c_5; decide).elim) (fun c_5 => ?_)
        exact hj_27 (H, locs, ls, z_1, a1, f19, u1_1, u1_2) ⟨lv_sub hl [1, 2] rfl, hS, hD.sub (ws' := [(h0, .inr (13, z_1)), (qf14, .inl (cf14, 9000, .inl f14)), (qf18, .inl (cf18, 9000, .inl f18)), (qf12, .inl (cf12, 9000, .inl f12)), (qf5, .inl (cf5, 3002, .inl f5)), (qf27, .inl (cf27, 400, .inl f27)), (qf29, .inl (cf29, 800, .inl f29)), (qf30, .inl (cf30, 800, .inl f30)), (qf34, .inl (cf34, 800, .inl f34)), (qf6, .inl (cf6, 3002, .inl f6)), (qf2, .inl (cf2, 3000, .inl f2)), (qf19, .inl (cf19, 9000, .inl f19)), (qf16, .inl (cf16, 9000, .inl f16)), (qf35, .inl (cf35, 800, .inl f35))]) [9, 10, 11, 12, 13, 0, 1, 2, 3, 4, 5, 6, 7, 8] (by decide) rfl, hP.sub (ws' := [(h0, .inr (13, z_1)), (qf14, .inl (cf14, 9000, .inl f14)), (qf18, .inl (cf18, 9000, .inl f18)), (qf12, .inl (cf12, 9000, .inl f12)), (qf5, .inl (cf5, 3002, .inl f5)), (qf27, .inl (cf27, 400, .inl f27)), (qf29, .inl (cf29, 800, .inl f29)), (qf30, .inl (cf30, 800, .inl f30)), (qf34, .inl (cf34, 800, .inl f34)), (qf6, .inl (cf6, 3002, .inl f6)), (qf2, .inl (cf2, 3000, .inl f2)), (qf19, .inl (cf19, 9000, .inl f19)), (qf16, .inl (cf16, 9000, .inl f16)), (qf35, .inl (cf35, 800, .inl f35))]) [9, 10, 11, 12, 13, 0, 1, 2, 3, 4, 5, 6, 7, 8] rfl, hfk_1_2, hfk_1_5, hfk_1_6, hch_1_9, hch_1_10, hfk_1_12, hfk_1_14, hfk_1_16, hfk_1_18, hfk_1_19, hfk_1_27, hfk_1_28, hfk_1_29, hfk_1_30, hfk_1_34, hfk_1_35, hln_1, hrq_1, hsp⟩
      · rw [if_neg (by decide)] at hsp
        refine lv_if_ne (tgt := 41) hx hb dX13_field_24 (by decide) (fun c_6 => ?_) (fun c_6 => (show False by revert c_6; decide).elim)
        refine lv_iload_n hx hb dX13_field_41 rfl (lv_at hl 0 rfl) ?_
        obtain ⟨u3_0, hu_3, hsp⟩ := ox_bind hsp
        try dsimp only at hsp
        have hPc := hP.sub (ws' := []) [] rfl
        have hDc := hD.sub (ws' := []) [] (by decide) rfl
        have hKc := hK.sub (tys' := []) [] rfl
        have hFc := va_free (wc := []) hD hS hA [] rfl
        refine va_calli (va_runS (As := [.int u1_0]) (rest := []) ⟨hx, hb, hml, hown, hts⟩ (tm_isArray l dC dI H.size u1_0 nf u3_0 hu_3) (va_cwS 1 hts gv_h9_26 rfl rfl rfl (by decide +kernel) ⟨Nat.le_of_ble_eq_true rfl, Nat.le_of_ble_eq_true rfl⟩) ⟨fun a U g mk q => by obtain ⟨q0, q1, qP, qK, qD⟩ := q; exact ⟨q0, q1, qP, va_K.moved (u := U) (U := U.calling g mk a) (Vm.Alike.refl U.vm) qK, qD⟩, fun U hU hW => ⟨rfl, by rw [hU], by rw [hU]; exact hPc, va_K.moved hW.alike hKc, hDc.weaken (fun _ _ _ _ => trivial)⟩⟩ rfl rfl hl.1 rfl (lv_room (Nat.le_of_ble_eq_true rfl)) dX13_field_42 ⟨Nat.le_of_ble_eq_true rfl, Nat.le_of_ble_eq_true rfl⟩) hS (fun q _ h => hFc q h) hFc ?_
        clear hS
        intro r_7 u t H1 locs ht hvm hw hB hz1 hk1 hS
        obtain ⟨⟩ := u
        obtain ⟨hP1, hK1, hD1⟩ := hB
        rw [ht] at hP1
        have hK1 := va_K.moved hvm.symm hK1
        try dsimp only at hw
        have hPD := va_join (wr := [(qf27, .inl (cf27, 400, .inl f27)), (qf29, .inl (cf29, 800, .inl f29)), (qf30, .inl (cf30, 800, .inl f30)), (qf34, .inl (cf34, 800, .inl f34)), (qf6, .inl (cf6, 3002, .inl f6)), (qf2, .inl (cf2, 3000, .inl f2)), (qf19, .inl (cf19, 9000, .inl f19)), (qf16, .inl (cf16, 9000, .inl f16)), (qf35, .inl (cf35, 800, .inl f35)), (h0, .inr (13, z_1)), (qf14, .inl (cf14, 9000, .inl f14)), (qf18, .inl (cf18, 9000, .inl f18)), (qf12, .inl (cf12, 9000, .inl f12)), (qf5, .inl (cf5, 3002, .inl f5))]) (w1 := []) hP hD [] [0, 1, 2, 3, 4, 5, 6, 7, 8, 9, 10, 11, 12, 13] rfl rfl (by decide) (by decide) hk1 hFc hP1 hD1
        clear hP hD
        obtain ⟨hP, hD⟩ := hPD
        replace hK := (hK.sub (tys' := [(cf27, .int), (cf29, .int), (cf30, .int), (cf34, .int), (cf6, .int), (cf2, .int), (cf19, .int), (cf16, .int), (cf35, .int), (cf14, .int), (cf18, .int), (cf12, .int), (cf5, .int)]) [0, 1, 2, 3, 4, 5, 6, 7, 8, 9, 10, 11, 12] rfl).app hK1
        clear hPc hDc hKc hFc hP1 hK1 hD1 hz1 hk1 ht hvm
        generalize H1 = H at hP hS ⊢
        replace hP : va_P (dC, dI) vwCl [(qf27, .inl (cf27, 400, .inl f27)), (qf29, .inl (cf29, 800, .inl f29)), (qf30, .inl (cf30, 800, .inl f30)), (qf34, .inl (cf34, 800, .inl f34)), (qf6, .inl (cf6, 3002, .inl f6)), (qf2, .inl (cf2, 3000, .inl f2)), (qf19, .inl (cf19, 9000, .inl f19)), (qf16, .inl (cf16, 9000, .inl f16)), (qf35, .inl (cf35, 800, .inl f35)), (h0, .inr (13, z_1)), (qf14, .inl (cf14, 9000, .inl f14)), (qf18, .inl (cf18, 9000, .inl f18)), (qf12, .inl (cf12, 9000, .inl f12)), (qf5, .inl (cf5, 3002, .inl f5))] H := hP
        replace hD : va_D A [(qf27, .inl (cf27, 400, .inl f27)), (qf29, .inl (cf29, 800, .inl f29)), (qf30, .inl (cf30, 800, .inl f30)), (qf34, .inl (cf34, 800, .inl f34)), (qf6, .inl (cf6, 3002, .inl f6)), (qf2, .inl (cf2, 3000, .inl f2)), (qf19, .inl (cf19, 9000, .inl f19)), (qf16, .inl (cf16, 9000, .inl f16)), (qf35, .inl (cf35, 800, .inl f35)), (h0, .inr (13, z_1)), (qf14, .inl (cf14, 9000, .inl f14)), (qf18, .inl (cf18, 9000, .inl f18)), (qf12, .inl (cf12, 9000, .inl f12)), (qf5, .inl (cf5, 3002, .inl f5))] := hD
        replace hK : va_K (dC, dI) vwCl [(cf27, .int), (cf29, .int), (cf30, .int), (cf34, .int), (cf6, .int), (cf2, .int), (cf19, .int), (cf16, .int), (cf35, .int), (cf14, .int), (cf18, .int), (cf12, .int), (cf5, .int)] s := hK
        obtain ⟨rfl, hz_3⟩ := hw
        rcases hz_3 with rfl | rfl
        · rw [if_pos rfl] at hsp
          refine lv_if_eq (tgt := 117) hx hb dX13_field_45 (by decide) (fun c_8 => ?_) (fun c_8 => (show False by revert c_8; decide).elim)
          refine lv_aload_n hx hb dX13_field_117 rfl (lv_at hl 1 rfl) ?_
          refine lv_iload_n hx hb dX13_field_118 rfl (lv_at hl 0 rfl) ?_
          refine lv_bipush (v := 8) hx hb dX13_field_119 (by decide) ?_
          refine lv_isub hx hb dX13_field_121 ?_
          refine lv_iconst (v := 2) hx hb dX13_field_122 (by decide) ?_
          refine lv_idiv hx hb dX13_field_123 (by decide) ?_
          refine lv_aload_n hx hb dX13_field_124 rfl (lv_at hl 1 rfl) ?_
          refine va_get (D := (dC, dI)) (ci := 13) (v := .ref qf12) (C := RX13) (T := TX13) (N := 155) hx hb hts uV_h9_X13 hown hK hP 9 rfl rfl 12 (by decide) (hts (.fieldLink RX13 31 "ClassMillModel" "tok" "[I") mw_h9_40) (fun _ h9 => h9) hfk_1_12 dX13_field_125 ?_
          refine lv_iload_n hx hb dX13_field_128 rfl (lv_at hl 2 rfl) ?_
          obtain ⟨hi_9, hsp⟩ := ox_in hsp
          refine va_iald hx hb hK hP 12 11 rfl rfl (i := a1) hi_9 dX13_field_129 ?_
          refine lv_iconst (v := 0) hx hb dX13_field_130 (by decide) ?_
          obtain ⟨u4_0, hu_4, hsp⟩ := ox_bind hsp
          try dsimp only at hsp
          have hPc := hP.sub (ws' := [(h0, .inr (13, z_1)), (qf27, .inl (cf27, 400, .inl f27)), (qf29, .inl (cf29, 800, .inl f29)), (qf30, .inl (cf30, 800, .inl f30)), (qf34, .inl (cf34, 800, .inl f34)), (qf6, .inl (cf6, 3002, .inl f6)), (qf5, .inl (cf5, 3002, .inl f5)), (qf2, .inl (cf2, 3000, .inl f2))]) [9, 0, 1, 2, 3, 4, 13, 5] rfl
          have hDc := hD.sub (ws' := [(h0, .inr (13, z_1)), (qf27, .inl (cf27, 400, .inl f27)), (qf29, .inl (cf29, 800, .inl f29)), (qf30, .inl (cf30, 800, .inl f30)), (qf34, .inl (cf34, 800, .inl f34)), (qf6, .inl (cf6, 3002, .inl f6)), (qf5, .inl (cf5, 3002, .inl f5)), (qf2, .inl (cf2, 3000, .inl f2))]) [9, 0, 1, 2, 3, 4, 13, 5] (by decide) rfl
          have hKc := hK.sub (tys' := [(cf27, .int), (cf29, .int), (cf30, .int), (cf34, .int), (cf6, .int), (cf5, .int), (cf2, .int)]) [0, 1, 2, 3, 4, 12, 5] rfl
          have hFc := va_free (wc := [(h0, .inr (13, z_1)), (qf27, .inl (cf27, 400, .inl f27)), (qf29, .inl (cf29, 800, .inl f29)), (qf30, .inl (cf30, 800, .inl f30)), (qf34, .inl (cf34, 800, .inl f34)), (qf6, .inl (cf6, 3002, .inl f6)), (qf5, .inl (cf5, 3002, .inl f5)), (qf2, .inl (cf2, 3000, .inl f2))]) hD hS hA [9, 0, 1, 2, 3, 4, 13, 5] rfl
          refine va_calli (va_runV (As := [.int ((u1_0 - 8) / 2), .int (f12 (a1 : Int32).toNatClampNeg), .int 0]) (rest := []) ⟨hx, hb, hml, hown, hts⟩ (tn_memberOf l dC dI H.size h0 z_1 (((u1_0 - 8) / 2)) ((f12 (a1 : Int32).toNatClampNeg)) 0 qf2 qf5 qf6 qf27 v28 qf29 qf30 qf34 cf27 f27 cf29 f29 cf30 f30 cf34 f34 cf6 f6 cf5 f5 cf2 f2 nf u4_0 hln_1 hfk_1_2 hfk_1_5 hfk_1_6 hfk_1_27 hfk_1_28 hfk_1_29 hfk_1_30 hfk_1_34 hu_4) (cwV 3 hts gv_h9_21 rfl rfl rfl (by decide +kernel) ⟨Nat.le_of_ble_eq_true rfl, Nat.le_of_ble_eq_true rfl⟩) ⟨fun a U g mk q => by obtain ⟨q0, q1, qP, qK, qD⟩ := q; exact ⟨q0, q1, qP, va_K.moved (u := U) (U := U.calling g mk a) (Vm.Alike.refl U.vm) qK, qD⟩, va_recv hKc hPc (ci := 13) (q0 := 0) rfl rfl, fun U hU hW => ⟨rfl, by rw [hU], by rw [hU]; exact hPc, va_K.moved hW.alike hKc, hDc.weaken (fun _ _ _ _ => trivial)⟩⟩ rfl rfl hl.1 rfl (lv_room (Nat.le_of_ble_eq_true rfl)) dX13_field_131 ⟨Nat.le_of_ble_eq_true rfl, Nat.le_of_ble_eq_true rfl⟩) hS (fun q _ h => hFc q h) hFc ?_
          clear hS
          intro r_10 u t H1 locs ht hvm hw hB hz1 hk1 hS
          obtain ⟨z_4, rfl⟩ : ∃ z, z = u := ⟨_, rfl⟩
          obtain ⟨hP1, hK1, hD1⟩ := hB
          rw [ht] at hP1
          have hK1 := va_K.moved hvm.symm hK1
          try dsimp only at hw
          have hPD := va_join (wr := [(qf19, .inl (cf19, 9000, .inl f19)), (qf16, .inl (cf16, 9000, .inl f16)), (qf35, .inl (cf35, 800, .inl f35)), (qf14, .inl (cf14, 9000, .inl f14)), (qf18, .inl (cf18, 9000, .inl f18)), (qf12, .inl (cf12, 9000, .inl f12))]) (w1 := [(h0, .inr (13, z_4)), (qf27, .inl (cf27, 400, .inl f27)), (qf29, .inl (cf29, 800, .inl f29)), (qf30, .inl (cf30, 800, .inl f30)), (qf34, .inl (cf34, 800, .inl f34)), (qf6, .inl (cf6, 3002, .inl f6)), (qf5, .inl (cf5, 3002, .inl f5)), (qf2, .inl (cf2, 3000, .inl f2))]) hP hD [9, 0, 1, 2, 3, 4, 13, 5] [6, 7, 8, 10, 11, 12] rfl rfl (by decide) (by decide) hk1 hFc hP1 hD1
          clear hP hD
          obtain ⟨hP, hD⟩ := hPD
          replace hK := (hK.sub (tys' := [(cf19, .int), (cf16, .int), (cf35, .int), (cf14, .int), (cf18, .int), (cf12, .int)]) [6, 7, 8, 9, 10, 11] rfl).app hK1
          clear hPc hDc hKc hFc hP1 hK1 hD1 hz1 hk1 ht hvm
          generalize H1 = H at hP hS ⊢
          replace hP : va_P (dC, dI) vwCl [(qf19, .inl (cf19, 9000, .inl f19)), (qf16, .inl (cf16, 9000, .inl f16)), (qf35, .inl (cf35, 800, .inl f35)), (qf14, .inl (cf14, 9000, .inl f14)), (qf18, .inl (cf18, 9000, .inl f18)), (qf12, .inl (cf12, 9000, .inl f12)), (h0, .inr (13, z_4)), (qf27, .inl (cf27, 400, .inl f27)), (qf29, .inl (cf29, 800, .inl f29)), (qf30, .inl (cf30, 800, .inl f30)), (qf34, .inl (cf34, 800, .inl f34)), (qf6, .inl (cf6, 3002, .inl f6)), (qf5, .inl (cf5, 3002, .inl f5)), (qf2, .inl (cf2, 3000, .inl f2))] H := hP
          replace hD : va_D A [(qf19, .inl (cf19, 9000, .inl f19)), (qf16, .inl (cf16, 9000, .inl f16)), (qf35, .inl (cf35, 800, .inl f35)), (qf14, .inl (cf14, 9000, .inl f14)), (qf18, .inl (cf18, 9000, .inl f18)), (qf12, .inl (cf12, 9000, .inl f12)), (h0, .inr (13, z_4)), (qf27, .inl (cf27, 400, .inl f27)), (qf29, .inl (cf29, 800, .inl f29)), (qf30, .inl (cf30, 800, .inl f30)), (qf34, .inl (cf34, 800, .inl f34)), (qf6, .inl (cf6, 3002, .inl f6)), (qf5, .inl (cf5, 3002, .inl f5)), (qf2, .inl (cf2, 3000, .inl f2))] := hD
          replace hK : va_K (dC, dI) vwCl [(cf19, .int), (cf16, .int), (cf35, .int), (cf14, .int), (cf18, .int), (cf12, .int), (cf27, .int), (cf29, .int), (cf30, .int), (cf34, .int), (cf6, .int), (cf5, .int), (cf2, .int)] s := hK
          obtain ⟨hwa_4, hln_4, hre_4⟩ := hw
          have hfk_4_2 : z_4[2]? = some (.ref qf2) := (hre_4 2 ).trans (hfk_1_2)
          have hfk_4_5 : z_4[5]? = some (.ref qf5) := (hre_4 5 ).trans (hfk_1_5)
          have hfk_4_6 : z_4[6]? = some (.ref qf6) := (hre_4 6 ).trans (hfk_1_6)
          have hfk_4_9 : z_4[9]? = some (.int u1_2) := (hre_4 9 ).trans (hch_1_9)
          have hfk_4_10 : z_4[10]? = some (.int u1_1) := (hre_4 10 ).trans (hch_1_10)
          have hfk_4_12 : z_4[12]? = some (.ref qf12) := (hre_4 12 ).trans (hfk_1_12)
          have hfk_4_14 : z_4[14]? = some (.ref qf14) := (hre_4 14 ).trans (hfk_1_14)
          have hfk_4_16 : z_4[16]? = some (.ref qf16) := (hre_4 16 ).trans (hfk_1_16)
          have hfk_4_18 : z_4[18]? = some (.ref qf18) := (hre_4 18 ).trans (hfk_1_18)
          have hfk_4_19 : z_4[19]? = some (.ref qf19) := (hre_4 19 ).trans (hfk_1_19)
          have hfk_4_27 : z_4[27]? = some (.ref qf27) := (hre_4 27 ).trans (hfk_1_27)
          have hfk_4_28 : z_4[28]? = some (.int v28) := (hre_4 28 ).trans (hfk_1_28)
          have hfk_4_29 : z_4[29]? = some (.ref qf29) := (hre_4 29 ).trans (hfk_1_29)
          have hfk_4_30 : z_4[30]? = some (.ref qf30) := (hre_4 30 ).trans (hfk_1_30)
          have hfk_4_34 : z_4[34]? = some (.ref qf34) := (hre_4 34 ).trans (hfk_1_34)
          have hfk_4_35 : z_4[35]? = some (.ref qf35) := (hre_4 35 ).trans (hfk_1_35)
          have hrq_4 : ∀ j : Nat, j ≠ 10 → j ≠ 9 → z_4[j]? = zs[j]? := fun j g10 g9 => (hre_4 j ).trans (hrq_1 j g10 g9)
          obtain rfl := hwa_4
          refine lv_istore_n (lv' := [(3, .int u4_0), (2, .int u1_0), (0, .ref h0), (1, .int a1)]) hx hb dX13_field_134 rfl hl (by decide) rfl (fun ls hl => ?_)
          refine lv_iload_n hx hb dX13_field_135 rfl (lv_at hl 0 rfl) ?_
          refine lv_iconst (v := (-1)) hx hb dX13_field_136 (by decide) ?_
          refine lv_icmp_ne (tgt := 151) hx hb dX13_field_137 (by decide) (fun c_11 => ?_) (fun c_11 => ?_)
          · rw [if_neg c_11] at hsp
            exact hj_151 (H, locs, ls, z_4, a1, u4_0, f19, u1_1, u1_2) ⟨lv_sub hl [2, 3, 0] rfl, hS, hD.sub (ws' := [(h0, .inr (13, z_4)), (qf14, .inl (cf14, 9000, .inl f14)), (qf18, .inl (cf18, 9000, .inl f18)), (qf12, .inl (cf12, 9000, .inl f12)), (qf5, .inl (cf5, 3002, .inl f5)), (qf27, .inl (cf27, 400, .inl f27)), (qf29, .inl (cf29, 800, .inl f29)), (qf30, .inl (cf30, 800, .inl f30)), (qf34, .inl (cf34, 800, .inl f34)), (qf6, .inl (cf6, 3002, .inl f6)), (qf2, .inl (cf2, 3000, .inl f2)), (qf19, .inl (cf19, 9000, .inl f19)), (qf16, .inl (cf16, 9000, .inl f16)), (qf35, .inl (cf35, 800, .inl f35))]) [6, 3, 4, 5, 12, 7, 8, 9, 10, 11, 13, 0, 1, 2] (by decide) rfl, hP.sub (ws' := [(h0, .inr (13, z_4)), (qf14, .inl (cf14, 9000, .inl f14)), (qf18, .inl (cf18, 9000, .inl f18)), (qf12, .inl (cf12, 9000, .inl f12)), (qf5, .inl (cf5, 3002, .inl f5)), (qf27, .inl (cf27, 400, .inl f27)), (qf29, .inl (cf29, 800, .inl f29)), (qf30, .inl (cf30, 800, .inl f30)), (qf34, .inl (cf34, 800, .inl f34)), (qf6, .inl (cf6, 3002, .inl f6)), (qf2, .inl (cf2, 3000, .inl f2)), (qf19, .inl (cf19, 9000, .inl f19)), (qf16, .inl (cf16, 9000, .inl f16)), (qf35, .inl (cf35, 800, .inl f35))]) [6, 3, 4, 5, 12, 7, 8, 9, 10, 11, 13, 0, 1, 2] rfl, hfk_4_2, hfk_4_5, hfk_4_6, hfk_4_9, hfk_4_10, hfk_4_12, hfk_4_14, hfk_4_16, hfk_4_18, hfk_4_19, hfk_4_27, hfk_4_28, hfk_4_29, hfk_4_30, hfk_4_34, hfk_4_35, hln_4, hrq_4, hsp⟩
          · rw [if_pos c_11] at hsp
            refine lv_aload_n hx hb dX13_field_140 rfl (lv_at hl 2 rfl) ?_
            refine lv_iconst (v := 5) hx hb dX13_field_141 (by decide) ?_
            refine lv_aload_n hx hb dX13_field_142 rfl (lv_at hl 2 rfl) ?_
            refine va_get (D := (dC, dI)) (ci := 13) (v := .ref qf12) (C := RX13) (T := TX13) (N := 155) hx hb hts uV_h9_X13 hown hK hP 6 rfl rfl 12 (by decide) (hts (.fieldLink RX13 31 "ClassMillModel" "tok" "[I") mw_h9_40) (fun _ h9 => h9) hfk_4_12 dX13_field_143 ?_
            refine lv_iload_n hx hb dX13_field_146 rfl (lv_at hl 3 rfl) ?_
            obtain ⟨hi_12, hsp⟩ := ox_in hsp
            refine va_iald hx hb hK hP 5 5 rfl rfl (i := a1) hi_12 dX13_field_147 ?_
            obtain ⟨⟨u5_0, u5_1⟩, hu_5, hsp⟩ := ox_bind hsp
            try dsimp only at hsp
            have hPc := hP.sub (ws' := [(h0, .inr (13, z_4)), (qf5, .inl (cf5, 3002, .inl f5))]) [6, 12] rfl
            have hDc := hD.sub (ws' := [(h0, .inr (13, z_4)), (qf5, .inl (cf5, 3002, .inl f5))]) [6, 12] (by decide) rfl
            have hKc := hK.sub (tys' := [(cf5, .int)]) [11] rfl
            have hFc := va_free (wc := [(h0, .inr (13, z_4)), (qf5, .inl (cf5, 3002, .inl f5))]) hD hS hA [6, 12] rfl
            refine va_callv (va_runV (As := [.int 5, .int (f12 (a1 : Int32).toNatClampNeg)]) (rest := []) ⟨hx, hb, hml, hown, hts⟩ (tm_wrong l dC dI H.size h0 z_4 5 ((f12 (a1 : Int32).toNatClampNeg)) qf5 u1_2 u1_1 cf5 f5 nf u5_0 u5_1 hln_4 hfk_4_5 hfk_4_9 hfk_4_10 hu_5) (cwV 2 hts gv_h9_18 rfl rfl rfl (by decide +kernel) ⟨Nat.le_of_ble_eq_true rfl, Nat.le_of_ble_eq_true rfl⟩) ⟨fun a U g mk q => by obtain ⟨q0, q1, qP, qK, qD⟩ := q; exact ⟨q0, q1, qP, va_K.moved (u := U) (U := U.calling g mk a) (Vm.Alike.refl U.vm) qK, qD⟩, va_recv hKc hPc (ci := 13) (q0 := 0) rfl rfl, fun U hU hW => ⟨rfl, by rw [hU], by rw [hU]; exact hPc, va_K.moved hW.alike hKc, hDc.weaken (fun _ _ _ _ => trivial)⟩⟩ rfl rfl hl.1 rfl (lv_room (Nat.le_of_ble_eq_true rfl)) dX13_field_148 ⟨Nat.le_of_ble_eq_true rfl, Nat.le_of_ble_eq_true rfl⟩) hS (fun q _ h => hFc q h) hFc ?_
            clear hS
            intro u t H1 locs ht hvm hw hB hz1 hk1 hS
            obtain ⟨z_5, rfl⟩ : ∃ z, z = u := ⟨_, rfl⟩
            obtain ⟨hP1, hK1, hD1⟩ := hB
            rw [ht] at hP1
            have hK1 := va_K.moved hvm.symm hK1
            try dsimp only at hw
            have hPD := va_join (wr := [(qf19, .inl (cf19, 9000, .inl f19)), (qf16, .inl (cf16, 9000, .inl f16)), (qf35, .inl (cf35, 800, .inl f35)), (qf14, .inl (cf14, 9000, .inl f14)), (qf18, .inl (cf18, 9000, .inl f18)), (qf12, .inl (cf12, 9000, .inl f12)), (qf27, .inl (cf27, 400, .inl f27)), (qf29, .inl (cf29, 800, .inl f29)), (qf30, .inl (cf30, 800, .inl f30)), (qf34, .inl (cf34, 800, .inl f34)), (qf6, .inl (cf6, 3002, .inl f6)), (qf2, .inl (cf2, 3000, .inl f2))]) (w1 := [(h0, .inr (13, z_5)), (qf5, .inl (cf5, 3002, .inl f5))]) hP hD [6, 12] [0, 1, 2, 3, 4, 5, 7, 8, 9, 10, 11, 13] rfl rfl (by decide) (by decide) hk1 hFc hP1 hD1
            clear hP hD
            obtain ⟨hP, hD⟩ := hPD
            replace hK := (hK.sub (tys' := [(cf19, .int), (cf16, .int), (cf35, .int), (cf14, .int), (cf18, .int), (cf12, .int), (cf27, .int), (cf29, .int), (cf30, .int), (cf34, .int), (cf6, .int), (cf2, .int)]) [0, 1, 2, 3, 4, 5, 6, 7, 8, 9, 10, 12] rfl).app hK1
            clear hPc hDc hKc hFc hP1 hK1 hD1 hz1 hk1 ht hvm
            generalize H1 = H at hP hS ⊢
            replace hP : va_P (dC, dI) vwCl [(qf19, .inl (cf19, 9000, .inl f19)), (qf16, .inl (cf16, 9000, .inl f16)), (qf35, .inl (cf35, 800, .inl f35)), (qf14, .inl (cf14, 9000, .inl f14)), (qf18, .inl (cf18, 9000, .inl f18)), (qf12, .inl (cf12, 9000, .inl f12)), (qf27, .inl (cf27, 400, .inl f27)), (qf29, .inl (cf29, 800, .inl f29)), (qf30, .inl (cf30, 800, .inl f30)), (qf34, .inl (cf34, 800, .inl f34)), (qf6, .inl (cf6, 3002, .inl f6)), (qf2, .inl (cf2, 3000, .inl f2)), (h0, .inr (13, z_5)), (qf5, .inl (cf5, 3002, .inl f5))] H := hP
            replace hD : va_D A [(qf19, .inl (cf19, 9000, .inl f19)), (qf16, .inl (cf16, 9000, .inl f16)), (qf35, .inl (cf35, 800, .inl f35)), (qf14, .inl (cf14, 9000, .inl f14)), (qf18, .inl (cf18, 9000, .inl f18)), (qf12, .inl (cf12, 9000, .inl f12)), (qf27, .inl (cf27, 400, .inl f27)), (qf29, .inl (cf29, 800, .inl f29)), (qf30, .inl (cf30, 800, .inl f30)), (qf34, .inl (cf34, 800, .inl f34)), (qf6, .inl (cf6, 3002, .inl f6)), (qf2, .inl (cf2, 3000, .inl f2)), (h0, .inr (13, z_5)), (qf5, .inl (cf5, 3002, .inl f5))] := hD
            replace hK : va_K (dC, dI) vwCl [(cf19, .int), (cf16, .int), (cf35, .int), (cf14, .int), (cf18, .int), (cf12, .int), (cf27, .int), (cf29, .int), (cf30, .int), (cf34, .int), (cf6, .int), (cf2, .int), (cf5, .int)] s := hK
            obtain ⟨hwa_5, hln_5, hre_5, hch_5_10, hch_5_9⟩ := hw
            have hfk_5_2 : z_5[2]? = some (.ref qf2) := (hre_5 2 (by decide) (by decide)).trans (hfk_4_2)
            have hfk_5_5 : z_5[5]? = some (.ref qf5) := (hre_5 5 (by decide) (by decide)).trans (hfk_4_5)
            have hfk_5_6 : z_5[6]? = some (.ref qf6) := (hre_5 6 (by decide) (by decide)).trans (hfk_4_6)
            have hfk_5_12 : z_5[12]? = some (.ref qf12) := (hre_5 12 (by decide) (by decide)).trans (hfk_4_12)
            have hfk_5_14 : z_5[14]? = some (.ref qf14) := (hre_5 14 (by decide) (by decide)).trans (hfk_4_14)
            have hfk_5_16 : z_5[16]? = some (.ref qf16) := (hre_5 16 (by decide) (by decide)).trans (hfk_4_16)
            have hfk_5_18 : z_5[18]? = some (.ref qf18) := (hre_5 18 (by decide) (by decide)).trans (hfk_4_18)
            have hfk_5_19 : z_5[19]? = some (.ref qf19) := (hre_5 19 (by decide) (by decide)).trans (hfk_4_19)
            have hfk_5_27 : z_5[27]? = some (.ref qf27) := (hre_5 27 (by decide) (by decide)).trans (hfk_4_27)
            have hfk_5_28 : z_5[28]? = some (.int v28) := (hre_5 28 (by decide) (by decide)).trans (hfk_4_28)
            have hfk_5_29 : z_5[29]? = some (.ref qf29) := (hre_5 29 (by decide) (by decide)).trans (hfk_4_29)
            have hfk_5_30 : z_5[30]? = some (.ref qf30) := (hre_5 30 (by decide) (by decide)).trans (hfk_4_30)
            have hfk_5_34 : z_5[34]? = some (.ref qf34) := (hre_5 34 (by decide) (by decide)).trans (hfk_4_34)
            have hfk_5_35 : z_5[35]? = some (.ref qf35) := (hre_5 35 (by decide) (by decide)).trans (hfk_4_35)
            have hrq_5 : ∀ j : Nat, j ≠ 10 → j ≠ 9 → z_5[j]? = zs[j]? := fun j g10 g9 => (hre_5 j g10 g9).trans (hrq_4 j g10 g9)
            exact hj_151 (H, locs, ls, z_5, a1, u4_0, f19, u5_0, u5_1) ⟨lv_sub hl [2, 3, 0] rfl, hS, hD.sub (ws' := [(h0, .inr (13, z_5)), (qf14, .inl (cf14, 9000, .inl f14)), (qf18, .inl (cf18, 9000, .inl f18)), (qf12, .inl (cf12, 9000, .inl f12)), (qf5, .inl (cf5, 3002, .inl f5)), (qf27, .inl (cf27, 400, .inl f27)), (qf29, .inl (cf29, 800, .inl f29)), (qf30, .inl (cf30, 800, .inl f30)), (qf34, .inl (cf34, 800, .inl f34)), (qf6, .inl (cf6, 3002, .inl f6)), (qf2, .inl (cf2, 3000, .inl f2)), (qf19, .inl (cf19, 9000, .inl f19)), (qf16, .inl (cf16, 9000, .inl f16)), (qf35, .inl (cf35, 800, .inl f35))]) [12, 3, 4, 5, 13, 6, 7, 8, 9, 10, 11, 0, 1, 2] (by decide) rfl, hP.sub (ws' := [(h0, .inr (13, z_5)), (qf14, .inl (cf14, 9000, .inl f14)), (qf18, .inl (cf18, 9000, .inl f18)), (qf12, .inl (cf12, 9000, .inl f12)), (qf5, .inl (cf5, 3002, .inl f5)), (qf27, .inl (cf27, 400, .inl f27)), (qf29, .inl (cf29, 800, .inl f29)), (qf30, .inl (cf30, 800, .inl f30)), (qf34, .inl (cf34, 800, .inl f34)), (qf6, .inl (cf6, 3002, .inl f6)), (qf2, .inl (cf2, 3000, .inl f2)), (qf19, .inl (cf19, 9000, .inl f19)), (qf16, .inl (cf16, 9000, .inl f16)), (qf35, .inl (cf35, 800, .inl f35))]) [12, 3, 4, 5, 13, 6, 7, 8, 9, 10, 11, 0, 1, 2] rfl, hfk_5_2, hfk_5_5, hfk_5_6, hch_5_9, hch_5_10, hfk_5_12, hfk_5_14, hfk_5_16, hfk_5_18, hfk_5_19, hfk_5_27, hfk_5_28, hfk_5_29, hfk_5_30, hfk_5_34, hfk_5_35, hln_5, hrq_5, hsp⟩
        · rw [if_neg (by decide)] at hsp
          refine lv_if_eq (tgt := 117) hx hb dX13_field_45 (by decide) (fun c_13 => (show False by revert c_13; decide).elim) (fun c_13 => ?_)
          refine lv_aload_n hx hb dX13_field_48 rfl (lv_at hl 1 rfl) ?_
          refine va_get (D := (dC, dI)) (ci := 13) (v := .ref qf19) (C := RX13) (T := TX13) (N := 155) hx hb hts uV_h9_X13 hown hK hP 9 rfl rfl 19 (by decide) (hts (.fieldLink RX13 52 "ClassMillModel" "means" "[I") mw_h9_47) (fun _ h9 => h9) hfk_1_19 dX13_field_49 ?_
          refine lv_iload_n hx hb dX13_field_52 rfl (lv_at hl 2 rfl) ?_
          refine lv_iconst (v := (-1)) hx hb dX13_field_53 (by decide) ?_
          obtain ⟨hi_14, hsp⟩ := ox_in hsp
          refine va_iast hx hb hK hP hD hS 6 6 rfl rfl (i := a1) (x := (-1)) hi_14 dX13_field_54 ?_
          clear hP hD hS
          intro H locs hP hD hS
          replace hP : va_P (dC, dI) vwCl [(qf27, .inl (cf27, 400, .inl f27)), (qf29, .inl (cf29, 800, .inl f29)), (qf30, .inl (cf30, 800, .inl f30)), (qf34, .inl (cf34, 800, .inl f34)), (qf6, .inl (cf6, 3002, .inl f6)), (qf2, .inl (cf2, 3000, .inl f2)), (qf19, .inl (cf19, 9000, .inl (upd f19 (a1 : Int32).toNatClampNeg (-1)))), (qf16, .inl (cf16, 9000, .inl f16)), (qf35, .inl (cf35, 800, .inl f35)), (h0, .inr (13, z_1)), (qf14, .inl (cf14, 9000, .inl f14)), (qf18, .inl (cf18, 9000, .inl f18)), (qf12, .inl (cf12, 9000, .inl f12)), (qf5, .inl (cf5, 3002, .inl f5))] H := hP
          replace hD : va_D A [(qf27, .inl (cf27, 400, .inl f27)), (qf29, .inl (cf29, 800, .inl f29)), (qf30, .inl (cf30, 800, .inl f30)), (qf34, .inl (cf34, 800, .inl f34)), (qf6, .inl (cf6, 3002, .inl f6)), (qf2, .inl (cf2, 3000, .inl f2)), (qf19, .inl (cf19, 9000, .inl (upd f19 (a1 : Int32).toNatClampNeg (-1)))), (qf16, .inl (cf16, 9000, .inl f16)), (qf35, .inl (cf35, 800, .inl f35)), (h0, .inr (13, z_1)), (qf14, .inl (cf14, 9000, .inl f14)), (qf18, .inl (cf18, 9000, .inl f18)), (qf12, .inl (cf12, 9000, .inl f12)), (qf5, .inl (cf5, 3002, .inl f5))] := hD
          refine lv_aload_n hx hb dX13_field_55 rfl (lv_at hl 1 rfl) ?_
          refine va_get (D := (dC, dI)) (ci := 13) (v := .ref qf6) (C := RX13) (T := TX13) (N := 155) hx hb hts uV_h9_X13 hown hK hP 9 rfl rfl 6 (by decide) (hts (.fieldLink RX13 22 "ClassMillModel" "wide" "[I") mw_h9_92) (fun _ h9 => h9) hfk_1_6 dX13_field_56 ?_
          refine lv_aload_n hx hb dX13_field_59 rfl (lv_at hl 1 rfl) ?_
          refine va_get (D := (dC, dI)) (ci := 13) (v := .ref qf12) (C := RX13) (T := TX13) (N := 155) hx hb hts uV_h9_X13 hown hK hP 9 rfl rfl 12 (by decide) (hts (.fieldLink RX13 31 "ClassMillModel" "tok" "[I") mw_h9_40) (fun _ h9 => h9) hfk_1_12 dX13_field_60 ?_
          refine lv_iload_n hx hb dX13_field_63 rfl (lv_at hl 2 rfl) ?_
          obtain ⟨hi_15, hsp⟩ := ox_in hsp
          refine va_iald hx hb hK hP 12 11 rfl rfl (i := a1) hi_15 dX13_field_64 ?_
          obtain ⟨hi_16, hsp⟩ := ox_in hsp
          refine va_iald hx hb hK hP 4 4 rfl rfl (i := (f12 (a1 : Int32).toNatClampNeg)) hi_16 dX13_field_65 ?_
          refine lv_bipush (v := 6) hx hb dX13_field_66 (by decide) ?_
          refine lv_icmp_ne (tgt := 98) hx hb dX13_field_68 (by decide) (fun c_17 => ?_) (fun c_17 => ?_)
          · rw [if_neg c_17] at hsp
            exact hj_98 (H, locs, ls, z_1, a1, (upd f19 (a1 : Int32).toNatClampNeg (-1)), u1_1, u1_2) ⟨lv_sub hl [1, 2] rfl, hS, hD.sub (ws' := [(h0, .inr (13, z_1)), (qf14, .inl (cf14, 9000, .inl f14)), (qf18, .inl (cf18, 9000, .inl f18)), (qf12, .inl (cf12, 9000, .inl f12)), (qf5, .inl (cf5, 3002, .inl f5)), (qf27, .inl (cf27, 400, .inl f27)), (qf29, .inl (cf29, 800, .inl f29)), (qf30, .inl (cf30, 800, .inl f30)), (qf34, .inl (cf34, 800, .inl f34)), (qf6, .inl (cf6, 3002, .inl f6)), (qf2, .inl (cf2, 3000, .inl f2)), (qf19, .inl (cf19, 9000, .inl (upd f19 (a1 : Int32).toNatClampNeg (-1)))), (qf16, .inl (cf16, 9000, .inl f16)), (qf35, .inl (cf35, 800, .inl f35))]) [9, 10, 11, 12, 13, 0, 1, 2, 3, 4, 5, 6, 7, 8] (by decide) rfl, hP.sub (ws' := [(h0, .inr (13, z_1)), (qf14, .inl (cf14, 9000, .inl f14)), (qf18, .inl (cf18, 9000, .inl f18)), (qf12, .inl (cf12, 9000, .inl f12)), (qf5, .inl (cf5, 3002, .inl f5)), (qf27, .inl (cf27, 400, .inl f27)), (qf29, .inl (cf29, 800, .inl f29)), (qf30, .inl (cf30, 800, .inl f30)), (qf34, .inl (cf34, 800, .inl f34)), (qf6, .inl (cf6, 3002, .inl f6)), (qf2, .inl (cf2, 3000, .inl f2)), (qf19, .inl (cf19, 9000, .inl (upd f19 (a1 : Int32).toNatClampNeg (-1)))), (qf16, .inl (cf16, 9000, .inl f16)), (qf35, .inl (cf35, 800, .inl f35))]) [9, 10, 11, 12, 13, 0, 1, 2, 3, 4, 5, 6, 7, 8] rfl, hfk_1_2, hfk_1_5, hfk_1_6, hch_1_9, hch_1_10, hfk_1_12, hfk_1_14, hfk_1_16, hfk_1_18, hfk_1_19, hfk_1_27, hfk_1_28, hfk_1_29, hfk_1_30, hfk_1_34, hfk_1_35, hln_1, hrq_1, hsp⟩
          · rw [if_pos c_17] at hsp
            refine lv_aload_n hx hb dX13_field_71 rfl (lv_at hl 1 rfl) ?_
            refine pw_ldcwS hx hb hown hZRS588 dX13_field_72 ?_
            refine lv_aload_n hx hb dX13_field_75 rfl (lv_at hl 1 rfl) ?_
            refine va_get (D := (dC, dI)) (ci := 13) (v := .ref qf5) (C := RX13) (T := TX13) (N := 155) hx hb hts uV_h9_X13 hown hK hP 9 rfl rfl 5 (by decide) (hts (.fieldLink RX13 19 "ClassMillModel" "from" "[I") mw_h9_91) (fun _ h9 => h9) hfk_1_5 dX13_field_76 ?_
            refine lv_aload_n hx hb dX13_field_79 rfl (lv_at hl 1 rfl) ?_
            refine va_get (D := (dC, dI)) (ci := 13) (v := .ref qf12) (C := RX13) (T := TX13) (N := 155) hx hb hts uV_h9_X13 hown hK hP 9 rfl rfl 12 (by decide) (hts (.fieldLink RX13 31 "ClassMillModel" "tok" "[I") mw_h9_40) (fun _ h9 => h9) hfk_1_12 dX13_field_80 ?_
            refine lv_iload_n hx hb dX13_field_83 rfl (lv_at hl 2 rfl) ?_
            obtain ⟨hi_18, hsp⟩ := ox_in hsp
            refine va_iald hx hb hK hP 12 11 rfl rfl (i := a1) hi_18 dX13_field_84 ?_
            obtain ⟨hi_19, hsp⟩ := ox_in hsp
            refine va_iald hx hb hK hP 13 12 rfl rfl (i := (f12 (a1 : Int32).toNatClampNeg)) hi_19 dX13_field_85 ?_
            refine lv_bipush (v := 6) hx hb dX13_field_86 (by decide) ?_
            obtain ⟨u6_0, hu_6, hsp⟩ := ox_bind hsp
            try dsimp only at hsp
            have hPc := hP.sub (ws' := [(h0, .inr (13, z_1)), (qf2, .inl (cf2, 3000, .inl f2))]) [9, 5] rfl
            have hDc := hD.sub (ws' := [(h0, .inr (13, z_1)), (qf2, .inl (cf2, 3000, .inl f2))]) [9, 5] (by decide) rfl
            have hKc := hK.sub (tys' := [(cf2, .int)]) [5] rfl
            have hFc := va_free (wc := [(h0, .inr (13, z_1)), (qf2, .inl (cf2, 3000, .inl f2))]) hD hS hA [9, 5] rfl
            refine va_calli (va_runV (As := [.ref hS588, .int (f5 ((f12 (a1 : Int32).toNatClampNeg) : Int32).toNatClampNeg), .int 6]) (rest := []) ⟨hx, hb, hml, hown, hts⟩ (vm_among l dC dI H.size h0 z_1 hS588 ((f5 ((f12 (a1 : Int32).toNatClampNeg) : Int32).toNatClampNeg)) 6 qf2 cf2 f2 nS588 fS588 qS588 nf u6_0 hln_1 hfk_1_2 hu_6) (cwV 3 hts gv_h9_7 rfl rfl rfl (by decide +kernel) ⟨Nat.le_of_ble_eq_true rfl, Nat.le_of_ble_eq_true rfl⟩) ⟨fun a U g mk q => by obtain ⟨q0, q1, qP, qK, qD, qhZWSa1⟩ := q; exact ⟨q0, q1, qP, va_K.moved (u := U) (U := U.calling g mk a) (Vm.Alike.refl U.vm) qK, qD, pz_W.moved (u := U) (U := U.calling g mk a) (Vm.Alike.refl U.vm) qhZWSa1⟩, va_recv hKc hPc (ci := 13) (q0 := 0) rfl rfl, fun U hU hW => ⟨rfl, by rw [hU], by rw [hU]; exact hPc, va_K.moved hW.alike hKc, hDc.weaken (fun _ _ _ _ => trivial), by rw [hU]; exact ((pz_W.moved hW.alike hZWS588).kept hS.2.1).narrow hFc⟩⟩ rfl rfl hl.1 rfl (lv_room (Nat.le_of_ble_eq_true rfl)) dX13_field_88 ⟨Nat.le_of_ble_eq_true rfl, Nat.le_of_ble_eq_true rfl⟩) hS (fun q _ h => hFc q h) hFc ?_
            clear hS
            intro r_20 u t H1 locs ht hvm hw hB hz1 hk1 hS
            obtain ⟨z_6, rfl⟩ : ∃ z, z = u := ⟨_, rfl⟩
            obtain ⟨hP1, hK1, hD1⟩ := hB
            rw [ht] at hP1
            have hK1 := va_K.moved hvm.symm hK1
            try dsimp only at hw
            have hPD := va_join (wr := [(qf27, .inl (cf27, 400, .inl f27)), (qf29, .inl (cf29, 800, .inl f29)), (qf30, .inl (cf30, 800, .inl f30)), (qf34, .inl (cf34, 800, .inl f34)), (qf6, .inl (cf6, 3002, .inl f6)), (qf19, .inl (cf19, 9000, .inl (upd f19 (a1 : Int32).toNatClampNeg (-1)))), (qf16, .inl (cf16, 9000, .inl f16)), (qf35, .inl (cf35, 800, .inl f35)), (qf14, .inl (cf14, 9000, .inl f14)), (qf18, .inl (cf18, 9000, .inl f18)), (qf12, .inl (cf12, 9000, .inl f12)), (qf5, .inl (cf5, 3002, .inl f5))]) (w1 := [(h0, .inr (13, z_6)), (qf2, .inl (cf2, 3000, .inl f2))]) hP hD [9, 5] [0, 1, 2, 3, 4, 6, 7, 8, 10, 11, 12, 13] rfl rfl (by decide) (by decide) hk1 hFc hP1 hD1
            clear hP hD
            obtain ⟨hP, hD⟩ := hPD
            replace hK := (hK.sub (tys' := [(cf27, .int), (cf29, .int), (cf30, .int), (cf34, .int), (cf6, .int), (cf19, .int), (cf16, .int), (cf35, .int), (cf14, .int), (cf18, .int), (cf12, .int), (cf5, .int)]) [0, 1, 2, 3, 4, 6, 7, 8, 9, 10, 11, 12] rfl).app hK1
            clear hPc hDc hKc hFc hP1 hK1 hD1 hz1 hk1 ht hvm
            generalize H1 = H at hP hS ⊢
            replace hP : va_P (dC, dI) vwCl [(qf27, .inl (cf27, 400, .inl f27)), (qf29, .inl (cf29, 800, .inl f29)), (qf30, .inl (cf30, 800, .inl f30)), (qf34, .inl (cf34, 800, .inl f34)), (qf6, .inl (cf6, 3002, .inl f6)), (qf19, .inl (cf19, 9000, .inl (upd f19 (a1 : Int32).toNatClampNeg (-1)))), (qf16, .inl (cf16, 9000, .inl f16)), (qf35, .inl (cf35, 800, .inl f35)), (qf14, .inl (cf14, 9000, .inl f14)), (qf18, .inl (cf18, 9000, .inl f18)), (qf12, .inl (cf12, 9000, .inl f12)), (qf5, .inl (cf5, 3002, .inl f5)), (h0, .inr (13, z_6)), (qf2, .inl (cf2, 3000, .inl f2))] H := hP
            replace hD : va_D A [(qf27, .inl (cf27, 400, .inl f27)), (qf29, .inl (cf29, 800, .inl f29)), (qf30, .inl (cf30, 800, .inl f30)), (qf34, .inl (cf34, 800, .inl f34)), (qf6, .inl (cf6, 3002, .inl f6)), (qf19, .inl (cf19, 9000, .inl (upd f19 (a1 : Int32).toNatClampNeg (-1)))), (qf16, .inl (cf16, 9000, .inl f16)), (qf35, .inl (cf35, 800, .inl f35)), (qf14, .inl (cf14, 9000, .inl f14)), (qf18, .inl (cf18, 9000, .inl f18)), (qf12, .inl (cf12, 9000, .inl f12)), (qf5, .inl (cf5, 3002, .inl f5)), (h0, .inr (13, z_6)), (qf2, .inl (cf2, 3000, .inl f2))] := hD
            replace hK : va_K (dC, dI) vwCl [(cf27, .int), (cf29, .int), (cf30, .int), (cf34, .int), (cf6, .int), (cf19, .int), (cf16, .int), (cf35, .int), (cf14, .int), (cf18, .int), (cf12, .int), (cf5, .int), (cf2, .int)] s := hK
            obtain ⟨hwa_6, hln_6, hre_6⟩ := hw
            have hfk_6_2 : z_6[2]? = some (.ref qf2) := (hre_6 2 ).trans (hfk_1_2)
            have hfk_6_5 : z_6[5]? = some (.ref qf5) := (hre_6 5 ).trans (hfk_1_5)
            have hfk_6_6 : z_6[6]? = some (.ref qf6) := (hre_6 6 ).trans (hfk_1_6)
            have hfk_6_9 : z_6[9]? = some (.int u1_2) := (hre_6 9 ).trans (hch_1_9)
            have hfk_6_10 : z_6[10]? = some (.int u1_1) := (hre_6 10 ).trans (hch_1_10)
            have hfk_6_12 : z_6[12]? = some (.ref qf12) := (hre_6 12 ).trans (hfk_1_12)
            have hfk_6_14 : z_6[14]? = some (.ref qf14) := (hre_6 14 ).trans (hfk_1_14)
            have hfk_6_16 : z_6[16]? = some (.ref qf16) := (hre_6 16 ).trans (hfk_1_16)
            have hfk_6_18 : z_6[18]? = some (.ref qf18) := (hre_6 18 ).trans (hfk_1_18)
            have hfk_6_19 : z_6[19]? = some (.ref qf19) := (hre_6 19 ).trans (hfk_1_19)
            have hfk_6_27 : z_6[27]? = some (.ref qf27) := (hre_6 27 ).trans (hfk_1_27)
            have hfk_6_28 : z_6[28]? = some (.int v28) := (hre_6 28 ).trans (hfk_1_28)
            have hfk_6_29 : z_6[29]? = some (.ref qf29) := (hre_6 29 ).trans (hfk_1_29)
            have hfk_6_30 : z_6[30]? = some (.ref qf30) := (hre_6 30 ).trans (hfk_1_30)
            have hfk_6_34 : z_6[34]? = some (.ref qf34) := (hre_6 34 ).trans (hfk_1_34)
            have hfk_6_35 : z_6[35]? = some (.ref qf35) := (hre_6 35 ).trans (hfk_1_35)
            have hrq_6 : ∀ j : Nat, j ≠ 10 → j ≠ 9 → z_6[j]? = zs[j]? := fun j g10 g9 => (hre_6 j ).trans (hrq_1 j g10 g9)
            obtain rfl := hwa_6
            refine lv_if_ne (tgt := 98) hx hb dX13_field_91 (by decide) (fun c_21 => ?_) (fun c_21 => ?_)
            · rw [if_neg c_21] at hsp
              exact hj_98 (H, locs, ls, z_6, a1, (upd f19 (a1 : Int32).toNatClampNeg (-1)), u1_1, u1_2) ⟨lv_sub hl [1, 2] rfl, hS, hD.sub (ws' := [(h0, .inr (13, z_6)), (qf14, .inl (cf14, 9000, .inl f14)), (qf18, .inl (cf18, 9000, .inl f18)), (qf12, .inl (cf12, 9000, .inl f12)), (qf5, .inl (cf5, 3002, .inl f5)), (qf27, .inl (cf27, 400, .inl f27)), (qf29, .inl (cf29, 800, .inl f29)), (qf30, .inl (cf30, 800, .inl f30)), (qf34, .inl (cf34, 800, .inl f34)), (qf6, .inl (cf6, 3002, .inl f6)), (qf2, .inl (cf2, 3000, .inl f2)), (qf19, .inl (cf19, 9000, .inl (upd f19 (a1 : Int32).toNatClampNeg (-1)))), (qf16, .inl (cf16, 9000, .inl f16)), (qf35, .inl (cf35, 800, .inl f35))]) [12, 8, 9, 10, 11, 0, 1, 2, 3, 4, 13, 5, 6, 7] (by decide) rfl, hP.sub (ws' := [(h0, .inr (13, z_6)), (qf14, .inl (cf14, 9000, .inl f14)), (qf18, .inl (cf18, 9000, .inl f18)), (qf12, .inl (cf12, 9000, .inl f12)), (qf5, .inl (cf5, 3002, .inl f5)), (qf27, .inl (cf27, 400, .inl f27)), (qf29, .inl (cf29, 800, .inl f29)), (qf30, .inl (cf30, 800, .inl f30)), (qf34, .inl (cf34, 800, .inl f34)), (qf6, .inl (cf6, 3002, .inl f6)), (qf2, .inl (cf2, 3000, .inl f2)), (qf19, .inl (cf19, 9000, .inl (upd f19 (a1 : Int32).toNatClampNeg (-1)))), (qf16, .inl (cf16, 9000, .inl f16)), (qf35, .inl (cf35, 800, .inl f35))]) [12, 8, 9, 10, 11, 0, 1, 2, 3, 4, 13, 5, 6, 7] rfl, hfk_6_2, hfk_6_5, hfk_6_6, hfk_6_9, hfk_6_10, hfk_6_12, hfk_6_14, hfk_6_16, hfk_6_18, hfk_6_19, hfk_6_27, hfk_6_28, hfk_6_29, hfk_6_30, hfk_6_34, hfk_6_35, hln_6, hrq_6, hsp⟩
            · rw [if_pos c_21] at hsp
              refine lv_iconst (v := 1) hx hb dX13_field_94 (by decide) ?_
              refine lv_goto (tgt := 99) hx hb dX13_field_95 (by decide) ?_
              exact hj_99 (H, locs, ls, z_6, a1, 1, (upd f19 (a1 : Int32).toNatClampNeg (-1)), u1_1, u1_2) ⟨lv_sub hl [1, 2] rfl, hS, hD.sub (ws' := [(h0, .inr (13, z_6)), (qf14, .inl (cf14, 9000, .inl f14)), (qf18, .inl (cf18, 9000, .inl f18)), (qf12, .inl (cf12, 9000, .inl f12)), (qf5, .inl (cf5, 3002, .inl f5)), (qf27, .inl (cf27, 400, .inl f27)), (qf29, .inl (cf29, 800, .inl f29)), (qf30, .inl (cf30, 800, .inl f30)), (qf34, .inl (cf34, 800, .inl f34)), (qf6, .inl (cf6, 3002, .inl f6)), (qf2, .inl (cf2, 3000, .inl f2)), (qf19, .inl (cf19, 9000, .inl (upd f19 (a1 : Int32).toNatClampNeg (-1)))), (qf16, .inl (cf16, 9000, .inl f16)), (qf35, .inl (cf35, 800, .inl f35))]) [12, 8, 9, 10, 11, 0, 1, 2, 3, 4, 13, 5, 6, 7] (by decide) rfl, hP.sub (ws' := [(h0, .inr (13, z_6)), (qf14, .inl (cf14, 9000, .inl f14)), (qf18, .inl (cf18, 9000, .inl f18)), (qf12, .inl (cf12, 9000, .inl f12)), (qf5, .inl (cf5, 3002, .inl f5)), (qf27, .inl (cf27, 400, .inl f27)), (qf29, .inl (cf29, 800, .inl f29)), (qf30, .inl (cf30, 800, .inl f30)), (qf34, .inl (cf34, 800, .inl f34)), (qf6, .inl (cf6, 3002, .inl f6)), (qf2, .inl (cf2, 3000, .inl f2)), (qf19, .inl (cf19, 9000, .inl (upd f19 (a1 : Int32).toNatClampNeg (-1)))), (qf16, .inl (cf16, 9000, .inl f16)), (qf35, .inl (cf35, 800, .inl f35))]) [12, 8, 9, 10, 11, 0, 1, 2, 3, 4, 13, 5, 6, 7] rfl, hfk_6_2, hfk_6_5, hfk_6_6, hfk_6_9, hfk_6_10, hfk_6_12, hfk_6_14, hfk_6_16, hfk_6_18, hfk_6_19, hfk_6_27, hfk_6_28, hfk_6_29, hfk_6_30, hfk_6_34, hfk_6_35, hln_6, hrq_6, hsp⟩
  · rw [if_neg c_2] at hsp
    refine lv_iconst (v := 0) hx hb dX13_field_13 (by decide) ?_
    have hr0 := Option.some.inj hsp
    clear hsp
    obtain ⟨hq0, hr1⟩ := Prod.mk.inj hr0
    clear hr0
    obtain ⟨hq1, hr2⟩ := Prod.mk.inj hr1
    clear hr1
    obtain ⟨hq2, hr3⟩ := Prod.mk.inj hr2
    clear hr2
    subst hq0
    subst hq1
    subst hq2
    subst hr3
    have hP9 := hP.sub (ws' := [(h0, .inr (13, z_1)), (qf14, .inl (cf14, 9000, .inl f14)), (qf18, .inl (cf18, 9000, .inl f18)), (qf12, .inl (cf12, 9000, .inl f12)), (qf5, .inl (cf5, 3002, .inl f5)), (qf27, .inl (cf27, 400, .inl f27)), (qf29, .inl (cf29, 800, .inl f29)), (qf30, .inl (cf30, 800, .inl f30)), (qf34, .inl (cf34, 800, .inl f34)), (qf6, .inl (cf6, 3002, .inl f6)), (qf2, .inl (cf2, 3000, .inl f2)), (qf19, .inl (cf19, 9000, .inl f19)), (qf16, .inl (cf16, 9000, .inl f16)), (qf35, .inl (cf35, 800, .inl f35))]) [9, 10, 11, 12, 13, 0, 1, 2, 3, 4, 5, 6, 7, 8] rfl
    have hD9 := hD.sub (ws' := [(h0, .inr (13, z_1)), (qf14, .inl (cf14, 9000, .inl f14)), (qf18, .inl (cf18, 9000, .inl f18)), (qf12, .inl (cf12, 9000, .inl f12)), (qf5, .inl (cf5, 3002, .inl f5)), (qf27, .inl (cf27, 400, .inl f27)), (qf29, .inl (cf29, 800, .inl f29)), (qf30, .inl (cf30, 800, .inl f30)), (qf34, .inl (cf34, 800, .inl f34)), (qf6, .inl (cf6, 3002, .inl f6)), (qf2, .inl (cf2, 3000, .inl f2)), (qf19, .inl (cf19, 9000, .inl f19)), (qf16, .inl (cf16, 9000, .inl f16)), (qf35, .inl (cf35, 800, .inl f35))]) [9, 10, 11, 12, 13, 0, 1, 2, 3, 4, 5, 6, 7, 8] (by decide) rfl
    have hK9 := hK.sub (tys' := [(cf14, .int), (cf18, .int), (cf12, .int), (cf5, .int), (cf27, .int), (cf29, .int), (cf30, .int), (cf34, .int), (cf6, .int), (cf2, .int), (cf19, .int), (cf16, .int), (cf35, .int)]) [9, 10, 11, 12, 0, 1, 2, 3, 4, 5, 6, 7, 8] rfl
    exact W.iret hx hb hr (fun t ht hW => ⟨⟨(0), (z_1), rfl, ⟨rfl, hln_1, hrq_1, hch_1_10, hch_1_9⟩, by rw [ht]; exact hP9, va_K.moved hW.alike hK9, hD9⟩, hS.F ht⟩) hS.2.2 dX13_field_14
def lp_vm_spellClass_24 (nf n : Nat) (a1 : Int32) (v66 : Int32) (f65 : Nat → Int32) (f25 : Nat → Int32) (f6 : Nat → Int32) (f5 : Nat → Int32) (f2 : Nat → Int32) (nS477 : Nat) (fS477 : Nat → Int32)  (l1_24 : Int32) (l2_24 : Int32) (l3_24 : Int32) (g65_24 : Nat → Int32) (x66_24 : Int32) : Option ((Nat → Int32) × Int32) := match n with
  | 0 => none
  | n + 1 => (if (nI nS477) ≤ l3_24 then (some (g65_24, x66_24)) else (if l3_24 < 0 then none else if nS477 ≤ (l3_24 : Int32).toNatClampNeg then none else if 2147483648 ≤ nS477 then none else (if (((fS477 (l3_24 : Int32).toNatClampNeg) &&& 255).toUInt32 % 65536).toInt32 = 32 then (lp_vm_spellClass_24 nf n a1 v66 f65 f25 f6 f5 f2 nS477 fS477 l1_24 (l2_24 + 1) (l3_24 + 1) g65_24 x66_24) else (if l2_24 = l1_24 then (if l3_24 < 0 then none else if nS477 ≤ (l3_24 : Int32).toNatClampNeg then none else if 2147483648 ≤ nS477 then none else ((sp_tm_spell nf ((((fS477 (l3_24 : Int32).toNatClampNeg) &&& 255).toUInt32 % 65536).toInt32) x66_24 g65_24).bind (fun p1 => (lp_vm_spellClass_24 nf n a1 v66 f65 f25 f6 f5 f2 nS477 fS477 l1_24 l2_24 (l3_24 + 1) p1.1 p1.2)))) else (lp_vm_spellClass_24 nf n a1 v66 f65 f25 f6 f5 f2 nS477 fS477 l1_24 l2_24 (l3_24 + 1) g65_24 x66_24)))))
def sp_vm_spellClass (nf : Nat) (a1 : Int32) (v66 : Int32) (f65 : Nat → Int32) (f25 : Nat → Int32) (f6 : Nat → Int32) (f5 : Nat → Int32) (f2 : Nat → Int32) (nS477 : Nat) (fS477 : Nat → Int32) : Option ((Nat → Int32) × Int32) := (if a1 < 8 then (lp_vm_spellClass_24 nf nf a1 v66 f65 f25 f6 f5 f2 nS477 fS477  a1 (-1) 0 f65 v66) else (if (a1 - 8) < 0 then none else if 400 ≤ ((a1 - 8) : Int32).toNatClampNeg then none else ((sp_tn_spellToken nf (f25 ((a1 - 8) : Int32).toNatClampNeg) v66 f6 f5 f2 f65).bind (fun p2 => (some (p2.1, p2.2))))))
