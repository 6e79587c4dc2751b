set_option maxHeartbeats 4000000 in
set_option maxRecDepth 100000 in
/-- ClassMillModel.overrides -/
theorem vm_overrides (l : Launch) (dC : Nat → ClassId) (dI : Nat → Nat → Nat) (sz : Nat) (h0 : Nat) (zs : (List Value)) (a1 : Int32) (qf2 : Nat) (qf5 : Nat) (qf6 : Nat) (v9 : Int32) (v10 : Int32) (qf27 : Nat) (v28 : Int32) (qf29 : Nat) (qf30 : Nat) (qf34 : Nat) (qf35 : Nat) (qf36 : Nat) (qf37 : Nat) (qf44 : Nat) (cf29 : ClassId) (f29 : (Nat → Int32)) (cf27 : ClassId) (f27 : (Nat → Int32)) (cf34 : ClassId) (f34 : (Nat → Int32)) (cf30 : ClassId) (f30 : (Nat → Int32)) (cf6 : ClassId) (f6 : (Nat → Int32)) (cf5 : ClassId) (f5 : (Nat → Int32)) (cf2 : ClassId) (f2 : (Nat → Int32)) (cf35 : ClassId) (f35 : (Nat → Int32)) (cf37 : ClassId) (f37 : (Nat → Int32)) (cf36 : ClassId) (f36 : (Nat → Int32)) (cf44 : ClassId) (f44 : (Nat → Int32)) (nf : Nat) (w10 : Int32) (w9 : Int32) (hlen : zs.length = 155) (hf2 : zs[2]? = some (.ref qf2)) (hf5 : zs[5]? = some (.ref qf5)) (hf6 : zs[6]? = some (.ref qf6)) (hf9 : zs[9]? = some (.int v9)) (hf10 : zs[10]? = some (.int v10)) (hf27 : zs[27]? = some (.ref qf27)) (hf28 : zs[28]? = some (.int v28)) (hf29 : zs[29]? = some (.ref qf29)) (hf30 : zs[30]? = some (.ref qf30)) (hf34 : zs[34]? = some (.ref qf34)) (hf35 : zs[35]? = some (.ref qf35)) (hf36 : zs[36]? = some (.ref qf36)) (hf37 : zs[37]? = some (.ref qf37)) (hf44 : zs[44]? = some (.ref qf44)) (hsp : sp_vm_overrides nf a1 v9 v10 v28 f29 f27 f34 f30 f6 f5 f2 f35 f37 f36 f44 = some (w10, w9)) : Met l yX13_overrides (.code yX13_overrides cX13_overrides 5 none :: VS_h9) ({ frames := 2, cells := 0, slots := 0, locals := 49 }) (va_Pc [.ref h0, .int a1] (fun U => U.heap.size = sz ∧ va_P (dC, dI) vwCl [(h0, .inr (13, zs)), (qf29, .inl (cf29, 800, .inl f29)), (qf27, .inl (cf27, 400, .inl f27)), (qf34, .inl (cf34, 800, .inl f34)), (qf30, .inl (cf30, 800, .inl f30)), (qf6, .inl (cf6, 3002, .inl f6)), (qf5, .inl (cf5, 3002, .inl f5)), (qf2, .inl (cf2, 3000, .inl f2)), (qf35, .inl (cf35, 800, .inl f35)), (qf37, .inl (cf37, 800, .inl f37)), (qf36, .inl (cf36, 800, .inl f36)), (qf44, .inl (cf44, 1500, .inl f44))] U.heap ∧ va_K (dC, dI) vwCl [(cf29, .int), (cf27, .int), (cf34, .int), (cf30, .int), (cf6, .int), (cf5, .int), (cf2, .int), (cf35, .int), (cf37, .int), (cf36, .int), (cf44, .int)] U ∧ va_D (fun _ => True) [(h0, .inr (13, zs)), (qf29, .inl (cf29, 800, .inl f29)), (qf27, .inl (cf27, 400, .inl f27)), (qf34, .inl (cf34, 800, .inl f34)), (qf30, .inl (cf30, 800, .inl f30)), (qf6, .inl (cf6, 3002, .inl f6)), (qf5, .inl (cf5, 3002, .inl f5)), (qf2, .inl (cf2, 3000, .inl f2)), (qf35, .inl (cf35, 800, .inl f35)), (qf37, .inl (cf37, 800, .inl f37)), (qf36, .inl (cf36, 800, .inl f36)), (qf44, .inl (cf44, 1500, .inl f44))])) (va_Qv (fun (u : (List Value)) => match u with | (zo1) => True ∧ zo1.length = 155 ∧ (∀ j : Nat, j ≠ 10 → j ≠ 9 → zo1[j]? = zs[j]?) ∧ zo1[10]? = some (.int w10) ∧ zo1[9]? = some (.int w9)) (fun (u : (List Value)) (t : State) => match u with | (zo1) => va_P (dC, dI) vwCl [(h0, .inr (13, zo1)), (qf29, .inl (cf29, 800, .inl f29)), (qf27, .inl (cf27, 400, .inl f27)), (qf34, .inl (cf34, 800, .inl f34)), (qf30, .inl (cf30, 800, .inl f30)), (qf6, .inl (cf6, 3002, .inl f6)), (qf5, .inl (cf5, 3002, .inl f5)), (qf2, .inl (cf2, 3000, .inl f2)), (qf35, .inl (cf35, 800, .inl f35)), (qf37, .inl (cf37, 800, .inl f37)), (qf36, .inl (cf36, 800, .inl f36)), (qf44, .inl (cf44, 1500, .inl f44))] t.heap ∧ va_K (dC, dI) vwCl [(cf29, .int), (cf27, .int), (cf34, .int), (cf30, .int), (cf6, .int), (cf5, .int), (cf2, .int), (cf35, .int), (cf37, .int), (cf36, .int), (cf44, .int)] t ∧ va_D (va_A [(h0, .inr (13, zs)), (qf29, .inl (cf29, 800, .inl f29)), (qf27, .inl (cf27, 400, .inl f27)), (qf34, .inl (cf34, 800, .inl f34)), (qf30, .inl (cf30, 800, .inl f30)), (qf6, .inl (cf6, 3002, .inl f6)), (qf5, .inl (cf5, 3002, .inl f5)), (qf2, .inl (cf2, 3000, .inl f2)), (qf35, .inl (cf35, 800, .inl f35)), (qf37, .inl (cf37, 800, .inl f37)), (qf36, .inl (cf36, 800, .inl f36)), (qf44, .inl (cf44, 1500, .inl f44))] sz) [(h0, .inr (13, zo1)), (qf29, .inl (cf29, 800, .inl f29)), (qf27, .inl (cf27, 400, .inl f27)), (qf34, .inl (cf34, 800, .inl f34)), (qf30, .inl (cf30, 800, .inl f30)), (qf6, .inl (cf6, 3002, .inl f6)), (qf5, .inl (cf5, 3002, .inl f5)), (qf2, .inl (cf2, 3000, .inl f2)), (qf35, .inl (cf35, 800, .inl f35)), (qf37, .inl (cf37, 800, .inl f37)), (qf36, .inl (cf36, 800, .inl f36)), (qf44, .inl (cf44, 1500, .inl f44))]) (va_A [(h0, .inr (13, zs)), (qf29, .inl (cf29, 800, .inl f29)), (qf27, .inl (cf27, 400, .inl f27)), (qf34, .inl (cf34, 800, .inl f34)), (qf30, .inl (cf30, 800, .inl f30)), (qf6, .inl (cf6, 3002, .inl f6)), (qf5, .inl (cf5, 3002, .inl f5)), (qf2, .inl (cf2, 3000, .inl f2)), (qf35, .inl (cf35, 800, .inl f35)), (qf37, .inl (cf37, 800, .inl f37)), (qf36, .inl (cf36, 800, .inl f36)), (qf44, .inl (cf44, 1500, .inl f44))] sz)) 0 0 (va_A [(h0, .inr (13, zs)), (qf29, .inl (cf29, 800, .inl f29)), (qf27, .inl (cf27, 400, .inl f27)), (qf34, .inl (cf34, 800, .inl f34)), (qf30, .inl (cf30, 800, .inl f30)), (qf6, .inl (cf6, 3002, .inl f6)), (qf5, .inl (cf5, 3002, .inl f5)), (qf2, .inl (cf2, 3000, .inl f2)), (qf35, .inl (cf35, 800, .inl f35)), (qf37, .inl (cf37, 800, .inl f37)), (qf36, .inl (cf36, 800, .inl f36)), (qf44, .inl (cf44, 1500, .inl f44))] sz) := by
  refine Met.ofW (cc := cX13_overrides) (maxL := 5) (ret := none) (by decide) rfl ?_
  intro p e s m args below meth c s₁ B hml hv
  obtain ⟨rfl, hsz, hP, hK, hD0⟩ := hv
  have hx := B.exec
  have hb := B.bytes
  have hr := B.returns
  have hts := atoms_spec (ws := (.code yX13_overrides cX13_overrides 5 none :: VS_h9)) B.pre
  replace hts := fun w (h : w ∈ VS_h9) => hts w (List.mem_cons_of_mem _ h)
  have hown : s.vm.findClass RX13 = some m.cls := findClass_of_methodNamed B.named
  have hlocks := B.notSynchronized
  subst hsz
  have hD := hD0.self (sz := s.heap.size)
  generalize hAe : va_A [(h0, .inr (13, zs)), (qf29, .inl (cf29, 800, .inl f29)), (qf27, .inl (cf27, 400, .inl f27)), (qf34, .inl (cf34, 800, .inl f34)), (qf30, .inl (cf30, 800, .inl f30)), (qf6, .inl (cf6, 3002, .inl f6)), (qf5, .inl (cf5, 3002, .inl f5)), (qf2, .inl (cf2, 3000, .inl f2)), (qf35, .inl (cf35, 800, .inl f35)), (qf37, .inl (cf37, 800, .inl f37)), (qf36, .inl (cf36, 800, .inl f36)), (qf44, .inl (cf44, 1500, .inl f44))] s.heap.size = A at hD  ⊢
  have hA : ∀ q : Nat, s.heap.size ≤ q → A q := fun q h => by rw [← hAe]; exact Or.inr h
  have hP : va_P (dC, dI) vwCl [(h0, .inr (13, zs)), (qf29, .inl (cf29, 800, .inl f29)), (qf27, .inl (cf27, 400, .inl f27)), (qf34, .inl (cf34, 800, .inl f34)), (qf30, .inl (cf30, 800, .inl f30)), (qf6, .inl (cf6, 3002, .inl f6)), (qf5, .inl (cf5, 3002, .inl f5)), (qf2, .inl (cf2, 3000, .inl f2)), (qf35, .inl (cf35, 800, .inl f35)), (qf37, .inl (cf37, 800, .inl f37)), (qf36, .inl (cf36, 800, .inl f36)), (qf44, .inl (cf44, 1500, .inl f44))] s.heap := hP
  have hl := lv_entry ([.ref h0, .int a1]) (n := 5) (Nat.le_of_ble_eq_true rfl)
  rw [lg_entry_eq]
  generalize (lg_sl ([.ref h0, .int a1]) ++ List.replicate (5 - (lg_sl ([.ref h0, .int a1])).length) Slot.unset).toArray = ls at hl ⊢
  have hl : lv_has ls 5 [(0, .ref h0), (1, .int a1)] := hl
  obtain ⟨H, hH⟩ : ∃ H : Heap, s.heap = H := ⟨_, rfl⟩
  rw [hH] at hP ⊢
  have hS : va_S A s.heap H [] := by rw [← hH]; exact va_S.rf
  obtain ⟨locs, hlo⟩ : ∃ locs : List Loc, locs = [] := ⟨_, rfl⟩
  rw [← hlo] at hS ⊢
  have hrs0 : ∀ j : Nat, j ≠ 10 → j ≠ 9 → zs[j]? = zs[j]? := fun _ _ _  => rfl
  unfold sp_vm_overrides at hsp
  refine jn_use (α := Heap × List Loc × Array Slot × List Value × Int32 × Int32 × Int32 × Int32) (fun x9 => x9.1) (fun x9 => x9.2.1) (fun x9 => F0 m 148 x9.2.2.1 []) (fun x9 => match x9 with | (H, locs, ls, z148, l1_148, l3_148, x10_148, x9_148) => lv_has ls 5 [(0, .ref h0), (1, .int l1_148), (3, .int l3_148)] ∧ va_S A s.heap H locs ∧ va_D A [(h0, .inr (13, z148)), (qf29, .inl (cf29, 800, .inl f29)), (qf27, .inl (cf27, 400, .inl f27)), (qf34, .inl (cf34, 800, .inl f34)), (qf30, .inl (cf30, 800, .inl f30)), (qf6, .inl (cf6, 3002, .inl f6)), (qf5, .inl (cf5, 3002, .inl f5)), (qf2, .inl (cf2, 3000, .inl f2)), (qf35, .inl (cf35, 800, .inl f35)), (qf37, .inl (cf37, 800, .inl f37)), (qf36, .inl (cf36, 800, .inl f36)), (qf44, .inl (cf44, 1500, .inl f44))] ∧ va_P (dC, dI) vwCl [(h0, .inr (13, z148)), (qf29, .inl (cf29, 800, .inl f29)), (qf27, .inl (cf27, 400, .inl f27)), (qf34, .inl (cf34, 800, .inl f34)), (qf30, .inl (cf30, 800, .inl f30)), (qf6, .inl (cf6, 3002, .inl f6)), (qf5, .inl (cf5, 3002, .inl f5)), (qf2, .inl (cf2, 3000, .inl f2)), (qf35, .inl (cf35, 800, .inl f35)), (qf37, .inl (cf37, 800, .inl f37)), (qf36, .inl (cf36, 800, .inl f36)), (qf44, .inl (cf44, 1500, .inl f44))] H ∧ z148[2]? = some (.ref qf2) ∧ z148[5]? = some (.ref qf5) ∧ z148[6]? = some (.ref qf6) ∧ z148[9]? = some (.int x9_148) ∧ z148[10]? = some (.int x10_148) ∧ z148[27]? = some (.ref qf27) ∧ z148[28]? = some (.int v28) ∧ z148[29]? = some (.ref qf29) ∧ z148[30]? = some (.ref qf30) ∧ z148[34]? = some (.ref qf34) ∧ z148[35]? = some (.ref qf35) ∧ z148[36]? = some (.ref qf36) ∧ z148[37]? = some (.ref qf37) ∧ z148[44]? = some (.ref qf44) ∧ z148.length = 155 ∧ (∀ j : Nat, j ≠ 10 → j ≠ 9 → z148[j]? = zs[j]?) ∧ jn_vm_overrides_148 nf a1 v9 v10 v28 f29 f27 f34 f30 f6 f5 f2 f35 f37 f36 f44 l1_148 l3_148 x10_148 x9_148 = some (w10, w9)) ?_ ?_
  · intro x9 hJ9
    obtain ⟨H, locs, ls, z148, l1_148, l3_148, x10_148, x9_148⟩ := x9
    obtain ⟨hl, hS, hD, hP, hfh_148_2, hfh_148_5, hfh_148_6, hfh_148_9, hfh_148_10, hfh_148_27, hfh_148_28, hfh_148_29, hfh_148_30, hfh_148_34, hfh_148_35, hfh_148_36, hfh_148_37, hfh_148_44, hlh_148, hrh_148, hsp⟩ := hJ9
    replace hl : lv_has ls 5 [(0, .ref h0), (1, .int l1_148), (3, .int l3_148)] := hl
    replace hS : va_S A s.heap H locs := hS
    replace hD : va_D A [(h0, .inr (13, z148)), (qf29, .inl (cf29, 800, .inl f29)), (qf27, .inl (cf27, 400, .inl f27)), (qf34, .inl (cf34, 800, .inl f34)), (qf30, .inl (cf30, 800, .inl f30)), (qf6, .inl (cf6, 3002, .inl f6)), (qf5, .inl (cf5, 3002, .inl f5)), (qf2, .inl (cf2, 3000, .inl f2)), (qf35, .inl (cf35, 800, .inl f35)), (qf37, .inl (cf37, 800, .inl f37)), (qf36, .inl (cf36, 800, .inl f36)), (qf44, .inl (cf44, 1500, .inl f44))] := hD
    replace hP : va_P (dC, dI) vwCl [(h0, .inr (13, z148)), (qf29, .inl (cf29, 800, .inl f29)), (qf27, .inl (cf27, 400, .inl f27)), (qf34, .inl (cf34, 800, .inl f34)), (qf30, .inl (cf30, 800, .inl f30)), (qf6, .inl (cf6, 3002, .inl f6)), (qf5, .inl (cf5, 3002, .inl f5)), (qf2, .inl (cf2, 3000, .inl f2)), (qf35, .inl (cf35, 800, .inl f35)), (qf37, .inl (cf37, 800, .inl f37)), (qf36, .inl (cf36, 800, .inl f36)), (qf44, .inl (cf44, 1500, .inl f44))] H := hP
    replace hsp : jn_vm_overrides_148 nf a1 v9 v10 v28 f29 f27 f34 f30 f6 f5 f2 f35 f37 f36 f44 l1_148 l3_148 x10_148 x9_148 = some (w10, w9) := hsp
    show W _ _ _ _ _ _ _ _ _ _ H locs _ _ _ (F0 m 148 ls [])
    unfold jn_vm_overrides_148 at hsp
    try dsimp only at hsp
    refine lv_iload_n hx hb dX13_overrides_148 rfl (lv_at hl 2 rfl) ?_
    refine lv_if_ne (tgt := 164) hx hb dX13_overrides_149 (by decide) (fun c_24 => ?_) (fun c_24 => ?_)
    · rw [if_neg c_24] at hsp
      have hr0 := Option.some.inj hsp
      clear hsp
      obtain ⟨hq0, hr1⟩ := Prod.mk.inj hr0
      clear hr0
      subst hq0
      subst hr1
      have hP9 := hP.sub (ws' := [(h0, .inr (13, z148)), (qf29, .inl (cf29, 800, .inl f29)), (qf27, .inl (cf27, 400, .inl f27)), (qf34, .inl (cf34, 800, .inl f34)), (qf30, .inl (cf30, 800, .inl f30)), (qf6, .inl (cf6, 3002, .inl f6)), (qf5, .inl (cf5, 3002, .inl f5)), (qf2, .inl (cf2, 3000, .inl f2)), (qf35, .inl (cf35, 800, .inl f35)), (qf37, .inl (cf37, 800, .inl f37)), (qf36, .inl (cf36, 800, .inl f36)), (qf44, .inl (cf44, 1500, .inl f44))]) [0, 1, 2, 3, 4, 5, 6, 7, 8, 9, 10, 11] rfl
      have hD9 := hD.sub (ws' := [(h0, .inr (13, z148)), (qf29, .inl (cf29, 800, .inl f29)), (qf27, .inl (cf27, 400, .inl f27)), (qf34, .inl (cf34, 800, .inl f34)), (qf30, .inl (cf30, 800, .inl f30)), (qf6, .inl (cf6, 3002, .inl f6)), (qf5, .inl (cf5, 3002, .inl f5)), (qf2, .inl (cf2, 3000, .inl f2)), (qf35, .inl (cf35, 800, .inl f35)), (qf37, .inl (cf37, 800, .inl f37)), (qf36, .inl (cf36, 800, .inl f36)), (qf44, .inl (cf44, 1500, .inl f44))]) [0, 1, 2, 3, 4, 5, 6, 7, 8, 9, 10, 11] (by decide) rfl
      have hK9 := hK.sub (tys' := [(cf29, .int), (cf27, .int), (cf34, .int), (cf30, .int), (cf6, .int), (cf5, .int), (cf2, .int), (cf35, .int), (cf37, .int), (cf36, .int), (cf44, .int)]) [0, 1, 2, 3, 4, 5, 6, 7, 8, 9, 10] rfl
      exact W.vret hx hb hr (fun t ht hW => ⟨⟨(z148), rfl, ⟨trivial, hlh_148, hrh_148, hfh_148_10, hfh_148_9⟩, by rw [ht]; exact hP9, va_K.moved hW.alike hK9, hD9⟩, hS.F ht⟩) hS.2.2 dX13_overrides_164
    · rw [if_pos c_24] at hsp
      refine lv_aload_n hx hb dX13_overrides_152 rfl (lv_at hl 0 rfl) ?_
      refine lv_bipush (v := 10) hx hb dX13_overrides_153 (by decide) ?_
      refine lv_aload_n hx hb dX13_overrides_155 rfl (lv_at hl 0 rfl) ?_
      refine va_get (D := (dC, dI)) (ci := 13) (v := .ref qf34) (C := RX13) (T := TX13) (N := 155) hx hb hts uV_h9_X13 hown hK hP 0 rfl rfl 34 (by decide) (hts (.fieldLink RX13 86 "ClassMillModel" "memberName" "[I") mw_h9_118) (fun _ h9 => h9) hfh_148_34 dX13_overrides_156 ?_
      refine lv_iload_n hx hb dX13_overrides_159 rfl (lv_at hl 1 rfl) ?_
      obtain ⟨hi_25, hsp⟩ := ox_in hsp
      refine va_iald hx hb hK hP 3 2 rfl rfl (i := l1_148) hi_25 dX13_overrides_160 ?_
      obtain ⟨⟨u3_0, u3_1⟩, hu_3, hsp⟩ := ox_bind hsp
      try dsimp only at hsp
      have hPc := hP.sub (ws' := [(h0, .inr (13, z148)), (qf5, .inl (cf5, 3002, .inl f5))]) [0, 6] rfl
      have hDc := hD.sub (ws' := [(h0, .inr (13, z148)), (qf5, .inl (cf5, 3002, .inl f5))]) [0, 6] (by decide) rfl
      have hKc := hK.sub (tys' := [(cf5, .int)]) [5] rfl
      have hFc := va_free (wc := [(h0, .inr (13, z148)), (qf5, .inl (cf5, 3002, .inl f5))]) hD hS hA [0, 6] rfl
      refine va_callv (va_runV (As := [.int 10, .int (f34 (l1_148 : Int32).toNatClampNeg)]) (rest := []) ⟨hx, hb, hml, hown, hts⟩ (tm_wrong l dC dI H.size h0 z148 10 ((f34 (l1_148 : Int32).toNatClampNeg)) qf5 x9_148 x10_148 cf5 f5 nf u3_0 u3_1 hlh_148 hfh_148_5 hfh_148_9 hfh_148_10 hu_3) (cwV 2 hts gv_h9_18 rfl rfl rfl (by decide +kernel) ⟨Nat.le_of_ble_eq_true rfl, Nat.le_of_ble_eq_true rfl⟩) ⟨fun a U g mk q => by obtain ⟨q0, q1, qP, qK, qD⟩ := q; exact ⟨q0, q1, qP, va_K.moved (u := U) (U := U.calling g mk a) (Vm.Alike.refl U.vm) qK, qD⟩, va_recv hKc hPc (ci := 13) (q0 := 0) rfl rfl, fun U hU hW => ⟨rfl, by rw [hU], by rw [hU]; exact hPc, va_K.moved hW.alike hKc, hDc.weaken (fun _ _ _ _ => trivial)⟩⟩ rfl rfl hl.1 rfl (lv_room (Nat.le_of_ble_eq_true rfl)) dX13_overrides_161 ⟨Nat.le_of_ble_eq_true rfl, Nat.le_of_ble_eq_true rfl⟩) hS (fun q _ h => hFc q h) hFc ?_
      clear hS
      intro u t H1 locs ht hvm hw hB hz1 hk1 hS
      obtain ⟨z_3, rfl⟩ : ∃ z, z = u := ⟨_, rfl⟩
      obtain ⟨hP1, hK1, hD1⟩ := hB
      rw [ht] at hP1
      have hK1 := va_K.moved hvm.symm hK1
      try dsimp only at hw
      have hPD := va_join (wr := [(qf29, .inl (cf29, 800, .inl f29)), (qf27, .inl (cf27, 400, .inl f27)), (qf34, .inl (cf34, 800, .inl f34)), (qf30, .inl (cf30, 800, .inl f30)), (qf6, .inl (cf6, 3002, .inl f6)), (qf2, .inl (cf2, 3000, .inl f2)), (qf35, .inl (cf35, 800, .inl f35)), (qf37, .inl (cf37, 800, .inl f37)), (qf36, .inl (cf36, 800, .inl f36)), (qf44, .inl (cf44, 1500, .inl f44))]) (w1 := [(h0, .inr (13, z_3)), (qf5, .inl (cf5, 3002, .inl f5))]) hP hD [0, 6] [1, 2, 3, 4, 5, 7, 8, 9, 10, 11] rfl rfl (by decide) (by decide) hk1 hFc hP1 hD1
      clear hP hD
      obtain ⟨hP, hD⟩ := hPD
      replace hK := (hK.sub (tys' := [(cf29, .int), (cf27, .int), (cf34, .int), (cf30, .int), (cf6, .int), (cf2, .int), (cf35, .int), (cf37, .int), (cf36, .int), (cf44, .int)]) [0, 1, 2, 3, 4, 6, 7, 8, 9, 10] rfl).app hK1
      clear hPc hDc hKc hFc hP1 hK1 hD1 hz1 hk1 ht hvm
      generalize H1 = H at hP hS ⊢
      replace hP : va_P (dC, dI) vwCl [(qf29, .inl (cf29, 800, .inl f29)), (qf27, .inl (cf27, 400, .inl f27)), (qf34, .inl (cf34, 800, .inl f34)), (qf30, .inl (cf30, 800, .inl f30)), (qf6, .inl (cf6, 3002, .inl f6)), (qf2, .inl (cf2, 3000, .inl f2)), (qf35, .inl (cf35, 800, .inl f35)), (qf37, .inl (cf37, 800, .inl f37)), (qf36, .inl (cf36, 800, .inl f36)), (qf44, .inl (cf44, 1500, .inl f44)), (h0, .inr (13, z_3)), (qf5, .inl (cf5, 3002, .inl f5))] H := hP
      replace hD : va_D A [(qf29, .inl (cf29, 800, .inl f29)), (qf27, .inl (cf27, 400, .inl f27)), (qf34, .inl (cf34, 800, .inl f34)), (qf30, .inl (cf30, 800, .inl f30)), (qf6, .inl (cf6, 3002, .inl f6)), (qf2, .inl (cf2, 3000, .inl f2)), (qf35, .inl (cf35, 800, .inl f35)), (qf37, .inl (cf37, 800, .inl f37)), (qf36, .inl (cf36, 800, .inl f36)), (qf44, .inl (cf44, 1500, .inl f44)), (h0, .inr (13, z_3)), (qf5, .inl (cf5, 3002, .inl f5))] := hD
      replace hK : va_K (dC, dI) vwCl [(cf29, .int), (cf27, .int), (cf34, .int), (cf30, .int), (cf6, .int), (cf2, .int), (cf35, .int), (cf37, .int), (cf36, .int), (cf44, .int), (cf5, .int)] s := hK
      obtain ⟨hwa_3, hln_3, hre_3, hch_3_10, hch_3_9⟩ := hw
      have hfk_3_2 : z_3[2]? = some (.ref qf2) := (hre_3 2 (by decide) (by decide)).trans (hfh_148_2)
      have hfk_3_5 : z_3[5]? = some (.ref qf5) := (hre_3 5 (by decide) (by decide)).trans (hfh_148_5)
      have hfk_3_6 : z_3[6]? = some (.ref qf6) := (hre_3 6 (by decide) (by decide)).trans (hfh_148_6)
      have hfk_3_27 : z_3[27]? = some (.ref qf27) := (hre_3 27 (by decide) (by decide)).trans (hfh_148_27)
      have hfk_3_28 : z_3[28]? = some (.int v28) := (hre_3 28 (by decide) (by decide)).trans (hfh_148_28)
      have hfk_3_29 : z_3[29]? = some (.ref qf29) := (hre_3 29 (by decide) (by decide)).trans (hfh_148_29)
      have hfk_3_30 : z_3[30]? = some (.ref qf30) := (hre_3 30 (by decide) (by decide)).trans (hfh_148_30)
      have hfk_3_34 : z_3[34]? = some (.ref qf34) := (hre_3 34 (by decide) (by decide)).trans (hfh_148_34)
      have hfk_3_35 : z_3[35]? = some (.ref qf35) := (hre_3 35 (by decide) (by decide)).trans (hfh_148_35)
      have hfk_3_36 : z_3[36]? = some (.ref qf36) := (hre_3 36 (by decide) (by decide)).trans (hfh_148_36)
      have hfk_3_37 : z_3[37]? = some (.ref qf37) := (hre_3 37 (by decide) (by decide)).trans (hfh_148_37)
      have hfk_3_44 : z_3[44]? = some (.ref qf44) := (hre_3 44 (by decide) (by decide)).trans (hfh_148_44)
      have hrq_3 : ∀ j : Nat, j ≠ 10 → j ≠ 9 → z_3[j]? = zs[j]? := fun j g10 g9 => (hre_3 j g10 g9).trans (hrh_148 j g10 g9)
      have hr0 := Option.some.inj hsp
      clear hsp
      obtain ⟨hq0, hr1⟩ := Prod.mk.inj hr0
      clear hr0
      subst hq0
      subst hr1
      have hP9 := hP.sub (ws' := [(h0, .inr (13, z_3)), (qf29, .inl (cf29, 800, .inl f29)), (qf27, .inl (cf27, 400, .inl f27)), (qf34, .inl (cf34, 800, .inl f34)), (qf30, .inl (cf30, 800, .inl f30)), (qf6, .inl (cf6, 3002, .inl f6)), (qf5, .inl (cf5, 3002, .inl f5)), (qf2, .inl (cf2, 3000, .inl f2)), (qf35, .inl (cf35, 800, .inl f35)), (qf37, .inl (cf37, 800, .inl f37)), (qf36, .inl (cf36, 800, .inl f36)), (qf44, .inl (cf44, 1500, .inl f44))]) [10, 0, 1, 2, 3, 4, 11, 5, 6, 7, 8, 9] rfl
      have hD9 := hD.sub (ws' := [(h0, .inr (13, z_3)), (qf29, .inl (cf29, 800, .inl f29)), (qf27, .inl (cf27, 400, .inl f27)), (qf34, .inl (cf34, 800, .inl f34)), (qf30, .inl (cf30, 800, .inl f30)), (qf6, .inl (cf6, 3002, .inl f6)), (qf5, .inl (cf5, 3002, .inl f5)), (qf2, .inl (cf2, 3000, .inl f2)), (qf35, .inl (cf35, 800, .inl f35)), (qf37, .inl (cf37, 800, .inl f37)), (qf36, .inl (cf36, 800, .inl f36)), (qf44, .inl (cf44, 1500, .inl f44))]) [10, 0, 1, 2, 3, 4, 11, 5, 6, 7, 8, 9] (by decide) rfl
      have hK9 := hK.sub (tys' := [(cf29, .int), (cf27, .int), (cf34, .int), (cf30, .int), (cf6, .int), (cf5, .int), (cf2, .int), (cf35, .int), (cf37, .int), (cf36, .int), (cf44, .int)]) [0, 1, 2, 3, 4, 10, 5, 6, 7, 8, 9] rfl
      exact W.vret hx hb hr (fun t ht hW => ⟨⟨(z_3), rfl, ⟨trivial, hln_3, hrq_3, hch_3_10, hch_3_9⟩, by rw [ht]; exact hP9, va_K.moved hW.alike hK9, hD9⟩, hS.F ht⟩) hS.2.2 dX13_overrides_164
  intro hj_148
  refine jn_use (α := Heap × List Loc × Array Slot × List Value × Int32 × Int32 × Int32 × Int32 × Int32) (fun x9 => x9.1) (fun x9 => x9.2.1) (fun x9 => F0 m 86 x9.2.2.1 [.int (x9.2.2.2.2.2.2.1)]) (fun x9 => match x9 with | (H, locs, ls, z86, l1_86, l2_86, s0_86, x10_86, x9_86) => lv_has ls 5 [(0, .ref h0), (1, .int l1_86), (2, .int l2_86)] ∧ va_S A s.heap H locs ∧ va_D A [(h0, .inr (13, z86)), (qf29, .inl (cf29, 800, .inl f29)), (qf27, .inl (cf27, 400, .inl f27)), (qf34, .inl (cf34, 800, .inl f34)), (qf30, .inl (cf30, 800, .inl f30)), (qf6, .inl (cf6, 3002, .inl f6)), (qf5, .inl (cf5, 3002, .inl f5)), (qf2, .inl (cf2, 3000, .inl f2)), (qf35, .inl (cf35, 800, .inl f35)), (qf37, .inl (cf37, 800, .inl f37)), (qf36, .inl (cf36, 800, .inl f36)), (qf44, .inl (cf44, 1500, .inl f44))] ∧ va_P (dC, dI) vwCl [(h0, .inr (13, z86)), (qf29, .inl (cf29, 800, .inl f29)), (qf27, .inl (cf27, 400, .inl f27)), (qf34, .inl (cf34, 800, .inl f34)), (qf30, .inl (cf30, 800, .inl f30)), (qf6, .inl (cf6, 3002, .inl f6)), (qf5, .inl (cf5, 3002, .inl f5)), (qf2, .inl (cf2, 3000, .inl f2)), (qf35, .inl (cf35, 800, .inl f35)), (qf37, .inl (cf37, 800, .inl f37)), (qf36, .inl (cf36, 800, .inl f36)), (qf44, .inl (cf44, 1500, .inl f44))] H ∧ z86[2]? = some (.ref qf2) ∧ z86[5]? = some (.ref qf5) ∧ z86[6]? = some (.ref qf6) ∧ z86[9]? = some (.int x9_86) ∧ z86[10]? = some (.int x10_86) ∧ z86[27]? = some (.ref qf27) ∧ z86[28]? = some (.int v28) ∧ z86[29]? = some (.ref qf29) ∧ z86[30]? = some (.ref qf30) ∧ z86[34]? = some (.ref qf34) ∧ z86[35]? = some (.ref qf35) ∧ z86[36]? = some (.ref qf36) ∧ z86[37]? = some (.ref qf37) ∧ z86[44]? = some (.ref qf44) ∧ z86.length = 155 ∧ (∀ j : Nat, j ≠ 10 → j ≠ 9 → z86[j]? = zs[j]?) ∧ jn_vm_overrides_86 nf a1 v9 v10 v28 f29 f27 f34 f30 f6 f5 f2 f35 f37 f36 f44 l1_86 l2_86 s0_86 x10_86 x9_86 = some (w10, w9)) ?_ ?_
  · intro x9 hJ9
    obtain ⟨H, locs, ls, z86, l1_86, l2_86, s0_86, x10_86, x9_86⟩ := x9
    obtain ⟨hl, hS, hD, hP, hfh_86_2, hfh_86_5, hfh_86_6, hfh_86_9, hfh_86_10, hfh_86_27, hfh_86_28, hfh_86_29, hfh_86_30, hfh_86_34, hfh_86_35, hfh_86_36, hfh_86_37, hfh_86_44, hlh_86, hrh_86, hsp⟩ := hJ9
    replace hl : lv_has ls 5 [(0, .ref h0), (1, .int l1_86), (2, .int l2_86)] := hl
    replace hS : va_S A s.heap H locs := hS
    replace hD : va_D A [(h0, .inr (13, z86)), (qf29, .inl (cf29, 800, .inl f29)), (qf27, .inl (cf27, 400, .inl f27)), (qf34, .inl (cf34, 800, .inl f34)), (qf30, .inl (cf30, 800, .inl f30)), (qf6, .inl (cf6, 3002, .inl f6)), (qf5, .inl (cf5, 3002, .inl f5)), (qf2, .inl (cf2, 3000, .inl f2)), (qf35, .inl (cf35, 800, .inl f35)), (qf37, .inl (cf37, 800, .inl f37)), (qf36, .inl (cf36, 800, .inl f36)), (qf44, .inl (cf44, 1500, .inl f44))] := hD
    replace hP : va_P (dC, dI) vwCl [(h0, .inr (13, z86)), (qf29, .inl (cf29, 800, .inl f29)), (qf27, .inl (cf27, 400, .inl f27)), (qf34, .inl (cf34, 800, .inl f34)), (qf30, .inl (cf30, 800, .inl f30)), (qf6, .inl (cf6, 3002, .inl f6)), (qf5, .inl (cf5, 3002, .inl f5)), (qf2, .inl (cf2, 3000, .inl f2)), (qf35, .inl (cf35, 800, .inl f35)), (qf37, .inl (cf37, 800, .inl f37)), (qf36, .inl (cf36, 800, .inl f36)), (qf44, .inl (cf44, 1500, .inl f44))] H := hP
    replace hsp : jn_vm_overrides_86 nf a1 v9 v10 v28 f29 f27 f34 f30 f6 f5 f2 f35 f37 f36 f44 l1_86 l2_86 s0_86 x10_86 x9_86 = some (w10, w9) := hsp
    show W _ _ _ _ _ _ _ _ _ _ H locs _ _ _ (F0 m 86 ls [.int s0_86])
    unfold jn_vm_overrides_86 at hsp
    try dsimp only at hsp
    refine lv_istore_n (lv' := [(3, .int s0_86), (0, .ref h0), (1, .int l1_86), (2, .int l2_86)]) hx hb dX13_overrides_86 rfl hl (by decide) rfl (fun ls hl => ?_)
    refine lv_iconst (v := 0) hx hb dX13_overrides_87 (by decide) ?_
    refine lv_istore (lv' := [(4, .int 0), (3, .int s0_86), (0, .ref h0), (1, .int l1_86), (2, .int l2_86)]) hx hb dX13_overrides_88 hl (by decide) rfl (fun ls hl => ?_)
    replace hl : lv_has ls 5 [(4, .int 0), (3, .int s0_86), (0, .ref h0), (1, .int l1_86), (2, .int l2_86)] := lv_sub hl [0, 1, 2, 3, 4] rfl
    replace hP := hP.sub (ws' := [(h0, .inr (13, z86)), (qf29, .inl (cf29, 800, .inl f29)), (qf27, .inl (cf27, 400, .inl f27)), (qf34, .inl (cf34, 800, .inl f34)), (qf30, .inl (cf30, 800, .inl f30)), (qf6, .inl (cf6, 3002, .inl f6)), (qf5, .inl (cf5, 3002, .inl f5)), (qf2, .inl (cf2, 3000, .inl f2)), (qf35, .inl (cf35, 800, .inl f35)), (qf37, .inl (cf37, 800, .inl f37)), (qf36, .inl (cf36, 800, .inl f36)), (qf44, .inl (cf44, 1500, .inl f44))]) [0, 1, 2, 3, 4, 5, 6, 7, 8, 9, 10, 11] rfl
    replace hD := hD.sub (ws' := [(h0, .inr (13, z86)), (qf29, .inl (cf29, 800, .inl f29)), (qf27, .inl (cf27, 400, .inl f27)), (qf34, .inl (cf34, 800, .inl f34)), (qf30, .inl (cf30, 800, .inl f30)), (qf6, .inl (cf6, 3002, .inl f6)), (qf5, .inl (cf5, 3002, .inl f5)), (qf2, .inl (cf2, 3000, .inl f2)), (qf35, .inl (cf35, 800, .inl f35)), (qf37, .inl (cf37, 800, .inl f37)), (qf36, .inl (cf36, 800, .inl f36)), (qf44, .inl (cf44, 1500, .inl f44))]) [0, 1, 2, 3, 4, 5, 6, 7, 8, 9, 10, 11] (by decide) rfl
    replace hK := hK.sub (tys' := [(cf29, .int), (cf27, .int), (cf34, .int), (cf30, .int), (cf6, .int), (cf5, .int), (cf2, .int), (cf35, .int), (cf37, .int), (cf36, .int), (cf44, .int)]) [0, 1, 2, 3, 4, 5, 6, 7, 8, 9, 10] rfl
    obtain ⟨n_90, hn_90⟩ : ∃ z : Nat, z = nf := ⟨_, rfl⟩
    obtain ⟨l1_90, el1_90⟩ : ∃ z : Int32, z = l1_86 := ⟨_, rfl⟩
    obtain ⟨l2_90, el2_90⟩ : ∃ z : Int32, z = l2_86 := ⟨_, rfl⟩
    obtain ⟨l3_90, el3_90⟩ : ∃ z : Int32, z = s0_86 := ⟨_, rfl⟩
    obtain ⟨l4_90, el4_90⟩ : ∃ z : Int32, z = 0 := ⟨_, rfl⟩
    obtain ⟨x10_90, ex10_90⟩ : ∃ z : Int32, z = x10_86 := ⟨_, rfl⟩
    obtain ⟨x9_90, ex9_90⟩ : ∃ z : Int32, z = x9_86 := ⟨_, rfl⟩
    replace hsp : lp_vm_overrides_90 nf n_90 a1 v9 v10 v28 f29 f27 f34 f30 f6 f5 f2 f35 f37 f36 f44 l1_90 l2_90 l3_90 l4_90 x10_90 x9_90 = some (w10, w9) := by rw [hn_90, el1_90, el2_90, el3_90, el4_90, ex10_90, ex9_90]; exact hsp
    replace hl : lv_has ls 5 [(4, .int l4_90), (3, .int l3_90), (0, .ref h0), (1, .int l1_90), (2, .int l2_90)] := by rw [el1_90, el2_90, el3_90, el4_90]; exact hl
    obtain ⟨z90, ez90⟩ : ∃ z : List Value, z = z86 := ⟨_, rfl⟩
    have hfh_90_2 : z90[2]? = some (.ref qf2) := by rw [ez90]; exact hfh_86_2
    have hfh_90_5 : z90[5]? = some (.ref qf5) := by rw [ez90]; exact hfh_86_5
    have hfh_90_6 : z90[6]? = some (.ref qf6) := by rw [ez90]; exact hfh_86_6
    have hfh_90_9 : z90[9]? = some (.int x9_90) := by rw [ez90, ex9_90]; exact hfh_86_9
    have hfh_90_10 : z90[10]? = some (.int x10_90) := by rw [ez90, ex10_90]; exact hfh_86_10
    have hfh_90_27 : z90[27]? = some (.ref qf27) := by rw [ez90]; exact hfh_86_27
    have hfh_90_28 : z90[28]? = some (.int v28) := by rw [ez90]; exact hfh_86_28
    have hfh_90_29 : z90[29]? = some (.ref qf29) := by rw [ez90]; exact hfh_86_29
    have hfh_90_30 : z90[30]? = some (.ref qf30) := by rw [ez90]; exact hfh_86_30
    have hfh_90_34 : z90[34]? = some (.ref qf34) := by rw [ez90]; exact hfh_86_34
    have hfh_90_35 : z90[35]? = some (.ref qf35) := by rw [ez90]; exact hfh_86_35
    have hfh_90_36 : z90[36]? = some (.ref qf36) := by rw [ez90]; exact hfh_86_36
    have hfh_90_37 : z90[37]? = some (.ref qf37) := by rw [ez90]; exact hfh_86_37
    have hfh_90_44 : z90[44]? = some (.ref qf44) := by rw [ez90]; exact hfh_86_44
    have hlh_90 : z90.length = 155 := by rw [ez90]; exact hlh_86
    have hrh_90 : ∀ j : Nat, j ≠ 10 → j ≠ 9 → z90[j]? = zs[j]? := by rw [ez90]; exact hrh_86
    replace hP : va_P (dC, dI) vwCl [(h0, .inr (13, z90)), (qf29, .inl (cf29, 800, .inl f29)), (qf27, .inl (cf27, 400, .inl f27)), (qf34, .inl (cf34, 800, .inl f34)), (qf30, .inl (cf30, 800, .inl f30)), (qf6, .inl (cf6, 3002, .inl f6)), (qf5, .inl (cf5, 3002, .inl f5)), (qf2, .inl (cf2, 3000, .inl f2)), (qf35, .inl (cf35, 800, .inl f35)), (qf37, .inl (cf37, 800, .inl f37)), (qf36, .inl (cf36, 800, .inl f36)), (qf44, .inl (cf44, 1500, .inl f44))] H := by rw [ez90]; exact hP
    replace hD : va_D A [(h0, .inr (13, z90)), (qf29, .inl (cf29, 800, .inl f29)), (qf27, .inl (cf27, 400, .inl f27)), (qf34, .inl (cf34, 800, .inl f34)), (qf30, .inl (cf30, 800, .inl f30)), (qf6, .inl (cf6, 3002, .inl f6)), (qf5, .inl (cf5, 3002, .inl f5)), (qf2, .inl (cf2, 3000, .inl f2)), (qf35, .inl (cf35, 800, .inl f35)), (qf37, .inl (cf37, 800, .inl f37)), (qf36, .inl (cf36, 800, .inl f36)), (qf44, .inl (cf44, 1500, .inl f44))] := by rw [ez90]; exact hD
    clear hn_90 ez90 el1_90 el2_90 el3_90 el4_90 ex10_90 ex9_90
    try clear hlo
    try clear hH
    revert hsp
    revert hP
    revert hD
    revert hS
    revert hl
    revert hrh_90
    revert hlh_90
    revert hfh_90_44
    revert hfh_90_37
    revert hfh_90_36
    revert hfh_90_35
    revert hfh_90_34
    revert hfh_90_30
    revert hfh_90_29
    revert hfh_90_28
    revert hfh_90_27
    revert hfh_90_10
    revert hfh_90_9
    revert hfh_90_6
    revert hfh_90_5
    revert hfh_90_2
    revert x9_90
    revert x10_90
    revert l4_90
    revert l3_90
    revert l2_90
    revert l1_90
    revert z90
    revert ls
    revert locs
    revert H
    induction n_90 with
    | zero => intro H locs ls z90 l1_90 l2_90 l3_90 l4_90 x10_90 x9_90 hfh_90_2 hfh_90_5 hfh_90_6 hfh_90_9 hfh_90_10 hfh_90_27 hfh_90_28 hfh_90_29 hfh_90_30 hfh_90_34 hfh_90_35 hfh_90_36 hfh_90_37 hfh_90_44 hlh_90 hrh_90 hl hS hD hP hsp; unfold lp_vm_overrides_90 at hsp; cases hsp
    | succ n_90 ih_90 =>
      intro H locs ls z90 l1_90 l2_90 l3_90 l4_90 x10_90 x9_90 hfh_90_2 hfh_90_5 hfh_90_6 hfh_90_9 hfh_90_10 hfh_90_27 hfh_90_28 hfh_90_29 hfh_90_30 hfh_90_34 hfh_90_35 hfh_90_36 hfh_90_37 hfh_90_44 hlh_90 hrh_90 hl hS hD hP hsp
      unfold lp_vm_overrides_90 at hsp
      try dsimp only at hsp
      refine lv_iload hx hb dX13_overrides_90 (lv_at hl 0 rfl) ?_
      refine lv_aload_n hx hb dX13_overrides_92 rfl (lv_at hl 2 rfl) ?_
      refine va_get (D := (dC, dI)) (ci := 13) (v := .ref qf37) (C := RX13) (T := TX13) (N := 155) hx hb hts uV_h9_X13 hown hK hP 0 rfl rfl 37 (by decide) (hts (.fieldLink RX13 95 "ClassMillModel" "memberMany" "[I") mw_h9_113) (fun _ h9 => h9) hfh_90_37 dX13_overrides_93 ?_
      refine lv_iload_n hx hb dX13_overrides_96 rfl (lv_at hl 3 rfl) ?_
      obtain ⟨hi_16, hsp⟩ := ox_in hsp
      refine va_iald hx hb hK hP 9 8 rfl rfl (i := l1_90) hi_16 dX13_overrides_97 ?_
      refine lv_icmp_ge (tgt := 148) hx hb dX13_overrides_98 (by decide) (fun c_17 => ?_) (fun c_17 => ?_)
      · rw [if_pos c_17] at hsp
        exact hj_148 (H, locs, ls, z90, l1_90, l3_90, x10_90, x9_90) ⟨lv_sub hl [2, 3, 1] rfl, hS, hD.sub (ws' := [(h0, .inr (13, z90)), (qf29, .inl (cf29, 800, .inl f29)), (qf27, .inl (cf27, 400, .inl f27)), (qf34, .inl (cf34, 800, .inl f34)), (qf30, .inl (cf30, 800, .inl f30)), (qf6, .inl (cf6, 3002, .inl f6)), (qf5, .inl (cf5, 3002, .inl f5)), (qf2, .inl (cf2, 3000, .inl f2)), (qf35, .inl (cf35, 800, .inl f35)), (qf37, .inl (cf37, 800, .inl f37)), (qf36, .inl (cf36, 800, .inl f36)), (qf44, .inl (cf44, 1500, .inl f44))]) [0, 1, 2, 3, 4, 5, 6, 7, 8, 9, 10, 11] (by decide) rfl, hP.sub (ws' := [(h0, .inr (13, z90)), (qf29, .inl (cf29, 800, .inl f29)), (qf27, .inl (cf27, 400, .inl f27)), (qf34, .inl (cf34, 800, .inl f34)), (qf30, .inl (cf30, 800, .inl f30)), (qf6, .inl (cf6, 3002, .inl f6)), (qf5, .inl (cf5, 3002, .inl f5)), (qf2, .inl (cf2, 3000, .inl f2)), (qf35, .inl (cf35, 800, .inl f35)), (qf37, .inl (cf37, 800, .inl f37)), (qf36, .inl (cf36, 800, .inl f36)), (qf44, .inl (cf44, 1500, .inl f44))]) [0, 1, 2, 3, 4, 5, 6, 7, 8, 9, 10, 11] rfl, hfh_90_2, hfh_90_5, hfh_90_6, hfh_90_9, hfh_90_10, hfh_90_27, hfh_90_28, hfh_90_29, hfh_90_30, hfh_90_34, hfh_90_35, hfh_90_36, hfh_90_37, hfh_90_44, hlh_90, hrh_90, hsp⟩
      · rw [if_neg c_17] at hsp
        refine lv_iload_n hx hb dX13_overrides_101 rfl (lv_at hl 1 rfl) ?_
        refine lv_if_eq (tgt := 148) hx hb dX13_overrides_102 (by decide) (fun c_18 => ?_) (fun c_18 => ?_)
        · rw [if_pos c_18] at hsp
          exact hj_148 (H, locs, ls, z90, l1_90, l3_90, x10_90, x9_90) ⟨lv_sub hl [2, 3, 1] rfl, hS, hD.sub (ws' := [(h0, .inr (13, z90)), (qf29, .inl (cf29, 800, .inl f29)), (qf27, .inl (cf27, 400, .inl f27)), (qf34, .inl (cf34, 800, .inl f34)), (qf30, .inl (cf30, 800, .inl f30)), (qf6, .inl (cf6, 3002, .inl f6)), (qf5, .inl (cf5, 3002, .inl f5)), (qf2, .inl (cf2, 3000, .inl f2)), (qf35, .inl (cf35, 800, .inl f35)), (qf37, .inl (cf37, 800, .inl f37)), (qf36, .inl (cf36, 800, .inl f36)), (qf44, .inl (cf44, 1500, .inl f44))]) [0, 1, 2, 3, 4, 5, 6, 7, 8, 9, 10, 11] (by decide) rfl, hP.sub (ws' := [(h0, .inr (13, z90)), (qf29, .inl (cf29, 800, .inl f29)), (qf27, .inl (cf27, 400, .inl f27)), (qf34, .inl (cf34, 800, .inl f34)), (qf30, .inl (cf30, 800, .inl f30)), (qf6, .inl (cf6, 3002, .inl f6)), (qf5, .inl (cf5, 3002, .inl f5)), (qf2, .inl (cf2, 3000, .inl f2)), (qf35, .inl (cf35, 800, .inl f35)), (qf37, .inl (cf37, 800, .inl f37)), (qf36, .inl (cf36, 800, .inl f36)), (qf44, .inl (cf44, 1500, .inl f44))]) [0, 1, 2, 3, 4, 5, 6, 7, 8, 9, 10, 11] rfl, hfh_90_2, hfh_90_5, hfh_90_6, hfh_90_9, hfh_90_10, hfh_90_27, hfh_90_28, hfh_90_29, hfh_90_30, hfh_90_34, hfh_90_35, hfh_90_36, hfh_90_37, hfh_90_44, hlh_90, hrh_90, hsp⟩
        · rw [if_neg c_18] at hsp
          refine lv_aload_n hx hb dX13_overrides_105 rfl (lv_at hl 2 rfl) ?_
          refine va_get (D := (dC, dI)) (ci := 13) (v := .ref qf44) (C := RX13) (T := TX13) (N := 155) hx hb hts uV_h9_X13 hown hK hP 0 rfl rfl 44 (by decide) (hts (.fieldLink RX13 113 "ClassMillModel" "parameterType" "[I") mw_h9_114) (fun _ h9 => h9) hfh_90_44 dX13_overrides_106 ?_
          refine lv_aload_n hx hb dX13_overrides_109 rfl (lv_at hl 2 rfl) ?_
          refine va_get (D := (dC, dI)) (ci := 13) (v := .ref qf36) (C := RX13) (T := TX13) (N := 155) hx hb hts uV_h9_X13 hown hK hP 0 rfl rfl 36 (by decide) (hts (.fieldLink RX13 92 "ClassMillModel" "memberFirst" "[I") mw_h9_111) (fun _ h9 => h9) hfh_90_36 dX13_overrides_110 ?_
          refine lv_iload_n hx hb dX13_overrides_113 rfl (lv_at hl 3 rfl) ?_
          obtain ⟨hi_19, hsp⟩ := ox_in hsp
          refine va_iald hx hb hK hP 10 9 rfl rfl (i := l1_90) hi_19 dX13_overrides_114 ?_
          refine lv_iload hx hb dX13_overrides_115 (lv_at hl 0 rfl) ?_
          refine lv_iadd hx hb dX13_overrides_117 ?_
          obtain ⟨hi_20, hsp⟩ := ox_in hsp
          refine va_iald hx hb hK hP 11 10 rfl rfl (i := ((f36 (l1_90 : Int32).toNatClampNeg) + l4_90)) hi_20 dX13_overrides_118 ?_
          refine lv_aload_n hx hb dX13_overrides_119 rfl (lv_at hl 2 rfl) ?_
          refine va_get (D := (dC, dI)) (ci := 13) (v := .ref qf44) (C := RX13) (T := TX13) (N := 155) hx hb hts uV_h9_X13 hown hK hP 0 rfl rfl 44 (by decide) (hts (.fieldLink RX13 113 "ClassMillModel" "parameterType" "[I") mw_h9_114) (fun _ h9 => h9) hfh_90_44 dX13_overrides_120 ?_
          refine lv_aload_n hx hb dX13_overrides_123 rfl (lv_at hl 2 rfl) ?_
          refine va_get (D := (dC, dI)) (ci := 13) (v := .ref qf36) (C := RX13) (T := TX13) (N := 155) hx hb hts uV_h9_X13 hown hK hP 0 rfl rfl 36 (by decide) (hts (.fieldLink RX13 92 "ClassMillModel" "memberFirst" "[I") mw_h9_111) (fun _ h9 => h9) hfh_90_36 dX13_overrides_124 ?_
          refine lv_iload_n hx hb dX13_overrides_127 rfl (lv_at hl 4 rfl) ?_
          obtain ⟨hi_21, hsp⟩ := ox_in hsp
          refine va_iald hx hb hK hP 10 9 rfl rfl (i := l2_90) hi_21 dX13_overrides_128 ?_
          refine lv_iload hx hb dX13_overrides_129 (lv_at hl 0 rfl) ?_
          refine lv_iadd hx hb dX13_overrides_131 ?_
          obtain ⟨hi_22, hsp⟩ := ox_in hsp
          refine va_iald hx hb hK hP 11 10 rfl rfl (i := ((f36 (l2_90 : Int32).toNatClampNeg) + l4_90)) hi_22 dX13_overrides_132 ?_
          refine lv_icmp_ne (tgt := 140) hx hb dX13_overrides_133 (by decide) (fun c_23 => ?_) (fun c_23 => ?_)
          · rw [if_neg c_23] at hsp
            refine lv_iconst (v := 0) hx hb dX13_overrides_140 (by decide) ?_
            refine lv_istore_n (lv' := [(3, .int 0), (4, .int l4_90), (0, .ref h0), (1, .int l1_90), (2, .int l2_90)]) hx hb dX13_overrides_141 rfl hl (by decide) rfl (fun ls hl => ?_)
            refine lv_iinc (v := (l4_90 + 1)) (lv' := [(4, .int (l4_90 + 1)), (3, .int 0), (0, .ref h0), (1, .int l1_90), (2, .int l2_90)]) hx hb dX13_overrides_142 hl (k := 1) rfl rfl (by decide) rfl (fun ls hl => ?_)
            refine lv_goto (tgt := 90) hx hb dX13_overrides_145 (by decide) ?_
            exact ih_90 H locs ls z90 l1_90 l2_90 0 (l4_90 + 1) x10_90 x9_90 (hfh_90_2) (hfh_90_5) (hfh_90_6) (hfh_90_9) (hfh_90_10) (hfh_90_27) (hfh_90_28) (hfh_90_29) (hfh_90_30) (hfh_90_34) (hfh_90_35) (hfh_90_36) (hfh_90_37) (hfh_90_44) hlh_90 hrh_90 (lv_sub hl [0, 1, 2, 3, 4] rfl) hS (hD.sub (ws' := [(h0, .inr (13, z90)), (qf29, .inl (cf29, 800, .inl f29)), (qf27, .inl (cf27, 400, .inl f27)), (qf34, .inl (cf34, 800, .inl f34)), (qf30, .inl (cf30, 800, .inl f30)), (qf6, .inl (cf6, 3002, .inl f6)), (qf5, .inl (cf5, 3002, .inl f5)), (qf2, .inl (cf2, 3000, .inl f2)), (qf35, .inl (cf35, 800, .inl f35)), (qf37, .inl (cf37, 800, .inl f37)), (qf36, .inl (cf36, 800, .inl f36)), (qf44, .inl (cf44, 1500, .inl f44))]) [0, 1, 2, 3, 4, 5, 6, 7, 8, 9, 10, 11] (by decide) rfl) (hP.sub (ws' := [(h0, .inr (13, z90)), (qf29, .inl (cf29, 800, .inl f29)), (qf27, .inl (cf27, 400, .inl f27)), (qf34, .inl (cf34, 800, .inl f34)), (qf30, .inl (cf30, 800, .inl f30)), (qf6, .inl (cf6, 3002, .inl f6)), (qf5, .inl (cf5, 3002, .inl f5)), (qf2, .inl (cf2, 3000, .inl f2)), (qf35, .inl (cf35, 800, .inl f35)), (qf37, .inl (cf37, 800, .inl f37)), (qf36, .inl (cf36, 800, .inl f36)), (qf44, .inl (cf44, 1500, .inl f44))]) [0, 1, 2, 3, 4, 5, 6, 7, 8, 9, 10, 11] rfl) hsp
          · rw [if_pos c_23] at hsp
            refine lv_iconst (v := 1) hx hb dX13_overrides_136 (by decide) ?_
            refine lv_goto (tgt := 141) hx hb dX13_overrides_137 (by decide) ?_
            refine lv_istore_n (lv' := [(3, .int 1), (4, .int l4_90), (0, .ref h0), (1, .int l1_90), (2, .int l2_90)]) hx hb dX13_overrides_141 rfl hl (by decide) rfl (fun ls hl => ?_)
            refine lv_iinc (v := (l4_90 + 1)) (lv' := [(4, .int (l4_90 + 1)), (3, .int 1), (0, .ref h0), (1, .int l1_90), (2, .int l2_90)]) hx hb dX13_overrides_142 hl (k := 1) rfl rfl (by decide) rfl (fun ls hl => ?_)
            refine lv_goto (tgt := 90) hx hb dX13_overrides_145 (by decide) ?_
            exact ih_90 H locs ls z90 l1_90 l2_90 1 (l4_90 + 1) x10_90 x9_90 (hfh_90_2) (hfh_90_5) (hfh_90_6) (hfh_90_9) (hfh_90_10) (hfh_90_27) (hfh_90_28) (hfh_90_29) (hfh_90_30) (hfh_90_34) (hfh_90_35) (hfh_90_36) (hfh_90_37) (hfh_90_44) hlh_90 hrh_90 (lv_sub hl [0, 1, 2, 3, 4] rfl) hS (hD.sub (ws' := [(h0, .inr (13, z90)), (qf29, .inl (cf29, 800, .inl f29)), (qf27, .inl (cf27, 400, .inl f27)), (qf34, .inl (cf34, 800, .inl f34)), (qf30, .inl (cf30, 800, .inl f30)), (qf6, .inl (cf6, 3002, .inl f6)), (qf5, .inl (cf5, 3002, .inl f5)), (qf2, .inl (cf2, 3000, .inl f2)), (qf35, .inl (cf35, 800, .inl f35)), (qf37, .inl (cf37, 800, .inl f37)), (qf36, .inl (cf36, 800, .inl f36)), (qf44, .inl (cf44, 1500, .inl f44))]) [0, 1, 2, 3, 4, 5, 6, 7, 8, 9, 10, 11] (by decide) rfl) (hP.sub (ws' := [(h0, .inr (13, z90)), (qf29, .inl (cf29, 800, .inl f29)), (qf27, .inl (cf27, 400, .inl f27)), (qf34, .inl (cf34, 800, .inl f34)), (qf30, .inl (cf30, 800, .inl f30)), (qf6, .inl (cf6, 3002, .inl f6)), (qf5, .inl (cf5, 3002, .inl f5)), (qf2, .inl (cf2, 3000, .inl f2)), (qf35, .inl (cf35, 800, .inl f35)), (qf37, .inl (cf37, 800, .inl f37)), (qf36, .inl (cf36, 800, .inl f36)), (qf44, .inl (cf44, 1500, .inl f44))]) [0, 1, 2, 3, 4, 5, 6, 7, 8, 9, 10, 11] rfl) hsp
  intro hj_86
  refine jn_use (α := Heap × List Loc × Array Slot × List Value × Int32 × Int32 × Int32 × Int32) (fun x9 => x9.1) (fun x9 => x9.2.1) (fun x9 => F0 m 85 x9.2.2.1 []) (fun x9 => match x9 with | (H, locs, ls, z85, l1_85, l2_85, x10_85, x9_85) => lv_has ls 5 [(0, .ref h0), (1, .int l1_85), (2, .int l2_85)] ∧ va_S A s.heap H locs ∧ va_D A [(h0, .inr (13, z85)), (qf29, .inl (cf29, 800, .inl f29)), (qf27, .inl (cf27, 400, .inl f27)), (qf34, .inl (cf34, 800, .inl f34)), (qf30, .inl (cf30, 800, .inl f30)), (qf6, .inl (cf6, 3002, .inl f6)), (qf5, .inl (cf5, 3002, .inl f5)), (qf2, .inl (cf2, 3000, .inl f2)), (qf35, .inl (cf35, 800, .inl f35)), (qf37, .inl (cf37, 800, .inl f37)), (qf36, .inl (cf36, 800, .inl f36)), (qf44, .inl (cf44, 1500, .inl f44))] ∧ va_P (dC, dI) vwCl [(h0, .inr (13, z85)), (qf29, .inl (cf29, 800, .inl f29)), (qf27, .inl (cf27, 400, .inl f27)), (qf34, .inl (cf34, 800, .inl f34)), (qf30, .inl (cf30, 800, .inl f30)), (qf6, .inl (cf6, 3002, .inl f6)), (qf5, .inl (cf5, 3002, .inl f5)), (qf2, .inl (cf2, 3000, .inl f2)), (qf35, .inl (cf35, 800, .inl f35)), (qf37, .inl (cf37, 800, .inl f37)), (qf36, .inl (cf36, 800, .inl f36)), (qf44, .inl (cf44, 1500, .inl f44))] H ∧ z85[2]? = some (.ref qf2) ∧ z85[5]? = some (.ref qf5) ∧ z85[6]? = some (.ref qf6) ∧ z85[9]? = some (.int x9_85) ∧ z85[10]? = some (.int x10_85) ∧ z85[27]? = some (.ref qf27) ∧ z85[28]? = some (.int v28) ∧ z85[29]? = some (.ref qf29) ∧ z85[30]? = some (.ref qf30) ∧ z85[34]? = some (.ref qf34) ∧ z85[35]? = some (.ref qf35) ∧ z85[36]? = some (.ref qf36) ∧ z85[37]? = some (.ref qf37) ∧ z85[44]? = some (.ref qf44) ∧ z85.length = 155 ∧ (∀ j : Nat, j ≠ 10 → j ≠ 9 → z85[j]? = zs[j]?) ∧ jn_vm_overrides_85 nf a1 v9 v10 v28 f29 f27 f34 f30 f6 f5 f2 f35 f37 f36 f44 l1_85 l2_85 x10_85 x9_85 = some (w10, w9)) ?_ ?_
  · intro x9 hJ9
    obtain ⟨H, locs, ls, z85, l1_85, l2_85, x10_85, x9_85⟩ := x9
    obtain ⟨hl, hS, hD, hP, hfh_85_2, hfh_85_5, hfh_85_6, hfh_85_9, hfh_85_10, hfh_85_27, hfh_85_28, hfh_85_29, hfh_85_30, hfh_85_34, hfh_85_35, hfh_85_36, hfh_85_37, hfh_85_44, hlh_85, hrh_85, hsp⟩ := hJ9
    replace hl : lv_has ls 5 [(0, .ref h0), (1, .int l1_85), (2, .int l2_85)] := hl
    replace hS : va_S A s.heap H locs := hS
    replace hD : va_D A [(h0, .inr (13, z85)), (qf29, .inl (cf29, 800, .inl f29)), (qf27, .inl (cf27, 400, .inl f27)), (qf34, .inl (cf34, 800, .inl f34)), (qf30, .inl (cf30, 800, .inl f30)), (qf6, .inl (cf6, 3002, .inl f6)), (qf5, .inl (cf5, 3002, .inl f5)), (qf2, .inl (cf2, 3000, .inl f2)), (qf35, .inl (cf35, 800, .inl f35)), (qf37, .inl (cf37, 800, .inl f37)), (qf36, .inl (cf36, 800, .inl f36)), (qf44, .inl (cf44, 1500, .inl f44))] := hD
    replace hP : va_P (dC, dI) vwCl [(h0, .inr (13, z85)), (qf29, .inl (cf29, 800, .inl f29)), (qf27, .inl (cf27, 400, .inl f27)), (qf34, .inl (cf34, 800, .inl f34)), (qf30, .inl (cf30, 800, .inl f30)), (qf6, .inl (cf6, 3002, .inl f6)), (qf5, .inl (cf5, 3002, .inl f5)), (qf2, .inl (cf2, 3000, .inl f2)), (qf35, .inl (cf35, 800, .inl f35)), (qf37, .inl (cf37, 800, .inl f37)), (qf36, .inl (cf36, 800, .inl f36)), (qf44, .inl (cf44, 1500, .inl f44))] H := hP
    replace hsp : jn_vm_overrides_85 nf a1 v9 v10 v28 f29 f27 f34 f30 f6 f5 f2 f35 f37 f36 f44 l1_85 l2_85 x10_85 x9_85 = some (w10, w9) := hsp
    show W _ _ _ _ _ _ _ _ _ _ H locs _ _ _ (F0 m 85 ls [])
    unfold jn_vm_overrides_85 at hsp
    try dsimp only at hsp
    refine lv_iconst (v := 0) hx hb dX13_overrides_85 (by decide) ?_
    exact hj_86 (H, locs, ls, z85, l1_85, l2_85, 0, x10_85, x9_85) ⟨lv_sub hl [0, 1, 2] rfl, hS, hD.sub (ws' := [(h0, .inr (13, z85)), (qf29, .inl (cf29, 800, .inl f29)), (qf27, .inl (cf27, 400, .inl f27)), (qf34, .inl (cf34, 800, .inl f34)), (qf30, .inl (cf30, 800, .inl f30)), (qf6, .inl (cf6, 3002, .inl f6)), (qf5, .inl (cf5, 3002, .inl f5)), (qf2, .inl (cf2, 3000, .inl f2)), (qf35, .inl (cf35, 800, .inl f35)), (qf37, .inl (cf37, 800, .inl f37)), (qf36, .inl (cf36, 800, .inl f36)), (qf44, .inl (cf44, 1500, .inl f44))]) [0, 1, 2, 3, 4, 5, 6, 7, 8, 9, 10, 11] (by decide) rfl, hP.sub (ws' := [(h0, .inr (13, z85)), (qf29, .inl (cf29, 800, .inl f29)), (qf27, .inl (cf27, 400, .inl f27)), (qf34, .inl (cf34, 800, .inl f34)), (qf30, .inl (cf30, 800, .inl f30)), (qf6, .inl (cf6, 3002, .inl f6)), (qf5, .inl (cf5, 3002, .inl f5)), (qf2, .inl (cf2, 3000, .inl f2)), (qf35, .inl (cf35, 800, .inl f35)), (qf37, .inl (cf37, 800, .inl f37)), (qf36, .inl (cf36, 800, .inl f36)), (qf44, .inl (cf44, 1500, .inl f44))]) [0, 1, 2, 3, 4, 5, 6, 7, 8, 9, 10, 11] rfl, hfh_85_2, hfh_85_5, hfh_85_6, hfh_85_9, hfh_85_10, hfh_85_27, hfh_85_28, hfh_85_29, hfh_85_30, hfh_85_34, hfh_85_35, hfh_85_36, hfh_85_37, hfh_85_44, hlh_85, hrh_85, hsp⟩
  intro hj_85
  refine lv_aload_n hx hb dX13_overrides_0 rfl (lv_at hl 0 rfl) ?_
  refine lv_aload_n hx hb dX13_overrides_1 rfl (lv_at hl 0 rfl) ?_
  refine lv_bipush (v := 8) hx hb dX13_overrides_2 (by decide) ?_
  refine lv_aload_n hx hb dX13_overrides_4 rfl (lv_at hl 0 rfl) ?_
  refine va_get (D := (dC, dI)) (ci := 13) (v := .ref qf29) (C := RX13) (T := TX13) (N := 155) hx hb hts uV_h9_X13 hown hK hP 0 rfl rfl 29 (by decide) (hts (.fieldLink RX13 71 "ClassMillModel" "memberClass" "[I") mw_h9_124) (fun _ h9 => h9) hf29 dX13_overrides_5 ?_
  refine lv_iload_n hx hb dX13_overrides_8 rfl (lv_at hl 1 rfl) ?_
  obtain ⟨hi_1, hsp⟩ := ox_in hsp
  refine va_iald hx hb hK hP 1 0 rfl rfl (i := a1) hi_1 dX13_overrides_9 ?_
  refine lv_iadd hx hb dX13_overrides_10 ?_
  obtain ⟨u1_0, hu_1, hsp⟩ := ox_bind hsp
  try dsimp only at hsp
  have hPc := hP.sub (ws' := [(h0, .inr (13, zs)), (qf27, .inl (cf27, 400, .inl f27))]) [0, 2] rfl
  have hDc := hD.sub (ws' := [(h0, .inr (13, zs)), (qf27, .inl (cf27, 400, .inl f27))]) [0, 2] (by decide) rfl
  have hKc := hK.sub (tys' := [(cf27, .int)]) [1] rfl
  have hFc := va_free (wc := [(h0, .inr (13, zs)), (qf27, .inl (cf27, 400, .inl f27))]) hD hS hA [0, 2] rfl
  refine va_calli (va_runV (As := [.int (8 + (f29 (a1 : Int32).toNatClampNeg))]) (rest := [.ref h0]) ⟨hx, hb, hml, hown, hts⟩ (tm_upperOf l dC dI H.size h0 zs ((8 + (f29 (a1 : Int32).toNatClampNeg))) qf27 cf27 f27 nf u1_0 hlen hf27 hu_1) (cwV 1 hts gv_h9_19 rfl rfl rfl (by decide +kernel) ⟨Nat.le_of_ble_eq_true rfl, Nat.le_of_ble_eq_true rfl⟩) ⟨fun a U g mk q => by obtain ⟨q0, q1, qP, qK, qD⟩ := q; exact ⟨q0, q1, qP, va_K.moved (u := U) (U := U.calling g mk a) (Vm.Alike.refl U.vm) qK, qD⟩, va_recv hKc hPc (ci := 13) (q0 := 0) rfl rfl, fun U hU hW => ⟨rfl, by rw [hU], by rw [hU]; exact hPc, va_K.moved hW.alike hKc, hDc.weaken (fun _ _ _ _ => trivial)⟩⟩ rfl rfl hl.1 rfl (lv_room (Nat.le_of_ble_eq_true rfl)) dX13_overrides_11 ⟨Nat.le_of_ble_eq_true rfl, Nat.le_of_ble_eq_true rfl⟩) hS (fun q _ h => hFc q h) hFc ?_
  clear hS
  intro r_2 u t H1 locs ht hvm hw hB hz1 hk1 hS
  obtain ⟨z_1, rfl⟩ : ∃ z, z = u := ⟨_, rfl⟩
  obtain ⟨hP1, hK1, hD1⟩ := hB
  rw [ht] at hP1
  have hK1 := va_K.moved hvm.symm hK1
  try dsimp only at hw
  have hPD := va_join (wr := [(qf29, .inl (cf29, 800, .inl f29)), (qf34, .inl (cf34, 800, .inl f34)), (qf30, .inl (cf30, 800, .inl f30)), (qf6, .inl (cf6, 3002, .inl f6)), (qf5, .inl (cf5, 3002, .inl f5)), (qf2, .inl (cf2, 3000, .inl f2)), (qf35, .inl (cf35, 800, .inl f35)), (qf37, .inl (cf37, 800, .inl f37)), (qf36, .inl (cf36, 800, .inl f36)), (qf44, .inl (cf44, 1500, .inl f44))]) (w1 := [(h0, .inr (13, z_1)), (qf27, .inl (cf27, 400, .inl f27))]) hP hD [0, 2] [1, 3, 4, 5, 6, 7, 8, 9, 10, 11] rfl rfl (by decide) (by decide) hk1 hFc hP1 hD1
  clear hP hD
  obtain ⟨hP, hD⟩ := hPD
  replace hK := (hK.sub (tys' := [(cf29, .int), (cf34, .int), (cf30, .int), (cf6, .int), (cf5, .int), (cf2, .int), (cf35, .int), (cf37, .int), (cf36, .int), (cf44, .int)]) [0, 2, 3, 4, 5, 6, 7, 8, 9, 10] rfl).app hK1
  clear hPc hDc hKc hFc hP1 hK1 hD1 hz1 hk1 ht hvm
  generalize H1 = H at hP hS ⊢
  replace hP : va_P (dC, dI) vwCl [(qf29, .inl (cf29, 800, .inl f29)), (qf34, .inl (cf34, 800, .inl f34)), (qf30, .inl (cf30, 800, .inl f30)), (qf6, .inl (cf6, 3002, .inl f6)), (qf5, .inl (cf5, 3002, .inl f5)), (qf2, .inl (cf2, 3000, .inl f2)), (qf35, .inl (cf35, 800, .inl f35)), (qf37, .inl (cf37, 800, .inl f37)), (qf36, .inl (cf36, 800, .inl f36)), (qf44, .inl (cf44, 1500, .inl f44)), (h0, .inr (13, z_1)), (qf27, .inl (cf27, 400, .inl f27))] H := hP
  replace hD : va_D A [(qf29, .inl (cf29, 800, .inl f29)), (qf34, .inl (cf34, 800, .inl f34)), (qf30, .inl (cf30, 800, .inl f30)), (qf6, .inl (cf6, 3002, .inl f6)), (qf5, .inl (cf5, 3002, .inl f5)), (qf2, .inl (cf2, 3000, .inl f2)), (qf35, .inl (cf35, 800, .inl f35)), (qf37, .inl (cf37, 800, .inl f37)), (qf36, .inl (cf36, 800, .inl f36)), (qf44, .inl (cf44, 1500, .inl f44)), (h0, .inr (13, z_1)), (qf27, .inl (cf27, 400, .inl f27))] := hD
  replace hK : va_K (dC, dI) vwCl [(cf29, .int), (cf34, .int), (cf30, .int), (cf6, .int), (cf5, .int), (cf2, .int), (cf35, .int), (cf37, .int), (cf36, .int), (cf44, .int), (cf27, .int)] s := hK
  obtain ⟨hwa_1, hln_1, hre_1⟩ := hw
  have hfk_1_2 : z_1[2]? = some (.ref qf2) := (hre_1 2 ).trans (hf2)
  have hfk_1_5 : z_1[5]? = some (.ref qf5) := (hre_1 5 ).trans (hf5)
  have hfk_1_6 : z_1[6]? = some (.ref qf6) := (hre_1 6 ).trans (hf6)
  have hfk_1_9 : z_1[9]? = some (.int v9) := (hre_1 9 ).trans (hf9)
  have hfk_1_10 : z_1[10]? = some (.int v10) := (hre_1 10 ).trans (hf10)
  have hfk_1_27 : z_1[27]? = some (.ref qf27) := (hre_1 27 ).trans (hf27)
  have hfk_1_28 : z_1[28]? = some (.int v28) := (hre_1 28 ).trans (hf28)
  have hfk_1_29 : z_1[29]? = some (.ref qf29) := (hre_1 29 ).trans (hf29)
  have hfk_1_30 : z_1[30]? = some (.ref qf30) := (hre_1 30 ).trans (hf30)
  have hfk_1_34 : z_1[34]? = some (.ref qf34) := (hre_1 34 ).trans (hf34)
  have hfk_1_35 : z_1[35]? = some (.ref qf35) := (hre_1 35 ).trans (hf35)
  have hfk_1_36 : z_1[36]? = some (.ref qf36) := (hre_1 36 ).trans (hf36)
  have hfk_1_37 : z_1[37]? = some (.ref qf37) := (hre_1 37 ).trans (hf37)
  have hfk_1_44 : z_1[44]? = some (.ref qf44) := (hre_1 44 ).trans (hf44)
  have hrq_1 : ∀ j : Nat, j ≠ 10 → j ≠ 9 → z_1[j]? = zs[j]? := fun j g10 g9 => (hre_1 j ).trans (hrs0 j g10 g9)
  obtain rfl := hwa_1
  refine lv_aload_n hx hb dX13_overrides_14 rfl (lv_at hl 0 rfl) ?_
  refine va_get (D := (dC, dI)) (ci := 13) (v := .ref qf34) (C := RX13) (T := TX13) (N := 155) hx hb hts uV_h9_X13 hown hK hP 10 rfl rfl 34 (by decide) (hts (.fieldLink RX13 86 "ClassMillModel" "memberName" "[I") mw_h9_118) (fun _ h9 => h9) hfk_1_34 dX13_overrides_15 ?_
  refine lv_iload_n hx hb dX13_overrides_18 rfl (lv_at hl 1 rfl) ?_
  obtain ⟨hi_3, hsp⟩ := ox_in hsp
  refine va_iald hx hb hK hP 1 1 rfl rfl (i := a1) hi_3 dX13_overrides_19 ?_
  refine lv_iconst (v := 1) hx hb dX13_overrides_20 (by decide) ?_
  obtain ⟨u2_0, hu_2, hsp⟩ := ox_bind hsp
  try dsimp only at hsp
  have hPc := hP.sub (ws' := [(h0, .inr (13, z_1)), (qf27, .inl (cf27, 400, .inl f27)), (qf29, .inl (cf29, 800, .inl f29)), (qf30, .inl (cf30, 800, .inl f30)), (qf34, .inl (cf34, 800, .inl f34)), (qf6, .inl (cf6, 3002, .inl f6)), (qf5, .inl (cf5, 3002, .inl f5)), (qf2, .inl (cf2, 3000, .inl f2))]) [10, 11, 0, 2, 1, 3, 4, 5] rfl
  have hDc := hD.sub (ws' := [(h0, .inr (13, z_1)), (qf27, .inl (cf27, 400, .inl f27)), (qf29, .inl (cf29, 800, .inl f29)), (qf30, .inl (cf30, 800, .inl f30)), (qf34, .inl (cf34, 800, .inl f34)), (qf6, .inl (cf6, 3002, .inl f6)), (qf5, .inl (cf5, 3002, .inl f5)), (qf2, .inl (cf2, 3000, .inl f2))]) [10, 11, 0, 2, 1, 3, 4, 5] (by decide) rfl
  have hKc := hK.sub (tys' := [(cf27, .int), (cf29, .int), (cf30, .int), (cf34, .int), (cf6, .int), (cf5, .int), (cf2, .int)]) [10, 0, 2, 1, 3, 4, 5] rfl
  have hFc := va_free (wc := [(h0, .inr (13, z_1)), (qf27, .inl (cf27, 400, .inl f27)), (qf29, .inl (cf29, 800, .inl f29)), (qf30, .inl (cf30, 800, .inl f30)), (qf34, .inl (cf34, 800, .inl f34)), (qf6, .inl (cf6, 3002, .inl f6)), (qf5, .inl (cf5, 3002, .inl f5)), (qf2, .inl (cf2, 3000, .inl f2))]) hD hS hA [10, 11, 0, 2, 1, 3, 4, 5] rfl
  refine va_calli (va_runV (As := [.int u1_0, .int (f34 (a1 : Int32).toNatClampNeg), .int 1]) (rest := []) ⟨hx, hb, hml, hown, hts⟩ (tn_memberOf l dC dI H.size h0 z_1 u1_0 ((f34 (a1 : Int32).toNatClampNeg)) 1 qf2 qf5 qf6 qf27 v28 qf29 qf30 qf34 cf27 f27 cf29 f29 cf30 f30 cf34 f34 cf6 f6 cf5 f5 cf2 f2 nf u2_0 hln_1 hfk_1_2 hfk_1_5 hfk_1_6 hfk_1_27 hfk_1_28 hfk_1_29 hfk_1_30 hfk_1_34 hu_2) (cwV 3 hts gv_h9_21 rfl rfl rfl (by decide +kernel) ⟨Nat.le_of_ble_eq_true rfl, Nat.le_of_ble_eq_true rfl⟩) ⟨fun a U g mk q => by obtain ⟨q0, q1, qP, qK, qD⟩ := q; exact ⟨q0, q1, qP, va_K.moved (u := U) (U := U.calling g mk a) (Vm.Alike.refl U.vm) qK, qD⟩, va_recv hKc hPc (ci := 13) (q0 := 0) rfl rfl, fun U hU hW => ⟨rfl, by rw [hU], by rw [hU]; exact hPc, va_K.moved hW.alike hKc, hDc.weaken (fun _ _ _ _ => trivial)⟩⟩ rfl rfl hl.1 rfl (lv_room (Nat.le_of_ble_eq_true rfl)) dX13_overrides_21 ⟨Nat.le_of_ble_eq_true rfl, Nat.le_of_ble_eq_true rfl⟩) hS (fun q _ h => hFc q h) hFc ?_
  clear hS
  intro r_4 u t H1 locs ht hvm hw hB hz1 hk1 hS
  obtain ⟨z_2, rfl⟩ : ∃ z, z = u := ⟨_, rfl⟩
  obtain ⟨hP1, hK1, hD1⟩ := hB
  rw [ht] at hP1
  have hK1 := va_K.moved hvm.symm hK1
  try dsimp only at hw
  have hPD := va_join (wr := [(qf35, .inl (cf35, 800, .inl f35)), (qf37, .inl (cf37, 800, .inl f37)), (qf36, .inl (cf36, 800, .inl f36)), (qf44, .inl (cf44, 1500, .inl f44))]) (w1 := [(h0, .inr (13, z_2)), (qf27, .inl (cf27, 400, .inl f27)), (qf29, .inl (cf29, 800, .inl f29)), (qf30, .inl (cf30, 800, .inl f30)), (qf34, .inl (cf34, 800, .inl f34)), (qf6, .inl (cf6, 3002, .inl f6)), (qf5, .inl (cf5, 3002, .inl f5)), (qf2, .inl (cf2, 3000, .inl f2))]) hP hD [10, 11, 0, 2, 1, 3, 4, 5] [6, 7, 8, 9] rfl rfl (by decide) (by decide) hk1 hFc hP1 hD1
  clear hP hD
  obtain ⟨hP, hD⟩ := hPD
  replace hK := (hK.sub (tys' := [(cf35, .int), (cf37, .int), (cf36, .int), (cf44, .int)]) [6, 7, 8, 9] rfl).app hK1
  clear hPc hDc hKc hFc hP1 hK1 hD1 hz1 hk1 ht hvm
  generalize H1 = H at hP hS ⊢
  replace hP : va_P (dC, dI) vwCl [(qf35, .inl (cf35, 800, .inl f35)), (qf37, .inl (cf37, 800, .inl f37)), (qf36, .inl (cf36, 800, .inl f36)), (qf44, .inl (cf44, 1500, .inl f44)), (h0, .inr (13, z_2)), (qf27, .inl (cf27, 400, .inl f27)), (qf29, .inl (cf29, 800, .inl f29)), (qf30, .inl (cf30, 800, .inl f30)), (qf34, .inl (cf34, 800, .inl f34)), (qf6, .inl (cf6, 3002, .inl f6)), (qf5, .inl (cf5, 3002, .inl f5)), (qf2, .inl (cf2, 3000, .inl f2))] H := hP
  replace hD : va_D A [(qf35, .inl (cf35, 800, .inl f35)), (qf37, .inl (cf37, 800, .inl f37)), (qf36, .inl (cf36, 800, .inl f36)), (qf44, .inl (cf44, 1500, .inl f44)), (h0, .inr (13, z_2)), (qf27, .inl (cf27, 400, .inl f27)), (qf29, .inl (cf29, 800, .inl f29)), (qf30, .inl (cf30, 800, .inl f30)), (qf34, .inl (cf34, 800, .inl f34)), (qf6, .inl (cf6, 3002, .inl f6)), (qf5, .inl (cf5, 3002, .inl f5)), (qf2, .inl (cf2, 3000, .inl f2))] := hD
  replace hK : va_K (dC, dI) vwCl [(cf35, .int), (cf37, .int), (cf36, .int), (cf44, .int), (cf27, .int), (cf29, .int), (cf30, .int), (cf34, .int), (cf6, .int), (cf5, .int), (cf2, .int)] s := hK
  obtain ⟨hwa_2, hln_2, hre_2⟩ := hw
  have hfk_2_2 : z_2[2]? = some (.ref qf2) := (hre_2 2 ).trans (hfk_1_2)
  have hfk_2_5 : z_2[5]? = some (.ref qf5) := (hre_2 5 ).trans (hfk_1_5)
  have hfk_2_6 : z_2[6]? = some (.ref qf6) := (hre_2 6 ).trans (hfk_1_6)
  have hfk_2_9 : z_2[9]? = some (.int v9) := (hre_2 9 ).trans (hfk_1_9)
  have hfk_2_10 : z_2[10]? = some (.int v10) := (hre_2 10 ).trans (hfk_1_10)
  have hfk_2_27 : z_2[27]? = some (.ref qf27) := (hre_2 27 ).trans (hfk_1_27)
  have hfk_2_28 : z_2[28]? = some (.int v28) := (hre_2 28 ).trans (hfk_1_28)
  have hfk_2_29 : z_2[29]? = some (.ref qf29) := (hre_2 29 ).trans (hfk_1_29)
  have hfk_2_30 : z_2[30]? = some (.ref qf30) := (hre_2 30 ).trans (hfk_1_30)
  have hfk_2_34 : z_2[34]? = some (.ref qf34) := (hre_2 34 ).trans (hfk_1_34)
  have hfk_2_35 : z_2[35]? = some (.ref qf35) := (hre_2 35 ).trans (hfk_1_35)
  have hfk_2_36 : z_2[36]? = some (.ref qf36) := (hre_2 36 ).trans (hfk_1_36)
  have hfk_2_37 : z_2[37]? = some (.ref qf37) := (hre_2 37 ).trans (hfk_1_37)
  have hfk_2_44 : z_2[44]? = some (.ref qf44) := (hre_2 44 ).trans (hfk_1_44)
  have hrq_2 : ∀ j : Nat, j ≠ 10 → j ≠ 9 → z_2[j]? = zs[j]? := fun j g10 g9 => (hre_2 j ).trans (hrq_1 j g10 g9)
  obtain rfl := hwa_2
  refine lv_istore_n (lv' := [(2, .int u2_0), (0, .ref h0), (1, .int a1)]) hx hb dX13_overrides_24 rfl hl (by decide) rfl (fun ls hl => ?_)
  refine lv_iload_n hx hb dX13_overrides_25 rfl (lv_at hl 0 rfl) ?_
  refine lv_iconst (v := (-1)) hx hb dX13_overrides_26 (by decide) ?_
  refine lv_icmp_ne (tgt := 31) hx hb dX13_overrides_27 (by decide) (fun c_5 => ?_) (fun c_5 => ?_)
  · rw [if_neg c_5] at hsp
    refine lv_aload_n hx hb dX13_overrides_31 rfl (lv_at hl 1 rfl) ?_
    refine va_get (D := (dC, dI)) (ci := 13) (v := .ref qf30) (C := RX13) (T := TX13) (N := 155) hx hb hts uV_h9_X13 hown hK hP 4 rfl rfl 30 (by decide) (hts (.fieldLink RX13 74 "ClassMillModel" "memberSort" "[I") mw_h9_123) (fun _ h9 => h9) hfk_2_30 dX13_overrides_32 ?_
    refine lv_iload_n hx hb dX13_overrides_35 rfl (lv_at hl 2 rfl) ?_
    obtain ⟨hi_6, hsp⟩ := ox_in hsp
    refine va_iald hx hb hK hP 7 6 rfl rfl (i := a1) hi_6 dX13_overrides_36 ?_
    refine lv_iconst (v := 1) hx hb dX13_overrides_37 (by decide) ?_
    refine lv_icmp_ne (tgt := 85) hx hb dX13_overrides_38 (by decide) (fun c_7 => ?_) (fun c_7 => ?_)
    · rw [if_neg c_7] at hsp
      exact hj_85 (H, locs, ls, z_2, a1, u2_0, v10, v9) ⟨lv_sub hl [1, 2, 0] rfl, hS, hD.sub (ws' := [(h0, .inr (13, z_2)), (qf29, .inl (cf29, 800, .inl f29)), (qf27, .inl (cf27, 400, .inl f27)), (qf34, .inl (cf34, 800, .inl f34)), (qf30, .inl (cf30, 800, .inl f30)), (qf6, .inl (cf6, 3002, .inl f6)), (qf5, .inl (cf5, 3002, .inl f5)), (qf2, .inl (cf2, 3000, .inl f2)), (qf35, .inl (cf35, 800, .inl f35)), (qf37, .inl (cf37, 800, .inl f37)), (qf36, .inl (cf36, 800, .inl f36)), (qf44, .inl (cf44, 1500, .inl f44))]) [4, 6, 5, 8, 7, 9, 10, 11, 0, 1, 2, 3] (by decide) rfl, hP.sub (ws' := [(h0, .inr (13, z_2)), (qf29, .inl (cf29, 800, .inl f29)), (qf27, .inl (cf27, 400, .inl f27)), (qf34, .inl (cf34, 800, .inl f34)), (qf30, .inl (cf30, 800, .inl f30)), (qf6, .inl (cf6, 3002, .inl f6)), (qf5, .inl (cf5, 3002, .inl f5)), (qf2, .inl (cf2, 3000, .inl f2)), (qf35, .inl (cf35, 800, .inl f35)), (qf37, .inl (cf37, 800, .inl f37)), (qf36, .inl (cf36, 800, .inl f36)), (qf44, .inl (cf44, 1500, .inl f44))]) [4, 6, 5, 8, 7, 9, 10, 11, 0, 1, 2, 3] rfl, hfk_2_2, hfk_2_5, hfk_2_6, hfk_2_9, hfk_2_10, hfk_2_27, hfk_2_28, hfk_2_29, hfk_2_30, hfk_2_34, hfk_2_35, hfk_2_36, hfk_2_37, hfk_2_44, hln_2, hrq_2, hsp⟩
    · rw [if_pos c_7] at hsp
      refine lv_aload_n hx hb dX13_overrides_41 rfl (lv_at hl 1 rfl) ?_
      refine va_get (D := (dC, dI)) (ci := 13) (v := .ref qf30) (C := RX13) (T := TX13) (N := 155) hx hb hts uV_h9_X13 hown hK hP 4 rfl rfl 30 (by decide) (hts (.fieldLink RX13 74 "ClassMillModel" "memberSort" "[I") mw_h9_123) (fun _ h9 => h9) hfk_2_30 dX13_overrides_42 ?_
      refine lv_iload_n hx hb dX13_overrides_45 rfl (lv_at hl 0 rfl) ?_
      obtain ⟨hi_8, hsp⟩ := ox_in hsp
      refine va_iald hx hb hK hP 7 6 rfl rfl (i := u2_0) hi_8 dX13_overrides_46 ?_
      refine lv_iconst (v := 1) hx hb dX13_overrides_47 (by decide) ?_
      refine lv_icmp_ne (tgt := 85) hx hb dX13_overrides_48 (by decide) (fun c_9 => ?_) (fun c_9 => ?_)
      · rw [if_neg c_9] at hsp
        exact hj_85 (H, locs, ls, z_2, a1, u2_0, v10, v9) ⟨lv_sub hl [1, 2, 0] rfl, hS, hD.sub (ws' := [(h0, .inr (13, z_2)), (qf29, .inl (cf29, 800, .inl f29)), (qf27, .inl (cf27, 400, .inl f27)), (qf34, .inl (cf34, 800, .inl f34)), (qf30, .inl (cf30, 800, .inl f30)), (qf6, .inl (cf6, 3002, .inl f6)), (qf5, .inl (cf5, 3002, .inl f5)), (qf2, .inl (cf2, 3000, .inl f2)), (qf35, .inl (cf35, 800, .inl f35)), (qf37, .inl (cf37, 800, .inl f37)), (qf36, .inl (cf36, 800, .inl f36)), (qf44, .inl (cf44, 1500, .inl f44))]) [4, 6, 5, 8, 7, 9, 10, 11, 0, 1, 2, 3] (by decide) rfl, hP.sub (ws' := [(h0, .inr (13, z_2)), (qf29, .inl (cf29, 800, .inl f29)), (qf27, .inl (cf27, 400, .inl f27)), (qf34, .inl (cf34, 800, .inl f34)), (qf30, .inl (cf30, 800, .inl f30)), (qf6, .inl (cf6, 3002, .inl f6)), (qf5, .inl (cf5, 3002, .inl f5)), (qf2, .inl (cf2, 3000, .inl f2)), (qf35, .inl (cf35, 800, .inl f35)), (qf37, .inl (cf37, 800, .inl f37)), (qf36, .inl (cf36, 800, .inl f36)), (qf44, .inl (cf44, 1500, .inl f44))]) [4, 6, 5, 8, 7, 9, 10, 11, 0, 1, 2, 3] rfl, hfk_2_2, hfk_2_5, hfk_2_6, hfk_2_9, hfk_2_10, hfk_2_27, hfk_2_28, hfk_2_29, hfk_2_30, hfk_2_34, hfk_2_35, hfk_2_36, hfk_2_37, hfk_2_44, hln_2, hrq_2, hsp⟩
      · rw [if_pos c_9] at hsp
        refine lv_aload_n hx hb dX13_overrides_51 rfl (lv_at hl 1 rfl) ?_
        refine va_get (D := (dC, dI)) (ci := 13) (v := .ref qf35) (C := RX13) (T := TX13) (N := 155) hx hb hts uV_h9_X13 hown hK hP 4 rfl rfl 35 (by decide) (hts (.fieldLink RX13 89 "ClassMillModel" "memberType" "[I") mw_h9_119) (fun _ h9 => h9) hfk_2_35 dX13_overrides_52 ?_
        refine lv_iload_n hx hb dX13_overrides_55 rfl (lv_at hl 2 rfl) ?_
        obtain ⟨hi_10, hsp⟩ := ox_in hsp
        refine va_iald hx hb hK hP 0 0 rfl rfl (i := a1) hi_10 dX13_overrides_56 ?_
        refine lv_aload_n hx hb dX13_overrides_57 rfl (lv_at hl 1 rfl) ?_
        refine va_get (D := (dC, dI)) (ci := 13) (v := .ref qf35) (C := RX13) (T := TX13) (N := 155) hx hb hts uV_h9_X13 hown hK hP 4 rfl rfl 35 (by decide) (hts (.fieldLink RX13 89 "ClassMillModel" "memberType" "[I") mw_h9_119) (fun _ h9 => h9) hfk_2_35 dX13_overrides_58 ?_
        refine lv_iload_n hx hb dX13_overrides_61 rfl (lv_at hl 0 rfl) ?_
        obtain ⟨hi_11, hsp⟩ := ox_in hsp
        refine va_iald hx hb hK hP 0 0 rfl rfl (i := u2_0) hi_11 dX13_overrides_62 ?_
        refine lv_icmp_ne (tgt := 85) hx hb dX13_overrides_63 (by decide) (fun c_12 => ?_) (fun c_12 => ?_)
        · rw [if_neg c_12] at hsp
          exact hj_85 (H, locs, ls, z_2, a1, u2_0, v10, v9) ⟨lv_sub hl [1, 2, 0] rfl, hS, hD.sub (ws' := [(h0, .inr (13, z_2)), (qf29, .inl (cf29, 800, .inl f29)), (qf27, .inl (cf27, 400, .inl f27)), (qf34, .inl (cf34, 800, .inl f34)), (qf30, .inl (cf30, 800, .inl f30)), (qf6, .inl (cf6, 3002, .inl f6)), (qf5, .inl (cf5, 3002, .inl f5)), (qf2, .inl (cf2, 3000, .inl f2)), (qf35, .inl (cf35, 800, .inl f35)), (qf37, .inl (cf37, 800, .inl f37)), (qf36, .inl (cf36, 800, .inl f36)), (qf44, .inl (cf44, 1500, .inl f44))]) [4, 6, 5, 8, 7, 9, 10, 11, 0, 1, 2, 3] (by decide) rfl, hP.sub (ws' := [(h0, .inr (13, z_2)), (qf29, .inl (cf29, 800, .inl f29)), (qf27, .inl (cf27, 400, .inl f27)), (qf34, .inl (cf34, 800, .inl f34)), (qf30, .inl (cf30, 800, .inl f30)), (qf6, .inl (cf6, 3002, .inl f6)), (qf5, .inl (cf5, 3002, .inl f5)), (qf2, .inl (cf2, 3000, .inl f2)), (qf35, .inl (cf35, 800, .inl f35)), (qf37, .inl (cf37, 800, .inl f37)), (qf36, .inl (cf36, 800, .inl f36)), (qf44, .inl (cf44, 1500, .inl f44))]) [4, 6, 5, 8, 7, 9, 10, 11, 0, 1, 2, 3] rfl, hfk_2_2, hfk_2_5, hfk_2_6, hfk_2_9, hfk_2_10, hfk_2_27, hfk_2_28, hfk_2_29, hfk_2_30, hfk_2_34, hfk_2_35, hfk_2_36, hfk_2_37, hfk_2_44, hln_2, hrq_2, hsp⟩
        · rw [if_pos c_12] at hsp
          refine lv_aload_n hx hb dX13_overrides_66 rfl (lv_at hl 1 rfl) ?_
          refine va_get (D := (dC, dI)) (ci := 13) (v := .ref qf37) (C := RX13) (T := TX13) (N := 155) hx hb hts uV_h9_X13 hown hK hP 4 rfl rfl 37 (by decide) (hts (.fieldLink RX13 95 "ClassMillModel" "memberMany" "[I") mw_h9_113) (fun _ h9 => h9) hfk_2_37 dX13_overrides_67 ?_
          refine lv_iload_n hx hb dX13_overrides_70 rfl (lv_at hl 2 rfl) ?_
          obtain ⟨hi_13, hsp⟩ := ox_in hsp
          refine va_iald hx hb hK hP 1 1 rfl rfl (i := a1) hi_13 dX13_overrides_71 ?_
          refine lv_aload_n hx hb dX13_overrides_72 rfl (lv_at hl 1 rfl) ?_
          refine va_get (D := (dC, dI)) (ci := 13) (v := .ref qf37) (C := RX13) (T := TX13) (N := 155) hx hb hts uV_h9_X13 hown hK hP 4 rfl rfl 37 (by decide) (hts (.fieldLink RX13 95 "ClassMillModel" "memberMany" "[I") mw_h9_113) (fun _ h9 => h9) hfk_2_37 dX13_overrides_73 ?_
          refine lv_iload_n hx hb dX13_overrides_76 rfl (lv_at hl 0 rfl) ?_
          obtain ⟨hi_14, hsp⟩ := ox_in hsp
          refine va_iald hx hb hK hP 1 1 rfl rfl (i := u2_0) hi_14 dX13_overrides_77 ?_
          refine lv_icmp_ne (tgt := 85) hx hb dX13_overrides_78 (by decide) (fun c_15 => ?_) (fun c_15 => ?_)
          · rw [if_neg c_15] at hsp
            exact hj_85 (H, locs, ls, z_2, a1, u2_0, v10, v9) ⟨lv_sub hl [1, 2, 0] rfl, hS, hD.sub (ws' := [(h0, .inr (13, z_2)), (qf29, .inl (cf29, 800, .inl f29)), (qf27, .inl (cf27, 400, .inl f27)), (qf34, .inl (cf34, 800, .inl f34)), (qf30, .inl (cf30, 800, .inl f30)), (qf6, .inl (cf6, 3002, .inl f6)), (qf5, .inl (cf5, 3002, .inl f5)), (qf2, .inl (cf2, 3000, .inl f2)), (qf35, .inl (cf35, 800, .inl f35)), (qf37, .inl (cf37, 800, .inl f37)), (qf36, .inl (cf36, 800, .inl f36)), (qf44, .inl (cf44, 1500, .inl f44))]) [4, 6, 5, 8, 7, 9, 10, 11, 0, 1, 2, 3] (by decide) rfl, hP.sub (ws' := [(h0, .inr (13, z_2)), (qf29, .inl (cf29, 800, .inl f29)), (qf27, .inl (cf27, 400, .inl f27)), (qf34, .inl (cf34, 800, .inl f34)), (qf30, .inl (cf30, 800, .inl f30)), (qf6, .inl (cf6, 3002, .inl f6)), (qf5, .inl (cf5, 3002, .inl f5)), (qf2, .inl (cf2, 3000, .inl f2)), (qf35, .inl (cf35, 800, .inl f35)), (qf37, .inl (cf37, 800, .inl f37)), (qf36, .inl (cf36, 800, .inl f36)), (qf44, .inl (cf44, 1500, .inl f44))]) [4, 6, 5, 8, 7, 9, 10, 11, 0, 1, 2, 3] rfl, hfk_2_2, hfk_2_5, hfk_2_6, hfk_2_9, hfk_2_10, hfk_2_27, hfk_2_28, hfk_2_29, hfk_2_30, hfk_2_34, hfk_2_35, hfk_2_36, hfk_2_37, hfk_2_44, hln_2, hrq_2, hsp⟩
          · rw [if_pos c_15] at hsp
            refine lv_iconst (v := 1) hx hb dX13_overrides_81 (by decide) ?_
            refine lv_goto (tgt := 86) hx hb dX13_overrides_82 (by decide) ?_
            exact hj_86 (H, locs, ls, z_2, a1, u2_0, 1, v10, v9) ⟨lv_sub hl [1, 2, 0] rfl, hS, hD.sub (ws' := [(h0, .inr (13, z_2)), (qf29, .inl (cf29, 800, .inl f29)), (qf27, .inl (cf27, 400, .inl f27)), (qf34, .inl (cf34, 800, .inl f34)), (qf30, .inl (cf30, 800, .inl f30)), (qf6, .inl (cf6, 3002, .inl f6)), (qf5, .inl (cf5, 3002, .inl f5)), (qf2, .inl (cf2, 3000, .inl f2)), (qf35, .inl (cf35, 800, .inl f35)), (qf37, .inl (cf37, 800, .inl f37)), (qf36, .inl (cf36, 800, .inl f36)), (qf44, .inl (cf44, 1500, .inl f44))]) [4, 6, 5, 8, 7, 9, 10, 11, 0, 1, 2, 3] (by decide) rfl, hP.sub (ws' := [(h0, .inr (13, z_2)), (qf29, .inl (cf29, 800, .inl f29)), (qf27, .inl (cf27, 400, .inl f27)), (qf34, .inl (cf34, 800, .inl f34)), (qf30, .inl (cf30, 800, .inl f30)), (qf6, .inl (cf6, 3002, .inl f6)), (qf5, .inl (cf5, 3002, .inl f5)), (qf2, .inl (cf2, 3000, .inl f2)), (qf35, .inl (cf35, 800, .inl f35)), (qf37, .inl (cf37, 800, .inl f37)), (qf36, .inl (cf36, 800, .inl f36)), (qf44, .inl (cf44, 1500, .inl f44))]) [4, 6, 5, 8, 7, 9, 10, 11, 0, 1, 2, 3] rfl, hfk_2_2, hfk_2_5, hfk_2_6, hfk_2_9, hfk_2_10, hfk_2_27, hfk_2_28, hfk_2_29, hfk_2_30, hfk_2_34, hfk_2_35, hfk_2_36, hfk_2_37, hfk_2_44, hln_2, hrq_2, hsp⟩
  · rw [if_pos c_5] at hsp
    have hr0 := Option.some.inj hsp
    clear hsp
    obtain ⟨hq0, hr1⟩ := Prod.mk.inj hr0
    clear hr0
    subst hq0
    subst hr1
    have hP9 := hP.sub (ws' := [(h0, .inr (13, z_2)), (qf29, .inl (cf29, 800, .inl f29)), (qf27, .inl (cf27, 400, .inl f27)), (qf34, .inl (cf34, 800, .inl f34)), (qf30, .inl (cf30, 800, .inl f30)), (qf6, .inl (cf6, 3002, .inl f6)), (qf5, .inl (cf5, 3002, .inl f5)), (qf2, .inl (cf2, 3000, .inl f2)), (qf35, .inl (cf35, 800, .inl f35)), (qf37, .inl (cf37, 800, .inl f37)), (qf36, .inl (cf36, 800, .inl f36)), (qf44, .inl (cf44, 1500, .inl f44))]) [4, 6, 5, 8, 7, 9, 10, 11, 0, 1, 2, 3] rfl
    have hD9 := hD.sub (ws' := [(h0, .inr (13, z_2)), (qf29, .inl (cf29, 800, .inl f29)), (qf27, .inl (cf27, 400, .inl f27)), (qf34, .inl (cf34, 800, .inl f34)), (qf30, .inl (cf30, 800, .inl f30)), (qf6, .inl (cf6, 3002, .inl f6)), (qf5, .inl (cf5, 3002, .inl f5)), (qf2, .inl (cf2, 3000, .inl f2)), (qf35, .inl (cf35, 800, .inl f35)), (qf37, .inl (cf37, 800, .inl f37)), (qf36, .inl (cf36, 800, .inl f36)), (qf44, .inl (cf44, 1500, .inl f44))]) [4, 6, 5, 8, 7, 9, 10, 11, 0, 1, 2, 3] (by decide) rfl
    have hK9 := hK.sub (tys' := [(cf29, .int), (cf27, .int), (cf34, .int), (cf30, .int), (cf6, .int), (cf5, .int), (cf2, .int), (cf35, .int), (cf37, .int), (cf36, .int), (cf44, .int)]) [5, 4, 7, 6, 8, 9, 10, 0, 1, 2, 3] rfl
    exact W.vret hx hb hr (fun t ht hW => ⟨⟨(z_2), rfl, ⟨trivial, hln_2, hrq_2, hfk_2_10, hfk_2_9⟩, by rw [ht]; exact hP9, va_K.moved hW.alike hK9, hD9⟩, hS.F ht⟩) hS.2.2 dX13_overrides_30
def jn_vm_named_95 (nf : Nat) (a1 : Int32) (v9 : Int32) (v10 : Int32) (v28 : Int32) (v50 : Int32) (v52 : Int32) (v53 : Int32) (f12 : Nat → Int32) (f48 : Nat → Int32) (f6 : Nat → Int32) (f5 : Nat → Int32) (f2 : Nat → Int32) (f27 : Nat → Int32) (f29 : Nat → Int32) (f30 : Nat → Int32) (f34 : Nat → Int32) (f19 : Nat → Int32) (f20 : Nat → Int32) (f49 : Nat → Int32) (f35 : Nat → Int32)  (l1_95 : Int32) (l3_95 : Int32) (g19_95 : Nat → Int32) (g20_95 : Nat → Int32) (x10_95 : Int32) (x9_95 : Int32) : Option (Int32 × (Nat → Int32) × (Nat → Int32) × Int32 × Int32) := (if l1_95 < 0 then none else if 9000 ≤ (l1_95 : Int32).toNatClampNeg then none else (if l3_95 = (-1) then (some (0, (upd g19_95 (l1_95 : Int32).toNatClampNeg l3_95), g20_95, x10_95, x9_95)) else (if l3_95 < 0 then none else if 800 ≤ (l3_95 : Int32).toNatClampNeg then none else (some ((f35 (l3_95 : Int32).toNatClampNeg), (upd g19_95 (l1_95 : Int32).toNatClampNeg l3_95), g20_95, x10_95, x9_95)))))
def sp_vm_named (nf : Nat) (a1 : Int32) (v9 : Int32) (v10 : Int32) (v28 : Int32) (v50 : Int32) (v52 : Int32) (v53 : Int32) (f12 : Nat → Int32) (f48 : Nat → Int32) (f6 : Nat → Int32) (f5 : Nat → Int32) (f2 : Nat → Int32) (f27 : Nat → Int32) (f29 : Nat → Int32) (f30 : Nat → Int32) (f34 : Nat → Int32) (f19 : Nat → Int32) (f20 : Nat → Int32) (f49 : Nat → Int32) (f35 : Nat → Int32) : Option (Int32 × (Nat → Int32) × (Nat → Int32) × Int32 × Int32) := (if a1 < 0 then none else if 9000 ≤ (a1 : Int32).toNatClampNeg then none else ((sp_tn_sightOf nf (f12 (a1 : Int32).toNatClampNeg) v50 f48 f6 f5 f2).bind (fun p1 => (if p1 = (-1) then (if a1 < 0 then none else if 9000 ≤ (a1 : Int32).toNatClampNeg then none else ((sp_tn_memberOf nf v52 (f12 (a1 : Int32).toNatClampNeg) 0 v28 f27 f29 f30 f34 f6 f5 f2).bind (fun p2 => (if p2 = (-1) then (if a1 < 0 then none else if 9000 ≤ (a1 : Int32).toNatClampNeg then none else ((sp_tm_wrong nf 5 (f12 (a1 : Int32).toNatClampNeg) v9 v10 f5).bind (fun p4 => (jn_vm_named_95 nf a1 v9 v10 v28 v50 v52 v53 f12 f48 f6 f5 f2 f27 f29 f30 f34 f19 f20 f49 f35  a1 p2 f19 f20 p4.1 p4.2)))) else (if v53 = 0 then (jn_vm_named_95 nf a1 v9 v10 v28 v50 v52 v53 f12 f48 f6 f5 f2 f27 f29 f30 f34 f19 f20 f49 f35  a1 p2 f19 f20 v10 v9) else (if a1 < 0 then none else if 9000 ≤ (a1 : Int32).toNatClampNeg then none else ((sp_tm_wrong nf 7 (f12 (a1 : Int32).toNatClampNeg) v9 v10 f5).bind (fun p3 => (jn_vm_named_95 nf a1 v9 v10 v28 v50 v52 v53 f12 f48 f6 f5 f2 f27 f29 f30 f34 f19 f20 f49 f35  a1 p2 f19 f20 p3.1 p3.2))))))))) else (if a1 < 0 then none else if 9000 ≤ (a1 : Int32).toNatClampNeg then none else ((sp_tm_local nf p1 v53).bind (fun p5 => (if a1 < 0 then none else if 9000 ≤ (a1 : Int32).toNatClampNeg then none else (if p1 < 0 then none else if 3000 ≤ (p1 : Int32).toNatClampNeg then none else (some ((f49 (p1 : Int32).toNatClampNeg), (upd f19 (a1 : Int32).toNatClampNeg (-1)), (upd f20 (a1 : Int32).toNatClampNeg p5), v10, v9)))))))))))
set_option maxHeartbeats 4000000 in
set_option maxRecDepth 100000 in
/-- ClassMillModel.named -/
theorem vm_named (l : Launch) (dC : Nat → ClassId) (dI : Nat → Nat → Nat) (sz : Nat) (h0 : Nat) (zs : (List Value)) (a1 : Int32) (qf2 : Nat) (qf5 : Nat) (qf6 : Nat) (v9 : Int32) (v10 : Int32) (qf12 : Nat) (qf19 : Nat) (qf20 : Nat) (qf27 : Nat) (v28 : Int32) (qf29 : Nat) (qf30 : Nat) (qf34 : Nat) (qf35 : Nat) (qf48 : Nat) (qf49 : Nat) (v50 : Int32) (v52 : Int32) (v53 : Int32) (cf12 : ClassId) (f12 : (Nat → Int32)) (cf48 : ClassId) (f48 : (Nat → Int32)) (cf6 : ClassId) (f6 : (Nat → Int32)) (cf5 : ClassId) (f5 : (Nat → Int32)) (cf2 : ClassId) (f2 : (Nat → Int32)) (cf27 : ClassId) (f27 : (Nat → Int32)) (cf29 : ClassId) (f29 : (Nat → Int32)) (cf30 : ClassId) (f30 : (Nat → Int32)) (cf34 : ClassId) (f34 : (Nat → Int32)) (cf19 : ClassId) (f19 : (Nat → Int32)) (cf20 : ClassId) (f20 : (Nat → Int32)) (cf49 : ClassId) (f49 : (Nat → Int32)) (cf35 : ClassId) (f35 : (Nat → Int32)) (nf : Nat) (r0 : Int32) (o19 : (Nat → Int32)) (o20 : (Nat → Int32)) (w10 : Int32) (w9 : Int32) (hlen : zs.length = 155) (hf2 : zs[2]? = some (.ref qf2)) (hf5 : zs[5]? = some (.ref qf5)) (hf6 : zs[6]? = some (.ref qf6)) (hf9 : zs[9]? = some (.int v9)) (hf10 : zs[10]? = some (.int v10)) (hf12 : zs[12]? = some (.ref qf12)) (hf19 : zs[19]? = some (.ref qf19)) (hf20 : zs[20]? = some (.ref qf20)) (hf27 : zs[27]? = some (.ref qf27)) (hf28 : zs[28]? = some (.int v28)) (hf29 : zs[29]? = some (.ref qf29)) (hf30 : zs[30]? = some (.ref qf30)) (hf34 : zs[34]? = some (.ref qf34)) (hf35 : zs[35]? = some (.ref qf35)) (hf48 : zs[48]? = some (.ref qf48)) (hf49 : zs[49]? = some (.ref qf49)) (hf50 : zs[50]? = some (.int v50)) (hf52 : zs[52]? = some (.int v52)) (hf53 : zs[53]? = some (.int v53)) (hsp : sp_vm_named nf a1 v9 v10 v28 v50 v52 v53 f12 f48 f6 f5 f2 f27 f29 f30 f34 f19 f20 f49 f35 = some (r0, o19, o20, w10, w9)) : Met l yX13_named (.code yX13_named cX13_named 4 (some .int) :: VS_h9) ({ frames := 2, cells := 0, slots := 0, locals := 49 }) (va_Pc [.ref h0, .int a1] (fun U => U.heap.size = sz ∧ va_P (dC, dI) vwCl [(h0, .inr (13, zs)), (qf12, .inl (cf12, 9000, .inl f12)), (qf48, .inl (cf48, 3000, .inl f48)), (qf6, .inl (cf6, 3002, .inl f6)), (qf5, .inl (cf5, 3002, .inl f5)), (qf2, .inl (cf2, 3000, .inl f2)), (qf27, .inl (cf27, 400, .inl f27)), (qf29, .inl (cf29, 800, .inl f29)), (qf30, .inl (cf30, 800, .inl f30)), (qf34, .inl (cf34, 800, .inl f34)), (qf19, .inl (cf19, 9000, .inl f19)), (qf20, .inl (cf20, 9000, .inl f20)), (qf49, .inl (cf49, 3000, .inl f49)), (qf35, .inl (cf35, 800, .inl f35))] U.heap ∧ va_K (dC, dI) vwCl [(cf12, .int), (cf48, .int), (cf6, .int), (cf5, .int), (cf2, .int), (cf27, .int), (cf29, .int), (cf30, .int), (cf34, .int), (cf19, .int), (cf20, .int), (cf49, .int), (cf35, .int)] U ∧ va_D (fun _ => True) [(h0, .inr (13, zs)), (qf12, .inl (cf12, 9000, .inl f12)), (qf48, .inl (cf48, 3000, .inl f48)), (qf6, .inl (cf6, 3002, .inl f6)), (qf5, .inl (cf5, 3002, .inl f5)), (qf2, .inl (cf2, 3000, .inl f2)), (qf27, .inl (cf27, 400, .inl f27)), (qf29, .inl (cf29, 800, .inl f29)), (qf30, .inl (cf30, 800, .inl f30)), (qf34, .inl (cf34, 800, .inl f34)), (qf19, .inl (cf19, 9000, .inl f19)), (qf20, .inl (cf20, 9000, .inl f20)), (qf49, .inl (cf49, 3000, .inl f49)), (qf35, .inl (cf35, 800, .inl f35))])) (va_Qi (fun (r : Int32) (u : (List Value)) => match u with | (zo1) => r0 = r ∧ zo1.length = 155 ∧ (∀ j : Nat, j ≠ 10 → j ≠ 9 → zo1[j]? = zs[j]?) ∧ zo1[10]? = some (.int w10) ∧ zo1[9]? = some (.int w9)) (fun (u : (List Value)) (t : State) => match u with | (zo1) => va_P (dC, dI) vwCl [(h0, .inr (13, zo1)), (qf12, .inl (cf12, 9000, .inl f12)), (qf48, .inl (cf48, 3000, .inl f48)), (qf6, .inl (cf6, 3002, .inl f6)), (qf5, .inl (cf5, 3002, .inl f5)), (qf2, .inl (cf2, 3000, .inl f2)), (qf27, .inl (cf27, 400, .inl f27)), (qf29, .inl (cf29, 800, .inl f29)), (qf30, .inl (cf30, 800, .inl f30)), (qf34, .inl (cf34, 800, .inl f34)), (qf19, .inl (cf19, 9000, .inl o19)), (qf20, .inl (cf20, 9000, .inl o20)), (qf49, .inl (cf49, 3000, .inl f49)), (qf35, .inl (cf35, 800, .inl f35))] t.heap ∧ va_K (dC, dI) vwCl [(cf12, .int), (cf48, .int), (cf6, .int), (cf5, .int), (cf2, .int), (cf27, .int), (cf29, .int), (cf30, .int), (cf34, .int), (cf19, .int), (cf20, .int), (cf49, .int), (cf35, .int)] t ∧ va_D (va_A [(h0, .inr (13, zs)), (qf12, .inl (cf12, 9000, .inl f12)), (qf48, .inl (cf48, 3000, .inl f48)), (qf6, .inl (cf6, 3002, .inl f6)), (qf5, .inl (cf5, 3002, .inl f5)), (qf2, .inl (cf2, 3000, .inl f2)), (qf27, .inl (cf27, 400, .inl f27)), (qf29, .inl (cf29, 800, .inl f29)), (qf30, .inl (cf30, 800, .inl f30)), (qf34, .inl (cf34, 800, .inl f34)), (qf19, .inl (cf19, 9000, .inl f19)), (qf20, .inl (cf20, 9000, .inl f20)), (qf49, .inl (cf49, 3000, .inl f49)), (qf35, .inl (cf35, 800, .inl f35))] sz) [(h0, .inr (13, zo1)), (qf12, .inl (cf12, 9000, .inl f12)), (qf48, .inl (cf48, 3000, .inl f48)), (qf6, .inl (cf6, 3002, .inl f6)), (qf5, .inl (cf5, 3002, .inl f5)), (qf2, .inl (cf2, 3000, .inl f2)), (qf27, .inl (cf27, 400, .inl f27)), (qf29, .inl (cf29, 800, .inl f29)), (qf30, .inl (cf30, 800, .inl f30)), (qf34, .inl (cf34, 800, .inl f34)), (qf19, .inl (cf19, 9000, .inl o19)), (qf20, .inl (cf20, 9000, .inl o20)), (qf49, .inl (cf49, 3000, .inl f49)), (qf35, .inl (cf35, 800, .inl f35))]) (va_A [(h0, .inr (13, zs)), (qf12, .inl (cf12, 9000, .inl f12)), (qf48, .inl (cf48, 3000, .inl f48)), (qf6, .inl (cf6, 3002, .inl f6)), (qf5, .inl (cf5, 3002, .inl f5)), (qf2, .inl (cf2, 3000, .inl f2)), (qf27, .inl (cf27, 400, .inl f27)), (qf29, .inl (cf29, 800, .inl f29)), (qf30, .inl (cf30, 800, .inl f30)), (qf34, .inl (cf34, 800, .inl f34)), (qf19, .inl (cf19, 9000, .inl f19)), (qf20, .inl (cf20, 9000, .inl f20)), (qf49, .inl (cf49, 3000, .inl f49)), (qf35, .inl (cf35, 800, .inl f35))] sz)) 0 0 (va_A [(h0, .inr (13, zs)), (qf12, .inl (cf12, 9000, .inl f12)), (qf48, .inl (cf48, 3000, .inl f48)), (qf6, .inl (cf6, 3002, .inl f6)), (qf5, .inl (cf5, 3002, .inl f5)), (qf2, .inl (cf2, 3000, .inl f2)), (qf27, .inl (cf27, 400, .inl f27)), (qf29, .inl (cf29, 800, .inl f29)), (qf30, .inl (cf30, 800, .inl f30)), (qf34, .inl (cf34, 800, .inl f34)), (qf19, .inl (cf19, 9000, .inl f19)), (qf20, .inl (cf20, 9000, .inl f20)), (qf49, .inl (cf49, 3000, .inl f49)), (qf35, .inl (cf35, 800, .inl f35))] sz) := by
  refine Met.ofW (cc := cX13_named) (maxL := 4) (ret := (some .int)) (by decide) rfl ?_
  intro p e s m args below meth c s₁ B hml hv
  obtain ⟨rfl, hsz, hP, hK, hD0⟩ := hv
  have hx := B.exec
  have hb := B.bytes
  have hr := B.returns
  have hts := atoms_spec (ws := (.code yX13_named cX13_named 4 (some .int) :: VS_h9)) B.pre
  replace hts := fun w (h : w ∈ VS_h9) => hts w (List.mem_cons_of_mem _ h)
  have hown : s.vm.findClass RX13 = some m.cls := findClass_of_methodNamed B.named
  have hlocks := B.notSynchronized
  subst hsz
  have hD := hD0.self (sz := s.heap.size)
  generalize hAe : va_A [(h0, .inr (13, zs)), (qf12, .inl (cf12, 9000, .inl f12)), (qf48, .inl (cf48, 3000, .inl f48)), (qf6, .inl (cf6, 3002, .inl f6)), (qf5, .inl (cf5, 3002, .inl f5)), (qf2, .inl (cf2, 3000, .inl f2)), (qf27, .inl (cf27, 400, .inl f27)), (qf29, .inl (cf29, 800, .inl f29)), (qf30, .inl (cf30, 800, .inl f30)), (qf34, .inl (cf34, 800, .inl f34)), (qf19, .inl (cf19, 9000, .inl f19)), (qf20, .inl (cf20, 9000, .inl f20)), (qf49, .inl (cf49, 3000, .inl f49)), (qf35, .inl (cf35, 800, .inl f35))] s.heap.size = A at hD  ⊢
  have hA : ∀ q : Nat, s.heap.size ≤ q → A q := fun q h => by rw [← hAe]; exact Or.inr h
  have hP : va_P (dC, dI) vwCl [(h0, .inr (13, zs)), (qf12, .inl (cf12, 9000, .inl f12)), (qf48, .inl (cf48, 3000, .inl f48)), (qf6, .inl (cf6, 3002, .inl f6)), (qf5, .inl (cf5, 3002, .inl f5)), (qf2, .inl (cf2, 3000, .inl f2)), (qf27, .inl (cf27, 400, .inl f27)), (qf29, .inl (cf29, 800, .inl f29)), (qf30, .inl (cf30, 800, .inl f30)), (qf34, .inl (cf34, 800, .inl f34)), (qf19, .inl (cf19, 9000, .inl f19)), (qf20, .inl (cf20, 9000, .inl f20)), (qf49, .inl (cf49, 3000, .inl f49)), (qf35, .inl (cf35, 800, .inl f35))] s.heap := hP
  have hl := lv_entry ([.ref h0, .int a1]) (n := 4) (Nat.le_of_ble_eq_true rfl)
  rw [lg_entry_eq]
  generalize (lg_sl ([.ref h0, .int a1]) ++ List.replicate (4 - (lg_sl ([.ref h0, .int a1])).length) Slot.unset).toArray = ls at hl ⊢
  have hl : lv_has ls 4 [(0, .ref h0), (1, .int a1)] := hl
  obtain ⟨H, hH⟩ : ∃ H : Heap, s.heap = H := ⟨_, rfl⟩
  rw [hH] at hP ⊢
  have hS : va_S A s.heap H [] := by rw [← hH]; exact va_S.rf
  obtain ⟨locs, hlo⟩ : ∃ locs : List Loc, locs = [] := ⟨_, rfl⟩
  rw [← hlo] at hS ⊢
  have hrs0 : ∀ j : Nat, j ≠ 10 → j ≠ 9 → zs[j]? = zs[j]? := fun _ _ _  => rfl
  unfold sp_vm_named at hsp
  refine jn_use (α := Heap × List Loc × Array Slot × List Value × Int32 × Int32 × (Nat → Int32) × (Nat → Int32) × Int32 × Int32) (fun x9 => x9.1) (fun x9 => x9.2.1) (fun x9 => F0 m 95 x9.2.2.1 []) (fun x9 => match x9 with | (H, locs, ls, z95, l1_95, l3_95, g19_95, g20_95, x10_95, x9_95) => lv_has ls 4 [(0, .ref h0), (1, .int l1_95), (3, .int l3_95)] ∧ va_S A s.heap H locs ∧ va_D A [(h0, .inr (13, z95)), (qf12, .inl (cf12, 9000, .inl f12)), (qf48, .inl (cf48, 3000, .inl f48)), (qf6, .inl (cf6, 3002, .inl f6)), (qf5, .inl (cf5, 3002, .inl f5)), (qf2, .inl (cf2, 3000, .inl f2)), (qf27, .inl (cf27, 400, .inl f27)), (qf29, .inl (cf29, 800, .inl f29)), (qf30, .inl (cf30, 800, .inl f30)), (qf34, .inl (cf34, 800, .inl f34)), (qf19, .inl (cf19, 9000, .inl g19_95)), (qf20, .inl (cf20, 9000, .inl g20_95)), (qf49, .inl (cf49, 3000, .inl f49)), (qf35, .inl (cf35, 800, .inl f35))] ∧ va_P (dC, dI) vwCl [(h0, .inr (13, z95)), (qf12, .inl (cf12, 9000, .inl f12)), (qf48, .inl (cf48, 3000, .inl f48)), (qf6, .inl (cf6, 3002, .inl f6)), (qf5, .inl (cf5, 3002, .inl f5)), (qf2, .inl (cf2, 3000, .inl f2)), (qf27, .inl (cf27, 400, .inl f27)), (qf29, .inl (cf29, 800, .inl f29)), (qf30, .inl (cf30, 800, .inl f30)), (qf34, .inl (cf34, 800, .inl f34)), (qf19, .inl (cf19, 9000, .inl g19_95)), (qf20, .inl (cf20, 9000, .inl g20_95)), (qf49, .inl (cf49, 3000, .inl f49)), (qf35, .inl (cf35, 800, .inl f35))] H ∧ z95[2]? = some (.ref qf2) ∧ z95[5]? = some (.ref qf5) ∧ z95[6]? = some (.ref qf6) ∧ z95[9]? = some (.int x9_95) ∧ z95[10]? = some (.int x10_95) ∧ z95[12]? = some (.ref qf12) ∧ z95[19]? = some (.ref qf19) ∧ z95[20]? = some (.ref qf20) ∧ z95[27]? = some (.ref qf27) ∧ z95[28]? = some (.int v28) ∧ z95[29]? = some (.ref qf29) ∧ z95[30]? = some (.ref qf30) ∧ z95[34]? = some (.ref qf34) ∧ z95[35]? = some (.ref qf35) ∧ z95[48]? = some (.ref qf48) ∧ z95[49]? = some (.ref qf49) ∧ z95[50]? = some (.int v50) ∧ z95[52]? = some (.int v52) ∧ z95[53]? = some (.int v53) ∧ z95.length = 155 ∧ (∀ j : Nat, j ≠ 10 → j ≠ 9 → z95[j]? = zs[j]?) ∧ jn_vm_named_95 nf a1 v9 v10 v28 v50 v52 v53 f12 f48 f6 f5 f2 f27 f29 f30 f34 f19 f20 f49 f35 l1_95 l3_95 g19_95 g20_95 x10_95 x9_95 = some (r0, o19, o20, w10, w9)) ?_ ?_
  · intro x9 hJ9
    obtain ⟨H, locs, ls, z95, l1_95, l3_95, g19_95, g20_95, x10_95, x9_95⟩ := x9
    obtain ⟨hl, hS, hD, hP, hfh_95_2, hfh_95_5, hfh_95_6, hfh_95_9, hfh_95_10, hfh_95_12, hfh_95_19, hfh_95_20, hfh_95_27, hfh_95_28, hfh_95_29, hfh_95_30, hfh_95_34, hfh_95_35, hfh_95_48, hfh_95_49, hfh_95_50, hfh_95_52, hfh_95_53, hlh_95, hrh_95, hsp⟩ := hJ9
    replace hl : lv_has ls 4 [(0, .ref h0), (1, .int l1_95), (3, .int l3_95)] := hl
    replace hS : va_S A s.heap H locs := hS
    replace hD : va_D A [(h0, .inr (13, z95)), (qf12, .inl (cf12, 9000, .inl f12)), (qf48, .inl (cf48, 3000, .inl f48)), (qf6, .inl (cf6, 3002, .inl f6)), (qf5, .inl (cf5, 3002, .inl f5)), (qf2, .inl (cf2, 3000, .inl f2)), (qf27, .inl (cf27, 400, .inl f27)), (qf29, .inl (cf29, 800, .inl f29)), (qf30, .inl (cf30, 800, .inl f30)), (qf34, .inl (cf34, 800, .inl f34)), (qf19, .inl (cf19, 9000, .inl g19_95)), (qf20, .inl (cf20, 9000, .inl g20_95)), (qf49, .inl (cf49, 3000, .inl f49)), (qf35, .inl (cf35, 800, .inl f35))] := hD
    replace hP : va_P (dC, dI) vwCl [(h0, .inr (13, z95)), (qf12, .inl (cf12, 9000, .inl f12)), (qf48, .inl (cf48, 3000, .inl f48)), (qf6, .inl (cf6, 3002, .inl f6)), (qf5, .inl (cf5, 3002, .inl f5)), (qf2, .inl (cf2, 3000, .inl f2)), (qf27, .inl (cf27, 400, .inl f27)), (qf29, .inl (cf29, 800, .inl f29)), (qf30, .inl (cf30, 800, .inl f30)), (qf34, .inl (cf34, 800, .inl f34)), (qf19, .inl (cf19, 9000, .inl g19_95)), (qf20, .inl (cf20, 9000, .inl g20_95)), (qf49, .inl (cf49, 3000, .inl f49)), (qf35, .inl (cf35, 800, .inl f35))] H := hP
    replace hsp : jn_vm_named_95 nf a1 v9 v10 v28 v50 v52 v53 f12 f48 f6 f5 f2 f27 f29 f30 f34 f19 f20 f49 f35 l1_95 l3_95 g19_95 g20_95 x10_95 x9_95 = some (r0, o19, o20, w10, w9) := hsp
    show W _ _ _ _ _ _ _ _ _ _ H locs _ _ _ (F0 m 95 ls [])
    unfold jn_vm_named_95 at hsp
    try dsimp only at hsp
    refine lv_aload_n hx hb dX13_named_95 rfl (lv_at hl 0 rfl) ?_
    refine va_get (D := (dC, dI)) (ci := 13) (v := .ref qf19) (C := RX13) (T := TX13) (N := 155) hx hb hts uV_h9_X13 hown hK hP 0 rfl rfl 19 (by decide) (hts (.fieldLink RX13 52 "ClassMillModel" "means" "[I") mw_h9_47) (fun _ h9 => h9) hfh_95_19 dX13_named_96 ?_
    refine lv_iload_n hx hb dX13_named_99 rfl (lv_at hl 1 rfl) ?_
    refine lv_iload_n hx hb dX13_named_100 rfl (lv_at hl 2 rfl) ?_
    obtain ⟨hi_14, hsp⟩ := ox_in hsp
    refine va_iast hx hb hK hP hD hS 10 9 rfl rfl (i := l1_95) (x := l3_95) hi_14 dX13_named_101 ?_
    clear hP hD hS
    intro H locs hP hD hS
    replace hP : va_P (dC, dI) vwCl [(h0, .inr (13, z95)), (qf12, .inl (cf12, 9000, .inl f12)), (qf48, .inl (cf48, 3000, .inl f48)), (qf6, .inl (cf6, 3002, .inl f6)), (qf5, .inl (cf5, 3002, .inl f5)), (qf2, .inl (cf2, 3000, .inl f2)), (qf27, .inl (cf27, 400, .inl f27)), (qf29, .inl (cf29, 800, .inl f29)), (qf30, .inl (cf30, 800, .inl f30)), (qf34, .inl (cf34, 800, .inl f34)), (qf19, .inl (cf19, 9000, .inl (upd g19_95 (l1_95 : Int32).toNatClampNeg l3_95))), (qf20, .inl (cf20, 9000, .inl g20_95)), (qf49, .inl (cf49, 3000, .inl f49)), (qf35, .inl (cf35, 800, .inl f35))] H := hP
    replace hD : va_D A [(h0, .inr (13, z95)), (qf12, .inl (cf12, 9000, .inl f12)), (qf48, .inl (cf48, 3000, .inl f48)), (qf6, .inl (cf6, 3002, .inl f6)), (qf5, .inl (cf5, 3002, .inl f5)), (qf2, .inl (cf2, 3000, .inl f2)), (qf27, .inl (cf27, 400, .inl f27)), (qf29, .inl (cf29, 800, .inl f29)), (qf30, .inl (cf30, 800, .inl f30)), (qf34, .inl (cf34, 800, .inl f34)), (qf19, .inl (cf19, 9000, .inl (upd g19_95 (l1_95 : Int32).toNatClampNeg l3_95))), (qf20, .inl (cf20, 9000, .inl g20_95)), (qf49, .inl (cf49, 3000, .inl f49)), (qf35, .inl (cf35, 800, .inl f35))] := hD
    refine lv_iload_n hx hb dX13_named_102 rfl (lv_at hl 2 rfl) ?_
    refine lv_iconst (v := (-1)) hx hb dX13_named_103 (by decide) ?_
    refine lv_icmp_ne (tgt := 111) hx hb dX13_named_104 (by decide) (fun c_15 => ?_) (fun c_15 => ?_)
    · rw [if_neg c_15] at hsp
      refine lv_aload_n hx hb dX13_named_111 rfl (lv_at hl 0 rfl) ?_
      refine va_get (D := (dC, dI)) (ci := 13) (v := .ref qf35) (C := RX13) (T := TX13) (N := 155) hx hb hts uV_h9_X13 hown hK hP 0 rfl rfl 35 (by decide) (hts (.fieldLink RX13 89 "ClassMillModel" "memberType" "[I") mw_h9_119) (fun _ h9 => h9) hfh_95_35 dX13_named_112 ?_
      refine lv_iload_n hx hb dX13_named_115 rfl (lv_at hl 2 rfl) ?_
      obtain ⟨hi_16, hsp⟩ := ox_in hsp
      refine va_iald hx hb hK hP 13 12 rfl rfl (i := l3_95) hi_16 dX13_named_116 ?_
      have hr0 := Option.some.inj hsp
      clear hsp
      obtain ⟨hq0, hr1⟩ := Prod.mk.inj hr0
      clear hr0
      obtain ⟨hq1, hr2⟩ := Prod.mk.inj hr1
      clear hr1
      obtain ⟨hq2, hr3⟩ := Prod.mk.inj hr2
      clear hr2
      obtain ⟨hq3, hr4⟩ := Prod.mk.inj hr3
      clear hr3
      subst hq0
      subst hq1
      subst hq2
      subst hq3
      subst hr4
      have hP9 := hP.sub (ws' := [(h0, .inr (13, z95)), (qf12, .inl (cf12, 9000, .inl f12)), (qf48, .inl (cf48, 3000, .inl f48)), (qf6, .inl (cf6, 3002, .inl f6)), (qf5, .inl (cf5, 3002, .inl f5)), (qf2, .inl (cf2, 3000, .inl f2)), (qf27, .inl (cf27, 400, .inl f27)), (qf29, .inl (cf29, 800, .inl f29)), (qf30, .inl (cf30, 800, .inl f30)), (qf34, .inl (cf34, 800, .inl f34)), (qf19, .inl (cf19, 9000, .inl (upd g19_95 (l1_95 : Int32).toNatClampNeg l3_95))), (qf20, .inl (cf20, 9000, .inl g20_95)), (qf49, .inl (cf49, 3000, .inl f49)), (qf35, .inl (cf35, 800, .inl f35))]) [0, 1, 2, 3, 4, 5, 6, 7, 8, 9, 10, 11, 12, 13] rfl
      have hD9 := hD.sub (ws' := [(h0, .inr (13, z95)), (qf12, .inl (cf12, 9000, .inl f12)), (qf48, .inl (cf48, 3000, .inl f48)), (qf6, .inl (cf6, 3002, .inl f6)), (qf5, .inl (cf5, 3002, .inl f5)), (qf2, .inl (cf2, 3000, .inl f2)), (qf27, .inl (cf27, 400, .inl f27)), (qf29, .inl (cf29, 800, .inl f29)), (qf30, .inl (cf30, 800, .inl f30)), (qf34, .inl (cf34, 800, .inl f34)), (qf19, .inl (cf19, 9000, .inl (upd g19_95 (l1_95 : Int32).toNatClampNeg l3_95))), (qf20, .inl (cf20, 9000, .inl g20_95)), (qf49, .inl (cf49, 3000, .inl f49)), (qf35, .inl (cf35, 800, .inl f35))]) [0, 1, 2, 3, 4, 5, 6, 7, 8, 9, 10, 11, 12, 13] (by decide) rfl
      have hK9 := hK.sub (tys' := [(cf12, .int), (cf48, .int), (cf6, .int), (cf5, .int), (cf2, .int), (cf27, .int), (cf29, .int), (cf30, .int), (cf34, .int), (cf19, .int), (cf20, .int), (cf49, .int), (cf35, .int)]) [0, 1, 2, 3, 4, 5, 6, 7, 8, 9, 10, 11, 12] rfl
      exact W.iret hx hb hr (fun t ht hW => ⟨⟨((f35 (l3_95 : Int32).toNatClampNeg)), (z95), rfl, ⟨rfl, hlh_95, hrh_95, hfh_95_10, hfh_95_9⟩, by rw [ht]; exact hP9, va_K.moved hW.alike hK9, hD9⟩, hS.F ht⟩) hS.2.2 dX13_named_117
    · rw [if_pos c_15] at hsp
      refine lv_iconst (v := 0) hx hb dX13_named_107 (by decide) ?_
      refine lv_goto (tgt := 117) hx hb dX13_named_108 (by decide) ?_
      have hr0 := Option.some.inj hsp
      clear hsp
      obtain ⟨hq0, hr1⟩ := Prod.mk.inj hr0
      clear hr0
      obtain ⟨hq1, hr2⟩ := Prod.mk.inj hr1
      clear hr1
      obtain ⟨hq2, hr3⟩ := Prod.mk.inj hr2
      clear hr2
      obtain ⟨hq3, hr4⟩ := Prod.mk.inj hr3
      clear hr3
      subst hq0
      subst hq1
      subst hq2
      subst hq3
      subst hr4
      have hP9 := hP.sub (ws' := [(h0, .inr (13, z95)), (qf12, .inl (cf12, 9000, .inl f12)), (qf48, .inl (cf48, 3000, .inl f48)), (qf6, .inl (cf6, 3002, .inl f6)), (qf5, .inl (cf5, 3002, .inl f5)), (qf2, .inl (cf2, 3000, .inl f2)), (qf27, .inl (cf27, 400, .inl f27)), (qf29, .inl (cf29, 800, .inl f29)), (qf30, .inl (cf30, 800, .inl f30)), (qf34, .inl (cf34, 800, .inl f34)), (qf19, .inl (cf19, 9000, .inl (upd g19_95 (l1_95 : Int32).toNatClampNeg l3_95))), (qf20, .inl (cf20, 9000, .inl g20_95)), (qf49, .inl (cf49, 3000, .inl f49)), (qf35, .inl (cf35, 800, .inl f35))]) [0, 1, 2, 3, 4, 5, 6, 7, 8, 9, 10, 11, 12, 13] rfl
      have hD9 := hD.sub (ws' := [(h0, .inr (13, z95)), (qf12, .inl (cf12, 9000, .inl f12)), (qf48, .inl (cf48, 3000, .inl f48)), (qf6, .inl (cf6, 3002, .inl f6)), (qf5, .inl (cf5, 3002, .inl f5)), (qf2, .inl (cf2, 3000, .inl f2)), (qf27, .inl (cf27, 400, .inl f27)), (qf29, .inl (cf29, 800, .inl f29)), (qf30, .inl (cf30, 800, .inl f30)), (qf34, .inl (cf34, 800, .inl f34)), (qf19, .inl (cf19, 9000, .inl (upd g19_95 (l1_95 : Int32).toNatClampNeg l3_95))), (qf20, .inl (cf20, 9000, .inl g20_95)), (qf49, .inl (cf49, 3000, .inl f49)), (qf35, .inl (cf35, 800, .inl f35))]) [0, 1, 2, 3, 4, 5, 6, 7, 8, 9, 10, 11, 12, 13] (by decide) rfl
      have hK9 := hK.sub (tys' := [(cf12, .int), (cf48, .int), (cf6, .int), (cf5, .int), (cf2, .int), (cf27, .int), (cf29, .int), (cf30, .int), (cf34, .int), (cf19, .int), (cf20, .int), (cf49, .int), (cf35, .int)]) [0, 1, 2, 3, 4, 5, 6, 7, 8, 9, 10, 11, 12] rfl
      exact W.iret hx hb hr (fun t ht hW => ⟨⟨(0), (z95), rfl, ⟨rfl, hlh_95, hrh_95, hfh_95_10, hfh_95_9⟩, by rw [ht]; exact hP9, va_K.moved hW.alike hK9, hD9⟩, hS.F ht⟩) hS.2.2 dX13_named_117
  intro hj_95
  refine lv_aload_n hx hb dX13_named_0 rfl (lv_at hl 0 rfl) ?_
  refine lv_aload_n hx hb dX13_named_1 rfl (lv_at hl 0 rfl) ?_
  refine va_get (D := (dC, dI)) (ci := 13) (v := .ref qf12) (C := RX13) (T := TX13) (N := 155) hx hb hts uV_h9_X13 hown hK hP 0 rfl rfl 12 (by decide) (hts (.fieldLink RX13 31 "ClassMillModel" "tok" "[I") mw_h9_40) (fun _ h9 => h9) hf12 dX13_named_2 ?_
  refine lv_iload_n hx hb dX13_named_5 rfl (lv_at hl 1 rfl) ?_
  obtain ⟨hi_1, hsp⟩ := ox_in hsp
  refine va_iald hx hb hK hP 1 0 rfl rfl (i := a1) hi_1 dX13_named_6 ?_
  obtain ⟨u1_0, hu_1, hsp⟩ := ox_bind hsp
  try dsimp only at hsp
  have hPc := hP.sub (ws' := [(h0, .inr (13, zs)), (qf48, .inl (cf48, 3000, .inl f48)), (qf6, .inl (cf6, 3002, .inl f6)), (qf5, .inl (cf5, 3002, .inl f5)), (qf2, .inl (cf2, 3000, .inl f2))]) [0, 2, 3, 4, 5] rfl
  have hDc := hD.sub (ws' := [(h0, .inr (13, zs)), (qf48, .inl (cf48, 3000, .inl f48)), (qf6, .inl (cf6, 3002, .inl f6)), (qf5, .inl (cf5, 3002, .inl f5)), (qf2, .inl (cf2, 3000, .inl f2))]) [0, 2, 3, 4, 5] (by decide) rfl
  have hKc := hK.sub (tys' := [(cf48, .int), (cf6, .int), (cf5, .int), (cf2, .int)]) [1, 2, 3, 4] rfl
  have hFc := va_free (wc := [(h0, .inr (13, zs)), (qf48, .inl (cf48, 3000, .inl f48)), (qf6, .inl (cf6, 3002, .inl f6)), (qf5, .inl (cf5, 3002, .inl f5)), (qf2, .inl (cf2, 3000, .inl f2))]) hD hS hA [0, 2, 3, 4, 5] rfl
  refine va_calli (va_runV (As := [.int (f12 (a1 : Int32).toNatClampNeg)]) (rest := []) ⟨hx, hb, hml, hown, hts⟩ (tn_sightOf l dC dI H.size h0 zs ((f12 (a1 : Int32).toNatClampNeg)) qf2 qf5 qf6 qf48 v50 cf48 f48 cf6 f6 cf5 f5 cf2 f2 nf u1_0 hlen hf2 hf5 hf6 hf48 hf50 hu_1) (cwV 1 hts gv_h9_22 rfl rfl rfl (by decide +kernel) ⟨Nat.le_of_ble_eq_true rfl, Nat.le_of_ble_eq_true rfl⟩) ⟨fun a U g mk q => by obtain ⟨q0, q1, qP, qK, qD⟩ := q; exact ⟨q0, q1, qP, va_K.moved (u := U) (U := U.calling g mk a) (Vm.Alike.refl U.vm) qK, qD⟩, va_recv hKc hPc (ci := 13) (q0 := 0) rfl rfl, fun U hU hW => ⟨rfl, by rw [hU], by rw [hU]; exact hPc, va_K.moved hW.alike hKc, hDc.weaken (fun _ _ _ _ => trivial)⟩⟩ rfl rfl hl.1 rfl (lv_room (Nat.le_of_ble_eq_true rfl)) dX13_named_7 ⟨Nat.le_of_ble_eq_true rfl, Nat.le_of_ble_eq_true rfl⟩) hS (fun q _ h => hFc q h) hFc ?_
  clear hS
  intro r_2 u t H1 locs ht hvm hw hB hz1 hk1 hS
  obtain ⟨z_1, rfl⟩ : ∃ z, z = u := ⟨_, rfl⟩
  obtain ⟨hP1, hK1, hD1⟩ := hB
  rw [ht] at hP1
  have hK1 := va_K.moved hvm.symm hK1
  try dsimp only at hw
  have hPD := va_join (wr := [(qf12, .inl (cf12, 9000, .inl f12)), (qf27, .inl (cf27, 400, .inl f27)), (qf29, .inl (cf29, 800, .inl f29)), (qf30, .inl (cf30, 800, .inl f30)), (qf34, .inl (cf34, 800, .inl f34)), (qf19, .inl (cf19, 9000, .inl f19)), (qf20, .inl (cf20, 9000, .inl f20)), (qf49, .inl (cf49, 3000, .inl f49)), (qf35, .inl (cf35, 800, .inl f35))]) (w1 := [(h0, .inr (13, z_1)), (qf48, .inl (cf48, 3000, .inl f48)), (qf6, .inl (cf6, 3002, .inl f6)), (qf5, .inl (cf5, 3002, .inl f5)), (qf2, .inl (cf2, 3000, .inl f2))]) hP hD [0, 2, 3, 4, 5] [1, 6, 7, 8, 9, 10, 11, 12, 13] rfl rfl (by decide) (by decide) hk1 hFc hP1 hD1
  clear hP hD
  obtain ⟨hP, hD⟩ := hPD
  replace hK := (hK.sub (tys' := [(cf12, .int), (cf27, .int), (cf29, .int), (cf30, .int), (cf34, .int), (cf19, .int), (cf20, .int), (cf49, .int), (cf35, .int)]) [0, 5, 6, 7, 8, 9, 10, 11, 12] rfl).app hK1
  clear hPc hDc hKc hFc hP1 hK1 hD1 hz1 hk1 ht hvm
  generalize H1 = H at hP hS ⊢
  replace hP : va_P (dC, dI) vwCl [(qf12, .inl (cf12, 9000, .inl f12)), (qf27, .inl (cf27, 400, .inl f27)), (qf29, .inl (cf29, 800, .inl f29)), (qf30, .inl (cf30, 800, .inl f30)), (qf34, .inl (cf34, 800, .inl f34)), (qf19, .inl (cf19, 9000, .inl f19)), (qf20, .inl (cf20, 9000, .inl f20)), (qf49, .inl (cf49, 3000, .inl f49)), (qf35, .inl (cf35, 800, .inl f35)), (h0, .inr (13, z_1)), (qf48, .inl (cf48, 3000, .inl f48)), (qf6, .inl (cf6, 3002, .inl f6)), (qf5, .inl (cf5, 3002, .inl f5)), (qf2, .inl (cf2, 3000, .inl f2))] H := hP
  replace hD : va_D A [(qf12, .inl (cf12, 9000, .inl f12)), (qf27, .inl (cf27, 400, .inl f27)), (qf29, .inl (cf29, 800, .inl f29)), (qf30, .inl (cf30, 800, .inl f30)), (qf34, .inl (cf34, 800, .inl f34)), (qf19, .inl (cf19, 9000, .inl f19)), (qf20, .inl (cf20, 9000, .inl f20)), (qf49, .inl (cf49, 3000, .inl f49)), (qf35, .inl (cf35, 800, .inl f35)), (h0, .inr (13, z_1)), (qf48, .inl (cf48, 3000, .inl f48)), (qf6, .inl (cf6, 3002, .inl f6)), (qf5, .inl (cf5, 3002, .inl f5)), (qf2, .inl (cf2, 3000, .inl f2))] := hD
  replace hK : va_K (dC, dI) vwCl [(cf12, .int), (cf27, .int), (cf29, .int), (cf30, .int), (cf34, .int), (cf19, .int), (cf20, .int), (cf49, .int), (cf35, .int), (cf48, .int), (cf6, .int), (cf5, .int), (cf2, .int)] s := hK
  obtain ⟨hwa_1, hln_1, hre_1⟩ := hw
  have hfk_1_2 : z_1[2]? = some (.ref qf2) := (hre_1 2 ).trans (hf2)
  have hfk_1_5 : z_1[5]? = some (.ref qf5) := (hre_1 5 ).trans (hf5)
  have hfk_1_6 : z_1[6]? = some (.ref qf6) := (hre_1 6 ).trans (hf6)
  have hfk_1_9 : z_1[9]? = some (.int v9) := (hre_1 9 ).trans (hf9)
  have hfk_1_10 : z_1[10]? = some (.int v10) := (hre_1 10 ).trans (hf10)
  have hfk_1_12 : z_1[12]? = some (.ref qf12) := (hre_1 12 ).trans (hf12)
  have hfk_1_19 : z_1[19]? = some (.ref qf19) := (hre_1 19 ).trans (hf19)
  have hfk_1_20 : z_1[20]? = some (.ref qf20) := (hre_1 20 ).trans (hf20)
  have hfk_1_27 : z_1[27]? = some (.ref qf27) := (hre_1 27 ).trans (hf27)
  have hfk_1_28 : z_1[28]? = some (.int v28) := (hre_1 28 ).trans (hf28)
  have hfk_1_29 : z_1[29]? = some (.ref qf29) := (hre_1 29 ).trans (hf29)
  have hfk_1_30 : z_1[30]? = some (.ref qf30) := (hre_1 30 ).trans (hf30)
  have hfk_1_34 : z_1[34]? = some (.ref qf34) := (hre_1 34 ).trans (hf34)
  have hfk_1_35 : z_1[35]? = some (.ref qf35) := (hre_1 35 ).trans (hf35)
  have hfk_1_48 : z_1[48]? = some (.ref qf48) := (hre_1 48 ).trans (hf48)
  have hfk_1_49 : z_1[49]? = some (.ref qf49) := (hre_1 49 ).trans (hf49)
  have hfk_1_50 : z_1[50]? = some (.int v50) := (hre_1 50 ).trans (hf50)
  have hfk_1_52 : z_1[52]? = some (.int v52) := (hre_1 52 ).trans (hf52)
  have hfk_1_53 : z_1[53]? = some (.int v53) := (hre_1 53 ).trans (hf53)
  have hrq_1 : ∀ j : Nat, j ≠ 10 → j ≠ 9 → z_1[j]? = zs[j]? := fun j g10 g9 => (hre_1 j ).trans (hrs0 j g10 g9)
  obtain rfl := hwa_1
  refine lv_istore_n (lv' := [(2, .int u1_0), (0, .ref h0), (1, .int a1)]) hx hb dX13_named_10 rfl hl (by decide) rfl (fun ls hl => ?_)
  refine lv_iload_n hx hb dX13_named_11 rfl (lv_at hl 0 rfl) ?_
  refine lv_iconst (v := (-1)) hx hb dX13_named_12 (by decide) ?_
  refine lv_icmp_eq (tgt := 41) hx hb dX13_named_13 (by decide) (fun c_3 => ?_) (fun c_3 => ?_)
  · rw [if_pos c_3] at hsp
    refine lv_aload_n hx hb dX13_named_41 rfl (lv_at hl 1 rfl) ?_
    refine lv_aload_n hx hb dX13_named_42 rfl (lv_at hl 1 rfl) ?_
    refine va_get (D := (dC, dI)) (ci := 13) (v := .int v52) (C := RX13) (T := TX13) (N := 155) hx hb hts uV_h9_X13 hown hK hP 9 rfl rfl 52 (by decide) (hts (.fieldLink RX13 519 "ClassMillModel" "owner" "I") mw_h9_137) (fun _ h9 => h9) hfk_1_52 dX13_named_43 ?_
    refine lv_aload_n hx hb dX13_named_46 rfl (lv_at hl 1 rfl) ?_
    refine va_get (D := (dC, dI)) (ci := 13) (v := .ref qf12) (C := RX13) (T := TX13) (N := 155) hx hb hts uV_h9_X13 hown hK hP 9 rfl rfl 12 (by decide) (hts (.fieldLink RX13 31 "ClassMillModel" "tok" "[I") mw_h9_40) (fun _ h9 => h9) hfk_1_12 dX13_named_47 ?_
    refine lv_iload_n hx hb dX13_named_50 rfl (lv_at hl 2 rfl) ?_
    obtain ⟨hi_4, hsp⟩ := ox_in hsp
    refine va_iald hx hb hK hP 0 0 rfl rfl (i := a1) hi_4 dX13_named_51 ?_
    refine lv_iconst (v := 0) hx hb dX13_named_52 (by decide) ?_
    obtain ⟨u2_0, hu_2, hsp⟩ := ox_bind hsp
    try dsimp only at hsp
    have hPc := hP.sub (ws' := [(h0, .inr (13, z_1)), (qf27, .inl (cf27, 400, .inl f27)), (qf29, .inl (cf29, 800, .inl f29)), (qf30, .inl (cf30, 800, .inl f30)), (qf34, .inl (cf34, 800, .inl f34)), (qf6, .inl (cf6, 3002, .inl f6)), (qf5, .inl (cf5, 3002, .inl f5)), (qf2, .inl (cf2, 3000, .inl f2))]) [9, 1, 2, 3, 4, 11, 12, 13] rfl
    have hDc := hD.sub (ws' := [(h0, .inr (13, z_1)), (qf27, .inl (cf27, 400, .inl f27)), (qf29, .inl (cf29, 800, .inl f29)), (qf30, .inl (cf30, 800, .inl f30)), (qf34, .inl (cf34, 800, .inl f34)), (qf6, .inl (cf6, 3002, .inl f6)), (qf5, .inl (cf5, 3002, .inl f5)), (qf2, .inl (cf2, 3000, .inl f2))]) [9, 1, 2, 3, 4, 11, 12, 13] (by decide) rfl
    have hKc := hK.sub (tys' := [(cf27, .int), (cf29, .int), (cf30, .int), (cf34, .int), (cf6, .int), (cf5, .int), (cf2, .int)]) [1, 2, 3, 4, 10, 11, 12] rfl
    have hFc := va_free (wc := [(h0, .inr (13, z_1)), (qf27, .inl (cf27, 400, .inl f27)), (qf29, .inl (cf29, 800, .inl f29)), (qf30, .inl (cf30, 800, .inl f30)), (qf34, .inl (cf34, 800, .inl f34)), (qf6, .inl (cf6, 3002, .inl f6)), (qf5, .inl (cf5, 3002, .inl f5)), (qf2, .inl (cf2, 3000, .inl f2))]) hD hS hA [9, 1, 2, 3, 4, 11, 12, 13] rfl
    refine va_calli (va_runV (As := [.int v52, .int (f12 (a1 : Int32).toNatClampNeg), .int 0]) (rest := []) ⟨hx, hb, hml, hown, hts⟩ (tn_memberOf l dC dI H.size h0 z_1 v52 ((f12 (a1 : Int32).toNatClampNeg)) 0 qf2 qf5 qf6 qf27 v28 qf29 qf30 qf34 cf27 f27 cf29 f29 cf30 f30 cf34 f34 cf6 f6 cf5 f5 cf2 f2 nf u2_0 hln_1 hfk_1_2 hfk_1_5 hfk_1_6 hfk_1_27 hfk_1_28 hfk_1_29 hfk_1_30 hfk_1_34 hu_2) (cwV 3 hts gv_h9_21 rfl rfl rfl (by decide +kernel) ⟨Nat.le_of_ble_eq_true rfl, Nat.le_of_ble_eq_true rfl⟩) ⟨fun a U g mk q => by obtain ⟨q0, q1, qP, qK, qD⟩ := q; exact ⟨q0, q1, qP, va_K.moved (u := U) (U := U.calling g mk a) (Vm.Alike.refl U.vm) qK, qD⟩, va_recv hKc hPc (ci := 13) (q0 := 0) rfl rfl, fun U hU hW => ⟨rfl, by rw [hU], by rw [hU]; exact hPc, va_K.moved hW.alike hKc, hDc.weaken (fun _ _ _ _ => trivial)⟩⟩ rfl rfl hl.1 rfl (lv_room (Nat.le_of_ble_eq_true rfl)) dX13_named_53 ⟨Nat.le_of_ble_eq_true rfl, Nat.le_of_ble_eq_true rfl⟩) hS (fun q _ h => hFc q h) hFc ?_
    clear hS
    intro r_5 u t H1 locs ht hvm hw hB hz1 hk1 hS
    obtain ⟨z_2, rfl⟩ : ∃ z, z = u := ⟨_, rfl⟩
    obtain ⟨hP1, hK1, hD1⟩ := hB
    rw [ht] at hP1
    have hK1 := va_K.moved hvm.symm hK1
    try dsimp only at hw
    have hPD := va_join (wr := [(qf12, .inl (cf12, 9000, .inl f12)), (qf19, .inl (cf19, 9000, .inl f19)), (qf20, .inl (cf20, 9000, .inl f20)), (qf49, .inl (cf49, 3000, .inl f49)), (qf35, .inl (cf35, 800, .inl f35)), (qf48, .inl (cf48, 3000, .inl f48))]) (w1 := [(h0, .inr (13, z_2)), (qf27, .inl (cf27, 400, .inl f27)), (qf29, .inl (cf29, 800, .inl f29)), (qf30, .inl (cf30, 800, .inl f30)), (qf34, .inl (cf34, 800, .inl f34)), (qf6, .inl (cf6, 3002, .inl f6)), (qf5, .inl (cf5, 3002, .inl f5)), (qf2, .inl (cf2, 3000, .inl f2))]) hP hD [9, 1, 2, 3, 4, 11, 12, 13] [0, 5, 6, 7, 8, 10] rfl rfl (by decide) (by decide) hk1 hFc hP1 hD1
    clear hP hD
    obtain ⟨hP, hD⟩ := hPD
    replace hK := (hK.sub (tys' := [(cf12, .int), (cf19, .int), (cf20, .int), (cf49, .int), (cf35, .int), (cf48, .int)]) [0, 5, 6, 7, 8, 9] rfl).app hK1
    clear hPc hDc hKc hFc hP1 hK1 hD1 hz1 hk1 ht hvm
    generalize H1 = H at hP hS ⊢
    replace hP : va_P (dC, dI) vwCl [(qf12, .inl (cf12, 9000, .inl f12)), (qf19, .inl (cf19, 9000, .inl f19)), (qf20, .inl (cf20, 9000, .inl f20)), (qf49, .inl (cf49, 3000, .inl f49)), (qf35, .inl (cf35, 800, .inl f35)), (qf48, .inl (cf48, 3000, .inl f48)), (h0, .inr (13, z_2)), (qf27, .inl (cf27, 400, .inl f27)), (qf29, .inl (cf29, 800, .inl f29)), (qf30, .inl (cf30, 800, .inl f30)), (qf34, .inl (cf34, 800, .inl f34)), (qf6, .inl (cf6, 3002, .inl f6)), (qf5, .inl (cf5, 3002, .inl f5)), (qf2, .inl (cf2, 3000, .inl f2))] H := hP
    replace hD : va_D A [(qf12, .inl (cf12, 9000, .inl f12)), (qf19, .inl (cf19, 9000, .inl f19)), (qf20, .inl (cf20, 9000, .inl f20)), (qf49, .inl (cf49, 3000, .inl f49)), (qf35, .inl (cf35, 800, .inl f35)), (qf48, .inl (cf48, 3000, .inl f48)), (h0, .inr (13, z_2)), (qf27, .inl (cf27, 400, .inl f27)), (qf29, .inl (cf29, 800, .inl f29)), (qf30, .inl (cf30, 800, .inl f30)), (qf34, .inl (cf34, 800, .inl f34)), (qf6, .inl (cf6, 3002, .inl f6)), (qf5, .inl (cf5, 3002, .inl f5)), (qf2, .inl (cf2, 3000, .inl f2))] := hD
    replace hK : va_K (dC, dI) vwCl [(cf12, .int), (cf19, .int), (cf20, .int), (cf49, .int), (cf35, .int), (cf48, .int), (cf27, .int), (cf29, .int), (cf30, .int), (cf34, .int), (cf6, .int), (cf5, .int), (cf2, .int)] s := hK
    obtain ⟨hwa_2, hln_2, hre_2⟩ := hw
    have hfk_2_2 : z_2[2]? = some (.ref qf2) := (hre_2 2 ).trans (hfk_1_2)
    have hfk_2_5 : z_2[5]? = some (.ref qf5) := (hre_2 5 ).trans (hfk_1_5)
    have hfk_2_6 : z_2[6]? = some (.ref qf6) := (hre_2 6 ).trans (hfk_1_6)
    have hfk_2_9 : z_2[9]? = some (.int v9) := (hre_2 9 ).trans (hfk_1_9)
    have hfk_2_10 : z_2[10]? = some (.int v10) := (hre_2 10 ).trans (hfk_1_10)
    have hfk_2_12 : z_2[12]? = some (.ref qf12) := (hre_2 12 ).trans (hfk_1_12)
    have hfk_2_19 : z_2[19]? = some (.ref qf19) := (hre_2 19 ).trans (hfk_1_19)
    have hfk_2_20 : z_2[20]? = some (.ref qf20) := (hre_2 20 ).trans (hfk_1_20)
    have hfk_2_27 : z_2[27]? = some (.ref qf27) := (hre_2 27 ).trans (hfk_1_27)
    have hfk_2_28 : z_2[28]? = some (.int v28) := (hre_2 28 ).trans (hfk_1_28)
    have hfk_2_29 : z_2[29]? = some (.ref qf29) := (hre_2 29 ).trans (hfk_1_29)
    have hfk_2_30 : z_2[30]? = some (.ref qf30) := (hre_2 30 ).trans (hfk_1_30)
    have hfk_2_34 : z_2[34]? = some (.ref qf34) := (hre_2 34 ).trans (hfk_1_34)
    have hfk_2_35 : z_2[35]? = some (.ref qf35) := (hre_2 35 ).trans (hfk_1_35)
    have hfk_2_48 : z_2[48]? = some (.ref qf48) := (hre_2 48 ).trans (hfk_1_48)
    have hfk_2_49 : z_2[49]? = some (.ref qf49) := (hre_2 49 ).trans (hfk_1_49)
    have hfk_2_50 : z_2[50]? = some (.int v50) := (hre_2 50 ).trans (hfk_1_50)
    have hfk_2_52 : z_2[52]? = some (.int v52) := (hre_2 52 ).trans (hfk_1_52)
    have hfk_2_53 : z_2[53]? = some (.int v53) := (hre_2 53 ).trans (hfk_1_53)
    have hrq_2 : ∀ j : Nat, j ≠ 10 → j ≠ 9 → z_2[j]? = zs[j]? := fun j g10 g9 => (hre_2 j ).trans (hrq_1 j g10 g9)
    obtain rfl := hwa_2
    refine lv_istore_n (lv' := [(3, .int u2_0), (2, .int u1_0), (0, .ref h0), (1, .int a1)]) hx hb dX13_named_56 rfl hl (by decide) rfl (fun ls hl => ?_)
    refine lv_iload_n hx hb dX13_named_57 rfl (lv_at hl 0 rfl) ?_
    refine lv_iconst (v := (-1)) hx hb dX13_named_58 (by decide) ?_
    refine lv_icmp_ne (tgt := 76) hx hb dX13_named_59 (by decide) (fun c_6 => ?_) (fun c_6 => ?_)
    · rw [if_neg c_6] at hsp
      refine lv_aload_n hx hb dX13_named_76 rfl (lv_at hl 2 rfl) ?_
      refine va_get (D := (dC, dI)) (ci := 13) (v := .int v53) (C := RX13) (T := TX13) (N := 155) hx hb hts uV_h9_X13 hown hK hP 6 rfl rfl 53 (by decide) (hts (.fieldLink RX13 510 "ClassMillModel" "still" "Z") mw_h9_138) (fun _ h9 => h9) hfk_2_53 dX13_named_77 ?_
      refine lv_if_eq (tgt := 95) hx hb dX13_named_80 (by decide) (fun c_7 => ?_) (fun c_7 => ?_)
      · rw [if_pos c_7] at hsp
        exact hj_95 (H, locs, ls, z_2, a1, u2_0, f19, f20, v10, v9) ⟨lv_sub hl [2, 3, 0] rfl, hS, hD.sub (ws' := [(h0, .inr (13, z_2)), (qf12, .inl (cf12, 9000, .inl f12)), (qf48, .inl (cf48, 3000, .inl f48)), (qf6, .inl (cf6, 3002, .inl f6)), (qf5, .inl (cf5, 3002, .inl f5)), (qf2, .inl (cf2, 3000, .inl f2)), (qf27, .inl (cf27, 400, .inl f27)), (qf29, .inl (cf29, 800, .inl f29)), (qf30, .inl (cf30, 800, .inl f30)), (qf34, .inl (cf34, 800, .inl f34)), (qf19, .inl (cf19, 9000, .inl f19)), (qf20, .inl (cf20, 9000, .inl f20)), (qf49, .inl (cf49, 3000, .inl f49)), (qf35, .inl (cf35, 800, .inl f35))]) [6, 0, 5, 11, 12, 13, 7, 8, 9, 10, 1, 2, 3, 4] (by decide) rfl, hP.sub (ws' := [(h0, .inr (13, z_2)), (qf12, .inl (cf12, 9000, .inl f12)), (qf48, .inl (cf48, 3000, .inl f48)), (qf6, .inl (cf6, 3002, .inl f6)), (qf5, .inl (cf5, 3002, .inl f5)), (qf2, .inl (cf2, 3000, .inl f2)), (qf27, .inl (cf27, 400, .inl f27)), (qf29, .inl (cf29, 800, .inl f29)), (qf30, .inl (cf30, 800, .inl f30)), (qf34, .inl (cf34, 800, .inl f34)), (qf19, .inl (cf19, 9000, .inl f19)), (qf20, .inl (cf20, 9000, .inl f20)), (qf49, .inl (cf49, 3000, .inl f49)), (qf35, .inl (cf35, 800, .inl f35))]) [6, 0, 5, 11, 12, 13, 7, 8, 9, 10, 1, 2, 3, 4] rfl, hfk_2_2, hfk_2_5, hfk_2_6, hfk_2_9, hfk_2_10, hfk_2_12, hfk_2_19, hfk_2_20, hfk_2_27, hfk_2_28, hfk_2_29, hfk_2_30, hfk_2_34, hfk_2_35, hfk_2_48, hfk_2_49, hfk_2_50, hfk_2_52, hfk_2_53, hln_2, hrq_2, hsp⟩
      · rw [if_neg c_7] at hsp
        refine lv_aload_n hx hb dX13_named_83 rfl (lv_at hl 2 rfl) ?_
        refine lv_bipush (v := 7) hx hb dX13_named_84 (by decide) ?_
        refine lv_aload_n hx hb dX13_named_86 rfl (lv_at hl 2 rfl) ?_
        refine va_get (D := (dC, dI)) (ci := 13) (v := .ref qf12) (C := RX13) (T := TX13) (N := 155) hx hb hts uV_h9_X13 hown hK hP 6 rfl rfl 12 (by decide) (hts (.fieldLink RX13 31 "ClassMillModel" "tok" "[I") mw_h9_40) (fun _ h9 => h9) hfk_2_12 dX13_named_87 ?_
        refine lv_iload_n hx hb dX13_named_90 rfl (lv_at hl 3 rfl) ?_
        obtain ⟨hi_8, hsp⟩ := ox_in hsp
        refine va_iald hx hb hK hP 0 0 rfl rfl (i := a1) hi_8 dX13_named_91 ?_
        obtain ⟨⟨u3_0, u3_1⟩, hu_3, hsp⟩ := ox_bind hsp
        try dsimp only at hsp
        have hPc := hP.sub (ws' := [(h0, .inr (13, z_2)), (qf5, .inl (cf5, 3002, .inl f5))]) [6, 12] rfl
        have hDc := hD.sub (ws' := [(h0, .inr (13, z_2)), (qf5, .inl (cf5, 3002, .inl f5))]) [6, 12] (by decide) rfl
        have hKc := hK.sub (tys' := [(cf5, .int)]) [11] rfl
        have hFc := va_free (wc := [(h0, .inr (13, z_2)), (qf5, .inl (cf5, 3002, .inl f5))]) hD hS hA [6, 12] rfl
        refine va_callv (va_runV (As := [.int 7, .int (f12 (a1 : Int32).toNatClampNeg)]) (rest := []) ⟨hx, hb, hml, hown, hts⟩ (tm_wrong l dC dI H.size h0 z_2 7 ((f12 (a1 : Int32).toNatClampNeg)) qf5 v9 v10 cf5 f5 nf u3_0 u3_1 hln_2 hfk_2_5 hfk_2_9 hfk_2_10 hu_3) (cwV 2 hts gv_h9_18 rfl rfl rfl (by decide +kernel) ⟨Nat.le_of_ble_eq_true rfl, Nat.le_of_ble_eq_true rfl⟩) ⟨fun a U g mk q => by obtain ⟨q0, q1, qP, qK, qD⟩ := q; exact ⟨q0, q1, qP, va_K.moved (u := U) (U := U.calling g mk a) (Vm.Alike.refl U.vm) qK, qD⟩, va_recv hKc hPc (ci := 13) (q0 := 0) rfl rfl, fun U hU hW => ⟨rfl, by rw [hU], by rw [hU]; exact hPc, va_K.moved hW.alike hKc, hDc.weaken (fun _ _ _ _ => trivial)⟩⟩ rfl rfl hl.1 rfl (lv_room (Nat.le_of_ble_eq_true rfl)) dX13_named_92 ⟨Nat.le_of_ble_eq_true rfl, Nat.le_of_ble_eq_true rfl⟩) hS (fun q _ h => hFc q h) hFc ?_
        clear hS
        intro u t H1 locs ht hvm hw hB hz1 hk1 hS
        obtain ⟨z_3, rfl⟩ : ∃ z, z = u := ⟨_, rfl⟩
        obtain ⟨hP1, hK1, hD1⟩ := hB
        rw [ht] at hP1
        have hK1 := va_K.moved hvm.symm hK1
        try dsimp only at hw
        have hPD := va_join (wr := [(qf12, .inl (cf12, 9000, .inl f12)), (qf19, .inl (cf19, 9000, .inl f19)), (qf20, .inl (cf20, 9000, .inl f20)), (qf49, .inl (cf49, 3000, .inl f49)), (qf35, .inl (cf35, 800, .inl f35)), (qf48, .inl (cf48, 3000, .inl f48)), (qf27, .inl (cf27, 400, .inl f27)), (qf29, .inl (cf29, 800, .inl f29)), (qf30, .inl (cf30, 800, .inl f30)), (qf34, .inl (cf34, 800, .inl f34)), (qf6, .inl (cf6, 3002, .inl f6)), (qf2, .inl (cf2, 3000, .inl f2))]) (w1 := [(h0, .inr (13, z_3)), (qf5, .inl (cf5, 3002, .inl f5))]) hP hD [6, 12] [0, 1, 2, 3, 4, 5, 7, 8, 9, 10, 11, 13] rfl rfl (by decide) (by decide) hk1 hFc hP1 hD1
        clear hP hD
        obtain ⟨hP, hD⟩ := hPD
        replace hK := (hK.sub (tys' := [(cf12, .int), (cf19, .int), (cf20, .int), (cf49, .int), (cf35, .int), (cf48, .int), (cf27, .int), (cf29, .int), (cf30, .int), (cf34, .int), (cf6, .int), (cf2, .int)]) [0, 1, 2, 3, 4, 5, 6, 7, 8, 9, 10, 12] rfl).app hK1
        clear hPc hDc hKc hFc hP1 hK1 hD1 hz1 hk1 ht hvm
        generalize H1 = H at hP hS ⊢
        replace hP : va_P (dC, dI) vwCl [(qf12, .inl (cf12, 9000, .inl f12)), (qf19, .inl (cf19, 9000, .inl f19)), (qf20, .inl (cf20, 9000, .inl f20)), (qf49, .inl (cf49, 3000, .inl f49)), (qf35, .inl (cf35, 800, .inl f35)), (qf48, .inl (cf48, 3000, .inl f48)), (qf27, .inl (cf27, 400, .inl f27)), (qf29, .inl (cf29, 800, .inl f29)), (qf30, .inl (cf30, 800, .inl f30)), (qf34, .inl (cf34, 800, .inl f34)), (qf6, .inl (cf6, 3002, .inl f6)), (qf2, .inl (cf2, 3000, .inl f2)), (h0, .inr (13, z_3)), (qf5, .inl (cf5, 3002, .inl f5))] H := hP
        replace hD : va_D A [(qf12, .inl (cf12, 9000, .inl f12)), (qf19, .inl (cf19, 9000, .inl f19)), (qf20, .inl (cf20, 9000, .inl f20)), (qf49, .inl (cf49, 3000, .inl f49)), (qf35, .inl (cf35, 800, .inl f35)), (qf48, .inl (cf48, 3000, .inl f48)), (qf27, .inl (cf27, 400, .inl f27)), (qf29, .inl (cf29, 800, .inl f29)), (qf30, .inl (cf30, 800, .inl f30)), (qf34, .inl (cf34, 800, .inl f34)), (qf6, .inl (cf6, 3002, .inl f6)), (qf2, .inl (cf2, 3000, .inl f2)), (h0, .inr (13, z_3)), (qf5, .inl (cf5, 3002, .inl f5))] := hD
        replace hK : va_K (dC, dI) vwCl [(cf12, .int), (cf19, .int), (cf20, .int), (cf49, .int), (cf35, .int), (cf48, .int), (cf27, .int), (cf29, .int), (cf30, .int), (cf34, .int), (cf6, .int), (cf2, .int), (cf5, .int)] s := hK
        obtain ⟨hwa_3, hln_3, hre_3, hch_3_10, hch_3_9⟩ := hw
        have hfk_3_2 : z_3[2]? = some (.ref qf2) := (hre_3 2 (by decide) (by decide)).trans (hfk_2_2)
        have hfk_3_5 : z_3[5]? = some (.ref qf5) := (hre_3 5 (by decide) (by decide)).trans (hfk_2_5)
        have hfk_3_6 : z_3[6]? = some (.ref qf6) := (hre_3 6 (by decide) (by decide)).trans (hfk_2_6)
        have hfk_3_12 : z_3[12]? = some (.ref qf12) := (hre_3 12 (by decide) (by decide)).trans (hfk_2_12)
        have hfk_3_19 : z_3[19]? = some (.ref qf19) := (hre_3 19 (by decide) (by decide)).trans (hfk_2_19)
        have hfk_3_20 : z_3[20]? = some (.ref qf20) := (hre_3 20 (by decide) (by decide)).trans (hfk_2_20)
        have hfk_3_27 : z_3[27]? = some (.ref qf27) := (hre_3 27 (by decide) (by decide)).trans (hfk_2_27)
        have hfk_3_28 : z_3[28]? = some (.int v28) := (hre_3 28 (by decide) (by decide)).trans (hfk_2_28)
        have hfk_3_29 : z_3[29]? = some (.ref qf29) := (hre_3 29 (by decide) (by decide)).trans (hfk_2_29)
        have hfk_3_30 : z_3[30]? = some (.ref qf30) := (hre_3 30 (by decide) (by decide)).trans (hfk_2_30)
        have hfk_3_34 : z_3[34]? = some (.ref qf34) := (hre_3 34 (by decide) (by decide)).trans (hfk_2_34)
        have hfk_3_35 : z_3[35]? = some (.ref qf35) := (hre_3 35 (by decide) (by decide)).trans (hfk_2_35)
        have hfk_3_48 : z_3[48]? = some (.ref qf48) := (hre_3 48 (by decide) (by decide)).trans (hfk_2_48)
        have hfk_3_49 : z_3[49]? = some (.ref qf49) := (hre_3 49 (by decide) (by decide)).trans (hfk_2_49)
        have hfk_3_50 : z_3[50]? = some (.int v50) := (hre_3 50 (by decide) (by decide)).trans (hfk_2_50)
        have hfk_3_52 : z_3[52]? = some (.int v52) := (hre_3 52 (by decide) (by decide)).trans (hfk_2_52)
        have hfk_3_53 : z_3[53]? = some (.int v53) := (hre_3 53 (by decide) (by decide)).trans (hfk_2_53)
        have hrq_3 : ∀ j : Nat, j ≠ 10 → j ≠ 9 → z_3[j]? = zs[j]? := fun j g10 g9 => (hre_3 j g10 g9).trans (hrq_2 j g10 g9)
        exact hj_95 (H, locs, ls, z_3, a1, u2_0, f19, f20, u3_0, u3_1) ⟨lv_sub hl [2, 3, 0] rfl, hS, hD.sub (ws' := [(h0, .inr (13, z_3)), (qf12, .inl (cf12, 9000, .inl f12)), (qf48, .inl (cf48, 3000, .inl f48)), (qf6, .inl (cf6, 3002, .inl f6)), (qf5, .inl (cf5, 3002, .inl f5)), (qf2, .inl (cf2, 3000, .inl f2)), (qf27, .inl (cf27, 400, .inl f27)), (qf29, .inl (cf29, 800, .inl f29)), (qf30, .inl (cf30, 800, .inl f30)), (qf34, .inl (cf34, 800, .inl f34)), (qf19, .inl (cf19, 9000, .inl f19)), (qf20, .inl (cf20, 9000, .inl f20)), (qf49, .inl (cf49, 3000, .inl f49)), (qf35, .inl (cf35, 800, .inl f35))]) [12, 0, 5, 10, 13, 11, 6, 7, 8, 9, 1, 2, 3, 4] (by decide) rfl, hP.sub (ws' := [(h0, .inr (13, z_3)), (qf12, .inl (cf12, 9000, .inl f12)), (qf48, .inl (cf48, 3000, .inl f48)), (qf6, .inl (cf6, 3002, .inl f6)), (qf5, .inl (cf5, 3002, .inl f5)), (qf2, .inl (cf2, 3000, .inl f2)), (qf27, .inl (cf27, 400, .inl f27)), (qf29, .inl (cf29, 800, .inl f29)), (qf30, .inl (cf30, 800, .inl f30)), (qf34, .inl (cf34, 800, .inl f34)), (qf19, .inl (cf19, 9000, .inl f19)), (qf20, .inl (cf20, 9000, .inl f20)), (qf49, .inl (cf49, 3000, .inl f49)), (qf35, .inl (cf35, 800, .inl f35))]) [12, 0, 5, 10, 13, 11, 6, 7, 8, 9, 1, 2, 3, 4] rfl, hfk_3_2, hfk_3_5, hfk_3_6, hch_3_9, hch_3_10, hfk_3_12, hfk_3_19, hfk_3_20, hfk_3_27, hfk_3_28, hfk_3_29, hfk_3_30, hfk_3_34, hfk_3_35, hfk_3_48, hfk_3_49, hfk_3_50, hfk_3_52, hfk_3_53, hln_3, hrq_3, hsp⟩
    · rw [if_pos c_6] at hsp
      refine lv_aload_n hx hb dX13_named_62 rfl (lv_at hl 2 rfl) ?_
      refine lv_iconst (v := 5) hx hb dX13_named_63 (by decide) ?_
      refine lv_aload_n hx hb dX13_named_64 rfl (lv_at hl 2 rfl) ?_
      refine va_get (D := (dC, dI)) (ci := 13) (v := .ref qf12) (C := RX13) (T := TX13) (N := 155) hx hb hts uV_h9_X13 hown hK hP 6 rfl rfl 12 (by decide) (hts (.fieldLink RX13 31 "ClassMillModel" "tok" "[I") mw_h9_40) (fun _ h9 => h9) hfk_2_12 dX13_named_65 ?_
      refine lv_iload_n hx hb dX13_named_68 rfl (lv_at hl 3 rfl) ?_
      obtain ⟨hi_9, hsp⟩ := ox_in hsp
      refine va_iald hx hb hK hP 0 0 rfl rfl (i := a1) hi_9 dX13_named_69 ?_
      obtain ⟨⟨u4_0, u4_1⟩, hu_4, hsp⟩ := ox_bind hsp
      try dsimp only at hsp
      have hPc := hP.sub (ws' := [(h0, .inr (13, z_2)), (qf5, .inl (cf5, 3002, .inl f5))]) [6, 12] rfl
      have hDc := hD.sub (ws' := [(h0, .inr (13, z_2)), (qf5, .inl (cf5, 3002, .inl f5))]) [6, 12] (by decide) rfl
      have hKc := hK.sub (tys' := [(cf5, .int)]) [11] rfl
      have hFc := va_free (wc := [(h0, .inr (13, z_2)), (qf5, .inl (cf5, 3002, .inl f5))]) hD hS hA [6, 12] rfl
      refine va_callv (va_runV (As := [.int 5, .int (f12 (a1 : Int32).toNatClampNeg)]) (rest := []) ⟨hx, hb, hml, hown, hts⟩ (tm_wrong l dC dI H.size h0 z_2 5 ((f12 (a1 : Int32).toNatClampNeg)) qf5 v9 v10 cf5 f5 nf u4_0 u4_1 hln_2 hfk_2_5 hfk_2_9 hfk_2_10 hu_4) (cwV 2 hts gv_h9_18 rfl rfl rfl (by decide +kernel) ⟨Nat.le_of_ble_eq_true rfl, Nat.le_of_ble_eq_true rfl⟩) ⟨fun a U g mk q => by obtain ⟨q0, q1, qP, qK, qD⟩ := q; exact ⟨q0, q1, qP, va_K.moved (u := U) (U := U.calling g mk a) (Vm.Alike.refl U.vm) qK, qD⟩, va_recv hKc hPc (ci := 13) (q0 := 0) rfl rfl, fun U hU hW => ⟨rfl, by rw [hU], by rw [hU]; exact hPc, va_K.moved hW.alike hKc, hDc.weaken (fun _ _ _ _ => trivial)⟩⟩ rfl rfl hl.1 rfl (lv_room (Nat.le_of_ble_eq_true rfl)) dX13_named_70 ⟨Nat.le_of_ble_eq_true rfl, Nat.le_of_ble_eq_true rfl⟩) hS (fun q _ h => hFc q h) hFc ?_
      clear hS
      intro u t H1 locs ht hvm hw hB hz1 hk1 hS
      obtain ⟨z_4, rfl⟩ : ∃ z, z = u := ⟨_, rfl⟩
      obtain ⟨hP1, hK1, hD1⟩ := hB
      rw [ht] at hP1
      have hK1 := va_K.moved hvm.symm hK1
      try dsimp only at hw
      have hPD := va_join (wr := [(qf12, .inl (cf12, 9000, .inl f12)), (qf19, .inl (cf19, 9000, .inl f19)), (qf20, .inl (cf20, 9000, .inl f20)), (qf49, .inl (cf49, 3000, .inl f49)), (qf35, .inl (cf35, 800, .inl f35)), (qf48, .inl (cf48, 3000, .inl f48)), (qf27, .inl (cf27, 400, .inl f27)), (qf29, .inl (cf29, 800, .inl f29)), (qf30, .inl (cf30, 800, .inl f30)), (qf34, .inl (cf34, 800, .inl f34)), (qf6, .inl (cf6, 3002, .inl f6)), (qf2, .inl (cf2, 3000, .inl f2))]) (w1 := [(h0, .inr (13, z_4)), (qf5, .inl (cf5, 3002, .inl f5))]) hP hD [6, 12] [0, 1, 2, 3, 4, 5, 7, 8, 9, 10, 11, 13] rfl rfl (by decide) (by decide) hk1 hFc hP1 hD1
      clear hP hD
      obtain ⟨hP, hD⟩ := hPD
      replace hK := (hK.sub (tys' := [(cf12, .int), (cf19, .int), (cf20, .int), (cf49, .int), (cf35, .int), (cf48, .int), (cf27, .int), (cf29, .int), (cf30, .int), (cf34, .int), (cf6, .int), (cf2, .int)]) [0, 1, 2, 3, 4, 5, 6, 7, 8, 9, 10, 12] rfl).app hK1
      clear hPc hDc hKc hFc hP1 hK1 hD1 hz1 hk1 ht hvm
      generalize H1 = H at hP hS ⊢
      replace hP : va_P (dC, dI) vwCl [(qf12, .inl (cf12, 9000, .inl f12)), (qf19, .inl (cf19, 9000, .inl f19)), (qf20, .inl (cf20, 9000, .inl f20)), (qf49, .inl (cf49, 3000, .inl f49)), (qf35, .inl (cf35, 800, .inl f35)), (qf48, .inl (cf48, 3000, .inl f48)), (qf27, .inl (cf27, 400, .inl f27)), (qf29, .inl (cf29, 800, .inl f29)), (qf30, .inl (cf30, 800, .inl f30)), (qf34, .inl (cf34, 800, .inl f34)), (qf6, .inl (cf6, 3002, .inl f6)), (qf2, .inl (cf2, 3000, .inl f2)), (h0, .inr (13, z_4)), (qf5, .inl (cf5, 3002, .inl f5))] H := hP
      replace hD : va_D A [(qf12, .inl (cf12, 9000, .inl f12)), (qf19, .inl (cf19, 9000, .inl f19)), (qf20, .inl (cf20, 9000, .inl f20)), (qf49, .inl (cf49, 3000, .inl f49)), (qf35, .inl (cf35, 800, .inl f35)), (qf48, .inl (cf48, 3000, .inl f48)), (qf27, .inl (cf27, 400, .inl f27)), (qf29, .inl (cf29, 800, .inl f29)), (qf30, .inl (cf30, 800, .inl f30)), (qf34, .inl (cf34, 800, .inl f34)), (qf6, .inl (cf6, 3002, .inl f6)), (qf2, .inl (cf2, 3000, .inl f2)), (h0, .inr (13, z_4)), (qf5, .inl (cf5, 3002, .inl f5))] := hD
      replace hK : va_K (dC, dI) vwCl [(cf12, .int), (cf19, .int), (cf20, .int), (cf49, .int), (cf35, .int), (cf48, .int), (cf27, .int), (cf29, .int), (cf30, .int), (cf34, .int), (cf6, .int), (cf2, .int), (cf5, .int)] s := hK
      obtain ⟨hwa_4, hln_4, hre_4, hch_4_10, hch_4_9⟩ := hw
      have hfk_4_2 : z_4[2]? = some (.ref qf2) := (hre_4 2 (by decide) (by decide)).trans (hfk_2_2)
      have hfk_4_5 : z_4[5]? = some (.ref qf5) := (hre_4 5 (by decide) (by decide)).trans (hfk_2_5)
      have hfk_4_6 : z_4[6]? = some (.ref qf6) := (hre_4 6 (by decide) (by decide)).trans (hfk_2_6)
      have hfk_4_12 : z_4[12]? = some (.ref qf12) := (hre_4 12 (by decide) (by decide)).trans (hfk_2_12)
      have hfk_4_19 : z_4[19]? = some (.ref qf19) := (hre_4 19 (by decide) (by decide)).trans (hfk_2_19)
      have hfk_4_20 : z_4[20]? = some (.ref qf20) := (hre_4 20 (by decide) (by decide)).trans (hfk_2_20)
      have hfk_4_27 : z_4[27]? = some (.ref qf27) := (hre_4 27 (by decide) (by decide)).trans (hfk_2_27)
      have hfk_4_28 : z_4[28]? = some (.int v28) := (hre_4 28 (by decide) (by decide)).trans (hfk_2_28)
      have hfk_4_29 : z_4[29]? = some (.ref qf29) := (hre_4 29 (by decide) (by decide)).trans (hfk_2_29)
      have hfk_4_30 : z_4[30]? = some (.ref qf30) := (hre_4 30 (by decide) (by decide)).trans (hfk_2_30)
      have hfk_4_34 : z_4[34]? = some (.ref qf34) := (hre_4 34 (by decide) (by decide)).trans (hfk_2_34)
      have hfk_4_35 : z_4[35]? = some (.ref qf35) := (hre_4 35 (by decide) (by decide)).trans (hfk_2_35)
      have hfk_4_48 : z_4[48]? = some (.ref qf48) := (hre_4 48 (by decide) (by decide)).trans (hfk_2_48)
      have hfk_4_49 : z_4[49]? = some (.ref qf49) := (hre_4 49 (by decide) (by decide)).trans (hfk_2_49)
      have hfk_4_50 : z_4[50]? = some (.int v50) := (hre_4 50 (by decide) (by decide)).trans (hfk_2_50)
      have hfk_4_52 : z_4[52]? = some (.int v52) := (hre_4 52 (by decide) (by decide)).trans (hfk_2_52)
      have hfk_4_53 : z_4[53]? = some (.int v53) := (hre_4 53 (by decide) (by decide)).trans (hfk_2_53)
      have hrq_4 : ∀ j : Nat, j ≠ 10 → j ≠ 9 → z_4[j]? = zs[j]? := fun j g10 g9 => (hre_4 j g10 g9).trans (hrq_2 j g10 g9)
      refine lv_goto (tgt := 95) hx hb dX13_named_73 (by decide) ?_
      exact hj_95 (H, locs, ls, z_4, a1, u2_0, f19, f20, u4_0, u4_1) ⟨lv_sub hl [2, 3, 0] rfl, hS, hD.sub (ws' := [(h0, .inr (13, z_4)), (qf12, .inl (cf12, 9000, .inl f12)), (qf48, .inl (cf48, 3000, .inl f48)), (qf6, .inl (cf6, 3002, .inl f6)), (qf5, .inl (cf5, 3002, .inl f5)), (qf2, .inl (cf2, 3000, .inl f2)), (qf27, .inl (cf27, 400, .inl f27)), (qf29, .inl (cf29, 800, .inl f29)), (qf30, .inl (cf30, 800, .inl f30)), (qf34, .inl (cf34, 800, .inl f34)), (qf19, .inl (cf19, 9000, .inl f19)), (qf20, .inl (cf20, 9000, .inl f20)), (qf49, .inl (cf49, 3000, .inl f49)), (qf35, .inl (cf35, 800, .inl f35))]) [12, 0, 5, 10, 13, 11, 6, 7, 8, 9, 1, 2, 3, 4] (by decide) rfl, hP.sub (ws' := [(h0, .inr (13, z_4)), (qf12, .inl (cf12, 9000, .inl f12)), (qf48, .inl (cf48, 3000, .inl f48)), (qf6, .inl (cf6, 3002, .inl f6)), (qf5, .inl (cf5, 3002, .inl f5)), (qf2, .inl (cf2, 3000, .inl f2)), (qf27, .inl (cf27, 400, .inl f27)), (qf29, .inl (cf29, 800, .inl f29)), (qf30, .inl (cf30, 800, .inl f30)), (qf34, .inl (cf34, 800, .inl f34)), (qf19, .inl (cf19, 9000, .inl f19)), (qf20, .inl (cf20, 9000, .inl f20)), (qf49, .inl (cf49, 3000, .inl f49)), (qf35, .inl (cf35, 800, .inl f35))]) [12, 0, 5, 10, 13, 11, 6, 7, 8, 9, 1, 2, 3, 4] rfl, hfk_4_2, hfk_4_5, hfk_4_6, hch_4_9, hch_4_10, hfk_4_12, hfk_4_19, hfk_4_20, hfk_4_27, hfk_4_28, hfk_4_29, hfk_4_30, hfk_4_34, hfk_4_35, hfk_4_48, hfk_4_49, hfk_4_50, hfk_4_52, hfk_4_53, hln_4, hrq_4, hsp⟩
  · rw [if_neg c_3] at hsp
    refine lv_aload_n hx hb dX13_named_16 rfl (lv_at hl 1 rfl) ?_
    refine va_get (D := (dC, dI)) (ci := 13) (v := .ref qf19) (C := RX13) (T := TX13) (N := 155) hx hb hts uV_h9_X13 hown hK hP 9 rfl rfl 19 (by decide) (hts (.fieldLink RX13 52 "ClassMillModel" "means" "[I") mw_h9_47) (fun _ h9 => h9) hfk_1_19 dX13_named_17 ?_
    refine lv_iload_n hx hb dX13_named_20 rfl (lv_at hl 2 rfl) ?_
    refine lv_iconst (v := (-1)) hx hb dX13_named_21 (by decide) ?_
    obtain ⟨hi_10, hsp⟩ := ox_in hsp
    refine va_iast hx hb hK hP hD hS 5 5 rfl rfl (i := a1) (x := (-1)) hi_10 dX13_named_22 ?_
    clear hP hD hS
    intro H locs hP hD hS
    replace hP : va_P (dC, dI) vwCl [(qf12, .inl (cf12, 9000, .inl f12)), (qf27, .inl (cf27, 400, .inl f27)), (qf29, .inl (cf29, 800, .inl f29)), (qf30, .inl (cf30, 800, .inl f30)), (qf34, .inl (cf34, 800, .inl f34)), (qf19, .inl (cf19, 9000, .inl (upd f19 (a1 : Int32).toNatClampNeg (-1)))), (qf20, .inl (cf20, 9000, .inl f20)), (qf49, .inl (cf49, 3000, .inl f49)), (qf35, .inl (cf35, 800, .inl f35)), (h0, .inr (13, z_1)), (qf48, .inl (cf48, 3000, .inl f48)), (qf6, .inl (cf6, 3002, .inl f6)), (qf5, .inl (cf5, 3002, .inl f5)), (qf2, .inl (cf2, 3000, .inl f2))] H := hP
    replace hD : va_D A [(qf12, .inl (cf12, 9000, .inl f12)), (qf27, .inl (cf27, 400, .inl f27)), (qf29, .inl (cf29, 800, .inl f29)), (qf30, .inl (cf30, 800, .inl f30)), (qf34, .inl (cf34, 800, .inl f34)), (qf19, .inl (cf19, 9000, .inl (upd f19 (a1 : Int32).toNatClampNeg (-1)))), (qf20, .inl (cf20, 9000, .inl f20)), (qf49, .inl (cf49, 3000, .inl f49)), (qf35, .inl (cf35, 800, .inl f35)), (h0, .inr (13, z_1)), (qf48, .inl (cf48, 3000, .inl f48)), (qf6, .inl (cf6, 3002, .inl f6)), (qf5, .inl (cf5, 3002, .inl f5)), (qf2, .inl (cf2, 3000, .inl f2))] := hD
    refine lv_aload_n hx hb dX13_named_23 rfl (lv_at hl 1 rfl) ?_
    refine va_get (D := (dC, dI)) (ci := 13) (v := .ref qf20) (C := RX13) (T := TX13) (N := 155) hx hb hts uV_h9_X13 hown hK hP 9 rfl rfl 20 (by decide) (hts (.fieldLink RX13 55 "ClassMillModel" "slot" "[I") mw_h9_48) (fun _ h9 => h9) hfk_1_20 dX13_named_24 ?_
    refine lv_iload_n hx hb dX13_named_27 rfl (lv_at hl 2 rfl) ?_
    refine lv_aload_n hx hb dX13_named_28 rfl (lv_at hl 1 rfl) ?_
    refine lv_iload_n hx hb dX13_named_29 rfl (lv_at hl 0 rfl) ?_
    obtain ⟨u5_0, hu_5, hsp⟩ := ox_bind hsp
    try dsimp only at hsp
    have hPc := hP.sub (ws' := [(h0, .inr (13, z_1))]) [9] rfl
    have hDc := hD.sub (ws' := [(h0, .inr (13, z_1))]) [9] (by decide) rfl
    have hKc := hK.sub (tys' := []) [] rfl
    have hFc := va_free (wc := [(h0, .inr (13, z_1))]) hD hS hA [9] rfl
    refine va_calli (va_runV (As := [.int u1_0]) (rest := [.int a1, .ref qf20]) ⟨hx, hb, hml, hown, hts⟩ (tm_local l dC dI H.size h0 z_1 u1_0 v53 nf u5_0 hln_1 hfk_1_53 hu_5) (cwV 1 hts gv_h9_23 rfl rfl rfl (by decide +kernel) ⟨Nat.le_of_ble_eq_true rfl, Nat.le_of_ble_eq_true rfl⟩) ⟨fun a U g mk q => by obtain ⟨q0, q1, qP, qK, qD⟩ := q; exact ⟨q0, q1, qP, va_K.moved (u := U) (U := U.calling g mk a) (Vm.Alike.refl U.vm) qK, qD⟩, va_recv hKc hPc (ci := 13) (q0 := 0) rfl rfl, fun U hU hW => ⟨rfl, by rw [hU], by rw [hU]; exact hPc, va_K.moved hW.alike hKc, hDc.weaken (fun _ _ _ _ => trivial)⟩⟩ rfl rfl hl.1 rfl (lv_room (Nat.le_of_ble_eq_true rfl)) dX13_named_30 ⟨Nat.le_of_ble_eq_true rfl, Nat.le_of_ble_eq_true rfl⟩) hS (fun q _ h => hFc q h) hFc ?_
    clear hS
    intro r_11 u t H1 locs ht hvm hw hB hz1 hk1 hS
    obtain ⟨z_5, rfl⟩ : ∃ z, z = u := ⟨_, rfl⟩
    obtain ⟨hP1, hK1, hD1⟩ := hB
    rw [ht] at hP1
    have hK1 := va_K.moved hvm.symm hK1
    try dsimp only at hw
    have hPD := va_join (wr := [(qf12, .inl (cf12, 9000, .inl f12)), (qf27, .inl (cf27, 400, .inl f27)), (qf29, .inl (cf29, 800, .inl f29)), (qf30, .inl (cf30, 800, .inl f30)), (qf34, .inl (cf34, 800, .inl f34)), (qf19, .inl (cf19, 9000, .inl (upd f19 (a1 : Int32).toNatClampNeg (-1)))), (qf20, .inl (cf20, 9000, .inl f20)), (qf49, .inl (cf49, 3000, .inl f49)), (qf35, .inl (cf35, 800, .inl f35)), (qf48, .inl (cf48, 3000, .inl f48)), (qf6, .inl (cf6, 3002, .inl f6)), (qf5, .inl (cf5, 3002, .inl f5)), (qf2, .inl (cf2, 3000, .inl f2))]) (w1 := [(h0, .inr (13, z_5))]) hP hD [9] [0, 1, 2, 3, 4, 5, 6, 7, 8, 10, 11, 12, 13] rfl rfl (by decide) (by decide) hk1 hFc hP1 hD1
    clear hP hD
    obtain ⟨hP, hD⟩ := hPD
    replace hK := (hK.sub (tys' := [(cf12, .int), (cf27, .int), (cf29, .int), (cf30, .int), (cf34, .int), (cf19, .int), (cf20, .int), (cf49, .int), (cf35, .int), (cf48, .int), (cf6, .int), (cf5, .int), (cf2, .int)]) [0, 1, 2, 3, 4, 5, 6, 7, 8, 9, 10, 11, 12] rfl).app hK1
    clear hPc hDc hKc hFc hP1 hK1 hD1 hz1 hk1 ht hvm
    generalize H1 = H at hP hS ⊢
    replace hP : va_P (dC, dI) vwCl [(qf12, .inl (cf12, 9000, .inl f12)), (qf27, .inl (cf27, 400, .inl f27)), (qf29, .inl (cf29, 800, .inl f29)), (qf30, .inl (cf30, 800, .inl f30)), (qf34, .inl (cf34, 800, .inl f34)), (qf19, .inl (cf19, 9000, .inl (upd f19 (a1 : Int32).toNatClampNeg (-1)))), (qf20, .inl (cf20, 9000, .inl f20)), (qf49, .inl (cf49, 3000, .inl f49)), (qf35, .inl (cf35, 800, .inl f35)), (qf48, .inl (cf48, 3000, .inl f48)), (qf6, .inl (cf6, 3002, .inl f6)), (qf5, .inl (cf5, 3002, .inl f5)), (qf2, .inl (cf2, 3000, .inl f2)), (h0, .inr (13, z_5))] H := hP
    replace hD : va_D A [(qf12, .inl (cf12, 9000, .inl f12)), (qf27, .inl (cf27, 400, .inl f27)), (qf29, .inl (cf29, 800, .inl f29)), (qf30, .inl (cf30, 800, .inl f30)), (qf34, .inl (cf34, 800, .inl f34)), (qf19, .inl (cf19, 9000, .inl (upd f19 (a1 : Int32).toNatClampNeg (-1)))), (qf20, .inl (cf20, 9000, .inl f20)), (qf49, .inl (cf49, 3000, .inl f49)), (qf35, .inl (cf35, 800, .inl f35)), (qf48, .inl (cf48, 3000, .inl f48)), (qf6, .inl (cf6, 3002, .inl f6)), (qf5, .inl (cf5, 3002, .inl f5)), (qf2, .inl (cf2, 3000, .inl f2)), (h0, .inr (13, z_5))] := hD
    replace hK : va_K (dC, dI) vwCl [(cf12, .int), (cf27, .int), (cf29, .int), (cf30, .int), (cf34, .int), (cf19, .int), (cf20, .int), (cf49, .int), (cf35, .int), (cf48, .int), (cf6, .int), (cf5, .int), (cf2, .int)] s := hK
    obtain ⟨hwa_5, hln_5, hre_5⟩ := hw
    have hfk_5_2 : z_5[2]? = some (.ref qf2) := (hre_5 2 ).trans (hfk_1_2)
    have hfk_5_5 : z_5[5]? = some (.ref qf5) := (hre_5 5 ).trans (hfk_1_5)
    have hfk_5_6 : z_5[6]? = some (.ref qf6) := (hre_5 6 ).trans (hfk_1_6)
    have hfk_5_9 : z_5[9]? = some (.int v9) := (hre_5 9 ).trans (hfk_1_9)
    have hfk_5_10 : z_5[10]? = some (.int v10) := (hre_5 10 ).trans (hfk_1_10)
    have hfk_5_12 : z_5[12]? = some (.ref qf12) := (hre_5 12 ).trans (hfk_1_12)
    have hfk_5_19 : z_5[19]? = some (.ref qf19) := (hre_5 19 ).trans (hfk_1_19)
    have hfk_5_20 : z_5[20]? = some (.ref qf20) := (hre_5 20 ).trans (hfk_1_20)
    have hfk_5_27 : z_5[27]? = some (.ref qf27) := (hre_5 27 ).trans (hfk_1_27)
    have hfk_5_28 : z_5[28]? = some (.int v28) := (hre_5 28 ).trans (hfk_1_28)
    have hfk_5_29 : z_5[29]? = some (.ref qf29) := (hre_5 29 ).trans (hfk_1_29)
    have hfk_5_30 : z_5[30]? = some (.ref qf30) := (hre_5 30 ).trans (hfk_1_30)
    have hfk_5_34 : z_5[34]? = some (.ref qf34) := (hre_5 34 ).trans (hfk_1_34)
    have hfk_5_35 : z_5[35]? = some (.ref qf35) := (hre_5 35 ).trans (hfk_1_35)
    have hfk_5_48 : z_5[48]? = some (.ref qf48) := (hre_5 48 ).trans (hfk_1_48)
    have hfk_5_49 : z_5[49]? = some (.ref qf49) := (hre_5 49 ).trans (hfk_1_49)
    have hfk_5_50 : z_5[50]? = some (.int v50) := (hre_5 50 ).trans (hfk_1_50)
    have hfk_5_52 : z_5[52]? = some (.int v52) := (hre_5 52 ).trans (hfk_1_52)
    have hfk_5_53 : z_5[53]? = some (.int v53) := (hre_5 53 ).trans (hfk_1_53)
    have hrq_5 : ∀ j : Nat, j ≠ 10 → j ≠ 9 → z_5[j]? = zs[j]? := fun j g10 g9 => (hre_5 j ).trans (hrq_1 j g10 g9)
    obtain rfl := hwa_5
    obtain ⟨hi_12, hsp⟩ := ox_in hsp
    refine va_iast hx hb hK hP hD hS 6 6 rfl rfl (i := a1) (x := u5_0) hi_12 dX13_named_33 ?_
    clear hP hD hS
    intro H locs hP hD hS
    replace hP : va_P (dC, dI) vwCl [(qf12, .inl (cf12, 9000, .inl f12)), (qf27, .inl (cf27, 400, .inl f27)), (qf29, .inl (cf29, 800, .inl f29)), (qf30, .inl (cf30, 800, .inl f30)), (qf34, .inl (cf34, 800, .inl f34)), (qf19, .inl (cf19, 9000, .inl (upd f19 (a1 : Int32).toNatClampNeg (-1)))), (qf20, .inl (cf20, 9000, .inl (upd f20 (a1 : Int32).toNatClampNeg u5_0))), (qf49, .inl (cf49, 3000, .inl f49)), (qf35, .inl (cf35, 800, .inl f35)), (qf48, .inl (cf48, 3000, .inl f48)), (qf6, .inl (cf6, 3002, .inl f6)), (qf5, .inl (cf5, 3002, .inl f5)), (qf2, .inl (cf2, 3000, .inl f2)), (h0, .inr (13, z_5))] H := hP
    replace hD : va_D A [(qf12, .inl (cf12, 9000, .inl f12)), (qf27, .inl (cf27, 400, .inl f27)), (qf29, .inl (cf29, 800, .inl f29)), (qf30, .inl (cf30, 800, .inl f30)), (qf34, .inl (cf34, 800, .inl f34)), (qf19, .inl (cf19, 9000, .inl (upd f19 (a1 : Int32).toNatClampNeg (-1)))), (qf20, .inl (cf20, 9000, .inl (upd f20 (a1 : Int32).toNatClampNeg u5_0))), (qf49, .inl (cf49, 3000, .inl f49)), (qf35, .inl (cf35, 800, .inl f35)), (qf48, .inl (cf48, 3000, .inl f48)), (qf6, .inl (cf6, 3002, .inl f6)), (qf5, .inl (cf5, 3002, .inl f5)), (qf2, .inl (cf2, 3000, .inl f2)), (h0, .inr (13, z_5))] := hD
    refine lv_aload_n hx hb dX13_named_34 rfl (lv_at hl 1 rfl) ?_
    refine va_get (D := (dC, dI)) (ci := 13) (v := .ref qf49) (C := RX13) (T := TX13) (N := 155) hx hb hts uV_h9_X13 hown hK hP 13 rfl rfl 49 (by decide) (hts (.fieldLink RX13 119 "ClassMillModel" "sightType" "[I") mw_h9_139) (fun _ h9 => h9) hfk_5_49 dX13_named_35 ?_
    refine lv_iload_n hx hb dX13_named_38 rfl (lv_at hl 0 rfl) ?_
    obtain ⟨hi_13, hsp⟩ := ox_in hsp
    refine va_iald hx hb hK hP 7 7 rfl rfl (i := u1_0) hi_13 dX13_named_39 ?_
    have hr0 := Option.some.inj hsp
    clear hsp
    obtain ⟨hq0, hr1⟩ := Prod.mk.inj hr0
    clear hr0
    obtain ⟨hq1, hr2⟩ := Prod.mk.inj hr1
    clear hr1
    obtain ⟨hq2, hr3⟩ := Prod.mk.inj hr2
    clear hr2
    obtain ⟨hq3, hr4⟩ := Prod.mk.inj hr3
    clear hr3
    subst hq0
    subst hq1
    subst hq2
    subst hq3
    subst hr4
    have hP9 := hP.sub (ws' := [(h0, .inr (13, z_5)), (qf12, .inl (cf12, 9000, .inl f12)), (qf48, .inl (cf48, 3000, .inl f48)), (qf6, .inl (cf6, 3002, .inl f6)), (qf5, .inl (cf5, 3002, .inl f5)), (qf2, .inl (cf2, 3000, .inl f2)), (qf27, .inl (cf27, 400, .inl f27)), (qf29, .inl (cf29, 800, .inl f29)), (qf30, .inl (cf30, 800, .inl f30)), (qf34, .inl (cf34, 800, .inl f34)), (qf19, .inl (cf19, 9000, .inl (upd f19 (a1 : Int32).toNatClampNeg (-1)))), (qf20, .inl (cf20, 9000, .inl (upd f20 (a1 : Int32).toNatClampNeg u5_0))), (qf49, .inl (cf49, 3000, .inl f49)), (qf35, .inl (cf35, 800, .inl f35))]) [13, 0, 9, 10, 11, 12, 1, 2, 3, 4, 5, 6, 7, 8] rfl
    have hD9 := hD.sub (ws' := [(h0, .inr (13, z_5)), (qf12, .inl (cf12, 9000, .inl f12)), (qf48, .inl (cf48, 3000, .inl f48)), (qf6, .inl (cf6, 3002, .inl f6)), (qf5, .inl (cf5, 3002, .inl f5)), (qf2, .inl (cf2, 3000, .inl f2)), (qf27, .inl (cf27, 400, .inl f27)), (qf29, .inl (cf29, 800, .inl f29)), (qf30, .inl (cf30, 800, .inl f30)), (qf34, .inl (cf34, 800, .inl f34)), (qf19, .inl (cf19, 9000, .inl (upd f19 (a1 : Int32).toNatClampNeg (-1)))), (qf20, .inl (cf20, 9000, .inl (upd f20 (a1 : Int32).toNatClampNeg u5_0))), (qf49, .inl (cf49, 3000, .inl f49)), (qf35, .inl (cf35, 800, .inl f35))]) [13, 0, 9, 10, 11, 12, 1, 2, 3, 4, 5, 6, 7, 8] (by decide) rfl
    have hK9 := hK.sub (tys' := [(cf12, .int), (cf48, .int), (cf6, .int), (cf5, .int), (cf2, .int), (cf27, .int), (cf29, .int), (cf30, .int), (cf34, .int), (cf19, .int), (cf20, .int), (cf49, .int), (cf35, .int)]) [0, 9, 10, 11, 12, 1, 2, 3, 4, 5, 6, 7, 8] rfl
    exact W.iret hx hb hr (fun t ht hW => ⟨⟨((f49 (u1_0 : Int32).toNatClampNeg)), (z_5), rfl, ⟨rfl, hln_5, hrq_5, hfk_5_10, hfk_5_9⟩, by rw [ht]; exact hP9, va_K.moved hW.alike hK9, hD9⟩, hS.F ht⟩) hS.2.2 dX13_named_40
def jn_vm_field_27 (nf : Nat) (a1 : Int32) (v9 : Int32) (v10 : Int32) (v28 : Int32) (f14 : Nat → Int32) (f18 : Nat → Int32) (f12 : Nat → Int32) (f5 : Nat → Int32) (f27 : Nat → Int32) (f29 : Nat → Int32) (f30 : Nat → Int32) (f34 : Nat → Int32) (f6 : Nat → Int32) (f2 : Nat → Int32) (f19 : Nat → Int32) (f16 : Nat → Int32) (f35 : Nat → Int32) (nS588 : Nat) (fS588 : Nat → Int32)  (l1_27 : Int32) (g19_27 : Nat → Int32) (x10_27 : Int32) (x9_27 : Int32) : Option (Int32 × (Nat → Int32) × Int32 × Int32) := (if l1_27 < 0 then none else if 9000 ≤ (l1_27 : Int32).toNatClampNeg then none else ((sp_tm_wrong nf 6 (f16 (l1_27 : Int32).toNatClampNeg) x9_27 x10_27 f5).bind (fun p1 => (some (0, g19_27, p1.1, p1.2)))))
def jn_vm_field_99 (nf : Nat) (a1 : Int32) (v9 : Int32) (v10 : Int32) (v28 : Int32) (f14 : Nat → Int32) (f18 : Nat → Int32) (f12 : Nat → Int32) (f5 : Nat → Int32) (f27 : Nat → Int32) (f29 : Nat → Int32) (f30 : Nat → Int32) (f34 : Nat → Int32) (f6 : Nat → Int32) (f2 : Nat → Int32) (f19 : Nat → Int32) (f16 : Nat → Int32) (f35 : Nat → Int32) (nS588 : Nat) (fS588 : Nat → Int32)  (l1_99 : Int32) (s0_99 : Int32) (g19_99 : Nat → Int32) (x10_99 : Int32) (x9_99 : Int32) : Option (Int32 × (Nat → Int32) × Int32 × Int32) := (if s0_99 = 0 then (if l1_99 < 0 then none else if 9000 ≤ (l1_99 : Int32).toNatClampNeg then none else ((sp_tm_wrong nf 5 (f12 (l1_99 : Int32).toNatClampNeg) x9_99 x10_99 f5).bind (fun p1 => (some (0, g19_99, p1.1, p1.2))))) else (some (0, g19_99, x10_99, x9_99)))
def jn_vm_field_98 (nf : Nat) (a1 : Int32) (v9 : Int32) (v10 : Int32) (v28 : Int32) (f14 : Nat → Int32) (f18 : Nat → Int32) (f12 : Nat → Int32) (f5 : Nat → Int32) (f27 : Nat → Int32) (f29 : Nat → Int32) (f30 : Nat → Int32) (f34 : Nat → Int32) (f6 : Nat → Int32) (f2 : Nat → Int32) (f19 : Nat → Int32) (f16 : Nat → Int32) (f35 : Nat → Int32) (nS588 : Nat) (fS588 : Nat → Int32)  (l1_98 : Int32) (g19_98 : Nat → Int32) (x10_98 : Int32) (x9_98 : Int32) : Option (Int32 × (Nat → Int32) × Int32 × Int32) := (jn_vm_field_99 nf a1 v9 v10 v28 f14 f18 f12 f5 f27 f29 f30 f34 f6 f2 f19 f16 f35 nS588 fS588  l1_98 0 g19_98 x10_98 x9_98)
def jn_vm_field_151 (nf : Nat) (a1 : Int32) (v9 : Int32) (v10 : Int32) (v28 : Int32) (f14 : Nat → Int32) (f18 : Nat → Int32) (f12 : Nat → Int32) (f5 : Nat → Int32) (f27 : Nat → Int32) (f29 : Nat → Int32) (f30 : Nat → Int32) (f34 : Nat → Int32) (f6 : Nat → Int32) (f2 : Nat → Int32) (f19 : Nat → Int32) (f16 : Nat → Int32) (f35 : Nat → Int32) (nS588 : Nat) (fS588 : Nat → Int32)  (l1_151 : Int32) (l3_151 : Int32) (g19_151 : Nat → Int32) (x10_151 : Int32) (x9_151 : Int32) : Option (Int32 × (Nat → Int32) × Int32 × Int32) := (if l1_151 < 0 then none else if 9000 ≤ (l1_151 : Int32).toNatClampNeg then none else (if l3_151 = (-1) then (some (0, (upd g19_151 (l1_151 : Int32).toNatClampNeg l3_151), x10_151, x9_151)) else (if l3_151 < 0 then none else if 800 ≤ (l3_151 : Int32).toNatClampNeg then none else (some ((f35 (l3_151 : Int32).toNatClampNeg), (upd g19_151 (l1_151 : Int32).toNatClampNeg l3_151), x10_151, x9_151)))))
def sp_vm_field (nf : Nat) (a1 : Int32) (v9 : Int32) (v10 : Int32) (v28 : Int32) (f14 : Nat → Int32) (f18 : Nat → Int32) (f12 : Nat → Int32) (f5 : Nat → Int32) (f27 : Nat → Int32) (f29 : Nat → Int32) (f30 : Nat → Int32) (f34 : Nat → Int32) (f6 : Nat → Int32) (f2 : Nat → Int32) (f19 : Nat → Int32) (f16 : Nat → Int32) (f35 : Nat → Int32) (nS588 : Nat) (fS588 : Nat → Int32) : Option (Int32 × (Nat → Int32) × Int32 × Int32) := ((sp_tm_led nf a1 v9 v10 f14 f18 f12 f5).bind (fun p1 => (if p1.2.2 = 0 then (if p1.1 = 2 then (jn_vm_field_27 nf a1 v9 v10 v28 f14 f18 f12 f5 f27 f29 f30 f34 f6 f2 f19 f16 f35 nS588 fS588  a1 f19 p1.2.1 p1.2.2) else ((sp_tm_isThing nf p1.1).bind (fun p2 => (if p2 = 0 then (jn_vm_field_27 nf a1 v9 v10 v28 f14 f18 f12 f5 f27 f29 f30 f34 f6 f2 f19 f16 f35 nS588 fS588  a1 f19 p1.2.1 p1.2.2) else ((sp_tm_isArray nf p1.1).bind (fun p3 => (if p3 = 0 then (if a1 < 0 then none else if 9000 ≤ (a1 : Int32).toNatClampNeg then none else ((sp_tn_memberOf nf ((p1.1 - 8) / 2) (f12 (a1 : Int32).toNatClampNeg) 0 v28 f27 f29 f30 f34 f6 f5 f2).bind (fun p4 => (if p4 = (-1) then (if a1 < 0 then none else if 9000 ≤ (a1 : Int32).toNatClampNeg then none else ((sp_tm_wrong nf 5 (f12 (a1 : Int32).toNatClampNeg) p1.2.2 p1.2.1 f5).bind (fun p5 => (jn_vm_field_151 nf a1 v9 v10 v28 f14 f18 f12 f5 f27 f29 f30 f34 f6 f2 f19 f16 f35 nS588 fS588  a1 p4 f19 p5.1 p5.2)))) else (jn_vm_field_151 nf a1 v9 v10 v28 f14 f18 f12 f5 f27 f29 f30 f34 f6 f2 f19 f16 f35 nS588 fS588  a1 p4 f19 p1.2.1 p1.2.2))))) else (if a1 < 0 then none else if 9000 ≤ (a1 : Int32).toNatClampNeg then none else (if a1 < 0 then none else if 9000 ≤ (a1 : Int32).toNatClampNeg then none else (if (f12 (a1 : Int32).toNatClampNeg) < 0 then none else if 3002 ≤ ((f12 (a1 : Int32).toNatClampNeg) : Int32).toNatClampNeg then none else (if (f6 ((f12 (a1 : Int32).toNatClampNeg) : Int32).toNatClampNeg) = 6 then (if a1 < 0 then none else if 9000 ≤ (a1 : Int32).toNatClampNeg then none else (if (f12 (a1 : Int32).toNatClampNeg) < 0 then none else if 3002 ≤ ((f12 (a1 : Int32).toNatClampNeg) : Int32).toNatClampNeg then none else ((sp_vm_among nf (f5 ((f12 (a1 : Int32).toNatClampNeg) : Int32).toNatClampNeg) 6 f2 nS588 fS588).bind (fun p6 => (if p6 = 0 then (jn_vm_field_99 nf a1 v9 v10 v28 f14 f18 f12 f5 f27 f29 f30 f34 f6 f2 f19 f16 f35 nS588 fS588  a1 1 (upd f19 (a1 : Int32).toNatClampNeg (-1)) p1.2.1 p1.2.2) else (jn_vm_field_98 nf a1 v9 v10 v28 f14 f18 f12 f5 f27 f29 f30 f34 f6 f2 f19 f16 f35 nS588 fS588  a1 (upd f19 (a1 : Int32).toNatClampNeg (-1)) p1.2.1 p1.2.2)))))) else (jn_vm_field_98 nf a1 v9 v10 v28 f14 f18 f12 f5 f27 f29 f30 f34 f6 f2 f19 f16 f35 nS588 fS588  a1 (upd f19 (a1 : Int32).toNatClampNeg (-1)) p1.2.1 p1.2.2)))))))))))) else (some (0, f19, p1.2.1, p1.2.2)))))
