set_option maxHeartbeats 4000000 in
set_option maxRecDepth 100000 in
/-- ClassMillModel.writeConstant -/
theorem vm_writeConstant (l : Launch) (dC : Nat → ClassId) (dI : Nat → Nat → Nat) (sz : Nat) (h0 : Nat) (zs : (List Value)) (a1 : Int32) (a2 : Int32) (qf58 : Nat) (qf59 : Nat) (qf60 : Nat) (qf61 : Nat) (qf63 : Nat) (qf94 : Nat) (cf58 : ClassId) (f58 : (Nat → Int32)) (cf94 : ClassId) (f94 : (Nat → Int32)) (cf60 : ClassId) (f60 : (Nat → Int32)) (cf59 : ClassId) (f59 : (Nat → Int32)) (cf63 : ClassId) (f63 : (Nat → Int32)) (cf61 : ClassId) (f61 : (Nat → Int32)) (nf : Nat) (r0 : Int32) (o94 : (Nat → Int32)) (hlen : zs.length = 155) (hf58 : zs[58]? = some (.ref qf58)) (hf59 : zs[59]? = some (.ref qf59)) (hf60 : zs[60]? = some (.ref qf60)) (hf61 : zs[61]? = some (.ref qf61)) (hf63 : zs[63]? = some (.ref qf63)) (hf94 : zs[94]? = some (.ref qf94)) (hsp : sp_vm_writeConstant nf a1 a2 f58 f94 f60 f59 f63 f61 = some (r0, o94)) : Met l yX13_writeConstant (.code yX13_writeConstant cX13_writeConstant 5 (some .int) :: VS_h9) ({ frames := 0, cells := 0, slots := 0, locals := 0 }) (va_Pc [.ref h0, .int a1, .int a2] (fun U => U.heap.size = sz ∧ va_P (dC, dI) vwCl [(h0, .inr (13, zs)), (qf58, .inl (cf58, 2000, .inl f58)), (qf94, .inl (cf94, 48000, .inl f94)), (qf60, .inl (cf60, 2000, .inl f60)), (qf59, .inl (cf59, 2000, .inl f59)), (qf63, .inl (cf63, 40000, .inl f63)), (qf61, .inl (cf61, 2000, .inl f61))] U.heap ∧ va_K (dC, dI) vwCl [(cf58, .int), (cf94, .int), (cf60, .int), (cf59, .int), (cf63, .int), (cf61, .int)] U ∧ va_D (fun _ => True) [(h0, .inr (13, zs)), (qf58, .inl (cf58, 2000, .inl f58)), (qf94, .inl (cf94, 48000, .inl f94)), (qf60, .inl (cf60, 2000, .inl f60)), (qf59, .inl (cf59, 2000, .inl f59)), (qf63, .inl (cf63, 40000, .inl f63)), (qf61, .inl (cf61, 2000, .inl f61))])) (va_Qi (fun (r : Int32) (u : (List Value)) => match u with | (zo1) => r0 = r ∧ zo1.length = 155 ∧ (∀ j : Nat, zo1[j]? = zs[j]?)) (fun (u : (List Value)) (t : State) => match u with | (zo1) => va_P (dC, dI) vwCl [(h0, .inr (13, zo1)), (qf58, .inl (cf58, 2000, .inl f58)), (qf94, .inl (cf94, 48000, .inl o94)), (qf60, .inl (cf60, 2000, .inl f60)), (qf59, .inl (cf59, 2000, .inl f59)), (qf63, .inl (cf63, 40000, .inl f63)), (qf61, .inl (cf61, 2000, .inl f61))] t.heap ∧ va_K (dC, dI) vwCl [(cf58, .int), (cf94, .int), (cf60, .int), (cf59, .int), (cf63, .int), (cf61, .int)] t ∧ va_D (va_A [(h0, .inr (13, zs)), (qf58, .inl (cf58, 2000, .inl f58)), (qf94, .inl (cf94, 48000, .inl f94)), (qf60, .inl (cf60, 2000, .inl f60)), (qf59, .inl (cf59, 2000, .inl f59)), (qf63, .inl (cf63, 40000, .inl f63)), (qf61, .inl (cf61, 2000, .inl f61))] sz) [(h0, .inr (13, zo1)), (qf58, .inl (cf58, 2000, .inl f58)), (qf94, .inl (cf94, 48000, .inl o94)), (qf60, .inl (cf60, 2000, .inl f60)), (qf59, .inl (cf59, 2000, .inl f59)), (qf63, .inl (cf63, 40000, .inl f63)), (qf61, .inl (cf61, 2000, .inl f61))]) (va_A [(h0, .inr (13, zs)), (qf58, .inl (cf58, 2000, .inl f58)), (qf94, .inl (cf94, 48000, .inl f94)), (qf60, .inl (cf60, 2000, .inl f60)), (qf59, .inl (cf59, 2000, .inl f59)), (qf63, .inl (cf63, 40000, .inl f63)), (qf61, .inl (cf61, 2000, .inl f61))] sz)) 0 0 (va_A [(h0, .inr (13, zs)), (qf58, .inl (cf58, 2000, .inl f58)), (qf94, .inl (cf94, 48000, .inl f94)), (qf60, .inl (cf60, 2000, .inl f60)), (qf59, .inl (cf59, 2000, .inl f59)), (qf63, .inl (cf63, 40000, .inl f63)), (qf61, .inl (cf61, 2000, .inl f61))] sz) := by
  refine Met.ofW (cc := cX13_writeConstant) (maxL := 5) (ret := (some .int)) (by decide) rfl ?_
  intro p e s m args below meth c s₁ B hml hv
  obtain ⟨rfl, hsz, hP, hK, hD0⟩ := hv
  have hx := B.exec
  have hb := B.bytes
  have hr := B.returns
  have hts := atoms_spec (ws := (.code yX13_writeConstant cX13_writeConstant 5 (some .int) :: VS_h9)) B.pre
  replace hts := fun w (h : w ∈ VS_h9) => hts w (List.mem_cons_of_mem _ h)
  have hown : s.vm.findClass RX13 = some m.cls := findClass_of_methodNamed B.named
  have hlocks := B.notSynchronized
  subst hsz
  have hD := hD0.self (sz := s.heap.size)
  generalize hAe : va_A [(h0, .inr (13, zs)), (qf58, .inl (cf58, 2000, .inl f58)), (qf94, .inl (cf94, 48000, .inl f94)), (qf60, .inl (cf60, 2000, .inl f60)), (qf59, .inl (cf59, 2000, .inl f59)), (qf63, .inl (cf63, 40000, .inl f63)), (qf61, .inl (cf61, 2000, .inl f61))] s.heap.size = A at hD  ⊢
  have hA : ∀ q : Nat, s.heap.size ≤ q → A q := fun q h => by rw [← hAe]; exact Or.inr h
  have hP : va_P (dC, dI) vwCl [(h0, .inr (13, zs)), (qf58, .inl (cf58, 2000, .inl f58)), (qf94, .inl (cf94, 48000, .inl f94)), (qf60, .inl (cf60, 2000, .inl f60)), (qf59, .inl (cf59, 2000, .inl f59)), (qf63, .inl (cf63, 40000, .inl f63)), (qf61, .inl (cf61, 2000, .inl f61))] s.heap := hP
  have hl := lv_entry ([.ref h0, .int a1, .int a2]) (n := 5) (Nat.le_of_ble_eq_true rfl)
  rw [lg_entry_eq]
  generalize (lg_sl ([.ref h0, .int a1, .int a2]) ++ List.replicate (5 - (lg_sl ([.ref h0, .int a1, .int a2])).length) Slot.unset).toArray = ls at hl ⊢
  have hl : lv_has ls 5 [(0, .ref h0), (1, .int a1), (2, .int a2)] := hl
  obtain ⟨H, hH⟩ : ∃ H : Heap, s.heap = H := ⟨_, rfl⟩
  rw [hH] at hP ⊢
  have hS : va_S A s.heap H [] := by rw [← hH]; exact va_S.rf
  obtain ⟨locs, hlo⟩ : ∃ locs : List Loc, locs = [] := ⟨_, rfl⟩
  rw [← hlo] at hS ⊢
  have hrs0 : ∀ j : Nat, zs[j]? = zs[j]? := fun _  => rfl
  unfold sp_vm_writeConstant at hsp
  refine lv_iload_n hx hb dX13_writeConstant_0 rfl (lv_at hl 2 rfl) ?_
  refine lv_istore_n (lv' := [(3, .int a2), (0, .ref h0), (1, .int a1), (2, .int a2)]) hx hb dX13_writeConstant_1 rfl hl (by decide) rfl (fun ls hl => ?_)
  refine lv_aload_n hx hb dX13_writeConstant_2 rfl (lv_at hl 1 rfl) ?_
  refine va_get (D := (dC, dI)) (ci := 13) (v := .ref qf94) (C := RX13) (T := TX13) (N := 155) hx hb hts uV_h9_X13 hown hK hP 0 rfl rfl 94 (by decide) (hts (.fieldLink RX13 200 "ClassMillModel" "draft" "[I") mw_h9_210) (fun _ h9 => h9) hf94 dX13_writeConstant_3 ?_
  refine lv_iload_n hx hb dX13_writeConstant_6 rfl (lv_at hl 0 rfl) ?_
  refine lv_aload_n hx hb dX13_writeConstant_7 rfl (lv_at hl 1 rfl) ?_
  refine va_get (D := (dC, dI)) (ci := 13) (v := .ref qf58) (C := RX13) (T := TX13) (N := 155) hx hb hts uV_h9_X13 hown hK hP 0 rfl rfl 58 (by decide) (hts (.fieldLink RX13 128 "ClassMillModel" "constantSort" "[I") mw_h9_163) (fun _ h9 => h9) hf58 dX13_writeConstant_8 ?_
  refine lv_iload_n hx hb dX13_writeConstant_11 rfl (lv_at hl 2 rfl) ?_
  obtain ⟨hi_1, hsp⟩ := ox_in hsp
  refine va_iald hx hb hK hP 1 0 rfl rfl (i := a1) hi_1 dX13_writeConstant_12 ?_
  obtain ⟨hi_2, hsp⟩ := ox_in hsp
  refine va_iast hx hb hK hP hD hS 2 1 rfl rfl (i := a2) (x := (f58 (a1 : Int32).toNatClampNeg)) hi_2 dX13_writeConstant_13 ?_
  clear hP hD hS
  intro H locs hP hD hS
  replace hP : va_P (dC, dI) vwCl [(h0, .inr (13, zs)), (qf58, .inl (cf58, 2000, .inl f58)), (qf94, .inl (cf94, 48000, .inl (upd f94 (a2 : Int32).toNatClampNeg (f58 (a1 : Int32).toNatClampNeg)))), (qf60, .inl (cf60, 2000, .inl f60)), (qf59, .inl (cf59, 2000, .inl f59)), (qf63, .inl (cf63, 40000, .inl f63)), (qf61, .inl (cf61, 2000, .inl f61))] H := hP
  replace hD : va_D A [(h0, .inr (13, zs)), (qf58, .inl (cf58, 2000, .inl f58)), (qf94, .inl (cf94, 48000, .inl (upd f94 (a2 : Int32).toNatClampNeg (f58 (a1 : Int32).toNatClampNeg)))), (qf60, .inl (cf60, 2000, .inl f60)), (qf59, .inl (cf59, 2000, .inl f59)), (qf63, .inl (cf63, 40000, .inl f63)), (qf61, .inl (cf61, 2000, .inl f61))] := hD
  refine lv_iinc (v := (a2 + 1)) (lv' := [(3, .int (a2 + 1)), (0, .ref h0), (1, .int a1), (2, .int a2)]) hx hb dX13_writeConstant_14 hl (k := 0) rfl rfl (by decide) rfl (fun ls hl => ?_)
  refine lv_aload_n hx hb dX13_writeConstant_17 rfl (lv_at hl 1 rfl) ?_
  refine va_get (D := (dC, dI)) (ci := 13) (v := .ref qf58) (C := RX13) (T := TX13) (N := 155) hx hb hts uV_h9_X13 hown hK hP 0 rfl rfl 58 (by decide) (hts (.fieldLink RX13 128 "ClassMillModel" "constantSort" "[I") mw_h9_163) (fun _ h9 => h9) hf58 dX13_writeConstant_18 ?_
  refine lv_iload_n hx hb dX13_writeConstant_21 rfl (lv_at hl 2 rfl) ?_
  obtain ⟨hi_3, hsp⟩ := ox_in hsp
  refine va_iald hx hb hK hP 1 0 rfl rfl (i := a1) hi_3 dX13_writeConstant_22 ?_
  by_cases hs_4 : (f58 (a1 : Int32).toNatClampNeg) = 1
  · rw [if_pos hs_4] at hsp
    refine lv_tableIn (tgt := 48) hx hb dX13_writeConstant_23 (by rw [hs_4]; decide) (by rw [hs_4]; decide) (off := 25) (by rw [hs_4]; rfl) (by decide) ?_
    refine lv_aload_n hx hb dX13_writeConstant_48 rfl (lv_at hl 1 rfl) ?_
    refine va_get (D := (dC, dI)) (ci := 13) (v := .ref qf94) (C := RX13) (T := TX13) (N := 155) hx hb hts uV_h9_X13 hown hK hP 0 rfl rfl 94 (by decide) (hts (.fieldLink RX13 200 "ClassMillModel" "draft" "[I") mw_h9_210) (fun _ h9 => h9) hf94 dX13_writeConstant_49 ?_
    refine lv_iload_n hx hb dX13_writeConstant_52 rfl (lv_at hl 0 rfl) ?_
    refine lv_aload_n hx hb dX13_writeConstant_53 rfl (lv_at hl 1 rfl) ?_
    refine va_get (D := (dC, dI)) (ci := 13) (v := .ref qf60) (C := RX13) (T := TX13) (N := 155) hx hb hts uV_h9_X13 hown hK hP 0 rfl rfl 60 (by decide) (hts (.fieldLink RX13 134 "ClassMillModel" "constantTwo" "[I") mw_h9_165) (fun _ h9 => h9) hf60 dX13_writeConstant_54 ?_
    refine lv_iload_n hx hb dX13_writeConstant_57 rfl (lv_at hl 2 rfl) ?_
    obtain ⟨hi_5, hsp⟩ := ox_in hsp
    refine va_iald hx hb hK hP 3 2 rfl rfl (i := a1) hi_5 dX13_writeConstant_58 ?_
    obtain ⟨hi_6, hsp⟩ := ox_in hsp
    refine va_iast hx hb hK hP hD hS 2 1 rfl rfl (i := (a2 + 1)) (x := (f60 (a1 : Int32).toNatClampNeg)) hi_6 dX13_writeConstant_59 ?_
    clear hP hD hS
    intro H locs hP hD hS
    replace hP : va_P (dC, dI) vwCl [(h0, .inr (13, zs)), (qf58, .inl (cf58, 2000, .inl f58)), (qf94, .inl (cf94, 48000, .inl (upd (upd f94 (a2 : Int32).toNatClampNeg (f58 (a1 : Int32).toNatClampNeg)) ((a2 + 1) : Int32).toNatClampNeg (f60 (a1 : Int32).toNatClampNeg)))), (qf60, .inl (cf60, 2000, .inl f60)), (qf59, .inl (cf59, 2000, .inl f59)), (qf63, .inl (cf63, 40000, .inl f63)), (qf61, .inl (cf61, 2000, .inl f61))] H := hP
    replace hD : va_D A [(h0, .inr (13, zs)), (qf58, .inl (cf58, 2000, .inl f58)), (qf94, .inl (cf94, 48000, .inl (upd (upd f94 (a2 : Int32).toNatClampNeg (f58 (a1 : Int32).toNatClampNeg)) ((a2 + 1) : Int32).toNatClampNeg (f60 (a1 : Int32).toNatClampNeg)))), (qf60, .inl (cf60, 2000, .inl f60)), (qf59, .inl (cf59, 2000, .inl f59)), (qf63, .inl (cf63, 40000, .inl f63)), (qf61, .inl (cf61, 2000, .inl f61))] := hD
    refine lv_iconst (v := 0) hx hb dX13_writeConstant_60 (by decide) ?_
    refine lv_istore (lv' := [(4, .int 0), (3, .int (a2 + 1)), (0, .ref h0), (1, .int a1), (2, .int a2)]) hx hb dX13_writeConstant_61 hl (by decide) rfl (fun ls hl => ?_)
    replace hl : lv_has ls 5 [(4, .int 0), (3, .int (a2 + 1)), (0, .ref h0), (1, .int a1)] := lv_sub hl [0, 1, 2, 3] rfl
    replace hP := hP.sub (ws' := [(h0, .inr (13, zs)), (qf58, .inl (cf58, 2000, .inl f58)), (qf94, .inl (cf94, 48000, .inl (upd (upd f94 (a2 : Int32).toNatClampNeg (f58 (a1 : Int32).toNatClampNeg)) ((a2 + 1) : Int32).toNatClampNeg (f60 (a1 : Int32).toNatClampNeg)))), (qf60, .inl (cf60, 2000, .inl f60)), (qf59, .inl (cf59, 2000, .inl f59)), (qf63, .inl (cf63, 40000, .inl f63)), (qf61, .inl (cf61, 2000, .inl f61))]) [0, 1, 2, 3, 4, 5, 6] rfl
    replace hD := hD.sub (ws' := [(h0, .inr (13, zs)), (qf58, .inl (cf58, 2000, .inl f58)), (qf94, .inl (cf94, 48000, .inl (upd (upd f94 (a2 : Int32).toNatClampNeg (f58 (a1 : Int32).toNatClampNeg)) ((a2 + 1) : Int32).toNatClampNeg (f60 (a1 : Int32).toNatClampNeg)))), (qf60, .inl (cf60, 2000, .inl f60)), (qf59, .inl (cf59, 2000, .inl f59)), (qf63, .inl (cf63, 40000, .inl f63)), (qf61, .inl (cf61, 2000, .inl f61))]) [0, 1, 2, 3, 4, 5, 6] (by decide) rfl
    replace hK := hK.sub (tys' := [(cf58, .int), (cf94, .int), (cf60, .int), (cf59, .int), (cf63, .int), (cf61, .int)]) [0, 1, 2, 3, 4, 5] rfl
    obtain ⟨n_63, hn_63⟩ : ∃ z : Nat, z = nf := ⟨_, rfl⟩
    obtain ⟨l1_63, el1_63⟩ : ∃ z : Int32, z = a1 := ⟨_, rfl⟩
    obtain ⟨l3_63, el3_63⟩ : ∃ z : Int32, z = (a2 + 1) := ⟨_, rfl⟩
    obtain ⟨l4_63, el4_63⟩ : ∃ z : Int32, z = 0 := ⟨_, rfl⟩
    obtain ⟨g94_63, eg94_63⟩ : ∃ z : Nat → Int32, z = (upd (upd f94 (a2 : Int32).toNatClampNeg (f58 (a1 : Int32).toNatClampNeg)) ((a2 + 1) : Int32).toNatClampNeg (f60 (a1 : Int32).toNatClampNeg)) := ⟨_, rfl⟩
    replace hsp : lp_vm_writeConstant_63 nf n_63 a1 a2 f58 f94 f60 f59 f63 f61 l1_63 l3_63 l4_63 g94_63 = some (r0, o94) := by rw [hn_63, el1_63, el3_63, el4_63, eg94_63]; exact hsp
    replace hl : lv_has ls 5 [(4, .int l4_63), (3, .int l3_63), (0, .ref h0), (1, .int l1_63)] := by rw [el1_63, el3_63, el4_63]; exact hl
    obtain ⟨z63, ez63⟩ : ∃ z : List Value, z = zs := ⟨_, rfl⟩
    have hfh_63_58 : z63[58]? = some (.ref qf58) := by rw [ez63]; exact hf58
    have hfh_63_59 : z63[59]? = some (.ref qf59) := by rw [ez63]; exact hf59
    have hfh_63_60 : z63[60]? = some (.ref qf60) := by rw [ez63]; exact hf60
    have hfh_63_61 : z63[61]? = some (.ref qf61) := by rw [ez63]; exact hf61
    have hfh_63_63 : z63[63]? = some (.ref qf63) := by rw [ez63]; exact hf63
    have hfh_63_94 : z63[94]? = some (.ref qf94) := by rw [ez63]; exact hf94
    have hlh_63 : z63.length = 155 := by rw [ez63]; exact hlen
    have hrh_63 : ∀ j : Nat, z63[j]? = zs[j]? := by rw [ez63]; exact hrs0
    replace hP : va_P (dC, dI) vwCl [(h0, .inr (13, z63)), (qf58, .inl (cf58, 2000, .inl f58)), (qf94, .inl (cf94, 48000, .inl g94_63)), (qf60, .inl (cf60, 2000, .inl f60)), (qf59, .inl (cf59, 2000, .inl f59)), (qf63, .inl (cf63, 40000, .inl f63)), (qf61, .inl (cf61, 2000, .inl f61))] H := by rw [ez63, eg94_63]; exact hP
    replace hD : va_D A [(h0, .inr (13, z63)), (qf58, .inl (cf58, 2000, .inl f58)), (qf94, .inl (cf94, 48000, .inl g94_63)), (qf60, .inl (cf60, 2000, .inl f60)), (qf59, .inl (cf59, 2000, .inl f59)), (qf63, .inl (cf63, 40000, .inl f63)), (qf61, .inl (cf61, 2000, .inl f61))] := by rw [ez63, eg94_63]; exact hD
    clear hn_63 ez63 el1_63 el3_63 el4_63 eg94_63
    try clear hlo
    try clear hH
    revert hsp
    revert hP
    revert hD
    revert hS
    revert hl
    revert hrh_63
    revert hlh_63
    revert hfh_63_94
    revert hfh_63_63
    revert hfh_63_61
    revert hfh_63_60
    revert hfh_63_59
    revert hfh_63_58
    revert g94_63
    revert l4_63
    revert l3_63
    revert l1_63
    revert z63
    revert ls
    revert locs
    revert H
    induction n_63 with
    | zero => intro H locs ls z63 l1_63 l3_63 l4_63 g94_63 hfh_63_58 hfh_63_59 hfh_63_60 hfh_63_61 hfh_63_63 hfh_63_94 hlh_63 hrh_63 hl hS hD hP hsp; unfold lp_vm_writeConstant_63 at hsp; cases hsp
    | succ n_63 ih_63 =>
      intro H locs ls z63 l1_63 l3_63 l4_63 g94_63 hfh_63_58 hfh_63_59 hfh_63_60 hfh_63_61 hfh_63_63 hfh_63_94 hlh_63 hrh_63 hl hS hD hP hsp
      unfold lp_vm_writeConstant_63 at hsp
      try dsimp only at hsp
      refine lv_iload hx hb dX13_writeConstant_63 (lv_at hl 0 rfl) ?_
      refine lv_aload_n hx hb dX13_writeConstant_65 rfl (lv_at hl 2 rfl) ?_
      refine va_get (D := (dC, dI)) (ci := 13) (v := .ref qf60) (C := RX13) (T := TX13) (N := 155) hx hb hts uV_h9_X13 hown hK hP 0 rfl rfl 60 (by decide) (hts (.fieldLink RX13 134 "ClassMillModel" "constantTwo" "[I") mw_h9_165) (fun _ h9 => h9) hfh_63_60 dX13_writeConstant_66 ?_
      refine lv_iload_n hx hb dX13_writeConstant_69 rfl (lv_at hl 3 rfl) ?_
      obtain ⟨hi_7, hsp⟩ := ox_in hsp
      refine va_iald hx hb hK hP 3 2 rfl rfl (i := l1_63) hi_7 dX13_writeConstant_70 ?_
      refine lv_icmp_ge (tgt := 105) hx hb dX13_writeConstant_71 (by decide) (fun c_8 => ?_) (fun c_8 => ?_)
      · rw [if_pos c_8] at hsp
        refine lv_iload_n hx hb dX13_writeConstant_105 rfl (lv_at hl 1 rfl) ?_
        refine lv_iconst (v := 1) hx hb dX13_writeConstant_106 (by decide) ?_
        refine lv_iadd hx hb dX13_writeConstant_107 ?_
        refine lv_aload_n hx hb dX13_writeConstant_108 rfl (lv_at hl 2 rfl) ?_
        refine va_get (D := (dC, dI)) (ci := 13) (v := .ref qf60) (C := RX13) (T := TX13) (N := 155) hx hb hts uV_h9_X13 hown hK hP 0 rfl rfl 60 (by decide) (hts (.fieldLink RX13 134 "ClassMillModel" "constantTwo" "[I") mw_h9_165) (fun _ h9 => h9) hfh_63_60 dX13_writeConstant_109 ?_
        refine lv_iload_n hx hb dX13_writeConstant_112 rfl (lv_at hl 3 rfl) ?_
        obtain ⟨hi_9, hsp⟩ := ox_in hsp
        refine va_iald hx hb hK hP 3 2 rfl rfl (i := l1_63) hi_9 dX13_writeConstant_113 ?_
        refine lv_iadd hx hb dX13_writeConstant_114 ?_
        have hr0 := Option.some.inj hsp
        clear hsp
        obtain ⟨hq0, hr1⟩ := Prod.mk.inj hr0
        clear hr0
        subst hq0
        subst hr1
        have hP9 := hP.sub (ws' := [(h0, .inr (13, z63)), (qf58, .inl (cf58, 2000, .inl f58)), (qf94, .inl (cf94, 48000, .inl g94_63)), (qf60, .inl (cf60, 2000, .inl f60)), (qf59, .inl (cf59, 2000, .inl f59)), (qf63, .inl (cf63, 40000, .inl f63)), (qf61, .inl (cf61, 2000, .inl f61))]) [0, 1, 2, 3, 4, 5, 6] rfl
        have hD9 := hD.sub (ws' := [(h0, .inr (13, z63)), (qf58, .inl (cf58, 2000, .inl f58)), (qf94, .inl (cf94, 48000, .inl g94_63)), (qf60, .inl (cf60, 2000, .inl f60)), (qf59, .inl (cf59, 2000, .inl f59)), (qf63, .inl (cf63, 40000, .inl f63)), (qf61, .inl (cf61, 2000, .inl f61))]) [0, 1, 2, 3, 4, 5, 6] (by decide) rfl
        have hK9 := hK.sub (tys' := [(cf58, .int), (cf94, .int), (cf60, .int), (cf59, .int), (cf63, .int), (cf61, .int)]) [0, 1, 2, 3, 4, 5] rfl
        exact W.iret hx hb hr (fun t ht hW => ⟨⟨(((l3_63 + 1) + (f60 (l1_63 : Int32).toNatClampNeg))), (z63), rfl, ⟨rfl, hlh_63, hrh_63⟩, by rw [ht]; exact hP9, va_K.moved hW.alike hK9, hD9⟩, hS.F ht⟩) hS.2.2 dX13_writeConstant_115
      · rw [if_neg c_8] at hsp
        refine lv_aload_n hx hb dX13_writeConstant_74 rfl (lv_at hl 2 rfl) ?_
        refine va_get (D := (dC, dI)) (ci := 13) (v := .ref qf94) (C := RX13) (T := TX13) (N := 155) hx hb hts uV_h9_X13 hown hK hP 0 rfl rfl 94 (by decide) (hts (.fieldLink RX13 200 "ClassMillModel" "draft" "[I") mw_h9_210) (fun _ h9 => h9) hfh_63_94 dX13_writeConstant_75 ?_
        refine lv_iload_n hx hb dX13_writeConstant_78 rfl (lv_at hl 1 rfl) ?_
        refine lv_iconst (v := 1) hx hb dX13_writeConstant_79 (by decide) ?_
        refine lv_iadd hx hb dX13_writeConstant_80 ?_
        refine lv_iload hx hb dX13_writeConstant_81 (lv_at hl 0 rfl) ?_
        refine lv_iadd hx hb dX13_writeConstant_83 ?_
        refine lv_aload_n hx hb dX13_writeConstant_84 rfl (lv_at hl 2 rfl) ?_
        refine va_get (D := (dC, dI)) (ci := 13) (v := .ref qf63) (C := RX13) (T := TX13) (N := 155) hx hb hts uV_h9_X13 hown hK hP 0 rfl rfl 63 (by decide) (hts (.fieldLink RX13 141 "ClassMillModel" "letters" "[I") mw_h9_211) (fun _ h9 => h9) hfh_63_63 dX13_writeConstant_85 ?_
        refine lv_aload_n hx hb dX13_writeConstant_88 rfl (lv_at hl 2 rfl) ?_
        refine va_get (D := (dC, dI)) (ci := 13) (v := .ref qf59) (C := RX13) (T := TX13) (N := 155) hx hb hts uV_h9_X13 hown hK hP 0 rfl rfl 59 (by decide) (hts (.fieldLink RX13 131 "ClassMillModel" "constantOne" "[I") mw_h9_164) (fun _ h9 => h9) hfh_63_59 dX13_writeConstant_89 ?_
        refine lv_iload_n hx hb dX13_writeConstant_92 rfl (lv_at hl 3 rfl) ?_
        obtain ⟨hi_10, hsp⟩ := ox_in hsp
        refine va_iald hx hb hK hP 4 3 rfl rfl (i := l1_63) hi_10 dX13_writeConstant_93 ?_
        refine lv_iload hx hb dX13_writeConstant_94 (lv_at hl 0 rfl) ?_
        refine lv_iadd hx hb dX13_writeConstant_96 ?_
        obtain ⟨hi_11, hsp⟩ := ox_in hsp
        refine va_iald hx hb hK hP 5 4 rfl rfl (i := ((f59 (l1_63 : Int32).toNatClampNeg) + l4_63)) hi_11 dX13_writeConstant_97 ?_
        obtain ⟨hi_12, hsp⟩ := ox_in hsp
        refine va_iast hx hb hK hP hD hS 2 1 rfl rfl (i := ((l3_63 + 1) + l4_63)) (x := (f63 (((f59 (l1_63 : Int32).toNatClampNeg) + l4_63) : Int32).toNatClampNeg)) hi_12 dX13_writeConstant_98 ?_
        clear hP hD hS
        intro H locs hP hD hS
        replace hP : va_P (dC, dI) vwCl [(h0, .inr (13, z63)), (qf58, .inl (cf58, 2000, .inl f58)), (qf94, .inl (cf94, 48000, .inl (upd g94_63 (((l3_63 + 1) + l4_63) : Int32).toNatClampNeg (f63 (((f59 (l1_63 : Int32).toNatClampNeg) + l4_63) : Int32).toNatClampNeg)))), (qf60, .inl (cf60, 2000, .inl f60)), (qf59, .inl (cf59, 2000, .inl f59)), (qf63, .inl (cf63, 40000, .inl f63)), (qf61, .inl (cf61, 2000, .inl f61))] H := hP
        replace hD : va_D A [(h0, .inr (13, z63)), (qf58, .inl (cf58, 2000, .inl f58)), (qf94, .inl (cf94, 48000, .inl (upd g94_63 (((l3_63 + 1) + l4_63) : Int32).toNatClampNeg (f63 (((f59 (l1_63 : Int32).toNatClampNeg) + l4_63) : Int32).toNatClampNeg)))), (qf60, .inl (cf60, 2000, .inl f60)), (qf59, .inl (cf59, 2000, .inl f59)), (qf63, .inl (cf63, 40000, .inl f63)), (qf61, .inl (cf61, 2000, .inl f61))] := hD
        refine lv_iinc (v := (l4_63 + 1)) (lv' := [(4, .int (l4_63 + 1)), (3, .int l3_63), (0, .ref h0), (1, .int l1_63)]) hx hb dX13_writeConstant_99 hl (k := 0) rfl rfl (by decide) rfl (fun ls hl => ?_)
        refine lv_goto (tgt := 63) hx hb dX13_writeConstant_102 (by decide) ?_
        exact ih_63 H locs ls z63 l1_63 l3_63 (l4_63 + 1) (upd g94_63 (((l3_63 + 1) + l4_63) : Int32).toNatClampNeg (f63 (((f59 (l1_63 : Int32).toNatClampNeg) + l4_63) : Int32).toNatClampNeg)) (hfh_63_58) (hfh_63_59) (hfh_63_60) (hfh_63_61) (hfh_63_63) (hfh_63_94) hlh_63 hrh_63 (lv_sub hl [0, 1, 2, 3] rfl) hS (hD.sub (ws' := [(h0, .inr (13, z63)), (qf58, .inl (cf58, 2000, .inl f58)), (qf94, .inl (cf94, 48000, .inl (upd g94_63 (((l3_63 + 1) + l4_63) : Int32).toNatClampNeg (f63 (((f59 (l1_63 : Int32).toNatClampNeg) + l4_63) : Int32).toNatClampNeg)))), (qf60, .inl (cf60, 2000, .inl f60)), (qf59, .inl (cf59, 2000, .inl f59)), (qf63, .inl (cf63, 40000, .inl f63)), (qf61, .inl (cf61, 2000, .inl f61))]) [0, 1, 2, 3, 4, 5, 6] (by decide) rfl) (hP.sub (ws' := [(h0, .inr (13, z63)), (qf58, .inl (cf58, 2000, .inl f58)), (qf94, .inl (cf94, 48000, .inl (upd g94_63 (((l3_63 + 1) + l4_63) : Int32).toNatClampNeg (f63 (((f59 (l1_63 : Int32).toNatClampNeg) + l4_63) : Int32).toNatClampNeg)))), (qf60, .inl (cf60, 2000, .inl f60)), (qf59, .inl (cf59, 2000, .inl f59)), (qf63, .inl (cf63, 40000, .inl f63)), (qf61, .inl (cf61, 2000, .inl f61))]) [0, 1, 2, 3, 4, 5, 6] rfl) hsp
  rw [if_neg hs_4] at hsp
  by_cases hs_13 : (f58 (a1 : Int32).toNatClampNeg) = 2
  · rw [if_pos hs_13] at hsp
    refine lv_tableIn (tgt := 116) hx hb dX13_writeConstant_23 (by rw [hs_13]; decide) (by rw [hs_13]; decide) (off := 93) (by rw [hs_13]; rfl) (by decide) ?_
    refine lv_iconst (v := 0) hx hb dX13_writeConstant_116 (by decide) ?_
    refine lv_istore (lv' := [(4, .int 0), (3, .int (a2 + 1)), (0, .ref h0), (1, .int a1), (2, .int a2)]) hx hb dX13_writeConstant_117 hl (by decide) rfl (fun ls hl => ?_)
    replace hl : lv_has ls 5 [(4, .int 0), (3, .int (a2 + 1)), (0, .ref h0), (1, .int a1)] := lv_sub hl [0, 1, 2, 3] rfl
    replace hP := hP.sub (ws' := [(h0, .inr (13, zs)), (qf58, .inl (cf58, 2000, .inl f58)), (qf94, .inl (cf94, 48000, .inl (upd f94 (a2 : Int32).toNatClampNeg (f58 (a1 : Int32).toNatClampNeg)))), (qf60, .inl (cf60, 2000, .inl f60)), (qf59, .inl (cf59, 2000, .inl f59)), (qf63, .inl (cf63, 40000, .inl f63)), (qf61, .inl (cf61, 2000, .inl f61))]) [0, 1, 2, 3, 4, 5, 6] rfl
    replace hD := hD.sub (ws' := [(h0, .inr (13, zs)), (qf58, .inl (cf58, 2000, .inl f58)), (qf94, .inl (cf94, 48000, .inl (upd f94 (a2 : Int32).toNatClampNeg (f58 (a1 : Int32).toNatClampNeg)))), (qf60, .inl (cf60, 2000, .inl f60)), (qf59, .inl (cf59, 2000, .inl f59)), (qf63, .inl (cf63, 40000, .inl f63)), (qf61, .inl (cf61, 2000, .inl f61))]) [0, 1, 2, 3, 4, 5, 6] (by decide) rfl
    replace hK := hK.sub (tys' := [(cf58, .int), (cf94, .int), (cf60, .int), (cf59, .int), (cf63, .int), (cf61, .int)]) [0, 1, 2, 3, 4, 5] rfl
    obtain ⟨n_119, hn_119⟩ : ∃ z : Nat, z = nf := ⟨_, rfl⟩
    obtain ⟨l1_119, el1_119⟩ : ∃ z : Int32, z = a1 := ⟨_, rfl⟩
    obtain ⟨l3_119, el3_119⟩ : ∃ z : Int32, z = (a2 + 1) := ⟨_, rfl⟩
    obtain ⟨l4_119, el4_119⟩ : ∃ z : Int32, z = 0 := ⟨_, rfl⟩
    obtain ⟨g94_119, eg94_119⟩ : ∃ z : Nat → Int32, z = (upd f94 (a2 : Int32).toNatClampNeg (f58 (a1 : Int32).toNatClampNeg)) := ⟨_, rfl⟩
    replace hsp : lp_vm_writeConstant_119 nf n_119 a1 a2 f58 f94 f60 f59 f63 f61 l1_119 l3_119 l4_119 g94_119 = some (r0, o94) := by rw [hn_119, el1_119, el3_119, el4_119, eg94_119]; exact hsp
    replace hl : lv_has ls 5 [(4, .int l4_119), (3, .int l3_119), (0, .ref h0), (1, .int l1_119)] := by rw [el1_119, el3_119, el4_119]; exact hl
    obtain ⟨z119, ez119⟩ : ∃ z : List Value, z = zs := ⟨_, rfl⟩
    have hfh_119_58 : z119[58]? = some (.ref qf58) := by rw [ez119]; exact hf58
    have hfh_119_59 : z119[59]? = some (.ref qf59) := by rw [ez119]; exact hf59
    have hfh_119_60 : z119[60]? = some (.ref qf60) := by rw [ez119]; exact hf60
    have hfh_119_61 : z119[61]? = some (.ref qf61) := by rw [ez119]; exact hf61
    have hfh_119_63 : z119[63]? = some (.ref qf63) := by rw [ez119]; exact hf63
    have hfh_119_94 : z119[94]? = some (.ref qf94) := by rw [ez119]; exact hf94
    have hlh_119 : z119.length = 155 := by rw [ez119]; exact hlen
    have hrh_119 : ∀ j : Nat, z119[j]? = zs[j]? := by rw [ez119]; exact hrs0
    replace hP : va_P (dC, dI) vwCl [(h0, .inr (13, z119)), (qf58, .inl (cf58, 2000, .inl f58)), (qf94, .inl (cf94, 48000, .inl g94_119)), (qf60, .inl (cf60, 2000, .inl f60)), (qf59, .inl (cf59, 2000, .inl f59)), (qf63, .inl (cf63, 40000, .inl f63)), (qf61, .inl (cf61, 2000, .inl f61))] H := by rw [ez119, eg94_119]; exact hP
    replace hD : va_D A [(h0, .inr (13, z119)), (qf58, .inl (cf58, 2000, .inl f58)), (qf94, .inl (cf94, 48000, .inl g94_119)), (qf60, .inl (cf60, 2000, .inl f60)), (qf59, .inl (cf59, 2000, .inl f59)), (qf63, .inl (cf63, 40000, .inl f63)), (qf61, .inl (cf61, 2000, .inl f61))] := by rw [ez119, eg94_119]; exact hD
    clear hn_119 ez119 el1_119 el3_119 el4_119 eg94_119
    try clear hlo
    try clear hH
    revert hsp
    revert hP
    revert hD
    revert hS
    revert hl
    revert hrh_119
    revert hlh_119
    revert hfh_119_94
    revert hfh_119_63
    revert hfh_119_61
    revert hfh_119_60
    revert hfh_119_59
    revert hfh_119_58
    revert g94_119
    revert l4_119
    revert l3_119
    revert l1_119
    revert z119
    revert ls
    revert locs
    revert H
    induction n_119 with
    | zero => intro H locs ls z119 l1_119 l3_119 l4_119 g94_119 hfh_119_58 hfh_119_59 hfh_119_60 hfh_119_61 hfh_119_63 hfh_119_94 hlh_119 hrh_119 hl hS hD hP hsp; unfold lp_vm_writeConstant_119 at hsp; cases hsp
    | succ n_119 ih_119 =>
      intro H locs ls z119 l1_119 l3_119 l4_119 g94_119 hfh_119_58 hfh_119_59 hfh_119_60 hfh_119_61 hfh_119_63 hfh_119_94 hlh_119 hrh_119 hl hS hD hP hsp
      unfold lp_vm_writeConstant_119 at hsp
      try dsimp only at hsp
      refine lv_iload hx hb dX13_writeConstant_119 (lv_at hl 0 rfl) ?_
      refine lv_iconst (v := 4) hx hb dX13_writeConstant_121 (by decide) ?_
      refine lv_icmp_ge (tgt := 159) hx hb dX13_writeConstant_122 (by decide) (fun c_14 => ?_) (fun c_14 => ?_)
      · rw [if_pos c_14] at hsp
        refine lv_iload_n hx hb dX13_writeConstant_159 rfl (lv_at hl 1 rfl) ?_
        refine lv_iconst (v := 4) hx hb dX13_writeConstant_160 (by decide) ?_
        refine lv_iadd hx hb dX13_writeConstant_161 ?_
        have hr0 := Option.some.inj hsp
        clear hsp
        obtain ⟨hq0, hr1⟩ := Prod.mk.inj hr0
        clear hr0
        subst hq0
        subst hr1
        have hP9 := hP.sub (ws' := [(h0, .inr (13, z119)), (qf58, .inl (cf58, 2000, .inl f58)), (qf94, .inl (cf94, 48000, .inl g94_119)), (qf60, .inl (cf60, 2000, .inl f60)), (qf59, .inl (cf59, 2000, .inl f59)), (qf63, .inl (cf63, 40000, .inl f63)), (qf61, .inl (cf61, 2000, .inl f61))]) [0, 1, 2, 3, 4, 5, 6] rfl
        have hD9 := hD.sub (ws' := [(h0, .inr (13, z119)), (qf58, .inl (cf58, 2000, .inl f58)), (qf94, .inl (cf94, 48000, .inl g94_119)), (qf60, .inl (cf60, 2000, .inl f60)), (qf59, .inl (cf59, 2000, .inl f59)), (qf63, .inl (cf63, 40000, .inl f63)), (qf61, .inl (cf61, 2000, .inl f61))]) [0, 1, 2, 3, 4, 5, 6] (by decide) rfl
        have hK9 := hK.sub (tys' := [(cf58, .int), (cf94, .int), (cf60, .int), (cf59, .int), (cf63, .int), (cf61, .int)]) [0, 1, 2, 3, 4, 5] rfl
        exact W.iret hx hb hr (fun t ht hW => ⟨⟨((l3_119 + 4)), (z119), rfl, ⟨rfl, hlh_119, hrh_119⟩, by rw [ht]; exact hP9, va_K.moved hW.alike hK9, hD9⟩, hS.F ht⟩) hS.2.2 dX13_writeConstant_162
      · rw [if_neg c_14] at hsp
        refine lv_aload_n hx hb dX13_writeConstant_125 rfl (lv_at hl 2 rfl) ?_
        refine va_get (D := (dC, dI)) (ci := 13) (v := .ref qf94) (C := RX13) (T := TX13) (N := 155) hx hb hts uV_h9_X13 hown hK hP 0 rfl rfl 94 (by decide) (hts (.fieldLink RX13 200 "ClassMillModel" "draft" "[I") mw_h9_210) (fun _ h9 => h9) hfh_119_94 dX13_writeConstant_126 ?_
        refine lv_iload_n hx hb dX13_writeConstant_129 rfl (lv_at hl 1 rfl) ?_
        refine lv_iload hx hb dX13_writeConstant_130 (lv_at hl 0 rfl) ?_
        refine lv_iadd hx hb dX13_writeConstant_132 ?_
        refine lv_aload_n hx hb dX13_writeConstant_133 rfl (lv_at hl 2 rfl) ?_
        refine va_get (D := (dC, dI)) (ci := 13) (v := .ref qf59) (C := RX13) (T := TX13) (N := 155) hx hb hts uV_h9_X13 hown hK hP 0 rfl rfl 59 (by decide) (hts (.fieldLink RX13 131 "ClassMillModel" "constantOne" "[I") mw_h9_164) (fun _ h9 => h9) hfh_119_59 dX13_writeConstant_134 ?_
        refine lv_iload_n hx hb dX13_writeConstant_137 rfl (lv_at hl 3 rfl) ?_
        obtain ⟨hi_15, hsp⟩ := ox_in hsp
        refine va_iald hx hb hK hP 4 3 rfl rfl (i := l1_119) hi_15 dX13_writeConstant_138 ?_
        refine lv_bipush (v := 24) hx hb dX13_writeConstant_139 (by decide) ?_
        refine lv_bipush (v := 8) hx hb dX13_writeConstant_141 (by decide) ?_
        refine lv_iload hx hb dX13_writeConstant_143 (lv_at hl 0 rfl) ?_
        refine lv_imul hx hb dX13_writeConstant_145 ?_
        refine lv_isub hx hb dX13_writeConstant_146 ?_
        refine lv_ishr hx hb dX13_writeConstant_147 ?_
        refine lv_sipush (v := 255) hx hb dX13_writeConstant_148 (by decide) ?_
        refine lv_iand hx hb dX13_writeConstant_151 ?_
        obtain ⟨hi_16, hsp⟩ := ox_in hsp
        refine va_iast hx hb hK hP hD hS 2 1 rfl rfl (i := (l3_119 + l4_119)) (x := (((f59 (l1_119 : Int32).toNatClampNeg) >>> ((24 - (8 * l4_119)) &&& 31)) &&& 255)) hi_16 dX13_writeConstant_152 ?_
        clear hP hD hS
        intro H locs hP hD hS
        replace hP : va_P (dC, dI) vwCl [(h0, .inr (13, z119)), (qf58, .inl (cf58, 2000, .inl f58)), (qf94, .inl (cf94, 48000, .inl (upd g94_119 ((l3_119 + l4_119) : Int32).toNatClampNeg (((f59 (l1_119 : Int32).toNatClampNeg) >>> ((24 - (8 * l4_119)) &&& 31)) &&& 255)))), (qf60, .inl (cf60, 2000, .inl f60)), (qf59, .inl (cf59, 2000, .inl f59)), (qf63, .inl (cf63, 40000, .inl f63)), (qf61, .inl (cf61, 2000, .inl f61))] H := hP
        replace hD : va_D A [(h0, .inr (13, z119)), (qf58, .inl (cf58, 2000, .inl f58)), (qf94, .inl (cf94, 48000, .inl (upd g94_119 ((l3_119 + l4_119) : Int32).toNatClampNeg (((f59 (l1_119 : Int32).toNatClampNeg) >>> ((24 - (8 * l4_119)) &&& 31)) &&& 255)))), (qf60, .inl (cf60, 2000, .inl f60)), (qf59, .inl (cf59, 2000, .inl f59)), (qf63, .inl (cf63, 40000, .inl f63)), (qf61, .inl (cf61, 2000, .inl f61))] := hD
        refine lv_iinc (v := (l4_119 + 1)) (lv' := [(4, .int (l4_119 + 1)), (3, .int l3_119), (0, .ref h0), (1, .int l1_119)]) hx hb dX13_writeConstant_153 hl (k := 0) rfl rfl (by decide) rfl (fun ls hl => ?_)
        refine lv_goto (tgt := 119) hx hb dX13_writeConstant_156 (by decide) ?_
        exact ih_119 H locs ls z119 l1_119 l3_119 (l4_119 + 1) (upd g94_119 ((l3_119 + l4_119) : Int32).toNatClampNeg (((f59 (l1_119 : Int32).toNatClampNeg) >>> ((24 - (8 * l4_119)) &&& 31)) &&& 255)) (hfh_119_58) (hfh_119_59) (hfh_119_60) (hfh_119_61) (hfh_119_63) (hfh_119_94) hlh_119 hrh_119 (lv_sub hl [0, 1, 2, 3] rfl) hS (hD.sub (ws' := [(h0, .inr (13, z119)), (qf58, .inl (cf58, 2000, .inl f58)), (qf94, .inl (cf94, 48000, .inl (upd g94_119 ((l3_119 + l4_119) : Int32).toNatClampNeg (((f59 (l1_119 : Int32).toNatClampNeg) >>> ((24 - (8 * l4_119)) &&& 31)) &&& 255)))), (qf60, .inl (cf60, 2000, .inl f60)), (qf59, .inl (cf59, 2000, .inl f59)), (qf63, .inl (cf63, 40000, .inl f63)), (qf61, .inl (cf61, 2000, .inl f61))]) [0, 1, 2, 3, 4, 5, 6] (by decide) rfl) (hP.sub (ws' := [(h0, .inr (13, z119)), (qf58, .inl (cf58, 2000, .inl f58)), (qf94, .inl (cf94, 48000, .inl (upd g94_119 ((l3_119 + l4_119) : Int32).toNatClampNeg (((f59 (l1_119 : Int32).toNatClampNeg) >>> ((24 - (8 * l4_119)) &&& 31)) &&& 255)))), (qf60, .inl (cf60, 2000, .inl f60)), (qf59, .inl (cf59, 2000, .inl f59)), (qf63, .inl (cf63, 40000, .inl f63)), (qf61, .inl (cf61, 2000, .inl f61))]) [0, 1, 2, 3, 4, 5, 6] rfl) hsp
  rw [if_neg hs_13] at hsp
  by_cases hs_17 : (f58 (a1 : Int32).toNatClampNeg) = 3
  · rw [if_pos hs_17] at hsp
    refine lv_tableIn (tgt := 163) hx hb dX13_writeConstant_23 (by rw [hs_17]; decide) (by rw [hs_17]; decide) (off := 140) (by rw [hs_17]; rfl) (by decide) ?_
    refine lv_aload_n hx hb dX13_writeConstant_163 rfl (lv_at hl 1 rfl) ?_
    refine va_get (D := (dC, dI)) (ci := 13) (v := .ref qf94) (C := RX13) (T := TX13) (N := 155) hx hb hts uV_h9_X13 hown hK hP 0 rfl rfl 94 (by decide) (hts (.fieldLink RX13 200 "ClassMillModel" "draft" "[I") mw_h9_210) (fun _ h9 => h9) hf94 dX13_writeConstant_164 ?_
    refine lv_iload_n hx hb dX13_writeConstant_167 rfl (lv_at hl 0 rfl) ?_
    refine lv_aload_n hx hb dX13_writeConstant_168 rfl (lv_at hl 1 rfl) ?_
    refine va_get (D := (dC, dI)) (ci := 13) (v := .ref qf59) (C := RX13) (T := TX13) (N := 155) hx hb hts uV_h9_X13 hown hK hP 0 rfl rfl 59 (by decide) (hts (.fieldLink RX13 131 "ClassMillModel" "constantOne" "[I") mw_h9_164) (fun _ h9 => h9) hf59 dX13_writeConstant_169 ?_
    refine lv_iload_n hx hb dX13_writeConstant_172 rfl (lv_at hl 2 rfl) ?_
    obtain ⟨hi_18, hsp⟩ := ox_in hsp
    refine va_iald hx hb hK hP 4 3 rfl rfl (i := a1) hi_18 dX13_writeConstant_173 ?_
    obtain ⟨hi_19, hsp⟩ := ox_in hsp
    refine va_iast hx hb hK hP hD hS 2 1 rfl rfl (i := (a2 + 1)) (x := (f59 (a1 : Int32).toNatClampNeg)) hi_19 dX13_writeConstant_174 ?_
    clear hP hD hS
    intro H locs hP hD hS
    replace hP : va_P (dC, dI) vwCl [(h0, .inr (13, zs)), (qf58, .inl (cf58, 2000, .inl f58)), (qf94, .inl (cf94, 48000, .inl (upd (upd f94 (a2 : Int32).toNatClampNeg (f58 (a1 : Int32).toNatClampNeg)) ((a2 + 1) : Int32).toNatClampNeg (f59 (a1 : Int32).toNatClampNeg)))), (qf60, .inl (cf60, 2000, .inl f60)), (qf59, .inl (cf59, 2000, .inl f59)), (qf63, .inl (cf63, 40000, .inl f63)), (qf61, .inl (cf61, 2000, .inl f61))] H := hP
    replace hD : va_D A [(h0, .inr (13, zs)), (qf58, .inl (cf58, 2000, .inl f58)), (qf94, .inl (cf94, 48000, .inl (upd (upd f94 (a2 : Int32).toNatClampNeg (f58 (a1 : Int32).toNatClampNeg)) ((a2 + 1) : Int32).toNatClampNeg (f59 (a1 : Int32).toNatClampNeg)))), (qf60, .inl (cf60, 2000, .inl f60)), (qf59, .inl (cf59, 2000, .inl f59)), (qf63, .inl (cf63, 40000, .inl f63)), (qf61, .inl (cf61, 2000, .inl f61))] := hD
    refine lv_iload_n hx hb dX13_writeConstant_175 rfl (lv_at hl 0 rfl) ?_
    refine lv_iconst (v := 1) hx hb dX13_writeConstant_176 (by decide) ?_
    refine lv_iadd hx hb dX13_writeConstant_177 ?_
    have hr0 := Option.some.inj hsp
    clear hsp
    obtain ⟨hq0, hr1⟩ := Prod.mk.inj hr0
    clear hr0
    subst hq0
    subst hr1
    have hP9 := hP.sub (ws' := [(h0, .inr (13, zs)), (qf58, .inl (cf58, 2000, .inl f58)), (qf94, .inl (cf94, 48000, .inl (upd (upd f94 (a2 : Int32).toNatClampNeg (f58 (a1 : Int32).toNatClampNeg)) ((a2 + 1) : Int32).toNatClampNeg (f59 (a1 : Int32).toNatClampNeg)))), (qf60, .inl (cf60, 2000, .inl f60)), (qf59, .inl (cf59, 2000, .inl f59)), (qf63, .inl (cf63, 40000, .inl f63)), (qf61, .inl (cf61, 2000, .inl f61))]) [0, 1, 2, 3, 4, 5, 6] rfl
    have hD9 := hD.sub (ws' := [(h0, .inr (13, zs)), (qf58, .inl (cf58, 2000, .inl f58)), (qf94, .inl (cf94, 48000, .inl (upd (upd f94 (a2 : Int32).toNatClampNeg (f58 (a1 : Int32).toNatClampNeg)) ((a2 + 1) : Int32).toNatClampNeg (f59 (a1 : Int32).toNatClampNeg)))), (qf60, .inl (cf60, 2000, .inl f60)), (qf59, .inl (cf59, 2000, .inl f59)), (qf63, .inl (cf63, 40000, .inl f63)), (qf61, .inl (cf61, 2000, .inl f61))]) [0, 1, 2, 3, 4, 5, 6] (by decide) rfl
    have hK9 := hK.sub (tys' := [(cf58, .int), (cf94, .int), (cf60, .int), (cf59, .int), (cf63, .int), (cf61, .int)]) [0, 1, 2, 3, 4, 5] rfl
    exact W.iret hx hb hr (fun t ht hW => ⟨⟨(((a2 + 1) + 1)), (zs), rfl, ⟨rfl, hlen, hrs0⟩, by rw [ht]; exact hP9, va_K.moved hW.alike hK9, hD9⟩, hS.F ht⟩) hS.2.2 dX13_writeConstant_178
  rw [if_neg hs_17] at hsp
  refine lv_tableOut (tgt := 179) hx hb dX13_writeConstant_23 (by have a0 := lv_neT hs_4 (a := 1) rfl; have a1 := lv_neT hs_13 (a := 2) rfl; have a2 := lv_neT hs_17 (a := 3) rfl; omega) (by decide) ?_
  refine lv_aload_n hx hb dX13_writeConstant_179 rfl (lv_at hl 1 rfl) ?_
  refine va_get (D := (dC, dI)) (ci := 13) (v := .ref qf94) (C := RX13) (T := TX13) (N := 155) hx hb hts uV_h9_X13 hown hK hP 0 rfl rfl 94 (by decide) (hts (.fieldLink RX13 200 "ClassMillModel" "draft" "[I") mw_h9_210) (fun _ h9 => h9) hf94 dX13_writeConstant_180 ?_
  refine lv_iload_n hx hb dX13_writeConstant_183 rfl (lv_at hl 0 rfl) ?_
  refine lv_aload_n hx hb dX13_writeConstant_184 rfl (lv_at hl 1 rfl) ?_
  refine va_get (D := (dC, dI)) (ci := 13) (v := .ref qf59) (C := RX13) (T := TX13) (N := 155) hx hb hts uV_h9_X13 hown hK hP 0 rfl rfl 59 (by decide) (hts (.fieldLink RX13 131 "ClassMillModel" "constantOne" "[I") mw_h9_164) (fun _ h9 => h9) hf59 dX13_writeConstant_185 ?_
  refine lv_iload_n hx hb dX13_writeConstant_188 rfl (lv_at hl 2 rfl) ?_
  obtain ⟨hi_20, hsp⟩ := ox_in hsp
  refine va_iald hx hb hK hP 4 3 rfl rfl (i := a1) hi_20 dX13_writeConstant_189 ?_
  obtain ⟨hi_21, hsp⟩ := ox_in hsp
  refine va_iast hx hb hK hP hD hS 2 1 rfl rfl (i := (a2 + 1)) (x := (f59 (a1 : Int32).toNatClampNeg)) hi_21 dX13_writeConstant_190 ?_
  clear hP hD hS
  intro H locs hP hD hS
  replace hP : va_P (dC, dI) vwCl [(h0, .inr (13, zs)), (qf58, .inl (cf58, 2000, .inl f58)), (qf94, .inl (cf94, 48000, .inl (upd (upd f94 (a2 : Int32).toNatClampNeg (f58 (a1 : Int32).toNatClampNeg)) ((a2 + 1) : Int32).toNatClampNeg (f59 (a1 : Int32).toNatClampNeg)))), (qf60, .inl (cf60, 2000, .inl f60)), (qf59, .inl (cf59, 2000, .inl f59)), (qf63, .inl (cf63, 40000, .inl f63)), (qf61, .inl (cf61, 2000, .inl f61))] H := hP
  replace hD : va_D A [(h0, .inr (13, zs)), (qf58, .inl (cf58, 2000, .inl f58)), (qf94, .inl (cf94, 48000, .inl (upd (upd f94 (a2 : Int32).toNatClampNeg (f58 (a1 : Int32).toNatClampNeg)) ((a2 + 1) : Int32).toNatClampNeg (f59 (a1 : Int32).toNatClampNeg)))), (qf60, .inl (cf60, 2000, .inl f60)), (qf59, .inl (cf59, 2000, .inl f59)), (qf63, .inl (cf63, 40000, .inl f63)), (qf61, .inl (cf61, 2000, .inl f61))] := hD
  refine lv_aload_n hx hb dX13_writeConstant_191 rfl (lv_at hl 1 rfl) ?_
  refine va_get (D := (dC, dI)) (ci := 13) (v := .ref qf94) (C := RX13) (T := TX13) (N := 155) hx hb hts uV_h9_X13 hown hK hP 0 rfl rfl 94 (by decide) (hts (.fieldLink RX13 200 "ClassMillModel" "draft" "[I") mw_h9_210) (fun _ h9 => h9) hf94 dX13_writeConstant_192 ?_
  refine lv_iload_n hx hb dX13_writeConstant_195 rfl (lv_at hl 0 rfl) ?_
  refine lv_iconst (v := 1) hx hb dX13_writeConstant_196 (by decide) ?_
  refine lv_iadd hx hb dX13_writeConstant_197 ?_
  refine lv_aload_n hx hb dX13_writeConstant_198 rfl (lv_at hl 1 rfl) ?_
  refine va_get (D := (dC, dI)) (ci := 13) (v := .ref qf60) (C := RX13) (T := TX13) (N := 155) hx hb hts uV_h9_X13 hown hK hP 0 rfl rfl 60 (by decide) (hts (.fieldLink RX13 134 "ClassMillModel" "constantTwo" "[I") mw_h9_165) (fun _ h9 => h9) hf60 dX13_writeConstant_199 ?_
  refine lv_iload_n hx hb dX13_writeConstant_202 rfl (lv_at hl 2 rfl) ?_
  obtain ⟨hi_22, hsp⟩ := ox_in hsp
  refine va_iald hx hb hK hP 3 2 rfl rfl (i := a1) hi_22 dX13_writeConstant_203 ?_
  obtain ⟨hi_23, hsp⟩ := ox_in hsp
  refine va_iast hx hb hK hP hD hS 2 1 rfl rfl (i := ((a2 + 1) + 1)) (x := (f60 (a1 : Int32).toNatClampNeg)) hi_23 dX13_writeConstant_204 ?_
  clear hP hD hS
  intro H locs hP hD hS
  replace hP : va_P (dC, dI) vwCl [(h0, .inr (13, zs)), (qf58, .inl (cf58, 2000, .inl f58)), (qf94, .inl (cf94, 48000, .inl (upd (upd (upd f94 (a2 : Int32).toNatClampNeg (f58 (a1 : Int32).toNatClampNeg)) ((a2 + 1) : Int32).toNatClampNeg (f59 (a1 : Int32).toNatClampNeg)) (((a2 + 1) + 1) : Int32).toNatClampNeg (f60 (a1 : Int32).toNatClampNeg)))), (qf60, .inl (cf60, 2000, .inl f60)), (qf59, .inl (cf59, 2000, .inl f59)), (qf63, .inl (cf63, 40000, .inl f63)), (qf61, .inl (cf61, 2000, .inl f61))] H := hP
  replace hD : va_D A [(h0, .inr (13, zs)), (qf58, .inl (cf58, 2000, .inl f58)), (qf94, .inl (cf94, 48000, .inl (upd (upd (upd f94 (a2 : Int32).toNatClampNeg (f58 (a1 : Int32).toNatClampNeg)) ((a2 + 1) : Int32).toNatClampNeg (f59 (a1 : Int32).toNatClampNeg)) (((a2 + 1) + 1) : Int32).toNatClampNeg (f60 (a1 : Int32).toNatClampNeg)))), (qf60, .inl (cf60, 2000, .inl f60)), (qf59, .inl (cf59, 2000, .inl f59)), (qf63, .inl (cf63, 40000, .inl f63)), (qf61, .inl (cf61, 2000, .inl f61))] := hD
  refine lv_aload_n hx hb dX13_writeConstant_205 rfl (lv_at hl 1 rfl) ?_
  refine va_get (D := (dC, dI)) (ci := 13) (v := .ref qf94) (C := RX13) (T := TX13) (N := 155) hx hb hts uV_h9_X13 hown hK hP 0 rfl rfl 94 (by decide) (hts (.fieldLink RX13 200 "ClassMillModel" "draft" "[I") mw_h9_210) (fun _ h9 => h9) hf94 dX13_writeConstant_206 ?_
  refine lv_iload_n hx hb dX13_writeConstant_209 rfl (lv_at hl 0 rfl) ?_
  refine lv_iconst (v := 2) hx hb dX13_writeConstant_210 (by decide) ?_
  refine lv_iadd hx hb dX13_writeConstant_211 ?_
  refine lv_aload_n hx hb dX13_writeConstant_212 rfl (lv_at hl 1 rfl) ?_
  refine va_get (D := (dC, dI)) (ci := 13) (v := .ref qf61) (C := RX13) (T := TX13) (N := 155) hx hb hts uV_h9_X13 hown hK hP 0 rfl rfl 61 (by decide) (hts (.fieldLink RX13 137 "ClassMillModel" "constantThree" "[I") mw_h9_166) (fun _ h9 => h9) hf61 dX13_writeConstant_213 ?_
  refine lv_iload_n hx hb dX13_writeConstant_216 rfl (lv_at hl 2 rfl) ?_
  obtain ⟨hi_24, hsp⟩ := ox_in hsp
  refine va_iald hx hb hK hP 6 5 rfl rfl (i := a1) hi_24 dX13_writeConstant_217 ?_
  obtain ⟨hi_25, hsp⟩ := ox_in hsp
  refine va_iast hx hb hK hP hD hS 2 1 rfl rfl (i := ((a2 + 1) + 2)) (x := (f61 (a1 : Int32).toNatClampNeg)) hi_25 dX13_writeConstant_218 ?_
  clear hP hD hS
  intro H locs hP hD hS
  replace hP : va_P (dC, dI) vwCl [(h0, .inr (13, zs)), (qf58, .inl (cf58, 2000, .inl f58)), (qf94, .inl (cf94, 48000, .inl (upd (upd (upd (upd f94 (a2 : Int32).toNatClampNeg (f58 (a1 : Int32).toNatClampNeg)) ((a2 + 1) : Int32).toNatClampNeg (f59 (a1 : Int32).toNatClampNeg)) (((a2 + 1) + 1) : Int32).toNatClampNeg (f60 (a1 : Int32).toNatClampNeg)) (((a2 + 1) + 2) : Int32).toNatClampNeg (f61 (a1 : Int32).toNatClampNeg)))), (qf60, .inl (cf60, 2000, .inl f60)), (qf59, .inl (cf59, 2000, .inl f59)), (qf63, .inl (cf63, 40000, .inl f63)), (qf61, .inl (cf61, 2000, .inl f61))] H := hP
  replace hD : va_D A [(h0, .inr (13, zs)), (qf58, .inl (cf58, 2000, .inl f58)), (qf94, .inl (cf94, 48000, .inl (upd (upd (upd (upd f94 (a2 : Int32).toNatClampNeg (f58 (a1 : Int32).toNatClampNeg)) ((a2 + 1) : Int32).toNatClampNeg (f59 (a1 : Int32).toNatClampNeg)) (((a2 + 1) + 1) : Int32).toNatClampNeg (f60 (a1 : Int32).toNatClampNeg)) (((a2 + 1) + 2) : Int32).toNatClampNeg (f61 (a1 : Int32).toNatClampNeg)))), (qf60, .inl (cf60, 2000, .inl f60)), (qf59, .inl (cf59, 2000, .inl f59)), (qf63, .inl (cf63, 40000, .inl f63)), (qf61, .inl (cf61, 2000, .inl f61))] := hD
  refine lv_iload_n hx hb dX13_writeConstant_219 rfl (lv_at hl 0 rfl) ?_
  refine lv_iconst (v := 3) hx hb dX13_writeConstant_220 (by decide) ?_
  refine lv_iadd hx hb dX13_writeConstant_221 ?_
  have hr0 := Option.some.inj hsp
  clear hsp
  obtain ⟨hq0, hr1⟩ := Prod.mk.inj hr0
  clear hr0
  subst hq0
  subst hr1
  have hP9 := hP.sub (ws' := [(h0, .inr (13, zs)), (qf58, .inl (cf58, 2000, .inl f58)), (qf94, .inl (cf94, 48000, .inl (upd (upd (upd (upd f94 (a2 : Int32).toNatClampNeg (f58 (a1 : Int32).toNatClampNeg)) ((a2 + 1) : Int32).toNatClampNeg (f59 (a1 : Int32).toNatClampNeg)) (((a2 + 1) + 1) : Int32).toNatClampNeg (f60 (a1 : Int32).toNatClampNeg)) (((a2 + 1) + 2) : Int32).toNatClampNeg (f61 (a1 : Int32).toNatClampNeg)))), (qf60, .inl (cf60, 2000, .inl f60)), (qf59, .inl (cf59, 2000, .inl f59)), (qf63, .inl (cf63, 40000, .inl f63)), (qf61, .inl (cf61, 2000, .inl f61))]) [0, 1, 2, 3, 4, 5, 6] rfl
  have hD9 := hD.sub (ws' := [(h0, .inr (13, zs)), (qf58, .inl (cf58, 2000, .inl f58)), (qf94, .inl (cf94, 48000, .inl (upd (upd (upd (upd f94 (a2 : Int32).toNatClampNeg (f58 (a1 : Int32).toNatClampNeg)) ((a2 + 1) : Int32).toNatClampNeg (f59 (a1 : Int32).toNatClampNeg)) (((a2 + 1) + 1) : Int32).toNatClampNeg (f60 (a1 : Int32).toNatClampNeg)) (((a2 + 1) + 2) : Int32).toNatClampNeg (f61 (a1 : Int32).toNatClampNeg)))), (qf60, .inl (cf60, 2000, .inl f60)), (qf59, .inl (cf59, 2000, .inl f59)), (qf63, .inl (cf63, 40000, .inl f63)), (qf61, .inl (cf61, 2000, .inl f61))]) [0, 1, 2, 3, 4, 5, 6] (by decide) rfl
  have hK9 := hK.sub (tys' := [(cf58, .int), (cf94, .int), (cf60, .int), (cf59, .int), (cf63, .int), (cf61, .int)]) [0, 1, 2, 3, 4, 5] rfl
  exact W.iret hx hb hr (fun t ht hW => ⟨⟨(((a2 + 1) + 3)), (zs), rfl, ⟨rfl, hlen, hrs0⟩, by rw [ht]; exact hP9, va_K.moved hW.alike hK9, hD9⟩, hS.F ht⟩) hS.2.2 dX13_writeConstant_222
def lp_vm_isName_20 (nf n : Nat) (a2 : Int32) (a3 : Int32) (na1 : Nat) (fa1 : Nat → Int32)  (l1_20 : Int32) (l2_20 : Int32) (l3_20 : Int32) (l4_20 : Int32) : Option (Int32) := match n with
  | 0 => none
  | n + 1 => (if l2_20 ≤ l4_20 then (if l3_20 = 0 then (some 0) else if l3_20 = 1 then (some 1) else none) else (if l3_20 = 0 then (if l3_20 = 0 then (some 0) else if l3_20 = 1 then (some 1) else none) else (if (l1_20 + l4_20) < 0 then none else if na1 ≤ ((l1_20 + l4_20) : Int32).toNatClampNeg then none else (if l4_20 = 0 then ((sp_tm_isNamePart nf (fa1 ((l1_20 + l4_20) : Int32).toNatClampNeg) 1).bind (fun p1 => (if p1 = 0 then (lp_vm_isName_20 nf n a2 a3 na1 fa1 l1_20 l2_20 0 (l4_20 + 1)) else (lp_vm_isName_20 nf n a2 a3 na1 fa1 l1_20 l2_20 1 (l4_20 + 1))))) else ((sp_tm_isNamePart nf (fa1 ((l1_20 + l4_20) : Int32).toNatClampNeg) 0).bind (fun p2 => (if p2 = 0 then (lp_vm_isName_20 nf n a2 a3 na1 fa1 l1_20 l2_20 0 (l4_20 + 1)) else (lp_vm_isName_20 nf n a2 a3 na1 fa1 l1_20 l2_20 1 (l4_20 + 1)))))))))
def jn_vm_isName_16 (nf : Nat) (a2 : Int32) (a3 : Int32) (na1 : Nat) (fa1 : Nat → Int32)  (l1_16 : Int32) (l2_16 : Int32) (s0_16 : Int32) : Option (Int32) := (lp_vm_isName_20 nf nf a2 a3 na1 fa1  l1_16 l2_16 s0_16 0)
def jn_vm_isName_15 (nf : Nat) (a2 : Int32) (a3 : Int32) (na1 : Nat) (fa1 : Nat → Int32)  (l1_15 : Int32) (l2_15 : Int32) : Option (Int32) := (jn_vm_isName_16 nf a2 a3 na1 fa1  l1_15 l2_15 0)
def sp_vm_isName (nf : Nat) (a2 : Int32) (a3 : Int32) (na1 : Nat) (fa1 : Nat → Int32) : Option (Int32) := (if a3 < 1 then (jn_vm_isName_15 nf a2 a3 na1 fa1  a2 a3) else (if 12 < a3 then (jn_vm_isName_15 nf a2 a3 na1 fa1  a2 a3) else (jn_vm_isName_16 nf a2 a3 na1 fa1  a2 a3 1)))
set_option maxHeartbeats 4000000 in
set_option maxRecDepth 100000 in
/-- ClassMillModel.isName -/
theorem vm_isName (l : Launch) (dC : Nat → ClassId) (dI : Nat → Nat → Nat) (sz : Nat) (qa1 : Nat) (a2 : Int32) (a3 : Int32) (ca1 : ClassId) (na1 : Nat) (fa1 : (Nat → Int32)) (nf : Nat) (r0 : Int32) (hsp : sp_vm_isName nf a2 a3 na1 fa1 = some r0) : Met l yX13_isName (.code yX13_isName cX13_isName 5 (some .boolean) :: VS_h9) ({ frames := 2, cells := 0, slots := 0, locals := 41 }) (va_Pc [.ref qa1, .int a2, .int a3] (fun U => U.heap.size = sz ∧ va_P (dC, dI) vwCl [(qa1, .inl (ca1, na1, .inl fa1))] U.heap ∧ va_K (dC, dI) vwCl [(ca1, .int)] U ∧ va_D (fun _ => True) [(qa1, .inl (ca1, na1, .inl fa1))])) (va_Qi (fun (r : Int32) (u : Unit) => match u with | () => r0 = r ∧ (r0 = 0 ∨ r0 = 1)) (fun (u : Unit) (t : State) => match u with | () => va_P (dC, dI) vwCl [(qa1, .inl (ca1, na1, .inl fa1))] t.heap ∧ va_K (dC, dI) vwCl [(ca1, .int)] t ∧ va_D (va_A [(qa1, .inl (ca1, na1, .inl fa1))] sz) [(qa1, .inl (ca1, na1, .inl fa1))]) (va_A [(qa1, .inl (ca1, na1, .inl fa1))] sz)) 0 0 (va_A [(qa1, .inl (ca1, na1, .inl fa1))] sz) := by
  refine Met.ofW (cc := cX13_isName) (maxL := 5) (ret := (some .boolean)) (by decide) rfl ?_
  intro p e s m args below meth c s₁ B hml hv
  obtain ⟨rfl, hsz, hP, hK, hD0⟩ := hv
  have hx := B.exec
  have hb := B.bytes
  have hr := B.returns
  have hts := atoms_spec (ws := (.code yX13_isName cX13_isName 5 (some .boolean) :: VS_h9)) B.pre
  replace hts := fun w (h : w ∈ VS_h9) => hts w (List.mem_cons_of_mem _ h)
  have hown : s.vm.findClass RX13 = some m.cls := findClass_of_methodNamed B.named
  have hlocks := B.notSynchronized
  subst hsz
  have hD := hD0.self (sz := s.heap.size)
  generalize hAe : va_A [(qa1, .inl (ca1, na1, .inl fa1))] s.heap.size = A at hD  ⊢
  have hA : ∀ q : Nat, s.heap.size ≤ q → A q := fun q h => by rw [← hAe]; exact Or.inr h
  have hP : va_P (dC, dI) vwCl [(qa1, .inl (ca1, na1, .inl fa1))] s.heap := hP
  have hl := lv_entry ([.ref qa1, .int a2, .int a3]) (n := 5) (Nat.le_of_ble_eq_true rfl)
  rw [lg_entry_eq]
  generalize (lg_sl ([.ref qa1, .int a2, .int a3]) ++ List.replicate (5 - (lg_sl ([.ref qa1, .int a2, .int a3])).length) Slot.unset).toArray = ls at hl ⊢
  have hl : lv_has ls 5 [(0, .ref qa1), (1, .int a2), (2, .int a3)] := hl
  obtain ⟨H, hH⟩ : ∃ H : Heap, s.heap = H := ⟨_, rfl⟩
  rw [hH] at hP ⊢
  have hS : va_S A s.heap H [] := by rw [← hH]; exact va_S.rf
  obtain ⟨locs, hlo⟩ : ∃ locs : List Loc, locs = [] := ⟨_, rfl⟩
  rw [← hlo] at hS ⊢
  unfold sp_vm_isName at hsp
  refine jn_use (α := Heap × List Loc × Array Slot × Int32 × Int32 × Int32) (fun x9 => x9.1) (fun x9 => x9.2.1) (fun x9 => F0 m 16 x9.2.2.1 [.int (x9.2.2.2.2.2)]) (fun x9 => match x9 with | (H, locs, ls, l1_16, l2_16, s0_16) => lv_has ls 5 [(0, .ref qa1), (1, .int l1_16), (2, .int l2_16)] ∧ va_S A s.heap H locs ∧ va_D A [(qa1, .inl (ca1, na1, .inl fa1))] ∧ va_P (dC, dI) vwCl [(qa1, .inl (ca1, na1, .inl fa1))] H ∧ jn_vm_isName_16 nf a2 a3 na1 fa1 l1_16 l2_16 s0_16 = some r0) ?_ ?_
  · intro x9 hJ9
    obtain ⟨H, locs, ls, l1_16, l2_16, s0_16⟩ := x9
    obtain ⟨hl, hS, hD, hP, hsp⟩ := hJ9
    replace hl : lv_has ls 5 [(0, .ref qa1), (1, .int l1_16), (2, .int l2_16)] := hl
    replace hS : va_S A s.heap H locs := hS
    replace hD : va_D A [(qa1, .inl (ca1, na1, .inl fa1))] := hD
    replace hP : va_P (dC, dI) vwCl [(qa1, .inl (ca1, na1, .inl fa1))] H := hP
    replace hsp : jn_vm_isName_16 nf a2 a3 na1 fa1 l1_16 l2_16 s0_16 = some r0 := hsp
    show W _ _ _ _ _ _ _ _ _ _ H locs _ _ _ (F0 m 16 ls [.int s0_16])
    unfold jn_vm_isName_16 at hsp
    try dsimp only at hsp
    refine lv_istore_n (lv' := [(3, .int s0_16), (0, .ref qa1), (1, .int l1_16), (2, .int l2_16)]) hx hb dX13_isName_16 rfl hl (by decide) rfl (fun ls hl => ?_)
    refine lv_iconst (v := 0) hx hb dX13_isName_17 (by decide) ?_
    refine lv_istore (lv' := [(4, .int 0), (3, .int s0_16), (0, .ref qa1), (1, .int l1_16), (2, .int l2_16)]) hx hb dX13_isName_18 hl (by decide) rfl (fun ls hl => ?_)
    replace hl : lv_has ls 5 [(4, .int 0), (3, .int s0_16), (0, .ref qa1), (1, .int l1_16), (2, .int l2_16)] := lv_sub hl [0, 1, 2, 3, 4] rfl
    replace hP := hP.sub (ws' := [(qa1, .inl (ca1, na1, .inl fa1))]) [0] rfl
    replace hD := hD.sub (ws' := [(qa1, .inl (ca1, na1, .inl fa1))]) [0] (by decide) rfl
    replace hK := hK.sub (tys' := [(ca1, .int)]) [0] rfl
    obtain ⟨n_20, hn_20⟩ : ∃ z : Nat, z = nf := ⟨_, rfl⟩
    obtain ⟨l1_20, el1_20⟩ : ∃ z : Int32, z = l1_16 := ⟨_, rfl⟩
    obtain ⟨l2_20, el2_20⟩ : ∃ z : Int32, z = l2_16 := ⟨_, rfl⟩
    obtain ⟨l3_20, el3_20⟩ : ∃ z : Int32, z = s0_16 := ⟨_, rfl⟩
    obtain ⟨l4_20, el4_20⟩ : ∃ z : Int32, z = 0 := ⟨_, rfl⟩
    replace hsp : lp_vm_isName_20 nf n_20 a2 a3 na1 fa1 l1_20 l2_20 l3_20 l4_20 = some r0 := by rw [hn_20, el1_20, el2_20, el3_20, el4_20]; exact hsp
    replace hl : lv_has ls 5 [(4, .int l4_20), (3, .int l3_20), (0, .ref qa1), (1, .int l1_20), (2, .int l2_20)] := by rw [el1_20, el2_20, el3_20, el4_20]; exact hl
    clear hn_20 el1_20 el2_20 el3_20 el4_20
    try clear hlo
    try clear hH
    revert hsp
    revert hP
    revert hD
    revert hS
    revert hl
    revert l4_20
    revert l3_20
    revert l2_20
    revert l1_20
    revert ls
    revert locs
    revert H
    induction n_20 with
    | zero => intro H locs ls l1_20 l2_20 l3_20 l4_20  hl hS hD hP hsp; unfold lp_vm_isName_20 at hsp; cases hsp
    | succ n_20 ih_20 =>
      intro H locs ls l1_20 l2_20 l3_20 l4_20  hl hS hD hP hsp
      unfold lp_vm_isName_20 at hsp
      try dsimp only at hsp
      refine lv_iload hx hb dX13_isName_20 (lv_at hl 0 rfl) ?_
      refine lv_iload_n hx hb dX13_isName_22 rfl (lv_at hl 4 rfl) ?_
      refine lv_icmp_ge (tgt := 56) hx hb dX13_isName_23 (by decide) (fun c_3 => ?_) (fun c_3 => ?_)
      · rw [if_pos c_3] at hsp
        refine lv_iload_n hx hb dX13_isName_56 rfl (lv_at hl 1 rfl) ?_
        rcases ox_01 hsp with ⟨rfl, hsp⟩ | ⟨rfl, hsp⟩
        · skip
          have hr0 := Option.some.inj hsp
          clear hsp
          subst hr0
          have hP9 := hP.sub (ws' := [(qa1, .inl (ca1, na1, .inl fa1))]) [0] rfl
          have hD9 := hD.sub (ws' := [(qa1, .inl (ca1, na1, .inl fa1))]) [0] (by decide) rfl
          have hK9 := hK.sub (tys' := [(ca1, .int)]) [0] rfl
          exact W.zret hx hb hr (by decide) (fun t ht hW => ⟨⟨(0), (), rfl, ⟨rfl, Or.inl rfl⟩, by rw [ht]; exact hP9, va_K.moved hW.alike hK9, hD9⟩, hS.F ht⟩) hS.2.2 dX13_isName_57
        · skip
          have hr0 := Option.some.inj hsp
          clear hsp
          subst hr0
          have hP9 := hP.sub (ws' := [(qa1, .inl (ca1, na1, .inl fa1))]) [0] rfl
          have hD9 := hD.sub (ws' := [(qa1, .inl (ca1, na1, .inl fa1))]) [0] (by decide) rfl
          have hK9 := hK.sub (tys' := [(ca1, .int)]) [0] rfl
          exact W.zret hx hb hr (by decide) (fun t ht hW => ⟨⟨(1), (), rfl, ⟨rfl, Or.inr rfl⟩, by rw [ht]; exact hP9, va_K.moved hW.alike hK9, hD9⟩, hS.F ht⟩) hS.2.2 dX13_isName_57
      · rw [if_neg c_3] at hsp
        refine lv_iload_n hx hb dX13_isName_26 rfl (lv_at hl 1 rfl) ?_
        refine lv_if_eq (tgt := 56) hx hb dX13_isName_27 (by decide) (fun c_4 => ?_) (fun c_4 => ?_)
        · rw [if_pos c_4] at hsp
          refine lv_iload_n hx hb dX13_isName_56 rfl (lv_at hl 1 rfl) ?_
          rcases ox_01 hsp with ⟨rfl, hsp⟩ | ⟨rfl, hsp⟩
          · skip
            have hr0 := Option.some.inj hsp
            clear hsp
            subst hr0
            have hP9 := hP.sub (ws' := [(qa1, .inl (ca1, na1, .inl fa1))]) [0] rfl
            have hD9 := hD.sub (ws' := [(qa1, .inl (ca1, na1, .inl fa1))]) [0] (by decide) rfl
            have hK9 := hK.sub (tys' := [(ca1, .int)]) [0] rfl
            exact W.zret hx hb hr (by decide) (fun t ht hW => ⟨⟨(0), (), rfl, ⟨rfl, Or.inl rfl⟩, by rw [ht]; exact hP9, va_K.moved hW.alike hK9, hD9⟩, hS.F ht⟩) hS.2.2 dX13_isName_57
          · skip
            have hr0 := Option.some.inj hsp
            clear hsp
            subst hr0
            have hP9 := hP.sub (ws' := [(qa1, .inl (ca1, na1, .inl fa1))]) [0] rfl
            have hD9 := hD.sub (ws' := [(qa1, .inl (ca1, na1, .inl fa1))]) [0] (by decide) rfl
            have hK9 := hK.sub (tys' := [(ca1, .int)]) [0] rfl
            exact W.zret hx hb hr (by decide) (fun t ht hW => ⟨⟨(1), (), rfl, ⟨rfl, Or.inr rfl⟩, by rw [ht]; exact hP9, va_K.moved hW.alike hK9, hD9⟩, hS.F ht⟩) hS.2.2 dX13_isName_57
        · rw [if_neg c_4] at hsp
          refine lv_aload_n hx hb dX13_isName_30 rfl (lv_at hl 2 rfl) ?_
          refine lv_iload_n hx hb dX13_isName_31 rfl (lv_at hl 3 rfl) ?_
          refine lv_iload hx hb dX13_isName_32 (lv_at hl 0 rfl) ?_
          refine lv_iadd hx hb dX13_isName_34 ?_
          obtain ⟨hi_5, hsp⟩ := ox_in hsp
          refine va_iald hx hb hK hP 0 0 rfl rfl (i := (l1_20 + l4_20)) hi_5 dX13_isName_35 ?_
          refine lv_iload hx hb dX13_isName_36 (lv_at hl 0 rfl) ?_
          refine lv_if_ne (tgt := 45) hx hb dX13_isName_38 (by decide) (fun c_6 => ?_) (fun c_6 => ?_)
          · rw [if_neg c_6] at hsp
            refine lv_iconst (v := 0) hx hb dX13_isName_45 (by decide) ?_
            obtain ⟨u1_0, hu_1, hsp⟩ := ox_bind hsp
            try dsimp only at hsp
            have hPc := hP.sub (ws' := []) [] rfl
            have hDc := hD.sub (ws' := []) [] (by decide) rfl
            have hKc := hK.sub (tys' := []) [] rfl
            have hFc := va_free (wc := []) hD hS hA [] rfl
            refine va_calli (va_runS (As := [.int (fa1 ((l1_20 + l4_20) : Int32).toNatClampNeg), .int 0]) (rest := []) ⟨hx, hb, hml, hown, hts⟩ (tm_isNamePart l dC dI H.size ((fa1 ((l1_20 + l4_20) : Int32).toNatClampNeg)) 0 nf u1_0 hu_1) (va_cwS 2 hts gv_h9_39 rfl rfl rfl (by decide +kernel) ⟨Nat.le_of_ble_eq_true rfl, Nat.le_of_ble_eq_true rfl⟩) ⟨fun a U g mk q => by obtain ⟨q0, q1, qP, qK, qD⟩ := q; exact ⟨q0, q1, qP, va_K.moved (u := U) (U := U.calling g mk a) (Vm.Alike.refl U.vm) qK, qD⟩, fun U hU hW => ⟨rfl, by rw [hU], by rw [hU]; exact hPc, va_K.moved hW.alike hKc, hDc.weaken (fun _ _ _ _ => trivial)⟩⟩ rfl rfl hl.1 rfl (lv_room (Nat.le_of_ble_eq_true rfl)) dX13_isName_46 ⟨Nat.le_of_ble_eq_true rfl, Nat.le_of_ble_eq_true rfl⟩) hS (fun q _ h => hFc q h) hFc ?_
            clear hS
            intro r_7 u t H1 locs ht hvm hw hB hz1 hk1 hS
            obtain ⟨⟩ := u
            obtain ⟨hP1, hK1, hD1⟩ := hB
            rw [ht] at hP1
            have hK1 := va_K.moved hvm.symm hK1
            try dsimp only at hw
            have hPD := va_join (wr := [(qa1, .inl (ca1, na1, .inl fa1))]) (w1 := []) hP hD [] [0] rfl rfl (by decide) (by decide) hk1 hFc hP1 hD1
            clear hP hD
            obtain ⟨hP, hD⟩ := hPD
            replace hK := (hK.sub (tys' := [(ca1, .int)]) [0] rfl).app hK1
            clear hPc hDc hKc hFc hP1 hK1 hD1 hz1 hk1 ht hvm
            generalize H1 = H at hP hS ⊢
            replace hP : va_P (dC, dI) vwCl [(qa1, .inl (ca1, na1, .inl fa1))] H := hP
            replace hD : va_D A [(qa1, .inl (ca1, na1, .inl fa1))] := hD
            replace hK : va_K (dC, dI) vwCl [(ca1, .int)] s := hK
            obtain ⟨rfl, hz_1⟩ := hw
            rcases hz_1 with rfl | rfl
            · rw [if_pos rfl] at hsp
              refine lv_istore_n (lv' := [(3, .int 0), (4, .int l4_20), (0, .ref qa1), (1, .int l1_20), (2, .int l2_20)]) hx hb dX13_isName_49 rfl hl (by decide) rfl (fun ls hl => ?_)
              refine lv_iinc (v := (l4_20 + 1)) (lv' := [(4, .int (l4_20 + 1)), (3, .int 0), (0, .ref qa1), (1, .int l1_20), (2, .int l2_20)]) hx hb dX13_isName_50 hl (k := 1) rfl rfl (by decide) rfl (fun ls hl => ?_)
              refine lv_goto (tgt := 20) hx hb dX13_isName_53 (by decide) ?_
              exact ih_20 H locs ls l1_20 l2_20 0 (l4_20 + 1) (lv_sub hl [0, 1, 2, 3, 4] rfl) hS (hD.sub (ws' := [(qa1, .inl (ca1, na1, .inl fa1))]) [0] (by decide) rfl) (hP.sub (ws' := [(qa1, .inl (ca1, na1, .inl fa1))]) [0] rfl) hsp
            · rw [if_neg (by decide)] at hsp
              refine lv_istore_n (lv' := [(3, .int 1), (4, .int l4_20), (0, .ref qa1), (1, .int l1_20), (2, .int l2_20)]) hx hb dX13_isName_49 rfl hl (by decide) rfl (fun ls hl => ?_)
              refine lv_iinc (v := (l4_20 + 1)) (lv' := [(4, .int (l4_20 + 1)), (3, .int 1), (0, .ref qa1), (1, .int l1_20), (2, .int l2_20)]) hx hb dX13_isName_50 hl (k := 1) rfl rfl (by decide) rfl (fun ls hl => ?_)
              refine lv_goto (tgt := 20) hx hb dX13_isName_53 (by decide) ?_
              exact ih_20 H locs ls l1_20 l2_20 1 (l4_20 + 1) (lv_sub hl [0, 1, 2, 3, 4] rfl) hS (hD.sub (ws' := [(qa1, .inl (ca1, na1, .inl fa1))]) [0] (by decide) rfl) (hP.sub (ws' := [(qa1, .inl (ca1, na1, .inl fa1))]) [0] rfl) hsp
          · rw [if_pos c_6] at hsp
            refine lv_iconst (v := 1) hx hb dX13_isName_41 (by decide) ?_
            refine lv_goto (tgt := 46) hx hb dX13_isName_42 (by decide) ?_
            obtain ⟨u2_0, hu_2, hsp⟩ := ox_bind hsp
            try dsimp only at hsp
            have hPc := hP.sub (ws' := []) [] rfl
            have hDc := hD.sub (ws' := []) [] (by decide) rfl
            have hKc := hK.sub (tys' := []) [] rfl
            have hFc := va_free (wc := []) hD hS hA [] rfl
            refine va_calli (va_runS (As := [.int (fa1 ((l1_20 + l4_20) : Int32).toNatClampNeg), .int 1]) (rest := []) ⟨hx, hb, hml, hown, hts⟩ (tm_isNamePart l dC dI H.size ((fa1 ((l1_20 + l4_20) : Int32).toNatClampNeg)) 1 nf u2_0 hu_2) (va_cwS 2 hts gv_h9_39 rfl rfl rfl (by decide +kernel) ⟨Nat.le_of_ble_eq_true rfl, Nat.le_of_ble_eq_true rfl⟩) ⟨fun a U g mk q => by obtain ⟨q0, q1, qP, qK, qD⟩ := q; exact ⟨q0, q1, qP, va_K.moved (u := U) (U := U.calling g mk a) (Vm.Alike.refl U.vm) qK, qD⟩, fun U hU hW => ⟨rfl, by rw [hU], by rw [hU]; exact hPc, va_K.moved hW.alike hKc, hDc.weaken (fun _ _ _ _ => trivial)⟩⟩ rfl rfl hl.1 rfl (lv_room (Nat.le_of_ble_eq_true rfl)) dX13_isName_46 ⟨Nat.le_of_ble_eq_true rfl, Nat.le_of_ble_eq_true rfl⟩) hS (fun q _ h => hFc q h) hFc ?_
            clear hS
            intro r_8 u t H1 locs ht hvm hw hB hz1 hk1 hS
            obtain ⟨⟩ := u
            obtain ⟨hP1, hK1, hD1⟩ := hB
            rw [ht] at hP1
            have hK1 := va_K.moved hvm.symm hK1
            try dsimp only at hw
            have hPD := va_join (wr := [(qa1, .inl (ca1, na1, .inl fa1))]) (w1 := []) hP hD [] [0] rfl rfl (by decide) (by decide) hk1 hFc hP1 hD1
            clear hP hD
            obtain ⟨hP, hD⟩ := hPD
            replace hK := (hK.sub (tys' := [(ca1, .int)]) [0] rfl).app hK1
            clear hPc hDc hKc hFc hP1 hK1 hD1 hz1 hk1 ht hvm
            generalize H1 = H at hP hS ⊢
            replace hP : va_P (dC, dI) vwCl [(qa1, .inl (ca1, na1, .inl fa1))] H := hP
            replace hD : va_D A [(qa1, .inl (ca1, na1, .inl fa1))] := hD
            replace hK : va_K (dC, dI) vwCl [(ca1, .int)] s := hK
            obtain ⟨rfl, hz_2⟩ := hw
            rcases hz_2 with rfl | rfl
            · rw [if_pos rfl] at hsp
              refine lv_istore_n (lv' := [(3, .int 0), (4, .int l4_20), (0, .ref qa1), (1, .int l1_20), (2, .int l2_20)]) hx hb dX13_isName_49 rfl hl (by decide) rfl (fun ls hl => ?_)
              refine lv_iinc (v := (l4_20 + 1)) (lv' := [(4, .int (l4_20 + 1)), (3, .int 0), (0, .ref qa1), (1, .int l1_20), (2, .int l2_20)]) hx hb dX13_isName_50 hl (k := 1) rfl rfl (by decide) rfl (fun ls hl => ?_)
              refine lv_goto (tgt := 20) hx hb dX13_isName_53 (by decide) ?_
              exact ih_20 H locs ls l1_20 l2_20 0 (l4_20 + 1) (lv_sub hl [0, 1, 2, 3, 4] rfl) hS (hD.sub (ws' := [(qa1, .inl (ca1, na1, .inl fa1))]) [0] (by decide) rfl) (hP.sub (ws' := [(qa1, .inl (ca1, na1, .inl fa1))]) [0] rfl) hsp
            · rw [if_neg (by decide)] at hsp
              refine lv_istore_n (lv' := [(3, .int 1), (4, .int l4_20), (0, .ref qa1), (1, .int l1_20), (2, .int l2_20)]) hx hb dX13_isName_49 rfl hl (by decide) rfl (fun ls hl => ?_)
              refine lv_iinc (v := (l4_20 + 1)) (lv' := [(4, .int (l4_20 + 1)), (3, .int 1), (0, .ref qa1), (1, .int l1_20), (2, .int l2_20)]) hx hb dX13_isName_50 hl (k := 1) rfl rfl (by decide) rfl (fun ls hl => ?_)
              refine lv_goto (tgt := 20) hx hb dX13_isName_53 (by decide) ?_
              exact ih_20 H locs ls l1_20 l2_20 1 (l4_20 + 1) (lv_sub hl [0, 1, 2, 3, 4] rfl) hS (hD.sub (ws' := [(qa1, .inl (ca1, na1, .inl fa1))]) [0] (by decide) rfl) (hP.sub (ws' := [(qa1, .inl (ca1, na1, .inl fa1))]) [0] rfl) hsp
  intro hj_16
  refine jn_use (α := Heap × List Loc × Array Slot × Int32 × Int32) (fun x9 => x9.1) (fun x9 => x9.2.1) (fun x9 => F0 m 15 x9.2.2.1 []) (fun x9 => match x9 with | (H, locs, ls, l1_15, l2_15) => lv_has ls 5 [(0, .ref qa1), (1, .int l1_15), (2, .int l2_15)] ∧ va_S A s.heap H locs ∧ va_D A [(qa1, .inl (ca1, na1, .inl fa1))] ∧ va_P (dC, dI) vwCl [(qa1, .inl (ca1, na1, .inl fa1))] H ∧ jn_vm_isName_15 nf a2 a3 na1 fa1 l1_15 l2_15 = some r0) ?_ ?_
  · intro x9 hJ9
    obtain ⟨H, locs, ls, l1_15, l2_15⟩ := x9
    obtain ⟨hl, hS, hD, hP, hsp⟩ := hJ9
    replace hl : lv_has ls 5 [(0, .ref qa1), (1, .int l1_15), (2, .int l2_15)] := hl
    replace hS : va_S A s.heap H locs := hS
    replace hD : va_D A [(qa1, .inl (ca1, na1, .inl fa1))] := hD
    replace hP : va_P (dC, dI) vwCl [(qa1, .inl (ca1, na1, .inl fa1))] H := hP
    replace hsp : jn_vm_isName_15 nf a2 a3 na1 fa1 l1_15 l2_15 = some r0 := hsp
    show W _ _ _ _ _ _ _ _ _ _ H locs _ _ _ (F0 m 15 ls [])
    unfold jn_vm_isName_15 at hsp
    try dsimp only at hsp
    refine lv_iconst (v := 0) hx hb dX13_isName_15 (by decide) ?_
    exact hj_16 (H, locs, ls, l1_15, l2_15, 0) ⟨lv_sub hl [0, 1, 2] rfl, hS, hD.sub (ws' := [(qa1, .inl (ca1, na1, .inl fa1))]) [0] (by decide) rfl, hP.sub (ws' := [(qa1, .inl (ca1, na1, .inl fa1))]) [0] rfl, hsp⟩
  intro hj_15
  refine lv_iload_n hx hb dX13_isName_0 rfl (lv_at hl 2 rfl) ?_
  refine lv_iconst (v := 1) hx hb dX13_isName_1 (by decide) ?_
  refine lv_icmp_lt (tgt := 15) hx hb dX13_isName_2 (by decide) (fun c_1 => ?_) (fun c_1 => ?_)
  · rw [if_pos c_1] at hsp
    exact hj_15 (H, locs, ls, a2, a3) ⟨lv_sub hl [0, 1, 2] rfl, hS, hD.sub (ws' := [(qa1, .inl (ca1, na1, .inl fa1))]) [0] (by decide) rfl, hP.sub (ws' := [(qa1, .inl (ca1, na1, .inl fa1))]) [0] rfl, hsp⟩
  · rw [if_neg c_1] at hsp
    refine lv_iload_n hx hb dX13_isName_5 rfl (lv_at hl 2 rfl) ?_
    refine lv_bipush (v := 12) hx hb dX13_isName_6 (by decide) ?_
    refine lv_icmp_gt (tgt := 15) hx hb dX13_isName_8 (by decide) (fun c_2 => ?_) (fun c_2 => ?_)
    · rw [if_pos c_2] at hsp
      exact hj_15 (H, locs, ls, a2, a3) ⟨lv_sub hl [0, 1, 2] rfl, hS, hD.sub (ws' := [(qa1, .inl (ca1, na1, .inl fa1))]) [0] (by decide) rfl, hP.sub (ws' := [(qa1, .inl (ca1, na1, .inl fa1))]) [0] rfl, hsp⟩
    · rw [if_neg c_2] at hsp
      refine lv_iconst (v := 1) hx hb dX13_isName_11 (by decide) ?_
      refine lv_goto (tgt := 16) hx hb dX13_isName_12 (by decide) ?_
      exact hj_16 (H, locs, ls, a2, a3, 1) ⟨lv_sub hl [0, 1, 2] rfl, hS, hD.sub (ws' := [(qa1, .inl (ca1, na1, .inl fa1))]) [0] (by decide) rfl, hP.sub (ws' := [(qa1, .inl (ca1, na1, .inl fa1))]) [0] rfl, hsp⟩
def jn_vm_kindBytes_93 (nf : Nat) (a2 : Int32) (a3 : Int32) (na1 : Nat) (fa1 : Nat → Int32)  (l1_93 : Int32) (l2_93 : Int32) (l3_93 : Int32) (l4_93 : Int32) : Option (Int32) := (if l2_93 ≤ l4_93 then (some 0) else ((sp_vm_isName nf (l3_93 + 1) ((l4_93 - l3_93) - 1) na1 fa1).bind (fun p1 => (if p1 = 0 then (some 0) else (some ((l4_93 + 1) - l1_93))))))
def lp_vm_kindBytes_72 (nf n : Nat) (a2 : Int32) (a3 : Int32) (na1 : Nat) (fa1 : Nat → Int32)  (l1_72 : Int32) (l2_72 : Int32) (l3_72 : Int32) (l4_72 : Int32) : Option (Int32) := match n with
  | 0 => none
  | n + 1 => (if l2_72 ≤ l4_72 then (jn_vm_kindBytes_93 nf a2 a3 na1 fa1  l1_72 l2_72 l3_72 l4_72) else (if l4_72 < 0 then none else if na1 ≤ (l4_72 : Int32).toNatClampNeg then none else (if (fa1 (l4_72 : Int32).toNatClampNeg) = 59 then (jn_vm_kindBytes_93 nf a2 a3 na1 fa1  l1_72 l2_72 l3_72 l4_72) else (lp_vm_kindBytes_72 nf n a2 a3 na1 fa1 l1_72 l2_72 l3_72 (l4_72 + 1)))))
def jn_vm_kindBytes_52 (nf : Nat) (a2 : Int32) (a3 : Int32) (na1 : Nat) (fa1 : Nat → Int32)  (l1_52 : Int32) (l2_52 : Int32) (l3_52 : Int32) : Option (Int32) := (if l2_52 ≤ l3_52 then (some 0) else (if l3_52 < 0 then none else if na1 ≤ (l3_52 : Int32).toNatClampNeg then none else (if (fa1 (l3_52 : Int32).toNatClampNeg) = 76 then (lp_vm_kindBytes_72 nf nf a2 a3 na1 fa1  l1_52 l2_52 l3_52 (l3_52 + 1)) else (some 0))))
def jn_vm_kindBytes_33 (nf : Nat) (a2 : Int32) (a3 : Int32) (na1 : Nat) (fa1 : Nat → Int32)  (l1_33 : Int32) (l2_33 : Int32) (l3_33 : Int32) : Option (Int32) := (if l2_33 ≤ l3_33 then (jn_vm_kindBytes_52 nf a2 a3 na1 fa1  l1_33 l2_33 l3_33) else (if l3_33 < 0 then none else if na1 ≤ (l3_33 : Int32).toNatClampNeg then none else (if (fa1 (l3_33 : Int32).toNatClampNeg) = 73 then (some ((l3_33 + 1) - l1_33)) else (jn_vm_kindBytes_52 nf a2 a3 na1 fa1  l1_33 l2_33 l3_33))))
def jn_vm_kindBytes_17 (nf : Nat) (a2 : Int32) (a3 : Int32) (na1 : Nat) (fa1 : Nat → Int32)  (l1_17 : Int32) (l2_17 : Int32) (l3_17 : Int32) : Option (Int32) := (if l2_17 ≤ l3_17 then (jn_vm_kindBytes_33 nf a2 a3 na1 fa1  l1_17 l2_17 l3_17) else (if l3_17 < 0 then none else if na1 ≤ (l3_17 : Int32).toNatClampNeg then none else (if (fa1 (l3_17 : Int32).toNatClampNeg) = 91 then (jn_vm_kindBytes_33 nf a2 a3 na1 fa1  l1_17 l2_17 (l3_17 + 1)) else (jn_vm_kindBytes_33 nf a2 a3 na1 fa1  l1_17 l2_17 l3_17))))
def sp_vm_kindBytes (nf : Nat) (a2 : Int32) (a3 : Int32) (na1 : Nat) (fa1 : Nat → Int32) : Option (Int32) := (if a3 ≤ a2 then (jn_vm_kindBytes_17 nf a2 a3 na1 fa1  a2 a3 a2) else (if a2 < 0 then none else if na1 ≤ (a2 : Int32).toNatClampNeg then none else (if (fa1 (a2 : Int32).toNatClampNeg) = 90 then (some 1) else (jn_vm_kindBytes_17 nf a2 a3 na1 fa1  a2 a3 a2))))
set_option maxHeartbeats 4000000 in
set_option maxRecDepth 100000 in
/-- ClassMillModel.kindBytes -/
theorem vm_kindBytes (l : Launch) (dC : Nat → ClassId) (dI : Nat → Nat → Nat) (sz : Nat) (qa1 : Nat) (a2 : Int32) (a3 : Int32) (ca1 : ClassId) (na1 : Nat) (fa1 : (Nat → Int32)) (nf : Nat) (r0 : Int32) (hsp : sp_vm_kindBytes nf a2 a3 na1 fa1 = some r0) : Met l yX13_kindBytes (.code yX13_kindBytes cX13_kindBytes 5 (some .int) :: VS_h9) ({ frames := 3, cells := 0, slots := 0, locals := 65 }) (va_Pc [.ref qa1, .int a2, .int a3] (fun U => U.heap.size = sz ∧ va_P (dC, dI) vwCl [(qa1, .inl (ca1, na1, .inl fa1))] U.heap ∧ va_K (dC, dI) vwCl [(ca1, .int)] U ∧ va_D (fun _ => True) [(qa1, .inl (ca1, na1, .inl fa1))])) (va_Qi (fun (r : Int32) (u : Unit) => match u with | () => r0 = r) (fun (u : Unit) (t : State) => match u with | () => va_P (dC, dI) vwCl [(qa1, .inl (ca1, na1, .inl fa1))] t.heap ∧ va_K (dC, dI) vwCl [(ca1, .int)] t ∧ va_D (va_A [(qa1, .inl (ca1, na1, .inl fa1))] sz) [(qa1, .inl (ca1, na1, .inl fa1))]) (va_A [(qa1, .inl (ca1, na1, .inl fa1))] sz)) 0 0 (va_A [(qa1, .inl (ca1, na1, .inl fa1))] sz) := by
  refine Met.ofW (cc := cX13_kindBytes) (maxL := 5) (ret := (some .int)) (by decide) rfl ?_
  intro p e s m args below meth c s₁ B hml hv
  obtain ⟨rfl, hsz, hP, hK, hD0⟩ := hv
  have hx := B.exec
  have hb := B.bytes
  have hr := B.returns
  have hts := atoms_spec (ws := (.code yX13_kindBytes cX13_kindBytes 5 (some .int) :: VS_h9)) B.pre
  replace hts := fun w (h : w ∈ VS_h9) => hts w (List.mem_cons_of_mem _ h)
  have hown : s.vm.findClass RX13 = some m.cls := findClass_of_methodNamed B.named
  have hlocks := B.notSynchronized
  subst hsz
  have hD := hD0.self (sz := s.heap.size)
  generalize hAe : va_A [(qa1, .inl (ca1, na1, .inl fa1))] s.heap.size = A at hD  ⊢
  have hA : ∀ q : Nat, s.heap.size ≤ q → A q := fun q h => by rw [← hAe]; exact Or.inr h
  have hP : va_P (dC, dI) vwCl [(qa1, .inl (ca1, na1, .inl fa1))] s.heap := hP
  have hl := lv_entry ([.ref qa1, .int a2, .int a3]) (n := 5) (Nat.le_of_ble_eq_true rfl)
  rw [lg_entry_eq]
  generalize (lg_sl ([.ref qa1, .int a2, .int a3]) ++ List.replicate (5 - (lg_sl ([.ref qa1, .int a2, .int a3])).length) Slot.unset).toArray = ls at hl ⊢
  have hl : lv_has ls 5 [(0, .ref qa1), (1, .int a2), (2, .int a3)] := hl
  obtain ⟨H, hH⟩ : ∃ H : Heap, s.heap = H := ⟨_, rfl⟩
  rw [hH] at hP ⊢
  have hS : va_S A s.heap H [] := by rw [← hH]; exact va_S.rf
  obtain ⟨locs, hlo⟩ : ∃ locs : List Loc, locs = [] := ⟨_, rfl⟩
  rw [← hlo] at hS ⊢
  unfold sp_vm_kindBytes at hsp
  refine jn_use (α := Heap × List Loc × Array Slot × Int32 × Int32 × Int32 × Int32) (fun x9 => x9.1) (fun x9 => x9.2.1) (fun x9 => F0 m 93 x9.2.2.1 []) (fun x9 => match x9 with | (H, locs, ls, l1_93, l2_93, l3_93, l4_93) => lv_has ls 5 [(0, .ref qa1), (1, .int l1_93), (2, .int l2_93), (3, .int l3_93), (4, .int l4_93)] ∧ va_S A s.heap H locs ∧ va_D A [(qa1, .inl (ca1, na1, .inl fa1))] ∧ va_P (dC, dI) vwCl [(qa1, .inl (ca1, na1, .inl fa1))] H ∧ jn_vm_kindBytes_93 nf a2 a3 na1 fa1 l1_93 l2_93 l3_93 l4_93 = some r0) ?_ ?_
  · intro x9 hJ9
    obtain ⟨H, locs, ls, l1_93, l2_93, l3_93, l4_93⟩ := x9
    obtain ⟨hl, hS, hD, hP, hsp⟩ := hJ9
    replace hl : lv_has ls 5 [(0, .ref qa1), (1, .int l1_93), (2, .int l2_93), (3, .int l3_93), (4, .int l4_93)] := hl
    replace hS : va_S A s.heap H locs := hS
    replace hD : va_D A [(qa1, .inl (ca1, na1, .inl fa1))] := hD
    replace hP : va_P (dC, dI) vwCl [(qa1, .inl (ca1, na1, .inl fa1))] H := hP
    replace hsp : jn_vm_kindBytes_93 nf a2 a3 na1 fa1 l1_93 l2_93 l3_93 l4_93 = some r0 := hsp
    show W _ _ _ _ _ _ _ _ _ _ H locs _ _ _ (F0 m 93 ls [])
    unfold jn_vm_kindBytes_93 at hsp
    try dsimp only at hsp
    refine lv_iload hx hb dX13_kindBytes_93 (lv_at hl 4 rfl) ?_
    refine lv_iload_n hx hb dX13_kindBytes_95 rfl (lv_at hl 2 rfl) ?_
    refine lv_icmp_ge (tgt := 124) hx hb dX13_kindBytes_96 (by decide) (fun c_16 => ?_) (fun c_16 => ?_)
    · rw [if_pos c_16] at hsp
      refine lv_iconst (v := 0) hx hb dX13_kindBytes_124 (by decide) ?_
      have hr0 := Option.some.inj hsp
      clear hsp
      subst hr0
      have hP9 := hP.sub (ws' := [(qa1, .inl (ca1, na1, .inl fa1))]) [0] rfl
      have hD9 := hD.sub (ws' := [(qa1, .inl (ca1, na1, .inl fa1))]) [0] (by decide) rfl
      have hK9 := hK.sub (tys' := [(ca1, .int)]) [0] rfl
      exact W.iret hx hb hr (fun t ht hW => ⟨⟨(0), (), rfl, rfl, by rw [ht]; exact hP9, va_K.moved hW.alike hK9, hD9⟩, hS.F ht⟩) hS.2.2 dX13_kindBytes_125
    · rw [if_neg c_16] at hsp
      refine lv_aload_n hx hb dX13_kindBytes_99 rfl (lv_at hl 0 rfl) ?_
      refine lv_iload_n hx hb dX13_kindBytes_100 rfl (lv_at hl 3 rfl) ?_
      refine lv_iconst (v := 1) hx hb dX13_kindBytes_101 (by decide) ?_
      refine lv_iadd hx hb dX13_kindBytes_102 ?_
      refine lv_iload hx hb dX13_kindBytes_103 (lv_at hl 4 rfl) ?_
      refine lv_iload_n hx hb dX13_kindBytes_105 rfl (lv_at hl 3 rfl) ?_
      refine lv_isub hx hb dX13_kindBytes_106 ?_
      refine lv_iconst (v := 1) hx hb dX13_kindBytes_107 (by decide) ?_
      refine lv_isub hx hb dX13_kindBytes_108 ?_
      obtain ⟨u1_0, hu_1, hsp⟩ := ox_bind hsp
      try dsimp only at hsp
      have hPc := hP.sub (ws' := [(qa1, .inl (ca1, na1, .inl fa1))]) [0] rfl
      have hDc := hD.sub (ws' := [(qa1, .inl (ca1, na1, .inl fa1))]) [0] (by decide) rfl
      have hKc := hK.sub (tys' := [(ca1, .int)]) [0] rfl
      have hFc := va_free (wc := [(qa1, .inl (ca1, na1, .inl fa1))]) hD hS hA [0] rfl
      refine va_calli (va_runS (As := [.ref qa1, .int (l3_93 + 1), .int ((l4_93 - l3_93) - 1)]) (rest := []) ⟨hx, hb, hml, hown, hts⟩ (vm_isName l dC dI H.size qa1 ((l3_93 + 1)) (((l4_93 - l3_93) - 1)) ca1 na1 fa1 nf u1_0 hu_1) (va_cwS 3 hts gv_h9_40 rfl rfl rfl (by decide +kernel) ⟨Nat.le_of_ble_eq_true rfl, Nat.le_of_ble_eq_true rfl⟩) ⟨fun a U g mk q => by obtain ⟨q0, q1, qP, qK, qD⟩ := q; exact ⟨q0, q1, qP, va_K.moved (u := U) (U := U.calling g mk a) (Vm.Alike.refl U.vm) qK, qD⟩, fun U hU hW => ⟨rfl, by rw [hU], by rw [hU]; exact hPc, va_K.moved hW.alike hKc, hDc.weaken (fun _ _ _ _ => trivial)⟩⟩ rfl rfl hl.1 rfl (lv_room (Nat.le_of_ble_eq_true rfl)) dX13_kindBytes_109 ⟨Nat.le_of_ble_eq_true rfl, Nat.le_of_ble_eq_true rfl⟩) hS (fun q _ h => hFc q h) hFc ?_
      clear hS
      intro r_17 u t H1 locs ht hvm hw hB hz1 hk1 hS
      obtain ⟨⟩ := u
      obtain ⟨hP1, hK1, hD1⟩ := hB
      rw [ht] at hP1
      have hK1 := va_K.moved hvm.symm hK1
      try dsimp only at hw
      have hPD := va_join (wr := []) (w1 := [(qa1, .inl (ca1, na1, .inl fa1))]) hP hD [0] [] rfl rfl (by decide) (by decide) hk1 hFc hP1 hD1
      clear hP hD
      obtain ⟨hP, hD⟩ := hPD
      replace hK := (hK.sub (tys' := []) [] rfl).app hK1
      clear hPc hDc hKc hFc hP1 hK1 hD1 hz1 hk1 ht hvm
      generalize H1 = H at hP hS ⊢
      replace hP : va_P (dC, dI) vwCl [(qa1, .inl (ca1, na1, .inl fa1))] H := hP
      replace hD : va_D A [(qa1, .inl (ca1, na1, .inl fa1))] := hD
      replace hK : va_K (dC, dI) vwCl [(ca1, .int)] s := hK
      obtain ⟨rfl, hz_1⟩ := hw
      rcases hz_1 with rfl | rfl
      · rw [if_pos rfl] at hsp
        refine lv_if_eq (tgt := 124) hx hb dX13_kindBytes_112 (by decide) (fun c_18 => ?_) (fun c_18 => (show False by revert c_18; decide).elim)
        refine lv_iconst (v := 0) hx hb dX13_kindBytes_124 (by decide) ?_
        have hr0 := Option.some.inj hsp
        clear hsp
        subst hr0
        have hP9 := hP.sub (ws' := [(qa1, .inl (ca1, na1, .inl fa1))]) [0] rfl
        have hD9 := hD.sub (ws' := [(qa1, .inl (ca1, na1, .inl fa1))]) [0] (by decide) rfl
        have hK9 := hK.sub (tys' := [(ca1, .int)]) [0] rfl
        exact W.iret hx hb hr (fun t ht hW => ⟨⟨(0), (), rfl, rfl, by rw [ht]; exact hP9, va_K.moved hW.alike hK9, hD9⟩, hS.F ht⟩) hS.2.2 dX13_kindBytes_125
      · rw [if_neg (by decide)] at hsp
        refine lv_if_eq (tgt := 124) hx hb dX13_kindBytes_112 (by decide) (fun c_19 => (show False by revert c_19; decide).elim) (fun c_19 => ?_)
        refine lv_iload hx hb dX13_kindBytes_115 (lv_at hl 4 rfl) ?_
        refine lv_iconst (v := 1) hx hb dX13_kindBytes_117 (by decide) ?_
        refine lv_iadd hx hb dX13_kindBytes_118 ?_
        refine lv_iload_n hx hb dX13_kindBytes_119 rfl (lv_at hl 1 rfl) ?_
        refine lv_isub hx hb dX13_kindBytes_120 ?_
        refine lv_goto (tgt := 125) hx hb dX13_kindBytes_121 (by decide) ?_
        have hr0 := Option.some.inj hsp
        clear hsp
        subst hr0
        have hP9 := hP.sub (ws' := [(qa1, .inl (ca1, na1, .inl fa1))]) [0] rfl
        have hD9 := hD.sub (ws' := [(qa1, .inl (ca1, na1, .inl fa1))]) [0] (by decide) rfl
        have hK9 := hK.sub (tys' := [(ca1, .int)]) [0] rfl
        exact W.iret hx hb hr (fun t ht hW => ⟨⟨(((l4_93 + 1) - l1_93)), (), rfl, rfl, by rw [ht]; exact hP9, va_K.moved hW.alike hK9, hD9⟩, hS.F ht⟩) hS.2.2 dX13_kindBytes_125
  intro hj_93
  refine jn_use (α := Heap × List Loc × Array Slot × Int32 × Int32 × Int32) (fun x9 => x9.1) (fun x9 => x9.2.1) (fun x9 => F0 m 52 x9.2.2.1 []) (fun x9 => match x9 with | (H, locs, ls, l1_52, l2_52, l3_52) => lv_has ls 5 [(0, .ref qa1), (1, .int l1_52), (2, .int l2_52), (3, .int l3_52)] ∧ va_S A s.heap H locs ∧ va_D A [(qa1, .inl (ca1, na1, .inl fa1))] ∧ va_P (dC, dI) vwCl [(qa1, .inl (ca1, na1, .inl fa1))] H ∧ jn_vm_kindBytes_52 nf a2 a3 na1 fa1 l1_52 l2_52 l3_52 = some r0) ?_ ?_
  · intro x9 hJ9
    obtain ⟨H, locs, ls, l1_52, l2_52, l3_52⟩ := x9
    obtain ⟨hl, hS, hD, hP, hsp⟩ := hJ9
    replace hl : lv_has ls 5 [(0, .ref qa1), (1, .int l1_52), (2, .int l2_52), (3, .int l3_52)] := hl
    replace hS : va_S A s.heap H locs := hS
    replace hD : va_D A [(qa1, .inl (ca1, na1, .inl fa1))] := hD
    replace hP : va_P (dC, dI) vwCl [(qa1, .inl (ca1, na1, .inl fa1))] H := hP
    replace hsp : jn_vm_kindBytes_52 nf a2 a3 na1 fa1 l1_52 l2_52 l3_52 = some r0 := hsp
    show W _ _ _ _ _ _ _ _ _ _ H locs _ _ _ (F0 m 52 ls [])
    unfold jn_vm_kindBytes_52 at hsp
    try dsimp only at hsp
    refine lv_iload_n hx hb dX13_kindBytes_52 rfl (lv_at hl 3 rfl) ?_
    refine lv_iload_n hx hb dX13_kindBytes_53 rfl (lv_at hl 2 rfl) ?_
    refine lv_icmp_ge (tgt := 65) hx hb dX13_kindBytes_54 (by decide) (fun c_10 => ?_) (fun c_10 => ?_)
    · rw [if_pos c_10] at hsp
      refine lv_iconst (v := 0) hx hb dX13_kindBytes_65 (by decide) ?_
      have hr0 := Option.some.inj hsp
      clear hsp
      subst hr0
      have hP9 := hP.sub (ws' := [(qa1, .inl (ca1, na1, .inl fa1))]) [0] rfl
      have hD9 := hD.sub (ws' := [(qa1, .inl (ca1, na1, .inl fa1))]) [0] (by decide) rfl
      have hK9 := hK.sub (tys' := [(ca1, .int)]) [0] rfl
      exact W.iret hx hb hr (fun t ht hW => ⟨⟨(0), (), rfl, rfl, by rw [ht]; exact hP9, va_K.moved hW.alike hK9, hD9⟩, hS.F ht⟩) hS.2.2 dX13_kindBytes_66
    · rw [if_neg c_10] at hsp
      refine lv_aload_n hx hb dX13_kindBytes_57 rfl (lv_at hl 0 rfl) ?_
      refine lv_iload_n hx hb dX13_kindBytes_58 rfl (lv_at hl 3 rfl) ?_
      obtain ⟨hi_11, hsp⟩ := ox_in hsp
      refine va_iald hx hb hK hP 0 0 rfl rfl (i := l3_52) hi_11 dX13_kindBytes_59 ?_
      refine lv_bipush (v := 76) hx hb dX13_kindBytes_60 (by decide) ?_
      refine lv_icmp_eq (tgt := 67) hx hb dX13_kindBytes_62 (by decide) (fun c_12 => ?_) (fun c_12 => ?_)
      · rw [if_pos c_12] at hsp
        refine lv_iload_n hx hb dX13_kindBytes_67 rfl (lv_at hl 3 rfl) ?_
        refine lv_iconst (v := 1) hx hb dX13_kindBytes_68 (by decide) ?_
        refine lv_iadd hx hb dX13_kindBytes_69 ?_
        refine lv_istore (lv' := [(4, .int (l3_52 + 1)), (0, .ref qa1), (1, .int l1_52), (2, .int l2_52), (3, .int l3_52)]) hx hb dX13_kindBytes_70 hl (by decide) rfl (fun ls hl => ?_)
        replace hl : lv_has ls 5 [(4, .int (l3_52 + 1)), (0, .ref qa1), (1, .int l1_52), (2, .int l2_52), (3, .int l3_52)] := lv_sub hl [0, 1, 2, 3, 4] rfl
        replace hP := hP.sub (ws' := [(qa1, .inl (ca1, na1, .inl fa1))]) [0] rfl
        replace hD := hD.sub (ws' := [(qa1, .inl (ca1, na1, .inl fa1))]) [0] (by decide) rfl
        replace hK := hK.sub (tys' := [(ca1, .int)]) [0] rfl
        obtain ⟨n_72, hn_72⟩ : ∃ z : Nat, z = nf := ⟨_, rfl⟩
        obtain ⟨l1_72, el1_72⟩ : ∃ z : Int32, z = l1_52 := ⟨_, rfl⟩
        obtain ⟨l2_72, el2_72⟩ : ∃ z : Int32, z = l2_52 := ⟨_, rfl⟩
        obtain ⟨l3_72, el3_72⟩ : ∃ z : Int32, z = l3_52 := ⟨_, rfl⟩
        obtain ⟨l4_72, el4_72⟩ : ∃ z : Int32, z = (l3_52 + 1) := ⟨_, rfl⟩
        replace hsp : lp_vm_kindBytes_72 nf n_72 a2 a3 na1 fa1 l1_72 l2_72 l3_72 l4_72 = some r0 := by rw [hn_72, el1_72, el2_72, el3_72, el4_72]; exact hsp
        replace hl : lv_has ls 5 [(4, .int l4_72), (0, .ref qa1), (1, .int l1_72), (2, .int l2_72), (3, .int l3_72)] := by rw [el1_72, el2_72, el3_72, el4_72]; exact hl
        clear hn_72 el1_72 el2_72 el3_72 el4_72
        try clear hlo
        try clear hH
        revert hsp
        revert hP
        revert hD
        revert hS
        revert hl
        revert l4_72
        revert l3_72
        revert l2_72
        revert l1_72
        revert ls
        revert locs
        revert H
        induction n_72 with
        | zero => intro H locs ls l1_72 l2_72 l3_72 l4_72  hl hS hD hP hsp; unfold lp_vm_kindBytes_72 at hsp; cases hsp
        | succ n_72 ih_72 =>
          intro H locs ls l1_72 l2_72 l3_72 l4_72  hl hS hD hP hsp
          unfold lp_vm_kindBytes_72 at hsp
          try dsimp only at hsp
          refine lv_iload hx hb dX13_kindBytes_72 (lv_at hl 0 rfl) ?_
          refine lv_iload_n hx hb dX13_kindBytes_74 rfl (lv_at hl 3 rfl) ?_
          refine lv_icmp_ge (tgt := 93) hx hb dX13_kindBytes_75 (by decide) (fun c_13 => ?_) (fun c_13 => ?_)
          · rw [if_pos c_13] at hsp
            exact hj_93 (H, locs, ls, l1_72, l2_72, l3_72, l4_72) ⟨lv_sub hl [1, 2, 3, 4, 0] rfl, hS, hD.sub (ws' := [(qa1, .inl (ca1, na1, .inl fa1))]) [0] (by decide) rfl, hP.sub (ws' := [(qa1, .inl (ca1, na1, .inl fa1))]) [0] rfl, hsp⟩
          · rw [if_neg c_13] at hsp
            refine lv_aload_n hx hb dX13_kindBytes_78 rfl (lv_at hl 1 rfl) ?_
            refine lv_iload hx hb dX13_kindBytes_79 (lv_at hl 0 rfl) ?_
            obtain ⟨hi_14, hsp⟩ := ox_in hsp
            refine va_iald hx hb hK hP 0 0 rfl rfl (i := l4_72) hi_14 dX13_kindBytes_81 ?_
            refine lv_bipush (v := 59) hx hb dX13_kindBytes_82 (by decide) ?_
            refine lv_icmp_eq (tgt := 93) hx hb dX13_kindBytes_84 (by decide) (fun c_15 => ?_) (fun c_15 => ?_)
            · rw [if_pos c_15] at hsp
              exact hj_93 (H, locs, ls, l1_72, l2_72, l3_72, l4_72) ⟨lv_sub hl [1, 2, 3, 4, 0] rfl, hS, hD.sub (ws' := [(qa1, .inl (ca1, na1, .inl fa1))]) [0] (by decide) rfl, hP.sub (ws' := [(qa1, .inl (ca1, na1, .inl fa1))]) [0] rfl, hsp⟩
            · rw [if_neg c_15] at hsp
              refine lv_iinc (v := (l4_72 + 1)) (lv' := [(4, .int (l4_72 + 1)), (0, .ref qa1), (1, .int l1_72), (2, .int l2_72), (3, .int l3_72)]) hx hb dX13_kindBytes_87 hl (k := 0) rfl rfl (by decide) rfl (fun ls hl => ?_)
              refine lv_goto (tgt := 72) hx hb dX13_kindBytes_90 (by decide) ?_
              exact ih_72 H locs ls l1_72 l2_72 l3_72 (l4_72 + 1) (lv_sub hl [0, 1, 2, 3, 4] rfl) hS (hD.sub (ws' := [(qa1, .inl (ca1, na1, .inl fa1))]) [0] (by decide) rfl) (hP.sub (ws' := [(qa1, .inl (ca1, na1, .inl fa1))]) [0] rfl) hsp
      · rw [if_neg c_12] at hsp
        refine lv_iconst (v := 0) hx hb dX13_kindBytes_65 (by decide) ?_
        have hr0 := Option.some.inj hsp
        clear hsp
        subst hr0
        have hP9 := hP.sub (ws' := [(qa1, .inl (ca1, na1, .inl fa1))]) [0] rfl
        have hD9 := hD.sub (ws' := [(qa1, .inl (ca1, na1, .inl fa1))]) [0] (by decide) rfl
        have hK9 := hK.sub (tys' := [(ca1, .int)]) [0] rfl
        exact W.iret hx hb hr (fun t ht hW => ⟨⟨(0), (), rfl, rfl, by rw [ht]; exact hP9, va_K.moved hW.alike hK9, hD9⟩, hS.F ht⟩) hS.2.2 dX13_kindBytes_66
  intro hj_52
  refine jn_use (α := Heap × List Loc × Array Slot × Int32 × Int32 × Int32) (fun x9 => x9.1) (fun x9 => x9.2.1) (fun x9 => F0 m 33 x9.2.2.1 []) (fun x9 => match x9 with | (H, locs, ls, l1_33, l2_33, l3_33) => lv_has ls 5 [(0, .ref qa1), (1, .int l1_33), (2, .int l2_33), (3, .int l3_33)] ∧ va_S A s.heap H locs ∧ va_D A [(qa1, .inl (ca1, na1, .inl fa1))] ∧ va_P (dC, dI) vwCl [(qa1, .inl (ca1, na1, .inl fa1))] H ∧ jn_vm_kindBytes_33 nf a2 a3 na1 fa1 l1_33 l2_33 l3_33 = some r0) ?_ ?_
  · intro x9 hJ9
    obtain ⟨H, locs, ls, l1_33, l2_33, l3_33⟩ := x9
    obtain ⟨hl, hS, hD, hP, hsp⟩ := hJ9
    replace hl : lv_has ls 5 [(0, .ref qa1), (1, .int l1_33), (2, .int l2_33), (3, .int l3_33)] := hl
    replace hS : va_S A s.heap H locs := hS
    replace hD : va_D A [(qa1, .inl (ca1, na1, .inl fa1))] := hD
    replace hP : va_P (dC, dI) vwCl [(qa1, .inl (ca1, na1, .inl fa1))] H := hP
    replace hsp : jn_vm_kindBytes_33 nf a2 a3 na1 fa1 l1_33 l2_33 l3_33 = some r0 := hsp
    show W _ _ _ _ _ _ _ _ _ _ H locs _ _ _ (F0 m 33 ls [])
    unfold jn_vm_kindBytes_33 at hsp
    try dsimp only at hsp
    refine lv_iload_n hx hb dX13_kindBytes_33 rfl (lv_at hl 3 rfl) ?_
    refine lv_iload_n hx hb dX13_kindBytes_34 rfl (lv_at hl 2 rfl) ?_
    refine lv_icmp_ge (tgt := 52) hx hb dX13_kindBytes_35 (by decide) (fun c_7 => ?_) (fun c_7 => ?_)
    · rw [if_pos c_7] at hsp
      exact hj_52 (H, locs, ls, l1_33, l2_33, l3_33) ⟨lv_sub hl [0, 1, 2, 3] rfl, hS, hD.sub (ws' := [(qa1, .inl (ca1, na1, .inl fa1))]) [0] (by decide) rfl, hP.sub (ws' := [(qa1, .inl (ca1, na1, .inl fa1))]) [0] rfl, hsp⟩
    · rw [if_neg c_7] at hsp
      refine lv_aload_n hx hb dX13_kindBytes_38 rfl (lv_at hl 0 rfl) ?_
      refine lv_iload_n hx hb dX13_kindBytes_39 rfl (lv_at hl 3 rfl) ?_
      obtain ⟨hi_8, hsp⟩ := ox_in hsp
      refine va_iald hx hb hK hP 0 0 rfl rfl (i := l3_33) hi_8 dX13_kindBytes_40 ?_
      refine lv_bipush (v := 73) hx hb dX13_kindBytes_41 (by decide) ?_
      refine lv_icmp_ne (tgt := 52) hx hb dX13_kindBytes_43 (by decide) (fun c_9 => ?_) (fun c_9 => ?_)
      · rw [if_neg c_9] at hsp
        exact hj_52 (H, locs, ls, l1_33, l2_33, l3_33) ⟨lv_sub hl [0, 1, 2, 3] rfl, hS, hD.sub (ws' := [(qa1, .inl (ca1, na1, .inl fa1))]) [0] (by decide) rfl, hP.sub (ws' := [(qa1, .inl (ca1, na1, .inl fa1))]) [0] rfl, hsp⟩
      · rw [if_pos c_9] at hsp
        refine lv_iload_n hx hb dX13_kindBytes_46 rfl (lv_at hl 3 rfl) ?_
        refine lv_iconst (v := 1) hx hb dX13_kindBytes_47 (by decide) ?_
        refine lv_iadd hx hb dX13_kindBytes_48 ?_
        refine lv_iload_n hx hb dX13_kindBytes_49 rfl (lv_at hl 1 rfl) ?_
        refine lv_isub hx hb dX13_kindBytes_50 ?_
        have hr0 := Option.some.inj hsp
        clear hsp
        subst hr0
        have hP9 := hP.sub (ws' := [(qa1, .inl (ca1, na1, .inl fa1))]) [0] rfl
        have hD9 := hD.sub (ws' := [(qa1, .inl (ca1, na1, .inl fa1))]) [0] (by decide) rfl
        have hK9 := hK.sub (tys' := [(ca1, .int)]) [0] rfl
        exact W.iret hx hb hr (fun t ht hW => ⟨⟨(((l3_33 + 1) - l1_33)), (), rfl, rfl, by rw [ht]; exact hP9, va_K.moved hW.alike hK9, hD9⟩, hS.F ht⟩) hS.2.2 dX13_kindBytes_51
  intro hj_33
  refine jn_use (α := Heap × List Loc × Array Slot × Int32 × Int32 × Int32) (fun x9 => x9.1) (fun x9 => x9.2.1) (fun x9 => F0 m 17 x9.2.2.1 []) (fun x9 => match x9 with | (H, locs, ls, l1_17, l2_17, l3_17) => lv_has ls 5 [(0, .ref qa1), (1, .int l1_17), (2, .int l2_17), (3, .int l3_17)] ∧ va_S A s.heap H locs ∧ va_D A [(qa1, .inl (ca1, na1, .inl fa1))] ∧ va_P (dC, dI) vwCl [(qa1, .inl (ca1, na1, .inl fa1))] H ∧ jn_vm_kindBytes_17 nf a2 a3 na1 fa1 l1_17 l2_17 l3_17 = some r0) ?_ ?_
  · intro x9 hJ9
    obtain ⟨H, locs, ls, l1_17, l2_17, l3_17⟩ := x9
    obtain ⟨hl, hS, hD, hP, hsp⟩ := hJ9
    replace hl : lv_has ls 5 [(0, .ref qa1), (1, .int l1_17), (2, .int l2_17), (3, .int l3_17)] := hl
    replace hS : va_S A s.heap H locs := hS
    replace hD : va_D A [(qa1, .inl (ca1, na1, .inl fa1))] := hD
    replace hP : va_P (dC, dI) vwCl [(qa1, .inl (ca1, na1, .inl fa1))] H := hP
    replace hsp : jn_vm_kindBytes_17 nf a2 a3 na1 fa1 l1_17 l2_17 l3_17 = some r0 := hsp
    show W _ _ _ _ _ _ _ _ _ _ H locs _ _ _ (F0 m 17 ls [])
    unfold jn_vm_kindBytes_17 at hsp
    try dsimp only at hsp
    refine lv_iload_n hx hb dX13_kindBytes_17 rfl (lv_at hl 3 rfl) ?_
    refine lv_iload_n hx hb dX13_kindBytes_18 rfl (lv_at hl 2 rfl) ?_
    refine lv_icmp_ge (tgt := 33) hx hb dX13_kindBytes_19 (by decide) (fun c_4 => ?_) (fun c_4 => ?_)
    · rw [if_pos c_4] at hsp
      exact hj_33 (H, locs, ls, l1_17, l2_17, l3_17) ⟨lv_sub hl [0, 1, 2, 3] rfl, hS, hD.sub (ws' := [(qa1, .inl (ca1, na1, .inl fa1))]) [0] (by decide) rfl, hP.sub (ws' := [(qa1, .inl (ca1, na1, .inl fa1))]) [0] rfl, hsp⟩
    · rw [if_neg c_4] at hsp
      refine lv_aload_n hx hb dX13_kindBytes_22 rfl (lv_at hl 0 rfl) ?_
      refine lv_iload_n hx hb dX13_kindBytes_23 rfl (lv_at hl 3 rfl) ?_
      obtain ⟨hi_5, hsp⟩ := ox_in hsp
      refine va_iald hx hb hK hP 0 0 rfl rfl (i := l3_17) hi_5 dX13_kindBytes_24 ?_
      refine lv_bipush (v := 91) hx hb dX13_kindBytes_25 (by decide) ?_
      refine lv_icmp_ne (tgt := 33) hx hb dX13_kindBytes_27 (by decide) (fun c_6 => ?_) (fun c_6 => ?_)
      · rw [if_neg c_6] at hsp
        exact hj_33 (H, locs, ls, l1_17, l2_17, l3_17) ⟨lv_sub hl [0, 1, 2, 3] rfl, hS, hD.sub (ws' := [(qa1, .inl (ca1, na1, .inl fa1))]) [0] (by decide) rfl, hP.sub (ws' := [(qa1, .inl (ca1, na1, .inl fa1))]) [0] rfl, hsp⟩
      · rw [if_pos c_6] at hsp
        refine lv_iinc (v := (l3_17 + 1)) (lv' := [(3, .int (l3_17 + 1)), (0, .ref qa1), (1, .int l1_17), (2, .int l2_17)]) hx hb dX13_kindBytes_30 hl (k := 3) rfl rfl (by decide) rfl (fun ls hl => ?_)
        exact hj_33 (H, locs, ls, l1_17, l2_17, (l3_17 + 1)) ⟨lv_sub hl [1, 2, 3, 0] rfl, hS, hD.sub (ws' := [(qa1, .inl (ca1, na1, .inl fa1))]) [0] (by decide) rfl, hP.sub (ws' := [(qa1, .inl (ca1, na1, .inl fa1))]) [0] rfl, hsp⟩
  intro hj_17
  refine lv_iload_n hx hb dX13_kindBytes_0 rfl (lv_at hl 1 rfl) ?_
  refine lv_istore_n (lv' := [(3, .int a2), (0, .ref qa1), (1, .int a2), (2, .int a3)]) hx hb dX13_kindBytes_1 rfl hl (by decide) rfl (fun ls hl => ?_)
  refine lv_iload_n hx hb dX13_kindBytes_2 rfl (lv_at hl 0 rfl) ?_
  refine lv_iload_n hx hb dX13_kindBytes_3 rfl (lv_at hl 3 rfl) ?_
  refine lv_icmp_ge (tgt := 17) hx hb dX13_kindBytes_4 (by decide) (fun c_1 => ?_) (fun c_1 => ?_)
  · rw [if_pos c_1] at hsp
    exact hj_17 (H, locs, ls, a2, a3, a2) ⟨lv_sub hl [1, 2, 3, 0] rfl, hS, hD.sub (ws' := [(qa1, .inl (ca1, na1, .inl fa1))]) [0] (by decide) rfl, hP.sub (ws' := [(qa1, .inl (ca1, na1, .inl fa1))]) [0] rfl, hsp⟩
  · rw [if_neg c_1] at hsp
    refine lv_aload_n hx hb dX13_kindBytes_7 rfl (lv_at hl 1 rfl) ?_
    refine lv_iload_n hx hb dX13_kindBytes_8 rfl (lv_at hl 0 rfl) ?_
    obtain ⟨hi_2, hsp⟩ := ox_in hsp
    refine va_iald hx hb hK hP 0 0 rfl rfl (i := a2) hi_2 dX13_kindBytes_9 ?_
    refine lv_bipush (v := 90) hx hb dX13_kindBytes_10 (by decide) ?_
    refine lv_icmp_ne (tgt := 17) hx hb dX13_kindBytes_12 (by decide) (fun c_3 => ?_) (fun c_3 => ?_)
    · rw [if_neg c_3] at hsp
      exact hj_17 (H, locs, ls, a2, a3, a2) ⟨lv_sub hl [1, 2, 3, 0] rfl, hS, hD.sub (ws' := [(qa1, .inl (ca1, na1, .inl fa1))]) [0] (by decide) rfl, hP.sub (ws' := [(qa1, .inl (ca1, na1, .inl fa1))]) [0] rfl, hsp⟩
    · rw [if_pos c_3] at hsp
      refine lv_iconst (v := 1) hx hb dX13_kindBytes_15 (by decide) ?_
      have hr0 := Option.some.inj hsp
      clear hsp
      subst hr0
      have hP9 := hP.sub (ws' := [(qa1, .inl (ca1, na1, .inl fa1))]) [0] rfl
      have hD9 := hD.sub (ws' := [(qa1, .inl (ca1, na1, .inl fa1))]) [0] (by decide) rfl
      have hK9 := hK.sub (tys' := [(ca1, .int)]) [0] rfl
      exact W.iret hx hb hr (fun t ht hW => ⟨⟨(1), (), rfl, rfl, by rw [ht]; exact hP9, va_K.moved hW.alike hK9, hD9⟩, hS.F ht⟩) hS.2.2 dX13_kindBytes_16
def sp_vm_isFieldKind (nf : Nat) (a2 : Int32) (a3 : Int32) (na1 : Nat) (fa1 : Nat → Int32) : Option (Int32) := (if a3 ≤ 0 then (some 0) else ((sp_vm_kindBytes nf a2 (a2 + a3) na1 fa1).bind (fun p1 => (if p1 = a3 then (some 1) else (some 0)))))
